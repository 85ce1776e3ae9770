def fX5_readTextProof_91 (k10 : Nat → Int32 → zS → Option zS) (l0 : Nat) (l4 : Int32) (s : zS) : Option zS :=
  k10 l0 (l4 + 1) s
set_option maxRecDepth 100000 in
set_option maxHeartbeats 4000000 in
theorem bX5_readTextProof_91 {E : zE} {k10 : Nat → Int32 → zS → Option zS} (hk10 : ∀ {l0 : Nat} {l4 : Int32} {s : zS} {q : zS}, k10 l0 l4 s = some q → Z E mX5_readTextProof 10 [(0, .ref l0), (4, .int l4)] [] s (0, 0) (zRv E mX5_readTextProof q)) {l0 : Nat} {l4 : Int32} {s : zS} {q : zS} (h : fX5_readTextProof_91 k10 l0 l4 s = some q) : Z E mX5_readTextProof 91 [(0, .ref l0), (4, .int l4)] [] s (0, 0) (zRv E mX5_readTextProof q) := by
  unfold fX5_readTextProof_91 at h
  refine z_iinc (pc := 91) (v := (l4 + 1)) (ls' := [(4, .int (l4 + 1)), (0, .ref l0)]) 1 rfl rfl dX5_readTextProof_91 (by decide) (fun _ => rfl) ?_
  refine z_goto (pc := 94) (tgt := 10) dX5_readTextProof_94 (by decide) ?_
  exact z_sub [1, 0] rfl (hk10 h)
def fX5_readTextProof_58 (k10 : Nat → Int32 → zS → Option zS) (l0 : Nat) (l4 : Int32) (l5 : Int32) (s : zS) : Option zS :=
  if l4 ≤ 300 then
    bnd (cl s 5 l0 (fX5_readRow l0 150 s)) fun q19 =>
    bnd (qR q19 5 l0 2) fun x22 =>
    bnd (cl q19 7 x22 (fX7_closeRow x22 l5 q19)) fun q25 =>
    fX5_readTextProof_91 (k10) l0 l4 q25
  else
    bnd (cl s 5 l0 (fX5_blameStepTooMany l0 l5 s)) fun q28 =>
    fX5_readTextProof_91 (k10) l0 l4 q28
set_option maxRecDepth 100000 in
set_option maxHeartbeats 4000000 in
theorem bX5_readTextProof_58 {E : zE} {k10 : Nat → Int32 → zS → Option zS} (hk10 : ∀ {l0 : Nat} {l4 : Int32} {s : zS} {q : zS}, k10 l0 l4 s = some q → Z E mX5_readTextProof 10 [(0, .ref l0), (4, .int l4)] [] s (0, 0) (zRv E mX5_readTextProof q)) {l0 : Nat} {l4 : Int32} {l5 : Int32} {s : zS} {q : zS} (h : fX5_readTextProof_58 k10 l0 l4 l5 s = some q) : Z E mX5_readTextProof 58 [(0, .ref l0), (4, .int l4), (5, .int l5)] [] s (0, 0) (zRv E mX5_readTextProof q) := by
  unfold fX5_readTextProof_58 at h
  refine z_iload (pc := 58) 1 rfl dX5_readTextProof_58 ?_
  refine z_sipush (pc := 60) (v := 300) dX5_readTextProof_60 (by decide) ?_
  refine z_icmp_le (pc := 63) (tgt := 75) dX5_readTextProof_63 (by decide) (fun hc => ?_) (fun hc => ?_)
  · replace h := ifp hc h
    refine z_aload_n (pc := 75) 0 rfl dX5_readTextProof_75 rfl ?_
    refine z_sipush (pc := 76) (v := 150) dX5_readTextProof_76 (by decide) ?_
    obtain ⟨a20, q19, e21, h⟩ := iC h
    refine y_V (pc := 79) (M2 := mX5_readRow) (As := [.int 150]) (okX5_readRow e21) mvX5_readRow mlRX5_69 dX5_readTextProof_79 ⟨by decide, by decide⟩ rfl rfl rfl zrest0 a20 ?_
    refine z_aload_n (pc := 82) 0 rfl dX5_readTextProof_82 rfl ?_
    obtain ⟨a23, x22, e24, h⟩ := iR h
    refine y_getR (pc := 83) flRX5_43 dX5_readTextProof_83 rfl a23 e24 ?_
    refine z_iload (pc := 86) 2 rfl dX5_readTextProof_86 ?_
    obtain ⟨a26, q25, e27, h⟩ := iC h
    refine y_V (pc := 88) (M2 := mX7_closeRow) (As := [.int l5]) (okX7_closeRow e27) mvX7_closeRow mlRX5_72 dX5_readTextProof_88 ⟨by decide, by decide⟩ rfl rfl rfl zrest0 a26 ?_
    exact z_sub [0, 1] rfl (bX5_readTextProof_91 (fun h => hk10 h) h)
  · replace h := ifn hc h
    refine z_aload_n (pc := 66) 0 rfl dX5_readTextProof_66 rfl ?_
    refine z_iload (pc := 67) 2 rfl dX5_readTextProof_67 ?_
    obtain ⟨a29, q28, e30, h⟩ := iC h
    refine y_V (pc := 69) (M2 := mX5_blameStepTooMany) (As := [.int l5]) (okX5_blameStepTooMany e30) mvX5_blameStepTooMany mlRX5_97 dX5_readTextProof_69 ⟨by decide, by decide⟩ rfl rfl rfl zrest0 a29 ?_
    refine z_goto (pc := 72) (tgt := 91) dX5_readTextProof_72 (by decide) ?_
    exact z_sub [0, 1] rfl (bX5_readTextProof_91 (fun h => hk10 h) h)
def fX5_readTextProof_10  (n : Nat) : Nat → Int32 → zS → Option zS := match n with
  | 0 => fun _ _ _ => none
  | n + 1 => fun l0 l4 s =>
    if 301 < l4 then
      some s
    else
      bnd (qI s 5 l0 7) fun x4 =>
      if x4 = 0 then
        bnd (qR s 5 l0 0) fun x7 =>
        bnd (cl s 8 x7 (fX8_next x7  s)) fun q10 =>
        if q10.1 = 0 then
          some q10.2
        else
          bnd (qR q10.2 5 l0 0) fun x13 =>
          bnd (cl q10.2 8 x13 (fX8_spells x13 2 q10.2)) fun q16 =>
          if q16.1 = 0 then
            bnd (qR q16.2 5 l0 0) fun x19 =>
            bnd (cl q16.2 8 x19 (fX8_putBack x19  q16.2)) fun q22 =>
            fX5_readTextProof_58 ((fX5_readTextProof_10  n)) l0 l4 q16.1 q22
          else
            fX5_readTextProof_58 ((fX5_readTextProof_10  n)) l0 l4 q16.1 q16.2
      else
        some s
set_option maxRecDepth 100000 in
set_option maxHeartbeats 4000000 in
theorem bX5_readTextProof_10 {E : zE}  : ∀ (n : Nat) {l0 : Nat} {l4 : Int32} {s : zS} {q : zS}, fX5_readTextProof_10  n l0 l4 s = some q → Z E mX5_readTextProof 10 [(0, .ref l0), (4, .int l4)] [] s (0, 0) (zRv E mX5_readTextProof q) := by
  intro n
  induction n with
  | zero => intro l0 l4 s q h; cases h
  | succ n ih =>
    intro l0 l4 s q h
    unfold fX5_readTextProof_10 at h
    refine z_iload (pc := 10) 1 rfl dX5_readTextProof_10 ?_
    refine z_sipush (pc := 12) (v := 301) dX5_readTextProof_12 (by decide) ?_
    refine z_icmp_gt (pc := 15) (tgt := 97) dX5_readTextProof_15 (by decide) (fun hc => ?_) (fun hc => ?_)
    · replace h := ifp hc h
      exact y_ret (pc := 97) dX5_readTextProof_97 rfl h
    · replace h := ifn hc h
      refine z_aload_n (pc := 18) 0 rfl dX5_readTextProof_18 rfl ?_
      obtain ⟨a5, x4, e6, h⟩ := iI h
      refine y_getI (pc := 19) flRX5_24 dX5_readTextProof_19 rfl a5 e6 ?_
      refine z_if_ne (pc := 22) (tgt := 97) dX5_readTextProof_22 (by decide) (fun hc => ?_) (fun hc => ?_)
      · replace h := ifn hc h
        exact y_ret (pc := 97) dX5_readTextProof_97 rfl h
      · replace h := ifp hc h
        refine z_aload_n (pc := 25) 0 rfl dX5_readTextProof_25 rfl ?_
        obtain ⟨a8, x7, e9, h⟩ := iR h
        refine y_getR (pc := 26) flRX5_35 dX5_readTextProof_26 rfl a8 e9 ?_
        obtain ⟨a11, q10, e12, h⟩ := iC h
        refine y_Vi (pc := 29) (M2 := mX8_next) (As := []) (okX8_next e12) mvX8_next mlRX5_76 dX5_readTextProof_29 ⟨by decide, by decide⟩ rfl rfl rfl zrest0 a11 ?_
        refine z_if_eq (pc := 32) (tgt := 97) dX5_readTextProof_32 (by decide) (fun hc => ?_) (fun hc => ?_)
        · replace h := ifp hc h
          exact y_ret (pc := 97) dX5_readTextProof_97 rfl h
        · replace h := ifn hc h
          refine z_aload_n (pc := 35) 0 rfl dX5_readTextProof_35 rfl ?_
          obtain ⟨a14, x13, e15, h⟩ := iR h
          refine y_getR (pc := 36) flRX5_35 dX5_readTextProof_36 rfl a14 e15 ?_
          refine z_ldcS (pc := 39) (k := 2) (fun E U h => h.2.1.2.2) dX5_readTextProof_39 ?_
          obtain ⟨a17, q16, e18, h⟩ := iC h
          refine y_Vi (pc := 41) (M2 := mX8_spells) (As := [.retAddr 2]) (okX8_spells e18) mvX8_spells mlRX5_90 dX5_readTextProof_41 ⟨by decide, by decide⟩ rfl rfl rfl zrest0 a17 ?_
          refine z_istore (pc := 44) (ls' := [(5, .int q16.1), (0, .ref l0), (4, .int l4)]) dX5_readTextProof_44 (by decide) (fun _ => rfl) ?_
          refine z_iload (pc := 46) 0 rfl dX5_readTextProof_46 ?_
          refine z_if_ne (pc := 48) (tgt := 58) dX5_readTextProof_48 (by decide) (fun hc => ?_) (fun hc => ?_)
          · replace h := ifn hc h
            exact z_sub [1, 2, 0] rfl (bX5_readTextProof_58 (fun h => ih h) h)
          · replace h := ifp hc h
            refine z_aload_n (pc := 51) 1 rfl dX5_readTextProof_51 rfl ?_
            obtain ⟨a20, x19, e21, h⟩ := iR h
            refine y_getR (pc := 52) flRX5_35 dX5_readTextProof_52 rfl a20 e21 ?_
            obtain ⟨a23, q22, e24, h⟩ := iC h
            refine y_V (pc := 55) (M2 := mX8_putBack) (As := []) (okX8_putBack e24) mvX8_putBack mlRX5_94 dX5_readTextProof_55 ⟨by decide, by decide⟩ rfl rfl rfl zrest0 a23 ?_
            exact z_sub [1, 2, 0] rfl (bX5_readTextProof_58 (fun h => ih h) h)
def fX5_readTextProof (l0 : Nat) (l1 : Nat) (l2 : Int32) (l3 : Nat) (s : zS) : Option zS :=
  bnd (cl s 5 l0 (fX5_begin l0 l1 l2 l3 s)) fun q1 =>
  fX5_readTextProof_10  zfu l0 1 q1
set_option maxRecDepth 100000 in
set_option maxHeartbeats 4000000 in
theorem okX5_readTextProof {E : zE} {l0 : Nat} {l1 : Nat} {l2 : Int32} {l3 : Nat} {s : zS} {t : zS} (h : fX5_readTextProof l0 l1 l2 l3 s = some t) : Cv E mX5_readTextProof [.ref l0, .ref l1, .int l2, .ref l3] s t := by
  refine Ct.of (ls := [(0, .ref l0), (1, .ref l1), (2, .int l2), (3, .ref l3)]) (by decide) rfl (Nat.le_of_ble_eq_true rfl) ?_
  show Z E mX5_readTextProof 0 [(0, .ref l0), (1, .ref l1), (2, .int l2), (3, .ref l3)] [] s (0, 0) (zRv E mX5_readTextProof t)
  unfold fX5_readTextProof at h
  refine z_aload_n (pc := 0) 0 rfl dX5_readTextProof_0 rfl ?_
  refine z_aload_n (pc := 1) 1 rfl dX5_readTextProof_1 rfl ?_
  refine z_iload_n (pc := 2) 2 rfl dX5_readTextProof_2 rfl ?_
  refine z_aload_n (pc := 3) 3 rfl dX5_readTextProof_3 rfl ?_
  obtain ⟨a2, q1, e3, h⟩ := iC h
  refine y_V (pc := 4) (M2 := mX5_begin) (As := [.ref l1, .int l2, .ref l3]) (okX5_begin e3) mvX5_begin mlRX5_47 dX5_readTextProof_4 ⟨by decide, by decide⟩ rfl rfl rfl zrest0 a2 ?_
  refine z_iconst (pc := 7) (v := 1) dX5_readTextProof_7 (by decide) ?_
  refine z_istore (pc := 8) (ls' := [(4, .int 1), (0, .ref l0), (1, .ref l1), (2, .int l2), (3, .ref l3)]) dX5_readTextProof_8 (by decide) (fun _ => rfl) ?_
  exact z_sub [1, 0] rfl (bX5_readTextProof_10  _ h)
def fX5_readByteLiteral_116  (l0 : Nat) (l1 : Int32) (s : zS) : Option zS :=
  bnd (cl s 5 l0 (fX5_blame l0 2 l1 s)) fun q16 =>
  some q16
set_option maxRecDepth 100000 in
set_option maxHeartbeats 4000000 in
theorem bX5_readByteLiteral_116 {E : zE}   {l0 : Nat} {l1 : Int32} {s : zS} {q : zS} (h : fX5_readByteLiteral_116  l0 l1 s = some q) : Z E mX5_readByteLiteral 116 [(0, .ref l0), (1, .int l1)] [] s (0, 0) (zRv E mX5_readByteLiteral q) := by
  unfold fX5_readByteLiteral_116 at h
  refine z_aload_n (pc := 116) 0 rfl dX5_readByteLiteral_116 rfl ?_
  refine z_iconst (pc := 117) (v := 2) dX5_readByteLiteral_117 (by decide) ?_
  refine z_iload_n (pc := 118) 1 rfl dX5_readByteLiteral_118 rfl ?_
  obtain ⟨a17, q16, e18, h⟩ := iC h
  refine y_V (pc := 119) (M2 := mX5_blame) (As := [.int 2, .int l1]) (okX5_blame e18) mvX5_blame mlRX5_84 dX5_readByteLiteral_119 ⟨by decide, by decide⟩ rfl rfl rfl zrest0 a17 ?_
  refine z_goto (pc := 122) (tgt := 146) dX5_readByteLiteral_122 (by decide) ?_
  exact y_ret (pc := 146) dX5_readByteLiteral_146 rfl h
def fX5_readByteLiteral_142  (l1 : Int32) (t0 : Int32) (t1 : Nat) (s : zS) : Option zS :=
  bnd (cl s 5 t1 (fX5_takeLiteral t1 t0 l1 s)) fun q16 =>
  some q16
set_option maxRecDepth 100000 in
set_option maxHeartbeats 4000000 in
theorem bX5_readByteLiteral_142 {E : zE}   {l1 : Int32} {t0 : Int32} {t1 : Nat} {s : zS} {q : zS} (h : fX5_readByteLiteral_142  l1 t0 t1 s = some q) : Z E mX5_readByteLiteral 142 [(1, .int l1)] [.int t0, .ref t1] s (0, 0) (zRv E mX5_readByteLiteral q) := by
  unfold fX5_readByteLiteral_142 at h
  refine z_iload_n (pc := 142) 0 rfl dX5_readByteLiteral_142 rfl ?_
  obtain ⟨a17, q16, e18, h⟩ := iC h
  refine y_V (pc := 143) (M2 := mX5_takeLiteral) (As := [.int t0, .int l1]) (okX5_takeLiteral e18) mvX5_takeLiteral mlRX5_128 dX5_readByteLiteral_143 ⟨by decide, by decide⟩ rfl rfl rfl zrest0 a17 ?_
  exact y_ret (pc := 146) dX5_readByteLiteral_146 rfl h
def fX5_readByteLiteral_104  (l0 : Nat) (l1 : Int32) (l2 : Int32) (s : zS) : Option zS :=
  if l2 < 2 then
    fX5_readByteLiteral_116  l0 l1 s
  else
    if l2 ≤ 301 then
      if (l2 &&& 1) = 0 then
        fX5_readByteLiteral_142  l1 (l2 / 2) l0 s
      else
        fX5_readByteLiteral_142  l1 (-(l2 / 2)) l0 s
    else
      fX5_readByteLiteral_116  l0 l1 s
set_option maxRecDepth 100000 in
set_option maxHeartbeats 4000000 in
theorem bX5_readByteLiteral_104 {E : zE}   {l0 : Nat} {l1 : Int32} {l2 : Int32} {s : zS} {q : zS} (h : fX5_readByteLiteral_104  l0 l1 l2 s = some q) : Z E mX5_readByteLiteral 104 [(0, .ref l0), (1, .int l1), (2, .int l2)] [] s (0, 0) (zRv E mX5_readByteLiteral q) := by
  unfold fX5_readByteLiteral_104 at h
  refine z_iload_n (pc := 104) 2 rfl dX5_readByteLiteral_104 rfl ?_
  refine z_iconst (pc := 105) (v := 2) dX5_readByteLiteral_105 (by decide) ?_
  refine z_icmp_lt (pc := 106) (tgt := 116) dX5_readByteLiteral_106 (by decide) (fun hc => ?_) (fun hc => ?_)
  · replace h := ifp hc h
    exact z_sub [0, 1] rfl (bX5_readByteLiteral_116  h)
  · replace h := ifn hc h
    refine z_iload_n (pc := 109) 2 rfl dX5_readByteLiteral_109 rfl ?_
    refine z_sipush (pc := 110) (v := 301) dX5_readByteLiteral_110 (by decide) ?_
    refine z_icmp_le (pc := 113) (tgt := 125) dX5_readByteLiteral_113 (by decide) (fun hc => ?_) (fun hc => ?_)
    · replace h := ifp hc h
      refine z_aload_n (pc := 125) 0 rfl dX5_readByteLiteral_125 rfl ?_
      refine z_iload_n (pc := 126) 2 rfl dX5_readByteLiteral_126 rfl ?_
      refine z_iconst (pc := 127) (v := 1) dX5_readByteLiteral_127 (by decide) ?_
      refine z_iand (pc := 128) dX5_readByteLiteral_128 ?_
      refine z_if_ne (pc := 129) (tgt := 138) dX5_readByteLiteral_129 (by decide) (fun hc => ?_) (fun hc => ?_)
      · replace h := ifn hc h
        refine z_iload_n (pc := 138) 2 rfl dX5_readByteLiteral_138 rfl ?_
        refine z_iconst (pc := 139) (v := 2) dX5_readByteLiteral_139 (by decide) ?_
        refine z_idiv (pc := 140) (by decide) dX5_readByteLiteral_140 ?_
        refine z_ineg (pc := 141) dX5_readByteLiteral_141 ?_
        exact z_sub [1] rfl (bX5_readByteLiteral_142  h)
      · replace h := ifp hc h
        refine z_iload_n (pc := 132) 2 rfl dX5_readByteLiteral_132 rfl ?_
        refine z_iconst (pc := 133) (v := 2) dX5_readByteLiteral_133 (by decide) ?_
        refine z_idiv (pc := 134) (by decide) dX5_readByteLiteral_134 ?_
        refine z_goto (pc := 135) (tgt := 142) dX5_readByteLiteral_135 (by decide) ?_
        exact z_sub [1] rfl (bX5_readByteLiteral_142  h)
    · replace h := ifn hc h
      exact z_sub [0, 1] rfl (bX5_readByteLiteral_116  h)
def fX5_readByteLiteral_75  (l0 : Nat) (l1 : Int32) (s : zS) : Option zS :=
  bnd (cl s 5 l0 (fX5_blame l0 1 l1 s)) fun q31 =>
  some q31
set_option maxRecDepth 100000 in
set_option maxHeartbeats 4000000 in
theorem bX5_readByteLiteral_75 {E : zE}   {l0 : Nat} {l1 : Int32} {s : zS} {q : zS} (h : fX5_readByteLiteral_75  l0 l1 s = some q) : Z E mX5_readByteLiteral 75 [(0, .ref l0), (1, .int l1)] [] s (0, 0) (zRv E mX5_readByteLiteral q) := by
  unfold fX5_readByteLiteral_75 at h
  refine z_aload_n (pc := 75) 0 rfl dX5_readByteLiteral_75 rfl ?_
  refine z_iconst (pc := 76) (v := 1) dX5_readByteLiteral_76 (by decide) ?_
  refine z_iload_n (pc := 77) 1 rfl dX5_readByteLiteral_77 rfl ?_
  obtain ⟨a32, q31, e33, h⟩ := iC h
  refine y_V (pc := 78) (M2 := mX5_blame) (As := [.int 1, .int l1]) (okX5_blame e33) mvX5_blame mlRX5_84 dX5_readByteLiteral_78 ⟨by decide, by decide⟩ rfl rfl rfl zrest0 a32 ?_
  exact y_ret (pc := 81) dX5_readByteLiteral_81 rfl h
def fX5_readByteLiteral (l0 : Nat) (s : zS) : Option zS :=
  bnd (qI s 5 l0 4) fun x1 =>
  bnd (qR s 5 l0 1) fun x4 =>
  bnd (cl s 0 x4 (fX0_at x4 x1 s)) fun q7 =>
  bnd (qI q7.2 5 l0 4) fun x10 =>
  bnd (wI q7.2 5 l0 4 (x10 + 1)) fun s13 =>
  if q7.1 < 128 then
    fX5_readByteLiteral_104  l0 x1 q7.1 s13
  else
    bnd (qI s13 5 l0 4) fun x16 =>
    bnd (qI s13 5 l0 3) fun x19 =>
    if x16 < x19 then
      bnd (qR s13 5 l0 1) fun x22 =>
      bnd (qI s13 5 l0 4) fun x25 =>
      bnd (cl s13 0 x22 (fX0_at x22 x25 s13)) fun q28 =>
      if q28.1 = 0 then
        fX5_readByteLiteral_75  l0 x1 q28.2
      else
        if q28.1 < 128 then
          bnd (qI q28.2 5 l0 4) fun x31 =>
          bnd (wI q28.2 5 l0 4 (x31 + 1)) fun s34 =>
          fX5_readByteLiteral_104  l0 x1 ((q7.1 - 128) + (128 * q28.1)) s34
        else
          fX5_readByteLiteral_75  l0 x1 q28.2
    else
      bnd (qI s13 5 l0 3) fun x37 =>
      bnd (cl s13 5 l0 (fX5_blame l0 1 x37 s13)) fun q40 =>
      some q40
set_option maxRecDepth 100000 in
set_option maxHeartbeats 4000000 in
theorem okX5_readByteLiteral {E : zE} {l0 : Nat} {s : zS} {t : zS} (h : fX5_readByteLiteral l0 s = some t) : Cv E mX5_readByteLiteral [.ref l0] s t := by
  refine Ct.of (ls := [(0, .ref l0)]) (by decide) rfl (Nat.le_of_ble_eq_true rfl) ?_
  show Z E mX5_readByteLiteral 0 [(0, .ref l0)] [] s (0, 0) (zRv E mX5_readByteLiteral t)
  unfold fX5_readByteLiteral at h
  refine z_aload_n (pc := 0) 0 rfl dX5_readByteLiteral_0 rfl ?_
  obtain ⟨a2, x1, e3, h⟩ := iI h
  refine y_getI (pc := 1) flRX5_15 dX5_readByteLiteral_1 rfl a2 e3 ?_
  refine z_istore_n (pc := 4) (ls' := [(1, .int x1), (0, .ref l0)]) dX5_readByteLiteral_4 rfl (by decide) (fun _ => rfl) ?_
  refine z_aload_n (pc := 5) 1 rfl dX5_readByteLiteral_5 rfl ?_
  obtain ⟨a5, x4, e6, h⟩ := iR h
  refine y_getR (pc := 6) flRX5_39 dX5_readByteLiteral_6 rfl a5 e6 ?_
  refine z_iload_n (pc := 9) 0 rfl dX5_readByteLiteral_9 rfl ?_
  obtain ⟨a8, q7, e9, h⟩ := iC h
  refine y_Vi (pc := 10) (M2 := mX0_at) (As := [.int x1]) (okX0_at e9) mvX0_at mlRX5_100 dX5_readByteLiteral_10 ⟨by decide, by decide⟩ rfl rfl rfl zrest0 a8 ?_
  refine z_istore_n (pc := 13) (ls' := [(2, .int q7.1), (1, .int x1), (0, .ref l0)]) dX5_readByteLiteral_13 rfl (by decide) (fun _ => rfl) ?_
  refine z_aload_n (pc := 14) 2 rfl dX5_readByteLiteral_14 rfl ?_
  refine z_dup (pc := 15) dX5_readByteLiteral_15 (fun _ => rfl) ?_
  obtain ⟨a11, x10, e12, h⟩ := iI h
  refine y_getI (pc := 16) flRX5_15 dX5_readByteLiteral_16 rfl a11 e12 ?_
  refine z_iconst (pc := 19) (v := 1) dX5_readByteLiteral_19 (by decide) ?_
  refine z_iadd (pc := 20) dX5_readByteLiteral_20 ?_
  obtain ⟨a14, s13, e15, h⟩ := jI h
  refine y_putI (pc := 21) flRX5_15 dX5_readByteLiteral_21 rfl (Or.inl rfl) a14 e15 ?_
  refine z_iload_n (pc := 24) 0 rfl dX5_readByteLiteral_24 rfl ?_
  refine z_sipush (pc := 25) (v := 128) dX5_readByteLiteral_25 (by decide) ?_
  refine z_icmp_lt (pc := 28) (tgt := 104) dX5_readByteLiteral_28 (by decide) (fun hc => ?_) (fun hc => ?_)
  · replace h := ifp hc h
    exact z_sub [2, 1, 0] rfl (bX5_readByteLiteral_104  h)
  · replace h := ifn hc h
    refine z_aload_n (pc := 31) 2 rfl dX5_readByteLiteral_31 rfl ?_
    obtain ⟨a17, x16, e18, h⟩ := iI h
    refine y_getI (pc := 32) flRX5_15 dX5_readByteLiteral_32 rfl a17 e18 ?_
    refine z_aload_n (pc := 35) 2 rfl dX5_readByteLiteral_35 rfl ?_
    obtain ⟨a20, x19, e21, h⟩ := iI h
    refine y_getI (pc := 36) flRX5_9 dX5_readByteLiteral_36 rfl a20 e21 ?_
    refine z_icmp_lt (pc := 39) (tgt := 52) dX5_readByteLiteral_39 (by decide) (fun hc => ?_) (fun hc => ?_)
    · replace h := ifp hc h
      refine z_aload_n (pc := 52) 2 rfl dX5_readByteLiteral_52 rfl ?_
      obtain ⟨a23, x22, e24, h⟩ := iR h
      refine y_getR (pc := 53) flRX5_39 dX5_readByteLiteral_53 rfl a23 e24 ?_
      refine z_aload_n (pc := 56) 2 rfl dX5_readByteLiteral_56 rfl ?_
      obtain ⟨a26, x25, e27, h⟩ := iI h
      refine y_getI (pc := 57) flRX5_15 dX5_readByteLiteral_57 rfl a26 e27 ?_
      obtain ⟨a29, q28, e30, h⟩ := iC h
      refine y_Vi (pc := 60) (M2 := mX0_at) (As := [.int x25]) (okX0_at e30) mvX0_at mlRX5_100 dX5_readByteLiteral_60 ⟨by decide, by decide⟩ rfl rfl rfl zrest0 a29 ?_
      refine z_istore_n (pc := 63) (ls' := [(3, .int q28.1), (2, .int q7.1), (1, .int x1), (0, .ref l0)]) dX5_readByteLiteral_63 rfl (by decide) (fun _ => rfl) ?_
      refine z_iload_n (pc := 64) 0 rfl dX5_readByteLiteral_64 rfl ?_
      refine z_if_eq (pc := 65) (tgt := 75) dX5_readByteLiteral_65 (by decide) (fun hc => ?_) (fun hc => ?_)
      · replace h := ifp hc h
        exact z_sub [3, 2] rfl (bX5_readByteLiteral_75  h)
      · replace h := ifn hc h
        refine z_iload_n (pc := 68) 0 rfl dX5_readByteLiteral_68 rfl ?_
        refine z_sipush (pc := 69) (v := 128) dX5_readByteLiteral_69 (by decide) ?_
        refine z_icmp_lt (pc := 72) (tgt := 82) dX5_readByteLiteral_72 (by decide) (fun hc => ?_) (fun hc => ?_)
        · replace h := ifp hc h
          refine z_iload_n (pc := 82) 1 rfl dX5_readByteLiteral_82 rfl ?_
          refine z_sipush (pc := 83) (v := 128) dX5_readByteLiteral_83 (by decide) ?_
          refine z_isub (pc := 86) dX5_readByteLiteral_86 ?_
          refine z_sipush (pc := 87) (v := 128) dX5_readByteLiteral_87 (by decide) ?_
          refine z_iload_n (pc := 90) 0 rfl dX5_readByteLiteral_90 rfl ?_
          refine z_imul (pc := 91) dX5_readByteLiteral_91 ?_
          refine z_iadd (pc := 92) dX5_readByteLiteral_92 ?_
          refine z_istore_n (pc := 93) (ls' := [(2, .int ((q7.1 - 128) + (128 * q28.1))), (3, .int q28.1), (1, .int x1), (0, .ref l0)]) dX5_readByteLiteral_93 rfl (by decide) (fun _ => rfl) ?_
          refine z_aload_n (pc := 94) 3 rfl dX5_readByteLiteral_94 rfl ?_
          refine z_dup (pc := 95) dX5_readByteLiteral_95 (fun _ => rfl) ?_
          obtain ⟨a32, x31, e33, h⟩ := iI h
          refine y_getI (pc := 96) flRX5_15 dX5_readByteLiteral_96 rfl a32 e33 ?_
          refine z_iconst (pc := 99) (v := 1) dX5_readByteLiteral_99 (by decide) ?_
          refine z_iadd (pc := 100) dX5_readByteLiteral_100 ?_
          obtain ⟨a35, s34, e36, h⟩ := jI h
          refine y_putI (pc := 101) flRX5_15 dX5_readByteLiteral_101 rfl (Or.inl rfl) a35 e36 ?_
          exact z_sub [3, 2, 0] rfl (bX5_readByteLiteral_104  h)
        · replace h := ifn hc h
          exact z_sub [3, 2] rfl (bX5_readByteLiteral_75  h)
    · replace h := ifn hc h
      refine z_aload_n (pc := 42) 2 rfl dX5_readByteLiteral_42 rfl ?_
      refine z_iconst (pc := 43) (v := 1) dX5_readByteLiteral_43 (by decide) ?_
      refine z_aload_n (pc := 44) 2 rfl dX5_readByteLiteral_44 rfl ?_
      obtain ⟨a38, x37, e39, h⟩ := iI h
      refine y_getI (pc := 45) flRX5_9 dX5_readByteLiteral_45 rfl a38 e39 ?_
      obtain ⟨a41, q40, e42, h⟩ := iC h
      refine y_V (pc := 48) (M2 := mX5_blame) (As := [.int 1, .int x37]) (okX5_blame e42) mvX5_blame mlRX5_84 dX5_readByteLiteral_48 ⟨by decide, by decide⟩ rfl rfl rfl zrest0 a41 ?_
      exact y_ret (pc := 51) dX5_readByteLiteral_51 rfl h
def fX5_readByteRow_72 (k7 : Nat → Int32 → zS → Option zS) (l0 : Nat) (l1 : Int32) (s : zS) : Option zS :=
  k7 l0 (l1 + 1) s
set_option maxRecDepth 100000 in
set_option maxHeartbeats 4000000 in
theorem bX5_readByteRow_72 {E : zE} {k7 : Nat → Int32 → zS → Option zS} (hk7 : ∀ {l0 : Nat} {l1 : Int32} {s : zS} {q : zS}, k7 l0 l1 s = some q → Z E mX5_readByteRow 7 [(0, .ref l0), (1, .int l1)] [] s (0, 0) (zRv E mX5_readByteRow q)) {l0 : Nat} {l1 : Int32} {s : zS} {q : zS} (h : fX5_readByteRow_72 k7 l0 l1 s = some q) : Z E mX5_readByteRow 72 [(0, .ref l0), (1, .int l1)] [] s (0, 0) (zRv E mX5_readByteRow q) := by
  unfold fX5_readByteRow_72 at h
  refine z_iinc (pc := 72) (v := (l1 + 1)) (ls' := [(1, .int (l1 + 1)), (0, .ref l0)]) 1 rfl rfl dX5_readByteRow_72 (by decide) (fun _ => rfl) ?_
  refine z_goto (pc := 75) (tgt := 7) dX5_readByteRow_75 (by decide) ?_
  exact z_sub [1, 0] rfl (hk7 h)
def fX5_readByteRow_7  (n : Nat) : Nat → Int32 → zS → Option zS := match n with
  | 0 => fun _ _ _ => none
  | n + 1 => fun l0 l1 s =>
    if 40 < l1 then
      some s
    else
      bnd (qI s 5 l0 7) fun x4 =>
      if x4 = 0 then
        bnd (qI s 5 l0 4) fun x7 =>
        bnd (qI s 5 l0 3) fun x10 =>
        if x7 < x10 then
          bnd (qR s 5 l0 1) fun x13 =>
          bnd (qI s 5 l0 4) fun x16 =>
          bnd (cl s 0 x13 (fX0_at x13 x16 s)) fun q19 =>
          if q19.1 = 0 then
            bnd (qI q19.2 5 l0 4) fun x25 =>
            bnd (wI q19.2 5 l0 4 (x25 + 1)) fun s28 =>
            some s28
          else
            bnd (cl q19.2 5 l0 (fX5_readByteLiteral l0  q19.2)) fun q22 =>
            fX5_readByteRow_72 ((fX5_readByteRow_7  n)) l0 l1 q22
        else
          bnd (qI s 5 l0 3) fun x31 =>
          bnd (cl s 5 l0 (fX5_blame l0 1 x31 s)) fun q34 =>
          fX5_readByteRow_72 ((fX5_readByteRow_7  n)) l0 l1 q34
      else
        some s
set_option maxRecDepth 100000 in
set_option maxHeartbeats 4000000 in
theorem bX5_readByteRow_7 {E : zE}  : ∀ (n : Nat) {l0 : Nat} {l1 : Int32} {s : zS} {q : zS}, fX5_readByteRow_7  n l0 l1 s = some q → Z E mX5_readByteRow 7 [(0, .ref l0), (1, .int l1)] [] s (0, 0) (zRv E mX5_readByteRow q) := by
  intro n
  induction n with
  | zero => intro l0 l1 s q h; cases h
  | succ n ih =>
    intro l0 l1 s q h
    unfold fX5_readByteRow_7 at h
    refine z_iload_n (pc := 7) 1 rfl dX5_readByteRow_7 rfl ?_
    refine z_bipush (pc := 8) (v := 40) dX5_readByteRow_8 (by decide) ?_
    refine z_icmp_gt (pc := 10) (tgt := 78) dX5_readByteRow_10 (by decide) (fun hc => ?_) (fun hc => ?_)
    · replace h := ifp hc h
      exact y_ret (pc := 78) dX5_readByteRow_78 rfl h
    · replace h := ifn hc h
      refine z_aload_n (pc := 13) 0 rfl dX5_readByteRow_13 rfl ?_
      obtain ⟨a5, x4, e6, h⟩ := iI h
      refine y_getI (pc := 14) flRX5_24 dX5_readByteRow_14 rfl a5 e6 ?_
      refine z_if_ne (pc := 17) (tgt := 78) dX5_readByteRow_17 (by decide) (fun hc => ?_) (fun hc => ?_)
      · replace h := ifn hc h
        exact y_ret (pc := 78) dX5_readByteRow_78 rfl h
      · replace h := ifp hc h
        refine z_aload_n (pc := 20) 0 rfl dX5_readByteRow_20 rfl ?_
        obtain ⟨a8, x7, e9, h⟩ := iI h
        refine y_getI (pc := 21) flRX5_15 dX5_readByteRow_21 rfl a8 e9 ?_
        refine z_aload_n (pc := 24) 0 rfl dX5_readByteRow_24 rfl ?_
        obtain ⟨a11, x10, e12, h⟩ := iI h
        refine y_getI (pc := 25) flRX5_9 dX5_readByteRow_25 rfl a11 e12 ?_
        refine z_icmp_lt (pc := 28) (tgt := 43) dX5_readByteRow_28 (by decide) (fun hc => ?_) (fun hc => ?_)
        · replace h := ifp hc h
          refine z_aload_n (pc := 43) 0 rfl dX5_readByteRow_43 rfl ?_
          obtain ⟨a14, x13, e15, h⟩ := iR h
          refine y_getR (pc := 44) flRX5_39 dX5_readByteRow_44 rfl a14 e15 ?_
          refine z_aload_n (pc := 47) 0 rfl dX5_readByteRow_47 rfl ?_
          obtain ⟨a17, x16, e18, h⟩ := iI h
          refine y_getI (pc := 48) flRX5_15 dX5_readByteRow_48 rfl a17 e18 ?_
          obtain ⟨a20, q19, e21, h⟩ := iC h
          refine y_Vi (pc := 51) (M2 := mX0_at) (As := [.int x16]) (okX0_at e21) mvX0_at mlRX5_100 dX5_readByteRow_51 ⟨by decide, by decide⟩ rfl rfl rfl zrest0 a20 ?_
          refine z_if_ne (pc := 54) (tgt := 68) dX5_readByteRow_54 (by decide) (fun hc => ?_) (fun hc => ?_)
          · replace h := ifn hc h
            refine z_aload_n (pc := 68) 0 rfl dX5_readByteRow_68 rfl ?_
            obtain ⟨a23, q22, e24, h⟩ := iC h
            refine y_V (pc := 69) (M2 := mX5_readByteLiteral) (As := []) (okX5_readByteLiteral e24) mvX5_readByteLiteral mlRX5_134 dX5_readByteRow_69 ⟨by decide, by decide⟩ rfl rfl rfl zrest0 a23 ?_
            exact z_sub [0, 1] rfl (bX5_readByteRow_72 (fun h => ih h) h)
          · replace h := ifp hc h
            refine z_aload_n (pc := 57) 0 rfl dX5_readByteRow_57 rfl ?_
            refine z_dup (pc := 58) dX5_readByteRow_58 (fun _ => rfl) ?_
            obtain ⟨a26, x25, e27, h⟩ := iI h
            refine y_getI (pc := 59) flRX5_15 dX5_readByteRow_59 rfl a26 e27 ?_
            refine z_iconst (pc := 62) (v := 1) dX5_readByteRow_62 (by decide) ?_
            refine z_iadd (pc := 63) dX5_readByteRow_63 ?_
            obtain ⟨a29, s28, e30, h⟩ := jI h
            refine y_putI (pc := 64) flRX5_15 dX5_readByteRow_64 rfl (Or.inl rfl) a29 e30 ?_
            exact y_ret (pc := 67) dX5_readByteRow_67 rfl h
        · replace h := ifn hc h
          refine z_aload_n (pc := 31) 0 rfl dX5_readByteRow_31 rfl ?_
          refine z_iconst (pc := 32) (v := 1) dX5_readByteRow_32 (by decide) ?_
          refine z_aload_n (pc := 33) 0 rfl dX5_readByteRow_33 rfl ?_
          obtain ⟨a32, x31, e33, h⟩ := iI h
          refine y_getI (pc := 34) flRX5_9 dX5_readByteRow_34 rfl a32 e33 ?_
          obtain ⟨a35, q34, e36, h⟩ := iC h
          refine y_V (pc := 37) (M2 := mX5_blame) (As := [.int 1, .int x31]) (okX5_blame e36) mvX5_blame mlRX5_84 dX5_readByteRow_37 ⟨by decide, by decide⟩ rfl rfl rfl zrest0 a35 ?_
          refine z_goto (pc := 40) (tgt := 72) dX5_readByteRow_40 (by decide) ?_
          exact z_sub [0, 1] rfl (bX5_readByteRow_72 (fun h => ih h) h)
def fX5_readByteRow (l0 : Nat) (s : zS) : Option zS :=
  bnd (wI s 5 l0 5 0) fun s1 =>
  fX5_readByteRow_7  zfu l0 0 s1
set_option maxRecDepth 100000 in
set_option maxHeartbeats 4000000 in
theorem okX5_readByteRow {E : zE} {l0 : Nat} {s : zS} {t : zS} (h : fX5_readByteRow l0 s = some t) : Cv E mX5_readByteRow [.ref l0] s t := by
  refine Ct.of (ls := [(0, .ref l0)]) (by decide) rfl (Nat.le_of_ble_eq_true rfl) ?_
  show Z E mX5_readByteRow 0 [(0, .ref l0)] [] s (0, 0) (zRv E mX5_readByteRow t)
  unfold fX5_readByteRow at h
  refine z_aload_n (pc := 0) 0 rfl dX5_readByteRow_0 rfl ?_
  refine z_iconst (pc := 1) (v := 0) dX5_readByteRow_1 (by decide) ?_
  obtain ⟨a2, s1, e3, h⟩ := jI h
  refine y_putI (pc := 2) flRX5_18 dX5_readByteRow_2 rfl (Or.inl rfl) a2 e3 ?_
  refine z_iconst (pc := 5) (v := 0) dX5_readByteRow_5 (by decide) ?_
  refine z_istore_n (pc := 6) (ls' := [(1, .int 0), (0, .ref l0)]) dX5_readByteRow_6 rfl (by decide) (fun _ => rfl) ?_
  exact z_sub [1, 0] rfl (bX5_readByteRow_7  _ h)
def fX5_readByteProof_128 (k10 : Nat → Int32 → zS → Option zS) (l0 : Nat) (l4 : Int32) (s : zS) : Option zS :=
  k10 l0 (l4 + 1) s
set_option maxRecDepth 100000 in
set_option maxHeartbeats 4000000 in
theorem bX5_readByteProof_128 {E : zE} {k10 : Nat → Int32 → zS → Option zS} (hk10 : ∀ {l0 : Nat} {l4 : Int32} {s : zS} {q : zS}, k10 l0 l4 s = some q → Z E mX5_readByteProof 10 [(0, .ref l0), (4, .int l4)] [] s (0, 0) (zRv E mX5_readByteProof q)) {l0 : Nat} {l4 : Int32} {s : zS} {q : zS} (h : fX5_readByteProof_128 k10 l0 l4 s = some q) : Z E mX5_readByteProof 128 [(0, .ref l0), (4, .int l4)] [] s (0, 0) (zRv E mX5_readByteProof q) := by
  unfold fX5_readByteProof_128 at h
  refine z_iinc (pc := 128) (v := (l4 + 1)) (ls' := [(4, .int (l4 + 1)), (0, .ref l0)]) 1 rfl rfl dX5_readByteProof_128 (by decide) (fun _ => rfl) ?_
  refine z_goto (pc := 131) (tgt := 10) dX5_readByteProof_131 (by decide) ?_
  exact z_sub [1, 0] rfl (hk10 h)
def fX5_readByteProof_125 (k10 : Nat → Int32 → zS → Option zS) (l0 : Nat) (l4 : Int32) (t0 : Int32) (t1 : Nat) (s : zS) : Option zS :=
  bnd (cl s 7 t1 (fX7_closeRow t1 t0 s)) fun q34 =>
  fX5_readByteProof_128 (k10) l0 l4 q34
set_option maxRecDepth 100000 in
set_option maxHeartbeats 4000000 in
theorem bX5_readByteProof_125 {E : zE} {k10 : Nat → Int32 → zS → Option zS} (hk10 : ∀ {l0 : Nat} {l4 : Int32} {s : zS} {q : zS}, k10 l0 l4 s = some q → Z E mX5_readByteProof 10 [(0, .ref l0), (4, .int l4)] [] s (0, 0) (zRv E mX5_readByteProof q)) {l0 : Nat} {l4 : Int32} {t0 : Int32} {t1 : Nat} {s : zS} {q : zS} (h : fX5_readByteProof_125 k10 l0 l4 t0 t1 s = some q) : Z E mX5_readByteProof 125 [(0, .ref l0), (4, .int l4)] [.int t0, .ref t1] s (0, 0) (zRv E mX5_readByteProof q) := by
  unfold fX5_readByteProof_125 at h
  obtain ⟨a35, q34, e36, h⟩ := iC h
  refine y_V (pc := 125) (M2 := mX7_closeRow) (As := [.int t0]) (okX7_closeRow e36) mvX7_closeRow mlRX5_72 dX5_readByteProof_125 ⟨by decide, by decide⟩ rfl rfl rfl zrest0 a35 ?_
  exact z_sub [0, 1] rfl (bX5_readByteProof_128 (fun h => hk10 h) h)
def fX5_readByteProof_75 (k10 : Nat → Int32 → zS → Option zS) (l0 : Nat) (l4 : Int32) (l5 : Int32) (s : zS) : Option zS :=
  if l4 ≤ 300 then
    bnd (qI s 5 l0 4) fun x22 =>
    bnd (wI s 5 l0 4 (x22 + 1)) fun s25 =>
    bnd (cl s25 5 l0 (fX5_readByteRow l0  s25)) fun q28 =>
    bnd (qR q28 5 l0 2) fun x31 =>
    if l5 = 100 then
      fX5_readByteProof_125 (k10) l0 l4 1 x31 q28
    else
      fX5_readByteProof_125 (k10) l0 l4 0 x31 q28
  else
    bnd (qI s 5 l0 4) fun x34 =>
    bnd (cl s 5 l0 (fX5_blame l0 3 x34 s)) fun q37 =>
    fX5_readByteProof_128 (k10) l0 l4 q37
set_option maxRecDepth 100000 in
set_option maxHeartbeats 4000000 in
theorem bX5_readByteProof_75 {E : zE} {k10 : Nat → Int32 → zS → Option zS} (hk10 : ∀ {l0 : Nat} {l4 : Int32} {s : zS} {q : zS}, k10 l0 l4 s = some q → Z E mX5_readByteProof 10 [(0, .ref l0), (4, .int l4)] [] s (0, 0) (zRv E mX5_readByteProof q)) {l0 : Nat} {l4 : Int32} {l5 : Int32} {s : zS} {q : zS} (h : fX5_readByteProof_75 k10 l0 l4 l5 s = some q) : Z E mX5_readByteProof 75 [(0, .ref l0), (4, .int l4), (5, .int l5)] [] s (0, 0) (zRv E mX5_readByteProof q) := by
  unfold fX5_readByteProof_75 at h
  refine z_iload (pc := 75) 1 rfl dX5_readByteProof_75 ?_
  refine z_sipush (pc := 77) (v := 300) dX5_readByteProof_77 (by decide) ?_
  refine z_icmp_le (pc := 80) (tgt := 95) dX5_readByteProof_80 (by decide) (fun hc => ?_) (fun hc => ?_)
  · replace h := ifp hc h
    refine z_aload_n (pc := 95) 0 rfl dX5_readByteProof_95 rfl ?_
    refine z_dup (pc := 96) dX5_readByteProof_96 (fun _ => rfl) ?_
    obtain ⟨a23, x22, e24, h⟩ := iI h
    refine y_getI (pc := 97) flRX5_15 dX5_readByteProof_97 rfl a23 e24 ?_
    refine z_iconst (pc := 100) (v := 1) dX5_readByteProof_100 (by decide) ?_
    refine z_iadd (pc := 101) dX5_readByteProof_101 ?_
    obtain ⟨a26, s25, e27, h⟩ := jI h
    refine y_putI (pc := 102) flRX5_15 dX5_readByteProof_102 rfl (Or.inl rfl) a26 e27 ?_
    refine z_aload_n (pc := 105) 0 rfl dX5_readByteProof_105 rfl ?_
    obtain ⟨a29, q28, e30, h⟩ := iC h
    refine y_V (pc := 106) (M2 := mX5_readByteRow) (As := []) (okX5_readByteRow e30) mvX5_readByteRow mlRX5_105 dX5_readByteProof_106 ⟨by decide, by decide⟩ rfl rfl rfl zrest0 a29 ?_
    refine z_aload_n (pc := 109) 0 rfl dX5_readByteProof_109 rfl ?_
    obtain ⟨a32, x31, e33, h⟩ := iR h
    refine y_getR (pc := 110) flRX5_43 dX5_readByteProof_110 rfl a32 e33 ?_
    refine z_iload (pc := 113) 2 rfl dX5_readByteProof_113 ?_
    refine z_bipush (pc := 115) (v := 100) dX5_readByteProof_115 (by decide) ?_
    refine z_icmp_ne (pc := 117) (tgt := 124) dX5_readByteProof_117 (by decide) (fun hc => ?_) (fun hc => ?_)
    · replace h := ifn hc h
      refine z_iconst (pc := 124) (v := 0) dX5_readByteProof_124 (by decide) ?_
      exact z_sub [0, 1] rfl (bX5_readByteProof_125 (fun h => hk10 h) h)
    · replace h := ifp hc h
      refine z_iconst (pc := 120) (v := 1) dX5_readByteProof_120 (by decide) ?_
      refine z_goto (pc := 121) (tgt := 125) dX5_readByteProof_121 (by decide) ?_
      exact z_sub [0, 1] rfl (bX5_readByteProof_125 (fun h => hk10 h) h)
  · replace h := ifn hc h
    refine z_aload_n (pc := 83) 0 rfl dX5_readByteProof_83 rfl ?_
    refine z_iconst (pc := 84) (v := 3) dX5_readByteProof_84 (by decide) ?_
    refine z_aload_n (pc := 85) 0 rfl dX5_readByteProof_85 rfl ?_
    obtain ⟨a35, x34, e36, h⟩ := iI h
    refine y_getI (pc := 86) flRX5_15 dX5_readByteProof_86 rfl a35 e36 ?_
    obtain ⟨a38, q37, e39, h⟩ := iC h
    refine y_V (pc := 89) (M2 := mX5_blame) (As := [.int 3, .int x34]) (okX5_blame e39) mvX5_blame mlRX5_84 dX5_readByteProof_89 ⟨by decide, by decide⟩ rfl rfl rfl zrest0 a38 ?_
    refine z_goto (pc := 92) (tgt := 128) dX5_readByteProof_92 (by decide) ?_
    exact z_sub [0, 1] rfl (bX5_readByteProof_128 (fun h => hk10 h) h)
def fX5_readByteProof_10  (n : Nat) : Nat → Int32 → zS → Option zS := match n with
  | 0 => fun _ _ _ => none
  | n + 1 => fun l0 l4 s =>
    if 301 < l4 then
      some s
    else
      bnd (qI s 5 l0 7) fun x4 =>
      if x4 = 0 then
        bnd (qI s 5 l0 4) fun x7 =>
        bnd (qI s 5 l0 3) fun x10 =>
        if x10 ≤ x7 then
          some s
        else
          bnd (qR s 5 l0 1) fun x13 =>
          bnd (qI s 5 l0 4) fun x16 =>
          bnd (cl s 0 x13 (fX0_at x13 x16 s)) fun q19 =>
          if q19.1 = 97 then
            fX5_readByteProof_75 ((fX5_readByteProof_10  n)) l0 l4 q19.1 q19.2
          else
            if q19.1 = 100 then
              fX5_readByteProof_75 ((fX5_readByteProof_10  n)) l0 l4 q19.1 q19.2
            else
              bnd (qI q19.2 5 l0 4) fun x22 =>
              bnd (cl q19.2 5 l0 (fX5_blame l0 1 x22 q19.2)) fun q25 =>
              fX5_readByteProof_128 ((fX5_readByteProof_10  n)) l0 l4 q25
      else
        some s
set_option maxRecDepth 100000 in
set_option maxHeartbeats 4000000 in
theorem bX5_readByteProof_10 {E : zE}  : ∀ (n : Nat) {l0 : Nat} {l4 : Int32} {s : zS} {q : zS}, fX5_readByteProof_10  n l0 l4 s = some q → Z E mX5_readByteProof 10 [(0, .ref l0), (4, .int l4)] [] s (0, 0) (zRv E mX5_readByteProof q) := by
  intro n
  induction n with
  | zero => intro l0 l4 s q h; cases h
  | succ n ih =>
    intro l0 l4 s q h
    unfold fX5_readByteProof_10 at h
    refine z_iload (pc := 10) 1 rfl dX5_readByteProof_10 ?_
    refine z_sipush (pc := 12) (v := 301) dX5_readByteProof_12 (by decide) ?_
    refine z_icmp_gt (pc := 15) (tgt := 134) dX5_readByteProof_15 (by decide) (fun hc => ?_) (fun hc => ?_)
    · replace h := ifp hc h
      exact y_ret (pc := 134) dX5_readByteProof_134 rfl h
    · replace h := ifn hc h
      refine z_aload_n (pc := 18) 0 rfl dX5_readByteProof_18 rfl ?_
      obtain ⟨a5, x4, e6, h⟩ := iI h
      refine y_getI (pc := 19) flRX5_24 dX5_readByteProof_19 rfl a5 e6 ?_
      refine z_if_ne (pc := 22) (tgt := 134) dX5_readByteProof_22 (by decide) (fun hc => ?_) (fun hc => ?_)
      · replace h := ifn hc h
        exact y_ret (pc := 134) dX5_readByteProof_134 rfl h
      · replace h := ifp hc h
        refine z_aload_n (pc := 25) 0 rfl dX5_readByteProof_25 rfl ?_
        obtain ⟨a8, x7, e9, h⟩ := iI h
        refine y_getI (pc := 26) flRX5_15 dX5_readByteProof_26 rfl a8 e9 ?_
        refine z_aload_n (pc := 29) 0 rfl dX5_readByteProof_29 rfl ?_
        obtain ⟨a11, x10, e12, h⟩ := iI h
        refine y_getI (pc := 30) flRX5_9 dX5_readByteProof_30 rfl a11 e12 ?_
        refine z_icmp_ge (pc := 33) (tgt := 134) dX5_readByteProof_33 (by decide) (fun hc => ?_) (fun hc => ?_)
        · replace h := ifp hc h
          exact y_ret (pc := 134) dX5_readByteProof_134 rfl h
        · replace h := ifn hc h
          refine z_aload_n (pc := 36) 0 rfl dX5_readByteProof_36 rfl ?_
          obtain ⟨a14, x13, e15, h⟩ := iR h
          refine y_getR (pc := 37) flRX5_39 dX5_readByteProof_37 rfl a14 e15 ?_
          refine z_aload_n (pc := 40) 0 rfl dX5_readByteProof_40 rfl ?_
          obtain ⟨a17, x16, e18, h⟩ := iI h
          refine y_getI (pc := 41) flRX5_15 dX5_readByteProof_41 rfl a17 e18 ?_
          obtain ⟨a20, q19, e21, h⟩ := iC h
          refine y_Vi (pc := 44) (M2 := mX0_at) (As := [.int x16]) (okX0_at e21) mvX0_at mlRX5_100 dX5_readByteProof_44 ⟨by decide, by decide⟩ rfl rfl rfl zrest0 a20 ?_
          refine z_istore (pc := 47) (ls' := [(5, .int q19.1), (0, .ref l0), (4, .int l4)]) dX5_readByteProof_47 (by decide) (fun _ => rfl) ?_
          refine z_iload (pc := 49) 0 rfl dX5_readByteProof_49 ?_
          refine z_bipush (pc := 51) (v := 97) dX5_readByteProof_51 (by decide) ?_
          refine z_icmp_eq (pc := 53) (tgt := 75) dX5_readByteProof_53 (by decide) (fun hc => ?_) (fun hc => ?_)
          · replace h := ifp hc h
            exact z_sub [1, 2, 0] rfl (bX5_readByteProof_75 (fun h => ih h) h)
          · replace h := ifn hc h
            refine z_iload (pc := 56) 0 rfl dX5_readByteProof_56 ?_
            refine z_bipush (pc := 58) (v := 100) dX5_readByteProof_58 (by decide) ?_
            refine z_icmp_eq (pc := 60) (tgt := 75) dX5_readByteProof_60 (by decide) (fun hc => ?_) (fun hc => ?_)
            · replace h := ifp hc h
              exact z_sub [1, 2, 0] rfl (bX5_readByteProof_75 (fun h => ih h) h)
            · replace h := ifn hc h
              refine z_aload_n (pc := 63) 1 rfl dX5_readByteProof_63 rfl ?_
              refine z_iconst (pc := 64) (v := 1) dX5_readByteProof_64 (by decide) ?_
              refine z_aload_n (pc := 65) 1 rfl dX5_readByteProof_65 rfl ?_
              obtain ⟨a23, x22, e24, h⟩ := iI h
              refine y_getI (pc := 66) flRX5_15 dX5_readByteProof_66 rfl a23 e24 ?_
              obtain ⟨a26, q25, e27, h⟩ := iC h
              refine y_V (pc := 69) (M2 := mX5_blame) (As := [.int 1, .int x22]) (okX5_blame e27) mvX5_blame mlRX5_84 dX5_readByteProof_69 ⟨by decide, by decide⟩ rfl rfl rfl zrest0 a26 ?_
              refine z_goto (pc := 72) (tgt := 128) dX5_readByteProof_72 (by decide) ?_
              exact z_sub [1, 2] rfl (bX5_readByteProof_128 (fun h => ih h) h)
def fX5_readByteProof (l0 : Nat) (l1 : Nat) (l2 : Int32) (l3 : Nat) (s : zS) : Option zS :=
  bnd (cl s 5 l0 (fX5_begin l0 l1 l2 l3 s)) fun q1 =>
  fX5_readByteProof_10  zfu l0 1 q1
set_option maxRecDepth 100000 in
set_option maxHeartbeats 4000000 in
theorem okX5_readByteProof {E : zE} {l0 : Nat} {l1 : Nat} {l2 : Int32} {l3 : Nat} {s : zS} {t : zS} (h : fX5_readByteProof l0 l1 l2 l3 s = some t) : Cv E mX5_readByteProof [.ref l0, .ref l1, .int l2, .ref l3] s t := by
  refine Ct.of (ls := [(0, .ref l0), (1, .ref l1), (2, .int l2), (3, .ref l3)]) (by decide) rfl (Nat.le_of_ble_eq_true rfl) ?_
  show Z E mX5_readByteProof 0 [(0, .ref l0), (1, .ref l1), (2, .int l2), (3, .ref l3)] [] s (0, 0) (zRv E mX5_readByteProof t)
  unfold fX5_readByteProof at h
  refine z_aload_n (pc := 0) 0 rfl dX5_readByteProof_0 rfl ?_
  refine z_aload_n (pc := 1) 1 rfl dX5_readByteProof_1 rfl ?_
  refine z_iload_n (pc := 2) 2 rfl dX5_readByteProof_2 rfl ?_
  refine z_aload_n (pc := 3) 3 rfl dX5_readByteProof_3 rfl ?_
  obtain ⟨a2, q1, e3, h⟩ := iC h
  refine y_V (pc := 4) (M2 := mX5_begin) (As := [.ref l1, .int l2, .ref l3]) (okX5_begin e3) mvX5_begin mlRX5_47 dX5_readByteProof_4 ⟨by decide, by decide⟩ rfl rfl rfl zrest0 a2 ?_
  refine z_iconst (pc := 7) (v := 1) dX5_readByteProof_7 (by decide) ?_
  refine z_istore (pc := 8) (ls' := [(4, .int 1), (0, .ref l0), (1, .ref l1), (2, .int l2), (3, .ref l3)]) dX5_readByteProof_8 (by decide) (fun _ => rfl) ?_
  exact z_sub [1, 0] rfl (bX5_readByteProof_10  _ h)
def fX7_init (l0 : Nat) (s : zS) : Option zS :=
  bnd (nO s 6) fun s1 =>
  bnd (fX6_init (zn s + 1) 2000 s1) fun q4 =>
  bnd (wR q4 7 l0 0 (zn s + 1)) fun s7 =>
  bnd (nO s7 6) fun s10 =>
  bnd (fX6_init (zn s7 + 1) 301 s10) fun q13 =>
  bnd (wR q13 7 l0 1 (zn s7 + 1)) fun s16 =>
  bnd (nO s16 6) fun s19 =>
  bnd (fX6_init (zn s16 + 1) 301 s19) fun q22 =>
  bnd (wR q22 7 l0 2 (zn s16 + 1)) fun s25 =>
  bnd (wI s25 7 l0 3 0) fun s28 =>
  bnd (wI s28 7 l0 4 0) fun s31 =>
  bnd (wI s31 7 l0 5 0) fun s34 =>
  some s34
set_option maxRecDepth 100000 in
set_option maxHeartbeats 4000000 in
theorem okX7_init {E : zE} {l0 : Nat} {s : zS} {t : zS} (h : fX7_init l0 s = some t) : Cv E mX7_init [.ref l0] s t := by
  refine Ct.of (ls := [(0, .ref l0)]) (by decide) rfl (Nat.le_of_ble_eq_true rfl) ?_
  show Z E mX7_init 0 [(0, .ref l0)] [] s (6, 12003) (zRv E mX7_init t)
  unfold fX7_init at h
  refine z_aload_n (pc := 0) 0 rfl dX7_init_0 rfl ?_
  refine z_objInit (pc := 1) mlRX7_3 ob_i ob_c dX7_init_1 (Nat.le_of_ble_eq_true rfl) (Nat.le_of_ble_eq_true rfl) zrest0 ?_
  refine z_aload_n (pc := 4) 0 rfl dX7_init_4 rfl ?_
  obtain ⟨a2, s1, e3, h⟩ := iNO h
  refine y_new (pc := 5) (b1 := 5) (b2 := 12002) nlRX7_9 dX7_init_5 a2 rfl rfl e3 ?_
  refine z_dup (pc := 8) dX7_init_8 (fun _ => rfl) ?_
  refine z_sipush (pc := 9) (v := 2000) dX7_init_9 (by decide) ?_
  obtain ⟨q4, e6, h⟩ := bnd_i h
  refine y_I (pc := 12) (M2 := mX6_init) (As := [.int 2000]) (b1 := 4) (b2 := 8002) (okX6_init e6) mqX6_init miX6_init rfl rfl mlRX7_11 dX7_init_12 ⟨by decide, by decide⟩ rfl rfl (fun _ => Nat.le_of_ble_eq_true rfl) rfl rfl ?_
  obtain ⟨a8, s7, e9, h⟩ := jR h
  refine y_putR (pc := 15) flRX7_14 dX7_init_15 rfl (Or.inr ⟨rfl, rfl, rfl⟩) a8 e9 ?_
  refine z_aload_n (pc := 18) 0 rfl dX7_init_18 rfl ?_
  obtain ⟨a11, s10, e12, h⟩ := iNO h
  refine y_new (pc := 19) (b1 := 3) (b2 := 8001) nlRX7_9 dX7_init_19 a11 rfl rfl e12 ?_
  refine z_dup (pc := 22) dX7_init_22 (fun _ => rfl) ?_
  refine z_sipush (pc := 23) (v := 301) dX7_init_23 (by decide) ?_
  obtain ⟨q13, e15, h⟩ := bnd_i h
  refine y_I (pc := 26) (M2 := mX6_init) (As := [.int 301]) (b1 := 2) (b2 := 4001) (okX6_init e15) mqX6_init miX6_init rfl rfl mlRX7_11 dX7_init_26 ⟨by decide, by decide⟩ rfl rfl (fun _ => Nat.le_of_ble_eq_true rfl) rfl rfl ?_
  obtain ⟨a17, s16, e18, h⟩ := jR h
  refine y_putR (pc := 29) flRX7_20 dX7_init_29 rfl (Or.inr ⟨rfl, rfl, rfl⟩) a17 e18 ?_
  refine z_aload_n (pc := 32) 0 rfl dX7_init_32 rfl ?_
  obtain ⟨a20, s19, e21, h⟩ := iNO h
  refine y_new (pc := 33) (b1 := 1) (b2 := 4000) nlRX7_9 dX7_init_33 a20 rfl rfl e21 ?_
  refine z_dup (pc := 36) dX7_init_36 (fun _ => rfl) ?_
  refine z_sipush (pc := 37) (v := 301) dX7_init_37 (by decide) ?_
  obtain ⟨q22, e24, h⟩ := bnd_i h
  refine y_I (pc := 40) (M2 := mX6_init) (As := [.int 301]) (b1 := 0) (b2 := 0) (okX6_init e24) mqX6_init miX6_init rfl rfl mlRX7_11 dX7_init_40 ⟨by decide, by decide⟩ rfl rfl (fun _ => Nat.le_of_ble_eq_true rfl) rfl rfl ?_
  obtain ⟨a26, s25, e27, h⟩ := jR h
  refine y_putR (pc := 43) flRX7_23 dX7_init_43 rfl (Or.inr ⟨rfl, rfl, rfl⟩) a26 e27 ?_
  refine z_aload_n (pc := 46) 0 rfl dX7_init_46 rfl ?_
  refine z_iconst (pc := 47) (v := 0) dX7_init_47 (by decide) ?_
  obtain ⟨a29, s28, e30, h⟩ := jI h
  refine y_putI (pc := 48) flRX7_26 dX7_init_48 rfl (Or.inl rfl) a29 e30 ?_
  refine z_aload_n (pc := 51) 0 rfl dX7_init_51 rfl ?_
  refine z_iconst (pc := 52) (v := 0) dX7_init_52 (by decide) ?_
  obtain ⟨a32, s31, e33, h⟩ := jI h
  refine y_putI (pc := 53) flRX7_30 dX7_init_53 rfl (Or.inl rfl) a32 e33 ?_
  refine z_aload_n (pc := 56) 0 rfl dX7_init_56 rfl ?_
  refine z_iconst (pc := 57) (v := 0) dX7_init_57 (by decide) ?_
  obtain ⟨a35, s34, e36, h⟩ := jI h
  refine y_putI (pc := 58) flRX7_33 dX7_init_58 rfl (Or.inl rfl) a35 e36 ?_
  exact y_ret (pc := 61) dX7_init_61 rfl h
def fX7_variables (l0 : Nat) (s : zS) : Option (Int32 × zS) :=
  bnd (qI s 7 l0 5) fun x1 =>
  some (x1, s)
set_option maxRecDepth 100000 in
set_option maxHeartbeats 4000000 in
theorem okX7_variables {E : zE} {l0 : Nat} {s : zS} {q : Int32 × zS} (h : fX7_variables l0 s = some q) : Ci E mX7_variables [.ref l0] s q.1 q.2 := by
  refine Ct.of (ls := [(0, .ref l0)]) (by decide) rfl (Nat.le_of_ble_eq_true rfl) ?_
  show Z E mX7_variables 0 [(0, .ref l0)] [] s (0, 0) (zRi E mX7_variables q.1 q.2)
  unfold fX7_variables at h
  refine z_aload_n (pc := 0) 0 rfl dX7_variables_0 rfl ?_
  obtain ⟨a2, x1, e3, h⟩ := iI h
  refine y_getI (pc := 1) flRX7_33 dX7_variables_1 rfl a2 e3 ?_
  exact y_iret (pc := 4) dX7_variables_4 rfl h
def fX9_init (l0 : Nat) (s : zS) : Option zS :=
  bnd (nO s 0) fun s1 =>
  bnd (fX0_init (zn s + 1) 6000 s1) fun q4 =>
  bnd (wR q4 9 l0 0 (zn s + 1)) fun s7 =>
  bnd (nO s7 0) fun s10 =>
  bnd (fX0_init (zn s7 + 1) 6000 s10) fun q13 =>
  bnd (wR q13 9 l0 1 (zn s7 + 1)) fun s16 =>
  bnd (nO s16 7) fun s19 =>
  bnd (fX7_init (zn s16 + 1)  s19) fun q22 =>
  bnd (wR q22 9 l0 2 (zn s16 + 1)) fun s25 =>
  bnd (nO s25 7) fun s28 =>
  bnd (fX7_init (zn s25 + 1)  s28) fun q31 =>
  bnd (wR q31 9 l0 3 (zn s25 + 1)) fun s34 =>
  bnd (nO s34 7) fun s37 =>
  bnd (fX7_init (zn s34 + 1)  s37) fun q40 =>
  bnd (wR q40 9 l0 4 (zn s34 + 1)) fun s43 =>
  bnd (nO s43 5) fun s46 =>
  bnd (qR s46 9 l0 0) fun x49 =>
  bnd (qR s46 9 l0 4) fun x52 =>
  bnd (fX5_init (zn s43 + 1) x49 x52 s46) fun q55 =>
  bnd (wR q55 9 l0 5 (zn s43 + 1)) fun s58 =>
  bnd (nO s58 1) fun s61 =>
  bnd (qR s61 9 l0 3) fun x64 =>
  bnd (fX1_init (zn s58 + 1) x64 s61) fun q67 =>
  bnd (wR q67 9 l0 6 (zn s58 + 1)) fun s70 =>
  bnd (nO s70 3) fun s73 =>
  bnd (qR s73 9 l0 6) fun x76 =>
  bnd (fX3_init (zn s70 + 1) x76 s73) fun q79 =>
  bnd (wR q79 9 l0 7 (zn s70 + 1)) fun s82 =>
  bnd (wI s82 9 l0 8 0) fun s85 =>
  bnd (wI s85 9 l0 9 (-1)) fun s88 =>
  some s88
set_option maxRecDepth 100000 in
set_option maxHeartbeats 4000000 in
theorem okX9_init {E : zE} {l0 : Nat} {s : zS} {t : zS} (h : fX9_init l0 s = some t) : Cv E mX9_init [.ref l0] s t := by
  refine Ct.of (ls := [(0, .ref l0)]) (by decide) rfl (Nat.le_of_ble_eq_true rfl) ?_
  show Z E mX9_init 0 [(0, .ref l0)] [] s (73, 132108) (zRv E mX9_init t)
  unfold fX9_init at h
  refine z_aload_n (pc := 0) 0 rfl dX9_init_0 rfl ?_
  refine z_objInit (pc := 1) mlRX9_3 ob_i ob_c dX9_init_1 (Nat.le_of_ble_eq_true rfl) (Nat.le_of_ble_eq_true rfl) zrest0 ?_
  refine z_aload_n (pc := 4) 0 rfl dX9_init_4 rfl ?_
  obtain ⟨a2, s1, e3, h⟩ := iNO h
  refine y_new (pc := 5) (b1 := 72) (b2 := 132106) nlRX9_9 dX9_init_5 a2 rfl rfl e3 ?_
  refine z_dup (pc := 8) dX9_init_8 (fun _ => rfl) ?_
  refine z_sipush (pc := 9) (v := 6000) dX9_init_9 (by decide) ?_
  obtain ⟨q4, e6, h⟩ := bnd_i h
  refine y_I (pc := 12) (M2 := mX0_init) (As := [.int 6000]) (b1 := 71) (b2 := 126106) (okX0_init e6) mqX0_init miX0_init rfl rfl mlRX9_11 dX9_init_12 ⟨by decide, by decide⟩ rfl rfl (fun _ => Nat.le_of_ble_eq_true rfl) rfl rfl ?_
  obtain ⟨a8, s7, e9, h⟩ := jR h
  refine y_putR (pc := 15) flRX9_14 dX9_init_15 rfl (Or.inr ⟨rfl, rfl, rfl⟩) a8 e9 ?_
  refine z_aload_n (pc := 18) 0 rfl dX9_init_18 rfl ?_
  obtain ⟨a11, s10, e12, h⟩ := iNO h
  refine y_new (pc := 19) (b1 := 70) (b2 := 126104) nlRX9_9 dX9_init_19 a11 rfl rfl e12 ?_
  refine z_dup (pc := 22) dX9_init_22 (fun _ => rfl) ?_
  refine z_sipush (pc := 23) (v := 6000) dX9_init_23 (by decide) ?_
  obtain ⟨q13, e15, h⟩ := bnd_i h
  refine y_I (pc := 26) (M2 := mX0_init) (As := [.int 6000]) (b1 := 69) (b2 := 120104) (okX0_init e15) mqX0_init miX0_init rfl rfl mlRX9_11 dX9_init_26 ⟨by decide, by decide⟩ rfl rfl (fun _ => Nat.le_of_ble_eq_true rfl) rfl rfl ?_
  obtain ⟨a17, s16, e18, h⟩ := jR h
  refine y_putR (pc := 29) flRX9_18 dX9_init_29 rfl (Or.inr ⟨rfl, rfl, rfl⟩) a17 e18 ?_
  refine z_aload_n (pc := 32) 0 rfl dX9_init_32 rfl ?_
  obtain ⟨a20, s19, e21, h⟩ := iNO h
  refine y_new (pc := 33) (b1 := 68) (b2 := 120098) nlRX9_21 dX9_init_33 a20 rfl rfl e21 ?_
  refine z_dup (pc := 36) dX9_init_36 (fun _ => rfl) ?_
  obtain ⟨q22, e24, h⟩ := bnd_i h
  refine y_IN (pc := 37) (M2 := mX7_init) (As := []) (b1 := 62) (b2 := 108095) (okX7_init e24) mqX7_init miX7_init rfl rfl neRX9_23 dX9_init_37 ⟨by decide, by decide⟩ rfl rfl (fun _ => Nat.le_of_ble_eq_true rfl) rfl rfl ?_
  obtain ⟨a26, s25, e27, h⟩ := jR h
  refine y_putR (pc := 40) flRX9_24 dX9_init_40 rfl (Or.inl rfl) a26 e27 ?_
  refine z_aload_n (pc := 43) 0 rfl dX9_init_43 rfl ?_
  obtain ⟨a29, s28, e30, h⟩ := iNO h
  refine y_new (pc := 44) (b1 := 61) (b2 := 108089) nlRX9_21 dX9_init_44 a29 rfl rfl e30 ?_
  refine z_dup (pc := 47) dX9_init_47 (fun _ => rfl) ?_
  obtain ⟨q31, e33, h⟩ := bnd_i h
  refine y_IN (pc := 48) (M2 := mX7_init) (As := []) (b1 := 55) (b2 := 96086) (okX7_init e33) mqX7_init miX7_init rfl rfl neRX9_23 dX9_init_48 ⟨by decide, by decide⟩ rfl rfl (fun _ => Nat.le_of_ble_eq_true rfl) rfl rfl ?_
  obtain ⟨a35, s34, e36, h⟩ := jR h
  refine y_putR (pc := 51) flRX9_28 dX9_init_51 rfl (Or.inl rfl) a35 e36 ?_
  refine z_aload_n (pc := 54) 0 rfl dX9_init_54 rfl ?_
  obtain ⟨a38, s37, e39, h⟩ := iNO h
  refine y_new (pc := 55) (b1 := 54) (b2 := 96080) nlRX9_21 dX9_init_55 a38 rfl rfl e39 ?_
  refine z_dup (pc := 58) dX9_init_58 (fun _ => rfl) ?_
  obtain ⟨q40, e42, h⟩ := bnd_i h
  refine y_IN (pc := 59) (M2 := mX7_init) (As := []) (b1 := 48) (b2 := 84077) (okX7_init e42) mqX7_init miX7_init rfl rfl neRX9_23 dX9_init_59 ⟨by decide, by decide⟩ rfl rfl (fun _ => Nat.le_of_ble_eq_true rfl) rfl rfl ?_
  obtain ⟨a44, s43, e45, h⟩ := jR h
  refine y_putR (pc := 62) flRX9_31 dX9_init_62 rfl (Or.inl rfl) a44 e45 ?_
  refine z_aload_n (pc := 65) 0 rfl dX9_init_65 rfl ?_
  obtain ⟨a47, s46, e48, h⟩ := iNO h
  refine y_new (pc := 66) (b1 := 47) (b2 := 84068) nlRX9_34 dX9_init_66 a47 rfl rfl e48 ?_
  refine z_dup (pc := 69) dX9_init_69 (fun _ => rfl) ?_
  refine z_aload_n (pc := 70) 0 rfl dX9_init_70 rfl ?_
  obtain ⟨a50, x49, e51, h⟩ := iR h
  refine y_getR (pc := 71) flRX9_14 dX9_init_71 rfl a50 e51 ?_
  refine z_aload_n (pc := 74) 0 rfl dX9_init_74 rfl ?_
  obtain ⟨a53, x52, e54, h⟩ := iR h
  refine y_getR (pc := 75) flRX9_31 dX9_init_75 rfl a53 e54 ?_
  obtain ⟨q55, e57, h⟩ := bnd_i h
  refine y_I (pc := 78) (M2 := mX5_init) (As := [.ref x49, .ref x52]) (b1 := 46) (b2 := 84064) (okX5_init e57) mqX5_init miX5_init rfl rfl mlRX9_36 dX9_init_78 ⟨by decide, by decide⟩ rfl rfl (fun _ => Nat.le_of_ble_eq_true rfl) rfl rfl ?_
  obtain ⟨a59, s58, e60, h⟩ := jR h
  refine y_putR (pc := 81) flRX9_39 dX9_init_81 rfl (Or.inr ⟨rfl, rfl, rfl⟩) a59 e60 ?_
  refine z_aload_n (pc := 84) 0 rfl dX9_init_84 rfl ?_
  obtain ⟨a62, s61, e63, h⟩ := iNO h
  refine y_new (pc := 85) (b1 := 45) (b2 := 84054) nlRX9_43 dX9_init_85 a62 rfl rfl e63 ?_
  refine z_dup (pc := 88) dX9_init_88 (fun _ => rfl) ?_
  refine z_aload_n (pc := 89) 0 rfl dX9_init_89 rfl ?_
  obtain ⟨a65, x64, e66, h⟩ := iR h
  refine y_getR (pc := 90) flRX9_28 dX9_init_90 rfl a65 e66 ?_
  obtain ⟨q67, e69, h⟩ := bnd_i h
  refine y_I (pc := 93) (M2 := mX1_init) (As := [.ref x64]) (b1 := 33) (b2 := 60048) (okX1_init e69) mqX1_init miX1_init rfl rfl mlRX9_45 dX9_init_93 ⟨by decide, by decide⟩ rfl rfl (fun _ => Nat.le_of_ble_eq_true rfl) rfl rfl ?_
  obtain ⟨a71, s70, e72, h⟩ := jR h
  refine y_putR (pc := 96) flRX9_48 dX9_init_96 rfl (Or.inr ⟨rfl, rfl, rfl⟩) a71 e72 ?_
  refine z_aload_n (pc := 99) 0 rfl dX9_init_99 rfl ?_
  obtain ⟨a74, s73, e75, h⟩ := iNO h
  refine y_new (pc := 100) (b1 := 32) (b2 := 60037) nlRX9_52 dX9_init_100 a74 rfl rfl e75 ?_
  refine z_dup (pc := 103) dX9_init_103 (fun _ => rfl) ?_
  refine z_aload_n (pc := 104) 0 rfl dX9_init_104 rfl ?_
  obtain ⟨a77, x76, e78, h⟩ := iR h
  refine y_getR (pc := 105) flRX9_48 dX9_init_105 rfl a77 e78 ?_
  obtain ⟨q79, e81, h⟩ := bnd_i h
  refine y_I (pc := 108) (M2 := mX3_init) (As := [.ref x76]) (b1 := 0) (b2 := 0) (okX3_init e81) mqX3_init miX3_init rfl rfl mlRX9_54 dX9_init_108 ⟨by decide, by decide⟩ rfl rfl (fun _ => Nat.le_of_ble_eq_true rfl) rfl rfl ?_
  obtain ⟨a83, s82, e84, h⟩ := jR h
  refine y_putR (pc := 111) flRX9_57 dX9_init_111 rfl (Or.inr ⟨rfl, rfl, rfl⟩) a83 e84 ?_
  refine z_aload_n (pc := 114) 0 rfl dX9_init_114 rfl ?_
  refine z_iconst (pc := 115) (v := 0) dX9_init_115 (by decide) ?_
  obtain ⟨a86, s85, e87, h⟩ := jI h
  refine y_putI (pc := 116) flRX9_61 dX9_init_116 rfl (Or.inl rfl) a86 e87 ?_
  refine z_aload_n (pc := 119) 0 rfl dX9_init_119 rfl ?_
  refine z_iconst (pc := 120) (v := (-1)) dX9_init_120 (by decide) ?_
  obtain ⟨a89, s88, e90, h⟩ := jI h
  refine y_putI (pc := 121) flRX9_65 dX9_init_121 rfl (Or.inl rfl) a89 e90 ?_
  exact y_ret (pc := 124) dX9_init_124 rfl h
def fX9_feed (l0 : Nat) (l1 : Int32) (l2 : Int32) (l3 : Int32) (l4 : Int32) (l5 : Int32) (s : zS) : Option (Int32 × zS) :=
  bnd (qR s 9 l0 0) fun x1 =>
  bnd (cl s 0 x1 (fX0_written x1  s)) fun q4 =>
  if (q4.1 + 20) ≤ 6000 then
    bnd (qR q4.2 9 l0 0) fun x7 =>
    bnd (cl q4.2 0 x7 (fX0_addWord x7 l1 q4.2)) fun q10 =>
    bnd (qR q10 9 l0 0) fun x13 =>
    bnd (cl q10 0 x13 (fX0_addWord x13 l2 q10)) fun q16 =>
    bnd (qR q16 9 l0 0) fun x19 =>
    bnd (cl q16 0 x19 (fX0_addWord x19 l3 q16)) fun q22 =>
    bnd (qR q22 9 l0 0) fun x25 =>
    bnd (cl q22 0 x25 (fX0_addWord x25 l4 q22)) fun q28 =>
    bnd (qR q28 9 l0 0) fun x31 =>
    bnd (cl q28 0 x31 (fX0_addWord x31 l5 q28)) fun q34 =>
    bnd (qR q34 9 l0 0) fun x37 =>
    bnd (cl q34 0 x37 (fX0_written x37  q34)) fun q40 =>
    some (q40.1, q40.2)
  else
    some ((-1), q4.2)
set_option maxRecDepth 100000 in
set_option maxHeartbeats 4000000 in
theorem okX9_feed {E : zE} {l0 : Nat} {l1 : Int32} {l2 : Int32} {l3 : Int32} {l4 : Int32} {l5 : Int32} {s : zS} {q : Int32 × zS} (h : fX9_feed l0 l1 l2 l3 l4 l5 s = some q) : Ci E mX9_feed [.ref l0, .int l1, .int l2, .int l3, .int l4, .int l5] s q.1 q.2 := by
  refine Ct.of (ls := [(0, .ref l0), (1, .int l1), (2, .int l2), (3, .int l3), (4, .int l4), (5, .int l5)]) (by decide) rfl (Nat.le_of_ble_eq_true rfl) ?_
  show Z E mX9_feed 0 [(0, .ref l0), (1, .int l1), (2, .int l2), (3, .int l3), (4, .int l4), (5, .int l5)] [] s (0, 0) (zRi E mX9_feed q.1 q.2)
  unfold fX9_feed at h
  refine z_aload_n (pc := 0) 0 rfl dX9_feed_0 rfl ?_
  obtain ⟨a2, x1, e3, h⟩ := iR h
  refine y_getR (pc := 1) flRX9_14 dX9_feed_1 rfl a2 e3 ?_
  obtain ⟨a5, q4, e6, h⟩ := iC h
  refine y_Vi (pc := 4) (M2 := mX0_written) (As := []) (okX0_written e6) mvX0_written mlRX9_68 dX9_feed_4 ⟨by decide, by decide⟩ rfl rfl rfl zrest0 a5 ?_
  refine z_bipush (pc := 7) (v := 20) dX9_feed_7 (by decide) ?_
  refine z_iadd (pc := 9) dX9_feed_9 ?_
  refine z_sipush (pc := 10) (v := 6000) dX9_feed_10 (by decide) ?_
  refine z_icmp_le (pc := 13) (tgt := 18) dX9_feed_13 (by decide) (fun hc => ?_) (fun hc => ?_)
  · replace h := ifp hc h
    refine z_aload_n (pc := 18) 0 rfl dX9_feed_18 rfl ?_
    obtain ⟨a8, x7, e9, h⟩ := iR h
    refine y_getR (pc := 19) flRX9_14 dX9_feed_19 rfl a8 e9 ?_
    refine z_iload_n (pc := 22) 1 rfl dX9_feed_22 rfl ?_
    obtain ⟨a11, q10, e12, h⟩ := iC h
    refine y_V (pc := 23) (M2 := mX0_addWord) (As := [.int l1]) (okX0_addWord e12) mvX0_addWord mlRX9_72 dX9_feed_23 ⟨by decide, by decide⟩ rfl rfl rfl zrest0 a11 ?_
    refine z_aload_n (pc := 26) 0 rfl dX9_feed_26 rfl ?_
    obtain ⟨a14, x13, e15, h⟩ := iR h
    refine y_getR (pc := 27) flRX9_14 dX9_feed_27 rfl a14 e15 ?_
    refine z_iload_n (pc := 30) 2 rfl dX9_feed_30 rfl ?_
    obtain ⟨a17, q16, e18, h⟩ := iC h
    refine y_V (pc := 31) (M2 := mX0_addWord) (As := [.int l2]) (okX0_addWord e18) mvX0_addWord mlRX9_72 dX9_feed_31 ⟨by decide, by decide⟩ rfl rfl rfl zrest0 a17 ?_
    refine z_aload_n (pc := 34) 0 rfl dX9_feed_34 rfl ?_
    obtain ⟨a20, x19, e21, h⟩ := iR h
    refine y_getR (pc := 35) flRX9_14 dX9_feed_35 rfl a20 e21 ?_
    refine z_iload_n (pc := 38) 3 rfl dX9_feed_38 rfl ?_
    obtain ⟨a23, q22, e24, h⟩ := iC h
    refine y_V (pc := 39) (M2 := mX0_addWord) (As := [.int l3]) (okX0_addWord e24) mvX0_addWord mlRX9_72 dX9_feed_39 ⟨by decide, by decide⟩ rfl rfl rfl zrest0 a23 ?_
    refine z_aload_n (pc := 42) 0 rfl dX9_feed_42 rfl ?_
    obtain ⟨a26, x25, e27, h⟩ := iR h
    refine y_getR (pc := 43) flRX9_14 dX9_feed_43 rfl a26 e27 ?_
    refine z_iload (pc := 46) 4 rfl dX9_feed_46 ?_
    obtain ⟨a29, q28, e30, h⟩ := iC h
    refine y_V (pc := 48) (M2 := mX0_addWord) (As := [.int l4]) (okX0_addWord e30) mvX0_addWord mlRX9_72 dX9_feed_48 ⟨by decide, by decide⟩ rfl rfl rfl zrest0 a29 ?_
    refine z_aload_n (pc := 51) 0 rfl dX9_feed_51 rfl ?_
    obtain ⟨a32, x31, e33, h⟩ := iR h
    refine y_getR (pc := 52) flRX9_14 dX9_feed_52 rfl a32 e33 ?_
    refine z_iload (pc := 55) 5 rfl dX9_feed_55 ?_
    obtain ⟨a35, q34, e36, h⟩ := iC h
    refine y_V (pc := 57) (M2 := mX0_addWord) (As := [.int l5]) (okX0_addWord e36) mvX0_addWord mlRX9_72 dX9_feed_57 ⟨by decide, by decide⟩ rfl rfl rfl zrest0 a35 ?_
    refine z_aload_n (pc := 60) 0 rfl dX9_feed_60 rfl ?_
    obtain ⟨a38, x37, e39, h⟩ := iR h
    refine y_getR (pc := 61) flRX9_14 dX9_feed_61 rfl a38 e39 ?_
    obtain ⟨a41, q40, e42, h⟩ := iC h
    refine y_Vi (pc := 64) (M2 := mX0_written) (As := []) (okX0_written e42) mvX0_written mlRX9_68 dX9_feed_64 ⟨by decide, by decide⟩ rfl rfl rfl zrest0 a41 ?_
    exact y_iret (pc := 67) dX9_feed_67 rfl h
  · replace h := ifn hc h
    refine z_iconst (pc := 16) (v := (-1)) dX9_feed_16 (by decide) ?_
    exact y_iret (pc := 17) dX9_feed_17 rfl h
def fX9_noteReading (l0 : Nat) (s : zS) : Option zS :=
  bnd (qR s 9 l0 5) fun x1 =>
  bnd (cl s 5 x1 (fX5_kind x1  s)) fun q4 =>
  bnd (wI q4.2 9 l0 8 q4.1) fun s7 =>
  bnd (qR s7 9 l0 5) fun x10 =>
  bnd (cl s7 5 x10 (fX5_place x10  s7)) fun q13 =>
  bnd (wI q13.2 9 l0 9 q13.1) fun s16 =>
  bnd (qR s16 9 l0 0) fun x19 =>
  bnd (cl s16 0 x19 (fX0_clear x19  s16)) fun q22 =>
  some q22
set_option maxRecDepth 100000 in
set_option maxHeartbeats 4000000 in
theorem okX9_noteReading {E : zE} {l0 : Nat} {s : zS} {t : zS} (h : fX9_noteReading l0 s = some t) : Cv E mX9_noteReading [.ref l0] s t := by
  refine Ct.of (ls := [(0, .ref l0)]) (by decide) rfl (Nat.le_of_ble_eq_true rfl) ?_
  show Z E mX9_noteReading 0 [(0, .ref l0)] [] s (0, 0) (zRv E mX9_noteReading t)
  unfold fX9_noteReading at h
  refine z_aload_n (pc := 0) 0 rfl dX9_noteReading_0 rfl ?_
  refine z_aload_n (pc := 1) 0 rfl dX9_noteReading_1 rfl ?_
  obtain ⟨a2, x1, e3, h⟩ := iR h
  refine y_getR (pc := 2) flRX9_39 dX9_noteReading_2 rfl a2 e3 ?_
  obtain ⟨a5, q4, e6, h⟩ := iC h
  refine y_Vi (pc := 5) (M2 := mX5_kind) (As := []) (okX5_kind e6) mvX5_kind mlRX9_205 dX9_noteReading_5 ⟨by decide, by decide⟩ rfl rfl rfl (fun _ => Nat.le_of_ble_eq_true rfl) a5 ?_
  obtain ⟨a8, s7, e9, h⟩ := jI h
  refine y_putI (pc := 8) flRX9_61 dX9_noteReading_8 rfl (Or.inl rfl) a8 e9 ?_
  refine z_aload_n (pc := 11) 0 rfl dX9_noteReading_11 rfl ?_
  refine z_aload_n (pc := 12) 0 rfl dX9_noteReading_12 rfl ?_
  obtain ⟨a11, x10, e12, h⟩ := iR h
  refine y_getR (pc := 13) flRX9_39 dX9_noteReading_13 rfl a11 e12 ?_
  obtain ⟨a14, q13, e15, h⟩ := iC h
  refine y_Vi (pc := 16) (M2 := mX5_place) (As := []) (okX5_place e15) mvX5_place mlRX9_208 dX9_noteReading_16 ⟨by decide, by decide⟩ rfl rfl rfl (fun _ => Nat.le_of_ble_eq_true rfl) a14 ?_
  obtain ⟨a17, s16, e18, h⟩ := jI h
  refine y_putI (pc := 19) flRX9_65 dX9_noteReading_19 rfl (Or.inl rfl) a17 e18 ?_
  refine z_aload_n (pc := 22) 0 rfl dX9_noteReading_22 rfl ?_
  obtain ⟨a20, x19, e21, h⟩ := iR h
  refine y_getR (pc := 23) flRX9_14 dX9_noteReading_23 rfl a20 e21 ?_
  obtain ⟨a23, q22, e24, h⟩ := iC h
  refine y_V (pc := 26) (M2 := mX0_clear) (As := []) (okX0_clear e24) mvX0_clear mlRX9_187 dX9_noteReading_26 ⟨by decide, by decide⟩ rfl rfl rfl zrest0 a23 ?_
  exact y_ret (pc := 29) dX9_noteReading_29 rfl h
def fX9_startAnew (l0 : Nat) (s : zS) : Option zS :=
  bnd (qR s 9 l0 6) fun x1 =>
  bnd (qR s 9 l0 2) fun x4 =>
  bnd (qR s 9 l0 3) fun x7 =>
  bnd (cl s 1 x1 (fX1_numberAll x1 x4 x7 s)) fun q10 =>
  bnd (qR q10 9 l0 7) fun x13 =>
  bnd (cl q10 3 x13 (fX3_forget x13  q10)) fun q16 =>
  some q16
set_option maxRecDepth 100000 in
set_option maxHeartbeats 4000000 in
theorem okX9_startAnew {E : zE} {l0 : Nat} {s : zS} {t : zS} (h : fX9_startAnew l0 s = some t) : Cv E mX9_startAnew [.ref l0] s t := by
  refine Ct.of (ls := [(0, .ref l0)]) (by decide) rfl (Nat.le_of_ble_eq_true rfl) ?_
  show Z E mX9_startAnew 0 [(0, .ref l0)] [] s (0, 0) (zRv E mX9_startAnew t)
  unfold fX9_startAnew at h
  refine z_aload_n (pc := 0) 0 rfl dX9_startAnew_0 rfl ?_
  obtain ⟨a2, x1, e3, h⟩ := iR h
  refine y_getR (pc := 1) flRX9_48 dX9_startAnew_1 rfl a2 e3 ?_
  refine z_aload_n (pc := 4) 0 rfl dX9_startAnew_4 rfl ?_
  obtain ⟨a5, x4, e6, h⟩ := iR h
  refine y_getR (pc := 5) flRX9_24 dX9_startAnew_5 rfl a5 e6 ?_
  refine z_aload_n (pc := 8) 0 rfl dX9_startAnew_8 rfl ?_
  obtain ⟨a8, x7, e9, h⟩ := iR h
  refine y_getR (pc := 9) flRX9_28 dX9_startAnew_9 rfl a8 e9 ?_
  obtain ⟨a11, q10, e12, h⟩ := iC h
  refine y_V (pc := 12) (M2 := mX1_numberAll) (As := [.ref x4, .ref x7]) (okX1_numberAll e12) mvX1_numberAll mlRX9_211 dX9_startAnew_12 ⟨by decide, by decide⟩ rfl rfl rfl zrest0 a11 ?_
  refine z_aload_n (pc := 15) 0 rfl dX9_startAnew_15 rfl ?_
  obtain ⟨a14, x13, e15, h⟩ := iR h
  refine y_getR (pc := 16) flRX9_57 dX9_startAnew_16 rfl a14 e15 ?_
  obtain ⟨a17, q16, e18, h⟩ := iC h
  refine y_V (pc := 19) (M2 := mX3_forget) (As := []) (okX3_forget e18) mvX3_forget mlRX9_215 dX9_startAnew_19 ⟨by decide, by decide⟩ rfl rfl rfl zrest0 a17 ?_
  exact y_ret (pc := 22) dX9_startAnew_22 rfl h
def fX9_tapeHas (l0 : Nat) (l1 : Int32) (s : zS) : Option (Int32 × zS) :=
  if l1 < 0 then
    gd ((0 : Int32) = 0 ∨ 0 = 1) (some (0, s))
  else
    bnd (qR s 9 l0 0) fun x1 =>
    bnd (cl s 0 x1 (fX0_written x1  s)) fun q4 =>
    if q4.1 < l1 then
      gd ((0 : Int32) = 0 ∨ 0 = 1) (some (0, q4.2))
    else
      gd ((1 : Int32) = 0 ∨ 1 = 1) (some (1, q4.2))
set_option maxRecDepth 100000 in
set_option maxHeartbeats 4000000 in
theorem okX9_tapeHas {E : zE} {l0 : Nat} {l1 : Int32} {s : zS} {q : Int32 × zS} (h : fX9_tapeHas l0 l1 s = some q) : Ci E mX9_tapeHas [.ref l0, .int l1] s q.1 q.2 := by
  refine Ct.of (ls := [(0, .ref l0), (1, .int l1)]) (by decide) rfl (Nat.le_of_ble_eq_true rfl) ?_
  show Z E mX9_tapeHas 0 [(0, .ref l0), (1, .int l1)] [] s (0, 0) (zRi E mX9_tapeHas q.1 q.2)
  unfold fX9_tapeHas at h
  refine z_iload_n (pc := 0) 1 rfl dX9_tapeHas_0 rfl ?_
  refine z_if_lt (pc := 1) (tgt := 19) dX9_tapeHas_1 (by decide) (fun hc => ?_) (fun hc => ?_)
  · replace h := ifp hc h
    refine z_iconst (pc := 19) (v := 0) dX9_tapeHas_19 (by decide) ?_
    exact y_zret (pc := 20) dX9_tapeHas_20 rfl h
  · replace h := ifn hc h
    refine z_iload_n (pc := 4) 1 rfl dX9_tapeHas_4 rfl ?_
    refine z_aload_n (pc := 5) 0 rfl dX9_tapeHas_5 rfl ?_
    obtain ⟨a2, x1, e3, h⟩ := iR h
    refine y_getR (pc := 6) flRX9_14 dX9_tapeHas_6 rfl a2 e3 ?_
    obtain ⟨a5, q4, e6, h⟩ := iC h
    refine y_Vi (pc := 9) (M2 := mX0_written) (As := []) (okX0_written e6) mvX0_written mlRX9_68 dX9_tapeHas_9 ⟨by decide, by decide⟩ rfl rfl rfl (fun _ => Nat.le_of_ble_eq_true rfl) a5 ?_
    refine z_icmp_gt (pc := 12) (tgt := 19) dX9_tapeHas_12 (by decide) (fun hc => ?_) (fun hc => ?_)
    · replace h := ifp hc h
      refine z_iconst (pc := 19) (v := 0) dX9_tapeHas_19 (by decide) ?_
      exact y_zret (pc := 20) dX9_tapeHas_20 rfl h
    · replace h := ifn hc h
      refine z_iconst (pc := 15) (v := 1) dX9_tapeHas_15 (by decide) ?_
      refine z_goto (pc := 16) (tgt := 20) dX9_tapeHas_16 (by decide) ?_
      exact y_zret (pc := 20) dX9_tapeHas_20 rfl h
def fX9_takeSpareAsProof (l0 : Nat) (s : zS) : Option zS :=
  bnd (qR s 9 l0 3) fun x1 =>
  bnd (qR s 9 l0 4) fun x4 =>
  bnd (wR s 9 l0 3 x4) fun s7 =>
  bnd (wR s7 9 l0 4 x1) fun s10 =>
  bnd (cl s10 9 l0 (fX9_startAnew l0  s10)) fun q13 =>
  some q13
set_option maxRecDepth 100000 in
set_option maxHeartbeats 4000000 in
theorem okX9_takeSpareAsProof {E : zE} {l0 : Nat} {s : zS} {t : zS} (h : fX9_takeSpareAsProof l0 s = some t) : Cv E mX9_takeSpareAsProof [.ref l0] s t := by
  refine Ct.of (ls := [(0, .ref l0)]) (by decide) rfl (Nat.le_of_ble_eq_true rfl) ?_
  show Z E mX9_takeSpareAsProof 0 [(0, .ref l0)] [] s (0, 0) (zRv E mX9_takeSpareAsProof t)
  unfold fX9_takeSpareAsProof at h
  refine z_aload_n (pc := 0) 0 rfl dX9_takeSpareAsProof_0 rfl ?_
  obtain ⟨a2, x1, e3, h⟩ := iR h
  refine y_getR (pc := 1) flRX9_28 dX9_takeSpareAsProof_1 rfl a2 e3 ?_
  refine z_astore_n (pc := 4) (ls' := [(1, .ref x1), (0, .ref l0)]) dX9_takeSpareAsProof_4 rfl (by decide) (fun _ => rfl) ?_
  refine z_aload_n (pc := 5) 1 rfl dX9_takeSpareAsProof_5 rfl ?_
  refine z_aload_n (pc := 6) 1 rfl dX9_takeSpareAsProof_6 rfl ?_
  obtain ⟨a5, x4, e6, h⟩ := iR h
  refine y_getR (pc := 7) flRX9_31 dX9_takeSpareAsProof_7 rfl a5 e6 ?_
  obtain ⟨a8, s7, e9, h⟩ := jR h
  refine y_putR (pc := 10) flRX9_28 dX9_takeSpareAsProof_10 rfl (Or.inl rfl) a8 e9 ?_
  refine z_aload_n (pc := 13) 1 rfl dX9_takeSpareAsProof_13 rfl ?_
  refine z_aload_n (pc := 14) 0 rfl dX9_takeSpareAsProof_14 rfl ?_
  obtain ⟨a11, s10, e12, h⟩ := jR h
  refine y_putR (pc := 15) flRX9_31 dX9_takeSpareAsProof_15 rfl (Or.inl rfl) a11 e12 ?_
  refine z_aload_n (pc := 18) 1 rfl dX9_takeSpareAsProof_18 rfl ?_
  obtain ⟨a14, q13, e15, h⟩ := iC h
  refine y_V (pc := 19) (M2 := mX9_startAnew) (As := []) (okX9_startAnew e15) mvX9_startAnew mlRX9_96 dX9_takeSpareAsProof_19 ⟨by decide, by decide⟩ rfl rfl rfl zrest0 a14 ?_
  exact y_ret (pc := 22) dX9_takeSpareAsProof_22 rfl h
def fX9_writeStep_40  (n : Nat) : Nat → Int32 → Int32 → Int32 → zS → Option zS := match n with
  | 0 => fun _ _ _ _ _ => none
  | n + 1 => fun l0 l1 l2 l3 s =>
    if l2 ≤ l3 then
      bnd (qR s 9 l0 1) fun x13 =>
      bnd (cl s 0 x13 (fX0_add x13 48 s)) fun q16 =>
      bnd (qR q16 9 l0 1) fun x19 =>
      bnd (cl q16 0 x19 (fX0_add x19 10 q16)) fun q22 =>
      some q22
    else
      bnd (qR s 9 l0 1) fun x25 =>
      bnd (qR s 9 l0 3) fun x28 =>
      bnd (cl s 7 x28 (fX7_literal x28 l1 l3 s)) fun q31 =>
      bnd (cl q31.2 0 x25 (fX0_addDigits x25 q31.1 q31.2)) fun q34 =>
      bnd (qR q34 9 l0 1) fun x37 =>
      bnd (cl q34 0 x37 (fX0_add x37 32 q34)) fun q40 =>
      (fX9_writeStep_40  n) l0 l1 l2 (l3 + 1) q40
set_option maxRecDepth 100000 in
set_option maxHeartbeats 4000000 in
theorem bX9_writeStep_40 {E : zE}  : ∀ (n : Nat) {l0 : Nat} {l1 : Int32} {l2 : Int32} {l3 : Int32} {s : zS} {q : zS}, fX9_writeStep_40  n l0 l1 l2 l3 s = some q → Z E mX9_writeStep 40 [(0, .ref l0), (1, .int l1), (2, .int l2), (3, .int l3)] [] s (0, 0) (zRv E mX9_writeStep q) := by
  intro n
  induction n with
  | zero => intro l0 l1 l2 l3 s q h; cases h
  | succ n ih =>
    intro l0 l1 l2 l3 s q h
    unfold fX9_writeStep_40 at h
    refine z_iload_n (pc := 40) 3 rfl dX9_writeStep_40 rfl ?_
    refine z_iload_n (pc := 41) 2 rfl dX9_writeStep_41 rfl ?_
    refine z_icmp_ge (pc := 42) (tgt := 76) dX9_writeStep_42 (by decide) (fun hc => ?_) (fun hc => ?_)
    · replace h := ifp hc h
      refine z_aload_n (pc := 76) 0 rfl dX9_writeStep_76 rfl ?_
      obtain ⟨a14, x13, e15, h⟩ := iR h
      refine y_getR (pc := 77) flRX9_18 dX9_writeStep_77 rfl a14 e15 ?_
      refine z_bipush (pc := 80) (v := 48) dX9_writeStep_80 (by decide) ?_
      obtain ⟨a17, q16, e18, h⟩ := iC h
      refine y_V (pc := 82) (M2 := mX0_add) (As := [.int 48]) (okX0_add e18) mvX0_add mlRX9_218 dX9_writeStep_82 ⟨by decide, by decide⟩ rfl rfl rfl zrest0 a17 ?_
      refine z_aload_n (pc := 85) 0 rfl dX9_writeStep_85 rfl ?_
      obtain ⟨a20, x19, e21, h⟩ := iR h
      refine y_getR (pc := 86) flRX9_18 dX9_writeStep_86 rfl a20 e21 ?_
      refine z_bipush (pc := 89) (v := 10) dX9_writeStep_89 (by decide) ?_
      obtain ⟨a23, q22, e24, h⟩ := iC h
      refine y_V (pc := 91) (M2 := mX0_add) (As := [.int 10]) (okX0_add e24) mvX0_add mlRX9_218 dX9_writeStep_91 ⟨by decide, by decide⟩ rfl rfl rfl zrest0 a23 ?_
      exact y_ret (pc := 94) dX9_writeStep_94 rfl h
    · replace h := ifn hc h
      refine z_aload_n (pc := 45) 0 rfl dX9_writeStep_45 rfl ?_
      obtain ⟨a26, x25, e27, h⟩ := iR h
      refine y_getR (pc := 46) flRX9_18 dX9_writeStep_46 rfl a26 e27 ?_
      refine z_aload_n (pc := 49) 0 rfl dX9_writeStep_49 rfl ?_
      obtain ⟨a29, x28, e30, h⟩ := iR h
      refine y_getR (pc := 50) flRX9_28 dX9_writeStep_50 rfl a29 e30 ?_
      refine z_iload_n (pc := 53) 1 rfl dX9_writeStep_53 rfl ?_
      refine z_iload_n (pc := 54) 3 rfl dX9_writeStep_54 rfl ?_
      obtain ⟨a32, q31, e33, h⟩ := iC h
      refine y_Vi (pc := 55) (M2 := mX7_literal) (As := [.int l1, .int l3]) (okX7_literal e33) mvX7_literal mlRX9_183 dX9_writeStep_55 ⟨by decide, by decide⟩ rfl rfl rfl (fun _ => Nat.le_of_ble_eq_true rfl) a32 ?_
      obtain ⟨a35, q34, e36, h⟩ := iC h
      refine y_V (pc := 58) (M2 := mX0_addDigits) (As := [.int q31.1]) (okX0_addDigits e36) mvX0_addDigits mlRX9_221 dX9_writeStep_58 ⟨by decide, by decide⟩ rfl rfl rfl zrest0 a35 ?_
      refine z_aload_n (pc := 61) 0 rfl dX9_writeStep_61 rfl ?_
      obtain ⟨a38, x37, e39, h⟩ := iR h
      refine y_getR (pc := 62) flRX9_18 dX9_writeStep_62 rfl a38 e39 ?_
      refine z_bipush (pc := 65) (v := 32) dX9_writeStep_65 (by decide) ?_
      obtain ⟨a41, q40, e42, h⟩ := iC h
      refine y_V (pc := 67) (M2 := mX0_add) (As := [.int 32]) (okX0_add e42) mvX0_add mlRX9_218 dX9_writeStep_67 ⟨by decide, by decide⟩ rfl rfl rfl zrest0 a41 ?_
      refine z_iinc (pc := 70) (v := (l3 + 1)) (ls' := [(3, .int (l3 + 1)), (0, .ref l0), (1, .int l1), (2, .int l2)]) 3 rfl rfl dX9_writeStep_70 (by decide) (fun _ => rfl) ?_
      refine z_goto (pc := 73) (tgt := 40) dX9_writeStep_73 (by decide) ?_
      exact z_sub [1, 2, 3, 0] rfl (ih h)
def fX9_writeStep_29  (l0 : Nat) (l1 : Int32) (s : zS) : Option zS :=
  bnd (qR s 9 l0 3) fun x7 =>
  bnd (cl s 7 x7 (fX7_size x7 l1 s)) fun q10 =>
  fX9_writeStep_40  zfu l0 l1 q10.1 0 q10.2
set_option maxRecDepth 100000 in
set_option maxHeartbeats 4000000 in
theorem bX9_writeStep_29 {E : zE}   {l0 : Nat} {l1 : Int32} {s : zS} {q : zS} (h : fX9_writeStep_29  l0 l1 s = some q) : Z E mX9_writeStep 29 [(0, .ref l0), (1, .int l1)] [] s (0, 0) (zRv E mX9_writeStep q) := by
  unfold fX9_writeStep_29 at h
  refine z_aload_n (pc := 29) 0 rfl dX9_writeStep_29 rfl ?_
  obtain ⟨a8, x7, e9, h⟩ := iR h
  refine y_getR (pc := 30) flRX9_28 dX9_writeStep_30 rfl a8 e9 ?_
  refine z_iload_n (pc := 33) 1 rfl dX9_writeStep_33 rfl ?_
  obtain ⟨a11, q10, e12, h⟩ := iC h
  refine y_Vi (pc := 34) (M2 := mX7_size) (As := [.int l1]) (okX7_size e12) mvX7_size mlRX9_182 dX9_writeStep_34 ⟨by decide, by decide⟩ rfl rfl rfl zrest0 a11 ?_
  refine z_istore_n (pc := 37) (ls' := [(2, .int q10.1), (0, .ref l0), (1, .int l1)]) dX9_writeStep_37 rfl (by decide) (fun _ => rfl) ?_
  refine z_iconst (pc := 38) (v := 0) dX9_writeStep_38 (by decide) ?_
  refine z_istore_n (pc := 39) (ls' := [(3, .int 0), (2, .int q10.1), (0, .ref l0), (1, .int l1)]) dX9_writeStep_39 rfl (by decide) (fun _ => rfl) ?_
  exact z_sub [2, 3, 1, 0] rfl (bX9_writeStep_40  _ h)
def fX9_writeStep (l0 : Nat) (l1 : Int32) (s : zS) : Option zS :=
  bnd (qR s 9 l0 3) fun x1 =>
  bnd (cl s 7 x1 (fX7_isDeletion x1 l1 s)) fun q4 =>
  if q4.1 = 0 then
    fX9_writeStep_29  l0 l1 q4.2
  else
    bnd (qR q4.2 9 l0 1) fun x7 =>
    bnd (cl q4.2 0 x7 (fX0_add x7 100 q4.2)) fun q10 =>
    bnd (qR q10 9 l0 1) fun x13 =>
    bnd (cl q10 0 x13 (fX0_add x13 32 q10)) fun q16 =>
    fX9_writeStep_29  l0 l1 q16
set_option maxRecDepth 100000 in
set_option maxHeartbeats 4000000 in
theorem okX9_writeStep {E : zE} {l0 : Nat} {l1 : Int32} {s : zS} {t : zS} (h : fX9_writeStep l0 l1 s = some t) : Cv E mX9_writeStep [.ref l0, .int l1] s t := by
  refine Ct.of (ls := [(0, .ref l0), (1, .int l1)]) (by decide) rfl (Nat.le_of_ble_eq_true rfl) ?_
  show Z E mX9_writeStep 0 [(0, .ref l0), (1, .int l1)] [] s (0, 0) (zRv E mX9_writeStep t)
  unfold fX9_writeStep at h
  refine z_aload_n (pc := 0) 0 rfl dX9_writeStep_0 rfl ?_
  obtain ⟨a2, x1, e3, h⟩ := iR h
  refine y_getR (pc := 1) flRX9_28 dX9_writeStep_1 rfl a2 e3 ?_
  refine z_iload_n (pc := 4) 1 rfl dX9_writeStep_4 rfl ?_
  obtain ⟨a5, q4, e6, h⟩ := iC h
  refine y_Vi (pc := 5) (M2 := mX7_isDeletion) (As := [.int l1]) (okX7_isDeletion e6) mvX7_isDeletion mlRX9_176 dX9_writeStep_5 ⟨by decide, by decide⟩ rfl rfl rfl zrest0 a5 ?_
  refine z_if_eq (pc := 8) (tgt := 29) dX9_writeStep_8 (by decide) (fun hc => ?_) (fun hc => ?_)
  · replace h := ifp hc h
    exact z_sub [0, 1] rfl (bX9_writeStep_29  h)
  · replace h := ifn hc h
    refine z_aload_n (pc := 11) 0 rfl dX9_writeStep_11 rfl ?_
    obtain ⟨a8, x7, e9, h⟩ := iR h
    refine y_getR (pc := 12) flRX9_18 dX9_writeStep_12 rfl a8 e9 ?_
    refine z_bipush (pc := 15) (v := 100) dX9_writeStep_15 (by decide) ?_
    obtain ⟨a11, q10, e12, h⟩ := iC h
    refine y_V (pc := 17) (M2 := mX0_add) (As := [.int 100]) (okX0_add e12) mvX0_add mlRX9_218 dX9_writeStep_17 ⟨by decide, by decide⟩ rfl rfl rfl zrest0 a11 ?_
    refine z_aload_n (pc := 20) 0 rfl dX9_writeStep_20 rfl ?_
    obtain ⟨a14, x13, e15, h⟩ := iR h
    refine y_getR (pc := 21) flRX9_18 dX9_writeStep_21 rfl a14 e15 ?_
    refine z_bipush (pc := 24) (v := 32) dX9_writeStep_24 (by decide) ?_
    obtain ⟨a17, q16, e18, h⟩ := iC h
    refine y_V (pc := 26) (M2 := mX0_add) (As := [.int 32]) (okX0_add e18) mvX0_add mlRX9_218 dX9_writeStep_26 ⟨by decide, by decide⟩ rfl rfl rfl zrest0 a17 ?_
    exact z_sub [0, 1] rfl (bX9_writeStep_29  h)
def fX9_shorter_38 (k17 : Nat → Int32 → Int32 → zS → Option (Int32 × zS)) (l0 : Nat) (l1 : Int32) (l2 : Int32) (s : zS) : Option (Int32 × zS) :=
  k17 l0 l1 (l2 + 1) s
set_option maxRecDepth 100000 in
set_option maxHeartbeats 4000000 in
theorem bX9_shorter_38 {E : zE} {k17 : Nat → Int32 → Int32 → zS → Option (Int32 × zS)} (hk17 : ∀ {l0 : Nat} {l1 : Int32} {l2 : Int32} {s : zS} {q : Int32 × zS}, k17 l0 l1 l2 s = some q → Z E mX9_shorter 17 [(0, .ref l0), (1, .int l1), (2, .int l2)] [] s (0, 0) (zRi E mX9_shorter q.1 q.2)) {l0 : Nat} {l1 : Int32} {l2 : Int32} {s : zS} {q : Int32 × zS} (h : fX9_shorter_38 k17 l0 l1 l2 s = some q) : Z E mX9_shorter 38 [(0, .ref l0), (1, .int l1), (2, .int l2)] [] s (0, 0) (zRi E mX9_shorter q.1 q.2) := by
  unfold fX9_shorter_38 at h
  refine z_iinc (pc := 38) (v := (l2 + 1)) (ls' := [(2, .int (l2 + 1)), (0, .ref l0), (1, .int l1)]) 2 rfl rfl dX9_shorter_38 (by decide) (fun _ => rfl) ?_
  refine z_goto (pc := 41) (tgt := 17) dX9_shorter_41 (by decide) ?_
  exact z_sub [1, 2, 0] rfl (hk17 h)
def fX9_shorter_17  (n : Nat) : Nat → Int32 → Int32 → zS → Option (Int32 × zS) := match n with
  | 0 => fun _ _ _ _ => none
  | n + 1 => fun l0 l1 l2 s =>
    if l1 < l2 then
      bnd (qR s 9 l0 1) fun x13 =>
      bnd (cl s 0 x13 (fX0_written x13  s)) fun q16 =>
      some (q16.1, q16.2)
    else
      bnd (qR s 9 l0 7) fun x19 =>
      bnd (cl s 3 x19 (fX3_staysInProof x19 l2 s)) fun q22 =>
      if q22.1 = 0 then
        fX9_shorter_38 ((fX9_shorter_17  n)) l0 l1 l2 q22.2
      else
        bnd (cl q22.2 9 l0 (fX9_writeStep l0 l2 q22.2)) fun q25 =>
        fX9_shorter_38 ((fX9_shorter_17  n)) l0 l1 l2 q25
set_option maxRecDepth 100000 in
set_option maxHeartbeats 4000000 in
theorem bX9_shorter_17 {E : zE}  : ∀ (n : Nat) {l0 : Nat} {l1 : Int32} {l2 : Int32} {s : zS} {q : Int32 × zS}, fX9_shorter_17  n l0 l1 l2 s = some q → Z E mX9_shorter 17 [(0, .ref l0), (1, .int l1), (2, .int l2)] [] s (0, 0) (zRi E mX9_shorter q.1 q.2) := by
  intro n
  induction n with
  | zero => intro l0 l1 l2 s q h; cases h
  | succ n ih =>
    intro l0 l1 l2 s q h
    unfold fX9_shorter_17 at h
    refine z_iload_n (pc := 17) 2 rfl dX9_shorter_17 rfl ?_
    refine z_iload_n (pc := 18) 1 rfl dX9_shorter_18 rfl ?_
    refine z_icmp_gt (pc := 19) (tgt := 44) dX9_shorter_19 (by decide) (fun hc => ?_) (fun hc => ?_)
    · replace h := ifp hc h
      refine z_aload_n (pc := 44) 0 rfl dX9_shorter_44 rfl ?_
      obtain ⟨a14, x13, e15, h⟩ := iR h
      refine y_getR (pc := 45) flRX9_18 dX9_shorter_45 rfl a14 e15 ?_
      obtain ⟨a17, q16, e18, h⟩ := iC h
      refine y_Vi (pc := 48) (M2 := mX0_written) (As := []) (okX0_written e18) mvX0_written mlRX9_68 dX9_shorter_48 ⟨by decide, by decide⟩ rfl rfl rfl zrest0 a17 ?_
      exact y_iret (pc := 51) dX9_shorter_51 rfl h
    · replace h := ifn hc h
      refine z_aload_n (pc := 22) 0 rfl dX9_shorter_22 rfl ?_
      obtain ⟨a20, x19, e21, h⟩ := iR h
      refine y_getR (pc := 23) flRX9_57 dX9_shorter_23 rfl a20 e21 ?_
      refine z_iload_n (pc := 26) 2 rfl dX9_shorter_26 rfl ?_
      obtain ⟨a23, q22, e24, h⟩ := iC h
      refine y_Vi (pc := 27) (M2 := mX3_staysInProof) (As := [.int l2]) (okX3_staysInProof e24) mvX3_staysInProof mlRX9_191 dX9_shorter_27 ⟨by decide, by decide⟩ rfl rfl rfl zrest0 a23 ?_
      refine z_if_eq (pc := 30) (tgt := 38) dX9_shorter_30 (by decide) (fun hc => ?_) (fun hc => ?_)
      · replace h := ifp hc h
        exact z_sub [0, 1, 2] rfl (bX9_shorter_38 (fun h => ih h) h)
      · replace h := ifn hc h
        refine z_aload_n (pc := 33) 0 rfl dX9_shorter_33 rfl ?_
        refine z_iload_n (pc := 34) 2 rfl dX9_shorter_34 rfl ?_
        obtain ⟨a26, q25, e27, h⟩ := iC h
        refine y_V (pc := 35) (M2 := mX9_writeStep) (As := [.int l2]) (okX9_writeStep e27) mvX9_writeStep mlRX9_194 dX9_shorter_35 ⟨by decide, by decide⟩ rfl rfl rfl zrest0 a26 ?_
        exact z_sub [0, 1, 2] rfl (bX9_shorter_38 (fun h => ih h) h)
def fX9_shorter (l0 : Nat) (s : zS) : Option (Int32 × zS) :=
  bnd (qR s 9 l0 1) fun x1 =>
  bnd (cl s 0 x1 (fX0_clear x1  s)) fun q4 =>
  bnd (qR q4 9 l0 7) fun x7 =>
  bnd (cl q4 3 x7 (fX3_lastStepWeighed x7  q4)) fun q10 =>
  fX9_shorter_17  zfu l0 q10.1 1 q10.2
set_option maxRecDepth 100000 in
set_option maxHeartbeats 4000000 in
theorem okX9_shorter {E : zE} {l0 : Nat} {s : zS} {q : Int32 × zS} (h : fX9_shorter l0 s = some q) : Ci E mX9_shorter [.ref l0] s q.1 q.2 := by
  refine Ct.of (ls := [(0, .ref l0)]) (by decide) rfl (Nat.le_of_ble_eq_true rfl) ?_
  show Z E mX9_shorter 0 [(0, .ref l0)] [] s (0, 0) (zRi E mX9_shorter q.1 q.2)
  unfold fX9_shorter at h
  refine z_aload_n (pc := 0) 0 rfl dX9_shorter_0 rfl ?_
  obtain ⟨a2, x1, e3, h⟩ := iR h
  refine y_getR (pc := 1) flRX9_18 dX9_shorter_1 rfl a2 e3 ?_
  obtain ⟨a5, q4, e6, h⟩ := iC h
  refine y_V (pc := 4) (M2 := mX0_clear) (As := []) (okX0_clear e6) mvX0_clear mlRX9_187 dX9_shorter_4 ⟨by decide, by decide⟩ rfl rfl rfl zrest0 a5 ?_
  refine z_aload_n (pc := 7) 0 rfl dX9_shorter_7 rfl ?_
  obtain ⟨a8, x7, e9, h⟩ := iR h
  refine y_getR (pc := 8) flRX9_57 dX9_shorter_8 rfl a8 e9 ?_
  obtain ⟨a11, q10, e12, h⟩ := iC h
  refine y_Vi (pc := 11) (M2 := mX3_lastStepWeighed) (As := []) (okX3_lastStepWeighed e12) mvX3_lastStepWeighed mlRX9_188 dX9_shorter_11 ⟨by decide, by decide⟩ rfl rfl rfl zrest0 a11 ?_
  refine z_istore_n (pc := 14) (ls' := [(1, .int q10.1), (0, .ref l0)]) dX9_shorter_14 rfl (by decide) (fun _ => rfl) ?_
  refine z_iconst (pc := 15) (v := 1) dX9_shorter_15 (by decide) ?_
  refine z_istore_n (pc := 16) (ls' := [(2, .int 1), (1, .int q10.1), (0, .ref l0)]) dX9_shorter_16 rfl (by decide) (fun _ => rfl) ?_
  exact z_sub [2, 1, 0] rfl (bX9_shorter_17  _ h)
def fX9_takeShorter (l0 : Nat) (s : zS) : Option (Int32 × zS) :=
  bnd (qR s 9 l0 1) fun x1 =>
  bnd (cl s 0 x1 (fX0_written x1  s)) fun q4 =>
  bnd (qR q4.2 9 l0 1) fun x7 =>
  bnd (cl q4.2 0 x7 (fX0_kept x7  q4.2)) fun q10 =>
  if q4.1 ≤ q10.1 then
    bnd (qR q10.2 9 l0 5) fun x13 =>
    bnd (qR q10.2 9 l0 1) fun x16 =>
    bnd (qR q10.2 9 l0 1) fun x19 =>
    bnd (cl q10.2 0 x19 (fX0_kept x19  q10.2)) fun q22 =>
    bnd (qR q22.2 9 l0 4) fun x25 =>
    bnd (cl q22.2 5 x13 (fX5_readTextProof x13 x16 q22.1 x25 q22.2)) fun q28 =>
    bnd (cl q28 9 l0 (fX9_takeSpareAsProof l0  q28)) fun q31 =>
    bnd (qR q31 9 l0 3) fun x34 =>
    bnd (cl q31 7 x34 (fX7_rows x34  q31)) fun q37 =>
    some (q37.1, q37.2)
  else
    some ((-1), q10.2)
set_option maxRecDepth 100000 in
set_option maxHeartbeats 4000000 in
theorem okX9_takeShorter {E : zE} {l0 : Nat} {s : zS} {q : Int32 × zS} (h : fX9_takeShorter l0 s = some q) : Ci E mX9_takeShorter [.ref l0] s q.1 q.2 := by
  refine Ct.of (ls := [(0, .ref l0)]) (by decide) rfl (Nat.le_of_ble_eq_true rfl) ?_
  show Z E mX9_takeShorter 0 [(0, .ref l0)] [] s (0, 0) (zRi E mX9_takeShorter q.1 q.2)
  unfold fX9_takeShorter at h
  refine z_aload_n (pc := 0) 0 rfl dX9_takeShorter_0 rfl ?_
  obtain ⟨a2, x1, e3, h⟩ := iR h
  refine y_getR (pc := 1) flRX9_18 dX9_takeShorter_1 rfl a2 e3 ?_
  obtain ⟨a5, q4, e6, h⟩ := iC h
  refine y_Vi (pc := 4) (M2 := mX0_written) (As := []) (okX0_written e6) mvX0_written mlRX9_68 dX9_takeShorter_4 ⟨by decide, by decide⟩ rfl rfl rfl zrest0 a5 ?_
  refine z_aload_n (pc := 7) 0 rfl dX9_takeShorter_7 rfl ?_
  obtain ⟨a8, x7, e9, h⟩ := iR h
  refine y_getR (pc := 8) flRX9_18 dX9_takeShorter_8 rfl a8 e9 ?_
  obtain ⟨a11, q10, e12, h⟩ := iC h
  refine y_Vi (pc := 11) (M2 := mX0_kept) (As := []) (okX0_kept e12) mvX0_kept mlRX9_197 dX9_takeShorter_11 ⟨by decide, by decide⟩ rfl rfl rfl (fun _ => Nat.le_of_ble_eq_true rfl) a11 ?_
  refine z_icmp_le (pc := 14) (tgt := 19) dX9_takeShorter_14 (by decide) (fun hc => ?_) (fun hc => ?_)
  · replace h := ifp hc h
    refine z_aload_n (pc := 19) 0 rfl dX9_takeShorter_19 rfl ?_
    obtain ⟨a14, x13, e15, h⟩ := iR h
    refine y_getR (pc := 20) flRX9_39 dX9_takeShorter_20 rfl a14 e15 ?_
    refine z_aload_n (pc := 23) 0 rfl dX9_takeShorter_23 rfl ?_
    obtain ⟨a17, x16, e18, h⟩ := iR h
    refine y_getR (pc := 24) flRX9_18 dX9_takeShorter_24 rfl a17 e18 ?_
    refine z_aload_n (pc := 27) 0 rfl dX9_takeShorter_27 rfl ?_
    obtain ⟨a20, x19, e21, h⟩ := iR h
    refine y_getR (pc := 28) flRX9_18 dX9_takeShorter_28 rfl a20 e21 ?_
    obtain ⟨a23, q22, e24, h⟩ := iC h
    refine y_Vi (pc := 31) (M2 := mX0_kept) (As := []) (okX0_kept e24) mvX0_kept mlRX9_197 dX9_takeShorter_31 ⟨by decide, by decide⟩ rfl rfl rfl (fun _ => Nat.le_of_ble_eq_true rfl) a23 ?_
    refine z_aload_n (pc := 34) 0 rfl dX9_takeShorter_34 rfl ?_
    obtain ⟨a26, x25, e27, h⟩ := iR h
    refine y_getR (pc := 35) flRX9_31 dX9_takeShorter_35 rfl a26 e27 ?_
    obtain ⟨a29, q28, e30, h⟩ := iC h
    refine y_V (pc := 38) (M2 := mX5_readTextProof) (As := [.ref x16, .int q22.1, .ref x25]) (okX5_readTextProof e30) mvX5_readTextProof mlRX9_102 dX9_takeShorter_38 ⟨by decide, by decide⟩ rfl rfl rfl zrest0 a29 ?_
    refine z_aload_n (pc := 41) 0 rfl dX9_takeShorter_41 rfl ?_
    obtain ⟨a32, q31, e33, h⟩ := iC h
    refine y_V (pc := 42) (M2 := mX9_takeSpareAsProof) (As := []) (okX9_takeSpareAsProof e33) mvX9_takeSpareAsProof mlRX9_105 dX9_takeShorter_42 ⟨by decide, by decide⟩ rfl rfl rfl zrest0 a32 ?_
    refine z_aload_n (pc := 45) 0 rfl dX9_takeShorter_45 rfl ?_
    obtain ⟨a35, x34, e36, h⟩ := iR h
    refine y_getR (pc := 46) flRX9_28 dX9_takeShorter_46 rfl a35 e36 ?_
    obtain ⟨a38, q37, e39, h⟩ := iC h
    refine y_Vi (pc := 49) (M2 := mX7_rows) (As := []) (okX7_rows e39) mvX7_rows mlRX9_154 dX9_takeShorter_49 ⟨by decide, by decide⟩ rfl rfl rfl zrest0 a38 ?_
    exact y_iret (pc := 52) dX9_takeShorter_52 rfl h
  · replace h := ifn hc h
    refine z_iconst (pc := 17) (v := (-1)) dX9_takeShorter_17 (by decide) ?_
    exact y_iret (pc := 18) dX9_takeShorter_18 rfl h
