def fX9_formula_74  (l0 : Nat) (s : zS) : Option (Option Int32 × zS) :=
  bnd (qI s 9 l0 8) fun x22 =>
  some (some x22, s)
set_option maxRecDepth 100000 in
set_option maxHeartbeats 4000000 in
theorem bX9_formula_74 {E : zE}   {l0 : Nat} {s : zS} {q : Option Int32 × zS} (h : fX9_formula_74  l0 s = some q) : Z E mX9_formula 74 [(0, .ref l0)] [] s (1, 6) (zRX E mX9_formula xI q) := by
  unfold fX9_formula_74 at h
  refine z_aload_n (pc := 74) 0 rfl dX9_formula_74 rfl ?_
  obtain ⟨a23, x22, e24, h⟩ := iI h
  refine y_getI (pc := 75) flRX9_61 dX9_formula_75 rfl a23 e24 ?_
  exact y_iretX (pc := 78) dX9_formula_78 rfl h
def fX9_formula (l0 : Nat) (l1 : Int32) (s : zS) : Option (Option Int32 × zS) :=
  bnd (cl s 9 l0 (fX9_tapeHas l0 l1 s)) fun q1 =>
  if q1.1 = 0 then
    gd (zal q1.2 = false) (some (none, q1.2))
  else
    bnd (qR q1.2 9 l0 5) fun x4 =>
    bnd (qR q1.2 9 l0 0) fun x7 =>
    bnd (qR q1.2 9 l0 4) fun x10 =>
    bnd (cl q1.2 5 x4 (fX5_readFormula x4 x7 l1 x10 q1.2)) fun q13 =>
    bnd (cl q13 9 l0 (fX9_noteReading l0  q13)) fun q16 =>
    bnd (qI q16 9 l0 8) fun x19 =>
    if x19 = 0 then
      bnd (qR q16 9 l0 2) fun x22 =>
      bnd (qR q16 9 l0 4) fun x25 =>
      bnd (wR q16 9 l0 2 x25) fun s28 =>
      bnd (wR s28 9 l0 4 x22) fun s31 =>
      bnd (qR s31 9 l0 3) fun x34 =>
      bnd (cl s31 7 x34 (fX7_clear x34  s31)) fun q37 =>
      bnd (cl q37 9 l0 (fX9_startAnew l0  q37)) fun q40 =>
      fX9_formula_74  l0 q40
    else
      fX9_formula_74  l0 q16
set_option maxRecDepth 100000 in
set_option maxHeartbeats 4000000 in
theorem okX9_formula {E : zE} {l0 : Nat} {l1 : Int32} {s : zS} {q : Option Int32 × zS} (h : fX9_formula l0 l1 s = some q) : CX E mX9_formula [.ref l0, .int l1] s xI q := by
  refine CX.of (ls := [(0, .ref l0), (1, .int l1)]) (by decide) rfl (Nat.le_of_ble_eq_true rfl) ?_
  show Z E mX9_formula 0 [(0, .ref l0), (1, .int l1)] [] s (1, 6) (zRX E mX9_formula xI q)
  unfold fX9_formula at h
  refine z_aload_n (pc := 0) 0 rfl dX9_formula_0 rfl ?_
  refine z_iload_n (pc := 1) 1 rfl dX9_formula_1 rfl ?_
  obtain ⟨a2, q1, e3, h⟩ := iC h
  refine y_Vi (pc := 2) (M2 := mX9_tapeHas) (As := [.int l1]) (okX9_tapeHas e3) mvX9_tapeHas mlRX9_75 dX9_formula_2 ⟨by decide, by decide⟩ rfl rfl rfl zrest0 a2 ?_
  refine z_if_ne (pc := 5) (tgt := 18) dX9_formula_5 (by decide) (fun hc => ?_) (fun hc => ?_)
  · replace h := ifn hc h
    refine z_aload_n (pc := 18) 0 rfl dX9_formula_18 rfl ?_
    obtain ⟨a5, x4, e6, h⟩ := iR h
    refine y_getR (pc := 19) flRX9_39 dX9_formula_19 rfl a5 e6 ?_
    refine z_aload_n (pc := 22) 0 rfl dX9_formula_22 rfl ?_
    obtain ⟨a8, x7, e9, h⟩ := iR h
    refine y_getR (pc := 23) flRX9_14 dX9_formula_23 rfl a8 e9 ?_
    refine z_iload_n (pc := 26) 1 rfl dX9_formula_26 rfl ?_
    refine z_aload_n (pc := 27) 0 rfl dX9_formula_27 rfl ?_
    obtain ⟨a11, x10, e12, h⟩ := iR h
    refine y_getR (pc := 28) flRX9_31 dX9_formula_28 rfl a11 e12 ?_
    obtain ⟨a14, q13, e15, h⟩ := iC h
    refine y_V (pc := 31) (M2 := mX5_readFormula) (As := [.ref x7, .int l1, .ref x10]) (okX5_readFormula e15) mvX5_readFormula mlRX9_86 dX9_formula_31 ⟨by decide, by decide⟩ rfl rfl rfl zrest0 a14 ?_
    refine z_aload_n (pc := 34) 0 rfl dX9_formula_34 rfl ?_
    obtain ⟨a17, q16, e18, h⟩ := iC h
    refine y_V (pc := 35) (M2 := mX9_noteReading) (As := []) (okX9_noteReading e18) mvX9_noteReading mlRX9_90 dX9_formula_35 ⟨by decide, by decide⟩ rfl rfl rfl zrest0 a17 ?_
    refine z_aload_n (pc := 38) 0 rfl dX9_formula_38 rfl ?_
    obtain ⟨a20, x19, e21, h⟩ := iI h
    refine y_getI (pc := 39) flRX9_61 dX9_formula_39 rfl a20 e21 ?_
    refine z_if_ne (pc := 42) (tgt := 74) dX9_formula_42 (by decide) (fun hc => ?_) (fun hc => ?_)
    · replace h := ifn hc h
      exact z_sub [0] rfl (bX9_formula_74  h)
    · replace h := ifp hc h
      refine z_aload_n (pc := 45) 0 rfl dX9_formula_45 rfl ?_
      obtain ⟨a23, x22, e24, h⟩ := iR h
      refine y_getR (pc := 46) flRX9_24 dX9_formula_46 rfl a23 e24 ?_
      refine z_astore_n (pc := 49) (ls' := [(2, .ref x22), (0, .ref l0), (1, .int l1)]) dX9_formula_49 rfl (by decide) (fun _ => rfl) ?_
      refine z_aload_n (pc := 50) 1 rfl dX9_formula_50 rfl ?_
      refine z_aload_n (pc := 51) 1 rfl dX9_formula_51 rfl ?_
      obtain ⟨a26, x25, e27, h⟩ := iR h
      refine y_getR (pc := 52) flRX9_31 dX9_formula_52 rfl a26 e27 ?_
      obtain ⟨a29, s28, e30, h⟩ := jR h
      refine y_putR (pc := 55) flRX9_24 dX9_formula_55 rfl (Or.inl rfl) a29 e30 ?_
      refine z_aload_n (pc := 58) 1 rfl dX9_formula_58 rfl ?_
      refine z_aload_n (pc := 59) 0 rfl dX9_formula_59 rfl ?_
      obtain ⟨a32, s31, e33, h⟩ := jR h
      refine y_putR (pc := 60) flRX9_31 dX9_formula_60 rfl (Or.inl rfl) a32 e33 ?_
      refine z_aload_n (pc := 63) 1 rfl dX9_formula_63 rfl ?_
      obtain ⟨a35, x34, e36, h⟩ := iR h
      refine y_getR (pc := 64) flRX9_28 dX9_formula_64 rfl a35 e36 ?_
      obtain ⟨a38, q37, e39, h⟩ := iC h
      refine y_V (pc := 67) (M2 := mX7_clear) (As := []) (okX7_clear e39) mvX7_clear mlRX9_93 dX9_formula_67 ⟨by decide, by decide⟩ rfl rfl rfl zrest0 a38 ?_
      refine z_aload_n (pc := 70) 1 rfl dX9_formula_70 rfl ?_
      obtain ⟨a41, q40, e42, h⟩ := iC h
      refine y_V (pc := 71) (M2 := mX9_startAnew) (As := []) (okX9_startAnew e42) mvX9_startAnew mlRX9_96 dX9_formula_71 ⟨by decide, by decide⟩ rfl rfl rfl zrest0 a41 ?_
      exact z_sub [1] rfl (bX9_formula_74  h)
  · replace h := ifp hc h
    exact y_throw (pc := 8) (k := 10) tw_I (fun E U h => h.2.2.1.1) dX9_formula_8 dX9_formula_11 dX9_formula_12 dX9_formula_14 dX9_formula_17 (Nat.le_of_ble_eq_true rfl) (Nat.le_of_ble_eq_true rfl) (Nat.le_of_ble_eq_true rfl) (Nat.le_of_ble_eq_true rfl) zrest0 h
def fX9_proof_72  (l0 : Nat) (s : zS) : Option (Option Int32 × zS) :=
  bnd (qI s 9 l0 8) fun x22 =>
  some (some x22, s)
set_option maxRecDepth 100000 in
set_option maxHeartbeats 4000000 in
theorem bX9_proof_72 {E : zE}   {l0 : Nat} {s : zS} {q : Option Int32 × zS} (h : fX9_proof_72  l0 s = some q) : Z E mX9_proof 72 [(0, .ref l0)] [] s (1, 6) (zRX E mX9_proof xI q) := by
  unfold fX9_proof_72 at h
  refine z_aload_n (pc := 72) 0 rfl dX9_proof_72 rfl ?_
  obtain ⟨a23, x22, e24, h⟩ := iI h
  refine y_getI (pc := 73) flRX9_61 dX9_proof_73 rfl a23 e24 ?_
  exact y_iretX (pc := 76) dX9_proof_76 rfl h
def fX9_proof_57  (l0 : Nat) (s : zS) : Option (Option Int32 × zS) :=
  bnd (cl s 9 l0 (fX9_noteReading l0  s)) fun q16 =>
  bnd (qI q16 9 l0 8) fun x19 =>
  if x19 = 0 then
    bnd (cl q16 9 l0 (fX9_takeSpareAsProof l0  q16)) fun q22 =>
    fX9_proof_72  l0 q22
  else
    fX9_proof_72  l0 q16
set_option maxRecDepth 100000 in
set_option maxHeartbeats 4000000 in
theorem bX9_proof_57 {E : zE}   {l0 : Nat} {s : zS} {q : Option Int32 × zS} (h : fX9_proof_57  l0 s = some q) : Z E mX9_proof 57 [(0, .ref l0)] [] s (1, 6) (zRX E mX9_proof xI q) := by
  unfold fX9_proof_57 at h
  refine z_aload_n (pc := 57) 0 rfl dX9_proof_57 rfl ?_
  obtain ⟨a17, q16, e18, h⟩ := iC h
  refine y_V (pc := 58) (M2 := mX9_noteReading) (As := []) (okX9_noteReading e18) mvX9_noteReading mlRX9_90 dX9_proof_58 ⟨by decide, by decide⟩ rfl rfl rfl zrest0 a17 ?_
  refine z_aload_n (pc := 61) 0 rfl dX9_proof_61 rfl ?_
  obtain ⟨a20, x19, e21, h⟩ := iI h
  refine y_getI (pc := 62) flRX9_61 dX9_proof_62 rfl a20 e21 ?_
  refine z_if_ne (pc := 65) (tgt := 72) dX9_proof_65 (by decide) (fun hc => ?_) (fun hc => ?_)
  · replace h := ifn hc h
    exact z_sub [0] rfl (bX9_proof_72  h)
  · replace h := ifp hc h
    refine z_aload_n (pc := 68) 0 rfl dX9_proof_68 rfl ?_
    obtain ⟨a23, q22, e24, h⟩ := iC h
    refine y_V (pc := 69) (M2 := mX9_takeSpareAsProof) (As := []) (okX9_takeSpareAsProof e24) mvX9_takeSpareAsProof mlRX9_105 dX9_proof_69 ⟨by decide, by decide⟩ rfl rfl rfl zrest0 a23 ?_
    exact z_sub [0] rfl (bX9_proof_72  h)
def fX9_proof (l0 : Nat) (l1 : Int32) (l2 : Int32) (s : zS) : Option (Option Int32 × zS) :=
  bnd (cl s 9 l0 (fX9_tapeHas l0 l1 s)) fun q1 =>
  if q1.1 = 0 then
    gd (zal q1.2 = false) (some (none, q1.2))
  else
    if l2 = 0 then
      bnd (qR q1.2 9 l0 5) fun x4 =>
      bnd (qR q1.2 9 l0 0) fun x7 =>
      bnd (qR q1.2 9 l0 4) fun x10 =>
      bnd (cl q1.2 5 x4 (fX5_readTextProof x4 x7 l1 x10 q1.2)) fun q13 =>
      fX9_proof_57  l0 q13
    else
      bnd (qR q1.2 9 l0 5) fun x16 =>
      bnd (qR q1.2 9 l0 0) fun x19 =>
      bnd (qR q1.2 9 l0 4) fun x22 =>
      bnd (cl q1.2 5 x16 (fX5_readByteProof x16 x19 l1 x22 q1.2)) fun q25 =>
      fX9_proof_57  l0 q25
set_option maxRecDepth 100000 in
set_option maxHeartbeats 4000000 in
theorem okX9_proof {E : zE} {l0 : Nat} {l1 : Int32} {l2 : Int32} {s : zS} {q : Option Int32 × zS} (h : fX9_proof l0 l1 l2 s = some q) : CX E mX9_proof [.ref l0, .int l1, .int l2] s xI q := by
  refine CX.of (ls := [(0, .ref l0), (1, .int l1), (2, .int l2)]) (by decide) rfl (Nat.le_of_ble_eq_true rfl) ?_
  show Z E mX9_proof 0 [(0, .ref l0), (1, .int l1), (2, .int l2)] [] s (1, 6) (zRX E mX9_proof xI q)
  unfold fX9_proof at h
  refine z_aload_n (pc := 0) 0 rfl dX9_proof_0 rfl ?_
  refine z_iload_n (pc := 1) 1 rfl dX9_proof_1 rfl ?_
  obtain ⟨a2, q1, e3, h⟩ := iC h
  refine y_Vi (pc := 2) (M2 := mX9_tapeHas) (As := [.int l1]) (okX9_tapeHas e3) mvX9_tapeHas mlRX9_75 dX9_proof_2 ⟨by decide, by decide⟩ rfl rfl rfl zrest0 a2 ?_
  refine z_if_ne (pc := 5) (tgt := 18) dX9_proof_5 (by decide) (fun hc => ?_) (fun hc => ?_)
  · replace h := ifn hc h
    refine z_iload_n (pc := 18) 2 rfl dX9_proof_18 rfl ?_
    refine z_if_eq (pc := 19) (tgt := 41) dX9_proof_19 (by decide) (fun hc => ?_) (fun hc => ?_)
    · replace h := ifp hc h
      refine z_aload_n (pc := 41) 0 rfl dX9_proof_41 rfl ?_
      obtain ⟨a5, x4, e6, h⟩ := iR h
      refine y_getR (pc := 42) flRX9_39 dX9_proof_42 rfl a5 e6 ?_
      refine z_aload_n (pc := 45) 0 rfl dX9_proof_45 rfl ?_
      obtain ⟨a8, x7, e9, h⟩ := iR h
      refine y_getR (pc := 46) flRX9_14 dX9_proof_46 rfl a8 e9 ?_
      refine z_iload_n (pc := 49) 1 rfl dX9_proof_49 rfl ?_
      refine z_aload_n (pc := 50) 0 rfl dX9_proof_50 rfl ?_
      obtain ⟨a11, x10, e12, h⟩ := iR h
      refine y_getR (pc := 51) flRX9_31 dX9_proof_51 rfl a11 e12 ?_
      obtain ⟨a14, q13, e15, h⟩ := iC h
      refine y_V (pc := 54) (M2 := mX5_readTextProof) (As := [.ref x7, .int l1, .ref x10]) (okX5_readTextProof e15) mvX5_readTextProof mlRX9_102 dX9_proof_54 ⟨by decide, by decide⟩ rfl rfl rfl zrest0 a14 ?_
      exact z_sub [0] rfl (bX9_proof_57  h)
    · replace h := ifn hc h
      refine z_aload_n (pc := 22) 0 rfl dX9_proof_22 rfl ?_
      obtain ⟨a17, x16, e18, h⟩ := iR h
      refine y_getR (pc := 23) flRX9_39 dX9_proof_23 rfl a17 e18 ?_
      refine z_aload_n (pc := 26) 0 rfl dX9_proof_26 rfl ?_
      obtain ⟨a20, x19, e21, h⟩ := iR h
      refine y_getR (pc := 27) flRX9_14 dX9_proof_27 rfl a20 e21 ?_
      refine z_iload_n (pc := 30) 1 rfl dX9_proof_30 rfl ?_
      refine z_aload_n (pc := 31) 0 rfl dX9_proof_31 rfl ?_
      obtain ⟨a23, x22, e24, h⟩ := iR h
      refine y_getR (pc := 32) flRX9_31 dX9_proof_32 rfl a23 e24 ?_
      obtain ⟨a26, q25, e27, h⟩ := iC h
      refine y_V (pc := 35) (M2 := mX5_readByteProof) (As := [.ref x19, .int l1, .ref x22]) (okX5_readByteProof e27) mvX5_readByteProof mlRX9_99 dX9_proof_35 ⟨by decide, by decide⟩ rfl rfl rfl zrest0 a26 ?_
      refine z_goto (pc := 38) (tgt := 57) dX9_proof_38 (by decide) ?_
      exact z_sub [0] rfl (bX9_proof_57  h)
  · replace h := ifp hc h
    exact y_throw (pc := 8) (k := 10) tw_I (fun E U h => h.2.2.1.1) dX9_proof_8 dX9_proof_11 dX9_proof_12 dX9_proof_14 dX9_proof_17 (Nat.le_of_ble_eq_true rfl) (Nat.le_of_ble_eq_true rfl) (Nat.le_of_ble_eq_true rfl) (Nat.le_of_ble_eq_true rfl) zrest0 h
def fX9_fault (l0 : Nat) (l1 : Int32) (s : zS) : Option (Option Int32 × zS) :=
  if l1 = 0 then
    bnd (qI s 9 l0 8) fun x1 =>
    some (some x1, s)
  else if l1 = 1 then
    bnd (qI s 9 l0 9) fun x4 =>
    some (some x4, s)
  else 
    gd (zal s = false) (some (none, s))
set_option maxRecDepth 100000 in
set_option maxHeartbeats 4000000 in
theorem okX9_fault {E : zE} {l0 : Nat} {l1 : Int32} {s : zS} {q : Option Int32 × zS} (h : fX9_fault l0 l1 s = some q) : CX E mX9_fault [.ref l0, .int l1] s xN q := by
  refine CX.of (ls := [(0, .ref l0), (1, .int l1)]) (by decide) rfl (Nat.le_of_ble_eq_true rfl) ?_
  show Z E mX9_fault 0 [(0, .ref l0), (1, .int l1)] [] s (1, 6) (zRX E mX9_fault xN q)
  unfold fX9_fault at h
  refine z_iload_n (pc := 0) 1 rfl dX9_fault_0 rfl ?_
  by_cases hc0 : l1 = 0
  · replace h := ifp hc0 h
    refine z_lookup (pc := 1) (tgt := 28) (off := 27) dX9_fault_1 (by decide) (by rw [hc0]; decide) (by decide) ?_
    refine z_aload_n (pc := 28) 0 rfl dX9_fault_28 rfl ?_
    obtain ⟨a2, x1, e3, h⟩ := iI h
    refine y_getI (pc := 29) flRX9_61 dX9_fault_29 rfl a2 e3 ?_
    exact y_iretX (pc := 32) dX9_fault_32 rfl h
  replace h := ifn hc0 h
  by_cases hc1 : l1 = 1
  · replace h := ifp hc1 h
    refine z_lookup (pc := 1) (tgt := 33) (off := 32) dX9_fault_1 (by decide) (by rw [hc1]; decide) (by decide) ?_
    refine z_aload_n (pc := 33) 0 rfl dX9_fault_33 rfl ?_
    obtain ⟨a5, x4, e6, h⟩ := iI h
    refine y_getI (pc := 34) flRX9_65 dX9_fault_34 rfl a5 e6 ?_
    exact y_iretX (pc := 37) dX9_fault_37 rfl h
  replace h := ifn hc1 h
  refine z_lookup (pc := 1) (tgt := 38) (off := 37) dX9_fault_1 (by decide) (zlk2 hc0 hc1) (by decide) ?_
  exact y_throw (pc := 38) (k := 11) tw_N (fun E U h => h.2.2.1.2.1) dX9_fault_38 dX9_fault_41 dX9_fault_42 dX9_fault_44 dX9_fault_47 (Nat.le_of_ble_eq_true rfl) (Nat.le_of_ble_eq_true rfl) (Nat.le_of_ble_eq_true rfl) (Nat.le_of_ble_eq_true rfl) zrest0 h
def fX9_weigh_13   (s : zS) : Option (Option Int32 × zS) :=
  gd (zal s = false) (some (none, s))
set_option maxRecDepth 100000 in
set_option maxHeartbeats 4000000 in
theorem bX9_weigh_13 {E : zE}    {s : zS} {q : Option Int32 × zS} (h : fX9_weigh_13   s = some q) : Z E mX9_weigh 13 [] [] s (1, 6) (zRX E mX9_weigh xI q) := by
  unfold fX9_weigh_13 at h
  exact y_throw (pc := 13) (k := 12) tw_I (fun E U h => h.2.2.1.2.2.1) dX9_weigh_13 dX9_weigh_16 dX9_weigh_17 dX9_weigh_19 dX9_weigh_22 (Nat.le_of_ble_eq_true rfl) (Nat.le_of_ble_eq_true rfl) (Nat.le_of_ble_eq_true rfl) (Nat.le_of_ble_eq_true rfl) zrest0 h
def fX9_weigh_61  (l0 : Nat) (s : zS) : Option (Option Int32 × zS) :=
  bnd (qR s 9 l0 7) fun x13 =>
  bnd (cl s 3 x13 (fX3_verdict x13  s)) fun q16 =>
  some (some q16.1, q16.2)
set_option maxRecDepth 100000 in
set_option maxHeartbeats 4000000 in
theorem bX9_weigh_61 {E : zE}   {l0 : Nat} {s : zS} {q : Option Int32 × zS} (h : fX9_weigh_61  l0 s = some q) : Z E mX9_weigh 61 [(0, .ref l0)] [] s (1, 6) (zRX E mX9_weigh xI q) := by
  unfold fX9_weigh_61 at h
  refine z_aload_n (pc := 61) 0 rfl dX9_weigh_61 rfl ?_
  obtain ⟨a14, x13, e15, h⟩ := iR h
  refine y_getR (pc := 62) flRX9_57 dX9_weigh_62 rfl a14 e15 ?_
  obtain ⟨a17, q16, e18, h⟩ := iC h
  refine y_Vi (pc := 65) (M2 := mX3_verdict) (As := []) (okX3_verdict e18) mvX3_verdict mlRX9_126 dX9_weigh_65 ⟨by decide, by decide⟩ rfl rfl rfl zrest0 a17 ?_
  exact y_iretX (pc := 68) dX9_weigh_68 rfl h
def fX9_weigh_47  (l0 : Nat) (l1 : Int32) (t0 : Int32) (t1 : Nat) (s : zS) : Option (Option Int32 × zS) :=
  bnd (cl s 3 t1 (fX3_goForwards t1 t0 s)) fun q10 =>
  if l1 = 0 then
    fX9_weigh_61  l0 q10
  else
    bnd (qR q10 9 l0 7) fun x13 =>
    bnd (cl q10 3 x13 (fX3_goBack x13  q10)) fun q16 =>
    fX9_weigh_61  l0 q16
set_option maxRecDepth 100000 in
set_option maxHeartbeats 4000000 in
theorem bX9_weigh_47 {E : zE}   {l0 : Nat} {l1 : Int32} {t0 : Int32} {t1 : Nat} {s : zS} {q : Option Int32 × zS} (h : fX9_weigh_47  l0 l1 t0 t1 s = some q) : Z E mX9_weigh 47 [(0, .ref l0), (1, .int l1)] [.int t0, .ref t1] s (1, 6) (zRX E mX9_weigh xI q) := by
  unfold fX9_weigh_47 at h
  obtain ⟨a11, q10, e12, h⟩ := iC h
  refine y_V (pc := 47) (M2 := mX3_goForwards) (As := [.int t0]) (okX3_goForwards e12) mvX3_goForwards mlRX9_119 dX9_weigh_47 ⟨by decide, by decide⟩ rfl rfl rfl zrest0 a11 ?_
  refine z_iload_n (pc := 50) 1 rfl dX9_weigh_50 rfl ?_
  refine z_if_eq (pc := 51) (tgt := 61) dX9_weigh_51 (by decide) (fun hc => ?_) (fun hc => ?_)
  · replace h := ifp hc h
    exact z_sub [0] rfl (bX9_weigh_61  h)
  · replace h := ifn hc h
    refine z_aload_n (pc := 54) 0 rfl dX9_weigh_54 rfl ?_
    obtain ⟨a14, x13, e15, h⟩ := iR h
    refine y_getR (pc := 55) flRX9_57 dX9_weigh_55 rfl a14 e15 ?_
    obtain ⟨a17, q16, e18, h⟩ := iC h
    refine y_V (pc := 58) (M2 := mX3_goBack) (As := []) (okX3_goBack e18) mvX3_goBack mlRX9_123 dX9_weigh_58 ⟨by decide, by decide⟩ rfl rfl rfl zrest0 a17 ?_
    exact z_sub [0] rfl (bX9_weigh_61  h)
def fX9_weigh (l0 : Nat) (l1 : Int32) (l2 : Int32) (l3 : Int32) (l4 : Int32) (s : zS) : Option (Option Int32 × zS) :=
  if l4 < 0 then
    fX9_weigh_13  s
  else
    if l4 ≤ 20000 then
      bnd (qR s 9 l0 7) fun x1 =>
      bnd (cl s 3 x1 (fX3_begin x1 l2 l3 l4 s)) fun q4 =>
      bnd (qR q4 9 l0 7) fun x7 =>
      if l1 = 0 then
        fX9_weigh_47  l0 l1 1 x7 q4
      else
        fX9_weigh_47  l0 l1 0 x7 q4
    else
      fX9_weigh_13  s
set_option maxRecDepth 100000 in
set_option maxHeartbeats 4000000 in
theorem okX9_weigh {E : zE} {l0 : Nat} {l1 : Int32} {l2 : Int32} {l3 : Int32} {l4 : Int32} {s : zS} {q : Option Int32 × zS} (h : fX9_weigh l0 l1 l2 l3 l4 s = some q) : CX E mX9_weigh [.ref l0, .int l1, .int l2, .int l3, .int l4] s xI q := by
  refine CX.of (ls := [(0, .ref l0), (1, .int l1), (2, .int l2), (3, .int l3), (4, .int l4)]) (by decide) rfl (Nat.le_of_ble_eq_true rfl) ?_
  show Z E mX9_weigh 0 [(0, .ref l0), (1, .int l1), (2, .int l2), (3, .int l3), (4, .int l4)] [] s (1, 6) (zRX E mX9_weigh xI q)
  unfold fX9_weigh at h
  refine z_iload (pc := 0) 4 rfl dX9_weigh_0 ?_
  refine z_if_lt (pc := 2) (tgt := 13) dX9_weigh_2 (by decide) (fun hc => ?_) (fun hc => ?_)
  · replace h := ifp hc h
    exact z_sub [] rfl (bX9_weigh_13  h)
  · replace h := ifn hc h
    refine z_iload (pc := 5) 4 rfl dX9_weigh_5 ?_
    refine z_sipush (pc := 7) (v := 20000) dX9_weigh_7 (by decide) ?_
    refine z_icmp_le (pc := 10) (tgt := 23) dX9_weigh_10 (by decide) (fun hc => ?_) (fun hc => ?_)
    · replace h := ifp hc h
      refine z_aload_n (pc := 23) 0 rfl dX9_weigh_23 rfl ?_
      obtain ⟨a2, x1, e3, h⟩ := iR h
      refine y_getR (pc := 24) flRX9_57 dX9_weigh_24 rfl a2 e3 ?_
      refine z_iload_n (pc := 27) 2 rfl dX9_weigh_27 rfl ?_
      refine z_iload_n (pc := 28) 3 rfl dX9_weigh_28 rfl ?_
      refine z_iload (pc := 29) 4 rfl dX9_weigh_29 ?_
      obtain ⟨a5, q4, e6, h⟩ := iC h
      refine y_V (pc := 31) (M2 := mX3_begin) (As := [.int l2, .int l3, .int l4]) (okX3_begin e6) mvX3_begin mlRX9_115 dX9_weigh_31 ⟨by decide, by decide⟩ rfl rfl rfl zrest0 a5 ?_
      refine z_aload_n (pc := 34) 0 rfl dX9_weigh_34 rfl ?_
      obtain ⟨a8, x7, e9, h⟩ := iR h
      refine y_getR (pc := 35) flRX9_57 dX9_weigh_35 rfl a8 e9 ?_
      refine z_iload_n (pc := 38) 1 rfl dX9_weigh_38 rfl ?_
      refine z_if_ne (pc := 39) (tgt := 46) dX9_weigh_39 (by decide) (fun hc => ?_) (fun hc => ?_)
      · replace h := ifn hc h
        refine z_iconst (pc := 46) (v := 0) dX9_weigh_46 (by decide) ?_
        exact z_sub [0, 1] rfl (bX9_weigh_47  h)
      · replace h := ifp hc h
        refine z_iconst (pc := 42) (v := 1) dX9_weigh_42 (by decide) ?_
        refine z_goto (pc := 43) (tgt := 47) dX9_weigh_43 (by decide) ?_
        exact z_sub [0, 1] rfl (bX9_weigh_47  h)
    · replace h := ifn hc h
      exact z_sub [] rfl (bX9_weigh_13  h)
def fX9_count (l0 : Nat) (l1 : Int32) (s : zS) : Option (Option Int32 × zS) :=
  if l1 = 0 then
    bnd (qR s 9 l0 7) fun x1 =>
    bnd (cl s 3 x1 (fX3_verdict x1  s)) fun q4 =>
    some (some q4.1, q4.2)
  else if l1 = 1 then
    bnd (qR s 9 l0 7) fun x7 =>
    bnd (cl s 3 x7 (fX3_failedStep x7  s)) fun q10 =>
    some (some q10.1, q10.2)
  else if l1 = 2 then
    bnd (qR s 9 l0 7) fun x13 =>
    bnd (cl s 3 x13 (fX3_conflictStep x13  s)) fun q16 =>
    some (some q16.1, q16.2)
  else if l1 = 3 then
    bnd (qR s 9 l0 7) fun x19 =>
    bnd (cl s 3 x19 (fX3_fuelLeft x19  s)) fun q22 =>
    some (some q22.1, q22.2)
  else if l1 = 4 then
    bnd (qR s 9 l0 7) fun x25 =>
    bnd (qR s 9 l0 6) fun x28 =>
    bnd (cl s 1 x28 (fX1_ofFormula x28  s)) fun q31 =>
    bnd (cl q31.2 3 x25 (fX3_markedBetween x25 1 q31.1 q31.2)) fun q34 =>
    some (some q34.1, q34.2)
  else if l1 = 5 then
    bnd (qR s 9 l0 7) fun x37 =>
    bnd (qR s 9 l0 6) fun x40 =>
    bnd (cl s 1 x40 (fX1_ofFormula x40  s)) fun q43 =>
    bnd (qR q43.2 9 l0 6) fun x46 =>
    bnd (cl q43.2 1 x46 (fX1_inAll x46  q43.2)) fun q49 =>
    bnd (cl q49.2 3 x37 (fX3_markedBetween x37 (q43.1 + 1) q49.1 q49.2)) fun q52 =>
    some (some q52.1, q52.2)
  else if l1 = 6 then
    bnd (qR s 9 l0 7) fun x55 =>
    bnd (cl s 3 x55 (fX3_heldByRup x55  s)) fun q58 =>
    some (some q58.1, q58.2)
  else if l1 = 7 then
    bnd (qR s 9 l0 7) fun x61 =>
    bnd (cl s 3 x61 (fX3_heldByRat x61  s)) fun q64 =>
    some (some q64.1, q64.2)
  else if l1 = 8 then
    bnd (qR s 9 l0 6) fun x67 =>
    bnd (cl s 1 x67 (fX1_ofFormula x67  s)) fun q70 =>
    some (some q70.1, q70.2)
  else if l1 = 9 then
    bnd (qR s 9 l0 3) fun x73 =>
    bnd (cl s 7 x73 (fX7_rows x73  s)) fun q76 =>
    some (some q76.1, q76.2)
  else if l1 = 10 then
    bnd (qR s 9 l0 2) fun x79 =>
    bnd (cl s 7 x79 (fX7_variables x79  s)) fun q82 =>
    some (some q82.1, q82.2)
  else if l1 = 11 then
    bnd (qR s 9 l0 0) fun x85 =>
    bnd (cl s 0 x85 (fX0_written x85  s)) fun q88 =>
    some (some q88.1, q88.2)
  else 
    gd (zal s = false) (some (none, s))
set_option maxRecDepth 100000 in
set_option maxHeartbeats 4000000 in
theorem okX9_count {E : zE} {l0 : Nat} {l1 : Int32} {s : zS} {q : Option Int32 × zS} (h : fX9_count l0 l1 s = some q) : CX E mX9_count [.ref l0, .int l1] s xN q := by
  refine CX.of (ls := [(0, .ref l0), (1, .int l1)]) (by decide) rfl (Nat.le_of_ble_eq_true rfl) ?_
  show Z E mX9_count 0 [(0, .ref l0), (1, .int l1)] [] s (1, 6) (zRX E mX9_count xN q)
  unfold fX9_count at h
  refine z_iload_n (pc := 0) 1 rfl dX9_count_0 rfl ?_
  by_cases hc0 : l1 = 0
  · replace h := ifp hc0 h
    refine z_tableIn (pc := 1) (tgt := 64) (off := 63) dX9_count_1 (by rw [hc0]; decide) (by rw [hc0]; decide) (by rw [hc0]; decide) (by decide) ?_
    refine z_aload_n (pc := 64) 0 rfl dX9_count_64 rfl ?_
    obtain ⟨a2, x1, e3, h⟩ := iR h
    refine y_getR (pc := 65) flRX9_57 dX9_count_65 rfl a2 e3 ?_
    obtain ⟨a5, q4, e6, h⟩ := iC h
    refine y_Vi (pc := 68) (M2 := mX3_verdict) (As := []) (okX3_verdict e6) mvX3_verdict mlRX9_126 dX9_count_68 ⟨by decide, by decide⟩ rfl rfl rfl zrest0 a5 ?_
    exact y_iretX (pc := 71) dX9_count_71 rfl h
  replace h := ifn hc0 h
  by_cases hc1 : l1 = 1
  · replace h := ifp hc1 h
    refine z_tableIn (pc := 1) (tgt := 72) (off := 71) dX9_count_1 (by rw [hc1]; decide) (by rw [hc1]; decide) (by rw [hc1]; decide) (by decide) ?_
    refine z_aload_n (pc := 72) 0 rfl dX9_count_72 rfl ?_
    obtain ⟨a8, x7, e9, h⟩ := iR h
    refine y_getR (pc := 73) flRX9_57 dX9_count_73 rfl a8 e9 ?_
    obtain ⟨a11, q10, e12, h⟩ := iC h
    refine y_Vi (pc := 76) (M2 := mX3_failedStep) (As := []) (okX3_failedStep e12) mvX3_failedStep mlRX9_129 dX9_count_76 ⟨by decide, by decide⟩ rfl rfl rfl zrest0 a11 ?_
    exact y_iretX (pc := 79) dX9_count_79 rfl h
  replace h := ifn hc1 h
  by_cases hc2 : l1 = 2
  · replace h := ifp hc2 h
    refine z_tableIn (pc := 1) (tgt := 80) (off := 79) dX9_count_1 (by rw [hc2]; decide) (by rw [hc2]; decide) (by rw [hc2]; decide) (by decide) ?_
    refine z_aload_n (pc := 80) 0 rfl dX9_count_80 rfl ?_
    obtain ⟨a14, x13, e15, h⟩ := iR h
    refine y_getR (pc := 81) flRX9_57 dX9_count_81 rfl a14 e15 ?_
    obtain ⟨a17, q16, e18, h⟩ := iC h
    refine y_Vi (pc := 84) (M2 := mX3_conflictStep) (As := []) (okX3_conflictStep e18) mvX3_conflictStep mlRX9_132 dX9_count_84 ⟨by decide, by decide⟩ rfl rfl rfl zrest0 a17 ?_
    exact y_iretX (pc := 87) dX9_count_87 rfl h
  replace h := ifn hc2 h
  by_cases hc3 : l1 = 3
  · replace h := ifp hc3 h
    refine z_tableIn (pc := 1) (tgt := 88) (off := 87) dX9_count_1 (by rw [hc3]; decide) (by rw [hc3]; decide) (by rw [hc3]; decide) (by decide) ?_
    refine z_aload_n (pc := 88) 0 rfl dX9_count_88 rfl ?_
    obtain ⟨a20, x19, e21, h⟩ := iR h
    refine y_getR (pc := 89) flRX9_57 dX9_count_89 rfl a20 e21 ?_
    obtain ⟨a23, q22, e24, h⟩ := iC h
    refine y_Vi (pc := 92) (M2 := mX3_fuelLeft) (As := []) (okX3_fuelLeft e24) mvX3_fuelLeft mlRX9_135 dX9_count_92 ⟨by decide, by decide⟩ rfl rfl rfl zrest0 a23 ?_
    exact y_iretX (pc := 95) dX9_count_95 rfl h
  replace h := ifn hc3 h
  by_cases hc4 : l1 = 4
  · replace h := ifp hc4 h
    refine z_tableIn (pc := 1) (tgt := 96) (off := 95) dX9_count_1 (by rw [hc4]; decide) (by rw [hc4]; decide) (by rw [hc4]; decide) (by decide) ?_
    refine z_aload_n (pc := 96) 0 rfl dX9_count_96 rfl ?_
    obtain ⟨a26, x25, e27, h⟩ := iR h
    refine y_getR (pc := 97) flRX9_57 dX9_count_97 rfl a26 e27 ?_
    refine z_iconst (pc := 100) (v := 1) dX9_count_100 (by decide) ?_
    refine z_aload_n (pc := 101) 0 rfl dX9_count_101 rfl ?_
    obtain ⟨a29, x28, e30, h⟩ := iR h
    refine y_getR (pc := 102) flRX9_48 dX9_count_102 rfl a29 e30 ?_
    obtain ⟨a32, q31, e33, h⟩ := iC h
    refine y_Vi (pc := 105) (M2 := mX1_ofFormula) (As := []) (okX1_ofFormula e33) mvX1_ofFormula mlRX9_138 dX9_count_105 ⟨by decide, by decide⟩ rfl rfl rfl (fun _ => Nat.le_of_ble_eq_true rfl) a32 ?_
    obtain ⟨a35, q34, e36, h⟩ := iC h
    refine y_Vi (pc := 108) (M2 := mX3_markedBetween) (As := [.int 1, .int q31.1]) (okX3_markedBetween e36) mvX3_markedBetween mlRX9_141 dX9_count_108 ⟨by decide, by decide⟩ rfl rfl rfl zrest0 a35 ?_
    exact y_iretX (pc := 111) dX9_count_111 rfl h
  replace h := ifn hc4 h
  by_cases hc5 : l1 = 5
  · replace h := ifp hc5 h
    refine z_tableIn (pc := 1) (tgt := 112) (off := 111) dX9_count_1 (by rw [hc5]; decide) (by rw [hc5]; decide) (by rw [hc5]; decide) (by decide) ?_
    refine z_aload_n (pc := 112) 0 rfl dX9_count_112 rfl ?_
    obtain ⟨a38, x37, e39, h⟩ := iR h
    refine y_getR (pc := 113) flRX9_57 dX9_count_113 rfl a38 e39 ?_
    refine z_aload_n (pc := 116) 0 rfl dX9_count_116 rfl ?_
    obtain ⟨a41, x40, e42, h⟩ := iR h
    refine y_getR (pc := 117) flRX9_48 dX9_count_117 rfl a41 e42 ?_
    obtain ⟨a44, q43, e45, h⟩ := iC h
    refine y_Vi (pc := 120) (M2 := mX1_ofFormula) (As := []) (okX1_ofFormula e45) mvX1_ofFormula mlRX9_138 dX9_count_120 ⟨by decide, by decide⟩ rfl rfl rfl (fun _ => Nat.le_of_ble_eq_true rfl) a44 ?_
    refine z_iconst (pc := 123) (v := 1) dX9_count_123 (by decide) ?_
    refine z_iadd (pc := 124) dX9_count_124 ?_
    refine z_aload_n (pc := 125) 0 rfl dX9_count_125 rfl ?_
    obtain ⟨a47, x46, e48, h⟩ := iR h
    refine y_getR (pc := 126) flRX9_48 dX9_count_126 rfl a47 e48 ?_
    obtain ⟨a50, q49, e51, h⟩ := iC h
    refine y_Vi (pc := 129) (M2 := mX1_inAll) (As := []) (okX1_inAll e51) mvX1_inAll mlRX9_145 dX9_count_129 ⟨by decide, by decide⟩ rfl rfl rfl (fun _ => Nat.le_of_ble_eq_true rfl) a50 ?_
    obtain ⟨a53, q52, e54, h⟩ := iC h
    refine y_Vi (pc := 132) (M2 := mX3_markedBetween) (As := [.int (q43.1 + 1), .int q49.1]) (okX3_markedBetween e54) mvX3_markedBetween mlRX9_141 dX9_count_132 ⟨by decide, by decide⟩ rfl rfl rfl zrest0 a53 ?_
    exact y_iretX (pc := 135) dX9_count_135 rfl h
  replace h := ifn hc5 h
  by_cases hc6 : l1 = 6
  · replace h := ifp hc6 h
    refine z_tableIn (pc := 1) (tgt := 136) (off := 135) dX9_count_1 (by rw [hc6]; decide) (by rw [hc6]; decide) (by rw [hc6]; decide) (by decide) ?_
    refine z_aload_n (pc := 136) 0 rfl dX9_count_136 rfl ?_
    obtain ⟨a56, x55, e57, h⟩ := iR h
    refine y_getR (pc := 137) flRX9_57 dX9_count_137 rfl a56 e57 ?_
    obtain ⟨a59, q58, e60, h⟩ := iC h
    refine y_Vi (pc := 140) (M2 := mX3_heldByRup) (As := []) (okX3_heldByRup e60) mvX3_heldByRup mlRX9_148 dX9_count_140 ⟨by decide, by decide⟩ rfl rfl rfl zrest0 a59 ?_
    exact y_iretX (pc := 143) dX9_count_143 rfl h
  replace h := ifn hc6 h
  by_cases hc7 : l1 = 7
  · replace h := ifp hc7 h
    refine z_tableIn (pc := 1) (tgt := 144) (off := 143) dX9_count_1 (by rw [hc7]; decide) (by rw [hc7]; decide) (by rw [hc7]; decide) (by decide) ?_
    refine z_aload_n (pc := 144) 0 rfl dX9_count_144 rfl ?_
    obtain ⟨a62, x61, e63, h⟩ := iR h
    refine y_getR (pc := 145) flRX9_57 dX9_count_145 rfl a62 e63 ?_
    obtain ⟨a65, q64, e66, h⟩ := iC h
    refine y_Vi (pc := 148) (M2 := mX3_heldByRat) (As := []) (okX3_heldByRat e66) mvX3_heldByRat mlRX9_151 dX9_count_148 ⟨by decide, by decide⟩ rfl rfl rfl zrest0 a65 ?_
    exact y_iretX (pc := 151) dX9_count_151 rfl h
  replace h := ifn hc7 h
  by_cases hc8 : l1 = 8
  · replace h := ifp hc8 h
    refine z_tableIn (pc := 1) (tgt := 152) (off := 151) dX9_count_1 (by rw [hc8]; decide) (by rw [hc8]; decide) (by rw [hc8]; decide) (by decide) ?_
    refine z_aload_n (pc := 152) 0 rfl dX9_count_152 rfl ?_
    obtain ⟨a68, x67, e69, h⟩ := iR h
    refine y_getR (pc := 153) flRX9_48 dX9_count_153 rfl a68 e69 ?_
    obtain ⟨a71, q70, e72, h⟩ := iC h
    refine y_Vi (pc := 156) (M2 := mX1_ofFormula) (As := []) (okX1_ofFormula e72) mvX1_ofFormula mlRX9_138 dX9_count_156 ⟨by decide, by decide⟩ rfl rfl rfl zrest0 a71 ?_
    exact y_iretX (pc := 159) dX9_count_159 rfl h
  replace h := ifn hc8 h
  by_cases hc9 : l1 = 9
  · replace h := ifp hc9 h
    refine z_tableIn (pc := 1) (tgt := 160) (off := 159) dX9_count_1 (by rw [hc9]; decide) (by rw [hc9]; decide) (by rw [hc9]; decide) (by decide) ?_
    refine z_aload_n (pc := 160) 0 rfl dX9_count_160 rfl ?_
    obtain ⟨a74, x73, e75, h⟩ := iR h
    refine y_getR (pc := 161) flRX9_28 dX9_count_161 rfl a74 e75 ?_
    obtain ⟨a77, q76, e78, h⟩ := iC h
    refine y_Vi (pc := 164) (M2 := mX7_rows) (As := []) (okX7_rows e78) mvX7_rows mlRX9_154 dX9_count_164 ⟨by decide, by decide⟩ rfl rfl rfl zrest0 a77 ?_
    exact y_iretX (pc := 167) dX9_count_167 rfl h
  replace h := ifn hc9 h
  by_cases hc10 : l1 = 10
  · replace h := ifp hc10 h
    refine z_tableIn (pc := 1) (tgt := 168) (off := 167) dX9_count_1 (by rw [hc10]; decide) (by rw [hc10]; decide) (by rw [hc10]; decide) (by decide) ?_
    refine z_aload_n (pc := 168) 0 rfl dX9_count_168 rfl ?_
    obtain ⟨a80, x79, e81, h⟩ := iR h
    refine y_getR (pc := 169) flRX9_24 dX9_count_169 rfl a80 e81 ?_
    obtain ⟨a83, q82, e84, h⟩ := iC h
    refine y_Vi (pc := 172) (M2 := mX7_variables) (As := []) (okX7_variables e84) mvX7_variables mlRX9_157 dX9_count_172 ⟨by decide, by decide⟩ rfl rfl rfl zrest0 a83 ?_
    exact y_iretX (pc := 175) dX9_count_175 rfl h
  replace h := ifn hc10 h
  by_cases hc11 : l1 = 11
  · replace h := ifp hc11 h
    refine z_tableIn (pc := 1) (tgt := 176) (off := 175) dX9_count_1 (by rw [hc11]; decide) (by rw [hc11]; decide) (by rw [hc11]; decide) (by decide) ?_
    refine z_aload_n (pc := 176) 0 rfl dX9_count_176 rfl ?_
    obtain ⟨a86, x85, e87, h⟩ := iR h
    refine y_getR (pc := 177) flRX9_14 dX9_count_177 rfl a86 e87 ?_
    obtain ⟨a89, q88, e90, h⟩ := iC h
    refine y_Vi (pc := 180) (M2 := mX0_written) (As := []) (okX0_written e90) mvX0_written mlRX9_68 dX9_count_180 ⟨by decide, by decide⟩ rfl rfl rfl zrest0 a89 ?_
    exact y_iretX (pc := 183) dX9_count_183 rfl h
  replace h := ifn hc11 h
  refine z_tableOut (pc := 1) (tgt := 184) dX9_count_1 (zout 11 (fun j hj => by match j, hj with
      | 0, _ => exact hc0
      | 1, _ => exact hc1
      | 2, _ => exact hc2
      | 3, _ => exact hc3
      | 4, _ => exact hc4
      | 5, _ => exact hc5
      | 6, _ => exact hc6
      | 7, _ => exact hc7
      | 8, _ => exact hc8
      | 9, _ => exact hc9
      | 10, _ => exact hc10
      | 11, _ => exact hc11
      | j + 12, hj => omega) (by decide)) (by decide) ?_
  exact y_throw (pc := 184) (k := 13) tw_N (fun E U h => h.2.2.1.2.2.2.1) dX9_count_184 dX9_count_187 dX9_count_188 dX9_count_190 dX9_count_193 (Nat.le_of_ble_eq_true rfl) (Nat.le_of_ble_eq_true rfl) (Nat.le_of_ble_eq_true rfl) (Nat.le_of_ble_eq_true rfl) zrest0 h
def fX9_clause_20   (s : zS) : Option (Option Int32 × zS) :=
  gd (zal s = false) (some (none, s))
set_option maxRecDepth 100000 in
set_option maxHeartbeats 4000000 in
theorem bX9_clause_20 {E : zE}    {s : zS} {q : Option Int32 × zS} (h : fX9_clause_20   s = some q) : Z E mX9_clause 20 [] [] s (1, 6) (zRX E mX9_clause xN q) := by
  unfold fX9_clause_20 at h
  exact y_throw (pc := 20) (k := 14) tw_N (fun E U h => h.2.2.1.2.2.2.2.1) dX9_clause_20 dX9_clause_23 dX9_clause_24 dX9_clause_26 dX9_clause_29 (Nat.le_of_ble_eq_true rfl) (Nat.le_of_ble_eq_true rfl) (Nat.le_of_ble_eq_true rfl) (Nat.le_of_ble_eq_true rfl) zrest0 h
def fX9_clause (l0 : Nat) (l1 : Int32) (l2 : Int32) (s : zS) : Option (Option Int32 × zS) :=
  if l1 < 1 then
    fX9_clause_20  s
  else
    bnd (qR s 9 l0 6) fun x1 =>
    bnd (cl s 1 x1 (fX1_inAll x1  s)) fun q4 =>
    if q4.1 < l1 then
      fX9_clause_20  q4.2
    else
      if 0 ≤ l2 then
        if l2 = 0 then
          bnd (qR q4.2 9 l0 7) fun x7 =>
          bnd (cl q4.2 3 x7 (fX3_isMarked x7 l1 q4.2)) fun q10 =>
          if q10.1 = 0 then
            some (some 0, q10.2)
          else
            some (some 1, q10.2)
        else if l2 = 1 then
          bnd (qR q4.2 9 l0 6) fun x13 =>
          bnd (cl q4.2 1 x13 (fX1_size x13 l1 q4.2)) fun q16 =>
          some (some q16.1, q16.2)
        else 
          bnd (qR q4.2 9 l0 6) fun x19 =>
          bnd (cl q4.2 1 x19 (fX1_literal x19 l1 (l2 - 2) q4.2)) fun q22 =>
          some (some q22.1, q22.2)
      else
        fX9_clause_20  q4.2
set_option maxRecDepth 100000 in
set_option maxHeartbeats 4000000 in
theorem okX9_clause {E : zE} {l0 : Nat} {l1 : Int32} {l2 : Int32} {s : zS} {q : Option Int32 × zS} (h : fX9_clause l0 l1 l2 s = some q) : CX E mX9_clause [.ref l0, .int l1, .int l2] s xN q := by
  refine CX.of (ls := [(0, .ref l0), (1, .int l1), (2, .int l2)]) (by decide) rfl (Nat.le_of_ble_eq_true rfl) ?_
  show Z E mX9_clause 0 [(0, .ref l0), (1, .int l1), (2, .int l2)] [] s (1, 6) (zRX E mX9_clause xN q)
  unfold fX9_clause at h
  refine z_iload_n (pc := 0) 1 rfl dX9_clause_0 rfl ?_
  refine z_iconst (pc := 1) (v := 1) dX9_clause_1 (by decide) ?_
  refine z_icmp_lt (pc := 2) (tgt := 20) dX9_clause_2 (by decide) (fun hc => ?_) (fun hc => ?_)
  · replace h := ifp hc h
    exact z_sub [] rfl (bX9_clause_20  h)
  · replace h := ifn hc h
    refine z_iload_n (pc := 5) 1 rfl dX9_clause_5 rfl ?_
    refine z_aload_n (pc := 6) 0 rfl dX9_clause_6 rfl ?_
    obtain ⟨a2, x1, e3, h⟩ := iR h
    refine y_getR (pc := 7) flRX9_48 dX9_clause_7 rfl a2 e3 ?_
    obtain ⟨a5, q4, e6, h⟩ := iC h
    refine y_Vi (pc := 10) (M2 := mX1_inAll) (As := []) (okX1_inAll e6) mvX1_inAll mlRX9_145 dX9_clause_10 ⟨by decide, by decide⟩ rfl rfl rfl (fun _ => Nat.le_of_ble_eq_true rfl) a5 ?_
    refine z_icmp_gt (pc := 13) (tgt := 20) dX9_clause_13 (by decide) (fun hc => ?_) (fun hc => ?_)
    · replace h := ifp hc h
      exact z_sub [] rfl (bX9_clause_20  h)
    · replace h := ifn hc h
      refine z_iload_n (pc := 16) 2 rfl dX9_clause_16 rfl ?_
      refine z_if_ge (pc := 17) (tgt := 30) dX9_clause_17 (by decide) (fun hc => ?_) (fun hc => ?_)
      · replace h := ifp hc h
        refine z_iload_n (pc := 30) 2 rfl dX9_clause_30 rfl ?_
        by_cases hc0 : l2 = 0
        · replace h := ifp hc0 h
          refine z_lookup (pc := 31) (tgt := 56) (off := 25) dX9_clause_31 (by decide) (by rw [hc0]; decide) (by decide) ?_
          refine z_aload_n (pc := 56) 0 rfl dX9_clause_56 rfl ?_
          obtain ⟨a8, x7, e9, h⟩ := iR h
          refine y_getR (pc := 57) flRX9_57 dX9_clause_57 rfl a8 e9 ?_
          refine z_iload_n (pc := 60) 1 rfl dX9_clause_60 rfl ?_
          obtain ⟨a11, q10, e12, h⟩ := iC h
          refine y_Vi (pc := 61) (M2 := mX3_isMarked) (As := [.int l1]) (okX3_isMarked e12) mvX3_isMarked mlRX9_164 dX9_clause_61 ⟨by decide, by decide⟩ rfl rfl rfl zrest0 a11 ?_
          refine z_if_eq (pc := 64) (tgt := 71) dX9_clause_64 (by decide) (fun hc => ?_) (fun hc => ?_)
          · replace h := ifp hc h
            refine z_iconst (pc := 71) (v := 0) dX9_clause_71 (by decide) ?_
            exact y_iretX (pc := 72) dX9_clause_72 rfl h
          · replace h := ifn hc h
            refine z_iconst (pc := 67) (v := 1) dX9_clause_67 (by decide) ?_
            refine z_goto (pc := 68) (tgt := 72) dX9_clause_68 (by decide) ?_
            exact y_iretX (pc := 72) dX9_clause_72 rfl h
        replace h := ifn hc0 h
        by_cases hc1 : l2 = 1
        · replace h := ifp hc1 h
          refine z_lookup (pc := 31) (tgt := 73) (off := 42) dX9_clause_31 (by decide) (by rw [hc1]; decide) (by decide) ?_
          refine z_aload_n (pc := 73) 0 rfl dX9_clause_73 rfl ?_
          obtain ⟨a14, x13, e15, h⟩ := iR h
          refine y_getR (pc := 74) flRX9_48 dX9_clause_74 rfl a14 e15 ?_
          refine z_iload_n (pc := 77) 1 rfl dX9_clause_77 rfl ?_
          obtain ⟨a17, q16, e18, h⟩ := iC h
          refine y_Vi (pc := 78) (M2 := mX1_size) (As := [.int l1]) (okX1_size e18) mvX1_size mlRX9_167 dX9_clause_78 ⟨by decide, by decide⟩ rfl rfl rfl zrest0 a17 ?_
          exact y_iretX (pc := 81) dX9_clause_81 rfl h
        replace h := ifn hc1 h
        refine z_lookup (pc := 31) (tgt := 82) (off := 51) dX9_clause_31 (by decide) (zlk2 hc0 hc1) (by decide) ?_
        refine z_aload_n (pc := 82) 0 rfl dX9_clause_82 rfl ?_
        obtain ⟨a20, x19, e21, h⟩ := iR h
        refine y_getR (pc := 83) flRX9_48 dX9_clause_83 rfl a20 e21 ?_
        refine z_iload_n (pc := 86) 1 rfl dX9_clause_86 rfl ?_
        refine z_iload_n (pc := 87) 2 rfl dX9_clause_87 rfl ?_
        refine z_iconst (pc := 88) (v := 2) dX9_clause_88 (by decide) ?_
        refine z_isub (pc := 89) dX9_clause_89 ?_
        obtain ⟨a23, q22, e24, h⟩ := iC h
        refine y_Vi (pc := 90) (M2 := mX1_literal) (As := [.int l1, .int (l2 - 2)]) (okX1_literal e24) mvX1_literal mlRX9_171 dX9_clause_90 ⟨by decide, by decide⟩ rfl rfl rfl zrest0 a23 ?_
        exact y_iretX (pc := 93) dX9_clause_93 rfl h
      · replace h := ifn hc h
        exact z_sub [] rfl (bX9_clause_20  h)
def fX9_step_20   (s : zS) : Option (Option Int32 × zS) :=
  gd (zal s = false) (some (none, s))
set_option maxRecDepth 100000 in
set_option maxHeartbeats 4000000 in
theorem bX9_step_20 {E : zE}    {s : zS} {q : Option Int32 × zS} (h : fX9_step_20   s = some q) : Z E mX9_step 20 [] [] s (1, 6) (zRX E mX9_step xN q) := by
  unfold fX9_step_20 at h
  exact y_throw (pc := 20) (k := 15) tw_N (fun E U h => h.2.2.1.2.2.2.2.2.1) dX9_step_20 dX9_step_23 dX9_step_24 dX9_step_26 dX9_step_29 (Nat.le_of_ble_eq_true rfl) (Nat.le_of_ble_eq_true rfl) (Nat.le_of_ble_eq_true rfl) (Nat.le_of_ble_eq_true rfl) zrest0 h
def fX9_step (l0 : Nat) (l1 : Int32) (l2 : Int32) (s : zS) : Option (Option Int32 × zS) :=
  if l1 < 1 then
    fX9_step_20  s
  else
    bnd (qR s 9 l0 3) fun x1 =>
    bnd (cl s 7 x1 (fX7_rows x1  s)) fun q4 =>
    if q4.1 < l1 then
      fX9_step_20  q4.2
    else
      if 0 ≤ l2 then
        if l2 = 0 then
          bnd (qR q4.2 9 l0 3) fun x7 =>
          bnd (cl q4.2 7 x7 (fX7_isDeletion x7 l1 q4.2)) fun q10 =>
          if q10.1 = 0 then
            some (some 0, q10.2)
          else
            some (some 1, q10.2)
        else if l2 = 1 then
          bnd (qR q4.2 9 l0 6) fun x13 =>
          bnd (cl q4.2 1 x13 (fX1_numberOfStep x13 l1 q4.2)) fun q16 =>
          some (some q16.1, q16.2)
        else if l2 = 2 then
          bnd (qR q4.2 9 l0 3) fun x19 =>
          bnd (cl q4.2 7 x19 (fX7_size x19 l1 q4.2)) fun q22 =>
          some (some q22.1, q22.2)
        else 
          bnd (qR q4.2 9 l0 3) fun x25 =>
          bnd (cl q4.2 7 x25 (fX7_literal x25 l1 (l2 - 3) q4.2)) fun q28 =>
          some (some q28.1, q28.2)
      else
        fX9_step_20  q4.2
set_option maxRecDepth 100000 in
set_option maxHeartbeats 4000000 in
theorem okX9_step {E : zE} {l0 : Nat} {l1 : Int32} {l2 : Int32} {s : zS} {q : Option Int32 × zS} (h : fX9_step l0 l1 l2 s = some q) : CX E mX9_step [.ref l0, .int l1, .int l2] s xN q := by
  refine CX.of (ls := [(0, .ref l0), (1, .int l1), (2, .int l2)]) (by decide) rfl (Nat.le_of_ble_eq_true rfl) ?_
  show Z E mX9_step 0 [(0, .ref l0), (1, .int l1), (2, .int l2)] [] s (1, 6) (zRX E mX9_step xN q)
  unfold fX9_step at h
  refine z_iload_n (pc := 0) 1 rfl dX9_step_0 rfl ?_
  refine z_iconst (pc := 1) (v := 1) dX9_step_1 (by decide) ?_
  refine z_icmp_lt (pc := 2) (tgt := 20) dX9_step_2 (by decide) (fun hc => ?_) (fun hc => ?_)
  · replace h := ifp hc h
    exact z_sub [] rfl (bX9_step_20  h)
  · replace h := ifn hc h
    refine z_iload_n (pc := 5) 1 rfl dX9_step_5 rfl ?_
    refine z_aload_n (pc := 6) 0 rfl dX9_step_6 rfl ?_
    obtain ⟨a2, x1, e3, h⟩ := iR h
    refine y_getR (pc := 7) flRX9_28 dX9_step_7 rfl a2 e3 ?_
    obtain ⟨a5, q4, e6, h⟩ := iC h
    refine y_Vi (pc := 10) (M2 := mX7_rows) (As := []) (okX7_rows e6) mvX7_rows mlRX9_154 dX9_step_10 ⟨by decide, by decide⟩ rfl rfl rfl (fun _ => Nat.le_of_ble_eq_true rfl) a5 ?_
    refine z_icmp_gt (pc := 13) (tgt := 20) dX9_step_13 (by decide) (fun hc => ?_) (fun hc => ?_)
    · replace h := ifp hc h
      exact z_sub [] rfl (bX9_step_20  h)
    · replace h := ifn hc h
      refine z_iload_n (pc := 16) 2 rfl dX9_step_16 rfl ?_
      refine z_if_ge (pc := 17) (tgt := 30) dX9_step_17 (by decide) (fun hc => ?_) (fun hc => ?_)
      · replace h := ifp hc h
        refine z_iload_n (pc := 30) 2 rfl dX9_step_30 rfl ?_
        by_cases hc0 : l2 = 0
        · replace h := ifp hc0 h
          refine z_tableIn (pc := 31) (tgt := 56) (off := 25) dX9_step_31 (by rw [hc0]; decide) (by rw [hc0]; decide) (by rw [hc0]; decide) (by decide) ?_
          refine z_aload_n (pc := 56) 0 rfl dX9_step_56 rfl ?_
          obtain ⟨a8, x7, e9, h⟩ := iR h
          refine y_getR (pc := 57) flRX9_28 dX9_step_57 rfl a8 e9 ?_
          refine z_iload_n (pc := 60) 1 rfl dX9_step_60 rfl ?_
          obtain ⟨a11, q10, e12, h⟩ := iC h
          refine y_Vi (pc := 61) (M2 := mX7_isDeletion) (As := [.int l1]) (okX7_isDeletion e12) mvX7_isDeletion mlRX9_176 dX9_step_61 ⟨by decide, by decide⟩ rfl rfl rfl zrest0 a11 ?_
          refine z_if_eq (pc := 64) (tgt := 71) dX9_step_64 (by decide) (fun hc => ?_) (fun hc => ?_)
          · replace h := ifp hc h
            refine z_iconst (pc := 71) (v := 0) dX9_step_71 (by decide) ?_
            exact y_iretX (pc := 72) dX9_step_72 rfl h
          · replace h := ifn hc h
            refine z_iconst (pc := 67) (v := 1) dX9_step_67 (by decide) ?_
            refine z_goto (pc := 68) (tgt := 72) dX9_step_68 (by decide) ?_
            exact y_iretX (pc := 72) dX9_step_72 rfl h
        replace h := ifn hc0 h
        by_cases hc1 : l2 = 1
        · replace h := ifp hc1 h
          refine z_tableIn (pc := 31) (tgt := 73) (off := 42) dX9_step_31 (by rw [hc1]; decide) (by rw [hc1]; decide) (by rw [hc1]; decide) (by decide) ?_
          refine z_aload_n (pc := 73) 0 rfl dX9_step_73 rfl ?_
          obtain ⟨a14, x13, e15, h⟩ := iR h
          refine y_getR (pc := 74) flRX9_48 dX9_step_74 rfl a14 e15 ?_
          refine z_iload_n (pc := 77) 1 rfl dX9_step_77 rfl ?_
          obtain ⟨a17, q16, e18, h⟩ := iC h
          refine y_Vi (pc := 78) (M2 := mX1_numberOfStep) (As := [.int l1]) (okX1_numberOfStep e18) mvX1_numberOfStep mlRX9_179 dX9_step_78 ⟨by decide, by decide⟩ rfl rfl rfl zrest0 a17 ?_
          exact y_iretX (pc := 81) dX9_step_81 rfl h
        replace h := ifn hc1 h
        by_cases hc2 : l2 = 2
        · replace h := ifp hc2 h
          refine z_tableIn (pc := 31) (tgt := 82) (off := 51) dX9_step_31 (by rw [hc2]; decide) (by rw [hc2]; decide) (by rw [hc2]; decide) (by decide) ?_
          refine z_aload_n (pc := 82) 0 rfl dX9_step_82 rfl ?_
          obtain ⟨a20, x19, e21, h⟩ := iR h
          refine y_getR (pc := 83) flRX9_28 dX9_step_83 rfl a20 e21 ?_
          refine z_iload_n (pc := 86) 1 rfl dX9_step_86 rfl ?_
          obtain ⟨a23, q22, e24, h⟩ := iC h
          refine y_Vi (pc := 87) (M2 := mX7_size) (As := [.int l1]) (okX7_size e24) mvX7_size mlRX9_182 dX9_step_87 ⟨by decide, by decide⟩ rfl rfl rfl zrest0 a23 ?_
          exact y_iretX (pc := 90) dX9_step_90 rfl h
        replace h := ifn hc2 h
        refine z_tableOut (pc := 31) (tgt := 91) dX9_step_31 (zout 2 (fun j hj => by match j, hj with
            | 0, _ => exact hc0
            | 1, _ => exact hc1
            | 2, _ => exact hc2
            | j + 3, hj => omega) (by decide)) (by decide) ?_
        refine z_aload_n (pc := 91) 0 rfl dX9_step_91 rfl ?_
        obtain ⟨a26, x25, e27, h⟩ := iR h
        refine y_getR (pc := 92) flRX9_28 dX9_step_92 rfl a26 e27 ?_
        refine z_iload_n (pc := 95) 1 rfl dX9_step_95 rfl ?_
        refine z_iload_n (pc := 96) 2 rfl dX9_step_96 rfl ?_
        refine z_iconst (pc := 97) (v := 3) dX9_step_97 (by decide) ?_
        refine z_isub (pc := 98) dX9_step_98 ?_
        obtain ⟨a29, q28, e30, h⟩ := iC h
        refine y_Vi (pc := 99) (M2 := mX7_literal) (As := [.int l1, .int (l2 - 3)]) (okX7_literal e30) mvX7_literal mlRX9_183 dX9_step_99 ⟨by decide, by decide⟩ rfl rfl rfl zrest0 a29 ?_
        exact y_iretX (pc := 102) dX9_step_102 rfl h
      · replace h := ifn hc h
        exact z_sub [] rfl (bX9_step_20  h)
def fX9_hint_19   (s : zS) : Option (Option Int32 × zS) :=
  gd (zal s = false) (some (none, s))
set_option maxRecDepth 100000 in
set_option maxHeartbeats 4000000 in
theorem bX9_hint_19 {E : zE}    {s : zS} {q : Option Int32 × zS} (h : fX9_hint_19   s = some q) : Z E mX9_hint 19 [] [] s (1, 6) (zRX E mX9_hint xN q) := by
  unfold fX9_hint_19 at h
  exact y_throw (pc := 19) (k := 14) tw_N (fun E U h => h.2.2.1.2.2.2.2.1) dX9_hint_19 dX9_hint_22 dX9_hint_23 dX9_hint_25 dX9_hint_28 (Nat.le_of_ble_eq_true rfl) (Nat.le_of_ble_eq_true rfl) (Nat.le_of_ble_eq_true rfl) (Nat.le_of_ble_eq_true rfl) zrest0 h
def fX9_hint (l0 : Nat) (l1 : Int32) (l2 : Int32) (s : zS) : Option (Option Int32 × zS) :=
  if l1 < 0 then
    fX9_hint_19  s
  else
    bnd (qR s 9 l0 6) fun x1 =>
    bnd (cl s 1 x1 (fX1_inAll x1  s)) fun q4 =>
    if q4.1 < l1 then
      fX9_hint_19  q4.2
    else
      if 0 ≤ l2 then
        bnd (qR q4.2 9 l0 7) fun x7 =>
        bnd (cl q4.2 3 x7 (fX3_hintOf x7 l1 l2 q4.2)) fun q10 =>
        some (some q10.1, q10.2)
      else
        fX9_hint_19  q4.2
set_option maxRecDepth 100000 in
set_option maxHeartbeats 4000000 in
theorem okX9_hint {E : zE} {l0 : Nat} {l1 : Int32} {l2 : Int32} {s : zS} {q : Option Int32 × zS} (h : fX9_hint l0 l1 l2 s = some q) : CX E mX9_hint [.ref l0, .int l1, .int l2] s xN q := by
  refine CX.of (ls := [(0, .ref l0), (1, .int l1), (2, .int l2)]) (by decide) rfl (Nat.le_of_ble_eq_true rfl) ?_
  show Z E mX9_hint 0 [(0, .ref l0), (1, .int l1), (2, .int l2)] [] s (1, 6) (zRX E mX9_hint xN q)
  unfold fX9_hint at h
  refine z_iload_n (pc := 0) 1 rfl dX9_hint_0 rfl ?_
  refine z_if_lt (pc := 1) (tgt := 19) dX9_hint_1 (by decide) (fun hc => ?_) (fun hc => ?_)
  · replace h := ifp hc h
    exact z_sub [] rfl (bX9_hint_19  h)
  · replace h := ifn hc h
    refine z_iload_n (pc := 4) 1 rfl dX9_hint_4 rfl ?_
    refine z_aload_n (pc := 5) 0 rfl dX9_hint_5 rfl ?_
    obtain ⟨a2, x1, e3, h⟩ := iR h
    refine y_getR (pc := 6) flRX9_48 dX9_hint_6 rfl a2 e3 ?_
    obtain ⟨a5, q4, e6, h⟩ := iC h
    refine y_Vi (pc := 9) (M2 := mX1_inAll) (As := []) (okX1_inAll e6) mvX1_inAll mlRX9_145 dX9_hint_9 ⟨by decide, by decide⟩ rfl rfl rfl (fun _ => Nat.le_of_ble_eq_true rfl) a5 ?_
    refine z_icmp_gt (pc := 12) (tgt := 19) dX9_hint_12 (by decide) (fun hc => ?_) (fun hc => ?_)
    · replace h := ifp hc h
      exact z_sub [] rfl (bX9_hint_19  h)
    · replace h := ifn hc h
      refine z_iload_n (pc := 15) 2 rfl dX9_hint_15 rfl ?_
      refine z_if_ge (pc := 16) (tgt := 29) dX9_hint_16 (by decide) (fun hc => ?_) (fun hc => ?_)
      · replace h := ifp hc h
        refine z_aload_n (pc := 29) 0 rfl dX9_hint_29 rfl ?_
        obtain ⟨a8, x7, e9, h⟩ := iR h
        refine y_getR (pc := 30) flRX9_57 dX9_hint_30 rfl a8 e9 ?_
        refine z_iload_n (pc := 33) 1 rfl dX9_hint_33 rfl ?_
        refine z_iload_n (pc := 34) 2 rfl dX9_hint_34 rfl ?_
        obtain ⟨a11, q10, e12, h⟩ := iC h
        refine y_Vi (pc := 35) (M2 := mX3_hintOf) (As := [.int l1, .int l2]) (okX3_hintOf e12) mvX3_hintOf mlRX9_184 dX9_hint_35 ⟨by decide, by decide⟩ rfl rfl rfl zrest0 a11 ?_
        exact y_iretX (pc := 38) dX9_hint_38 rfl h
      · replace h := ifn hc h
        exact z_sub [] rfl (bX9_hint_19  h)
def fX9_out_15   (s : zS) : Option (Option Int32 × zS) :=
  gd (zal s = false) (some (none, s))
set_option maxRecDepth 100000 in
set_option maxHeartbeats 4000000 in
theorem bX9_out_15 {E : zE}    {s : zS} {q : Option Int32 × zS} (h : fX9_out_15   s = some q) : Z E mX9_out 15 [] [] s (1, 6) (zRX E mX9_out xN q) := by
  unfold fX9_out_15 at h
  exact y_throw (pc := 15) (k := 16) tw_N (fun E U h => h.2.2.1.2.2.2.2.2.2) dX9_out_15 dX9_out_18 dX9_out_19 dX9_out_21 dX9_out_24 (Nat.le_of_ble_eq_true rfl) (Nat.le_of_ble_eq_true rfl) (Nat.le_of_ble_eq_true rfl) (Nat.le_of_ble_eq_true rfl) zrest0 h
def fX9_out (l0 : Nat) (l1 : Int32) (s : zS) : Option (Option Int32 × zS) :=
  if l1 < 0 then
    fX9_out_15  s
  else
    bnd (qR s 9 l0 1) fun x1 =>
    bnd (cl s 0 x1 (fX0_kept x1  s)) fun q4 =>
    if l1 < q4.1 then
      bnd (qR q4.2 9 l0 1) fun x7 =>
      bnd (cl q4.2 0 x7 (fX0_at x7 l1 q4.2)) fun q10 =>
      some (some q10.1, q10.2)
    else
      fX9_out_15  q4.2
set_option maxRecDepth 100000 in
set_option maxHeartbeats 4000000 in
theorem okX9_out {E : zE} {l0 : Nat} {l1 : Int32} {s : zS} {q : Option Int32 × zS} (h : fX9_out l0 l1 s = some q) : CX E mX9_out [.ref l0, .int l1] s xN q := by
  refine CX.of (ls := [(0, .ref l0), (1, .int l1)]) (by decide) rfl (Nat.le_of_ble_eq_true rfl) ?_
  show Z E mX9_out 0 [(0, .ref l0), (1, .int l1)] [] s (1, 6) (zRX E mX9_out xN q)
  unfold fX9_out at h
  refine z_iload_n (pc := 0) 1 rfl dX9_out_0 rfl ?_
  refine z_if_lt (pc := 1) (tgt := 15) dX9_out_1 (by decide) (fun hc => ?_) (fun hc => ?_)
  · replace h := ifp hc h
    exact z_sub [] rfl (bX9_out_15  h)
  · replace h := ifn hc h
    refine z_iload_n (pc := 4) 1 rfl dX9_out_4 rfl ?_
    refine z_aload_n (pc := 5) 0 rfl dX9_out_5 rfl ?_
    obtain ⟨a2, x1, e3, h⟩ := iR h
    refine y_getR (pc := 6) flRX9_18 dX9_out_6 rfl a2 e3 ?_
    obtain ⟨a5, q4, e6, h⟩ := iC h
    refine y_Vi (pc := 9) (M2 := mX0_kept) (As := []) (okX0_kept e6) mvX0_kept mlRX9_197 dX9_out_9 ⟨by decide, by decide⟩ rfl rfl rfl (fun _ => Nat.le_of_ble_eq_true rfl) a5 ?_
    refine z_icmp_lt (pc := 12) (tgt := 25) dX9_out_12 (by decide) (fun hc => ?_) (fun hc => ?_)
    · replace h := ifp hc h
      refine z_aload_n (pc := 25) 0 rfl dX9_out_25 rfl ?_
      obtain ⟨a8, x7, e9, h⟩ := iR h
      refine y_getR (pc := 26) flRX9_18 dX9_out_26 rfl a8 e9 ?_
      refine z_iload_n (pc := 29) 1 rfl dX9_out_29 rfl ?_
      obtain ⟨a11, q10, e12, h⟩ := iC h
      refine y_Vi (pc := 30) (M2 := mX0_at) (As := [.int l1]) (okX0_at e12) mvX0_at mlRX9_202 dX9_out_30 ⟨by decide, by decide⟩ rfl rfl rfl zrest0 a11 ?_
      exact y_iretX (pc := 33) dX9_out_33 rfl h
    · replace h := ifn hc h
      exact z_sub [] rfl (bX9_out_15  h)
