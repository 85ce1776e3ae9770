def fX10_shorter_194 (k43 : Nat → Int32 → Int32 → zS → Option (Int32 × zS)) (l0 : Nat) (l1 : Int32) (l2 : Int32) (s : zS) : Option (Int32 × zS) :=
  k43 l0 l1 (l2 + 1) s
set_option maxRecDepth 100000 in
set_option maxHeartbeats 4000000 in
theorem bX10_shorter_194 {E : zE} {k43 : Nat → Int32 → Int32 → zS → Option (Int32 × zS)} (hk43 : ∀ {l0 : Nat} {l1 : Int32} {l2 : Int32} {s : zS} {q : Int32 × zS}, k43 l0 l1 l2 s = some q → Z E mX10_shorter 43 [(0, .ref l0), (1, .int l1), (2, .int l2)] [] s (0, 0) (zRi E mX10_shorter q.1 q.2)) {l0 : Nat} {l1 : Int32} {l2 : Int32} {s : zS} {q : Int32 × zS} (h : fX10_shorter_194 k43 l0 l1 l2 s = some q) : Z E mX10_shorter 194 [(0, .ref l0), (1, .int l1), (2, .int l2)] [] s (0, 0) (zRi E mX10_shorter q.1 q.2) := by
  unfold fX10_shorter_194 at h
  refine z_iinc (pc := 194) (v := (l2 + 1)) (ls' := [(2, .int (l2 + 1)), (0, .ref l0), (1, .int l1)]) 2 rfl rfl dX10_shorter_194 (by decide) (fun _ => rfl) ?_
  refine z_goto (pc := 197) (tgt := 43) dX10_shorter_197 (by decide) ?_
  exact z_sub [1, 2, 0] rfl (hk43 h)
def fX10_shorter_141 (k43 : Nat → Int32 → Int32 → zS → Option (Int32 × zS)) (n : Nat) : Nat → Int32 → Int32 → Int32 → zS → Option (Int32 × zS) := match n with
  | 0 => fun _ _ _ _ _ => none
  | n + 1 => fun l0 l1 l2 l4 s =>
    bnd (qR s 10 l0 16) fun x43 =>
    bnd (qA s 12 x43 l2) fun x46 =>
    if x46 ≤ l4 then
      bnd (cl s 10 l0 (fX10_put l0 48 s)) fun q49 =>
      bnd (cl q49 10 l0 (fX10_put l0 10 q49)) fun q52 =>
      fX10_shorter_194 (k43) l0 l1 l2 q52
    else
      bnd (qR s 10 l0 17) fun x55 =>
      bnd (qR s 10 l0 15) fun x58 =>
      bnd (qA s 12 x58 l2) fun x61 =>
      bnd (qA s 12 x55 (x61 + l4)) fun x64 =>
      bnd (cl s 10 l0 (fX10_putNumber l0 x64 s)) fun q67 =>
      bnd (cl q67 10 l0 (fX10_put l0 32 q67)) fun q70 =>
      (fX10_shorter_141 k43 n) l0 l1 l2 (l4 + 1) q70
set_option maxRecDepth 100000 in
set_option maxHeartbeats 4000000 in
theorem bX10_shorter_141 {E : zE} {k43 : Nat → Int32 → Int32 → zS → Option (Int32 × zS)} (hk43 : ∀ {l0 : Nat} {l1 : Int32} {l2 : Int32} {s : zS} {q : Int32 × zS}, k43 l0 l1 l2 s = some q → Z E mX10_shorter 43 [(0, .ref l0), (1, .int l1), (2, .int l2)] [] s (0, 0) (zRi E mX10_shorter q.1 q.2)) : ∀ (n : Nat) {l0 : Nat} {l1 : Int32} {l2 : Int32} {l4 : Int32} {s : zS} {q : Int32 × zS}, fX10_shorter_141 k43 n l0 l1 l2 l4 s = some q → Z E mX10_shorter 141 [(0, .ref l0), (1, .int l1), (2, .int l2), (4, .int l4)] [] s (0, 0) (zRi E mX10_shorter q.1 q.2) := by
  intro n
  induction n with
  | zero => intro l0 l1 l2 l4 s q h; cases h
  | succ n ih =>
    intro l0 l1 l2 l4 s q h
    unfold fX10_shorter_141 at h
    refine z_iload (pc := 141) 3 rfl dX10_shorter_141 ?_
    refine z_aload_n (pc := 143) 0 rfl dX10_shorter_143 rfl ?_
    obtain ⟨a44, x43, e45, h⟩ := iR h
    refine y_getR (pc := 144) flRX10_32 dX10_shorter_144 rfl a44 e45 ?_
    refine z_iload_n (pc := 147) 2 rfl dX10_shorter_147 rfl ?_
    obtain ⟨a47, x46, e48, h⟩ := iA h
    refine y_iald (pc := 148) dX10_shorter_148 a47 e48 ?_
    refine z_icmp_ge (pc := 149) (tgt := 182) dX10_shorter_149 (by decide) (fun hc => ?_) (fun hc => ?_)
    · replace h := ifp hc h
      refine z_aload_n (pc := 182) 0 rfl dX10_shorter_182 rfl ?_
      refine z_bipush (pc := 183) (v := 48) dX10_shorter_183 (by decide) ?_
      obtain ⟨a50, q49, e51, h⟩ := iC h
      refine y_V (pc := 185) (M2 := mX10_put) (As := [.int 48]) (okX10_put e51) mvX10_put mlRX10_315 dX10_shorter_185 ⟨by decide, by decide⟩ rfl rfl rfl zrest0 a50 ?_
      refine z_aload_n (pc := 188) 0 rfl dX10_shorter_188 rfl ?_
      refine z_bipush (pc := 189) (v := 10) dX10_shorter_189 (by decide) ?_
      obtain ⟨a53, q52, e54, h⟩ := iC h
      refine y_V (pc := 191) (M2 := mX10_put) (As := [.int 10]) (okX10_put e54) mvX10_put mlRX10_315 dX10_shorter_191 ⟨by decide, by decide⟩ rfl rfl rfl zrest0 a53 ?_
      exact z_sub [0, 1, 2] rfl (bX10_shorter_194 (fun h => hk43 h) h)
    · replace h := ifn hc h
      refine z_aload_n (pc := 152) 0 rfl dX10_shorter_152 rfl ?_
      refine z_aload_n (pc := 153) 0 rfl dX10_shorter_153 rfl ?_
      obtain ⟨a56, x55, e57, h⟩ := iR h
      refine y_getR (pc := 154) flRX10_35 dX10_shorter_154 rfl a56 e57 ?_
      refine z_aload_n (pc := 157) 0 rfl dX10_shorter_157 rfl ?_
      obtain ⟨a59, x58, e60, h⟩ := iR h
      refine y_getR (pc := 158) flRX10_29 dX10_shorter_158 rfl a59 e60 ?_
      refine z_iload_n (pc := 161) 2 rfl dX10_shorter_161 rfl ?_
      obtain ⟨a62, x61, e63, h⟩ := iA h
      refine y_iald (pc := 162) dX10_shorter_162 a62 e63 ?_
      refine z_iload (pc := 163) 3 rfl dX10_shorter_163 ?_
      refine z_iadd (pc := 165) dX10_shorter_165 ?_
      obtain ⟨a65, x64, e66, h⟩ := iA h
      refine y_iald (pc := 166) dX10_shorter_166 a65 e66 ?_
      obtain ⟨a68, q67, e69, h⟩ := iC h
      refine y_V (pc := 167) (M2 := mX10_putNumber) (As := [.int x64]) (okX10_putNumber e69) mvX10_putNumber mlRX10_318 dX10_shorter_167 ⟨by decide, by decide⟩ rfl rfl rfl zrest0 a68 ?_
      refine z_aload_n (pc := 170) 0 rfl dX10_shorter_170 rfl ?_
      refine z_bipush (pc := 171) (v := 32) dX10_shorter_171 (by decide) ?_
      obtain ⟨a71, q70, e72, h⟩ := iC h
      refine y_V (pc := 173) (M2 := mX10_put) (As := [.int 32]) (okX10_put e72) mvX10_put mlRX10_315 dX10_shorter_173 ⟨by decide, by decide⟩ rfl rfl rfl zrest0 a71 ?_
      refine z_iinc (pc := 176) (v := (l4 + 1)) (ls' := [(4, .int (l4 + 1)), (0, .ref l0), (1, .int l1), (2, .int l2)]) 3 rfl rfl dX10_shorter_176 (by decide) (fun _ => rfl) ?_
      refine z_goto (pc := 179) (tgt := 141) dX10_shorter_179 (by decide) ?_
      exact z_sub [1, 2, 3, 0] rfl (ih h)
def fX10_shorter_138 (k43 : Nat → Int32 → Int32 → zS → Option (Int32 × zS)) (l0 : Nat) (l1 : Int32) (l2 : Int32) (s : zS) : Option (Int32 × zS) :=
  fX10_shorter_141 (k43) zfu l0 l1 l2 0 s
set_option maxRecDepth 100000 in
set_option maxHeartbeats 4000000 in
theorem bX10_shorter_138 {E : zE} {k43 : Nat → Int32 → Int32 → zS → Option (Int32 × zS)} (hk43 : ∀ {l0 : Nat} {l1 : Int32} {l2 : Int32} {s : zS} {q : Int32 × zS}, k43 l0 l1 l2 s = some q → Z E mX10_shorter 43 [(0, .ref l0), (1, .int l1), (2, .int l2)] [] s (0, 0) (zRi E mX10_shorter q.1 q.2)) {l0 : Nat} {l1 : Int32} {l2 : Int32} {s : zS} {q : Int32 × zS} (h : fX10_shorter_138 k43 l0 l1 l2 s = some q) : Z E mX10_shorter 138 [(0, .ref l0), (1, .int l1), (2, .int l2)] [] s (0, 0) (zRi E mX10_shorter q.1 q.2) := by
  unfold fX10_shorter_138 at h
  refine z_iconst (pc := 138) (v := 0) dX10_shorter_138 (by decide) ?_
  refine z_istore (pc := 139) (ls' := [(4, .int 0), (0, .ref l0), (1, .int l1), (2, .int l2)]) dX10_shorter_139 (by decide) (fun _ => rfl) ?_
  exact z_sub [1, 2, 3, 0] rfl (bX10_shorter_141 (fun h => hk43 h) _ h)
def fX10_shorter_112 (k43 : Nat → Int32 → Int32 → zS → Option (Int32 × zS)) (l0 : Nat) (l1 : Int32) (l2 : Int32) (t0 : Int32) (s : zS) : Option (Int32 × zS) :=
  if t0 = 0 then
    fX10_shorter_194 (k43) l0 l1 l2 s
  else
    bnd (qR s 10 l0 18) fun x37 =>
    bnd (qA s 13 x37 l2) fun x40 =>
    if x40 = 0 then
      fX10_shorter_138 (k43) l0 l1 l2 s
    else
      bnd (cl s 10 l0 (fX10_put l0 100 s)) fun q43 =>
      bnd (cl q43 10 l0 (fX10_put l0 32 q43)) fun q46 =>
      fX10_shorter_138 (k43) l0 l1 l2 q46
set_option maxRecDepth 100000 in
set_option maxHeartbeats 4000000 in
theorem bX10_shorter_112 {E : zE} {k43 : Nat → Int32 → Int32 → zS → Option (Int32 × zS)} (hk43 : ∀ {l0 : Nat} {l1 : Int32} {l2 : Int32} {s : zS} {q : Int32 × zS}, k43 l0 l1 l2 s = some q → Z E mX10_shorter 43 [(0, .ref l0), (1, .int l1), (2, .int l2)] [] s (0, 0) (zRi E mX10_shorter q.1 q.2)) {l0 : Nat} {l1 : Int32} {l2 : Int32} {t0 : Int32} {s : zS} {q : Int32 × zS} (h : fX10_shorter_112 k43 l0 l1 l2 t0 s = some q) : Z E mX10_shorter 112 [(0, .ref l0), (1, .int l1), (2, .int l2)] [.int t0] s (0, 0) (zRi E mX10_shorter q.1 q.2) := by
  unfold fX10_shorter_112 at h
  refine z_istore_n (pc := 112) (ls' := [(3, .int t0), (0, .ref l0), (1, .int l1), (2, .int l2)]) dX10_shorter_112 rfl (by decide) (fun _ => rfl) ?_
  refine z_iload_n (pc := 113) 0 rfl dX10_shorter_113 rfl ?_
  refine z_if_eq (pc := 114) (tgt := 194) dX10_shorter_114 (by decide) (fun hc => ?_) (fun hc => ?_)
  · replace h := ifp hc h
    exact z_sub [1, 2, 3] rfl (bX10_shorter_194 (fun h => hk43 h) h)
  · replace h := ifn hc h
    refine z_aload_n (pc := 117) 1 rfl dX10_shorter_117 rfl ?_
    obtain ⟨a38, x37, e39, h⟩ := iR h
    refine y_getR (pc := 118) flRX10_38 dX10_shorter_118 rfl a38 e39 ?_
    refine z_iload_n (pc := 121) 3 rfl dX10_shorter_121 rfl ?_
    obtain ⟨a41, x40, e42, h⟩ := iA h
    refine y_zald (pc := 122) dX10_shorter_122 a41 e42 ?_
    refine z_if_eq (pc := 123) (tgt := 138) dX10_shorter_123 (by decide) (fun hc => ?_) (fun hc => ?_)
    · replace h := ifp hc h
      exact z_sub [1, 2, 3] rfl (bX10_shorter_138 (fun h => hk43 h) h)
    · replace h := ifn hc h
      refine z_aload_n (pc := 126) 1 rfl dX10_shorter_126 rfl ?_
      refine z_bipush (pc := 127) (v := 100) dX10_shorter_127 (by decide) ?_
      obtain ⟨a44, q43, e45, h⟩ := iC h
      refine y_V (pc := 129) (M2 := mX10_put) (As := [.int 100]) (okX10_put e45) mvX10_put mlRX10_315 dX10_shorter_129 ⟨by decide, by decide⟩ rfl rfl rfl zrest0 a44 ?_
      refine z_aload_n (pc := 132) 1 rfl dX10_shorter_132 rfl ?_
      refine z_bipush (pc := 133) (v := 32) dX10_shorter_133 (by decide) ?_
      obtain ⟨a47, q46, e48, h⟩ := iC h
      refine y_V (pc := 135) (M2 := mX10_put) (As := [.int 32]) (okX10_put e48) mvX10_put mlRX10_315 dX10_shorter_135 ⟨by decide, by decide⟩ rfl rfl rfl zrest0 a47 ?_
      exact z_sub [1, 2, 3] rfl (bX10_shorter_138 (fun h => hk43 h) h)
def fX10_shorter_97 (k43 : Nat → Int32 → Int32 → zS → Option (Int32 × zS)) (l0 : Nat) (l1 : Int32) (l2 : Int32) (s : zS) : Option (Int32 × zS) :=
  fX10_shorter_112 (k43) l0 l1 l2 0 s
set_option maxRecDepth 100000 in
set_option maxHeartbeats 4000000 in
theorem bX10_shorter_97 {E : zE} {k43 : Nat → Int32 → Int32 → zS → Option (Int32 × zS)} (hk43 : ∀ {l0 : Nat} {l1 : Int32} {l2 : Int32} {s : zS} {q : Int32 × zS}, k43 l0 l1 l2 s = some q → Z E mX10_shorter 43 [(0, .ref l0), (1, .int l1), (2, .int l2)] [] s (0, 0) (zRi E mX10_shorter q.1 q.2)) {l0 : Nat} {l1 : Int32} {l2 : Int32} {s : zS} {q : Int32 × zS} (h : fX10_shorter_97 k43 l0 l1 l2 s = some q) : Z E mX10_shorter 97 [(0, .ref l0), (1, .int l1), (2, .int l2)] [] s (0, 0) (zRi E mX10_shorter q.1 q.2) := by
  unfold fX10_shorter_97 at h
  refine z_iconst (pc := 97) (v := 0) dX10_shorter_97 (by decide) ?_
  refine z_goto (pc := 98) (tgt := 112) dX10_shorter_98 (by decide) ?_
  exact z_sub [0, 1, 2] rfl (bX10_shorter_112 (fun h => hk43 h) h)
def fX10_shorter_93 (k43 : Nat → Int32 → Int32 → zS → Option (Int32 × zS)) (l0 : Nat) (l1 : Int32) (l2 : Int32) (s : zS) : Option (Int32 × zS) :=
  fX10_shorter_112 (k43) l0 l1 l2 1 s
set_option maxRecDepth 100000 in
set_option maxHeartbeats 4000000 in
theorem bX10_shorter_93 {E : zE} {k43 : Nat → Int32 → Int32 → zS → Option (Int32 × zS)} (hk43 : ∀ {l0 : Nat} {l1 : Int32} {l2 : Int32} {s : zS} {q : Int32 × zS}, k43 l0 l1 l2 s = some q → Z E mX10_shorter 43 [(0, .ref l0), (1, .int l1), (2, .int l2)] [] s (0, 0) (zRi E mX10_shorter q.1 q.2)) {l0 : Nat} {l1 : Int32} {l2 : Int32} {s : zS} {q : Int32 × zS} (h : fX10_shorter_93 k43 l0 l1 l2 s = some q) : Z E mX10_shorter 93 [(0, .ref l0), (1, .int l1), (2, .int l2)] [] s (0, 0) (zRi E mX10_shorter q.1 q.2) := by
  unfold fX10_shorter_93 at h
  refine z_iconst (pc := 93) (v := 1) dX10_shorter_93 (by decide) ?_
  refine z_goto (pc := 94) (tgt := 112) dX10_shorter_94 (by decide) ?_
  exact z_sub [0, 1, 2] rfl (bX10_shorter_112 (fun h => hk43 h) h)
def fX10_shorter_43  (n : Nat) : Nat → Int32 → Int32 → zS → Option (Int32 × zS) := match n with
  | 0 => fun _ _ _ _ => none
  | n + 1 => fun l0 l1 l2 s =>
    if l1 < l2 then
      bnd (qI s 10 l0 58) fun x16 =>
      some (x16, s)
    else
      bnd (qR s 10 l0 18) fun x19 =>
      bnd (qA s 13 x19 l2) fun x22 =>
      if x22 = 0 then
        bnd (qR s 10 l0 42) fun x25 =>
        bnd (qR s 10 l0 32) fun x28 =>
        bnd (qA s 12 x28 l2) fun x31 =>
        bnd (qA s 13 x25 x31) fun x34 =>
        fX10_shorter_112 ((fX10_shorter_43  n)) l0 l1 l2 x34 s
      else
        bnd (qR s 10 l0 45) fun x37 =>
        bnd (qA s 12 x37 l2) fun x40 =>
        if x40 ≤ 0 then
          fX10_shorter_97 ((fX10_shorter_43  n)) l0 l1 l2 s
        else
          bnd (qR s 10 l0 45) fun x43 =>
          bnd (qA s 12 x43 l2) fun x46 =>
          bnd (qI s 10 l0 19) fun x49 =>
          if x46 ≤ x49 then
            fX10_shorter_93 ((fX10_shorter_43  n)) l0 l1 l2 s
          else
            bnd (qR s 10 l0 42) fun x52 =>
            bnd (qR s 10 l0 45) fun x55 =>
            bnd (qA s 12 x55 l2) fun x58 =>
            bnd (qA s 13 x52 x58) fun x61 =>
            if x61 = 0 then
              fX10_shorter_97 ((fX10_shorter_43  n)) l0 l1 l2 s
            else
              fX10_shorter_93 ((fX10_shorter_43  n)) l0 l1 l2 s
set_option maxRecDepth 100000 in
set_option maxHeartbeats 4000000 in
theorem bX10_shorter_43 {E : zE}  : ∀ (n : Nat) {l0 : Nat} {l1 : Int32} {l2 : Int32} {s : zS} {q : Int32 × zS}, fX10_shorter_43  n l0 l1 l2 s = some q → Z E mX10_shorter 43 [(0, .ref l0), (1, .int l1), (2, .int l2)] [] s (0, 0) (zRi E mX10_shorter q.1 q.2) := by
  intro n
  induction n with
  | zero => intro l0 l1 l2 s q h; cases h
  | succ n ih =>
    intro l0 l1 l2 s q h
    unfold fX10_shorter_43 at h
    refine z_iload_n (pc := 43) 2 rfl dX10_shorter_43 rfl ?_
    refine z_iload_n (pc := 44) 1 rfl dX10_shorter_44 rfl ?_
    refine z_icmp_gt (pc := 45) (tgt := 200) dX10_shorter_45 (by decide) (fun hc => ?_) (fun hc => ?_)
    · replace h := ifp hc h
      refine z_aload_n (pc := 200) 0 rfl dX10_shorter_200 rfl ?_
      obtain ⟨a17, x16, e18, h⟩ := iI h
      refine y_getI (pc := 201) flRX10_312 dX10_shorter_201 rfl a17 e18 ?_
      exact y_iret (pc := 204) dX10_shorter_204 rfl h
    · replace h := ifn hc h
      refine z_aload_n (pc := 48) 0 rfl dX10_shorter_48 rfl ?_
      obtain ⟨a20, x19, e21, h⟩ := iR h
      refine y_getR (pc := 49) flRX10_38 dX10_shorter_49 rfl a20 e21 ?_
      refine z_iload_n (pc := 52) 2 rfl dX10_shorter_52 rfl ?_
      obtain ⟨a23, x22, e24, h⟩ := iA h
      refine y_zald (pc := 53) dX10_shorter_53 a23 e24 ?_
      refine z_if_eq (pc := 54) (tgt := 101) dX10_shorter_54 (by decide) (fun hc => ?_) (fun hc => ?_)
      · replace h := ifp hc h
        refine z_aload_n (pc := 101) 0 rfl dX10_shorter_101 rfl ?_
        obtain ⟨a26, x25, e27, h⟩ := iR h
        refine y_getR (pc := 102) flRX10_63 dX10_shorter_102 rfl a26 e27 ?_
        refine z_aload_n (pc := 105) 0 rfl dX10_shorter_105 rfl ?_
        obtain ⟨a29, x28, e30, h⟩ := iR h
        refine y_getR (pc := 106) flRX10_57 dX10_shorter_106 rfl a29 e30 ?_
        refine z_iload_n (pc := 109) 2 rfl dX10_shorter_109 rfl ?_
        obtain ⟨a32, x31, e33, h⟩ := iA h
        refine y_iald (pc := 110) dX10_shorter_110 a32 e33 ?_
        obtain ⟨a35, x34, e36, h⟩ := iA h
        refine y_zald (pc := 111) dX10_shorter_111 a35 e36 ?_
        exact z_sub [0, 1, 2] rfl (bX10_shorter_112 (fun h => ih h) h)
      · replace h := ifn hc h
        refine z_aload_n (pc := 57) 0 rfl dX10_shorter_57 rfl ?_
        obtain ⟨a38, x37, e39, h⟩ := iR h
        refine y_getR (pc := 58) flRX10_72 dX10_shorter_58 rfl a38 e39 ?_
        refine z_iload_n (pc := 61) 2 rfl dX10_shorter_61 rfl ?_
        obtain ⟨a41, x40, e42, h⟩ := iA h
        refine y_iald (pc := 62) dX10_shorter_62 a41 e42 ?_
        refine z_if_le (pc := 63) (tgt := 97) dX10_shorter_63 (by decide) (fun hc => ?_) (fun hc => ?_)
        · replace h := ifp hc h
          exact z_sub [0, 1, 2] rfl (bX10_shorter_97 (fun h => ih h) h)
        · replace h := ifn hc h
          refine z_aload_n (pc := 66) 0 rfl dX10_shorter_66 rfl ?_
          obtain ⟨a44, x43, e45, h⟩ := iR h
          refine y_getR (pc := 67) flRX10_72 dX10_shorter_67 rfl a44 e45 ?_
          refine z_iload_n (pc := 70) 2 rfl dX10_shorter_70 rfl ?_
          obtain ⟨a47, x46, e48, h⟩ := iA h
          refine y_iald (pc := 71) dX10_shorter_71 a47 e48 ?_
          refine z_aload_n (pc := 72) 0 rfl dX10_shorter_72 rfl ?_
          obtain ⟨a50, x49, e51, h⟩ := iI h
          refine y_getI (pc := 73) flRX10_185 dX10_shorter_73 rfl a50 e51 ?_
          refine z_icmp_le (pc := 76) (tgt := 93) dX10_shorter_76 (by decide) (fun hc => ?_) (fun hc => ?_)
          · replace h := ifp hc h
            exact z_sub [0, 1, 2] rfl (bX10_shorter_93 (fun h => ih h) h)
          · replace h := ifn hc h
            refine z_aload_n (pc := 79) 0 rfl dX10_shorter_79 rfl ?_
            obtain ⟨a53, x52, e54, h⟩ := iR h
            refine y_getR (pc := 80) flRX10_63 dX10_shorter_80 rfl a53 e54 ?_
            refine z_aload_n (pc := 83) 0 rfl dX10_shorter_83 rfl ?_
            obtain ⟨a56, x55, e57, h⟩ := iR h
            refine y_getR (pc := 84) flRX10_72 dX10_shorter_84 rfl a56 e57 ?_
            refine z_iload_n (pc := 87) 2 rfl dX10_shorter_87 rfl ?_
            obtain ⟨a59, x58, e60, h⟩ := iA h
            refine y_iald (pc := 88) dX10_shorter_88 a59 e60 ?_
            obtain ⟨a62, x61, e63, h⟩ := iA h
            refine y_zald (pc := 89) dX10_shorter_89 a62 e63 ?_
            refine z_if_eq (pc := 90) (tgt := 97) dX10_shorter_90 (by decide) (fun hc => ?_) (fun hc => ?_)
            · replace h := ifp hc h
              exact z_sub [0, 1, 2] rfl (bX10_shorter_97 (fun h => ih h) h)
            · replace h := ifn hc h
              exact z_sub [0, 1, 2] rfl (bX10_shorter_93 (fun h => ih h) h)
def fX10_shorter_40  (l0 : Nat) (t0 : Int32) (s : zS) : Option (Int32 × zS) :=
  fX10_shorter_43  zfu l0 t0 1 s
set_option maxRecDepth 100000 in
set_option maxHeartbeats 4000000 in
theorem bX10_shorter_40 {E : zE}   {l0 : Nat} {t0 : Int32} {s : zS} {q : Int32 × zS} (h : fX10_shorter_40  l0 t0 s = some q) : Z E mX10_shorter 40 [(0, .ref l0)] [.int t0] s (0, 0) (zRi E mX10_shorter q.1 q.2) := by
  unfold fX10_shorter_40 at h
  refine z_istore_n (pc := 40) (ls' := [(1, .int t0), (0, .ref l0)]) dX10_shorter_40 rfl (by decide) (fun _ => rfl) ?_
  refine z_iconst (pc := 41) (v := 1) dX10_shorter_41 (by decide) ?_
  refine z_istore_n (pc := 42) (ls' := [(2, .int 1), (1, .int t0), (0, .ref l0)]) dX10_shorter_42 rfl (by decide) (fun _ => rfl) ?_
  exact z_sub [2, 1, 0] rfl (bX10_shorter_43  _ h)
def fX10_shorter (l0 : Nat) (s : zS) : Option (Int32 × zS) :=
  bnd (wI s 10 l0 0 0) fun s1 =>
  bnd (wI s1 10 l0 58 0) fun s4 =>
  bnd (qI s4 10 l0 34) fun x7 =>
  if x7 = 0 then
    fX10_shorter_40  l0 0 s4
  else
    bnd (qI s4 10 l0 37) fun x10 =>
    if x10 = (-1) then
      bnd (qI s4 10 l0 20) fun x16 =>
      fX10_shorter_40  l0 x16 s4
    else
      bnd (qI s4 10 l0 37) fun x13 =>
      fX10_shorter_40  l0 x13 s4
set_option maxRecDepth 100000 in
set_option maxHeartbeats 4000000 in
theorem okX10_shorter {E : zE} {l0 : Nat} {s : zS} {q : Int32 × zS} (h : fX10_shorter l0 s = some q) : Ci E mX10_shorter [.ref l0] s q.1 q.2 := by
  refine Ct.of (ls := [(0, .ref l0)]) (by decide) rfl (Nat.le_of_ble_eq_true rfl) ?_
  show Z E mX10_shorter 0 [(0, .ref l0)] [] s (0, 0) (zRi E mX10_shorter q.1 q.2)
  unfold fX10_shorter at h
  refine z_aload_n (pc := 0) 0 rfl dX10_shorter_0 rfl ?_
  refine z_iconst (pc := 1) (v := 0) dX10_shorter_1 (by decide) ?_
  obtain ⟨a2, s1, e3, h⟩ := jI h
  refine y_putI (pc := 2) flRX10_96 dX10_shorter_2 rfl (Or.inl rfl) a2 e3 ?_
  refine z_aload_n (pc := 5) 0 rfl dX10_shorter_5 rfl ?_
  refine z_iconst (pc := 6) (v := 0) dX10_shorter_6 (by decide) ?_
  obtain ⟨a5, s4, e6, h⟩ := jI h
  refine y_putI (pc := 7) flRX10_312 dX10_shorter_7 rfl (Or.inl rfl) a5 e6 ?_
  refine z_aload_n (pc := 10) 0 rfl dX10_shorter_10 rfl ?_
  obtain ⟨a8, x7, e9, h⟩ := iI h
  refine y_getI (pc := 11) flRX10_191 dX10_shorter_11 rfl a8 e9 ?_
  refine z_if_ne (pc := 14) (tgt := 21) dX10_shorter_14 (by decide) (fun hc => ?_) (fun hc => ?_)
  · replace h := ifn hc h
    refine z_aload_n (pc := 21) 0 rfl dX10_shorter_21 rfl ?_
    obtain ⟨a11, x10, e12, h⟩ := iI h
    refine y_getI (pc := 22) flRX10_293 dX10_shorter_22 rfl a11 e12 ?_
    refine z_iconst (pc := 25) (v := (-1)) dX10_shorter_25 (by decide) ?_
    refine z_icmp_ne (pc := 26) (tgt := 36) dX10_shorter_26 (by decide) (fun hc => ?_) (fun hc => ?_)
    · replace h := ifn hc h
      refine z_aload_n (pc := 36) 0 rfl dX10_shorter_36 rfl ?_
      obtain ⟨a14, x13, e15, h⟩ := iI h
      refine y_getI (pc := 37) flRX10_293 dX10_shorter_37 rfl a14 e15 ?_
      exact z_sub [0] rfl (bX10_shorter_40  h)
    · replace h := ifp hc h
      refine z_aload_n (pc := 29) 0 rfl dX10_shorter_29 rfl ?_
      obtain ⟨a17, x16, e18, h⟩ := iI h
      refine y_getI (pc := 30) flRX10_188 dX10_shorter_30 rfl a17 e18 ?_
      refine z_goto (pc := 33) (tgt := 40) dX10_shorter_33 (by decide) ?_
      exact z_sub [0] rfl (bX10_shorter_40  h)
  · replace h := ifp hc h
    refine z_iconst (pc := 17) (v := 0) dX10_shorter_17 (by decide) ?_
    refine z_goto (pc := 18) (tgt := 40) dX10_shorter_18 (by decide) ?_
    exact z_sub [0] rfl (bX10_shorter_40  h)
def fX10_out_24  (l0 : Nat) (s : zS) : Option (Int32 × zS) :=
  bnd (cl s 10 l0 (fX10_fail l0  s)) fun q4 =>
  some (q4.1, q4.2)
set_option maxRecDepth 100000 in
set_option maxHeartbeats 4000000 in
theorem bX10_out_24 {E : zE}   {l0 : Nat} {s : zS} {q : Int32 × zS} (h : fX10_out_24  l0 s = some q) : Z E mX10_out 24 [(0, .ref l0)] [] s (0, 0) (zRi E mX10_out q.1 q.2) := by
  unfold fX10_out_24 at h
  refine z_aload_n (pc := 24) 0 rfl dX10_out_24 rfl ?_
  obtain ⟨a5, q4, e6, h⟩ := iC h
  refine y_Vi (pc := 25) (M2 := mX10_fail) (As := []) (okX10_fail e6) mvX10_fail mlRX10_157 dX10_out_25 ⟨by decide, by decide⟩ rfl rfl rfl zrest0 a5 ?_
  exact y_iret (pc := 28) dX10_out_28 rfl h
def fX10_out (l0 : Nat) (l1 : Int32) (s : zS) : Option (Int32 × zS) :=
  bnd (wI s 10 l0 0 0) fun s1 =>
  if l1 < 0 then
    fX10_out_24  l0 s1
  else
    bnd (qI s1 10 l0 58) fun x4 =>
    if x4 ≤ l1 then
      fX10_out_24  l0 s1
    else
      if l1 < 6000 then
        bnd (qR s1 10 l0 57) fun x7 =>
        bnd (qA s1 12 x7 l1) fun x10 =>
        some (x10, s1)
      else
        fX10_out_24  l0 s1
set_option maxRecDepth 100000 in
set_option maxHeartbeats 4000000 in
theorem okX10_out {E : zE} {l0 : Nat} {l1 : Int32} {s : zS} {q : Int32 × zS} (h : fX10_out l0 l1 s = some q) : Ci E mX10_out [.ref l0, .int l1] s q.1 q.2 := by
  refine Ct.of (ls := [(0, .ref l0), (1, .int l1)]) (by decide) rfl (Nat.le_of_ble_eq_true rfl) ?_
  show Z E mX10_out 0 [(0, .ref l0), (1, .int l1)] [] s (0, 0) (zRi E mX10_out q.1 q.2)
  unfold fX10_out at h
  refine z_aload_n (pc := 0) 0 rfl dX10_out_0 rfl ?_
  refine z_iconst (pc := 1) (v := 0) dX10_out_1 (by decide) ?_
  obtain ⟨a2, s1, e3, h⟩ := jI h
  refine y_putI (pc := 2) flRX10_96 dX10_out_2 rfl (Or.inl rfl) a2 e3 ?_
  refine z_iload_n (pc := 5) 1 rfl dX10_out_5 rfl ?_
  refine z_if_lt (pc := 6) (tgt := 24) dX10_out_6 (by decide) (fun hc => ?_) (fun hc => ?_)
  · replace h := ifp hc h
    exact z_sub [0] rfl (bX10_out_24  h)
  · replace h := ifn hc h
    refine z_iload_n (pc := 9) 1 rfl dX10_out_9 rfl ?_
    refine z_aload_n (pc := 10) 0 rfl dX10_out_10 rfl ?_
    obtain ⟨a5, x4, e6, h⟩ := iI h
    refine y_getI (pc := 11) flRX10_312 dX10_out_11 rfl a5 e6 ?_
    refine z_icmp_ge (pc := 14) (tgt := 24) dX10_out_14 (by decide) (fun hc => ?_) (fun hc => ?_)
    · replace h := ifp hc h
      exact z_sub [0] rfl (bX10_out_24  h)
    · replace h := ifn hc h
      refine z_iload_n (pc := 17) 1 rfl dX10_out_17 rfl ?_
      refine z_sipush (pc := 18) (v := 6000) dX10_out_18 (by decide) ?_
      refine z_icmp_lt (pc := 21) (tgt := 29) dX10_out_21 (by decide) (fun hc => ?_) (fun hc => ?_)
      · replace h := ifp hc h
        refine z_aload_n (pc := 29) 0 rfl dX10_out_29 rfl ?_
        obtain ⟨a8, x7, e9, h⟩ := iR h
        refine y_getR (pc := 30) flRX10_93 dX10_out_30 rfl a8 e9 ?_
        refine z_iload_n (pc := 33) 1 rfl dX10_out_33 rfl ?_
        obtain ⟨a11, x10, e12, h⟩ := iA h
        refine y_iald (pc := 34) dX10_out_34 a11 e12 ?_
        exact y_iret (pc := 35) dX10_out_35 rfl h
      · replace h := ifn hc h
        exact z_sub [0] rfl (bX10_out_24  h)
def fX10_takeShorter_19  (n : Nat) : Nat → Int32 → zS → Option (Int32 × zS) := match n with
  | 0 => fun _ _ _ => none
  | n + 1 => fun l0 l1 s =>
    bnd (qI s 10 l0 58) fun x7 =>
    if x7 ≤ l1 then
      bnd (qI s 10 l0 58) fun x10 =>
      bnd (wI s 10 l0 4 x10) fun s13 =>
      bnd (cl s13 10 l0 (fX10_beginRead l0 150 s13)) fun q16 =>
      bnd (cl q16 10 l0 (fX10_readText l0  q16)) fun q19 =>
      bnd (cl q19 10 l0 (fX10_becomesProof l0  q19)) fun q22 =>
      bnd (qI q22 10 l0 20) fun x25 =>
      some (x25, q22)
    else
      bnd (qR s 10 l0 3) fun x28 =>
      bnd (qR s 10 l0 57) fun x31 =>
      bnd (qA s 12 x31 l1) fun x34 =>
      bnd (uI s x28 l1 x34) fun s37 =>
      (fX10_takeShorter_19  n) l0 (l1 + 1) s37
set_option maxRecDepth 100000 in
set_option maxHeartbeats 4000000 in
theorem bX10_takeShorter_19 {E : zE}  : ∀ (n : Nat) {l0 : Nat} {l1 : Int32} {s : zS} {q : Int32 × zS}, fX10_takeShorter_19  n l0 l1 s = some q → Z E mX10_takeShorter 19 [(0, .ref l0), (1, .int l1)] [] s (0, 0) (zRi E mX10_takeShorter q.1 q.2) := by
  intro n
  induction n with
  | zero => intro l0 l1 s q h; cases h
  | succ n ih =>
    intro l0 l1 s q h
    unfold fX10_takeShorter_19 at h
    refine z_iload_n (pc := 19) 1 rfl dX10_takeShorter_19 rfl ?_
    refine z_aload_n (pc := 20) 0 rfl dX10_takeShorter_20 rfl ?_
    obtain ⟨a8, x7, e9, h⟩ := iI h
    refine y_getI (pc := 21) flRX10_312 dX10_takeShorter_21 rfl a8 e9 ?_
    refine z_icmp_ge (pc := 24) (tgt := 45) dX10_takeShorter_24 (by decide) (fun hc => ?_) (fun hc => ?_)
    · replace h := ifp hc h
      refine z_aload_n (pc := 45) 0 rfl dX10_takeShorter_45 rfl ?_
      refine z_aload_n (pc := 46) 0 rfl dX10_takeShorter_46 rfl ?_
      obtain ⟨a11, x10, e12, h⟩ := iI h
      refine y_getI (pc := 47) flRX10_312 dX10_takeShorter_47 rfl a11 e12 ?_
      obtain ⟨a14, s13, e15, h⟩ := jI h
      refine y_putI (pc := 50) flRX10_111 dX10_takeShorter_50 rfl (Or.inl rfl) a14 e15 ?_
      refine z_aload_n (pc := 53) 0 rfl dX10_takeShorter_53 rfl ?_
      refine z_sipush (pc := 54) (v := 150) dX10_takeShorter_54 (by decide) ?_
      obtain ⟨a17, q16, e18, h⟩ := iC h
      refine y_V (pc := 57) (M2 := mX10_beginRead) (As := [.int 150]) (okX10_beginRead e18) mvX10_beginRead mlRX10_201 dX10_takeShorter_57 ⟨by decide, by decide⟩ rfl rfl rfl zrest0 a17 ?_
      refine z_aload_n (pc := 60) 0 rfl dX10_takeShorter_60 rfl ?_
      obtain ⟨a20, q19, e21, h⟩ := iC h
      refine y_V (pc := 61) (M2 := mX10_readText) (As := []) (okX10_readText e21) mvX10_readText mlRX10_213 dX10_takeShorter_61 ⟨by decide, by decide⟩ rfl rfl rfl zrest0 a20 ?_
      refine z_aload_n (pc := 64) 0 rfl dX10_takeShorter_64 rfl ?_
      obtain ⟨a23, q22, e24, h⟩ := iC h
      refine y_V (pc := 65) (M2 := mX10_becomesProof) (As := []) (okX10_becomesProof e24) mvX10_becomesProof mlRX10_216 dX10_takeShorter_65 ⟨by decide, by decide⟩ rfl rfl rfl zrest0 a23 ?_
      refine z_aload_n (pc := 68) 0 rfl dX10_takeShorter_68 rfl ?_
      obtain ⟨a26, x25, e27, h⟩ := iI h
      refine y_getI (pc := 69) flRX10_188 dX10_takeShorter_69 rfl a26 e27 ?_
      exact y_iret (pc := 72) dX10_takeShorter_72 rfl h
    · replace h := ifn hc h
      refine z_aload_n (pc := 27) 0 rfl dX10_takeShorter_27 rfl ?_
      obtain ⟨a29, x28, e30, h⟩ := iR h
      refine y_getR (pc := 28) flRX10_13 dX10_takeShorter_28 rfl a29 e30 ?_
      refine z_iload_n (pc := 31) 1 rfl dX10_takeShorter_31 rfl ?_
      refine z_aload_n (pc := 32) 0 rfl dX10_takeShorter_32 rfl ?_
      obtain ⟨a32, x31, e33, h⟩ := iR h
      refine y_getR (pc := 33) flRX10_93 dX10_takeShorter_33 rfl a32 e33 ?_
      refine z_iload_n (pc := 36) 1 rfl dX10_takeShorter_36 rfl ?_
      obtain ⟨a35, x34, e36, h⟩ := iA h
      refine y_iald (pc := 37) dX10_takeShorter_37 a35 e36 ?_
      obtain ⟨a38, s37, e39, h⟩ := kI h
      refine y_iast (pc := 38) dX10_takeShorter_38 a38 e39 ?_
      refine z_iinc (pc := 39) (v := (l1 + 1)) (ls' := [(1, .int (l1 + 1)), (0, .ref l0)]) 1 rfl rfl dX10_takeShorter_39 (by decide) (fun _ => rfl) ?_
      refine z_goto (pc := 42) (tgt := 19) dX10_takeShorter_42 (by decide) ?_
      exact z_sub [1, 0] rfl (ih h)
def fX10_takeShorter (l0 : Nat) (s : zS) : Option (Int32 × zS) :=
  bnd (wI s 10 l0 0 0) fun s1 =>
  bnd (qI s1 10 l0 58) fun x4 =>
  if x4 ≤ 6000 then
    fX10_takeShorter_19  zfu l0 0 s1
  else
    some ((-1), s1)
set_option maxRecDepth 100000 in
set_option maxHeartbeats 4000000 in
theorem okX10_takeShorter {E : zE} {l0 : Nat} {s : zS} {q : Int32 × zS} (h : fX10_takeShorter l0 s = some q) : Ci E mX10_takeShorter [.ref l0] s q.1 q.2 := by
  refine Ct.of (ls := [(0, .ref l0)]) (by decide) rfl (Nat.le_of_ble_eq_true rfl) ?_
  show Z E mX10_takeShorter 0 [(0, .ref l0)] [] s (0, 0) (zRi E mX10_takeShorter q.1 q.2)
  unfold fX10_takeShorter at h
  refine z_aload_n (pc := 0) 0 rfl dX10_takeShorter_0 rfl ?_
  refine z_iconst (pc := 1) (v := 0) dX10_takeShorter_1 (by decide) ?_
  obtain ⟨a2, s1, e3, h⟩ := jI h
  refine y_putI (pc := 2) flRX10_96 dX10_takeShorter_2 rfl (Or.inl rfl) a2 e3 ?_
  refine z_aload_n (pc := 5) 0 rfl dX10_takeShorter_5 rfl ?_
  obtain ⟨a5, x4, e6, h⟩ := iI h
  refine y_getI (pc := 6) flRX10_312 dX10_takeShorter_6 rfl a5 e6 ?_
  refine z_sipush (pc := 9) (v := 6000) dX10_takeShorter_9 (by decide) ?_
  refine z_icmp_le (pc := 12) (tgt := 17) dX10_takeShorter_12 (by decide) (fun hc => ?_) (fun hc => ?_)
  · replace h := ifp hc h
    refine z_iconst (pc := 17) (v := 0) dX10_takeShorter_17 (by decide) ?_
    refine z_istore_n (pc := 18) (ls' := [(1, .int 0), (0, .ref l0)]) dX10_takeShorter_18 rfl (by decide) (fun _ => rfl) ?_
    exact z_sub [1, 0] rfl (bX10_takeShorter_19  _ h)
  · replace h := ifn hc h
    refine z_iconst (pc := 15) (v := (-1)) dX10_takeShorter_15 (by decide) ?_
    exact y_iret (pc := 16) dX10_takeShorter_16 rfl h
