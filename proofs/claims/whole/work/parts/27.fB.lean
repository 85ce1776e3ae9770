def fX10_weighed_299 (k119 : Nat → Int32 → Int32 → Int32 → Int32 → zS → Option (Int32 × zS)) (l0 : Nat) (l1 : Int32) (l3 : Int32) (l4 : Int32) (l5 : Int32) (s : zS) : Option (Int32 × zS) :=
  k119 l0 l1 l3 l4 (l5 + 1) s
set_option maxRecDepth 100000 in
set_option maxHeartbeats 4000000 in
theorem bX10_weighed_299 {E : zE} {k119 : Nat → Int32 → Int32 → Int32 → Int32 → zS → Option (Int32 × zS)} (hk119 : ∀ {l0 : Nat} {l1 : Int32} {l3 : Int32} {l4 : Int32} {l5 : Int32} {s : zS} {q : Int32 × zS}, k119 l0 l1 l3 l4 l5 s = some q → Z E mX10_weighed 119 [(0, .ref l0), (1, .int l1), (3, .int l3), (4, .int l4), (5, .int l5)] [] s (0, 0) (zRi E mX10_weighed q.1 q.2)) {l0 : Nat} {l1 : Int32} {l3 : Int32} {l4 : Int32} {l5 : Int32} {s : zS} {q : Int32 × zS} (h : fX10_weighed_299 k119 l0 l1 l3 l4 l5 s = some q) : Z E mX10_weighed 299 [(0, .ref l0), (1, .int l1), (3, .int l3), (4, .int l4), (5, .int l5)] [] s (0, 0) (zRi E mX10_weighed q.1 q.2) := by
  unfold fX10_weighed_299 at h
  refine z_iinc (pc := 299) (v := (l5 + 1)) (ls' := [(5, .int (l5 + 1)), (0, .ref l0), (1, .int l1), (3, .int l3), (4, .int l4)]) 4 rfl rfl dX10_weighed_299 (by decide) (fun _ => rfl) ?_
  refine z_goto (pc := 302) (tgt := 119) dX10_weighed_302 (by decide) ?_
  exact z_sub [1, 2, 3, 4, 0] rfl (hk119 h)
def fX10_weighed_253  (l0 : Nat) (l1 : Int32) (l3 : Int32) (s : zS) : Option (Int32 × zS) :=
  bnd (wI s 10 l0 56 l3) fun s73 =>
  bnd (qR s73 10 l0 55) fun x76 =>
  bnd (uI s73 x76 l1 0) fun s79 =>
  bnd (qI s79 10 l0 52) fun x82 =>
  if x82 = 0 then
    some (1, s79)
  else
    some (2, s79)
set_option maxRecDepth 100000 in
set_option maxHeartbeats 4000000 in
theorem bX10_weighed_253 {E : zE}   {l0 : Nat} {l1 : Int32} {l3 : Int32} {s : zS} {q : Int32 × zS} (h : fX10_weighed_253  l0 l1 l3 s = some q) : Z E mX10_weighed 253 [(0, .ref l0), (1, .int l1), (3, .int l3)] [] s (0, 0) (zRi E mX10_weighed q.1 q.2) := by
  unfold fX10_weighed_253 at h
  refine z_aload_n (pc := 253) 0 rfl dX10_weighed_253 rfl ?_
  refine z_iload_n (pc := 254) 2 rfl dX10_weighed_254 rfl ?_
  obtain ⟨a74, s73, e75, h⟩ := jI h
  refine y_putI (pc := 255) flRX10_253 dX10_weighed_255 rfl (Or.inl rfl) a74 e75 ?_
  refine z_aload_n (pc := 258) 0 rfl dX10_weighed_258 rfl ?_
  obtain ⟨a77, x76, e78, h⟩ := iR h
  refine y_getR (pc := 259) flRX10_90 dX10_weighed_259 rfl a77 e78 ?_
  refine z_iload_n (pc := 262) 1 rfl dX10_weighed_262 rfl ?_
  refine z_iconst (pc := 263) (v := 0) dX10_weighed_263 (by decide) ?_
  obtain ⟨a80, s79, e81, h⟩ := kI h
  refine y_iast (pc := 264) dX10_weighed_264 a80 e81 ?_
  refine z_aload_n (pc := 265) 0 rfl dX10_weighed_265 rfl ?_
  obtain ⟨a83, x82, e84, h⟩ := iI h
  refine y_getI (pc := 266) flRX10_238 dX10_weighed_266 rfl a83 e84 ?_
  refine z_if_eq (pc := 269) (tgt := 276) dX10_weighed_269 (by decide) (fun hc => ?_) (fun hc => ?_)
  · replace h := ifp hc h
    refine z_iconst (pc := 276) (v := 1) dX10_weighed_276 (by decide) ?_
    exact y_iret (pc := 277) dX10_weighed_277 rfl h
  · replace h := ifn hc h
    refine z_iconst (pc := 272) (v := 2) dX10_weighed_272 (by decide) ?_
    refine z_goto (pc := 273) (tgt := 277) dX10_weighed_273 (by decide) ?_
    exact y_iret (pc := 277) dX10_weighed_277 rfl h
def fX10_weighed_229 (k119 : Nat → Int32 → Int32 → Int32 → Int32 → zS → Option (Int32 × zS)) (k191 : Nat → Int32 → Int32 → Int32 → Int32 → Int32 → zS → Option (Int32 × zS)) (l0 : Nat) (l1 : Int32) (l3 : Int32) (l4 : Int32) (l5 : Int32) (l6 : Int32) (s : zS) : Option (Int32 × zS) :=
  k191 l0 l1 l3 l4 l5 (l6 + 1) s
set_option maxRecDepth 100000 in
set_option maxHeartbeats 4000000 in
theorem bX10_weighed_229 {E : zE} {k119 : Nat → Int32 → Int32 → Int32 → Int32 → zS → Option (Int32 × zS)} {k191 : Nat → Int32 → Int32 → Int32 → Int32 → Int32 → zS → Option (Int32 × zS)} (hk119 : ∀ {l0 : Nat} {l1 : Int32} {l3 : Int32} {l4 : Int32} {l5 : Int32} {s : zS} {q : Int32 × zS}, k119 l0 l1 l3 l4 l5 s = some q → Z E mX10_weighed 119 [(0, .ref l0), (1, .int l1), (3, .int l3), (4, .int l4), (5, .int l5)] [] s (0, 0) (zRi E mX10_weighed q.1 q.2)) (hk191 : ∀ {l0 : Nat} {l1 : Int32} {l3 : Int32} {l4 : Int32} {l5 : Int32} {l6 : Int32} {s : zS} {q : Int32 × zS}, k191 l0 l1 l3 l4 l5 l6 s = some q → Z E mX10_weighed 191 [(0, .ref l0), (1, .int l1), (3, .int l3), (4, .int l4), (5, .int l5), (6, .int l6)] [] s (0, 0) (zRi E mX10_weighed q.1 q.2)) {l0 : Nat} {l1 : Int32} {l3 : Int32} {l4 : Int32} {l5 : Int32} {l6 : Int32} {s : zS} {q : Int32 × zS} (h : fX10_weighed_229 k119 k191 l0 l1 l3 l4 l5 l6 s = some q) : Z E mX10_weighed 229 [(0, .ref l0), (1, .int l1), (3, .int l3), (4, .int l4), (5, .int l5), (6, .int l6)] [] s (0, 0) (zRi E mX10_weighed q.1 q.2) := by
  unfold fX10_weighed_229 at h
  refine z_iinc (pc := 229) (v := (l6 + 1)) (ls' := [(6, .int (l6 + 1)), (0, .ref l0), (1, .int l1), (3, .int l3), (4, .int l4), (5, .int l5)]) 5 rfl rfl dX10_weighed_229 (by decide) (fun _ => rfl) ?_
  refine z_goto (pc := 232) (tgt := 191) dX10_weighed_232 (by decide) ?_
  exact z_sub [1, 2, 3, 4, 5, 0] rfl (hk191 h)
def fX10_weighed_191 (k119 : Nat → Int32 → Int32 → Int32 → Int32 → zS → Option (Int32 × zS)) (n : Nat) : Nat → Int32 → Int32 → Int32 → Int32 → Int32 → zS → Option (Int32 × zS) := match n with
  | 0 => fun _ _ _ _ _ _ _ => none
  | n + 1 => fun l0 l1 l3 l4 l5 l6 s =>
    bnd (cl s 10 l0 (fX10_longOf l0 l5 s)) fun q64 =>
    if q64.1 ≤ l6 then
      bnd (cl q64.2 10 l0 (fX10_propagate l0  q64.2)) fun q67 =>
      bnd (qI q67 10 l0 52) fun x70 =>
      if x70 = 0 then
        bnd (qI q67 10 l0 51) fun x73 =>
        if x73 = 0 then
          fX10_weighed_253  l0 l1 l3 q67
        else
          bnd (cl q67 10 l0 (fX10_keepHint l0 (-l5) l1 q67)) fun q76 =>
          bnd (cl q76 10 l0 (fX10_uses l0 l1 q76)) fun q79 =>
          bnd (qR q79 10 l0 42) fun x82 =>
          bnd (uZ q79 x82 l5 1) fun s85 =>
          fX10_weighed_299 (k119) l0 l1 l3 l4 l5 s85
      else
        fX10_weighed_253  l0 l1 l3 q67
    else
      bnd (cl q64.2 10 l0 (fX10_literalOf l0 l5 l6 q64.2)) fun q88 =>
      if q88.1 = (-l4) then
        fX10_weighed_229 (k119) ((fX10_weighed_191 k119 n)) l0 l1 l3 l4 l5 l6 q88.2
      else
        bnd (cl q88.2 10 l0 (fX10_literalOf l0 l5 l6 q88.2)) fun q91 =>
        bnd (cl q91.2 10 l0 (fX10_assume l0 (-q91.1) q91.2)) fun q94 =>
        fX10_weighed_229 (k119) ((fX10_weighed_191 k119 n)) l0 l1 l3 l4 l5 l6 q94
set_option maxRecDepth 100000 in
set_option maxHeartbeats 4000000 in
theorem bX10_weighed_191 {E : zE} {k119 : Nat → Int32 → Int32 → Int32 → Int32 → zS → Option (Int32 × zS)} (hk119 : ∀ {l0 : Nat} {l1 : Int32} {l3 : Int32} {l4 : Int32} {l5 : Int32} {s : zS} {q : Int32 × zS}, k119 l0 l1 l3 l4 l5 s = some q → Z E mX10_weighed 119 [(0, .ref l0), (1, .int l1), (3, .int l3), (4, .int l4), (5, .int l5)] [] s (0, 0) (zRi E mX10_weighed q.1 q.2)) : ∀ (n : Nat) {l0 : Nat} {l1 : Int32} {l3 : Int32} {l4 : Int32} {l5 : Int32} {l6 : Int32} {s : zS} {q : Int32 × zS}, fX10_weighed_191 k119 n l0 l1 l3 l4 l5 l6 s = some q → Z E mX10_weighed 191 [(0, .ref l0), (1, .int l1), (3, .int l3), (4, .int l4), (5, .int l5), (6, .int l6)] [] s (0, 0) (zRi E mX10_weighed q.1 q.2) := by
  intro n
  induction n with
  | zero => intro l0 l1 l3 l4 l5 l6 s q h; cases h
  | succ n ih =>
    intro l0 l1 l3 l4 l5 l6 s q h
    unfold fX10_weighed_191 at h
    refine z_iload (pc := 191) 5 rfl dX10_weighed_191 ?_
    refine z_aload_n (pc := 193) 0 rfl dX10_weighed_193 rfl ?_
    refine z_iload (pc := 194) 4 rfl dX10_weighed_194 ?_
    obtain ⟨a65, q64, e66, h⟩ := iC h
    refine y_Vi (pc := 196) (M2 := mX10_longOf) (As := [.int l5]) (okX10_longOf e66) mvX10_longOf mlRX10_219 dX10_weighed_196 ⟨by decide, by decide⟩ rfl rfl rfl (fun _ => Nat.le_of_ble_eq_true rfl) a65 ?_
    refine z_icmp_ge (pc := 199) (tgt := 235) dX10_weighed_199 (by decide) (fun hc => ?_) (fun hc => ?_)
    · replace h := ifp hc h
      refine z_aload_n (pc := 235) 0 rfl dX10_weighed_235 rfl ?_
      obtain ⟨a68, q67, e69, h⟩ := iC h
      refine y_V (pc := 236) (M2 := mX10_propagate) (As := []) (okX10_propagate e69) mvX10_propagate mlRX10_269 dX10_weighed_236 ⟨by decide, by decide⟩ rfl rfl rfl zrest0 a68 ?_
      refine z_aload_n (pc := 239) 0 rfl dX10_weighed_239 rfl ?_
      obtain ⟨a71, x70, e72, h⟩ := iI h
      refine y_getI (pc := 240) flRX10_238 dX10_weighed_240 rfl a71 e72 ?_
      refine z_if_ne (pc := 243) (tgt := 253) dX10_weighed_243 (by decide) (fun hc => ?_) (fun hc => ?_)
      · replace h := ifn hc h
        exact z_sub [0, 1, 2] rfl (bX10_weighed_253  h)
      · replace h := ifp hc h
        refine z_aload_n (pc := 246) 0 rfl dX10_weighed_246 rfl ?_
        obtain ⟨a74, x73, e75, h⟩ := iI h
        refine y_getI (pc := 247) flRX10_229 dX10_weighed_247 rfl a74 e75 ?_
        refine z_if_ne (pc := 250) (tgt := 278) dX10_weighed_250 (by decide) (fun hc => ?_) (fun hc => ?_)
        · replace h := ifn hc h
          refine z_aload_n (pc := 278) 0 rfl dX10_weighed_278 rfl ?_
          refine z_iload (pc := 279) 4 rfl dX10_weighed_279 ?_
          refine z_ineg (pc := 281) dX10_weighed_281 ?_
          refine z_iload_n (pc := 282) 1 rfl dX10_weighed_282 rfl ?_
          obtain ⟨a77, q76, e78, h⟩ := iC h
          refine y_V (pc := 283) (M2 := mX10_keepHint) (As := [.int (-l5), .int l1]) (okX10_keepHint e78) mvX10_keepHint mlRX10_263 dX10_weighed_283 ⟨by decide, by decide⟩ rfl rfl rfl zrest0 a77 ?_
          refine z_aload_n (pc := 286) 0 rfl dX10_weighed_286 rfl ?_
          refine z_iload_n (pc := 287) 1 rfl dX10_weighed_287 rfl ?_
          obtain ⟨a80, q79, e81, h⟩ := iC h
          refine y_V (pc := 288) (M2 := mX10_uses) (As := [.int l1]) (okX10_uses e81) mvX10_uses mlRX10_275 dX10_weighed_288 ⟨by decide, by decide⟩ rfl rfl rfl zrest0 a80 ?_
          refine z_aload_n (pc := 291) 0 rfl dX10_weighed_291 rfl ?_
          obtain ⟨a83, x82, e84, h⟩ := iR h
          refine y_getR (pc := 292) flRX10_63 dX10_weighed_292 rfl a83 e84 ?_
          refine z_iload (pc := 295) 4 rfl dX10_weighed_295 ?_
          refine z_iconst (pc := 297) (v := 1) dX10_weighed_297 (by decide) ?_
          obtain ⟨a86, s85, e87, h⟩ := kZ h
          refine y_zast (pc := 298) dX10_weighed_298 a86 e87 ?_
          exact z_sub [0, 1, 2, 3, 4] rfl (bX10_weighed_299 (fun h => hk119 h) h)
        · replace h := ifp hc h
          exact z_sub [0, 1, 2] rfl (bX10_weighed_253  h)
    · replace h := ifn hc h
      refine z_aload_n (pc := 202) 0 rfl dX10_weighed_202 rfl ?_
      refine z_iload (pc := 203) 4 rfl dX10_weighed_203 ?_
      refine z_iload (pc := 205) 5 rfl dX10_weighed_205 ?_
      obtain ⟨a89, q88, e90, h⟩ := iC h
      refine y_Vi (pc := 207) (M2 := mX10_literalOf) (As := [.int l5, .int l6]) (okX10_literalOf e90) mvX10_literalOf mlRX10_222 dX10_weighed_207 ⟨by decide, by decide⟩ rfl rfl rfl zrest0 a89 ?_
      refine z_iload (pc := 210) 3 rfl dX10_weighed_210 ?_
      refine z_ineg (pc := 212) dX10_weighed_212 ?_
      refine z_icmp_eq (pc := 213) (tgt := 229) dX10_weighed_213 (by decide) (fun hc => ?_) (fun hc => ?_)
      · replace h := ifp hc h
        exact z_sub [0, 1, 2, 3, 4, 5] rfl (bX10_weighed_229 (fun h => hk119 h) (fun h => ih h) h)
      · replace h := ifn hc h
        refine z_aload_n (pc := 216) 0 rfl dX10_weighed_216 rfl ?_
        refine z_aload_n (pc := 217) 0 rfl dX10_weighed_217 rfl ?_
        refine z_iload (pc := 218) 4 rfl dX10_weighed_218 ?_
        refine z_iload (pc := 220) 5 rfl dX10_weighed_220 ?_
        obtain ⟨a92, q91, e93, h⟩ := iC h
        refine y_Vi (pc := 222) (M2 := mX10_literalOf) (As := [.int l5, .int l6]) (okX10_literalOf e93) mvX10_literalOf mlRX10_222 dX10_weighed_222 ⟨by decide, by decide⟩ rfl rfl rfl (fun _ => Nat.le_of_ble_eq_true rfl) a92 ?_
        refine z_ineg (pc := 225) dX10_weighed_225 ?_
        obtain ⟨a95, q94, e96, h⟩ := iC h
        refine y_V (pc := 226) (M2 := mX10_assume) (As := [.int (-q91.1)]) (okX10_assume e96) mvX10_assume mlRX10_272 dX10_weighed_226 ⟨by decide, by decide⟩ rfl rfl rfl zrest0 a95 ?_
        exact z_sub [0, 1, 2, 3, 4, 5] rfl (bX10_weighed_229 (fun h => hk119 h) (fun h => ih h) h)
def fX10_weighed_160 (k119 : Nat → Int32 → Int32 → Int32 → Int32 → zS → Option (Int32 × zS)) (n : Nat) : Nat → Int32 → Int32 → Int32 → Int32 → Int32 → zS → Option (Int32 × zS) := match n with
  | 0 => fun _ _ _ _ _ _ _ => none
  | n + 1 => fun l0 l1 l3 l4 l5 l6 s =>
    bnd (cl s 10 l0 (fX10_longOf l0 l1 s)) fun q61 =>
    if q61.1 ≤ l6 then
      fX10_weighed_191 (k119) zfu l0 l1 l3 l4 l5 0 q61.2
    else
      bnd (cl q61.2 10 l0 (fX10_literalOf l0 l1 l6 q61.2)) fun q64 =>
      bnd (cl q64.2 10 l0 (fX10_assume l0 (-q64.1) q64.2)) fun q67 =>
      (fX10_weighed_160 k119 n) l0 l1 l3 l4 l5 (l6 + 1) q67
set_option maxRecDepth 100000 in
set_option maxHeartbeats 4000000 in
theorem bX10_weighed_160 {E : zE} {k119 : Nat → Int32 → Int32 → Int32 → Int32 → zS → Option (Int32 × zS)} (hk119 : ∀ {l0 : Nat} {l1 : Int32} {l3 : Int32} {l4 : Int32} {l5 : Int32} {s : zS} {q : Int32 × zS}, k119 l0 l1 l3 l4 l5 s = some q → Z E mX10_weighed 119 [(0, .ref l0), (1, .int l1), (3, .int l3), (4, .int l4), (5, .int l5)] [] s (0, 0) (zRi E mX10_weighed q.1 q.2)) : ∀ (n : Nat) {l0 : Nat} {l1 : Int32} {l3 : Int32} {l4 : Int32} {l5 : Int32} {l6 : Int32} {s : zS} {q : Int32 × zS}, fX10_weighed_160 k119 n l0 l1 l3 l4 l5 l6 s = some q → Z E mX10_weighed 160 [(0, .ref l0), (1, .int l1), (3, .int l3), (4, .int l4), (5, .int l5), (6, .int l6)] [] s (0, 0) (zRi E mX10_weighed q.1 q.2) := by
  intro n
  induction n with
  | zero => intro l0 l1 l3 l4 l5 l6 s q h; cases h
  | succ n ih =>
    intro l0 l1 l3 l4 l5 l6 s q h
    unfold fX10_weighed_160 at h
    refine z_iload (pc := 160) 5 rfl dX10_weighed_160 ?_
    refine z_aload_n (pc := 162) 0 rfl dX10_weighed_162 rfl ?_
    refine z_iload_n (pc := 163) 1 rfl dX10_weighed_163 rfl ?_
    obtain ⟨a62, q61, e63, h⟩ := iC h
    refine y_Vi (pc := 164) (M2 := mX10_longOf) (As := [.int l1]) (okX10_longOf e63) mvX10_longOf mlRX10_219 dX10_weighed_164 ⟨by decide, by decide⟩ rfl rfl rfl (fun _ => Nat.le_of_ble_eq_true rfl) a62 ?_
    refine z_icmp_ge (pc := 167) (tgt := 188) dX10_weighed_167 (by decide) (fun hc => ?_) (fun hc => ?_)
    · replace h := ifp hc h
      refine z_iconst (pc := 188) (v := 0) dX10_weighed_188 (by decide) ?_
      refine z_istore (pc := 189) (ls' := [(6, .int 0), (0, .ref l0), (1, .int l1), (3, .int l3), (4, .int l4), (5, .int l5)]) dX10_weighed_189 (by decide) (fun _ => rfl) ?_
      exact z_sub [1, 2, 3, 4, 5, 0] rfl (bX10_weighed_191 (fun h => hk119 h) _ h)
    · replace h := ifn hc h
      refine z_aload_n (pc := 170) 0 rfl dX10_weighed_170 rfl ?_
      refine z_aload_n (pc := 171) 0 rfl dX10_weighed_171 rfl ?_
      refine z_iload_n (pc := 172) 1 rfl dX10_weighed_172 rfl ?_
      refine z_iload (pc := 173) 5 rfl dX10_weighed_173 ?_
      obtain ⟨a65, q64, e66, h⟩ := iC h
      refine y_Vi (pc := 175) (M2 := mX10_literalOf) (As := [.int l1, .int l6]) (okX10_literalOf e66) mvX10_literalOf mlRX10_222 dX10_weighed_175 ⟨by decide, by decide⟩ rfl rfl rfl (fun _ => Nat.le_of_ble_eq_true rfl) a65 ?_
      refine z_ineg (pc := 178) dX10_weighed_178 ?_
      obtain ⟨a68, q67, e69, h⟩ := iC h
      refine y_V (pc := 179) (M2 := mX10_assume) (As := [.int (-q64.1)]) (okX10_assume e69) mvX10_assume mlRX10_272 dX10_weighed_179 ⟨by decide, by decide⟩ rfl rfl rfl zrest0 a68 ?_
      refine z_iinc (pc := 182) (v := (l6 + 1)) (ls' := [(6, .int (l6 + 1)), (0, .ref l0), (1, .int l1), (3, .int l3), (4, .int l4), (5, .int l5)]) 5 rfl rfl dX10_weighed_182 (by decide) (fun _ => rfl) ?_
      refine z_goto (pc := 185) (tgt := 160) dX10_weighed_185 (by decide) ?_
      exact z_sub [1, 2, 3, 4, 5, 0] rfl (ih h)
def fX10_weighed_119  (n : Nat) : Nat → Int32 → Int32 → Int32 → Int32 → zS → Option (Int32 × zS) := match n with
  | 0 => fun _ _ _ _ _ _ => none
  | n + 1 => fun l0 l1 l3 l4 l5 s =>
    bnd (qI s 10 l0 33) fun x40 =>
    if x40 < l5 then
      bnd (qI s 10 l0 40) fun x43 =>
      bnd (wI s 10 l0 40 (x43 + 1)) fun s46 =>
      some (0, s46)
    else
      bnd (qR s 10 l0 41) fun x49 =>
      bnd (qA s 13 x49 l5) fun x52 =>
      if x52 = 0 then
        fX10_weighed_299 ((fX10_weighed_119  n)) l0 l1 l3 l4 l5 s
      else
        bnd (cl s 10 l0 (fX10_has l0 l5 (-l4) s)) fun q55 =>
        if q55.1 = 0 then
          fX10_weighed_299 ((fX10_weighed_119  n)) l0 l1 l3 l4 l5 q55.2
        else
          bnd (cl q55.2 10 l0 (fX10_begin l0  q55.2)) fun q58 =>
          fX10_weighed_160 ((fX10_weighed_119  n)) zfu l0 l1 l3 l4 l5 0 q58
set_option maxRecDepth 100000 in
set_option maxHeartbeats 4000000 in
theorem bX10_weighed_119 {E : zE}  : ∀ (n : Nat) {l0 : Nat} {l1 : Int32} {l3 : Int32} {l4 : Int32} {l5 : Int32} {s : zS} {q : Int32 × zS}, fX10_weighed_119  n l0 l1 l3 l4 l5 s = some q → Z E mX10_weighed 119 [(0, .ref l0), (1, .int l1), (3, .int l3), (4, .int l4), (5, .int l5)] [] s (0, 0) (zRi E mX10_weighed q.1 q.2) := by
  intro n
  induction n with
  | zero => intro l0 l1 l3 l4 l5 s q h; cases h
  | succ n ih =>
    intro l0 l1 l3 l4 l5 s q h
    unfold fX10_weighed_119 at h
    refine z_iload (pc := 119) 4 rfl dX10_weighed_119 ?_
    refine z_aload_n (pc := 121) 0 rfl dX10_weighed_121 rfl ?_
    obtain ⟨a41, x40, e42, h⟩ := iI h
    refine y_getI (pc := 122) flRX10_207 dX10_weighed_122 rfl a41 e42 ?_
    refine z_icmp_gt (pc := 125) (tgt := 305) dX10_weighed_125 (by decide) (fun hc => ?_) (fun hc => ?_)
    · replace h := ifp hc h
      refine z_aload_n (pc := 305) 0 rfl dX10_weighed_305 rfl ?_
      refine z_dup (pc := 306) dX10_weighed_306 (fun _ => rfl) ?_
      obtain ⟨a44, x43, e45, h⟩ := iI h
      refine y_getI (pc := 307) flRX10_281 dX10_weighed_307 rfl a44 e45 ?_
      refine z_iconst (pc := 310) (v := 1) dX10_weighed_310 (by decide) ?_
      refine z_iadd (pc := 311) dX10_weighed_311 ?_
      obtain ⟨a47, s46, e48, h⟩ := jI h
      refine y_putI (pc := 312) flRX10_281 dX10_weighed_312 rfl (Or.inl rfl) a47 e48 ?_
      refine z_iconst (pc := 315) (v := 0) dX10_weighed_315 (by decide) ?_
      exact y_iret (pc := 316) dX10_weighed_316 rfl h
    · replace h := ifn hc h
      refine z_aload_n (pc := 128) 0 rfl dX10_weighed_128 rfl ?_
      obtain ⟨a50, x49, e51, h⟩ := iR h
      refine y_getR (pc := 129) flRX10_60 dX10_weighed_129 rfl a50 e51 ?_
      refine z_iload (pc := 132) 4 rfl dX10_weighed_132 ?_
      obtain ⟨a53, x52, e54, h⟩ := iA h
      refine y_zald (pc := 134) dX10_weighed_134 a53 e54 ?_
      refine z_if_eq (pc := 135) (tgt := 299) dX10_weighed_135 (by decide) (fun hc => ?_) (fun hc => ?_)
      · replace h := ifp hc h
        exact z_sub [0, 1, 2, 3, 4] rfl (bX10_weighed_299 (fun h => ih h) h)
      · replace h := ifn hc h
        refine z_aload_n (pc := 138) 0 rfl dX10_weighed_138 rfl ?_
        refine z_iload (pc := 139) 4 rfl dX10_weighed_139 ?_
        refine z_iload (pc := 141) 3 rfl dX10_weighed_141 ?_
        refine z_ineg (pc := 143) dX10_weighed_143 ?_
        obtain ⟨a56, q55, e57, h⟩ := iC h
        refine y_Vi (pc := 144) (M2 := mX10_has) (As := [.int l5, .int (-l4)]) (okX10_has e57) mvX10_has mlRX10_256 dX10_weighed_144 ⟨by decide, by decide⟩ rfl rfl rfl zrest0 a56 ?_
        refine z_if_ne (pc := 147) (tgt := 153) dX10_weighed_147 (by decide) (fun hc => ?_) (fun hc => ?_)
        · replace h := ifn hc h
          refine z_aload_n (pc := 153) 0 rfl dX10_weighed_153 rfl ?_
          obtain ⟨a59, q58, e60, h⟩ := iC h
          refine y_V (pc := 154) (M2 := mX10_begin) (As := []) (okX10_begin e60) mvX10_begin mlRX10_266 dX10_weighed_154 ⟨by decide, by decide⟩ rfl rfl rfl zrest0 a59 ?_
          refine z_iconst (pc := 157) (v := 0) dX10_weighed_157 (by decide) ?_
          refine z_istore (pc := 158) (ls' := [(6, .int 0), (0, .ref l0), (1, .int l1), (3, .int l3), (4, .int l4), (5, .int l5)]) dX10_weighed_158 (by decide) (fun _ => rfl) ?_
          exact z_sub [1, 2, 3, 4, 5, 0] rfl (bX10_weighed_160 (fun h => ih h) _ h)
        · replace h := ifp hc h
          refine z_goto (pc := 150) (tgt := 299) dX10_weighed_150 (by decide) ?_
          exact z_sub [0, 1, 2, 3, 4] rfl (bX10_weighed_299 (fun h => ih h) h)
def fX10_weighed_29  (n : Nat) : Nat → Int32 → Int32 → Int32 → Int32 → zS → Option (Int32 × zS) := match n with
  | 0 => fun _ _ _ _ _ _ => none
  | n + 1 => fun l0 l1 l2 l3 l4 s =>
    bnd (cl s 10 l0 (fX10_longOf l0 l1 s)) fun q22 =>
    if q22.1 ≤ l4 then
      bnd (cl q22.2 10 l0 (fX10_propagate l0  q22.2)) fun q25 =>
      bnd (qI q25 10 l0 52) fun x28 =>
      if x28 = 0 then
        bnd (qI q25 10 l0 51) fun x31 =>
        if x31 = 0 then
          if l2 = 0 then
            some (1, q25)
          else
            bnd (cl q25 10 l0 (fX10_longOf l0 l1 q25)) fun q34 =>
            if q34.1 = 0 then
              some (1, q34.2)
            else
              bnd (cl q34.2 10 l0 (fX10_literalOf l0 l1 0 q34.2)) fun q37 =>
              fX10_weighed_119  zfu l0 l1 l3 q37.1 1 q37.2
        else
          bnd (cl q25 10 l0 (fX10_uses l0 l1 q25)) fun q40 =>
          bnd (qI q40 10 l0 39) fun x43 =>
          bnd (wI q40 10 l0 39 (x43 + 1)) fun s46 =>
          some (0, s46)
      else
        some (2, q25)
    else
      bnd (cl q22.2 10 l0 (fX10_literalOf l0 l1 l4 q22.2)) fun q49 =>
      bnd (cl q49.2 10 l0 (fX10_assume l0 (-q49.1) q49.2)) fun q52 =>
      (fX10_weighed_29  n) l0 l1 l2 l3 (l4 + 1) q52
set_option maxRecDepth 100000 in
set_option maxHeartbeats 4000000 in
theorem bX10_weighed_29 {E : zE}  : ∀ (n : Nat) {l0 : Nat} {l1 : Int32} {l2 : Int32} {l3 : Int32} {l4 : Int32} {s : zS} {q : Int32 × zS}, fX10_weighed_29  n l0 l1 l2 l3 l4 s = some q → Z E mX10_weighed 29 [(0, .ref l0), (1, .int l1), (2, .int l2), (3, .int l3), (4, .int l4)] [] s (0, 0) (zRi E mX10_weighed q.1 q.2) := by
  intro n
  induction n with
  | zero => intro l0 l1 l2 l3 l4 s q h; cases h
  | succ n ih =>
    intro l0 l1 l2 l3 l4 s q h
    unfold fX10_weighed_29 at h
    refine z_iload (pc := 29) 4 rfl dX10_weighed_29 ?_
    refine z_aload_n (pc := 31) 0 rfl dX10_weighed_31 rfl ?_
    refine z_iload_n (pc := 32) 1 rfl dX10_weighed_32 rfl ?_
    obtain ⟨a23, q22, e24, h⟩ := iC h
    refine y_Vi (pc := 33) (M2 := mX10_longOf) (As := [.int l1]) (okX10_longOf e24) mvX10_longOf mlRX10_219 dX10_weighed_33 ⟨by decide, by decide⟩ rfl rfl rfl (fun _ => Nat.le_of_ble_eq_true rfl) a23 ?_
    refine z_icmp_ge (pc := 36) (tgt := 57) dX10_weighed_36 (by decide) (fun hc => ?_) (fun hc => ?_)
    · replace h := ifp hc h
      refine z_aload_n (pc := 57) 0 rfl dX10_weighed_57 rfl ?_
      obtain ⟨a26, q25, e27, h⟩ := iC h
      refine y_V (pc := 58) (M2 := mX10_propagate) (As := []) (okX10_propagate e27) mvX10_propagate mlRX10_269 dX10_weighed_58 ⟨by decide, by decide⟩ rfl rfl rfl zrest0 a26 ?_
      refine z_aload_n (pc := 61) 0 rfl dX10_weighed_61 rfl ?_
      obtain ⟨a29, x28, e30, h⟩ := iI h
      refine y_getI (pc := 62) flRX10_238 dX10_weighed_62 rfl a29 e30 ?_
      refine z_if_eq (pc := 65) (tgt := 70) dX10_weighed_65 (by decide) (fun hc => ?_) (fun hc => ?_)
      · replace h := ifp hc h
        refine z_aload_n (pc := 70) 0 rfl dX10_weighed_70 rfl ?_
        obtain ⟨a32, x31, e33, h⟩ := iI h
        refine y_getI (pc := 71) flRX10_229 dX10_weighed_71 rfl a32 e33 ?_
        refine z_if_eq (pc := 74) (tgt := 94) dX10_weighed_74 (by decide) (fun hc => ?_) (fun hc => ?_)
        · replace h := ifp hc h
          refine z_iload_n (pc := 94) 2 rfl dX10_weighed_94 rfl ?_
          refine z_if_eq (pc := 95) (tgt := 106) dX10_weighed_95 (by decide) (fun hc => ?_) (fun hc => ?_)
          · replace h := ifp hc h
            refine z_iconst (pc := 106) (v := 1) dX10_weighed_106 (by decide) ?_
            exact y_iret (pc := 107) dX10_weighed_107 rfl h
          · replace h := ifn hc h
            refine z_aload_n (pc := 98) 0 rfl dX10_weighed_98 rfl ?_
            refine z_iload_n (pc := 99) 1 rfl dX10_weighed_99 rfl ?_
            obtain ⟨a35, q34, e36, h⟩ := iC h
            refine y_Vi (pc := 100) (M2 := mX10_longOf) (As := [.int l1]) (okX10_longOf e36) mvX10_longOf mlRX10_219 dX10_weighed_100 ⟨by decide, by decide⟩ rfl rfl rfl zrest0 a35 ?_
            refine z_if_ne (pc := 103) (tgt := 108) dX10_weighed_103 (by decide) (fun hc => ?_) (fun hc => ?_)
            · replace h := ifn hc h
              refine z_aload_n (pc := 108) 0 rfl dX10_weighed_108 rfl ?_
              refine z_iload_n (pc := 109) 1 rfl dX10_weighed_109 rfl ?_
              refine z_iconst (pc := 110) (v := 0) dX10_weighed_110 (by decide) ?_
              obtain ⟨a38, q37, e39, h⟩ := iC h
              refine y_Vi (pc := 111) (M2 := mX10_literalOf) (As := [.int l1, .int 0]) (okX10_literalOf e39) mvX10_literalOf mlRX10_222 dX10_weighed_111 ⟨by decide, by decide⟩ rfl rfl rfl zrest0 a38 ?_
              refine z_istore (pc := 114) (ls' := [(4, .int q37.1), (0, .ref l0), (1, .int l1), (2, .int l2), (3, .int l3)]) dX10_weighed_114 (by decide) (fun _ => rfl) ?_
              refine z_iconst (pc := 116) (v := 1) dX10_weighed_116 (by decide) ?_
              refine z_istore (pc := 117) (ls' := [(5, .int 1), (4, .int q37.1), (0, .ref l0), (1, .int l1), (2, .int l2), (3, .int l3)]) dX10_weighed_117 (by decide) (fun _ => rfl) ?_
              exact z_sub [2, 3, 5, 1, 0] rfl (bX10_weighed_119  _ h)
            · replace h := ifp hc h
              refine z_iconst (pc := 106) (v := 1) dX10_weighed_106 (by decide) ?_
              exact y_iret (pc := 107) dX10_weighed_107 rfl h
        · replace h := ifn hc h
          refine z_aload_n (pc := 77) 0 rfl dX10_weighed_77 rfl ?_
          refine z_iload_n (pc := 78) 1 rfl dX10_weighed_78 rfl ?_
          obtain ⟨a41, q40, e42, h⟩ := iC h
          refine y_V (pc := 79) (M2 := mX10_uses) (As := [.int l1]) (okX10_uses e42) mvX10_uses mlRX10_275 dX10_weighed_79 ⟨by decide, by decide⟩ rfl rfl rfl zrest0 a41 ?_
          refine z_aload_n (pc := 82) 0 rfl dX10_weighed_82 rfl ?_
          refine z_dup (pc := 83) dX10_weighed_83 (fun _ => rfl) ?_
          obtain ⟨a44, x43, e45, h⟩ := iI h
          refine y_getI (pc := 84) flRX10_278 dX10_weighed_84 rfl a44 e45 ?_
          refine z_iconst (pc := 87) (v := 1) dX10_weighed_87 (by decide) ?_
          refine z_iadd (pc := 88) dX10_weighed_88 ?_
          obtain ⟨a47, s46, e48, h⟩ := jI h
          refine y_putI (pc := 89) flRX10_278 dX10_weighed_89 rfl (Or.inl rfl) a47 e48 ?_
          refine z_iconst (pc := 92) (v := 0) dX10_weighed_92 (by decide) ?_
          exact y_iret (pc := 93) dX10_weighed_93 rfl h
      · replace h := ifn hc h
        refine z_iconst (pc := 68) (v := 2) dX10_weighed_68 (by decide) ?_
        exact y_iret (pc := 69) dX10_weighed_69 rfl h
    · replace h := ifn hc h
      refine z_aload_n (pc := 39) 0 rfl dX10_weighed_39 rfl ?_
      refine z_aload_n (pc := 40) 0 rfl dX10_weighed_40 rfl ?_
      refine z_iload_n (pc := 41) 1 rfl dX10_weighed_41 rfl ?_
      refine z_iload (pc := 42) 4 rfl dX10_weighed_42 ?_
      obtain ⟨a50, q49, e51, h⟩ := iC h
      refine y_Vi (pc := 44) (M2 := mX10_literalOf) (As := [.int l1, .int l4]) (okX10_literalOf e51) mvX10_literalOf mlRX10_222 dX10_weighed_44 ⟨by decide, by decide⟩ rfl rfl rfl (fun _ => Nat.le_of_ble_eq_true rfl) a50 ?_
      refine z_ineg (pc := 47) dX10_weighed_47 ?_
      obtain ⟨a53, q52, e54, h⟩ := iC h
      refine y_V (pc := 48) (M2 := mX10_assume) (As := [.int (-q49.1)]) (okX10_assume e54) mvX10_assume mlRX10_272 dX10_weighed_48 ⟨by decide, by decide⟩ rfl rfl rfl zrest0 a53 ?_
      refine z_iinc (pc := 51) (v := (l4 + 1)) (ls' := [(4, .int (l4 + 1)), (0, .ref l0), (1, .int l1), (2, .int l2), (3, .int l3)]) 4 rfl rfl dX10_weighed_51 (by decide) (fun _ => rfl) ?_
      refine z_goto (pc := 54) (tgt := 29) dX10_weighed_54 (by decide) ?_
      exact z_sub [1, 2, 3, 4, 0] rfl (ih h)
def fX10_weighed (l0 : Nat) (l1 : Int32) (l2 : Int32) (s : zS) : Option (Int32 × zS) :=
  bnd (qI s 10 l0 56) fun x1 =>
  bnd (qR s 10 l0 54) fun x4 =>
  bnd (qI s 10 l0 56) fun x7 =>
  bnd (uI s x4 l1 x7) fun s10 =>
  bnd (qR s10 10 l0 55) fun x13 =>
  bnd (uI s10 x13 l1 0) fun s16 =>
  bnd (cl s16 10 l0 (fX10_begin l0  s16)) fun q19 =>
  fX10_weighed_29  zfu l0 l1 l2 x1 0 q19
set_option maxRecDepth 100000 in
set_option maxHeartbeats 4000000 in
theorem okX10_weighed {E : zE} {l0 : Nat} {l1 : Int32} {l2 : Int32} {s : zS} {q : Int32 × zS} (h : fX10_weighed l0 l1 l2 s = some q) : Ci E mX10_weighed [.ref l0, .int l1, .int l2] s q.1 q.2 := by
  refine Ct.of (ls := [(0, .ref l0), (1, .int l1), (2, .int l2)]) (by decide) rfl (Nat.le_of_ble_eq_true rfl) ?_
  show Z E mX10_weighed 0 [(0, .ref l0), (1, .int l1), (2, .int l2)] [] s (0, 0) (zRi E mX10_weighed q.1 q.2)
  unfold fX10_weighed at h
  refine z_aload_n (pc := 0) 0 rfl dX10_weighed_0 rfl ?_
  obtain ⟨a2, x1, e3, h⟩ := iI h
  refine y_getI (pc := 1) flRX10_253 dX10_weighed_1 rfl a2 e3 ?_
  refine z_istore_n (pc := 4) (ls' := [(3, .int x1), (0, .ref l0), (1, .int l1), (2, .int l2)]) dX10_weighed_4 rfl (by decide) (fun _ => rfl) ?_
  refine z_aload_n (pc := 5) 1 rfl dX10_weighed_5 rfl ?_
  obtain ⟨a5, x4, e6, h⟩ := iR h
  refine y_getR (pc := 6) flRX10_87 dX10_weighed_6 rfl a5 e6 ?_
  refine z_iload_n (pc := 9) 2 rfl dX10_weighed_9 rfl ?_
  refine z_aload_n (pc := 10) 1 rfl dX10_weighed_10 rfl ?_
  obtain ⟨a8, x7, e9, h⟩ := iI h
  refine y_getI (pc := 11) flRX10_253 dX10_weighed_11 rfl a8 e9 ?_
  obtain ⟨a11, s10, e12, h⟩ := kI h
  refine y_iast (pc := 14) dX10_weighed_14 a11 e12 ?_
  refine z_aload_n (pc := 15) 1 rfl dX10_weighed_15 rfl ?_
  obtain ⟨a14, x13, e15, h⟩ := iR h
  refine y_getR (pc := 16) flRX10_90 dX10_weighed_16 rfl a14 e15 ?_
  refine z_iload_n (pc := 19) 2 rfl dX10_weighed_19 rfl ?_
  refine z_iconst (pc := 20) (v := 0) dX10_weighed_20 (by decide) ?_
  obtain ⟨a17, s16, e18, h⟩ := kI h
  refine y_iast (pc := 21) dX10_weighed_21 a17 e18 ?_
  refine z_aload_n (pc := 22) 1 rfl dX10_weighed_22 rfl ?_
  obtain ⟨a20, q19, e21, h⟩ := iC h
  refine y_V (pc := 23) (M2 := mX10_begin) (As := []) (okX10_begin e21) mvX10_begin mlRX10_266 dX10_weighed_23 ⟨by decide, by decide⟩ rfl rfl rfl zrest0 a20 ?_
  refine z_iconst (pc := 26) (v := 0) dX10_weighed_26 (by decide) ?_
  refine z_istore (pc := 27) (ls' := [(4, .int 0), (3, .int x1), (0, .ref l0), (1, .int l1), (2, .int l2)]) dX10_weighed_27 (by decide) (fun _ => rfl) ?_
  exact z_sub [2, 3, 4, 1, 0] rfl (bX10_weighed_29  _ h)
def fX10_isOf_23  (n : Nat) : Nat → Int32 → Int32 → Int32 → Int32 → zS → Option (Int32 × zS) := match n with
  | 0 => fun _ _ _ _ _ _ => none
  | n + 1 => fun l0 l1 l2 l3 l4 s =>
    if l3 = 0 then
      gd (l3 = 0 ∨ l3 = 1) (some (l3, s))
    else
      bnd (qR s 10 l0 16) fun x10 =>
      bnd (qA s 12 x10 l2) fun x13 =>
      if x13 ≤ l4 then
        gd (l3 = 0 ∨ l3 = 1) (some (l3, s))
      else
        bnd (qR s 10 l0 17) fun x16 =>
        bnd (qR s 10 l0 15) fun x19 =>
        bnd (qA s 12 x19 l2) fun x22 =>
        bnd (qA s 12 x16 (x22 + l4)) fun x25 =>
        bnd (cl s 10 l0 (fX10_has l0 l1 x25 s)) fun q28 =>
        (fX10_isOf_23  n) l0 l1 l2 q28.1 (l4 + 1) q28.2
set_option maxRecDepth 100000 in
set_option maxHeartbeats 4000000 in
theorem bX10_isOf_23 {E : zE}  : ∀ (n : Nat) {l0 : Nat} {l1 : Int32} {l2 : Int32} {l3 : Int32} {l4 : Int32} {s : zS} {q : Int32 × zS}, fX10_isOf_23  n l0 l1 l2 l3 l4 s = some q → Z E mX10_isOf 23 [(0, .ref l0), (1, .int l1), (2, .int l2), (3, .int l3), (4, .int l4)] [] s (0, 0) (zRi E mX10_isOf q.1 q.2) := by
  intro n
  induction n with
  | zero => intro l0 l1 l2 l3 l4 s q h; cases h
  | succ n ih =>
    intro l0 l1 l2 l3 l4 s q h
    unfold fX10_isOf_23 at h
    refine z_iload_n (pc := 23) 3 rfl dX10_isOf_23 rfl ?_
    refine z_if_eq (pc := 24) (tgt := 64) dX10_isOf_24 (by decide) (fun hc => ?_) (fun hc => ?_)
    · replace h := ifp hc h
      refine z_iload_n (pc := 64) 3 rfl dX10_isOf_64 rfl ?_
      exact y_zret (pc := 65) dX10_isOf_65 rfl h
    · replace h := ifn hc h
      refine z_iload (pc := 27) 4 rfl dX10_isOf_27 ?_
      refine z_aload_n (pc := 29) 0 rfl dX10_isOf_29 rfl ?_
      obtain ⟨a11, x10, e12, h⟩ := iR h
      refine y_getR (pc := 30) flRX10_32 dX10_isOf_30 rfl a11 e12 ?_
      refine z_iload_n (pc := 33) 2 rfl dX10_isOf_33 rfl ?_
      obtain ⟨a14, x13, e15, h⟩ := iA h
      refine y_iald (pc := 34) dX10_isOf_34 a14 e15 ?_
      refine z_icmp_ge (pc := 35) (tgt := 64) dX10_isOf_35 (by decide) (fun hc => ?_) (fun hc => ?_)
      · replace h := ifp hc h
        refine z_iload_n (pc := 64) 3 rfl dX10_isOf_64 rfl ?_
        exact y_zret (pc := 65) dX10_isOf_65 rfl h
      · replace h := ifn hc h
        refine z_aload_n (pc := 38) 0 rfl dX10_isOf_38 rfl ?_
        refine z_iload_n (pc := 39) 1 rfl dX10_isOf_39 rfl ?_
        refine z_aload_n (pc := 40) 0 rfl dX10_isOf_40 rfl ?_
        obtain ⟨a17, x16, e18, h⟩ := iR h
        refine y_getR (pc := 41) flRX10_35 dX10_isOf_41 rfl a17 e18 ?_
        refine z_aload_n (pc := 44) 0 rfl dX10_isOf_44 rfl ?_
        obtain ⟨a20, x19, e21, h⟩ := iR h
        refine y_getR (pc := 45) flRX10_29 dX10_isOf_45 rfl a20 e21 ?_
        refine z_iload_n (pc := 48) 2 rfl dX10_isOf_48 rfl ?_
        obtain ⟨a23, x22, e24, h⟩ := iA h
        refine y_iald (pc := 49) dX10_isOf_49 a23 e24 ?_
        refine z_iload (pc := 50) 4 rfl dX10_isOf_50 ?_
        refine z_iadd (pc := 52) dX10_isOf_52 ?_
        obtain ⟨a26, x25, e27, h⟩ := iA h
        refine y_iald (pc := 53) dX10_isOf_53 a26 e27 ?_
        obtain ⟨a29, q28, e30, h⟩ := iC h
        refine y_Vi (pc := 54) (M2 := mX10_has) (As := [.int l1, .int x25]) (okX10_has e30) mvX10_has mlRX10_256 dX10_isOf_54 ⟨by decide, by decide⟩ rfl rfl rfl zrest0 a29 ?_
        refine z_istore_n (pc := 57) (ls' := [(3, .int q28.1), (0, .ref l0), (1, .int l1), (2, .int l2), (4, .int l4)]) dX10_isOf_57 rfl (by decide) (fun _ => rfl) ?_
        refine z_iinc (pc := 58) (v := (l4 + 1)) (ls' := [(4, .int (l4 + 1)), (3, .int q28.1), (0, .ref l0), (1, .int l1), (2, .int l2)]) 4 rfl rfl dX10_isOf_58 (by decide) (fun _ => rfl) ?_
        refine z_goto (pc := 61) (tgt := 23) dX10_isOf_61 (by decide) ?_
        exact z_sub [2, 3, 4, 1, 0] rfl (ih h)
def fX10_isOf_19  (l0 : Nat) (l1 : Int32) (l2 : Int32) (t0 : Int32) (s : zS) : Option (Int32 × zS) :=
  fX10_isOf_23  zfu l0 l1 l2 t0 0 s
set_option maxRecDepth 100000 in
set_option maxHeartbeats 4000000 in
theorem bX10_isOf_19 {E : zE}   {l0 : Nat} {l1 : Int32} {l2 : Int32} {t0 : Int32} {s : zS} {q : Int32 × zS} (h : fX10_isOf_19  l0 l1 l2 t0 s = some q) : Z E mX10_isOf 19 [(0, .ref l0), (1, .int l1), (2, .int l2)] [.int t0] s (0, 0) (zRi E mX10_isOf q.1 q.2) := by
  unfold fX10_isOf_19 at h
  refine z_istore_n (pc := 19) (ls' := [(3, .int t0), (0, .ref l0), (1, .int l1), (2, .int l2)]) dX10_isOf_19 rfl (by decide) (fun _ => rfl) ?_
  refine z_iconst (pc := 20) (v := 0) dX10_isOf_20 (by decide) ?_
  refine z_istore (pc := 21) (ls' := [(4, .int 0), (3, .int t0), (0, .ref l0), (1, .int l1), (2, .int l2)]) dX10_isOf_21 (by decide) (fun _ => rfl) ?_
  exact z_sub [2, 3, 4, 1, 0] rfl (bX10_isOf_23  _ h)
def fX10_isOf (l0 : Nat) (l1 : Int32) (l2 : Int32) (s : zS) : Option (Int32 × zS) :=
  bnd (cl s 10 l0 (fX10_longOf l0 l1 s)) fun q1 =>
  bnd (qR q1.2 10 l0 16) fun x4 =>
  bnd (qA q1.2 12 x4 l2) fun x7 =>
  if q1.1 = x7 then
    fX10_isOf_19  l0 l1 l2 1 q1.2
  else
    fX10_isOf_19  l0 l1 l2 0 q1.2
set_option maxRecDepth 100000 in
set_option maxHeartbeats 4000000 in
theorem okX10_isOf {E : zE} {l0 : Nat} {l1 : Int32} {l2 : Int32} {s : zS} {q : Int32 × zS} (h : fX10_isOf l0 l1 l2 s = some q) : Ci E mX10_isOf [.ref l0, .int l1, .int l2] s q.1 q.2 := by
  refine Ct.of (ls := [(0, .ref l0), (1, .int l1), (2, .int l2)]) (by decide) rfl (Nat.le_of_ble_eq_true rfl) ?_
  show Z E mX10_isOf 0 [(0, .ref l0), (1, .int l1), (2, .int l2)] [] s (0, 0) (zRi E mX10_isOf q.1 q.2)
  unfold fX10_isOf at h
  refine z_aload_n (pc := 0) 0 rfl dX10_isOf_0 rfl ?_
  refine z_iload_n (pc := 1) 1 rfl dX10_isOf_1 rfl ?_
  obtain ⟨a2, q1, e3, h⟩ := iC h
  refine y_Vi (pc := 2) (M2 := mX10_longOf) (As := [.int l1]) (okX10_longOf e3) mvX10_longOf mlRX10_219 dX10_isOf_2 ⟨by decide, by decide⟩ rfl rfl rfl zrest0 a2 ?_
  refine z_aload_n (pc := 5) 0 rfl dX10_isOf_5 rfl ?_
  obtain ⟨a5, x4, e6, h⟩ := iR h
  refine y_getR (pc := 6) flRX10_32 dX10_isOf_6 rfl a5 e6 ?_
  refine z_iload_n (pc := 9) 2 rfl dX10_isOf_9 rfl ?_
  obtain ⟨a8, x7, e9, h⟩ := iA h
  refine y_iald (pc := 10) dX10_isOf_10 a8 e9 ?_
  refine z_icmp_ne (pc := 11) (tgt := 18) dX10_isOf_11 (by decide) (fun hc => ?_) (fun hc => ?_)
  · replace h := ifn hc h
    refine z_iconst (pc := 18) (v := 0) dX10_isOf_18 (by decide) ?_
    exact z_sub [0, 1, 2] rfl (bX10_isOf_19  h)
  · replace h := ifp hc h
    refine z_iconst (pc := 14) (v := 1) dX10_isOf_14 (by decide) ?_
    refine z_goto (pc := 15) (tgt := 19) dX10_isOf_15 (by decide) ?_
    exact z_sub [0, 1, 2] rfl (bX10_isOf_19  h)
def fX10_delete_51  (l0 : Nat) (l1 : Int32) (l3 : Int32) (s : zS) : Option zS :=
  bnd (qR s 10 l0 41) fun x4 =>
  bnd (uZ s x4 l3 0) fun s7 =>
  bnd (qR s7 10 l0 45) fun x10 =>
  bnd (uI s7 x10 l1 l3) fun s13 =>
  some s13
set_option maxRecDepth 100000 in
set_option maxHeartbeats 4000000 in
theorem bX10_delete_51 {E : zE}   {l0 : Nat} {l1 : Int32} {l3 : Int32} {s : zS} {q : zS} (h : fX10_delete_51  l0 l1 l3 s = some q) : Z E mX10_delete 51 [(0, .ref l0), (1, .int l1), (3, .int l3)] [] s (0, 0) (zRv E mX10_delete q) := by
  unfold fX10_delete_51 at h
  refine z_aload_n (pc := 51) 0 rfl dX10_delete_51 rfl ?_
  obtain ⟨a5, x4, e6, h⟩ := iR h
  refine y_getR (pc := 52) flRX10_60 dX10_delete_52 rfl a5 e6 ?_
  refine z_iload_n (pc := 55) 2 rfl dX10_delete_55 rfl ?_
  refine z_iconst (pc := 56) (v := 0) dX10_delete_56 (by decide) ?_
  obtain ⟨a8, s7, e9, h⟩ := kZ h
  refine y_zast (pc := 57) dX10_delete_57 a8 e9 ?_
  refine z_aload_n (pc := 58) 0 rfl dX10_delete_58 rfl ?_
  obtain ⟨a11, x10, e12, h⟩ := iR h
  refine y_getR (pc := 59) flRX10_72 dX10_delete_59 rfl a11 e12 ?_
  refine z_iload_n (pc := 62) 1 rfl dX10_delete_62 rfl ?_
  refine z_iload_n (pc := 63) 2 rfl dX10_delete_63 rfl ?_
  obtain ⟨a14, s13, e15, h⟩ := kI h
  refine y_iast (pc := 64) dX10_delete_64 a14 e15 ?_
  exact y_ret (pc := 65) dX10_delete_65 rfl h
def fX10_delete_33  (l0 : Nat) (l1 : Int32) (l2 : Int32) (l3 : Int32) (s : zS) : Option zS :=
  if l3 = 0 then
    some s
  else
    if l2 = 0 then
      fX10_delete_51  l0 l1 l3 s
    else
      bnd (qR s 10 l0 44) fun x4 =>
      bnd (qA s 13 x4 l3) fun x7 =>
      if x7 = 0 then
        fX10_delete_51  l0 l1 l3 s
      else
        some s
set_option maxRecDepth 100000 in
set_option maxHeartbeats 4000000 in
theorem bX10_delete_33 {E : zE}   {l0 : Nat} {l1 : Int32} {l2 : Int32} {l3 : Int32} {s : zS} {q : zS} (h : fX10_delete_33  l0 l1 l2 l3 s = some q) : Z E mX10_delete 33 [(0, .ref l0), (1, .int l1), (2, .int l2), (3, .int l3)] [] s (0, 0) (zRv E mX10_delete q) := by
  unfold fX10_delete_33 at h
  refine z_iload_n (pc := 33) 3 rfl dX10_delete_33 rfl ?_
  refine z_if_eq (pc := 34) (tgt := 50) dX10_delete_34 (by decide) (fun hc => ?_) (fun hc => ?_)
  · replace h := ifp hc h
    exact y_ret (pc := 50) dX10_delete_50 rfl h
  · replace h := ifn hc h
    refine z_iload_n (pc := 37) 2 rfl dX10_delete_37 rfl ?_
    refine z_if_eq (pc := 38) (tgt := 51) dX10_delete_38 (by decide) (fun hc => ?_) (fun hc => ?_)
    · replace h := ifp hc h
      exact z_sub [0, 1, 3] rfl (bX10_delete_51  h)
    · replace h := ifn hc h
      refine z_aload_n (pc := 41) 0 rfl dX10_delete_41 rfl ?_
      obtain ⟨a5, x4, e6, h⟩ := iR h
      refine y_getR (pc := 42) flRX10_69 dX10_delete_42 rfl a5 e6 ?_
      refine z_iload_n (pc := 45) 3 rfl dX10_delete_45 rfl ?_
      obtain ⟨a8, x7, e9, h⟩ := iA h
      refine y_zald (pc := 46) dX10_delete_46 a8 e9 ?_
      refine z_if_eq (pc := 47) (tgt := 51) dX10_delete_47 (by decide) (fun hc => ?_) (fun hc => ?_)
      · replace h := ifp hc h
        exact z_sub [0, 1, 3] rfl (bX10_delete_51  h)
      · replace h := ifn hc h
        exact y_ret (pc := 50) dX10_delete_50 rfl h
def fX10_delete_27 (k5 : Nat → Int32 → Int32 → Int32 → zS → Option zS) (l0 : Nat) (l1 : Int32) (l2 : Int32) (l3 : Int32) (s : zS) : Option zS :=
  k5 l0 l1 l2 (l3 + (-1)) s
set_option maxRecDepth 100000 in
set_option maxHeartbeats 4000000 in
theorem bX10_delete_27 {E : zE} {k5 : Nat → Int32 → Int32 → Int32 → zS → Option zS} (hk5 : ∀ {l0 : Nat} {l1 : Int32} {l2 : Int32} {l3 : Int32} {s : zS} {q : zS}, k5 l0 l1 l2 l3 s = some q → Z E mX10_delete 5 [(0, .ref l0), (1, .int l1), (2, .int l2), (3, .int l3)] [] s (0, 0) (zRv E mX10_delete q)) {l0 : Nat} {l1 : Int32} {l2 : Int32} {l3 : Int32} {s : zS} {q : zS} (h : fX10_delete_27 k5 l0 l1 l2 l3 s = some q) : Z E mX10_delete 27 [(0, .ref l0), (1, .int l1), (2, .int l2), (3, .int l3)] [] s (0, 0) (zRv E mX10_delete q) := by
  unfold fX10_delete_27 at h
  refine z_iinc (pc := 27) (v := (l3 + (-1))) (ls' := [(3, .int (l3 + (-1))), (0, .ref l0), (1, .int l1), (2, .int l2)]) 3 rfl (congrArg (fun z : Int32 => l3 + z) (show Int32.ofInt (-1) = -1 by decide)) dX10_delete_27 (by decide) (fun _ => rfl) ?_
  refine z_goto (pc := 30) (tgt := 5) dX10_delete_30 (by decide) ?_
  exact z_sub [1, 2, 3, 0] rfl (hk5 h)
def fX10_delete_5  (n : Nat) : Nat → Int32 → Int32 → Int32 → zS → Option zS := match n with
  | 0 => fun _ _ _ _ _ => none
  | n + 1 => fun l0 l1 l2 l3 s =>
    if l3 ≤ 0 then
      fX10_delete_33  l0 l1 l2 l3 s
    else
      bnd (qR s 10 l0 41) fun x4 =>
      bnd (qA s 13 x4 l3) fun x7 =>
      if x7 = 0 then
        fX10_delete_27 ((fX10_delete_5  n)) l0 l1 l2 l3 s
      else
        bnd (cl s 10 l0 (fX10_isOf l0 l3 l1 s)) fun q10 =>
        if q10.1 = 0 then
          fX10_delete_27 ((fX10_delete_5  n)) l0 l1 l2 l3 q10.2
        else
          fX10_delete_33  l0 l1 l2 l3 q10.2
set_option maxRecDepth 100000 in
set_option maxHeartbeats 4000000 in
theorem bX10_delete_5 {E : zE}  : ∀ (n : Nat) {l0 : Nat} {l1 : Int32} {l2 : Int32} {l3 : Int32} {s : zS} {q : zS}, fX10_delete_5  n l0 l1 l2 l3 s = some q → Z E mX10_delete 5 [(0, .ref l0), (1, .int l1), (2, .int l2), (3, .int l3)] [] s (0, 0) (zRv E mX10_delete q) := by
  intro n
  induction n with
  | zero => intro l0 l1 l2 l3 s q h; cases h
  | succ n ih =>
    intro l0 l1 l2 l3 s q h
    unfold fX10_delete_5 at h
    refine z_iload_n (pc := 5) 3 rfl dX10_delete_5 rfl ?_
    refine z_if_le (pc := 6) (tgt := 33) dX10_delete_6 (by decide) (fun hc => ?_) (fun hc => ?_)
    · replace h := ifp hc h
      exact z_sub [0, 1, 2, 3] rfl (bX10_delete_33  h)
    · replace h := ifn hc h
      refine z_aload_n (pc := 9) 0 rfl dX10_delete_9 rfl ?_
      obtain ⟨a5, x4, e6, h⟩ := iR h
      refine y_getR (pc := 10) flRX10_60 dX10_delete_10 rfl a5 e6 ?_
      refine z_iload_n (pc := 13) 3 rfl dX10_delete_13 rfl ?_
      obtain ⟨a8, x7, e9, h⟩ := iA h
      refine y_zald (pc := 14) dX10_delete_14 a8 e9 ?_
      refine z_if_eq (pc := 15) (tgt := 27) dX10_delete_15 (by decide) (fun hc => ?_) (fun hc => ?_)
      · replace h := ifp hc h
        exact z_sub [0, 1, 2, 3] rfl (bX10_delete_27 (fun h => ih h) h)
      · replace h := ifn hc h
        refine z_aload_n (pc := 18) 0 rfl dX10_delete_18 rfl ?_
        refine z_iload_n (pc := 19) 3 rfl dX10_delete_19 rfl ?_
        refine z_iload_n (pc := 20) 1 rfl dX10_delete_20 rfl ?_
        obtain ⟨a11, q10, e12, h⟩ := iC h
        refine y_Vi (pc := 21) (M2 := mX10_isOf) (As := [.int l3, .int l1]) (okX10_isOf e12) mvX10_isOf mlRX10_284 dX10_delete_21 ⟨by decide, by decide⟩ rfl rfl rfl zrest0 a11 ?_
        refine z_if_ne (pc := 24) (tgt := 33) dX10_delete_24 (by decide) (fun hc => ?_) (fun hc => ?_)
        · replace h := ifn hc h
          exact z_sub [0, 1, 2, 3] rfl (bX10_delete_33  h)
        · replace h := ifp hc h
          exact z_sub [0, 1, 2, 3] rfl (bX10_delete_27 (fun h => ih h) h)
def fX10_delete (l0 : Nat) (l1 : Int32) (l2 : Int32) (s : zS) : Option zS :=
  bnd (qI s 10 l0 33) fun x1 =>
  fX10_delete_5  zfu l0 l1 l2 x1 s
set_option maxRecDepth 100000 in
set_option maxHeartbeats 4000000 in
theorem okX10_delete {E : zE} {l0 : Nat} {l1 : Int32} {l2 : Int32} {s : zS} {t : zS} (h : fX10_delete l0 l1 l2 s = some t) : Cv E mX10_delete [.ref l0, .int l1, .int l2] s t := by
  refine Ct.of (ls := [(0, .ref l0), (1, .int l1), (2, .int l2)]) (by decide) rfl (Nat.le_of_ble_eq_true rfl) ?_
  show Z E mX10_delete 0 [(0, .ref l0), (1, .int l1), (2, .int l2)] [] s (0, 0) (zRv E mX10_delete t)
  unfold fX10_delete at h
  refine z_aload_n (pc := 0) 0 rfl dX10_delete_0 rfl ?_
  obtain ⟨a2, x1, e3, h⟩ := iI h
  refine y_getI (pc := 1) flRX10_207 dX10_delete_1 rfl a2 e3 ?_
  refine z_istore_n (pc := 4) (ls' := [(3, .int x1), (0, .ref l0), (1, .int l1), (2, .int l2)]) dX10_delete_4 rfl (by decide) (fun _ => rfl) ?_
  exact z_sub [1, 2, 3, 0] rfl (bX10_delete_5  _ h)
def fX10_ends (l0 : Nat) (l1 : Int32) (l2 : Int32) (s : zS) : Option (Int32 × zS) :=
  bnd (wI s 10 l0 35 l1) fun s1 =>
  bnd (wI s1 10 l0 36 l2) fun s4 =>
  some (l1, s4)
set_option maxRecDepth 100000 in
set_option maxHeartbeats 4000000 in
theorem okX10_ends {E : zE} {l0 : Nat} {l1 : Int32} {l2 : Int32} {s : zS} {q : Int32 × zS} (h : fX10_ends l0 l1 l2 s = some q) : Ci E mX10_ends [.ref l0, .int l1, .int l2] s q.1 q.2 := by
  refine Ct.of (ls := [(0, .ref l0), (1, .int l1), (2, .int l2)]) (by decide) rfl (Nat.le_of_ble_eq_true rfl) ?_
  show Z E mX10_ends 0 [(0, .ref l0), (1, .int l1), (2, .int l2)] [] s (0, 0) (zRi E mX10_ends q.1 q.2)
  unfold fX10_ends at h
  refine z_aload_n (pc := 0) 0 rfl dX10_ends_0 rfl ?_
  refine z_iload_n (pc := 1) 1 rfl dX10_ends_1 rfl ?_
  obtain ⟨a2, s1, e3, h⟩ := jI h
  refine y_putI (pc := 2) flRX10_287 dX10_ends_2 rfl (Or.inl rfl) a2 e3 ?_
  refine z_aload_n (pc := 5) 0 rfl dX10_ends_5 rfl ?_
  refine z_iload_n (pc := 6) 2 rfl dX10_ends_6 rfl ?_
  obtain ⟨a5, s4, e6, h⟩ := jI h
  refine y_putI (pc := 7) flRX10_290 dX10_ends_7 rfl (Or.inl rfl) a5 e6 ?_
  refine z_iload_n (pc := 10) 1 rfl dX10_ends_10 rfl ?_
  exact y_iret (pc := 11) dX10_ends_11 rfl h
def fX10_back_91 (k2 : Nat → Int32 → Int32 → zS → Option (Int32 × zS)) (l0 : Nat) (l2 : Int32) (l3 : Int32) (s : zS) : Option (Int32 × zS) :=
  k2 l0 l2 (l3 + (-1)) s
set_option maxRecDepth 100000 in
set_option maxHeartbeats 4000000 in
theorem bX10_back_91 {E : zE} {k2 : Nat → Int32 → Int32 → zS → Option (Int32 × zS)} (hk2 : ∀ {l0 : Nat} {l2 : Int32} {l3 : Int32} {s : zS} {q : Int32 × zS}, k2 l0 l2 l3 s = some q → Z E mX10_back 2 [(0, .ref l0), (2, .int l2), (3, .int l3)] [] s (0, 0) (zRi E mX10_back q.1 q.2)) {l0 : Nat} {l2 : Int32} {l3 : Int32} {s : zS} {q : Int32 × zS} (h : fX10_back_91 k2 l0 l2 l3 s = some q) : Z E mX10_back 91 [(0, .ref l0), (2, .int l2), (3, .int l3)] [] s (0, 0) (zRi E mX10_back q.1 q.2) := by
  unfold fX10_back_91 at h
  refine z_iinc (pc := 91) (v := (l3 + (-1))) (ls' := [(3, .int (l3 + (-1))), (0, .ref l0), (2, .int l2)]) 2 rfl (congrArg (fun z : Int32 => l3 + z) (show Int32.ofInt (-1) = -1 by decide)) dX10_back_91 (by decide) (fun _ => rfl) ?_
  refine z_goto (pc := 94) (tgt := 2) dX10_back_94 (by decide) ?_
  exact z_sub [1, 2, 0] rfl (hk2 h)
def fX10_back_76 (k2 : Nat → Int32 → Int32 → zS → Option (Int32 × zS)) (l0 : Nat) (l2 : Int32) (l3 : Int32) (t0 : Int32) (s : zS) : Option (Int32 × zS) :=
  if t0 = 0 then
    fX10_back_91 (k2) l0 l2 l3 s
  else
    bnd (cl s 10 l0 (fX10_ends l0 t0 l3 s)) fun q28 =>
    some (q28.1, q28.2)
set_option maxRecDepth 100000 in
set_option maxHeartbeats 4000000 in
theorem bX10_back_76 {E : zE} {k2 : Nat → Int32 → Int32 → zS → Option (Int32 × zS)} (hk2 : ∀ {l0 : Nat} {l2 : Int32} {l3 : Int32} {s : zS} {q : Int32 × zS}, k2 l0 l2 l3 s = some q → Z E mX10_back 2 [(0, .ref l0), (2, .int l2), (3, .int l3)] [] s (0, 0) (zRi E mX10_back q.1 q.2)) {l0 : Nat} {l2 : Int32} {l3 : Int32} {t0 : Int32} {s : zS} {q : Int32 × zS} (h : fX10_back_76 k2 l0 l2 l3 t0 s = some q) : Z E mX10_back 76 [(0, .ref l0), (2, .int l2), (3, .int l3)] [.int t0] s (0, 0) (zRi E mX10_back q.1 q.2) := by
  unfold fX10_back_76 at h
  refine z_istore (pc := 76) (ls' := [(5, .int t0), (0, .ref l0), (2, .int l2), (3, .int l3)]) dX10_back_76 (by decide) (fun _ => rfl) ?_
  refine z_iload (pc := 78) 0 rfl dX10_back_78 ?_
  refine z_if_eq (pc := 80) (tgt := 91) dX10_back_80 (by decide) (fun hc => ?_) (fun hc => ?_)
  · replace h := ifp hc h
    exact z_sub [1, 2, 3] rfl (bX10_back_91 (fun h => hk2 h) h)
  · replace h := ifn hc h
    refine z_aload_n (pc := 83) 1 rfl dX10_back_83 rfl ?_
    refine z_iload (pc := 84) 0 rfl dX10_back_84 ?_
    refine z_iload_n (pc := 86) 3 rfl dX10_back_86 rfl ?_
    obtain ⟨a29, q28, e30, h⟩ := iC h
    refine y_Vi (pc := 87) (M2 := mX10_ends) (As := [.int t0, .int l3]) (okX10_ends e30) mvX10_ends mlRX10_307 dX10_back_87 ⟨by decide, by decide⟩ rfl rfl rfl zrest0 a29 ?_
    exact y_iret (pc := 90) dX10_back_90 rfl h
def fX10_back_2  (n : Nat) : Nat → Int32 → Int32 → zS → Option (Int32 × zS) := match n with
  | 0 => fun _ _ _ _ => none
  | n + 1 => fun l0 l2 l3 s =>
    if l3 ≤ 0 then
      bnd (cl s 10 l0 (fX10_ends l0 0 (-1) s)) fun q1 =>
      some (q1.1, q1.2)
    else
      bnd (qR s 10 l0 18) fun x4 =>
      bnd (qA s 13 x4 l3) fun x7 =>
      if x7 = 0 then
        bnd (qR s 10 l0 32) fun x10 =>
        bnd (qA s 12 x10 l3) fun x13 =>
        bnd (qR s 10 l0 41) fun x16 =>
        bnd (uZ s x16 x13 0) fun s19 =>
        bnd (qR s19 10 l0 42) fun x22 =>
        bnd (qA s19 13 x22 x13) fun x25 =>
        if x25 = 0 then
          fX10_back_76 ((fX10_back_2  n)) l0 l2 l3 0 s19
        else
          bnd (cl s19 10 l0 (fX10_weighed l0 x13 l2 s19)) fun q28 =>
          fX10_back_76 ((fX10_back_2  n)) l0 l2 l3 q28.1 q28.2
      else
        bnd (qR s 10 l0 45) fun x31 =>
        bnd (qA s 12 x31 l3) fun x34 =>
        if x34 ≤ 0 then
          fX10_back_91 ((fX10_back_2  n)) l0 l2 l3 s
        else
          bnd (qR s 10 l0 41) fun x37 =>
          bnd (qR s 10 l0 45) fun x40 =>
          bnd (qA s 12 x40 l3) fun x43 =>
          bnd (uZ s x37 x43 1) fun s46 =>
          fX10_back_91 ((fX10_back_2  n)) l0 l2 l3 s46
set_option maxRecDepth 100000 in
set_option maxHeartbeats 4000000 in
theorem bX10_back_2 {E : zE}  : ∀ (n : Nat) {l0 : Nat} {l2 : Int32} {l3 : Int32} {s : zS} {q : Int32 × zS}, fX10_back_2  n l0 l2 l3 s = some q → Z E mX10_back 2 [(0, .ref l0), (2, .int l2), (3, .int l3)] [] s (0, 0) (zRi E mX10_back q.1 q.2) := by
  intro n
  induction n with
  | zero => intro l0 l2 l3 s q h; cases h
  | succ n ih =>
    intro l0 l2 l3 s q h
    unfold fX10_back_2 at h
    refine z_iload_n (pc := 2) 2 rfl dX10_back_2 rfl ?_
    refine z_if_le (pc := 3) (tgt := 97) dX10_back_3 (by decide) (fun hc => ?_) (fun hc => ?_)
    · replace h := ifp hc h
      refine z_aload_n (pc := 97) 0 rfl dX10_back_97 rfl ?_
      refine z_iconst (pc := 98) (v := 0) dX10_back_98 (by decide) ?_
      refine z_iconst (pc := 99) (v := (-1)) dX10_back_99 (by decide) ?_
      obtain ⟨a2, q1, e3, h⟩ := iC h
      refine y_Vi (pc := 100) (M2 := mX10_ends) (As := [.int 0, .int (-1)]) (okX10_ends e3) mvX10_ends mlRX10_307 dX10_back_100 ⟨by decide, by decide⟩ rfl rfl rfl zrest0 a2 ?_
      exact y_iret (pc := 103) dX10_back_103 rfl h
    · replace h := ifn hc h
      refine z_aload_n (pc := 6) 0 rfl dX10_back_6 rfl ?_
      obtain ⟨a5, x4, e6, h⟩ := iR h
      refine y_getR (pc := 7) flRX10_38 dX10_back_7 rfl a5 e6 ?_
      refine z_iload_n (pc := 10) 2 rfl dX10_back_10 rfl ?_
      obtain ⟨a8, x7, e9, h⟩ := iA h
      refine y_zald (pc := 11) dX10_back_11 a8 e9 ?_
      refine z_if_eq (pc := 12) (tgt := 39) dX10_back_12 (by decide) (fun hc => ?_) (fun hc => ?_)
      · replace h := ifp hc h
        refine z_aload_n (pc := 39) 0 rfl dX10_back_39 rfl ?_
        obtain ⟨a11, x10, e12, h⟩ := iR h
        refine y_getR (pc := 40) flRX10_57 dX10_back_40 rfl a11 e12 ?_
        refine z_iload_n (pc := 43) 2 rfl dX10_back_43 rfl ?_
        obtain ⟨a14, x13, e15, h⟩ := iA h
        refine y_iald (pc := 44) dX10_back_44 a14 e15 ?_
        refine z_istore (pc := 45) (ls' := [(4, .int x13), (0, .ref l0), (2, .int l2), (3, .int l3)]) dX10_back_45 (by decide) (fun _ => rfl) ?_
        refine z_aload_n (pc := 47) 1 rfl dX10_back_47 rfl ?_
        obtain ⟨a17, x16, e18, h⟩ := iR h
        refine y_getR (pc := 48) flRX10_60 dX10_back_48 rfl a17 e18 ?_
        refine z_iload (pc := 51) 0 rfl dX10_back_51 ?_
        refine z_iconst (pc := 53) (v := 0) dX10_back_53 (by decide) ?_
        obtain ⟨a20, s19, e21, h⟩ := kZ h
        refine y_zast (pc := 54) dX10_back_54 a20 e21 ?_
        refine z_aload_n (pc := 55) 1 rfl dX10_back_55 rfl ?_
        obtain ⟨a23, x22, e24, h⟩ := iR h
        refine y_getR (pc := 56) flRX10_63 dX10_back_56 rfl a23 e24 ?_
        refine z_iload (pc := 59) 0 rfl dX10_back_59 ?_
        obtain ⟨a26, x25, e27, h⟩ := iA h
        refine y_zald (pc := 61) dX10_back_61 a26 e27 ?_
        refine z_if_eq (pc := 62) (tgt := 75) dX10_back_62 (by decide) (fun hc => ?_) (fun hc => ?_)
        · replace h := ifp hc h
          refine z_iconst (pc := 75) (v := 0) dX10_back_75 (by decide) ?_
          exact z_sub [1, 2, 3] rfl (bX10_back_76 (fun h => ih h) h)
        · replace h := ifn hc h
          refine z_aload_n (pc := 65) 1 rfl dX10_back_65 rfl ?_
          refine z_iload (pc := 66) 0 rfl dX10_back_66 ?_
          refine z_iload_n (pc := 68) 2 rfl dX10_back_68 rfl ?_
          obtain ⟨a29, q28, e30, h⟩ := iC h
          refine y_Vi (pc := 69) (M2 := mX10_weighed) (As := [.int x13, .int l2]) (okX10_weighed e30) mvX10_weighed mlRX10_303 dX10_back_69 ⟨by decide, by decide⟩ rfl rfl rfl zrest0 a29 ?_
          refine z_goto (pc := 72) (tgt := 76) dX10_back_72 (by decide) ?_
          exact z_sub [1, 2, 3] rfl (bX10_back_76 (fun h => ih h) h)
      · replace h := ifn hc h
        refine z_aload_n (pc := 15) 0 rfl dX10_back_15 rfl ?_
        obtain ⟨a32, x31, e33, h⟩ := iR h
        refine y_getR (pc := 16) flRX10_72 dX10_back_16 rfl a32 e33 ?_
        refine z_iload_n (pc := 19) 2 rfl dX10_back_19 rfl ?_
        obtain ⟨a35, x34, e36, h⟩ := iA h
        refine y_iald (pc := 20) dX10_back_20 a35 e36 ?_
        refine z_if_le (pc := 21) (tgt := 91) dX10_back_21 (by decide) (fun hc => ?_) (fun hc => ?_)
        · replace h := ifp hc h
          exact z_sub [0, 1, 2] rfl (bX10_back_91 (fun h => ih h) h)
        · replace h := ifn hc h
          refine z_aload_n (pc := 24) 0 rfl dX10_back_24 rfl ?_
          obtain ⟨a38, x37, e39, h⟩ := iR h
          refine y_getR (pc := 25) flRX10_60 dX10_back_25 rfl a38 e39 ?_
          refine z_aload_n (pc := 28) 0 rfl dX10_back_28 rfl ?_
          obtain ⟨a41, x40, e42, h⟩ := iR h
          refine y_getR (pc := 29) flRX10_72 dX10_back_29 rfl a41 e42 ?_
          refine z_iload_n (pc := 32) 2 rfl dX10_back_32 rfl ?_
          obtain ⟨a44, x43, e45, h⟩ := iA h
          refine y_iald (pc := 33) dX10_back_33 a44 e45 ?_
          refine z_iconst (pc := 34) (v := 1) dX10_back_34 (by decide) ?_
          obtain ⟨a47, s46, e48, h⟩ := kZ h
          refine y_zast (pc := 35) dX10_back_35 a47 e48 ?_
          refine z_goto (pc := 36) (tgt := 91) dX10_back_36 (by decide) ?_
          exact z_sub [0, 1, 2] rfl (bX10_back_91 (fun h => ih h) h)
def fX10_back (l0 : Nat) (l1 : Int32) (l2 : Int32) (s : zS) : Option (Int32 × zS) :=
  fX10_back_2  zfu l0 l2 l1 s
set_option maxRecDepth 100000 in
set_option maxHeartbeats 4000000 in
theorem okX10_back {E : zE} {l0 : Nat} {l1 : Int32} {l2 : Int32} {s : zS} {q : Int32 × zS} (h : fX10_back l0 l1 l2 s = some q) : Ci E mX10_back [.ref l0, .int l1, .int l2] s q.1 q.2 := by
  refine Ct.of (ls := [(0, .ref l0), (1, .int l1), (2, .int l2)]) (by decide) rfl (Nat.le_of_ble_eq_true rfl) ?_
  show Z E mX10_back 0 [(0, .ref l0), (1, .int l1), (2, .int l2)] [] s (0, 0) (zRi E mX10_back q.1 q.2)
  unfold fX10_back at h
  refine z_iload_n (pc := 0) 1 rfl dX10_back_0 rfl ?_
  refine z_istore_n (pc := 1) (ls' := [(3, .int l1), (0, .ref l0), (1, .int l1), (2, .int l2)]) dX10_back_1 rfl (by decide) (fun _ => rfl) ?_
  exact z_sub [1, 3, 0] rfl (bX10_back_2  _ h)
def fX10_weigh_18  (l0 : Nat) (s : zS) : Option (Int32 × zS) :=
  bnd (cl s 10 l0 (fX10_fail l0  s)) fun q4 =>
  some (q4.1, q4.2)
set_option maxRecDepth 100000 in
set_option maxHeartbeats 4000000 in
theorem bX10_weigh_18 {E : zE}   {l0 : Nat} {s : zS} {q : Int32 × zS} (h : fX10_weigh_18  l0 s = some q) : Z E mX10_weigh 18 [(0, .ref l0)] [] s (0, 0) (zRi E mX10_weigh q.1 q.2) := by
  unfold fX10_weigh_18 at h
  refine z_aload_n (pc := 18) 0 rfl dX10_weigh_18 rfl ?_
  obtain ⟨a5, q4, e6, h⟩ := iC h
  refine y_Vi (pc := 19) (M2 := mX10_fail) (As := []) (okX10_fail e6) mvX10_fail mlRX10_157 dX10_weigh_19 ⟨by decide, by decide⟩ rfl rfl rfl zrest0 a5 ?_
  exact y_iret (pc := 22) dX10_weigh_22 rfl h
def fX10_weigh_254  (l0 : Nat) (l1 : Int32) (l2 : Int32) (l5 : Int32) (s : zS) : Option (Int32 × zS) :=
  bnd (qI s 10 l0 52) fun x37 =>
  if x37 = 0 then
    bnd (qI s 10 l0 51) fun x40 =>
    if x40 = 0 then
      bnd (cl s 10 l0 (fX10_ends l0 1 (-1) s)) fun q64 =>
      some (q64.1, q64.2)
    else
      bnd (wI s 10 l0 37 l5) fun s43 =>
      bnd (qR s43 10 l0 54) fun x46 =>
      bnd (qI s43 10 l0 56) fun x49 =>
      bnd (uI s43 x46 0 x49) fun s52 =>
      bnd (cl s52 10 l0 (fX10_uses l0 0 s52)) fun q55 =>
      if l1 = 0 then
        bnd (cl q55 10 l0 (fX10_ends l0 0 (-1) q55)) fun q58 =>
        some (q58.1, q58.2)
      else
        bnd (cl q55 10 l0 (fX10_back l0 l5 l2 q55)) fun q61 =>
        some (q61.1, q61.2)
  else
    bnd (cl s 10 l0 (fX10_ends l0 2 0 s)) fun q67 =>
    some (q67.1, q67.2)
set_option maxRecDepth 100000 in
set_option maxHeartbeats 4000000 in
theorem bX10_weigh_254 {E : zE}   {l0 : Nat} {l1 : Int32} {l2 : Int32} {l5 : Int32} {s : zS} {q : Int32 × zS} (h : fX10_weigh_254  l0 l1 l2 l5 s = some q) : Z E mX10_weigh 254 [(0, .ref l0), (1, .int l1), (2, .int l2), (5, .int l5)] [] s (0, 0) (zRi E mX10_weigh q.1 q.2) := by
  unfold fX10_weigh_254 at h
  refine z_aload_n (pc := 254) 0 rfl dX10_weigh_254 rfl ?_
  obtain ⟨a38, x37, e39, h⟩ := iI h
  refine y_getI (pc := 255) flRX10_238 dX10_weigh_255 rfl a38 e39 ?_
  refine z_if_eq (pc := 258) (tgt := 268) dX10_weigh_258 (by decide) (fun hc => ?_) (fun hc => ?_)
  · replace h := ifp hc h
    refine z_aload_n (pc := 268) 0 rfl dX10_weigh_268 rfl ?_
    obtain ⟨a41, x40, e42, h⟩ := iI h
    refine y_getI (pc := 269) flRX10_229 dX10_weigh_269 rfl a41 e42 ?_
    refine z_if_ne (pc := 272) (tgt := 282) dX10_weigh_272 (by decide) (fun hc => ?_) (fun hc => ?_)
    · replace h := ifn hc h
      refine z_aload_n (pc := 282) 0 rfl dX10_weigh_282 rfl ?_
      refine z_iload (pc := 283) 3 rfl dX10_weigh_283 ?_
      obtain ⟨a44, s43, e45, h⟩ := jI h
      refine y_putI (pc := 285) flRX10_293 dX10_weigh_285 rfl (Or.inl rfl) a44 e45 ?_
      refine z_aload_n (pc := 288) 0 rfl dX10_weigh_288 rfl ?_
      obtain ⟨a47, x46, e48, h⟩ := iR h
      refine y_getR (pc := 289) flRX10_87 dX10_weigh_289 rfl a47 e48 ?_
      refine z_iconst (pc := 292) (v := 0) dX10_weigh_292 (by decide) ?_
      refine z_aload_n (pc := 293) 0 rfl dX10_weigh_293 rfl ?_
      obtain ⟨a50, x49, e51, h⟩ := iI h
      refine y_getI (pc := 294) flRX10_253 dX10_weigh_294 rfl a50 e51 ?_
      obtain ⟨a53, s52, e54, h⟩ := kI h
      refine y_iast (pc := 297) dX10_weigh_297 a53 e54 ?_
      refine z_aload_n (pc := 298) 0 rfl dX10_weigh_298 rfl ?_
      refine z_iconst (pc := 299) (v := 0) dX10_weigh_299 (by decide) ?_
      obtain ⟨a56, q55, e57, h⟩ := iC h
      refine y_V (pc := 300) (M2 := mX10_uses) (As := [.int 0]) (okX10_uses e57) mvX10_uses mlRX10_275 dX10_weigh_300 ⟨by decide, by decide⟩ rfl rfl rfl zrest0 a56 ?_
      refine z_iload_n (pc := 303) 1 rfl dX10_weigh_303 rfl ?_
      refine z_if_eq (pc := 304) (tgt := 317) dX10_weigh_304 (by decide) (fun hc => ?_) (fun hc => ?_)
      · replace h := ifp hc h
        refine z_aload_n (pc := 317) 0 rfl dX10_weigh_317 rfl ?_
        refine z_iconst (pc := 318) (v := 0) dX10_weigh_318 (by decide) ?_
        refine z_iconst (pc := 319) (v := (-1)) dX10_weigh_319 (by decide) ?_
        obtain ⟨a59, q58, e60, h⟩ := iC h
        refine y_Vi (pc := 320) (M2 := mX10_ends) (As := [.int 0, .int (-1)]) (okX10_ends e60) mvX10_ends mlRX10_307 dX10_weigh_320 ⟨by decide, by decide⟩ rfl rfl rfl zrest0 a59 ?_
        exact y_iret (pc := 323) dX10_weigh_323 rfl h
      · replace h := ifn hc h
        refine z_aload_n (pc := 307) 0 rfl dX10_weigh_307 rfl ?_
        refine z_iload (pc := 308) 3 rfl dX10_weigh_308 ?_
        refine z_iload_n (pc := 310) 2 rfl dX10_weigh_310 rfl ?_
        obtain ⟨a62, q61, e63, h⟩ := iC h
        refine y_Vi (pc := 311) (M2 := mX10_back) (As := [.int l5, .int l2]) (okX10_back e63) mvX10_back mlRX10_309 dX10_weigh_311 ⟨by decide, by decide⟩ rfl rfl rfl zrest0 a62 ?_
        refine z_goto (pc := 314) (tgt := 323) dX10_weigh_314 (by decide) ?_
        exact y_iret (pc := 323) dX10_weigh_323 rfl h
    · replace h := ifp hc h
      refine z_aload_n (pc := 275) 0 rfl dX10_weigh_275 rfl ?_
      refine z_iconst (pc := 276) (v := 1) dX10_weigh_276 (by decide) ?_
      refine z_iconst (pc := 277) (v := (-1)) dX10_weigh_277 (by decide) ?_
      obtain ⟨a65, q64, e66, h⟩ := iC h
      refine y_Vi (pc := 278) (M2 := mX10_ends) (As := [.int 1, .int (-1)]) (okX10_ends e66) mvX10_ends mlRX10_307 dX10_weigh_278 ⟨by decide, by decide⟩ rfl rfl rfl zrest0 a65 ?_
      exact y_iret (pc := 281) dX10_weigh_281 rfl h
  · replace h := ifn hc h
    refine z_aload_n (pc := 261) 0 rfl dX10_weigh_261 rfl ?_
    refine z_iconst (pc := 262) (v := 2) dX10_weigh_262 (by decide) ?_
    refine z_iconst (pc := 263) (v := 0) dX10_weigh_263 (by decide) ?_
    obtain ⟨a68, q67, e69, h⟩ := iC h
    refine y_Vi (pc := 264) (M2 := mX10_ends) (As := [.int 2, .int 0]) (okX10_ends e69) mvX10_ends mlRX10_307 dX10_weigh_264 ⟨by decide, by decide⟩ rfl rfl rfl zrest0 a68 ?_
    exact y_iret (pc := 267) dX10_weigh_267 rfl h
def fX10_weigh_247 (k152 : Nat → Int32 → Int32 → Int32 → Int32 → zS → Option (Int32 × zS)) (l0 : Nat) (l1 : Int32) (l2 : Int32) (l3 : Int32) (l5 : Int32) (s : zS) : Option (Int32 × zS) :=
  bnd (cl s 10 l0 (fX10_fromNothing l0  s)) fun q70 =>
  k152 l0 l1 l2 l3 l5 q70
set_option maxRecDepth 100000 in
set_option maxHeartbeats 4000000 in
theorem bX10_weigh_247 {E : zE} {k152 : Nat → Int32 → Int32 → Int32 → Int32 → zS → Option (Int32 × zS)} (hk152 : ∀ {l0 : Nat} {l1 : Int32} {l2 : Int32} {l3 : Int32} {l5 : Int32} {s : zS} {q : Int32 × zS}, k152 l0 l1 l2 l3 l5 s = some q → Z E mX10_weigh 152 [(0, .ref l0), (1, .int l1), (2, .int l2), (3, .int l3), (5, .int l5)] [] s (0, 0) (zRi E mX10_weigh q.1 q.2)) {l0 : Nat} {l1 : Int32} {l2 : Int32} {l3 : Int32} {l5 : Int32} {s : zS} {q : Int32 × zS} (h : fX10_weigh_247 k152 l0 l1 l2 l3 l5 s = some q) : Z E mX10_weigh 247 [(0, .ref l0), (1, .int l1), (2, .int l2), (3, .int l3), (5, .int l5)] [] s (0, 0) (zRi E mX10_weigh q.1 q.2) := by
  unfold fX10_weigh_247 at h
  refine z_aload_n (pc := 247) 0 rfl dX10_weigh_247 rfl ?_
  obtain ⟨a71, q70, e72, h⟩ := iC h
  refine y_V (pc := 248) (M2 := mX10_fromNothing) (As := []) (okX10_fromNothing e72) mvX10_fromNothing mlRX10_296 dX10_weigh_248 ⟨by decide, by decide⟩ rfl rfl rfl zrest0 a71 ?_
  refine z_goto (pc := 251) (tgt := 152) dX10_weigh_251 (by decide) ?_
  exact z_sub [0, 1, 2, 3, 4] rfl (hk152 h)
def fX10_weigh_218 (k152 : Nat → Int32 → Int32 → Int32 → Int32 → zS → Option (Int32 × zS)) (l0 : Nat) (l1 : Int32) (l2 : Int32) (l3 : Int32) (l5 : Int32) (t0 : Int32) (s : zS) : Option (Int32 × zS) :=
  if t0 = 0 then
    bnd (qR s 10 l0 41) fun x58 =>
    bnd (qR s 10 l0 32) fun x61 =>
    bnd (qA s 12 x61 l5) fun x64 =>
    bnd (uZ s x58 x64 1) fun s67 =>
    fX10_weigh_247 (k152) l0 l1 l2 l3 l5 s67
  else
    bnd (cl s 10 l0 (fX10_ends l0 t0 l5 s)) fun q70 =>
    some (q70.1, q70.2)
set_option maxRecDepth 100000 in
set_option maxHeartbeats 4000000 in
theorem bX10_weigh_218 {E : zE} {k152 : Nat → Int32 → Int32 → Int32 → Int32 → zS → Option (Int32 × zS)} (hk152 : ∀ {l0 : Nat} {l1 : Int32} {l2 : Int32} {l3 : Int32} {l5 : Int32} {s : zS} {q : Int32 × zS}, k152 l0 l1 l2 l3 l5 s = some q → Z E mX10_weigh 152 [(0, .ref l0), (1, .int l1), (2, .int l2), (3, .int l3), (5, .int l5)] [] s (0, 0) (zRi E mX10_weigh q.1 q.2)) {l0 : Nat} {l1 : Int32} {l2 : Int32} {l3 : Int32} {l5 : Int32} {t0 : Int32} {s : zS} {q : Int32 × zS} (h : fX10_weigh_218 k152 l0 l1 l2 l3 l5 t0 s = some q) : Z E mX10_weigh 218 [(0, .ref l0), (1, .int l1), (2, .int l2), (3, .int l3), (5, .int l5)] [.int t0] s (0, 0) (zRi E mX10_weigh q.1 q.2) := by
  unfold fX10_weigh_218 at h
  refine z_istore (pc := 218) (ls' := [(6, .int t0), (0, .ref l0), (1, .int l1), (2, .int l2), (3, .int l3), (5, .int l5)]) dX10_weigh_218 (by decide) (fun _ => rfl) ?_
  refine z_iload (pc := 220) 0 rfl dX10_weigh_220 ?_
  refine z_if_eq (pc := 222) (tgt := 234) dX10_weigh_222 (by decide) (fun hc => ?_) (fun hc => ?_)
  · replace h := ifp hc h
    refine z_aload_n (pc := 234) 1 rfl dX10_weigh_234 rfl ?_
    obtain ⟨a59, x58, e60, h⟩ := iR h
    refine y_getR (pc := 235) flRX10_60 dX10_weigh_235 rfl a59 e60 ?_
    refine z_aload_n (pc := 238) 1 rfl dX10_weigh_238 rfl ?_
    obtain ⟨a62, x61, e63, h⟩ := iR h
    refine y_getR (pc := 239) flRX10_57 dX10_weigh_239 rfl a62 e63 ?_
    refine z_iload (pc := 242) 5 rfl dX10_weigh_242 ?_
    obtain ⟨a65, x64, e66, h⟩ := iA h
    refine y_iald (pc := 244) dX10_weigh_244 a65 e66 ?_
    refine z_iconst (pc := 245) (v := 1) dX10_weigh_245 (by decide) ?_
    obtain ⟨a68, s67, e69, h⟩ := kZ h
    refine y_zast (pc := 246) dX10_weigh_246 a68 e69 ?_
    exact z_sub [1, 2, 3, 4, 5] rfl (bX10_weigh_247 (fun h => hk152 h) h)
  · replace h := ifn hc h
    refine z_aload_n (pc := 225) 1 rfl dX10_weigh_225 rfl ?_
    refine z_iload (pc := 226) 0 rfl dX10_weigh_226 ?_
    refine z_iload (pc := 228) 5 rfl dX10_weigh_228 ?_
    obtain ⟨a71, q70, e72, h⟩ := iC h
    refine y_Vi (pc := 230) (M2 := mX10_ends) (As := [.int t0, .int l5]) (okX10_ends e72) mvX10_ends mlRX10_307 dX10_weigh_230 ⟨by decide, by decide⟩ rfl rfl rfl zrest0 a71 ?_
    exact y_iret (pc := 233) dX10_weigh_233 rfl h
def fX10_weigh_152  (n : Nat) : Nat → Int32 → Int32 → Int32 → Int32 → zS → Option (Int32 × zS) := match n with
  | 0 => fun _ _ _ _ _ _ => none
  | n + 1 => fun l0 l1 l2 l3 l5 s =>
    bnd (qI s 10 l0 52) fun x34 =>
    if x34 = 0 then
      bnd (qI s 10 l0 51) fun x37 =>
      if x37 = 0 then
        bnd (qI s 10 l0 20) fun x40 =>
        if x40 ≤ l5 then
          fX10_weigh_254  l0 l1 l2 l5 s
        else
          bnd (qR s 10 l0 18) fun x43 =>
          bnd (qA s 13 x43 (l5 + 1)) fun x46 =>
          if x46 = 0 then
            if l1 = 0 then
              bnd (qR s 10 l0 32) fun x49 =>
              bnd (qA s 12 x49 (l5 + 1)) fun x52 =>
              bnd (cl s 10 l0 (fX10_weighed l0 x52 l2 s)) fun q55 =>
              fX10_weigh_218 ((fX10_weigh_152  n)) l0 l1 l2 l3 (l5 + 1) q55.1 q55.2
            else
              fX10_weigh_218 ((fX10_weigh_152  n)) l0 l1 l2 l3 (l5 + 1) 0 s
          else
            bnd (cl s 10 l0 (fX10_delete l0 (l5 + 1) l3 s)) fun q58 =>
            fX10_weigh_247 ((fX10_weigh_152  n)) l0 l1 l2 l3 (l5 + 1) q58
      else
        fX10_weigh_254  l0 l1 l2 l5 s
    else
      fX10_weigh_254  l0 l1 l2 l5 s
set_option maxRecDepth 100000 in
set_option maxHeartbeats 4000000 in
theorem bX10_weigh_152 {E : zE}  : ∀ (n : Nat) {l0 : Nat} {l1 : Int32} {l2 : Int32} {l3 : Int32} {l5 : Int32} {s : zS} {q : Int32 × zS}, fX10_weigh_152  n l0 l1 l2 l3 l5 s = some q → Z E mX10_weigh 152 [(0, .ref l0), (1, .int l1), (2, .int l2), (3, .int l3), (5, .int l5)] [] s (0, 0) (zRi E mX10_weigh q.1 q.2) := by
  intro n
  induction n with
  | zero => intro l0 l1 l2 l3 l5 s q h; cases h
  | succ n ih =>
    intro l0 l1 l2 l3 l5 s q h
    unfold fX10_weigh_152 at h
    refine z_aload_n (pc := 152) 0 rfl dX10_weigh_152 rfl ?_
    obtain ⟨a35, x34, e36, h⟩ := iI h
    refine y_getI (pc := 153) flRX10_238 dX10_weigh_153 rfl a35 e36 ?_
    refine z_if_ne (pc := 156) (tgt := 254) dX10_weigh_156 (by decide) (fun hc => ?_) (fun hc => ?_)
    · replace h := ifn hc h
      exact z_sub [0, 1, 2, 4] rfl (bX10_weigh_254  h)
    · replace h := ifp hc h
      refine z_aload_n (pc := 159) 0 rfl dX10_weigh_159 rfl ?_
      obtain ⟨a38, x37, e39, h⟩ := iI h
      refine y_getI (pc := 160) flRX10_229 dX10_weigh_160 rfl a38 e39 ?_
      refine z_if_ne (pc := 163) (tgt := 254) dX10_weigh_163 (by decide) (fun hc => ?_) (fun hc => ?_)
      · replace h := ifn hc h
        exact z_sub [0, 1, 2, 4] rfl (bX10_weigh_254  h)
      · replace h := ifp hc h
        refine z_iload (pc := 166) 4 rfl dX10_weigh_166 ?_
        refine z_aload_n (pc := 168) 0 rfl dX10_weigh_168 rfl ?_
        obtain ⟨a41, x40, e42, h⟩ := iI h
        refine y_getI (pc := 169) flRX10_188 dX10_weigh_169 rfl a41 e42 ?_
        refine z_icmp_ge (pc := 172) (tgt := 254) dX10_weigh_172 (by decide) (fun hc => ?_) (fun hc => ?_)
        · replace h := ifp hc h
          exact z_sub [0, 1, 2, 4] rfl (bX10_weigh_254  h)
        · replace h := ifn hc h
          refine z_iinc (pc := 175) (v := (l5 + 1)) (ls' := [(5, .int (l5 + 1)), (0, .ref l0), (1, .int l1), (2, .int l2), (3, .int l3)]) 4 rfl rfl dX10_weigh_175 (by decide) (fun _ => rfl) ?_
          refine z_aload_n (pc := 178) 1 rfl dX10_weigh_178 rfl ?_
          obtain ⟨a44, x43, e45, h⟩ := iR h
          refine y_getR (pc := 179) flRX10_38 dX10_weigh_179 rfl a44 e45 ?_
          refine z_iload (pc := 182) 0 rfl dX10_weigh_182 ?_
          obtain ⟨a47, x46, e48, h⟩ := iA h
          refine y_zald (pc := 184) dX10_weigh_184 a47 e48 ?_
          refine z_if_eq (pc := 185) (tgt := 198) dX10_weigh_185 (by decide) (fun hc => ?_) (fun hc => ?_)
          · replace h := ifp hc h
            refine z_iload_n (pc := 198) 2 rfl dX10_weigh_198 rfl ?_
            refine z_if_eq (pc := 199) (tgt := 206) dX10_weigh_199 (by decide) (fun hc => ?_) (fun hc => ?_)
            · replace h := ifp hc h
              refine z_aload_n (pc := 206) 1 rfl dX10_weigh_206 rfl ?_
              refine z_aload_n (pc := 207) 1 rfl dX10_weigh_207 rfl ?_
              obtain ⟨a50, x49, e51, h⟩ := iR h
              refine y_getR (pc := 208) flRX10_57 dX10_weigh_208 rfl a50 e51 ?_
              refine z_iload (pc := 211) 0 rfl dX10_weigh_211 ?_
              obtain ⟨a53, x52, e54, h⟩ := iA h
              refine y_iald (pc := 213) dX10_weigh_213 a53 e54 ?_
              refine z_iload_n (pc := 214) 3 rfl dX10_weigh_214 rfl ?_
              obtain ⟨a56, q55, e57, h⟩ := iC h
              refine y_Vi (pc := 215) (M2 := mX10_weighed) (As := [.int x52, .int l2]) (okX10_weighed e57) mvX10_weighed mlRX10_303 dX10_weigh_215 ⟨by decide, by decide⟩ rfl rfl rfl zrest0 a56 ?_
              exact z_sub [1, 2, 3, 4, 0] rfl (bX10_weigh_218 (fun h => ih h) h)
            · replace h := ifn hc h
              refine z_iconst (pc := 202) (v := 0) dX10_weigh_202 (by decide) ?_
              refine z_goto (pc := 203) (tgt := 218) dX10_weigh_203 (by decide) ?_
              exact z_sub [1, 2, 3, 4, 0] rfl (bX10_weigh_218 (fun h => ih h) h)
          · replace h := ifn hc h
            refine z_aload_n (pc := 188) 1 rfl dX10_weigh_188 rfl ?_
            refine z_iload (pc := 189) 0 rfl dX10_weigh_189 ?_
            refine z_iload_n (pc := 191) 4 rfl dX10_weigh_191 rfl ?_
            obtain ⟨a59, q58, e60, h⟩ := iC h
            refine y_V (pc := 192) (M2 := mX10_delete) (As := [.int (l5 + 1), .int l3]) (okX10_delete e60) mvX10_delete mlRX10_299 dX10_weigh_192 ⟨by decide, by decide⟩ rfl rfl rfl zrest0 a59 ?_
            refine z_goto (pc := 195) (tgt := 247) dX10_weigh_195 (by decide) ?_
            exact z_sub [1, 2, 3, 4, 0] rfl (bX10_weigh_247 (fun h => ih h) h)
def fX10_weigh_86  (n : Nat) : Nat → Int32 → Int32 → Int32 → Int32 → Int32 → zS → Option (Int32 × zS) := match n with
  | 0 => fun _ _ _ _ _ _ _ => none
  | n + 1 => fun l0 l1 l2 l3 l4 l5 s =>
    bnd (qI s 10 l0 20) fun x7 =>
    if x7 < l5 then
      bnd (wZ s 10 l0 34 1) fun s10 =>
      bnd (wI s10 10 l0 38 l4) fun s13 =>
      bnd (wI s13 10 l0 39 0) fun s16 =>
      bnd (wI s16 10 l0 40 0) fun s19 =>
      bnd (wI s19 10 l0 56 0) fun s22 =>
      bnd (wZ s22 10 l0 52 0) fun s25 =>
      bnd (wI s25 10 l0 37 (-1)) fun s28 =>
      bnd (cl s28 10 l0 (fX10_fromNothing l0  s28)) fun q31 =>
      fX10_weigh_152  zfu l0 l1 l2 l3 0 q31
    else
      bnd (qR s 10 l0 45) fun x34 =>
      bnd (uI s x34 l5 0) fun s37 =>
      (fX10_weigh_86  n) l0 l1 l2 l3 l4 (l5 + 1) s37
set_option maxRecDepth 100000 in
set_option maxHeartbeats 4000000 in
theorem bX10_weigh_86 {E : zE}  : ∀ (n : Nat) {l0 : Nat} {l1 : Int32} {l2 : Int32} {l3 : Int32} {l4 : Int32} {l5 : Int32} {s : zS} {q : Int32 × zS}, fX10_weigh_86  n l0 l1 l2 l3 l4 l5 s = some q → Z E mX10_weigh 86 [(0, .ref l0), (1, .int l1), (2, .int l2), (3, .int l3), (4, .int l4), (5, .int l5)] [] s (0, 0) (zRi E mX10_weigh q.1 q.2) := by
  intro n
  induction n with
  | zero => intro l0 l1 l2 l3 l4 l5 s q h; cases h
  | succ n ih =>
    intro l0 l1 l2 l3 l4 l5 s q h
    unfold fX10_weigh_86 at h
    refine z_iload (pc := 86) 5 rfl dX10_weigh_86 ?_
    refine z_aload_n (pc := 88) 0 rfl dX10_weigh_88 rfl ?_
    obtain ⟨a8, x7, e9, h⟩ := iI h
    refine y_getI (pc := 89) flRX10_188 dX10_weigh_89 rfl a8 e9 ?_
    refine z_icmp_gt (pc := 92) (tgt := 109) dX10_weigh_92 (by decide) (fun hc => ?_) (fun hc => ?_)
    · replace h := ifp hc h
      refine z_aload_n (pc := 109) 0 rfl dX10_weigh_109 rfl ?_
      refine z_iconst (pc := 110) (v := 1) dX10_weigh_110 (by decide) ?_
      obtain ⟨a11, s10, e12, h⟩ := jZ h
      refine y_putZ (pc := 111) flRX10_191 dX10_weigh_111 rfl (Or.inl rfl) a11 e12 ?_
      refine z_aload_n (pc := 114) 0 rfl dX10_weigh_114 rfl ?_
      refine z_iload (pc := 115) 4 rfl dX10_weigh_115 ?_
      obtain ⟨a14, s13, e15, h⟩ := jI h
      refine y_putI (pc := 117) flRX10_235 dX10_weigh_117 rfl (Or.inl rfl) a14 e15 ?_
      refine z_aload_n (pc := 120) 0 rfl dX10_weigh_120 rfl ?_
      refine z_iconst (pc := 121) (v := 0) dX10_weigh_121 (by decide) ?_
      obtain ⟨a17, s16, e18, h⟩ := jI h
      refine y_putI (pc := 122) flRX10_278 dX10_weigh_122 rfl (Or.inl rfl) a17 e18 ?_
      refine z_aload_n (pc := 125) 0 rfl dX10_weigh_125 rfl ?_
      refine z_iconst (pc := 126) (v := 0) dX10_weigh_126 (by decide) ?_
      obtain ⟨a20, s19, e21, h⟩ := jI h
      refine y_putI (pc := 127) flRX10_281 dX10_weigh_127 rfl (Or.inl rfl) a20 e21 ?_
      refine z_aload_n (pc := 130) 0 rfl dX10_weigh_130 rfl ?_
      refine z_iconst (pc := 131) (v := 0) dX10_weigh_131 (by decide) ?_
      obtain ⟨a23, s22, e24, h⟩ := jI h
      refine y_putI (pc := 132) flRX10_253 dX10_weigh_132 rfl (Or.inl rfl) a23 e24 ?_
      refine z_aload_n (pc := 135) 0 rfl dX10_weigh_135 rfl ?_
      refine z_iconst (pc := 136) (v := 0) dX10_weigh_136 (by decide) ?_
      obtain ⟨a26, s25, e27, h⟩ := jZ h
      refine y_putZ (pc := 137) flRX10_238 dX10_weigh_137 rfl (Or.inl rfl) a26 e27 ?_
      refine z_aload_n (pc := 140) 0 rfl dX10_weigh_140 rfl ?_
      refine z_iconst (pc := 141) (v := (-1)) dX10_weigh_141 (by decide) ?_
      obtain ⟨a29, s28, e30, h⟩ := jI h
      refine y_putI (pc := 142) flRX10_293 dX10_weigh_142 rfl (Or.inl rfl) a29 e30 ?_
      refine z_iconst (pc := 145) (v := 0) dX10_weigh_145 (by decide) ?_
      refine z_istore (pc := 146) (ls' := [(5, .int 0), (0, .ref l0), (1, .int l1), (2, .int l2), (3, .int l3), (4, .int l4)]) dX10_weigh_146 (by decide) (fun _ => rfl) ?_
      refine z_aload_n (pc := 148) 1 rfl dX10_weigh_148 rfl ?_
      obtain ⟨a32, q31, e33, h⟩ := iC h
      refine y_V (pc := 149) (M2 := mX10_fromNothing) (As := []) (okX10_fromNothing e33) mvX10_fromNothing mlRX10_296 dX10_weigh_149 ⟨by decide, by decide⟩ rfl rfl rfl zrest0 a32 ?_
      exact z_sub [1, 2, 3, 4, 0] rfl (bX10_weigh_152  _ h)
    · replace h := ifn hc h
      refine z_aload_n (pc := 95) 0 rfl dX10_weigh_95 rfl ?_
      obtain ⟨a35, x34, e36, h⟩ := iR h
      refine y_getR (pc := 96) flRX10_72 dX10_weigh_96 rfl a35 e36 ?_
      refine z_iload (pc := 99) 5 rfl dX10_weigh_99 ?_
      refine z_iconst (pc := 101) (v := 0) dX10_weigh_101 (by decide) ?_
      obtain ⟨a38, s37, e39, h⟩ := kI h
      refine y_iast (pc := 102) dX10_weigh_102 a38 e39 ?_
      refine z_iinc (pc := 103) (v := (l5 + 1)) (ls' := [(5, .int (l5 + 1)), (0, .ref l0), (1, .int l1), (2, .int l2), (3, .int l3), (4, .int l4)]) 5 rfl rfl dX10_weigh_103 (by decide) (fun _ => rfl) ?_
      refine z_goto (pc := 106) (tgt := 86) dX10_weigh_106 (by decide) ?_
      exact z_sub [1, 2, 3, 4, 5, 0] rfl (ih h)
def fX10_weigh_60 (k26 : Nat → Int32 → Int32 → Int32 → Int32 → Int32 → zS → Option (Int32 × zS)) (l0 : Nat) (l1 : Int32) (l2 : Int32) (l3 : Int32) (l4 : Int32) (l5 : Int32) (t0 : Int32) (t1 : Int32) (t2 : Nat) (s : zS) : Option (Int32 × zS) :=
  bnd (uZ s t2 t1 t0) fun s10 =>
  bnd (qR s10 10 l0 42) fun x13 =>
  bnd (uZ s10 x13 l5 0) fun s16 =>
  bnd (qR s16 10 l0 55) fun x19 =>
  bnd (uI s16 x19 l5 0) fun s22 =>
  k26 l0 l1 l2 l3 l4 (l5 + 1) s22
set_option maxRecDepth 100000 in
set_option maxHeartbeats 4000000 in
theorem bX10_weigh_60 {E : zE} {k26 : Nat → Int32 → Int32 → Int32 → Int32 → Int32 → zS → Option (Int32 × zS)} (hk26 : ∀ {l0 : Nat} {l1 : Int32} {l2 : Int32} {l3 : Int32} {l4 : Int32} {l5 : Int32} {s : zS} {q : Int32 × zS}, k26 l0 l1 l2 l3 l4 l5 s = some q → Z E mX10_weigh 26 [(0, .ref l0), (1, .int l1), (2, .int l2), (3, .int l3), (4, .int l4), (5, .int l5)] [] s (0, 0) (zRi E mX10_weigh q.1 q.2)) {l0 : Nat} {l1 : Int32} {l2 : Int32} {l3 : Int32} {l4 : Int32} {l5 : Int32} {t0 : Int32} {t1 : Int32} {t2 : Nat} {s : zS} {q : Int32 × zS} (h : fX10_weigh_60 k26 l0 l1 l2 l3 l4 l5 t0 t1 t2 s = some q) : Z E mX10_weigh 60 [(0, .ref l0), (1, .int l1), (2, .int l2), (3, .int l3), (4, .int l4), (5, .int l5)] [.int t0, .int t1, .ref t2] s (0, 0) (zRi E mX10_weigh q.1 q.2) := by
  unfold fX10_weigh_60 at h
  obtain ⟨a11, s10, e12, h⟩ := kZ h
  refine y_zast (pc := 60) dX10_weigh_60 a11 e12 ?_
  refine z_aload_n (pc := 61) 0 rfl dX10_weigh_61 rfl ?_
  obtain ⟨a14, x13, e15, h⟩ := iR h
  refine y_getR (pc := 62) flRX10_63 dX10_weigh_62 rfl a14 e15 ?_
  refine z_iload (pc := 65) 5 rfl dX10_weigh_65 ?_
  refine z_iconst (pc := 67) (v := 0) dX10_weigh_67 (by decide) ?_
  obtain ⟨a17, s16, e18, h⟩ := kZ h
  refine y_zast (pc := 68) dX10_weigh_68 a17 e18 ?_
  refine z_aload_n (pc := 69) 0 rfl dX10_weigh_69 rfl ?_
  obtain ⟨a20, x19, e21, h⟩ := iR h
  refine y_getR (pc := 70) flRX10_90 dX10_weigh_70 rfl a20 e21 ?_
  refine z_iload (pc := 73) 5 rfl dX10_weigh_73 ?_
  refine z_iconst (pc := 75) (v := 0) dX10_weigh_75 (by decide) ?_
  obtain ⟨a23, s22, e24, h⟩ := kI h
  refine y_iast (pc := 76) dX10_weigh_76 a23 e24 ?_
  refine z_iinc (pc := 77) (v := (l5 + 1)) (ls' := [(5, .int (l5 + 1)), (0, .ref l0), (1, .int l1), (2, .int l2), (3, .int l3), (4, .int l4)]) 5 rfl rfl dX10_weigh_77 (by decide) (fun _ => rfl) ?_
  refine z_goto (pc := 80) (tgt := 26) dX10_weigh_80 (by decide) ?_
  exact z_sub [1, 2, 3, 4, 5, 0] rfl (hk26 h)
def fX10_weigh_59 (k26 : Nat → Int32 → Int32 → Int32 → Int32 → Int32 → zS → Option (Int32 × zS)) (l0 : Nat) (l1 : Int32) (l2 : Int32) (l3 : Int32) (l4 : Int32) (l5 : Int32) (t0 : Int32) (t1 : Nat) (s : zS) : Option (Int32 × zS) :=
  fX10_weigh_60 (k26) l0 l1 l2 l3 l4 l5 0 t0 t1 s
set_option maxRecDepth 100000 in
set_option maxHeartbeats 4000000 in
theorem bX10_weigh_59 {E : zE} {k26 : Nat → Int32 → Int32 → Int32 → Int32 → Int32 → zS → Option (Int32 × zS)} (hk26 : ∀ {l0 : Nat} {l1 : Int32} {l2 : Int32} {l3 : Int32} {l4 : Int32} {l5 : Int32} {s : zS} {q : Int32 × zS}, k26 l0 l1 l2 l3 l4 l5 s = some q → Z E mX10_weigh 26 [(0, .ref l0), (1, .int l1), (2, .int l2), (3, .int l3), (4, .int l4), (5, .int l5)] [] s (0, 0) (zRi E mX10_weigh q.1 q.2)) {l0 : Nat} {l1 : Int32} {l2 : Int32} {l3 : Int32} {l4 : Int32} {l5 : Int32} {t0 : Int32} {t1 : Nat} {s : zS} {q : Int32 × zS} (h : fX10_weigh_59 k26 l0 l1 l2 l3 l4 l5 t0 t1 s = some q) : Z E mX10_weigh 59 [(0, .ref l0), (1, .int l1), (2, .int l2), (3, .int l3), (4, .int l4), (5, .int l5)] [.int t0, .ref t1] s (0, 0) (zRi E mX10_weigh q.1 q.2) := by
  unfold fX10_weigh_59 at h
  refine z_iconst (pc := 59) (v := 0) dX10_weigh_59 (by decide) ?_
  exact z_sub [0, 1, 2, 3, 4, 5] rfl (bX10_weigh_60 (fun h => hk26 h) h)
def fX10_weigh_26  (n : Nat) : Nat → Int32 → Int32 → Int32 → Int32 → Int32 → zS → Option (Int32 × zS) := match n with
  | 0 => fun _ _ _ _ _ _ _ => none
  | n + 1 => fun l0 l1 l2 l3 l4 l5 s =>
    bnd (qI s 10 l0 33) fun x4 =>
    if x4 < l5 then
      fX10_weigh_86  zfu l0 l1 l2 l3 l4 0 s
    else
      bnd (qR s 10 l0 41) fun x7 =>
      if l5 ≤ 0 then
        fX10_weigh_59 ((fX10_weigh_26  n)) l0 l1 l2 l3 l4 l5 l5 x7 s
      else
        bnd (qI s 10 l0 19) fun x10 =>
        if x10 < l5 then
          fX10_weigh_59 ((fX10_weigh_26  n)) l0 l1 l2 l3 l4 l5 l5 x7 s
        else
          fX10_weigh_60 ((fX10_weigh_26  n)) l0 l1 l2 l3 l4 l5 1 l5 x7 s
set_option maxRecDepth 100000 in
set_option maxHeartbeats 4000000 in
theorem bX10_weigh_26 {E : zE}  : ∀ (n : Nat) {l0 : Nat} {l1 : Int32} {l2 : Int32} {l3 : Int32} {l4 : Int32} {l5 : Int32} {s : zS} {q : Int32 × zS}, fX10_weigh_26  n l0 l1 l2 l3 l4 l5 s = some q → Z E mX10_weigh 26 [(0, .ref l0), (1, .int l1), (2, .int l2), (3, .int l3), (4, .int l4), (5, .int l5)] [] s (0, 0) (zRi E mX10_weigh q.1 q.2) := by
  intro n
  induction n with
  | zero => intro l0 l1 l2 l3 l4 l5 s q h; cases h
  | succ n ih =>
    intro l0 l1 l2 l3 l4 l5 s q h
    unfold fX10_weigh_26 at h
    refine z_iload (pc := 26) 5 rfl dX10_weigh_26 ?_
    refine z_aload_n (pc := 28) 0 rfl dX10_weigh_28 rfl ?_
    obtain ⟨a5, x4, e6, h⟩ := iI h
    refine y_getI (pc := 29) flRX10_207 dX10_weigh_29 rfl a5 e6 ?_
    refine z_icmp_gt (pc := 32) (tgt := 83) dX10_weigh_32 (by decide) (fun hc => ?_) (fun hc => ?_)
    · replace h := ifp hc h
      refine z_iconst (pc := 83) (v := 0) dX10_weigh_83 (by decide) ?_
      refine z_istore (pc := 84) (ls' := [(5, .int 0), (0, .ref l0), (1, .int l1), (2, .int l2), (3, .int l3), (4, .int l4)]) dX10_weigh_84 (by decide) (fun _ => rfl) ?_
      exact z_sub [1, 2, 3, 4, 5, 0] rfl (bX10_weigh_86  _ h)
    · replace h := ifn hc h
      refine z_aload_n (pc := 35) 0 rfl dX10_weigh_35 rfl ?_
      obtain ⟨a8, x7, e9, h⟩ := iR h
      refine y_getR (pc := 36) flRX10_60 dX10_weigh_36 rfl a8 e9 ?_
      refine z_iload (pc := 39) 5 rfl dX10_weigh_39 ?_
      refine z_iload (pc := 41) 5 rfl dX10_weigh_41 ?_
      refine z_if_le (pc := 43) (tgt := 59) dX10_weigh_43 (by decide) (fun hc => ?_) (fun hc => ?_)
      · replace h := ifp hc h
        exact z_sub [0, 1, 2, 3, 4, 5] rfl (bX10_weigh_59 (fun h => ih h) h)
      · replace h := ifn hc h
        refine z_iload (pc := 46) 5 rfl dX10_weigh_46 ?_
        refine z_aload_n (pc := 48) 0 rfl dX10_weigh_48 rfl ?_
        obtain ⟨a11, x10, e12, h⟩ := iI h
        refine y_getI (pc := 49) flRX10_185 dX10_weigh_49 rfl a11 e12 ?_
        refine z_icmp_gt (pc := 52) (tgt := 59) dX10_weigh_52 (by decide) (fun hc => ?_) (fun hc => ?_)
        · replace h := ifp hc h
          exact z_sub [0, 1, 2, 3, 4, 5] rfl (bX10_weigh_59 (fun h => ih h) h)
        · replace h := ifn hc h
          refine z_iconst (pc := 55) (v := 1) dX10_weigh_55 (by decide) ?_
          refine z_goto (pc := 56) (tgt := 60) dX10_weigh_56 (by decide) ?_
          exact z_sub [0, 1, 2, 3, 4, 5] rfl (bX10_weigh_60 (fun h => ih h) h)
def fX10_weigh (l0 : Nat) (l1 : Int32) (l2 : Int32) (l3 : Int32) (l4 : Int32) (s : zS) : Option (Int32 × zS) :=
  bnd (wI s 10 l0 0 0) fun s1 =>
  if l4 < 0 then
    fX10_weigh_18  l0 s1
  else
    if l4 ≤ 20000 then
      fX10_weigh_26  zfu l0 l1 l2 l3 l4 0 s1
    else
      fX10_weigh_18  l0 s1
set_option maxRecDepth 100000 in
set_option maxHeartbeats 4000000 in
theorem okX10_weigh {E : zE} {l0 : Nat} {l1 : Int32} {l2 : Int32} {l3 : Int32} {l4 : Int32} {s : zS} {q : Int32 × zS} (h : fX10_weigh l0 l1 l2 l3 l4 s = some q) : Ci E mX10_weigh [.ref l0, .int l1, .int l2, .int l3, .int l4] s q.1 q.2 := by
  refine Ct.of (ls := [(0, .ref l0), (1, .int l1), (2, .int l2), (3, .int l3), (4, .int l4)]) (by decide) rfl (Nat.le_of_ble_eq_true rfl) ?_
  show Z E mX10_weigh 0 [(0, .ref l0), (1, .int l1), (2, .int l2), (3, .int l3), (4, .int l4)] [] s (0, 0) (zRi E mX10_weigh q.1 q.2)
  unfold fX10_weigh at h
  refine z_aload_n (pc := 0) 0 rfl dX10_weigh_0 rfl ?_
  refine z_iconst (pc := 1) (v := 0) dX10_weigh_1 (by decide) ?_
  obtain ⟨a2, s1, e3, h⟩ := jI h
  refine y_putI (pc := 2) flRX10_96 dX10_weigh_2 rfl (Or.inl rfl) a2 e3 ?_
  refine z_iload (pc := 5) 4 rfl dX10_weigh_5 ?_
  refine z_if_lt (pc := 7) (tgt := 18) dX10_weigh_7 (by decide) (fun hc => ?_) (fun hc => ?_)
  · replace h := ifp hc h
    exact z_sub [0] rfl (bX10_weigh_18  h)
  · replace h := ifn hc h
    refine z_iload (pc := 10) 4 rfl dX10_weigh_10 ?_
    refine z_sipush (pc := 12) (v := 20000) dX10_weigh_12 (by decide) ?_
    refine z_icmp_le (pc := 15) (tgt := 23) dX10_weigh_15 (by decide) (fun hc => ?_) (fun hc => ?_)
    · replace h := ifp hc h
      refine z_iconst (pc := 23) (v := 0) dX10_weigh_23 (by decide) ?_
      refine z_istore (pc := 24) (ls' := [(5, .int 0), (0, .ref l0), (1, .int l1), (2, .int l2), (3, .int l3), (4, .int l4)]) dX10_weigh_24 (by decide) (fun _ => rfl) ?_
      exact z_sub [1, 2, 3, 4, 5, 0] rfl (bX10_weigh_26  _ h)
    · replace h := ifn hc h
      exact z_sub [0] rfl (bX10_weigh_18  h)
def fX10_count_78  (l0 : Nat) (l1 : Int32) (l2 : Int32) (l3 : Int32) (s : zS) : Option (Int32 × zS) :=
  if l1 = 0 then
    bnd (qI s 10 l0 34) fun x7 =>
    if x7 = 0 then
      some ((-1), s)
    else
      bnd (qI s 10 l0 35) fun x10 =>
      some (x10, s)
  else if l1 = 1 then
    bnd (qI s 10 l0 34) fun x13 =>
    if x13 = 0 then
      some ((-1), s)
    else
      bnd (qI s 10 l0 36) fun x16 =>
      some (x16, s)
  else if l1 = 2 then
    bnd (qI s 10 l0 34) fun x19 =>
    if x19 = 0 then
      some ((-1), s)
    else
      bnd (qI s 10 l0 37) fun x22 =>
      some (x22, s)
  else if l1 = 3 then
    bnd (qI s 10 l0 34) fun x25 =>
    if x25 = 0 then
      some (0, s)
    else
      bnd (qI s 10 l0 38) fun x28 =>
      some (x28, s)
  else if l1 = 4 then
    some (l2, s)
  else if l1 = 5 then
    some (l3, s)
  else if l1 = 6 then
    bnd (qI s 10 l0 34) fun x31 =>
    if x31 = 0 then
      some (0, s)
    else
      bnd (qI s 10 l0 39) fun x34 =>
      some (x34, s)
  else if l1 = 7 then
    bnd (qI s 10 l0 34) fun x37 =>
    if x37 = 0 then
      some (0, s)
    else
      bnd (qI s 10 l0 40) fun x40 =>
      some (x40, s)
  else if l1 = 8 then
    bnd (qI s 10 l0 19) fun x43 =>
    some (x43, s)
  else if l1 = 9 then
    bnd (qI s 10 l0 20) fun x46 =>
    some (x46, s)
  else if l1 = 10 then
    bnd (qI s 10 l0 21) fun x49 =>
    some (x49, s)
  else if l1 = 11 then
    bnd (qI s 10 l0 2) fun x52 =>
    some (x52, s)
  else 
    bnd (cl s 10 l0 (fX10_fail l0  s)) fun q55 =>
    some (q55.1, q55.2)
set_option maxRecDepth 100000 in
set_option maxHeartbeats 4000000 in
theorem bX10_count_78 {E : zE}   {l0 : Nat} {l1 : Int32} {l2 : Int32} {l3 : Int32} {s : zS} {q : Int32 × zS} (h : fX10_count_78  l0 l1 l2 l3 s = some q) : Z E mX10_count 78 [(0, .ref l0), (1, .int l1), (2, .int l2), (3, .int l3)] [] s (0, 0) (zRi E mX10_count q.1 q.2) := by
  unfold fX10_count_78 at h
  refine z_iload_n (pc := 78) 1 rfl dX10_count_78 rfl ?_
  by_cases hc0 : l1 = 0
  · replace h := ifp hc0 h
    refine z_tableIn (pc := 79) (tgt := 140) (off := 61) dX10_count_79 (by rw [hc0]; decide) (by rw [hc0]; decide) (by rw [hc0]; decide) (by decide) ?_
    refine z_aload_n (pc := 140) 0 rfl dX10_count_140 rfl ?_
    obtain ⟨a8, x7, e9, h⟩ := iI h
    refine y_getI (pc := 141) flRX10_191 dX10_count_141 rfl a8 e9 ?_
    refine z_if_eq (pc := 144) (tgt := 154) dX10_count_144 (by decide) (fun hc => ?_) (fun hc => ?_)
    · replace h := ifp hc h
      refine z_iconst (pc := 154) (v := (-1)) dX10_count_154 (by decide) ?_
      exact y_iret (pc := 155) dX10_count_155 rfl h
    · replace h := ifn hc h
      refine z_aload_n (pc := 147) 0 rfl dX10_count_147 rfl ?_
      obtain ⟨a11, x10, e12, h⟩ := iI h
      refine y_getI (pc := 148) flRX10_287 dX10_count_148 rfl a11 e12 ?_
      refine z_goto (pc := 151) (tgt := 155) dX10_count_151 (by decide) ?_
      exact y_iret (pc := 155) dX10_count_155 rfl h
  replace h := ifn hc0 h
  by_cases hc1 : l1 = 1
  · replace h := ifp hc1 h
    refine z_tableIn (pc := 79) (tgt := 156) (off := 77) dX10_count_79 (by rw [hc1]; decide) (by rw [hc1]; decide) (by rw [hc1]; decide) (by decide) ?_
    refine z_aload_n (pc := 156) 0 rfl dX10_count_156 rfl ?_
    obtain ⟨a14, x13, e15, h⟩ := iI h
    refine y_getI (pc := 157) flRX10_191 dX10_count_157 rfl a14 e15 ?_
    refine z_if_eq (pc := 160) (tgt := 170) dX10_count_160 (by decide) (fun hc => ?_) (fun hc => ?_)
    · replace h := ifp hc h
      refine z_iconst (pc := 170) (v := (-1)) dX10_count_170 (by decide) ?_
      exact y_iret (pc := 171) dX10_count_171 rfl h
    · replace h := ifn hc h
      refine z_aload_n (pc := 163) 0 rfl dX10_count_163 rfl ?_
      obtain ⟨a17, x16, e18, h⟩ := iI h
      refine y_getI (pc := 164) flRX10_290 dX10_count_164 rfl a17 e18 ?_
      refine z_goto (pc := 167) (tgt := 171) dX10_count_167 (by decide) ?_
      exact y_iret (pc := 171) dX10_count_171 rfl h
  replace h := ifn hc1 h
  by_cases hc2 : l1 = 2
  · replace h := ifp hc2 h
    refine z_tableIn (pc := 79) (tgt := 172) (off := 93) dX10_count_79 (by rw [hc2]; decide) (by rw [hc2]; decide) (by rw [hc2]; decide) (by decide) ?_
    refine z_aload_n (pc := 172) 0 rfl dX10_count_172 rfl ?_
    obtain ⟨a20, x19, e21, h⟩ := iI h
    refine y_getI (pc := 173) flRX10_191 dX10_count_173 rfl a20 e21 ?_
    refine z_if_eq (pc := 176) (tgt := 186) dX10_count_176 (by decide) (fun hc => ?_) (fun hc => ?_)
    · replace h := ifp hc h
      refine z_iconst (pc := 186) (v := (-1)) dX10_count_186 (by decide) ?_
      exact y_iret (pc := 187) dX10_count_187 rfl h
    · replace h := ifn hc h
      refine z_aload_n (pc := 179) 0 rfl dX10_count_179 rfl ?_
      obtain ⟨a23, x22, e24, h⟩ := iI h
      refine y_getI (pc := 180) flRX10_293 dX10_count_180 rfl a23 e24 ?_
      refine z_goto (pc := 183) (tgt := 187) dX10_count_183 (by decide) ?_
      exact y_iret (pc := 187) dX10_count_187 rfl h
  replace h := ifn hc2 h
  by_cases hc3 : l1 = 3
  · replace h := ifp hc3 h
    refine z_tableIn (pc := 79) (tgt := 188) (off := 109) dX10_count_79 (by rw [hc3]; decide) (by rw [hc3]; decide) (by rw [hc3]; decide) (by decide) ?_
    refine z_aload_n (pc := 188) 0 rfl dX10_count_188 rfl ?_
    obtain ⟨a26, x25, e27, h⟩ := iI h
    refine y_getI (pc := 189) flRX10_191 dX10_count_189 rfl a26 e27 ?_
    refine z_if_eq (pc := 192) (tgt := 202) dX10_count_192 (by decide) (fun hc => ?_) (fun hc => ?_)
    · replace h := ifp hc h
      refine z_iconst (pc := 202) (v := 0) dX10_count_202 (by decide) ?_
      exact y_iret (pc := 203) dX10_count_203 rfl h
    · replace h := ifn hc h
      refine z_aload_n (pc := 195) 0 rfl dX10_count_195 rfl ?_
      obtain ⟨a29, x28, e30, h⟩ := iI h
      refine y_getI (pc := 196) flRX10_235 dX10_count_196 rfl a29 e30 ?_
      refine z_goto (pc := 199) (tgt := 203) dX10_count_199 (by decide) ?_
      exact y_iret (pc := 203) dX10_count_203 rfl h
  replace h := ifn hc3 h
  by_cases hc4 : l1 = 4
  · replace h := ifp hc4 h
    refine z_tableIn (pc := 79) (tgt := 204) (off := 125) dX10_count_79 (by rw [hc4]; decide) (by rw [hc4]; decide) (by rw [hc4]; decide) (by decide) ?_
    refine z_iload_n (pc := 204) 2 rfl dX10_count_204 rfl ?_
    exact y_iret (pc := 205) dX10_count_205 rfl h
  replace h := ifn hc4 h
  by_cases hc5 : l1 = 5
  · replace h := ifp hc5 h
    refine z_tableIn (pc := 79) (tgt := 206) (off := 127) dX10_count_79 (by rw [hc5]; decide) (by rw [hc5]; decide) (by rw [hc5]; decide) (by decide) ?_
    refine z_iload_n (pc := 206) 3 rfl dX10_count_206 rfl ?_
    exact y_iret (pc := 207) dX10_count_207 rfl h
  replace h := ifn hc5 h
  by_cases hc6 : l1 = 6
  · replace h := ifp hc6 h
    refine z_tableIn (pc := 79) (tgt := 208) (off := 129) dX10_count_79 (by rw [hc6]; decide) (by rw [hc6]; decide) (by rw [hc6]; decide) (by decide) ?_
    refine z_aload_n (pc := 208) 0 rfl dX10_count_208 rfl ?_
    obtain ⟨a32, x31, e33, h⟩ := iI h
    refine y_getI (pc := 209) flRX10_191 dX10_count_209 rfl a32 e33 ?_
    refine z_if_eq (pc := 212) (tgt := 222) dX10_count_212 (by decide) (fun hc => ?_) (fun hc => ?_)
    · replace h := ifp hc h
      refine z_iconst (pc := 222) (v := 0) dX10_count_222 (by decide) ?_
      exact y_iret (pc := 223) dX10_count_223 rfl h
    · replace h := ifn hc h
      refine z_aload_n (pc := 215) 0 rfl dX10_count_215 rfl ?_
      obtain ⟨a35, x34, e36, h⟩ := iI h
      refine y_getI (pc := 216) flRX10_278 dX10_count_216 rfl a35 e36 ?_
      refine z_goto (pc := 219) (tgt := 223) dX10_count_219 (by decide) ?_
      exact y_iret (pc := 223) dX10_count_223 rfl h
  replace h := ifn hc6 h
  by_cases hc7 : l1 = 7
  · replace h := ifp hc7 h
    refine z_tableIn (pc := 79) (tgt := 224) (off := 145) dX10_count_79 (by rw [hc7]; decide) (by rw [hc7]; decide) (by rw [hc7]; decide) (by decide) ?_
    refine z_aload_n (pc := 224) 0 rfl dX10_count_224 rfl ?_
    obtain ⟨a38, x37, e39, h⟩ := iI h
    refine y_getI (pc := 225) flRX10_191 dX10_count_225 rfl a38 e39 ?_
    refine z_if_eq (pc := 228) (tgt := 238) dX10_count_228 (by decide) (fun hc => ?_) (fun hc => ?_)
    · replace h := ifp hc h
      refine z_iconst (pc := 238) (v := 0) dX10_count_238 (by decide) ?_
      exact y_iret (pc := 239) dX10_count_239 rfl h
    · replace h := ifn hc h
      refine z_aload_n (pc := 231) 0 rfl dX10_count_231 rfl ?_
      obtain ⟨a41, x40, e42, h⟩ := iI h
      refine y_getI (pc := 232) flRX10_281 dX10_count_232 rfl a41 e42 ?_
      refine z_goto (pc := 235) (tgt := 239) dX10_count_235 (by decide) ?_
      exact y_iret (pc := 239) dX10_count_239 rfl h
  replace h := ifn hc7 h
  by_cases hc8 : l1 = 8
  · replace h := ifp hc8 h
    refine z_tableIn (pc := 79) (tgt := 240) (off := 161) dX10_count_79 (by rw [hc8]; decide) (by rw [hc8]; decide) (by rw [hc8]; decide) (by decide) ?_
    refine z_aload_n (pc := 240) 0 rfl dX10_count_240 rfl ?_
    obtain ⟨a44, x43, e45, h⟩ := iI h
    refine y_getI (pc := 241) flRX10_185 dX10_count_241 rfl a44 e45 ?_
    exact y_iret (pc := 244) dX10_count_244 rfl h
  replace h := ifn hc8 h
  by_cases hc9 : l1 = 9
  · replace h := ifp hc9 h
    refine z_tableIn (pc := 79) (tgt := 245) (off := 166) dX10_count_79 (by rw [hc9]; decide) (by rw [hc9]; decide) (by rw [hc9]; decide) (by decide) ?_
    refine z_aload_n (pc := 245) 0 rfl dX10_count_245 rfl ?_
    obtain ⟨a47, x46, e48, h⟩ := iI h
    refine y_getI (pc := 246) flRX10_188 dX10_count_246 rfl a47 e48 ?_
    exact y_iret (pc := 249) dX10_count_249 rfl h
  replace h := ifn hc9 h
  by_cases hc10 : l1 = 10
  · replace h := ifp hc10 h
    refine z_tableIn (pc := 79) (tgt := 250) (off := 171) dX10_count_79 (by rw [hc10]; decide) (by rw [hc10]; decide) (by rw [hc10]; decide) (by decide) ?_
    refine z_aload_n (pc := 250) 0 rfl dX10_count_250 rfl ?_
    obtain ⟨a50, x49, e51, h⟩ := iI h
    refine y_getI (pc := 251) flRX10_182 dX10_count_251 rfl a50 e51 ?_
    exact y_iret (pc := 254) dX10_count_254 rfl h
  replace h := ifn hc10 h
  by_cases hc11 : l1 = 11
  · replace h := ifp hc11 h
    refine z_tableIn (pc := 79) (tgt := 255) (off := 176) dX10_count_79 (by rw [hc11]; decide) (by rw [hc11]; decide) (by rw [hc11]; decide) (by decide) ?_
    refine z_aload_n (pc := 255) 0 rfl dX10_count_255 rfl ?_
    obtain ⟨a53, x52, e54, h⟩ := iI h
    refine y_getI (pc := 256) flRX10_99 dX10_count_256 rfl a53 e54 ?_
    exact y_iret (pc := 259) dX10_count_259 rfl h
  replace h := ifn hc11 h
  refine z_tableOut (pc := 79) (tgt := 260) dX10_count_79 (zout 11 (fun j hj => by match j, hj with
      | 0, _ => exact hc0
      | 1, _ => exact hc1
      | 2, _ => exact hc2
      | 3, _ => exact hc3
      | 4, _ => exact hc4
      | 5, _ => exact hc5
      | 6, _ => exact hc6
      | 7, _ => exact hc7
      | 8, _ => exact hc8
      | 9, _ => exact hc9
      | 10, _ => exact hc10
      | 11, _ => exact hc11
      | j + 12, hj => omega) (by decide)) (by decide) ?_
  refine z_aload_n (pc := 260) 0 rfl dX10_count_260 rfl ?_
  obtain ⟨a56, q55, e57, h⟩ := iC h
  refine y_Vi (pc := 261) (M2 := mX10_fail) (As := []) (okX10_fail e57) mvX10_fail mlRX10_157 dX10_count_261 ⟨by decide, by decide⟩ rfl rfl rfl zrest0 a56 ?_
  exact y_iret (pc := 264) dX10_count_264 rfl h
def fX10_count_72 (k12 : Nat → Int32 → Int32 → Int32 → Int32 → zS → Option (Int32 × zS)) (l0 : Nat) (l1 : Int32) (l2 : Int32) (l3 : Int32) (l4 : Int32) (s : zS) : Option (Int32 × zS) :=
  k12 l0 l1 l2 l3 (l4 + 1) s
set_option maxRecDepth 100000 in
set_option maxHeartbeats 4000000 in
theorem bX10_count_72 {E : zE} {k12 : Nat → Int32 → Int32 → Int32 → Int32 → zS → Option (Int32 × zS)} (hk12 : ∀ {l0 : Nat} {l1 : Int32} {l2 : Int32} {l3 : Int32} {l4 : Int32} {s : zS} {q : Int32 × zS}, k12 l0 l1 l2 l3 l4 s = some q → Z E mX10_count 12 [(0, .ref l0), (1, .int l1), (2, .int l2), (3, .int l3), (4, .int l4)] [] s (0, 0) (zRi E mX10_count q.1 q.2)) {l0 : Nat} {l1 : Int32} {l2 : Int32} {l3 : Int32} {l4 : Int32} {s : zS} {q : Int32 × zS} (h : fX10_count_72 k12 l0 l1 l2 l3 l4 s = some q) : Z E mX10_count 72 [(0, .ref l0), (1, .int l1), (2, .int l2), (3, .int l3), (4, .int l4)] [] s (0, 0) (zRi E mX10_count q.1 q.2) := by
  unfold fX10_count_72 at h
  refine z_iinc (pc := 72) (v := (l4 + 1)) (ls' := [(4, .int (l4 + 1)), (0, .ref l0), (1, .int l1), (2, .int l2), (3, .int l3)]) 4 rfl rfl dX10_count_72 (by decide) (fun _ => rfl) ?_
  refine z_goto (pc := 75) (tgt := 12) dX10_count_75 (by decide) ?_
  exact z_sub [1, 2, 3, 4, 0] rfl (hk12 h)
def fX10_count_50 (k12 : Nat → Int32 → Int32 → Int32 → Int32 → zS → Option (Int32 × zS)) (l0 : Nat) (l1 : Int32) (l2 : Int32) (l3 : Int32) (l4 : Int32) (s : zS) : Option (Int32 × zS) :=
  bnd (qR s 10 l0 42) fun x16 =>
  bnd (qA s 13 x16 l4) fun x19 =>
  if x19 = 0 then
    fX10_count_72 (k12) l0 l1 l2 l3 l4 s
  else
    bnd (qI s 10 l0 19) fun x22 =>
    if l4 ≤ x22 then
      fX10_count_72 (k12) l0 l1 l2 l3 l4 s
    else
      fX10_count_72 (k12) l0 l1 l2 (l3 + 1) l4 s
set_option maxRecDepth 100000 in
set_option maxHeartbeats 4000000 in
theorem bX10_count_50 {E : zE} {k12 : Nat → Int32 → Int32 → Int32 → Int32 → zS → Option (Int32 × zS)} (hk12 : ∀ {l0 : Nat} {l1 : Int32} {l2 : Int32} {l3 : Int32} {l4 : Int32} {s : zS} {q : Int32 × zS}, k12 l0 l1 l2 l3 l4 s = some q → Z E mX10_count 12 [(0, .ref l0), (1, .int l1), (2, .int l2), (3, .int l3), (4, .int l4)] [] s (0, 0) (zRi E mX10_count q.1 q.2)) {l0 : Nat} {l1 : Int32} {l2 : Int32} {l3 : Int32} {l4 : Int32} {s : zS} {q : Int32 × zS} (h : fX10_count_50 k12 l0 l1 l2 l3 l4 s = some q) : Z E mX10_count 50 [(0, .ref l0), (1, .int l1), (2, .int l2), (3, .int l3), (4, .int l4)] [] s (0, 0) (zRi E mX10_count q.1 q.2) := by
  unfold fX10_count_50 at h
  refine z_aload_n (pc := 50) 0 rfl dX10_count_50 rfl ?_
  obtain ⟨a17, x16, e18, h⟩ := iR h
  refine y_getR (pc := 51) flRX10_63 dX10_count_51 rfl a17 e18 ?_
  refine z_iload (pc := 54) 4 rfl dX10_count_54 ?_
  obtain ⟨a20, x19, e21, h⟩ := iA h
  refine y_zald (pc := 56) dX10_count_56 a20 e21 ?_
  refine z_if_eq (pc := 57) (tgt := 72) dX10_count_57 (by decide) (fun hc => ?_) (fun hc => ?_)
  · replace h := ifp hc h
    exact z_sub [0, 1, 2, 3, 4] rfl (bX10_count_72 (fun h => hk12 h) h)
  · replace h := ifn hc h
    refine z_iload (pc := 60) 4 rfl dX10_count_60 ?_
    refine z_aload_n (pc := 62) 0 rfl dX10_count_62 rfl ?_
    obtain ⟨a23, x22, e24, h⟩ := iI h
    refine y_getI (pc := 63) flRX10_185 dX10_count_63 rfl a23 e24 ?_
    refine z_icmp_le (pc := 66) (tgt := 72) dX10_count_66 (by decide) (fun hc => ?_) (fun hc => ?_)
    · replace h := ifp hc h
      exact z_sub [0, 1, 2, 3, 4] rfl (bX10_count_72 (fun h => hk12 h) h)
    · replace h := ifn hc h
      refine z_iinc (pc := 69) (v := (l3 + 1)) (ls' := [(3, .int (l3 + 1)), (0, .ref l0), (1, .int l1), (2, .int l2), (4, .int l4)]) 3 rfl rfl dX10_count_69 (by decide) (fun _ => rfl) ?_
      exact z_sub [1, 2, 3, 0, 4] rfl (bX10_count_72 (fun h => hk12 h) h)
def fX10_count_12  (n : Nat) : Nat → Int32 → Int32 → Int32 → Int32 → zS → Option (Int32 × zS) := match n with
  | 0 => fun _ _ _ _ _ _ => none
  | n + 1 => fun l0 l1 l2 l3 l4 s =>
    bnd (qI s 10 l0 33) fun x4 =>
    if x4 < l4 then
      fX10_count_78  l0 l1 l2 l3 s
    else
      bnd (qI s 10 l0 34) fun x7 =>
      if x7 = 0 then
        fX10_count_78  l0 l1 l2 l3 s
      else
        bnd (qR s 10 l0 42) fun x10 =>
        bnd (qA s 13 x10 l4) fun x13 =>
        if x13 = 0 then
          fX10_count_50 ((fX10_count_12  n)) l0 l1 l2 l3 l4 s
        else
          bnd (qI s 10 l0 19) fun x16 =>
          if x16 < l4 then
            fX10_count_50 ((fX10_count_12  n)) l0 l1 l2 l3 l4 s
          else
            fX10_count_50 ((fX10_count_12  n)) l0 l1 (l2 + 1) l3 l4 s
set_option maxRecDepth 100000 in
set_option maxHeartbeats 4000000 in
theorem bX10_count_12 {E : zE}  : ∀ (n : Nat) {l0 : Nat} {l1 : Int32} {l2 : Int32} {l3 : Int32} {l4 : Int32} {s : zS} {q : Int32 × zS}, fX10_count_12  n l0 l1 l2 l3 l4 s = some q → Z E mX10_count 12 [(0, .ref l0), (1, .int l1), (2, .int l2), (3, .int l3), (4, .int l4)] [] s (0, 0) (zRi E mX10_count q.1 q.2) := by
  intro n
  induction n with
  | zero => intro l0 l1 l2 l3 l4 s q h; cases h
  | succ n ih =>
    intro l0 l1 l2 l3 l4 s q h
    unfold fX10_count_12 at h
    refine z_iload (pc := 12) 4 rfl dX10_count_12 ?_
    refine z_aload_n (pc := 14) 0 rfl dX10_count_14 rfl ?_
    obtain ⟨a5, x4, e6, h⟩ := iI h
    refine y_getI (pc := 15) flRX10_207 dX10_count_15 rfl a5 e6 ?_
    refine z_icmp_gt (pc := 18) (tgt := 78) dX10_count_18 (by decide) (fun hc => ?_) (fun hc => ?_)
    · replace h := ifp hc h
      exact z_sub [0, 1, 2, 3] rfl (bX10_count_78  h)
    · replace h := ifn hc h
      refine z_aload_n (pc := 21) 0 rfl dX10_count_21 rfl ?_
      obtain ⟨a8, x7, e9, h⟩ := iI h
      refine y_getI (pc := 22) flRX10_191 dX10_count_22 rfl a8 e9 ?_
      refine z_if_eq (pc := 25) (tgt := 78) dX10_count_25 (by decide) (fun hc => ?_) (fun hc => ?_)
      · replace h := ifp hc h
        exact z_sub [0, 1, 2, 3] rfl (bX10_count_78  h)
      · replace h := ifn hc h
        refine z_aload_n (pc := 28) 0 rfl dX10_count_28 rfl ?_
        obtain ⟨a11, x10, e12, h⟩ := iR h
        refine y_getR (pc := 29) flRX10_63 dX10_count_29 rfl a11 e12 ?_
        refine z_iload (pc := 32) 4 rfl dX10_count_32 ?_
        obtain ⟨a14, x13, e15, h⟩ := iA h
        refine y_zald (pc := 34) dX10_count_34 a14 e15 ?_
        refine z_if_eq (pc := 35) (tgt := 50) dX10_count_35 (by decide) (fun hc => ?_) (fun hc => ?_)
        · replace h := ifp hc h
          exact z_sub [0, 1, 2, 3, 4] rfl (bX10_count_50 (fun h => ih h) h)
        · replace h := ifn hc h
          refine z_iload (pc := 38) 4 rfl dX10_count_38 ?_
          refine z_aload_n (pc := 40) 0 rfl dX10_count_40 rfl ?_
          obtain ⟨a17, x16, e18, h⟩ := iI h
          refine y_getI (pc := 41) flRX10_185 dX10_count_41 rfl a17 e18 ?_
          refine z_icmp_gt (pc := 44) (tgt := 50) dX10_count_44 (by decide) (fun hc => ?_) (fun hc => ?_)
          · replace h := ifp hc h
            exact z_sub [0, 1, 2, 3, 4] rfl (bX10_count_50 (fun h => ih h) h)
          · replace h := ifn hc h
            refine z_iinc (pc := 47) (v := (l2 + 1)) (ls' := [(2, .int (l2 + 1)), (0, .ref l0), (1, .int l1), (3, .int l3), (4, .int l4)]) 2 rfl rfl dX10_count_47 (by decide) (fun _ => rfl) ?_
            exact z_sub [1, 2, 0, 3, 4] rfl (bX10_count_50 (fun h => ih h) h)
def fX10_count (l0 : Nat) (l1 : Int32) (s : zS) : Option (Int32 × zS) :=
  bnd (wI s 10 l0 0 0) fun s1 =>
  fX10_count_12  zfu l0 l1 0 0 1 s1
set_option maxRecDepth 100000 in
set_option maxHeartbeats 4000000 in
theorem okX10_count {E : zE} {l0 : Nat} {l1 : Int32} {s : zS} {q : Int32 × zS} (h : fX10_count l0 l1 s = some q) : Ci E mX10_count [.ref l0, .int l1] s q.1 q.2 := by
  refine Ct.of (ls := [(0, .ref l0), (1, .int l1)]) (by decide) rfl (Nat.le_of_ble_eq_true rfl) ?_
  show Z E mX10_count 0 [(0, .ref l0), (1, .int l1)] [] s (0, 0) (zRi E mX10_count q.1 q.2)
  unfold fX10_count at h
  refine z_aload_n (pc := 0) 0 rfl dX10_count_0 rfl ?_
  refine z_iconst (pc := 1) (v := 0) dX10_count_1 (by decide) ?_
  obtain ⟨a2, s1, e3, h⟩ := jI h
  refine y_putI (pc := 2) flRX10_96 dX10_count_2 rfl (Or.inl rfl) a2 e3 ?_
  refine z_iconst (pc := 5) (v := 0) dX10_count_5 (by decide) ?_
  refine z_istore_n (pc := 6) (ls' := [(2, .int 0), (0, .ref l0), (1, .int l1)]) dX10_count_6 rfl (by decide) (fun _ => rfl) ?_
  refine z_iconst (pc := 7) (v := 0) dX10_count_7 (by decide) ?_
  refine z_istore_n (pc := 8) (ls' := [(3, .int 0), (2, .int 0), (0, .ref l0), (1, .int l1)]) dX10_count_8 rfl (by decide) (fun _ => rfl) ?_
  refine z_iconst (pc := 9) (v := 1) dX10_count_9 (by decide) ?_
  refine z_istore (pc := 10) (ls' := [(4, .int 1), (3, .int 0), (2, .int 0), (0, .ref l0), (1, .int l1)]) dX10_count_10 (by decide) (fun _ => rfl) ?_
  exact z_sub [3, 4, 2, 1, 0] rfl (bX10_count_12  _ h)
def fX10_clause_22  (l0 : Nat) (s : zS) : Option (Int32 × zS) :=
  bnd (cl s 10 l0 (fX10_fail l0  s)) fun q4 =>
  some (q4.1, q4.2)
set_option maxRecDepth 100000 in
set_option maxHeartbeats 4000000 in
theorem bX10_clause_22 {E : zE}   {l0 : Nat} {s : zS} {q : Int32 × zS} (h : fX10_clause_22  l0 s = some q) : Z E mX10_clause 22 [(0, .ref l0)] [] s (0, 0) (zRi E mX10_clause q.1 q.2) := by
  unfold fX10_clause_22 at h
  refine z_aload_n (pc := 22) 0 rfl dX10_clause_22 rfl ?_
  obtain ⟨a5, q4, e6, h⟩ := iC h
  refine y_Vi (pc := 23) (M2 := mX10_fail) (As := []) (okX10_fail e6) mvX10_fail mlRX10_157 dX10_clause_23 ⟨by decide, by decide⟩ rfl rfl rfl zrest0 a5 ?_
  exact y_iret (pc := 26) dX10_clause_26 rfl h
def fX10_clause (l0 : Nat) (l1 : Int32) (l2 : Int32) (s : zS) : Option (Int32 × zS) :=
  bnd (wI s 10 l0 0 0) fun s1 =>
  if l1 < 1 then
    fX10_clause_22  l0 s1
  else
    bnd (qI s1 10 l0 33) fun x4 =>
    if x4 < l1 then
      fX10_clause_22  l0 s1
    else
      if 0 ≤ l2 then
        if l2 = 0 then
          bnd (qI s1 10 l0 34) fun x16 =>
          if x16 = 0 then
            some (0, s1)
          else
            bnd (qR s1 10 l0 42) fun x19 =>
            bnd (qA s1 13 x19 l1) fun x22 =>
            if x22 = 0 then
              some (0, s1)
            else
              some (1, s1)
        else
          if l2 = 1 then
            bnd (cl s1 10 l0 (fX10_longOf l0 l1 s1)) fun q13 =>
            some (q13.1, q13.2)
          else
            bnd (cl s1 10 l0 (fX10_longOf l0 l1 s1)) fun q7 =>
            if q7.1 ≤ (l2 - 2) then
              some (0, q7.2)
            else
              bnd (cl q7.2 10 l0 (fX10_literalOf l0 l1 (l2 - 2) q7.2)) fun q10 =>
              some (q10.1, q10.2)
      else
        fX10_clause_22  l0 s1
set_option maxRecDepth 100000 in
set_option maxHeartbeats 4000000 in
theorem okX10_clause {E : zE} {l0 : Nat} {l1 : Int32} {l2 : Int32} {s : zS} {q : Int32 × zS} (h : fX10_clause l0 l1 l2 s = some q) : Ci E mX10_clause [.ref l0, .int l1, .int l2] s q.1 q.2 := by
  refine Ct.of (ls := [(0, .ref l0), (1, .int l1), (2, .int l2)]) (by decide) rfl (Nat.le_of_ble_eq_true rfl) ?_
  show Z E mX10_clause 0 [(0, .ref l0), (1, .int l1), (2, .int l2)] [] s (0, 0) (zRi E mX10_clause q.1 q.2)
  unfold fX10_clause at h
  refine z_aload_n (pc := 0) 0 rfl dX10_clause_0 rfl ?_
  refine z_iconst (pc := 1) (v := 0) dX10_clause_1 (by decide) ?_
  obtain ⟨a2, s1, e3, h⟩ := jI h
  refine y_putI (pc := 2) flRX10_96 dX10_clause_2 rfl (Or.inl rfl) a2 e3 ?_
  refine z_iload_n (pc := 5) 1 rfl dX10_clause_5 rfl ?_
  refine z_iconst (pc := 6) (v := 1) dX10_clause_6 (by decide) ?_
  refine z_icmp_lt (pc := 7) (tgt := 22) dX10_clause_7 (by decide) (fun hc => ?_) (fun hc => ?_)
  · replace h := ifp hc h
    exact z_sub [0] rfl (bX10_clause_22  h)
  · replace h := ifn hc h
    refine z_iload_n (pc := 10) 1 rfl dX10_clause_10 rfl ?_
    refine z_aload_n (pc := 11) 0 rfl dX10_clause_11 rfl ?_
    obtain ⟨a5, x4, e6, h⟩ := iI h
    refine y_getI (pc := 12) flRX10_207 dX10_clause_12 rfl a5 e6 ?_
    refine z_icmp_gt (pc := 15) (tgt := 22) dX10_clause_15 (by decide) (fun hc => ?_) (fun hc => ?_)
    · replace h := ifp hc h
      exact z_sub [0] rfl (bX10_clause_22  h)
    · replace h := ifn hc h
      refine z_iload_n (pc := 18) 2 rfl dX10_clause_18 rfl ?_
      refine z_if_ge (pc := 19) (tgt := 27) dX10_clause_19 (by decide) (fun hc => ?_) (fun hc => ?_)
      · replace h := ifp hc h
        refine z_iload_n (pc := 27) 2 rfl dX10_clause_27 rfl ?_
        refine z_if_ne (pc := 28) (tgt := 53) dX10_clause_28 (by decide) (fun hc => ?_) (fun hc => ?_)
        · replace h := ifn hc h
          refine z_iload_n (pc := 53) 2 rfl dX10_clause_53 rfl ?_
          refine z_iconst (pc := 54) (v := 1) dX10_clause_54 (by decide) ?_
          refine z_icmp_ne (pc := 55) (tgt := 64) dX10_clause_55 (by decide) (fun hc => ?_) (fun hc => ?_)
          · replace h := ifn hc h
            refine z_iload_n (pc := 64) 2 rfl dX10_clause_64 rfl ?_
            refine z_iconst (pc := 65) (v := 2) dX10_clause_65 (by decide) ?_
            refine z_isub (pc := 66) dX10_clause_66 ?_
            refine z_aload_n (pc := 67) 0 rfl dX10_clause_67 rfl ?_
            refine z_iload_n (pc := 68) 1 rfl dX10_clause_68 rfl ?_
            obtain ⟨a8, q7, e9, h⟩ := iC h
            refine y_Vi (pc := 69) (M2 := mX10_longOf) (As := [.int l1]) (okX10_longOf e9) mvX10_longOf mlRX10_219 dX10_clause_69 ⟨by decide, by decide⟩ rfl rfl rfl (fun _ => Nat.le_of_ble_eq_true rfl) a8 ?_
            refine z_icmp_ge (pc := 72) (tgt := 86) dX10_clause_72 (by decide) (fun hc => ?_) (fun hc => ?_)
            · replace h := ifp hc h
              refine z_iconst (pc := 86) (v := 0) dX10_clause_86 (by decide) ?_
              exact y_iret (pc := 87) dX10_clause_87 rfl h
            · replace h := ifn hc h
              refine z_aload_n (pc := 75) 0 rfl dX10_clause_75 rfl ?_
              refine z_iload_n (pc := 76) 1 rfl dX10_clause_76 rfl ?_
              refine z_iload_n (pc := 77) 2 rfl dX10_clause_77 rfl ?_
              refine z_iconst (pc := 78) (v := 2) dX10_clause_78 (by decide) ?_
              refine z_isub (pc := 79) dX10_clause_79 ?_
              obtain ⟨a11, q10, e12, h⟩ := iC h
              refine y_Vi (pc := 80) (M2 := mX10_literalOf) (As := [.int l1, .int (l2 - 2)]) (okX10_literalOf e12) mvX10_literalOf mlRX10_222 dX10_clause_80 ⟨by decide, by decide⟩ rfl rfl rfl zrest0 a11 ?_
              refine z_goto (pc := 83) (tgt := 87) dX10_clause_83 (by decide) ?_
              exact y_iret (pc := 87) dX10_clause_87 rfl h
          · replace h := ifp hc h
            refine z_aload_n (pc := 58) 0 rfl dX10_clause_58 rfl ?_
            refine z_iload_n (pc := 59) 1 rfl dX10_clause_59 rfl ?_
            obtain ⟨a14, q13, e15, h⟩ := iC h
            refine y_Vi (pc := 60) (M2 := mX10_longOf) (As := [.int l1]) (okX10_longOf e15) mvX10_longOf mlRX10_219 dX10_clause_60 ⟨by decide, by decide⟩ rfl rfl rfl zrest0 a14 ?_
            exact y_iret (pc := 63) dX10_clause_63 rfl h
        · replace h := ifp hc h
          refine z_aload_n (pc := 31) 0 rfl dX10_clause_31 rfl ?_
          obtain ⟨a17, x16, e18, h⟩ := iI h
          refine y_getI (pc := 32) flRX10_191 dX10_clause_32 rfl a17 e18 ?_
          refine z_if_eq (pc := 35) (tgt := 51) dX10_clause_35 (by decide) (fun hc => ?_) (fun hc => ?_)
          · replace h := ifp hc h
            refine z_iconst (pc := 51) (v := 0) dX10_clause_51 (by decide) ?_
            exact y_iret (pc := 52) dX10_clause_52 rfl h
          · replace h := ifn hc h
            refine z_aload_n (pc := 38) 0 rfl dX10_clause_38 rfl ?_
            obtain ⟨a20, x19, e21, h⟩ := iR h
            refine y_getR (pc := 39) flRX10_63 dX10_clause_39 rfl a20 e21 ?_
            refine z_iload_n (pc := 42) 1 rfl dX10_clause_42 rfl ?_
            obtain ⟨a23, x22, e24, h⟩ := iA h
            refine y_zald (pc := 43) dX10_clause_43 a23 e24 ?_
            refine z_if_eq (pc := 44) (tgt := 51) dX10_clause_44 (by decide) (fun hc => ?_) (fun hc => ?_)
            · replace h := ifp hc h
              refine z_iconst (pc := 51) (v := 0) dX10_clause_51 (by decide) ?_
              exact y_iret (pc := 52) dX10_clause_52 rfl h
            · replace h := ifn hc h
              refine z_iconst (pc := 47) (v := 1) dX10_clause_47 (by decide) ?_
              refine z_goto (pc := 48) (tgt := 52) dX10_clause_48 (by decide) ?_
              exact y_iret (pc := 52) dX10_clause_52 rfl h
      · replace h := ifn hc h
        exact z_sub [0] rfl (bX10_clause_22  h)
def fX10_step_22  (l0 : Nat) (s : zS) : Option (Int32 × zS) :=
  bnd (cl s 10 l0 (fX10_fail l0  s)) fun q4 =>
  some (q4.1, q4.2)
set_option maxRecDepth 100000 in
set_option maxHeartbeats 4000000 in
theorem bX10_step_22 {E : zE}   {l0 : Nat} {s : zS} {q : Int32 × zS} (h : fX10_step_22  l0 s = some q) : Z E mX10_step 22 [(0, .ref l0)] [] s (0, 0) (zRi E mX10_step q.1 q.2) := by
  unfold fX10_step_22 at h
  refine z_aload_n (pc := 22) 0 rfl dX10_step_22 rfl ?_
  obtain ⟨a5, q4, e6, h⟩ := iC h
  refine y_Vi (pc := 23) (M2 := mX10_fail) (As := []) (okX10_fail e6) mvX10_fail mlRX10_157 dX10_step_23 ⟨by decide, by decide⟩ rfl rfl rfl zrest0 a5 ?_
  exact y_iret (pc := 26) dX10_step_26 rfl h
def fX10_step (l0 : Nat) (l1 : Int32) (l2 : Int32) (s : zS) : Option (Int32 × zS) :=
  bnd (wI s 10 l0 0 0) fun s1 =>
  if l1 < 1 then
    fX10_step_22  l0 s1
  else
    bnd (qI s1 10 l0 20) fun x4 =>
    if x4 < l1 then
      fX10_step_22  l0 s1
    else
      if 0 ≤ l2 then
        if l2 = 0 then
          bnd (qR s1 10 l0 18) fun x37 =>
          bnd (qA s1 13 x37 l1) fun x40 =>
          if x40 = 0 then
            some (0, s1)
          else
            some (1, s1)
        else
          if l2 = 1 then
            bnd (qR s1 10 l0 32) fun x31 =>
            bnd (qA s1 12 x31 l1) fun x34 =>
            some (x34, s1)
          else
            if l2 = 2 then
              bnd (qR s1 10 l0 16) fun x25 =>
              bnd (qA s1 12 x25 l1) fun x28 =>
              some (x28, s1)
            else
              bnd (qR s1 10 l0 16) fun x7 =>
              bnd (qA s1 12 x7 l1) fun x10 =>
              if x10 ≤ (l2 - 3) then
                some (0, s1)
              else
                bnd (qR s1 10 l0 17) fun x13 =>
                bnd (qR s1 10 l0 15) fun x16 =>
                bnd (qA s1 12 x16 l1) fun x19 =>
                bnd (qA s1 12 x13 ((x19 + l2) - 3)) fun x22 =>
                some (x22, s1)
      else
        fX10_step_22  l0 s1
set_option maxRecDepth 100000 in
set_option maxHeartbeats 4000000 in
theorem okX10_step {E : zE} {l0 : Nat} {l1 : Int32} {l2 : Int32} {s : zS} {q : Int32 × zS} (h : fX10_step l0 l1 l2 s = some q) : Ci E mX10_step [.ref l0, .int l1, .int l2] s q.1 q.2 := by
  refine Ct.of (ls := [(0, .ref l0), (1, .int l1), (2, .int l2)]) (by decide) rfl (Nat.le_of_ble_eq_true rfl) ?_
  show Z E mX10_step 0 [(0, .ref l0), (1, .int l1), (2, .int l2)] [] s (0, 0) (zRi E mX10_step q.1 q.2)
  unfold fX10_step at h
  refine z_aload_n (pc := 0) 0 rfl dX10_step_0 rfl ?_
  refine z_iconst (pc := 1) (v := 0) dX10_step_1 (by decide) ?_
  obtain ⟨a2, s1, e3, h⟩ := jI h
  refine y_putI (pc := 2) flRX10_96 dX10_step_2 rfl (Or.inl rfl) a2 e3 ?_
  refine z_iload_n (pc := 5) 1 rfl dX10_step_5 rfl ?_
  refine z_iconst (pc := 6) (v := 1) dX10_step_6 (by decide) ?_
  refine z_icmp_lt (pc := 7) (tgt := 22) dX10_step_7 (by decide) (fun hc => ?_) (fun hc => ?_)
  · replace h := ifp hc h
    exact z_sub [0] rfl (bX10_step_22  h)
  · replace h := ifn hc h
    refine z_iload_n (pc := 10) 1 rfl dX10_step_10 rfl ?_
    refine z_aload_n (pc := 11) 0 rfl dX10_step_11 rfl ?_
    obtain ⟨a5, x4, e6, h⟩ := iI h
    refine y_getI (pc := 12) flRX10_188 dX10_step_12 rfl a5 e6 ?_
    refine z_icmp_gt (pc := 15) (tgt := 22) dX10_step_15 (by decide) (fun hc => ?_) (fun hc => ?_)
    · replace h := ifp hc h
      exact z_sub [0] rfl (bX10_step_22  h)
    · replace h := ifn hc h
      refine z_iload_n (pc := 18) 2 rfl dX10_step_18 rfl ?_
      refine z_if_ge (pc := 19) (tgt := 27) dX10_step_19 (by decide) (fun hc => ?_) (fun hc => ?_)
      · replace h := ifp hc h
        refine z_iload_n (pc := 27) 2 rfl dX10_step_27 rfl ?_
        refine z_if_ne (pc := 28) (tgt := 46) dX10_step_28 (by decide) (fun hc => ?_) (fun hc => ?_)
        · replace h := ifn hc h
          refine z_iload_n (pc := 46) 2 rfl dX10_step_46 rfl ?_
          refine z_iconst (pc := 47) (v := 1) dX10_step_47 (by decide) ?_
          refine z_icmp_ne (pc := 48) (tgt := 58) dX10_step_48 (by decide) (fun hc => ?_) (fun hc => ?_)
          · replace h := ifn hc h
            refine z_iload_n (pc := 58) 2 rfl dX10_step_58 rfl ?_
            refine z_iconst (pc := 59) (v := 2) dX10_step_59 (by decide) ?_
            refine z_icmp_ne (pc := 60) (tgt := 70) dX10_step_60 (by decide) (fun hc => ?_) (fun hc => ?_)
            · replace h := ifn hc h
              refine z_iload_n (pc := 70) 2 rfl dX10_step_70 rfl ?_
              refine z_iconst (pc := 71) (v := 3) dX10_step_71 (by decide) ?_
              refine z_isub (pc := 72) dX10_step_72 ?_
              refine z_aload_n (pc := 73) 0 rfl dX10_step_73 rfl ?_
              obtain ⟨a8, x7, e9, h⟩ := iR h
              refine y_getR (pc := 74) flRX10_32 dX10_step_74 rfl a8 e9 ?_
              refine z_iload_n (pc := 77) 1 rfl dX10_step_77 rfl ?_
              obtain ⟨a11, x10, e12, h⟩ := iA h
              refine y_iald (pc := 78) dX10_step_78 a11 e12 ?_
              refine z_icmp_ge (pc := 79) (tgt := 100) dX10_step_79 (by decide) (fun hc => ?_) (fun hc => ?_)
              · replace h := ifp hc h
                refine z_iconst (pc := 100) (v := 0) dX10_step_100 (by decide) ?_
                exact y_iret (pc := 101) dX10_step_101 rfl h
              · replace h := ifn hc h
                refine z_aload_n (pc := 82) 0 rfl dX10_step_82 rfl ?_
                obtain ⟨a14, x13, e15, h⟩ := iR h
                refine y_getR (pc := 83) flRX10_35 dX10_step_83 rfl a14 e15 ?_
                refine z_aload_n (pc := 86) 0 rfl dX10_step_86 rfl ?_
                obtain ⟨a17, x16, e18, h⟩ := iR h
                refine y_getR (pc := 87) flRX10_29 dX10_step_87 rfl a17 e18 ?_
                refine z_iload_n (pc := 90) 1 rfl dX10_step_90 rfl ?_
                obtain ⟨a20, x19, e21, h⟩ := iA h
                refine y_iald (pc := 91) dX10_step_91 a20 e21 ?_
                refine z_iload_n (pc := 92) 2 rfl dX10_step_92 rfl ?_
                refine z_iadd (pc := 93) dX10_step_93 ?_
                refine z_iconst (pc := 94) (v := 3) dX10_step_94 (by decide) ?_
                refine z_isub (pc := 95) dX10_step_95 ?_
                obtain ⟨a23, x22, e24, h⟩ := iA h
                refine y_iald (pc := 96) dX10_step_96 a23 e24 ?_
                refine z_goto (pc := 97) (tgt := 101) dX10_step_97 (by decide) ?_
                exact y_iret (pc := 101) dX10_step_101 rfl h
            · replace h := ifp hc h
              refine z_aload_n (pc := 63) 0 rfl dX10_step_63 rfl ?_
              obtain ⟨a26, x25, e27, h⟩ := iR h
              refine y_getR (pc := 64) flRX10_32 dX10_step_64 rfl a26 e27 ?_
              refine z_iload_n (pc := 67) 1 rfl dX10_step_67 rfl ?_
              obtain ⟨a29, x28, e30, h⟩ := iA h
              refine y_iald (pc := 68) dX10_step_68 a29 e30 ?_
              exact y_iret (pc := 69) dX10_step_69 rfl h
          · replace h := ifp hc h
            refine z_aload_n (pc := 51) 0 rfl dX10_step_51 rfl ?_
            obtain ⟨a32, x31, e33, h⟩ := iR h
            refine y_getR (pc := 52) flRX10_57 dX10_step_52 rfl a32 e33 ?_
            refine z_iload_n (pc := 55) 1 rfl dX10_step_55 rfl ?_
            obtain ⟨a35, x34, e36, h⟩ := iA h
            refine y_iald (pc := 56) dX10_step_56 a35 e36 ?_
            exact y_iret (pc := 57) dX10_step_57 rfl h
        · replace h := ifp hc h
          refine z_aload_n (pc := 31) 0 rfl dX10_step_31 rfl ?_
          obtain ⟨a38, x37, e39, h⟩ := iR h
          refine y_getR (pc := 32) flRX10_38 dX10_step_32 rfl a38 e39 ?_
          refine z_iload_n (pc := 35) 1 rfl dX10_step_35 rfl ?_
          obtain ⟨a41, x40, e42, h⟩ := iA h
          refine y_zald (pc := 36) dX10_step_36 a41 e42 ?_
          refine z_if_eq (pc := 37) (tgt := 44) dX10_step_37 (by decide) (fun hc => ?_) (fun hc => ?_)
          · replace h := ifp hc h
            refine z_iconst (pc := 44) (v := 0) dX10_step_44 (by decide) ?_
            exact y_iret (pc := 45) dX10_step_45 rfl h
          · replace h := ifn hc h
            refine z_iconst (pc := 40) (v := 1) dX10_step_40 (by decide) ?_
            refine z_goto (pc := 41) (tgt := 45) dX10_step_41 (by decide) ?_
            exact y_iret (pc := 45) dX10_step_45 rfl h
      · replace h := ifn hc h
        exact z_sub [0] rfl (bX10_step_22  h)
def fX10_hint_21  (l0 : Nat) (s : zS) : Option (Int32 × zS) :=
  bnd (cl s 10 l0 (fX10_fail l0  s)) fun q4 =>
  some (q4.1, q4.2)
set_option maxRecDepth 100000 in
set_option maxHeartbeats 4000000 in
theorem bX10_hint_21 {E : zE}   {l0 : Nat} {s : zS} {q : Int32 × zS} (h : fX10_hint_21  l0 s = some q) : Z E mX10_hint 21 [(0, .ref l0)] [] s (0, 0) (zRi E mX10_hint q.1 q.2) := by
  unfold fX10_hint_21 at h
  refine z_aload_n (pc := 21) 0 rfl dX10_hint_21 rfl ?_
  obtain ⟨a5, q4, e6, h⟩ := iC h
  refine y_Vi (pc := 22) (M2 := mX10_fail) (As := []) (okX10_fail e6) mvX10_fail mlRX10_157 dX10_hint_22 ⟨by decide, by decide⟩ rfl rfl rfl zrest0 a5 ?_
  exact y_iret (pc := 25) dX10_hint_25 rfl h
def fX10_hint (l0 : Nat) (l1 : Int32) (l2 : Int32) (s : zS) : Option (Int32 × zS) :=
  bnd (wI s 10 l0 0 0) fun s1 =>
  if l1 < 0 then
    fX10_hint_21  l0 s1
  else
    bnd (qI s1 10 l0 33) fun x4 =>
    if x4 < l1 then
      fX10_hint_21  l0 s1
    else
      if 0 ≤ l2 then
        bnd (qI s1 10 l0 34) fun x7 =>
        if x7 = 0 then
          some (0, s1)
        else
          bnd (qR s1 10 l0 55) fun x10 =>
          bnd (qA s1 12 x10 l1) fun x13 =>
          if x13 ≤ l2 then
            some (0, s1)
          else
            bnd (qR s1 10 l0 53) fun x16 =>
            bnd (qR s1 10 l0 54) fun x19 =>
            bnd (qA s1 12 x19 l1) fun x22 =>
            bnd (qA s1 12 x16 (x22 + l2)) fun x25 =>
            some (x25, s1)
      else
        fX10_hint_21  l0 s1
set_option maxRecDepth 100000 in
set_option maxHeartbeats 4000000 in
theorem okX10_hint {E : zE} {l0 : Nat} {l1 : Int32} {l2 : Int32} {s : zS} {q : Int32 × zS} (h : fX10_hint l0 l1 l2 s = some q) : Ci E mX10_hint [.ref l0, .int l1, .int l2] s q.1 q.2 := by
  refine Ct.of (ls := [(0, .ref l0), (1, .int l1), (2, .int l2)]) (by decide) rfl (Nat.le_of_ble_eq_true rfl) ?_
  show Z E mX10_hint 0 [(0, .ref l0), (1, .int l1), (2, .int l2)] [] s (0, 0) (zRi E mX10_hint q.1 q.2)
  unfold fX10_hint at h
  refine z_aload_n (pc := 0) 0 rfl dX10_hint_0 rfl ?_
  refine z_iconst (pc := 1) (v := 0) dX10_hint_1 (by decide) ?_
  obtain ⟨a2, s1, e3, h⟩ := jI h
  refine y_putI (pc := 2) flRX10_96 dX10_hint_2 rfl (Or.inl rfl) a2 e3 ?_
  refine z_iload_n (pc := 5) 1 rfl dX10_hint_5 rfl ?_
  refine z_if_lt (pc := 6) (tgt := 21) dX10_hint_6 (by decide) (fun hc => ?_) (fun hc => ?_)
  · replace h := ifp hc h
    exact z_sub [0] rfl (bX10_hint_21  h)
  · replace h := ifn hc h
    refine z_iload_n (pc := 9) 1 rfl dX10_hint_9 rfl ?_
    refine z_aload_n (pc := 10) 0 rfl dX10_hint_10 rfl ?_
    obtain ⟨a5, x4, e6, h⟩ := iI h
    refine y_getI (pc := 11) flRX10_207 dX10_hint_11 rfl a5 e6 ?_
    refine z_icmp_gt (pc := 14) (tgt := 21) dX10_hint_14 (by decide) (fun hc => ?_) (fun hc => ?_)
    · replace h := ifp hc h
      exact z_sub [0] rfl (bX10_hint_21  h)
    · replace h := ifn hc h
      refine z_iload_n (pc := 17) 2 rfl dX10_hint_17 rfl ?_
      refine z_if_ge (pc := 18) (tgt := 26) dX10_hint_18 (by decide) (fun hc => ?_) (fun hc => ?_)
      · replace h := ifp hc h
        refine z_aload_n (pc := 26) 0 rfl dX10_hint_26 rfl ?_
        obtain ⟨a8, x7, e9, h⟩ := iI h
        refine y_getI (pc := 27) flRX10_191 dX10_hint_27 rfl a8 e9 ?_
        refine z_if_eq (pc := 30) (tgt := 59) dX10_hint_30 (by decide) (fun hc => ?_) (fun hc => ?_)
        · replace h := ifp hc h
          refine z_iconst (pc := 59) (v := 0) dX10_hint_59 (by decide) ?_
          exact y_iret (pc := 60) dX10_hint_60 rfl h
        · replace h := ifn hc h
          refine z_iload_n (pc := 33) 2 rfl dX10_hint_33 rfl ?_
          refine z_aload_n (pc := 34) 0 rfl dX10_hint_34 rfl ?_
          obtain ⟨a11, x10, e12, h⟩ := iR h
          refine y_getR (pc := 35) flRX10_90 dX10_hint_35 rfl a11 e12 ?_
          refine z_iload_n (pc := 38) 1 rfl dX10_hint_38 rfl ?_
          obtain ⟨a14, x13, e15, h⟩ := iA h
          refine y_iald (pc := 39) dX10_hint_39 a14 e15 ?_
          refine z_icmp_ge (pc := 40) (tgt := 59) dX10_hint_40 (by decide) (fun hc => ?_) (fun hc => ?_)
          · replace h := ifp hc h
            refine z_iconst (pc := 59) (v := 0) dX10_hint_59 (by decide) ?_
            exact y_iret (pc := 60) dX10_hint_60 rfl h
          · replace h := ifn hc h
            refine z_aload_n (pc := 43) 0 rfl dX10_hint_43 rfl ?_
            obtain ⟨a17, x16, e18, h⟩ := iR h
            refine y_getR (pc := 44) flRX10_84 dX10_hint_44 rfl a17 e18 ?_
            refine z_aload_n (pc := 47) 0 rfl dX10_hint_47 rfl ?_
            obtain ⟨a20, x19, e21, h⟩ := iR h
            refine y_getR (pc := 48) flRX10_87 dX10_hint_48 rfl a20 e21 ?_
            refine z_iload_n (pc := 51) 1 rfl dX10_hint_51 rfl ?_
            obtain ⟨a23, x22, e24, h⟩ := iA h
            refine y_iald (pc := 52) dX10_hint_52 a23 e24 ?_
            refine z_iload_n (pc := 53) 2 rfl dX10_hint_53 rfl ?_
            refine z_iadd (pc := 54) dX10_hint_54 ?_
            obtain ⟨a26, x25, e27, h⟩ := iA h
            refine y_iald (pc := 55) dX10_hint_55 a26 e27 ?_
            refine z_goto (pc := 56) (tgt := 60) dX10_hint_56 (by decide) ?_
            exact y_iret (pc := 60) dX10_hint_60 rfl h
      · replace h := ifn hc h
        exact z_sub [0] rfl (bX10_hint_21  h)
def fX10_put_20  (l0 : Nat) (s : zS) : Option zS :=
  bnd (qI s 10 l0 58) fun x4 =>
  bnd (wI s 10 l0 58 (x4 + 1)) fun s7 =>
  some s7
set_option maxRecDepth 100000 in
set_option maxHeartbeats 4000000 in
theorem bX10_put_20 {E : zE}   {l0 : Nat} {s : zS} {q : zS} (h : fX10_put_20  l0 s = some q) : Z E mX10_put 20 [(0, .ref l0)] [] s (0, 0) (zRv E mX10_put q) := by
  unfold fX10_put_20 at h
  refine z_aload_n (pc := 20) 0 rfl dX10_put_20 rfl ?_
  refine z_dup (pc := 21) dX10_put_21 (fun _ => rfl) ?_
  obtain ⟨a5, x4, e6, h⟩ := iI h
  refine y_getI (pc := 22) flRX10_312 dX10_put_22 rfl a5 e6 ?_
  refine z_iconst (pc := 25) (v := 1) dX10_put_25 (by decide) ?_
  refine z_iadd (pc := 26) dX10_put_26 ?_
  obtain ⟨a8, s7, e9, h⟩ := jI h
  refine y_putI (pc := 27) flRX10_312 dX10_put_27 rfl (Or.inl rfl) a8 e9 ?_
  exact y_ret (pc := 30) dX10_put_30 rfl h
def fX10_put (l0 : Nat) (l1 : Int32) (s : zS) : Option zS :=
  bnd (qI s 10 l0 58) fun x1 =>
  if 6000 ≤ x1 then
    fX10_put_20  l0 s
  else
    bnd (qR s 10 l0 57) fun x4 =>
    bnd (qI s 10 l0 58) fun x7 =>
    bnd (uI s x4 x7 l1) fun s10 =>
    fX10_put_20  l0 s10
set_option maxRecDepth 100000 in
set_option maxHeartbeats 4000000 in
theorem okX10_put {E : zE} {l0 : Nat} {l1 : Int32} {s : zS} {t : zS} (h : fX10_put l0 l1 s = some t) : Cv E mX10_put [.ref l0, .int l1] s t := by
  refine Ct.of (ls := [(0, .ref l0), (1, .int l1)]) (by decide) rfl (Nat.le_of_ble_eq_true rfl) ?_
  show Z E mX10_put 0 [(0, .ref l0), (1, .int l1)] [] s (0, 0) (zRv E mX10_put t)
  unfold fX10_put at h
  refine z_aload_n (pc := 0) 0 rfl dX10_put_0 rfl ?_
  obtain ⟨a2, x1, e3, h⟩ := iI h
  refine y_getI (pc := 1) flRX10_312 dX10_put_1 rfl a2 e3 ?_
  refine z_sipush (pc := 4) (v := 6000) dX10_put_4 (by decide) ?_
  refine z_icmp_ge (pc := 7) (tgt := 20) dX10_put_7 (by decide) (fun hc => ?_) (fun hc => ?_)
  · replace h := ifp hc h
    exact z_sub [0] rfl (bX10_put_20  h)
  · replace h := ifn hc h
    refine z_aload_n (pc := 10) 0 rfl dX10_put_10 rfl ?_
    obtain ⟨a5, x4, e6, h⟩ := iR h
    refine y_getR (pc := 11) flRX10_93 dX10_put_11 rfl a5 e6 ?_
    refine z_aload_n (pc := 14) 0 rfl dX10_put_14 rfl ?_
    obtain ⟨a8, x7, e9, h⟩ := iI h
    refine y_getI (pc := 15) flRX10_312 dX10_put_15 rfl a8 e9 ?_
    refine z_iload_n (pc := 18) 1 rfl dX10_put_18 rfl ?_
    obtain ⟨a11, s10, e12, h⟩ := kI h
    refine y_iast (pc := 19) dX10_put_19 a11 e12 ?_
    exact z_sub [0] rfl (bX10_put_20  h)
def fX10_putNumber_58  (l0 : Nat) (l2 : Int32) (s : zS) : Option zS :=
  bnd (cl s 10 l0 (fX10_put l0 (48 + (l2 - l2 / 10 * 10)) s)) fun q1 =>
  some q1
set_option maxRecDepth 100000 in
set_option maxHeartbeats 4000000 in
theorem bX10_putNumber_58 {E : zE}   {l0 : Nat} {l2 : Int32} {s : zS} {q : zS} (h : fX10_putNumber_58  l0 l2 s = some q) : Z E mX10_putNumber 58 [(0, .ref l0), (2, .int l2)] [] s (0, 0) (zRv E mX10_putNumber q) := by
  unfold fX10_putNumber_58 at h
  refine z_aload_n (pc := 58) 0 rfl dX10_putNumber_58 rfl ?_
  refine z_bipush (pc := 59) (v := 48) dX10_putNumber_59 (by decide) ?_
  refine z_iload_n (pc := 61) 1 rfl dX10_putNumber_61 rfl ?_
  refine z_bipush (pc := 62) (v := 10) dX10_putNumber_62 (by decide) ?_
  refine z_irem (pc := 64) (by decide) dX10_putNumber_64 ?_
  refine z_iadd (pc := 65) dX10_putNumber_65 ?_
  obtain ⟨a2, q1, e3, h⟩ := iC h
  refine y_V (pc := 66) (M2 := mX10_put) (As := [.int (48 + (l2 - l2 / 10 * 10))]) (okX10_put e3) mvX10_put mlRX10_315 dX10_putNumber_66 ⟨by decide, by decide⟩ rfl rfl rfl zrest0 a2 ?_
  exact y_ret (pc := 69) dX10_putNumber_69 rfl h
def fX10_putNumber_38  (l0 : Nat) (l2 : Int32) (s : zS) : Option zS :=
  if l2 < 10 then
    fX10_putNumber_58  l0 l2 s
  else
    bnd (cl s 10 l0 (fX10_put l0 (48 + ((l2 / 10) - (l2 / 10) / 10 * 10)) s)) fun q1 =>
    fX10_putNumber_58  l0 l2 q1
set_option maxRecDepth 100000 in
set_option maxHeartbeats 4000000 in
theorem bX10_putNumber_38 {E : zE}   {l0 : Nat} {l2 : Int32} {s : zS} {q : zS} (h : fX10_putNumber_38  l0 l2 s = some q) : Z E mX10_putNumber 38 [(0, .ref l0), (2, .int l2)] [] s (0, 0) (zRv E mX10_putNumber q) := by
  unfold fX10_putNumber_38 at h
  refine z_iload_n (pc := 38) 1 rfl dX10_putNumber_38 rfl ?_
  refine z_bipush (pc := 39) (v := 10) dX10_putNumber_39 (by decide) ?_
  refine z_icmp_lt (pc := 41) (tgt := 58) dX10_putNumber_41 (by decide) (fun hc => ?_) (fun hc => ?_)
  · replace h := ifp hc h
    exact z_sub [0, 1] rfl (bX10_putNumber_58  h)
  · replace h := ifn hc h
    refine z_aload_n (pc := 44) 0 rfl dX10_putNumber_44 rfl ?_
    refine z_bipush (pc := 45) (v := 48) dX10_putNumber_45 (by decide) ?_
    refine z_iload_n (pc := 47) 1 rfl dX10_putNumber_47 rfl ?_
    refine z_bipush (pc := 48) (v := 10) dX10_putNumber_48 (by decide) ?_
    refine z_idiv (pc := 50) (by decide) dX10_putNumber_50 ?_
    refine z_bipush (pc := 51) (v := 10) dX10_putNumber_51 (by decide) ?_
    refine z_irem (pc := 53) (by decide) dX10_putNumber_53 ?_
    refine z_iadd (pc := 54) dX10_putNumber_54 ?_
    obtain ⟨a2, q1, e3, h⟩ := iC h
    refine y_V (pc := 55) (M2 := mX10_put) (As := [.int (48 + ((l2 / 10) - (l2 / 10) / 10 * 10))]) (okX10_put e3) mvX10_put mlRX10_315 dX10_putNumber_55 ⟨by decide, by decide⟩ rfl rfl rfl zrest0 a2 ?_
    exact z_sub [0, 1] rfl (bX10_putNumber_58  h)
def fX10_putNumber_20  (l0 : Nat) (t0 : Int32) (s : zS) : Option zS :=
  if t0 < 100 then
    fX10_putNumber_38  l0 t0 s
  else
    bnd (cl s 10 l0 (fX10_put l0 (48 + (t0 / 100)) s)) fun q1 =>
    fX10_putNumber_38  l0 t0 q1
set_option maxRecDepth 100000 in
set_option maxHeartbeats 4000000 in
theorem bX10_putNumber_20 {E : zE}   {l0 : Nat} {t0 : Int32} {s : zS} {q : zS} (h : fX10_putNumber_20  l0 t0 s = some q) : Z E mX10_putNumber 20 [(0, .ref l0)] [.int t0] s (0, 0) (zRv E mX10_putNumber q) := by
  unfold fX10_putNumber_20 at h
  refine z_istore_n (pc := 20) (ls' := [(2, .int t0), (0, .ref l0)]) dX10_putNumber_20 rfl (by decide) (fun _ => rfl) ?_
  refine z_iload_n (pc := 21) 0 rfl dX10_putNumber_21 rfl ?_
  refine z_bipush (pc := 22) (v := 100) dX10_putNumber_22 (by decide) ?_
  refine z_icmp_lt (pc := 24) (tgt := 38) dX10_putNumber_24 (by decide) (fun hc => ?_) (fun hc => ?_)
  · replace h := ifp hc h
    exact z_sub [1, 0] rfl (bX10_putNumber_38  h)
  · replace h := ifn hc h
    refine z_aload_n (pc := 27) 1 rfl dX10_putNumber_27 rfl ?_
    refine z_bipush (pc := 28) (v := 48) dX10_putNumber_28 (by decide) ?_
    refine z_iload_n (pc := 30) 0 rfl dX10_putNumber_30 rfl ?_
    refine z_bipush (pc := 31) (v := 100) dX10_putNumber_31 (by decide) ?_
    refine z_idiv (pc := 33) (by decide) dX10_putNumber_33 ?_
    refine z_iadd (pc := 34) dX10_putNumber_34 ?_
    obtain ⟨a2, q1, e3, h⟩ := iC h
    refine y_V (pc := 35) (M2 := mX10_put) (As := [.int (48 + (t0 / 100))]) (okX10_put e3) mvX10_put mlRX10_315 dX10_putNumber_35 ⟨by decide, by decide⟩ rfl rfl rfl zrest0 a2 ?_
    exact z_sub [1, 0] rfl (bX10_putNumber_38  h)
def fX10_putNumber_10  (l0 : Nat) (l1 : Int32) (s : zS) : Option zS :=
  if 0 ≤ l1 then
    fX10_putNumber_20  l0 l1 s
  else
    fX10_putNumber_20  l0 (-l1) s
set_option maxRecDepth 100000 in
set_option maxHeartbeats 4000000 in
theorem bX10_putNumber_10 {E : zE}   {l0 : Nat} {l1 : Int32} {s : zS} {q : zS} (h : fX10_putNumber_10  l0 l1 s = some q) : Z E mX10_putNumber 10 [(0, .ref l0), (1, .int l1)] [] s (0, 0) (zRv E mX10_putNumber q) := by
  unfold fX10_putNumber_10 at h
  refine z_iload_n (pc := 10) 1 rfl dX10_putNumber_10 rfl ?_
  refine z_if_ge (pc := 11) (tgt := 19) dX10_putNumber_11 (by decide) (fun hc => ?_) (fun hc => ?_)
  · replace h := ifp hc h
    refine z_iload_n (pc := 19) 1 rfl dX10_putNumber_19 rfl ?_
    exact z_sub [0] rfl (bX10_putNumber_20  h)
  · replace h := ifn hc h
    refine z_iload_n (pc := 14) 1 rfl dX10_putNumber_14 rfl ?_
    refine z_ineg (pc := 15) dX10_putNumber_15 ?_
    refine z_goto (pc := 16) (tgt := 20) dX10_putNumber_16 (by decide) ?_
    exact z_sub [0] rfl (bX10_putNumber_20  h)
def fX10_putNumber (l0 : Nat) (l1 : Int32) (s : zS) : Option zS :=
  if 0 ≤ l1 then
    fX10_putNumber_10  l0 l1 s
  else
    bnd (cl s 10 l0 (fX10_put l0 45 s)) fun q1 =>
    fX10_putNumber_10  l0 l1 q1
set_option maxRecDepth 100000 in
set_option maxHeartbeats 4000000 in
theorem okX10_putNumber {E : zE} {l0 : Nat} {l1 : Int32} {s : zS} {t : zS} (h : fX10_putNumber l0 l1 s = some t) : Cv E mX10_putNumber [.ref l0, .int l1] s t := by
  refine Ct.of (ls := [(0, .ref l0), (1, .int l1)]) (by decide) rfl (Nat.le_of_ble_eq_true rfl) ?_
  show Z E mX10_putNumber 0 [(0, .ref l0), (1, .int l1)] [] s (0, 0) (zRv E mX10_putNumber t)
  unfold fX10_putNumber at h
  refine z_iload_n (pc := 0) 1 rfl dX10_putNumber_0 rfl ?_
  refine z_if_ge (pc := 1) (tgt := 10) dX10_putNumber_1 (by decide) (fun hc => ?_) (fun hc => ?_)
  · replace h := ifp hc h
    exact z_sub [0, 1] rfl (bX10_putNumber_10  h)
  · replace h := ifn hc h
    refine z_aload_n (pc := 4) 0 rfl dX10_putNumber_4 rfl ?_
    refine z_bipush (pc := 5) (v := 45) dX10_putNumber_5 (by decide) ?_
    obtain ⟨a2, q1, e3, h⟩ := iC h
    refine y_V (pc := 7) (M2 := mX10_put) (As := [.int 45]) (okX10_put e3) mvX10_put mlRX10_315 dX10_putNumber_7 ⟨by decide, by decide⟩ rfl rfl rfl zrest0 a2 ?_
    exact z_sub [0, 1] rfl (bX10_putNumber_10  h)
