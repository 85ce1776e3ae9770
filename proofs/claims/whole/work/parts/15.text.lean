/-! Texts: the String constants "p", "cnf", "d" (places 0, 1, 2), and what the JDK's own methods answer of them. -/
def sLn (k : Nat) (s : zS) : Option (Int32 × zS) := if k < 3 then some (nI (zlen.getD k 0), s) else none
def sCh (k : Nat) (i : Int32) (s : zS) : Option (Int32 × zS) := if k < 3 ∧ ¬ (i < 0 ∨ zlen.getD k 0 ≤ i.toNatClampNeg) then some (((((zbyt.getD k []).getD i.toNatClampNeg 0) &&& 255).toUInt32 % 65536).toInt32, s) else none
theorem sLn_lt {k : Nat} {s : zS} {q : Int32 × zS} (h : sLn k s = some q) : k < 3 := (opt_i h).1
theorem sCh_lt {k : Nat} {i : Int32} {s : zS} {q : Int32 × zS} (h : sCh k i s = some q) : k < 3 := (opt_i h).1.1
def zMT (M2 : zM) (n : Nat) : Prop := zMl M2 n ∧ Cond.instanceMethod M2.1 ∈ zALL ∧ Cond.selects "java/lang/String" M2.1 M2.1 ∈ zALL
section
variable {E : zE} {M : zM} {pc : Nat} {ls : List (Nat × Value)} {st : List Value} {s : zS} {bud : Nat × Nat} {F : zF}
theorem z_ldcS {idx k : Nat} {tx : String} (hl : ∀ (E : zE) (U : State), zX E U → vk_R M.1.cls idx tx (zaS E k) U) (hd : decode M.2.1 pc = .ok (.ldc idx, 2)) (h : Z E M (pc + 2) ls (.retAddr k :: st) s bud F) : Z E M pc ls st s bud F :=
  fun p e sx m args below meth c H locs cells slots la hC hH hv b1 b2 => va_ldcS hC.1 hC.2.1 hC.2.2.2.2.1 (hl E sx hC.2.2.2.2.2.2.2.2.1.2.2) hd (h p e sx m args below meth c H locs cells slots la hC hH hv b1 b2)
theorem z_i2c {x : Int32} (hd : decode M.2.1 pc = .ok (.i2c, 1)) (h : Z E M (pc + 1) ls (.int ((x.toUInt32 % 65536).toInt32) :: st) s bud F) : Z E M pc ls (.int x :: st) s bud F :=
  fun p e sx m args below meth c H locs cells slots la hC hH hl b1 b2 => lv_i2c hC.1 hC.2.1 hd rfl (h p e sx m args below meth c H locs cells slots la hC hH hl b1 b2)
theorem z_tval {idx k : Nat} (hk : k < 3) (hw : Cond.fieldLink M.1.cls idx "java/lang/String" "value" "[B" ∈ zALL) (hd : decode M.2.1 pc = .ok (.getfield idx, 3)) (h : Z E M (pc + 3) ls (.retAddr (100 + k) :: st) s bud F) : Z E M pc ls (.retAddr k :: st) s bud F :=
  fun p e sx m args below meth c H locs cells slots la hC hH hl b1 b2 => vk_getf hC.1 hC.2.1 (hC.2.2.2.2.2.2.2.2.1.2.2.1.1 k hk).2.2.1 hH.2.2.1 hC.2.2.2.2.1 (hC.2.2.2.2.2.1 _ hw) (fun _ q => q) hd (h p e sx m args below meth c H locs cells slots la hC hH hl b1 b2)
theorem z_tcod {idx k : Nat} (hk : k < 3) (hw : Cond.fieldLink M.1.cls idx "java/lang/String" "coder" "B" ∈ zALL) (hd : decode M.2.1 pc = .ok (.getfield idx, 3)) (h : Z E M (pc + 3) ls (.int 0 :: st) s bud F) : Z E M pc ls (.retAddr k :: st) s bud F :=
  fun p e sx m args below meth c H locs cells slots la hC hH hl b1 b2 => vk_getf hC.1 hC.2.1 (hC.2.2.2.2.2.2.2.2.1.2.2.1.1 k hk).2.1 hH.2.2.1 hC.2.2.2.2.1 (hC.2.2.2.2.2.1 _ hw) (fun _ q => q) hd (h p e sx m args below meth c H locs cells slots la hC hH hl b1 b2)
theorem z_tlen {k : Nat} (hk : k < 3) (hd : decode M.2.1 pc = .ok (.arraylength, 1)) (h : Z E M (pc + 1) ls (.int (nI (zlen.getD k 0)) :: st) s bud F) : Z E M pc ls (.retAddr (100 + k) :: st) s bud F :=
  fun p e sx m args below meth c H locs cells slots la hC hH hl b1 b2 => va_tlen hC.1 hC.2.1 (hC.2.2.2.2.2.2.2.2.1.2.2.1.1 k hk).2.2.2 hH.2.2.1 rfl hd (h p e sx m args below meth c H locs cells slots la hC hH hl b1 b2)
theorem z_tald {k : Nat} {i : Int32} (hk : k < 3) (hi : vp_in i (zlen.getD k 0)) (hd : decode M.2.1 pc = .ok (.baload, 1)) (h : Z E M (pc + 1) ls (.int ((zbyt.getD k []).getD i.toNatClampNeg 0) :: st) s bud F) : Z E M pc ls (.int i :: .retAddr (100 + k) :: st) s bud F :=
  fun p e sx m args below meth c H locs cells slots la hC hH hl b1 b2 => va_tb hC.1 hC.2.1 (hC.2.2.2.2.2.2.2.2.1.2.2.1.1 k hk).2.2.2 hH.2.2.1 hi rfl hd (h p e sx m args below meth c H locs cells slots la hC hH hl b1 b2)
theorem z_tcs {idx : Nat} (hw : Cond.fieldLink M.1.cls idx "java/lang/String" "COMPACT_STRINGS" "Z" ∈ zALL) (hd : decode M.2.1 pc = .ok (.getstatic idx, 3)) (h : Z E M (pc + 3) ls (.int 1 :: st) s bud F) : Z E M pc ls st s bud F :=
  fun p e sx m args below meth c H locs cells slots la hC hH hl b1 b2 => va_gets hC.1 hC.2.1 hC.2.2.2.2.2.2.2.2.1.2.2.2.2.2.1 hH.2.2.1 hC.2.2.2.2.1 (hC.2.2.2.2.2.1 _ hw) (fun _ q => q) hd (h p e sx m args below meth c H locs cells slots la hC hH hl b1 b2)
theorem z_tsi {idx : Nat} (hw : Cond.fieldLink M.1.cls idx "jdk/internal/util/Preconditions" "SIOOBE_FORMATTER" "Ljava/util/function/BiFunction;" ∈ zALL) (hd : decode M.2.1 pc = .ok (.getstatic idx, 3)) (h : ∀ v : Value, v = .null ∨ v = .retAddr 200 → Z E M (pc + 3) ls (v :: st) s bud F) : Z E M pc ls st s bud F :=
  fun p e sx m args below meth c H locs cells slots la hC hH hl b1 b2 => by
    rcases hC.2.2.2.2.2.2.2.2.1.2.2.2.2.2.2.2.2.2 with hZ | hZ
    · exact va_gets hC.1 hC.2.1 hZ hH.2.2.1 hC.2.2.2.2.1 (hC.2.2.2.2.2.1 _ hw) (fun _ q => q) hd (h .null (Or.inl rfl) p e sx m args below meth c H locs cells slots la hC hH hl b1 b2)
    · exact va_gets hC.1 hC.2.1 hZ hH.2.2.1 hC.2.2.2.2.1 (hC.2.2.2.2.2.1 _ hw) (fun _ q => q) hd (h (.retAddr 200) (Or.inr rfl) p e sx m args below meth c H locs cells slots la hC hH hl b1 b2)
theorem z_tret {Q : Option Value → zS → Prop} {x : Int32} {ty : FieldType} (hd : decode M.2.1 pc = .ok (.ireturn, 1)) (hr : M.2.2.2.1 = some ty) (hn : narrow ty (.int x) = .int x) (h : Q (some (.int x)) s) : Z E M pc ls [.int x] s bud (zR1 E M Q) := by
  intro p e sx m args below meth c H locs cells slots la hC hH hl b1 b2
  refine W.widen (k := M.2.2.2.2.2.2.1) (n := M.2.2.2.2.2.2.2) (by omega) (by omega) ?_
  exact W.zret (ty := ty) hC.1 hC.2.1 (hC.2.2.1.trans hr) hn (fun t ht hW => ⟨⟨some (.int x), s, rfl, h, by rw [ht]; exact hH.1, hH.2.1, fun q => by rw [ht]; exact hH.2.2.2 q⟩, hH.2.2.1.F ht⟩) hH.2.2.1.2.2 hd hC.2.2.2.2.2.2.1
theorem z_callVT {M2 : zM} {Q : Option Value → zS → Prop} {idx n k : Nat} {As stk : List Value} (hct : Ct E M2 (.retAddr k :: As) s Q) (hm : zMT M2 n) (hl : Cond.methodLink M.1.cls idx M2.1 ∈ zALL) (hd : decode M.2.1 pc = .ok (.invokevirtual idx, 3)) (hR : zrm_ok M M2) (hstk : stk = As.reverse ++ .retAddr k :: st) (hn : As.length = n) (hst : zrest st) (hb1 : M2.2.2.2.2.2.2.1 ≤ bud.1) (hb2 : M2.2.2.2.2.2.2.2 ≤ bud.2) (hk : k < 3)
    (h : ∀ (v : Option Value) (t : zS), Q v t → Z E M (pc + 3) ls (v.toList ++ st) t (bud.1 - M2.2.2.2.2.2.2.1, bud.2 - M2.2.2.2.2.2.2.2) F) : Z E M pc ls stk s bud F := by
  subst hstk
  intro p e sx m args below meth c0 H locs cells slots la hC hH hv b1 b2
  have hts := hC.2.2.2.2.2.1
  obtain ⟨hm1, hm2, hm3⟩ := hm
  have R1 := va_runV (p := p) (e := e) (below := below) (meth := meth) (locs := locs) (cells := cells) (slots := slots) (g := F0 m pc la ((As.reverse ++ .retAddr k :: st).map (zv E))) (As := As.map (zv E)) (rest := st.map (zv E)) (b := zaS E k) (n := n) (C := "java/lang/String") ⟨hC.1, hC.2.1, hC.2.2.2.1, hC.2.2.2.2.1, hts⟩ hct ⟨zCallB hm1 hl hR hts, hts _ hm2, hts _ hm3⟩ ⟨zP.blind, vk_recv hC.2.2.2.2.2.2.2.2.1.2.2.1 hk hH.2.2.1, fun U hU hW => ⟨rfl, zP.of hH hC.2.2.2.2.2.2.2.2.1 hU hW⟩⟩ rfl (by rw [List.length_map]; exact hn) hv.1 (by simp [zv]) (lv_room (hst E)) hd ⟨show cells + _ ≤ M.2.2.2.2.2.2.1 by omega, show slots + _ ≤ M.2.2.2.2.2.2.2 by omega⟩
  exact z_run R1 hC hH hv b1 b2 hb1 hb2 h
theorem y_VTi {M2 : zM} {idx n k : Nat} {As stk : List Value} {q : Int32 × zS} (hct : Ci E M2 (.retAddr k :: As) s q.1 q.2) (hm : zMT M2 n) (hl : Cond.methodLink M.1.cls idx M2.1 ∈ zALL) (hd : decode M.2.1 pc = .ok (.invokevirtual idx, 3)) (hR : zrm_ok M M2) (h0 : M2.2.2.2.2.2.2 = (0, 0)) (hstk : stk = As.reverse ++ .retAddr k :: st) (hn : As.length = n) (hst : zrest st) (hk : k < 3) (h : Z E M (pc + 3) ls (.int q.1 :: st) q.2 bud F) : Z E M pc ls stk s bud F :=
  z_callVT hct hm hl hd hR hstk hn hst (by rw [h0]; exact Nat.zero_le _) (by rw [h0]; exact Nat.zero_le _) hk (fun v u hq => by obtain ⟨rfl, rfl⟩ := hq; rw [h0]; exact h)
end
/-! the JDK's methods -/
abbrev mJ0_coder_7d493 : zM := (yJ0_coder_7d493, cJ0_coder_7d493, 1, some .byte, 0, 0, 0, 0)
abbrev mJ0_isLatin1_aae02 : zM := (yJ0_isLatin1_aae02, cJ0_isLatin1_aae02, 1, some .boolean, 0, 0, 0, 0)
abbrev mJ3_checkIndex_8e157 : zM := (yJ3_checkIndex_8e157, cJ3_checkIndex_8e157, 3, some .int, 0, 0, 0, 0)
abbrev mJ0_checkIndex_df160 : zM := (yJ0_checkIndex_df160, cJ0_checkIndex_df160, 2, none, 1, 22, 0, 0)
abbrev mJ1_charAt_3b067 : zM := (yJ1_charAt_3b067, cJ1_charAt_3b067, 2, some .char, 2, 43, 0, 0)
abbrev mJ0_length_8abf5 : zM := (yJ0_length_8abf5, cJ0_length_8abf5, 1, some .int, 1, 20, 0, 0)
abbrev mJ0_charAt_5068e : zM := (yJ0_charAt_5068e, cJ0_charAt_5068e, 2, some .char, 3, 64, 0, 0)
theorem tl_v : Cond.fieldLink RJ0 9 "java/lang/String" "value" "[B" ∈ zALL := by decide +kernel
theorem tl_c : Cond.fieldLink RJ0 15 "java/lang/String" "coder" "B" ∈ zALL := by decide +kernel
theorem tl_s : Cond.fieldLink RJ0 38 "java/lang/String" "COMPACT_STRINGS" "Z" ∈ zALL := by decide +kernel
theorem tl_f : Cond.fieldLink RJ0 1053 "jdk/internal/util/Preconditions" "SIOOBE_FORMATTER" "Ljava/util/function/BiFunction;" ∈ zALL := by decide +kernel
theorem mtJ0_coder : zMT mJ0_coder_7d493 0 := ⟨⟨by decide +kernel, by decide +kernel, by decide, by decide, by decide +kernel⟩, by decide +kernel, by decide +kernel⟩
theorem mtJ0_isLatin1 : zMT mJ0_isLatin1_aae02 0 := ⟨⟨by decide +kernel, by decide +kernel, by decide, by decide, by decide +kernel⟩, by decide +kernel, by decide +kernel⟩
theorem mtJ0_length_8abf5 : zMT mJ0_length_8abf5 0 := ⟨⟨by decide +kernel, by decide +kernel, by decide, by decide, by decide +kernel⟩, by decide +kernel, by decide +kernel⟩
theorem mtJ0_charAt_5068e : zMT mJ0_charAt_5068e 1 := ⟨⟨by decide +kernel, by decide +kernel, by decide, by decide, by decide +kernel⟩, by decide +kernel, by decide +kernel⟩
theorem mqJ3_ck : zMl mJ3_checkIndex_8e157 3 := ⟨by decide +kernel, by decide +kernel, by decide, by decide, by decide +kernel⟩
theorem mqJ0_ck : zMl mJ0_checkIndex_df160 2 := ⟨by decide +kernel, by decide +kernel, by decide, by decide, by decide +kernel⟩
theorem mqJ1_ch : zMl mJ1_charAt_3b067 2 := ⟨by decide +kernel, by decide +kernel, by decide, by decide, by decide +kernel⟩
theorem msJ3_ck : Cond.static yJ3_checkIndex_8e157 ∈ zALL := by decide +kernel
theorem msJ0_ck : Cond.static yJ0_checkIndex_df160 ∈ zALL := by decide +kernel
theorem msJ1_ch : Cond.static yJ1_charAt_3b067 ∈ zALL := by decide +kernel
theorem mlJ0_335 : Cond.methodLink RJ0 335 yJ0_coder_7d493 ∈ zALL := by decide +kernel
theorem mlJ0_492 : Cond.methodLink RJ0 492 yJ0_isLatin1_aae02 ∈ zALL := by decide +kernel
theorem mlJ0_495 : Cond.methodLink RJ0 495 yJ1_charAt_3b067 ∈ zALL := by decide +kernel
theorem mlJ1_9 : Cond.methodLink RJ1 9 yJ0_checkIndex_df160 ∈ zALL := by decide +kernel
theorem mlJ0_1059 : Cond.methodLink RJ0 1059 yJ3_checkIndex_8e157 ∈ zALL := by decide +kernel
theorem zsh0 (x : Int32) : x >>> ((0 : Int32) &&& 31) = x := sb_shr0 x
section
variable {E : zE} {s : zS}
theorem okJ0_coder {k : Nat} (hk : k < 3) : Ci E mJ0_coder_7d493 [.retAddr k] s 0 s := by
  refine Ct.of (ls := [(0, .retAddr k)]) (by decide) rfl (Nat.le_of_ble_eq_true rfl) ?_
  refine z_tcs (pc := 0) tl_s dJ0_coder_7d493_0 ?_
  refine z_if_eq (pc := 3) (tgt := 13) dJ0_coder_7d493_3 (by decide) (fun hc => absurd hc (by decide)) (fun _ => ?_)
  refine z_tload_n (pc := 6) 0 rfl dJ0_coder_7d493_6 rfl ?_
  refine z_tcod (pc := 7) hk tl_c dJ0_coder_7d493_7 ?_
  refine z_goto (pc := 10) (tgt := 14) dJ0_coder_7d493_10 (by decide) ?_
  exact z_tret (pc := 14) dJ0_coder_7d493_14 rfl rfl ⟨rfl, rfl⟩
theorem okJ0_isLatin1 {k : Nat} (hk : k < 3) : Ci E mJ0_isLatin1_aae02 [.retAddr k] s 1 s := by
  refine Ct.of (ls := [(0, .retAddr k)]) (by decide) rfl (Nat.le_of_ble_eq_true rfl) ?_
  refine z_tcs (pc := 0) tl_s dJ0_isLatin1_aae02_0 ?_
  refine z_if_eq (pc := 3) (tgt := 17) dJ0_isLatin1_aae02_3 (by decide) (fun hc => absurd hc (by decide)) (fun _ => ?_)
  refine z_tload_n (pc := 6) 0 rfl dJ0_isLatin1_aae02_6 rfl ?_
  refine z_tcod (pc := 7) hk tl_c dJ0_isLatin1_aae02_7 ?_
  refine z_if_ne (pc := 10) (tgt := 17) dJ0_isLatin1_aae02_10 (by decide) (fun hc => absurd rfl hc) (fun _ => ?_)
  refine z_iconst (pc := 13) (v := 1) dJ0_isLatin1_aae02_13 (by decide) ?_
  refine z_goto (pc := 14) (tgt := 18) dJ0_isLatin1_aae02_14 (by decide) ?_
  exact z_tret (pc := 18) dJ0_isLatin1_aae02_18 rfl rfl ⟨rfl, rfl⟩
theorem ok_sLn {k : Nat} {q : Int32 × zS} (h : sLn k s = some q) : Ci E mJ0_length_8abf5 [.retAddr k] s q.1 q.2 := by
  obtain ⟨hk, rfl⟩ := opt_i h
  refine Ct.of (ls := [(0, .retAddr k)]) (by decide) rfl (Nat.le_of_ble_eq_true rfl) ?_
  refine z_tload_n (pc := 0) 0 rfl dJ0_length_8abf5_0 rfl ?_
  refine z_tval (pc := 1) hk tl_v dJ0_length_8abf5_1 ?_
  refine z_tlen (pc := 4) hk dJ0_length_8abf5_4 ?_
  refine z_tload_n (pc := 5) 0 rfl dJ0_length_8abf5_5 rfl ?_
  refine y_VTi (pc := 6) (M2 := mJ0_coder_7d493) (As := []) (q := (0, s)) (okJ0_coder hk) mtJ0_coder mlJ0_335 dJ0_length_8abf5_6 ⟨by decide, by decide⟩ rfl rfl rfl (fun _ => Nat.le_of_ble_eq_true rfl) hk ?_
  refine z_ishr (pc := 9) dJ0_length_8abf5_9 ?_
  rw [zsh0]
  exact z_iret (pc := 10) dJ0_length_8abf5_10 rfl ⟨rfl, rfl⟩
theorem okJ3_ck {v : Value} (hv : v = .null ∨ v = .retAddr 200) {i n : Int32} (h1 : ¬ i < 0) (h2 : i < n) : Ci E mJ3_checkIndex_8e157 [.int i, .int n, v] s i s := by
  have hcat : ∀ E : zE, lv_args 0 ([Value.int i, .int n, v].map (zv E)) = [(0, Value.int i), (1, .int n), (2, v)].map (zlv E) ∧ (lg_sl ([Value.int i, .int n, v].map (zv E))).length ≤ 3 := by
    intro E
    rcases hv with rfl | rfl <;> exact ⟨rfl, Nat.le_of_ble_eq_true rfl⟩
  refine Ct.of (ls := [(0, .int i), (1, .int n), (2, v)]) (by decide) (hcat E).1 (hcat E).2 ?_
  refine z_iload_n (pc := 0) 0 rfl dJ3_checkIndex_8e157_0 rfl ?_
  refine z_if_lt (pc := 1) (tgt := 9) dJ3_checkIndex_8e157_1 (by decide) (fun hc => absurd hc h1) (fun _ => ?_)
  refine z_iload_n (pc := 4) 0 rfl dJ3_checkIndex_8e157_4 rfl ?_
  refine z_iload_n (pc := 5) 1 rfl dJ3_checkIndex_8e157_5 rfl ?_
  refine z_icmp_lt (pc := 6) (tgt := 16) dJ3_checkIndex_8e157_6 (by decide) (fun _ => ?_) (fun hc => absurd h2 hc)
  refine z_iload_n (pc := 16) 0 rfl dJ3_checkIndex_8e157_16 rfl ?_
  exact z_iret (pc := 17) dJ3_checkIndex_8e157_17 rfl ⟨rfl, rfl⟩
theorem okJ0_ck {i n : Int32} (h1 : ¬ i < 0) (h2 : i < n) : Cv E mJ0_checkIndex_df160 [.int i, .int n] s s := by
  refine Ct.of (ls := [(0, .int i), (1, .int n)]) (by decide) rfl (Nat.le_of_ble_eq_true rfl) ?_
  refine z_iload_n (pc := 0) 0 rfl dJ0_checkIndex_df160_0 rfl ?_
  refine z_iload_n (pc := 1) 1 rfl dJ0_checkIndex_df160_1 rfl ?_
  refine z_tsi (pc := 2) tl_f dJ0_checkIndex_df160_2 (fun v hv => ?_)
  refine y_Si (pc := 5) (M2 := mJ3_checkIndex_8e157) (As := [.int i, .int n, v]) (q := (i, s)) (okJ3_ck hv h1 h2) mqJ3_ck msJ3_ck mlJ0_1059 dJ0_checkIndex_df160_5 ⟨by decide, by decide⟩ rfl rfl rfl zrest0 ?_
  refine z_pop (pc := 8) dJ0_checkIndex_df160_8 (fun _ => rfl) ?_
  exact z_ret (pc := 9) dJ0_checkIndex_df160_9 rfl ⟨rfl, rfl⟩
theorem okJ1_ch {k : Nat} (hk : k < 3) {i : Int32} (hi : vp_in i (zlen.getD k 0)) : Ci E mJ1_charAt_3b067 [.retAddr (100 + k), .int i] s ((((zbyt.getD k []).getD i.toNatClampNeg 0) &&& 255).toUInt32 % 65536).toInt32 s := by
  have hL : zlen.getD k 0 < 2 ^ 31 := by
    match k, hk with
    | 0, _ => decide
    | 1, _ => decide
    | 2, _ => decide
  obtain ⟨j, hj, rfl⟩ := vp_in_of hi hL
  have h1 : ¬ nI j < 0 := nI_pos (by omega)
  have h2 : nI j < nI (zlen.getD k 0) := nI_lt hj hL
  refine Ct.of (ls := [(0, .retAddr (100 + k)), (1, .int (nI j))]) (by decide) rfl (Nat.le_of_ble_eq_true rfl) ?_
  refine z_iload_n (pc := 0) 1 rfl dJ1_charAt_3b067_0 rfl ?_
  refine z_tload_n (pc := 1) 0 rfl dJ1_charAt_3b067_1 rfl ?_
  refine z_tlen (pc := 2) hk dJ1_charAt_3b067_2 ?_
  refine y_S (pc := 3) (M2 := mJ0_checkIndex_df160) (As := [.int (nI j), .int (nI (zlen.getD k 0))]) (okJ0_ck h1 h2) mqJ0_ck msJ0_ck mlJ1_9 dJ1_charAt_3b067_3 ⟨by decide, by decide⟩ rfl rfl rfl zrest0 ?_
  refine z_tload_n (pc := 6) 0 rfl dJ1_charAt_3b067_6 rfl ?_
  refine z_iload_n (pc := 7) 1 rfl dJ1_charAt_3b067_7 rfl ?_
  refine z_tald (pc := 8) hk hi dJ1_charAt_3b067_8 ?_
  refine z_sipush (pc := 9) (v := 255) dJ1_charAt_3b067_9 (by decide) ?_
  refine z_iand (pc := 12) dJ1_charAt_3b067_12 ?_
  refine z_i2c (pc := 13) dJ1_charAt_3b067_13 ?_
  exact z_tret (pc := 14) dJ1_charAt_3b067_14 rfl (pk_nc _) ⟨rfl, rfl⟩
theorem ok_sCh {k : Nat} {i : Int32} {q : Int32 × zS} (h : sCh k i s = some q) : Ci E mJ0_charAt_5068e [.retAddr k, .int i] s q.1 q.2 := by
  obtain ⟨⟨hk, hi⟩, rfl⟩ := opt_i h
  refine Ct.of (ls := [(0, .retAddr k), (1, .int i)]) (by decide) rfl (Nat.le_of_ble_eq_true rfl) ?_
  refine z_tload_n (pc := 0) 0 rfl dJ0_charAt_5068e_0 rfl ?_
  refine y_VTi (pc := 1) (M2 := mJ0_isLatin1_aae02) (As := []) (q := (1, s)) (okJ0_isLatin1 hk) mtJ0_isLatin1 mlJ0_492 dJ0_charAt_5068e_1 ⟨by decide, by decide⟩ rfl rfl rfl zrest0 hk ?_
  refine z_if_eq (pc := 4) (tgt := 16) dJ0_charAt_5068e_4 (by decide) (fun hc => absurd (show (1 : Int32) = 0 from hc) (by decide)) (fun _ => ?_)
  refine z_tload_n (pc := 7) 0 rfl dJ0_charAt_5068e_7 rfl ?_
  refine z_tval (pc := 8) hk tl_v dJ0_charAt_5068e_8 ?_
  refine z_iload_n (pc := 11) 1 rfl dJ0_charAt_5068e_11 rfl ?_
  refine y_Si (pc := 12) (M2 := mJ1_charAt_3b067) (As := [.retAddr (100 + k), .int i]) (q := (_, s)) (okJ1_ch hk hi) mqJ1_ch msJ1_ch mlJ0_495 dJ0_charAt_5068e_12 ⟨by decide, by decide⟩ rfl rfl rfl zrest0 ?_
  exact z_tret (pc := 15) dJ0_charAt_5068e_15 rfl (pk_nc _) ⟨rfl, rfl⟩
end
