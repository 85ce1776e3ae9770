/-! New cells, calls, answers. -/
theorem znew_n (s : zS) (c len : Nat) : zn (znew s c len) = zn s + 1 := rfl
theorem znew_K (s : zS) (c len a : Nat) : zK (znew s c len) a = if a = zn s + 1 then (c, len) else zK s a := rfl
theorem znew_I (s : zS) (c len a j : Nat) : zI (znew s c len) a j = if a = zn s + 1 then 0 else zI s a j := rfl
theorem znew_R (s : zS) (c len a j : Nat) : zR (znew s c len) a j = if a = zn s + 1 then 0 else zR s a j := rfl
theorem znew_J (s : zS) (c len a j : Nat) : zJ (znew s c len) a j = if a = zn s + 1 then 0 else zJ s a j := rfl
theorem zws_new {E : zE} {s : zS} {c len : Nat} : zws E (znew s c len) = zws E s ++ [(zb E + (zn s + 1), zcell E (znew s c len) (zn s + 1))] := by
  unfold zws
  rw [znew_n, List.range_succ, List.map_append]
  congr 1
  apply List.map_congr_left
  intro i hi
  have hi : i < zn s := List.mem_range.mp hi
  rw [zcell_same (s := s) (t := znew s c len) (a := i + 1) (by rw [znew_K, if_neg (by omega)]) (fun j => by rw [znew_I, if_neg (by omega)]) (fun j => by rw [znew_R, if_neg (by omega)]) (fun j => by rw [znew_J, if_neg (by omega)])]
section
variable {E : zE} {M : zM} {pc : Nat} {ls : List (Nat × Value)} {st : List Value} {s : zS} {bud : Nat × Nat} {F : zF}
/-- the heap behind a new cell -/
theorem zH_new {c len : Nat} {sx : State} {H H1 : Heap} {locs : List Loc} (hal : zal s = true) (hH : zH E s sx H locs) (hb : zb E < sx.heap.size) (z : H1.size = H.size + 1) (o1 : ∀ q, q < H.size → H1[q]? = H[q]?) (hc : va_at (zD E) vwCl (zb E + (zn s + 1), zcell E (znew s c len) (zn s + 1)) H1) : zH E (znew s c len) sx H1 locs := by
  obtain ⟨hP, hD, hS, hz⟩ := hH
  have hz := hz hal
  have hq : zb E + (zn s + 1) = H.size := by omega
  refine ⟨?_, ?_, ⟨Nat.le_trans hS.1 (by omega), fun x h1 h2 => (o1 x (Nat.lt_of_lt_of_le h1 hS.1)).trans (hS.2.1 x h1 h2), hS.2.2⟩, fun _ => by rw [znew_n, z]; omega⟩
  · rw [zws_new]
    refine (hP.kept (fun k x hx => o1 x.1 (hP k x hx).lt)).app (fun k x hx => ?_)
    have hk : k < 1 := (List.getElem?_eq_some_iff.mp hx).1
    rw [show k = 0 by omega] at hx
    cases hx
    exact hc
  · rw [zws_new]
    exact hD.push hP hq (by show zb E < _; omega)
/-- new C -/
def zNL (own : String) (idx c : Nat) : Prop := c < 11 ∧ Cond.classLink own idx (zC1 c) ∈ zALL ∧ Cond.instantiable (zC1 c) (zN c) ∈ zALL ∧ Cond.initialized (zC1 c) ∈ zALL
theorem zdef {c k : Nat} (hc : c < 11) (hk : k < zN c) (s : zS) (E : zE) (r : Nat) (hI : ∀ j, zI s r j = 0) (hR : ∀ j, zR s r j = 0) (hd : ∀ c, c < 11 → ∀ k, k < zN c → defaultValue (zty c k) = if zrt (zty c k) = true then .null else .int 0) : defaultValue (zty c k) = vp_V (zfs E s c r) k := by
  unfold vp_V
  rw [List.getD_eq_getElem?_getD, zfs_at hk]
  show _ = zfv E s c r k
  unfold zfv
  rw [hd c hc k hk, hI, hR]
  rfl
theorem zdefs : ∀ c, c < 11 → ∀ k, k < zN c → defaultValue (zty c k) = if zrt (zty c k) = true then .null else .int 0 := by decide +kernel
theorem z_new {idx c : Nat} (hN : zNL M.1.cls idx c) (hd : decode M.2.1 pc = .ok (.new idx, 3)) (hal : zal s = true) (hb1 : 1 ≤ bud.1) (hb2 : zN c ≤ bud.2) (h : Z E M (pc + 3) ls (.ref (zn s + 1) :: st) (znew s c 0) (bud.1 - 1, bud.2 - zN c) F) : Z E M pc ls st s bud F := by
  intro p e sx m args below meth c0 H locs cells slots la hC hH hl b1 b2
  obtain ⟨hc, w1, w2, w3⟩ := hN
  obtain ⟨g1, g2, g3⟩ := zcls c hc
  have hz := hH.2.2.2 hal
  have hKn := hC.2.2.2.2.2.2.2.2.1.2.1.1 c _ g1
  have hts := hC.2.2.2.2.2.1
  refine W.newcK hC.1 hC.2.1 hC.2.2.2.2.1 (hts _ w1) (hts _ w2) (hts _ w3) rfl hd (show cells + 1 ≤ M.2.2.2.2.2.2.1 by omega) (show slots + zN c ≤ M.2.2.2.2.2.2.2 by omega) hKn.2.1 (h := zb E + (zn s + 1)) (by omega) fun H1 kC hkC e1 z1 o1 => ?_
  refine h p e sx m args below meth c0 H1 locs (cells + 1) (slots + zN c) la hC (zH_new hal hH hC.2.2.2.2.2.2.2.2.1.1 (by omega) (fun q hq => o1 q (by omega)) ?_) hl (by show _ + (bud.1 - 1) ≤ _; omega) (by show _ + (bud.2 - zN c) ≤ _; omega)
  rw [zcell_obj (s := znew s c 0) hc (by rw [znew_K, if_pos rfl])]
  exact ⟨_, g1, (u_born (zty c) hts (zin c hc) hKn hkC e1 g2).to (fun j hj => zdef hc hj _ E _ (fun q => by rw [znew_I, if_pos rfl]) (fun q => by rw [znew_R, if_pos rfl]) zdefs)⟩
/-- new byte[], int[], boolean[] -/
theorem z_newarr {c : Nat} {at0 : ArrayType} {ty : FieldType} {n : Int32} {t0 : Nat} (hw : Cond.arrayClass (newarray.typeOf at0) ∈ zALL) (hty : newarray.typeOf at0 = ty) (h1 : 11 ≤ c) (h2 : c ≠ 14) (hdf : defaultValue ty = .int 0) (ht : ∀ E : zE, (ztys E)[t0]? = some (zcy E c, ty)) (hRA : ∀ (U : State) (cA : ClassId), va_RA U cA ty → U.vm.findClass ("[" ++ ty.toString) = some cA)
    (hd : decode M.2.1 pc = .ok (.newarray at0, 2)) (hal : zal s = true) (hn : ¬ n < 0) (hby : n.toNatClampNeg * componentBytes ty ≤ 536870912) (hb1 : 1 ≤ bud.1) (hb2 : n.toNatClampNeg ≤ bud.2) (h : Z E M (pc + 2) ls (.ref (zn s + 1) :: st) (znew s c n.toNatClampNeg) (bud.1 - 1, bud.2 - n.toNatClampNeg) F) : Z E M pc ls (.int n :: st) s bud F := by
  intro p e sx m args below meth c0 H locs cells slots la hC hH hl b1 b2
  subst hty
  have hz := hH.2.2.2 hal
  have hts := hC.2.2.2.2.2.1
  have hKt := hC.2.2.2.2.2.2.2.2.1.2.1.2 t0 _ (ht E)
  refine va_newaK hC.1 hC.2.1 (hts _ hw) rfl hd rfl hn rfl hby (show cells + 1 ≤ M.2.2.2.2.2.2.1 by omega) (show slots + n.toNatClampNeg ≤ M.2.2.2.2.2.2.2 by omega) (h := zb E + (zn s + 1)) (by omega) fun H1 cA e1 z1 o1 hAr hNm => ?_
  have hcA : cA = zcy E c := Option.some.inj (hNm.symm.trans (hRA _ _ hKt.2))
  subst hcA
  refine h p e sx m args below meth c0 H1 locs (cells + 1) (slots + n.toNatClampNeg) la hC (zH_new hal hH hC.2.2.2.2.2.2.2.2.1.1 (by omega) (fun q hq => o1 q (by omega)) ?_) hl (by show _ + (bud.1 - 1) ≤ _; omega) (by show _ + (bud.2 - n.toNatClampNeg) ≤ _; omega)
  rw [zcell_arr (s := znew s c n.toNatClampNeg) h1 h2 (by rw [znew_K, if_pos rfl])]
  show H1[zb E + (zn s + 1)]? = some (vp_cell _ _)
  rw [e1, vp_cell_i, hdf, znew_K, if_pos rfl]
  congr 2
  funext j
  rw [znew_I, if_pos rfl]
/-! answers -/
theorem z_ret {Q : Option Value → zS → Prop} (hd : decode M.2.1 pc = .ok (.return_, 1)) (hr : M.2.2.2.1 = none) (h : Q none s) : Z E M pc ls [] s bud (zR1 E M Q) := by
  intro p e sx m args below meth c H locs cells slots la hC hH hl b1 b2
  refine W.widen (k := M.2.2.2.2.2.2.1) (n := M.2.2.2.2.2.2.2) (by omega) (by omega) ?_
  exact W.vret hC.1 hC.2.1 (hC.2.2.1.trans hr) (fun t ht hW => ⟨⟨none, s, rfl, h, by rw [ht]; exact hH.1, hH.2.1, fun q => by rw [ht]; exact hH.2.2.2 q⟩, hH.2.2.1.F ht⟩) hH.2.2.1.2.2 hd hC.2.2.2.2.2.2.1
theorem z_iret {Q : Option Value → zS → Prop} {x : Int32} (hd : decode M.2.1 pc = .ok (.ireturn, 1)) (hr : M.2.2.2.1 = some .int) (h : Q (some (.int x)) s) : Z E M pc ls [.int x] s bud (zR1 E M Q) := by
  intro p e sx m args below meth c H locs cells slots la hC hH hl b1 b2
  refine W.widen (k := M.2.2.2.2.2.2.1) (n := M.2.2.2.2.2.2.2) (by omega) (by omega) ?_
  exact W.iret hC.1 hC.2.1 (hC.2.2.1.trans hr) (fun t ht hW => ⟨⟨some (.int x), s, rfl, h, by rw [ht]; exact hH.1, hH.2.1, fun q => by rw [ht]; exact hH.2.2.2 q⟩, hH.2.2.1.F ht⟩) hH.2.2.1.2.2 hd hC.2.2.2.2.2.2.1
theorem z_zret {Q : Option Value → zS → Prop} {x : Int32} (hd : decode M.2.1 pc = .ok (.ireturn, 1)) (hr : M.2.2.2.1 = some .boolean) (hx : zbl x) (h : Q (some (.int x)) s) : Z E M pc ls [.int x] s bud (zR1 E M Q) := by
  intro p e sx m args below meth c H locs cells slots la hC hH hl b1 b2
  refine W.widen (k := M.2.2.2.2.2.2.1) (n := M.2.2.2.2.2.2.2) (by omega) (by omega) ?_
  exact W.zret (ty := .boolean) hC.1 hC.2.1 (hC.2.2.1.trans hr) (by rcases hx with rfl | rfl <;> rfl) (fun t ht hW => ⟨⟨some (.int x), s, rfl, h, by rw [ht]; exact hH.1, hH.2.1, fun q => by rw [ht]; exact hH.2.2.2 q⟩, hH.2.2.1.F ht⟩) hH.2.2.1.2.2 hd hC.2.2.2.2.2.2.1
/-! calls -/
/-- behind any call -/
theorem z_run {M2 : zM} {Q : Option Value → zS → Prop} {av : Array Value} {st0 : List Value} {p : Program} {e : Env} {sx : State} {m : MethodId} {args : Array Value} {below : List Frame} {meth : Method} {c : Code} {H : Heap} {locs : List Loc} {cells slots : Nat} {la : Array Slot}
    (hr : va_Run p (zl E) e (zrm M) sx m args below meth c H locs cells slots M2.2.2.2.2.2.2.1 M2.2.2.2.2.2.2.2 (F0 m pc la st0) (st.map (zv E)) (zQ E Q av) (zA E)) (hC : zC E M p sx m args meth c) (hH : zH E s sx H locs) (hl : lv_has la M.2.2.1 (ls.map (zlv E))) (b1 : cells + bud.1 ≤ M.2.2.2.2.2.2.1) (b2 : slots + bud.2 ≤ M.2.2.2.2.2.2.2) (hb1 : M2.2.2.2.2.2.2.1 ≤ bud.1) (hb2 : M2.2.2.2.2.2.2.2 ≤ bud.2)
    (h : ∀ (v : Option Value) (t : zS), Q v t → Z E M (pc + 3) ls (v.toList ++ st) t (bud.1 - M2.2.2.2.2.2.2.1, bud.2 - M2.2.2.2.2.2.2.2) F) : W p (zl E) e (zrm M) sx m args below meth c H locs cells slots (F below args sx) (F0 m pc la st0) := by
  intro T hT X
  obtain ⟨v, st₀, t, T', L, h0, X', hL, e1, e2, ⟨⟨v', s', hv, hq, hP1, hD1, hz1⟩, hF⟩, stp⟩ := hr T hT X
  obtain ⟨hP, hD, hS, hz⟩ := hH
  obtain ⟨hF1, hF2⟩ := hF
  rw [h0] at hF1 hF2
  have hv : v = v'.map (zv E) := by injection hv
  have hS' : va_S (zA E) sx.heap t.heap (locs ++ L) := by
    refine ⟨Nat.le_trans hS.1 hF1, fun q h1 h2 => by rw [hF2 q (Nat.lt_of_lt_of_le h1 hS.1) h2]; exact hS.2.1 q h1 h2, fun q hq' => ?_⟩
    rcases List.mem_append.mp hq' with h | h
    · exact hS.2.2 q h
    · exact hL q h
  obtain ⟨t2, a1, c1⟩ := h v' s' hq p e sx m args below meth c t.heap (locs ++ L) (cells + M2.2.2.2.2.2.2.1) (slots + M2.2.2.2.2.2.2.2) la hC ⟨hP1, hD1, hS', hz1⟩ hl (by show _ + (bud.1 - _) ≤ _; omega) (by show _ + (bud.2 - _) ≤ _; omega) T' e1 X'
  refine ⟨t2, stp t2 ?_, c1⟩
  rw [hv]
  have : (v'.map (zv E)).toList ++ st.map (zv E) = (v'.toList ++ st).map (zv E) := by cases v' <;> simp
  show Steps _ _ _ (T'.setTop { F0 m pc la st0 with pc := pc + 3, stack := (v'.map (zv E)).toList ++ st.map (zv E) }) t2
  rw [this]
  exact a1
/-- what is asked of a callee: n arguments -/
def zMl (M2 : zM) (n : Nat) : Prop := Cond.code M2.1 M2.2.1 M2.2.2.1 M2.2.2.2.1 ∈ zALL ∧ Cond.initialized M2.1.cls ∈ zALL ∧ M2.1.cls ≠ "java/lang/invoke/MethodHandle" ∧ M2.1.cls ≠ "java/lang/invoke/VarHandle" ∧ (parseMethodDescriptor M2.1.desc).map (fun d => d.parameters.length) = some n
def zMV (M2 : zM) (c n : Nat) : Prop := zMl M2 n ∧ Cond.instanceMethod M2.1 ∈ zALL ∧ Cond.selects (zC1 c) M2.1 M2.1 ∈ zALL ∧ c < 11
def zrm_ok (M M2 : zM) : Prop := M2.2.2.2.2.1 + 1 ≤ M.2.2.2.2.1 ∧ 8 + (M2.2.2.1 + 11) + M2.2.2.2.2.2.1 ≤ M.2.2.2.2.2.1
def zrest (st : List Value) : Prop := ∀ E : zE, ((st.map (zv E)).map fun v => v.category).sum ≤ 8
theorem zGood (M2 : zM) (h : Cond.code M2.1 M2.2.1 M2.2.2.1 M2.2.2.2.1 ∈ zALL) : GoodIn zALL (zW M2) := fun w hw => by
  rcases List.mem_cons.mp hw with rfl | h'
  · exact zALL_good _ h
  · exact zALL_good _ h'
theorem zCallB {M2 : zM} {n idx : Nat} {sx : State} {args : Array Value} (hm : zMl M2 n) (hl : Cond.methodLink M.1.cls idx M2.1 ∈ zALL) (hR : zrm_ok M M2) (hts : ∀ w ∈ zALL, w.before args sx = true) : CallB (zrm M) sx args M.1.cls idx M2.1 M2.2.1 M2.2.2.1 M2.2.2.2.1 (zW M2) (zrm M2) M2.2.2.2.2.2.2.1 M2.2.2.2.2.2.2.2 n :=
  callB_of n hts (zGood M2 hm.1) rfl rfl rfl (hts _ hm.2.1) (hts _ hl) hm.2.2 hR
theorem z_callV {M2 : zM} {Q : Option Value → zS → Prop} {idx c n r : Nat} {As stk : List Value} (hct : Ct E M2 (.ref r :: As) s Q) (hm : zMV M2 c n) (hl : Cond.methodLink M.1.cls idx M2.1 ∈ zALL) (hd : decode M.2.1 pc = .ok (.invokevirtual idx, 3)) (hR : zrm_ok M M2) (hstk : stk = As.reverse ++ .ref r :: st) (hn : As.length = n) (hst : zrest st) (hb1 : M2.2.2.2.2.2.2.1 ≤ bud.1) (hb2 : M2.2.2.2.2.2.2.2 ≤ bud.2) (hr : zok s c r)
    (h : ∀ (v : Option Value) (t : zS), Q v t → Z E M (pc + 3) ls (v.toList ++ st) t (bud.1 - M2.2.2.2.2.2.2.1, bud.2 - M2.2.2.2.2.2.2.2) F) : Z E M pc ls stk s bud F := by
  subst hstk
  intro p e sx m args below meth c0 H locs cells slots la hC hH hv b1 b2
  have hts := hC.2.2.2.2.2.1
  obtain ⟨hm1, hm2, hm3, hc⟩ := hm
  obtain ⟨g1, -⟩ := zcls c hc
  have R1 := va_runV (p := p) (e := e) (below := below) (meth := meth) (locs := locs) (cells := cells) (slots := slots) (g := F0 m pc la ((As.reverse ++ .ref r :: st).map (zv E))) (As := As.map (zv E)) (rest := st.map (zv E)) (b := zb E + r) (n := n) (C := zC1 c) ⟨hC.1, hC.2.1, hC.2.2.2.1, hC.2.2.2.2.1, hts⟩ hct ⟨zCallB hm1 hl hR hts, hts _ hm2, hts _ hm3⟩ ⟨zP.blind, va_recv hC.2.2.2.2.2.2.2.2.1.2.1 hH.1 g1 (zws_obj hc hr), fun U hU hW => ⟨rfl, zP.of hH hC.2.2.2.2.2.2.2.2.1 hU hW⟩⟩ rfl (by rw [List.length_map]; exact hn) hv.1 (by simp [zv]) (lv_room (hst E)) hd ⟨show cells + _ ≤ M.2.2.2.2.2.2.1 by omega, show slots + _ ≤ M.2.2.2.2.2.2.2 by omega⟩
  exact z_run R1 hC hH hv b1 b2 hb1 hb2 h
theorem z_callS {M2 : zM} {Q : Option Value → zS → Prop} {idx n : Nat} {As stk : List Value} (hct : Ct E M2 As s Q) (hm : zMl M2 n) (hms : Cond.static M2.1 ∈ zALL) (hl : Cond.methodLink M.1.cls idx M2.1 ∈ zALL) (hd : decode M.2.1 pc = .ok (.invokestatic idx, 3)) (hR : zrm_ok M M2) (hstk : stk = As.reverse ++ st) (hn : As.length = n) (hst : zrest st) (hb1 : M2.2.2.2.2.2.2.1 ≤ bud.1) (hb2 : M2.2.2.2.2.2.2.2 ≤ bud.2)
    (h : ∀ (v : Option Value) (t : zS), Q v t → Z E M (pc + 3) ls (v.toList ++ st) t (bud.1 - M2.2.2.2.2.2.2.1, bud.2 - M2.2.2.2.2.2.2.2) F) : Z E M pc ls stk s bud F := by
  subst hstk
  intro p e sx m args below meth c0 H locs cells slots la hC hH hv b1 b2
  have hts := hC.2.2.2.2.2.1
  have R1 := va_runS (p := p) (e := e) (below := below) (meth := meth) (locs := locs) (cells := cells) (slots := slots) (g := F0 m pc la ((As.reverse ++ st).map (zv E))) (As := As.map (zv E)) (rest := st.map (zv E)) (n := n) ⟨hC.1, hC.2.1, hC.2.2.2.1, hC.2.2.2.2.1, hts⟩ hct ⟨zCallB hm hl hR hts, hts _ hms⟩ ⟨zP.blind, fun U hU hW => ⟨rfl, zP.of hH hC.2.2.2.2.2.2.2.2.1 hU hW⟩⟩ rfl (by rw [List.length_map]; exact hn) hv.1 (by simp) (lv_room (hst E)) hd ⟨show cells + _ ≤ M.2.2.2.2.2.2.1 by omega, show slots + _ ≤ M.2.2.2.2.2.2.2 by omega⟩
  exact z_run R1 hC hH hv b1 b2 hb1 hb2 h
/-- a constructor -/
theorem z_callI {M2 : zM} {Q : Option Value → zS → Prop} {idx n r : Nat} {As stk : List Value} (hct : Ct E M2 (.ref r :: As) s Q) (hm : zMl M2 n) (hmi : Cond.instanceMethod M2.1 ∈ zALL) (hnm : M2.1.name = "<init>") (hrt : M2.2.2.2.1 = none) (hl : Cond.methodLink M.1.cls idx M2.1 ∈ zALL) (hd : decode M.2.1 pc = .ok (.invokespecial idx, 3)) (hR : zrm_ok M M2) (hstk : stk = As.reverse ++ .ref r :: st) (hn : As.length = n) (hst : zrest st) (hb1 : M2.2.2.2.2.2.2.1 ≤ bud.1) (hb2 : M2.2.2.2.2.2.2.2 ≤ bud.2)
    (h : ∀ (v : Option Value) (t : zS), Q v t → Z E M (pc + 3) ls (v.toList ++ st) t (bud.1 - M2.2.2.2.2.2.2.1, bud.2 - M2.2.2.2.2.2.2.2) F) : Z E M pc ls stk s bud F := by
  subst hstk
  intro p e sx m args below meth c0 H locs cells slots la hC hH hv b1 b2
  have hts := hC.2.2.2.2.2.1
  have cb := zCallB (M := M) (idx := idx) hm hl hR hts
  rw [hrt] at cb
  have R1 := va_runI (p := p) (e := e) (below := below) (meth := meth) (locs := locs) (cells := cells) (slots := slots) (g := F0 m pc la ((As.reverse ++ .ref r :: st).map (zv E))) (As := As.map (zv E)) (rest := st.map (zv E)) (b := zb E + r) (n := n) ⟨hC.1, hC.2.1, hC.2.2.2.1, hC.2.2.2.2.1, hts⟩ hct ⟨cb, hnm, hts _ hmi⟩ ⟨zP.blind, fun U hU hW => ⟨rfl, zP.of hH hC.2.2.2.2.2.2.2.2.1 hU hW⟩⟩ rfl (by rw [List.length_map]; exact hn) hv.1 (by simp [zv]) (lv_room (hst E)) hd ⟨show cells + _ ≤ M.2.2.2.2.2.2.1 by omega, show slots + _ ≤ M.2.2.2.2.2.2.2 by omega⟩
  exact z_run R1 hC hH hv b1 b2 hb1 hb2 h
/-- a nest mate's private constructor -/
theorem z_callIN {M2 : zM} {Q : Option Value → zS → Prop} {idx n r : Nat} {As stk : List Value} (hct : Ct E M2 (.ref r :: As) s Q) (hm : zMl M2 n) (hmi : Cond.instanceMethod M2.1 ∈ zALL) (hnm : M2.1.name = "<init>") (hrt : M2.2.2.2.1 = none) (hl : ∀ (E : zE) (U : State), zX E U → va_Nw (.methodLinkNest M.1.cls idx M2.1 RX9) U) (hd : decode M.2.1 pc = .ok (.invokespecial idx, 3)) (hR : zrm_ok M M2) (hstk : stk = As.reverse ++ .ref r :: st) (hn : As.length = n) (hst : zrest st) (hb1 : M2.2.2.2.2.2.2.1 ≤ bud.1) (hb2 : M2.2.2.2.2.2.2.2 ≤ bud.2)
    (h : ∀ (v : Option Value) (t : zS), Q v t → Z E M (pc + 3) ls (v.toList ++ st) t (bud.1 - M2.2.2.2.2.2.2.1, bud.2 - M2.2.2.2.2.2.2.2) F) : Z E M pc ls stk s bud F := by
  subst hstk
  intro p e sx m args below meth c0 H locs cells slots la hC hH hv b1 b2
  have hts := hC.2.2.2.2.2.1
  have cb : va_CN (zrm M) sx args M.1.cls idx M2.1 RX9 M2.2.1 M2.2.2.1 M2.2.2.2.1 (zW M2) (zrm M2) M2.2.2.2.2.2.2.1 M2.2.2.2.2.2.2.2 n := va_cnB n hts (zGood M2 hm.1) rfl rfl rfl (hl E sx hC.2.2.2.2.2.2.2.2.1.2.2) (hts _ hm.2.1) hm.2.2 hR
  rw [hrt] at cb
  have R1 := va_runIN (p := p) (e := e) (below := below) (meth := meth) (locs := locs) (cells := cells) (slots := slots) (g := F0 m pc la ((As.reverse ++ .ref r :: st).map (zv E))) (As := As.map (zv E)) (rest := st.map (zv E)) (b := zb E + r) (n := n) ⟨hC.1, hC.2.1, hC.2.2.2.1, hC.2.2.2.2.1, hts⟩ hct ⟨cb, hnm, hts _ hmi⟩ ⟨zP.blind, fun U hU hW => ⟨rfl, zP.of hH hC.2.2.2.2.2.2.2.2.1 hU hW⟩⟩ rfl (by rw [List.length_map]; exact hn) hv.1 (by simp [zv]) (lv_room (hst E)) hd ⟨show cells + _ ≤ M.2.2.2.2.2.2.1 by omega, show slots + _ ≤ M.2.2.2.2.2.2.2 by omega⟩
  exact z_run R1 hC hH hv b1 b2 hb1 hb2 h
/-- a nest mate's private static method -/
theorem z_callSN {M2 : zM} {Q : Option Value → zS → Prop} {idx n : Nat} {As stk : List Value} (hct : Ct E M2 As s Q) (hm : zMl M2 n) (hms : Cond.static M2.1 ∈ zALL) (hl : ∀ (E : zE) (U : State), zX E U → va_Nw (.methodLinkNest M.1.cls idx M2.1 RX9) U) (hd : decode M.2.1 pc = .ok (.invokestatic idx, 3)) (hR : zrm_ok M M2) (hstk : stk = As.reverse ++ st) (hn : As.length = n) (hst : zrest st) (hb1 : M2.2.2.2.2.2.2.1 ≤ bud.1) (hb2 : M2.2.2.2.2.2.2.2 ≤ bud.2)
    (h : ∀ (v : Option Value) (t : zS), Q v t → Z E M (pc + 3) ls (v.toList ++ st) t (bud.1 - M2.2.2.2.2.2.2.1, bud.2 - M2.2.2.2.2.2.2.2) F) : Z E M pc ls stk s bud F := by
  subst hstk
  intro p e sx m args below meth c0 H locs cells slots la hC hH hv b1 b2
  have hts := hC.2.2.2.2.2.1
  have cb : va_CN (zrm M) sx args M.1.cls idx M2.1 RX9 M2.2.1 M2.2.2.1 M2.2.2.2.1 (zW M2) (zrm M2) M2.2.2.2.2.2.2.1 M2.2.2.2.2.2.2.2 n := va_cnB n hts (zGood M2 hm.1) rfl rfl rfl (hl E sx hC.2.2.2.2.2.2.2.2.1.2.2) (hts _ hm.2.1) hm.2.2 hR
  have R1 := va_runSN (p := p) (e := e) (below := below) (meth := meth) (locs := locs) (cells := cells) (slots := slots) (g := F0 m pc la ((As.reverse ++ st).map (zv E))) (As := As.map (zv E)) (rest := st.map (zv E)) (n := n) ⟨hC.1, hC.2.1, hC.2.2.2.1, hC.2.2.2.2.1, hts⟩ hct ⟨cb, hts _ hms, trivial⟩ ⟨zP.blind, fun U hU hW => ⟨rfl, zP.of hH hC.2.2.2.2.2.2.2.2.1 hU hW⟩⟩ rfl (by rw [List.length_map]; exact hn) hv.1 (by simp) (lv_room (hst E)) hd ⟨show cells + _ ≤ M.2.2.2.2.2.2.1 by omega, show slots + _ ≤ M.2.2.2.2.2.2.2 by omega⟩
  exact z_run R1 hC hH hv b1 b2 hb1 hb2 h
/-- Object.<init> -/
theorem z_objInit {idx r : Nat} (h1 : Cond.methodLink M.1.cls idx Lib.objectInit ∈ zALL) (h2 : Cond.instanceMethod Lib.objectInit ∈ zALL) (h3 : Cond.code Lib.objectInit ⟨#[0xb1]⟩ 1 none ∈ zALL) (hd : decode M.2.1 pc = .ok (.invokespecial idx, 3)) (hf : 1 ≤ M.2.2.2.2.1) (hlo : 20 ≤ M.2.2.2.2.2.1) (hst : zrest st) (h : Z E M (pc + 3) ls st s bud F) : Z E M pc ls (.ref r :: st) s bud F :=
  fun p e sx m args below meth c H locs cells slots la hC hH hl b1 b2 => by
    refine W.objInit hC.1 hC.2.1 hC.2.2.2.2.1 (hC.2.2.2.2.2.1 _ h1) (hC.2.2.2.2.2.1 _ h2) (hC.2.2.2.2.2.1 _ h3) rfl (by rw [hC.2.2.2.1]; exact hl.1) (a := zb E + r) (rest := st.map (zv E)) rfl hd hf ?_ (h p e sx m args below meth c H locs cells slots la hC hH hl b1 b2)
    have := hst E
    show 2 * 0 + _ + 12 ≤ M.2.2.2.2.2.1
    omega
/-! Math -/
theorem z_max {idx : Nat} {x y : Int32} (w1 : Cond.methodLink M.1.cls idx Lib.Math.max.name ∈ zALL) (w2 : Cond.static Lib.Math.max.name ∈ zALL) (w3 : Cond.initialized "java/lang/Math" ∈ zALL) (w4 : Cond.code Lib.Math.max.name Lib.Math.max.code 2 (some .int) ∈ zALL) (hd : decode M.2.1 pc = .ok (.invokestatic idx, 3)) (hf : 1 ≤ M.2.2.2.2.1) (hlo : 21 ≤ M.2.2.2.2.2.1) (hst : zrest st) (h : Z E M (pc + 3) ls (.int (if x < y then y else x) :: st) s bud F) : Z E M pc ls (.int y :: .int x :: st) s bud F :=
  fun p e sx m args below meth c H locs cells slots la hC hH hl b1 b2 => by
    have := hst E
    exact va_mmax hC.1 hC.2.1 (hC.2.2.2.1.trans hl.1.symm) hC.2.2.2.2.1 (hC.2.2.2.2.2.1 _ w1) (hC.2.2.2.2.2.1 _ w2) (hC.2.2.2.2.2.1 _ w3) (hC.2.2.2.2.2.1 _ w4) hf (by show _ + 13 ≤ M.2.2.2.2.2.1; omega) (by show _ ≤ M.2.2.2.2.2.2.1; omega) (by show _ ≤ M.2.2.2.2.2.2.2; omega) hd (h p e sx m args below meth c H locs cells slots la hC hH hl b1 b2)
theorem z_min {idx : Nat} {x y : Int32} (w1 : Cond.methodLink M.1.cls idx Lib.Math.min.name ∈ zALL) (w2 : Cond.static Lib.Math.min.name ∈ zALL) (w3 : Cond.initialized "java/lang/Math" ∈ zALL) (w4 : Cond.code Lib.Math.min.name Lib.Math.min.code 2 (some .int) ∈ zALL) (hd : decode M.2.1 pc = .ok (.invokestatic idx, 3)) (hf : 1 ≤ M.2.2.2.2.1) (hlo : 21 ≤ M.2.2.2.2.2.1) (hst : zrest st) (h : Z E M (pc + 3) ls (.int (if y < x then y else x) :: st) s bud F) : Z E M pc ls (.int y :: .int x :: st) s bud F :=
  fun p e sx m args below meth c H locs cells slots la hC hH hl b1 b2 => by
    have := hst E
    exact va_mmin hC.1 hC.2.1 (hC.2.2.2.1.trans hl.1.symm) hC.2.2.2.2.1 (hC.2.2.2.2.2.1 _ w1) (hC.2.2.2.2.2.1 _ w2) (hC.2.2.2.2.2.1 _ w3) (hC.2.2.2.2.2.1 _ w4) hf (by show _ + 13 ≤ M.2.2.2.2.2.1; omega) (by show _ ≤ M.2.2.2.2.2.2.1; omega) (by show _ ≤ M.2.2.2.2.2.2.2; omega) hd (h p e sx m args below meth c H locs cells slots la hC hH hl b1 b2)
theorem z_abs {idx : Nat} {x : Int32} (w1 : Cond.methodLink M.1.cls idx Lib.Math.abs.name ∈ zALL) (w2 : Cond.static Lib.Math.abs.name ∈ zALL) (w3 : Cond.initialized "java/lang/Math" ∈ zALL) (w4 : Cond.code Lib.Math.abs.name Lib.Math.abs.code 1 (some .int) ∈ zALL) (hd : decode M.2.1 pc = .ok (.invokestatic idx, 3)) (hf : 1 ≤ M.2.2.2.2.1) (hlo : 21 ≤ M.2.2.2.2.2.1) (hst : zrest st) (h : Z E M (pc + 3) ls (.int (if 0 ≤ x then x else 0 - x) :: st) s bud F) : Z E M pc ls (.int x :: st) s bud F :=
  fun p e sx m args below meth c H locs cells slots la hC hH hl b1 b2 => by
    have := hst E
    exact va_mabs hC.1 hC.2.1 (hC.2.2.2.1.trans hl.1.symm) hC.2.2.2.2.1 (hC.2.2.2.2.2.1 _ w1) (hC.2.2.2.2.2.1 _ w2) (hC.2.2.2.2.2.1 _ w3) (hC.2.2.2.2.2.1 _ w4) hf (by show _ + 13 ≤ M.2.2.2.2.2.1; omega) (by show _ ≤ M.2.2.2.2.2.2.1; omega) (by show _ ≤ M.2.2.2.2.2.2.2; omega) hd (h p e sx m args below meth c H locs cells slots la hC hH hl b1 b2)
end
