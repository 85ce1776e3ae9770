/-! What lies below the base and never changes: the texts, the statics, the nest's words. -/
def zlen : List Nat := [1, 3, 1]
def zbyt : List (List Int32) := [[112], [99, 110, 102], [100]]
def xN : String := "java/util/NoSuchElementException"
def xI : String := "java/lang/IllegalArgumentException"
def zX (E : zE) (U : State) : Prop :=
  vk_S 3 zlen zbyt (fun k => zaS E k) (fun k => zaS E (100 + k)) (zA E) U U.heap ∧
  (vk_R RX5 51 "p" (zaS E 0) U ∧ vk_R RX5 57 "cnf" (zaS E 1) U ∧ vk_R RX5 88 "d" (zaS E 2) U) ∧
  (vk_R RX9 81 "the tape has not so many bytes" (zaS E 10) U ∧ vk_R RX9 110 "a fault has a kind (0) and a place (1)" (zaS E 11) U ∧ vk_R RX9 113 "fuel is 0 to 20000" (zaS E 12) U ∧ vk_R RX9 160 "there are counts 0 to 11" (zaS E 13) U ∧ vk_R RX9 162 "there is no such clause" (zaS E 14) U ∧ vk_R RX9 174 "there is no such step" (zaS E 15) U ∧ vk_R RX9 200 "no such byte is kept" (zaS E 16) U) ∧
  va_Z "java/lang/String" "COMPACT_STRINGS" "Z" (.int 1) (zA E) U U.heap ∧
  (va_Nw (.methodLinkNest RX9 23 yX7_init RX9) U ∧ va_Nw (.methodLinkNest RX3 11 yX2_init RX9) U ∧ va_Nw (.methodLinkNest RX1 86 yX9_codeOf RX9) U ∧ va_Nw (.methodLinkNest RX4 129 yX9_codeOf RX9) U ∧ va_Nw (.castable xN xN) U ∧ va_Nw (.castable xI xI) U ∧ va_Nw (.declares (Bundle.initS "java/lang/RuntimeException")) U ∧ va_Nw (.declares (Bundle.initS "java/lang/Exception")) U ∧ va_Nw (.declares (Bundle.initS Bundle.tN)) U ∧ (zl E).stackTraces = false) ∧
  vx_Zq Bundle.tN "UNASSIGNED_STACK" Bundle.steD (zA E) U U.heap ∧ vx_Zq Bundle.tN "SUPPRESSED_SENTINEL" Bundle.listD (zA E) U U.heap ∧
  (va_Z "jdk/internal/util/Preconditions" "SIOOBE_FORMATTER" "Ljava/util/function/BiFunction;" .null (zA E) U U.heap ∨ va_Z "jdk/internal/util/Preconditions" "SIOOBE_FORMATTER" "Ljava/util/function/BiFunction;" (.ref (zaS E 200)) (zA E) U U.heap)
theorem zX.go {E : zE} {s U : State} (h : zX E s) (hW : s.WarmedH U.vm) (hk : ∀ q : Nat, q < s.heap.size → ¬ zA E q → U.heap[q]? = s.heap[q]?) : zX E U := by
  obtain ⟨h1, ⟨r1, r2, r3⟩, ⟨t1, t2, t3, t4, t5, t6, t7⟩, h4, ⟨n1, n2, n3, n4, n5, n6, n7, n8, n9, n10⟩, h6, h7, h8⟩ := h
  exact ⟨vk_S.kept (vk_S.moved hW.alike h1) hk, ⟨r1.warm hW, r2.warm hW, r3.warm hW⟩, ⟨t1.warm hW, t2.warm hW, t3.warm hW, t4.warm hW, t5.warm hW, t6.warm hW, t7.warm hW⟩, va_Z.kept (va_Z.moved hW.alike h4) hk, ⟨n1.warmM hW, n2.warmM hW, n3.warmM hW, n4.warmM hW, n5.warmC hW, n6.warmC hW, n7.warmD hW, n8.warmD hW, n9.warmD hW, n10⟩, vx_Zq.kept (vx_Zq.moved hW.alike h6) hk, vx_Zq.kept (vx_Zq.moved hW.alike h7) hk, h8.imp (fun q => va_Z.kept (va_Z.moved hW.alike q) hk) (fun q => va_Z.kept (va_Z.moved hW.alike q) hk)⟩
theorem zX.same {E : zE} {u U : State} (h : zX E u) (hv : U.vm = u.vm) (hh : U.heap = u.heap) : zX E U := by
  obtain ⟨h1, ⟨r1, r2, r3⟩, ⟨t1, t2, t3, t4, t5, t6, t7⟩, h4, ⟨n1, n2, n3, n4, n5, n6, n7, n8, n9, n10⟩, h6, h7, h8⟩ := h
  have hA : u.vm.Alike U.vm := by rw [hv]; exact Vm.Alike.refl _
  have hk : ∀ q : Nat, q < u.heap.size → ¬ zA E q → U.heap[q]? = u.heap[q]? := fun q _ _ => by rw [hh]
  exact ⟨vk_S.kept (vk_S.moved hA h1) hk, ⟨r1.same hv, r2.same hv, r3.same hv⟩, ⟨t1.same hv, t2.same hv, t3.same hv, t4.same hv, t5.same hv, t6.same hv, t7.same hv⟩, va_Z.kept (va_Z.moved hA h4) hk, ⟨n1.same rfl hv.symm, n2.same rfl hv.symm, n3.same rfl hv.symm, n4.same rfl hv.symm, n5.same rfl hv.symm, n6.same rfl hv.symm, n7.same rfl hv.symm, n8.same rfl hv.symm, n9.same rfl hv.symm, n10⟩, vx_Zq.kept (vx_Zq.moved hA h6) hk, vx_Zq.kept (vx_Zq.moved hA h7) hk, h8.imp (fun q => va_Z.kept (va_Z.moved hA q) hk) (fun q => va_Z.kept (va_Z.moved hA q) hk)⟩
/-- what a method's body may take as given -/
def zC (E : zE) (M : zM) (p : Program) (sx : State) (m : MethodId) (args : Array Value) (meth : Method) (c : Code) : Prop :=
  p.tables.exec = Jvm.exec ∧ c.code = M.2.1 ∧ meth.sig.returnType = M.2.2.2.1 ∧ c.maxLocals = M.2.2.1 ∧ sx.vm.findClass M.1.cls = some m.cls ∧ (∀ w ∈ zALL, w.before args sx = true) ∧ meth.locks = false ∧ meth.name = M.1.name ∧ (zb E < sx.heap.size ∧ va_K (zD E) vwCl (ztys E) sx ∧ zX E sx) ∧ c.exceptionTable.isEmpty = true
/-- the heap holds the state -/
def zH (E : zE) (s : zS) (sx : State) (H : Heap) (locs : List Loc) : Prop :=
  va_P (zD E) vwCl (zws E s) H ∧ va_D (zA E) (zws E s) ∧ va_S (zA E) sx.heap H locs ∧ (zal s = true → H.size = zb E + zn s + 1)
abbrev zF : Type := List Frame → Array Value → State → State → Prop
/-- the machine, in method M at pc, with these locals, this stack and this state, comes to an end with F; bud: cells and slots that it may still make -/
def Z (E : zE) (M : zM) (pc : Nat) (ls : List (Nat × Value)) (st : List Value) (s : zS) (bud : Nat × Nat) (F : zF) : Prop :=
  ∀ (p : Program) (e : Env) (sx : State) (m : MethodId) (args : Array Value) (below : List Frame) (meth : Method) (c : Code) (H : Heap) (locs : List Loc) (cells slots : Nat) (la : Array Slot),
    zC E M p sx m args meth c → zH E s sx H locs → lv_has la M.2.2.1 (ls.map (zlv E)) → cells + bud.1 ≤ M.2.2.2.2.2.2.1 → slots + bud.2 ≤ M.2.2.2.2.2.2.2 →
    W p (zl E) e (zrm M) sx m args below meth c H locs cells slots (F below args sx) (F0 m pc la (st.map (zv E)))
/-- a method's end: what it answers and the state behind it -/
def zQ (E : zE) (Q : Option Value → zS → Prop) : Array Value → State → Outcome → State → Prop := fun _ st o t => (∃ (v : Option Value) (s' : zS), o = .returned (v.map (zv E)) ∧ Q v s' ∧ va_P (zD E) vwCl (zws E s') t.heap ∧ va_D (zA E) (zws E s') ∧ (zal s' = true → t.heap.size = zb E + zn s' + 1)) ∧ va_F (zA E) st t
/-- a method's start -/
def zP (E : zE) (s : zS) (U : State) : Prop := va_P (zD E) vwCl (zws E s) U.heap ∧ va_D (zA E) (zws E s) ∧ (zal s = true → U.heap.size = zb E + zn s + 1) ∧ zb E < U.heap.size ∧ va_K (zD E) vwCl (ztys E) U ∧ zX E U
def zW (M : zM) : List Cond := .code M.1 M.2.1 M.2.2.1 M.2.2.2.1 :: zALL
/-- the contract of a method at these arguments and this state -/
def Ct (E : zE) (M : zM) (av : List Value) (s : zS) (Q : Option Value → zS → Prop) : Prop :=
  Met (zl E) M.1 (zW M) (zrm M) (va_Pc (av.map (zv E)) (zP E s)) (zQ E Q) M.2.2.2.2.2.2.1 M.2.2.2.2.2.2.2 (zA E)
/-- the end of a method that returns -/
def zR1 (E : zE) (M : zM) (Q : Option Value → zS → Prop) : zF := fun below args sx => MQ below (zQ E Q) args sx M.2.2.2.2.2.2.1 M.2.2.2.2.2.2.2 (zA E)
theorem zP.blind {E : zE} {s : zS} {av : List Value} : FrameBlind (va_Pc av (zP E s)) := by
  intro a U g mk h
  obtain ⟨h0, h1, h2, h3, h4, h5, h6⟩ := h
  exact ⟨h0, h1, h2, h3, h4, va_K.moved (u := U) (U := U.calling g mk a) (Vm.Alike.refl U.vm) h5, zX.same (u := U) h6 rfl rfl⟩
theorem zP.of {E : zE} {s : zS} {sx U : State} {H : Heap} {locs : List Loc} (hH : zH E s sx H locs) (hC : zb E < sx.heap.size ∧ va_K (zD E) vwCl (ztys E) sx ∧ zX E sx) (hU : U.heap = H) (hW : sx.WarmedH U.vm) : zP E s U := by
  obtain ⟨h1, h2, h3, h4⟩ := hH
  refine ⟨by rw [hU]; exact h1, h2, fun q => by rw [hU]; exact h4 q, ?_, va_K.moved hW.alike hC.2.1, hC.2.2.go hW (fun q a b => by rw [hU]; exact h3.2.1 q a b)⟩
  rw [hU]; exact Nat.lt_of_lt_of_le hC.1 h3.1
/-- a contract out of the body's judgement -/
theorem Ct.of {E : zE} {M : zM} {av : List Value} {s : zS} {Q : Option Value → zS → Prop} {ls : List (Nat × Value)} (hy : plainName M.1.cls = true) (hl : lv_args 0 (av.map (zv E)) = ls.map (zlv E)) (hn : (lg_sl (av.map (zv E))).length ≤ M.2.2.1)
    (h : Z E M 0 ls [] s (M.2.2.2.2.2.2.1, M.2.2.2.2.2.2.2) (zR1 E M Q)) : Ct E M av s Q := by
  refine Met.ofW (cc := M.2.1) (maxL := M.2.2.1) (ret := M.2.2.2.1) hy rfl ?_
  intro p e sx m args below meth c s₁ B hml hv
  obtain ⟨rfl, h1, h2, h3, h4, h5, h6⟩ := hv
  have hts := atoms_spec (ws := zW M) B.pre
  have hown : sx.vm.findClass M.1.cls = some m.cls := findClass_of_methodNamed B.named
  have hnm : meth.name = M.1.name := (name_of_methodNamed B.named B.method).1
  have hl0 := lv_entry (av.map (zv E)) (n := M.2.2.1) hn
  rw [lg_entry_eq]
  generalize (lg_sl (av.map (zv E)) ++ List.replicate (M.2.2.1 - (lg_sl (av.map (zv E))).length) Slot.unset).toArray = la at hl0 ⊢
  rw [hl] at hl0
  exact h p e sx m _ below meth c sx.heap [] 0 0 la ⟨B.exec, B.bytes, B.returns, hml, hown, fun w hw => hts w (List.mem_cons_of_mem _ hw), B.notSynchronized, hnm, ⟨h4, h5, h6⟩, B.noHandlers (hts _ List.mem_cons_self)⟩ ⟨h1, h2, va_S.rf, h3⟩ hl0 (by simp) (by simp)
/-- fewer locals, in another order -/
theorem z_sub {E : zE} {M : zM} {pc : Nat} {ls ls' : List (Nat × Value)} {st : List Value} {s : zS} {bud : Nat × Nat} {F : zF} (ks : List Nat) (hl : lv_pick ls ks = ls') (h : Z E M pc ls' st s bud F) : Z E M pc ls st s bud F := by
  intro p e sx m args below meth c H locs cells slots la hC hH hv hb1 hb2
  refine h p e sx m args below meth c H locs cells slots la hC hH (lv_sub hv ks ?_) hb1 hb2
  rw [← hl]
  unfold lv_pick
  rw [List.map_filterMap]
  congr 1
  funext k
  rw [List.getElem?_map]
theorem z_at {E : zE} {la : Array Slot} {n : Nat} {ls : List (Nat × Value)} (h : lv_has la n (ls.map (zlv E))) (k : Nat) {i : Nat} {v : Value} (hk : ls[k]? = some (i, v)) : la[i]? = some (.val (zv E v)) :=
  lv_at h k (by rw [List.getElem?_map, hk]; rfl)
section
variable {E : zE} {M : zM} {pc : Nat} {ls ls' : List (Nat × Value)} {st : List Value} {s : zS} {bud : Nat × Nat} {F : zF}
theorem z_iconst {n : Int} {v : Int32} (hd : decode M.2.1 pc = .ok (.iconst n, 1)) (hv : Int32.ofInt n = v) (h : Z E M (pc + 1) ls (.int v :: st) s bud F) : Z E M pc ls st s bud F :=
  fun p e sx m args below meth c H locs cells slots la hC hH hl b1 b2 => lv_iconst hC.1 hC.2.1 hd hv (h p e sx m args below meth c H locs cells slots la hC hH hl b1 b2)
theorem z_bipush {n : Int} {v : Int32} (hd : decode M.2.1 pc = .ok (.bipush n, 2)) (hv : (Int8.ofInt n).toInt32 = v) (h : Z E M (pc + 2) ls (.int v :: st) s bud F) : Z E M pc ls st s bud F :=
  fun p e sx m args below meth c H locs cells slots la hC hH hl b1 b2 => lv_bipush hC.1 hC.2.1 hd hv (h p e sx m args below meth c H locs cells slots la hC hH hl b1 b2)
theorem z_sipush {n : Int} {v : Int32} (hd : decode M.2.1 pc = .ok (.sipush n, 3)) (hv : (Int16.ofInt n).toInt32 = v) (h : Z E M (pc + 3) ls (.int v :: st) s bud F) : Z E M pc ls st s bud F :=
  fun p e sx m args below meth c H locs cells slots la hC hH hl b1 b2 => lv_sipush hC.1 hC.2.1 hd hv (h p e sx m args below meth c H locs cells slots la hC hH hl b1 b2)
theorem z_ldcw {i : Nat} {v : Int32} (hw : Cond.constant M.1.cls i v ∈ zALL) (hd : decode M.2.1 pc = .ok (.ldc_w i, 3)) (h : Z E M (pc + 3) ls (.int v :: st) s bud F) : Z E M pc ls st s bud F :=
  fun p e sx m args below meth c H locs cells slots la hC hH hl b1 b2 => lv_ldcw hC.1 hC.2.1 hC.2.2.2.2.1 (hC.2.2.2.2.2.1 _ hw) hd (h p e sx m args below meth c H locs cells slots la hC hH hl b1 b2)
theorem z_iload_n {k : Fin 4} {i : Nat} {x : Int32} (j : Nat) (hk : ls[j]? = some (i, .int x)) (hd : decode M.2.1 pc = .ok (.iload_n k, 1)) (hi : (k : Nat) = i) (h : Z E M (pc + 1) ls (.int x :: st) s bud F) : Z E M pc ls st s bud F :=
  fun p e sx m args below meth c H locs cells slots la hC hH hl b1 b2 => lv_iload_n hC.1 hC.2.1 hd hi (z_at hl j hk) (h p e sx m args below meth c H locs cells slots la hC hH hl b1 b2)
theorem z_iload {i : Nat} {x : Int32} (j : Nat) (hk : ls[j]? = some (i, .int x)) (hd : decode M.2.1 pc = .ok (.iload i, 2)) (h : Z E M (pc + 2) ls (.int x :: st) s bud F) : Z E M pc ls st s bud F :=
  fun p e sx m args below meth c H locs cells slots la hC hH hl b1 b2 => lv_iload hC.1 hC.2.1 hd (z_at hl j hk) (h p e sx m args below meth c H locs cells slots la hC hH hl b1 b2)
theorem z_aload_n {k : Fin 4} {i : Nat} {x : Nat} (j : Nat) (hk : ls[j]? = some (i, .ref x)) (hd : decode M.2.1 pc = .ok (.aload_n k, 1)) (hi : (k : Nat) = i) (h : Z E M (pc + 1) ls (.ref x :: st) s bud F) : Z E M pc ls st s bud F :=
  fun p e sx m args below meth c H locs cells slots la hC hH hl b1 b2 => lv_aload_n hC.1 hC.2.1 hd hi (z_at hl j hk) (h p e sx m args below meth c H locs cells slots la hC hH hl b1 b2)
theorem z_aload {i : Nat} {x : Nat} (j : Nat) (hk : ls[j]? = some (i, .ref x)) (hd : decode M.2.1 pc = .ok (.aload i, 2)) (h : Z E M (pc + 2) ls (.ref x :: st) s bud F) : Z E M pc ls st s bud F :=
  fun p e sx m args below meth c H locs cells slots la hC hH hl b1 b2 => lv_aload hC.1 hC.2.1 hd (z_at hl j hk) (h p e sx m args below meth c H locs cells slots la hC hH hl b1 b2)
/-- a text's own reference (.retAddr k) -/
theorem z_tload_n {k : Fin 4} {i : Nat} {x : Nat} (j : Nat) (hk : ls[j]? = some (i, .retAddr x)) (hd : decode M.2.1 pc = .ok (.aload_n k, 1)) (hi : (k : Nat) = i) (h : Z E M (pc + 1) ls (.retAddr x :: st) s bud F) : Z E M pc ls st s bud F :=
  fun p e sx m args below meth c H locs cells slots la hC hH hl b1 b2 => lv_aload_n hC.1 hC.2.1 hd hi (z_at hl j hk) (h p e sx m args below meth c H locs cells slots la hC hH hl b1 b2)
theorem z_istore_n {k : Fin 4} {i : Nat} {x : Int32} (hd : decode M.2.1 pc = .ok (.istore_n k, 1)) (hi : (k : Nat) = i) (hn : i < M.2.2.1) (hl' : ∀ E : zE, (i, Value.int x) :: (ls.map (zlv E)).filter (fun q => !(q.1 == i) && !(q.1 + 1 == i && q.2.category == 2)) = ls'.map (zlv E)) (h : Z E M (pc + 1) ls' st s bud F) : Z E M pc ls (.int x :: st) s bud F :=
  fun p e sx m args below meth c H locs cells slots la hC hH hl b1 b2 => lv_istore_n hC.1 hC.2.1 hd hi hl hn (hl' E) (fun la' hl2 => h p e sx m args below meth c H locs cells slots la' hC hH hl2 b1 b2)
theorem z_istore {i : Nat} {x : Int32} (hd : decode M.2.1 pc = .ok (.istore i, 2)) (hn : i < M.2.2.1) (hl' : ∀ E : zE, (i, Value.int x) :: (ls.map (zlv E)).filter (fun q => !(q.1 == i) && !(q.1 + 1 == i && q.2.category == 2)) = ls'.map (zlv E)) (h : Z E M (pc + 2) ls' st s bud F) : Z E M pc ls (.int x :: st) s bud F :=
  fun p e sx m args below meth c H locs cells slots la hC hH hl b1 b2 => lv_istore hC.1 hC.2.1 hd hl hn (hl' E) (fun la' hl2 => h p e sx m args below meth c H locs cells slots la' hC hH hl2 b1 b2)
theorem z_astore_n {k : Fin 4} {i : Nat} {x : Nat} (hd : decode M.2.1 pc = .ok (.astore_n k, 1)) (hi : (k : Nat) = i) (hn : i < M.2.2.1) (hl' : ∀ E : zE, (i, Value.ref (zb E + x)) :: (ls.map (zlv E)).filter (fun q => !(q.1 == i) && !(q.1 + 1 == i && q.2.category == 2)) = ls'.map (zlv E)) (h : Z E M (pc + 1) ls' st s bud F) : Z E M pc ls (.ref x :: st) s bud F :=
  fun p e sx m args below meth c H locs cells slots la hC hH hl b1 b2 => lv_astore_n hC.1 hC.2.1 hd hi hl hn (hl' E) (fun la' hl2 => h p e sx m args below meth c H locs cells slots la' hC hH hl2 b1 b2)
theorem z_astore {i : Nat} {x : Nat} (hd : decode M.2.1 pc = .ok (.astore i, 2)) (hn : i < M.2.2.1) (hl' : ∀ E : zE, (i, Value.ref (zb E + x)) :: (ls.map (zlv E)).filter (fun q => !(q.1 == i) && !(q.1 + 1 == i && q.2.category == 2)) = ls'.map (zlv E)) (h : Z E M (pc + 2) ls' st s bud F) : Z E M pc ls (.ref x :: st) s bud F :=
  fun p e sx m args below meth c H locs cells slots la hC hH hl b1 b2 => lv_astore hC.1 hC.2.1 hd hl hn (hl' E) (fun la' hl2 => h p e sx m args below meth c H locs cells slots la' hC hH hl2 b1 b2)
theorem z_iinc {i : Nat} {n : Int} {x v : Int32} (j : Nat) (hk : ls[j]? = some (i, .int x)) (hv : x + Int32.ofInt n = v) (hd : decode M.2.1 pc = .ok (.iinc i n, 3)) (hn : i < M.2.2.1) (hl' : ∀ E : zE, (i, Value.int v) :: (ls.map (zlv E)).filter (fun q => !(q.1 == i) && !(q.1 + 1 == i && q.2.category == 2)) = ls'.map (zlv E)) (h : Z E M (pc + 3) ls' st s bud F) : Z E M pc ls st s bud F :=
  fun p e sx m args below meth c H locs cells slots la hC hH hl b1 b2 => lv_iinc (k := j) hC.1 hC.2.1 hd hl (by rw [List.getElem?_map, hk]; rfl) hv hn (hl' E) (fun la' hl2 => h p e sx m args below meth c H locs cells slots la' hC hH hl2 b1 b2)
theorem z_iadd {x y : Int32} (hd : decode M.2.1 pc = .ok (.iadd, 1)) (h : Z E M (pc + 1) ls (.int (x + y) :: st) s bud F) : Z E M pc ls (.int y :: .int x :: st) s bud F :=
  fun p e sx m args below meth c H locs cells slots la hC hH hl b1 b2 => lv_iadd hC.1 hC.2.1 hd (h p e sx m args below meth c H locs cells slots la hC hH hl b1 b2)
theorem z_isub {x y : Int32} (hd : decode M.2.1 pc = .ok (.isub, 1)) (h : Z E M (pc + 1) ls (.int (x - y) :: st) s bud F) : Z E M pc ls (.int y :: .int x :: st) s bud F :=
  fun p e sx m args below meth c H locs cells slots la hC hH hl b1 b2 => lv_isub hC.1 hC.2.1 hd (h p e sx m args below meth c H locs cells slots la hC hH hl b1 b2)
theorem z_imul {x y : Int32} (hd : decode M.2.1 pc = .ok (.imul, 1)) (h : Z E M (pc + 1) ls (.int (x * y) :: st) s bud F) : Z E M pc ls (.int y :: .int x :: st) s bud F :=
  fun p e sx m args below meth c H locs cells slots la hC hH hl b1 b2 => lv_imul hC.1 hC.2.1 hd (h p e sx m args below meth c H locs cells slots la hC hH hl b1 b2)
theorem z_iand {x y : Int32} (hd : decode M.2.1 pc = .ok (.iand, 1)) (h : Z E M (pc + 1) ls (.int (x &&& y) :: st) s bud F) : Z E M pc ls (.int y :: .int x :: st) s bud F :=
  fun p e sx m args below meth c H locs cells slots la hC hH hl b1 b2 => lv_iand hC.1 hC.2.1 hd (h p e sx m args below meth c H locs cells slots la hC hH hl b1 b2)
theorem z_ior {x y : Int32} (hd : decode M.2.1 pc = .ok (.ior, 1)) (h : Z E M (pc + 1) ls (.int (x ||| y) :: st) s bud F) : Z E M pc ls (.int y :: .int x :: st) s bud F :=
  fun p e sx m args below meth c H locs cells slots la hC hH hl b1 b2 => lv_ior hC.1 hC.2.1 hd (h p e sx m args below meth c H locs cells slots la hC hH hl b1 b2)
theorem z_ixor {x y : Int32} (hd : decode M.2.1 pc = .ok (.ixor, 1)) (h : Z E M (pc + 1) ls (.int (x ^^^ y) :: st) s bud F) : Z E M pc ls (.int y :: .int x :: st) s bud F :=
  fun p e sx m args below meth c H locs cells slots la hC hH hl b1 b2 => lv_ixor hC.1 hC.2.1 hd (h p e sx m args below meth c H locs cells slots la hC hH hl b1 b2)
theorem z_idiv {x y : Int32} (hy : ¬ y = 0) (hd : decode M.2.1 pc = .ok (.idiv, 1)) (h : Z E M (pc + 1) ls (.int (x / y) :: st) s bud F) : Z E M pc ls (.int y :: .int x :: st) s bud F :=
  fun p e sx m args below meth c H locs cells slots la hC hH hl b1 b2 => lv_idiv hC.1 hC.2.1 hd hy (h p e sx m args below meth c H locs cells slots la hC hH hl b1 b2)
theorem z_irem {x y : Int32} (hy : ¬ y = 0) (hd : decode M.2.1 pc = .ok (.irem, 1)) (h : Z E M (pc + 1) ls (.int (x - x / y * y) :: st) s bud F) : Z E M pc ls (.int y :: .int x :: st) s bud F :=
  fun p e sx m args below meth c H locs cells slots la hC hH hl b1 b2 => lv_irem hC.1 hC.2.1 hd hy (h p e sx m args below meth c H locs cells slots la hC hH hl b1 b2)
theorem z_ineg {x : Int32} (hd : decode M.2.1 pc = .ok (.ineg, 1)) (h : Z E M (pc + 1) ls (.int (-x) :: st) s bud F) : Z E M pc ls (.int x :: st) s bud F :=
  fun p e sx m args below meth c H locs cells slots la hC hH hl b1 b2 => lv_ineg hC.1 hC.2.1 hd (h p e sx m args below meth c H locs cells slots la hC hH hl b1 b2)
theorem z_ishl {x y : Int32} (hd : decode M.2.1 pc = .ok (.ishl, 1)) (h : Z E M (pc + 1) ls (.int (x <<< (y &&& 31)) :: st) s bud F) : Z E M pc ls (.int y :: .int x :: st) s bud F :=
  fun p e sx m args below meth c H locs cells slots la hC hH hl b1 b2 => lv_ishl hC.1 hC.2.1 hd (h p e sx m args below meth c H locs cells slots la hC hH hl b1 b2)
theorem z_ishr {x y : Int32} (hd : decode M.2.1 pc = .ok (.ishr, 1)) (h : Z E M (pc + 1) ls (.int (x >>> (y &&& 31)) :: st) s bud F) : Z E M pc ls (.int y :: .int x :: st) s bud F :=
  fun p e sx m args below meth c H locs cells slots la hC hH hl b1 b2 => lv_ishr hC.1 hC.2.1 hd (h p e sx m args below meth c H locs cells slots la hC hH hl b1 b2)
def zushr (x y : Int32) : Int32 := (x.toUInt32 >>> (y.toUInt32 &&& Int32.toUInt32 31)).toInt32
theorem z_iushr {x y : Int32} (hd : decode M.2.1 pc = .ok (.iushr, 1)) (h : Z E M (pc + 1) ls (.int (zushr x y) :: st) s bud F) : Z E M pc ls (.int y :: .int x :: st) s bud F :=
  fun p e sx m args below meth c H locs cells slots la hC hH hl b1 b2 => lv_iushr hC.1 hC.2.1 hd rfl (h p e sx m args below meth c H locs cells slots la hC hH hl b1 b2)
theorem z_i2b {x : Int32} (hd : decode M.2.1 pc = .ok (.i2b, 1)) (h : Z E M (pc + 1) ls (.int (x.toInt8.toInt32) :: st) s bud F) : Z E M pc ls (.int x :: st) s bud F :=
  fun p e sx m args below meth c H locs cells slots la hC hH hl b1 b2 => lv_i2b hC.1 hC.2.1 hd rfl (h p e sx m args below meth c H locs cells slots la hC hH hl b1 b2)
theorem z_i2l {x : Int32} (hd : decode M.2.1 pc = .ok (.i2l, 1)) (h : Z E M (pc + 1) ls (.long (x.toInt64) :: st) s bud F) : Z E M pc ls (.int x :: st) s bud F :=
  fun p e sx m args below meth c H locs cells slots la hC hH hl b1 b2 => lv_i2l hC.1 hC.2.1 hd rfl (h p e sx m args below meth c H locs cells slots la hC hH hl b1 b2)
theorem z_lcmp {x y : Int64} (hd : decode M.2.1 pc = .ok (.lcmp, 1)) (h : Z E M (pc + 1) ls (.int (lg_cmp x y) :: st) s bud F) : Z E M pc ls (.long y :: .long x :: st) s bud F :=
  fun p e sx m args below meth c H locs cells slots la hC hH hl b1 b2 => W.lcmp hC.1 hC.2.1 hd (h p e sx m args below meth c H locs cells slots la hC hH hl b1 b2)
theorem z_dup {v : Value} (hd : decode M.2.1 pc = .ok (.dup, 1)) (hv : ∀ E : zE, (zv E v).category = 1) (h : Z E M (pc + 1) ls (v :: v :: st) s bud F) : Z E M pc ls (v :: st) s bud F :=
  fun p e sx m args below meth c H locs cells slots la hC hH hl b1 b2 => lv_dup hC.1 hC.2.1 hd (hv E) (h p e sx m args below meth c H locs cells slots la hC hH hl b1 b2)
theorem z_dup2 {v w : Value} (hd : decode M.2.1 pc = .ok (.dup2, 1)) (hv : ∀ E : zE, (zv E v).category = 1) (hw : ∀ E : zE, (zv E w).category = 1) (h : Z E M (pc + 1) ls (v :: w :: v :: w :: st) s bud F) : Z E M pc ls (v :: w :: st) s bud F :=
  fun p e sx m args below meth c H locs cells slots la hC hH hl b1 b2 => lv_dup2_11 hC.1 hC.2.1 hd (hv E) (hw E) (h p e sx m args below meth c H locs cells slots la hC hH hl b1 b2)
theorem z_pop {v : Value} (hd : decode M.2.1 pc = .ok (.pop, 1)) (hv : ∀ E : zE, (zv E v).category = 1) (h : Z E M (pc + 1) ls st s bud F) : Z E M pc ls (v :: st) s bud F :=
  fun p e sx m args below meth c H locs cells slots la hC hH hl b1 b2 => lv_pop hC.1 hC.2.1 hd (hv E) (h p e sx m args below meth c H locs cells slots la hC hH hl b1 b2)
theorem z_goto {off : Int} {tgt : Nat} (hd : decode M.2.1 pc = .ok (.goto off, 3)) (ht : (pc : Int) + off = (tgt : Int)) (h : Z E M tgt ls st s bud F) : Z E M pc ls st s bud F :=
  fun p e sx m args below meth c H locs cells slots la hC hH hl b1 b2 => lv_goto hC.1 hC.2.1 hd ht (h p e sx m args below meth c H locs cells slots la hC hH hl b1 b2)
theorem z_if_eq {off : Int} {tgt : Nat} {x : Int32} (hd : decode M.2.1 pc = .ok (.ifCond .eq off, 3)) (ht : (pc : Int) + off = (tgt : Int)) (h1 : x = 0 → Z E M tgt ls st s bud F) (h2 : ¬ x = 0 → Z E M (pc + 3) ls st s bud F) : Z E M pc ls (.int x :: st) s bud F :=
  fun p e sx m args below meth c H locs cells slots la hC hH hl b1 b2 => lv_if_eq hC.1 hC.2.1 hd ht (fun q => h1 q p e sx m args below meth c H locs cells slots la hC hH hl b1 b2) (fun q => h2 q p e sx m args below meth c H locs cells slots la hC hH hl b1 b2)
theorem z_if_ne {off : Int} {tgt : Nat} {x : Int32} (hd : decode M.2.1 pc = .ok (.ifCond .ne off, 3)) (ht : (pc : Int) + off = (tgt : Int)) (h1 : ¬ x = 0 → Z E M tgt ls st s bud F) (h2 : x = 0 → Z E M (pc + 3) ls st s bud F) : Z E M pc ls (.int x :: st) s bud F :=
  fun p e sx m args below meth c H locs cells slots la hC hH hl b1 b2 => lv_if_ne hC.1 hC.2.1 hd ht (fun q => h1 q p e sx m args below meth c H locs cells slots la hC hH hl b1 b2) (fun q => h2 q p e sx m args below meth c H locs cells slots la hC hH hl b1 b2)
theorem z_if_lt {off : Int} {tgt : Nat} {x : Int32} (hd : decode M.2.1 pc = .ok (.ifCond .lt off, 3)) (ht : (pc : Int) + off = (tgt : Int)) (h1 : x < 0 → Z E M tgt ls st s bud F) (h2 : ¬ x < 0 → Z E M (pc + 3) ls st s bud F) : Z E M pc ls (.int x :: st) s bud F :=
  fun p e sx m args below meth c H locs cells slots la hC hH hl b1 b2 => lv_if_lt hC.1 hC.2.1 hd ht (fun q => h1 q p e sx m args below meth c H locs cells slots la hC hH hl b1 b2) (fun q => h2 q p e sx m args below meth c H locs cells slots la hC hH hl b1 b2)
theorem z_if_ge {off : Int} {tgt : Nat} {x : Int32} (hd : decode M.2.1 pc = .ok (.ifCond .ge off, 3)) (ht : (pc : Int) + off = (tgt : Int)) (h1 : 0 ≤ x → Z E M tgt ls st s bud F) (h2 : ¬ 0 ≤ x → Z E M (pc + 3) ls st s bud F) : Z E M pc ls (.int x :: st) s bud F :=
  fun p e sx m args below meth c H locs cells slots la hC hH hl b1 b2 => lv_if_ge hC.1 hC.2.1 hd ht (fun q => h1 q p e sx m args below meth c H locs cells slots la hC hH hl b1 b2) (fun q => h2 q p e sx m args below meth c H locs cells slots la hC hH hl b1 b2)
theorem z_if_gt {off : Int} {tgt : Nat} {x : Int32} (hd : decode M.2.1 pc = .ok (.ifCond .gt off, 3)) (ht : (pc : Int) + off = (tgt : Int)) (h1 : 0 < x → Z E M tgt ls st s bud F) (h2 : ¬ 0 < x → Z E M (pc + 3) ls st s bud F) : Z E M pc ls (.int x :: st) s bud F :=
  fun p e sx m args below meth c H locs cells slots la hC hH hl b1 b2 => lv_if_gt hC.1 hC.2.1 hd ht (fun q => h1 q p e sx m args below meth c H locs cells slots la hC hH hl b1 b2) (fun q => h2 q p e sx m args below meth c H locs cells slots la hC hH hl b1 b2)
theorem z_if_le {off : Int} {tgt : Nat} {x : Int32} (hd : decode M.2.1 pc = .ok (.ifCond .le off, 3)) (ht : (pc : Int) + off = (tgt : Int)) (h1 : x ≤ 0 → Z E M tgt ls st s bud F) (h2 : ¬ x ≤ 0 → Z E M (pc + 3) ls st s bud F) : Z E M pc ls (.int x :: st) s bud F :=
  fun p e sx m args below meth c H locs cells slots la hC hH hl b1 b2 => lv_if_le hC.1 hC.2.1 hd ht (fun q => h1 q p e sx m args below meth c H locs cells slots la hC hH hl b1 b2) (fun q => h2 q p e sx m args below meth c H locs cells slots la hC hH hl b1 b2)
theorem z_icmp_eq {off : Int} {tgt : Nat} {x y : Int32} (hd : decode M.2.1 pc = .ok (.if_icmp .eq off, 3)) (ht : (pc : Int) + off = (tgt : Int)) (h1 : x = y → Z E M tgt ls st s bud F) (h2 : ¬ x = y → Z E M (pc + 3) ls st s bud F) : Z E M pc ls (.int y :: .int x :: st) s bud F :=
  fun p e sx m args below meth c H locs cells slots la hC hH hl b1 b2 => lv_icmp_eq hC.1 hC.2.1 hd ht (fun q => h1 q p e sx m args below meth c H locs cells slots la hC hH hl b1 b2) (fun q => h2 q p e sx m args below meth c H locs cells slots la hC hH hl b1 b2)
theorem z_icmp_ne {off : Int} {tgt : Nat} {x y : Int32} (hd : decode M.2.1 pc = .ok (.if_icmp .ne off, 3)) (ht : (pc : Int) + off = (tgt : Int)) (h1 : ¬ x = y → Z E M tgt ls st s bud F) (h2 : x = y → Z E M (pc + 3) ls st s bud F) : Z E M pc ls (.int y :: .int x :: st) s bud F :=
  fun p e sx m args below meth c H locs cells slots la hC hH hl b1 b2 => lv_icmp_ne hC.1 hC.2.1 hd ht (fun q => h1 q p e sx m args below meth c H locs cells slots la hC hH hl b1 b2) (fun q => h2 q p e sx m args below meth c H locs cells slots la hC hH hl b1 b2)
theorem z_icmp_lt {off : Int} {tgt : Nat} {x y : Int32} (hd : decode M.2.1 pc = .ok (.if_icmp .lt off, 3)) (ht : (pc : Int) + off = (tgt : Int)) (h1 : x < y → Z E M tgt ls st s bud F) (h2 : ¬ x < y → Z E M (pc + 3) ls st s bud F) : Z E M pc ls (.int y :: .int x :: st) s bud F :=
  fun p e sx m args below meth c H locs cells slots la hC hH hl b1 b2 => lv_icmp_lt hC.1 hC.2.1 hd ht (fun q => h1 q p e sx m args below meth c H locs cells slots la hC hH hl b1 b2) (fun q => h2 q p e sx m args below meth c H locs cells slots la hC hH hl b1 b2)
theorem z_icmp_ge {off : Int} {tgt : Nat} {x y : Int32} (hd : decode M.2.1 pc = .ok (.if_icmp .ge off, 3)) (ht : (pc : Int) + off = (tgt : Int)) (h1 : y ≤ x → Z E M tgt ls st s bud F) (h2 : ¬ y ≤ x → Z E M (pc + 3) ls st s bud F) : Z E M pc ls (.int y :: .int x :: st) s bud F :=
  fun p e sx m args below meth c H locs cells slots la hC hH hl b1 b2 => lv_icmp_ge hC.1 hC.2.1 hd ht (fun q => h1 q p e sx m args below meth c H locs cells slots la hC hH hl b1 b2) (fun q => h2 q p e sx m args below meth c H locs cells slots la hC hH hl b1 b2)
theorem z_icmp_gt {off : Int} {tgt : Nat} {x y : Int32} (hd : decode M.2.1 pc = .ok (.if_icmp .gt off, 3)) (ht : (pc : Int) + off = (tgt : Int)) (h1 : y < x → Z E M tgt ls st s bud F) (h2 : ¬ y < x → Z E M (pc + 3) ls st s bud F) : Z E M pc ls (.int y :: .int x :: st) s bud F :=
  fun p e sx m args below meth c H locs cells slots la hC hH hl b1 b2 => lv_icmp_gt hC.1 hC.2.1 hd ht (fun q => h1 q p e sx m args below meth c H locs cells slots la hC hH hl b1 b2) (fun q => h2 q p e sx m args below meth c H locs cells slots la hC hH hl b1 b2)
theorem z_icmp_le {off : Int} {tgt : Nat} {x y : Int32} (hd : decode M.2.1 pc = .ok (.if_icmp .le off, 3)) (ht : (pc : Int) + off = (tgt : Int)) (h1 : x ≤ y → Z E M tgt ls st s bud F) (h2 : ¬ x ≤ y → Z E M (pc + 3) ls st s bud F) : Z E M pc ls (.int y :: .int x :: st) s bud F :=
  fun p e sx m args below meth c H locs cells slots la hC hH hl b1 b2 => lv_icmp_le hC.1 hC.2.1 hd ht (fun q => h1 q p e sx m args below meth c H locs cells slots la hC hH hl b1 b2) (fun q => h2 q p e sx m args below meth c H locs cells slots la hC hH hl b1 b2)
theorem z_tableOut {dflt lo hi : Int} {offs : Array Int} {len tgt : Nat} {x : Int32} (hd : decode M.2.1 pc = .ok (.tableswitch dflt lo hi offs, len)) (hx : x.toInt < lo ∨ hi < x.toInt) (ht : (pc : Int) + dflt = (tgt : Int)) (h : Z E M tgt ls st s bud F) : Z E M pc ls (.int x :: st) s bud F :=
  fun p e sx m args below meth c H locs cells slots la hC hH hl b1 b2 => lv_tableOut hC.1 hC.2.1 hd hx ht (h p e sx m args below meth c H locs cells slots la hC hH hl b1 b2)
theorem z_tableIn {dflt lo hi : Int} {offs : Array Int} {len tgt : Nat} {x : Int32} {off : Int} (hd : decode M.2.1 pc = .ok (.tableswitch dflt lo hi offs, len)) (h1 : ¬ x.toInt < lo) (h2 : ¬ hi < x.toInt) (ho : offs[(x.toInt - lo).toNat]? = some off) (ht : (pc : Int) + off = (tgt : Int)) (h : Z E M tgt ls st s bud F) : Z E M pc ls (.int x :: st) s bud F :=
  fun p e sx m args below meth c H locs cells slots la hC hH hl b1 b2 => lv_tableIn hC.1 hC.2.1 hd h1 h2 ho ht (h p e sx m args below meth c H locs cells slots la hC hH hl b1 b2)
theorem z_lookup {dflt : Int} {ps : Array (Int × Int)} {len tgt : Nat} {x : Int32} {off : Int} (hd : decode M.2.1 pc = .ok (.lookupswitch dflt ps, len)) (hp : (ps.toList.zip (ps.toList.drop 1)).all (fun (a, next) => a.1 < next.1) = true) (ho : Op.lookupswitch.offset ps.toList dflt x.toInt = off) (ht : (pc : Int) + off = (tgt : Int)) (h : Z E M tgt ls st s bud F) : Z E M pc ls (.int x :: st) s bud F :=
  fun p e sx m args below meth c H locs cells slots la hC hH hl b1 b2 => lv_lookup hC.1 hC.2.1 hd hp ho ht (h p e sx m args below meth c H locs cells slots la hC hH hl b1 b2)
end
