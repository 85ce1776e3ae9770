/-! From the machine's start to the pure statement. lw_P .. follow the skeleton, with the method's name and the launch's flags kept. -/
def R_law : String := "ClauseCourtLaw"
def lw_P (b : Addr) (xs : List Int32) (args : Array Value) (s : State) : Prop := args = #[.ref b] ∧ s.IntsAt b xs ∧ xs.length ≤ 3072 ∧ (Jvm.Cond.and given_1 narrow_1).before args s = true
def lw_At (p : Program) (s : State) (m : MethodId) (meth : Method) (c : Code) (b L : Nat) (xs : Nat → Int32) : Prop :=
  p.tables.exec = Jvm.exec ∧ c.code = code ∧ meth.sig.returnType = ret ∧ c.maxLocals = 7 ∧ s.vm.findClass R_law = some m.cls ∧ (∀ w ∈ lw_tbl, w.before #[Value.ref b] s = true) ∧ va_X b L xs s s.heap ∧ b < s.heap.size ∧ meth.locks = false ∧ (Jvm.Cond.and given_1 narrow_1).before #[Value.ref b] s = true ∧ meth.name = "law" ∧ c.exceptionTable.isEmpty = true
def zPure : Prop := ∀ (L : Nat) (xs : Nat → Int32), L ≤ 3072 → ∃ q : Int32 × zS, fL_law L xs = some q ∧ q.1 = 1
theorem st_arr {args : Array Value} {s : State} {ty : FieldType} (h : (Cond.arrayClass ty).before args s = true) (hty : ∀ U cA, U.vm.findClass ("[" ++ ty.toString) = some cA → va_RA U cA ty) : ∃ cA : ClassId, ArrOfT s cA ty ∧ va_RA s cA ty := by
  obtain ⟨cA, k, comp, h1, h2, h3⟩ := Cond.arrayClass_spec h
  exact ⟨cA, fun n z => ⟨fun k h => (by cases h), k, h2, comp, h3⟩, hty s cA h1⟩
theorem st_str {args : Array Value} {s : State} {own : String} {k : Nat} {tx : String} (h1 : (Cond.stringRef own k tx).before args s = true) (h2 : (Cond.exactly (.string own k) "java/lang/String").before args s = true) : ∃ a : Nat, vk_R own k tx a s := by
  cases hv : (Term.string own k).eval args s none [] s with
  | none => simp [Cond.before, Cond.holds, Cond.value, hv] at h2
  | some v =>
    cases v with
    | ref a => exact ⟨a, vk_R.of h1 hv⟩
    | _ => cases hf : s.vm.findClass "java/lang/String" <;> simp [Cond.before, Cond.holds, Cond.value, hv, hf] at h2
theorem zst {s : State} {b L : Nat} {xs : Nat → Int32} {l : Launch} (hfl : l.stackTraces = false) (hts : ∀ w ∈ lw_tbl, w.before #[Value.ref b] s = true) (hX : va_X b L xs s s.heap) (hbl : b < s.heap.size) (hgv : (Jvm.Cond.and given_1 narrow_1).before #[Value.ref b] s = true) : ∃ E : zE, zl E = l ∧ zaS E 300 = b ∧ zb E + 1 = s.heap.size ∧ va_K (zD E) vwCl (ztys E) s ∧ zX E s ∧ zScr E L xs s := by
  have hs := flat_of_before _ hgv
  have hA : ∀ a : Nat, a < s.heap.size → ¬ (fun q : Nat => s.heap.size - 1 < q) a := fun a h => by show ¬ s.heap.size - 1 < a; omega
  obtain ⟨c0, i0, k0⟩ := u_known (C := RX0) (T := TX0) (N := 2) (n := 2) (ws := zALL) (fun w h => hts w (List.mem_filter.mp h).1) zin0 (hts (.instantiable RX0 2) (by decide +kernel))
  obtain ⟨c1, i1, k1⟩ := u_known (C := RX1) (T := TX1) (N := 10) (n := 10) (ws := zALL) (fun w h => hts w (List.mem_filter.mp h).1) zin1 (hts (.instantiable RX1 10) (by decide +kernel))
  obtain ⟨c2, i2, k2⟩ := u_known (C := RX2) (T := TX2) (N := 4) (n := 4) (ws := zALL) (fun w h => hts w (List.mem_filter.mp h).1) zin2 (hts (.instantiable RX2 4) (by decide +kernel))
  obtain ⟨c3, i3, k3⟩ := u_known (C := RX3) (T := TX3) (N := 11) (n := 11) (ws := zALL) (fun w h => hts w (List.mem_filter.mp h).1) zin3 (hts (.instantiable RX3 11) (by decide +kernel))
  obtain ⟨c4, i4, k4⟩ := u_known (C := RX4) (T := TX4) (N := 18) (n := 18) (ws := zALL) (fun w h => hts w (List.mem_filter.mp h).1) zin4 (hts (.instantiable RX4 18) (by decide +kernel))
  obtain ⟨c5, i5, k5⟩ := u_known (C := RX5) (T := TX5) (N := 9) (n := 9) (ws := zALL) (fun w h => hts w (List.mem_filter.mp h).1) zin5 (hts (.instantiable RX5 9) (by decide +kernel))
  obtain ⟨c6, i6, k6⟩ := u_known (C := RX6) (T := TX6) (N := 1) (n := 1) (ws := zALL) (fun w h => hts w (List.mem_filter.mp h).1) zin6 (hts (.instantiable RX6 1) (by decide +kernel))
  obtain ⟨c7, i7, k7⟩ := u_known (C := RX7) (T := TX7) (N := 6) (n := 6) (ws := zALL) (fun w h => hts w (List.mem_filter.mp h).1) zin7 (hts (.instantiable RX7 6) (by decide +kernel))
  obtain ⟨c8, i8, k8⟩ := u_known (C := RX8) (T := TX8) (N := 4) (n := 4) (ws := zALL) (fun w h => hts w (List.mem_filter.mp h).1) zin8 (hts (.instantiable RX8 4) (by decide +kernel))
  obtain ⟨c9, i9, k9⟩ := u_known (C := RX9) (T := TX9) (N := 10) (n := 10) (ws := zALL) (fun w h => hts w (List.mem_filter.mp h).1) zin9 (hts (.instantiable RX9 10) (by decide +kernel))
  obtain ⟨c10, i10, k10⟩ := u_known (C := RX10) (T := TX10) (N := 59) (n := 59) (ws := zALL) (fun w h => hts w (List.mem_filter.mp h).1) zin10 (hts (.instantiable RX10 59) (by decide +kernel))
  obtain ⟨yB, aB⟩ := st_arr (ty := .byte) (hts _ (by decide +kernel)) (fun _ _ h => h)
  obtain ⟨yI, aI⟩ := st_arr (ty := .int) (hts _ (by decide +kernel)) (fun _ _ h => h)
  obtain ⟨yZ, aZ⟩ := st_arr (ty := .boolean) (hts _ (by decide +kernel)) (fun _ _ h => h)
  obtain ⟨yJ, aJ⟩ := st_arr (ty := .long) (hts _ (by decide +kernel)) (fun _ _ h => h)
  obtain ⟨adK, adV, hS, hev⟩ := vk_Sof (args := #[Value.ref b]) (s := s) (N := 3) (tm := fun i => if i = 0 then .string RX5 51 else if i = 1 then .string RX5 57 else .string RX5 88) (len := zlen) (byt := zbyt) (A := fun q : Nat => s.heap.size - 1 < q)
    (by decide)
    (fun i hi => by rcases (show i = 0 ∨ i = 1 ∨ i = 2 by omega) with rfl | rfl | rfl <;> exact hs _ (by decide +kernel))
    (fun i hi => by rcases (show i = 0 ∨ i = 1 ∨ i = 2 by omega) with rfl | rfl | rfl <;> exact hs _ (by decide +kernel))
    (fun i hi => by rcases (show i = 0 ∨ i = 1 ∨ i = 2 by omega) with rfl | rfl | rfl <;> exact hs _ (by decide +kernel))
    (fun i hi => by rcases (show i = 0 ∨ i = 1 ∨ i = 2 by omega) with rfl | rfl | rfl <;> exact hs _ (by decide +kernel))
    (fun i hi j hj => by
      rcases (show i = 0 ∨ i = 1 ∨ i = 2 by omega) with rfl | rfl | rfl
      · have hj : j < 1 := hj
        rcases (show j = 0 by omega) with rfl
        exact hs _ (by decide +kernel)
      · have hj : j < 3 := hj
        rcases (show j = 0 ∨ j = 1 ∨ j = 2 by omega) with rfl | rfl | rfl <;> exact hs _ (by decide +kernel)
      · have hj : j < 1 := hj
        rcases (show j = 0 by omega) with rfl
        exact hs _ (by decide +kernel))
    (fun i j hi hj hne => by
      rcases (show i = 0 ∨ i = 1 ∨ i = 2 by omega) with rfl | rfl | rfl <;> rcases (show j = 0 ∨ j = 1 ∨ j = 2 by omega) with rfl | rfl | rfl <;> first | exact absurd rfl hne | exact Or.inl (hs _ (by decide +kernel)) | exact Or.inr (hs _ (by decide +kernel)))
    hA
  obtain ⟨t0, m0⟩ := st_str (own := RX9) (k := 81) (tx := "the tape has not so many bytes") (hts _ (by decide +kernel)) (hs _ (by decide +kernel))
  obtain ⟨t1, m1⟩ := st_str (own := RX9) (k := 110) (tx := "a fault has a kind (0) and a place (1)") (hts _ (by decide +kernel)) (hs _ (by decide +kernel))
  obtain ⟨t2, m2⟩ := st_str (own := RX9) (k := 113) (tx := "fuel is 0 to 20000") (hts _ (by decide +kernel)) (hs _ (by decide +kernel))
  obtain ⟨t3, m3⟩ := st_str (own := RX9) (k := 160) (tx := "there are counts 0 to 11") (hts _ (by decide +kernel)) (hs _ (by decide +kernel))
  obtain ⟨t4, m4⟩ := st_str (own := RX9) (k := 162) (tx := "there is no such clause") (hts _ (by decide +kernel)) (hs _ (by decide +kernel))
  obtain ⟨t5, m5⟩ := st_str (own := RX9) (k := 174) (tx := "there is no such step") (hts _ (by decide +kernel)) (hs _ (by decide +kernel))
  obtain ⟨t6, m6⟩ := st_str (own := RX9) (k := 200) (tx := "no such byte is kept") (hts _ (by decide +kernel)) (hs _ (by decide +kernel))
  have hCS := va_Zof (A := fun q : Nat => s.heap.size - 1 < q) (hts (.laysStatic "java/lang/String" "COMPACT_STRINGS" "Z") (by decide +kernel)) (hts (.initialized "java/lang/String") (by decide +kernel)) (va_eqi (z := 1) (hs _ (by decide +kernel))) hA
  have hU := vx_Zqof (A := fun q : Nat => s.heap.size - 1 < q) (hts (.laysStatic Bundle.tN "UNASSIGNED_STACK" Bundle.steD) (by decide +kernel)) (hts (.initialized Bundle.tN) (by decide +kernel)) (hs (.isRef (.static Bundle.tN "UNASSIGNED_STACK" Bundle.steD)) (by decide +kernel)) hA
  have hN := vx_Zqof (A := fun q : Nat => s.heap.size - 1 < q) (hts (.laysStatic Bundle.tN "SUPPRESSED_SENTINEL" Bundle.listD) (by decide +kernel)) (hts (.initialized Bundle.tN) (by decide +kernel)) (hs (.isRef (.static Bundle.tN "SUPPRESSED_SENTINEL" Bundle.listD)) (by decide +kernel)) hA
  obtain ⟨tS, hSI⟩ : ∃ tS : Nat, va_Z "jdk/internal/util/Preconditions" "SIOOBE_FORMATTER" "Ljava/util/function/BiFunction;" .null (fun q : Nat => s.heap.size - 1 < q) s s.heap ∨ va_Z "jdk/internal/util/Preconditions" "SIOOBE_FORMATTER" "Ljava/util/function/BiFunction;" (.ref tS) (fun q : Nat => s.heap.size - 1 < q) s s.heap := by
    rcases va_Zqof (A := fun q : Nat => s.heap.size - 1 < q) (hts (.laysStatic "jdk/internal/util/Preconditions" "SIOOBE_FORMATTER" "Ljava/util/function/BiFunction;") (by decide +kernel)) (hts (.initialized "jdk/internal/util/Preconditions") (by decide +kernel)) (hs (.isRef (.static "jdk/internal/util/Preconditions" "SIOOBE_FORMATTER" "Ljava/util/function/BiFunction;")) (by decide +kernel)) hA with h | ⟨t, h⟩
    · exact ⟨0, Or.inl h⟩
    · exact ⟨t, Or.inr h⟩
  refine ⟨(l, ((fun k => [c0, c1, c2, c3, c4, c5, c6, c7, c8, c9, c10].getD k c0), (fun k => [i0, i1, i2, i3, i4, i5, i6, i7, i8, i9, i10].getD k i0)), (fun k => if k = 11 then yB else if k = 12 then yI else if k = 13 then yZ else yJ), s.heap.size - 1, (fun k => if k < 3 then adK k else if k = 10 then t0 else if k = 11 then t1 else if k = 12 then t2 else if k = 13 then t3 else if k = 14 then t4 else if k = 15 then t5 else if k = 16 then t6 else if k = 200 then tS else if k = 300 then b else adV (k - 100))), rfl, rfl, ?_, ⟨?_, ?_⟩, ⟨?_, ⟨?_, ?_, ?_⟩, ⟨m0, m1, m2, m3, m4, m5, m6⟩, hCS, ⟨?_, ?_, ?_, ?_, ?_, ?_, ?_, ?_, ?_, hfl⟩, hU, hN, hSI⟩, ⟨hX, hbl, ?_, ?_⟩⟩
  · show s.heap.size - 1 + 1 = _; omega
  · intro k q hq
    match k, hq with
    | 0, hq => cases hq; exact k0
    | 1, hq => cases hq; exact k1
    | 2, hq => cases hq; exact k2
    | 3, hq => cases hq; exact k3
    | 4, hq => cases hq; exact k4
    | 5, hq => cases hq; exact k5
    | 6, hq => cases hq; exact k6
    | 7, hq => cases hq; exact k7
    | 8, hq => cases hq; exact k8
    | 9, hq => cases hq; exact k9
    | 10, hq => cases hq; exact k10
    | k + 11, hq => simp [vwCl] at hq
  · intro k q hq
    match k, hq with
    | 0, hq => cases hq; exact aB
    | 1, hq => cases hq; exact aI
    | 2, hq => cases hq; exact aZ
    | 3, hq => cases hq; exact aJ
    | k + 4, hq => simp [ztys] at hq
  · refine ⟨fun i hi => ?_, fun i j hi hj h => ?_⟩
    · have e1 : (if i < 3 then adK i else if i = 10 then t0 else if i = 11 then t1 else if i = 12 then t2 else if i = 13 then t3 else if i = 14 then t4 else if i = 15 then t5 else if i = 16 then t6 else if i = 200 then tS else if i = 300 then b else adV (i - 100)) = adK i := if_pos hi
      have e2 : (if 100 + i < 3 then adK (100 + i) else if 100 + i = 10 then t0 else if 100 + i = 11 then t1 else if 100 + i = 12 then t2 else if 100 + i = 13 then t3 else if 100 + i = 14 then t4 else if 100 + i = 15 then t5 else if 100 + i = 16 then t6 else if 100 + i = 200 then tS else if 100 + i = 300 then b else adV (100 + i - 100)) = adV i := by
        rcases (show i = 0 ∨ i = 1 ∨ i = 2 by omega) with rfl | rfl | rfl <;> rfl
      have h9 := hS.1 i hi
      show va_O _ (if i < 3 then adK i else _) _ _ _ ∧ va_OF _ _ _ _ (if i < 3 then adK i else _) _ _ _ ∧ va_OF _ _ _ (.ref (if 100 + i < 3 then adK (100 + i) else _)) (if i < 3 then adK i else _) _ _ _ ∧ va_T _ (if 100 + i < 3 then adK (100 + i) else _) _ _ _ _ _
      rw [e1, e2]
      exact h9
    · have h : (if i < 3 then adK i else _) = (if j < 3 then adK j else _) := h
      rw [if_pos hi, if_pos hj] at h
      exact hS.2 i j hi hj h
  · exact vk_R.of (hts (.stringRef RX5 51 "p") (by decide +kernel)) (hev 0 (by decide))
  · exact vk_R.of (hts (.stringRef RX5 57 "cnf") (by decide +kernel)) (hev 1 (by decide))
  · exact vk_R.of (hts (.stringRef RX5 88 "d") (by decide +kernel)) (hev 2 (by decide))
  · exact va_Nw.of rfl (hts (.methodLinkNest RX9 23 yX7_init RX9) (by decide +kernel))
  · exact va_Nw.of rfl (hts (.methodLinkNest RX3 11 yX2_init RX9) (by decide +kernel))
  · exact va_Nw.of rfl (hts (.methodLinkNest RX1 86 yX9_codeOf RX9) (by decide +kernel))
  · exact va_Nw.of rfl (hts (.methodLinkNest RX4 129 yX9_codeOf RX9) (by decide +kernel))
  · exact va_Nw.of rfl (hts (.castable xN xN) (by decide +kernel))
  · exact va_Nw.of rfl (hts (.castable xI xI) (by decide +kernel))
  · exact va_Nw.of rfl (hts (.declares (Bundle.initS "java/lang/RuntimeException")) (by decide +kernel))
  · exact va_Nw.of rfl (hts (.declares (Bundle.initS "java/lang/Exception")) (by decide +kernel))
  · exact va_Nw.of rfl (hts (.declares (Bundle.initS Bundle.tN)) (by decide +kernel))
  · show ¬ s.heap.size - 1 < b; omega
  · show s.heap.size = s.heap.size - 1 + 1; omega
set_option maxRecDepth 100000 in
theorem whole_start (HP : zPure) {p : Program} {e : Env} {s : State} {m : MethodId} {below : List Frame} {meth : Method} {c : Code} (l : Launch) (hfl : l.stackTraces = false) {b L : Nat} {xs : Nat → Int32} (hL : L ≤ 3072) (C0 : lw_At p s m meth c b L xs) : W p l e room_1 s m #[Value.ref b] below meth c s.heap [] 0 0 (lw_Z below #[Value.ref b] s) (entryFrame m ([Value.ref b] : List Value).toArray 7) := by
  obtain ⟨hx, hb, hr, hml, hown, hts, hX, hbl, hlocks, hgv, hnm, hex⟩ := id C0
  obtain ⟨E, hlE, hbb, hbE, hK, hZX, hScr⟩ := zst hfl hts hX hbl hgv
  obtain ⟨q, hq, h1⟩ := HP L xs hL
  have hZ := lawZ (E := E) hq h1
  have hl := lv_entry ([.ref b]) (n := 7) (Nat.le_of_ble_eq_true rfl)
  rw [lg_entry_eq]
  generalize (lg_sl ([.ref b]) ++ List.replicate (7 - (lg_sl ([.ref b])).length) Slot.unset).toArray = la at hl ⊢
  have hl : lv_has la 7 ([(0, Value.retAddr 300)].map (zlv E)) := by
    show lv_has la 7 [(0, .ref (zaS E 300))]
    rw [hbb]
    exact hl
  have h9 : W p (zl E) e (zrm mL_law) s m #[Value.ref b] below meth c s.heap [] 0 0 (zLF E L xs below #[Value.ref b] s) (F0 m 0 la []) :=
    hZ p e s m #[Value.ref b] below meth c s.heap [] 0 0 la ⟨hx, hb, hr, hml, hown, fun w h => hts w (List.mem_filter.mp h).1, hlocks, hnm, ⟨by omega, hK, hZX⟩, hex⟩ ⟨fun k q h => by simp [zws, zn, z0] at h, ⟨fun i j p q h => by simp [zws, zn, z0] at h, fun k q h => by simp [zws, zn, z0] at h⟩, va_S.rf, fun _ => by show s.heap.size = zb E + 0 + 1; omega⟩ hl (by decide) (by decide)
  intro T hT X
  subst hlE
  obtain ⟨t, a1, a2⟩ := h9 T hT X
  exact ⟨t, a1, a2.resolve_left (fun h => h hScr)⟩
set_option maxHeartbeats 4000000 in
theorem lw_walk (HP : zPure) (l : Launch) (hfl : l.stackTraces = false) (b : Addr) (xs : List Int32) : MetFree l x (headSpec (Jvm.Cond.code x code maxLocals ret :: tables_1) room_1) (lw_P b xs) (fun _ _ _ _ _ => True) lw_Q := by
  refine MetFree.of_bodyS (code := code) (maxLocals := maxLocals) (ret := ret) (by decide) ?_ ?_
  · intro args s m h hn
    obtain ⟨meth, c, h1, h2, h3, h4, h5, h6, -, -⟩ := Cond.code_spec hn (atoms_spec (ws := Jvm.Cond.code x code maxLocals ret :: tables_1) h _ List.mem_cons_self)
    exact ⟨meth, c, h1, h2, h3, h4, h5, h6⟩
  · intro p e s m args below meth c s₁ B hml0 hP _
    obtain ⟨rfl, hx, hbd, hgv⟩ := hP
    obtain ⟨scr, harrAt, hlist, hof, hsmall⟩ := hx
    obtain ⟨hcb, hkn, -, -⟩ := State.arrayAt?_spec harrAt
    have hown : s.vm.findClass R_law = some m.cls := findClass_of_methodNamed B.named
    have hnm : meth.name = "law" := (name_of_methodNamed B.named B.method).1
    have hts0 : ∀ c ∈ (Jvm.Cond.code x code maxLocals ret :: tables_1), c.before #[Value.ref b] s = true := atoms_spec (ws := Jvm.Cond.code x code maxLocals ret :: tables_1) B.pre
    have hts : ∀ w ∈ lw_tbl, w.before #[Value.ref b] s = true := k2_hts_sels lw_privs (fun w hw => hts0 w (List.mem_cons_of_mem _ hw)) lw_privs_ok
    have hml : c.maxLocals = 7 := B.maxLocals_eq (hts0 _ List.mem_cons_self)
    have X₀ : Stand p l e room_1 s m #[Value.ref b] below meth c s₁ [] 0 0 := Stand.of_body B
    have hh0 : s₁.heap = s.heap := by rw [B.state]; rfl
    have hsz : scr.slots.size = xs.length := by rw [← Array.length_toList, hlist, List.length_map]
    have hval : ∀ j : Nat, j < xs.length → scr.slots[j]? = some (.int (xs.getD j 0)) := fun j hj => by
      rw [← Array.getElem?_toList, hlist]
      simp [hj]
    have hbl : b < s.heap.size := (Array.getElem?_eq_some_iff.mp hcb).1
    have hX : va_X b xs.length (fun j => xs.getD j 0) s s.heap := ⟨scr, hcb, hof, hkn, hsz, hval⟩
    have K : W p l e room_1 s m #[Value.ref b] below meth c s₁.heap [] 0 0 (lw_Z below #[Value.ref b] s) (entryFrame m ([Value.ref b] : List Value).toArray 7) := by
      rw [hh0]
      exact whole_start HP l hfl hbd ⟨B.exec, B.bytes, B.returns, hml, hown, hts, hX, hbl, B.notSynchronized, hgv, hnm, B.noHandlers (hts0 _ List.mem_cons_self)⟩
    obtain ⟨t, a1, o, b1, b2, b3⟩ := K s₁ rfl X₀
    exact ⟨t, o, a1, b1, b2, b3⟩
theorem lw_pre_spec {args : Array Value} {s : State} (h : (Jvm.Cond.and given_1 narrow_1).before args s = true) (hr : rest_1_c.before args s = true) : ∃ (b : Addr) (xs : List Int32), lw_P b xs args s := by
  have hs := flat_of_before _ h
  have hq := flat_of_before _ hr
  have hc : (Cond.count 1).before args s = true := hs _ (by decide +kernel)
  have harr : (Cond.arrayOf (.arg 0) .int).before args s = true := hs _ (by decide +kernel)
  have hle : (Cond.le (.length (.arg 0)) (.int 3072)).before args s = true := hs _ (by decide +kernel)
  have hlen : (Cond.isInt (.length (.arg 0))).before args s = true := hq _ (by decide +kernel)
  have hall : (Cond.all (.arg 0) (.isInt (.elem (.arg 0) (.index 0)))).before args s = true := hq _ (by decide +kernel)
  obtain ⟨b, xs, hb, hx⟩ := State.ints_of_pre rfl harr hlen hall
  have hsm : xs.length < 2 ^ 31 := hx.choose_spec.2.2.2
  have hev : (Term.length (.arg 0)).eval args s none [] s = some (.int xs.length.toInt32) := hx.length_eval hb
  have hv := Cond.le_ints hev (show (Term.int 3072).eval args s none [] s = some (.int 3072) from rfl)
  have hd : xs.length.toInt32 ≤ 3072 := by
    simpa [Cond.before, Cond.holds, hv] using hle
  have hN : xs.length ≤ 3072 := (Int32.ofNat_le_ofNat hsm (by decide)).mp (show Int32.ofNat xs.length ≤ Int32.ofNat 3072 from hd)
  exact ⟨b, xs, Cond.one_arg hc (show args[0]? = some (.ref b) from hb), hx, hN, h⟩
theorem lw_comes (HP : zPure) (l : Launch) (hfl : l.stackTraces = false) : Comes l x (Jvm.Cond.code x code maxLocals ret :: tables_1) room_1 (fun tb e args s => Calls_1 tb e args s ∧ rest_1 tb e args s ∧ Pre_1 tb e args s)
    (fun _ _ args s o t => lw_Q args s o t) := by
  intro p e ha hc hk s m args below hf hfit hheap happ hpre
  obtain ⟨b, xs, hP⟩ := lw_pre_spec hpre.2.2 hpre.2.1
  obtain ⟨k, o, h1, h2, h3, hQ⟩ := lw_walk HP l hfl b xs p e ha hc hk s m args below hf ((Spec.applies_iff_loose hf).mp happ).1 hP trivial
  exact ⟨k, o, h1, h2, h3, hQ⟩
theorem lw_frame {s t : State} {o : Outcome} {args : Array Value} (h : Framed s o t [] 601024 7293034) :
    Framed s o t (fieldLocs frame_1_writes args s ++ arrayLocs frame_1_arrays args s ++ staticLocs frame_1_statics s) 601024 7293034 := h
theorem lw_limb (HP : zPure) (L : Cond) (hL : ∀ (args : Array Value) (s t : State), L.after args s (.returned (some (.int 1))) t = true) :
    ArmFor flags0 classFile x code maxLocals ret World_1 tables_1 room_1 Calls_1 rest_1 Pre_1
      (fun tb e a s o t => postC L tb e a s o t ∧ Framed s o t (fieldLocs frame_1_writes a s ++ arrayLocs frame_1_arrays a s ++ staticLocs frame_1_statics s) 601024 7293034) := by
  intro l hflags _ _ p e ha hc hk s m args below hf hfit hheap happ hpre
  obtain ⟨k, o, h1, h2, h3, rfl, hF⟩ := lw_comes HP l (by unfold Launch.stackTraces; rw [hflags]; decide) p e ha hc hk s m args below hf hfit hheap happ hpre
  exact ⟨k, _, h1, h2, h3, hL args s _, lw_frame hF⟩
/-- THE CLAIM OUT OF THE PURE STATEMENT -/
theorem vc_of (HP : zPure) : Claimed_1_1 ∧ Claimed_1_2 := ⟨lw_limb HP limb_1_1 (fun args s t => by simp [limb_1_1, Cond.after, Cond.holds, Cond.value]), lw_limb HP limb_1_2 (fun args s t => Cond.after_iff.mpr (by
  first | (rw [show limb_1_2 = Cond.eq .result (.int 1) from rfl, Cond.eq_ints (x := 1) (y := 1) rfl rfl]; simp; done) | (simp [limb_1_2, Cond.value, Term.eval]; done)))⟩
