/-! Methods that answer an int or throw: q.1 is the answer, none where it has thrown X. -/
def zXQ (q : Option Int32 × zS) : Option Value → zS → Prop := fun v u => ∃ x, q.1 = some x ∧ v = some (.int x) ∧ u = q.2
def zXC (E : zE) (X : String) (q : Option Int32 × zS) : String → State → State → Prop := fun En st t => En = X ∧ q.1 = none ∧ va_P (zD E) vwCl (zws E q.2) t.heap ∧ va_D (zA E) (zws E q.2) ∧ zal q.2 = false ∧ va_F (zA E) st t
def CX (E : zE) (M : zM) (av : List Value) (s : zS) (X : String) (q : Option Int32 × zS) : Prop :=
  vx_Met (zl E) M.1 (zW M) (zrm M) (va_Pc (av.map (zv E)) (zP E s)) (zQ E (zXQ q)) (zXC E X q) M.2.2.2.2.2.2.1 M.2.2.2.2.2.2.2 (zA E)
def zRX (E : zE) (M : zM) (X : String) (q : Option Int32 × zS) : zF := fun below args sx => vx_MQ below (zQ E (zXQ q)) (zXC E X q) args sx M.2.2.2.2.2.2.1 M.2.2.2.2.2.2.2 (zA E)
theorem CX.of {E : zE} {M : zM} {av : List Value} {s : zS} {X : String} {q : Option Int32 × zS} {ls : List (Nat × Value)} (hy : plainName M.1.cls = true) (hl : lv_args 0 (av.map (zv E)) = ls.map (zlv E)) (hn : (lg_sl (av.map (zv E))).length ≤ M.2.2.1)
    (h : Z E M 0 ls [] s (M.2.2.2.2.2.2.1, M.2.2.2.2.2.2.2) (zRX E M X q)) : CX E M av s X q := by
  refine vx_ofW (cc := M.2.1) (maxL := M.2.2.1) (ret := M.2.2.2.1) hy rfl ?_
  intro p e sx m args below meth c s₁ B hml _ hv
  obtain ⟨rfl, h1, h2, h3, h4, h5, h6⟩ := hv
  have hts := atoms_spec (ws := zW M) B.pre
  have hown : sx.vm.findClass M.1.cls = some m.cls := findClass_of_methodNamed B.named
  have hnm : meth.name = M.1.name := (name_of_methodNamed B.named B.method).1
  have hl0 := lv_entry (av.map (zv E)) (n := M.2.2.1) hn
  rw [lg_entry_eq]
  generalize (lg_sl (av.map (zv E)) ++ List.replicate (M.2.2.1 - (lg_sl (av.map (zv E))).length) Slot.unset).toArray = la at hl0 ⊢
  rw [hl] at hl0
  exact h p e sx m _ below meth c sx.heap [] 0 0 la ⟨B.exec, B.bytes, B.returns, hml, hown, fun w hw => hts w (List.mem_cons_of_mem _ hw), B.notSynchronized, hnm, ⟨h4, h5, h6⟩, B.noHandlers (hts _ List.mem_cons_self)⟩ ⟨h1, h2, va_S.rf, h3⟩ hl0 (by simp) (by simp)
section
variable {E : zE} {M : zM} {pc : Nat} {ls : List (Nat × Value)} {st : List Value} {s : zS} {bud : Nat × Nat}
theorem y_iretX {x : Int32} {X : String} {q : Option Int32 × zS} (hd : decode M.2.1 pc = .ok (.ireturn, 1)) (hr : M.2.2.2.1 = some .int) (h : some (some x, s) = some q) : Z E M pc ls [.int x] s bud (zRX E M X q) := by
  cases h
  intro p e sx m args below meth c H locs cells slots la hC hH hl b1 b2
  refine W.widen (k := M.2.2.2.2.2.2.1) (n := M.2.2.2.2.2.2.2) (by omega) (by omega) ?_
  exact vx_ret (W.iret hC.1 hC.2.1 (hC.2.2.1.trans hr) (fun t ht hW => ⟨⟨some (.int x), s, rfl, ⟨x, rfl, rfl, rfl⟩, by rw [ht]; exact hH.1, hH.2.1, fun q => by rw [ht]; exact hH.2.2.2 q⟩, hH.2.2.1.F ht⟩) hH.2.2.1.2.2 hd hC.2.2.2.2.2.2.1)
def xRt : String := "java/lang/RuntimeException"
def xEx : List String := ["java/lang/Exception"]
def xB (X : String) : List Cond := [Cond.castable X X, .declares (Bundle.initS xRt), .declares (Bundle.initS "java/lang/Exception"), .declares (Bundle.initS Bundle.tN)]
def zTW (own X : String) (ik ic i1 : Nat) (b1 : ByteArray) : Prop :=
  (∀ w ∈ ((vyAt own ic X xRt xEx i1 b1).filter vx_no).filter goodWord, w ∈ zALL) ∧ (∀ w ∈ ((vyAt own ic X xRt xEx i1 b1).filter vx_no).filter (fun w => !goodWord w), w ∈ xB X) ∧
  (∀ w ∈ Cond.classLink own ik X :: Cond.initialized X :: (vyAt own ic X xRt xEx i1 b1).filter vx_no, vx_ot w = true) ∧ Cond.classLink own ik X ∈ zALL ∧ Cond.initialized X ∈ zALL ∧
  (decode b1 0 = .ok (.aload_n 0, 1) ∧ decode b1 1 = .ok (.aload_n 1, 1) ∧ decode b1 2 = .ok (.invokespecial i1, 3) ∧ decode b1 5 = .ok (.return_, 1)) ∧ Bundle.fit X = true ∧ (∀ (E : zE) (U : State), zX E U → va_Nw (.castable X X) U)
theorem y_throw {X tx : String} {ik is ic i1 k : Nat} {b1 : ByteArray} {q : Option Int32 × zS} (hw : zTW M.1.cls X ik ic i1 b1) (hs : ∀ (E : zE) (U : State), zX E U → vk_R M.1.cls is tx (zaS E k) U)
    (d0 : decode M.2.1 pc = .ok (.new ik, 3)) (d3 : decode M.2.1 (pc + 3) = .ok (.dup, 1)) (d4 : decode M.2.1 (pc + 4) = .ok (.ldc is, 2)) (d6 : decode M.2.1 (pc + 6) = .ok (.invokespecial ic, 3)) (d9 : decode M.2.1 (pc + 9) = .ok (.athrow, 1))
    (hf : 6 ≤ M.2.2.2.2.1) (hlo : 90 ≤ M.2.2.2.2.2.1) (hb1 : 1 ≤ bud.1) (hb2 : 6 ≤ bud.2) (hst : zrest st) (h : gd (zal s = false) (some (none, s)) = some q) : Z E M pc ls st s bud (zRX E M X q) := by
  obtain ⟨hal, h⟩ := gd_i h
  cases h
  intro p e sx m args below meth c H locs cells slots la hC hH hl b1 b2
  obtain ⟨w1, w2, w3, w4, w5, ⟨f0, f1, f2, f5⟩, w6, w7⟩ := hw
  have hX := hC.2.2.2.2.2.2.2.2.1.2.2
  have hts := hC.2.2.2.2.2.1
  have hN := hX.2.2.2.2.1
  have hnone : c.exceptionTable.toList = [] := by
    have := hC.2.2.2.2.2.2.2.2.2
    simpa using this
  have hrest := hst E
  refine vy_throw (A := zA E) (Y0 := xRt) (r := xEx) hC.1 hC.2.1 hN.2.2.2.2.2.2.2.2.2 hC.2.2.2.2.1 w6 (by decide) (by decide) f0 f1 f2 f5 (hts _ w4) (hts _ w5) (hs E sx hX) ?_ w3 hX.2.2.2.2.2.1 hX.2.2.2.2.2.2.1 hH.2.2.1 (hl.1.trans hC.2.2.2.1.symm) d0 d3 d4 d6 d9 (fun x hx => by rw [hnone] at hx; cases hx)
    (show 1 + 1 + 3 < M.2.2.2.2.1 by omega) (show _ + (13 * (1 + 1 + 1) + 43) ≤ M.2.2.2.2.2.1 by omega) (show cells + 1 ≤ M.2.2.2.2.2.2.1 by omega) (show slots + 6 ≤ M.2.2.2.2.2.2.2 by omega) hC.2.2.2.2.2.2.1 ?_ hH.2.2.1.2.2 (by omega) (by omega)
  · refine vx_hat (fun w hw => hts w (w1 w hw)) w2 ?_
    exact vx_c (va_Nw.use rfl (w7 E sx hX)) (vx_c (va_Nw.use rfl hN.2.2.2.2.2.2.1) (vx_c (va_Nw.use rfl hN.2.2.2.2.2.2.2.1) (vx_c (va_Nw.use rfl hN.2.2.2.2.2.2.2.2.1) vx_n)))
  · intro t hvm hz ho
    exact ⟨rfl, rfl, hH.1.kept (fun k x hx => ho x.1 (hH.1 k x hx).lt), hH.2.1, hal, Nat.le_trans hH.2.2.1.1 hz, fun q h1 h2 => (ho q (Nat.lt_of_lt_of_le h1 hH.2.2.1.1)).trans (hH.2.2.1.2.1 q h1 h2)⟩
end
set_option maxRecDepth 100000 in
theorem tw_N0 : ∀ w ∈ ((vyAt RX9 112 xN xRt xEx 13 prog_23_method_4_code).filter vx_no).filter goodWord, w ∈ lw_tbl := by decide +kernel
set_option maxRecDepth 100000 in
theorem tw_I0 : ∀ w ∈ ((vyAt RX9 83 xI xRt xEx 7 prog_14_method_2_code).filter vx_no).filter goodWord, w ∈ lw_tbl := by decide +kernel
set_option maxRecDepth 100000 in
theorem tw_N : zTW RX9 xN 108 112 13 prog_23_method_4_code := ⟨fun w h => zALL_in (tw_N0 w h) (List.mem_filter.mp h).2, by decide +kernel, by decide +kernel, by decide +kernel, by decide +kernel, ⟨by decide +kernel, by decide +kernel, by decide +kernel, by decide +kernel⟩, by decide +kernel, fun E U h => h.2.2.2.2.1.2.2.2.2.1⟩
set_option maxRecDepth 100000 in
theorem tw_I : zTW RX9 xI 79 83 7 prog_14_method_2_code := ⟨fun w h => zALL_in (tw_I0 w h) (List.mem_filter.mp h).2, by decide +kernel, by decide +kernel, by decide +kernel, by decide +kernel, ⟨by decide +kernel, by decide +kernel, by decide +kernel, by decide +kernel⟩, by decide +kernel, fun E U h => h.2.2.2.2.1.2.2.2.2.2.1⟩
