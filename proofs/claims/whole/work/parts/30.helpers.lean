/-! The law's own small methods: they call, lay the answer into the row of one long, or catch. -/
def zWh (M : zM) (hh : List (Nat × Nat × Nat × Nat)) : List Cond := .codeWith M.1 M.2.1 M.2.2.1 M.2.2.2.1 hh :: zALL
def zres (o : Nat) (q : Option Int32 × zS) : Int32 × zS := match q.1 with
  | some v => (0, zpJ q.2 o 0 v.toInt64)
  | none => (1, q.2)
def Ch (E : zE) (M : zM) (hh : List (Nat × Nat × Nat × Nat)) (av : List Value) (s : zS) (r : Int32 × zS) : Prop :=
  Met (zl E) M.1 (zWh M hh) (zrm M) (va_Pc (av.map (zv E)) (zP E s)) (zQ E (fun v u => v = some (.int r.1) ∧ u = r.2)) M.2.2.2.2.2.2.1 M.2.2.2.2.2.2.2 (zA E)
theorem Met.ofWH {l : Launch} {y : MethodName} {ws ws' : List Cond} {rm : Room} {Pc : Array Value → State → Prop} {Qc : Array Value → State → Outcome → State → Prop} {mc ms : Nat} {free : Addr → Prop} {cc : ByteArray} {maxL : Nat} {ret : Option FieldType} {hh : List (Nat × Nat × Nat × Nat)}
    (hy : plainName y.cls = true) (hw : ws = Cond.codeWith y cc maxL ret hh :: ws')
    (body : ∀ p e s m args below meth c s₁, BodyLoose p l y (headSpec ws rm) cc maxL ret e s m args below meth c s₁ → c.maxLocals = maxL → Pc args s →
      W p l e (headSpec ws rm).room s m args below meth c s.heap [] 0 0 (MQ below Qc args s mc ms free) (entryFrame m args maxL)) : Met l y ws rm Pc Qc mc ms free := by
  refine MetFree.of_bodyS (code := cc) (maxLocals := maxL) (ret := ret) hy ?_ ?_
  · intro args s m h hn
    obtain ⟨m9, meth, c, hn9, h1, h2, h3, h4, -, h5, h6, -⟩ := Cond.codeWith_spec (atoms_spec (ws := ws) h _ (by rw [hw]; exact List.mem_cons_self))
    cases hn.symm.trans hn9
    exact ⟨meth, c, h1, h2, h3, h4, h5, h6⟩
  · intro p e s m args below meth c s₁ B hml hP _
    have hh0 : s₁.heap = s.heap := by rw [B.state]; rfl
    obtain ⟨t, a1, o, b1, b2, b3⟩ := body p e s m args below meth c s₁ B hml hP s₁ hh0 (Stand.of_body B)
    exact ⟨t, o, a1, b1, b2, ⟨b3.1, b3.2⟩⟩
section
variable {E : zE} {M M2 : zM} {X : String} {s : zS} {q : Option Int32 × zS} {As : List Value} {n idx x o pc tgt hpc ct a0 a1 hp2 : Nat} {off : Int}
variable {p : Program} {e : Env} {sx : State} {m : MethodId} {args : Array Value} {below : List Frame} {meth : Method} {c : Code} {la : Array Slot}
theorem h_body (hx : p.tables.exec = Jvm.exec) (hb : c.code = M.2.1) (hr : meth.sig.returnType = some .int) (hml : c.maxLocals = M.2.2.1) (hown : sx.vm.findClass M.1.cls = some m.cls) (hts : ∀ w ∈ zALL, w.before args sx = true) (hlocks : meth.locks = false) (hB : zb E < sx.heap.size ∧ va_K (zD E) vwCl (ztys E) sx ∧ zX E sx) (htab : c.exceptionTable.toList = [⟨a0, a1, hpc, ct⟩]) (hH : zH E s sx sx.heap []) (hla : la.size = M.2.2.1)
    (hct : CX E M2 (.ref x :: As) s X q) (hm : zMV M2 9 n) (hl : Cond.methodLink M.1.cls idx M2.1 ∈ zALL) (hd : decode M.2.1 pc = .ok (.invokevirtual idx, 3)) (hR : zrm_ok M M2) (hmc : M2.2.2.2.2.2.2 = M.2.2.2.2.2.2) (hn : As.length = n) (hxo : zok s 9 x) (ho : zok q.2 14 o ∧ 0 < (zK q.2 o).2)
    (d1 : decode M.2.1 (pc + 3) = .ok (.i2l, 1)) (d2 : decode M.2.1 (pc + 4) = .ok (.lastore, 1)) (d3 : decode M.2.1 (pc + 5) = .ok (.goto off, 3)) (ht : ((pc + 5 : Nat) : Int) + off = (tgt : Int)) (d4 : decode M.2.1 tgt = .ok (.iconst 0, 1)) (d5 : decode M.2.1 (tgt + 1) = .ok (.ireturn, 1))
    (hcov : (decide (a0 ≤ pc) && decide (pc < a1)) = true) (hct0 : ct ≠ 0) (hck : Cond.classLink M.1.cls ct X ∈ zALL) (hcast : va_Nw (.castable X X) sx)
    (hst : ∀ (H : Heap) (locs : List Loc) (cells slots : Nat) (Q : State → Prop) (a : Nat), (∀ la' : Array Slot, W p (zl E) e (zrm M) sx m args below meth c H locs cells slots Q (F0 m hp2 la' [])) → W p (zl E) e (zrm M) sx m args below meth c H locs cells slots Q (F0 m hpc la [.ref a]))
    (d6 : decode M.2.1 hp2 = .ok (.iconst 1, 1)) (d7 : decode M.2.1 (hp2 + 1) = .ok (.ireturn, 1)) :
    W p (zl E) e (zrm M) sx m args below meth c sx.heap [] 0 0 (MQ below (zQ E (fun v u => v = some (.int (zres o q).1) ∧ u = (zres o q).2)) args sx M.2.2.2.2.2.2.1 M.2.2.2.2.2.2.2 (zA E)) (F0 m pc la ((As.reverse ++ [Value.ref x, Value.int 0, Value.ref o]).map (zv E))) := by
  obtain ⟨hm1, hm2, hm3, hc9⟩ := hm
  obtain ⟨g1, -⟩ := zcls 9 hc9
  have R1 := vx_runV (p := p) (l := zl E) (e := e) (R := zrm M) (below := below) (meth := meth) (locs := []) (cells := 0) (slots := 0) (g := F0 m pc la ((As.reverse ++ [Value.ref x, Value.int 0, Value.ref o]).map (zv E))) (As := As.map (zv E)) (rest := [.int 0, .ref (zb E + o)]) (b := zb E + x) (n := n) (C := zC1 9) ⟨hx, hb, hml, hown, hts⟩ hct ⟨zCallB hm1 hl hR hts, hts _ hm2, hts _ hm3⟩ ⟨zP.blind, va_recv hB.2.1 hH.1 g1 (zws_obj hc9 hxo), fun U hU hW => ⟨rfl, zP.of hH hB hU hW⟩⟩ rfl (by rw [List.length_map]; exact hn) hla (by simp [zv]) (lv_room (Nat.le_of_ble_eq_true rfl)) hd ⟨show 0 + _ ≤ M.2.2.2.2.2.2.1 by rw [hmc]; omega, show 0 + _ ≤ M.2.2.2.2.2.2.2 by rw [hmc]; omega⟩
  rw [hmc] at R1
  intro T hT X0
  rcases R1 T hT X0 with ⟨v, st₀, t, T', L, h0, X', hL, e1, e2, ⟨⟨v', s', hv, ⟨z, hq, hv2, hs2⟩, hP1, hD1, hz1⟩, hF⟩, stp⟩ | ⟨qa, st₀, t, T', L, En, ce, h0, X', hL, e1, e2, ⟨hEn, hqn, hP1, hD1, hal1, hF⟩, hce, hcv, hcl, stp⟩
  · subst hs2
    subst hv2
    have hv : v = some (.int z) := by injection hv
    subst hv
    obtain ⟨hF1, hF2⟩ := hF
    rw [h0] at hF1 hF2
    have hS' : va_S (zA E) sx.heap t.heap L := ⟨hF1, hF2, hL⟩
    have hw := zws_lng (E := E) ho.1
    have hz0 : zres o q = (0, zpJ q.2 o 0 z.toInt64) := by unfold zres; rw [hq]
    have hin : vp_in 0 (zK q.2 o).2 := fun h => by
      rcases h with h | h
      · exact absurd h (by decide)
      · rw [sb_cl0] at h; omega
    have K : W p (zl E) e (zrm M) sx m args below meth c t.heap L (0 + M.2.2.2.2.2.2.1) (0 + M.2.2.2.2.2.2.2) (MQ below (zQ E (fun v u => v = some (.int (zres o q).1) ∧ u = (zres o q).2)) args sx M.2.2.2.2.2.2.1 M.2.2.2.2.2.2.2 (zA E)) (F0 m (pc + 3) la [.int z, .int 0, .ref (zb E + o)]) := by
      refine lv_i2l (v := z.toInt64) hx hb d1 rfl ?_
      refine W.last (j := 0) hx hb (hP1 (o - 1) _ hw) ((hB.2.1.2 3 _ (ztys_l E)).1 (zK q.2 o).2 (fun j => .long (zJ q.2 o j))) (fun q => by cases q) (by show ¬ ((0 : Int32) < 0 ∨ (arrV _ _ _).slots.size ≤ _); rw [arrV_size]; exact hin) rfl rfl d2 fun H1 e3 z1 oq => ?_
      refine lv_goto (tgt := tgt) hx hb d3 ht ?_
      refine lv_iconst (v := 0) hx hb d4 (by decide) ?_
      refine W.widen (k := M.2.2.2.2.2.2.1) (n := M.2.2.2.2.2.2.2) (by omega) (by omega) ?_
      have ec : zcell E (zpJ q.2 o 0 z.toInt64) o = .inl (zcy E 14, (zK q.2 o).2, .inr (.inl (vp_updL (zJ q.2 o) 0 z.toInt64))) := by
        rw [zcell_lng (s := zpJ q.2 o 0 z.toInt64) ho.1.1]
        show Sum.inl (_, (zK q.2 o).2, _) = _
        congr 5
        funext j
        show (if o = o ∧ j = 0 then z.toInt64 else zJ q.2 o j) = _
        simp [vp_updL]
      have e5 : zws E (zpJ q.2 o 0 z.toInt64) = (zws E q.2).set (o - 1) (zb E + o, .inl (zcy E 14, (zK q.2 o).2, .inr (.inl (vp_updL (zJ q.2 o) 0 z.toInt64)))) := by rw [zws_pJ ho.1.2.1 ho.1.2.2, ec]
      have hcell : H1[zb E + o]? = some (vp_cell (zcy E 14) ((zK q.2 o).2, .inr (.inl (vp_updL (zJ q.2 o) 0 z.toInt64)))) := by
        rw [e3]
        show some ((vp_cell _ _).setSlot _ _) = _
        rw [vp_cell_l, vp_cell_l, arrV_store]
        congr 2
        funext j
        by_cases hj : j = 0
        · subst hj; simp [updV, vp_updL, sb_cl0]
        · simp [updV, vp_updL, hj, sb_cl0]
      have hPn : va_P (zD E) vwCl (zws E (zpJ q.2 o 0 z.toInt64)) H1 := by rw [e5]; exact hP1.set hD1 hw hcell oq
      have hDn : va_D (zA E) (zws E (zpJ q.2 o 0 z.toInt64)) := by rw [e5]; exact hD1.set hw
      have hSn := hS'.put (k := (0 : Int32).toNatClampNeg) z1 oq (hD1.2 _ _ hw)
      exact W.iret hx hb hr (fun t9 ht9 hW9 => ⟨⟨some (.int 0), zpJ q.2 o 0 z.toInt64, rfl, ⟨by rw [hz0], by rw [hz0]⟩, by rw [ht9]; exact hPn, hDn, fun w => by rw [ht9, z1]; exact hz1 w⟩, hSn.F ht9⟩) hSn.2.2 d5 hlocks
    obtain ⟨t2, a2, b2⟩ := K T' e1 (by simpa using X')
    exact ⟨t2, stp t2 a2, b2⟩
  · subst hEn
    obtain ⟨hF1, hF2⟩ := hF
    rw [h0] at hF1 hF2
    have hS' : va_S (zA E) sx.heap t.heap L := ⟨hF1, hF2, hL⟩
    have hz0 : zres o q = (1, q.2) := by unfold zres; rw [hqn]
    have K : vx_W p (zl E) e (zrm M) sx m args below meth c t.heap L (0 + M.2.2.2.2.2.2.1) (0 + M.2.2.2.2.2.2.2) (MQ below (zQ E (fun v u => v = some (.int (zres o q).1) ∧ u = (zres o q).2)) args sx M.2.2.2.2.2.2.1 M.2.2.2.2.2.2.2 (zA E)) (F0 m pc la [.int 0, .ref (zb E + o)]) qa := by
      refine vx_catch hown [] ⟨a0, a1, hpc, ct⟩ [] htab (fun z hz => by cases hz) hcov hct0 (hts _ hck) (va_Nw.use rfl hcast) hce hcv hcl ?_
      refine hst _ _ _ _ _ _ (fun la' => ?_)
      refine lv_iconst (v := 1) hx hb d6 (by decide) ?_
      refine W.widen (k := M.2.2.2.2.2.2.1) (n := M.2.2.2.2.2.2.2) (by omega) (by omega) ?_
      exact W.iret hx hb hr (fun t9 ht9 hW9 => ⟨⟨some (.int 1), q.2, rfl, ⟨by rw [hz0], by rw [hz0]⟩, by rw [ht9]; exact hP1, hD1, fun w => by rw [hal1] at w; cases w⟩, hS'.F ht9⟩) hS'.2.2 d7 hlocks
    obtain ⟨t2, a2, b2⟩ := K T' e1 (by simpa using X')
    exact ⟨t2, stp.trans a2, b2⟩
end
