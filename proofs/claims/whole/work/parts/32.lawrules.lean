/-! Rules for the law's own body: the script, its small methods, its end. -/
abbrev mL_law : zM := (yL_law, cL_law, 7, some .boolean, 12, 444, 601024, 7293034)
/-- the script of L ints xs lies at zaS E 300, below the base; what is asked at the law's entry -/
def zScr (E : zE) (L : Nat) (xs : Nat → Int32) (sx : State) : Prop := va_X (zaS E 300) L xs sx sx.heap ∧ zaS E 300 < sx.heap.size ∧ ¬ zA E (zaS E 300) ∧ sx.heap.size = zb E + 1
def lw_Q (_ : Array Value) (s : State) (o : Outcome) (t : State) : Prop := o = .returned (some (.int 1)) ∧ Framed s o t [] 601024 7293034
def lw_Z (below : List Frame) (a : Array Value) (s : State) : State → Prop := fun t => ∃ o, t.status = .running ∧ Ended t below o ∧ lw_Q a s o t
/-- where the law has come to its end with 1; a state that isn't the law's start asks nothing -/
def zLF (E : zE) (L : Nat) (xs : Nat → Int32) : zF := fun below args sx t => ¬ zScr E L xs sx ∨ lw_Z below args sx t
def qS (L : Nat) (xs : Nat → Int32) (i : Int32) : Option Int32 := if ¬ (i < 0 ∨ L ≤ i.toNatClampNeg) then some (xs i.toNatClampNeg) else none
def qJ (s : zS) (r : Nat) (i : Int32) : Option Int64 := if ((zK s r).1 = 14 ∧ 0 < r ∧ r ≤ zn s) ∧ ¬ (i < 0 ∨ (zK s r).2 ≤ i.toNatClampNeg) then some (zJ s r i.toNatClampNeg) else none
def hq (s : zS) (x o : Nat) (w : Option (Option Int32 × zS)) : Option (Int32 × zS) := if (zK s x).1 = 9 ∧ 0 < x ∧ x ≤ zn s then bnd w fun q => if ((zK q.2 o).1 = 14 ∧ 0 < o ∧ o ≤ zn q.2) ∧ 0 < (zK q.2 o).2 then some (zres o q) else none else none
def znz (x : Int32) : Int32 := if x = 0 then 0 else 1
def zfz (s : zS) : zS := ((s.1.1, false), s.2)
theorem iS {β : Type} {L : Nat} {xs : Nat → Int32} {i : Int32} {f : Int32 → Option β} {q : β} (h : bnd (qS L xs i) f = some q) : vp_in i L ∧ ∃ x, xs i.toNatClampNeg = x ∧ f x = some q := by
  obtain ⟨x, h1, h2⟩ := bnd_i h
  obtain ⟨h3, h4⟩ := opt_i h1
  exact ⟨h3, x, h4, h2⟩
theorem iJ {β : Type} {s : zS} {r : Nat} {i : Int32} {f : Int64 → Option β} {q : β} (h : bnd (qJ s r i) f = some q) : (zok s 14 r ∧ vp_in i (zK s r).2) ∧ ∃ x, zJ s r i.toNatClampNeg = x ∧ f x = some q := by
  obtain ⟨x, h1, h2⟩ := bnd_i h
  obtain ⟨h3, h4⟩ := opt_i h1
  exact ⟨h3, x, h4, h2⟩
theorem iH {β : Type} {s : zS} {x o : Nat} {w : Option (Option Int32 × zS)} {f : Int32 × zS → Option β} {r : β} (h : bnd (hq s x o w) f = some r) : zok s 9 x ∧ ∃ q, w = some q ∧ (zok q.2 14 o ∧ 0 < (zK q.2 o).2) ∧ ∃ y, zres o q = y ∧ f y = some r := by
  obtain ⟨y, h1, h2⟩ := bnd_i h
  unfold hq at h1
  split at h1
  · obtain ⟨q, h3, h4⟩ := bnd_i h1
    obtain ⟨h5, h6⟩ := opt_i h4
    exact ⟨by assumption, q, h3, h5, y, h6, h2⟩
  · cases h1
section
variable {E : zE} {M : zM} {pc : Nat} {ls : List (Nat × Value)} {st : List Value} {s : zS} {bud : Nat × Nat} {L : Nat} {xs : Nat → Int32} {F : zF}
theorem z_slen (hd : decode M.2.1 pc = .ok (.arraylength, 1)) (h : Z E M (pc + 1) ls (.int (nI L) :: st) s bud (zLF E L xs)) : Z E M pc ls (.retAddr 300 :: st) s bud (zLF E L xs) := by
  intro p e sx m args below meth c H locs cells slots la hC hH hl b1 b2
  by_cases hs : zScr E L xs sx
  · exact va_slen hC.1 hC.2.1 hs.1 hs.2.1 hs.2.2.1 hH.2.2.1 hd (h p e sx m args below meth c H locs cells slots la hC hH hl b1 b2)
  · exact fun T hT X => ⟨_, Steps.refl _, Or.inl hs⟩
theorem z_sld {i x : Int32} (hd : decode M.2.1 pc = .ok (.iaload, 1)) (hi : vp_in i L) (hx : xs i.toNatClampNeg = x) (h : Z E M (pc + 1) ls (.int x :: st) s bud (zLF E L xs)) : Z E M pc ls (.int i :: .retAddr 300 :: st) s bud (zLF E L xs) := by
  subst hx
  intro p e sx m args below meth c H locs cells slots la hC hH hl b1 b2
  by_cases hs : zScr E L xs sx
  · exact va_sld hC.1 hC.2.1 hs.1 hs.2.1 hs.2.2.1 hH.2.2.1 hi hd (h p e sx m args below meth c H locs cells slots la hC hH hl b1 b2)
  · exact fun T hT X => ⟨_, Steps.refl _, Or.inl hs⟩
theorem y_lald {r : Nat} {i : Int32} {x : Int64} (hd : decode M.2.1 pc = .ok (.laload, 1)) (hr : zok s 14 r ∧ vp_in i (zK s r).2) (hx : zJ s r i.toNatClampNeg = x) (h : Z E M (pc + 1) ls (.long x :: st) s bud F) : Z E M pc ls (.int i :: .ref r :: st) s bud F := z_lald hd hr.1 hr.2 (by rw [hx]; exact h)
/-- x != 0 as a value -/
theorem z_nz {x : Int32} {o1 o2 : Int} (d0 : decode M.2.1 pc = .ok (.ifCond .eq o1, 3)) (h1 : (pc : Int) + o1 = ((pc + 7 : Nat) : Int)) (d1 : decode M.2.1 (pc + 3) = .ok (.iconst 1, 1)) (d2 : decode M.2.1 (pc + 4) = .ok (.goto o2, 3)) (h2 : ((pc + 4 : Nat) : Int) + o2 = ((pc + 8 : Nat) : Int)) (d3 : decode M.2.1 (pc + 7) = .ok (.iconst 0, 1)) (h : Z E M (pc + 8) ls (.int (znz x) :: st) s bud F) : Z E M pc ls (.int x :: st) s bud F := by
  refine z_if_eq (tgt := pc + 7) d0 h1 (fun hc => ?_) (fun hc => ?_)
  · refine z_iconst (v := 0) d3 (by decide) ?_
    have : znz x = 0 := if_pos hc
    rw [this] at h
    exact h
  · refine z_iconst (v := 1) d1 (by decide) ?_
    refine z_goto (tgt := pc + 8) d2 h2 ?_
    have : znz x = 1 := if_neg hc
    rw [this] at h
    exact h
theorem zfz_ws : zws E (zfz s) = zws E s := rfl
theorem z_freeze (h : Z E M pc ls st (zfz s) bud F) : Z E M pc ls st s bud F :=
  fun p e sx m args below meth c H locs cells slots la hC hH hl b1 b2 => h p e sx m args below meth c H locs cells slots la hC ⟨hH.1, hH.2.1, hH.2.2.1, fun q => by cases q⟩ hl b1 b2
/-- a call of one of the law's own methods, which has a table of exceptions -/
theorem y_SW {M2 : zM} {hh : List (Nat × Nat × Nat × Nat)} {idx n b1 b2 : Nat} {As stk : List Value} {r : Int32 × zS} (hct : Ch E M2 hh As s r) (hw : Cond.codeWith M2.1 M2.2.1 M2.2.2.1 M2.2.2.2.1 hh ∈ zALL) (hm : Cond.initialized M2.1.cls ∈ zALL ∧ M2.1.cls ≠ "java/lang/invoke/MethodHandle" ∧ M2.1.cls ≠ "java/lang/invoke/VarHandle" ∧ (parseMethodDescriptor M2.1.desc).map (fun d => d.parameters.length) = some n) (hms : Cond.static M2.1 ∈ zALL) (hl : Cond.methodLink M.1.cls idx M2.1 ∈ zALL) (hd : decode M.2.1 pc = .ok (.invokestatic idx, 3)) (hR : zrm_ok M M2) (hstk : stk = As.reverse ++ st) (hn : As.length = n) (hst : zrest st) (hb1 : b1 + M2.2.2.2.2.2.2.1 = bud.1) (hb2 : b2 + M2.2.2.2.2.2.2.2 = bud.2)
    (h : Z E M (pc + 3) ls (.int r.1 :: st) r.2 (b1, b2) F) : Z E M pc ls stk s bud F := by
  subst hstk
  intro p e sx m args below meth c0 H locs cells slots la hC hH hv c1 c2
  have hts := hC.2.2.2.2.2.1
  have hG : GoodIn zALL (va_wsS M.1.cls idx M2.1 (zWh M2 hh)) := fun w hw' => by
    have : w ∈ zALL := by
      unfold va_wsS zWh at hw'
      rcases List.mem_append.mp hw' with h1 | h1
      · rcases List.mem_cons.mp h1 with rfl | h1
        · exact hl
        rcases List.mem_cons.mp h1 with rfl | h1
        · exact hms
        rcases List.mem_cons.mp h1 with rfl | h1
        · exact hm.1
        · cases h1
      · rcases List.mem_cons.mp h1 with rfl | h1
        · exact hw
        · exact h1
    exact zALL_good w this
  have R1 := vx_runSW (p := p) (e := e) (below := below) (meth := meth) (locs := locs) (cells := cells) (slots := slots) (g := F0 m pc la ((As.reverse ++ st).map (zv E))) (As := As.map (zv E)) (rest := st.map (zv E)) (n := n) ⟨hC.1, hC.2.1, hC.2.2.2.1, hC.2.2.2.2.1, hts⟩ hct (vx_cwSW (R := zrm M) n hts hG rfl rfl rfl hm.2 hR) ⟨zP.blind, fun U hU hW => ⟨rfl, zP.of hH hC.2.2.2.2.2.2.2.2.1 hU hW⟩⟩ rfl (by rw [List.length_map]; exact hn) hv.1 (by simp) (lv_room (hst E)) hd ⟨show cells + _ ≤ M.2.2.2.2.2.2.1 by omega, show slots + _ ≤ M.2.2.2.2.2.2.2 by omega⟩
  exact z_run R1 hC hH hv c1 c2 (by omega) (by omega) (fun v u hq => by obtain ⟨rfl, rfl⟩ := hq; rw [show bud.1 - M2.2.2.2.2.2.2.1 = b1 by omega, show bud.2 - M2.2.2.2.2.2.2.2 = b2 by omega]; exact h)
/-- the law's end -/
theorem y_lret {x : Int32} {q : Int32 × zS} (hd : decode cL_law pc = .ok (.ireturn, 1)) (h : some (x, s) = some q) (h1 : q.1 = 1) : Z E mL_law pc ls [.int x] s bud (zLF E L xs) := by
  cases h
  have h1 : x = 1 := h1
  subst h1
  intro p e sx m args below meth c H locs cells slots la hC hH hl b1 b2
  by_cases hs : zScr E L xs sx
  · intro T hT X0
    have X := Stand.forget (locs := []) (extra := locs) (by simpa using X0) (fun q hq => by have := hH.2.2.1.2.2 q hq; have h9 : zb E < q.base := this; have := hs.2.2.2; omega)
    have hlocks : meth.locks = false := hC.2.2.2.2.2.2.1
    have hr : meth.sig.returnType = some .boolean := hC.2.2.1
    have hb : c.code = cL_law := hC.2.1
    have X := stand_widen (k := 601024) (n := 7293034) X (show cells ≤ 601024 from by have : cells + bud.1 ≤ 601024 := b1; omega) (show slots ≤ 7293034 from by have : slots + bud.2 ≤ 7293034 := b2; omega)
    obtain ⟨fs, hret, hrun, hended, hW, hframe⟩ := X.leave (v := some (.int 1)) (hlocks := hlocks) (fun h => by rw [hr] at h; cases h)
    have hmeth' : T.vm.method? m = some meth := X.method'
    refine ⟨T.setFrames fs, ?_, Or.inr ⟨.returned (some (.int 1)), hrun, hended, rfl, ⟨_, rfl⟩, hW, hframe⟩⟩
    have hx : p.tables.exec = Jvm.exec := hC.1
    show Steps _ _ _ (T.setTop (F0 m pc la [.int 1])) _
    jvm_step X.here [X.here.top, hx, hb, hd, hmeth', hr, narrow_b1]
    (try refine ⟨rfl, ?_⟩); (try refine ⟨rfl, ?_⟩)
    first | (intro acts; rw [hret _ acts rfl rfl rfl]) | rw [hret _ _ rfl rfl rfl]
    exact Steps.refl _
  · exact fun T hT X => ⟨_, Steps.refl _, Or.inl hs⟩
/-- new long[1] -/
theorem y_newJ {b1 b2 : Nat} {t : zS} (hw : Cond.arrayClass .long ∈ zALL) (hd : decode M.2.1 pc = .ok (.newarray .long, 2)) (hal : zal s = true) (hb1 : b1 + 1 = bud.1) (hb2 : b2 + 1 = bud.2) (hx : znew s 14 1 = t) (h : Z E M (pc + 2) ls (.ref (zn s + 1) :: st) t (b1, b2) F) : Z E M pc ls (.int 1 :: st) s bud F := by
  subst hx
  intro p e sx m args below meth c0 H locs cells slots la hC hH hl c1 c2
  have hz := hH.2.2.2 hal
  have hts := hC.2.2.2.2.2.1
  have hKt := hC.2.2.2.2.2.2.2.2.1.2.1.2 3 _ (ztys_l E)
  refine va_newaK (atype := .long) (N := 1) hC.1 hC.2.1 (hts _ hw) rfl hd rfl (by decide) (by decide) (by decide) (show cells + 1 ≤ M.2.2.2.2.2.2.1 by omega) (show slots + 1 ≤ M.2.2.2.2.2.2.2 by omega) (h := zb E + (zn s + 1)) (by omega) fun H1 cA e1 z1 o1 hAr hNm => ?_
  have hcA : cA = zcy E 14 := Option.some.inj (hNm.symm.trans hKt.2)
  subst hcA
  refine h p e sx m args below meth c0 H1 locs (cells + 1) (slots + 1) la hC (zH_new hal hH hC.2.2.2.2.2.2.2.2.1.1 (by omega) (fun q hq => o1 q (by omega)) ?_) hl (by show _ + b1 ≤ _; omega) (by show _ + b2 ≤ _; omega)
  rw [zcell_lng (s := znew s 14 1) (by rw [znew_K, if_pos rfl])]
  show H1[zb E + (zn s + 1)]? = some (vp_cell _ _)
  rw [e1, vp_cell_l, znew_K, if_pos rfl]
  congr 2
  funext j
  rw [znew_J, if_pos rfl]
  rfl
end
