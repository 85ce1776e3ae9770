/-! Rules of the heap: fields, arrays, new cells, calls, answers. -/
/-- the field reference idx of class own is field k of class c -/
def zFL (own : String) (idx c k : Nat) : Prop := c < 11 ∧ k < zN c ∧ Cond.fieldLink own idx (zT c k).1 (zT c k).2.1 (zT c k).2.2.1 ∈ zALL
theorem zfs_len (E : zE) (s : zS) (c r : Nat) : (zfs E s c r).length = zN c := by simp [zfs]
theorem zfs_at {E : zE} {s : zS} {c r k : Nat} (hk : k < zN c) : (zfs E s c r)[k]? = some (zfv E s c r k) := by
  unfold zfs
  rw [List.getElem?_map, List.getElem?_range hk]; rfl
theorem zws_obj {E : zE} {s : zS} {c r : Nat} (hc : c < 11) (h : zok s c r) : (zws E s)[r - 1]? = some (zb E + r, .inr (c, zfs E s c r)) := by
  rw [zws_get h.2.1 h.2.2, zcell_obj hc h.1]
theorem zws_arr {E : zE} {s : zS} {c r : Nat} (h1 : 11 ≤ c) (h2 : c ≠ 14) (h : zok s c r) : (zws E s)[r - 1]? = some (zb E + r, .inl (zcy E c, (zK s r).2, .inl (zI s r))) := by
  rw [zws_get h.2.1 h.2.2, zcell_arr h1 h2 h.1]
theorem zws_lng {E : zE} {s : zS} {r : Nat} (h : zok s 14 r) : (zws E s)[r - 1]? = some (zb E + r, .inl (zcy E 14, (zK s r).2, .inr (.inl (zJ s r)))) := by
  rw [zws_get h.2.1 h.2.2, zcell_lng h.1]
/-- two states that are alike at a role have the same cell there -/
theorem zcell_same {E : zE} {s t : zS} {a : Nat} (hK : zK t a = zK s a) (hI : ∀ j, zI t a j = zI s a j) (hR : ∀ j, zR t a j = zR s a j) (hJ : ∀ j, zJ t a j = zJ s a j) : zcell E t a = zcell E s a := by
  have eI : zI t a = zI s a := funext hI
  have eJ : zJ t a = zJ s a := funext hJ
  have eF : ∀ c, zfs E t c a = zfs E s c a := fun c => by
    unfold zfs zfv
    simp only [hI, hR]
  unfold zcell
  rw [hK, eI, eJ, eF]
theorem zws_pI {E : zE} {s : zS} {r k : Nat} {v : Int32} (h0 : 0 < r) (hn : r ≤ zn s) : zws E (zpI s r k v) = (zws E s).set (r - 1) (zb E + r, zcell E (zpI s r k v) r) :=
  zws_set h0 hn rfl (fun a ha => zcell_same rfl (fun j => by rw [zpI_I, if_neg (fun q => ha q.1)]) (fun j => rfl) (fun j => rfl))
theorem zws_pR {E : zE} {s : zS} {r k v : Nat} (h0 : 0 < r) (hn : r ≤ zn s) : zws E (zpR s r k v) = (zws E s).set (r - 1) (zb E + r, zcell E (zpR s r k v) r) :=
  zws_set h0 hn rfl (fun a ha => zcell_same rfl (fun j => rfl) (fun j => by rw [zpR_R, if_neg (fun q => ha q.1)]) (fun j => rfl))
theorem zws_pJ {E : zE} {s : zS} {r k : Nat} {v : Int64} (h0 : 0 < r) (hn : r ≤ zn s) : zws E (zpJ s r k v) = (zws E s).set (r - 1) (zb E + r, zcell E (zpJ s r k v) r) :=
  zws_set h0 hn rfl (fun a ha => zcell_same rfl (fun j => rfl) (fun j => rfl) (fun j => by show (if a = r ∧ j = k then v else zJ s a j) = zJ s a j; rw [if_neg (fun q => ha q.1)]))
theorem zfs_pI {E : zE} {s : zS} {c r k : Nat} {v : Int32} (hk : k < zN c) (ht : zrt (zty c k) = false) : zfs E (zpI s r k v) c r = (zfs E s c r).set k (.int v) := by
  unfold zfs
  have e : Value.int v = zfv E (zpI s r k v) c r k := by unfold zfv; rw [ht]; simp [zpI_I]
  rw [e]
  exact zmap_set hk (fun j hj => by unfold zfv; rw [zpI_I, zpI_R]; simp [hj])
theorem zfs_pR {E : zE} {s : zS} {c r k v : Nat} (hk : k < zN c) (ht : zrt (zty c k) = true) (hv : v ≠ 0) : zfs E (zpR s r k v) c r = (zfs E s c r).set k (.ref (zb E + v)) := by
  unfold zfs
  have e : Value.ref (zb E + v) = zfv E (zpR s r k v) c r k := by unfold zfv; rw [ht]; simp [zpR_R, hv]
  rw [e]
  exact zmap_set hk (fun j hj => by unfold zfv; rw [zpR_I, zpR_R]; simp [hj])
section
variable {E : zE} {M : zM} {pc : Nat} {ls : List (Nat × Value)} {st : List Value} {s : zS} {bud : Nat × Nat} {F : zF}
theorem z_getI {idx c k r : Nat} (hF : zFL M.1.cls idx c k) (hd : decode M.2.1 pc = .ok (.getfield idx, 3)) (ht : zrt (zty c k) = false) (hr : zok s c r) (h : Z E M (pc + 3) ls (.int (zI s r k) :: st) s bud F) : Z E M pc ls (.ref r :: st) s bud F := by
  intro p e sx m args below meth c0 H locs cells slots la hC hH hl b1 b2
  obtain ⟨hc, hk, hw⟩ := hF
  obtain ⟨g1, g2, g3⟩ := zcls c hc
  refine va_get (D := zD E) (ci := c) (v := .int (zI s r k)) (C := zC1 c) (T := zT c) (N := zN c) hC.1 hC.2.1 hC.2.2.2.2.2.1 (zin c hc) hC.2.2.2.2.1 hC.2.2.2.2.2.2.2.2.1.2.1 hH.1 (r - 1) (zws_obj hc hr) g1 k hk (hC.2.2.2.2.2.1 _ hw) (fun _ q => q) ?_ hd (h p e sx m args below meth c0 H locs cells slots la hC hH hl b1 b2)
  rw [zfs_at hk]; unfold zfv; rw [ht]; rfl
theorem z_getR {idx c k r : Nat} (hF : zFL M.1.cls idx c k) (hd : decode M.2.1 pc = .ok (.getfield idx, 3)) (ht : zrt (zty c k) = true) (hr : zok s c r) (h0 : zR s r k ≠ 0) (h : Z E M (pc + 3) ls (.ref (zR s r k) :: st) s bud F) : Z E M pc ls (.ref r :: st) s bud F := by
  intro p e sx m args below meth c0 H locs cells slots la hC hH hl b1 b2
  obtain ⟨hc, hk, hw⟩ := hF
  obtain ⟨g1, g2, g3⟩ := zcls c hc
  refine va_get (D := zD E) (ci := c) (v := .ref (zb E + zR s r k)) (C := zC1 c) (T := zT c) (N := zN c) hC.1 hC.2.1 hC.2.2.2.2.2.1 (zin c hc) hC.2.2.2.2.1 hC.2.2.2.2.2.2.2.2.1.2.1 hH.1 (r - 1) (zws_obj hc hr) g1 k hk (hC.2.2.2.2.2.1 _ hw) (fun _ q => q) ?_ hd (h p e sx m args below meth c0 H locs cells slots la hC hH hl b1 b2)
  rw [zfs_at hk]; unfold zfv; rw [ht, if_pos rfl, if_neg h0]
/-- a field is written: a field that isn't final, or any in its class's constructor; the heap keeps its size -/
theorem zz_put {p : Program} {l : Launch} {e : Env} {R : Room} {sx : State} {m : MethodId} {args : Array Value} {below : List Frame} {meth : Method} {c0 : Code} {H : Heap} {locs : List Loc} {cells slots : Nat} {Q : State → Prop} {cc : ByteArray} {la : Array Slot} {rest : List Value} {A : Nat → Prop} {H0 : Heap} {ws : va_W} {tys : List (ClassId × FieldType)} {D : va_G} {a : Nat}
    (hx : p.tables.exec = Jvm.exec) (hb : c0.code = cc) {own : String} (hts : ∀ w ∈ zALL, w.before args sx = true) (hown : sx.vm.findClass own = some m.cls) (hK : va_K D vwCl tys sx) (hP : va_P D vwCl ws H) (hD : va_D A ws) (hS0 : va_S A H0 H locs) (q0 c k idx : Nat) {fs : List Value} (he : ws[q0]? = some (a, .inr (c, fs))) (hF : zFL own idx c k)
    (hfin : (zT c k).2.2.2 = false ∨ ((zT c k).2.2.2 = true ∧ meth.name = "<init>" ∧ (zT c k).1 = own)) {v : Value} (hn : narrow (zty c k) v = v) (hfit : fits (zty c k) v = true) (hl : k < fs.length) (hdg : decode cc pc = .ok (.putfield idx, 3))
    (kk : ∀ (H1 : Heap) (locs1 : List Loc), H1.size = H.size → va_P D vwCl (ws.set q0 (a, .inr (c, fs.set k v))) H1 → va_D A (ws.set q0 (a, .inr (c, fs.set k v))) → va_S A H0 H1 locs1 → W p l e R sx m args below meth c0 H1 locs1 cells slots Q (F0 m (pc + 3) la rest)) : W p l e R sx m args below meth c0 H locs cells slots Q (F0 m pc la (v :: .ref a :: rest)) := by
  obtain ⟨hc, hk, hw⟩ := hF
  obtain ⟨g1, g2, g3⟩ := zcls c hc
  have hap := va_apart (own := own) hts (zin c hc) (zty c) g2 g3 hK g1
  obtain ⟨r, h1, cell, q1, q2, q3, q4⟩ := hP q0 _ he
  have hr : r = (zC1 c, zT c, zN c) := Option.some.inj (h1.symm.trans g1)
  subst hr
  obtain ⟨hS, hfc, kC, hkC, hkind⟩ := hK.1 c _ g1
  obtain ⟨cf, kf, fi, f, hi, hsl⟩ := hS k hk
  have hlay := hts _ (zin c hc _ (u_in_lay hk))
  unfold u_lay at hlay
  have hst := (u_facts hfc hkC (u_lays hts (zin c hc) hk) hi).1
  rcases hfin with hfin | ⟨hfin, hin2, hdecl⟩
  · rw [if_neg (by rw [hfin]; decide)] at hlay
    have h6 := u_store hfc hkC hkind hlay hi (g2 k hk) hn hfit
    refine W.putK hx hb (f := f) ⟨hown, hts _ hw, ⟨_, _, _, hi⟩, hst⟩ (by rw [q2]; exact h6) q1 q3 (by rw [hsl]; exact k2_hasslot (q4 k hk)) rfl rfl hdg fun H' e1 e2 e3 => ?_
    rw [hsl] at e1 ⊢
    exact kk H' _ e2 (hP.set hD he ⟨_, g1, t_OB.to (V := updV (vp_V fs) k v) ⟨_, e1, q2, q3, t_set q4 hap hk v⟩ (fun j _ => vp_updV_set hl v j)⟩ e3) (hD.set he) (hS0.put e2 e3 (hD.2 q0 _ he))
  · rw [if_pos hfin] at hlay
    have hcf : m.cls = cf := by
      obtain ⟨_, _, c', _, _, _, -, -, hf', -, -, -, hown2, -⟩ := Cond.laysFinal_spec hlay
      have e1 : c' = cf := by have := hi.symm.trans hf'; simp at this; exact this.1.symm
      rw [hdecl] at hown2
      rw [← e1]; exact Option.some.inj (hown.symm.trans hown2)
    have h6 := u_fits hfc hkC hkind (Or.inr hlay) hi (g2 k hk) hn hfit
    refine W.putFinK hx hb hown (hts _ hw) hi hst hcf hin2 (by rw [q2]; exact h6) q1 q3 (by rw [hsl]; exact k2_hasslot (q4 k hk)) rfl rfl hdg fun H' e1 e2 e3 => ?_
    rw [hsl] at e1 ⊢
    exact kk H' _ e2 (hP.set hD he ⟨_, g1, t_OB.to (V := updV (vp_V fs) k v) ⟨_, e1, q2, q3, t_set q4 hap hk v⟩ (fun j _ => vp_updV_set hl v j)⟩ e3) (hD.set he) (hS0.put e2 e3 (hD.2 q0 _ he))
/-- whether M may write field k of class c -/
def zwr (M : zM) (c k : Nat) : Prop := (zT c k).2.2.2 = false ∨ ((zT c k).2.2.2 = true ∧ M.1.name = "<init>" ∧ (zT c k).1 = M.1.cls)
theorem z_putV {idx c k r : Nat} {v : Value} {t : zS} (hF : zFL M.1.cls idx c k) (hd : decode M.2.1 pc = .ok (.putfield idx, 3)) (hw : zwr M c k) (hr : zok s c r) (hn : narrow (zty c k) (zv E v) = zv E v) (hf : fits (zty c k) (zv E v) = true) (he : zws E t = (zws E s).set (r - 1) (zb E + r, .inr (c, (zfs E s c r).set k (zv E v)))) (hal : zal t = zal s) (hnn : zn t = zn s) (h : Z E M (pc + 3) ls st t bud F) : Z E M pc ls (v :: .ref r :: st) s bud F := by
  intro p e sx m args below meth c0 H locs cells slots la hC hH hl b1 b2
  refine zz_put hC.1 hC.2.1 hC.2.2.2.2.2.1 hC.2.2.2.2.1 hC.2.2.2.2.2.2.2.2.1.2.1 hH.1 hH.2.1 hH.2.2.1 (r - 1) c k idx (zws_obj hF.1 hr) hF (hw.imp id (fun q => ⟨q.1, hC.2.2.2.2.2.2.2.1.trans q.2.1, q.2.2⟩)) hn hf (by rw [zfs_len]; exact hF.2.1) hd (fun H1 locs1 z1 hP1 hD1 hS1 => ?_)
  rw [← he] at hP1 hD1
  exact h p e sx m args below meth c0 H1 locs1 cells slots la hC ⟨hP1, hD1, hS1, fun q => by rw [z1, hnn]; exact hH.2.2.2 (by rw [← hal]; exact q)⟩ hl b1 b2
theorem zws_putI {c r k : Nat} {v : Int32} (hc : c < 11) (hk : k < zN c) (ht : zrt (zty c k) = false) (hr : zok s c r) : zws E (zpI s r k v) = (zws E s).set (r - 1) (zb E + r, .inr (c, (zfs E s c r).set k (.int v))) := by
  rw [zws_pI hr.2.1 hr.2.2, zcell_obj (s := zpI s r k v) hc hr.1, zfs_pI hk ht]
theorem zws_putR {c r k v : Nat} (hc : c < 11) (hk : k < zN c) (ht : zrt (zty c k) = true) (hv : v ≠ 0) (hr : zok s c r) : zws E (zpR s r k v) = (zws E s).set (r - 1) (zb E + r, .inr (c, (zfs E s c r).set k (.ref (zb E + v)))) := by
  rw [zws_pR hr.2.1 hr.2.2, zcell_obj (s := zpR s r k v) hc hr.1, zfs_pR hk ht hv]
theorem z_putI {idx c k r : Nat} {x : Int32} (hF : zFL M.1.cls idx c k) (hd : decode M.2.1 pc = .ok (.putfield idx, 3)) (ht : zty c k = .int) (hw : zwr M c k) (hr : zok s c r) (h : Z E M (pc + 3) ls st (zpI s r k x) bud F) : Z E M pc ls (.int x :: .ref r :: st) s bud F :=
  z_putV hF hd hw hr (by rw [ht]; rfl) (by rw [ht]; rfl) (zws_putI hF.1 hF.2.1 (by rw [ht]; rfl) hr) rfl rfl h
def zbl (x : Int32) : Prop := x = 0 ∨ x = 1
theorem z_putZ {idx c k r : Nat} {x : Int32} (hF : zFL M.1.cls idx c k) (hd : decode M.2.1 pc = .ok (.putfield idx, 3)) (ht : zty c k = .boolean) (hw : zwr M c k) (hr : zok s c r) (hx : zbl x) (h : Z E M (pc + 3) ls st (zpI s r k x) bud F) : Z E M pc ls (.int x :: .ref r :: st) s bud F :=
  z_putV hF hd hw hr (by rw [ht]; rcases hx with rfl | rfl <;> rfl) (by rw [ht]; rcases hx with rfl | rfl <;> rfl) (zws_putI hF.1 hF.2.1 (by rw [ht]; rfl) hr) rfl rfl h
theorem z_putR {idx c k r v : Nat} (hF : zFL M.1.cls idx c k) (hd : decode M.2.1 pc = .ok (.putfield idx, 3)) (ht : zrt (zty c k) = true) (hw : zwr M c k) (hr : zok s c r) (hv : v ≠ 0) (h : Z E M (pc + 3) ls st (zpR s r k v) bud F) : Z E M pc ls (.ref v :: .ref r :: st) s bud F := by
  refine z_putV hF hd hw hr ?_ ?_ (zws_putR hF.1 hF.2.1 ht hv hr) rfl rfl h
  · cases hq : zty c k with
    | object _ => rfl
    | array _ => rfl
    | _ => rw [hq] at ht; cases ht
  · cases hq : zty c k with
    | object _ => rfl
    | array _ => rfl
    | _ => rw [hq] at ht; cases ht
/-! arrays -/
theorem ztys_b (E : zE) : (ztys E)[0]? = some (zcy E 11, .byte) := rfl
theorem ztys_i (E : zE) : (ztys E)[1]? = some (zcy E 12, .int) := rfl
theorem ztys_z (E : zE) : (ztys E)[2]? = some (zcy E 13, .boolean) := rfl
theorem ztys_l (E : zE) : (ztys E)[3]? = some (zcy E 14, .long) := rfl
theorem z_iald {r : Nat} {i : Int32} (hd : decode M.2.1 pc = .ok (.iaload, 1)) (hr : zok s 12 r) (hi : vp_in i (zK s r).2) (h : Z E M (pc + 1) ls (.int (zI s r i.toNatClampNeg) :: st) s bud F) : Z E M pc ls (.int i :: .ref r :: st) s bud F :=
  fun p e sx m args below meth c H locs cells slots la hC hH hl b1 b2 => va_iald hC.1 hC.2.1 hC.2.2.2.2.2.2.2.2.1.2.1 hH.1 (r - 1) 1 (zws_arr (by decide) (by decide) hr) (ztys_i E) hi hd (h p e sx m args below meth c H locs cells slots la hC hH hl b1 b2)
theorem z_bald {r : Nat} {i : Int32} (hd : decode M.2.1 pc = .ok (.baload, 1)) (hr : zok s 11 r) (hi : vp_in i (zK s r).2) (h : Z E M (pc + 1) ls (.int (zI s r i.toNatClampNeg) :: st) s bud F) : Z E M pc ls (.int i :: .ref r :: st) s bud F :=
  fun p e sx m args below meth c H locs cells slots la hC hH hl b1 b2 => va_bald hC.1 hC.2.1 hC.2.2.2.2.2.2.2.2.1.2.1 hH.1 (r - 1) 0 (zws_arr (by decide) (by decide) hr) (ztys_b E) hi hd (h p e sx m args below meth c H locs cells slots la hC hH hl b1 b2)
theorem z_zald {r : Nat} {i : Int32} (hd : decode M.2.1 pc = .ok (.baload, 1)) (hr : zok s 13 r) (hi : vp_in i (zK s r).2) (h : Z E M (pc + 1) ls (.int (zI s r i.toNatClampNeg) :: st) s bud F) : Z E M pc ls (.int i :: .ref r :: st) s bud F :=
  fun p e sx m args below meth c H locs cells slots la hC hH hl b1 b2 => va_zald hC.1 hC.2.1 hC.2.2.2.2.2.2.2.2.1.2.1 hH.1 (r - 1) 2 (zws_arr (by decide) (by decide) hr) (ztys_z E) hi hd (h p e sx m args below meth c H locs cells slots la hC hH hl b1 b2)
theorem z_lald {r : Nat} {i : Int32} (hd : decode M.2.1 pc = .ok (.laload, 1)) (hr : zok s 14 r) (hi : vp_in i (zK s r).2) (h : Z E M (pc + 1) ls (.long (zJ s r i.toNatClampNeg) :: st) s bud F) : Z E M pc ls (.int i :: .ref r :: st) s bud F :=
  fun p e sx m args below meth c H locs cells slots la hC hH hl b1 b2 => va_lald hC.1 hC.2.1 hC.2.2.2.2.2.2.2.2.1.2.1 hH.1 (r - 1) 3 (zws_lng hr) (ztys_l E) hi hd (h p e sx m args below meth c H locs cells slots la hC hH hl b1 b2)
theorem z_alen {r c : Nat} (hc1 : c = 11 ∨ c = 12 ∨ c = 13) (hd : decode M.2.1 pc = .ok (.arraylength, 1)) (hr : zok s c r) (h : Z E M (pc + 1) ls (.int (nI (zK s r).2) :: st) s bud F) : Z E M pc ls (.ref r :: st) s bud F :=
  fun p e sx m args below meth c0 H locs cells slots la hC hH hl b1 b2 => by
    have hw : (zws E s)[r - 1]? = some (zb E + r, .inl (zcy E c, (zK s r).2, .inl (zI s r))) := by
      rcases hc1 with rfl | rfl | rfl <;> exact zws_arr (by decide) (by decide) hr
    rcases hc1 with rfl | rfl | rfl
    · exact va_alen hC.1 hC.2.1 hC.2.2.2.2.2.2.2.2.1.2.1 hH.1 (r - 1) 0 hw (ztys_b E) rfl hd (h p e sx m args below meth c0 H locs cells slots la hC hH hl b1 b2)
    · exact va_alen hC.1 hC.2.1 hC.2.2.2.2.2.2.2.2.1.2.1 hH.1 (r - 1) 1 hw (ztys_i E) rfl hd (h p e sx m args below meth c0 H locs cells slots la hC hH hl b1 b2)
    · exact va_alen hC.1 hC.2.1 hC.2.2.2.2.2.2.2.2.1.2.1 hH.1 (r - 1) 2 hw (ztys_z E) rfl hd (h p e sx m args below meth c0 H locs cells slots la hC hH hl b1 b2)
theorem z_stI {c r : Nat} {k : Nat} {y : Int32} {p : Program} {e : Env} {sx : State} {m : MethodId} {args : Array Value} {below : List Frame} {meth : Method} {c0 : Code} {H H1 : Heap} {locs : List Loc} {cells slots : Nat} {la : Array Slot} {pc1 : Nat} (h1 : 11 ≤ c) (h2 : c ≠ 14) (hr : zok s c r) (hC : zC E M p sx m args meth c0) (hH : zH E s sx H locs) (hl : lv_has la M.2.2.1 (ls.map (zlv E))) (b1 : cells + bud.1 ≤ M.2.2.2.2.2.2.1) (b2 : slots + bud.2 ≤ M.2.2.2.2.2.2.2)
    (h : Z E M pc1 ls st (zpI s r k y) bud F) (hc1 : H1[zb E + r]? = some (vp_cell (zcy E c) ((zK s r).2, .inl (upd (zI s r) k y)))) (z : H1.size = H.size) (oq : ∀ q, q ≠ zb E + r → H1[q]? = H[q]?) : W p (zl E) e (zrm M) sx m args below meth c0 H1 (locs ++ [⟨zb E + r, k⟩]) cells slots (F below args sx) (F0 m pc1 la (st.map (zv E))) := by
  have hw := zws_arr (E := E) h1 h2 hr
  have ec : zcell E (zpI s r k y) r = .inl (zcy E c, (zK s r).2, .inl (upd (zI s r) k y)) := by
    rw [zcell_arr (s := zpI s r k y) h1 h2 hr.1, zpI_K]
    congr 4
    funext j
    rw [zpI_I]
    simp [upd]
  have e2 : zws E (zpI s r k y) = (zws E s).set (r - 1) (zb E + r, .inl (zcy E c, (zK s r).2, .inl (upd (zI s r) k y))) := by rw [zws_pI hr.2.1 hr.2.2, ec]
  refine h p e sx m args below meth c0 H1 _ cells slots la hC ⟨?_, ?_, hH.2.2.1.put z oq (hH.2.1.2 _ _ hw), fun q => by rw [z]; exact hH.2.2.2 q⟩ hl b1 b2
  · rw [e2]; exact hH.1.set hH.2.1 hw hc1 oq
  · rw [e2]; exact hH.2.1.set hw
theorem zst_cell {cA : ClassId} {n k : Nat} {f : Nat → Int32} {y : Int32} {v : Value} (hv : v = .int y) : (vp_cell cA (n, .inl f)).setSlot k v = vp_cell cA (n, .inl (upd f k y)) := by
  subst hv
  rw [vp_cell_i, vp_cell_i, arrV_store]
  congr 1
  funext q
  by_cases hq : q = k
  · subst hq; simp [updV, upd]
  · simp [updV, upd, hq]
theorem z_iast {r : Nat} {i x : Int32} (hd : decode M.2.1 pc = .ok (.iastore, 1)) (hr : zok s 12 r) (hi : vp_in i (zK s r).2) (h : Z E M (pc + 1) ls st (zpI s r i.toNatClampNeg x) bud F) : Z E M pc ls (.int x :: .int i :: .ref r :: st) s bud F :=
  fun p e sx m args below meth c H locs cells slots la hC hH hl b1 b2 =>
    W.iast hC.1 hC.2.1 (hH.1 (r - 1) _ (zws_arr (by decide) (by decide) hr)) ((hC.2.2.2.2.2.2.2.2.1.2.1.2 1 _ (ztys_i E)).1 (zK s r).2 (fun j => .int (zI s r j))) (fun q => by cases q) (by show ¬ (i < 0 ∨ (arrV _ _ _).slots.size ≤ _); rw [arrV_size]; exact hi) rfl rfl hd fun H1 e1 z oq => z_stI (by decide) (by decide) hr hC hH hl b1 b2 h (by rw [e1]; exact congrArg some (zst_cell rfl)) z oq
theorem z_bast {r : Nat} {i x : Int32} (hd : decode M.2.1 pc = .ok (.bastore, 1)) (hr : zok s 11 r) (hi : vp_in i (zK s r).2) (h : Z E M (pc + 1) ls st (zpI s r i.toNatClampNeg x.toInt8.toInt32) bud F) : Z E M pc ls (.int x :: .int i :: .ref r :: st) s bud F :=
  fun p e sx m args below meth c H locs cells slots la hC hH hl b1 b2 =>
    W.bast hC.1 hC.2.1 (hH.1 (r - 1) _ (zws_arr (by decide) (by decide) hr)) ((hC.2.2.2.2.2.2.2.2.1.2.1.2 0 _ (ztys_b E)).1 (zK s r).2 (fun j => .int (zI s r j))) (fun q => by cases q) (by show ¬ (i < 0 ∨ (arrV _ _ _).slots.size ≤ _); rw [arrV_size]; exact hi) rfl rfl hd fun H1 e1 z oq => z_stI (by decide) (by decide) hr hC hH hl b1 b2 h (by rw [e1]; exact congrArg some (zst_cell rfl)) z oq
theorem z_zast {r : Nat} {i x : Int32} (hd : decode M.2.1 pc = .ok (.bastore, 1)) (hr : zok s 13 r) (hi : vp_in i (zK s r).2) (hx : zbl x) (h : Z E M (pc + 1) ls st (zpI s r i.toNatClampNeg x) bud F) : Z E M pc ls (.int x :: .int i :: .ref r :: st) s bud F :=
  fun p e sx m args below meth c H locs cells slots la hC hH hl b1 b2 =>
    W.zast hC.1 hC.2.1 (hH.1 (r - 1) _ (zws_arr (by decide) (by decide) hr)) ((hC.2.2.2.2.2.2.2.2.1.2.1.2 2 _ (ztys_z E)).1 (zK s r).2 (fun j => .int (zI s r j))) (fun q => by cases q) (by show ¬ (i < 0 ∨ (arrV _ _ _).slots.size ≤ _); rw [arrV_size]; exact hi) rfl rfl hd fun H1 e1 z oq => z_stI (by decide) (by decide) hr hC hH hl b1 b2 h (by rw [e1]; exact congrArg some (zst_cell (by rcases hx with rfl | rfl <;> rfl))) z oq
end
