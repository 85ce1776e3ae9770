/-! The words in which a method is written as a function, and what they say of the machine. none: the machine would do what we don't follow. -/
def bnd {α β : Type} (o : Option α) (f : α → Option β) : Option β := match o with
  | none => none
  | some x => f x
def qI (s : zS) (c r k : Nat) : Option Int32 := if (zK s r).1 = c ∧ 0 < r ∧ r ≤ zn s then some (zI s r k) else none
def qR (s : zS) (c r k : Nat) : Option Nat := if ((zK s r).1 = c ∧ 0 < r ∧ r ≤ zn s) ∧ zR s r k ≠ 0 then some (zR s r k) else none
def qA (s : zS) (c r : Nat) (i : Int32) : Option Int32 := if ((zK s r).1 = c ∧ 0 < r ∧ r ≤ zn s) ∧ ¬ (i < 0 ∨ (zK s r).2 ≤ i.toNatClampNeg) then some (zI s r i.toNatClampNeg) else none
def qL (s : zS) (c r : Nat) : Option Int32 := if (zK s r).1 = c ∧ 0 < r ∧ r ≤ zn s then some (nI (zK s r).2) else none
def wI (s : zS) (c r k : Nat) (v : Int32) : Option zS := if (zK s r).1 = c ∧ 0 < r ∧ r ≤ zn s then some (zpI s r k v) else none
def wZ (s : zS) (c r k : Nat) (v : Int32) : Option zS := if ((zK s r).1 = c ∧ 0 < r ∧ r ≤ zn s) ∧ (v = 0 ∨ v = 1) then some (zpI s r k v) else none
def wR (s : zS) (c r k v : Nat) : Option zS := if ((zK s r).1 = c ∧ 0 < r ∧ r ≤ zn s) ∧ v ≠ 0 then some (zpR s r k v) else none
def uI (s : zS) (r : Nat) (i v : Int32) : Option zS := if ((zK s r).1 = 12 ∧ 0 < r ∧ r ≤ zn s) ∧ ¬ (i < 0 ∨ (zK s r).2 ≤ i.toNatClampNeg) then some (zpI s r i.toNatClampNeg v) else none
def uB (s : zS) (r : Nat) (i v : Int32) : Option zS := if ((zK s r).1 = 11 ∧ 0 < r ∧ r ≤ zn s) ∧ ¬ (i < 0 ∨ (zK s r).2 ≤ i.toNatClampNeg) then some (zpI s r i.toNatClampNeg v.toInt8.toInt32) else none
def uZ (s : zS) (r : Nat) (i v : Int32) : Option zS := if (((zK s r).1 = 13 ∧ 0 < r ∧ r ≤ zn s) ∧ ¬ (i < 0 ∨ (zK s r).2 ≤ i.toNatClampNeg)) ∧ (v = 0 ∨ v = 1) then some (zpI s r i.toNatClampNeg v) else none
def nO (s : zS) (c : Nat) : Option zS := if zal s = true then some (znew s c 0) else none
def nA (s : zS) (c : Nat) (n : Int32) (m : Nat) : Option zS := if zal s = true ∧ ¬ n < 0 ∧ n.toNatClampNeg ≤ m then some (znew s c n.toNatClampNeg) else none
def gd {α : Type} (P : Prop) [Decidable P] (o : Option α) : Option α := if P then o else none
/-- a call on role r of class c -/
def cl {α : Type} (s : zS) (c r : Nat) (o : Option α) : Option α := if (zK s r).1 = c ∧ 0 < r ∧ r ≤ zn s then o else none
def zmx (x y : Int32) : Int32 := if x < y then y else x
def zmn (x y : Int32) : Int32 := if y < x then y else x
def zab (x : Int32) : Int32 := if 0 ≤ x then x else 0 - x
def zfu : Nat := 100000
theorem bnd_i {α β : Type} {o : Option α} {f : α → Option β} {q : β} (h : bnd o f = some q) : ∃ x, o = some x ∧ f x = some q := by
  cases o with
  | none => cases h
  | some x => exact ⟨x, rfl, h⟩
theorem gd_i {α : Type} {P : Prop} [Decidable P] {o : Option α} {x : α} (h : gd P o = some x) : P ∧ o = some x := by
  unfold gd at h
  split at h
  · exact ⟨by assumption, h⟩
  · cases h
theorem ifp {α : Type} {P : Prop} [Decidable P] {a b q : α} (hc : P) (h : (if P then a else b) = q) : a = q := by rw [if_pos hc] at h; exact h
theorem ifn {α : Type} {P : Prop} [Decidable P] {a b q : α} (hc : ¬ P) (h : (if P then a else b) = q) : b = q := by rw [if_neg hc] at h; exact h
theorem opt_i {α : Type} {P : Prop} [Decidable P] {v x : α} (h : (if P then some v else none) = some x) : P ∧ v = x := by
  split at h
  · exact ⟨by assumption, Option.some.inj h⟩
  · cases h
theorem iI {β : Type} {s : zS} {c r k : Nat} {f : Int32 → Option β} {q : β} (h : bnd (qI s c r k) f = some q) : zok s c r ∧ ∃ x, zI s r k = x ∧ f x = some q := by
  obtain ⟨x, h1, h2⟩ := bnd_i h
  obtain ⟨h3, h4⟩ := opt_i h1
  exact ⟨h3, x, h4, h2⟩
theorem iR {β : Type} {s : zS} {c r k : Nat} {f : Nat → Option β} {q : β} (h : bnd (qR s c r k) f = some q) : zok s c r ∧ ∃ x, (zR s r k ≠ 0 ∧ zR s r k = x) ∧ f x = some q := by
  obtain ⟨x, h1, h2⟩ := bnd_i h
  obtain ⟨h3, h4⟩ := opt_i h1
  exact ⟨h3.1, x, ⟨h3.2, h4⟩, h2⟩
theorem iA {β : Type} {s : zS} {c r : Nat} {i : Int32} {f : Int32 → Option β} {q : β} (h : bnd (qA s c r i) f = some q) : (zok s c r ∧ vp_in i (zK s r).2) ∧ ∃ x, zI s r i.toNatClampNeg = x ∧ f x = some q := by
  obtain ⟨x, h1, h2⟩ := bnd_i h
  obtain ⟨h3, h4⟩ := opt_i h1
  exact ⟨h3, x, h4, h2⟩
theorem iL {β : Type} {s : zS} {c r : Nat} {f : Int32 → Option β} {q : β} (h : bnd (qL s c r) f = some q) : zok s c r ∧ ∃ x, nI (zK s r).2 = x ∧ f x = some q := by
  obtain ⟨x, h1, h2⟩ := bnd_i h
  obtain ⟨h3, h4⟩ := opt_i h1
  exact ⟨h3, x, h4, h2⟩
theorem jI {β : Type} {s : zS} {c r k : Nat} {v : Int32} {f : zS → Option β} {q : β} (h : bnd (wI s c r k v) f = some q) : zok s c r ∧ ∃ x, zpI s r k v = x ∧ f x = some q := by
  obtain ⟨x, h1, h2⟩ := bnd_i h
  obtain ⟨h3, h4⟩ := opt_i h1
  exact ⟨h3, x, h4, h2⟩
theorem jZ {β : Type} {s : zS} {c r k : Nat} {v : Int32} {f : zS → Option β} {q : β} (h : bnd (wZ s c r k v) f = some q) : (zok s c r ∧ zbl v) ∧ ∃ x, zpI s r k v = x ∧ f x = some q := by
  obtain ⟨x, h1, h2⟩ := bnd_i h
  obtain ⟨h3, h4⟩ := opt_i h1
  exact ⟨h3, x, h4, h2⟩
theorem jR {β : Type} {s : zS} {c r k v : Nat} {f : zS → Option β} {q : β} (h : bnd (wR s c r k v) f = some q) : (zok s c r ∧ v ≠ 0) ∧ ∃ x, zpR s r k v = x ∧ f x = some q := by
  obtain ⟨x, h1, h2⟩ := bnd_i h
  obtain ⟨h3, h4⟩ := opt_i h1
  exact ⟨h3, x, h4, h2⟩
theorem kI {β : Type} {s : zS} {r : Nat} {i v : Int32} {f : zS → Option β} {q : β} (h : bnd (uI s r i v) f = some q) : (zok s 12 r ∧ vp_in i (zK s r).2) ∧ ∃ x, zpI s r i.toNatClampNeg v = x ∧ f x = some q := by
  obtain ⟨x, h1, h2⟩ := bnd_i h
  obtain ⟨h3, h4⟩ := opt_i h1
  exact ⟨h3, x, h4, h2⟩
theorem kB {β : Type} {s : zS} {r : Nat} {i v : Int32} {f : zS → Option β} {q : β} (h : bnd (uB s r i v) f = some q) : (zok s 11 r ∧ vp_in i (zK s r).2) ∧ ∃ x, zpI s r i.toNatClampNeg v.toInt8.toInt32 = x ∧ f x = some q := by
  obtain ⟨x, h1, h2⟩ := bnd_i h
  obtain ⟨h3, h4⟩ := opt_i h1
  exact ⟨h3, x, h4, h2⟩
theorem kZ {β : Type} {s : zS} {r : Nat} {i v : Int32} {f : zS → Option β} {q : β} (h : bnd (uZ s r i v) f = some q) : ((zok s 13 r ∧ vp_in i (zK s r).2) ∧ zbl v) ∧ ∃ x, zpI s r i.toNatClampNeg v = x ∧ f x = some q := by
  obtain ⟨x, h1, h2⟩ := bnd_i h
  obtain ⟨h3, h4⟩ := opt_i h1
  exact ⟨h3, x, h4, h2⟩
theorem iNO {β : Type} {s : zS} {c : Nat} {f : zS → Option β} {q : β} (h : bnd (nO s c) f = some q) : zal s = true ∧ ∃ x, znew s c 0 = x ∧ f x = some q := by
  obtain ⟨x, h1, h2⟩ := bnd_i h
  obtain ⟨h3, h4⟩ := opt_i h1
  exact ⟨h3, x, h4, h2⟩
theorem iNA {β : Type} {s : zS} {c m : Nat} {n : Int32} {f : zS → Option β} {q : β} (h : bnd (nA s c n m) f = some q) : (zal s = true ∧ ¬ n < 0 ∧ n.toNatClampNeg ≤ m) ∧ ∃ x, znew s c n.toNatClampNeg = x ∧ f x = some q := by
  obtain ⟨x, h1, h2⟩ := bnd_i h
  obtain ⟨h3, h4⟩ := opt_i h1
  exact ⟨h3, x, h4, h2⟩
theorem iC {α β : Type} {s : zS} {c r : Nat} {o : Option α} {f : α → Option β} {q : β} (h : bnd (cl s c r o) f = some q) : zok s c r ∧ ∃ x, o = some x ∧ f x = some q := by
  obtain ⟨x, h1, h2⟩ := bnd_i h
  unfold cl at h1
  split at h1
  · exact ⟨by assumption, x, h1, h2⟩
  · cases h1
/-- what an int method does, what a void one does -/
def Ci (E : zE) (M : zM) (av : List Value) (s : zS) (x : Int32) (t : zS) : Prop := Ct E M av s (fun v u => v = some (.int x) ∧ u = t)
def Cv (E : zE) (M : zM) (av : List Value) (s : zS) (t : zS) : Prop := Ct E M av s (fun v u => v = none ∧ u = t)
def zRi (E : zE) (M : zM) (x : Int32) (t : zS) : zF := zR1 E M (fun v u => v = some (.int x) ∧ u = t)
def zRv (E : zE) (M : zM) (t : zS) : zF := zR1 E M (fun v u => v = none ∧ u = t)
section
variable {E : zE} {M : zM} {pc : Nat} {ls : List (Nat × Value)} {st : List Value} {s t : zS} {bud : Nat × Nat} {F : zF}
theorem y_getI {idx c k r : Nat} {x : Int32} (hF : zFL M.1.cls idx c k) (hd : decode M.2.1 pc = .ok (.getfield idx, 3)) (ht : zrt (zty c k) = false) (hr : zok s c r) (hx : zI s r k = x) (h : Z E M (pc + 3) ls (.int x :: st) s bud F) : Z E M pc ls (.ref r :: st) s bud F := z_getI hF hd ht hr (by rw [hx]; exact h)
theorem y_getR {idx c k r x : Nat} (hF : zFL M.1.cls idx c k) (hd : decode M.2.1 pc = .ok (.getfield idx, 3)) (ht : zrt (zty c k) = true) (hr : zok s c r) (hx : zR s r k ≠ 0 ∧ zR s r k = x) (h : Z E M (pc + 3) ls (.ref x :: st) s bud F) : Z E M pc ls (.ref r :: st) s bud F := z_getR hF hd ht hr hx.1 (by rw [hx.2]; exact h)
theorem y_putI {idx c k r : Nat} {x : Int32} (hF : zFL M.1.cls idx c k) (hd : decode M.2.1 pc = .ok (.putfield idx, 3)) (ht : zty c k = .int) (hw : zwr M c k) (hr : zok s c r) (hx : zpI s r k x = t) (h : Z E M (pc + 3) ls st t bud F) : Z E M pc ls (.int x :: .ref r :: st) s bud F := z_putI hF hd ht hw hr (by rw [hx]; exact h)
theorem y_putZ {idx c k r : Nat} {x : Int32} (hF : zFL M.1.cls idx c k) (hd : decode M.2.1 pc = .ok (.putfield idx, 3)) (ht : zty c k = .boolean) (hw : zwr M c k) (hr : zok s c r ∧ zbl x) (hx : zpI s r k x = t) (h : Z E M (pc + 3) ls st t bud F) : Z E M pc ls (.int x :: .ref r :: st) s bud F := z_putZ hF hd ht hw hr.1 hr.2 (by rw [hx]; exact h)
theorem y_putR {idx c k r v : Nat} (hF : zFL M.1.cls idx c k) (hd : decode M.2.1 pc = .ok (.putfield idx, 3)) (ht : zrt (zty c k) = true) (hw : zwr M c k) (hr : zok s c r ∧ v ≠ 0) (hx : zpR s r k v = t) (h : Z E M (pc + 3) ls st t bud F) : Z E M pc ls (.ref v :: .ref r :: st) s bud F := z_putR hF hd ht hw hr.1 hr.2 (by rw [hx]; exact h)
theorem y_iald {r : Nat} {i x : Int32} (hd : decode M.2.1 pc = .ok (.iaload, 1)) (hr : zok s 12 r ∧ vp_in i (zK s r).2) (hx : zI s r i.toNatClampNeg = x) (h : Z E M (pc + 1) ls (.int x :: st) s bud F) : Z E M pc ls (.int i :: .ref r :: st) s bud F := z_iald hd hr.1 hr.2 (by rw [hx]; exact h)
theorem y_bald {r : Nat} {i x : Int32} (hd : decode M.2.1 pc = .ok (.baload, 1)) (hr : zok s 11 r ∧ vp_in i (zK s r).2) (hx : zI s r i.toNatClampNeg = x) (h : Z E M (pc + 1) ls (.int x :: st) s bud F) : Z E M pc ls (.int i :: .ref r :: st) s bud F := z_bald hd hr.1 hr.2 (by rw [hx]; exact h)
theorem y_zald {r : Nat} {i x : Int32} (hd : decode M.2.1 pc = .ok (.baload, 1)) (hr : zok s 13 r ∧ vp_in i (zK s r).2) (hx : zI s r i.toNatClampNeg = x) (h : Z E M (pc + 1) ls (.int x :: st) s bud F) : Z E M pc ls (.int i :: .ref r :: st) s bud F := z_zald hd hr.1 hr.2 (by rw [hx]; exact h)
theorem y_alen {r c : Nat} {x : Int32} (hc1 : c = 11 ∨ c = 12 ∨ c = 13) (hd : decode M.2.1 pc = .ok (.arraylength, 1)) (hr : zok s c r) (hx : nI (zK s r).2 = x) (h : Z E M (pc + 1) ls (.int x :: st) s bud F) : Z E M pc ls (.ref r :: st) s bud F := z_alen hc1 hd hr (by rw [hx]; exact h)
theorem y_iast {r : Nat} {i x : Int32} (hd : decode M.2.1 pc = .ok (.iastore, 1)) (hr : zok s 12 r ∧ vp_in i (zK s r).2) (hx : zpI s r i.toNatClampNeg x = t) (h : Z E M (pc + 1) ls st t bud F) : Z E M pc ls (.int x :: .int i :: .ref r :: st) s bud F := z_iast hd hr.1 hr.2 (by rw [hx]; exact h)
theorem y_bast {r : Nat} {i x : Int32} (hd : decode M.2.1 pc = .ok (.bastore, 1)) (hr : zok s 11 r ∧ vp_in i (zK s r).2) (hx : zpI s r i.toNatClampNeg x.toInt8.toInt32 = t) (h : Z E M (pc + 1) ls st t bud F) : Z E M pc ls (.int x :: .int i :: .ref r :: st) s bud F := z_bast hd hr.1 hr.2 (by rw [hx]; exact h)
theorem y_zast {r : Nat} {i x : Int32} (hd : decode M.2.1 pc = .ok (.bastore, 1)) (hr : (zok s 13 r ∧ vp_in i (zK s r).2) ∧ zbl x) (hx : zpI s r i.toNatClampNeg x = t) (h : Z E M (pc + 1) ls st t bud F) : Z E M pc ls (.int x :: .int i :: .ref r :: st) s bud F := z_zast hd hr.1.1 hr.1.2 hr.2 (by rw [hx]; exact h)
theorem y_new {idx c b1 b2 : Nat} (hN : zNL M.1.cls idx c) (hd : decode M.2.1 pc = .ok (.new idx, 3)) (hal : zal s = true) (hb1 : b1 + 1 = bud.1) (hb2 : b2 + zN c = bud.2) (hx : znew s c 0 = t) (h : Z E M (pc + 3) ls (.ref (zn s + 1) :: st) t (b1, b2) F) : Z E M pc ls st s bud F := z_new hN hd hal (by omega) (by omega) (by rw [hx, show bud.1 - 1 = b1 by omega, show bud.2 - zN c = b2 by omega]; exact h)
theorem zRA_i (U : State) (cA : ClassId) (h : va_RA U cA .int) : U.vm.findClass ("[" ++ FieldType.int.toString) = some cA := h
theorem zRA_b (U : State) (cA : ClassId) (h : va_RA U cA .byte) : U.vm.findClass ("[" ++ FieldType.byte.toString) = some cA := h
theorem zRA_z (U : State) (cA : ClassId) (h : va_RA U cA .boolean) : U.vm.findClass ("[" ++ FieldType.boolean.toString) = some cA := h
theorem z_widen {b : Nat × Nat} (h1 : b.1 ≤ bud.1) (h2 : b.2 ≤ bud.2) (h : Z E M pc ls st s b F) : Z E M pc ls st s bud F := fun p e sx m args below meth c H locs cells slots la hC hH hl b1 b2 => h p e sx m args below meth c H locs cells slots la hC hH hl (by omega) (by omega)
theorem y_newI {n : Int32} {m b1 b2 : Nat} (hw : Cond.arrayClass .int ∈ zALL) (hd : decode M.2.1 pc = .ok (.newarray .int, 2)) (hm : m ≤ 10000) (hal : zal s = true ∧ ¬ n < 0 ∧ n.toNatClampNeg ≤ m) (hb1 : b1 + 1 = bud.1) (hb2 : b2 + m = bud.2) (hx : znew s 12 n.toNatClampNeg = t) (h : Z E M (pc + 2) ls (.ref (zn s + 1) :: st) t (b1, b2) F) : Z E M pc ls (.int n :: st) s bud F :=
  z_newarr (at0 := .int) (c := 12) (t0 := 1) hw rfl (by decide) (by decide) rfl (fun E => rfl) zRA_i hd hal.1 hal.2.1 (by show _ * 4 ≤ _; omega) (by omega) (by omega) (by rw [hx]; exact z_widen (b := (b1, b2)) (by show b1 ≤ bud.1 - 1; omega) (by show b2 ≤ bud.2 - _; omega) h)
theorem y_newB {n : Int32} {m b1 b2 : Nat} (hw : Cond.arrayClass .byte ∈ zALL) (hd : decode M.2.1 pc = .ok (.newarray .byte, 2)) (hm : m ≤ 10000) (hal : zal s = true ∧ ¬ n < 0 ∧ n.toNatClampNeg ≤ m) (hb1 : b1 + 1 = bud.1) (hb2 : b2 + m = bud.2) (hx : znew s 11 n.toNatClampNeg = t) (h : Z E M (pc + 2) ls (.ref (zn s + 1) :: st) t (b1, b2) F) : Z E M pc ls (.int n :: st) s bud F :=
  z_newarr (at0 := .byte) (c := 11) (t0 := 0) hw rfl (by decide) (by decide) rfl (fun E => rfl) zRA_b hd hal.1 hal.2.1 (by show _ * 1 ≤ _; omega) (by omega) (by omega) (by rw [hx]; exact z_widen (b := (b1, b2)) (by show b1 ≤ bud.1 - 1; omega) (by show b2 ≤ bud.2 - _; omega) h)
theorem y_newZ {n : Int32} {m b1 b2 : Nat} (hw : Cond.arrayClass .boolean ∈ zALL) (hd : decode M.2.1 pc = .ok (.newarray .boolean, 2)) (hm : m ≤ 10000) (hal : zal s = true ∧ ¬ n < 0 ∧ n.toNatClampNeg ≤ m) (hb1 : b1 + 1 = bud.1) (hb2 : b2 + m = bud.2) (hx : znew s 13 n.toNatClampNeg = t) (h : Z E M (pc + 2) ls (.ref (zn s + 1) :: st) t (b1, b2) F) : Z E M pc ls (.int n :: st) s bud F :=
  z_newarr (at0 := .boolean) (c := 13) (t0 := 2) hw rfl (by decide) (by decide) rfl (fun E => rfl) zRA_z hd hal.1 hal.2.1 (by show _ * 1 ≤ _; omega) (by omega) (by omega) (by rw [hx]; exact z_widen (b := (b1, b2)) (by show b1 ≤ bud.1 - 1; omega) (by show b2 ≤ bud.2 - _; omega) h)
theorem y_ret (hd : decode M.2.1 pc = .ok (.return_, 1)) (hr : M.2.2.2.1 = none) (h : some s = some t) : Z E M pc ls [] s bud (zRv E M t) := z_ret hd hr ⟨rfl, Option.some.inj h⟩
theorem y_iret {x : Int32} {q : Int32 × zS} (hd : decode M.2.1 pc = .ok (.ireturn, 1)) (hr : M.2.2.2.1 = some .int) (h : some (x, s) = some q) : Z E M pc ls [.int x] s bud (zRi E M q.1 q.2) := by cases h; exact z_iret hd hr ⟨rfl, rfl⟩
theorem y_zret {x : Int32} {q : Int32 × zS} (hd : decode M.2.1 pc = .ok (.ireturn, 1)) (hr : M.2.2.2.1 = some .boolean) (h : gd (x = 0 ∨ x = 1) (some (x, s)) = some q) : Z E M pc ls [.int x] s bud (zRi E M q.1 q.2) := by obtain ⟨h1, h2⟩ := gd_i h; cases h2; exact z_zret hd hr h1 ⟨rfl, rfl⟩
theorem y_V {M2 : zM} {idx c n r : Nat} {As stk : List Value} {t : zS} (hct : Cv E M2 (.ref r :: As) s t) (hm : zMV M2 c n) (hl : Cond.methodLink M.1.cls idx M2.1 ∈ zALL) (hd : decode M.2.1 pc = .ok (.invokevirtual idx, 3)) (hR : zrm_ok M M2) (h0 : M2.2.2.2.2.2.2 = (0, 0)) (hstk : stk = As.reverse ++ .ref r :: st) (hn : As.length = n) (hst : zrest st) (hr : zok s c r) (h : Z E M (pc + 3) ls st t bud F) : Z E M pc ls stk s bud F :=
  z_callV hct hm hl hd hR hstk hn hst (by rw [h0]; exact Nat.zero_le _) (by rw [h0]; exact Nat.zero_le _) hr (fun v u hq => by obtain ⟨rfl, rfl⟩ := hq; rw [h0]; exact h)
theorem y_Vi {M2 : zM} {idx c n r : Nat} {As stk : List Value} {q : Int32 × zS} (hct : Ci E M2 (.ref r :: As) s q.1 q.2) (hm : zMV M2 c n) (hl : Cond.methodLink M.1.cls idx M2.1 ∈ zALL) (hd : decode M.2.1 pc = .ok (.invokevirtual idx, 3)) (hR : zrm_ok M M2) (h0 : M2.2.2.2.2.2.2 = (0, 0)) (hstk : stk = As.reverse ++ .ref r :: st) (hn : As.length = n) (hst : zrest st) (hr : zok s c r) (h : Z E M (pc + 3) ls (.int q.1 :: st) q.2 bud F) : Z E M pc ls stk s bud F :=
  z_callV hct hm hl hd hR hstk hn hst (by rw [h0]; exact Nat.zero_le _) (by rw [h0]; exact Nat.zero_le _) hr (fun v u hq => by obtain ⟨rfl, rfl⟩ := hq; rw [h0]; exact h)
theorem y_Si {M2 : zM} {idx n : Nat} {As stk : List Value} {q : Int32 × zS} (hct : Ci E M2 As s q.1 q.2) (hm : zMl M2 n) (hms : Cond.static M2.1 ∈ zALL) (hl : Cond.methodLink M.1.cls idx M2.1 ∈ zALL) (hd : decode M.2.1 pc = .ok (.invokestatic idx, 3)) (hR : zrm_ok M M2) (h0 : M2.2.2.2.2.2.2 = (0, 0)) (hstk : stk = As.reverse ++ st) (hn : As.length = n) (hst : zrest st) (h : Z E M (pc + 3) ls (.int q.1 :: st) q.2 bud F) : Z E M pc ls stk s bud F :=
  z_callS hct hm hms hl hd hR hstk hn hst (by rw [h0]; exact Nat.zero_le _) (by rw [h0]; exact Nat.zero_le _) (fun v u hq => by obtain ⟨rfl, rfl⟩ := hq; rw [h0]; exact h)
theorem y_S {M2 : zM} {idx n : Nat} {As stk : List Value} {t : zS} (hct : Cv E M2 As s t) (hm : zMl M2 n) (hms : Cond.static M2.1 ∈ zALL) (hl : Cond.methodLink M.1.cls idx M2.1 ∈ zALL) (hd : decode M.2.1 pc = .ok (.invokestatic idx, 3)) (hR : zrm_ok M M2) (h0 : M2.2.2.2.2.2.2 = (0, 0)) (hstk : stk = As.reverse ++ st) (hn : As.length = n) (hst : zrest st) (h : Z E M (pc + 3) ls st t bud F) : Z E M pc ls stk s bud F :=
  z_callS hct hm hms hl hd hR hstk hn hst (by rw [h0]; exact Nat.zero_le _) (by rw [h0]; exact Nat.zero_le _) (fun v u hq => by obtain ⟨rfl, rfl⟩ := hq; rw [h0]; exact h)
theorem y_SNi {M2 : zM} {idx n : Nat} {As stk : List Value} {q : Int32 × zS} (hct : Ci E M2 As s q.1 q.2) (hm : zMl M2 n) (hms : Cond.static M2.1 ∈ zALL) (hl : ∀ (E : zE) (U : State), zX E U → va_Nw (.methodLinkNest M.1.cls idx M2.1 RX9) U) (hd : decode M.2.1 pc = .ok (.invokestatic idx, 3)) (hR : zrm_ok M M2) (h0 : M2.2.2.2.2.2.2 = (0, 0)) (hstk : stk = As.reverse ++ st) (hn : As.length = n) (hst : zrest st) (h : Z E M (pc + 3) ls (.int q.1 :: st) q.2 bud F) : Z E M pc ls stk s bud F :=
  z_callSN hct hm hms hl hd hR hstk hn hst (by rw [h0]; exact Nat.zero_le _) (by rw [h0]; exact Nat.zero_le _) (fun v u hq => by obtain ⟨rfl, rfl⟩ := hq; rw [h0]; exact h)
theorem y_I {M2 : zM} {idx n r b1 b2 : Nat} {As stk : List Value} {t : zS} (hct : Cv E M2 (.ref r :: As) s t) (hm : zMl M2 n) (hmi : Cond.instanceMethod M2.1 ∈ zALL) (hnm : M2.1.name = "<init>") (hrt : M2.2.2.2.1 = none) (hl : Cond.methodLink M.1.cls idx M2.1 ∈ zALL) (hd : decode M.2.1 pc = .ok (.invokespecial idx, 3)) (hR : zrm_ok M M2) (hstk : stk = As.reverse ++ .ref r :: st) (hn : As.length = n) (hst : zrest st) (hb1 : b1 + M2.2.2.2.2.2.2.1 = bud.1) (hb2 : b2 + M2.2.2.2.2.2.2.2 = bud.2) (h : Z E M (pc + 3) ls st t (b1, b2) F) : Z E M pc ls stk s bud F :=
  z_callI hct hm hmi hnm hrt hl hd hR hstk hn hst (by omega) (by omega) (fun v u hq => by obtain ⟨rfl, rfl⟩ := hq; rw [show bud.1 - M2.2.2.2.2.2.2.1 = b1 by omega, show bud.2 - M2.2.2.2.2.2.2.2 = b2 by omega]; exact h)
theorem y_IN {M2 : zM} {idx n r b1 b2 : Nat} {As stk : List Value} {t : zS} (hct : Cv E M2 (.ref r :: As) s t) (hm : zMl M2 n) (hmi : Cond.instanceMethod M2.1 ∈ zALL) (hnm : M2.1.name = "<init>") (hrt : M2.2.2.2.1 = none) (hl : ∀ (E : zE) (U : State), zX E U → va_Nw (.methodLinkNest M.1.cls idx M2.1 RX9) U) (hd : decode M.2.1 pc = .ok (.invokespecial idx, 3)) (hR : zrm_ok M M2) (hstk : stk = As.reverse ++ .ref r :: st) (hn : As.length = n) (hst : zrest st) (hb1 : b1 + M2.2.2.2.2.2.2.1 = bud.1) (hb2 : b2 + M2.2.2.2.2.2.2.2 = bud.2) (h : Z E M (pc + 3) ls st t (b1, b2) F) : Z E M pc ls stk s bud F :=
  z_callIN hct hm hmi hnm hrt hl hd hR hstk hn hst (by omega) (by omega) (fun v u hq => by obtain ⟨rfl, rfl⟩ := hq; rw [show bud.1 - M2.2.2.2.2.2.2.1 = b1 by omega, show bud.2 - M2.2.2.2.2.2.2.2 = b2 by omega]; exact h)
theorem zrest0 : zrest [] := fun _ => by simp
end
