/-! THE ABSTRACT MACHINE. A state is five functions of numbers ('roles', 1 on; 0 is null): role r stands at address b + r. Z is the machine's judgement over it, a rule an instruction. -/
/-- launch, classes' numbers and slots, array classes by kind, base, addresses of the texts (below 100: the String, from 100 on: its bytes) -/
abbrev zE : Type := Launch × va_G × (Nat → ClassId) × Nat × (Nat → Nat)
def zl (E : zE) : Launch := E.1
def zD (E : zE) : va_G := E.2.1
def zcy (E : zE) (k : Nat) : ClassId := E.2.2.1 k
def zb (E : zE) : Nat := E.2.2.2.1
def zaS (E : zE) (k : Nat) : Nat := E.2.2.2.2 k
/-- name, code, locals, answer; room: frames, locals, cells, slots -/
abbrev zM : Type := MethodName × ByteArray × Nat × Option FieldType × Nat × Nat × Nat × Nat
def zrm (M : zM) : Room := { frames := M.2.2.2.2.1, locals := M.2.2.2.2.2.1, cells := M.2.2.2.2.2.2.1, slots := M.2.2.2.2.2.2.2 }
/-- how many roles, and whether roles may still be made; kinds and lengths; ints; references; longs -/
abbrev zS : Type := (Nat × Bool) × (Nat → Nat × Nat) × (Nat → Nat → Int32) × (Nat → Nat → Nat) × (Nat → Nat → Int64)
def zn (s : zS) : Nat := s.1.1
def zal (s : zS) : Bool := s.1.2
def zK (s : zS) (r : Nat) : Nat × Nat := s.2.1 r
def zI (s : zS) (r k : Nat) : Int32 := s.2.2.1 r k
def zR (s : zS) (r k : Nat) : Nat := s.2.2.2.1 r k
def zJ (s : zS) (r k : Nat) : Int64 := s.2.2.2.2 r k
def zpI (s : zS) (r k : Nat) (v : Int32) : zS := (s.1, s.2.1, (fun a j => if a = r ∧ j = k then v else s.2.2.1 a j), s.2.2.2.1, s.2.2.2.2)
def zpR (s : zS) (r k v : Nat) : zS := (s.1, s.2.1, s.2.2.1, (fun a j => if a = r ∧ j = k then v else s.2.2.2.1 a j), s.2.2.2.2)
def zpJ (s : zS) (r k : Nat) (v : Int64) : zS := (s.1, s.2.1, s.2.2.1, s.2.2.2.1, (fun a j => if a = r ∧ j = k then v else s.2.2.2.2 a j))
def znew (s : zS) (c len : Nat) : zS := ((s.1.1 + 1, s.1.2), (fun a => if a = s.1.1 + 1 then (c, len) else s.2.1 a), (fun a j => if a = s.1.1 + 1 then 0 else s.2.2.1 a j), (fun a j => if a = s.1.1 + 1 then 0 else s.2.2.2.1 a j), (fun a j => if a = s.1.1 + 1 then 0 else s.2.2.2.2 a j))
def zok (s : zS) (c r : Nat) : Prop := (zK s r).1 = c ∧ 0 < r ∧ r ≤ zn s
theorem zpI_n (s : zS) (r k : Nat) (v : Int32) : zn (zpI s r k v) = zn s := rfl
theorem zpI_K (s : zS) (r k : Nat) (v : Int32) (a : Nat) : zK (zpI s r k v) a = zK s a := rfl
theorem zpI_R (s : zS) (r k : Nat) (v : Int32) (a j : Nat) : zR (zpI s r k v) a j = zR s a j := rfl
theorem zpI_J (s : zS) (r k : Nat) (v : Int32) (a j : Nat) : zJ (zpI s r k v) a j = zJ s a j := rfl
theorem zpI_I (s : zS) (r k : Nat) (v : Int32) (a j : Nat) : zI (zpI s r k v) a j = if a = r ∧ j = k then v else zI s a j := rfl
theorem zpR_n (s : zS) (r k v : Nat) : zn (zpR s r k v) = zn s := rfl
theorem zpR_K (s : zS) (r k v : Nat) (a : Nat) : zK (zpR s r k v) a = zK s a := rfl
theorem zpR_I (s : zS) (r k v : Nat) (a j : Nat) : zI (zpR s r k v) a j = zI s a j := rfl
theorem zpR_J (s : zS) (r k v : Nat) (a j : Nat) : zJ (zpR s r k v) a j = zJ s a j := rfl
theorem zpR_R (s : zS) (r k v : Nat) (a j : Nat) : zR (zpR s r k v) a j = if a = r ∧ j = k then v else zR s a j := rfl
/-- the machine's value of ours -/
def zv (E : zE) : Value → Value
  | .ref r => .ref (zb E + r)
  | .retAddr k => .ref (zaS E k)
  | v => v
def zlv (E : zE) (q : Nat × Value) : Nat × Value := (q.1, zv E q.2)
def zty (c k : Nat) : FieldType := match c with
  | 0 => tyX0 k | 1 => tyX1 k | 2 => tyX2 k | 3 => tyX3 k | 4 => tyX4 k | 5 => tyX5 k | 6 => tyX6 k | 7 => tyX7 k | 8 => tyX8 k | 9 => tyX9 k | _ => tyX10 k
def zN (c : Nat) : Nat := match c with
  | 0 => 2 | 1 => 10 | 2 => 4 | 3 => 11 | 4 => 18 | 5 => 9 | 6 => 1 | 7 => 6 | 8 => 4 | 9 => 10 | _ => 59
def zT (c : Nat) : u_T := match c with
  | 0 => TX0 | 1 => TX1 | 2 => TX2 | 3 => TX3 | 4 => TX4 | 5 => TX5 | 6 => TX6 | 7 => TX7 | 8 => TX8 | 9 => TX9 | _ => TX10
def zC1 (c : Nat) : String := match c with
  | 0 => RX0 | 1 => RX1 | 2 => RX2 | 3 => RX3 | 4 => RX4 | 5 => RX5 | 6 => RX6 | 7 => RX7 | 8 => RX8 | 9 => RX9 | _ => RX10
def zrt : FieldType → Bool
  | .object _ => true
  | .array _ => true
  | _ => false
def zfv (E : zE) (s : zS) (c r k : Nat) : Value := if zrt (zty c k) = true then (if zR s r k = 0 then .null else .ref (zb E + zR s r k)) else .int (zI s r k)
def zfs (E : zE) (s : zS) (c r : Nat) : List Value := (List.range (zN c)).map (fun k => zfv E s c r k)
/-- kinds: 0 .. 10 the classes, 11 byte[], 12 int[], 13 boolean[], 14 long[] -/
def zcell (E : zE) (s : zS) (r : Nat) : va_E :=
  if (zK s r).1 < 11 then .inr ((zK s r).1, zfs E s (zK s r).1 r)
  else if (zK s r).1 = 14 then .inl (zcy E 14, (zK s r).2, .inr (.inl (zJ s r)))
  else .inl (zcy E (zK s r).1, (zK s r).2, .inl (zI s r))
def zws (E : zE) (s : zS) : va_W := (List.range (zn s)).map (fun i => (zb E + (i + 1), zcell E s (i + 1)))
def zA (E : zE) : Nat → Prop := fun q => zb E < q
def ztys (E : zE) : List (ClassId × FieldType) := [(zcy E 11, .byte), (zcy E 12, .int), (zcy E 13, .boolean), (zcy E 14, .long)]
/-- all words that last -/
def zALL : List Cond := lw_tbl.filter goodWord
theorem zALL_in {w : Cond} (h : w ∈ lw_tbl) (g : goodWord w = true) : w ∈ zALL := List.mem_filter.mpr ⟨h, g⟩
theorem zALL_good : GoodIn zALL zALL := fun w h => ⟨h, good_of_word (List.mem_filter.mp h).2⟩
theorem zmap_set {α : Type} {f g : Nat → α} {n i : Nat} (hi : i < n) (h : ∀ j, j ≠ i → g j = f j) : (List.range n).map g = ((List.range n).map f).set i (g i) := by
  apply List.ext_getElem?
  intro j
  rw [List.getElem?_set]
  by_cases hj : j < n
  · by_cases e : i = j
    · subst e; simp [hj]
    · simp [hj, e, h j (fun q => e q.symm)]
  · have : ¬ i = j := by omega
    simp [hj, this]
theorem zws_get {E : zE} {s : zS} {r : Nat} (h0 : 0 < r) (hn : r ≤ zn s) : (zws E s)[r - 1]? = some (zb E + r, zcell E s r) := by
  unfold zws
  rw [List.getElem?_map, List.getElem?_range (by omega)]
  simp [Nat.sub_add_cancel h0]
theorem zws_set {E : zE} {s t : zS} {r : Nat} (h0 : 0 < r) (hn : r ≤ zn s) (ht : zn t = zn s) (h : ∀ a, a ≠ r → zcell E t a = zcell E s a) : zws E t = (zws E s).set (r - 1) (zb E + r, zcell E t r) := by
  unfold zws
  rw [ht]
  have e := zmap_set (f := fun i => (zb E + (i + 1), zcell E s (i + 1))) (g := fun i => (zb E + (i + 1), zcell E t (i + 1))) (n := zn s) (i := r - 1) (by omega) (fun j hj => by rw [h (j + 1) (by omega)])
  rw [e, Nat.sub_add_cancel h0]
theorem zcell_obj {E : zE} {s : zS} {r c : Nat} (hc : c < 11) (h : (zK s r).1 = c) : zcell E s r = .inr (c, zfs E s c r) := by
  unfold zcell; rw [h, if_pos hc]
theorem zcell_arr {E : zE} {s : zS} {r c : Nat} (h1 : 11 ≤ c) (h2 : c ≠ 14) (h : (zK s r).1 = c) : zcell E s r = .inl (zcy E c, (zK s r).2, .inl (zI s r)) := by
  unfold zcell; rw [h, if_neg (by omega), if_neg h2]
theorem zcell_lng {E : zE} {s : zS} {r : Nat} (h : (zK s r).1 = 14) : zcell E s r = .inl (zcy E 14, (zK s r).2, .inr (.inl (zJ s r))) := by
  unfold zcell; rw [h, if_neg (by decide), if_pos rfl]
/-- the classes' tables -/
theorem zcls : ∀ c, c < 11 → vwCl[c]? = some (zC1 c, zT c, zN c) ∧ (∀ k, k < zN c → parseFieldDescriptor (zT c k).2.2.1 = some (zty c k)) ∧ (∀ a, a < zN c → ∀ b, b < zN c → a ≠ b → (zT c a).2.1 ≠ (zT c b).2.1) := by
  intro c hc
  match c, hc with
  | 0, _ => exact ⟨rfl, tyX0_ok, nmX0⟩
  | 1, _ => exact ⟨rfl, tyX1_ok, nmX1⟩
  | 2, _ => exact ⟨rfl, tyX2_ok, nmX2⟩
  | 3, _ => exact ⟨rfl, tyX3_ok, nmX3⟩
  | 4, _ => exact ⟨rfl, tyX4_ok, nmX4⟩
  | 5, _ => exact ⟨rfl, tyX5_ok, nmX5⟩
  | 6, _ => exact ⟨rfl, tyX6_ok, nmX6⟩
  | 7, _ => exact ⟨rfl, tyX7_ok, nmX7⟩
  | 8, _ => exact ⟨rfl, tyX8_ok, nmX8⟩
  | 9, _ => exact ⟨rfl, tyX9_ok, nmX9⟩
  | 10, _ => exact ⟨rfl, tyX10_ok, nmX10⟩
  | n + 11, h => omega
theorem zin0 : ∀ w ∈ u_ws RX0 TX0 2, w ∈ zALL := by decide +kernel
theorem zin1 : ∀ w ∈ u_ws RX1 TX1 10, w ∈ zALL := by decide +kernel
theorem zin2 : ∀ w ∈ u_ws RX2 TX2 4, w ∈ zALL := by decide +kernel
theorem zin3 : ∀ w ∈ u_ws RX3 TX3 11, w ∈ zALL := by decide +kernel
theorem zin4 : ∀ w ∈ u_ws RX4 TX4 18, w ∈ zALL := by decide +kernel
theorem zin5 : ∀ w ∈ u_ws RX5 TX5 9, w ∈ zALL := by decide +kernel
theorem zin6 : ∀ w ∈ u_ws RX6 TX6 1, w ∈ zALL := by decide +kernel
theorem zin7 : ∀ w ∈ u_ws RX7 TX7 6, w ∈ zALL := by decide +kernel
theorem zin8 : ∀ w ∈ u_ws RX8 TX8 4, w ∈ zALL := by decide +kernel
theorem zin9 : ∀ w ∈ u_ws RX9 TX9 10, w ∈ zALL := by decide +kernel
theorem zin10 : ∀ w ∈ u_ws RX10 TX10 59, w ∈ zALL := by decide +kernel
theorem zin : ∀ c, c < 11 → ∀ w ∈ u_ws (zC1 c) (zT c) (zN c), w ∈ zALL := by
  intro c hc
  match c, hc with
  | 0, _ => exact zin0
  | 1, _ => exact zin1
  | 2, _ => exact zin2
  | 3, _ => exact zin3
  | 4, _ => exact zin4
  | 5, _ => exact zin5
  | 6, _ => exact zin6
  | 7, _ => exact zin7
  | 8, _ => exact zin8
  | 9, _ => exact zin9
  | 10, _ => exact zin10
  | n + 11, h => omega
