/-! The words, for each role. -/
theorem bnd_x {α β : Type} (x : α) (f : α → Option β) : bnd (some x) f = f x := Eq.trans rfl rfl
theorem gd_p {α : Type} {P : Prop} {i : Decidable P} {o : Option α} (h : P) : @gd α P i o = o := if_pos h
theorem gd_o0 {α : Type} {P : Prop} {i : Decidable (True ∨ P)} {o : Option α} : @gd α (True ∨ P) i o = o := if_pos (Or.inl trivial)
theorem gd_o1 {α : Type} {P : Prop} {i : Decidable (P ∨ True)} {o : Option α} : @gd α (P ∨ True) i o = o := if_pos (Or.inr trivial)
section
variable {I : Nat → Nat → Int32} {v : zV} {J : Nat → Nat → Int64}
theorem a_7 (p : Int32) : fX6_at 7 p (st I v J) = some (rd I 7 p, st I v J) := at_st rfl p
theorem p_7 (p x : Int32) : fX6_put 7 p x (st I v J) = some (st (wr I 7 p x) v J) := put_st rfl p x
theorem f_7 (x : Int32) : fX6_fill 7 x (st I v J) = some (st (fillN I 8 2000 x) v J) := fill_st rfl x
theorem c_7 {α : Type} {o : Option α} : cl (st I v J) 6 7 o = o := cl_st rfl
theorem a_9 (p : Int32) : fX6_at 9 p (st I v J) = some (rd I 9 p, st I v J) := at_st rfl p
theorem p_9 (p x : Int32) : fX6_put 9 p x (st I v J) = some (st (wr I 9 p x) v J) := put_st rfl p x
theorem f_9 (x : Int32) : fX6_fill 9 x (st I v J) = some (st (fillN I 10 301 x) v J) := fill_st rfl x
theorem c_9 {α : Type} {o : Option α} : cl (st I v J) 6 9 o = o := cl_st rfl
theorem a_11 (p : Int32) : fX6_at 11 p (st I v J) = some (rd I 11 p, st I v J) := at_st rfl p
theorem p_11 (p x : Int32) : fX6_put 11 p x (st I v J) = some (st (wr I 11 p x) v J) := put_st rfl p x
theorem f_11 (x : Int32) : fX6_fill 11 x (st I v J) = some (st (fillN I 12 301 x) v J) := fill_st rfl x
theorem c_11 {α : Type} {o : Option α} : cl (st I v J) 6 11 o = o := cl_st rfl
theorem a_14 (p : Int32) : fX6_at 14 p (st I v J) = some (rd I 14 p, st I v J) := at_st rfl p
theorem p_14 (p x : Int32) : fX6_put 14 p x (st I v J) = some (st (wr I 14 p x) v J) := put_st rfl p x
theorem f_14 (x : Int32) : fX6_fill 14 x (st I v J) = some (st (fillN I 15 2000 x) v J) := fill_st rfl x
theorem c_14 {α : Type} {o : Option α} : cl (st I v J) 6 14 o = o := cl_st rfl
theorem a_16 (p : Int32) : fX6_at 16 p (st I v J) = some (rd I 16 p, st I v J) := at_st rfl p
theorem p_16 (p x : Int32) : fX6_put 16 p x (st I v J) = some (st (wr I 16 p x) v J) := put_st rfl p x
theorem f_16 (x : Int32) : fX6_fill 16 x (st I v J) = some (st (fillN I 17 301 x) v J) := fill_st rfl x
theorem c_16 {α : Type} {o : Option α} : cl (st I v J) 6 16 o = o := cl_st rfl
theorem a_18 (p : Int32) : fX6_at 18 p (st I v J) = some (rd I 18 p, st I v J) := at_st rfl p
theorem p_18 (p x : Int32) : fX6_put 18 p x (st I v J) = some (st (wr I 18 p x) v J) := put_st rfl p x
theorem f_18 (x : Int32) : fX6_fill 18 x (st I v J) = some (st (fillN I 19 301 x) v J) := fill_st rfl x
theorem c_18 {α : Type} {o : Option α} : cl (st I v J) 6 18 o = o := cl_st rfl
theorem a_21 (p : Int32) : fX6_at 21 p (st I v J) = some (rd I 21 p, st I v J) := at_st rfl p
theorem p_21 (p x : Int32) : fX6_put 21 p x (st I v J) = some (st (wr I 21 p x) v J) := put_st rfl p x
theorem f_21 (x : Int32) : fX6_fill 21 x (st I v J) = some (st (fillN I 22 2000 x) v J) := fill_st rfl x
theorem c_21 {α : Type} {o : Option α} : cl (st I v J) 6 21 o = o := cl_st rfl
theorem a_23 (p : Int32) : fX6_at 23 p (st I v J) = some (rd I 23 p, st I v J) := at_st rfl p
theorem p_23 (p x : Int32) : fX6_put 23 p x (st I v J) = some (st (wr I 23 p x) v J) := put_st rfl p x
theorem f_23 (x : Int32) : fX6_fill 23 x (st I v J) = some (st (fillN I 24 301 x) v J) := fill_st rfl x
theorem c_23 {α : Type} {o : Option α} : cl (st I v J) 6 23 o = o := cl_st rfl
theorem a_25 (p : Int32) : fX6_at 25 p (st I v J) = some (rd I 25 p, st I v J) := at_st rfl p
theorem p_25 (p x : Int32) : fX6_put 25 p x (st I v J) = some (st (wr I 25 p x) v J) := put_st rfl p x
theorem f_25 (x : Int32) : fX6_fill 25 x (st I v J) = some (st (fillN I 26 301 x) v J) := fill_st rfl x
theorem c_25 {α : Type} {o : Option α} : cl (st I v J) 6 25 o = o := cl_st rfl
theorem a_30 (p : Int32) : fX6_at 30 p (st I v J) = some (rd I 30 p, st I v J) := at_st rfl p
theorem p_30 (p x : Int32) : fX6_put 30 p x (st I v J) = some (st (wr I 30 p x) v J) := put_st rfl p x
theorem f_30 (x : Int32) : fX6_fill 30 x (st I v J) = some (st (fillN I 31 4000 x) v J) := fill_st rfl x
theorem c_30 {α : Type} {o : Option α} : cl (st I v J) 6 30 o = o := cl_st rfl
theorem a_32 (p : Int32) : fX6_at 32 p (st I v J) = some (rd I 32 p, st I v J) := at_st rfl p
theorem p_32 (p x : Int32) : fX6_put 32 p x (st I v J) = some (st (wr I 32 p x) v J) := put_st rfl p x
theorem f_32 (x : Int32) : fX6_fill 32 x (st I v J) = some (st (fillN I 33 601 x) v J) := fill_st rfl x
theorem c_32 {α : Type} {o : Option α} : cl (st I v J) 6 32 o = o := cl_st rfl
theorem a_34 (p : Int32) : fX6_at 34 p (st I v J) = some (rd I 34 p, st I v J) := at_st rfl p
theorem p_34 (p x : Int32) : fX6_put 34 p x (st I v J) = some (st (wr I 34 p x) v J) := put_st rfl p x
theorem f_34 (x : Int32) : fX6_fill 34 x (st I v J) = some (st (fillN I 35 301 x) v J) := fill_st rfl x
theorem c_34 {α : Type} {o : Option α} : cl (st I v J) 6 34 o = o := cl_st rfl
theorem a_36 (p : Int32) : fX6_at 36 p (st I v J) = some (rd I 36 p, st I v J) := at_st rfl p
theorem p_36 (p x : Int32) : fX6_put 36 p x (st I v J) = some (st (wr I 36 p x) v J) := put_st rfl p x
theorem f_36 (x : Int32) : fX6_fill 36 x (st I v J) = some (st (fillN I 37 4000 x) v J) := fill_st rfl x
theorem c_36 {α : Type} {o : Option α} : cl (st I v J) 6 36 o = o := cl_st rfl
theorem a_38 (p : Int32) : fX6_at 38 p (st I v J) = some (rd I 38 p, st I v J) := at_st rfl p
theorem p_38 (p x : Int32) : fX6_put 38 p x (st I v J) = some (st (wr I 38 p x) v J) := put_st rfl p x
theorem f_38 (x : Int32) : fX6_fill 38 x (st I v J) = some (st (fillN I 39 302 x) v J) := fill_st rfl x
theorem c_38 {α : Type} {o : Option α} : cl (st I v J) 6 38 o = o := cl_st rfl
theorem a_40 (p : Int32) : fX6_at 40 p (st I v J) = some (rd I 40 p, st I v J) := at_st rfl p
theorem p_40 (p x : Int32) : fX6_put 40 p x (st I v J) = some (st (wr I 40 p x) v J) := put_st rfl p x
theorem f_40 (x : Int32) : fX6_fill 40 x (st I v J) = some (st (fillN I 41 302 x) v J) := fill_st rfl x
theorem c_40 {α : Type} {o : Option α} : cl (st I v J) 6 40 o = o := cl_st rfl
theorem a_44 (p : Int32) : fX6_at 44 p (st I v J) = some (rd I 44 p, st I v J) := at_st rfl p
theorem p_44 (p x : Int32) : fX6_put 44 p x (st I v J) = some (st (wr I 44 p x) v J) := put_st rfl p x
theorem f_44 (x : Int32) : fX6_fill 44 x (st I v J) = some (st (fillN I 45 4000 x) v J) := fill_st rfl x
theorem c_44 {α : Type} {o : Option α} : cl (st I v J) 6 44 o = o := cl_st rfl
theorem a_46 (p : Int32) : fX6_at 46 p (st I v J) = some (rd I 46 p, st I v J) := at_st rfl p
theorem p_46 (p x : Int32) : fX6_put 46 p x (st I v J) = some (st (wr I 46 p x) v J) := put_st rfl p x
theorem f_46 (x : Int32) : fX6_fill 46 x (st I v J) = some (st (fillN I 47 601 x) v J) := fill_st rfl x
theorem c_46 {α : Type} {o : Option α} : cl (st I v J) 6 46 o = o := cl_st rfl
theorem a_48 (p : Int32) : fX6_at 48 p (st I v J) = some (rd I 48 p, st I v J) := at_st rfl p
theorem p_48 (p x : Int32) : fX6_put 48 p x (st I v J) = some (st (wr I 48 p x) v J) := put_st rfl p x
theorem f_48 (x : Int32) : fX6_fill 48 x (st I v J) = some (st (fillN I 49 601 x) v J) := fill_st rfl x
theorem c_48 {α : Type} {o : Option α} : cl (st I v J) 6 48 o = o := cl_st rfl
theorem a_50 (p : Int32) : fX6_at 50 p (st I v J) = some (rd I 50 p, st I v J) := at_st rfl p
theorem p_50 (p x : Int32) : fX6_put 50 p x (st I v J) = some (st (wr I 50 p x) v J) := put_st rfl p x
theorem f_50 (x : Int32) : fX6_fill 50 x (st I v J) = some (st (fillN I 51 301 x) v J) := fill_st rfl x
theorem c_50 {α : Type} {o : Option α} : cl (st I v J) 6 50 o = o := cl_st rfl
theorem a_53 (p : Int32) : fX6_at 53 p (st I v J) = some (rd I 53 p, st I v J) := at_st rfl p
theorem p_53 (p x : Int32) : fX6_put 53 p x (st I v J) = some (st (wr I 53 p x) v J) := put_st rfl p x
theorem f_53 (x : Int32) : fX6_fill 53 x (st I v J) = some (st (fillN I 54 601 x) v J) := fill_st rfl x
theorem c_53 {α : Type} {o : Option α} : cl (st I v J) 6 53 o = o := cl_st rfl
theorem a_55 (p : Int32) : fX6_at 55 p (st I v J) = some (rd I 55 p, st I v J) := at_st rfl p
theorem p_55 (p x : Int32) : fX6_put 55 p x (st I v J) = some (st (wr I 55 p x) v J) := put_st rfl p x
theorem f_55 (x : Int32) : fX6_fill 55 x (st I v J) = some (st (fillN I 56 601 x) v J) := fill_st rfl x
theorem c_55 {α : Type} {o : Option α} : cl (st I v J) 6 55 o = o := cl_st rfl
theorem a_57 (p : Int32) : fX6_at 57 p (st I v J) = some (rd I 57 p, st I v J) := at_st rfl p
theorem p_57 (p x : Int32) : fX6_put 57 p x (st I v J) = some (st (wr I 57 p x) v J) := put_st rfl p x
theorem f_57 (x : Int32) : fX6_fill 57 x (st I v J) = some (st (fillN I 58 601 x) v J) := fill_st rfl x
theorem c_57 {α : Type} {o : Option α} : cl (st I v J) 6 57 o = o := cl_st rfl
theorem a_59 (p : Int32) : fX6_at 59 p (st I v J) = some (rd I 59 p, st I v J) := at_st rfl p
theorem p_59 (p x : Int32) : fX6_put 59 p x (st I v J) = some (st (wr I 59 p x) v J) := put_st rfl p x
theorem f_59 (x : Int32) : fX6_fill 59 x (st I v J) = some (st (fillN I 60 601 x) v J) := fill_st rfl x
theorem c_59 {α : Type} {o : Option α} : cl (st I v J) 6 59 o = o := cl_st rfl
theorem a_61 (p : Int32) : fX6_at 61 p (st I v J) = some (rd I 61 p, st I v J) := at_st rfl p
theorem p_61 (p x : Int32) : fX6_put 61 p x (st I v J) = some (st (wr I 61 p x) v J) := put_st rfl p x
theorem f_61 (x : Int32) : fX6_fill 61 x (st I v J) = some (st (fillN I 62 38 x) v J) := fill_st rfl x
theorem c_61 {α : Type} {o : Option α} : cl (st I v J) 6 61 o = o := cl_st rfl
theorem a_63 (p : Int32) : fX6_at 63 p (st I v J) = some (rd I 63 p, st I v J) := at_st rfl p
theorem p_63 (p x : Int32) : fX6_put 63 p x (st I v J) = some (st (wr I 63 p x) v J) := put_st rfl p x
theorem f_63 (x : Int32) : fX6_fill 63 x (st I v J) = some (st (fillN I 64 151 x) v J) := fill_st rfl x
theorem c_63 {α : Type} {o : Option α} : cl (st I v J) 6 63 o = o := cl_st rfl
theorem a_65 (p : Int32) : fX6_at 65 p (st I v J) = some (rd I 65 p, st I v J) := at_st rfl p
theorem p_65 (p x : Int32) : fX6_put 65 p x (st I v J) = some (st (wr I 65 p x) v J) := put_st rfl p x
theorem f_65 (x : Int32) : fX6_fill 65 x (st I v J) = some (st (fillN I 66 80 x) v J) := fill_st rfl x
theorem c_65 {α : Type} {o : Option α} : cl (st I v J) 6 65 o = o := cl_st rfl
theorem a_67 (p : Int32) : fX6_at 67 p (st I v J) = some (rd I 67 p, st I v J) := at_st rfl p
theorem p_67 (p x : Int32) : fX6_put 67 p x (st I v J) = some (st (wr I 67 p x) v J) := put_st rfl p x
theorem f_67 (x : Int32) : fX6_fill 67 x (st I v J) = some (st (fillN I 68 150 x) v J) := fill_st rfl x
theorem c_67 {α : Type} {o : Option α} : cl (st I v J) 6 67 o = o := cl_st rfl
theorem a_69 (p : Int32) : fX6_at 69 p (st I v J) = some (rd I 69 p, st I v J) := at_st rfl p
theorem p_69 (p x : Int32) : fX6_put 69 p x (st I v J) = some (st (wr I 69 p x) v J) := put_st rfl p x
theorem f_69 (x : Int32) : fX6_fill 69 x (st I v J) = some (st (fillN I 70 150 x) v J) := fill_st rfl x
theorem c_69 {α : Type} {o : Option α} : cl (st I v J) 6 69 o = o := cl_st rfl
theorem a_71 (p : Int32) : fX6_at 71 p (st I v J) = some (rd I 71 p, st I v J) := at_st rfl p
theorem p_71 (p x : Int32) : fX6_put 71 p x (st I v J) = some (st (wr I 71 p x) v J) := put_st rfl p x
theorem f_71 (x : Int32) : fX6_fill 71 x (st I v J) = some (st (fillN I 72 302 x) v J) := fill_st rfl x
theorem c_71 {α : Type} {o : Option α} : cl (st I v J) 6 71 o = o := cl_st rfl
theorem a_73 (p : Int32) : fX6_at 73 p (st I v J) = some (rd I 73 p, st I v J) := at_st rfl p
theorem p_73 (p x : Int32) : fX6_put 73 p x (st I v J) = some (st (wr I 73 p x) v J) := put_st rfl p x
theorem f_73 (x : Int32) : fX6_fill 73 x (st I v J) = some (st (fillN I 74 151 x) v J) := fill_st rfl x
theorem c_73 {α : Type} {o : Option α} : cl (st I v J) 6 73 o = o := cl_st rfl
theorem c_1 {α : Type} {o : Option α} : cl (st I v J) 9 1 o = o := cl_st rfl
theorem i_1 (k : Nat) : qI (st I v J) 9 1 k = some (I 1 k) := qI_st rfl
theorem w_1 (k : Nat) (x : Int32) : wI (st I v J) 9 1 k x = some (st (up I 1 k x) v J) := wI_st rfl
theorem z_1 (k : Nat) {x : Int32} (h : x = 0 ∨ x = 1) : wZ (st I v J) 9 1 k x = some (st (up I 1 k x) v J) := wZ_st rfl h
theorem z0_1 (k : Nat) : wZ (st I v J) 9 1 k 0 = some (st (up I 1 k 0) v J) := wZ_st rfl (Or.inl rfl)
theorem z1_1 (k : Nat) : wZ (st I v J) 9 1 k 1 = some (st (up I 1 k 1) v J) := wZ_st rfl (Or.inr rfl)
theorem c_2 {α : Type} {o : Option α} : cl (st I v J) 0 2 o = o := cl_st rfl
theorem i_2 (k : Nat) : qI (st I v J) 0 2 k = some (I 2 k) := qI_st rfl
theorem w_2 (k : Nat) (x : Int32) : wI (st I v J) 0 2 k x = some (st (up I 2 k x) v J) := wI_st rfl
theorem z_2 (k : Nat) {x : Int32} (h : x = 0 ∨ x = 1) : wZ (st I v J) 0 2 k x = some (st (up I 2 k x) v J) := wZ_st rfl h
theorem z0_2 (k : Nat) : wZ (st I v J) 0 2 k 0 = some (st (up I 2 k 0) v J) := wZ_st rfl (Or.inl rfl)
theorem z1_2 (k : Nat) : wZ (st I v J) 0 2 k 1 = some (st (up I 2 k 1) v J) := wZ_st rfl (Or.inr rfl)
theorem c_4 {α : Type} {o : Option α} : cl (st I v J) 0 4 o = o := cl_st rfl
theorem i_4 (k : Nat) : qI (st I v J) 0 4 k = some (I 4 k) := qI_st rfl
theorem w_4 (k : Nat) (x : Int32) : wI (st I v J) 0 4 k x = some (st (up I 4 k x) v J) := wI_st rfl
theorem z_4 (k : Nat) {x : Int32} (h : x = 0 ∨ x = 1) : wZ (st I v J) 0 4 k x = some (st (up I 4 k x) v J) := wZ_st rfl h
theorem z0_4 (k : Nat) : wZ (st I v J) 0 4 k 0 = some (st (up I 4 k 0) v J) := wZ_st rfl (Or.inl rfl)
theorem z1_4 (k : Nat) : wZ (st I v J) 0 4 k 1 = some (st (up I 4 k 1) v J) := wZ_st rfl (Or.inr rfl)
theorem c_6 {α : Type} {o : Option α} : cl (st I v J) 7 6 o = o := cl_st rfl
theorem i_6 (k : Nat) : qI (st I v J) 7 6 k = some (I 6 k) := qI_st rfl
theorem w_6 (k : Nat) (x : Int32) : wI (st I v J) 7 6 k x = some (st (up I 6 k x) v J) := wI_st rfl
theorem z_6 (k : Nat) {x : Int32} (h : x = 0 ∨ x = 1) : wZ (st I v J) 7 6 k x = some (st (up I 6 k x) v J) := wZ_st rfl h
theorem z0_6 (k : Nat) : wZ (st I v J) 7 6 k 0 = some (st (up I 6 k 0) v J) := wZ_st rfl (Or.inl rfl)
theorem z1_6 (k : Nat) : wZ (st I v J) 7 6 k 1 = some (st (up I 6 k 1) v J) := wZ_st rfl (Or.inr rfl)
theorem c_13 {α : Type} {o : Option α} : cl (st I v J) 7 13 o = o := cl_st rfl
theorem i_13 (k : Nat) : qI (st I v J) 7 13 k = some (I 13 k) := qI_st rfl
theorem w_13 (k : Nat) (x : Int32) : wI (st I v J) 7 13 k x = some (st (up I 13 k x) v J) := wI_st rfl
theorem z_13 (k : Nat) {x : Int32} (h : x = 0 ∨ x = 1) : wZ (st I v J) 7 13 k x = some (st (up I 13 k x) v J) := wZ_st rfl h
theorem z0_13 (k : Nat) : wZ (st I v J) 7 13 k 0 = some (st (up I 13 k 0) v J) := wZ_st rfl (Or.inl rfl)
theorem z1_13 (k : Nat) : wZ (st I v J) 7 13 k 1 = some (st (up I 13 k 1) v J) := wZ_st rfl (Or.inr rfl)
theorem c_20 {α : Type} {o : Option α} : cl (st I v J) 7 20 o = o := cl_st rfl
theorem i_20 (k : Nat) : qI (st I v J) 7 20 k = some (I 20 k) := qI_st rfl
theorem w_20 (k : Nat) (x : Int32) : wI (st I v J) 7 20 k x = some (st (up I 20 k x) v J) := wI_st rfl
theorem z_20 (k : Nat) {x : Int32} (h : x = 0 ∨ x = 1) : wZ (st I v J) 7 20 k x = some (st (up I 20 k x) v J) := wZ_st rfl h
theorem z0_20 (k : Nat) : wZ (st I v J) 7 20 k 0 = some (st (up I 20 k 0) v J) := wZ_st rfl (Or.inl rfl)
theorem z1_20 (k : Nat) : wZ (st I v J) 7 20 k 1 = some (st (up I 20 k 1) v J) := wZ_st rfl (Or.inr rfl)
theorem c_27 {α : Type} {o : Option α} : cl (st I v J) 5 27 o = o := cl_st rfl
theorem i_27 (k : Nat) : qI (st I v J) 5 27 k = some (I 27 k) := qI_st rfl
theorem w_27 (k : Nat) (x : Int32) : wI (st I v J) 5 27 k x = some (st (up I 27 k x) v J) := wI_st rfl
theorem z_27 (k : Nat) {x : Int32} (h : x = 0 ∨ x = 1) : wZ (st I v J) 5 27 k x = some (st (up I 27 k x) v J) := wZ_st rfl h
theorem z0_27 (k : Nat) : wZ (st I v J) 5 27 k 0 = some (st (up I 27 k 0) v J) := wZ_st rfl (Or.inl rfl)
theorem z1_27 (k : Nat) : wZ (st I v J) 5 27 k 1 = some (st (up I 27 k 1) v J) := wZ_st rfl (Or.inr rfl)
theorem c_28 {α : Type} {o : Option α} : cl (st I v J) 8 28 o = o := cl_st rfl
theorem i_28 (k : Nat) : qI (st I v J) 8 28 k = some (I 28 k) := qI_st rfl
theorem w_28 (k : Nat) (x : Int32) : wI (st I v J) 8 28 k x = some (st (up I 28 k x) v J) := wI_st rfl
theorem z_28 (k : Nat) {x : Int32} (h : x = 0 ∨ x = 1) : wZ (st I v J) 8 28 k x = some (st (up I 28 k x) v J) := wZ_st rfl h
theorem z0_28 (k : Nat) : wZ (st I v J) 8 28 k 0 = some (st (up I 28 k 0) v J) := wZ_st rfl (Or.inl rfl)
theorem z1_28 (k : Nat) : wZ (st I v J) 8 28 k 1 = some (st (up I 28 k 1) v J) := wZ_st rfl (Or.inr rfl)
theorem c_29 {α : Type} {o : Option α} : cl (st I v J) 1 29 o = o := cl_st rfl
theorem i_29 (k : Nat) : qI (st I v J) 1 29 k = some (I 29 k) := qI_st rfl
theorem w_29 (k : Nat) (x : Int32) : wI (st I v J) 1 29 k x = some (st (up I 29 k x) v J) := wI_st rfl
theorem z_29 (k : Nat) {x : Int32} (h : x = 0 ∨ x = 1) : wZ (st I v J) 1 29 k x = some (st (up I 29 k x) v J) := wZ_st rfl h
theorem z0_29 (k : Nat) : wZ (st I v J) 1 29 k 0 = some (st (up I 29 k 0) v J) := wZ_st rfl (Or.inl rfl)
theorem z1_29 (k : Nat) : wZ (st I v J) 1 29 k 1 = some (st (up I 29 k 1) v J) := wZ_st rfl (Or.inr rfl)
theorem c_42 {α : Type} {o : Option α} : cl (st I v J) 3 42 o = o := cl_st rfl
theorem i_42 (k : Nat) : qI (st I v J) 3 42 k = some (I 42 k) := qI_st rfl
theorem w_42 (k : Nat) (x : Int32) : wI (st I v J) 3 42 k x = some (st (up I 42 k x) v J) := wI_st rfl
theorem z_42 (k : Nat) {x : Int32} (h : x = 0 ∨ x = 1) : wZ (st I v J) 3 42 k x = some (st (up I 42 k x) v J) := wZ_st rfl h
theorem z0_42 (k : Nat) : wZ (st I v J) 3 42 k 0 = some (st (up I 42 k 0) v J) := wZ_st rfl (Or.inl rfl)
theorem z1_42 (k : Nat) : wZ (st I v J) 3 42 k 1 = some (st (up I 42 k 1) v J) := wZ_st rfl (Or.inr rfl)
theorem c_43 {α : Type} {o : Option α} : cl (st I v J) 2 43 o = o := cl_st rfl
theorem i_43 (k : Nat) : qI (st I v J) 2 43 k = some (I 43 k) := qI_st rfl
theorem w_43 (k : Nat) (x : Int32) : wI (st I v J) 2 43 k x = some (st (up I 43 k x) v J) := wI_st rfl
theorem z_43 (k : Nat) {x : Int32} (h : x = 0 ∨ x = 1) : wZ (st I v J) 2 43 k x = some (st (up I 43 k x) v J) := wZ_st rfl h
theorem z0_43 (k : Nat) : wZ (st I v J) 2 43 k 0 = some (st (up I 43 k 0) v J) := wZ_st rfl (Or.inl rfl)
theorem z1_43 (k : Nat) : wZ (st I v J) 2 43 k 1 = some (st (up I 43 k 1) v J) := wZ_st rfl (Or.inr rfl)
theorem c_52 {α : Type} {o : Option α} : cl (st I v J) 4 52 o = o := cl_st rfl
theorem i_52 (k : Nat) : qI (st I v J) 4 52 k = some (I 52 k) := qI_st rfl
theorem w_52 (k : Nat) (x : Int32) : wI (st I v J) 4 52 k x = some (st (up I 52 k x) v J) := wI_st rfl
theorem z_52 (k : Nat) {x : Int32} (h : x = 0 ∨ x = 1) : wZ (st I v J) 4 52 k x = some (st (up I 52 k x) v J) := wZ_st rfl h
theorem z0_52 (k : Nat) : wZ (st I v J) 4 52 k 0 = some (st (up I 52 k 0) v J) := wZ_st rfl (Or.inl rfl)
theorem z1_52 (k : Nat) : wZ (st I v J) 4 52 k 1 = some (st (up I 52 k 1) v J) := wZ_st rfl (Or.inr rfl)
theorem c_75 {α : Type} {o : Option α} : cl (st I v J) 10 75 o = o := cl_st rfl
theorem i_75 (k : Nat) : qI (st I v J) 10 75 k = some (I 75 k) := qI_st rfl
theorem w_75 (k : Nat) (x : Int32) : wI (st I v J) 10 75 k x = some (st (up I 75 k x) v J) := wI_st rfl
theorem z_75 (k : Nat) {x : Int32} (h : x = 0 ∨ x = 1) : wZ (st I v J) 10 75 k x = some (st (up I 75 k x) v J) := wZ_st rfl h
theorem z0_75 (k : Nat) : wZ (st I v J) 10 75 k 0 = some (st (up I 75 k 0) v J) := wZ_st rfl (Or.inl rfl)
theorem z1_75 (k : Nat) : wZ (st I v J) 10 75 k 1 = some (st (up I 75 k 1) v J) := wZ_st rfl (Or.inr rfl)
theorem qa_76 {k : Nat} (h : k < 6000) : qA (st I v J) 12 76 (nI k) = some (I 76 k) := qA_st rfl h
theorem ua_76 {k : Nat} {x : Int32} (h : k < 6000) : uI (st I v J) 76 (nI k) x = some (st (up I 76 k x) v J) := uI_st rfl h
theorem qa_77 {k : Nat} (h : k < 6000) : qA (st I v J) 12 77 (nI k) = some (I 77 k) := qA_st rfl h
theorem ua_77 {k : Nat} {x : Int32} (h : k < 6000) : uI (st I v J) 77 (nI k) x = some (st (up I 77 k x) v J) := uI_st rfl h
theorem qa_78 {k : Nat} (h : k < 301) : qA (st I v J) 12 78 (nI k) = some (I 78 k) := qA_st rfl h
theorem ua_78 {k : Nat} {x : Int32} (h : k < 301) : uI (st I v J) 78 (nI k) x = some (st (up I 78 k x) v J) := uI_st rfl h
theorem qa_79 {k : Nat} (h : k < 301) : qA (st I v J) 12 79 (nI k) = some (I 79 k) := qA_st rfl h
theorem ua_79 {k : Nat} {x : Int32} (h : k < 301) : uI (st I v J) 79 (nI k) x = some (st (up I 79 k x) v J) := uI_st rfl h
theorem qa_80 {k : Nat} (h : k < 2000) : qA (st I v J) 12 80 (nI k) = some (I 80 k) := qA_st rfl h
theorem ua_80 {k : Nat} {x : Int32} (h : k < 2000) : uI (st I v J) 80 (nI k) x = some (st (up I 80 k x) v J) := uI_st rfl h
theorem qa_81 {k : Nat} (h : k < 301) : qA (st I v J) 12 81 (nI k) = some (I 81 k) := qA_st rfl h
theorem ua_81 {k : Nat} {x : Int32} (h : k < 301) : uI (st I v J) 81 (nI k) x = some (st (up I 81 k x) v J) := uI_st rfl h
theorem qa_82 {k : Nat} (h : k < 301) : qA (st I v J) 12 82 (nI k) = some (I 82 k) := qA_st rfl h
theorem ua_82 {k : Nat} {x : Int32} (h : k < 301) : uI (st I v J) 82 (nI k) x = some (st (up I 82 k x) v J) := uI_st rfl h
theorem qa_83 {k : Nat} (h : k < 2000) : qA (st I v J) 12 83 (nI k) = some (I 83 k) := qA_st rfl h
theorem ua_83 {k : Nat} {x : Int32} (h : k < 2000) : uI (st I v J) 83 (nI k) x = some (st (up I 83 k x) v J) := uI_st rfl h
theorem qa_84 {k : Nat} (h : k < 301) : qA (st I v J) 13 84 (nI k) = some (I 84 k) := qA_st rfl h
theorem uz_84 {k : Nat} {x : Int32} (h : k < 301) (hx : x = 0 ∨ x = 1) : uZ (st I v J) 84 (nI k) x = some (st (up I 84 k x) v J) := uZ_st rfl h hx
theorem qa_85 {k : Nat} (h : k < 301) : qA (st I v J) 12 85 (nI k) = some (I 85 k) := qA_st rfl h
theorem ua_85 {k : Nat} {x : Int32} (h : k < 301) : uI (st I v J) 85 (nI k) x = some (st (up I 85 k x) v J) := uI_st rfl h
theorem qa_86 {k : Nat} (h : k < 301) : qA (st I v J) 12 86 (nI k) = some (I 86 k) := qA_st rfl h
theorem ua_86 {k : Nat} {x : Int32} (h : k < 301) : uI (st I v J) 86 (nI k) x = some (st (up I 86 k x) v J) := uI_st rfl h
theorem qa_87 {k : Nat} (h : k < 2000) : qA (st I v J) 12 87 (nI k) = some (I 87 k) := qA_st rfl h
theorem ua_87 {k : Nat} {x : Int32} (h : k < 2000) : uI (st I v J) 87 (nI k) x = some (st (up I 87 k x) v J) := uI_st rfl h
theorem qa_88 {k : Nat} (h : k < 301) : qA (st I v J) 13 88 (nI k) = some (I 88 k) := qA_st rfl h
theorem uz_88 {k : Nat} {x : Int32} (h : k < 301) (hx : x = 0 ∨ x = 1) : uZ (st I v J) 88 (nI k) x = some (st (up I 88 k x) v J) := uZ_st rfl h hx
theorem qa_89 {k : Nat} (h : k < 601) : qA (st I v J) 12 89 (nI k) = some (I 89 k) := qA_st rfl h
theorem ua_89 {k : Nat} {x : Int32} (h : k < 601) : uI (st I v J) 89 (nI k) x = some (st (up I 89 k x) v J) := uI_st rfl h
theorem qa_90 {k : Nat} (h : k < 301) : qA (st I v J) 12 90 (nI k) = some (I 90 k) := qA_st rfl h
theorem ua_90 {k : Nat} {x : Int32} (h : k < 301) : uI (st I v J) 90 (nI k) x = some (st (up I 90 k x) v J) := uI_st rfl h
theorem qa_91 {k : Nat} (h : k < 601) : qA (st I v J) 13 91 (nI k) = some (I 91 k) := qA_st rfl h
theorem uz_91 {k : Nat} {x : Int32} (h : k < 601) (hx : x = 0 ∨ x = 1) : uZ (st I v J) 91 (nI k) x = some (st (up I 91 k x) v J) := uZ_st rfl h hx
theorem qa_92 {k : Nat} (h : k < 601) : qA (st I v J) 13 92 (nI k) = some (I 92 k) := qA_st rfl h
theorem uz_92 {k : Nat} {x : Int32} (h : k < 601) (hx : x = 0 ∨ x = 1) : uZ (st I v J) 92 (nI k) x = some (st (up I 92 k x) v J) := uZ_st rfl h hx
theorem qa_93 {k : Nat} (h : k < 601) : qA (st I v J) 13 93 (nI k) = some (I 93 k) := qA_st rfl h
theorem uz_93 {k : Nat} {x : Int32} (h : k < 601) (hx : x = 0 ∨ x = 1) : uZ (st I v J) 93 (nI k) x = some (st (up I 93 k x) v J) := uZ_st rfl h hx
theorem qa_94 {k : Nat} (h : k < 601) : qA (st I v J) 13 94 (nI k) = some (I 94 k) := qA_st rfl h
theorem uz_94 {k : Nat} {x : Int32} (h : k < 601) (hx : x = 0 ∨ x = 1) : uZ (st I v J) 94 (nI k) x = some (st (up I 94 k x) v J) := uZ_st rfl h hx
theorem qa_95 {k : Nat} (h : k < 301) : qA (st I v J) 12 95 (nI k) = some (I 95 k) := qA_st rfl h
theorem ua_95 {k : Nat} {x : Int32} (h : k < 301) : uI (st I v J) 95 (nI k) x = some (st (up I 95 k x) v J) := uI_st rfl h
theorem qa_96 {k : Nat} (h : k < 151) : qA (st I v J) 12 96 (nI k) = some (I 96 k) := qA_st rfl h
theorem ua_96 {k : Nat} {x : Int32} (h : k < 151) : uI (st I v J) 96 (nI k) x = some (st (up I 96 k x) v J) := uI_st rfl h
theorem qa_97 {k : Nat} (h : k < 151) : qA (st I v J) 12 97 (nI k) = some (I 97 k) := qA_st rfl h
theorem ua_97 {k : Nat} {x : Int32} (h : k < 151) : uI (st I v J) 97 (nI k) x = some (st (up I 97 k x) v J) := uI_st rfl h
theorem qa_98 {k : Nat} (h : k < 151) : qA (st I v J) 12 98 (nI k) = some (I 98 k) := qA_st rfl h
theorem ua_98 {k : Nat} {x : Int32} (h : k < 151) : uI (st I v J) 98 (nI k) x = some (st (up I 98 k x) v J) := uI_st rfl h
theorem qa_99 {k : Nat} (h : k < 4000) : qA (st I v J) 12 99 (nI k) = some (I 99 k) := qA_st rfl h
theorem ua_99 {k : Nat} {x : Int32} (h : k < 4000) : uI (st I v J) 99 (nI k) x = some (st (up I 99 k x) v J) := uI_st rfl h
theorem qa_100 {k : Nat} (h : k < 601) : qA (st I v J) 12 100 (nI k) = some (I 100 k) := qA_st rfl h
theorem ua_100 {k : Nat} {x : Int32} (h : k < 601) : uI (st I v J) 100 (nI k) x = some (st (up I 100 k x) v J) := uI_st rfl h
theorem qa_101 {k : Nat} (h : k < 601) : qA (st I v J) 12 101 (nI k) = some (I 101 k) := qA_st rfl h
theorem ua_101 {k : Nat} {x : Int32} (h : k < 601) : uI (st I v J) 101 (nI k) x = some (st (up I 101 k x) v J) := uI_st rfl h
theorem qa_102 {k : Nat} (h : k < 6000) : qA (st I v J) 12 102 (nI k) = some (I 102 k) := qA_st rfl h
theorem ua_102 {k : Nat} {x : Int32} (h : k < 6000) : uI (st I v J) 102 (nI k) x = some (st (up I 102 k x) v J) := uI_st rfl h
theorem rd_7 {k : Nat} (h : k < 2000) : rd I 7 (nI k) = I 8 k := rd_i h
theorem wr_7 {k : Nat} {x : Int32} (h : k < 2000) : wr I 7 (nI k) x = up I 8 k x := wr_i h
theorem rd_9 {k : Nat} (h : k < 301) : rd I 9 (nI k) = I 10 k := rd_i h
theorem wr_9 {k : Nat} {x : Int32} (h : k < 301) : wr I 9 (nI k) x = up I 10 k x := wr_i h
theorem rd_11 {k : Nat} (h : k < 301) : rd I 11 (nI k) = I 12 k := rd_i h
theorem wr_11 {k : Nat} {x : Int32} (h : k < 301) : wr I 11 (nI k) x = up I 12 k x := wr_i h
theorem rd_14 {k : Nat} (h : k < 2000) : rd I 14 (nI k) = I 15 k := rd_i h
theorem wr_14 {k : Nat} {x : Int32} (h : k < 2000) : wr I 14 (nI k) x = up I 15 k x := wr_i h
theorem rd_16 {k : Nat} (h : k < 301) : rd I 16 (nI k) = I 17 k := rd_i h
theorem wr_16 {k : Nat} {x : Int32} (h : k < 301) : wr I 16 (nI k) x = up I 17 k x := wr_i h
theorem rd_18 {k : Nat} (h : k < 301) : rd I 18 (nI k) = I 19 k := rd_i h
theorem wr_18 {k : Nat} {x : Int32} (h : k < 301) : wr I 18 (nI k) x = up I 19 k x := wr_i h
theorem rd_21 {k : Nat} (h : k < 2000) : rd I 21 (nI k) = I 22 k := rd_i h
theorem wr_21 {k : Nat} {x : Int32} (h : k < 2000) : wr I 21 (nI k) x = up I 22 k x := wr_i h
theorem rd_23 {k : Nat} (h : k < 301) : rd I 23 (nI k) = I 24 k := rd_i h
theorem wr_23 {k : Nat} {x : Int32} (h : k < 301) : wr I 23 (nI k) x = up I 24 k x := wr_i h
theorem rd_25 {k : Nat} (h : k < 301) : rd I 25 (nI k) = I 26 k := rd_i h
theorem wr_25 {k : Nat} {x : Int32} (h : k < 301) : wr I 25 (nI k) x = up I 26 k x := wr_i h
theorem rd_30 {k : Nat} (h : k < 4000) : rd I 30 (nI k) = I 31 k := rd_i h
theorem wr_30 {k : Nat} {x : Int32} (h : k < 4000) : wr I 30 (nI k) x = up I 31 k x := wr_i h
theorem rd_32 {k : Nat} (h : k < 601) : rd I 32 (nI k) = I 33 k := rd_i h
theorem wr_32 {k : Nat} {x : Int32} (h : k < 601) : wr I 32 (nI k) x = up I 33 k x := wr_i h
theorem rd_34 {k : Nat} (h : k < 301) : rd I 34 (nI k) = I 35 k := rd_i h
theorem wr_34 {k : Nat} {x : Int32} (h : k < 301) : wr I 34 (nI k) x = up I 35 k x := wr_i h
theorem rd_36 {k : Nat} (h : k < 4000) : rd I 36 (nI k) = I 37 k := rd_i h
theorem wr_36 {k : Nat} {x : Int32} (h : k < 4000) : wr I 36 (nI k) x = up I 37 k x := wr_i h
theorem rd_38 {k : Nat} (h : k < 302) : rd I 38 (nI k) = I 39 k := rd_i h
theorem wr_38 {k : Nat} {x : Int32} (h : k < 302) : wr I 38 (nI k) x = up I 39 k x := wr_i h
theorem rd_40 {k : Nat} (h : k < 302) : rd I 40 (nI k) = I 41 k := rd_i h
theorem wr_40 {k : Nat} {x : Int32} (h : k < 302) : wr I 40 (nI k) x = up I 41 k x := wr_i h
theorem rd_44 {k : Nat} (h : k < 4000) : rd I 44 (nI k) = I 45 k := rd_i h
theorem wr_44 {k : Nat} {x : Int32} (h : k < 4000) : wr I 44 (nI k) x = up I 45 k x := wr_i h
theorem rd_46 {k : Nat} (h : k < 601) : rd I 46 (nI k) = I 47 k := rd_i h
theorem wr_46 {k : Nat} {x : Int32} (h : k < 601) : wr I 46 (nI k) x = up I 47 k x := wr_i h
theorem rd_48 {k : Nat} (h : k < 601) : rd I 48 (nI k) = I 49 k := rd_i h
theorem wr_48 {k : Nat} {x : Int32} (h : k < 601) : wr I 48 (nI k) x = up I 49 k x := wr_i h
theorem rd_50 {k : Nat} (h : k < 301) : rd I 50 (nI k) = I 51 k := rd_i h
theorem wr_50 {k : Nat} {x : Int32} (h : k < 301) : wr I 50 (nI k) x = up I 51 k x := wr_i h
theorem rd_53 {k : Nat} (h : k < 601) : rd I 53 (nI k) = I 54 k := rd_i h
theorem wr_53 {k : Nat} {x : Int32} (h : k < 601) : wr I 53 (nI k) x = up I 54 k x := wr_i h
theorem rd_55 {k : Nat} (h : k < 601) : rd I 55 (nI k) = I 56 k := rd_i h
theorem wr_55 {k : Nat} {x : Int32} (h : k < 601) : wr I 55 (nI k) x = up I 56 k x := wr_i h
theorem rd_57 {k : Nat} (h : k < 601) : rd I 57 (nI k) = I 58 k := rd_i h
theorem wr_57 {k : Nat} {x : Int32} (h : k < 601) : wr I 57 (nI k) x = up I 58 k x := wr_i h
theorem rd_59 {k : Nat} (h : k < 601) : rd I 59 (nI k) = I 60 k := rd_i h
theorem wr_59 {k : Nat} {x : Int32} (h : k < 601) : wr I 59 (nI k) x = up I 60 k x := wr_i h
theorem rd_61 {k : Nat} (h : k < 38) : rd I 61 (nI k) = I 62 k := rd_i h
theorem wr_61 {k : Nat} {x : Int32} (h : k < 38) : wr I 61 (nI k) x = up I 62 k x := wr_i h
theorem rd_63 {k : Nat} (h : k < 151) : rd I 63 (nI k) = I 64 k := rd_i h
theorem wr_63 {k : Nat} {x : Int32} (h : k < 151) : wr I 63 (nI k) x = up I 64 k x := wr_i h
theorem rd_65 {k : Nat} (h : k < 80) : rd I 65 (nI k) = I 66 k := rd_i h
theorem wr_65 {k : Nat} {x : Int32} (h : k < 80) : wr I 65 (nI k) x = up I 66 k x := wr_i h
theorem rd_67 {k : Nat} (h : k < 150) : rd I 67 (nI k) = I 68 k := rd_i h
theorem wr_67 {k : Nat} {x : Int32} (h : k < 150) : wr I 67 (nI k) x = up I 68 k x := wr_i h
theorem rd_69 {k : Nat} (h : k < 150) : rd I 69 (nI k) = I 70 k := rd_i h
theorem wr_69 {k : Nat} {x : Int32} (h : k < 150) : wr I 69 (nI k) x = up I 70 k x := wr_i h
theorem rd_71 {k : Nat} (h : k < 302) : rd I 71 (nI k) = I 72 k := rd_i h
theorem wr_71 {k : Nat} {x : Int32} (h : k < 302) : wr I 71 (nI k) x = up I 72 k x := wr_i h
theorem rd_73 {k : Nat} (h : k < 151) : rd I 73 (nI k) = I 74 k := rd_i h
theorem wr_73 {k : Nat} {x : Int32} (h : k < 151) : wr I 73 (nI k) x = up I 74 k x := wr_i h
end
