/-- a switch's default -/
theorem zout {x : Int32} (n : Nat) (h : ∀ j, j < n + 1 → ¬ x = nI j) (hn : n < 2 ^ 31) : x.toInt < 0 ∨ (n : Int) < x.toInt := by
  by_cases h0 : x.toInt < 0
  · exact Or.inl h0
  · by_cases h1 : (n : Int) < x.toInt
    · exact Or.inr h1
    · exfalso
      refine h x.toInt.toNat (by omega) (Int32.toInt_inj.mp ?_)
      rw [nI_toInt (by omega)]
      omega
theorem zlk2 {x : Int32} {a b d : Int} (h0 : ¬ x = 0) (h1 : ¬ x = 1) : Op.lookupswitch.offset [(0, a), (1, b)] d x.toInt = d := by
  have e0 : ¬ x.toInt = 0 := fun q => h0 (Int32.toInt_inj.mp q)
  have e1 : ¬ x.toInt = 1 := fun q => h1 (Int32.toInt_inj.mp q)
  have f0 : ¬ (0 : Int) = x.toInt := fun q => e0 q.symm
  have f1 : ¬ (1 : Int) = x.toInt := fun q => e1 q.symm
  simp [Op.lookupswitch.offset, e0, e1, f0, f1]
