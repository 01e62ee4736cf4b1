def mTold : Option Nat → Int32
  | none => 0
  | some f => -1 - nI f
theorem mTold_some {f : Nat} (h : f ≤ 80) : mTold (some f) < 0 ∧ -100 - (-1 - mTold (some f)) = -100 - nI f := by
  have e0 : (nI f).toInt = f := nI_toInt (by omega)
  have e1 : (-1 - nI f : Int32).toInt = -1 - f := by
    rw [Int32.toInt_sub, show (-1 : Int32).toInt = -1 by decide, e0, Int.bmod_eq_of_le (by omega) (by omega)]
  constructor
  · unfold mTold
    rw [z_i, e1, show (0 : Int32).toInt = 0 by decide]
    omega
  · unfold mTold
    rw [show (-1 - (-1 - nI f) : Int32) = nI f from z_inj (by
      rw [Int32.toInt_sub, e1, show (-1 : Int32).toInt = -1 by decide, e0, Int.bmod_eq_of_le (by omega) (by omega)]
      omega)]
theorem zPo_nt {g : Mem} {v u t : V} {n : Nat} (h : zJk g) (ht : ∀ j, j < 3 → t j = u j) : zPo g v u n none (zM g 0 v t) :=
  ⟨g (10 + 6), t, by show _ = zM (zUp g (10 + 6) (g (10 + 6))) 0 v t; rw [zUp_id], h 6 (by omega), ht⟩
