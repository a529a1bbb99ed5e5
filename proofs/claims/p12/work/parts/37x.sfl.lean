theorem sFLb (kd : Int) : (sF kd = 0 ∨ sF kd = -99) ∧ (sL kd = 29 ∨ sL kd = 99) := by
  have := sFL kd
  omega
