/-! ===== nothing here yet ===== -/
theorem told_later : True := trivial
