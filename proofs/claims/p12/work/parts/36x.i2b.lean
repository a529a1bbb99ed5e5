theorem xok_i2b {y x : Int32} (h : x = y.toInt8.toInt32) : xok 2 x := by
  subst h
  show narrow .byte (.int y.toInt8.toInt32) = .int y.toInt8.toInt32
  simp [narrow]
