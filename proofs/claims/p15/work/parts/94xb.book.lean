/-! ===== nothing here yet ===== -/
theorem book_later : True := trivial
