/-- a row with its three values -/
def rput3 (r : Int → Int) (t k a b c : Int) : Int → Int := rset (rset (rset (rfil r t k (-1000) 3) (90 * t + 30 * 0 + k) a) (90 * t + 30 * 1 + k) b) (90 * t + 30 * 2 + k) c
theorem put3 {r r1 r2 r3 r4 r5 : Int → Int} {t k a b c : Int} (h0 : 0 ≤ t ∧ t < 3 ∧ 0 ≤ k ∧ k < 30) (ha : a ≠ -2000) (e1 : r1 = r) (e2 : r2 = rfil r1 t k (-1000) 3) (e3 : r3 = if cel r2 t k 0 ≠ -2000 then rset r2 (90 * t + 30 * 0 + k) a else r2) (e4 : r4 = if cel r3 t k 0 ≠ -2000 then rset r3 (90 * t + 30 * 1 + k) b else r3) (e5 : r5 = if cel r4 t k 0 ≠ -2000 then rset r4 (90 * t + 30 * 2 + k) c else r4) : r5 = rput3 r t k a b c := by
  subst e1 e2
  have c2 : cel (rfil r1 t k (-1000) 3) t k 0 ≠ -2000 := by
    rw [cel_in (by omega)]
    unfold rfil
    rw [if_pos (by omega)]
    decide
  rw [if_pos c2] at e3
  have c3 : cel r3 t k 0 ≠ -2000 := by
    rw [cel_in (by omega), e3]
    show (if 90 * t + 30 * 0 + k = 90 * t + 30 * 0 + k then a else _) ≠ -2000
    rw [if_pos rfl]
    exact ha
  rw [if_pos c3] at e4
  have c4 : cel r4 t k 0 ≠ -2000 := by
    rw [cel_in (by omega)] at c3 ⊢
    rw [e4]
    show (if 90 * t + 30 * 0 + k = 90 * t + 30 * 1 + k then b else r3 (90 * t + 30 * 0 + k)) ≠ -2000
    rw [if_neg (by omega)]
    exact c3
  rw [if_pos c4] at e5
  rw [e5, e4, e3]
  rfl
