/-! ===== what a question tells ===== -/
noncomputable def quS (r : Int → Int) (k t c o lo hi s w : Int) : Int := by
  classical
  exact if sbj k s then (if w = 0 then stt r k t c o s else if w = 1 then flq r k t c lo hi s (stt r k t c o s) else -2147483648) else -2147483648
theorem quS_n {r : Int → Int} {k t c o lo hi s w : Int} (h : ¬ sbj k s) : quS r k t c o lo hi s w = -2147483648 := by
  unfold quS
  exact if_neg h
theorem quS_0 {r : Int → Int} {k t c o lo hi s w : Int} (h : sbj k s) (hw : w = 0) : quS r k t c o lo hi s w = stt r k t c o s := by
  unfold quS
  rw [if_pos h, if_pos hw]
theorem quS_1 {r : Int → Int} {k t c o lo hi s w : Int} (h : sbj k s) (hw : w = 1) : quS r k t c o lo hi s w = flq r k t c lo hi s (stt r k t c o s) := by
  unfold quS
  rw [if_pos h, if_neg (by omega), if_pos hw]
theorem quS_o {r : Int → Int} {k t c o lo hi s w : Int} (h0 : ¬ w = 0) (h1 : ¬ w = 1) : quS r k t c o lo hi s w = -2147483648 := by
  unfold quS
  by_cases h : sbj k s
  · rw [if_pos h, if_neg h0, if_neg h1]
  · rw [if_neg h]
/-! ===== what is told of a rule ===== -/
def tdC (q : Nat → Int32) (n w : Int) : Int := if w = 0 then (q 0).toInt else if w = 1 then (q 2).toInt else if w = 2 then (q 3).toInt else if w = 3 then (q 4).toInt else if w = 4 then (q 5).toInt else if w = 5 then (q 6).toInt else if w = 6 then (q 9).toInt else if w = 7 then (q 8).toInt else if w = 8 then (q 7).toInt else if w = 9 then n else -2147483648
theorem tdC_0 {q : Nat → Int32} {n w : Int} (h : w = 0) : tdC q n w = (q 0).toInt := by subst h; rfl
theorem tdC_1 {q : Nat → Int32} {n w : Int} (h : w = 1) : tdC q n w = (q 2).toInt := by subst h; rfl
theorem tdC_2 {q : Nat → Int32} {n w : Int} (h : w = 2) : tdC q n w = (q 3).toInt := by subst h; rfl
theorem tdC_3 {q : Nat → Int32} {n w : Int} (h : w = 3) : tdC q n w = (q 4).toInt := by subst h; rfl
theorem tdC_4 {q : Nat → Int32} {n w : Int} (h : w = 4) : tdC q n w = (q 5).toInt := by subst h; rfl
theorem tdC_5 {q : Nat → Int32} {n w : Int} (h : w = 5) : tdC q n w = (q 6).toInt := by subst h; rfl
theorem tdC_6 {q : Nat → Int32} {n w : Int} (h : w = 6) : tdC q n w = (q 9).toInt := by subst h; rfl
theorem tdC_7 {q : Nat → Int32} {n w : Int} (h : w = 7) : tdC q n w = (q 8).toInt := by subst h; rfl
theorem tdC_8 {q : Nat → Int32} {n w : Int} (h : w = 8) : tdC q n w = (q 7).toInt := by subst h; rfl
theorem tdC_9 {q : Nat → Int32} {n w : Int} (h : w = 9) : tdC q n w = n := by subst h; rfl
theorem tdC_o {q : Nat → Int32} {n w : Int} (h : w < 0 ∨ 9 < w) : tdC q n w = -2147483648 := by
  unfold tdC
  rw [if_neg (by omega), if_neg (by omega), if_neg (by omega), if_neg (by omega), if_neg (by omega), if_neg (by omega), if_neg (by omega), if_neg (by omega), if_neg (by omega), if_neg (by omega)]
noncomputable def tdM (f : Nat → Int32) (p n w : Int) : Int := if 0 ≤ w ∧ w ≤ 8 then aI f (10 * p + w) else if w = 9 then n else -2147483648
theorem tdM_i {f : Nat → Int32} {p n w : Int} (h : 0 ≤ w ∧ w ≤ 8) : tdM f p n w = aI f (10 * p + w) := if_pos h
theorem tdM_9 {f : Nat → Int32} {p n w : Int} (h : w = 9) : tdM f p n w = n := by
  unfold tdM
  rw [if_neg (by omega), if_pos h]
theorem tdM_o {f : Nat → Int32} {p n w : Int} (h : w < 0 ∨ 9 < w) : tdM f p n w = -2147483648 := by
  unfold tdM
  rw [if_neg (by omega), if_neg (by omega)]
