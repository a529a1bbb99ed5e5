theorem v_X11_cut_56_10 {F : Nat → Nat → Nat} (a : Nat) (G : XG) (G46 : XG) (G52 : XG)
    (hM : RM (G.2.1 (F a 1)) (0))
    (hB : RM (G.2.1 (F a 2)) 0)
    (oq46a : RM (G46.2.1 (F a 4)) 0)
    (oq52a : RM (G52.2.1 (F a 1)) 0)
    (c_G52_F_a_4 : G52.2.1 (F a 4) = G46.2.1 (F a 4)) :
    RM (G52.2.1 (F a 4)) 0 := by simp only [c_G52_F_a_4]; assumption
theorem v_X11_cut_56_11 {F : Nat → Nat → Nat} (a : Nat) (G : XG) (G46 : XG) (G52 : XG)
    (hM : RM (G.2.1 (F a 1)) (0))
    (hB : RM (G.2.1 (F a 2)) 0)
    (oq46a : RM (G46.2.1 (F a 4)) 0)
    (oq52a : RM (G52.2.1 (F a 1)) 0)
    (c_G52_F_a_2 : G52.2.1 (F a 2) = G.2.1 (F a 2)) :
    RM (G52.2.1 (F a 2)) 0 := by simp only [c_G52_F_a_2]; assumption
theorem v_X11_cut_56_12 {F : Nat → Nat → Nat} (a : Nat) (G : XG) (G46 : XG) (G52 : XG)
    (oq46b : LSt (G.2.1 (F a 10)) (G46.2.1 (F a 12)) (mw (G.2.1 (F a 1)) 0) 12)
    (c_G52_F_a_10 : G52.2.1 (F a 10) = G.2.1 (F a 10))
    (c_G52_F_a_12 : G52.2.1 (F a 12) = G46.2.1 (F a 12)) :
    LSt (G52.2.1 (F a 10)) (G52.2.1 (F a 12)) (mw (G.2.1 (F a 1)) 0) 12 := by
  rw [c_G52_F_a_10, c_G52_F_a_12]; exact oq46b
theorem v_X11_cut_59_13 {F : Nat → Nat → Nat} (G46 : XG) (a : Nat) (G : XG) (G52 : XG) (p0 : Int32) (p1 : Int32) (x56 : Int32) (G56 : XG) (x32 : Int32)
    (oq46 : mw (G46.2.1 (F a 4)) 0 = mw (G.2.1 (F a 1)) 0)
    (oq52 : mw (G52.2.1 (F a 1)) 0 = cfin (refA (G.2.1 (F a 10))) (refT (G.2.1 (F a 10))) (refC (G.2.1 (F a 10))) ([(p0.toInt, p1.toInt, 0, 0)], rfil (mw (G.2.1 (F a 1)) 0) p0.toInt p1.toInt (-2000) 3))
    (oq56 : ((ffP (G.2.1 (F a 10)) (mw (G52.2.1 (F a 1)) 0) (fuO (G.2.1 (F a 10)) (mw (G.2.1 (F a 1)) 0) (mw (G52.2.1 (F a 1)) 0) 0) ≠ -1 ∨ (((G.1 a 6).toInt) = 0 ∧ ffP (G.2.1 (F a 10)) (mw (G52.2.1 (F a 1)) 0) (fuO (G.2.1 (F a 10)) (mw (G.2.1 (F a 1)) 0) (mw (G52.2.1 (F a 1)) 0) 1) ≠ -1)) ∧ x56.toInt = -5 ∧ mw (G56.2.1 (F a 1)) 0 = mw (G46.2.1 (F a 4)) 0) ∨ (ffP (G.2.1 (F a 10)) (mw (G52.2.1 (F a 1)) 0) (fuO (G.2.1 (F a 10)) (mw (G.2.1 (F a 1)) 0) (mw (G52.2.1 (F a 1)) 0) 0) = -1 ∧ (((G.1 a 6).toInt) = 0 → ffP (G.2.1 (F a 10)) (mw (G52.2.1 (F a 1)) 0) (fuO (G.2.1 (F a 10)) (mw (G.2.1 (F a 1)) 0) (mw (G52.2.1 (F a 1)) 0) 1) = -1) ∧ x56.toInt = (((fuO (G.2.1 (F a 10)) (mw (G.2.1 (F a 1)) 0) (mw (G52.2.1 (F a 1)) 0) 2).length : Nat) : Int) ∧ mw (G56.2.1 (F a 1)) 0 = mw (G52.2.1 (F a 1)) 0))
    (z29 : 0 ≤ p0.toInt ∧ p0.toInt < 3)
    (z29a : 0 ≤ p1.toInt ∧ p1.toInt < 30)
    (t32 : (x32.toInt = 1 ∧ (cel (mw (G.2.1 (F a 1)) 0) (p0.toInt) (p1.toInt) 0) ≠ -2000) ∨ (x32.toInt = 0 ∧ (cel (mw (G.2.1 (F a 1)) 0) (p0.toInt) (p1.toInt) 0) = -2000))
    (c35 : x32.toInt ≠ 0) :
    (¬ ((0 ≤ p0.toInt ∧ p0.toInt < 3) ∧ (0 ≤ p1.toInt ∧ p1.toInt < 30)) ∧ x56.toInt = -1 ∧ mw (G56.2.1 (F a 1)) 0 = (mw (G.2.1 (F a 1)) 0)) ∨ (((0 ≤ p0.toInt ∧ p0.toInt < 3) ∧ (0 ≤ p1.toInt ∧ p1.toInt < 30)) ∧ cel (mw (G.2.1 (F a 1)) 0) p0.toInt p1.toInt 0 = -2000 ∧ x56.toInt = -2 ∧ mw (G56.2.1 (F a 1)) 0 = (mw (G.2.1 (F a 1)) 0)) ∨ (((0 ≤ p0.toInt ∧ p0.toInt < 3) ∧ (0 ≤ p1.toInt ∧ p1.toInt < 30)) ∧ cel (mw (G.2.1 (F a 1)) 0) p0.toInt p1.toInt 0 ≠ -2000 ∧ StR ((G.1 a 6).toInt) x56.toInt (G.2.1 (F a 10)) (mw (G.2.1 (F a 1)) 0) (cfin (refA (G.2.1 (F a 10))) (refT (G.2.1 (F a 10))) (refC (G.2.1 (F a 10))) ([(p0.toInt, p1.toInt, 0, 0)], rfil (mw (G.2.1 (F a 1)) 0) p0.toInt p1.toInt (-2000) 3)) (mw (G56.2.1 (F a 1)) 0)) := by
  rw [oq52, oq46] at oq56
  exact Or.inr (Or.inr ⟨⟨z29, z29a⟩, by omega, oq56⟩)
theorem v_X11_cut_59_14 {F : Nat → Nat → Nat} (a : Nat) (G56 : XG)
    (oq56a : RM (G56.2.1 (F a 1)) 0) :
    RM (G56.2.1 (F a 1)) 0 := by
  exact oq56a
theorem v_X11_cut_44_15 {F : Nat → Nat → Nat} (p0 : Int32) (p1 : Int32) (x32 : Int32) (G : XG) (a : Nat) (G41 : XG)
    (z29 : 0 ≤ p0.toInt ∧ p0.toInt < 3)
    (z29a : 0 ≤ p1.toInt ∧ p1.toInt < 30)
    (t32 : (x32.toInt = 1 ∧ (cel (mw (G.2.1 (F a 1)) 0) (p0.toInt) (p1.toInt) 0) ≠ -2000) ∨ (x32.toInt = 0 ∧ (cel (mw (G.2.1 (F a 1)) 0) (p0.toInt) (p1.toInt) 0) = -2000))
    (c35 : ¬ (x32.toInt ≠ 0))
    (c_G41_F_a_1 : G41.2.1 (F a 1) = G.2.1 (F a 1)) :
    (¬ ((0 ≤ p0.toInt ∧ p0.toInt < 3) ∧ (0 ≤ p1.toInt ∧ p1.toInt < 30)) ∧ (-2 : Int) = -1 ∧ mw (G41.2.1 (F a 1)) 0 = (mw (G.2.1 (F a 1)) 0)) ∨ (((0 ≤ p0.toInt ∧ p0.toInt < 3) ∧ (0 ≤ p1.toInt ∧ p1.toInt < 30)) ∧ cel (mw (G.2.1 (F a 1)) 0) p0.toInt p1.toInt 0 = -2000 ∧ (-2 : Int) = -2 ∧ mw (G41.2.1 (F a 1)) 0 = (mw (G.2.1 (F a 1)) 0)) ∨ (((0 ≤ p0.toInt ∧ p0.toInt < 3) ∧ (0 ≤ p1.toInt ∧ p1.toInt < 30)) ∧ cel (mw (G.2.1 (F a 1)) 0) p0.toInt p1.toInt 0 ≠ -2000 ∧ StR ((G.1 a 6).toInt) (-2 : Int) (G.2.1 (F a 10)) (mw (G.2.1 (F a 1)) 0) (cfin (refA (G.2.1 (F a 10))) (refT (G.2.1 (F a 10))) (refC (G.2.1 (F a 10))) ([(p0.toInt, p1.toInt, 0, 0)], rfil (mw (G.2.1 (F a 1)) 0) p0.toInt p1.toInt (-2000) 3)) (mw (G41.2.1 (F a 1)) 0)) := by
  exact Or.inr (Or.inl ⟨⟨z29, z29a⟩, by omega, rfl, by rw [c_G41_F_a_1]⟩)
theorem v_X11_cut_44_16 {F : Nat → Nat → Nat} (a : Nat) (G : XG) (G41 : XG)
    (hM : RM (G.2.1 (F a 1)) (0))
    (c_G41_F_a_1 : G41.2.1 (F a 1) = G.2.1 (F a 1)) :
    RM (G41.2.1 (F a 1)) 0 := by
  rw [c_G41_F_a_1]; exact hM
theorem v_X11_cut_28_17 {F : Nat → Nat → Nat} (x17 : Int32) (p1 : Int32) (G25 : XG) (a : Nat) (G : XG) (p0 : Int32)
    (t17 : (x17.toInt = 1 ∧ 0 ≤ p1.toInt ∧ p1.toInt ≤ 29) ∨ (x17.toInt = 0 ∧ (p1.toInt < 0 ∨ 29 < p1.toInt)))
    (c20 : ¬ (x17.toInt ≠ 0))
    (c_G25_F_a_1 : G25.2.1 (F a 1) = G.2.1 (F a 1)) :
    (¬ ((0 ≤ p0.toInt ∧ p0.toInt < 3) ∧ (0 ≤ p1.toInt ∧ p1.toInt < 30)) ∧ (-1 : Int) = -1 ∧ mw (G25.2.1 (F a 1)) 0 = (mw (G.2.1 (F a 1)) 0)) ∨ (((0 ≤ p0.toInt ∧ p0.toInt < 3) ∧ (0 ≤ p1.toInt ∧ p1.toInt < 30)) ∧ cel (mw (G.2.1 (F a 1)) 0) p0.toInt p1.toInt 0 = -2000 ∧ (-1 : Int) = -2 ∧ mw (G25.2.1 (F a 1)) 0 = (mw (G.2.1 (F a 1)) 0)) ∨ (((0 ≤ p0.toInt ∧ p0.toInt < 3) ∧ (0 ≤ p1.toInt ∧ p1.toInt < 30)) ∧ cel (mw (G.2.1 (F a 1)) 0) p0.toInt p1.toInt 0 ≠ -2000 ∧ StR ((G.1 a 6).toInt) (-1 : Int) (G.2.1 (F a 10)) (mw (G.2.1 (F a 1)) 0) (cfin (refA (G.2.1 (F a 10))) (refT (G.2.1 (F a 10))) (refC (G.2.1 (F a 10))) ([(p0.toInt, p1.toInt, 0, 0)], rfil (mw (G.2.1 (F a 1)) 0) p0.toInt p1.toInt (-2000) 3)) (mw (G25.2.1 (F a 1)) 0)) := by
  refine Or.inl ⟨fun h => ?_, rfl, by rw [c_G25_F_a_1]⟩
  obtain ⟨h1, h2⟩ := h
  have hk := h2
  clear h1 h2
  omega
theorem v_X11_cut_28_18 {F : Nat → Nat → Nat} (a : Nat) (G : XG) (G25 : XG)
    (hM : RM (G.2.1 (F a 1)) (0))
    (c_G25_F_a_1 : G25.2.1 (F a 1) = G.2.1 (F a 1)) :
    RM (G25.2.1 (F a 1)) 0 := by
  rw [c_G25_F_a_1]; exact hM

