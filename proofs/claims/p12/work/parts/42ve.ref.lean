theorem v_X11_cut_28_1 {F : Nat → Nat → Nat} (x10 : Int32) (p0 : Int32) (G25 : XG) (a : Nat) (G : XG) (p1 : Int32)
    (t10 : (x10.toInt = 1 ∧ 0 ≤ p0.toInt ∧ p0.toInt ≤ 2) ∨ (x10.toInt = 0 ∧ (p0.toInt < 0 ∨ 2 < p0.toInt)))
    (c13 : x10.toInt = 0)
    (c_G25_F_a_1 : G25.2.1 (F a 1) = G.2.1 (F a 1)) :
    (¬ ((0 ≤ p0.toInt ∧ p0.toInt < 3) ∧ (0 ≤ p1.toInt ∧ p1.toInt < 30)) ∧ (-1 : Int) = -1 ∧ mw (G25.2.1 (F a 1)) 0 = (mw (G.2.1 (F a 1)) 0)) ∨ (((0 ≤ p0.toInt ∧ p0.toInt < 3) ∧ (0 ≤ p1.toInt ∧ p1.toInt < 30)) ∧ cel (mw (G.2.1 (F a 1)) 0) p0.toInt p1.toInt 0 = -2000 ∧ (-1 : Int) = -2 ∧ mw (G25.2.1 (F a 1)) 0 = (mw (G.2.1 (F a 1)) 0)) ∨ (((0 ≤ p0.toInt ∧ p0.toInt < 3) ∧ (0 ≤ p1.toInt ∧ p1.toInt < 30)) ∧ cel (mw (G.2.1 (F a 1)) 0) p0.toInt p1.toInt 0 ≠ -2000 ∧ StR ((G.1 a 6).toInt) (-1 : Int) (G.2.1 (F a 10)) (mw (G.2.1 (F a 1)) 0) (cfin (refA (G.2.1 (F a 10))) (refT (G.2.1 (F a 10))) (refC (G.2.1 (F a 10))) ([(p0.toInt, p1.toInt, 0, 0)], rfil (mw (G.2.1 (F a 1)) 0) p0.toInt p1.toInt (-2000) 3)) (mw (G25.2.1 (F a 1)) 0)) := by
  refine Or.inl ⟨fun h => ?_, rfl, by rw [c_G25_F_a_1]⟩
  obtain ⟨h1, h2⟩ := h
  have hk := h1
  clear h1 h2
  omega
theorem v_X11_cut_28_2 {F : Nat → Nat → Nat} (a : Nat) (G : XG) (G25 : XG)
    (hM : RM (G.2.1 (F a 1)) (0))
    (c_G25_F_a_1 : G25.2.1 (F a 1) = G.2.1 (F a 1)) :
    RM (G25.2.1 (F a 1)) 0 := by
  rw [c_G25_F_a_1]; exact hM
theorem v_X11_cut_32_3 {F : Nat → Nat → Nat} (a : Nat) (G : XG) (G6 : XG)
    (hM : RM (G.2.1 (F a 1)) (0))
    (hB : RM (G.2.1 (F a 2)) 0)
    (c_G6_F_a_1 : G6.2.1 (F a 1) = G.2.1 (F a 1)) :
    RM (G6.2.1 (F a 1)) 0 := by simp only [c_G6_F_a_1]; assumption
theorem v_X11_cut_46_4 {F : Nat → Nat → Nat} (a : Nat) (G : XG) (G6 : XG)
    (hR : RV (G.2.1 (F a 10)))
    (c_G6_F_a_10 : G6.2.1 (F a 10) = G.2.1 (F a 10)) :
    RV (G6.2.1 (F a 10)) := by simp only [c_G6_F_a_10]; assumption
theorem v_X11_cut_46_5 {F : Nat → Nat → Nat} (a : Nat) (G : XG) (G6 : XG)
    (hM : RM (G.2.1 (F a 1)) (0))
    (hB : RM (G.2.1 (F a 2)) 0)
    (c_G6_F_a_1 : G6.2.1 (F a 1) = G.2.1 (F a 1)) :
    RM (G6.2.1 (F a 1)) (0) := by simp only [c_G6_F_a_1]; assumption
theorem v_X11_cut_52_6 {F : Nat → Nat → Nat} (a : Nat) (G : XG) (G46 : XG)
    (hR : RV (G.2.1 (F a 10)))
    (c_G46_F_a_10 : G46.2.1 (F a 10) = G.2.1 (F a 10)) :
    RV (G46.2.1 (F a 10)) := by simp only [c_G46_F_a_10]; assumption
theorem v_X11_cut_52_7 {F : Nat → Nat → Nat} (a : Nat) (G : XG) (G46 : XG)
    (hM : RM (G.2.1 (F a 1)) (0))
    (hB : RM (G.2.1 (F a 2)) 0)
    (oq46a : RM (G46.2.1 (F a 4)) 0)
    (c_G46_F_a_1 : G46.2.1 (F a 1) = G.2.1 (F a 1)) :
    RM (G46.2.1 (F a 1)) (0) := by simp only [c_G46_F_a_1]; assumption
theorem v_X11_cut_56_8 {F : Nat → Nat → Nat} (a : Nat) (G : XG) (G52 : XG)
    (hR : RV (G.2.1 (F a 10)))
    (c_G52_F_a_10 : G52.2.1 (F a 10) = G.2.1 (F a 10)) :
    RV (G52.2.1 (F a 10)) := by simp only [c_G52_F_a_10]; assumption
theorem v_X11_cut_56_9 {F : Nat → Nat → Nat} (a : Nat) (G52 : XG)
    (oq52a : RM (G52.2.1 (F a 1)) 0) :
    RM (G52.2.1 (F a 1)) (0) := by
  exact oq52a
