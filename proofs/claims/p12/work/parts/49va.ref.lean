theorem v_X11_rekey_35_1 {F : Nat → Nat → Nat} (x10 : Int32) (p0 : Int32) (G32 : XG) (a : Nat) (G : XG) (p1 : Int32) (p2 : Int32)
    (t10 : (x10.toInt = 1 ∧ 0 ≤ p0.toInt ∧ p0.toInt ≤ 2) ∨ (x10.toInt = 0 ∧ (p0.toInt < 0 ∨ 2 < p0.toInt)))
    (c13 : x10.toInt = 0)
    (c_G32_F_a_1 : G32.2.1 (F a 1) = G.2.1 (F a 1)) :
    (¬ ((0 ≤ p0.toInt ∧ p0.toInt < 3) ∧ (0 ≤ p1.toInt ∧ p1.toInt < 30) ∧ (0 ≤ p2.toInt ∧ p2.toInt < 30)) ∧ (-1 : Int) = -1 ∧ mw (G32.2.1 (F a 1)) 0 = (mw (G.2.1 (F a 1)) 0)) ∨ (((0 ≤ p0.toInt ∧ p0.toInt < 3) ∧ (0 ≤ p1.toInt ∧ p1.toInt < 30) ∧ (0 ≤ p2.toInt ∧ p2.toInt < 30)) ∧ cel (mw (G.2.1 (F a 1)) 0) p0.toInt p1.toInt 0 = -2000 ∧ (-1 : Int) = -2 ∧ mw (G32.2.1 (F a 1)) 0 = (mw (G.2.1 (F a 1)) 0)) ∨ (((0 ≤ p0.toInt ∧ p0.toInt < 3) ∧ (0 ≤ p1.toInt ∧ p1.toInt < 30) ∧ (0 ≤ p2.toInt ∧ p2.toInt < 30)) ∧ cel (mw (G.2.1 (F a 1)) 0) p0.toInt p1.toInt 0 ≠ -2000 ∧ cel (mw (G.2.1 (F a 1)) 0) p0.toInt p2.toInt 0 ≠ -2000 ∧ (-1 : Int) = -4 ∧ mw (G32.2.1 (F a 1)) 0 = (mw (G.2.1 (F a 1)) 0)) ∨ (((0 ≤ p0.toInt ∧ p0.toInt < 3) ∧ (0 ≤ p1.toInt ∧ p1.toInt < 30) ∧ (0 ≤ p2.toInt ∧ p2.toInt < 30)) ∧ cel (mw (G.2.1 (F a 1)) 0) p0.toInt p1.toInt 0 ≠ -2000 ∧ cel (mw (G.2.1 (F a 1)) 0) p0.toInt p2.toInt 0 = -2000 ∧ StR ((G.1 a 6).toInt) (-1 : Int) (G.2.1 (F a 10)) (mw (G.2.1 (F a 1)) 0) (mvR (refA (G.2.1 (F a 10))) (refT (G.2.1 (F a 10))) (refC (G.2.1 (F a 10))) p0.toInt p1.toInt p2.toInt (rmv (mw (G.2.1 (F a 1)) 0) p0.toInt p1.toInt p2.toInt) 12) (mw (G32.2.1 (F a 1)) 0)) := by
  refine Or.inl ⟨fun h => ?_, rfl, by rw [c_G32_F_a_1]⟩
  obtain ⟨h1, h2, h3⟩ := h
  have hk := h1
  clear h1 h2 h3
  omega
theorem v_X11_rekey_35_2 {F : Nat → Nat → Nat} (a : Nat) (G : XG) (G32 : XG)
    (hM : RM (G.2.1 (F a 1)) (0))
    (c_G32_F_a_1 : G32.2.1 (F a 1) = G.2.1 (F a 1)) :
    RM (G32.2.1 (F a 1)) 0 := by
  rw [c_G32_F_a_1]; exact hM
theorem v_X11_rekey_35_3 {F : Nat → Nat → Nat} (x17 : Int32) (p1 : Int32) (G32 : XG) (a : Nat) (G : XG) (p0 : Int32) (p2 : Int32)
    (t17 : (x17.toInt = 1 ∧ 0 ≤ p1.toInt ∧ p1.toInt ≤ 29) ∨ (x17.toInt = 0 ∧ (p1.toInt < 0 ∨ 29 < p1.toInt)))
    (c20 : x17.toInt = 0)
    (c_G32_F_a_1 : G32.2.1 (F a 1) = G.2.1 (F a 1)) :
    (¬ ((0 ≤ p0.toInt ∧ p0.toInt < 3) ∧ (0 ≤ p1.toInt ∧ p1.toInt < 30) ∧ (0 ≤ p2.toInt ∧ p2.toInt < 30)) ∧ (-1 : Int) = -1 ∧ mw (G32.2.1 (F a 1)) 0 = (mw (G.2.1 (F a 1)) 0)) ∨ (((0 ≤ p0.toInt ∧ p0.toInt < 3) ∧ (0 ≤ p1.toInt ∧ p1.toInt < 30) ∧ (0 ≤ p2.toInt ∧ p2.toInt < 30)) ∧ cel (mw (G.2.1 (F a 1)) 0) p0.toInt p1.toInt 0 = -2000 ∧ (-1 : Int) = -2 ∧ mw (G32.2.1 (F a 1)) 0 = (mw (G.2.1 (F a 1)) 0)) ∨ (((0 ≤ p0.toInt ∧ p0.toInt < 3) ∧ (0 ≤ p1.toInt ∧ p1.toInt < 30) ∧ (0 ≤ p2.toInt ∧ p2.toInt < 30)) ∧ cel (mw (G.2.1 (F a 1)) 0) p0.toInt p1.toInt 0 ≠ -2000 ∧ cel (mw (G.2.1 (F a 1)) 0) p0.toInt p2.toInt 0 ≠ -2000 ∧ (-1 : Int) = -4 ∧ mw (G32.2.1 (F a 1)) 0 = (mw (G.2.1 (F a 1)) 0)) ∨ (((0 ≤ p0.toInt ∧ p0.toInt < 3) ∧ (0 ≤ p1.toInt ∧ p1.toInt < 30) ∧ (0 ≤ p2.toInt ∧ p2.toInt < 30)) ∧ cel (mw (G.2.1 (F a 1)) 0) p0.toInt p1.toInt 0 ≠ -2000 ∧ cel (mw (G.2.1 (F a 1)) 0) p0.toInt p2.toInt 0 = -2000 ∧ StR ((G.1 a 6).toInt) (-1 : Int) (G.2.1 (F a 10)) (mw (G.2.1 (F a 1)) 0) (mvR (refA (G.2.1 (F a 10))) (refT (G.2.1 (F a 10))) (refC (G.2.1 (F a 10))) p0.toInt p1.toInt p2.toInt (rmv (mw (G.2.1 (F a 1)) 0) p0.toInt p1.toInt p2.toInt) 12) (mw (G32.2.1 (F a 1)) 0)) := by
  refine Or.inl ⟨fun h => ?_, rfl, by rw [c_G32_F_a_1]⟩
  obtain ⟨h1, h2, h3⟩ := h
  have hk := h2
  clear h1 h2 h3
  omega
theorem v_X11_rekey_35_4 {F : Nat → Nat → Nat} (a : Nat) (G : XG) (G32 : XG)
    (hM : RM (G.2.1 (F a 1)) (0))
    (c_G32_F_a_1 : G32.2.1 (F a 1) = G.2.1 (F a 1)) :
    RM (G32.2.1 (F a 1)) 0 := by
  rw [c_G32_F_a_1]; exact hM
theorem v_X11_rekey_39_5 {F : Nat → Nat → Nat} (a : Nat) (G : XG) (G6 : XG)
    (hM : RM (G.2.1 (F a 1)) (0))
    (hB : RM (G.2.1 (F a 2)) 0)
    (c_G6_F_a_1 : G6.2.1 (F a 1) = G.2.1 (F a 1)) :
    RM (G6.2.1 (F a 1)) 0 := by simp only [c_G6_F_a_1]; assumption
theorem v_X11_rekey_55_6 {F : Nat → Nat → Nat} (a : Nat) (G : XG) (G6 : XG)
    (hM : RM (G.2.1 (F a 1)) (0))
    (hB : RM (G.2.1 (F a 2)) 0)
    (c_G6_F_a_1 : G6.2.1 (F a 1) = G.2.1 (F a 1)) :
    RM (G6.2.1 (F a 1)) 0 := by simp only [c_G6_F_a_1]; assumption
theorem v_X11_rekey_69_7 {F : Nat → Nat → Nat} (a : Nat) (G : XG) (G6 : XG)
    (hR : RV (G.2.1 (F a 10)))
    (c_G6_F_a_10 : G6.2.1 (F a 10) = G.2.1 (F a 10)) :
    RV (G6.2.1 (F a 10)) := by simp only [c_G6_F_a_10]; assumption
theorem v_X11_rekey_69_8 {F : Nat → Nat → Nat} (a : Nat) (G : XG) (G6 : XG)
    (hM : RM (G.2.1 (F a 1)) (0))
    (hB : RM (G.2.1 (F a 2)) 0)
    (c_G6_F_a_1 : G6.2.1 (F a 1) = G.2.1 (F a 1)) :
    RM (G6.2.1 (F a 1)) (0) := by simp only [c_G6_F_a_1]; assumption
