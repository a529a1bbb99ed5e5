theorem v_X11_rekey_73_33 {K : Nat → Nat} {F : Nat → Nat → Nat} (a : Nat) (G : XG) (G6 : XG) (x10 : Int32) (p0 : Int32) (x17 : Int32) (p1 : Int32) (x24 : Int32) (p2 : Int32) (x39 : Int32) (x55 : Int32)
    (ha : K a = 13)
    (am : 0 ≤ ((G.1 a 43).toInt) ∧ ((G.1 a 43).toInt) ≤ 2388)
    (t6 : ((G6.1 a 20).toInt) = -2147483648 ∧ ((G6.1 a 21).toInt) = -2147483648 ∧ ((G6.1 a 23).toInt) = 0)
    (t10 : (x10.toInt = 1 ∧ 0 ≤ p0.toInt ∧ p0.toInt ≤ 2) ∨ (x10.toInt = 0 ∧ (p0.toInt < 0 ∨ 2 < p0.toInt)))
    (c13 : ¬ (x10.toInt = 0))
    (t17 : (x17.toInt = 1 ∧ 0 ≤ p1.toInt ∧ p1.toInt ≤ 29) ∨ (x17.toInt = 0 ∧ (p1.toInt < 0 ∨ 29 < p1.toInt)))
    (c20 : ¬ (x17.toInt = 0))
    (t24 : (x24.toInt = 1 ∧ 0 ≤ p2.toInt ∧ p2.toInt ≤ 29) ∨ (x24.toInt = 0 ∧ (p2.toInt < 0 ∨ 29 < p2.toInt)))
    (c27 : x24.toInt ≠ 0)
    (z36 : 0 ≤ p0.toInt ∧ p0.toInt < 3)
    (z36a : 0 ≤ p1.toInt ∧ p1.toInt < 30)
    (z36b : 0 ≤ p2.toInt ∧ p2.toInt < 30)
    (t39 : (x39.toInt = 1 ∧ (cel (mw (G.2.1 (F a 1)) 0) (p0.toInt) (p1.toInt) 0) ≠ -2000) ∨ (x39.toInt = 0 ∧ (cel (mw (G.2.1 (F a 1)) 0) (p0.toInt) (p1.toInt) 0) = -2000))
    (c42 : x39.toInt ≠ 0)
    (t55 : (x55.toInt = 1 ∧ (cel (mw (G.2.1 (F a 1)) 0) (p0.toInt) (p2.toInt) 0) ≠ -2000) ∨ (x55.toInt = 0 ∧ (cel (mw (G.2.1 (F a 1)) 0) (p0.toInt) (p2.toInt) 0) = -2000))
    (c58 : x55.toInt = 0)
    (z68 : p1.toInt = p2.toInt → (cel (mw (G.2.1 (F a 1)) 0) (p0.toInt) (p1.toInt) 0) = (cel (mw (G.2.1 (F a 1)) 0) (p0.toInt) (p2.toInt) 0)) :
    MVp (G.2.1 (F a 1)) (G.2.1 (F a 1)) (0 + 4 * (30 * p0.toInt + p1.toInt)) (0 + 4 * (30 * p0.toInt + p2.toInt)) (0 : Int) := by
  intro z hz; rw [if_neg (by omega)]
theorem v_X11_rekey_67_34 {F : Nat → Nat → Nat} (p0 : Int32) (p1 : Int32) (p2 : Int32) (x39 : Int32) (G : XG) (a : Nat) (x55 : Int32) (G64 : XG)
    (z36 : 0 ≤ p0.toInt ∧ p0.toInt < 3)
    (z36a : 0 ≤ p1.toInt ∧ p1.toInt < 30)
    (z36b : 0 ≤ p2.toInt ∧ p2.toInt < 30)
    (t39 : (x39.toInt = 1 ∧ (cel (mw (G.2.1 (F a 1)) 0) (p0.toInt) (p1.toInt) 0) ≠ -2000) ∨ (x39.toInt = 0 ∧ (cel (mw (G.2.1 (F a 1)) 0) (p0.toInt) (p1.toInt) 0) = -2000))
    (c42 : x39.toInt ≠ 0)
    (t55 : (x55.toInt = 1 ∧ (cel (mw (G.2.1 (F a 1)) 0) (p0.toInt) (p2.toInt) 0) ≠ -2000) ∨ (x55.toInt = 0 ∧ (cel (mw (G.2.1 (F a 1)) 0) (p0.toInt) (p2.toInt) 0) = -2000))
    (c58 : ¬ (x55.toInt = 0))
    (c_G64_F_a_1 : G64.2.1 (F a 1) = G.2.1 (F a 1)) :
    (¬ ((0 ≤ p0.toInt ∧ p0.toInt < 3) ∧ (0 ≤ p1.toInt ∧ p1.toInt < 30) ∧ (0 ≤ p2.toInt ∧ p2.toInt < 30)) ∧ (-4 : Int) = -1 ∧ mw (G64.2.1 (F a 1)) 0 = (mw (G.2.1 (F a 1)) 0)) ∨ (((0 ≤ p0.toInt ∧ p0.toInt < 3) ∧ (0 ≤ p1.toInt ∧ p1.toInt < 30) ∧ (0 ≤ p2.toInt ∧ p2.toInt < 30)) ∧ cel (mw (G.2.1 (F a 1)) 0) p0.toInt p1.toInt 0 = -2000 ∧ (-4 : Int) = -2 ∧ mw (G64.2.1 (F a 1)) 0 = (mw (G.2.1 (F a 1)) 0)) ∨ (((0 ≤ p0.toInt ∧ p0.toInt < 3) ∧ (0 ≤ p1.toInt ∧ p1.toInt < 30) ∧ (0 ≤ p2.toInt ∧ p2.toInt < 30)) ∧ cel (mw (G.2.1 (F a 1)) 0) p0.toInt p1.toInt 0 ≠ -2000 ∧ cel (mw (G.2.1 (F a 1)) 0) p0.toInt p2.toInt 0 ≠ -2000 ∧ (-4 : Int) = -4 ∧ mw (G64.2.1 (F a 1)) 0 = (mw (G.2.1 (F a 1)) 0)) ∨ (((0 ≤ p0.toInt ∧ p0.toInt < 3) ∧ (0 ≤ p1.toInt ∧ p1.toInt < 30) ∧ (0 ≤ p2.toInt ∧ p2.toInt < 30)) ∧ cel (mw (G.2.1 (F a 1)) 0) p0.toInt p1.toInt 0 ≠ -2000 ∧ cel (mw (G.2.1 (F a 1)) 0) p0.toInt p2.toInt 0 = -2000 ∧ StR ((G.1 a 6).toInt) (-4 : Int) (G.2.1 (F a 10)) (mw (G.2.1 (F a 1)) 0) (mvR (refA (G.2.1 (F a 10))) (refT (G.2.1 (F a 10))) (refC (G.2.1 (F a 10))) p0.toInt p1.toInt p2.toInt (rmv (mw (G.2.1 (F a 1)) 0) p0.toInt p1.toInt p2.toInt) 12) (mw (G64.2.1 (F a 1)) 0)) := by
  exact Or.inr (Or.inr (Or.inl ⟨⟨z36, z36a, z36b⟩, by omega, by omega, rfl, by rw [c_G64_F_a_1]⟩))
theorem v_X11_rekey_67_35 {F : Nat → Nat → Nat} (a : Nat) (G : XG) (G64 : XG)
    (hM : RM (G.2.1 (F a 1)) (0))
    (c_G64_F_a_1 : G64.2.1 (F a 1) = G.2.1 (F a 1)) :
    RM (G64.2.1 (F a 1)) 0 := by
  rw [c_G64_F_a_1]; exact hM
theorem v_X11_rekey_51_36 {F : Nat → Nat → Nat} (p0 : Int32) (p1 : Int32) (p2 : Int32) (x39 : Int32) (G : XG) (a : Nat) (G48 : XG)
    (z36 : 0 ≤ p0.toInt ∧ p0.toInt < 3)
    (z36a : 0 ≤ p1.toInt ∧ p1.toInt < 30)
    (z36b : 0 ≤ p2.toInt ∧ p2.toInt < 30)
    (t39 : (x39.toInt = 1 ∧ (cel (mw (G.2.1 (F a 1)) 0) (p0.toInt) (p1.toInt) 0) ≠ -2000) ∨ (x39.toInt = 0 ∧ (cel (mw (G.2.1 (F a 1)) 0) (p0.toInt) (p1.toInt) 0) = -2000))
    (c42 : ¬ (x39.toInt ≠ 0))
    (c_G48_F_a_1 : G48.2.1 (F a 1) = G.2.1 (F a 1)) :
    (¬ ((0 ≤ p0.toInt ∧ p0.toInt < 3) ∧ (0 ≤ p1.toInt ∧ p1.toInt < 30) ∧ (0 ≤ p2.toInt ∧ p2.toInt < 30)) ∧ (-2 : Int) = -1 ∧ mw (G48.2.1 (F a 1)) 0 = (mw (G.2.1 (F a 1)) 0)) ∨ (((0 ≤ p0.toInt ∧ p0.toInt < 3) ∧ (0 ≤ p1.toInt ∧ p1.toInt < 30) ∧ (0 ≤ p2.toInt ∧ p2.toInt < 30)) ∧ cel (mw (G.2.1 (F a 1)) 0) p0.toInt p1.toInt 0 = -2000 ∧ (-2 : Int) = -2 ∧ mw (G48.2.1 (F a 1)) 0 = (mw (G.2.1 (F a 1)) 0)) ∨ (((0 ≤ p0.toInt ∧ p0.toInt < 3) ∧ (0 ≤ p1.toInt ∧ p1.toInt < 30) ∧ (0 ≤ p2.toInt ∧ p2.toInt < 30)) ∧ cel (mw (G.2.1 (F a 1)) 0) p0.toInt p1.toInt 0 ≠ -2000 ∧ cel (mw (G.2.1 (F a 1)) 0) p0.toInt p2.toInt 0 ≠ -2000 ∧ (-2 : Int) = -4 ∧ mw (G48.2.1 (F a 1)) 0 = (mw (G.2.1 (F a 1)) 0)) ∨ (((0 ≤ p0.toInt ∧ p0.toInt < 3) ∧ (0 ≤ p1.toInt ∧ p1.toInt < 30) ∧ (0 ≤ p2.toInt ∧ p2.toInt < 30)) ∧ cel (mw (G.2.1 (F a 1)) 0) p0.toInt p1.toInt 0 ≠ -2000 ∧ cel (mw (G.2.1 (F a 1)) 0) p0.toInt p2.toInt 0 = -2000 ∧ StR ((G.1 a 6).toInt) (-2 : Int) (G.2.1 (F a 10)) (mw (G.2.1 (F a 1)) 0) (mvR (refA (G.2.1 (F a 10))) (refT (G.2.1 (F a 10))) (refC (G.2.1 (F a 10))) p0.toInt p1.toInt p2.toInt (rmv (mw (G.2.1 (F a 1)) 0) p0.toInt p1.toInt p2.toInt) 12) (mw (G48.2.1 (F a 1)) 0)) := by
  exact Or.inr (Or.inl ⟨⟨z36, z36a, z36b⟩, by omega, rfl, by rw [c_G48_F_a_1]⟩)
theorem v_X11_rekey_51_37 {F : Nat → Nat → Nat} (a : Nat) (G : XG) (G48 : XG)
    (hM : RM (G.2.1 (F a 1)) (0))
    (c_G48_F_a_1 : G48.2.1 (F a 1) = G.2.1 (F a 1)) :
    RM (G48.2.1 (F a 1)) 0 := by
  rw [c_G48_F_a_1]; exact hM
theorem v_X11_rekey_35_38 {F : Nat → Nat → Nat} (x24 : Int32) (p2 : Int32) (G32 : XG) (a : Nat) (G : XG) (p0 : Int32) (p1 : Int32)
    (t24 : (x24.toInt = 1 ∧ 0 ≤ p2.toInt ∧ p2.toInt ≤ 29) ∨ (x24.toInt = 0 ∧ (p2.toInt < 0 ∨ 29 < p2.toInt)))
    (c27 : ¬ (x24.toInt ≠ 0))
    (c_G32_F_a_1 : G32.2.1 (F a 1) = G.2.1 (F a 1)) :
    (¬ ((0 ≤ p0.toInt ∧ p0.toInt < 3) ∧ (0 ≤ p1.toInt ∧ p1.toInt < 30) ∧ (0 ≤ p2.toInt ∧ p2.toInt < 30)) ∧ (-1 : Int) = -1 ∧ mw (G32.2.1 (F a 1)) 0 = (mw (G.2.1 (F a 1)) 0)) ∨ (((0 ≤ p0.toInt ∧ p0.toInt < 3) ∧ (0 ≤ p1.toInt ∧ p1.toInt < 30) ∧ (0 ≤ p2.toInt ∧ p2.toInt < 30)) ∧ cel (mw (G.2.1 (F a 1)) 0) p0.toInt p1.toInt 0 = -2000 ∧ (-1 : Int) = -2 ∧ mw (G32.2.1 (F a 1)) 0 = (mw (G.2.1 (F a 1)) 0)) ∨ (((0 ≤ p0.toInt ∧ p0.toInt < 3) ∧ (0 ≤ p1.toInt ∧ p1.toInt < 30) ∧ (0 ≤ p2.toInt ∧ p2.toInt < 30)) ∧ cel (mw (G.2.1 (F a 1)) 0) p0.toInt p1.toInt 0 ≠ -2000 ∧ cel (mw (G.2.1 (F a 1)) 0) p0.toInt p2.toInt 0 ≠ -2000 ∧ (-1 : Int) = -4 ∧ mw (G32.2.1 (F a 1)) 0 = (mw (G.2.1 (F a 1)) 0)) ∨ (((0 ≤ p0.toInt ∧ p0.toInt < 3) ∧ (0 ≤ p1.toInt ∧ p1.toInt < 30) ∧ (0 ≤ p2.toInt ∧ p2.toInt < 30)) ∧ cel (mw (G.2.1 (F a 1)) 0) p0.toInt p1.toInt 0 ≠ -2000 ∧ cel (mw (G.2.1 (F a 1)) 0) p0.toInt p2.toInt 0 = -2000 ∧ StR ((G.1 a 6).toInt) (-1 : Int) (G.2.1 (F a 10)) (mw (G.2.1 (F a 1)) 0) (mvR (refA (G.2.1 (F a 10))) (refT (G.2.1 (F a 10))) (refC (G.2.1 (F a 10))) p0.toInt p1.toInt p2.toInt (rmv (mw (G.2.1 (F a 1)) 0) p0.toInt p1.toInt p2.toInt) 12) (mw (G32.2.1 (F a 1)) 0)) := by
  refine Or.inl ⟨fun h => ?_, rfl, by rw [c_G32_F_a_1]⟩
  obtain ⟨h1, h2, h3⟩ := h
  have hk := h3
  clear h1 h2 h3
  omega
theorem v_X11_rekey_35_39 {F : Nat → Nat → Nat} (a : Nat) (G : XG) (G32 : XG)
    (hM : RM (G.2.1 (F a 1)) (0))
    (c_G32_F_a_1 : G32.2.1 (F a 1) = G.2.1 (F a 1)) :
    RM (G32.2.1 (F a 1)) 0 := by
  rw [c_G32_F_a_1]; exact hM

