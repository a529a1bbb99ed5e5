theorem v_X11_wouldCut_8_1 {F : Nat → Nat → Nat} (a : Nat) (G2 : XG) (G : XG)
    (hM : RM (G.2.1 (F a 1)) (0))
    (c_G2_F_a_1 : G2.2.1 (F a 1) = G.2.1 (F a 1)) :
    RM (G2.2.1 (F a 1)) 0 := by simp only [c_G2_F_a_1]; assumption
theorem v_X11_wouldCut_27_2 {F : Nat → Nat → Nat} (G2 : XG) (a : Nat) (G : XG)
    (c_G2_F_a_1 : G2.2.1 (F a 1) = G.2.1 (F a 1)) :
    mw (G2.2.1 (F a 1)) 0 = mw (G.2.1 (F a 1)) 0 := by
  rw [c_G2_F_a_1]
theorem v_X11_wouldCut_27_3 {F : Nat → Nat → Nat} (G : XG) (a : Nat) (G2 : XG)
    (hM : RM (G.2.1 (F a 1)) (0))
    (c_G2_F_a_1 : G2.2.1 (F a 1) = G.2.1 (F a 1)) :
    RM (G2.2.1 (F a 1)) 0 := by
  rw [c_G2_F_a_1]; exact hM
theorem v_X11_wouldCut_27_4 {K : Nat → Nat} {F : Nat → Nat → Nat} (a : Nat) (G : XG) (p0 : Int32) (p1 : Int32) (x8 : Int32) (p2 : Int32)
    (ha : K a = 13)
    (z5 : ¬ (0 ≤ p0.toInt ∧ p0.toInt < 3 ∧ 0 ≤ p1.toInt ∧ p1.toInt < 30) → (cel (mw (G.2.1 (F a 1)) 0) (p0.toInt) (p1.toInt) 0) = -2000)
    (t8 : (x8.toInt = 1 ∧ (cel (mw (G.2.1 (F a 1)) 0) (p0.toInt) (p1.toInt) 0) ≠ -2000) ∨ (x8.toInt = 0 ∧ (cel (mw (G.2.1 (F a 1)) 0) (p0.toInt) (p1.toInt) 0) = -2000))
    (c11 : x8.toInt = 0) :
    (¬ (cel (mw (G.2.1 (F a 1)) 0) p0.toInt p1.toInt 0 ≠ -2000 ∧ 0 ≤ p2.toInt ∧ p2.toInt ≤ 2) ∧ (-1 : Int) = -1) ∨ ((cel (mw (G.2.1 (F a 1)) 0) p0.toInt p1.toInt 0 ≠ -2000 ∧ 0 ≤ p2.toInt ∧ p2.toInt ≤ 2) ∧ ((p2.toInt = 0 ∧ ∃ f0 f1 : Nat → Int32, (RM f0 0 ∧ mw f0 0 = (mw (G.2.1 (F a 1)) 0)) ∧ (RM f1 0 ∧ mw f1 0 = cfin (refA (G.2.1 (F a 10))) (refT (G.2.1 (F a 10))) (refC (G.2.1 (F a 10))) ([(p0.toInt, p1.toInt, 0, 0)], rfil (mw (G.2.1 (F a 1)) 0) p0.toInt p1.toInt (-2000) 3)) ∧ (-1 : Int) = rmT f0 360 - rmT f1 360) ∨ (p2.toInt = 1 ∧ ∃ f0 f1 : Nat → Int32, (RM f0 0 ∧ mw f0 0 = (mw (G.2.1 (F a 1)) 0)) ∧ (RM f1 0 ∧ mw f1 0 = cfin (refA (G.2.1 (F a 10))) (refT (G.2.1 (F a 10))) (refC (G.2.1 (F a 10))) ([(p0.toInt, p1.toInt, 0, 0)], rfil (mw (G.2.1 (F a 1)) 0) p0.toInt p1.toInt (-2000) 3)) ∧ (-1 : Int) = clT f0 f1 360) ∨ (p2.toInt = 2 ∧ AnsM ((G.1 a 6).toInt) (-1 : Int) (G.2.1 (F a 10)) (mw (G.2.1 (F a 1)) 0) (cfin (refA (G.2.1 (F a 10))) (refT (G.2.1 (F a 10))) (refC (G.2.1 (F a 10))) ([(p0.toInt, p1.toInt, 0, 0)], rfil (mw (G.2.1 (F a 1)) 0) p0.toInt p1.toInt (-2000) 3))))) := by
  exact Or.inl ⟨by omega, rfl⟩
theorem v_X11_wouldCut_29_5 {F : Nat → Nat → Nat} (a : Nat) (G2 : XG) (G : XG)
    (hR : RV (G.2.1 (F a 10)))
    (c_G2_F_a_10 : G2.2.1 (F a 10) = G.2.1 (F a 10)) :
    RV (G2.2.1 (F a 10)) := by simp only [c_G2_F_a_10]; assumption
theorem v_X11_wouldCut_29_6 {F : Nat → Nat → Nat} (a : Nat) (G2 : XG) (G : XG)
    (hM : RM (G.2.1 (F a 1)) (0))
    (c_G2_F_a_1 : G2.2.1 (F a 1) = G.2.1 (F a 1)) :
    RM (G2.2.1 (F a 1)) (0) := by simp only [c_G2_F_a_1]; assumption
theorem v_X11_wouldCut_35_7 {F : Nat → Nat → Nat} (a : Nat) (G : XG) (G29 : XG)
    (hR : RV (G.2.1 (F a 10)))
    (c_G29_F_a_10 : G29.2.1 (F a 10) = G.2.1 (F a 10)) :
    RV (G29.2.1 (F a 10)) := by simp only [c_G29_F_a_10]; assumption
theorem v_X11_wouldCut_35_8 {F : Nat → Nat → Nat} (a : Nat) (G : XG) (G29 : XG)
    (hM : RM (G.2.1 (F a 1)) (0))
    (oq29a : RM (G29.2.1 (F a 4)) 0)
    (c_G29_F_a_1 : G29.2.1 (F a 1) = G.2.1 (F a 1)) :
    RM (G29.2.1 (F a 1)) (0) := by simp only [c_G29_F_a_1]; assumption
theorem v_X11_wouldCut_141_9 {F : Nat → Nat → Nat} (a : Nat) (G : XG) (G35 : XG)
    (hR : RV (G.2.1 (F a 10)))
    (c_G35_F_a_10 : G35.2.1 (F a 10) = G.2.1 (F a 10)) :
    RV (G35.2.1 (F a 10)) := by simp only [c_G35_F_a_10]; assumption
theorem v_X11_wouldCut_141_10 {F : Nat → Nat → Nat} (G35 : XG) (a : Nat)
    (oq35a : RM (G35.2.1 (F a 1)) 0) :
    RM (G35.2.1 (F a 1)) (0) := by
  exact oq35a
theorem v_X11_wouldCut_141_11 {F : Nat → Nat → Nat} (G29 : XG) (a : Nat) (G35 : XG)
    (oq29a : RM (G29.2.1 (F a 4)) 0)
    (c_G35_F_a_4 : G35.2.1 (F a 4) = G29.2.1 (F a 4)) :
    RM (G35.2.1 (F a 4)) 0 := by simp only [c_G35_F_a_4]; assumption
theorem v_X11_wouldCut_141_12 {F : Nat → Nat → Nat} (G : XG) (a : Nat) (G29 : XG) (G35 : XG)
    (oq29b : LSt (G.2.1 (F a 10)) (G29.2.1 (F a 12)) (mw (G.2.1 (F a 1)) 0) 12)
    (c_G35_F_a_10 : G35.2.1 (F a 10) = G.2.1 (F a 10))
    (c_G35_F_a_12 : G35.2.1 (F a 12) = G29.2.1 (F a 12)) :
    LSt (G35.2.1 (F a 10)) (G35.2.1 (F a 12)) (mw (G.2.1 (F a 1)) 0) 12 := by
  rw [c_G35_F_a_10, c_G35_F_a_12]; exact oq29b
theorem v_X11_wouldCut_167_13 {F : Nat → Nat → Nat} (G29 : XG) (a : Nat) (G : XG) (G141 : XG)
    (oq29 : mw (G29.2.1 (F a 4)) 0 = mw (G.2.1 (F a 1)) 0)
    (oq141a : mw (G141.2.1 (F a 1)) 0 = mw (G29.2.1 (F a 4)) 0) :
    mw (G141.2.1 (F a 1)) 0 = mw (G.2.1 (F a 1)) 0 := by
  exact oq141a.trans oq29
theorem v_X11_wouldCut_167_14 {F : Nat → Nat → Nat} (G141 : XG) (a : Nat)
    (oq141b : RM (G141.2.1 (F a 1)) 0) :
    RM (G141.2.1 (F a 1)) 0 := by
  exact oq141b
theorem v_X11_wouldCut_167_15 {K : Nat → Nat} {F : Nat → Nat → Nat} (a : Nat) (G : XG) (G29 : XG) (G35 : XG) (p0 : Int32) (p1 : Int32) (x141 : Int32) (x8 : Int32) (x20 : Int32) (p2 : Int32) (l6_47 : Int32) (l4_47 : Int32) (l5_47 : Int32) (N47 : Nat)
    (ha : K a = 13)
    (oq29 : mw (G29.2.1 (F a 4)) 0 = mw (G.2.1 (F a 1)) 0)
    (oq29a : RM (G29.2.1 (F a 4)) 0)
    (oq35 : mw (G35.2.1 (F a 1)) 0 = cfin (refA (G.2.1 (F a 10))) (refT (G.2.1 (F a 10))) (refC (G.2.1 (F a 10))) ([(p0.toInt, p1.toInt, 0, 0)], rfil (mw (G.2.1 (F a 1)) 0) p0.toInt p1.toInt (-2000) 3))
    (oq35a : RM (G35.2.1 (F a 1)) 0)
    (oq141 : AnsM ((G.1 a 6).toInt) x141.toInt (G.2.1 (F a 10)) (mw (G.2.1 (F a 1)) 0) (mw (G35.2.1 (F a 1)) 0))
    (z5 : ¬ (0 ≤ p0.toInt ∧ p0.toInt < 3 ∧ 0 ≤ p1.toInt ∧ p1.toInt < 30) → (cel (mw (G.2.1 (F a 1)) 0) (p0.toInt) (p1.toInt) 0) = -2000)
    (t8 : (x8.toInt = 1 ∧ (cel (mw (G.2.1 (F a 1)) 0) (p0.toInt) (p1.toInt) 0) ≠ -2000) ∨ (x8.toInt = 0 ∧ (cel (mw (G.2.1 (F a 1)) 0) (p0.toInt) (p1.toInt) 0) = -2000))
    (c11 : ¬ (x8.toInt = 0))
    (t20 : (x20.toInt = 1 ∧ (0 : Int) ≤ p2.toInt ∧ p2.toInt ≤ (2 : Int)) ∨ (x20.toInt = 0 ∧ (p2.toInt < (0 : Int) ∨ (2 : Int) < p2.toInt)))
    (c23 : x20.toInt ≠ 0)
    (z44 : (rmT (G29.2.1 (F a 4)) 0) = 0)
    (z44a : (rmT (G35.2.1 (F a 1)) 0) = 0)
    (z44b : (clT (G29.2.1 (F a 4)) (G35.2.1 (F a 1)) 0) = 0)
    (I47_0 : 0 ≤ l6_47.toInt ∧ l6_47.toInt ≤ 360 ∧ l6_47.toInt % 4 = 0)
    (I47_1 : l4_47.toInt = (rmT (G29.2.1 (F a 4)) (l6_47.toInt)) - (rmT (G35.2.1 (F a 1)) (l6_47.toInt)))
    (I47_2 : -l6_47.toInt ≤ 4 * l4_47.toInt ∧ 4 * l4_47.toInt ≤ l6_47.toInt)
    (I47_3 : l5_47.toInt = (clT (G29.2.1 (F a 4)) (G35.2.1 (F a 1)) (l6_47.toInt)))
    (I47_4 : 0 ≤ l5_47.toInt ∧ 4 * l5_47.toInt ≤ 3 * l6_47.toInt)
    (hm47 : 1000 - l6_47.toInt < (((N47) + 1 : Nat) : Int))
    (c52 : (360 : Int) ≤ l6_47.toInt)
    (z140 : l6_47.toInt = 360 → (rmT (G29.2.1 (F a 4)) (l6_47.toInt)) = (rmT (G29.2.1 (F a 4)) 360))
    (z140a : l6_47.toInt = 360 → (rmT (G35.2.1 (F a 1)) (l6_47.toInt)) = (rmT (G35.2.1 (F a 1)) 360))
    (z140b : l6_47.toInt = 360 → (clT (G29.2.1 (F a 4)) (G35.2.1 (F a 1)) (l6_47.toInt)) = (clT (G29.2.1 (F a 4)) (G35.2.1 (F a 1)) 360))
    (c147 : p2.toInt ≠ 0)
    (c157 : p2.toInt ≠ (1 : Int)) :
    (¬ (cel (mw (G.2.1 (F a 1)) 0) p0.toInt p1.toInt 0 ≠ -2000 ∧ 0 ≤ p2.toInt ∧ p2.toInt ≤ 2) ∧ x141.toInt = -1) ∨ ((cel (mw (G.2.1 (F a 1)) 0) p0.toInt p1.toInt 0 ≠ -2000 ∧ 0 ≤ p2.toInt ∧ p2.toInt ≤ 2) ∧ ((p2.toInt = 0 ∧ ∃ f0 f1 : Nat → Int32, (RM f0 0 ∧ mw f0 0 = (mw (G.2.1 (F a 1)) 0)) ∧ (RM f1 0 ∧ mw f1 0 = cfin (refA (G.2.1 (F a 10))) (refT (G.2.1 (F a 10))) (refC (G.2.1 (F a 10))) ([(p0.toInt, p1.toInt, 0, 0)], rfil (mw (G.2.1 (F a 1)) 0) p0.toInt p1.toInt (-2000) 3)) ∧ x141.toInt = rmT f0 360 - rmT f1 360) ∨ (p2.toInt = 1 ∧ ∃ f0 f1 : Nat → Int32, (RM f0 0 ∧ mw f0 0 = (mw (G.2.1 (F a 1)) 0)) ∧ (RM f1 0 ∧ mw f1 0 = cfin (refA (G.2.1 (F a 10))) (refT (G.2.1 (F a 10))) (refC (G.2.1 (F a 10))) ([(p0.toInt, p1.toInt, 0, 0)], rfil (mw (G.2.1 (F a 1)) 0) p0.toInt p1.toInt (-2000) 3)) ∧ x141.toInt = clT f0 f1 360) ∨ (p2.toInt = 2 ∧ AnsM ((G.1 a 6).toInt) x141.toInt (G.2.1 (F a 10)) (mw (G.2.1 (F a 1)) 0) (cfin (refA (G.2.1 (F a 10))) (refT (G.2.1 (F a 10))) (refC (G.2.1 (F a 10))) ([(p0.toInt, p1.toInt, 0, 0)], rfil (mw (G.2.1 (F a 1)) 0) p0.toInt p1.toInt (-2000) 3))))) := by
  first
    | (exfalso; omega)
    | exact Or.inr ⟨by omega, Or.inl ⟨by omega, _, _, ⟨oq29a, oq29⟩, ⟨oq35a, oq35⟩, by omega⟩⟩
    | exact Or.inr ⟨by omega, Or.inr (Or.inl ⟨by omega, _, _, ⟨oq29a, oq29⟩, ⟨oq35a, oq35⟩, by omega⟩)⟩
    | (rw [oq35] at oq141
       exact Or.inr ⟨by omega, Or.inr (Or.inr ⟨by omega, oq141⟩)⟩)
theorem v_X11_wouldCut_167_16 {F : Nat → Nat → Nat} (G29 : XG) (a : Nat) (G : XG) (G141 : XG)
    (oq29 : mw (G29.2.1 (F a 4)) 0 = mw (G.2.1 (F a 1)) 0)
    (oq141a : mw (G141.2.1 (F a 1)) 0 = mw (G29.2.1 (F a 4)) 0) :
    mw (G141.2.1 (F a 1)) 0 = mw (G.2.1 (F a 1)) 0 := by
  exact oq141a.trans oq29
theorem v_X11_wouldCut_167_17 {F : Nat → Nat → Nat} (G141 : XG) (a : Nat)
    (oq141b : RM (G141.2.1 (F a 1)) 0) :
    RM (G141.2.1 (F a 1)) 0 := by
  exact oq141b
theorem v_X11_wouldCut_167_18 {K : Nat → Nat} {F : Nat → Nat → Nat} (a : Nat) (G : XG) (G29 : XG) (G35 : XG) (p0 : Int32) (p1 : Int32) (x141 : Int32) (x8 : Int32) (x20 : Int32) (p2 : Int32) (l6_47 : Int32) (l4_47 : Int32) (l5_47 : Int32) (N47 : Nat)
    (ha : K a = 13)
    (oq29 : mw (G29.2.1 (F a 4)) 0 = mw (G.2.1 (F a 1)) 0)
    (oq29a : RM (G29.2.1 (F a 4)) 0)
    (oq35 : mw (G35.2.1 (F a 1)) 0 = cfin (refA (G.2.1 (F a 10))) (refT (G.2.1 (F a 10))) (refC (G.2.1 (F a 10))) ([(p0.toInt, p1.toInt, 0, 0)], rfil (mw (G.2.1 (F a 1)) 0) p0.toInt p1.toInt (-2000) 3))
    (oq35a : RM (G35.2.1 (F a 1)) 0)
    (oq141 : AnsM ((G.1 a 6).toInt) x141.toInt (G.2.1 (F a 10)) (mw (G.2.1 (F a 1)) 0) (mw (G35.2.1 (F a 1)) 0))
    (z5 : ¬ (0 ≤ p0.toInt ∧ p0.toInt < 3 ∧ 0 ≤ p1.toInt ∧ p1.toInt < 30) → (cel (mw (G.2.1 (F a 1)) 0) (p0.toInt) (p1.toInt) 0) = -2000)
    (t8 : (x8.toInt = 1 ∧ (cel (mw (G.2.1 (F a 1)) 0) (p0.toInt) (p1.toInt) 0) ≠ -2000) ∨ (x8.toInt = 0 ∧ (cel (mw (G.2.1 (F a 1)) 0) (p0.toInt) (p1.toInt) 0) = -2000))
    (c11 : ¬ (x8.toInt = 0))
    (t20 : (x20.toInt = 1 ∧ (0 : Int) ≤ p2.toInt ∧ p2.toInt ≤ (2 : Int)) ∨ (x20.toInt = 0 ∧ (p2.toInt < (0 : Int) ∨ (2 : Int) < p2.toInt)))
    (c23 : x20.toInt ≠ 0)
    (z44 : (rmT (G29.2.1 (F a 4)) 0) = 0)
    (z44a : (rmT (G35.2.1 (F a 1)) 0) = 0)
    (z44b : (clT (G29.2.1 (F a 4)) (G35.2.1 (F a 1)) 0) = 0)
    (I47_0 : 0 ≤ l6_47.toInt ∧ l6_47.toInt ≤ 360 ∧ l6_47.toInt % 4 = 0)
    (I47_1 : l4_47.toInt = (rmT (G29.2.1 (F a 4)) (l6_47.toInt)) - (rmT (G35.2.1 (F a 1)) (l6_47.toInt)))
    (I47_2 : -l6_47.toInt ≤ 4 * l4_47.toInt ∧ 4 * l4_47.toInt ≤ l6_47.toInt)
    (I47_3 : l5_47.toInt = (clT (G29.2.1 (F a 4)) (G35.2.1 (F a 1)) (l6_47.toInt)))
    (I47_4 : 0 ≤ l5_47.toInt ∧ 4 * l5_47.toInt ≤ 3 * l6_47.toInt)
    (hm47 : 1000 - l6_47.toInt < (((N47) + 1 : Nat) : Int))
    (c52 : (360 : Int) ≤ l6_47.toInt)
    (z140 : l6_47.toInt = 360 → (rmT (G29.2.1 (F a 4)) (l6_47.toInt)) = (rmT (G29.2.1 (F a 4)) 360))
    (z140a : l6_47.toInt = 360 → (rmT (G35.2.1 (F a 1)) (l6_47.toInt)) = (rmT (G35.2.1 (F a 1)) 360))
    (z140b : l6_47.toInt = 360 → (clT (G29.2.1 (F a 4)) (G35.2.1 (F a 1)) (l6_47.toInt)) = (clT (G29.2.1 (F a 4)) (G35.2.1 (F a 1)) 360))
    (c147 : p2.toInt ≠ 0)
    (c157 : ¬ (p2.toInt ≠ (1 : Int))) :
    (¬ (cel (mw (G.2.1 (F a 1)) 0) p0.toInt p1.toInt 0 ≠ -2000 ∧ 0 ≤ p2.toInt ∧ p2.toInt ≤ 2) ∧ l5_47.toInt = -1) ∨ ((cel (mw (G.2.1 (F a 1)) 0) p0.toInt p1.toInt 0 ≠ -2000 ∧ 0 ≤ p2.toInt ∧ p2.toInt ≤ 2) ∧ ((p2.toInt = 0 ∧ ∃ f0 f1 : Nat → Int32, (RM f0 0 ∧ mw f0 0 = (mw (G.2.1 (F a 1)) 0)) ∧ (RM f1 0 ∧ mw f1 0 = cfin (refA (G.2.1 (F a 10))) (refT (G.2.1 (F a 10))) (refC (G.2.1 (F a 10))) ([(p0.toInt, p1.toInt, 0, 0)], rfil (mw (G.2.1 (F a 1)) 0) p0.toInt p1.toInt (-2000) 3)) ∧ l5_47.toInt = rmT f0 360 - rmT f1 360) ∨ (p2.toInt = 1 ∧ ∃ f0 f1 : Nat → Int32, (RM f0 0 ∧ mw f0 0 = (mw (G.2.1 (F a 1)) 0)) ∧ (RM f1 0 ∧ mw f1 0 = cfin (refA (G.2.1 (F a 10))) (refT (G.2.1 (F a 10))) (refC (G.2.1 (F a 10))) ([(p0.toInt, p1.toInt, 0, 0)], rfil (mw (G.2.1 (F a 1)) 0) p0.toInt p1.toInt (-2000) 3)) ∧ l5_47.toInt = clT f0 f1 360) ∨ (p2.toInt = 2 ∧ AnsM ((G.1 a 6).toInt) l5_47.toInt (G.2.1 (F a 10)) (mw (G.2.1 (F a 1)) 0) (cfin (refA (G.2.1 (F a 10))) (refT (G.2.1 (F a 10))) (refC (G.2.1 (F a 10))) ([(p0.toInt, p1.toInt, 0, 0)], rfil (mw (G.2.1 (F a 1)) 0) p0.toInt p1.toInt (-2000) 3))))) := by
  first
    | (exfalso; omega)
    | exact Or.inr ⟨by omega, Or.inl ⟨by omega, _, _, ⟨oq29a, oq29⟩, ⟨oq35a, oq35⟩, by omega⟩⟩
    | exact Or.inr ⟨by omega, Or.inr (Or.inl ⟨by omega, _, _, ⟨oq29a, oq29⟩, ⟨oq35a, oq35⟩, by omega⟩)⟩
    | (rw [oq35] at oq141
       exact Or.inr ⟨by omega, Or.inr (Or.inr ⟨by omega, oq141⟩)⟩)
theorem v_X11_wouldCut_167_19 {F : Nat → Nat → Nat} (G29 : XG) (a : Nat) (G : XG) (G141 : XG)
    (oq29 : mw (G29.2.1 (F a 4)) 0 = mw (G.2.1 (F a 1)) 0)
    (oq141a : mw (G141.2.1 (F a 1)) 0 = mw (G29.2.1 (F a 4)) 0) :
    mw (G141.2.1 (F a 1)) 0 = mw (G.2.1 (F a 1)) 0 := by
  exact oq141a.trans oq29
theorem v_X11_wouldCut_167_20 {F : Nat → Nat → Nat} (G141 : XG) (a : Nat)
    (oq141b : RM (G141.2.1 (F a 1)) 0) :
    RM (G141.2.1 (F a 1)) 0 := by
  exact oq141b
theorem v_X11_wouldCut_167_21 {K : Nat → Nat} {F : Nat → Nat → Nat} (a : Nat) (G : XG) (G29 : XG) (G35 : XG) (p0 : Int32) (p1 : Int32) (x141 : Int32) (x8 : Int32) (x20 : Int32) (p2 : Int32) (l6_47 : Int32) (l4_47 : Int32) (l5_47 : Int32) (N47 : Nat)
    (ha : K a = 13)
    (oq29 : mw (G29.2.1 (F a 4)) 0 = mw (G.2.1 (F a 1)) 0)
    (oq29a : RM (G29.2.1 (F a 4)) 0)
    (oq35 : mw (G35.2.1 (F a 1)) 0 = cfin (refA (G.2.1 (F a 10))) (refT (G.2.1 (F a 10))) (refC (G.2.1 (F a 10))) ([(p0.toInt, p1.toInt, 0, 0)], rfil (mw (G.2.1 (F a 1)) 0) p0.toInt p1.toInt (-2000) 3))
    (oq35a : RM (G35.2.1 (F a 1)) 0)
    (oq141 : AnsM ((G.1 a 6).toInt) x141.toInt (G.2.1 (F a 10)) (mw (G.2.1 (F a 1)) 0) (mw (G35.2.1 (F a 1)) 0))
    (z5 : ¬ (0 ≤ p0.toInt ∧ p0.toInt < 3 ∧ 0 ≤ p1.toInt ∧ p1.toInt < 30) → (cel (mw (G.2.1 (F a 1)) 0) (p0.toInt) (p1.toInt) 0) = -2000)
    (t8 : (x8.toInt = 1 ∧ (cel (mw (G.2.1 (F a 1)) 0) (p0.toInt) (p1.toInt) 0) ≠ -2000) ∨ (x8.toInt = 0 ∧ (cel (mw (G.2.1 (F a 1)) 0) (p0.toInt) (p1.toInt) 0) = -2000))
    (c11 : ¬ (x8.toInt = 0))
    (t20 : (x20.toInt = 1 ∧ (0 : Int) ≤ p2.toInt ∧ p2.toInt ≤ (2 : Int)) ∨ (x20.toInt = 0 ∧ (p2.toInt < (0 : Int) ∨ (2 : Int) < p2.toInt)))
    (c23 : x20.toInt ≠ 0)
    (z44 : (rmT (G29.2.1 (F a 4)) 0) = 0)
    (z44a : (rmT (G35.2.1 (F a 1)) 0) = 0)
    (z44b : (clT (G29.2.1 (F a 4)) (G35.2.1 (F a 1)) 0) = 0)
    (I47_0 : 0 ≤ l6_47.toInt ∧ l6_47.toInt ≤ 360 ∧ l6_47.toInt % 4 = 0)
    (I47_1 : l4_47.toInt = (rmT (G29.2.1 (F a 4)) (l6_47.toInt)) - (rmT (G35.2.1 (F a 1)) (l6_47.toInt)))
    (I47_2 : -l6_47.toInt ≤ 4 * l4_47.toInt ∧ 4 * l4_47.toInt ≤ l6_47.toInt)
    (I47_3 : l5_47.toInt = (clT (G29.2.1 (F a 4)) (G35.2.1 (F a 1)) (l6_47.toInt)))
    (I47_4 : 0 ≤ l5_47.toInt ∧ 4 * l5_47.toInt ≤ 3 * l6_47.toInt)
    (hm47 : 1000 - l6_47.toInt < (((N47) + 1 : Nat) : Int))
    (c52 : (360 : Int) ≤ l6_47.toInt)
    (z140 : l6_47.toInt = 360 → (rmT (G29.2.1 (F a 4)) (l6_47.toInt)) = (rmT (G29.2.1 (F a 4)) 360))
    (z140a : l6_47.toInt = 360 → (rmT (G35.2.1 (F a 1)) (l6_47.toInt)) = (rmT (G35.2.1 (F a 1)) 360))
    (z140b : l6_47.toInt = 360 → (clT (G29.2.1 (F a 4)) (G35.2.1 (F a 1)) (l6_47.toInt)) = (clT (G29.2.1 (F a 4)) (G35.2.1 (F a 1)) 360))
    (c147 : ¬ (p2.toInt ≠ 0)) :
    (¬ (cel (mw (G.2.1 (F a 1)) 0) p0.toInt p1.toInt 0 ≠ -2000 ∧ 0 ≤ p2.toInt ∧ p2.toInt ≤ 2) ∧ l4_47.toInt = -1) ∨ ((cel (mw (G.2.1 (F a 1)) 0) p0.toInt p1.toInt 0 ≠ -2000 ∧ 0 ≤ p2.toInt ∧ p2.toInt ≤ 2) ∧ ((p2.toInt = 0 ∧ ∃ f0 f1 : Nat → Int32, (RM f0 0 ∧ mw f0 0 = (mw (G.2.1 (F a 1)) 0)) ∧ (RM f1 0 ∧ mw f1 0 = cfin (refA (G.2.1 (F a 10))) (refT (G.2.1 (F a 10))) (refC (G.2.1 (F a 10))) ([(p0.toInt, p1.toInt, 0, 0)], rfil (mw (G.2.1 (F a 1)) 0) p0.toInt p1.toInt (-2000) 3)) ∧ l4_47.toInt = rmT f0 360 - rmT f1 360) ∨ (p2.toInt = 1 ∧ ∃ f0 f1 : Nat → Int32, (RM f0 0 ∧ mw f0 0 = (mw (G.2.1 (F a 1)) 0)) ∧ (RM f1 0 ∧ mw f1 0 = cfin (refA (G.2.1 (F a 10))) (refT (G.2.1 (F a 10))) (refC (G.2.1 (F a 10))) ([(p0.toInt, p1.toInt, 0, 0)], rfil (mw (G.2.1 (F a 1)) 0) p0.toInt p1.toInt (-2000) 3)) ∧ l4_47.toInt = clT f0 f1 360) ∨ (p2.toInt = 2 ∧ AnsM ((G.1 a 6).toInt) l4_47.toInt (G.2.1 (F a 10)) (mw (G.2.1 (F a 1)) 0) (cfin (refA (G.2.1 (F a 10))) (refT (G.2.1 (F a 10))) (refC (G.2.1 (F a 10))) ([(p0.toInt, p1.toInt, 0, 0)], rfil (mw (G.2.1 (F a 1)) 0) p0.toInt p1.toInt (-2000) 3))))) := by
  first
    | (exfalso; omega)
    | exact Or.inr ⟨by omega, Or.inl ⟨by omega, _, _, ⟨oq29a, oq29⟩, ⟨oq35a, oq35⟩, by omega⟩⟩
    | exact Or.inr ⟨by omega, Or.inr (Or.inl ⟨by omega, _, _, ⟨oq29a, oq29⟩, ⟨oq35a, oq35⟩, by omega⟩)⟩
    | (rw [oq35] at oq141
       exact Or.inr ⟨by omega, Or.inr (Or.inr ⟨by omega, oq141⟩)⟩)
theorem v_X11_wouldCut_27_22 {F : Nat → Nat → Nat} (G2 : XG) (a : Nat) (G : XG)
    (c_G2_F_a_1 : G2.2.1 (F a 1) = G.2.1 (F a 1)) :
    mw (G2.2.1 (F a 1)) 0 = mw (G.2.1 (F a 1)) 0 := by
  rw [c_G2_F_a_1]
theorem v_X11_wouldCut_27_23 {F : Nat → Nat → Nat} (G : XG) (a : Nat) (G2 : XG)
    (hM : RM (G.2.1 (F a 1)) (0))
    (c_G2_F_a_1 : G2.2.1 (F a 1) = G.2.1 (F a 1)) :
    RM (G2.2.1 (F a 1)) 0 := by
  rw [c_G2_F_a_1]; exact hM
theorem v_X11_wouldCut_27_24 {K : Nat → Nat} {F : Nat → Nat → Nat} (a : Nat) (G : XG) (p0 : Int32) (p1 : Int32) (x8 : Int32) (x20 : Int32) (p2 : Int32)
    (ha : K a = 13)
    (z5 : ¬ (0 ≤ p0.toInt ∧ p0.toInt < 3 ∧ 0 ≤ p1.toInt ∧ p1.toInt < 30) → (cel (mw (G.2.1 (F a 1)) 0) (p0.toInt) (p1.toInt) 0) = -2000)
    (t8 : (x8.toInt = 1 ∧ (cel (mw (G.2.1 (F a 1)) 0) (p0.toInt) (p1.toInt) 0) ≠ -2000) ∨ (x8.toInt = 0 ∧ (cel (mw (G.2.1 (F a 1)) 0) (p0.toInt) (p1.toInt) 0) = -2000))
    (c11 : ¬ (x8.toInt = 0))
    (t20 : (x20.toInt = 1 ∧ (0 : Int) ≤ p2.toInt ∧ p2.toInt ≤ (2 : Int)) ∨ (x20.toInt = 0 ∧ (p2.toInt < (0 : Int) ∨ (2 : Int) < p2.toInt)))
    (c23 : ¬ (x20.toInt ≠ 0)) :
    (¬ (cel (mw (G.2.1 (F a 1)) 0) p0.toInt p1.toInt 0 ≠ -2000 ∧ 0 ≤ p2.toInt ∧ p2.toInt ≤ 2) ∧ (-1 : Int) = -1) ∨ ((cel (mw (G.2.1 (F a 1)) 0) p0.toInt p1.toInt 0 ≠ -2000 ∧ 0 ≤ p2.toInt ∧ p2.toInt ≤ 2) ∧ ((p2.toInt = 0 ∧ ∃ f0 f1 : Nat → Int32, (RM f0 0 ∧ mw f0 0 = (mw (G.2.1 (F a 1)) 0)) ∧ (RM f1 0 ∧ mw f1 0 = cfin (refA (G.2.1 (F a 10))) (refT (G.2.1 (F a 10))) (refC (G.2.1 (F a 10))) ([(p0.toInt, p1.toInt, 0, 0)], rfil (mw (G.2.1 (F a 1)) 0) p0.toInt p1.toInt (-2000) 3)) ∧ (-1 : Int) = rmT f0 360 - rmT f1 360) ∨ (p2.toInt = 1 ∧ ∃ f0 f1 : Nat → Int32, (RM f0 0 ∧ mw f0 0 = (mw (G.2.1 (F a 1)) 0)) ∧ (RM f1 0 ∧ mw f1 0 = cfin (refA (G.2.1 (F a 10))) (refT (G.2.1 (F a 10))) (refC (G.2.1 (F a 10))) ([(p0.toInt, p1.toInt, 0, 0)], rfil (mw (G.2.1 (F a 1)) 0) p0.toInt p1.toInt (-2000) 3)) ∧ (-1 : Int) = clT f0 f1 360) ∨ (p2.toInt = 2 ∧ AnsM ((G.1 a 6).toInt) (-1 : Int) (G.2.1 (F a 10)) (mw (G.2.1 (F a 1)) 0) (cfin (refA (G.2.1 (F a 10))) (refT (G.2.1 (F a 10))) (refC (G.2.1 (F a 10))) ([(p0.toInt, p1.toInt, 0, 0)], rfil (mw (G.2.1 (F a 1)) 0) p0.toInt p1.toInt (-2000) 3))))) := by
  exact Or.inl ⟨by omega, rfl⟩
