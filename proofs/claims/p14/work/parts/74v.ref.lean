theorem v_X11_wouldCut_8_1 {F : Nat → Nat → Nat} (a : Nat) (G2 : XG) (G : XG)
    (hM : RM (G.2.1 (F a 1)) (0))
    (c_G2_F_a_1 : G2.2.1 (F a 1) = G.2.1 (F a 1)) :
    RM (G2.2.1 (F a 1)) 0 := by simp only [c_G2_F_a_1]; assumption
theorem v_X11_wouldCut_27_2 {F : Nat → Nat → Nat} (G2 : XG) (a : Nat) (G : XG)
    (c_G2_F_a_1 : G2.2.1 (F a 1) = G.2.1 (F a 1)) :
    mw (G2.2.1 (F a 1)) 0 = mw (G.2.1 (F a 1)) 0 := by
  rw [c_G2_F_a_1]
theorem v_X11_wouldCut_27_3 {F : Nat → Nat → Nat} (G : XG) (a : Nat) (G2 : XG)
    (hM : RM (G.2.1 (F a 1)) (0))
    (c_G2_F_a_1 : G2.2.1 (F a 1) = G.2.1 (F a 1)) :
    RM (G2.2.1 (F a 1)) 0 := by
  rw [c_G2_F_a_1]; exact hM
theorem v_X11_wouldCut_29_4 {F : Nat → Nat → Nat} (a : Nat) (G2 : XG) (G : XG)
    (hR : RV (G.2.1 (F a 10)))
    (c_G2_F_a_10 : G2.2.1 (F a 10) = G.2.1 (F a 10)) :
    RV (G2.2.1 (F a 10)) := by simp only [c_G2_F_a_10]; assumption
theorem v_X11_wouldCut_29_5 {F : Nat → Nat → Nat} (a : Nat) (G2 : XG) (G : XG)
    (hM : RM (G.2.1 (F a 1)) (0))
    (c_G2_F_a_1 : G2.2.1 (F a 1) = G.2.1 (F a 1)) :
    RM (G2.2.1 (F a 1)) (0) := by simp only [c_G2_F_a_1]; assumption
theorem v_X11_wouldCut_35_6 {F : Nat → Nat → Nat} (a : Nat) (G : XG) (G29 : XG)
    (hR : RV (G.2.1 (F a 10)))
    (c_G29_F_a_10 : G29.2.1 (F a 10) = G.2.1 (F a 10)) :
    RV (G29.2.1 (F a 10)) := by simp only [c_G29_F_a_10]; assumption
theorem v_X11_wouldCut_35_7 {F : Nat → Nat → Nat} (a : Nat) (G : XG) (G29 : XG)
    (hM : RM (G.2.1 (F a 1)) (0))
    (oq29a : RM (G29.2.1 (F a 4)) 0)
    (c_G29_F_a_1 : G29.2.1 (F a 1) = G.2.1 (F a 1)) :
    RM (G29.2.1 (F a 1)) (0) := by simp only [c_G29_F_a_1]; assumption
theorem v_X11_wouldCut_141_8 {F : Nat → Nat → Nat} (a : Nat) (G : XG) (G35 : XG)
    (hR : RV (G.2.1 (F a 10)))
    (c_G35_F_a_10 : G35.2.1 (F a 10) = G.2.1 (F a 10)) :
    RV (G35.2.1 (F a 10)) := by simp only [c_G35_F_a_10]; assumption
theorem v_X11_wouldCut_141_9 {F : Nat → Nat → Nat} (G35 : XG) (a : Nat)
    (oq35a : RM (G35.2.1 (F a 1)) 0) :
    RM (G35.2.1 (F a 1)) (0) := by
  exact oq35a
theorem v_X11_wouldCut_141_10 {F : Nat → Nat → Nat} (G29 : XG) (a : Nat) (G35 : XG)
    (oq29a : RM (G29.2.1 (F a 4)) 0)
    (c_G35_F_a_4 : G35.2.1 (F a 4) = G29.2.1 (F a 4)) :
    RM (G35.2.1 (F a 4)) 0 := by simp only [c_G35_F_a_4]; assumption
theorem v_X11_wouldCut_141_11 {F : Nat → Nat → Nat} (G : XG) (a : Nat) (G29 : XG) (G35 : XG)
    (oq29b : LSt (G.2.1 (F a 10)) (G29.2.1 (F a 12)) (mw (G.2.1 (F a 1)) 0) 12)
    (c_G35_F_a_10 : G35.2.1 (F a 10) = G.2.1 (F a 10))
    (c_G35_F_a_12 : G35.2.1 (F a 12) = G29.2.1 (F a 12)) :
    LSt (G35.2.1 (F a 10)) (G35.2.1 (F a 12)) (mw (G.2.1 (F a 1)) 0) 12 := by
  rw [c_G35_F_a_10, c_G35_F_a_12]; exact oq29b
theorem v_X11_wouldCut_167_12 {F : Nat → Nat → Nat} (G29 : XG) (a : Nat) (G : XG) (G141 : XG)
    (oq29 : mw (G29.2.1 (F a 4)) 0 = mw (G.2.1 (F a 1)) 0)
    (oq141a : mw (G141.2.1 (F a 1)) 0 = mw (G29.2.1 (F a 4)) 0) :
    mw (G141.2.1 (F a 1)) 0 = mw (G.2.1 (F a 1)) 0 := by
  exact oq141a.trans oq29
theorem v_X11_wouldCut_167_13 {F : Nat → Nat → Nat} (G141 : XG) (a : Nat)
    (oq141b : RM (G141.2.1 (F a 1)) 0) :
    RM (G141.2.1 (F a 1)) 0 := by
  exact oq141b
theorem v_X11_wouldCut_167_14 {F : Nat → Nat → Nat} (G29 : XG) (a : Nat) (G : XG) (G141 : XG)
    (oq29 : mw (G29.2.1 (F a 4)) 0 = mw (G.2.1 (F a 1)) 0)
    (oq141a : mw (G141.2.1 (F a 1)) 0 = mw (G29.2.1 (F a 4)) 0) :
    mw (G141.2.1 (F a 1)) 0 = mw (G.2.1 (F a 1)) 0 := by
  exact oq141a.trans oq29
theorem v_X11_wouldCut_167_15 {F : Nat → Nat → Nat} (G141 : XG) (a : Nat)
    (oq141b : RM (G141.2.1 (F a 1)) 0) :
    RM (G141.2.1 (F a 1)) 0 := by
  exact oq141b
theorem v_X11_wouldCut_167_16 {F : Nat → Nat → Nat} (G29 : XG) (a : Nat) (G : XG) (G141 : XG)
    (oq29 : mw (G29.2.1 (F a 4)) 0 = mw (G.2.1 (F a 1)) 0)
    (oq141a : mw (G141.2.1 (F a 1)) 0 = mw (G29.2.1 (F a 4)) 0) :
    mw (G141.2.1 (F a 1)) 0 = mw (G.2.1 (F a 1)) 0 := by
  exact oq141a.trans oq29
theorem v_X11_wouldCut_167_17 {F : Nat → Nat → Nat} (G141 : XG) (a : Nat)
    (oq141b : RM (G141.2.1 (F a 1)) 0) :
    RM (G141.2.1 (F a 1)) 0 := by
  exact oq141b
theorem v_X11_wouldCut_27_18 {F : Nat → Nat → Nat} (G2 : XG) (a : Nat) (G : XG)
    (c_G2_F_a_1 : G2.2.1 (F a 1) = G.2.1 (F a 1)) :
    mw (G2.2.1 (F a 1)) 0 = mw (G.2.1 (F a 1)) 0 := by
  rw [c_G2_F_a_1]
theorem v_X11_wouldCut_27_19 {F : Nat → Nat → Nat} (G : XG) (a : Nat) (G2 : XG)
    (hM : RM (G.2.1 (F a 1)) (0))
    (c_G2_F_a_1 : G2.2.1 (F a 1) = G.2.1 (F a 1)) :
    RM (G2.2.1 (F a 1)) 0 := by
  rw [c_G2_F_a_1]; exact hM
