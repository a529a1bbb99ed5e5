theorem v_X11_settles_1_1 {F : Nat → Nat → Nat} (a : Nat) (G : XG)
    (hR : RV (G.2.1 (F a 10))) :
    RV (G.2.1 (F a 10)) := by exact hR
theorem v_X11_settles_1_2 {F : Nat → Nat → Nat} (a : Nat) (G : XG)
    (hM : RM (G.2.1 (F a 1)) (0)) :
    RM (G.2.1 (F a 1)) (0) := by exact hM
theorem v_X11_settles_1_3 {F : Nat → Nat → Nat} (a : Nat) (G : XG) (r1 : Int → Int)
    (h1 : LSt (G.2.1 (F a 10)) (G.2.1 (F a 12)) r1 12) :
    LSt (G.2.1 (F a 10)) (G.2.1 (F a 12)) r1 12 := by exact h1
theorem v_X11_settles_92_4 {F : Nat → Nat → Nat} (a : Nat) (G : XG) (G40 : XG)
    (hR : RV (G.2.1 (F a 10)))
    (c_G40_F_a_10 : G40.2.1 (F a 10) = G.2.1 (F a 10)) :
    RV (G40.2.1 (F a 10)) := by simp only [c_G40_F_a_10]; assumption
theorem v_X11_settles_92_5 {F : Nat → Nat → Nat} (a : Nat) (G : XG) (G40 : XG)
    (hM : RM (G.2.1 (F a 1)) (0))
    (hA : RM (G.2.1 (F a 4)) 0)
    (hB : RM (G.2.1 (F a 2)) 0)
    (c_G40_F_a_1 : G40.2.1 (F a 1) = G.2.1 (F a 1)) :
    RM (G40.2.1 (F a 1)) (0) := by simp only [c_G40_F_a_1]; assumption
theorem v_X11_settles_92_6 {F : Nat → Nat → Nat} (a : Nat) (G : XG) (G1 : XG) (G40 : XG) (r1 : Int → Int)
    (h1 : LSt (G.2.1 (F a 10)) (G.2.1 (F a 12)) r1 12)
    (oq1d : LSt (G.2.1 (F a 10)) (G1.2.1 (F a 11)) (mw (G.2.1 (F a 1)) 0) 12)
    (c_G40_F_a_10 : G40.2.1 (F a 10) = G.2.1 (F a 10))
    (c_G40_F_a_12 : G40.2.1 (F a 12) = G.2.1 (F a 12)) :
    LSt (G40.2.1 (F a 10)) (G40.2.1 (F a 12)) r1 12 := by simp only [c_G40_F_a_10, c_G40_F_a_12]; assumption
theorem v_X11_settles_92_7 {F : Nat → Nat → Nat} (a : Nat) (G : XG) (G1 : XG) (G40 : XG)
    (oq1d : LSt (G.2.1 (F a 10)) (G1.2.1 (F a 11)) (mw (G.2.1 (F a 1)) 0) 12)
    (c_G40_F_a_1 : G40.2.1 (F a 1) = G.2.1 (F a 1))
    (c_G40_F_a_10 : G40.2.1 (F a 10) = G.2.1 (F a 10))
    (c_G40_F_a_11 : G40.2.1 (F a 11) = G1.2.1 (F a 11)) :
    LSt (G40.2.1 (F a 10)) (G40.2.1 (F a 11)) (mw (G40.2.1 (F a 1)) 0) 12 := by
  rw [c_G40_F_a_10, c_G40_F_a_1, c_G40_F_a_11]; exact oq1d
theorem v_X11_settles_139_8 {K : Nat → Nat} {F : Nat → Nat → Nat} (a : Nat) (G : XG) (G1 : XG) (G92 : XG) (G95 : XG) (x92 : Int32) (G99 : XG) (G134 : XG) (r1 : Int → Int) (x1 : Int32)
    (ha : K a = 13)
    (oq1 : ((G1.1 a 45).toInt) = (((fuO (G.2.1 (F a 10)) r1 (mw (G.2.1 (F a 1)) 0) 2).length : Nat) : Int))
    (oq1b : x1.toInt = ffP (G.2.1 (F a 10)) (mw (G.2.1 (F a 1)) 0) (fuO (G.2.1 (F a 10)) r1 (mw (G.2.1 (F a 1)) 0) 0))
    (oq1c : ((G1.1 a 46).toInt) = x1.toInt)
    (oq1e : 0 ≤ ((G1.1 a 19).toInt) ∧ ((G1.1 a 19).toInt) ≤ 2388 ∧ -1 ≤ x1.toInt ∧ x1.toInt < ((G1.1 a 19).toInt))
    (oq92 : pL G92 F a = fuO (G.2.1 (F a 10)) r1 (mw (G.2.1 (F a 1)) 0) (1 : Int))
    (oq92a : x92.toInt = ffP (G.2.1 (F a 10)) (mw (G.2.1 (F a 1)) 0) (pL G92 F a))
    (oq92b : 0 ≤ ((G92.1 a 19).toInt) ∧ ((G92.1 a 19).toInt) ≤ 2388 ∧ x92.toInt < ((G92.1 a 19).toInt))
    (oq99 : ((G95.1 a 46).toInt) < ((G92.1 a 19).toInt) → aL G99 F a = (pL G95 F a).take ((G99.1 a 43).toInt).toNat)
    (wm : 0 ≤ ((G.1 a 23).toInt) ∧ ((G.1 a 23).toInt) ≤ 24)
    (am : 0 ≤ ((G.1 a 43).toInt) ∧ ((G.1 a 43).toInt) ≤ 2388)
    (c5 : x1.toInt = (-1 : Int))
    (f58 : ((G.1 a 6).toInt) = 0 ∨ ((G.1 a 6).toInt) = 1)
    (c45 : ((G.1 a 6).toInt) = 0)
    (t92 : -1 ≤ x92.toInt)
    (t99 : 0 ≤ ((G99.1 a 43).toInt) ∧ ((G99.1 a 43).toInt) ≤ 2388 ∧ ((G99.1 a 44).toInt) = x92.toInt ∧ ((x92.toInt = -1 ∧ ((G99.1 a 43).toInt) = ((G92.1 a 19).toInt)) ∨ (x92.toInt ≠ -1 ∧ ((G99.1 a 43).toInt) = x92.toInt + 1)))
    (c107 : x92.toInt = (-1 : Int))
    (c_G134_F_a_1 : G134.2.1 (F a 1) = G.2.1 (F a 1)) :
    ((ffP (G.2.1 (F a 10)) (mw (G.2.1 (F a 1)) 0) (fuO (G.2.1 (F a 10)) r1 (mw (G.2.1 (F a 1)) 0) 0) ≠ -1 ∨ (((G.1 a 6).toInt) = 0 ∧ ffP (G.2.1 (F a 10)) (mw (G.2.1 (F a 1)) 0) (fuO (G.2.1 (F a 10)) r1 (mw (G.2.1 (F a 1)) 0) 1) ≠ -1)) ∧ ((G1.1 a 45).toInt) = -5 ∧ mw (G134.2.1 (F a 1)) 0 = mw (G.2.1 (F a 4)) 0) ∨ (ffP (G.2.1 (F a 10)) (mw (G.2.1 (F a 1)) 0) (fuO (G.2.1 (F a 10)) r1 (mw (G.2.1 (F a 1)) 0) 0) = -1 ∧ (((G.1 a 6).toInt) = 0 → ffP (G.2.1 (F a 10)) (mw (G.2.1 (F a 1)) 0) (fuO (G.2.1 (F a 10)) r1 (mw (G.2.1 (F a 1)) 0) 1) = -1) ∧ ((G1.1 a 45).toInt) = (((fuO (G.2.1 (F a 10)) r1 (mw (G.2.1 (F a 1)) 0) 2).length : Nat) : Int) ∧ mw (G134.2.1 (F a 1)) 0 = mw (G.2.1 (F a 1)) 0) := by
  rw [oq92] at oq92a
  refine Or.inr ⟨by rw [← oq1b]; omega, fun h => by rw [← oq92a]; omega, ?_, ?_⟩
  · exact oq1
  · rw [c_G134_F_a_1]
theorem v_X11_settles_139_9 {F : Nat → Nat → Nat} (a : Nat) (G : XG) (G134 : XG)
    (hM : RM (G.2.1 (F a 1)) (0))
    (c_G134_F_a_1 : G134.2.1 (F a 1) = G.2.1 (F a 1)) :
    RM (G134.2.1 (F a 1)) 0 := by
  rw [c_G134_F_a_1]; exact hM
theorem v_X11_settles_121_10 {F : Nat → Nat → Nat} (a : Nat) (G : XG) (G92 : XG) (G119 : XG) (r1 : Int → Int)
    (oq92 : pL G92 F a = fuO (G.2.1 (F a 10)) r1 (mw (G.2.1 (F a 1)) 0) (1 : Int))
    (c_G119_F_a_10 : G119.2.1 (F a 10) = G.2.1 (F a 10))
    (c_G119_F_a_17 : G119.2.1 (F a 17) = G92.2.1 (F a 17))
    (c_G119_F_a_18 : G119.2.1 (F a 18) = G92.2.1 (F a 18))
    (d_G119_a_19 : G119.1 a 19 = G92.1 a 19) :
    PV (G119.2.1 (F a 10)) (pL G119 F a) := by
  rw [show pL G119 F a = pL G92 F a from pL_cg d_G119_a_19 c_G119_F_a_17 c_G119_F_a_18, oq92, c_G119_F_a_10]; exact fuO_pv _ _ _ _
theorem v_X11_settles_121_11 {F : Nat → Nat → Nat} (a : Nat) (G : XG) (G119 : XG)
    (hM : RM (G.2.1 (F a 1)) (0))
    (hA : RM (G.2.1 (F a 4)) 0)
    (hB : RM (G.2.1 (F a 2)) 0)
    (c_G119_F_a_4 : G119.2.1 (F a 4) = G.2.1 (F a 4)) :
    RM (G119.2.1 (F a 4)) 0 := by simp only [c_G119_F_a_4]; assumption
theorem v_X11_settles_124_12 {K : Nat → Nat} {F : Nat → Nat → Nat} (a : Nat) (G : XG) (G1 : XG) (G92 : XG) (G95 : XG) (x92 : Int32) (G99 : XG) (G121 : XG) (r1 : Int → Int) (x1 : Int32)
    (ha : K a = 13)
    (oq1 : ((G1.1 a 45).toInt) = (((fuO (G.2.1 (F a 10)) r1 (mw (G.2.1 (F a 1)) 0) 2).length : Nat) : Int))
    (oq1b : x1.toInt = ffP (G.2.1 (F a 10)) (mw (G.2.1 (F a 1)) 0) (fuO (G.2.1 (F a 10)) r1 (mw (G.2.1 (F a 1)) 0) 0))
    (oq1c : ((G1.1 a 46).toInt) = x1.toInt)
    (oq1e : 0 ≤ ((G1.1 a 19).toInt) ∧ ((G1.1 a 19).toInt) ≤ 2388 ∧ -1 ≤ x1.toInt ∧ x1.toInt < ((G1.1 a 19).toInt))
    (oq92 : pL G92 F a = fuO (G.2.1 (F a 10)) r1 (mw (G.2.1 (F a 1)) 0) (1 : Int))
    (oq92a : x92.toInt = ffP (G.2.1 (F a 10)) (mw (G.2.1 (F a 1)) 0) (pL G92 F a))
    (oq92b : 0 ≤ ((G92.1 a 19).toInt) ∧ ((G92.1 a 19).toInt) ≤ 2388 ∧ x92.toInt < ((G92.1 a 19).toInt))
    (oq99 : ((G95.1 a 46).toInt) < ((G92.1 a 19).toInt) → aL G99 F a = (pL G95 F a).take ((G99.1 a 43).toInt).toNat)
    (oq121 : mw (G121.2.1 (F a 1)) 0 = mw (G.2.1 (F a 4)) 0)
    (oq121b : 0 ≤ ((G121.1 a 23).toInt) ∧ ((G121.1 a 23).toInt) ≤ 24)
    (wm : 0 ≤ ((G.1 a 23).toInt) ∧ ((G.1 a 23).toInt) ≤ 24)
    (am : 0 ≤ ((G.1 a 43).toInt) ∧ ((G.1 a 43).toInt) ≤ 2388)
    (c5 : x1.toInt = (-1 : Int))
    (f63 : ((G.1 a 6).toInt) = 0 ∨ ((G.1 a 6).toInt) = 1)
    (c45 : ((G.1 a 6).toInt) = 0)
    (t92 : -1 ≤ x92.toInt)
    (t99 : 0 ≤ ((G99.1 a 43).toInt) ∧ ((G99.1 a 43).toInt) ≤ 2388 ∧ ((G99.1 a 44).toInt) = x92.toInt ∧ ((x92.toInt = -1 ∧ ((G99.1 a 43).toInt) = ((G92.1 a 19).toInt)) ∨ (x92.toInt ≠ -1 ∧ ((G99.1 a 43).toInt) = x92.toInt + 1)))
    (c107 : ¬ (x92.toInt = (-1 : Int))) :
    ((ffP (G.2.1 (F a 10)) (mw (G.2.1 (F a 1)) 0) (fuO (G.2.1 (F a 10)) r1 (mw (G.2.1 (F a 1)) 0) 0) ≠ -1 ∨ (((G.1 a 6).toInt) = 0 ∧ ffP (G.2.1 (F a 10)) (mw (G.2.1 (F a 1)) 0) (fuO (G.2.1 (F a 10)) r1 (mw (G.2.1 (F a 1)) 0) 1) ≠ -1)) ∧ -5 = -5 ∧ mw (G121.2.1 (F a 1)) 0 = mw (G.2.1 (F a 4)) 0) ∨ (ffP (G.2.1 (F a 10)) (mw (G.2.1 (F a 1)) 0) (fuO (G.2.1 (F a 10)) r1 (mw (G.2.1 (F a 1)) 0) 0) = -1 ∧ (((G.1 a 6).toInt) = 0 → ffP (G.2.1 (F a 10)) (mw (G.2.1 (F a 1)) 0) (fuO (G.2.1 (F a 10)) r1 (mw (G.2.1 (F a 1)) 0) 1) = -1) ∧ -5 = (((fuO (G.2.1 (F a 10)) r1 (mw (G.2.1 (F a 1)) 0) 2).length : Nat) : Int) ∧ mw (G121.2.1 (F a 1)) 0 = mw (G.2.1 (F a 1)) 0) := by
  rw [oq92] at oq92a
  refine Or.inl ⟨Or.inr ⟨by omega, by rw [← oq92a]; omega⟩, by omega, ?_⟩
  exact oq121
theorem v_X11_settles_124_13 {F : Nat → Nat → Nat} (a : Nat) (G121 : XG)
    (oq121a : RM (G121.2.1 (F a 1)) 0) :
    RM (G121.2.1 (F a 1)) 0 := by
  exact oq121a
theorem v_X11_settles_68_14 {F : Nat → Nat → Nat} (a : Nat) (G : XG) (G57 : XG)
    (hR : RV (G.2.1 (F a 10)))
    (c_G57_F_a_10 : G57.2.1 (F a 10) = G.2.1 (F a 10)) :
    RV (G57.2.1 (F a 10)) := by simp only [c_G57_F_a_10]; assumption
theorem v_X11_settles_68_15 {F : Nat → Nat → Nat} (a : Nat) (G : XG) (G57 : XG)
    (hM : RM (G.2.1 (F a 1)) (0))
    (hA : RM (G.2.1 (F a 4)) 0)
    (hB : RM (G.2.1 (F a 2)) 0)
    (c_G57_F_a_2 : G57.2.1 (F a 2) = G.2.1 (F a 2)) :
    RM (G57.2.1 (F a 2)) (0 : Int) := by simp only [c_G57_F_a_2]; assumption
theorem v_X11_settles_81_16 {F : Nat → Nat → Nat} (a : Nat) (G : XG) (G68 : XG)
    (hR : RV (G.2.1 (F a 10)))
    (c_G68_F_a_10 : G68.2.1 (F a 10) = G.2.1 (F a 10)) :
    RV (G68.2.1 (F a 10)) := by simp only [c_G68_F_a_10]; assumption
theorem v_X11_settles_88_17 {K : Nat → Nat} {F : Nat → Nat → Nat} (a : Nat) (G : XG) (G1 : XG) (G57 : XG) (G68 : XG) (G81 : XG) (r1 : Int → Int) (x1 : Int32)
    (ha : K a = 13)
    (oq1 : ((G1.1 a 45).toInt) = (((fuO (G.2.1 (F a 10)) r1 (mw (G.2.1 (F a 1)) 0) 2).length : Nat) : Int))
    (oq1b : x1.toInt = ffP (G.2.1 (F a 10)) (mw (G.2.1 (F a 1)) 0) (fuO (G.2.1 (F a 10)) r1 (mw (G.2.1 (F a 1)) 0) 0))
    (oq1c : ((G1.1 a 46).toInt) = x1.toInt)
    (oq1e : 0 ≤ ((G1.1 a 19).toInt) ∧ ((G1.1 a 19).toInt) ≤ 2388 ∧ -1 ≤ x1.toInt ∧ x1.toInt < ((G1.1 a 19).toInt))
    (oq68a : G68.2.2.2 = G57.2.2.2)
    (wm : 0 ≤ ((G.1 a 23).toInt) ∧ ((G.1 a 23).toInt) ≤ 24)
    (am : 0 ≤ ((G.1 a 43).toInt) ∧ ((G.1 a 43).toInt) ≤ 2388)
    (c5 : x1.toInt = (-1 : Int))
    (f55 : ((G.1 a 6).toInt) = 0 ∨ ((G.1 a 6).toInt) = 1)
    (c45 : ¬ (((G.1 a 6).toInt) = 0))
    (c_G81_F_a_1 : G81.2.1 (F a 1) = G.2.1 (F a 1)) :
    ((ffP (G.2.1 (F a 10)) (mw (G.2.1 (F a 1)) 0) (fuO (G.2.1 (F a 10)) r1 (mw (G.2.1 (F a 1)) 0) 0) ≠ -1 ∨ (((G.1 a 6).toInt) = 0 ∧ ffP (G.2.1 (F a 10)) (mw (G.2.1 (F a 1)) 0) (fuO (G.2.1 (F a 10)) r1 (mw (G.2.1 (F a 1)) 0) 1) ≠ -1)) ∧ ((G1.1 a 45).toInt) = -5 ∧ mw (G81.2.1 (F a 1)) 0 = mw (G.2.1 (F a 4)) 0) ∨ (ffP (G.2.1 (F a 10)) (mw (G.2.1 (F a 1)) 0) (fuO (G.2.1 (F a 10)) r1 (mw (G.2.1 (F a 1)) 0) 0) = -1 ∧ (((G.1 a 6).toInt) = 0 → ffP (G.2.1 (F a 10)) (mw (G.2.1 (F a 1)) 0) (fuO (G.2.1 (F a 10)) r1 (mw (G.2.1 (F a 1)) 0) 1) = -1) ∧ ((G1.1 a 45).toInt) = (((fuO (G.2.1 (F a 10)) r1 (mw (G.2.1 (F a 1)) 0) 2).length : Nat) : Int) ∧ mw (G81.2.1 (F a 1)) 0 = mw (G.2.1 (F a 1)) 0) := by
  refine Or.inr ⟨by rw [← oq1b]; omega, fun h => absurd h (by omega), ?_, ?_⟩
  · exact oq1
  · rw [c_G81_F_a_1]
theorem v_X11_settles_88_18 {F : Nat → Nat → Nat} (a : Nat) (G : XG) (G81 : XG)
    (hM : RM (G.2.1 (F a 1)) (0))
    (c_G81_F_a_1 : G81.2.1 (F a 1) = G.2.1 (F a 1)) :
    RM (G81.2.1 (F a 1)) 0 := by
  rw [c_G81_F_a_1]; exact hM
theorem v_X11_settles_24_19 {F : Nat → Nat → Nat} (a : Nat) (G : XG) (G1 : XG) (G22 : XG) (r1 : Int → Int)
    (oq1a : pL G1 F a = fuO (G.2.1 (F a 10)) r1 (mw (G.2.1 (F a 1)) 0) 0)
    (c_G22_F_a_10 : G22.2.1 (F a 10) = G.2.1 (F a 10))
    (c_G22_F_a_17 : G22.2.1 (F a 17) = G1.2.1 (F a 17))
    (c_G22_F_a_18 : G22.2.1 (F a 18) = G1.2.1 (F a 18))
    (d_G22_a_19 : G22.1 a 19 = G1.1 a 19) :
    PV (G22.2.1 (F a 10)) (pL G22 F a) := by
  rw [show pL G22 F a = pL G1 F a from pL_cg d_G22_a_19 c_G22_F_a_17 c_G22_F_a_18, oq1a, c_G22_F_a_10]; exact fuO_pv _ _ _ _
theorem v_X11_settles_24_20 {F : Nat → Nat → Nat} (a : Nat) (G : XG) (G22 : XG)
    (hM : RM (G.2.1 (F a 1)) (0))
    (hA : RM (G.2.1 (F a 4)) 0)
    (hB : RM (G.2.1 (F a 2)) 0)
    (c_G22_F_a_4 : G22.2.1 (F a 4) = G.2.1 (F a 4)) :
    RM (G22.2.1 (F a 4)) 0 := by simp only [c_G22_F_a_4]; assumption
theorem v_X11_settles_27_21 {K : Nat → Nat} {F : Nat → Nat → Nat} (a : Nat) (G : XG) (G1 : XG) (G24 : XG) (r1 : Int → Int) (x1 : Int32)
    (ha : K a = 13)
    (oq1 : ((G1.1 a 45).toInt) = (((fuO (G.2.1 (F a 10)) r1 (mw (G.2.1 (F a 1)) 0) 2).length : Nat) : Int))
    (oq1b : x1.toInt = ffP (G.2.1 (F a 10)) (mw (G.2.1 (F a 1)) 0) (fuO (G.2.1 (F a 10)) r1 (mw (G.2.1 (F a 1)) 0) 0))
    (oq1c : ((G1.1 a 46).toInt) = x1.toInt)
    (oq1e : 0 ≤ ((G1.1 a 19).toInt) ∧ ((G1.1 a 19).toInt) ≤ 2388 ∧ -1 ≤ x1.toInt ∧ x1.toInt < ((G1.1 a 19).toInt))
    (oq24 : mw (G24.2.1 (F a 1)) 0 = mw (G.2.1 (F a 4)) 0)
    (oq24b : 0 ≤ ((G24.1 a 23).toInt) ∧ ((G24.1 a 23).toInt) ≤ 24)
    (wm : 0 ≤ ((G.1 a 23).toInt) ∧ ((G.1 a 23).toInt) ≤ 24)
    (am : 0 ≤ ((G.1 a 43).toInt) ∧ ((G.1 a 43).toInt) ≤ 2388)
    (c5 : ¬ (x1.toInt = (-1 : Int))) :
    ((ffP (G.2.1 (F a 10)) (mw (G.2.1 (F a 1)) 0) (fuO (G.2.1 (F a 10)) r1 (mw (G.2.1 (F a 1)) 0) 0) ≠ -1 ∨ (((G.1 a 6).toInt) = 0 ∧ ffP (G.2.1 (F a 10)) (mw (G.2.1 (F a 1)) 0) (fuO (G.2.1 (F a 10)) r1 (mw (G.2.1 (F a 1)) 0) 1) ≠ -1)) ∧ -5 = -5 ∧ mw (G24.2.1 (F a 1)) 0 = mw (G.2.1 (F a 4)) 0) ∨ (ffP (G.2.1 (F a 10)) (mw (G.2.1 (F a 1)) 0) (fuO (G.2.1 (F a 10)) r1 (mw (G.2.1 (F a 1)) 0) 0) = -1 ∧ (((G.1 a 6).toInt) = 0 → ffP (G.2.1 (F a 10)) (mw (G.2.1 (F a 1)) 0) (fuO (G.2.1 (F a 10)) r1 (mw (G.2.1 (F a 1)) 0) 1) = -1) ∧ -5 = (((fuO (G.2.1 (F a 10)) r1 (mw (G.2.1 (F a 1)) 0) 2).length : Nat) : Int) ∧ mw (G24.2.1 (F a 1)) 0 = mw (G.2.1 (F a 1)) 0) := by
  refine Or.inl ⟨Or.inl (by rw [← oq1b]; omega), by omega, ?_⟩
  exact oq24
theorem v_X11_settles_27_22 {F : Nat → Nat → Nat} (a : Nat) (G24 : XG)
    (oq24a : RM (G24.2.1 (F a 1)) 0) :
    RM (G24.2.1 (F a 1)) 0 := by
  exact oq24a
