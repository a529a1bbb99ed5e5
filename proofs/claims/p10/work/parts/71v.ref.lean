theorem v_X11_queue_1_1 {F : Nat → Nat → Nat} (a : Nat) (G : XG)
    (hR : RV (G.2.1 (F a 10))) :
    RV (G.2.1 (F a 10)) := by exact hR
theorem v_X11_queue_1_2 {F : Nat → Nat → Nat} (a : Nat) (G : XG)
    (hM : RM (G.2.1 (F a 1)) (0)) :
    RM (G.2.1 (F a 1)) (0) := by exact hM
theorem v_X11_queue_1_3 {F : Nat → Nat → Nat} (a : Nat) (G : XG)
    (hB : RM (G.2.1 (F a 2)) 0) :
    RM (G.2.1 (F a 2)) 0 := by exact hB
theorem v_X11_queue_4_4 {F : Nat → Nat → Nat} (G1 : XG) (a : Nat) (G : XG)
    (oq1 : pL G1 F a = if ((G.1 a 6).toInt) = 0 then [] else fuO (G.2.1 (F a 10)) (mw (G.2.1 (F a 1)) 0) (mw (G.2.1 (F a 2)) 0) 1) :
    PV (G.2.1 (F a 10)) (pL G1 F a) := by
  rw [oq1]
  split
  · intro x hx; cases hx
  · exact fuO_pv _ _ _ _
theorem v_X11_queue_138_5 {F : Nat → Nat → Nat} (a : Nat) (G : XG) (G26 : XG)
    (hR : RV (G.2.1 (F a 10)))
    (c_G26_F_a_10 : G26.2.1 (F a 10) = G.2.1 (F a 10)) :
    RV (G26.2.1 (F a 10)) := by simp only [c_G26_F_a_10]; assumption
theorem v_X11_queue_138_6 {F : Nat → Nat → Nat} (a : Nat) (G : XG) (G26 : XG)
    (hM : RM (G.2.1 (F a 1)) (0))
    (hB : RM (G.2.1 (F a 2)) 0)
    (c_G26_F_a_1 : G26.2.1 (F a 1) = G.2.1 (F a 1)) :
    RM (G26.2.1 (F a 1)) (0 : Int) := by simp only [c_G26_F_a_1]; assumption
theorem v_X11_first_30_1 {F : Nat → Nat → Nat} (a : Nat) (G2 : XG) (G : XG)
    (hR : RV (G.2.1 (F a 10)))
    (c_G2_F_a_10 : G2.2.1 (F a 10) = G.2.1 (F a 10)) :
    RV (G2.2.1 (F a 10)) := by simp only [c_G2_F_a_10]; assumption
theorem v_X11_first_30_2 {F : Nat → Nat → Nat} (a : Nat) (G2 : XG) (G : XG)
    (hM : RM (G.2.1 (F a 1)) (0))
    (hB : RM (G.2.1 (F a 2)) 0)
    (c_G2_F_a_1 : G2.2.1 (F a 1) = G.2.1 (F a 1)) :
    RM (G2.2.1 (F a 1)) (0) := by simp only [c_G2_F_a_1]; assumption
theorem v_X11_first_30_3 {F : Nat → Nat → Nat} (a : Nat) (G2 : XG) (G : XG)
    (hM : RM (G.2.1 (F a 1)) (0))
    (hB : RM (G.2.1 (F a 2)) 0)
    (c_G2_F_a_2 : G2.2.1 (F a 2) = G.2.1 (F a 2)) :
    RM (G2.2.1 (F a 2)) 0 := by simp only [c_G2_F_a_2]; assumption
theorem v_X11_first_33_4 {F : Nat → Nat → Nat} (G30 : XG) (a : Nat) (G : XG)
    (oq30 : pL G30 F a = if ((G.1 a 6).toInt) = 0 then [] else fuO (G.2.1 (F a 10)) (mw (G.2.1 (F a 1)) 0) (mw (G.2.1 (F a 2)) 0) 1) :
    PV (G.2.1 (F a 10)) (pL G30 F a) := by
  rw [oq30]
  split
  · intro x hx; cases hx
  · exact fuO_pv _ _ _ _
theorem v_X11_first_84_5 {F : Nat → Nat → Nat} (a : Nat) (G : XG) (G30 : XG)
    (hR : RV (G.2.1 (F a 10)))
    (c_G30_F_a_10 : G30.2.1 (F a 10) = G.2.1 (F a 10)) :
    RV (G30.2.1 (F a 10)) := by simp only [c_G30_F_a_10]; assumption
theorem v_X11_first_84_6 {F : Nat → Nat → Nat} (a : Nat) (G : XG) (G30 : XG)
    (hM : RM (G.2.1 (F a 1)) (0))
    (hB : RM (G.2.1 (F a 2)) 0)
    (c_G30_F_a_1 : G30.2.1 (F a 1) = G.2.1 (F a 1)) :
    RM (G30.2.1 (F a 1)) (0) := by simp only [c_G30_F_a_1]; assumption
theorem v_X11_first_84_7 {F : Nat → Nat → Nat} (G : XG) (a : Nat) (G30 : XG)
    (hvq : PV (G.2.1 (F a 10)) (pL G30 F a))
    (c_G30_F_a_10 : G30.2.1 (F a 10) = G.2.1 (F a 10)) :
    PV (G30.2.1 (F a 10)) (pL G30 F a) := by
  first | exact hvq | (simp only [c_G30_F_a_10]; exact hvq)
theorem v_X11_first_64_8 {F : Nat → Nat → Nat} (a : Nat) (G : XG) (G30 : XG)
    (hR : RV (G.2.1 (F a 10)))
    (c_G30_F_a_10 : G30.2.1 (F a 10) = G.2.1 (F a 10)) :
    RV (G30.2.1 (F a 10)) := by simp only [c_G30_F_a_10]; assumption
theorem v_X11_first_64_9 {F : Nat → Nat → Nat} (a : Nat) (G : XG) (G30 : XG)
    (hM : RM (G.2.1 (F a 1)) (0))
    (hB : RM (G.2.1 (F a 2)) 0)
    (c_G30_F_a_1 : G30.2.1 (F a 1) = G.2.1 (F a 1)) :
    RM (G30.2.1 (F a 1)) (0 : Int) := by simp only [c_G30_F_a_1]; assumption
theorem v_X11_group_23_1 {F : Nat → Nat → Nat} (a : Nat) (G2 : XG) (G : XG)
    (hR : RV (G.2.1 (F a 10)))
    (c_G2_F_a_10 : G2.2.1 (F a 10) = G.2.1 (F a 10)) :
    RV (G2.2.1 (F a 10)) := by simp only [c_G2_F_a_10]; assumption
theorem v_X11_group_23_2 {F : Nat → Nat → Nat} (a : Nat) (G2 : XG) (G : XG)
    (hM : RM (G.2.1 (F a 1)) (0))
    (hB : RM (G.2.1 (F a 2)) 0)
    (c_G2_F_a_1 : G2.2.1 (F a 1) = G.2.1 (F a 1)) :
    RM (G2.2.1 (F a 1)) (0) := by simp only [c_G2_F_a_1]; assumption
theorem v_X11_group_23_3 {F : Nat → Nat → Nat} (a : Nat) (G2 : XG) (G : XG)
    (hM : RM (G.2.1 (F a 1)) (0))
    (hB : RM (G.2.1 (F a 2)) 0)
    (c_G2_F_a_2 : G2.2.1 (F a 2) = G.2.1 (F a 2)) :
    RM (G2.2.1 (F a 2)) 0 := by simp only [c_G2_F_a_2]; assumption
theorem v_X11_all_21_1 {F : Nat → Nat → Nat} (a : Nat) (G2 : XG) (G : XG)
    (hR : RV (G.2.1 (F a 10)))
    (c_G2_F_a_10 : G2.2.1 (F a 10) = G.2.1 (F a 10)) :
    RV (G2.2.1 (F a 10)) := by simp only [c_G2_F_a_10]; assumption
theorem v_X11_all_89_2 {F : Nat → Nat → Nat} (a : Nat) (G : XG) (G21 : XG)
    (hR : RV (G.2.1 (F a 10)))
    (c_G21_F_a_10 : G21.2.1 (F a 10) = G.2.1 (F a 10)) :
    RV (G21.2.1 (F a 10)) := by simp only [c_G21_F_a_10]; assumption
theorem v_X11_all_89_3 {F : Nat → Nat → Nat} (a : Nat) (G : XG) (G21 : XG)
    (hM : RM (G.2.1 (F a 1)) (0))
    (c_G21_F_a_1 : G21.2.1 (F a 1) = G.2.1 (F a 1)) :
    RM (G21.2.1 (F a 1)) (0 : Int) := by simp only [c_G21_F_a_1]; assumption