theorem v_X11_look_10_1 {F : Nat → Nat → Nat} (a : Nat) (G : XG)
    (hR : RV (G.2.1 (F a 10))) :
    RV (G.2.1 (F a 10)) := by exact hR
theorem v_X11_look_10_2 {K : Nat → Nat} {F : Nat → Nat → Nat} (a : Nat) (G : XG) (r1 : Int → Int)
    (ha : K a = 13)
    (hk9999 : K (F a 15) = 42)
    (hj9999 : F (F a 15) 99 = 15)
    (hk9999a : K (F a 17) = 43)
    (hj9999a : F (F a 17) 99 = 17)
    (hk9999b : K (F a 18) = 44)
    (hj9999b : F (F a 18) 99 = 18)
    (hk9999c : K (F a 11) = 38)
    (hj9999c : F (F a 11) 99 = 11)
    (hk9999d : K (F a 10) = 37)
    (hj9999d : F (F a 10) 99 = 10)
    (hk9999e : K (F a 1) = 30)
    (hj9999e : F (F a 1) 99 = 1)
    (hk9999f : K (F a 12) = 38)
    (hj9999f : F (F a 12) 99 = 12)
    (hR : RV (G.2.1 (F a 10)))
    (hM : RM (G.2.1 (F a 1)) (0))
    (h1 : LSt (G.2.1 (F a 10)) (G.2.1 (F a 12)) r1 12) :
    RM (G.2.1 (F a 1)) (0 : Int) := by
  first | assumption | omega
theorem v_X11_look_23_3 {F : Nat → Nat → Nat} (a : Nat) (G : XG) (G10 : XG)
    (hR : RV (G.2.1 (F a 10)))
    (c_G10_F_a_10 : G10.2.1 (F a 10) = G.2.1 (F a 10)) :
    RV (G10.2.1 (F a 10)) := by simp only [c_G10_F_a_10]; assumption
theorem v_X11_look_23_4 {F : Nat → Nat → Nat} (a : Nat) (G : XG) (G10 : XG) (r1 : Int → Int)
    (h1 : LSt (G.2.1 (F a 10)) (G.2.1 (F a 12)) r1 12)
    (oq10 : LSt (G.2.1 (F a 10)) (G10.2.1 (F a 11)) (mw (G.2.1 (F a 1)) (0 : Int)) 12)
    (c_G10_F_a_10 : G10.2.1 (F a 10) = G.2.1 (F a 10))
    (c_G10_F_a_12 : G10.2.1 (F a 12) = G.2.1 (F a 12)) :
    LSt (G10.2.1 (F a 10)) (G10.2.1 (F a 12)) r1 12 := by simp only [c_G10_F_a_10, c_G10_F_a_12]; assumption
theorem v_X11_look_23_5 {F : Nat → Nat → Nat} (a : Nat) (G : XG) (G10 : XG) (r1 : Int → Int)
    (h1 : LSt (G.2.1 (F a 10)) (G.2.1 (F a 12)) r1 12)
    (oq10 : LSt (G.2.1 (F a 10)) (G10.2.1 (F a 11)) (mw (G.2.1 (F a 1)) (0 : Int)) 12)
    (c_G10_F_a_10 : G10.2.1 (F a 10) = G.2.1 (F a 10)) :
    LSt (G10.2.1 (F a 10)) (G10.2.1 (F a 11)) (mw (G.2.1 (F a 1)) 0) 12 := by simp only [c_G10_F_a_10]; assumption
theorem v_X11_look_37_6 {F : Nat → Nat → Nat} (a : Nat) (G : XG) (G31 : XG)
    (hR : RV (G.2.1 (F a 10)))
    (c_G31_F_a_10 : G31.2.1 (F a 10) = G.2.1 (F a 10)) :
    RV (G31.2.1 (F a 10)) := by simp only [c_G31_F_a_10]; assumption
theorem v_X11_look_37_7 {F : Nat → Nat → Nat} (a : Nat) (G : XG) (G31 : XG)
    (hM : RM (G.2.1 (F a 1)) (0))
    (c_G31_F_a_1 : G31.2.1 (F a 1) = G.2.1 (F a 1)) :
    RM (G31.2.1 (F a 1)) (0) := by simp only [c_G31_F_a_1]; assumption
theorem v_X11_look_37_8 {F : Nat → Nat → Nat} (a : Nat) (G : XG) (G10 : XG) (G31 : XG) (r1 : Int → Int)
    (h1 : LSt (G.2.1 (F a 10)) (G.2.1 (F a 12)) r1 12)
    (oq10 : LSt (G.2.1 (F a 10)) (G10.2.1 (F a 11)) (mw (G.2.1 (F a 1)) (0 : Int)) 12)
    (c_G31_F_a_10 : G31.2.1 (F a 10) = G.2.1 (F a 10))
    (c_G31_F_a_12 : G31.2.1 (F a 12) = G.2.1 (F a 12)) :
    LSt (G31.2.1 (F a 10)) (G31.2.1 (F a 12)) r1 12 := by simp only [c_G31_F_a_10, c_G31_F_a_12]; assumption
theorem v_X11_look_37_9 {K : Nat → Nat} {F : Nat → Nat → Nat} (a : Nat) (G : XG) (G10 : XG) (G23 : XG) (G31 : XG) (r1 : Int → Int)
    (ha : K a = 13)
    (hk9999 : K (F a 15) = 42)
    (hj9999 : F (F a 15) 99 = 15)
    (hk9999a : K (F a 17) = 43)
    (hj9999a : F (F a 17) 99 = 17)
    (hk9999b : K (F a 18) = 44)
    (hj9999b : F (F a 18) 99 = 18)
    (hk9999c : K (F a 11) = 38)
    (hj9999c : F (F a 11) 99 = 11)
    (hk9999d : K (F a 10) = 37)
    (hj9999d : F (F a 10) 99 = 10)
    (hk9999e : K (F a 1) = 30)
    (hj9999e : F (F a 1) 99 = 1)
    (hk9999f : K (F a 12) = 38)
    (hj9999f : F (F a 12) 99 = 12)
    (hF10 : XFr [] [F a 11] [] G G10)
    (hF23 : XFr [(a, 16), (a, 19)] [F a 15, F a 17, F a 18] [] G10 G23)
    (hG31 : G31 = dput G23 a 45 (G23.1 a 19))
    (hR : RV (G.2.1 (F a 10)))
    (hM : RM (G.2.1 (F a 1)) (0))
    (h1 : LSt (G.2.1 (F a 10)) (G.2.1 (F a 12)) r1 12)
    (oq10 : LSt (G.2.1 (F a 10)) (G10.2.1 (F a 11)) (mw (G.2.1 (F a 1)) (0 : Int)) 12)
    (oq10a : G10.2.2.2 = G.2.2.2)
    (oq23 : pL G23 F a = fuL (G.2.1 (F a 10)) r1 (mw (G.2.1 (F a 1)) 0) (2 : Int) (ordN (prM (G.2.1 (F a 10))) (rkM (G.2.1 (F a 10))) 12).2 (ordN (prM (G.2.1 (F a 10))) (rkM (G.2.1 (F a 10))) 12).1)
    (oq23a : ORm (G.2.1 (F a 10)) (G23.2.1 (F a 15)) ((G23.1 a 16).toInt) 12)
    (oq23b : G23.2.2.2 = G10.2.2.2)
    (t23 : 0 ≤ ((G23.1 a 19).toInt) ∧ ((G23.1 a 19).toInt) ≤ 2388)
    (c_G31_F_a_1 : G31.2.1 (F a 1) = G.2.1 (F a 1))
    (c_G31_F_a_10 : G31.2.1 (F a 10) = G.2.1 (F a 10))
    (c_G31_F_a_11 : G31.2.1 (F a 11) = G10.2.1 (F a 11))
    (c_G31_F_a_15 : G31.2.1 (F a 15) = G23.2.1 (F a 15))
    (c_G31_F_a_17 : G31.2.1 (F a 17) = G23.2.1 (F a 17))
    (c_G31_F_a_18 : G31.2.1 (F a 18) = G23.2.1 (F a 18))
    (d_G31_a_16 : G31.1 a 16 = G23.1 a 16)
    (d_G31_a_19 : G31.1 a 19 = G23.1 a 19)
    (d_G31_a_45 : G31.1 a 45 = (G23.1 a 19))
    (d_G31_a_46 : G31.1 a 46 = G.1 a 46) :
    LSt (G31.2.1 (F a 10)) (G31.2.1 (F a 11)) (mw (G31.2.1 (F a 1)) 0) 12 := by
  rw [show G31.2.1 (F a 11) = G10.2.1 (F a 11) by assumption, show G31.2.1 (F a 10) = G.2.1 (F a 10) by assumption, show G31.2.1 (F a 1) = G.2.1 (F a 1) by assumption]; exact oq10
theorem v_X11_look_47_10 {K : Nat → Nat} {F : Nat → Nat → Nat} (a : Nat) (G : XG) (G10 : XG) (G23 : XG) (G37 : XG) (G40 : XG) (x37 : Int32) (r1 : Int → Int)
    (ha : K a = 13)
    (oq10a : G10.2.2.2 = G.2.2.2)
    (oq23 : pL G23 F a = fuL (G.2.1 (F a 10)) r1 (mw (G.2.1 (F a 1)) 0) (2 : Int) (ordN (prM (G.2.1 (F a 10))) (rkM (G.2.1 (F a 10))) 12).2 (ordN (prM (G.2.1 (F a 10))) (rkM (G.2.1 (F a 10))) 12).1)
    (oq23b : G23.2.2.2 = G10.2.2.2)
    (oq37a : x37.toInt = ffP (G.2.1 (F a 10)) (mw (G.2.1 (F a 1)) 0) (pL G37 F a))
    (oq37b : 0 ≤ ((G37.1 a 19).toInt) ∧ ((G37.1 a 19).toInt) ≤ 2388 ∧ x37.toInt < ((G37.1 a 19).toInt))
    (t23 : 0 ≤ ((G23.1 a 19).toInt) ∧ ((G23.1 a 19).toInt) ≤ 2388)
    (t37 : -1 ≤ x37.toInt)
    (d_G40_a_45 : G40.1 a 45 = (G23.1 a 19)) :
    ((G40.1 a 45).toInt) = (((fuO (G.2.1 (F a 10)) r1 (mw (G.2.1 (F a 1)) 0) 2).length : Nat) : Int) := by
  have e : fuO (G.2.1 (F a 10)) r1 (mw (G.2.1 (F a 1)) 0) 2 = pL G23 F a := oq23.symm
  rw [d_G40_a_45, e, pL_len]
  omega
theorem v_X11_look_47_11 {F : Nat → Nat → Nat} (a : Nat) (G : XG) (G37 : XG) (G40 : XG) (x37 : Int32) (r1 : Int → Int)
    (hG40 : G40 = dput G37 a 46 x37)
    (oq37 : pL G37 F a = fuO (G.2.1 (F a 10)) r1 (mw (G.2.1 (F a 1)) 0) (0 : Int)) :
    pL G40 F a = fuO (G.2.1 (F a 10)) r1 (mw (G.2.1 (F a 1)) 0) 0 := by
  rw [show pL G40 F a = pL G37 F a from pL_cg (ld_j hG40 (by decide)) (ld_c hG40) (ld_c hG40)]; exact oq37
theorem v_X11_look_47_12 {F : Nat → Nat → Nat} (a : Nat) (G : XG) (G37 : XG) (x37 : Int32) (r1 : Int → Int)
    (oq37 : pL G37 F a = fuO (G.2.1 (F a 10)) r1 (mw (G.2.1 (F a 1)) 0) (0 : Int))
    (oq37a : x37.toInt = ffP (G.2.1 (F a 10)) (mw (G.2.1 (F a 1)) 0) (pL G37 F a)) :
    x37.toInt = ffP (G.2.1 (F a 10)) (mw (G.2.1 (F a 1)) 0) (fuO (G.2.1 (F a 10)) r1 (mw (G.2.1 (F a 1)) 0) 0) := by
  rw [← oq37]; exact oq37a
theorem v_X11_look_47_13 (a : Nat) (G40 : XG) (x37 : Int32)
    (d_G40_a_46 : G40.1 a 46 = x37) :
    ((G40.1 a 46).toInt) = x37.toInt := by
  rw [d_G40_a_46]
theorem v_X11_look_47_14 {F : Nat → Nat → Nat} (a : Nat) (G : XG) (G10 : XG) (G40 : XG)
    (oq10 : LSt (G.2.1 (F a 10)) (G10.2.1 (F a 11)) (mw (G.2.1 (F a 1)) (0 : Int)) 12)
    (c_G40_F_a_11 : G40.2.1 (F a 11) = G10.2.1 (F a 11)) :
    LSt (G.2.1 (F a 10)) (G40.2.1 (F a 11)) (mw (G.2.1 (F a 1)) 0) 12 := by
  rw [c_G40_F_a_11]; exact oq10
theorem v_X11_look_47_15 {K : Nat → Nat} {F : Nat → Nat → Nat} (a : Nat) (G : XG) (G10 : XG) (G23 : XG) (G37 : XG) (G40 : XG) (x37 : Int32)
    (ha : K a = 13)
    (oq10a : G10.2.2.2 = G.2.2.2)
    (oq23b : G23.2.2.2 = G10.2.2.2)
    (oq37a : x37.toInt = ffP (G.2.1 (F a 10)) (mw (G.2.1 (F a 1)) 0) (pL G37 F a))
    (oq37b : 0 ≤ ((G37.1 a 19).toInt) ∧ ((G37.1 a 19).toInt) ≤ 2388 ∧ x37.toInt < ((G37.1 a 19).toInt))
    (t23 : 0 ≤ ((G23.1 a 19).toInt) ∧ ((G23.1 a 19).toInt) ≤ 2388)
    (t37 : -1 ≤ x37.toInt)
    (d_G40_a_19 : G40.1 a 19 = G37.1 a 19) :
    0 ≤ ((G40.1 a 19).toInt) ∧ ((G40.1 a 19).toInt) ≤ 2388 ∧ -1 ≤ x37.toInt ∧ x37.toInt < ((G40.1 a 19).toInt) := by
  rw [d_G40_a_19]; omega
theorem v_X11_freeRule_23_1 {K : Nat → Nat} {F : Nat → Nat → Nat} (a : Nat) (l1_2 : Int32) (G : XG) (N2 : Nat)
    (ha : K a = 13)
    (pr : ∀ i : Int, 0 ≤ i → i < l1_2.toInt → aI (G.2.1 (F a 10)) (10 * i + 0) ≠ -1)
    (I2_0 : 0 ≤ l1_2.toInt ∧ l1_2.toInt ≤ 12)
    (I2_1 : (0 : Int) ≤ l1_2.toInt)
    (hm2 : 2147483648 - l1_2.toInt < (((N2) + 1 : Nat) : Int))
    (c5 : (12 : Int) ≤ l1_2.toInt) :
    (l1_2.toInt = 12 ∨ aI (G.2.1 (F a 10)) (10 * l1_2.toInt + 0) = -1) ∧ ∀ i : Int, 0 ≤ i → i < l1_2.toInt → aI (G.2.1 (F a 10)) (10 * i + 0) ≠ -1 := by
  exact ⟨by omega, pr⟩
theorem v_X11_freeRule_23_2 {K : Nat → Nat} {F : Nat → Nat → Nat} (a : Nat) (l1_2 : Int32) (G : XG) (N2 : Nat) (x10 : Int32)
    (ha : K a = 13)
    (pr : ∀ i : Int, 0 ≤ i → i < l1_2.toInt → aI (G.2.1 (F a 10)) (10 * i + 0) ≠ -1)
    (I2_0 : 0 ≤ l1_2.toInt ∧ l1_2.toInt ≤ 12)
    (I2_1 : (0 : Int) ≤ l1_2.toInt)
    (hm2 : 2147483648 - l1_2.toInt < (((N2) + 1 : Nat) : Int))
    (c5 : ¬ ((12 : Int) ≤ l1_2.toInt))
    (t10 : (x10.toInt = 1 ∧ 0 ≤ l1_2.toInt ∧ l1_2.toInt ≤ 11 ∧ (aI (G.2.1 (F a 10)) (10 * l1_2.toInt + 0)) ≠ -1) ∨ (x10.toInt = 0 ∧ (¬ (0 ≤ l1_2.toInt ∧ l1_2.toInt ≤ 11) ∨ (aI (G.2.1 (F a 10)) (10 * l1_2.toInt + 0)) = -1)))
    (c13 : x10.toInt = 0) :
    (l1_2.toInt = 12 ∨ aI (G.2.1 (F a 10)) (10 * l1_2.toInt + 0) = -1) ∧ ∀ i : Int, 0 ≤ i → i < l1_2.toInt → aI (G.2.1 (F a 10)) (10 * i + 0) ≠ -1 := by
  exact ⟨by omega, pr⟩
theorem v_X11_freeRule_19_3 {K : Nat → Nat} {F : Nat → Nat → Nat} (a : Nat) (l1_2 : Int32) (G : XG) (N2 : Nat) (x10 : Int32)
    (ha : K a = 13)
    (pr : ∀ i : Int, 0 ≤ i → i < l1_2.toInt → aI (G.2.1 (F a 10)) (10 * i + 0) ≠ -1)
    (I2_0 : 0 ≤ l1_2.toInt ∧ l1_2.toInt ≤ 12)
    (I2_1 : (0 : Int) ≤ l1_2.toInt)
    (hm2 : 2147483648 - l1_2.toInt < (((N2) + 1 : Nat) : Int))
    (c5 : ¬ ((12 : Int) ≤ l1_2.toInt))
    (t10 : (x10.toInt = 1 ∧ 0 ≤ l1_2.toInt ∧ l1_2.toInt ≤ 11 ∧ (aI (G.2.1 (F a 10)) (10 * l1_2.toInt + 0)) ≠ -1) ∨ (x10.toInt = 0 ∧ (¬ (0 ≤ l1_2.toInt ∧ l1_2.toInt ≤ 11) ∨ (aI (G.2.1 (F a 10)) (10 * l1_2.toInt + 0)) = -1)))
    (c13 : ¬ (x10.toInt = 0)) :
    ∀ i : Int, 0 ≤ i → i < (l1_2.toInt + 1) → aI (G.2.1 (F a 10)) (10 * i + 0) ≠ -1 := by
  intro i h1 h2
  by_cases e : i = l1_2.toInt
  · subst e; omega
  · exact pr i h1 (by omega)
theorem v_X11_freeRule_1_4 {K : Nat → Nat} {F : Nat → Nat → Nat} (a : Nat) (G : XG)
    (ha : K a = 13) :
    ∀ i : Int, 0 ≤ i → i < (0 : Int) → aI (G.2.1 (F a 10)) (10 * i + 0) ≠ -1 := by
  intro i h1 h2; exact absurd h1 (by omega)
