theorem v_X11_copy_29_1 (p2 : Nat) (G : XG) (G_3 : XG) (p0 : Nat) (p1 : Int32) (p3 : Int32) (l4_3 : Int32) (N3 : Nat)
    (hne : p0 ≠ p2)
    (pc : CPd (G.2.1 p0) (G.2.1 p2) (G_3.2.1 p2) (p1.toInt) (p3.toInt) l4_3.toInt)
    (f3 : 0 ≤ p1.toInt ∧ p1.toInt ≤ 2520)
    (f4 : 0 ≤ p3.toInt ∧ p3.toInt ≤ 2520)
    (I3_0 : 0 ≤ l4_3.toInt ∧ l4_3.toInt ≤ 360)
    (I3_1 : (0 : Int) ≤ l4_3.toInt)
    (hm3 : 2147483648 - l4_3.toInt < (((N3) + 1 : Nat) : Int))
    (c8 : (360 : Int) ≤ l4_3.toInt) :
    CPd (G.2.1 p0) (G.2.1 p2) (G_3.2.1 p2) (p1.toInt) (p3.toInt) 360 := by
  rw [show (360 : Int) = l4_3.toInt from by omega]; exact pc
theorem v_X11_copy_26_2 (p2 : Nat) (G : XG) (G_3 : XG) (G22 : XG) (x15 : Int32) (x21 : Int32) (p0 : Nat) (p1 : Int32) (p3 : Int32) (l4_3 : Int32) (N3 : Nat)
    (hG22 : G22 = cput G_3 p2 x15.toNatClampNeg x21)
    (hne : p0 ≠ p2)
    (pc : CPd (G.2.1 p0) (G.2.1 p2) (G_3.2.1 p2) (p1.toInt) (p3.toInt) l4_3.toInt)
    (e15 : x15.toInt = (p3.toInt + l4_3.toInt))
    (hv21 : x21.toInt = (aI (G.2.1 p0) (p1.toInt + l4_3.toInt)))
    (f8 : 0 ≤ p1.toInt ∧ p1.toInt ≤ 2520)
    (f9 : 0 ≤ p3.toInt ∧ p3.toInt ≤ 2520)
    (I3_0 : 0 ≤ l4_3.toInt ∧ l4_3.toInt ≤ 360)
    (I3_1 : (0 : Int) ≤ l4_3.toInt)
    (hm3 : 2147483648 - l4_3.toInt < (((N3) + 1 : Nat) : Int))
    (c8 : ¬ ((360 : Int) ≤ l4_3.toInt)) :
    CPd (G.2.1 p0) (G.2.1 p2) (G22.2.1 p2) (p1.toInt) (p3.toInt) (l4_3.toInt + 1) := by
  intro z hz
  rw [hG22, aI_put (by omega) z hz, pc z hz]
  by_cases e : z = x15.toInt
  · rw [if_pos e, if_pos (by omega), hv21]
    congr 1
    omega
  · rw [if_neg e]
    by_cases g : p3.toInt ≤ z ∧ z < p3.toInt + l4_3.toInt
    · rw [if_pos g, if_pos (by omega)]
    · rw [if_neg g, if_neg (by omega)]
theorem v_X11_copy_1_3 (p0 : Nat) (p2 : Nat) (p1 : Int32) (p3 : Int32) (G : XG)
    (hne : p0 ≠ p2)
    (f1 : 0 ≤ p1.toInt ∧ p1.toInt ≤ 2520)
    (f2 : 0 ≤ p3.toInt ∧ p3.toInt ≤ 2520) :
    CPd (G.2.1 p0) (G.2.1 p2) (G.2.1 p2) (p1.toInt) (p3.toInt) (0 : Int) := by
  intro z hz; rw [if_neg (by omega)]
theorem v_X11_layStates_69_1 {K : Nat → Nat} {F : Nat → Nat → Nat} (a : Nat) (p0 : Nat) (G : XG) (G_3 : XG) (p1 : Nat) (p2 : Int32) (l4_3 : Int32) (N3 : Nat)
    (ha : K a = 13)
    (hp0 : K p0 = 38)
    (pl : LSt (G.2.1 (F a 10)) (G_3.2.1 p0) (mw (G.2.1 p1) (p2.toInt)) l4_3.toInt)
    (lo : G_3.2.2.2 = G.2.2.2)
    (f9 : 0 ≤ p2.toInt ∧ p2.toInt ≤ 2520)
    (I3_0 : 0 ≤ l4_3.toInt ∧ l4_3.toInt ≤ 12)
    (I3_1 : (0 : Int) ≤ l4_3.toInt)
    (hm3 : 2147483648 - l4_3.toInt < (((N3) + 1 : Nat) : Int))
    (c7 : (12 : Int) ≤ l4_3.toInt) :
    LSt (G.2.1 (F a 10)) (G_3.2.1 p0) (mw (G.2.1 p1) (p2.toInt)) 12 := by
  rw [show (12 : Int) = l4_3.toInt from by omega]; exact pl
theorem v_X11_layStates_69_2 (G : XG) (G_3 : XG)
    (lo : G_3.2.2.2 = G.2.2.2) :
    G_3.2.2.2 = G.2.2.2 := by
  first
    | exact lo
    | rfl
    | (rw [hG56]; exact lo)
theorem v_X11_layStates_66_3 {K : Nat → Nat} {F : Nat → Nat → Nat} (a : Nat) (p0 : Nat) (G : XG) (G_3 : XG) (p1 : Nat) (p2 : Int32) (l4_3 : Int32) (N3 : Nat) (x13 : Int32)
    (ha : K a = 13)
    (hp0 : K p0 = 38)
    (pl : LSt (G.2.1 (F a 10)) (G_3.2.1 p0) (mw (G.2.1 p1) (p2.toInt)) l4_3.toInt)
    (lo : G_3.2.2.2 = G.2.2.2)
    (f10 : 0 ≤ p2.toInt ∧ p2.toInt ≤ 2520)
    (I3_0 : 0 ≤ l4_3.toInt ∧ l4_3.toInt ≤ 12)
    (I3_1 : (0 : Int) ≤ l4_3.toInt)
    (hm3 : 2147483648 - l4_3.toInt < (((N3) + 1 : Nat) : Int))
    (c7 : ¬ ((12 : Int) ≤ l4_3.toInt))
    (t13 : (x13.toInt = 1 ∧ 0 ≤ l4_3.toInt ∧ l4_3.toInt ≤ 11 ∧ (aI (G.2.1 (F a 10)) (10 * l4_3.toInt + 0)) ≠ -1) ∨ (x13.toInt = 0 ∧ (¬ (0 ≤ l4_3.toInt ∧ l4_3.toInt ≤ 11) ∨ (aI (G.2.1 (F a 10)) (10 * l4_3.toInt + 0)) = -1)))
    (c16 : x13.toInt = 0) :
    LSt (G.2.1 (F a 10)) (G_3.2.1 p0) (mw (G.2.1 p1) (p2.toInt)) (l4_3.toInt + 1) := by
  intro q s h1 h2 h3 h4
  by_cases e : q = l4_3.toInt
  · subst e
    first
      | exact absurd h3 (by omega)
      | (have h5 := sbj_FL.mp h4
         exact pi s h5.1 (by omega))
  · exact pl q s h1 (by omega) h3 h4
theorem v_X11_layStates_66_4 (G : XG) (G_3 : XG)
    (lo : G_3.2.2.2 = G.2.2.2) :
    G_3.2.2.2 = G.2.2.2 := by
  exact lo
theorem v_X11_layStates_66_5 {K : Nat → Nat} {F : Nat → Nat → Nat} (a : Nat) (p0 : Nat) (G : XG) (G_27 : XG) (p1 : Nat) (p2 : Int32) (l4_3 : Int32) (l5_27 : Int32) (N3 : Nat) (x13 : Int32) (N27 : Nat)
    (ha : K a = 13)
    (hp0 : K p0 = 38)
    (lo : G_27.2.2.2 = G.2.2.2)
    (pl : LSt (G.2.1 (F a 10)) (G_27.2.1 p0) (mw (G.2.1 p1) (p2.toInt)) l4_3.toInt)
    (pi : ∀ s : Int, sF (aI (G.2.1 (F a 10)) (10 * l4_3.toInt + 0)) ≤ s → s < l5_27.toInt → aI (G_27.2.1 p0) (199 * l4_3.toInt + s + 99) = stt (mw (G.2.1 p1) (p2.toInt)) (aI (G.2.1 (F a 10)) (10 * l4_3.toInt + 0)) (aI (G.2.1 (F a 10)) (10 * l4_3.toInt + 1)) (aI (G.2.1 (F a 10)) (10 * l4_3.toInt + 2)) (aI (G.2.1 (F a 10)) (10 * l4_3.toInt + 3)) (s))
    (f14 : 0 ≤ p2.toInt ∧ p2.toInt ≤ 2520)
    (I3_0 : 0 ≤ l4_3.toInt ∧ l4_3.toInt ≤ 12)
    (I3_1 : (0 : Int) ≤ l4_3.toInt)
    (hm3 : 2147483648 - l4_3.toInt < (((N3) + 1 : Nat) : Int))
    (c7 : ¬ ((12 : Int) ≤ l4_3.toInt))
    (t13 : (x13.toInt = 1 ∧ 0 ≤ l4_3.toInt ∧ l4_3.toInt ≤ 11 ∧ (aI (G.2.1 (F a 10)) (10 * l4_3.toInt + 0)) ≠ -1) ∨ (x13.toInt = 0 ∧ (¬ (0 ≤ l4_3.toInt ∧ l4_3.toInt ≤ 11) ∨ (aI (G.2.1 (F a 10)) (10 * l4_3.toInt + 0)) = -1)))
    (c16 : ¬ (x13.toInt = 0))
    (z19 : (-1 ≤ (aI (G.2.1 (F a 10)) (10 * l4_3.toInt + 0)) ∧ (aI (G.2.1 (F a 10)) (10 * l4_3.toInt + 0)) ≤ 5) ∧ (0 ≤ (aI (G.2.1 (F a 10)) (10 * l4_3.toInt + 1)) ∧ (aI (G.2.1 (F a 10)) (10 * l4_3.toInt + 1)) ≤ 2) ∧ (0 ≤ (aI (G.2.1 (F a 10)) (10 * l4_3.toInt + 2)) ∧ (aI (G.2.1 (F a 10)) (10 * l4_3.toInt + 2)) ≤ 2) ∧ (-1 ≤ (aI (G.2.1 (F a 10)) (10 * l4_3.toInt + 3)) ∧ (aI (G.2.1 (F a 10)) (10 * l4_3.toInt + 3)) ≤ 2) ∧ ((aI (G.2.1 (F a 10)) (10 * l4_3.toInt + 0)) = 1 ∨ (aI (G.2.1 (F a 10)) (10 * l4_3.toInt + 0)) = 3 ∨ (aI (G.2.1 (F a 10)) (10 * l4_3.toInt + 0)) = 4 → 0 ≤ (aI (G.2.1 (F a 10)) (10 * l4_3.toInt + 3))))
    (z19a : (((aI (G.2.1 (F a 10)) (10 * l4_3.toInt + 0)) = 2 ∨ (aI (G.2.1 (F a 10)) (10 * l4_3.toInt + 0)) = 4 ∨ (aI (G.2.1 (F a 10)) (10 * l4_3.toInt + 0)) = 5) ∧ (sF (aI (G.2.1 (F a 10)) (10 * l4_3.toInt + 0))) = 0 ∧ (sL (aI (G.2.1 (F a 10)) (10 * l4_3.toInt + 0))) = 29) ∨ (¬ ((aI (G.2.1 (F a 10)) (10 * l4_3.toInt + 0)) = 2 ∨ (aI (G.2.1 (F a 10)) (10 * l4_3.toInt + 0)) = 4 ∨ (aI (G.2.1 (F a 10)) (10 * l4_3.toInt + 0)) = 5) ∧ (sF (aI (G.2.1 (F a 10)) (10 * l4_3.toInt + 0))) = -99 ∧ (sL (aI (G.2.1 (F a 10)) (10 * l4_3.toInt + 0))) = 99))
    (I27_0 : (sF (aI (G.2.1 (F a 10)) (10 * l4_3.toInt + 0))) ≤ l5_27.toInt ∧ l5_27.toInt ≤ (sL (aI (G.2.1 (F a 10)) (10 * l4_3.toInt + 0))) + 1)
    (hm27 : 2147483648 - l5_27.toInt < (((N27) + 1 : Nat) : Int))
    (c35 : (sL (aI (G.2.1 (F a 10)) (10 * l4_3.toInt + 0))) < l5_27.toInt) :
    LSt (G.2.1 (F a 10)) (G_27.2.1 p0) (mw (G.2.1 p1) (p2.toInt)) (l4_3.toInt + 1) := by
  intro q s h1 h2 h3 h4
  by_cases e : q = l4_3.toInt
  · subst e
    first
      | exact absurd h3 (by omega)
      | (have h5 := sbj_FL.mp h4
         exact pi s h5.1 (by omega))
  · exact pl q s h1 (by omega) h3 h4
theorem v_X11_layStates_66_6 (G : XG) (G_27 : XG)
    (lo : G_27.2.2.2 = G.2.2.2) :
    G_27.2.2.2 = G.2.2.2 := by
  exact lo
theorem v_X11_layStates_53_7 {F : Nat → Nat → Nat} (a : Nat) (G : XG) (G_27 : XG)
    (hR : RV (G.2.1 (F a 10)))
    (c_G_27_F_a_10 : G_27.2.1 (F a 10) = G.2.1 (F a 10)) :
    RV (G_27.2.1 (F a 10)) := by simp only [c_G_27_F_a_10]; assumption
theorem v_X11_layStates_53_8 (G : XG) (G_27 : XG) (p1 : Nat) (p2 : Int32)
    (hM : RM (G.2.1 p1) (p2.toInt))
    (c_G_27_p1 : G_27.2.1 p1 = G.2.1 p1) :
    RM (G_27.2.1 p1) (p2.toInt) := by simp only [c_G_27_p1]; assumption
theorem v_X11_layStates_60_9 (p0 : Nat) (G : XG) (G_27 : XG) (G56 : XG) (x43 : Int32) (x53 : Int32)
    (hG56 : G56 = cput G_27 p0 x43.toNatClampNeg x53)
    (lo : G_27.2.2.2 = G.2.2.2) :
    G56.2.2.2 = G.2.2.2 := by
  first
    | exact lo
    | rfl
    | (rw [hG56]; exact lo)
theorem v_X11_layStates_60_10 {K : Nat → Nat} {F : Nat → Nat → Nat} (a : Nat) (p0 : Nat) (G : XG) (G_27 : XG) (G56 : XG) (x43 : Int32) (x53 : Int32) (p1 : Nat) (p2 : Int32) (l4_3 : Int32) (l5_27 : Int32) (N3 : Nat) (x13 : Int32) (N27 : Nat)
    (ha : K a = 13)
    (hp0 : K p0 = 38)
    (hG56 : G56 = cput G_27 p0 x43.toNatClampNeg x53)
    (lo : G_27.2.2.2 = G.2.2.2)
    (pl : LSt (G.2.1 (F a 10)) (G_27.2.1 p0) (mw (G.2.1 p1) (p2.toInt)) l4_3.toInt)
    (t43 : x43.toInt = 199 * l4_3.toInt + l5_27.toInt + 99)
    (t53 : x53.toInt = (stt (mw (G.2.1 p1) (p2.toInt)) (aI (G.2.1 (F a 10)) (10 * l4_3.toInt + 0)) (aI (G.2.1 (F a 10)) (10 * l4_3.toInt + 1)) (aI (G.2.1 (F a 10)) (10 * l4_3.toInt + 2)) (aI (G.2.1 (F a 10)) (10 * l4_3.toInt + 3)) (l5_27.toInt)))
    (f17 : 0 ≤ p2.toInt ∧ p2.toInt ≤ 2520)
    (I3_0 : 0 ≤ l4_3.toInt ∧ l4_3.toInt ≤ 12)
    (I3_1 : (0 : Int) ≤ l4_3.toInt)
    (hm3 : 2147483648 - l4_3.toInt < (((N3) + 1 : Nat) : Int))
    (c7 : ¬ ((12 : Int) ≤ l4_3.toInt))
    (t13 : (x13.toInt = 1 ∧ 0 ≤ l4_3.toInt ∧ l4_3.toInt ≤ 11 ∧ (aI (G.2.1 (F a 10)) (10 * l4_3.toInt + 0)) ≠ -1) ∨ (x13.toInt = 0 ∧ (¬ (0 ≤ l4_3.toInt ∧ l4_3.toInt ≤ 11) ∨ (aI (G.2.1 (F a 10)) (10 * l4_3.toInt + 0)) = -1)))
    (c16 : ¬ (x13.toInt = 0))
    (z19 : (-1 ≤ (aI (G.2.1 (F a 10)) (10 * l4_3.toInt + 0)) ∧ (aI (G.2.1 (F a 10)) (10 * l4_3.toInt + 0)) ≤ 5) ∧ (0 ≤ (aI (G.2.1 (F a 10)) (10 * l4_3.toInt + 1)) ∧ (aI (G.2.1 (F a 10)) (10 * l4_3.toInt + 1)) ≤ 2) ∧ (0 ≤ (aI (G.2.1 (F a 10)) (10 * l4_3.toInt + 2)) ∧ (aI (G.2.1 (F a 10)) (10 * l4_3.toInt + 2)) ≤ 2) ∧ (-1 ≤ (aI (G.2.1 (F a 10)) (10 * l4_3.toInt + 3)) ∧ (aI (G.2.1 (F a 10)) (10 * l4_3.toInt + 3)) ≤ 2) ∧ ((aI (G.2.1 (F a 10)) (10 * l4_3.toInt + 0)) = 1 ∨ (aI (G.2.1 (F a 10)) (10 * l4_3.toInt + 0)) = 3 ∨ (aI (G.2.1 (F a 10)) (10 * l4_3.toInt + 0)) = 4 → 0 ≤ (aI (G.2.1 (F a 10)) (10 * l4_3.toInt + 3))))
    (z19a : (((aI (G.2.1 (F a 10)) (10 * l4_3.toInt + 0)) = 2 ∨ (aI (G.2.1 (F a 10)) (10 * l4_3.toInt + 0)) = 4 ∨ (aI (G.2.1 (F a 10)) (10 * l4_3.toInt + 0)) = 5) ∧ (sF (aI (G.2.1 (F a 10)) (10 * l4_3.toInt + 0))) = 0 ∧ (sL (aI (G.2.1 (F a 10)) (10 * l4_3.toInt + 0))) = 29) ∨ (¬ ((aI (G.2.1 (F a 10)) (10 * l4_3.toInt + 0)) = 2 ∨ (aI (G.2.1 (F a 10)) (10 * l4_3.toInt + 0)) = 4 ∨ (aI (G.2.1 (F a 10)) (10 * l4_3.toInt + 0)) = 5) ∧ (sF (aI (G.2.1 (F a 10)) (10 * l4_3.toInt + 0))) = -99 ∧ (sL (aI (G.2.1 (F a 10)) (10 * l4_3.toInt + 0))) = 99))
    (I27_0 : (sF (aI (G.2.1 (F a 10)) (10 * l4_3.toInt + 0))) ≤ l5_27.toInt ∧ l5_27.toInt ≤ (sL (aI (G.2.1 (F a 10)) (10 * l4_3.toInt + 0))) + 1)
    (hm27 : 2147483648 - l5_27.toInt < (((N27) + 1 : Nat) : Int))
    (c35 : ¬ ((sL (aI (G.2.1 (F a 10)) (10 * l4_3.toInt + 0))) < l5_27.toInt)) :
    LSt (G.2.1 (F a 10)) (G56.2.1 p0) (mw (G.2.1 p1) (p2.toInt)) l4_3.toInt := by
  intro q s h1 h2 h3 h4
  have h5 := sbj_FL.mp h4
  have h6 := sFL (aI (G.2.1 (F a 10)) (10 * q + 0))
  rw [hG56, aI_put (by omega) _ (by omega), if_neg (by omega)]
  exact pl q s h1 h2 h3 h4
theorem v_X11_layStates_60_11 {K : Nat → Nat} {F : Nat → Nat → Nat} (a : Nat) (p0 : Nat) (G : XG) (G_27 : XG) (G56 : XG) (x43 : Int32) (x53 : Int32) (p1 : Nat) (p2 : Int32) (l4_3 : Int32) (l5_27 : Int32) (N3 : Nat) (x13 : Int32) (N27 : Nat)
    (ha : K a = 13)
    (hp0 : K p0 = 38)
    (hk9999 : K (F a 10) = 37)
    (hj9999 : F (F a 10) 99 = 10)
    (hG56 : G56 = cput G_27 p0 x43.toNatClampNeg x53)
    (lo : G_27.2.2.2 = G.2.2.2)
    (pi : ∀ s : Int, sF (aI (G.2.1 (F a 10)) (10 * l4_3.toInt + 0)) ≤ s → s < l5_27.toInt → aI (G_27.2.1 p0) (199 * l4_3.toInt + s + 99) = stt (mw (G.2.1 p1) (p2.toInt)) (aI (G.2.1 (F a 10)) (10 * l4_3.toInt + 0)) (aI (G.2.1 (F a 10)) (10 * l4_3.toInt + 1)) (aI (G.2.1 (F a 10)) (10 * l4_3.toInt + 2)) (aI (G.2.1 (F a 10)) (10 * l4_3.toInt + 3)) (s))
    (t43 : x43.toInt = 199 * l4_3.toInt + l5_27.toInt + 99)
    (t53 : x53.toInt = (stt (mw (G.2.1 p1) (p2.toInt)) (aI (G.2.1 (F a 10)) (10 * l4_3.toInt + 0)) (aI (G.2.1 (F a 10)) (10 * l4_3.toInt + 1)) (aI (G.2.1 (F a 10)) (10 * l4_3.toInt + 2)) (aI (G.2.1 (F a 10)) (10 * l4_3.toInt + 3)) (l5_27.toInt)))
    (f17 : 0 ≤ p2.toInt ∧ p2.toInt ≤ 2520)
    (I3_0 : 0 ≤ l4_3.toInt ∧ l4_3.toInt ≤ 12)
    (I3_1 : (0 : Int) ≤ l4_3.toInt)
    (hm3 : 2147483648 - l4_3.toInt < (((N3) + 1 : Nat) : Int))
    (c7 : ¬ ((12 : Int) ≤ l4_3.toInt))
    (t13 : (x13.toInt = 1 ∧ 0 ≤ l4_3.toInt ∧ l4_3.toInt ≤ 11 ∧ (aI (G.2.1 (F a 10)) (10 * l4_3.toInt + 0)) ≠ -1) ∨ (x13.toInt = 0 ∧ (¬ (0 ≤ l4_3.toInt ∧ l4_3.toInt ≤ 11) ∨ (aI (G.2.1 (F a 10)) (10 * l4_3.toInt + 0)) = -1)))
    (c16 : ¬ (x13.toInt = 0))
    (z19 : (-1 ≤ (aI (G.2.1 (F a 10)) (10 * l4_3.toInt + 0)) ∧ (aI (G.2.1 (F a 10)) (10 * l4_3.toInt + 0)) ≤ 5) ∧ (0 ≤ (aI (G.2.1 (F a 10)) (10 * l4_3.toInt + 1)) ∧ (aI (G.2.1 (F a 10)) (10 * l4_3.toInt + 1)) ≤ 2) ∧ (0 ≤ (aI (G.2.1 (F a 10)) (10 * l4_3.toInt + 2)) ∧ (aI (G.2.1 (F a 10)) (10 * l4_3.toInt + 2)) ≤ 2) ∧ (-1 ≤ (aI (G.2.1 (F a 10)) (10 * l4_3.toInt + 3)) ∧ (aI (G.2.1 (F a 10)) (10 * l4_3.toInt + 3)) ≤ 2) ∧ ((aI (G.2.1 (F a 10)) (10 * l4_3.toInt + 0)) = 1 ∨ (aI (G.2.1 (F a 10)) (10 * l4_3.toInt + 0)) = 3 ∨ (aI (G.2.1 (F a 10)) (10 * l4_3.toInt + 0)) = 4 → 0 ≤ (aI (G.2.1 (F a 10)) (10 * l4_3.toInt + 3))))
    (z19a : (((aI (G.2.1 (F a 10)) (10 * l4_3.toInt + 0)) = 2 ∨ (aI (G.2.1 (F a 10)) (10 * l4_3.toInt + 0)) = 4 ∨ (aI (G.2.1 (F a 10)) (10 * l4_3.toInt + 0)) = 5) ∧ (sF (aI (G.2.1 (F a 10)) (10 * l4_3.toInt + 0))) = 0 ∧ (sL (aI (G.2.1 (F a 10)) (10 * l4_3.toInt + 0))) = 29) ∨ (¬ ((aI (G.2.1 (F a 10)) (10 * l4_3.toInt + 0)) = 2 ∨ (aI (G.2.1 (F a 10)) (10 * l4_3.toInt + 0)) = 4 ∨ (aI (G.2.1 (F a 10)) (10 * l4_3.toInt + 0)) = 5) ∧ (sF (aI (G.2.1 (F a 10)) (10 * l4_3.toInt + 0))) = -99 ∧ (sL (aI (G.2.1 (F a 10)) (10 * l4_3.toInt + 0))) = 99))
    (I27_0 : (sF (aI (G.2.1 (F a 10)) (10 * l4_3.toInt + 0))) ≤ l5_27.toInt ∧ l5_27.toInt ≤ (sL (aI (G.2.1 (F a 10)) (10 * l4_3.toInt + 0))) + 1)
    (hm27 : 2147483648 - l5_27.toInt < (((N27) + 1 : Nat) : Int))
    (c35 : ¬ ((sL (aI (G.2.1 (F a 10)) (10 * l4_3.toInt + 0))) < l5_27.toInt)) :
    ∀ s : Int, sF (aI (G.2.1 (F a 10)) (10 * l4_3.toInt + 0)) ≤ s → s < (l5_27.toInt + 1) → aI (G56.2.1 p0) (199 * l4_3.toInt + s + 99) = stt (mw (G.2.1 p1) (p2.toInt)) (aI (G.2.1 (F a 10)) (10 * l4_3.toInt + 0)) (aI (G.2.1 (F a 10)) (10 * l4_3.toInt + 1)) (aI (G.2.1 (F a 10)) (10 * l4_3.toInt + 2)) (aI (G.2.1 (F a 10)) (10 * l4_3.toInt + 3)) (s) := by
  intro s h1 h2
  have h6 := sFL (aI (G.2.1 (F a 10)) (10 * l4_3.toInt + 0))
  rw [hG56, aI_put (by omega) _ (by omega)]
  by_cases e : s = l5_27.toInt
  · rw [if_pos (by omega), e]
    omega
  · rw [if_neg (by omega)]
    exact pi s h1 (by omega)
theorem v_X11_layStates_25_12 (G : XG) (G_3 : XG)
    (lo : G_3.2.2.2 = G.2.2.2) :
    G_3.2.2.2 = G.2.2.2 := by
  exact lo
theorem v_X11_layStates_25_13 {F : Nat → Nat → Nat} (a : Nat) (p0 : Nat) (G : XG) (G_3 : XG) (p1 : Nat) (p2 : Int32) (l4_3 : Int32)
    (pl : LSt (G.2.1 (F a 10)) (G_3.2.1 p0) (mw (G.2.1 p1) (p2.toInt)) l4_3.toInt) :
    LSt (G.2.1 (F a 10)) (G_3.2.1 p0) (mw (G.2.1 p1) (p2.toInt)) l4_3.toInt := by
  exact pl
theorem v_X11_layStates_25_14 {K : Nat → Nat} {F : Nat → Nat → Nat} (a : Nat) (p0 : Nat) (G : XG) (G_3 : XG) (p1 : Nat) (p2 : Int32) (l4_3 : Int32) (N3 : Nat) (x13 : Int32)
    (ha : K a = 13)
    (hp0 : K p0 = 38)
    (hk9999 : K (F a 10) = 37)
    (hj9999 : F (F a 10) 99 = 10)
    (lo : G_3.2.2.2 = G.2.2.2)
    (f10 : 0 ≤ p2.toInt ∧ p2.toInt ≤ 2520)
    (I3_0 : 0 ≤ l4_3.toInt ∧ l4_3.toInt ≤ 12)
    (I3_1 : (0 : Int) ≤ l4_3.toInt)
    (hm3 : 2147483648 - l4_3.toInt < (((N3) + 1 : Nat) : Int))
    (c7 : ¬ ((12 : Int) ≤ l4_3.toInt))
    (t13 : (x13.toInt = 1 ∧ 0 ≤ l4_3.toInt ∧ l4_3.toInt ≤ 11 ∧ (aI (G.2.1 (F a 10)) (10 * l4_3.toInt + 0)) ≠ -1) ∨ (x13.toInt = 0 ∧ (¬ (0 ≤ l4_3.toInt ∧ l4_3.toInt ≤ 11) ∨ (aI (G.2.1 (F a 10)) (10 * l4_3.toInt + 0)) = -1)))
    (c16 : ¬ (x13.toInt = 0))
    (z19 : (-1 ≤ (aI (G.2.1 (F a 10)) (10 * l4_3.toInt + 0)) ∧ (aI (G.2.1 (F a 10)) (10 * l4_3.toInt + 0)) ≤ 5) ∧ (0 ≤ (aI (G.2.1 (F a 10)) (10 * l4_3.toInt + 1)) ∧ (aI (G.2.1 (F a 10)) (10 * l4_3.toInt + 1)) ≤ 2) ∧ (0 ≤ (aI (G.2.1 (F a 10)) (10 * l4_3.toInt + 2)) ∧ (aI (G.2.1 (F a 10)) (10 * l4_3.toInt + 2)) ≤ 2) ∧ (-1 ≤ (aI (G.2.1 (F a 10)) (10 * l4_3.toInt + 3)) ∧ (aI (G.2.1 (F a 10)) (10 * l4_3.toInt + 3)) ≤ 2) ∧ ((aI (G.2.1 (F a 10)) (10 * l4_3.toInt + 0)) = 1 ∨ (aI (G.2.1 (F a 10)) (10 * l4_3.toInt + 0)) = 3 ∨ (aI (G.2.1 (F a 10)) (10 * l4_3.toInt + 0)) = 4 → 0 ≤ (aI (G.2.1 (F a 10)) (10 * l4_3.toInt + 3))))
    (z19a : (((aI (G.2.1 (F a 10)) (10 * l4_3.toInt + 0)) = 2 ∨ (aI (G.2.1 (F a 10)) (10 * l4_3.toInt + 0)) = 4 ∨ (aI (G.2.1 (F a 10)) (10 * l4_3.toInt + 0)) = 5) ∧ (sF (aI (G.2.1 (F a 10)) (10 * l4_3.toInt + 0))) = 0 ∧ (sL (aI (G.2.1 (F a 10)) (10 * l4_3.toInt + 0))) = 29) ∨ (¬ ((aI (G.2.1 (F a 10)) (10 * l4_3.toInt + 0)) = 2 ∨ (aI (G.2.1 (F a 10)) (10 * l4_3.toInt + 0)) = 4 ∨ (aI (G.2.1 (F a 10)) (10 * l4_3.toInt + 0)) = 5) ∧ (sF (aI (G.2.1 (F a 10)) (10 * l4_3.toInt + 0))) = -99 ∧ (sL (aI (G.2.1 (F a 10)) (10 * l4_3.toInt + 0))) = 99)) :
    ∀ s : Int, sF (aI (G.2.1 (F a 10)) (10 * l4_3.toInt + 0)) ≤ s → s < (sF (aI (G.2.1 (F a 10)) (10 * l4_3.toInt + 0))) → aI (G_3.2.1 p0) (199 * l4_3.toInt + s + 99) = stt (mw (G.2.1 p1) (p2.toInt)) (aI (G.2.1 (F a 10)) (10 * l4_3.toInt + 0)) (aI (G.2.1 (F a 10)) (10 * l4_3.toInt + 1)) (aI (G.2.1 (F a 10)) (10 * l4_3.toInt + 2)) (aI (G.2.1 (F a 10)) (10 * l4_3.toInt + 3)) (s) := by
  intro s h1 h2; exact absurd h1 (by omega)
theorem v_X11_layStates_1_15 {K : Nat → Nat} {F : Nat → Nat → Nat} (a : Nat) (p0 : Nat) (G : XG) (p1 : Nat) (p2 : Int32)
    (ha : K a = 13)
    (hp0 : K p0 = 38)
    (f6 : 0 ≤ p2.toInt ∧ p2.toInt ≤ 2520) :
    LSt (G.2.1 (F a 10)) (G.2.1 p0) (mw (G.2.1 p1) (p2.toInt)) (0 : Int) := by
  intro q s h1 h2; exact absurd h1 (by omega)
theorem v_X11_layStates_1_16 (G : XG) :
    G.2.2.2 = G.2.2.2 := by
  rfl
theorem v_X11_layOrder_97_1 {K : Nat → Nat} {F : Nat → Nat → Nat} (a : Nat) (G : XG) (G_7 : XG) (l1_7 : Int32) (N7 : Nat)
    (ha : K a = 13)
    (po : ORm (G.2.1 (F a 10)) (G_7.2.1 (F a 15)) ((G_7.1 a 16).toInt) (l1_7.toInt).toNat)
    (lo : G_7.2.2.2 = G.2.2.2)
    (I7_0 : 0 ≤ l1_7.toInt ∧ l1_7.toInt ≤ 12)
    (I7_1 : 0 ≤ ((G_7.1 a 16).toInt) ∧ ((G_7.1 a 16).toInt) ≤ l1_7.toInt)
    (I7_2 : (0 : Int) ≤ l1_7.toInt)
    (hm7 : 2147483648 - l1_7.toInt < (((N7) + 1 : Nat) : Int))
    (c10 : (12 : Int) ≤ l1_7.toInt) :
    ORm (G.2.1 (F a 10)) (G_7.2.1 (F a 15)) ((G_7.1 a 16).toInt) 12 := by
  have e : l1_7.toInt.toNat = 12 := by omega
  rw [e] at po
  exact po
theorem v_X11_layOrder_97_2 (G : XG) (G_7 : XG)
    (lo : G_7.2.2.2 = G.2.2.2) :
    G_7.2.2.2 = G.2.2.2 := by
  exact lo
theorem v_X11_layOrder_94_3 {K : Nat → Nat} {F : Nat → Nat → Nat} (a : Nat) (G : XG) (G_7 : XG) (l1_7 : Int32) (N7 : Nat) (x15 : Int32)
    (ha : K a = 13)
    (po : ORm (G.2.1 (F a 10)) (G_7.2.1 (F a 15)) ((G_7.1 a 16).toInt) (l1_7.toInt).toNat)
    (lo : G_7.2.2.2 = G.2.2.2)
    (I7_0 : 0 ≤ l1_7.toInt ∧ l1_7.toInt ≤ 12)
    (I7_1 : 0 ≤ ((G_7.1 a 16).toInt) ∧ ((G_7.1 a 16).toInt) ≤ l1_7.toInt)
    (I7_2 : (0 : Int) ≤ l1_7.toInt)
    (hm7 : 2147483648 - l1_7.toInt < (((N7) + 1 : Nat) : Int))
    (c10 : ¬ ((12 : Int) ≤ l1_7.toInt))
    (t15 : (x15.toInt = 1 ∧ 0 ≤ l1_7.toInt ∧ l1_7.toInt ≤ 11 ∧ (aI (G.2.1 (F a 10)) (10 * l1_7.toInt + 0)) ≠ -1) ∨ (x15.toInt = 0 ∧ (¬ (0 ≤ l1_7.toInt ∧ l1_7.toInt ≤ 11) ∨ (aI (G.2.1 (F a 10)) (10 * l1_7.toInt + 0)) = -1)))
    (c18 : x15.toInt = 0) :
    ORm (G.2.1 (F a 10)) (G_7.2.1 (F a 15)) ((G_7.1 a 16).toInt) (l1_7.toInt + 1).toNat := by
  have e : (l1_7.toInt + 1).toNat = l1_7.toInt.toNat + 1 := by omega
  have e1 : ((l1_7.toInt.toNat : Nat) : Int) = l1_7.toInt := by omega
  rw [e]
  first
    | exact po.skip (by rw [e1]; omega)
    | (have key : posR (fun j => aI (G.2.1 (F a 10)) (10 * (G_7.2.1 (F a 15) j).toInt + 7)) (aI (G.2.1 (F a 10)) (10 * l1_7.toInt + 7)) l2_26.toInt.toNat = l2_26.toInt.toNat := by
         first
           | (have e5 : l2_26.toInt.toNat = 0 := by omega
              rw [e5]; rfl)
           | (have e5 : l2_26.toInt.toNat = (l2_26.toInt - 1).toNat + 1 := by omega
              rw [e5, posR_here]
              have e3 : aI (G_7.2.1 (F a 15)) (l2_26.toInt - 1) = (G_7.2.1 (F a 15) (l2_26.toInt - 1).toNat).toInt := rfl
              rw [← e3, ← z39.2]
              omega)
       have e4 : l2_26.toNatClampNeg = l2_26.toInt.toNat := rfl
       have hg := shf_ins (g2 := G88.2.1 (F a 15)) (x := l1_7) ps (by rw [c_G88_F_a_15, cput_j hG80, e4, if_pos rfl]) (fun j hj => by rw [c_G88_F_a_15, cput_j hG80, e4, if_neg hj])
       exact po.step (by rw [e1]; omega) e1.symm (by omega) (by rw [e1, ← pp, key]) (fun i hi => hg i (by omega)))
theorem v_X11_layOrder_94_4 (G : XG) (G_7 : XG)
    (lo : G_7.2.2.2 = G.2.2.2) :
    G_7.2.2.2 = G.2.2.2 := by
  first
    | exact lo
    | (rw [hG88, hG80]; exact lo)
theorem v_X11_layOrder_94_5 {K : Nat → Nat} {F : Nat → Nat → Nat} (a : Nat) (G : XG) (G_7 : XG) (G_26 : XG) (G80 : XG) (l2_26 : Int32) (l1_7 : Int32) (G88 : XG) (N7 : Nat) (x15 : Int32) (N26 : Nat)
    (ha : K a = 13)
    (hG80 : G80 = cput G_26 (F a 15) l2_26.toNatClampNeg l1_7)
    (po : ORm (G.2.1 (F a 10)) (G_7.2.1 (F a 15)) ((G_7.1 a 16).toInt) (l1_7.toInt).toNat)
    (lo : G_26.2.2.2 = G.2.2.2)
    (ps : shf (G_7.2.1 (F a 15)) (G_26.2.1 (F a 15)) (l2_26.toInt).toNat ((G_7.1 a 16).toInt).toNat)
    (pp : posR (fun j => aI (G.2.1 (F a 10)) (10 * (G_7.2.1 (F a 15) j).toInt + 7)) (aI (G.2.1 (F a 10)) (10 * l1_7.toInt + 7)) (l2_26.toInt).toNat = posR (fun j => aI (G.2.1 (F a 10)) (10 * (G_7.2.1 (F a 15) j).toInt + 7)) (aI (G.2.1 (F a 10)) (10 * l1_7.toInt + 7)) ((G_7.1 a 16).toInt).toNat)
    (I7_0 : 0 ≤ l1_7.toInt ∧ l1_7.toInt ≤ 12)
    (I7_1 : 0 ≤ ((G_7.1 a 16).toInt) ∧ ((G_7.1 a 16).toInt) ≤ l1_7.toInt)
    (I7_2 : (0 : Int) ≤ l1_7.toInt)
    (hm7 : 2147483648 - l1_7.toInt < (((N7) + 1 : Nat) : Int))
    (c10 : ¬ ((12 : Int) ≤ l1_7.toInt))
    (t15 : (x15.toInt = 1 ∧ 0 ≤ l1_7.toInt ∧ l1_7.toInt ≤ 11 ∧ (aI (G.2.1 (F a 10)) (10 * l1_7.toInt + 0)) ≠ -1) ∨ (x15.toInt = 0 ∧ (¬ (0 ≤ l1_7.toInt ∧ l1_7.toInt ≤ 11) ∨ (aI (G.2.1 (F a 10)) (10 * l1_7.toInt + 0)) = -1)))
    (c18 : ¬ (x15.toInt = 0))
    (I26_0 : 0 ≤ l2_26.toInt ∧ l2_26.toInt ≤ ((G_7.1 a 16).toInt))
    (hm26 : l2_26.toInt + 1 < (((N26) + 1 : Nat) : Int))
    (c27 : l2_26.toInt ≤ 0)
    (c_G88_F_a_15 : G88.2.1 (F a 15) = G80.2.1 (F a 15)) :
    ORm (G.2.1 (F a 10)) (G88.2.1 (F a 15)) (((G_7.1 a 16).toInt) + (1 : Int)) (l1_7.toInt + 1).toNat := by
  have e : (l1_7.toInt + 1).toNat = l1_7.toInt.toNat + 1 := by omega
  have e1 : ((l1_7.toInt.toNat : Nat) : Int) = l1_7.toInt := by omega
  rw [e]
  first
    | exact po.skip (by rw [e1]; omega)
    | (have key : posR (fun j => aI (G.2.1 (F a 10)) (10 * (G_7.2.1 (F a 15) j).toInt + 7)) (aI (G.2.1 (F a 10)) (10 * l1_7.toInt + 7)) l2_26.toInt.toNat = l2_26.toInt.toNat := by
         first
           | (have e5 : l2_26.toInt.toNat = 0 := by omega
              rw [e5]; rfl)
           | (have e5 : l2_26.toInt.toNat = (l2_26.toInt - 1).toNat + 1 := by omega
              rw [e5, posR_here]
              have e3 : aI (G_7.2.1 (F a 15)) (l2_26.toInt - 1) = (G_7.2.1 (F a 15) (l2_26.toInt - 1).toNat).toInt := rfl
              rw [← e3, ← z39.2]
              omega)
       have e4 : l2_26.toNatClampNeg = l2_26.toInt.toNat := rfl
       have hg := shf_ins (g2 := G88.2.1 (F a 15)) (x := l1_7) ps (by rw [c_G88_F_a_15, cput_j hG80, e4, if_pos rfl]) (fun j hj => by rw [c_G88_F_a_15, cput_j hG80, e4, if_neg hj])
       exact po.step (by rw [e1]; omega) e1.symm (by omega) (by rw [e1, ← pp, key]) (fun i hi => hg i (by omega)))
theorem v_X11_layOrder_94_6 {F : Nat → Nat → Nat} (a : Nat) (G : XG) (G_26 : XG) (G80 : XG) (l2_26 : Int32) (l1_7 : Int32) (G88 : XG) (x87 : Int32)
    (hG80 : G80 = cput G_26 (F a 15) l2_26.toNatClampNeg l1_7)
    (hG88 : G88 = dput G80 a 16 x87)
    (lo : G_26.2.2.2 = G.2.2.2) :
    G88.2.2.2 = G.2.2.2 := by
  first
    | exact lo
    | (rw [hG88, hG80]; exact lo)
theorem v_X11_layOrder_94_7 {K : Nat → Nat} {F : Nat → Nat → Nat} (a : Nat) (G : XG) (G_7 : XG) (G_26 : XG) (G80 : XG) (l2_26 : Int32) (l1_7 : Int32) (G88 : XG) (N7 : Nat) (x15 : Int32) (N26 : Nat)
    (ha : K a = 13)
    (hG80 : G80 = cput G_26 (F a 15) l2_26.toNatClampNeg l1_7)
    (po : ORm (G.2.1 (F a 10)) (G_7.2.1 (F a 15)) ((G_7.1 a 16).toInt) (l1_7.toInt).toNat)
    (lo : G_26.2.2.2 = G.2.2.2)
    (ps : shf (G_7.2.1 (F a 15)) (G_26.2.1 (F a 15)) (l2_26.toInt).toNat ((G_7.1 a 16).toInt).toNat)
    (pp : posR (fun j => aI (G.2.1 (F a 10)) (10 * (G_7.2.1 (F a 15) j).toInt + 7)) (aI (G.2.1 (F a 10)) (10 * l1_7.toInt + 7)) (l2_26.toInt).toNat = posR (fun j => aI (G.2.1 (F a 10)) (10 * (G_7.2.1 (F a 15) j).toInt + 7)) (aI (G.2.1 (F a 10)) (10 * l1_7.toInt + 7)) ((G_7.1 a 16).toInt).toNat)
    (I7_0 : 0 ≤ l1_7.toInt ∧ l1_7.toInt ≤ 12)
    (I7_1 : 0 ≤ ((G_7.1 a 16).toInt) ∧ ((G_7.1 a 16).toInt) ≤ l1_7.toInt)
    (I7_2 : (0 : Int) ≤ l1_7.toInt)
    (hm7 : 2147483648 - l1_7.toInt < (((N7) + 1 : Nat) : Int))
    (c10 : ¬ ((12 : Int) ≤ l1_7.toInt))
    (t15 : (x15.toInt = 1 ∧ 0 ≤ l1_7.toInt ∧ l1_7.toInt ≤ 11 ∧ (aI (G.2.1 (F a 10)) (10 * l1_7.toInt + 0)) ≠ -1) ∨ (x15.toInt = 0 ∧ (¬ (0 ≤ l1_7.toInt ∧ l1_7.toInt ≤ 11) ∨ (aI (G.2.1 (F a 10)) (10 * l1_7.toInt + 0)) = -1)))
    (c18 : ¬ (x15.toInt = 0))
    (I26_0 : 0 ≤ l2_26.toInt ∧ l2_26.toInt ≤ ((G_7.1 a 16).toInt))
    (hm26 : l2_26.toInt + 1 < (((N26) + 1 : Nat) : Int))
    (c27 : ¬ (l2_26.toInt ≤ 0))
    (z39 : (0 ≤ (aI (G_26.2.1 (F a 15)) (l2_26.toInt - 1)) ∧ (aI (G_26.2.1 (F a 15)) (l2_26.toInt - 1)) ≤ 11) ∧ (aI (G_26.2.1 (F a 15)) (l2_26.toInt - 1)) = (aI (G_7.2.1 (F a 15)) (l2_26.toInt - 1)))
    (c51 : (aI (G.2.1 (F a 10)) (10 * (aI (G_26.2.1 (F a 15)) (l2_26.toInt - 1)) + 7)) ≤ (aI (G.2.1 (F a 10)) (10 * l1_7.toInt + 7)))
    (c_G88_F_a_15 : G88.2.1 (F a 15) = G80.2.1 (F a 15)) :
    ORm (G.2.1 (F a 10)) (G88.2.1 (F a 15)) (((G_7.1 a 16).toInt) + (1 : Int)) (l1_7.toInt + 1).toNat := by
  have e : (l1_7.toInt + 1).toNat = l1_7.toInt.toNat + 1 := by omega
  have e1 : ((l1_7.toInt.toNat : Nat) : Int) = l1_7.toInt := by omega
  rw [e]
  first
    | exact po.skip (by rw [e1]; omega)
    | (have key : posR (fun j => aI (G.2.1 (F a 10)) (10 * (G_7.2.1 (F a 15) j).toInt + 7)) (aI (G.2.1 (F a 10)) (10 * l1_7.toInt + 7)) l2_26.toInt.toNat = l2_26.toInt.toNat := by
         first
           | (have e5 : l2_26.toInt.toNat = 0 := by omega
              rw [e5]; rfl)
           | (have e5 : l2_26.toInt.toNat = (l2_26.toInt - 1).toNat + 1 := by omega
              rw [e5, posR_here]
              have e3 : aI (G_7.2.1 (F a 15)) (l2_26.toInt - 1) = (G_7.2.1 (F a 15) (l2_26.toInt - 1).toNat).toInt := rfl
              rw [← e3, ← z39.2]
              omega)
       have e4 : l2_26.toNatClampNeg = l2_26.toInt.toNat := rfl
       have hg := shf_ins (g2 := G88.2.1 (F a 15)) (x := l1_7) ps (by rw [c_G88_F_a_15, cput_j hG80, e4, if_pos rfl]) (fun j hj => by rw [c_G88_F_a_15, cput_j hG80, e4, if_neg hj])
       exact po.step (by rw [e1]; omega) e1.symm (by omega) (by rw [e1, ← pp, key]) (fun i hi => hg i (by omega)))
theorem v_X11_layOrder_94_8 {F : Nat → Nat → Nat} (a : Nat) (G : XG) (G_26 : XG) (G80 : XG) (l2_26 : Int32) (l1_7 : Int32) (G88 : XG) (x87 : Int32)
    (hG80 : G80 = cput G_26 (F a 15) l2_26.toNatClampNeg l1_7)
    (hG88 : G88 = dput G80 a 16 x87)
    (lo : G_26.2.2.2 = G.2.2.2) :
    G88.2.2.2 = G.2.2.2 := by
  first
    | exact lo
    | (rw [hG88, hG80]; exact lo)
theorem v_X11_layOrder_71_9 {F : Nat → Nat → Nat} (a : Nat) (G : XG) (G_26 : XG) (G67 : XG) (l2_26 : Int32) (x66 : Int32)
    (hG67 : G67 = cput G_26 (F a 15) l2_26.toNatClampNeg x66)
    (lo : G_26.2.2.2 = G.2.2.2) :
    G67.2.2.2 = G.2.2.2 := by
  rw [hG67]; exact lo
theorem v_X11_layOrder_71_10 {K : Nat → Nat} {F : Nat → Nat → Nat} (a : Nat) (G : XG) (G_7 : XG) (G_26 : XG) (G67 : XG) (l2_26 : Int32) (x66 : Int32) (l1_7 : Int32) (N7 : Nat) (x15 : Int32) (N26 : Nat)
    (ha : K a = 13)
    (hG67 : G67 = cput G_26 (F a 15) l2_26.toNatClampNeg x66)
    (lo : G_26.2.2.2 = G.2.2.2)
    (ps : shf (G_7.2.1 (F a 15)) (G_26.2.1 (F a 15)) (l2_26.toInt).toNat ((G_7.1 a 16).toInt).toNat)
    (pp : posR (fun j => aI (G.2.1 (F a 10)) (10 * (G_7.2.1 (F a 15) j).toInt + 7)) (aI (G.2.1 (F a 10)) (10 * l1_7.toInt + 7)) (l2_26.toInt).toNat = posR (fun j => aI (G.2.1 (F a 10)) (10 * (G_7.2.1 (F a 15) j).toInt + 7)) (aI (G.2.1 (F a 10)) (10 * l1_7.toInt + 7)) ((G_7.1 a 16).toInt).toNat)
    (hv66 : x66.toInt = (aI (G_26.2.1 (F a 15)) (l2_26.toInt - 1)))
    (I7_0 : 0 ≤ l1_7.toInt ∧ l1_7.toInt ≤ 12)
    (I7_1 : 0 ≤ ((G_7.1 a 16).toInt) ∧ ((G_7.1 a 16).toInt) ≤ l1_7.toInt)
    (I7_2 : (0 : Int) ≤ l1_7.toInt)
    (hm7 : 2147483648 - l1_7.toInt < (((N7) + 1 : Nat) : Int))
    (c10 : ¬ ((12 : Int) ≤ l1_7.toInt))
    (t15 : (x15.toInt = 1 ∧ 0 ≤ l1_7.toInt ∧ l1_7.toInt ≤ 11 ∧ (aI (G.2.1 (F a 10)) (10 * l1_7.toInt + 0)) ≠ -1) ∨ (x15.toInt = 0 ∧ (¬ (0 ≤ l1_7.toInt ∧ l1_7.toInt ≤ 11) ∨ (aI (G.2.1 (F a 10)) (10 * l1_7.toInt + 0)) = -1)))
    (c18 : ¬ (x15.toInt = 0))
    (I26_0 : 0 ≤ l2_26.toInt ∧ l2_26.toInt ≤ ((G_7.1 a 16).toInt))
    (hm26 : l2_26.toInt + 1 < (((N26) + 1 : Nat) : Int))
    (c27 : ¬ (l2_26.toInt ≤ 0))
    (z39 : (0 ≤ (aI (G_26.2.1 (F a 15)) (l2_26.toInt - 1)) ∧ (aI (G_26.2.1 (F a 15)) (l2_26.toInt - 1)) ≤ 11) ∧ (aI (G_26.2.1 (F a 15)) (l2_26.toInt - 1)) = (aI (G_7.2.1 (F a 15)) (l2_26.toInt - 1)))
    (c51 : ¬ ((aI (G.2.1 (F a 10)) (10 * (aI (G_26.2.1 (F a 15)) (l2_26.toInt - 1)) + 7)) ≤ (aI (G.2.1 (F a 10)) (10 * l1_7.toInt + 7)))) :
    shf (G_7.2.1 (F a 15)) (G67.2.1 (F a 15)) (l2_26.toInt + (-1)).toNat ((G_7.1 a 16).toInt).toNat := by
  have e : l2_26.toInt.toNat = (l2_26.toInt + -1).toNat + 1 := by omega
  have e4 : l2_26.toNatClampNeg = l2_26.toInt.toNat := rfl
  refine shf_s (g := G_26.2.1 (F a 15)) (by rw [← e]; exact ps) ?_ (fun i hi => ?_)
  · rw [cput_j hG67, e4, if_pos e.symm]
    apply Int32.toInt_inj.mp
    rw [hv66]
    show (G_26.2.1 (F a 15) (l2_26.toInt - 1).toNat).toInt = _
    rw [show (l2_26.toInt - 1).toNat = (l2_26.toInt + -1).toNat from by omega]
  · rw [cput_j hG67, e4, if_neg (by omega)]
theorem v_X11_layOrder_71_11 {K : Nat → Nat} {F : Nat → Nat → Nat} (a : Nat) (G : XG) (G_7 : XG) (G_26 : XG) (l2_26 : Int32) (l1_7 : Int32) (N7 : Nat) (x15 : Int32) (N26 : Nat)
    (ha : K a = 13)
    (lo : G_26.2.2.2 = G.2.2.2)
    (ps : shf (G_7.2.1 (F a 15)) (G_26.2.1 (F a 15)) (l2_26.toInt).toNat ((G_7.1 a 16).toInt).toNat)
    (pp : posR (fun j => aI (G.2.1 (F a 10)) (10 * (G_7.2.1 (F a 15) j).toInt + 7)) (aI (G.2.1 (F a 10)) (10 * l1_7.toInt + 7)) (l2_26.toInt).toNat = posR (fun j => aI (G.2.1 (F a 10)) (10 * (G_7.2.1 (F a 15) j).toInt + 7)) (aI (G.2.1 (F a 10)) (10 * l1_7.toInt + 7)) ((G_7.1 a 16).toInt).toNat)
    (I7_0 : 0 ≤ l1_7.toInt ∧ l1_7.toInt ≤ 12)
    (I7_1 : 0 ≤ ((G_7.1 a 16).toInt) ∧ ((G_7.1 a 16).toInt) ≤ l1_7.toInt)
    (I7_2 : (0 : Int) ≤ l1_7.toInt)
    (hm7 : 2147483648 - l1_7.toInt < (((N7) + 1 : Nat) : Int))
    (c10 : ¬ ((12 : Int) ≤ l1_7.toInt))
    (t15 : (x15.toInt = 1 ∧ 0 ≤ l1_7.toInt ∧ l1_7.toInt ≤ 11 ∧ (aI (G.2.1 (F a 10)) (10 * l1_7.toInt + 0)) ≠ -1) ∨ (x15.toInt = 0 ∧ (¬ (0 ≤ l1_7.toInt ∧ l1_7.toInt ≤ 11) ∨ (aI (G.2.1 (F a 10)) (10 * l1_7.toInt + 0)) = -1)))
    (c18 : ¬ (x15.toInt = 0))
    (I26_0 : 0 ≤ l2_26.toInt ∧ l2_26.toInt ≤ ((G_7.1 a 16).toInt))
    (hm26 : l2_26.toInt + 1 < (((N26) + 1 : Nat) : Int))
    (c27 : ¬ (l2_26.toInt ≤ 0))
    (z39 : (0 ≤ (aI (G_26.2.1 (F a 15)) (l2_26.toInt - 1)) ∧ (aI (G_26.2.1 (F a 15)) (l2_26.toInt - 1)) ≤ 11) ∧ (aI (G_26.2.1 (F a 15)) (l2_26.toInt - 1)) = (aI (G_7.2.1 (F a 15)) (l2_26.toInt - 1)))
    (c51 : ¬ ((aI (G.2.1 (F a 10)) (10 * (aI (G_26.2.1 (F a 15)) (l2_26.toInt - 1)) + 7)) ≤ (aI (G.2.1 (F a 10)) (10 * l1_7.toInt + 7)))) :
    posR (fun j => aI (G.2.1 (F a 10)) (10 * (G_7.2.1 (F a 15) j).toInt + 7)) (aI (G.2.1 (F a 10)) (10 * l1_7.toInt + 7)) (l2_26.toInt + (-1)).toNat = posR (fun j => aI (G.2.1 (F a 10)) (10 * (G_7.2.1 (F a 15) j).toInt + 7)) (aI (G.2.1 (F a 10)) (10 * l1_7.toInt + 7)) ((G_7.1 a 16).toInt).toNat := by
  have e : l2_26.toInt.toNat = (l2_26.toInt + -1).toNat + 1 := by omega
  rw [← pp, e, posR_up]
  have e3 : aI (G_7.2.1 (F a 15)) (l2_26.toInt - 1) = (G_7.2.1 (F a 15) (l2_26.toInt + -1).toNat).toInt := by show (G_7.2.1 (F a 15) (l2_26.toInt - 1).toNat).toInt = _; rw [show (l2_26.toInt - 1).toNat = (l2_26.toInt + -1).toNat from by omega]
  rw [← e3, ← z39.2]
  omega
theorem v_X11_layOrder_25_12 (G : XG) (G_7 : XG)
    (lo : G_7.2.2.2 = G.2.2.2) :
    G_7.2.2.2 = G.2.2.2 := by
  exact lo
theorem v_X11_layOrder_25_13 {F : Nat → Nat → Nat} (a : Nat) (G_7 : XG) :
    shf (G_7.2.1 (F a 15)) (G_7.2.1 (F a 15)) (((G_7.1 a 16).toInt)).toNat ((G_7.1 a 16).toInt).toNat := by
  exact shf_0 _ _
theorem v_X11_layOrder_25_14 {F : Nat → Nat → Nat} (a : Nat) (G : XG) (G_7 : XG) (l1_7 : Int32) :
    posR (fun j => aI (G.2.1 (F a 10)) (10 * (G_7.2.1 (F a 15) j).toInt + 7)) (aI (G.2.1 (F a 10)) (10 * l1_7.toInt + 7)) (((G_7.1 a 16).toInt)).toNat = posR (fun j => aI (G.2.1 (F a 10)) (10 * (G_7.2.1 (F a 15) j).toInt + 7)) (aI (G.2.1 (F a 10)) (10 * l1_7.toInt + 7)) ((G_7.1 a 16).toInt).toNat := by
  rfl
theorem v_X11_layOrder_6_15 {F : Nat → Nat → Nat} (a : Nat) (G2 : XG) (G : XG) :
    ORm (G.2.1 (F a 10)) (G2.2.1 (F a 15)) (0 : Int) (0 : Int).toNat := by
  exact ⟨rfl, fun i hi => absurd hi (Nat.not_lt_zero i)⟩
theorem v_X11_layOrder_6_16 (a : Nat) (G2 : XG) (G : XG)
    (hG2 : G2 = dput G a 16 0) :
    G2.2.2.2 = G.2.2.2 := by
  rw [hG2]; rfl
