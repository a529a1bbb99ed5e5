theorem v_X11_commit_20_1 {F : Nat → Nat → Nat} (a : Nat) (G : XG) (G6 : XG)
    (hR : RV (G.2.1 (F a 10)))
    (c_G6_F_a_10 : G6.2.1 (F a 10) = G.2.1 (F a 10)) :
    RV (G6.2.1 (F a 10)) := by simp only [c_G6_F_a_10]; assumption
theorem v_X11_commit_20_2 {F : Nat → Nat → Nat} (a : Nat) (G : XG) (G6 : XG)
    (hM : RM (G.2.1 (F a 1)) (0))
    (hB : RM (G.2.1 (F a 2)) 0)
    (c_G6_F_a_1 : G6.2.1 (F a 1) = G.2.1 (F a 1)) :
    RM (G6.2.1 (F a 1)) (0) := by simp only [c_G6_F_a_1]; assumption
theorem v_X11_commit_20_3 {F : Nat → Nat → Nat} (a : Nat) (G : XG) (G6 : XG)
    (hM : RM (G.2.1 (F a 1)) (0))
    (hB : RM (G.2.1 (F a 2)) 0)
    (c_G6_F_a_2 : G6.2.1 (F a 2) = G.2.1 (F a 2)) :
    RM (G6.2.1 (F a 2)) 0 := by simp only [c_G6_F_a_2]; assumption
theorem v_X11_commit_23_4 {K : Nat → Nat} {F : Nat → Nat → Nat} (a : Nat) (G : XG) (G6 : XG) (G20 : XG)
    (ha : K a = 13)
    (oq20 : pL G20 F a = if ((G.1 a 6).toInt) = 0 then [] else fuO (G.2.1 (F a 10)) (mw (G.2.1 (F a 1)) 0) (mw (G.2.1 (F a 2)) 0) 1)
    (oq20a : ((G.1 a 6).toInt) ≠ 0 → LSt (G.2.1 (F a 10)) (G20.2.1 (F a 11)) (mw (G.2.1 (F a 1)) 0) 12 ∧ LSt (G.2.1 (F a 10)) (G20.2.1 (F a 13)) (mw (G.2.1 (F a 2)) 0) 12)
    (oq20b : G20.2.2.2 = G6.2.2.2)
    (am : 0 ≤ ((G.1 a 43).toInt) ∧ ((G.1 a 43).toInt) ≤ 2388)
    (t6 : ((G6.1 a 20).toInt) = -2147483648 ∧ ((G6.1 a 21).toInt) = -2147483648 ∧ ((G6.1 a 23).toInt) = 0)
    (f36 : ((G.1 a 6).toInt) = 0 ∨ ((G.1 a 6).toInt) = 1)
    (c13 : ((G.1 a 6).toInt) ≠ 0)
    (t20 : 0 ≤ ((G20.1 a 19).toInt) ∧ ((G20.1 a 19).toInt) ≤ 2388) :
    PV (G.2.1 (F a 10)) (pL G20 F a) := by
  rw [oq20, if_neg (by omega)]; exact fuO_pv _ _ _ _
theorem v_X11_commit_25_5 {F : Nat → Nat → Nat} (a : Nat) (G : XG) (G20 : XG)
    (hR : RV (G.2.1 (F a 10)))
    (c_G20_F_a_10 : G20.2.1 (F a 10) = G.2.1 (F a 10)) :
    RV (G20.2.1 (F a 10)) := by simp only [c_G20_F_a_10]; assumption
theorem v_X11_commit_25_6 {F : Nat → Nat → Nat} (a : Nat) (G : XG) (G20 : XG)
    (hM : RM (G.2.1 (F a 1)) (0))
    (hB : RM (G.2.1 (F a 2)) 0)
    (c_G20_F_a_1 : G20.2.1 (F a 1) = G.2.1 (F a 1)) :
    RM (G20.2.1 (F a 1)) (0) := by simp only [c_G20_F_a_1]; assumption
theorem v_X11_commit_25_7 {F : Nat → Nat → Nat} (a : Nat) (G : XG) (G20 : XG)
    (hv20 : PV (G.2.1 (F a 10)) (pL G20 F a))
    (c_G20_F_a_10 : G20.2.1 (F a 10) = G.2.1 (F a 10)) :
    PV (G20.2.1 (F a 10)) (pL G20 F a) := by
  first | exact hv20 | (simp only [c_G20_F_a_10]; exact hv20)
theorem v_X11_commit_110_8 {K : Nat → Nat} {F : Nat → Nat → Nat} (a : Nat) (G : XG) (G6 : XG) (G20 : XG) (G28 : XG) (x25 : Int32) (G32 : XG) (G105 : XG)
    (ha : K a = 13)
    (oq20 : pL G20 F a = if ((G.1 a 6).toInt) = 0 then [] else fuO (G.2.1 (F a 10)) (mw (G.2.1 (F a 1)) 0) (mw (G.2.1 (F a 2)) 0) 1)
    (oq20a : ((G.1 a 6).toInt) ≠ 0 → LSt (G.2.1 (F a 10)) (G20.2.1 (F a 11)) (mw (G.2.1 (F a 1)) 0) 12 ∧ LSt (G.2.1 (F a 10)) (G20.2.1 (F a 13)) (mw (G.2.1 (F a 2)) 0) 12)
    (oq20b : G20.2.2.2 = G6.2.2.2)
    (oq25 : x25.toInt = ffP (G.2.1 (F a 10)) (mw (G.2.1 (F a 1)) 0) (pL G20 F a))
    (oq32 : ((G28.1 a 46).toInt) < ((G20.1 a 19).toInt) → aL G32 F a = (pL G28 F a).take ((G32.1 a 43).toInt).toNat)
    (am : 0 ≤ ((G.1 a 43).toInt) ∧ ((G.1 a 43).toInt) ≤ 2388)
    (t6 : ((G6.1 a 20).toInt) = -2147483648 ∧ ((G6.1 a 21).toInt) = -2147483648 ∧ ((G6.1 a 23).toInt) = 0)
    (f44 : ((G.1 a 6).toInt) = 0 ∨ ((G.1 a 6).toInt) = 1)
    (c13 : ((G.1 a 6).toInt) ≠ 0)
    (t20 : 0 ≤ ((G20.1 a 19).toInt) ∧ ((G20.1 a 19).toInt) ≤ 2388)
    (t25 : -1 ≤ x25.toInt ∧ x25.toInt < ((G20.1 a 19).toInt))
    (t32 : 0 ≤ ((G32.1 a 43).toInt) ∧ ((G32.1 a 43).toInt) ≤ 2388 ∧ ((G32.1 a 44).toInt) = x25.toInt ∧ ((x25.toInt = -1 ∧ ((G32.1 a 43).toInt) = ((G20.1 a 19).toInt)) ∨ (x25.toInt ≠ -1 ∧ ((G32.1 a 43).toInt) = x25.toInt + 1)))
    (c45 : x25.toInt = (-1 : Int))
    (c_G105_F_a_1 : G105.2.1 (F a 1) = G.2.1 (F a 1)) :
    (((G.1 a 6).toInt) = 0 ∧ G105.2.1 (F a 1) = (G.2.1 (F a 1))) ∨ (((G.1 a 6).toInt) ≠ 0 ∧ ((ffP (G.2.1 (F a 10)) (mw (G.2.1 (F a 1)) 0) (fuO (G.2.1 (F a 10)) (mw (G.2.1 (F a 1)) 0) (mw (G.2.1 (F a 2)) 0) 1) ≠ -1 ∧ ((G32.1 a 43).toInt) = -5 ∧ mw (G105.2.1 (F a 1)) 0 = mw (G.2.1 (F a 2)) 0) ∨ (ffP (G.2.1 (F a 10)) (mw (G.2.1 (F a 1)) 0) (fuO (G.2.1 (F a 10)) (mw (G.2.1 (F a 1)) 0) (mw (G.2.1 (F a 2)) 0) 1) = -1 ∧ mw (G105.2.1 (F a 1)) 0 = (mw (G.2.1 (F a 1)) 0) ∧ ((G32.1 a 43).toInt) = (((fuO (G.2.1 (F a 10)) (mw (G.2.1 (F a 1)) 0) (mw (G.2.1 (F a 2)) 0) 1).length : Nat) : Int)))) := by
  have e := pL_len G20 F a
  rw [oq20, if_neg (by omega)] at e
  rw [oq20, if_neg (by omega)] at oq25
  exact Or.inr ⟨by omega, Or.inr ⟨by rw [← oq25]; omega, by rw [c_G105_F_a_1], by omega⟩⟩
theorem v_X11_commit_110_9 {F : Nat → Nat → Nat} (a : Nat) (G : XG) (G105 : XG)
    (hM : RM (G.2.1 (F a 1)) (0))
    (c_G105_F_a_1 : G105.2.1 (F a 1) = G.2.1 (F a 1)) :
    RM (G105.2.1 (F a 1)) 0 := by
  rw [c_G105_F_a_1]; exact hM
theorem v_X11_commit_80_10 {K : Nat → Nat} {F : Nat → Nat → Nat} (a : Nat) (G2 : XG) (G : XG) (G6 : XG) (G20 : XG) (G28 : XG) (x25 : Int32) (G32 : XG) (G37 : XG) (G67 : XG) (x57 : Int32) (x66 : Int32)
    (ha : K a = 13)
    (hk9999 : K (F a 15) = 42)
    (hj9999 : F (F a 15) 99 = 15)
    (hk9999a : K (F a 17) = 43)
    (hj9999a : F (F a 17) 99 = 17)
    (hk9999b : K (F a 18) = 44)
    (hj9999b : F (F a 18) 99 = 18)
    (hk9999c : K (F a 11) = 38)
    (hj9999c : F (F a 11) 99 = 11)
    (hk9999d : K (F a 13) = 38)
    (hj9999d : F (F a 13) 99 = 13)
    (hk9999e : K (F a 22) = 45)
    (hj9999e : F (F a 22) 99 = 22)
    (hk9999f : K (F a 41) = 53)
    (hj9999f : F (F a 41) 99 = 41)
    (hk9999g : K (F a 42) = 54)
    (hj9999g : F (F a 42) 99 = 42)
    (hk9999h : K (F a 9) = 36)
    (hj9999h : F (F a 9) 99 = 9)
    (hk9999i : K (F a 1) = 30)
    (hj9999i : F (F a 1) 99 = 1)
    (hk9999j : K (F a 10) = 37)
    (hj9999j : F (F a 10) 99 = 10)
    (hk9999k : K (F a 2) = 31)
    (hj9999k : F (F a 2) 99 = 2)
    (hG2 : G2 = dput G a 0 0)
    (hF6 : XFr [(a, 20), (a, 21), (a, 23)] [] [] G2 G6)
    (hF20 : XFr [(a, 16), (a, 19)] [F a 15, F a 17, F a 18, F a 11, F a 13] [] G6 G20)
    (hG28 : G28 = dput G20 a 46 x25)
    (hF32 : XFr [(a, 43), (a, 44)] [F a 41, F a 42, F a 9] [] G28 G32)
    (hG37 : G37 = dput G32 a 6 0)
    (hF67 : XFr [(a, 20), (a, 21), (a, 23)] [F a 22] [] G37 G67)
    (hR : RV (G.2.1 (F a 10)))
    (hM : RM (G.2.1 (F a 1)) (0))
    (hB : RM (G.2.1 (F a 2)) 0)
    (oq20 : pL G20 F a = if ((G.1 a 6).toInt) = 0 then [] else fuO (G.2.1 (F a 10)) (mw (G.2.1 (F a 1)) 0) (mw (G.2.1 (F a 2)) 0) 1)
    (oq20a : ((G.1 a 6).toInt) ≠ 0 → LSt (G.2.1 (F a 10)) (G20.2.1 (F a 11)) (mw (G.2.1 (F a 1)) 0) 12 ∧ LSt (G.2.1 (F a 10)) (G20.2.1 (F a 13)) (mw (G.2.1 (F a 2)) 0) 12)
    (oq20b : G20.2.2.2 = G6.2.2.2)
    (hv20 : PV (G.2.1 (F a 10)) (pL G20 F a))
    (oq25 : x25.toInt = ffP (G.2.1 (F a 10)) (mw (G.2.1 (F a 1)) 0) (pL G20 F a))
    (oq32 : ((G28.1 a 46).toInt) < ((G20.1 a 19).toInt) → aL G32 F a = (pL G28 F a).take ((G32.1 a 43).toInt).toNat)
    (hv57 : x57.toInt = (aI (G20.2.1 (F a 17)) (x25.toInt)))
    (hv66 : x66.toInt = (aI (G20.2.1 (F a 18)) (x25.toInt)))
    (am : 0 ≤ ((G.1 a 43).toInt) ∧ ((G.1 a 43).toInt) ≤ 2388)
    (t6 : ((G6.1 a 20).toInt) = -2147483648 ∧ ((G6.1 a 21).toInt) = -2147483648 ∧ ((G6.1 a 23).toInt) = 0)
    (f45 : ((G.1 a 6).toInt) = 0 ∨ ((G.1 a 6).toInt) = 1)
    (c13 : ((G.1 a 6).toInt) ≠ 0)
    (t20 : 0 ≤ ((G20.1 a 19).toInt) ∧ ((G20.1 a 19).toInt) ≤ 2388)
    (t25 : -1 ≤ x25.toInt ∧ x25.toInt < ((G20.1 a 19).toInt))
    (t32 : 0 ≤ ((G32.1 a 43).toInt) ∧ ((G32.1 a 43).toInt) ≤ 2388 ∧ ((G32.1 a 44).toInt) = x25.toInt ∧ ((x25.toInt = -1 ∧ ((G32.1 a 43).toInt) = ((G20.1 a 19).toInt)) ∨ (x25.toInt ≠ -1 ∧ ((G32.1 a 43).toInt) = x25.toInt + 1)))
    (c45 : ¬ (x25.toInt = (-1 : Int)))
    (z48 : (0 ≤ (aI (G20.2.1 (F a 17)) (x25.toInt)) ∧ (aI (G20.2.1 (F a 17)) (x25.toInt)) ≤ 11) ∧ (aI (G.2.1 (F a 10)) (10 * aI (G20.2.1 (F a 17)) (x25.toInt) + 0)) ≠ -1 ∧ ((sF (aI (G.2.1 (F a 10)) (10 * aI (G20.2.1 (F a 17)) (x25.toInt) + 0))) ≤ (aI (G20.2.1 (F a 18)) (x25.toInt)) ∧ (aI (G20.2.1 (F a 18)) (x25.toInt)) ≤ (sL (aI (G.2.1 (F a 10)) (10 * aI (G20.2.1 (F a 17)) (x25.toInt) + 0)))))
    (z48a : ((sF (aI (G.2.1 (F a 10)) (10 * aI (G20.2.1 (F a 17)) (x25.toInt) + 0))) = 0 ∨ (sF (aI (G.2.1 (F a 10)) (10 * aI (G20.2.1 (F a 17)) (x25.toInt) + 0))) = -99) ∧ ((sL (aI (G.2.1 (F a 10)) (10 * aI (G20.2.1 (F a 17)) (x25.toInt) + 0))) = 29 ∨ (sL (aI (G.2.1 (F a 10)) (10 * aI (G20.2.1 (F a 17)) (x25.toInt) + 0))) = 99))
    (t67 : ((G67.1 a 20).toInt) = (aI (G20.2.1 (F a 17)) (x25.toInt)) ∧ ((G67.1 a 21).toInt) = (aI (G20.2.1 (F a 18)) (x25.toInt)) ∧ 0 ≤ ((G67.1 a 23).toInt) ∧ ((G67.1 a 23).toInt) ≤ 24)
    (c_G6_F_a_1 : G6.2.1 (F a 1) = G.2.1 (F a 1))
    (c_G67_F_a_1 : G67.2.1 (F a 1) = G.2.1 (F a 1))
    (c_G67_F_a_11 : G67.2.1 (F a 11) = G20.2.1 (F a 11))
    (c_G67_F_a_13 : G67.2.1 (F a 13) = G20.2.1 (F a 13))
    (c_G67_F_a_15 : G67.2.1 (F a 15) = G20.2.1 (F a 15))
    (c_G67_F_a_17 : G67.2.1 (F a 17) = G20.2.1 (F a 17))
    (c_G67_F_a_18 : G67.2.1 (F a 18) = G20.2.1 (F a 18))
    (c_G67_F_a_2 : G67.2.1 (F a 2) = G.2.1 (F a 2))
    (c_G67_F_a_41 : G67.2.1 (F a 41) = G32.2.1 (F a 41))
    (c_G67_F_a_42 : G67.2.1 (F a 42) = G32.2.1 (F a 42))
    (c_G67_F_a_9 : G67.2.1 (F a 9) = G32.2.1 (F a 9))
    (d_G28_a_46 : G28.1 a 46 = x25)
    (d_G67_a_0 : G67.1 a 0 = 0)
    (d_G67_a_16 : G67.1 a 16 = G20.1 a 16)
    (d_G67_a_19 : G67.1 a 19 = G20.1 a 19)
    (d_G67_a_43 : G67.1 a 43 = G32.1 a 43)
    (d_G67_a_44 : G67.1 a 44 = G32.1 a 44)
    (d_G67_a_46 : G67.1 a 46 = x25)
    (d_G67_a_6 : G67.1 a 6 = 0) :
    (F a 2) ≠ (F a 1) := by
  intro e
  have h1 : K (F a 1) = 30 := by assumption
  have h2 : K (F a 2) = 31 := by assumption
  rw [← e, h2] at h1
  exact absurd h1 (by decide)
theorem v_X11_commit_95_11 {K : Nat → Nat} {F : Nat → Nat → Nat} (a : Nat) (G : XG) (G6 : XG) (G20 : XG) (G28 : XG) (x25 : Int32) (G32 : XG) (G67 : XG) (G80 : XG) (G92 : XG)
    (ha : K a = 13)
    (oq20 : pL G20 F a = if ((G.1 a 6).toInt) = 0 then [] else fuO (G.2.1 (F a 10)) (mw (G.2.1 (F a 1)) 0) (mw (G.2.1 (F a 2)) 0) 1)
    (oq20a : ((G.1 a 6).toInt) ≠ 0 → LSt (G.2.1 (F a 10)) (G20.2.1 (F a 11)) (mw (G.2.1 (F a 1)) 0) 12 ∧ LSt (G.2.1 (F a 10)) (G20.2.1 (F a 13)) (mw (G.2.1 (F a 2)) 0) 12)
    (oq20b : G20.2.2.2 = G6.2.2.2)
    (oq25 : x25.toInt = ffP (G.2.1 (F a 10)) (mw (G.2.1 (F a 1)) 0) (pL G20 F a))
    (oq32 : ((G28.1 a 46).toInt) < ((G20.1 a 19).toInt) → aL G32 F a = (pL G28 F a).take ((G32.1 a 43).toInt).toNat)
    (oq80 : CPd (G67.2.1 (F a 2)) (G67.2.1 (F a 1)) (G80.2.1 (F a 1)) (0 : Int) (0 : Int) 360)
    (am : 0 ≤ ((G.1 a 43).toInt) ∧ ((G.1 a 43).toInt) ≤ 2388)
    (t6 : ((G6.1 a 20).toInt) = -2147483648 ∧ ((G6.1 a 21).toInt) = -2147483648 ∧ ((G6.1 a 23).toInt) = 0)
    (f49 : ((G.1 a 6).toInt) = 0 ∨ ((G.1 a 6).toInt) = 1)
    (c13 : ((G.1 a 6).toInt) ≠ 0)
    (t20 : 0 ≤ ((G20.1 a 19).toInt) ∧ ((G20.1 a 19).toInt) ≤ 2388)
    (t25 : -1 ≤ x25.toInt ∧ x25.toInt < ((G20.1 a 19).toInt))
    (t32 : 0 ≤ ((G32.1 a 43).toInt) ∧ ((G32.1 a 43).toInt) ≤ 2388 ∧ ((G32.1 a 44).toInt) = x25.toInt ∧ ((x25.toInt = -1 ∧ ((G32.1 a 43).toInt) = ((G20.1 a 19).toInt)) ∨ (x25.toInt ≠ -1 ∧ ((G32.1 a 43).toInt) = x25.toInt + 1)))
    (c45 : ¬ (x25.toInt = (-1 : Int)))
    (z48 : (0 ≤ (aI (G20.2.1 (F a 17)) (x25.toInt)) ∧ (aI (G20.2.1 (F a 17)) (x25.toInt)) ≤ 11) ∧ (aI (G.2.1 (F a 10)) (10 * aI (G20.2.1 (F a 17)) (x25.toInt) + 0)) ≠ -1 ∧ ((sF (aI (G.2.1 (F a 10)) (10 * aI (G20.2.1 (F a 17)) (x25.toInt) + 0))) ≤ (aI (G20.2.1 (F a 18)) (x25.toInt)) ∧ (aI (G20.2.1 (F a 18)) (x25.toInt)) ≤ (sL (aI (G.2.1 (F a 10)) (10 * aI (G20.2.1 (F a 17)) (x25.toInt) + 0)))))
    (z48a : ((sF (aI (G.2.1 (F a 10)) (10 * aI (G20.2.1 (F a 17)) (x25.toInt) + 0))) = 0 ∨ (sF (aI (G.2.1 (F a 10)) (10 * aI (G20.2.1 (F a 17)) (x25.toInt) + 0))) = -99) ∧ ((sL (aI (G.2.1 (F a 10)) (10 * aI (G20.2.1 (F a 17)) (x25.toInt) + 0))) = 29 ∨ (sL (aI (G.2.1 (F a 10)) (10 * aI (G20.2.1 (F a 17)) (x25.toInt) + 0))) = 99))
    (t67 : ((G67.1 a 20).toInt) = (aI (G20.2.1 (F a 17)) (x25.toInt)) ∧ ((G67.1 a 21).toInt) = (aI (G20.2.1 (F a 18)) (x25.toInt)) ∧ 0 ≤ ((G67.1 a 23).toInt) ∧ ((G67.1 a 23).toInt) ≤ 24)
    (c_G67_F_a_2 : G67.2.1 (F a 2) = G.2.1 (F a 2))
    (c_G92_F_a_1 : G92.2.1 (F a 1) = G80.2.1 (F a 1)) :
    (((G.1 a 6).toInt) = 0 ∧ G92.2.1 (F a 1) = (G.2.1 (F a 1))) ∨ (((G.1 a 6).toInt) ≠ 0 ∧ ((ffP (G.2.1 (F a 10)) (mw (G.2.1 (F a 1)) 0) (fuO (G.2.1 (F a 10)) (mw (G.2.1 (F a 1)) 0) (mw (G.2.1 (F a 2)) 0) 1) ≠ -1 ∧ (-5 : Int) = -5 ∧ mw (G92.2.1 (F a 1)) 0 = mw (G.2.1 (F a 2)) 0) ∨ (ffP (G.2.1 (F a 10)) (mw (G.2.1 (F a 1)) 0) (fuO (G.2.1 (F a 10)) (mw (G.2.1 (F a 1)) 0) (mw (G.2.1 (F a 2)) 0) 1) = -1 ∧ mw (G92.2.1 (F a 1)) 0 = (mw (G.2.1 (F a 1)) 0) ∧ (-5 : Int) = (((fuO (G.2.1 (F a 10)) (mw (G.2.1 (F a 1)) 0) (mw (G.2.1 (F a 2)) 0) 1).length : Nat) : Int)))) := by
  rw [oq20, if_neg (by omega)] at oq25
  exact Or.inr ⟨by omega, Or.inl ⟨by rw [← oq25]; omega, rfl, by rw [c_G92_F_a_1, ← c_G67_F_a_2]; exact CPd.vwm oq80 (by decide)⟩⟩
theorem v_X11_commit_95_12 {F : Nat → Nat → Nat} (a : Nat) (G : XG) (G67 : XG) (G80 : XG) (G92 : XG)
    (hB : RM (G.2.1 (F a 2)) 0)
    (oq80 : CPd (G67.2.1 (F a 2)) (G67.2.1 (F a 1)) (G80.2.1 (F a 1)) (0 : Int) (0 : Int) 360)
    (c_G67_F_a_2 : G67.2.1 (F a 2) = G.2.1 (F a 2))
    (c_G92_F_a_1 : G92.2.1 (F a 1) = G80.2.1 (F a 1)) :
    RM (G92.2.1 (F a 1)) 0 := by
  rw [c_G92_F_a_1]; exact CPd.rm oq80 (by decide) (by rw [c_G67_F_a_2]; exact hB)
theorem v_X11_commit_18_13 {K : Nat → Nat} {F : Nat → Nat → Nat} (a : Nat) (G : XG) (G6 : XG)
    (ha : K a = 13)
    (am : 0 ≤ ((G.1 a 43).toInt) ∧ ((G.1 a 43).toInt) ≤ 2388)
    (t6 : ((G6.1 a 20).toInt) = -2147483648 ∧ ((G6.1 a 21).toInt) = -2147483648 ∧ ((G6.1 a 23).toInt) = 0)
    (f32 : ((G.1 a 6).toInt) = 0 ∨ ((G.1 a 6).toInt) = 1)
    (c13 : ¬ (((G.1 a 6).toInt) ≠ 0))
    (c_G6_F_a_1 : G6.2.1 (F a 1) = G.2.1 (F a 1)) :
    (((G.1 a 6).toInt) = 0 ∧ G6.2.1 (F a 1) = (G.2.1 (F a 1))) ∨ (((G.1 a 6).toInt) ≠ 0 ∧ ((ffP (G.2.1 (F a 10)) (mw (G.2.1 (F a 1)) 0) (fuO (G.2.1 (F a 10)) (mw (G.2.1 (F a 1)) 0) (mw (G.2.1 (F a 2)) 0) 1) ≠ -1 ∧ (-3 : Int) = -5 ∧ mw (G6.2.1 (F a 1)) 0 = mw (G.2.1 (F a 2)) 0) ∨ (ffP (G.2.1 (F a 10)) (mw (G.2.1 (F a 1)) 0) (fuO (G.2.1 (F a 10)) (mw (G.2.1 (F a 1)) 0) (mw (G.2.1 (F a 2)) 0) 1) = -1 ∧ mw (G6.2.1 (F a 1)) 0 = (mw (G.2.1 (F a 1)) 0) ∧ (-3 : Int) = (((fuO (G.2.1 (F a 10)) (mw (G.2.1 (F a 1)) 0) (mw (G.2.1 (F a 2)) 0) 1).length : Nat) : Int)))) := by
  exact Or.inl ⟨by omega, by rw [c_G6_F_a_1]⟩
theorem v_X11_commit_18_14 {F : Nat → Nat → Nat} (a : Nat) (G : XG) (G6 : XG)
    (hM : RM (G.2.1 (F a 1)) (0))
    (c_G6_F_a_1 : G6.2.1 (F a 1) = G.2.1 (F a 1)) :
    RM (G6.2.1 (F a 1)) 0 := by
  rw [c_G6_F_a_1]; exact hM
