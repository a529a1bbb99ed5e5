theorem v_X11_commit_20_1 {F : Nat → Nat → Nat} (a : Nat) (G : XG) (G6 : XG)
    (hR : RV (G.2.1 (F a 10)))
    (c_G6_F_a_10 : G6.2.1 (F a 10) = G.2.1 (F a 10)) :
    RV (G6.2.1 (F a 10)) := by simp only [c_G6_F_a_10]; assumption
theorem v_X11_commit_20_2 {F : Nat → Nat → Nat} (a : Nat) (G : XG) (G6 : XG)
    (hM : RM (G.2.1 (F a 1)) (0))
    (hB : RM (G.2.1 (F a 2)) 0)
    (c_G6_F_a_1 : G6.2.1 (F a 1) = G.2.1 (F a 1)) :
    RM (G6.2.1 (F a 1)) (0) := by simp only [c_G6_F_a_1]; assumption
theorem v_X11_commit_20_3 {F : Nat → Nat → Nat} (a : Nat) (G : XG) (G6 : XG)
    (hM : RM (G.2.1 (F a 1)) (0))
    (hB : RM (G.2.1 (F a 2)) 0)
    (c_G6_F_a_2 : G6.2.1 (F a 2) = G.2.1 (F a 2)) :
    RM (G6.2.1 (F a 2)) 0 := by simp only [c_G6_F_a_2]; assumption
theorem v_X11_commit_23_4 {K : Nat → Nat} {F : Nat → Nat → Nat} (a : Nat) (G : XG) (G6 : XG) (G20 : XG)
    (ha : K a = 13)
    (oq20 : pL G20 F a = if ((G.1 a 6).toInt) = 0 then [] else fuO (G.2.1 (F a 10)) (mw (G.2.1 (F a 1)) 0) (mw (G.2.1 (F a 2)) 0) 1)
    (oq20a : ((G.1 a 6).toInt) ≠ 0 → LSt (G.2.1 (F a 10)) (G20.2.1 (F a 11)) (mw (G.2.1 (F a 1)) 0) 12 ∧ LSt (G.2.1 (F a 10)) (G20.2.1 (F a 13)) (mw (G.2.1 (F a 2)) 0) 12)
    (oq20b : G20.2.2.2 = G6.2.2.2)
    (am : 0 ≤ ((G.1 a 43).toInt) ∧ ((G.1 a 43).toInt) ≤ 2388)
    (t6 : ((G6.1 a 20).toInt) = -2147483648 ∧ ((G6.1 a 21).toInt) = -2147483648 ∧ ((G6.1 a 23).toInt) = 0)
    (f36 : ((G.1 a 6).toInt) = 0 ∨ ((G.1 a 6).toInt) = 1)
    (c13 : ((G.1 a 6).toInt) ≠ 0)
    (t20 : 0 ≤ ((G20.1 a 19).toInt) ∧ ((G20.1 a 19).toInt) ≤ 2388) :
    PV (G.2.1 (F a 10)) (pL G20 F a) := by
  rw [oq20, if_neg (by omega)]; exact fuO_pv _ _ _ _
theorem v_X11_commit_25_5 {F : Nat → Nat → Nat} (a : Nat) (G : XG) (G20 : XG)
    (hR : RV (G.2.1 (F a 10)))
    (c_G20_F_a_10 : G20.2.1 (F a 10) = G.2.1 (F a 10)) :
    RV (G20.2.1 (F a 10)) := by simp only [c_G20_F_a_10]; assumption
theorem v_X11_commit_25_6 {F : Nat → Nat → Nat} (a : Nat) (G : XG) (G20 : XG)
    (hM : RM (G.2.1 (F a 1)) (0))
    (hB : RM (G.2.1 (F a 2)) 0)
    (c_G20_F_a_1 : G20.2.1 (F a 1) = G.2.1 (F a 1)) :
    RM (G20.2.1 (F a 1)) (0) := by simp only [c_G20_F_a_1]; assumption
theorem v_X11_commit_25_7 {F : Nat → Nat → Nat} (a : Nat) (G : XG) (G20 : XG)
    (hv20 : PV (G.2.1 (F a 10)) (pL G20 F a))
    (c_G20_F_a_10 : G20.2.1 (F a 10) = G.2.1 (F a 10)) :
    PV (G20.2.1 (F a 10)) (pL G20 F a) := by
  first | exact hv20 | (simp only [c_G20_F_a_10]; exact hv20)
theorem v_X11_commit_110_8 {K : Nat → Nat} {F : Nat → Nat → Nat} (a : Nat) (G : XG) (G6 : XG) (G20 : XG) (G28 : XG) (x25 : Int32) (G32 : XG) (G105 : XG)
    (ha : K a = 13)
    (oq20 : pL G20 F a = if ((G.1 a 6).toInt) = 0 then [] else fuO (G.2.1 (F a 10)) (mw (G.2.1 (F a 1)) 0) (mw (G.2.1 (F a 2)) 0) 1)
    (oq20a : ((G.1 a 6).toInt) ≠ 0 → LSt (G.2.1 (F a 10)) (G20.2.1 (F a 11)) (mw (G.2.1 (F a 1)) 0) 12 ∧ LSt (G.2.1 (F a 10)) (G20.2.1 (F a 13)) (mw (G.2.1 (F a 2)) 0) 12)
    (oq20b : G20.2.2.2 = G6.2.2.2)
    (oq25 : x25.toInt = ffP (G.2.1 (F a 10)) (mw (G.2.1 (F a 1)) 0) (pL G20 F a))
    (oq32 : ((G28.1 a 46).toInt) < ((G20.1 a 19).toInt) → aL G32 F a = (pL G28 F a).take ((G32.1 a 43).toInt).toNat)
    (am : 0 ≤ ((G.1 a 43).toInt) ∧ ((G.1 a 43).toInt) ≤ 2388)
    (t6 : ((G6.1 a 20).toInt) = -2147483648 ∧ ((G6.1 a 21).toInt) = -2147483648 ∧ ((G6.1 a 23).toInt) = 0)
    (f44 : ((G.1 a 6).toInt) = 0 ∨ ((G.1 a 6).toInt) = 1)
    (c13 : ((G.1 a 6).toInt) ≠ 0)
    (t20 : 0 ≤ ((G20.1 a 19).toInt) ∧ ((G20.1 a 19).toInt) ≤ 2388)
    (t25 : -1 ≤ x25.toInt ∧ x25.toInt < ((G20.1 a 19).toInt))
    (t32 : 0 ≤ ((G32.1 a 43).toInt) ∧ ((G32.1 a 43).toInt) ≤ 2388 ∧ ((G32.1 a 44).toInt) = x25.toInt ∧ ((x25.toInt = -1 ∧ ((G32.1 a 43).toInt) = ((G20.1 a 19).toInt)) ∨ (x25.toInt ≠ -1 ∧ ((G32.1 a 43).toInt) = x25.toInt + 1)))
    (c45 : x25.toInt = (-1 : Int))
    (c_G105_F_a_1 : G105.2.1 (F a 1) = G.2.1 (F a 1)) :
    (((G.1 a 6).toInt) = 0 ∧ G105.2.1 (F a 1) = (G.2.1 (F a 1))) ∨ (((G.1 a 6).toInt) ≠ 0 ∧ ((ffP (G.2.1 (F a 10)) (mw (G.2.1 (F a 1)) 0) (fuO (G.2.1 (F a 10)) (mw (G.2.1 (F a 1)) 0) (mw (G.2.1 (F a 2)) 0) 1) ≠ -1 ∧ ((G32.1 a 43).toInt) = -5 ∧ mw (G105.2.1 (F a 1)) 0 = mw (G.2.1 (F a 2)) 0) ∨ (ffP (G.2.1 (F a 10)) (mw (G.2.1 (F a 1)) 0) (fuO (G.2.1 (F a 10)) (mw (G.2.1 (F a 1)) 0) (mw (G.2.1 (F a 2)) 0) 1) = -1 ∧ mw (G105.2.1 (F a 1)) 0 = (mw (G.2.1 (F a 1)) 0) ∧ ((G32.1 a 43).toInt) = (((fuO (G.2.1 (F a 10)) (mw (G.2.1 (F a 1)) 0) (mw (G.2.1 (F a 2)) 0) 1).length : Nat) : Int)))) := by
  have e := pL_len G20 F a
  rw [oq20, if_neg (by omega)] at e
  rw [oq20, if_neg (by omega)] at oq25
  exact Or.inr ⟨by omega, Or.inr ⟨by rw [← oq25]; omega, by rw [c_G105_F_a_1], by omega⟩⟩
theorem v_X11_commit_110_9 {F : Nat → Nat → Nat} (a : Nat) (G : XG) (G105 : XG)
    (hM : RM (G.2.1 (F a 1)) (0))
    (c_G105_F_a_1 : G105.2.1 (F a 1) = G.2.1 (F a 1)) :
    RM (G105.2.1 (F a 1)) 0 := by
  rw [c_G105_F_a_1]; exact hM
theorem v_X11_commit_80_10 {K : Nat → Nat} {F : Nat → Nat → Nat} (a : Nat) (G2 : XG) (G : XG) (G6 : XG) (G20 : XG) (G28 : XG) (x25 : Int32) (G32 : XG) (G37 : XG) (G67 : XG) (x57 : Int32) (x66 : Int32)
    (ha : K a = 13)
    (hk9999 : K (F a 15) = 42)
    (hj9999 : F (F a 15) 99 = 15)
    (hk9999a : K (F a 17) = 43)
    (hj9999a : F (F a 17) 99 = 17)
    (hk9999b : K (F a 18) = 44)
    (hj9999b : F (F a 18) 99 = 18)
    (hk9999c : K (F a 11) = 38)
    (hj9999c : F (F a 11) 99 = 11)
    (hk9999d : K (F a 13) = 38)
    (hj9999d : F (F a 13) 99 = 13)
    (hk9999e : K (F a 22) = 45)
    (hj9999e : F (F a 22) 99 = 22)
    (hk9999f : K (F a 41) = 53)
    (hj9999f : F (F a 41) 99 = 41)
    (hk9999g : K (F a 42) = 54)
    (hj9999g : F (F a 42) 99 = 42)
    (hk9999h : K (F a 9) = 36)
    (hj9999h : F (F a 9) 99 = 9)
    (hk9999i : K (F a 1) = 30)
    (hj9999i : F (F a 1) 99 = 1)
    (hk9999j : K (F a 10) = 37)
    (hj9999j : F (F a 10) 99 = 10)
    (hk9999k : K (F a 2) = 31)
    (hj9999k : F (F a 2) 99 = 2)
    (hG2 : G2 = dput G a 0 0)
    (hF6 : XFr [(a, 20), (a, 21), (a, 23)] [] [] G2 G6)
    (hF20 : XFr [(a, 16), (a, 19)] [F a 15, F a 17, F a 18, F a 11, F a 13] [] G6 G20)
    (hG28 : G28 = dput G20 a 46 x25)
    (hF32 : XFr [(a, 43), (a, 44)] [F a 41, F a 42, F a 9] [] G28 G32)
    (hG37 : G37 = dput G32 a 6 0)
    (hF67 : XFr [(a, 20), (a, 21), (a, 23)] [F a 22] [] G37 G67)
    (hR : RV (G.2.1 (F a 10)))
    (hM : RM (G.2.1 (F a 1)) (0))
    (hB : RM (G.2.1 (F a 2)) 0)
    (oq20 : pL G20 F a = if ((G.1 a 6).toInt) = 0 then [] else fuO (G.2.1 (F a 10)) (mw (G.2.1 (F a 1)) 0) (mw (G.2.1 (F a 2)) 0) 1)
    (oq20a : ((G.1 a 6).toInt) ≠ 0 → LSt (G.2.1 (F a 10)) (G20.2.1 (F a 11)) (mw (G.2.1 (F a 1)) 0) 12 ∧ LSt (G.2.1 (F a 10)) (G20.2.1 (F a 13)) (mw (G.2.1 (F a 2)) 0) 12)
    (oq20b : G20.2.2.2 = G6.2.2.2)
    (hv20 : PV (G.2.1 (F a 10)) (pL G20 F a))
    (oq25 : x25.toInt = ffP (G.2.1 (F a 10)) (mw (G.2.1 (F a 1)) 0) (pL G20 F a))
    (oq32 : ((G28.1 a 46).toInt) < ((G20.1 a 19).toInt) → aL G32 F a = (pL G28 F a).take ((G32.1 a 43).toInt).toNat)
    (hv57 : x57.toInt = (aI (G20.2.1 (F a 17)) (x25.toInt)))
    (hv66 : x66.toInt = (aI (G20.2.1 (F a 18)) (x25.toInt)))
    (am : 0 ≤ ((G.1 a 43).toInt) ∧ ((G.1 a 43).toInt) ≤ 2388)
    (t6 : ((G6.1 a 20).toInt) = -2147483648 ∧ ((G6.1 a 21).toInt) = -2147483648 ∧ ((G6.1 a 23).toInt) = 0)
    (f45 : ((G.1 a 6).toInt) = 0 ∨ ((G.1 a 6).toInt) = 1)
    (c13 : ((G.1 a 6).toInt) ≠ 0)
    (t20 : 0 ≤ ((G20.1 a 19).toInt) ∧ ((G20.1 a 19).toInt) ≤ 2388)
    (t25 : -1 ≤ x25.toInt ∧ x25.toInt < ((G20.1 a 19).toInt))
    (t32 : 0 ≤ ((G32.1 a 43).toInt) ∧ ((G32.1 a 43).toInt) ≤ 2388 ∧ ((G32.1 a 44).toInt) = x25.toInt ∧ ((x25.toInt = -1 ∧ ((G32.1 a 43).toInt) = ((G20.1 a 19).toInt)) ∨ (x25.toInt ≠ -1 ∧ ((G32.1 a 43).toInt) = x25.toInt + 1)))
    (c45 : ¬ (x25.toInt = (-1 : Int)))
    (z48 : (0 ≤ (aI (G20.2.1 (F a 17)) (x25.toInt)) ∧ (aI (G20.2.1 (F a 17)) (x25.toInt)) ≤ 11) ∧ (aI (G.2.1 (F a 10)) (10 * aI (G20.2.1 (F a 17)) (x25.toInt) + 0)) ≠ -1 ∧ ((sF (aI (G.2.1 (F a 10)) (10 * aI (G20.2.1 (F a 17)) (x25.toInt) + 0))) ≤ (aI (G20.2.1 (F a 18)) (x25.toInt)) ∧ (aI (G20.2.1 (F a 18)) (x25.toInt)) ≤ (sL (aI (G.2.1 (F a 10)) (10 * aI (G20.2.1 (F a 17)) (x25.toInt) + 0)))))
    (z48a : ((sF (aI (G.2.1 (F a 10)) (10 * aI (G20.2.1 (F a 17)) (x25.toInt) + 0))) = 0 ∨ (sF (aI (G.2.1 (F a 10)) (10 * aI (G20.2.1 (F a 17)) (x25.toInt) + 0))) = -99) ∧ ((sL (aI (G.2.1 (F a 10)) (10 * aI (G20.2.1 (F a 17)) (x25.toInt) + 0))) = 29 ∨ (sL (aI (G.2.1 (F a 10)) (10 * aI (G20.2.1 (F a 17)) (x25.toInt) + 0))) = 99))
    (t67 : ((G67.1 a 20).toInt) = (aI (G20.2.1 (F a 17)) (x25.toInt)) ∧ ((G67.1 a 21).toInt) = (aI (G20.2.1 (F a 18)) (x25.toInt)) ∧ 0 ≤ ((G67.1 a 23).toInt) ∧ ((G67.1 a 23).toInt) ≤ 24)
    (c_G6_F_a_1 : G6.2.1 (F a 1) = G.2.1 (F a 1))
    (c_G67_F_a_1 : G67.2.1 (F a 1) = G.2.1 (F a 1))
    (c_G67_F_a_11 : G67.2.1 (F a 11) = G20.2.1 (F a 11))
    (c_G67_F_a_13 : G67.2.1 (F a 13) = G20.2.1 (F a 13))
    (c_G67_F_a_15 : G67.2.1 (F a 15) = G20.2.1 (F a 15))
    (c_G67_F_a_17 : G67.2.1 (F a 17) = G20.2.1 (F a 17))
    (c_G67_F_a_18 : G67.2.1 (F a 18) = G20.2.1 (F a 18))
    (c_G67_F_a_2 : G67.2.1 (F a 2) = G.2.1 (F a 2))
    (c_G67_F_a_41 : G67.2.1 (F a 41) = G32.2.1 (F a 41))
    (c_G67_F_a_42 : G67.2.1 (F a 42) = G32.2.1 (F a 42))
    (c_G67_F_a_9 : G67.2.1 (F a 9) = G32.2.1 (F a 9))
    (d_G28_a_46 : G28.1 a 46 = x25)
    (d_G67_a_0 : G67.1 a 0 = 0)
    (d_G67_a_16 : G67.1 a 16 = G20.1 a 16)
    (d_G67_a_19 : G67.1 a 19 = G20.1 a 19)
    (d_G67_a_43 : G67.1 a 43 = G32.1 a 43)
    (d_G67_a_44 : G67.1 a 44 = G32.1 a 44)
    (d_G67_a_46 : G67.1 a 46 = x25)
    (d_G67_a_6 : G67.1 a 6 = 0) :
    (F a 2) ≠ (F a 1) := by
  intro e
  have h1 : K (F a 1) = 30 := by assumption
  have h2 : K (F a 2) = 31 := by assumption
  rw [← e, h2] at h1
  exact absurd h1 (by decide)
theorem v_X11_commit_95_11 {K : Nat → Nat} {F : Nat → Nat → Nat} (a : Nat) (G : XG) (G6 : XG) (G20 : XG) (G28 : XG) (x25 : Int32) (G32 : XG) (G67 : XG) (G80 : XG) (G92 : XG)
    (ha : K a = 13)
    (oq20 : pL G20 F a = if ((G.1 a 6).toInt) = 0 then [] else fuO (G.2.1 (F a 10)) (mw (G.2.1 (F a 1)) 0) (mw (G.2.1 (F a 2)) 0) 1)
    (oq20a : ((G.1 a 6).toInt) ≠ 0 → LSt (G.2.1 (F a 10)) (G20.2.1 (F a 11)) (mw (G.2.1 (F a 1)) 0) 12 ∧ LSt (G.2.1 (F a 10)) (G20.2.1 (F a 13)) (mw (G.2.1 (F a 2)) 0) 12)
    (oq20b : G20.2.2.2 = G6.2.2.2)
    (oq25 : x25.toInt = ffP (G.2.1 (F a 10)) (mw (G.2.1 (F a 1)) 0) (pL G20 F a))
    (oq32 : ((G28.1 a 46).toInt) < ((G20.1 a 19).toInt) → aL G32 F a = (pL G28 F a).take ((G32.1 a 43).toInt).toNat)
    (oq80 : CPd (G67.2.1 (F a 2)) (G67.2.1 (F a 1)) (G80.2.1 (F a 1)) (0 : Int) (0 : Int) 360)
    (am : 0 ≤ ((G.1 a 43).toInt) ∧ ((G.1 a 43).toInt) ≤ 2388)
    (t6 : ((G6.1 a 20).toInt) = -2147483648 ∧ ((G6.1 a 21).toInt) = -2147483648 ∧ ((G6.1 a 23).toInt) = 0)
    (f49 : ((G.1 a 6).toInt) = 0 ∨ ((G.1 a 6).toInt) = 1)
    (c13 : ((G.1 a 6).toInt) ≠ 0)
    (t20 : 0 ≤ ((G20.1 a 19).toInt) ∧ ((G20.1 a 19).toInt) ≤ 2388)
    (t25 : -1 ≤ x25.toInt ∧ x25.toInt < ((G20.1 a 19).toInt))
    (t32 : 0 ≤ ((G32.1 a 43).toInt) ∧ ((G32.1 a 43).toInt) ≤ 2388 ∧ ((G32.1 a 44).toInt) = x25.toInt ∧ ((x25.toInt = -1 ∧ ((G32.1 a 43).toInt) = ((G20.1 a 19).toInt)) ∨ (x25.toInt ≠ -1 ∧ ((G32.1 a 43).toInt) = x25.toInt + 1)))
    (c45 : ¬ (x25.toInt = (-1 : Int)))
    (z48 : (0 ≤ (aI (G20.2.1 (F a 17)) (x25.toInt)) ∧ (aI (G20.2.1 (F a 17)) (x25.toInt)) ≤ 11) ∧ (aI (G.2.1 (F a 10)) (10 * aI (G20.2.1 (F a 17)) (x25.toInt) + 0)) ≠ -1 ∧ ((sF (aI (G.2.1 (F a 10)) (10 * aI (G20.2.1 (F a 17)) (x25.toInt) + 0))) ≤ (aI (G20.2.1 (F a 18)) (x25.toInt)) ∧ (aI (G20.2.1 (F a 18)) (x25.toInt)) ≤ (sL (aI (G.2.1 (F a 10)) (10 * aI (G20.2.1 (F a 17)) (x25.toInt) + 0)))))
    (z48a : ((sF (aI (G.2.1 (F a 10)) (10 * aI (G20.2.1 (F a 17)) (x25.toInt) + 0))) = 0 ∨ (sF (aI (G.2.1 (F a 10)) (10 * aI (G20.2.1 (F a 17)) (x25.toInt) + 0))) = -99) ∧ ((sL (aI (G.2.1 (F a 10)) (10 * aI (G20.2.1 (F a 17)) (x25.toInt) + 0))) = 29 ∨ (sL (aI (G.2.1 (F a 10)) (10 * aI (G20.2.1 (F a 17)) (x25.toInt) + 0))) = 99))
    (t67 : ((G67.1 a 20).toInt) = (aI (G20.2.1 (F a 17)) (x25.toInt)) ∧ ((G67.1 a 21).toInt) = (aI (G20.2.1 (F a 18)) (x25.toInt)) ∧ 0 ≤ ((G67.1 a 23).toInt) ∧ ((G67.1 a 23).toInt) ≤ 24)
    (c_G67_F_a_2 : G67.2.1 (F a 2) = G.2.1 (F a 2))
    (c_G92_F_a_1 : G92.2.1 (F a 1) = G80.2.1 (F a 1)) :
    (((G.1 a 6).toInt) = 0 ∧ G92.2.1 (F a 1) = (G.2.1 (F a 1))) ∨ (((G.1 a 6).toInt) ≠ 0 ∧ ((ffP (G.2.1 (F a 10)) (mw (G.2.1 (F a 1)) 0) (fuO (G.2.1 (F a 10)) (mw (G.2.1 (F a 1)) 0) (mw (G.2.1 (F a 2)) 0) 1) ≠ -1 ∧ (-5 : Int) = -5 ∧ mw (G92.2.1 (F a 1)) 0 = mw (G.2.1 (F a 2)) 0) ∨ (ffP (G.2.1 (F a 10)) (mw (G.2.1 (F a 1)) 0) (fuO (G.2.1 (F a 10)) (mw (G.2.1 (F a 1)) 0) (mw (G.2.1 (F a 2)) 0) 1) = -1 ∧ mw (G92.2.1 (F a 1)) 0 = (mw (G.2.1 (F a 1)) 0) ∧ (-5 : Int) = (((fuO (G.2.1 (F a 10)) (mw (G.2.1 (F a 1)) 0) (mw (G.2.1 (F a 2)) 0) 1).length : Nat) : Int)))) := by
  rw [oq20, if_neg (by omega)] at oq25
  exact Or.inr ⟨by omega, Or.inl ⟨by rw [← oq25]; omega, rfl, by rw [c_G92_F_a_1, ← c_G67_F_a_2]; exact CPd.vwm oq80 (by decide)⟩⟩
theorem v_X11_commit_95_12 {F : Nat → Nat → Nat} (a : Nat) (G : XG) (G67 : XG) (G80 : XG) (G92 : XG)
    (hB : RM (G.2.1 (F a 2)) 0)
    (oq80 : CPd (G67.2.1 (F a 2)) (G67.2.1 (F a 1)) (G80.2.1 (F a 1)) (0 : Int) (0 : Int) 360)
    (c_G67_F_a_2 : G67.2.1 (F a 2) = G.2.1 (F a 2))
    (c_G92_F_a_1 : G92.2.1 (F a 1) = G80.2.1 (F a 1)) :
    RM (G92.2.1 (F a 1)) 0 := by
  rw [c_G92_F_a_1]; exact CPd.rm oq80 (by decide) (by rw [c_G67_F_a_2]; exact hB)
theorem v_X11_commit_18_13 {K : Nat → Nat} {F : Nat → Nat → Nat} (a : Nat) (G : XG) (G6 : XG)
    (ha : K a = 13)
    (am : 0 ≤ ((G.1 a 43).toInt) ∧ ((G.1 a 43).toInt) ≤ 2388)
    (t6 : ((G6.1 a 20).toInt) = -2147483648 ∧ ((G6.1 a 21).toInt) = -2147483648 ∧ ((G6.1 a 23).toInt) = 0)
    (f32 : ((G.1 a 6).toInt) = 0 ∨ ((G.1 a 6).toInt) = 1)
    (c13 : ¬ (((G.1 a 6).toInt) ≠ 0))
    (c_G6_F_a_1 : G6.2.1 (F a 1) = G.2.1 (F a 1)) :
    (((G.1 a 6).toInt) = 0 ∧ G6.2.1 (F a 1) = (G.2.1 (F a 1))) ∨ (((G.1 a 6).toInt) ≠ 0 ∧ ((ffP (G.2.1 (F a 10)) (mw (G.2.1 (F a 1)) 0) (fuO (G.2.1 (F a 10)) (mw (G.2.1 (F a 1)) 0) (mw (G.2.1 (F a 2)) 0) 1) ≠ -1 ∧ (-3 : Int) = -5 ∧ mw (G6.2.1 (F a 1)) 0 = mw (G.2.1 (F a 2)) 0) ∨ (ffP (G.2.1 (F a 10)) (mw (G.2.1 (F a 1)) 0) (fuO (G.2.1 (F a 10)) (mw (G.2.1 (F a 1)) 0) (mw (G.2.1 (F a 2)) 0) 1) = -1 ∧ mw (G6.2.1 (F a 1)) 0 = (mw (G.2.1 (F a 1)) 0) ∧ (-3 : Int) = (((fuO (G.2.1 (F a 10)) (mw (G.2.1 (F a 1)) 0) (mw (G.2.1 (F a 2)) 0) 1).length : Nat) : Int)))) := by
  exact Or.inl ⟨by omega, by rw [c_G6_F_a_1]⟩
theorem v_X11_commit_18_14 {F : Nat → Nat → Nat} (a : Nat) (G : XG) (G6 : XG)
    (hM : RM (G.2.1 (F a 1)) (0))
    (c_G6_F_a_1 : G6.2.1 (F a 1) = G.2.1 (F a 1)) :
    RM (G6.2.1 (F a 1)) 0 := by
  rw [c_G6_F_a_1]; exact hM
theorem z_X11_commit_1 (a0 : Int) (h0 : 0 ≤ a0 ∧ a0 ≤ 2388) : 0 ≤ a0 ∧ a0 ≤ 2400 := by omega
theorem z_X11_commit_2 (a0 : Int) (a1 : Int) (h0 : 0 ≤ a1 ∧ a1 ≤ 2388) (h1 : -1 ≤ a0 ∧ a0 < a1) : 0 ≤ a1 ∧ a1 ≤ 2388 ∧ -1 ≤ a0 ∧ a0 < 2388 := by omega
theorem z_X11_commit_3 (a0 : Int) (a1 : Int) (a2 : Int) (a3 : Int) (a4 : Int) (h0 : a2 = -2147483648 ∧ a3 = -2147483648 ∧ a4 = 0) (h1 : a0 ≠ 0) (h2 : 0 ≤ a1) (h3 : a1 ≤ 2388) : ((a0 = 0 ∧ a1 = -3 ∧ (0 : Int) = a0) ∨ (a0 ≠ 0 ∧ (0 : Int) = 0)) ∧ (0 ≤ a4 ∧ a4 ≤ 24) ∧ (0 ≤ a1 ∧ a1 ≤ 2388) := by omega
theorem z_X11_commit_4 (a0 : Int) (a1 : Int) (h0 : -1 ≤ a0 ∧ a0 < a1) (h1 : ¬ (a0 = (-1 : Int))) : 0 ≤ a0 ∧ a0 < a1 := by omega
theorem z_X11_commit_5 (a0 : Int) (a1 : Int) (h0 : 0 ≤ a1 ∧ a1 ≤ 2388) (h1 : -1 ≤ a0 ∧ a0 < a1) (h2 : ¬ (a0 = (-1 : Int))) : 0 ≤ a0 ∧ a0 < ((2400 : Nat) : Int) := by omega
theorem z_X11_commit_8 (a0 : Int) (a1 : Int) (a2 : Int) (h0 : a1 ≤ a0 ∧ a0 ≤ a2) (h1 : a1 = 0 ∨ a1 = -99) (h2 : a2 = 29 ∨ a2 = 99) : -99 ≤ a0 ∧ a0 ≤ 99 := by omega
theorem z_X11_commit_9 (a0 : Int) (a1 : Int) (a2 : Int) (a3 : Int) (a4 : Int) (a5 : Int) (a6 : Int) (h0 : a0 ≠ 0) (h1 : 0 ≤ a1) (h2 : a1 ≤ 2388) (h3 : a2 = a5 ∧ a3 = a6 ∧ 0 ≤ a4 ∧ a4 ≤ 24) : ((a0 = 0 ∧ (-5 : Int) = -3 ∧ (0 : Int) = a0) ∨ (a0 ≠ 0 ∧ (0 : Int) = 0)) ∧ (0 ≤ a4 ∧ a4 ≤ 24) ∧ (0 ≤ a1 ∧ a1 ≤ 2388) := by omega
theorem z_X11_commit_10 (a0 : Int) (a1 : Int) (a2 : Int) (a3 : Int) (a4 : Int) (h0 : 0 ≤ a0 ∧ a0 ≤ 2388) (h1 : a2 = -2147483648 ∧ a3 = -2147483648 ∧ a4 = 0) (h2 : ¬ (a1 ≠ 0)) : ((a1 = 0 ∧ (-3 : Int) = -3 ∧ a1 = a1) ∨ (a1 ≠ 0 ∧ a1 = 0)) ∧ (0 ≤ a4 ∧ a4 ≤ 24) ∧ (0 ≤ a0 ∧ a0 ≤ 2388) := by omega
abbrev rm_X11_commit : Room := { frames := 5, cells := 0, slots := 0, locals := 125 }
set_option maxHeartbeats 4000000 in
set_option maxRecDepth 100000 in
theorem c_X11_commit (l : Launch) (E : XE) (K : Nat → Nat) (F : Nat → Nat → Nat) (G : XG) (a : Nat) (ha : K a = 13) (am : 0 ≤ ((G.1 a 43).toInt) ∧ ((G.1 a 43).toInt) ≤ 2388) (hR : RV (G.2.1 (F a 10))) (hM : RM (G.2.1 (F a 1)) (0)) (hB : RM (G.2.1 (F a 2)) 0) : Met l yX11_commit (xw yX11_commit cX11_commit 1 (some .int)) rm_X11_commit (va_Pc [.ref a] (XP E K F G)) (XQ E (fun v (u : XG) => ∃ r : Int32, v = .int r ∧ XFr [(a, 16), (a, 19), (a, 20), (a, 21), (a, 23), (a, 43), (a, 44), (a, 0), (a, 6), (a, 46)] [F a 15, F a 17, F a 18, F a 11, F a 13, F a 22, F a 41, F a 42, F a 9, F a 1] [] G u ∧ (((((G.1 a 6).toInt) = 0 ∧ r.toInt = -3 ∧ ((u.1 a 6).toInt) = ((G.1 a 6).toInt)) ∨ (((G.1 a 6).toInt) ≠ 0 ∧ ((u.1 a 6).toInt) = 0)) ∧ (0 ≤ ((u.1 a 23).toInt) ∧ ((u.1 a 23).toInt) ≤ 24) ∧ (0 ≤ ((u.1 a 43).toInt) ∧ ((u.1 a 43).toInt) ≤ 2388)) ∧ ((((G.1 a 6).toInt) = 0 ∧ u.2.1 (F a 1) = (G.2.1 (F a 1))) ∨ (((G.1 a 6).toInt) ≠ 0 ∧ ((ffP (G.2.1 (F a 10)) (mw (G.2.1 (F a 1)) 0) (fuO (G.2.1 (F a 10)) (mw (G.2.1 (F a 1)) 0) (mw (G.2.1 (F a 2)) 0) 1) ≠ -1 ∧ r.toInt = -5 ∧ mw (u.2.1 (F a 1)) 0 = mw (G.2.1 (F a 2)) 0) ∨ (ffP (G.2.1 (F a 10)) (mw (G.2.1 (F a 1)) 0) (fuO (G.2.1 (F a 10)) (mw (G.2.1 (F a 1)) 0) (mw (G.2.1 (F a 2)) 0) 1) = -1 ∧ mw (u.2.1 (F a 1)) 0 = (mw (G.2.1 (F a 1)) 0) ∧ r.toInt = (((fuO (G.2.1 (F a 10)) (mw (G.2.1 (F a 1)) 0) (mw (G.2.1 (F a 2)) 0) 1).length : Nat) : Int))))) ∧ (RM (u.2.1 (F a 1)) 0)) (fun u H => TW E K F u H)) 0 0 (xA E) := by
  refine x_enter (by decide) (Nat.le_of_ble_eq_true rfl) ?_
  intro p e s m args below meth c Q S hr hlk hnm hQ hP ls hl
  obtain ⟨hz, hK, hT⟩ := hP
  obtain ⟨hx, hb, -, -, -⟩ := id S
  obtain ⟨H, hT, hS, hgo⟩ : ∃ H : Heap, TW E K F G H ∧ va_S (xA E) s.heap H [] ∧ H = s.heap := ⟨_, hT, va_S.rf, rfl⟩
  rw [← hgo]
  have hl : lv_has ls 1 [(0, .ref a)] := hl
  obtain ⟨hk9999, hj9999⟩ := fkX11_15 hT ha
  obtain ⟨hk9999a, hj9999a⟩ := fkX11_17 hT ha
  obtain ⟨hk9999b, hj9999b⟩ := fkX11_18 hT ha
  obtain ⟨hk9999c, hj9999c⟩ := fkX11_11 hT ha
  obtain ⟨hk9999d, hj9999d⟩ := fkX11_13 hT ha
  obtain ⟨hk9999e, hj9999e⟩ := fkX11_22 hT ha
  obtain ⟨hk9999f, hj9999f⟩ := fkX11_41 hT ha
  obtain ⟨hk9999g, hj9999g⟩ := fkX11_42 hT ha
  obtain ⟨hk9999h, hj9999h⟩ := fkX11_9 hT ha
  obtain ⟨hk9999i, hj9999i⟩ := fkX11_1 hT ha
  obtain ⟨hk9999j, hj9999j⟩ := fkX11_10 hT ha
  obtain ⟨hk9999k, hj9999k⟩ := fkX11_2 hT ha
  refine lv_aload_n hx hb dX11_commit_0 rfl (lv_at hl 0 rfl) ?_
  refine lv_iconst (v := 0) hx hb dX11_commit_1 (by decide) ?_
  refine pX11_0 (v := 0) S hK hT hS ha kf_X11_134 dX11_commit_2 (fun H locs hT hS => ?_)
  obtain ⟨G2, hG2⟩ : ∃ GG : XG, GG = dput G a 0 0 := ⟨_, rfl⟩
  rw [← hG2] at hT
  refine lv_aload_n hx hb dX11_commit_5 rfl (lv_at hl 0 rfl) ?_
  refine x_cv0 (x_runV (b := a) (As := []) (rest := []) S (c_X11_nothing l E K F G2 a ha) mv_X11_nothing km_X11_231 rfl rfl ⟨Nat.le_of_ble_eq_true rfl, Nat.le_of_ble_eq_true rfl⟩ (rc_13 hK hT ha) hK (fun _ => XP.blind) (fun U hU hW => XP.at hK hz hS hT hU hW) rfl hl.1 (Nat.le_of_ble_eq_true rfl) dX11_commit_6 ⟨Nat.le_of_ble_eq_true rfl, Nat.le_of_ble_eq_true rfl⟩) hS ?_
  rintro G6 H locs ⟨hF6, t6⟩ hT hS
  have t6 : ((G6.1 a 20).toInt) = -2147483648 ∧ ((G6.1 a 21).toInt) = -2147483648 ∧ ((G6.1 a 23).toInt) = 0 := t6
  refine lv_aload_n hx hb dX11_commit_9 rfl (lv_at hl 0 rfl) ?_
  refine gX11_6 S hK hT ha kf_X11_206 dX11_commit_10 (v := (G.1 a 6)) ((hF6.1 _ _ (xnj (by decide) (xnj (by decide) (xnj (by decide) xn0)))).trans (ld_j hG2 (by decide))) (fun hz10 => ?_)
  refine xi_zne (tgt := 19) hx hb (rfl : Int32.toInt (G.1 a 6) = ((G.1 a 6).toInt)) dX11_commit_13 (by decide) (fun c13 => ?_) (fun c13 => ?_)
  · refine lv_aload_n hx hb dX11_commit_19 rfl (lv_at hl 0 rfl) ?_
    refine x_cv0 (x_runV (b := a) (As := []) (rest := []) S (c_X11_findQueue l E K F G6 a ha (v_X11_commit_20_1 (F := F) a G G6 hR ((hF6.2.1 _ xn0).trans (ld_c hG2))) (v_X11_commit_20_2 (F := F) a G G6 hM hB ((hF6.2.1 _ xn0).trans (ld_c hG2))) (v_X11_commit_20_3 (F := F) a G G6 hM hB ((hF6.2.1 _ xn0).trans (ld_c hG2)))) mv_X11_findQueue km_X11_218 rfl rfl ⟨Nat.le_of_ble_eq_true rfl, Nat.le_of_ble_eq_true rfl⟩ (rc_13 hK hT ha) hK (fun _ => XP.blind) (fun U hU hW => XP.at hK hz hS hT hU hW) rfl hl.1 (Nat.le_of_ble_eq_true rfl) dX11_commit_20 ⟨Nat.le_of_ble_eq_true rfl, Nat.le_of_ble_eq_true rfl⟩) hS ?_
    rintro G20 H locs ⟨hF20, t20, oq20, oq20a, oq20b⟩ hT hS
    have t20 : 0 ≤ ((G20.1 a 19).toInt) ∧ ((G20.1 a 19).toInt) ≤ 2388 := t20
    have oq20 : pL G20 F a = if ((G.1 a 6).toInt) = 0 then [] else fuO (G.2.1 (F a 10)) (mw (G.2.1 (F a 1)) 0) (mw (G.2.1 (F a 2)) 0) 1 := by simp only [(show G6.1 a 6 = G.1 a 6 from ((hF6.1 _ _ (xnj (by decide) (xnj (by decide) (xnj (by decide) xn0)))).trans (ld_j hG2 (by decide)))), (show G6.2.1 (F a 10) = G.2.1 (F a 10) from ((hF6.2.1 _ xn0).trans (ld_c hG2))), (show G6.2.1 (F a 1) = G.2.1 (F a 1) from ((hF6.2.1 _ xn0).trans (ld_c hG2))), (show G6.2.1 (F a 2) = G.2.1 (F a 2) from ((hF6.2.1 _ xn0).trans (ld_c hG2)))] at oq20; exact oq20
    have oq20a : ((G.1 a 6).toInt) ≠ 0 → LSt (G.2.1 (F a 10)) (G20.2.1 (F a 11)) (mw (G.2.1 (F a 1)) 0) 12 ∧ LSt (G.2.1 (F a 10)) (G20.2.1 (F a 13)) (mw (G.2.1 (F a 2)) 0) 12 := by simp only [(show G6.1 a 6 = G.1 a 6 from ((hF6.1 _ _ (xnj (by decide) (xnj (by decide) (xnj (by decide) xn0)))).trans (ld_j hG2 (by decide)))), (show G6.2.1 (F a 10) = G.2.1 (F a 10) from ((hF6.2.1 _ xn0).trans (ld_c hG2))), (show G6.2.1 (F a 1) = G.2.1 (F a 1) from ((hF6.2.1 _ xn0).trans (ld_c hG2))), (show G6.2.1 (F a 2) = G.2.1 (F a 2) from ((hF6.2.1 _ xn0).trans (ld_c hG2)))] at oq20a; exact oq20a
    have hv20 : PV (G.2.1 (F a 10)) (pL G20 F a) := (v_X11_commit_23_4 (K := K) (F := F) a G G6 G20 ha oq20 oq20a oq20b am t6 (xzi hz10) c13 t20)
    refine lv_aload_n hx hb dX11_commit_23 rfl (lv_at hl 0 rfl) ?_
    refine lv_aload_n hx hb dX11_commit_24 rfl (lv_at hl 0 rfl) ?_
    refine x_clp (x_runV (b := a) (As := []) (rest := [.ref a]) S (c_X11_firstFailing l E K F G20 H a ha (z_X11_commit_1 ((G20.1 a 19).toInt) t20) (v_X11_commit_25_5 (F := F) a G G20 hR ((hF20.2.1 _ (xn1 (xne_k hk9999j hk9999 (by decide)) (xn1 (xne_k hk9999j hk9999a (by decide)) (xn1 (xne_k hk9999j hk9999b (by decide)) (xn1 (xne_k hk9999j hk9999c (by decide)) (xn1 (xne_k hk9999j hk9999d (by decide)) xn0)))))).trans ((hF6.2.1 _ xn0).trans (ld_c hG2)))) (v_X11_commit_25_6 (F := F) a G G20 hM hB ((hF20.2.1 _ (xn1 (xne_k hk9999i hk9999 (by decide)) (xn1 (xne_k hk9999i hk9999a (by decide)) (xn1 (xne_k hk9999i hk9999b (by decide)) (xn1 (xne_k hk9999i hk9999c (by decide)) (xn1 (xne_k hk9999i hk9999d (by decide)) xn0)))))).trans ((hF6.2.1 _ xn0).trans (ld_c hG2)))) (v_X11_commit_25_7 (F := F) a G G20 hv20 ((hF20.2.1 _ (xn1 (xne_k hk9999j hk9999 (by decide)) (xn1 (xne_k hk9999j hk9999a (by decide)) (xn1 (xne_k hk9999j hk9999b (by decide)) (xn1 (xne_k hk9999j hk9999c (by decide)) (xn1 (xne_k hk9999j hk9999d (by decide)) xn0)))))).trans ((hF6.2.1 _ xn0).trans (ld_c hG2))))) mv_X11_firstFailing km_X11_313 rfl rfl ⟨Nat.le_of_ble_eq_true rfl, Nat.le_of_ble_eq_true rfl⟩ (rc_13 hK hT ha) hK (fun _ => XPh.blind) (fun U hU hW => XPh.at hK hz hS hT hU hW) rfl hl.1 (Nat.le_of_ble_eq_true rfl) dX11_commit_25 ⟨Nat.le_of_ble_eq_true rfl, Nat.le_of_ble_eq_true rfl⟩) hS ?_
    rintro _ _ locs ⟨x25, rfl, t25, oq25⟩ hS
    have t25 : -1 ≤ x25.toInt ∧ x25.toInt < ((G20.1 a 19).toInt) := t25
    have oq25 : x25.toInt = ffP (G.2.1 (F a 10)) (mw (G.2.1 (F a 1)) 0) (pL G20 F a) := by simp only [(show G20.2.1 (F a 10) = G.2.1 (F a 10) from ((hF20.2.1 _ (xn1 (xne_k hk9999j hk9999 (by decide)) (xn1 (xne_k hk9999j hk9999a (by decide)) (xn1 (xne_k hk9999j hk9999b (by decide)) (xn1 (xne_k hk9999j hk9999c (by decide)) (xn1 (xne_k hk9999j hk9999d (by decide)) xn0)))))).trans ((hF6.2.1 _ xn0).trans (ld_c hG2)))), (show G20.2.1 (F a 1) = G.2.1 (F a 1) from ((hF20.2.1 _ (xn1 (xne_k hk9999i hk9999 (by decide)) (xn1 (xne_k hk9999i hk9999a (by decide)) (xn1 (xne_k hk9999i hk9999b (by decide)) (xn1 (xne_k hk9999i hk9999c (by decide)) (xn1 (xne_k hk9999i hk9999d (by decide)) xn0)))))).trans ((hF6.2.1 _ xn0).trans (ld_c hG2))))] at oq25; exact oq25
    refine pX11_46 (v := x25) S hK hT hS ha kf_X11_322 dX11_commit_28 (fun H locs hT hS => ?_)
    obtain ⟨G28, hG28⟩ : ∃ GG : XG, GG = dput G20 a 46 x25 := ⟨_, rfl⟩
    rw [← hG28] at hT
    refine lv_aload_n hx hb dX11_commit_31 rfl (lv_at hl 0 rfl) ?_
    refine x_cv0 (x_runV (b := a) (As := []) (rest := []) S (c_X11_takeAsked l E K F G28 a ha (by rw [(show (G28.1 a 19).toInt = ((G20.1 a 19).toInt) from (congrArg Int32.toInt (ld_j hG28 (by decide))).trans (rfl : Int32.toInt (G20.1 a 19) = ((G20.1 a 19).toInt))), (show (G28.1 a 46).toInt = x25.toInt from (congrArg Int32.toInt (ld_at hG28)).trans (rfl : Int32.toInt x25 = x25.toInt))] <;> exact (z_X11_commit_2 x25.toInt ((G20.1 a 19).toInt) t20 t25))) mv_X11_takeAsked km_X11_337 rfl rfl ⟨Nat.le_of_ble_eq_true rfl, Nat.le_of_ble_eq_true rfl⟩ (rc_13 hK hT ha) hK (fun _ => XP.blind) (fun U hU hW => XP.at hK hz hS hT hU hW) rfl hl.1 (Nat.le_of_ble_eq_true rfl) dX11_commit_32 ⟨Nat.le_of_ble_eq_true rfl, Nat.le_of_ble_eq_true rfl⟩) hS ?_
    rintro G32 H locs ⟨hF32, t32, oq32⟩ hT hS
    have t32 : 0 ≤ ((G32.1 a 43).toInt) ∧ ((G32.1 a 43).toInt) ≤ 2388 ∧ ((G32.1 a 44).toInt) = x25.toInt ∧ ((x25.toInt = -1 ∧ ((G32.1 a 43).toInt) = ((G20.1 a 19).toInt)) ∨ (x25.toInt ≠ -1 ∧ ((G32.1 a 43).toInt) = x25.toInt + 1)) := by rw [(show (G28.1 a 46).toInt = x25.toInt from (congrArg Int32.toInt (ld_at hG28)).trans (rfl : Int32.toInt x25 = x25.toInt))] at t32; rw [(show (G28.1 a 19).toInt = ((G20.1 a 19).toInt) from (congrArg Int32.toInt (ld_j hG28 (by decide))).trans (rfl : Int32.toInt (G20.1 a 19) = ((G20.1 a 19).toInt)))] at t32; exact t32
    have oq32 : ((G28.1 a 46).toInt) < ((G20.1 a 19).toInt) → aL G32 F a = (pL G28 F a).take ((G32.1 a 43).toInt).toNat := by simp only [(show G28.1 a 19 = G20.1 a 19 from (ld_j hG28 (by decide)))] at oq32; exact oq32
    refine lv_aload_n hx hb dX11_commit_35 rfl (lv_at hl 0 rfl) ?_
    refine lv_iconst (v := 0) hx hb dX11_commit_36 (by decide) ?_
    refine pX11_6 (v := 0) S hK hT hS ha kf_X11_206 (Or.inl rfl) dX11_commit_37 (fun H locs hT hS => ?_)
    obtain ⟨G37, hG37⟩ : ∃ GG : XG, GG = dput G32 a 6 0 := ⟨_, rfl⟩
    rw [← hG37] at hT
    refine lv_aload_n hx hb dX11_commit_40 rfl (lv_at hl 0 rfl) ?_
    refine gX11_46 S hK hT ha kf_X11_322 dX11_commit_41 (v := x25) ((ld_j hG37 (by decide)).trans ((hF32.1 _ _ (xnj (by decide) (xnj (by decide) xn0))).trans (ld_at hG28))) (?_)
    refine lv_iconst (v := (-1)) hx hb dX11_commit_44 (by decide) ?_
    refine xi_ceq (tgt := 96) hx hb (rfl : Int32.toInt x25 = x25.toInt) ((by decide) : Int32.toInt (-1) = (-1 : Int)) dX11_commit_45 (by decide) (fun c45 => ?_) (fun c45 => ?_)
    · refine lv_aload_n hx hb dX11_commit_96 rfl (lv_at hl 0 rfl) ?_
      refine gX11_9 S hK hT ha kf_X11_30 dX11_commit_97 (fun _ _ => ?_)
      refine lv_iconst (v := 1) hx hb dX11_commit_100 (by decide) ?_
      refine lv_dup2_11 hx hb dX11_commit_101 rfl rfl ?_
      refine al_0 S hK hT hk9999h ar_36 (by decide) (by decide) dX11_commit_102 (fun x102 hv102 o102 => ?_)
      have hv102 : x102.toInt = (aI (G32.2.1 (F a 9)) 1) := hv102.trans (by rw [((by decide) : Int32.toInt 1 = (1 : Int)), ((ld_c hG37) : G37.2.1 (F a 9) = G32.2.1 (F a 9))])
      refine lv_iconst (v := 1) hx hb dX11_commit_103 (by decide) ?_
      refine xi_iadd hx hb (hv102 : Int32.toInt x102 = (aI (G32.2.1 (F a 9)) 1)) ((by decide) : Int32.toInt 1 = (1 : Int)) dX11_commit_104 (fun x104 t104 => ?_)
      refine as_0 (x := x104) S hK hT hS hk9999h ar_36 aw_36 (by decide) (by decide) dX11_commit_105 (fun H locs hT hS => ?_)
      obtain ⟨G105, hG105⟩ : ∃ GG : XG, GG = cput G37 (F a 9) (1 : Int32).toNatClampNeg x104 := ⟨_, rfl⟩
      rw [← hG105] at hT
      refine lv_aload_n hx hb dX11_commit_106 rfl (lv_at hl 0 rfl) ?_
      refine gX11_43 S hK hT ha kf_X11_340 dX11_commit_107 (v := (G32.1 a 43)) ((lc_d hG105).trans (ld_j hG37 (by decide))) (?_)
      exact x_ri hx hb hr hlk hQ (Nat.le_of_ble_eq_true rfl) (Nat.le_of_ble_eq_true rfl) hS dX11_commit_110 G105 ⟨_, rfl, (by rw [hG105]; exact XFr.cput (by rw [hG37]; exact XFr.dput (XFr.call (by rw [hG28]; exact XFr.dput (XFr.call (XFr.call (by rw [hG2]; exact XFr.dput XFr.rf (List.mem_of_getElem? (i := 7) rfl)) hF6 (xm1 2 rfl (xm1 3 rfl (xm1 4 rfl xm0))) xm0 xm0) hF20 (xm1 0 rfl (xm1 1 rfl xm0)) (xm1 0 rfl (xm1 1 rfl (xm1 2 rfl (xm1 3 rfl (xm1 4 rfl xm0))))) xm0) (List.mem_of_getElem? (i := 9) rfl)) hF32 (xm1 5 rfl (xm1 6 rfl xm0)) (xm1 6 rfl (xm1 7 rfl (xm1 8 rfl xm0))) xm0) (List.mem_of_getElem? (i := 8) rfl)) (List.mem_of_getElem? (i := 8) rfl)), (by rw [(show (G105.1 a 6).toInt = (0 : Int) from (congrArg Int32.toInt ((lc_d hG105).trans (ld_at hG37))).trans ((by decide) : Int32.toInt 0 = (0 : Int))), (show (G105.1 a 23).toInt = ((G6.1 a 23).toInt) from (congrArg Int32.toInt ((lc_d hG105).trans ((ld_j hG37 (by decide)).trans ((hF32.1 _ _ (xnj (by decide) (xnj (by decide) xn0))).trans ((ld_j hG28 (by decide)).trans (hF20.1 _ _ (xnj (by decide) (xnj (by decide) xn0)))))))).trans (rfl : Int32.toInt (G6.1 a 23) = ((G6.1 a 23).toInt))), (show (G105.1 a 43).toInt = ((G32.1 a 43).toInt) from (congrArg Int32.toInt ((lc_d hG105).trans (ld_j hG37 (by decide)))).trans (rfl : Int32.toInt (G32.1 a 43) = ((G32.1 a 43).toInt)))] <;> exact (z_X11_commit_3 ((G.1 a 6).toInt) ((G32.1 a 43).toInt) ((G6.1 a 20).toInt) ((G6.1 a 21).toInt) ((G6.1 a 23).toInt) t6 c13 (t32).1 (t32).2.1)), (v_X11_commit_110_8 (K := K) (F := F) a G G6 G20 G28 x25 G32 G105 ha oq20 oq20a oq20b oq25 oq32 am t6 (xzi hz10) c13 t20 t25 t32 c45 ((lc_c hG105 (xne_k hk9999i hk9999h (by decide))).trans ((ld_c hG37).trans ((hF32.2.1 _ (xn1 (xne_k hk9999i hk9999f (by decide)) (xn1 (xne_k hk9999i hk9999g (by decide)) (xn1 (xne_k hk9999i hk9999h (by decide)) xn0)))).trans ((ld_c hG28).trans ((hF20.2.1 _ (xn1 (xne_k hk9999i hk9999 (by decide)) (xn1 (xne_k hk9999i hk9999a (by decide)) (xn1 (xne_k hk9999i hk9999b (by decide)) (xn1 (xne_k hk9999i hk9999c (by decide)) (xn1 (xne_k hk9999i hk9999d (by decide)) xn0)))))).trans ((hF6.2.1 _ xn0).trans (ld_c hG2)))))))), (v_X11_commit_110_9 (F := F) a G G105 hM ((lc_c hG105 (xne_k hk9999i hk9999h (by decide))).trans ((ld_c hG37).trans ((hF32.2.1 _ (xn1 (xne_k hk9999i hk9999f (by decide)) (xn1 (xne_k hk9999i hk9999g (by decide)) (xn1 (xne_k hk9999i hk9999h (by decide)) xn0)))).trans ((ld_c hG28).trans ((hF20.2.1 _ (xn1 (xne_k hk9999i hk9999 (by decide)) (xn1 (xne_k hk9999i hk9999a (by decide)) (xn1 (xne_k hk9999i hk9999b (by decide)) (xn1 (xne_k hk9999i hk9999c (by decide)) (xn1 (xne_k hk9999i hk9999d (by decide)) xn0)))))).trans ((hF6.2.1 _ xn0).trans (ld_c hG2))))))))⟩ hT
    · have z48 : (0 ≤ (aI (G20.2.1 (F a 17)) (x25.toInt)) ∧ (aI (G20.2.1 (F a 17)) (x25.toInt)) ≤ 11) ∧ (aI (G.2.1 (F a 10)) (10 * aI (G20.2.1 (F a 17)) (x25.toInt) + 0)) ≠ -1 ∧ ((sF (aI (G.2.1 (F a 10)) (10 * aI (G20.2.1 (F a 17)) (x25.toInt) + 0))) ≤ (aI (G20.2.1 (F a 18)) (x25.toInt)) ∧ (aI (G20.2.1 (F a 18)) (x25.toInt)) ≤ (sL (aI (G.2.1 (F a 10)) (10 * aI (G20.2.1 (F a 17)) (x25.toInt) + 0)))) := pv_at hv20 (z_X11_commit_4 x25.toInt ((G20.1 a 19).toInt) t25 c45)
      have z48a : ((sF (aI (G.2.1 (F a 10)) (10 * aI (G20.2.1 (F a 17)) (x25.toInt) + 0))) = 0 ∨ (sF (aI (G.2.1 (F a 10)) (10 * aI (G20.2.1 (F a 17)) (x25.toInt) + 0))) = -99) ∧ ((sL (aI (G.2.1 (F a 10)) (10 * aI (G20.2.1 (F a 17)) (x25.toInt) + 0))) = 29 ∨ (sL (aI (G.2.1 (F a 10)) (10 * aI (G20.2.1 (F a 17)) (x25.toInt) + 0))) = 99) := sFLb _
      refine lv_aload_n hx hb dX11_commit_48 rfl (lv_at hl 0 rfl) ?_
      refine lv_aload_n hx hb dX11_commit_49 rfl (lv_at hl 0 rfl) ?_
      refine gX11_17 S hK hT ha kf_X11_51 dX11_commit_50 (fun _ _ => ?_)
      refine lv_aload_n hx hb dX11_commit_53 rfl (lv_at hl 0 rfl) ?_
      refine gX11_46 S hK hT ha kf_X11_322 dX11_commit_54 (v := x25) ((ld_j hG37 (by decide)).trans ((hF32.1 _ _ (xnj (by decide) (xnj (by decide) xn0))).trans (ld_at hG28))) (?_)
      refine al_0 S hK hT hk9999a ar_43 (by decide) (z_X11_commit_5 x25.toInt ((G20.1 a 19).toInt) t20 t25 c45) dX11_commit_57 (fun x57 hv57 o57 => ?_)
      have hv57 : x57.toInt = (aI (G20.2.1 (F a 17)) (x25.toInt)) := hv57.trans (by rw [(rfl : Int32.toInt x25 = x25.toInt), (((ld_c hG37).trans ((hF32.2.1 _ (xn1 (xne_k hk9999a hk9999f (by decide)) (xn1 (xne_k hk9999a hk9999g (by decide)) (xn1 (xne_k hk9999a hk9999h (by decide)) xn0)))).trans (ld_c hG28))) : G37.2.1 (F a 17) = G20.2.1 (F a 17))])
      refine lv_aload_n hx hb dX11_commit_58 rfl (lv_at hl 0 rfl) ?_
      refine gX11_18 S hK hT ha kf_X11_54 dX11_commit_59 (fun _ _ => ?_)
      refine lv_aload_n hx hb dX11_commit_62 rfl (lv_at hl 0 rfl) ?_
      refine gX11_46 S hK hT ha kf_X11_322 dX11_commit_63 (v := x25) ((ld_j hG37 (by decide)).trans ((hF32.1 _ _ (xnj (by decide) (xnj (by decide) xn0))).trans (ld_at hG28))) (?_)
      refine al_0 S hK hT hk9999b ar_44 (by decide) (z_X11_commit_5 x25.toInt ((G20.1 a 19).toInt) t20 t25 c45) dX11_commit_66 (fun x66 hv66 o66 => ?_)
      have hv66 : x66.toInt = (aI (G20.2.1 (F a 18)) (x25.toInt)) := hv66.trans (by rw [(rfl : Int32.toInt x25 = x25.toInt), (((ld_c hG37).trans ((hF32.2.1 _ (xn1 (xne_k hk9999b hk9999f (by decide)) (xn1 (xne_k hk9999b hk9999g (by decide)) (xn1 (xne_k hk9999b hk9999h (by decide)) xn0)))).trans (ld_c hG28))) : G37.2.1 (F a 18) = G20.2.1 (F a 18))])
      refine x_cv0 (x_runV (b := a) (As := [.int x57, .int x66]) (rest := []) S (c_X11_failed l E K F G37 a x57 x66 ha (by rw [(hv57 : Int32.toInt x57 = (aI (G20.2.1 (F a 17)) (x25.toInt)))] <;> exact ((z48).1)) (by rw [(hv66 : Int32.toInt x66 = (aI (G20.2.1 (F a 18)) (x25.toInt)))] <;> exact (z_X11_commit_8 (aI (G20.2.1 (F a 18)) (x25.toInt)) (sF (aI (G.2.1 (F a 10)) (10 * aI (G20.2.1 (F a 17)) (x25.toInt) + 0))) (sL (aI (G.2.1 (F a 10)) (10 * aI (G20.2.1 (F a 17)) (x25.toInt) + 0))) (z48).2.2 (z48a).1 (z48a).2))) mv_X11_failed km_X11_299 rfl rfl ⟨Nat.le_of_ble_eq_true rfl, Nat.le_of_ble_eq_true rfl⟩ (rc_13 hK hT ha) hK (fun _ => XP.blind) (fun U hU hW => XP.at hK hz hS hT hU hW) rfl hl.1 (Nat.le_of_ble_eq_true rfl) dX11_commit_67 ⟨Nat.le_of_ble_eq_true rfl, Nat.le_of_ble_eq_true rfl⟩) hS ?_
      rintro G67 H locs ⟨hF67, t67⟩ hT hS
      have t67 : ((G67.1 a 20).toInt) = (aI (G20.2.1 (F a 17)) (x25.toInt)) ∧ ((G67.1 a 21).toInt) = (aI (G20.2.1 (F a 18)) (x25.toInt)) ∧ 0 ≤ ((G67.1 a 23).toInt) ∧ ((G67.1 a 23).toInt) ≤ 24 := by rw [(hv57 : Int32.toInt x57 = (aI (G20.2.1 (F a 17)) (x25.toInt)))] at t67; rw [(hv66 : Int32.toInt x66 = (aI (G20.2.1 (F a 18)) (x25.toInt)))] at t67; exact t67
      refine lv_aload_n hx hb dX11_commit_70 rfl (lv_at hl 0 rfl) ?_
      refine gX11_2 S hK hT ha kf_X11_15 dX11_commit_71 (fun _ _ => ?_)
      refine lv_iconst (v := 0) hx hb dX11_commit_74 (by decide) ?_
      refine lv_aload_n hx hb dX11_commit_75 rfl (lv_at hl 0 rfl) ?_
      refine gX11_1 S hK hT ha kf_X11_9 dX11_commit_76 (fun _ _ => ?_)
      refine lv_iconst (v := 0) hx hb dX11_commit_79 (by decide) ?_
      refine x_cv0 (x_runS (As := [.ref (F a 2), .int 0, .ref (F a 1), .int 0]) (rest := []) S (c_X11_copy l E K F G67 (F a 2) 0 (F a 1) 0 (XO.b hk9999k (by decide)) (XO.a hk9999i (by decide)) (v_X11_commit_80_10 (K := K) (F := F) a G2 G G6 G20 G28 x25 G32 G37 G67 x57 x66 ha hk9999 hj9999 hk9999a hj9999a hk9999b hj9999b hk9999c hj9999c hk9999d hj9999d hk9999e hj9999e hk9999f hj9999f hk9999g hj9999g hk9999h hj9999h hk9999i hj9999i hk9999j hj9999j hk9999k hj9999k hG2 hF6 hF20 hG28 hF32 hG37 hF67 hR hM hB oq20 oq20a oq20b hv20 oq25 oq32 hv57 hv66 am t6 (xzi hz10) c13 t20 t25 t32 c45 z48 z48a t67 ((hF6.2.1 _ xn0).trans (ld_c hG2)) ((hF67.2.1 _ (xn1 (xne_k hk9999i hk9999e (by decide)) xn0)).trans ((ld_c hG37).trans ((hF32.2.1 _ (xn1 (xne_k hk9999i hk9999f (by decide)) (xn1 (xne_k hk9999i hk9999g (by decide)) (xn1 (xne_k hk9999i hk9999h (by decide)) xn0)))).trans ((ld_c hG28).trans ((hF20.2.1 _ (xn1 (xne_k hk9999i hk9999 (by decide)) (xn1 (xne_k hk9999i hk9999a (by decide)) (xn1 (xne_k hk9999i hk9999b (by decide)) (xn1 (xne_k hk9999i hk9999c (by decide)) (xn1 (xne_k hk9999i hk9999d (by decide)) xn0)))))).trans ((hF6.2.1 _ xn0).trans (ld_c hG2))))))) ((hF67.2.1 _ (xn1 (xne_k hk9999c hk9999e (by decide)) xn0)).trans ((ld_c hG37).trans ((hF32.2.1 _ (xn1 (xne_k hk9999c hk9999f (by decide)) (xn1 (xne_k hk9999c hk9999g (by decide)) (xn1 (xne_k hk9999c hk9999h (by decide)) xn0)))).trans (ld_c hG28)))) ((hF67.2.1 _ (xn1 (xne_k hk9999d hk9999e (by decide)) xn0)).trans ((ld_c hG37).trans ((hF32.2.1 _ (xn1 (xne_k hk9999d hk9999f (by decide)) (xn1 (xne_k hk9999d hk9999g (by decide)) (xn1 (xne_k hk9999d hk9999h (by decide)) xn0)))).trans (ld_c hG28)))) ((hF67.2.1 _ (xn1 (xne_k hk9999 hk9999e (by decide)) xn0)).trans ((ld_c hG37).trans ((hF32.2.1 _ (xn1 (xne_k hk9999 hk9999f (by decide)) (xn1 (xne_k hk9999 hk9999g (by decide)) (xn1 (xne_k hk9999 hk9999h (by decide)) xn0)))).trans (ld_c hG28)))) ((hF67.2.1 _ (xn1 (xne_k hk9999a hk9999e (by decide)) xn0)).trans ((ld_c hG37).trans ((hF32.2.1 _ (xn1 (xne_k hk9999a hk9999f (by decide)) (xn1 (xne_k hk9999a hk9999g (by decide)) (xn1 (xne_k hk9999a hk9999h (by decide)) xn0)))).trans (ld_c hG28)))) ((hF67.2.1 _ (xn1 (xne_k hk9999b hk9999e (by decide)) xn0)).trans ((ld_c hG37).trans ((hF32.2.1 _ (xn1 (xne_k hk9999b hk9999f (by decide)) (xn1 (xne_k hk9999b hk9999g (by decide)) (xn1 (xne_k hk9999b hk9999h (by decide)) xn0)))).trans (ld_c hG28)))) ((hF67.2.1 _ (xn1 (xne_k hk9999k hk9999e (by decide)) xn0)).trans ((ld_c hG37).trans ((hF32.2.1 _ (xn1 (xne_k hk9999k hk9999f (by decide)) (xn1 (xne_k hk9999k hk9999g (by decide)) (xn1 (xne_k hk9999k hk9999h (by decide)) xn0)))).trans ((ld_c hG28).trans ((hF20.2.1 _ (xn1 (xne_k hk9999k hk9999 (by decide)) (xn1 (xne_k hk9999k hk9999a (by decide)) (xn1 (xne_k hk9999k hk9999b (by decide)) (xn1 (xne_k hk9999k hk9999c (by decide)) (xn1 (xne_k hk9999k hk9999d (by decide)) xn0)))))).trans ((hF6.2.1 _ xn0).trans (ld_c hG2))))))) ((hF67.2.1 _ (xn1 (xne_k hk9999f hk9999e (by decide)) xn0)).trans (ld_c hG37)) ((hF67.2.1 _ (xn1 (xne_k hk9999g hk9999e (by decide)) xn0)).trans (ld_c hG37)) ((hF67.2.1 _ (xn1 (xne_k hk9999h hk9999e (by decide)) xn0)).trans (ld_c hG37)) (ld_at hG28) ((hF67.1 _ _ (xnj (by decide) (xnj (by decide) (xnj (by decide) xn0)))).trans ((ld_j hG37 (by decide)).trans ((hF32.1 _ _ (xnj (by decide) (xnj (by decide) xn0))).trans ((ld_j hG28 (by decide)).trans ((hF20.1 _ _ (xnj (by decide) (xnj (by decide) xn0))).trans ((hF6.1 _ _ (xnj (by decide) (xnj (by decide) (xnj (by decide) xn0)))).trans (ld_at hG2))))))) ((hF67.1 _ _ (xnj (by decide) (xnj (by decide) (xnj (by decide) xn0)))).trans ((ld_j hG37 (by decide)).trans ((hF32.1 _ _ (xnj (by decide) (xnj (by decide) xn0))).trans (ld_j hG28 (by decide))))) ((hF67.1 _ _ (xnj (by decide) (xnj (by decide) (xnj (by decide) xn0)))).trans ((ld_j hG37 (by decide)).trans ((hF32.1 _ _ (xnj (by decide) (xnj (by decide) xn0))).trans (ld_j hG28 (by decide))))) ((hF67.1 _ _ (xnj (by decide) (xnj (by decide) (xnj (by decide) xn0)))).trans (ld_j hG37 (by decide))) ((hF67.1 _ _ (xnj (by decide) (xnj (by decide) (xnj (by decide) xn0)))).trans (ld_j hG37 (by decide))) ((hF67.1 _ _ (xnj (by decide) (xnj (by decide) (xnj (by decide) xn0)))).trans ((ld_j hG37 (by decide)).trans ((hF32.1 _ _ (xnj (by decide) (xnj (by decide) xn0))).trans (ld_at hG28)))) ((hF67.1 _ _ (xnj (by decide) (xnj (by decide) (xnj (by decide) xn0)))).trans (ld_at hG37)))) ms_X11_copy km_X11_309 rfl rfl ⟨Nat.le_of_ble_eq_true rfl, Nat.le_of_ble_eq_true rfl⟩ hK (fun _ => XP.blind) (fun U hU hW => XP.at hK hz hS hT hU hW) rfl hl.1 (Nat.le_of_ble_eq_true rfl) dX11_commit_80 ⟨Nat.le_of_ble_eq_true rfl, Nat.le_of_ble_eq_true rfl⟩) hS ?_
      rintro G80 H locs ⟨hF80, oq80⟩ hT hS
      refine lv_aload_n hx hb dX11_commit_83 rfl (lv_at hl 0 rfl) ?_
      refine gX11_9 S hK hT ha kf_X11_30 dX11_commit_84 (fun _ _ => ?_)
      refine lv_iconst (v := 2) hx hb dX11_commit_87 (by decide) ?_
      refine lv_dup2_11 hx hb dX11_commit_88 rfl rfl ?_
      refine al_0 S hK hT hk9999h ar_36 (by decide) (by decide) dX11_commit_89 (fun x89 hv89 o89 => ?_)
      have hv89 : x89.toInt = (aI (G32.2.1 (F a 9)) 2) := hv89.trans (by rw [((by decide) : Int32.toInt 2 = (2 : Int)), (((hF80.2.1 _ (xn1 (xne_k hk9999h hk9999i (by decide)) xn0)).trans ((hF67.2.1 _ (xn1 (xne_k hk9999h hk9999e (by decide)) xn0)).trans (ld_c hG37))) : G80.2.1 (F a 9) = G32.2.1 (F a 9))])
      refine lv_iconst (v := 1) hx hb dX11_commit_90 (by decide) ?_
      refine xi_iadd hx hb (hv89 : Int32.toInt x89 = (aI (G32.2.1 (F a 9)) 2)) ((by decide) : Int32.toInt 1 = (1 : Int)) dX11_commit_91 (fun x91 t91 => ?_)
      refine as_0 (x := x91) S hK hT hS hk9999h ar_36 aw_36 (by decide) (by decide) dX11_commit_92 (fun H locs hT hS => ?_)
      obtain ⟨G92, hG92⟩ : ∃ GG : XG, GG = cput G80 (F a 9) (2 : Int32).toNatClampNeg x91 := ⟨_, rfl⟩
      rw [← hG92] at hT
      refine lv_bipush (v := (-5)) hx hb dX11_commit_93 (by decide) ?_
      exact x_ri hx hb hr hlk hQ (Nat.le_of_ble_eq_true rfl) (Nat.le_of_ble_eq_true rfl) hS dX11_commit_95 G92 ⟨_, rfl, (by rw [hG92]; exact XFr.cput (XFr.call (XFr.call (by rw [hG37]; exact XFr.dput (XFr.call (by rw [hG28]; exact XFr.dput (XFr.call (XFr.call (by rw [hG2]; exact XFr.dput XFr.rf (List.mem_of_getElem? (i := 7) rfl)) hF6 (xm1 2 rfl (xm1 3 rfl (xm1 4 rfl xm0))) xm0 xm0) hF20 (xm1 0 rfl (xm1 1 rfl xm0)) (xm1 0 rfl (xm1 1 rfl (xm1 2 rfl (xm1 3 rfl (xm1 4 rfl xm0))))) xm0) (List.mem_of_getElem? (i := 9) rfl)) hF32 (xm1 5 rfl (xm1 6 rfl xm0)) (xm1 6 rfl (xm1 7 rfl (xm1 8 rfl xm0))) xm0) (List.mem_of_getElem? (i := 8) rfl)) hF67 (xm1 2 rfl (xm1 3 rfl (xm1 4 rfl xm0))) (xm1 5 rfl xm0) xm0) hF80 xm0 (xm1 9 rfl xm0) xm0) (List.mem_of_getElem? (i := 8) rfl)), (by rw [((by decide) : Int32.toInt (-5) = (-5 : Int)), (show (G92.1 a 6).toInt = (0 : Int) from (congrArg Int32.toInt ((lc_d hG92).trans ((hF80.1 _ _ xn0).trans ((hF67.1 _ _ (xnj (by decide) (xnj (by decide) (xnj (by decide) xn0)))).trans (ld_at hG37))))).trans ((by decide) : Int32.toInt 0 = (0 : Int))), (show (G92.1 a 23).toInt = ((G67.1 a 23).toInt) from (congrArg Int32.toInt ((lc_d hG92).trans (hF80.1 _ _ xn0))).trans (rfl : Int32.toInt (G67.1 a 23) = ((G67.1 a 23).toInt))), (show (G92.1 a 43).toInt = ((G32.1 a 43).toInt) from (congrArg Int32.toInt ((lc_d hG92).trans ((hF80.1 _ _ xn0).trans ((hF67.1 _ _ (xnj (by decide) (xnj (by decide) (xnj (by decide) xn0)))).trans (ld_j hG37 (by decide)))))).trans (rfl : Int32.toInt (G32.1 a 43) = ((G32.1 a 43).toInt)))] <;> exact (z_X11_commit_9 ((G.1 a 6).toInt) ((G32.1 a 43).toInt) ((G67.1 a 20).toInt) ((G67.1 a 21).toInt) ((G67.1 a 23).toInt) (aI (G20.2.1 (F a 17)) (x25.toInt)) (aI (G20.2.1 (F a 18)) (x25.toInt)) c13 (t32).1 (t32).2.1 t67)), (by rw [((by decide) : Int32.toInt (-5) = (-5 : Int))] <;> exact (v_X11_commit_95_11 (K := K) (F := F) a G G6 G20 G28 x25 G32 G67 G80 G92 ha oq20 oq20a oq20b oq25 oq32 oq80 am t6 (xzi hz10) c13 t20 t25 t32 c45 z48 z48a t67 ((hF67.2.1 _ (xn1 (xne_k hk9999k hk9999e (by decide)) xn0)).trans ((ld_c hG37).trans ((hF32.2.1 _ (xn1 (xne_k hk9999k hk9999f (by decide)) (xn1 (xne_k hk9999k hk9999g (by decide)) (xn1 (xne_k hk9999k hk9999h (by decide)) xn0)))).trans ((ld_c hG28).trans ((hF20.2.1 _ (xn1 (xne_k hk9999k hk9999 (by decide)) (xn1 (xne_k hk9999k hk9999a (by decide)) (xn1 (xne_k hk9999k hk9999b (by decide)) (xn1 (xne_k hk9999k hk9999c (by decide)) (xn1 (xne_k hk9999k hk9999d (by decide)) xn0)))))).trans ((hF6.2.1 _ xn0).trans (ld_c hG2))))))) (lc_c hG92 (xne_k hk9999i hk9999h (by decide))))), (v_X11_commit_95_12 (F := F) a G G67 G80 G92 hB oq80 ((hF67.2.1 _ (xn1 (xne_k hk9999k hk9999e (by decide)) xn0)).trans ((ld_c hG37).trans ((hF32.2.1 _ (xn1 (xne_k hk9999k hk9999f (by decide)) (xn1 (xne_k hk9999k hk9999g (by decide)) (xn1 (xne_k hk9999k hk9999h (by decide)) xn0)))).trans ((ld_c hG28).trans ((hF20.2.1 _ (xn1 (xne_k hk9999k hk9999 (by decide)) (xn1 (xne_k hk9999k hk9999a (by decide)) (xn1 (xne_k hk9999k hk9999b (by decide)) (xn1 (xne_k hk9999k hk9999c (by decide)) (xn1 (xne_k hk9999k hk9999d (by decide)) xn0)))))).trans ((hF6.2.1 _ xn0).trans (ld_c hG2))))))) (lc_c hG92 (xne_k hk9999i hk9999h (by decide))))⟩ hT
  · refine lv_bipush (v := (-3)) hx hb dX11_commit_16 (by decide) ?_
    exact x_ri hx hb hr hlk hQ (Nat.le_of_ble_eq_true rfl) (Nat.le_of_ble_eq_true rfl) hS dX11_commit_18 G6 ⟨_, rfl, (XFr.call (by rw [hG2]; exact XFr.dput XFr.rf (List.mem_of_getElem? (i := 7) rfl)) hF6 (xm1 2 rfl (xm1 3 rfl (xm1 4 rfl xm0))) xm0 xm0), (by rw [((by decide) : Int32.toInt (-3) = (-3 : Int)), (show (G6.1 a 6).toInt = ((G.1 a 6).toInt) from (congrArg Int32.toInt ((hF6.1 _ _ (xnj (by decide) (xnj (by decide) (xnj (by decide) xn0)))).trans (ld_j hG2 (by decide)))).trans (rfl : Int32.toInt (G.1 a 6) = ((G.1 a 6).toInt))), (show (G6.1 a 43).toInt = ((G.1 a 43).toInt) from (congrArg Int32.toInt ((hF6.1 _ _ (xnj (by decide) (xnj (by decide) (xnj (by decide) xn0)))).trans (ld_j hG2 (by decide)))).trans (rfl : Int32.toInt (G.1 a 43) = ((G.1 a 43).toInt)))] <;> exact (z_X11_commit_10 ((G.1 a 43).toInt) ((G.1 a 6).toInt) ((G6.1 a 20).toInt) ((G6.1 a 21).toInt) ((G6.1 a 23).toInt) am t6 c13)), (by rw [((by decide) : Int32.toInt (-3) = (-3 : Int))] <;> exact (v_X11_commit_18_13 (K := K) (F := F) a G G6 ha am t6 (xzi hz10) c13 ((hF6.2.1 _ xn0).trans (ld_c hG2)))), (v_X11_commit_18_14 (F := F) a G G6 hM ((hF6.2.1 _ xn0).trans (ld_c hG2)))⟩ hT
theorem v_X11_later_79_1 {F : Nat → Nat → Nat} (a : Nat) (G : XG) (G6 : XG)
    (hR : RV (G.2.1 (F a 10)))
    (c_G6_F_a_10 : G6.2.1 (F a 10) = G.2.1 (F a 10)) :
    RV (G6.2.1 (F a 10)) := by simp only [c_G6_F_a_10]; assumption
theorem v_X11_later_79_2 {F : Nat → Nat → Nat} (a : Nat) (G : XG) (G6 : XG)
    (hM : RM (G.2.1 (F a 1)) (0))
    (hB : RM (G.2.1 (F a 2)) 0)
    (c_G6_F_a_1 : G6.2.1 (F a 1) = G.2.1 (F a 1)) :
    RM (G6.2.1 (F a 1)) (0) := by simp only [c_G6_F_a_1]; assumption
theorem v_X11_later_79_3 {F : Nat → Nat → Nat} (a : Nat) (G : XG) (G6 : XG)
    (hM : RM (G.2.1 (F a 1)) (0))
    (hB : RM (G.2.1 (F a 2)) 0)
    (c_G6_F_a_2 : G6.2.1 (F a 2) = G.2.1 (F a 2)) :
    RM (G6.2.1 (F a 2)) 0 := by simp only [c_G6_F_a_2]; assumption
theorem v_X11_later_82_4 {F : Nat → Nat → Nat} (a : Nat) (G : XG) (G79 : XG)
    (oq79 : pL G79 F a = if ((G.1 a 6).toInt) = 0 then [] else fuO (G.2.1 (F a 10)) (mw (G.2.1 (F a 1)) 0) (mw (G.2.1 (F a 2)) 0) 1) :
    PV (G.2.1 (F a 10)) (pL G79 F a) := by
  rw [oq79]
  split
  · intro x hx; cases hx
  · exact fuO_pv _ _ _ _
theorem v_X11_later_171_5 {K : Nat → Nat} {F : Nat → Nat → Nat} (a : Nat) (G : XG) (G6 : XG) (G79 : XG) (G_86 : XG) (G169 : XG) (x167 : Int32) (p0 : Int32) (x79 : Int32) (l4_86 : Int32) (p1 : Int32) (x11 : Int32) (N86 : Nat)
    (ha : K a = 13)
    (hG169 : G169 = cput G_86 (F a 10) x167.toNatClampNeg 0)
    (oq79 : pL G79 F a = if ((G.1 a 6).toInt) = 0 then [] else fuO (G.2.1 (F a 10)) (mw (G.2.1 (F a 1)) 0) (mw (G.2.1 (F a 2)) 0) 1)
    (oq79a : x79.toInt = cnP (pL G79 F a) p0.toInt)
    (pl : ∀ j : Int, 0 ≤ j → j < l4_86.toInt → aI (G79.2.1 (F a 17)) j = p0.toInt → fzq (G.2.1 (F a 10)) (mw (G.2.1 (F a 1)) 0) (aI (G79.2.1 (F a 17)) j) (aI (G79.2.1 (F a 18)) j) = 0)
    (e167 : x167.toInt = (((10 : Int) * p0.toInt) + (6 : Int)))
    (z0 : p1.toInt = 0 ∨ p1.toInt = 1)
    (t6 : ((G6.1 a 20).toInt) = -2147483648 ∧ ((G6.1 a 21).toInt) = -2147483648 ∧ ((G6.1 a 23).toInt) = 0)
    (t11 : (x11.toInt = 1 ∧ 0 ≤ p0.toInt ∧ p0.toInt ≤ 11 ∧ (aI (G.2.1 (F a 10)) (10 * p0.toInt + 0)) ≠ -1) ∨ (x11.toInt = 0 ∧ (¬ (0 ≤ p0.toInt ∧ p0.toInt ≤ 11) ∨ (aI (G.2.1 (F a 10)) (10 * p0.toInt + 0)) = -1)))
    (c14 : x11.toInt ≠ 0)
    (c28 : p1.toInt = 0)
    (c36 : (aI (G.2.1 (F a 10)) (10 * p0.toInt + 6)) ≠ (0 : Int))
    (t79 : 0 ≤ x79.toInt ∧ x79.toInt ≤ 2388 ∧ 0 ≤ ((G79.1 a 19).toInt) ∧ ((G79.1 a 19).toInt) ≤ 2388)
    (I86_0 : 0 ≤ l4_86.toInt ∧ l4_86.toInt ≤ ((G79.1 a 19).toInt))
    (I86_1 : (0 : Int) ≤ l4_86.toInt)
    (hm86 : 2147483648 - l4_86.toInt < (((N86) + 1 : Nat) : Int))
    (c92 : ((G79.1 a 19).toInt) ≤ l4_86.toInt)
    (c_G_86_F_a_10 : G_86.2.1 (F a 10) = G.2.1 (F a 10)) :
    (¬ (0 ≤ p0.toInt ∧ p0.toInt ≤ 11 ∧ aI (G.2.1 (F a 10)) (10 * p0.toInt + 0) ≠ -1) ∧ x79.toInt = -2 ∧ G169.2.1 (F a 10) = (G.2.1 (F a 10))) ∨ ((0 ≤ p0.toInt ∧ p0.toInt ≤ 11 ∧ aI (G.2.1 (F a 10)) (10 * p0.toInt + 0) ≠ -1) ∧ aI (G.2.1 (F a 10)) (10 * p0.toInt + 6) = p1.toInt ∧ x79.toInt = -4 ∧ G169.2.1 (F a 10) = (G.2.1 (F a 10))) ∨ ((0 ≤ p0.toInt ∧ p0.toInt ≤ 11 ∧ aI (G.2.1 (F a 10)) (10 * p0.toInt + 0) ≠ -1) ∧ aI (G.2.1 (F a 10)) (10 * p0.toInt + 6) ≠ p1.toInt ∧ p1.toInt = 1 ∧ (∀ z : Int, 0 ≤ z → aI (G169.2.1 (F a 10)) z = if z = 10 * p0.toInt + 6 then 1 else aI (G.2.1 (F a 10)) z) ∧ x79.toInt = cnP (if ((G.1 a 6).toInt) = 0 then [] else fuO (G169.2.1 (F a 10)) (mw (G.2.1 (F a 1)) 0) (mw (G.2.1 (F a 2)) 0) 1) p0.toInt) ∨ ((0 ≤ p0.toInt ∧ p0.toInt ≤ 11 ∧ aI (G.2.1 (F a 10)) (10 * p0.toInt + 0) ≠ -1) ∧ aI (G.2.1 (F a 10)) (10 * p0.toInt + 6) ≠ p1.toInt ∧ p1.toInt = 0 ∧ ((QFl (G.2.1 (F a 10)) (mw (G.2.1 (F a 1)) 0) (if ((G.1 a 6).toInt) = 0 then [] else fuO (G.2.1 (F a 10)) (mw (G.2.1 (F a 1)) 0) (mw (G.2.1 (F a 2)) 0) 1) p0.toInt ∧ x79.toInt = -5 ∧ G169.2.1 (F a 10) = (G.2.1 (F a 10))) ∨ (¬ QFl (G.2.1 (F a 10)) (mw (G.2.1 (F a 1)) 0) (if ((G.1 a 6).toInt) = 0 then [] else fuO (G.2.1 (F a 10)) (mw (G.2.1 (F a 1)) 0) (mw (G.2.1 (F a 2)) 0) 1) p0.toInt ∧ (∀ z : Int, 0 ≤ z → aI (G169.2.1 (F a 10)) z = if z = 10 * p0.toInt + 6 then 0 else aI (G.2.1 (F a 10)) z) ∧ x79.toInt = cnP (if ((G.1 a 6).toInt) = 0 then [] else fuO (G.2.1 (F a 10)) (mw (G.2.1 (F a 1)) 0) (mw (G.2.1 (F a 2)) 0) 1) p0.toInt))) := by
  refine Or.inr (Or.inr (Or.inr ⟨by omega, by omega, by omega, Or.inr ⟨?_, aI_pu hG169 c_G_86_F_a_10 (by omega) (by decide) (by omega), (by rw [← oq79]; exact oq79a)⟩⟩))
  rw [← oq79]
  rintro ⟨x, hx, hn, hf⟩
  obtain ⟨j, hj⟩ := List.mem_iff_getElem?.mp hx
  obtain ⟨h1, rfl⟩ := pL_get hj
  have := pl (j : Int) (by omega) (by omega) hn
  rw [this] at hf
  exact absurd hf (by decide)
theorem v_X11_later_171_6 {K : Nat → Nat} {F : Nat → Nat → Nat} (a : Nat) (G : XG) (G6 : XG) (G79 : XG) (G_86 : XG) (G169 : XG) (x167 : Int32) (p0 : Int32) (x79 : Int32) (l4_86 : Int32) (p1 : Int32) (x11 : Int32) (N86 : Nat)
    (ha : K a = 13)
    (hG169 : G169 = cput G_86 (F a 10) x167.toNatClampNeg 0)
    (hR : RV (G.2.1 (F a 10)))
    (oq79a : x79.toInt = cnP (pL G79 F a) p0.toInt)
    (e167 : x167.toInt = (((10 : Int) * p0.toInt) + (6 : Int)))
    (z0 : p1.toInt = 0 ∨ p1.toInt = 1)
    (t6 : ((G6.1 a 20).toInt) = -2147483648 ∧ ((G6.1 a 21).toInt) = -2147483648 ∧ ((G6.1 a 23).toInt) = 0)
    (t11 : (x11.toInt = 1 ∧ 0 ≤ p0.toInt ∧ p0.toInt ≤ 11 ∧ (aI (G.2.1 (F a 10)) (10 * p0.toInt + 0)) ≠ -1) ∨ (x11.toInt = 0 ∧ (¬ (0 ≤ p0.toInt ∧ p0.toInt ≤ 11) ∨ (aI (G.2.1 (F a 10)) (10 * p0.toInt + 0)) = -1)))
    (c14 : x11.toInt ≠ 0)
    (c28 : p1.toInt = 0)
    (c36 : (aI (G.2.1 (F a 10)) (10 * p0.toInt + 6)) ≠ (0 : Int))
    (t79 : 0 ≤ x79.toInt ∧ x79.toInt ≤ 2388 ∧ 0 ≤ ((G79.1 a 19).toInt) ∧ ((G79.1 a 19).toInt) ≤ 2388)
    (I86_0 : 0 ≤ l4_86.toInt ∧ l4_86.toInt ≤ ((G79.1 a 19).toInt))
    (I86_1 : (0 : Int) ≤ l4_86.toInt)
    (hm86 : 2147483648 - l4_86.toInt < (((N86) + 1 : Nat) : Int))
    (c92 : ((G79.1 a 19).toInt) ≤ l4_86.toInt)
    (c_G_86_F_a_10 : G_86.2.1 (F a 10) = G.2.1 (F a 10)) :
    RV (G169.2.1 (F a 10)) := by
  exact hR.late (x := p0.toInt) (y := 0) (aI_pu hG169 c_G_86_F_a_10 (by omega) (by decide) (by omega))
theorem v_X11_later_154_7 {K : Nat → Nat} {F : Nat → Nat → Nat} (a : Nat) (G : XG) (G6 : XG) (G79 : XG) (p0 : Int32) (x79 : Int32) (l4_86 : Int32) (p1 : Int32) (x11 : Int32) (N86 : Nat)
    (ha : K a = 13)
    (oq79a : x79.toInt = cnP (pL G79 F a) p0.toInt)
    (pl : ∀ j : Int, 0 ≤ j → j < l4_86.toInt → aI (G79.2.1 (F a 17)) j = p0.toInt → fzq (G.2.1 (F a 10)) (mw (G.2.1 (F a 1)) 0) (aI (G79.2.1 (F a 17)) j) (aI (G79.2.1 (F a 18)) j) = 0)
    (z0 : p1.toInt = 0 ∨ p1.toInt = 1)
    (t6 : ((G6.1 a 20).toInt) = -2147483648 ∧ ((G6.1 a 21).toInt) = -2147483648 ∧ ((G6.1 a 23).toInt) = 0)
    (t11 : (x11.toInt = 1 ∧ 0 ≤ p0.toInt ∧ p0.toInt ≤ 11 ∧ (aI (G.2.1 (F a 10)) (10 * p0.toInt + 0)) ≠ -1) ∨ (x11.toInt = 0 ∧ (¬ (0 ≤ p0.toInt ∧ p0.toInt ≤ 11) ∨ (aI (G.2.1 (F a 10)) (10 * p0.toInt + 0)) = -1)))
    (c14 : x11.toInt ≠ 0)
    (c28 : p1.toInt = 0)
    (c36 : (aI (G.2.1 (F a 10)) (10 * p0.toInt + 6)) ≠ (0 : Int))
    (t79 : 0 ≤ x79.toInt ∧ x79.toInt ≤ 2388 ∧ 0 ≤ ((G79.1 a 19).toInt) ∧ ((G79.1 a 19).toInt) ≤ 2388)
    (I86_0 : 0 ≤ l4_86.toInt ∧ l4_86.toInt ≤ ((G79.1 a 19).toInt))
    (I86_1 : (0 : Int) ≤ l4_86.toInt)
    (hm86 : 2147483648 - l4_86.toInt < (((N86) + 1 : Nat) : Int))
    (c92 : ¬ (((G79.1 a 19).toInt) ≤ l4_86.toInt))
    (c103 : (aI (G79.2.1 (F a 17)) (l4_86.toInt)) ≠ p0.toInt) :
    ∀ j : Int, 0 ≤ j → j < (l4_86.toInt + 1) → aI (G79.2.1 (F a 17)) j = p0.toInt → fzq (G.2.1 (F a 10)) (mw (G.2.1 (F a 1)) 0) (aI (G79.2.1 (F a 17)) j) (aI (G79.2.1 (F a 18)) j) = 0 := by
  intro j h1 h2 h3
  by_cases e : j = l4_86.toInt
  · subst e
    first
      | exact absurd h3 (by omega)
      | (have t9 : flq _ _ _ _ _ _ _ _ = 0 := t130.symm.trans c133
         rw [h3]
         exact t9)
  · exact pl j h1 (by omega) h3
theorem v_X11_later_130_8 {F : Nat → Nat → Nat} (a : Nat) (G : XG) (G115 : XG)
    (hR : RV (G.2.1 (F a 10)))
    (c_G115_F_a_10 : G115.2.1 (F a 10) = G.2.1 (F a 10)) :
    RV (G115.2.1 (F a 10)) := by simp only [c_G115_F_a_10]; assumption
theorem v_X11_later_130_9 {F : Nat → Nat → Nat} (a : Nat) (G : XG) (G115 : XG)
    (hM : RM (G.2.1 (F a 1)) (0))
    (hB : RM (G.2.1 (F a 2)) 0)
    (c_G115_F_a_1 : G115.2.1 (F a 1) = G.2.1 (F a 1)) :
    RM (G115.2.1 (F a 1)) (0 : Int) := by simp only [c_G115_F_a_1]; assumption
theorem v_X11_later_154_10 {K : Nat → Nat} {F : Nat → Nat → Nat} (a : Nat) (G : XG) (G6 : XG) (G79 : XG) (p0 : Int32) (x79 : Int32) (l4_86 : Int32) (p1 : Int32) (x11 : Int32) (N86 : Nat) (x130 : Int32)
    (ha : K a = 13)
    (oq79a : x79.toInt = cnP (pL G79 F a) p0.toInt)
    (pl : ∀ j : Int, 0 ≤ j → j < l4_86.toInt → aI (G79.2.1 (F a 17)) j = p0.toInt → fzq (G.2.1 (F a 10)) (mw (G.2.1 (F a 1)) 0) (aI (G79.2.1 (F a 17)) j) (aI (G79.2.1 (F a 18)) j) = 0)
    (z0 : p1.toInt = 0 ∨ p1.toInt = 1)
    (t6 : ((G6.1 a 20).toInt) = -2147483648 ∧ ((G6.1 a 21).toInt) = -2147483648 ∧ ((G6.1 a 23).toInt) = 0)
    (t11 : (x11.toInt = 1 ∧ 0 ≤ p0.toInt ∧ p0.toInt ≤ 11 ∧ (aI (G.2.1 (F a 10)) (10 * p0.toInt + 0)) ≠ -1) ∨ (x11.toInt = 0 ∧ (¬ (0 ≤ p0.toInt ∧ p0.toInt ≤ 11) ∨ (aI (G.2.1 (F a 10)) (10 * p0.toInt + 0)) = -1)))
    (c14 : x11.toInt ≠ 0)
    (c28 : p1.toInt = 0)
    (c36 : (aI (G.2.1 (F a 10)) (10 * p0.toInt + 6)) ≠ (0 : Int))
    (t79 : 0 ≤ x79.toInt ∧ x79.toInt ≤ 2388 ∧ 0 ≤ ((G79.1 a 19).toInt) ∧ ((G79.1 a 19).toInt) ≤ 2388)
    (I86_0 : 0 ≤ l4_86.toInt ∧ l4_86.toInt ≤ ((G79.1 a 19).toInt))
    (I86_1 : (0 : Int) ≤ l4_86.toInt)
    (hm86 : 2147483648 - l4_86.toInt < (((N86) + 1 : Nat) : Int))
    (c92 : ¬ (((G79.1 a 19).toInt) ≤ l4_86.toInt))
    (c103 : ¬ ((aI (G79.2.1 (F a 17)) (l4_86.toInt)) ≠ p0.toInt))
    (z116 : (0 ≤ (aI (G79.2.1 (F a 17)) (l4_86.toInt)) ∧ (aI (G79.2.1 (F a 17)) (l4_86.toInt)) ≤ 11) ∧ (aI (G.2.1 (F a 10)) (10 * aI (G79.2.1 (F a 17)) (l4_86.toInt) + 0)) ≠ -1 ∧ ((sF (aI (G.2.1 (F a 10)) (10 * aI (G79.2.1 (F a 17)) (l4_86.toInt) + 0))) ≤ (aI (G79.2.1 (F a 18)) (l4_86.toInt)) ∧ (aI (G79.2.1 (F a 18)) (l4_86.toInt)) ≤ (sL (aI (G.2.1 (F a 10)) (10 * aI (G79.2.1 (F a 17)) (l4_86.toInt) + 0)))))
    (z116a : ((sF (aI (G.2.1 (F a 10)) (10 * aI (G79.2.1 (F a 17)) (l4_86.toInt) + 0))) = 0 ∨ (sF (aI (G.2.1 (F a 10)) (10 * aI (G79.2.1 (F a 17)) (l4_86.toInt) + 0))) = -99) ∧ ((sL (aI (G.2.1 (F a 10)) (10 * aI (G79.2.1 (F a 17)) (l4_86.toInt) + 0))) = 29 ∨ (sL (aI (G.2.1 (F a 10)) (10 * aI (G79.2.1 (F a 17)) (l4_86.toInt) + 0))) = 99))
    (z116b : (aI (G79.2.1 (F a 17)) (l4_86.toInt)) = p0.toInt → (sF (aI (G.2.1 (F a 10)) (10 * aI (G79.2.1 (F a 17)) (l4_86.toInt) + 0))) = (sF (aI (G.2.1 (F a 10)) (10 * p0.toInt + 0))) ∧ (sL (aI (G.2.1 (F a 10)) (10 * aI (G79.2.1 (F a 17)) (l4_86.toInt) + 0))) = (sL (aI (G.2.1 (F a 10)) (10 * p0.toInt + 0))))
    (t130 : x130.toInt = (flq (mw (G.2.1 (F a 1)) 0) (aI (G.2.1 (F a 10)) (10 * p0.toInt + 0)) (aI (G.2.1 (F a 10)) (10 * p0.toInt + 1)) (aI (G.2.1 (F a 10)) (10 * p0.toInt + 2)) (aI (G.2.1 (F a 10)) (10 * p0.toInt + 4)) (aI (G.2.1 (F a 10)) (10 * p0.toInt + 5)) (aI (G79.2.1 (F a 18)) (l4_86.toInt)) (stt (mw (G.2.1 (F a 1)) 0) (aI (G.2.1 (F a 10)) (10 * p0.toInt + 0)) (aI (G.2.1 (F a 10)) (10 * p0.toInt + 1)) (aI (G.2.1 (F a 10)) (10 * p0.toInt + 2)) (aI (G.2.1 (F a 10)) (10 * p0.toInt + 3)) (aI (G79.2.1 (F a 18)) (l4_86.toInt)))))
    (f57 : x130.toInt = 0 ∨ x130.toInt = 1)
    (c133 : x130.toInt = 0) :
    ∀ j : Int, 0 ≤ j → j < (l4_86.toInt + 1) → aI (G79.2.1 (F a 17)) j = p0.toInt → fzq (G.2.1 (F a 10)) (mw (G.2.1 (F a 1)) 0) (aI (G79.2.1 (F a 17)) j) (aI (G79.2.1 (F a 18)) j) = 0 := by
  intro j h1 h2 h3
  by_cases e : j = l4_86.toInt
  · subst e
    first
      | exact absurd h3 (by omega)
      | (have t9 : flq _ _ _ _ _ _ _ _ = 0 := t130.symm.trans c133
         rw [h3]
         exact t9)
  · exact pl j h1 (by omega) h3
theorem v_X11_later_150_11 {K : Nat → Nat} {F : Nat → Nat → Nat} (a : Nat) (G : XG) (G6 : XG) (G79 : XG) (G145 : XG) (p0 : Int32) (x79 : Int32) (l4_86 : Int32) (p1 : Int32) (x11 : Int32) (N86 : Nat) (x130 : Int32)
    (ha : K a = 13)
    (oq79 : pL G79 F a = if ((G.1 a 6).toInt) = 0 then [] else fuO (G.2.1 (F a 10)) (mw (G.2.1 (F a 1)) 0) (mw (G.2.1 (F a 2)) 0) 1)
    (oq79a : x79.toInt = cnP (pL G79 F a) p0.toInt)
    (z0 : p1.toInt = 0 ∨ p1.toInt = 1)
    (t6 : ((G6.1 a 20).toInt) = -2147483648 ∧ ((G6.1 a 21).toInt) = -2147483648 ∧ ((G6.1 a 23).toInt) = 0)
    (t11 : (x11.toInt = 1 ∧ 0 ≤ p0.toInt ∧ p0.toInt ≤ 11 ∧ (aI (G.2.1 (F a 10)) (10 * p0.toInt + 0)) ≠ -1) ∨ (x11.toInt = 0 ∧ (¬ (0 ≤ p0.toInt ∧ p0.toInt ≤ 11) ∨ (aI (G.2.1 (F a 10)) (10 * p0.toInt + 0)) = -1)))
    (c14 : x11.toInt ≠ 0)
    (c28 : p1.toInt = 0)
    (c36 : (aI (G.2.1 (F a 10)) (10 * p0.toInt + 6)) ≠ (0 : Int))
    (t79 : 0 ≤ x79.toInt ∧ x79.toInt ≤ 2388 ∧ 0 ≤ ((G79.1 a 19).toInt) ∧ ((G79.1 a 19).toInt) ≤ 2388)
    (I86_0 : 0 ≤ l4_86.toInt ∧ l4_86.toInt ≤ ((G79.1 a 19).toInt))
    (I86_1 : (0 : Int) ≤ l4_86.toInt)
    (hm86 : 2147483648 - l4_86.toInt < (((N86) + 1 : Nat) : Int))
    (c92 : ¬ (((G79.1 a 19).toInt) ≤ l4_86.toInt))
    (c103 : ¬ ((aI (G79.2.1 (F a 17)) (l4_86.toInt)) ≠ p0.toInt))
    (z116 : (0 ≤ (aI (G79.2.1 (F a 17)) (l4_86.toInt)) ∧ (aI (G79.2.1 (F a 17)) (l4_86.toInt)) ≤ 11) ∧ (aI (G.2.1 (F a 10)) (10 * aI (G79.2.1 (F a 17)) (l4_86.toInt) + 0)) ≠ -1 ∧ ((sF (aI (G.2.1 (F a 10)) (10 * aI (G79.2.1 (F a 17)) (l4_86.toInt) + 0))) ≤ (aI (G79.2.1 (F a 18)) (l4_86.toInt)) ∧ (aI (G79.2.1 (F a 18)) (l4_86.toInt)) ≤ (sL (aI (G.2.1 (F a 10)) (10 * aI (G79.2.1 (F a 17)) (l4_86.toInt) + 0)))))
    (z116a : ((sF (aI (G.2.1 (F a 10)) (10 * aI (G79.2.1 (F a 17)) (l4_86.toInt) + 0))) = 0 ∨ (sF (aI (G.2.1 (F a 10)) (10 * aI (G79.2.1 (F a 17)) (l4_86.toInt) + 0))) = -99) ∧ ((sL (aI (G.2.1 (F a 10)) (10 * aI (G79.2.1 (F a 17)) (l4_86.toInt) + 0))) = 29 ∨ (sL (aI (G.2.1 (F a 10)) (10 * aI (G79.2.1 (F a 17)) (l4_86.toInt) + 0))) = 99))
    (z116b : (aI (G79.2.1 (F a 17)) (l4_86.toInt)) = p0.toInt → (sF (aI (G.2.1 (F a 10)) (10 * aI (G79.2.1 (F a 17)) (l4_86.toInt) + 0))) = (sF (aI (G.2.1 (F a 10)) (10 * p0.toInt + 0))) ∧ (sL (aI (G.2.1 (F a 10)) (10 * aI (G79.2.1 (F a 17)) (l4_86.toInt) + 0))) = (sL (aI (G.2.1 (F a 10)) (10 * p0.toInt + 0))))
    (t130 : x130.toInt = (flq (mw (G.2.1 (F a 1)) 0) (aI (G.2.1 (F a 10)) (10 * p0.toInt + 0)) (aI (G.2.1 (F a 10)) (10 * p0.toInt + 1)) (aI (G.2.1 (F a 10)) (10 * p0.toInt + 2)) (aI (G.2.1 (F a 10)) (10 * p0.toInt + 4)) (aI (G.2.1 (F a 10)) (10 * p0.toInt + 5)) (aI (G79.2.1 (F a 18)) (l4_86.toInt)) (stt (mw (G.2.1 (F a 1)) 0) (aI (G.2.1 (F a 10)) (10 * p0.toInt + 0)) (aI (G.2.1 (F a 10)) (10 * p0.toInt + 1)) (aI (G.2.1 (F a 10)) (10 * p0.toInt + 2)) (aI (G.2.1 (F a 10)) (10 * p0.toInt + 3)) (aI (G79.2.1 (F a 18)) (l4_86.toInt)))))
    (f58 : x130.toInt = 0 ∨ x130.toInt = 1)
    (c133 : ¬ (x130.toInt = 0))
    (t145 : ((G145.1 a 20).toInt) = p0.toInt ∧ ((G145.1 a 21).toInt) = (aI (G79.2.1 (F a 18)) (l4_86.toInt)) ∧ 0 ≤ ((G145.1 a 23).toInt) ∧ ((G145.1 a 23).toInt) ≤ 24)
    (c_G145_F_a_10 : G145.2.1 (F a 10) = G.2.1 (F a 10)) :
    (¬ (0 ≤ p0.toInt ∧ p0.toInt ≤ 11 ∧ aI (G.2.1 (F a 10)) (10 * p0.toInt + 0) ≠ -1) ∧ (-5 : Int) = -2 ∧ G145.2.1 (F a 10) = (G.2.1 (F a 10))) ∨ ((0 ≤ p0.toInt ∧ p0.toInt ≤ 11 ∧ aI (G.2.1 (F a 10)) (10 * p0.toInt + 0) ≠ -1) ∧ aI (G.2.1 (F a 10)) (10 * p0.toInt + 6) = p1.toInt ∧ (-5 : Int) = -4 ∧ G145.2.1 (F a 10) = (G.2.1 (F a 10))) ∨ ((0 ≤ p0.toInt ∧ p0.toInt ≤ 11 ∧ aI (G.2.1 (F a 10)) (10 * p0.toInt + 0) ≠ -1) ∧ aI (G.2.1 (F a 10)) (10 * p0.toInt + 6) ≠ p1.toInt ∧ p1.toInt = 1 ∧ (∀ z : Int, 0 ≤ z → aI (G145.2.1 (F a 10)) z = if z = 10 * p0.toInt + 6 then 1 else aI (G.2.1 (F a 10)) z) ∧ (-5 : Int) = cnP (if ((G.1 a 6).toInt) = 0 then [] else fuO (G145.2.1 (F a 10)) (mw (G.2.1 (F a 1)) 0) (mw (G.2.1 (F a 2)) 0) 1) p0.toInt) ∨ ((0 ≤ p0.toInt ∧ p0.toInt ≤ 11 ∧ aI (G.2.1 (F a 10)) (10 * p0.toInt + 0) ≠ -1) ∧ aI (G.2.1 (F a 10)) (10 * p0.toInt + 6) ≠ p1.toInt ∧ p1.toInt = 0 ∧ ((QFl (G.2.1 (F a 10)) (mw (G.2.1 (F a 1)) 0) (if ((G.1 a 6).toInt) = 0 then [] else fuO (G.2.1 (F a 10)) (mw (G.2.1 (F a 1)) 0) (mw (G.2.1 (F a 2)) 0) 1) p0.toInt ∧ (-5 : Int) = -5 ∧ G145.2.1 (F a 10) = (G.2.1 (F a 10))) ∨ (¬ QFl (G.2.1 (F a 10)) (mw (G.2.1 (F a 1)) 0) (if ((G.1 a 6).toInt) = 0 then [] else fuO (G.2.1 (F a 10)) (mw (G.2.1 (F a 1)) 0) (mw (G.2.1 (F a 2)) 0) 1) p0.toInt ∧ (∀ z : Int, 0 ≤ z → aI (G145.2.1 (F a 10)) z = if z = 10 * p0.toInt + 6 then 0 else aI (G.2.1 (F a 10)) z) ∧ (-5 : Int) = cnP (if ((G.1 a 6).toInt) = 0 then [] else fuO (G.2.1 (F a 10)) (mw (G.2.1 (F a 1)) 0) (mw (G.2.1 (F a 2)) 0) 1) p0.toInt))) := by
  refine Or.inr (Or.inr (Or.inr ⟨by omega, by omega, by omega, Or.inl ⟨?_, rfl, by rw [c_G145_F_a_10]⟩⟩))
  rw [← oq79]
  refine ⟨_, List.mem_of_getElem? (pL_at (z := l4_86.toInt) (by omega)), by show aI (G79.2.1 (F a 17)) l4_86.toInt = p0.toInt; omega, ?_⟩
  show fzq _ _ (aI (G79.2.1 (F a 17)) l4_86.toInt) (aI (G79.2.1 (F a 18)) l4_86.toInt) = 1
  rw [show aI (G79.2.1 (F a 17)) l4_86.toInt = p0.toInt from by omega]
  have h01 := flq01 (mw (G.2.1 (F a 1)) 0) (aI (G.2.1 (F a 10)) (10 * p0.toInt + 0)) (aI (G.2.1 (F a 10)) (10 * p0.toInt + 1)) (aI (G.2.1 (F a 10)) (10 * p0.toInt + 2)) (aI (G.2.1 (F a 10)) (10 * p0.toInt + 4)) (aI (G.2.1 (F a 10)) (10 * p0.toInt + 5)) (aI (G79.2.1 (F a 18)) l4_86.toInt) (stt (mw (G.2.1 (F a 1)) 0) (aI (G.2.1 (F a 10)) (10 * p0.toInt + 0)) (aI (G.2.1 (F a 10)) (10 * p0.toInt + 1)) (aI (G.2.1 (F a 10)) (10 * p0.toInt + 2)) (aI (G.2.1 (F a 10)) (10 * p0.toInt + 3)) (aI (G79.2.1 (F a 18)) l4_86.toInt))
  show flq _ _ _ _ _ _ _ _ = 1
  omega
theorem v_X11_later_150_12 {F : Nat → Nat → Nat} (a : Nat) (G : XG) (G145 : XG)
    (hR : RV (G.2.1 (F a 10)))
    (c_G145_F_a_10 : G145.2.1 (F a 10) = G.2.1 (F a 10)) :
    RV (G145.2.1 (F a 10)) := by
  rw [c_G145_F_a_10]; exact hR
theorem v_X11_later_84_13 {K : Nat → Nat} {F : Nat → Nat → Nat} (a : Nat) (G : XG) (G6 : XG) (G79 : XG) (p0 : Int32) (x79 : Int32) (p1 : Int32) (x11 : Int32)
    (ha : K a = 13)
    (oq79a : x79.toInt = cnP (pL G79 F a) p0.toInt)
    (z0 : p1.toInt = 0 ∨ p1.toInt = 1)
    (t6 : ((G6.1 a 20).toInt) = -2147483648 ∧ ((G6.1 a 21).toInt) = -2147483648 ∧ ((G6.1 a 23).toInt) = 0)
    (t11 : (x11.toInt = 1 ∧ 0 ≤ p0.toInt ∧ p0.toInt ≤ 11 ∧ (aI (G.2.1 (F a 10)) (10 * p0.toInt + 0)) ≠ -1) ∨ (x11.toInt = 0 ∧ (¬ (0 ≤ p0.toInt ∧ p0.toInt ≤ 11) ∨ (aI (G.2.1 (F a 10)) (10 * p0.toInt + 0)) = -1)))
    (c14 : x11.toInt ≠ 0)
    (c28 : p1.toInt = 0)
    (c36 : (aI (G.2.1 (F a 10)) (10 * p0.toInt + 6)) ≠ (0 : Int))
    (t79 : 0 ≤ x79.toInt ∧ x79.toInt ≤ 2388 ∧ 0 ≤ ((G79.1 a 19).toInt) ∧ ((G79.1 a 19).toInt) ≤ 2388) :
    ∀ j : Int, 0 ≤ j → j < (0 : Int) → aI (G79.2.1 (F a 17)) j = p0.toInt → fzq (G.2.1 (F a 10)) (mw (G.2.1 (F a 1)) 0) (aI (G79.2.1 (F a 17)) j) (aI (G79.2.1 (F a 18)) j) = 0 := by
  intro j h1 h2; exact absurd h1 (by omega)
theorem v_X11_later_61_14 {K : Nat → Nat} {F : Nat → Nat → Nat} (a : Nat) (G : XG) (G6 : XG) (G58 : XG) (x56 : Int32) (p0 : Int32) (p1 : Int32) (x11 : Int32)
    (ha : K a = 13)
    (hG58 : G58 = cput G6 (F a 10) x56.toNatClampNeg 1)
    (hR : RV (G.2.1 (F a 10)))
    (e56 : x56.toInt = (((10 : Int) * p0.toInt) + (6 : Int)))
    (z0 : p1.toInt = 0 ∨ p1.toInt = 1)
    (t6 : ((G6.1 a 20).toInt) = -2147483648 ∧ ((G6.1 a 21).toInt) = -2147483648 ∧ ((G6.1 a 23).toInt) = 0)
    (t11 : (x11.toInt = 1 ∧ 0 ≤ p0.toInt ∧ p0.toInt ≤ 11 ∧ (aI (G.2.1 (F a 10)) (10 * p0.toInt + 0)) ≠ -1) ∨ (x11.toInt = 0 ∧ (¬ (0 ≤ p0.toInt ∧ p0.toInt ≤ 11) ∨ (aI (G.2.1 (F a 10)) (10 * p0.toInt + 0)) = -1)))
    (c14 : x11.toInt ≠ 0)
    (c28 : p1.toInt = 0)
    (c36 : (aI (G.2.1 (F a 10)) (10 * p0.toInt + 6)) ≠ (0 : Int))
    (c43 : ¬ (p1.toInt = 0))
    (c_G6_F_a_10 : G6.2.1 (F a 10) = G.2.1 (F a 10)) :
    RV (G58.2.1 (F a 10)) := by
  exact hR.late (x := p0.toInt) (y := 1) (aI_pu hG58 c_G6_F_a_10 (by omega) (by decide) (by omega))
theorem v_X11_later_61_15 {F : Nat → Nat → Nat} (a : Nat) (G : XG) (G58 : XG)
    (hM : RM (G.2.1 (F a 1)) (0))
    (hB : RM (G.2.1 (F a 2)) 0)
    (c_G58_F_a_1 : G58.2.1 (F a 1) = G.2.1 (F a 1)) :
    RM (G58.2.1 (F a 1)) (0) := by simp only [c_G58_F_a_1]; assumption
theorem v_X11_later_61_16 {F : Nat → Nat → Nat} (a : Nat) (G : XG) (G58 : XG)
    (hM : RM (G.2.1 (F a 1)) (0))
    (hB : RM (G.2.1 (F a 2)) 0)
    (c_G58_F_a_2 : G58.2.1 (F a 2) = G.2.1 (F a 2)) :
    RM (G58.2.1 (F a 2)) 0 := by simp only [c_G58_F_a_2]; assumption
theorem v_X11_later_76_17 {K : Nat → Nat} {F : Nat → Nat → Nat} (a : Nat) (G : XG) (G6 : XG) (G58 : XG) (x56 : Int32) (G61 : XG) (G74 : XG) (p0 : Int32) (x61 : Int32) (p1 : Int32) (x11 : Int32)
    (ha : K a = 13)
    (hG58 : G58 = cput G6 (F a 10) x56.toNatClampNeg 1)
    (e56 : x56.toInt = (((10 : Int) * p0.toInt) + (6 : Int)))
    (oq61 : pL G61 F a = if ((G.1 a 6).toInt) = 0 then [] else fuO (G58.2.1 (F a 10)) (mw (G.2.1 (F a 1)) 0) (mw (G.2.1 (F a 2)) 0) 1)
    (oq61a : x61.toInt = cnP (pL G61 F a) p0.toInt)
    (z0 : p1.toInt = 0 ∨ p1.toInt = 1)
    (t6 : ((G6.1 a 20).toInt) = -2147483648 ∧ ((G6.1 a 21).toInt) = -2147483648 ∧ ((G6.1 a 23).toInt) = 0)
    (t11 : (x11.toInt = 1 ∧ 0 ≤ p0.toInt ∧ p0.toInt ≤ 11 ∧ (aI (G.2.1 (F a 10)) (10 * p0.toInt + 0)) ≠ -1) ∨ (x11.toInt = 0 ∧ (¬ (0 ≤ p0.toInt ∧ p0.toInt ≤ 11) ∨ (aI (G.2.1 (F a 10)) (10 * p0.toInt + 0)) = -1)))
    (c14 : x11.toInt ≠ 0)
    (c28 : p1.toInt = 0)
    (c36 : (aI (G.2.1 (F a 10)) (10 * p0.toInt + 6)) ≠ (0 : Int))
    (c43 : ¬ (p1.toInt = 0))
    (t61 : 0 ≤ x61.toInt ∧ x61.toInt ≤ 2388 ∧ 0 ≤ ((G61.1 a 19).toInt) ∧ ((G61.1 a 19).toInt) ≤ 2388)
    (c_G6_F_a_10 : G6.2.1 (F a 10) = G.2.1 (F a 10))
    (c_G74_F_a_10 : G74.2.1 (F a 10) = G58.2.1 (F a 10)) :
    (¬ (0 ≤ p0.toInt ∧ p0.toInt ≤ 11 ∧ aI (G.2.1 (F a 10)) (10 * p0.toInt + 0) ≠ -1) ∧ x61.toInt = -2 ∧ G74.2.1 (F a 10) = (G.2.1 (F a 10))) ∨ ((0 ≤ p0.toInt ∧ p0.toInt ≤ 11 ∧ aI (G.2.1 (F a 10)) (10 * p0.toInt + 0) ≠ -1) ∧ aI (G.2.1 (F a 10)) (10 * p0.toInt + 6) = p1.toInt ∧ x61.toInt = -4 ∧ G74.2.1 (F a 10) = (G.2.1 (F a 10))) ∨ ((0 ≤ p0.toInt ∧ p0.toInt ≤ 11 ∧ aI (G.2.1 (F a 10)) (10 * p0.toInt + 0) ≠ -1) ∧ aI (G.2.1 (F a 10)) (10 * p0.toInt + 6) ≠ p1.toInt ∧ p1.toInt = 1 ∧ (∀ z : Int, 0 ≤ z → aI (G74.2.1 (F a 10)) z = if z = 10 * p0.toInt + 6 then 1 else aI (G.2.1 (F a 10)) z) ∧ x61.toInt = cnP (if ((G.1 a 6).toInt) = 0 then [] else fuO (G74.2.1 (F a 10)) (mw (G.2.1 (F a 1)) 0) (mw (G.2.1 (F a 2)) 0) 1) p0.toInt) ∨ ((0 ≤ p0.toInt ∧ p0.toInt ≤ 11 ∧ aI (G.2.1 (F a 10)) (10 * p0.toInt + 0) ≠ -1) ∧ aI (G.2.1 (F a 10)) (10 * p0.toInt + 6) ≠ p1.toInt ∧ p1.toInt = 0 ∧ ((QFl (G.2.1 (F a 10)) (mw (G.2.1 (F a 1)) 0) (if ((G.1 a 6).toInt) = 0 then [] else fuO (G.2.1 (F a 10)) (mw (G.2.1 (F a 1)) 0) (mw (G.2.1 (F a 2)) 0) 1) p0.toInt ∧ x61.toInt = -5 ∧ G74.2.1 (F a 10) = (G.2.1 (F a 10))) ∨ (¬ QFl (G.2.1 (F a 10)) (mw (G.2.1 (F a 1)) 0) (if ((G.1 a 6).toInt) = 0 then [] else fuO (G.2.1 (F a 10)) (mw (G.2.1 (F a 1)) 0) (mw (G.2.1 (F a 2)) 0) 1) p0.toInt ∧ (∀ z : Int, 0 ≤ z → aI (G74.2.1 (F a 10)) z = if z = 10 * p0.toInt + 6 then 0 else aI (G.2.1 (F a 10)) z) ∧ x61.toInt = cnP (if ((G.1 a 6).toInt) = 0 then [] else fuO (G.2.1 (F a 10)) (mw (G.2.1 (F a 1)) 0) (mw (G.2.1 (F a 2)) 0) 1) p0.toInt))) := by
  refine Or.inr (Or.inr (Or.inl ⟨by omega, by omega, by omega, ?_, ?_⟩))
  · rw [c_G74_F_a_10]
    exact aI_pu hG58 c_G6_F_a_10 (by omega) (by decide) (by omega)
  · rw [c_G74_F_a_10, ← oq61]
    exact oq61a
theorem v_X11_later_76_18 {K : Nat → Nat} {F : Nat → Nat → Nat} (a : Nat) (G : XG) (G6 : XG) (G58 : XG) (x56 : Int32) (G61 : XG) (G74 : XG) (p0 : Int32) (x61 : Int32) (p1 : Int32) (x11 : Int32)
    (ha : K a = 13)
    (hG58 : G58 = cput G6 (F a 10) x56.toNatClampNeg 1)
    (hR : RV (G.2.1 (F a 10)))
    (e56 : x56.toInt = (((10 : Int) * p0.toInt) + (6 : Int)))
    (oq61a : x61.toInt = cnP (pL G61 F a) p0.toInt)
    (z0 : p1.toInt = 0 ∨ p1.toInt = 1)
    (t6 : ((G6.1 a 20).toInt) = -2147483648 ∧ ((G6.1 a 21).toInt) = -2147483648 ∧ ((G6.1 a 23).toInt) = 0)
    (t11 : (x11.toInt = 1 ∧ 0 ≤ p0.toInt ∧ p0.toInt ≤ 11 ∧ (aI (G.2.1 (F a 10)) (10 * p0.toInt + 0)) ≠ -1) ∨ (x11.toInt = 0 ∧ (¬ (0 ≤ p0.toInt ∧ p0.toInt ≤ 11) ∨ (aI (G.2.1 (F a 10)) (10 * p0.toInt + 0)) = -1)))
    (c14 : x11.toInt ≠ 0)
    (c28 : p1.toInt = 0)
    (c36 : (aI (G.2.1 (F a 10)) (10 * p0.toInt + 6)) ≠ (0 : Int))
    (c43 : ¬ (p1.toInt = 0))
    (t61 : 0 ≤ x61.toInt ∧ x61.toInt ≤ 2388 ∧ 0 ≤ ((G61.1 a 19).toInt) ∧ ((G61.1 a 19).toInt) ≤ 2388)
    (c_G6_F_a_10 : G6.2.1 (F a 10) = G.2.1 (F a 10))
    (c_G74_F_a_10 : G74.2.1 (F a 10) = G58.2.1 (F a 10)) :
    RV (G74.2.1 (F a 10)) := by
  rw [c_G74_F_a_10]
  exact hR.late (x := p0.toInt) (y := 1) (aI_pu hG58 c_G6_F_a_10 (by omega) (by decide) (by omega))
theorem v_X11_later_41_19 {K : Nat → Nat} {F : Nat → Nat → Nat} (a : Nat) (G : XG) (G6 : XG) (p0 : Int32) (p1 : Int32) (x11 : Int32)
    (ha : K a = 13)
    (z0 : p1.toInt = 0 ∨ p1.toInt = 1)
    (t6 : ((G6.1 a 20).toInt) = -2147483648 ∧ ((G6.1 a 21).toInt) = -2147483648 ∧ ((G6.1 a 23).toInt) = 0)
    (t11 : (x11.toInt = 1 ∧ 0 ≤ p0.toInt ∧ p0.toInt ≤ 11 ∧ (aI (G.2.1 (F a 10)) (10 * p0.toInt + 0)) ≠ -1) ∨ (x11.toInt = 0 ∧ (¬ (0 ≤ p0.toInt ∧ p0.toInt ≤ 11) ∨ (aI (G.2.1 (F a 10)) (10 * p0.toInt + 0)) = -1)))
    (c14 : x11.toInt ≠ 0)
    (c28 : p1.toInt = 0)
    (c36 : ¬ ((aI (G.2.1 (F a 10)) (10 * p0.toInt + 6)) ≠ (0 : Int)))
    (c_G6_F_a_10 : G6.2.1 (F a 10) = G.2.1 (F a 10)) :
    (¬ (0 ≤ p0.toInt ∧ p0.toInt ≤ 11 ∧ aI (G.2.1 (F a 10)) (10 * p0.toInt + 0) ≠ -1) ∧ (-4 : Int) = -2 ∧ G6.2.1 (F a 10) = (G.2.1 (F a 10))) ∨ ((0 ≤ p0.toInt ∧ p0.toInt ≤ 11 ∧ aI (G.2.1 (F a 10)) (10 * p0.toInt + 0) ≠ -1) ∧ aI (G.2.1 (F a 10)) (10 * p0.toInt + 6) = p1.toInt ∧ (-4 : Int) = -4 ∧ G6.2.1 (F a 10) = (G.2.1 (F a 10))) ∨ ((0 ≤ p0.toInt ∧ p0.toInt ≤ 11 ∧ aI (G.2.1 (F a 10)) (10 * p0.toInt + 0) ≠ -1) ∧ aI (G.2.1 (F a 10)) (10 * p0.toInt + 6) ≠ p1.toInt ∧ p1.toInt = 1 ∧ (∀ z : Int, 0 ≤ z → aI (G6.2.1 (F a 10)) z = if z = 10 * p0.toInt + 6 then 1 else aI (G.2.1 (F a 10)) z) ∧ (-4 : Int) = cnP (if ((G.1 a 6).toInt) = 0 then [] else fuO (G6.2.1 (F a 10)) (mw (G.2.1 (F a 1)) 0) (mw (G.2.1 (F a 2)) 0) 1) p0.toInt) ∨ ((0 ≤ p0.toInt ∧ p0.toInt ≤ 11 ∧ aI (G.2.1 (F a 10)) (10 * p0.toInt + 0) ≠ -1) ∧ aI (G.2.1 (F a 10)) (10 * p0.toInt + 6) ≠ p1.toInt ∧ p1.toInt = 0 ∧ ((QFl (G.2.1 (F a 10)) (mw (G.2.1 (F a 1)) 0) (if ((G.1 a 6).toInt) = 0 then [] else fuO (G.2.1 (F a 10)) (mw (G.2.1 (F a 1)) 0) (mw (G.2.1 (F a 2)) 0) 1) p0.toInt ∧ (-4 : Int) = -5 ∧ G6.2.1 (F a 10) = (G.2.1 (F a 10))) ∨ (¬ QFl (G.2.1 (F a 10)) (mw (G.2.1 (F a 1)) 0) (if ((G.1 a 6).toInt) = 0 then [] else fuO (G.2.1 (F a 10)) (mw (G.2.1 (F a 1)) 0) (mw (G.2.1 (F a 2)) 0) 1) p0.toInt ∧ (∀ z : Int, 0 ≤ z → aI (G6.2.1 (F a 10)) z = if z = 10 * p0.toInt + 6 then 0 else aI (G.2.1 (F a 10)) z) ∧ (-4 : Int) = cnP (if ((G.1 a 6).toInt) = 0 then [] else fuO (G.2.1 (F a 10)) (mw (G.2.1 (F a 1)) 0) (mw (G.2.1 (F a 2)) 0) 1) p0.toInt))) := by
  exact Or.inr (Or.inl ⟨by omega, by omega, rfl, by rw [c_G6_F_a_10]⟩)
theorem v_X11_later_41_20 {F : Nat → Nat → Nat} (a : Nat) (G : XG) (G6 : XG)
    (hR : RV (G.2.1 (F a 10)))
    (c_G6_F_a_10 : G6.2.1 (F a 10) = G.2.1 (F a 10)) :
    RV (G6.2.1 (F a 10)) := by
  rw [c_G6_F_a_10]; exact hR
theorem v_X11_later_79_21 {F : Nat → Nat → Nat} (a : Nat) (G : XG) (G6 : XG)
    (hR : RV (G.2.1 (F a 10)))
    (c_G6_F_a_10 : G6.2.1 (F a 10) = G.2.1 (F a 10)) :
    RV (G6.2.1 (F a 10)) := by simp only [c_G6_F_a_10]; assumption
theorem v_X11_later_79_22 {F : Nat → Nat → Nat} (a : Nat) (G : XG) (G6 : XG)
    (hM : RM (G.2.1 (F a 1)) (0))
    (hB : RM (G.2.1 (F a 2)) 0)
    (c_G6_F_a_1 : G6.2.1 (F a 1) = G.2.1 (F a 1)) :
    RM (G6.2.1 (F a 1)) (0) := by simp only [c_G6_F_a_1]; assumption
theorem v_X11_later_79_23 {F : Nat → Nat → Nat} (a : Nat) (G : XG) (G6 : XG)
    (hM : RM (G.2.1 (F a 1)) (0))
    (hB : RM (G.2.1 (F a 2)) 0)
    (c_G6_F_a_2 : G6.2.1 (F a 2) = G.2.1 (F a 2)) :
    RM (G6.2.1 (F a 2)) 0 := by simp only [c_G6_F_a_2]; assumption
theorem v_X11_later_82_24 {F : Nat → Nat → Nat} (a : Nat) (G : XG) (G79 : XG)
    (oq79 : pL G79 F a = if ((G.1 a 6).toInt) = 0 then [] else fuO (G.2.1 (F a 10)) (mw (G.2.1 (F a 1)) 0) (mw (G.2.1 (F a 2)) 0) 1) :
    PV (G.2.1 (F a 10)) (pL G79 F a) := by
  rw [oq79]
  split
  · intro x hx; cases hx
  · exact fuO_pv _ _ _ _
theorem v_X11_later_171_25 {K : Nat → Nat} {F : Nat → Nat → Nat} (a : Nat) (G : XG) (G6 : XG) (G79 : XG) (G_86 : XG) (G169 : XG) (x167 : Int32) (p0 : Int32) (x79 : Int32) (l4_86 : Int32) (p1 : Int32) (x11 : Int32) (N86 : Nat)
    (ha : K a = 13)
    (hG169 : G169 = cput G_86 (F a 10) x167.toNatClampNeg 0)
    (oq79 : pL G79 F a = if ((G.1 a 6).toInt) = 0 then [] else fuO (G.2.1 (F a 10)) (mw (G.2.1 (F a 1)) 0) (mw (G.2.1 (F a 2)) 0) 1)
    (oq79a : x79.toInt = cnP (pL G79 F a) p0.toInt)
    (pl : ∀ j : Int, 0 ≤ j → j < l4_86.toInt → aI (G79.2.1 (F a 17)) j = p0.toInt → fzq (G.2.1 (F a 10)) (mw (G.2.1 (F a 1)) 0) (aI (G79.2.1 (F a 17)) j) (aI (G79.2.1 (F a 18)) j) = 0)
    (e167 : x167.toInt = (((10 : Int) * p0.toInt) + (6 : Int)))
    (z0 : p1.toInt = 0 ∨ p1.toInt = 1)
    (t6 : ((G6.1 a 20).toInt) = -2147483648 ∧ ((G6.1 a 21).toInt) = -2147483648 ∧ ((G6.1 a 23).toInt) = 0)
    (t11 : (x11.toInt = 1 ∧ 0 ≤ p0.toInt ∧ p0.toInt ≤ 11 ∧ (aI (G.2.1 (F a 10)) (10 * p0.toInt + 0)) ≠ -1) ∨ (x11.toInt = 0 ∧ (¬ (0 ≤ p0.toInt ∧ p0.toInt ≤ 11) ∨ (aI (G.2.1 (F a 10)) (10 * p0.toInt + 0)) = -1)))
    (c14 : x11.toInt ≠ 0)
    (c28 : ¬ (p1.toInt = 0))
    (c36 : (aI (G.2.1 (F a 10)) (10 * p0.toInt + 6)) ≠ (1 : Int))
    (c43 : p1.toInt = 0)
    (t79 : 0 ≤ x79.toInt ∧ x79.toInt ≤ 2388 ∧ 0 ≤ ((G79.1 a 19).toInt) ∧ ((G79.1 a 19).toInt) ≤ 2388)
    (I86_0 : 0 ≤ l4_86.toInt ∧ l4_86.toInt ≤ ((G79.1 a 19).toInt))
    (I86_1 : (0 : Int) ≤ l4_86.toInt)
    (hm86 : 2147483648 - l4_86.toInt < (((N86) + 1 : Nat) : Int))
    (c92 : ((G79.1 a 19).toInt) ≤ l4_86.toInt)
    (c_G_86_F_a_10 : G_86.2.1 (F a 10) = G.2.1 (F a 10)) :
    (¬ (0 ≤ p0.toInt ∧ p0.toInt ≤ 11 ∧ aI (G.2.1 (F a 10)) (10 * p0.toInt + 0) ≠ -1) ∧ x79.toInt = -2 ∧ G169.2.1 (F a 10) = (G.2.1 (F a 10))) ∨ ((0 ≤ p0.toInt ∧ p0.toInt ≤ 11 ∧ aI (G.2.1 (F a 10)) (10 * p0.toInt + 0) ≠ -1) ∧ aI (G.2.1 (F a 10)) (10 * p0.toInt + 6) = p1.toInt ∧ x79.toInt = -4 ∧ G169.2.1 (F a 10) = (G.2.1 (F a 10))) ∨ ((0 ≤ p0.toInt ∧ p0.toInt ≤ 11 ∧ aI (G.2.1 (F a 10)) (10 * p0.toInt + 0) ≠ -1) ∧ aI (G.2.1 (F a 10)) (10 * p0.toInt + 6) ≠ p1.toInt ∧ p1.toInt = 1 ∧ (∀ z : Int, 0 ≤ z → aI (G169.2.1 (F a 10)) z = if z = 10 * p0.toInt + 6 then 1 else aI (G.2.1 (F a 10)) z) ∧ x79.toInt = cnP (if ((G.1 a 6).toInt) = 0 then [] else fuO (G169.2.1 (F a 10)) (mw (G.2.1 (F a 1)) 0) (mw (G.2.1 (F a 2)) 0) 1) p0.toInt) ∨ ((0 ≤ p0.toInt ∧ p0.toInt ≤ 11 ∧ aI (G.2.1 (F a 10)) (10 * p0.toInt + 0) ≠ -1) ∧ aI (G.2.1 (F a 10)) (10 * p0.toInt + 6) ≠ p1.toInt ∧ p1.toInt = 0 ∧ ((QFl (G.2.1 (F a 10)) (mw (G.2.1 (F a 1)) 0) (if ((G.1 a 6).toInt) = 0 then [] else fuO (G.2.1 (F a 10)) (mw (G.2.1 (F a 1)) 0) (mw (G.2.1 (F a 2)) 0) 1) p0.toInt ∧ x79.toInt = -5 ∧ G169.2.1 (F a 10) = (G.2.1 (F a 10))) ∨ (¬ QFl (G.2.1 (F a 10)) (mw (G.2.1 (F a 1)) 0) (if ((G.1 a 6).toInt) = 0 then [] else fuO (G.2.1 (F a 10)) (mw (G.2.1 (F a 1)) 0) (mw (G.2.1 (F a 2)) 0) 1) p0.toInt ∧ (∀ z : Int, 0 ≤ z → aI (G169.2.1 (F a 10)) z = if z = 10 * p0.toInt + 6 then 0 else aI (G.2.1 (F a 10)) z) ∧ x79.toInt = cnP (if ((G.1 a 6).toInt) = 0 then [] else fuO (G.2.1 (F a 10)) (mw (G.2.1 (F a 1)) 0) (mw (G.2.1 (F a 2)) 0) 1) p0.toInt))) := by
  refine Or.inr (Or.inr (Or.inr ⟨by omega, by omega, by omega, Or.inr ⟨?_, aI_pu hG169 c_G_86_F_a_10 (by omega) (by decide) (by omega), (by rw [← oq79]; exact oq79a)⟩⟩))
  rw [← oq79]
  rintro ⟨x, hx, hn, hf⟩
  obtain ⟨j, hj⟩ := List.mem_iff_getElem?.mp hx
  obtain ⟨h1, rfl⟩ := pL_get hj
  have := pl (j : Int) (by omega) (by omega) hn
  rw [this] at hf
  exact absurd hf (by decide)
theorem v_X11_later_171_26 {K : Nat → Nat} {F : Nat → Nat → Nat} (a : Nat) (G : XG) (G6 : XG) (G79 : XG) (G_86 : XG) (G169 : XG) (x167 : Int32) (p0 : Int32) (x79 : Int32) (l4_86 : Int32) (p1 : Int32) (x11 : Int32) (N86 : Nat)
    (ha : K a = 13)
    (hG169 : G169 = cput G_86 (F a 10) x167.toNatClampNeg 0)
    (hR : RV (G.2.1 (F a 10)))
    (oq79a : x79.toInt = cnP (pL G79 F a) p0.toInt)
    (e167 : x167.toInt = (((10 : Int) * p0.toInt) + (6 : Int)))
    (z0 : p1.toInt = 0 ∨ p1.toInt = 1)
    (t6 : ((G6.1 a 20).toInt) = -2147483648 ∧ ((G6.1 a 21).toInt) = -2147483648 ∧ ((G6.1 a 23).toInt) = 0)
    (t11 : (x11.toInt = 1 ∧ 0 ≤ p0.toInt ∧ p0.toInt ≤ 11 ∧ (aI (G.2.1 (F a 10)) (10 * p0.toInt + 0)) ≠ -1) ∨ (x11.toInt = 0 ∧ (¬ (0 ≤ p0.toInt ∧ p0.toInt ≤ 11) ∨ (aI (G.2.1 (F a 10)) (10 * p0.toInt + 0)) = -1)))
    (c14 : x11.toInt ≠ 0)
    (c28 : ¬ (p1.toInt = 0))
    (c36 : (aI (G.2.1 (F a 10)) (10 * p0.toInt + 6)) ≠ (1 : Int))
    (c43 : p1.toInt = 0)
    (t79 : 0 ≤ x79.toInt ∧ x79.toInt ≤ 2388 ∧ 0 ≤ ((G79.1 a 19).toInt) ∧ ((G79.1 a 19).toInt) ≤ 2388)
    (I86_0 : 0 ≤ l4_86.toInt ∧ l4_86.toInt ≤ ((G79.1 a 19).toInt))
    (I86_1 : (0 : Int) ≤ l4_86.toInt)
    (hm86 : 2147483648 - l4_86.toInt < (((N86) + 1 : Nat) : Int))
    (c92 : ((G79.1 a 19).toInt) ≤ l4_86.toInt)
    (c_G_86_F_a_10 : G_86.2.1 (F a 10) = G.2.1 (F a 10)) :
    RV (G169.2.1 (F a 10)) := by
  exact hR.late (x := p0.toInt) (y := 0) (aI_pu hG169 c_G_86_F_a_10 (by omega) (by decide) (by omega))
theorem v_X11_later_154_27 {K : Nat → Nat} {F : Nat → Nat → Nat} (a : Nat) (G : XG) (G6 : XG) (G79 : XG) (p0 : Int32) (x79 : Int32) (l4_86 : Int32) (p1 : Int32) (x11 : Int32) (N86 : Nat)
    (ha : K a = 13)
    (oq79a : x79.toInt = cnP (pL G79 F a) p0.toInt)
    (pl : ∀ j : Int, 0 ≤ j → j < l4_86.toInt → aI (G79.2.1 (F a 17)) j = p0.toInt → fzq (G.2.1 (F a 10)) (mw (G.2.1 (F a 1)) 0) (aI (G79.2.1 (F a 17)) j) (aI (G79.2.1 (F a 18)) j) = 0)
    (z0 : p1.toInt = 0 ∨ p1.toInt = 1)
    (t6 : ((G6.1 a 20).toInt) = -2147483648 ∧ ((G6.1 a 21).toInt) = -2147483648 ∧ ((G6.1 a 23).toInt) = 0)
    (t11 : (x11.toInt = 1 ∧ 0 ≤ p0.toInt ∧ p0.toInt ≤ 11 ∧ (aI (G.2.1 (F a 10)) (10 * p0.toInt + 0)) ≠ -1) ∨ (x11.toInt = 0 ∧ (¬ (0 ≤ p0.toInt ∧ p0.toInt ≤ 11) ∨ (aI (G.2.1 (F a 10)) (10 * p0.toInt + 0)) = -1)))
    (c14 : x11.toInt ≠ 0)
    (c28 : ¬ (p1.toInt = 0))
    (c36 : (aI (G.2.1 (F a 10)) (10 * p0.toInt + 6)) ≠ (1 : Int))
    (c43 : p1.toInt = 0)
    (t79 : 0 ≤ x79.toInt ∧ x79.toInt ≤ 2388 ∧ 0 ≤ ((G79.1 a 19).toInt) ∧ ((G79.1 a 19).toInt) ≤ 2388)
    (I86_0 : 0 ≤ l4_86.toInt ∧ l4_86.toInt ≤ ((G79.1 a 19).toInt))
    (I86_1 : (0 : Int) ≤ l4_86.toInt)
    (hm86 : 2147483648 - l4_86.toInt < (((N86) + 1 : Nat) : Int))
    (c92 : ¬ (((G79.1 a 19).toInt) ≤ l4_86.toInt))
    (c103 : (aI (G79.2.1 (F a 17)) (l4_86.toInt)) ≠ p0.toInt) :
    ∀ j : Int, 0 ≤ j → j < (l4_86.toInt + 1) → aI (G79.2.1 (F a 17)) j = p0.toInt → fzq (G.2.1 (F a 10)) (mw (G.2.1 (F a 1)) 0) (aI (G79.2.1 (F a 17)) j) (aI (G79.2.1 (F a 18)) j) = 0 := by
  intro j h1 h2 h3
  by_cases e : j = l4_86.toInt
  · subst e
    first
      | exact absurd h3 (by omega)
      | (have t9 : flq _ _ _ _ _ _ _ _ = 0 := t130.symm.trans c133
         rw [h3]
         exact t9)
  · exact pl j h1 (by omega) h3
theorem v_X11_later_130_28 {F : Nat → Nat → Nat} (a : Nat) (G : XG) (G115 : XG)
    (hR : RV (G.2.1 (F a 10)))
    (c_G115_F_a_10 : G115.2.1 (F a 10) = G.2.1 (F a 10)) :
    RV (G115.2.1 (F a 10)) := by simp only [c_G115_F_a_10]; assumption
theorem v_X11_later_130_29 {F : Nat → Nat → Nat} (a : Nat) (G : XG) (G115 : XG)
    (hM : RM (G.2.1 (F a 1)) (0))
    (hB : RM (G.2.1 (F a 2)) 0)
    (c_G115_F_a_1 : G115.2.1 (F a 1) = G.2.1 (F a 1)) :
    RM (G115.2.1 (F a 1)) (0 : Int) := by simp only [c_G115_F_a_1]; assumption
theorem v_X11_later_154_30 {K : Nat → Nat} {F : Nat → Nat → Nat} (a : Nat) (G : XG) (G6 : XG) (G79 : XG) (p0 : Int32) (x79 : Int32) (l4_86 : Int32) (p1 : Int32) (x11 : Int32) (N86 : Nat) (x130 : Int32)
    (ha : K a = 13)
    (oq79a : x79.toInt = cnP (pL G79 F a) p0.toInt)
    (pl : ∀ j : Int, 0 ≤ j → j < l4_86.toInt → aI (G79.2.1 (F a 17)) j = p0.toInt → fzq (G.2.1 (F a 10)) (mw (G.2.1 (F a 1)) 0) (aI (G79.2.1 (F a 17)) j) (aI (G79.2.1 (F a 18)) j) = 0)
    (z0 : p1.toInt = 0 ∨ p1.toInt = 1)
    (t6 : ((G6.1 a 20).toInt) = -2147483648 ∧ ((G6.1 a 21).toInt) = -2147483648 ∧ ((G6.1 a 23).toInt) = 0)
    (t11 : (x11.toInt = 1 ∧ 0 ≤ p0.toInt ∧ p0.toInt ≤ 11 ∧ (aI (G.2.1 (F a 10)) (10 * p0.toInt + 0)) ≠ -1) ∨ (x11.toInt = 0 ∧ (¬ (0 ≤ p0.toInt ∧ p0.toInt ≤ 11) ∨ (aI (G.2.1 (F a 10)) (10 * p0.toInt + 0)) = -1)))
    (c14 : x11.toInt ≠ 0)
    (c28 : ¬ (p1.toInt = 0))
    (c36 : (aI (G.2.1 (F a 10)) (10 * p0.toInt + 6)) ≠ (1 : Int))
    (c43 : p1.toInt = 0)
    (t79 : 0 ≤ x79.toInt ∧ x79.toInt ≤ 2388 ∧ 0 ≤ ((G79.1 a 19).toInt) ∧ ((G79.1 a 19).toInt) ≤ 2388)
    (I86_0 : 0 ≤ l4_86.toInt ∧ l4_86.toInt ≤ ((G79.1 a 19).toInt))
    (I86_1 : (0 : Int) ≤ l4_86.toInt)
    (hm86 : 2147483648 - l4_86.toInt < (((N86) + 1 : Nat) : Int))
    (c92 : ¬ (((G79.1 a 19).toInt) ≤ l4_86.toInt))
    (c103 : ¬ ((aI (G79.2.1 (F a 17)) (l4_86.toInt)) ≠ p0.toInt))
    (z116 : (0 ≤ (aI (G79.2.1 (F a 17)) (l4_86.toInt)) ∧ (aI (G79.2.1 (F a 17)) (l4_86.toInt)) ≤ 11) ∧ (aI (G.2.1 (F a 10)) (10 * aI (G79.2.1 (F a 17)) (l4_86.toInt) + 0)) ≠ -1 ∧ ((sF (aI (G.2.1 (F a 10)) (10 * aI (G79.2.1 (F a 17)) (l4_86.toInt) + 0))) ≤ (aI (G79.2.1 (F a 18)) (l4_86.toInt)) ∧ (aI (G79.2.1 (F a 18)) (l4_86.toInt)) ≤ (sL (aI (G.2.1 (F a 10)) (10 * aI (G79.2.1 (F a 17)) (l4_86.toInt) + 0)))))
    (z116a : ((sF (aI (G.2.1 (F a 10)) (10 * aI (G79.2.1 (F a 17)) (l4_86.toInt) + 0))) = 0 ∨ (sF (aI (G.2.1 (F a 10)) (10 * aI (G79.2.1 (F a 17)) (l4_86.toInt) + 0))) = -99) ∧ ((sL (aI (G.2.1 (F a 10)) (10 * aI (G79.2.1 (F a 17)) (l4_86.toInt) + 0))) = 29 ∨ (sL (aI (G.2.1 (F a 10)) (10 * aI (G79.2.1 (F a 17)) (l4_86.toInt) + 0))) = 99))
    (z116b : (aI (G79.2.1 (F a 17)) (l4_86.toInt)) = p0.toInt → (sF (aI (G.2.1 (F a 10)) (10 * aI (G79.2.1 (F a 17)) (l4_86.toInt) + 0))) = (sF (aI (G.2.1 (F a 10)) (10 * p0.toInt + 0))) ∧ (sL (aI (G.2.1 (F a 10)) (10 * aI (G79.2.1 (F a 17)) (l4_86.toInt) + 0))) = (sL (aI (G.2.1 (F a 10)) (10 * p0.toInt + 0))))
    (t130 : x130.toInt = (flq (mw (G.2.1 (F a 1)) 0) (aI (G.2.1 (F a 10)) (10 * p0.toInt + 0)) (aI (G.2.1 (F a 10)) (10 * p0.toInt + 1)) (aI (G.2.1 (F a 10)) (10 * p0.toInt + 2)) (aI (G.2.1 (F a 10)) (10 * p0.toInt + 4)) (aI (G.2.1 (F a 10)) (10 * p0.toInt + 5)) (aI (G79.2.1 (F a 18)) (l4_86.toInt)) (stt (mw (G.2.1 (F a 1)) 0) (aI (G.2.1 (F a 10)) (10 * p0.toInt + 0)) (aI (G.2.1 (F a 10)) (10 * p0.toInt + 1)) (aI (G.2.1 (F a 10)) (10 * p0.toInt + 2)) (aI (G.2.1 (F a 10)) (10 * p0.toInt + 3)) (aI (G79.2.1 (F a 18)) (l4_86.toInt)))))
    (f58 : x130.toInt = 0 ∨ x130.toInt = 1)
    (c133 : x130.toInt = 0) :
    ∀ j : Int, 0 ≤ j → j < (l4_86.toInt + 1) → aI (G79.2.1 (F a 17)) j = p0.toInt → fzq (G.2.1 (F a 10)) (mw (G.2.1 (F a 1)) 0) (aI (G79.2.1 (F a 17)) j) (aI (G79.2.1 (F a 18)) j) = 0 := by
  intro j h1 h2 h3
  by_cases e : j = l4_86.toInt
  · subst e
    first
      | exact absurd h3 (by omega)
      | (have t9 : flq _ _ _ _ _ _ _ _ = 0 := t130.symm.trans c133
         rw [h3]
         exact t9)
  · exact pl j h1 (by omega) h3
theorem v_X11_later_150_31 {K : Nat → Nat} {F : Nat → Nat → Nat} (a : Nat) (G : XG) (G6 : XG) (G79 : XG) (G145 : XG) (p0 : Int32) (x79 : Int32) (l4_86 : Int32) (p1 : Int32) (x11 : Int32) (N86 : Nat) (x130 : Int32)
    (ha : K a = 13)
    (oq79 : pL G79 F a = if ((G.1 a 6).toInt) = 0 then [] else fuO (G.2.1 (F a 10)) (mw (G.2.1 (F a 1)) 0) (mw (G.2.1 (F a 2)) 0) 1)
    (oq79a : x79.toInt = cnP (pL G79 F a) p0.toInt)
    (z0 : p1.toInt = 0 ∨ p1.toInt = 1)
    (t6 : ((G6.1 a 20).toInt) = -2147483648 ∧ ((G6.1 a 21).toInt) = -2147483648 ∧ ((G6.1 a 23).toInt) = 0)
    (t11 : (x11.toInt = 1 ∧ 0 ≤ p0.toInt ∧ p0.toInt ≤ 11 ∧ (aI (G.2.1 (F a 10)) (10 * p0.toInt + 0)) ≠ -1) ∨ (x11.toInt = 0 ∧ (¬ (0 ≤ p0.toInt ∧ p0.toInt ≤ 11) ∨ (aI (G.2.1 (F a 10)) (10 * p0.toInt + 0)) = -1)))
    (c14 : x11.toInt ≠ 0)
    (c28 : ¬ (p1.toInt = 0))
    (c36 : (aI (G.2.1 (F a 10)) (10 * p0.toInt + 6)) ≠ (1 : Int))
    (c43 : p1.toInt = 0)
    (t79 : 0 ≤ x79.toInt ∧ x79.toInt ≤ 2388 ∧ 0 ≤ ((G79.1 a 19).toInt) ∧ ((G79.1 a 19).toInt) ≤ 2388)
    (I86_0 : 0 ≤ l4_86.toInt ∧ l4_86.toInt ≤ ((G79.1 a 19).toInt))
    (I86_1 : (0 : Int) ≤ l4_86.toInt)
    (hm86 : 2147483648 - l4_86.toInt < (((N86) + 1 : Nat) : Int))
    (c92 : ¬ (((G79.1 a 19).toInt) ≤ l4_86.toInt))
    (c103 : ¬ ((aI (G79.2.1 (F a 17)) (l4_86.toInt)) ≠ p0.toInt))
    (z116 : (0 ≤ (aI (G79.2.1 (F a 17)) (l4_86.toInt)) ∧ (aI (G79.2.1 (F a 17)) (l4_86.toInt)) ≤ 11) ∧ (aI (G.2.1 (F a 10)) (10 * aI (G79.2.1 (F a 17)) (l4_86.toInt) + 0)) ≠ -1 ∧ ((sF (aI (G.2.1 (F a 10)) (10 * aI (G79.2.1 (F a 17)) (l4_86.toInt) + 0))) ≤ (aI (G79.2.1 (F a 18)) (l4_86.toInt)) ∧ (aI (G79.2.1 (F a 18)) (l4_86.toInt)) ≤ (sL (aI (G.2.1 (F a 10)) (10 * aI (G79.2.1 (F a 17)) (l4_86.toInt) + 0)))))
    (z116a : ((sF (aI (G.2.1 (F a 10)) (10 * aI (G79.2.1 (F a 17)) (l4_86.toInt) + 0))) = 0 ∨ (sF (aI (G.2.1 (F a 10)) (10 * aI (G79.2.1 (F a 17)) (l4_86.toInt) + 0))) = -99) ∧ ((sL (aI (G.2.1 (F a 10)) (10 * aI (G79.2.1 (F a 17)) (l4_86.toInt) + 0))) = 29 ∨ (sL (aI (G.2.1 (F a 10)) (10 * aI (G79.2.1 (F a 17)) (l4_86.toInt) + 0))) = 99))
    (z116b : (aI (G79.2.1 (F a 17)) (l4_86.toInt)) = p0.toInt → (sF (aI (G.2.1 (F a 10)) (10 * aI (G79.2.1 (F a 17)) (l4_86.toInt) + 0))) = (sF (aI (G.2.1 (F a 10)) (10 * p0.toInt + 0))) ∧ (sL (aI (G.2.1 (F a 10)) (10 * aI (G79.2.1 (F a 17)) (l4_86.toInt) + 0))) = (sL (aI (G.2.1 (F a 10)) (10 * p0.toInt + 0))))
    (t130 : x130.toInt = (flq (mw (G.2.1 (F a 1)) 0) (aI (G.2.1 (F a 10)) (10 * p0.toInt + 0)) (aI (G.2.1 (F a 10)) (10 * p0.toInt + 1)) (aI (G.2.1 (F a 10)) (10 * p0.toInt + 2)) (aI (G.2.1 (F a 10)) (10 * p0.toInt + 4)) (aI (G.2.1 (F a 10)) (10 * p0.toInt + 5)) (aI (G79.2.1 (F a 18)) (l4_86.toInt)) (stt (mw (G.2.1 (F a 1)) 0) (aI (G.2.1 (F a 10)) (10 * p0.toInt + 0)) (aI (G.2.1 (F a 10)) (10 * p0.toInt + 1)) (aI (G.2.1 (F a 10)) (10 * p0.toInt + 2)) (aI (G.2.1 (F a 10)) (10 * p0.toInt + 3)) (aI (G79.2.1 (F a 18)) (l4_86.toInt)))))
    (f59 : x130.toInt = 0 ∨ x130.toInt = 1)
    (c133 : ¬ (x130.toInt = 0))
    (t145 : ((G145.1 a 20).toInt) = p0.toInt ∧ ((G145.1 a 21).toInt) = (aI (G79.2.1 (F a 18)) (l4_86.toInt)) ∧ 0 ≤ ((G145.1 a 23).toInt) ∧ ((G145.1 a 23).toInt) ≤ 24)
    (c_G145_F_a_10 : G145.2.1 (F a 10) = G.2.1 (F a 10)) :
    (¬ (0 ≤ p0.toInt ∧ p0.toInt ≤ 11 ∧ aI (G.2.1 (F a 10)) (10 * p0.toInt + 0) ≠ -1) ∧ (-5 : Int) = -2 ∧ G145.2.1 (F a 10) = (G.2.1 (F a 10))) ∨ ((0 ≤ p0.toInt ∧ p0.toInt ≤ 11 ∧ aI (G.2.1 (F a 10)) (10 * p0.toInt + 0) ≠ -1) ∧ aI (G.2.1 (F a 10)) (10 * p0.toInt + 6) = p1.toInt ∧ (-5 : Int) = -4 ∧ G145.2.1 (F a 10) = (G.2.1 (F a 10))) ∨ ((0 ≤ p0.toInt ∧ p0.toInt ≤ 11 ∧ aI (G.2.1 (F a 10)) (10 * p0.toInt + 0) ≠ -1) ∧ aI (G.2.1 (F a 10)) (10 * p0.toInt + 6) ≠ p1.toInt ∧ p1.toInt = 1 ∧ (∀ z : Int, 0 ≤ z → aI (G145.2.1 (F a 10)) z = if z = 10 * p0.toInt + 6 then 1 else aI (G.2.1 (F a 10)) z) ∧ (-5 : Int) = cnP (if ((G.1 a 6).toInt) = 0 then [] else fuO (G145.2.1 (F a 10)) (mw (G.2.1 (F a 1)) 0) (mw (G.2.1 (F a 2)) 0) 1) p0.toInt) ∨ ((0 ≤ p0.toInt ∧ p0.toInt ≤ 11 ∧ aI (G.2.1 (F a 10)) (10 * p0.toInt + 0) ≠ -1) ∧ aI (G.2.1 (F a 10)) (10 * p0.toInt + 6) ≠ p1.toInt ∧ p1.toInt = 0 ∧ ((QFl (G.2.1 (F a 10)) (mw (G.2.1 (F a 1)) 0) (if ((G.1 a 6).toInt) = 0 then [] else fuO (G.2.1 (F a 10)) (mw (G.2.1 (F a 1)) 0) (mw (G.2.1 (F a 2)) 0) 1) p0.toInt ∧ (-5 : Int) = -5 ∧ G145.2.1 (F a 10) = (G.2.1 (F a 10))) ∨ (¬ QFl (G.2.1 (F a 10)) (mw (G.2.1 (F a 1)) 0) (if ((G.1 a 6).toInt) = 0 then [] else fuO (G.2.1 (F a 10)) (mw (G.2.1 (F a 1)) 0) (mw (G.2.1 (F a 2)) 0) 1) p0.toInt ∧ (∀ z : Int, 0 ≤ z → aI (G145.2.1 (F a 10)) z = if z = 10 * p0.toInt + 6 then 0 else aI (G.2.1 (F a 10)) z) ∧ (-5 : Int) = cnP (if ((G.1 a 6).toInt) = 0 then [] else fuO (G.2.1 (F a 10)) (mw (G.2.1 (F a 1)) 0) (mw (G.2.1 (F a 2)) 0) 1) p0.toInt))) := by
  refine Or.inr (Or.inr (Or.inr ⟨by omega, by omega, by omega, Or.inl ⟨?_, rfl, by rw [c_G145_F_a_10]⟩⟩))
  rw [← oq79]
  refine ⟨_, List.mem_of_getElem? (pL_at (z := l4_86.toInt) (by omega)), by show aI (G79.2.1 (F a 17)) l4_86.toInt = p0.toInt; omega, ?_⟩
  show fzq _ _ (aI (G79.2.1 (F a 17)) l4_86.toInt) (aI (G79.2.1 (F a 18)) l4_86.toInt) = 1
  rw [show aI (G79.2.1 (F a 17)) l4_86.toInt = p0.toInt from by omega]
  have h01 := flq01 (mw (G.2.1 (F a 1)) 0) (aI (G.2.1 (F a 10)) (10 * p0.toInt + 0)) (aI (G.2.1 (F a 10)) (10 * p0.toInt + 1)) (aI (G.2.1 (F a 10)) (10 * p0.toInt + 2)) (aI (G.2.1 (F a 10)) (10 * p0.toInt + 4)) (aI (G.2.1 (F a 10)) (10 * p0.toInt + 5)) (aI (G79.2.1 (F a 18)) l4_86.toInt) (stt (mw (G.2.1 (F a 1)) 0) (aI (G.2.1 (F a 10)) (10 * p0.toInt + 0)) (aI (G.2.1 (F a 10)) (10 * p0.toInt + 1)) (aI (G.2.1 (F a 10)) (10 * p0.toInt + 2)) (aI (G.2.1 (F a 10)) (10 * p0.toInt + 3)) (aI (G79.2.1 (F a 18)) l4_86.toInt))
  show flq _ _ _ _ _ _ _ _ = 1
  omega
theorem v_X11_later_150_32 {F : Nat → Nat → Nat} (a : Nat) (G : XG) (G145 : XG)
    (hR : RV (G.2.1 (F a 10)))
    (c_G145_F_a_10 : G145.2.1 (F a 10) = G.2.1 (F a 10)) :
    RV (G145.2.1 (F a 10)) := by
  rw [c_G145_F_a_10]; exact hR
theorem v_X11_later_84_33 {K : Nat → Nat} {F : Nat → Nat → Nat} (a : Nat) (G : XG) (G6 : XG) (G79 : XG) (p0 : Int32) (x79 : Int32) (p1 : Int32) (x11 : Int32)
    (ha : K a = 13)
    (oq79a : x79.toInt = cnP (pL G79 F a) p0.toInt)
    (z0 : p1.toInt = 0 ∨ p1.toInt = 1)
    (t6 : ((G6.1 a 20).toInt) = -2147483648 ∧ ((G6.1 a 21).toInt) = -2147483648 ∧ ((G6.1 a 23).toInt) = 0)
    (t11 : (x11.toInt = 1 ∧ 0 ≤ p0.toInt ∧ p0.toInt ≤ 11 ∧ (aI (G.2.1 (F a 10)) (10 * p0.toInt + 0)) ≠ -1) ∨ (x11.toInt = 0 ∧ (¬ (0 ≤ p0.toInt ∧ p0.toInt ≤ 11) ∨ (aI (G.2.1 (F a 10)) (10 * p0.toInt + 0)) = -1)))
    (c14 : x11.toInt ≠ 0)
    (c28 : ¬ (p1.toInt = 0))
    (c36 : (aI (G.2.1 (F a 10)) (10 * p0.toInt + 6)) ≠ (1 : Int))
    (c43 : p1.toInt = 0)
    (t79 : 0 ≤ x79.toInt ∧ x79.toInt ≤ 2388 ∧ 0 ≤ ((G79.1 a 19).toInt) ∧ ((G79.1 a 19).toInt) ≤ 2388) :
    ∀ j : Int, 0 ≤ j → j < (0 : Int) → aI (G79.2.1 (F a 17)) j = p0.toInt → fzq (G.2.1 (F a 10)) (mw (G.2.1 (F a 1)) 0) (aI (G79.2.1 (F a 17)) j) (aI (G79.2.1 (F a 18)) j) = 0 := by
  intro j h1 h2; exact absurd h1 (by omega)
theorem v_X11_later_61_34 {K : Nat → Nat} {F : Nat → Nat → Nat} (a : Nat) (G : XG) (G6 : XG) (G58 : XG) (x56 : Int32) (p0 : Int32) (p1 : Int32) (x11 : Int32)
    (ha : K a = 13)
    (hG58 : G58 = cput G6 (F a 10) x56.toNatClampNeg 1)
    (hR : RV (G.2.1 (F a 10)))
    (e56 : x56.toInt = (((10 : Int) * p0.toInt) + (6 : Int)))
    (z0 : p1.toInt = 0 ∨ p1.toInt = 1)
    (t6 : ((G6.1 a 20).toInt) = -2147483648 ∧ ((G6.1 a 21).toInt) = -2147483648 ∧ ((G6.1 a 23).toInt) = 0)
    (t11 : (x11.toInt = 1 ∧ 0 ≤ p0.toInt ∧ p0.toInt ≤ 11 ∧ (aI (G.2.1 (F a 10)) (10 * p0.toInt + 0)) ≠ -1) ∨ (x11.toInt = 0 ∧ (¬ (0 ≤ p0.toInt ∧ p0.toInt ≤ 11) ∨ (aI (G.2.1 (F a 10)) (10 * p0.toInt + 0)) = -1)))
    (c14 : x11.toInt ≠ 0)
    (c28 : ¬ (p1.toInt = 0))
    (c36 : (aI (G.2.1 (F a 10)) (10 * p0.toInt + 6)) ≠ (1 : Int))
    (c_G6_F_a_10 : G6.2.1 (F a 10) = G.2.1 (F a 10)) :
    RV (G58.2.1 (F a 10)) := by
  exact hR.late (x := p0.toInt) (y := 1) (aI_pu hG58 c_G6_F_a_10 (by omega) (by decide) (by omega))
theorem v_X11_later_61_35 {F : Nat → Nat → Nat} (a : Nat) (G : XG) (G58 : XG)
    (hM : RM (G.2.1 (F a 1)) (0))
    (hB : RM (G.2.1 (F a 2)) 0)
    (c_G58_F_a_1 : G58.2.1 (F a 1) = G.2.1 (F a 1)) :
    RM (G58.2.1 (F a 1)) (0) := by simp only [c_G58_F_a_1]; assumption
theorem v_X11_later_61_36 {F : Nat → Nat → Nat} (a : Nat) (G : XG) (G58 : XG)
    (hM : RM (G.2.1 (F a 1)) (0))
    (hB : RM (G.2.1 (F a 2)) 0)
    (c_G58_F_a_2 : G58.2.1 (F a 2) = G.2.1 (F a 2)) :
    RM (G58.2.1 (F a 2)) 0 := by simp only [c_G58_F_a_2]; assumption
theorem v_X11_later_76_37 {K : Nat → Nat} {F : Nat → Nat → Nat} (a : Nat) (G : XG) (G6 : XG) (G58 : XG) (x56 : Int32) (G61 : XG) (G74 : XG) (p0 : Int32) (x61 : Int32) (p1 : Int32) (x11 : Int32)
    (ha : K a = 13)
    (hG58 : G58 = cput G6 (F a 10) x56.toNatClampNeg 1)
    (e56 : x56.toInt = (((10 : Int) * p0.toInt) + (6 : Int)))
    (oq61 : pL G61 F a = if ((G.1 a 6).toInt) = 0 then [] else fuO (G58.2.1 (F a 10)) (mw (G.2.1 (F a 1)) 0) (mw (G.2.1 (F a 2)) 0) 1)
    (oq61a : x61.toInt = cnP (pL G61 F a) p0.toInt)
    (z0 : p1.toInt = 0 ∨ p1.toInt = 1)
    (t6 : ((G6.1 a 20).toInt) = -2147483648 ∧ ((G6.1 a 21).toInt) = -2147483648 ∧ ((G6.1 a 23).toInt) = 0)
    (t11 : (x11.toInt = 1 ∧ 0 ≤ p0.toInt ∧ p0.toInt ≤ 11 ∧ (aI (G.2.1 (F a 10)) (10 * p0.toInt + 0)) ≠ -1) ∨ (x11.toInt = 0 ∧ (¬ (0 ≤ p0.toInt ∧ p0.toInt ≤ 11) ∨ (aI (G.2.1 (F a 10)) (10 * p0.toInt + 0)) = -1)))
    (c14 : x11.toInt ≠ 0)
    (c28 : ¬ (p1.toInt = 0))
    (c36 : (aI (G.2.1 (F a 10)) (10 * p0.toInt + 6)) ≠ (1 : Int))
    (t61 : 0 ≤ x61.toInt ∧ x61.toInt ≤ 2388 ∧ 0 ≤ ((G61.1 a 19).toInt) ∧ ((G61.1 a 19).toInt) ≤ 2388)
    (c_G6_F_a_10 : G6.2.1 (F a 10) = G.2.1 (F a 10))
    (c_G74_F_a_10 : G74.2.1 (F a 10) = G58.2.1 (F a 10)) :
    (¬ (0 ≤ p0.toInt ∧ p0.toInt ≤ 11 ∧ aI (G.2.1 (F a 10)) (10 * p0.toInt + 0) ≠ -1) ∧ x61.toInt = -2 ∧ G74.2.1 (F a 10) = (G.2.1 (F a 10))) ∨ ((0 ≤ p0.toInt ∧ p0.toInt ≤ 11 ∧ aI (G.2.1 (F a 10)) (10 * p0.toInt + 0) ≠ -1) ∧ aI (G.2.1 (F a 10)) (10 * p0.toInt + 6) = p1.toInt ∧ x61.toInt = -4 ∧ G74.2.1 (F a 10) = (G.2.1 (F a 10))) ∨ ((0 ≤ p0.toInt ∧ p0.toInt ≤ 11 ∧ aI (G.2.1 (F a 10)) (10 * p0.toInt + 0) ≠ -1) ∧ aI (G.2.1 (F a 10)) (10 * p0.toInt + 6) ≠ p1.toInt ∧ p1.toInt = 1 ∧ (∀ z : Int, 0 ≤ z → aI (G74.2.1 (F a 10)) z = if z = 10 * p0.toInt + 6 then 1 else aI (G.2.1 (F a 10)) z) ∧ x61.toInt = cnP (if ((G.1 a 6).toInt) = 0 then [] else fuO (G74.2.1 (F a 10)) (mw (G.2.1 (F a 1)) 0) (mw (G.2.1 (F a 2)) 0) 1) p0.toInt) ∨ ((0 ≤ p0.toInt ∧ p0.toInt ≤ 11 ∧ aI (G.2.1 (F a 10)) (10 * p0.toInt + 0) ≠ -1) ∧ aI (G.2.1 (F a 10)) (10 * p0.toInt + 6) ≠ p1.toInt ∧ p1.toInt = 0 ∧ ((QFl (G.2.1 (F a 10)) (mw (G.2.1 (F a 1)) 0) (if ((G.1 a 6).toInt) = 0 then [] else fuO (G.2.1 (F a 10)) (mw (G.2.1 (F a 1)) 0) (mw (G.2.1 (F a 2)) 0) 1) p0.toInt ∧ x61.toInt = -5 ∧ G74.2.1 (F a 10) = (G.2.1 (F a 10))) ∨ (¬ QFl (G.2.1 (F a 10)) (mw (G.2.1 (F a 1)) 0) (if ((G.1 a 6).toInt) = 0 then [] else fuO (G.2.1 (F a 10)) (mw (G.2.1 (F a 1)) 0) (mw (G.2.1 (F a 2)) 0) 1) p0.toInt ∧ (∀ z : Int, 0 ≤ z → aI (G74.2.1 (F a 10)) z = if z = 10 * p0.toInt + 6 then 0 else aI (G.2.1 (F a 10)) z) ∧ x61.toInt = cnP (if ((G.1 a 6).toInt) = 0 then [] else fuO (G.2.1 (F a 10)) (mw (G.2.1 (F a 1)) 0) (mw (G.2.1 (F a 2)) 0) 1) p0.toInt))) := by
  refine Or.inr (Or.inr (Or.inl ⟨by omega, by omega, by omega, ?_, ?_⟩))
  · rw [c_G74_F_a_10]
    exact aI_pu hG58 c_G6_F_a_10 (by omega) (by decide) (by omega)
  · rw [c_G74_F_a_10, ← oq61]
    exact oq61a
theorem v_X11_later_76_38 {K : Nat → Nat} {F : Nat → Nat → Nat} (a : Nat) (G : XG) (G6 : XG) (G58 : XG) (x56 : Int32) (G61 : XG) (G74 : XG) (p0 : Int32) (x61 : Int32) (p1 : Int32) (x11 : Int32)
    (ha : K a = 13)
    (hG58 : G58 = cput G6 (F a 10) x56.toNatClampNeg 1)
    (hR : RV (G.2.1 (F a 10)))
    (e56 : x56.toInt = (((10 : Int) * p0.toInt) + (6 : Int)))
    (oq61a : x61.toInt = cnP (pL G61 F a) p0.toInt)
    (z0 : p1.toInt = 0 ∨ p1.toInt = 1)
    (t6 : ((G6.1 a 20).toInt) = -2147483648 ∧ ((G6.1 a 21).toInt) = -2147483648 ∧ ((G6.1 a 23).toInt) = 0)
    (t11 : (x11.toInt = 1 ∧ 0 ≤ p0.toInt ∧ p0.toInt ≤ 11 ∧ (aI (G.2.1 (F a 10)) (10 * p0.toInt + 0)) ≠ -1) ∨ (x11.toInt = 0 ∧ (¬ (0 ≤ p0.toInt ∧ p0.toInt ≤ 11) ∨ (aI (G.2.1 (F a 10)) (10 * p0.toInt + 0)) = -1)))
    (c14 : x11.toInt ≠ 0)
    (c28 : ¬ (p1.toInt = 0))
    (c36 : (aI (G.2.1 (F a 10)) (10 * p0.toInt + 6)) ≠ (1 : Int))
    (t61 : 0 ≤ x61.toInt ∧ x61.toInt ≤ 2388 ∧ 0 ≤ ((G61.1 a 19).toInt) ∧ ((G61.1 a 19).toInt) ≤ 2388)
    (c_G6_F_a_10 : G6.2.1 (F a 10) = G.2.1 (F a 10))
    (c_G74_F_a_10 : G74.2.1 (F a 10) = G58.2.1 (F a 10)) :
    RV (G74.2.1 (F a 10)) := by
  rw [c_G74_F_a_10]
  exact hR.late (x := p0.toInt) (y := 1) (aI_pu hG58 c_G6_F_a_10 (by omega) (by decide) (by omega))
theorem v_X11_later_41_39 {K : Nat → Nat} {F : Nat → Nat → Nat} (a : Nat) (G : XG) (G6 : XG) (p0 : Int32) (p1 : Int32) (x11 : Int32)
    (ha : K a = 13)
    (z0 : p1.toInt = 0 ∨ p1.toInt = 1)
    (t6 : ((G6.1 a 20).toInt) = -2147483648 ∧ ((G6.1 a 21).toInt) = -2147483648 ∧ ((G6.1 a 23).toInt) = 0)
    (t11 : (x11.toInt = 1 ∧ 0 ≤ p0.toInt ∧ p0.toInt ≤ 11 ∧ (aI (G.2.1 (F a 10)) (10 * p0.toInt + 0)) ≠ -1) ∨ (x11.toInt = 0 ∧ (¬ (0 ≤ p0.toInt ∧ p0.toInt ≤ 11) ∨ (aI (G.2.1 (F a 10)) (10 * p0.toInt + 0)) = -1)))
    (c14 : x11.toInt ≠ 0)
    (c28 : ¬ (p1.toInt = 0))
    (c36 : ¬ ((aI (G.2.1 (F a 10)) (10 * p0.toInt + 6)) ≠ (1 : Int)))
    (c_G6_F_a_10 : G6.2.1 (F a 10) = G.2.1 (F a 10)) :
    (¬ (0 ≤ p0.toInt ∧ p0.toInt ≤ 11 ∧ aI (G.2.1 (F a 10)) (10 * p0.toInt + 0) ≠ -1) ∧ (-4 : Int) = -2 ∧ G6.2.1 (F a 10) = (G.2.1 (F a 10))) ∨ ((0 ≤ p0.toInt ∧ p0.toInt ≤ 11 ∧ aI (G.2.1 (F a 10)) (10 * p0.toInt + 0) ≠ -1) ∧ aI (G.2.1 (F a 10)) (10 * p0.toInt + 6) = p1.toInt ∧ (-4 : Int) = -4 ∧ G6.2.1 (F a 10) = (G.2.1 (F a 10))) ∨ ((0 ≤ p0.toInt ∧ p0.toInt ≤ 11 ∧ aI (G.2.1 (F a 10)) (10 * p0.toInt + 0) ≠ -1) ∧ aI (G.2.1 (F a 10)) (10 * p0.toInt + 6) ≠ p1.toInt ∧ p1.toInt = 1 ∧ (∀ z : Int, 0 ≤ z → aI (G6.2.1 (F a 10)) z = if z = 10 * p0.toInt + 6 then 1 else aI (G.2.1 (F a 10)) z) ∧ (-4 : Int) = cnP (if ((G.1 a 6).toInt) = 0 then [] else fuO (G6.2.1 (F a 10)) (mw (G.2.1 (F a 1)) 0) (mw (G.2.1 (F a 2)) 0) 1) p0.toInt) ∨ ((0 ≤ p0.toInt ∧ p0.toInt ≤ 11 ∧ aI (G.2.1 (F a 10)) (10 * p0.toInt + 0) ≠ -1) ∧ aI (G.2.1 (F a 10)) (10 * p0.toInt + 6) ≠ p1.toInt ∧ p1.toInt = 0 ∧ ((QFl (G.2.1 (F a 10)) (mw (G.2.1 (F a 1)) 0) (if ((G.1 a 6).toInt) = 0 then [] else fuO (G.2.1 (F a 10)) (mw (G.2.1 (F a 1)) 0) (mw (G.2.1 (F a 2)) 0) 1) p0.toInt ∧ (-4 : Int) = -5 ∧ G6.2.1 (F a 10) = (G.2.1 (F a 10))) ∨ (¬ QFl (G.2.1 (F a 10)) (mw (G.2.1 (F a 1)) 0) (if ((G.1 a 6).toInt) = 0 then [] else fuO (G.2.1 (F a 10)) (mw (G.2.1 (F a 1)) 0) (mw (G.2.1 (F a 2)) 0) 1) p0.toInt ∧ (∀ z : Int, 0 ≤ z → aI (G6.2.1 (F a 10)) z = if z = 10 * p0.toInt + 6 then 0 else aI (G.2.1 (F a 10)) z) ∧ (-4 : Int) = cnP (if ((G.1 a 6).toInt) = 0 then [] else fuO (G.2.1 (F a 10)) (mw (G.2.1 (F a 1)) 0) (mw (G.2.1 (F a 2)) 0) 1) p0.toInt))) := by
  exact Or.inr (Or.inl ⟨by omega, by omega, rfl, by rw [c_G6_F_a_10]⟩)
theorem v_X11_later_41_40 {F : Nat → Nat → Nat} (a : Nat) (G : XG) (G6 : XG)
    (hR : RV (G.2.1 (F a 10)))
    (c_G6_F_a_10 : G6.2.1 (F a 10) = G.2.1 (F a 10)) :
    RV (G6.2.1 (F a 10)) := by
  rw [c_G6_F_a_10]; exact hR
theorem v_X11_later_19_41 {K : Nat → Nat} {F : Nat → Nat → Nat} (a : Nat) (G : XG) (G6 : XG) (p1 : Int32) (x11 : Int32) (p0 : Int32)
    (ha : K a = 13)
    (z0 : p1.toInt = 0 ∨ p1.toInt = 1)
    (t6 : ((G6.1 a 20).toInt) = -2147483648 ∧ ((G6.1 a 21).toInt) = -2147483648 ∧ ((G6.1 a 23).toInt) = 0)
    (t11 : (x11.toInt = 1 ∧ 0 ≤ p0.toInt ∧ p0.toInt ≤ 11 ∧ (aI (G.2.1 (F a 10)) (10 * p0.toInt + 0)) ≠ -1) ∨ (x11.toInt = 0 ∧ (¬ (0 ≤ p0.toInt ∧ p0.toInt ≤ 11) ∨ (aI (G.2.1 (F a 10)) (10 * p0.toInt + 0)) = -1)))
    (c14 : ¬ (x11.toInt ≠ 0))
    (c_G6_F_a_10 : G6.2.1 (F a 10) = G.2.1 (F a 10)) :
    (¬ (0 ≤ p0.toInt ∧ p0.toInt ≤ 11 ∧ aI (G.2.1 (F a 10)) (10 * p0.toInt + 0) ≠ -1) ∧ (-2 : Int) = -2 ∧ G6.2.1 (F a 10) = (G.2.1 (F a 10))) ∨ ((0 ≤ p0.toInt ∧ p0.toInt ≤ 11 ∧ aI (G.2.1 (F a 10)) (10 * p0.toInt + 0) ≠ -1) ∧ aI (G.2.1 (F a 10)) (10 * p0.toInt + 6) = p1.toInt ∧ (-2 : Int) = -4 ∧ G6.2.1 (F a 10) = (G.2.1 (F a 10))) ∨ ((0 ≤ p0.toInt ∧ p0.toInt ≤ 11 ∧ aI (G.2.1 (F a 10)) (10 * p0.toInt + 0) ≠ -1) ∧ aI (G.2.1 (F a 10)) (10 * p0.toInt + 6) ≠ p1.toInt ∧ p1.toInt = 1 ∧ (∀ z : Int, 0 ≤ z → aI (G6.2.1 (F a 10)) z = if z = 10 * p0.toInt + 6 then 1 else aI (G.2.1 (F a 10)) z) ∧ (-2 : Int) = cnP (if ((G.1 a 6).toInt) = 0 then [] else fuO (G6.2.1 (F a 10)) (mw (G.2.1 (F a 1)) 0) (mw (G.2.1 (F a 2)) 0) 1) p0.toInt) ∨ ((0 ≤ p0.toInt ∧ p0.toInt ≤ 11 ∧ aI (G.2.1 (F a 10)) (10 * p0.toInt + 0) ≠ -1) ∧ aI (G.2.1 (F a 10)) (10 * p0.toInt + 6) ≠ p1.toInt ∧ p1.toInt = 0 ∧ ((QFl (G.2.1 (F a 10)) (mw (G.2.1 (F a 1)) 0) (if ((G.1 a 6).toInt) = 0 then [] else fuO (G.2.1 (F a 10)) (mw (G.2.1 (F a 1)) 0) (mw (G.2.1 (F a 2)) 0) 1) p0.toInt ∧ (-2 : Int) = -5 ∧ G6.2.1 (F a 10) = (G.2.1 (F a 10))) ∨ (¬ QFl (G.2.1 (F a 10)) (mw (G.2.1 (F a 1)) 0) (if ((G.1 a 6).toInt) = 0 then [] else fuO (G.2.1 (F a 10)) (mw (G.2.1 (F a 1)) 0) (mw (G.2.1 (F a 2)) 0) 1) p0.toInt ∧ (∀ z : Int, 0 ≤ z → aI (G6.2.1 (F a 10)) z = if z = 10 * p0.toInt + 6 then 0 else aI (G.2.1 (F a 10)) z) ∧ (-2 : Int) = cnP (if ((G.1 a 6).toInt) = 0 then [] else fuO (G.2.1 (F a 10)) (mw (G.2.1 (F a 1)) 0) (mw (G.2.1 (F a 2)) 0) 1) p0.toInt))) := by
  exact Or.inl ⟨by omega, rfl, by rw [c_G6_F_a_10]⟩
theorem v_X11_later_19_42 {F : Nat → Nat → Nat} (a : Nat) (G : XG) (G6 : XG)
    (hR : RV (G.2.1 (F a 10)))
    (c_G6_F_a_10 : G6.2.1 (F a 10) = G.2.1 (F a 10)) :
    RV (G6.2.1 (F a 10)) := by
  rw [c_G6_F_a_10]; exact hR
theorem z_X11_later_1 (a0 : Int) (a1 : Int) (a2 : Int) (h0 : (a1 = 1 ∧ 0 ≤ a0 ∧ a0 ≤ 11 ∧ a2 ≠ -1) ∨ (a1 = 0 ∧ (¬ (0 ≤ a0 ∧ a0 ≤ 11) ∨ a2 = -1))) (h1 : a1 ≠ 0) : 0 ≤ a0 ∧ a0 ≤ 11 := by omega
theorem z_X11_later_2 (a0 : Int) (h0 : -2147483648 ≤ a0 ∧ a0 < 2147483648) : ¬ (2147483648 - a0 < ((0 : Nat) : Int)) := by omega
theorem z_X11_later_3 (a0 : Int) (a1 : Int) (a2 : Int) (a3 : Int) (h0 : (a1 = 1 ∧ 0 ≤ a0 ∧ a0 ≤ 11 ∧ a3 ≠ -1) ∨ (a1 = 0 ∧ (¬ (0 ≤ a0 ∧ a0 ≤ 11) ∨ a3 = -1))) (h1 : a1 ≠ 0) (h2 : a2 = ((10 : Int) * a0) ∨ ((10 : Int) * a0) < -2147483648 ∨ 2147483648 ≤ ((10 : Int) * a0)) : a2 = ((10 : Int) * a0) := by omega
theorem z_X11_later_4 (a0 : Int) (a1 : Int) (a2 : Int) (a3 : Int) (h0 : (a1 = 1 ∧ 0 ≤ a0 ∧ a0 ≤ 11 ∧ a3 ≠ -1) ∨ (a1 = 0 ∧ (¬ (0 ≤ a0 ∧ a0 ≤ 11) ∨ a3 = -1))) (h1 : a1 ≠ 0) (h2 : a2 = (((10 : Int) * a0) + (6 : Int)) ∨ (((10 : Int) * a0) + (6 : Int)) < -2147483648 ∨ 2147483648 ≤ (((10 : Int) * a0) + (6 : Int))) : a2 = (((10 : Int) * a0) + (6 : Int)) := by omega
theorem z_X11_later_5 (a0 : Int) (a1 : Int) (a2 : Int) (h0 : (a1 = 1 ∧ 0 ≤ a0 ∧ a0 ≤ 11 ∧ a2 ≠ -1) ∨ (a1 = 0 ∧ (¬ (0 ≤ a0 ∧ a0 ≤ 11) ∨ a2 = -1))) (h1 : a1 ≠ 0) : 0 ≤ (((10 : Int) * a0) + (6 : Int)) ∧ (((10 : Int) * a0) + (6 : Int)) < ((120 : Nat) : Int) := by omega
theorem z_X11_later_6 (a0 : Int) (a1 : Int) (a2 : Int) (h0 : a0 = -2147483648 ∧ a1 = -2147483648 ∧ a2 = 0) : (0 ≤ a2 ∧ a2 ≤ 24) := by omega
theorem z_X11_later_7 (a0 : Int) (a1 : Int) (a2 : Int) (h0 : 0 ≤ a1 ∧ a1 ≤ 2388 ∧ 0 ≤ a2 ∧ a2 ≤ 2388) (h1 : 0 ≤ a0 ∧ a0 ≤ a2) : 0 ≤ a0 ∧ a0 < ((2400 : Nat) : Int) := by omega
theorem z_X11_later_8 (a0 : Int) (a1 : Int) (a2 : Int) (a3 : Int) (h0 : 0 ≤ a2 ∧ a2 ≤ 2388 ∧ 0 ≤ a3 ∧ a3 ≤ 2388) (h1 : 0 ≤ a0 ∧ a0 ≤ a3) (h2 : a1 = (a0 + 1) ∨ (a0 + 1) < -2147483648 ∨ 2147483648 ≤ (a0 + 1)) : a1 = (a0 + 1) := by omega
theorem z_X11_later_9 (a0 : Int) (a1 : Int) (h0 : 0 ≤ a0 ∧ a0 ≤ a1) (h1 : ¬ (a1 ≤ a0)) : 0 ≤ (a0 + 1) ∧ (a0 + 1) ≤ a1 := by omega
theorem z_X11_later_10 (a0 : Int) (a1 : Int) (h0 : 0 ≤ a0 ∧ a0 ≤ a1) : (0 : Int) ≤ (a0 + 1) := by omega
theorem z_X11_later_11 (a0 : Int) (a1 : Nat) (h0 : 2147483648 - a0 < ((a1 + 1 : Nat) : Int)) : 2147483648 - (a0 + 1) < ((a1 : Nat) : Int) := by omega
theorem z_X11_later_12 (a0 : Int) (a1 : Int) (h0 : 0 ≤ a0 ∧ a0 ≤ a1) (h1 : ¬ (a1 ≤ a0)) : 0 ≤ a0 ∧ a0 < a1 := by omega
theorem z_X11_later_14 (a0 : Int) (a1 : Int) (h0 : ¬ (a1 ≠ a0)) (h1 : 0 ≤ a1 ∧ a1 ≤ 11) : 0 ≤ a0 ∧ a0 ≤ 11 := by omega
theorem z_X11_later_15 (a0 : Int) (a1 : Int) (a2 : Int) (h0 : (a1 = 1 ∧ 0 ≤ a0 ∧ a0 ≤ 11 ∧ a2 ≠ -1) ∨ (a1 = 0 ∧ (¬ (0 ≤ a0 ∧ a0 ≤ 11) ∨ a2 = -1))) (h1 : a1 ≠ 0) : a2 ≠ -1 := by omega
theorem z_X11_later_16 (a0 : Int) (a1 : Int) (a2 : Int) (a3 : Int) (a4 : Int) (a5 : Int) (a6 : Int) (h0 : ¬ (a1 ≠ a0)) (h1 : a3 ≤ a2 ∧ a2 ≤ a5) (h2 : a1 = a0 → a3 = a4 ∧ a5 = a6) : a4 ≤ a2 ∧ a2 ≤ a6 := by omega
theorem z_X11_later_23 (a0 : Int) (a1 : Int) (a2 : Int) (h0 : a1 ≤ a0 ∧ a0 ≤ a2) (h1 : a1 = 0 ∨ a1 = -99) (h2 : a2 = 29 ∨ a2 = 99) : -99 ≤ a0 ∧ a0 ≤ 99 := by omega
theorem z_X11_later_24 (a0 : Int) (a1 : Int) (a2 : Int) (a3 : Int) (a4 : Int) (h0 : a1 = a0 ∧ a2 = a4 ∧ 0 ≤ a3 ∧ a3 ≤ 24) : (0 ≤ a3 ∧ a3 ≤ 24) := by omega
theorem z_X11_later_25 (a0 : Int) (a1 : Int) (h0 : 0 ≤ a0 ∧ a0 ≤ 2388 ∧ 0 ≤ a1 ∧ a1 ≤ 2388) : 0 ≤ (0 : Int) ∧ (0 : Int) ≤ a1 := by omega
abbrev rm_X11_later : Room := { frames := 6, cells := 0, slots := 0, locals := 145 }
set_option maxHeartbeats 4000000 in
set_option maxRecDepth 100000 in
theorem c_X11_later (l : Launch) (E : XE) (K : Nat → Nat) (F : Nat → Nat → Nat) (G : XG) (a : Nat) (p0 : Int32) (p1 : Int32) (ha : K a = 13) (b1 : p1 = 0 ∨ p1 = 1) (hR : RV (G.2.1 (F a 10))) (hM : RM (G.2.1 (F a 1)) (0)) (hB : RM (G.2.1 (F a 2)) 0) : Met l yX11_later (xw yX11_later cX11_later 5 (some .int)) rm_X11_later (va_Pc [.ref a, .int p0, .int p1] (XP E K F G)) (XQ E (fun v (u : XG) => ∃ r : Int32, v = .int r ∧ XFr [(a, 16), (a, 19), (a, 20), (a, 21), (a, 23), (a, 0)] [F a 15, F a 17, F a 18, F a 11, F a 13, F a 22, F a 10, F a 8, F a 9] [] G u ∧ ((0 ≤ ((u.1 a 23).toInt) ∧ ((u.1 a 23).toInt) ≤ 24)) ∧ ((¬ (0 ≤ p0.toInt ∧ p0.toInt ≤ 11 ∧ aI (G.2.1 (F a 10)) (10 * p0.toInt + 0) ≠ -1) ∧ r.toInt = -2 ∧ u.2.1 (F a 10) = (G.2.1 (F a 10))) ∨ ((0 ≤ p0.toInt ∧ p0.toInt ≤ 11 ∧ aI (G.2.1 (F a 10)) (10 * p0.toInt + 0) ≠ -1) ∧ aI (G.2.1 (F a 10)) (10 * p0.toInt + 6) = p1.toInt ∧ r.toInt = -4 ∧ u.2.1 (F a 10) = (G.2.1 (F a 10))) ∨ ((0 ≤ p0.toInt ∧ p0.toInt ≤ 11 ∧ aI (G.2.1 (F a 10)) (10 * p0.toInt + 0) ≠ -1) ∧ aI (G.2.1 (F a 10)) (10 * p0.toInt + 6) ≠ p1.toInt ∧ p1.toInt = 1 ∧ (∀ z : Int, 0 ≤ z → aI (u.2.1 (F a 10)) z = if z = 10 * p0.toInt + 6 then 1 else aI (G.2.1 (F a 10)) z) ∧ r.toInt = cnP (if ((G.1 a 6).toInt) = 0 then [] else fuO (u.2.1 (F a 10)) (mw (G.2.1 (F a 1)) 0) (mw (G.2.1 (F a 2)) 0) 1) p0.toInt) ∨ ((0 ≤ p0.toInt ∧ p0.toInt ≤ 11 ∧ aI (G.2.1 (F a 10)) (10 * p0.toInt + 0) ≠ -1) ∧ aI (G.2.1 (F a 10)) (10 * p0.toInt + 6) ≠ p1.toInt ∧ p1.toInt = 0 ∧ ((QFl (G.2.1 (F a 10)) (mw (G.2.1 (F a 1)) 0) (if ((G.1 a 6).toInt) = 0 then [] else fuO (G.2.1 (F a 10)) (mw (G.2.1 (F a 1)) 0) (mw (G.2.1 (F a 2)) 0) 1) p0.toInt ∧ r.toInt = -5 ∧ u.2.1 (F a 10) = (G.2.1 (F a 10))) ∨ (¬ QFl (G.2.1 (F a 10)) (mw (G.2.1 (F a 1)) 0) (if ((G.1 a 6).toInt) = 0 then [] else fuO (G.2.1 (F a 10)) (mw (G.2.1 (F a 1)) 0) (mw (G.2.1 (F a 2)) 0) 1) p0.toInt ∧ (∀ z : Int, 0 ≤ z → aI (u.2.1 (F a 10)) z = if z = 10 * p0.toInt + 6 then 0 else aI (G.2.1 (F a 10)) z) ∧ r.toInt = cnP (if ((G.1 a 6).toInt) = 0 then [] else fuO (G.2.1 (F a 10)) (mw (G.2.1 (F a 1)) 0) (mw (G.2.1 (F a 2)) 0) 1) p0.toInt)))) ∧ (RV (u.2.1 (F a 10)))) (fun u H => TW E K F u H)) 0 0 (xA E) := by
  refine x_enter (by decide) (Nat.le_of_ble_eq_true rfl) ?_
  intro p e s m args below meth c Q S hr hlk hnm hQ hP ls hl
  obtain ⟨hz, hK, hT⟩ := hP
  obtain ⟨hx, hb, -, -, -⟩ := id S
  obtain ⟨H, hT, hS, hgo⟩ : ∃ H : Heap, TW E K F G H ∧ va_S (xA E) s.heap H [] ∧ H = s.heap := ⟨_, hT, va_S.rf, rfl⟩
  rw [← hgo]
  have hl : lv_has ls 5 [(0, .ref a), (1, .int p0), (2, .int p1)] := hl
  obtain ⟨hk9999, hj9999⟩ := fkX11_15 hT ha
  obtain ⟨hk9999a, hj9999a⟩ := fkX11_17 hT ha
  obtain ⟨hk9999b, hj9999b⟩ := fkX11_18 hT ha
  obtain ⟨hk9999c, hj9999c⟩ := fkX11_11 hT ha
  obtain ⟨hk9999d, hj9999d⟩ := fkX11_13 hT ha
  obtain ⟨hk9999e, hj9999e⟩ := fkX11_22 hT ha
  obtain ⟨hk9999f, hj9999f⟩ := fkX11_10 hT ha
  obtain ⟨hk9999g, hj9999g⟩ := fkX11_8 hT ha
  obtain ⟨hk9999h, hj9999h⟩ := fkX11_9 hT ha
  obtain ⟨hk9999i, hj9999i⟩ := fkX11_1 hT ha
  obtain ⟨hk9999j, hj9999j⟩ := fkX11_2 hT ha
  have z0 : p1.toInt = 0 ∨ p1.toInt = 1 := xzi b1
  refine lv_aload_n hx hb dX11_later_0 rfl (lv_at hl 0 rfl) ?_
  refine lv_iconst (v := 0) hx hb dX11_later_1 (by decide) ?_
  refine pX11_0 (v := 0) S hK hT hS ha kf_X11_134 dX11_later_2 (fun H locs hT hS => ?_)
  obtain ⟨G2, hG2⟩ : ∃ GG : XG, GG = dput G a 0 0 := ⟨_, rfl⟩
  rw [← hG2] at hT
  refine lv_aload_n hx hb dX11_later_5 rfl (lv_at hl 0 rfl) ?_
  refine x_cv0 (x_runV (b := a) (As := []) (rest := []) S (c_X11_nothing l E K F G2 a ha) mv_X11_nothing km_X11_231 rfl rfl ⟨Nat.le_of_ble_eq_true rfl, Nat.le_of_ble_eq_true rfl⟩ (rc_13 hK hT ha) hK (fun _ => XP.blind) (fun U hU hW => XP.at hK hz hS hT hU hW) rfl hl.1 (Nat.le_of_ble_eq_true rfl) dX11_later_6 ⟨Nat.le_of_ble_eq_true rfl, Nat.le_of_ble_eq_true rfl⟩) hS ?_
  rintro G6 H locs ⟨hF6, t6⟩ hT hS
  have t6 : ((G6.1 a 20).toInt) = -2147483648 ∧ ((G6.1 a 21).toInt) = -2147483648 ∧ ((G6.1 a 23).toInt) = 0 := t6
  refine lv_aload_n hx hb dX11_later_9 rfl (lv_at hl 0 rfl) ?_
  refine lv_iload_n hx hb dX11_later_10 rfl (lv_at hl 1 rfl) ?_
  refine x_clp (x_runV (b := a) (As := [.int p0]) (rest := []) S (c_X11_isRule l E K F G6 H a p0 ha) mv_X11_isRule km_X11_162 rfl rfl ⟨Nat.le_of_ble_eq_true rfl, Nat.le_of_ble_eq_true rfl⟩ (rc_13 hK hT ha) hK (fun _ => XPh.blind) (fun U hU hW => XPh.at hK hz hS hT hU hW) rfl hl.1 (Nat.le_of_ble_eq_true rfl) dX11_later_11 ⟨Nat.le_of_ble_eq_true rfl, Nat.le_of_ble_eq_true rfl⟩) hS ?_
  rintro _ _ locs ⟨x11, rfl, b11, t11⟩ hS
  have t11 : (x11.toInt = 1 ∧ 0 ≤ p0.toInt ∧ p0.toInt ≤ 11 ∧ (aI (G.2.1 (F a 10)) (10 * p0.toInt + 0)) ≠ -1) ∨ (x11.toInt = 0 ∧ (¬ (0 ≤ p0.toInt ∧ p0.toInt ≤ 11) ∨ (aI (G.2.1 (F a 10)) (10 * p0.toInt + 0)) = -1)) := by rw [(show G6.2.1 (F a 10) = G.2.1 (F a 10) from ((hF6.2.1 _ xn0).trans (ld_c hG2)))] at t11; exact t11
  refine xi_zne (tgt := 20) hx hb (rfl : Int32.toInt x11 = x11.toInt) dX11_later_14 (by decide) (fun c14 => ?_) (fun c14 => ?_)
  · refine lv_aload_n hx hb dX11_later_20 rfl (lv_at hl 0 rfl) ?_
    refine lv_iload_n hx hb dX11_later_21 rfl (lv_at hl 1 rfl) ?_
    refine lv_bipush (v := 6) hx hb dX11_later_22 (by decide) ?_
    refine x_clp (x_runV (b := a) (As := [.int p0, .int 6]) (rest := []) S (c_X11_of l E K F G6 H a p0 6 ha (z_X11_later_1 p0.toInt x11.toInt (aI (G.2.1 (F a 10)) (10 * p0.toInt + 0)) t11 c14) (by decide)) mv_X11_of km_X11_165 rfl rfl ⟨Nat.le_of_ble_eq_true rfl, Nat.le_of_ble_eq_true rfl⟩ (rc_13 hK hT ha) hK (fun _ => XPh.blind) (fun U hU hW => XPh.at hK hz hS hT hU hW) rfl hl.1 (Nat.le_of_ble_eq_true rfl) dX11_later_24 ⟨Nat.le_of_ble_eq_true rfl, Nat.le_of_ble_eq_true rfl⟩) hS ?_
    rintro _ _ locs ⟨x24, rfl, t24⟩ hS
    have t24 : x24.toInt = (aI (G.2.1 (F a 10)) (10 * p0.toInt + 6)) := by rw [(show G6.2.1 (F a 10) = G.2.1 (F a 10) from ((hF6.2.1 _ xn0).trans (ld_c hG2)))] at t24; exact t24
    refine lv_iload_n hx hb dX11_later_27 rfl (lv_at hl 2 rfl) ?_
    refine xi_zeq (tgt := 35) hx hb (rfl : Int32.toInt p1 = p1.toInt) dX11_later_28 (by decide) (fun c28 => ?_) (fun c28 => ?_)
    · refine lv_iconst (v := 0) hx hb dX11_later_35 (by decide) ?_
      refine xi_cne (tgt := 42) hx hb (t24 : Int32.toInt x24 = (aI (G.2.1 (F a 10)) (10 * p0.toInt + 6))) ((by decide) : Int32.toInt 0 = (0 : Int)) dX11_later_36 (by decide) (fun c36 => ?_) (fun c36 => ?_)
      · refine lv_iload_n hx hb dX11_later_42 rfl (lv_at hl 2 rfl) ?_
        refine xi_zeq (tgt := 77) hx hb (rfl : Int32.toInt p1 = p1.toInt) dX11_later_43 (by decide) (fun c43 => ?_) (fun c43 => ?_)
        · refine lv_aload_n hx hb dX11_later_77 rfl (lv_at hl 0 rfl) ?_
          refine lv_iload_n hx hb dX11_later_78 rfl (lv_at hl 1 rfl) ?_
          refine x_cl0 (x_runV (b := a) (As := [.int p0]) (rest := []) S (c_X11_inQueue l E K F G6 a p0 ha (v_X11_later_79_1 (F := F) a G G6 hR ((hF6.2.1 _ xn0).trans (ld_c hG2))) (v_X11_later_79_2 (F := F) a G G6 hM hB ((hF6.2.1 _ xn0).trans (ld_c hG2))) (v_X11_later_79_3 (F := F) a G G6 hM hB ((hF6.2.1 _ xn0).trans (ld_c hG2)))) mv_X11_inQueue km_X11_306 rfl rfl ⟨Nat.le_of_ble_eq_true rfl, Nat.le_of_ble_eq_true rfl⟩ (rc_13 hK hT ha) hK (fun _ => XP.blind) (fun U hU hW => XP.at hK hz hS hT hU hW) rfl hl.1 (Nat.le_of_ble_eq_true rfl) dX11_later_79 ⟨Nat.le_of_ble_eq_true rfl, Nat.le_of_ble_eq_true rfl⟩) hS ?_
          rintro _ G79 H locs ⟨x79, rfl, hF79, t79, oq79, oq79a⟩ hT hS
          have t79 : 0 ≤ x79.toInt ∧ x79.toInt ≤ 2388 ∧ 0 ≤ ((G79.1 a 19).toInt) ∧ ((G79.1 a 19).toInt) ≤ 2388 := t79
          have oq79 : pL G79 F a = if ((G.1 a 6).toInt) = 0 then [] else fuO (G.2.1 (F a 10)) (mw (G.2.1 (F a 1)) 0) (mw (G.2.1 (F a 2)) 0) 1 := by simp only [(show G6.1 a 6 = G.1 a 6 from ((hF6.1 _ _ (xnj (by decide) (xnj (by decide) (xnj (by decide) xn0)))).trans (ld_j hG2 (by decide)))), (show G6.2.1 (F a 10) = G.2.1 (F a 10) from ((hF6.2.1 _ xn0).trans (ld_c hG2))), (show G6.2.1 (F a 1) = G.2.1 (F a 1) from ((hF6.2.1 _ xn0).trans (ld_c hG2))), (show G6.2.1 (F a 2) = G.2.1 (F a 2) from ((hF6.2.1 _ xn0).trans (ld_c hG2)))] at oq79; exact oq79
          have hv79 : PV (G.2.1 (F a 10)) (pL G79 F a) := (v_X11_later_82_4 (F := F) a G G79 oq79)
          refine lv_istore_n (lv' := [(3, .int x79), (0, .ref a), (1, .int p0), (2, .int p1)]) hx hb dX11_later_82 rfl hl (by decide) rfl (fun ls hl => ?_)
          refine lv_iconst (v := 0) hx hb dX11_later_83 (by decide) ?_
          refine lv_istore (lv' := [(4, .int 0), (3, .int x79), (0, .ref a), (1, .int p0), (2, .int p1)]) hx hb dX11_later_84 hl (by decide) rfl (fun ls hl => ?_)
          have L86 : ∀ (N86 : Nat) (l4_86 : Int32) (G_86 : XG) (H : Heap) (locs : List Loc) (ls : Array Slot), XFr [] [F a 9] [] G79 G_86 → (∀ j : Int, 0 ≤ j → j < l4_86.toInt → aI (G79.2.1 (F a 17)) j = p0.toInt → fzq (G.2.1 (F a 10)) (mw (G.2.1 (F a 1)) 0) (aI (G79.2.1 (F a 17)) j) (aI (G79.2.1 (F a 18)) j) = 0) → 0 ≤ l4_86.toInt ∧ l4_86.toInt ≤ ((G79.1 a 19).toInt) → (0 : Int) ≤ l4_86.toInt → 2147483648 - l4_86.toInt < ((N86 : Nat) : Int) → TW E K F G_86 H → va_S (xA E) s.heap H locs → lv_has ls 5 [(0, .ref a), (1, .int p0), (3, .int x79), (4, .int l4_86)] → W p l e rm_X11_later s m args below meth c H locs 0 0 Q (F0 m 86 ls []) := by
            intro N86
            induction N86 with
            | zero =>
              intro l4_86 G_86 H locs ls hF_86 pl I86_0 I86_1 hm86
              exact absurd hm86 (z_X11_later_2 l4_86.toInt (xr l4_86))
            | succ N86 ih86 =>
              intro l4_86 G_86 H locs ls hF_86 pl I86_0 I86_1 hm86 hT hS hl
              refine lv_iload hx hb dX11_later_86 (lv_at hl 3 rfl) ?_
              refine lv_aload_n hx hb dX11_later_88 rfl (lv_at hl 0 rfl) ?_
              refine gX11_19 S hK hT ha kf_X11_203 dX11_later_89 (v := (G79.1 a 19)) (hF_86.1 _ _ xn0) (?_)
              refine xi_cge (tgt := 157) hx hb (rfl : Int32.toInt l4_86 = l4_86.toInt) (rfl : Int32.toInt (G79.1 a 19) = ((G79.1 a 19).toInt)) dX11_later_92 (by decide) (fun c92 => ?_) (fun c92 => ?_)
              · refine lv_aload_n hx hb dX11_later_157 rfl (lv_at hl 0 rfl) ?_
                refine gX11_10 S hK hT ha kf_X11_33 dX11_later_158 (fun _ _ => ?_)
                refine lv_bipush (v := 10) hx hb dX11_later_161 (by decide) ?_
                refine lv_iload_n hx hb dX11_later_163 rfl (lv_at hl 1 rfl) ?_
                refine xi_imul hx hb ((by decide) : Int32.toInt 10 = (10 : Int)) (rfl : Int32.toInt p0 = p0.toInt) dX11_later_164 (fun x164 t164 => ?_)
                have e164 : x164.toInt = ((10 : Int) * p0.toInt) := (z_X11_later_3 p0.toInt x11.toInt x164.toInt (aI (G.2.1 (F a 10)) (10 * p0.toInt + 0)) t11 c14 t164)
                refine lv_bipush (v := 6) hx hb dX11_later_165 (by decide) ?_
                refine xi_iadd hx hb (e164 : Int32.toInt x164 = ((10 : Int) * p0.toInt)) ((by decide) : Int32.toInt 6 = (6 : Int)) dX11_later_167 (fun x167 t167 => ?_)
                have e167 : x167.toInt = (((10 : Int) * p0.toInt) + (6 : Int)) := (z_X11_later_4 p0.toInt x11.toInt x167.toInt (aI (G.2.1 (F a 10)) (10 * p0.toInt + 0)) t11 c14 t167)
                refine lv_iconst (v := 0) hx hb dX11_later_168 (by decide) ?_
                refine as_0 (x := 0) S hK hT hS hk9999f ar_37 aw_37 (by decide) (by rw [(e167 : Int32.toInt x167 = (((10 : Int) * p0.toInt) + (6 : Int)))]; exact (z_X11_later_5 p0.toInt x11.toInt (aI (G.2.1 (F a 10)) (10 * p0.toInt + 0)) t11 c14)) dX11_later_169 (fun H locs hT hS => ?_)
                obtain ⟨G169, hG169⟩ : ∃ GG : XG, GG = cput G_86 (F a 10) x167.toNatClampNeg 0 := ⟨_, rfl⟩
                rw [← hG169] at hT
                refine lv_iload_n hx hb dX11_later_170 rfl (lv_at hl 2 rfl) ?_
                exact x_ri hx hb hr hlk hQ (Nat.le_of_ble_eq_true rfl) (Nat.le_of_ble_eq_true rfl) hS dX11_later_171 G169 ⟨_, rfl, (by rw [hG169]; exact XFr.cput (XFr.call (XFr.call (XFr.call (by rw [hG2]; exact XFr.dput XFr.rf (List.mem_of_getElem? (i := 5) rfl)) hF6 (xm1 2 rfl (xm1 3 rfl (xm1 4 rfl xm0))) xm0 xm0) hF79 (xm1 0 rfl (xm1 1 rfl xm0)) (xm1 0 rfl (xm1 1 rfl (xm1 2 rfl (xm1 3 rfl (xm1 4 rfl xm0))))) xm0) hF_86 xm0 (xm1 8 rfl xm0) xm0) (List.mem_of_getElem? (i := 6) rfl)), (by rw [(show (G169.1 a 23).toInt = ((G6.1 a 23).toInt) from (congrArg Int32.toInt ((lc_d hG169).trans ((hF_86.1 _ _ xn0).trans (hF79.1 _ _ (xnj (by decide) (xnj (by decide) xn0)))))).trans (rfl : Int32.toInt (G6.1 a 23) = ((G6.1 a 23).toInt)))] <;> exact (z_X11_later_6 ((G6.1 a 20).toInt) ((G6.1 a 21).toInt) ((G6.1 a 23).toInt) t6)), (v_X11_later_171_5 (K := K) (F := F) a G G6 G79 G_86 G169 x167 p0 x79 l4_86 p1 x11 N86 ha hG169 oq79 oq79a pl e167 z0 t6 t11 c14 c28 c36 t79 I86_0 I86_1 hm86 c92 ((hF_86.2.1 _ (xn1 (xne_k hk9999f hk9999h (by decide)) xn0)).trans ((hF79.2.1 _ (xn1 (xne_k hk9999f hk9999 (by decide)) (xn1 (xne_k hk9999f hk9999a (by decide)) (xn1 (xne_k hk9999f hk9999b (by decide)) (xn1 (xne_k hk9999f hk9999c (by decide)) (xn1 (xne_k hk9999f hk9999d (by decide)) xn0)))))).trans ((hF6.2.1 _ xn0).trans (ld_c hG2))))), (v_X11_later_171_6 (K := K) (F := F) a G G6 G79 G_86 G169 x167 p0 x79 l4_86 p1 x11 N86 ha hG169 hR oq79a e167 z0 t6 t11 c14 c28 c36 t79 I86_0 I86_1 hm86 c92 ((hF_86.2.1 _ (xn1 (xne_k hk9999f hk9999h (by decide)) xn0)).trans ((hF79.2.1 _ (xn1 (xne_k hk9999f hk9999 (by decide)) (xn1 (xne_k hk9999f hk9999a (by decide)) (xn1 (xne_k hk9999f hk9999b (by decide)) (xn1 (xne_k hk9999f hk9999c (by decide)) (xn1 (xne_k hk9999f hk9999d (by decide)) xn0)))))).trans ((hF6.2.1 _ xn0).trans (ld_c hG2)))))⟩ hT
              · refine lv_aload_n hx hb dX11_later_95 rfl (lv_at hl 0 rfl) ?_
                refine gX11_17 S hK hT ha kf_X11_51 dX11_later_96 (fun _ _ => ?_)
                refine lv_iload hx hb dX11_later_99 (lv_at hl 3 rfl) ?_
                refine al_0 S hK hT hk9999a ar_43 (by decide) (z_X11_later_7 l4_86.toInt x79.toInt ((G79.1 a 19).toInt) t79 I86_0) dX11_later_101 (fun x101 hv101 o101 => ?_)
                have hv101 : x101.toInt = (aI (G79.2.1 (F a 17)) (l4_86.toInt)) := hv101.trans (by rw [(rfl : Int32.toInt l4_86 = l4_86.toInt), ((hF_86.2.1 _ (xn1 (xne_k hk9999a hk9999h (by decide)) xn0)) : G_86.2.1 (F a 17) = G79.2.1 (F a 17))])
                refine lv_iload_n hx hb dX11_later_102 rfl (lv_at hl 1 rfl) ?_
                refine xi_cne (tgt := 151) hx hb (hv101 : Int32.toInt x101 = (aI (G79.2.1 (F a 17)) (l4_86.toInt))) (rfl : Int32.toInt p0 = p0.toInt) dX11_later_103 (by decide) (fun c103 => ?_) (fun c103 => ?_)
                · refine xi_iinc (n := 1) (lv' := fun z9 => [(4, .int z9), (0, .ref a), (1, .int p0), (3, .int x79)]) (k := 3) hx hb (rfl : Int32.toInt l4_86 = l4_86.toInt) (by decide) dX11_later_151 hl rfl (by decide) (fun _ => rfl) (fun x151 ls t151 hl => ?_)
                  have e151 : x151.toInt = (l4_86.toInt + 1) := (z_X11_later_8 l4_86.toInt x151.toInt x79.toInt ((G79.1 a 19).toInt) t79 I86_0 t151)
                  have hl : lv_has ls 5 [(4, .int x151), (0, .ref a), (1, .int p0), (3, .int x79)] := hl
                  refine lv_goto (tgt := 86) hx hb dX11_later_154 (by decide) ?_
                  exact ih86 x151 G_86 _ _ _ (XFr.call XFr.rf hF_86 xm0 (xm1 0 rfl xm0) xm0) (by rw [(e151 : Int32.toInt x151 = (l4_86.toInt + 1))] <;> exact (v_X11_later_154_7 (K := K) (F := F) a G G6 G79 p0 x79 l4_86 p1 x11 N86 ha oq79a pl z0 t6 t11 c14 c28 c36 t79 I86_0 I86_1 hm86 c92 c103)) (by rw [(e151 : Int32.toInt x151 = (l4_86.toInt + 1))] <;> exact (z_X11_later_9 l4_86.toInt ((G79.1 a 19).toInt) I86_0 c92)) (by rw [(e151 : Int32.toInt x151 = (l4_86.toInt + 1))] <;> exact (z_X11_later_10 l4_86.toInt ((G79.1 a 19).toInt) I86_0)) (by rw [(e151 : Int32.toInt x151 = (l4_86.toInt + 1))] <;> exact (z_X11_later_11 l4_86.toInt N86 hm86)) hT hS (lv_sub hl [1, 2, 3, 0] rfl)
                · refine lv_aload_n hx hb dX11_later_106 rfl (lv_at hl 0 rfl) ?_
                  refine gX11_9 S hK hT ha kf_X11_30 dX11_later_107 (fun _ _ => ?_)
                  refine lv_iconst (v := 0) hx hb dX11_later_110 (by decide) ?_
                  refine lv_dup2_11 hx hb dX11_later_111 rfl rfl ?_
                  refine al_0 S hK hT hk9999h ar_36 (by decide) (by decide) dX11_later_112 (fun x112 hv112 o112 => ?_)
                  have hv112 : x112.toInt = (aI (G_86.2.1 (F a 9)) 0) := hv112.trans (by rw [((by decide) : Int32.toInt 0 = (0 : Int))])
                  refine lv_iconst (v := 1) hx hb dX11_later_113 (by decide) ?_
                  refine xi_iadd hx hb (hv112 : Int32.toInt x112 = (aI (G_86.2.1 (F a 9)) 0)) ((by decide) : Int32.toInt 1 = (1 : Int)) dX11_later_114 (fun x114 t114 => ?_)
                  refine as_0 (x := x114) S hK hT hS hk9999h ar_36 aw_36 (by decide) (by decide) dX11_later_115 (fun H locs hT hS => ?_)
                  obtain ⟨G115, hG115⟩ : ∃ GG : XG, GG = cput G_86 (F a 9) (0 : Int32).toNatClampNeg x114 := ⟨_, rfl⟩
                  rw [← hG115] at hT
                  have z116 : (0 ≤ (aI (G79.2.1 (F a 17)) (l4_86.toInt)) ∧ (aI (G79.2.1 (F a 17)) (l4_86.toInt)) ≤ 11) ∧ (aI (G.2.1 (F a 10)) (10 * aI (G79.2.1 (F a 17)) (l4_86.toInt) + 0)) ≠ -1 ∧ ((sF (aI (G.2.1 (F a 10)) (10 * aI (G79.2.1 (F a 17)) (l4_86.toInt) + 0))) ≤ (aI (G79.2.1 (F a 18)) (l4_86.toInt)) ∧ (aI (G79.2.1 (F a 18)) (l4_86.toInt)) ≤ (sL (aI (G.2.1 (F a 10)) (10 * aI (G79.2.1 (F a 17)) (l4_86.toInt) + 0)))) := pv_at hv79 (z_X11_later_12 l4_86.toInt ((G79.1 a 19).toInt) I86_0 c92)
                  have z116a : ((sF (aI (G.2.1 (F a 10)) (10 * aI (G79.2.1 (F a 17)) (l4_86.toInt) + 0))) = 0 ∨ (sF (aI (G.2.1 (F a 10)) (10 * aI (G79.2.1 (F a 17)) (l4_86.toInt) + 0))) = -99) ∧ ((sL (aI (G.2.1 (F a 10)) (10 * aI (G79.2.1 (F a 17)) (l4_86.toInt) + 0))) = 29 ∨ (sL (aI (G.2.1 (F a 10)) (10 * aI (G79.2.1 (F a 17)) (l4_86.toInt) + 0))) = 99) := sFLb _
                  have z116b : (aI (G79.2.1 (F a 17)) (l4_86.toInt)) = p0.toInt → (sF (aI (G.2.1 (F a 10)) (10 * aI (G79.2.1 (F a 17)) (l4_86.toInt) + 0))) = (sF (aI (G.2.1 (F a 10)) (10 * p0.toInt + 0))) ∧ (sL (aI (G.2.1 (F a 10)) (10 * aI (G79.2.1 (F a 17)) (l4_86.toInt) + 0))) = (sL (aI (G.2.1 (F a 10)) (10 * p0.toInt + 0))) := fun h9 => by rw [h9]; exact ⟨rfl, rfl⟩
                  refine lv_aload_n hx hb dX11_later_116 rfl (lv_at hl 0 rfl) ?_
                  refine lv_iload_n hx hb dX11_later_117 rfl (lv_at hl 1 rfl) ?_
                  refine lv_aload_n hx hb dX11_later_118 rfl (lv_at hl 0 rfl) ?_
                  refine gX11_18 S hK hT ha kf_X11_54 dX11_later_119 (fun _ _ => ?_)
                  refine lv_iload hx hb dX11_later_122 (lv_at hl 3 rfl) ?_
                  refine al_0 S hK hT hk9999b ar_44 (by decide) (z_X11_later_7 l4_86.toInt x79.toInt ((G79.1 a 19).toInt) t79 I86_0) dX11_later_124 (fun x124 hv124 o124 => ?_)
                  have hv124 : x124.toInt = (aI (G79.2.1 (F a 18)) (l4_86.toInt)) := hv124.trans (by rw [(rfl : Int32.toInt l4_86 = l4_86.toInt), (((lc_c hG115 (xne_k hk9999b hk9999h (by decide))).trans (hF_86.2.1 _ (xn1 (xne_k hk9999b hk9999h (by decide)) xn0))) : G115.2.1 (F a 18) = G79.2.1 (F a 18))])
                  refine lv_aload_n hx hb dX11_later_125 rfl (lv_at hl 0 rfl) ?_
                  refine gX11_1 S hK hT ha kf_X11_9 dX11_later_126 (fun _ _ => ?_)
                  refine lv_iconst (v := 0) hx hb dX11_later_129 (by decide) ?_
                  refine x_clp (x_runV (b := a) (As := [.int p0, .int x124, .ref (F a 1), .int 0]) (rest := []) S (c_X11_fails l E K F G115 H a p0 x124 (F a 1) 0 ha (XO.a hk9999i (by decide)) (z_X11_later_14 p0.toInt (aI (G79.2.1 (F a 17)) (l4_86.toInt)) c103 (z116).1) (by rw [(show G115.2.1 (F a 10) = G.2.1 (F a 10) from ((lc_c hG115 (xne_k hk9999f hk9999h (by decide))).trans ((hF_86.2.1 _ (xn1 (xne_k hk9999f hk9999h (by decide)) xn0)).trans ((hF79.2.1 _ (xn1 (xne_k hk9999f hk9999 (by decide)) (xn1 (xne_k hk9999f hk9999a (by decide)) (xn1 (xne_k hk9999f hk9999b (by decide)) (xn1 (xne_k hk9999f hk9999c (by decide)) (xn1 (xne_k hk9999f hk9999d (by decide)) xn0)))))).trans ((hF6.2.1 _ xn0).trans (ld_c hG2))))))] <;> exact (z_X11_later_15 p0.toInt x11.toInt (aI (G.2.1 (F a 10)) (10 * p0.toInt + 0)) t11 c14)) (by rw [(hv124 : Int32.toInt x124 = (aI (G79.2.1 (F a 18)) (l4_86.toInt))), (show G115.2.1 (F a 10) = G.2.1 (F a 10) from ((lc_c hG115 (xne_k hk9999f hk9999h (by decide))).trans ((hF_86.2.1 _ (xn1 (xne_k hk9999f hk9999h (by decide)) xn0)).trans ((hF79.2.1 _ (xn1 (xne_k hk9999f hk9999 (by decide)) (xn1 (xne_k hk9999f hk9999a (by decide)) (xn1 (xne_k hk9999f hk9999b (by decide)) (xn1 (xne_k hk9999f hk9999c (by decide)) (xn1 (xne_k hk9999f hk9999d (by decide)) xn0)))))).trans ((hF6.2.1 _ xn0).trans (ld_c hG2))))))] <;> exact (z_X11_later_16 p0.toInt (aI (G79.2.1 (F a 17)) (l4_86.toInt)) (aI (G79.2.1 (F a 18)) (l4_86.toInt)) (sF (aI (G.2.1 (F a 10)) (10 * aI (G79.2.1 (F a 17)) (l4_86.toInt) + 0))) (sF (aI (G.2.1 (F a 10)) (10 * p0.toInt + 0))) (sL (aI (G.2.1 (F a 10)) (10 * aI (G79.2.1 (F a 17)) (l4_86.toInt) + 0))) (sL (aI (G.2.1 (F a 10)) (10 * p0.toInt + 0))) c103 (z116).2.2 z116b)) (v_X11_later_130_8 (F := F) a G G115 hR ((lc_c hG115 (xne_k hk9999f hk9999h (by decide))).trans ((hF_86.2.1 _ (xn1 (xne_k hk9999f hk9999h (by decide)) xn0)).trans ((hF79.2.1 _ (xn1 (xne_k hk9999f hk9999 (by decide)) (xn1 (xne_k hk9999f hk9999a (by decide)) (xn1 (xne_k hk9999f hk9999b (by decide)) (xn1 (xne_k hk9999f hk9999c (by decide)) (xn1 (xne_k hk9999f hk9999d (by decide)) xn0)))))).trans ((hF6.2.1 _ xn0).trans (ld_c hG2)))))) (v_X11_later_130_9 (F := F) a G G115 hM hB ((lc_c hG115 (xne_k hk9999i hk9999h (by decide))).trans ((hF_86.2.1 _ (xn1 (xne_k hk9999i hk9999h (by decide)) xn0)).trans ((hF79.2.1 _ (xn1 (xne_k hk9999i hk9999 (by decide)) (xn1 (xne_k hk9999i hk9999a (by decide)) (xn1 (xne_k hk9999i hk9999b (by decide)) (xn1 (xne_k hk9999i hk9999c (by decide)) (xn1 (xne_k hk9999i hk9999d (by decide)) xn0)))))).trans ((hF6.2.1 _ xn0).trans (ld_c hG2))))))) mv_X11_fails km_X11_221 rfl rfl ⟨Nat.le_of_ble_eq_true rfl, Nat.le_of_ble_eq_true rfl⟩ (rc_13 hK hT ha) hK (fun _ => XPh.blind) (fun U hU hW => XPh.at hK hz hS hT hU hW) rfl hl.1 (Nat.le_of_ble_eq_true rfl) dX11_later_130 ⟨Nat.le_of_ble_eq_true rfl, Nat.le_of_ble_eq_true rfl⟩) hS ?_
                  rintro _ _ locs ⟨x130, rfl, b130, t130⟩ hS
                  have t130 : x130.toInt = (flq (mw (G.2.1 (F a 1)) 0) (aI (G.2.1 (F a 10)) (10 * p0.toInt + 0)) (aI (G.2.1 (F a 10)) (10 * p0.toInt + 1)) (aI (G.2.1 (F a 10)) (10 * p0.toInt + 2)) (aI (G.2.1 (F a 10)) (10 * p0.toInt + 4)) (aI (G.2.1 (F a 10)) (10 * p0.toInt + 5)) (aI (G79.2.1 (F a 18)) (l4_86.toInt)) (stt (mw (G.2.1 (F a 1)) 0) (aI (G.2.1 (F a 10)) (10 * p0.toInt + 0)) (aI (G.2.1 (F a 10)) (10 * p0.toInt + 1)) (aI (G.2.1 (F a 10)) (10 * p0.toInt + 2)) (aI (G.2.1 (F a 10)) (10 * p0.toInt + 3)) (aI (G79.2.1 (F a 18)) (l4_86.toInt)))) := by rw [(hv124 : Int32.toInt x124 = (aI (G79.2.1 (F a 18)) (l4_86.toInt)))] at t130; rw [(show G115.2.1 (F a 1) = G.2.1 (F a 1) from ((lc_c hG115 (xne_k hk9999i hk9999h (by decide))).trans ((hF_86.2.1 _ (xn1 (xne_k hk9999i hk9999h (by decide)) xn0)).trans ((hF79.2.1 _ (xn1 (xne_k hk9999i hk9999 (by decide)) (xn1 (xne_k hk9999i hk9999a (by decide)) (xn1 (xne_k hk9999i hk9999b (by decide)) (xn1 (xne_k hk9999i hk9999c (by decide)) (xn1 (xne_k hk9999i hk9999d (by decide)) xn0)))))).trans ((hF6.2.1 _ xn0).trans (ld_c hG2))))))] at t130; rw [(show G115.2.1 (F a 10) = G.2.1 (F a 10) from ((lc_c hG115 (xne_k hk9999f hk9999h (by decide))).trans ((hF_86.2.1 _ (xn1 (xne_k hk9999f hk9999h (by decide)) xn0)).trans ((hF79.2.1 _ (xn1 (xne_k hk9999f hk9999 (by decide)) (xn1 (xne_k hk9999f hk9999a (by decide)) (xn1 (xne_k hk9999f hk9999b (by decide)) (xn1 (xne_k hk9999f hk9999c (by decide)) (xn1 (xne_k hk9999f hk9999d (by decide)) xn0)))))).trans ((hF6.2.1 _ xn0).trans (ld_c hG2))))))] at t130; exact t130
                  refine xi_zeq (tgt := 151) hx hb (rfl : Int32.toInt x130 = x130.toInt) dX11_later_133 (by decide) (fun c133 => ?_) (fun c133 => ?_)
                  · refine xi_iinc (n := 1) (lv' := fun z9 => [(4, .int z9), (0, .ref a), (1, .int p0), (3, .int x79)]) (k := 3) hx hb (rfl : Int32.toInt l4_86 = l4_86.toInt) (by decide) dX11_later_151 hl rfl (by decide) (fun _ => rfl) (fun x151 ls t151 hl => ?_)
                    have e151 : x151.toInt = (l4_86.toInt + 1) := (z_X11_later_8 l4_86.toInt x151.toInt x79.toInt ((G79.1 a 19).toInt) t79 I86_0 t151)
                    have hl : lv_has ls 5 [(4, .int x151), (0, .ref a), (1, .int p0), (3, .int x79)] := hl
                    refine lv_goto (tgt := 86) hx hb dX11_later_154 (by decide) ?_
                    exact ih86 x151 G115 _ _ _ (by rw [hG115]; exact XFr.cput (XFr.call XFr.rf hF_86 xm0 (xm1 0 rfl xm0) xm0) (List.mem_of_getElem? (i := 0) rfl)) (by rw [(e151 : Int32.toInt x151 = (l4_86.toInt + 1))] <;> exact (v_X11_later_154_10 (K := K) (F := F) a G G6 G79 p0 x79 l4_86 p1 x11 N86 x130 ha oq79a pl z0 t6 t11 c14 c28 c36 t79 I86_0 I86_1 hm86 c92 c103 z116 z116a z116b t130 (xzi b130) c133)) (by rw [(e151 : Int32.toInt x151 = (l4_86.toInt + 1))] <;> exact (z_X11_later_9 l4_86.toInt ((G79.1 a 19).toInt) I86_0 c92)) (by rw [(e151 : Int32.toInt x151 = (l4_86.toInt + 1))] <;> exact (z_X11_later_10 l4_86.toInt ((G79.1 a 19).toInt) I86_0)) (by rw [(e151 : Int32.toInt x151 = (l4_86.toInt + 1))] <;> exact (z_X11_later_11 l4_86.toInt N86 hm86)) hT hS (lv_sub hl [1, 2, 3, 0] rfl)
                  · refine lv_aload_n hx hb dX11_later_136 rfl (lv_at hl 0 rfl) ?_
                    refine lv_iload_n hx hb dX11_later_137 rfl (lv_at hl 1 rfl) ?_
                    refine lv_aload_n hx hb dX11_later_138 rfl (lv_at hl 0 rfl) ?_
                    refine gX11_18 S hK hT ha kf_X11_54 dX11_later_139 (fun _ _ => ?_)
                    refine lv_iload hx hb dX11_later_142 (lv_at hl 3 rfl) ?_
                    refine al_0 S hK hT hk9999b ar_44 (by decide) (z_X11_later_7 l4_86.toInt x79.toInt ((G79.1 a 19).toInt) t79 I86_0) dX11_later_144 (fun x144 hv144 o144 => ?_)
                    have hv144 : x144.toInt = (aI (G79.2.1 (F a 18)) (l4_86.toInt)) := hv144.trans (by rw [(rfl : Int32.toInt l4_86 = l4_86.toInt), (((lc_c hG115 (xne_k hk9999b hk9999h (by decide))).trans (hF_86.2.1 _ (xn1 (xne_k hk9999b hk9999h (by decide)) xn0))) : G115.2.1 (F a 18) = G79.2.1 (F a 18))])
                    refine x_cv0 (x_runV (b := a) (As := [.int p0, .int x144]) (rest := []) S (c_X11_failed l E K F G115 a p0 x144 ha (z_X11_later_14 p0.toInt (aI (G79.2.1 (F a 17)) (l4_86.toInt)) c103 (z116).1) (by rw [(hv144 : Int32.toInt x144 = (aI (G79.2.1 (F a 18)) (l4_86.toInt)))] <;> exact (z_X11_later_23 (aI (G79.2.1 (F a 18)) (l4_86.toInt)) (sF (aI (G.2.1 (F a 10)) (10 * aI (G79.2.1 (F a 17)) (l4_86.toInt) + 0))) (sL (aI (G.2.1 (F a 10)) (10 * aI (G79.2.1 (F a 17)) (l4_86.toInt) + 0))) (z116).2.2 (z116a).1 (z116a).2))) mv_X11_failed km_X11_299 rfl rfl ⟨Nat.le_of_ble_eq_true rfl, Nat.le_of_ble_eq_true rfl⟩ (rc_13 hK hT ha) hK (fun _ => XP.blind) (fun U hU hW => XP.at hK hz hS hT hU hW) rfl hl.1 (Nat.le_of_ble_eq_true rfl) dX11_later_145 ⟨Nat.le_of_ble_eq_true rfl, Nat.le_of_ble_eq_true rfl⟩) hS ?_
                    rintro G145 H locs ⟨hF145, t145⟩ hT hS
                    have t145 : ((G145.1 a 20).toInt) = p0.toInt ∧ ((G145.1 a 21).toInt) = (aI (G79.2.1 (F a 18)) (l4_86.toInt)) ∧ 0 ≤ ((G145.1 a 23).toInt) ∧ ((G145.1 a 23).toInt) ≤ 24 := by rw [(hv144 : Int32.toInt x144 = (aI (G79.2.1 (F a 18)) (l4_86.toInt)))] at t145; exact t145
                    refine lv_bipush (v := (-5)) hx hb dX11_later_148 (by decide) ?_
                    exact x_ri hx hb hr hlk hQ (Nat.le_of_ble_eq_true rfl) (Nat.le_of_ble_eq_true rfl) hS dX11_later_150 G145 ⟨_, rfl, (XFr.call (by rw [hG115]; exact XFr.cput (XFr.call (XFr.call (XFr.call (by rw [hG2]; exact XFr.dput XFr.rf (List.mem_of_getElem? (i := 5) rfl)) hF6 (xm1 2 rfl (xm1 3 rfl (xm1 4 rfl xm0))) xm0 xm0) hF79 (xm1 0 rfl (xm1 1 rfl xm0)) (xm1 0 rfl (xm1 1 rfl (xm1 2 rfl (xm1 3 rfl (xm1 4 rfl xm0))))) xm0) hF_86 xm0 (xm1 8 rfl xm0) xm0) (List.mem_of_getElem? (i := 8) rfl)) hF145 (xm1 2 rfl (xm1 3 rfl (xm1 4 rfl xm0))) (xm1 5 rfl xm0) xm0), (z_X11_later_24 p0.toInt ((G145.1 a 20).toInt) ((G145.1 a 21).toInt) ((G145.1 a 23).toInt) (aI (G79.2.1 (F a 18)) (l4_86.toInt)) t145), (by rw [((by decide) : Int32.toInt (-5) = (-5 : Int))] <;> exact (v_X11_later_150_11 (K := K) (F := F) a G G6 G79 G145 p0 x79 l4_86 p1 x11 N86 x130 ha oq79 oq79a z0 t6 t11 c14 c28 c36 t79 I86_0 I86_1 hm86 c92 c103 z116 z116a z116b t130 (xzi b130) c133 t145 ((hF145.2.1 _ (xn1 (xne_k hk9999f hk9999e (by decide)) xn0)).trans ((lc_c hG115 (xne_k hk9999f hk9999h (by decide))).trans ((hF_86.2.1 _ (xn1 (xne_k hk9999f hk9999h (by decide)) xn0)).trans ((hF79.2.1 _ (xn1 (xne_k hk9999f hk9999 (by decide)) (xn1 (xne_k hk9999f hk9999a (by decide)) (xn1 (xne_k hk9999f hk9999b (by decide)) (xn1 (xne_k hk9999f hk9999c (by decide)) (xn1 (xne_k hk9999f hk9999d (by decide)) xn0)))))).trans ((hF6.2.1 _ xn0).trans (ld_c hG2)))))))), (v_X11_later_150_12 (F := F) a G G145 hR ((hF145.2.1 _ (xn1 (xne_k hk9999f hk9999e (by decide)) xn0)).trans ((lc_c hG115 (xne_k hk9999f hk9999h (by decide))).trans ((hF_86.2.1 _ (xn1 (xne_k hk9999f hk9999h (by decide)) xn0)).trans ((hF79.2.1 _ (xn1 (xne_k hk9999f hk9999 (by decide)) (xn1 (xne_k hk9999f hk9999a (by decide)) (xn1 (xne_k hk9999f hk9999b (by decide)) (xn1 (xne_k hk9999f hk9999c (by decide)) (xn1 (xne_k hk9999f hk9999d (by decide)) xn0)))))).trans ((hF6.2.1 _ xn0).trans (ld_c hG2)))))))⟩ hT
          exact L86 4294967297 0 G79 _ _ _ XFr.rf (v_X11_later_84_13 (K := K) (F := F) a G G6 G79 p0 x79 p1 x11 ha oq79a z0 t6 t11 c14 c28 c36 t79) (z_X11_later_25 x79.toInt ((G79.1 a 19).toInt) t79) (by decide) (by decide) hT hS (lv_sub hl [2, 3, 1, 0] rfl)
        · refine lv_aload_n hx hb dX11_later_46 rfl (lv_at hl 0 rfl) ?_
          refine gX11_10 S hK hT ha kf_X11_33 dX11_later_47 (fun _ _ => ?_)
          refine lv_bipush (v := 10) hx hb dX11_later_50 (by decide) ?_
          refine lv_iload_n hx hb dX11_later_52 rfl (lv_at hl 1 rfl) ?_
          refine xi_imul hx hb ((by decide) : Int32.toInt 10 = (10 : Int)) (rfl : Int32.toInt p0 = p0.toInt) dX11_later_53 (fun x53 t53 => ?_)
          have e53 : x53.toInt = ((10 : Int) * p0.toInt) := (z_X11_later_3 p0.toInt x11.toInt x53.toInt (aI (G.2.1 (F a 10)) (10 * p0.toInt + 0)) t11 c14 t53)
          refine lv_bipush (v := 6) hx hb dX11_later_54 (by decide) ?_
          refine xi_iadd hx hb (e53 : Int32.toInt x53 = ((10 : Int) * p0.toInt)) ((by decide) : Int32.toInt 6 = (6 : Int)) dX11_later_56 (fun x56 t56 => ?_)
          have e56 : x56.toInt = (((10 : Int) * p0.toInt) + (6 : Int)) := (z_X11_later_4 p0.toInt x11.toInt x56.toInt (aI (G.2.1 (F a 10)) (10 * p0.toInt + 0)) t11 c14 t56)
          refine lv_iconst (v := 1) hx hb dX11_later_57 (by decide) ?_
          refine as_0 (x := 1) S hK hT hS hk9999f ar_37 aw_37 (by decide) (by rw [(e56 : Int32.toInt x56 = (((10 : Int) * p0.toInt) + (6 : Int)))]; exact (z_X11_later_5 p0.toInt x11.toInt (aI (G.2.1 (F a 10)) (10 * p0.toInt + 0)) t11 c14)) dX11_later_58 (fun H locs hT hS => ?_)
          obtain ⟨G58, hG58⟩ : ∃ GG : XG, GG = cput G6 (F a 10) x56.toNatClampNeg 1 := ⟨_, rfl⟩
          rw [← hG58] at hT
          refine lv_aload_n hx hb dX11_later_59 rfl (lv_at hl 0 rfl) ?_
          refine lv_iload_n hx hb dX11_later_60 rfl (lv_at hl 1 rfl) ?_
          refine x_cl0 (x_runV (b := a) (As := [.int p0]) (rest := []) S (c_X11_inQueue l E K F G58 a p0 ha (v_X11_later_61_14 (K := K) (F := F) a G G6 G58 x56 p0 p1 x11 ha hG58 hR e56 z0 t6 t11 c14 c28 c36 c43 ((hF6.2.1 _ xn0).trans (ld_c hG2))) (v_X11_later_61_15 (F := F) a G G58 hM hB ((lc_c hG58 (xne_k hk9999i hk9999f (by decide))).trans ((hF6.2.1 _ xn0).trans (ld_c hG2)))) (v_X11_later_61_16 (F := F) a G G58 hM hB ((lc_c hG58 (xne_k hk9999j hk9999f (by decide))).trans ((hF6.2.1 _ xn0).trans (ld_c hG2))))) mv_X11_inQueue km_X11_306 rfl rfl ⟨Nat.le_of_ble_eq_true rfl, Nat.le_of_ble_eq_true rfl⟩ (rc_13 hK hT ha) hK (fun _ => XP.blind) (fun U hU hW => XP.at hK hz hS hT hU hW) rfl hl.1 (Nat.le_of_ble_eq_true rfl) dX11_later_61 ⟨Nat.le_of_ble_eq_true rfl, Nat.le_of_ble_eq_true rfl⟩) hS ?_
          rintro _ G61 H locs ⟨x61, rfl, hF61, t61, oq61, oq61a⟩ hT hS
          have t61 : 0 ≤ x61.toInt ∧ x61.toInt ≤ 2388 ∧ 0 ≤ ((G61.1 a 19).toInt) ∧ ((G61.1 a 19).toInt) ≤ 2388 := t61
          have oq61 : pL G61 F a = if ((G.1 a 6).toInt) = 0 then [] else fuO (G58.2.1 (F a 10)) (mw (G.2.1 (F a 1)) 0) (mw (G.2.1 (F a 2)) 0) 1 := by simp only [(show G58.1 a 6 = G.1 a 6 from ((lc_d hG58).trans ((hF6.1 _ _ (xnj (by decide) (xnj (by decide) (xnj (by decide) xn0)))).trans (ld_j hG2 (by decide))))), (show G58.2.1 (F a 1) = G.2.1 (F a 1) from ((lc_c hG58 (xne_k hk9999i hk9999f (by decide))).trans ((hF6.2.1 _ xn0).trans (ld_c hG2)))), (show G58.2.1 (F a 2) = G.2.1 (F a 2) from ((lc_c hG58 (xne_k hk9999j hk9999f (by decide))).trans ((hF6.2.1 _ xn0).trans (ld_c hG2))))] at oq61; exact oq61
          refine lv_istore_n (lv' := [(3, .int x61), (0, .ref a), (1, .int p0), (2, .int p1)]) hx hb dX11_later_64 rfl hl (by decide) rfl (fun ls hl => ?_)
          refine lv_aload_n hx hb dX11_later_65 rfl (lv_at hl 1 rfl) ?_
          refine gX11_8 S hK hT ha kf_X11_27 dX11_later_66 (fun _ _ => ?_)
          refine lv_iconst (v := 0) hx hb dX11_later_69 (by decide) ?_
          refine lv_dup2_11 hx hb dX11_later_70 rfl rfl ?_
          refine al_0 S hK hT hk9999g ar_35 (by decide) (by decide) dX11_later_71 (fun x71 hv71 o71 => ?_)
          have hv71 : x71.toInt = (aI (G.2.1 (F a 8)) 0) := hv71.trans (by rw [((by decide) : Int32.toInt 0 = (0 : Int)), (((hF61.2.1 _ (xn1 (xne_k hk9999g hk9999 (by decide)) (xn1 (xne_k hk9999g hk9999a (by decide)) (xn1 (xne_k hk9999g hk9999b (by decide)) (xn1 (xne_k hk9999g hk9999c (by decide)) (xn1 (xne_k hk9999g hk9999d (by decide)) xn0)))))).trans ((lc_c hG58 (xne_k hk9999g hk9999f (by decide))).trans ((hF6.2.1 _ xn0).trans (ld_c hG2)))) : G61.2.1 (F a 8) = G.2.1 (F a 8))])
          refine lv_iload_n hx hb dX11_later_72 rfl (lv_at hl 0 rfl) ?_
          refine xi_iadd hx hb (hv71 : Int32.toInt x71 = (aI (G.2.1 (F a 8)) 0)) (rfl : Int32.toInt x61 = x61.toInt) dX11_later_73 (fun x73 t73 => ?_)
          refine as_0 (x := x73) S hK hT hS hk9999g ar_35 aw_35 (by decide) (by decide) dX11_later_74 (fun H locs hT hS => ?_)
          obtain ⟨G74, hG74⟩ : ∃ GG : XG, GG = cput G61 (F a 8) (0 : Int32).toNatClampNeg x73 := ⟨_, rfl⟩
          rw [← hG74] at hT
          refine lv_iload_n hx hb dX11_later_75 rfl (lv_at hl 0 rfl) ?_
          exact x_ri hx hb hr hlk hQ (Nat.le_of_ble_eq_true rfl) (Nat.le_of_ble_eq_true rfl) hS dX11_later_76 G74 ⟨_, rfl, (by rw [hG74]; exact XFr.cput (XFr.call (by rw [hG58]; exact XFr.cput (XFr.call (by rw [hG2]; exact XFr.dput XFr.rf (List.mem_of_getElem? (i := 5) rfl)) hF6 (xm1 2 rfl (xm1 3 rfl (xm1 4 rfl xm0))) xm0 xm0) (List.mem_of_getElem? (i := 6) rfl)) hF61 (xm1 0 rfl (xm1 1 rfl xm0)) (xm1 0 rfl (xm1 1 rfl (xm1 2 rfl (xm1 3 rfl (xm1 4 rfl xm0))))) xm0) (List.mem_of_getElem? (i := 7) rfl)), (by rw [(show (G74.1 a 23).toInt = ((G6.1 a 23).toInt) from (congrArg Int32.toInt ((lc_d hG74).trans ((hF61.1 _ _ (xnj (by decide) (xnj (by decide) xn0))).trans (lc_d hG58)))).trans (rfl : Int32.toInt (G6.1 a 23) = ((G6.1 a 23).toInt)))] <;> exact (z_X11_later_6 ((G6.1 a 20).toInt) ((G6.1 a 21).toInt) ((G6.1 a 23).toInt) t6)), (v_X11_later_76_17 (K := K) (F := F) a G G6 G58 x56 G61 G74 p0 x61 p1 x11 ha hG58 e56 oq61 oq61a z0 t6 t11 c14 c28 c36 c43 t61 ((hF6.2.1 _ xn0).trans (ld_c hG2)) ((lc_c hG74 (xne_k hk9999f hk9999g (by decide))).trans (hF61.2.1 _ (xn1 (xne_k hk9999f hk9999 (by decide)) (xn1 (xne_k hk9999f hk9999a (by decide)) (xn1 (xne_k hk9999f hk9999b (by decide)) (xn1 (xne_k hk9999f hk9999c (by decide)) (xn1 (xne_k hk9999f hk9999d (by decide)) xn0)))))))), (v_X11_later_76_18 (K := K) (F := F) a G G6 G58 x56 G61 G74 p0 x61 p1 x11 ha hG58 hR e56 oq61a z0 t6 t11 c14 c28 c36 c43 t61 ((hF6.2.1 _ xn0).trans (ld_c hG2)) ((lc_c hG74 (xne_k hk9999f hk9999g (by decide))).trans (hF61.2.1 _ (xn1 (xne_k hk9999f hk9999 (by decide)) (xn1 (xne_k hk9999f hk9999a (by decide)) (xn1 (xne_k hk9999f hk9999b (by decide)) (xn1 (xne_k hk9999f hk9999c (by decide)) (xn1 (xne_k hk9999f hk9999d (by decide)) xn0))))))))⟩ hT
      · refine lv_bipush (v := (-4)) hx hb dX11_later_39 (by decide) ?_
        exact x_ri hx hb hr hlk hQ (Nat.le_of_ble_eq_true rfl) (Nat.le_of_ble_eq_true rfl) hS dX11_later_41 G6 ⟨_, rfl, (XFr.call (by rw [hG2]; exact XFr.dput XFr.rf (List.mem_of_getElem? (i := 5) rfl)) hF6 (xm1 2 rfl (xm1 3 rfl (xm1 4 rfl xm0))) xm0 xm0), (z_X11_later_6 ((G6.1 a 20).toInt) ((G6.1 a 21).toInt) ((G6.1 a 23).toInt) t6), (by rw [((by decide) : Int32.toInt (-4) = (-4 : Int))] <;> exact (v_X11_later_41_19 (K := K) (F := F) a G G6 p0 p1 x11 ha z0 t6 t11 c14 c28 c36 ((hF6.2.1 _ xn0).trans (ld_c hG2)))), (v_X11_later_41_20 (F := F) a G G6 hR ((hF6.2.1 _ xn0).trans (ld_c hG2)))⟩ hT
    · refine lv_iconst (v := 1) hx hb dX11_later_31 (by decide) ?_
      refine lv_goto (tgt := 36) hx hb dX11_later_32 (by decide) ?_
      refine xi_cne (tgt := 42) hx hb (t24 : Int32.toInt x24 = (aI (G.2.1 (F a 10)) (10 * p0.toInt + 6))) ((by decide) : Int32.toInt 1 = (1 : Int)) dX11_later_36 (by decide) (fun c36 => ?_) (fun c36 => ?_)
      · refine lv_iload_n hx hb dX11_later_42 rfl (lv_at hl 2 rfl) ?_
        refine xi_zeq (tgt := 77) hx hb (rfl : Int32.toInt p1 = p1.toInt) dX11_later_43 (by decide) (fun c43 => ?_) (fun c43 => ?_)
        · refine lv_aload_n hx hb dX11_later_77 rfl (lv_at hl 0 rfl) ?_
          refine lv_iload_n hx hb dX11_later_78 rfl (lv_at hl 1 rfl) ?_
          refine x_cl0 (x_runV (b := a) (As := [.int p0]) (rest := []) S (c_X11_inQueue l E K F G6 a p0 ha (v_X11_later_79_21 (F := F) a G G6 hR ((hF6.2.1 _ xn0).trans (ld_c hG2))) (v_X11_later_79_22 (F := F) a G G6 hM hB ((hF6.2.1 _ xn0).trans (ld_c hG2))) (v_X11_later_79_23 (F := F) a G G6 hM hB ((hF6.2.1 _ xn0).trans (ld_c hG2)))) mv_X11_inQueue km_X11_306 rfl rfl ⟨Nat.le_of_ble_eq_true rfl, Nat.le_of_ble_eq_true rfl⟩ (rc_13 hK hT ha) hK (fun _ => XP.blind) (fun U hU hW => XP.at hK hz hS hT hU hW) rfl hl.1 (Nat.le_of_ble_eq_true rfl) dX11_later_79 ⟨Nat.le_of_ble_eq_true rfl, Nat.le_of_ble_eq_true rfl⟩) hS ?_
          rintro _ G79 H locs ⟨x79, rfl, hF79, t79, oq79, oq79a⟩ hT hS
          have t79 : 0 ≤ x79.toInt ∧ x79.toInt ≤ 2388 ∧ 0 ≤ ((G79.1 a 19).toInt) ∧ ((G79.1 a 19).toInt) ≤ 2388 := t79
          have oq79 : pL G79 F a = if ((G.1 a 6).toInt) = 0 then [] else fuO (G.2.1 (F a 10)) (mw (G.2.1 (F a 1)) 0) (mw (G.2.1 (F a 2)) 0) 1 := by simp only [(show G6.1 a 6 = G.1 a 6 from ((hF6.1 _ _ (xnj (by decide) (xnj (by decide) (xnj (by decide) xn0)))).trans (ld_j hG2 (by decide)))), (show G6.2.1 (F a 10) = G.2.1 (F a 10) from ((hF6.2.1 _ xn0).trans (ld_c hG2))), (show G6.2.1 (F a 1) = G.2.1 (F a 1) from ((hF6.2.1 _ xn0).trans (ld_c hG2))), (show G6.2.1 (F a 2) = G.2.1 (F a 2) from ((hF6.2.1 _ xn0).trans (ld_c hG2)))] at oq79; exact oq79
          have hv79 : PV (G.2.1 (F a 10)) (pL G79 F a) := (v_X11_later_82_24 (F := F) a G G79 oq79)
          refine lv_istore_n (lv' := [(3, .int x79), (0, .ref a), (1, .int p0), (2, .int p1)]) hx hb dX11_later_82 rfl hl (by decide) rfl (fun ls hl => ?_)
          refine lv_iconst (v := 0) hx hb dX11_later_83 (by decide) ?_
          refine lv_istore (lv' := [(4, .int 0), (3, .int x79), (0, .ref a), (1, .int p0), (2, .int p1)]) hx hb dX11_later_84 hl (by decide) rfl (fun ls hl => ?_)
          have L86 : ∀ (N86 : Nat) (l4_86 : Int32) (G_86 : XG) (H : Heap) (locs : List Loc) (ls : Array Slot), XFr [] [F a 9] [] G79 G_86 → (∀ j : Int, 0 ≤ j → j < l4_86.toInt → aI (G79.2.1 (F a 17)) j = p0.toInt → fzq (G.2.1 (F a 10)) (mw (G.2.1 (F a 1)) 0) (aI (G79.2.1 (F a 17)) j) (aI (G79.2.1 (F a 18)) j) = 0) → 0 ≤ l4_86.toInt ∧ l4_86.toInt ≤ ((G79.1 a 19).toInt) → (0 : Int) ≤ l4_86.toInt → 2147483648 - l4_86.toInt < ((N86 : Nat) : Int) → TW E K F G_86 H → va_S (xA E) s.heap H locs → lv_has ls 5 [(0, .ref a), (1, .int p0), (3, .int x79), (4, .int l4_86)] → W p l e rm_X11_later s m args below meth c H locs 0 0 Q (F0 m 86 ls []) := by
            intro N86
            induction N86 with
            | zero =>
              intro l4_86 G_86 H locs ls hF_86 pl I86_0 I86_1 hm86
              exact absurd hm86 (z_X11_later_2 l4_86.toInt (xr l4_86))
            | succ N86 ih86 =>
              intro l4_86 G_86 H locs ls hF_86 pl I86_0 I86_1 hm86 hT hS hl
              refine lv_iload hx hb dX11_later_86 (lv_at hl 3 rfl) ?_
              refine lv_aload_n hx hb dX11_later_88 rfl (lv_at hl 0 rfl) ?_
              refine gX11_19 S hK hT ha kf_X11_203 dX11_later_89 (v := (G79.1 a 19)) (hF_86.1 _ _ xn0) (?_)
              refine xi_cge (tgt := 157) hx hb (rfl : Int32.toInt l4_86 = l4_86.toInt) (rfl : Int32.toInt (G79.1 a 19) = ((G79.1 a 19).toInt)) dX11_later_92 (by decide) (fun c92 => ?_) (fun c92 => ?_)
              · refine lv_aload_n hx hb dX11_later_157 rfl (lv_at hl 0 rfl) ?_
                refine gX11_10 S hK hT ha kf_X11_33 dX11_later_158 (fun _ _ => ?_)
                refine lv_bipush (v := 10) hx hb dX11_later_161 (by decide) ?_
                refine lv_iload_n hx hb dX11_later_163 rfl (lv_at hl 1 rfl) ?_
                refine xi_imul hx hb ((by decide) : Int32.toInt 10 = (10 : Int)) (rfl : Int32.toInt p0 = p0.toInt) dX11_later_164 (fun x164 t164 => ?_)
                have e164 : x164.toInt = ((10 : Int) * p0.toInt) := (z_X11_later_3 p0.toInt x11.toInt x164.toInt (aI (G.2.1 (F a 10)) (10 * p0.toInt + 0)) t11 c14 t164)
                refine lv_bipush (v := 6) hx hb dX11_later_165 (by decide) ?_
                refine xi_iadd hx hb (e164 : Int32.toInt x164 = ((10 : Int) * p0.toInt)) ((by decide) : Int32.toInt 6 = (6 : Int)) dX11_later_167 (fun x167 t167 => ?_)
                have e167 : x167.toInt = (((10 : Int) * p0.toInt) + (6 : Int)) := (z_X11_later_4 p0.toInt x11.toInt x167.toInt (aI (G.2.1 (F a 10)) (10 * p0.toInt + 0)) t11 c14 t167)
                refine lv_iconst (v := 0) hx hb dX11_later_168 (by decide) ?_
                refine as_0 (x := 0) S hK hT hS hk9999f ar_37 aw_37 (by decide) (by rw [(e167 : Int32.toInt x167 = (((10 : Int) * p0.toInt) + (6 : Int)))]; exact (z_X11_later_5 p0.toInt x11.toInt (aI (G.2.1 (F a 10)) (10 * p0.toInt + 0)) t11 c14)) dX11_later_169 (fun H locs hT hS => ?_)
                obtain ⟨G169, hG169⟩ : ∃ GG : XG, GG = cput G_86 (F a 10) x167.toNatClampNeg 0 := ⟨_, rfl⟩
                rw [← hG169] at hT
                refine lv_iload_n hx hb dX11_later_170 rfl (lv_at hl 2 rfl) ?_
                exact x_ri hx hb hr hlk hQ (Nat.le_of_ble_eq_true rfl) (Nat.le_of_ble_eq_true rfl) hS dX11_later_171 G169 ⟨_, rfl, (by rw [hG169]; exact XFr.cput (XFr.call (XFr.call (XFr.call (by rw [hG2]; exact XFr.dput XFr.rf (List.mem_of_getElem? (i := 5) rfl)) hF6 (xm1 2 rfl (xm1 3 rfl (xm1 4 rfl xm0))) xm0 xm0) hF79 (xm1 0 rfl (xm1 1 rfl xm0)) (xm1 0 rfl (xm1 1 rfl (xm1 2 rfl (xm1 3 rfl (xm1 4 rfl xm0))))) xm0) hF_86 xm0 (xm1 8 rfl xm0) xm0) (List.mem_of_getElem? (i := 6) rfl)), (by rw [(show (G169.1 a 23).toInt = ((G6.1 a 23).toInt) from (congrArg Int32.toInt ((lc_d hG169).trans ((hF_86.1 _ _ xn0).trans (hF79.1 _ _ (xnj (by decide) (xnj (by decide) xn0)))))).trans (rfl : Int32.toInt (G6.1 a 23) = ((G6.1 a 23).toInt)))] <;> exact (z_X11_later_6 ((G6.1 a 20).toInt) ((G6.1 a 21).toInt) ((G6.1 a 23).toInt) t6)), (v_X11_later_171_25 (K := K) (F := F) a G G6 G79 G_86 G169 x167 p0 x79 l4_86 p1 x11 N86 ha hG169 oq79 oq79a pl e167 z0 t6 t11 c14 c28 c36 c43 t79 I86_0 I86_1 hm86 c92 ((hF_86.2.1 _ (xn1 (xne_k hk9999f hk9999h (by decide)) xn0)).trans ((hF79.2.1 _ (xn1 (xne_k hk9999f hk9999 (by decide)) (xn1 (xne_k hk9999f hk9999a (by decide)) (xn1 (xne_k hk9999f hk9999b (by decide)) (xn1 (xne_k hk9999f hk9999c (by decide)) (xn1 (xne_k hk9999f hk9999d (by decide)) xn0)))))).trans ((hF6.2.1 _ xn0).trans (ld_c hG2))))), (v_X11_later_171_26 (K := K) (F := F) a G G6 G79 G_86 G169 x167 p0 x79 l4_86 p1 x11 N86 ha hG169 hR oq79a e167 z0 t6 t11 c14 c28 c36 c43 t79 I86_0 I86_1 hm86 c92 ((hF_86.2.1 _ (xn1 (xne_k hk9999f hk9999h (by decide)) xn0)).trans ((hF79.2.1 _ (xn1 (xne_k hk9999f hk9999 (by decide)) (xn1 (xne_k hk9999f hk9999a (by decide)) (xn1 (xne_k hk9999f hk9999b (by decide)) (xn1 (xne_k hk9999f hk9999c (by decide)) (xn1 (xne_k hk9999f hk9999d (by decide)) xn0)))))).trans ((hF6.2.1 _ xn0).trans (ld_c hG2)))))⟩ hT
              · refine lv_aload_n hx hb dX11_later_95 rfl (lv_at hl 0 rfl) ?_
                refine gX11_17 S hK hT ha kf_X11_51 dX11_later_96 (fun _ _ => ?_)
                refine lv_iload hx hb dX11_later_99 (lv_at hl 3 rfl) ?_
                refine al_0 S hK hT hk9999a ar_43 (by decide) (z_X11_later_7 l4_86.toInt x79.toInt ((G79.1 a 19).toInt) t79 I86_0) dX11_later_101 (fun x101 hv101 o101 => ?_)
                have hv101 : x101.toInt = (aI (G79.2.1 (F a 17)) (l4_86.toInt)) := hv101.trans (by rw [(rfl : Int32.toInt l4_86 = l4_86.toInt), ((hF_86.2.1 _ (xn1 (xne_k hk9999a hk9999h (by decide)) xn0)) : G_86.2.1 (F a 17) = G79.2.1 (F a 17))])
                refine lv_iload_n hx hb dX11_later_102 rfl (lv_at hl 1 rfl) ?_
                refine xi_cne (tgt := 151) hx hb (hv101 : Int32.toInt x101 = (aI (G79.2.1 (F a 17)) (l4_86.toInt))) (rfl : Int32.toInt p0 = p0.toInt) dX11_later_103 (by decide) (fun c103 => ?_) (fun c103 => ?_)
                · refine xi_iinc (n := 1) (lv' := fun z9 => [(4, .int z9), (0, .ref a), (1, .int p0), (3, .int x79)]) (k := 3) hx hb (rfl : Int32.toInt l4_86 = l4_86.toInt) (by decide) dX11_later_151 hl rfl (by decide) (fun _ => rfl) (fun x151 ls t151 hl => ?_)
                  have e151 : x151.toInt = (l4_86.toInt + 1) := (z_X11_later_8 l4_86.toInt x151.toInt x79.toInt ((G79.1 a 19).toInt) t79 I86_0 t151)
                  have hl : lv_has ls 5 [(4, .int x151), (0, .ref a), (1, .int p0), (3, .int x79)] := hl
                  refine lv_goto (tgt := 86) hx hb dX11_later_154 (by decide) ?_
                  exact ih86 x151 G_86 _ _ _ (XFr.call XFr.rf hF_86 xm0 (xm1 0 rfl xm0) xm0) (by rw [(e151 : Int32.toInt x151 = (l4_86.toInt + 1))] <;> exact (v_X11_later_154_27 (K := K) (F := F) a G G6 G79 p0 x79 l4_86 p1 x11 N86 ha oq79a pl z0 t6 t11 c14 c28 c36 c43 t79 I86_0 I86_1 hm86 c92 c103)) (by rw [(e151 : Int32.toInt x151 = (l4_86.toInt + 1))] <;> exact (z_X11_later_9 l4_86.toInt ((G79.1 a 19).toInt) I86_0 c92)) (by rw [(e151 : Int32.toInt x151 = (l4_86.toInt + 1))] <;> exact (z_X11_later_10 l4_86.toInt ((G79.1 a 19).toInt) I86_0)) (by rw [(e151 : Int32.toInt x151 = (l4_86.toInt + 1))] <;> exact (z_X11_later_11 l4_86.toInt N86 hm86)) hT hS (lv_sub hl [1, 2, 3, 0] rfl)
                · refine lv_aload_n hx hb dX11_later_106 rfl (lv_at hl 0 rfl) ?_
                  refine gX11_9 S hK hT ha kf_X11_30 dX11_later_107 (fun _ _ => ?_)
                  refine lv_iconst (v := 0) hx hb dX11_later_110 (by decide) ?_
                  refine lv_dup2_11 hx hb dX11_later_111 rfl rfl ?_
                  refine al_0 S hK hT hk9999h ar_36 (by decide) (by decide) dX11_later_112 (fun x112 hv112 o112 => ?_)
                  have hv112 : x112.toInt = (aI (G_86.2.1 (F a 9)) 0) := hv112.trans (by rw [((by decide) : Int32.toInt 0 = (0 : Int))])
                  refine lv_iconst (v := 1) hx hb dX11_later_113 (by decide) ?_
                  refine xi_iadd hx hb (hv112 : Int32.toInt x112 = (aI (G_86.2.1 (F a 9)) 0)) ((by decide) : Int32.toInt 1 = (1 : Int)) dX11_later_114 (fun x114 t114 => ?_)
                  refine as_0 (x := x114) S hK hT hS hk9999h ar_36 aw_36 (by decide) (by decide) dX11_later_115 (fun H locs hT hS => ?_)
                  obtain ⟨G115, hG115⟩ : ∃ GG : XG, GG = cput G_86 (F a 9) (0 : Int32).toNatClampNeg x114 := ⟨_, rfl⟩
                  rw [← hG115] at hT
                  have z116 : (0 ≤ (aI (G79.2.1 (F a 17)) (l4_86.toInt)) ∧ (aI (G79.2.1 (F a 17)) (l4_86.toInt)) ≤ 11) ∧ (aI (G.2.1 (F a 10)) (10 * aI (G79.2.1 (F a 17)) (l4_86.toInt) + 0)) ≠ -1 ∧ ((sF (aI (G.2.1 (F a 10)) (10 * aI (G79.2.1 (F a 17)) (l4_86.toInt) + 0))) ≤ (aI (G79.2.1 (F a 18)) (l4_86.toInt)) ∧ (aI (G79.2.1 (F a 18)) (l4_86.toInt)) ≤ (sL (aI (G.2.1 (F a 10)) (10 * aI (G79.2.1 (F a 17)) (l4_86.toInt) + 0)))) := pv_at hv79 (z_X11_later_12 l4_86.toInt ((G79.1 a 19).toInt) I86_0 c92)
                  have z116a : ((sF (aI (G.2.1 (F a 10)) (10 * aI (G79.2.1 (F a 17)) (l4_86.toInt) + 0))) = 0 ∨ (sF (aI (G.2.1 (F a 10)) (10 * aI (G79.2.1 (F a 17)) (l4_86.toInt) + 0))) = -99) ∧ ((sL (aI (G.2.1 (F a 10)) (10 * aI (G79.2.1 (F a 17)) (l4_86.toInt) + 0))) = 29 ∨ (sL (aI (G.2.1 (F a 10)) (10 * aI (G79.2.1 (F a 17)) (l4_86.toInt) + 0))) = 99) := sFLb _
                  have z116b : (aI (G79.2.1 (F a 17)) (l4_86.toInt)) = p0.toInt → (sF (aI (G.2.1 (F a 10)) (10 * aI (G79.2.1 (F a 17)) (l4_86.toInt) + 0))) = (sF (aI (G.2.1 (F a 10)) (10 * p0.toInt + 0))) ∧ (sL (aI (G.2.1 (F a 10)) (10 * aI (G79.2.1 (F a 17)) (l4_86.toInt) + 0))) = (sL (aI (G.2.1 (F a 10)) (10 * p0.toInt + 0))) := fun h9 => by rw [h9]; exact ⟨rfl, rfl⟩
                  refine lv_aload_n hx hb dX11_later_116 rfl (lv_at hl 0 rfl) ?_
                  refine lv_iload_n hx hb dX11_later_117 rfl (lv_at hl 1 rfl) ?_
                  refine lv_aload_n hx hb dX11_later_118 rfl (lv_at hl 0 rfl) ?_
                  refine gX11_18 S hK hT ha kf_X11_54 dX11_later_119 (fun _ _ => ?_)
                  refine lv_iload hx hb dX11_later_122 (lv_at hl 3 rfl) ?_
                  refine al_0 S hK hT hk9999b ar_44 (by decide) (z_X11_later_7 l4_86.toInt x79.toInt ((G79.1 a 19).toInt) t79 I86_0) dX11_later_124 (fun x124 hv124 o124 => ?_)
                  have hv124 : x124.toInt = (aI (G79.2.1 (F a 18)) (l4_86.toInt)) := hv124.trans (by rw [(rfl : Int32.toInt l4_86 = l4_86.toInt), (((lc_c hG115 (xne_k hk9999b hk9999h (by decide))).trans (hF_86.2.1 _ (xn1 (xne_k hk9999b hk9999h (by decide)) xn0))) : G115.2.1 (F a 18) = G79.2.1 (F a 18))])
                  refine lv_aload_n hx hb dX11_later_125 rfl (lv_at hl 0 rfl) ?_
                  refine gX11_1 S hK hT ha kf_X11_9 dX11_later_126 (fun _ _ => ?_)
                  refine lv_iconst (v := 0) hx hb dX11_later_129 (by decide) ?_
                  refine x_clp (x_runV (b := a) (As := [.int p0, .int x124, .ref (F a 1), .int 0]) (rest := []) S (c_X11_fails l E K F G115 H a p0 x124 (F a 1) 0 ha (XO.a hk9999i (by decide)) (z_X11_later_14 p0.toInt (aI (G79.2.1 (F a 17)) (l4_86.toInt)) c103 (z116).1) (by rw [(show G115.2.1 (F a 10) = G.2.1 (F a 10) from ((lc_c hG115 (xne_k hk9999f hk9999h (by decide))).trans ((hF_86.2.1 _ (xn1 (xne_k hk9999f hk9999h (by decide)) xn0)).trans ((hF79.2.1 _ (xn1 (xne_k hk9999f hk9999 (by decide)) (xn1 (xne_k hk9999f hk9999a (by decide)) (xn1 (xne_k hk9999f hk9999b (by decide)) (xn1 (xne_k hk9999f hk9999c (by decide)) (xn1 (xne_k hk9999f hk9999d (by decide)) xn0)))))).trans ((hF6.2.1 _ xn0).trans (ld_c hG2))))))] <;> exact (z_X11_later_15 p0.toInt x11.toInt (aI (G.2.1 (F a 10)) (10 * p0.toInt + 0)) t11 c14)) (by rw [(hv124 : Int32.toInt x124 = (aI (G79.2.1 (F a 18)) (l4_86.toInt))), (show G115.2.1 (F a 10) = G.2.1 (F a 10) from ((lc_c hG115 (xne_k hk9999f hk9999h (by decide))).trans ((hF_86.2.1 _ (xn1 (xne_k hk9999f hk9999h (by decide)) xn0)).trans ((hF79.2.1 _ (xn1 (xne_k hk9999f hk9999 (by decide)) (xn1 (xne_k hk9999f hk9999a (by decide)) (xn1 (xne_k hk9999f hk9999b (by decide)) (xn1 (xne_k hk9999f hk9999c (by decide)) (xn1 (xne_k hk9999f hk9999d (by decide)) xn0)))))).trans ((hF6.2.1 _ xn0).trans (ld_c hG2))))))] <;> exact (z_X11_later_16 p0.toInt (aI (G79.2.1 (F a 17)) (l4_86.toInt)) (aI (G79.2.1 (F a 18)) (l4_86.toInt)) (sF (aI (G.2.1 (F a 10)) (10 * aI (G79.2.1 (F a 17)) (l4_86.toInt) + 0))) (sF (aI (G.2.1 (F a 10)) (10 * p0.toInt + 0))) (sL (aI (G.2.1 (F a 10)) (10 * aI (G79.2.1 (F a 17)) (l4_86.toInt) + 0))) (sL (aI (G.2.1 (F a 10)) (10 * p0.toInt + 0))) c103 (z116).2.2 z116b)) (v_X11_later_130_28 (F := F) a G G115 hR ((lc_c hG115 (xne_k hk9999f hk9999h (by decide))).trans ((hF_86.2.1 _ (xn1 (xne_k hk9999f hk9999h (by decide)) xn0)).trans ((hF79.2.1 _ (xn1 (xne_k hk9999f hk9999 (by decide)) (xn1 (xne_k hk9999f hk9999a (by decide)) (xn1 (xne_k hk9999f hk9999b (by decide)) (xn1 (xne_k hk9999f hk9999c (by decide)) (xn1 (xne_k hk9999f hk9999d (by decide)) xn0)))))).trans ((hF6.2.1 _ xn0).trans (ld_c hG2)))))) (v_X11_later_130_29 (F := F) a G G115 hM hB ((lc_c hG115 (xne_k hk9999i hk9999h (by decide))).trans ((hF_86.2.1 _ (xn1 (xne_k hk9999i hk9999h (by decide)) xn0)).trans ((hF79.2.1 _ (xn1 (xne_k hk9999i hk9999 (by decide)) (xn1 (xne_k hk9999i hk9999a (by decide)) (xn1 (xne_k hk9999i hk9999b (by decide)) (xn1 (xne_k hk9999i hk9999c (by decide)) (xn1 (xne_k hk9999i hk9999d (by decide)) xn0)))))).trans ((hF6.2.1 _ xn0).trans (ld_c hG2))))))) mv_X11_fails km_X11_221 rfl rfl ⟨Nat.le_of_ble_eq_true rfl, Nat.le_of_ble_eq_true rfl⟩ (rc_13 hK hT ha) hK (fun _ => XPh.blind) (fun U hU hW => XPh.at hK hz hS hT hU hW) rfl hl.1 (Nat.le_of_ble_eq_true rfl) dX11_later_130 ⟨Nat.le_of_ble_eq_true rfl, Nat.le_of_ble_eq_true rfl⟩) hS ?_
                  rintro _ _ locs ⟨x130, rfl, b130, t130⟩ hS
                  have t130 : x130.toInt = (flq (mw (G.2.1 (F a 1)) 0) (aI (G.2.1 (F a 10)) (10 * p0.toInt + 0)) (aI (G.2.1 (F a 10)) (10 * p0.toInt + 1)) (aI (G.2.1 (F a 10)) (10 * p0.toInt + 2)) (aI (G.2.1 (F a 10)) (10 * p0.toInt + 4)) (aI (G.2.1 (F a 10)) (10 * p0.toInt + 5)) (aI (G79.2.1 (F a 18)) (l4_86.toInt)) (stt (mw (G.2.1 (F a 1)) 0) (aI (G.2.1 (F a 10)) (10 * p0.toInt + 0)) (aI (G.2.1 (F a 10)) (10 * p0.toInt + 1)) (aI (G.2.1 (F a 10)) (10 * p0.toInt + 2)) (aI (G.2.1 (F a 10)) (10 * p0.toInt + 3)) (aI (G79.2.1 (F a 18)) (l4_86.toInt)))) := by rw [(hv124 : Int32.toInt x124 = (aI (G79.2.1 (F a 18)) (l4_86.toInt)))] at t130; rw [(show G115.2.1 (F a 1) = G.2.1 (F a 1) from ((lc_c hG115 (xne_k hk9999i hk9999h (by decide))).trans ((hF_86.2.1 _ (xn1 (xne_k hk9999i hk9999h (by decide)) xn0)).trans ((hF79.2.1 _ (xn1 (xne_k hk9999i hk9999 (by decide)) (xn1 (xne_k hk9999i hk9999a (by decide)) (xn1 (xne_k hk9999i hk9999b (by decide)) (xn1 (xne_k hk9999i hk9999c (by decide)) (xn1 (xne_k hk9999i hk9999d (by decide)) xn0)))))).trans ((hF6.2.1 _ xn0).trans (ld_c hG2))))))] at t130; rw [(show G115.2.1 (F a 10) = G.2.1 (F a 10) from ((lc_c hG115 (xne_k hk9999f hk9999h (by decide))).trans ((hF_86.2.1 _ (xn1 (xne_k hk9999f hk9999h (by decide)) xn0)).trans ((hF79.2.1 _ (xn1 (xne_k hk9999f hk9999 (by decide)) (xn1 (xne_k hk9999f hk9999a (by decide)) (xn1 (xne_k hk9999f hk9999b (by decide)) (xn1 (xne_k hk9999f hk9999c (by decide)) (xn1 (xne_k hk9999f hk9999d (by decide)) xn0)))))).trans ((hF6.2.1 _ xn0).trans (ld_c hG2))))))] at t130; exact t130
                  refine xi_zeq (tgt := 151) hx hb (rfl : Int32.toInt x130 = x130.toInt) dX11_later_133 (by decide) (fun c133 => ?_) (fun c133 => ?_)
                  · refine xi_iinc (n := 1) (lv' := fun z9 => [(4, .int z9), (0, .ref a), (1, .int p0), (3, .int x79)]) (k := 3) hx hb (rfl : Int32.toInt l4_86 = l4_86.toInt) (by decide) dX11_later_151 hl rfl (by decide) (fun _ => rfl) (fun x151 ls t151 hl => ?_)
                    have e151 : x151.toInt = (l4_86.toInt + 1) := (z_X11_later_8 l4_86.toInt x151.toInt x79.toInt ((G79.1 a 19).toInt) t79 I86_0 t151)
                    have hl : lv_has ls 5 [(4, .int x151), (0, .ref a), (1, .int p0), (3, .int x79)] := hl
                    refine lv_goto (tgt := 86) hx hb dX11_later_154 (by decide) ?_
                    exact ih86 x151 G115 _ _ _ (by rw [hG115]; exact XFr.cput (XFr.call XFr.rf hF_86 xm0 (xm1 0 rfl xm0) xm0) (List.mem_of_getElem? (i := 0) rfl)) (by rw [(e151 : Int32.toInt x151 = (l4_86.toInt + 1))] <;> exact (v_X11_later_154_30 (K := K) (F := F) a G G6 G79 p0 x79 l4_86 p1 x11 N86 x130 ha oq79a pl z0 t6 t11 c14 c28 c36 c43 t79 I86_0 I86_1 hm86 c92 c103 z116 z116a z116b t130 (xzi b130) c133)) (by rw [(e151 : Int32.toInt x151 = (l4_86.toInt + 1))] <;> exact (z_X11_later_9 l4_86.toInt ((G79.1 a 19).toInt) I86_0 c92)) (by rw [(e151 : Int32.toInt x151 = (l4_86.toInt + 1))] <;> exact (z_X11_later_10 l4_86.toInt ((G79.1 a 19).toInt) I86_0)) (by rw [(e151 : Int32.toInt x151 = (l4_86.toInt + 1))] <;> exact (z_X11_later_11 l4_86.toInt N86 hm86)) hT hS (lv_sub hl [1, 2, 3, 0] rfl)
                  · refine lv_aload_n hx hb dX11_later_136 rfl (lv_at hl 0 rfl) ?_
                    refine lv_iload_n hx hb dX11_later_137 rfl (lv_at hl 1 rfl) ?_
                    refine lv_aload_n hx hb dX11_later_138 rfl (lv_at hl 0 rfl) ?_
                    refine gX11_18 S hK hT ha kf_X11_54 dX11_later_139 (fun _ _ => ?_)
                    refine lv_iload hx hb dX11_later_142 (lv_at hl 3 rfl) ?_
                    refine al_0 S hK hT hk9999b ar_44 (by decide) (z_X11_later_7 l4_86.toInt x79.toInt ((G79.1 a 19).toInt) t79 I86_0) dX11_later_144 (fun x144 hv144 o144 => ?_)
                    have hv144 : x144.toInt = (aI (G79.2.1 (F a 18)) (l4_86.toInt)) := hv144.trans (by rw [(rfl : Int32.toInt l4_86 = l4_86.toInt), (((lc_c hG115 (xne_k hk9999b hk9999h (by decide))).trans (hF_86.2.1 _ (xn1 (xne_k hk9999b hk9999h (by decide)) xn0))) : G115.2.1 (F a 18) = G79.2.1 (F a 18))])
                    refine x_cv0 (x_runV (b := a) (As := [.int p0, .int x144]) (rest := []) S (c_X11_failed l E K F G115 a p0 x144 ha (z_X11_later_14 p0.toInt (aI (G79.2.1 (F a 17)) (l4_86.toInt)) c103 (z116).1) (by rw [(hv144 : Int32.toInt x144 = (aI (G79.2.1 (F a 18)) (l4_86.toInt)))] <;> exact (z_X11_later_23 (aI (G79.2.1 (F a 18)) (l4_86.toInt)) (sF (aI (G.2.1 (F a 10)) (10 * aI (G79.2.1 (F a 17)) (l4_86.toInt) + 0))) (sL (aI (G.2.1 (F a 10)) (10 * aI (G79.2.1 (F a 17)) (l4_86.toInt) + 0))) (z116).2.2 (z116a).1 (z116a).2))) mv_X11_failed km_X11_299 rfl rfl ⟨Nat.le_of_ble_eq_true rfl, Nat.le_of_ble_eq_true rfl⟩ (rc_13 hK hT ha) hK (fun _ => XP.blind) (fun U hU hW => XP.at hK hz hS hT hU hW) rfl hl.1 (Nat.le_of_ble_eq_true rfl) dX11_later_145 ⟨Nat.le_of_ble_eq_true rfl, Nat.le_of_ble_eq_true rfl⟩) hS ?_
                    rintro G145 H locs ⟨hF145, t145⟩ hT hS
                    have t145 : ((G145.1 a 20).toInt) = p0.toInt ∧ ((G145.1 a 21).toInt) = (aI (G79.2.1 (F a 18)) (l4_86.toInt)) ∧ 0 ≤ ((G145.1 a 23).toInt) ∧ ((G145.1 a 23).toInt) ≤ 24 := by rw [(hv144 : Int32.toInt x144 = (aI (G79.2.1 (F a 18)) (l4_86.toInt)))] at t145; exact t145
                    refine lv_bipush (v := (-5)) hx hb dX11_later_148 (by decide) ?_
                    exact x_ri hx hb hr hlk hQ (Nat.le_of_ble_eq_true rfl) (Nat.le_of_ble_eq_true rfl) hS dX11_later_150 G145 ⟨_, rfl, (XFr.call (by rw [hG115]; exact XFr.cput (XFr.call (XFr.call (XFr.call (by rw [hG2]; exact XFr.dput XFr.rf (List.mem_of_getElem? (i := 5) rfl)) hF6 (xm1 2 rfl (xm1 3 rfl (xm1 4 rfl xm0))) xm0 xm0) hF79 (xm1 0 rfl (xm1 1 rfl xm0)) (xm1 0 rfl (xm1 1 rfl (xm1 2 rfl (xm1 3 rfl (xm1 4 rfl xm0))))) xm0) hF_86 xm0 (xm1 8 rfl xm0) xm0) (List.mem_of_getElem? (i := 8) rfl)) hF145 (xm1 2 rfl (xm1 3 rfl (xm1 4 rfl xm0))) (xm1 5 rfl xm0) xm0), (z_X11_later_24 p0.toInt ((G145.1 a 20).toInt) ((G145.1 a 21).toInt) ((G145.1 a 23).toInt) (aI (G79.2.1 (F a 18)) (l4_86.toInt)) t145), (by rw [((by decide) : Int32.toInt (-5) = (-5 : Int))] <;> exact (v_X11_later_150_31 (K := K) (F := F) a G G6 G79 G145 p0 x79 l4_86 p1 x11 N86 x130 ha oq79 oq79a z0 t6 t11 c14 c28 c36 c43 t79 I86_0 I86_1 hm86 c92 c103 z116 z116a z116b t130 (xzi b130) c133 t145 ((hF145.2.1 _ (xn1 (xne_k hk9999f hk9999e (by decide)) xn0)).trans ((lc_c hG115 (xne_k hk9999f hk9999h (by decide))).trans ((hF_86.2.1 _ (xn1 (xne_k hk9999f hk9999h (by decide)) xn0)).trans ((hF79.2.1 _ (xn1 (xne_k hk9999f hk9999 (by decide)) (xn1 (xne_k hk9999f hk9999a (by decide)) (xn1 (xne_k hk9999f hk9999b (by decide)) (xn1 (xne_k hk9999f hk9999c (by decide)) (xn1 (xne_k hk9999f hk9999d (by decide)) xn0)))))).trans ((hF6.2.1 _ xn0).trans (ld_c hG2)))))))), (v_X11_later_150_32 (F := F) a G G145 hR ((hF145.2.1 _ (xn1 (xne_k hk9999f hk9999e (by decide)) xn0)).trans ((lc_c hG115 (xne_k hk9999f hk9999h (by decide))).trans ((hF_86.2.1 _ (xn1 (xne_k hk9999f hk9999h (by decide)) xn0)).trans ((hF79.2.1 _ (xn1 (xne_k hk9999f hk9999 (by decide)) (xn1 (xne_k hk9999f hk9999a (by decide)) (xn1 (xne_k hk9999f hk9999b (by decide)) (xn1 (xne_k hk9999f hk9999c (by decide)) (xn1 (xne_k hk9999f hk9999d (by decide)) xn0)))))).trans ((hF6.2.1 _ xn0).trans (ld_c hG2)))))))⟩ hT
          exact L86 4294967297 0 G79 _ _ _ XFr.rf (v_X11_later_84_33 (K := K) (F := F) a G G6 G79 p0 x79 p1 x11 ha oq79a z0 t6 t11 c14 c28 c36 c43 t79) (z_X11_later_25 x79.toInt ((G79.1 a 19).toInt) t79) (by decide) (by decide) hT hS (lv_sub hl [2, 3, 1, 0] rfl)
        · refine lv_aload_n hx hb dX11_later_46 rfl (lv_at hl 0 rfl) ?_
          refine gX11_10 S hK hT ha kf_X11_33 dX11_later_47 (fun _ _ => ?_)
          refine lv_bipush (v := 10) hx hb dX11_later_50 (by decide) ?_
          refine lv_iload_n hx hb dX11_later_52 rfl (lv_at hl 1 rfl) ?_
          refine xi_imul hx hb ((by decide) : Int32.toInt 10 = (10 : Int)) (rfl : Int32.toInt p0 = p0.toInt) dX11_later_53 (fun x53 t53 => ?_)
          have e53 : x53.toInt = ((10 : Int) * p0.toInt) := (z_X11_later_3 p0.toInt x11.toInt x53.toInt (aI (G.2.1 (F a 10)) (10 * p0.toInt + 0)) t11 c14 t53)
          refine lv_bipush (v := 6) hx hb dX11_later_54 (by decide) ?_
          refine xi_iadd hx hb (e53 : Int32.toInt x53 = ((10 : Int) * p0.toInt)) ((by decide) : Int32.toInt 6 = (6 : Int)) dX11_later_56 (fun x56 t56 => ?_)
          have e56 : x56.toInt = (((10 : Int) * p0.toInt) + (6 : Int)) := (z_X11_later_4 p0.toInt x11.toInt x56.toInt (aI (G.2.1 (F a 10)) (10 * p0.toInt + 0)) t11 c14 t56)
          refine lv_iconst (v := 1) hx hb dX11_later_57 (by decide) ?_
          refine as_0 (x := 1) S hK hT hS hk9999f ar_37 aw_37 (by decide) (by rw [(e56 : Int32.toInt x56 = (((10 : Int) * p0.toInt) + (6 : Int)))]; exact (z_X11_later_5 p0.toInt x11.toInt (aI (G.2.1 (F a 10)) (10 * p0.toInt + 0)) t11 c14)) dX11_later_58 (fun H locs hT hS => ?_)
          obtain ⟨G58, hG58⟩ : ∃ GG : XG, GG = cput G6 (F a 10) x56.toNatClampNeg 1 := ⟨_, rfl⟩
          rw [← hG58] at hT
          refine lv_aload_n hx hb dX11_later_59 rfl (lv_at hl 0 rfl) ?_
          refine lv_iload_n hx hb dX11_later_60 rfl (lv_at hl 1 rfl) ?_
          refine x_cl0 (x_runV (b := a) (As := [.int p0]) (rest := []) S (c_X11_inQueue l E K F G58 a p0 ha (v_X11_later_61_34 (K := K) (F := F) a G G6 G58 x56 p0 p1 x11 ha hG58 hR e56 z0 t6 t11 c14 c28 c36 ((hF6.2.1 _ xn0).trans (ld_c hG2))) (v_X11_later_61_35 (F := F) a G G58 hM hB ((lc_c hG58 (xne_k hk9999i hk9999f (by decide))).trans ((hF6.2.1 _ xn0).trans (ld_c hG2)))) (v_X11_later_61_36 (F := F) a G G58 hM hB ((lc_c hG58 (xne_k hk9999j hk9999f (by decide))).trans ((hF6.2.1 _ xn0).trans (ld_c hG2))))) mv_X11_inQueue km_X11_306 rfl rfl ⟨Nat.le_of_ble_eq_true rfl, Nat.le_of_ble_eq_true rfl⟩ (rc_13 hK hT ha) hK (fun _ => XP.blind) (fun U hU hW => XP.at hK hz hS hT hU hW) rfl hl.1 (Nat.le_of_ble_eq_true rfl) dX11_later_61 ⟨Nat.le_of_ble_eq_true rfl, Nat.le_of_ble_eq_true rfl⟩) hS ?_
          rintro _ G61 H locs ⟨x61, rfl, hF61, t61, oq61, oq61a⟩ hT hS
          have t61 : 0 ≤ x61.toInt ∧ x61.toInt ≤ 2388 ∧ 0 ≤ ((G61.1 a 19).toInt) ∧ ((G61.1 a 19).toInt) ≤ 2388 := t61
          have oq61 : pL G61 F a = if ((G.1 a 6).toInt) = 0 then [] else fuO (G58.2.1 (F a 10)) (mw (G.2.1 (F a 1)) 0) (mw (G.2.1 (F a 2)) 0) 1 := by simp only [(show G58.1 a 6 = G.1 a 6 from ((lc_d hG58).trans ((hF6.1 _ _ (xnj (by decide) (xnj (by decide) (xnj (by decide) xn0)))).trans (ld_j hG2 (by decide))))), (show G58.2.1 (F a 1) = G.2.1 (F a 1) from ((lc_c hG58 (xne_k hk9999i hk9999f (by decide))).trans ((hF6.2.1 _ xn0).trans (ld_c hG2)))), (show G58.2.1 (F a 2) = G.2.1 (F a 2) from ((lc_c hG58 (xne_k hk9999j hk9999f (by decide))).trans ((hF6.2.1 _ xn0).trans (ld_c hG2))))] at oq61; exact oq61
          refine lv_istore_n (lv' := [(3, .int x61), (0, .ref a), (1, .int p0), (2, .int p1)]) hx hb dX11_later_64 rfl hl (by decide) rfl (fun ls hl => ?_)
          refine lv_aload_n hx hb dX11_later_65 rfl (lv_at hl 1 rfl) ?_
          refine gX11_8 S hK hT ha kf_X11_27 dX11_later_66 (fun _ _ => ?_)
          refine lv_iconst (v := 0) hx hb dX11_later_69 (by decide) ?_
          refine lv_dup2_11 hx hb dX11_later_70 rfl rfl ?_
          refine al_0 S hK hT hk9999g ar_35 (by decide) (by decide) dX11_later_71 (fun x71 hv71 o71 => ?_)
          have hv71 : x71.toInt = (aI (G.2.1 (F a 8)) 0) := hv71.trans (by rw [((by decide) : Int32.toInt 0 = (0 : Int)), (((hF61.2.1 _ (xn1 (xne_k hk9999g hk9999 (by decide)) (xn1 (xne_k hk9999g hk9999a (by decide)) (xn1 (xne_k hk9999g hk9999b (by decide)) (xn1 (xne_k hk9999g hk9999c (by decide)) (xn1 (xne_k hk9999g hk9999d (by decide)) xn0)))))).trans ((lc_c hG58 (xne_k hk9999g hk9999f (by decide))).trans ((hF6.2.1 _ xn0).trans (ld_c hG2)))) : G61.2.1 (F a 8) = G.2.1 (F a 8))])
          refine lv_iload_n hx hb dX11_later_72 rfl (lv_at hl 0 rfl) ?_
          refine xi_iadd hx hb (hv71 : Int32.toInt x71 = (aI (G.2.1 (F a 8)) 0)) (rfl : Int32.toInt x61 = x61.toInt) dX11_later_73 (fun x73 t73 => ?_)
          refine as_0 (x := x73) S hK hT hS hk9999g ar_35 aw_35 (by decide) (by decide) dX11_later_74 (fun H locs hT hS => ?_)
          obtain ⟨G74, hG74⟩ : ∃ GG : XG, GG = cput G61 (F a 8) (0 : Int32).toNatClampNeg x73 := ⟨_, rfl⟩
          rw [← hG74] at hT
          refine lv_iload_n hx hb dX11_later_75 rfl (lv_at hl 0 rfl) ?_
          exact x_ri hx hb hr hlk hQ (Nat.le_of_ble_eq_true rfl) (Nat.le_of_ble_eq_true rfl) hS dX11_later_76 G74 ⟨_, rfl, (by rw [hG74]; exact XFr.cput (XFr.call (by rw [hG58]; exact XFr.cput (XFr.call (by rw [hG2]; exact XFr.dput XFr.rf (List.mem_of_getElem? (i := 5) rfl)) hF6 (xm1 2 rfl (xm1 3 rfl (xm1 4 rfl xm0))) xm0 xm0) (List.mem_of_getElem? (i := 6) rfl)) hF61 (xm1 0 rfl (xm1 1 rfl xm0)) (xm1 0 rfl (xm1 1 rfl (xm1 2 rfl (xm1 3 rfl (xm1 4 rfl xm0))))) xm0) (List.mem_of_getElem? (i := 7) rfl)), (by rw [(show (G74.1 a 23).toInt = ((G6.1 a 23).toInt) from (congrArg Int32.toInt ((lc_d hG74).trans ((hF61.1 _ _ (xnj (by decide) (xnj (by decide) xn0))).trans (lc_d hG58)))).trans (rfl : Int32.toInt (G6.1 a 23) = ((G6.1 a 23).toInt)))] <;> exact (z_X11_later_6 ((G6.1 a 20).toInt) ((G6.1 a 21).toInt) ((G6.1 a 23).toInt) t6)), (v_X11_later_76_37 (K := K) (F := F) a G G6 G58 x56 G61 G74 p0 x61 p1 x11 ha hG58 e56 oq61 oq61a z0 t6 t11 c14 c28 c36 t61 ((hF6.2.1 _ xn0).trans (ld_c hG2)) ((lc_c hG74 (xne_k hk9999f hk9999g (by decide))).trans (hF61.2.1 _ (xn1 (xne_k hk9999f hk9999 (by decide)) (xn1 (xne_k hk9999f hk9999a (by decide)) (xn1 (xne_k hk9999f hk9999b (by decide)) (xn1 (xne_k hk9999f hk9999c (by decide)) (xn1 (xne_k hk9999f hk9999d (by decide)) xn0)))))))), (v_X11_later_76_38 (K := K) (F := F) a G G6 G58 x56 G61 G74 p0 x61 p1 x11 ha hG58 hR e56 oq61a z0 t6 t11 c14 c28 c36 t61 ((hF6.2.1 _ xn0).trans (ld_c hG2)) ((lc_c hG74 (xne_k hk9999f hk9999g (by decide))).trans (hF61.2.1 _ (xn1 (xne_k hk9999f hk9999 (by decide)) (xn1 (xne_k hk9999f hk9999a (by decide)) (xn1 (xne_k hk9999f hk9999b (by decide)) (xn1 (xne_k hk9999f hk9999c (by decide)) (xn1 (xne_k hk9999f hk9999d (by decide)) xn0))))))))⟩ hT
      · refine lv_bipush (v := (-4)) hx hb dX11_later_39 (by decide) ?_
        exact x_ri hx hb hr hlk hQ (Nat.le_of_ble_eq_true rfl) (Nat.le_of_ble_eq_true rfl) hS dX11_later_41 G6 ⟨_, rfl, (XFr.call (by rw [hG2]; exact XFr.dput XFr.rf (List.mem_of_getElem? (i := 5) rfl)) hF6 (xm1 2 rfl (xm1 3 rfl (xm1 4 rfl xm0))) xm0 xm0), (z_X11_later_6 ((G6.1 a 20).toInt) ((G6.1 a 21).toInt) ((G6.1 a 23).toInt) t6), (by rw [((by decide) : Int32.toInt (-4) = (-4 : Int))] <;> exact (v_X11_later_41_39 (K := K) (F := F) a G G6 p0 p1 x11 ha z0 t6 t11 c14 c28 c36 ((hF6.2.1 _ xn0).trans (ld_c hG2)))), (v_X11_later_41_40 (F := F) a G G6 hR ((hF6.2.1 _ xn0).trans (ld_c hG2)))⟩ hT
  · refine lv_bipush (v := (-2)) hx hb dX11_later_17 (by decide) ?_
    exact x_ri hx hb hr hlk hQ (Nat.le_of_ble_eq_true rfl) (Nat.le_of_ble_eq_true rfl) hS dX11_later_19 G6 ⟨_, rfl, (XFr.call (by rw [hG2]; exact XFr.dput XFr.rf (List.mem_of_getElem? (i := 5) rfl)) hF6 (xm1 2 rfl (xm1 3 rfl (xm1 4 rfl xm0))) xm0 xm0), (z_X11_later_6 ((G6.1 a 20).toInt) ((G6.1 a 21).toInt) ((G6.1 a 23).toInt) t6), (by rw [((by decide) : Int32.toInt (-2) = (-2 : Int))] <;> exact (v_X11_later_19_41 (K := K) (F := F) a G G6 p1 x11 p0 ha z0 t6 t11 c14 ((hF6.2.1 _ xn0).trans (ld_c hG2)))), (v_X11_later_19_42 (F := F) a G G6 hR ((hF6.2.1 _ xn0).trans (ld_c hG2)))⟩ hT
theorem v_X11_back_31_1 {F : Nat → Nat → Nat} (a : Nat) (G : XG) (G6 : XG)
    (hR : RV (G.2.1 (F a 10)))
    (c_G6_F_a_10 : G6.2.1 (F a 10) = G.2.1 (F a 10)) :
    RV (G6.2.1 (F a 10)) := by simp only [c_G6_F_a_10]; assumption
theorem v_X11_back_129_2 {F : Nat → Nat → Nat} (a : Nat) (G : XG) (G31 : XG)
    (hR : RV (G.2.1 (F a 10)))
    (c_G31_F_a_10 : G31.2.1 (F a 10) = G.2.1 (F a 10)) :
    RV (G31.2.1 (F a 10)) := by simp only [c_G31_F_a_10]; assumption
theorem v_X11_back_129_3 {F : Nat → Nat → Nat} (a : Nat) (G : XG) (G31 : XG)
    (hM : RM (G.2.1 (F a 1)) (0))
    (hB : RM (G.2.1 (F a 2)) 0)
    (c_G31_F_a_1 : G31.2.1 (F a 1) = G.2.1 (F a 1)) :
    RM (G31.2.1 (F a 1)) (0 : Int) := by simp only [c_G31_F_a_1]; assumption
theorem v_X11_back_146_4 {K : Nat → Nat} {F : Nat → Nat → Nat} (a : Nat) (G2 : XG) (G : XG) (G6 : XG) (G31 : XG) (G129 : XG) (l2_36 : Int32) (p0 : Int32) (x140 : Int32) (x21 : Int32) (N36 : Nat)
    (ha : K a = 13)
    (hk9999 : K (F a 15) = 42)
    (hj9999 : F (F a 15) 99 = 15)
    (hk9999a : K (F a 17) = 43)
    (hj9999a : F (F a 17) 99 = 17)
    (hk9999b : K (F a 18) = 44)
    (hj9999b : F (F a 18) 99 = 18)
    (hk9999c : K (F a 11) = 38)
    (hj9999c : F (F a 11) 99 = 11)
    (hk9999d : K (F a 13) = 38)
    (hj9999d : F (F a 13) 99 = 13)
    (hk9999e : K (F a 22) = 45)
    (hj9999e : F (F a 22) 99 = 22)
    (hk9999f : K (F a 12) = 38)
    (hj9999f : F (F a 12) 99 = 12)
    (hk9999g : K (F a 1) = 30)
    (hj9999g : F (F a 1) 99 = 1)
    (hk9999h : K (F a 8) = 35)
    (hj9999h : F (F a 8) 99 = 8)
    (hk9999i : K (F a 10) = 37)
    (hj9999i : F (F a 10) 99 = 10)
    (hk9999j : K (F a 2) = 31)
    (hj9999j : F (F a 2) 99 = 2)
    (hk9999k : K (F a 3) = 32)
    (hj9999k : F (F a 3) 99 = 3)
    (hG2 : G2 = dput G a 0 0)
    (hF6 : XFr [(a, 20), (a, 21), (a, 23)] [] [] G2 G6)
    (hF31 : XFr [(a, 16)] [F a 15] [] G6 G31)
    (hF129 : XFr [] [F a 12] [] G31 G129)
    (hR : RV (G.2.1 (F a 10)))
    (hM : RM (G.2.1 (F a 1)) (0))
    (hB : RM (G.2.1 (F a 2)) 0)
    (hmk : ∀ m : Int, 0 ≤ m → m < ((G.1 a 7).toInt) → RM (G.2.1 (F a 3)) (360 * m))
    (oq31 : ORm (G.2.1 (F a 10)) (G31.2.1 (F a 15)) ((G31.1 a 16).toInt) 12)
    (oq31a : G31.2.2.2 = G6.2.2.2)
    (pk : ∀ j : Int, 0 ≤ j → j < l2_36.toInt → (aI (G.2.1 (F a 10)) (10 * aI (G31.2.1 (F a 15)) j + 6) = 0 → ∀ s : Int, sbj (aI (G.2.1 (F a 10)) (10 * aI (G31.2.1 (F a 15)) j + 0)) s → fzq (G.2.1 (F a 10)) (mw (G.2.1 (F a 3)) (360 * p0.toInt)) (aI (G31.2.1 (F a 15)) j) s = 0))
    (oq129 : LSt (G.2.1 (F a 10)) (G129.2.1 (F a 12)) (mw (G.2.1 (F a 1)) (0 : Int)) 12)
    (oq129a : G129.2.2.2 = G31.2.2.2)
    (e140 : x140.toInt = ((360 : Int) * p0.toInt))
    (m0 : 0 ≤ ((G.1 a 7).toInt) ∧ ((G.1 a 7).toInt) ≤ 8)
    (t6 : ((G6.1 a 20).toInt) = -2147483648 ∧ ((G6.1 a 21).toInt) = -2147483648 ∧ ((G6.1 a 23).toInt) = 0)
    (f41 : ((G.1 a 6).toInt) = 0 ∨ ((G.1 a 6).toInt) = 1)
    (c13 : ((G.1 a 6).toInt) ≠ 0)
    (t21 : (((G.1 a 6).toInt) ≠ 0 ∧ 0 ≤ p0.toInt ∧ p0.toInt ≤ ((G.1 a 7).toInt) - 1 ∧ x21.toInt = 1) ∨ (¬ (((G.1 a 6).toInt) ≠ 0 ∧ 0 ≤ p0.toInt ∧ p0.toInt ≤ ((G.1 a 7).toInt) - 1) ∧ x21.toInt = 0))
    (c24 : x21.toInt ≠ 0)
    (z34 : 0 ≤ ((G31.1 a 16).toInt) ∧ ((G31.1 a 16).toInt) ≤ 12)
    (I36_0 : 0 ≤ l2_36.toInt ∧ l2_36.toInt ≤ ((G31.1 a 16).toInt))
    (I36_1 : (0 : Int) ≤ l2_36.toInt)
    (hm36 : 2147483648 - l2_36.toInt < (((N36) + 1 : Nat) : Int))
    (c41 : ((G31.1 a 16).toInt) ≤ l2_36.toInt)
    (c_G129_F_a_1 : G129.2.1 (F a 1) = G.2.1 (F a 1))
    (c_G129_F_a_11 : G129.2.1 (F a 11) = G.2.1 (F a 11))
    (c_G129_F_a_13 : G129.2.1 (F a 13) = G.2.1 (F a 13))
    (c_G129_F_a_15 : G129.2.1 (F a 15) = G31.2.1 (F a 15))
    (c_G129_F_a_17 : G129.2.1 (F a 17) = G.2.1 (F a 17))
    (c_G129_F_a_18 : G129.2.1 (F a 18) = G.2.1 (F a 18))
    (c_G129_F_a_22 : G129.2.1 (F a 22) = G.2.1 (F a 22))
    (c_G129_F_a_3 : G129.2.1 (F a 3) = G.2.1 (F a 3))
    (c_G129_F_a_8 : G129.2.1 (F a 8) = G.2.1 (F a 8))
    (c_G31_F_a_3 : G31.2.1 (F a 3) = G.2.1 (F a 3))
    (c_G6_F_a_1 : G6.2.1 (F a 1) = G.2.1 (F a 1))
    (d_G129_a_0 : G129.1 a 0 = 0)
    (d_G129_a_16 : G129.1 a 16 = G31.1 a 16)
    (d_G129_a_19 : G129.1 a 19 = G.1 a 19)
    (d_G129_a_20 : G129.1 a 20 = G6.1 a 20)
    (d_G129_a_21 : G129.1 a 21 = G6.1 a 21)
    (d_G129_a_23 : G129.1 a 23 = G6.1 a 23)
    (d_G129_a_7 : G129.1 a 7 = G.1 a 7)
    (d_G6_a_7 : G6.1 a 7 = G.1 a 7) :
    (F a 3) ≠ (F a 1) := by
  intro e
  have h1 : K (F a 1) = 30 := by assumption
  have h2 : K (F a 3) = 32 := by assumption
  rw [← e, h2] at h1
  exact absurd h1 (by decide)
theorem v_X11_back_159_5 {F : Nat → Nat → Nat} (a : Nat) (G : XG) (G146 : XG)
    (hR : RV (G.2.1 (F a 10)))
    (c_G146_F_a_10 : G146.2.1 (F a 10) = G.2.1 (F a 10)) :
    RV (G146.2.1 (F a 10)) := by simp only [c_G146_F_a_10]; assumption
theorem v_X11_back_159_6 {K : Nat → Nat} {F : Nat → Nat → Nat} (a : Nat) (G : XG) (G6 : XG) (G31 : XG) (G129 : XG) (G146 : XG) (l2_36 : Int32) (p0 : Int32) (x21 : Int32) (N36 : Nat)
    (ha : K a = 13)
    (hmk : ∀ m : Int, 0 ≤ m → m < ((G.1 a 7).toInt) → RM (G.2.1 (F a 3)) (360 * m))
    (oq31a : G31.2.2.2 = G6.2.2.2)
    (oq129a : G129.2.2.2 = G31.2.2.2)
    (oq146 : CPd (G129.2.1 (F a 3)) (G129.2.1 (F a 1)) (G146.2.1 (F a 1)) ((360 : Int) * p0.toInt) (0 : Int) 360)
    (m0 : 0 ≤ ((G.1 a 7).toInt) ∧ ((G.1 a 7).toInt) ≤ 8)
    (t6 : ((G6.1 a 20).toInt) = -2147483648 ∧ ((G6.1 a 21).toInt) = -2147483648 ∧ ((G6.1 a 23).toInt) = 0)
    (f43 : ((G.1 a 6).toInt) = 0 ∨ ((G.1 a 6).toInt) = 1)
    (c13 : ((G.1 a 6).toInt) ≠ 0)
    (t21 : (((G.1 a 6).toInt) ≠ 0 ∧ 0 ≤ p0.toInt ∧ p0.toInt ≤ ((G.1 a 7).toInt) - 1 ∧ x21.toInt = 1) ∨ (¬ (((G.1 a 6).toInt) ≠ 0 ∧ 0 ≤ p0.toInt ∧ p0.toInt ≤ ((G.1 a 7).toInt) - 1) ∧ x21.toInt = 0))
    (c24 : x21.toInt ≠ 0)
    (z34 : 0 ≤ ((G31.1 a 16).toInt) ∧ ((G31.1 a 16).toInt) ≤ 12)
    (I36_0 : 0 ≤ l2_36.toInt ∧ l2_36.toInt ≤ ((G31.1 a 16).toInt))
    (I36_1 : (0 : Int) ≤ l2_36.toInt)
    (hm36 : 2147483648 - l2_36.toInt < (((N36) + 1 : Nat) : Int))
    (c41 : ((G31.1 a 16).toInt) ≤ l2_36.toInt)
    (c_G129_F_a_3 : G129.2.1 (F a 3) = G.2.1 (F a 3)) :
    RM (G146.2.1 (F a 1)) (0 : Int) := by
  exact CPd.rm oq146 (by decide) (by rw [c_G129_F_a_3]; exact hmk p0.toInt (by omega) (by omega))
theorem v_X11_back_172_7 {F : Nat → Nat → Nat} (a : Nat) (G : XG) (G159 : XG)
    (hR : RV (G.2.1 (F a 10)))
    (c_G159_F_a_10 : G159.2.1 (F a 10) = G.2.1 (F a 10)) :
    RV (G159.2.1 (F a 10)) := by simp only [c_G159_F_a_10]; assumption
theorem v_X11_back_172_8 {F : Nat → Nat → Nat} (a : Nat) (G : XG) (G159 : XG)
    (hM : RM (G.2.1 (F a 1)) (0))
    (hB : RM (G.2.1 (F a 2)) 0)
    (c_G159_F_a_2 : G159.2.1 (F a 2) = G.2.1 (F a 2)) :
    RM (G159.2.1 (F a 2)) (0 : Int) := by simp only [c_G159_F_a_2]; assumption
theorem v_X11_back_185_9 {F : Nat → Nat → Nat} (a : Nat) (G : XG) (G172 : XG)
    (hR : RV (G.2.1 (F a 10)))
    (c_G172_F_a_10 : G172.2.1 (F a 10) = G.2.1 (F a 10)) :
    RV (G172.2.1 (F a 10)) := by simp only [c_G172_F_a_10]; assumption
theorem v_X11_back_196_10 {F : Nat → Nat → Nat} (a : Nat) (G : XG) (G192 : XG)
    (hR : RV (G.2.1 (F a 10)))
    (c_G192_F_a_10 : G192.2.1 (F a 10) = G.2.1 (F a 10)) :
    RV (G192.2.1 (F a 10)) := by simp only [c_G192_F_a_10]; assumption
theorem v_X11_back_196_11 {K : Nat → Nat} {F : Nat → Nat → Nat} (a : Nat) (G : XG) (G6 : XG) (G31 : XG) (G129 : XG) (G146 : XG) (G159 : XG) (G172 : XG) (G192 : XG) (l2_36 : Int32) (p0 : Int32) (x21 : Int32) (N36 : Nat)
    (ha : K a = 13)
    (hmk : ∀ m : Int, 0 ≤ m → m < ((G.1 a 7).toInt) → RM (G.2.1 (F a 3)) (360 * m))
    (oq31a : G31.2.2.2 = G6.2.2.2)
    (oq129a : G129.2.2.2 = G31.2.2.2)
    (oq146 : CPd (G129.2.1 (F a 3)) (G129.2.1 (F a 1)) (G146.2.1 (F a 1)) ((360 : Int) * p0.toInt) (0 : Int) 360)
    (oq159a : G159.2.2.2 = G146.2.2.2)
    (oq172a : G172.2.2.2 = G159.2.2.2)
    (m0 : 0 ≤ ((G.1 a 7).toInt) ∧ ((G.1 a 7).toInt) ≤ 8)
    (t6 : ((G6.1 a 20).toInt) = -2147483648 ∧ ((G6.1 a 21).toInt) = -2147483648 ∧ ((G6.1 a 23).toInt) = 0)
    (f52 : ((G.1 a 6).toInt) = 0 ∨ ((G.1 a 6).toInt) = 1)
    (c13 : ((G.1 a 6).toInt) ≠ 0)
    (t21 : (((G.1 a 6).toInt) ≠ 0 ∧ 0 ≤ p0.toInt ∧ p0.toInt ≤ ((G.1 a 7).toInt) - 1 ∧ x21.toInt = 1) ∨ (¬ (((G.1 a 6).toInt) ≠ 0 ∧ 0 ≤ p0.toInt ∧ p0.toInt ≤ ((G.1 a 7).toInt) - 1) ∧ x21.toInt = 0))
    (c24 : x21.toInt ≠ 0)
    (z34 : 0 ≤ ((G31.1 a 16).toInt) ∧ ((G31.1 a 16).toInt) ≤ 12)
    (I36_0 : 0 ≤ l2_36.toInt ∧ l2_36.toInt ≤ ((G31.1 a 16).toInt))
    (I36_1 : (0 : Int) ≤ l2_36.toInt)
    (hm36 : 2147483648 - l2_36.toInt < (((N36) + 1 : Nat) : Int))
    (c41 : ((G31.1 a 16).toInt) ≤ l2_36.toInt)
    (c_G129_F_a_3 : G129.2.1 (F a 3) = G.2.1 (F a 3))
    (c_G192_F_a_1 : G192.2.1 (F a 1) = G146.2.1 (F a 1)) :
    RM (G192.2.1 (F a 1)) (0) := by
  first | exact CPd.rm oq146 (by decide) (by rw [c_G129_F_a_3]; exact hmk p0.toInt (by omega) (by omega)) | (rw [c_G192_F_a_1]; exact CPd.rm oq146 (by decide) (by rw [c_G129_F_a_3]; exact hmk p0.toInt (by omega) (by omega)))
theorem v_X11_back_196_12 {F : Nat → Nat → Nat} (a : Nat) (G : XG) (G192 : XG)
    (hM : RM (G.2.1 (F a 1)) (0))
    (hB : RM (G.2.1 (F a 2)) 0)
    (c_G192_F_a_2 : G192.2.1 (F a 2) = G.2.1 (F a 2)) :
    RM (G192.2.1 (F a 2)) 0 := by simp only [c_G192_F_a_2]; assumption
theorem v_X11_back_199_13 {K : Nat → Nat} {F : Nat → Nat → Nat} (a : Nat) (G : XG) (G6 : XG) (G31 : XG) (G129 : XG) (G146 : XG) (G159 : XG) (G172 : XG) (x191 : Int32) (G196 : XG) (l2_36 : Int32) (p0 : Int32) (x196 : Int32) (x21 : Int32) (N36 : Nat)
    (ha : K a = 13)
    (oq31 : ORm (G.2.1 (F a 10)) (G31.2.1 (F a 15)) ((G31.1 a 16).toInt) 12)
    (oq31a : G31.2.2.2 = G6.2.2.2)
    (pk : ∀ j : Int, 0 ≤ j → j < l2_36.toInt → (aI (G.2.1 (F a 10)) (10 * aI (G31.2.1 (F a 15)) j + 6) = 0 → ∀ s : Int, sbj (aI (G.2.1 (F a 10)) (10 * aI (G31.2.1 (F a 15)) j + 0)) s → fzq (G.2.1 (F a 10)) (mw (G.2.1 (F a 3)) (360 * p0.toInt)) (aI (G31.2.1 (F a 15)) j) s = 0))
    (oq129a : G129.2.2.2 = G31.2.2.2)
    (oq146 : CPd (G129.2.1 (F a 3)) (G129.2.1 (F a 1)) (G146.2.1 (F a 1)) ((360 : Int) * p0.toInt) (0 : Int) 360)
    (oq159a : G159.2.2.2 = G146.2.2.2)
    (oq172a : G172.2.2.2 = G159.2.2.2)
    (e191 : x191.toInt = (p0.toInt + (1 : Int)))
    (oq196 : pL G196 F a = if ((G.1 a 6).toInt) = 0 then [] else fuO (G.2.1 (F a 10)) (mw (G146.2.1 (F a 1)) 0) (mw (G.2.1 (F a 2)) 0) 1)
    (oq196a : x196.toInt = ((G196.1 a 19).toInt))
    (m0 : 0 ≤ ((G.1 a 7).toInt) ∧ ((G.1 a 7).toInt) ≤ 8)
    (t6 : ((G6.1 a 20).toInt) = -2147483648 ∧ ((G6.1 a 21).toInt) = -2147483648 ∧ ((G6.1 a 23).toInt) = 0)
    (f55 : ((G.1 a 6).toInt) = 0 ∨ ((G.1 a 6).toInt) = 1)
    (c13 : ((G.1 a 6).toInt) ≠ 0)
    (t21 : (((G.1 a 6).toInt) ≠ 0 ∧ 0 ≤ p0.toInt ∧ p0.toInt ≤ ((G.1 a 7).toInt) - 1 ∧ x21.toInt = 1) ∨ (¬ (((G.1 a 6).toInt) ≠ 0 ∧ 0 ≤ p0.toInt ∧ p0.toInt ≤ ((G.1 a 7).toInt) - 1) ∧ x21.toInt = 0))
    (c24 : x21.toInt ≠ 0)
    (z34 : 0 ≤ ((G31.1 a 16).toInt) ∧ ((G31.1 a 16).toInt) ≤ 12)
    (I36_0 : 0 ≤ l2_36.toInt ∧ l2_36.toInt ≤ ((G31.1 a 16).toInt))
    (I36_1 : (0 : Int) ≤ l2_36.toInt)
    (hm36 : 2147483648 - l2_36.toInt < (((N36) + 1 : Nat) : Int))
    (c41 : ((G31.1 a 16).toInt) ≤ l2_36.toInt)
    (t196 : 0 ≤ x196.toInt ∧ x196.toInt ≤ 2388)
    (c_G129_F_a_3 : G129.2.1 (F a 3) = G.2.1 (F a 3))
    (c_G196_F_a_1 : G196.2.1 (F a 1) = G146.2.1 (F a 1))
    (d_G196_a_7 : G196.1 a 7 = x191) :
    (((G.1 a 6).toInt) = 0 ∧ x196.toInt = -3 ∧ (G196.2.1 (F a 1) = (G.2.1 (F a 1)) ∧ ((G196.1 a 7).toInt) = ((G.1 a 7).toInt))) ∨ (((G.1 a 6).toInt) ≠ 0 ∧ ¬ (0 ≤ p0.toInt ∧ p0.toInt < ((G.1 a 7).toInt)) ∧ x196.toInt = -2 ∧ (G196.2.1 (F a 1) = (G.2.1 (F a 1)) ∧ ((G196.1 a 7).toInt) = ((G.1 a 7).toInt))) ∨ (((G.1 a 6).toInt) ≠ 0 ∧ (0 ≤ p0.toInt ∧ p0.toInt < ((G.1 a 7).toInt)) ∧ ((PFl (G.2.1 (F a 10)) (mw (G.2.1 (F a 3)) (360 * p0.toInt)) ∧ x196.toInt = -5 ∧ (G196.2.1 (F a 1) = (G.2.1 (F a 1)) ∧ ((G196.1 a 7).toInt) = ((G.1 a 7).toInt))) ∨ (¬ PFl (G.2.1 (F a 10)) (mw (G.2.1 (F a 3)) (360 * p0.toInt)) ∧ mw (G196.2.1 (F a 1)) 0 = (mw (G.2.1 (F a 3)) (360 * p0.toInt)) ∧ ((G196.1 a 7).toInt) = p0.toInt + 1 ∧ x196.toInt = (((fuO (G.2.1 (F a 10)) (mw (G196.2.1 (F a 1)) 0) (mw (G.2.1 (F a 2)) 0) 1).length : Nat) : Int)))) := by
  refine Or.inr (Or.inr ⟨by omega, by omega, Or.inr ⟨?_, by rw [c_G196_F_a_1, ← c_G129_F_a_3]; exact CPd.vwm oq146 (by decide), by rw [d_G196_a_7]; omega, (by
    have e := pL_len G196 F a
    rw [oq196, if_neg (by omega)] at e
    rw [c_G196_F_a_1]
    omega)⟩⟩)
  rintro ⟨q, s, hq, hk, hl, hs, hf⟩
  have hp : prM (G.2.1 (F a 10)) q.toNat = true := by
    unfold prM
    rw [show ((q.toNat : Nat) : Int) = q from by omega]
    exact decide_eq_true hk
  obtain ⟨i, h1, h2⟩ := ordN_all (rk := rkM (G.2.1 (F a 10))) (show q.toNat < 12 by omega) hp
  have e1 : aI (G31.2.1 (F a 15)) (i : Int) = q := by
    have := oq31.2 i h1
    rw [h2] at this
    show (G31.2.1 (F a 15) ((i : Int)).toNat).toInt = q
    rw [show ((i : Int)).toNat = i from by omega, this]
    omega
  have e2 := oq31.1
  have := pk (i : Int) (by omega) (by omega)
  rw [e1] at this
  rw [this hl s hs] at hf
  exact absurd hf (by decide)
theorem v_X11_back_199_14 {K : Nat → Nat} {F : Nat → Nat → Nat} (a : Nat) (G : XG) (G6 : XG) (G31 : XG) (G129 : XG) (G146 : XG) (G159 : XG) (G172 : XG) (G196 : XG) (l2_36 : Int32) (p0 : Int32) (x196 : Int32) (x21 : Int32) (N36 : Nat)
    (ha : K a = 13)
    (hmk : ∀ m : Int, 0 ≤ m → m < ((G.1 a 7).toInt) → RM (G.2.1 (F a 3)) (360 * m))
    (oq31a : G31.2.2.2 = G6.2.2.2)
    (oq129a : G129.2.2.2 = G31.2.2.2)
    (oq146 : CPd (G129.2.1 (F a 3)) (G129.2.1 (F a 1)) (G146.2.1 (F a 1)) ((360 : Int) * p0.toInt) (0 : Int) 360)
    (oq159a : G159.2.2.2 = G146.2.2.2)
    (oq172a : G172.2.2.2 = G159.2.2.2)
    (oq196a : x196.toInt = ((G196.1 a 19).toInt))
    (m0 : 0 ≤ ((G.1 a 7).toInt) ∧ ((G.1 a 7).toInt) ≤ 8)
    (t6 : ((G6.1 a 20).toInt) = -2147483648 ∧ ((G6.1 a 21).toInt) = -2147483648 ∧ ((G6.1 a 23).toInt) = 0)
    (f55 : ((G.1 a 6).toInt) = 0 ∨ ((G.1 a 6).toInt) = 1)
    (c13 : ((G.1 a 6).toInt) ≠ 0)
    (t21 : (((G.1 a 6).toInt) ≠ 0 ∧ 0 ≤ p0.toInt ∧ p0.toInt ≤ ((G.1 a 7).toInt) - 1 ∧ x21.toInt = 1) ∨ (¬ (((G.1 a 6).toInt) ≠ 0 ∧ 0 ≤ p0.toInt ∧ p0.toInt ≤ ((G.1 a 7).toInt) - 1) ∧ x21.toInt = 0))
    (c24 : x21.toInt ≠ 0)
    (z34 : 0 ≤ ((G31.1 a 16).toInt) ∧ ((G31.1 a 16).toInt) ≤ 12)
    (I36_0 : 0 ≤ l2_36.toInt ∧ l2_36.toInt ≤ ((G31.1 a 16).toInt))
    (I36_1 : (0 : Int) ≤ l2_36.toInt)
    (hm36 : 2147483648 - l2_36.toInt < (((N36) + 1 : Nat) : Int))
    (c41 : ((G31.1 a 16).toInt) ≤ l2_36.toInt)
    (t196 : 0 ≤ x196.toInt ∧ x196.toInt ≤ 2388)
    (c_G129_F_a_3 : G129.2.1 (F a 3) = G.2.1 (F a 3))
    (c_G196_F_a_1 : G196.2.1 (F a 1) = G146.2.1 (F a 1)) :
    RM (G196.2.1 (F a 1)) 0 := by
  rw [c_G196_F_a_1]; exact CPd.rm oq146 (by decide) (by rw [c_G129_F_a_3]; exact hmk p0.toInt (by omega) (by omega))
theorem v_X11_back_116_15 {K : Nat → Nat} {F : Nat → Nat → Nat} (a : Nat) (G : XG) (G6 : XG) (G31 : XG) (l2_36 : Int32) (p0 : Int32) (l4_58 : Int32) (x21 : Int32) (N36 : Nat) (N58 : Nat)
    (ha : K a = 13)
    (oq31a : G31.2.2.2 = G6.2.2.2)
    (pk : ∀ j : Int, 0 ≤ j → j < l2_36.toInt → (aI (G.2.1 (F a 10)) (10 * aI (G31.2.1 (F a 15)) j + 6) = 0 → ∀ s : Int, sbj (aI (G.2.1 (F a 10)) (10 * aI (G31.2.1 (F a 15)) j + 0)) s → fzq (G.2.1 (F a 10)) (mw (G.2.1 (F a 3)) (360 * p0.toInt)) (aI (G31.2.1 (F a 15)) j) s = 0))
    (ps : ∀ s : Int, sF (aI (G.2.1 (F a 10)) (10 * (aI (G31.2.1 (F a 15)) (l2_36.toInt)) + 0)) ≤ s → s < l4_58.toInt → fzq (G.2.1 (F a 10)) (mw (G.2.1 (F a 3)) (360 * p0.toInt)) (aI (G31.2.1 (F a 15)) (l2_36.toInt)) s = 0)
    (m0 : 0 ≤ ((G.1 a 7).toInt) ∧ ((G.1 a 7).toInt) ≤ 8)
    (t6 : ((G6.1 a 20).toInt) = -2147483648 ∧ ((G6.1 a 21).toInt) = -2147483648 ∧ ((G6.1 a 23).toInt) = 0)
    (f42 : ((G.1 a 6).toInt) = 0 ∨ ((G.1 a 6).toInt) = 1)
    (c13 : ((G.1 a 6).toInt) ≠ 0)
    (t21 : (((G.1 a 6).toInt) ≠ 0 ∧ 0 ≤ p0.toInt ∧ p0.toInt ≤ ((G.1 a 7).toInt) - 1 ∧ x21.toInt = 1) ∨ (¬ (((G.1 a 6).toInt) ≠ 0 ∧ 0 ≤ p0.toInt ∧ p0.toInt ≤ ((G.1 a 7).toInt) - 1) ∧ x21.toInt = 0))
    (c24 : x21.toInt ≠ 0)
    (z34 : 0 ≤ ((G31.1 a 16).toInt) ∧ ((G31.1 a 16).toInt) ≤ 12)
    (I36_0 : 0 ≤ l2_36.toInt ∧ l2_36.toInt ≤ ((G31.1 a 16).toInt))
    (I36_1 : (0 : Int) ≤ l2_36.toInt)
    (hm36 : 2147483648 - l2_36.toInt < (((N36) + 1 : Nat) : Int))
    (c41 : ¬ (((G31.1 a 16).toInt) ≤ l2_36.toInt))
    (z51 : 0 ≤ (aI (G31.2.1 (F a 15)) (l2_36.toInt)) ∧ (aI (G31.2.1 (F a 15)) (l2_36.toInt)) ≤ 11 ∧ (aI (G.2.1 (F a 10)) (10 * (aI (G31.2.1 (F a 15)) (l2_36.toInt)) + 0)) ≠ -1)
    (z51a : (((aI (G.2.1 (F a 10)) (10 * (aI (G31.2.1 (F a 15)) (l2_36.toInt)) + 0)) = 2 ∨ (aI (G.2.1 (F a 10)) (10 * (aI (G31.2.1 (F a 15)) (l2_36.toInt)) + 0)) = 4 ∨ (aI (G.2.1 (F a 10)) (10 * (aI (G31.2.1 (F a 15)) (l2_36.toInt)) + 0)) = 5) ∧ (sF (aI (G.2.1 (F a 10)) (10 * (aI (G31.2.1 (F a 15)) (l2_36.toInt)) + 0))) = 0 ∧ (sL (aI (G.2.1 (F a 10)) (10 * (aI (G31.2.1 (F a 15)) (l2_36.toInt)) + 0))) = 29) ∨ (¬ ((aI (G.2.1 (F a 10)) (10 * (aI (G31.2.1 (F a 15)) (l2_36.toInt)) + 0)) = 2 ∨ (aI (G.2.1 (F a 10)) (10 * (aI (G31.2.1 (F a 15)) (l2_36.toInt)) + 0)) = 4 ∨ (aI (G.2.1 (F a 10)) (10 * (aI (G31.2.1 (F a 15)) (l2_36.toInt)) + 0)) = 5) ∧ (sF (aI (G.2.1 (F a 10)) (10 * (aI (G31.2.1 (F a 15)) (l2_36.toInt)) + 0))) = -99 ∧ (sL (aI (G.2.1 (F a 10)) (10 * (aI (G31.2.1 (F a 15)) (l2_36.toInt)) + 0))) = 99))
    (I58_0 : (sF (aI (G.2.1 (F a 10)) (10 * (aI (G31.2.1 (F a 15)) (l2_36.toInt)) + 0))) ≤ l4_58.toInt ∧ l4_58.toInt ≤ (sL (aI (G.2.1 (F a 10)) (10 * (aI (G31.2.1 (F a 15)) (l2_36.toInt)) + 0))) + 1)
    (hm58 : 2147483648 - l4_58.toInt < (((N58) + 1 : Nat) : Int))
    (c65 : (sL (aI (G.2.1 (F a 10)) (10 * (aI (G31.2.1 (F a 15)) (l2_36.toInt)) + 0))) < l4_58.toInt) :
    ∀ j : Int, 0 ≤ j → j < (l2_36.toInt + 1) → (aI (G.2.1 (F a 10)) (10 * aI (G31.2.1 (F a 15)) j + 6) = 0 → ∀ s : Int, sbj (aI (G.2.1 (F a 10)) (10 * aI (G31.2.1 (F a 15)) j + 0)) s → fzq (G.2.1 (F a 10)) (mw (G.2.1 (F a 3)) (360 * p0.toInt)) (aI (G31.2.1 (F a 15)) j) s = 0) := by
  intro j h1 h2
  by_cases e : j = l2_36.toInt
  · subst e
    intro hl s hs
    have := sbj_FL.mp hs
    exact ps s this.1 (by omega)
  · exact pk j h1 (by omega)
theorem v_X11_back_116_16 {K : Nat → Nat} {F : Nat → Nat → Nat} (a : Nat) (G : XG) (G6 : XG) (G31 : XG) (l2_36 : Int32) (p0 : Int32) (l4_58 : Int32) (x21 : Int32) (N36 : Nat) (N58 : Nat)
    (ha : K a = 13)
    (oq31a : G31.2.2.2 = G6.2.2.2)
    (pk : ∀ j : Int, 0 ≤ j → j < l2_36.toInt → (aI (G.2.1 (F a 10)) (10 * aI (G31.2.1 (F a 15)) j + 6) = 0 → ∀ s : Int, sbj (aI (G.2.1 (F a 10)) (10 * aI (G31.2.1 (F a 15)) j + 0)) s → fzq (G.2.1 (F a 10)) (mw (G.2.1 (F a 3)) (360 * p0.toInt)) (aI (G31.2.1 (F a 15)) j) s = 0))
    (m0 : 0 ≤ ((G.1 a 7).toInt) ∧ ((G.1 a 7).toInt) ≤ 8)
    (t6 : ((G6.1 a 20).toInt) = -2147483648 ∧ ((G6.1 a 21).toInt) = -2147483648 ∧ ((G6.1 a 23).toInt) = 0)
    (f43 : ((G.1 a 6).toInt) = 0 ∨ ((G.1 a 6).toInt) = 1)
    (c13 : ((G.1 a 6).toInt) ≠ 0)
    (t21 : (((G.1 a 6).toInt) ≠ 0 ∧ 0 ≤ p0.toInt ∧ p0.toInt ≤ ((G.1 a 7).toInt) - 1 ∧ x21.toInt = 1) ∨ (¬ (((G.1 a 6).toInt) ≠ 0 ∧ 0 ≤ p0.toInt ∧ p0.toInt ≤ ((G.1 a 7).toInt) - 1) ∧ x21.toInt = 0))
    (c24 : x21.toInt ≠ 0)
    (z34 : 0 ≤ ((G31.1 a 16).toInt) ∧ ((G31.1 a 16).toInt) ≤ 12)
    (I36_0 : 0 ≤ l2_36.toInt ∧ l2_36.toInt ≤ ((G31.1 a 16).toInt))
    (I36_1 : (0 : Int) ≤ l2_36.toInt)
    (hm36 : 2147483648 - l2_36.toInt < (((N36) + 1 : Nat) : Int))
    (c41 : ¬ (((G31.1 a 16).toInt) ≤ l2_36.toInt))
    (z51 : 0 ≤ (aI (G31.2.1 (F a 15)) (l2_36.toInt)) ∧ (aI (G31.2.1 (F a 15)) (l2_36.toInt)) ≤ 11 ∧ (aI (G.2.1 (F a 10)) (10 * (aI (G31.2.1 (F a 15)) (l2_36.toInt)) + 0)) ≠ -1)
    (z51a : (((aI (G.2.1 (F a 10)) (10 * (aI (G31.2.1 (F a 15)) (l2_36.toInt)) + 0)) = 2 ∨ (aI (G.2.1 (F a 10)) (10 * (aI (G31.2.1 (F a 15)) (l2_36.toInt)) + 0)) = 4 ∨ (aI (G.2.1 (F a 10)) (10 * (aI (G31.2.1 (F a 15)) (l2_36.toInt)) + 0)) = 5) ∧ (sF (aI (G.2.1 (F a 10)) (10 * (aI (G31.2.1 (F a 15)) (l2_36.toInt)) + 0))) = 0 ∧ (sL (aI (G.2.1 (F a 10)) (10 * (aI (G31.2.1 (F a 15)) (l2_36.toInt)) + 0))) = 29) ∨ (¬ ((aI (G.2.1 (F a 10)) (10 * (aI (G31.2.1 (F a 15)) (l2_36.toInt)) + 0)) = 2 ∨ (aI (G.2.1 (F a 10)) (10 * (aI (G31.2.1 (F a 15)) (l2_36.toInt)) + 0)) = 4 ∨ (aI (G.2.1 (F a 10)) (10 * (aI (G31.2.1 (F a 15)) (l2_36.toInt)) + 0)) = 5) ∧ (sF (aI (G.2.1 (F a 10)) (10 * (aI (G31.2.1 (F a 15)) (l2_36.toInt)) + 0))) = -99 ∧ (sL (aI (G.2.1 (F a 10)) (10 * (aI (G31.2.1 (F a 15)) (l2_36.toInt)) + 0))) = 99))
    (I58_0 : (sF (aI (G.2.1 (F a 10)) (10 * (aI (G31.2.1 (F a 15)) (l2_36.toInt)) + 0))) ≤ l4_58.toInt ∧ l4_58.toInt ≤ (sL (aI (G.2.1 (F a 10)) (10 * (aI (G31.2.1 (F a 15)) (l2_36.toInt)) + 0))) + 1)
    (hm58 : 2147483648 - l4_58.toInt < (((N58) + 1 : Nat) : Int))
    (c65 : ¬ ((sL (aI (G.2.1 (F a 10)) (10 * (aI (G31.2.1 (F a 15)) (l2_36.toInt)) + 0))) < l4_58.toInt))
    (c75 : (aI (G.2.1 (F a 10)) (10 * (aI (G31.2.1 (F a 15)) (l2_36.toInt)) + 6)) ≠ 0) :
    ∀ j : Int, 0 ≤ j → j < (l2_36.toInt + 1) → (aI (G.2.1 (F a 10)) (10 * aI (G31.2.1 (F a 15)) j + 6) = 0 → ∀ s : Int, sbj (aI (G.2.1 (F a 10)) (10 * aI (G31.2.1 (F a 15)) j + 0)) s → fzq (G.2.1 (F a 10)) (mw (G.2.1 (F a 3)) (360 * p0.toInt)) (aI (G31.2.1 (F a 15)) j) s = 0) := by
  intro j h1 h2
  by_cases e : j = l2_36.toInt
  · subst e
    intro hl
    exact absurd hl (by omega)
  · exact pk j h1 (by omega)
theorem v_X11_back_91_17 {F : Nat → Nat → Nat} (a : Nat) (G : XG) (G31 : XG)
    (hR : RV (G.2.1 (F a 10)))
    (c_G31_F_a_10 : G31.2.1 (F a 10) = G.2.1 (F a 10)) :
    RV (G31.2.1 (F a 10)) := by simp only [c_G31_F_a_10]; assumption
theorem v_X11_back_91_18 {K : Nat → Nat} {F : Nat → Nat → Nat} (a : Nat) (G : XG) (G6 : XG) (G31 : XG) (l2_36 : Int32) (p0 : Int32) (l4_58 : Int32) (x21 : Int32) (N36 : Nat) (N58 : Nat)
    (ha : K a = 13)
    (hmk : ∀ m : Int, 0 ≤ m → m < ((G.1 a 7).toInt) → RM (G.2.1 (F a 3)) (360 * m))
    (oq31a : G31.2.2.2 = G6.2.2.2)
    (m0 : 0 ≤ ((G.1 a 7).toInt) ∧ ((G.1 a 7).toInt) ≤ 8)
    (t6 : ((G6.1 a 20).toInt) = -2147483648 ∧ ((G6.1 a 21).toInt) = -2147483648 ∧ ((G6.1 a 23).toInt) = 0)
    (f43 : ((G.1 a 6).toInt) = 0 ∨ ((G.1 a 6).toInt) = 1)
    (c13 : ((G.1 a 6).toInt) ≠ 0)
    (t21 : (((G.1 a 6).toInt) ≠ 0 ∧ 0 ≤ p0.toInt ∧ p0.toInt ≤ ((G.1 a 7).toInt) - 1 ∧ x21.toInt = 1) ∨ (¬ (((G.1 a 6).toInt) ≠ 0 ∧ 0 ≤ p0.toInt ∧ p0.toInt ≤ ((G.1 a 7).toInt) - 1) ∧ x21.toInt = 0))
    (c24 : x21.toInt ≠ 0)
    (z34 : 0 ≤ ((G31.1 a 16).toInt) ∧ ((G31.1 a 16).toInt) ≤ 12)
    (I36_0 : 0 ≤ l2_36.toInt ∧ l2_36.toInt ≤ ((G31.1 a 16).toInt))
    (I36_1 : (0 : Int) ≤ l2_36.toInt)
    (hm36 : 2147483648 - l2_36.toInt < (((N36) + 1 : Nat) : Int))
    (c41 : ¬ (((G31.1 a 16).toInt) ≤ l2_36.toInt))
    (z51 : 0 ≤ (aI (G31.2.1 (F a 15)) (l2_36.toInt)) ∧ (aI (G31.2.1 (F a 15)) (l2_36.toInt)) ≤ 11 ∧ (aI (G.2.1 (F a 10)) (10 * (aI (G31.2.1 (F a 15)) (l2_36.toInt)) + 0)) ≠ -1)
    (z51a : (((aI (G.2.1 (F a 10)) (10 * (aI (G31.2.1 (F a 15)) (l2_36.toInt)) + 0)) = 2 ∨ (aI (G.2.1 (F a 10)) (10 * (aI (G31.2.1 (F a 15)) (l2_36.toInt)) + 0)) = 4 ∨ (aI (G.2.1 (F a 10)) (10 * (aI (G31.2.1 (F a 15)) (l2_36.toInt)) + 0)) = 5) ∧ (sF (aI (G.2.1 (F a 10)) (10 * (aI (G31.2.1 (F a 15)) (l2_36.toInt)) + 0))) = 0 ∧ (sL (aI (G.2.1 (F a 10)) (10 * (aI (G31.2.1 (F a 15)) (l2_36.toInt)) + 0))) = 29) ∨ (¬ ((aI (G.2.1 (F a 10)) (10 * (aI (G31.2.1 (F a 15)) (l2_36.toInt)) + 0)) = 2 ∨ (aI (G.2.1 (F a 10)) (10 * (aI (G31.2.1 (F a 15)) (l2_36.toInt)) + 0)) = 4 ∨ (aI (G.2.1 (F a 10)) (10 * (aI (G31.2.1 (F a 15)) (l2_36.toInt)) + 0)) = 5) ∧ (sF (aI (G.2.1 (F a 10)) (10 * (aI (G31.2.1 (F a 15)) (l2_36.toInt)) + 0))) = -99 ∧ (sL (aI (G.2.1 (F a 10)) (10 * (aI (G31.2.1 (F a 15)) (l2_36.toInt)) + 0))) = 99))
    (I58_0 : (sF (aI (G.2.1 (F a 10)) (10 * (aI (G31.2.1 (F a 15)) (l2_36.toInt)) + 0))) ≤ l4_58.toInt ∧ l4_58.toInt ≤ (sL (aI (G.2.1 (F a 10)) (10 * (aI (G31.2.1 (F a 15)) (l2_36.toInt)) + 0))) + 1)
    (hm58 : 2147483648 - l4_58.toInt < (((N58) + 1 : Nat) : Int))
    (c65 : ¬ ((sL (aI (G.2.1 (F a 10)) (10 * (aI (G31.2.1 (F a 15)) (l2_36.toInt)) + 0))) < l4_58.toInt))
    (c75 : ¬ ((aI (G.2.1 (F a 10)) (10 * (aI (G31.2.1 (F a 15)) (l2_36.toInt)) + 6)) ≠ 0))
    (c_G31_F_a_3 : G31.2.1 (F a 3) = G.2.1 (F a 3)) :
    RM (G31.2.1 (F a 3)) ((360 : Int) * p0.toInt) := by
  rw [c_G31_F_a_3]; exact hmk p0.toInt (by omega) (by omega)
theorem v_X11_back_110_19 {K : Nat → Nat} {F : Nat → Nat → Nat} (a : Nat) (G : XG) (G6 : XG) (G31 : XG) (l2_36 : Int32) (p0 : Int32) (l4_58 : Int32) (x21 : Int32) (N36 : Nat) (N58 : Nat) (x91 : Int32)
    (ha : K a = 13)
    (oq31a : G31.2.2.2 = G6.2.2.2)
    (ps : ∀ s : Int, sF (aI (G.2.1 (F a 10)) (10 * (aI (G31.2.1 (F a 15)) (l2_36.toInt)) + 0)) ≤ s → s < l4_58.toInt → fzq (G.2.1 (F a 10)) (mw (G.2.1 (F a 3)) (360 * p0.toInt)) (aI (G31.2.1 (F a 15)) (l2_36.toInt)) s = 0)
    (m0 : 0 ≤ ((G.1 a 7).toInt) ∧ ((G.1 a 7).toInt) ≤ 8)
    (t6 : ((G6.1 a 20).toInt) = -2147483648 ∧ ((G6.1 a 21).toInt) = -2147483648 ∧ ((G6.1 a 23).toInt) = 0)
    (f44 : ((G.1 a 6).toInt) = 0 ∨ ((G.1 a 6).toInt) = 1)
    (c13 : ((G.1 a 6).toInt) ≠ 0)
    (t21 : (((G.1 a 6).toInt) ≠ 0 ∧ 0 ≤ p0.toInt ∧ p0.toInt ≤ ((G.1 a 7).toInt) - 1 ∧ x21.toInt = 1) ∨ (¬ (((G.1 a 6).toInt) ≠ 0 ∧ 0 ≤ p0.toInt ∧ p0.toInt ≤ ((G.1 a 7).toInt) - 1) ∧ x21.toInt = 0))
    (c24 : x21.toInt ≠ 0)
    (z34 : 0 ≤ ((G31.1 a 16).toInt) ∧ ((G31.1 a 16).toInt) ≤ 12)
    (I36_0 : 0 ≤ l2_36.toInt ∧ l2_36.toInt ≤ ((G31.1 a 16).toInt))
    (I36_1 : (0 : Int) ≤ l2_36.toInt)
    (hm36 : 2147483648 - l2_36.toInt < (((N36) + 1 : Nat) : Int))
    (c41 : ¬ (((G31.1 a 16).toInt) ≤ l2_36.toInt))
    (z51 : 0 ≤ (aI (G31.2.1 (F a 15)) (l2_36.toInt)) ∧ (aI (G31.2.1 (F a 15)) (l2_36.toInt)) ≤ 11 ∧ (aI (G.2.1 (F a 10)) (10 * (aI (G31.2.1 (F a 15)) (l2_36.toInt)) + 0)) ≠ -1)
    (z51a : (((aI (G.2.1 (F a 10)) (10 * (aI (G31.2.1 (F a 15)) (l2_36.toInt)) + 0)) = 2 ∨ (aI (G.2.1 (F a 10)) (10 * (aI (G31.2.1 (F a 15)) (l2_36.toInt)) + 0)) = 4 ∨ (aI (G.2.1 (F a 10)) (10 * (aI (G31.2.1 (F a 15)) (l2_36.toInt)) + 0)) = 5) ∧ (sF (aI (G.2.1 (F a 10)) (10 * (aI (G31.2.1 (F a 15)) (l2_36.toInt)) + 0))) = 0 ∧ (sL (aI (G.2.1 (F a 10)) (10 * (aI (G31.2.1 (F a 15)) (l2_36.toInt)) + 0))) = 29) ∨ (¬ ((aI (G.2.1 (F a 10)) (10 * (aI (G31.2.1 (F a 15)) (l2_36.toInt)) + 0)) = 2 ∨ (aI (G.2.1 (F a 10)) (10 * (aI (G31.2.1 (F a 15)) (l2_36.toInt)) + 0)) = 4 ∨ (aI (G.2.1 (F a 10)) (10 * (aI (G31.2.1 (F a 15)) (l2_36.toInt)) + 0)) = 5) ∧ (sF (aI (G.2.1 (F a 10)) (10 * (aI (G31.2.1 (F a 15)) (l2_36.toInt)) + 0))) = -99 ∧ (sL (aI (G.2.1 (F a 10)) (10 * (aI (G31.2.1 (F a 15)) (l2_36.toInt)) + 0))) = 99))
    (I58_0 : (sF (aI (G.2.1 (F a 10)) (10 * (aI (G31.2.1 (F a 15)) (l2_36.toInt)) + 0))) ≤ l4_58.toInt ∧ l4_58.toInt ≤ (sL (aI (G.2.1 (F a 10)) (10 * (aI (G31.2.1 (F a 15)) (l2_36.toInt)) + 0))) + 1)
    (hm58 : 2147483648 - l4_58.toInt < (((N58) + 1 : Nat) : Int))
    (c65 : ¬ ((sL (aI (G.2.1 (F a 10)) (10 * (aI (G31.2.1 (F a 15)) (l2_36.toInt)) + 0))) < l4_58.toInt))
    (c75 : ¬ ((aI (G.2.1 (F a 10)) (10 * (aI (G31.2.1 (F a 15)) (l2_36.toInt)) + 6)) ≠ 0))
    (t91 : x91.toInt = (flq (mw (G.2.1 (F a 3)) (360 * p0.toInt)) (aI (G.2.1 (F a 10)) (10 * (aI (G31.2.1 (F a 15)) (l2_36.toInt)) + 0)) (aI (G.2.1 (F a 10)) (10 * (aI (G31.2.1 (F a 15)) (l2_36.toInt)) + 1)) (aI (G.2.1 (F a 10)) (10 * (aI (G31.2.1 (F a 15)) (l2_36.toInt)) + 2)) (aI (G.2.1 (F a 10)) (10 * (aI (G31.2.1 (F a 15)) (l2_36.toInt)) + 4)) (aI (G.2.1 (F a 10)) (10 * (aI (G31.2.1 (F a 15)) (l2_36.toInt)) + 5)) (l4_58.toInt) (stt (mw (G.2.1 (F a 3)) (360 * p0.toInt)) (aI (G.2.1 (F a 10)) (10 * (aI (G31.2.1 (F a 15)) (l2_36.toInt)) + 0)) (aI (G.2.1 (F a 10)) (10 * (aI (G31.2.1 (F a 15)) (l2_36.toInt)) + 1)) (aI (G.2.1 (F a 10)) (10 * (aI (G31.2.1 (F a 15)) (l2_36.toInt)) + 2)) (aI (G.2.1 (F a 10)) (10 * (aI (G31.2.1 (F a 15)) (l2_36.toInt)) + 3)) (l4_58.toInt))))
    (f60 : x91.toInt = 0 ∨ x91.toInt = 1)
    (c94 : x91.toInt = 0) :
    ∀ s : Int, sF (aI (G.2.1 (F a 10)) (10 * (aI (G31.2.1 (F a 15)) (l2_36.toInt)) + 0)) ≤ s → s < (l4_58.toInt + 1) → fzq (G.2.1 (F a 10)) (mw (G.2.1 (F a 3)) (360 * p0.toInt)) (aI (G31.2.1 (F a 15)) (l2_36.toInt)) s = 0 := by
  intro s h1 h2
  by_cases e : s = l4_58.toInt
  · subst e
    have t9 : flq _ _ _ _ _ _ _ _ = 0 := t91.symm.trans c94
    exact t9
  · exact ps s h1 (by omega)
theorem v_X11_back_106_20 {K : Nat → Nat} {F : Nat → Nat → Nat} (a : Nat) (G : XG) (G6 : XG) (G31 : XG) (G101 : XG) (l2_36 : Int32) (p0 : Int32) (l4_58 : Int32) (x21 : Int32) (N36 : Nat) (N58 : Nat) (x91 : Int32)
    (ha : K a = 13)
    (oq31a : G31.2.2.2 = G6.2.2.2)
    (m0 : 0 ≤ ((G.1 a 7).toInt) ∧ ((G.1 a 7).toInt) ≤ 8)
    (t6 : ((G6.1 a 20).toInt) = -2147483648 ∧ ((G6.1 a 21).toInt) = -2147483648 ∧ ((G6.1 a 23).toInt) = 0)
    (f44 : ((G.1 a 6).toInt) = 0 ∨ ((G.1 a 6).toInt) = 1)
    (c13 : ((G.1 a 6).toInt) ≠ 0)
    (t21 : (((G.1 a 6).toInt) ≠ 0 ∧ 0 ≤ p0.toInt ∧ p0.toInt ≤ ((G.1 a 7).toInt) - 1 ∧ x21.toInt = 1) ∨ (¬ (((G.1 a 6).toInt) ≠ 0 ∧ 0 ≤ p0.toInt ∧ p0.toInt ≤ ((G.1 a 7).toInt) - 1) ∧ x21.toInt = 0))
    (c24 : x21.toInt ≠ 0)
    (z34 : 0 ≤ ((G31.1 a 16).toInt) ∧ ((G31.1 a 16).toInt) ≤ 12)
    (I36_0 : 0 ≤ l2_36.toInt ∧ l2_36.toInt ≤ ((G31.1 a 16).toInt))
    (I36_1 : (0 : Int) ≤ l2_36.toInt)
    (hm36 : 2147483648 - l2_36.toInt < (((N36) + 1 : Nat) : Int))
    (c41 : ¬ (((G31.1 a 16).toInt) ≤ l2_36.toInt))
    (z51 : 0 ≤ (aI (G31.2.1 (F a 15)) (l2_36.toInt)) ∧ (aI (G31.2.1 (F a 15)) (l2_36.toInt)) ≤ 11 ∧ (aI (G.2.1 (F a 10)) (10 * (aI (G31.2.1 (F a 15)) (l2_36.toInt)) + 0)) ≠ -1)
    (z51a : (((aI (G.2.1 (F a 10)) (10 * (aI (G31.2.1 (F a 15)) (l2_36.toInt)) + 0)) = 2 ∨ (aI (G.2.1 (F a 10)) (10 * (aI (G31.2.1 (F a 15)) (l2_36.toInt)) + 0)) = 4 ∨ (aI (G.2.1 (F a 10)) (10 * (aI (G31.2.1 (F a 15)) (l2_36.toInt)) + 0)) = 5) ∧ (sF (aI (G.2.1 (F a 10)) (10 * (aI (G31.2.1 (F a 15)) (l2_36.toInt)) + 0))) = 0 ∧ (sL (aI (G.2.1 (F a 10)) (10 * (aI (G31.2.1 (F a 15)) (l2_36.toInt)) + 0))) = 29) ∨ (¬ ((aI (G.2.1 (F a 10)) (10 * (aI (G31.2.1 (F a 15)) (l2_36.toInt)) + 0)) = 2 ∨ (aI (G.2.1 (F a 10)) (10 * (aI (G31.2.1 (F a 15)) (l2_36.toInt)) + 0)) = 4 ∨ (aI (G.2.1 (F a 10)) (10 * (aI (G31.2.1 (F a 15)) (l2_36.toInt)) + 0)) = 5) ∧ (sF (aI (G.2.1 (F a 10)) (10 * (aI (G31.2.1 (F a 15)) (l2_36.toInt)) + 0))) = -99 ∧ (sL (aI (G.2.1 (F a 10)) (10 * (aI (G31.2.1 (F a 15)) (l2_36.toInt)) + 0))) = 99))
    (I58_0 : (sF (aI (G.2.1 (F a 10)) (10 * (aI (G31.2.1 (F a 15)) (l2_36.toInt)) + 0))) ≤ l4_58.toInt ∧ l4_58.toInt ≤ (sL (aI (G.2.1 (F a 10)) (10 * (aI (G31.2.1 (F a 15)) (l2_36.toInt)) + 0))) + 1)
    (hm58 : 2147483648 - l4_58.toInt < (((N58) + 1 : Nat) : Int))
    (c65 : ¬ ((sL (aI (G.2.1 (F a 10)) (10 * (aI (G31.2.1 (F a 15)) (l2_36.toInt)) + 0))) < l4_58.toInt))
    (c75 : ¬ ((aI (G.2.1 (F a 10)) (10 * (aI (G31.2.1 (F a 15)) (l2_36.toInt)) + 6)) ≠ 0))
    (t91 : x91.toInt = (flq (mw (G.2.1 (F a 3)) (360 * p0.toInt)) (aI (G.2.1 (F a 10)) (10 * (aI (G31.2.1 (F a 15)) (l2_36.toInt)) + 0)) (aI (G.2.1 (F a 10)) (10 * (aI (G31.2.1 (F a 15)) (l2_36.toInt)) + 1)) (aI (G.2.1 (F a 10)) (10 * (aI (G31.2.1 (F a 15)) (l2_36.toInt)) + 2)) (aI (G.2.1 (F a 10)) (10 * (aI (G31.2.1 (F a 15)) (l2_36.toInt)) + 4)) (aI (G.2.1 (F a 10)) (10 * (aI (G31.2.1 (F a 15)) (l2_36.toInt)) + 5)) (l4_58.toInt) (stt (mw (G.2.1 (F a 3)) (360 * p0.toInt)) (aI (G.2.1 (F a 10)) (10 * (aI (G31.2.1 (F a 15)) (l2_36.toInt)) + 0)) (aI (G.2.1 (F a 10)) (10 * (aI (G31.2.1 (F a 15)) (l2_36.toInt)) + 1)) (aI (G.2.1 (F a 10)) (10 * (aI (G31.2.1 (F a 15)) (l2_36.toInt)) + 2)) (aI (G.2.1 (F a 10)) (10 * (aI (G31.2.1 (F a 15)) (l2_36.toInt)) + 3)) (l4_58.toInt))))
    (f60 : x91.toInt = 0 ∨ x91.toInt = 1)
    (c94 : ¬ (x91.toInt = 0))
    (t101 : ((G101.1 a 20).toInt) = (aI (G31.2.1 (F a 15)) (l2_36.toInt)) ∧ ((G101.1 a 21).toInt) = l4_58.toInt ∧ 0 ≤ ((G101.1 a 23).toInt) ∧ ((G101.1 a 23).toInt) ≤ 24)
    (c_G101_F_a_1 : G101.2.1 (F a 1) = G.2.1 (F a 1))
    (d_G101_a_7 : G101.1 a 7 = G.1 a 7) :
    (((G.1 a 6).toInt) = 0 ∧ (-5 : Int) = -3 ∧ (G101.2.1 (F a 1) = (G.2.1 (F a 1)) ∧ ((G101.1 a 7).toInt) = ((G.1 a 7).toInt))) ∨ (((G.1 a 6).toInt) ≠ 0 ∧ ¬ (0 ≤ p0.toInt ∧ p0.toInt < ((G.1 a 7).toInt)) ∧ (-5 : Int) = -2 ∧ (G101.2.1 (F a 1) = (G.2.1 (F a 1)) ∧ ((G101.1 a 7).toInt) = ((G.1 a 7).toInt))) ∨ (((G.1 a 6).toInt) ≠ 0 ∧ (0 ≤ p0.toInt ∧ p0.toInt < ((G.1 a 7).toInt)) ∧ ((PFl (G.2.1 (F a 10)) (mw (G.2.1 (F a 3)) (360 * p0.toInt)) ∧ (-5 : Int) = -5 ∧ (G101.2.1 (F a 1) = (G.2.1 (F a 1)) ∧ ((G101.1 a 7).toInt) = ((G.1 a 7).toInt))) ∨ (¬ PFl (G.2.1 (F a 10)) (mw (G.2.1 (F a 3)) (360 * p0.toInt)) ∧ mw (G101.2.1 (F a 1)) 0 = (mw (G.2.1 (F a 3)) (360 * p0.toInt)) ∧ ((G101.1 a 7).toInt) = p0.toInt + 1 ∧ (-5 : Int) = (((fuO (G.2.1 (F a 10)) (mw (G101.2.1 (F a 1)) 0) (mw (G.2.1 (F a 2)) 0) 1).length : Nat) : Int)))) := by
  have h01 := flq01 (mw (G.2.1 (F a 3)) (360 * p0.toInt)) (aI (G.2.1 (F a 10)) (10 * aI (G31.2.1 (F a 15)) (l2_36.toInt) + 0)) (aI (G.2.1 (F a 10)) (10 * aI (G31.2.1 (F a 15)) (l2_36.toInt) + 1)) (aI (G.2.1 (F a 10)) (10 * aI (G31.2.1 (F a 15)) (l2_36.toInt) + 2)) (aI (G.2.1 (F a 10)) (10 * aI (G31.2.1 (F a 15)) (l2_36.toInt) + 4)) (aI (G.2.1 (F a 10)) (10 * aI (G31.2.1 (F a 15)) (l2_36.toInt) + 5)) l4_58.toInt (stt (mw (G.2.1 (F a 3)) (360 * p0.toInt)) (aI (G.2.1 (F a 10)) (10 * aI (G31.2.1 (F a 15)) (l2_36.toInt) + 0)) (aI (G.2.1 (F a 10)) (10 * aI (G31.2.1 (F a 15)) (l2_36.toInt) + 1)) (aI (G.2.1 (F a 10)) (10 * aI (G31.2.1 (F a 15)) (l2_36.toInt) + 2)) (aI (G.2.1 (F a 10)) (10 * aI (G31.2.1 (F a 15)) (l2_36.toInt) + 3)) l4_58.toInt)
  refine Or.inr (Or.inr ⟨by omega, by omega, Or.inl ⟨⟨aI (G31.2.1 (F a 15)) (l2_36.toInt), l4_58.toInt, by omega, by omega, by omega, sbj_FL.mpr (by omega), ?_⟩, rfl, by rw [c_G101_F_a_1], by rw [d_G101_a_7]⟩⟩)
  show flq _ _ _ _ _ _ _ _ = 1
  omega
theorem v_X11_back_106_21 {F : Nat → Nat → Nat} (a : Nat) (G : XG) (G101 : XG)
    (hM : RM (G.2.1 (F a 1)) (0))
    (c_G101_F_a_1 : G101.2.1 (F a 1) = G.2.1 (F a 1)) :
    RM (G101.2.1 (F a 1)) 0 := by
  rw [c_G101_F_a_1]; exact hM
theorem v_X11_back_56_22 {K : Nat → Nat} {F : Nat → Nat → Nat} (a : Nat) (G : XG) (G6 : XG) (G31 : XG) (l2_36 : Int32) (p0 : Int32) (x21 : Int32) (N36 : Nat)
    (ha : K a = 13)
    (oq31a : G31.2.2.2 = G6.2.2.2)
    (m0 : 0 ≤ ((G.1 a 7).toInt) ∧ ((G.1 a 7).toInt) ≤ 8)
    (t6 : ((G6.1 a 20).toInt) = -2147483648 ∧ ((G6.1 a 21).toInt) = -2147483648 ∧ ((G6.1 a 23).toInt) = 0)
    (f39 : ((G.1 a 6).toInt) = 0 ∨ ((G.1 a 6).toInt) = 1)
    (c13 : ((G.1 a 6).toInt) ≠ 0)
    (t21 : (((G.1 a 6).toInt) ≠ 0 ∧ 0 ≤ p0.toInt ∧ p0.toInt ≤ ((G.1 a 7).toInt) - 1 ∧ x21.toInt = 1) ∨ (¬ (((G.1 a 6).toInt) ≠ 0 ∧ 0 ≤ p0.toInt ∧ p0.toInt ≤ ((G.1 a 7).toInt) - 1) ∧ x21.toInt = 0))
    (c24 : x21.toInt ≠ 0)
    (z34 : 0 ≤ ((G31.1 a 16).toInt) ∧ ((G31.1 a 16).toInt) ≤ 12)
    (I36_0 : 0 ≤ l2_36.toInt ∧ l2_36.toInt ≤ ((G31.1 a 16).toInt))
    (I36_1 : (0 : Int) ≤ l2_36.toInt)
    (hm36 : 2147483648 - l2_36.toInt < (((N36) + 1 : Nat) : Int))
    (c41 : ¬ (((G31.1 a 16).toInt) ≤ l2_36.toInt))
    (z51 : 0 ≤ (aI (G31.2.1 (F a 15)) (l2_36.toInt)) ∧ (aI (G31.2.1 (F a 15)) (l2_36.toInt)) ≤ 11 ∧ (aI (G.2.1 (F a 10)) (10 * (aI (G31.2.1 (F a 15)) (l2_36.toInt)) + 0)) ≠ -1)
    (z51a : (((aI (G.2.1 (F a 10)) (10 * (aI (G31.2.1 (F a 15)) (l2_36.toInt)) + 0)) = 2 ∨ (aI (G.2.1 (F a 10)) (10 * (aI (G31.2.1 (F a 15)) (l2_36.toInt)) + 0)) = 4 ∨ (aI (G.2.1 (F a 10)) (10 * (aI (G31.2.1 (F a 15)) (l2_36.toInt)) + 0)) = 5) ∧ (sF (aI (G.2.1 (F a 10)) (10 * (aI (G31.2.1 (F a 15)) (l2_36.toInt)) + 0))) = 0 ∧ (sL (aI (G.2.1 (F a 10)) (10 * (aI (G31.2.1 (F a 15)) (l2_36.toInt)) + 0))) = 29) ∨ (¬ ((aI (G.2.1 (F a 10)) (10 * (aI (G31.2.1 (F a 15)) (l2_36.toInt)) + 0)) = 2 ∨ (aI (G.2.1 (F a 10)) (10 * (aI (G31.2.1 (F a 15)) (l2_36.toInt)) + 0)) = 4 ∨ (aI (G.2.1 (F a 10)) (10 * (aI (G31.2.1 (F a 15)) (l2_36.toInt)) + 0)) = 5) ∧ (sF (aI (G.2.1 (F a 10)) (10 * (aI (G31.2.1 (F a 15)) (l2_36.toInt)) + 0))) = -99 ∧ (sL (aI (G.2.1 (F a 10)) (10 * (aI (G31.2.1 (F a 15)) (l2_36.toInt)) + 0))) = 99)) :
    ∀ s : Int, sF (aI (G.2.1 (F a 10)) (10 * (aI (G31.2.1 (F a 15)) (l2_36.toInt)) + 0)) ≤ s → s < (sF (aI (G.2.1 (F a 10)) (10 * (aI (G31.2.1 (F a 15)) (l2_36.toInt)) + 0))) → fzq (G.2.1 (F a 10)) (mw (G.2.1 (F a 3)) (360 * p0.toInt)) (aI (G31.2.1 (F a 15)) (l2_36.toInt)) s = 0 := by
  intro s h1 h2; exact absurd h1 (by omega)
theorem v_X11_back_35_23 {K : Nat → Nat} {F : Nat → Nat → Nat} (a : Nat) (G : XG) (G6 : XG) (G31 : XG) (p0 : Int32) (x21 : Int32)
    (ha : K a = 13)
    (oq31a : G31.2.2.2 = G6.2.2.2)
    (m0 : 0 ≤ ((G.1 a 7).toInt) ∧ ((G.1 a 7).toInt) ≤ 8)
    (t6 : ((G6.1 a 20).toInt) = -2147483648 ∧ ((G6.1 a 21).toInt) = -2147483648 ∧ ((G6.1 a 23).toInt) = 0)
    (f36 : ((G.1 a 6).toInt) = 0 ∨ ((G.1 a 6).toInt) = 1)
    (c13 : ((G.1 a 6).toInt) ≠ 0)
    (t21 : (((G.1 a 6).toInt) ≠ 0 ∧ 0 ≤ p0.toInt ∧ p0.toInt ≤ ((G.1 a 7).toInt) - 1 ∧ x21.toInt = 1) ∨ (¬ (((G.1 a 6).toInt) ≠ 0 ∧ 0 ≤ p0.toInt ∧ p0.toInt ≤ ((G.1 a 7).toInt) - 1) ∧ x21.toInt = 0))
    (c24 : x21.toInt ≠ 0)
    (z34 : 0 ≤ ((G31.1 a 16).toInt) ∧ ((G31.1 a 16).toInt) ≤ 12) :
    ∀ j : Int, 0 ≤ j → j < (0 : Int) → (aI (G.2.1 (F a 10)) (10 * aI (G31.2.1 (F a 15)) j + 6) = 0 → ∀ s : Int, sbj (aI (G.2.1 (F a 10)) (10 * aI (G31.2.1 (F a 15)) j + 0)) s → fzq (G.2.1 (F a 10)) (mw (G.2.1 (F a 3)) (360 * p0.toInt)) (aI (G31.2.1 (F a 15)) j) s = 0) := by
  intro j h1 h2; exact absurd h1 (by omega)
theorem v_X11_back_29_24 {K : Nat → Nat} {F : Nat → Nat → Nat} (a : Nat) (G : XG) (G6 : XG) (p0 : Int32) (x21 : Int32)
    (ha : K a = 13)
    (m0 : 0 ≤ ((G.1 a 7).toInt) ∧ ((G.1 a 7).toInt) ≤ 8)
    (t6 : ((G6.1 a 20).toInt) = -2147483648 ∧ ((G6.1 a 21).toInt) = -2147483648 ∧ ((G6.1 a 23).toInt) = 0)
    (f33 : ((G.1 a 6).toInt) = 0 ∨ ((G.1 a 6).toInt) = 1)
    (c13 : ((G.1 a 6).toInt) ≠ 0)
    (t21 : (((G.1 a 6).toInt) ≠ 0 ∧ 0 ≤ p0.toInt ∧ p0.toInt ≤ ((G.1 a 7).toInt) - 1 ∧ x21.toInt = 1) ∨ (¬ (((G.1 a 6).toInt) ≠ 0 ∧ 0 ≤ p0.toInt ∧ p0.toInt ≤ ((G.1 a 7).toInt) - 1) ∧ x21.toInt = 0))
    (c24 : ¬ (x21.toInt ≠ 0))
    (c_G6_F_a_1 : G6.2.1 (F a 1) = G.2.1 (F a 1))
    (d_G6_a_7 : G6.1 a 7 = G.1 a 7) :
    (((G.1 a 6).toInt) = 0 ∧ (-2 : Int) = -3 ∧ (G6.2.1 (F a 1) = (G.2.1 (F a 1)) ∧ ((G6.1 a 7).toInt) = ((G.1 a 7).toInt))) ∨ (((G.1 a 6).toInt) ≠ 0 ∧ ¬ (0 ≤ p0.toInt ∧ p0.toInt < ((G.1 a 7).toInt)) ∧ (-2 : Int) = -2 ∧ (G6.2.1 (F a 1) = (G.2.1 (F a 1)) ∧ ((G6.1 a 7).toInt) = ((G.1 a 7).toInt))) ∨ (((G.1 a 6).toInt) ≠ 0 ∧ (0 ≤ p0.toInt ∧ p0.toInt < ((G.1 a 7).toInt)) ∧ ((PFl (G.2.1 (F a 10)) (mw (G.2.1 (F a 3)) (360 * p0.toInt)) ∧ (-2 : Int) = -5 ∧ (G6.2.1 (F a 1) = (G.2.1 (F a 1)) ∧ ((G6.1 a 7).toInt) = ((G.1 a 7).toInt))) ∨ (¬ PFl (G.2.1 (F a 10)) (mw (G.2.1 (F a 3)) (360 * p0.toInt)) ∧ mw (G6.2.1 (F a 1)) 0 = (mw (G.2.1 (F a 3)) (360 * p0.toInt)) ∧ ((G6.1 a 7).toInt) = p0.toInt + 1 ∧ (-2 : Int) = (((fuO (G.2.1 (F a 10)) (mw (G6.2.1 (F a 1)) 0) (mw (G.2.1 (F a 2)) 0) 1).length : Nat) : Int)))) := by
  exact Or.inr (Or.inl ⟨by omega, by omega, rfl, by rw [c_G6_F_a_1], by rw [d_G6_a_7]⟩)
theorem v_X11_back_29_25 {F : Nat → Nat → Nat} (a : Nat) (G : XG) (G6 : XG)
    (hM : RM (G.2.1 (F a 1)) (0))
    (c_G6_F_a_1 : G6.2.1 (F a 1) = G.2.1 (F a 1)) :
    RM (G6.2.1 (F a 1)) 0 := by
  rw [c_G6_F_a_1]; exact hM
theorem v_X11_back_18_26 {K : Nat → Nat} {F : Nat → Nat → Nat} (a : Nat) (G : XG) (G6 : XG) (p0 : Int32)
    (ha : K a = 13)
    (m0 : 0 ≤ ((G.1 a 7).toInt) ∧ ((G.1 a 7).toInt) ≤ 8)
    (t6 : ((G6.1 a 20).toInt) = -2147483648 ∧ ((G6.1 a 21).toInt) = -2147483648 ∧ ((G6.1 a 23).toInt) = 0)
    (f33 : ((G.1 a 6).toInt) = 0 ∨ ((G.1 a 6).toInt) = 1)
    (c13 : ¬ (((G.1 a 6).toInt) ≠ 0))
    (c_G6_F_a_1 : G6.2.1 (F a 1) = G.2.1 (F a 1))
    (d_G6_a_7 : G6.1 a 7 = G.1 a 7) :
    (((G.1 a 6).toInt) = 0 ∧ (-3 : Int) = -3 ∧ (G6.2.1 (F a 1) = (G.2.1 (F a 1)) ∧ ((G6.1 a 7).toInt) = ((G.1 a 7).toInt))) ∨ (((G.1 a 6).toInt) ≠ 0 ∧ ¬ (0 ≤ p0.toInt ∧ p0.toInt < ((G.1 a 7).toInt)) ∧ (-3 : Int) = -2 ∧ (G6.2.1 (F a 1) = (G.2.1 (F a 1)) ∧ ((G6.1 a 7).toInt) = ((G.1 a 7).toInt))) ∨ (((G.1 a 6).toInt) ≠ 0 ∧ (0 ≤ p0.toInt ∧ p0.toInt < ((G.1 a 7).toInt)) ∧ ((PFl (G.2.1 (F a 10)) (mw (G.2.1 (F a 3)) (360 * p0.toInt)) ∧ (-3 : Int) = -5 ∧ (G6.2.1 (F a 1) = (G.2.1 (F a 1)) ∧ ((G6.1 a 7).toInt) = ((G.1 a 7).toInt))) ∨ (¬ PFl (G.2.1 (F a 10)) (mw (G.2.1 (F a 3)) (360 * p0.toInt)) ∧ mw (G6.2.1 (F a 1)) 0 = (mw (G.2.1 (F a 3)) (360 * p0.toInt)) ∧ ((G6.1 a 7).toInt) = p0.toInt + 1 ∧ (-3 : Int) = (((fuO (G.2.1 (F a 10)) (mw (G6.2.1 (F a 1)) 0) (mw (G.2.1 (F a 2)) 0) 1).length : Nat) : Int)))) := by
  exact Or.inl ⟨by omega, rfl, by rw [c_G6_F_a_1], by rw [d_G6_a_7]⟩
theorem v_X11_back_18_27 {F : Nat → Nat → Nat} (a : Nat) (G : XG) (G6 : XG)
    (hM : RM (G.2.1 (F a 1)) (0))
    (c_G6_F_a_1 : G6.2.1 (F a 1) = G.2.1 (F a 1)) :
    RM (G6.2.1 (F a 1)) 0 := by
  rw [c_G6_F_a_1]; exact hM
theorem z_X11_back_1 (a0 : Int) (h0 : -2147483648 ≤ a0 ∧ a0 < 2147483648) : ¬ (2147483648 - a0 < ((0 : Nat) : Int)) := by omega
theorem z_X11_back_2 (a0 : Int) (a1 : Int) (a2 : Int) (a3 : Int) (a4 : Int) (h0 : 0 ≤ a4 ∧ a4 ≤ 8) (h1 : (a3 ≠ 0 ∧ 0 ≤ a0 ∧ a0 ≤ a4 - 1 ∧ a2 = 1) ∨ (¬ (a3 ≠ 0 ∧ 0 ≤ a0 ∧ a0 ≤ a4 - 1) ∧ a2 = 0)) (h2 : a2 ≠ 0) (h3 : a1 = ((360 : Int) * a0) ∨ ((360 : Int) * a0) < -2147483648 ∨ 2147483648 ≤ ((360 : Int) * a0)) : a1 = ((360 : Int) * a0) := by omega
theorem z_X11_back_3 (a0 : Int) (a1 : Int) (a2 : Int) (a3 : Int) (h0 : 0 ≤ a3 ∧ a3 ≤ 8) (h1 : (a2 ≠ 0 ∧ 0 ≤ a0 ∧ a0 ≤ a3 - 1 ∧ a1 = 1) ∨ (¬ (a2 ≠ 0 ∧ 0 ≤ a0 ∧ a0 ≤ a3 - 1) ∧ a1 = 0)) (h2 : a1 ≠ 0) : 0 ≤ ((360 : Int) * a0) ∧ ((360 : Int) * a0) ≤ 2520 := by omega
theorem z_X11_back_4 (a0 : Int) (a1 : Int) (a2 : Int) (a3 : Int) (a4 : Int) (h0 : 0 ≤ a4 ∧ a4 ≤ 8) (h1 : (a3 ≠ 0 ∧ 0 ≤ a0 ∧ a0 ≤ a4 - 1 ∧ a2 = 1) ∨ (¬ (a3 ≠ 0 ∧ 0 ≤ a0 ∧ a0 ≤ a4 - 1) ∧ a2 = 0)) (h2 : a2 ≠ 0) (h3 : a1 = (a0 + (1 : Int)) ∨ (a0 + (1 : Int)) < -2147483648 ∨ 2147483648 ≤ (a0 + (1 : Int))) : a1 = (a0 + (1 : Int)) := by omega
theorem z_X11_back_5 (a0 : Int) (a1 : Int) (a2 : Int) (h0 : a0 = -2147483648 ∧ a1 = -2147483648 ∧ a2 = 0) : (0 ≤ a2 ∧ a2 ≤ 24) := by omega
theorem z_X11_back_6 (a0 : Int) (a1 : Int) (h0 : 0 ≤ a1 ∧ a1 ≤ 12) (h1 : 0 ≤ a0 ∧ a0 ≤ a1) (h2 : ¬ (a1 ≤ a0)) : 0 ≤ a0 ∧ a0 < ((12 : Nat) : Int) := by omega
theorem z_X11_back_7 (a0 : Int) (a1 : Int) (h0 : 0 ≤ a0 ∧ a0 ≤ a1) (h1 : ¬ (a1 ≤ a0)) : 0 ≤ a0 ∧ a0 < a1 := by omega
theorem z_X11_back_8 (a0 : Int) (h0 : 0 ≤ a0) (h1 : a0 ≤ 11) : 0 ≤ a0 ∧ a0 ≤ 11 := by omega
theorem z_X11_back_11 (a0 : Int) (a1 : Int) (a2 : Int) (h0 : 0 ≤ a2 ∧ a2 ≤ 12) (h1 : 0 ≤ a0 ∧ a0 ≤ a2) (h2 : a1 = (a0 + 1) ∨ (a0 + 1) < -2147483648 ∨ 2147483648 ≤ (a0 + 1)) : a1 = (a0 + 1) := by omega
theorem z_X11_back_12 (a0 : Int) (a1 : Int) (h0 : 0 ≤ a0 ∧ a0 ≤ a1) (h1 : ¬ (a1 ≤ a0)) : 0 ≤ (a0 + 1) ∧ (a0 + 1) ≤ a1 := by omega
theorem z_X11_back_13 (a0 : Int) (a1 : Int) (h0 : 0 ≤ a0 ∧ a0 ≤ a1) : (0 : Int) ≤ (a0 + 1) := by omega
theorem z_X11_back_14 (a0 : Int) (a1 : Nat) (h0 : 2147483648 - a0 < ((a1 + 1 : Nat) : Int)) : 2147483648 - (a0 + 1) < ((a1 : Nat) : Int) := by omega
theorem z_X11_back_20 (a0 : Int) (a1 : Int) (a2 : Int) (a3 : Int) (a4 : Int) (h0 : 0 ≤ a4 ∧ a4 ≤ 8) (h1 : (a3 ≠ 0 ∧ 0 ≤ a0 ∧ a0 ≤ a4 - 1 ∧ a1 = 1) ∨ (¬ (a3 ≠ 0 ∧ 0 ≤ a0 ∧ a0 ≤ a4 - 1) ∧ a1 = 0)) (h2 : a1 ≠ 0) (h3 : a2 = ((360 : Int) * a0) ∨ ((360 : Int) * a0) < -2147483648 ∨ 2147483648 ≤ ((360 : Int) * a0)) : a2 = ((360 : Int) * a0) := by omega
theorem z_X11_back_24 (a0 : Int) (a1 : Int) (a2 : Int) (h0 : a1 ≤ a0 ∧ a0 ≤ a2 + 1) (h1 : ¬ (a2 < a0)) : a1 ≤ a0 ∧ a0 ≤ a2 := by omega
theorem z_X11_back_25 (a0 : Int) (a1 : Int) (a2 : Int) (a3 : Int) (a4 : Int) (h0 : ((a2 = 2 ∨ a2 = 4 ∨ a2 = 5) ∧ a3 = 0 ∧ a4 = 29) ∨ (¬ (a2 = 2 ∨ a2 = 4 ∨ a2 = 5) ∧ a3 = -99 ∧ a4 = 99)) (h1 : ¬ (a4 < a0)) (h2 : a1 = (a0 + 1) ∨ (a0 + 1) < -2147483648 ∨ 2147483648 ≤ (a0 + 1)) (h3 : -2147483648 ≤ a0 ∧ a0 < 2147483648) : a1 = (a0 + 1) := by omega
theorem z_X11_back_26 (a0 : Int) (a1 : Int) (a2 : Int) (h0 : a1 ≤ a0 ∧ a0 ≤ a2 + 1) (h1 : ¬ (a2 < a0)) : a1 ≤ (a0 + 1) ∧ (a0 + 1) ≤ a2 + 1 := by omega
theorem z_X11_back_29 (a0 : Int) (a1 : Int) (a2 : Int) (a3 : Int) (h0 : ((a1 = 2 ∨ a1 = 4 ∨ a1 = 5) ∧ a2 = 0 ∧ a3 = 29) ∨ (¬ (a1 = 2 ∨ a1 = 4 ∨ a1 = 5) ∧ a2 = -99 ∧ a3 = 99)) (h1 : a2 ≤ a0 ∧ a0 ≤ a3 + 1) (h2 : ¬ (a3 < a0)) : -99 ≤ a0 ∧ a0 ≤ 99 := by omega
theorem z_X11_back_30 (a0 : Int) (a1 : Int) (a2 : Int) (a3 : Int) (a4 : Int) (h0 : a1 = a4 ∧ a2 = a0 ∧ 0 ≤ a3 ∧ a3 ≤ 24) : (0 ≤ a3 ∧ a3 ≤ 24) := by omega
theorem z_X11_back_31 (a0 : Int) (a1 : Int) (a2 : Int) (h0 : ((a0 = 2 ∨ a0 = 4 ∨ a0 = 5) ∧ a1 = 0 ∧ a2 = 29) ∨ (¬ (a0 = 2 ∨ a0 = 4 ∨ a0 = 5) ∧ a1 = -99 ∧ a2 = 99)) : a1 ≤ a1 ∧ a1 ≤ a2 + 1 := by omega
theorem z_X11_back_32 (a0 : Int) (a1 : Int) (a2 : Int) (h0 : ((a0 = 2 ∨ a0 = 4 ∨ a0 = 5) ∧ a1 = 0 ∧ a2 = 29) ∨ (¬ (a0 = 2 ∨ a0 = 4 ∨ a0 = 5) ∧ a1 = -99 ∧ a2 = 99)) : 2147483648 - a1 < ((4294967297 : Nat) : Int) := by omega
theorem z_X11_back_33 (a0 : Int) (h0 : 0 ≤ a0 ∧ a0 ≤ 12) : 0 ≤ (0 : Int) ∧ (0 : Int) ≤ a0 := by omega
abbrev rm_X11_back : Room := { frames := 6, cells := 0, slots := 0, locals := 142 }
set_option maxHeartbeats 4000000 in
set_option maxRecDepth 100000 in
theorem c_X11_back (l : Launch) (E : XE) (K : Nat → Nat) (F : Nat → Nat → Nat) (G : XG) (a : Nat) (p0 : Int32) (ha : K a = 13) (m0 : 0 ≤ ((G.1 a 7).toInt) ∧ ((G.1 a 7).toInt) ≤ 8) (hR : RV (G.2.1 (F a 10))) (hM : RM (G.2.1 (F a 1)) (0)) (hB : RM (G.2.1 (F a 2)) 0) (hmk : ∀ m : Int, 0 ≤ m → m < ((G.1 a 7).toInt) → RM (G.2.1 (F a 3)) (360 * m)) : Met l yX11_back (xw yX11_back cX11_back 5 (some .int)) rm_X11_back (va_Pc [.ref a, .int p0] (XP E K F G)) (XQ E (fun v (u : XG) => ∃ r : Int32, v = .int r ∧ XFr [(a, 16), (a, 19), (a, 20), (a, 21), (a, 23), (a, 0), (a, 7)] [F a 15, F a 17, F a 18, F a 11, F a 13, F a 22, F a 12, F a 1, F a 8] [] G u ∧ ((0 ≤ ((u.1 a 23).toInt) ∧ ((u.1 a 23).toInt) ≤ 24)) ∧ ((((G.1 a 6).toInt) = 0 ∧ r.toInt = -3 ∧ (u.2.1 (F a 1) = (G.2.1 (F a 1)) ∧ ((u.1 a 7).toInt) = ((G.1 a 7).toInt))) ∨ (((G.1 a 6).toInt) ≠ 0 ∧ ¬ (0 ≤ p0.toInt ∧ p0.toInt < ((G.1 a 7).toInt)) ∧ r.toInt = -2 ∧ (u.2.1 (F a 1) = (G.2.1 (F a 1)) ∧ ((u.1 a 7).toInt) = ((G.1 a 7).toInt))) ∨ (((G.1 a 6).toInt) ≠ 0 ∧ (0 ≤ p0.toInt ∧ p0.toInt < ((G.1 a 7).toInt)) ∧ ((PFl (G.2.1 (F a 10)) (mw (G.2.1 (F a 3)) (360 * p0.toInt)) ∧ r.toInt = -5 ∧ (u.2.1 (F a 1) = (G.2.1 (F a 1)) ∧ ((u.1 a 7).toInt) = ((G.1 a 7).toInt))) ∨ (¬ PFl (G.2.1 (F a 10)) (mw (G.2.1 (F a 3)) (360 * p0.toInt)) ∧ mw (u.2.1 (F a 1)) 0 = (mw (G.2.1 (F a 3)) (360 * p0.toInt)) ∧ ((u.1 a 7).toInt) = p0.toInt + 1 ∧ r.toInt = (((fuO (G.2.1 (F a 10)) (mw (u.2.1 (F a 1)) 0) (mw (G.2.1 (F a 2)) 0) 1).length : Nat) : Int))))) ∧ (RM (u.2.1 (F a 1)) 0)) (fun u H => TW E K F u H)) 0 0 (xA E) := by
  refine x_enter (by decide) (Nat.le_of_ble_eq_true rfl) ?_
  intro p e s m args below meth c Q S hr hlk hnm hQ hP ls hl
  obtain ⟨hz, hK, hT⟩ := hP
  obtain ⟨hx, hb, -, -, -⟩ := id S
  obtain ⟨H, hT, hS, hgo⟩ : ∃ H : Heap, TW E K F G H ∧ va_S (xA E) s.heap H [] ∧ H = s.heap := ⟨_, hT, va_S.rf, rfl⟩
  rw [← hgo]
  have hl : lv_has ls 5 [(0, .ref a), (1, .int p0)] := hl
  obtain ⟨hk9999, hj9999⟩ := fkX11_15 hT ha
  obtain ⟨hk9999a, hj9999a⟩ := fkX11_17 hT ha
  obtain ⟨hk9999b, hj9999b⟩ := fkX11_18 hT ha
  obtain ⟨hk9999c, hj9999c⟩ := fkX11_11 hT ha
  obtain ⟨hk9999d, hj9999d⟩ := fkX11_13 hT ha
  obtain ⟨hk9999e, hj9999e⟩ := fkX11_22 hT ha
  obtain ⟨hk9999f, hj9999f⟩ := fkX11_12 hT ha
  obtain ⟨hk9999g, hj9999g⟩ := fkX11_1 hT ha
  obtain ⟨hk9999h, hj9999h⟩ := fkX11_8 hT ha
  obtain ⟨hk9999i, hj9999i⟩ := fkX11_10 hT ha
  obtain ⟨hk9999j, hj9999j⟩ := fkX11_2 hT ha
  obtain ⟨hk9999k, hj9999k⟩ := fkX11_3 hT ha
  refine lv_aload_n hx hb dX11_back_0 rfl (lv_at hl 0 rfl) ?_
  refine lv_iconst (v := 0) hx hb dX11_back_1 (by decide) ?_
  refine pX11_0 (v := 0) S hK hT hS ha kf_X11_134 dX11_back_2 (fun H locs hT hS => ?_)
  obtain ⟨G2, hG2⟩ : ∃ GG : XG, GG = dput G a 0 0 := ⟨_, rfl⟩
  rw [← hG2] at hT
  refine lv_aload_n hx hb dX11_back_5 rfl (lv_at hl 0 rfl) ?_
  refine x_cv0 (x_runV (b := a) (As := []) (rest := []) S (c_X11_nothing l E K F G2 a ha) mv_X11_nothing km_X11_231 rfl rfl ⟨Nat.le_of_ble_eq_true rfl, Nat.le_of_ble_eq_true rfl⟩ (rc_13 hK hT ha) hK (fun _ => XP.blind) (fun U hU hW => XP.at hK hz hS hT hU hW) rfl hl.1 (Nat.le_of_ble_eq_true rfl) dX11_back_6 ⟨Nat.le_of_ble_eq_true rfl, Nat.le_of_ble_eq_true rfl⟩) hS ?_
  rintro G6 H locs ⟨hF6, t6⟩ hT hS
  have t6 : ((G6.1 a 20).toInt) = -2147483648 ∧ ((G6.1 a 21).toInt) = -2147483648 ∧ ((G6.1 a 23).toInt) = 0 := t6
  refine lv_aload_n hx hb dX11_back_9 rfl (lv_at hl 0 rfl) ?_
  refine gX11_6 S hK hT ha kf_X11_206 dX11_back_10 (v := (G.1 a 6)) ((hF6.1 _ _ (xnj (by decide) (xnj (by decide) (xnj (by decide) xn0)))).trans (ld_j hG2 (by decide))) (fun hz10 => ?_)
  refine xi_zne (tgt := 19) hx hb (rfl : Int32.toInt (G.1 a 6) = ((G.1 a 6).toInt)) dX11_back_13 (by decide) (fun c13 => ?_) (fun c13 => ?_)
  · refine lv_aload_n hx hb dX11_back_19 rfl (lv_at hl 0 rfl) ?_
    refine lv_iload_n hx hb dX11_back_20 rfl (lv_at hl 1 rfl) ?_
    refine x_clp (x_runV (b := a) (As := [.int p0]) (rest := []) S (c_X11_isMark l E K F G6 H a p0 ha) mv_X11_isMark km_X11_382 rfl rfl ⟨Nat.le_of_ble_eq_true rfl, Nat.le_of_ble_eq_true rfl⟩ (rc_13 hK hT ha) hK (fun _ => XPh.blind) (fun U hU hW => XPh.at hK hz hS hT hU hW) rfl hl.1 (Nat.le_of_ble_eq_true rfl) dX11_back_21 ⟨Nat.le_of_ble_eq_true rfl, Nat.le_of_ble_eq_true rfl⟩) hS ?_
    rintro _ _ locs ⟨x21, rfl, b21, t21⟩ hS
    have t21 : (((G.1 a 6).toInt) ≠ 0 ∧ 0 ≤ p0.toInt ∧ p0.toInt ≤ ((G.1 a 7).toInt) - 1 ∧ x21.toInt = 1) ∨ (¬ (((G.1 a 6).toInt) ≠ 0 ∧ 0 ≤ p0.toInt ∧ p0.toInt ≤ ((G.1 a 7).toInt) - 1) ∧ x21.toInt = 0) := by rw [(show (G6.1 a 6).toInt = ((G.1 a 6).toInt) from (congrArg Int32.toInt ((hF6.1 _ _ (xnj (by decide) (xnj (by decide) (xnj (by decide) xn0)))).trans (ld_j hG2 (by decide)))).trans (rfl : Int32.toInt (G.1 a 6) = ((G.1 a 6).toInt)))] at t21; rw [(show (G6.1 a 7).toInt = ((G.1 a 7).toInt) from (congrArg Int32.toInt ((hF6.1 _ _ (xnj (by decide) (xnj (by decide) (xnj (by decide) xn0)))).trans (ld_j hG2 (by decide)))).trans (rfl : Int32.toInt (G.1 a 7) = ((G.1 a 7).toInt)))] at t21; exact t21
    refine xi_zne (tgt := 30) hx hb (rfl : Int32.toInt x21 = x21.toInt) dX11_back_24 (by decide) (fun c24 => ?_) (fun c24 => ?_)
    · refine lv_aload_n hx hb dX11_back_30 rfl (lv_at hl 0 rfl) ?_
      refine x_cv0 (x_runV (b := a) (As := []) (rest := []) S (c_X11_layOrder l E K F G6 a ha (v_X11_back_31_1 (F := F) a G G6 hR ((hF6.2.1 _ xn0).trans (ld_c hG2)))) mv_X11_layOrder km_X11_200 rfl rfl ⟨Nat.le_of_ble_eq_true rfl, Nat.le_of_ble_eq_true rfl⟩ (rc_13 hK hT ha) hK (fun _ => XP.blind) (fun U hU hW => XP.at hK hz hS hT hU hW) rfl hl.1 (Nat.le_of_ble_eq_true rfl) dX11_back_31 ⟨Nat.le_of_ble_eq_true rfl, Nat.le_of_ble_eq_true rfl⟩) hS ?_
      rintro G31 H locs ⟨hF31, oq31, oq31a⟩ hT hS
      have oq31 : ORm (G.2.1 (F a 10)) (G31.2.1 (F a 15)) ((G31.1 a 16).toInt) 12 := by simp only [(show G6.2.1 (F a 10) = G.2.1 (F a 10) from ((hF6.2.1 _ xn0).trans (ld_c hG2)))] at oq31; exact oq31
      have z34 : 0 ≤ ((G31.1 a 16).toInt) ∧ ((G31.1 a 16).toInt) ≤ 12 := by have h9 := ordN_le (prM (G.2.1 (F a 10))) (rkM (G.2.1 (F a 10))) 12; rw [oq31.1]; omega
      refine lv_iconst (v := 0) hx hb dX11_back_34 (by decide) ?_
      refine lv_istore_n (lv' := [(2, .int 0), (0, .ref a), (1, .int p0)]) hx hb dX11_back_35 rfl hl (by decide) rfl (fun ls hl => ?_)
      have L36 : ∀ (N36 : Nat) (l2_36 : Int32) (H : Heap) (locs : List Loc) (ls : Array Slot), (∀ j : Int, 0 ≤ j → j < l2_36.toInt → (aI (G.2.1 (F a 10)) (10 * aI (G31.2.1 (F a 15)) j + 6) = 0 → ∀ s : Int, sbj (aI (G.2.1 (F a 10)) (10 * aI (G31.2.1 (F a 15)) j + 0)) s → fzq (G.2.1 (F a 10)) (mw (G.2.1 (F a 3)) (360 * p0.toInt)) (aI (G31.2.1 (F a 15)) j) s = 0)) → 0 ≤ l2_36.toInt ∧ l2_36.toInt ≤ ((G31.1 a 16).toInt) → (0 : Int) ≤ l2_36.toInt → 2147483648 - l2_36.toInt < ((N36 : Nat) : Int) → TW E K F G31 H → va_S (xA E) s.heap H locs → lv_has ls 5 [(0, .ref a), (1, .int p0), (2, .int l2_36)] → W p l e rm_X11_back s m args below meth c H locs 0 0 Q (F0 m 36 ls []) := by
        intro N36
        induction N36 with
        | zero =>
          intro l2_36 H locs ls pk I36_0 I36_1 hm36
          exact absurd hm36 (z_X11_back_1 l2_36.toInt (xr l2_36))
        | succ N36 ih36 =>
          intro l2_36 H locs ls pk I36_0 I36_1 hm36 hT hS hl
          refine lv_iload_n hx hb dX11_back_36 rfl (lv_at hl 2 rfl) ?_
          refine lv_aload_n hx hb dX11_back_37 rfl (lv_at hl 0 rfl) ?_
          refine gX11_16 S hK hT ha kf_X11_197 dX11_back_38 (v := (G31.1 a 16)) rfl (?_)
          refine xi_cge (tgt := 119) hx hb (rfl : Int32.toInt l2_36 = l2_36.toInt) (rfl : Int32.toInt (G31.1 a 16) = ((G31.1 a 16).toInt)) dX11_back_41 (by decide) (fun c41 => ?_) (fun c41 => ?_)
          · refine lv_aload_n hx hb dX11_back_119 rfl (lv_at hl 0 rfl) ?_
            refine lv_aload_n hx hb dX11_back_120 rfl (lv_at hl 0 rfl) ?_
            refine gX11_12 S hK hT ha kf_X11_39 dX11_back_121 (fun _ _ => ?_)
            refine lv_aload_n hx hb dX11_back_124 rfl (lv_at hl 0 rfl) ?_
            refine gX11_1 S hK hT ha kf_X11_9 dX11_back_125 (fun _ _ => ?_)
            refine lv_iconst (v := 0) hx hb dX11_back_128 (by decide) ?_
            refine x_cv0 (x_runV (b := a) (As := [.ref (F a 12), .ref (F a 1), .int 0]) (rest := []) S (c_X11_layStates l E K F G31 a (F a 12) (F a 1) 0 ha hk9999f (XO.a hk9999g (by decide)) (v_X11_back_129_2 (F := F) a G G31 hR ((hF31.2.1 _ (xn1 (xne_k hk9999i hk9999 (by decide)) xn0)).trans ((hF6.2.1 _ xn0).trans (ld_c hG2)))) (v_X11_back_129_3 (F := F) a G G31 hM hB ((hF31.2.1 _ (xn1 (xne_k hk9999g hk9999 (by decide)) xn0)).trans ((hF6.2.1 _ xn0).trans (ld_c hG2))))) mv_X11_layStates km_X11_210 rfl rfl ⟨Nat.le_of_ble_eq_true rfl, Nat.le_of_ble_eq_true rfl⟩ (rc_13 hK hT ha) hK (fun _ => XP.blind) (fun U hU hW => XP.at hK hz hS hT hU hW) rfl hl.1 (Nat.le_of_ble_eq_true rfl) dX11_back_129 ⟨Nat.le_of_ble_eq_true rfl, Nat.le_of_ble_eq_true rfl⟩) hS ?_
            rintro G129 H locs ⟨hF129, oq129, oq129a⟩ hT hS
            have oq129 : LSt (G.2.1 (F a 10)) (G129.2.1 (F a 12)) (mw (G.2.1 (F a 1)) (0 : Int)) 12 := by simp only [(show G31.2.1 (F a 10) = G.2.1 (F a 10) from ((hF31.2.1 _ (xn1 (xne_k hk9999i hk9999 (by decide)) xn0)).trans ((hF6.2.1 _ xn0).trans (ld_c hG2)))), (show G31.2.1 (F a 1) = G.2.1 (F a 1) from ((hF31.2.1 _ (xn1 (xne_k hk9999g hk9999 (by decide)) xn0)).trans ((hF6.2.1 _ xn0).trans (ld_c hG2))))] at oq129; exact oq129
            refine lv_aload_n hx hb dX11_back_132 rfl (lv_at hl 0 rfl) ?_
            refine gX11_3 S hK hT ha kf_X11_18 dX11_back_133 (fun _ _ => ?_)
            refine lv_sipush (v := 360) hx hb dX11_back_136 (by decide) ?_
            refine lv_iload_n hx hb dX11_back_139 rfl (lv_at hl 1 rfl) ?_
            refine xi_imul hx hb ((by decide) : Int32.toInt 360 = (360 : Int)) (rfl : Int32.toInt p0 = p0.toInt) dX11_back_140 (fun x140 t140 => ?_)
            have e140 : x140.toInt = ((360 : Int) * p0.toInt) := (z_X11_back_2 p0.toInt x140.toInt x21.toInt ((G.1 a 6).toInt) ((G.1 a 7).toInt) m0 t21 c24 t140)
            refine lv_aload_n hx hb dX11_back_141 rfl (lv_at hl 0 rfl) ?_
            refine gX11_1 S hK hT ha kf_X11_9 dX11_back_142 (fun _ _ => ?_)
            refine lv_iconst (v := 0) hx hb dX11_back_145 (by decide) ?_
            refine x_cv0 (x_runS (As := [.ref (F a 3), .int x140, .ref (F a 1), .int 0]) (rest := []) S (c_X11_copy l E K F G129 (F a 3) x140 (F a 1) 0 (XO.c hk9999k (by rw [(e140 : Int32.toInt x140 = ((360 : Int) * p0.toInt))] <;> exact (z_X11_back_3 p0.toInt x21.toInt ((G.1 a 6).toInt) ((G.1 a 7).toInt) m0 t21 c24))) (XO.a hk9999g (by decide)) (v_X11_back_146_4 (K := K) (F := F) a G2 G G6 G31 G129 l2_36 p0 x140 x21 N36 ha hk9999 hj9999 hk9999a hj9999a hk9999b hj9999b hk9999c hj9999c hk9999d hj9999d hk9999e hj9999e hk9999f hj9999f hk9999g hj9999g hk9999h hj9999h hk9999i hj9999i hk9999j hj9999j hk9999k hj9999k hG2 hF6 hF31 hF129 hR hM hB hmk oq31 oq31a pk oq129 oq129a e140 m0 t6 (xzi hz10) c13 t21 c24 z34 I36_0 I36_1 hm36 c41 ((hF129.2.1 _ (xn1 (xne_k hk9999g hk9999f (by decide)) xn0)).trans ((hF31.2.1 _ (xn1 (xne_k hk9999g hk9999 (by decide)) xn0)).trans ((hF6.2.1 _ xn0).trans (ld_c hG2)))) ((hF129.2.1 _ (xn1 (xne_j hj9999c hj9999f (by first | decide | omega)) xn0)).trans ((hF31.2.1 _ (xn1 (xne_k hk9999c hk9999 (by decide)) xn0)).trans ((hF6.2.1 _ xn0).trans (ld_c hG2)))) ((hF129.2.1 _ (xn1 (xne_j hj9999d hj9999f (by first | decide | omega)) xn0)).trans ((hF31.2.1 _ (xn1 (xne_k hk9999d hk9999 (by decide)) xn0)).trans ((hF6.2.1 _ xn0).trans (ld_c hG2)))) (hF129.2.1 _ (xn1 (xne_k hk9999 hk9999f (by decide)) xn0)) ((hF129.2.1 _ (xn1 (xne_k hk9999a hk9999f (by decide)) xn0)).trans ((hF31.2.1 _ (xn1 (xne_k hk9999a hk9999 (by decide)) xn0)).trans ((hF6.2.1 _ xn0).trans (ld_c hG2)))) ((hF129.2.1 _ (xn1 (xne_k hk9999b hk9999f (by decide)) xn0)).trans ((hF31.2.1 _ (xn1 (xne_k hk9999b hk9999 (by decide)) xn0)).trans ((hF6.2.1 _ xn0).trans (ld_c hG2)))) ((hF129.2.1 _ (xn1 (xne_k hk9999e hk9999f (by decide)) xn0)).trans ((hF31.2.1 _ (xn1 (xne_k hk9999e hk9999 (by decide)) xn0)).trans ((hF6.2.1 _ xn0).trans (ld_c hG2)))) ((hF129.2.1 _ (xn1 (xne_k hk9999k hk9999f (by decide)) xn0)).trans ((hF31.2.1 _ (xn1 (xne_k hk9999k hk9999 (by decide)) xn0)).trans ((hF6.2.1 _ xn0).trans (ld_c hG2)))) ((hF129.2.1 _ (xn1 (xne_k hk9999h hk9999f (by decide)) xn0)).trans ((hF31.2.1 _ (xn1 (xne_k hk9999h hk9999 (by decide)) xn0)).trans ((hF6.2.1 _ xn0).trans (ld_c hG2)))) ((hF31.2.1 _ (xn1 (xne_k hk9999k hk9999 (by decide)) xn0)).trans ((hF6.2.1 _ xn0).trans (ld_c hG2))) ((hF6.2.1 _ xn0).trans (ld_c hG2)) ((hF129.1 _ _ xn0).trans ((hF31.1 _ _ (xnj (by decide) xn0)).trans ((hF6.1 _ _ (xnj (by decide) (xnj (by decide) (xnj (by decide) xn0)))).trans (ld_at hG2)))) (hF129.1 _ _ xn0) ((hF129.1 _ _ xn0).trans ((hF31.1 _ _ (xnj (by decide) xn0)).trans ((hF6.1 _ _ (xnj (by decide) (xnj (by decide) (xnj (by decide) xn0)))).trans (ld_j hG2 (by decide))))) ((hF129.1 _ _ xn0).trans (hF31.1 _ _ (xnj (by decide) xn0))) ((hF129.1 _ _ xn0).trans (hF31.1 _ _ (xnj (by decide) xn0))) ((hF129.1 _ _ xn0).trans (hF31.1 _ _ (xnj (by decide) xn0))) ((hF129.1 _ _ xn0).trans ((hF31.1 _ _ (xnj (by decide) xn0)).trans ((hF6.1 _ _ (xnj (by decide) (xnj (by decide) (xnj (by decide) xn0)))).trans (ld_j hG2 (by decide))))) ((hF6.1 _ _ (xnj (by decide) (xnj (by decide) (xnj (by decide) xn0)))).trans (ld_j hG2 (by decide))))) ms_X11_copy km_X11_309 rfl rfl ⟨Nat.le_of_ble_eq_true rfl, Nat.le_of_ble_eq_true rfl⟩ hK (fun _ => XP.blind) (fun U hU hW => XP.at hK hz hS hT hU hW) rfl hl.1 (Nat.le_of_ble_eq_true rfl) dX11_back_146 ⟨Nat.le_of_ble_eq_true rfl, Nat.le_of_ble_eq_true rfl⟩) hS ?_
            rintro G146 H locs ⟨hF146, oq146⟩ hT hS
            have oq146 : CPd (G129.2.1 (F a 3)) (G129.2.1 (F a 1)) (G146.2.1 (F a 1)) ((360 : Int) * p0.toInt) (0 : Int) 360 := by simp only [(e140 : Int32.toInt x140 = ((360 : Int) * p0.toInt))] at oq146; exact oq146
            refine lv_aload_n hx hb dX11_back_149 rfl (lv_at hl 0 rfl) ?_
            refine lv_aload_n hx hb dX11_back_150 rfl (lv_at hl 0 rfl) ?_
            refine gX11_11 S hK hT ha kf_X11_36 dX11_back_151 (fun _ _ => ?_)
            refine lv_aload_n hx hb dX11_back_154 rfl (lv_at hl 0 rfl) ?_
            refine gX11_1 S hK hT ha kf_X11_9 dX11_back_155 (fun _ _ => ?_)
            refine lv_iconst (v := 0) hx hb dX11_back_158 (by decide) ?_
            refine x_cv0 (x_runV (b := a) (As := [.ref (F a 11), .ref (F a 1), .int 0]) (rest := []) S (c_X11_layStates l E K F G146 a (F a 11) (F a 1) 0 ha hk9999c (XO.a hk9999g (by decide)) (v_X11_back_159_5 (F := F) a G G146 hR ((hF146.2.1 _ (xn1 (xne_k hk9999i hk9999g (by decide)) xn0)).trans ((hF129.2.1 _ (xn1 (xne_k hk9999i hk9999f (by decide)) xn0)).trans ((hF31.2.1 _ (xn1 (xne_k hk9999i hk9999 (by decide)) xn0)).trans ((hF6.2.1 _ xn0).trans (ld_c hG2)))))) (v_X11_back_159_6 (K := K) (F := F) a G G6 G31 G129 G146 l2_36 p0 x21 N36 ha hmk oq31a oq129a oq146 m0 t6 (xzi hz10) c13 t21 c24 z34 I36_0 I36_1 hm36 c41 ((hF129.2.1 _ (xn1 (xne_k hk9999k hk9999f (by decide)) xn0)).trans ((hF31.2.1 _ (xn1 (xne_k hk9999k hk9999 (by decide)) xn0)).trans ((hF6.2.1 _ xn0).trans (ld_c hG2)))))) mv_X11_layStates km_X11_210 rfl rfl ⟨Nat.le_of_ble_eq_true rfl, Nat.le_of_ble_eq_true rfl⟩ (rc_13 hK hT ha) hK (fun _ => XP.blind) (fun U hU hW => XP.at hK hz hS hT hU hW) rfl hl.1 (Nat.le_of_ble_eq_true rfl) dX11_back_159 ⟨Nat.le_of_ble_eq_true rfl, Nat.le_of_ble_eq_true rfl⟩) hS ?_
            rintro G159 H locs ⟨hF159, oq159, oq159a⟩ hT hS
            have oq159 : LSt (G.2.1 (F a 10)) (G159.2.1 (F a 11)) (mw (G146.2.1 (F a 1)) (0 : Int)) 12 := by simp only [(show G146.2.1 (F a 10) = G.2.1 (F a 10) from ((hF146.2.1 _ (xn1 (xne_k hk9999i hk9999g (by decide)) xn0)).trans ((hF129.2.1 _ (xn1 (xne_k hk9999i hk9999f (by decide)) xn0)).trans ((hF31.2.1 _ (xn1 (xne_k hk9999i hk9999 (by decide)) xn0)).trans ((hF6.2.1 _ xn0).trans (ld_c hG2))))))] at oq159; exact oq159
            refine lv_aload_n hx hb dX11_back_162 rfl (lv_at hl 0 rfl) ?_
            refine lv_aload_n hx hb dX11_back_163 rfl (lv_at hl 0 rfl) ?_
            refine gX11_13 S hK hT ha kf_X11_42 dX11_back_164 (fun _ _ => ?_)
            refine lv_aload_n hx hb dX11_back_167 rfl (lv_at hl 0 rfl) ?_
            refine gX11_2 S hK hT ha kf_X11_15 dX11_back_168 (fun _ _ => ?_)
            refine lv_iconst (v := 0) hx hb dX11_back_171 (by decide) ?_
            refine x_cv0 (x_runV (b := a) (As := [.ref (F a 13), .ref (F a 2), .int 0]) (rest := []) S (c_X11_layStates l E K F G159 a (F a 13) (F a 2) 0 ha hk9999d (XO.b hk9999j (by decide)) (v_X11_back_172_7 (F := F) a G G159 hR ((hF159.2.1 _ (xn1 (xne_k hk9999i hk9999c (by decide)) xn0)).trans ((hF146.2.1 _ (xn1 (xne_k hk9999i hk9999g (by decide)) xn0)).trans ((hF129.2.1 _ (xn1 (xne_k hk9999i hk9999f (by decide)) xn0)).trans ((hF31.2.1 _ (xn1 (xne_k hk9999i hk9999 (by decide)) xn0)).trans ((hF6.2.1 _ xn0).trans (ld_c hG2))))))) (v_X11_back_172_8 (F := F) a G G159 hM hB ((hF159.2.1 _ (xn1 (xne_k hk9999j hk9999c (by decide)) xn0)).trans ((hF146.2.1 _ (xn1 (xne_k hk9999j hk9999g (by decide)) xn0)).trans ((hF129.2.1 _ (xn1 (xne_k hk9999j hk9999f (by decide)) xn0)).trans ((hF31.2.1 _ (xn1 (xne_k hk9999j hk9999 (by decide)) xn0)).trans ((hF6.2.1 _ xn0).trans (ld_c hG2)))))))) mv_X11_layStates km_X11_210 rfl rfl ⟨Nat.le_of_ble_eq_true rfl, Nat.le_of_ble_eq_true rfl⟩ (rc_13 hK hT ha) hK (fun _ => XP.blind) (fun U hU hW => XP.at hK hz hS hT hU hW) rfl hl.1 (Nat.le_of_ble_eq_true rfl) dX11_back_172 ⟨Nat.le_of_ble_eq_true rfl, Nat.le_of_ble_eq_true rfl⟩) hS ?_
            rintro G172 H locs ⟨hF172, oq172, oq172a⟩ hT hS
            have oq172 : LSt (G.2.1 (F a 10)) (G172.2.1 (F a 13)) (mw (G.2.1 (F a 2)) (0 : Int)) 12 := by simp only [(show G159.2.1 (F a 10) = G.2.1 (F a 10) from ((hF159.2.1 _ (xn1 (xne_k hk9999i hk9999c (by decide)) xn0)).trans ((hF146.2.1 _ (xn1 (xne_k hk9999i hk9999g (by decide)) xn0)).trans ((hF129.2.1 _ (xn1 (xne_k hk9999i hk9999f (by decide)) xn0)).trans ((hF31.2.1 _ (xn1 (xne_k hk9999i hk9999 (by decide)) xn0)).trans ((hF6.2.1 _ xn0).trans (ld_c hG2))))))), (show G159.2.1 (F a 2) = G.2.1 (F a 2) from ((hF159.2.1 _ (xn1 (xne_k hk9999j hk9999c (by decide)) xn0)).trans ((hF146.2.1 _ (xn1 (xne_k hk9999j hk9999g (by decide)) xn0)).trans ((hF129.2.1 _ (xn1 (xne_k hk9999j hk9999f (by decide)) xn0)).trans ((hF31.2.1 _ (xn1 (xne_k hk9999j hk9999 (by decide)) xn0)).trans ((hF6.2.1 _ xn0).trans (ld_c hG2)))))))] at oq172; exact oq172
            refine lv_aload_n hx hb dX11_back_175 rfl (lv_at hl 0 rfl) ?_
            refine lv_aload_n hx hb dX11_back_176 rfl (lv_at hl 0 rfl) ?_
            refine gX11_12 S hK hT ha kf_X11_39 dX11_back_177 (fun _ _ => ?_)
            refine lv_aload_n hx hb dX11_back_180 rfl (lv_at hl 0 rfl) ?_
            refine gX11_11 S hK hT ha kf_X11_36 dX11_back_181 (fun _ _ => ?_)
            refine lv_iconst (v := 2) hx hb dX11_back_184 (by decide) ?_
            refine x_cv0 (x_runV (b := a) (As := [.ref (F a 12), .ref (F a 11), .int 2]) (rest := []) S (c_X11_moves l E K F G172 a (F a 12) (F a 11) 2 ha hk9999f hk9999c (by decide) (v_X11_back_185_9 (F := F) a G G172 hR ((hF172.2.1 _ (xn1 (xne_k hk9999i hk9999d (by decide)) xn0)).trans ((hF159.2.1 _ (xn1 (xne_k hk9999i hk9999c (by decide)) xn0)).trans ((hF146.2.1 _ (xn1 (xne_k hk9999i hk9999g (by decide)) xn0)).trans ((hF129.2.1 _ (xn1 (xne_k hk9999i hk9999f (by decide)) xn0)).trans ((hF31.2.1 _ (xn1 (xne_k hk9999i hk9999 (by decide)) xn0)).trans ((hF6.2.1 _ xn0).trans (ld_c hG2))))))))) mv_X11_moves km_X11_334 rfl rfl ⟨Nat.le_of_ble_eq_true rfl, Nat.le_of_ble_eq_true rfl⟩ (rc_13 hK hT ha) hK (fun _ => XP.blind) (fun U hU hW => XP.at hK hz hS hT hU hW) rfl hl.1 (Nat.le_of_ble_eq_true rfl) dX11_back_185 ⟨Nat.le_of_ble_eq_true rfl, Nat.le_of_ble_eq_true rfl⟩) hS ?_
            rintro G185 H locs hF185 hT hS
            refine lv_aload_n hx hb dX11_back_188 rfl (lv_at hl 0 rfl) ?_
            refine lv_iload_n hx hb dX11_back_189 rfl (lv_at hl 1 rfl) ?_
            refine lv_iconst (v := 1) hx hb dX11_back_190 (by decide) ?_
            refine xi_iadd hx hb (rfl : Int32.toInt p0 = p0.toInt) ((by decide) : Int32.toInt 1 = (1 : Int)) dX11_back_191 (fun x191 t191 => ?_)
            have e191 : x191.toInt = (p0.toInt + (1 : Int)) := (z_X11_back_4 p0.toInt x191.toInt x21.toInt ((G.1 a 6).toInt) ((G.1 a 7).toInt) m0 t21 c24 t191)
            refine pX11_7 (v := x191) S hK hT hS ha kf_X11_373 dX11_back_192 (fun H locs hT hS => ?_)
            obtain ⟨G192, hG192⟩ : ∃ GG : XG, GG = dput G185 a 7 x191 := ⟨_, rfl⟩
            rw [← hG192] at hT
            refine lv_aload_n hx hb dX11_back_195 rfl (lv_at hl 0 rfl) ?_
            refine x_cl0 (x_runV (b := a) (As := []) (rest := []) S (c_X11_queueMany l E K F G192 a ha (v_X11_back_196_10 (F := F) a G G192 hR ((ld_c hG192).trans ((hF185.2.1 _ (xn1 (xne_k hk9999i hk9999h (by decide)) xn0)).trans ((hF172.2.1 _ (xn1 (xne_k hk9999i hk9999d (by decide)) xn0)).trans ((hF159.2.1 _ (xn1 (xne_k hk9999i hk9999c (by decide)) xn0)).trans ((hF146.2.1 _ (xn1 (xne_k hk9999i hk9999g (by decide)) xn0)).trans ((hF129.2.1 _ (xn1 (xne_k hk9999i hk9999f (by decide)) xn0)).trans ((hF31.2.1 _ (xn1 (xne_k hk9999i hk9999 (by decide)) xn0)).trans ((hF6.2.1 _ xn0).trans (ld_c hG2)))))))))) (v_X11_back_196_11 (K := K) (F := F) a G G6 G31 G129 G146 G159 G172 G192 l2_36 p0 x21 N36 ha hmk oq31a oq129a oq146 oq159a oq172a m0 t6 (xzi hz10) c13 t21 c24 z34 I36_0 I36_1 hm36 c41 ((hF129.2.1 _ (xn1 (xne_k hk9999k hk9999f (by decide)) xn0)).trans ((hF31.2.1 _ (xn1 (xne_k hk9999k hk9999 (by decide)) xn0)).trans ((hF6.2.1 _ xn0).trans (ld_c hG2)))) ((ld_c hG192).trans ((hF185.2.1 _ (xn1 (xne_k hk9999g hk9999h (by decide)) xn0)).trans ((hF172.2.1 _ (xn1 (xne_k hk9999g hk9999d (by decide)) xn0)).trans (hF159.2.1 _ (xn1 (xne_k hk9999g hk9999c (by decide)) xn0)))))) (v_X11_back_196_12 (F := F) a G G192 hM hB ((ld_c hG192).trans ((hF185.2.1 _ (xn1 (xne_k hk9999j hk9999h (by decide)) xn0)).trans ((hF172.2.1 _ (xn1 (xne_k hk9999j hk9999d (by decide)) xn0)).trans ((hF159.2.1 _ (xn1 (xne_k hk9999j hk9999c (by decide)) xn0)).trans ((hF146.2.1 _ (xn1 (xne_k hk9999j hk9999g (by decide)) xn0)).trans ((hF129.2.1 _ (xn1 (xne_k hk9999j hk9999f (by decide)) xn0)).trans ((hF31.2.1 _ (xn1 (xne_k hk9999j hk9999 (by decide)) xn0)).trans ((hF6.2.1 _ xn0).trans (ld_c hG2))))))))))) mv_X11_queueMany km_X11_379 rfl rfl ⟨Nat.le_of_ble_eq_true rfl, Nat.le_of_ble_eq_true rfl⟩ (rc_13 hK hT ha) hK (fun _ => XP.blind) (fun U hU hW => XP.at hK hz hS hT hU hW) rfl hl.1 (Nat.le_of_ble_eq_true rfl) dX11_back_196 ⟨Nat.le_of_ble_eq_true rfl, Nat.le_of_ble_eq_true rfl⟩) hS ?_
            rintro _ G196 H locs ⟨x196, rfl, hF196, t196, oq196, oq196a⟩ hT hS
            have t196 : 0 ≤ x196.toInt ∧ x196.toInt ≤ 2388 := t196
            have oq196 : pL G196 F a = if ((G.1 a 6).toInt) = 0 then [] else fuO (G.2.1 (F a 10)) (mw (G146.2.1 (F a 1)) 0) (mw (G.2.1 (F a 2)) 0) 1 := by simp only [(show G192.1 a 6 = G.1 a 6 from ((ld_j hG192 (by decide)).trans ((hF185.1 _ _ xn0).trans ((hF172.1 _ _ xn0).trans ((hF159.1 _ _ xn0).trans ((hF146.1 _ _ xn0).trans ((hF129.1 _ _ xn0).trans ((hF31.1 _ _ (xnj (by decide) xn0)).trans ((hF6.1 _ _ (xnj (by decide) (xnj (by decide) (xnj (by decide) xn0)))).trans (ld_j hG2 (by decide))))))))))), (show G192.2.1 (F a 10) = G.2.1 (F a 10) from ((ld_c hG192).trans ((hF185.2.1 _ (xn1 (xne_k hk9999i hk9999h (by decide)) xn0)).trans ((hF172.2.1 _ (xn1 (xne_k hk9999i hk9999d (by decide)) xn0)).trans ((hF159.2.1 _ (xn1 (xne_k hk9999i hk9999c (by decide)) xn0)).trans ((hF146.2.1 _ (xn1 (xne_k hk9999i hk9999g (by decide)) xn0)).trans ((hF129.2.1 _ (xn1 (xne_k hk9999i hk9999f (by decide)) xn0)).trans ((hF31.2.1 _ (xn1 (xne_k hk9999i hk9999 (by decide)) xn0)).trans ((hF6.2.1 _ xn0).trans (ld_c hG2)))))))))), (show G192.2.1 (F a 1) = G146.2.1 (F a 1) from ((ld_c hG192).trans ((hF185.2.1 _ (xn1 (xne_k hk9999g hk9999h (by decide)) xn0)).trans ((hF172.2.1 _ (xn1 (xne_k hk9999g hk9999d (by decide)) xn0)).trans (hF159.2.1 _ (xn1 (xne_k hk9999g hk9999c (by decide)) xn0)))))), (show G192.2.1 (F a 2) = G.2.1 (F a 2) from ((ld_c hG192).trans ((hF185.2.1 _ (xn1 (xne_k hk9999j hk9999h (by decide)) xn0)).trans ((hF172.2.1 _ (xn1 (xne_k hk9999j hk9999d (by decide)) xn0)).trans ((hF159.2.1 _ (xn1 (xne_k hk9999j hk9999c (by decide)) xn0)).trans ((hF146.2.1 _ (xn1 (xne_k hk9999j hk9999g (by decide)) xn0)).trans ((hF129.2.1 _ (xn1 (xne_k hk9999j hk9999f (by decide)) xn0)).trans ((hF31.2.1 _ (xn1 (xne_k hk9999j hk9999 (by decide)) xn0)).trans ((hF6.2.1 _ xn0).trans (ld_c hG2))))))))))] at oq196; exact oq196
            exact x_ri hx hb hr hlk hQ (Nat.le_of_ble_eq_true rfl) (Nat.le_of_ble_eq_true rfl) hS dX11_back_199 G196 ⟨_, rfl, (XFr.call (by rw [hG192]; exact XFr.dput (XFr.call (XFr.call (XFr.call (XFr.call (XFr.call (XFr.call (XFr.call (by rw [hG2]; exact XFr.dput XFr.rf (List.mem_of_getElem? (i := 5) rfl)) hF6 (xm1 2 rfl (xm1 3 rfl (xm1 4 rfl xm0))) xm0 xm0) hF31 (xm1 0 rfl xm0) (xm1 0 rfl xm0) xm0) hF129 xm0 (xm1 6 rfl xm0) xm0) hF146 xm0 (xm1 7 rfl xm0) xm0) hF159 xm0 (xm1 3 rfl xm0) xm0) hF172 xm0 (xm1 4 rfl xm0) xm0) hF185 xm0 (xm1 8 rfl xm0) xm0) (List.mem_of_getElem? (i := 6) rfl)) hF196 (xm1 0 rfl (xm1 1 rfl xm0)) (xm1 0 rfl (xm1 1 rfl (xm1 2 rfl (xm1 3 rfl (xm1 4 rfl xm0))))) xm0), (by rw [(show (G196.1 a 23).toInt = ((G6.1 a 23).toInt) from (congrArg Int32.toInt ((hF196.1 _ _ (xnj (by decide) (xnj (by decide) xn0))).trans ((ld_j hG192 (by decide)).trans ((hF185.1 _ _ xn0).trans ((hF172.1 _ _ xn0).trans ((hF159.1 _ _ xn0).trans ((hF146.1 _ _ xn0).trans ((hF129.1 _ _ xn0).trans (hF31.1 _ _ (xnj (by decide) xn0)))))))))).trans (rfl : Int32.toInt (G6.1 a 23) = ((G6.1 a 23).toInt)))] <;> exact (z_X11_back_5 ((G6.1 a 20).toInt) ((G6.1 a 21).toInt) ((G6.1 a 23).toInt) t6)), (v_X11_back_199_13 (K := K) (F := F) a G G6 G31 G129 G146 G159 G172 x191 G196 l2_36 p0 x196 x21 N36 ha oq31 oq31a pk oq129a oq146 oq159a oq172a e191 oq196 oq196a m0 t6 (xzi hz10) c13 t21 c24 z34 I36_0 I36_1 hm36 c41 t196 ((hF129.2.1 _ (xn1 (xne_k hk9999k hk9999f (by decide)) xn0)).trans ((hF31.2.1 _ (xn1 (xne_k hk9999k hk9999 (by decide)) xn0)).trans ((hF6.2.1 _ xn0).trans (ld_c hG2)))) ((hF196.2.1 _ (xn1 (xne_k hk9999g hk9999 (by decide)) (xn1 (xne_k hk9999g hk9999a (by decide)) (xn1 (xne_k hk9999g hk9999b (by decide)) (xn1 (xne_k hk9999g hk9999c (by decide)) (xn1 (xne_k hk9999g hk9999d (by decide)) xn0)))))).trans ((ld_c hG192).trans ((hF185.2.1 _ (xn1 (xne_k hk9999g hk9999h (by decide)) xn0)).trans ((hF172.2.1 _ (xn1 (xne_k hk9999g hk9999d (by decide)) xn0)).trans (hF159.2.1 _ (xn1 (xne_k hk9999g hk9999c (by decide)) xn0)))))) ((hF196.1 _ _ (xnj (by decide) (xnj (by decide) xn0))).trans (ld_at hG192))), (v_X11_back_199_14 (K := K) (F := F) a G G6 G31 G129 G146 G159 G172 G196 l2_36 p0 x196 x21 N36 ha hmk oq31a oq129a oq146 oq159a oq172a oq196a m0 t6 (xzi hz10) c13 t21 c24 z34 I36_0 I36_1 hm36 c41 t196 ((hF129.2.1 _ (xn1 (xne_k hk9999k hk9999f (by decide)) xn0)).trans ((hF31.2.1 _ (xn1 (xne_k hk9999k hk9999 (by decide)) xn0)).trans ((hF6.2.1 _ xn0).trans (ld_c hG2)))) ((hF196.2.1 _ (xn1 (xne_k hk9999g hk9999 (by decide)) (xn1 (xne_k hk9999g hk9999a (by decide)) (xn1 (xne_k hk9999g hk9999b (by decide)) (xn1 (xne_k hk9999g hk9999c (by decide)) (xn1 (xne_k hk9999g hk9999d (by decide)) xn0)))))).trans ((ld_c hG192).trans ((hF185.2.1 _ (xn1 (xne_k hk9999g hk9999h (by decide)) xn0)).trans ((hF172.2.1 _ (xn1 (xne_k hk9999g hk9999d (by decide)) xn0)).trans (hF159.2.1 _ (xn1 (xne_k hk9999g hk9999c (by decide)) xn0)))))))⟩ hT
          · refine lv_aload_n hx hb dX11_back_44 rfl (lv_at hl 0 rfl) ?_
            refine gX11_15 S hK hT ha kf_X11_48 dX11_back_45 (fun _ _ => ?_)
            refine lv_iload_n hx hb dX11_back_48 rfl (lv_at hl 2 rfl) ?_
            refine al_0 S hK hT hk9999 ar_42 (by decide) (z_X11_back_6 l2_36.toInt ((G31.1 a 16).toInt) z34 I36_0 c41) dX11_back_49 (fun x49 hv49 o49 => ?_)
            have hv49 : x49.toInt = (aI (G31.2.1 (F a 15)) (l2_36.toInt)) := hv49.trans (by rw [(rfl : Int32.toInt l2_36 = l2_36.toInt)])
            refine lv_istore_n (lv' := [(3, .int x49), (0, .ref a), (1, .int p0), (2, .int l2_36)]) hx hb dX11_back_50 rfl hl (by decide) rfl (fun ls hl => ?_)
            have z51 : 0 ≤ (aI (G31.2.1 (F a 15)) (l2_36.toInt)) ∧ (aI (G31.2.1 (F a 15)) (l2_36.toInt)) ≤ 11 ∧ (aI (G.2.1 (F a 10)) (10 * (aI (G31.2.1 (F a 15)) (l2_36.toInt)) + 0)) ≠ -1 := oq31.ent (by decide) (z_X11_back_7 l2_36.toInt ((G31.1 a 16).toInt) I36_0 c41)
            have z51a : (((aI (G.2.1 (F a 10)) (10 * (aI (G31.2.1 (F a 15)) (l2_36.toInt)) + 0)) = 2 ∨ (aI (G.2.1 (F a 10)) (10 * (aI (G31.2.1 (F a 15)) (l2_36.toInt)) + 0)) = 4 ∨ (aI (G.2.1 (F a 10)) (10 * (aI (G31.2.1 (F a 15)) (l2_36.toInt)) + 0)) = 5) ∧ (sF (aI (G.2.1 (F a 10)) (10 * (aI (G31.2.1 (F a 15)) (l2_36.toInt)) + 0))) = 0 ∧ (sL (aI (G.2.1 (F a 10)) (10 * (aI (G31.2.1 (F a 15)) (l2_36.toInt)) + 0))) = 29) ∨ (¬ ((aI (G.2.1 (F a 10)) (10 * (aI (G31.2.1 (F a 15)) (l2_36.toInt)) + 0)) = 2 ∨ (aI (G.2.1 (F a 10)) (10 * (aI (G31.2.1 (F a 15)) (l2_36.toInt)) + 0)) = 4 ∨ (aI (G.2.1 (F a 10)) (10 * (aI (G31.2.1 (F a 15)) (l2_36.toInt)) + 0)) = 5) ∧ (sF (aI (G.2.1 (F a 10)) (10 * (aI (G31.2.1 (F a 15)) (l2_36.toInt)) + 0))) = -99 ∧ (sL (aI (G.2.1 (F a 10)) (10 * (aI (G31.2.1 (F a 15)) (l2_36.toInt)) + 0))) = 99) := sFL _
            refine lv_aload_n hx hb dX11_back_51 rfl (lv_at hl 1 rfl) ?_
            refine lv_iload_n hx hb dX11_back_52 rfl (lv_at hl 0 rfl) ?_
            refine x_clp (x_runV (b := a) (As := [.int x49]) (rest := []) S (c_X11_firstSubject l E K F G31 H a x49 ha (by rw [(hv49 : Int32.toInt x49 = (aI (G31.2.1 (F a 15)) (l2_36.toInt)))] <;> exact (z_X11_back_8 (aI (G31.2.1 (F a 15)) (l2_36.toInt)) (z51).1 (z51).2.1))) mv_X11_firstSubject km_X11_179 rfl rfl ⟨Nat.le_of_ble_eq_true rfl, Nat.le_of_ble_eq_true rfl⟩ (rc_13 hK hT ha) hK (fun _ => XPh.blind) (fun U hU hW => XPh.at hK hz hS hT hU hW) rfl hl.1 (Nat.le_of_ble_eq_true rfl) dX11_back_53 ⟨Nat.le_of_ble_eq_true rfl, Nat.le_of_ble_eq_true rfl⟩) hS ?_
            rintro _ _ locs ⟨x53, rfl, t53⟩ hS
            have t53 : x53.toInt = (sF (aI (G.2.1 (F a 10)) (10 * (aI (G31.2.1 (F a 15)) (l2_36.toInt)) + 0))) := by rw [(hv49 : Int32.toInt x49 = (aI (G31.2.1 (F a 15)) (l2_36.toInt)))] at t53; rw [(show G31.2.1 (F a 10) = G.2.1 (F a 10) from ((hF31.2.1 _ (xn1 (xne_k hk9999i hk9999 (by decide)) xn0)).trans ((hF6.2.1 _ xn0).trans (ld_c hG2))))] at t53; exact t53
            refine lv_istore (lv' := [(4, .int x53), (3, .int x49), (0, .ref a), (1, .int p0), (2, .int l2_36)]) hx hb dX11_back_56 hl (by decide) rfl (fun ls hl => ?_)
            have L58 : ∀ (N58 : Nat) (l4_58 : Int32) (H : Heap) (locs : List Loc) (ls : Array Slot), (∀ s : Int, sF (aI (G.2.1 (F a 10)) (10 * (aI (G31.2.1 (F a 15)) (l2_36.toInt)) + 0)) ≤ s → s < l4_58.toInt → fzq (G.2.1 (F a 10)) (mw (G.2.1 (F a 3)) (360 * p0.toInt)) (aI (G31.2.1 (F a 15)) (l2_36.toInt)) s = 0) → (sF (aI (G.2.1 (F a 10)) (10 * (aI (G31.2.1 (F a 15)) (l2_36.toInt)) + 0))) ≤ l4_58.toInt ∧ l4_58.toInt ≤ (sL (aI (G.2.1 (F a 10)) (10 * (aI (G31.2.1 (F a 15)) (l2_36.toInt)) + 0))) + 1 → 2147483648 - l4_58.toInt < ((N58 : Nat) : Int) → TW E K F G31 H → va_S (xA E) s.heap H locs → lv_has ls 5 [(0, .ref a), (1, .int p0), (2, .int l2_36), (3, .int x49), (4, .int l4_58)] → W p l e rm_X11_back s m args below meth c H locs 0 0 Q (F0 m 58 ls []) := by
              intro N58
              induction N58 with
              | zero =>
                intro l4_58 H locs ls ps I58_0 hm58
                exact absurd hm58 (z_X11_back_1 l4_58.toInt (xr l4_58))
              | succ N58 ih58 =>
                intro l4_58 H locs ls ps I58_0 hm58 hT hS hl
                refine lv_iload hx hb dX11_back_58 (lv_at hl 4 rfl) ?_
                refine lv_aload_n hx hb dX11_back_60 rfl (lv_at hl 0 rfl) ?_
                refine lv_iload_n hx hb dX11_back_61 rfl (lv_at hl 3 rfl) ?_
                refine x_clp (x_runV (b := a) (As := [.int x49]) (rest := [.int l4_58]) S (c_X11_lastSubject l E K F G31 H a x49 ha (by rw [(hv49 : Int32.toInt x49 = (aI (G31.2.1 (F a 15)) (l2_36.toInt)))] <;> exact (z_X11_back_8 (aI (G31.2.1 (F a 15)) (l2_36.toInt)) (z51).1 (z51).2.1))) mv_X11_lastSubject km_X11_183 rfl rfl ⟨Nat.le_of_ble_eq_true rfl, Nat.le_of_ble_eq_true rfl⟩ (rc_13 hK hT ha) hK (fun _ => XPh.blind) (fun U hU hW => XPh.at hK hz hS hT hU hW) rfl hl.1 (Nat.le_of_ble_eq_true rfl) dX11_back_62 ⟨Nat.le_of_ble_eq_true rfl, Nat.le_of_ble_eq_true rfl⟩) hS ?_
                rintro _ _ locs ⟨x62, rfl, t62⟩ hS
                have t62 : x62.toInt = (sL (aI (G.2.1 (F a 10)) (10 * (aI (G31.2.1 (F a 15)) (l2_36.toInt)) + 0))) := by rw [(hv49 : Int32.toInt x49 = (aI (G31.2.1 (F a 15)) (l2_36.toInt)))] at t62; rw [(show G31.2.1 (F a 10) = G.2.1 (F a 10) from ((hF31.2.1 _ (xn1 (xne_k hk9999i hk9999 (by decide)) xn0)).trans ((hF6.2.1 _ xn0).trans (ld_c hG2))))] at t62; exact t62
                refine xi_cgt (tgt := 113) hx hb (rfl : Int32.toInt l4_58 = l4_58.toInt) (t62 : Int32.toInt x62 = (sL (aI (G.2.1 (F a 10)) (10 * (aI (G31.2.1 (F a 15)) (l2_36.toInt)) + 0)))) dX11_back_65 (by decide) (fun c65 => ?_) (fun c65 => ?_)
                · refine xi_iinc (n := 1) (lv' := fun z9 => [(2, .int z9), (0, .ref a), (1, .int p0), (3, .int x49), (4, .int l4_58)]) (k := 2) hx hb (rfl : Int32.toInt l2_36 = l2_36.toInt) (by decide) dX11_back_113 hl rfl (by decide) (fun _ => rfl) (fun x113 ls t113 hl => ?_)
                  have e113 : x113.toInt = (l2_36.toInt + 1) := (z_X11_back_11 l2_36.toInt x113.toInt ((G31.1 a 16).toInt) z34 I36_0 t113)
                  have hl : lv_has ls 5 [(2, .int x113), (0, .ref a), (1, .int p0), (3, .int x49), (4, .int l4_58)] := hl
                  refine lv_goto (tgt := 36) hx hb dX11_back_116 (by decide) ?_
                  exact ih36 x113 _ _ _ (by rw [(e113 : Int32.toInt x113 = (l2_36.toInt + 1))] <;> exact (v_X11_back_116_15 (K := K) (F := F) a G G6 G31 l2_36 p0 l4_58 x21 N36 N58 ha oq31a pk ps m0 t6 (xzi hz10) c13 t21 c24 z34 I36_0 I36_1 hm36 c41 z51 z51a I58_0 hm58 c65)) (by rw [(e113 : Int32.toInt x113 = (l2_36.toInt + 1))] <;> exact (z_X11_back_12 l2_36.toInt ((G31.1 a 16).toInt) I36_0 c41)) (by rw [(e113 : Int32.toInt x113 = (l2_36.toInt + 1))] <;> exact (z_X11_back_13 l2_36.toInt ((G31.1 a 16).toInt) I36_0)) (by rw [(e113 : Int32.toInt x113 = (l2_36.toInt + 1))] <;> exact (z_X11_back_14 l2_36.toInt N36 hm36)) hT hS (lv_sub hl [1, 2, 0] rfl)
                · refine lv_aload_n hx hb dX11_back_68 rfl (lv_at hl 0 rfl) ?_
                  refine lv_iload_n hx hb dX11_back_69 rfl (lv_at hl 3 rfl) ?_
                  refine lv_bipush (v := 6) hx hb dX11_back_70 (by decide) ?_
                  refine x_clp (x_runV (b := a) (As := [.int x49, .int 6]) (rest := []) S (c_X11_of l E K F G31 H a x49 6 ha (by rw [(hv49 : Int32.toInt x49 = (aI (G31.2.1 (F a 15)) (l2_36.toInt)))] <;> exact (z_X11_back_8 (aI (G31.2.1 (F a 15)) (l2_36.toInt)) (z51).1 (z51).2.1)) (by decide)) mv_X11_of km_X11_165 rfl rfl ⟨Nat.le_of_ble_eq_true rfl, Nat.le_of_ble_eq_true rfl⟩ (rc_13 hK hT ha) hK (fun _ => XPh.blind) (fun U hU hW => XPh.at hK hz hS hT hU hW) rfl hl.1 (Nat.le_of_ble_eq_true rfl) dX11_back_72 ⟨Nat.le_of_ble_eq_true rfl, Nat.le_of_ble_eq_true rfl⟩) hS ?_
                  rintro _ _ locs ⟨x72, rfl, t72⟩ hS
                  have t72 : x72.toInt = (aI (G.2.1 (F a 10)) (10 * (aI (G31.2.1 (F a 15)) (l2_36.toInt)) + 6)) := by rw [(hv49 : Int32.toInt x49 = (aI (G31.2.1 (F a 15)) (l2_36.toInt)))] at t72; rw [(show G31.2.1 (F a 10) = G.2.1 (F a 10) from ((hF31.2.1 _ (xn1 (xne_k hk9999i hk9999 (by decide)) xn0)).trans ((hF6.2.1 _ xn0).trans (ld_c hG2))))] at t72; exact t72
                  refine xi_zne (tgt := 113) hx hb (t72 : Int32.toInt x72 = (aI (G.2.1 (F a 10)) (10 * (aI (G31.2.1 (F a 15)) (l2_36.toInt)) + 6))) dX11_back_75 (by decide) (fun c75 => ?_) (fun c75 => ?_)
                  · refine xi_iinc (n := 1) (lv' := fun z9 => [(2, .int z9), (0, .ref a), (1, .int p0), (3, .int x49), (4, .int l4_58)]) (k := 2) hx hb (rfl : Int32.toInt l2_36 = l2_36.toInt) (by decide) dX11_back_113 hl rfl (by decide) (fun _ => rfl) (fun x113 ls t113 hl => ?_)
                    have e113 : x113.toInt = (l2_36.toInt + 1) := (z_X11_back_11 l2_36.toInt x113.toInt ((G31.1 a 16).toInt) z34 I36_0 t113)
                    have hl : lv_has ls 5 [(2, .int x113), (0, .ref a), (1, .int p0), (3, .int x49), (4, .int l4_58)] := hl
                    refine lv_goto (tgt := 36) hx hb dX11_back_116 (by decide) ?_
                    exact ih36 x113 _ _ _ (by rw [(e113 : Int32.toInt x113 = (l2_36.toInt + 1))] <;> exact (v_X11_back_116_16 (K := K) (F := F) a G G6 G31 l2_36 p0 l4_58 x21 N36 N58 ha oq31a pk m0 t6 (xzi hz10) c13 t21 c24 z34 I36_0 I36_1 hm36 c41 z51 z51a I58_0 hm58 c65 c75)) (by rw [(e113 : Int32.toInt x113 = (l2_36.toInt + 1))] <;> exact (z_X11_back_12 l2_36.toInt ((G31.1 a 16).toInt) I36_0 c41)) (by rw [(e113 : Int32.toInt x113 = (l2_36.toInt + 1))] <;> exact (z_X11_back_13 l2_36.toInt ((G31.1 a 16).toInt) I36_0)) (by rw [(e113 : Int32.toInt x113 = (l2_36.toInt + 1))] <;> exact (z_X11_back_14 l2_36.toInt N36 hm36)) hT hS (lv_sub hl [1, 2, 0] rfl)
                  · refine lv_aload_n hx hb dX11_back_78 rfl (lv_at hl 0 rfl) ?_
                    refine lv_iload_n hx hb dX11_back_79 rfl (lv_at hl 3 rfl) ?_
                    refine lv_iload hx hb dX11_back_80 (lv_at hl 4 rfl) ?_
                    refine lv_aload_n hx hb dX11_back_82 rfl (lv_at hl 0 rfl) ?_
                    refine gX11_3 S hK hT ha kf_X11_18 dX11_back_83 (fun _ _ => ?_)
                    refine lv_sipush (v := 360) hx hb dX11_back_86 (by decide) ?_
                    refine lv_iload_n hx hb dX11_back_89 rfl (lv_at hl 1 rfl) ?_
                    refine xi_imul hx hb ((by decide) : Int32.toInt 360 = (360 : Int)) (rfl : Int32.toInt p0 = p0.toInt) dX11_back_90 (fun x90 t90 => ?_)
                    have e90 : x90.toInt = ((360 : Int) * p0.toInt) := (z_X11_back_20 p0.toInt x21.toInt x90.toInt ((G.1 a 6).toInt) ((G.1 a 7).toInt) m0 t21 c24 t90)
                    refine x_clp (x_runV (b := a) (As := [.int x49, .int l4_58, .ref (F a 3), .int x90]) (rest := []) S (c_X11_fails l E K F G31 H a x49 l4_58 (F a 3) x90 ha (XO.c hk9999k (by rw [(e90 : Int32.toInt x90 = ((360 : Int) * p0.toInt))] <;> exact (z_X11_back_3 p0.toInt x21.toInt ((G.1 a 6).toInt) ((G.1 a 7).toInt) m0 t21 c24))) (by rw [(hv49 : Int32.toInt x49 = (aI (G31.2.1 (F a 15)) (l2_36.toInt)))] <;> exact (z_X11_back_8 (aI (G31.2.1 (F a 15)) (l2_36.toInt)) (z51).1 (z51).2.1)) (by rw [(hv49 : Int32.toInt x49 = (aI (G31.2.1 (F a 15)) (l2_36.toInt))), (show G31.2.1 (F a 10) = G.2.1 (F a 10) from ((hF31.2.1 _ (xn1 (xne_k hk9999i hk9999 (by decide)) xn0)).trans ((hF6.2.1 _ xn0).trans (ld_c hG2))))] <;> exact ((z51).2.2)) (by rw [(hv49 : Int32.toInt x49 = (aI (G31.2.1 (F a 15)) (l2_36.toInt))), (show G31.2.1 (F a 10) = G.2.1 (F a 10) from ((hF31.2.1 _ (xn1 (xne_k hk9999i hk9999 (by decide)) xn0)).trans ((hF6.2.1 _ xn0).trans (ld_c hG2))))] <;> exact (z_X11_back_24 l4_58.toInt (sF (aI (G.2.1 (F a 10)) (10 * (aI (G31.2.1 (F a 15)) (l2_36.toInt)) + 0))) (sL (aI (G.2.1 (F a 10)) (10 * (aI (G31.2.1 (F a 15)) (l2_36.toInt)) + 0))) I58_0 c65)) (v_X11_back_91_17 (F := F) a G G31 hR ((hF31.2.1 _ (xn1 (xne_k hk9999i hk9999 (by decide)) xn0)).trans ((hF6.2.1 _ xn0).trans (ld_c hG2)))) (by rw [(e90 : Int32.toInt x90 = ((360 : Int) * p0.toInt))] <;> exact (v_X11_back_91_18 (K := K) (F := F) a G G6 G31 l2_36 p0 l4_58 x21 N36 N58 ha hmk oq31a m0 t6 (xzi hz10) c13 t21 c24 z34 I36_0 I36_1 hm36 c41 z51 z51a I58_0 hm58 c65 c75 ((hF31.2.1 _ (xn1 (xne_k hk9999k hk9999 (by decide)) xn0)).trans ((hF6.2.1 _ xn0).trans (ld_c hG2)))))) mv_X11_fails km_X11_221 rfl rfl ⟨Nat.le_of_ble_eq_true rfl, Nat.le_of_ble_eq_true rfl⟩ (rc_13 hK hT ha) hK (fun _ => XPh.blind) (fun U hU hW => XPh.at hK hz hS hT hU hW) rfl hl.1 (Nat.le_of_ble_eq_true rfl) dX11_back_91 ⟨Nat.le_of_ble_eq_true rfl, Nat.le_of_ble_eq_true rfl⟩) hS ?_
                    rintro _ _ locs ⟨x91, rfl, b91, t91⟩ hS
                    have t91 : x91.toInt = (flq (mw (G.2.1 (F a 3)) (360 * p0.toInt)) (aI (G.2.1 (F a 10)) (10 * (aI (G31.2.1 (F a 15)) (l2_36.toInt)) + 0)) (aI (G.2.1 (F a 10)) (10 * (aI (G31.2.1 (F a 15)) (l2_36.toInt)) + 1)) (aI (G.2.1 (F a 10)) (10 * (aI (G31.2.1 (F a 15)) (l2_36.toInt)) + 2)) (aI (G.2.1 (F a 10)) (10 * (aI (G31.2.1 (F a 15)) (l2_36.toInt)) + 4)) (aI (G.2.1 (F a 10)) (10 * (aI (G31.2.1 (F a 15)) (l2_36.toInt)) + 5)) (l4_58.toInt) (stt (mw (G.2.1 (F a 3)) (360 * p0.toInt)) (aI (G.2.1 (F a 10)) (10 * (aI (G31.2.1 (F a 15)) (l2_36.toInt)) + 0)) (aI (G.2.1 (F a 10)) (10 * (aI (G31.2.1 (F a 15)) (l2_36.toInt)) + 1)) (aI (G.2.1 (F a 10)) (10 * (aI (G31.2.1 (F a 15)) (l2_36.toInt)) + 2)) (aI (G.2.1 (F a 10)) (10 * (aI (G31.2.1 (F a 15)) (l2_36.toInt)) + 3)) (l4_58.toInt))) := by rw [(e90 : Int32.toInt x90 = ((360 : Int) * p0.toInt))] at t91; rw [(hv49 : Int32.toInt x49 = (aI (G31.2.1 (F a 15)) (l2_36.toInt)))] at t91; rw [(show G31.2.1 (F a 3) = G.2.1 (F a 3) from ((hF31.2.1 _ (xn1 (xne_k hk9999k hk9999 (by decide)) xn0)).trans ((hF6.2.1 _ xn0).trans (ld_c hG2))))] at t91; rw [(show G31.2.1 (F a 10) = G.2.1 (F a 10) from ((hF31.2.1 _ (xn1 (xne_k hk9999i hk9999 (by decide)) xn0)).trans ((hF6.2.1 _ xn0).trans (ld_c hG2))))] at t91; exact t91
                    refine xi_zeq (tgt := 107) hx hb (rfl : Int32.toInt x91 = x91.toInt) dX11_back_94 (by decide) (fun c94 => ?_) (fun c94 => ?_)
                    · refine xi_iinc (n := 1) (lv' := fun z9 => [(4, .int z9), (0, .ref a), (1, .int p0), (2, .int l2_36), (3, .int x49)]) (k := 4) hx hb (rfl : Int32.toInt l4_58 = l4_58.toInt) (by decide) dX11_back_107 hl rfl (by decide) (fun _ => rfl) (fun x107 ls t107 hl => ?_)
                      have e107 : x107.toInt = (l4_58.toInt + 1) := (z_X11_back_25 l4_58.toInt x107.toInt (aI (G.2.1 (F a 10)) (10 * (aI (G31.2.1 (F a 15)) (l2_36.toInt)) + 0)) (sF (aI (G.2.1 (F a 10)) (10 * (aI (G31.2.1 (F a 15)) (l2_36.toInt)) + 0))) (sL (aI (G.2.1 (F a 10)) (10 * (aI (G31.2.1 (F a 15)) (l2_36.toInt)) + 0))) z51a c65 t107 (xr l4_58))
                      have hl : lv_has ls 5 [(4, .int x107), (0, .ref a), (1, .int p0), (2, .int l2_36), (3, .int x49)] := hl
                      refine lv_goto (tgt := 58) hx hb dX11_back_110 (by decide) ?_
                      exact ih58 x107 _ _ _ (by rw [(e107 : Int32.toInt x107 = (l4_58.toInt + 1))] <;> exact (v_X11_back_110_19 (K := K) (F := F) a G G6 G31 l2_36 p0 l4_58 x21 N36 N58 x91 ha oq31a ps m0 t6 (xzi hz10) c13 t21 c24 z34 I36_0 I36_1 hm36 c41 z51 z51a I58_0 hm58 c65 c75 t91 (xzi b91) c94)) (by rw [(e107 : Int32.toInt x107 = (l4_58.toInt + 1))] <;> exact (z_X11_back_26 l4_58.toInt (sF (aI (G.2.1 (F a 10)) (10 * (aI (G31.2.1 (F a 15)) (l2_36.toInt)) + 0))) (sL (aI (G.2.1 (F a 10)) (10 * (aI (G31.2.1 (F a 15)) (l2_36.toInt)) + 0))) I58_0 c65)) (by rw [(e107 : Int32.toInt x107 = (l4_58.toInt + 1))] <;> exact (z_X11_back_14 l4_58.toInt N58 hm58)) hT hS (lv_sub hl [1, 2, 3, 4, 0] rfl)
                    · refine lv_aload_n hx hb dX11_back_97 rfl (lv_at hl 0 rfl) ?_
                      refine lv_iload_n hx hb dX11_back_98 rfl (lv_at hl 3 rfl) ?_
                      refine lv_iload hx hb dX11_back_99 (lv_at hl 4 rfl) ?_
                      refine x_cv0 (x_runV (b := a) (As := [.int x49, .int l4_58]) (rest := []) S (c_X11_failed l E K F G31 a x49 l4_58 ha (by rw [(hv49 : Int32.toInt x49 = (aI (G31.2.1 (F a 15)) (l2_36.toInt)))] <;> exact (z_X11_back_8 (aI (G31.2.1 (F a 15)) (l2_36.toInt)) (z51).1 (z51).2.1)) (z_X11_back_29 l4_58.toInt (aI (G.2.1 (F a 10)) (10 * (aI (G31.2.1 (F a 15)) (l2_36.toInt)) + 0)) (sF (aI (G.2.1 (F a 10)) (10 * (aI (G31.2.1 (F a 15)) (l2_36.toInt)) + 0))) (sL (aI (G.2.1 (F a 10)) (10 * (aI (G31.2.1 (F a 15)) (l2_36.toInt)) + 0))) z51a I58_0 c65)) mv_X11_failed km_X11_299 rfl rfl ⟨Nat.le_of_ble_eq_true rfl, Nat.le_of_ble_eq_true rfl⟩ (rc_13 hK hT ha) hK (fun _ => XP.blind) (fun U hU hW => XP.at hK hz hS hT hU hW) rfl hl.1 (Nat.le_of_ble_eq_true rfl) dX11_back_101 ⟨Nat.le_of_ble_eq_true rfl, Nat.le_of_ble_eq_true rfl⟩) hS ?_
                      rintro G101 H locs ⟨hF101, t101⟩ hT hS
                      have t101 : ((G101.1 a 20).toInt) = (aI (G31.2.1 (F a 15)) (l2_36.toInt)) ∧ ((G101.1 a 21).toInt) = l4_58.toInt ∧ 0 ≤ ((G101.1 a 23).toInt) ∧ ((G101.1 a 23).toInt) ≤ 24 := by rw [(hv49 : Int32.toInt x49 = (aI (G31.2.1 (F a 15)) (l2_36.toInt)))] at t101; exact t101
                      refine lv_bipush (v := (-5)) hx hb dX11_back_104 (by decide) ?_
                      exact x_ri hx hb hr hlk hQ (Nat.le_of_ble_eq_true rfl) (Nat.le_of_ble_eq_true rfl) hS dX11_back_106 G101 ⟨_, rfl, (XFr.call (XFr.call (XFr.call (by rw [hG2]; exact XFr.dput XFr.rf (List.mem_of_getElem? (i := 5) rfl)) hF6 (xm1 2 rfl (xm1 3 rfl (xm1 4 rfl xm0))) xm0 xm0) hF31 (xm1 0 rfl xm0) (xm1 0 rfl xm0) xm0) hF101 (xm1 2 rfl (xm1 3 rfl (xm1 4 rfl xm0))) (xm1 5 rfl xm0) xm0), (z_X11_back_30 l4_58.toInt ((G101.1 a 20).toInt) ((G101.1 a 21).toInt) ((G101.1 a 23).toInt) (aI (G31.2.1 (F a 15)) (l2_36.toInt)) t101), (by rw [((by decide) : Int32.toInt (-5) = (-5 : Int))] <;> exact (v_X11_back_106_20 (K := K) (F := F) a G G6 G31 G101 l2_36 p0 l4_58 x21 N36 N58 x91 ha oq31a m0 t6 (xzi hz10) c13 t21 c24 z34 I36_0 I36_1 hm36 c41 z51 z51a I58_0 hm58 c65 c75 t91 (xzi b91) c94 t101 ((hF101.2.1 _ (xn1 (xne_k hk9999g hk9999e (by decide)) xn0)).trans ((hF31.2.1 _ (xn1 (xne_k hk9999g hk9999 (by decide)) xn0)).trans ((hF6.2.1 _ xn0).trans (ld_c hG2)))) ((hF101.1 _ _ (xnj (by decide) (xnj (by decide) (xnj (by decide) xn0)))).trans ((hF31.1 _ _ (xnj (by decide) xn0)).trans ((hF6.1 _ _ (xnj (by decide) (xnj (by decide) (xnj (by decide) xn0)))).trans (ld_j hG2 (by decide))))))), (v_X11_back_106_21 (F := F) a G G101 hM ((hF101.2.1 _ (xn1 (xne_k hk9999g hk9999e (by decide)) xn0)).trans ((hF31.2.1 _ (xn1 (xne_k hk9999g hk9999 (by decide)) xn0)).trans ((hF6.2.1 _ xn0).trans (ld_c hG2)))))⟩ hT
            exact L58 4294967297 x53 _ _ _ (by rw [(t53 : Int32.toInt x53 = (sF (aI (G.2.1 (F a 10)) (10 * (aI (G31.2.1 (F a 15)) (l2_36.toInt)) + 0))))] <;> exact (v_X11_back_56_22 (K := K) (F := F) a G G6 G31 l2_36 p0 x21 N36 ha oq31a m0 t6 (xzi hz10) c13 t21 c24 z34 I36_0 I36_1 hm36 c41 z51 z51a)) (by rw [(t53 : Int32.toInt x53 = (sF (aI (G.2.1 (F a 10)) (10 * (aI (G31.2.1 (F a 15)) (l2_36.toInt)) + 0))))] <;> exact (z_X11_back_31 (aI (G.2.1 (F a 10)) (10 * (aI (G31.2.1 (F a 15)) (l2_36.toInt)) + 0)) (sF (aI (G.2.1 (F a 10)) (10 * (aI (G31.2.1 (F a 15)) (l2_36.toInt)) + 0))) (sL (aI (G.2.1 (F a 10)) (10 * (aI (G31.2.1 (F a 15)) (l2_36.toInt)) + 0))) z51a)) (by rw [(t53 : Int32.toInt x53 = (sF (aI (G.2.1 (F a 10)) (10 * (aI (G31.2.1 (F a 15)) (l2_36.toInt)) + 0))))] <;> exact (z_X11_back_32 (aI (G.2.1 (F a 10)) (10 * (aI (G31.2.1 (F a 15)) (l2_36.toInt)) + 0)) (sF (aI (G.2.1 (F a 10)) (10 * (aI (G31.2.1 (F a 15)) (l2_36.toInt)) + 0))) (sL (aI (G.2.1 (F a 10)) (10 * (aI (G31.2.1 (F a 15)) (l2_36.toInt)) + 0))) z51a)) hT hS (lv_sub hl [2, 3, 4, 1, 0] rfl)
      exact L36 4294967297 0 _ _ _ (v_X11_back_35_23 (K := K) (F := F) a G G6 G31 p0 x21 ha oq31a m0 t6 (xzi hz10) c13 t21 c24 z34) (z_X11_back_33 ((G31.1 a 16).toInt) z34) (by decide) (by decide) hT hS (lv_sub hl [1, 2, 0] rfl)
    · refine lv_bipush (v := (-2)) hx hb dX11_back_27 (by decide) ?_
      exact x_ri hx hb hr hlk hQ (Nat.le_of_ble_eq_true rfl) (Nat.le_of_ble_eq_true rfl) hS dX11_back_29 G6 ⟨_, rfl, (XFr.call (by rw [hG2]; exact XFr.dput XFr.rf (List.mem_of_getElem? (i := 5) rfl)) hF6 (xm1 2 rfl (xm1 3 rfl (xm1 4 rfl xm0))) xm0 xm0), (z_X11_back_5 ((G6.1 a 20).toInt) ((G6.1 a 21).toInt) ((G6.1 a 23).toInt) t6), (by rw [((by decide) : Int32.toInt (-2) = (-2 : Int))] <;> exact (v_X11_back_29_24 (K := K) (F := F) a G G6 p0 x21 ha m0 t6 (xzi hz10) c13 t21 c24 ((hF6.2.1 _ xn0).trans (ld_c hG2)) ((hF6.1 _ _ (xnj (by decide) (xnj (by decide) (xnj (by decide) xn0)))).trans (ld_j hG2 (by decide))))), (v_X11_back_29_25 (F := F) a G G6 hM ((hF6.2.1 _ xn0).trans (ld_c hG2)))⟩ hT
  · refine lv_bipush (v := (-3)) hx hb dX11_back_16 (by decide) ?_
    exact x_ri hx hb hr hlk hQ (Nat.le_of_ble_eq_true rfl) (Nat.le_of_ble_eq_true rfl) hS dX11_back_18 G6 ⟨_, rfl, (XFr.call (by rw [hG2]; exact XFr.dput XFr.rf (List.mem_of_getElem? (i := 5) rfl)) hF6 (xm1 2 rfl (xm1 3 rfl (xm1 4 rfl xm0))) xm0 xm0), (z_X11_back_5 ((G6.1 a 20).toInt) ((G6.1 a 21).toInt) ((G6.1 a 23).toInt) t6), (by rw [((by decide) : Int32.toInt (-3) = (-3 : Int))] <;> exact (v_X11_back_18_26 (K := K) (F := F) a G G6 p0 ha m0 t6 (xzi hz10) c13 ((hF6.2.1 _ xn0).trans (ld_c hG2)) ((hF6.1 _ _ (xnj (by decide) (xnj (by decide) (xnj (by decide) xn0)))).trans (ld_j hG2 (by decide))))), (v_X11_back_18_27 (F := F) a G G6 hM ((hF6.2.1 _ xn0).trans (ld_c hG2)))⟩ hT
