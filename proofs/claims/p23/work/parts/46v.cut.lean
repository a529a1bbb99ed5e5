theorem v_X10_cut_26_1 {K : Nat → Nat} {F : Nat → Nat → Nat} (a : Nat) (G : XG) (G23 : XG) (G4 : XG) (x8 : Int32) (p0 : Int32) (p1 : Int32)
    (ha : K a = 12)
    (sb : 0 ≤ ((G.1 (F a 2) 2).toInt) ∧ ((G.1 (F a 2) 2).toInt) ≤ 12)
    (sw : 0 ≤ ((G.1 (F a 8) 6).toInt) ∧ ((G.1 (F a 8) 6).toInt) ≤ 1080)
    (t4 : ((G4.1 (F a 14) 1).toInt) = 0)
    (t8 : (x8.toInt = 1 ∧ 0 ≤ p0.toInt ∧ p0.toInt < 3) ∨ (x8.toInt = 0 ∧ (p0.toInt < 0 ∨ 3 ≤ p0.toInt)))
    (c11 : x8.toInt = 0)
    (c_G23_F_F_a_3_0 : G23.2.1 (F (F a 3) 0) = G.2.1 (F (F a 3) 0))
    (c_G23_F_F_a_8_0 : G23.2.1 (F (F a 8) 0) = G.2.1 (F (F a 8) 0))
    (c_G23_F_F_a_8_1 : G23.2.1 (F (F a 8) 1) = G.2.1 (F (F a 8) 1))
    (c_G23_F_F_a_8_2 : G23.2.1 (F (F a 8) 2) = G.2.1 (F (F a 8) 2))
    (c_G23_F_F_a_8_3 : G23.2.1 (F (F a 8) 3) = G.2.1 (F (F a 8) 3))
    (c_G23_F_F_a_8_4 : G23.2.1 (F (F a 8) 4) = G.2.1 (F (F a 8) 4))
    (c_G23_F_F_a_8_5 : G23.2.1 (F (F a 8) 5) = G.2.1 (F (F a 8) 5))
    (d_G23_F_a_8_6 : G23.1 (F a 8) 6 = G.1 (F a 8) 6) :
    ((-1 : Int) = -1 ∧ ¬ ((0 ≤ p0.toInt ∧ p0.toInt < 3) ∧ (0 ≤ p1.toInt ∧ p1.toInt < 30)) ∧ ((vw (G23.2.1 (F (F a 3) 0))) = (vw (G.2.1 (F (F a 3) 0))) ∧ qL G23 F (F a 8) = qL G F (F a 8))) ∨ (((0 ≤ p0.toInt ∧ p0.toInt < 3) ∧ (0 ≤ p1.toInt ∧ p1.toInt < 30)) ∧ (-1 : Int) = -2 ∧ cel (vw (G.2.1 (F (F a 3) 0))) p0.toInt p1.toInt 0 = -2000 ∧ ((vw (G23.2.1 (F (F a 3) 0))) = (vw (G.2.1 (F (F a 3) 0))) ∧ qL G23 F (F a 8) = qL G F (F a 8))) ∨ (((0 ≤ p0.toInt ∧ p0.toInt < 3) ∧ (0 ≤ p1.toInt ∧ p1.toInt < 30)) ∧ cel (vw (G.2.1 (F (F a 3) 0))) p0.toInt p1.toInt 0 ≠ -2000 ∧ ActR ((G.1 a 18).toInt) (-1 : Int) (gaL G (G.2.2.1 (F (F a 2) 1)) (vw (G.2.1 (F (F a 3) 0))) (cfin (clsA G (G.2.2.1 (F (F a 2) 0))) (clsT G (G.2.2.1 (F (F a 2) 0))) (clsC G (G.2.2.1 (F (F a 2) 0))) ([(p0.toInt, p1.toInt, 0, 0)], rfil (vw (G.2.1 (F (F a 3) 0))) p0.toInt p1.toInt (-2000) 3)) 0 (((G.1 (F a 2) 2).toInt)).toNat) (vw (G.2.1 (F (F a 3) 0))) (vw (G23.2.1 (F (F a 3) 0))) (cfin (clsA G (G.2.2.1 (F (F a 2) 0))) (clsT G (G.2.2.1 (F (F a 2) 0))) (clsC G (G.2.2.1 (F (F a 2) 0))) ([(p0.toInt, p1.toInt, 0, 0)], rfil (vw (G.2.1 (F (F a 3) 0))) p0.toInt p1.toInt (-2000) 3)) (qL G F (F a 8)) (qL G23 F (F a 8)) (gaL G (G.2.2.1 (F (F a 2) 1)) (vw (G.2.1 (F (F a 4) 0))) (cfin (clsA G (G.2.2.1 (F (F a 2) 0))) (clsT G (G.2.2.1 (F (F a 2) 0))) (clsC G (G.2.2.1 (F (F a 2) 0))) ([(p0.toInt, p1.toInt, 0, 0)], rfil (vw (G.2.1 (F (F a 3) 0))) p0.toInt p1.toInt (-2000) 3)) 1 (((G.1 (F a 2) 2).toInt)).toNat)) := by
  exact Or.inl ⟨rfl, fun h => by omega, by rw [c_G23_F_F_a_3_0], qL_cg d_G23_F_a_8_6 c_G23_F_F_a_8_0 c_G23_F_F_a_8_1 c_G23_F_F_a_8_2 c_G23_F_F_a_8_3 c_G23_F_F_a_8_4 c_G23_F_F_a_8_5⟩
theorem v_X10_cut_26_2 {F : Nat → Nat → Nat} (a : Nat) (G : XG) (G23 : XG)
    (ron : RO (vw (G.2.1 (F (F a 3) 0))) (aI (G.2.1 (F (F a 3) 1))))
    (c_G23_F_F_a_3_0 : G23.2.1 (F (F a 3) 0) = G.2.1 (F (F a 3) 0))
    (c_G23_F_F_a_3_1 : G23.2.1 (F (F a 3) 1) = G.2.1 (F (F a 3) 1)) :
    RO (vw (G23.2.1 (F (F a 3) 0))) (aI (G23.2.1 (F (F a 3) 1))) := by
  rw [c_G23_F_F_a_3_0, c_G23_F_F_a_3_1]; exact ron
theorem v_X10_cut_33_3 {F : Nat → Nat → Nat} (a : Nat) (G : XG) (G4 : XG)
    (ron : RO (vw (G.2.1 (F (F a 3) 0))) (aI (G.2.1 (F (F a 3) 1))))
    (rob : RO (vw (G.2.1 (F (F a 4) 0))) (aI (G.2.1 (F (F a 4) 1))))
    (c_G4_F_F_a_3_0 : G4.2.1 (F (F a 3) 0) = G.2.1 (F (F a 3) 0))
    (c_G4_F_F_a_3_1 : G4.2.1 (F (F a 3) 1) = G.2.1 (F (F a 3) 1)) :
    RO (vw (G4.2.1 (F (F a 3) 0))) (aI (G4.2.1 (F (F a 3) 1))) := by simp only [c_G4_F_F_a_3_0, c_G4_F_F_a_3_1]; assumption
theorem v_X10_cut_54_4 {F : Nat → Nat → Nat} (a : Nat) (G : XG) (G4 : XG)
    (ron : RO (vw (G.2.1 (F (F a 3) 0))) (aI (G.2.1 (F (F a 3) 1))))
    (rob : RO (vw (G.2.1 (F (F a 4) 0))) (aI (G.2.1 (F (F a 4) 1))))
    (c_G4_F_F_a_3_0 : G4.2.1 (F (F a 3) 0) = G.2.1 (F (F a 3) 0))
    (c_G4_F_F_a_3_1 : G4.2.1 (F (F a 3) 1) = G.2.1 (F (F a 3) 1)) :
    RO (vw (G4.2.1 (F (F a 3) 0))) (aI (G4.2.1 (F (F a 3) 1))) := by simp only [c_G4_F_F_a_3_0, c_G4_F_F_a_3_1]; assumption
theorem v_X10_cut_71_5 {F : Nat → Nat → Nat} (a : Nat) (G54 : XG)
    (oq54a : RO (vw (G54.2.1 (F (F a 5) 0))) (aI (G54.2.1 (F (F a 5) 1)))) :
    RO (vw (G54.2.1 (F (F a 5) 0))) (aI (G54.2.1 (F (F a 5) 1))) := by
  exact oq54a
theorem v_X10_cut_71_6 {K : Nat → Nat} {F : Nat → Nat → Nat} (a : Nat) (G : XG) (G54 : XG) (G4 : XG) (x8 : Int32) (p0 : Int32) (x15 : Int32) (p1 : Int32) (x33 : Int32)
    (ha : K a = 12)
    (hk9999 : K (F a 11) = 3)
    (hj9999 : F (F a 11) 99 = 0)
    (hk9999a : K (F a 9) = 6)
    (hj9999a : F (F a 9) 99 = 1)
    (hk9999b : K (F a 14) = 11)
    (hj9999b : F (F a 14) 99 = 0)
    (hk9999c : K (F a 10) = 6)
    (hj9999c : F (F a 10) 99 = 2)
    (hk9999d : K (F a 8) = 6)
    (hj9999d : F (F a 8) 99 = 0)
    (hk9999e : K (F a 12) = 4)
    (hj9999e : F (F a 12) 99 = 0)
    (hk9999f : K (F (F a 11) 0) = 21)
    (hj9999f : F (F (F a 11) 0) 99 = 100)
    (hk9999g : K (F (F a 11) 1) = 21)
    (hj9999g : F (F (F a 11) 1) 99 = 101)
    (hk9999h : K (F (F a 11) 2) = 24)
    (hj9999h : F (F (F a 11) 2) 99 = 4)
    (hk9999i : K (F (F a 9) 0) = 22)
    (hj9999j : F (F (F a 9) 0) 99 = 10 * 1 + 0)
    (hk9999j : K (F (F a 9) 1) = 22)
    (hj9999l : F (F (F a 9) 1) 99 = 10 * 1 + 1)
    (hk9999k : K (F (F a 9) 2) = 22)
    (hj9999n : F (F (F a 9) 2) 99 = 10 * 1 + 2)
    (hk9999l : K (F (F a 9) 3) = 22)
    (hj9999p : F (F (F a 9) 3) 99 = 10 * 1 + 3)
    (hk9999m : K (F (F a 9) 4) = 23)
    (hj9999r : F (F (F a 9) 4) 99 = 10 * 1 + 4)
    (hk9999n : K (F (F a 9) 5) = 23)
    (hj9999t : F (F (F a 9) 5) 99 = 10 * 1 + 5)
    (hk9999o : K (F a 16) = 27)
    (hj9999u : F (F a 16) 99 = 0)
    (hk9999p : K (F a 15) = 26)
    (hj9999v : F (F a 15) 99 = 0)
    (hk9999q : K (F (F a 10) 0) = 22)
    (hj9999y : F (F (F a 10) 0) 99 = 10 * 2 + 0)
    (hk9999r : K (F (F a 10) 1) = 22)
    (hj9999z26 : F (F (F a 10) 1) 99 = 10 * 2 + 1)
    (hk9999s : K (F (F a 10) 2) = 22)
    (hj9999z28 : F (F (F a 10) 2) 99 = 10 * 2 + 2)
    (hk9999t : K (F (F a 10) 3) = 22)
    (hj9999z30 : F (F (F a 10) 3) 99 = 10 * 2 + 3)
    (hk9999u : K (F (F a 10) 4) = 23)
    (hj9999z32 : F (F (F a 10) 4) 99 = 10 * 2 + 4)
    (hk9999v : K (F (F a 10) 5) = 23)
    (hj9999z34 : F (F (F a 10) 5) 99 = 10 * 2 + 5)
    (hk9999w : K (F a 3) = 8)
    (hj9999z35 : F (F a 3) 99 = 0)
    (hk9999y : K (F (F a 3) 0) = 20)
    (hj9999z37 : F (F (F a 3) 0) 99 = 0)
    (hk9999z25 : K (F (F a 3) 1) = 21)
    (hj9999z39 : F (F (F a 3) 1) 99 = 0)
    (hk9999z26 : K (F (F a 8) 0) = 22)
    (hj9999z41 : F (F (F a 8) 0) 99 = 10 * 0 + 0)
    (hk9999z27 : K (F (F a 8) 1) = 22)
    (hj9999z43 : F (F (F a 8) 1) 99 = 10 * 0 + 1)
    (hk9999z28 : K (F (F a 8) 2) = 22)
    (hj9999z45 : F (F (F a 8) 2) 99 = 10 * 0 + 2)
    (hk9999z29 : K (F (F a 8) 3) = 22)
    (hj9999z47 : F (F (F a 8) 3) 99 = 10 * 0 + 3)
    (hk9999z30 : K (F (F a 8) 4) = 23)
    (hj9999z49 : F (F (F a 8) 4) 99 = 10 * 0 + 4)
    (hk9999z31 : K (F (F a 8) 5) = 23)
    (hj9999z51 : F (F (F a 8) 5) 99 = 10 * 0 + 5)
    (hk9999z32 : K (F a 5) = 8)
    (hj9999z52 : F (F a 5) 99 = 2)
    (hk9999z33 : K (F (F a 5) 0) = 20)
    (hj9999z54 : F (F (F a 5) 0) 99 = 2)
    (hk9999z34 : K (F (F a 5) 1) = 21)
    (hj9999z56 : F (F (F a 5) 1) 99 = 2)
    (hk9999z35 : K (F (F a 12) 0) = 24)
    (hj9999z57 : F (F (F a 12) 0) 99 = 0)
    (hk9999z36 : K (F (F a 12) 1) = 24)
    (hj9999z58 : F (F (F a 12) 1) 99 = 1)
    (hk9999z37 : K (F (F a 12) 2) = 24)
    (hj9999z59 : F (F (F a 12) 2) 99 = 2)
    (hk9999z38 : K (F (F a 12) 3) = 24)
    (hj9999z60 : F (F (F a 12) 3) 99 = 3)
    (hk9999z39 : K (F a 2) = 2)
    (hj9999z61 : F (F a 2) 99 = 0)
    (hk9999z40 : K (F (F a 2) 1) = 15)
    (hj9999z62 : F (F (F a 2) 1) 99 = 1)
    (hk9999z41 : K (F (F a 2) 0) = 15)
    (hj9999z63 : F (F (F a 2) 0) 99 = 0)
    (hk9999z42 : K (F a 4) = 8)
    (hj9999z64 : F (F a 4) 99 = 1)
    (hk9999z43 : K (F (F a 4) 0) = 20)
    (hj9999z66 : F (F (F a 4) 0) 99 = 1)
    (hk9999z44 : K (F (F a 4) 1) = 21)
    (hj9999z68 : F (F (F a 4) 1) 99 = 1)
    (hfr : XFr [(F a 11, 3), (F a 9, 6), (F a 14, 1), (F a 14, 2), (F a 14, 3), (F a 10, 6), (F a 8, 6), (F a 12, 4)] [F (F a 11) 0, F (F a 11) 1, F (F a 11) 2, F (F a 9) 0, F (F a 9) 1, F (F a 9) 2, F (F a 9) 3, F (F a 9) 4, F (F a 9) 5, F a 16, F a 15, F (F a 10) 0, F (F a 10) 1, F (F a 10) 2, F (F a 10) 3, F (F a 10) 4, F (F a 10) 5, F (F a 3) 0, F (F a 3) 1, F (F a 8) 0, F (F a 8) 1, F (F a 8) 2, F (F a 8) 3, F (F a 8) 4, F (F a 8) 5, F (F a 5) 0, F (F a 5) 1, F (F a 12) 0, F (F a 12) 1, F (F a 12) 2, F (F a 12) 3] [] G G54)
    (hF4 : XFr [(F a 14, 1)] [] [] G G4)
    (hF54 : XFr [] [F (F a 5) 0, F (F a 5) 1] [] G4 G54)
    (ron : RO (vw (G.2.1 (F (F a 3) 0))) (aI (G.2.1 (F (F a 3) 1))))
    (rob : RO (vw (G.2.1 (F (F a 4) 0))) (aI (G.2.1 (F (F a 4) 1))))
    (bko : BKr K G (G.2.2.1 (F (F a 2) 1)))
    (bkn : BKr K G (G.2.2.1 (F (F a 2) 0)))
    (hac : ACo G (G.2.2.1 (F (F a 2) 0)))
    (oq54 : (vw (G54.2.1 (F (F a 5) 0))) = (vw (G.2.1 (F (F a 3) 0))))
    (oq54a : RO (vw (G54.2.1 (F (F a 5) 0))) (aI (G54.2.1 (F (F a 5) 1))))
    (sb : 0 ≤ ((G.1 (F a 2) 2).toInt) ∧ ((G.1 (F a 2) 2).toInt) ≤ 12)
    (sw : 0 ≤ ((G.1 (F a 8) 6).toInt) ∧ ((G.1 (F a 8) 6).toInt) ≤ 1080)
    (t4 : ((G4.1 (F a 14) 1).toInt) = 0)
    (t8 : (x8.toInt = 1 ∧ 0 ≤ p0.toInt ∧ p0.toInt < 3) ∨ (x8.toInt = 0 ∧ (p0.toInt < 0 ∨ 3 ≤ p0.toInt)))
    (c11 : ¬ (x8.toInt = 0))
    (t15 : (x15.toInt = 1 ∧ 0 ≤ p1.toInt ∧ p1.toInt < 30) ∨ (x15.toInt = 0 ∧ (p1.toInt < 0 ∨ 30 ≤ p1.toInt)))
    (c18 : x15.toInt ≠ 0)
    (t33 : (x33.toInt = 1 ∧ (cel (vw (G.2.1 (F (F a 3) 0))) (p0.toInt) (p1.toInt) 0) ≠ -2000) ∨ (x33.toInt = 0 ∧ (cel (vw (G.2.1 (F (F a 3) 0))) (p0.toInt) (p1.toInt) 0) = -2000))
    (c36 : x33.toInt ≠ 0)
    (z57 : (cel (vw (G54.2.1 (F (F a 5) 0))) (p0.toInt) (p1.toInt) 0) = (cel (vw (G.2.1 (F (F a 3) 0))) (p0.toInt) (p1.toInt) 0))
    (c_G54_F_F_a_10_0 : G54.2.1 (F (F a 10) 0) = G.2.1 (F (F a 10) 0))
    (c_G54_F_F_a_10_1 : G54.2.1 (F (F a 10) 1) = G.2.1 (F (F a 10) 1))
    (c_G54_F_F_a_10_2 : G54.2.1 (F (F a 10) 2) = G.2.1 (F (F a 10) 2))
    (c_G54_F_F_a_10_3 : G54.2.1 (F (F a 10) 3) = G.2.1 (F (F a 10) 3))
    (c_G54_F_F_a_10_4 : G54.2.1 (F (F a 10) 4) = G.2.1 (F (F a 10) 4))
    (c_G54_F_F_a_10_5 : G54.2.1 (F (F a 10) 5) = G.2.1 (F (F a 10) 5))
    (c_G54_F_F_a_11_0 : G54.2.1 (F (F a 11) 0) = G.2.1 (F (F a 11) 0))
    (c_G54_F_F_a_11_1 : G54.2.1 (F (F a 11) 1) = G.2.1 (F (F a 11) 1))
    (c_G54_F_F_a_11_2 : G54.2.1 (F (F a 11) 2) = G.2.1 (F (F a 11) 2))
    (c_G54_F_F_a_12_0 : G54.2.1 (F (F a 12) 0) = G.2.1 (F (F a 12) 0))
    (c_G54_F_F_a_12_1 : G54.2.1 (F (F a 12) 1) = G.2.1 (F (F a 12) 1))
    (c_G54_F_F_a_12_2 : G54.2.1 (F (F a 12) 2) = G.2.1 (F (F a 12) 2))
    (c_G54_F_F_a_12_3 : G54.2.1 (F (F a 12) 3) = G.2.1 (F (F a 12) 3))
    (c_G54_F_F_a_3_0 : G54.2.1 (F (F a 3) 0) = G.2.1 (F (F a 3) 0))
    (c_G54_F_F_a_3_1 : G54.2.1 (F (F a 3) 1) = G.2.1 (F (F a 3) 1))
    (c_G54_F_F_a_8_0 : G54.2.1 (F (F a 8) 0) = G.2.1 (F (F a 8) 0))
    (c_G54_F_F_a_8_1 : G54.2.1 (F (F a 8) 1) = G.2.1 (F (F a 8) 1))
    (c_G54_F_F_a_8_2 : G54.2.1 (F (F a 8) 2) = G.2.1 (F (F a 8) 2))
    (c_G54_F_F_a_8_3 : G54.2.1 (F (F a 8) 3) = G.2.1 (F (F a 8) 3))
    (c_G54_F_F_a_8_4 : G54.2.1 (F (F a 8) 4) = G.2.1 (F (F a 8) 4))
    (c_G54_F_F_a_8_5 : G54.2.1 (F (F a 8) 5) = G.2.1 (F (F a 8) 5))
    (c_G54_F_F_a_9_0 : G54.2.1 (F (F a 9) 0) = G.2.1 (F (F a 9) 0))
    (c_G54_F_F_a_9_1 : G54.2.1 (F (F a 9) 1) = G.2.1 (F (F a 9) 1))
    (c_G54_F_F_a_9_2 : G54.2.1 (F (F a 9) 2) = G.2.1 (F (F a 9) 2))
    (c_G54_F_F_a_9_3 : G54.2.1 (F (F a 9) 3) = G.2.1 (F (F a 9) 3))
    (c_G54_F_F_a_9_4 : G54.2.1 (F (F a 9) 4) = G.2.1 (F (F a 9) 4))
    (c_G54_F_F_a_9_5 : G54.2.1 (F (F a 9) 5) = G.2.1 (F (F a 9) 5))
    (c_G54_F_a_15 : G54.2.1 (F a 15) = G.2.1 (F a 15))
    (c_G54_F_a_16 : G54.2.1 (F a 16) = G.2.1 (F a 16))
    (r_G54_F_F_a_2_0 : G54.2.2.1 (F (F a 2) 0) = G.2.2.1 (F (F a 2) 0))
    (d_G54_F_a_10_6 : G54.1 (F a 10) 6 = G.1 (F a 10) 6)
    (d_G54_F_a_11_3 : G54.1 (F a 11) 3 = G.1 (F a 11) 3)
    (d_G54_F_a_12_4 : G54.1 (F a 12) 4 = G.1 (F a 12) 4)
    (d_G54_F_a_14_1 : G54.1 (F a 14) 1 = G4.1 (F a 14) 1)
    (d_G54_F_a_14_2 : G54.1 (F a 14) 2 = G.1 (F a 14) 2)
    (d_G54_F_a_14_3 : G54.1 (F a 14) 3 = G.1 (F a 14) 3)
    (d_G54_F_a_8_6 : G54.1 (F a 8) 6 = G.1 (F a 8) 6)
    (d_G54_F_a_9_6 : G54.1 (F a 9) 6 = G.1 (F a 9) 6) :
    BKr K G54 (G54.2.2.1 (F (F a 2) 0)) := by
  have hd : ∀ p, p ∈ [(F a 11, 3), (F a 9, 6), (F a 14, 1), (F a 14, 2), (F a 14, 3), (F a 10, 6), (F a 8, 6), (F a 12, 4)] → K p.1 ≠ 9 := (List.forall_mem_cons.mpr ⟨(show K (F a 11) ≠ 9 by omega), List.forall_mem_cons.mpr ⟨(show K (F a 9) ≠ 9 by omega), List.forall_mem_cons.mpr ⟨(show K (F a 14) ≠ 9 by omega), List.forall_mem_cons.mpr ⟨(show K (F a 14) ≠ 9 by omega), List.forall_mem_cons.mpr ⟨(show K (F a 14) ≠ 9 by omega), List.forall_mem_cons.mpr ⟨(show K (F a 10) ≠ 9 by omega), List.forall_mem_cons.mpr ⟨(show K (F a 8) ≠ 9 by omega), List.forall_mem_cons.mpr ⟨(show K (F a 12) ≠ 9 by omega), fun _ h => by cases h⟩⟩⟩⟩⟩⟩⟩⟩)
  rw [show G54.2.2.1 (F (F a 2) 0) = G.2.2.1 (F (F a 2) 0) by assumption]
  exact bkn.fr hfr hd
theorem v_X10_cut_71_7 {K : Nat → Nat} {F : Nat → Nat → Nat} (a : Nat) (G : XG) (G54 : XG) (G4 : XG) (x8 : Int32) (p0 : Int32) (x15 : Int32) (p1 : Int32) (x33 : Int32)
    (ha : K a = 12)
    (hk9999 : K (F a 11) = 3)
    (hj9999 : F (F a 11) 99 = 0)
    (hk9999a : K (F a 9) = 6)
    (hj9999a : F (F a 9) 99 = 1)
    (hk9999b : K (F a 14) = 11)
    (hj9999b : F (F a 14) 99 = 0)
    (hk9999c : K (F a 10) = 6)
    (hj9999c : F (F a 10) 99 = 2)
    (hk9999d : K (F a 8) = 6)
    (hj9999d : F (F a 8) 99 = 0)
    (hk9999e : K (F a 12) = 4)
    (hj9999e : F (F a 12) 99 = 0)
    (hk9999f : K (F (F a 11) 0) = 21)
    (hj9999f : F (F (F a 11) 0) 99 = 100)
    (hk9999g : K (F (F a 11) 1) = 21)
    (hj9999g : F (F (F a 11) 1) 99 = 101)
    (hk9999h : K (F (F a 11) 2) = 24)
    (hj9999h : F (F (F a 11) 2) 99 = 4)
    (hk9999i : K (F (F a 9) 0) = 22)
    (hj9999j : F (F (F a 9) 0) 99 = 10 * 1 + 0)
    (hk9999j : K (F (F a 9) 1) = 22)
    (hj9999l : F (F (F a 9) 1) 99 = 10 * 1 + 1)
    (hk9999k : K (F (F a 9) 2) = 22)
    (hj9999n : F (F (F a 9) 2) 99 = 10 * 1 + 2)
    (hk9999l : K (F (F a 9) 3) = 22)
    (hj9999p : F (F (F a 9) 3) 99 = 10 * 1 + 3)
    (hk9999m : K (F (F a 9) 4) = 23)
    (hj9999r : F (F (F a 9) 4) 99 = 10 * 1 + 4)
    (hk9999n : K (F (F a 9) 5) = 23)
    (hj9999t : F (F (F a 9) 5) 99 = 10 * 1 + 5)
    (hk9999o : K (F a 16) = 27)
    (hj9999u : F (F a 16) 99 = 0)
    (hk9999p : K (F a 15) = 26)
    (hj9999v : F (F a 15) 99 = 0)
    (hk9999q : K (F (F a 10) 0) = 22)
    (hj9999y : F (F (F a 10) 0) 99 = 10 * 2 + 0)
    (hk9999r : K (F (F a 10) 1) = 22)
    (hj9999z26 : F (F (F a 10) 1) 99 = 10 * 2 + 1)
    (hk9999s : K (F (F a 10) 2) = 22)
    (hj9999z28 : F (F (F a 10) 2) 99 = 10 * 2 + 2)
    (hk9999t : K (F (F a 10) 3) = 22)
    (hj9999z30 : F (F (F a 10) 3) 99 = 10 * 2 + 3)
    (hk9999u : K (F (F a 10) 4) = 23)
    (hj9999z32 : F (F (F a 10) 4) 99 = 10 * 2 + 4)
    (hk9999v : K (F (F a 10) 5) = 23)
    (hj9999z34 : F (F (F a 10) 5) 99 = 10 * 2 + 5)
    (hk9999w : K (F a 3) = 8)
    (hj9999z35 : F (F a 3) 99 = 0)
    (hk9999y : K (F (F a 3) 0) = 20)
    (hj9999z37 : F (F (F a 3) 0) 99 = 0)
    (hk9999z25 : K (F (F a 3) 1) = 21)
    (hj9999z39 : F (F (F a 3) 1) 99 = 0)
    (hk9999z26 : K (F (F a 8) 0) = 22)
    (hj9999z41 : F (F (F a 8) 0) 99 = 10 * 0 + 0)
    (hk9999z27 : K (F (F a 8) 1) = 22)
    (hj9999z43 : F (F (F a 8) 1) 99 = 10 * 0 + 1)
    (hk9999z28 : K (F (F a 8) 2) = 22)
    (hj9999z45 : F (F (F a 8) 2) 99 = 10 * 0 + 2)
    (hk9999z29 : K (F (F a 8) 3) = 22)
    (hj9999z47 : F (F (F a 8) 3) 99 = 10 * 0 + 3)
    (hk9999z30 : K (F (F a 8) 4) = 23)
    (hj9999z49 : F (F (F a 8) 4) 99 = 10 * 0 + 4)
    (hk9999z31 : K (F (F a 8) 5) = 23)
    (hj9999z51 : F (F (F a 8) 5) 99 = 10 * 0 + 5)
    (hk9999z32 : K (F a 5) = 8)
    (hj9999z52 : F (F a 5) 99 = 2)
    (hk9999z33 : K (F (F a 5) 0) = 20)
    (hj9999z54 : F (F (F a 5) 0) 99 = 2)
    (hk9999z34 : K (F (F a 5) 1) = 21)
    (hj9999z56 : F (F (F a 5) 1) 99 = 2)
    (hk9999z35 : K (F (F a 12) 0) = 24)
    (hj9999z57 : F (F (F a 12) 0) 99 = 0)
    (hk9999z36 : K (F (F a 12) 1) = 24)
    (hj9999z58 : F (F (F a 12) 1) 99 = 1)
    (hk9999z37 : K (F (F a 12) 2) = 24)
    (hj9999z59 : F (F (F a 12) 2) 99 = 2)
    (hk9999z38 : K (F (F a 12) 3) = 24)
    (hj9999z60 : F (F (F a 12) 3) 99 = 3)
    (hk9999z39 : K (F a 2) = 2)
    (hj9999z61 : F (F a 2) 99 = 0)
    (hk9999z40 : K (F (F a 2) 1) = 15)
    (hj9999z62 : F (F (F a 2) 1) 99 = 1)
    (hk9999z41 : K (F (F a 2) 0) = 15)
    (hj9999z63 : F (F (F a 2) 0) 99 = 0)
    (hk9999z42 : K (F a 4) = 8)
    (hj9999z64 : F (F a 4) 99 = 1)
    (hk9999z43 : K (F (F a 4) 0) = 20)
    (hj9999z66 : F (F (F a 4) 0) 99 = 1)
    (hk9999z44 : K (F (F a 4) 1) = 21)
    (hj9999z68 : F (F (F a 4) 1) 99 = 1)
    (hfr : XFr [(F a 11, 3), (F a 9, 6), (F a 14, 1), (F a 14, 2), (F a 14, 3), (F a 10, 6), (F a 8, 6), (F a 12, 4)] [F (F a 11) 0, F (F a 11) 1, F (F a 11) 2, F (F a 9) 0, F (F a 9) 1, F (F a 9) 2, F (F a 9) 3, F (F a 9) 4, F (F a 9) 5, F a 16, F a 15, F (F a 10) 0, F (F a 10) 1, F (F a 10) 2, F (F a 10) 3, F (F a 10) 4, F (F a 10) 5, F (F a 3) 0, F (F a 3) 1, F (F a 8) 0, F (F a 8) 1, F (F a 8) 2, F (F a 8) 3, F (F a 8) 4, F (F a 8) 5, F (F a 5) 0, F (F a 5) 1, F (F a 12) 0, F (F a 12) 1, F (F a 12) 2, F (F a 12) 3] [] G G54)
    (hF4 : XFr [(F a 14, 1)] [] [] G G4)
    (hF54 : XFr [] [F (F a 5) 0, F (F a 5) 1] [] G4 G54)
    (ron : RO (vw (G.2.1 (F (F a 3) 0))) (aI (G.2.1 (F (F a 3) 1))))
    (rob : RO (vw (G.2.1 (F (F a 4) 0))) (aI (G.2.1 (F (F a 4) 1))))
    (bko : BKr K G (G.2.2.1 (F (F a 2) 1)))
    (bkn : BKr K G (G.2.2.1 (F (F a 2) 0)))
    (hac : ACo G (G.2.2.1 (F (F a 2) 0)))
    (oq54 : (vw (G54.2.1 (F (F a 5) 0))) = (vw (G.2.1 (F (F a 3) 0))))
    (oq54a : RO (vw (G54.2.1 (F (F a 5) 0))) (aI (G54.2.1 (F (F a 5) 1))))
    (sb : 0 ≤ ((G.1 (F a 2) 2).toInt) ∧ ((G.1 (F a 2) 2).toInt) ≤ 12)
    (sw : 0 ≤ ((G.1 (F a 8) 6).toInt) ∧ ((G.1 (F a 8) 6).toInt) ≤ 1080)
    (t4 : ((G4.1 (F a 14) 1).toInt) = 0)
    (t8 : (x8.toInt = 1 ∧ 0 ≤ p0.toInt ∧ p0.toInt < 3) ∨ (x8.toInt = 0 ∧ (p0.toInt < 0 ∨ 3 ≤ p0.toInt)))
    (c11 : ¬ (x8.toInt = 0))
    (t15 : (x15.toInt = 1 ∧ 0 ≤ p1.toInt ∧ p1.toInt < 30) ∨ (x15.toInt = 0 ∧ (p1.toInt < 0 ∨ 30 ≤ p1.toInt)))
    (c18 : x15.toInt ≠ 0)
    (t33 : (x33.toInt = 1 ∧ (cel (vw (G.2.1 (F (F a 3) 0))) (p0.toInt) (p1.toInt) 0) ≠ -2000) ∨ (x33.toInt = 0 ∧ (cel (vw (G.2.1 (F (F a 3) 0))) (p0.toInt) (p1.toInt) 0) = -2000))
    (c36 : x33.toInt ≠ 0)
    (z57 : (cel (vw (G54.2.1 (F (F a 5) 0))) (p0.toInt) (p1.toInt) 0) = (cel (vw (G.2.1 (F (F a 3) 0))) (p0.toInt) (p1.toInt) 0))
    (c_G54_F_F_a_10_0 : G54.2.1 (F (F a 10) 0) = G.2.1 (F (F a 10) 0))
    (c_G54_F_F_a_10_1 : G54.2.1 (F (F a 10) 1) = G.2.1 (F (F a 10) 1))
    (c_G54_F_F_a_10_2 : G54.2.1 (F (F a 10) 2) = G.2.1 (F (F a 10) 2))
    (c_G54_F_F_a_10_3 : G54.2.1 (F (F a 10) 3) = G.2.1 (F (F a 10) 3))
    (c_G54_F_F_a_10_4 : G54.2.1 (F (F a 10) 4) = G.2.1 (F (F a 10) 4))
    (c_G54_F_F_a_10_5 : G54.2.1 (F (F a 10) 5) = G.2.1 (F (F a 10) 5))
    (c_G54_F_F_a_11_0 : G54.2.1 (F (F a 11) 0) = G.2.1 (F (F a 11) 0))
    (c_G54_F_F_a_11_1 : G54.2.1 (F (F a 11) 1) = G.2.1 (F (F a 11) 1))
    (c_G54_F_F_a_11_2 : G54.2.1 (F (F a 11) 2) = G.2.1 (F (F a 11) 2))
    (c_G54_F_F_a_12_0 : G54.2.1 (F (F a 12) 0) = G.2.1 (F (F a 12) 0))
    (c_G54_F_F_a_12_1 : G54.2.1 (F (F a 12) 1) = G.2.1 (F (F a 12) 1))
    (c_G54_F_F_a_12_2 : G54.2.1 (F (F a 12) 2) = G.2.1 (F (F a 12) 2))
    (c_G54_F_F_a_12_3 : G54.2.1 (F (F a 12) 3) = G.2.1 (F (F a 12) 3))
    (c_G54_F_F_a_3_0 : G54.2.1 (F (F a 3) 0) = G.2.1 (F (F a 3) 0))
    (c_G54_F_F_a_3_1 : G54.2.1 (F (F a 3) 1) = G.2.1 (F (F a 3) 1))
    (c_G54_F_F_a_8_0 : G54.2.1 (F (F a 8) 0) = G.2.1 (F (F a 8) 0))
    (c_G54_F_F_a_8_1 : G54.2.1 (F (F a 8) 1) = G.2.1 (F (F a 8) 1))
    (c_G54_F_F_a_8_2 : G54.2.1 (F (F a 8) 2) = G.2.1 (F (F a 8) 2))
    (c_G54_F_F_a_8_3 : G54.2.1 (F (F a 8) 3) = G.2.1 (F (F a 8) 3))
    (c_G54_F_F_a_8_4 : G54.2.1 (F (F a 8) 4) = G.2.1 (F (F a 8) 4))
    (c_G54_F_F_a_8_5 : G54.2.1 (F (F a 8) 5) = G.2.1 (F (F a 8) 5))
    (c_G54_F_F_a_9_0 : G54.2.1 (F (F a 9) 0) = G.2.1 (F (F a 9) 0))
    (c_G54_F_F_a_9_1 : G54.2.1 (F (F a 9) 1) = G.2.1 (F (F a 9) 1))
    (c_G54_F_F_a_9_2 : G54.2.1 (F (F a 9) 2) = G.2.1 (F (F a 9) 2))
    (c_G54_F_F_a_9_3 : G54.2.1 (F (F a 9) 3) = G.2.1 (F (F a 9) 3))
    (c_G54_F_F_a_9_4 : G54.2.1 (F (F a 9) 4) = G.2.1 (F (F a 9) 4))
    (c_G54_F_F_a_9_5 : G54.2.1 (F (F a 9) 5) = G.2.1 (F (F a 9) 5))
    (c_G54_F_a_15 : G54.2.1 (F a 15) = G.2.1 (F a 15))
    (c_G54_F_a_16 : G54.2.1 (F a 16) = G.2.1 (F a 16))
    (r_G54_F_F_a_2_0 : G54.2.2.1 (F (F a 2) 0) = G.2.2.1 (F (F a 2) 0))
    (d_G54_F_a_10_6 : G54.1 (F a 10) 6 = G.1 (F a 10) 6)
    (d_G54_F_a_11_3 : G54.1 (F a 11) 3 = G.1 (F a 11) 3)
    (d_G54_F_a_12_4 : G54.1 (F a 12) 4 = G.1 (F a 12) 4)
    (d_G54_F_a_14_1 : G54.1 (F a 14) 1 = G4.1 (F a 14) 1)
    (d_G54_F_a_14_2 : G54.1 (F a 14) 2 = G.1 (F a 14) 2)
    (d_G54_F_a_14_3 : G54.1 (F a 14) 3 = G.1 (F a 14) 3)
    (d_G54_F_a_8_6 : G54.1 (F a 8) 6 = G.1 (F a 8) 6)
    (d_G54_F_a_9_6 : G54.1 (F a 9) 6 = G.1 (F a 9) 6) :
    ACo G54 (G54.2.2.1 (F (F a 2) 0)) := by
  have hd : ∀ p, p ∈ [(F a 11, 3), (F a 9, 6), (F a 14, 1), (F a 14, 2), (F a 14, 3), (F a 10, 6), (F a 8, 6), (F a 12, 4)] → K p.1 ≠ 9 := (List.forall_mem_cons.mpr ⟨(show K (F a 11) ≠ 9 by omega), List.forall_mem_cons.mpr ⟨(show K (F a 9) ≠ 9 by omega), List.forall_mem_cons.mpr ⟨(show K (F a 14) ≠ 9 by omega), List.forall_mem_cons.mpr ⟨(show K (F a 14) ≠ 9 by omega), List.forall_mem_cons.mpr ⟨(show K (F a 14) ≠ 9 by omega), List.forall_mem_cons.mpr ⟨(show K (F a 10) ≠ 9 by omega), List.forall_mem_cons.mpr ⟨(show K (F a 8) ≠ 9 by omega), List.forall_mem_cons.mpr ⟨(show K (F a 12) ≠ 9 by omega), fun _ h => by cases h⟩⟩⟩⟩⟩⟩⟩⟩)
  rw [show G54.2.2.1 (F (F a 2) 0) = G.2.2.1 (F (F a 2) 0) by assumption]
  exact hac.cg (fun i q hi hq => hfr.rule hd (bkn i q hi hq).1)
theorem v_X10_cut_75_8 {F : Nat → Nat → Nat} (a : Nat) (G : XG) (G71 : XG) (G54 : XG)
    (ron : RO (vw (G.2.1 (F (F a 3) 0))) (aI (G.2.1 (F (F a 3) 1))))
    (rob : RO (vw (G.2.1 (F (F a 4) 0))) (aI (G.2.1 (F (F a 4) 1))))
    (oq54a : RO (vw (G54.2.1 (F (F a 5) 0))) (aI (G54.2.1 (F (F a 5) 1))))
    (oq71a : RO (vw (G71.2.1 (F (F a 5) 0))) (aI (G71.2.1 (F (F a 5) 1))))
    (c_G71_F_F_a_3_0 : G71.2.1 (F (F a 3) 0) = G.2.1 (F (F a 3) 0))
    (c_G71_F_F_a_3_1 : G71.2.1 (F (F a 3) 1) = G.2.1 (F (F a 3) 1)) :
    RO (vw (G71.2.1 (F (F a 3) 0))) (aI (G71.2.1 (F (F a 3) 1))) := by simp only [c_G71_F_F_a_3_0, c_G71_F_F_a_3_1]; assumption
theorem v_X10_cut_75_9 {F : Nat → Nat → Nat} (a : Nat) (G71 : XG)
    (oq71a : RO (vw (G71.2.1 (F (F a 5) 0))) (aI (G71.2.1 (F (F a 5) 1)))) :
    RO (vw (G71.2.1 (F (F a 5) 0))) (aI (G71.2.1 (F (F a 5) 1))) := by
  exact oq71a
theorem v_X10_cut_75_10 {F : Nat → Nat → Nat} (a : Nat) (G : XG) (G71 : XG) (G54 : XG)
    (ron : RO (vw (G.2.1 (F (F a 3) 0))) (aI (G.2.1 (F (F a 3) 1))))
    (rob : RO (vw (G.2.1 (F (F a 4) 0))) (aI (G.2.1 (F (F a 4) 1))))
    (oq54a : RO (vw (G54.2.1 (F (F a 5) 0))) (aI (G54.2.1 (F (F a 5) 1))))
    (oq71a : RO (vw (G71.2.1 (F (F a 5) 0))) (aI (G71.2.1 (F (F a 5) 1))))
    (c_G71_F_F_a_4_0 : G71.2.1 (F (F a 4) 0) = G.2.1 (F (F a 4) 0))
    (c_G71_F_F_a_4_1 : G71.2.1 (F (F a 4) 1) = G.2.1 (F (F a 4) 1)) :
    RO (vw (G71.2.1 (F (F a 4) 0))) (aI (G71.2.1 (F (F a 4) 1))) := by simp only [c_G71_F_F_a_4_0, c_G71_F_F_a_4_1]; assumption
theorem v_X10_cut_75_11 {K : Nat → Nat} {F : Nat → Nat → Nat} (a : Nat) (G : XG) (G71 : XG) (G4 : XG) (G54 : XG) (p0 : Int32) (p1 : Int32) (x8 : Int32) (x15 : Int32) (x33 : Int32)
    (ha : K a = 12)
    (hk9999 : K (F a 11) = 3)
    (hj9999 : F (F a 11) 99 = 0)
    (hk9999a : K (F a 9) = 6)
    (hj9999a : F (F a 9) 99 = 1)
    (hk9999b : K (F a 14) = 11)
    (hj9999b : F (F a 14) 99 = 0)
    (hk9999c : K (F a 10) = 6)
    (hj9999c : F (F a 10) 99 = 2)
    (hk9999d : K (F a 8) = 6)
    (hj9999d : F (F a 8) 99 = 0)
    (hk9999e : K (F a 12) = 4)
    (hj9999e : F (F a 12) 99 = 0)
    (hk9999f : K (F (F a 11) 0) = 21)
    (hj9999f : F (F (F a 11) 0) 99 = 100)
    (hk9999g : K (F (F a 11) 1) = 21)
    (hj9999g : F (F (F a 11) 1) 99 = 101)
    (hk9999h : K (F (F a 11) 2) = 24)
    (hj9999h : F (F (F a 11) 2) 99 = 4)
    (hk9999i : K (F (F a 9) 0) = 22)
    (hj9999j : F (F (F a 9) 0) 99 = 10 * 1 + 0)
    (hk9999j : K (F (F a 9) 1) = 22)
    (hj9999l : F (F (F a 9) 1) 99 = 10 * 1 + 1)
    (hk9999k : K (F (F a 9) 2) = 22)
    (hj9999n : F (F (F a 9) 2) 99 = 10 * 1 + 2)
    (hk9999l : K (F (F a 9) 3) = 22)
    (hj9999p : F (F (F a 9) 3) 99 = 10 * 1 + 3)
    (hk9999m : K (F (F a 9) 4) = 23)
    (hj9999r : F (F (F a 9) 4) 99 = 10 * 1 + 4)
    (hk9999n : K (F (F a 9) 5) = 23)
    (hj9999t : F (F (F a 9) 5) 99 = 10 * 1 + 5)
    (hk9999o : K (F a 16) = 27)
    (hj9999u : F (F a 16) 99 = 0)
    (hk9999p : K (F a 15) = 26)
    (hj9999v : F (F a 15) 99 = 0)
    (hk9999q : K (F (F a 10) 0) = 22)
    (hj9999y : F (F (F a 10) 0) 99 = 10 * 2 + 0)
    (hk9999r : K (F (F a 10) 1) = 22)
    (hj9999z26 : F (F (F a 10) 1) 99 = 10 * 2 + 1)
    (hk9999s : K (F (F a 10) 2) = 22)
    (hj9999z28 : F (F (F a 10) 2) 99 = 10 * 2 + 2)
    (hk9999t : K (F (F a 10) 3) = 22)
    (hj9999z30 : F (F (F a 10) 3) 99 = 10 * 2 + 3)
    (hk9999u : K (F (F a 10) 4) = 23)
    (hj9999z32 : F (F (F a 10) 4) 99 = 10 * 2 + 4)
    (hk9999v : K (F (F a 10) 5) = 23)
    (hj9999z34 : F (F (F a 10) 5) 99 = 10 * 2 + 5)
    (hk9999w : K (F a 3) = 8)
    (hj9999z35 : F (F a 3) 99 = 0)
    (hk9999y : K (F (F a 3) 0) = 20)
    (hj9999z37 : F (F (F a 3) 0) 99 = 0)
    (hk9999z25 : K (F (F a 3) 1) = 21)
    (hj9999z39 : F (F (F a 3) 1) 99 = 0)
    (hk9999z26 : K (F (F a 8) 0) = 22)
    (hj9999z41 : F (F (F a 8) 0) 99 = 10 * 0 + 0)
    (hk9999z27 : K (F (F a 8) 1) = 22)
    (hj9999z43 : F (F (F a 8) 1) 99 = 10 * 0 + 1)
    (hk9999z28 : K (F (F a 8) 2) = 22)
    (hj9999z45 : F (F (F a 8) 2) 99 = 10 * 0 + 2)
    (hk9999z29 : K (F (F a 8) 3) = 22)
    (hj9999z47 : F (F (F a 8) 3) 99 = 10 * 0 + 3)
    (hk9999z30 : K (F (F a 8) 4) = 23)
    (hj9999z49 : F (F (F a 8) 4) 99 = 10 * 0 + 4)
    (hk9999z31 : K (F (F a 8) 5) = 23)
    (hj9999z51 : F (F (F a 8) 5) 99 = 10 * 0 + 5)
    (hk9999z32 : K (F a 5) = 8)
    (hj9999z52 : F (F a 5) 99 = 2)
    (hk9999z33 : K (F (F a 5) 0) = 20)
    (hj9999z54 : F (F (F a 5) 0) 99 = 2)
    (hk9999z34 : K (F (F a 5) 1) = 21)
    (hj9999z56 : F (F (F a 5) 1) 99 = 2)
    (hk9999z35 : K (F (F a 12) 0) = 24)
    (hj9999z57 : F (F (F a 12) 0) 99 = 0)
    (hk9999z36 : K (F (F a 12) 1) = 24)
    (hj9999z58 : F (F (F a 12) 1) 99 = 1)
    (hk9999z37 : K (F (F a 12) 2) = 24)
    (hj9999z59 : F (F (F a 12) 2) 99 = 2)
    (hk9999z38 : K (F (F a 12) 3) = 24)
    (hj9999z60 : F (F (F a 12) 3) 99 = 3)
    (hk9999z39 : K (F a 2) = 2)
    (hj9999z61 : F (F a 2) 99 = 0)
    (hk9999z40 : K (F (F a 2) 1) = 15)
    (hj9999z62 : F (F (F a 2) 1) 99 = 1)
    (hk9999z41 : K (F (F a 2) 0) = 15)
    (hj9999z63 : F (F (F a 2) 0) 99 = 0)
    (hk9999z42 : K (F a 4) = 8)
    (hj9999z64 : F (F a 4) 99 = 1)
    (hk9999z43 : K (F (F a 4) 0) = 20)
    (hj9999z66 : F (F (F a 4) 0) 99 = 1)
    (hk9999z44 : K (F (F a 4) 1) = 21)
    (hj9999z68 : F (F (F a 4) 1) 99 = 1)
    (hfr : XFr [(F a 11, 3), (F a 9, 6), (F a 14, 1), (F a 14, 2), (F a 14, 3), (F a 10, 6), (F a 8, 6), (F a 12, 4)] [F (F a 11) 0, F (F a 11) 1, F (F a 11) 2, F (F a 9) 0, F (F a 9) 1, F (F a 9) 2, F (F a 9) 3, F (F a 9) 4, F (F a 9) 5, F a 16, F a 15, F (F a 10) 0, F (F a 10) 1, F (F a 10) 2, F (F a 10) 3, F (F a 10) 4, F (F a 10) 5, F (F a 3) 0, F (F a 3) 1, F (F a 8) 0, F (F a 8) 1, F (F a 8) 2, F (F a 8) 3, F (F a 8) 4, F (F a 8) 5, F (F a 5) 0, F (F a 5) 1, F (F a 12) 0, F (F a 12) 1, F (F a 12) 2, F (F a 12) 3] [] G G71)
    (hF4 : XFr [(F a 14, 1)] [] [] G G4)
    (hF54 : XFr [] [F (F a 5) 0, F (F a 5) 1] [] G4 G54)
    (hF71 : XFr [(F a 12, 4)] [F (F a 12) 0, F (F a 12) 1, F (F a 12) 2, F (F a 12) 3, F (F a 5) 0, F (F a 5) 1] [] G54 G71)
    (ron : RO (vw (G.2.1 (F (F a 3) 0))) (aI (G.2.1 (F (F a 3) 1))))
    (rob : RO (vw (G.2.1 (F (F a 4) 0))) (aI (G.2.1 (F (F a 4) 1))))
    (bko : BKr K G (G.2.2.1 (F (F a 2) 1)))
    (bkn : BKr K G (G.2.2.1 (F (F a 2) 0)))
    (hac : ACo G (G.2.2.1 (F (F a 2) 0)))
    (oq54 : (vw (G54.2.1 (F (F a 5) 0))) = (vw (G.2.1 (F (F a 3) 0))))
    (oq54a : RO (vw (G54.2.1 (F (F a 5) 0))) (aI (G54.2.1 (F (F a 5) 1))))
    (oq71 : (vw (G71.2.1 (F (F a 5) 0))) = cfin (clsA G54 (G54.2.2.1 (F (F a 2) 0))) (clsT G54 (G54.2.2.1 (F (F a 2) 0))) (clsC G54 (G54.2.2.1 (F (F a 2) 0))) ([(p0.toInt, p1.toInt, 0, 0)], rfil (vw (G54.2.1 (F (F a 5) 0))) p0.toInt p1.toInt (-2000) 3))
    (oq71a : RO (vw (G71.2.1 (F (F a 5) 0))) (aI (G71.2.1 (F (F a 5) 1))))
    (sb : 0 ≤ ((G.1 (F a 2) 2).toInt) ∧ ((G.1 (F a 2) 2).toInt) ≤ 12)
    (sw : 0 ≤ ((G.1 (F a 8) 6).toInt) ∧ ((G.1 (F a 8) 6).toInt) ≤ 1080)
    (t4 : ((G4.1 (F a 14) 1).toInt) = 0)
    (t8 : (x8.toInt = 1 ∧ 0 ≤ p0.toInt ∧ p0.toInt < 3) ∨ (x8.toInt = 0 ∧ (p0.toInt < 0 ∨ 3 ≤ p0.toInt)))
    (c11 : ¬ (x8.toInt = 0))
    (t15 : (x15.toInt = 1 ∧ 0 ≤ p1.toInt ∧ p1.toInt < 30) ∨ (x15.toInt = 0 ∧ (p1.toInt < 0 ∨ 30 ≤ p1.toInt)))
    (c18 : x15.toInt ≠ 0)
    (t33 : (x33.toInt = 1 ∧ (cel (vw (G.2.1 (F (F a 3) 0))) (p0.toInt) (p1.toInt) 0) ≠ -2000) ∨ (x33.toInt = 0 ∧ (cel (vw (G.2.1 (F (F a 3) 0))) (p0.toInt) (p1.toInt) 0) = -2000))
    (c36 : x33.toInt ≠ 0)
    (z57 : (cel (vw (G54.2.1 (F (F a 5) 0))) (p0.toInt) (p1.toInt) 0) = (cel (vw (G.2.1 (F (F a 3) 0))) (p0.toInt) (p1.toInt) 0))
    (c_G71_F_F_a_10_0 : G71.2.1 (F (F a 10) 0) = G.2.1 (F (F a 10) 0))
    (c_G71_F_F_a_10_1 : G71.2.1 (F (F a 10) 1) = G.2.1 (F (F a 10) 1))
    (c_G71_F_F_a_10_2 : G71.2.1 (F (F a 10) 2) = G.2.1 (F (F a 10) 2))
    (c_G71_F_F_a_10_3 : G71.2.1 (F (F a 10) 3) = G.2.1 (F (F a 10) 3))
    (c_G71_F_F_a_10_4 : G71.2.1 (F (F a 10) 4) = G.2.1 (F (F a 10) 4))
    (c_G71_F_F_a_10_5 : G71.2.1 (F (F a 10) 5) = G.2.1 (F (F a 10) 5))
    (c_G71_F_F_a_11_0 : G71.2.1 (F (F a 11) 0) = G.2.1 (F (F a 11) 0))
    (c_G71_F_F_a_11_1 : G71.2.1 (F (F a 11) 1) = G.2.1 (F (F a 11) 1))
    (c_G71_F_F_a_11_2 : G71.2.1 (F (F a 11) 2) = G.2.1 (F (F a 11) 2))
    (c_G71_F_F_a_3_0 : G71.2.1 (F (F a 3) 0) = G.2.1 (F (F a 3) 0))
    (c_G71_F_F_a_3_1 : G71.2.1 (F (F a 3) 1) = G.2.1 (F (F a 3) 1))
    (c_G71_F_F_a_8_0 : G71.2.1 (F (F a 8) 0) = G.2.1 (F (F a 8) 0))
    (c_G71_F_F_a_8_1 : G71.2.1 (F (F a 8) 1) = G.2.1 (F (F a 8) 1))
    (c_G71_F_F_a_8_2 : G71.2.1 (F (F a 8) 2) = G.2.1 (F (F a 8) 2))
    (c_G71_F_F_a_8_3 : G71.2.1 (F (F a 8) 3) = G.2.1 (F (F a 8) 3))
    (c_G71_F_F_a_8_4 : G71.2.1 (F (F a 8) 4) = G.2.1 (F (F a 8) 4))
    (c_G71_F_F_a_8_5 : G71.2.1 (F (F a 8) 5) = G.2.1 (F (F a 8) 5))
    (c_G71_F_F_a_9_0 : G71.2.1 (F (F a 9) 0) = G.2.1 (F (F a 9) 0))
    (c_G71_F_F_a_9_1 : G71.2.1 (F (F a 9) 1) = G.2.1 (F (F a 9) 1))
    (c_G71_F_F_a_9_2 : G71.2.1 (F (F a 9) 2) = G.2.1 (F (F a 9) 2))
    (c_G71_F_F_a_9_3 : G71.2.1 (F (F a 9) 3) = G.2.1 (F (F a 9) 3))
    (c_G71_F_F_a_9_4 : G71.2.1 (F (F a 9) 4) = G.2.1 (F (F a 9) 4))
    (c_G71_F_F_a_9_5 : G71.2.1 (F (F a 9) 5) = G.2.1 (F (F a 9) 5))
    (c_G71_F_a_15 : G71.2.1 (F a 15) = G.2.1 (F a 15))
    (c_G71_F_a_16 : G71.2.1 (F a 16) = G.2.1 (F a 16))
    (r_G54_F_F_a_2_0 : G54.2.2.1 (F (F a 2) 0) = G.2.2.1 (F (F a 2) 0))
    (r_G71_F_F_a_2_0 : G71.2.2.1 (F (F a 2) 0) = G.2.2.1 (F (F a 2) 0))
    (r_G71_F_F_a_2_1 : G71.2.2.1 (F (F a 2) 1) = G.2.2.1 (F (F a 2) 1))
    (d_G71_F_a_10_6 : G71.1 (F a 10) 6 = G.1 (F a 10) 6)
    (d_G71_F_a_11_3 : G71.1 (F a 11) 3 = G.1 (F a 11) 3)
    (d_G71_F_a_14_1 : G71.1 (F a 14) 1 = G4.1 (F a 14) 1)
    (d_G71_F_a_14_2 : G71.1 (F a 14) 2 = G.1 (F a 14) 2)
    (d_G71_F_a_14_3 : G71.1 (F a 14) 3 = G.1 (F a 14) 3)
    (d_G71_F_a_8_6 : G71.1 (F a 8) 6 = G.1 (F a 8) 6)
    (d_G71_F_a_9_6 : G71.1 (F a 9) 6 = G.1 (F a 9) 6) :
    BKr K G71 (G71.2.2.1 (F (F a 2) 1)) := by
  have hd : ∀ p, p ∈ [(F a 11, 3), (F a 9, 6), (F a 14, 1), (F a 14, 2), (F a 14, 3), (F a 10, 6), (F a 8, 6), (F a 12, 4)] → K p.1 ≠ 9 := (List.forall_mem_cons.mpr ⟨(show K (F a 11) ≠ 9 by omega), List.forall_mem_cons.mpr ⟨(show K (F a 9) ≠ 9 by omega), List.forall_mem_cons.mpr ⟨(show K (F a 14) ≠ 9 by omega), List.forall_mem_cons.mpr ⟨(show K (F a 14) ≠ 9 by omega), List.forall_mem_cons.mpr ⟨(show K (F a 14) ≠ 9 by omega), List.forall_mem_cons.mpr ⟨(show K (F a 10) ≠ 9 by omega), List.forall_mem_cons.mpr ⟨(show K (F a 8) ≠ 9 by omega), List.forall_mem_cons.mpr ⟨(show K (F a 12) ≠ 9 by omega), fun _ h => by cases h⟩⟩⟩⟩⟩⟩⟩⟩)
  rw [show G71.2.2.1 (F (F a 2) 1) = G.2.2.1 (F (F a 2) 1) by assumption]
  exact bko.fr hfr hd
theorem v_X10_cut_75_12 {K : Nat → Nat} {F : Nat → Nat → Nat} (a : Nat) (G : XG) (G71 : XG) (G4 : XG) (G54 : XG) (p0 : Int32) (p1 : Int32) (x8 : Int32) (x15 : Int32) (x33 : Int32)
    (ha : K a = 12)
    (hk9999 : K (F a 11) = 3)
    (hj9999 : F (F a 11) 99 = 0)
    (hk9999a : K (F a 9) = 6)
    (hj9999a : F (F a 9) 99 = 1)
    (hk9999b : K (F a 14) = 11)
    (hj9999b : F (F a 14) 99 = 0)
    (hk9999c : K (F a 10) = 6)
    (hj9999c : F (F a 10) 99 = 2)
    (hk9999d : K (F a 8) = 6)
    (hj9999d : F (F a 8) 99 = 0)
    (hk9999e : K (F a 12) = 4)
    (hj9999e : F (F a 12) 99 = 0)
    (hk9999f : K (F (F a 11) 0) = 21)
    (hj9999f : F (F (F a 11) 0) 99 = 100)
    (hk9999g : K (F (F a 11) 1) = 21)
    (hj9999g : F (F (F a 11) 1) 99 = 101)
    (hk9999h : K (F (F a 11) 2) = 24)
    (hj9999h : F (F (F a 11) 2) 99 = 4)
    (hk9999i : K (F (F a 9) 0) = 22)
    (hj9999j : F (F (F a 9) 0) 99 = 10 * 1 + 0)
    (hk9999j : K (F (F a 9) 1) = 22)
    (hj9999l : F (F (F a 9) 1) 99 = 10 * 1 + 1)
    (hk9999k : K (F (F a 9) 2) = 22)
    (hj9999n : F (F (F a 9) 2) 99 = 10 * 1 + 2)
    (hk9999l : K (F (F a 9) 3) = 22)
    (hj9999p : F (F (F a 9) 3) 99 = 10 * 1 + 3)
    (hk9999m : K (F (F a 9) 4) = 23)
    (hj9999r : F (F (F a 9) 4) 99 = 10 * 1 + 4)
    (hk9999n : K (F (F a 9) 5) = 23)
    (hj9999t : F (F (F a 9) 5) 99 = 10 * 1 + 5)
    (hk9999o : K (F a 16) = 27)
    (hj9999u : F (F a 16) 99 = 0)
    (hk9999p : K (F a 15) = 26)
    (hj9999v : F (F a 15) 99 = 0)
    (hk9999q : K (F (F a 10) 0) = 22)
    (hj9999y : F (F (F a 10) 0) 99 = 10 * 2 + 0)
    (hk9999r : K (F (F a 10) 1) = 22)
    (hj9999z26 : F (F (F a 10) 1) 99 = 10 * 2 + 1)
    (hk9999s : K (F (F a 10) 2) = 22)
    (hj9999z28 : F (F (F a 10) 2) 99 = 10 * 2 + 2)
    (hk9999t : K (F (F a 10) 3) = 22)
    (hj9999z30 : F (F (F a 10) 3) 99 = 10 * 2 + 3)
    (hk9999u : K (F (F a 10) 4) = 23)
    (hj9999z32 : F (F (F a 10) 4) 99 = 10 * 2 + 4)
    (hk9999v : K (F (F a 10) 5) = 23)
    (hj9999z34 : F (F (F a 10) 5) 99 = 10 * 2 + 5)
    (hk9999w : K (F a 3) = 8)
    (hj9999z35 : F (F a 3) 99 = 0)
    (hk9999y : K (F (F a 3) 0) = 20)
    (hj9999z37 : F (F (F a 3) 0) 99 = 0)
    (hk9999z25 : K (F (F a 3) 1) = 21)
    (hj9999z39 : F (F (F a 3) 1) 99 = 0)
    (hk9999z26 : K (F (F a 8) 0) = 22)
    (hj9999z41 : F (F (F a 8) 0) 99 = 10 * 0 + 0)
    (hk9999z27 : K (F (F a 8) 1) = 22)
    (hj9999z43 : F (F (F a 8) 1) 99 = 10 * 0 + 1)
    (hk9999z28 : K (F (F a 8) 2) = 22)
    (hj9999z45 : F (F (F a 8) 2) 99 = 10 * 0 + 2)
    (hk9999z29 : K (F (F a 8) 3) = 22)
    (hj9999z47 : F (F (F a 8) 3) 99 = 10 * 0 + 3)
    (hk9999z30 : K (F (F a 8) 4) = 23)
    (hj9999z49 : F (F (F a 8) 4) 99 = 10 * 0 + 4)
    (hk9999z31 : K (F (F a 8) 5) = 23)
    (hj9999z51 : F (F (F a 8) 5) 99 = 10 * 0 + 5)
    (hk9999z32 : K (F a 5) = 8)
    (hj9999z52 : F (F a 5) 99 = 2)
    (hk9999z33 : K (F (F a 5) 0) = 20)
    (hj9999z54 : F (F (F a 5) 0) 99 = 2)
    (hk9999z34 : K (F (F a 5) 1) = 21)
    (hj9999z56 : F (F (F a 5) 1) 99 = 2)
    (hk9999z35 : K (F (F a 12) 0) = 24)
    (hj9999z57 : F (F (F a 12) 0) 99 = 0)
    (hk9999z36 : K (F (F a 12) 1) = 24)
    (hj9999z58 : F (F (F a 12) 1) 99 = 1)
    (hk9999z37 : K (F (F a 12) 2) = 24)
    (hj9999z59 : F (F (F a 12) 2) 99 = 2)
    (hk9999z38 : K (F (F a 12) 3) = 24)
    (hj9999z60 : F (F (F a 12) 3) 99 = 3)
    (hk9999z39 : K (F a 2) = 2)
    (hj9999z61 : F (F a 2) 99 = 0)
    (hk9999z40 : K (F (F a 2) 1) = 15)
    (hj9999z62 : F (F (F a 2) 1) 99 = 1)
    (hk9999z41 : K (F (F a 2) 0) = 15)
    (hj9999z63 : F (F (F a 2) 0) 99 = 0)
    (hk9999z42 : K (F a 4) = 8)
    (hj9999z64 : F (F a 4) 99 = 1)
    (hk9999z43 : K (F (F a 4) 0) = 20)
    (hj9999z66 : F (F (F a 4) 0) 99 = 1)
    (hk9999z44 : K (F (F a 4) 1) = 21)
    (hj9999z68 : F (F (F a 4) 1) 99 = 1)
    (hfr : XFr [(F a 11, 3), (F a 9, 6), (F a 14, 1), (F a 14, 2), (F a 14, 3), (F a 10, 6), (F a 8, 6), (F a 12, 4)] [F (F a 11) 0, F (F a 11) 1, F (F a 11) 2, F (F a 9) 0, F (F a 9) 1, F (F a 9) 2, F (F a 9) 3, F (F a 9) 4, F (F a 9) 5, F a 16, F a 15, F (F a 10) 0, F (F a 10) 1, F (F a 10) 2, F (F a 10) 3, F (F a 10) 4, F (F a 10) 5, F (F a 3) 0, F (F a 3) 1, F (F a 8) 0, F (F a 8) 1, F (F a 8) 2, F (F a 8) 3, F (F a 8) 4, F (F a 8) 5, F (F a 5) 0, F (F a 5) 1, F (F a 12) 0, F (F a 12) 1, F (F a 12) 2, F (F a 12) 3] [] G G71)
    (hF4 : XFr [(F a 14, 1)] [] [] G G4)
    (hF54 : XFr [] [F (F a 5) 0, F (F a 5) 1] [] G4 G54)
    (hF71 : XFr [(F a 12, 4)] [F (F a 12) 0, F (F a 12) 1, F (F a 12) 2, F (F a 12) 3, F (F a 5) 0, F (F a 5) 1] [] G54 G71)
    (ron : RO (vw (G.2.1 (F (F a 3) 0))) (aI (G.2.1 (F (F a 3) 1))))
    (rob : RO (vw (G.2.1 (F (F a 4) 0))) (aI (G.2.1 (F (F a 4) 1))))
    (bko : BKr K G (G.2.2.1 (F (F a 2) 1)))
    (bkn : BKr K G (G.2.2.1 (F (F a 2) 0)))
    (hac : ACo G (G.2.2.1 (F (F a 2) 0)))
    (oq54 : (vw (G54.2.1 (F (F a 5) 0))) = (vw (G.2.1 (F (F a 3) 0))))
    (oq54a : RO (vw (G54.2.1 (F (F a 5) 0))) (aI (G54.2.1 (F (F a 5) 1))))
    (oq71 : (vw (G71.2.1 (F (F a 5) 0))) = cfin (clsA G54 (G54.2.2.1 (F (F a 2) 0))) (clsT G54 (G54.2.2.1 (F (F a 2) 0))) (clsC G54 (G54.2.2.1 (F (F a 2) 0))) ([(p0.toInt, p1.toInt, 0, 0)], rfil (vw (G54.2.1 (F (F a 5) 0))) p0.toInt p1.toInt (-2000) 3))
    (oq71a : RO (vw (G71.2.1 (F (F a 5) 0))) (aI (G71.2.1 (F (F a 5) 1))))
    (sb : 0 ≤ ((G.1 (F a 2) 2).toInt) ∧ ((G.1 (F a 2) 2).toInt) ≤ 12)
    (sw : 0 ≤ ((G.1 (F a 8) 6).toInt) ∧ ((G.1 (F a 8) 6).toInt) ≤ 1080)
    (t4 : ((G4.1 (F a 14) 1).toInt) = 0)
    (t8 : (x8.toInt = 1 ∧ 0 ≤ p0.toInt ∧ p0.toInt < 3) ∨ (x8.toInt = 0 ∧ (p0.toInt < 0 ∨ 3 ≤ p0.toInt)))
    (c11 : ¬ (x8.toInt = 0))
    (t15 : (x15.toInt = 1 ∧ 0 ≤ p1.toInt ∧ p1.toInt < 30) ∨ (x15.toInt = 0 ∧ (p1.toInt < 0 ∨ 30 ≤ p1.toInt)))
    (c18 : x15.toInt ≠ 0)
    (t33 : (x33.toInt = 1 ∧ (cel (vw (G.2.1 (F (F a 3) 0))) (p0.toInt) (p1.toInt) 0) ≠ -2000) ∨ (x33.toInt = 0 ∧ (cel (vw (G.2.1 (F (F a 3) 0))) (p0.toInt) (p1.toInt) 0) = -2000))
    (c36 : x33.toInt ≠ 0)
    (z57 : (cel (vw (G54.2.1 (F (F a 5) 0))) (p0.toInt) (p1.toInt) 0) = (cel (vw (G.2.1 (F (F a 3) 0))) (p0.toInt) (p1.toInt) 0))
    (c_G71_F_F_a_10_0 : G71.2.1 (F (F a 10) 0) = G.2.1 (F (F a 10) 0))
    (c_G71_F_F_a_10_1 : G71.2.1 (F (F a 10) 1) = G.2.1 (F (F a 10) 1))
    (c_G71_F_F_a_10_2 : G71.2.1 (F (F a 10) 2) = G.2.1 (F (F a 10) 2))
    (c_G71_F_F_a_10_3 : G71.2.1 (F (F a 10) 3) = G.2.1 (F (F a 10) 3))
    (c_G71_F_F_a_10_4 : G71.2.1 (F (F a 10) 4) = G.2.1 (F (F a 10) 4))
    (c_G71_F_F_a_10_5 : G71.2.1 (F (F a 10) 5) = G.2.1 (F (F a 10) 5))
    (c_G71_F_F_a_11_0 : G71.2.1 (F (F a 11) 0) = G.2.1 (F (F a 11) 0))
    (c_G71_F_F_a_11_1 : G71.2.1 (F (F a 11) 1) = G.2.1 (F (F a 11) 1))
    (c_G71_F_F_a_11_2 : G71.2.1 (F (F a 11) 2) = G.2.1 (F (F a 11) 2))
    (c_G71_F_F_a_3_0 : G71.2.1 (F (F a 3) 0) = G.2.1 (F (F a 3) 0))
    (c_G71_F_F_a_3_1 : G71.2.1 (F (F a 3) 1) = G.2.1 (F (F a 3) 1))
    (c_G71_F_F_a_8_0 : G71.2.1 (F (F a 8) 0) = G.2.1 (F (F a 8) 0))
    (c_G71_F_F_a_8_1 : G71.2.1 (F (F a 8) 1) = G.2.1 (F (F a 8) 1))
    (c_G71_F_F_a_8_2 : G71.2.1 (F (F a 8) 2) = G.2.1 (F (F a 8) 2))
    (c_G71_F_F_a_8_3 : G71.2.1 (F (F a 8) 3) = G.2.1 (F (F a 8) 3))
    (c_G71_F_F_a_8_4 : G71.2.1 (F (F a 8) 4) = G.2.1 (F (F a 8) 4))
    (c_G71_F_F_a_8_5 : G71.2.1 (F (F a 8) 5) = G.2.1 (F (F a 8) 5))
    (c_G71_F_F_a_9_0 : G71.2.1 (F (F a 9) 0) = G.2.1 (F (F a 9) 0))
    (c_G71_F_F_a_9_1 : G71.2.1 (F (F a 9) 1) = G.2.1 (F (F a 9) 1))
    (c_G71_F_F_a_9_2 : G71.2.1 (F (F a 9) 2) = G.2.1 (F (F a 9) 2))
    (c_G71_F_F_a_9_3 : G71.2.1 (F (F a 9) 3) = G.2.1 (F (F a 9) 3))
    (c_G71_F_F_a_9_4 : G71.2.1 (F (F a 9) 4) = G.2.1 (F (F a 9) 4))
    (c_G71_F_F_a_9_5 : G71.2.1 (F (F a 9) 5) = G.2.1 (F (F a 9) 5))
    (c_G71_F_a_15 : G71.2.1 (F a 15) = G.2.1 (F a 15))
    (c_G71_F_a_16 : G71.2.1 (F a 16) = G.2.1 (F a 16))
    (r_G54_F_F_a_2_0 : G54.2.2.1 (F (F a 2) 0) = G.2.2.1 (F (F a 2) 0))
    (r_G71_F_F_a_2_0 : G71.2.2.1 (F (F a 2) 0) = G.2.2.1 (F (F a 2) 0))
    (r_G71_F_F_a_2_1 : G71.2.2.1 (F (F a 2) 1) = G.2.2.1 (F (F a 2) 1))
    (d_G71_F_a_10_6 : G71.1 (F a 10) 6 = G.1 (F a 10) 6)
    (d_G71_F_a_11_3 : G71.1 (F a 11) 3 = G.1 (F a 11) 3)
    (d_G71_F_a_14_1 : G71.1 (F a 14) 1 = G4.1 (F a 14) 1)
    (d_G71_F_a_14_2 : G71.1 (F a 14) 2 = G.1 (F a 14) 2)
    (d_G71_F_a_14_3 : G71.1 (F a 14) 3 = G.1 (F a 14) 3)
    (d_G71_F_a_8_6 : G71.1 (F a 8) 6 = G.1 (F a 8) 6)
    (d_G71_F_a_9_6 : G71.1 (F a 9) 6 = G.1 (F a 9) 6) :
    BKr K G71 (G71.2.2.1 (F (F a 2) 0)) := by
  have hd : ∀ p, p ∈ [(F a 11, 3), (F a 9, 6), (F a 14, 1), (F a 14, 2), (F a 14, 3), (F a 10, 6), (F a 8, 6), (F a 12, 4)] → K p.1 ≠ 9 := (List.forall_mem_cons.mpr ⟨(show K (F a 11) ≠ 9 by omega), List.forall_mem_cons.mpr ⟨(show K (F a 9) ≠ 9 by omega), List.forall_mem_cons.mpr ⟨(show K (F a 14) ≠ 9 by omega), List.forall_mem_cons.mpr ⟨(show K (F a 14) ≠ 9 by omega), List.forall_mem_cons.mpr ⟨(show K (F a 14) ≠ 9 by omega), List.forall_mem_cons.mpr ⟨(show K (F a 10) ≠ 9 by omega), List.forall_mem_cons.mpr ⟨(show K (F a 8) ≠ 9 by omega), List.forall_mem_cons.mpr ⟨(show K (F a 12) ≠ 9 by omega), fun _ h => by cases h⟩⟩⟩⟩⟩⟩⟩⟩)
  rw [show G71.2.2.1 (F (F a 2) 0) = G.2.2.1 (F (F a 2) 0) by assumption]
  exact bkn.fr hfr hd
theorem v_X10_cut_78_13 {K : Nat → Nat} {F : Nat → Nat → Nat} (a : Nat) (G : XG) (G75 : XG) (G4 : XG) (G54 : XG) (G71 : XG) (p0 : Int32) (p1 : Int32) (x75 : Int32) (x8 : Int32) (x15 : Int32) (x33 : Int32)
    (ha : K a = 12)
    (hk9999 : K (F a 11) = 3)
    (hj9999 : F (F a 11) 99 = 0)
    (hk9999a : K (F a 9) = 6)
    (hj9999a : F (F a 9) 99 = 1)
    (hk9999b : K (F a 14) = 11)
    (hj9999b : F (F a 14) 99 = 0)
    (hk9999c : K (F a 10) = 6)
    (hj9999c : F (F a 10) 99 = 2)
    (hk9999d : K (F a 8) = 6)
    (hj9999d : F (F a 8) 99 = 0)
    (hk9999e : K (F a 12) = 4)
    (hj9999e : F (F a 12) 99 = 0)
    (hk9999f : K (F (F a 11) 0) = 21)
    (hj9999f : F (F (F a 11) 0) 99 = 100)
    (hk9999g : K (F (F a 11) 1) = 21)
    (hj9999g : F (F (F a 11) 1) 99 = 101)
    (hk9999h : K (F (F a 11) 2) = 24)
    (hj9999h : F (F (F a 11) 2) 99 = 4)
    (hk9999i : K (F (F a 9) 0) = 22)
    (hj9999j : F (F (F a 9) 0) 99 = 10 * 1 + 0)
    (hk9999j : K (F (F a 9) 1) = 22)
    (hj9999l : F (F (F a 9) 1) 99 = 10 * 1 + 1)
    (hk9999k : K (F (F a 9) 2) = 22)
    (hj9999n : F (F (F a 9) 2) 99 = 10 * 1 + 2)
    (hk9999l : K (F (F a 9) 3) = 22)
    (hj9999p : F (F (F a 9) 3) 99 = 10 * 1 + 3)
    (hk9999m : K (F (F a 9) 4) = 23)
    (hj9999r : F (F (F a 9) 4) 99 = 10 * 1 + 4)
    (hk9999n : K (F (F a 9) 5) = 23)
    (hj9999t : F (F (F a 9) 5) 99 = 10 * 1 + 5)
    (hk9999o : K (F a 16) = 27)
    (hj9999u : F (F a 16) 99 = 0)
    (hk9999p : K (F a 15) = 26)
    (hj9999v : F (F a 15) 99 = 0)
    (hk9999q : K (F (F a 10) 0) = 22)
    (hj9999y : F (F (F a 10) 0) 99 = 10 * 2 + 0)
    (hk9999r : K (F (F a 10) 1) = 22)
    (hj9999z26 : F (F (F a 10) 1) 99 = 10 * 2 + 1)
    (hk9999s : K (F (F a 10) 2) = 22)
    (hj9999z28 : F (F (F a 10) 2) 99 = 10 * 2 + 2)
    (hk9999t : K (F (F a 10) 3) = 22)
    (hj9999z30 : F (F (F a 10) 3) 99 = 10 * 2 + 3)
    (hk9999u : K (F (F a 10) 4) = 23)
    (hj9999z32 : F (F (F a 10) 4) 99 = 10 * 2 + 4)
    (hk9999v : K (F (F a 10) 5) = 23)
    (hj9999z34 : F (F (F a 10) 5) 99 = 10 * 2 + 5)
    (hk9999w : K (F a 3) = 8)
    (hj9999z35 : F (F a 3) 99 = 0)
    (hk9999y : K (F (F a 3) 0) = 20)
    (hj9999z37 : F (F (F a 3) 0) 99 = 0)
    (hk9999z25 : K (F (F a 3) 1) = 21)
    (hj9999z39 : F (F (F a 3) 1) 99 = 0)
    (hk9999z26 : K (F (F a 8) 0) = 22)
    (hj9999z41 : F (F (F a 8) 0) 99 = 10 * 0 + 0)
    (hk9999z27 : K (F (F a 8) 1) = 22)
    (hj9999z43 : F (F (F a 8) 1) 99 = 10 * 0 + 1)
    (hk9999z28 : K (F (F a 8) 2) = 22)
    (hj9999z45 : F (F (F a 8) 2) 99 = 10 * 0 + 2)
    (hk9999z29 : K (F (F a 8) 3) = 22)
    (hj9999z47 : F (F (F a 8) 3) 99 = 10 * 0 + 3)
    (hk9999z30 : K (F (F a 8) 4) = 23)
    (hj9999z49 : F (F (F a 8) 4) 99 = 10 * 0 + 4)
    (hk9999z31 : K (F (F a 8) 5) = 23)
    (hj9999z51 : F (F (F a 8) 5) 99 = 10 * 0 + 5)
    (hk9999z32 : K (F a 5) = 8)
    (hj9999z52 : F (F a 5) 99 = 2)
    (hk9999z33 : K (F (F a 5) 0) = 20)
    (hj9999z54 : F (F (F a 5) 0) 99 = 2)
    (hk9999z34 : K (F (F a 5) 1) = 21)
    (hj9999z56 : F (F (F a 5) 1) 99 = 2)
    (hk9999z35 : K (F (F a 12) 0) = 24)
    (hj9999z57 : F (F (F a 12) 0) 99 = 0)
    (hk9999z36 : K (F (F a 12) 1) = 24)
    (hj9999z58 : F (F (F a 12) 1) 99 = 1)
    (hk9999z37 : K (F (F a 12) 2) = 24)
    (hj9999z59 : F (F (F a 12) 2) 99 = 2)
    (hk9999z38 : K (F (F a 12) 3) = 24)
    (hj9999z60 : F (F (F a 12) 3) 99 = 3)
    (hk9999z39 : K (F a 2) = 2)
    (hj9999z61 : F (F a 2) 99 = 0)
    (hk9999z40 : K (F (F a 2) 1) = 15)
    (hj9999z62 : F (F (F a 2) 1) 99 = 1)
    (hk9999z41 : K (F (F a 2) 0) = 15)
    (hj9999z63 : F (F (F a 2) 0) 99 = 0)
    (hk9999z42 : K (F a 4) = 8)
    (hj9999z64 : F (F a 4) 99 = 1)
    (hk9999z43 : K (F (F a 4) 0) = 20)
    (hj9999z66 : F (F (F a 4) 0) 99 = 1)
    (hk9999z44 : K (F (F a 4) 1) = 21)
    (hj9999z68 : F (F (F a 4) 1) 99 = 1)
    (hfr : XFr [(F a 11, 3), (F a 9, 6), (F a 14, 1), (F a 14, 2), (F a 14, 3), (F a 10, 6), (F a 8, 6), (F a 12, 4)] [F (F a 11) 0, F (F a 11) 1, F (F a 11) 2, F (F a 9) 0, F (F a 9) 1, F (F a 9) 2, F (F a 9) 3, F (F a 9) 4, F (F a 9) 5, F a 16, F a 15, F (F a 10) 0, F (F a 10) 1, F (F a 10) 2, F (F a 10) 3, F (F a 10) 4, F (F a 10) 5, F (F a 3) 0, F (F a 3) 1, F (F a 8) 0, F (F a 8) 1, F (F a 8) 2, F (F a 8) 3, F (F a 8) 4, F (F a 8) 5, F (F a 5) 0, F (F a 5) 1, F (F a 12) 0, F (F a 12) 1, F (F a 12) 2, F (F a 12) 3] [] G G75)
    (hF71 : XFr [(F a 12, 4)] [F (F a 12) 0, F (F a 12) 1, F (F a 12) 2, F (F a 12) 3, F (F a 5) 0, F (F a 5) 1] [] G54 G71)
    (hF75 : XFr [(F a 11, 3), (F a 9, 6), (F a 14, 1), (F a 14, 2), (F a 14, 3), (F a 10, 6), (F a 8, 6)] [F (F a 11) 0, F (F a 11) 1, F (F a 11) 2, F (F a 9) 0, F (F a 9) 1, F (F a 9) 2, F (F a 9) 3, F (F a 9) 4, F (F a 9) 5, F a 16, F a 15, F (F a 10) 0, F (F a 10) 1, F (F a 10) 2, F (F a 10) 3, F (F a 10) 4, F (F a 10) 5, F (F a 3) 0, F (F a 3) 1, F (F a 8) 0, F (F a 8) 1, F (F a 8) 2, F (F a 8) 3, F (F a 8) 4, F (F a 8) 5] [] G71 G75)
    (bko : BKr K G (G.2.2.1 (F (F a 2) 1)))
    (bkn : BKr K G (G.2.2.1 (F (F a 2) 0)))
    (oq54 : (vw (G54.2.1 (F (F a 5) 0))) = (vw (G.2.1 (F (F a 3) 0))))
    (oq71 : (vw (G71.2.1 (F (F a 5) 0))) = cfin (clsA G54 (G54.2.2.1 (F (F a 2) 0))) (clsT G54 (G54.2.2.1 (F (F a 2) 0))) (clsC G54 (G54.2.2.1 (F (F a 2) 0))) ([(p0.toInt, p1.toInt, 0, 0)], rfil (vw (G54.2.1 (F (F a 5) 0))) p0.toInt p1.toInt (-2000) 3))
    (oq75 : ActR ((G.1 a 18).toInt) x75.toInt (gaL G71 (G71.2.2.1 (F (F a 2) 1)) (vw (G.2.1 (F (F a 3) 0))) (vw (G71.2.1 (F (F a 5) 0))) 0 (((G.1 (F a 2) 2).toInt)).toNat) (vw (G.2.1 (F (F a 3) 0))) (vw (G75.2.1 (F (F a 3) 0))) (vw (G71.2.1 (F (F a 5) 0))) (qL G71 F (F a 8)) (qL G75 F (F a 8)) (gaL G71 (G71.2.2.1 (F (F a 2) 1)) (vw (G.2.1 (F (F a 4) 0))) (vw (G71.2.1 (F (F a 5) 0))) 1 (((G.1 (F a 2) 2).toInt)).toNat))
    (sb : 0 ≤ ((G.1 (F a 2) 2).toInt) ∧ ((G.1 (F a 2) 2).toInt) ≤ 12)
    (sw : 0 ≤ ((G.1 (F a 8) 6).toInt) ∧ ((G.1 (F a 8) 6).toInt) ≤ 1080)
    (t4 : ((G4.1 (F a 14) 1).toInt) = 0)
    (t8 : (x8.toInt = 1 ∧ 0 ≤ p0.toInt ∧ p0.toInt < 3) ∨ (x8.toInt = 0 ∧ (p0.toInt < 0 ∨ 3 ≤ p0.toInt)))
    (c11 : ¬ (x8.toInt = 0))
    (t15 : (x15.toInt = 1 ∧ 0 ≤ p1.toInt ∧ p1.toInt < 30) ∨ (x15.toInt = 0 ∧ (p1.toInt < 0 ∨ 30 ≤ p1.toInt)))
    (c18 : x15.toInt ≠ 0)
    (t33 : (x33.toInt = 1 ∧ (cel (vw (G.2.1 (F (F a 3) 0))) (p0.toInt) (p1.toInt) 0) ≠ -2000) ∨ (x33.toInt = 0 ∧ (cel (vw (G.2.1 (F (F a 3) 0))) (p0.toInt) (p1.toInt) 0) = -2000))
    (c36 : x33.toInt ≠ 0)
    (z57 : (cel (vw (G54.2.1 (F (F a 5) 0))) (p0.toInt) (p1.toInt) 0) = (cel (vw (G.2.1 (F (F a 3) 0))) (p0.toInt) (p1.toInt) 0))
    (t75 : 0 ≤ ((G75.1 (F a 8) 6).toInt) ∧ ((G75.1 (F a 8) 6).toInt) ≤ 1080)
    (c_G71_F_F_a_8_0 : G71.2.1 (F (F a 8) 0) = G.2.1 (F (F a 8) 0))
    (c_G71_F_F_a_8_1 : G71.2.1 (F (F a 8) 1) = G.2.1 (F (F a 8) 1))
    (c_G71_F_F_a_8_2 : G71.2.1 (F (F a 8) 2) = G.2.1 (F (F a 8) 2))
    (c_G71_F_F_a_8_3 : G71.2.1 (F (F a 8) 3) = G.2.1 (F (F a 8) 3))
    (c_G71_F_F_a_8_4 : G71.2.1 (F (F a 8) 4) = G.2.1 (F (F a 8) 4))
    (c_G71_F_F_a_8_5 : G71.2.1 (F (F a 8) 5) = G.2.1 (F (F a 8) 5))
    (r_G54_F_F_a_2_0 : G54.2.2.1 (F (F a 2) 0) = G.2.2.1 (F (F a 2) 0))
    (r_G71_F_F_a_2_1 : G71.2.2.1 (F (F a 2) 1) = G.2.2.1 (F (F a 2) 1))
    (d_G71_F_a_8_6 : G71.1 (F a 8) 6 = G.1 (F a 8) 6) :
    (x75.toInt = -1 ∧ ¬ ((0 ≤ p0.toInt ∧ p0.toInt < 3) ∧ (0 ≤ p1.toInt ∧ p1.toInt < 30)) ∧ ((vw (G75.2.1 (F (F a 3) 0))) = (vw (G.2.1 (F (F a 3) 0))) ∧ qL G75 F (F a 8) = qL G F (F a 8))) ∨ (((0 ≤ p0.toInt ∧ p0.toInt < 3) ∧ (0 ≤ p1.toInt ∧ p1.toInt < 30)) ∧ x75.toInt = -2 ∧ cel (vw (G.2.1 (F (F a 3) 0))) p0.toInt p1.toInt 0 = -2000 ∧ ((vw (G75.2.1 (F (F a 3) 0))) = (vw (G.2.1 (F (F a 3) 0))) ∧ qL G75 F (F a 8) = qL G F (F a 8))) ∨ (((0 ≤ p0.toInt ∧ p0.toInt < 3) ∧ (0 ≤ p1.toInt ∧ p1.toInt < 30)) ∧ cel (vw (G.2.1 (F (F a 3) 0))) p0.toInt p1.toInt 0 ≠ -2000 ∧ ActR ((G.1 a 18).toInt) x75.toInt (gaL G (G.2.2.1 (F (F a 2) 1)) (vw (G.2.1 (F (F a 3) 0))) (cfin (clsA G (G.2.2.1 (F (F a 2) 0))) (clsT G (G.2.2.1 (F (F a 2) 0))) (clsC G (G.2.2.1 (F (F a 2) 0))) ([(p0.toInt, p1.toInt, 0, 0)], rfil (vw (G.2.1 (F (F a 3) 0))) p0.toInt p1.toInt (-2000) 3)) 0 (((G.1 (F a 2) 2).toInt)).toNat) (vw (G.2.1 (F (F a 3) 0))) (vw (G75.2.1 (F (F a 3) 0))) (cfin (clsA G (G.2.2.1 (F (F a 2) 0))) (clsT G (G.2.2.1 (F (F a 2) 0))) (clsC G (G.2.2.1 (F (F a 2) 0))) ([(p0.toInt, p1.toInt, 0, 0)], rfil (vw (G.2.1 (F (F a 3) 0))) p0.toInt p1.toInt (-2000) 3)) (qL G F (F a 8)) (qL G75 F (F a 8)) (gaL G (G.2.2.1 (F (F a 2) 1)) (vw (G.2.1 (F (F a 4) 0))) (cfin (clsA G (G.2.2.1 (F (F a 2) 0))) (clsT G (G.2.2.1 (F (F a 2) 0))) (clsC G (G.2.2.1 (F (F a 2) 0))) ([(p0.toInt, p1.toInt, 0, 0)], rfil (vw (G.2.1 (F (F a 3) 0))) p0.toInt p1.toInt (-2000) 3)) 1 (((G.1 (F a 2) 2).toInt)).toNat)) := by
  have hd : ∀ p, p ∈ [(F a 11, 3), (F a 9, 6), (F a 14, 1), (F a 14, 2), (F a 14, 3), (F a 10, 6), (F a 8, 6), (F a 12, 4)] → K p.1 ≠ 9 := (List.forall_mem_cons.mpr ⟨(show K (F a 11) ≠ 9 by omega), List.forall_mem_cons.mpr ⟨(show K (F a 9) ≠ 9 by omega), List.forall_mem_cons.mpr ⟨(show K (F a 14) ≠ 9 by omega), List.forall_mem_cons.mpr ⟨(show K (F a 14) ≠ 9 by omega), List.forall_mem_cons.mpr ⟨(show K (F a 14) ≠ 9 by omega), List.forall_mem_cons.mpr ⟨(show K (F a 10) ≠ 9 by omega), List.forall_mem_cons.mpr ⟨(show K (F a 8) ≠ 9 by omega), List.forall_mem_cons.mpr ⟨(show K (F a 12) ≠ 9 by omega), fun _ h => by cases h⟩⟩⟩⟩⟩⟩⟩⟩)
  have hd2 : ∀ p, p ∈ [(F a 11, 3), (F a 9, 6), (F a 14, 1), (F a 14, 2), (F a 14, 3), (F a 10, 6), (F a 8, 6)] → K p.1 ≠ 9 := (List.forall_mem_cons.mpr ⟨(show K (F a 11) ≠ 9 by omega), List.forall_mem_cons.mpr ⟨(show K (F a 9) ≠ 9 by omega), List.forall_mem_cons.mpr ⟨(show K (F a 14) ≠ 9 by omega), List.forall_mem_cons.mpr ⟨(show K (F a 14) ≠ 9 by omega), List.forall_mem_cons.mpr ⟨(show K (F a 14) ≠ 9 by omega), List.forall_mem_cons.mpr ⟨(show K (F a 10) ≠ 9 by omega), List.forall_mem_cons.mpr ⟨(show K (F a 8) ≠ 9 by omega), fun _ h => by cases h⟩⟩⟩⟩⟩⟩⟩)
  have hd3 : ∀ p, p ∈ [(F a 12, 4)] → K p.1 ≠ 9 := (List.forall_mem_cons.mpr ⟨(show K (F a 12) ≠ 9 by omega), fun _ h => by cases h⟩)
  have h1 : ∀ q : Nat, K q = 9 → G71.1 q = G.1 q := fun q hk => (hF75.rule hd2 hk).symm.trans (hfr.rule hd hk)
  have h0 : ∀ (i q : Nat), i < 12 → G.2.2.1 (F (F a 2) 0) i = some q → G54.1 q = G.1 q := fun i q hi hq => (hF71.rule hd3 (bkn i q hi hq).1).symm.trans (h1 q (bkn i q hi hq).1)
  have hc : ∀ (i q : Nat), i < ((G.1 (F a 2) 2).toInt).toNat → G.2.2.1 (F (F a 2) 1) i = some q → G71.1 q = G.1 q := fun i q hi hq => h1 q (bko i q (by omega) hq).1
  have eq8 : qL G71 F (F a 8) = qL G F (F a 8) := qL_cg d_G71_F_a_8_6 c_G71_F_F_a_8_0 c_G71_F_F_a_8_1 c_G71_F_F_a_8_2 c_G71_F_F_a_8_3 c_G71_F_F_a_8_4 c_G71_F_F_a_8_5
  rw [r_G54_F_F_a_2_0, (cls_cg h0).1, (cls_cg h0).2.1, (cls_cg h0).2.2, oq54] at oq71
  rw [oq71, r_G71_F_F_a_2_1, gaL_cg hc, gaL_cg hc, eq8] at oq75
  exact Or.inr (Or.inr ⟨⟨by omega, by omega⟩, by omega, oq75⟩)
theorem v_X10_cut_78_14 {F : Nat → Nat → Nat} (a : Nat) (G75 : XG)
    (oq75a : RO (vw (G75.2.1 (F (F a 3) 0))) (aI (G75.2.1 (F (F a 3) 1)))) :
    RO (vw (G75.2.1 (F (F a 3) 0))) (aI (G75.2.1 (F (F a 3) 1))) := by
  exact oq75a
theorem v_X10_cut_45_15 {K : Nat → Nat} {F : Nat → Nat → Nat} (a : Nat) (G : XG) (G42 : XG) (G4 : XG) (x8 : Int32) (p0 : Int32) (x15 : Int32) (p1 : Int32) (x33 : Int32)
    (ha : K a = 12)
    (sb : 0 ≤ ((G.1 (F a 2) 2).toInt) ∧ ((G.1 (F a 2) 2).toInt) ≤ 12)
    (sw : 0 ≤ ((G.1 (F a 8) 6).toInt) ∧ ((G.1 (F a 8) 6).toInt) ≤ 1080)
    (t4 : ((G4.1 (F a 14) 1).toInt) = 0)
    (t8 : (x8.toInt = 1 ∧ 0 ≤ p0.toInt ∧ p0.toInt < 3) ∨ (x8.toInt = 0 ∧ (p0.toInt < 0 ∨ 3 ≤ p0.toInt)))
    (c11 : ¬ (x8.toInt = 0))
    (t15 : (x15.toInt = 1 ∧ 0 ≤ p1.toInt ∧ p1.toInt < 30) ∨ (x15.toInt = 0 ∧ (p1.toInt < 0 ∨ 30 ≤ p1.toInt)))
    (c18 : x15.toInt ≠ 0)
    (t33 : (x33.toInt = 1 ∧ (cel (vw (G.2.1 (F (F a 3) 0))) (p0.toInt) (p1.toInt) 0) ≠ -2000) ∨ (x33.toInt = 0 ∧ (cel (vw (G.2.1 (F (F a 3) 0))) (p0.toInt) (p1.toInt) 0) = -2000))
    (c36 : ¬ (x33.toInt ≠ 0))
    (c_G42_F_F_a_3_0 : G42.2.1 (F (F a 3) 0) = G.2.1 (F (F a 3) 0))
    (c_G42_F_F_a_8_0 : G42.2.1 (F (F a 8) 0) = G.2.1 (F (F a 8) 0))
    (c_G42_F_F_a_8_1 : G42.2.1 (F (F a 8) 1) = G.2.1 (F (F a 8) 1))
    (c_G42_F_F_a_8_2 : G42.2.1 (F (F a 8) 2) = G.2.1 (F (F a 8) 2))
    (c_G42_F_F_a_8_3 : G42.2.1 (F (F a 8) 3) = G.2.1 (F (F a 8) 3))
    (c_G42_F_F_a_8_4 : G42.2.1 (F (F a 8) 4) = G.2.1 (F (F a 8) 4))
    (c_G42_F_F_a_8_5 : G42.2.1 (F (F a 8) 5) = G.2.1 (F (F a 8) 5))
    (d_G42_F_a_8_6 : G42.1 (F a 8) 6 = G.1 (F a 8) 6) :
    ((-2 : Int) = -1 ∧ ¬ ((0 ≤ p0.toInt ∧ p0.toInt < 3) ∧ (0 ≤ p1.toInt ∧ p1.toInt < 30)) ∧ ((vw (G42.2.1 (F (F a 3) 0))) = (vw (G.2.1 (F (F a 3) 0))) ∧ qL G42 F (F a 8) = qL G F (F a 8))) ∨ (((0 ≤ p0.toInt ∧ p0.toInt < 3) ∧ (0 ≤ p1.toInt ∧ p1.toInt < 30)) ∧ (-2 : Int) = -2 ∧ cel (vw (G.2.1 (F (F a 3) 0))) p0.toInt p1.toInt 0 = -2000 ∧ ((vw (G42.2.1 (F (F a 3) 0))) = (vw (G.2.1 (F (F a 3) 0))) ∧ qL G42 F (F a 8) = qL G F (F a 8))) ∨ (((0 ≤ p0.toInt ∧ p0.toInt < 3) ∧ (0 ≤ p1.toInt ∧ p1.toInt < 30)) ∧ cel (vw (G.2.1 (F (F a 3) 0))) p0.toInt p1.toInt 0 ≠ -2000 ∧ ActR ((G.1 a 18).toInt) (-2 : Int) (gaL G (G.2.2.1 (F (F a 2) 1)) (vw (G.2.1 (F (F a 3) 0))) (cfin (clsA G (G.2.2.1 (F (F a 2) 0))) (clsT G (G.2.2.1 (F (F a 2) 0))) (clsC G (G.2.2.1 (F (F a 2) 0))) ([(p0.toInt, p1.toInt, 0, 0)], rfil (vw (G.2.1 (F (F a 3) 0))) p0.toInt p1.toInt (-2000) 3)) 0 (((G.1 (F a 2) 2).toInt)).toNat) (vw (G.2.1 (F (F a 3) 0))) (vw (G42.2.1 (F (F a 3) 0))) (cfin (clsA G (G.2.2.1 (F (F a 2) 0))) (clsT G (G.2.2.1 (F (F a 2) 0))) (clsC G (G.2.2.1 (F (F a 2) 0))) ([(p0.toInt, p1.toInt, 0, 0)], rfil (vw (G.2.1 (F (F a 3) 0))) p0.toInt p1.toInt (-2000) 3)) (qL G F (F a 8)) (qL G42 F (F a 8)) (gaL G (G.2.2.1 (F (F a 2) 1)) (vw (G.2.1 (F (F a 4) 0))) (cfin (clsA G (G.2.2.1 (F (F a 2) 0))) (clsT G (G.2.2.1 (F (F a 2) 0))) (clsC G (G.2.2.1 (F (F a 2) 0))) ([(p0.toInt, p1.toInt, 0, 0)], rfil (vw (G.2.1 (F (F a 3) 0))) p0.toInt p1.toInt (-2000) 3)) 1 (((G.1 (F a 2) 2).toInt)).toNat)) := by
  exact Or.inr (Or.inl ⟨⟨by omega, by omega⟩, rfl, by omega, by rw [c_G42_F_F_a_3_0], qL_cg d_G42_F_a_8_6 c_G42_F_F_a_8_0 c_G42_F_F_a_8_1 c_G42_F_F_a_8_2 c_G42_F_F_a_8_3 c_G42_F_F_a_8_4 c_G42_F_F_a_8_5⟩)
theorem v_X10_cut_45_16 {F : Nat → Nat → Nat} (a : Nat) (G : XG) (G42 : XG)
    (ron : RO (vw (G.2.1 (F (F a 3) 0))) (aI (G.2.1 (F (F a 3) 1))))
    (c_G42_F_F_a_3_0 : G42.2.1 (F (F a 3) 0) = G.2.1 (F (F a 3) 0))
    (c_G42_F_F_a_3_1 : G42.2.1 (F (F a 3) 1) = G.2.1 (F (F a 3) 1)) :
    RO (vw (G42.2.1 (F (F a 3) 0))) (aI (G42.2.1 (F (F a 3) 1))) := by
  rw [c_G42_F_F_a_3_0, c_G42_F_F_a_3_1]; exact ron
theorem v_X10_cut_26_17 {K : Nat → Nat} {F : Nat → Nat → Nat} (a : Nat) (G : XG) (G23 : XG) (G4 : XG) (x8 : Int32) (p0 : Int32) (x15 : Int32) (p1 : Int32)
    (ha : K a = 12)
    (sb : 0 ≤ ((G.1 (F a 2) 2).toInt) ∧ ((G.1 (F a 2) 2).toInt) ≤ 12)
    (sw : 0 ≤ ((G.1 (F a 8) 6).toInt) ∧ ((G.1 (F a 8) 6).toInt) ≤ 1080)
    (t4 : ((G4.1 (F a 14) 1).toInt) = 0)
    (t8 : (x8.toInt = 1 ∧ 0 ≤ p0.toInt ∧ p0.toInt < 3) ∨ (x8.toInt = 0 ∧ (p0.toInt < 0 ∨ 3 ≤ p0.toInt)))
    (c11 : ¬ (x8.toInt = 0))
    (t15 : (x15.toInt = 1 ∧ 0 ≤ p1.toInt ∧ p1.toInt < 30) ∨ (x15.toInt = 0 ∧ (p1.toInt < 0 ∨ 30 ≤ p1.toInt)))
    (c18 : ¬ (x15.toInt ≠ 0))
    (c_G23_F_F_a_3_0 : G23.2.1 (F (F a 3) 0) = G.2.1 (F (F a 3) 0))
    (c_G23_F_F_a_8_0 : G23.2.1 (F (F a 8) 0) = G.2.1 (F (F a 8) 0))
    (c_G23_F_F_a_8_1 : G23.2.1 (F (F a 8) 1) = G.2.1 (F (F a 8) 1))
    (c_G23_F_F_a_8_2 : G23.2.1 (F (F a 8) 2) = G.2.1 (F (F a 8) 2))
    (c_G23_F_F_a_8_3 : G23.2.1 (F (F a 8) 3) = G.2.1 (F (F a 8) 3))
    (c_G23_F_F_a_8_4 : G23.2.1 (F (F a 8) 4) = G.2.1 (F (F a 8) 4))
    (c_G23_F_F_a_8_5 : G23.2.1 (F (F a 8) 5) = G.2.1 (F (F a 8) 5))
    (d_G23_F_a_8_6 : G23.1 (F a 8) 6 = G.1 (F a 8) 6) :
    ((-1 : Int) = -1 ∧ ¬ ((0 ≤ p0.toInt ∧ p0.toInt < 3) ∧ (0 ≤ p1.toInt ∧ p1.toInt < 30)) ∧ ((vw (G23.2.1 (F (F a 3) 0))) = (vw (G.2.1 (F (F a 3) 0))) ∧ qL G23 F (F a 8) = qL G F (F a 8))) ∨ (((0 ≤ p0.toInt ∧ p0.toInt < 3) ∧ (0 ≤ p1.toInt ∧ p1.toInt < 30)) ∧ (-1 : Int) = -2 ∧ cel (vw (G.2.1 (F (F a 3) 0))) p0.toInt p1.toInt 0 = -2000 ∧ ((vw (G23.2.1 (F (F a 3) 0))) = (vw (G.2.1 (F (F a 3) 0))) ∧ qL G23 F (F a 8) = qL G F (F a 8))) ∨ (((0 ≤ p0.toInt ∧ p0.toInt < 3) ∧ (0 ≤ p1.toInt ∧ p1.toInt < 30)) ∧ cel (vw (G.2.1 (F (F a 3) 0))) p0.toInt p1.toInt 0 ≠ -2000 ∧ ActR ((G.1 a 18).toInt) (-1 : Int) (gaL G (G.2.2.1 (F (F a 2) 1)) (vw (G.2.1 (F (F a 3) 0))) (cfin (clsA G (G.2.2.1 (F (F a 2) 0))) (clsT G (G.2.2.1 (F (F a 2) 0))) (clsC G (G.2.2.1 (F (F a 2) 0))) ([(p0.toInt, p1.toInt, 0, 0)], rfil (vw (G.2.1 (F (F a 3) 0))) p0.toInt p1.toInt (-2000) 3)) 0 (((G.1 (F a 2) 2).toInt)).toNat) (vw (G.2.1 (F (F a 3) 0))) (vw (G23.2.1 (F (F a 3) 0))) (cfin (clsA G (G.2.2.1 (F (F a 2) 0))) (clsT G (G.2.2.1 (F (F a 2) 0))) (clsC G (G.2.2.1 (F (F a 2) 0))) ([(p0.toInt, p1.toInt, 0, 0)], rfil (vw (G.2.1 (F (F a 3) 0))) p0.toInt p1.toInt (-2000) 3)) (qL G F (F a 8)) (qL G23 F (F a 8)) (gaL G (G.2.2.1 (F (F a 2) 1)) (vw (G.2.1 (F (F a 4) 0))) (cfin (clsA G (G.2.2.1 (F (F a 2) 0))) (clsT G (G.2.2.1 (F (F a 2) 0))) (clsC G (G.2.2.1 (F (F a 2) 0))) ([(p0.toInt, p1.toInt, 0, 0)], rfil (vw (G.2.1 (F (F a 3) 0))) p0.toInt p1.toInt (-2000) 3)) 1 (((G.1 (F a 2) 2).toInt)).toNat)) := by
  exact Or.inl ⟨rfl, fun h => by omega, by rw [c_G23_F_F_a_3_0], qL_cg d_G23_F_a_8_6 c_G23_F_F_a_8_0 c_G23_F_F_a_8_1 c_G23_F_F_a_8_2 c_G23_F_F_a_8_3 c_G23_F_F_a_8_4 c_G23_F_F_a_8_5⟩
theorem v_X10_cut_26_18 {F : Nat → Nat → Nat} (a : Nat) (G : XG) (G23 : XG)
    (ron : RO (vw (G.2.1 (F (F a 3) 0))) (aI (G.2.1 (F (F a 3) 1))))
    (c_G23_F_F_a_3_0 : G23.2.1 (F (F a 3) 0) = G.2.1 (F (F a 3) 0))
    (c_G23_F_F_a_3_1 : G23.2.1 (F (F a 3) 1) = G.2.1 (F (F a 3) 1)) :
    RO (vw (G23.2.1 (F (F a 3) 0))) (aI (G23.2.1 (F (F a 3) 1))) := by
  rw [c_G23_F_F_a_3_0, c_G23_F_F_a_3_1]; exact ron
theorem v_X10_rekey_33_1 {K : Nat → Nat} {F : Nat → Nat → Nat} (a : Nat) (G : XG) (G30 : XG) (G4 : XG) (x8 : Int32) (p0 : Int32) (p1 : Int32) (p2 : Int32)
    (ha : K a = 12)
    (sb : 0 ≤ ((G.1 (F a 2) 2).toInt) ∧ ((G.1 (F a 2) 2).toInt) ≤ 12)
    (sw : 0 ≤ ((G.1 (F a 8) 6).toInt) ∧ ((G.1 (F a 8) 6).toInt) ≤ 1080)
    (t4 : ((G4.1 (F a 14) 1).toInt) = 0)
    (t8 : (x8.toInt = 1 ∧ 0 ≤ p0.toInt ∧ p0.toInt < 3) ∨ (x8.toInt = 0 ∧ (p0.toInt < 0 ∨ 3 ≤ p0.toInt)))
    (c11 : x8.toInt = 0)
    (c_G30_F_F_a_3_0 : G30.2.1 (F (F a 3) 0) = G.2.1 (F (F a 3) 0))
    (c_G30_F_F_a_8_0 : G30.2.1 (F (F a 8) 0) = G.2.1 (F (F a 8) 0))
    (c_G30_F_F_a_8_1 : G30.2.1 (F (F a 8) 1) = G.2.1 (F (F a 8) 1))
    (c_G30_F_F_a_8_2 : G30.2.1 (F (F a 8) 2) = G.2.1 (F (F a 8) 2))
    (c_G30_F_F_a_8_3 : G30.2.1 (F (F a 8) 3) = G.2.1 (F (F a 8) 3))
    (c_G30_F_F_a_8_4 : G30.2.1 (F (F a 8) 4) = G.2.1 (F (F a 8) 4))
    (c_G30_F_F_a_8_5 : G30.2.1 (F (F a 8) 5) = G.2.1 (F (F a 8) 5))
    (d_G30_F_a_8_6 : G30.1 (F a 8) 6 = G.1 (F a 8) 6) :
    ((-1 : Int) = -1 ∧ ¬ ((0 ≤ p0.toInt ∧ p0.toInt < 3) ∧ (0 ≤ p1.toInt ∧ p1.toInt < 30) ∧ (0 ≤ p2.toInt ∧ p2.toInt < 30)) ∧ ((vw (G30.2.1 (F (F a 3) 0))) = (vw (G.2.1 (F (F a 3) 0))) ∧ qL G30 F (F a 8) = qL G F (F a 8))) ∨ (((0 ≤ p0.toInt ∧ p0.toInt < 3) ∧ (0 ≤ p1.toInt ∧ p1.toInt < 30) ∧ (0 ≤ p2.toInt ∧ p2.toInt < 30)) ∧ (-1 : Int) = -2 ∧ cel (vw (G.2.1 (F (F a 3) 0))) p0.toInt p1.toInt 0 = -2000 ∧ ((vw (G30.2.1 (F (F a 3) 0))) = (vw (G.2.1 (F (F a 3) 0))) ∧ qL G30 F (F a 8) = qL G F (F a 8))) ∨ (((0 ≤ p0.toInt ∧ p0.toInt < 3) ∧ (0 ≤ p1.toInt ∧ p1.toInt < 30) ∧ (0 ≤ p2.toInt ∧ p2.toInt < 30)) ∧ cel (vw (G.2.1 (F (F a 3) 0))) p0.toInt p1.toInt 0 ≠ -2000 ∧ (-1 : Int) = -4 ∧ cel (vw (G.2.1 (F (F a 3) 0))) p0.toInt p2.toInt 0 ≠ -2000 ∧ ((vw (G30.2.1 (F (F a 3) 0))) = (vw (G.2.1 (F (F a 3) 0))) ∧ qL G30 F (F a 8) = qL G F (F a 8))) ∨ (((0 ≤ p0.toInt ∧ p0.toInt < 3) ∧ (0 ≤ p1.toInt ∧ p1.toInt < 30) ∧ (0 ≤ p2.toInt ∧ p2.toInt < 30)) ∧ cel (vw (G.2.1 (F (F a 3) 0))) p0.toInt p1.toInt 0 ≠ -2000 ∧ cel (vw (G.2.1 (F (F a 3) 0))) p0.toInt p2.toInt 0 = -2000 ∧ ActR ((G.1 a 18).toInt) (-1 : Int) (gaL G (G.2.2.1 (F (F a 2) 1)) (vw (G.2.1 (F (F a 3) 0))) (mvR (clsA G (G.2.2.1 (F (F a 2) 0))) (clsT G (G.2.2.1 (F (F a 2) 0))) (clsC G (G.2.2.1 (F (F a 2) 0))) p0.toInt p1.toInt p2.toInt (rmv (vw (G.2.1 (F (F a 3) 0))) p0.toInt p1.toInt p2.toInt) 12) 0 (((G.1 (F a 2) 2).toInt)).toNat) (vw (G.2.1 (F (F a 3) 0))) (vw (G30.2.1 (F (F a 3) 0))) (mvR (clsA G (G.2.2.1 (F (F a 2) 0))) (clsT G (G.2.2.1 (F (F a 2) 0))) (clsC G (G.2.2.1 (F (F a 2) 0))) p0.toInt p1.toInt p2.toInt (rmv (vw (G.2.1 (F (F a 3) 0))) p0.toInt p1.toInt p2.toInt) 12) (qL G F (F a 8)) (qL G30 F (F a 8)) (gaL G (G.2.2.1 (F (F a 2) 1)) (vw (G.2.1 (F (F a 4) 0))) (mvR (clsA G (G.2.2.1 (F (F a 2) 0))) (clsT G (G.2.2.1 (F (F a 2) 0))) (clsC G (G.2.2.1 (F (F a 2) 0))) p0.toInt p1.toInt p2.toInt (rmv (vw (G.2.1 (F (F a 3) 0))) p0.toInt p1.toInt p2.toInt) 12) 1 (((G.1 (F a 2) 2).toInt)).toNat)) := by
  exact Or.inl ⟨rfl, fun h => by omega, by rw [c_G30_F_F_a_3_0], qL_cg d_G30_F_a_8_6 c_G30_F_F_a_8_0 c_G30_F_F_a_8_1 c_G30_F_F_a_8_2 c_G30_F_F_a_8_3 c_G30_F_F_a_8_4 c_G30_F_F_a_8_5⟩
theorem v_X10_rekey_33_2 {F : Nat → Nat → Nat} (a : Nat) (G : XG) (G30 : XG)
    (ron : RO (vw (G.2.1 (F (F a 3) 0))) (aI (G.2.1 (F (F a 3) 1))))
    (c_G30_F_F_a_3_0 : G30.2.1 (F (F a 3) 0) = G.2.1 (F (F a 3) 0))
    (c_G30_F_F_a_3_1 : G30.2.1 (F (F a 3) 1) = G.2.1 (F (F a 3) 1)) :
    RO (vw (G30.2.1 (F (F a 3) 0))) (aI (G30.2.1 (F (F a 3) 1))) := by
  rw [c_G30_F_F_a_3_0, c_G30_F_F_a_3_1]; exact ron
theorem v_X10_rekey_33_3 {K : Nat → Nat} {F : Nat → Nat → Nat} (a : Nat) (G : XG) (G30 : XG) (G4 : XG) (x8 : Int32) (p0 : Int32) (x15 : Int32) (p1 : Int32) (p2 : Int32)
    (ha : K a = 12)
    (sb : 0 ≤ ((G.1 (F a 2) 2).toInt) ∧ ((G.1 (F a 2) 2).toInt) ≤ 12)
    (sw : 0 ≤ ((G.1 (F a 8) 6).toInt) ∧ ((G.1 (F a 8) 6).toInt) ≤ 1080)
    (t4 : ((G4.1 (F a 14) 1).toInt) = 0)
    (t8 : (x8.toInt = 1 ∧ 0 ≤ p0.toInt ∧ p0.toInt < 3) ∨ (x8.toInt = 0 ∧ (p0.toInt < 0 ∨ 3 ≤ p0.toInt)))
    (c11 : ¬ (x8.toInt = 0))
    (t15 : (x15.toInt = 1 ∧ 0 ≤ p1.toInt ∧ p1.toInt < 30) ∨ (x15.toInt = 0 ∧ (p1.toInt < 0 ∨ 30 ≤ p1.toInt)))
    (c18 : x15.toInt = 0)
    (c_G30_F_F_a_3_0 : G30.2.1 (F (F a 3) 0) = G.2.1 (F (F a 3) 0))
    (c_G30_F_F_a_8_0 : G30.2.1 (F (F a 8) 0) = G.2.1 (F (F a 8) 0))
    (c_G30_F_F_a_8_1 : G30.2.1 (F (F a 8) 1) = G.2.1 (F (F a 8) 1))
    (c_G30_F_F_a_8_2 : G30.2.1 (F (F a 8) 2) = G.2.1 (F (F a 8) 2))
    (c_G30_F_F_a_8_3 : G30.2.1 (F (F a 8) 3) = G.2.1 (F (F a 8) 3))
    (c_G30_F_F_a_8_4 : G30.2.1 (F (F a 8) 4) = G.2.1 (F (F a 8) 4))
    (c_G30_F_F_a_8_5 : G30.2.1 (F (F a 8) 5) = G.2.1 (F (F a 8) 5))
    (d_G30_F_a_8_6 : G30.1 (F a 8) 6 = G.1 (F a 8) 6) :
    ((-1 : Int) = -1 ∧ ¬ ((0 ≤ p0.toInt ∧ p0.toInt < 3) ∧ (0 ≤ p1.toInt ∧ p1.toInt < 30) ∧ (0 ≤ p2.toInt ∧ p2.toInt < 30)) ∧ ((vw (G30.2.1 (F (F a 3) 0))) = (vw (G.2.1 (F (F a 3) 0))) ∧ qL G30 F (F a 8) = qL G F (F a 8))) ∨ (((0 ≤ p0.toInt ∧ p0.toInt < 3) ∧ (0 ≤ p1.toInt ∧ p1.toInt < 30) ∧ (0 ≤ p2.toInt ∧ p2.toInt < 30)) ∧ (-1 : Int) = -2 ∧ cel (vw (G.2.1 (F (F a 3) 0))) p0.toInt p1.toInt 0 = -2000 ∧ ((vw (G30.2.1 (F (F a 3) 0))) = (vw (G.2.1 (F (F a 3) 0))) ∧ qL G30 F (F a 8) = qL G F (F a 8))) ∨ (((0 ≤ p0.toInt ∧ p0.toInt < 3) ∧ (0 ≤ p1.toInt ∧ p1.toInt < 30) ∧ (0 ≤ p2.toInt ∧ p2.toInt < 30)) ∧ cel (vw (G.2.1 (F (F a 3) 0))) p0.toInt p1.toInt 0 ≠ -2000 ∧ (-1 : Int) = -4 ∧ cel (vw (G.2.1 (F (F a 3) 0))) p0.toInt p2.toInt 0 ≠ -2000 ∧ ((vw (G30.2.1 (F (F a 3) 0))) = (vw (G.2.1 (F (F a 3) 0))) ∧ qL G30 F (F a 8) = qL G F (F a 8))) ∨ (((0 ≤ p0.toInt ∧ p0.toInt < 3) ∧ (0 ≤ p1.toInt ∧ p1.toInt < 30) ∧ (0 ≤ p2.toInt ∧ p2.toInt < 30)) ∧ cel (vw (G.2.1 (F (F a 3) 0))) p0.toInt p1.toInt 0 ≠ -2000 ∧ cel (vw (G.2.1 (F (F a 3) 0))) p0.toInt p2.toInt 0 = -2000 ∧ ActR ((G.1 a 18).toInt) (-1 : Int) (gaL G (G.2.2.1 (F (F a 2) 1)) (vw (G.2.1 (F (F a 3) 0))) (mvR (clsA G (G.2.2.1 (F (F a 2) 0))) (clsT G (G.2.2.1 (F (F a 2) 0))) (clsC G (G.2.2.1 (F (F a 2) 0))) p0.toInt p1.toInt p2.toInt (rmv (vw (G.2.1 (F (F a 3) 0))) p0.toInt p1.toInt p2.toInt) 12) 0 (((G.1 (F a 2) 2).toInt)).toNat) (vw (G.2.1 (F (F a 3) 0))) (vw (G30.2.1 (F (F a 3) 0))) (mvR (clsA G (G.2.2.1 (F (F a 2) 0))) (clsT G (G.2.2.1 (F (F a 2) 0))) (clsC G (G.2.2.1 (F (F a 2) 0))) p0.toInt p1.toInt p2.toInt (rmv (vw (G.2.1 (F (F a 3) 0))) p0.toInt p1.toInt p2.toInt) 12) (qL G F (F a 8)) (qL G30 F (F a 8)) (gaL G (G.2.2.1 (F (F a 2) 1)) (vw (G.2.1 (F (F a 4) 0))) (mvR (clsA G (G.2.2.1 (F (F a 2) 0))) (clsT G (G.2.2.1 (F (F a 2) 0))) (clsC G (G.2.2.1 (F (F a 2) 0))) p0.toInt p1.toInt p2.toInt (rmv (vw (G.2.1 (F (F a 3) 0))) p0.toInt p1.toInt p2.toInt) 12) 1 (((G.1 (F a 2) 2).toInt)).toNat)) := by
  exact Or.inl ⟨rfl, fun h => by omega, by rw [c_G30_F_F_a_3_0], qL_cg d_G30_F_a_8_6 c_G30_F_F_a_8_0 c_G30_F_F_a_8_1 c_G30_F_F_a_8_2 c_G30_F_F_a_8_3 c_G30_F_F_a_8_4 c_G30_F_F_a_8_5⟩
theorem v_X10_rekey_33_4 {F : Nat → Nat → Nat} (a : Nat) (G : XG) (G30 : XG)
    (ron : RO (vw (G.2.1 (F (F a 3) 0))) (aI (G.2.1 (F (F a 3) 1))))
    (c_G30_F_F_a_3_0 : G30.2.1 (F (F a 3) 0) = G.2.1 (F (F a 3) 0))
    (c_G30_F_F_a_3_1 : G30.2.1 (F (F a 3) 1) = G.2.1 (F (F a 3) 1)) :
    RO (vw (G30.2.1 (F (F a 3) 0))) (aI (G30.2.1 (F (F a 3) 1))) := by
  rw [c_G30_F_F_a_3_0, c_G30_F_F_a_3_1]; exact ron
theorem v_X10_rekey_40_5 {F : Nat → Nat → Nat} (a : Nat) (G : XG) (G4 : XG)
    (ron : RO (vw (G.2.1 (F (F a 3) 0))) (aI (G.2.1 (F (F a 3) 1))))
    (rob : RO (vw (G.2.1 (F (F a 4) 0))) (aI (G.2.1 (F (F a 4) 1))))
    (c_G4_F_F_a_3_0 : G4.2.1 (F (F a 3) 0) = G.2.1 (F (F a 3) 0))
    (c_G4_F_F_a_3_1 : G4.2.1 (F (F a 3) 1) = G.2.1 (F (F a 3) 1)) :
    RO (vw (G4.2.1 (F (F a 3) 0))) (aI (G4.2.1 (F (F a 3) 1))) := by simp only [c_G4_F_F_a_3_0, c_G4_F_F_a_3_1]; assumption
theorem v_X10_rekey_59_6 {F : Nat → Nat → Nat} (a : Nat) (G : XG) (G4 : XG)
    (ron : RO (vw (G.2.1 (F (F a 3) 0))) (aI (G.2.1 (F (F a 3) 1))))
    (rob : RO (vw (G.2.1 (F (F a 4) 0))) (aI (G.2.1 (F (F a 4) 1))))
    (c_G4_F_F_a_3_0 : G4.2.1 (F (F a 3) 0) = G.2.1 (F (F a 3) 0))
    (c_G4_F_F_a_3_1 : G4.2.1 (F (F a 3) 1) = G.2.1 (F (F a 3) 1)) :
    RO (vw (G4.2.1 (F (F a 3) 0))) (aI (G4.2.1 (F (F a 3) 1))) := by simp only [c_G4_F_F_a_3_0, c_G4_F_F_a_3_1]; assumption
theorem v_X10_rekey_80_7 {F : Nat → Nat → Nat} (a : Nat) (G : XG) (G4 : XG)
    (ron : RO (vw (G.2.1 (F (F a 3) 0))) (aI (G.2.1 (F (F a 3) 1))))
    (rob : RO (vw (G.2.1 (F (F a 4) 0))) (aI (G.2.1 (F (F a 4) 1))))
    (c_G4_F_F_a_3_0 : G4.2.1 (F (F a 3) 0) = G.2.1 (F (F a 3) 0))
    (c_G4_F_F_a_3_1 : G4.2.1 (F (F a 3) 1) = G.2.1 (F (F a 3) 1)) :
    RO (vw (G4.2.1 (F (F a 3) 0))) (aI (G4.2.1 (F (F a 3) 1))) := by simp only [c_G4_F_F_a_3_0, c_G4_F_F_a_3_1]; assumption
theorem v_X10_rekey_98_8 {F : Nat → Nat → Nat} (a : Nat) (G80 : XG)
    (oq80a : RO (vw (G80.2.1 (F (F a 5) 0))) (aI (G80.2.1 (F (F a 5) 1)))) :
    RO (vw (G80.2.1 (F (F a 5) 0))) (aI (G80.2.1 (F (F a 5) 1))) := by
  exact oq80a
theorem v_X10_rekey_98_9 {K : Nat → Nat} {F : Nat → Nat → Nat} (a : Nat) (G : XG) (G80 : XG) (G4 : XG) (x8 : Int32) (p0 : Int32) (x15 : Int32) (p1 : Int32) (x22 : Int32) (p2 : Int32) (x40 : Int32) (x59 : Int32)
    (ha : K a = 12)
    (hk9999 : K (F a 11) = 3)
    (hj9999 : F (F a 11) 99 = 0)
    (hk9999a : K (F a 9) = 6)
    (hj9999a : F (F a 9) 99 = 1)
    (hk9999b : K (F a 14) = 11)
    (hj9999b : F (F a 14) 99 = 0)
    (hk9999c : K (F a 10) = 6)
    (hj9999c : F (F a 10) 99 = 2)
    (hk9999d : K (F a 8) = 6)
    (hj9999d : F (F a 8) 99 = 0)
    (hk9999e : K (F (F a 11) 0) = 21)
    (hj9999e : F (F (F a 11) 0) 99 = 100)
    (hk9999f : K (F (F a 11) 1) = 21)
    (hj9999f : F (F (F a 11) 1) 99 = 101)
    (hk9999g : K (F (F a 11) 2) = 24)
    (hj9999g : F (F (F a 11) 2) 99 = 4)
    (hk9999h : K (F (F a 9) 0) = 22)
    (hj9999i : F (F (F a 9) 0) 99 = 10 * 1 + 0)
    (hk9999i : K (F (F a 9) 1) = 22)
    (hj9999k : F (F (F a 9) 1) 99 = 10 * 1 + 1)
    (hk9999j : K (F (F a 9) 2) = 22)
    (hj9999m : F (F (F a 9) 2) 99 = 10 * 1 + 2)
    (hk9999k : K (F (F a 9) 3) = 22)
    (hj9999o : F (F (F a 9) 3) 99 = 10 * 1 + 3)
    (hk9999l : K (F (F a 9) 4) = 23)
    (hj9999q : F (F (F a 9) 4) 99 = 10 * 1 + 4)
    (hk9999m : K (F (F a 9) 5) = 23)
    (hj9999s : F (F (F a 9) 5) 99 = 10 * 1 + 5)
    (hk9999n : K (F a 16) = 27)
    (hj9999t : F (F a 16) 99 = 0)
    (hk9999o : K (F a 15) = 26)
    (hj9999u : F (F a 15) 99 = 0)
    (hk9999p : K (F (F a 10) 0) = 22)
    (hj9999w : F (F (F a 10) 0) 99 = 10 * 2 + 0)
    (hk9999q : K (F (F a 10) 1) = 22)
    (hj9999z25 : F (F (F a 10) 1) 99 = 10 * 2 + 1)
    (hk9999r : K (F (F a 10) 2) = 22)
    (hj9999z27 : F (F (F a 10) 2) 99 = 10 * 2 + 2)
    (hk9999s : K (F (F a 10) 3) = 22)
    (hj9999z29 : F (F (F a 10) 3) 99 = 10 * 2 + 3)
    (hk9999t : K (F (F a 10) 4) = 23)
    (hj9999z31 : F (F (F a 10) 4) 99 = 10 * 2 + 4)
    (hk9999u : K (F (F a 10) 5) = 23)
    (hj9999z33 : F (F (F a 10) 5) 99 = 10 * 2 + 5)
    (hk9999v : K (F a 3) = 8)
    (hj9999z34 : F (F a 3) 99 = 0)
    (hk9999w : K (F (F a 3) 0) = 20)
    (hj9999z36 : F (F (F a 3) 0) 99 = 0)
    (hk9999y : K (F (F a 3) 1) = 21)
    (hj9999z38 : F (F (F a 3) 1) 99 = 0)
    (hk9999z25 : K (F (F a 8) 0) = 22)
    (hj9999z40 : F (F (F a 8) 0) 99 = 10 * 0 + 0)
    (hk9999z26 : K (F (F a 8) 1) = 22)
    (hj9999z42 : F (F (F a 8) 1) 99 = 10 * 0 + 1)
    (hk9999z27 : K (F (F a 8) 2) = 22)
    (hj9999z44 : F (F (F a 8) 2) 99 = 10 * 0 + 2)
    (hk9999z28 : K (F (F a 8) 3) = 22)
    (hj9999z46 : F (F (F a 8) 3) 99 = 10 * 0 + 3)
    (hk9999z29 : K (F (F a 8) 4) = 23)
    (hj9999z48 : F (F (F a 8) 4) 99 = 10 * 0 + 4)
    (hk9999z30 : K (F (F a 8) 5) = 23)
    (hj9999z50 : F (F (F a 8) 5) 99 = 10 * 0 + 5)
    (hk9999z31 : K (F a 5) = 8)
    (hj9999z51 : F (F a 5) 99 = 2)
    (hk9999z32 : K (F (F a 5) 0) = 20)
    (hj9999z53 : F (F (F a 5) 0) 99 = 2)
    (hk9999z33 : K (F (F a 5) 1) = 21)
    (hj9999z55 : F (F (F a 5) 1) 99 = 2)
    (hk9999z34 : K (F a 2) = 2)
    (hj9999z56 : F (F a 2) 99 = 0)
    (hk9999z35 : K (F (F a 2) 1) = 15)
    (hj9999z57 : F (F (F a 2) 1) 99 = 1)
    (hk9999z36 : K (F (F a 2) 0) = 15)
    (hj9999z58 : F (F (F a 2) 0) 99 = 0)
    (hk9999z37 : K (F a 4) = 8)
    (hj9999z59 : F (F a 4) 99 = 1)
    (hk9999z38 : K (F (F a 4) 0) = 20)
    (hj9999z61 : F (F (F a 4) 0) 99 = 1)
    (hk9999z39 : K (F (F a 4) 1) = 21)
    (hj9999z63 : F (F (F a 4) 1) 99 = 1)
    (hk84 : K (F a 12) = 4)
    (hj84 : F (F a 12) 99 = 0)
    (hfr : XFr [(F a 11, 3), (F a 9, 6), (F a 14, 1), (F a 14, 2), (F a 14, 3), (F a 10, 6), (F a 8, 6)] [F (F a 11) 0, F (F a 11) 1, F (F a 11) 2, F (F a 9) 0, F (F a 9) 1, F (F a 9) 2, F (F a 9) 3, F (F a 9) 4, F (F a 9) 5, F a 16, F a 15, F (F a 10) 0, F (F a 10) 1, F (F a 10) 2, F (F a 10) 3, F (F a 10) 4, F (F a 10) 5, F (F a 3) 0, F (F a 3) 1, F (F a 8) 0, F (F a 8) 1, F (F a 8) 2, F (F a 8) 3, F (F a 8) 4, F (F a 8) 5, F (F a 5) 0, F (F a 5) 1] [] G G80)
    (hF4 : XFr [(F a 14, 1)] [] [] G G4)
    (hF80 : XFr [] [F (F a 5) 0, F (F a 5) 1] [] G4 G80)
    (ron : RO (vw (G.2.1 (F (F a 3) 0))) (aI (G.2.1 (F (F a 3) 1))))
    (rob : RO (vw (G.2.1 (F (F a 4) 0))) (aI (G.2.1 (F (F a 4) 1))))
    (bko : BKr K G (G.2.2.1 (F (F a 2) 1)))
    (bkn : BKr K G (G.2.2.1 (F (F a 2) 0)))
    (hac : ACo G (G.2.2.1 (F (F a 2) 0)))
    (oq80 : (vw (G80.2.1 (F (F a 5) 0))) = (vw (G.2.1 (F (F a 3) 0))))
    (oq80a : RO (vw (G80.2.1 (F (F a 5) 0))) (aI (G80.2.1 (F (F a 5) 1))))
    (sb : 0 ≤ ((G.1 (F a 2) 2).toInt) ∧ ((G.1 (F a 2) 2).toInt) ≤ 12)
    (sw : 0 ≤ ((G.1 (F a 8) 6).toInt) ∧ ((G.1 (F a 8) 6).toInt) ≤ 1080)
    (t4 : ((G4.1 (F a 14) 1).toInt) = 0)
    (t8 : (x8.toInt = 1 ∧ 0 ≤ p0.toInt ∧ p0.toInt < 3) ∨ (x8.toInt = 0 ∧ (p0.toInt < 0 ∨ 3 ≤ p0.toInt)))
    (c11 : ¬ (x8.toInt = 0))
    (t15 : (x15.toInt = 1 ∧ 0 ≤ p1.toInt ∧ p1.toInt < 30) ∨ (x15.toInt = 0 ∧ (p1.toInt < 0 ∨ 30 ≤ p1.toInt)))
    (c18 : ¬ (x15.toInt = 0))
    (t22 : (x22.toInt = 1 ∧ 0 ≤ p2.toInt ∧ p2.toInt < 30) ∨ (x22.toInt = 0 ∧ (p2.toInt < 0 ∨ 30 ≤ p2.toInt)))
    (c25 : x22.toInt ≠ 0)
    (t40 : (x40.toInt = 1 ∧ (cel (vw (G.2.1 (F (F a 3) 0))) (p0.toInt) (p1.toInt) 0) ≠ -2000) ∨ (x40.toInt = 0 ∧ (cel (vw (G.2.1 (F (F a 3) 0))) (p0.toInt) (p1.toInt) 0) = -2000))
    (c43 : x40.toInt ≠ 0)
    (t59 : (x59.toInt = 1 ∧ (cel (vw (G.2.1 (F (F a 3) 0))) (p0.toInt) (p2.toInt) 0) ≠ -2000) ∨ (x59.toInt = 0 ∧ (cel (vw (G.2.1 (F (F a 3) 0))) (p0.toInt) (p2.toInt) 0) = -2000))
    (c62 : x59.toInt = 0)
    (z83 : (cel (vw (G80.2.1 (F (F a 5) 0))) (p0.toInt) (p1.toInt) 0) = (cel (vw (G.2.1 (F (F a 3) 0))) (p0.toInt) (p1.toInt) 0))
    (z83a : p1.toInt = p2.toInt → (cel (vw (G.2.1 (F (F a 3) 0))) (p0.toInt) (p1.toInt) 0) = (cel (vw (G.2.1 (F (F a 3) 0))) (p0.toInt) (p2.toInt) 0))
    (c_G80_F_F_a_10_0 : G80.2.1 (F (F a 10) 0) = G.2.1 (F (F a 10) 0))
    (c_G80_F_F_a_10_1 : G80.2.1 (F (F a 10) 1) = G.2.1 (F (F a 10) 1))
    (c_G80_F_F_a_10_2 : G80.2.1 (F (F a 10) 2) = G.2.1 (F (F a 10) 2))
    (c_G80_F_F_a_10_3 : G80.2.1 (F (F a 10) 3) = G.2.1 (F (F a 10) 3))
    (c_G80_F_F_a_10_4 : G80.2.1 (F (F a 10) 4) = G.2.1 (F (F a 10) 4))
    (c_G80_F_F_a_10_5 : G80.2.1 (F (F a 10) 5) = G.2.1 (F (F a 10) 5))
    (c_G80_F_F_a_11_0 : G80.2.1 (F (F a 11) 0) = G.2.1 (F (F a 11) 0))
    (c_G80_F_F_a_11_1 : G80.2.1 (F (F a 11) 1) = G.2.1 (F (F a 11) 1))
    (c_G80_F_F_a_11_2 : G80.2.1 (F (F a 11) 2) = G.2.1 (F (F a 11) 2))
    (c_G80_F_F_a_3_0 : G80.2.1 (F (F a 3) 0) = G.2.1 (F (F a 3) 0))
    (c_G80_F_F_a_3_1 : G80.2.1 (F (F a 3) 1) = G.2.1 (F (F a 3) 1))
    (c_G80_F_F_a_8_0 : G80.2.1 (F (F a 8) 0) = G.2.1 (F (F a 8) 0))
    (c_G80_F_F_a_8_1 : G80.2.1 (F (F a 8) 1) = G.2.1 (F (F a 8) 1))
    (c_G80_F_F_a_8_2 : G80.2.1 (F (F a 8) 2) = G.2.1 (F (F a 8) 2))
    (c_G80_F_F_a_8_3 : G80.2.1 (F (F a 8) 3) = G.2.1 (F (F a 8) 3))
    (c_G80_F_F_a_8_4 : G80.2.1 (F (F a 8) 4) = G.2.1 (F (F a 8) 4))
    (c_G80_F_F_a_8_5 : G80.2.1 (F (F a 8) 5) = G.2.1 (F (F a 8) 5))
    (c_G80_F_F_a_9_0 : G80.2.1 (F (F a 9) 0) = G.2.1 (F (F a 9) 0))
    (c_G80_F_F_a_9_1 : G80.2.1 (F (F a 9) 1) = G.2.1 (F (F a 9) 1))
    (c_G80_F_F_a_9_2 : G80.2.1 (F (F a 9) 2) = G.2.1 (F (F a 9) 2))
    (c_G80_F_F_a_9_3 : G80.2.1 (F (F a 9) 3) = G.2.1 (F (F a 9) 3))
    (c_G80_F_F_a_9_4 : G80.2.1 (F (F a 9) 4) = G.2.1 (F (F a 9) 4))
    (c_G80_F_F_a_9_5 : G80.2.1 (F (F a 9) 5) = G.2.1 (F (F a 9) 5))
    (c_G80_F_a_15 : G80.2.1 (F a 15) = G.2.1 (F a 15))
    (c_G80_F_a_16 : G80.2.1 (F a 16) = G.2.1 (F a 16))
    (r_G80_F_F_a_2_0 : G80.2.2.1 (F (F a 2) 0) = G.2.2.1 (F (F a 2) 0))
    (d_G80_F_a_10_6 : G80.1 (F a 10) 6 = G.1 (F a 10) 6)
    (d_G80_F_a_11_3 : G80.1 (F a 11) 3 = G.1 (F a 11) 3)
    (d_G80_F_a_14_1 : G80.1 (F a 14) 1 = G4.1 (F a 14) 1)
    (d_G80_F_a_14_2 : G80.1 (F a 14) 2 = G.1 (F a 14) 2)
    (d_G80_F_a_14_3 : G80.1 (F a 14) 3 = G.1 (F a 14) 3)
    (d_G80_F_a_8_6 : G80.1 (F a 8) 6 = G.1 (F a 8) 6)
    (d_G80_F_a_9_6 : G80.1 (F a 9) 6 = G.1 (F a 9) 6) :
    BKr K G80 (G80.2.2.1 (F (F a 2) 0)) := by
  have hd : ∀ p, p ∈ [(F a 11, 3), (F a 9, 6), (F a 14, 1), (F a 14, 2), (F a 14, 3), (F a 10, 6), (F a 8, 6)] → K p.1 ≠ 9 := (List.forall_mem_cons.mpr ⟨(show K (F a 11) ≠ 9 by omega), List.forall_mem_cons.mpr ⟨(show K (F a 9) ≠ 9 by omega), List.forall_mem_cons.mpr ⟨(show K (F a 14) ≠ 9 by omega), List.forall_mem_cons.mpr ⟨(show K (F a 14) ≠ 9 by omega), List.forall_mem_cons.mpr ⟨(show K (F a 14) ≠ 9 by omega), List.forall_mem_cons.mpr ⟨(show K (F a 10) ≠ 9 by omega), List.forall_mem_cons.mpr ⟨(show K (F a 8) ≠ 9 by omega), fun _ h => by cases h⟩⟩⟩⟩⟩⟩⟩)
  rw [show G80.2.2.1 (F (F a 2) 0) = G.2.2.1 (F (F a 2) 0) by assumption]
  exact bkn.fr hfr hd
theorem v_X10_rekey_98_10 {K : Nat → Nat} {F : Nat → Nat → Nat} (a : Nat) (G : XG) (G80 : XG) (G4 : XG) (x8 : Int32) (p0 : Int32) (x15 : Int32) (p1 : Int32) (x22 : Int32) (p2 : Int32) (x40 : Int32) (x59 : Int32)
    (ha : K a = 12)
    (hk9999 : K (F a 11) = 3)
    (hj9999 : F (F a 11) 99 = 0)
    (hk9999a : K (F a 9) = 6)
    (hj9999a : F (F a 9) 99 = 1)
    (hk9999b : K (F a 14) = 11)
    (hj9999b : F (F a 14) 99 = 0)
    (hk9999c : K (F a 10) = 6)
    (hj9999c : F (F a 10) 99 = 2)
    (hk9999d : K (F a 8) = 6)
    (hj9999d : F (F a 8) 99 = 0)
    (hk9999e : K (F (F a 11) 0) = 21)
    (hj9999e : F (F (F a 11) 0) 99 = 100)
    (hk9999f : K (F (F a 11) 1) = 21)
    (hj9999f : F (F (F a 11) 1) 99 = 101)
    (hk9999g : K (F (F a 11) 2) = 24)
    (hj9999g : F (F (F a 11) 2) 99 = 4)
    (hk9999h : K (F (F a 9) 0) = 22)
    (hj9999i : F (F (F a 9) 0) 99 = 10 * 1 + 0)
    (hk9999i : K (F (F a 9) 1) = 22)
    (hj9999k : F (F (F a 9) 1) 99 = 10 * 1 + 1)
    (hk9999j : K (F (F a 9) 2) = 22)
    (hj9999m : F (F (F a 9) 2) 99 = 10 * 1 + 2)
    (hk9999k : K (F (F a 9) 3) = 22)
    (hj9999o : F (F (F a 9) 3) 99 = 10 * 1 + 3)
    (hk9999l : K (F (F a 9) 4) = 23)
    (hj9999q : F (F (F a 9) 4) 99 = 10 * 1 + 4)
    (hk9999m : K (F (F a 9) 5) = 23)
    (hj9999s : F (F (F a 9) 5) 99 = 10 * 1 + 5)
    (hk9999n : K (F a 16) = 27)
    (hj9999t : F (F a 16) 99 = 0)
    (hk9999o : K (F a 15) = 26)
    (hj9999u : F (F a 15) 99 = 0)
    (hk9999p : K (F (F a 10) 0) = 22)
    (hj9999w : F (F (F a 10) 0) 99 = 10 * 2 + 0)
    (hk9999q : K (F (F a 10) 1) = 22)
    (hj9999z25 : F (F (F a 10) 1) 99 = 10 * 2 + 1)
    (hk9999r : K (F (F a 10) 2) = 22)
    (hj9999z27 : F (F (F a 10) 2) 99 = 10 * 2 + 2)
    (hk9999s : K (F (F a 10) 3) = 22)
    (hj9999z29 : F (F (F a 10) 3) 99 = 10 * 2 + 3)
    (hk9999t : K (F (F a 10) 4) = 23)
    (hj9999z31 : F (F (F a 10) 4) 99 = 10 * 2 + 4)
    (hk9999u : K (F (F a 10) 5) = 23)
    (hj9999z33 : F (F (F a 10) 5) 99 = 10 * 2 + 5)
    (hk9999v : K (F a 3) = 8)
    (hj9999z34 : F (F a 3) 99 = 0)
    (hk9999w : K (F (F a 3) 0) = 20)
    (hj9999z36 : F (F (F a 3) 0) 99 = 0)
    (hk9999y : K (F (F a 3) 1) = 21)
    (hj9999z38 : F (F (F a 3) 1) 99 = 0)
    (hk9999z25 : K (F (F a 8) 0) = 22)
    (hj9999z40 : F (F (F a 8) 0) 99 = 10 * 0 + 0)
    (hk9999z26 : K (F (F a 8) 1) = 22)
    (hj9999z42 : F (F (F a 8) 1) 99 = 10 * 0 + 1)
    (hk9999z27 : K (F (F a 8) 2) = 22)
    (hj9999z44 : F (F (F a 8) 2) 99 = 10 * 0 + 2)
    (hk9999z28 : K (F (F a 8) 3) = 22)
    (hj9999z46 : F (F (F a 8) 3) 99 = 10 * 0 + 3)
    (hk9999z29 : K (F (F a 8) 4) = 23)
    (hj9999z48 : F (F (F a 8) 4) 99 = 10 * 0 + 4)
    (hk9999z30 : K (F (F a 8) 5) = 23)
    (hj9999z50 : F (F (F a 8) 5) 99 = 10 * 0 + 5)
    (hk9999z31 : K (F a 5) = 8)
    (hj9999z51 : F (F a 5) 99 = 2)
    (hk9999z32 : K (F (F a 5) 0) = 20)
    (hj9999z53 : F (F (F a 5) 0) 99 = 2)
    (hk9999z33 : K (F (F a 5) 1) = 21)
    (hj9999z55 : F (F (F a 5) 1) 99 = 2)
    (hk9999z34 : K (F a 2) = 2)
    (hj9999z56 : F (F a 2) 99 = 0)
    (hk9999z35 : K (F (F a 2) 1) = 15)
    (hj9999z57 : F (F (F a 2) 1) 99 = 1)
    (hk9999z36 : K (F (F a 2) 0) = 15)
    (hj9999z58 : F (F (F a 2) 0) 99 = 0)
    (hk9999z37 : K (F a 4) = 8)
    (hj9999z59 : F (F a 4) 99 = 1)
    (hk9999z38 : K (F (F a 4) 0) = 20)
    (hj9999z61 : F (F (F a 4) 0) 99 = 1)
    (hk9999z39 : K (F (F a 4) 1) = 21)
    (hj9999z63 : F (F (F a 4) 1) 99 = 1)
    (hk84 : K (F a 12) = 4)
    (hj84 : F (F a 12) 99 = 0)
    (hfr : XFr [(F a 11, 3), (F a 9, 6), (F a 14, 1), (F a 14, 2), (F a 14, 3), (F a 10, 6), (F a 8, 6)] [F (F a 11) 0, F (F a 11) 1, F (F a 11) 2, F (F a 9) 0, F (F a 9) 1, F (F a 9) 2, F (F a 9) 3, F (F a 9) 4, F (F a 9) 5, F a 16, F a 15, F (F a 10) 0, F (F a 10) 1, F (F a 10) 2, F (F a 10) 3, F (F a 10) 4, F (F a 10) 5, F (F a 3) 0, F (F a 3) 1, F (F a 8) 0, F (F a 8) 1, F (F a 8) 2, F (F a 8) 3, F (F a 8) 4, F (F a 8) 5, F (F a 5) 0, F (F a 5) 1] [] G G80)
    (hF4 : XFr [(F a 14, 1)] [] [] G G4)
    (hF80 : XFr [] [F (F a 5) 0, F (F a 5) 1] [] G4 G80)
    (ron : RO (vw (G.2.1 (F (F a 3) 0))) (aI (G.2.1 (F (F a 3) 1))))
    (rob : RO (vw (G.2.1 (F (F a 4) 0))) (aI (G.2.1 (F (F a 4) 1))))
    (bko : BKr K G (G.2.2.1 (F (F a 2) 1)))
    (bkn : BKr K G (G.2.2.1 (F (F a 2) 0)))
    (hac : ACo G (G.2.2.1 (F (F a 2) 0)))
    (oq80 : (vw (G80.2.1 (F (F a 5) 0))) = (vw (G.2.1 (F (F a 3) 0))))
    (oq80a : RO (vw (G80.2.1 (F (F a 5) 0))) (aI (G80.2.1 (F (F a 5) 1))))
    (sb : 0 ≤ ((G.1 (F a 2) 2).toInt) ∧ ((G.1 (F a 2) 2).toInt) ≤ 12)
    (sw : 0 ≤ ((G.1 (F a 8) 6).toInt) ∧ ((G.1 (F a 8) 6).toInt) ≤ 1080)
    (t4 : ((G4.1 (F a 14) 1).toInt) = 0)
    (t8 : (x8.toInt = 1 ∧ 0 ≤ p0.toInt ∧ p0.toInt < 3) ∨ (x8.toInt = 0 ∧ (p0.toInt < 0 ∨ 3 ≤ p0.toInt)))
    (c11 : ¬ (x8.toInt = 0))
    (t15 : (x15.toInt = 1 ∧ 0 ≤ p1.toInt ∧ p1.toInt < 30) ∨ (x15.toInt = 0 ∧ (p1.toInt < 0 ∨ 30 ≤ p1.toInt)))
    (c18 : ¬ (x15.toInt = 0))
    (t22 : (x22.toInt = 1 ∧ 0 ≤ p2.toInt ∧ p2.toInt < 30) ∨ (x22.toInt = 0 ∧ (p2.toInt < 0 ∨ 30 ≤ p2.toInt)))
    (c25 : x22.toInt ≠ 0)
    (t40 : (x40.toInt = 1 ∧ (cel (vw (G.2.1 (F (F a 3) 0))) (p0.toInt) (p1.toInt) 0) ≠ -2000) ∨ (x40.toInt = 0 ∧ (cel (vw (G.2.1 (F (F a 3) 0))) (p0.toInt) (p1.toInt) 0) = -2000))
    (c43 : x40.toInt ≠ 0)
    (t59 : (x59.toInt = 1 ∧ (cel (vw (G.2.1 (F (F a 3) 0))) (p0.toInt) (p2.toInt) 0) ≠ -2000) ∨ (x59.toInt = 0 ∧ (cel (vw (G.2.1 (F (F a 3) 0))) (p0.toInt) (p2.toInt) 0) = -2000))
    (c62 : x59.toInt = 0)
    (z83 : (cel (vw (G80.2.1 (F (F a 5) 0))) (p0.toInt) (p1.toInt) 0) = (cel (vw (G.2.1 (F (F a 3) 0))) (p0.toInt) (p1.toInt) 0))
    (z83a : p1.toInt = p2.toInt → (cel (vw (G.2.1 (F (F a 3) 0))) (p0.toInt) (p1.toInt) 0) = (cel (vw (G.2.1 (F (F a 3) 0))) (p0.toInt) (p2.toInt) 0))
    (c_G80_F_F_a_10_0 : G80.2.1 (F (F a 10) 0) = G.2.1 (F (F a 10) 0))
    (c_G80_F_F_a_10_1 : G80.2.1 (F (F a 10) 1) = G.2.1 (F (F a 10) 1))
    (c_G80_F_F_a_10_2 : G80.2.1 (F (F a 10) 2) = G.2.1 (F (F a 10) 2))
    (c_G80_F_F_a_10_3 : G80.2.1 (F (F a 10) 3) = G.2.1 (F (F a 10) 3))
    (c_G80_F_F_a_10_4 : G80.2.1 (F (F a 10) 4) = G.2.1 (F (F a 10) 4))
    (c_G80_F_F_a_10_5 : G80.2.1 (F (F a 10) 5) = G.2.1 (F (F a 10) 5))
    (c_G80_F_F_a_11_0 : G80.2.1 (F (F a 11) 0) = G.2.1 (F (F a 11) 0))
    (c_G80_F_F_a_11_1 : G80.2.1 (F (F a 11) 1) = G.2.1 (F (F a 11) 1))
    (c_G80_F_F_a_11_2 : G80.2.1 (F (F a 11) 2) = G.2.1 (F (F a 11) 2))
    (c_G80_F_F_a_3_0 : G80.2.1 (F (F a 3) 0) = G.2.1 (F (F a 3) 0))
    (c_G80_F_F_a_3_1 : G80.2.1 (F (F a 3) 1) = G.2.1 (F (F a 3) 1))
    (c_G80_F_F_a_8_0 : G80.2.1 (F (F a 8) 0) = G.2.1 (F (F a 8) 0))
    (c_G80_F_F_a_8_1 : G80.2.1 (F (F a 8) 1) = G.2.1 (F (F a 8) 1))
    (c_G80_F_F_a_8_2 : G80.2.1 (F (F a 8) 2) = G.2.1 (F (F a 8) 2))
    (c_G80_F_F_a_8_3 : G80.2.1 (F (F a 8) 3) = G.2.1 (F (F a 8) 3))
    (c_G80_F_F_a_8_4 : G80.2.1 (F (F a 8) 4) = G.2.1 (F (F a 8) 4))
    (c_G80_F_F_a_8_5 : G80.2.1 (F (F a 8) 5) = G.2.1 (F (F a 8) 5))
    (c_G80_F_F_a_9_0 : G80.2.1 (F (F a 9) 0) = G.2.1 (F (F a 9) 0))
    (c_G80_F_F_a_9_1 : G80.2.1 (F (F a 9) 1) = G.2.1 (F (F a 9) 1))
    (c_G80_F_F_a_9_2 : G80.2.1 (F (F a 9) 2) = G.2.1 (F (F a 9) 2))
    (c_G80_F_F_a_9_3 : G80.2.1 (F (F a 9) 3) = G.2.1 (F (F a 9) 3))
    (c_G80_F_F_a_9_4 : G80.2.1 (F (F a 9) 4) = G.2.1 (F (F a 9) 4))
    (c_G80_F_F_a_9_5 : G80.2.1 (F (F a 9) 5) = G.2.1 (F (F a 9) 5))
    (c_G80_F_a_15 : G80.2.1 (F a 15) = G.2.1 (F a 15))
    (c_G80_F_a_16 : G80.2.1 (F a 16) = G.2.1 (F a 16))
    (r_G80_F_F_a_2_0 : G80.2.2.1 (F (F a 2) 0) = G.2.2.1 (F (F a 2) 0))
    (d_G80_F_a_10_6 : G80.1 (F a 10) 6 = G.1 (F a 10) 6)
    (d_G80_F_a_11_3 : G80.1 (F a 11) 3 = G.1 (F a 11) 3)
    (d_G80_F_a_14_1 : G80.1 (F a 14) 1 = G4.1 (F a 14) 1)
    (d_G80_F_a_14_2 : G80.1 (F a 14) 2 = G.1 (F a 14) 2)
    (d_G80_F_a_14_3 : G80.1 (F a 14) 3 = G.1 (F a 14) 3)
    (d_G80_F_a_8_6 : G80.1 (F a 8) 6 = G.1 (F a 8) 6)
    (d_G80_F_a_9_6 : G80.1 (F a 9) 6 = G.1 (F a 9) 6) :
    ACo G80 (G80.2.2.1 (F (F a 2) 0)) := by
  have hd : ∀ p, p ∈ [(F a 11, 3), (F a 9, 6), (F a 14, 1), (F a 14, 2), (F a 14, 3), (F a 10, 6), (F a 8, 6)] → K p.1 ≠ 9 := (List.forall_mem_cons.mpr ⟨(show K (F a 11) ≠ 9 by omega), List.forall_mem_cons.mpr ⟨(show K (F a 9) ≠ 9 by omega), List.forall_mem_cons.mpr ⟨(show K (F a 14) ≠ 9 by omega), List.forall_mem_cons.mpr ⟨(show K (F a 14) ≠ 9 by omega), List.forall_mem_cons.mpr ⟨(show K (F a 14) ≠ 9 by omega), List.forall_mem_cons.mpr ⟨(show K (F a 10) ≠ 9 by omega), List.forall_mem_cons.mpr ⟨(show K (F a 8) ≠ 9 by omega), fun _ h => by cases h⟩⟩⟩⟩⟩⟩⟩)
  rw [show G80.2.2.1 (F (F a 2) 0) = G.2.2.1 (F (F a 2) 0) by assumption]
  exact hac.cg (fun i q hi hq => hfr.rule hd (bkn i q hi hq).1)
theorem v_X10_rekey_102_11 {F : Nat → Nat → Nat} (a : Nat) (G : XG) (G98 : XG) (G80 : XG)
    (ron : RO (vw (G.2.1 (F (F a 3) 0))) (aI (G.2.1 (F (F a 3) 1))))
    (rob : RO (vw (G.2.1 (F (F a 4) 0))) (aI (G.2.1 (F (F a 4) 1))))
    (oq80a : RO (vw (G80.2.1 (F (F a 5) 0))) (aI (G80.2.1 (F (F a 5) 1))))
    (oq98a : RO (vw (G98.2.1 (F (F a 5) 0))) (aI (G98.2.1 (F (F a 5) 1))))
    (c_G98_F_F_a_3_0 : G98.2.1 (F (F a 3) 0) = G.2.1 (F (F a 3) 0))
    (c_G98_F_F_a_3_1 : G98.2.1 (F (F a 3) 1) = G.2.1 (F (F a 3) 1)) :
    RO (vw (G98.2.1 (F (F a 3) 0))) (aI (G98.2.1 (F (F a 3) 1))) := by simp only [c_G98_F_F_a_3_0, c_G98_F_F_a_3_1]; assumption
theorem v_X10_rekey_102_12 {F : Nat → Nat → Nat} (a : Nat) (G98 : XG)
    (oq98a : RO (vw (G98.2.1 (F (F a 5) 0))) (aI (G98.2.1 (F (F a 5) 1)))) :
    RO (vw (G98.2.1 (F (F a 5) 0))) (aI (G98.2.1 (F (F a 5) 1))) := by
  exact oq98a
theorem v_X10_rekey_102_13 {F : Nat → Nat → Nat} (a : Nat) (G : XG) (G98 : XG) (G80 : XG)
    (ron : RO (vw (G.2.1 (F (F a 3) 0))) (aI (G.2.1 (F (F a 3) 1))))
    (rob : RO (vw (G.2.1 (F (F a 4) 0))) (aI (G.2.1 (F (F a 4) 1))))
    (oq80a : RO (vw (G80.2.1 (F (F a 5) 0))) (aI (G80.2.1 (F (F a 5) 1))))
    (oq98a : RO (vw (G98.2.1 (F (F a 5) 0))) (aI (G98.2.1 (F (F a 5) 1))))
    (c_G98_F_F_a_4_0 : G98.2.1 (F (F a 4) 0) = G.2.1 (F (F a 4) 0))
    (c_G98_F_F_a_4_1 : G98.2.1 (F (F a 4) 1) = G.2.1 (F (F a 4) 1)) :
    RO (vw (G98.2.1 (F (F a 4) 0))) (aI (G98.2.1 (F (F a 4) 1))) := by simp only [c_G98_F_F_a_4_0, c_G98_F_F_a_4_1]; assumption
theorem v_X10_rekey_102_14 {K : Nat → Nat} {F : Nat → Nat → Nat} (a : Nat) (G : XG) (G98 : XG) (G4 : XG) (G80 : XG) (p0 : Int32) (p1 : Int32) (p2 : Int32) (x8 : Int32) (x15 : Int32) (x22 : Int32) (x40 : Int32) (x59 : Int32)
    (ha : K a = 12)
    (hk9999 : K (F a 11) = 3)
    (hj9999 : F (F a 11) 99 = 0)
    (hk9999a : K (F a 9) = 6)
    (hj9999a : F (F a 9) 99 = 1)
    (hk9999b : K (F a 14) = 11)
    (hj9999b : F (F a 14) 99 = 0)
    (hk9999c : K (F a 10) = 6)
    (hj9999c : F (F a 10) 99 = 2)
    (hk9999d : K (F a 8) = 6)
    (hj9999d : F (F a 8) 99 = 0)
    (hk9999e : K (F (F a 11) 0) = 21)
    (hj9999e : F (F (F a 11) 0) 99 = 100)
    (hk9999f : K (F (F a 11) 1) = 21)
    (hj9999f : F (F (F a 11) 1) 99 = 101)
    (hk9999g : K (F (F a 11) 2) = 24)
    (hj9999g : F (F (F a 11) 2) 99 = 4)
    (hk9999h : K (F (F a 9) 0) = 22)
    (hj9999i : F (F (F a 9) 0) 99 = 10 * 1 + 0)
    (hk9999i : K (F (F a 9) 1) = 22)
    (hj9999k : F (F (F a 9) 1) 99 = 10 * 1 + 1)
    (hk9999j : K (F (F a 9) 2) = 22)
    (hj9999m : F (F (F a 9) 2) 99 = 10 * 1 + 2)
    (hk9999k : K (F (F a 9) 3) = 22)
    (hj9999o : F (F (F a 9) 3) 99 = 10 * 1 + 3)
    (hk9999l : K (F (F a 9) 4) = 23)
    (hj9999q : F (F (F a 9) 4) 99 = 10 * 1 + 4)
    (hk9999m : K (F (F a 9) 5) = 23)
    (hj9999s : F (F (F a 9) 5) 99 = 10 * 1 + 5)
    (hk9999n : K (F a 16) = 27)
    (hj9999t : F (F a 16) 99 = 0)
    (hk9999o : K (F a 15) = 26)
    (hj9999u : F (F a 15) 99 = 0)
    (hk9999p : K (F (F a 10) 0) = 22)
    (hj9999w : F (F (F a 10) 0) 99 = 10 * 2 + 0)
    (hk9999q : K (F (F a 10) 1) = 22)
    (hj9999z25 : F (F (F a 10) 1) 99 = 10 * 2 + 1)
    (hk9999r : K (F (F a 10) 2) = 22)
    (hj9999z27 : F (F (F a 10) 2) 99 = 10 * 2 + 2)
    (hk9999s : K (F (F a 10) 3) = 22)
    (hj9999z29 : F (F (F a 10) 3) 99 = 10 * 2 + 3)
    (hk9999t : K (F (F a 10) 4) = 23)
    (hj9999z31 : F (F (F a 10) 4) 99 = 10 * 2 + 4)
    (hk9999u : K (F (F a 10) 5) = 23)
    (hj9999z33 : F (F (F a 10) 5) 99 = 10 * 2 + 5)
    (hk9999v : K (F a 3) = 8)
    (hj9999z34 : F (F a 3) 99 = 0)
    (hk9999w : K (F (F a 3) 0) = 20)
    (hj9999z36 : F (F (F a 3) 0) 99 = 0)
    (hk9999y : K (F (F a 3) 1) = 21)
    (hj9999z38 : F (F (F a 3) 1) 99 = 0)
    (hk9999z25 : K (F (F a 8) 0) = 22)
    (hj9999z40 : F (F (F a 8) 0) 99 = 10 * 0 + 0)
    (hk9999z26 : K (F (F a 8) 1) = 22)
    (hj9999z42 : F (F (F a 8) 1) 99 = 10 * 0 + 1)
    (hk9999z27 : K (F (F a 8) 2) = 22)
    (hj9999z44 : F (F (F a 8) 2) 99 = 10 * 0 + 2)
    (hk9999z28 : K (F (F a 8) 3) = 22)
    (hj9999z46 : F (F (F a 8) 3) 99 = 10 * 0 + 3)
    (hk9999z29 : K (F (F a 8) 4) = 23)
    (hj9999z48 : F (F (F a 8) 4) 99 = 10 * 0 + 4)
    (hk9999z30 : K (F (F a 8) 5) = 23)
    (hj9999z50 : F (F (F a 8) 5) 99 = 10 * 0 + 5)
    (hk9999z31 : K (F a 5) = 8)
    (hj9999z51 : F (F a 5) 99 = 2)
    (hk9999z32 : K (F (F a 5) 0) = 20)
    (hj9999z53 : F (F (F a 5) 0) 99 = 2)
    (hk9999z33 : K (F (F a 5) 1) = 21)
    (hj9999z55 : F (F (F a 5) 1) 99 = 2)
    (hk9999z34 : K (F a 2) = 2)
    (hj9999z56 : F (F a 2) 99 = 0)
    (hk9999z35 : K (F (F a 2) 1) = 15)
    (hj9999z57 : F (F (F a 2) 1) 99 = 1)
    (hk9999z36 : K (F (F a 2) 0) = 15)
    (hj9999z58 : F (F (F a 2) 0) 99 = 0)
    (hk9999z37 : K (F a 4) = 8)
    (hj9999z59 : F (F a 4) 99 = 1)
    (hk9999z38 : K (F (F a 4) 0) = 20)
    (hj9999z61 : F (F (F a 4) 0) 99 = 1)
    (hk9999z39 : K (F (F a 4) 1) = 21)
    (hj9999z63 : F (F (F a 4) 1) 99 = 1)
    (hk84 : K (F a 12) = 4)
    (hj84 : F (F a 12) 99 = 0)
    (hfr : XFr [(F a 11, 3), (F a 9, 6), (F a 14, 1), (F a 14, 2), (F a 14, 3), (F a 10, 6), (F a 8, 6)] [F (F a 11) 0, F (F a 11) 1, F (F a 11) 2, F (F a 9) 0, F (F a 9) 1, F (F a 9) 2, F (F a 9) 3, F (F a 9) 4, F (F a 9) 5, F a 16, F a 15, F (F a 10) 0, F (F a 10) 1, F (F a 10) 2, F (F a 10) 3, F (F a 10) 4, F (F a 10) 5, F (F a 3) 0, F (F a 3) 1, F (F a 8) 0, F (F a 8) 1, F (F a 8) 2, F (F a 8) 3, F (F a 8) 4, F (F a 8) 5, F (F a 5) 0, F (F a 5) 1] [] G G98)
    (hF4 : XFr [(F a 14, 1)] [] [] G G4)
    (hF80 : XFr [] [F (F a 5) 0, F (F a 5) 1] [] G4 G80)
    (hF98 : XFr [] [F (F a 5) 0, F (F a 5) 1] [] G80 G98)
    (ron : RO (vw (G.2.1 (F (F a 3) 0))) (aI (G.2.1 (F (F a 3) 1))))
    (rob : RO (vw (G.2.1 (F (F a 4) 0))) (aI (G.2.1 (F (F a 4) 1))))
    (bko : BKr K G (G.2.2.1 (F (F a 2) 1)))
    (bkn : BKr K G (G.2.2.1 (F (F a 2) 0)))
    (hac : ACo G (G.2.2.1 (F (F a 2) 0)))
    (oq80 : (vw (G80.2.1 (F (F a 5) 0))) = (vw (G.2.1 (F (F a 3) 0))))
    (oq80a : RO (vw (G80.2.1 (F (F a 5) 0))) (aI (G80.2.1 (F (F a 5) 1))))
    (oq98 : (vw (G98.2.1 (F (F a 5) 0))) = mvR (clsA G80 (G80.2.2.1 (F (F a 2) 0))) (clsT G80 (G80.2.2.1 (F (F a 2) 0))) (clsC G80 (G80.2.2.1 (F (F a 2) 0))) p0.toInt p1.toInt p2.toInt (rmv (vw (G80.2.1 (F (F a 5) 0))) p0.toInt p1.toInt p2.toInt) 12)
    (oq98a : RO (vw (G98.2.1 (F (F a 5) 0))) (aI (G98.2.1 (F (F a 5) 1))))
    (sb : 0 ≤ ((G.1 (F a 2) 2).toInt) ∧ ((G.1 (F a 2) 2).toInt) ≤ 12)
    (sw : 0 ≤ ((G.1 (F a 8) 6).toInt) ∧ ((G.1 (F a 8) 6).toInt) ≤ 1080)
    (t4 : ((G4.1 (F a 14) 1).toInt) = 0)
    (t8 : (x8.toInt = 1 ∧ 0 ≤ p0.toInt ∧ p0.toInt < 3) ∨ (x8.toInt = 0 ∧ (p0.toInt < 0 ∨ 3 ≤ p0.toInt)))
    (c11 : ¬ (x8.toInt = 0))
    (t15 : (x15.toInt = 1 ∧ 0 ≤ p1.toInt ∧ p1.toInt < 30) ∨ (x15.toInt = 0 ∧ (p1.toInt < 0 ∨ 30 ≤ p1.toInt)))
    (c18 : ¬ (x15.toInt = 0))
    (t22 : (x22.toInt = 1 ∧ 0 ≤ p2.toInt ∧ p2.toInt < 30) ∨ (x22.toInt = 0 ∧ (p2.toInt < 0 ∨ 30 ≤ p2.toInt)))
    (c25 : x22.toInt ≠ 0)
    (t40 : (x40.toInt = 1 ∧ (cel (vw (G.2.1 (F (F a 3) 0))) (p0.toInt) (p1.toInt) 0) ≠ -2000) ∨ (x40.toInt = 0 ∧ (cel (vw (G.2.1 (F (F a 3) 0))) (p0.toInt) (p1.toInt) 0) = -2000))
    (c43 : x40.toInt ≠ 0)
    (t59 : (x59.toInt = 1 ∧ (cel (vw (G.2.1 (F (F a 3) 0))) (p0.toInt) (p2.toInt) 0) ≠ -2000) ∨ (x59.toInt = 0 ∧ (cel (vw (G.2.1 (F (F a 3) 0))) (p0.toInt) (p2.toInt) 0) = -2000))
    (c62 : x59.toInt = 0)
    (z83 : (cel (vw (G80.2.1 (F (F a 5) 0))) (p0.toInt) (p1.toInt) 0) = (cel (vw (G.2.1 (F (F a 3) 0))) (p0.toInt) (p1.toInt) 0))
    (z83a : p1.toInt = p2.toInt → (cel (vw (G.2.1 (F (F a 3) 0))) (p0.toInt) (p1.toInt) 0) = (cel (vw (G.2.1 (F (F a 3) 0))) (p0.toInt) (p2.toInt) 0))
    (c_G98_F_F_a_10_0 : G98.2.1 (F (F a 10) 0) = G.2.1 (F (F a 10) 0))
    (c_G98_F_F_a_10_1 : G98.2.1 (F (F a 10) 1) = G.2.1 (F (F a 10) 1))
    (c_G98_F_F_a_10_2 : G98.2.1 (F (F a 10) 2) = G.2.1 (F (F a 10) 2))
    (c_G98_F_F_a_10_3 : G98.2.1 (F (F a 10) 3) = G.2.1 (F (F a 10) 3))
    (c_G98_F_F_a_10_4 : G98.2.1 (F (F a 10) 4) = G.2.1 (F (F a 10) 4))
    (c_G98_F_F_a_10_5 : G98.2.1 (F (F a 10) 5) = G.2.1 (F (F a 10) 5))
    (c_G98_F_F_a_11_0 : G98.2.1 (F (F a 11) 0) = G.2.1 (F (F a 11) 0))
    (c_G98_F_F_a_11_1 : G98.2.1 (F (F a 11) 1) = G.2.1 (F (F a 11) 1))
    (c_G98_F_F_a_11_2 : G98.2.1 (F (F a 11) 2) = G.2.1 (F (F a 11) 2))
    (c_G98_F_F_a_3_0 : G98.2.1 (F (F a 3) 0) = G.2.1 (F (F a 3) 0))
    (c_G98_F_F_a_3_1 : G98.2.1 (F (F a 3) 1) = G.2.1 (F (F a 3) 1))
    (c_G98_F_F_a_8_0 : G98.2.1 (F (F a 8) 0) = G.2.1 (F (F a 8) 0))
    (c_G98_F_F_a_8_1 : G98.2.1 (F (F a 8) 1) = G.2.1 (F (F a 8) 1))
    (c_G98_F_F_a_8_2 : G98.2.1 (F (F a 8) 2) = G.2.1 (F (F a 8) 2))
    (c_G98_F_F_a_8_3 : G98.2.1 (F (F a 8) 3) = G.2.1 (F (F a 8) 3))
    (c_G98_F_F_a_8_4 : G98.2.1 (F (F a 8) 4) = G.2.1 (F (F a 8) 4))
    (c_G98_F_F_a_8_5 : G98.2.1 (F (F a 8) 5) = G.2.1 (F (F a 8) 5))
    (c_G98_F_F_a_9_0 : G98.2.1 (F (F a 9) 0) = G.2.1 (F (F a 9) 0))
    (c_G98_F_F_a_9_1 : G98.2.1 (F (F a 9) 1) = G.2.1 (F (F a 9) 1))
    (c_G98_F_F_a_9_2 : G98.2.1 (F (F a 9) 2) = G.2.1 (F (F a 9) 2))
    (c_G98_F_F_a_9_3 : G98.2.1 (F (F a 9) 3) = G.2.1 (F (F a 9) 3))
    (c_G98_F_F_a_9_4 : G98.2.1 (F (F a 9) 4) = G.2.1 (F (F a 9) 4))
    (c_G98_F_F_a_9_5 : G98.2.1 (F (F a 9) 5) = G.2.1 (F (F a 9) 5))
    (c_G98_F_a_15 : G98.2.1 (F a 15) = G.2.1 (F a 15))
    (c_G98_F_a_16 : G98.2.1 (F a 16) = G.2.1 (F a 16))
    (r_G80_F_F_a_2_0 : G80.2.2.1 (F (F a 2) 0) = G.2.2.1 (F (F a 2) 0))
    (r_G98_F_F_a_2_0 : G98.2.2.1 (F (F a 2) 0) = G.2.2.1 (F (F a 2) 0))
    (r_G98_F_F_a_2_1 : G98.2.2.1 (F (F a 2) 1) = G.2.2.1 (F (F a 2) 1))
    (d_G98_F_a_10_6 : G98.1 (F a 10) 6 = G.1 (F a 10) 6)
    (d_G98_F_a_11_3 : G98.1 (F a 11) 3 = G.1 (F a 11) 3)
    (d_G98_F_a_14_1 : G98.1 (F a 14) 1 = G4.1 (F a 14) 1)
    (d_G98_F_a_14_2 : G98.1 (F a 14) 2 = G.1 (F a 14) 2)
    (d_G98_F_a_14_3 : G98.1 (F a 14) 3 = G.1 (F a 14) 3)
    (d_G98_F_a_8_6 : G98.1 (F a 8) 6 = G.1 (F a 8) 6)
    (d_G98_F_a_9_6 : G98.1 (F a 9) 6 = G.1 (F a 9) 6) :
    BKr K G98 (G98.2.2.1 (F (F a 2) 1)) := by
  have hd : ∀ p, p ∈ [(F a 11, 3), (F a 9, 6), (F a 14, 1), (F a 14, 2), (F a 14, 3), (F a 10, 6), (F a 8, 6)] → K p.1 ≠ 9 := (List.forall_mem_cons.mpr ⟨(show K (F a 11) ≠ 9 by omega), List.forall_mem_cons.mpr ⟨(show K (F a 9) ≠ 9 by omega), List.forall_mem_cons.mpr ⟨(show K (F a 14) ≠ 9 by omega), List.forall_mem_cons.mpr ⟨(show K (F a 14) ≠ 9 by omega), List.forall_mem_cons.mpr ⟨(show K (F a 14) ≠ 9 by omega), List.forall_mem_cons.mpr ⟨(show K (F a 10) ≠ 9 by omega), List.forall_mem_cons.mpr ⟨(show K (F a 8) ≠ 9 by omega), fun _ h => by cases h⟩⟩⟩⟩⟩⟩⟩)
  rw [show G98.2.2.1 (F (F a 2) 1) = G.2.2.1 (F (F a 2) 1) by assumption]
  exact bko.fr hfr hd
theorem v_X10_rekey_102_15 {K : Nat → Nat} {F : Nat → Nat → Nat} (a : Nat) (G : XG) (G98 : XG) (G4 : XG) (G80 : XG) (p0 : Int32) (p1 : Int32) (p2 : Int32) (x8 : Int32) (x15 : Int32) (x22 : Int32) (x40 : Int32) (x59 : Int32)
    (ha : K a = 12)
    (hk9999 : K (F a 11) = 3)
    (hj9999 : F (F a 11) 99 = 0)
    (hk9999a : K (F a 9) = 6)
    (hj9999a : F (F a 9) 99 = 1)
    (hk9999b : K (F a 14) = 11)
    (hj9999b : F (F a 14) 99 = 0)
    (hk9999c : K (F a 10) = 6)
    (hj9999c : F (F a 10) 99 = 2)
    (hk9999d : K (F a 8) = 6)
    (hj9999d : F (F a 8) 99 = 0)
    (hk9999e : K (F (F a 11) 0) = 21)
    (hj9999e : F (F (F a 11) 0) 99 = 100)
    (hk9999f : K (F (F a 11) 1) = 21)
    (hj9999f : F (F (F a 11) 1) 99 = 101)
    (hk9999g : K (F (F a 11) 2) = 24)
    (hj9999g : F (F (F a 11) 2) 99 = 4)
    (hk9999h : K (F (F a 9) 0) = 22)
    (hj9999i : F (F (F a 9) 0) 99 = 10 * 1 + 0)
    (hk9999i : K (F (F a 9) 1) = 22)
    (hj9999k : F (F (F a 9) 1) 99 = 10 * 1 + 1)
    (hk9999j : K (F (F a 9) 2) = 22)
    (hj9999m : F (F (F a 9) 2) 99 = 10 * 1 + 2)
    (hk9999k : K (F (F a 9) 3) = 22)
    (hj9999o : F (F (F a 9) 3) 99 = 10 * 1 + 3)
    (hk9999l : K (F (F a 9) 4) = 23)
    (hj9999q : F (F (F a 9) 4) 99 = 10 * 1 + 4)
    (hk9999m : K (F (F a 9) 5) = 23)
    (hj9999s : F (F (F a 9) 5) 99 = 10 * 1 + 5)
    (hk9999n : K (F a 16) = 27)
    (hj9999t : F (F a 16) 99 = 0)
    (hk9999o : K (F a 15) = 26)
    (hj9999u : F (F a 15) 99 = 0)
    (hk9999p : K (F (F a 10) 0) = 22)
    (hj9999w : F (F (F a 10) 0) 99 = 10 * 2 + 0)
    (hk9999q : K (F (F a 10) 1) = 22)
    (hj9999z25 : F (F (F a 10) 1) 99 = 10 * 2 + 1)
    (hk9999r : K (F (F a 10) 2) = 22)
    (hj9999z27 : F (F (F a 10) 2) 99 = 10 * 2 + 2)
    (hk9999s : K (F (F a 10) 3) = 22)
    (hj9999z29 : F (F (F a 10) 3) 99 = 10 * 2 + 3)
    (hk9999t : K (F (F a 10) 4) = 23)
    (hj9999z31 : F (F (F a 10) 4) 99 = 10 * 2 + 4)
    (hk9999u : K (F (F a 10) 5) = 23)
    (hj9999z33 : F (F (F a 10) 5) 99 = 10 * 2 + 5)
    (hk9999v : K (F a 3) = 8)
    (hj9999z34 : F (F a 3) 99 = 0)
    (hk9999w : K (F (F a 3) 0) = 20)
    (hj9999z36 : F (F (F a 3) 0) 99 = 0)
    (hk9999y : K (F (F a 3) 1) = 21)
    (hj9999z38 : F (F (F a 3) 1) 99 = 0)
    (hk9999z25 : K (F (F a 8) 0) = 22)
    (hj9999z40 : F (F (F a 8) 0) 99 = 10 * 0 + 0)
    (hk9999z26 : K (F (F a 8) 1) = 22)
    (hj9999z42 : F (F (F a 8) 1) 99 = 10 * 0 + 1)
    (hk9999z27 : K (F (F a 8) 2) = 22)
    (hj9999z44 : F (F (F a 8) 2) 99 = 10 * 0 + 2)
    (hk9999z28 : K (F (F a 8) 3) = 22)
    (hj9999z46 : F (F (F a 8) 3) 99 = 10 * 0 + 3)
    (hk9999z29 : K (F (F a 8) 4) = 23)
    (hj9999z48 : F (F (F a 8) 4) 99 = 10 * 0 + 4)
    (hk9999z30 : K (F (F a 8) 5) = 23)
    (hj9999z50 : F (F (F a 8) 5) 99 = 10 * 0 + 5)
    (hk9999z31 : K (F a 5) = 8)
    (hj9999z51 : F (F a 5) 99 = 2)
    (hk9999z32 : K (F (F a 5) 0) = 20)
    (hj9999z53 : F (F (F a 5) 0) 99 = 2)
    (hk9999z33 : K (F (F a 5) 1) = 21)
    (hj9999z55 : F (F (F a 5) 1) 99 = 2)
    (hk9999z34 : K (F a 2) = 2)
    (hj9999z56 : F (F a 2) 99 = 0)
    (hk9999z35 : K (F (F a 2) 1) = 15)
    (hj9999z57 : F (F (F a 2) 1) 99 = 1)
    (hk9999z36 : K (F (F a 2) 0) = 15)
    (hj9999z58 : F (F (F a 2) 0) 99 = 0)
    (hk9999z37 : K (F a 4) = 8)
    (hj9999z59 : F (F a 4) 99 = 1)
    (hk9999z38 : K (F (F a 4) 0) = 20)
    (hj9999z61 : F (F (F a 4) 0) 99 = 1)
    (hk9999z39 : K (F (F a 4) 1) = 21)
    (hj9999z63 : F (F (F a 4) 1) 99 = 1)
    (hk84 : K (F a 12) = 4)
    (hj84 : F (F a 12) 99 = 0)
    (hfr : XFr [(F a 11, 3), (F a 9, 6), (F a 14, 1), (F a 14, 2), (F a 14, 3), (F a 10, 6), (F a 8, 6)] [F (F a 11) 0, F (F a 11) 1, F (F a 11) 2, F (F a 9) 0, F (F a 9) 1, F (F a 9) 2, F (F a 9) 3, F (F a 9) 4, F (F a 9) 5, F a 16, F a 15, F (F a 10) 0, F (F a 10) 1, F (F a 10) 2, F (F a 10) 3, F (F a 10) 4, F (F a 10) 5, F (F a 3) 0, F (F a 3) 1, F (F a 8) 0, F (F a 8) 1, F (F a 8) 2, F (F a 8) 3, F (F a 8) 4, F (F a 8) 5, F (F a 5) 0, F (F a 5) 1] [] G G98)
    (hF4 : XFr [(F a 14, 1)] [] [] G G4)
    (hF80 : XFr [] [F (F a 5) 0, F (F a 5) 1] [] G4 G80)
    (hF98 : XFr [] [F (F a 5) 0, F (F a 5) 1] [] G80 G98)
    (ron : RO (vw (G.2.1 (F (F a 3) 0))) (aI (G.2.1 (F (F a 3) 1))))
    (rob : RO (vw (G.2.1 (F (F a 4) 0))) (aI (G.2.1 (F (F a 4) 1))))
    (bko : BKr K G (G.2.2.1 (F (F a 2) 1)))
    (bkn : BKr K G (G.2.2.1 (F (F a 2) 0)))
    (hac : ACo G (G.2.2.1 (F (F a 2) 0)))
    (oq80 : (vw (G80.2.1 (F (F a 5) 0))) = (vw (G.2.1 (F (F a 3) 0))))
    (oq80a : RO (vw (G80.2.1 (F (F a 5) 0))) (aI (G80.2.1 (F (F a 5) 1))))
    (oq98 : (vw (G98.2.1 (F (F a 5) 0))) = mvR (clsA G80 (G80.2.2.1 (F (F a 2) 0))) (clsT G80 (G80.2.2.1 (F (F a 2) 0))) (clsC G80 (G80.2.2.1 (F (F a 2) 0))) p0.toInt p1.toInt p2.toInt (rmv (vw (G80.2.1 (F (F a 5) 0))) p0.toInt p1.toInt p2.toInt) 12)
    (oq98a : RO (vw (G98.2.1 (F (F a 5) 0))) (aI (G98.2.1 (F (F a 5) 1))))
    (sb : 0 ≤ ((G.1 (F a 2) 2).toInt) ∧ ((G.1 (F a 2) 2).toInt) ≤ 12)
    (sw : 0 ≤ ((G.1 (F a 8) 6).toInt) ∧ ((G.1 (F a 8) 6).toInt) ≤ 1080)
    (t4 : ((G4.1 (F a 14) 1).toInt) = 0)
    (t8 : (x8.toInt = 1 ∧ 0 ≤ p0.toInt ∧ p0.toInt < 3) ∨ (x8.toInt = 0 ∧ (p0.toInt < 0 ∨ 3 ≤ p0.toInt)))
    (c11 : ¬ (x8.toInt = 0))
    (t15 : (x15.toInt = 1 ∧ 0 ≤ p1.toInt ∧ p1.toInt < 30) ∨ (x15.toInt = 0 ∧ (p1.toInt < 0 ∨ 30 ≤ p1.toInt)))
    (c18 : ¬ (x15.toInt = 0))
    (t22 : (x22.toInt = 1 ∧ 0 ≤ p2.toInt ∧ p2.toInt < 30) ∨ (x22.toInt = 0 ∧ (p2.toInt < 0 ∨ 30 ≤ p2.toInt)))
    (c25 : x22.toInt ≠ 0)
    (t40 : (x40.toInt = 1 ∧ (cel (vw (G.2.1 (F (F a 3) 0))) (p0.toInt) (p1.toInt) 0) ≠ -2000) ∨ (x40.toInt = 0 ∧ (cel (vw (G.2.1 (F (F a 3) 0))) (p0.toInt) (p1.toInt) 0) = -2000))
    (c43 : x40.toInt ≠ 0)
    (t59 : (x59.toInt = 1 ∧ (cel (vw (G.2.1 (F (F a 3) 0))) (p0.toInt) (p2.toInt) 0) ≠ -2000) ∨ (x59.toInt = 0 ∧ (cel (vw (G.2.1 (F (F a 3) 0))) (p0.toInt) (p2.toInt) 0) = -2000))
    (c62 : x59.toInt = 0)
    (z83 : (cel (vw (G80.2.1 (F (F a 5) 0))) (p0.toInt) (p1.toInt) 0) = (cel (vw (G.2.1 (F (F a 3) 0))) (p0.toInt) (p1.toInt) 0))
    (z83a : p1.toInt = p2.toInt → (cel (vw (G.2.1 (F (F a 3) 0))) (p0.toInt) (p1.toInt) 0) = (cel (vw (G.2.1 (F (F a 3) 0))) (p0.toInt) (p2.toInt) 0))
    (c_G98_F_F_a_10_0 : G98.2.1 (F (F a 10) 0) = G.2.1 (F (F a 10) 0))
    (c_G98_F_F_a_10_1 : G98.2.1 (F (F a 10) 1) = G.2.1 (F (F a 10) 1))
    (c_G98_F_F_a_10_2 : G98.2.1 (F (F a 10) 2) = G.2.1 (F (F a 10) 2))
    (c_G98_F_F_a_10_3 : G98.2.1 (F (F a 10) 3) = G.2.1 (F (F a 10) 3))
    (c_G98_F_F_a_10_4 : G98.2.1 (F (F a 10) 4) = G.2.1 (F (F a 10) 4))
    (c_G98_F_F_a_10_5 : G98.2.1 (F (F a 10) 5) = G.2.1 (F (F a 10) 5))
    (c_G98_F_F_a_11_0 : G98.2.1 (F (F a 11) 0) = G.2.1 (F (F a 11) 0))
    (c_G98_F_F_a_11_1 : G98.2.1 (F (F a 11) 1) = G.2.1 (F (F a 11) 1))
    (c_G98_F_F_a_11_2 : G98.2.1 (F (F a 11) 2) = G.2.1 (F (F a 11) 2))
    (c_G98_F_F_a_3_0 : G98.2.1 (F (F a 3) 0) = G.2.1 (F (F a 3) 0))
    (c_G98_F_F_a_3_1 : G98.2.1 (F (F a 3) 1) = G.2.1 (F (F a 3) 1))
    (c_G98_F_F_a_8_0 : G98.2.1 (F (F a 8) 0) = G.2.1 (F (F a 8) 0))
    (c_G98_F_F_a_8_1 : G98.2.1 (F (F a 8) 1) = G.2.1 (F (F a 8) 1))
    (c_G98_F_F_a_8_2 : G98.2.1 (F (F a 8) 2) = G.2.1 (F (F a 8) 2))
    (c_G98_F_F_a_8_3 : G98.2.1 (F (F a 8) 3) = G.2.1 (F (F a 8) 3))
    (c_G98_F_F_a_8_4 : G98.2.1 (F (F a 8) 4) = G.2.1 (F (F a 8) 4))
    (c_G98_F_F_a_8_5 : G98.2.1 (F (F a 8) 5) = G.2.1 (F (F a 8) 5))
    (c_G98_F_F_a_9_0 : G98.2.1 (F (F a 9) 0) = G.2.1 (F (F a 9) 0))
    (c_G98_F_F_a_9_1 : G98.2.1 (F (F a 9) 1) = G.2.1 (F (F a 9) 1))
    (c_G98_F_F_a_9_2 : G98.2.1 (F (F a 9) 2) = G.2.1 (F (F a 9) 2))
    (c_G98_F_F_a_9_3 : G98.2.1 (F (F a 9) 3) = G.2.1 (F (F a 9) 3))
    (c_G98_F_F_a_9_4 : G98.2.1 (F (F a 9) 4) = G.2.1 (F (F a 9) 4))
    (c_G98_F_F_a_9_5 : G98.2.1 (F (F a 9) 5) = G.2.1 (F (F a 9) 5))
    (c_G98_F_a_15 : G98.2.1 (F a 15) = G.2.1 (F a 15))
    (c_G98_F_a_16 : G98.2.1 (F a 16) = G.2.1 (F a 16))
    (r_G80_F_F_a_2_0 : G80.2.2.1 (F (F a 2) 0) = G.2.2.1 (F (F a 2) 0))
    (r_G98_F_F_a_2_0 : G98.2.2.1 (F (F a 2) 0) = G.2.2.1 (F (F a 2) 0))
    (r_G98_F_F_a_2_1 : G98.2.2.1 (F (F a 2) 1) = G.2.2.1 (F (F a 2) 1))
    (d_G98_F_a_10_6 : G98.1 (F a 10) 6 = G.1 (F a 10) 6)
    (d_G98_F_a_11_3 : G98.1 (F a 11) 3 = G.1 (F a 11) 3)
    (d_G98_F_a_14_1 : G98.1 (F a 14) 1 = G4.1 (F a 14) 1)
    (d_G98_F_a_14_2 : G98.1 (F a 14) 2 = G.1 (F a 14) 2)
    (d_G98_F_a_14_3 : G98.1 (F a 14) 3 = G.1 (F a 14) 3)
    (d_G98_F_a_8_6 : G98.1 (F a 8) 6 = G.1 (F a 8) 6)
    (d_G98_F_a_9_6 : G98.1 (F a 9) 6 = G.1 (F a 9) 6) :
    BKr K G98 (G98.2.2.1 (F (F a 2) 0)) := by
  have hd : ∀ p, p ∈ [(F a 11, 3), (F a 9, 6), (F a 14, 1), (F a 14, 2), (F a 14, 3), (F a 10, 6), (F a 8, 6)] → K p.1 ≠ 9 := (List.forall_mem_cons.mpr ⟨(show K (F a 11) ≠ 9 by omega), List.forall_mem_cons.mpr ⟨(show K (F a 9) ≠ 9 by omega), List.forall_mem_cons.mpr ⟨(show K (F a 14) ≠ 9 by omega), List.forall_mem_cons.mpr ⟨(show K (F a 14) ≠ 9 by omega), List.forall_mem_cons.mpr ⟨(show K (F a 14) ≠ 9 by omega), List.forall_mem_cons.mpr ⟨(show K (F a 10) ≠ 9 by omega), List.forall_mem_cons.mpr ⟨(show K (F a 8) ≠ 9 by omega), fun _ h => by cases h⟩⟩⟩⟩⟩⟩⟩)
  rw [show G98.2.2.1 (F (F a 2) 0) = G.2.2.1 (F (F a 2) 0) by assumption]
  exact bkn.fr hfr hd
theorem v_X10_rekey_105_16 {K : Nat → Nat} {F : Nat → Nat → Nat} (a : Nat) (G : XG) (G102 : XG) (G4 : XG) (G80 : XG) (G98 : XG) (p0 : Int32) (p1 : Int32) (p2 : Int32) (x102 : Int32) (x8 : Int32) (x15 : Int32) (x22 : Int32) (x40 : Int32) (x59 : Int32)
    (ha : K a = 12)
    (hk9999 : K (F a 11) = 3)
    (hj9999 : F (F a 11) 99 = 0)
    (hk9999a : K (F a 9) = 6)
    (hj9999a : F (F a 9) 99 = 1)
    (hk9999b : K (F a 14) = 11)
    (hj9999b : F (F a 14) 99 = 0)
    (hk9999c : K (F a 10) = 6)
    (hj9999c : F (F a 10) 99 = 2)
    (hk9999d : K (F a 8) = 6)
    (hj9999d : F (F a 8) 99 = 0)
    (hk9999e : K (F (F a 11) 0) = 21)
    (hj9999e : F (F (F a 11) 0) 99 = 100)
    (hk9999f : K (F (F a 11) 1) = 21)
    (hj9999f : F (F (F a 11) 1) 99 = 101)
    (hk9999g : K (F (F a 11) 2) = 24)
    (hj9999g : F (F (F a 11) 2) 99 = 4)
    (hk9999h : K (F (F a 9) 0) = 22)
    (hj9999i : F (F (F a 9) 0) 99 = 10 * 1 + 0)
    (hk9999i : K (F (F a 9) 1) = 22)
    (hj9999k : F (F (F a 9) 1) 99 = 10 * 1 + 1)
    (hk9999j : K (F (F a 9) 2) = 22)
    (hj9999m : F (F (F a 9) 2) 99 = 10 * 1 + 2)
    (hk9999k : K (F (F a 9) 3) = 22)
    (hj9999o : F (F (F a 9) 3) 99 = 10 * 1 + 3)
    (hk9999l : K (F (F a 9) 4) = 23)
    (hj9999q : F (F (F a 9) 4) 99 = 10 * 1 + 4)
    (hk9999m : K (F (F a 9) 5) = 23)
    (hj9999s : F (F (F a 9) 5) 99 = 10 * 1 + 5)
    (hk9999n : K (F a 16) = 27)
    (hj9999t : F (F a 16) 99 = 0)
    (hk9999o : K (F a 15) = 26)
    (hj9999u : F (F a 15) 99 = 0)
    (hk9999p : K (F (F a 10) 0) = 22)
    (hj9999w : F (F (F a 10) 0) 99 = 10 * 2 + 0)
    (hk9999q : K (F (F a 10) 1) = 22)
    (hj9999z25 : F (F (F a 10) 1) 99 = 10 * 2 + 1)
    (hk9999r : K (F (F a 10) 2) = 22)
    (hj9999z27 : F (F (F a 10) 2) 99 = 10 * 2 + 2)
    (hk9999s : K (F (F a 10) 3) = 22)
    (hj9999z29 : F (F (F a 10) 3) 99 = 10 * 2 + 3)
    (hk9999t : K (F (F a 10) 4) = 23)
    (hj9999z31 : F (F (F a 10) 4) 99 = 10 * 2 + 4)
    (hk9999u : K (F (F a 10) 5) = 23)
    (hj9999z33 : F (F (F a 10) 5) 99 = 10 * 2 + 5)
    (hk9999v : K (F a 3) = 8)
    (hj9999z34 : F (F a 3) 99 = 0)
    (hk9999w : K (F (F a 3) 0) = 20)
    (hj9999z36 : F (F (F a 3) 0) 99 = 0)
    (hk9999y : K (F (F a 3) 1) = 21)
    (hj9999z38 : F (F (F a 3) 1) 99 = 0)
    (hk9999z25 : K (F (F a 8) 0) = 22)
    (hj9999z40 : F (F (F a 8) 0) 99 = 10 * 0 + 0)
    (hk9999z26 : K (F (F a 8) 1) = 22)
    (hj9999z42 : F (F (F a 8) 1) 99 = 10 * 0 + 1)
    (hk9999z27 : K (F (F a 8) 2) = 22)
    (hj9999z44 : F (F (F a 8) 2) 99 = 10 * 0 + 2)
    (hk9999z28 : K (F (F a 8) 3) = 22)
    (hj9999z46 : F (F (F a 8) 3) 99 = 10 * 0 + 3)
    (hk9999z29 : K (F (F a 8) 4) = 23)
    (hj9999z48 : F (F (F a 8) 4) 99 = 10 * 0 + 4)
    (hk9999z30 : K (F (F a 8) 5) = 23)
    (hj9999z50 : F (F (F a 8) 5) 99 = 10 * 0 + 5)
    (hk9999z31 : K (F a 5) = 8)
    (hj9999z51 : F (F a 5) 99 = 2)
    (hk9999z32 : K (F (F a 5) 0) = 20)
    (hj9999z53 : F (F (F a 5) 0) 99 = 2)
    (hk9999z33 : K (F (F a 5) 1) = 21)
    (hj9999z55 : F (F (F a 5) 1) 99 = 2)
    (hk9999z34 : K (F a 2) = 2)
    (hj9999z56 : F (F a 2) 99 = 0)
    (hk9999z35 : K (F (F a 2) 1) = 15)
    (hj9999z57 : F (F (F a 2) 1) 99 = 1)
    (hk9999z36 : K (F (F a 2) 0) = 15)
    (hj9999z58 : F (F (F a 2) 0) 99 = 0)
    (hk9999z37 : K (F a 4) = 8)
    (hj9999z59 : F (F a 4) 99 = 1)
    (hk9999z38 : K (F (F a 4) 0) = 20)
    (hj9999z61 : F (F (F a 4) 0) 99 = 1)
    (hk9999z39 : K (F (F a 4) 1) = 21)
    (hj9999z63 : F (F (F a 4) 1) 99 = 1)
    (hk84 : K (F a 12) = 4)
    (hj84 : F (F a 12) 99 = 0)
    (hfr : XFr [(F a 11, 3), (F a 9, 6), (F a 14, 1), (F a 14, 2), (F a 14, 3), (F a 10, 6), (F a 8, 6)] [F (F a 11) 0, F (F a 11) 1, F (F a 11) 2, F (F a 9) 0, F (F a 9) 1, F (F a 9) 2, F (F a 9) 3, F (F a 9) 4, F (F a 9) 5, F a 16, F a 15, F (F a 10) 0, F (F a 10) 1, F (F a 10) 2, F (F a 10) 3, F (F a 10) 4, F (F a 10) 5, F (F a 3) 0, F (F a 3) 1, F (F a 8) 0, F (F a 8) 1, F (F a 8) 2, F (F a 8) 3, F (F a 8) 4, F (F a 8) 5, F (F a 5) 0, F (F a 5) 1] [] G G102)
    (hF98 : XFr [] [F (F a 5) 0, F (F a 5) 1] [] G80 G98)
    (hF102 : XFr [(F a 11, 3), (F a 9, 6), (F a 14, 1), (F a 14, 2), (F a 14, 3), (F a 10, 6), (F a 8, 6)] [F (F a 11) 0, F (F a 11) 1, F (F a 11) 2, F (F a 9) 0, F (F a 9) 1, F (F a 9) 2, F (F a 9) 3, F (F a 9) 4, F (F a 9) 5, F a 16, F a 15, F (F a 10) 0, F (F a 10) 1, F (F a 10) 2, F (F a 10) 3, F (F a 10) 4, F (F a 10) 5, F (F a 3) 0, F (F a 3) 1, F (F a 8) 0, F (F a 8) 1, F (F a 8) 2, F (F a 8) 3, F (F a 8) 4, F (F a 8) 5] [] G98 G102)
    (bko : BKr K G (G.2.2.1 (F (F a 2) 1)))
    (bkn : BKr K G (G.2.2.1 (F (F a 2) 0)))
    (oq80 : (vw (G80.2.1 (F (F a 5) 0))) = (vw (G.2.1 (F (F a 3) 0))))
    (oq98 : (vw (G98.2.1 (F (F a 5) 0))) = mvR (clsA G80 (G80.2.2.1 (F (F a 2) 0))) (clsT G80 (G80.2.2.1 (F (F a 2) 0))) (clsC G80 (G80.2.2.1 (F (F a 2) 0))) p0.toInt p1.toInt p2.toInt (rmv (vw (G80.2.1 (F (F a 5) 0))) p0.toInt p1.toInt p2.toInt) 12)
    (oq102 : ActR ((G.1 a 18).toInt) x102.toInt (gaL G98 (G98.2.2.1 (F (F a 2) 1)) (vw (G.2.1 (F (F a 3) 0))) (vw (G98.2.1 (F (F a 5) 0))) 0 (((G.1 (F a 2) 2).toInt)).toNat) (vw (G.2.1 (F (F a 3) 0))) (vw (G102.2.1 (F (F a 3) 0))) (vw (G98.2.1 (F (F a 5) 0))) (qL G98 F (F a 8)) (qL G102 F (F a 8)) (gaL G98 (G98.2.2.1 (F (F a 2) 1)) (vw (G.2.1 (F (F a 4) 0))) (vw (G98.2.1 (F (F a 5) 0))) 1 (((G.1 (F a 2) 2).toInt)).toNat))
    (sb : 0 ≤ ((G.1 (F a 2) 2).toInt) ∧ ((G.1 (F a 2) 2).toInt) ≤ 12)
    (sw : 0 ≤ ((G.1 (F a 8) 6).toInt) ∧ ((G.1 (F a 8) 6).toInt) ≤ 1080)
    (t4 : ((G4.1 (F a 14) 1).toInt) = 0)
    (t8 : (x8.toInt = 1 ∧ 0 ≤ p0.toInt ∧ p0.toInt < 3) ∨ (x8.toInt = 0 ∧ (p0.toInt < 0 ∨ 3 ≤ p0.toInt)))
    (c11 : ¬ (x8.toInt = 0))
    (t15 : (x15.toInt = 1 ∧ 0 ≤ p1.toInt ∧ p1.toInt < 30) ∨ (x15.toInt = 0 ∧ (p1.toInt < 0 ∨ 30 ≤ p1.toInt)))
    (c18 : ¬ (x15.toInt = 0))
    (t22 : (x22.toInt = 1 ∧ 0 ≤ p2.toInt ∧ p2.toInt < 30) ∨ (x22.toInt = 0 ∧ (p2.toInt < 0 ∨ 30 ≤ p2.toInt)))
    (c25 : x22.toInt ≠ 0)
    (t40 : (x40.toInt = 1 ∧ (cel (vw (G.2.1 (F (F a 3) 0))) (p0.toInt) (p1.toInt) 0) ≠ -2000) ∨ (x40.toInt = 0 ∧ (cel (vw (G.2.1 (F (F a 3) 0))) (p0.toInt) (p1.toInt) 0) = -2000))
    (c43 : x40.toInt ≠ 0)
    (t59 : (x59.toInt = 1 ∧ (cel (vw (G.2.1 (F (F a 3) 0))) (p0.toInt) (p2.toInt) 0) ≠ -2000) ∨ (x59.toInt = 0 ∧ (cel (vw (G.2.1 (F (F a 3) 0))) (p0.toInt) (p2.toInt) 0) = -2000))
    (c62 : x59.toInt = 0)
    (z83 : (cel (vw (G80.2.1 (F (F a 5) 0))) (p0.toInt) (p1.toInt) 0) = (cel (vw (G.2.1 (F (F a 3) 0))) (p0.toInt) (p1.toInt) 0))
    (z83a : p1.toInt = p2.toInt → (cel (vw (G.2.1 (F (F a 3) 0))) (p0.toInt) (p1.toInt) 0) = (cel (vw (G.2.1 (F (F a 3) 0))) (p0.toInt) (p2.toInt) 0))
    (t102 : 0 ≤ ((G102.1 (F a 8) 6).toInt) ∧ ((G102.1 (F a 8) 6).toInt) ≤ 1080)
    (c_G98_F_F_a_8_0 : G98.2.1 (F (F a 8) 0) = G.2.1 (F (F a 8) 0))
    (c_G98_F_F_a_8_1 : G98.2.1 (F (F a 8) 1) = G.2.1 (F (F a 8) 1))
    (c_G98_F_F_a_8_2 : G98.2.1 (F (F a 8) 2) = G.2.1 (F (F a 8) 2))
    (c_G98_F_F_a_8_3 : G98.2.1 (F (F a 8) 3) = G.2.1 (F (F a 8) 3))
    (c_G98_F_F_a_8_4 : G98.2.1 (F (F a 8) 4) = G.2.1 (F (F a 8) 4))
    (c_G98_F_F_a_8_5 : G98.2.1 (F (F a 8) 5) = G.2.1 (F (F a 8) 5))
    (r_G80_F_F_a_2_0 : G80.2.2.1 (F (F a 2) 0) = G.2.2.1 (F (F a 2) 0))
    (r_G98_F_F_a_2_1 : G98.2.2.1 (F (F a 2) 1) = G.2.2.1 (F (F a 2) 1))
    (d_G98_F_a_8_6 : G98.1 (F a 8) 6 = G.1 (F a 8) 6) :
    (x102.toInt = -1 ∧ ¬ ((0 ≤ p0.toInt ∧ p0.toInt < 3) ∧ (0 ≤ p1.toInt ∧ p1.toInt < 30) ∧ (0 ≤ p2.toInt ∧ p2.toInt < 30)) ∧ ((vw (G102.2.1 (F (F a 3) 0))) = (vw (G.2.1 (F (F a 3) 0))) ∧ qL G102 F (F a 8) = qL G F (F a 8))) ∨ (((0 ≤ p0.toInt ∧ p0.toInt < 3) ∧ (0 ≤ p1.toInt ∧ p1.toInt < 30) ∧ (0 ≤ p2.toInt ∧ p2.toInt < 30)) ∧ x102.toInt = -2 ∧ cel (vw (G.2.1 (F (F a 3) 0))) p0.toInt p1.toInt 0 = -2000 ∧ ((vw (G102.2.1 (F (F a 3) 0))) = (vw (G.2.1 (F (F a 3) 0))) ∧ qL G102 F (F a 8) = qL G F (F a 8))) ∨ (((0 ≤ p0.toInt ∧ p0.toInt < 3) ∧ (0 ≤ p1.toInt ∧ p1.toInt < 30) ∧ (0 ≤ p2.toInt ∧ p2.toInt < 30)) ∧ cel (vw (G.2.1 (F (F a 3) 0))) p0.toInt p1.toInt 0 ≠ -2000 ∧ x102.toInt = -4 ∧ cel (vw (G.2.1 (F (F a 3) 0))) p0.toInt p2.toInt 0 ≠ -2000 ∧ ((vw (G102.2.1 (F (F a 3) 0))) = (vw (G.2.1 (F (F a 3) 0))) ∧ qL G102 F (F a 8) = qL G F (F a 8))) ∨ (((0 ≤ p0.toInt ∧ p0.toInt < 3) ∧ (0 ≤ p1.toInt ∧ p1.toInt < 30) ∧ (0 ≤ p2.toInt ∧ p2.toInt < 30)) ∧ cel (vw (G.2.1 (F (F a 3) 0))) p0.toInt p1.toInt 0 ≠ -2000 ∧ cel (vw (G.2.1 (F (F a 3) 0))) p0.toInt p2.toInt 0 = -2000 ∧ ActR ((G.1 a 18).toInt) x102.toInt (gaL G (G.2.2.1 (F (F a 2) 1)) (vw (G.2.1 (F (F a 3) 0))) (mvR (clsA G (G.2.2.1 (F (F a 2) 0))) (clsT G (G.2.2.1 (F (F a 2) 0))) (clsC G (G.2.2.1 (F (F a 2) 0))) p0.toInt p1.toInt p2.toInt (rmv (vw (G.2.1 (F (F a 3) 0))) p0.toInt p1.toInt p2.toInt) 12) 0 (((G.1 (F a 2) 2).toInt)).toNat) (vw (G.2.1 (F (F a 3) 0))) (vw (G102.2.1 (F (F a 3) 0))) (mvR (clsA G (G.2.2.1 (F (F a 2) 0))) (clsT G (G.2.2.1 (F (F a 2) 0))) (clsC G (G.2.2.1 (F (F a 2) 0))) p0.toInt p1.toInt p2.toInt (rmv (vw (G.2.1 (F (F a 3) 0))) p0.toInt p1.toInt p2.toInt) 12) (qL G F (F a 8)) (qL G102 F (F a 8)) (gaL G (G.2.2.1 (F (F a 2) 1)) (vw (G.2.1 (F (F a 4) 0))) (mvR (clsA G (G.2.2.1 (F (F a 2) 0))) (clsT G (G.2.2.1 (F (F a 2) 0))) (clsC G (G.2.2.1 (F (F a 2) 0))) p0.toInt p1.toInt p2.toInt (rmv (vw (G.2.1 (F (F a 3) 0))) p0.toInt p1.toInt p2.toInt) 12) 1 (((G.1 (F a 2) 2).toInt)).toNat)) := by
  have hd : ∀ p, p ∈ [(F a 11, 3), (F a 9, 6), (F a 14, 1), (F a 14, 2), (F a 14, 3), (F a 10, 6), (F a 8, 6)] → K p.1 ≠ 9 := (List.forall_mem_cons.mpr ⟨(show K (F a 11) ≠ 9 by omega), List.forall_mem_cons.mpr ⟨(show K (F a 9) ≠ 9 by omega), List.forall_mem_cons.mpr ⟨(show K (F a 14) ≠ 9 by omega), List.forall_mem_cons.mpr ⟨(show K (F a 14) ≠ 9 by omega), List.forall_mem_cons.mpr ⟨(show K (F a 14) ≠ 9 by omega), List.forall_mem_cons.mpr ⟨(show K (F a 10) ≠ 9 by omega), List.forall_mem_cons.mpr ⟨(show K (F a 8) ≠ 9 by omega), fun _ h => by cases h⟩⟩⟩⟩⟩⟩⟩)
  have hd2 : ∀ p, p ∈ [(F a 11, 3), (F a 9, 6), (F a 14, 1), (F a 14, 2), (F a 14, 3), (F a 10, 6), (F a 8, 6)] → K p.1 ≠ 9 := (List.forall_mem_cons.mpr ⟨(show K (F a 11) ≠ 9 by omega), List.forall_mem_cons.mpr ⟨(show K (F a 9) ≠ 9 by omega), List.forall_mem_cons.mpr ⟨(show K (F a 14) ≠ 9 by omega), List.forall_mem_cons.mpr ⟨(show K (F a 14) ≠ 9 by omega), List.forall_mem_cons.mpr ⟨(show K (F a 14) ≠ 9 by omega), List.forall_mem_cons.mpr ⟨(show K (F a 10) ≠ 9 by omega), List.forall_mem_cons.mpr ⟨(show K (F a 8) ≠ 9 by omega), fun _ h => by cases h⟩⟩⟩⟩⟩⟩⟩)
  have hd3 : ∀ p, p ∈ ([] : List (Nat × Nat)) → K p.1 ≠ 9 := (fun _ h => by cases h)
  have h1 : ∀ q : Nat, K q = 9 → G98.1 q = G.1 q := fun q hk => (hF102.rule hd2 hk).symm.trans (hfr.rule hd hk)
  have h0 : ∀ (i q : Nat), i < 12 → G.2.2.1 (F (F a 2) 0) i = some q → G80.1 q = G.1 q := fun i q hi hq => (hF98.rule hd3 (bkn i q hi hq).1).symm.trans (h1 q (bkn i q hi hq).1)
  have hc : ∀ (i q : Nat), i < ((G.1 (F a 2) 2).toInt).toNat → G.2.2.1 (F (F a 2) 1) i = some q → G98.1 q = G.1 q := fun i q hi hq => h1 q (bko i q (by omega) hq).1
  have eq8 : qL G98 F (F a 8) = qL G F (F a 8) := qL_cg d_G98_F_a_8_6 c_G98_F_F_a_8_0 c_G98_F_F_a_8_1 c_G98_F_F_a_8_2 c_G98_F_F_a_8_3 c_G98_F_F_a_8_4 c_G98_F_F_a_8_5
  rw [r_G80_F_F_a_2_0, (cls_cg h0).1, (cls_cg h0).2.1, (cls_cg h0).2.2, oq80] at oq98
  rw [oq98, r_G98_F_F_a_2_1, gaL_cg hc, gaL_cg hc, eq8] at oq102
  exact Or.inr (Or.inr (Or.inr ⟨⟨by omega, by omega, by omega⟩, by omega, by omega, oq102⟩))
theorem v_X10_rekey_105_17 {F : Nat → Nat → Nat} (a : Nat) (G102 : XG)
    (oq102a : RO (vw (G102.2.1 (F (F a 3) 0))) (aI (G102.2.1 (F (F a 3) 1)))) :
    RO (vw (G102.2.1 (F (F a 3) 0))) (aI (G102.2.1 (F (F a 3) 1))) := by
  exact oq102a
theorem v_X10_rekey_71_18 {K : Nat → Nat} {F : Nat → Nat → Nat} (a : Nat) (G : XG) (G68 : XG) (G4 : XG) (x8 : Int32) (p0 : Int32) (x15 : Int32) (p1 : Int32) (x22 : Int32) (p2 : Int32) (x40 : Int32) (x59 : Int32)
    (ha : K a = 12)
    (sb : 0 ≤ ((G.1 (F a 2) 2).toInt) ∧ ((G.1 (F a 2) 2).toInt) ≤ 12)
    (sw : 0 ≤ ((G.1 (F a 8) 6).toInt) ∧ ((G.1 (F a 8) 6).toInt) ≤ 1080)
    (t4 : ((G4.1 (F a 14) 1).toInt) = 0)
    (t8 : (x8.toInt = 1 ∧ 0 ≤ p0.toInt ∧ p0.toInt < 3) ∨ (x8.toInt = 0 ∧ (p0.toInt < 0 ∨ 3 ≤ p0.toInt)))
    (c11 : ¬ (x8.toInt = 0))
    (t15 : (x15.toInt = 1 ∧ 0 ≤ p1.toInt ∧ p1.toInt < 30) ∨ (x15.toInt = 0 ∧ (p1.toInt < 0 ∨ 30 ≤ p1.toInt)))
    (c18 : ¬ (x15.toInt = 0))
    (t22 : (x22.toInt = 1 ∧ 0 ≤ p2.toInt ∧ p2.toInt < 30) ∨ (x22.toInt = 0 ∧ (p2.toInt < 0 ∨ 30 ≤ p2.toInt)))
    (c25 : x22.toInt ≠ 0)
    (t40 : (x40.toInt = 1 ∧ (cel (vw (G.2.1 (F (F a 3) 0))) (p0.toInt) (p1.toInt) 0) ≠ -2000) ∨ (x40.toInt = 0 ∧ (cel (vw (G.2.1 (F (F a 3) 0))) (p0.toInt) (p1.toInt) 0) = -2000))
    (c43 : x40.toInt ≠ 0)
    (t59 : (x59.toInt = 1 ∧ (cel (vw (G.2.1 (F (F a 3) 0))) (p0.toInt) (p2.toInt) 0) ≠ -2000) ∨ (x59.toInt = 0 ∧ (cel (vw (G.2.1 (F (F a 3) 0))) (p0.toInt) (p2.toInt) 0) = -2000))
    (c62 : ¬ (x59.toInt = 0))
    (c_G68_F_F_a_3_0 : G68.2.1 (F (F a 3) 0) = G.2.1 (F (F a 3) 0))
    (c_G68_F_F_a_8_0 : G68.2.1 (F (F a 8) 0) = G.2.1 (F (F a 8) 0))
    (c_G68_F_F_a_8_1 : G68.2.1 (F (F a 8) 1) = G.2.1 (F (F a 8) 1))
    (c_G68_F_F_a_8_2 : G68.2.1 (F (F a 8) 2) = G.2.1 (F (F a 8) 2))
    (c_G68_F_F_a_8_3 : G68.2.1 (F (F a 8) 3) = G.2.1 (F (F a 8) 3))
    (c_G68_F_F_a_8_4 : G68.2.1 (F (F a 8) 4) = G.2.1 (F (F a 8) 4))
    (c_G68_F_F_a_8_5 : G68.2.1 (F (F a 8) 5) = G.2.1 (F (F a 8) 5))
    (d_G68_F_a_8_6 : G68.1 (F a 8) 6 = G.1 (F a 8) 6) :
    ((-4 : Int) = -1 ∧ ¬ ((0 ≤ p0.toInt ∧ p0.toInt < 3) ∧ (0 ≤ p1.toInt ∧ p1.toInt < 30) ∧ (0 ≤ p2.toInt ∧ p2.toInt < 30)) ∧ ((vw (G68.2.1 (F (F a 3) 0))) = (vw (G.2.1 (F (F a 3) 0))) ∧ qL G68 F (F a 8) = qL G F (F a 8))) ∨ (((0 ≤ p0.toInt ∧ p0.toInt < 3) ∧ (0 ≤ p1.toInt ∧ p1.toInt < 30) ∧ (0 ≤ p2.toInt ∧ p2.toInt < 30)) ∧ (-4 : Int) = -2 ∧ cel (vw (G.2.1 (F (F a 3) 0))) p0.toInt p1.toInt 0 = -2000 ∧ ((vw (G68.2.1 (F (F a 3) 0))) = (vw (G.2.1 (F (F a 3) 0))) ∧ qL G68 F (F a 8) = qL G F (F a 8))) ∨ (((0 ≤ p0.toInt ∧ p0.toInt < 3) ∧ (0 ≤ p1.toInt ∧ p1.toInt < 30) ∧ (0 ≤ p2.toInt ∧ p2.toInt < 30)) ∧ cel (vw (G.2.1 (F (F a 3) 0))) p0.toInt p1.toInt 0 ≠ -2000 ∧ (-4 : Int) = -4 ∧ cel (vw (G.2.1 (F (F a 3) 0))) p0.toInt p2.toInt 0 ≠ -2000 ∧ ((vw (G68.2.1 (F (F a 3) 0))) = (vw (G.2.1 (F (F a 3) 0))) ∧ qL G68 F (F a 8) = qL G F (F a 8))) ∨ (((0 ≤ p0.toInt ∧ p0.toInt < 3) ∧ (0 ≤ p1.toInt ∧ p1.toInt < 30) ∧ (0 ≤ p2.toInt ∧ p2.toInt < 30)) ∧ cel (vw (G.2.1 (F (F a 3) 0))) p0.toInt p1.toInt 0 ≠ -2000 ∧ cel (vw (G.2.1 (F (F a 3) 0))) p0.toInt p2.toInt 0 = -2000 ∧ ActR ((G.1 a 18).toInt) (-4 : Int) (gaL G (G.2.2.1 (F (F a 2) 1)) (vw (G.2.1 (F (F a 3) 0))) (mvR (clsA G (G.2.2.1 (F (F a 2) 0))) (clsT G (G.2.2.1 (F (F a 2) 0))) (clsC G (G.2.2.1 (F (F a 2) 0))) p0.toInt p1.toInt p2.toInt (rmv (vw (G.2.1 (F (F a 3) 0))) p0.toInt p1.toInt p2.toInt) 12) 0 (((G.1 (F a 2) 2).toInt)).toNat) (vw (G.2.1 (F (F a 3) 0))) (vw (G68.2.1 (F (F a 3) 0))) (mvR (clsA G (G.2.2.1 (F (F a 2) 0))) (clsT G (G.2.2.1 (F (F a 2) 0))) (clsC G (G.2.2.1 (F (F a 2) 0))) p0.toInt p1.toInt p2.toInt (rmv (vw (G.2.1 (F (F a 3) 0))) p0.toInt p1.toInt p2.toInt) 12) (qL G F (F a 8)) (qL G68 F (F a 8)) (gaL G (G.2.2.1 (F (F a 2) 1)) (vw (G.2.1 (F (F a 4) 0))) (mvR (clsA G (G.2.2.1 (F (F a 2) 0))) (clsT G (G.2.2.1 (F (F a 2) 0))) (clsC G (G.2.2.1 (F (F a 2) 0))) p0.toInt p1.toInt p2.toInt (rmv (vw (G.2.1 (F (F a 3) 0))) p0.toInt p1.toInt p2.toInt) 12) 1 (((G.1 (F a 2) 2).toInt)).toNat)) := by
  exact Or.inr (Or.inr (Or.inl ⟨⟨by omega, by omega, by omega⟩, by omega, rfl, by omega, by rw [c_G68_F_F_a_3_0], qL_cg d_G68_F_a_8_6 c_G68_F_F_a_8_0 c_G68_F_F_a_8_1 c_G68_F_F_a_8_2 c_G68_F_F_a_8_3 c_G68_F_F_a_8_4 c_G68_F_F_a_8_5⟩))
theorem v_X10_rekey_71_19 {F : Nat → Nat → Nat} (a : Nat) (G : XG) (G68 : XG)
    (ron : RO (vw (G.2.1 (F (F a 3) 0))) (aI (G.2.1 (F (F a 3) 1))))
    (c_G68_F_F_a_3_0 : G68.2.1 (F (F a 3) 0) = G.2.1 (F (F a 3) 0))
    (c_G68_F_F_a_3_1 : G68.2.1 (F (F a 3) 1) = G.2.1 (F (F a 3) 1)) :
    RO (vw (G68.2.1 (F (F a 3) 0))) (aI (G68.2.1 (F (F a 3) 1))) := by
  rw [c_G68_F_F_a_3_0, c_G68_F_F_a_3_1]; exact ron
theorem v_X10_rekey_52_20 {K : Nat → Nat} {F : Nat → Nat → Nat} (a : Nat) (G : XG) (G49 : XG) (G4 : XG) (x8 : Int32) (p0 : Int32) (x15 : Int32) (p1 : Int32) (x22 : Int32) (p2 : Int32) (x40 : Int32)
    (ha : K a = 12)
    (sb : 0 ≤ ((G.1 (F a 2) 2).toInt) ∧ ((G.1 (F a 2) 2).toInt) ≤ 12)
    (sw : 0 ≤ ((G.1 (F a 8) 6).toInt) ∧ ((G.1 (F a 8) 6).toInt) ≤ 1080)
    (t4 : ((G4.1 (F a 14) 1).toInt) = 0)
    (t8 : (x8.toInt = 1 ∧ 0 ≤ p0.toInt ∧ p0.toInt < 3) ∨ (x8.toInt = 0 ∧ (p0.toInt < 0 ∨ 3 ≤ p0.toInt)))
    (c11 : ¬ (x8.toInt = 0))
    (t15 : (x15.toInt = 1 ∧ 0 ≤ p1.toInt ∧ p1.toInt < 30) ∨ (x15.toInt = 0 ∧ (p1.toInt < 0 ∨ 30 ≤ p1.toInt)))
    (c18 : ¬ (x15.toInt = 0))
    (t22 : (x22.toInt = 1 ∧ 0 ≤ p2.toInt ∧ p2.toInt < 30) ∨ (x22.toInt = 0 ∧ (p2.toInt < 0 ∨ 30 ≤ p2.toInt)))
    (c25 : x22.toInt ≠ 0)
    (t40 : (x40.toInt = 1 ∧ (cel (vw (G.2.1 (F (F a 3) 0))) (p0.toInt) (p1.toInt) 0) ≠ -2000) ∨ (x40.toInt = 0 ∧ (cel (vw (G.2.1 (F (F a 3) 0))) (p0.toInt) (p1.toInt) 0) = -2000))
    (c43 : ¬ (x40.toInt ≠ 0))
    (c_G49_F_F_a_3_0 : G49.2.1 (F (F a 3) 0) = G.2.1 (F (F a 3) 0))
    (c_G49_F_F_a_8_0 : G49.2.1 (F (F a 8) 0) = G.2.1 (F (F a 8) 0))
    (c_G49_F_F_a_8_1 : G49.2.1 (F (F a 8) 1) = G.2.1 (F (F a 8) 1))
    (c_G49_F_F_a_8_2 : G49.2.1 (F (F a 8) 2) = G.2.1 (F (F a 8) 2))
    (c_G49_F_F_a_8_3 : G49.2.1 (F (F a 8) 3) = G.2.1 (F (F a 8) 3))
    (c_G49_F_F_a_8_4 : G49.2.1 (F (F a 8) 4) = G.2.1 (F (F a 8) 4))
    (c_G49_F_F_a_8_5 : G49.2.1 (F (F a 8) 5) = G.2.1 (F (F a 8) 5))
    (d_G49_F_a_8_6 : G49.1 (F a 8) 6 = G.1 (F a 8) 6) :
    ((-2 : Int) = -1 ∧ ¬ ((0 ≤ p0.toInt ∧ p0.toInt < 3) ∧ (0 ≤ p1.toInt ∧ p1.toInt < 30) ∧ (0 ≤ p2.toInt ∧ p2.toInt < 30)) ∧ ((vw (G49.2.1 (F (F a 3) 0))) = (vw (G.2.1 (F (F a 3) 0))) ∧ qL G49 F (F a 8) = qL G F (F a 8))) ∨ (((0 ≤ p0.toInt ∧ p0.toInt < 3) ∧ (0 ≤ p1.toInt ∧ p1.toInt < 30) ∧ (0 ≤ p2.toInt ∧ p2.toInt < 30)) ∧ (-2 : Int) = -2 ∧ cel (vw (G.2.1 (F (F a 3) 0))) p0.toInt p1.toInt 0 = -2000 ∧ ((vw (G49.2.1 (F (F a 3) 0))) = (vw (G.2.1 (F (F a 3) 0))) ∧ qL G49 F (F a 8) = qL G F (F a 8))) ∨ (((0 ≤ p0.toInt ∧ p0.toInt < 3) ∧ (0 ≤ p1.toInt ∧ p1.toInt < 30) ∧ (0 ≤ p2.toInt ∧ p2.toInt < 30)) ∧ cel (vw (G.2.1 (F (F a 3) 0))) p0.toInt p1.toInt 0 ≠ -2000 ∧ (-2 : Int) = -4 ∧ cel (vw (G.2.1 (F (F a 3) 0))) p0.toInt p2.toInt 0 ≠ -2000 ∧ ((vw (G49.2.1 (F (F a 3) 0))) = (vw (G.2.1 (F (F a 3) 0))) ∧ qL G49 F (F a 8) = qL G F (F a 8))) ∨ (((0 ≤ p0.toInt ∧ p0.toInt < 3) ∧ (0 ≤ p1.toInt ∧ p1.toInt < 30) ∧ (0 ≤ p2.toInt ∧ p2.toInt < 30)) ∧ cel (vw (G.2.1 (F (F a 3) 0))) p0.toInt p1.toInt 0 ≠ -2000 ∧ cel (vw (G.2.1 (F (F a 3) 0))) p0.toInt p2.toInt 0 = -2000 ∧ ActR ((G.1 a 18).toInt) (-2 : Int) (gaL G (G.2.2.1 (F (F a 2) 1)) (vw (G.2.1 (F (F a 3) 0))) (mvR (clsA G (G.2.2.1 (F (F a 2) 0))) (clsT G (G.2.2.1 (F (F a 2) 0))) (clsC G (G.2.2.1 (F (F a 2) 0))) p0.toInt p1.toInt p2.toInt (rmv (vw (G.2.1 (F (F a 3) 0))) p0.toInt p1.toInt p2.toInt) 12) 0 (((G.1 (F a 2) 2).toInt)).toNat) (vw (G.2.1 (F (F a 3) 0))) (vw (G49.2.1 (F (F a 3) 0))) (mvR (clsA G (G.2.2.1 (F (F a 2) 0))) (clsT G (G.2.2.1 (F (F a 2) 0))) (clsC G (G.2.2.1 (F (F a 2) 0))) p0.toInt p1.toInt p2.toInt (rmv (vw (G.2.1 (F (F a 3) 0))) p0.toInt p1.toInt p2.toInt) 12) (qL G F (F a 8)) (qL G49 F (F a 8)) (gaL G (G.2.2.1 (F (F a 2) 1)) (vw (G.2.1 (F (F a 4) 0))) (mvR (clsA G (G.2.2.1 (F (F a 2) 0))) (clsT G (G.2.2.1 (F (F a 2) 0))) (clsC G (G.2.2.1 (F (F a 2) 0))) p0.toInt p1.toInt p2.toInt (rmv (vw (G.2.1 (F (F a 3) 0))) p0.toInt p1.toInt p2.toInt) 12) 1 (((G.1 (F a 2) 2).toInt)).toNat)) := by
  exact Or.inr (Or.inl ⟨⟨by omega, by omega, by omega⟩, rfl, by omega, by rw [c_G49_F_F_a_3_0], qL_cg d_G49_F_a_8_6 c_G49_F_F_a_8_0 c_G49_F_F_a_8_1 c_G49_F_F_a_8_2 c_G49_F_F_a_8_3 c_G49_F_F_a_8_4 c_G49_F_F_a_8_5⟩)
theorem v_X10_rekey_52_21 {F : Nat → Nat → Nat} (a : Nat) (G : XG) (G49 : XG)
    (ron : RO (vw (G.2.1 (F (F a 3) 0))) (aI (G.2.1 (F (F a 3) 1))))
    (c_G49_F_F_a_3_0 : G49.2.1 (F (F a 3) 0) = G.2.1 (F (F a 3) 0))
    (c_G49_F_F_a_3_1 : G49.2.1 (F (F a 3) 1) = G.2.1 (F (F a 3) 1)) :
    RO (vw (G49.2.1 (F (F a 3) 0))) (aI (G49.2.1 (F (F a 3) 1))) := by
  rw [c_G49_F_F_a_3_0, c_G49_F_F_a_3_1]; exact ron
theorem v_X10_rekey_33_22 {K : Nat → Nat} {F : Nat → Nat → Nat} (a : Nat) (G : XG) (G30 : XG) (G4 : XG) (x8 : Int32) (p0 : Int32) (x15 : Int32) (p1 : Int32) (x22 : Int32) (p2 : Int32)
    (ha : K a = 12)
    (sb : 0 ≤ ((G.1 (F a 2) 2).toInt) ∧ ((G.1 (F a 2) 2).toInt) ≤ 12)
    (sw : 0 ≤ ((G.1 (F a 8) 6).toInt) ∧ ((G.1 (F a 8) 6).toInt) ≤ 1080)
    (t4 : ((G4.1 (F a 14) 1).toInt) = 0)
    (t8 : (x8.toInt = 1 ∧ 0 ≤ p0.toInt ∧ p0.toInt < 3) ∨ (x8.toInt = 0 ∧ (p0.toInt < 0 ∨ 3 ≤ p0.toInt)))
    (c11 : ¬ (x8.toInt = 0))
    (t15 : (x15.toInt = 1 ∧ 0 ≤ p1.toInt ∧ p1.toInt < 30) ∨ (x15.toInt = 0 ∧ (p1.toInt < 0 ∨ 30 ≤ p1.toInt)))
    (c18 : ¬ (x15.toInt = 0))
    (t22 : (x22.toInt = 1 ∧ 0 ≤ p2.toInt ∧ p2.toInt < 30) ∨ (x22.toInt = 0 ∧ (p2.toInt < 0 ∨ 30 ≤ p2.toInt)))
    (c25 : ¬ (x22.toInt ≠ 0))
    (c_G30_F_F_a_3_0 : G30.2.1 (F (F a 3) 0) = G.2.1 (F (F a 3) 0))
    (c_G30_F_F_a_8_0 : G30.2.1 (F (F a 8) 0) = G.2.1 (F (F a 8) 0))
    (c_G30_F_F_a_8_1 : G30.2.1 (F (F a 8) 1) = G.2.1 (F (F a 8) 1))
    (c_G30_F_F_a_8_2 : G30.2.1 (F (F a 8) 2) = G.2.1 (F (F a 8) 2))
    (c_G30_F_F_a_8_3 : G30.2.1 (F (F a 8) 3) = G.2.1 (F (F a 8) 3))
    (c_G30_F_F_a_8_4 : G30.2.1 (F (F a 8) 4) = G.2.1 (F (F a 8) 4))
    (c_G30_F_F_a_8_5 : G30.2.1 (F (F a 8) 5) = G.2.1 (F (F a 8) 5))
    (d_G30_F_a_8_6 : G30.1 (F a 8) 6 = G.1 (F a 8) 6) :
    ((-1 : Int) = -1 ∧ ¬ ((0 ≤ p0.toInt ∧ p0.toInt < 3) ∧ (0 ≤ p1.toInt ∧ p1.toInt < 30) ∧ (0 ≤ p2.toInt ∧ p2.toInt < 30)) ∧ ((vw (G30.2.1 (F (F a 3) 0))) = (vw (G.2.1 (F (F a 3) 0))) ∧ qL G30 F (F a 8) = qL G F (F a 8))) ∨ (((0 ≤ p0.toInt ∧ p0.toInt < 3) ∧ (0 ≤ p1.toInt ∧ p1.toInt < 30) ∧ (0 ≤ p2.toInt ∧ p2.toInt < 30)) ∧ (-1 : Int) = -2 ∧ cel (vw (G.2.1 (F (F a 3) 0))) p0.toInt p1.toInt 0 = -2000 ∧ ((vw (G30.2.1 (F (F a 3) 0))) = (vw (G.2.1 (F (F a 3) 0))) ∧ qL G30 F (F a 8) = qL G F (F a 8))) ∨ (((0 ≤ p0.toInt ∧ p0.toInt < 3) ∧ (0 ≤ p1.toInt ∧ p1.toInt < 30) ∧ (0 ≤ p2.toInt ∧ p2.toInt < 30)) ∧ cel (vw (G.2.1 (F (F a 3) 0))) p0.toInt p1.toInt 0 ≠ -2000 ∧ (-1 : Int) = -4 ∧ cel (vw (G.2.1 (F (F a 3) 0))) p0.toInt p2.toInt 0 ≠ -2000 ∧ ((vw (G30.2.1 (F (F a 3) 0))) = (vw (G.2.1 (F (F a 3) 0))) ∧ qL G30 F (F a 8) = qL G F (F a 8))) ∨ (((0 ≤ p0.toInt ∧ p0.toInt < 3) ∧ (0 ≤ p1.toInt ∧ p1.toInt < 30) ∧ (0 ≤ p2.toInt ∧ p2.toInt < 30)) ∧ cel (vw (G.2.1 (F (F a 3) 0))) p0.toInt p1.toInt 0 ≠ -2000 ∧ cel (vw (G.2.1 (F (F a 3) 0))) p0.toInt p2.toInt 0 = -2000 ∧ ActR ((G.1 a 18).toInt) (-1 : Int) (gaL G (G.2.2.1 (F (F a 2) 1)) (vw (G.2.1 (F (F a 3) 0))) (mvR (clsA G (G.2.2.1 (F (F a 2) 0))) (clsT G (G.2.2.1 (F (F a 2) 0))) (clsC G (G.2.2.1 (F (F a 2) 0))) p0.toInt p1.toInt p2.toInt (rmv (vw (G.2.1 (F (F a 3) 0))) p0.toInt p1.toInt p2.toInt) 12) 0 (((G.1 (F a 2) 2).toInt)).toNat) (vw (G.2.1 (F (F a 3) 0))) (vw (G30.2.1 (F (F a 3) 0))) (mvR (clsA G (G.2.2.1 (F (F a 2) 0))) (clsT G (G.2.2.1 (F (F a 2) 0))) (clsC G (G.2.2.1 (F (F a 2) 0))) p0.toInt p1.toInt p2.toInt (rmv (vw (G.2.1 (F (F a 3) 0))) p0.toInt p1.toInt p2.toInt) 12) (qL G F (F a 8)) (qL G30 F (F a 8)) (gaL G (G.2.2.1 (F (F a 2) 1)) (vw (G.2.1 (F (F a 4) 0))) (mvR (clsA G (G.2.2.1 (F (F a 2) 0))) (clsT G (G.2.2.1 (F (F a 2) 0))) (clsC G (G.2.2.1 (F (F a 2) 0))) p0.toInt p1.toInt p2.toInt (rmv (vw (G.2.1 (F (F a 3) 0))) p0.toInt p1.toInt p2.toInt) 12) 1 (((G.1 (F a 2) 2).toInt)).toNat)) := by
  exact Or.inl ⟨rfl, fun h => by omega, by rw [c_G30_F_F_a_3_0], qL_cg d_G30_F_a_8_6 c_G30_F_F_a_8_0 c_G30_F_F_a_8_1 c_G30_F_F_a_8_2 c_G30_F_F_a_8_3 c_G30_F_F_a_8_4 c_G30_F_F_a_8_5⟩
theorem v_X10_rekey_33_23 {F : Nat → Nat → Nat} (a : Nat) (G : XG) (G30 : XG)
    (ron : RO (vw (G.2.1 (F (F a 3) 0))) (aI (G.2.1 (F (F a 3) 1))))
    (c_G30_F_F_a_3_0 : G30.2.1 (F (F a 3) 0) = G.2.1 (F (F a 3) 0))
    (c_G30_F_F_a_3_1 : G30.2.1 (F (F a 3) 1) = G.2.1 (F (F a 3) 1)) :
    RO (vw (G30.2.1 (F (F a 3) 0))) (aI (G30.2.1 (F (F a 3) 1))) := by
  rw [c_G30_F_F_a_3_0, c_G30_F_F_a_3_1]; exact ron
theorem z_X10_cut_2 (a0 : Int) (a1 : Int) (a2 : Int) (a3 : Int) (h0 : (a3 = 1 ∧ 0 ≤ a0 ∧ a0 < 3) ∨ (a3 = 0 ∧ (a0 < 0 ∨ 3 ≤ a0))) (h1 : ¬ (a3 = 0)) (h2 : (a2 = 1 ∧ 0 ≤ a1 ∧ a1 < 30) ∨ (a2 = 0 ∧ (a1 < 0 ∨ 30 ≤ a1))) (h3 : a2 ≠ 0) : 0 ≤ a0 ∧ a0 < 3 ∧ 0 ≤ a1 ∧ a1 < 30 := by omega
theorem z_X10_cut_3 (a0 : Int) (a1 : Int) (a2 : Int) (h0 : (a0 = 1 ∧ a1 ≠ -2000) ∨ (a0 = 0 ∧ a1 = -2000)) (h1 : a0 ≠ 0) (h2 : a2 = a1) : a2 ≠ -2000 := by omega
abbrev rm_X10_cut : Room := { frames := 10, cells := 15, slots := 1500, locals := 236 }
set_option maxHeartbeats 4000000 in
set_option maxRecDepth 100000 in
theorem c_X10_cut (l : Launch) (E : XE) (K : Nat → Nat) (F : Nat → Nat → Nat) (G : XG) (a : Nat) (p0 : Int32) (p1 : Int32) (ha : K a = 12) (sb : 0 ≤ ((G.1 (F a 2) 2).toInt) ∧ ((G.1 (F a 2) 2).toInt) ≤ 12) (sw : 0 ≤ ((G.1 (F a 8) 6).toInt) ∧ ((G.1 (F a 8) 6).toInt) ≤ 1080) (ron : RO (vw (G.2.1 (F (F a 3) 0))) (aI (G.2.1 (F (F a 3) 1)))) (rob : RO (vw (G.2.1 (F (F a 4) 0))) (aI (G.2.1 (F (F a 4) 1)))) (bko : BKr K G (G.2.2.1 (F (F a 2) 1))) (bkn : BKr K G (G.2.2.1 (F (F a 2) 0))) (hac : ACo G (G.2.2.1 (F (F a 2) 0))) : Met l yX10_cut (xw yX10_cut cX10_cut 3 (some .int)) rm_X10_cut (va_Pc [.ref a, .int p0, .int p1] (XP E K F G)) (XQ E (fun v (u : XG) => ∃ r : Int32, v = .int r ∧ XFr [(F a 11, 3), (F a 9, 6), (F a 14, 1), (F a 14, 2), (F a 14, 3), (F a 10, 6), (F a 8, 6), (F a 12, 4)] [F (F a 11) 0, F (F a 11) 1, F (F a 11) 2, F (F a 9) 0, F (F a 9) 1, F (F a 9) 2, F (F a 9) 3, F (F a 9) 4, F (F a 9) 5, F a 16, F a 15, F (F a 10) 0, F (F a 10) 1, F (F a 10) 2, F (F a 10) 3, F (F a 10) 4, F (F a 10) 5, F (F a 3) 0, F (F a 3) 1, F (F a 8) 0, F (F a 8) 1, F (F a 8) 2, F (F a 8) 3, F (F a 8) 4, F (F a 8) 5, F (F a 5) 0, F (F a 5) 1, F (F a 12) 0, F (F a 12) 1, F (F a 12) 2, F (F a 12) 3] [] G u ∧ (0 ≤ ((u.1 (F a 8) 6).toInt) ∧ ((u.1 (F a 8) 6).toInt) ≤ 1080) ∧ ((r.toInt = -1 ∧ ¬ ((0 ≤ p0.toInt ∧ p0.toInt < 3) ∧ (0 ≤ p1.toInt ∧ p1.toInt < 30)) ∧ ((vw (u.2.1 (F (F a 3) 0))) = (vw (G.2.1 (F (F a 3) 0))) ∧ qL u F (F a 8) = qL G F (F a 8))) ∨ (((0 ≤ p0.toInt ∧ p0.toInt < 3) ∧ (0 ≤ p1.toInt ∧ p1.toInt < 30)) ∧ r.toInt = -2 ∧ cel (vw (G.2.1 (F (F a 3) 0))) p0.toInt p1.toInt 0 = -2000 ∧ ((vw (u.2.1 (F (F a 3) 0))) = (vw (G.2.1 (F (F a 3) 0))) ∧ qL u F (F a 8) = qL G F (F a 8))) ∨ (((0 ≤ p0.toInt ∧ p0.toInt < 3) ∧ (0 ≤ p1.toInt ∧ p1.toInt < 30)) ∧ cel (vw (G.2.1 (F (F a 3) 0))) p0.toInt p1.toInt 0 ≠ -2000 ∧ ActR ((G.1 a 18).toInt) r.toInt (gaL G (G.2.2.1 (F (F a 2) 1)) (vw (G.2.1 (F (F a 3) 0))) (cfin (clsA G (G.2.2.1 (F (F a 2) 0))) (clsT G (G.2.2.1 (F (F a 2) 0))) (clsC G (G.2.2.1 (F (F a 2) 0))) ([(p0.toInt, p1.toInt, 0, 0)], rfil (vw (G.2.1 (F (F a 3) 0))) p0.toInt p1.toInt (-2000) 3)) 0 (((G.1 (F a 2) 2).toInt)).toNat) (vw (G.2.1 (F (F a 3) 0))) (vw (u.2.1 (F (F a 3) 0))) (cfin (clsA G (G.2.2.1 (F (F a 2) 0))) (clsT G (G.2.2.1 (F (F a 2) 0))) (clsC G (G.2.2.1 (F (F a 2) 0))) ([(p0.toInt, p1.toInt, 0, 0)], rfil (vw (G.2.1 (F (F a 3) 0))) p0.toInt p1.toInt (-2000) 3)) (qL G F (F a 8)) (qL u F (F a 8)) (gaL G (G.2.2.1 (F (F a 2) 1)) (vw (G.2.1 (F (F a 4) 0))) (cfin (clsA G (G.2.2.1 (F (F a 2) 0))) (clsT G (G.2.2.1 (F (F a 2) 0))) (clsC G (G.2.2.1 (F (F a 2) 0))) ([(p0.toInt, p1.toInt, 0, 0)], rfil (vw (G.2.1 (F (F a 3) 0))) p0.toInt p1.toInt (-2000) 3)) 1 (((G.1 (F a 2) 2).toInt)).toNat))) ∧ (RO (vw (u.2.1 (F (F a 3) 0))) (aI (u.2.1 (F (F a 3) 1))))) (fun u H => TW E K F u H)) 15 1500 (xA E) := by
  refine x_enter (by decide) (Nat.le_of_ble_eq_true rfl) ?_
  intro p e s m args below meth c Q S hr hlk hnm hQ hP ls hl
  obtain ⟨hz, hK, hT⟩ := hP
  obtain ⟨hx, hb, -, -, -⟩ := id S
  obtain ⟨H, hT, hS, hgo⟩ : ∃ H : Heap, TW E K F G H ∧ va_S (xA E) s.heap H [] ∧ H = s.heap := ⟨_, hT, va_S.rf, rfl⟩
  rw [← hgo]
  have hl : lv_has ls 3 [(0, .ref a), (1, .int p0), (2, .int p1)] := hl
  obtain ⟨hk9999, hj9999⟩ := fkX10_11 hT ha
  obtain ⟨hk9999a, hj9999a⟩ := fkX10_9 hT ha
  obtain ⟨hk9999b, hj9999b⟩ := fkX10_14 hT ha
  obtain ⟨hk9999c, hj9999c⟩ := fkX10_10 hT ha
  obtain ⟨hk9999d, hj9999d⟩ := fkX10_8 hT ha
  obtain ⟨hk9999e, hj9999e⟩ := fkX10_12 hT ha
  obtain ⟨hk9999f, hj9999f⟩ := fkX1_0 hT hk9999
  obtain ⟨hk9999g, hj9999g⟩ := fkX1_1 hT hk9999
  obtain ⟨hk9999h, hj9999h⟩ := fkX1_2 hT hk9999
  obtain ⟨hk9999i, hj9999i⟩ := fkX4_0 hT hk9999a
  have hj9999j : F (F (F a 9) 0) 99 = 10 * 1 + 0 := by rw [hj9999i, hj9999a]
  obtain ⟨hk9999j, hj9999k⟩ := fkX4_1 hT hk9999a
  have hj9999l : F (F (F a 9) 1) 99 = 10 * 1 + 1 := by rw [hj9999k, hj9999a]
  obtain ⟨hk9999k, hj9999m⟩ := fkX4_2 hT hk9999a
  have hj9999n : F (F (F a 9) 2) 99 = 10 * 1 + 2 := by rw [hj9999m, hj9999a]
  obtain ⟨hk9999l, hj9999o⟩ := fkX4_3 hT hk9999a
  have hj9999p : F (F (F a 9) 3) 99 = 10 * 1 + 3 := by rw [hj9999o, hj9999a]
  obtain ⟨hk9999m, hj9999q⟩ := fkX4_4 hT hk9999a
  have hj9999r : F (F (F a 9) 4) 99 = 10 * 1 + 4 := by rw [hj9999q, hj9999a]
  obtain ⟨hk9999n, hj9999s⟩ := fkX4_5 hT hk9999a
  have hj9999t : F (F (F a 9) 5) 99 = 10 * 1 + 5 := by rw [hj9999s, hj9999a]
  obtain ⟨hk9999o, hj9999u⟩ := fkX10_16 hT ha
  obtain ⟨hk9999p, hj9999v⟩ := fkX10_15 hT ha
  obtain ⟨hk9999q, hj9999w⟩ := fkX4_0 hT hk9999c
  have hj9999y : F (F (F a 10) 0) 99 = 10 * 2 + 0 := by rw [hj9999w, hj9999c]
  obtain ⟨hk9999r, hj9999z25⟩ := fkX4_1 hT hk9999c
  have hj9999z26 : F (F (F a 10) 1) 99 = 10 * 2 + 1 := by rw [hj9999z25, hj9999c]
  obtain ⟨hk9999s, hj9999z27⟩ := fkX4_2 hT hk9999c
  have hj9999z28 : F (F (F a 10) 2) 99 = 10 * 2 + 2 := by rw [hj9999z27, hj9999c]
  obtain ⟨hk9999t, hj9999z29⟩ := fkX4_3 hT hk9999c
  have hj9999z30 : F (F (F a 10) 3) 99 = 10 * 2 + 3 := by rw [hj9999z29, hj9999c]
  obtain ⟨hk9999u, hj9999z31⟩ := fkX4_4 hT hk9999c
  have hj9999z32 : F (F (F a 10) 4) 99 = 10 * 2 + 4 := by rw [hj9999z31, hj9999c]
  obtain ⟨hk9999v, hj9999z33⟩ := fkX4_5 hT hk9999c
  have hj9999z34 : F (F (F a 10) 5) 99 = 10 * 2 + 5 := by rw [hj9999z33, hj9999c]
  obtain ⟨hk9999w, hj9999z35⟩ := fkX10_3 hT ha
  obtain ⟨hk9999y, hj9999z36⟩ := fkX6_0 hT hk9999w
  have hj9999z37 : F (F (F a 3) 0) 99 = 0 := by rw [hj9999z36, hj9999z35]
  obtain ⟨hk9999z25, hj9999z38⟩ := fkX6_1 hT hk9999w
  have hj9999z39 : F (F (F a 3) 1) 99 = 0 := by rw [hj9999z38, hj9999z35]
  obtain ⟨hk9999z26, hj9999z40⟩ := fkX4_0 hT hk9999d
  have hj9999z41 : F (F (F a 8) 0) 99 = 10 * 0 + 0 := by rw [hj9999z40, hj9999d]
  obtain ⟨hk9999z27, hj9999z42⟩ := fkX4_1 hT hk9999d
  have hj9999z43 : F (F (F a 8) 1) 99 = 10 * 0 + 1 := by rw [hj9999z42, hj9999d]
  obtain ⟨hk9999z28, hj9999z44⟩ := fkX4_2 hT hk9999d
  have hj9999z45 : F (F (F a 8) 2) 99 = 10 * 0 + 2 := by rw [hj9999z44, hj9999d]
  obtain ⟨hk9999z29, hj9999z46⟩ := fkX4_3 hT hk9999d
  have hj9999z47 : F (F (F a 8) 3) 99 = 10 * 0 + 3 := by rw [hj9999z46, hj9999d]
  obtain ⟨hk9999z30, hj9999z48⟩ := fkX4_4 hT hk9999d
  have hj9999z49 : F (F (F a 8) 4) 99 = 10 * 0 + 4 := by rw [hj9999z48, hj9999d]
  obtain ⟨hk9999z31, hj9999z50⟩ := fkX4_5 hT hk9999d
  have hj9999z51 : F (F (F a 8) 5) 99 = 10 * 0 + 5 := by rw [hj9999z50, hj9999d]
  obtain ⟨hk9999z32, hj9999z52⟩ := fkX10_5 hT ha
  obtain ⟨hk9999z33, hj9999z53⟩ := fkX6_0 hT hk9999z32
  have hj9999z54 : F (F (F a 5) 0) 99 = 2 := by rw [hj9999z53, hj9999z52]
  obtain ⟨hk9999z34, hj9999z55⟩ := fkX6_1 hT hk9999z32
  have hj9999z56 : F (F (F a 5) 1) 99 = 2 := by rw [hj9999z55, hj9999z52]
  obtain ⟨hk9999z35, hj9999z57⟩ := fkX2_0 hT hk9999e
  obtain ⟨hk9999z36, hj9999z58⟩ := fkX2_1 hT hk9999e
  obtain ⟨hk9999z37, hj9999z59⟩ := fkX2_2 hT hk9999e
  obtain ⟨hk9999z38, hj9999z60⟩ := fkX2_3 hT hk9999e
  obtain ⟨hk9999z39, hj9999z61⟩ := fkX10_2 hT ha
  obtain ⟨hk9999z40, hj9999z62⟩ := fkX0_1 hT hk9999z39
  obtain ⟨hk9999z41, hj9999z63⟩ := fkX0_0 hT hk9999z39
  obtain ⟨hk9999z42, hj9999z64⟩ := fkX10_4 hT ha
  obtain ⟨hk9999z43, hj9999z65⟩ := fkX6_0 hT hk9999z42
  have hj9999z66 : F (F (F a 4) 0) 99 = 1 := by rw [hj9999z65, hj9999z64]
  obtain ⟨hk9999z44, hj9999z67⟩ := fkX6_1 hT hk9999z42
  have hj9999z68 : F (F (F a 4) 1) 99 = 1 := by rw [hj9999z67, hj9999z64]
  refine lv_aload_n hx hb dX10_cut_0 rfl (lv_at hl 0 rfl) ?_
  refine gX10_14 S hK hT ha kf_X10_91 dX10_cut_1 (fun _ _ => ?_)
  refine x_cv (x_runV (b := (F a 14)) (As := []) (rest := []) S (c_X9_clear l E K F G (F a 14) hk9999b) mv_X9_clear km_X10_113 rfl rfl ⟨Nat.le_of_ble_eq_true rfl, Nat.le_of_ble_eq_true rfl⟩ (rc_11 hK hT hk9999b) hK (fun _ => XP.blind) (fun U hU hW => XP.at hK hz hS hT hU hW) rfl hl.1 (Nat.le_of_ble_eq_true rfl) dX10_cut_4 ⟨Nat.le_of_ble_eq_true rfl, Nat.le_of_ble_eq_true rfl⟩) hS ?_
  rintro G4 H locs ⟨hF4, t4⟩ hT hS
  have t4 : ((G4.1 (F a 14) 1).toInt) = 0 := t4
  refine lv_iload_n hx hb dX10_cut_7 rfl (lv_at hl 1 rfl) ?_
  refine x_clp (x_runS (As := [.int p0]) (rest := []) S (c_X10_isTable l E K F G4 H p0) ms_X10_isTable km_X10_179 rfl rfl ⟨Nat.le_of_ble_eq_true rfl, Nat.le_of_ble_eq_true rfl⟩ hK (fun _ => XPh.blind) (fun U hU hW => XPh.at hK hz hS hT hU hW) rfl hl.1 (Nat.le_of_ble_eq_true rfl) dX10_cut_8 ⟨Nat.le_of_ble_eq_true rfl, Nat.le_of_ble_eq_true rfl⟩) hS ?_
  rintro _ _ locs ⟨x8, rfl, b8, t8⟩ hS
  have t8 : (x8.toInt = 1 ∧ 0 ≤ p0.toInt ∧ p0.toInt < 3) ∨ (x8.toInt = 0 ∧ (p0.toInt < 0 ∨ 3 ≤ p0.toInt)) := t8
  refine xi_zeq (tgt := 21) hx hb (rfl : Int32.toInt x8 = x8.toInt) dX10_cut_11 (by decide) (fun c11 => ?_) (fun c11 => ?_)
  · refine lv_aload_n hx hb dX10_cut_21 rfl (lv_at hl 0 rfl) ?_
    refine lv_iconst (v := (-1)) hx hb dX10_cut_22 (by decide) ?_
    refine x_cl0 (x_runV (b := a) (As := [.int (-1)]) (rest := []) S (c_X10_refuseAct l E K F G4 a (-1) ha) mv_X10_refuseAct km_X10_188 rfl rfl ⟨Nat.le_of_ble_eq_true rfl, Nat.le_of_ble_eq_true rfl⟩ (rc_12 hK hT ha) hK (fun _ => XP.blind) (fun U hU hW => XP.at hK hz hS hT hU hW) rfl hl.1 (Nat.le_of_ble_eq_true rfl) dX10_cut_23 ⟨Nat.le_of_ble_eq_true rfl, Nat.le_of_ble_eq_true rfl⟩) hS ?_
    rintro _ G23 H locs ⟨x23, rfl, hF23, t23⟩ hT hS
    have t23 : x23.toInt = (-1 : Int) := by rw [((by decide) : Int32.toInt (-1) = (-1 : Int))] at t23; exact t23
    exact x_ri hx hb hr hlk hQ (Nat.le_of_ble_eq_true rfl) (Nat.le_of_ble_eq_true rfl) hS dX10_cut_26 G23 ⟨_, rfl, (XFr.call (XFr.call XFr.rf hF4 (xm1 2 rfl xm0) xm0 xm0) hF23 xm0 (xm1 10 rfl xm0) xm0), (by rw [(show (G23.1 (F a 8) 6).toInt = ((G.1 (F a 8) 6).toInt) from (congrArg Int32.toInt ((hF23.1 _ _ xn0).trans (hF4.1 _ _ (xnj (by decide) xn0)))).trans (rfl : Int32.toInt (G.1 (F a 8) 6) = ((G.1 (F a 8) 6).toInt)))] <;> exact (sw)), (by rw [(t23 : Int32.toInt x23 = (-1 : Int))] <;> exact (v_X10_cut_26_1 (K := K) (F := F) a G G23 G4 x8 p0 p1 ha sb sw t4 t8 c11 ((hF23.2.1 _ (xn1 (xne_k hk9999y hk9999p (by decide)) xn0)).trans (hF4.2.1 _ xn0)) ((hF23.2.1 _ (xn1 (xne_k hk9999z26 hk9999p (by decide)) xn0)).trans (hF4.2.1 _ xn0)) ((hF23.2.1 _ (xn1 (xne_k hk9999z27 hk9999p (by decide)) xn0)).trans (hF4.2.1 _ xn0)) ((hF23.2.1 _ (xn1 (xne_k hk9999z28 hk9999p (by decide)) xn0)).trans (hF4.2.1 _ xn0)) ((hF23.2.1 _ (xn1 (xne_k hk9999z29 hk9999p (by decide)) xn0)).trans (hF4.2.1 _ xn0)) ((hF23.2.1 _ (xn1 (xne_k hk9999z30 hk9999p (by decide)) xn0)).trans (hF4.2.1 _ xn0)) ((hF23.2.1 _ (xn1 (xne_k hk9999z31 hk9999p (by decide)) xn0)).trans (hF4.2.1 _ xn0)) ((hF23.1 _ _ xn0).trans (hF4.1 _ _ (xnj (by decide) xn0))))), (v_X10_cut_26_2 (F := F) a G G23 ron ((hF23.2.1 _ (xn1 (xne_k hk9999y hk9999p (by decide)) xn0)).trans (hF4.2.1 _ xn0)) ((hF23.2.1 _ (xn1 (xne_k hk9999z25 hk9999p (by decide)) xn0)).trans (hF4.2.1 _ xn0)))⟩ hT
  · refine lv_iload_n hx hb dX10_cut_14 rfl (lv_at hl 2 rfl) ?_
    refine x_clp (x_runS (As := [.int p1]) (rest := []) S (c_X10_isKey l E K F G4 H p1) ms_X10_isKey km_X10_182 rfl rfl ⟨Nat.le_of_ble_eq_true rfl, Nat.le_of_ble_eq_true rfl⟩ hK (fun _ => XPh.blind) (fun U hU hW => XPh.at hK hz hS hT hU hW) rfl hl.1 (Nat.le_of_ble_eq_true rfl) dX10_cut_15 ⟨Nat.le_of_ble_eq_true rfl, Nat.le_of_ble_eq_true rfl⟩) hS ?_
    rintro _ _ locs ⟨x15, rfl, b15, t15⟩ hS
    have t15 : (x15.toInt = 1 ∧ 0 ≤ p1.toInt ∧ p1.toInt < 30) ∨ (x15.toInt = 0 ∧ (p1.toInt < 0 ∨ 30 ≤ p1.toInt)) := t15
    refine xi_zne (tgt := 27) hx hb (rfl : Int32.toInt x15 = x15.toInt) dX10_cut_18 (by decide) (fun c18 => ?_) (fun c18 => ?_)
    · refine lv_aload_n hx hb dX10_cut_27 rfl (lv_at hl 0 rfl) ?_
      refine gX10_3 S hK hT ha kf_X10_37 dX10_cut_28 (fun _ _ => ?_)
      refine lv_iload_n hx hb dX10_cut_31 rfl (lv_at hl 1 rfl) ?_
      refine lv_iload_n hx hb dX10_cut_32 rfl (lv_at hl 2 rfl) ?_
      refine x_clp (x_runV (b := (F a 3)) (As := [.int p0, .int p1]) (rest := []) S (c_X6_has l E K F G4 H (F a 3) p0 p1 hk9999w (v_X10_cut_33_3 (F := F) a G G4 ron rob (hF4.2.1 _ xn0) (hF4.2.1 _ xn0))) mv_X6_has km_X10_191 rfl rfl ⟨Nat.le_of_ble_eq_true rfl, Nat.le_of_ble_eq_true rfl⟩ (rc_8 hK hT hk9999w) hK (fun _ => XPh.blind) (fun U hU hW => XPh.at hK hz hS hT hU hW) rfl hl.1 (Nat.le_of_ble_eq_true rfl) dX10_cut_33 ⟨Nat.le_of_ble_eq_true rfl, Nat.le_of_ble_eq_true rfl⟩) hS ?_
      rintro _ _ locs ⟨x33, rfl, b33, t33⟩ hS
      have t33 : (x33.toInt = 1 ∧ (cel (vw (G.2.1 (F (F a 3) 0))) (p0.toInt) (p1.toInt) 0) ≠ -2000) ∨ (x33.toInt = 0 ∧ (cel (vw (G.2.1 (F (F a 3) 0))) (p0.toInt) (p1.toInt) 0) = -2000) := by rw [(show G4.2.1 (F (F a 3) 0) = G.2.1 (F (F a 3) 0) from (hF4.2.1 _ xn0))] at t33; exact t33
      refine xi_zne (tgt := 46) hx hb (rfl : Int32.toInt x33 = x33.toInt) dX10_cut_36 (by decide) (fun c36 => ?_) (fun c36 => ?_)
      · refine lv_aload_n hx hb dX10_cut_46 rfl (lv_at hl 0 rfl) ?_
        refine gX10_5 S hK hT ha kf_X10_44 dX10_cut_47 (fun _ _ => ?_)
        refine lv_aload_n hx hb dX10_cut_50 rfl (lv_at hl 0 rfl) ?_
        refine gX10_3 S hK hT ha kf_X10_37 dX10_cut_51 (fun _ _ => ?_)
        refine x_cv0 (x_runV (b := (F a 5)) (As := [.ref (F a 3)]) (rest := []) S (c_X6_copy l E K F G4 (F a 5) (F a 3) hk9999z32 hk9999w (v_X10_cut_54_4 (F := F) a G G4 ron rob (hF4.2.1 _ xn0) (hF4.2.1 _ xn0))) mv_X6_copy km_X10_195 rfl rfl ⟨Nat.le_of_ble_eq_true rfl, Nat.le_of_ble_eq_true rfl⟩ (rc_8 hK hT hk9999z32) hK (fun _ => XP.blind) (fun U hU hW => XP.at hK hz hS hT hU hW) rfl hl.1 (Nat.le_of_ble_eq_true rfl) dX10_cut_54 ⟨Nat.le_of_ble_eq_true rfl, Nat.le_of_ble_eq_true rfl⟩) hS ?_
        rintro G54 H locs ⟨hF54, oq54, oq54a⟩ hT hS
        have oq54 : (vw (G54.2.1 (F (F a 5) 0))) = (vw (G.2.1 (F (F a 3) 0))) := by simp only [(show G4.2.1 (F (F a 3) 0) = G.2.1 (F (F a 3) 0) from (hF4.2.1 _ xn0))] at oq54; exact oq54
        have z57 : (cel (vw (G54.2.1 (F (F a 5) 0))) (p0.toInt) (p1.toInt) 0) = (cel (vw (G.2.1 (F (F a 3) 0))) (p0.toInt) (p1.toInt) 0) := by rw [oq54]
        refine lv_aload_n hx hb dX10_cut_57 rfl (lv_at hl 0 rfl) ?_
        refine gX10_12 S hK hT ha kf_X10_77 dX10_cut_58 (fun _ _ => ?_)
        refine lv_aload_n hx hb dX10_cut_61 rfl (lv_at hl 0 rfl) ?_
        refine gX10_5 S hK hT ha kf_X10_44 dX10_cut_62 (fun _ _ => ?_)
        refine lv_aload_n hx hb dX10_cut_65 rfl (lv_at hl 0 rfl) ?_
        refine gX10_2 S hK hT ha kf_X10_30 dX10_cut_66 (fun _ _ => ?_)
        refine lv_iload_n hx hb dX10_cut_69 rfl (lv_at hl 1 rfl) ?_
        refine lv_iload_n hx hb dX10_cut_70 rfl (lv_at hl 2 rfl) ?_
        refine x_cv0 (x_runV (b := (F a 12)) (As := [.ref (F a 5), .ref (F a 2), .int p0, .int p1]) (rest := []) S (c_X2_cutRow l E K F G54 (F a 12) (F a 5) (F a 2) p0 p1 hk9999e hk9999z32 hk9999z39 (z_X10_cut_2 p0.toInt p1.toInt x15.toInt x8.toInt t8 c11 t15 c18) (z_X10_cut_3 x33.toInt (cel (vw (G.2.1 (F (F a 3) 0))) (p0.toInt) (p1.toInt) 0) (cel (vw (G54.2.1 (F (F a 5) 0))) (p0.toInt) (p1.toInt) 0) t33 c36 z57) (v_X10_cut_71_5 (F := F) a G54 oq54a) (v_X10_cut_71_6 (K := K) (F := F) a G G54 G4 x8 p0 x15 p1 x33 ha hk9999 hj9999 hk9999a hj9999a hk9999b hj9999b hk9999c hj9999c hk9999d hj9999d hk9999e hj9999e hk9999f hj9999f hk9999g hj9999g hk9999h hj9999h hk9999i hj9999j hk9999j hj9999l hk9999k hj9999n hk9999l hj9999p hk9999m hj9999r hk9999n hj9999t hk9999o hj9999u hk9999p hj9999v hk9999q hj9999y hk9999r hj9999z26 hk9999s hj9999z28 hk9999t hj9999z30 hk9999u hj9999z32 hk9999v hj9999z34 hk9999w hj9999z35 hk9999y hj9999z37 hk9999z25 hj9999z39 hk9999z26 hj9999z41 hk9999z27 hj9999z43 hk9999z28 hj9999z45 hk9999z29 hj9999z47 hk9999z30 hj9999z49 hk9999z31 hj9999z51 hk9999z32 hj9999z52 hk9999z33 hj9999z54 hk9999z34 hj9999z56 hk9999z35 hj9999z57 hk9999z36 hj9999z58 hk9999z37 hj9999z59 hk9999z38 hj9999z60 hk9999z39 hj9999z61 hk9999z40 hj9999z62 hk9999z41 hj9999z63 hk9999z42 hj9999z64 hk9999z43 hj9999z66 hk9999z44 hj9999z68 (XFr.call (XFr.call XFr.rf hF4 (xm1 2 rfl xm0) xm0 xm0) hF54 xm0 (xm1 25 rfl (xm1 26 rfl xm0)) xm0) hF4 hF54 ron rob bko bkn hac oq54 oq54a sb sw t4 t8 c11 t15 c18 t33 c36 z57 ((hF54.2.1 _ (xn1 (xne_k hk9999q hk9999z33 (by decide)) (xn1 (xne_k hk9999q hk9999z34 (by decide)) xn0))).trans (hF4.2.1 _ xn0)) ((hF54.2.1 _ (xn1 (xne_k hk9999r hk9999z33 (by decide)) (xn1 (xne_k hk9999r hk9999z34 (by decide)) xn0))).trans (hF4.2.1 _ xn0)) ((hF54.2.1 _ (xn1 (xne_k hk9999s hk9999z33 (by decide)) (xn1 (xne_k hk9999s hk9999z34 (by decide)) xn0))).trans (hF4.2.1 _ xn0)) ((hF54.2.1 _ (xn1 (xne_k hk9999t hk9999z33 (by decide)) (xn1 (xne_k hk9999t hk9999z34 (by decide)) xn0))).trans (hF4.2.1 _ xn0)) ((hF54.2.1 _ (xn1 (xne_k hk9999u hk9999z33 (by decide)) (xn1 (xne_k hk9999u hk9999z34 (by decide)) xn0))).trans (hF4.2.1 _ xn0)) ((hF54.2.1 _ (xn1 (xne_k hk9999v hk9999z33 (by decide)) (xn1 (xne_k hk9999v hk9999z34 (by decide)) xn0))).trans (hF4.2.1 _ xn0)) ((hF54.2.1 _ (xn1 (xne_k hk9999f hk9999z33 (by decide)) (xn1 (xne_j hj9999f hj9999z56 (by first | decide | omega)) xn0))).trans (hF4.2.1 _ xn0)) ((hF54.2.1 _ (xn1 (xne_k hk9999g hk9999z33 (by decide)) (xn1 (xne_j hj9999g hj9999z56 (by first | decide | omega)) xn0))).trans (hF4.2.1 _ xn0)) ((hF54.2.1 _ (xn1 (xne_k hk9999h hk9999z33 (by decide)) (xn1 (xne_k hk9999h hk9999z34 (by decide)) xn0))).trans (hF4.2.1 _ xn0)) ((hF54.2.1 _ (xn1 (xne_k hk9999z35 hk9999z33 (by decide)) (xn1 (xne_k hk9999z35 hk9999z34 (by decide)) xn0))).trans (hF4.2.1 _ xn0)) ((hF54.2.1 _ (xn1 (xne_k hk9999z36 hk9999z33 (by decide)) (xn1 (xne_k hk9999z36 hk9999z34 (by decide)) xn0))).trans (hF4.2.1 _ xn0)) ((hF54.2.1 _ (xn1 (xne_k hk9999z37 hk9999z33 (by decide)) (xn1 (xne_k hk9999z37 hk9999z34 (by decide)) xn0))).trans (hF4.2.1 _ xn0)) ((hF54.2.1 _ (xn1 (xne_k hk9999z38 hk9999z33 (by decide)) (xn1 (xne_k hk9999z38 hk9999z34 (by decide)) xn0))).trans (hF4.2.1 _ xn0)) ((hF54.2.1 _ (xn1 (xne_j hj9999z37 hj9999z54 (by first | decide | omega)) (xn1 (xne_k hk9999y hk9999z34 (by decide)) xn0))).trans (hF4.2.1 _ xn0)) ((hF54.2.1 _ (xn1 (xne_k hk9999z25 hk9999z33 (by decide)) (xn1 (xne_j hj9999z39 hj9999z56 (by first | decide | omega)) xn0))).trans (hF4.2.1 _ xn0)) ((hF54.2.1 _ (xn1 (xne_k hk9999z26 hk9999z33 (by decide)) (xn1 (xne_k hk9999z26 hk9999z34 (by decide)) xn0))).trans (hF4.2.1 _ xn0)) ((hF54.2.1 _ (xn1 (xne_k hk9999z27 hk9999z33 (by decide)) (xn1 (xne_k hk9999z27 hk9999z34 (by decide)) xn0))).trans (hF4.2.1 _ xn0)) ((hF54.2.1 _ (xn1 (xne_k hk9999z28 hk9999z33 (by decide)) (xn1 (xne_k hk9999z28 hk9999z34 (by decide)) xn0))).trans (hF4.2.1 _ xn0)) ((hF54.2.1 _ (xn1 (xne_k hk9999z29 hk9999z33 (by decide)) (xn1 (xne_k hk9999z29 hk9999z34 (by decide)) xn0))).trans (hF4.2.1 _ xn0)) ((hF54.2.1 _ (xn1 (xne_k hk9999z30 hk9999z33 (by decide)) (xn1 (xne_k hk9999z30 hk9999z34 (by decide)) xn0))).trans (hF4.2.1 _ xn0)) ((hF54.2.1 _ (xn1 (xne_k hk9999z31 hk9999z33 (by decide)) (xn1 (xne_k hk9999z31 hk9999z34 (by decide)) xn0))).trans (hF4.2.1 _ xn0)) ((hF54.2.1 _ (xn1 (xne_k hk9999i hk9999z33 (by decide)) (xn1 (xne_k hk9999i hk9999z34 (by decide)) xn0))).trans (hF4.2.1 _ xn0)) ((hF54.2.1 _ (xn1 (xne_k hk9999j hk9999z33 (by decide)) (xn1 (xne_k hk9999j hk9999z34 (by decide)) xn0))).trans (hF4.2.1 _ xn0)) ((hF54.2.1 _ (xn1 (xne_k hk9999k hk9999z33 (by decide)) (xn1 (xne_k hk9999k hk9999z34 (by decide)) xn0))).trans (hF4.2.1 _ xn0)) ((hF54.2.1 _ (xn1 (xne_k hk9999l hk9999z33 (by decide)) (xn1 (xne_k hk9999l hk9999z34 (by decide)) xn0))).trans (hF4.2.1 _ xn0)) ((hF54.2.1 _ (xn1 (xne_k hk9999m hk9999z33 (by decide)) (xn1 (xne_k hk9999m hk9999z34 (by decide)) xn0))).trans (hF4.2.1 _ xn0)) ((hF54.2.1 _ (xn1 (xne_k hk9999n hk9999z33 (by decide)) (xn1 (xne_k hk9999n hk9999z34 (by decide)) xn0))).trans (hF4.2.1 _ xn0)) ((hF54.2.1 _ (xn1 (xne_k hk9999p hk9999z33 (by decide)) (xn1 (xne_k hk9999p hk9999z34 (by decide)) xn0))).trans (hF4.2.1 _ xn0)) ((hF54.2.1 _ (xn1 (xne_k hk9999o hk9999z33 (by decide)) (xn1 (xne_k hk9999o hk9999z34 (by decide)) xn0))).trans (hF4.2.1 _ xn0)) ((hF54.2.2 _ xn0).trans (hF4.2.2 _ xn0)) ((hF54.1 _ _ xn0).trans (hF4.1 _ _ (xnj (by decide) xn0))) ((hF54.1 _ _ xn0).trans (hF4.1 _ _ (xnj (by decide) xn0))) ((hF54.1 _ _ xn0).trans (hF4.1 _ _ (xnj (by decide) xn0))) (hF54.1 _ _ xn0) ((hF54.1 _ _ xn0).trans (hF4.1 _ _ (xnj (by decide) xn0))) ((hF54.1 _ _ xn0).trans (hF4.1 _ _ (xnj (by decide) xn0))) ((hF54.1 _ _ xn0).trans (hF4.1 _ _ (xnj (by decide) xn0))) ((hF54.1 _ _ xn0).trans (hF4.1 _ _ (xnj (by decide) xn0)))) (v_X10_cut_71_7 (K := K) (F := F) a G G54 G4 x8 p0 x15 p1 x33 ha hk9999 hj9999 hk9999a hj9999a hk9999b hj9999b hk9999c hj9999c hk9999d hj9999d hk9999e hj9999e hk9999f hj9999f hk9999g hj9999g hk9999h hj9999h hk9999i hj9999j hk9999j hj9999l hk9999k hj9999n hk9999l hj9999p hk9999m hj9999r hk9999n hj9999t hk9999o hj9999u hk9999p hj9999v hk9999q hj9999y hk9999r hj9999z26 hk9999s hj9999z28 hk9999t hj9999z30 hk9999u hj9999z32 hk9999v hj9999z34 hk9999w hj9999z35 hk9999y hj9999z37 hk9999z25 hj9999z39 hk9999z26 hj9999z41 hk9999z27 hj9999z43 hk9999z28 hj9999z45 hk9999z29 hj9999z47 hk9999z30 hj9999z49 hk9999z31 hj9999z51 hk9999z32 hj9999z52 hk9999z33 hj9999z54 hk9999z34 hj9999z56 hk9999z35 hj9999z57 hk9999z36 hj9999z58 hk9999z37 hj9999z59 hk9999z38 hj9999z60 hk9999z39 hj9999z61 hk9999z40 hj9999z62 hk9999z41 hj9999z63 hk9999z42 hj9999z64 hk9999z43 hj9999z66 hk9999z44 hj9999z68 (XFr.call (XFr.call XFr.rf hF4 (xm1 2 rfl xm0) xm0 xm0) hF54 xm0 (xm1 25 rfl (xm1 26 rfl xm0)) xm0) hF4 hF54 ron rob bko bkn hac oq54 oq54a sb sw t4 t8 c11 t15 c18 t33 c36 z57 ((hF54.2.1 _ (xn1 (xne_k hk9999q hk9999z33 (by decide)) (xn1 (xne_k hk9999q hk9999z34 (by decide)) xn0))).trans (hF4.2.1 _ xn0)) ((hF54.2.1 _ (xn1 (xne_k hk9999r hk9999z33 (by decide)) (xn1 (xne_k hk9999r hk9999z34 (by decide)) xn0))).trans (hF4.2.1 _ xn0)) ((hF54.2.1 _ (xn1 (xne_k hk9999s hk9999z33 (by decide)) (xn1 (xne_k hk9999s hk9999z34 (by decide)) xn0))).trans (hF4.2.1 _ xn0)) ((hF54.2.1 _ (xn1 (xne_k hk9999t hk9999z33 (by decide)) (xn1 (xne_k hk9999t hk9999z34 (by decide)) xn0))).trans (hF4.2.1 _ xn0)) ((hF54.2.1 _ (xn1 (xne_k hk9999u hk9999z33 (by decide)) (xn1 (xne_k hk9999u hk9999z34 (by decide)) xn0))).trans (hF4.2.1 _ xn0)) ((hF54.2.1 _ (xn1 (xne_k hk9999v hk9999z33 (by decide)) (xn1 (xne_k hk9999v hk9999z34 (by decide)) xn0))).trans (hF4.2.1 _ xn0)) ((hF54.2.1 _ (xn1 (xne_k hk9999f hk9999z33 (by decide)) (xn1 (xne_j hj9999f hj9999z56 (by first | decide | omega)) xn0))).trans (hF4.2.1 _ xn0)) ((hF54.2.1 _ (xn1 (xne_k hk9999g hk9999z33 (by decide)) (xn1 (xne_j hj9999g hj9999z56 (by first | decide | omega)) xn0))).trans (hF4.2.1 _ xn0)) ((hF54.2.1 _ (xn1 (xne_k hk9999h hk9999z33 (by decide)) (xn1 (xne_k hk9999h hk9999z34 (by decide)) xn0))).trans (hF4.2.1 _ xn0)) ((hF54.2.1 _ (xn1 (xne_k hk9999z35 hk9999z33 (by decide)) (xn1 (xne_k hk9999z35 hk9999z34 (by decide)) xn0))).trans (hF4.2.1 _ xn0)) ((hF54.2.1 _ (xn1 (xne_k hk9999z36 hk9999z33 (by decide)) (xn1 (xne_k hk9999z36 hk9999z34 (by decide)) xn0))).trans (hF4.2.1 _ xn0)) ((hF54.2.1 _ (xn1 (xne_k hk9999z37 hk9999z33 (by decide)) (xn1 (xne_k hk9999z37 hk9999z34 (by decide)) xn0))).trans (hF4.2.1 _ xn0)) ((hF54.2.1 _ (xn1 (xne_k hk9999z38 hk9999z33 (by decide)) (xn1 (xne_k hk9999z38 hk9999z34 (by decide)) xn0))).trans (hF4.2.1 _ xn0)) ((hF54.2.1 _ (xn1 (xne_j hj9999z37 hj9999z54 (by first | decide | omega)) (xn1 (xne_k hk9999y hk9999z34 (by decide)) xn0))).trans (hF4.2.1 _ xn0)) ((hF54.2.1 _ (xn1 (xne_k hk9999z25 hk9999z33 (by decide)) (xn1 (xne_j hj9999z39 hj9999z56 (by first | decide | omega)) xn0))).trans (hF4.2.1 _ xn0)) ((hF54.2.1 _ (xn1 (xne_k hk9999z26 hk9999z33 (by decide)) (xn1 (xne_k hk9999z26 hk9999z34 (by decide)) xn0))).trans (hF4.2.1 _ xn0)) ((hF54.2.1 _ (xn1 (xne_k hk9999z27 hk9999z33 (by decide)) (xn1 (xne_k hk9999z27 hk9999z34 (by decide)) xn0))).trans (hF4.2.1 _ xn0)) ((hF54.2.1 _ (xn1 (xne_k hk9999z28 hk9999z33 (by decide)) (xn1 (xne_k hk9999z28 hk9999z34 (by decide)) xn0))).trans (hF4.2.1 _ xn0)) ((hF54.2.1 _ (xn1 (xne_k hk9999z29 hk9999z33 (by decide)) (xn1 (xne_k hk9999z29 hk9999z34 (by decide)) xn0))).trans (hF4.2.1 _ xn0)) ((hF54.2.1 _ (xn1 (xne_k hk9999z30 hk9999z33 (by decide)) (xn1 (xne_k hk9999z30 hk9999z34 (by decide)) xn0))).trans (hF4.2.1 _ xn0)) ((hF54.2.1 _ (xn1 (xne_k hk9999z31 hk9999z33 (by decide)) (xn1 (xne_k hk9999z31 hk9999z34 (by decide)) xn0))).trans (hF4.2.1 _ xn0)) ((hF54.2.1 _ (xn1 (xne_k hk9999i hk9999z33 (by decide)) (xn1 (xne_k hk9999i hk9999z34 (by decide)) xn0))).trans (hF4.2.1 _ xn0)) ((hF54.2.1 _ (xn1 (xne_k hk9999j hk9999z33 (by decide)) (xn1 (xne_k hk9999j hk9999z34 (by decide)) xn0))).trans (hF4.2.1 _ xn0)) ((hF54.2.1 _ (xn1 (xne_k hk9999k hk9999z33 (by decide)) (xn1 (xne_k hk9999k hk9999z34 (by decide)) xn0))).trans (hF4.2.1 _ xn0)) ((hF54.2.1 _ (xn1 (xne_k hk9999l hk9999z33 (by decide)) (xn1 (xne_k hk9999l hk9999z34 (by decide)) xn0))).trans (hF4.2.1 _ xn0)) ((hF54.2.1 _ (xn1 (xne_k hk9999m hk9999z33 (by decide)) (xn1 (xne_k hk9999m hk9999z34 (by decide)) xn0))).trans (hF4.2.1 _ xn0)) ((hF54.2.1 _ (xn1 (xne_k hk9999n hk9999z33 (by decide)) (xn1 (xne_k hk9999n hk9999z34 (by decide)) xn0))).trans (hF4.2.1 _ xn0)) ((hF54.2.1 _ (xn1 (xne_k hk9999p hk9999z33 (by decide)) (xn1 (xne_k hk9999p hk9999z34 (by decide)) xn0))).trans (hF4.2.1 _ xn0)) ((hF54.2.1 _ (xn1 (xne_k hk9999o hk9999z33 (by decide)) (xn1 (xne_k hk9999o hk9999z34 (by decide)) xn0))).trans (hF4.2.1 _ xn0)) ((hF54.2.2 _ xn0).trans (hF4.2.2 _ xn0)) ((hF54.1 _ _ xn0).trans (hF4.1 _ _ (xnj (by decide) xn0))) ((hF54.1 _ _ xn0).trans (hF4.1 _ _ (xnj (by decide) xn0))) ((hF54.1 _ _ xn0).trans (hF4.1 _ _ (xnj (by decide) xn0))) (hF54.1 _ _ xn0) ((hF54.1 _ _ xn0).trans (hF4.1 _ _ (xnj (by decide) xn0))) ((hF54.1 _ _ xn0).trans (hF4.1 _ _ (xnj (by decide) xn0))) ((hF54.1 _ _ xn0).trans (hF4.1 _ _ (xnj (by decide) xn0))) ((hF54.1 _ _ xn0).trans (hF4.1 _ _ (xnj (by decide) xn0))))) mv_X2_cutRow km_X10_214 rfl rfl ⟨Nat.le_of_ble_eq_true rfl, Nat.le_of_ble_eq_true rfl⟩ (rc_4 hK hT hk9999e) hK (fun _ => XP.blind) (fun U hU hW => XP.at hK hz hS hT hU hW) rfl hl.1 (Nat.le_of_ble_eq_true rfl) dX10_cut_71 ⟨Nat.le_of_ble_eq_true rfl, Nat.le_of_ble_eq_true rfl⟩) hS ?_
        rintro G71 H locs ⟨hF71, oq71, oq71a⟩ hT hS
        refine lv_aload_n hx hb dX10_cut_74 rfl (lv_at hl 0 rfl) ?_
        refine x_cl (x_runV (b := a) (As := []) (rest := []) S (c_X10_actAsOnPaper l E K F G71 a ha (by rw [(show (G71.1 (F a 2) 2).toInt = ((G.1 (F a 2) 2).toInt) from (congrArg Int32.toInt ((hF71.1 _ _ (xnj (by decide) xn0)).trans ((hF54.1 _ _ xn0).trans (hF4.1 _ _ (xnj (by decide) xn0))))).trans (rfl : Int32.toInt (G.1 (F a 2) 2) = ((G.1 (F a 2) 2).toInt)))] <;> exact (sb)) (by rw [(show (G71.1 (F a 8) 6).toInt = ((G.1 (F a 8) 6).toInt) from (congrArg Int32.toInt ((hF71.1 _ _ (xnj (by decide) xn0)).trans ((hF54.1 _ _ xn0).trans (hF4.1 _ _ (xnj (by decide) xn0))))).trans (rfl : Int32.toInt (G.1 (F a 8) 6) = ((G.1 (F a 8) 6).toInt)))] <;> exact (sw)) (v_X10_cut_75_8 (F := F) a G G71 G54 ron rob oq54a oq71a ((hF71.2.1 _ (xn1 (xne_k hk9999y hk9999z35 (by decide)) (xn1 (xne_k hk9999y hk9999z36 (by decide)) (xn1 (xne_k hk9999y hk9999z37 (by decide)) (xn1 (xne_k hk9999y hk9999z38 (by decide)) (xn1 (xne_j hj9999z37 hj9999z54 (by first | decide | omega)) (xn1 (xne_k hk9999y hk9999z34 (by decide)) xn0))))))).trans ((hF54.2.1 _ (xn1 (xne_j hj9999z37 hj9999z54 (by first | decide | omega)) (xn1 (xne_k hk9999y hk9999z34 (by decide)) xn0))).trans (hF4.2.1 _ xn0))) ((hF71.2.1 _ (xn1 (xne_k hk9999z25 hk9999z35 (by decide)) (xn1 (xne_k hk9999z25 hk9999z36 (by decide)) (xn1 (xne_k hk9999z25 hk9999z37 (by decide)) (xn1 (xne_k hk9999z25 hk9999z38 (by decide)) (xn1 (xne_k hk9999z25 hk9999z33 (by decide)) (xn1 (xne_j hj9999z39 hj9999z56 (by first | decide | omega)) xn0))))))).trans ((hF54.2.1 _ (xn1 (xne_k hk9999z25 hk9999z33 (by decide)) (xn1 (xne_j hj9999z39 hj9999z56 (by first | decide | omega)) xn0))).trans (hF4.2.1 _ xn0)))) (v_X10_cut_75_9 (F := F) a G71 oq71a) (v_X10_cut_75_10 (F := F) a G G71 G54 ron rob oq54a oq71a ((hF71.2.1 _ (xn1 (xne_k hk9999z43 hk9999z35 (by decide)) (xn1 (xne_k hk9999z43 hk9999z36 (by decide)) (xn1 (xne_k hk9999z43 hk9999z37 (by decide)) (xn1 (xne_k hk9999z43 hk9999z38 (by decide)) (xn1 (xne_j hj9999z66 hj9999z54 (by first | decide | omega)) (xn1 (xne_k hk9999z43 hk9999z34 (by decide)) xn0))))))).trans ((hF54.2.1 _ (xn1 (xne_j hj9999z66 hj9999z54 (by first | decide | omega)) (xn1 (xne_k hk9999z43 hk9999z34 (by decide)) xn0))).trans (hF4.2.1 _ xn0))) ((hF71.2.1 _ (xn1 (xne_k hk9999z44 hk9999z35 (by decide)) (xn1 (xne_k hk9999z44 hk9999z36 (by decide)) (xn1 (xne_k hk9999z44 hk9999z37 (by decide)) (xn1 (xne_k hk9999z44 hk9999z38 (by decide)) (xn1 (xne_k hk9999z44 hk9999z33 (by decide)) (xn1 (xne_j hj9999z68 hj9999z56 (by first | decide | omega)) xn0))))))).trans ((hF54.2.1 _ (xn1 (xne_k hk9999z44 hk9999z33 (by decide)) (xn1 (xne_j hj9999z68 hj9999z56 (by first | decide | omega)) xn0))).trans (hF4.2.1 _ xn0)))) (v_X10_cut_75_11 (K := K) (F := F) a G G71 G4 G54 p0 p1 x8 x15 x33 ha hk9999 hj9999 hk9999a hj9999a hk9999b hj9999b hk9999c hj9999c hk9999d hj9999d hk9999e hj9999e hk9999f hj9999f hk9999g hj9999g hk9999h hj9999h hk9999i hj9999j hk9999j hj9999l hk9999k hj9999n hk9999l hj9999p hk9999m hj9999r hk9999n hj9999t hk9999o hj9999u hk9999p hj9999v hk9999q hj9999y hk9999r hj9999z26 hk9999s hj9999z28 hk9999t hj9999z30 hk9999u hj9999z32 hk9999v hj9999z34 hk9999w hj9999z35 hk9999y hj9999z37 hk9999z25 hj9999z39 hk9999z26 hj9999z41 hk9999z27 hj9999z43 hk9999z28 hj9999z45 hk9999z29 hj9999z47 hk9999z30 hj9999z49 hk9999z31 hj9999z51 hk9999z32 hj9999z52 hk9999z33 hj9999z54 hk9999z34 hj9999z56 hk9999z35 hj9999z57 hk9999z36 hj9999z58 hk9999z37 hj9999z59 hk9999z38 hj9999z60 hk9999z39 hj9999z61 hk9999z40 hj9999z62 hk9999z41 hj9999z63 hk9999z42 hj9999z64 hk9999z43 hj9999z66 hk9999z44 hj9999z68 (XFr.call (XFr.call (XFr.call XFr.rf hF4 (xm1 2 rfl xm0) xm0 xm0) hF54 xm0 (xm1 25 rfl (xm1 26 rfl xm0)) xm0) hF71 (xm1 7 rfl xm0) (xm1 27 rfl (xm1 28 rfl (xm1 29 rfl (xm1 30 rfl (xm1 25 rfl (xm1 26 rfl xm0)))))) xm0) hF4 hF54 hF71 ron rob bko bkn hac oq54 oq54a oq71 oq71a sb sw t4 t8 c11 t15 c18 t33 c36 z57 ((hF71.2.1 _ (xn1 (xne_k hk9999q hk9999z35 (by decide)) (xn1 (xne_k hk9999q hk9999z36 (by decide)) (xn1 (xne_k hk9999q hk9999z37 (by decide)) (xn1 (xne_k hk9999q hk9999z38 (by decide)) (xn1 (xne_k hk9999q hk9999z33 (by decide)) (xn1 (xne_k hk9999q hk9999z34 (by decide)) xn0))))))).trans ((hF54.2.1 _ (xn1 (xne_k hk9999q hk9999z33 (by decide)) (xn1 (xne_k hk9999q hk9999z34 (by decide)) xn0))).trans (hF4.2.1 _ xn0))) ((hF71.2.1 _ (xn1 (xne_k hk9999r hk9999z35 (by decide)) (xn1 (xne_k hk9999r hk9999z36 (by decide)) (xn1 (xne_k hk9999r hk9999z37 (by decide)) (xn1 (xne_k hk9999r hk9999z38 (by decide)) (xn1 (xne_k hk9999r hk9999z33 (by decide)) (xn1 (xne_k hk9999r hk9999z34 (by decide)) xn0))))))).trans ((hF54.2.1 _ (xn1 (xne_k hk9999r hk9999z33 (by decide)) (xn1 (xne_k hk9999r hk9999z34 (by decide)) xn0))).trans (hF4.2.1 _ xn0))) ((hF71.2.1 _ (xn1 (xne_k hk9999s hk9999z35 (by decide)) (xn1 (xne_k hk9999s hk9999z36 (by decide)) (xn1 (xne_k hk9999s hk9999z37 (by decide)) (xn1 (xne_k hk9999s hk9999z38 (by decide)) (xn1 (xne_k hk9999s hk9999z33 (by decide)) (xn1 (xne_k hk9999s hk9999z34 (by decide)) xn0))))))).trans ((hF54.2.1 _ (xn1 (xne_k hk9999s hk9999z33 (by decide)) (xn1 (xne_k hk9999s hk9999z34 (by decide)) xn0))).trans (hF4.2.1 _ xn0))) ((hF71.2.1 _ (xn1 (xne_k hk9999t hk9999z35 (by decide)) (xn1 (xne_k hk9999t hk9999z36 (by decide)) (xn1 (xne_k hk9999t hk9999z37 (by decide)) (xn1 (xne_k hk9999t hk9999z38 (by decide)) (xn1 (xne_k hk9999t hk9999z33 (by decide)) (xn1 (xne_k hk9999t hk9999z34 (by decide)) xn0))))))).trans ((hF54.2.1 _ (xn1 (xne_k hk9999t hk9999z33 (by decide)) (xn1 (xne_k hk9999t hk9999z34 (by decide)) xn0))).trans (hF4.2.1 _ xn0))) ((hF71.2.1 _ (xn1 (xne_k hk9999u hk9999z35 (by decide)) (xn1 (xne_k hk9999u hk9999z36 (by decide)) (xn1 (xne_k hk9999u hk9999z37 (by decide)) (xn1 (xne_k hk9999u hk9999z38 (by decide)) (xn1 (xne_k hk9999u hk9999z33 (by decide)) (xn1 (xne_k hk9999u hk9999z34 (by decide)) xn0))))))).trans ((hF54.2.1 _ (xn1 (xne_k hk9999u hk9999z33 (by decide)) (xn1 (xne_k hk9999u hk9999z34 (by decide)) xn0))).trans (hF4.2.1 _ xn0))) ((hF71.2.1 _ (xn1 (xne_k hk9999v hk9999z35 (by decide)) (xn1 (xne_k hk9999v hk9999z36 (by decide)) (xn1 (xne_k hk9999v hk9999z37 (by decide)) (xn1 (xne_k hk9999v hk9999z38 (by decide)) (xn1 (xne_k hk9999v hk9999z33 (by decide)) (xn1 (xne_k hk9999v hk9999z34 (by decide)) xn0))))))).trans ((hF54.2.1 _ (xn1 (xne_k hk9999v hk9999z33 (by decide)) (xn1 (xne_k hk9999v hk9999z34 (by decide)) xn0))).trans (hF4.2.1 _ xn0))) ((hF71.2.1 _ (xn1 (xne_k hk9999f hk9999z35 (by decide)) (xn1 (xne_k hk9999f hk9999z36 (by decide)) (xn1 (xne_k hk9999f hk9999z37 (by decide)) (xn1 (xne_k hk9999f hk9999z38 (by decide)) (xn1 (xne_k hk9999f hk9999z33 (by decide)) (xn1 (xne_j hj9999f hj9999z56 (by first | decide | omega)) xn0))))))).trans ((hF54.2.1 _ (xn1 (xne_k hk9999f hk9999z33 (by decide)) (xn1 (xne_j hj9999f hj9999z56 (by first | decide | omega)) xn0))).trans (hF4.2.1 _ xn0))) ((hF71.2.1 _ (xn1 (xne_k hk9999g hk9999z35 (by decide)) (xn1 (xne_k hk9999g hk9999z36 (by decide)) (xn1 (xne_k hk9999g hk9999z37 (by decide)) (xn1 (xne_k hk9999g hk9999z38 (by decide)) (xn1 (xne_k hk9999g hk9999z33 (by decide)) (xn1 (xne_j hj9999g hj9999z56 (by first | decide | omega)) xn0))))))).trans ((hF54.2.1 _ (xn1 (xne_k hk9999g hk9999z33 (by decide)) (xn1 (xne_j hj9999g hj9999z56 (by first | decide | omega)) xn0))).trans (hF4.2.1 _ xn0))) ((hF71.2.1 _ (xn1 (xne_j hj9999h hj9999z57 (by first | decide | omega)) (xn1 (xne_j hj9999h hj9999z58 (by first | decide | omega)) (xn1 (xne_j hj9999h hj9999z59 (by first | decide | omega)) (xn1 (xne_j hj9999h hj9999z60 (by first | decide | omega)) (xn1 (xne_k hk9999h hk9999z33 (by decide)) (xn1 (xne_k hk9999h hk9999z34 (by decide)) xn0))))))).trans ((hF54.2.1 _ (xn1 (xne_k hk9999h hk9999z33 (by decide)) (xn1 (xne_k hk9999h hk9999z34 (by decide)) xn0))).trans (hF4.2.1 _ xn0))) ((hF71.2.1 _ (xn1 (xne_k hk9999y hk9999z35 (by decide)) (xn1 (xne_k hk9999y hk9999z36 (by decide)) (xn1 (xne_k hk9999y hk9999z37 (by decide)) (xn1 (xne_k hk9999y hk9999z38 (by decide)) (xn1 (xne_j hj9999z37 hj9999z54 (by first | decide | omega)) (xn1 (xne_k hk9999y hk9999z34 (by decide)) xn0))))))).trans ((hF54.2.1 _ (xn1 (xne_j hj9999z37 hj9999z54 (by first | decide | omega)) (xn1 (xne_k hk9999y hk9999z34 (by decide)) xn0))).trans (hF4.2.1 _ xn0))) ((hF71.2.1 _ (xn1 (xne_k hk9999z25 hk9999z35 (by decide)) (xn1 (xne_k hk9999z25 hk9999z36 (by decide)) (xn1 (xne_k hk9999z25 hk9999z37 (by decide)) (xn1 (xne_k hk9999z25 hk9999z38 (by decide)) (xn1 (xne_k hk9999z25 hk9999z33 (by decide)) (xn1 (xne_j hj9999z39 hj9999z56 (by first | decide | omega)) xn0))))))).trans ((hF54.2.1 _ (xn1 (xne_k hk9999z25 hk9999z33 (by decide)) (xn1 (xne_j hj9999z39 hj9999z56 (by first | decide | omega)) xn0))).trans (hF4.2.1 _ xn0))) ((hF71.2.1 _ (xn1 (xne_k hk9999z26 hk9999z35 (by decide)) (xn1 (xne_k hk9999z26 hk9999z36 (by decide)) (xn1 (xne_k hk9999z26 hk9999z37 (by decide)) (xn1 (xne_k hk9999z26 hk9999z38 (by decide)) (xn1 (xne_k hk9999z26 hk9999z33 (by decide)) (xn1 (xne_k hk9999z26 hk9999z34 (by decide)) xn0))))))).trans ((hF54.2.1 _ (xn1 (xne_k hk9999z26 hk9999z33 (by decide)) (xn1 (xne_k hk9999z26 hk9999z34 (by decide)) xn0))).trans (hF4.2.1 _ xn0))) ((hF71.2.1 _ (xn1 (xne_k hk9999z27 hk9999z35 (by decide)) (xn1 (xne_k hk9999z27 hk9999z36 (by decide)) (xn1 (xne_k hk9999z27 hk9999z37 (by decide)) (xn1 (xne_k hk9999z27 hk9999z38 (by decide)) (xn1 (xne_k hk9999z27 hk9999z33 (by decide)) (xn1 (xne_k hk9999z27 hk9999z34 (by decide)) xn0))))))).trans ((hF54.2.1 _ (xn1 (xne_k hk9999z27 hk9999z33 (by decide)) (xn1 (xne_k hk9999z27 hk9999z34 (by decide)) xn0))).trans (hF4.2.1 _ xn0))) ((hF71.2.1 _ (xn1 (xne_k hk9999z28 hk9999z35 (by decide)) (xn1 (xne_k hk9999z28 hk9999z36 (by decide)) (xn1 (xne_k hk9999z28 hk9999z37 (by decide)) (xn1 (xne_k hk9999z28 hk9999z38 (by decide)) (xn1 (xne_k hk9999z28 hk9999z33 (by decide)) (xn1 (xne_k hk9999z28 hk9999z34 (by decide)) xn0))))))).trans ((hF54.2.1 _ (xn1 (xne_k hk9999z28 hk9999z33 (by decide)) (xn1 (xne_k hk9999z28 hk9999z34 (by decide)) xn0))).trans (hF4.2.1 _ xn0))) ((hF71.2.1 _ (xn1 (xne_k hk9999z29 hk9999z35 (by decide)) (xn1 (xne_k hk9999z29 hk9999z36 (by decide)) (xn1 (xne_k hk9999z29 hk9999z37 (by decide)) (xn1 (xne_k hk9999z29 hk9999z38 (by decide)) (xn1 (xne_k hk9999z29 hk9999z33 (by decide)) (xn1 (xne_k hk9999z29 hk9999z34 (by decide)) xn0))))))).trans ((hF54.2.1 _ (xn1 (xne_k hk9999z29 hk9999z33 (by decide)) (xn1 (xne_k hk9999z29 hk9999z34 (by decide)) xn0))).trans (hF4.2.1 _ xn0))) ((hF71.2.1 _ (xn1 (xne_k hk9999z30 hk9999z35 (by decide)) (xn1 (xne_k hk9999z30 hk9999z36 (by decide)) (xn1 (xne_k hk9999z30 hk9999z37 (by decide)) (xn1 (xne_k hk9999z30 hk9999z38 (by decide)) (xn1 (xne_k hk9999z30 hk9999z33 (by decide)) (xn1 (xne_k hk9999z30 hk9999z34 (by decide)) xn0))))))).trans ((hF54.2.1 _ (xn1 (xne_k hk9999z30 hk9999z33 (by decide)) (xn1 (xne_k hk9999z30 hk9999z34 (by decide)) xn0))).trans (hF4.2.1 _ xn0))) ((hF71.2.1 _ (xn1 (xne_k hk9999z31 hk9999z35 (by decide)) (xn1 (xne_k hk9999z31 hk9999z36 (by decide)) (xn1 (xne_k hk9999z31 hk9999z37 (by decide)) (xn1 (xne_k hk9999z31 hk9999z38 (by decide)) (xn1 (xne_k hk9999z31 hk9999z33 (by decide)) (xn1 (xne_k hk9999z31 hk9999z34 (by decide)) xn0))))))).trans ((hF54.2.1 _ (xn1 (xne_k hk9999z31 hk9999z33 (by decide)) (xn1 (xne_k hk9999z31 hk9999z34 (by decide)) xn0))).trans (hF4.2.1 _ xn0))) ((hF71.2.1 _ (xn1 (xne_k hk9999i hk9999z35 (by decide)) (xn1 (xne_k hk9999i hk9999z36 (by decide)) (xn1 (xne_k hk9999i hk9999z37 (by decide)) (xn1 (xne_k hk9999i hk9999z38 (by decide)) (xn1 (xne_k hk9999i hk9999z33 (by decide)) (xn1 (xne_k hk9999i hk9999z34 (by decide)) xn0))))))).trans ((hF54.2.1 _ (xn1 (xne_k hk9999i hk9999z33 (by decide)) (xn1 (xne_k hk9999i hk9999z34 (by decide)) xn0))).trans (hF4.2.1 _ xn0))) ((hF71.2.1 _ (xn1 (xne_k hk9999j hk9999z35 (by decide)) (xn1 (xne_k hk9999j hk9999z36 (by decide)) (xn1 (xne_k hk9999j hk9999z37 (by decide)) (xn1 (xne_k hk9999j hk9999z38 (by decide)) (xn1 (xne_k hk9999j hk9999z33 (by decide)) (xn1 (xne_k hk9999j hk9999z34 (by decide)) xn0))))))).trans ((hF54.2.1 _ (xn1 (xne_k hk9999j hk9999z33 (by decide)) (xn1 (xne_k hk9999j hk9999z34 (by decide)) xn0))).trans (hF4.2.1 _ xn0))) ((hF71.2.1 _ (xn1 (xne_k hk9999k hk9999z35 (by decide)) (xn1 (xne_k hk9999k hk9999z36 (by decide)) (xn1 (xne_k hk9999k hk9999z37 (by decide)) (xn1 (xne_k hk9999k hk9999z38 (by decide)) (xn1 (xne_k hk9999k hk9999z33 (by decide)) (xn1 (xne_k hk9999k hk9999z34 (by decide)) xn0))))))).trans ((hF54.2.1 _ (xn1 (xne_k hk9999k hk9999z33 (by decide)) (xn1 (xne_k hk9999k hk9999z34 (by decide)) xn0))).trans (hF4.2.1 _ xn0))) ((hF71.2.1 _ (xn1 (xne_k hk9999l hk9999z35 (by decide)) (xn1 (xne_k hk9999l hk9999z36 (by decide)) (xn1 (xne_k hk9999l hk9999z37 (by decide)) (xn1 (xne_k hk9999l hk9999z38 (by decide)) (xn1 (xne_k hk9999l hk9999z33 (by decide)) (xn1 (xne_k hk9999l hk9999z34 (by decide)) xn0))))))).trans ((hF54.2.1 _ (xn1 (xne_k hk9999l hk9999z33 (by decide)) (xn1 (xne_k hk9999l hk9999z34 (by decide)) xn0))).trans (hF4.2.1 _ xn0))) ((hF71.2.1 _ (xn1 (xne_k hk9999m hk9999z35 (by decide)) (xn1 (xne_k hk9999m hk9999z36 (by decide)) (xn1 (xne_k hk9999m hk9999z37 (by decide)) (xn1 (xne_k hk9999m hk9999z38 (by decide)) (xn1 (xne_k hk9999m hk9999z33 (by decide)) (xn1 (xne_k hk9999m hk9999z34 (by decide)) xn0))))))).trans ((hF54.2.1 _ (xn1 (xne_k hk9999m hk9999z33 (by decide)) (xn1 (xne_k hk9999m hk9999z34 (by decide)) xn0))).trans (hF4.2.1 _ xn0))) ((hF71.2.1 _ (xn1 (xne_k hk9999n hk9999z35 (by decide)) (xn1 (xne_k hk9999n hk9999z36 (by decide)) (xn1 (xne_k hk9999n hk9999z37 (by decide)) (xn1 (xne_k hk9999n hk9999z38 (by decide)) (xn1 (xne_k hk9999n hk9999z33 (by decide)) (xn1 (xne_k hk9999n hk9999z34 (by decide)) xn0))))))).trans ((hF54.2.1 _ (xn1 (xne_k hk9999n hk9999z33 (by decide)) (xn1 (xne_k hk9999n hk9999z34 (by decide)) xn0))).trans (hF4.2.1 _ xn0))) ((hF71.2.1 _ (xn1 (xne_k hk9999p hk9999z35 (by decide)) (xn1 (xne_k hk9999p hk9999z36 (by decide)) (xn1 (xne_k hk9999p hk9999z37 (by decide)) (xn1 (xne_k hk9999p hk9999z38 (by decide)) (xn1 (xne_k hk9999p hk9999z33 (by decide)) (xn1 (xne_k hk9999p hk9999z34 (by decide)) xn0))))))).trans ((hF54.2.1 _ (xn1 (xne_k hk9999p hk9999z33 (by decide)) (xn1 (xne_k hk9999p hk9999z34 (by decide)) xn0))).trans (hF4.2.1 _ xn0))) ((hF71.2.1 _ (xn1 (xne_k hk9999o hk9999z35 (by decide)) (xn1 (xne_k hk9999o hk9999z36 (by decide)) (xn1 (xne_k hk9999o hk9999z37 (by decide)) (xn1 (xne_k hk9999o hk9999z38 (by decide)) (xn1 (xne_k hk9999o hk9999z33 (by decide)) (xn1 (xne_k hk9999o hk9999z34 (by decide)) xn0))))))).trans ((hF54.2.1 _ (xn1 (xne_k hk9999o hk9999z33 (by decide)) (xn1 (xne_k hk9999o hk9999z34 (by decide)) xn0))).trans (hF4.2.1 _ xn0))) ((hF54.2.2 _ xn0).trans (hF4.2.2 _ xn0)) ((hF71.2.2 _ xn0).trans ((hF54.2.2 _ xn0).trans (hF4.2.2 _ xn0))) ((hF71.2.2 _ xn0).trans ((hF54.2.2 _ xn0).trans (hF4.2.2 _ xn0))) ((hF71.1 _ _ (xnj (by decide) xn0)).trans ((hF54.1 _ _ xn0).trans (hF4.1 _ _ (xnj (by decide) xn0)))) ((hF71.1 _ _ (xnj (by decide) xn0)).trans ((hF54.1 _ _ xn0).trans (hF4.1 _ _ (xnj (by decide) xn0)))) ((hF71.1 _ _ (xnj (by decide) xn0)).trans (hF54.1 _ _ xn0)) ((hF71.1 _ _ (xnj (by decide) xn0)).trans ((hF54.1 _ _ xn0).trans (hF4.1 _ _ (xnj (by decide) xn0)))) ((hF71.1 _ _ (xnj (by decide) xn0)).trans ((hF54.1 _ _ xn0).trans (hF4.1 _ _ (xnj (by decide) xn0)))) ((hF71.1 _ _ (xnj (by decide) xn0)).trans ((hF54.1 _ _ xn0).trans (hF4.1 _ _ (xnj (by decide) xn0)))) ((hF71.1 _ _ (xnj (by decide) xn0)).trans ((hF54.1 _ _ xn0).trans (hF4.1 _ _ (xnj (by decide) xn0))))) (v_X10_cut_75_12 (K := K) (F := F) a G G71 G4 G54 p0 p1 x8 x15 x33 ha hk9999 hj9999 hk9999a hj9999a hk9999b hj9999b hk9999c hj9999c hk9999d hj9999d hk9999e hj9999e hk9999f hj9999f hk9999g hj9999g hk9999h hj9999h hk9999i hj9999j hk9999j hj9999l hk9999k hj9999n hk9999l hj9999p hk9999m hj9999r hk9999n hj9999t hk9999o hj9999u hk9999p hj9999v hk9999q hj9999y hk9999r hj9999z26 hk9999s hj9999z28 hk9999t hj9999z30 hk9999u hj9999z32 hk9999v hj9999z34 hk9999w hj9999z35 hk9999y hj9999z37 hk9999z25 hj9999z39 hk9999z26 hj9999z41 hk9999z27 hj9999z43 hk9999z28 hj9999z45 hk9999z29 hj9999z47 hk9999z30 hj9999z49 hk9999z31 hj9999z51 hk9999z32 hj9999z52 hk9999z33 hj9999z54 hk9999z34 hj9999z56 hk9999z35 hj9999z57 hk9999z36 hj9999z58 hk9999z37 hj9999z59 hk9999z38 hj9999z60 hk9999z39 hj9999z61 hk9999z40 hj9999z62 hk9999z41 hj9999z63 hk9999z42 hj9999z64 hk9999z43 hj9999z66 hk9999z44 hj9999z68 (XFr.call (XFr.call (XFr.call XFr.rf hF4 (xm1 2 rfl xm0) xm0 xm0) hF54 xm0 (xm1 25 rfl (xm1 26 rfl xm0)) xm0) hF71 (xm1 7 rfl xm0) (xm1 27 rfl (xm1 28 rfl (xm1 29 rfl (xm1 30 rfl (xm1 25 rfl (xm1 26 rfl xm0)))))) xm0) hF4 hF54 hF71 ron rob bko bkn hac oq54 oq54a oq71 oq71a sb sw t4 t8 c11 t15 c18 t33 c36 z57 ((hF71.2.1 _ (xn1 (xne_k hk9999q hk9999z35 (by decide)) (xn1 (xne_k hk9999q hk9999z36 (by decide)) (xn1 (xne_k hk9999q hk9999z37 (by decide)) (xn1 (xne_k hk9999q hk9999z38 (by decide)) (xn1 (xne_k hk9999q hk9999z33 (by decide)) (xn1 (xne_k hk9999q hk9999z34 (by decide)) xn0))))))).trans ((hF54.2.1 _ (xn1 (xne_k hk9999q hk9999z33 (by decide)) (xn1 (xne_k hk9999q hk9999z34 (by decide)) xn0))).trans (hF4.2.1 _ xn0))) ((hF71.2.1 _ (xn1 (xne_k hk9999r hk9999z35 (by decide)) (xn1 (xne_k hk9999r hk9999z36 (by decide)) (xn1 (xne_k hk9999r hk9999z37 (by decide)) (xn1 (xne_k hk9999r hk9999z38 (by decide)) (xn1 (xne_k hk9999r hk9999z33 (by decide)) (xn1 (xne_k hk9999r hk9999z34 (by decide)) xn0))))))).trans ((hF54.2.1 _ (xn1 (xne_k hk9999r hk9999z33 (by decide)) (xn1 (xne_k hk9999r hk9999z34 (by decide)) xn0))).trans (hF4.2.1 _ xn0))) ((hF71.2.1 _ (xn1 (xne_k hk9999s hk9999z35 (by decide)) (xn1 (xne_k hk9999s hk9999z36 (by decide)) (xn1 (xne_k hk9999s hk9999z37 (by decide)) (xn1 (xne_k hk9999s hk9999z38 (by decide)) (xn1 (xne_k hk9999s hk9999z33 (by decide)) (xn1 (xne_k hk9999s hk9999z34 (by decide)) xn0))))))).trans ((hF54.2.1 _ (xn1 (xne_k hk9999s hk9999z33 (by decide)) (xn1 (xne_k hk9999s hk9999z34 (by decide)) xn0))).trans (hF4.2.1 _ xn0))) ((hF71.2.1 _ (xn1 (xne_k hk9999t hk9999z35 (by decide)) (xn1 (xne_k hk9999t hk9999z36 (by decide)) (xn1 (xne_k hk9999t hk9999z37 (by decide)) (xn1 (xne_k hk9999t hk9999z38 (by decide)) (xn1 (xne_k hk9999t hk9999z33 (by decide)) (xn1 (xne_k hk9999t hk9999z34 (by decide)) xn0))))))).trans ((hF54.2.1 _ (xn1 (xne_k hk9999t hk9999z33 (by decide)) (xn1 (xne_k hk9999t hk9999z34 (by decide)) xn0))).trans (hF4.2.1 _ xn0))) ((hF71.2.1 _ (xn1 (xne_k hk9999u hk9999z35 (by decide)) (xn1 (xne_k hk9999u hk9999z36 (by decide)) (xn1 (xne_k hk9999u hk9999z37 (by decide)) (xn1 (xne_k hk9999u hk9999z38 (by decide)) (xn1 (xne_k hk9999u hk9999z33 (by decide)) (xn1 (xne_k hk9999u hk9999z34 (by decide)) xn0))))))).trans ((hF54.2.1 _ (xn1 (xne_k hk9999u hk9999z33 (by decide)) (xn1 (xne_k hk9999u hk9999z34 (by decide)) xn0))).trans (hF4.2.1 _ xn0))) ((hF71.2.1 _ (xn1 (xne_k hk9999v hk9999z35 (by decide)) (xn1 (xne_k hk9999v hk9999z36 (by decide)) (xn1 (xne_k hk9999v hk9999z37 (by decide)) (xn1 (xne_k hk9999v hk9999z38 (by decide)) (xn1 (xne_k hk9999v hk9999z33 (by decide)) (xn1 (xne_k hk9999v hk9999z34 (by decide)) xn0))))))).trans ((hF54.2.1 _ (xn1 (xne_k hk9999v hk9999z33 (by decide)) (xn1 (xne_k hk9999v hk9999z34 (by decide)) xn0))).trans (hF4.2.1 _ xn0))) ((hF71.2.1 _ (xn1 (xne_k hk9999f hk9999z35 (by decide)) (xn1 (xne_k hk9999f hk9999z36 (by decide)) (xn1 (xne_k hk9999f hk9999z37 (by decide)) (xn1 (xne_k hk9999f hk9999z38 (by decide)) (xn1 (xne_k hk9999f hk9999z33 (by decide)) (xn1 (xne_j hj9999f hj9999z56 (by first | decide | omega)) xn0))))))).trans ((hF54.2.1 _ (xn1 (xne_k hk9999f hk9999z33 (by decide)) (xn1 (xne_j hj9999f hj9999z56 (by first | decide | omega)) xn0))).trans (hF4.2.1 _ xn0))) ((hF71.2.1 _ (xn1 (xne_k hk9999g hk9999z35 (by decide)) (xn1 (xne_k hk9999g hk9999z36 (by decide)) (xn1 (xne_k hk9999g hk9999z37 (by decide)) (xn1 (xne_k hk9999g hk9999z38 (by decide)) (xn1 (xne_k hk9999g hk9999z33 (by decide)) (xn1 (xne_j hj9999g hj9999z56 (by first | decide | omega)) xn0))))))).trans ((hF54.2.1 _ (xn1 (xne_k hk9999g hk9999z33 (by decide)) (xn1 (xne_j hj9999g hj9999z56 (by first | decide | omega)) xn0))).trans (hF4.2.1 _ xn0))) ((hF71.2.1 _ (xn1 (xne_j hj9999h hj9999z57 (by first | decide | omega)) (xn1 (xne_j hj9999h hj9999z58 (by first | decide | omega)) (xn1 (xne_j hj9999h hj9999z59 (by first | decide | omega)) (xn1 (xne_j hj9999h hj9999z60 (by first | decide | omega)) (xn1 (xne_k hk9999h hk9999z33 (by decide)) (xn1 (xne_k hk9999h hk9999z34 (by decide)) xn0))))))).trans ((hF54.2.1 _ (xn1 (xne_k hk9999h hk9999z33 (by decide)) (xn1 (xne_k hk9999h hk9999z34 (by decide)) xn0))).trans (hF4.2.1 _ xn0))) ((hF71.2.1 _ (xn1 (xne_k hk9999y hk9999z35 (by decide)) (xn1 (xne_k hk9999y hk9999z36 (by decide)) (xn1 (xne_k hk9999y hk9999z37 (by decide)) (xn1 (xne_k hk9999y hk9999z38 (by decide)) (xn1 (xne_j hj9999z37 hj9999z54 (by first | decide | omega)) (xn1 (xne_k hk9999y hk9999z34 (by decide)) xn0))))))).trans ((hF54.2.1 _ (xn1 (xne_j hj9999z37 hj9999z54 (by first | decide | omega)) (xn1 (xne_k hk9999y hk9999z34 (by decide)) xn0))).trans (hF4.2.1 _ xn0))) ((hF71.2.1 _ (xn1 (xne_k hk9999z25 hk9999z35 (by decide)) (xn1 (xne_k hk9999z25 hk9999z36 (by decide)) (xn1 (xne_k hk9999z25 hk9999z37 (by decide)) (xn1 (xne_k hk9999z25 hk9999z38 (by decide)) (xn1 (xne_k hk9999z25 hk9999z33 (by decide)) (xn1 (xne_j hj9999z39 hj9999z56 (by first | decide | omega)) xn0))))))).trans ((hF54.2.1 _ (xn1 (xne_k hk9999z25 hk9999z33 (by decide)) (xn1 (xne_j hj9999z39 hj9999z56 (by first | decide | omega)) xn0))).trans (hF4.2.1 _ xn0))) ((hF71.2.1 _ (xn1 (xne_k hk9999z26 hk9999z35 (by decide)) (xn1 (xne_k hk9999z26 hk9999z36 (by decide)) (xn1 (xne_k hk9999z26 hk9999z37 (by decide)) (xn1 (xne_k hk9999z26 hk9999z38 (by decide)) (xn1 (xne_k hk9999z26 hk9999z33 (by decide)) (xn1 (xne_k hk9999z26 hk9999z34 (by decide)) xn0))))))).trans ((hF54.2.1 _ (xn1 (xne_k hk9999z26 hk9999z33 (by decide)) (xn1 (xne_k hk9999z26 hk9999z34 (by decide)) xn0))).trans (hF4.2.1 _ xn0))) ((hF71.2.1 _ (xn1 (xne_k hk9999z27 hk9999z35 (by decide)) (xn1 (xne_k hk9999z27 hk9999z36 (by decide)) (xn1 (xne_k hk9999z27 hk9999z37 (by decide)) (xn1 (xne_k hk9999z27 hk9999z38 (by decide)) (xn1 (xne_k hk9999z27 hk9999z33 (by decide)) (xn1 (xne_k hk9999z27 hk9999z34 (by decide)) xn0))))))).trans ((hF54.2.1 _ (xn1 (xne_k hk9999z27 hk9999z33 (by decide)) (xn1 (xne_k hk9999z27 hk9999z34 (by decide)) xn0))).trans (hF4.2.1 _ xn0))) ((hF71.2.1 _ (xn1 (xne_k hk9999z28 hk9999z35 (by decide)) (xn1 (xne_k hk9999z28 hk9999z36 (by decide)) (xn1 (xne_k hk9999z28 hk9999z37 (by decide)) (xn1 (xne_k hk9999z28 hk9999z38 (by decide)) (xn1 (xne_k hk9999z28 hk9999z33 (by decide)) (xn1 (xne_k hk9999z28 hk9999z34 (by decide)) xn0))))))).trans ((hF54.2.1 _ (xn1 (xne_k hk9999z28 hk9999z33 (by decide)) (xn1 (xne_k hk9999z28 hk9999z34 (by decide)) xn0))).trans (hF4.2.1 _ xn0))) ((hF71.2.1 _ (xn1 (xne_k hk9999z29 hk9999z35 (by decide)) (xn1 (xne_k hk9999z29 hk9999z36 (by decide)) (xn1 (xne_k hk9999z29 hk9999z37 (by decide)) (xn1 (xne_k hk9999z29 hk9999z38 (by decide)) (xn1 (xne_k hk9999z29 hk9999z33 (by decide)) (xn1 (xne_k hk9999z29 hk9999z34 (by decide)) xn0))))))).trans ((hF54.2.1 _ (xn1 (xne_k hk9999z29 hk9999z33 (by decide)) (xn1 (xne_k hk9999z29 hk9999z34 (by decide)) xn0))).trans (hF4.2.1 _ xn0))) ((hF71.2.1 _ (xn1 (xne_k hk9999z30 hk9999z35 (by decide)) (xn1 (xne_k hk9999z30 hk9999z36 (by decide)) (xn1 (xne_k hk9999z30 hk9999z37 (by decide)) (xn1 (xne_k hk9999z30 hk9999z38 (by decide)) (xn1 (xne_k hk9999z30 hk9999z33 (by decide)) (xn1 (xne_k hk9999z30 hk9999z34 (by decide)) xn0))))))).trans ((hF54.2.1 _ (xn1 (xne_k hk9999z30 hk9999z33 (by decide)) (xn1 (xne_k hk9999z30 hk9999z34 (by decide)) xn0))).trans (hF4.2.1 _ xn0))) ((hF71.2.1 _ (xn1 (xne_k hk9999z31 hk9999z35 (by decide)) (xn1 (xne_k hk9999z31 hk9999z36 (by decide)) (xn1 (xne_k hk9999z31 hk9999z37 (by decide)) (xn1 (xne_k hk9999z31 hk9999z38 (by decide)) (xn1 (xne_k hk9999z31 hk9999z33 (by decide)) (xn1 (xne_k hk9999z31 hk9999z34 (by decide)) xn0))))))).trans ((hF54.2.1 _ (xn1 (xne_k hk9999z31 hk9999z33 (by decide)) (xn1 (xne_k hk9999z31 hk9999z34 (by decide)) xn0))).trans (hF4.2.1 _ xn0))) ((hF71.2.1 _ (xn1 (xne_k hk9999i hk9999z35 (by decide)) (xn1 (xne_k hk9999i hk9999z36 (by decide)) (xn1 (xne_k hk9999i hk9999z37 (by decide)) (xn1 (xne_k hk9999i hk9999z38 (by decide)) (xn1 (xne_k hk9999i hk9999z33 (by decide)) (xn1 (xne_k hk9999i hk9999z34 (by decide)) xn0))))))).trans ((hF54.2.1 _ (xn1 (xne_k hk9999i hk9999z33 (by decide)) (xn1 (xne_k hk9999i hk9999z34 (by decide)) xn0))).trans (hF4.2.1 _ xn0))) ((hF71.2.1 _ (xn1 (xne_k hk9999j hk9999z35 (by decide)) (xn1 (xne_k hk9999j hk9999z36 (by decide)) (xn1 (xne_k hk9999j hk9999z37 (by decide)) (xn1 (xne_k hk9999j hk9999z38 (by decide)) (xn1 (xne_k hk9999j hk9999z33 (by decide)) (xn1 (xne_k hk9999j hk9999z34 (by decide)) xn0))))))).trans ((hF54.2.1 _ (xn1 (xne_k hk9999j hk9999z33 (by decide)) (xn1 (xne_k hk9999j hk9999z34 (by decide)) xn0))).trans (hF4.2.1 _ xn0))) ((hF71.2.1 _ (xn1 (xne_k hk9999k hk9999z35 (by decide)) (xn1 (xne_k hk9999k hk9999z36 (by decide)) (xn1 (xne_k hk9999k hk9999z37 (by decide)) (xn1 (xne_k hk9999k hk9999z38 (by decide)) (xn1 (xne_k hk9999k hk9999z33 (by decide)) (xn1 (xne_k hk9999k hk9999z34 (by decide)) xn0))))))).trans ((hF54.2.1 _ (xn1 (xne_k hk9999k hk9999z33 (by decide)) (xn1 (xne_k hk9999k hk9999z34 (by decide)) xn0))).trans (hF4.2.1 _ xn0))) ((hF71.2.1 _ (xn1 (xne_k hk9999l hk9999z35 (by decide)) (xn1 (xne_k hk9999l hk9999z36 (by decide)) (xn1 (xne_k hk9999l hk9999z37 (by decide)) (xn1 (xne_k hk9999l hk9999z38 (by decide)) (xn1 (xne_k hk9999l hk9999z33 (by decide)) (xn1 (xne_k hk9999l hk9999z34 (by decide)) xn0))))))).trans ((hF54.2.1 _ (xn1 (xne_k hk9999l hk9999z33 (by decide)) (xn1 (xne_k hk9999l hk9999z34 (by decide)) xn0))).trans (hF4.2.1 _ xn0))) ((hF71.2.1 _ (xn1 (xne_k hk9999m hk9999z35 (by decide)) (xn1 (xne_k hk9999m hk9999z36 (by decide)) (xn1 (xne_k hk9999m hk9999z37 (by decide)) (xn1 (xne_k hk9999m hk9999z38 (by decide)) (xn1 (xne_k hk9999m hk9999z33 (by decide)) (xn1 (xne_k hk9999m hk9999z34 (by decide)) xn0))))))).trans ((hF54.2.1 _ (xn1 (xne_k hk9999m hk9999z33 (by decide)) (xn1 (xne_k hk9999m hk9999z34 (by decide)) xn0))).trans (hF4.2.1 _ xn0))) ((hF71.2.1 _ (xn1 (xne_k hk9999n hk9999z35 (by decide)) (xn1 (xne_k hk9999n hk9999z36 (by decide)) (xn1 (xne_k hk9999n hk9999z37 (by decide)) (xn1 (xne_k hk9999n hk9999z38 (by decide)) (xn1 (xne_k hk9999n hk9999z33 (by decide)) (xn1 (xne_k hk9999n hk9999z34 (by decide)) xn0))))))).trans ((hF54.2.1 _ (xn1 (xne_k hk9999n hk9999z33 (by decide)) (xn1 (xne_k hk9999n hk9999z34 (by decide)) xn0))).trans (hF4.2.1 _ xn0))) ((hF71.2.1 _ (xn1 (xne_k hk9999p hk9999z35 (by decide)) (xn1 (xne_k hk9999p hk9999z36 (by decide)) (xn1 (xne_k hk9999p hk9999z37 (by decide)) (xn1 (xne_k hk9999p hk9999z38 (by decide)) (xn1 (xne_k hk9999p hk9999z33 (by decide)) (xn1 (xne_k hk9999p hk9999z34 (by decide)) xn0))))))).trans ((hF54.2.1 _ (xn1 (xne_k hk9999p hk9999z33 (by decide)) (xn1 (xne_k hk9999p hk9999z34 (by decide)) xn0))).trans (hF4.2.1 _ xn0))) ((hF71.2.1 _ (xn1 (xne_k hk9999o hk9999z35 (by decide)) (xn1 (xne_k hk9999o hk9999z36 (by decide)) (xn1 (xne_k hk9999o hk9999z37 (by decide)) (xn1 (xne_k hk9999o hk9999z38 (by decide)) (xn1 (xne_k hk9999o hk9999z33 (by decide)) (xn1 (xne_k hk9999o hk9999z34 (by decide)) xn0))))))).trans ((hF54.2.1 _ (xn1 (xne_k hk9999o hk9999z33 (by decide)) (xn1 (xne_k hk9999o hk9999z34 (by decide)) xn0))).trans (hF4.2.1 _ xn0))) ((hF54.2.2 _ xn0).trans (hF4.2.2 _ xn0)) ((hF71.2.2 _ xn0).trans ((hF54.2.2 _ xn0).trans (hF4.2.2 _ xn0))) ((hF71.2.2 _ xn0).trans ((hF54.2.2 _ xn0).trans (hF4.2.2 _ xn0))) ((hF71.1 _ _ (xnj (by decide) xn0)).trans ((hF54.1 _ _ xn0).trans (hF4.1 _ _ (xnj (by decide) xn0)))) ((hF71.1 _ _ (xnj (by decide) xn0)).trans ((hF54.1 _ _ xn0).trans (hF4.1 _ _ (xnj (by decide) xn0)))) ((hF71.1 _ _ (xnj (by decide) xn0)).trans (hF54.1 _ _ xn0)) ((hF71.1 _ _ (xnj (by decide) xn0)).trans ((hF54.1 _ _ xn0).trans (hF4.1 _ _ (xnj (by decide) xn0)))) ((hF71.1 _ _ (xnj (by decide) xn0)).trans ((hF54.1 _ _ xn0).trans (hF4.1 _ _ (xnj (by decide) xn0)))) ((hF71.1 _ _ (xnj (by decide) xn0)).trans ((hF54.1 _ _ xn0).trans (hF4.1 _ _ (xnj (by decide) xn0)))) ((hF71.1 _ _ (xnj (by decide) xn0)).trans ((hF54.1 _ _ xn0).trans (hF4.1 _ _ (xnj (by decide) xn0)))))) mv_X10_actAsOnPaper km_X10_207 rfl rfl ⟨Nat.le_of_ble_eq_true rfl, Nat.le_of_ble_eq_true rfl⟩ (rc_12 hK hT ha) hK (fun _ => XP.blind) (fun U hU hW => XP.at hK hz hS hT hU hW) rfl hl.1 (Nat.le_of_ble_eq_true rfl) dX10_cut_75 ⟨Nat.le_of_ble_eq_true rfl, Nat.le_of_ble_eq_true rfl⟩) hS ?_
        rintro _ G75 H locs ⟨x75, rfl, hF75, t75, oq75, oq75a⟩ hT hS
        have t75 : 0 ≤ ((G75.1 (F a 8) 6).toInt) ∧ ((G75.1 (F a 8) 6).toInt) ≤ 1080 := t75
        have oq75 : ActR ((G.1 a 18).toInt) x75.toInt (gaL G71 (G71.2.2.1 (F (F a 2) 1)) (vw (G.2.1 (F (F a 3) 0))) (vw (G71.2.1 (F (F a 5) 0))) 0 (((G.1 (F a 2) 2).toInt)).toNat) (vw (G.2.1 (F (F a 3) 0))) (vw (G75.2.1 (F (F a 3) 0))) (vw (G71.2.1 (F (F a 5) 0))) (qL G71 F (F a 8)) (qL G75 F (F a 8)) (gaL G71 (G71.2.2.1 (F (F a 2) 1)) (vw (G.2.1 (F (F a 4) 0))) (vw (G71.2.1 (F (F a 5) 0))) 1 (((G.1 (F a 2) 2).toInt)).toNat) := by simp only [(show G71.1 a 18 = G.1 a 18 from ((hF71.1 _ _ (xnj (by decide) xn0)).trans ((hF54.1 _ _ xn0).trans (hF4.1 _ _ (xnj (by decide) xn0))))), (show G71.2.1 (F (F a 3) 0) = G.2.1 (F (F a 3) 0) from ((hF71.2.1 _ (xn1 (xne_k hk9999y hk9999z35 (by decide)) (xn1 (xne_k hk9999y hk9999z36 (by decide)) (xn1 (xne_k hk9999y hk9999z37 (by decide)) (xn1 (xne_k hk9999y hk9999z38 (by decide)) (xn1 (xne_j hj9999z37 hj9999z54 (by first | decide | omega)) (xn1 (xne_k hk9999y hk9999z34 (by decide)) xn0))))))).trans ((hF54.2.1 _ (xn1 (xne_j hj9999z37 hj9999z54 (by first | decide | omega)) (xn1 (xne_k hk9999y hk9999z34 (by decide)) xn0))).trans (hF4.2.1 _ xn0)))), (show G71.1 (F a 2) 2 = G.1 (F a 2) 2 from ((hF71.1 _ _ (xnj (by decide) xn0)).trans ((hF54.1 _ _ xn0).trans (hF4.1 _ _ (xnj (by decide) xn0))))), (show G71.2.1 (F (F a 4) 0) = G.2.1 (F (F a 4) 0) from ((hF71.2.1 _ (xn1 (xne_k hk9999z43 hk9999z35 (by decide)) (xn1 (xne_k hk9999z43 hk9999z36 (by decide)) (xn1 (xne_k hk9999z43 hk9999z37 (by decide)) (xn1 (xne_k hk9999z43 hk9999z38 (by decide)) (xn1 (xne_j hj9999z66 hj9999z54 (by first | decide | omega)) (xn1 (xne_k hk9999z43 hk9999z34 (by decide)) xn0))))))).trans ((hF54.2.1 _ (xn1 (xne_j hj9999z66 hj9999z54 (by first | decide | omega)) (xn1 (xne_k hk9999z43 hk9999z34 (by decide)) xn0))).trans (hF4.2.1 _ xn0))))] at oq75; exact oq75
        exact x_ri hx hb hr hlk hQ (Nat.le_of_ble_eq_true rfl) (Nat.le_of_ble_eq_true rfl) hS dX10_cut_78 G75 ⟨_, rfl, (XFr.call (XFr.call (XFr.call (XFr.call XFr.rf hF4 (xm1 2 rfl xm0) xm0 xm0) hF54 xm0 (xm1 25 rfl (xm1 26 rfl xm0)) xm0) hF71 (xm1 7 rfl xm0) (xm1 27 rfl (xm1 28 rfl (xm1 29 rfl (xm1 30 rfl (xm1 25 rfl (xm1 26 rfl xm0)))))) xm0) hF75 (xm1 0 rfl (xm1 1 rfl (xm1 2 rfl (xm1 3 rfl (xm1 4 rfl (xm1 5 rfl (xm1 6 rfl xm0))))))) (xm1 0 rfl (xm1 1 rfl (xm1 2 rfl (xm1 3 rfl (xm1 4 rfl (xm1 5 rfl (xm1 6 rfl (xm1 7 rfl (xm1 8 rfl (xm1 9 rfl (xm1 10 rfl (xm1 11 rfl (xm1 12 rfl (xm1 13 rfl (xm1 14 rfl (xm1 15 rfl (xm1 16 rfl (xm1 17 rfl (xm1 18 rfl (xm1 19 rfl (xm1 20 rfl (xm1 21 rfl (xm1 22 rfl (xm1 23 rfl (xm1 24 rfl xm0))))))))))))))))))))))))) xm0), (t75), (v_X10_cut_78_13 (K := K) (F := F) a G G75 G4 G54 G71 p0 p1 x75 x8 x15 x33 ha hk9999 hj9999 hk9999a hj9999a hk9999b hj9999b hk9999c hj9999c hk9999d hj9999d hk9999e hj9999e hk9999f hj9999f hk9999g hj9999g hk9999h hj9999h hk9999i hj9999j hk9999j hj9999l hk9999k hj9999n hk9999l hj9999p hk9999m hj9999r hk9999n hj9999t hk9999o hj9999u hk9999p hj9999v hk9999q hj9999y hk9999r hj9999z26 hk9999s hj9999z28 hk9999t hj9999z30 hk9999u hj9999z32 hk9999v hj9999z34 hk9999w hj9999z35 hk9999y hj9999z37 hk9999z25 hj9999z39 hk9999z26 hj9999z41 hk9999z27 hj9999z43 hk9999z28 hj9999z45 hk9999z29 hj9999z47 hk9999z30 hj9999z49 hk9999z31 hj9999z51 hk9999z32 hj9999z52 hk9999z33 hj9999z54 hk9999z34 hj9999z56 hk9999z35 hj9999z57 hk9999z36 hj9999z58 hk9999z37 hj9999z59 hk9999z38 hj9999z60 hk9999z39 hj9999z61 hk9999z40 hj9999z62 hk9999z41 hj9999z63 hk9999z42 hj9999z64 hk9999z43 hj9999z66 hk9999z44 hj9999z68 (XFr.call (XFr.call (XFr.call (XFr.call XFr.rf hF4 (xm1 2 rfl xm0) xm0 xm0) hF54 xm0 (xm1 25 rfl (xm1 26 rfl xm0)) xm0) hF71 (xm1 7 rfl xm0) (xm1 27 rfl (xm1 28 rfl (xm1 29 rfl (xm1 30 rfl (xm1 25 rfl (xm1 26 rfl xm0)))))) xm0) hF75 (xm1 0 rfl (xm1 1 rfl (xm1 2 rfl (xm1 3 rfl (xm1 4 rfl (xm1 5 rfl (xm1 6 rfl xm0))))))) (xm1 0 rfl (xm1 1 rfl (xm1 2 rfl (xm1 3 rfl (xm1 4 rfl (xm1 5 rfl (xm1 6 rfl (xm1 7 rfl (xm1 8 rfl (xm1 9 rfl (xm1 10 rfl (xm1 11 rfl (xm1 12 rfl (xm1 13 rfl (xm1 14 rfl (xm1 15 rfl (xm1 16 rfl (xm1 17 rfl (xm1 18 rfl (xm1 19 rfl (xm1 20 rfl (xm1 21 rfl (xm1 22 rfl (xm1 23 rfl (xm1 24 rfl xm0))))))))))))))))))))))))) xm0) hF71 hF75 bko bkn oq54 oq71 oq75 sb sw t4 t8 c11 t15 c18 t33 c36 z57 t75 ((hF71.2.1 _ (xn1 (xne_k hk9999z26 hk9999z35 (by decide)) (xn1 (xne_k hk9999z26 hk9999z36 (by decide)) (xn1 (xne_k hk9999z26 hk9999z37 (by decide)) (xn1 (xne_k hk9999z26 hk9999z38 (by decide)) (xn1 (xne_k hk9999z26 hk9999z33 (by decide)) (xn1 (xne_k hk9999z26 hk9999z34 (by decide)) xn0))))))).trans ((hF54.2.1 _ (xn1 (xne_k hk9999z26 hk9999z33 (by decide)) (xn1 (xne_k hk9999z26 hk9999z34 (by decide)) xn0))).trans (hF4.2.1 _ xn0))) ((hF71.2.1 _ (xn1 (xne_k hk9999z27 hk9999z35 (by decide)) (xn1 (xne_k hk9999z27 hk9999z36 (by decide)) (xn1 (xne_k hk9999z27 hk9999z37 (by decide)) (xn1 (xne_k hk9999z27 hk9999z38 (by decide)) (xn1 (xne_k hk9999z27 hk9999z33 (by decide)) (xn1 (xne_k hk9999z27 hk9999z34 (by decide)) xn0))))))).trans ((hF54.2.1 _ (xn1 (xne_k hk9999z27 hk9999z33 (by decide)) (xn1 (xne_k hk9999z27 hk9999z34 (by decide)) xn0))).trans (hF4.2.1 _ xn0))) ((hF71.2.1 _ (xn1 (xne_k hk9999z28 hk9999z35 (by decide)) (xn1 (xne_k hk9999z28 hk9999z36 (by decide)) (xn1 (xne_k hk9999z28 hk9999z37 (by decide)) (xn1 (xne_k hk9999z28 hk9999z38 (by decide)) (xn1 (xne_k hk9999z28 hk9999z33 (by decide)) (xn1 (xne_k hk9999z28 hk9999z34 (by decide)) xn0))))))).trans ((hF54.2.1 _ (xn1 (xne_k hk9999z28 hk9999z33 (by decide)) (xn1 (xne_k hk9999z28 hk9999z34 (by decide)) xn0))).trans (hF4.2.1 _ xn0))) ((hF71.2.1 _ (xn1 (xne_k hk9999z29 hk9999z35 (by decide)) (xn1 (xne_k hk9999z29 hk9999z36 (by decide)) (xn1 (xne_k hk9999z29 hk9999z37 (by decide)) (xn1 (xne_k hk9999z29 hk9999z38 (by decide)) (xn1 (xne_k hk9999z29 hk9999z33 (by decide)) (xn1 (xne_k hk9999z29 hk9999z34 (by decide)) xn0))))))).trans ((hF54.2.1 _ (xn1 (xne_k hk9999z29 hk9999z33 (by decide)) (xn1 (xne_k hk9999z29 hk9999z34 (by decide)) xn0))).trans (hF4.2.1 _ xn0))) ((hF71.2.1 _ (xn1 (xne_k hk9999z30 hk9999z35 (by decide)) (xn1 (xne_k hk9999z30 hk9999z36 (by decide)) (xn1 (xne_k hk9999z30 hk9999z37 (by decide)) (xn1 (xne_k hk9999z30 hk9999z38 (by decide)) (xn1 (xne_k hk9999z30 hk9999z33 (by decide)) (xn1 (xne_k hk9999z30 hk9999z34 (by decide)) xn0))))))).trans ((hF54.2.1 _ (xn1 (xne_k hk9999z30 hk9999z33 (by decide)) (xn1 (xne_k hk9999z30 hk9999z34 (by decide)) xn0))).trans (hF4.2.1 _ xn0))) ((hF71.2.1 _ (xn1 (xne_k hk9999z31 hk9999z35 (by decide)) (xn1 (xne_k hk9999z31 hk9999z36 (by decide)) (xn1 (xne_k hk9999z31 hk9999z37 (by decide)) (xn1 (xne_k hk9999z31 hk9999z38 (by decide)) (xn1 (xne_k hk9999z31 hk9999z33 (by decide)) (xn1 (xne_k hk9999z31 hk9999z34 (by decide)) xn0))))))).trans ((hF54.2.1 _ (xn1 (xne_k hk9999z31 hk9999z33 (by decide)) (xn1 (xne_k hk9999z31 hk9999z34 (by decide)) xn0))).trans (hF4.2.1 _ xn0))) ((hF54.2.2 _ xn0).trans (hF4.2.2 _ xn0)) ((hF71.2.2 _ xn0).trans ((hF54.2.2 _ xn0).trans (hF4.2.2 _ xn0))) ((hF71.1 _ _ (xnj (by decide) xn0)).trans ((hF54.1 _ _ xn0).trans (hF4.1 _ _ (xnj (by decide) xn0))))), (v_X10_cut_78_14 (F := F) a G75 oq75a)⟩ hT
      · refine lv_aload_n hx hb dX10_cut_39 rfl (lv_at hl 0 rfl) ?_
        refine lv_bipush (v := (-2)) hx hb dX10_cut_40 (by decide) ?_
        refine x_cl0 (x_runV (b := a) (As := [.int (-2)]) (rest := []) S (c_X10_refuseAct l E K F G4 a (-2) ha) mv_X10_refuseAct km_X10_188 rfl rfl ⟨Nat.le_of_ble_eq_true rfl, Nat.le_of_ble_eq_true rfl⟩ (rc_12 hK hT ha) hK (fun _ => XP.blind) (fun U hU hW => XP.at hK hz hS hT hU hW) rfl hl.1 (Nat.le_of_ble_eq_true rfl) dX10_cut_42 ⟨Nat.le_of_ble_eq_true rfl, Nat.le_of_ble_eq_true rfl⟩) hS ?_
        rintro _ G42 H locs ⟨x42, rfl, hF42, t42⟩ hT hS
        have t42 : x42.toInt = (-2 : Int) := by rw [((by decide) : Int32.toInt (-2) = (-2 : Int))] at t42; exact t42
        exact x_ri hx hb hr hlk hQ (Nat.le_of_ble_eq_true rfl) (Nat.le_of_ble_eq_true rfl) hS dX10_cut_45 G42 ⟨_, rfl, (XFr.call (XFr.call XFr.rf hF4 (xm1 2 rfl xm0) xm0 xm0) hF42 xm0 (xm1 10 rfl xm0) xm0), (by rw [(show (G42.1 (F a 8) 6).toInt = ((G.1 (F a 8) 6).toInt) from (congrArg Int32.toInt ((hF42.1 _ _ xn0).trans (hF4.1 _ _ (xnj (by decide) xn0)))).trans (rfl : Int32.toInt (G.1 (F a 8) 6) = ((G.1 (F a 8) 6).toInt)))] <;> exact (sw)), (by rw [(t42 : Int32.toInt x42 = (-2 : Int))] <;> exact (v_X10_cut_45_15 (K := K) (F := F) a G G42 G4 x8 p0 x15 p1 x33 ha sb sw t4 t8 c11 t15 c18 t33 c36 ((hF42.2.1 _ (xn1 (xne_k hk9999y hk9999p (by decide)) xn0)).trans (hF4.2.1 _ xn0)) ((hF42.2.1 _ (xn1 (xne_k hk9999z26 hk9999p (by decide)) xn0)).trans (hF4.2.1 _ xn0)) ((hF42.2.1 _ (xn1 (xne_k hk9999z27 hk9999p (by decide)) xn0)).trans (hF4.2.1 _ xn0)) ((hF42.2.1 _ (xn1 (xne_k hk9999z28 hk9999p (by decide)) xn0)).trans (hF4.2.1 _ xn0)) ((hF42.2.1 _ (xn1 (xne_k hk9999z29 hk9999p (by decide)) xn0)).trans (hF4.2.1 _ xn0)) ((hF42.2.1 _ (xn1 (xne_k hk9999z30 hk9999p (by decide)) xn0)).trans (hF4.2.1 _ xn0)) ((hF42.2.1 _ (xn1 (xne_k hk9999z31 hk9999p (by decide)) xn0)).trans (hF4.2.1 _ xn0)) ((hF42.1 _ _ xn0).trans (hF4.1 _ _ (xnj (by decide) xn0))))), (v_X10_cut_45_16 (F := F) a G G42 ron ((hF42.2.1 _ (xn1 (xne_k hk9999y hk9999p (by decide)) xn0)).trans (hF4.2.1 _ xn0)) ((hF42.2.1 _ (xn1 (xne_k hk9999z25 hk9999p (by decide)) xn0)).trans (hF4.2.1 _ xn0)))⟩ hT
    · refine lv_aload_n hx hb dX10_cut_21 rfl (lv_at hl 0 rfl) ?_
      refine lv_iconst (v := (-1)) hx hb dX10_cut_22 (by decide) ?_
      refine x_cl0 (x_runV (b := a) (As := [.int (-1)]) (rest := []) S (c_X10_refuseAct l E K F G4 a (-1) ha) mv_X10_refuseAct km_X10_188 rfl rfl ⟨Nat.le_of_ble_eq_true rfl, Nat.le_of_ble_eq_true rfl⟩ (rc_12 hK hT ha) hK (fun _ => XP.blind) (fun U hU hW => XP.at hK hz hS hT hU hW) rfl hl.1 (Nat.le_of_ble_eq_true rfl) dX10_cut_23 ⟨Nat.le_of_ble_eq_true rfl, Nat.le_of_ble_eq_true rfl⟩) hS ?_
      rintro _ G23 H locs ⟨x23, rfl, hF23, t23⟩ hT hS
      have t23 : x23.toInt = (-1 : Int) := by rw [((by decide) : Int32.toInt (-1) = (-1 : Int))] at t23; exact t23
      exact x_ri hx hb hr hlk hQ (Nat.le_of_ble_eq_true rfl) (Nat.le_of_ble_eq_true rfl) hS dX10_cut_26 G23 ⟨_, rfl, (XFr.call (XFr.call XFr.rf hF4 (xm1 2 rfl xm0) xm0 xm0) hF23 xm0 (xm1 10 rfl xm0) xm0), (by rw [(show (G23.1 (F a 8) 6).toInt = ((G.1 (F a 8) 6).toInt) from (congrArg Int32.toInt ((hF23.1 _ _ xn0).trans (hF4.1 _ _ (xnj (by decide) xn0)))).trans (rfl : Int32.toInt (G.1 (F a 8) 6) = ((G.1 (F a 8) 6).toInt)))] <;> exact (sw)), (by rw [(t23 : Int32.toInt x23 = (-1 : Int))] <;> exact (v_X10_cut_26_17 (K := K) (F := F) a G G23 G4 x8 p0 x15 p1 ha sb sw t4 t8 c11 t15 c18 ((hF23.2.1 _ (xn1 (xne_k hk9999y hk9999p (by decide)) xn0)).trans (hF4.2.1 _ xn0)) ((hF23.2.1 _ (xn1 (xne_k hk9999z26 hk9999p (by decide)) xn0)).trans (hF4.2.1 _ xn0)) ((hF23.2.1 _ (xn1 (xne_k hk9999z27 hk9999p (by decide)) xn0)).trans (hF4.2.1 _ xn0)) ((hF23.2.1 _ (xn1 (xne_k hk9999z28 hk9999p (by decide)) xn0)).trans (hF4.2.1 _ xn0)) ((hF23.2.1 _ (xn1 (xne_k hk9999z29 hk9999p (by decide)) xn0)).trans (hF4.2.1 _ xn0)) ((hF23.2.1 _ (xn1 (xne_k hk9999z30 hk9999p (by decide)) xn0)).trans (hF4.2.1 _ xn0)) ((hF23.2.1 _ (xn1 (xne_k hk9999z31 hk9999p (by decide)) xn0)).trans (hF4.2.1 _ xn0)) ((hF23.1 _ _ xn0).trans (hF4.1 _ _ (xnj (by decide) xn0))))), (v_X10_cut_26_18 (F := F) a G G23 ron ((hF23.2.1 _ (xn1 (xne_k hk9999y hk9999p (by decide)) xn0)).trans (hF4.2.1 _ xn0)) ((hF23.2.1 _ (xn1 (xne_k hk9999z25 hk9999p (by decide)) xn0)).trans (hF4.2.1 _ xn0)))⟩ hT

theorem z_X10_rekey_3 (a0 : Int) (a1 : Int) (a2 : Int) (a3 : Int) (a4 : Int) (a5 : Int) (a6 : Int) (a7 : Int) (a8 : Int) (a9 : Int) (h0 : (a7 = 1 ∧ 0 ≤ a0 ∧ a0 < 3) ∨ (a7 = 0 ∧ (a0 < 0 ∨ 3 ≤ a0))) (h1 : ¬ (a7 = 0)) (h2 : (a3 = 1 ∧ 0 ≤ a1 ∧ a1 < 30) ∨ (a3 = 0 ∧ (a1 < 0 ∨ 30 ≤ a1))) (h3 : ¬ (a3 = 0)) (h4 : (a4 = 1 ∧ 0 ≤ a2 ∧ a2 < 30) ∨ (a4 = 0 ∧ (a2 < 0 ∨ 30 ≤ a2))) (h5 : a4 ≠ 0) (h6 : (a5 = 1 ∧ a8 ≠ -2000) ∨ (a5 = 0 ∧ a8 = -2000)) (h7 : a5 ≠ 0) (h8 : (a6 = 1 ∧ a9 ≠ -2000) ∨ (a6 = 0 ∧ a9 = -2000)) (h9 : a6 = 0) (h10 : a1 = a2 → a8 = a9) : 0 ≤ a0 ∧ a0 < 3 ∧ 0 ≤ a1 ∧ a1 < 30 ∧ 0 ≤ a2 ∧ a2 < 30 ∧ a1 ≠ a2 := by omega
abbrev rm_X10_rekey : Room := { frames := 10, cells := 15, slots := 1500, locals := 236 }
set_option maxHeartbeats 4000000 in
set_option maxRecDepth 100000 in
theorem c_X10_rekey (l : Launch) (E : XE) (K : Nat → Nat) (F : Nat → Nat → Nat) (G : XG) (a : Nat) (p0 : Int32) (p1 : Int32) (p2 : Int32) (ha : K a = 12) (sb : 0 ≤ ((G.1 (F a 2) 2).toInt) ∧ ((G.1 (F a 2) 2).toInt) ≤ 12) (sw : 0 ≤ ((G.1 (F a 8) 6).toInt) ∧ ((G.1 (F a 8) 6).toInt) ≤ 1080) (ron : RO (vw (G.2.1 (F (F a 3) 0))) (aI (G.2.1 (F (F a 3) 1)))) (rob : RO (vw (G.2.1 (F (F a 4) 0))) (aI (G.2.1 (F (F a 4) 1)))) (bko : BKr K G (G.2.2.1 (F (F a 2) 1))) (bkn : BKr K G (G.2.2.1 (F (F a 2) 0))) (hac : ACo G (G.2.2.1 (F (F a 2) 0))) : Met l yX10_rekey (xw yX10_rekey cX10_rekey 4 (some .int)) rm_X10_rekey (va_Pc [.ref a, .int p0, .int p1, .int p2] (XP E K F G)) (XQ E (fun v (u : XG) => ∃ r : Int32, v = .int r ∧ XFr [(F a 11, 3), (F a 9, 6), (F a 14, 1), (F a 14, 2), (F a 14, 3), (F a 10, 6), (F a 8, 6)] [F (F a 11) 0, F (F a 11) 1, F (F a 11) 2, F (F a 9) 0, F (F a 9) 1, F (F a 9) 2, F (F a 9) 3, F (F a 9) 4, F (F a 9) 5, F a 16, F a 15, F (F a 10) 0, F (F a 10) 1, F (F a 10) 2, F (F a 10) 3, F (F a 10) 4, F (F a 10) 5, F (F a 3) 0, F (F a 3) 1, F (F a 8) 0, F (F a 8) 1, F (F a 8) 2, F (F a 8) 3, F (F a 8) 4, F (F a 8) 5, F (F a 5) 0, F (F a 5) 1] [] G u ∧ (0 ≤ ((u.1 (F a 8) 6).toInt) ∧ ((u.1 (F a 8) 6).toInt) ≤ 1080) ∧ ((r.toInt = -1 ∧ ¬ ((0 ≤ p0.toInt ∧ p0.toInt < 3) ∧ (0 ≤ p1.toInt ∧ p1.toInt < 30) ∧ (0 ≤ p2.toInt ∧ p2.toInt < 30)) ∧ ((vw (u.2.1 (F (F a 3) 0))) = (vw (G.2.1 (F (F a 3) 0))) ∧ qL u F (F a 8) = qL G F (F a 8))) ∨ (((0 ≤ p0.toInt ∧ p0.toInt < 3) ∧ (0 ≤ p1.toInt ∧ p1.toInt < 30) ∧ (0 ≤ p2.toInt ∧ p2.toInt < 30)) ∧ r.toInt = -2 ∧ cel (vw (G.2.1 (F (F a 3) 0))) p0.toInt p1.toInt 0 = -2000 ∧ ((vw (u.2.1 (F (F a 3) 0))) = (vw (G.2.1 (F (F a 3) 0))) ∧ qL u F (F a 8) = qL G F (F a 8))) ∨ (((0 ≤ p0.toInt ∧ p0.toInt < 3) ∧ (0 ≤ p1.toInt ∧ p1.toInt < 30) ∧ (0 ≤ p2.toInt ∧ p2.toInt < 30)) ∧ cel (vw (G.2.1 (F (F a 3) 0))) p0.toInt p1.toInt 0 ≠ -2000 ∧ r.toInt = -4 ∧ cel (vw (G.2.1 (F (F a 3) 0))) p0.toInt p2.toInt 0 ≠ -2000 ∧ ((vw (u.2.1 (F (F a 3) 0))) = (vw (G.2.1 (F (F a 3) 0))) ∧ qL u F (F a 8) = qL G F (F a 8))) ∨ (((0 ≤ p0.toInt ∧ p0.toInt < 3) ∧ (0 ≤ p1.toInt ∧ p1.toInt < 30) ∧ (0 ≤ p2.toInt ∧ p2.toInt < 30)) ∧ cel (vw (G.2.1 (F (F a 3) 0))) p0.toInt p1.toInt 0 ≠ -2000 ∧ cel (vw (G.2.1 (F (F a 3) 0))) p0.toInt p2.toInt 0 = -2000 ∧ ActR ((G.1 a 18).toInt) r.toInt (gaL G (G.2.2.1 (F (F a 2) 1)) (vw (G.2.1 (F (F a 3) 0))) (mvR (clsA G (G.2.2.1 (F (F a 2) 0))) (clsT G (G.2.2.1 (F (F a 2) 0))) (clsC G (G.2.2.1 (F (F a 2) 0))) p0.toInt p1.toInt p2.toInt (rmv (vw (G.2.1 (F (F a 3) 0))) p0.toInt p1.toInt p2.toInt) 12) 0 (((G.1 (F a 2) 2).toInt)).toNat) (vw (G.2.1 (F (F a 3) 0))) (vw (u.2.1 (F (F a 3) 0))) (mvR (clsA G (G.2.2.1 (F (F a 2) 0))) (clsT G (G.2.2.1 (F (F a 2) 0))) (clsC G (G.2.2.1 (F (F a 2) 0))) p0.toInt p1.toInt p2.toInt (rmv (vw (G.2.1 (F (F a 3) 0))) p0.toInt p1.toInt p2.toInt) 12) (qL G F (F a 8)) (qL u F (F a 8)) (gaL G (G.2.2.1 (F (F a 2) 1)) (vw (G.2.1 (F (F a 4) 0))) (mvR (clsA G (G.2.2.1 (F (F a 2) 0))) (clsT G (G.2.2.1 (F (F a 2) 0))) (clsC G (G.2.2.1 (F (F a 2) 0))) p0.toInt p1.toInt p2.toInt (rmv (vw (G.2.1 (F (F a 3) 0))) p0.toInt p1.toInt p2.toInt) 12) 1 (((G.1 (F a 2) 2).toInt)).toNat))) ∧ (RO (vw (u.2.1 (F (F a 3) 0))) (aI (u.2.1 (F (F a 3) 1))))) (fun u H => TW E K F u H)) 15 1500 (xA E) := by
  refine x_enter (by decide) (Nat.le_of_ble_eq_true rfl) ?_
  intro p e s m args below meth c Q S hr hlk hnm hQ hP ls hl
  obtain ⟨hz, hK, hT⟩ := hP
  obtain ⟨hx, hb, -, -, -⟩ := id S
  obtain ⟨H, hT, hS, hgo⟩ : ∃ H : Heap, TW E K F G H ∧ va_S (xA E) s.heap H [] ∧ H = s.heap := ⟨_, hT, va_S.rf, rfl⟩
  rw [← hgo]
  have hl : lv_has ls 4 [(0, .ref a), (1, .int p0), (2, .int p1), (3, .int p2)] := hl
  obtain ⟨hk9999, hj9999⟩ := fkX10_11 hT ha
  obtain ⟨hk9999a, hj9999a⟩ := fkX10_9 hT ha
  obtain ⟨hk9999b, hj9999b⟩ := fkX10_14 hT ha
  obtain ⟨hk9999c, hj9999c⟩ := fkX10_10 hT ha
  obtain ⟨hk9999d, hj9999d⟩ := fkX10_8 hT ha
  obtain ⟨hk9999e, hj9999e⟩ := fkX1_0 hT hk9999
  obtain ⟨hk9999f, hj9999f⟩ := fkX1_1 hT hk9999
  obtain ⟨hk9999g, hj9999g⟩ := fkX1_2 hT hk9999
  obtain ⟨hk9999h, hj9999h⟩ := fkX4_0 hT hk9999a
  have hj9999i : F (F (F a 9) 0) 99 = 10 * 1 + 0 := by rw [hj9999h, hj9999a]
  obtain ⟨hk9999i, hj9999j⟩ := fkX4_1 hT hk9999a
  have hj9999k : F (F (F a 9) 1) 99 = 10 * 1 + 1 := by rw [hj9999j, hj9999a]
  obtain ⟨hk9999j, hj9999l⟩ := fkX4_2 hT hk9999a
  have hj9999m : F (F (F a 9) 2) 99 = 10 * 1 + 2 := by rw [hj9999l, hj9999a]
  obtain ⟨hk9999k, hj9999n⟩ := fkX4_3 hT hk9999a
  have hj9999o : F (F (F a 9) 3) 99 = 10 * 1 + 3 := by rw [hj9999n, hj9999a]
  obtain ⟨hk9999l, hj9999p⟩ := fkX4_4 hT hk9999a
  have hj9999q : F (F (F a 9) 4) 99 = 10 * 1 + 4 := by rw [hj9999p, hj9999a]
  obtain ⟨hk9999m, hj9999r⟩ := fkX4_5 hT hk9999a
  have hj9999s : F (F (F a 9) 5) 99 = 10 * 1 + 5 := by rw [hj9999r, hj9999a]
  obtain ⟨hk9999n, hj9999t⟩ := fkX10_16 hT ha
  obtain ⟨hk9999o, hj9999u⟩ := fkX10_15 hT ha
  obtain ⟨hk9999p, hj9999v⟩ := fkX4_0 hT hk9999c
  have hj9999w : F (F (F a 10) 0) 99 = 10 * 2 + 0 := by rw [hj9999v, hj9999c]
  obtain ⟨hk9999q, hj9999y⟩ := fkX4_1 hT hk9999c
  have hj9999z25 : F (F (F a 10) 1) 99 = 10 * 2 + 1 := by rw [hj9999y, hj9999c]
  obtain ⟨hk9999r, hj9999z26⟩ := fkX4_2 hT hk9999c
  have hj9999z27 : F (F (F a 10) 2) 99 = 10 * 2 + 2 := by rw [hj9999z26, hj9999c]
  obtain ⟨hk9999s, hj9999z28⟩ := fkX4_3 hT hk9999c
  have hj9999z29 : F (F (F a 10) 3) 99 = 10 * 2 + 3 := by rw [hj9999z28, hj9999c]
  obtain ⟨hk9999t, hj9999z30⟩ := fkX4_4 hT hk9999c
  have hj9999z31 : F (F (F a 10) 4) 99 = 10 * 2 + 4 := by rw [hj9999z30, hj9999c]
  obtain ⟨hk9999u, hj9999z32⟩ := fkX4_5 hT hk9999c
  have hj9999z33 : F (F (F a 10) 5) 99 = 10 * 2 + 5 := by rw [hj9999z32, hj9999c]
  obtain ⟨hk9999v, hj9999z34⟩ := fkX10_3 hT ha
  obtain ⟨hk9999w, hj9999z35⟩ := fkX6_0 hT hk9999v
  have hj9999z36 : F (F (F a 3) 0) 99 = 0 := by rw [hj9999z35, hj9999z34]
  obtain ⟨hk9999y, hj9999z37⟩ := fkX6_1 hT hk9999v
  have hj9999z38 : F (F (F a 3) 1) 99 = 0 := by rw [hj9999z37, hj9999z34]
  obtain ⟨hk9999z25, hj9999z39⟩ := fkX4_0 hT hk9999d
  have hj9999z40 : F (F (F a 8) 0) 99 = 10 * 0 + 0 := by rw [hj9999z39, hj9999d]
  obtain ⟨hk9999z26, hj9999z41⟩ := fkX4_1 hT hk9999d
  have hj9999z42 : F (F (F a 8) 1) 99 = 10 * 0 + 1 := by rw [hj9999z41, hj9999d]
  obtain ⟨hk9999z27, hj9999z43⟩ := fkX4_2 hT hk9999d
  have hj9999z44 : F (F (F a 8) 2) 99 = 10 * 0 + 2 := by rw [hj9999z43, hj9999d]
  obtain ⟨hk9999z28, hj9999z45⟩ := fkX4_3 hT hk9999d
  have hj9999z46 : F (F (F a 8) 3) 99 = 10 * 0 + 3 := by rw [hj9999z45, hj9999d]
  obtain ⟨hk9999z29, hj9999z47⟩ := fkX4_4 hT hk9999d
  have hj9999z48 : F (F (F a 8) 4) 99 = 10 * 0 + 4 := by rw [hj9999z47, hj9999d]
  obtain ⟨hk9999z30, hj9999z49⟩ := fkX4_5 hT hk9999d
  have hj9999z50 : F (F (F a 8) 5) 99 = 10 * 0 + 5 := by rw [hj9999z49, hj9999d]
  obtain ⟨hk9999z31, hj9999z51⟩ := fkX10_5 hT ha
  obtain ⟨hk9999z32, hj9999z52⟩ := fkX6_0 hT hk9999z31
  have hj9999z53 : F (F (F a 5) 0) 99 = 2 := by rw [hj9999z52, hj9999z51]
  obtain ⟨hk9999z33, hj9999z54⟩ := fkX6_1 hT hk9999z31
  have hj9999z55 : F (F (F a 5) 1) 99 = 2 := by rw [hj9999z54, hj9999z51]
  obtain ⟨hk9999z34, hj9999z56⟩ := fkX10_2 hT ha
  obtain ⟨hk9999z35, hj9999z57⟩ := fkX0_1 hT hk9999z34
  obtain ⟨hk9999z36, hj9999z58⟩ := fkX0_0 hT hk9999z34
  obtain ⟨hk9999z37, hj9999z59⟩ := fkX10_4 hT ha
  obtain ⟨hk9999z38, hj9999z60⟩ := fkX6_0 hT hk9999z37
  have hj9999z61 : F (F (F a 4) 0) 99 = 1 := by rw [hj9999z60, hj9999z59]
  obtain ⟨hk9999z39, hj9999z62⟩ := fkX6_1 hT hk9999z37
  have hj9999z63 : F (F (F a 4) 1) 99 = 1 := by rw [hj9999z62, hj9999z59]
  refine lv_aload_n hx hb dX10_rekey_0 rfl (lv_at hl 0 rfl) ?_
  refine gX10_14 S hK hT ha kf_X10_91 dX10_rekey_1 (fun _ _ => ?_)
  refine x_cv (x_runV (b := (F a 14)) (As := []) (rest := []) S (c_X9_clear l E K F G (F a 14) hk9999b) mv_X9_clear km_X10_113 rfl rfl ⟨Nat.le_of_ble_eq_true rfl, Nat.le_of_ble_eq_true rfl⟩ (rc_11 hK hT hk9999b) hK (fun _ => XP.blind) (fun U hU hW => XP.at hK hz hS hT hU hW) rfl hl.1 (Nat.le_of_ble_eq_true rfl) dX10_rekey_4 ⟨Nat.le_of_ble_eq_true rfl, Nat.le_of_ble_eq_true rfl⟩) hS ?_
  rintro G4 H locs ⟨hF4, t4⟩ hT hS
  have t4 : ((G4.1 (F a 14) 1).toInt) = 0 := t4
  refine lv_iload_n hx hb dX10_rekey_7 rfl (lv_at hl 1 rfl) ?_
  refine x_clp (x_runS (As := [.int p0]) (rest := []) S (c_X10_isTable l E K F G4 H p0) ms_X10_isTable km_X10_179 rfl rfl ⟨Nat.le_of_ble_eq_true rfl, Nat.le_of_ble_eq_true rfl⟩ hK (fun _ => XPh.blind) (fun U hU hW => XPh.at hK hz hS hT hU hW) rfl hl.1 (Nat.le_of_ble_eq_true rfl) dX10_rekey_8 ⟨Nat.le_of_ble_eq_true rfl, Nat.le_of_ble_eq_true rfl⟩) hS ?_
  rintro _ _ locs ⟨x8, rfl, b8, t8⟩ hS
  have t8 : (x8.toInt = 1 ∧ 0 ≤ p0.toInt ∧ p0.toInt < 3) ∨ (x8.toInt = 0 ∧ (p0.toInt < 0 ∨ 3 ≤ p0.toInt)) := t8
  refine xi_zeq (tgt := 28) hx hb (rfl : Int32.toInt x8 = x8.toInt) dX10_rekey_11 (by decide) (fun c11 => ?_) (fun c11 => ?_)
  · refine lv_aload_n hx hb dX10_rekey_28 rfl (lv_at hl 0 rfl) ?_
    refine lv_iconst (v := (-1)) hx hb dX10_rekey_29 (by decide) ?_
    refine x_cl0 (x_runV (b := a) (As := [.int (-1)]) (rest := []) S (c_X10_refuseAct l E K F G4 a (-1) ha) mv_X10_refuseAct km_X10_188 rfl rfl ⟨Nat.le_of_ble_eq_true rfl, Nat.le_of_ble_eq_true rfl⟩ (rc_12 hK hT ha) hK (fun _ => XP.blind) (fun U hU hW => XP.at hK hz hS hT hU hW) rfl hl.1 (Nat.le_of_ble_eq_true rfl) dX10_rekey_30 ⟨Nat.le_of_ble_eq_true rfl, Nat.le_of_ble_eq_true rfl⟩) hS ?_
    rintro _ G30 H locs ⟨x30, rfl, hF30, t30⟩ hT hS
    have t30 : x30.toInt = (-1 : Int) := by rw [((by decide) : Int32.toInt (-1) = (-1 : Int))] at t30; exact t30
    exact x_ri hx hb hr hlk hQ (Nat.le_of_ble_eq_true rfl) (Nat.le_of_ble_eq_true rfl) hS dX10_rekey_33 G30 ⟨_, rfl, (XFr.call (XFr.call XFr.rf hF4 (xm1 2 rfl xm0) xm0 xm0) hF30 xm0 (xm1 10 rfl xm0) xm0), (by rw [(show (G30.1 (F a 8) 6).toInt = ((G.1 (F a 8) 6).toInt) from (congrArg Int32.toInt ((hF30.1 _ _ xn0).trans (hF4.1 _ _ (xnj (by decide) xn0)))).trans (rfl : Int32.toInt (G.1 (F a 8) 6) = ((G.1 (F a 8) 6).toInt)))] <;> exact (sw)), (by rw [(t30 : Int32.toInt x30 = (-1 : Int))] <;> exact (v_X10_rekey_33_1 (K := K) (F := F) a G G30 G4 x8 p0 p1 p2 ha sb sw t4 t8 c11 ((hF30.2.1 _ (xn1 (xne_k hk9999w hk9999o (by decide)) xn0)).trans (hF4.2.1 _ xn0)) ((hF30.2.1 _ (xn1 (xne_k hk9999z25 hk9999o (by decide)) xn0)).trans (hF4.2.1 _ xn0)) ((hF30.2.1 _ (xn1 (xne_k hk9999z26 hk9999o (by decide)) xn0)).trans (hF4.2.1 _ xn0)) ((hF30.2.1 _ (xn1 (xne_k hk9999z27 hk9999o (by decide)) xn0)).trans (hF4.2.1 _ xn0)) ((hF30.2.1 _ (xn1 (xne_k hk9999z28 hk9999o (by decide)) xn0)).trans (hF4.2.1 _ xn0)) ((hF30.2.1 _ (xn1 (xne_k hk9999z29 hk9999o (by decide)) xn0)).trans (hF4.2.1 _ xn0)) ((hF30.2.1 _ (xn1 (xne_k hk9999z30 hk9999o (by decide)) xn0)).trans (hF4.2.1 _ xn0)) ((hF30.1 _ _ xn0).trans (hF4.1 _ _ (xnj (by decide) xn0))))), (v_X10_rekey_33_2 (F := F) a G G30 ron ((hF30.2.1 _ (xn1 (xne_k hk9999w hk9999o (by decide)) xn0)).trans (hF4.2.1 _ xn0)) ((hF30.2.1 _ (xn1 (xne_k hk9999y hk9999o (by decide)) xn0)).trans (hF4.2.1 _ xn0)))⟩ hT
  · refine lv_iload_n hx hb dX10_rekey_14 rfl (lv_at hl 2 rfl) ?_
    refine x_clp (x_runS (As := [.int p1]) (rest := []) S (c_X10_isKey l E K F G4 H p1) ms_X10_isKey km_X10_182 rfl rfl ⟨Nat.le_of_ble_eq_true rfl, Nat.le_of_ble_eq_true rfl⟩ hK (fun _ => XPh.blind) (fun U hU hW => XPh.at hK hz hS hT hU hW) rfl hl.1 (Nat.le_of_ble_eq_true rfl) dX10_rekey_15 ⟨Nat.le_of_ble_eq_true rfl, Nat.le_of_ble_eq_true rfl⟩) hS ?_
    rintro _ _ locs ⟨x15, rfl, b15, t15⟩ hS
    have t15 : (x15.toInt = 1 ∧ 0 ≤ p1.toInt ∧ p1.toInt < 30) ∨ (x15.toInt = 0 ∧ (p1.toInt < 0 ∨ 30 ≤ p1.toInt)) := t15
    refine xi_zeq (tgt := 28) hx hb (rfl : Int32.toInt x15 = x15.toInt) dX10_rekey_18 (by decide) (fun c18 => ?_) (fun c18 => ?_)
    · refine lv_aload_n hx hb dX10_rekey_28 rfl (lv_at hl 0 rfl) ?_
      refine lv_iconst (v := (-1)) hx hb dX10_rekey_29 (by decide) ?_
      refine x_cl0 (x_runV (b := a) (As := [.int (-1)]) (rest := []) S (c_X10_refuseAct l E K F G4 a (-1) ha) mv_X10_refuseAct km_X10_188 rfl rfl ⟨Nat.le_of_ble_eq_true rfl, Nat.le_of_ble_eq_true rfl⟩ (rc_12 hK hT ha) hK (fun _ => XP.blind) (fun U hU hW => XP.at hK hz hS hT hU hW) rfl hl.1 (Nat.le_of_ble_eq_true rfl) dX10_rekey_30 ⟨Nat.le_of_ble_eq_true rfl, Nat.le_of_ble_eq_true rfl⟩) hS ?_
      rintro _ G30 H locs ⟨x30, rfl, hF30, t30⟩ hT hS
      have t30 : x30.toInt = (-1 : Int) := by rw [((by decide) : Int32.toInt (-1) = (-1 : Int))] at t30; exact t30
      exact x_ri hx hb hr hlk hQ (Nat.le_of_ble_eq_true rfl) (Nat.le_of_ble_eq_true rfl) hS dX10_rekey_33 G30 ⟨_, rfl, (XFr.call (XFr.call XFr.rf hF4 (xm1 2 rfl xm0) xm0 xm0) hF30 xm0 (xm1 10 rfl xm0) xm0), (by rw [(show (G30.1 (F a 8) 6).toInt = ((G.1 (F a 8) 6).toInt) from (congrArg Int32.toInt ((hF30.1 _ _ xn0).trans (hF4.1 _ _ (xnj (by decide) xn0)))).trans (rfl : Int32.toInt (G.1 (F a 8) 6) = ((G.1 (F a 8) 6).toInt)))] <;> exact (sw)), (by rw [(t30 : Int32.toInt x30 = (-1 : Int))] <;> exact (v_X10_rekey_33_3 (K := K) (F := F) a G G30 G4 x8 p0 x15 p1 p2 ha sb sw t4 t8 c11 t15 c18 ((hF30.2.1 _ (xn1 (xne_k hk9999w hk9999o (by decide)) xn0)).trans (hF4.2.1 _ xn0)) ((hF30.2.1 _ (xn1 (xne_k hk9999z25 hk9999o (by decide)) xn0)).trans (hF4.2.1 _ xn0)) ((hF30.2.1 _ (xn1 (xne_k hk9999z26 hk9999o (by decide)) xn0)).trans (hF4.2.1 _ xn0)) ((hF30.2.1 _ (xn1 (xne_k hk9999z27 hk9999o (by decide)) xn0)).trans (hF4.2.1 _ xn0)) ((hF30.2.1 _ (xn1 (xne_k hk9999z28 hk9999o (by decide)) xn0)).trans (hF4.2.1 _ xn0)) ((hF30.2.1 _ (xn1 (xne_k hk9999z29 hk9999o (by decide)) xn0)).trans (hF4.2.1 _ xn0)) ((hF30.2.1 _ (xn1 (xne_k hk9999z30 hk9999o (by decide)) xn0)).trans (hF4.2.1 _ xn0)) ((hF30.1 _ _ xn0).trans (hF4.1 _ _ (xnj (by decide) xn0))))), (v_X10_rekey_33_4 (F := F) a G G30 ron ((hF30.2.1 _ (xn1 (xne_k hk9999w hk9999o (by decide)) xn0)).trans (hF4.2.1 _ xn0)) ((hF30.2.1 _ (xn1 (xne_k hk9999y hk9999o (by decide)) xn0)).trans (hF4.2.1 _ xn0)))⟩ hT
    · refine lv_iload_n hx hb dX10_rekey_21 rfl (lv_at hl 3 rfl) ?_
      refine x_clp (x_runS (As := [.int p2]) (rest := []) S (c_X10_isKey l E K F G4 H p2) ms_X10_isKey km_X10_182 rfl rfl ⟨Nat.le_of_ble_eq_true rfl, Nat.le_of_ble_eq_true rfl⟩ hK (fun _ => XPh.blind) (fun U hU hW => XPh.at hK hz hS hT hU hW) rfl hl.1 (Nat.le_of_ble_eq_true rfl) dX10_rekey_22 ⟨Nat.le_of_ble_eq_true rfl, Nat.le_of_ble_eq_true rfl⟩) hS ?_
      rintro _ _ locs ⟨x22, rfl, b22, t22⟩ hS
      have t22 : (x22.toInt = 1 ∧ 0 ≤ p2.toInt ∧ p2.toInt < 30) ∨ (x22.toInt = 0 ∧ (p2.toInt < 0 ∨ 30 ≤ p2.toInt)) := t22
      refine xi_zne (tgt := 34) hx hb (rfl : Int32.toInt x22 = x22.toInt) dX10_rekey_25 (by decide) (fun c25 => ?_) (fun c25 => ?_)
      · refine lv_aload_n hx hb dX10_rekey_34 rfl (lv_at hl 0 rfl) ?_
        refine gX10_3 S hK hT ha kf_X10_37 dX10_rekey_35 (fun _ _ => ?_)
        refine lv_iload_n hx hb dX10_rekey_38 rfl (lv_at hl 1 rfl) ?_
        refine lv_iload_n hx hb dX10_rekey_39 rfl (lv_at hl 2 rfl) ?_
        refine x_clp (x_runV (b := (F a 3)) (As := [.int p0, .int p1]) (rest := []) S (c_X6_has l E K F G4 H (F a 3) p0 p1 hk9999v (v_X10_rekey_40_5 (F := F) a G G4 ron rob (hF4.2.1 _ xn0) (hF4.2.1 _ xn0))) mv_X6_has km_X10_191 rfl rfl ⟨Nat.le_of_ble_eq_true rfl, Nat.le_of_ble_eq_true rfl⟩ (rc_8 hK hT hk9999v) hK (fun _ => XPh.blind) (fun U hU hW => XPh.at hK hz hS hT hU hW) rfl hl.1 (Nat.le_of_ble_eq_true rfl) dX10_rekey_40 ⟨Nat.le_of_ble_eq_true rfl, Nat.le_of_ble_eq_true rfl⟩) hS ?_
        rintro _ _ locs ⟨x40, rfl, b40, t40⟩ hS
        have t40 : (x40.toInt = 1 ∧ (cel (vw (G.2.1 (F (F a 3) 0))) (p0.toInt) (p1.toInt) 0) ≠ -2000) ∨ (x40.toInt = 0 ∧ (cel (vw (G.2.1 (F (F a 3) 0))) (p0.toInt) (p1.toInt) 0) = -2000) := by rw [(show G4.2.1 (F (F a 3) 0) = G.2.1 (F (F a 3) 0) from (hF4.2.1 _ xn0))] at t40; exact t40
        refine xi_zne (tgt := 53) hx hb (rfl : Int32.toInt x40 = x40.toInt) dX10_rekey_43 (by decide) (fun c43 => ?_) (fun c43 => ?_)
        · refine lv_aload_n hx hb dX10_rekey_53 rfl (lv_at hl 0 rfl) ?_
          refine gX10_3 S hK hT ha kf_X10_37 dX10_rekey_54 (fun _ _ => ?_)
          refine lv_iload_n hx hb dX10_rekey_57 rfl (lv_at hl 1 rfl) ?_
          refine lv_iload_n hx hb dX10_rekey_58 rfl (lv_at hl 3 rfl) ?_
          refine x_clp (x_runV (b := (F a 3)) (As := [.int p0, .int p2]) (rest := []) S (c_X6_has l E K F G4 H (F a 3) p0 p2 hk9999v (v_X10_rekey_59_6 (F := F) a G G4 ron rob (hF4.2.1 _ xn0) (hF4.2.1 _ xn0))) mv_X6_has km_X10_191 rfl rfl ⟨Nat.le_of_ble_eq_true rfl, Nat.le_of_ble_eq_true rfl⟩ (rc_8 hK hT hk9999v) hK (fun _ => XPh.blind) (fun U hU hW => XPh.at hK hz hS hT hU hW) rfl hl.1 (Nat.le_of_ble_eq_true rfl) dX10_rekey_59 ⟨Nat.le_of_ble_eq_true rfl, Nat.le_of_ble_eq_true rfl⟩) hS ?_
          rintro _ _ locs ⟨x59, rfl, b59, t59⟩ hS
          have t59 : (x59.toInt = 1 ∧ (cel (vw (G.2.1 (F (F a 3) 0))) (p0.toInt) (p2.toInt) 0) ≠ -2000) ∨ (x59.toInt = 0 ∧ (cel (vw (G.2.1 (F (F a 3) 0))) (p0.toInt) (p2.toInt) 0) = -2000) := by rw [(show G4.2.1 (F (F a 3) 0) = G.2.1 (F (F a 3) 0) from (hF4.2.1 _ xn0))] at t59; exact t59
          refine xi_zeq (tgt := 72) hx hb (rfl : Int32.toInt x59 = x59.toInt) dX10_rekey_62 (by decide) (fun c62 => ?_) (fun c62 => ?_)
          · refine lv_aload_n hx hb dX10_rekey_72 rfl (lv_at hl 0 rfl) ?_
            refine gX10_5 S hK hT ha kf_X10_44 dX10_rekey_73 (fun _ _ => ?_)
            refine lv_aload_n hx hb dX10_rekey_76 rfl (lv_at hl 0 rfl) ?_
            refine gX10_3 S hK hT ha kf_X10_37 dX10_rekey_77 (fun _ _ => ?_)
            refine x_cv0 (x_runV (b := (F a 5)) (As := [.ref (F a 3)]) (rest := []) S (c_X6_copy l E K F G4 (F a 5) (F a 3) hk9999z31 hk9999v (v_X10_rekey_80_7 (F := F) a G G4 ron rob (hF4.2.1 _ xn0) (hF4.2.1 _ xn0))) mv_X6_copy km_X10_195 rfl rfl ⟨Nat.le_of_ble_eq_true rfl, Nat.le_of_ble_eq_true rfl⟩ (rc_8 hK hT hk9999z31) hK (fun _ => XP.blind) (fun U hU hW => XP.at hK hz hS hT hU hW) rfl hl.1 (Nat.le_of_ble_eq_true rfl) dX10_rekey_80 ⟨Nat.le_of_ble_eq_true rfl, Nat.le_of_ble_eq_true rfl⟩) hS ?_
            rintro G80 H locs ⟨hF80, oq80, oq80a⟩ hT hS
            have oq80 : (vw (G80.2.1 (F (F a 5) 0))) = (vw (G.2.1 (F (F a 3) 0))) := by simp only [(show G4.2.1 (F (F a 3) 0) = G.2.1 (F (F a 3) 0) from (hF4.2.1 _ xn0))] at oq80; exact oq80
            have z83 : (cel (vw (G80.2.1 (F (F a 5) 0))) (p0.toInt) (p1.toInt) 0) = (cel (vw (G.2.1 (F (F a 3) 0))) (p0.toInt) (p1.toInt) 0) := by rw [oq80]
            have z83a : p1.toInt = p2.toInt → (cel (vw (G.2.1 (F (F a 3) 0))) (p0.toInt) (p1.toInt) 0) = (cel (vw (G.2.1 (F (F a 3) 0))) (p0.toInt) (p2.toInt) 0) := fun h9 => by rw [h9]
            refine lv_aload_n hx hb dX10_rekey_83 rfl (lv_at hl 0 rfl) ?_
            obtain ⟨hk84, hj84⟩ := fkX10_12 hT ha
            refine gX10_12 S hK hT ha kf_X10_77 dX10_rekey_84 (fun _ _ => ?_)
            refine lv_aload_n hx hb dX10_rekey_87 rfl (lv_at hl 0 rfl) ?_
            refine gX10_5 S hK hT ha kf_X10_44 dX10_rekey_88 (fun _ _ => ?_)
            refine lv_aload_n hx hb dX10_rekey_91 rfl (lv_at hl 0 rfl) ?_
            refine gX10_2 S hK hT ha kf_X10_30 dX10_rekey_92 (fun _ _ => ?_)
            refine lv_iload_n hx hb dX10_rekey_95 rfl (lv_at hl 1 rfl) ?_
            refine lv_iload_n hx hb dX10_rekey_96 rfl (lv_at hl 2 rfl) ?_
            refine lv_iload_n hx hb dX10_rekey_97 rfl (lv_at hl 3 rfl) ?_
            refine x_cv0 (x_runV (b := (F a 12)) (As := [.ref (F a 5), .ref (F a 2), .int p0, .int p1, .int p2]) (rest := []) S (c_X2_moveRow l E K F G80 (F a 12) (F a 5) (F a 2) p0 p1 p2 hk84 hk9999z31 hk9999z34 (z_X10_rekey_3 p0.toInt p1.toInt p2.toInt x15.toInt x22.toInt x40.toInt x59.toInt x8.toInt (cel (vw (G.2.1 (F (F a 3) 0))) (p0.toInt) (p1.toInt) 0) (cel (vw (G.2.1 (F (F a 3) 0))) (p0.toInt) (p2.toInt) 0) t8 c11 t15 c18 t22 c25 t40 c43 t59 c62 z83a) (z_X10_cut_3 x40.toInt (cel (vw (G.2.1 (F (F a 3) 0))) (p0.toInt) (p1.toInt) 0) (cel (vw (G80.2.1 (F (F a 5) 0))) (p0.toInt) (p1.toInt) 0) t40 c43 z83) (v_X10_rekey_98_8 (F := F) a G80 oq80a) (v_X10_rekey_98_9 (K := K) (F := F) a G G80 G4 x8 p0 x15 p1 x22 p2 x40 x59 ha hk9999 hj9999 hk9999a hj9999a hk9999b hj9999b hk9999c hj9999c hk9999d hj9999d hk9999e hj9999e hk9999f hj9999f hk9999g hj9999g hk9999h hj9999i hk9999i hj9999k hk9999j hj9999m hk9999k hj9999o hk9999l hj9999q hk9999m hj9999s hk9999n hj9999t hk9999o hj9999u hk9999p hj9999w hk9999q hj9999z25 hk9999r hj9999z27 hk9999s hj9999z29 hk9999t hj9999z31 hk9999u hj9999z33 hk9999v hj9999z34 hk9999w hj9999z36 hk9999y hj9999z38 hk9999z25 hj9999z40 hk9999z26 hj9999z42 hk9999z27 hj9999z44 hk9999z28 hj9999z46 hk9999z29 hj9999z48 hk9999z30 hj9999z50 hk9999z31 hj9999z51 hk9999z32 hj9999z53 hk9999z33 hj9999z55 hk9999z34 hj9999z56 hk9999z35 hj9999z57 hk9999z36 hj9999z58 hk9999z37 hj9999z59 hk9999z38 hj9999z61 hk9999z39 hj9999z63 hk84 hj84 (XFr.call (XFr.call XFr.rf hF4 (xm1 2 rfl xm0) xm0 xm0) hF80 xm0 (xm1 25 rfl (xm1 26 rfl xm0)) xm0) hF4 hF80 ron rob bko bkn hac oq80 oq80a sb sw t4 t8 c11 t15 c18 t22 c25 t40 c43 t59 c62 z83 z83a ((hF80.2.1 _ (xn1 (xne_k hk9999p hk9999z32 (by decide)) (xn1 (xne_k hk9999p hk9999z33 (by decide)) xn0))).trans (hF4.2.1 _ xn0)) ((hF80.2.1 _ (xn1 (xne_k hk9999q hk9999z32 (by decide)) (xn1 (xne_k hk9999q hk9999z33 (by decide)) xn0))).trans (hF4.2.1 _ xn0)) ((hF80.2.1 _ (xn1 (xne_k hk9999r hk9999z32 (by decide)) (xn1 (xne_k hk9999r hk9999z33 (by decide)) xn0))).trans (hF4.2.1 _ xn0)) ((hF80.2.1 _ (xn1 (xne_k hk9999s hk9999z32 (by decide)) (xn1 (xne_k hk9999s hk9999z33 (by decide)) xn0))).trans (hF4.2.1 _ xn0)) ((hF80.2.1 _ (xn1 (xne_k hk9999t hk9999z32 (by decide)) (xn1 (xne_k hk9999t hk9999z33 (by decide)) xn0))).trans (hF4.2.1 _ xn0)) ((hF80.2.1 _ (xn1 (xne_k hk9999u hk9999z32 (by decide)) (xn1 (xne_k hk9999u hk9999z33 (by decide)) xn0))).trans (hF4.2.1 _ xn0)) ((hF80.2.1 _ (xn1 (xne_k hk9999e hk9999z32 (by decide)) (xn1 (xne_j hj9999e hj9999z55 (by first | decide | omega)) xn0))).trans (hF4.2.1 _ xn0)) ((hF80.2.1 _ (xn1 (xne_k hk9999f hk9999z32 (by decide)) (xn1 (xne_j hj9999f hj9999z55 (by first | decide | omega)) xn0))).trans (hF4.2.1 _ xn0)) ((hF80.2.1 _ (xn1 (xne_k hk9999g hk9999z32 (by decide)) (xn1 (xne_k hk9999g hk9999z33 (by decide)) xn0))).trans (hF4.2.1 _ xn0)) ((hF80.2.1 _ (xn1 (xne_j hj9999z36 hj9999z53 (by first | decide | omega)) (xn1 (xne_k hk9999w hk9999z33 (by decide)) xn0))).trans (hF4.2.1 _ xn0)) ((hF80.2.1 _ (xn1 (xne_k hk9999y hk9999z32 (by decide)) (xn1 (xne_j hj9999z38 hj9999z55 (by first | decide | omega)) xn0))).trans (hF4.2.1 _ xn0)) ((hF80.2.1 _ (xn1 (xne_k hk9999z25 hk9999z32 (by decide)) (xn1 (xne_k hk9999z25 hk9999z33 (by decide)) xn0))).trans (hF4.2.1 _ xn0)) ((hF80.2.1 _ (xn1 (xne_k hk9999z26 hk9999z32 (by decide)) (xn1 (xne_k hk9999z26 hk9999z33 (by decide)) xn0))).trans (hF4.2.1 _ xn0)) ((hF80.2.1 _ (xn1 (xne_k hk9999z27 hk9999z32 (by decide)) (xn1 (xne_k hk9999z27 hk9999z33 (by decide)) xn0))).trans (hF4.2.1 _ xn0)) ((hF80.2.1 _ (xn1 (xne_k hk9999z28 hk9999z32 (by decide)) (xn1 (xne_k hk9999z28 hk9999z33 (by decide)) xn0))).trans (hF4.2.1 _ xn0)) ((hF80.2.1 _ (xn1 (xne_k hk9999z29 hk9999z32 (by decide)) (xn1 (xne_k hk9999z29 hk9999z33 (by decide)) xn0))).trans (hF4.2.1 _ xn0)) ((hF80.2.1 _ (xn1 (xne_k hk9999z30 hk9999z32 (by decide)) (xn1 (xne_k hk9999z30 hk9999z33 (by decide)) xn0))).trans (hF4.2.1 _ xn0)) ((hF80.2.1 _ (xn1 (xne_k hk9999h hk9999z32 (by decide)) (xn1 (xne_k hk9999h hk9999z33 (by decide)) xn0))).trans (hF4.2.1 _ xn0)) ((hF80.2.1 _ (xn1 (xne_k hk9999i hk9999z32 (by decide)) (xn1 (xne_k hk9999i hk9999z33 (by decide)) xn0))).trans (hF4.2.1 _ xn0)) ((hF80.2.1 _ (xn1 (xne_k hk9999j hk9999z32 (by decide)) (xn1 (xne_k hk9999j hk9999z33 (by decide)) xn0))).trans (hF4.2.1 _ xn0)) ((hF80.2.1 _ (xn1 (xne_k hk9999k hk9999z32 (by decide)) (xn1 (xne_k hk9999k hk9999z33 (by decide)) xn0))).trans (hF4.2.1 _ xn0)) ((hF80.2.1 _ (xn1 (xne_k hk9999l hk9999z32 (by decide)) (xn1 (xne_k hk9999l hk9999z33 (by decide)) xn0))).trans (hF4.2.1 _ xn0)) ((hF80.2.1 _ (xn1 (xne_k hk9999m hk9999z32 (by decide)) (xn1 (xne_k hk9999m hk9999z33 (by decide)) xn0))).trans (hF4.2.1 _ xn0)) ((hF80.2.1 _ (xn1 (xne_k hk9999o hk9999z32 (by decide)) (xn1 (xne_k hk9999o hk9999z33 (by decide)) xn0))).trans (hF4.2.1 _ xn0)) ((hF80.2.1 _ (xn1 (xne_k hk9999n hk9999z32 (by decide)) (xn1 (xne_k hk9999n hk9999z33 (by decide)) xn0))).trans (hF4.2.1 _ xn0)) ((hF80.2.2 _ xn0).trans (hF4.2.2 _ xn0)) ((hF80.1 _ _ xn0).trans (hF4.1 _ _ (xnj (by decide) xn0))) ((hF80.1 _ _ xn0).trans (hF4.1 _ _ (xnj (by decide) xn0))) (hF80.1 _ _ xn0) ((hF80.1 _ _ xn0).trans (hF4.1 _ _ (xnj (by decide) xn0))) ((hF80.1 _ _ xn0).trans (hF4.1 _ _ (xnj (by decide) xn0))) ((hF80.1 _ _ xn0).trans (hF4.1 _ _ (xnj (by decide) xn0))) ((hF80.1 _ _ xn0).trans (hF4.1 _ _ (xnj (by decide) xn0)))) (v_X10_rekey_98_10 (K := K) (F := F) a G G80 G4 x8 p0 x15 p1 x22 p2 x40 x59 ha hk9999 hj9999 hk9999a hj9999a hk9999b hj9999b hk9999c hj9999c hk9999d hj9999d hk9999e hj9999e hk9999f hj9999f hk9999g hj9999g hk9999h hj9999i hk9999i hj9999k hk9999j hj9999m hk9999k hj9999o hk9999l hj9999q hk9999m hj9999s hk9999n hj9999t hk9999o hj9999u hk9999p hj9999w hk9999q hj9999z25 hk9999r hj9999z27 hk9999s hj9999z29 hk9999t hj9999z31 hk9999u hj9999z33 hk9999v hj9999z34 hk9999w hj9999z36 hk9999y hj9999z38 hk9999z25 hj9999z40 hk9999z26 hj9999z42 hk9999z27 hj9999z44 hk9999z28 hj9999z46 hk9999z29 hj9999z48 hk9999z30 hj9999z50 hk9999z31 hj9999z51 hk9999z32 hj9999z53 hk9999z33 hj9999z55 hk9999z34 hj9999z56 hk9999z35 hj9999z57 hk9999z36 hj9999z58 hk9999z37 hj9999z59 hk9999z38 hj9999z61 hk9999z39 hj9999z63 hk84 hj84 (XFr.call (XFr.call XFr.rf hF4 (xm1 2 rfl xm0) xm0 xm0) hF80 xm0 (xm1 25 rfl (xm1 26 rfl xm0)) xm0) hF4 hF80 ron rob bko bkn hac oq80 oq80a sb sw t4 t8 c11 t15 c18 t22 c25 t40 c43 t59 c62 z83 z83a ((hF80.2.1 _ (xn1 (xne_k hk9999p hk9999z32 (by decide)) (xn1 (xne_k hk9999p hk9999z33 (by decide)) xn0))).trans (hF4.2.1 _ xn0)) ((hF80.2.1 _ (xn1 (xne_k hk9999q hk9999z32 (by decide)) (xn1 (xne_k hk9999q hk9999z33 (by decide)) xn0))).trans (hF4.2.1 _ xn0)) ((hF80.2.1 _ (xn1 (xne_k hk9999r hk9999z32 (by decide)) (xn1 (xne_k hk9999r hk9999z33 (by decide)) xn0))).trans (hF4.2.1 _ xn0)) ((hF80.2.1 _ (xn1 (xne_k hk9999s hk9999z32 (by decide)) (xn1 (xne_k hk9999s hk9999z33 (by decide)) xn0))).trans (hF4.2.1 _ xn0)) ((hF80.2.1 _ (xn1 (xne_k hk9999t hk9999z32 (by decide)) (xn1 (xne_k hk9999t hk9999z33 (by decide)) xn0))).trans (hF4.2.1 _ xn0)) ((hF80.2.1 _ (xn1 (xne_k hk9999u hk9999z32 (by decide)) (xn1 (xne_k hk9999u hk9999z33 (by decide)) xn0))).trans (hF4.2.1 _ xn0)) ((hF80.2.1 _ (xn1 (xne_k hk9999e hk9999z32 (by decide)) (xn1 (xne_j hj9999e hj9999z55 (by first | decide | omega)) xn0))).trans (hF4.2.1 _ xn0)) ((hF80.2.1 _ (xn1 (xne_k hk9999f hk9999z32 (by decide)) (xn1 (xne_j hj9999f hj9999z55 (by first | decide | omega)) xn0))).trans (hF4.2.1 _ xn0)) ((hF80.2.1 _ (xn1 (xne_k hk9999g hk9999z32 (by decide)) (xn1 (xne_k hk9999g hk9999z33 (by decide)) xn0))).trans (hF4.2.1 _ xn0)) ((hF80.2.1 _ (xn1 (xne_j hj9999z36 hj9999z53 (by first | decide | omega)) (xn1 (xne_k hk9999w hk9999z33 (by decide)) xn0))).trans (hF4.2.1 _ xn0)) ((hF80.2.1 _ (xn1 (xne_k hk9999y hk9999z32 (by decide)) (xn1 (xne_j hj9999z38 hj9999z55 (by first | decide | omega)) xn0))).trans (hF4.2.1 _ xn0)) ((hF80.2.1 _ (xn1 (xne_k hk9999z25 hk9999z32 (by decide)) (xn1 (xne_k hk9999z25 hk9999z33 (by decide)) xn0))).trans (hF4.2.1 _ xn0)) ((hF80.2.1 _ (xn1 (xne_k hk9999z26 hk9999z32 (by decide)) (xn1 (xne_k hk9999z26 hk9999z33 (by decide)) xn0))).trans (hF4.2.1 _ xn0)) ((hF80.2.1 _ (xn1 (xne_k hk9999z27 hk9999z32 (by decide)) (xn1 (xne_k hk9999z27 hk9999z33 (by decide)) xn0))).trans (hF4.2.1 _ xn0)) ((hF80.2.1 _ (xn1 (xne_k hk9999z28 hk9999z32 (by decide)) (xn1 (xne_k hk9999z28 hk9999z33 (by decide)) xn0))).trans (hF4.2.1 _ xn0)) ((hF80.2.1 _ (xn1 (xne_k hk9999z29 hk9999z32 (by decide)) (xn1 (xne_k hk9999z29 hk9999z33 (by decide)) xn0))).trans (hF4.2.1 _ xn0)) ((hF80.2.1 _ (xn1 (xne_k hk9999z30 hk9999z32 (by decide)) (xn1 (xne_k hk9999z30 hk9999z33 (by decide)) xn0))).trans (hF4.2.1 _ xn0)) ((hF80.2.1 _ (xn1 (xne_k hk9999h hk9999z32 (by decide)) (xn1 (xne_k hk9999h hk9999z33 (by decide)) xn0))).trans (hF4.2.1 _ xn0)) ((hF80.2.1 _ (xn1 (xne_k hk9999i hk9999z32 (by decide)) (xn1 (xne_k hk9999i hk9999z33 (by decide)) xn0))).trans (hF4.2.1 _ xn0)) ((hF80.2.1 _ (xn1 (xne_k hk9999j hk9999z32 (by decide)) (xn1 (xne_k hk9999j hk9999z33 (by decide)) xn0))).trans (hF4.2.1 _ xn0)) ((hF80.2.1 _ (xn1 (xne_k hk9999k hk9999z32 (by decide)) (xn1 (xne_k hk9999k hk9999z33 (by decide)) xn0))).trans (hF4.2.1 _ xn0)) ((hF80.2.1 _ (xn1 (xne_k hk9999l hk9999z32 (by decide)) (xn1 (xne_k hk9999l hk9999z33 (by decide)) xn0))).trans (hF4.2.1 _ xn0)) ((hF80.2.1 _ (xn1 (xne_k hk9999m hk9999z32 (by decide)) (xn1 (xne_k hk9999m hk9999z33 (by decide)) xn0))).trans (hF4.2.1 _ xn0)) ((hF80.2.1 _ (xn1 (xne_k hk9999o hk9999z32 (by decide)) (xn1 (xne_k hk9999o hk9999z33 (by decide)) xn0))).trans (hF4.2.1 _ xn0)) ((hF80.2.1 _ (xn1 (xne_k hk9999n hk9999z32 (by decide)) (xn1 (xne_k hk9999n hk9999z33 (by decide)) xn0))).trans (hF4.2.1 _ xn0)) ((hF80.2.2 _ xn0).trans (hF4.2.2 _ xn0)) ((hF80.1 _ _ xn0).trans (hF4.1 _ _ (xnj (by decide) xn0))) ((hF80.1 _ _ xn0).trans (hF4.1 _ _ (xnj (by decide) xn0))) (hF80.1 _ _ xn0) ((hF80.1 _ _ xn0).trans (hF4.1 _ _ (xnj (by decide) xn0))) ((hF80.1 _ _ xn0).trans (hF4.1 _ _ (xnj (by decide) xn0))) ((hF80.1 _ _ xn0).trans (hF4.1 _ _ (xnj (by decide) xn0))) ((hF80.1 _ _ xn0).trans (hF4.1 _ _ (xnj (by decide) xn0))))) mv_X2_moveRow km_X10_218 rfl rfl ⟨Nat.le_of_ble_eq_true rfl, Nat.le_of_ble_eq_true rfl⟩ (rc_4 hK hT hk84) hK (fun _ => XP.blind) (fun U hU hW => XP.at hK hz hS hT hU hW) rfl hl.1 (Nat.le_of_ble_eq_true rfl) dX10_rekey_98 ⟨Nat.le_of_ble_eq_true rfl, Nat.le_of_ble_eq_true rfl⟩) hS ?_
            rintro G98 H locs ⟨hF98, oq98, oq98a⟩ hT hS
            refine lv_aload_n hx hb dX10_rekey_101 rfl (lv_at hl 0 rfl) ?_
            refine x_cl (x_runV (b := a) (As := []) (rest := []) S (c_X10_actAsOnPaper l E K F G98 a ha (by rw [(show (G98.1 (F a 2) 2).toInt = ((G.1 (F a 2) 2).toInt) from (congrArg Int32.toInt ((hF98.1 _ _ xn0).trans ((hF80.1 _ _ xn0).trans (hF4.1 _ _ (xnj (by decide) xn0))))).trans (rfl : Int32.toInt (G.1 (F a 2) 2) = ((G.1 (F a 2) 2).toInt)))] <;> exact (sb)) (by rw [(show (G98.1 (F a 8) 6).toInt = ((G.1 (F a 8) 6).toInt) from (congrArg Int32.toInt ((hF98.1 _ _ xn0).trans ((hF80.1 _ _ xn0).trans (hF4.1 _ _ (xnj (by decide) xn0))))).trans (rfl : Int32.toInt (G.1 (F a 8) 6) = ((G.1 (F a 8) 6).toInt)))] <;> exact (sw)) (v_X10_rekey_102_11 (F := F) a G G98 G80 ron rob oq80a oq98a ((hF98.2.1 _ (xn1 (xne_j hj9999z36 hj9999z53 (by first | decide | omega)) (xn1 (xne_k hk9999w hk9999z33 (by decide)) xn0))).trans ((hF80.2.1 _ (xn1 (xne_j hj9999z36 hj9999z53 (by first | decide | omega)) (xn1 (xne_k hk9999w hk9999z33 (by decide)) xn0))).trans (hF4.2.1 _ xn0))) ((hF98.2.1 _ (xn1 (xne_k hk9999y hk9999z32 (by decide)) (xn1 (xne_j hj9999z38 hj9999z55 (by first | decide | omega)) xn0))).trans ((hF80.2.1 _ (xn1 (xne_k hk9999y hk9999z32 (by decide)) (xn1 (xne_j hj9999z38 hj9999z55 (by first | decide | omega)) xn0))).trans (hF4.2.1 _ xn0)))) (v_X10_rekey_102_12 (F := F) a G98 oq98a) (v_X10_rekey_102_13 (F := F) a G G98 G80 ron rob oq80a oq98a ((hF98.2.1 _ (xn1 (xne_j hj9999z61 hj9999z53 (by first | decide | omega)) (xn1 (xne_k hk9999z38 hk9999z33 (by decide)) xn0))).trans ((hF80.2.1 _ (xn1 (xne_j hj9999z61 hj9999z53 (by first | decide | omega)) (xn1 (xne_k hk9999z38 hk9999z33 (by decide)) xn0))).trans (hF4.2.1 _ xn0))) ((hF98.2.1 _ (xn1 (xne_k hk9999z39 hk9999z32 (by decide)) (xn1 (xne_j hj9999z63 hj9999z55 (by first | decide | omega)) xn0))).trans ((hF80.2.1 _ (xn1 (xne_k hk9999z39 hk9999z32 (by decide)) (xn1 (xne_j hj9999z63 hj9999z55 (by first | decide | omega)) xn0))).trans (hF4.2.1 _ xn0)))) (v_X10_rekey_102_14 (K := K) (F := F) a G G98 G4 G80 p0 p1 p2 x8 x15 x22 x40 x59 ha hk9999 hj9999 hk9999a hj9999a hk9999b hj9999b hk9999c hj9999c hk9999d hj9999d hk9999e hj9999e hk9999f hj9999f hk9999g hj9999g hk9999h hj9999i hk9999i hj9999k hk9999j hj9999m hk9999k hj9999o hk9999l hj9999q hk9999m hj9999s hk9999n hj9999t hk9999o hj9999u hk9999p hj9999w hk9999q hj9999z25 hk9999r hj9999z27 hk9999s hj9999z29 hk9999t hj9999z31 hk9999u hj9999z33 hk9999v hj9999z34 hk9999w hj9999z36 hk9999y hj9999z38 hk9999z25 hj9999z40 hk9999z26 hj9999z42 hk9999z27 hj9999z44 hk9999z28 hj9999z46 hk9999z29 hj9999z48 hk9999z30 hj9999z50 hk9999z31 hj9999z51 hk9999z32 hj9999z53 hk9999z33 hj9999z55 hk9999z34 hj9999z56 hk9999z35 hj9999z57 hk9999z36 hj9999z58 hk9999z37 hj9999z59 hk9999z38 hj9999z61 hk9999z39 hj9999z63 hk84 hj84 (XFr.call (XFr.call (XFr.call XFr.rf hF4 (xm1 2 rfl xm0) xm0 xm0) hF80 xm0 (xm1 25 rfl (xm1 26 rfl xm0)) xm0) hF98 xm0 (xm1 25 rfl (xm1 26 rfl xm0)) xm0) hF4 hF80 hF98 ron rob bko bkn hac oq80 oq80a oq98 oq98a sb sw t4 t8 c11 t15 c18 t22 c25 t40 c43 t59 c62 z83 z83a ((hF98.2.1 _ (xn1 (xne_k hk9999p hk9999z32 (by decide)) (xn1 (xne_k hk9999p hk9999z33 (by decide)) xn0))).trans ((hF80.2.1 _ (xn1 (xne_k hk9999p hk9999z32 (by decide)) (xn1 (xne_k hk9999p hk9999z33 (by decide)) xn0))).trans (hF4.2.1 _ xn0))) ((hF98.2.1 _ (xn1 (xne_k hk9999q hk9999z32 (by decide)) (xn1 (xne_k hk9999q hk9999z33 (by decide)) xn0))).trans ((hF80.2.1 _ (xn1 (xne_k hk9999q hk9999z32 (by decide)) (xn1 (xne_k hk9999q hk9999z33 (by decide)) xn0))).trans (hF4.2.1 _ xn0))) ((hF98.2.1 _ (xn1 (xne_k hk9999r hk9999z32 (by decide)) (xn1 (xne_k hk9999r hk9999z33 (by decide)) xn0))).trans ((hF80.2.1 _ (xn1 (xne_k hk9999r hk9999z32 (by decide)) (xn1 (xne_k hk9999r hk9999z33 (by decide)) xn0))).trans (hF4.2.1 _ xn0))) ((hF98.2.1 _ (xn1 (xne_k hk9999s hk9999z32 (by decide)) (xn1 (xne_k hk9999s hk9999z33 (by decide)) xn0))).trans ((hF80.2.1 _ (xn1 (xne_k hk9999s hk9999z32 (by decide)) (xn1 (xne_k hk9999s hk9999z33 (by decide)) xn0))).trans (hF4.2.1 _ xn0))) ((hF98.2.1 _ (xn1 (xne_k hk9999t hk9999z32 (by decide)) (xn1 (xne_k hk9999t hk9999z33 (by decide)) xn0))).trans ((hF80.2.1 _ (xn1 (xne_k hk9999t hk9999z32 (by decide)) (xn1 (xne_k hk9999t hk9999z33 (by decide)) xn0))).trans (hF4.2.1 _ xn0))) ((hF98.2.1 _ (xn1 (xne_k hk9999u hk9999z32 (by decide)) (xn1 (xne_k hk9999u hk9999z33 (by decide)) xn0))).trans ((hF80.2.1 _ (xn1 (xne_k hk9999u hk9999z32 (by decide)) (xn1 (xne_k hk9999u hk9999z33 (by decide)) xn0))).trans (hF4.2.1 _ xn0))) ((hF98.2.1 _ (xn1 (xne_k hk9999e hk9999z32 (by decide)) (xn1 (xne_j hj9999e hj9999z55 (by first | decide | omega)) xn0))).trans ((hF80.2.1 _ (xn1 (xne_k hk9999e hk9999z32 (by decide)) (xn1 (xne_j hj9999e hj9999z55 (by first | decide | omega)) xn0))).trans (hF4.2.1 _ xn0))) ((hF98.2.1 _ (xn1 (xne_k hk9999f hk9999z32 (by decide)) (xn1 (xne_j hj9999f hj9999z55 (by first | decide | omega)) xn0))).trans ((hF80.2.1 _ (xn1 (xne_k hk9999f hk9999z32 (by decide)) (xn1 (xne_j hj9999f hj9999z55 (by first | decide | omega)) xn0))).trans (hF4.2.1 _ xn0))) ((hF98.2.1 _ (xn1 (xne_k hk9999g hk9999z32 (by decide)) (xn1 (xne_k hk9999g hk9999z33 (by decide)) xn0))).trans ((hF80.2.1 _ (xn1 (xne_k hk9999g hk9999z32 (by decide)) (xn1 (xne_k hk9999g hk9999z33 (by decide)) xn0))).trans (hF4.2.1 _ xn0))) ((hF98.2.1 _ (xn1 (xne_j hj9999z36 hj9999z53 (by first | decide | omega)) (xn1 (xne_k hk9999w hk9999z33 (by decide)) xn0))).trans ((hF80.2.1 _ (xn1 (xne_j hj9999z36 hj9999z53 (by first | decide | omega)) (xn1 (xne_k hk9999w hk9999z33 (by decide)) xn0))).trans (hF4.2.1 _ xn0))) ((hF98.2.1 _ (xn1 (xne_k hk9999y hk9999z32 (by decide)) (xn1 (xne_j hj9999z38 hj9999z55 (by first | decide | omega)) xn0))).trans ((hF80.2.1 _ (xn1 (xne_k hk9999y hk9999z32 (by decide)) (xn1 (xne_j hj9999z38 hj9999z55 (by first | decide | omega)) xn0))).trans (hF4.2.1 _ xn0))) ((hF98.2.1 _ (xn1 (xne_k hk9999z25 hk9999z32 (by decide)) (xn1 (xne_k hk9999z25 hk9999z33 (by decide)) xn0))).trans ((hF80.2.1 _ (xn1 (xne_k hk9999z25 hk9999z32 (by decide)) (xn1 (xne_k hk9999z25 hk9999z33 (by decide)) xn0))).trans (hF4.2.1 _ xn0))) ((hF98.2.1 _ (xn1 (xne_k hk9999z26 hk9999z32 (by decide)) (xn1 (xne_k hk9999z26 hk9999z33 (by decide)) xn0))).trans ((hF80.2.1 _ (xn1 (xne_k hk9999z26 hk9999z32 (by decide)) (xn1 (xne_k hk9999z26 hk9999z33 (by decide)) xn0))).trans (hF4.2.1 _ xn0))) ((hF98.2.1 _ (xn1 (xne_k hk9999z27 hk9999z32 (by decide)) (xn1 (xne_k hk9999z27 hk9999z33 (by decide)) xn0))).trans ((hF80.2.1 _ (xn1 (xne_k hk9999z27 hk9999z32 (by decide)) (xn1 (xne_k hk9999z27 hk9999z33 (by decide)) xn0))).trans (hF4.2.1 _ xn0))) ((hF98.2.1 _ (xn1 (xne_k hk9999z28 hk9999z32 (by decide)) (xn1 (xne_k hk9999z28 hk9999z33 (by decide)) xn0))).trans ((hF80.2.1 _ (xn1 (xne_k hk9999z28 hk9999z32 (by decide)) (xn1 (xne_k hk9999z28 hk9999z33 (by decide)) xn0))).trans (hF4.2.1 _ xn0))) ((hF98.2.1 _ (xn1 (xne_k hk9999z29 hk9999z32 (by decide)) (xn1 (xne_k hk9999z29 hk9999z33 (by decide)) xn0))).trans ((hF80.2.1 _ (xn1 (xne_k hk9999z29 hk9999z32 (by decide)) (xn1 (xne_k hk9999z29 hk9999z33 (by decide)) xn0))).trans (hF4.2.1 _ xn0))) ((hF98.2.1 _ (xn1 (xne_k hk9999z30 hk9999z32 (by decide)) (xn1 (xne_k hk9999z30 hk9999z33 (by decide)) xn0))).trans ((hF80.2.1 _ (xn1 (xne_k hk9999z30 hk9999z32 (by decide)) (xn1 (xne_k hk9999z30 hk9999z33 (by decide)) xn0))).trans (hF4.2.1 _ xn0))) ((hF98.2.1 _ (xn1 (xne_k hk9999h hk9999z32 (by decide)) (xn1 (xne_k hk9999h hk9999z33 (by decide)) xn0))).trans ((hF80.2.1 _ (xn1 (xne_k hk9999h hk9999z32 (by decide)) (xn1 (xne_k hk9999h hk9999z33 (by decide)) xn0))).trans (hF4.2.1 _ xn0))) ((hF98.2.1 _ (xn1 (xne_k hk9999i hk9999z32 (by decide)) (xn1 (xne_k hk9999i hk9999z33 (by decide)) xn0))).trans ((hF80.2.1 _ (xn1 (xne_k hk9999i hk9999z32 (by decide)) (xn1 (xne_k hk9999i hk9999z33 (by decide)) xn0))).trans (hF4.2.1 _ xn0))) ((hF98.2.1 _ (xn1 (xne_k hk9999j hk9999z32 (by decide)) (xn1 (xne_k hk9999j hk9999z33 (by decide)) xn0))).trans ((hF80.2.1 _ (xn1 (xne_k hk9999j hk9999z32 (by decide)) (xn1 (xne_k hk9999j hk9999z33 (by decide)) xn0))).trans (hF4.2.1 _ xn0))) ((hF98.2.1 _ (xn1 (xne_k hk9999k hk9999z32 (by decide)) (xn1 (xne_k hk9999k hk9999z33 (by decide)) xn0))).trans ((hF80.2.1 _ (xn1 (xne_k hk9999k hk9999z32 (by decide)) (xn1 (xne_k hk9999k hk9999z33 (by decide)) xn0))).trans (hF4.2.1 _ xn0))) ((hF98.2.1 _ (xn1 (xne_k hk9999l hk9999z32 (by decide)) (xn1 (xne_k hk9999l hk9999z33 (by decide)) xn0))).trans ((hF80.2.1 _ (xn1 (xne_k hk9999l hk9999z32 (by decide)) (xn1 (xne_k hk9999l hk9999z33 (by decide)) xn0))).trans (hF4.2.1 _ xn0))) ((hF98.2.1 _ (xn1 (xne_k hk9999m hk9999z32 (by decide)) (xn1 (xne_k hk9999m hk9999z33 (by decide)) xn0))).trans ((hF80.2.1 _ (xn1 (xne_k hk9999m hk9999z32 (by decide)) (xn1 (xne_k hk9999m hk9999z33 (by decide)) xn0))).trans (hF4.2.1 _ xn0))) ((hF98.2.1 _ (xn1 (xne_k hk9999o hk9999z32 (by decide)) (xn1 (xne_k hk9999o hk9999z33 (by decide)) xn0))).trans ((hF80.2.1 _ (xn1 (xne_k hk9999o hk9999z32 (by decide)) (xn1 (xne_k hk9999o hk9999z33 (by decide)) xn0))).trans (hF4.2.1 _ xn0))) ((hF98.2.1 _ (xn1 (xne_k hk9999n hk9999z32 (by decide)) (xn1 (xne_k hk9999n hk9999z33 (by decide)) xn0))).trans ((hF80.2.1 _ (xn1 (xne_k hk9999n hk9999z32 (by decide)) (xn1 (xne_k hk9999n hk9999z33 (by decide)) xn0))).trans (hF4.2.1 _ xn0))) ((hF80.2.2 _ xn0).trans (hF4.2.2 _ xn0)) ((hF98.2.2 _ xn0).trans ((hF80.2.2 _ xn0).trans (hF4.2.2 _ xn0))) ((hF98.2.2 _ xn0).trans ((hF80.2.2 _ xn0).trans (hF4.2.2 _ xn0))) ((hF98.1 _ _ xn0).trans ((hF80.1 _ _ xn0).trans (hF4.1 _ _ (xnj (by decide) xn0)))) ((hF98.1 _ _ xn0).trans ((hF80.1 _ _ xn0).trans (hF4.1 _ _ (xnj (by decide) xn0)))) ((hF98.1 _ _ xn0).trans (hF80.1 _ _ xn0)) ((hF98.1 _ _ xn0).trans ((hF80.1 _ _ xn0).trans (hF4.1 _ _ (xnj (by decide) xn0)))) ((hF98.1 _ _ xn0).trans ((hF80.1 _ _ xn0).trans (hF4.1 _ _ (xnj (by decide) xn0)))) ((hF98.1 _ _ xn0).trans ((hF80.1 _ _ xn0).trans (hF4.1 _ _ (xnj (by decide) xn0)))) ((hF98.1 _ _ xn0).trans ((hF80.1 _ _ xn0).trans (hF4.1 _ _ (xnj (by decide) xn0))))) (v_X10_rekey_102_15 (K := K) (F := F) a G G98 G4 G80 p0 p1 p2 x8 x15 x22 x40 x59 ha hk9999 hj9999 hk9999a hj9999a hk9999b hj9999b hk9999c hj9999c hk9999d hj9999d hk9999e hj9999e hk9999f hj9999f hk9999g hj9999g hk9999h hj9999i hk9999i hj9999k hk9999j hj9999m hk9999k hj9999o hk9999l hj9999q hk9999m hj9999s hk9999n hj9999t hk9999o hj9999u hk9999p hj9999w hk9999q hj9999z25 hk9999r hj9999z27 hk9999s hj9999z29 hk9999t hj9999z31 hk9999u hj9999z33 hk9999v hj9999z34 hk9999w hj9999z36 hk9999y hj9999z38 hk9999z25 hj9999z40 hk9999z26 hj9999z42 hk9999z27 hj9999z44 hk9999z28 hj9999z46 hk9999z29 hj9999z48 hk9999z30 hj9999z50 hk9999z31 hj9999z51 hk9999z32 hj9999z53 hk9999z33 hj9999z55 hk9999z34 hj9999z56 hk9999z35 hj9999z57 hk9999z36 hj9999z58 hk9999z37 hj9999z59 hk9999z38 hj9999z61 hk9999z39 hj9999z63 hk84 hj84 (XFr.call (XFr.call (XFr.call XFr.rf hF4 (xm1 2 rfl xm0) xm0 xm0) hF80 xm0 (xm1 25 rfl (xm1 26 rfl xm0)) xm0) hF98 xm0 (xm1 25 rfl (xm1 26 rfl xm0)) xm0) hF4 hF80 hF98 ron rob bko bkn hac oq80 oq80a oq98 oq98a sb sw t4 t8 c11 t15 c18 t22 c25 t40 c43 t59 c62 z83 z83a ((hF98.2.1 _ (xn1 (xne_k hk9999p hk9999z32 (by decide)) (xn1 (xne_k hk9999p hk9999z33 (by decide)) xn0))).trans ((hF80.2.1 _ (xn1 (xne_k hk9999p hk9999z32 (by decide)) (xn1 (xne_k hk9999p hk9999z33 (by decide)) xn0))).trans (hF4.2.1 _ xn0))) ((hF98.2.1 _ (xn1 (xne_k hk9999q hk9999z32 (by decide)) (xn1 (xne_k hk9999q hk9999z33 (by decide)) xn0))).trans ((hF80.2.1 _ (xn1 (xne_k hk9999q hk9999z32 (by decide)) (xn1 (xne_k hk9999q hk9999z33 (by decide)) xn0))).trans (hF4.2.1 _ xn0))) ((hF98.2.1 _ (xn1 (xne_k hk9999r hk9999z32 (by decide)) (xn1 (xne_k hk9999r hk9999z33 (by decide)) xn0))).trans ((hF80.2.1 _ (xn1 (xne_k hk9999r hk9999z32 (by decide)) (xn1 (xne_k hk9999r hk9999z33 (by decide)) xn0))).trans (hF4.2.1 _ xn0))) ((hF98.2.1 _ (xn1 (xne_k hk9999s hk9999z32 (by decide)) (xn1 (xne_k hk9999s hk9999z33 (by decide)) xn0))).trans ((hF80.2.1 _ (xn1 (xne_k hk9999s hk9999z32 (by decide)) (xn1 (xne_k hk9999s hk9999z33 (by decide)) xn0))).trans (hF4.2.1 _ xn0))) ((hF98.2.1 _ (xn1 (xne_k hk9999t hk9999z32 (by decide)) (xn1 (xne_k hk9999t hk9999z33 (by decide)) xn0))).trans ((hF80.2.1 _ (xn1 (xne_k hk9999t hk9999z32 (by decide)) (xn1 (xne_k hk9999t hk9999z33 (by decide)) xn0))).trans (hF4.2.1 _ xn0))) ((hF98.2.1 _ (xn1 (xne_k hk9999u hk9999z32 (by decide)) (xn1 (xne_k hk9999u hk9999z33 (by decide)) xn0))).trans ((hF80.2.1 _ (xn1 (xne_k hk9999u hk9999z32 (by decide)) (xn1 (xne_k hk9999u hk9999z33 (by decide)) xn0))).trans (hF4.2.1 _ xn0))) ((hF98.2.1 _ (xn1 (xne_k hk9999e hk9999z32 (by decide)) (xn1 (xne_j hj9999e hj9999z55 (by first | decide | omega)) xn0))).trans ((hF80.2.1 _ (xn1 (xne_k hk9999e hk9999z32 (by decide)) (xn1 (xne_j hj9999e hj9999z55 (by first | decide | omega)) xn0))).trans (hF4.2.1 _ xn0))) ((hF98.2.1 _ (xn1 (xne_k hk9999f hk9999z32 (by decide)) (xn1 (xne_j hj9999f hj9999z55 (by first | decide | omega)) xn0))).trans ((hF80.2.1 _ (xn1 (xne_k hk9999f hk9999z32 (by decide)) (xn1 (xne_j hj9999f hj9999z55 (by first | decide | omega)) xn0))).trans (hF4.2.1 _ xn0))) ((hF98.2.1 _ (xn1 (xne_k hk9999g hk9999z32 (by decide)) (xn1 (xne_k hk9999g hk9999z33 (by decide)) xn0))).trans ((hF80.2.1 _ (xn1 (xne_k hk9999g hk9999z32 (by decide)) (xn1 (xne_k hk9999g hk9999z33 (by decide)) xn0))).trans (hF4.2.1 _ xn0))) ((hF98.2.1 _ (xn1 (xne_j hj9999z36 hj9999z53 (by first | decide | omega)) (xn1 (xne_k hk9999w hk9999z33 (by decide)) xn0))).trans ((hF80.2.1 _ (xn1 (xne_j hj9999z36 hj9999z53 (by first | decide | omega)) (xn1 (xne_k hk9999w hk9999z33 (by decide)) xn0))).trans (hF4.2.1 _ xn0))) ((hF98.2.1 _ (xn1 (xne_k hk9999y hk9999z32 (by decide)) (xn1 (xne_j hj9999z38 hj9999z55 (by first | decide | omega)) xn0))).trans ((hF80.2.1 _ (xn1 (xne_k hk9999y hk9999z32 (by decide)) (xn1 (xne_j hj9999z38 hj9999z55 (by first | decide | omega)) xn0))).trans (hF4.2.1 _ xn0))) ((hF98.2.1 _ (xn1 (xne_k hk9999z25 hk9999z32 (by decide)) (xn1 (xne_k hk9999z25 hk9999z33 (by decide)) xn0))).trans ((hF80.2.1 _ (xn1 (xne_k hk9999z25 hk9999z32 (by decide)) (xn1 (xne_k hk9999z25 hk9999z33 (by decide)) xn0))).trans (hF4.2.1 _ xn0))) ((hF98.2.1 _ (xn1 (xne_k hk9999z26 hk9999z32 (by decide)) (xn1 (xne_k hk9999z26 hk9999z33 (by decide)) xn0))).trans ((hF80.2.1 _ (xn1 (xne_k hk9999z26 hk9999z32 (by decide)) (xn1 (xne_k hk9999z26 hk9999z33 (by decide)) xn0))).trans (hF4.2.1 _ xn0))) ((hF98.2.1 _ (xn1 (xne_k hk9999z27 hk9999z32 (by decide)) (xn1 (xne_k hk9999z27 hk9999z33 (by decide)) xn0))).trans ((hF80.2.1 _ (xn1 (xne_k hk9999z27 hk9999z32 (by decide)) (xn1 (xne_k hk9999z27 hk9999z33 (by decide)) xn0))).trans (hF4.2.1 _ xn0))) ((hF98.2.1 _ (xn1 (xne_k hk9999z28 hk9999z32 (by decide)) (xn1 (xne_k hk9999z28 hk9999z33 (by decide)) xn0))).trans ((hF80.2.1 _ (xn1 (xne_k hk9999z28 hk9999z32 (by decide)) (xn1 (xne_k hk9999z28 hk9999z33 (by decide)) xn0))).trans (hF4.2.1 _ xn0))) ((hF98.2.1 _ (xn1 (xne_k hk9999z29 hk9999z32 (by decide)) (xn1 (xne_k hk9999z29 hk9999z33 (by decide)) xn0))).trans ((hF80.2.1 _ (xn1 (xne_k hk9999z29 hk9999z32 (by decide)) (xn1 (xne_k hk9999z29 hk9999z33 (by decide)) xn0))).trans (hF4.2.1 _ xn0))) ((hF98.2.1 _ (xn1 (xne_k hk9999z30 hk9999z32 (by decide)) (xn1 (xne_k hk9999z30 hk9999z33 (by decide)) xn0))).trans ((hF80.2.1 _ (xn1 (xne_k hk9999z30 hk9999z32 (by decide)) (xn1 (xne_k hk9999z30 hk9999z33 (by decide)) xn0))).trans (hF4.2.1 _ xn0))) ((hF98.2.1 _ (xn1 (xne_k hk9999h hk9999z32 (by decide)) (xn1 (xne_k hk9999h hk9999z33 (by decide)) xn0))).trans ((hF80.2.1 _ (xn1 (xne_k hk9999h hk9999z32 (by decide)) (xn1 (xne_k hk9999h hk9999z33 (by decide)) xn0))).trans (hF4.2.1 _ xn0))) ((hF98.2.1 _ (xn1 (xne_k hk9999i hk9999z32 (by decide)) (xn1 (xne_k hk9999i hk9999z33 (by decide)) xn0))).trans ((hF80.2.1 _ (xn1 (xne_k hk9999i hk9999z32 (by decide)) (xn1 (xne_k hk9999i hk9999z33 (by decide)) xn0))).trans (hF4.2.1 _ xn0))) ((hF98.2.1 _ (xn1 (xne_k hk9999j hk9999z32 (by decide)) (xn1 (xne_k hk9999j hk9999z33 (by decide)) xn0))).trans ((hF80.2.1 _ (xn1 (xne_k hk9999j hk9999z32 (by decide)) (xn1 (xne_k hk9999j hk9999z33 (by decide)) xn0))).trans (hF4.2.1 _ xn0))) ((hF98.2.1 _ (xn1 (xne_k hk9999k hk9999z32 (by decide)) (xn1 (xne_k hk9999k hk9999z33 (by decide)) xn0))).trans ((hF80.2.1 _ (xn1 (xne_k hk9999k hk9999z32 (by decide)) (xn1 (xne_k hk9999k hk9999z33 (by decide)) xn0))).trans (hF4.2.1 _ xn0))) ((hF98.2.1 _ (xn1 (xne_k hk9999l hk9999z32 (by decide)) (xn1 (xne_k hk9999l hk9999z33 (by decide)) xn0))).trans ((hF80.2.1 _ (xn1 (xne_k hk9999l hk9999z32 (by decide)) (xn1 (xne_k hk9999l hk9999z33 (by decide)) xn0))).trans (hF4.2.1 _ xn0))) ((hF98.2.1 _ (xn1 (xne_k hk9999m hk9999z32 (by decide)) (xn1 (xne_k hk9999m hk9999z33 (by decide)) xn0))).trans ((hF80.2.1 _ (xn1 (xne_k hk9999m hk9999z32 (by decide)) (xn1 (xne_k hk9999m hk9999z33 (by decide)) xn0))).trans (hF4.2.1 _ xn0))) ((hF98.2.1 _ (xn1 (xne_k hk9999o hk9999z32 (by decide)) (xn1 (xne_k hk9999o hk9999z33 (by decide)) xn0))).trans ((hF80.2.1 _ (xn1 (xne_k hk9999o hk9999z32 (by decide)) (xn1 (xne_k hk9999o hk9999z33 (by decide)) xn0))).trans (hF4.2.1 _ xn0))) ((hF98.2.1 _ (xn1 (xne_k hk9999n hk9999z32 (by decide)) (xn1 (xne_k hk9999n hk9999z33 (by decide)) xn0))).trans ((hF80.2.1 _ (xn1 (xne_k hk9999n hk9999z32 (by decide)) (xn1 (xne_k hk9999n hk9999z33 (by decide)) xn0))).trans (hF4.2.1 _ xn0))) ((hF80.2.2 _ xn0).trans (hF4.2.2 _ xn0)) ((hF98.2.2 _ xn0).trans ((hF80.2.2 _ xn0).trans (hF4.2.2 _ xn0))) ((hF98.2.2 _ xn0).trans ((hF80.2.2 _ xn0).trans (hF4.2.2 _ xn0))) ((hF98.1 _ _ xn0).trans ((hF80.1 _ _ xn0).trans (hF4.1 _ _ (xnj (by decide) xn0)))) ((hF98.1 _ _ xn0).trans ((hF80.1 _ _ xn0).trans (hF4.1 _ _ (xnj (by decide) xn0)))) ((hF98.1 _ _ xn0).trans (hF80.1 _ _ xn0)) ((hF98.1 _ _ xn0).trans ((hF80.1 _ _ xn0).trans (hF4.1 _ _ (xnj (by decide) xn0)))) ((hF98.1 _ _ xn0).trans ((hF80.1 _ _ xn0).trans (hF4.1 _ _ (xnj (by decide) xn0)))) ((hF98.1 _ _ xn0).trans ((hF80.1 _ _ xn0).trans (hF4.1 _ _ (xnj (by decide) xn0)))) ((hF98.1 _ _ xn0).trans ((hF80.1 _ _ xn0).trans (hF4.1 _ _ (xnj (by decide) xn0)))))) mv_X10_actAsOnPaper km_X10_207 rfl rfl ⟨Nat.le_of_ble_eq_true rfl, Nat.le_of_ble_eq_true rfl⟩ (rc_12 hK hT ha) hK (fun _ => XP.blind) (fun U hU hW => XP.at hK hz hS hT hU hW) rfl hl.1 (Nat.le_of_ble_eq_true rfl) dX10_rekey_102 ⟨Nat.le_of_ble_eq_true rfl, Nat.le_of_ble_eq_true rfl⟩) hS ?_
            rintro _ G102 H locs ⟨x102, rfl, hF102, t102, oq102, oq102a⟩ hT hS
            have t102 : 0 ≤ ((G102.1 (F a 8) 6).toInt) ∧ ((G102.1 (F a 8) 6).toInt) ≤ 1080 := t102
            have oq102 : ActR ((G.1 a 18).toInt) x102.toInt (gaL G98 (G98.2.2.1 (F (F a 2) 1)) (vw (G.2.1 (F (F a 3) 0))) (vw (G98.2.1 (F (F a 5) 0))) 0 (((G.1 (F a 2) 2).toInt)).toNat) (vw (G.2.1 (F (F a 3) 0))) (vw (G102.2.1 (F (F a 3) 0))) (vw (G98.2.1 (F (F a 5) 0))) (qL G98 F (F a 8)) (qL G102 F (F a 8)) (gaL G98 (G98.2.2.1 (F (F a 2) 1)) (vw (G.2.1 (F (F a 4) 0))) (vw (G98.2.1 (F (F a 5) 0))) 1 (((G.1 (F a 2) 2).toInt)).toNat) := by simp only [(show G98.1 a 18 = G.1 a 18 from ((hF98.1 _ _ xn0).trans ((hF80.1 _ _ xn0).trans (hF4.1 _ _ (xnj (by decide) xn0))))), (show G98.2.1 (F (F a 3) 0) = G.2.1 (F (F a 3) 0) from ((hF98.2.1 _ (xn1 (xne_j hj9999z36 hj9999z53 (by first | decide | omega)) (xn1 (xne_k hk9999w hk9999z33 (by decide)) xn0))).trans ((hF80.2.1 _ (xn1 (xne_j hj9999z36 hj9999z53 (by first | decide | omega)) (xn1 (xne_k hk9999w hk9999z33 (by decide)) xn0))).trans (hF4.2.1 _ xn0)))), (show G98.1 (F a 2) 2 = G.1 (F a 2) 2 from ((hF98.1 _ _ xn0).trans ((hF80.1 _ _ xn0).trans (hF4.1 _ _ (xnj (by decide) xn0))))), (show G98.2.1 (F (F a 4) 0) = G.2.1 (F (F a 4) 0) from ((hF98.2.1 _ (xn1 (xne_j hj9999z61 hj9999z53 (by first | decide | omega)) (xn1 (xne_k hk9999z38 hk9999z33 (by decide)) xn0))).trans ((hF80.2.1 _ (xn1 (xne_j hj9999z61 hj9999z53 (by first | decide | omega)) (xn1 (xne_k hk9999z38 hk9999z33 (by decide)) xn0))).trans (hF4.2.1 _ xn0))))] at oq102; exact oq102
            exact x_ri hx hb hr hlk hQ (Nat.le_of_ble_eq_true rfl) (Nat.le_of_ble_eq_true rfl) hS dX10_rekey_105 G102 ⟨_, rfl, (XFr.call (XFr.call (XFr.call (XFr.call XFr.rf hF4 (xm1 2 rfl xm0) xm0 xm0) hF80 xm0 (xm1 25 rfl (xm1 26 rfl xm0)) xm0) hF98 xm0 (xm1 25 rfl (xm1 26 rfl xm0)) xm0) hF102 (xm1 0 rfl (xm1 1 rfl (xm1 2 rfl (xm1 3 rfl (xm1 4 rfl (xm1 5 rfl (xm1 6 rfl xm0))))))) (xm1 0 rfl (xm1 1 rfl (xm1 2 rfl (xm1 3 rfl (xm1 4 rfl (xm1 5 rfl (xm1 6 rfl (xm1 7 rfl (xm1 8 rfl (xm1 9 rfl (xm1 10 rfl (xm1 11 rfl (xm1 12 rfl (xm1 13 rfl (xm1 14 rfl (xm1 15 rfl (xm1 16 rfl (xm1 17 rfl (xm1 18 rfl (xm1 19 rfl (xm1 20 rfl (xm1 21 rfl (xm1 22 rfl (xm1 23 rfl (xm1 24 rfl xm0))))))))))))))))))))))))) xm0), (t102), (v_X10_rekey_105_16 (K := K) (F := F) a G G102 G4 G80 G98 p0 p1 p2 x102 x8 x15 x22 x40 x59 ha hk9999 hj9999 hk9999a hj9999a hk9999b hj9999b hk9999c hj9999c hk9999d hj9999d hk9999e hj9999e hk9999f hj9999f hk9999g hj9999g hk9999h hj9999i hk9999i hj9999k hk9999j hj9999m hk9999k hj9999o hk9999l hj9999q hk9999m hj9999s hk9999n hj9999t hk9999o hj9999u hk9999p hj9999w hk9999q hj9999z25 hk9999r hj9999z27 hk9999s hj9999z29 hk9999t hj9999z31 hk9999u hj9999z33 hk9999v hj9999z34 hk9999w hj9999z36 hk9999y hj9999z38 hk9999z25 hj9999z40 hk9999z26 hj9999z42 hk9999z27 hj9999z44 hk9999z28 hj9999z46 hk9999z29 hj9999z48 hk9999z30 hj9999z50 hk9999z31 hj9999z51 hk9999z32 hj9999z53 hk9999z33 hj9999z55 hk9999z34 hj9999z56 hk9999z35 hj9999z57 hk9999z36 hj9999z58 hk9999z37 hj9999z59 hk9999z38 hj9999z61 hk9999z39 hj9999z63 hk84 hj84 (XFr.call (XFr.call (XFr.call (XFr.call XFr.rf hF4 (xm1 2 rfl xm0) xm0 xm0) hF80 xm0 (xm1 25 rfl (xm1 26 rfl xm0)) xm0) hF98 xm0 (xm1 25 rfl (xm1 26 rfl xm0)) xm0) hF102 (xm1 0 rfl (xm1 1 rfl (xm1 2 rfl (xm1 3 rfl (xm1 4 rfl (xm1 5 rfl (xm1 6 rfl xm0))))))) (xm1 0 rfl (xm1 1 rfl (xm1 2 rfl (xm1 3 rfl (xm1 4 rfl (xm1 5 rfl (xm1 6 rfl (xm1 7 rfl (xm1 8 rfl (xm1 9 rfl (xm1 10 rfl (xm1 11 rfl (xm1 12 rfl (xm1 13 rfl (xm1 14 rfl (xm1 15 rfl (xm1 16 rfl (xm1 17 rfl (xm1 18 rfl (xm1 19 rfl (xm1 20 rfl (xm1 21 rfl (xm1 22 rfl (xm1 23 rfl (xm1 24 rfl xm0))))))))))))))))))))))))) xm0) hF98 hF102 bko bkn oq80 oq98 oq102 sb sw t4 t8 c11 t15 c18 t22 c25 t40 c43 t59 c62 z83 z83a t102 ((hF98.2.1 _ (xn1 (xne_k hk9999z25 hk9999z32 (by decide)) (xn1 (xne_k hk9999z25 hk9999z33 (by decide)) xn0))).trans ((hF80.2.1 _ (xn1 (xne_k hk9999z25 hk9999z32 (by decide)) (xn1 (xne_k hk9999z25 hk9999z33 (by decide)) xn0))).trans (hF4.2.1 _ xn0))) ((hF98.2.1 _ (xn1 (xne_k hk9999z26 hk9999z32 (by decide)) (xn1 (xne_k hk9999z26 hk9999z33 (by decide)) xn0))).trans ((hF80.2.1 _ (xn1 (xne_k hk9999z26 hk9999z32 (by decide)) (xn1 (xne_k hk9999z26 hk9999z33 (by decide)) xn0))).trans (hF4.2.1 _ xn0))) ((hF98.2.1 _ (xn1 (xne_k hk9999z27 hk9999z32 (by decide)) (xn1 (xne_k hk9999z27 hk9999z33 (by decide)) xn0))).trans ((hF80.2.1 _ (xn1 (xne_k hk9999z27 hk9999z32 (by decide)) (xn1 (xne_k hk9999z27 hk9999z33 (by decide)) xn0))).trans (hF4.2.1 _ xn0))) ((hF98.2.1 _ (xn1 (xne_k hk9999z28 hk9999z32 (by decide)) (xn1 (xne_k hk9999z28 hk9999z33 (by decide)) xn0))).trans ((hF80.2.1 _ (xn1 (xne_k hk9999z28 hk9999z32 (by decide)) (xn1 (xne_k hk9999z28 hk9999z33 (by decide)) xn0))).trans (hF4.2.1 _ xn0))) ((hF98.2.1 _ (xn1 (xne_k hk9999z29 hk9999z32 (by decide)) (xn1 (xne_k hk9999z29 hk9999z33 (by decide)) xn0))).trans ((hF80.2.1 _ (xn1 (xne_k hk9999z29 hk9999z32 (by decide)) (xn1 (xne_k hk9999z29 hk9999z33 (by decide)) xn0))).trans (hF4.2.1 _ xn0))) ((hF98.2.1 _ (xn1 (xne_k hk9999z30 hk9999z32 (by decide)) (xn1 (xne_k hk9999z30 hk9999z33 (by decide)) xn0))).trans ((hF80.2.1 _ (xn1 (xne_k hk9999z30 hk9999z32 (by decide)) (xn1 (xne_k hk9999z30 hk9999z33 (by decide)) xn0))).trans (hF4.2.1 _ xn0))) ((hF80.2.2 _ xn0).trans (hF4.2.2 _ xn0)) ((hF98.2.2 _ xn0).trans ((hF80.2.2 _ xn0).trans (hF4.2.2 _ xn0))) ((hF98.1 _ _ xn0).trans ((hF80.1 _ _ xn0).trans (hF4.1 _ _ (xnj (by decide) xn0))))), (v_X10_rekey_105_17 (F := F) a G102 oq102a)⟩ hT
          · refine lv_aload_n hx hb dX10_rekey_65 rfl (lv_at hl 0 rfl) ?_
            refine lv_bipush (v := (-4)) hx hb dX10_rekey_66 (by decide) ?_
            refine x_cl0 (x_runV (b := a) (As := [.int (-4)]) (rest := []) S (c_X10_refuseAct l E K F G4 a (-4) ha) mv_X10_refuseAct km_X10_188 rfl rfl ⟨Nat.le_of_ble_eq_true rfl, Nat.le_of_ble_eq_true rfl⟩ (rc_12 hK hT ha) hK (fun _ => XP.blind) (fun U hU hW => XP.at hK hz hS hT hU hW) rfl hl.1 (Nat.le_of_ble_eq_true rfl) dX10_rekey_68 ⟨Nat.le_of_ble_eq_true rfl, Nat.le_of_ble_eq_true rfl⟩) hS ?_
            rintro _ G68 H locs ⟨x68, rfl, hF68, t68⟩ hT hS
            have t68 : x68.toInt = (-4 : Int) := by rw [((by decide) : Int32.toInt (-4) = (-4 : Int))] at t68; exact t68
            exact x_ri hx hb hr hlk hQ (Nat.le_of_ble_eq_true rfl) (Nat.le_of_ble_eq_true rfl) hS dX10_rekey_71 G68 ⟨_, rfl, (XFr.call (XFr.call XFr.rf hF4 (xm1 2 rfl xm0) xm0 xm0) hF68 xm0 (xm1 10 rfl xm0) xm0), (by rw [(show (G68.1 (F a 8) 6).toInt = ((G.1 (F a 8) 6).toInt) from (congrArg Int32.toInt ((hF68.1 _ _ xn0).trans (hF4.1 _ _ (xnj (by decide) xn0)))).trans (rfl : Int32.toInt (G.1 (F a 8) 6) = ((G.1 (F a 8) 6).toInt)))] <;> exact (sw)), (by rw [(t68 : Int32.toInt x68 = (-4 : Int))] <;> exact (v_X10_rekey_71_18 (K := K) (F := F) a G G68 G4 x8 p0 x15 p1 x22 p2 x40 x59 ha sb sw t4 t8 c11 t15 c18 t22 c25 t40 c43 t59 c62 ((hF68.2.1 _ (xn1 (xne_k hk9999w hk9999o (by decide)) xn0)).trans (hF4.2.1 _ xn0)) ((hF68.2.1 _ (xn1 (xne_k hk9999z25 hk9999o (by decide)) xn0)).trans (hF4.2.1 _ xn0)) ((hF68.2.1 _ (xn1 (xne_k hk9999z26 hk9999o (by decide)) xn0)).trans (hF4.2.1 _ xn0)) ((hF68.2.1 _ (xn1 (xne_k hk9999z27 hk9999o (by decide)) xn0)).trans (hF4.2.1 _ xn0)) ((hF68.2.1 _ (xn1 (xne_k hk9999z28 hk9999o (by decide)) xn0)).trans (hF4.2.1 _ xn0)) ((hF68.2.1 _ (xn1 (xne_k hk9999z29 hk9999o (by decide)) xn0)).trans (hF4.2.1 _ xn0)) ((hF68.2.1 _ (xn1 (xne_k hk9999z30 hk9999o (by decide)) xn0)).trans (hF4.2.1 _ xn0)) ((hF68.1 _ _ xn0).trans (hF4.1 _ _ (xnj (by decide) xn0))))), (v_X10_rekey_71_19 (F := F) a G G68 ron ((hF68.2.1 _ (xn1 (xne_k hk9999w hk9999o (by decide)) xn0)).trans (hF4.2.1 _ xn0)) ((hF68.2.1 _ (xn1 (xne_k hk9999y hk9999o (by decide)) xn0)).trans (hF4.2.1 _ xn0)))⟩ hT
        · refine lv_aload_n hx hb dX10_rekey_46 rfl (lv_at hl 0 rfl) ?_
          refine lv_bipush (v := (-2)) hx hb dX10_rekey_47 (by decide) ?_
          refine x_cl0 (x_runV (b := a) (As := [.int (-2)]) (rest := []) S (c_X10_refuseAct l E K F G4 a (-2) ha) mv_X10_refuseAct km_X10_188 rfl rfl ⟨Nat.le_of_ble_eq_true rfl, Nat.le_of_ble_eq_true rfl⟩ (rc_12 hK hT ha) hK (fun _ => XP.blind) (fun U hU hW => XP.at hK hz hS hT hU hW) rfl hl.1 (Nat.le_of_ble_eq_true rfl) dX10_rekey_49 ⟨Nat.le_of_ble_eq_true rfl, Nat.le_of_ble_eq_true rfl⟩) hS ?_
          rintro _ G49 H locs ⟨x49, rfl, hF49, t49⟩ hT hS
          have t49 : x49.toInt = (-2 : Int) := by rw [((by decide) : Int32.toInt (-2) = (-2 : Int))] at t49; exact t49
          exact x_ri hx hb hr hlk hQ (Nat.le_of_ble_eq_true rfl) (Nat.le_of_ble_eq_true rfl) hS dX10_rekey_52 G49 ⟨_, rfl, (XFr.call (XFr.call XFr.rf hF4 (xm1 2 rfl xm0) xm0 xm0) hF49 xm0 (xm1 10 rfl xm0) xm0), (by rw [(show (G49.1 (F a 8) 6).toInt = ((G.1 (F a 8) 6).toInt) from (congrArg Int32.toInt ((hF49.1 _ _ xn0).trans (hF4.1 _ _ (xnj (by decide) xn0)))).trans (rfl : Int32.toInt (G.1 (F a 8) 6) = ((G.1 (F a 8) 6).toInt)))] <;> exact (sw)), (by rw [(t49 : Int32.toInt x49 = (-2 : Int))] <;> exact (v_X10_rekey_52_20 (K := K) (F := F) a G G49 G4 x8 p0 x15 p1 x22 p2 x40 ha sb sw t4 t8 c11 t15 c18 t22 c25 t40 c43 ((hF49.2.1 _ (xn1 (xne_k hk9999w hk9999o (by decide)) xn0)).trans (hF4.2.1 _ xn0)) ((hF49.2.1 _ (xn1 (xne_k hk9999z25 hk9999o (by decide)) xn0)).trans (hF4.2.1 _ xn0)) ((hF49.2.1 _ (xn1 (xne_k hk9999z26 hk9999o (by decide)) xn0)).trans (hF4.2.1 _ xn0)) ((hF49.2.1 _ (xn1 (xne_k hk9999z27 hk9999o (by decide)) xn0)).trans (hF4.2.1 _ xn0)) ((hF49.2.1 _ (xn1 (xne_k hk9999z28 hk9999o (by decide)) xn0)).trans (hF4.2.1 _ xn0)) ((hF49.2.1 _ (xn1 (xne_k hk9999z29 hk9999o (by decide)) xn0)).trans (hF4.2.1 _ xn0)) ((hF49.2.1 _ (xn1 (xne_k hk9999z30 hk9999o (by decide)) xn0)).trans (hF4.2.1 _ xn0)) ((hF49.1 _ _ xn0).trans (hF4.1 _ _ (xnj (by decide) xn0))))), (v_X10_rekey_52_21 (F := F) a G G49 ron ((hF49.2.1 _ (xn1 (xne_k hk9999w hk9999o (by decide)) xn0)).trans (hF4.2.1 _ xn0)) ((hF49.2.1 _ (xn1 (xne_k hk9999y hk9999o (by decide)) xn0)).trans (hF4.2.1 _ xn0)))⟩ hT
      · refine lv_aload_n hx hb dX10_rekey_28 rfl (lv_at hl 0 rfl) ?_
        refine lv_iconst (v := (-1)) hx hb dX10_rekey_29 (by decide) ?_
        refine x_cl0 (x_runV (b := a) (As := [.int (-1)]) (rest := []) S (c_X10_refuseAct l E K F G4 a (-1) ha) mv_X10_refuseAct km_X10_188 rfl rfl ⟨Nat.le_of_ble_eq_true rfl, Nat.le_of_ble_eq_true rfl⟩ (rc_12 hK hT ha) hK (fun _ => XP.blind) (fun U hU hW => XP.at hK hz hS hT hU hW) rfl hl.1 (Nat.le_of_ble_eq_true rfl) dX10_rekey_30 ⟨Nat.le_of_ble_eq_true rfl, Nat.le_of_ble_eq_true rfl⟩) hS ?_
        rintro _ G30 H locs ⟨x30, rfl, hF30, t30⟩ hT hS
        have t30 : x30.toInt = (-1 : Int) := by rw [((by decide) : Int32.toInt (-1) = (-1 : Int))] at t30; exact t30
        exact x_ri hx hb hr hlk hQ (Nat.le_of_ble_eq_true rfl) (Nat.le_of_ble_eq_true rfl) hS dX10_rekey_33 G30 ⟨_, rfl, (XFr.call (XFr.call XFr.rf hF4 (xm1 2 rfl xm0) xm0 xm0) hF30 xm0 (xm1 10 rfl xm0) xm0), (by rw [(show (G30.1 (F a 8) 6).toInt = ((G.1 (F a 8) 6).toInt) from (congrArg Int32.toInt ((hF30.1 _ _ xn0).trans (hF4.1 _ _ (xnj (by decide) xn0)))).trans (rfl : Int32.toInt (G.1 (F a 8) 6) = ((G.1 (F a 8) 6).toInt)))] <;> exact (sw)), (by rw [(t30 : Int32.toInt x30 = (-1 : Int))] <;> exact (v_X10_rekey_33_22 (K := K) (F := F) a G G30 G4 x8 p0 x15 p1 x22 p2 ha sb sw t4 t8 c11 t15 c18 t22 c25 ((hF30.2.1 _ (xn1 (xne_k hk9999w hk9999o (by decide)) xn0)).trans (hF4.2.1 _ xn0)) ((hF30.2.1 _ (xn1 (xne_k hk9999z25 hk9999o (by decide)) xn0)).trans (hF4.2.1 _ xn0)) ((hF30.2.1 _ (xn1 (xne_k hk9999z26 hk9999o (by decide)) xn0)).trans (hF4.2.1 _ xn0)) ((hF30.2.1 _ (xn1 (xne_k hk9999z27 hk9999o (by decide)) xn0)).trans (hF4.2.1 _ xn0)) ((hF30.2.1 _ (xn1 (xne_k hk9999z28 hk9999o (by decide)) xn0)).trans (hF4.2.1 _ xn0)) ((hF30.2.1 _ (xn1 (xne_k hk9999z29 hk9999o (by decide)) xn0)).trans (hF4.2.1 _ xn0)) ((hF30.2.1 _ (xn1 (xne_k hk9999z30 hk9999o (by decide)) xn0)).trans (hF4.2.1 _ xn0)) ((hF30.1 _ _ xn0).trans (hF4.1 _ _ (xnj (by decide) xn0))))), (v_X10_rekey_33_23 (F := F) a G G30 ron ((hF30.2.1 _ (xn1 (xne_k hk9999w hk9999o (by decide)) xn0)).trans (hF4.2.1 _ xn0)) ((hF30.2.1 _ (xn1 (xne_k hk9999y hk9999o (by decide)) xn0)).trans (hF4.2.1 _ xn0)))⟩ hT
