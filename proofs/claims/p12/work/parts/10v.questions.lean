theorem v_X4_add_95_1 {K : Nat → Nat} {F : Nat → Nat → Nat} (a : Nat) (p0 : Nat) (G : XG) (p1 : Int32) (p2 : Int32) (p3 : Int32) (p4 : Int32)
    (ha : K a = 6)
    (hp0 : K p0 = 9)
    (s0 : 0 ≤ ((G.1 a 6).toInt) ∧ ((G.1 a 6).toInt) < 1080)
    (c4 : ((G.1 a 6).toInt) < 0) :
    qL G F a = qL G F a ++ [(((G.1 p0 1).toInt), p1.toInt, p2.toInt, p3.toInt, ((G.1 p0 9).toInt), p4.toInt)] := by
  first | (exfalso; omega) | skip
  all_goals (
    have e9 : (G.1 a 6).toNatClampNeg = (G.1 a 6).toInt.toNat := rfl
    refine qL_push (n := (G.1 a 6).toInt.toNat) (by omega) (by rw [d_G92_a_6, e91]; omega) ?_ ?_ ?_ ?_ ?_ ?_
    · intro j; rw [c_G92_F_a_0, cput_j hG29, e9]
    · intro j; rw [c_G92_F_a_1, cput_j hG39, c_G29_F_a_1, e9]
    · intro j; rw [c_G92_F_a_2, cput_j hG49, c_G39_F_a_2, e9]
    · intro j; rw [c_G92_F_a_3, cput_j hG60, c_G49_F_a_3, e9]
    · intro j; rw [c_G92_F_a_4, cput_j hG73, c_G60_F_a_4, e9]
    · intro j; rw [c_G92_F_a_5, cput_j hG84, c_G73_F_a_5, e9])
theorem v_X4_add_95_2 {K : Nat → Nat} {F : Nat → Nat → Nat} (a : Nat) (p0 : Nat) (G : XG) (p1 : Int32) (p2 : Int32) (p3 : Int32) (p4 : Int32)
    (ha : K a = 6)
    (hp0 : K p0 = 9)
    (s0 : 0 ≤ ((G.1 a 6).toInt) ∧ ((G.1 a 6).toInt) < 1080)
    (c4 : ¬ (((G.1 a 6).toInt) < 0))
    (c14 : (1080 : Int) ≤ ((G.1 a 6).toInt)) :
    qL G F a = qL G F a ++ [(((G.1 p0 1).toInt), p1.toInt, p2.toInt, p3.toInt, ((G.1 p0 9).toInt), p4.toInt)] := by
  first | (exfalso; omega) | skip
  all_goals (
    have e9 : (G.1 a 6).toNatClampNeg = (G.1 a 6).toInt.toNat := rfl
    refine qL_push (n := (G.1 a 6).toInt.toNat) (by omega) (by rw [d_G92_a_6, e91]; omega) ?_ ?_ ?_ ?_ ?_ ?_
    · intro j; rw [c_G92_F_a_0, cput_j hG29, e9]
    · intro j; rw [c_G92_F_a_1, cput_j hG39, c_G29_F_a_1, e9]
    · intro j; rw [c_G92_F_a_2, cput_j hG49, c_G39_F_a_2, e9]
    · intro j; rw [c_G92_F_a_3, cput_j hG60, c_G49_F_a_3, e9]
    · intro j; rw [c_G92_F_a_4, cput_j hG73, c_G60_F_a_4, e9]
    · intro j; rw [c_G92_F_a_5, cput_j hG84, c_G73_F_a_5, e9])
theorem v_X4_add_95_3 {K : Nat → Nat} {F : Nat → Nat → Nat} (a : Nat) (p0 : Nat) (G29 : XG) (G : XG) (G39 : XG) (p1 : Int32) (G49 : XG) (p2 : Int32) (G60 : XG) (p3 : Int32) (G73 : XG) (G84 : XG) (p4 : Int32) (G92 : XG) (x91 : Int32)
    (ha : K a = 6)
    (hp0 : K p0 = 9)
    (hG29 : G29 = cput G (F a 0) (G.1 a 6).toNatClampNeg (G.1 p0 1))
    (hG39 : G39 = cput G29 (F a 1) (G.1 a 6).toNatClampNeg p1)
    (hG49 : G49 = cput G39 (F a 2) (G.1 a 6).toNatClampNeg p2)
    (hG60 : G60 = cput G49 (F a 3) (G.1 a 6).toNatClampNeg p3)
    (hG73 : G73 = cput G60 (F a 4) (G.1 a 6).toNatClampNeg (G.1 p0 9))
    (hG84 : G84 = cput G73 (F a 5) (G.1 a 6).toNatClampNeg p4)
    (e91 : x91.toInt = (((G.1 a 6).toInt) + (1 : Int)))
    (s0 : 0 ≤ ((G.1 a 6).toInt) ∧ ((G.1 a 6).toInt) < 1080)
    (c4 : ¬ (((G.1 a 6).toInt) < 0))
    (c14 : ¬ ((1080 : Int) ≤ ((G.1 a 6).toInt)))
    (f25 : ((G.1 p0 9).toInt) = 0 ∨ ((G.1 p0 9).toInt) = 1)
    (c_G29_F_a_1 : G29.2.1 (F a 1) = G.2.1 (F a 1))
    (c_G39_F_a_2 : G39.2.1 (F a 2) = G.2.1 (F a 2))
    (c_G49_F_a_3 : G49.2.1 (F a 3) = G.2.1 (F a 3))
    (c_G60_F_a_4 : G60.2.1 (F a 4) = G.2.1 (F a 4))
    (c_G73_F_a_5 : G73.2.1 (F a 5) = G.2.1 (F a 5))
    (c_G92_F_a_0 : G92.2.1 (F a 0) = G29.2.1 (F a 0))
    (c_G92_F_a_1 : G92.2.1 (F a 1) = G39.2.1 (F a 1))
    (c_G92_F_a_2 : G92.2.1 (F a 2) = G49.2.1 (F a 2))
    (c_G92_F_a_3 : G92.2.1 (F a 3) = G60.2.1 (F a 3))
    (c_G92_F_a_4 : G92.2.1 (F a 4) = G73.2.1 (F a 4))
    (c_G92_F_a_5 : G92.2.1 (F a 5) = G84.2.1 (F a 5))
    (d_G92_a_6 : G92.1 a 6 = x91) :
    qL G92 F a = qL G F a ++ [(((G.1 p0 1).toInt), p1.toInt, p2.toInt, p3.toInt, ((G.1 p0 9).toInt), p4.toInt)] := by
  first | (exfalso; omega) | skip
  all_goals (
    have e9 : (G.1 a 6).toNatClampNeg = (G.1 a 6).toInt.toNat := rfl
    refine qL_push (n := (G.1 a 6).toInt.toNat) (by omega) (by rw [d_G92_a_6, e91]; omega) ?_ ?_ ?_ ?_ ?_ ?_
    · intro j; rw [c_G92_F_a_0, cput_j hG29, e9]
    · intro j; rw [c_G92_F_a_1, cput_j hG39, c_G29_F_a_1, e9]
    · intro j; rw [c_G92_F_a_2, cput_j hG49, c_G39_F_a_2, e9]
    · intro j; rw [c_G92_F_a_3, cput_j hG60, c_G49_F_a_3, e9]
    · intro j; rw [c_G92_F_a_4, cput_j hG73, c_G60_F_a_4, e9]
    · intro j; rw [c_G92_F_a_5, cput_j hG84, c_G73_F_a_5, e9])
theorem v_X4_take_125_1 {K : Nat → Nat} {F : Nat → Nat → Nat} (a : Nat) (p0 : Nat) (G : XG) (p1 : Int32)
    (ha : K a = 6)
    (hp0 : K p0 = 6)
    (hne : F a 99 ≠ F p0 99)
    (s0 : 0 ≤ ((G.1 a 6).toInt) ∧ ((G.1 a 6).toInt) < 1080)
    (s1 : 0 ≤ p1.toInt ∧ p1.toInt < ((G.1 p0 6).toInt) ∧ ((G.1 p0 6).toInt) ≤ 1080)
    (c4 : ((G.1 a 6).toInt) < 0) :
    qL G F a = qL G F a ++ [((aI (G.2.1 (F p0 0)) (p1.toInt)), (aI (G.2.1 (F p0 1)) (p1.toInt)), (aI (G.2.1 (F p0 2)) (p1.toInt)), (aI (G.2.1 (F p0 3)) (p1.toInt)), (aI (G.2.1 (F p0 4)) (p1.toInt)), (aI (G.2.1 (F p0 5)) (p1.toInt)))] := by
  first | (exfalso; omega) | skip
  all_goals (
    rw [← hv38, ← hv53, ← hv68, ← hv83, ← hv98, ← hv113]
    first | (exfalso; omega) | skip
    have e9 : (G.1 a 6).toNatClampNeg = (G.1 a 6).toInt.toNat := rfl
    refine qL_push (n := (G.1 a 6).toInt.toNat) (by omega) (by rw [d_G122_a_6, e121]; omega) ?_ ?_ ?_ ?_ ?_ ?_
    · intro j; rw [c_G122_F_a_0, cput_j hG39, e9]
    · intro j; rw [c_G122_F_a_1, cput_j hG54, c_G39_F_a_1, e9]
    · intro j; rw [c_G122_F_a_2, cput_j hG69, c_G54_F_a_2, e9]
    · intro j; rw [c_G122_F_a_3, cput_j hG84, c_G69_F_a_3, e9]
    · intro j; rw [c_G122_F_a_4, cput_j hG99, c_G84_F_a_4, e9]
    · intro j; rw [c_G122_F_a_5, cput_j hG114, c_G99_F_a_5, e9])
theorem v_X4_take_125_2 {K : Nat → Nat} {F : Nat → Nat → Nat} (a : Nat) (p0 : Nat) (G : XG) (p1 : Int32)
    (ha : K a = 6)
    (hp0 : K p0 = 6)
    (hne : F a 99 ≠ F p0 99)
    (s0 : 0 ≤ ((G.1 a 6).toInt) ∧ ((G.1 a 6).toInt) < 1080)
    (s1 : 0 ≤ p1.toInt ∧ p1.toInt < ((G.1 p0 6).toInt) ∧ ((G.1 p0 6).toInt) ≤ 1080)
    (c4 : ¬ (((G.1 a 6).toInt) < 0))
    (c14 : (1080 : Int) ≤ ((G.1 a 6).toInt)) :
    qL G F a = qL G F a ++ [((aI (G.2.1 (F p0 0)) (p1.toInt)), (aI (G.2.1 (F p0 1)) (p1.toInt)), (aI (G.2.1 (F p0 2)) (p1.toInt)), (aI (G.2.1 (F p0 3)) (p1.toInt)), (aI (G.2.1 (F p0 4)) (p1.toInt)), (aI (G.2.1 (F p0 5)) (p1.toInt)))] := by
  first | (exfalso; omega) | skip
  all_goals (
    rw [← hv38, ← hv53, ← hv68, ← hv83, ← hv98, ← hv113]
    first | (exfalso; omega) | skip
    have e9 : (G.1 a 6).toNatClampNeg = (G.1 a 6).toInt.toNat := rfl
    refine qL_push (n := (G.1 a 6).toInt.toNat) (by omega) (by rw [d_G122_a_6, e121]; omega) ?_ ?_ ?_ ?_ ?_ ?_
    · intro j; rw [c_G122_F_a_0, cput_j hG39, e9]
    · intro j; rw [c_G122_F_a_1, cput_j hG54, c_G39_F_a_1, e9]
    · intro j; rw [c_G122_F_a_2, cput_j hG69, c_G54_F_a_2, e9]
    · intro j; rw [c_G122_F_a_3, cput_j hG84, c_G69_F_a_3, e9]
    · intro j; rw [c_G122_F_a_4, cput_j hG99, c_G84_F_a_4, e9]
    · intro j; rw [c_G122_F_a_5, cput_j hG114, c_G99_F_a_5, e9])
theorem v_X4_take_125_3 {K : Nat → Nat} {F : Nat → Nat → Nat} (a : Nat) (p0 : Nat) (G : XG) (p1 : Int32) (x19 : Int32)
    (ha : K a = 6)
    (hp0 : K p0 = 6)
    (hne : F a 99 ≠ F p0 99)
    (s0 : 0 ≤ ((G.1 a 6).toInt) ∧ ((G.1 a 6).toInt) < 1080)
    (s1 : 0 ≤ p1.toInt ∧ p1.toInt < ((G.1 p0 6).toInt) ∧ ((G.1 p0 6).toInt) ≤ 1080)
    (c4 : ¬ (((G.1 a 6).toInt) < 0))
    (c14 : ¬ ((1080 : Int) ≤ ((G.1 a 6).toInt)))
    (t19 : ((0 ≤ p1.toInt ∧ p1.toInt < ((G.1 p0 6).toInt) ∧ p1.toInt < 1080) ∧ x19.toInt = 1) ∨ (¬ (0 ≤ p1.toInt ∧ p1.toInt < ((G.1 p0 6).toInt) ∧ p1.toInt < 1080) ∧ x19.toInt = 0))
    (c22 : x19.toInt = 0) :
    qL G F a = qL G F a ++ [((aI (G.2.1 (F p0 0)) (p1.toInt)), (aI (G.2.1 (F p0 1)) (p1.toInt)), (aI (G.2.1 (F p0 2)) (p1.toInt)), (aI (G.2.1 (F p0 3)) (p1.toInt)), (aI (G.2.1 (F p0 4)) (p1.toInt)), (aI (G.2.1 (F p0 5)) (p1.toInt)))] := by
  first | (exfalso; omega) | skip
  all_goals (
    rw [← hv38, ← hv53, ← hv68, ← hv83, ← hv98, ← hv113]
    first | (exfalso; omega) | skip
    have e9 : (G.1 a 6).toNatClampNeg = (G.1 a 6).toInt.toNat := rfl
    refine qL_push (n := (G.1 a 6).toInt.toNat) (by omega) (by rw [d_G122_a_6, e121]; omega) ?_ ?_ ?_ ?_ ?_ ?_
    · intro j; rw [c_G122_F_a_0, cput_j hG39, e9]
    · intro j; rw [c_G122_F_a_1, cput_j hG54, c_G39_F_a_1, e9]
    · intro j; rw [c_G122_F_a_2, cput_j hG69, c_G54_F_a_2, e9]
    · intro j; rw [c_G122_F_a_3, cput_j hG84, c_G69_F_a_3, e9]
    · intro j; rw [c_G122_F_a_4, cput_j hG99, c_G84_F_a_4, e9]
    · intro j; rw [c_G122_F_a_5, cput_j hG114, c_G99_F_a_5, e9])
theorem v_X4_take_125_4 {K : Nat → Nat} {F : Nat → Nat → Nat} (a : Nat) (p0 : Nat) (G39 : XG) (G : XG) (x38 : Int32) (G54 : XG) (x53 : Int32) (G69 : XG) (x68 : Int32) (G84 : XG) (x83 : Int32) (G99 : XG) (x98 : Int32) (G114 : XG) (x113 : Int32) (G122 : XG) (x121 : Int32) (p1 : Int32) (x19 : Int32)
    (ha : K a = 6)
    (hp0 : K p0 = 6)
    (hG39 : G39 = cput G (F a 0) (G.1 a 6).toNatClampNeg x38)
    (hG54 : G54 = cput G39 (F a 1) (G.1 a 6).toNatClampNeg x53)
    (hG69 : G69 = cput G54 (F a 2) (G.1 a 6).toNatClampNeg x68)
    (hG84 : G84 = cput G69 (F a 3) (G.1 a 6).toNatClampNeg x83)
    (hG99 : G99 = cput G84 (F a 4) (G.1 a 6).toNatClampNeg x98)
    (hG114 : G114 = cput G99 (F a 5) (G.1 a 6).toNatClampNeg x113)
    (hne : F a 99 ≠ F p0 99)
    (hv38 : x38.toInt = (aI (G.2.1 (F p0 0)) (p1.toInt)))
    (hv53 : x53.toInt = (aI (G.2.1 (F p0 1)) (p1.toInt)))
    (hv68 : x68.toInt = (aI (G.2.1 (F p0 2)) (p1.toInt)))
    (hv83 : x83.toInt = (aI (G.2.1 (F p0 3)) (p1.toInt)))
    (hv98 : x98.toInt = (aI (G.2.1 (F p0 4)) (p1.toInt)))
    (hv113 : x113.toInt = (aI (G.2.1 (F p0 5)) (p1.toInt)))
    (e121 : x121.toInt = (((G.1 a 6).toInt) + (1 : Int)))
    (s0 : 0 ≤ ((G.1 a 6).toInt) ∧ ((G.1 a 6).toInt) < 1080)
    (s1 : 0 ≤ p1.toInt ∧ p1.toInt < ((G.1 p0 6).toInt) ∧ ((G.1 p0 6).toInt) ≤ 1080)
    (c4 : ¬ (((G.1 a 6).toInt) < 0))
    (c14 : ¬ ((1080 : Int) ≤ ((G.1 a 6).toInt)))
    (t19 : ((0 ≤ p1.toInt ∧ p1.toInt < ((G.1 p0 6).toInt) ∧ p1.toInt < 1080) ∧ x19.toInt = 1) ∨ (¬ (0 ≤ p1.toInt ∧ p1.toInt < ((G.1 p0 6).toInt) ∧ p1.toInt < 1080) ∧ x19.toInt = 0))
    (c22 : ¬ (x19.toInt = 0))
    (f47 : (aI (G.2.1 (F p0 4)) (p1.toInt)) = 0 ∨ (aI (G.2.1 (F p0 4)) (p1.toInt)) = 1)
    (f48 : (aI (G.2.1 (F p0 5)) (p1.toInt)) = 0 ∨ (aI (G.2.1 (F p0 5)) (p1.toInt)) = 1)
    (c_G122_F_a_0 : G122.2.1 (F a 0) = G39.2.1 (F a 0))
    (c_G122_F_a_1 : G122.2.1 (F a 1) = G54.2.1 (F a 1))
    (c_G122_F_a_2 : G122.2.1 (F a 2) = G69.2.1 (F a 2))
    (c_G122_F_a_3 : G122.2.1 (F a 3) = G84.2.1 (F a 3))
    (c_G122_F_a_4 : G122.2.1 (F a 4) = G99.2.1 (F a 4))
    (c_G122_F_a_5 : G122.2.1 (F a 5) = G114.2.1 (F a 5))
    (c_G39_F_a_1 : G39.2.1 (F a 1) = G.2.1 (F a 1))
    (c_G54_F_a_2 : G54.2.1 (F a 2) = G.2.1 (F a 2))
    (c_G69_F_a_3 : G69.2.1 (F a 3) = G.2.1 (F a 3))
    (c_G84_F_a_4 : G84.2.1 (F a 4) = G.2.1 (F a 4))
    (c_G99_F_a_5 : G99.2.1 (F a 5) = G.2.1 (F a 5))
    (d_G122_a_6 : G122.1 a 6 = x121) :
    qL G122 F a = qL G F a ++ [((aI (G.2.1 (F p0 0)) (p1.toInt)), (aI (G.2.1 (F p0 1)) (p1.toInt)), (aI (G.2.1 (F p0 2)) (p1.toInt)), (aI (G.2.1 (F p0 3)) (p1.toInt)), (aI (G.2.1 (F p0 4)) (p1.toInt)), (aI (G.2.1 (F p0 5)) (p1.toInt)))] := by
  first | (exfalso; omega) | skip
  all_goals (
    rw [← hv38, ← hv53, ← hv68, ← hv83, ← hv98, ← hv113]
    first | (exfalso; omega) | skip
    have e9 : (G.1 a 6).toNatClampNeg = (G.1 a 6).toInt.toNat := rfl
    refine qL_push (n := (G.1 a 6).toInt.toNat) (by omega) (by rw [d_G122_a_6, e121]; omega) ?_ ?_ ?_ ?_ ?_ ?_
    · intro j; rw [c_G122_F_a_0, cput_j hG39, e9]
    · intro j; rw [c_G122_F_a_1, cput_j hG54, c_G39_F_a_1, e9]
    · intro j; rw [c_G122_F_a_2, cput_j hG69, c_G54_F_a_2, e9]
    · intro j; rw [c_G122_F_a_3, cput_j hG84, c_G69_F_a_3, e9]
    · intro j; rw [c_G122_F_a_4, cput_j hG99, c_G84_F_a_4, e9]
    · intro j; rw [c_G122_F_a_5, cput_j hG114, c_G99_F_a_5, e9])
theorem v_X4_firstFailing_27_1 {K : Nat → Nat} {F : Nat → Nat → Nat} (a : Nat) (l1_2 : Int32) (G : XG) (N2 : Nat)
    (ha : K a = 6)
    (pf : ∀ j : Int, 0 ≤ j → j < l1_2.toInt → aI (G.2.1 (F a 5)) j = 0)
    (s0 : 0 ≤ ((G.1 a 6).toInt) ∧ ((G.1 a 6).toInt) ≤ 1080)
    (I2_0 : 0 ≤ l1_2.toInt ∧ l1_2.toInt ≤ ((G.1 a 6).toInt))
    (I2_1 : (0 : Int) ≤ l1_2.toInt)
    (hm2 : 2147483648 - l1_2.toInt < (((N2) + 1 : Nat) : Int))
    (c7 : ((G.1 a 6).toInt) ≤ l1_2.toInt) :
    ∀ j : Int, 0 ≤ j → j < ((G.1 a 6).toInt) → ((-1 : Int) = -1 ∨ j < (-1 : Int)) → aI (G.2.1 (F a 5)) j = 0 := by
  intro j h1 h2 h3; exact pf j h1 (by omega)
theorem v_X4_firstFailing_23_2 {K : Nat → Nat} {F : Nat → Nat → Nat} (a : Nat) (l1_2 : Int32) (G : XG) (N2 : Nat) (x12 : Int32)
    (ha : K a = 6)
    (pf : ∀ j : Int, 0 ≤ j → j < l1_2.toInt → aI (G.2.1 (F a 5)) j = 0)
    (s0 : 0 ≤ ((G.1 a 6).toInt) ∧ ((G.1 a 6).toInt) ≤ 1080)
    (I2_0 : 0 ≤ l1_2.toInt ∧ l1_2.toInt ≤ ((G.1 a 6).toInt))
    (I2_1 : (0 : Int) ≤ l1_2.toInt)
    (hm2 : 2147483648 - l1_2.toInt < (((N2) + 1 : Nat) : Int))
    (c7 : ¬ (((G.1 a 6).toInt) ≤ l1_2.toInt))
    (t12 : ((0 ≤ l1_2.toInt ∧ l1_2.toInt < ((G.1 a 6).toInt) ∧ l1_2.toInt < 1080) ∧ x12.toInt = (aI (G.2.1 (F a 5)) (l1_2.toInt))) ∨ (¬ (0 ≤ l1_2.toInt ∧ l1_2.toInt < ((G.1 a 6).toInt) ∧ l1_2.toInt < 1080) ∧ x12.toInt = 0))
    (f11 : x12.toInt = 0 ∨ x12.toInt = 1)
    (c15 : x12.toInt = 0) :
    ∀ j : Int, 0 ≤ j → j < (l1_2.toInt + 1) → aI (G.2.1 (F a 5)) j = 0 := by
  intro j h1 h2
  by_cases e : j = l1_2.toInt
  · subst e; omega
  · exact pf j h1 (by omega)
theorem v_X4_firstFailing_19_3 {K : Nat → Nat} {F : Nat → Nat → Nat} (a : Nat) (l1_2 : Int32) (G : XG) (N2 : Nat) (x12 : Int32)
    (ha : K a = 6)
    (pf : ∀ j : Int, 0 ≤ j → j < l1_2.toInt → aI (G.2.1 (F a 5)) j = 0)
    (s0 : 0 ≤ ((G.1 a 6).toInt) ∧ ((G.1 a 6).toInt) ≤ 1080)
    (I2_0 : 0 ≤ l1_2.toInt ∧ l1_2.toInt ≤ ((G.1 a 6).toInt))
    (I2_1 : (0 : Int) ≤ l1_2.toInt)
    (hm2 : 2147483648 - l1_2.toInt < (((N2) + 1 : Nat) : Int))
    (c7 : ¬ (((G.1 a 6).toInt) ≤ l1_2.toInt))
    (t12 : ((0 ≤ l1_2.toInt ∧ l1_2.toInt < ((G.1 a 6).toInt) ∧ l1_2.toInt < 1080) ∧ x12.toInt = (aI (G.2.1 (F a 5)) (l1_2.toInt))) ∨ (¬ (0 ≤ l1_2.toInt ∧ l1_2.toInt < ((G.1 a 6).toInt) ∧ l1_2.toInt < 1080) ∧ x12.toInt = 0))
    (f10 : x12.toInt = 0 ∨ x12.toInt = 1)
    (c15 : ¬ (x12.toInt = 0)) :
    ∀ j : Int, 0 ≤ j → j < ((G.1 a 6).toInt) → (l1_2.toInt = -1 ∨ j < l1_2.toInt) → aI (G.2.1 (F a 5)) j = 0 := by
  intro j h1 h2 h3; exact pf j h1 (by omega)
theorem v_X4_firstFailing_1_4 {K : Nat → Nat} {F : Nat → Nat → Nat} (a : Nat) (G : XG)
    (ha : K a = 6)
    (s0 : 0 ≤ ((G.1 a 6).toInt) ∧ ((G.1 a 6).toInt) ≤ 1080) :
    ∀ j : Int, 0 ≤ j → j < (0 : Int) → aI (G.2.1 (F a 5)) j = 0 := by
  intro j h1 h2; exact absurd h1 (by omega)
