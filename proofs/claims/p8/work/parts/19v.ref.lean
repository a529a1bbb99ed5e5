theorem v_X11_fails_30_1 {K : Nat → Nat} {F : Nat → Nat → Nat} (a : Nat) (G : XG) (p2 : Nat) (p3 : Int32) (p0 : Int32) (p1 : Int32)
    (ha : K a = 13)
    (hk9999 : K (F a 10) = 37)
    (hj9999 : F (F a 10) 99 = 10)
    (hR : RV (G.2.1 (F a 10)))
    (hM : RM (G.2.1 p2) (p3.toInt))
    (e0 : 0 ≤ p0.toInt ∧ p0.toInt ≤ 11)
    (e1 : (aI (G.2.1 (F a 10)) (10 * p0.toInt + 0)) ≠ -1)
    (e2 : (sF (aI (G.2.1 (F a 10)) (10 * p0.toInt + 0))) ≤ p1.toInt ∧ p1.toInt ≤ (sL (aI (G.2.1 (F a 10)) (10 * p0.toInt + 0))))
    (f8 : 0 ≤ p3.toInt ∧ p3.toInt ≤ 2520)
    (z0 : (-1 ≤ (aI (G.2.1 (F a 10)) (10 * p0.toInt + 0)) ∧ (aI (G.2.1 (F a 10)) (10 * p0.toInt + 0)) ≤ 5) ∧ (0 ≤ (aI (G.2.1 (F a 10)) (10 * p0.toInt + 1)) ∧ (aI (G.2.1 (F a 10)) (10 * p0.toInt + 1)) ≤ 2) ∧ (0 ≤ (aI (G.2.1 (F a 10)) (10 * p0.toInt + 2)) ∧ (aI (G.2.1 (F a 10)) (10 * p0.toInt + 2)) ≤ 2) ∧ (-1 ≤ (aI (G.2.1 (F a 10)) (10 * p0.toInt + 3)) ∧ (aI (G.2.1 (F a 10)) (10 * p0.toInt + 3)) ≤ 2) ∧ ((aI (G.2.1 (F a 10)) (10 * p0.toInt + 0)) = 1 ∨ (aI (G.2.1 (F a 10)) (10 * p0.toInt + 0)) = 3 ∨ (aI (G.2.1 (F a 10)) (10 * p0.toInt + 0)) = 4 → 0 ≤ (aI (G.2.1 (F a 10)) (10 * p0.toInt + 3))))
    (z0a : (((aI (G.2.1 (F a 10)) (10 * p0.toInt + 0)) = 2 ∨ (aI (G.2.1 (F a 10)) (10 * p0.toInt + 0)) = 4 ∨ (aI (G.2.1 (F a 10)) (10 * p0.toInt + 0)) = 5) ∧ (sF (aI (G.2.1 (F a 10)) (10 * p0.toInt + 0))) = 0 ∧ (sL (aI (G.2.1 (F a 10)) (10 * p0.toInt + 0))) = 29) ∨ (¬ ((aI (G.2.1 (F a 10)) (10 * p0.toInt + 0)) = 2 ∨ (aI (G.2.1 (F a 10)) (10 * p0.toInt + 0)) = 4 ∨ (aI (G.2.1 (F a 10)) (10 * p0.toInt + 0)) = 5) ∧ (sF (aI (G.2.1 (F a 10)) (10 * p0.toInt + 0))) = -99 ∧ (sL (aI (G.2.1 (F a 10)) (10 * p0.toInt + 0))) = 99))
    (c11 : (aI (G.2.1 (F a 10)) (10 * p0.toInt + 0)) ≠ (5 : Int)) :
    RV (G.2.1 (F a 10)) := by
  first | assumption | omega
theorem v_X11_fails_30_2 {K : Nat → Nat} {F : Nat → Nat → Nat} (a : Nat) (G : XG) (p2 : Nat) (p3 : Int32) (p0 : Int32) (p1 : Int32)
    (ha : K a = 13)
    (hk9999 : K (F a 10) = 37)
    (hj9999 : F (F a 10) 99 = 10)
    (hR : RV (G.2.1 (F a 10)))
    (hM : RM (G.2.1 p2) (p3.toInt))
    (e0 : 0 ≤ p0.toInt ∧ p0.toInt ≤ 11)
    (e1 : (aI (G.2.1 (F a 10)) (10 * p0.toInt + 0)) ≠ -1)
    (e2 : (sF (aI (G.2.1 (F a 10)) (10 * p0.toInt + 0))) ≤ p1.toInt ∧ p1.toInt ≤ (sL (aI (G.2.1 (F a 10)) (10 * p0.toInt + 0))))
    (f8 : 0 ≤ p3.toInt ∧ p3.toInt ≤ 2520)
    (z0 : (-1 ≤ (aI (G.2.1 (F a 10)) (10 * p0.toInt + 0)) ∧ (aI (G.2.1 (F a 10)) (10 * p0.toInt + 0)) ≤ 5) ∧ (0 ≤ (aI (G.2.1 (F a 10)) (10 * p0.toInt + 1)) ∧ (aI (G.2.1 (F a 10)) (10 * p0.toInt + 1)) ≤ 2) ∧ (0 ≤ (aI (G.2.1 (F a 10)) (10 * p0.toInt + 2)) ∧ (aI (G.2.1 (F a 10)) (10 * p0.toInt + 2)) ≤ 2) ∧ (-1 ≤ (aI (G.2.1 (F a 10)) (10 * p0.toInt + 3)) ∧ (aI (G.2.1 (F a 10)) (10 * p0.toInt + 3)) ≤ 2) ∧ ((aI (G.2.1 (F a 10)) (10 * p0.toInt + 0)) = 1 ∨ (aI (G.2.1 (F a 10)) (10 * p0.toInt + 0)) = 3 ∨ (aI (G.2.1 (F a 10)) (10 * p0.toInt + 0)) = 4 → 0 ≤ (aI (G.2.1 (F a 10)) (10 * p0.toInt + 3))))
    (z0a : (((aI (G.2.1 (F a 10)) (10 * p0.toInt + 0)) = 2 ∨ (aI (G.2.1 (F a 10)) (10 * p0.toInt + 0)) = 4 ∨ (aI (G.2.1 (F a 10)) (10 * p0.toInt + 0)) = 5) ∧ (sF (aI (G.2.1 (F a 10)) (10 * p0.toInt + 0))) = 0 ∧ (sL (aI (G.2.1 (F a 10)) (10 * p0.toInt + 0))) = 29) ∨ (¬ ((aI (G.2.1 (F a 10)) (10 * p0.toInt + 0)) = 2 ∨ (aI (G.2.1 (F a 10)) (10 * p0.toInt + 0)) = 4 ∨ (aI (G.2.1 (F a 10)) (10 * p0.toInt + 0)) = 5) ∧ (sF (aI (G.2.1 (F a 10)) (10 * p0.toInt + 0))) = -99 ∧ (sL (aI (G.2.1 (F a 10)) (10 * p0.toInt + 0))) = 99))
    (c11 : (aI (G.2.1 (F a 10)) (10 * p0.toInt + 0)) ≠ (5 : Int)) :
    RM (G.2.1 p2) (p3.toInt) := by
  first | assumption | omega
theorem v_X11_fails_20_3 {K : Nat → Nat} {F : Nat → Nat → Nat} (a : Nat) (G : XG) (p2 : Nat) (p3 : Int32) (p0 : Int32) (p1 : Int32)
    (ha : K a = 13)
    (hk9999 : K (F a 10) = 37)
    (hj9999 : F (F a 10) 99 = 10)
    (hR : RV (G.2.1 (F a 10)))
    (hM : RM (G.2.1 p2) (p3.toInt))
    (e0 : 0 ≤ p0.toInt ∧ p0.toInt ≤ 11)
    (e1 : (aI (G.2.1 (F a 10)) (10 * p0.toInt + 0)) ≠ -1)
    (e2 : (sF (aI (G.2.1 (F a 10)) (10 * p0.toInt + 0))) ≤ p1.toInt ∧ p1.toInt ≤ (sL (aI (G.2.1 (F a 10)) (10 * p0.toInt + 0))))
    (f8 : 0 ≤ p3.toInt ∧ p3.toInt ≤ 2520)
    (z0 : (-1 ≤ (aI (G.2.1 (F a 10)) (10 * p0.toInt + 0)) ∧ (aI (G.2.1 (F a 10)) (10 * p0.toInt + 0)) ≤ 5) ∧ (0 ≤ (aI (G.2.1 (F a 10)) (10 * p0.toInt + 1)) ∧ (aI (G.2.1 (F a 10)) (10 * p0.toInt + 1)) ≤ 2) ∧ (0 ≤ (aI (G.2.1 (F a 10)) (10 * p0.toInt + 2)) ∧ (aI (G.2.1 (F a 10)) (10 * p0.toInt + 2)) ≤ 2) ∧ (-1 ≤ (aI (G.2.1 (F a 10)) (10 * p0.toInt + 3)) ∧ (aI (G.2.1 (F a 10)) (10 * p0.toInt + 3)) ≤ 2) ∧ ((aI (G.2.1 (F a 10)) (10 * p0.toInt + 0)) = 1 ∨ (aI (G.2.1 (F a 10)) (10 * p0.toInt + 0)) = 3 ∨ (aI (G.2.1 (F a 10)) (10 * p0.toInt + 0)) = 4 → 0 ≤ (aI (G.2.1 (F a 10)) (10 * p0.toInt + 3))))
    (z0a : (((aI (G.2.1 (F a 10)) (10 * p0.toInt + 0)) = 2 ∨ (aI (G.2.1 (F a 10)) (10 * p0.toInt + 0)) = 4 ∨ (aI (G.2.1 (F a 10)) (10 * p0.toInt + 0)) = 5) ∧ (sF (aI (G.2.1 (F a 10)) (10 * p0.toInt + 0))) = 0 ∧ (sL (aI (G.2.1 (F a 10)) (10 * p0.toInt + 0))) = 29) ∨ (¬ ((aI (G.2.1 (F a 10)) (10 * p0.toInt + 0)) = 2 ∨ (aI (G.2.1 (F a 10)) (10 * p0.toInt + 0)) = 4 ∨ (aI (G.2.1 (F a 10)) (10 * p0.toInt + 0)) = 5) ∧ (sF (aI (G.2.1 (F a 10)) (10 * p0.toInt + 0))) = -99 ∧ (sL (aI (G.2.1 (F a 10)) (10 * p0.toInt + 0))) = 99))
    (c11 : ¬ ((aI (G.2.1 (F a 10)) (10 * p0.toInt + 0)) ≠ (5 : Int)))
    (z14 : (aI (G.2.1 (F a 10)) (10 * p0.toInt + 0)) = 5 → (flq (mw (G.2.1 p2) (p3.toInt)) (aI (G.2.1 (F a 10)) (10 * p0.toInt + 0)) (aI (G.2.1 (F a 10)) (10 * p0.toInt + 1)) (aI (G.2.1 (F a 10)) (10 * p0.toInt + 2)) (aI (G.2.1 (F a 10)) (10 * p0.toInt + 4)) (aI (G.2.1 (F a 10)) (10 * p0.toInt + 5)) (p1.toInt) (stt (mw (G.2.1 p2) (p3.toInt)) (aI (G.2.1 (F a 10)) (10 * p0.toInt + 0)) (aI (G.2.1 (F a 10)) (10 * p0.toInt + 1)) (aI (G.2.1 (F a 10)) (10 * p0.toInt + 2)) (aI (G.2.1 (F a 10)) (10 * p0.toInt + 3)) (p1.toInt))) = (rgq (mw (G.2.1 p2) (p3.toInt)) (aI (G.2.1 (F a 10)) (10 * p0.toInt + 1)) (aI (G.2.1 (F a 10)) (10 * p0.toInt + 2)) (p1.toInt) 30 (cel (mw (G.2.1 p2) (p3.toInt)) (aI (G.2.1 (F a 10)) (10 * p0.toInt + 1)) (p1.toInt) (aI (G.2.1 (F a 10)) (10 * p0.toInt + 2))))) :
    RV (G.2.1 (F a 10)) := by
  first | assumption | omega
theorem v_X11_fails_20_4 {K : Nat → Nat} {F : Nat → Nat → Nat} (a : Nat) (G : XG) (p2 : Nat) (p3 : Int32) (p0 : Int32) (p1 : Int32)
    (ha : K a = 13)
    (hk9999 : K (F a 10) = 37)
    (hj9999 : F (F a 10) 99 = 10)
    (hR : RV (G.2.1 (F a 10)))
    (hM : RM (G.2.1 p2) (p3.toInt))
    (e0 : 0 ≤ p0.toInt ∧ p0.toInt ≤ 11)
    (e1 : (aI (G.2.1 (F a 10)) (10 * p0.toInt + 0)) ≠ -1)
    (e2 : (sF (aI (G.2.1 (F a 10)) (10 * p0.toInt + 0))) ≤ p1.toInt ∧ p1.toInt ≤ (sL (aI (G.2.1 (F a 10)) (10 * p0.toInt + 0))))
    (f8 : 0 ≤ p3.toInt ∧ p3.toInt ≤ 2520)
    (z0 : (-1 ≤ (aI (G.2.1 (F a 10)) (10 * p0.toInt + 0)) ∧ (aI (G.2.1 (F a 10)) (10 * p0.toInt + 0)) ≤ 5) ∧ (0 ≤ (aI (G.2.1 (F a 10)) (10 * p0.toInt + 1)) ∧ (aI (G.2.1 (F a 10)) (10 * p0.toInt + 1)) ≤ 2) ∧ (0 ≤ (aI (G.2.1 (F a 10)) (10 * p0.toInt + 2)) ∧ (aI (G.2.1 (F a 10)) (10 * p0.toInt + 2)) ≤ 2) ∧ (-1 ≤ (aI (G.2.1 (F a 10)) (10 * p0.toInt + 3)) ∧ (aI (G.2.1 (F a 10)) (10 * p0.toInt + 3)) ≤ 2) ∧ ((aI (G.2.1 (F a 10)) (10 * p0.toInt + 0)) = 1 ∨ (aI (G.2.1 (F a 10)) (10 * p0.toInt + 0)) = 3 ∨ (aI (G.2.1 (F a 10)) (10 * p0.toInt + 0)) = 4 → 0 ≤ (aI (G.2.1 (F a 10)) (10 * p0.toInt + 3))))
    (z0a : (((aI (G.2.1 (F a 10)) (10 * p0.toInt + 0)) = 2 ∨ (aI (G.2.1 (F a 10)) (10 * p0.toInt + 0)) = 4 ∨ (aI (G.2.1 (F a 10)) (10 * p0.toInt + 0)) = 5) ∧ (sF (aI (G.2.1 (F a 10)) (10 * p0.toInt + 0))) = 0 ∧ (sL (aI (G.2.1 (F a 10)) (10 * p0.toInt + 0))) = 29) ∨ (¬ ((aI (G.2.1 (F a 10)) (10 * p0.toInt + 0)) = 2 ∨ (aI (G.2.1 (F a 10)) (10 * p0.toInt + 0)) = 4 ∨ (aI (G.2.1 (F a 10)) (10 * p0.toInt + 0)) = 5) ∧ (sF (aI (G.2.1 (F a 10)) (10 * p0.toInt + 0))) = -99 ∧ (sL (aI (G.2.1 (F a 10)) (10 * p0.toInt + 0))) = 99))
    (c11 : ¬ ((aI (G.2.1 (F a 10)) (10 * p0.toInt + 0)) ≠ (5 : Int)))
    (z14 : (aI (G.2.1 (F a 10)) (10 * p0.toInt + 0)) = 5 → (flq (mw (G.2.1 p2) (p3.toInt)) (aI (G.2.1 (F a 10)) (10 * p0.toInt + 0)) (aI (G.2.1 (F a 10)) (10 * p0.toInt + 1)) (aI (G.2.1 (F a 10)) (10 * p0.toInt + 2)) (aI (G.2.1 (F a 10)) (10 * p0.toInt + 4)) (aI (G.2.1 (F a 10)) (10 * p0.toInt + 5)) (p1.toInt) (stt (mw (G.2.1 p2) (p3.toInt)) (aI (G.2.1 (F a 10)) (10 * p0.toInt + 0)) (aI (G.2.1 (F a 10)) (10 * p0.toInt + 1)) (aI (G.2.1 (F a 10)) (10 * p0.toInt + 2)) (aI (G.2.1 (F a 10)) (10 * p0.toInt + 3)) (p1.toInt))) = (rgq (mw (G.2.1 p2) (p3.toInt)) (aI (G.2.1 (F a 10)) (10 * p0.toInt + 1)) (aI (G.2.1 (F a 10)) (10 * p0.toInt + 2)) (p1.toInt) 30 (cel (mw (G.2.1 p2) (p3.toInt)) (aI (G.2.1 (F a 10)) (10 * p0.toInt + 1)) (p1.toInt) (aI (G.2.1 (F a 10)) (10 * p0.toInt + 2))))) :
    RM (G.2.1 p2) (p3.toInt) := by
  first | assumption | omega
