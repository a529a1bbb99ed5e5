theorem v_X7_isOnRing_30_1 {K : Nat → Nat} {F : Nat → Nat → Nat} (a : Nat) (p0 : Nat) (G : XG) (p1 : Int32) (l4_17 : Int32) (l3_17 : Int32) (N17 : Nat)
    (ha : K a = 9)
    (hp0 : K p0 = 8)
    (hk9999 : K (F p0 0) = 20)
    (hj9999 : F (F p0 0) 99 = F p0 99)
    (hk9999a : K (F p0 1) = 21)
    (hj9999a : F (F p0 1) 99 = F p0 99)
    (hro : RO (vw (G.2.1 (F p0 0))) (aI (G.2.1 (F p0 1))))
    (z15 : (rgq (vw (G.2.1 (F p0 0))) ((G.1 a 2).toInt) ((G.1 a 3).toInt) (p1.toInt) (30 - 0) (cel (vw (G.2.1 (F p0 0))) ((G.1 a 2).toInt) (p1.toInt) ((G.1 a 3).toInt))) = (rgq (vw (G.2.1 (F p0 0))) ((G.1 a 2).toInt) ((G.1 a 3).toInt) (p1.toInt) 30 (cel (vw (G.2.1 (F p0 0))) ((G.1 a 2).toInt) (p1.toInt) ((G.1 a 3).toInt))))
    (I17_0 : 0 ≤ l4_17.toInt ∧ l4_17.toInt ≤ 30)
    (I17_1 : (rgq (vw (G.2.1 (F p0 0))) ((G.1 a 2).toInt) ((G.1 a 3).toInt) (p1.toInt) (30 - l4_17.toInt) (l3_17.toInt)) = (rgq (vw (G.2.1 (F p0 0))) ((G.1 a 2).toInt) ((G.1 a 3).toInt) (p1.toInt) 30 (cel (vw (G.2.1 (F p0 0))) ((G.1 a 2).toInt) (p1.toInt) ((G.1 a 3).toInt))))
    (I17_2 : (0 : Int) ≤ l4_17.toInt)
    (hm17 : 2147483648 - l4_17.toInt < (((N17) + 1 : Nat) : Int))
    (c21 : ¬ ((30 : Int) ≤ l4_17.toInt))
    (z24 : ((cel (vw (G.2.1 (F p0 0))) ((G.1 a 2).toInt) (l3_17.toInt) 0) = -2000 → (rgq (vw (G.2.1 (F p0 0))) ((G.1 a 2).toInt) ((G.1 a 3).toInt) (p1.toInt) (30 - l4_17.toInt) (l3_17.toInt)) = 0) ∧ ((cel (vw (G.2.1 (F p0 0))) ((G.1 a 2).toInt) (l3_17.toInt) 0) ≠ -2000 → l3_17.toInt = p1.toInt → (rgq (vw (G.2.1 (F p0 0))) ((G.1 a 2).toInt) ((G.1 a 3).toInt) (p1.toInt) (30 - l4_17.toInt) (l3_17.toInt)) = 1) ∧ ((cel (vw (G.2.1 (F p0 0))) ((G.1 a 2).toInt) (l3_17.toInt) 0) ≠ -2000 → l3_17.toInt ≠ p1.toInt → (rgq (vw (G.2.1 (F p0 0))) ((G.1 a 2).toInt) ((G.1 a 3).toInt) (p1.toInt) (30 - l4_17.toInt) (l3_17.toInt)) = (rgq (vw (G.2.1 (F p0 0))) ((G.1 a 2).toInt) ((G.1 a 3).toInt) (p1.toInt) (30 - l4_17.toInt - 1) (cel (vw (G.2.1 (F p0 0))) ((G.1 a 2).toInt) (l3_17.toInt) ((G.1 a 3).toInt))))) :
    RO (vw (G.2.1 (F p0 0))) (aI (G.2.1 (F p0 1))) := by
  first | assumption | omega
theorem v_X7_state_75_1 {K : Nat → Nat} {F : Nat → Nat → Nat} (a : Nat) (p0 : Nat) (G : XG) (x68 : Int32) (p1 : Int32)
    (ha : K a = 9)
    (hp0 : K p0 = 8)
    (hk9999 : K (F p0 0) = 20)
    (hj9999 : F (F p0 0) 99 = F p0 99)
    (hk9999a : K (F p0 1) = 21)
    (hj9999a : F (F p0 1) 99 = F p0 99)
    (hro : RO (vw (G.2.1 (F p0 0))) (aI (G.2.1 (F p0 1))))
    (hrw : RW (G.1 a))
    (e68 : x68.toInt = ((2 : Int) * (hv (vw (G.2.1 (F p0 0))) (90 * ((G.1 a 2).toInt) + 30 * ((G.1 a 3).toInt)) (p1.toInt) 30)))
    (z0 : (0 ≤ ((G.1 a 0).toInt) ∧ ((G.1 a 0).toInt) ≤ 5) ∧ (0 ≤ ((G.1 a 2).toInt) ∧ ((G.1 a 2).toInt) ≤ 2) ∧ (0 ≤ ((G.1 a 3).toInt) ∧ ((G.1 a 3).toInt) ≤ 2) ∧ (-1 ≤ ((G.1 a 4).toInt) ∧ ((G.1 a 4).toInt) ≤ 2) ∧ (((G.1 a 0).toInt) = 1 ∨ ((G.1 a 0).toInt) = 3 ∨ ((G.1 a 0).toInt) = 4 → 0 ≤ ((G.1 a 4).toInt)))
    (z0a : (((G.1 a 0).toInt) = 0 → (stt (vw (G.2.1 (F p0 0))) ((G.1 a 0).toInt) ((G.1 a 2).toInt) ((G.1 a 3).toInt) ((G.1 a 4).toInt) (p1.toInt)) = (hv (vw (G.2.1 (F p0 0))) (90 * ((G.1 a 2).toInt) + 30 * ((G.1 a 3).toInt)) (p1.toInt) 30)) ∧ (((G.1 a 0).toInt) = 1 ∨ ((G.1 a 0).toInt) = 4 → ((cel (vw (G.2.1 (F p0 0))) ((G.1 a 4).toInt) (p1.toInt) 0) = -2000 ∧ (stt (vw (G.2.1 (F p0 0))) ((G.1 a 0).toInt) ((G.1 a 2).toInt) ((G.1 a 3).toInt) ((G.1 a 4).toInt) (p1.toInt)) = 2 * (hv (vw (G.2.1 (F p0 0))) (90 * ((G.1 a 2).toInt) + 30 * ((G.1 a 3).toInt)) (p1.toInt) 30)) ∨ ((cel (vw (G.2.1 (F p0 0))) ((G.1 a 4).toInt) (p1.toInt) 0) ≠ -2000 ∧ (stt (vw (G.2.1 (F p0 0))) ((G.1 a 0).toInt) ((G.1 a 2).toInt) ((G.1 a 3).toInt) ((G.1 a 4).toInt) (p1.toInt)) = 2 * (hv (vw (G.2.1 (F p0 0))) (90 * ((G.1 a 2).toInt) + 30 * ((G.1 a 3).toInt)) (p1.toInt) 30) + 1)) ∧ (((G.1 a 0).toInt) = 3 → ((hv (vw (G.2.1 (F p0 0))) (90 * ((G.1 a 2).toInt) + 30 * ((G.1 a 3).toInt)) (p1.toInt) 30) = 0 ∧ (stt (vw (G.2.1 (F p0 0))) ((G.1 a 0).toInt) ((G.1 a 2).toInt) ((G.1 a 3).toInt) ((G.1 a 4).toInt) (p1.toInt)) = 100000) ∨ ((hv (vw (G.2.1 (F p0 0))) (90 * ((G.1 a 2).toInt) + 30 * ((G.1 a 3).toInt)) (p1.toInt) 30) ≠ 0 ∧ (stt (vw (G.2.1 (F p0 0))) ((G.1 a 0).toInt) ((G.1 a 2).toInt) ((G.1 a 3).toInt) ((G.1 a 4).toInt) (p1.toInt)) = (smq (vw (G.2.1 (F p0 0))) (90 * ((G.1 a 2).toInt) + 30 * ((G.1 a 3).toInt)) (90 * ((G.1 a 2).toInt) + 30 * ((G.1 a 4).toInt)) (p1.toInt) 30))) ∧ (((G.1 a 0).toInt) = 2 ∨ ((G.1 a 0).toInt) = 5 → (stt (vw (G.2.1 (F p0 0))) ((G.1 a 0).toInt) ((G.1 a 2).toInt) ((G.1 a 3).toInt) ((G.1 a 4).toInt) (p1.toInt)) = (cel (vw (G.2.1 (F p0 0))) ((G.1 a 2).toInt) (p1.toInt) ((G.1 a 3).toInt))))
    (z0b : 0 ≤ (hv (vw (G.2.1 (F p0 0))) (90 * ((G.1 a 2).toInt) + 30 * ((G.1 a 3).toInt)) (p1.toInt) 30) ∧ (hv (vw (G.2.1 (F p0 0))) (90 * ((G.1 a 2).toInt) + 30 * ((G.1 a 3).toInt)) (p1.toInt) 30) ≤ 30)
    (c4 : ((G.1 a 0).toInt) = 1) :
    RO (vw (G.2.1 (F p0 0))) (aI (G.2.1 (F p0 1))) := by
  first | assumption | omega
theorem v_X7_state_102_2 {K : Nat → Nat} {F : Nat → Nat → Nat} (a : Nat) (p0 : Nat) (G : XG) (p1 : Int32)
    (ha : K a = 9)
    (hp0 : K p0 = 8)
    (hk9999 : K (F p0 0) = 20)
    (hj9999 : F (F p0 0) 99 = F p0 99)
    (hk9999a : K (F p0 1) = 21)
    (hj9999a : F (F p0 1) 99 = F p0 99)
    (hro : RO (vw (G.2.1 (F p0 0))) (aI (G.2.1 (F p0 1))))
    (hrw : RW (G.1 a))
    (z0 : (0 ≤ ((G.1 a 0).toInt) ∧ ((G.1 a 0).toInt) ≤ 5) ∧ (0 ≤ ((G.1 a 2).toInt) ∧ ((G.1 a 2).toInt) ≤ 2) ∧ (0 ≤ ((G.1 a 3).toInt) ∧ ((G.1 a 3).toInt) ≤ 2) ∧ (-1 ≤ ((G.1 a 4).toInt) ∧ ((G.1 a 4).toInt) ≤ 2) ∧ (((G.1 a 0).toInt) = 1 ∨ ((G.1 a 0).toInt) = 3 ∨ ((G.1 a 0).toInt) = 4 → 0 ≤ ((G.1 a 4).toInt)))
    (z0a : (((G.1 a 0).toInt) = 0 → (stt (vw (G.2.1 (F p0 0))) ((G.1 a 0).toInt) ((G.1 a 2).toInt) ((G.1 a 3).toInt) ((G.1 a 4).toInt) (p1.toInt)) = (hv (vw (G.2.1 (F p0 0))) (90 * ((G.1 a 2).toInt) + 30 * ((G.1 a 3).toInt)) (p1.toInt) 30)) ∧ (((G.1 a 0).toInt) = 1 ∨ ((G.1 a 0).toInt) = 4 → ((cel (vw (G.2.1 (F p0 0))) ((G.1 a 4).toInt) (p1.toInt) 0) = -2000 ∧ (stt (vw (G.2.1 (F p0 0))) ((G.1 a 0).toInt) ((G.1 a 2).toInt) ((G.1 a 3).toInt) ((G.1 a 4).toInt) (p1.toInt)) = 2 * (hv (vw (G.2.1 (F p0 0))) (90 * ((G.1 a 2).toInt) + 30 * ((G.1 a 3).toInt)) (p1.toInt) 30)) ∨ ((cel (vw (G.2.1 (F p0 0))) ((G.1 a 4).toInt) (p1.toInt) 0) ≠ -2000 ∧ (stt (vw (G.2.1 (F p0 0))) ((G.1 a 0).toInt) ((G.1 a 2).toInt) ((G.1 a 3).toInt) ((G.1 a 4).toInt) (p1.toInt)) = 2 * (hv (vw (G.2.1 (F p0 0))) (90 * ((G.1 a 2).toInt) + 30 * ((G.1 a 3).toInt)) (p1.toInt) 30) + 1)) ∧ (((G.1 a 0).toInt) = 3 → ((hv (vw (G.2.1 (F p0 0))) (90 * ((G.1 a 2).toInt) + 30 * ((G.1 a 3).toInt)) (p1.toInt) 30) = 0 ∧ (stt (vw (G.2.1 (F p0 0))) ((G.1 a 0).toInt) ((G.1 a 2).toInt) ((G.1 a 3).toInt) ((G.1 a 4).toInt) (p1.toInt)) = 100000) ∨ ((hv (vw (G.2.1 (F p0 0))) (90 * ((G.1 a 2).toInt) + 30 * ((G.1 a 3).toInt)) (p1.toInt) 30) ≠ 0 ∧ (stt (vw (G.2.1 (F p0 0))) ((G.1 a 0).toInt) ((G.1 a 2).toInt) ((G.1 a 3).toInt) ((G.1 a 4).toInt) (p1.toInt)) = (smq (vw (G.2.1 (F p0 0))) (90 * ((G.1 a 2).toInt) + 30 * ((G.1 a 3).toInt)) (90 * ((G.1 a 2).toInt) + 30 * ((G.1 a 4).toInt)) (p1.toInt) 30))) ∧ (((G.1 a 0).toInt) = 2 ∨ ((G.1 a 0).toInt) = 5 → (stt (vw (G.2.1 (F p0 0))) ((G.1 a 0).toInt) ((G.1 a 2).toInt) ((G.1 a 3).toInt) ((G.1 a 4).toInt) (p1.toInt)) = (cel (vw (G.2.1 (F p0 0))) ((G.1 a 2).toInt) (p1.toInt) ((G.1 a 3).toInt))))
    (z0b : 0 ≤ (hv (vw (G.2.1 (F p0 0))) (90 * ((G.1 a 2).toInt) + 30 * ((G.1 a 3).toInt)) (p1.toInt) 30) ∧ (hv (vw (G.2.1 (F p0 0))) (90 * ((G.1 a 2).toInt) + 30 * ((G.1 a 3).toInt)) (p1.toInt) 30) ≤ 30)
    (c4 : ((G.1 a 0).toInt) = 3) :
    RO (vw (G.2.1 (F p0 0))) (aI (G.2.1 (F p0 1))) := by
  first | assumption | omega
theorem v_X7_state_75_3 {K : Nat → Nat} {F : Nat → Nat → Nat} (a : Nat) (p0 : Nat) (G : XG) (x68 : Int32) (p1 : Int32)
    (ha : K a = 9)
    (hp0 : K p0 = 8)
    (hk9999 : K (F p0 0) = 20)
    (hj9999 : F (F p0 0) 99 = F p0 99)
    (hk9999a : K (F p0 1) = 21)
    (hj9999a : F (F p0 1) 99 = F p0 99)
    (hro : RO (vw (G.2.1 (F p0 0))) (aI (G.2.1 (F p0 1))))
    (hrw : RW (G.1 a))
    (e68 : x68.toInt = ((2 : Int) * (hv (vw (G.2.1 (F p0 0))) (90 * ((G.1 a 2).toInt) + 30 * ((G.1 a 3).toInt)) (p1.toInt) 30)))
    (z0 : (0 ≤ ((G.1 a 0).toInt) ∧ ((G.1 a 0).toInt) ≤ 5) ∧ (0 ≤ ((G.1 a 2).toInt) ∧ ((G.1 a 2).toInt) ≤ 2) ∧ (0 ≤ ((G.1 a 3).toInt) ∧ ((G.1 a 3).toInt) ≤ 2) ∧ (-1 ≤ ((G.1 a 4).toInt) ∧ ((G.1 a 4).toInt) ≤ 2) ∧ (((G.1 a 0).toInt) = 1 ∨ ((G.1 a 0).toInt) = 3 ∨ ((G.1 a 0).toInt) = 4 → 0 ≤ ((G.1 a 4).toInt)))
    (z0a : (((G.1 a 0).toInt) = 0 → (stt (vw (G.2.1 (F p0 0))) ((G.1 a 0).toInt) ((G.1 a 2).toInt) ((G.1 a 3).toInt) ((G.1 a 4).toInt) (p1.toInt)) = (hv (vw (G.2.1 (F p0 0))) (90 * ((G.1 a 2).toInt) + 30 * ((G.1 a 3).toInt)) (p1.toInt) 30)) ∧ (((G.1 a 0).toInt) = 1 ∨ ((G.1 a 0).toInt) = 4 → ((cel (vw (G.2.1 (F p0 0))) ((G.1 a 4).toInt) (p1.toInt) 0) = -2000 ∧ (stt (vw (G.2.1 (F p0 0))) ((G.1 a 0).toInt) ((G.1 a 2).toInt) ((G.1 a 3).toInt) ((G.1 a 4).toInt) (p1.toInt)) = 2 * (hv (vw (G.2.1 (F p0 0))) (90 * ((G.1 a 2).toInt) + 30 * ((G.1 a 3).toInt)) (p1.toInt) 30)) ∨ ((cel (vw (G.2.1 (F p0 0))) ((G.1 a 4).toInt) (p1.toInt) 0) ≠ -2000 ∧ (stt (vw (G.2.1 (F p0 0))) ((G.1 a 0).toInt) ((G.1 a 2).toInt) ((G.1 a 3).toInt) ((G.1 a 4).toInt) (p1.toInt)) = 2 * (hv (vw (G.2.1 (F p0 0))) (90 * ((G.1 a 2).toInt) + 30 * ((G.1 a 3).toInt)) (p1.toInt) 30) + 1)) ∧ (((G.1 a 0).toInt) = 3 → ((hv (vw (G.2.1 (F p0 0))) (90 * ((G.1 a 2).toInt) + 30 * ((G.1 a 3).toInt)) (p1.toInt) 30) = 0 ∧ (stt (vw (G.2.1 (F p0 0))) ((G.1 a 0).toInt) ((G.1 a 2).toInt) ((G.1 a 3).toInt) ((G.1 a 4).toInt) (p1.toInt)) = 100000) ∨ ((hv (vw (G.2.1 (F p0 0))) (90 * ((G.1 a 2).toInt) + 30 * ((G.1 a 3).toInt)) (p1.toInt) 30) ≠ 0 ∧ (stt (vw (G.2.1 (F p0 0))) ((G.1 a 0).toInt) ((G.1 a 2).toInt) ((G.1 a 3).toInt) ((G.1 a 4).toInt) (p1.toInt)) = (smq (vw (G.2.1 (F p0 0))) (90 * ((G.1 a 2).toInt) + 30 * ((G.1 a 3).toInt)) (90 * ((G.1 a 2).toInt) + 30 * ((G.1 a 4).toInt)) (p1.toInt) 30))) ∧ (((G.1 a 0).toInt) = 2 ∨ ((G.1 a 0).toInt) = 5 → (stt (vw (G.2.1 (F p0 0))) ((G.1 a 0).toInt) ((G.1 a 2).toInt) ((G.1 a 3).toInt) ((G.1 a 4).toInt) (p1.toInt)) = (cel (vw (G.2.1 (F p0 0))) ((G.1 a 2).toInt) (p1.toInt) ((G.1 a 3).toInt))))
    (z0b : 0 ≤ (hv (vw (G.2.1 (F p0 0))) (90 * ((G.1 a 2).toInt) + 30 * ((G.1 a 3).toInt)) (p1.toInt) 30) ∧ (hv (vw (G.2.1 (F p0 0))) (90 * ((G.1 a 2).toInt) + 30 * ((G.1 a 3).toInt)) (p1.toInt) 30) ≤ 30)
    (c4 : ((G.1 a 0).toInt) = 4) :
    RO (vw (G.2.1 (F p0 0))) (aI (G.2.1 (F p0 1))) := by
  first | assumption | omega
theorem v_X7_fails_142_1 {K : Nat → Nat} {F : Nat → Nat → Nat} (a : Nat) (p0 : Nat) (G : XG) (p1 : Int32) (p2 : Int32)
    (ha : K a = 9)
    (hp0 : K p0 = 8)
    (hk9999 : K (F p0 0) = 20)
    (hj9999 : F (F p0 0) 99 = F p0 99)
    (hk9999a : K (F p0 1) = 21)
    (hj9999a : F (F p0 1) 99 = F p0 99)
    (hro : RO (vw (G.2.1 (F p0 0))) (aI (G.2.1 (F p0 1))))
    (hrw : RW (G.1 a))
    (z0 : (0 ≤ ((G.1 a 0).toInt) ∧ ((G.1 a 0).toInt) ≤ 5) ∧ (0 ≤ ((G.1 a 2).toInt) ∧ ((G.1 a 2).toInt) ≤ 2) ∧ (0 ≤ ((G.1 a 3).toInt) ∧ ((G.1 a 3).toInt) ≤ 2) ∧ (-1 ≤ ((G.1 a 4).toInt) ∧ ((G.1 a 4).toInt) ≤ 2) ∧ (((G.1 a 0).toInt) = 1 ∨ ((G.1 a 0).toInt) = 3 ∨ ((G.1 a 0).toInt) = 4 → 0 ≤ ((G.1 a 4).toInt)))
    (c4 : ((G.1 a 0).toInt) < 0 ∨ 4 < ((G.1 a 0).toInt))
    (z139 : ((G.1 a 0).toInt) = 5 → (flq (vw (G.2.1 (F p0 0))) ((G.1 a 0).toInt) ((G.1 a 2).toInt) ((G.1 a 3).toInt) ((G.1 a 5).toInt) ((G.1 a 6).toInt) (p1.toInt) (p2.toInt)) = (rgq (vw (G.2.1 (F p0 0))) ((G.1 a 2).toInt) ((G.1 a 3).toInt) (p1.toInt) 30 (cel (vw (G.2.1 (F p0 0))) ((G.1 a 2).toInt) (p1.toInt) ((G.1 a 3).toInt)))) :
    RO (vw (G.2.1 (F p0 0))) (aI (G.2.1 (F p0 1))) := by
  first | assumption | omega
