theorem v_X11_rekey_245_17 {F : Nat → Nat → Nat} (a : Nat) (G_137 : XG)
    (rm : RM (G_137.2.1 (F a 1)) 0) :
    RM (G_137.2.1 (F a 1)) 0 := by
  exact rm
theorem v_X11_rekey_245_18 {K : Nat → Nat} {F : Nat → Nat → Nat} (a : Nat) (G : XG) (G6 : XG) (x119 : Int32) (G_137 : XG) (p0 : Int32) (p1 : Int32) (p2 : Int32) (l4_75 : Int32) (l4_127 : Int32) (l5_137 : Int32) (x10 : Int32) (x17 : Int32) (x24 : Int32) (x39 : Int32) (x55 : Int32) (N75 : Nat) (N127 : Nat) (N137 : Nat) (x148 : Int32)
    (ha : K a = 13)
    (rp : mw (G_137.2.1 (F a 1)) 0 = repl (mvR (refA (G.2.1 (F a 10))) (refT (G.2.1 (F a 10))) (refC (G.2.1 (F a 10))) p0.toInt p1.toInt p2.toInt (rmv (mw (G.2.1 (F a 1)) 0) p0.toInt p1.toInt p2.toInt) (Int.toNat (l4_127.toInt))) (refT (G.2.1 (F a 10)) (l4_127.toInt)) (refC (G.2.1 (F a 10)) (l4_127.toInt)) p1.toInt (if refA (G.2.1 (F a 10)) (l4_127.toInt) p0.toInt = 1 then p2.toInt else -1000) (l5_137.toInt))
    (am : 0 ≤ ((G.1 a 43).toInt) ∧ ((G.1 a 43).toInt) ≤ 2388)
    (t6 : ((G6.1 a 20).toInt) = -2147483648 ∧ ((G6.1 a 21).toInt) = -2147483648 ∧ ((G6.1 a 23).toInt) = 0)
    (t10 : (x10.toInt = 1 ∧ 0 ≤ p0.toInt ∧ p0.toInt ≤ 2) ∨ (x10.toInt = 0 ∧ (p0.toInt < 0 ∨ 2 < p0.toInt)))
    (c13 : ¬ (x10.toInt = 0))
    (t17 : (x17.toInt = 1 ∧ 0 ≤ p1.toInt ∧ p1.toInt ≤ 29) ∨ (x17.toInt = 0 ∧ (p1.toInt < 0 ∨ 29 < p1.toInt)))
    (c20 : ¬ (x17.toInt = 0))
    (t24 : (x24.toInt = 1 ∧ 0 ≤ p2.toInt ∧ p2.toInt ≤ 29) ∨ (x24.toInt = 0 ∧ (p2.toInt < 0 ∨ 29 < p2.toInt)))
    (c27 : x24.toInt ≠ 0)
    (z36 : 0 ≤ p0.toInt ∧ p0.toInt < 3)
    (z36a : 0 ≤ p1.toInt ∧ p1.toInt < 30)
    (z36b : 0 ≤ p2.toInt ∧ p2.toInt < 30)
    (t39 : (x39.toInt = 1 ∧ (cel (mw (G.2.1 (F a 1)) 0) (p0.toInt) (p1.toInt) 0) ≠ -2000) ∨ (x39.toInt = 0 ∧ (cel (mw (G.2.1 (F a 1)) 0) (p0.toInt) (p1.toInt) 0) = -2000))
    (c42 : x39.toInt ≠ 0)
    (t55 : (x55.toInt = 1 ∧ (cel (mw (G.2.1 (F a 1)) 0) (p0.toInt) (p2.toInt) 0) ≠ -2000) ∨ (x55.toInt = 0 ∧ (cel (mw (G.2.1 (F a 1)) 0) (p0.toInt) (p2.toInt) 0) = -2000))
    (c58 : x55.toInt = 0)
    (z68 : p1.toInt = p2.toInt → (cel (mw (G.2.1 (F a 1)) 0) (p0.toInt) (p1.toInt) 0) = (cel (mw (G.2.1 (F a 1)) 0) (p0.toInt) (p2.toInt) 0))
    (I75_0 : 0 ≤ l4_75.toInt ∧ l4_75.toInt ≤ 4)
    (I75_1 : (0 : Int) ≤ l4_75.toInt)
    (hm75 : 2147483648 - l4_75.toInt < (((N75) + 1 : Nat) : Int))
    (c78 : (4 : Int) ≤ l4_75.toInt)
    (t119 : 0 ≤ p0.toInt ∧ p0.toInt ≤ 2 ∧ 0 ≤ p1.toInt ∧ p1.toInt ≤ 29 → x119.toInt = 4 * (30 * p0.toInt + p1.toInt))
    (I127_0 : 0 ≤ l4_127.toInt ∧ l4_127.toInt ≤ 12)
    (I127_1 : (0 : Int) ≤ l4_127.toInt)
    (hm127 : 2147483648 - l4_127.toInt < (((N127) + 1 : Nat) : Int))
    (c131 : ¬ ((12 : Int) ≤ l4_127.toInt))
    (I137_0 : 0 ≤ l5_137.toInt ∧ l5_137.toInt ≤ 30)
    (I137_1 : l5_137.toInt = 0 ∨ 0 < (refA (G.2.1 (F a 10)) (l4_127.toInt) (p0.toInt)))
    (I137_2 : (0 : Int) ≤ l5_137.toInt)
    (hm137 : 2147483648 - l5_137.toInt < (((N137) + 1 : Nat) : Int))
    (c141 : ¬ ((30 : Int) ≤ l5_137.toInt))
    (t148 : (x148.toInt = 1 ∧ 0 < (refA (G.2.1 (F a 10)) (l4_127.toInt) (p0.toInt))) ∨ (x148.toInt = 0 ∧ ¬ (0 < (refA (G.2.1 (F a 10)) (l4_127.toInt) (p0.toInt)))))
    (c151 : x148.toInt = 0) :
    mw (G_137.2.1 (F a 1)) 0 = mvR (refA (G.2.1 (F a 10))) (refT (G.2.1 (F a 10))) (refC (G.2.1 (F a 10))) p0.toInt p1.toInt p2.toInt (rmv (mw (G.2.1 (F a 1)) 0) p0.toInt p1.toInt p2.toInt) (Int.toNat (l4_127.toInt + 1)) := by
  first
    | (rw [mvR_s (by omega), if_neg (by omega), rp, show l5_137.toInt = 0 from by omega, repl_0])
    | (rw [mvR_s (by omega), if_pos (by omega), rp, show l5_137.toInt = 30 from by omega])
theorem v_X11_rekey_245_19 {F : Nat → Nat → Nat} (a : Nat) (G_137 : XG)
    (rm : RM (G_137.2.1 (F a 1)) 0) :
    RM (G_137.2.1 (F a 1)) 0 := by
  exact rm
theorem v_X11_rekey_239_20 {K : Nat → Nat} {F : Nat → Nat → Nat} (a : Nat) (G : XG) (G6 : XG) (x119 : Int32) (G_137 : XG) (p0 : Int32) (p1 : Int32) (p2 : Int32) (l4_75 : Int32) (l4_127 : Int32) (l5_137 : Int32) (x10 : Int32) (x17 : Int32) (x24 : Int32) (x39 : Int32) (x55 : Int32) (N75 : Nat) (N127 : Nat) (N137 : Nat) (x148 : Int32) (x163 : Int32)
    (ha : K a = 13)
    (rp : mw (G_137.2.1 (F a 1)) 0 = repl (mvR (refA (G.2.1 (F a 10))) (refT (G.2.1 (F a 10))) (refC (G.2.1 (F a 10))) p0.toInt p1.toInt p2.toInt (rmv (mw (G.2.1 (F a 1)) 0) p0.toInt p1.toInt p2.toInt) (Int.toNat (l4_127.toInt))) (refT (G.2.1 (F a 10)) (l4_127.toInt)) (refC (G.2.1 (F a 10)) (l4_127.toInt)) p1.toInt (if refA (G.2.1 (F a 10)) (l4_127.toInt) p0.toInt = 1 then p2.toInt else -1000) (l5_137.toInt))
    (am : 0 ≤ ((G.1 a 43).toInt) ∧ ((G.1 a 43).toInt) ≤ 2388)
    (t6 : ((G6.1 a 20).toInt) = -2147483648 ∧ ((G6.1 a 21).toInt) = -2147483648 ∧ ((G6.1 a 23).toInt) = 0)
    (t10 : (x10.toInt = 1 ∧ 0 ≤ p0.toInt ∧ p0.toInt ≤ 2) ∨ (x10.toInt = 0 ∧ (p0.toInt < 0 ∨ 2 < p0.toInt)))
    (c13 : ¬ (x10.toInt = 0))
    (t17 : (x17.toInt = 1 ∧ 0 ≤ p1.toInt ∧ p1.toInt ≤ 29) ∨ (x17.toInt = 0 ∧ (p1.toInt < 0 ∨ 29 < p1.toInt)))
    (c20 : ¬ (x17.toInt = 0))
    (t24 : (x24.toInt = 1 ∧ 0 ≤ p2.toInt ∧ p2.toInt ≤ 29) ∨ (x24.toInt = 0 ∧ (p2.toInt < 0 ∨ 29 < p2.toInt)))
    (c27 : x24.toInt ≠ 0)
    (z36 : 0 ≤ p0.toInt ∧ p0.toInt < 3)
    (z36a : 0 ≤ p1.toInt ∧ p1.toInt < 30)
    (z36b : 0 ≤ p2.toInt ∧ p2.toInt < 30)
    (t39 : (x39.toInt = 1 ∧ (cel (mw (G.2.1 (F a 1)) 0) (p0.toInt) (p1.toInt) 0) ≠ -2000) ∨ (x39.toInt = 0 ∧ (cel (mw (G.2.1 (F a 1)) 0) (p0.toInt) (p1.toInt) 0) = -2000))
    (c42 : x39.toInt ≠ 0)
    (t55 : (x55.toInt = 1 ∧ (cel (mw (G.2.1 (F a 1)) 0) (p0.toInt) (p2.toInt) 0) ≠ -2000) ∨ (x55.toInt = 0 ∧ (cel (mw (G.2.1 (F a 1)) 0) (p0.toInt) (p2.toInt) 0) = -2000))
    (c58 : x55.toInt = 0)
    (z68 : p1.toInt = p2.toInt → (cel (mw (G.2.1 (F a 1)) 0) (p0.toInt) (p1.toInt) 0) = (cel (mw (G.2.1 (F a 1)) 0) (p0.toInt) (p2.toInt) 0))
    (I75_0 : 0 ≤ l4_75.toInt ∧ l4_75.toInt ≤ 4)
    (I75_1 : (0 : Int) ≤ l4_75.toInt)
    (hm75 : 2147483648 - l4_75.toInt < (((N75) + 1 : Nat) : Int))
    (c78 : (4 : Int) ≤ l4_75.toInt)
    (t119 : 0 ≤ p0.toInt ∧ p0.toInt ≤ 2 ∧ 0 ≤ p1.toInt ∧ p1.toInt ≤ 29 → x119.toInt = 4 * (30 * p0.toInt + p1.toInt))
    (I127_0 : 0 ≤ l4_127.toInt ∧ l4_127.toInt ≤ 12)
    (I127_1 : (0 : Int) ≤ l4_127.toInt)
    (hm127 : 2147483648 - l4_127.toInt < (((N127) + 1 : Nat) : Int))
    (c131 : ¬ ((12 : Int) ≤ l4_127.toInt))
    (I137_0 : 0 ≤ l5_137.toInt ∧ l5_137.toInt ≤ 30)
    (I137_1 : l5_137.toInt = 0 ∨ 0 < (refA (G.2.1 (F a 10)) (l4_127.toInt) (p0.toInt)))
    (I137_2 : (0 : Int) ≤ l5_137.toInt)
    (hm137 : 2147483648 - l5_137.toInt < (((N137) + 1 : Nat) : Int))
    (c141 : ¬ ((30 : Int) ≤ l5_137.toInt))
    (t148 : (x148.toInt = 1 ∧ 0 < (refA (G.2.1 (F a 10)) (l4_127.toInt) (p0.toInt))) ∨ (x148.toInt = 0 ∧ ¬ (0 < (refA (G.2.1 (F a 10)) (l4_127.toInt) (p0.toInt)))))
    (c151 : ¬ (x148.toInt = 0))
    (z154 : ((0 ≤ l4_127.toInt ∧ l4_127.toInt < 12 ∧ (aI (G.2.1 (F a 10)) (10 * l4_127.toInt + 0)) = 1 ∧ (aI (G.2.1 (F a 10)) (10 * l4_127.toInt + 3)) = p0.toInt) ∧ (refA (G.2.1 (F a 10)) (l4_127.toInt) (p0.toInt)) = (aI (G.2.1 (F a 10)) (10 * l4_127.toInt + 8))) ∨ (¬ (0 ≤ l4_127.toInt ∧ l4_127.toInt < 12 ∧ (aI (G.2.1 (F a 10)) (10 * l4_127.toInt + 0)) = 1 ∧ (aI (G.2.1 (F a 10)) (10 * l4_127.toInt + 3)) = p0.toInt) ∧ (refA (G.2.1 (F a 10)) (l4_127.toInt) (p0.toInt)) = 0))
    (z154a : (-1 ≤ (aI (G.2.1 (F a 10)) (10 * l4_127.toInt + 0)) ∧ (aI (G.2.1 (F a 10)) (10 * l4_127.toInt + 0)) ≤ 5) ∧ (0 ≤ (aI (G.2.1 (F a 10)) (10 * l4_127.toInt + 1)) ∧ (aI (G.2.1 (F a 10)) (10 * l4_127.toInt + 1)) ≤ 2) ∧ (0 ≤ (aI (G.2.1 (F a 10)) (10 * l4_127.toInt + 2)) ∧ (aI (G.2.1 (F a 10)) (10 * l4_127.toInt + 2)) ≤ 2))
    (t163 : 0 ≤ (aI (G.2.1 (F a 10)) (10 * l4_127.toInt + 1)) ∧ (aI (G.2.1 (F a 10)) (10 * l4_127.toInt + 1)) ≤ 2 ∧ 0 ≤ l5_137.toInt ∧ l5_137.toInt ≤ 29 → x163.toInt = 4 * (30 * (aI (G.2.1 (F a 10)) (10 * l4_127.toInt + 1)) + l5_137.toInt))
    (z168 : ((aI (G_137.2.1 (F a 1)) (0 + 4 * (30 * (aI (G.2.1 (F a 10)) (10 * l4_127.toInt + 1)) + l5_137.toInt))) = 0 ∧ (cel (mw (G_137.2.1 (F a 1)) 0) (aI (G.2.1 (F a 10)) (10 * l4_127.toInt + 1)) (l5_137.toInt) (aI (G.2.1 (F a 10)) (10 * l4_127.toInt + 2))) = -2000) ∨ ((aI (G_137.2.1 (F a 1)) (0 + 4 * (30 * (aI (G.2.1 (F a 10)) (10 * l4_127.toInt + 1)) + l5_137.toInt))) = 1 ∧ (cel (mw (G_137.2.1 (F a 1)) 0) (aI (G.2.1 (F a 10)) (10 * l4_127.toInt + 1)) (l5_137.toInt) (aI (G.2.1 (F a 10)) (10 * l4_127.toInt + 2))) = (aI (G_137.2.1 (F a 1)) (0 + 4 * (30 * (aI (G.2.1 (F a 10)) (10 * l4_127.toInt + 1)) + l5_137.toInt) + 1 + (aI (G.2.1 (F a 10)) (10 * l4_127.toInt + 2))))))
    (c176 : (aI (G_137.2.1 (F a 1)) (0 + 4 * (30 * (aI (G.2.1 (F a 10)) (10 * l4_127.toInt + 1)) + l5_137.toInt))) ≠ (1 : Int)) :
    mw (G_137.2.1 (F a 1)) 0 = repl (mvR (refA (G.2.1 (F a 10))) (refT (G.2.1 (F a 10))) (refC (G.2.1 (F a 10))) p0.toInt p1.toInt p2.toInt (rmv (mw (G.2.1 (F a 1)) 0) p0.toInt p1.toInt p2.toInt) (Int.toNat (l4_127.toInt))) (refT (G.2.1 (F a 10)) (l4_127.toInt)) (refC (G.2.1 (F a 10)) (l4_127.toInt)) p1.toInt (if refA (G.2.1 (F a 10)) (l4_127.toInt) p0.toInt = 1 then p2.toInt else -1000) (l5_137.toInt + 1) := by
  have rf := refT_f (f := G.2.1 (F a 10)) (r := l4_127.toInt) (t := p0.toInt) (by omega)
  rw [rf.2.1, rf.2.2.1] at rp ⊢
  have ec : cel (mw (G_137.2.1 (F a 1)) 0) (aI (G.2.1 (F a 10)) (10 * l4_127.toInt + 1)) (l5_137.toInt) (aI (G.2.1 (F a 10)) (10 * l4_127.toInt + 2)) = (mvR (refA (G.2.1 (F a 10))) (refT (G.2.1 (F a 10))) (refC (G.2.1 (F a 10))) p0.toInt p1.toInt p2.toInt (rmv (mw (G.2.1 (F a 1)) 0) p0.toInt p1.toInt p2.toInt) (Int.toNat (l4_127.toInt))) (90 * aI (G.2.1 (F a 10)) (10 * l4_127.toInt + 1) + 30 * aI (G.2.1 (F a 10)) (10 * l4_127.toInt + 2) + l5_137.toInt) := by
    rw [rp, cel_in (by omega), repl_at (Int.le_refl _)]
  rw [repl_2 (by omega)]
  exact rp
theorem v_X11_rekey_239_21 {F : Nat → Nat → Nat} (a : Nat) (G_137 : XG)
    (rm : RM (G_137.2.1 (F a 1)) 0) :
    RM (G_137.2.1 (F a 1)) 0 := by
  exact rm
theorem v_X11_rekey_239_22 {K : Nat → Nat} {F : Nat → Nat → Nat} (a : Nat) (G : XG) (G6 : XG) (x119 : Int32) (G_137 : XG) (p0 : Int32) (p1 : Int32) (p2 : Int32) (l4_75 : Int32) (l4_127 : Int32) (l5_137 : Int32) (x10 : Int32) (x17 : Int32) (x24 : Int32) (x39 : Int32) (x55 : Int32) (N75 : Nat) (N127 : Nat) (N137 : Nat) (x148 : Int32) (x163 : Int32)
    (ha : K a = 13)
    (rp : mw (G_137.2.1 (F a 1)) 0 = repl (mvR (refA (G.2.1 (F a 10))) (refT (G.2.1 (F a 10))) (refC (G.2.1 (F a 10))) p0.toInt p1.toInt p2.toInt (rmv (mw (G.2.1 (F a 1)) 0) p0.toInt p1.toInt p2.toInt) (Int.toNat (l4_127.toInt))) (refT (G.2.1 (F a 10)) (l4_127.toInt)) (refC (G.2.1 (F a 10)) (l4_127.toInt)) p1.toInt (if refA (G.2.1 (F a 10)) (l4_127.toInt) p0.toInt = 1 then p2.toInt else -1000) (l5_137.toInt))
    (am : 0 ≤ ((G.1 a 43).toInt) ∧ ((G.1 a 43).toInt) ≤ 2388)
    (t6 : ((G6.1 a 20).toInt) = -2147483648 ∧ ((G6.1 a 21).toInt) = -2147483648 ∧ ((G6.1 a 23).toInt) = 0)
    (t10 : (x10.toInt = 1 ∧ 0 ≤ p0.toInt ∧ p0.toInt ≤ 2) ∨ (x10.toInt = 0 ∧ (p0.toInt < 0 ∨ 2 < p0.toInt)))
    (c13 : ¬ (x10.toInt = 0))
    (t17 : (x17.toInt = 1 ∧ 0 ≤ p1.toInt ∧ p1.toInt ≤ 29) ∨ (x17.toInt = 0 ∧ (p1.toInt < 0 ∨ 29 < p1.toInt)))
    (c20 : ¬ (x17.toInt = 0))
    (t24 : (x24.toInt = 1 ∧ 0 ≤ p2.toInt ∧ p2.toInt ≤ 29) ∨ (x24.toInt = 0 ∧ (p2.toInt < 0 ∨ 29 < p2.toInt)))
    (c27 : x24.toInt ≠ 0)
    (z36 : 0 ≤ p0.toInt ∧ p0.toInt < 3)
    (z36a : 0 ≤ p1.toInt ∧ p1.toInt < 30)
    (z36b : 0 ≤ p2.toInt ∧ p2.toInt < 30)
    (t39 : (x39.toInt = 1 ∧ (cel (mw (G.2.1 (F a 1)) 0) (p0.toInt) (p1.toInt) 0) ≠ -2000) ∨ (x39.toInt = 0 ∧ (cel (mw (G.2.1 (F a 1)) 0) (p0.toInt) (p1.toInt) 0) = -2000))
    (c42 : x39.toInt ≠ 0)
    (t55 : (x55.toInt = 1 ∧ (cel (mw (G.2.1 (F a 1)) 0) (p0.toInt) (p2.toInt) 0) ≠ -2000) ∨ (x55.toInt = 0 ∧ (cel (mw (G.2.1 (F a 1)) 0) (p0.toInt) (p2.toInt) 0) = -2000))
    (c58 : x55.toInt = 0)
    (z68 : p1.toInt = p2.toInt → (cel (mw (G.2.1 (F a 1)) 0) (p0.toInt) (p1.toInt) 0) = (cel (mw (G.2.1 (F a 1)) 0) (p0.toInt) (p2.toInt) 0))
    (I75_0 : 0 ≤ l4_75.toInt ∧ l4_75.toInt ≤ 4)
    (I75_1 : (0 : Int) ≤ l4_75.toInt)
    (hm75 : 2147483648 - l4_75.toInt < (((N75) + 1 : Nat) : Int))
    (c78 : (4 : Int) ≤ l4_75.toInt)
    (t119 : 0 ≤ p0.toInt ∧ p0.toInt ≤ 2 ∧ 0 ≤ p1.toInt ∧ p1.toInt ≤ 29 → x119.toInt = 4 * (30 * p0.toInt + p1.toInt))
    (I127_0 : 0 ≤ l4_127.toInt ∧ l4_127.toInt ≤ 12)
    (I127_1 : (0 : Int) ≤ l4_127.toInt)
    (hm127 : 2147483648 - l4_127.toInt < (((N127) + 1 : Nat) : Int))
    (c131 : ¬ ((12 : Int) ≤ l4_127.toInt))
    (I137_0 : 0 ≤ l5_137.toInt ∧ l5_137.toInt ≤ 30)
    (I137_1 : l5_137.toInt = 0 ∨ 0 < (refA (G.2.1 (F a 10)) (l4_127.toInt) (p0.toInt)))
    (I137_2 : (0 : Int) ≤ l5_137.toInt)
    (hm137 : 2147483648 - l5_137.toInt < (((N137) + 1 : Nat) : Int))
    (c141 : ¬ ((30 : Int) ≤ l5_137.toInt))
    (t148 : (x148.toInt = 1 ∧ 0 < (refA (G.2.1 (F a 10)) (l4_127.toInt) (p0.toInt))) ∨ (x148.toInt = 0 ∧ ¬ (0 < (refA (G.2.1 (F a 10)) (l4_127.toInt) (p0.toInt)))))
    (c151 : ¬ (x148.toInt = 0))
    (z154 : ((0 ≤ l4_127.toInt ∧ l4_127.toInt < 12 ∧ (aI (G.2.1 (F a 10)) (10 * l4_127.toInt + 0)) = 1 ∧ (aI (G.2.1 (F a 10)) (10 * l4_127.toInt + 3)) = p0.toInt) ∧ (refA (G.2.1 (F a 10)) (l4_127.toInt) (p0.toInt)) = (aI (G.2.1 (F a 10)) (10 * l4_127.toInt + 8))) ∨ (¬ (0 ≤ l4_127.toInt ∧ l4_127.toInt < 12 ∧ (aI (G.2.1 (F a 10)) (10 * l4_127.toInt + 0)) = 1 ∧ (aI (G.2.1 (F a 10)) (10 * l4_127.toInt + 3)) = p0.toInt) ∧ (refA (G.2.1 (F a 10)) (l4_127.toInt) (p0.toInt)) = 0))
    (z154a : (-1 ≤ (aI (G.2.1 (F a 10)) (10 * l4_127.toInt + 0)) ∧ (aI (G.2.1 (F a 10)) (10 * l4_127.toInt + 0)) ≤ 5) ∧ (0 ≤ (aI (G.2.1 (F a 10)) (10 * l4_127.toInt + 1)) ∧ (aI (G.2.1 (F a 10)) (10 * l4_127.toInt + 1)) ≤ 2) ∧ (0 ≤ (aI (G.2.1 (F a 10)) (10 * l4_127.toInt + 2)) ∧ (aI (G.2.1 (F a 10)) (10 * l4_127.toInt + 2)) ≤ 2))
    (t163 : 0 ≤ (aI (G.2.1 (F a 10)) (10 * l4_127.toInt + 1)) ∧ (aI (G.2.1 (F a 10)) (10 * l4_127.toInt + 1)) ≤ 2 ∧ 0 ≤ l5_137.toInt ∧ l5_137.toInt ≤ 29 → x163.toInt = 4 * (30 * (aI (G.2.1 (F a 10)) (10 * l4_127.toInt + 1)) + l5_137.toInt))
    (z168 : ((aI (G_137.2.1 (F a 1)) (0 + 4 * (30 * (aI (G.2.1 (F a 10)) (10 * l4_127.toInt + 1)) + l5_137.toInt))) = 0 ∧ (cel (mw (G_137.2.1 (F a 1)) 0) (aI (G.2.1 (F a 10)) (10 * l4_127.toInt + 1)) (l5_137.toInt) (aI (G.2.1 (F a 10)) (10 * l4_127.toInt + 2))) = -2000) ∨ ((aI (G_137.2.1 (F a 1)) (0 + 4 * (30 * (aI (G.2.1 (F a 10)) (10 * l4_127.toInt + 1)) + l5_137.toInt))) = 1 ∧ (cel (mw (G_137.2.1 (F a 1)) 0) (aI (G.2.1 (F a 10)) (10 * l4_127.toInt + 1)) (l5_137.toInt) (aI (G.2.1 (F a 10)) (10 * l4_127.toInt + 2))) = (aI (G_137.2.1 (F a 1)) (0 + 4 * (30 * (aI (G.2.1 (F a 10)) (10 * l4_127.toInt + 1)) + l5_137.toInt) + 1 + (aI (G.2.1 (F a 10)) (10 * l4_127.toInt + 2))))))
    (c176 : ¬ ((aI (G_137.2.1 (F a 1)) (0 + 4 * (30 * (aI (G.2.1 (F a 10)) (10 * l4_127.toInt + 1)) + l5_137.toInt))) ≠ (1 : Int)))
    (c197 : (aI (G_137.2.1 (F a 1)) (0 + 4 * (30 * (aI (G.2.1 (F a 10)) (10 * l4_127.toInt + 1)) + l5_137.toInt) + 1 + (aI (G.2.1 (F a 10)) (10 * l4_127.toInt + 2)))) ≠ p1.toInt) :
    mw (G_137.2.1 (F a 1)) 0 = repl (mvR (refA (G.2.1 (F a 10))) (refT (G.2.1 (F a 10))) (refC (G.2.1 (F a 10))) p0.toInt p1.toInt p2.toInt (rmv (mw (G.2.1 (F a 1)) 0) p0.toInt p1.toInt p2.toInt) (Int.toNat (l4_127.toInt))) (refT (G.2.1 (F a 10)) (l4_127.toInt)) (refC (G.2.1 (F a 10)) (l4_127.toInt)) p1.toInt (if refA (G.2.1 (F a 10)) (l4_127.toInt) p0.toInt = 1 then p2.toInt else -1000) (l5_137.toInt + 1) := by
  have rf := refT_f (f := G.2.1 (F a 10)) (r := l4_127.toInt) (t := p0.toInt) (by omega)
  rw [rf.2.1, rf.2.2.1] at rp ⊢
  have ec : cel (mw (G_137.2.1 (F a 1)) 0) (aI (G.2.1 (F a 10)) (10 * l4_127.toInt + 1)) (l5_137.toInt) (aI (G.2.1 (F a 10)) (10 * l4_127.toInt + 2)) = (mvR (refA (G.2.1 (F a 10))) (refT (G.2.1 (F a 10))) (refC (G.2.1 (F a 10))) p0.toInt p1.toInt p2.toInt (rmv (mw (G.2.1 (F a 1)) 0) p0.toInt p1.toInt p2.toInt) (Int.toNat (l4_127.toInt))) (90 * aI (G.2.1 (F a 10)) (10 * l4_127.toInt + 1) + 30 * aI (G.2.1 (F a 10)) (10 * l4_127.toInt + 2) + l5_137.toInt) := by
    rw [rp, cel_in (by omega), repl_at (Int.le_refl _)]
  rw [repl_2 (by omega)]
  exact rp
theorem v_X11_rekey_239_23 {F : Nat → Nat → Nat} (a : Nat) (G_137 : XG)
    (rm : RM (G_137.2.1 (F a 1)) 0) :
    RM (G_137.2.1 (F a 1)) 0 := by
  exact rm
theorem v_X11_rekey_239_24 {K : Nat → Nat} {F : Nat → Nat → Nat} (a : Nat) (G : XG) (G6 : XG) (x119 : Int32) (G_137 : XG) (G235 : XG) (x215 : Int32) (p0 : Int32) (p1 : Int32) (p2 : Int32) (l4_75 : Int32) (l4_127 : Int32) (l5_137 : Int32) (x10 : Int32) (x17 : Int32) (x24 : Int32) (x39 : Int32) (x55 : Int32) (N75 : Nat) (N127 : Nat) (N137 : Nat) (x148 : Int32) (x163 : Int32) (x207 : Int32)
    (ha : K a = 13)
    (hG235 : G235 = cput G_137 (F a 1) x215.toNatClampNeg (-1000))
    (rp : mw (G_137.2.1 (F a 1)) 0 = repl (mvR (refA (G.2.1 (F a 10))) (refT (G.2.1 (F a 10))) (refC (G.2.1 (F a 10))) p0.toInt p1.toInt p2.toInt (rmv (mw (G.2.1 (F a 1)) 0) p0.toInt p1.toInt p2.toInt) (Int.toNat (l4_127.toInt))) (refT (G.2.1 (F a 10)) (l4_127.toInt)) (refC (G.2.1 (F a 10)) (l4_127.toInt)) p1.toInt (if refA (G.2.1 (F a 10)) (l4_127.toInt) p0.toInt = 1 then p2.toInt else -1000) (l5_137.toInt))
    (am : 0 ≤ ((G.1 a 43).toInt) ∧ ((G.1 a 43).toInt) ≤ 2388)
    (t6 : ((G6.1 a 20).toInt) = -2147483648 ∧ ((G6.1 a 21).toInt) = -2147483648 ∧ ((G6.1 a 23).toInt) = 0)
    (t10 : (x10.toInt = 1 ∧ 0 ≤ p0.toInt ∧ p0.toInt ≤ 2) ∨ (x10.toInt = 0 ∧ (p0.toInt < 0 ∨ 2 < p0.toInt)))
    (c13 : ¬ (x10.toInt = 0))
    (t17 : (x17.toInt = 1 ∧ 0 ≤ p1.toInt ∧ p1.toInt ≤ 29) ∨ (x17.toInt = 0 ∧ (p1.toInt < 0 ∨ 29 < p1.toInt)))
    (c20 : ¬ (x17.toInt = 0))
    (t24 : (x24.toInt = 1 ∧ 0 ≤ p2.toInt ∧ p2.toInt ≤ 29) ∨ (x24.toInt = 0 ∧ (p2.toInt < 0 ∨ 29 < p2.toInt)))
    (c27 : x24.toInt ≠ 0)
    (z36 : 0 ≤ p0.toInt ∧ p0.toInt < 3)
    (z36a : 0 ≤ p1.toInt ∧ p1.toInt < 30)
    (z36b : 0 ≤ p2.toInt ∧ p2.toInt < 30)
    (t39 : (x39.toInt = 1 ∧ (cel (mw (G.2.1 (F a 1)) 0) (p0.toInt) (p1.toInt) 0) ≠ -2000) ∨ (x39.toInt = 0 ∧ (cel (mw (G.2.1 (F a 1)) 0) (p0.toInt) (p1.toInt) 0) = -2000))
    (c42 : x39.toInt ≠ 0)
    (t55 : (x55.toInt = 1 ∧ (cel (mw (G.2.1 (F a 1)) 0) (p0.toInt) (p2.toInt) 0) ≠ -2000) ∨ (x55.toInt = 0 ∧ (cel (mw (G.2.1 (F a 1)) 0) (p0.toInt) (p2.toInt) 0) = -2000))
    (c58 : x55.toInt = 0)
    (z68 : p1.toInt = p2.toInt → (cel (mw (G.2.1 (F a 1)) 0) (p0.toInt) (p1.toInt) 0) = (cel (mw (G.2.1 (F a 1)) 0) (p0.toInt) (p2.toInt) 0))
    (I75_0 : 0 ≤ l4_75.toInt ∧ l4_75.toInt ≤ 4)
    (I75_1 : (0 : Int) ≤ l4_75.toInt)
    (hm75 : 2147483648 - l4_75.toInt < (((N75) + 1 : Nat) : Int))
    (c78 : (4 : Int) ≤ l4_75.toInt)
    (t119 : 0 ≤ p0.toInt ∧ p0.toInt ≤ 2 ∧ 0 ≤ p1.toInt ∧ p1.toInt ≤ 29 → x119.toInt = 4 * (30 * p0.toInt + p1.toInt))
    (I127_0 : 0 ≤ l4_127.toInt ∧ l4_127.toInt ≤ 12)
    (I127_1 : (0 : Int) ≤ l4_127.toInt)
    (hm127 : 2147483648 - l4_127.toInt < (((N127) + 1 : Nat) : Int))
    (c131 : ¬ ((12 : Int) ≤ l4_127.toInt))
    (I137_0 : 0 ≤ l5_137.toInt ∧ l5_137.toInt ≤ 30)
    (I137_1 : l5_137.toInt = 0 ∨ 0 < (refA (G.2.1 (F a 10)) (l4_127.toInt) (p0.toInt)))
    (I137_2 : (0 : Int) ≤ l5_137.toInt)
    (hm137 : 2147483648 - l5_137.toInt < (((N137) + 1 : Nat) : Int))
    (c141 : ¬ ((30 : Int) ≤ l5_137.toInt))
    (t148 : (x148.toInt = 1 ∧ 0 < (refA (G.2.1 (F a 10)) (l4_127.toInt) (p0.toInt))) ∨ (x148.toInt = 0 ∧ ¬ (0 < (refA (G.2.1 (F a 10)) (l4_127.toInt) (p0.toInt)))))
    (c151 : ¬ (x148.toInt = 0))
    (z154 : ((0 ≤ l4_127.toInt ∧ l4_127.toInt < 12 ∧ (aI (G.2.1 (F a 10)) (10 * l4_127.toInt + 0)) = 1 ∧ (aI (G.2.1 (F a 10)) (10 * l4_127.toInt + 3)) = p0.toInt) ∧ (refA (G.2.1 (F a 10)) (l4_127.toInt) (p0.toInt)) = (aI (G.2.1 (F a 10)) (10 * l4_127.toInt + 8))) ∨ (¬ (0 ≤ l4_127.toInt ∧ l4_127.toInt < 12 ∧ (aI (G.2.1 (F a 10)) (10 * l4_127.toInt + 0)) = 1 ∧ (aI (G.2.1 (F a 10)) (10 * l4_127.toInt + 3)) = p0.toInt) ∧ (refA (G.2.1 (F a 10)) (l4_127.toInt) (p0.toInt)) = 0))
    (z154a : (-1 ≤ (aI (G.2.1 (F a 10)) (10 * l4_127.toInt + 0)) ∧ (aI (G.2.1 (F a 10)) (10 * l4_127.toInt + 0)) ≤ 5) ∧ (0 ≤ (aI (G.2.1 (F a 10)) (10 * l4_127.toInt + 1)) ∧ (aI (G.2.1 (F a 10)) (10 * l4_127.toInt + 1)) ≤ 2) ∧ (0 ≤ (aI (G.2.1 (F a 10)) (10 * l4_127.toInt + 2)) ∧ (aI (G.2.1 (F a 10)) (10 * l4_127.toInt + 2)) ≤ 2))
    (t163 : 0 ≤ (aI (G.2.1 (F a 10)) (10 * l4_127.toInt + 1)) ∧ (aI (G.2.1 (F a 10)) (10 * l4_127.toInt + 1)) ≤ 2 ∧ 0 ≤ l5_137.toInt ∧ l5_137.toInt ≤ 29 → x163.toInt = 4 * (30 * (aI (G.2.1 (F a 10)) (10 * l4_127.toInt + 1)) + l5_137.toInt))
    (z168 : ((aI (G_137.2.1 (F a 1)) (0 + 4 * (30 * (aI (G.2.1 (F a 10)) (10 * l4_127.toInt + 1)) + l5_137.toInt))) = 0 ∧ (cel (mw (G_137.2.1 (F a 1)) 0) (aI (G.2.1 (F a 10)) (10 * l4_127.toInt + 1)) (l5_137.toInt) (aI (G.2.1 (F a 10)) (10 * l4_127.toInt + 2))) = -2000) ∨ ((aI (G_137.2.1 (F a 1)) (0 + 4 * (30 * (aI (G.2.1 (F a 10)) (10 * l4_127.toInt + 1)) + l5_137.toInt))) = 1 ∧ (cel (mw (G_137.2.1 (F a 1)) 0) (aI (G.2.1 (F a 10)) (10 * l4_127.toInt + 1)) (l5_137.toInt) (aI (G.2.1 (F a 10)) (10 * l4_127.toInt + 2))) = (aI (G_137.2.1 (F a 1)) (0 + 4 * (30 * (aI (G.2.1 (F a 10)) (10 * l4_127.toInt + 1)) + l5_137.toInt) + 1 + (aI (G.2.1 (F a 10)) (10 * l4_127.toInt + 2))))))
    (c176 : ¬ ((aI (G_137.2.1 (F a 1)) (0 + 4 * (30 * (aI (G.2.1 (F a 10)) (10 * l4_127.toInt + 1)) + l5_137.toInt))) ≠ (1 : Int)))
    (c197 : ¬ ((aI (G_137.2.1 (F a 1)) (0 + 4 * (30 * (aI (G.2.1 (F a 10)) (10 * l4_127.toInt + 1)) + l5_137.toInt) + 1 + (aI (G.2.1 (F a 10)) (10 * l4_127.toInt + 2)))) ≠ p1.toInt))
    (t207 : x207.toInt = x163.toInt + (1 : Int) ∨ x163.toInt + (1 : Int) < -2147483648 ∨ 2147483648 ≤ x163.toInt + (1 : Int))
    (t215 : x215.toInt = x207.toInt + (aI (G.2.1 (F a 10)) (10 * l4_127.toInt + 2)) ∨ x207.toInt + (aI (G.2.1 (F a 10)) (10 * l4_127.toInt + 2)) < -2147483648 ∨ 2147483648 ≤ x207.toInt + (aI (G.2.1 (F a 10)) (10 * l4_127.toInt + 2)))
    (c225 : (aI (G.2.1 (F a 10)) (10 * l4_127.toInt + 8)) ≠ (1 : Int)) :
    mw (G235.2.1 (F a 1)) 0 = repl (mvR (refA (G.2.1 (F a 10))) (refT (G.2.1 (F a 10))) (refC (G.2.1 (F a 10))) p0.toInt p1.toInt p2.toInt (rmv (mw (G.2.1 (F a 1)) 0) p0.toInt p1.toInt p2.toInt) (Int.toNat (l4_127.toInt))) (refT (G.2.1 (F a 10)) (l4_127.toInt)) (refC (G.2.1 (F a 10)) (l4_127.toInt)) p1.toInt (if refA (G.2.1 (F a 10)) (l4_127.toInt) p0.toInt = 1 then p2.toInt else -1000) (l5_137.toInt + 1) := by
  have rf := refT_f (f := G.2.1 (F a 10)) (r := l4_127.toInt) (t := p0.toInt) (by omega)
  rw [rf.2.1, rf.2.2.1] at rp ⊢
  have ec : cel (mw (G_137.2.1 (F a 1)) 0) (aI (G.2.1 (F a 10)) (10 * l4_127.toInt + 1)) (l5_137.toInt) (aI (G.2.1 (F a 10)) (10 * l4_127.toInt + 2)) = (mvR (refA (G.2.1 (F a 10))) (refT (G.2.1 (F a 10))) (refC (G.2.1 (F a 10))) p0.toInt p1.toInt p2.toInt (rmv (mw (G.2.1 (F a 1)) 0) p0.toInt p1.toInt p2.toInt) (Int.toNat (l4_127.toInt))) (90 * aI (G.2.1 (F a 10)) (10 * l4_127.toInt + 1) + 30 * aI (G.2.1 (F a 10)) (10 * l4_127.toInt + 2) + l5_137.toInt) := by
    rw [rp, cel_in (by omega), repl_at (Int.le_refl _)]
  first
    | (have e1 := mw_set (b := 0) (t := aI (G.2.1 (F a 10)) (10 * l4_127.toInt + 1)) (k := l5_137.toInt) (c := aI (G.2.1 (F a 10)) (10 * l4_127.toInt + 2)) (by omega) (by decide) (by omega) (aI_pu hG235 rfl rfl rfl (by omega)) (by omega)
       rw [e1, rp]
       rw [if_pos (by omega), repl_1 (by omega) (by omega)])
    | (have e1 := mw_set (b := 0) (t := aI (G.2.1 (F a 10)) (10 * l4_127.toInt + 1)) (k := l5_137.toInt) (c := aI (G.2.1 (F a 10)) (10 * l4_127.toInt + 2)) (by omega) (by decide) (by omega) (aI_pu hG235 rfl rfl (show ((-1000 : Int32)).toInt = -1000 from by decide) (by omega)) (by omega)
       rw [e1, rp]
       rw [if_neg (by omega), repl_1 (by omega) (by omega)])
theorem v_X11_rekey_239_25 {K : Nat → Nat} {F : Nat → Nat → Nat} (a : Nat) (G : XG) (G6 : XG) (x119 : Int32) (G_137 : XG) (G235 : XG) (x215 : Int32) (p0 : Int32) (p1 : Int32) (p2 : Int32) (l4_75 : Int32) (l4_127 : Int32) (l5_137 : Int32) (x10 : Int32) (x17 : Int32) (x24 : Int32) (x39 : Int32) (x55 : Int32) (N75 : Nat) (N127 : Nat) (N137 : Nat) (x148 : Int32) (x163 : Int32) (x207 : Int32)
    (ha : K a = 13)
    (hG235 : G235 = cput G_137 (F a 1) x215.toNatClampNeg (-1000))
    (rm : RM (G_137.2.1 (F a 1)) 0)
    (am : 0 ≤ ((G.1 a 43).toInt) ∧ ((G.1 a 43).toInt) ≤ 2388)
    (t6 : ((G6.1 a 20).toInt) = -2147483648 ∧ ((G6.1 a 21).toInt) = -2147483648 ∧ ((G6.1 a 23).toInt) = 0)
    (t10 : (x10.toInt = 1 ∧ 0 ≤ p0.toInt ∧ p0.toInt ≤ 2) ∨ (x10.toInt = 0 ∧ (p0.toInt < 0 ∨ 2 < p0.toInt)))
    (c13 : ¬ (x10.toInt = 0))
    (t17 : (x17.toInt = 1 ∧ 0 ≤ p1.toInt ∧ p1.toInt ≤ 29) ∨ (x17.toInt = 0 ∧ (p1.toInt < 0 ∨ 29 < p1.toInt)))
    (c20 : ¬ (x17.toInt = 0))
    (t24 : (x24.toInt = 1 ∧ 0 ≤ p2.toInt ∧ p2.toInt ≤ 29) ∨ (x24.toInt = 0 ∧ (p2.toInt < 0 ∨ 29 < p2.toInt)))
    (c27 : x24.toInt ≠ 0)
    (z36 : 0 ≤ p0.toInt ∧ p0.toInt < 3)
    (z36a : 0 ≤ p1.toInt ∧ p1.toInt < 30)
    (z36b : 0 ≤ p2.toInt ∧ p2.toInt < 30)
    (t39 : (x39.toInt = 1 ∧ (cel (mw (G.2.1 (F a 1)) 0) (p0.toInt) (p1.toInt) 0) ≠ -2000) ∨ (x39.toInt = 0 ∧ (cel (mw (G.2.1 (F a 1)) 0) (p0.toInt) (p1.toInt) 0) = -2000))
    (c42 : x39.toInt ≠ 0)
    (t55 : (x55.toInt = 1 ∧ (cel (mw (G.2.1 (F a 1)) 0) (p0.toInt) (p2.toInt) 0) ≠ -2000) ∨ (x55.toInt = 0 ∧ (cel (mw (G.2.1 (F a 1)) 0) (p0.toInt) (p2.toInt) 0) = -2000))
    (c58 : x55.toInt = 0)
    (z68 : p1.toInt = p2.toInt → (cel (mw (G.2.1 (F a 1)) 0) (p0.toInt) (p1.toInt) 0) = (cel (mw (G.2.1 (F a 1)) 0) (p0.toInt) (p2.toInt) 0))
    (I75_0 : 0 ≤ l4_75.toInt ∧ l4_75.toInt ≤ 4)
    (I75_1 : (0 : Int) ≤ l4_75.toInt)
    (hm75 : 2147483648 - l4_75.toInt < (((N75) + 1 : Nat) : Int))
    (c78 : (4 : Int) ≤ l4_75.toInt)
    (t119 : 0 ≤ p0.toInt ∧ p0.toInt ≤ 2 ∧ 0 ≤ p1.toInt ∧ p1.toInt ≤ 29 → x119.toInt = 4 * (30 * p0.toInt + p1.toInt))
    (I127_0 : 0 ≤ l4_127.toInt ∧ l4_127.toInt ≤ 12)
    (I127_1 : (0 : Int) ≤ l4_127.toInt)
    (hm127 : 2147483648 - l4_127.toInt < (((N127) + 1 : Nat) : Int))
    (c131 : ¬ ((12 : Int) ≤ l4_127.toInt))
    (I137_0 : 0 ≤ l5_137.toInt ∧ l5_137.toInt ≤ 30)
    (I137_1 : l5_137.toInt = 0 ∨ 0 < (refA (G.2.1 (F a 10)) (l4_127.toInt) (p0.toInt)))
    (I137_2 : (0 : Int) ≤ l5_137.toInt)
    (hm137 : 2147483648 - l5_137.toInt < (((N137) + 1 : Nat) : Int))
    (c141 : ¬ ((30 : Int) ≤ l5_137.toInt))
    (t148 : (x148.toInt = 1 ∧ 0 < (refA (G.2.1 (F a 10)) (l4_127.toInt) (p0.toInt))) ∨ (x148.toInt = 0 ∧ ¬ (0 < (refA (G.2.1 (F a 10)) (l4_127.toInt) (p0.toInt)))))
    (c151 : ¬ (x148.toInt = 0))
    (z154 : ((0 ≤ l4_127.toInt ∧ l4_127.toInt < 12 ∧ (aI (G.2.1 (F a 10)) (10 * l4_127.toInt + 0)) = 1 ∧ (aI (G.2.1 (F a 10)) (10 * l4_127.toInt + 3)) = p0.toInt) ∧ (refA (G.2.1 (F a 10)) (l4_127.toInt) (p0.toInt)) = (aI (G.2.1 (F a 10)) (10 * l4_127.toInt + 8))) ∨ (¬ (0 ≤ l4_127.toInt ∧ l4_127.toInt < 12 ∧ (aI (G.2.1 (F a 10)) (10 * l4_127.toInt + 0)) = 1 ∧ (aI (G.2.1 (F a 10)) (10 * l4_127.toInt + 3)) = p0.toInt) ∧ (refA (G.2.1 (F a 10)) (l4_127.toInt) (p0.toInt)) = 0))
    (z154a : (-1 ≤ (aI (G.2.1 (F a 10)) (10 * l4_127.toInt + 0)) ∧ (aI (G.2.1 (F a 10)) (10 * l4_127.toInt + 0)) ≤ 5) ∧ (0 ≤ (aI (G.2.1 (F a 10)) (10 * l4_127.toInt + 1)) ∧ (aI (G.2.1 (F a 10)) (10 * l4_127.toInt + 1)) ≤ 2) ∧ (0 ≤ (aI (G.2.1 (F a 10)) (10 * l4_127.toInt + 2)) ∧ (aI (G.2.1 (F a 10)) (10 * l4_127.toInt + 2)) ≤ 2))
    (t163 : 0 ≤ (aI (G.2.1 (F a 10)) (10 * l4_127.toInt + 1)) ∧ (aI (G.2.1 (F a 10)) (10 * l4_127.toInt + 1)) ≤ 2 ∧ 0 ≤ l5_137.toInt ∧ l5_137.toInt ≤ 29 → x163.toInt = 4 * (30 * (aI (G.2.1 (F a 10)) (10 * l4_127.toInt + 1)) + l5_137.toInt))
    (z168 : ((aI (G_137.2.1 (F a 1)) (0 + 4 * (30 * (aI (G.2.1 (F a 10)) (10 * l4_127.toInt + 1)) + l5_137.toInt))) = 0 ∧ (cel (mw (G_137.2.1 (F a 1)) 0) (aI (G.2.1 (F a 10)) (10 * l4_127.toInt + 1)) (l5_137.toInt) (aI (G.2.1 (F a 10)) (10 * l4_127.toInt + 2))) = -2000) ∨ ((aI (G_137.2.1 (F a 1)) (0 + 4 * (30 * (aI (G.2.1 (F a 10)) (10 * l4_127.toInt + 1)) + l5_137.toInt))) = 1 ∧ (cel (mw (G_137.2.1 (F a 1)) 0) (aI (G.2.1 (F a 10)) (10 * l4_127.toInt + 1)) (l5_137.toInt) (aI (G.2.1 (F a 10)) (10 * l4_127.toInt + 2))) = (aI (G_137.2.1 (F a 1)) (0 + 4 * (30 * (aI (G.2.1 (F a 10)) (10 * l4_127.toInt + 1)) + l5_137.toInt) + 1 + (aI (G.2.1 (F a 10)) (10 * l4_127.toInt + 2))))))
    (c176 : ¬ ((aI (G_137.2.1 (F a 1)) (0 + 4 * (30 * (aI (G.2.1 (F a 10)) (10 * l4_127.toInt + 1)) + l5_137.toInt))) ≠ (1 : Int)))
    (c197 : ¬ ((aI (G_137.2.1 (F a 1)) (0 + 4 * (30 * (aI (G.2.1 (F a 10)) (10 * l4_127.toInt + 1)) + l5_137.toInt) + 1 + (aI (G.2.1 (F a 10)) (10 * l4_127.toInt + 2)))) ≠ p1.toInt))
    (t207 : x207.toInt = x163.toInt + (1 : Int) ∨ x163.toInt + (1 : Int) < -2147483648 ∨ 2147483648 ≤ x163.toInt + (1 : Int))
    (t215 : x215.toInt = x207.toInt + (aI (G.2.1 (F a 10)) (10 * l4_127.toInt + 2)) ∨ x207.toInt + (aI (G.2.1 (F a 10)) (10 * l4_127.toInt + 2)) < -2147483648 ∨ 2147483648 ≤ x207.toInt + (aI (G.2.1 (F a 10)) (10 * l4_127.toInt + 2)))
    (c225 : (aI (G.2.1 (F a 10)) (10 * l4_127.toInt + 8)) ≠ (1 : Int)) :
    RM (G235.2.1 (F a 1)) 0 := by
  first
    | exact rm.set (t := aI (G.2.1 (F a 10)) (10 * l4_127.toInt + 1)) (k := l5_137.toInt) (c := aI (G.2.1 (F a 10)) (10 * l4_127.toInt + 2)) (by omega) (by decide) (by omega) (aI_pu hG235 rfl rfl rfl (by omega)) (by omega)
    | exact rm.set (t := aI (G.2.1 (F a 10)) (10 * l4_127.toInt + 1)) (k := l5_137.toInt) (c := aI (G.2.1 (F a 10)) (10 * l4_127.toInt + 2)) (by omega) (by decide) (by omega) (aI_pu hG235 rfl rfl (show ((-1000 : Int32)).toInt = -1000 from by decide) (by omega)) (by omega)
theorem v_X11_rekey_239_26 {K : Nat → Nat} {F : Nat → Nat → Nat} (a : Nat) (G : XG) (G6 : XG) (x119 : Int32) (G_137 : XG) (G235 : XG) (x215 : Int32) (p2 : Int32) (p0 : Int32) (p1 : Int32) (l4_75 : Int32) (l4_127 : Int32) (l5_137 : Int32) (x10 : Int32) (x17 : Int32) (x24 : Int32) (x39 : Int32) (x55 : Int32) (N75 : Nat) (N127 : Nat) (N137 : Nat) (x148 : Int32) (x163 : Int32) (x207 : Int32)
    (ha : K a = 13)
    (hG235 : G235 = cput G_137 (F a 1) x215.toNatClampNeg p2)
    (rp : mw (G_137.2.1 (F a 1)) 0 = repl (mvR (refA (G.2.1 (F a 10))) (refT (G.2.1 (F a 10))) (refC (G.2.1 (F a 10))) p0.toInt p1.toInt p2.toInt (rmv (mw (G.2.1 (F a 1)) 0) p0.toInt p1.toInt p2.toInt) (Int.toNat (l4_127.toInt))) (refT (G.2.1 (F a 10)) (l4_127.toInt)) (refC (G.2.1 (F a 10)) (l4_127.toInt)) p1.toInt (if refA (G.2.1 (F a 10)) (l4_127.toInt) p0.toInt = 1 then p2.toInt else -1000) (l5_137.toInt))
    (am : 0 ≤ ((G.1 a 43).toInt) ∧ ((G.1 a 43).toInt) ≤ 2388)
    (t6 : ((G6.1 a 20).toInt) = -2147483648 ∧ ((G6.1 a 21).toInt) = -2147483648 ∧ ((G6.1 a 23).toInt) = 0)
    (t10 : (x10.toInt = 1 ∧ 0 ≤ p0.toInt ∧ p0.toInt ≤ 2) ∨ (x10.toInt = 0 ∧ (p0.toInt < 0 ∨ 2 < p0.toInt)))
    (c13 : ¬ (x10.toInt = 0))
    (t17 : (x17.toInt = 1 ∧ 0 ≤ p1.toInt ∧ p1.toInt ≤ 29) ∨ (x17.toInt = 0 ∧ (p1.toInt < 0 ∨ 29 < p1.toInt)))
    (c20 : ¬ (x17.toInt = 0))
    (t24 : (x24.toInt = 1 ∧ 0 ≤ p2.toInt ∧ p2.toInt ≤ 29) ∨ (x24.toInt = 0 ∧ (p2.toInt < 0 ∨ 29 < p2.toInt)))
    (c27 : x24.toInt ≠ 0)
    (z36 : 0 ≤ p0.toInt ∧ p0.toInt < 3)
    (z36a : 0 ≤ p1.toInt ∧ p1.toInt < 30)
    (z36b : 0 ≤ p2.toInt ∧ p2.toInt < 30)
    (t39 : (x39.toInt = 1 ∧ (cel (mw (G.2.1 (F a 1)) 0) (p0.toInt) (p1.toInt) 0) ≠ -2000) ∨ (x39.toInt = 0 ∧ (cel (mw (G.2.1 (F a 1)) 0) (p0.toInt) (p1.toInt) 0) = -2000))
    (c42 : x39.toInt ≠ 0)
    (t55 : (x55.toInt = 1 ∧ (cel (mw (G.2.1 (F a 1)) 0) (p0.toInt) (p2.toInt) 0) ≠ -2000) ∨ (x55.toInt = 0 ∧ (cel (mw (G.2.1 (F a 1)) 0) (p0.toInt) (p2.toInt) 0) = -2000))
    (c58 : x55.toInt = 0)
    (z68 : p1.toInt = p2.toInt → (cel (mw (G.2.1 (F a 1)) 0) (p0.toInt) (p1.toInt) 0) = (cel (mw (G.2.1 (F a 1)) 0) (p0.toInt) (p2.toInt) 0))
    (I75_0 : 0 ≤ l4_75.toInt ∧ l4_75.toInt ≤ 4)
    (I75_1 : (0 : Int) ≤ l4_75.toInt)
    (hm75 : 2147483648 - l4_75.toInt < (((N75) + 1 : Nat) : Int))
    (c78 : (4 : Int) ≤ l4_75.toInt)
    (t119 : 0 ≤ p0.toInt ∧ p0.toInt ≤ 2 ∧ 0 ≤ p1.toInt ∧ p1.toInt ≤ 29 → x119.toInt = 4 * (30 * p0.toInt + p1.toInt))
    (I127_0 : 0 ≤ l4_127.toInt ∧ l4_127.toInt ≤ 12)
    (I127_1 : (0 : Int) ≤ l4_127.toInt)
    (hm127 : 2147483648 - l4_127.toInt < (((N127) + 1 : Nat) : Int))
    (c131 : ¬ ((12 : Int) ≤ l4_127.toInt))
    (I137_0 : 0 ≤ l5_137.toInt ∧ l5_137.toInt ≤ 30)
    (I137_1 : l5_137.toInt = 0 ∨ 0 < (refA (G.2.1 (F a 10)) (l4_127.toInt) (p0.toInt)))
    (I137_2 : (0 : Int) ≤ l5_137.toInt)
    (hm137 : 2147483648 - l5_137.toInt < (((N137) + 1 : Nat) : Int))
    (c141 : ¬ ((30 : Int) ≤ l5_137.toInt))
    (t148 : (x148.toInt = 1 ∧ 0 < (refA (G.2.1 (F a 10)) (l4_127.toInt) (p0.toInt))) ∨ (x148.toInt = 0 ∧ ¬ (0 < (refA (G.2.1 (F a 10)) (l4_127.toInt) (p0.toInt)))))
    (c151 : ¬ (x148.toInt = 0))
    (z154 : ((0 ≤ l4_127.toInt ∧ l4_127.toInt < 12 ∧ (aI (G.2.1 (F a 10)) (10 * l4_127.toInt + 0)) = 1 ∧ (aI (G.2.1 (F a 10)) (10 * l4_127.toInt + 3)) = p0.toInt) ∧ (refA (G.2.1 (F a 10)) (l4_127.toInt) (p0.toInt)) = (aI (G.2.1 (F a 10)) (10 * l4_127.toInt + 8))) ∨ (¬ (0 ≤ l4_127.toInt ∧ l4_127.toInt < 12 ∧ (aI (G.2.1 (F a 10)) (10 * l4_127.toInt + 0)) = 1 ∧ (aI (G.2.1 (F a 10)) (10 * l4_127.toInt + 3)) = p0.toInt) ∧ (refA (G.2.1 (F a 10)) (l4_127.toInt) (p0.toInt)) = 0))
    (z154a : (-1 ≤ (aI (G.2.1 (F a 10)) (10 * l4_127.toInt + 0)) ∧ (aI (G.2.1 (F a 10)) (10 * l4_127.toInt + 0)) ≤ 5) ∧ (0 ≤ (aI (G.2.1 (F a 10)) (10 * l4_127.toInt + 1)) ∧ (aI (G.2.1 (F a 10)) (10 * l4_127.toInt + 1)) ≤ 2) ∧ (0 ≤ (aI (G.2.1 (F a 10)) (10 * l4_127.toInt + 2)) ∧ (aI (G.2.1 (F a 10)) (10 * l4_127.toInt + 2)) ≤ 2))
    (t163 : 0 ≤ (aI (G.2.1 (F a 10)) (10 * l4_127.toInt + 1)) ∧ (aI (G.2.1 (F a 10)) (10 * l4_127.toInt + 1)) ≤ 2 ∧ 0 ≤ l5_137.toInt ∧ l5_137.toInt ≤ 29 → x163.toInt = 4 * (30 * (aI (G.2.1 (F a 10)) (10 * l4_127.toInt + 1)) + l5_137.toInt))
    (z168 : ((aI (G_137.2.1 (F a 1)) (0 + 4 * (30 * (aI (G.2.1 (F a 10)) (10 * l4_127.toInt + 1)) + l5_137.toInt))) = 0 ∧ (cel (mw (G_137.2.1 (F a 1)) 0) (aI (G.2.1 (F a 10)) (10 * l4_127.toInt + 1)) (l5_137.toInt) (aI (G.2.1 (F a 10)) (10 * l4_127.toInt + 2))) = -2000) ∨ ((aI (G_137.2.1 (F a 1)) (0 + 4 * (30 * (aI (G.2.1 (F a 10)) (10 * l4_127.toInt + 1)) + l5_137.toInt))) = 1 ∧ (cel (mw (G_137.2.1 (F a 1)) 0) (aI (G.2.1 (F a 10)) (10 * l4_127.toInt + 1)) (l5_137.toInt) (aI (G.2.1 (F a 10)) (10 * l4_127.toInt + 2))) = (aI (G_137.2.1 (F a 1)) (0 + 4 * (30 * (aI (G.2.1 (F a 10)) (10 * l4_127.toInt + 1)) + l5_137.toInt) + 1 + (aI (G.2.1 (F a 10)) (10 * l4_127.toInt + 2))))))
    (c176 : ¬ ((aI (G_137.2.1 (F a 1)) (0 + 4 * (30 * (aI (G.2.1 (F a 10)) (10 * l4_127.toInt + 1)) + l5_137.toInt))) ≠ (1 : Int)))
    (c197 : ¬ ((aI (G_137.2.1 (F a 1)) (0 + 4 * (30 * (aI (G.2.1 (F a 10)) (10 * l4_127.toInt + 1)) + l5_137.toInt) + 1 + (aI (G.2.1 (F a 10)) (10 * l4_127.toInt + 2)))) ≠ p1.toInt))
    (t207 : x207.toInt = x163.toInt + (1 : Int) ∨ x163.toInt + (1 : Int) < -2147483648 ∨ 2147483648 ≤ x163.toInt + (1 : Int))
    (t215 : x215.toInt = x207.toInt + (aI (G.2.1 (F a 10)) (10 * l4_127.toInt + 2)) ∨ x207.toInt + (aI (G.2.1 (F a 10)) (10 * l4_127.toInt + 2)) < -2147483648 ∨ 2147483648 ≤ x207.toInt + (aI (G.2.1 (F a 10)) (10 * l4_127.toInt + 2)))
    (c225 : ¬ ((aI (G.2.1 (F a 10)) (10 * l4_127.toInt + 8)) ≠ (1 : Int))) :
    mw (G235.2.1 (F a 1)) 0 = repl (mvR (refA (G.2.1 (F a 10))) (refT (G.2.1 (F a 10))) (refC (G.2.1 (F a 10))) p0.toInt p1.toInt p2.toInt (rmv (mw (G.2.1 (F a 1)) 0) p0.toInt p1.toInt p2.toInt) (Int.toNat (l4_127.toInt))) (refT (G.2.1 (F a 10)) (l4_127.toInt)) (refC (G.2.1 (F a 10)) (l4_127.toInt)) p1.toInt (if refA (G.2.1 (F a 10)) (l4_127.toInt) p0.toInt = 1 then p2.toInt else -1000) (l5_137.toInt + 1) := by
  have rf := refT_f (f := G.2.1 (F a 10)) (r := l4_127.toInt) (t := p0.toInt) (by omega)
  rw [rf.2.1, rf.2.2.1] at rp ⊢
  have ec : cel (mw (G_137.2.1 (F a 1)) 0) (aI (G.2.1 (F a 10)) (10 * l4_127.toInt + 1)) (l5_137.toInt) (aI (G.2.1 (F a 10)) (10 * l4_127.toInt + 2)) = (mvR (refA (G.2.1 (F a 10))) (refT (G.2.1 (F a 10))) (refC (G.2.1 (F a 10))) p0.toInt p1.toInt p2.toInt (rmv (mw (G.2.1 (F a 1)) 0) p0.toInt p1.toInt p2.toInt) (Int.toNat (l4_127.toInt))) (90 * aI (G.2.1 (F a 10)) (10 * l4_127.toInt + 1) + 30 * aI (G.2.1 (F a 10)) (10 * l4_127.toInt + 2) + l5_137.toInt) := by
    rw [rp, cel_in (by omega), repl_at (Int.le_refl _)]
  first
    | (have e1 := mw_set (b := 0) (t := aI (G.2.1 (F a 10)) (10 * l4_127.toInt + 1)) (k := l5_137.toInt) (c := aI (G.2.1 (F a 10)) (10 * l4_127.toInt + 2)) (by omega) (by decide) (by omega) (aI_pu hG235 rfl rfl rfl (by omega)) (by omega)
       rw [e1, rp]
       rw [if_pos (by omega), repl_1 (by omega) (by omega)])
    | (have e1 := mw_set (b := 0) (t := aI (G.2.1 (F a 10)) (10 * l4_127.toInt + 1)) (k := l5_137.toInt) (c := aI (G.2.1 (F a 10)) (10 * l4_127.toInt + 2)) (by omega) (by decide) (by omega) (aI_pu hG235 rfl rfl (show ((-1000 : Int32)).toInt = -1000 from by decide) (by omega)) (by omega)
       rw [e1, rp]
       rw [if_neg (by omega), repl_1 (by omega) (by omega)])
theorem v_X11_rekey_239_27 {K : Nat → Nat} {F : Nat → Nat → Nat} (a : Nat) (G : XG) (G6 : XG) (x119 : Int32) (G_137 : XG) (G235 : XG) (x215 : Int32) (p2 : Int32) (p0 : Int32) (p1 : Int32) (l4_75 : Int32) (l4_127 : Int32) (l5_137 : Int32) (x10 : Int32) (x17 : Int32) (x24 : Int32) (x39 : Int32) (x55 : Int32) (N75 : Nat) (N127 : Nat) (N137 : Nat) (x148 : Int32) (x163 : Int32) (x207 : Int32)
    (ha : K a = 13)
    (hG235 : G235 = cput G_137 (F a 1) x215.toNatClampNeg p2)
    (rm : RM (G_137.2.1 (F a 1)) 0)
    (am : 0 ≤ ((G.1 a 43).toInt) ∧ ((G.1 a 43).toInt) ≤ 2388)
    (t6 : ((G6.1 a 20).toInt) = -2147483648 ∧ ((G6.1 a 21).toInt) = -2147483648 ∧ ((G6.1 a 23).toInt) = 0)
    (t10 : (x10.toInt = 1 ∧ 0 ≤ p0.toInt ∧ p0.toInt ≤ 2) ∨ (x10.toInt = 0 ∧ (p0.toInt < 0 ∨ 2 < p0.toInt)))
    (c13 : ¬ (x10.toInt = 0))
    (t17 : (x17.toInt = 1 ∧ 0 ≤ p1.toInt ∧ p1.toInt ≤ 29) ∨ (x17.toInt = 0 ∧ (p1.toInt < 0 ∨ 29 < p1.toInt)))
    (c20 : ¬ (x17.toInt = 0))
    (t24 : (x24.toInt = 1 ∧ 0 ≤ p2.toInt ∧ p2.toInt ≤ 29) ∨ (x24.toInt = 0 ∧ (p2.toInt < 0 ∨ 29 < p2.toInt)))
    (c27 : x24.toInt ≠ 0)
    (z36 : 0 ≤ p0.toInt ∧ p0.toInt < 3)
    (z36a : 0 ≤ p1.toInt ∧ p1.toInt < 30)
    (z36b : 0 ≤ p2.toInt ∧ p2.toInt < 30)
    (t39 : (x39.toInt = 1 ∧ (cel (mw (G.2.1 (F a 1)) 0) (p0.toInt) (p1.toInt) 0) ≠ -2000) ∨ (x39.toInt = 0 ∧ (cel (mw (G.2.1 (F a 1)) 0) (p0.toInt) (p1.toInt) 0) = -2000))
    (c42 : x39.toInt ≠ 0)
    (t55 : (x55.toInt = 1 ∧ (cel (mw (G.2.1 (F a 1)) 0) (p0.toInt) (p2.toInt) 0) ≠ -2000) ∨ (x55.toInt = 0 ∧ (cel (mw (G.2.1 (F a 1)) 0) (p0.toInt) (p2.toInt) 0) = -2000))
    (c58 : x55.toInt = 0)
    (z68 : p1.toInt = p2.toInt → (cel (mw (G.2.1 (F a 1)) 0) (p0.toInt) (p1.toInt) 0) = (cel (mw (G.2.1 (F a 1)) 0) (p0.toInt) (p2.toInt) 0))
    (I75_0 : 0 ≤ l4_75.toInt ∧ l4_75.toInt ≤ 4)
    (I75_1 : (0 : Int) ≤ l4_75.toInt)
    (hm75 : 2147483648 - l4_75.toInt < (((N75) + 1 : Nat) : Int))
    (c78 : (4 : Int) ≤ l4_75.toInt)
    (t119 : 0 ≤ p0.toInt ∧ p0.toInt ≤ 2 ∧ 0 ≤ p1.toInt ∧ p1.toInt ≤ 29 → x119.toInt = 4 * (30 * p0.toInt + p1.toInt))
    (I127_0 : 0 ≤ l4_127.toInt ∧ l4_127.toInt ≤ 12)
    (I127_1 : (0 : Int) ≤ l4_127.toInt)
    (hm127 : 2147483648 - l4_127.toInt < (((N127) + 1 : Nat) : Int))
    (c131 : ¬ ((12 : Int) ≤ l4_127.toInt))
    (I137_0 : 0 ≤ l5_137.toInt ∧ l5_137.toInt ≤ 30)
    (I137_1 : l5_137.toInt = 0 ∨ 0 < (refA (G.2.1 (F a 10)) (l4_127.toInt) (p0.toInt)))
    (I137_2 : (0 : Int) ≤ l5_137.toInt)
    (hm137 : 2147483648 - l5_137.toInt < (((N137) + 1 : Nat) : Int))
    (c141 : ¬ ((30 : Int) ≤ l5_137.toInt))
    (t148 : (x148.toInt = 1 ∧ 0 < (refA (G.2.1 (F a 10)) (l4_127.toInt) (p0.toInt))) ∨ (x148.toInt = 0 ∧ ¬ (0 < (refA (G.2.1 (F a 10)) (l4_127.toInt) (p0.toInt)))))
    (c151 : ¬ (x148.toInt = 0))
    (z154 : ((0 ≤ l4_127.toInt ∧ l4_127.toInt < 12 ∧ (aI (G.2.1 (F a 10)) (10 * l4_127.toInt + 0)) = 1 ∧ (aI (G.2.1 (F a 10)) (10 * l4_127.toInt + 3)) = p0.toInt) ∧ (refA (G.2.1 (F a 10)) (l4_127.toInt) (p0.toInt)) = (aI (G.2.1 (F a 10)) (10 * l4_127.toInt + 8))) ∨ (¬ (0 ≤ l4_127.toInt ∧ l4_127.toInt < 12 ∧ (aI (G.2.1 (F a 10)) (10 * l4_127.toInt + 0)) = 1 ∧ (aI (G.2.1 (F a 10)) (10 * l4_127.toInt + 3)) = p0.toInt) ∧ (refA (G.2.1 (F a 10)) (l4_127.toInt) (p0.toInt)) = 0))
    (z154a : (-1 ≤ (aI (G.2.1 (F a 10)) (10 * l4_127.toInt + 0)) ∧ (aI (G.2.1 (F a 10)) (10 * l4_127.toInt + 0)) ≤ 5) ∧ (0 ≤ (aI (G.2.1 (F a 10)) (10 * l4_127.toInt + 1)) ∧ (aI (G.2.1 (F a 10)) (10 * l4_127.toInt + 1)) ≤ 2) ∧ (0 ≤ (aI (G.2.1 (F a 10)) (10 * l4_127.toInt + 2)) ∧ (aI (G.2.1 (F a 10)) (10 * l4_127.toInt + 2)) ≤ 2))
    (t163 : 0 ≤ (aI (G.2.1 (F a 10)) (10 * l4_127.toInt + 1)) ∧ (aI (G.2.1 (F a 10)) (10 * l4_127.toInt + 1)) ≤ 2 ∧ 0 ≤ l5_137.toInt ∧ l5_137.toInt ≤ 29 → x163.toInt = 4 * (30 * (aI (G.2.1 (F a 10)) (10 * l4_127.toInt + 1)) + l5_137.toInt))
    (z168 : ((aI (G_137.2.1 (F a 1)) (0 + 4 * (30 * (aI (G.2.1 (F a 10)) (10 * l4_127.toInt + 1)) + l5_137.toInt))) = 0 ∧ (cel (mw (G_137.2.1 (F a 1)) 0) (aI (G.2.1 (F a 10)) (10 * l4_127.toInt + 1)) (l5_137.toInt) (aI (G.2.1 (F a 10)) (10 * l4_127.toInt + 2))) = -2000) ∨ ((aI (G_137.2.1 (F a 1)) (0 + 4 * (30 * (aI (G.2.1 (F a 10)) (10 * l4_127.toInt + 1)) + l5_137.toInt))) = 1 ∧ (cel (mw (G_137.2.1 (F a 1)) 0) (aI (G.2.1 (F a 10)) (10 * l4_127.toInt + 1)) (l5_137.toInt) (aI (G.2.1 (F a 10)) (10 * l4_127.toInt + 2))) = (aI (G_137.2.1 (F a 1)) (0 + 4 * (30 * (aI (G.2.1 (F a 10)) (10 * l4_127.toInt + 1)) + l5_137.toInt) + 1 + (aI (G.2.1 (F a 10)) (10 * l4_127.toInt + 2))))))
    (c176 : ¬ ((aI (G_137.2.1 (F a 1)) (0 + 4 * (30 * (aI (G.2.1 (F a 10)) (10 * l4_127.toInt + 1)) + l5_137.toInt))) ≠ (1 : Int)))
    (c197 : ¬ ((aI (G_137.2.1 (F a 1)) (0 + 4 * (30 * (aI (G.2.1 (F a 10)) (10 * l4_127.toInt + 1)) + l5_137.toInt) + 1 + (aI (G.2.1 (F a 10)) (10 * l4_127.toInt + 2)))) ≠ p1.toInt))
    (t207 : x207.toInt = x163.toInt + (1 : Int) ∨ x163.toInt + (1 : Int) < -2147483648 ∨ 2147483648 ≤ x163.toInt + (1 : Int))
    (t215 : x215.toInt = x207.toInt + (aI (G.2.1 (F a 10)) (10 * l4_127.toInt + 2)) ∨ x207.toInt + (aI (G.2.1 (F a 10)) (10 * l4_127.toInt + 2)) < -2147483648 ∨ 2147483648 ≤ x207.toInt + (aI (G.2.1 (F a 10)) (10 * l4_127.toInt + 2)))
    (c225 : ¬ ((aI (G.2.1 (F a 10)) (10 * l4_127.toInt + 8)) ≠ (1 : Int))) :
    RM (G235.2.1 (F a 1)) 0 := by
  first
    | exact rm.set (t := aI (G.2.1 (F a 10)) (10 * l4_127.toInt + 1)) (k := l5_137.toInt) (c := aI (G.2.1 (F a 10)) (10 * l4_127.toInt + 2)) (by omega) (by decide) (by omega) (aI_pu hG235 rfl rfl rfl (by omega)) (by omega)
    | exact rm.set (t := aI (G.2.1 (F a 10)) (10 * l4_127.toInt + 1)) (k := l5_137.toInt) (c := aI (G.2.1 (F a 10)) (10 * l4_127.toInt + 2)) (by omega) (by decide) (by omega) (aI_pu hG235 rfl rfl (show ((-1000 : Int32)).toInt = -1000 from by decide) (by omega)) (by omega)
theorem v_X11_rekey_135_28 {F : Nat → Nat → Nat} (a : Nat) (G : XG) (G_127 : XG) (p0 : Int32) (p1 : Int32) (p2 : Int32) (l4_127 : Int32)
    (mv : mw (G_127.2.1 (F a 1)) 0 = mvR (refA (G.2.1 (F a 10))) (refT (G.2.1 (F a 10))) (refC (G.2.1 (F a 10))) p0.toInt p1.toInt p2.toInt (rmv (mw (G.2.1 (F a 1)) 0) p0.toInt p1.toInt p2.toInt) (Int.toNat (l4_127.toInt))) :
    mw (G_127.2.1 (F a 1)) 0 = repl (mvR (refA (G.2.1 (F a 10))) (refT (G.2.1 (F a 10))) (refC (G.2.1 (F a 10))) p0.toInt p1.toInt p2.toInt (rmv (mw (G.2.1 (F a 1)) 0) p0.toInt p1.toInt p2.toInt) (Int.toNat (l4_127.toInt))) (refT (G.2.1 (F a 10)) (l4_127.toInt)) (refC (G.2.1 (F a 10)) (l4_127.toInt)) p1.toInt (if refA (G.2.1 (F a 10)) (l4_127.toInt) p0.toInt = 1 then p2.toInt else -1000) (0 : Int) := by
  rw [repl_0]; exact mv
theorem v_X11_rekey_135_29 {F : Nat → Nat → Nat} (a : Nat) (G_127 : XG)
    (rm : RM (G_127.2.1 (F a 1)) 0) :
    RM (G_127.2.1 (F a 1)) 0 := by
  exact rm
theorem v_X11_rekey_125_30 {F : Nat → Nat → Nat} (G123 : XG) (G_75 : XG) (a : Nat) (x119 : Int32) (G : XG) (p0 : Int32) (p1 : Int32) (p2 : Int32) (l4_75 : Int32) (x39 : Int32) (x55 : Int32)
    (hG123 : G123 = cput G_75 (F a 1) x119.toNatClampNeg 0)
    (mp : MVp (G.2.1 (F a 1)) (G_75.2.1 (F a 1)) (0 + 4 * (30 * p0.toInt + p1.toInt)) (0 + 4 * (30 * p0.toInt + p2.toInt)) (l4_75.toInt))
    (z36 : 0 ≤ p0.toInt ∧ p0.toInt < 3)
    (z36a : 0 ≤ p1.toInt ∧ p1.toInt < 30)
    (z36b : 0 ≤ p2.toInt ∧ p2.toInt < 30)
    (t39 : (x39.toInt = 1 ∧ (cel (mw (G.2.1 (F a 1)) 0) (p0.toInt) (p1.toInt) 0) ≠ -2000) ∨ (x39.toInt = 0 ∧ (cel (mw (G.2.1 (F a 1)) 0) (p0.toInt) (p1.toInt) 0) = -2000))
    (c42 : x39.toInt ≠ 0)
    (t55 : (x55.toInt = 1 ∧ (cel (mw (G.2.1 (F a 1)) 0) (p0.toInt) (p2.toInt) 0) ≠ -2000) ∨ (x55.toInt = 0 ∧ (cel (mw (G.2.1 (F a 1)) 0) (p0.toInt) (p2.toInt) 0) = -2000))
    (c58 : x55.toInt = 0)
    (z68 : p1.toInt = p2.toInt → (cel (mw (G.2.1 (F a 1)) 0) (p0.toInt) (p1.toInt) 0) = (cel (mw (G.2.1 (F a 1)) 0) (p0.toInt) (p2.toInt) 0))
    (I75_0 : 0 ≤ l4_75.toInt ∧ l4_75.toInt ≤ 4)
    (c78 : (4 : Int) ≤ l4_75.toInt)
    (t119 : 0 ≤ p0.toInt ∧ p0.toInt ≤ 2 ∧ 0 ≤ p1.toInt ∧ p1.toInt ≤ 29 → x119.toInt = 4 * (30 * p0.toInt + p1.toInt)) :
    mw (G123.2.1 (F a 1)) 0 = mvR (refA (G.2.1 (F a 10))) (refT (G.2.1 (F a 10))) (refC (G.2.1 (F a 10))) p0.toInt p1.toInt p2.toInt (rmv (mw (G.2.1 (F a 1)) 0) p0.toInt p1.toInt p2.toInt) (Int.toNat (0 : Int)) := by
  have u := (show MVp (G.2.1 (F a 1)) (G_75.2.1 (F a 1)) (0 + 4 * (30 * p0.toInt + p1.toInt)) (0 + 4 * (30 * p0.toInt + p2.toInt)) 4 from by rw [show l4_75.toInt = 4 from by omega] at mp; exact mp).all (aI_pu hG123 rfl rfl (show ((0 : Int32)).toInt = 0 from by decide) (by omega)) (by omega)
  exact mw_mov (by omega) (by decide) rfl rfl u
theorem v_X11_rekey_125_31 {F : Nat → Nat → Nat} (G123 : XG) (G_75 : XG) (a : Nat) (x119 : Int32) (G : XG) (p0 : Int32) (p1 : Int32) (p2 : Int32) (l4_75 : Int32) (x39 : Int32) (x55 : Int32)
    (hG123 : G123 = cput G_75 (F a 1) x119.toNatClampNeg 0)
    (hM : RM (G.2.1 (F a 1)) (0))
    (mp : MVp (G.2.1 (F a 1)) (G_75.2.1 (F a 1)) (0 + 4 * (30 * p0.toInt + p1.toInt)) (0 + 4 * (30 * p0.toInt + p2.toInt)) (l4_75.toInt))
    (z36 : 0 ≤ p0.toInt ∧ p0.toInt < 3)
    (z36a : 0 ≤ p1.toInt ∧ p1.toInt < 30)
    (z36b : 0 ≤ p2.toInt ∧ p2.toInt < 30)
    (t39 : (x39.toInt = 1 ∧ (cel (mw (G.2.1 (F a 1)) 0) (p0.toInt) (p1.toInt) 0) ≠ -2000) ∨ (x39.toInt = 0 ∧ (cel (mw (G.2.1 (F a 1)) 0) (p0.toInt) (p1.toInt) 0) = -2000))
    (c42 : x39.toInt ≠ 0)
    (t55 : (x55.toInt = 1 ∧ (cel (mw (G.2.1 (F a 1)) 0) (p0.toInt) (p2.toInt) 0) ≠ -2000) ∨ (x55.toInt = 0 ∧ (cel (mw (G.2.1 (F a 1)) 0) (p0.toInt) (p2.toInt) 0) = -2000))
    (c58 : x55.toInt = 0)
    (z68 : p1.toInt = p2.toInt → (cel (mw (G.2.1 (F a 1)) 0) (p0.toInt) (p1.toInt) 0) = (cel (mw (G.2.1 (F a 1)) 0) (p0.toInt) (p2.toInt) 0))
    (I75_0 : 0 ≤ l4_75.toInt ∧ l4_75.toInt ≤ 4)
    (c78 : (4 : Int) ≤ l4_75.toInt)
    (t119 : 0 ≤ p0.toInt ∧ p0.toInt ≤ 2 ∧ 0 ≤ p1.toInt ∧ p1.toInt ≤ 29 → x119.toInt = 4 * (30 * p0.toInt + p1.toInt)) :
    RM (G123.2.1 (F a 1)) 0 := by
  have u := (show MVp (G.2.1 (F a 1)) (G_75.2.1 (F a 1)) (0 + 4 * (30 * p0.toInt + p1.toInt)) (0 + 4 * (30 * p0.toInt + p2.toInt)) 4 from by rw [show l4_75.toInt = 4 from by omega] at mp; exact mp).all (aI_pu hG123 rfl rfl (show ((0 : Int32)).toInt = 0 from by decide) (by omega)) (by omega)
  exact hM.mov (by omega) (by decide) rfl rfl u
theorem v_X11_rekey_110_32 {K : Nat → Nat} {F : Nat → Nat → Nat} (a : Nat) (G : XG) (G6 : XG) (G_75 : XG) (G106 : XG) (x92 : Int32) (x105 : Int32) (p0 : Int32) (p1 : Int32) (p2 : Int32) (l4_75 : Int32) (x10 : Int32) (x17 : Int32) (x24 : Int32) (x39 : Int32) (x55 : Int32) (N75 : Nat) (x87 : Int32) (x99 : Int32)
    (ha : K a = 13)
    (hG106 : G106 = cput G_75 (F a 1) x92.toNatClampNeg x105)
    (mp : MVp (G.2.1 (F a 1)) (G_75.2.1 (F a 1)) (0 + 4 * (30 * p0.toInt + p1.toInt)) (0 + 4 * (30 * p0.toInt + p2.toInt)) (l4_75.toInt))
    (hv105 : x105.toInt = (aI (G_75.2.1 (F a 1)) (0 + 4 * (30 * p0.toInt + p1.toInt) + l4_75.toInt)))
    (am : 0 ≤ ((G.1 a 43).toInt) ∧ ((G.1 a 43).toInt) ≤ 2388)
    (t6 : ((G6.1 a 20).toInt) = -2147483648 ∧ ((G6.1 a 21).toInt) = -2147483648 ∧ ((G6.1 a 23).toInt) = 0)
    (t10 : (x10.toInt = 1 ∧ 0 ≤ p0.toInt ∧ p0.toInt ≤ 2) ∨ (x10.toInt = 0 ∧ (p0.toInt < 0 ∨ 2 < p0.toInt)))
    (c13 : ¬ (x10.toInt = 0))
    (t17 : (x17.toInt = 1 ∧ 0 ≤ p1.toInt ∧ p1.toInt ≤ 29) ∨ (x17.toInt = 0 ∧ (p1.toInt < 0 ∨ 29 < p1.toInt)))
    (c20 : ¬ (x17.toInt = 0))
    (t24 : (x24.toInt = 1 ∧ 0 ≤ p2.toInt ∧ p2.toInt ≤ 29) ∨ (x24.toInt = 0 ∧ (p2.toInt < 0 ∨ 29 < p2.toInt)))
    (c27 : x24.toInt ≠ 0)
    (z36 : 0 ≤ p0.toInt ∧ p0.toInt < 3)
    (z36a : 0 ≤ p1.toInt ∧ p1.toInt < 30)
    (z36b : 0 ≤ p2.toInt ∧ p2.toInt < 30)
    (t39 : (x39.toInt = 1 ∧ (cel (mw (G.2.1 (F a 1)) 0) (p0.toInt) (p1.toInt) 0) ≠ -2000) ∨ (x39.toInt = 0 ∧ (cel (mw (G.2.1 (F a 1)) 0) (p0.toInt) (p1.toInt) 0) = -2000))
    (c42 : x39.toInt ≠ 0)
    (t55 : (x55.toInt = 1 ∧ (cel (mw (G.2.1 (F a 1)) 0) (p0.toInt) (p2.toInt) 0) ≠ -2000) ∨ (x55.toInt = 0 ∧ (cel (mw (G.2.1 (F a 1)) 0) (p0.toInt) (p2.toInt) 0) = -2000))
    (c58 : x55.toInt = 0)
    (z68 : p1.toInt = p2.toInt → (cel (mw (G.2.1 (F a 1)) 0) (p0.toInt) (p1.toInt) 0) = (cel (mw (G.2.1 (F a 1)) 0) (p0.toInt) (p2.toInt) 0))
    (I75_0 : 0 ≤ l4_75.toInt ∧ l4_75.toInt ≤ 4)
    (I75_1 : (0 : Int) ≤ l4_75.toInt)
    (hm75 : 2147483648 - l4_75.toInt < (((N75) + 1 : Nat) : Int))
    (c78 : ¬ ((4 : Int) ≤ l4_75.toInt))
    (t87 : 0 ≤ p0.toInt ∧ p0.toInt ≤ 2 ∧ 0 ≤ p2.toInt ∧ p2.toInt ≤ 29 → x87.toInt = 4 * (30 * p0.toInt + p2.toInt))
    (t92 : x92.toInt = x87.toInt + l4_75.toInt ∨ x87.toInt + l4_75.toInt < -2147483648 ∨ 2147483648 ≤ x87.toInt + l4_75.toInt)
    (t99 : 0 ≤ p0.toInt ∧ p0.toInt ≤ 2 ∧ 0 ≤ p1.toInt ∧ p1.toInt ≤ 29 → x99.toInt = 4 * (30 * p0.toInt + p1.toInt)) :
    MVp (G.2.1 (F a 1)) (G106.2.1 (F a 1)) (0 + 4 * (30 * p0.toInt + p1.toInt)) (0 + 4 * (30 * p0.toInt + p2.toInt)) (l4_75.toInt + 1) := by
  exact mp.s (by omega) (by omega) (by omega) (aI_pu hG106 rfl rfl hv105 (by omega)) (by omega) rfl (by omega)
theorem v_X11_rekey_73_33 {K : Nat → Nat} {F : Nat → Nat → Nat} (a : Nat) (G : XG) (G6 : XG) (x10 : Int32) (p0 : Int32) (x17 : Int32) (p1 : Int32) (x24 : Int32) (p2 : Int32) (x39 : Int32) (x55 : Int32)
    (ha : K a = 13)
    (am : 0 ≤ ((G.1 a 43).toInt) ∧ ((G.1 a 43).toInt) ≤ 2388)
    (t6 : ((G6.1 a 20).toInt) = -2147483648 ∧ ((G6.1 a 21).toInt) = -2147483648 ∧ ((G6.1 a 23).toInt) = 0)
    (t10 : (x10.toInt = 1 ∧ 0 ≤ p0.toInt ∧ p0.toInt ≤ 2) ∨ (x10.toInt = 0 ∧ (p0.toInt < 0 ∨ 2 < p0.toInt)))
    (c13 : ¬ (x10.toInt = 0))
    (t17 : (x17.toInt = 1 ∧ 0 ≤ p1.toInt ∧ p1.toInt ≤ 29) ∨ (x17.toInt = 0 ∧ (p1.toInt < 0 ∨ 29 < p1.toInt)))
    (c20 : ¬ (x17.toInt = 0))
    (t24 : (x24.toInt = 1 ∧ 0 ≤ p2.toInt ∧ p2.toInt ≤ 29) ∨ (x24.toInt = 0 ∧ (p2.toInt < 0 ∨ 29 < p2.toInt)))
    (c27 : x24.toInt ≠ 0)
    (z36 : 0 ≤ p0.toInt ∧ p0.toInt < 3)
    (z36a : 0 ≤ p1.toInt ∧ p1.toInt < 30)
    (z36b : 0 ≤ p2.toInt ∧ p2.toInt < 30)
    (t39 : (x39.toInt = 1 ∧ (cel (mw (G.2.1 (F a 1)) 0) (p0.toInt) (p1.toInt) 0) ≠ -2000) ∨ (x39.toInt = 0 ∧ (cel (mw (G.2.1 (F a 1)) 0) (p0.toInt) (p1.toInt) 0) = -2000))
    (c42 : x39.toInt ≠ 0)
    (t55 : (x55.toInt = 1 ∧ (cel (mw (G.2.1 (F a 1)) 0) (p0.toInt) (p2.toInt) 0) ≠ -2000) ∨ (x55.toInt = 0 ∧ (cel (mw (G.2.1 (F a 1)) 0) (p0.toInt) (p2.toInt) 0) = -2000))
    (c58 : x55.toInt = 0)
    (z68 : p1.toInt = p2.toInt → (cel (mw (G.2.1 (F a 1)) 0) (p0.toInt) (p1.toInt) 0) = (cel (mw (G.2.1 (F a 1)) 0) (p0.toInt) (p2.toInt) 0)) :
    MVp (G.2.1 (F a 1)) (G.2.1 (F a 1)) (0 + 4 * (30 * p0.toInt + p1.toInt)) (0 + 4 * (30 * p0.toInt + p2.toInt)) (0 : Int) := by
  intro z hz; rw [if_neg (by omega)]
theorem v_X11_rekey_67_34 {F : Nat → Nat → Nat} (p0 : Int32) (p1 : Int32) (p2 : Int32) (x39 : Int32) (G : XG) (a : Nat) (x55 : Int32) (G64 : XG)
    (z36 : 0 ≤ p0.toInt ∧ p0.toInt < 3)
    (z36a : 0 ≤ p1.toInt ∧ p1.toInt < 30)
    (z36b : 0 ≤ p2.toInt ∧ p2.toInt < 30)
    (t39 : (x39.toInt = 1 ∧ (cel (mw (G.2.1 (F a 1)) 0) (p0.toInt) (p1.toInt) 0) ≠ -2000) ∨ (x39.toInt = 0 ∧ (cel (mw (G.2.1 (F a 1)) 0) (p0.toInt) (p1.toInt) 0) = -2000))
    (c42 : x39.toInt ≠ 0)
    (t55 : (x55.toInt = 1 ∧ (cel (mw (G.2.1 (F a 1)) 0) (p0.toInt) (p2.toInt) 0) ≠ -2000) ∨ (x55.toInt = 0 ∧ (cel (mw (G.2.1 (F a 1)) 0) (p0.toInt) (p2.toInt) 0) = -2000))
    (c58 : ¬ (x55.toInt = 0))
    (c_G64_F_a_1 : G64.2.1 (F a 1) = G.2.1 (F a 1)) :
    (¬ ((0 ≤ p0.toInt ∧ p0.toInt < 3) ∧ (0 ≤ p1.toInt ∧ p1.toInt < 30) ∧ (0 ≤ p2.toInt ∧ p2.toInt < 30)) ∧ (-4 : Int) = -1 ∧ mw (G64.2.1 (F a 1)) 0 = (mw (G.2.1 (F a 1)) 0)) ∨ (((0 ≤ p0.toInt ∧ p0.toInt < 3) ∧ (0 ≤ p1.toInt ∧ p1.toInt < 30) ∧ (0 ≤ p2.toInt ∧ p2.toInt < 30)) ∧ cel (mw (G.2.1 (F a 1)) 0) p0.toInt p1.toInt 0 = -2000 ∧ (-4 : Int) = -2 ∧ mw (G64.2.1 (F a 1)) 0 = (mw (G.2.1 (F a 1)) 0)) ∨ (((0 ≤ p0.toInt ∧ p0.toInt < 3) ∧ (0 ≤ p1.toInt ∧ p1.toInt < 30) ∧ (0 ≤ p2.toInt ∧ p2.toInt < 30)) ∧ cel (mw (G.2.1 (F a 1)) 0) p0.toInt p1.toInt 0 ≠ -2000 ∧ cel (mw (G.2.1 (F a 1)) 0) p0.toInt p2.toInt 0 ≠ -2000 ∧ (-4 : Int) = -4 ∧ mw (G64.2.1 (F a 1)) 0 = (mw (G.2.1 (F a 1)) 0)) ∨ (((0 ≤ p0.toInt ∧ p0.toInt < 3) ∧ (0 ≤ p1.toInt ∧ p1.toInt < 30) ∧ (0 ≤ p2.toInt ∧ p2.toInt < 30)) ∧ cel (mw (G.2.1 (F a 1)) 0) p0.toInt p1.toInt 0 ≠ -2000 ∧ cel (mw (G.2.1 (F a 1)) 0) p0.toInt p2.toInt 0 = -2000 ∧ StR ((G.1 a 6).toInt) (-4 : Int) (G.2.1 (F a 10)) (mw (G.2.1 (F a 1)) 0) (mvR (refA (G.2.1 (F a 10))) (refT (G.2.1 (F a 10))) (refC (G.2.1 (F a 10))) p0.toInt p1.toInt p2.toInt (rmv (mw (G.2.1 (F a 1)) 0) p0.toInt p1.toInt p2.toInt) 12) (mw (G64.2.1 (F a 1)) 0)) := by
  exact Or.inr (Or.inr (Or.inl ⟨⟨z36, z36a, z36b⟩, by omega, by omega, rfl, by rw [c_G64_F_a_1]⟩))
theorem v_X11_rekey_67_35 {F : Nat → Nat → Nat} (a : Nat) (G : XG) (G64 : XG)
    (hM : RM (G.2.1 (F a 1)) (0))
    (c_G64_F_a_1 : G64.2.1 (F a 1) = G.2.1 (F a 1)) :
    RM (G64.2.1 (F a 1)) 0 := by
  rw [c_G64_F_a_1]; exact hM
theorem v_X11_rekey_51_36 {F : Nat → Nat → Nat} (p0 : Int32) (p1 : Int32) (p2 : Int32) (x39 : Int32) (G : XG) (a : Nat) (G48 : XG)
    (z36 : 0 ≤ p0.toInt ∧ p0.toInt < 3)
    (z36a : 0 ≤ p1.toInt ∧ p1.toInt < 30)
    (z36b : 0 ≤ p2.toInt ∧ p2.toInt < 30)
    (t39 : (x39.toInt = 1 ∧ (cel (mw (G.2.1 (F a 1)) 0) (p0.toInt) (p1.toInt) 0) ≠ -2000) ∨ (x39.toInt = 0 ∧ (cel (mw (G.2.1 (F a 1)) 0) (p0.toInt) (p1.toInt) 0) = -2000))
    (c42 : ¬ (x39.toInt ≠ 0))
    (c_G48_F_a_1 : G48.2.1 (F a 1) = G.2.1 (F a 1)) :
    (¬ ((0 ≤ p0.toInt ∧ p0.toInt < 3) ∧ (0 ≤ p1.toInt ∧ p1.toInt < 30) ∧ (0 ≤ p2.toInt ∧ p2.toInt < 30)) ∧ (-2 : Int) = -1 ∧ mw (G48.2.1 (F a 1)) 0 = (mw (G.2.1 (F a 1)) 0)) ∨ (((0 ≤ p0.toInt ∧ p0.toInt < 3) ∧ (0 ≤ p1.toInt ∧ p1.toInt < 30) ∧ (0 ≤ p2.toInt ∧ p2.toInt < 30)) ∧ cel (mw (G.2.1 (F a 1)) 0) p0.toInt p1.toInt 0 = -2000 ∧ (-2 : Int) = -2 ∧ mw (G48.2.1 (F a 1)) 0 = (mw (G.2.1 (F a 1)) 0)) ∨ (((0 ≤ p0.toInt ∧ p0.toInt < 3) ∧ (0 ≤ p1.toInt ∧ p1.toInt < 30) ∧ (0 ≤ p2.toInt ∧ p2.toInt < 30)) ∧ cel (mw (G.2.1 (F a 1)) 0) p0.toInt p1.toInt 0 ≠ -2000 ∧ cel (mw (G.2.1 (F a 1)) 0) p0.toInt p2.toInt 0 ≠ -2000 ∧ (-2 : Int) = -4 ∧ mw (G48.2.1 (F a 1)) 0 = (mw (G.2.1 (F a 1)) 0)) ∨ (((0 ≤ p0.toInt ∧ p0.toInt < 3) ∧ (0 ≤ p1.toInt ∧ p1.toInt < 30) ∧ (0 ≤ p2.toInt ∧ p2.toInt < 30)) ∧ cel (mw (G.2.1 (F a 1)) 0) p0.toInt p1.toInt 0 ≠ -2000 ∧ cel (mw (G.2.1 (F a 1)) 0) p0.toInt p2.toInt 0 = -2000 ∧ StR ((G.1 a 6).toInt) (-2 : Int) (G.2.1 (F a 10)) (mw (G.2.1 (F a 1)) 0) (mvR (refA (G.2.1 (F a 10))) (refT (G.2.1 (F a 10))) (refC (G.2.1 (F a 10))) p0.toInt p1.toInt p2.toInt (rmv (mw (G.2.1 (F a 1)) 0) p0.toInt p1.toInt p2.toInt) 12) (mw (G48.2.1 (F a 1)) 0)) := by
  exact Or.inr (Or.inl ⟨⟨z36, z36a, z36b⟩, by omega, rfl, by rw [c_G48_F_a_1]⟩)
theorem v_X11_rekey_51_37 {F : Nat → Nat → Nat} (a : Nat) (G : XG) (G48 : XG)
    (hM : RM (G.2.1 (F a 1)) (0))
    (c_G48_F_a_1 : G48.2.1 (F a 1) = G.2.1 (F a 1)) :
    RM (G48.2.1 (F a 1)) 0 := by
  rw [c_G48_F_a_1]; exact hM
theorem v_X11_rekey_35_38 {F : Nat → Nat → Nat} (x24 : Int32) (p2 : Int32) (G32 : XG) (a : Nat) (G : XG) (p0 : Int32) (p1 : Int32)
    (t24 : (x24.toInt = 1 ∧ 0 ≤ p2.toInt ∧ p2.toInt ≤ 29) ∨ (x24.toInt = 0 ∧ (p2.toInt < 0 ∨ 29 < p2.toInt)))
    (c27 : ¬ (x24.toInt ≠ 0))
    (c_G32_F_a_1 : G32.2.1 (F a 1) = G.2.1 (F a 1)) :
    (¬ ((0 ≤ p0.toInt ∧ p0.toInt < 3) ∧ (0 ≤ p1.toInt ∧ p1.toInt < 30) ∧ (0 ≤ p2.toInt ∧ p2.toInt < 30)) ∧ (-1 : Int) = -1 ∧ mw (G32.2.1 (F a 1)) 0 = (mw (G.2.1 (F a 1)) 0)) ∨ (((0 ≤ p0.toInt ∧ p0.toInt < 3) ∧ (0 ≤ p1.toInt ∧ p1.toInt < 30) ∧ (0 ≤ p2.toInt ∧ p2.toInt < 30)) ∧ cel (mw (G.2.1 (F a 1)) 0) p0.toInt p1.toInt 0 = -2000 ∧ (-1 : Int) = -2 ∧ mw (G32.2.1 (F a 1)) 0 = (mw (G.2.1 (F a 1)) 0)) ∨ (((0 ≤ p0.toInt ∧ p0.toInt < 3) ∧ (0 ≤ p1.toInt ∧ p1.toInt < 30) ∧ (0 ≤ p2.toInt ∧ p2.toInt < 30)) ∧ cel (mw (G.2.1 (F a 1)) 0) p0.toInt p1.toInt 0 ≠ -2000 ∧ cel (mw (G.2.1 (F a 1)) 0) p0.toInt p2.toInt 0 ≠ -2000 ∧ (-1 : Int) = -4 ∧ mw (G32.2.1 (F a 1)) 0 = (mw (G.2.1 (F a 1)) 0)) ∨ (((0 ≤ p0.toInt ∧ p0.toInt < 3) ∧ (0 ≤ p1.toInt ∧ p1.toInt < 30) ∧ (0 ≤ p2.toInt ∧ p2.toInt < 30)) ∧ cel (mw (G.2.1 (F a 1)) 0) p0.toInt p1.toInt 0 ≠ -2000 ∧ cel (mw (G.2.1 (F a 1)) 0) p0.toInt p2.toInt 0 = -2000 ∧ StR ((G.1 a 6).toInt) (-1 : Int) (G.2.1 (F a 10)) (mw (G.2.1 (F a 1)) 0) (mvR (refA (G.2.1 (F a 10))) (refT (G.2.1 (F a 10))) (refC (G.2.1 (F a 10))) p0.toInt p1.toInt p2.toInt (rmv (mw (G.2.1 (F a 1)) 0) p0.toInt p1.toInt p2.toInt) 12) (mw (G32.2.1 (F a 1)) 0)) := by
  refine Or.inl ⟨fun h => ?_, rfl, by rw [c_G32_F_a_1]⟩
  obtain ⟨h1, h2, h3⟩ := h
  have hk := h3
  clear h1 h2 h3
  omega
theorem v_X11_rekey_35_39 {F : Nat → Nat → Nat} (a : Nat) (G : XG) (G32 : XG)
    (hM : RM (G.2.1 (F a 1)) (0))
    (c_G32_F_a_1 : G32.2.1 (F a 1) = G.2.1 (F a 1)) :
    RM (G32.2.1 (F a 1)) 0 := by
  rw [c_G32_F_a_1]; exact hM
theorem z_X11_rekey_1 (a0 : Int) (a1 : Int) (a2 : Int) (a3 : Int) (h0 : 0 ≤ a0 ∧ a0 ≤ 2388) (h1 : a1 = -2147483648 ∧ a2 = -2147483648 ∧ a3 = 0) : (0 ≤ a3 ∧ a3 ≤ 24) ∧ (0 ≤ a0 ∧ a0 ≤ 2388) := by omega
theorem z_X11_rekey_3 (a0 : Int) (a1 : Int) (h0 : (a1 = 1 ∧ 0 ≤ a0 ∧ a0 ≤ 2) ∨ (a1 = 0 ∧ (a0 < 0 ∨ 2 < a0))) (h1 : ¬ (a1 = 0)) : 0 ≤ a0 ∧ a0 < 3 := by omega
theorem z_X11_rekey_4 (a0 : Int) (a1 : Int) (h0 : (a1 = 1 ∧ 0 ≤ a0 ∧ a0 ≤ 29) ∨ (a1 = 0 ∧ (a0 < 0 ∨ 29 < a0))) (h1 : ¬ (a1 = 0)) : 0 ≤ a0 ∧ a0 < 30 := by omega
theorem z_X11_rekey_5 (a0 : Int) (a1 : Int) (h0 : (a1 = 1 ∧ 0 ≤ a0 ∧ a0 ≤ 29) ∨ (a1 = 0 ∧ (a0 < 0 ∨ 29 < a0))) (h1 : a1 ≠ 0) : 0 ≤ a0 ∧ a0 < 30 := by omega
theorem z_X11_rekey_6 (a0 : Int) (h0 : 0 ≤ a0 ∧ a0 ≤ 4) : ¬ (2147483648 - a0 < ((0 : Nat) : Int)) := by omega
theorem z_X11_rekey_7 (a0 : Int) (a1 : Int) (a2 : Int) (h0 : 0 ≤ a0 ∧ a0 < 3) (h1 : 0 ≤ a1 ∧ a1 < 30) (h2 : 0 ≤ a0 ∧ a0 ≤ 2 ∧ 0 ≤ a1 ∧ a1 ≤ 29 → a2 = 4 * (30 * a0 + a1)) : 0 ≤ a2 ∧ a2 < ((360 : Nat) : Int) := by omega
theorem z_X11_rekey_8 (a0 : Int) (h0 : 0 ≤ a0 ∧ a0 ≤ 12) : ¬ (2147483648 - a0 < ((0 : Nat) : Int)) := by omega
theorem z_X11_rekey_9 (a0 : Int) (a1 : Int) (a2 : Int) (h0 : a0 = -2147483648 ∧ a1 = -2147483648 ∧ a2 = 0) : 0 ≤ a2 ∧ a2 ≤ 24 := by omega
theorem z_X11_rekey_12 (a0 : Int) (h0 : 0 ≤ a0 ∧ a0 ≤ 30) : ¬ (2147483648 - a0 < ((0 : Nat) : Int)) := by omega
theorem z_X11_rekey_13 (a0 : Int) (a1 : Int) (h0 : 0 ≤ a0 ∧ a0 ≤ 12) (h1 : a1 = (a0 + 1) ∨ (a0 + 1) < -2147483648 ∨ 2147483648 ≤ (a0 + 1)) : a1 = (a0 + 1) := by omega
theorem z_X11_rekey_14 (a0 : Int) (h0 : 0 ≤ a0 ∧ a0 ≤ 12) (h1 : ¬ ((12 : Int) ≤ a0)) : 0 ≤ (a0 + 1) ∧ (a0 + 1) ≤ 12 := by omega
theorem z_X11_rekey_15 (a0 : Int) (h0 : 0 ≤ a0 ∧ a0 ≤ 12) : (0 : Int) ≤ (a0 + 1) := by omega
theorem z_X11_rekey_16 (a0 : Int) (a1 : Nat) (h0 : 2147483648 - a0 < ((a1 + 1 : Nat) : Int)) : 2147483648 - (a0 + 1) < ((a1 : Nat) : Int) := by omega
theorem z_X11_rekey_21 (a0 : Int) (h0 : 0 ≤ a0 ∧ a0 ≤ 12) (h1 : ¬ ((12 : Int) ≤ a0)) : 0 ≤ a0 ∧ a0 ≤ 11 := by omega
theorem z_X11_rekey_23 (a0 : Int) (a1 : Int) (a2 : Int) (a3 : Int) (h0 : 0 ≤ a0 ∧ a0 ≤ 30) (h1 : ¬ ((30 : Int) ≤ a0)) (h2 : (-1 ≤ a1 ∧ a1 ≤ 5) ∧ (0 ≤ a2 ∧ a2 ≤ 2) ∧ (0 ≤ a3 ∧ a3 ≤ 2)) : 0 ≤ a2 ∧ a2 < 3 ∧ 0 ≤ a0 ∧ a0 < 30 ∧ 0 ≤ a3 ∧ a3 < 3 := by omega
theorem z_X11_rekey_24 (a0 : Int) (a1 : Int) (a2 : Int) (a3 : Int) (a4 : Int) (h0 : 0 ≤ a0 ∧ a0 ≤ 30) (h1 : ¬ ((30 : Int) ≤ a0)) (h2 : (-1 ≤ a2 ∧ a2 ≤ 5) ∧ (0 ≤ a3 ∧ a3 ≤ 2) ∧ (0 ≤ a4 ∧ a4 ≤ 2)) (h3 : 0 ≤ a3 ∧ a3 ≤ 2 ∧ 0 ≤ a0 ∧ a0 ≤ 29 → a1 = 4 * (30 * a3 + a0)) : 0 ≤ a1 ∧ a1 < ((360 : Nat) : Int) := by omega
theorem z_X11_rekey_25 (a0 : Int) (a1 : Int) (a2 : Int) (a3 : Int) (a4 : Int) (h0 : 0 ≤ a0 ∧ a0 ≤ 30) (h1 : ¬ ((30 : Int) ≤ a0)) (h2 : (-1 ≤ a2 ∧ a2 ≤ 5) ∧ (0 ≤ a3 ∧ a3 ≤ 2) ∧ (0 ≤ a4 ∧ a4 ≤ 2)) (h3 : 0 ≤ a3 ∧ a3 ≤ 2 ∧ 0 ≤ a0 ∧ a0 ≤ 29 → a1 = 4 * (30 * a3 + a0)) : a1 = 0 + 4 * (30 * a3 + a0) := by omega
theorem z_X11_rekey_26 (a0 : Int) (a1 : Int) (h0 : 0 ≤ a0 ∧ a0 ≤ 30) (h1 : a1 = (a0 + 1) ∨ (a0 + 1) < -2147483648 ∨ 2147483648 ≤ (a0 + 1)) : a1 = (a0 + 1) := by omega
theorem z_X11_rekey_27 (a0 : Int) (h0 : 0 ≤ a0 ∧ a0 ≤ 30) (h1 : ¬ ((30 : Int) ≤ a0)) : 0 ≤ (a0 + 1) ∧ (a0 + 1) ≤ 30 := by omega
theorem z_X11_rekey_28 (a0 : Int) (a1 : Int) (a2 : Int) (h0 : (a1 = 1 ∧ 0 < a2) ∨ (a1 = 0 ∧ ¬ (0 < a2))) (h1 : ¬ (a1 = 0)) : (a0 + 1) = 0 ∨ 0 < a2 := by omega
theorem z_X11_rekey_29 (a0 : Int) (h0 : 0 ≤ a0 ∧ a0 ≤ 30) : (0 : Int) ≤ (a0 + 1) := by omega
theorem z_X11_rekey_32 (a0 : Int) (a1 : Int) (a2 : Int) (a3 : Int) (a4 : Int) (a5 : Int) (a6 : Int) (h0 : 0 ≤ a0 ∧ a0 ≤ 30) (h1 : ¬ ((30 : Int) ≤ a0)) (h2 : (-1 ≤ a4 ∧ a4 ≤ 5) ∧ (0 ≤ a5 ∧ a5 ≤ 2) ∧ (0 ≤ a6 ∧ a6 ≤ 2)) (h3 : 0 ≤ a5 ∧ a5 ≤ 2 ∧ 0 ≤ a0 ∧ a0 ≤ 29 → a1 = 4 * (30 * a5 + a0)) (h4 : a2 = a1 + (1 : Int) ∨ a1 + (1 : Int) < -2147483648 ∨ 2147483648 ≤ a1 + (1 : Int)) (h5 : a3 = a2 + a6 ∨ a2 + a6 < -2147483648 ∨ 2147483648 ≤ a2 + a6) : 0 ≤ a3 ∧ a3 < ((360 : Nat) : Int) := by omega
theorem z_X11_rekey_33 (a0 : Int) (a1 : Int) (a2 : Int) (a3 : Int) (a4 : Int) (a5 : Int) (a6 : Int) (h0 : 0 ≤ a0 ∧ a0 ≤ 30) (h1 : ¬ ((30 : Int) ≤ a0)) (h2 : (-1 ≤ a4 ∧ a4 ≤ 5) ∧ (0 ≤ a5 ∧ a5 ≤ 2) ∧ (0 ≤ a6 ∧ a6 ≤ 2)) (h3 : 0 ≤ a5 ∧ a5 ≤ 2 ∧ 0 ≤ a0 ∧ a0 ≤ 29 → a1 = 4 * (30 * a5 + a0)) (h4 : a2 = a1 + (1 : Int) ∨ a1 + (1 : Int) < -2147483648 ∨ 2147483648 ≤ a1 + (1 : Int)) (h5 : a3 = a2 + a6 ∨ a2 + a6 < -2147483648 ∨ 2147483648 ≤ a2 + a6) : a3 = 0 + 4 * (30 * a5 + a0) + 1 + a6 := by omega
theorem z_X11_rekey_53 (a0 : Int) : (0 : Int) = 0 ∨ 0 < a0 := by omega
theorem z_X11_rekey_54 (a0 : Int) (a1 : Int) (a2 : Int) (a3 : Int) (a4 : Int) (h0 : 0 ≤ a1 ∧ a1 < 3) (h1 : 0 ≤ a2 ∧ a2 < 30) (h2 : 0 ≤ a0 ∧ a0 ≤ 4) (h3 : ¬ ((4 : Int) ≤ a0)) (h4 : 0 ≤ a1 ∧ a1 ≤ 2 ∧ 0 ≤ a2 ∧ a2 ≤ 29 → a4 = 4 * (30 * a1 + a2)) (h5 : a3 = a4 + a0 ∨ a4 + a0 < -2147483648 ∨ 2147483648 ≤ a4 + a0) : 0 ≤ a3 ∧ a3 < ((360 : Nat) : Int) := by omega
theorem z_X11_rekey_55 (a0 : Int) (a1 : Int) (a2 : Int) (a3 : Int) (a4 : Int) (h0 : 0 ≤ a1 ∧ a1 < 3) (h1 : 0 ≤ a2 ∧ a2 < 30) (h2 : 0 ≤ a0 ∧ a0 ≤ 4) (h3 : 0 ≤ a1 ∧ a1 ≤ 2 ∧ 0 ≤ a2 ∧ a2 ≤ 29 → a4 = 4 * (30 * a1 + a2)) (h4 : a3 = a4 + a0 ∨ a4 + a0 < -2147483648 ∨ 2147483648 ≤ a4 + a0) : a3 = 0 + 4 * (30 * a1 + a2) + a0 := by omega
theorem z_X11_rekey_56 (a0 : Int) (a1 : Int) (a2 : Int) (a3 : Int) (a4 : Int) (h0 : 0 ≤ a1 ∧ a1 < 3) (h1 : 0 ≤ a2 ∧ a2 < 30) (h2 : 0 ≤ a0 ∧ a0 ≤ 4) (h3 : ¬ ((4 : Int) ≤ a0)) (h4 : 0 ≤ a1 ∧ a1 ≤ 2 ∧ 0 ≤ a2 ∧ a2 ≤ 29 → a3 = 4 * (30 * a1 + a2)) (h5 : a4 = a3 + a0 ∨ a3 + a0 < -2147483648 ∨ 2147483648 ≤ a3 + a0) : 0 ≤ a4 ∧ a4 < ((360 : Nat) : Int) := by omega
theorem z_X11_rekey_57 (a0 : Int) (a1 : Int) (h0 : 0 ≤ a0 ∧ a0 ≤ 4) (h1 : a1 = (a0 + 1) ∨ (a0 + 1) < -2147483648 ∨ 2147483648 ≤ (a0 + 1)) : a1 = (a0 + 1) := by omega
theorem z_X11_rekey_58 (a0 : Int) (h0 : 0 ≤ a0 ∧ a0 ≤ 4) (h1 : ¬ ((4 : Int) ≤ a0)) : 0 ≤ (a0 + 1) ∧ (a0 + 1) ≤ 4 := by omega
theorem z_X11_rekey_59 (a0 : Int) (h0 : 0 ≤ a0 ∧ a0 ≤ 4) : (0 : Int) ≤ (a0 + 1) := by omega
abbrev rm_X11_rekey : Room := { frames := 8, cells := 0, slots := 0, locals := 186 }
set_option maxHeartbeats 4000000 in
set_option maxRecDepth 100000 in
theorem c_X11_rekey (l : Launch) (E : XE) (K : Nat → Nat) (F : Nat → Nat → Nat) (G : XG) (a : Nat) (p0 : Int32) (p1 : Int32) (p2 : Int32) (ha : K a = 13) (am : 0 ≤ ((G.1 a 43).toInt) ∧ ((G.1 a 43).toInt) ≤ 2388) (hR : RV (G.2.1 (F a 10))) (hM : RM (G.2.1 (F a 1)) (0)) (hB : RM (G.2.1 (F a 2)) 0) : Met l yX11_rekey (xw yX11_rekey cX11_rekey 7 (some .int)) rm_X11_rekey (va_Pc [.ref a, .int p0, .int p1, .int p2] (XP E K F G)) (XQ E (fun v (u : XG) => ∃ r : Int32, v = .int r ∧ XFr [(a, 16), (a, 19), (a, 20), (a, 21), (a, 23), (a, 45), (a, 46), (a, 43), (a, 44), (a, 0)] [F a 15, F a 17, F a 18, F a 1, F a 8, F a 22, F a 11, F a 13, F a 9, F a 41, F a 42, F a 4, F a 12] [] G u ∧ ((0 ≤ ((u.1 a 23).toInt) ∧ ((u.1 a 23).toInt) ≤ 24) ∧ (0 ≤ ((u.1 a 43).toInt) ∧ ((u.1 a 43).toInt) ≤ 2388)) ∧ ((¬ ((0 ≤ p0.toInt ∧ p0.toInt < 3) ∧ (0 ≤ p1.toInt ∧ p1.toInt < 30) ∧ (0 ≤ p2.toInt ∧ p2.toInt < 30)) ∧ r.toInt = -1 ∧ mw (u.2.1 (F a 1)) 0 = (mw (G.2.1 (F a 1)) 0)) ∨ (((0 ≤ p0.toInt ∧ p0.toInt < 3) ∧ (0 ≤ p1.toInt ∧ p1.toInt < 30) ∧ (0 ≤ p2.toInt ∧ p2.toInt < 30)) ∧ cel (mw (G.2.1 (F a 1)) 0) p0.toInt p1.toInt 0 = -2000 ∧ r.toInt = -2 ∧ mw (u.2.1 (F a 1)) 0 = (mw (G.2.1 (F a 1)) 0)) ∨ (((0 ≤ p0.toInt ∧ p0.toInt < 3) ∧ (0 ≤ p1.toInt ∧ p1.toInt < 30) ∧ (0 ≤ p2.toInt ∧ p2.toInt < 30)) ∧ cel (mw (G.2.1 (F a 1)) 0) p0.toInt p1.toInt 0 ≠ -2000 ∧ cel (mw (G.2.1 (F a 1)) 0) p0.toInt p2.toInt 0 ≠ -2000 ∧ r.toInt = -4 ∧ mw (u.2.1 (F a 1)) 0 = (mw (G.2.1 (F a 1)) 0)) ∨ (((0 ≤ p0.toInt ∧ p0.toInt < 3) ∧ (0 ≤ p1.toInt ∧ p1.toInt < 30) ∧ (0 ≤ p2.toInt ∧ p2.toInt < 30)) ∧ cel (mw (G.2.1 (F a 1)) 0) p0.toInt p1.toInt 0 ≠ -2000 ∧ cel (mw (G.2.1 (F a 1)) 0) p0.toInt p2.toInt 0 = -2000 ∧ StR ((G.1 a 6).toInt) r.toInt (G.2.1 (F a 10)) (mw (G.2.1 (F a 1)) 0) (mvR (refA (G.2.1 (F a 10))) (refT (G.2.1 (F a 10))) (refC (G.2.1 (F a 10))) p0.toInt p1.toInt p2.toInt (rmv (mw (G.2.1 (F a 1)) 0) p0.toInt p1.toInt p2.toInt) 12) (mw (u.2.1 (F a 1)) 0))) ∧ (RM (u.2.1 (F a 1)) 0)) (fun u H => TW E K F u H)) 0 0 (xA E) := by
  refine x_enter (by decide) (Nat.le_of_ble_eq_true rfl) ?_
  intro p e s m args below meth c Q S hr hlk hnm hQ hP ls hl
  obtain ⟨hz, hK, hT⟩ := hP
  obtain ⟨hx, hb, -, -, -⟩ := id S
  obtain ⟨H, hT, hS, hgo⟩ : ∃ H : Heap, TW E K F G H ∧ va_S (xA E) s.heap H [] ∧ H = s.heap := ⟨_, hT, va_S.rf, rfl⟩
  rw [← hgo]
  have hl : lv_has ls 7 [(0, .ref a), (1, .int p0), (2, .int p1), (3, .int p2)] := hl
  obtain ⟨hk9999, hj9999⟩ := fkX11_15 hT ha
  obtain ⟨hk9999a, hj9999a⟩ := fkX11_17 hT ha
  obtain ⟨hk9999b, hj9999b⟩ := fkX11_18 hT ha
  obtain ⟨hk9999c, hj9999c⟩ := fkX11_1 hT ha
  obtain ⟨hk9999d, hj9999d⟩ := fkX11_8 hT ha
  obtain ⟨hk9999e, hj9999e⟩ := fkX11_22 hT ha
  obtain ⟨hk9999f, hj9999f⟩ := fkX11_11 hT ha
  obtain ⟨hk9999g, hj9999g⟩ := fkX11_13 hT ha
  obtain ⟨hk9999h, hj9999h⟩ := fkX11_9 hT ha
  obtain ⟨hk9999i, hj9999i⟩ := fkX11_41 hT ha
  obtain ⟨hk9999j, hj9999j⟩ := fkX11_42 hT ha
  obtain ⟨hk9999k, hj9999k⟩ := fkX11_4 hT ha
  obtain ⟨hk9999l, hj9999l⟩ := fkX11_12 hT ha
  obtain ⟨hk9999m, hj9999m⟩ := fkX11_10 hT ha
  obtain ⟨hk9999n, hj9999n⟩ := fkX11_2 hT ha
  refine lv_aload_n hx hb dX11_rekey_0 rfl (lv_at hl 0 rfl) ?_
  refine lv_iconst (v := 0) hx hb dX11_rekey_1 (by decide) ?_
  refine pX11_0 (v := 0) S hK hT hS ha kf_X11_134 dX11_rekey_2 (fun H locs hT hS => ?_)
  obtain ⟨G2, hG2⟩ : ∃ GG : XG, GG = dput G a 0 0 := ⟨_, rfl⟩
  rw [← hG2] at hT
  refine lv_aload_n hx hb dX11_rekey_5 rfl (lv_at hl 0 rfl) ?_
  refine x_cv0 (x_runV (b := a) (As := []) (rest := []) S (c_X11_nothing l E K F G2 a ha) mv_X11_nothing km_X11_231 rfl rfl ⟨Nat.le_of_ble_eq_true rfl, Nat.le_of_ble_eq_true rfl⟩ (rc_13 hK hT ha) hK (fun _ => XP.blind) (fun U hU hW => XP.at hK hz hS hT hU hW) rfl hl.1 (Nat.le_of_ble_eq_true rfl) dX11_rekey_6 ⟨Nat.le_of_ble_eq_true rfl, Nat.le_of_ble_eq_true rfl⟩) hS ?_
  rintro G6 H locs ⟨hF6, t6⟩ hT hS
  have t6 : ((G6.1 a 20).toInt) = -2147483648 ∧ ((G6.1 a 21).toInt) = -2147483648 ∧ ((G6.1 a 23).toInt) = 0 := t6
  refine lv_iload_n hx hb dX11_rekey_9 rfl (lv_at hl 1 rfl) ?_
  refine x_clp (x_runS (As := [.int p0]) (rest := []) S (c_X11_isTable l E K F G6 H p0) ms_X11_isTable km_X11_149 rfl rfl ⟨Nat.le_of_ble_eq_true rfl, Nat.le_of_ble_eq_true rfl⟩ hK (fun _ => XPh.blind) (fun U hU hW => XPh.at hK hz hS hT hU hW) rfl hl.1 (Nat.le_of_ble_eq_true rfl) dX11_rekey_10 ⟨Nat.le_of_ble_eq_true rfl, Nat.le_of_ble_eq_true rfl⟩) hS ?_
  rintro _ _ locs ⟨x10, rfl, b10, t10⟩ hS
  have t10 : (x10.toInt = 1 ∧ 0 ≤ p0.toInt ∧ p0.toInt ≤ 2) ∨ (x10.toInt = 0 ∧ (p0.toInt < 0 ∨ 2 < p0.toInt)) := t10
  refine xi_zeq (tgt := 30) hx hb (rfl : Int32.toInt x10 = x10.toInt) dX11_rekey_13 (by decide) (fun c13 => ?_) (fun c13 => ?_)
  · refine lv_aload_n hx hb dX11_rekey_30 rfl (lv_at hl 0 rfl) ?_
    refine lv_iconst (v := (-1)) hx hb dX11_rekey_31 (by decide) ?_
    refine x_cl0 (x_runV (b := a) (As := [.int (-1)]) (rest := []) S (c_X11_refuses l E K F G6 a (-1) ha) mv_X11_refuses km_X11_325 rfl rfl ⟨Nat.le_of_ble_eq_true rfl, Nat.le_of_ble_eq_true rfl⟩ (rc_13 hK hT ha) hK (fun _ => XP.blind) (fun U hU hW => XP.at hK hz hS hT hU hW) rfl hl.1 (Nat.le_of_ble_eq_true rfl) dX11_rekey_32 ⟨Nat.le_of_ble_eq_true rfl, Nat.le_of_ble_eq_true rfl⟩) hS ?_
    rintro _ G32 H locs ⟨x32, rfl, hF32, t32⟩ hT hS
    have t32 : x32.toInt = (-1 : Int) := by rw [((by decide) : Int32.toInt (-1) = (-1 : Int))] at t32; exact t32
    exact x_ri hx hb hr hlk hQ (Nat.le_of_ble_eq_true rfl) (Nat.le_of_ble_eq_true rfl) hS dX11_rekey_35 G32 ⟨_, rfl, (XFr.call (XFr.call (by rw [hG2]; exact XFr.dput XFr.rf (List.mem_of_getElem? (i := 9) rfl)) hF6 (xm1 2 rfl (xm1 3 rfl (xm1 4 rfl xm0))) xm0 xm0) hF32 xm0 (xm1 4 rfl xm0) xm0), (by rw [(show (G32.1 a 23).toInt = ((G6.1 a 23).toInt) from (congrArg Int32.toInt (hF32.1 _ _ xn0)).trans (rfl : Int32.toInt (G6.1 a 23) = ((G6.1 a 23).toInt))), (show (G32.1 a 43).toInt = ((G.1 a 43).toInt) from (congrArg Int32.toInt ((hF32.1 _ _ xn0).trans ((hF6.1 _ _ (xnj (by decide) (xnj (by decide) (xnj (by decide) xn0)))).trans (ld_j hG2 (by decide))))).trans (rfl : Int32.toInt (G.1 a 43) = ((G.1 a 43).toInt)))] <;> exact (z_X11_rekey_1 ((G.1 a 43).toInt) ((G6.1 a 20).toInt) ((G6.1 a 21).toInt) ((G6.1 a 23).toInt) am t6)), (by rw [(t32 : Int32.toInt x32 = (-1 : Int))] <;> exact (v_X11_rekey_35_1 (F := F) x10 p0 G32 a G p1 p2 t10 c13 ((hF32.2.1 _ (xn1 (xne_k hk9999c hk9999d (by decide)) xn0)).trans ((hF6.2.1 _ xn0).trans (ld_c hG2))))), (v_X11_rekey_35_2 (F := F) a G G32 hM ((hF32.2.1 _ (xn1 (xne_k hk9999c hk9999d (by decide)) xn0)).trans ((hF6.2.1 _ xn0).trans (ld_c hG2))))⟩ hT
  · refine lv_iload_n hx hb dX11_rekey_16 rfl (lv_at hl 2 rfl) ?_
    refine x_clp (x_runS (As := [.int p1]) (rest := []) S (c_X11_isKey l E K F G6 H p1) ms_X11_isKey km_X11_153 rfl rfl ⟨Nat.le_of_ble_eq_true rfl, Nat.le_of_ble_eq_true rfl⟩ hK (fun _ => XPh.blind) (fun U hU hW => XPh.at hK hz hS hT hU hW) rfl hl.1 (Nat.le_of_ble_eq_true rfl) dX11_rekey_17 ⟨Nat.le_of_ble_eq_true rfl, Nat.le_of_ble_eq_true rfl⟩) hS ?_
    rintro _ _ locs ⟨x17, rfl, b17, t17⟩ hS
    have t17 : (x17.toInt = 1 ∧ 0 ≤ p1.toInt ∧ p1.toInt ≤ 29) ∨ (x17.toInt = 0 ∧ (p1.toInt < 0 ∨ 29 < p1.toInt)) := t17
    refine xi_zeq (tgt := 30) hx hb (rfl : Int32.toInt x17 = x17.toInt) dX11_rekey_20 (by decide) (fun c20 => ?_) (fun c20 => ?_)
    · refine lv_aload_n hx hb dX11_rekey_30 rfl (lv_at hl 0 rfl) ?_
      refine lv_iconst (v := (-1)) hx hb dX11_rekey_31 (by decide) ?_
      refine x_cl0 (x_runV (b := a) (As := [.int (-1)]) (rest := []) S (c_X11_refuses l E K F G6 a (-1) ha) mv_X11_refuses km_X11_325 rfl rfl ⟨Nat.le_of_ble_eq_true rfl, Nat.le_of_ble_eq_true rfl⟩ (rc_13 hK hT ha) hK (fun _ => XP.blind) (fun U hU hW => XP.at hK hz hS hT hU hW) rfl hl.1 (Nat.le_of_ble_eq_true rfl) dX11_rekey_32 ⟨Nat.le_of_ble_eq_true rfl, Nat.le_of_ble_eq_true rfl⟩) hS ?_
      rintro _ G32 H locs ⟨x32, rfl, hF32, t32⟩ hT hS
      have t32 : x32.toInt = (-1 : Int) := by rw [((by decide) : Int32.toInt (-1) = (-1 : Int))] at t32; exact t32
      exact x_ri hx hb hr hlk hQ (Nat.le_of_ble_eq_true rfl) (Nat.le_of_ble_eq_true rfl) hS dX11_rekey_35 G32 ⟨_, rfl, (XFr.call (XFr.call (by rw [hG2]; exact XFr.dput XFr.rf (List.mem_of_getElem? (i := 9) rfl)) hF6 (xm1 2 rfl (xm1 3 rfl (xm1 4 rfl xm0))) xm0 xm0) hF32 xm0 (xm1 4 rfl xm0) xm0), (by rw [(show (G32.1 a 23).toInt = ((G6.1 a 23).toInt) from (congrArg Int32.toInt (hF32.1 _ _ xn0)).trans (rfl : Int32.toInt (G6.1 a 23) = ((G6.1 a 23).toInt))), (show (G32.1 a 43).toInt = ((G.1 a 43).toInt) from (congrArg Int32.toInt ((hF32.1 _ _ xn0).trans ((hF6.1 _ _ (xnj (by decide) (xnj (by decide) (xnj (by decide) xn0)))).trans (ld_j hG2 (by decide))))).trans (rfl : Int32.toInt (G.1 a 43) = ((G.1 a 43).toInt)))] <;> exact (z_X11_rekey_1 ((G.1 a 43).toInt) ((G6.1 a 20).toInt) ((G6.1 a 21).toInt) ((G6.1 a 23).toInt) am t6)), (by rw [(t32 : Int32.toInt x32 = (-1 : Int))] <;> exact (v_X11_rekey_35_3 (F := F) x17 p1 G32 a G p0 p2 t17 c20 ((hF32.2.1 _ (xn1 (xne_k hk9999c hk9999d (by decide)) xn0)).trans ((hF6.2.1 _ xn0).trans (ld_c hG2))))), (v_X11_rekey_35_4 (F := F) a G G32 hM ((hF32.2.1 _ (xn1 (xne_k hk9999c hk9999d (by decide)) xn0)).trans ((hF6.2.1 _ xn0).trans (ld_c hG2))))⟩ hT
    · refine lv_iload_n hx hb dX11_rekey_23 rfl (lv_at hl 3 rfl) ?_
      refine x_clp (x_runS (As := [.int p2]) (rest := []) S (c_X11_isKey l E K F G6 H p2) ms_X11_isKey km_X11_153 rfl rfl ⟨Nat.le_of_ble_eq_true rfl, Nat.le_of_ble_eq_true rfl⟩ hK (fun _ => XPh.blind) (fun U hU hW => XPh.at hK hz hS hT hU hW) rfl hl.1 (Nat.le_of_ble_eq_true rfl) dX11_rekey_24 ⟨Nat.le_of_ble_eq_true rfl, Nat.le_of_ble_eq_true rfl⟩) hS ?_
      rintro _ _ locs ⟨x24, rfl, b24, t24⟩ hS
      have t24 : (x24.toInt = 1 ∧ 0 ≤ p2.toInt ∧ p2.toInt ≤ 29) ∨ (x24.toInt = 0 ∧ (p2.toInt < 0 ∨ 29 < p2.toInt)) := t24
      refine xi_zne (tgt := 36) hx hb (rfl : Int32.toInt x24 = x24.toInt) dX11_rekey_27 (by decide) (fun c27 => ?_) (fun c27 => ?_)
      · have z36 : 0 ≤ p0.toInt ∧ p0.toInt < 3 := (z_X11_rekey_3 p0.toInt x10.toInt t10 c13)
        have z36a : 0 ≤ p1.toInt ∧ p1.toInt < 30 := (z_X11_rekey_4 p1.toInt x17.toInt t17 c20)
        have z36b : 0 ≤ p2.toInt ∧ p2.toInt < 30 := (z_X11_rekey_5 p2.toInt x24.toInt t24 c27)
        refine lv_aload_n hx hb dX11_rekey_36 rfl (lv_at hl 0 rfl) ?_
        refine lv_iload_n hx hb dX11_rekey_37 rfl (lv_at hl 1 rfl) ?_
        refine lv_iload_n hx hb dX11_rekey_38 rfl (lv_at hl 2 rfl) ?_
        refine x_clp (x_runV (b := a) (As := [.int p0, .int p1]) (rest := []) S (c_X11_isRow l E K F G6 H a p0 p1 ha (v_X11_rekey_39_5 (F := F) a G G6 hM hB ((hF6.2.1 _ xn0).trans (ld_c hG2)))) mv_X11_isRow km_X11_346 rfl rfl ⟨Nat.le_of_ble_eq_true rfl, Nat.le_of_ble_eq_true rfl⟩ (rc_13 hK hT ha) hK (fun _ => XPh.blind) (fun U hU hW => XPh.at hK hz hS hT hU hW) rfl hl.1 (Nat.le_of_ble_eq_true rfl) dX11_rekey_39 ⟨Nat.le_of_ble_eq_true rfl, Nat.le_of_ble_eq_true rfl⟩) hS ?_
        rintro _ _ locs ⟨x39, rfl, b39, t39⟩ hS
        have t39 : (x39.toInt = 1 ∧ (cel (mw (G.2.1 (F a 1)) 0) (p0.toInt) (p1.toInt) 0) ≠ -2000) ∨ (x39.toInt = 0 ∧ (cel (mw (G.2.1 (F a 1)) 0) (p0.toInt) (p1.toInt) 0) = -2000) := by rw [(show G6.2.1 (F a 1) = G.2.1 (F a 1) from ((hF6.2.1 _ xn0).trans (ld_c hG2)))] at t39; exact t39
        refine xi_zne (tgt := 52) hx hb (rfl : Int32.toInt x39 = x39.toInt) dX11_rekey_42 (by decide) (fun c42 => ?_) (fun c42 => ?_)
        · refine lv_aload_n hx hb dX11_rekey_52 rfl (lv_at hl 0 rfl) ?_
          refine lv_iload_n hx hb dX11_rekey_53 rfl (lv_at hl 1 rfl) ?_
          refine lv_iload_n hx hb dX11_rekey_54 rfl (lv_at hl 3 rfl) ?_
          refine x_clp (x_runV (b := a) (As := [.int p0, .int p2]) (rest := []) S (c_X11_isRow l E K F G6 H a p0 p2 ha (v_X11_rekey_55_6 (F := F) a G G6 hM hB ((hF6.2.1 _ xn0).trans (ld_c hG2)))) mv_X11_isRow km_X11_346 rfl rfl ⟨Nat.le_of_ble_eq_true rfl, Nat.le_of_ble_eq_true rfl⟩ (rc_13 hK hT ha) hK (fun _ => XPh.blind) (fun U hU hW => XPh.at hK hz hS hT hU hW) rfl hl.1 (Nat.le_of_ble_eq_true rfl) dX11_rekey_55 ⟨Nat.le_of_ble_eq_true rfl, Nat.le_of_ble_eq_true rfl⟩) hS ?_
          rintro _ _ locs ⟨x55, rfl, b55, t55⟩ hS
          have t55 : (x55.toInt = 1 ∧ (cel (mw (G.2.1 (F a 1)) 0) (p0.toInt) (p2.toInt) 0) ≠ -2000) ∨ (x55.toInt = 0 ∧ (cel (mw (G.2.1 (F a 1)) 0) (p0.toInt) (p2.toInt) 0) = -2000) := by rw [(show G6.2.1 (F a 1) = G.2.1 (F a 1) from ((hF6.2.1 _ xn0).trans (ld_c hG2)))] at t55; exact t55
          refine xi_zeq (tgt := 68) hx hb (rfl : Int32.toInt x55 = x55.toInt) dX11_rekey_58 (by decide) (fun c58 => ?_) (fun c58 => ?_)
          · have z68 : p1.toInt = p2.toInt → (cel (mw (G.2.1 (F a 1)) 0) (p0.toInt) (p1.toInt) 0) = (cel (mw (G.2.1 (F a 1)) 0) (p0.toInt) (p2.toInt) 0) := fun h9 => by rw [h9]
            refine lv_aload_n hx hb dX11_rekey_68 rfl (lv_at hl 0 rfl) ?_
            refine x_cv0 (x_runV (b := a) (As := []) (rest := []) S (c_X11_start l E K F G6 a ha (v_X11_rekey_69_7 (F := F) a G G6 hR ((hF6.2.1 _ xn0).trans (ld_c hG2))) (v_X11_rekey_69_8 (F := F) a G G6 hM hB ((hF6.2.1 _ xn0).trans (ld_c hG2)))) mv_X11_start km_X11_350 rfl rfl ⟨Nat.le_of_ble_eq_true rfl, Nat.le_of_ble_eq_true rfl⟩ (rc_13 hK hT ha) hK (fun _ => XP.blind) (fun U hU hW => XP.at hK hz hS hT hU hW) rfl hl.1 (Nat.le_of_ble_eq_true rfl) dX11_rekey_69 ⟨Nat.le_of_ble_eq_true rfl, Nat.le_of_ble_eq_true rfl⟩) hS ?_
            rintro G69 H locs ⟨hF69, oq69, oq69a, oq69b⟩ hT hS
            have oq69 : mw (G69.2.1 (F a 4)) 0 = mw (G.2.1 (F a 1)) 0 := by simp only [(show G6.2.1 (F a 1) = G.2.1 (F a 1) from ((hF6.2.1 _ xn0).trans (ld_c hG2)))] at oq69; exact oq69
            have oq69b : LSt (G.2.1 (F a 10)) (G69.2.1 (F a 12)) (mw (G.2.1 (F a 1)) 0) 12 := by simp only [(show G6.2.1 (F a 10) = G.2.1 (F a 10) from ((hF6.2.1 _ xn0).trans (ld_c hG2))), (show G6.2.1 (F a 1) = G.2.1 (F a 1) from ((hF6.2.1 _ xn0).trans (ld_c hG2)))] at oq69b; exact oq69b
            refine lv_iconst (v := 0) hx hb dX11_rekey_72 (by decide) ?_
            refine lv_istore (lv' := [(4, .int 0), (0, .ref a), (1, .int p0), (2, .int p1), (3, .int p2)]) hx hb dX11_rekey_73 hl (by decide) rfl (fun ls hl => ?_)
            have L75 : ∀ (N75 : Nat) (l4_75 : Int32) (G_75 : XG) (H : Heap) (locs : List Loc) (ls : Array Slot), XFr [] [F a 1] [] G69 G_75 → MVp (G.2.1 (F a 1)) (G_75.2.1 (F a 1)) (0 + 4 * (30 * p0.toInt + p1.toInt)) (0 + 4 * (30 * p0.toInt + p2.toInt)) (l4_75.toInt) → 0 ≤ l4_75.toInt ∧ l4_75.toInt ≤ 4 → (0 : Int) ≤ l4_75.toInt → 2147483648 - l4_75.toInt < ((N75 : Nat) : Int) → TW E K F G_75 H → va_S (xA E) s.heap H locs → lv_has ls 7 [(0, .ref a), (1, .int p0), (2, .int p1), (3, .int p2), (4, .int l4_75)] → W p l e rm_X11_rekey s m args below meth c H locs 0 0 Q (F0 m 75 ls []) := by
              intro N75
              induction N75 with
              | zero =>
                intro l4_75 G_75 H locs ls hF_75 mp I75_0 I75_1 hm75
                exact absurd hm75 (z_X11_rekey_6 l4_75.toInt I75_0)
              | succ N75 ih75 =>
                intro l4_75 G_75 H locs ls hF_75 mp I75_0 I75_1 hm75 hT hS hl
                refine lv_iload hx hb dX11_rekey_75 (lv_at hl 4 rfl) ?_
                refine lv_iconst (v := 4) hx hb dX11_rekey_77 (by decide) ?_
                refine xi_cge (tgt := 113) hx hb (rfl : Int32.toInt l4_75 = l4_75.toInt) ((by decide) : Int32.toInt 4 = (4 : Int)) dX11_rekey_78 (by decide) (fun c78 => ?_) (fun c78 => ?_)
                · refine lv_aload_n hx hb dX11_rekey_113 rfl (lv_at hl 0 rfl) ?_
                  refine gX11_1 S hK hT ha kf_X11_9 dX11_rekey_114 (fun _ _ => ?_)
                  refine lv_iload_n hx hb dX11_rekey_117 rfl (lv_at hl 1 rfl) ?_
                  refine lv_iload_n hx hb dX11_rekey_118 rfl (lv_at hl 2 rfl) ?_
                  refine x_clp (x_runS (As := [.int p0, .int p1]) (rest := [.ref (F a 1)]) S (c_X11_at l E K F G_75 H p0 p1) ms_X11_at km_X11_156 rfl rfl ⟨Nat.le_of_ble_eq_true rfl, Nat.le_of_ble_eq_true rfl⟩ hK (fun _ => XPh.blind) (fun U hU hW => XPh.at hK hz hS hT hU hW) rfl hl.1 (Nat.le_of_ble_eq_true rfl) dX11_rekey_119 ⟨Nat.le_of_ble_eq_true rfl, Nat.le_of_ble_eq_true rfl⟩) hS ?_
                  rintro _ _ locs ⟨x119, rfl, t119⟩ hS
                  have t119 : 0 ≤ p0.toInt ∧ p0.toInt ≤ 2 ∧ 0 ≤ p1.toInt ∧ p1.toInt ≤ 29 → x119.toInt = 4 * (30 * p0.toInt + p1.toInt) := t119
                  refine lv_iconst (v := 0) hx hb dX11_rekey_122 (by decide) ?_
                  refine as_0 (x := 0) S hK hT hS hk9999c ar_30 aw_30 (by decide) (z_X11_rekey_7 p0.toInt p1.toInt x119.toInt z36 z36a t119) dX11_rekey_123 (fun H locs hT hS => ?_)
                  obtain ⟨G123, hG123⟩ : ∃ GG : XG, GG = cput G_75 (F a 1) x119.toNatClampNeg 0 := ⟨_, rfl⟩
                  rw [← hG123] at hT
                  refine lv_iconst (v := 0) hx hb dX11_rekey_124 (by decide) ?_
                  refine lv_istore (lv' := [(4, .int 0), (0, .ref a), (1, .int p0), (2, .int p1), (3, .int p2)]) hx hb dX11_rekey_125 hl (by decide) rfl (fun ls hl => ?_)
                  have L127 : ∀ (N127 : Nat) (l4_127 : Int32) (G_127 : XG) (H : Heap) (locs : List Loc) (ls : Array Slot), XFr [] [F a 1] [] G123 G_127 → mw (G_127.2.1 (F a 1)) 0 = mvR (refA (G.2.1 (F a 10))) (refT (G.2.1 (F a 10))) (refC (G.2.1 (F a 10))) p0.toInt p1.toInt p2.toInt (rmv (mw (G.2.1 (F a 1)) 0) p0.toInt p1.toInt p2.toInt) (Int.toNat (l4_127.toInt)) → RM (G_127.2.1 (F a 1)) 0 → 0 ≤ l4_127.toInt ∧ l4_127.toInt ≤ 12 → (0 : Int) ≤ l4_127.toInt → 2147483648 - l4_127.toInt < ((N127 : Nat) : Int) → TW E K F G_127 H → va_S (xA E) s.heap H locs → lv_has ls 7 [(0, .ref a), (1, .int p0), (2, .int p1), (3, .int p2), (4, .int l4_127)] → W p l e rm_X11_rekey s m args below meth c H locs 0 0 Q (F0 m 127 ls []) := by
                    intro N127
                    induction N127 with
                    | zero =>
                      intro l4_127 G_127 H locs ls hF_127 mv rm I127_0 I127_1 hm127
                      exact absurd hm127 (z_X11_rekey_8 l4_127.toInt I127_0)
                    | succ N127 ih127 =>
                      intro l4_127 G_127 H locs ls hF_127 mv rm I127_0 I127_1 hm127 hT hS hl
                      refine lv_iload hx hb dX11_rekey_127 (lv_at hl 4 rfl) ?_
                      refine lv_bipush (v := 12) hx hb dX11_rekey_129 (by decide) ?_
                      refine xi_cge (tgt := 248) hx hb (rfl : Int32.toInt l4_127 = l4_127.toInt) ((by decide) : Int32.toInt 12 = (12 : Int)) dX11_rekey_131 (by decide) (fun c131 => ?_) (fun c131 => ?_)
                      · refine lv_aload_n hx hb dX11_rekey_248 rfl (lv_at hl 0 rfl) ?_
                        refine x_cl0 (x_runV (b := a) (As := []) (rest := []) S (c_X11_settles l E K F G_127 a (mw (G.2.1 (F a 1)) 0) ha (by rw [(show (G_127.1 a 23).toInt = ((G6.1 a 23).toInt) from (congrArg Int32.toInt ((hF_127.1 _ _ xn0).trans ((lc_d hG123).trans ((hF_75.1 _ _ xn0).trans (hF69.1 _ _ xn0))))).trans (rfl : Int32.toInt (G6.1 a 23) = ((G6.1 a 23).toInt)))] <;> exact (z_X11_rekey_9 ((G6.1 a 20).toInt) ((G6.1 a 21).toInt) ((G6.1 a 23).toInt) t6)) (by rw [(show (G_127.1 a 43).toInt = ((G.1 a 43).toInt) from (congrArg Int32.toInt ((hF_127.1 _ _ xn0).trans ((lc_d hG123).trans ((hF_75.1 _ _ xn0).trans ((hF69.1 _ _ xn0).trans ((hF6.1 _ _ (xnj (by decide) (xnj (by decide) (xnj (by decide) xn0)))).trans (ld_j hG2 (by decide)))))))).trans (rfl : Int32.toInt (G.1 a 43) = ((G.1 a 43).toInt)))] <;> exact (am)) (v_X11_rekey_249_9 (F := F) a G G_127 hR ((hF_127.2.1 _ (xn1 (xne_k hk9999m hk9999c (by decide)) xn0)).trans ((lc_c hG123 (xne_k hk9999m hk9999c (by decide))).trans ((hF_75.2.1 _ (xn1 (xne_k hk9999m hk9999c (by decide)) xn0)).trans ((hF69.2.1 _ (xn1 (xne_k hk9999m hk9999k (by decide)) (xn1 (xne_k hk9999m hk9999l (by decide)) xn0))).trans ((hF6.2.1 _ xn0).trans (ld_c hG2))))))) (v_X11_rekey_249_10 (F := F) a G_127 rm) (v_X11_rekey_249_11 (K := K) (F := F) a G2 G G6 G69 G_75 G123 x119 G_127 p0 p1 p2 l4_75 l4_127 x10 x17 x24 x39 x55 N75 N127 ha hk9999 hj9999 hk9999a hj9999a hk9999b hj9999b hk9999c hj9999c hk9999d hj9999d hk9999e hj9999e hk9999f hj9999f hk9999g hj9999g hk9999h hj9999h hk9999i hj9999i hk9999j hj9999j hk9999k hj9999k hk9999l hj9999l hk9999m hj9999m hk9999n hj9999n hG2 hF6 hF69 hF_75 hG123 hF_127 hR hM hB oq69 oq69a oq69b mp mv rm am t6 t10 c13 t17 c20 t24 c27 z36 z36a z36b t39 c42 t55 c58 z68 I75_0 I75_1 hm75 c78 t119 I127_0 I127_1 hm127 c131 ((hF69.2.1 _ (xn1 (xne_k hk9999c hk9999k (by decide)) (xn1 (xne_k hk9999c hk9999l (by decide)) xn0))).trans ((hF6.2.1 _ xn0).trans (ld_c hG2))) ((hF_127.2.1 _ (xn1 (xne_k hk9999m hk9999c (by decide)) xn0)).trans ((lc_c hG123 (xne_k hk9999m hk9999c (by decide))).trans ((hF_75.2.1 _ (xn1 (xne_k hk9999m hk9999c (by decide)) xn0)).trans ((hF69.2.1 _ (xn1 (xne_k hk9999m hk9999k (by decide)) (xn1 (xne_k hk9999m hk9999l (by decide)) xn0))).trans ((hF6.2.1 _ xn0).trans (ld_c hG2)))))) ((hF_127.2.1 _ (xn1 (xne_k hk9999f hk9999c (by decide)) xn0)).trans ((lc_c hG123 (xne_k hk9999f hk9999c (by decide))).trans ((hF_75.2.1 _ (xn1 (xne_k hk9999f hk9999c (by decide)) xn0)).trans ((hF69.2.1 _ (xn1 (xne_k hk9999f hk9999k (by decide)) (xn1 (xne_j hj9999f hj9999l (by first | decide | omega)) xn0))).trans ((hF6.2.1 _ xn0).trans (ld_c hG2)))))) ((hF_127.2.1 _ (xn1 (xne_k hk9999l hk9999c (by decide)) xn0)).trans ((lc_c hG123 (xne_k hk9999l hk9999c (by decide))).trans (hF_75.2.1 _ (xn1 (xne_k hk9999l hk9999c (by decide)) xn0)))) ((hF_127.2.1 _ (xn1 (xne_k hk9999g hk9999c (by decide)) xn0)).trans ((lc_c hG123 (xne_k hk9999g hk9999c (by decide))).trans ((hF_75.2.1 _ (xn1 (xne_k hk9999g hk9999c (by decide)) xn0)).trans ((hF69.2.1 _ (xn1 (xne_k hk9999g hk9999k (by decide)) (xn1 (xne_j hj9999g hj9999l (by first | decide | omega)) xn0))).trans ((hF6.2.1 _ xn0).trans (ld_c hG2)))))) ((hF_127.2.1 _ (xn1 (xne_k hk9999 hk9999c (by decide)) xn0)).trans ((lc_c hG123 (xne_k hk9999 hk9999c (by decide))).trans ((hF_75.2.1 _ (xn1 (xne_k hk9999 hk9999c (by decide)) xn0)).trans ((hF69.2.1 _ (xn1 (xne_k hk9999 hk9999k (by decide)) (xn1 (xne_k hk9999 hk9999l (by decide)) xn0))).trans ((hF6.2.1 _ xn0).trans (ld_c hG2)))))) ((hF_127.2.1 _ (xn1 (xne_k hk9999a hk9999c (by decide)) xn0)).trans ((lc_c hG123 (xne_k hk9999a hk9999c (by decide))).trans ((hF_75.2.1 _ (xn1 (xne_k hk9999a hk9999c (by decide)) xn0)).trans ((hF69.2.1 _ (xn1 (xne_k hk9999a hk9999k (by decide)) (xn1 (xne_k hk9999a hk9999l (by decide)) xn0))).trans ((hF6.2.1 _ xn0).trans (ld_c hG2)))))) ((hF_127.2.1 _ (xn1 (xne_k hk9999b hk9999c (by decide)) xn0)).trans ((lc_c hG123 (xne_k hk9999b hk9999c (by decide))).trans ((hF_75.2.1 _ (xn1 (xne_k hk9999b hk9999c (by decide)) xn0)).trans ((hF69.2.1 _ (xn1 (xne_k hk9999b hk9999k (by decide)) (xn1 (xne_k hk9999b hk9999l (by decide)) xn0))).trans ((hF6.2.1 _ xn0).trans (ld_c hG2)))))) ((hF_127.2.1 _ (xn1 (xne_k hk9999n hk9999c (by decide)) xn0)).trans ((lc_c hG123 (xne_k hk9999n hk9999c (by decide))).trans ((hF_75.2.1 _ (xn1 (xne_k hk9999n hk9999c (by decide)) xn0)).trans ((hF69.2.1 _ (xn1 (xne_j hj9999n hj9999k (by first | decide | omega)) (xn1 (xne_k hk9999n hk9999l (by decide)) xn0))).trans ((hF6.2.1 _ xn0).trans (ld_c hG2)))))) ((hF_127.2.1 _ (xn1 (xne_k hk9999e hk9999c (by decide)) xn0)).trans ((lc_c hG123 (xne_k hk9999e hk9999c (by decide))).trans ((hF_75.2.1 _ (xn1 (xne_k hk9999e hk9999c (by decide)) xn0)).trans ((hF69.2.1 _ (xn1 (xne_k hk9999e hk9999k (by decide)) (xn1 (xne_k hk9999e hk9999l (by decide)) xn0))).trans ((hF6.2.1 _ xn0).trans (ld_c hG2)))))) ((hF_127.2.1 _ (xn1 (xne_k hk9999k hk9999c (by decide)) xn0)).trans ((lc_c hG123 (xne_k hk9999k hk9999c (by decide))).trans (hF_75.2.1 _ (xn1 (xne_k hk9999k hk9999c (by decide)) xn0)))) ((hF_127.2.1 _ (xn1 (xne_k hk9999i hk9999c (by decide)) xn0)).trans ((lc_c hG123 (xne_k hk9999i hk9999c (by decide))).trans ((hF_75.2.1 _ (xn1 (xne_k hk9999i hk9999c (by decide)) xn0)).trans ((hF69.2.1 _ (xn1 (xne_k hk9999i hk9999k (by decide)) (xn1 (xne_k hk9999i hk9999l (by decide)) xn0))).trans ((hF6.2.1 _ xn0).trans (ld_c hG2)))))) ((hF_127.2.1 _ (xn1 (xne_k hk9999j hk9999c (by decide)) xn0)).trans ((lc_c hG123 (xne_k hk9999j hk9999c (by decide))).trans ((hF_75.2.1 _ (xn1 (xne_k hk9999j hk9999c (by decide)) xn0)).trans ((hF69.2.1 _ (xn1 (xne_k hk9999j hk9999k (by decide)) (xn1 (xne_k hk9999j hk9999l (by decide)) xn0))).trans ((hF6.2.1 _ xn0).trans (ld_c hG2)))))) ((hF_127.2.1 _ (xn1 (xne_k hk9999d hk9999c (by decide)) xn0)).trans ((lc_c hG123 (xne_k hk9999d hk9999c (by decide))).trans ((hF_75.2.1 _ (xn1 (xne_k hk9999d hk9999c (by decide)) xn0)).trans ((hF69.2.1 _ (xn1 (xne_k hk9999d hk9999k (by decide)) (xn1 (xne_k hk9999d hk9999l (by decide)) xn0))).trans ((hF6.2.1 _ xn0).trans (ld_c hG2)))))) ((hF_127.2.1 _ (xn1 (xne_k hk9999h hk9999c (by decide)) xn0)).trans ((lc_c hG123 (xne_k hk9999h hk9999c (by decide))).trans ((hF_75.2.1 _ (xn1 (xne_k hk9999h hk9999c (by decide)) xn0)).trans ((hF69.2.1 _ (xn1 (xne_k hk9999h hk9999k (by decide)) (xn1 (xne_k hk9999h hk9999l (by decide)) xn0))).trans ((hF6.2.1 _ xn0).trans (ld_c hG2)))))) ((hF_127.1 _ _ xn0).trans ((lc_d hG123).trans ((hF_75.1 _ _ xn0).trans ((hF69.1 _ _ xn0).trans ((hF6.1 _ _ (xnj (by decide) (xnj (by decide) (xnj (by decide) xn0)))).trans (ld_at hG2)))))) ((hF_127.1 _ _ xn0).trans ((lc_d hG123).trans ((hF_75.1 _ _ xn0).trans ((hF69.1 _ _ xn0).trans ((hF6.1 _ _ (xnj (by decide) (xnj (by decide) (xnj (by decide) xn0)))).trans (ld_j hG2 (by decide))))))) ((hF_127.1 _ _ xn0).trans ((lc_d hG123).trans ((hF_75.1 _ _ xn0).trans ((hF69.1 _ _ xn0).trans ((hF6.1 _ _ (xnj (by decide) (xnj (by decide) (xnj (by decide) xn0)))).trans (ld_j hG2 (by decide))))))) ((hF_127.1 _ _ xn0).trans ((lc_d hG123).trans ((hF_75.1 _ _ xn0).trans (hF69.1 _ _ xn0)))) ((hF_127.1 _ _ xn0).trans ((lc_d hG123).trans ((hF_75.1 _ _ xn0).trans (hF69.1 _ _ xn0)))) ((hF_127.1 _ _ xn0).trans ((lc_d hG123).trans ((hF_75.1 _ _ xn0).trans (hF69.1 _ _ xn0)))) ((hF_127.1 _ _ xn0).trans ((lc_d hG123).trans ((hF_75.1 _ _ xn0).trans ((hF69.1 _ _ xn0).trans ((hF6.1 _ _ (xnj (by decide) (xnj (by decide) (xnj (by decide) xn0)))).trans (ld_j hG2 (by decide))))))) ((hF_127.1 _ _ xn0).trans ((lc_d hG123).trans ((hF_75.1 _ _ xn0).trans ((hF69.1 _ _ xn0).trans ((hF6.1 _ _ (xnj (by decide) (xnj (by decide) (xnj (by decide) xn0)))).trans (ld_j hG2 (by decide))))))) ((hF_127.1 _ _ xn0).trans ((lc_d hG123).trans ((hF_75.1 _ _ xn0).trans ((hF69.1 _ _ xn0).trans ((hF6.1 _ _ (xnj (by decide) (xnj (by decide) (xnj (by decide) xn0)))).trans (ld_j hG2 (by decide))))))) ((hF_127.1 _ _ xn0).trans ((lc_d hG123).trans ((hF_75.1 _ _ xn0).trans ((hF69.1 _ _ xn0).trans ((hF6.1 _ _ (xnj (by decide) (xnj (by decide) (xnj (by decide) xn0)))).trans (ld_j hG2 (by decide)))))))) (v_X11_rekey_249_12 (F := F) a G G69 G_127 hM hB oq69a rm ((hF_127.2.1 _ (xn1 (xne_k hk9999n hk9999c (by decide)) xn0)).trans ((lc_c hG123 (xne_k hk9999n hk9999c (by decide))).trans ((hF_75.2.1 _ (xn1 (xne_k hk9999n hk9999c (by decide)) xn0)).trans ((hF69.2.1 _ (xn1 (xne_j hj9999n hj9999k (by first | decide | omega)) (xn1 (xne_k hk9999n hk9999l (by decide)) xn0))).trans ((hF6.2.1 _ xn0).trans (ld_c hG2))))))) (v_X11_rekey_249_13 (F := F) a G G69 G_127 oq69b ((hF_127.2.1 _ (xn1 (xne_k hk9999m hk9999c (by decide)) xn0)).trans ((lc_c hG123 (xne_k hk9999m hk9999c (by decide))).trans ((hF_75.2.1 _ (xn1 (xne_k hk9999m hk9999c (by decide)) xn0)).trans ((hF69.2.1 _ (xn1 (xne_k hk9999m hk9999k (by decide)) (xn1 (xne_k hk9999m hk9999l (by decide)) xn0))).trans ((hF6.2.1 _ xn0).trans (ld_c hG2)))))) ((hF_127.2.1 _ (xn1 (xne_k hk9999l hk9999c (by decide)) xn0)).trans ((lc_c hG123 (xne_k hk9999l hk9999c (by decide))).trans (hF_75.2.1 _ (xn1 (xne_k hk9999l hk9999c (by decide)) xn0)))))) mv_X11_settles km_X11_353 rfl rfl ⟨Nat.le_of_ble_eq_true rfl, Nat.le_of_ble_eq_true rfl⟩ (rc_13 hK hT ha) hK (fun _ => XP.blind) (fun U hU hW => XP.at hK hz hS hT hU hW) rfl hl.1 (Nat.le_of_ble_eq_true rfl) dX11_rekey_249 ⟨Nat.le_of_ble_eq_true rfl, Nat.le_of_ble_eq_true rfl⟩) hS ?_
                        rintro _ G249 H locs ⟨x249, rfl, hF249, t249, oq249, oq249a⟩ hT hS
                        have t249 : (0 ≤ ((G249.1 a 23).toInt) ∧ ((G249.1 a 23).toInt) ≤ 24) ∧ (0 ≤ ((G249.1 a 43).toInt) ∧ ((G249.1 a 43).toInt) ≤ 2388) := t249
                        have oq249 : ((ffP (G.2.1 (F a 10)) (mw (G_127.2.1 (F a 1)) 0) (fuO (G.2.1 (F a 10)) (mw (G.2.1 (F a 1)) 0) (mw (G_127.2.1 (F a 1)) 0) 0) ≠ -1 ∨ (((G.1 a 6).toInt) = 0 ∧ ffP (G.2.1 (F a 10)) (mw (G_127.2.1 (F a 1)) 0) (fuO (G.2.1 (F a 10)) (mw (G.2.1 (F a 1)) 0) (mw (G_127.2.1 (F a 1)) 0) 1) ≠ -1)) ∧ x249.toInt = -5 ∧ mw (G249.2.1 (F a 1)) 0 = mw (G69.2.1 (F a 4)) 0) ∨ (ffP (G.2.1 (F a 10)) (mw (G_127.2.1 (F a 1)) 0) (fuO (G.2.1 (F a 10)) (mw (G.2.1 (F a 1)) 0) (mw (G_127.2.1 (F a 1)) 0) 0) = -1 ∧ (((G.1 a 6).toInt) = 0 → ffP (G.2.1 (F a 10)) (mw (G_127.2.1 (F a 1)) 0) (fuO (G.2.1 (F a 10)) (mw (G.2.1 (F a 1)) 0) (mw (G_127.2.1 (F a 1)) 0) 1) = -1) ∧ x249.toInt = (((fuO (G.2.1 (F a 10)) (mw (G.2.1 (F a 1)) 0) (mw (G_127.2.1 (F a 1)) 0) 2).length : Nat) : Int) ∧ mw (G249.2.1 (F a 1)) 0 = mw (G_127.2.1 (F a 1)) 0) := by simp only [(show G_127.2.1 (F a 10) = G.2.1 (F a 10) from ((hF_127.2.1 _ (xn1 (xne_k hk9999m hk9999c (by decide)) xn0)).trans ((lc_c hG123 (xne_k hk9999m hk9999c (by decide))).trans ((hF_75.2.1 _ (xn1 (xne_k hk9999m hk9999c (by decide)) xn0)).trans ((hF69.2.1 _ (xn1 (xne_k hk9999m hk9999k (by decide)) (xn1 (xne_k hk9999m hk9999l (by decide)) xn0))).trans ((hF6.2.1 _ xn0).trans (ld_c hG2))))))), (show G_127.1 a 6 = G.1 a 6 from ((hF_127.1 _ _ xn0).trans ((lc_d hG123).trans ((hF_75.1 _ _ xn0).trans ((hF69.1 _ _ xn0).trans ((hF6.1 _ _ (xnj (by decide) (xnj (by decide) (xnj (by decide) xn0)))).trans (ld_j hG2 (by decide)))))))), (show G_127.2.1 (F a 4) = G69.2.1 (F a 4) from ((hF_127.2.1 _ (xn1 (xne_k hk9999k hk9999c (by decide)) xn0)).trans ((lc_c hG123 (xne_k hk9999k hk9999c (by decide))).trans (hF_75.2.1 _ (xn1 (xne_k hk9999k hk9999c (by decide)) xn0)))))] at oq249; exact oq249
                        exact x_ri hx hb hr hlk hQ (Nat.le_of_ble_eq_true rfl) (Nat.le_of_ble_eq_true rfl) hS dX11_rekey_252 G249 ⟨_, rfl, (XFr.call (XFr.call (by rw [hG123]; exact XFr.cput (XFr.call (XFr.call (XFr.call (by rw [hG2]; exact XFr.dput XFr.rf (List.mem_of_getElem? (i := 9) rfl)) hF6 (xm1 2 rfl (xm1 3 rfl (xm1 4 rfl xm0))) xm0 xm0) hF69 xm0 (xm1 11 rfl (xm1 12 rfl xm0)) xm0) hF_75 xm0 (xm1 3 rfl xm0) xm0) (List.mem_of_getElem? (i := 3) rfl)) hF_127 xm0 (xm1 3 rfl xm0) xm0) hF249 (xm1 0 rfl (xm1 1 rfl (xm1 2 rfl (xm1 3 rfl (xm1 4 rfl (xm1 5 rfl (xm1 6 rfl (xm1 7 rfl (xm1 8 rfl xm0))))))))) (xm1 0 rfl (xm1 1 rfl (xm1 2 rfl (xm1 3 rfl (xm1 4 rfl (xm1 5 rfl (xm1 6 rfl (xm1 7 rfl (xm1 8 rfl (xm1 9 rfl (xm1 10 rfl xm0))))))))))) xm0), (t249), (v_X11_rekey_252_14 (F := F) G69 a G G_127 p0 p1 p2 l4_127 x249 G249 x39 x55 oq69 mv oq249 z36 z36a z36b t39 c42 t55 c58 I127_0 c131), (v_X11_rekey_252_15 (F := F) a G249 oq249a)⟩ hT
                      · refine lv_iconst (v := 0) hx hb dX11_rekey_134 (by decide) ?_
                        refine lv_istore (lv' := [(5, .int 0), (0, .ref a), (1, .int p0), (2, .int p1), (3, .int p2), (4, .int l4_127)]) hx hb dX11_rekey_135 hl (by decide) rfl (fun ls hl => ?_)
                        have L137 : ∀ (N137 : Nat) (l5_137 : Int32) (G_137 : XG) (H : Heap) (locs : List Loc) (ls : Array Slot), XFr [] [F a 1] [] G_127 G_137 → mw (G_137.2.1 (F a 1)) 0 = repl (mvR (refA (G.2.1 (F a 10))) (refT (G.2.1 (F a 10))) (refC (G.2.1 (F a 10))) p0.toInt p1.toInt p2.toInt (rmv (mw (G.2.1 (F a 1)) 0) p0.toInt p1.toInt p2.toInt) (Int.toNat (l4_127.toInt))) (refT (G.2.1 (F a 10)) (l4_127.toInt)) (refC (G.2.1 (F a 10)) (l4_127.toInt)) p1.toInt (if refA (G.2.1 (F a 10)) (l4_127.toInt) p0.toInt = 1 then p2.toInt else -1000) (l5_137.toInt) → RM (G_137.2.1 (F a 1)) 0 → 0 ≤ l5_137.toInt ∧ l5_137.toInt ≤ 30 → l5_137.toInt = 0 ∨ 0 < (refA (G.2.1 (F a 10)) (l4_127.toInt) (p0.toInt)) → (0 : Int) ≤ l5_137.toInt → 2147483648 - l5_137.toInt < ((N137 : Nat) : Int) → TW E K F G_137 H → va_S (xA E) s.heap H locs → lv_has ls 7 [(0, .ref a), (1, .int p0), (2, .int p1), (3, .int p2), (4, .int l4_127), (5, .int l5_137)] → W p l e rm_X11_rekey s m args below meth c H locs 0 0 Q (F0 m 137 ls []) := by
                          intro N137
                          induction N137 with
                          | zero =>
                            intro l5_137 G_137 H locs ls hF_137 rp rm I137_0 I137_1 I137_2 hm137
                            exact absurd hm137 (z_X11_rekey_12 l5_137.toInt I137_0)
                          | succ N137 ih137 =>
                            intro l5_137 G_137 H locs ls hF_137 rp rm I137_0 I137_1 I137_2 hm137 hT hS hl
                            refine lv_iload hx hb dX11_rekey_137 (lv_at hl 5 rfl) ?_
                            refine lv_bipush (v := 30) hx hb dX11_rekey_139 (by decide) ?_
                            refine xi_cge (tgt := 242) hx hb (rfl : Int32.toInt l5_137 = l5_137.toInt) ((by decide) : Int32.toInt 30 = (30 : Int)) dX11_rekey_141 (by decide) (fun c141 => ?_) (fun c141 => ?_)
                            · refine xi_iinc (n := 1) (lv' := fun z9 => [(4, .int z9), (0, .ref a), (1, .int p0), (2, .int p1), (3, .int p2), (5, .int l5_137)]) (k := 4) hx hb (rfl : Int32.toInt l4_127 = l4_127.toInt) (by decide) dX11_rekey_242 hl rfl (by decide) (fun _ => rfl) (fun x242 ls t242 hl => ?_)
                              have e242 : x242.toInt = (l4_127.toInt + 1) := (z_X11_rekey_13 l4_127.toInt x242.toInt I127_0 t242)
                              have hl : lv_has ls 7 [(4, .int x242), (0, .ref a), (1, .int p0), (2, .int p1), (3, .int p2), (5, .int l5_137)] := hl
                              refine lv_goto (tgt := 127) hx hb dX11_rekey_245 (by decide) ?_
                              exact ih127 x242 G_137 _ _ _ (XFr.call (XFr.call XFr.rf hF_127 xm0 (xm1 0 rfl xm0) xm0) hF_137 xm0 (xm1 0 rfl xm0) xm0) (by rw [(e242 : Int32.toInt x242 = (l4_127.toInt + 1))] <;> exact (v_X11_rekey_245_16 (K := K) (F := F) a G G6 x119 G_137 p0 p1 p2 l4_75 l4_127 l5_137 x10 x17 x24 x39 x55 N75 N127 N137 ha rp am t6 t10 c13 t17 c20 t24 c27 z36 z36a z36b t39 c42 t55 c58 z68 I75_0 I75_1 hm75 c78 t119 I127_0 I127_1 hm127 c131 I137_0 I137_1 I137_2 hm137 c141)) (v_X11_rekey_245_17 (F := F) a G_137 rm) (by rw [(e242 : Int32.toInt x242 = (l4_127.toInt + 1))] <;> exact (z_X11_rekey_14 l4_127.toInt I127_0 c131)) (by rw [(e242 : Int32.toInt x242 = (l4_127.toInt + 1))] <;> exact (z_X11_rekey_15 l4_127.toInt I127_0)) (by rw [(e242 : Int32.toInt x242 = (l4_127.toInt + 1))] <;> exact (z_X11_rekey_16 l4_127.toInt N127 hm127)) hT hS (lv_sub hl [1, 2, 3, 4, 0] rfl)
                            · refine lv_aload_n hx hb dX11_rekey_144 rfl (lv_at hl 0 rfl) ?_
                              refine lv_iload hx hb dX11_rekey_145 (lv_at hl 4 rfl) ?_
                              refine lv_iload_n hx hb dX11_rekey_147 rfl (lv_at hl 1 rfl) ?_
                              refine x_clp (x_runV (b := a) (As := [.int l4_127, .int p0]) (rest := []) S (c_X11_isFor l E K F G_137 H a l4_127 p0 ha) mv_X11_isFor km_X11_367 rfl rfl ⟨Nat.le_of_ble_eq_true rfl, Nat.le_of_ble_eq_true rfl⟩ (rc_13 hK hT ha) hK (fun _ => XPh.blind) (fun U hU hW => XPh.at hK hz hS hT hU hW) rfl hl.1 (Nat.le_of_ble_eq_true rfl) dX11_rekey_148 ⟨Nat.le_of_ble_eq_true rfl, Nat.le_of_ble_eq_true rfl⟩) hS ?_
                              rintro _ _ locs ⟨x148, rfl, b148, t148⟩ hS
                              have t148 : (x148.toInt = 1 ∧ 0 < (refA (G.2.1 (F a 10)) (l4_127.toInt) (p0.toInt))) ∨ (x148.toInt = 0 ∧ ¬ (0 < (refA (G.2.1 (F a 10)) (l4_127.toInt) (p0.toInt)))) := by rw [(show G_137.2.1 (F a 10) = G.2.1 (F a 10) from ((hF_137.2.1 _ (xn1 (xne_k hk9999m hk9999c (by decide)) xn0)).trans ((hF_127.2.1 _ (xn1 (xne_k hk9999m hk9999c (by decide)) xn0)).trans ((lc_c hG123 (xne_k hk9999m hk9999c (by decide))).trans ((hF_75.2.1 _ (xn1 (xne_k hk9999m hk9999c (by decide)) xn0)).trans ((hF69.2.1 _ (xn1 (xne_k hk9999m hk9999k (by decide)) (xn1 (xne_k hk9999m hk9999l (by decide)) xn0))).trans ((hF6.2.1 _ xn0).trans (ld_c hG2))))))))] at t148; exact t148
                              refine xi_zeq (tgt := 242) hx hb (rfl : Int32.toInt x148 = x148.toInt) dX11_rekey_151 (by decide) (fun c151 => ?_) (fun c151 => ?_)
                              · refine xi_iinc (n := 1) (lv' := fun z9 => [(4, .int z9), (0, .ref a), (1, .int p0), (2, .int p1), (3, .int p2), (5, .int l5_137)]) (k := 4) hx hb (rfl : Int32.toInt l4_127 = l4_127.toInt) (by decide) dX11_rekey_242 hl rfl (by decide) (fun _ => rfl) (fun x242 ls t242 hl => ?_)
                                have e242 : x242.toInt = (l4_127.toInt + 1) := (z_X11_rekey_13 l4_127.toInt x242.toInt I127_0 t242)
                                have hl : lv_has ls 7 [(4, .int x242), (0, .ref a), (1, .int p0), (2, .int p1), (3, .int p2), (5, .int l5_137)] := hl
                                refine lv_goto (tgt := 127) hx hb dX11_rekey_245 (by decide) ?_
                                exact ih127 x242 G_137 _ _ _ (XFr.call (XFr.call XFr.rf hF_127 xm0 (xm1 0 rfl xm0) xm0) hF_137 xm0 (xm1 0 rfl xm0) xm0) (by rw [(e242 : Int32.toInt x242 = (l4_127.toInt + 1))] <;> exact (v_X11_rekey_245_18 (K := K) (F := F) a G G6 x119 G_137 p0 p1 p2 l4_75 l4_127 l5_137 x10 x17 x24 x39 x55 N75 N127 N137 x148 ha rp am t6 t10 c13 t17 c20 t24 c27 z36 z36a z36b t39 c42 t55 c58 z68 I75_0 I75_1 hm75 c78 t119 I127_0 I127_1 hm127 c131 I137_0 I137_1 I137_2 hm137 c141 t148 c151)) (v_X11_rekey_245_19 (F := F) a G_137 rm) (by rw [(e242 : Int32.toInt x242 = (l4_127.toInt + 1))] <;> exact (z_X11_rekey_14 l4_127.toInt I127_0 c131)) (by rw [(e242 : Int32.toInt x242 = (l4_127.toInt + 1))] <;> exact (z_X11_rekey_15 l4_127.toInt I127_0)) (by rw [(e242 : Int32.toInt x242 = (l4_127.toInt + 1))] <;> exact (z_X11_rekey_16 l4_127.toInt N127 hm127)) hT hS (lv_sub hl [1, 2, 3, 4, 0] rfl)
                              · have z154 : ((0 ≤ l4_127.toInt ∧ l4_127.toInt < 12 ∧ (aI (G.2.1 (F a 10)) (10 * l4_127.toInt + 0)) = 1 ∧ (aI (G.2.1 (F a 10)) (10 * l4_127.toInt + 3)) = p0.toInt) ∧ (refA (G.2.1 (F a 10)) (l4_127.toInt) (p0.toInt)) = (aI (G.2.1 (F a 10)) (10 * l4_127.toInt + 8))) ∨ (¬ (0 ≤ l4_127.toInt ∧ l4_127.toInt < 12 ∧ (aI (G.2.1 (F a 10)) (10 * l4_127.toInt + 0)) = 1 ∧ (aI (G.2.1 (F a 10)) (10 * l4_127.toInt + 3)) = p0.toInt) ∧ (refA (G.2.1 (F a 10)) (l4_127.toInt) (p0.toInt)) = 0) := refA_f
                                have z154a : (-1 ≤ (aI (G.2.1 (F a 10)) (10 * l4_127.toInt + 0)) ∧ (aI (G.2.1 (F a 10)) (10 * l4_127.toInt + 0)) ≤ 5) ∧ (0 ≤ (aI (G.2.1 (F a 10)) (10 * l4_127.toInt + 1)) ∧ (aI (G.2.1 (F a 10)) (10 * l4_127.toInt + 1)) ≤ 2) ∧ (0 ≤ (aI (G.2.1 (F a 10)) (10 * l4_127.toInt + 2)) ∧ (aI (G.2.1 (F a 10)) (10 * l4_127.toInt + 2)) ≤ 2) := (fun h => ⟨h.1, h.2.1, h.2.2.1⟩) (RV.row hR (z_X11_rekey_21 l4_127.toInt I127_0 c131))
                                refine lv_aload_n hx hb dX11_rekey_154 rfl (lv_at hl 0 rfl) ?_
                                refine lv_iload hx hb dX11_rekey_155 (lv_at hl 4 rfl) ?_
                                refine lv_iconst (v := 1) hx hb dX11_rekey_157 (by decide) ?_
                                refine x_clp (x_runV (b := a) (As := [.int l4_127, .int 1]) (rest := []) S (c_X11_of l E K F G_137 H a l4_127 1 ha (z_X11_rekey_21 l4_127.toInt I127_0 c131) (by decide)) mv_X11_of km_X11_165 rfl rfl ⟨Nat.le_of_ble_eq_true rfl, Nat.le_of_ble_eq_true rfl⟩ (rc_13 hK hT ha) hK (fun _ => XPh.blind) (fun U hU hW => XPh.at hK hz hS hT hU hW) rfl hl.1 (Nat.le_of_ble_eq_true rfl) dX11_rekey_158 ⟨Nat.le_of_ble_eq_true rfl, Nat.le_of_ble_eq_true rfl⟩) hS ?_
                                rintro _ _ locs ⟨x158, rfl, t158⟩ hS
                                have t158 : x158.toInt = (aI (G.2.1 (F a 10)) (10 * l4_127.toInt + 1)) := by rw [(show G_137.2.1 (F a 10) = G.2.1 (F a 10) from ((hF_137.2.1 _ (xn1 (xne_k hk9999m hk9999c (by decide)) xn0)).trans ((hF_127.2.1 _ (xn1 (xne_k hk9999m hk9999c (by decide)) xn0)).trans ((lc_c hG123 (xne_k hk9999m hk9999c (by decide))).trans ((hF_75.2.1 _ (xn1 (xne_k hk9999m hk9999c (by decide)) xn0)).trans ((hF69.2.1 _ (xn1 (xne_k hk9999m hk9999k (by decide)) (xn1 (xne_k hk9999m hk9999l (by decide)) xn0))).trans ((hF6.2.1 _ xn0).trans (ld_c hG2))))))))] at t158; exact t158
                                refine lv_iload hx hb dX11_rekey_161 (lv_at hl 5 rfl) ?_
                                refine x_clp (x_runS (As := [.int x158, .int l5_137]) (rest := []) S (c_X11_at l E K F G_137 H x158 l5_137) ms_X11_at km_X11_156 rfl rfl ⟨Nat.le_of_ble_eq_true rfl, Nat.le_of_ble_eq_true rfl⟩ hK (fun _ => XPh.blind) (fun U hU hW => XPh.at hK hz hS hT hU hW) rfl hl.1 (Nat.le_of_ble_eq_true rfl) dX11_rekey_163 ⟨Nat.le_of_ble_eq_true rfl, Nat.le_of_ble_eq_true rfl⟩) hS ?_
                                rintro _ _ locs ⟨x163, rfl, t163⟩ hS
                                have t163 : 0 ≤ (aI (G.2.1 (F a 10)) (10 * l4_127.toInt + 1)) ∧ (aI (G.2.1 (F a 10)) (10 * l4_127.toInt + 1)) ≤ 2 ∧ 0 ≤ l5_137.toInt ∧ l5_137.toInt ≤ 29 → x163.toInt = 4 * (30 * (aI (G.2.1 (F a 10)) (10 * l4_127.toInt + 1)) + l5_137.toInt) := by rw [(t158 : Int32.toInt x158 = (aI (G.2.1 (F a 10)) (10 * l4_127.toInt + 1)))] at t163; exact t163
                                refine lv_istore (lv' := [(6, .int x163), (0, .ref a), (1, .int p0), (2, .int p1), (3, .int p2), (4, .int l4_127), (5, .int l5_137)]) hx hb dX11_rekey_166 hl (by decide) rfl (fun ls hl => ?_)
                                have z168 : ((aI (G_137.2.1 (F a 1)) (0 + 4 * (30 * (aI (G.2.1 (F a 10)) (10 * l4_127.toInt + 1)) + l5_137.toInt))) = 0 ∧ (cel (mw (G_137.2.1 (F a 1)) 0) (aI (G.2.1 (F a 10)) (10 * l4_127.toInt + 1)) (l5_137.toInt) (aI (G.2.1 (F a 10)) (10 * l4_127.toInt + 2))) = -2000) ∨ ((aI (G_137.2.1 (F a 1)) (0 + 4 * (30 * (aI (G.2.1 (F a 10)) (10 * l4_127.toInt + 1)) + l5_137.toInt))) = 1 ∧ (cel (mw (G_137.2.1 (F a 1)) 0) (aI (G.2.1 (F a 10)) (10 * l4_127.toInt + 1)) (l5_137.toInt) (aI (G.2.1 (F a 10)) (10 * l4_127.toInt + 2))) = (aI (G_137.2.1 (F a 1)) (0 + 4 * (30 * (aI (G.2.1 (F a 10)) (10 * l4_127.toInt + 1)) + l5_137.toInt) + 1 + (aI (G.2.1 (F a 10)) (10 * l4_127.toInt + 2))))) := (rm.okc (z_X11_rekey_23 l5_137.toInt (aI (G.2.1 (F a 10)) (10 * l4_127.toInt + 0)) (aI (G.2.1 (F a 10)) (10 * l4_127.toInt + 1)) (aI (G.2.1 (F a 10)) (10 * l4_127.toInt + 2)) I137_0 c141 z154a)).imp id (fun h => ⟨h.1, h.2.1⟩)
                                refine lv_aload_n hx hb dX11_rekey_168 rfl (lv_at hl 1 rfl) ?_
                                refine gX11_1 S hK hT ha kf_X11_9 dX11_rekey_169 (fun _ _ => ?_)
                                refine lv_iload hx hb dX11_rekey_172 (lv_at hl 0 rfl) ?_
                                refine al_0 S hK hT hk9999c ar_30 (by decide) (z_X11_rekey_24 l5_137.toInt x163.toInt (aI (G.2.1 (F a 10)) (10 * l4_127.toInt + 0)) (aI (G.2.1 (F a 10)) (10 * l4_127.toInt + 1)) (aI (G.2.1 (F a 10)) (10 * l4_127.toInt + 2)) I137_0 c141 z154a t163) dX11_rekey_174 (fun x174 hv174 o174 => ?_)
                                have hv174 : x174.toInt = (aI (G_137.2.1 (F a 1)) (0 + 4 * (30 * (aI (G.2.1 (F a 10)) (10 * l4_127.toInt + 1)) + l5_137.toInt))) := hv174.trans (by rw [((rfl : Int32.toInt x163 = x163.toInt).trans (z_X11_rekey_25 l5_137.toInt x163.toInt (aI (G.2.1 (F a 10)) (10 * l4_127.toInt + 0)) (aI (G.2.1 (F a 10)) (10 * l4_127.toInt + 1)) (aI (G.2.1 (F a 10)) (10 * l4_127.toInt + 2)) I137_0 c141 z154a t163))])
                                refine lv_iconst (v := 1) hx hb dX11_rekey_175 (by decide) ?_
                                refine xi_cne (tgt := 236) hx hb (hv174 : Int32.toInt x174 = (aI (G_137.2.1 (F a 1)) (0 + 4 * (30 * (aI (G.2.1 (F a 10)) (10 * l4_127.toInt + 1)) + l5_137.toInt)))) ((by decide) : Int32.toInt 1 = (1 : Int)) dX11_rekey_176 (by decide) (fun c176 => ?_) (fun c176 => ?_)
                                · refine xi_iinc (n := 1) (lv' := fun z9 => [(5, .int z9), (6, .int x163), (0, .ref a), (1, .int p0), (2, .int p1), (3, .int p2), (4, .int l4_127)]) (k := 6) hx hb (rfl : Int32.toInt l5_137 = l5_137.toInt) (by decide) dX11_rekey_236 hl rfl (by decide) (fun _ => rfl) (fun x236 ls t236 hl => ?_)
                                  have e236 : x236.toInt = (l5_137.toInt + 1) := (z_X11_rekey_26 l5_137.toInt x236.toInt I137_0 t236)
                                  have hl : lv_has ls 7 [(5, .int x236), (6, .int x163), (0, .ref a), (1, .int p0), (2, .int p1), (3, .int p2), (4, .int l4_127)] := hl
                                  refine lv_goto (tgt := 137) hx hb dX11_rekey_239 (by decide) ?_
                                  exact ih137 x236 G_137 _ _ _ (XFr.call XFr.rf hF_137 xm0 (xm1 0 rfl xm0) xm0) (by rw [(e236 : Int32.toInt x236 = (l5_137.toInt + 1))] <;> exact (v_X11_rekey_239_20 (K := K) (F := F) a G G6 x119 G_137 p0 p1 p2 l4_75 l4_127 l5_137 x10 x17 x24 x39 x55 N75 N127 N137 x148 x163 ha rp am t6 t10 c13 t17 c20 t24 c27 z36 z36a z36b t39 c42 t55 c58 z68 I75_0 I75_1 hm75 c78 t119 I127_0 I127_1 hm127 c131 I137_0 I137_1 I137_2 hm137 c141 t148 c151 z154 z154a t163 z168 c176)) (v_X11_rekey_239_21 (F := F) a G_137 rm) (by rw [(e236 : Int32.toInt x236 = (l5_137.toInt + 1))] <;> exact (z_X11_rekey_27 l5_137.toInt I137_0 c141)) (by rw [(e236 : Int32.toInt x236 = (l5_137.toInt + 1))] <;> exact (z_X11_rekey_28 l5_137.toInt x148.toInt (refA (G.2.1 (F a 10)) (l4_127.toInt) (p0.toInt)) t148 c151)) (by rw [(e236 : Int32.toInt x236 = (l5_137.toInt + 1))] <;> exact (z_X11_rekey_29 l5_137.toInt I137_0)) (by rw [(e236 : Int32.toInt x236 = (l5_137.toInt + 1))] <;> exact (z_X11_rekey_16 l5_137.toInt N137 hm137)) hT hS (lv_sub hl [2, 3, 4, 5, 6, 0] rfl)
                                · refine lv_aload_n hx hb dX11_rekey_179 rfl (lv_at hl 1 rfl) ?_
                                  refine gX11_1 S hK hT ha kf_X11_9 dX11_rekey_180 (fun _ _ => ?_)
                                  refine lv_iload hx hb dX11_rekey_183 (lv_at hl 0 rfl) ?_
                                  refine lv_iconst (v := 1) hx hb dX11_rekey_185 (by decide) ?_
                                  refine xi_iadd hx hb (rfl : Int32.toInt x163 = x163.toInt) ((by decide) : Int32.toInt 1 = (1 : Int)) dX11_rekey_186 (fun x186 t186 => ?_)
                                  refine lv_aload_n hx hb dX11_rekey_187 rfl (lv_at hl 1 rfl) ?_
                                  refine lv_iload hx hb dX11_rekey_188 (lv_at hl 5 rfl) ?_
                                  refine lv_iconst (v := 2) hx hb dX11_rekey_190 (by decide) ?_
                                  refine x_clp (x_runV (b := a) (As := [.int l4_127, .int 2]) (rest := [.int x186, .ref (F a 1)]) S (c_X11_of l E K F G_137 H a l4_127 2 ha (z_X11_rekey_21 l4_127.toInt I127_0 c131) (by decide)) mv_X11_of km_X11_165 rfl rfl ⟨Nat.le_of_ble_eq_true rfl, Nat.le_of_ble_eq_true rfl⟩ (rc_13 hK hT ha) hK (fun _ => XPh.blind) (fun U hU hW => XPh.at hK hz hS hT hU hW) rfl hl.1 (Nat.le_of_ble_eq_true rfl) dX11_rekey_191 ⟨Nat.le_of_ble_eq_true rfl, Nat.le_of_ble_eq_true rfl⟩) hS ?_
                                  rintro _ _ locs ⟨x191, rfl, t191⟩ hS
                                  have t191 : x191.toInt = (aI (G.2.1 (F a 10)) (10 * l4_127.toInt + 2)) := by rw [(show G_137.2.1 (F a 10) = G.2.1 (F a 10) from ((hF_137.2.1 _ (xn1 (xne_k hk9999m hk9999c (by decide)) xn0)).trans ((hF_127.2.1 _ (xn1 (xne_k hk9999m hk9999c (by decide)) xn0)).trans ((lc_c hG123 (xne_k hk9999m hk9999c (by decide))).trans ((hF_75.2.1 _ (xn1 (xne_k hk9999m hk9999c (by decide)) xn0)).trans ((hF69.2.1 _ (xn1 (xne_k hk9999m hk9999k (by decide)) (xn1 (xne_k hk9999m hk9999l (by decide)) xn0))).trans ((hF6.2.1 _ xn0).trans (ld_c hG2))))))))] at t191; exact t191
                                  refine xi_iadd hx hb (rfl : Int32.toInt x186 = x186.toInt) (t191 : Int32.toInt x191 = (aI (G.2.1 (F a 10)) (10 * l4_127.toInt + 2))) dX11_rekey_194 (fun x194 t194 => ?_)
                                  refine al_0 S hK hT hk9999c ar_30 (by decide) (z_X11_rekey_32 l5_137.toInt x163.toInt x186.toInt x194.toInt (aI (G.2.1 (F a 10)) (10 * l4_127.toInt + 0)) (aI (G.2.1 (F a 10)) (10 * l4_127.toInt + 1)) (aI (G.2.1 (F a 10)) (10 * l4_127.toInt + 2)) I137_0 c141 z154a t163 t186 t194) dX11_rekey_195 (fun x195 hv195 o195 => ?_)
                                  have hv195 : x195.toInt = (aI (G_137.2.1 (F a 1)) (0 + 4 * (30 * (aI (G.2.1 (F a 10)) (10 * l4_127.toInt + 1)) + l5_137.toInt) + 1 + (aI (G.2.1 (F a 10)) (10 * l4_127.toInt + 2)))) := hv195.trans (by rw [((rfl : Int32.toInt x194 = x194.toInt).trans (z_X11_rekey_33 l5_137.toInt x163.toInt x186.toInt x194.toInt (aI (G.2.1 (F a 10)) (10 * l4_127.toInt + 0)) (aI (G.2.1 (F a 10)) (10 * l4_127.toInt + 1)) (aI (G.2.1 (F a 10)) (10 * l4_127.toInt + 2)) I137_0 c141 z154a t163 t186 t194))])
                                  refine lv_iload_n hx hb dX11_rekey_196 rfl (lv_at hl 3 rfl) ?_
                                  refine xi_cne (tgt := 236) hx hb (hv195 : Int32.toInt x195 = (aI (G_137.2.1 (F a 1)) (0 + 4 * (30 * (aI (G.2.1 (F a 10)) (10 * l4_127.toInt + 1)) + l5_137.toInt) + 1 + (aI (G.2.1 (F a 10)) (10 * l4_127.toInt + 2))))) (rfl : Int32.toInt p1 = p1.toInt) dX11_rekey_197 (by decide) (fun c197 => ?_) (fun c197 => ?_)
                                  · refine xi_iinc (n := 1) (lv' := fun z9 => [(5, .int z9), (6, .int x163), (0, .ref a), (1, .int p0), (2, .int p1), (3, .int p2), (4, .int l4_127)]) (k := 6) hx hb (rfl : Int32.toInt l5_137 = l5_137.toInt) (by decide) dX11_rekey_236 hl rfl (by decide) (fun _ => rfl) (fun x236 ls t236 hl => ?_)
                                    have e236 : x236.toInt = (l5_137.toInt + 1) := (z_X11_rekey_26 l5_137.toInt x236.toInt I137_0 t236)
                                    have hl : lv_has ls 7 [(5, .int x236), (6, .int x163), (0, .ref a), (1, .int p0), (2, .int p1), (3, .int p2), (4, .int l4_127)] := hl
                                    refine lv_goto (tgt := 137) hx hb dX11_rekey_239 (by decide) ?_
                                    exact ih137 x236 G_137 _ _ _ (XFr.call XFr.rf hF_137 xm0 (xm1 0 rfl xm0) xm0) (by rw [(e236 : Int32.toInt x236 = (l5_137.toInt + 1))] <;> exact (v_X11_rekey_239_22 (K := K) (F := F) a G G6 x119 G_137 p0 p1 p2 l4_75 l4_127 l5_137 x10 x17 x24 x39 x55 N75 N127 N137 x148 x163 ha rp am t6 t10 c13 t17 c20 t24 c27 z36 z36a z36b t39 c42 t55 c58 z68 I75_0 I75_1 hm75 c78 t119 I127_0 I127_1 hm127 c131 I137_0 I137_1 I137_2 hm137 c141 t148 c151 z154 z154a t163 z168 c176 c197)) (v_X11_rekey_239_23 (F := F) a G_137 rm) (by rw [(e236 : Int32.toInt x236 = (l5_137.toInt + 1))] <;> exact (z_X11_rekey_27 l5_137.toInt I137_0 c141)) (by rw [(e236 : Int32.toInt x236 = (l5_137.toInt + 1))] <;> exact (z_X11_rekey_28 l5_137.toInt x148.toInt (refA (G.2.1 (F a 10)) (l4_127.toInt) (p0.toInt)) t148 c151)) (by rw [(e236 : Int32.toInt x236 = (l5_137.toInt + 1))] <;> exact (z_X11_rekey_29 l5_137.toInt I137_0)) (by rw [(e236 : Int32.toInt x236 = (l5_137.toInt + 1))] <;> exact (z_X11_rekey_16 l5_137.toInt N137 hm137)) hT hS (lv_sub hl [2, 3, 4, 5, 6, 0] rfl)
                                  · refine lv_aload_n hx hb dX11_rekey_200 rfl (lv_at hl 1 rfl) ?_
                                    refine gX11_1 S hK hT ha kf_X11_9 dX11_rekey_201 (fun _ _ => ?_)
                                    refine lv_iload hx hb dX11_rekey_204 (lv_at hl 0 rfl) ?_
                                    refine lv_iconst (v := 1) hx hb dX11_rekey_206 (by decide) ?_
                                    refine xi_iadd hx hb (rfl : Int32.toInt x163 = x163.toInt) ((by decide) : Int32.toInt 1 = (1 : Int)) dX11_rekey_207 (fun x207 t207 => ?_)
                                    refine lv_aload_n hx hb dX11_rekey_208 rfl (lv_at hl 1 rfl) ?_
                                    refine lv_iload hx hb dX11_rekey_209 (lv_at hl 5 rfl) ?_
                                    refine lv_iconst (v := 2) hx hb dX11_rekey_211 (by decide) ?_
                                    refine x_clp (x_runV (b := a) (As := [.int l4_127, .int 2]) (rest := [.int x207, .ref (F a 1)]) S (c_X11_of l E K F G_137 H a l4_127 2 ha (z_X11_rekey_21 l4_127.toInt I127_0 c131) (by decide)) mv_X11_of km_X11_165 rfl rfl ⟨Nat.le_of_ble_eq_true rfl, Nat.le_of_ble_eq_true rfl⟩ (rc_13 hK hT ha) hK (fun _ => XPh.blind) (fun U hU hW => XPh.at hK hz hS hT hU hW) rfl hl.1 (Nat.le_of_ble_eq_true rfl) dX11_rekey_212 ⟨Nat.le_of_ble_eq_true rfl, Nat.le_of_ble_eq_true rfl⟩) hS ?_
                                    rintro _ _ locs ⟨x212, rfl, t212⟩ hS
                                    have t212 : x212.toInt = (aI (G.2.1 (F a 10)) (10 * l4_127.toInt + 2)) := by rw [(show G_137.2.1 (F a 10) = G.2.1 (F a 10) from ((hF_137.2.1 _ (xn1 (xne_k hk9999m hk9999c (by decide)) xn0)).trans ((hF_127.2.1 _ (xn1 (xne_k hk9999m hk9999c (by decide)) xn0)).trans ((lc_c hG123 (xne_k hk9999m hk9999c (by decide))).trans ((hF_75.2.1 _ (xn1 (xne_k hk9999m hk9999c (by decide)) xn0)).trans ((hF69.2.1 _ (xn1 (xne_k hk9999m hk9999k (by decide)) (xn1 (xne_k hk9999m hk9999l (by decide)) xn0))).trans ((hF6.2.1 _ xn0).trans (ld_c hG2))))))))] at t212; exact t212
                                    refine xi_iadd hx hb (rfl : Int32.toInt x207 = x207.toInt) (t212 : Int32.toInt x212 = (aI (G.2.1 (F a 10)) (10 * l4_127.toInt + 2))) dX11_rekey_215 (fun x215 t215 => ?_)
                                    refine lv_aload_n hx hb dX11_rekey_216 rfl (lv_at hl 1 rfl) ?_
                                    refine lv_iload hx hb dX11_rekey_217 (lv_at hl 5 rfl) ?_
                                    refine lv_bipush (v := 8) hx hb dX11_rekey_219 (by decide) ?_
                                    refine x_clp (x_runV (b := a) (As := [.int l4_127, .int 8]) (rest := [.int x215, .ref (F a 1)]) S (c_X11_of l E K F G_137 H a l4_127 8 ha (z_X11_rekey_21 l4_127.toInt I127_0 c131) (by decide)) mv_X11_of km_X11_165 rfl rfl ⟨Nat.le_of_ble_eq_true rfl, Nat.le_of_ble_eq_true rfl⟩ (rc_13 hK hT ha) hK (fun _ => XPh.blind) (fun U hU hW => XPh.at hK hz hS hT hU hW) rfl hl.1 (Nat.le_of_ble_eq_true rfl) dX11_rekey_221 ⟨Nat.le_of_ble_eq_true rfl, Nat.le_of_ble_eq_true rfl⟩) hS ?_
                                    rintro _ _ locs ⟨x221, rfl, t221⟩ hS
                                    have t221 : x221.toInt = (aI (G.2.1 (F a 10)) (10 * l4_127.toInt + 8)) := by rw [(show G_137.2.1 (F a 10) = G.2.1 (F a 10) from ((hF_137.2.1 _ (xn1 (xne_k hk9999m hk9999c (by decide)) xn0)).trans ((hF_127.2.1 _ (xn1 (xne_k hk9999m hk9999c (by decide)) xn0)).trans ((lc_c hG123 (xne_k hk9999m hk9999c (by decide))).trans ((hF_75.2.1 _ (xn1 (xne_k hk9999m hk9999c (by decide)) xn0)).trans ((hF69.2.1 _ (xn1 (xne_k hk9999m hk9999k (by decide)) (xn1 (xne_k hk9999m hk9999l (by decide)) xn0))).trans ((hF6.2.1 _ xn0).trans (ld_c hG2))))))))] at t221; exact t221
                                    refine lv_iconst (v := 1) hx hb dX11_rekey_224 (by decide) ?_
                                    refine xi_cne (tgt := 232) hx hb (t221 : Int32.toInt x221 = (aI (G.2.1 (F a 10)) (10 * l4_127.toInt + 8))) ((by decide) : Int32.toInt 1 = (1 : Int)) dX11_rekey_225 (by decide) (fun c225 => ?_) (fun c225 => ?_)
                                    · refine lv_sipush (v := (-1000)) hx hb dX11_rekey_232 (by decide) ?_
                                      refine as_0 (x := (-1000)) S hK hT hS hk9999c ar_30 aw_30 (by decide) (z_X11_rekey_32 l5_137.toInt x163.toInt x207.toInt x215.toInt (aI (G.2.1 (F a 10)) (10 * l4_127.toInt + 0)) (aI (G.2.1 (F a 10)) (10 * l4_127.toInt + 1)) (aI (G.2.1 (F a 10)) (10 * l4_127.toInt + 2)) I137_0 c141 z154a t163 t207 t215) dX11_rekey_235 (fun H locs hT hS => ?_)
                                      obtain ⟨G235, hG235⟩ : ∃ GG : XG, GG = cput G_137 (F a 1) x215.toNatClampNeg (-1000) := ⟨_, rfl⟩
                                      rw [← hG235] at hT
                                      refine xi_iinc (n := 1) (lv' := fun z9 => [(5, .int z9), (6, .int x163), (0, .ref a), (1, .int p0), (2, .int p1), (3, .int p2), (4, .int l4_127)]) (k := 6) hx hb (rfl : Int32.toInt l5_137 = l5_137.toInt) (by decide) dX11_rekey_236 hl rfl (by decide) (fun _ => rfl) (fun x236 ls t236 hl => ?_)
                                      have e236 : x236.toInt = (l5_137.toInt + 1) := (z_X11_rekey_26 l5_137.toInt x236.toInt I137_0 t236)
                                      have hl : lv_has ls 7 [(5, .int x236), (6, .int x163), (0, .ref a), (1, .int p0), (2, .int p1), (3, .int p2), (4, .int l4_127)] := hl
                                      refine lv_goto (tgt := 137) hx hb dX11_rekey_239 (by decide) ?_
                                      exact ih137 x236 G235 _ _ _ (by rw [hG235]; exact XFr.cput (XFr.call XFr.rf hF_137 xm0 (xm1 0 rfl xm0) xm0) (List.mem_of_getElem? (i := 0) rfl)) (by rw [(e236 : Int32.toInt x236 = (l5_137.toInt + 1))] <;> exact (v_X11_rekey_239_24 (K := K) (F := F) a G G6 x119 G_137 G235 x215 p0 p1 p2 l4_75 l4_127 l5_137 x10 x17 x24 x39 x55 N75 N127 N137 x148 x163 x207 ha hG235 rp am t6 t10 c13 t17 c20 t24 c27 z36 z36a z36b t39 c42 t55 c58 z68 I75_0 I75_1 hm75 c78 t119 I127_0 I127_1 hm127 c131 I137_0 I137_1 I137_2 hm137 c141 t148 c151 z154 z154a t163 z168 c176 c197 t207 t215 c225)) (v_X11_rekey_239_25 (K := K) (F := F) a G G6 x119 G_137 G235 x215 p0 p1 p2 l4_75 l4_127 l5_137 x10 x17 x24 x39 x55 N75 N127 N137 x148 x163 x207 ha hG235 rm am t6 t10 c13 t17 c20 t24 c27 z36 z36a z36b t39 c42 t55 c58 z68 I75_0 I75_1 hm75 c78 t119 I127_0 I127_1 hm127 c131 I137_0 I137_1 I137_2 hm137 c141 t148 c151 z154 z154a t163 z168 c176 c197 t207 t215 c225) (by rw [(e236 : Int32.toInt x236 = (l5_137.toInt + 1))] <;> exact (z_X11_rekey_27 l5_137.toInt I137_0 c141)) (by rw [(e236 : Int32.toInt x236 = (l5_137.toInt + 1))] <;> exact (z_X11_rekey_28 l5_137.toInt x148.toInt (refA (G.2.1 (F a 10)) (l4_127.toInt) (p0.toInt)) t148 c151)) (by rw [(e236 : Int32.toInt x236 = (l5_137.toInt + 1))] <;> exact (z_X11_rekey_29 l5_137.toInt I137_0)) (by rw [(e236 : Int32.toInt x236 = (l5_137.toInt + 1))] <;> exact (z_X11_rekey_16 l5_137.toInt N137 hm137)) hT hS (lv_sub hl [2, 3, 4, 5, 6, 0] rfl)
                                    · refine lv_iload_n hx hb dX11_rekey_228 rfl (lv_at hl 4 rfl) ?_
                                      refine lv_goto (tgt := 235) hx hb dX11_rekey_229 (by decide) ?_
                                      refine as_0 (x := p2) S hK hT hS hk9999c ar_30 aw_30 (by decide) (z_X11_rekey_32 l5_137.toInt x163.toInt x207.toInt x215.toInt (aI (G.2.1 (F a 10)) (10 * l4_127.toInt + 0)) (aI (G.2.1 (F a 10)) (10 * l4_127.toInt + 1)) (aI (G.2.1 (F a 10)) (10 * l4_127.toInt + 2)) I137_0 c141 z154a t163 t207 t215) dX11_rekey_235 (fun H locs hT hS => ?_)
                                      obtain ⟨G235, hG235⟩ : ∃ GG : XG, GG = cput G_137 (F a 1) x215.toNatClampNeg p2 := ⟨_, rfl⟩
                                      rw [← hG235] at hT
                                      refine xi_iinc (n := 1) (lv' := fun z9 => [(5, .int z9), (6, .int x163), (0, .ref a), (1, .int p0), (2, .int p1), (3, .int p2), (4, .int l4_127)]) (k := 6) hx hb (rfl : Int32.toInt l5_137 = l5_137.toInt) (by decide) dX11_rekey_236 hl rfl (by decide) (fun _ => rfl) (fun x236 ls t236 hl => ?_)
                                      have e236 : x236.toInt = (l5_137.toInt + 1) := (z_X11_rekey_26 l5_137.toInt x236.toInt I137_0 t236)
                                      have hl : lv_has ls 7 [(5, .int x236), (6, .int x163), (0, .ref a), (1, .int p0), (2, .int p1), (3, .int p2), (4, .int l4_127)] := hl
                                      refine lv_goto (tgt := 137) hx hb dX11_rekey_239 (by decide) ?_
                                      exact ih137 x236 G235 _ _ _ (by rw [hG235]; exact XFr.cput (XFr.call XFr.rf hF_137 xm0 (xm1 0 rfl xm0) xm0) (List.mem_of_getElem? (i := 0) rfl)) (by rw [(e236 : Int32.toInt x236 = (l5_137.toInt + 1))] <;> exact (v_X11_rekey_239_26 (K := K) (F := F) a G G6 x119 G_137 G235 x215 p2 p0 p1 l4_75 l4_127 l5_137 x10 x17 x24 x39 x55 N75 N127 N137 x148 x163 x207 ha hG235 rp am t6 t10 c13 t17 c20 t24 c27 z36 z36a z36b t39 c42 t55 c58 z68 I75_0 I75_1 hm75 c78 t119 I127_0 I127_1 hm127 c131 I137_0 I137_1 I137_2 hm137 c141 t148 c151 z154 z154a t163 z168 c176 c197 t207 t215 c225)) (v_X11_rekey_239_27 (K := K) (F := F) a G G6 x119 G_137 G235 x215 p2 p0 p1 l4_75 l4_127 l5_137 x10 x17 x24 x39 x55 N75 N127 N137 x148 x163 x207 ha hG235 rm am t6 t10 c13 t17 c20 t24 c27 z36 z36a z36b t39 c42 t55 c58 z68 I75_0 I75_1 hm75 c78 t119 I127_0 I127_1 hm127 c131 I137_0 I137_1 I137_2 hm137 c141 t148 c151 z154 z154a t163 z168 c176 c197 t207 t215 c225) (by rw [(e236 : Int32.toInt x236 = (l5_137.toInt + 1))] <;> exact (z_X11_rekey_27 l5_137.toInt I137_0 c141)) (by rw [(e236 : Int32.toInt x236 = (l5_137.toInt + 1))] <;> exact (z_X11_rekey_28 l5_137.toInt x148.toInt (refA (G.2.1 (F a 10)) (l4_127.toInt) (p0.toInt)) t148 c151)) (by rw [(e236 : Int32.toInt x236 = (l5_137.toInt + 1))] <;> exact (z_X11_rekey_29 l5_137.toInt I137_0)) (by rw [(e236 : Int32.toInt x236 = (l5_137.toInt + 1))] <;> exact (z_X11_rekey_16 l5_137.toInt N137 hm137)) hT hS (lv_sub hl [2, 3, 4, 5, 6, 0] rfl)
                        exact L137 4294967297 0 G_127 _ _ _ XFr.rf (v_X11_rekey_135_28 (F := F) a G G_127 p0 p1 p2 l4_127 mv) (v_X11_rekey_135_29 (F := F) a G_127 rm) (by decide) (z_X11_rekey_53 (refA (G.2.1 (F a 10)) (l4_127.toInt) (p0.toInt))) (by decide) (by decide) hT hS (lv_sub hl [1, 2, 3, 4, 5, 0] rfl)
                  exact L127 4294967297 0 G123 _ _ _ XFr.rf (v_X11_rekey_125_30 (F := F) G123 G_75 a x119 G p0 p1 p2 l4_75 x39 x55 hG123 mp z36 z36a z36b t39 c42 t55 c58 z68 I75_0 c78 t119) (v_X11_rekey_125_31 (F := F) G123 G_75 a x119 G p0 p1 p2 l4_75 x39 x55 hG123 hM mp z36 z36a z36b t39 c42 t55 c58 z68 I75_0 c78 t119) (by decide) (by decide) (by decide) hT hS (lv_sub hl [1, 2, 3, 4, 0] rfl)
                · refine lv_aload_n hx hb dX11_rekey_81 rfl (lv_at hl 0 rfl) ?_
                  refine gX11_1 S hK hT ha kf_X11_9 dX11_rekey_82 (fun _ _ => ?_)
                  refine lv_iload_n hx hb dX11_rekey_85 rfl (lv_at hl 1 rfl) ?_
                  refine lv_iload_n hx hb dX11_rekey_86 rfl (lv_at hl 3 rfl) ?_
                  refine x_clp (x_runS (As := [.int p0, .int p2]) (rest := [.ref (F a 1)]) S (c_X11_at l E K F G_75 H p0 p2) ms_X11_at km_X11_156 rfl rfl ⟨Nat.le_of_ble_eq_true rfl, Nat.le_of_ble_eq_true rfl⟩ hK (fun _ => XPh.blind) (fun U hU hW => XPh.at hK hz hS hT hU hW) rfl hl.1 (Nat.le_of_ble_eq_true rfl) dX11_rekey_87 ⟨Nat.le_of_ble_eq_true rfl, Nat.le_of_ble_eq_true rfl⟩) hS ?_
                  rintro _ _ locs ⟨x87, rfl, t87⟩ hS
                  have t87 : 0 ≤ p0.toInt ∧ p0.toInt ≤ 2 ∧ 0 ≤ p2.toInt ∧ p2.toInt ≤ 29 → x87.toInt = 4 * (30 * p0.toInt + p2.toInt) := t87
                  refine lv_iload hx hb dX11_rekey_90 (lv_at hl 4 rfl) ?_
                  refine xi_iadd hx hb (rfl : Int32.toInt x87 = x87.toInt) (rfl : Int32.toInt l4_75 = l4_75.toInt) dX11_rekey_92 (fun x92 t92 => ?_)
                  refine lv_aload_n hx hb dX11_rekey_93 rfl (lv_at hl 0 rfl) ?_
                  refine gX11_1 S hK hT ha kf_X11_9 dX11_rekey_94 (fun _ _ => ?_)
                  refine lv_iload_n hx hb dX11_rekey_97 rfl (lv_at hl 1 rfl) ?_
                  refine lv_iload_n hx hb dX11_rekey_98 rfl (lv_at hl 2 rfl) ?_
                  refine x_clp (x_runS (As := [.int p0, .int p1]) (rest := [.ref (F a 1), .int x92, .ref (F a 1)]) S (c_X11_at l E K F G_75 H p0 p1) ms_X11_at km_X11_156 rfl rfl ⟨Nat.le_of_ble_eq_true rfl, Nat.le_of_ble_eq_true rfl⟩ hK (fun _ => XPh.blind) (fun U hU hW => XPh.at hK hz hS hT hU hW) rfl hl.1 (Nat.le_of_ble_eq_true rfl) dX11_rekey_99 ⟨Nat.le_of_ble_eq_true rfl, Nat.le_of_ble_eq_true rfl⟩) hS ?_
                  rintro _ _ locs ⟨x99, rfl, t99⟩ hS
                  have t99 : 0 ≤ p0.toInt ∧ p0.toInt ≤ 2 ∧ 0 ≤ p1.toInt ∧ p1.toInt ≤ 29 → x99.toInt = 4 * (30 * p0.toInt + p1.toInt) := t99
                  refine lv_iload hx hb dX11_rekey_102 (lv_at hl 4 rfl) ?_
                  refine xi_iadd hx hb (rfl : Int32.toInt x99 = x99.toInt) (rfl : Int32.toInt l4_75 = l4_75.toInt) dX11_rekey_104 (fun x104 t104 => ?_)
                  refine al_0 S hK hT hk9999c ar_30 (by decide) (z_X11_rekey_54 l4_75.toInt p0.toInt p1.toInt x104.toInt x99.toInt z36 z36a I75_0 c78 t99 t104) dX11_rekey_105 (fun x105 hv105 o105 => ?_)
                  have hv105 : x105.toInt = (aI (G_75.2.1 (F a 1)) (0 + 4 * (30 * p0.toInt + p1.toInt) + l4_75.toInt)) := hv105.trans (by rw [((rfl : Int32.toInt x104 = x104.toInt).trans (z_X11_rekey_55 l4_75.toInt p0.toInt p1.toInt x104.toInt x99.toInt z36 z36a I75_0 t99 t104))])
                  refine as_0 (x := x105) S hK hT hS hk9999c ar_30 aw_30 (by decide) (z_X11_rekey_56 l4_75.toInt p0.toInt p2.toInt x87.toInt x92.toInt z36 z36b I75_0 c78 t87 t92) dX11_rekey_106 (fun H locs hT hS => ?_)
                  obtain ⟨G106, hG106⟩ : ∃ GG : XG, GG = cput G_75 (F a 1) x92.toNatClampNeg x105 := ⟨_, rfl⟩
                  rw [← hG106] at hT
                  refine xi_iinc (n := 1) (lv' := fun z9 => [(4, .int z9), (0, .ref a), (1, .int p0), (2, .int p1), (3, .int p2)]) (k := 4) hx hb (rfl : Int32.toInt l4_75 = l4_75.toInt) (by decide) dX11_rekey_107 hl rfl (by decide) (fun _ => rfl) (fun x107 ls t107 hl => ?_)
                  have e107 : x107.toInt = (l4_75.toInt + 1) := (z_X11_rekey_57 l4_75.toInt x107.toInt I75_0 t107)
                  have hl : lv_has ls 7 [(4, .int x107), (0, .ref a), (1, .int p0), (2, .int p1), (3, .int p2)] := hl
                  refine lv_goto (tgt := 75) hx hb dX11_rekey_110 (by decide) ?_
                  exact ih75 x107 G106 _ _ _ (by rw [hG106]; exact XFr.cput (XFr.call XFr.rf hF_75 xm0 (xm1 0 rfl xm0) xm0) (List.mem_of_getElem? (i := 0) rfl)) (by rw [(e107 : Int32.toInt x107 = (l4_75.toInt + 1))] <;> exact (v_X11_rekey_110_32 (K := K) (F := F) a G G6 G_75 G106 x92 x105 p0 p1 p2 l4_75 x10 x17 x24 x39 x55 N75 x87 x99 ha hG106 mp hv105 am t6 t10 c13 t17 c20 t24 c27 z36 z36a z36b t39 c42 t55 c58 z68 I75_0 I75_1 hm75 c78 t87 t92 t99)) (by rw [(e107 : Int32.toInt x107 = (l4_75.toInt + 1))] <;> exact (z_X11_rekey_58 l4_75.toInt I75_0 c78)) (by rw [(e107 : Int32.toInt x107 = (l4_75.toInt + 1))] <;> exact (z_X11_rekey_59 l4_75.toInt I75_0)) (by rw [(e107 : Int32.toInt x107 = (l4_75.toInt + 1))] <;> exact (z_X11_rekey_16 l4_75.toInt N75 hm75)) hT hS (lv_sub hl [1, 2, 3, 4, 0] rfl)
            exact L75 4294967297 0 G69 _ _ _ XFr.rf (by rw [(show G69.2.1 (F a 1) = G.2.1 (F a 1) from ((hF69.2.1 _ (xn1 (xne_k hk9999c hk9999k (by decide)) (xn1 (xne_k hk9999c hk9999l (by decide)) xn0))).trans ((hF6.2.1 _ xn0).trans (ld_c hG2))))] <;> exact (v_X11_rekey_73_33 (K := K) (F := F) a G G6 x10 p0 x17 p1 x24 p2 x39 x55 ha am t6 t10 c13 t17 c20 t24 c27 z36 z36a z36b t39 c42 t55 c58 z68)) (by decide) (by decide) (by decide) hT hS (lv_sub hl [1, 2, 3, 4, 0] rfl)
          · refine lv_aload_n hx hb dX11_rekey_61 rfl (lv_at hl 0 rfl) ?_
            refine lv_bipush (v := (-4)) hx hb dX11_rekey_62 (by decide) ?_
            refine x_cl0 (x_runV (b := a) (As := [.int (-4)]) (rest := []) S (c_X11_refuses l E K F G6 a (-4) ha) mv_X11_refuses km_X11_325 rfl rfl ⟨Nat.le_of_ble_eq_true rfl, Nat.le_of_ble_eq_true rfl⟩ (rc_13 hK hT ha) hK (fun _ => XP.blind) (fun U hU hW => XP.at hK hz hS hT hU hW) rfl hl.1 (Nat.le_of_ble_eq_true rfl) dX11_rekey_64 ⟨Nat.le_of_ble_eq_true rfl, Nat.le_of_ble_eq_true rfl⟩) hS ?_
            rintro _ G64 H locs ⟨x64, rfl, hF64, t64⟩ hT hS
            have t64 : x64.toInt = (-4 : Int) := by rw [((by decide) : Int32.toInt (-4) = (-4 : Int))] at t64; exact t64
            exact x_ri hx hb hr hlk hQ (Nat.le_of_ble_eq_true rfl) (Nat.le_of_ble_eq_true rfl) hS dX11_rekey_67 G64 ⟨_, rfl, (XFr.call (XFr.call (by rw [hG2]; exact XFr.dput XFr.rf (List.mem_of_getElem? (i := 9) rfl)) hF6 (xm1 2 rfl (xm1 3 rfl (xm1 4 rfl xm0))) xm0 xm0) hF64 xm0 (xm1 4 rfl xm0) xm0), (by rw [(show (G64.1 a 23).toInt = ((G6.1 a 23).toInt) from (congrArg Int32.toInt (hF64.1 _ _ xn0)).trans (rfl : Int32.toInt (G6.1 a 23) = ((G6.1 a 23).toInt))), (show (G64.1 a 43).toInt = ((G.1 a 43).toInt) from (congrArg Int32.toInt ((hF64.1 _ _ xn0).trans ((hF6.1 _ _ (xnj (by decide) (xnj (by decide) (xnj (by decide) xn0)))).trans (ld_j hG2 (by decide))))).trans (rfl : Int32.toInt (G.1 a 43) = ((G.1 a 43).toInt)))] <;> exact (z_X11_rekey_1 ((G.1 a 43).toInt) ((G6.1 a 20).toInt) ((G6.1 a 21).toInt) ((G6.1 a 23).toInt) am t6)), (by rw [(t64 : Int32.toInt x64 = (-4 : Int))] <;> exact (v_X11_rekey_67_34 (F := F) p0 p1 p2 x39 G a x55 G64 z36 z36a z36b t39 c42 t55 c58 ((hF64.2.1 _ (xn1 (xne_k hk9999c hk9999d (by decide)) xn0)).trans ((hF6.2.1 _ xn0).trans (ld_c hG2))))), (v_X11_rekey_67_35 (F := F) a G G64 hM ((hF64.2.1 _ (xn1 (xne_k hk9999c hk9999d (by decide)) xn0)).trans ((hF6.2.1 _ xn0).trans (ld_c hG2))))⟩ hT
        · refine lv_aload_n hx hb dX11_rekey_45 rfl (lv_at hl 0 rfl) ?_
          refine lv_bipush (v := (-2)) hx hb dX11_rekey_46 (by decide) ?_
          refine x_cl0 (x_runV (b := a) (As := [.int (-2)]) (rest := []) S (c_X11_refuses l E K F G6 a (-2) ha) mv_X11_refuses km_X11_325 rfl rfl ⟨Nat.le_of_ble_eq_true rfl, Nat.le_of_ble_eq_true rfl⟩ (rc_13 hK hT ha) hK (fun _ => XP.blind) (fun U hU hW => XP.at hK hz hS hT hU hW) rfl hl.1 (Nat.le_of_ble_eq_true rfl) dX11_rekey_48 ⟨Nat.le_of_ble_eq_true rfl, Nat.le_of_ble_eq_true rfl⟩) hS ?_
          rintro _ G48 H locs ⟨x48, rfl, hF48, t48⟩ hT hS
          have t48 : x48.toInt = (-2 : Int) := by rw [((by decide) : Int32.toInt (-2) = (-2 : Int))] at t48; exact t48
          exact x_ri hx hb hr hlk hQ (Nat.le_of_ble_eq_true rfl) (Nat.le_of_ble_eq_true rfl) hS dX11_rekey_51 G48 ⟨_, rfl, (XFr.call (XFr.call (by rw [hG2]; exact XFr.dput XFr.rf (List.mem_of_getElem? (i := 9) rfl)) hF6 (xm1 2 rfl (xm1 3 rfl (xm1 4 rfl xm0))) xm0 xm0) hF48 xm0 (xm1 4 rfl xm0) xm0), (by rw [(show (G48.1 a 23).toInt = ((G6.1 a 23).toInt) from (congrArg Int32.toInt (hF48.1 _ _ xn0)).trans (rfl : Int32.toInt (G6.1 a 23) = ((G6.1 a 23).toInt))), (show (G48.1 a 43).toInt = ((G.1 a 43).toInt) from (congrArg Int32.toInt ((hF48.1 _ _ xn0).trans ((hF6.1 _ _ (xnj (by decide) (xnj (by decide) (xnj (by decide) xn0)))).trans (ld_j hG2 (by decide))))).trans (rfl : Int32.toInt (G.1 a 43) = ((G.1 a 43).toInt)))] <;> exact (z_X11_rekey_1 ((G.1 a 43).toInt) ((G6.1 a 20).toInt) ((G6.1 a 21).toInt) ((G6.1 a 23).toInt) am t6)), (by rw [(t48 : Int32.toInt x48 = (-2 : Int))] <;> exact (v_X11_rekey_51_36 (F := F) p0 p1 p2 x39 G a G48 z36 z36a z36b t39 c42 ((hF48.2.1 _ (xn1 (xne_k hk9999c hk9999d (by decide)) xn0)).trans ((hF6.2.1 _ xn0).trans (ld_c hG2))))), (v_X11_rekey_51_37 (F := F) a G G48 hM ((hF48.2.1 _ (xn1 (xne_k hk9999c hk9999d (by decide)) xn0)).trans ((hF6.2.1 _ xn0).trans (ld_c hG2))))⟩ hT
      · refine lv_aload_n hx hb dX11_rekey_30 rfl (lv_at hl 0 rfl) ?_
        refine lv_iconst (v := (-1)) hx hb dX11_rekey_31 (by decide) ?_
        refine x_cl0 (x_runV (b := a) (As := [.int (-1)]) (rest := []) S (c_X11_refuses l E K F G6 a (-1) ha) mv_X11_refuses km_X11_325 rfl rfl ⟨Nat.le_of_ble_eq_true rfl, Nat.le_of_ble_eq_true rfl⟩ (rc_13 hK hT ha) hK (fun _ => XP.blind) (fun U hU hW => XP.at hK hz hS hT hU hW) rfl hl.1 (Nat.le_of_ble_eq_true rfl) dX11_rekey_32 ⟨Nat.le_of_ble_eq_true rfl, Nat.le_of_ble_eq_true rfl⟩) hS ?_
        rintro _ G32 H locs ⟨x32, rfl, hF32, t32⟩ hT hS
        have t32 : x32.toInt = (-1 : Int) := by rw [((by decide) : Int32.toInt (-1) = (-1 : Int))] at t32; exact t32
        exact x_ri hx hb hr hlk hQ (Nat.le_of_ble_eq_true rfl) (Nat.le_of_ble_eq_true rfl) hS dX11_rekey_35 G32 ⟨_, rfl, (XFr.call (XFr.call (by rw [hG2]; exact XFr.dput XFr.rf (List.mem_of_getElem? (i := 9) rfl)) hF6 (xm1 2 rfl (xm1 3 rfl (xm1 4 rfl xm0))) xm0 xm0) hF32 xm0 (xm1 4 rfl xm0) xm0), (by rw [(show (G32.1 a 23).toInt = ((G6.1 a 23).toInt) from (congrArg Int32.toInt (hF32.1 _ _ xn0)).trans (rfl : Int32.toInt (G6.1 a 23) = ((G6.1 a 23).toInt))), (show (G32.1 a 43).toInt = ((G.1 a 43).toInt) from (congrArg Int32.toInt ((hF32.1 _ _ xn0).trans ((hF6.1 _ _ (xnj (by decide) (xnj (by decide) (xnj (by decide) xn0)))).trans (ld_j hG2 (by decide))))).trans (rfl : Int32.toInt (G.1 a 43) = ((G.1 a 43).toInt)))] <;> exact (z_X11_rekey_1 ((G.1 a 43).toInt) ((G6.1 a 20).toInt) ((G6.1 a 21).toInt) ((G6.1 a 23).toInt) am t6)), (by rw [(t32 : Int32.toInt x32 = (-1 : Int))] <;> exact (v_X11_rekey_35_38 (F := F) x24 p2 G32 a G p0 p1 t24 c27 ((hF32.2.1 _ (xn1 (xne_k hk9999c hk9999d (by decide)) xn0)).trans ((hF6.2.1 _ xn0).trans (ld_c hG2))))), (v_X11_rekey_35_39 (F := F) a G G32 hM ((hF32.2.1 _ (xn1 (xne_k hk9999c hk9999d (by decide)) xn0)).trans ((hF6.2.1 _ xn0).trans (ld_c hG2))))⟩ hT
/-! a question of a rule that is not late fails -/
def PFl (f : Nat → Int32) (r : Int → Int) : Prop := ∃ q s : Int, (0 ≤ q ∧ q ≤ 11) ∧ aI f (10 * q + 0) ≠ -1 ∧ aI f (10 * q + 6) = 0 ∧ sbj (aI f (10 * q + 0)) s ∧ fzq f r q s = 1
theorem ordN_all {pr : Nat → Bool} {rk : Nat → Int} {n q : Nat} (hq : q < n) (hp : pr q = true) : ∃ i, i < (ordN pr rk n).1 ∧ (ordN pr rk n).2 i = q := by
  induction n with
  | zero => omega
  | succ n ih =>
    cases hn : pr n with
    | false =>
      rw [ordN_f hn]
      exact ih (by
        have : q ≠ n := fun e => by rw [e, hn] at hp; cases hp
        omega)
    | true =>
      rw [ordN_t hn]
      have hpos : posR (fun i => rk ((ordN pr rk n).2 i)) (rk n) (ordN pr rk n).1 ≤ (ordN pr rk n).1 := posR_le _ _ _
      by_cases e : q = n
      · subst e
        refine ⟨posR (fun i => rk ((ordN pr rk q).2 i)) (rk q) (ordN pr rk q).1, Nat.lt_succ_of_le hpos, ?_⟩
        show insF _ _ _ _ = q
        unfold insF
        simp
      · obtain ⟨i, h1, h2⟩ := ih (by omega)
        by_cases g : i < posR (fun i => rk ((ordN pr rk n).2 i)) (rk n) (ordN pr rk n).1
        · refine ⟨i, Nat.lt_succ_of_lt h1, ?_⟩
          show insF _ _ _ _ = q
          unfold insF
          rw [if_pos g]
          exact h2
        · refine ⟨i + 1, Nat.succ_lt_succ h1, ?_⟩
          show insF _ _ _ _ = q
          unfold insF
          rw [if_neg (by omega), if_neg (by omega)]
          exact h2
