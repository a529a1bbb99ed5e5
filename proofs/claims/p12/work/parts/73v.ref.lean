theorem v_X11_fresh_24_1 {K : Nat → Nat} {F : Nat → Nat → Nat} (a : Nat) (G : XG) (p0 : Int32) (x7 : Int32) (p1 : Int32)
    (ha : K a = 13)
    (m0 : 0 ≤ ((G.1 a 7).toInt) ∧ ((G.1 a 7).toInt) ≤ 8)
    (t7 : (((G.1 a 6).toInt) ≠ 0 ∧ 0 ≤ p0.toInt ∧ p0.toInt ≤ ((G.1 a 7).toInt) - 1 ∧ x7.toInt = 1) ∨ (¬ (((G.1 a 6).toInt) ≠ 0 ∧ 0 ≤ p0.toInt ∧ p0.toInt ≤ ((G.1 a 7).toInt) - 1) ∧ x7.toInt = 0))
    (c10 : x7.toInt = 0) :
    ((¬ (((G.1 a 6).toInt) ≠ 0 ∧ 0 ≤ p0.toInt ∧ p0.toInt ≤ ((G.1 a 7).toInt) - 1) ∨ p1.toInt < 0 ∨ 1 < p1.toInt) ∧ (-1 : Int) = -1) ∨ ((((G.1 a 6).toInt) ≠ 0 ∧ 0 ≤ p0.toInt ∧ p0.toInt ≤ ((G.1 a 7).toInt) - 1) ∧ (0 ≤ p1.toInt ∧ p1.toInt ≤ 1) ∧ (-1 : Int) = frA (G.2.1 (F a 10)) (mw (G.2.1 (F a 1)) 0) (mw (G.2.1 (F a 2)) 0) (mw (G.2.1 (F a 3)) (360 * p0.toInt)) p1.toInt 12) := by
  exact Or.inl ⟨by omega, rfl⟩
theorem v_X11_fresh_26_2 {F : Nat → Nat → Nat} (a : Nat) (G2 : XG) (G : XG)
    (hR : RV (G.2.1 (F a 10)))
    (c_G2_F_a_10 : G2.2.1 (F a 10) = G.2.1 (F a 10)) :
    RV (G2.2.1 (F a 10)) := by simp only [c_G2_F_a_10]; assumption
theorem v_X11_fresh_26_3 {F : Nat → Nat → Nat} (a : Nat) (G2 : XG) (G : XG)
    (hM : RM (G.2.1 (F a 1)) (0))
    (hB : RM (G.2.1 (F a 2)) 0)
    (c_G2_F_a_1 : G2.2.1 (F a 1) = G.2.1 (F a 1)) :
    RM (G2.2.1 (F a 1)) (0) := by simp only [c_G2_F_a_1]; assumption
theorem v_X11_fresh_26_4 {F : Nat → Nat → Nat} (a : Nat) (G2 : XG) (G : XG)
    (hM : RM (G.2.1 (F a 1)) (0))
    (hB : RM (G.2.1 (F a 2)) 0)
    (c_G2_F_a_2 : G2.2.1 (F a 2) = G.2.1 (F a 2)) :
    RM (G2.2.1 (F a 2)) 0 := by simp only [c_G2_F_a_2]; assumption
theorem v_X11_fresh_43_5 {F : Nat → Nat → Nat} (a : Nat) (G : XG) (G26 : XG)
    (hR : RV (G.2.1 (F a 10)))
    (c_G26_F_a_10 : G26.2.1 (F a 10) = G.2.1 (F a 10)) :
    RV (G26.2.1 (F a 10)) := by simp only [c_G26_F_a_10]; assumption
theorem v_X11_fresh_43_6 {F : Nat → Nat → Nat} (G : XG) (a : Nat) (p0 : Int32) (x7 : Int32) (G26 : XG)
    (hmk : ∀ m : Int, 0 ≤ m → m < ((G.1 a 7).toInt) → RM (G.2.1 (F a 3)) (360 * m))
    (m0 : 0 ≤ ((G.1 a 7).toInt) ∧ ((G.1 a 7).toInt) ≤ 8)
    (t7 : (((G.1 a 6).toInt) ≠ 0 ∧ 0 ≤ p0.toInt ∧ p0.toInt ≤ ((G.1 a 7).toInt) - 1 ∧ x7.toInt = 1) ∨ (¬ (((G.1 a 6).toInt) ≠ 0 ∧ 0 ≤ p0.toInt ∧ p0.toInt ≤ ((G.1 a 7).toInt) - 1) ∧ x7.toInt = 0))
    (c10 : ¬ (x7.toInt = 0))
    (c_G26_F_a_3 : G26.2.1 (F a 3) = G.2.1 (F a 3)) :
    RM (G26.2.1 (F a 3)) ((360 : Int) * p0.toInt) := by
  rw [c_G26_F_a_3]; exact hmk p0.toInt (by omega) (by omega)
theorem v_X11_fresh_208_7 {K : Nat → Nat} {F : Nat → Nat → Nat} (a : Nat) (G2 : XG) (G : XG) (G26 : XG) (G43 : XG) (p0 : Int32) (x7 : Int32) (x17 : Int32) (p1 : Int32) (l4_51 : Int32) (l3_51 : Int32) (N51 : Nat)
    (ha : K a = 13)
    (oq26a : ((G.1 a 6).toInt) ≠ 0 → LSt (G.2.1 (F a 10)) (G26.2.1 (F a 11)) (mw (G.2.1 (F a 1)) 0) 12 ∧ LSt (G.2.1 (F a 10)) (G26.2.1 (F a 13)) (mw (G.2.1 (F a 2)) 0) 12)
    (oq26b : G26.2.2.2 = G2.2.2.2)
    (oq43a : G43.2.2.2 = G26.2.2.2)
    (m0 : 0 ≤ ((G.1 a 7).toInt) ∧ ((G.1 a 7).toInt) ≤ 8)
    (t7 : (((G.1 a 6).toInt) ≠ 0 ∧ 0 ≤ p0.toInt ∧ p0.toInt ≤ ((G.1 a 7).toInt) - 1 ∧ x7.toInt = 1) ∨ (¬ (((G.1 a 6).toInt) ≠ 0 ∧ 0 ≤ p0.toInt ∧ p0.toInt ≤ ((G.1 a 7).toInt) - 1) ∧ x7.toInt = 0))
    (c10 : ¬ (x7.toInt = 0))
    (t17 : (x17.toInt = 1 ∧ (0 : Int) ≤ p1.toInt ∧ p1.toInt ≤ (1 : Int)) ∨ (x17.toInt = 0 ∧ (p1.toInt < (0 : Int) ∨ (1 : Int) < p1.toInt)))
    (c20 : x17.toInt ≠ 0)
    (t26 : 0 ≤ ((G26.1 a 19).toInt) ∧ ((G26.1 a 19).toInt) ≤ 2388)
    (z48 : (frA (G.2.1 (F a 10)) (mw (G.2.1 (F a 1)) 0) (mw (G.2.1 (F a 2)) 0) (mw (G.2.1 (F a 3)) (360 * p0.toInt)) p1.toInt 0) = 0)
    (I51_0 : 0 ≤ l4_51.toInt ∧ l4_51.toInt ≤ 12)
    (I51_1 : l3_51.toInt = (frA (G.2.1 (F a 10)) (mw (G.2.1 (F a 1)) 0) (mw (G.2.1 (F a 2)) 0) (mw (G.2.1 (F a 3)) (360 * p0.toInt)) p1.toInt (l4_51.toInt)))
    (I51_2 : 0 ≤ l3_51.toInt ∧ l3_51.toInt ≤ 199 * l4_51.toInt)
    (hm51 : 100 - l4_51.toInt < (((N51) + 1 : Nat) : Int))
    (z53 : l4_51.toInt = 12 → (frA (G.2.1 (F a 10)) (mw (G.2.1 (F a 1)) 0) (mw (G.2.1 (F a 2)) 0) (mw (G.2.1 (F a 3)) (360 * p0.toInt)) p1.toInt (l4_51.toInt)) = (frA (G.2.1 (F a 10)) (mw (G.2.1 (F a 1)) 0) (mw (G.2.1 (F a 2)) 0) (mw (G.2.1 (F a 3)) (360 * p0.toInt)) p1.toInt 12))
    (c55 : (12 : Int) ≤ l4_51.toInt) :
    ((¬ (((G.1 a 6).toInt) ≠ 0 ∧ 0 ≤ p0.toInt ∧ p0.toInt ≤ ((G.1 a 7).toInt) - 1) ∨ p1.toInt < 0 ∨ 1 < p1.toInt) ∧ l3_51.toInt = -1) ∨ ((((G.1 a 6).toInt) ≠ 0 ∧ 0 ≤ p0.toInt ∧ p0.toInt ≤ ((G.1 a 7).toInt) - 1) ∧ (0 ≤ p1.toInt ∧ p1.toInt ≤ 1) ∧ l3_51.toInt = frA (G.2.1 (F a 10)) (mw (G.2.1 (F a 1)) 0) (mw (G.2.1 (F a 2)) 0) (mw (G.2.1 (F a 3)) (360 * p0.toInt)) p1.toInt 12) := by
  exact Or.inr ⟨by omega, by omega, by omega⟩
theorem v_X11_fresh_24_8 {K : Nat → Nat} {F : Nat → Nat → Nat} (a : Nat) (G : XG) (p0 : Int32) (x7 : Int32) (x17 : Int32) (p1 : Int32)
    (ha : K a = 13)
    (m0 : 0 ≤ ((G.1 a 7).toInt) ∧ ((G.1 a 7).toInt) ≤ 8)
    (t7 : (((G.1 a 6).toInt) ≠ 0 ∧ 0 ≤ p0.toInt ∧ p0.toInt ≤ ((G.1 a 7).toInt) - 1 ∧ x7.toInt = 1) ∨ (¬ (((G.1 a 6).toInt) ≠ 0 ∧ 0 ≤ p0.toInt ∧ p0.toInt ≤ ((G.1 a 7).toInt) - 1) ∧ x7.toInt = 0))
    (c10 : ¬ (x7.toInt = 0))
    (t17 : (x17.toInt = 1 ∧ (0 : Int) ≤ p1.toInt ∧ p1.toInt ≤ (1 : Int)) ∨ (x17.toInt = 0 ∧ (p1.toInt < (0 : Int) ∨ (1 : Int) < p1.toInt)))
    (c20 : ¬ (x17.toInt ≠ 0)) :
    ((¬ (((G.1 a 6).toInt) ≠ 0 ∧ 0 ≤ p0.toInt ∧ p0.toInt ≤ ((G.1 a 7).toInt) - 1) ∨ p1.toInt < 0 ∨ 1 < p1.toInt) ∧ (-1 : Int) = -1) ∨ ((((G.1 a 6).toInt) ≠ 0 ∧ 0 ≤ p0.toInt ∧ p0.toInt ≤ ((G.1 a 7).toInt) - 1) ∧ (0 ≤ p1.toInt ∧ p1.toInt ≤ 1) ∧ (-1 : Int) = frA (G.2.1 (F a 10)) (mw (G.2.1 (F a 1)) 0) (mw (G.2.1 (F a 2)) 0) (mw (G.2.1 (F a 3)) (360 * p0.toInt)) p1.toInt 12) := by
  exact Or.inl ⟨by omega, rfl⟩
