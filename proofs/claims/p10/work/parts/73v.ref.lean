theorem v_X11_fresh_26_1 {F : Nat → Nat → Nat} (a : Nat) (G2 : XG) (G : XG)
    (hR : RV (G.2.1 (F a 10)))
    (c_G2_F_a_10 : G2.2.1 (F a 10) = G.2.1 (F a 10)) :
    RV (G2.2.1 (F a 10)) := by simp only [c_G2_F_a_10]; assumption
theorem v_X11_fresh_26_2 {F : Nat → Nat → Nat} (a : Nat) (G2 : XG) (G : XG)
    (hM : RM (G.2.1 (F a 1)) (0))
    (hB : RM (G.2.1 (F a 2)) 0)
    (c_G2_F_a_1 : G2.2.1 (F a 1) = G.2.1 (F a 1)) :
    RM (G2.2.1 (F a 1)) (0) := by simp only [c_G2_F_a_1]; assumption
theorem v_X11_fresh_26_3 {F : Nat → Nat → Nat} (a : Nat) (G2 : XG) (G : XG)
    (hM : RM (G.2.1 (F a 1)) (0))
    (hB : RM (G.2.1 (F a 2)) 0)
    (c_G2_F_a_2 : G2.2.1 (F a 2) = G.2.1 (F a 2)) :
    RM (G2.2.1 (F a 2)) 0 := by simp only [c_G2_F_a_2]; assumption
theorem v_X11_fresh_43_4 {F : Nat → Nat → Nat} (a : Nat) (G : XG) (G26 : XG)
    (hR : RV (G.2.1 (F a 10)))
    (c_G26_F_a_10 : G26.2.1 (F a 10) = G.2.1 (F a 10)) :
    RV (G26.2.1 (F a 10)) := by simp only [c_G26_F_a_10]; assumption
theorem v_X11_fresh_43_5 {F : Nat → Nat → Nat} (G : XG) (a : Nat) (p0 : Int32) (x7 : Int32) (G26 : XG)
    (hmk : ∀ m : Int, 0 ≤ m → m < ((G.1 a 7).toInt) → RM (G.2.1 (F a 3)) (360 * m))
    (m0 : 0 ≤ ((G.1 a 7).toInt) ∧ ((G.1 a 7).toInt) ≤ 8)
    (t7 : (((G.1 a 6).toInt) ≠ 0 ∧ 0 ≤ p0.toInt ∧ p0.toInt ≤ ((G.1 a 7).toInt) - 1 ∧ x7.toInt = 1) ∨ (¬ (((G.1 a 6).toInt) ≠ 0 ∧ 0 ≤ p0.toInt ∧ p0.toInt ≤ ((G.1 a 7).toInt) - 1) ∧ x7.toInt = 0))
    (c10 : ¬ (x7.toInt = 0))
    (c_G26_F_a_3 : G26.2.1 (F a 3) = G.2.1 (F a 3)) :
    RM (G26.2.1 (F a 3)) ((360 : Int) * p0.toInt) := by
  rw [c_G26_F_a_3]; exact hmk p0.toInt (by omega) (by omega)
