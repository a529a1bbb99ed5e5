theorem v_X11_least_92_17 {F : Nat → Nat → Nat} (a : Nat) (G : XG) (G81 : XG)
    (hR : RV (G.2.1 (F a 10)))
    (c_G81_F_a_10 : G81.2.1 (F a 10) = G.2.1 (F a 10)) :
    RV (G81.2.1 (F a 10)) := by simp only [c_G81_F_a_10]; assumption
theorem v_X11_least_92_18 {F : Nat → Nat → Nat} (G81 : XG) (G_47 : XG) (a : Nat) (x36 : Int32) (l6_47 : Int32) (p0 : Int32) (p2 : Int32) (p1 : Int32) (G : XG) (x8 : Int32) (x15 : Int32) (x30 : Int32) (x34 : Int32)
    (hG81 : G81 = cput G_47 (F a 1) x36.toNatClampNeg l6_47)
    (rm : RM (G_47.2.1 (F a 1)) 0)
    (fl : aI (G_47.2.1 (F a 1)) (0 + 4 * (30 * p0.toInt + p1.toInt)) = 1)
    (z5 : ¬ (0 ≤ p0.toInt ∧ p0.toInt < 3 ∧ 0 ≤ p1.toInt ∧ p1.toInt < 30) → (cel (mw (G.2.1 (F a 1)) 0) (p0.toInt) (p1.toInt) 0) = -2000)
    (t8 : (x8.toInt = 1 ∧ (cel (mw (G.2.1 (F a 1)) 0) (p0.toInt) (p1.toInt) 0) ≠ -2000) ∨ (x8.toInt = 0 ∧ (cel (mw (G.2.1 (F a 1)) 0) (p0.toInt) (p1.toInt) 0) = -2000))
    (c11 : ¬ (x8.toInt = 0))
    (t15 : (x15.toInt = 1 ∧ 0 ≤ p2.toInt ∧ p2.toInt ≤ 2) ∨ (x15.toInt = 0 ∧ (p2.toInt < 0 ∨ 2 < p2.toInt)))
    (c18 : x15.toInt ≠ 0)
    (t30 : 0 ≤ p0.toInt ∧ p0.toInt ≤ 2 ∧ 0 ≤ p1.toInt ∧ p1.toInt ≤ 29 → x30.toInt = 4 * (30 * p0.toInt + p1.toInt))
    (t34 : x34.toInt = x30.toInt + (1 : Int) ∨ x30.toInt + (1 : Int) < -2147483648 ∨ 2147483648 ≤ x30.toInt + (1 : Int))
    (t36 : x36.toInt = x34.toInt + p2.toInt ∨ x34.toInt + p2.toInt < -2147483648 ∨ 2147483648 ≤ x34.toInt + p2.toInt)
    (I47_0 : -99 ≤ l6_47.toInt ∧ l6_47.toInt ≤ 100)
    (c51 : ¬ ((99 : Int) < l6_47.toInt)) :
    RM (G81.2.1 (F a 1)) (0 : Int) := by
  have hb9 : (0 ≤ p0.toInt ∧ p0.toInt < 3) ∧ (0 ≤ p1.toInt ∧ p1.toInt < 30) ∧ (0 ≤ p2.toInt ∧ p2.toInt ≤ 2) := by omega
  have hx9 : x36.toInt = 4 * (30 * p0.toInt + p1.toInt) + 1 + p2.toInt := by omega
  have hc9 : (cel (mw (G.2.1 (F a 1)) 0) (p0.toInt) (p1.toInt) 0) ≠ -2000 := by omega
  clear z5 t8 t15 t30 t34 t36
  exact rm.set (t := p0.toInt) (k := p1.toInt) (c := p2.toInt) (by omega) (by decide) (by omega) (aI_pu hG81 rfl rfl rfl (by omega)) (by omega)
theorem v_X11_least_97_19 {F : Nat → Nat → Nat} (a : Nat) (G : XG) (G92 : XG)
    (hR : RV (G.2.1 (F a 10)))
    (c_G92_F_a_10 : G92.2.1 (F a 10) = G.2.1 (F a 10)) :
    RV (G92.2.1 (F a 10)) := by simp only [c_G92_F_a_10]; assumption
theorem v_X11_least_97_20 {F : Nat → Nat → Nat} (G81 : XG) (G_47 : XG) (a : Nat) (x36 : Int32) (l6_47 : Int32) (p0 : Int32) (p2 : Int32) (p1 : Int32) (G : XG) (x8 : Int32) (x15 : Int32) (x30 : Int32) (x34 : Int32) (G92 : XG)
    (hG81 : G81 = cput G_47 (F a 1) x36.toNatClampNeg l6_47)
    (rm : RM (G_47.2.1 (F a 1)) 0)
    (fl : aI (G_47.2.1 (F a 1)) (0 + 4 * (30 * p0.toInt + p1.toInt)) = 1)
    (z5 : ¬ (0 ≤ p0.toInt ∧ p0.toInt < 3 ∧ 0 ≤ p1.toInt ∧ p1.toInt < 30) → (cel (mw (G.2.1 (F a 1)) 0) (p0.toInt) (p1.toInt) 0) = -2000)
    (t8 : (x8.toInt = 1 ∧ (cel (mw (G.2.1 (F a 1)) 0) (p0.toInt) (p1.toInt) 0) ≠ -2000) ∨ (x8.toInt = 0 ∧ (cel (mw (G.2.1 (F a 1)) 0) (p0.toInt) (p1.toInt) 0) = -2000))
    (c11 : ¬ (x8.toInt = 0))
    (t15 : (x15.toInt = 1 ∧ 0 ≤ p2.toInt ∧ p2.toInt ≤ 2) ∨ (x15.toInt = 0 ∧ (p2.toInt < 0 ∨ 2 < p2.toInt)))
    (c18 : x15.toInt ≠ 0)
    (t30 : 0 ≤ p0.toInt ∧ p0.toInt ≤ 2 ∧ 0 ≤ p1.toInt ∧ p1.toInt ≤ 29 → x30.toInt = 4 * (30 * p0.toInt + p1.toInt))
    (t34 : x34.toInt = x30.toInt + (1 : Int) ∨ x30.toInt + (1 : Int) < -2147483648 ∨ 2147483648 ≤ x30.toInt + (1 : Int))
    (t36 : x36.toInt = x34.toInt + p2.toInt ∨ x34.toInt + p2.toInt < -2147483648 ∨ 2147483648 ≤ x34.toInt + p2.toInt)
    (I47_0 : -99 ≤ l6_47.toInt ∧ l6_47.toInt ≤ 100)
    (c51 : ¬ ((99 : Int) < l6_47.toInt))
    (c_G92_F_a_1 : G92.2.1 (F a 1) = G81.2.1 (F a 1)) :
    RM (G92.2.1 (F a 1)) (0) := by
  have hb9 : (0 ≤ p0.toInt ∧ p0.toInt < 3) ∧ (0 ≤ p1.toInt ∧ p1.toInt < 30) ∧ (0 ≤ p2.toInt ∧ p2.toInt ≤ 2) := by omega
  have hx9 : x36.toInt = 4 * (30 * p0.toInt + p1.toInt) + 1 + p2.toInt := by omega
  have hc9 : (cel (mw (G.2.1 (F a 1)) 0) (p0.toInt) (p1.toInt) 0) ≠ -2000 := by omega
  clear z5 t8 t15 t30 t34 t36
  (try rw [c_G92_F_a_1])
  exact rm.set (t := p0.toInt) (k := p1.toInt) (c := p2.toInt) (by omega) (by decide) (by omega) (aI_pu hG81 rfl rfl rfl (by omega)) (by omega)
theorem v_X11_least_97_21 {F : Nat → Nat → Nat} (G : XG) (a : Nat) (G25 : XG) (G92 : XG)
    (oq25b : LSt (G.2.1 (F a 10)) (G25.2.1 (F a 12)) (mw (G.2.1 (F a 1)) 0) 12)
    (c_G92_F_a_10 : G92.2.1 (F a 10) = G.2.1 (F a 10))
    (c_G92_F_a_12 : G92.2.1 (F a 12) = G25.2.1 (F a 12)) :
    LSt (G92.2.1 (F a 10)) (G92.2.1 (F a 12)) (mw (G.2.1 (F a 1)) 0) 12 := by
  rw [c_G92_F_a_10, c_G92_F_a_12]; exact oq25b
theorem v_X11_least_97_22 {F : Nat → Nat → Nat} (G : XG) (a : Nat) (G92 : XG) (G81 : XG)
    (oq92 : LSt (G.2.1 (F a 10)) (G92.2.1 (F a 11)) (mw (G81.2.1 (F a 1)) (0 : Int)) 12)
    (c_G81_F_a_10 : G81.2.1 (F a 10) = G.2.1 (F a 10))
    (c_G92_F_a_1 : G92.2.1 (F a 1) = G81.2.1 (F a 1))
    (c_G92_F_a_10 : G92.2.1 (F a 10) = G.2.1 (F a 10)) :
    LSt (G92.2.1 (F a 10)) (G92.2.1 (F a 11)) (mw (G92.2.1 (F a 1)) 0) 12 := by
  (try rw [c_G92_F_a_10])
  (try rw [c_G92_F_a_1])
  (try rw [c_G81_F_a_10] at oq92)
  exact oq92
theorem v_X11_least_116_23 {F : Nat → Nat → Nat} (G81 : XG) (G_47 : XG) (a : Nat) (x36 : Int32) (l6_47 : Int32) (p0 : Int32) (p2 : Int32) (p1 : Int32) (G : XG) (x8 : Int32) (x15 : Int32) (x30 : Int32) (x34 : Int32)
    (hG81 : G81 = cput G_47 (F a 1) x36.toNatClampNeg l6_47)
    (rm : RM (G_47.2.1 (F a 1)) 0)
    (fl : aI (G_47.2.1 (F a 1)) (0 + 4 * (30 * p0.toInt + p1.toInt)) = 1)
    (z5 : ¬ (0 ≤ p0.toInt ∧ p0.toInt < 3 ∧ 0 ≤ p1.toInt ∧ p1.toInt < 30) → (cel (mw (G.2.1 (F a 1)) 0) (p0.toInt) (p1.toInt) 0) = -2000)
    (t8 : (x8.toInt = 1 ∧ (cel (mw (G.2.1 (F a 1)) 0) (p0.toInt) (p1.toInt) 0) ≠ -2000) ∨ (x8.toInt = 0 ∧ (cel (mw (G.2.1 (F a 1)) 0) (p0.toInt) (p1.toInt) 0) = -2000))
    (c11 : ¬ (x8.toInt = 0))
    (t15 : (x15.toInt = 1 ∧ 0 ≤ p2.toInt ∧ p2.toInt ≤ 2) ∨ (x15.toInt = 0 ∧ (p2.toInt < 0 ∨ 2 < p2.toInt)))
    (c18 : x15.toInt ≠ 0)
    (t30 : 0 ≤ p0.toInt ∧ p0.toInt ≤ 2 ∧ 0 ≤ p1.toInt ∧ p1.toInt ≤ 29 → x30.toInt = 4 * (30 * p0.toInt + p1.toInt))
    (t34 : x34.toInt = x30.toInt + (1 : Int) ∨ x30.toInt + (1 : Int) < -2147483648 ∨ 2147483648 ≤ x30.toInt + (1 : Int))
    (t36 : x36.toInt = x34.toInt + p2.toInt ∨ x34.toInt + p2.toInt < -2147483648 ∨ 2147483648 ≤ x34.toInt + p2.toInt)
    (I47_0 : -99 ≤ l6_47.toInt ∧ l6_47.toInt ≤ 100)
    (c51 : ¬ ((99 : Int) < l6_47.toInt)) :
    RM (G81.2.1 (F a 1)) 0 := by
  have hb9 : (0 ≤ p0.toInt ∧ p0.toInt < 3) ∧ (0 ≤ p1.toInt ∧ p1.toInt < 30) ∧ (0 ≤ p2.toInt ∧ p2.toInt ≤ 2) := by omega
  have hx9 : x36.toInt = 4 * (30 * p0.toInt + p1.toInt) + 1 + p2.toInt := by omega
  have hc9 : (cel (mw (G.2.1 (F a 1)) 0) (p0.toInt) (p1.toInt) 0) ≠ -2000 := by omega
  clear z5 t8 t15 t30 t34 t36
  first
    | exact rm
    | exact rm.set (t := p0.toInt) (k := p1.toInt) (c := p2.toInt) (by omega) (by decide) (by omega) (aI_pu hG81 rfl rfl rfl (by omega)) (by omega)
theorem v_X11_least_116_24 {F : Nat → Nat → Nat} (G81 : XG) (G_47 : XG) (a : Nat) (x36 : Int32) (l6_47 : Int32) (p0 : Int32) (p2 : Int32) (p1 : Int32) (G : XG) (x8 : Int32) (x15 : Int32) (x30 : Int32) (x34 : Int32)
    (hG81 : G81 = cput G_47 (F a 1) x36.toNatClampNeg l6_47)
    (pm : ∀ v : Int, rset (mw (G_47.2.1 (F a 1)) 0) (90 * p0.toInt + 30 * p2.toInt + p1.toInt) v = rset (mw (G.2.1 (F a 1)) 0) (90 * p0.toInt + 30 * p2.toInt + p1.toInt) v)
    (fl : aI (G_47.2.1 (F a 1)) (0 + 4 * (30 * p0.toInt + p1.toInt)) = 1)
    (z5 : ¬ (0 ≤ p0.toInt ∧ p0.toInt < 3 ∧ 0 ≤ p1.toInt ∧ p1.toInt < 30) → (cel (mw (G.2.1 (F a 1)) 0) (p0.toInt) (p1.toInt) 0) = -2000)
    (t8 : (x8.toInt = 1 ∧ (cel (mw (G.2.1 (F a 1)) 0) (p0.toInt) (p1.toInt) 0) ≠ -2000) ∨ (x8.toInt = 0 ∧ (cel (mw (G.2.1 (F a 1)) 0) (p0.toInt) (p1.toInt) 0) = -2000))
    (c11 : ¬ (x8.toInt = 0))
    (t15 : (x15.toInt = 1 ∧ 0 ≤ p2.toInt ∧ p2.toInt ≤ 2) ∨ (x15.toInt = 0 ∧ (p2.toInt < 0 ∨ 2 < p2.toInt)))
    (c18 : x15.toInt ≠ 0)
    (t30 : 0 ≤ p0.toInt ∧ p0.toInt ≤ 2 ∧ 0 ≤ p1.toInt ∧ p1.toInt ≤ 29 → x30.toInt = 4 * (30 * p0.toInt + p1.toInt))
    (t34 : x34.toInt = x30.toInt + (1 : Int) ∨ x30.toInt + (1 : Int) < -2147483648 ∨ 2147483648 ≤ x30.toInt + (1 : Int))
    (t36 : x36.toInt = x34.toInt + p2.toInt ∨ x34.toInt + p2.toInt < -2147483648 ∨ 2147483648 ≤ x34.toInt + p2.toInt)
    (I47_0 : -99 ≤ l6_47.toInt ∧ l6_47.toInt ≤ 100)
    (c51 : ¬ ((99 : Int) < l6_47.toInt)) :
    ∀ v : Int, rset (mw (G81.2.1 (F a 1)) 0) (90 * p0.toInt + 30 * p2.toInt + p1.toInt) v = rset (mw (G.2.1 (F a 1)) 0) (90 * p0.toInt + 30 * p2.toInt + p1.toInt) v := by
  have hb9 : (0 ≤ p0.toInt ∧ p0.toInt < 3) ∧ (0 ≤ p1.toInt ∧ p1.toInt < 30) ∧ (0 ≤ p2.toInt ∧ p2.toInt ≤ 2) := by omega
  have hx9 : x36.toInt = 4 * (30 * p0.toInt + p1.toInt) + 1 + p2.toInt := by omega
  have hc9 : (cel (mw (G.2.1 (F a 1)) 0) (p0.toInt) (p1.toInt) 0) ≠ -2000 := by omega
  clear z5 t8 t15 t30 t34 t36
  intro v
  first
    | exact pm v
    | (rw [mw_set (b := 0) (t := p0.toInt) (k := p1.toInt) (c := p2.toInt) (by omega) (by decide) (by omega) (aI_pu hG81 rfl rfl rfl (by omega)) fl, rset_rset]; exact pm v)
