theorem v_X11_least_8_1 {F : Nat → Nat → Nat} (a : Nat) (G2 : XG) (G : XG)
    (hM : RM (G.2.1 (F a 1)) (0))
    (c_G2_F_a_1 : G2.2.1 (F a 1) = G.2.1 (F a 1)) :
    RM (G2.2.1 (F a 1)) 0 := by simp only [c_G2_F_a_1]; assumption
theorem v_X11_least_23_2 {F : Nat → Nat → Nat} (G2 : XG) (a : Nat) (G : XG)
    (c_G2_F_a_1 : G2.2.1 (F a 1) = G.2.1 (F a 1)) :
    mw (G2.2.1 (F a 1)) 0 = mw (G.2.1 (F a 1)) 0 := by
  rw [c_G2_F_a_1]
theorem v_X11_least_23_3 {F : Nat → Nat → Nat} (G : XG) (a : Nat) (G2 : XG)
    (hM : RM (G.2.1 (F a 1)) (0))
    (c_G2_F_a_1 : G2.2.1 (F a 1) = G.2.1 (F a 1)) :
    RM (G2.2.1 (F a 1)) 0 := by
  rw [c_G2_F_a_1]; exact hM
theorem v_X11_least_23_4 {K : Nat → Nat} {F : Nat → Nat → Nat} (a : Nat) (G : XG) (p0 : Int32) (p1 : Int32) (x8 : Int32) (p2 : Int32)
    (ha : K a = 13)
    (z5 : ¬ (0 ≤ p0.toInt ∧ p0.toInt < 3 ∧ 0 ≤ p1.toInt ∧ p1.toInt < 30) → (cel (mw (G.2.1 (F a 1)) 0) (p0.toInt) (p1.toInt) 0) = -2000)
    (t8 : (x8.toInt = 1 ∧ (cel (mw (G.2.1 (F a 1)) 0) (p0.toInt) (p1.toInt) 0) ≠ -2000) ∨ (x8.toInt = 0 ∧ (cel (mw (G.2.1 (F a 1)) 0) (p0.toInt) (p1.toInt) 0) = -2000))
    (c11 : x8.toInt = 0) :
    (¬ (cel (mw (G.2.1 (F a 1)) 0) p0.toInt p1.toInt 0 ≠ -2000 ∧ 0 ≤ p2.toInt ∧ p2.toInt < 3) ∧ (-2147483648 : Int) = -2147483648) ∨ ((cel (mw (G.2.1 (F a 1)) 0) p0.toInt p1.toInt 0 ≠ -2000 ∧ 0 ≤ p2.toInt ∧ p2.toInt < 3) ∧ LsS (fun v => ffP (G.2.1 (F a 10)) (rset (mw (G.2.1 (F a 1)) 0) (90 * p0.toInt + 30 * p2.toInt + p1.toInt) v) (fuO (G.2.1 (F a 10)) (mw (G.2.1 (F a 1)) 0) (rset (mw (G.2.1 (F a 1)) 0) (90 * p0.toInt + 30 * p2.toInt + p1.toInt) v) 2) = -1) (cel (mw (G.2.1 (F a 1)) 0) p0.toInt p1.toInt p2.toInt) (-2147483648 : Int)) := by
  exact Or.inl ⟨by omega, rfl⟩
theorem v_X11_least_25_5 {F : Nat → Nat → Nat} (a : Nat) (G2 : XG) (G : XG)
    (hR : RV (G.2.1 (F a 10)))
    (c_G2_F_a_10 : G2.2.1 (F a 10) = G.2.1 (F a 10)) :
    RV (G2.2.1 (F a 10)) := by simp only [c_G2_F_a_10]; assumption
theorem v_X11_least_25_6 {F : Nat → Nat → Nat} (a : Nat) (G2 : XG) (G : XG)
    (hM : RM (G.2.1 (F a 1)) (0))
    (c_G2_F_a_1 : G2.2.1 (F a 1) = G.2.1 (F a 1)) :
    RM (G2.2.1 (F a 1)) (0) := by simp only [c_G2_F_a_1]; assumption
theorem v_X11_least_135_7 {F : Nat → Nat → Nat} (G132 : XG) (G_47 : XG) (a : Nat) (x36 : Int32) (x131 : Int32) (G25 : XG) (G : XG) (p0 : Int32) (p2 : Int32) (p1 : Int32) (x8 : Int32) (x15 : Int32) (x30 : Int32) (x34 : Int32) (l6_47 : Int32)
    (hG132 : G132 = cput G_47 (F a 1) x36.toNatClampNeg x131)
    (oq25 : mw (G25.2.1 (F a 4)) 0 = mw (G.2.1 (F a 1)) 0)
    (oq25a : RM (G25.2.1 (F a 4)) 0)
    (pm : ∀ v : Int, rset (mw (G_47.2.1 (F a 1)) 0) (90 * p0.toInt + 30 * p2.toInt + p1.toInt) v = rset (mw (G.2.1 (F a 1)) 0) (90 * p0.toInt + 30 * p2.toInt + p1.toInt) v)
    (fl : aI (G_47.2.1 (F a 1)) (0 + 4 * (30 * p0.toInt + p1.toInt)) = 1)
    (hv131 : x131.toInt = (aI (G25.2.1 (F a 4)) (x36.toInt)))
    (z5 : ¬ (0 ≤ p0.toInt ∧ p0.toInt < 3 ∧ 0 ≤ p1.toInt ∧ p1.toInt < 30) → (cel (mw (G.2.1 (F a 1)) 0) (p0.toInt) (p1.toInt) 0) = -2000)
    (t8 : (x8.toInt = 1 ∧ (cel (mw (G.2.1 (F a 1)) 0) (p0.toInt) (p1.toInt) 0) ≠ -2000) ∨ (x8.toInt = 0 ∧ (cel (mw (G.2.1 (F a 1)) 0) (p0.toInt) (p1.toInt) 0) = -2000))
    (c11 : ¬ (x8.toInt = 0))
    (t15 : (x15.toInt = 1 ∧ 0 ≤ p2.toInt ∧ p2.toInt ≤ 2) ∨ (x15.toInt = 0 ∧ (p2.toInt < 0 ∨ 2 < p2.toInt)))
    (c18 : x15.toInt ≠ 0)
    (t30 : 0 ≤ p0.toInt ∧ p0.toInt ≤ 2 ∧ 0 ≤ p1.toInt ∧ p1.toInt ≤ 29 → x30.toInt = 4 * (30 * p0.toInt + p1.toInt))
    (t34 : x34.toInt = x30.toInt + (1 : Int) ∨ x30.toInt + (1 : Int) < -2147483648 ∨ 2147483648 ≤ x30.toInt + (1 : Int))
    (t36 : x36.toInt = x34.toInt + p2.toInt ∨ x34.toInt + p2.toInt < -2147483648 ∨ 2147483648 ≤ x34.toInt + p2.toInt)
    (I47_0 : -99 ≤ l6_47.toInt ∧ l6_47.toInt ≤ 100)
    (c51 : (99 : Int) < l6_47.toInt) :
    mw (G132.2.1 (F a 1)) 0 = mw (G.2.1 (F a 1)) 0 := by
  have hb9 : (0 ≤ p0.toInt ∧ p0.toInt < 3) ∧ (0 ≤ p1.toInt ∧ p1.toInt < 30) ∧ (0 ≤ p2.toInt ∧ p2.toInt ≤ 2) := by omega
  have hx9 : x36.toInt = 4 * (30 * p0.toInt + p1.toInt) + 1 + p2.toInt := by omega
  have hc9 : (cel (mw (G.2.1 (F a 1)) 0) (p0.toInt) (p1.toInt) 0) ≠ -2000 := by omega
  clear z5 t8 t15 t30 t34 t36
  have fa : aI (G25.2.1 (F a 4)) (0 + 4 * (30 * p0.toInt + p1.toInt)) = 1 := by
    rcases oq25a.flag (t := p0.toInt) (k := p1.toInt) (by omega) with h | h
    · exfalso; rw [oq25] at h; omega
    · exact h.1
  have e1 := mw_set (b := 0) (t := p0.toInt) (k := p1.toInt) (c := p2.toInt) (by omega) (by decide) (by omega) (aI_pu hG132 rfl rfl hv131 (by omega)) fl
  have e2 := mw_at (f := G25.2.1 (F a 4)) (b := 0) (t := p0.toInt) (k := p1.toInt) (c := p2.toInt) (by omega) fa
  rw [oq25] at e2
  have e3 : aI (G25.2.1 (F a 4)) x36.toInt = mw (G.2.1 (F a 1)) 0 (90 * p0.toInt + 30 * p2.toInt + p1.toInt) := by
    rw [e2]; congr 1; omega
  rw [e1, pm, e3, rset_same]
theorem v_X11_least_135_8 {F : Nat → Nat → Nat} (G132 : XG) (G_47 : XG) (a : Nat) (x36 : Int32) (x131 : Int32) (G25 : XG) (G : XG) (p0 : Int32) (p2 : Int32) (p1 : Int32) (x8 : Int32) (x15 : Int32) (x30 : Int32) (x34 : Int32) (l6_47 : Int32)
    (hG132 : G132 = cput G_47 (F a 1) x36.toNatClampNeg x131)
    (oq25 : mw (G25.2.1 (F a 4)) 0 = mw (G.2.1 (F a 1)) 0)
    (oq25a : RM (G25.2.1 (F a 4)) 0)
    (rm : RM (G_47.2.1 (F a 1)) 0)
    (fl : aI (G_47.2.1 (F a 1)) (0 + 4 * (30 * p0.toInt + p1.toInt)) = 1)
    (hv131 : x131.toInt = (aI (G25.2.1 (F a 4)) (x36.toInt)))
    (z5 : ¬ (0 ≤ p0.toInt ∧ p0.toInt < 3 ∧ 0 ≤ p1.toInt ∧ p1.toInt < 30) → (cel (mw (G.2.1 (F a 1)) 0) (p0.toInt) (p1.toInt) 0) = -2000)
    (t8 : (x8.toInt = 1 ∧ (cel (mw (G.2.1 (F a 1)) 0) (p0.toInt) (p1.toInt) 0) ≠ -2000) ∨ (x8.toInt = 0 ∧ (cel (mw (G.2.1 (F a 1)) 0) (p0.toInt) (p1.toInt) 0) = -2000))
    (c11 : ¬ (x8.toInt = 0))
    (t15 : (x15.toInt = 1 ∧ 0 ≤ p2.toInt ∧ p2.toInt ≤ 2) ∨ (x15.toInt = 0 ∧ (p2.toInt < 0 ∨ 2 < p2.toInt)))
    (c18 : x15.toInt ≠ 0)
    (t30 : 0 ≤ p0.toInt ∧ p0.toInt ≤ 2 ∧ 0 ≤ p1.toInt ∧ p1.toInt ≤ 29 → x30.toInt = 4 * (30 * p0.toInt + p1.toInt))
    (t34 : x34.toInt = x30.toInt + (1 : Int) ∨ x30.toInt + (1 : Int) < -2147483648 ∨ 2147483648 ≤ x30.toInt + (1 : Int))
    (t36 : x36.toInt = x34.toInt + p2.toInt ∨ x34.toInt + p2.toInt < -2147483648 ∨ 2147483648 ≤ x34.toInt + p2.toInt)
    (I47_0 : -99 ≤ l6_47.toInt ∧ l6_47.toInt ≤ 100)
    (c51 : (99 : Int) < l6_47.toInt) :
    RM (G132.2.1 (F a 1)) 0 := by
  have hb9 : (0 ≤ p0.toInt ∧ p0.toInt < 3) ∧ (0 ≤ p1.toInt ∧ p1.toInt < 30) ∧ (0 ≤ p2.toInt ∧ p2.toInt ≤ 2) := by omega
  have hx9 : x36.toInt = 4 * (30 * p0.toInt + p1.toInt) + 1 + p2.toInt := by omega
  have hc9 : (cel (mw (G.2.1 (F a 1)) 0) (p0.toInt) (p1.toInt) 0) ≠ -2000 := by omega
  clear z5 t8 t15 t30 t34 t36
  have hx : x36.toInt = 0 + 4 * (30 * p0.toInt + p1.toInt) + 1 + p2.toInt := by omega
  have hv : aI (G25.2.1 (F a 4)) x36.toInt = -1000 ∨ (-99 ≤ aI (G25.2.1 (F a 4)) x36.toInt ∧ aI (G25.2.1 (F a 4)) x36.toInt ≤ 99) := by
    rcases oq25a.okc (t := p0.toInt) (k := p1.toInt) (c := p2.toInt) (by omega) with h | h
    · exfalso
      have h9 := (oq25a.absent p0.toInt p1.toInt p2.toInt (by omega)).mp h.2
      rw [oq25] at h9
      omega
    · rw [hx]; exact h.2.2
  exact rm.set (t := p0.toInt) (k := p1.toInt) (c := p2.toInt) (by omega) (by decide) (by omega) (aI_pu hG132 rfl rfl hv131 (by omega)) hv
