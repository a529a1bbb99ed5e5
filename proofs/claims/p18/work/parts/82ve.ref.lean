theorem v_X11_least_8_1 {F : Nat → Nat → Nat} (a : Nat) (G2 : XG) (G : XG)
    (hM : RM (G.2.1 (F a 1)) (0))
    (c_G2_F_a_1 : G2.2.1 (F a 1) = G.2.1 (F a 1)) :
    RM (G2.2.1 (F a 1)) 0 := by simp only [c_G2_F_a_1]; assumption
theorem v_X11_least_23_2 {F : Nat → Nat → Nat} (G2 : XG) (a : Nat) (G : XG)
    (c_G2_F_a_1 : G2.2.1 (F a 1) = G.2.1 (F a 1)) :
    mw (G2.2.1 (F a 1)) 0 = mw (G.2.1 (F a 1)) 0 := by
  rw [c_G2_F_a_1]
theorem v_X11_least_23_3 {F : Nat → Nat → Nat} (G : XG) (a : Nat) (G2 : XG)
    (hM : RM (G.2.1 (F a 1)) (0))
    (c_G2_F_a_1 : G2.2.1 (F a 1) = G.2.1 (F a 1)) :
    RM (G2.2.1 (F a 1)) 0 := by
  rw [c_G2_F_a_1]; exact hM
theorem v_X11_least_23_4 {K : Nat → Nat} {F : Nat → Nat → Nat} (a : Nat) (G : XG) (p0 : Int32) (p1 : Int32) (x8 : Int32) (p2 : Int32)
    (ha : K a = 13)
    (z5 : ¬ (0 ≤ p0.toInt ∧ p0.toInt < 3 ∧ 0 ≤ p1.toInt ∧ p1.toInt < 30) → (cel (mw (G.2.1 (F a 1)) 0) (p0.toInt) (p1.toInt) 0) = -2000)
    (t8 : (x8.toInt = 1 ∧ (cel (mw (G.2.1 (F a 1)) 0) (p0.toInt) (p1.toInt) 0) ≠ -2000) ∨ (x8.toInt = 0 ∧ (cel (mw (G.2.1 (F a 1)) 0) (p0.toInt) (p1.toInt) 0) = -2000))
    (c11 : x8.toInt = 0) :
    (¬ (cel (mw (G.2.1 (F a 1)) 0) p0.toInt p1.toInt 0 ≠ -2000 ∧ 0 ≤ p2.toInt ∧ p2.toInt < 3) ∧ (-2147483648 : Int) = -2147483648) ∨ ((cel (mw (G.2.1 (F a 1)) 0) p0.toInt p1.toInt 0 ≠ -2000 ∧ 0 ≤ p2.toInt ∧ p2.toInt < 3) ∧ LsS (fun v => ffP (G.2.1 (F a 10)) (rset (mw (G.2.1 (F a 1)) 0) (90 * p0.toInt + 30 * p2.toInt + p1.toInt) v) (fuO (G.2.1 (F a 10)) (mw (G.2.1 (F a 1)) 0) (rset (mw (G.2.1 (F a 1)) 0) (90 * p0.toInt + 30 * p2.toInt + p1.toInt) v) 2) = -1) (cel (mw (G.2.1 (F a 1)) 0) p0.toInt p1.toInt p2.toInt) (-2147483648 : Int)) := by
  exact Or.inl ⟨by omega, rfl⟩
theorem v_X11_least_25_5 {F : Nat → Nat → Nat} (a : Nat) (G2 : XG) (G : XG)
    (hR : RV (G.2.1 (F a 10)))
    (c_G2_F_a_10 : G2.2.1 (F a 10) = G.2.1 (F a 10)) :
    RV (G2.2.1 (F a 10)) := by simp only [c_G2_F_a_10]; assumption
theorem v_X11_least_25_6 {F : Nat → Nat → Nat} (a : Nat) (G2 : XG) (G : XG)
    (hM : RM (G.2.1 (F a 1)) (0))
    (c_G2_F_a_1 : G2.2.1 (F a 1) = G.2.1 (F a 1)) :
    RM (G2.2.1 (F a 1)) (0) := by simp only [c_G2_F_a_1]; assumption
theorem v_X11_least_135_7 {F : Nat → Nat → Nat} (G132 : XG) (G_47 : XG) (a : Nat) (x36 : Int32) (x131 : Int32) (G25 : XG) (G : XG) (p0 : Int32) (p2 : Int32) (p1 : Int32) (x8 : Int32) (x15 : Int32) (x30 : Int32) (x34 : Int32) (l6_47 : Int32)
    (hG132 : G132 = cput G_47 (F a 1) x36.toNatClampNeg x131)
    (oq25 : mw (G25.2.1 (F a 4)) 0 = mw (G.2.1 (F a 1)) 0)
    (oq25a : RM (G25.2.1 (F a 4)) 0)
    (pm : ∀ v : Int, rset (mw (G_47.2.1 (F a 1)) 0) (90 * p0.toInt + 30 * p2.toInt + p1.toInt) v = rset (mw (G.2.1 (F a 1)) 0) (90 * p0.toInt + 30 * p2.toInt + p1.toInt) v)
    (fl : aI (G_47.2.1 (F a 1)) (0 + 4 * (30 * p0.toInt + p1.toInt)) = 1)
    (hv131 : x131.toInt = (aI (G25.2.1 (F a 4)) (x36.toInt)))
    (z5 : ¬ (0 ≤ p0.toInt ∧ p0.toInt < 3 ∧ 0 ≤ p1.toInt ∧ p1.toInt < 30) → (cel (mw (G.2.1 (F a 1)) 0) (p0.toInt) (p1.toInt) 0) = -2000)
    (t8 : (x8.toInt = 1 ∧ (cel (mw (G.2.1 (F a 1)) 0) (p0.toInt) (p1.toInt) 0) ≠ -2000) ∨ (x8.toInt = 0 ∧ (cel (mw (G.2.1 (F a 1)) 0) (p0.toInt) (p1.toInt) 0) = -2000))
    (c11 : ¬ (x8.toInt = 0))
    (t15 : (x15.toInt = 1 ∧ 0 ≤ p2.toInt ∧ p2.toInt ≤ 2) ∨ (x15.toInt = 0 ∧ (p2.toInt < 0 ∨ 2 < p2.toInt)))
    (c18 : x15.toInt ≠ 0)
    (t30 : 0 ≤ p0.toInt ∧ p0.toInt ≤ 2 ∧ 0 ≤ p1.toInt ∧ p1.toInt ≤ 29 → x30.toInt = 4 * (30 * p0.toInt + p1.toInt))
    (t34 : x34.toInt = x30.toInt + (1 : Int) ∨ x30.toInt + (1 : Int) < -2147483648 ∨ 2147483648 ≤ x30.toInt + (1 : Int))
    (t36 : x36.toInt = x34.toInt + p2.toInt ∨ x34.toInt + p2.toInt < -2147483648 ∨ 2147483648 ≤ x34.toInt + p2.toInt)
    (I47_0 : -99 ≤ l6_47.toInt ∧ l6_47.toInt ≤ 100)
    (c51 : (99 : Int) < l6_47.toInt) :
    mw (G132.2.1 (F a 1)) 0 = mw (G.2.1 (F a 1)) 0 := by
  have hb9 : (0 ≤ p0.toInt ∧ p0.toInt < 3) ∧ (0 ≤ p1.toInt ∧ p1.toInt < 30) ∧ (0 ≤ p2.toInt ∧ p2.toInt ≤ 2) := by omega
  have hc9 : (cel (mw (G.2.1 (F a 1)) 0) (p0.toInt) (p1.toInt) 0) ≠ -2000 := by omega
  have hx9 : x36.toInt = 4 * (30 * p0.toInt + p1.toInt) + 1 + p2.toInt := by omega
  clear z5 t8 t15 t30 t34 t36
  have fa : aI (G25.2.1 (F a 4)) (0 + 4 * (30 * p0.toInt + p1.toInt)) = 1 := by
    rcases oq25a.flag (t := p0.toInt) (k := p1.toInt) (by omega) with h | h
    · exfalso; rw [oq25] at h; omega
    · exact h.1
  have e1 := mw_set (b := 0) (t := p0.toInt) (k := p1.toInt) (c := p2.toInt) (by omega) (by decide) (by omega) (aI_pu hG132 rfl rfl hv131 (by omega)) fl
  have e2 := mw_at (f := G25.2.1 (F a 4)) (b := 0) (t := p0.toInt) (k := p1.toInt) (c := p2.toInt) (by omega) fa
  rw [oq25] at e2
  have e3 : aI (G25.2.1 (F a 4)) x36.toInt = mw (G.2.1 (F a 1)) 0 (90 * p0.toInt + 30 * p2.toInt + p1.toInt) := by
    rw [e2]; congr 1; omega
  rw [e1, pm, e3, rset_same]
theorem v_X11_least_135_8 {F : Nat → Nat → Nat} (G132 : XG) (G_47 : XG) (a : Nat) (x36 : Int32) (x131 : Int32) (G25 : XG) (G : XG) (p0 : Int32) (p2 : Int32) (p1 : Int32) (x8 : Int32) (x15 : Int32) (x30 : Int32) (x34 : Int32) (l6_47 : Int32)
    (hG132 : G132 = cput G_47 (F a 1) x36.toNatClampNeg x131)
    (oq25 : mw (G25.2.1 (F a 4)) 0 = mw (G.2.1 (F a 1)) 0)
    (oq25a : RM (G25.2.1 (F a 4)) 0)
    (rm : RM (G_47.2.1 (F a 1)) 0)
    (fl : aI (G_47.2.1 (F a 1)) (0 + 4 * (30 * p0.toInt + p1.toInt)) = 1)
    (hv131 : x131.toInt = (aI (G25.2.1 (F a 4)) (x36.toInt)))
    (z5 : ¬ (0 ≤ p0.toInt ∧ p0.toInt < 3 ∧ 0 ≤ p1.toInt ∧ p1.toInt < 30) → (cel (mw (G.2.1 (F a 1)) 0) (p0.toInt) (p1.toInt) 0) = -2000)
    (t8 : (x8.toInt = 1 ∧ (cel (mw (G.2.1 (F a 1)) 0) (p0.toInt) (p1.toInt) 0) ≠ -2000) ∨ (x8.toInt = 0 ∧ (cel (mw (G.2.1 (F a 1)) 0) (p0.toInt) (p1.toInt) 0) = -2000))
    (c11 : ¬ (x8.toInt = 0))
    (t15 : (x15.toInt = 1 ∧ 0 ≤ p2.toInt ∧ p2.toInt ≤ 2) ∨ (x15.toInt = 0 ∧ (p2.toInt < 0 ∨ 2 < p2.toInt)))
    (c18 : x15.toInt ≠ 0)
    (t30 : 0 ≤ p0.toInt ∧ p0.toInt ≤ 2 ∧ 0 ≤ p1.toInt ∧ p1.toInt ≤ 29 → x30.toInt = 4 * (30 * p0.toInt + p1.toInt))
    (t34 : x34.toInt = x30.toInt + (1 : Int) ∨ x30.toInt + (1 : Int) < -2147483648 ∨ 2147483648 ≤ x30.toInt + (1 : Int))
    (t36 : x36.toInt = x34.toInt + p2.toInt ∨ x34.toInt + p2.toInt < -2147483648 ∨ 2147483648 ≤ x34.toInt + p2.toInt)
    (I47_0 : -99 ≤ l6_47.toInt ∧ l6_47.toInt ≤ 100)
    (c51 : (99 : Int) < l6_47.toInt) :
    RM (G132.2.1 (F a 1)) 0 := by
  have hb9 : (0 ≤ p0.toInt ∧ p0.toInt < 3) ∧ (0 ≤ p1.toInt ∧ p1.toInt < 30) ∧ (0 ≤ p2.toInt ∧ p2.toInt ≤ 2) := by omega
  have hc9 : (cel (mw (G.2.1 (F a 1)) 0) (p0.toInt) (p1.toInt) 0) ≠ -2000 := by omega
  have hx9 : x36.toInt = 4 * (30 * p0.toInt + p1.toInt) + 1 + p2.toInt := by omega
  clear z5 t8 t15 t30 t34 t36
  have hx : x36.toInt = 0 + 4 * (30 * p0.toInt + p1.toInt) + 1 + p2.toInt := by omega
  have hv : aI (G25.2.1 (F a 4)) x36.toInt = -1000 ∨ (-99 ≤ aI (G25.2.1 (F a 4)) x36.toInt ∧ aI (G25.2.1 (F a 4)) x36.toInt ≤ 99) := by
    rcases oq25a.okc (t := p0.toInt) (k := p1.toInt) (c := p2.toInt) (by omega) with h | h
    · exfalso
      have h9 := (oq25a.absent p0.toInt p1.toInt p2.toInt (by omega)).mp h.2
      rw [oq25] at h9
      omega
    · rw [hx]; exact h.2.2
  exact rm.set (t := p0.toInt) (k := p1.toInt) (c := p2.toInt) (by omega) (by decide) (by omega) (aI_pu hG132 rfl rfl hv131 (by omega)) hv
theorem v_X11_least_135_9 {K : Nat → Nat} {F : Nat → Nat → Nat} (a : Nat) (G : XG) (G_47 : XG) (p0 : Int32) (p2 : Int32) (p1 : Int32) (l5_47 : Int32) (l6_47 : Int32) (x8 : Int32) (x15 : Int32) (x30 : Int32) (N47 : Nat)
    (ha : K a = 13)
    (fl : aI (G_47.2.1 (F a 1)) (0 + 4 * (30 * p0.toInt + p1.toInt)) = 1)
    (lp : (l5_47.toInt = -2147483648 ∧ ∀ v : Int, -99 ≤ v → v < l6_47.toInt → v ≠ (cel (mw (G.2.1 (F a 1)) 0) p0.toInt p1.toInt p2.toInt) → ffP (G.2.1 (F a 10)) (rset (mw (G.2.1 (F a 1)) 0) (90 * p0.toInt + 30 * p2.toInt + p1.toInt) v) (fuO (G.2.1 (F a 10)) (mw (G.2.1 (F a 1)) 0) (rset (mw (G.2.1 (F a 1)) 0) (90 * p0.toInt + 30 * p2.toInt + p1.toInt) v) 2) ≠ -1) ∨ (l5_47.toInt ≠ -2147483648 ∧ LsS (fun v => ffP (G.2.1 (F a 10)) (rset (mw (G.2.1 (F a 1)) 0) (90 * p0.toInt + 30 * p2.toInt + p1.toInt) v) (fuO (G.2.1 (F a 10)) (mw (G.2.1 (F a 1)) 0) (rset (mw (G.2.1 (F a 1)) 0) (90 * p0.toInt + 30 * p2.toInt + p1.toInt) v) 2) = -1) (cel (mw (G.2.1 (F a 1)) 0) p0.toInt p1.toInt p2.toInt) l5_47.toInt))
    (z5 : ¬ (0 ≤ p0.toInt ∧ p0.toInt < 3 ∧ 0 ≤ p1.toInt ∧ p1.toInt < 30) → (cel (mw (G.2.1 (F a 1)) 0) (p0.toInt) (p1.toInt) 0) = -2000)
    (t8 : (x8.toInt = 1 ∧ (cel (mw (G.2.1 (F a 1)) 0) (p0.toInt) (p1.toInt) 0) ≠ -2000) ∨ (x8.toInt = 0 ∧ (cel (mw (G.2.1 (F a 1)) 0) (p0.toInt) (p1.toInt) 0) = -2000))
    (c11 : ¬ (x8.toInt = 0))
    (t15 : (x15.toInt = 1 ∧ 0 ≤ p2.toInt ∧ p2.toInt ≤ 2) ∨ (x15.toInt = 0 ∧ (p2.toInt < 0 ∨ 2 < p2.toInt)))
    (c18 : x15.toInt ≠ 0)
    (t30 : 0 ≤ p0.toInt ∧ p0.toInt ≤ 2 ∧ 0 ≤ p1.toInt ∧ p1.toInt ≤ 29 → x30.toInt = 4 * (30 * p0.toInt + p1.toInt))
    (I47_0 : -99 ≤ l6_47.toInt ∧ l6_47.toInt ≤ 100)
    (hm47 : 200 - l6_47.toInt < (((N47) + 1 : Nat) : Int))
    (c51 : (99 : Int) < l6_47.toInt) :
    (¬ (cel (mw (G.2.1 (F a 1)) 0) p0.toInt p1.toInt 0 ≠ -2000 ∧ 0 ≤ p2.toInt ∧ p2.toInt < 3) ∧ l5_47.toInt = -2147483648) ∨ ((cel (mw (G.2.1 (F a 1)) 0) p0.toInt p1.toInt 0 ≠ -2000 ∧ 0 ≤ p2.toInt ∧ p2.toInt < 3) ∧ LsS (fun v => ffP (G.2.1 (F a 10)) (rset (mw (G.2.1 (F a 1)) 0) (90 * p0.toInt + 30 * p2.toInt + p1.toInt) v) (fuO (G.2.1 (F a 10)) (mw (G.2.1 (F a 1)) 0) (rset (mw (G.2.1 (F a 1)) 0) (90 * p0.toInt + 30 * p2.toInt + p1.toInt) v) 2) = -1) (cel (mw (G.2.1 (F a 1)) 0) p0.toInt p1.toInt p2.toInt) l5_47.toInt) := by
  have hb9 : (0 ≤ p0.toInt ∧ p0.toInt < 3) ∧ (0 ≤ p1.toInt ∧ p1.toInt < 30) ∧ (0 ≤ p2.toInt ∧ p2.toInt ≤ 2) := by omega
  have hc9 : (cel (mw (G.2.1 (F a 1)) 0) (p0.toInt) (p1.toInt) 0) ≠ -2000 := by omega
  clear z5 t8 t15
  rcases lp with ⟨e, h⟩ | ⟨-, h⟩
  · first
      | (exfalso; omega)
      | exact Or.inr ⟨by omega, by rw [e]; exact LsS_no (fun v a1 a2 a3 => h v a1 (by omega) a3)⟩
  · exact Or.inr ⟨by omega, h⟩
theorem v_X11_least_135_10 {F : Nat → Nat → Nat} (G132 : XG) (G_47 : XG) (a : Nat) (x36 : Int32) (x131 : Int32) (G25 : XG) (G : XG) (p0 : Int32) (p2 : Int32) (p1 : Int32) (x8 : Int32) (x15 : Int32) (x30 : Int32) (x34 : Int32) (l6_47 : Int32)
    (hG132 : G132 = cput G_47 (F a 1) x36.toNatClampNeg x131)
    (oq25 : mw (G25.2.1 (F a 4)) 0 = mw (G.2.1 (F a 1)) 0)
    (oq25a : RM (G25.2.1 (F a 4)) 0)
    (pm : ∀ v : Int, rset (mw (G_47.2.1 (F a 1)) 0) (90 * p0.toInt + 30 * p2.toInt + p1.toInt) v = rset (mw (G.2.1 (F a 1)) 0) (90 * p0.toInt + 30 * p2.toInt + p1.toInt) v)
    (fl : aI (G_47.2.1 (F a 1)) (0 + 4 * (30 * p0.toInt + p1.toInt)) = 1)
    (hv131 : x131.toInt = (aI (G25.2.1 (F a 4)) (x36.toInt)))
    (z5 : ¬ (0 ≤ p0.toInt ∧ p0.toInt < 3 ∧ 0 ≤ p1.toInt ∧ p1.toInt < 30) → (cel (mw (G.2.1 (F a 1)) 0) (p0.toInt) (p1.toInt) 0) = -2000)
    (t8 : (x8.toInt = 1 ∧ (cel (mw (G.2.1 (F a 1)) 0) (p0.toInt) (p1.toInt) 0) ≠ -2000) ∨ (x8.toInt = 0 ∧ (cel (mw (G.2.1 (F a 1)) 0) (p0.toInt) (p1.toInt) 0) = -2000))
    (c11 : ¬ (x8.toInt = 0))
    (t15 : (x15.toInt = 1 ∧ 0 ≤ p2.toInt ∧ p2.toInt ≤ 2) ∨ (x15.toInt = 0 ∧ (p2.toInt < 0 ∨ 2 < p2.toInt)))
    (c18 : x15.toInt ≠ 0)
    (t30 : 0 ≤ p0.toInt ∧ p0.toInt ≤ 2 ∧ 0 ≤ p1.toInt ∧ p1.toInt ≤ 29 → x30.toInt = 4 * (30 * p0.toInt + p1.toInt))
    (t34 : x34.toInt = x30.toInt + (1 : Int) ∨ x30.toInt + (1 : Int) < -2147483648 ∨ 2147483648 ≤ x30.toInt + (1 : Int))
    (t36 : x36.toInt = x34.toInt + p2.toInt ∨ x34.toInt + p2.toInt < -2147483648 ∨ 2147483648 ≤ x34.toInt + p2.toInt)
    (I47_0 : -99 ≤ l6_47.toInt ∧ l6_47.toInt ≤ 100)
    (c51 : ¬ ((99 : Int) < l6_47.toInt)) :
    mw (G132.2.1 (F a 1)) 0 = mw (G.2.1 (F a 1)) 0 := by
  have hb9 : (0 ≤ p0.toInt ∧ p0.toInt < 3) ∧ (0 ≤ p1.toInt ∧ p1.toInt < 30) ∧ (0 ≤ p2.toInt ∧ p2.toInt ≤ 2) := by omega
  have hc9 : (cel (mw (G.2.1 (F a 1)) 0) (p0.toInt) (p1.toInt) 0) ≠ -2000 := by omega
  have hx9 : x36.toInt = 4 * (30 * p0.toInt + p1.toInt) + 1 + p2.toInt := by omega
  clear z5 t8 t15 t30 t34 t36
  have fa : aI (G25.2.1 (F a 4)) (0 + 4 * (30 * p0.toInt + p1.toInt)) = 1 := by
    rcases oq25a.flag (t := p0.toInt) (k := p1.toInt) (by omega) with h | h
    · exfalso; rw [oq25] at h; omega
    · exact h.1
  have e1 := mw_set (b := 0) (t := p0.toInt) (k := p1.toInt) (c := p2.toInt) (by omega) (by decide) (by omega) (aI_pu hG132 rfl rfl hv131 (by omega)) fl
  have e2 := mw_at (f := G25.2.1 (F a 4)) (b := 0) (t := p0.toInt) (k := p1.toInt) (c := p2.toInt) (by omega) fa
  rw [oq25] at e2
  have e3 : aI (G25.2.1 (F a 4)) x36.toInt = mw (G.2.1 (F a 1)) 0 (90 * p0.toInt + 30 * p2.toInt + p1.toInt) := by
    rw [e2]; congr 1; omega
  rw [e1, pm, e3, rset_same]
theorem v_X11_least_135_11 {F : Nat → Nat → Nat} (G132 : XG) (G_47 : XG) (a : Nat) (x36 : Int32) (x131 : Int32) (G25 : XG) (G : XG) (p0 : Int32) (p2 : Int32) (p1 : Int32) (x8 : Int32) (x15 : Int32) (x30 : Int32) (x34 : Int32) (l6_47 : Int32)
    (hG132 : G132 = cput G_47 (F a 1) x36.toNatClampNeg x131)
    (oq25 : mw (G25.2.1 (F a 4)) 0 = mw (G.2.1 (F a 1)) 0)
    (oq25a : RM (G25.2.1 (F a 4)) 0)
    (rm : RM (G_47.2.1 (F a 1)) 0)
    (fl : aI (G_47.2.1 (F a 1)) (0 + 4 * (30 * p0.toInt + p1.toInt)) = 1)
    (hv131 : x131.toInt = (aI (G25.2.1 (F a 4)) (x36.toInt)))
    (z5 : ¬ (0 ≤ p0.toInt ∧ p0.toInt < 3 ∧ 0 ≤ p1.toInt ∧ p1.toInt < 30) → (cel (mw (G.2.1 (F a 1)) 0) (p0.toInt) (p1.toInt) 0) = -2000)
    (t8 : (x8.toInt = 1 ∧ (cel (mw (G.2.1 (F a 1)) 0) (p0.toInt) (p1.toInt) 0) ≠ -2000) ∨ (x8.toInt = 0 ∧ (cel (mw (G.2.1 (F a 1)) 0) (p0.toInt) (p1.toInt) 0) = -2000))
    (c11 : ¬ (x8.toInt = 0))
    (t15 : (x15.toInt = 1 ∧ 0 ≤ p2.toInt ∧ p2.toInt ≤ 2) ∨ (x15.toInt = 0 ∧ (p2.toInt < 0 ∨ 2 < p2.toInt)))
    (c18 : x15.toInt ≠ 0)
    (t30 : 0 ≤ p0.toInt ∧ p0.toInt ≤ 2 ∧ 0 ≤ p1.toInt ∧ p1.toInt ≤ 29 → x30.toInt = 4 * (30 * p0.toInt + p1.toInt))
    (t34 : x34.toInt = x30.toInt + (1 : Int) ∨ x30.toInt + (1 : Int) < -2147483648 ∨ 2147483648 ≤ x30.toInt + (1 : Int))
    (t36 : x36.toInt = x34.toInt + p2.toInt ∨ x34.toInt + p2.toInt < -2147483648 ∨ 2147483648 ≤ x34.toInt + p2.toInt)
    (I47_0 : -99 ≤ l6_47.toInt ∧ l6_47.toInt ≤ 100)
    (c51 : ¬ ((99 : Int) < l6_47.toInt)) :
    RM (G132.2.1 (F a 1)) 0 := by
  have hb9 : (0 ≤ p0.toInt ∧ p0.toInt < 3) ∧ (0 ≤ p1.toInt ∧ p1.toInt < 30) ∧ (0 ≤ p2.toInt ∧ p2.toInt ≤ 2) := by omega
  have hc9 : (cel (mw (G.2.1 (F a 1)) 0) (p0.toInt) (p1.toInt) 0) ≠ -2000 := by omega
  have hx9 : x36.toInt = 4 * (30 * p0.toInt + p1.toInt) + 1 + p2.toInt := by omega
  clear z5 t8 t15 t30 t34 t36
  have hx : x36.toInt = 0 + 4 * (30 * p0.toInt + p1.toInt) + 1 + p2.toInt := by omega
  have hv : aI (G25.2.1 (F a 4)) x36.toInt = -1000 ∨ (-99 ≤ aI (G25.2.1 (F a 4)) x36.toInt ∧ aI (G25.2.1 (F a 4)) x36.toInt ≤ 99) := by
    rcases oq25a.okc (t := p0.toInt) (k := p1.toInt) (c := p2.toInt) (by omega) with h | h
    · exfalso
      have h9 := (oq25a.absent p0.toInt p1.toInt p2.toInt (by omega)).mp h.2
      rw [oq25] at h9
      omega
    · rw [hx]; exact h.2.2
  exact rm.set (t := p0.toInt) (k := p1.toInt) (c := p2.toInt) (by omega) (by decide) (by omega) (aI_pu hG132 rfl rfl hv131 (by omega)) hv
theorem v_X11_least_135_12 {K : Nat → Nat} {F : Nat → Nat → Nat} (a : Nat) (G : XG) (G_47 : XG) (p0 : Int32) (p2 : Int32) (p1 : Int32) (l5_47 : Int32) (l6_47 : Int32) (x8 : Int32) (x15 : Int32) (x30 : Int32) (N47 : Nat)
    (ha : K a = 13)
    (fl : aI (G_47.2.1 (F a 1)) (0 + 4 * (30 * p0.toInt + p1.toInt)) = 1)
    (lp : (l5_47.toInt = -2147483648 ∧ ∀ v : Int, -99 ≤ v → v < l6_47.toInt → v ≠ (cel (mw (G.2.1 (F a 1)) 0) p0.toInt p1.toInt p2.toInt) → ffP (G.2.1 (F a 10)) (rset (mw (G.2.1 (F a 1)) 0) (90 * p0.toInt + 30 * p2.toInt + p1.toInt) v) (fuO (G.2.1 (F a 10)) (mw (G.2.1 (F a 1)) 0) (rset (mw (G.2.1 (F a 1)) 0) (90 * p0.toInt + 30 * p2.toInt + p1.toInt) v) 2) ≠ -1) ∨ (l5_47.toInt ≠ -2147483648 ∧ LsS (fun v => ffP (G.2.1 (F a 10)) (rset (mw (G.2.1 (F a 1)) 0) (90 * p0.toInt + 30 * p2.toInt + p1.toInt) v) (fuO (G.2.1 (F a 10)) (mw (G.2.1 (F a 1)) 0) (rset (mw (G.2.1 (F a 1)) 0) (90 * p0.toInt + 30 * p2.toInt + p1.toInt) v) 2) = -1) (cel (mw (G.2.1 (F a 1)) 0) p0.toInt p1.toInt p2.toInt) l5_47.toInt))
    (z5 : ¬ (0 ≤ p0.toInt ∧ p0.toInt < 3 ∧ 0 ≤ p1.toInt ∧ p1.toInt < 30) → (cel (mw (G.2.1 (F a 1)) 0) (p0.toInt) (p1.toInt) 0) = -2000)
    (t8 : (x8.toInt = 1 ∧ (cel (mw (G.2.1 (F a 1)) 0) (p0.toInt) (p1.toInt) 0) ≠ -2000) ∨ (x8.toInt = 0 ∧ (cel (mw (G.2.1 (F a 1)) 0) (p0.toInt) (p1.toInt) 0) = -2000))
    (c11 : ¬ (x8.toInt = 0))
    (t15 : (x15.toInt = 1 ∧ 0 ≤ p2.toInt ∧ p2.toInt ≤ 2) ∨ (x15.toInt = 0 ∧ (p2.toInt < 0 ∨ 2 < p2.toInt)))
    (c18 : x15.toInt ≠ 0)
    (t30 : 0 ≤ p0.toInt ∧ p0.toInt ≤ 2 ∧ 0 ≤ p1.toInt ∧ p1.toInt ≤ 29 → x30.toInt = 4 * (30 * p0.toInt + p1.toInt))
    (I47_0 : -99 ≤ l6_47.toInt ∧ l6_47.toInt ≤ 100)
    (hm47 : 200 - l6_47.toInt < (((N47) + 1 : Nat) : Int))
    (c51 : ¬ ((99 : Int) < l6_47.toInt))
    (c58 : l5_47.toInt ≠ (-2147483648 : Int)) :
    (¬ (cel (mw (G.2.1 (F a 1)) 0) p0.toInt p1.toInt 0 ≠ -2000 ∧ 0 ≤ p2.toInt ∧ p2.toInt < 3) ∧ l5_47.toInt = -2147483648) ∨ ((cel (mw (G.2.1 (F a 1)) 0) p0.toInt p1.toInt 0 ≠ -2000 ∧ 0 ≤ p2.toInt ∧ p2.toInt < 3) ∧ LsS (fun v => ffP (G.2.1 (F a 10)) (rset (mw (G.2.1 (F a 1)) 0) (90 * p0.toInt + 30 * p2.toInt + p1.toInt) v) (fuO (G.2.1 (F a 10)) (mw (G.2.1 (F a 1)) 0) (rset (mw (G.2.1 (F a 1)) 0) (90 * p0.toInt + 30 * p2.toInt + p1.toInt) v) 2) = -1) (cel (mw (G.2.1 (F a 1)) 0) p0.toInt p1.toInt p2.toInt) l5_47.toInt) := by
  have hb9 : (0 ≤ p0.toInt ∧ p0.toInt < 3) ∧ (0 ≤ p1.toInt ∧ p1.toInt < 30) ∧ (0 ≤ p2.toInt ∧ p2.toInt ≤ 2) := by omega
  have hc9 : (cel (mw (G.2.1 (F a 1)) 0) (p0.toInt) (p1.toInt) 0) ≠ -2000 := by omega
  clear z5 t8 t15
  rcases lp with ⟨e, h⟩ | ⟨-, h⟩
  · first
      | (exfalso; omega)
      | exact Or.inr ⟨by omega, by rw [e]; exact LsS_no (fun v a1 a2 a3 => h v a1 (by omega) a3)⟩
  · exact Or.inr ⟨by omega, h⟩
theorem v_X11_least_116_13 {F : Nat → Nat → Nat} (G_47 : XG) (a : Nat) (p0 : Int32) (p2 : Int32) (p1 : Int32) (G : XG) (x8 : Int32) (x15 : Int32) (x30 : Int32) (l6_47 : Int32)
    (rm : RM (G_47.2.1 (F a 1)) 0)
    (fl : aI (G_47.2.1 (F a 1)) (0 + 4 * (30 * p0.toInt + p1.toInt)) = 1)
    (z5 : ¬ (0 ≤ p0.toInt ∧ p0.toInt < 3 ∧ 0 ≤ p1.toInt ∧ p1.toInt < 30) → (cel (mw (G.2.1 (F a 1)) 0) (p0.toInt) (p1.toInt) 0) = -2000)
    (t8 : (x8.toInt = 1 ∧ (cel (mw (G.2.1 (F a 1)) 0) (p0.toInt) (p1.toInt) 0) ≠ -2000) ∨ (x8.toInt = 0 ∧ (cel (mw (G.2.1 (F a 1)) 0) (p0.toInt) (p1.toInt) 0) = -2000))
    (c11 : ¬ (x8.toInt = 0))
    (t15 : (x15.toInt = 1 ∧ 0 ≤ p2.toInt ∧ p2.toInt ≤ 2) ∨ (x15.toInt = 0 ∧ (p2.toInt < 0 ∨ 2 < p2.toInt)))
    (c18 : x15.toInt ≠ 0)
    (t30 : 0 ≤ p0.toInt ∧ p0.toInt ≤ 2 ∧ 0 ≤ p1.toInt ∧ p1.toInt ≤ 29 → x30.toInt = 4 * (30 * p0.toInt + p1.toInt))
    (I47_0 : -99 ≤ l6_47.toInt ∧ l6_47.toInt ≤ 100)
    (c51 : ¬ ((99 : Int) < l6_47.toInt)) :
    RM (G_47.2.1 (F a 1)) 0 := by
  have hb9 : (0 ≤ p0.toInt ∧ p0.toInt < 3) ∧ (0 ≤ p1.toInt ∧ p1.toInt < 30) ∧ (0 ≤ p2.toInt ∧ p2.toInt ≤ 2) := by omega
  have hc9 : (cel (mw (G.2.1 (F a 1)) 0) (p0.toInt) (p1.toInt) 0) ≠ -2000 := by omega
  clear z5 t8 t15
  first
    | exact rm
    | exact rm.set (t := p0.toInt) (k := p1.toInt) (c := p2.toInt) (by omega) (by decide) (by omega) (aI_pu hG81 rfl rfl rfl (by omega)) (by omega)
theorem v_X11_least_116_14 {F : Nat → Nat → Nat} (G_47 : XG) (a : Nat) (p0 : Int32) (p2 : Int32) (p1 : Int32) (G : XG) (x8 : Int32) (x15 : Int32) (x30 : Int32) (l6_47 : Int32)
    (pm : ∀ v : Int, rset (mw (G_47.2.1 (F a 1)) 0) (90 * p0.toInt + 30 * p2.toInt + p1.toInt) v = rset (mw (G.2.1 (F a 1)) 0) (90 * p0.toInt + 30 * p2.toInt + p1.toInt) v)
    (fl : aI (G_47.2.1 (F a 1)) (0 + 4 * (30 * p0.toInt + p1.toInt)) = 1)
    (z5 : ¬ (0 ≤ p0.toInt ∧ p0.toInt < 3 ∧ 0 ≤ p1.toInt ∧ p1.toInt < 30) → (cel (mw (G.2.1 (F a 1)) 0) (p0.toInt) (p1.toInt) 0) = -2000)
    (t8 : (x8.toInt = 1 ∧ (cel (mw (G.2.1 (F a 1)) 0) (p0.toInt) (p1.toInt) 0) ≠ -2000) ∨ (x8.toInt = 0 ∧ (cel (mw (G.2.1 (F a 1)) 0) (p0.toInt) (p1.toInt) 0) = -2000))
    (c11 : ¬ (x8.toInt = 0))
    (t15 : (x15.toInt = 1 ∧ 0 ≤ p2.toInt ∧ p2.toInt ≤ 2) ∨ (x15.toInt = 0 ∧ (p2.toInt < 0 ∨ 2 < p2.toInt)))
    (c18 : x15.toInt ≠ 0)
    (t30 : 0 ≤ p0.toInt ∧ p0.toInt ≤ 2 ∧ 0 ≤ p1.toInt ∧ p1.toInt ≤ 29 → x30.toInt = 4 * (30 * p0.toInt + p1.toInt))
    (I47_0 : -99 ≤ l6_47.toInt ∧ l6_47.toInt ≤ 100)
    (c51 : ¬ ((99 : Int) < l6_47.toInt)) :
    ∀ v : Int, rset (mw (G_47.2.1 (F a 1)) 0) (90 * p0.toInt + 30 * p2.toInt + p1.toInt) v = rset (mw (G.2.1 (F a 1)) 0) (90 * p0.toInt + 30 * p2.toInt + p1.toInt) v := by
  have hb9 : (0 ≤ p0.toInt ∧ p0.toInt < 3) ∧ (0 ≤ p1.toInt ∧ p1.toInt < 30) ∧ (0 ≤ p2.toInt ∧ p2.toInt ≤ 2) := by omega
  have hc9 : (cel (mw (G.2.1 (F a 1)) 0) (p0.toInt) (p1.toInt) 0) ≠ -2000 := by omega
  clear z5 t8 t15
  intro v
  first
    | exact pm v
    | (rw [mw_set (b := 0) (t := p0.toInt) (k := p1.toInt) (c := p2.toInt) (by omega) (by decide) (by omega) (aI_pu hG81 rfl rfl rfl (by omega)) fl, rset_rset]; exact pm v)
theorem v_X11_least_116_15 {F : Nat → Nat → Nat} (G_47 : XG) (a : Nat) (p0 : Int32) (p2 : Int32) (p1 : Int32) (G : XG) (x8 : Int32) (x15 : Int32) (x30 : Int32) (l6_47 : Int32)
    (fl : aI (G_47.2.1 (F a 1)) (0 + 4 * (30 * p0.toInt + p1.toInt)) = 1)
    (z5 : ¬ (0 ≤ p0.toInt ∧ p0.toInt < 3 ∧ 0 ≤ p1.toInt ∧ p1.toInt < 30) → (cel (mw (G.2.1 (F a 1)) 0) (p0.toInt) (p1.toInt) 0) = -2000)
    (t8 : (x8.toInt = 1 ∧ (cel (mw (G.2.1 (F a 1)) 0) (p0.toInt) (p1.toInt) 0) ≠ -2000) ∨ (x8.toInt = 0 ∧ (cel (mw (G.2.1 (F a 1)) 0) (p0.toInt) (p1.toInt) 0) = -2000))
    (c11 : ¬ (x8.toInt = 0))
    (t15 : (x15.toInt = 1 ∧ 0 ≤ p2.toInt ∧ p2.toInt ≤ 2) ∨ (x15.toInt = 0 ∧ (p2.toInt < 0 ∨ 2 < p2.toInt)))
    (c18 : x15.toInt ≠ 0)
    (t30 : 0 ≤ p0.toInt ∧ p0.toInt ≤ 2 ∧ 0 ≤ p1.toInt ∧ p1.toInt ≤ 29 → x30.toInt = 4 * (30 * p0.toInt + p1.toInt))
    (I47_0 : -99 ≤ l6_47.toInt ∧ l6_47.toInt ≤ 100)
    (c51 : ¬ ((99 : Int) < l6_47.toInt)) :
    aI (G_47.2.1 (F a 1)) (0 + 4 * (30 * p0.toInt + p1.toInt)) = 1 := by
  have hb9 : (0 ≤ p0.toInt ∧ p0.toInt < 3) ∧ (0 ≤ p1.toInt ∧ p1.toInt < 30) ∧ (0 ≤ p2.toInt ∧ p2.toInt ≤ 2) := by omega
  have hc9 : (cel (mw (G.2.1 (F a 1)) 0) (p0.toInt) (p1.toInt) 0) ≠ -2000 := by omega
  clear z5 t8 t15
  first
    | exact fl
    | (rw [aI_pu hG81 rfl rfl rfl (by omega) _ (by omega), if_neg (by omega)]; exact fl)
theorem v_X11_least_116_16 {K : Nat → Nat} {F : Nat → Nat → Nat} (a : Nat) (G : XG) (G25 : XG) (G_47 : XG) (p0 : Int32) (p2 : Int32) (p1 : Int32) (l5_47 : Int32) (l6_47 : Int32) (x36 : Int32) (x8 : Int32) (x15 : Int32) (x30 : Int32) (x34 : Int32) (N47 : Nat)
    (ha : K a = 13)
    (oq25 : mw (G25.2.1 (F a 4)) 0 = mw (G.2.1 (F a 1)) 0)
    (oq25a : RM (G25.2.1 (F a 4)) 0)
    (pm : ∀ v : Int, rset (mw (G_47.2.1 (F a 1)) 0) (90 * p0.toInt + 30 * p2.toInt + p1.toInt) v = rset (mw (G.2.1 (F a 1)) 0) (90 * p0.toInt + 30 * p2.toInt + p1.toInt) v)
    (fl : aI (G_47.2.1 (F a 1)) (0 + 4 * (30 * p0.toInt + p1.toInt)) = 1)
    (lp : (l5_47.toInt = -2147483648 ∧ ∀ v : Int, -99 ≤ v → v < l6_47.toInt → v ≠ (cel (mw (G.2.1 (F a 1)) 0) p0.toInt p1.toInt p2.toInt) → ffP (G.2.1 (F a 10)) (rset (mw (G.2.1 (F a 1)) 0) (90 * p0.toInt + 30 * p2.toInt + p1.toInt) v) (fuO (G.2.1 (F a 10)) (mw (G.2.1 (F a 1)) 0) (rset (mw (G.2.1 (F a 1)) 0) (90 * p0.toInt + 30 * p2.toInt + p1.toInt) v) 2) ≠ -1) ∨ (l5_47.toInt ≠ -2147483648 ∧ LsS (fun v => ffP (G.2.1 (F a 10)) (rset (mw (G.2.1 (F a 1)) 0) (90 * p0.toInt + 30 * p2.toInt + p1.toInt) v) (fuO (G.2.1 (F a 10)) (mw (G.2.1 (F a 1)) 0) (rset (mw (G.2.1 (F a 1)) 0) (90 * p0.toInt + 30 * p2.toInt + p1.toInt) v) 2) = -1) (cel (mw (G.2.1 (F a 1)) 0) p0.toInt p1.toInt p2.toInt) l5_47.toInt))
    (z5 : ¬ (0 ≤ p0.toInt ∧ p0.toInt < 3 ∧ 0 ≤ p1.toInt ∧ p1.toInt < 30) → (cel (mw (G.2.1 (F a 1)) 0) (p0.toInt) (p1.toInt) 0) = -2000)
    (t8 : (x8.toInt = 1 ∧ (cel (mw (G.2.1 (F a 1)) 0) (p0.toInt) (p1.toInt) 0) ≠ -2000) ∨ (x8.toInt = 0 ∧ (cel (mw (G.2.1 (F a 1)) 0) (p0.toInt) (p1.toInt) 0) = -2000))
    (c11 : ¬ (x8.toInt = 0))
    (t15 : (x15.toInt = 1 ∧ 0 ≤ p2.toInt ∧ p2.toInt ≤ 2) ∨ (x15.toInt = 0 ∧ (p2.toInt < 0 ∨ 2 < p2.toInt)))
    (c18 : x15.toInt ≠ 0)
    (t30 : 0 ≤ p0.toInt ∧ p0.toInt ≤ 2 ∧ 0 ≤ p1.toInt ∧ p1.toInt ≤ 29 → x30.toInt = 4 * (30 * p0.toInt + p1.toInt))
    (t34 : x34.toInt = x30.toInt + (1 : Int) ∨ x30.toInt + (1 : Int) < -2147483648 ∨ 2147483648 ≤ x30.toInt + (1 : Int))
    (t36 : x36.toInt = x34.toInt + p2.toInt ∨ x34.toInt + p2.toInt < -2147483648 ∨ 2147483648 ≤ x34.toInt + p2.toInt)
    (I47_0 : -99 ≤ l6_47.toInt ∧ l6_47.toInt ≤ 100)
    (hm47 : 200 - l6_47.toInt < (((N47) + 1 : Nat) : Int))
    (c51 : ¬ ((99 : Int) < l6_47.toInt))
    (c58 : ¬ (l5_47.toInt ≠ (-2147483648 : Int)))
    (c70 : l6_47.toInt = (aI (G25.2.1 (F a 4)) (x36.toInt))) :
    (l5_47.toInt = -2147483648 ∧ ∀ v : Int, -99 ≤ v → v < (l6_47.toInt + 1) → v ≠ (cel (mw (G.2.1 (F a 1)) 0) p0.toInt p1.toInt p2.toInt) → ffP (G.2.1 (F a 10)) (rset (mw (G.2.1 (F a 1)) 0) (90 * p0.toInt + 30 * p2.toInt + p1.toInt) v) (fuO (G.2.1 (F a 10)) (mw (G.2.1 (F a 1)) 0) (rset (mw (G.2.1 (F a 1)) 0) (90 * p0.toInt + 30 * p2.toInt + p1.toInt) v) 2) ≠ -1) ∨ (l5_47.toInt ≠ -2147483648 ∧ LsS (fun v => ffP (G.2.1 (F a 10)) (rset (mw (G.2.1 (F a 1)) 0) (90 * p0.toInt + 30 * p2.toInt + p1.toInt) v) (fuO (G.2.1 (F a 10)) (mw (G.2.1 (F a 1)) 0) (rset (mw (G.2.1 (F a 1)) 0) (90 * p0.toInt + 30 * p2.toInt + p1.toInt) v) 2) = -1) (cel (mw (G.2.1 (F a 1)) 0) p0.toInt p1.toInt p2.toInt) l5_47.toInt) := by
  have hb9 : (0 ≤ p0.toInt ∧ p0.toInt < 3) ∧ (0 ≤ p1.toInt ∧ p1.toInt < 30) ∧ (0 ≤ p2.toInt ∧ p2.toInt ≤ 2) := by omega
  have hc9 : (cel (mw (G.2.1 (F a 1)) 0) (p0.toInt) (p1.toInt) 0) ≠ -2000 := by omega
  have hx9 : x36.toInt = 4 * (30 * p0.toInt + p1.toInt) + 1 + p2.toInt := by omega
  clear z5 t8 t15 t30 t34 t36
  have e3 : aI (G25.2.1 (F a 4)) x36.toInt = cel (mw (G.2.1 (F a 1)) 0) p0.toInt p1.toInt p2.toInt := by
    have h := oq25a.cel0 (t := p0.toInt) (k := p1.toInt) (c := p2.toInt) (by omega) (by rw [oq25]; omega)
    rw [oq25] at h
    rw [show x36.toInt = 4 * (30 * p0.toInt + p1.toInt) + 1 + p2.toInt from by omega]
    exact h
  rcases lp with ⟨e, h⟩ | ⟨e, -⟩
  · first
      | exact Or.inl ⟨by omega, fun v a1 a2 a3 => h v a1 (by omega) a3⟩
      | (have ew := mw_set (b := 0) (t := p0.toInt) (k := p1.toInt) (c := p2.toInt) (by omega) (by decide) (by omega) (aI_pu hG81 rfl rfl rfl (by omega)) fl
         rw [pm] at ew
         rw [ew] at oq97 oq97a
         rw [oq97] at oq97a
         first
           | exact Or.inl ⟨rfl, fun v a1 a2 a3 => by
               by_cases g : v = l6_47.toInt
               · rw [g, ← oq97a]; exact c101
               · exact h v a1 (by omega) a3⟩
           | exact Or.inr ⟨by omega, LsS_yes ⟨by omega, by omega, by omega⟩ (oq97a.symm.trans (by omega)) h⟩)
  · exact absurd (show l5_47.toInt = -2147483648 by omega) e
theorem v_X11_least_92_17 {F : Nat → Nat → Nat} (a : Nat) (G : XG) (G81 : XG)
    (hR : RV (G.2.1 (F a 10)))
    (c_G81_F_a_10 : G81.2.1 (F a 10) = G.2.1 (F a 10)) :
    RV (G81.2.1 (F a 10)) := by simp only [c_G81_F_a_10]; assumption
theorem v_X11_least_92_18 {F : Nat → Nat → Nat} (G81 : XG) (G_47 : XG) (a : Nat) (x36 : Int32) (l6_47 : Int32) (p0 : Int32) (p2 : Int32) (p1 : Int32) (G : XG) (x8 : Int32) (x15 : Int32) (x30 : Int32) (x34 : Int32)
    (hG81 : G81 = cput G_47 (F a 1) x36.toNatClampNeg l6_47)
    (rm : RM (G_47.2.1 (F a 1)) 0)
    (fl : aI (G_47.2.1 (F a 1)) (0 + 4 * (30 * p0.toInt + p1.toInt)) = 1)
    (z5 : ¬ (0 ≤ p0.toInt ∧ p0.toInt < 3 ∧ 0 ≤ p1.toInt ∧ p1.toInt < 30) → (cel (mw (G.2.1 (F a 1)) 0) (p0.toInt) (p1.toInt) 0) = -2000)
    (t8 : (x8.toInt = 1 ∧ (cel (mw (G.2.1 (F a 1)) 0) (p0.toInt) (p1.toInt) 0) ≠ -2000) ∨ (x8.toInt = 0 ∧ (cel (mw (G.2.1 (F a 1)) 0) (p0.toInt) (p1.toInt) 0) = -2000))
    (c11 : ¬ (x8.toInt = 0))
    (t15 : (x15.toInt = 1 ∧ 0 ≤ p2.toInt ∧ p2.toInt ≤ 2) ∨ (x15.toInt = 0 ∧ (p2.toInt < 0 ∨ 2 < p2.toInt)))
    (c18 : x15.toInt ≠ 0)
    (t30 : 0 ≤ p0.toInt ∧ p0.toInt ≤ 2 ∧ 0 ≤ p1.toInt ∧ p1.toInt ≤ 29 → x30.toInt = 4 * (30 * p0.toInt + p1.toInt))
    (t34 : x34.toInt = x30.toInt + (1 : Int) ∨ x30.toInt + (1 : Int) < -2147483648 ∨ 2147483648 ≤ x30.toInt + (1 : Int))
    (t36 : x36.toInt = x34.toInt + p2.toInt ∨ x34.toInt + p2.toInt < -2147483648 ∨ 2147483648 ≤ x34.toInt + p2.toInt)
    (I47_0 : -99 ≤ l6_47.toInt ∧ l6_47.toInt ≤ 100)
    (c51 : ¬ ((99 : Int) < l6_47.toInt)) :
    RM (G81.2.1 (F a 1)) (0 : Int) := by
  have hb9 : (0 ≤ p0.toInt ∧ p0.toInt < 3) ∧ (0 ≤ p1.toInt ∧ p1.toInt < 30) ∧ (0 ≤ p2.toInt ∧ p2.toInt ≤ 2) := by omega
  have hc9 : (cel (mw (G.2.1 (F a 1)) 0) (p0.toInt) (p1.toInt) 0) ≠ -2000 := by omega
  have hx9 : x36.toInt = 4 * (30 * p0.toInt + p1.toInt) + 1 + p2.toInt := by omega
  clear z5 t8 t15 t30 t34 t36
  exact rm.set (t := p0.toInt) (k := p1.toInt) (c := p2.toInt) (by omega) (by decide) (by omega) (aI_pu hG81 rfl rfl rfl (by omega)) (by omega)
theorem v_X11_least_97_19 {F : Nat → Nat → Nat} (a : Nat) (G : XG) (G92 : XG)
    (hR : RV (G.2.1 (F a 10)))
    (c_G92_F_a_10 : G92.2.1 (F a 10) = G.2.1 (F a 10)) :
    RV (G92.2.1 (F a 10)) := by simp only [c_G92_F_a_10]; assumption
theorem v_X11_least_97_20 {F : Nat → Nat → Nat} (G81 : XG) (G_47 : XG) (a : Nat) (x36 : Int32) (l6_47 : Int32) (p0 : Int32) (p2 : Int32) (p1 : Int32) (G : XG) (x8 : Int32) (x15 : Int32) (x30 : Int32) (x34 : Int32) (G92 : XG)
    (hG81 : G81 = cput G_47 (F a 1) x36.toNatClampNeg l6_47)
    (rm : RM (G_47.2.1 (F a 1)) 0)
    (fl : aI (G_47.2.1 (F a 1)) (0 + 4 * (30 * p0.toInt + p1.toInt)) = 1)
    (z5 : ¬ (0 ≤ p0.toInt ∧ p0.toInt < 3 ∧ 0 ≤ p1.toInt ∧ p1.toInt < 30) → (cel (mw (G.2.1 (F a 1)) 0) (p0.toInt) (p1.toInt) 0) = -2000)
    (t8 : (x8.toInt = 1 ∧ (cel (mw (G.2.1 (F a 1)) 0) (p0.toInt) (p1.toInt) 0) ≠ -2000) ∨ (x8.toInt = 0 ∧ (cel (mw (G.2.1 (F a 1)) 0) (p0.toInt) (p1.toInt) 0) = -2000))
    (c11 : ¬ (x8.toInt = 0))
    (t15 : (x15.toInt = 1 ∧ 0 ≤ p2.toInt ∧ p2.toInt ≤ 2) ∨ (x15.toInt = 0 ∧ (p2.toInt < 0 ∨ 2 < p2.toInt)))
    (c18 : x15.toInt ≠ 0)
    (t30 : 0 ≤ p0.toInt ∧ p0.toInt ≤ 2 ∧ 0 ≤ p1.toInt ∧ p1.toInt ≤ 29 → x30.toInt = 4 * (30 * p0.toInt + p1.toInt))
    (t34 : x34.toInt = x30.toInt + (1 : Int) ∨ x30.toInt + (1 : Int) < -2147483648 ∨ 2147483648 ≤ x30.toInt + (1 : Int))
    (t36 : x36.toInt = x34.toInt + p2.toInt ∨ x34.toInt + p2.toInt < -2147483648 ∨ 2147483648 ≤ x34.toInt + p2.toInt)
    (I47_0 : -99 ≤ l6_47.toInt ∧ l6_47.toInt ≤ 100)
    (c51 : ¬ ((99 : Int) < l6_47.toInt))
    (c_G92_F_a_1 : G92.2.1 (F a 1) = G81.2.1 (F a 1)) :
    RM (G92.2.1 (F a 1)) (0) := by
  have hb9 : (0 ≤ p0.toInt ∧ p0.toInt < 3) ∧ (0 ≤ p1.toInt ∧ p1.toInt < 30) ∧ (0 ≤ p2.toInt ∧ p2.toInt ≤ 2) := by omega
  have hc9 : (cel (mw (G.2.1 (F a 1)) 0) (p0.toInt) (p1.toInt) 0) ≠ -2000 := by omega
  have hx9 : x36.toInt = 4 * (30 * p0.toInt + p1.toInt) + 1 + p2.toInt := by omega
  clear z5 t8 t15 t30 t34 t36
  (try rw [c_G92_F_a_1])
  exact rm.set (t := p0.toInt) (k := p1.toInt) (c := p2.toInt) (by omega) (by decide) (by omega) (aI_pu hG81 rfl rfl rfl (by omega)) (by omega)
theorem v_X11_least_97_21 {F : Nat → Nat → Nat} (G : XG) (a : Nat) (G25 : XG) (G92 : XG)
    (oq25b : LSt (G.2.1 (F a 10)) (G25.2.1 (F a 12)) (mw (G.2.1 (F a 1)) 0) 12)
    (c_G92_F_a_10 : G92.2.1 (F a 10) = G.2.1 (F a 10))
    (c_G92_F_a_12 : G92.2.1 (F a 12) = G25.2.1 (F a 12)) :
    LSt (G92.2.1 (F a 10)) (G92.2.1 (F a 12)) (mw (G.2.1 (F a 1)) 0) 12 := by
  rw [c_G92_F_a_10, c_G92_F_a_12]; exact oq25b
theorem v_X11_least_97_22 {F : Nat → Nat → Nat} (G : XG) (a : Nat) (G92 : XG) (G81 : XG)
    (oq92 : LSt (G.2.1 (F a 10)) (G92.2.1 (F a 11)) (mw (G81.2.1 (F a 1)) (0 : Int)) 12)
    (c_G81_F_a_10 : G81.2.1 (F a 10) = G.2.1 (F a 10))
    (c_G92_F_a_1 : G92.2.1 (F a 1) = G81.2.1 (F a 1))
    (c_G92_F_a_10 : G92.2.1 (F a 10) = G.2.1 (F a 10)) :
    LSt (G92.2.1 (F a 10)) (G92.2.1 (F a 11)) (mw (G92.2.1 (F a 1)) 0) 12 := by
  (try rw [c_G92_F_a_10])
  (try rw [c_G92_F_a_1])
  (try rw [c_G81_F_a_10] at oq92)
  exact oq92
theorem v_X11_least_116_23 {F : Nat → Nat → Nat} (G81 : XG) (G_47 : XG) (a : Nat) (x36 : Int32) (l6_47 : Int32) (p0 : Int32) (p2 : Int32) (p1 : Int32) (G : XG) (x8 : Int32) (x15 : Int32) (x30 : Int32) (x34 : Int32)
    (hG81 : G81 = cput G_47 (F a 1) x36.toNatClampNeg l6_47)
    (rm : RM (G_47.2.1 (F a 1)) 0)
    (fl : aI (G_47.2.1 (F a 1)) (0 + 4 * (30 * p0.toInt + p1.toInt)) = 1)
    (z5 : ¬ (0 ≤ p0.toInt ∧ p0.toInt < 3 ∧ 0 ≤ p1.toInt ∧ p1.toInt < 30) → (cel (mw (G.2.1 (F a 1)) 0) (p0.toInt) (p1.toInt) 0) = -2000)
    (t8 : (x8.toInt = 1 ∧ (cel (mw (G.2.1 (F a 1)) 0) (p0.toInt) (p1.toInt) 0) ≠ -2000) ∨ (x8.toInt = 0 ∧ (cel (mw (G.2.1 (F a 1)) 0) (p0.toInt) (p1.toInt) 0) = -2000))
    (c11 : ¬ (x8.toInt = 0))
    (t15 : (x15.toInt = 1 ∧ 0 ≤ p2.toInt ∧ p2.toInt ≤ 2) ∨ (x15.toInt = 0 ∧ (p2.toInt < 0 ∨ 2 < p2.toInt)))
    (c18 : x15.toInt ≠ 0)
    (t30 : 0 ≤ p0.toInt ∧ p0.toInt ≤ 2 ∧ 0 ≤ p1.toInt ∧ p1.toInt ≤ 29 → x30.toInt = 4 * (30 * p0.toInt + p1.toInt))
    (t34 : x34.toInt = x30.toInt + (1 : Int) ∨ x30.toInt + (1 : Int) < -2147483648 ∨ 2147483648 ≤ x30.toInt + (1 : Int))
    (t36 : x36.toInt = x34.toInt + p2.toInt ∨ x34.toInt + p2.toInt < -2147483648 ∨ 2147483648 ≤ x34.toInt + p2.toInt)
    (I47_0 : -99 ≤ l6_47.toInt ∧ l6_47.toInt ≤ 100)
    (c51 : ¬ ((99 : Int) < l6_47.toInt)) :
    RM (G81.2.1 (F a 1)) 0 := by
  have hb9 : (0 ≤ p0.toInt ∧ p0.toInt < 3) ∧ (0 ≤ p1.toInt ∧ p1.toInt < 30) ∧ (0 ≤ p2.toInt ∧ p2.toInt ≤ 2) := by omega
  have hc9 : (cel (mw (G.2.1 (F a 1)) 0) (p0.toInt) (p1.toInt) 0) ≠ -2000 := by omega
  have hx9 : x36.toInt = 4 * (30 * p0.toInt + p1.toInt) + 1 + p2.toInt := by omega
  clear z5 t8 t15 t30 t34 t36
  first
    | exact rm
    | exact rm.set (t := p0.toInt) (k := p1.toInt) (c := p2.toInt) (by omega) (by decide) (by omega) (aI_pu hG81 rfl rfl rfl (by omega)) (by omega)
theorem v_X11_least_116_24 {F : Nat → Nat → Nat} (G81 : XG) (G_47 : XG) (a : Nat) (x36 : Int32) (l6_47 : Int32) (p0 : Int32) (p2 : Int32) (p1 : Int32) (G : XG) (x8 : Int32) (x15 : Int32) (x30 : Int32) (x34 : Int32)
    (hG81 : G81 = cput G_47 (F a 1) x36.toNatClampNeg l6_47)
    (pm : ∀ v : Int, rset (mw (G_47.2.1 (F a 1)) 0) (90 * p0.toInt + 30 * p2.toInt + p1.toInt) v = rset (mw (G.2.1 (F a 1)) 0) (90 * p0.toInt + 30 * p2.toInt + p1.toInt) v)
    (fl : aI (G_47.2.1 (F a 1)) (0 + 4 * (30 * p0.toInt + p1.toInt)) = 1)
    (z5 : ¬ (0 ≤ p0.toInt ∧ p0.toInt < 3 ∧ 0 ≤ p1.toInt ∧ p1.toInt < 30) → (cel (mw (G.2.1 (F a 1)) 0) (p0.toInt) (p1.toInt) 0) = -2000)
    (t8 : (x8.toInt = 1 ∧ (cel (mw (G.2.1 (F a 1)) 0) (p0.toInt) (p1.toInt) 0) ≠ -2000) ∨ (x8.toInt = 0 ∧ (cel (mw (G.2.1 (F a 1)) 0) (p0.toInt) (p1.toInt) 0) = -2000))
    (c11 : ¬ (x8.toInt = 0))
    (t15 : (x15.toInt = 1 ∧ 0 ≤ p2.toInt ∧ p2.toInt ≤ 2) ∨ (x15.toInt = 0 ∧ (p2.toInt < 0 ∨ 2 < p2.toInt)))
    (c18 : x15.toInt ≠ 0)
    (t30 : 0 ≤ p0.toInt ∧ p0.toInt ≤ 2 ∧ 0 ≤ p1.toInt ∧ p1.toInt ≤ 29 → x30.toInt = 4 * (30 * p0.toInt + p1.toInt))
    (t34 : x34.toInt = x30.toInt + (1 : Int) ∨ x30.toInt + (1 : Int) < -2147483648 ∨ 2147483648 ≤ x30.toInt + (1 : Int))
    (t36 : x36.toInt = x34.toInt + p2.toInt ∨ x34.toInt + p2.toInt < -2147483648 ∨ 2147483648 ≤ x34.toInt + p2.toInt)
    (I47_0 : -99 ≤ l6_47.toInt ∧ l6_47.toInt ≤ 100)
    (c51 : ¬ ((99 : Int) < l6_47.toInt)) :
    ∀ v : Int, rset (mw (G81.2.1 (F a 1)) 0) (90 * p0.toInt + 30 * p2.toInt + p1.toInt) v = rset (mw (G.2.1 (F a 1)) 0) (90 * p0.toInt + 30 * p2.toInt + p1.toInt) v := by
  have hb9 : (0 ≤ p0.toInt ∧ p0.toInt < 3) ∧ (0 ≤ p1.toInt ∧ p1.toInt < 30) ∧ (0 ≤ p2.toInt ∧ p2.toInt ≤ 2) := by omega
  have hc9 : (cel (mw (G.2.1 (F a 1)) 0) (p0.toInt) (p1.toInt) 0) ≠ -2000 := by omega
  have hx9 : x36.toInt = 4 * (30 * p0.toInt + p1.toInt) + 1 + p2.toInt := by omega
  clear z5 t8 t15 t30 t34 t36
  intro v
  first
    | exact pm v
    | (rw [mw_set (b := 0) (t := p0.toInt) (k := p1.toInt) (c := p2.toInt) (by omega) (by decide) (by omega) (aI_pu hG81 rfl rfl rfl (by omega)) fl, rset_rset]; exact pm v)
