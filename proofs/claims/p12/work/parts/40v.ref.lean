theorem v_X11_whyNotSet_30_1 {K : Nat → Nat} {F : Nat → Nat → Nat} (a : Nat) (G : XG) (x1 : Int32) (p0 : Int32) (p1 : Int32) (p2 : Int32) (p3 : Int32)
    (ha : K a = 13)
    (t1 : (x1.toInt = 1 ∧ 0 ≤ p0.toInt ∧ p0.toInt ≤ 2) ∨ (x1.toInt = 0 ∧ (p0.toInt < 0 ∨ 2 < p0.toInt)))
    (c4 : x1.toInt = 0) :
    (-1 : Int) = whyS (mw (G.2.1 (F a 1)) 0) p0.toInt p1.toInt p2.toInt p3.toInt := by
  unfold whyS; rw [if_neg (fun h => by obtain ⟨h1, h2, h3, h4, h5, h6, h7⟩ := h; omega)]
theorem v_X11_whyNotSet_30_2 {K : Nat → Nat} {F : Nat → Nat → Nat} (a : Nat) (G : XG) (x1 : Int32) (p0 : Int32) (x8 : Int32) (p1 : Int32) (p2 : Int32) (p3 : Int32)
    (ha : K a = 13)
    (t1 : (x1.toInt = 1 ∧ 0 ≤ p0.toInt ∧ p0.toInt ≤ 2) ∨ (x1.toInt = 0 ∧ (p0.toInt < 0 ∨ 2 < p0.toInt)))
    (c4 : ¬ (x1.toInt = 0))
    (t8 : (x8.toInt = 1 ∧ 0 ≤ p1.toInt ∧ p1.toInt ≤ 29) ∨ (x8.toInt = 0 ∧ (p1.toInt < 0 ∨ 29 < p1.toInt)))
    (c11 : x8.toInt = 0) :
    (-1 : Int) = whyS (mw (G.2.1 (F a 1)) 0) p0.toInt p1.toInt p2.toInt p3.toInt := by
  unfold whyS; rw [if_neg (fun h => by obtain ⟨h1, h2, h3, h4, h5, h6, h7⟩ := h; omega)]
theorem v_X11_whyNotSet_30_3 {K : Nat → Nat} {F : Nat → Nat → Nat} (a : Nat) (G : XG) (x1 : Int32) (p0 : Int32) (x8 : Int32) (p1 : Int32) (x15 : Int32) (p2 : Int32) (p3 : Int32)
    (ha : K a = 13)
    (t1 : (x1.toInt = 1 ∧ 0 ≤ p0.toInt ∧ p0.toInt ≤ 2) ∨ (x1.toInt = 0 ∧ (p0.toInt < 0 ∨ 2 < p0.toInt)))
    (c4 : ¬ (x1.toInt = 0))
    (t8 : (x8.toInt = 1 ∧ 0 ≤ p1.toInt ∧ p1.toInt ≤ 29) ∨ (x8.toInt = 0 ∧ (p1.toInt < 0 ∨ 29 < p1.toInt)))
    (c11 : ¬ (x8.toInt = 0))
    (t15 : (x15.toInt = 1 ∧ 0 ≤ p2.toInt ∧ p2.toInt ≤ 2) ∨ (x15.toInt = 0 ∧ (p2.toInt < 0 ∨ 2 < p2.toInt)))
    (c18 : x15.toInt = 0) :
    (-1 : Int) = whyS (mw (G.2.1 (F a 1)) 0) p0.toInt p1.toInt p2.toInt p3.toInt := by
  unfold whyS; rw [if_neg (fun h => by obtain ⟨h1, h2, h3, h4, h5, h6, h7⟩ := h; omega)]
theorem v_X11_whyNotSet_34_4 {F : Nat → Nat → Nat} (a : Nat) (G : XG)
    (hM : RM (G.2.1 (F a 1)) 0) :
    RM (G.2.1 (F a 1)) 0 := by exact hM
theorem v_X11_whyNotSet_68_5 {F : Nat → Nat → Nat} (G : XG) (a : Nat) (p0 : Int32) (p1 : Int32) (p2 : Int32) (p3 : Int32) (x34 : Int32)
    (hM : RM (G.2.1 (F a 1)) 0)
    (z31 : 0 ≤ p0.toInt ∧ p0.toInt < 3)
    (z31a : 0 ≤ p1.toInt ∧ p1.toInt < 30)
    (z31b : 0 ≤ p2.toInt ∧ p2.toInt < 3)
    (z31c : p3.toInt = -1000 ∨ (-99 ≤ p3.toInt ∧ p3.toInt ≤ 99))
    (t34 : (x34.toInt = 1 ∧ (cel (mw (G.2.1 (F a 1)) 0) (p0.toInt) (p1.toInt) 0) ≠ -2000) ∨ (x34.toInt = 0 ∧ (cel (mw (G.2.1 (F a 1)) 0) (p0.toInt) (p1.toInt) 0) = -2000))
    (c37 : x34.toInt ≠ 0)
    (z57 : ((aI (G.2.1 (F a 1)) (0 + 4 * (30 * p0.toInt + p1.toInt))) = 0 ∧ (cel (mw (G.2.1 (F a 1)) 0) (p0.toInt) (p1.toInt) (p2.toInt)) = -2000) ∨ ((aI (G.2.1 (F a 1)) (0 + 4 * (30 * p0.toInt + p1.toInt))) = 1 ∧ (cel (mw (G.2.1 (F a 1)) 0) (p0.toInt) (p1.toInt) (p2.toInt)) = (aI (G.2.1 (F a 1)) (0 + 4 * (30 * p0.toInt + p1.toInt) + 1 + p2.toInt))))
    (c59 : (aI (G.2.1 (F a 1)) (0 + 4 * (30 * p0.toInt + p1.toInt) + 1 + p2.toInt)) ≠ p3.toInt) :
    (0 : Int) = whyS (mw (G.2.1 (F a 1)) 0) p0.toInt p1.toInt p2.toInt p3.toInt := by
  have hh := hM.absent p0.toInt p1.toInt p2.toInt z31b
  have c0 : cel (mw (G.2.1 (F a 1)) 0) p0.toInt p1.toInt 0 ≠ -2000 := by clear hh z57; omega
  have c1 : cel (mw (G.2.1 (F a 1)) 0) p0.toInt p1.toInt p2.toInt = aI (G.2.1 (F a 1)) (0 + 4 * (30 * p0.toInt + p1.toInt) + 1 + p2.toInt) := by
    rcases z57 with ⟨-, h⟩ | ⟨-, h⟩
    · exact absurd (hh.mp h) c0
    · exact h
  unfold whyS
  rw [if_pos ⟨z31.1, z31.2, z31a.1, z31a.2, z31b.1, z31b.2, z31c⟩, if_neg c0, c1]
  first
    | rw [if_pos c59]
    | rw [if_neg c59]
    | (rw [if_pos (by omega)]; done)
    | rw [if_neg (by omega)]
theorem v_X11_whyNotSet_68_6 {F : Nat → Nat → Nat} (G : XG) (a : Nat) (p0 : Int32) (p1 : Int32) (p2 : Int32) (p3 : Int32) (x34 : Int32)
    (hM : RM (G.2.1 (F a 1)) 0)
    (z31 : 0 ≤ p0.toInt ∧ p0.toInt < 3)
    (z31a : 0 ≤ p1.toInt ∧ p1.toInt < 30)
    (z31b : 0 ≤ p2.toInt ∧ p2.toInt < 3)
    (z31c : p3.toInt = -1000 ∨ (-99 ≤ p3.toInt ∧ p3.toInt ≤ 99))
    (t34 : (x34.toInt = 1 ∧ (cel (mw (G.2.1 (F a 1)) 0) (p0.toInt) (p1.toInt) 0) ≠ -2000) ∨ (x34.toInt = 0 ∧ (cel (mw (G.2.1 (F a 1)) 0) (p0.toInt) (p1.toInt) 0) = -2000))
    (c37 : x34.toInt ≠ 0)
    (z57 : ((aI (G.2.1 (F a 1)) (0 + 4 * (30 * p0.toInt + p1.toInt))) = 0 ∧ (cel (mw (G.2.1 (F a 1)) 0) (p0.toInt) (p1.toInt) (p2.toInt)) = -2000) ∨ ((aI (G.2.1 (F a 1)) (0 + 4 * (30 * p0.toInt + p1.toInt))) = 1 ∧ (cel (mw (G.2.1 (F a 1)) 0) (p0.toInt) (p1.toInt) (p2.toInt)) = (aI (G.2.1 (F a 1)) (0 + 4 * (30 * p0.toInt + p1.toInt) + 1 + p2.toInt))))
    (c59 : ¬ ((aI (G.2.1 (F a 1)) (0 + 4 * (30 * p0.toInt + p1.toInt) + 1 + p2.toInt)) ≠ p3.toInt)) :
    (-4 : Int) = whyS (mw (G.2.1 (F a 1)) 0) p0.toInt p1.toInt p2.toInt p3.toInt := by
  have hh := hM.absent p0.toInt p1.toInt p2.toInt z31b
  have c0 : cel (mw (G.2.1 (F a 1)) 0) p0.toInt p1.toInt 0 ≠ -2000 := by clear hh z57; omega
  have c1 : cel (mw (G.2.1 (F a 1)) 0) p0.toInt p1.toInt p2.toInt = aI (G.2.1 (F a 1)) (0 + 4 * (30 * p0.toInt + p1.toInt) + 1 + p2.toInt) := by
    rcases z57 with ⟨-, h⟩ | ⟨-, h⟩
    · exact absurd (hh.mp h) c0
    · exact h
  unfold whyS
  rw [if_pos ⟨z31.1, z31.2, z31a.1, z31a.2, z31b.1, z31b.2, z31c⟩, if_neg c0, c1]
  first
    | rw [if_pos c59]
    | rw [if_neg c59]
    | (rw [if_pos (by omega)]; done)
    | rw [if_neg (by omega)]
theorem v_X11_whyNotSet_42_7 {F : Nat → Nat → Nat} (p0 : Int32) (p1 : Int32) (p2 : Int32) (p3 : Int32) (x34 : Int32) (G : XG) (a : Nat)
    (z31 : 0 ≤ p0.toInt ∧ p0.toInt < 3)
    (z31a : 0 ≤ p1.toInt ∧ p1.toInt < 30)
    (z31b : 0 ≤ p2.toInt ∧ p2.toInt < 3)
    (z31c : p3.toInt = -1000 ∨ (-99 ≤ p3.toInt ∧ p3.toInt ≤ 99))
    (t34 : (x34.toInt = 1 ∧ (cel (mw (G.2.1 (F a 1)) 0) (p0.toInt) (p1.toInt) 0) ≠ -2000) ∨ (x34.toInt = 0 ∧ (cel (mw (G.2.1 (F a 1)) 0) (p0.toInt) (p1.toInt) 0) = -2000))
    (c37 : ¬ (x34.toInt ≠ 0)) :
    (-2 : Int) = whyS (mw (G.2.1 (F a 1)) 0) p0.toInt p1.toInt p2.toInt p3.toInt := by
  have c0 : cel (mw (G.2.1 (F a 1)) 0) p0.toInt p1.toInt 0 = -2000 := by omega
  unfold whyS
  rw [if_pos ⟨z31.1, z31.2, z31a.1, z31a.2, z31b.1, z31b.2, z31c⟩, if_pos c0]
theorem v_X11_whyNotSet_30_8 {K : Nat → Nat} {F : Nat → Nat → Nat} (a : Nat) (G : XG) (x1 : Int32) (p0 : Int32) (x8 : Int32) (p1 : Int32) (x15 : Int32) (p2 : Int32) (x23 : Int32) (p3 : Int32)
    (ha : K a = 13)
    (t1 : (x1.toInt = 1 ∧ 0 ≤ p0.toInt ∧ p0.toInt ≤ 2) ∨ (x1.toInt = 0 ∧ (p0.toInt < 0 ∨ 2 < p0.toInt)))
    (c4 : ¬ (x1.toInt = 0))
    (t8 : (x8.toInt = 1 ∧ 0 ≤ p1.toInt ∧ p1.toInt ≤ 29) ∨ (x8.toInt = 0 ∧ (p1.toInt < 0 ∨ 29 < p1.toInt)))
    (c11 : ¬ (x8.toInt = 0))
    (t15 : (x15.toInt = 1 ∧ 0 ≤ p2.toInt ∧ p2.toInt ≤ 2) ∨ (x15.toInt = 0 ∧ (p2.toInt < 0 ∨ 2 < p2.toInt)))
    (c18 : ¬ (x15.toInt = 0))
    (t23 : (x23.toInt = 1 ∧ (p3.toInt = -1000 ∨ (-99 ≤ p3.toInt ∧ p3.toInt < 100))) ∨ (x23.toInt = 0 ∧ p3.toInt ≠ -1000 ∧ (p3.toInt < -99 ∨ 100 ≤ p3.toInt)))
    (c26 : ¬ (x23.toInt ≠ 0)) :
    (-1 : Int) = whyS (mw (G.2.1 (F a 1)) 0) p0.toInt p1.toInt p2.toInt p3.toInt := by
  unfold whyS; rw [if_neg (fun h => by obtain ⟨h1, h2, h3, h4, h5, h6, h7⟩ := h; omega)]
theorem v_X11_set_15_1 {F : Nat → Nat → Nat} (a : Nat) (G : XG) (G6 : XG)
    (hM : RM (G.2.1 (F a 1)) (0))
    (hB : RM (G.2.1 (F a 2)) 0)
    (c_G6_F_a_1 : G6.2.1 (F a 1) = G.2.1 (F a 1)) :
    RM (G6.2.1 (F a 1)) 0 := by simp only [c_G6_F_a_1]; assumption
theorem v_X11_set_33_2 {F : Nat → Nat → Nat} (a : Nat) (G : XG) (G6 : XG)
    (hR : RV (G.2.1 (F a 10)))
    (c_G6_F_a_10 : G6.2.1 (F a 10) = G.2.1 (F a 10)) :
    RV (G6.2.1 (F a 10)) := by simp only [c_G6_F_a_10]; assumption
theorem v_X11_set_33_3 {F : Nat → Nat → Nat} (a : Nat) (G : XG) (G6 : XG)
    (hM : RM (G.2.1 (F a 1)) (0))
    (hB : RM (G.2.1 (F a 2)) 0)
    (c_G6_F_a_1 : G6.2.1 (F a 1) = G.2.1 (F a 1)) :
    RM (G6.2.1 (F a 1)) (0) := by simp only [c_G6_F_a_1]; assumption
theorem v_X11_set_53_4 {F : Nat → Nat → Nat} (a : Nat) (G : XG) (G51 : XG)
    (hR : RV (G.2.1 (F a 10)))
    (c_G51_F_a_10 : G51.2.1 (F a 10) = G.2.1 (F a 10)) :
    RV (G51.2.1 (F a 10)) := by simp only [c_G51_F_a_10]; assumption
theorem v_X11_set_53_5 {K : Nat → Nat} {F : Nat → Nat → Nat} (a : Nat) (G : XG) (G6 : XG) (G33 : XG) (G51 : XG) (x48 : Int32) (p3 : Int32) (x15 : Int32) (p0 : Int32) (p1 : Int32) (p2 : Int32) (x42 : Int32) (x46 : Int32)
    (ha : K a = 13)
    (hG51 : G51 = cput G33 (F a 1) x48.toNatClampNeg p3)
    (hM : RM (G.2.1 (F a 1)) (0))
    (oq15 : x15.toInt = whyS (mw (G.2.1 (F a 1)) 0) p0.toInt p1.toInt p2.toInt p3.toInt)
    (am : 0 ≤ ((G.1 a 43).toInt) ∧ ((G.1 a 43).toInt) ≤ 2388)
    (t6 : ((G6.1 a 20).toInt) = -2147483648 ∧ ((G6.1 a 21).toInt) = -2147483648 ∧ ((G6.1 a 23).toInt) = 0)
    (c22 : x15.toInt = 0)
    (z32 : 0 ≤ p0.toInt ∧ p0.toInt < 3 ∧ 0 ≤ p1.toInt ∧ p1.toInt < 30 ∧ 0 ≤ p2.toInt ∧ p2.toInt < 3 ∧ (p3.toInt = -1000 ∨ (-99 ≤ p3.toInt ∧ p3.toInt ≤ 99)))
    (t42 : 0 ≤ p0.toInt ∧ p0.toInt ≤ 2 ∧ 0 ≤ p1.toInt ∧ p1.toInt ≤ 29 → x42.toInt = 4 * (30 * p0.toInt + p1.toInt))
    (t46 : x46.toInt = x42.toInt + (1 : Int) ∨ x42.toInt + (1 : Int) < -2147483648 ∨ 2147483648 ≤ x42.toInt + (1 : Int))
    (t48 : x48.toInt = x46.toInt + p2.toInt ∨ x46.toInt + p2.toInt < -2147483648 ∨ 2147483648 ≤ x46.toInt + p2.toInt)
    (c_G33_F_a_1 : G33.2.1 (F a 1) = G.2.1 (F a 1)) :
    RM (G51.2.1 (F a 1)) (0) := by
  exact hM.set (t := p0.toInt) (k := p1.toInt) (c := p2.toInt) (by omega) (by decide) (by omega) (aI_pu hG51 c_G33_F_a_1 rfl rfl (by omega)) (by omega)
theorem v_X11_set_53_6 {F : Nat → Nat → Nat} (a : Nat) (G : XG) (G33 : XG) (G51 : XG)
    (hM : RM (G.2.1 (F a 1)) (0))
    (hB : RM (G.2.1 (F a 2)) 0)
    (oq33a : RM (G33.2.1 (F a 4)) 0)
    (c_G51_F_a_4 : G51.2.1 (F a 4) = G33.2.1 (F a 4)) :
    RM (G51.2.1 (F a 4)) 0 := by simp only [c_G51_F_a_4]; assumption
theorem v_X11_set_53_7 {F : Nat → Nat → Nat} (a : Nat) (G : XG) (G33 : XG) (G51 : XG)
    (hM : RM (G.2.1 (F a 1)) (0))
    (hB : RM (G.2.1 (F a 2)) 0)
    (oq33a : RM (G33.2.1 (F a 4)) 0)
    (c_G51_F_a_2 : G51.2.1 (F a 2) = G.2.1 (F a 2)) :
    RM (G51.2.1 (F a 2)) 0 := by simp only [c_G51_F_a_2]; assumption
theorem v_X11_set_53_8 {F : Nat → Nat → Nat} (a : Nat) (G : XG) (G33 : XG) (G51 : XG)
    (oq33b : LSt (G.2.1 (F a 10)) (G33.2.1 (F a 12)) (mw (G.2.1 (F a 1)) 0) 12)
    (c_G51_F_a_10 : G51.2.1 (F a 10) = G.2.1 (F a 10))
    (c_G51_F_a_12 : G51.2.1 (F a 12) = G33.2.1 (F a 12)) :
    LSt (G51.2.1 (F a 10)) (G51.2.1 (F a 12)) (mw (G.2.1 (F a 1)) 0) 12 := by
  rw [c_G51_F_a_10, c_G51_F_a_12]; exact oq33b
theorem v_X11_set_56_9 {K : Nat → Nat} {F : Nat → Nat → Nat} (a : Nat) (G : XG) (G6 : XG) (G33 : XG) (G51 : XG) (x48 : Int32) (p3 : Int32) (G53 : XG) (x15 : Int32) (p0 : Int32) (p1 : Int32) (p2 : Int32) (x53 : Int32) (x42 : Int32) (x46 : Int32)
    (ha : K a = 13)
    (hG51 : G51 = cput G33 (F a 1) x48.toNatClampNeg p3)
    (hM : RM (G.2.1 (F a 1)) (0))
    (oq15 : x15.toInt = whyS (mw (G.2.1 (F a 1)) 0) p0.toInt p1.toInt p2.toInt p3.toInt)
    (oq33 : mw (G33.2.1 (F a 4)) 0 = mw (G.2.1 (F a 1)) 0)
    (oq53 : ((ffP (G.2.1 (F a 10)) (mw (G51.2.1 (F a 1)) 0) (fuO (G.2.1 (F a 10)) (mw (G.2.1 (F a 1)) 0) (mw (G51.2.1 (F a 1)) 0) 0) ≠ -1 ∨ (((G.1 a 6).toInt) = 0 ∧ ffP (G.2.1 (F a 10)) (mw (G51.2.1 (F a 1)) 0) (fuO (G.2.1 (F a 10)) (mw (G.2.1 (F a 1)) 0) (mw (G51.2.1 (F a 1)) 0) 1) ≠ -1)) ∧ x53.toInt = -5 ∧ mw (G53.2.1 (F a 1)) 0 = mw (G33.2.1 (F a 4)) 0) ∨ (ffP (G.2.1 (F a 10)) (mw (G51.2.1 (F a 1)) 0) (fuO (G.2.1 (F a 10)) (mw (G.2.1 (F a 1)) 0) (mw (G51.2.1 (F a 1)) 0) 0) = -1 ∧ (((G.1 a 6).toInt) = 0 → ffP (G.2.1 (F a 10)) (mw (G51.2.1 (F a 1)) 0) (fuO (G.2.1 (F a 10)) (mw (G.2.1 (F a 1)) 0) (mw (G51.2.1 (F a 1)) 0) 1) = -1) ∧ x53.toInt = (((fuO (G.2.1 (F a 10)) (mw (G.2.1 (F a 1)) 0) (mw (G51.2.1 (F a 1)) 0) 2).length : Nat) : Int) ∧ mw (G53.2.1 (F a 1)) 0 = mw (G51.2.1 (F a 1)) 0))
    (am : 0 ≤ ((G.1 a 43).toInt) ∧ ((G.1 a 43).toInt) ≤ 2388)
    (t6 : ((G6.1 a 20).toInt) = -2147483648 ∧ ((G6.1 a 21).toInt) = -2147483648 ∧ ((G6.1 a 23).toInt) = 0)
    (c22 : x15.toInt = 0)
    (z32 : 0 ≤ p0.toInt ∧ p0.toInt < 3 ∧ 0 ≤ p1.toInt ∧ p1.toInt < 30 ∧ 0 ≤ p2.toInt ∧ p2.toInt < 3 ∧ (p3.toInt = -1000 ∨ (-99 ≤ p3.toInt ∧ p3.toInt ≤ 99)))
    (t42 : 0 ≤ p0.toInt ∧ p0.toInt ≤ 2 ∧ 0 ≤ p1.toInt ∧ p1.toInt ≤ 29 → x42.toInt = 4 * (30 * p0.toInt + p1.toInt))
    (t46 : x46.toInt = x42.toInt + (1 : Int) ∨ x42.toInt + (1 : Int) < -2147483648 ∨ 2147483648 ≤ x42.toInt + (1 : Int))
    (t48 : x48.toInt = x46.toInt + p2.toInt ∨ x46.toInt + p2.toInt < -2147483648 ∨ 2147483648 ≤ x46.toInt + p2.toInt)
    (t53 : (0 ≤ ((G53.1 a 23).toInt) ∧ ((G53.1 a 23).toInt) ≤ 24) ∧ (0 ≤ ((G53.1 a 43).toInt) ∧ ((G53.1 a 43).toInt) ≤ 2388))
    (c_G33_F_a_1 : G33.2.1 (F a 1) = G.2.1 (F a 1)) :
    (whyS (mw (G.2.1 (F a 1)) 0) p0.toInt p1.toInt p2.toInt p3.toInt ≠ 0 ∧ x53.toInt = whyS (mw (G.2.1 (F a 1)) 0) p0.toInt p1.toInt p2.toInt p3.toInt ∧ mw (G53.2.1 (F a 1)) 0 = (mw (G.2.1 (F a 1)) 0)) ∨ (whyS (mw (G.2.1 (F a 1)) 0) p0.toInt p1.toInt p2.toInt p3.toInt = 0 ∧ StR ((G.1 a 6).toInt) x53.toInt (G.2.1 (F a 10)) (mw (G.2.1 (F a 1)) 0) (rset (mw (G.2.1 (F a 1)) 0) (90 * p0.toInt + 30 * p2.toInt + p1.toInt) p3.toInt) (mw (G53.2.1 (F a 1)) 0)) := by
  have w0 := whyS_0 (oq15.symm.trans c22)
  have fl : aI (G.2.1 (F a 1)) (0 + 4 * (30 * p0.toInt + p1.toInt)) = 1 := by
    rcases hM.flag (t := p0.toInt) (k := p1.toInt) (by omega) with h | h
    · exact absurd h.2 w0.2.1
    · exact h.1
  have e1 := mw_set (b := 0) (t := p0.toInt) (k := p1.toInt) (c := p2.toInt) (by omega) (by decide) (by omega) (aI_pu hG51 c_G33_F_a_1 rfl rfl (by omega)) fl
  rw [e1, oq33] at oq53
  exact Or.inr ⟨oq15.symm.trans c22, oq53⟩
theorem v_X11_set_56_10 {F : Nat → Nat → Nat} (a : Nat) (G53 : XG)
    (oq53a : RM (G53.2.1 (F a 1)) 0) :
    RM (G53.2.1 (F a 1)) 0 := by
  exact oq53a
theorem v_X11_set_31_11 {K : Nat → Nat} {F : Nat → Nat → Nat} (a : Nat) (G : XG) (G6 : XG) (G28 : XG) (x15 : Int32) (p0 : Int32) (p1 : Int32) (p2 : Int32) (p3 : Int32)
    (ha : K a = 13)
    (oq15 : x15.toInt = whyS (mw (G.2.1 (F a 1)) 0) p0.toInt p1.toInt p2.toInt p3.toInt)
    (am : 0 ≤ ((G.1 a 43).toInt) ∧ ((G.1 a 43).toInt) ≤ 2388)
    (t6 : ((G6.1 a 20).toInt) = -2147483648 ∧ ((G6.1 a 21).toInt) = -2147483648 ∧ ((G6.1 a 23).toInt) = 0)
    (c22 : ¬ (x15.toInt = 0))
    (c_G28_F_a_1 : G28.2.1 (F a 1) = G.2.1 (F a 1)) :
    (whyS (mw (G.2.1 (F a 1)) 0) p0.toInt p1.toInt p2.toInt p3.toInt ≠ 0 ∧ x15.toInt = whyS (mw (G.2.1 (F a 1)) 0) p0.toInt p1.toInt p2.toInt p3.toInt ∧ mw (G28.2.1 (F a 1)) 0 = (mw (G.2.1 (F a 1)) 0)) ∨ (whyS (mw (G.2.1 (F a 1)) 0) p0.toInt p1.toInt p2.toInt p3.toInt = 0 ∧ StR ((G.1 a 6).toInt) x15.toInt (G.2.1 (F a 10)) (mw (G.2.1 (F a 1)) 0) (rset (mw (G.2.1 (F a 1)) 0) (90 * p0.toInt + 30 * p2.toInt + p1.toInt) p3.toInt) (mw (G28.2.1 (F a 1)) 0)) := by
  exact Or.inl ⟨by omega, by omega, by rw [c_G28_F_a_1]⟩
theorem v_X11_set_31_12 {F : Nat → Nat → Nat} (a : Nat) (G : XG) (G28 : XG)
    (hM : RM (G.2.1 (F a 1)) (0))
    (c_G28_F_a_1 : G28.2.1 (F a 1) = G.2.1 (F a 1)) :
    RM (G28.2.1 (F a 1)) 0 := by
  rw [c_G28_F_a_1]; exact hM
