theorem v_X11_drop_44_1 {K : Nat → Nat} {F : Nat → Nat → Nat} (a : Nat) (G : XG) (G6 : XG) (G39 : XG) (x37 : Int32) (p0 : Int32) (x11 : Int32)
    (ha : K a = 13)
    (hG39 : G39 = cput G6 (F a 10) x37.toNatClampNeg (-1))
    (e37 : x37.toInt = ((10 : Int) * p0.toInt))
    (t6 : ((G6.1 a 20).toInt) = -2147483648 ∧ ((G6.1 a 21).toInt) = -2147483648 ∧ ((G6.1 a 23).toInt) = 0)
    (t11 : (x11.toInt = 1 ∧ 0 ≤ p0.toInt ∧ p0.toInt ≤ 11 ∧ (aI (G.2.1 (F a 10)) (10 * p0.toInt + 0)) ≠ -1) ∨ (x11.toInt = 0 ∧ (¬ (0 ≤ p0.toInt ∧ p0.toInt ≤ 11) ∨ (aI (G.2.1 (F a 10)) (10 * p0.toInt + 0)) = -1)))
    (c14 : x11.toInt ≠ 0)
    (f12 : ((G.1 a 6).toInt) = 0 ∨ ((G.1 a 6).toInt) = 1)
    (c24 : ((G.1 a 6).toInt) = 0)
    (c_G6_F_a_10 : G6.2.1 (F a 10) = G.2.1 (F a 10)) :
    (¬ (0 ≤ p0.toInt ∧ p0.toInt ≤ 11 ∧ aI (G.2.1 (F a 10)) (10 * p0.toInt + 0) ≠ -1) ∧ (nRl (G39.2.1 (F a 10)) 12) = -2 ∧ G39.2.1 (F a 10) = (G.2.1 (F a 10))) ∨ ((0 ≤ p0.toInt ∧ p0.toInt ≤ 11 ∧ aI (G.2.1 (F a 10)) (10 * p0.toInt + 0) ≠ -1) ∧ ((((G.1 a 6).toInt) ≠ 0 ∧ (nRl (G39.2.1 (F a 10)) 12) = -3 ∧ G39.2.1 (F a 10) = (G.2.1 (F a 10))) ∨ (((G.1 a 6).toInt) = 0 ∧ (∀ z : Int, 0 ≤ z → aI (G39.2.1 (F a 10)) z = if z = 10 * p0.toInt then -1 else aI (G.2.1 (F a 10)) z) ∧ (nRl (G39.2.1 (F a 10)) 12) = nRl (G39.2.1 (F a 10)) 12))) := by
  exact Or.inr ⟨by omega, Or.inr ⟨by omega, aI_pu hG39 c_G6_F_a_10 (by omega) (by decide) (by omega), by omega⟩⟩
theorem v_X11_drop_44_2 {K : Nat → Nat} {F : Nat → Nat → Nat} (a : Nat) (G : XG) (G6 : XG) (G39 : XG) (x37 : Int32) (p0 : Int32) (x11 : Int32)
    (ha : K a = 13)
    (hG39 : G39 = cput G6 (F a 10) x37.toNatClampNeg (-1))
    (hR : RV (G.2.1 (F a 10)))
    (e37 : x37.toInt = ((10 : Int) * p0.toInt))
    (t6 : ((G6.1 a 20).toInt) = -2147483648 ∧ ((G6.1 a 21).toInt) = -2147483648 ∧ ((G6.1 a 23).toInt) = 0)
    (t11 : (x11.toInt = 1 ∧ 0 ≤ p0.toInt ∧ p0.toInt ≤ 11 ∧ (aI (G.2.1 (F a 10)) (10 * p0.toInt + 0)) ≠ -1) ∨ (x11.toInt = 0 ∧ (¬ (0 ≤ p0.toInt ∧ p0.toInt ≤ 11) ∨ (aI (G.2.1 (F a 10)) (10 * p0.toInt + 0)) = -1)))
    (c14 : x11.toInt ≠ 0)
    (f12 : ((G.1 a 6).toInt) = 0 ∨ ((G.1 a 6).toInt) = 1)
    (c24 : ((G.1 a 6).toInt) = 0)
    (c_G6_F_a_10 : G6.2.1 (F a 10) = G.2.1 (F a 10)) :
    RV (G39.2.1 (F a 10)) := by
  exact hR.drop (aI_pu hG39 c_G6_F_a_10 (by omega) (by decide) (by omega))
theorem v_X11_drop_29_3 {K : Nat → Nat} {F : Nat → Nat → Nat} (a : Nat) (G : XG) (G6 : XG) (x11 : Int32) (p0 : Int32)
    (ha : K a = 13)
    (t6 : ((G6.1 a 20).toInt) = -2147483648 ∧ ((G6.1 a 21).toInt) = -2147483648 ∧ ((G6.1 a 23).toInt) = 0)
    (t11 : (x11.toInt = 1 ∧ 0 ≤ p0.toInt ∧ p0.toInt ≤ 11 ∧ (aI (G.2.1 (F a 10)) (10 * p0.toInt + 0)) ≠ -1) ∨ (x11.toInt = 0 ∧ (¬ (0 ≤ p0.toInt ∧ p0.toInt ≤ 11) ∨ (aI (G.2.1 (F a 10)) (10 * p0.toInt + 0)) = -1)))
    (c14 : x11.toInt ≠ 0)
    (f9 : ((G.1 a 6).toInt) = 0 ∨ ((G.1 a 6).toInt) = 1)
    (c24 : ¬ (((G.1 a 6).toInt) = 0))
    (c_G6_F_a_10 : G6.2.1 (F a 10) = G.2.1 (F a 10)) :
    (¬ (0 ≤ p0.toInt ∧ p0.toInt ≤ 11 ∧ aI (G.2.1 (F a 10)) (10 * p0.toInt + 0) ≠ -1) ∧ (-3 : Int) = -2 ∧ G6.2.1 (F a 10) = (G.2.1 (F a 10))) ∨ ((0 ≤ p0.toInt ∧ p0.toInt ≤ 11 ∧ aI (G.2.1 (F a 10)) (10 * p0.toInt + 0) ≠ -1) ∧ ((((G.1 a 6).toInt) ≠ 0 ∧ (-3 : Int) = -3 ∧ G6.2.1 (F a 10) = (G.2.1 (F a 10))) ∨ (((G.1 a 6).toInt) = 0 ∧ (∀ z : Int, 0 ≤ z → aI (G6.2.1 (F a 10)) z = if z = 10 * p0.toInt then -1 else aI (G.2.1 (F a 10)) z) ∧ (-3 : Int) = nRl (G6.2.1 (F a 10)) 12))) := by
  exact Or.inr ⟨by omega, Or.inl ⟨by omega, rfl, by rw [c_G6_F_a_10]⟩⟩
theorem v_X11_drop_29_4 {F : Nat → Nat → Nat} (a : Nat) (G : XG) (G6 : XG)
    (hR : RV (G.2.1 (F a 10)))
    (c_G6_F_a_10 : G6.2.1 (F a 10) = G.2.1 (F a 10)) :
    RV (G6.2.1 (F a 10)) := by
  rw [c_G6_F_a_10]; exact hR
theorem v_X11_drop_19_5 {K : Nat → Nat} {F : Nat → Nat → Nat} (a : Nat) (G : XG) (G6 : XG) (x11 : Int32) (p0 : Int32)
    (ha : K a = 13)
    (t6 : ((G6.1 a 20).toInt) = -2147483648 ∧ ((G6.1 a 21).toInt) = -2147483648 ∧ ((G6.1 a 23).toInt) = 0)
    (t11 : (x11.toInt = 1 ∧ 0 ≤ p0.toInt ∧ p0.toInt ≤ 11 ∧ (aI (G.2.1 (F a 10)) (10 * p0.toInt + 0)) ≠ -1) ∨ (x11.toInt = 0 ∧ (¬ (0 ≤ p0.toInt ∧ p0.toInt ≤ 11) ∨ (aI (G.2.1 (F a 10)) (10 * p0.toInt + 0)) = -1)))
    (c14 : ¬ (x11.toInt ≠ 0))
    (c_G6_F_a_10 : G6.2.1 (F a 10) = G.2.1 (F a 10)) :
    (¬ (0 ≤ p0.toInt ∧ p0.toInt ≤ 11 ∧ aI (G.2.1 (F a 10)) (10 * p0.toInt + 0) ≠ -1) ∧ (-2 : Int) = -2 ∧ G6.2.1 (F a 10) = (G.2.1 (F a 10))) ∨ ((0 ≤ p0.toInt ∧ p0.toInt ≤ 11 ∧ aI (G.2.1 (F a 10)) (10 * p0.toInt + 0) ≠ -1) ∧ ((((G.1 a 6).toInt) ≠ 0 ∧ (-2 : Int) = -3 ∧ G6.2.1 (F a 10) = (G.2.1 (F a 10))) ∨ (((G.1 a 6).toInt) = 0 ∧ (∀ z : Int, 0 ≤ z → aI (G6.2.1 (F a 10)) z = if z = 10 * p0.toInt then -1 else aI (G.2.1 (F a 10)) z) ∧ (-2 : Int) = nRl (G6.2.1 (F a 10)) 12))) := by
  exact Or.inl ⟨by omega, rfl, by rw [c_G6_F_a_10]⟩
theorem v_X11_drop_19_6 {F : Nat → Nat → Nat} (a : Nat) (G : XG) (G6 : XG)
    (hR : RV (G.2.1 (F a 10)))
    (c_G6_F_a_10 : G6.2.1 (F a 10) = G.2.1 (F a 10)) :
    RV (G6.2.1 (F a 10)) := by
  rw [c_G6_F_a_10]; exact hR
theorem v_X11_inQueue_1_1 {F : Nat → Nat → Nat} (a : Nat) (G : XG)
    (hR : RV (G.2.1 (F a 10))) :
    RV (G.2.1 (F a 10)) := by exact hR
theorem v_X11_inQueue_1_2 {F : Nat → Nat → Nat} (a : Nat) (G : XG)
    (hM : RM (G.2.1 (F a 1)) (0)) :
    RM (G.2.1 (F a 1)) (0) := by exact hM
theorem v_X11_inQueue_1_3 {F : Nat → Nat → Nat} (a : Nat) (G : XG)
    (hB : RM (G.2.1 (F a 2)) 0) :
    RM (G.2.1 (F a 2)) 0 := by exact hB
theorem v_X11_inQueue_41_4 {F : Nat → Nat → Nat} (a : Nat) (G : XG) (G1 : XG)
    (oq1 : pL G1 F a = if ((G.1 a 6).toInt) = 0 then [] else fuO (G.2.1 (F a 10)) (mw (G.2.1 (F a 1)) 0) (mw (G.2.1 (F a 2)) 0) 1) :
    pL G1 F a = if ((G.1 a 6).toInt) = 0 then [] else fuO (G.2.1 (F a 10)) (mw (G.2.1 (F a 1)) 0) (mw (G.2.1 (F a 2)) 0) 1 := by
  exact oq1
theorem v_X11_inQueue_41_5 {K : Nat → Nat} {F : Nat → Nat → Nat} (a : Nat) (G : XG) (G1 : XG) (p0 : Int32) (l3_8 : Int32) (l2_8 : Int32) (N8 : Nat)
    (ha : K a = 13)
    (oq1a : ((G.1 a 6).toInt) ≠ 0 → LSt (G.2.1 (F a 10)) (G1.2.1 (F a 11)) (mw (G.2.1 (F a 1)) 0) 12 ∧ LSt (G.2.1 (F a 10)) (G1.2.1 (F a 13)) (mw (G.2.1 (F a 2)) 0) 12)
    (oq1b : G1.2.2.2 = G.2.2.2)
    (t1 : 0 ≤ ((G1.1 a 19).toInt) ∧ ((G1.1 a 19).toInt) ≤ 2388)
    (z6 : (hv (aI (G1.2.1 (F a 17))) 0 (p0.toInt) 0) = 0)
    (I8_0 : 0 ≤ l3_8.toInt ∧ l3_8.toInt ≤ ((G1.1 a 19).toInt))
    (I8_1 : 0 ≤ l2_8.toInt ∧ l2_8.toInt ≤ l3_8.toInt)
    (I8_2 : l2_8.toInt = (hv (aI (G1.2.1 (F a 17))) 0 (p0.toInt) (l3_8.toInt)))
    (I8_3 : (0 : Int) ≤ l3_8.toInt)
    (hm8 : 2147483648 - l3_8.toInt < (((N8) + 1 : Nat) : Int))
    (c13 : ((G1.1 a 19).toInt) ≤ l3_8.toInt)
    (z40 : l3_8.toInt = ((G1.1 a 19).toInt) → (hv (aI (G1.2.1 (F a 17))) 0 (p0.toInt) (l3_8.toInt)) = (hv (aI (G1.2.1 (F a 17))) 0 (p0.toInt) ((G1.1 a 19).toInt))) :
    l2_8.toInt = cnP (pL G1 F a) p0.toInt := by
  have e := hv_pL G1 F a p0.toInt
  omega
theorem v_X11_begin_35_1 {K : Nat → Nat} {F : Nat → Nat → Nat} (a : Nat) (G2 : XG) (G : XG) (G17 : XG) (G22 : XG)
    (ha : K a = 13)
    (hk9999 : K (F a 2) = 31)
    (hj9999 : F (F a 2) 99 = 2)
    (hk9999a : K (F a 8) = 35)
    (hj9999a : F (F a 8) 99 = 8)
    (hk9999b : K (F a 1) = 30)
    (hj9999b : F (F a 1) 99 = 1)
    (hG2 : G2 = dput G a 0 0)
    (hG17 : G17 = dput G2 a 6 1)
    (hG22 : G22 = dput G17 a 7 0)
    (hM : RM (G.2.1 (F a 1)) (0))
    (hB : RM (G.2.1 (F a 2)) 0)
    (f12 : ((G.1 a 6).toInt) = 0 ∨ ((G.1 a 6).toInt) = 1)
    (c9 : ((G.1 a 6).toInt) = 0)
    (c_G2_F_a_2 : G2.2.1 (F a 2) = G.2.1 (F a 2))
    (c_G22_F_a_1 : G22.2.1 (F a 1) = G.2.1 (F a 1))
    (c_G22_F_a_2 : G22.2.1 (F a 2) = G.2.1 (F a 2))
    (c_G22_F_a_8 : G22.2.1 (F a 8) = G.2.1 (F a 8))
    (d_G22_a_0 : G22.1 a 0 = 0)
    (d_G22_a_6 : G22.1 a 6 = 1)
    (d_G22_a_7 : G22.1 a 7 = 0) :
    (F a 1) ≠ (F a 2) := by
  intro e
  have h1 : K (F a 1) = 30 := by assumption
  have h2 : K (F a 2) = 31 := by assumption
  rw [e, h2] at h1
  exact absurd h1 (by decide)
theorem v_X11_begin_60_2 {F : Nat → Nat → Nat} (a : Nat) (G : XG) (G_40 : XG)
    (hM : RM (G.2.1 (F a 1)) (0))
    (hB : RM (G.2.1 (F a 2)) 0)
    (c_G_40_F_a_1 : G_40.2.1 (F a 1) = G.2.1 (F a 1)) :
    RM (G_40.2.1 (F a 1)) (0) := by simp only [c_G_40_F_a_1]; assumption
theorem v_X11_begin_63_3 {K : Nat → Nat} {F : Nat → Nat → Nat} (a : Nat) (G : XG) (G22 : XG) (G35 : XG) (G_40 : XG) (l1_40 : Int32) (N40 : Nat) (x60 : Int32)
    (ha : K a = 13)
    (oq35 : CPd (G22.2.1 (F a 1)) (G22.2.1 (F a 2)) (G35.2.1 (F a 2)) (0 : Int) (0 : Int) 360)
    (f15 : ((G.1 a 6).toInt) = 0 ∨ ((G.1 a 6).toInt) = 1)
    (c9 : ((G.1 a 6).toInt) = 0)
    (I40_0 : (0 : Int) ≤ l1_40.toInt)
    (hm40 : 2147483648 - l1_40.toInt < (((N40) + 1 : Nat) : Int))
    (c43 : (6 : Int) ≤ l1_40.toInt)
    (t60 : x60.toInt = (rmT (G.2.1 (F a 1)) 360) ∧ (0 ≤ x60.toInt ∧ x60.toInt ≤ 90))
    (c_G22_F_a_1 : G22.2.1 (F a 1) = G.2.1 (F a 1))
    (c_G_40_F_a_2 : G_40.2.1 (F a 2) = G35.2.1 (F a 2)) :
    (((G.1 a 6).toInt) ≠ 0 ∧ G_40.2.1 (F a 2) = (G.2.1 (F a 2))) ∨ (((G.1 a 6).toInt) = 0 ∧ mw (G_40.2.1 (F a 2)) 0 = mw (G.2.1 (F a 1)) 0) := by
  exact Or.inr ⟨by omega, by rw [c_G_40_F_a_2, ← c_G22_F_a_1]; exact CPd.vwm oq35 (by decide)⟩
theorem v_X11_begin_63_4 {F : Nat → Nat → Nat} (a : Nat) (G : XG) (G22 : XG) (G35 : XG) (G_40 : XG)
    (hM : RM (G.2.1 (F a 1)) (0))
    (oq35 : CPd (G22.2.1 (F a 1)) (G22.2.1 (F a 2)) (G35.2.1 (F a 2)) (0 : Int) (0 : Int) 360)
    (c_G22_F_a_1 : G22.2.1 (F a 1) = G.2.1 (F a 1))
    (c_G_40_F_a_2 : G_40.2.1 (F a 2) = G35.2.1 (F a 2)) :
    RM (G_40.2.1 (F a 2)) 0 := by
  rw [c_G_40_F_a_2]; exact CPd.rm oq35 (by decide) (by rw [c_G22_F_a_1]; exact hM)
theorem v_X11_begin_14_5 {K : Nat → Nat} {F : Nat → Nat → Nat} (a : Nat) (G2 : XG) (G : XG)
    (ha : K a = 13)
    (f10 : ((G.1 a 6).toInt) = 0 ∨ ((G.1 a 6).toInt) = 1)
    (c9 : ¬ (((G.1 a 6).toInt) = 0))
    (c_G2_F_a_2 : G2.2.1 (F a 2) = G.2.1 (F a 2)) :
    (((G.1 a 6).toInt) ≠ 0 ∧ G2.2.1 (F a 2) = (G.2.1 (F a 2))) ∨ (((G.1 a 6).toInt) = 0 ∧ mw (G2.2.1 (F a 2)) 0 = mw (G.2.1 (F a 1)) 0) := by
  exact Or.inl ⟨by omega, by rw [c_G2_F_a_2]⟩
theorem v_X11_begin_14_6 {F : Nat → Nat → Nat} (a : Nat) (G2 : XG) (G : XG)
    (hB : RM (G.2.1 (F a 2)) 0)
    (c_G2_F_a_2 : G2.2.1 (F a 2) = G.2.1 (F a 2)) :
    RM (G2.2.1 (F a 2)) 0 := by
  rw [c_G2_F_a_2]; exact hB
theorem v_X11_abort_16_1 {F : Nat → Nat → Nat} (a : Nat) (G2 : XG) (G : XG)
    (hR : RV (G.2.1 (F a 10)))
    (c_G2_F_a_10 : G2.2.1 (F a 10) = G.2.1 (F a 10)) :
    RV (G2.2.1 (F a 10)) := by simp only [c_G2_F_a_10]; assumption
theorem v_X11_abort_16_2 {F : Nat → Nat → Nat} (a : Nat) (G2 : XG) (G : XG)
    (hM : RM (G.2.1 (F a 1)) (0))
    (hB : RM (G.2.1 (F a 2)) 0)
    (c_G2_F_a_1 : G2.2.1 (F a 1) = G.2.1 (F a 1)) :
    RM (G2.2.1 (F a 1)) (0) := by simp only [c_G2_F_a_1]; assumption
theorem v_X11_abort_16_3 {F : Nat → Nat → Nat} (a : Nat) (G2 : XG) (G : XG)
    (hM : RM (G.2.1 (F a 1)) (0))
    (hB : RM (G.2.1 (F a 2)) 0)
    (c_G2_F_a_2 : G2.2.1 (F a 2) = G.2.1 (F a 2)) :
    RM (G2.2.1 (F a 2)) 0 := by simp only [c_G2_F_a_2]; assumption
theorem v_X11_abort_30_4 {K : Nat → Nat} {F : Nat → Nat → Nat} (a : Nat) (G2 : XG) (G : XG) (G16 : XG) (x16 : Int32)
    (ha : K a = 13)
    (hk9999 : K (F a 15) = 42)
    (hj9999 : F (F a 15) 99 = 15)
    (hk9999a : K (F a 17) = 43)
    (hj9999a : F (F a 17) 99 = 17)
    (hk9999b : K (F a 18) = 44)
    (hj9999b : F (F a 18) 99 = 18)
    (hk9999c : K (F a 11) = 38)
    (hj9999c : F (F a 11) 99 = 11)
    (hk9999d : K (F a 13) = 38)
    (hj9999d : F (F a 13) 99 = 13)
    (hk9999e : K (F a 1) = 30)
    (hj9999e : F (F a 1) 99 = 1)
    (hk9999f : K (F a 9) = 36)
    (hj9999f : F (F a 9) 99 = 9)
    (hk9999g : K (F a 10) = 37)
    (hj9999g : F (F a 10) 99 = 10)
    (hk9999h : K (F a 2) = 31)
    (hj9999h : F (F a 2) 99 = 2)
    (hG2 : G2 = dput G a 0 0)
    (hF16 : XFr [(a, 16), (a, 19)] [F a 15, F a 17, F a 18, F a 11, F a 13] [] G2 G16)
    (hR : RV (G.2.1 (F a 10)))
    (hM : RM (G.2.1 (F a 1)) (0))
    (hB : RM (G.2.1 (F a 2)) 0)
    (oq16 : pL G16 F a = if ((G.1 a 6).toInt) = 0 then [] else fuO (G.2.1 (F a 10)) (mw (G.2.1 (F a 1)) 0) (mw (G.2.1 (F a 2)) 0) 1)
    (oq16a : x16.toInt = ((G16.1 a 19).toInt))
    (f26 : ((G.1 a 6).toInt) = 0 ∨ ((G.1 a 6).toInt) = 1)
    (c9 : ((G.1 a 6).toInt) ≠ 0)
    (t16 : 0 ≤ x16.toInt ∧ x16.toInt ≤ 2388)
    (c_G16_F_a_1 : G16.2.1 (F a 1) = G.2.1 (F a 1))
    (c_G16_F_a_2 : G16.2.1 (F a 2) = G.2.1 (F a 2))
    (c_G16_F_a_9 : G16.2.1 (F a 9) = G.2.1 (F a 9))
    (c_G2_F_a_1 : G2.2.1 (F a 1) = G.2.1 (F a 1))
    (d_G16_a_0 : G16.1 a 0 = 0)
    (d_G16_a_6 : G16.1 a 6 = G.1 a 6) :
    (F a 2) ≠ (F a 1) := by
  intro e
  have h1 : K (F a 1) = 30 := by assumption
  have h2 : K (F a 2) = 31 := by assumption
  rw [← e, h2] at h1
  exact absurd h1 (by decide)
theorem v_X11_abort_49_5 {K : Nat → Nat} {F : Nat → Nat → Nat} (a : Nat) (G : XG) (G16 : XG) (G30 : XG) (G47 : XG) (x16 : Int32)
    (ha : K a = 13)
    (oq16a : x16.toInt = ((G16.1 a 19).toInt))
    (oq30 : CPd (G16.2.1 (F a 2)) (G16.2.1 (F a 1)) (G30.2.1 (F a 1)) (0 : Int) (0 : Int) 360)
    (f31 : ((G.1 a 6).toInt) = 0 ∨ ((G.1 a 6).toInt) = 1)
    (c9 : ((G.1 a 6).toInt) ≠ 0)
    (t16 : 0 ≤ x16.toInt ∧ x16.toInt ≤ 2388)
    (c_G16_F_a_2 : G16.2.1 (F a 2) = G.2.1 (F a 2))
    (c_G47_F_a_1 : G47.2.1 (F a 1) = G30.2.1 (F a 1)) :
    (((G.1 a 6).toInt) = 0 ∧ G47.2.1 (F a 1) = (G.2.1 (F a 1))) ∨ (((G.1 a 6).toInt) ≠ 0 ∧ mw (G47.2.1 (F a 1)) 0 = mw (G.2.1 (F a 2)) 0) := by
  exact Or.inr ⟨by omega, by rw [c_G47_F_a_1, ← c_G16_F_a_2]; exact CPd.vwm oq30 (by decide)⟩
theorem v_X11_abort_49_6 {F : Nat → Nat → Nat} (a : Nat) (G : XG) (G16 : XG) (G30 : XG) (G47 : XG)
    (hB : RM (G.2.1 (F a 2)) 0)
    (oq30 : CPd (G16.2.1 (F a 2)) (G16.2.1 (F a 1)) (G30.2.1 (F a 1)) (0 : Int) (0 : Int) 360)
    (c_G16_F_a_2 : G16.2.1 (F a 2) = G.2.1 (F a 2))
    (c_G47_F_a_1 : G47.2.1 (F a 1) = G30.2.1 (F a 1)) :
    RM (G47.2.1 (F a 1)) 0 := by
  rw [c_G47_F_a_1]; exact CPd.rm oq30 (by decide) (by rw [c_G16_F_a_2]; exact hB)
theorem v_X11_abort_49_7 {K : Nat → Nat} {F : Nat → Nat → Nat} (a : Nat) (G : XG) (G16 : XG) (x16 : Int32)
    (ha : K a = 13)
    (oq16 : pL G16 F a = if ((G.1 a 6).toInt) = 0 then [] else fuO (G.2.1 (F a 10)) (mw (G.2.1 (F a 1)) 0) (mw (G.2.1 (F a 2)) 0) 1)
    (oq16a : x16.toInt = ((G16.1 a 19).toInt))
    (f31 : ((G.1 a 6).toInt) = 0 ∨ ((G.1 a 6).toInt) = 1)
    (c9 : ((G.1 a 6).toInt) ≠ 0)
    (t16 : 0 ≤ x16.toInt ∧ x16.toInt ≤ 2388) :
    ((G.1 a 6).toInt) = 0 ∨ x16.toInt = (((fuO (G.2.1 (F a 10)) (mw (G.2.1 (F a 1)) 0) (mw (G.2.1 (F a 2)) 0) 1).length : Nat) : Int) := by
  have e := pL_len G16 F a
  rw [oq16, if_neg (by omega)] at e
  exact Or.inr (by omega)
theorem v_X11_abort_14_8 {K : Nat → Nat} {F : Nat → Nat → Nat} (a : Nat) (G2 : XG) (G : XG)
    (ha : K a = 13)
    (f23 : ((G.1 a 6).toInt) = 0 ∨ ((G.1 a 6).toInt) = 1)
    (c9 : ¬ (((G.1 a 6).toInt) ≠ 0))
    (c_G2_F_a_1 : G2.2.1 (F a 1) = G.2.1 (F a 1)) :
    (((G.1 a 6).toInt) = 0 ∧ G2.2.1 (F a 1) = (G.2.1 (F a 1))) ∨ (((G.1 a 6).toInt) ≠ 0 ∧ mw (G2.2.1 (F a 1)) 0 = mw (G.2.1 (F a 2)) 0) := by
  exact Or.inl ⟨by omega, by rw [c_G2_F_a_1]⟩
theorem v_X11_abort_14_9 {F : Nat → Nat → Nat} (a : Nat) (G2 : XG) (G : XG)
    (hM : RM (G.2.1 (F a 1)) (0))
    (c_G2_F_a_1 : G2.2.1 (F a 1) = G.2.1 (F a 1)) :
    RM (G2.2.1 (F a 1)) 0 := by
  rw [c_G2_F_a_1]; exact hM
theorem v_X11_abort_14_10 {K : Nat → Nat} {F : Nat → Nat → Nat} (a : Nat) (G : XG)
    (ha : K a = 13)
    (f23 : ((G.1 a 6).toInt) = 0 ∨ ((G.1 a 6).toInt) = 1)
    (c9 : ¬ (((G.1 a 6).toInt) ≠ 0)) :
    ((G.1 a 6).toInt) = 0 ∨ (-3 : Int) = (((fuO (G.2.1 (F a 10)) (mw (G.2.1 (F a 1)) 0) (mw (G.2.1 (F a 2)) 0) 1).length : Nat) : Int) := by
  exact Or.inl (by omega)
theorem v_X11_mark_44_1 {K : Nat → Nat} {F : Nat → Nat → Nat} (a : Nat) (G2 : XG) (G : XG) (x43 : Int32)
    (ha : K a = 13)
    (hk9999 : K (F a 3) = 32)
    (hj9999 : F (F a 3) 99 = 3)
    (hk9999a : K (F a 1) = 30)
    (hj9999a : F (F a 1) 99 = 1)
    (hG2 : G2 = dput G a 0 0)
    (hM : RM (G.2.1 (F a 1)) (0))
    (e43 : x43.toInt = ((360 : Int) * ((G.1 a 7).toInt)))
    (m0 : 0 ≤ ((G.1 a 7).toInt) ∧ ((G.1 a 7).toInt) ≤ 8)
    (f9 : ((G.1 a 6).toInt) = 0 ∨ ((G.1 a 6).toInt) = 1)
    (c9 : ((G.1 a 6).toInt) ≠ 0)
    (c21 : ((G.1 a 7).toInt) ≠ (8 : Int))
    (c_G2_F_a_1 : G2.2.1 (F a 1) = G.2.1 (F a 1))
    (c_G2_F_a_3 : G2.2.1 (F a 3) = G.2.1 (F a 3))
    (d_G2_a_0 : G2.1 a 0 = 0)
    (d_G2_a_7 : G2.1 a 7 = G.1 a 7) :
    (F a 1) ≠ (F a 3) := by
  intro e
  have h1 : K (F a 1) = 30 := by assumption
  have h2 : K (F a 3) = 32 := by assumption
  rw [e, h2] at h1
  exact absurd h1 (by decide)
theorem v_X11_mark_63_2 {K : Nat → Nat} {F : Nat → Nat → Nat} (a : Nat) (G2 : XG) (G : XG) (G44 : XG) (G54 : XG)
    (ha : K a = 13)
    (oq44 : CPd (G2.2.1 (F a 1)) (G2.2.1 (F a 3)) (G44.2.1 (F a 3)) (0 : Int) ((360 : Int) * ((G.1 a 7).toInt)) 360)
    (m0 : 0 ≤ ((G.1 a 7).toInt) ∧ ((G.1 a 7).toInt) ≤ 8)
    (f14 : ((G.1 a 6).toInt) = 0 ∨ ((G.1 a 6).toInt) = 1)
    (c9 : ((G.1 a 6).toInt) ≠ 0)
    (c21 : ((G.1 a 7).toInt) ≠ (8 : Int))
    (c_G2_F_a_1 : G2.2.1 (F a 1) = G.2.1 (F a 1))
    (c_G2_F_a_3 : G2.2.1 (F a 3) = G.2.1 (F a 3))
    (c_G54_F_a_3 : G54.2.1 (F a 3) = G44.2.1 (F a 3)) :
    ((((G.1 a 6).toInt) = 0 ∨ ((G.1 a 7).toInt) = 8) ∧ G54.2.1 (F a 3) = (G.2.1 (F a 3))) ∨ ((((G.1 a 6).toInt) ≠ 0 ∧ ((G.1 a 7).toInt) ≠ 8) ∧ CPd (G.2.1 (F a 1)) (G.2.1 (F a 3)) (G54.2.1 (F a 3)) 0 (360 * ((G.1 a 7).toInt)) 360) := by
  exact Or.inr ⟨by omega, by rw [c_G54_F_a_3, ← c_G2_F_a_1, ← c_G2_F_a_3]; exact oq44⟩
theorem v_X11_mark_26_3 {K : Nat → Nat} {F : Nat → Nat → Nat} (a : Nat) (G2 : XG) (G : XG)
    (ha : K a = 13)
    (m0 : 0 ≤ ((G.1 a 7).toInt) ∧ ((G.1 a 7).toInt) ≤ 8)
    (f8 : ((G.1 a 6).toInt) = 0 ∨ ((G.1 a 6).toInt) = 1)
    (c9 : ((G.1 a 6).toInt) ≠ 0)
    (c21 : ¬ (((G.1 a 7).toInt) ≠ (8 : Int)))
    (c_G2_F_a_3 : G2.2.1 (F a 3) = G.2.1 (F a 3)) :
    ((((G.1 a 6).toInt) = 0 ∨ ((G.1 a 7).toInt) = 8) ∧ G2.2.1 (F a 3) = (G.2.1 (F a 3))) ∨ ((((G.1 a 6).toInt) ≠ 0 ∧ ((G.1 a 7).toInt) ≠ 8) ∧ CPd (G.2.1 (F a 1)) (G.2.1 (F a 3)) (G2.2.1 (F a 3)) 0 (360 * ((G.1 a 7).toInt)) 360) := by
  exact Or.inl ⟨by omega, by rw [c_G2_F_a_3]⟩
theorem v_X11_mark_14_4 {K : Nat → Nat} {F : Nat → Nat → Nat} (a : Nat) (G2 : XG) (G : XG)
    (ha : K a = 13)
    (m0 : 0 ≤ ((G.1 a 7).toInt) ∧ ((G.1 a 7).toInt) ≤ 8)
    (f8 : ((G.1 a 6).toInt) = 0 ∨ ((G.1 a 6).toInt) = 1)
    (c9 : ¬ (((G.1 a 6).toInt) ≠ 0))
    (c_G2_F_a_3 : G2.2.1 (F a 3) = G.2.1 (F a 3)) :
    ((((G.1 a 6).toInt) = 0 ∨ ((G.1 a 7).toInt) = 8) ∧ G2.2.1 (F a 3) = (G.2.1 (F a 3))) ∨ ((((G.1 a 6).toInt) ≠ 0 ∧ ((G.1 a 7).toInt) ≠ 8) ∧ CPd (G.2.1 (F a 1)) (G.2.1 (F a 3)) (G2.2.1 (F a 3)) 0 (360 * ((G.1 a 7).toInt)) 360) := by
  exact Or.inl ⟨by omega, by rw [c_G2_F_a_3]⟩
