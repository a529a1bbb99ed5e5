theorem v_X11_put_51_1 {F : Nat → Nat → Nat} (x10 : Int32) (p0 : Int32) (G48 : XG) (a : Nat) (G : XG) (p1 : Int32) (p2 : Int32) (p3 : Int32) (p4 : Int32)
    (t10 : (x10.toInt = 1 ∧ 0 ≤ p0.toInt ∧ p0.toInt ≤ 2) ∨ (x10.toInt = 0 ∧ (p0.toInt < 0 ∨ 2 < p0.toInt)))
    (c13 : x10.toInt = 0)
    (c_G48_F_a_1 : G48.2.1 (F a 1) = G.2.1 (F a 1)) :
    (¬ ((0 ≤ p0.toInt ∧ p0.toInt < 3) ∧ (0 ≤ p1.toInt ∧ p1.toInt < 30) ∧ (p2.toInt = -1000 ∨ (-99 ≤ p2.toInt ∧ p2.toInt ≤ 99)) ∧ (p3.toInt = -1000 ∨ (-99 ≤ p3.toInt ∧ p3.toInt ≤ 99)) ∧ (p4.toInt = -1000 ∨ (-99 ≤ p4.toInt ∧ p4.toInt ≤ 99))) ∧ (-1 : Int) = -1 ∧ mw (G48.2.1 (F a 1)) 0 = (mw (G.2.1 (F a 1)) 0)) ∨ (((0 ≤ p0.toInt ∧ p0.toInt < 3) ∧ (0 ≤ p1.toInt ∧ p1.toInt < 30) ∧ (p2.toInt = -1000 ∨ (-99 ≤ p2.toInt ∧ p2.toInt ≤ 99)) ∧ (p3.toInt = -1000 ∨ (-99 ≤ p3.toInt ∧ p3.toInt ≤ 99)) ∧ (p4.toInt = -1000 ∨ (-99 ≤ p4.toInt ∧ p4.toInt ≤ 99))) ∧ cel (mw (G.2.1 (F a 1)) 0) p0.toInt p1.toInt 0 ≠ -2000 ∧ (-1 : Int) = -4 ∧ mw (G48.2.1 (F a 1)) 0 = (mw (G.2.1 (F a 1)) 0)) ∨ (((0 ≤ p0.toInt ∧ p0.toInt < 3) ∧ (0 ≤ p1.toInt ∧ p1.toInt < 30) ∧ (p2.toInt = -1000 ∨ (-99 ≤ p2.toInt ∧ p2.toInt ≤ 99)) ∧ (p3.toInt = -1000 ∨ (-99 ≤ p3.toInt ∧ p3.toInt ≤ 99)) ∧ (p4.toInt = -1000 ∨ (-99 ≤ p4.toInt ∧ p4.toInt ≤ 99))) ∧ cel (mw (G.2.1 (F a 1)) 0) p0.toInt p1.toInt 0 = -2000 ∧ StR ((G.1 a 6).toInt) (-1 : Int) (G.2.1 (F a 10)) (mw (G.2.1 (F a 1)) 0) (rput3 (mw (G.2.1 (F a 1)) 0) p0.toInt p1.toInt p2.toInt p3.toInt p4.toInt) (mw (G48.2.1 (F a 1)) 0)) := by
  refine Or.inl ⟨fun h => ?_, rfl, by rw [c_G48_F_a_1]⟩
  obtain ⟨h1, h2, h3, h4, h5⟩ := h
  have hk := h1
  clear h1 h2 h3 h4 h5
  omega
theorem v_X11_put_51_2 {F : Nat → Nat → Nat} (a : Nat) (G : XG) (G48 : XG)
    (hM : RM (G.2.1 (F a 1)) (0))
    (c_G48_F_a_1 : G48.2.1 (F a 1) = G.2.1 (F a 1)) :
    RM (G48.2.1 (F a 1)) 0 := by
  rw [c_G48_F_a_1]; exact hM
theorem v_X11_put_51_3 {F : Nat → Nat → Nat} (x17 : Int32) (p1 : Int32) (G48 : XG) (a : Nat) (G : XG) (p0 : Int32) (p2 : Int32) (p3 : Int32) (p4 : Int32)
    (t17 : (x17.toInt = 1 ∧ 0 ≤ p1.toInt ∧ p1.toInt ≤ 29) ∨ (x17.toInt = 0 ∧ (p1.toInt < 0 ∨ 29 < p1.toInt)))
    (c20 : x17.toInt = 0)
    (c_G48_F_a_1 : G48.2.1 (F a 1) = G.2.1 (F a 1)) :
    (¬ ((0 ≤ p0.toInt ∧ p0.toInt < 3) ∧ (0 ≤ p1.toInt ∧ p1.toInt < 30) ∧ (p2.toInt = -1000 ∨ (-99 ≤ p2.toInt ∧ p2.toInt ≤ 99)) ∧ (p3.toInt = -1000 ∨ (-99 ≤ p3.toInt ∧ p3.toInt ≤ 99)) ∧ (p4.toInt = -1000 ∨ (-99 ≤ p4.toInt ∧ p4.toInt ≤ 99))) ∧ (-1 : Int) = -1 ∧ mw (G48.2.1 (F a 1)) 0 = (mw (G.2.1 (F a 1)) 0)) ∨ (((0 ≤ p0.toInt ∧ p0.toInt < 3) ∧ (0 ≤ p1.toInt ∧ p1.toInt < 30) ∧ (p2.toInt = -1000 ∨ (-99 ≤ p2.toInt ∧ p2.toInt ≤ 99)) ∧ (p3.toInt = -1000 ∨ (-99 ≤ p3.toInt ∧ p3.toInt ≤ 99)) ∧ (p4.toInt = -1000 ∨ (-99 ≤ p4.toInt ∧ p4.toInt ≤ 99))) ∧ cel (mw (G.2.1 (F a 1)) 0) p0.toInt p1.toInt 0 ≠ -2000 ∧ (-1 : Int) = -4 ∧ mw (G48.2.1 (F a 1)) 0 = (mw (G.2.1 (F a 1)) 0)) ∨ (((0 ≤ p0.toInt ∧ p0.toInt < 3) ∧ (0 ≤ p1.toInt ∧ p1.toInt < 30) ∧ (p2.toInt = -1000 ∨ (-99 ≤ p2.toInt ∧ p2.toInt ≤ 99)) ∧ (p3.toInt = -1000 ∨ (-99 ≤ p3.toInt ∧ p3.toInt ≤ 99)) ∧ (p4.toInt = -1000 ∨ (-99 ≤ p4.toInt ∧ p4.toInt ≤ 99))) ∧ cel (mw (G.2.1 (F a 1)) 0) p0.toInt p1.toInt 0 = -2000 ∧ StR ((G.1 a 6).toInt) (-1 : Int) (G.2.1 (F a 10)) (mw (G.2.1 (F a 1)) 0) (rput3 (mw (G.2.1 (F a 1)) 0) p0.toInt p1.toInt p2.toInt p3.toInt p4.toInt) (mw (G48.2.1 (F a 1)) 0)) := by
  refine Or.inl ⟨fun h => ?_, rfl, by rw [c_G48_F_a_1]⟩
  obtain ⟨h1, h2, h3, h4, h5⟩ := h
  have hk := h2
  clear h1 h2 h3 h4 h5
  omega
theorem v_X11_put_51_4 {F : Nat → Nat → Nat} (a : Nat) (G : XG) (G48 : XG)
    (hM : RM (G.2.1 (F a 1)) (0))
    (c_G48_F_a_1 : G48.2.1 (F a 1) = G.2.1 (F a 1)) :
    RM (G48.2.1 (F a 1)) 0 := by
  rw [c_G48_F_a_1]; exact hM
theorem v_X11_put_51_5 {F : Nat → Nat → Nat} (x24 : Int32) (p2 : Int32) (G48 : XG) (a : Nat) (G : XG) (p0 : Int32) (p1 : Int32) (p3 : Int32) (p4 : Int32)
    (t24 : (x24.toInt = 1 ∧ (p2.toInt = -1000 ∨ (-99 ≤ p2.toInt ∧ p2.toInt < 100))) ∨ (x24.toInt = 0 ∧ p2.toInt ≠ -1000 ∧ (p2.toInt < -99 ∨ 100 ≤ p2.toInt)))
    (c27 : x24.toInt = 0)
    (c_G48_F_a_1 : G48.2.1 (F a 1) = G.2.1 (F a 1)) :
    (¬ ((0 ≤ p0.toInt ∧ p0.toInt < 3) ∧ (0 ≤ p1.toInt ∧ p1.toInt < 30) ∧ (p2.toInt = -1000 ∨ (-99 ≤ p2.toInt ∧ p2.toInt ≤ 99)) ∧ (p3.toInt = -1000 ∨ (-99 ≤ p3.toInt ∧ p3.toInt ≤ 99)) ∧ (p4.toInt = -1000 ∨ (-99 ≤ p4.toInt ∧ p4.toInt ≤ 99))) ∧ (-1 : Int) = -1 ∧ mw (G48.2.1 (F a 1)) 0 = (mw (G.2.1 (F a 1)) 0)) ∨ (((0 ≤ p0.toInt ∧ p0.toInt < 3) ∧ (0 ≤ p1.toInt ∧ p1.toInt < 30) ∧ (p2.toInt = -1000 ∨ (-99 ≤ p2.toInt ∧ p2.toInt ≤ 99)) ∧ (p3.toInt = -1000 ∨ (-99 ≤ p3.toInt ∧ p3.toInt ≤ 99)) ∧ (p4.toInt = -1000 ∨ (-99 ≤ p4.toInt ∧ p4.toInt ≤ 99))) ∧ cel (mw (G.2.1 (F a 1)) 0) p0.toInt p1.toInt 0 ≠ -2000 ∧ (-1 : Int) = -4 ∧ mw (G48.2.1 (F a 1)) 0 = (mw (G.2.1 (F a 1)) 0)) ∨ (((0 ≤ p0.toInt ∧ p0.toInt < 3) ∧ (0 ≤ p1.toInt ∧ p1.toInt < 30) ∧ (p2.toInt = -1000 ∨ (-99 ≤ p2.toInt ∧ p2.toInt ≤ 99)) ∧ (p3.toInt = -1000 ∨ (-99 ≤ p3.toInt ∧ p3.toInt ≤ 99)) ∧ (p4.toInt = -1000 ∨ (-99 ≤ p4.toInt ∧ p4.toInt ≤ 99))) ∧ cel (mw (G.2.1 (F a 1)) 0) p0.toInt p1.toInt 0 = -2000 ∧ StR ((G.1 a 6).toInt) (-1 : Int) (G.2.1 (F a 10)) (mw (G.2.1 (F a 1)) 0) (rput3 (mw (G.2.1 (F a 1)) 0) p0.toInt p1.toInt p2.toInt p3.toInt p4.toInt) (mw (G48.2.1 (F a 1)) 0)) := by
  refine Or.inl ⟨fun h => ?_, rfl, by rw [c_G48_F_a_1]⟩
  obtain ⟨h1, h2, h3, h4, h5⟩ := h
  have hk := h3
  clear h1 h2 h3 h4 h5
  omega
theorem v_X11_put_51_6 {F : Nat → Nat → Nat} (a : Nat) (G : XG) (G48 : XG)
    (hM : RM (G.2.1 (F a 1)) (0))
    (c_G48_F_a_1 : G48.2.1 (F a 1) = G.2.1 (F a 1)) :
    RM (G48.2.1 (F a 1)) 0 := by
  rw [c_G48_F_a_1]; exact hM
theorem v_X11_put_51_7 {F : Nat → Nat → Nat} (x32 : Int32) (p3 : Int32) (G48 : XG) (a : Nat) (G : XG) (p0 : Int32) (p1 : Int32) (p2 : Int32) (p4 : Int32)
    (t32 : (x32.toInt = 1 ∧ (p3.toInt = -1000 ∨ (-99 ≤ p3.toInt ∧ p3.toInt < 100))) ∨ (x32.toInt = 0 ∧ p3.toInt ≠ -1000 ∧ (p3.toInt < -99 ∨ 100 ≤ p3.toInt)))
    (c35 : x32.toInt = 0)
    (c_G48_F_a_1 : G48.2.1 (F a 1) = G.2.1 (F a 1)) :
    (¬ ((0 ≤ p0.toInt ∧ p0.toInt < 3) ∧ (0 ≤ p1.toInt ∧ p1.toInt < 30) ∧ (p2.toInt = -1000 ∨ (-99 ≤ p2.toInt ∧ p2.toInt ≤ 99)) ∧ (p3.toInt = -1000 ∨ (-99 ≤ p3.toInt ∧ p3.toInt ≤ 99)) ∧ (p4.toInt = -1000 ∨ (-99 ≤ p4.toInt ∧ p4.toInt ≤ 99))) ∧ (-1 : Int) = -1 ∧ mw (G48.2.1 (F a 1)) 0 = (mw (G.2.1 (F a 1)) 0)) ∨ (((0 ≤ p0.toInt ∧ p0.toInt < 3) ∧ (0 ≤ p1.toInt ∧ p1.toInt < 30) ∧ (p2.toInt = -1000 ∨ (-99 ≤ p2.toInt ∧ p2.toInt ≤ 99)) ∧ (p3.toInt = -1000 ∨ (-99 ≤ p3.toInt ∧ p3.toInt ≤ 99)) ∧ (p4.toInt = -1000 ∨ (-99 ≤ p4.toInt ∧ p4.toInt ≤ 99))) ∧ cel (mw (G.2.1 (F a 1)) 0) p0.toInt p1.toInt 0 ≠ -2000 ∧ (-1 : Int) = -4 ∧ mw (G48.2.1 (F a 1)) 0 = (mw (G.2.1 (F a 1)) 0)) ∨ (((0 ≤ p0.toInt ∧ p0.toInt < 3) ∧ (0 ≤ p1.toInt ∧ p1.toInt < 30) ∧ (p2.toInt = -1000 ∨ (-99 ≤ p2.toInt ∧ p2.toInt ≤ 99)) ∧ (p3.toInt = -1000 ∨ (-99 ≤ p3.toInt ∧ p3.toInt ≤ 99)) ∧ (p4.toInt = -1000 ∨ (-99 ≤ p4.toInt ∧ p4.toInt ≤ 99))) ∧ cel (mw (G.2.1 (F a 1)) 0) p0.toInt p1.toInt 0 = -2000 ∧ StR ((G.1 a 6).toInt) (-1 : Int) (G.2.1 (F a 10)) (mw (G.2.1 (F a 1)) 0) (rput3 (mw (G.2.1 (F a 1)) 0) p0.toInt p1.toInt p2.toInt p3.toInt p4.toInt) (mw (G48.2.1 (F a 1)) 0)) := by
  refine Or.inl ⟨fun h => ?_, rfl, by rw [c_G48_F_a_1]⟩
  obtain ⟨h1, h2, h3, h4, h5⟩ := h
  have hk := h4
  clear h1 h2 h3 h4 h5
  omega
theorem v_X11_put_51_8 {F : Nat → Nat → Nat} (a : Nat) (G : XG) (G48 : XG)
    (hM : RM (G.2.1 (F a 1)) (0))
    (c_G48_F_a_1 : G48.2.1 (F a 1) = G.2.1 (F a 1)) :
    RM (G48.2.1 (F a 1)) 0 := by
  rw [c_G48_F_a_1]; exact hM
theorem v_X11_put_55_9 {F : Nat → Nat → Nat} (a : Nat) (G : XG) (G6 : XG)
    (hM : RM (G.2.1 (F a 1)) (0))
    (hB : RM (G.2.1 (F a 2)) 0)
    (c_G6_F_a_1 : G6.2.1 (F a 1) = G.2.1 (F a 1)) :
    RM (G6.2.1 (F a 1)) 0 := by simp only [c_G6_F_a_1]; assumption
theorem v_X11_put_69_10 {F : Nat → Nat → Nat} (a : Nat) (G : XG) (G6 : XG)
    (hR : RV (G.2.1 (F a 10)))
    (c_G6_F_a_10 : G6.2.1 (F a 10) = G.2.1 (F a 10)) :
    RV (G6.2.1 (F a 10)) := by simp only [c_G6_F_a_10]; assumption
theorem v_X11_put_69_11 {F : Nat → Nat → Nat} (a : Nat) (G : XG) (G6 : XG)
    (hM : RM (G.2.1 (F a 1)) (0))
    (hB : RM (G.2.1 (F a 2)) 0)
    (c_G6_F_a_1 : G6.2.1 (F a 1) = G.2.1 (F a 1)) :
    RM (G6.2.1 (F a 1)) (0) := by simp only [c_G6_F_a_1]; assumption
theorem v_X11_put_120_12 {F : Nat → Nat → Nat} (a : Nat) (G : XG) (G118 : XG)
    (hR : RV (G.2.1 (F a 10)))
    (c_G118_F_a_10 : G118.2.1 (F a 10) = G.2.1 (F a 10)) :
    RV (G118.2.1 (F a 10)) := by simp only [c_G118_F_a_10]; assumption
theorem v_X11_put_120_13 {F : Nat → Nat → Nat} (G86 : XG) (G69 : XG) (a : Nat) (x74 : Int32) (G96 : XG) (x94 : Int32) (p2 : Int32) (G107 : XG) (x104 : Int32) (p3 : Int32) (G118 : XG) (x115 : Int32) (p4 : Int32) (G : XG) (p0 : Int32) (p1 : Int32) (x55 : Int32)
    (hG86 : G86 = cput G69 (F a 1) x74.toNatClampNeg 1)
    (hG96 : G96 = cput G86 (F a 1) x94.toNatClampNeg p2)
    (hG107 : G107 = cput G96 (F a 1) x104.toNatClampNeg p3)
    (hG118 : G118 = cput G107 (F a 1) x115.toNatClampNeg p4)
    (hM : RM (G.2.1 (F a 1)) (0))
    (z52 : 0 ≤ p0.toInt ∧ p0.toInt < 3)
    (z52a : 0 ≤ p1.toInt ∧ p1.toInt < 30)
    (z52b : p2.toInt = -1000 ∨ (-99 ≤ p2.toInt ∧ p2.toInt ≤ 99))
    (z52c : p3.toInt = -1000 ∨ (-99 ≤ p3.toInt ∧ p3.toInt ≤ 99))
    (z52d : p4.toInt = -1000 ∨ (-99 ≤ p4.toInt ∧ p4.toInt ≤ 99))
    (t55 : (x55.toInt = 1 ∧ (cel (mw (G.2.1 (F a 1)) 0) (p0.toInt) (p1.toInt) 0) ≠ -2000) ∨ (x55.toInt = 0 ∧ (cel (mw (G.2.1 (F a 1)) 0) (p0.toInt) (p1.toInt) 0) = -2000))
    (c58 : x55.toInt = 0)
    (t74 : 0 ≤ p0.toInt ∧ p0.toInt ≤ 2 ∧ 0 ≤ p1.toInt ∧ p1.toInt ≤ 29 → x74.toInt = 4 * (30 * p0.toInt + p1.toInt))
    (t94 : x94.toInt = x74.toInt + (1 : Int) ∨ x74.toInt + (1 : Int) < -2147483648 ∨ 2147483648 ≤ x74.toInt + (1 : Int))
    (t104 : x104.toInt = x74.toInt + (2 : Int) ∨ x74.toInt + (2 : Int) < -2147483648 ∨ 2147483648 ≤ x74.toInt + (2 : Int))
    (t115 : x115.toInt = x74.toInt + (3 : Int) ∨ x74.toInt + (3 : Int) < -2147483648 ∨ 2147483648 ≤ x74.toInt + (3 : Int))
    (c_G69_F_a_1 : G69.2.1 (F a 1) = G.2.1 (F a 1)) :
    RM (G118.2.1 (F a 1)) (0) := by
  have u := put4u (I := 0 + 4 * (30 * p0.toInt + p1.toInt)) (aI_pu hG86 c_G69_F_a_1 (by omega) (by decide) (by omega)) (aI_pu hG96 rfl (by omega) rfl (by omega)) (aI_pu hG107 rfl (by omega) rfl (by omega)) (aI_pu hG118 rfl (by omega) rfl (by omega))
  exact hM.put (t := p0.toInt) (k := p1.toInt) (by decide) rfl u z52b z52c z52d
theorem v_X11_put_120_14 {F : Nat → Nat → Nat} (a : Nat) (G : XG) (G69 : XG) (G118 : XG)
    (hM : RM (G.2.1 (F a 1)) (0))
    (hB : RM (G.2.1 (F a 2)) 0)
    (oq69a : RM (G69.2.1 (F a 4)) 0)
    (c_G118_F_a_4 : G118.2.1 (F a 4) = G69.2.1 (F a 4)) :
    RM (G118.2.1 (F a 4)) 0 := by simp only [c_G118_F_a_4]; assumption
theorem v_X11_put_120_15 {F : Nat → Nat → Nat} (a : Nat) (G : XG) (G69 : XG) (G118 : XG)
    (hM : RM (G.2.1 (F a 1)) (0))
    (hB : RM (G.2.1 (F a 2)) 0)
    (oq69a : RM (G69.2.1 (F a 4)) 0)
    (c_G118_F_a_2 : G118.2.1 (F a 2) = G.2.1 (F a 2)) :
    RM (G118.2.1 (F a 2)) 0 := by simp only [c_G118_F_a_2]; assumption
theorem v_X11_put_120_16 {F : Nat → Nat → Nat} (a : Nat) (G : XG) (G69 : XG) (G118 : XG)
    (oq69b : LSt (G.2.1 (F a 10)) (G69.2.1 (F a 12)) (mw (G.2.1 (F a 1)) 0) 12)
    (c_G118_F_a_10 : G118.2.1 (F a 10) = G.2.1 (F a 10))
    (c_G118_F_a_12 : G118.2.1 (F a 12) = G69.2.1 (F a 12)) :
    LSt (G118.2.1 (F a 10)) (G118.2.1 (F a 12)) (mw (G.2.1 (F a 1)) 0) 12 := by
  rw [c_G118_F_a_10, c_G118_F_a_12]; exact oq69b
theorem v_X11_put_123_17 {F : Nat → Nat → Nat} (G86 : XG) (G69 : XG) (a : Nat) (x74 : Int32) (G96 : XG) (x94 : Int32) (p2 : Int32) (G107 : XG) (x104 : Int32) (p3 : Int32) (G118 : XG) (x115 : Int32) (p4 : Int32) (G : XG) (x120 : Int32) (G120 : XG) (p0 : Int32) (p1 : Int32) (x55 : Int32)
    (hG86 : G86 = cput G69 (F a 1) x74.toNatClampNeg 1)
    (hG96 : G96 = cput G86 (F a 1) x94.toNatClampNeg p2)
    (hG107 : G107 = cput G96 (F a 1) x104.toNatClampNeg p3)
    (hG118 : G118 = cput G107 (F a 1) x115.toNatClampNeg p4)
    (oq69 : mw (G69.2.1 (F a 4)) 0 = mw (G.2.1 (F a 1)) 0)
    (oq120 : ((ffP (G.2.1 (F a 10)) (mw (G118.2.1 (F a 1)) 0) (fuO (G.2.1 (F a 10)) (mw (G.2.1 (F a 1)) 0) (mw (G118.2.1 (F a 1)) 0) 0) ≠ -1 ∨ (((G.1 a 6).toInt) = 0 ∧ ffP (G.2.1 (F a 10)) (mw (G118.2.1 (F a 1)) 0) (fuO (G.2.1 (F a 10)) (mw (G.2.1 (F a 1)) 0) (mw (G118.2.1 (F a 1)) 0) 1) ≠ -1)) ∧ x120.toInt = -5 ∧ mw (G120.2.1 (F a 1)) 0 = mw (G69.2.1 (F a 4)) 0) ∨ (ffP (G.2.1 (F a 10)) (mw (G118.2.1 (F a 1)) 0) (fuO (G.2.1 (F a 10)) (mw (G.2.1 (F a 1)) 0) (mw (G118.2.1 (F a 1)) 0) 0) = -1 ∧ (((G.1 a 6).toInt) = 0 → ffP (G.2.1 (F a 10)) (mw (G118.2.1 (F a 1)) 0) (fuO (G.2.1 (F a 10)) (mw (G.2.1 (F a 1)) 0) (mw (G118.2.1 (F a 1)) 0) 1) = -1) ∧ x120.toInt = (((fuO (G.2.1 (F a 10)) (mw (G.2.1 (F a 1)) 0) (mw (G118.2.1 (F a 1)) 0) 2).length : Nat) : Int) ∧ mw (G120.2.1 (F a 1)) 0 = mw (G118.2.1 (F a 1)) 0))
    (z52 : 0 ≤ p0.toInt ∧ p0.toInt < 3)
    (z52a : 0 ≤ p1.toInt ∧ p1.toInt < 30)
    (z52b : p2.toInt = -1000 ∨ (-99 ≤ p2.toInt ∧ p2.toInt ≤ 99))
    (z52c : p3.toInt = -1000 ∨ (-99 ≤ p3.toInt ∧ p3.toInt ≤ 99))
    (z52d : p4.toInt = -1000 ∨ (-99 ≤ p4.toInt ∧ p4.toInt ≤ 99))
    (t55 : (x55.toInt = 1 ∧ (cel (mw (G.2.1 (F a 1)) 0) (p0.toInt) (p1.toInt) 0) ≠ -2000) ∨ (x55.toInt = 0 ∧ (cel (mw (G.2.1 (F a 1)) 0) (p0.toInt) (p1.toInt) 0) = -2000))
    (c58 : x55.toInt = 0)
    (t74 : 0 ≤ p0.toInt ∧ p0.toInt ≤ 2 ∧ 0 ≤ p1.toInt ∧ p1.toInt ≤ 29 → x74.toInt = 4 * (30 * p0.toInt + p1.toInt))
    (t94 : x94.toInt = x74.toInt + (1 : Int) ∨ x74.toInt + (1 : Int) < -2147483648 ∨ 2147483648 ≤ x74.toInt + (1 : Int))
    (t104 : x104.toInt = x74.toInt + (2 : Int) ∨ x74.toInt + (2 : Int) < -2147483648 ∨ 2147483648 ≤ x74.toInt + (2 : Int))
    (t115 : x115.toInt = x74.toInt + (3 : Int) ∨ x74.toInt + (3 : Int) < -2147483648 ∨ 2147483648 ≤ x74.toInt + (3 : Int))
    (c_G69_F_a_1 : G69.2.1 (F a 1) = G.2.1 (F a 1)) :
    (¬ ((0 ≤ p0.toInt ∧ p0.toInt < 3) ∧ (0 ≤ p1.toInt ∧ p1.toInt < 30) ∧ (p2.toInt = -1000 ∨ (-99 ≤ p2.toInt ∧ p2.toInt ≤ 99)) ∧ (p3.toInt = -1000 ∨ (-99 ≤ p3.toInt ∧ p3.toInt ≤ 99)) ∧ (p4.toInt = -1000 ∨ (-99 ≤ p4.toInt ∧ p4.toInt ≤ 99))) ∧ x120.toInt = -1 ∧ mw (G120.2.1 (F a 1)) 0 = (mw (G.2.1 (F a 1)) 0)) ∨ (((0 ≤ p0.toInt ∧ p0.toInt < 3) ∧ (0 ≤ p1.toInt ∧ p1.toInt < 30) ∧ (p2.toInt = -1000 ∨ (-99 ≤ p2.toInt ∧ p2.toInt ≤ 99)) ∧ (p3.toInt = -1000 ∨ (-99 ≤ p3.toInt ∧ p3.toInt ≤ 99)) ∧ (p4.toInt = -1000 ∨ (-99 ≤ p4.toInt ∧ p4.toInt ≤ 99))) ∧ cel (mw (G.2.1 (F a 1)) 0) p0.toInt p1.toInt 0 ≠ -2000 ∧ x120.toInt = -4 ∧ mw (G120.2.1 (F a 1)) 0 = (mw (G.2.1 (F a 1)) 0)) ∨ (((0 ≤ p0.toInt ∧ p0.toInt < 3) ∧ (0 ≤ p1.toInt ∧ p1.toInt < 30) ∧ (p2.toInt = -1000 ∨ (-99 ≤ p2.toInt ∧ p2.toInt ≤ 99)) ∧ (p3.toInt = -1000 ∨ (-99 ≤ p3.toInt ∧ p3.toInt ≤ 99)) ∧ (p4.toInt = -1000 ∨ (-99 ≤ p4.toInt ∧ p4.toInt ≤ 99))) ∧ cel (mw (G.2.1 (F a 1)) 0) p0.toInt p1.toInt 0 = -2000 ∧ StR ((G.1 a 6).toInt) x120.toInt (G.2.1 (F a 10)) (mw (G.2.1 (F a 1)) 0) (rput3 (mw (G.2.1 (F a 1)) 0) p0.toInt p1.toInt p2.toInt p3.toInt p4.toInt) (mw (G120.2.1 (F a 1)) 0)) := by
  have u := put4u (I := 0 + 4 * (30 * p0.toInt + p1.toInt)) (aI_pu hG86 c_G69_F_a_1 (by omega) (by decide) (by omega)) (aI_pu hG96 rfl (by omega) rfl (by omega)) (aI_pu hG107 rfl (by omega) rfl (by omega)) (aI_pu hG118 rfl (by omega) rfl (by omega))
  have e1 := mw_put (b := 0) (t := p0.toInt) (k := p1.toInt) (by omega) (by decide) rfl u
  rw [e1, oq69] at oq120
  exact Or.inr (Or.inr ⟨⟨z52, z52a, z52b, z52c, z52d⟩, by omega, oq120⟩)
theorem v_X11_put_123_18 {F : Nat → Nat → Nat} (a : Nat) (G120 : XG)
    (oq120a : RM (G120.2.1 (F a 1)) 0) :
    RM (G120.2.1 (F a 1)) 0 := by
  exact oq120a
theorem v_X11_put_67_19 {F : Nat → Nat → Nat} (p0 : Int32) (p1 : Int32) (p2 : Int32) (p3 : Int32) (p4 : Int32) (x55 : Int32) (G : XG) (a : Nat) (G64 : XG)
    (z52 : 0 ≤ p0.toInt ∧ p0.toInt < 3)
    (z52a : 0 ≤ p1.toInt ∧ p1.toInt < 30)
    (z52b : p2.toInt = -1000 ∨ (-99 ≤ p2.toInt ∧ p2.toInt ≤ 99))
    (z52c : p3.toInt = -1000 ∨ (-99 ≤ p3.toInt ∧ p3.toInt ≤ 99))
    (z52d : p4.toInt = -1000 ∨ (-99 ≤ p4.toInt ∧ p4.toInt ≤ 99))
    (t55 : (x55.toInt = 1 ∧ (cel (mw (G.2.1 (F a 1)) 0) (p0.toInt) (p1.toInt) 0) ≠ -2000) ∨ (x55.toInt = 0 ∧ (cel (mw (G.2.1 (F a 1)) 0) (p0.toInt) (p1.toInt) 0) = -2000))
    (c58 : ¬ (x55.toInt = 0))
    (c_G64_F_a_1 : G64.2.1 (F a 1) = G.2.1 (F a 1)) :
    (¬ ((0 ≤ p0.toInt ∧ p0.toInt < 3) ∧ (0 ≤ p1.toInt ∧ p1.toInt < 30) ∧ (p2.toInt = -1000 ∨ (-99 ≤ p2.toInt ∧ p2.toInt ≤ 99)) ∧ (p3.toInt = -1000 ∨ (-99 ≤ p3.toInt ∧ p3.toInt ≤ 99)) ∧ (p4.toInt = -1000 ∨ (-99 ≤ p4.toInt ∧ p4.toInt ≤ 99))) ∧ (-4 : Int) = -1 ∧ mw (G64.2.1 (F a 1)) 0 = (mw (G.2.1 (F a 1)) 0)) ∨ (((0 ≤ p0.toInt ∧ p0.toInt < 3) ∧ (0 ≤ p1.toInt ∧ p1.toInt < 30) ∧ (p2.toInt = -1000 ∨ (-99 ≤ p2.toInt ∧ p2.toInt ≤ 99)) ∧ (p3.toInt = -1000 ∨ (-99 ≤ p3.toInt ∧ p3.toInt ≤ 99)) ∧ (p4.toInt = -1000 ∨ (-99 ≤ p4.toInt ∧ p4.toInt ≤ 99))) ∧ cel (mw (G.2.1 (F a 1)) 0) p0.toInt p1.toInt 0 ≠ -2000 ∧ (-4 : Int) = -4 ∧ mw (G64.2.1 (F a 1)) 0 = (mw (G.2.1 (F a 1)) 0)) ∨ (((0 ≤ p0.toInt ∧ p0.toInt < 3) ∧ (0 ≤ p1.toInt ∧ p1.toInt < 30) ∧ (p2.toInt = -1000 ∨ (-99 ≤ p2.toInt ∧ p2.toInt ≤ 99)) ∧ (p3.toInt = -1000 ∨ (-99 ≤ p3.toInt ∧ p3.toInt ≤ 99)) ∧ (p4.toInt = -1000 ∨ (-99 ≤ p4.toInt ∧ p4.toInt ≤ 99))) ∧ cel (mw (G.2.1 (F a 1)) 0) p0.toInt p1.toInt 0 = -2000 ∧ StR ((G.1 a 6).toInt) (-4 : Int) (G.2.1 (F a 10)) (mw (G.2.1 (F a 1)) 0) (rput3 (mw (G.2.1 (F a 1)) 0) p0.toInt p1.toInt p2.toInt p3.toInt p4.toInt) (mw (G64.2.1 (F a 1)) 0)) := by
  exact Or.inr (Or.inl ⟨⟨z52, z52a, z52b, z52c, z52d⟩, by omega, rfl, by rw [c_G64_F_a_1]⟩)
theorem v_X11_put_67_20 {F : Nat → Nat → Nat} (a : Nat) (G : XG) (G64 : XG)
    (hM : RM (G.2.1 (F a 1)) (0))
    (c_G64_F_a_1 : G64.2.1 (F a 1) = G.2.1 (F a 1)) :
    RM (G64.2.1 (F a 1)) 0 := by
  rw [c_G64_F_a_1]; exact hM
theorem v_X11_put_51_21 {F : Nat → Nat → Nat} (x40 : Int32) (p4 : Int32) (G48 : XG) (a : Nat) (G : XG) (p0 : Int32) (p1 : Int32) (p2 : Int32) (p3 : Int32)
    (t40 : (x40.toInt = 1 ∧ (p4.toInt = -1000 ∨ (-99 ≤ p4.toInt ∧ p4.toInt < 100))) ∨ (x40.toInt = 0 ∧ p4.toInt ≠ -1000 ∧ (p4.toInt < -99 ∨ 100 ≤ p4.toInt)))
    (c43 : ¬ (x40.toInt ≠ 0))
    (c_G48_F_a_1 : G48.2.1 (F a 1) = G.2.1 (F a 1)) :
    (¬ ((0 ≤ p0.toInt ∧ p0.toInt < 3) ∧ (0 ≤ p1.toInt ∧ p1.toInt < 30) ∧ (p2.toInt = -1000 ∨ (-99 ≤ p2.toInt ∧ p2.toInt ≤ 99)) ∧ (p3.toInt = -1000 ∨ (-99 ≤ p3.toInt ∧ p3.toInt ≤ 99)) ∧ (p4.toInt = -1000 ∨ (-99 ≤ p4.toInt ∧ p4.toInt ≤ 99))) ∧ (-1 : Int) = -1 ∧ mw (G48.2.1 (F a 1)) 0 = (mw (G.2.1 (F a 1)) 0)) ∨ (((0 ≤ p0.toInt ∧ p0.toInt < 3) ∧ (0 ≤ p1.toInt ∧ p1.toInt < 30) ∧ (p2.toInt = -1000 ∨ (-99 ≤ p2.toInt ∧ p2.toInt ≤ 99)) ∧ (p3.toInt = -1000 ∨ (-99 ≤ p3.toInt ∧ p3.toInt ≤ 99)) ∧ (p4.toInt = -1000 ∨ (-99 ≤ p4.toInt ∧ p4.toInt ≤ 99))) ∧ cel (mw (G.2.1 (F a 1)) 0) p0.toInt p1.toInt 0 ≠ -2000 ∧ (-1 : Int) = -4 ∧ mw (G48.2.1 (F a 1)) 0 = (mw (G.2.1 (F a 1)) 0)) ∨ (((0 ≤ p0.toInt ∧ p0.toInt < 3) ∧ (0 ≤ p1.toInt ∧ p1.toInt < 30) ∧ (p2.toInt = -1000 ∨ (-99 ≤ p2.toInt ∧ p2.toInt ≤ 99)) ∧ (p3.toInt = -1000 ∨ (-99 ≤ p3.toInt ∧ p3.toInt ≤ 99)) ∧ (p4.toInt = -1000 ∨ (-99 ≤ p4.toInt ∧ p4.toInt ≤ 99))) ∧ cel (mw (G.2.1 (F a 1)) 0) p0.toInt p1.toInt 0 = -2000 ∧ StR ((G.1 a 6).toInt) (-1 : Int) (G.2.1 (F a 10)) (mw (G.2.1 (F a 1)) 0) (rput3 (mw (G.2.1 (F a 1)) 0) p0.toInt p1.toInt p2.toInt p3.toInt p4.toInt) (mw (G48.2.1 (F a 1)) 0)) := by
  refine Or.inl ⟨fun h => ?_, rfl, by rw [c_G48_F_a_1]⟩
  obtain ⟨h1, h2, h3, h4, h5⟩ := h
  have hk := h5
  clear h1 h2 h3 h4 h5
  omega
theorem v_X11_put_51_22 {F : Nat → Nat → Nat} (a : Nat) (G : XG) (G48 : XG)
    (hM : RM (G.2.1 (F a 1)) (0))
    (c_G48_F_a_1 : G48.2.1 (F a 1) = G.2.1 (F a 1)) :
    RM (G48.2.1 (F a 1)) 0 := by
  rw [c_G48_F_a_1]; exact hM
theorem v_X11_goes_39_1 {K : Nat → Nat} {F : Nat → Nat → Nat} (a : Nat) (G6 : XG) (G : XG) (p0 : Int32) (p1 : Int32) (p2 : Int32) (G38 : XG) (x34 : Int32)
    (ha : K a = 13)
    (hG6 : G6 = cput G (F a 47) p0.toNatClampNeg p1)
    (e0 : 0 ≤ p0.toInt ∧ p0.toInt < 90)
    (e1 : 0 ≤ p1.toInt ∧ p1.toInt < 3)
    (e2 : 0 ≤ p2.toInt ∧ p2.toInt < 30)
    (t34 : 0 ≤ p1.toInt ∧ p1.toInt ≤ 2 ∧ 0 ≤ p2.toInt ∧ p2.toInt ≤ 29 → x34.toInt = 4 * (30 * p1.toInt + p2.toInt))
    (c_G38_F_a_47 : G38.2.1 (F a 47) = G6.2.1 (F a 47)) :
    ∀ z : Int, 0 ≤ z → aI (G38.2.1 (F a 47)) z = if z = p0.toInt then p1.toInt else aI (G.2.1 (F a 47)) z := by
  rw [c_G38_F_a_47]; exact aI_pu hG6 rfl rfl rfl (by omega)
theorem v_X11_goes_39_2 {K : Nat → Nat} {F : Nat → Nat → Nat} (a : Nat) (G6 : XG) (G : XG) (p0 : Int32) (p1 : Int32) (G13 : XG) (p2 : Int32) (G38 : XG) (x34 : Int32)
    (ha : K a = 13)
    (hG13 : G13 = cput G6 (F a 48) p0.toNatClampNeg p2)
    (e0 : 0 ≤ p0.toInt ∧ p0.toInt < 90)
    (e1 : 0 ≤ p1.toInt ∧ p1.toInt < 3)
    (e2 : 0 ≤ p2.toInt ∧ p2.toInt < 30)
    (t34 : 0 ≤ p1.toInt ∧ p1.toInt ≤ 2 ∧ 0 ≤ p2.toInt ∧ p2.toInt ≤ 29 → x34.toInt = 4 * (30 * p1.toInt + p2.toInt))
    (c_G38_F_a_48 : G38.2.1 (F a 48) = G13.2.1 (F a 48))
    (c_G6_F_a_48 : G6.2.1 (F a 48) = G.2.1 (F a 48)) :
    ∀ z : Int, 0 ≤ z → aI (G38.2.1 (F a 48)) z = if z = p0.toInt then p2.toInt else aI (G.2.1 (F a 48)) z := by
  rw [c_G38_F_a_48]; exact aI_pu hG13 c_G6_F_a_48 rfl rfl (by omega)
theorem v_X11_goes_39_3 {K : Nat → Nat} {F : Nat → Nat → Nat} (a : Nat) (G : XG) (p0 : Int32) (p1 : Int32) (G13 : XG) (p2 : Int32) (G20 : XG) (G38 : XG) (x34 : Int32)
    (ha : K a = 13)
    (hG20 : G20 = cput G13 (F a 49) p0.toNatClampNeg 0)
    (e0 : 0 ≤ p0.toInt ∧ p0.toInt < 90)
    (e1 : 0 ≤ p1.toInt ∧ p1.toInt < 3)
    (e2 : 0 ≤ p2.toInt ∧ p2.toInt < 30)
    (t34 : 0 ≤ p1.toInt ∧ p1.toInt ≤ 2 ∧ 0 ≤ p2.toInt ∧ p2.toInt ≤ 29 → x34.toInt = 4 * (30 * p1.toInt + p2.toInt))
    (c_G13_F_a_49 : G13.2.1 (F a 49) = G.2.1 (F a 49))
    (c_G38_F_a_49 : G38.2.1 (F a 49) = G20.2.1 (F a 49)) :
    ∀ z : Int, 0 ≤ z → aI (G38.2.1 (F a 49)) z = if z = p0.toInt then 0 else aI (G.2.1 (F a 49)) z := by
  rw [c_G38_F_a_49]; exact aI_pu hG20 c_G13_F_a_49 rfl (by decide) (by omega)
theorem v_X11_goes_39_4 {K : Nat → Nat} {F : Nat → Nat → Nat} (a : Nat) (G : XG) (p0 : Int32) (p1 : Int32) (p2 : Int32) (G20 : XG) (G27 : XG) (G38 : XG) (x34 : Int32)
    (ha : K a = 13)
    (hG27 : G27 = cput G20 (F a 50) p0.toNatClampNeg 0)
    (e0 : 0 ≤ p0.toInt ∧ p0.toInt < 90)
    (e1 : 0 ≤ p1.toInt ∧ p1.toInt < 3)
    (e2 : 0 ≤ p2.toInt ∧ p2.toInt < 30)
    (t34 : 0 ≤ p1.toInt ∧ p1.toInt ≤ 2 ∧ 0 ≤ p2.toInt ∧ p2.toInt ≤ 29 → x34.toInt = 4 * (30 * p1.toInt + p2.toInt))
    (c_G20_F_a_50 : G20.2.1 (F a 50) = G.2.1 (F a 50))
    (c_G38_F_a_50 : G38.2.1 (F a 50) = G27.2.1 (F a 50)) :
    ∀ z : Int, 0 ≤ z → aI (G38.2.1 (F a 50)) z = if z = p0.toInt then 0 else aI (G.2.1 (F a 50)) z := by
  rw [c_G38_F_a_50]; exact aI_pu hG27 c_G20_F_a_50 rfl (by decide) (by omega)
theorem v_X11_goes_39_5 {K : Nat → Nat} {F : Nat → Nat → Nat} (a : Nat) (G : XG) (p0 : Int32) (p1 : Int32) (p2 : Int32) (G27 : XG) (G38 : XG) (x34 : Int32)
    (ha : K a = 13)
    (hG38 : G38 = cput G27 (F a 1) x34.toNatClampNeg 0)
    (e0 : 0 ≤ p0.toInt ∧ p0.toInt < 90)
    (e1 : 0 ≤ p1.toInt ∧ p1.toInt < 3)
    (e2 : 0 ≤ p2.toInt ∧ p2.toInt < 30)
    (t34 : 0 ≤ p1.toInt ∧ p1.toInt ≤ 2 ∧ 0 ≤ p2.toInt ∧ p2.toInt ≤ 29 → x34.toInt = 4 * (30 * p1.toInt + p2.toInt))
    (c_G27_F_a_1 : G27.2.1 (F a 1) = G.2.1 (F a 1)) :
    mw (G38.2.1 (F a 1)) 0 = rfil (mw (G.2.1 (F a 1)) 0) p1.toInt p2.toInt (-2000) 3 := by
  exact mw_cut (by omega) (by decide) (by omega) (aI_pu hG38 c_G27_F_a_1 rfl (by decide) (by omega))
theorem v_X11_goes_39_6 {K : Nat → Nat} {F : Nat → Nat → Nat} (a : Nat) (G : XG) (p0 : Int32) (p1 : Int32) (p2 : Int32) (G27 : XG) (G38 : XG) (x34 : Int32)
    (ha : K a = 13)
    (hG38 : G38 = cput G27 (F a 1) x34.toNatClampNeg 0)
    (hM : RM (G.2.1 (F a 1)) 0)
    (e0 : 0 ≤ p0.toInt ∧ p0.toInt < 90)
    (e1 : 0 ≤ p1.toInt ∧ p1.toInt < 3)
    (e2 : 0 ≤ p2.toInt ∧ p2.toInt < 30)
    (t34 : 0 ≤ p1.toInt ∧ p1.toInt ≤ 2 ∧ 0 ≤ p2.toInt ∧ p2.toInt ≤ 29 → x34.toInt = 4 * (30 * p1.toInt + p2.toInt))
    (c_G27_F_a_1 : G27.2.1 (F a 1) = G.2.1 (F a 1)) :
    RM (G38.2.1 (F a 1)) 0 := by
  exact hM.cut (t := p1.toInt) (k := p2.toInt) (by decide) (by omega) (aI_pu hG38 c_G27_F_a_1 rfl (by decide) (by omega))
