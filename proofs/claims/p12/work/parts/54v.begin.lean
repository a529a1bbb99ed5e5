theorem v_J6_bitCount_0f7a4_52_1 (x3 : Int32) (p0 : Int32) (x7 : Int32) (x14 : Int32) (x8 : Int32) (x17 : Int32) (x21 : Int32) (x27 : Int32) (x22 : Int32) (x32 : Int32) (x28 : Int32) (x38 : Int32) (x45 : Int32) (x39 : Int32) (x51 : Int32) (x46 : Int32)
    (eb3 : x3 = (Int32.toUInt32 p0 >>> (Int32.toUInt32 1 &&& Int32.toUInt32 31)).toInt32)
    (he7 : x7 = x3 &&& 1431655765)
    (he14 : x14 = x8 &&& 858993459)
    (eb17 : x17 = (Int32.toUInt32 x8 >>> (Int32.toUInt32 2 &&& Int32.toUInt32 31)).toInt32)
    (he21 : x21 = x17 &&& 858993459)
    (eb27 : x27 = (Int32.toUInt32 x22 >>> (Int32.toUInt32 4 &&& Int32.toUInt32 31)).toInt32)
    (he32 : x32 = x28 &&& 252645135)
    (eb38 : x38 = (Int32.toUInt32 x32 >>> (Int32.toUInt32 8 &&& Int32.toUInt32 31)).toInt32)
    (eb45 : x45 = (Int32.toUInt32 x39 >>> (Int32.toUInt32 16 &&& Int32.toUInt32 31)).toInt32)
    (he51 : x51 = x46 &&& 63)
    (n0 : 0 ≤ p0.toInt)
    (t8 : x8.toInt = p0.toInt - x7.toInt ∨ p0.toInt - x7.toInt < -2147483648 ∨ 2147483648 ≤ p0.toInt - x7.toInt)
    (t22 : x22.toInt = x14.toInt + x21.toInt ∨ x14.toInt + x21.toInt < -2147483648 ∨ 2147483648 ≤ x14.toInt + x21.toInt)
    (t28 : x28.toInt = x22.toInt + x27.toInt ∨ x22.toInt + x27.toInt < -2147483648 ∨ 2147483648 ≤ x22.toInt + x27.toInt)
    (t39 : x39.toInt = x32.toInt + x38.toInt ∨ x32.toInt + x38.toInt < -2147483648 ∨ 2147483648 ≤ x32.toInt + x38.toInt)
    (t46 : x46.toInt = x39.toInt + x45.toInt ∨ x39.toInt + x45.toInt < -2147483648 ∨ 2147483648 ≤ x39.toInt + x45.toInt) :
    x51.toInt = ((p32 (p0.toInt).toNat : Nat) : Int) := by
  exact bc_all n0 eb3 he7 t8 he14 eb17 he21 t22 eb27 t28 he32 eb38 t39 eb45 t46 he51
theorem v_X6_total_12_1 {F : Nat → Nat → Nat} (a : Nat) (G : XG)
    (hro : RO (vw (G.2.1 (F a 0))) (aI (G.2.1 (F a 1)))) :
    RO (vw (G.2.1 (F a 0))) (aI (G.2.1 (F a 1))) := by
  exact hro
theorem v_X10_begin_23_1 {F : Nat → Nat → Nat} (a : Nat) (G12 : XG) (G : XG)
    (ron : RO (vw (G.2.1 (F (F a 3) 0))) (aI (G.2.1 (F (F a 3) 1))))
    (rob : RO (vw (G.2.1 (F (F a 4) 0))) (aI (G.2.1 (F (F a 4) 1))))
    (c_G12_F_F_a_3_0 : G12.2.1 (F (F a 3) 0) = G.2.1 (F (F a 3) 0))
    (c_G12_F_F_a_3_1 : G12.2.1 (F (F a 3) 1) = G.2.1 (F (F a 3) 1)) :
    RO (vw (G12.2.1 (F (F a 3) 0))) (aI (G12.2.1 (F (F a 3) 1))) := by simp only [c_G12_F_F_a_3_0, c_G12_F_F_a_3_1]; assumption
theorem v_X10_begin_51_2 {F : Nat → Nat → Nat} (a : Nat) (G : XG) (G_28 : XG)
    (ron : RO (vw (G.2.1 (F (F a 3) 0))) (aI (G.2.1 (F (F a 3) 1))))
    (c_G_28_F_F_a_3_0 : G_28.2.1 (F (F a 3) 0) = G.2.1 (F (F a 3) 0))
    (c_G_28_F_F_a_3_1 : G_28.2.1 (F (F a 3) 1) = G.2.1 (F (F a 3) 1)) :
    RO (vw (G_28.2.1 (F (F a 3) 0))) (aI (G_28.2.1 (F (F a 3) 1))) := by
  first | exact ron | (rw [c_G_28_F_F_a_3_0, c_G_28_F_F_a_3_1]; exact ron) | (simp only [c_G_28_F_F_a_3_0, c_G_28_F_F_a_3_1]; exact ron)
theorem v_X10_begin_54_3 {K : Nat → Nat} {F : Nat → Nat → Nat} (a : Nat) (G : XG) (G23 : XG) (G_28 : XG) (l1_28 : Int32) (N28 : Nat) (x51 : Int32)
    (ha : K a = 12)
    (oq23 : (vw (G23.2.1 (F (F a 4) 0))) = (vw (G.2.1 (F (F a 3) 0))))
    (f22 : ((G.1 a 18).toInt) = 0 ∨ ((G.1 a 18).toInt) = 1)
    (c4 : ((G.1 a 18).toInt) = 0)
    (I28_0 : (0 : Int) ≤ l1_28.toInt)
    (hm28 : 2147483648 - l1_28.toInt < (((N28) + 1 : Nat) : Int))
    (c31 : (6 : Int) ≤ l1_28.toInt)
    (t51 : x51.toInt = (toB (aI (G.2.1 (F (F a 3) 1))) 3) ∧ (0 ≤ x51.toInt ∧ x51.toInt ≤ 90))
    (c_G_28_F_F_a_4_0 : G_28.2.1 (F (F a 4) 0) = G23.2.1 (F (F a 4) 0)) :
    (((G.1 a 18).toInt) ≠ 0 ∧ (vw (G_28.2.1 (F (F a 4) 0))) = (vw (G.2.1 (F (F a 4) 0)))) ∨ (((G.1 a 18).toInt) = 0 ∧ (vw (G_28.2.1 (F (F a 4) 0))) = (vw (G.2.1 (F (F a 3) 0)))) := by
  exact Or.inr ⟨by omega, by rw [c_G_28_F_F_a_4_0]; exact oq23⟩
theorem v_X10_begin_54_4 {F : Nat → Nat → Nat} (a : Nat) (G23 : XG) (G_28 : XG)
    (oq23a : RO (vw (G23.2.1 (F (F a 4) 0))) (aI (G23.2.1 (F (F a 4) 1))))
    (c_G_28_F_F_a_4_0 : G_28.2.1 (F (F a 4) 0) = G23.2.1 (F (F a 4) 0))
    (c_G_28_F_F_a_4_1 : G_28.2.1 (F (F a 4) 1) = G23.2.1 (F (F a 4) 1)) :
    RO (vw (G_28.2.1 (F (F a 4) 0))) (aI (G_28.2.1 (F (F a 4) 1))) := by
  rw [c_G_28_F_F_a_4_0, c_G_28_F_F_a_4_1]; exact oq23a
theorem v_X10_begin_9_5 {K : Nat → Nat} {F : Nat → Nat → Nat} (a : Nat) (G : XG)
    (ha : K a = 12)
    (f17 : ((G.1 a 18).toInt) = 0 ∨ ((G.1 a 18).toInt) = 1)
    (c4 : ¬ (((G.1 a 18).toInt) = 0)) :
    (((G.1 a 18).toInt) ≠ 0 ∧ (vw (G.2.1 (F (F a 4) 0))) = (vw (G.2.1 (F (F a 4) 0)))) ∨ (((G.1 a 18).toInt) = 0 ∧ (vw (G.2.1 (F (F a 4) 0))) = (vw (G.2.1 (F (F a 3) 0)))) := by
  exact Or.inl ⟨by omega, rfl⟩
theorem v_X10_begin_9_6 {F : Nat → Nat → Nat} (a : Nat) (G : XG)
    (rob : RO (vw (G.2.1 (F (F a 4) 0))) (aI (G.2.1 (F (F a 4) 1)))) :
    RO (vw (G.2.1 (F (F a 4) 0))) (aI (G.2.1 (F (F a 4) 1))) := by
  exact rob
