theorem v_X10_begin_23_1 {F : Nat → Nat → Nat} (a : Nat) (G12 : XG) (G : XG)
    (ron : RO (vw (G.2.1 (F (F a 3) 0))) (aI (G.2.1 (F (F a 3) 1))))
    (rob : RO (vw (G.2.1 (F (F a 4) 0))) (aI (G.2.1 (F (F a 4) 1))))
    (c_G12_F_F_a_3_0 : G12.2.1 (F (F a 3) 0) = G.2.1 (F (F a 3) 0))
    (c_G12_F_F_a_3_1 : G12.2.1 (F (F a 3) 1) = G.2.1 (F (F a 3) 1)) :
    RO (vw (G12.2.1 (F (F a 3) 0))) (aI (G12.2.1 (F (F a 3) 1))) := by simp only [c_G12_F_F_a_3_0, c_G12_F_F_a_3_1]; assumption
theorem v_X10_begin_54_2 {K : Nat → Nat} {F : Nat → Nat → Nat} (a : Nat) (G : XG) (G23 : XG) (G_28 : XG) (l1_28 : Int32) (N28 : Nat)
    (ha : K a = 12)
    (oq23 : (vw (G23.2.1 (F (F a 4) 0))) = (vw (G.2.1 (F (F a 3) 0))))
    (f22 : ((G.1 a 18).toInt) = 0 ∨ ((G.1 a 18).toInt) = 1)
    (c4 : ((G.1 a 18).toInt) = 0)
    (I28_0 : (0 : Int) ≤ l1_28.toInt)
    (hm28 : 2147483648 - l1_28.toInt < (((N28) + 1 : Nat) : Int))
    (c31 : (6 : Int) ≤ l1_28.toInt)
    (c_G_28_F_F_a_4_0 : G_28.2.1 (F (F a 4) 0) = G23.2.1 (F (F a 4) 0)) :
    (((G.1 a 18).toInt) ≠ 0 ∧ (vw (G_28.2.1 (F (F a 4) 0))) = (vw (G.2.1 (F (F a 4) 0)))) ∨ (((G.1 a 18).toInt) = 0 ∧ (vw (G_28.2.1 (F (F a 4) 0))) = (vw (G.2.1 (F (F a 3) 0)))) := by
  exact Or.inr ⟨by omega, by rw [c_G_28_F_F_a_4_0]; exact oq23⟩
theorem v_X10_begin_54_3 {F : Nat → Nat → Nat} (a : Nat) (G23 : XG) (G_28 : XG)
    (oq23a : RO (vw (G23.2.1 (F (F a 4) 0))) (aI (G23.2.1 (F (F a 4) 1))))
    (c_G_28_F_F_a_4_0 : G_28.2.1 (F (F a 4) 0) = G23.2.1 (F (F a 4) 0))
    (c_G_28_F_F_a_4_1 : G_28.2.1 (F (F a 4) 1) = G23.2.1 (F (F a 4) 1)) :
    RO (vw (G_28.2.1 (F (F a 4) 0))) (aI (G_28.2.1 (F (F a 4) 1))) := by
  rw [c_G_28_F_F_a_4_0, c_G_28_F_F_a_4_1]; exact oq23a
theorem v_X10_begin_9_4 {K : Nat → Nat} {F : Nat → Nat → Nat} (a : Nat) (G : XG)
    (ha : K a = 12)
    (f17 : ((G.1 a 18).toInt) = 0 ∨ ((G.1 a 18).toInt) = 1)
    (c4 : ¬ (((G.1 a 18).toInt) = 0)) :
    (((G.1 a 18).toInt) ≠ 0 ∧ (vw (G.2.1 (F (F a 4) 0))) = (vw (G.2.1 (F (F a 4) 0)))) ∨ (((G.1 a 18).toInt) = 0 ∧ (vw (G.2.1 (F (F a 4) 0))) = (vw (G.2.1 (F (F a 3) 0)))) := by
  exact Or.inl ⟨by omega, rfl⟩
theorem v_X10_begin_9_5 {F : Nat → Nat → Nat} (a : Nat) (G : XG)
    (rob : RO (vw (G.2.1 (F (F a 4) 0))) (aI (G.2.1 (F (F a 4) 1)))) :
    RO (vw (G.2.1 (F (F a 4) 0))) (aI (G.2.1 (F (F a 4) 1))) := by
  exact rob
