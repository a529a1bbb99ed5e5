theorem v_X10_rule_39_1 {F : Nat → Nat → Nat} (G : XG) (a : Nat) (x20 : Int32) (G20 : XG)
    (n1 : 0 ≤ ((G.1 (F a 0) 1).toInt))
    (t20 : (((0 : Int) < 0 ∨ ((G.1 (F a 0) 1).toInt) < (0 : Int)) ∧ x20.toInt = 0 ∧ ((G20.1 (F a 0) 1).toInt) = ((G.1 (F a 0) 1).toInt)) ∨ ((0 ≤ (0 : Int) ∧ (0 : Int) ≤ ((G.1 (F a 0) 1).toInt)) ∧ x20.toInt = 1 ∧ ((G20.1 (F a 0) 1).toInt) = (0 : Int))) :
    (G20.1 (F a 0) 1).toInt = 0 := by
  omega
theorem v_X10_rule_39_2 {F : Nat → Nat → Nat} (G11 : XG) (a : Nat) (G : XG) (x38 : Int32) (G20 : XG) (q11 : Nat)
    (oq11 : (G11.1 (F a 1) 2).toInt = (rS9 (tC (G.2.1 (F (F (F a 1) 0) 0)) ((G.1 (F (F a 1) 0) 1).toInt))).2.2)
    (hn11 : ¬ rOk (tC (G.2.1 (F (F (F a 1) 0) 0)) ((G.1 (F (F a 1) 0) 1).toInt)) ((G.1 (F (F a 1) 0) 1).toInt))
    (n0 : 0 ≤ ((G.1 (F (F a 1) 0) 1).toInt) ∧ ((G.1 (F (F a 1) 0) 1).toInt) ≤ 80)
    (n1 : 0 ≤ ((G.1 (F a 0) 1).toInt))
    (t38 : x38.toInt = (-1000 : Int) - ((G11.1 (F a 1) 2).toInt) ∨ (-1000 : Int) - ((G11.1 (F a 1) 2).toInt) < -2147483648 ∨ 2147483648 ≤ (-1000 : Int) - ((G11.1 (F a 1) 2).toInt))
    (r_G20_F_F_a_2_0 : G20.2.2.1 (F (F a 2) 0) = G.2.2.1 (F (F a 2) 0))
    (r_G20_F_F_a_2_1 : G20.2.2.1 (F (F a 2) 1) = G.2.2.1 (F (F a 2) 1))
    (d_G20_F_a_2_2 : G20.1 (F a 2) 2 = G.1 (F a 2) 2) :
    (¬ rOk (tC (G.2.1 (F (F (F a 1) 0) 0)) ((G.1 (F (F a 1) 0) 1).toInt)) ((G.1 (F (F a 1) 0) 1).toInt) ∧ x38.toInt = -1000 - (rS9 (tC (G.2.1 (F (F (F a 1) 0) 0)) ((G.1 (F (F a 1) 0) 1).toInt))).2.2 ∧ (G20.2.2.1 (F (F a 2) 0) = G.2.2.1 (F (F a 2) 0) ∧ G20.2.2.1 (F (F a 2) 1) = G.2.2.1 (F (F a 2) 1) ∧ G20.1 (F a 2) 2 = G.1 (F a 2) 2)) ∨ (rOk (tC (G.2.1 (F (F (F a 1) 0) 0)) ((G.1 (F (F a 1) 0) 1).toInt)) ((G.1 (F (F a 1) 0) 1).toInt) ∧ (G.1 a 18).toInt ≠ 0 ∧ x38.toInt = -3 ∧ (G20.2.2.1 (F (F a 2) 0) = G.2.2.1 (F (F a 2) 0) ∧ G20.2.2.1 (F (F a 2) 1) = G.2.2.1 (F (F a 2) 1) ∧ G20.1 (F a 2) 2 = G.1 (F a 2) 2)) ∨ (rOk (tC (G.2.1 (F (F (F a 1) 0) 0)) ((G.1 (F (F a 1) 0) 1).toInt)) ((G.1 (F (F a 1) 0) 1).toInt) ∧ (G.1 a 18).toInt = 0 ∧ (∀ i : Nat, i < 12 → G.2.2.1 (F (F a 2) 0) i ≠ none) ∧ x38.toInt = -4 ∧ (G20.2.2.1 (F (F a 2) 0) = G.2.2.1 (F (F a 2) 0) ∧ G20.2.2.1 (F (F a 2) 1) = G.2.2.1 (F (F a 2) 1) ∧ G20.1 (F a 2) 2 = G.1 (F a 2) 2)) ∨ (rOk (tC (G.2.1 (F (F (F a 1) 0) 0)) ((G.1 (F (F a 1) 0) 1).toInt)) ((G.1 (F (F a 1) 0) 1).toInt) ∧ (G.1 a 18).toInt = 0 ∧ (0 ≤ (G20.1 q11 1).toInt ∧ (G20.1 q11 1).toInt ≤ 11) ∧ G.2.2.1 (F (F a 2) 0) ((G20.1 q11 1).toInt).toNat = none ∧ (∀ i : Nat, (i : Int) < (G20.1 q11 1).toInt → G.2.2.1 (F (F a 2) 0) i ≠ none) ∧ ((G20.1 q11 0).toInt = (rS1 (tC (G.2.1 (F (F (F a 1) 0) 0)) ((G.1 (F (F a 1) 0) 1).toInt))).1 ∧ (G20.1 q11 2).toInt = (rS2 (tC (G.2.1 (F (F (F a 1) 0) 0)) ((G.1 (F (F a 1) 0) 1).toInt))).1 ∧ (G20.1 q11 3).toInt = (rS3 (tC (G.2.1 (F (F (F a 1) 0) 0)) ((G.1 (F (F a 1) 0) 1).toInt))).1 ∧ (G20.1 q11 4).toInt = (rS4 (tC (G.2.1 (F (F (F a 1) 0) 0)) ((G.1 (F (F a 1) 0) 1).toInt))).1 ∧ (G20.1 q11 5).toInt = (rS5 (tC (G.2.1 (F (F (F a 1) 0) 0)) ((G.1 (F (F a 1) 0) 1).toInt))).1 ∧ (G20.1 q11 6).toInt = (rS6 (tC (G.2.1 (F (F (F a 1) 0) 0)) ((G.1 (F (F a 1) 0) 1).toInt))).1 ∧ (G20.1 q11 7).toInt = (rS7 (tC (G.2.1 (F (F (F a 1) 0) 0)) ((G.1 (F (F a 1) 0) 1).toInt))).1 ∧ (G20.1 q11 8).toInt = (rS9 (tC (G.2.1 (F (F (F a 1) 0) 0)) ((G.1 (F (F a 1) 0) 1).toInt))).1 ∧ (G20.1 q11 9).toInt = (rS8 (tC (G.2.1 (F (F (F a 1) 0) 0)) ((G.1 (F (F a 1) 0) 1).toInt))).1) ∧ ((ffL (uqs (vw (G.2.1 (F (F a 6) 0))) (vw (G.2.1 (F (F a 3) 0))) (G20.1 q11)) ≠ -1 ∧ x38.toInt = -5 ∧ (G20.2.2.1 (F (F a 2) 0) = G.2.2.1 (F (F a 2) 0) ∧ G20.2.2.1 (F (F a 2) 1) = G.2.2.1 (F (F a 2) 1) ∧ G20.1 (F a 2) 2 = G.1 (F a 2) 2)) ∨ (ffL (uqs (vw (G.2.1 (F (F a 6) 0))) (vw (G.2.1 (F (F a 3) 0))) (G20.1 q11)) = -1 ∧ x38.toInt = (G20.1 q11 1).toInt ∧ (∀ i : Nat, G20.2.2.1 (F (F a 2) 0) i = if i = ((G20.1 q11 1).toInt).toNat then some q11 else G.2.2.1 (F (F a 2) 0) i) ∧ BO G20 F (F a 2)))) := by
  have pb := rS9_b (tC_e (G.2.1 (F (F (F a 1) 0) 0)) ((G.1 (F (F a 1) 0) 1).toInt)) (by omega)
  exact Or.inl ⟨hn11, by omega, ⟨r_G20_F_F_a_2_0, r_G20_F_F_a_2_1, d_G20_F_a_2_2⟩⟩
theorem v_X10_rule_39_3 {F : Nat → Nat → Nat} (G20 : XG) (a : Nat) (G : XG)
    (r_G20_F_F_a_2_1 : G20.2.2.1 (F (F a 2) 1) = G.2.2.1 (F (F a 2) 1)) :
    ∀ (i p : Nat), G20.2.2.1 (F (F a 2) 1) i = some p → (∃ j : Nat, G.2.2.1 (F (F a 2) 1) j = some p) ∨ ∃ j : Nat, G20.2.2.1 (F (F a 2) 0) j = some p := by
  intro i p h
  rw [r_G20_F_F_a_2_1] at h
  exact Or.inl ⟨i, h⟩
theorem v_X10_rule_73_4 {F : Nat → Nat → Nat} (a : Nat) (G : XG) (G68 : XG)
    (ro0 : RO (vw (G.2.1 (F (F a 6) 0))) (aI (G.2.1 (F (F a 6) 1))))
    (ron : RO (vw (G.2.1 (F (F a 3) 0))) (aI (G.2.1 (F (F a 3) 1))))
    (c_G68_F_F_a_6_0 : G68.2.1 (F (F a 6) 0) = G.2.1 (F (F a 6) 0))
    (c_G68_F_F_a_6_1 : G68.2.1 (F (F a 6) 1) = G.2.1 (F (F a 6) 1)) :
    RO (vw (G68.2.1 (F (F a 6) 0))) (aI (G68.2.1 (F (F a 6) 1))) := by simp only [c_G68_F_F_a_6_0, c_G68_F_F_a_6_1]; assumption
theorem v_X10_rule_73_5 {F : Nat → Nat → Nat} (a : Nat) (G : XG) (G68 : XG)
    (ro0 : RO (vw (G.2.1 (F (F a 6) 0))) (aI (G.2.1 (F (F a 6) 1))))
    (ron : RO (vw (G.2.1 (F (F a 3) 0))) (aI (G.2.1 (F (F a 3) 1))))
    (c_G68_F_F_a_3_0 : G68.2.1 (F (F a 3) 0) = G.2.1 (F (F a 3) 0))
    (c_G68_F_F_a_3_1 : G68.2.1 (F (F a 3) 1) = G.2.1 (F (F a 3) 1)) :
    RO (vw (G68.2.1 (F (F a 3) 0))) (aI (G68.2.1 (F (F a 3) 1))) := by simp only [c_G68_F_F_a_3_0, c_G68_F_F_a_3_1]; assumption
theorem v_X10_rule_73_6 {F : Nat → Nat → Nat} (G11 : XG) (q11 : Nat) (G : XG) (a : Nat) (G68 : XG)
    (hf11 : (G11.1 q11 1).toInt = -1 ∧ (G11.1 q11 0).toInt = (rS1 (tC (G.2.1 (F (F (F a 1) 0) 0)) ((G.1 (F (F a 1) 0) 1).toInt))).1 ∧ (G11.1 q11 2).toInt = (rS2 (tC (G.2.1 (F (F (F a 1) 0) 0)) ((G.1 (F (F a 1) 0) 1).toInt))).1 ∧ (G11.1 q11 3).toInt = (rS3 (tC (G.2.1 (F (F (F a 1) 0) 0)) ((G.1 (F (F a 1) 0) 1).toInt))).1 ∧ (G11.1 q11 4).toInt = (rS4 (tC (G.2.1 (F (F (F a 1) 0) 0)) ((G.1 (F (F a 1) 0) 1).toInt))).1 ∧ (G11.1 q11 5).toInt = (rS5 (tC (G.2.1 (F (F (F a 1) 0) 0)) ((G.1 (F (F a 1) 0) 1).toInt))).1 ∧ (G11.1 q11 6).toInt = (rS6 (tC (G.2.1 (F (F (F a 1) 0) 0)) ((G.1 (F (F a 1) 0) 1).toInt))).1 ∧ (G11.1 q11 7).toInt = (rS7 (tC (G.2.1 (F (F (F a 1) 0) 0)) ((G.1 (F (F a 1) 0) 1).toInt))).1 ∧ (G11.1 q11 9).toInt = (rS8 (tC (G.2.1 (F (F (F a 1) 0) 0)) ((G.1 (F (F a 1) 0) 1).toInt))).1 ∧ (G11.1 q11 8).toInt = (rS9 (tC (G.2.1 (F (F (F a 1) 0) 0)) ((G.1 (F (F a 1) 0) 1).toInt))).1)
    (d_G68_q11_0 : G68.1 q11 0 = G11.1 q11 0)
    (d_G68_q11_2 : G68.1 q11 2 = G11.1 q11 2)
    (d_G68_q11_3 : G68.1 q11 3 = G11.1 q11 3)
    (d_G68_q11_4 : G68.1 q11 4 = G11.1 q11 4) :
    RW (G68.1 q11) := by
  obtain ⟨f1, f0, f2, f3, f4, f5, f6, f7, f9, f8⟩ := hf11
  have b := rS_b (tC (G.2.1 (F (F (F a 1) 0) 0)) ((G.1 (F (F a 1) 0) 1).toInt))
  unfold RW
  rw [d_G68_q11_0, d_G68_q11_2, d_G68_q11_3, d_G68_q11_4, f0, f2, f3, f4]
  exact ⟨b.1, b.2.1, b.2.2.1, b.2.2.2.1, b.2.2.2.2.1⟩
theorem v_X10_rule_117_7 {F : Nat → Nat → Nat} (G : XG) (a : Nat) (x20 : Int32) (G20 : XG) (G113 : XG)
    (n1 : 0 ≤ ((G.1 (F a 0) 1).toInt))
    (t20 : (((0 : Int) < 0 ∨ ((G.1 (F a 0) 1).toInt) < (0 : Int)) ∧ x20.toInt = 0 ∧ ((G20.1 (F a 0) 1).toInt) = ((G.1 (F a 0) 1).toInt)) ∨ ((0 ≤ (0 : Int) ∧ (0 : Int) ≤ ((G.1 (F a 0) 1).toInt)) ∧ x20.toInt = 1 ∧ ((G20.1 (F a 0) 1).toInt) = (0 : Int)))
    (d_G113_F_a_0_1 : G113.1 (F a 0) 1 = G20.1 (F a 0) 1) :
    (G113.1 (F a 0) 1).toInt = 0 := by
  rw [d_G113_F_a_0_1]
  omega
theorem v_X10_rule_117_8 {F : Nat → Nat → Nat} (G : XG) (a : Nat) (G11 : XG) (q11 : Nat) (x54 : Int32) (G20 : XG) (x73 : Int32) (G73 : XG) (G68 : XG) (G113 : XG)
    (hs11 : rOk (tC (G.2.1 (F (F (F a 1) 0) 0)) ((G.1 (F (F a 1) 0) 1).toInt)) ((G.1 (F (F a 1) 0) 1).toInt))
    (hf11 : (G11.1 q11 1).toInt = -1 ∧ (G11.1 q11 0).toInt = (rS1 (tC (G.2.1 (F (F (F a 1) 0) 0)) ((G.1 (F (F a 1) 0) 1).toInt))).1 ∧ (G11.1 q11 2).toInt = (rS2 (tC (G.2.1 (F (F (F a 1) 0) 0)) ((G.1 (F (F a 1) 0) 1).toInt))).1 ∧ (G11.1 q11 3).toInt = (rS3 (tC (G.2.1 (F (F (F a 1) 0) 0)) ((G.1 (F (F a 1) 0) 1).toInt))).1 ∧ (G11.1 q11 4).toInt = (rS4 (tC (G.2.1 (F (F (F a 1) 0) 0)) ((G.1 (F (F a 1) 0) 1).toInt))).1 ∧ (G11.1 q11 5).toInt = (rS5 (tC (G.2.1 (F (F (F a 1) 0) 0)) ((G.1 (F (F a 1) 0) 1).toInt))).1 ∧ (G11.1 q11 6).toInt = (rS6 (tC (G.2.1 (F (F (F a 1) 0) 0)) ((G.1 (F (F a 1) 0) 1).toInt))).1 ∧ (G11.1 q11 7).toInt = (rS7 (tC (G.2.1 (F (F (F a 1) 0) 0)) ((G.1 (F (F a 1) 0) 1).toInt))).1 ∧ (G11.1 q11 9).toInt = (rS8 (tC (G.2.1 (F (F (F a 1) 0) 0)) ((G.1 (F (F a 1) 0) 1).toInt))).1 ∧ (G11.1 q11 8).toInt = (rS9 (tC (G.2.1 (F (F (F a 1) 0) 0)) ((G.1 (F (F a 1) 0) 1).toInt))).1)
    (oq54 : (x54.toInt = -1 ∧ ∀ i : Nat, i < 12 → G20.2.2.1 (F (F a 2) 0) i ≠ none) ∨ (0 ≤ x54.toInt ∧ G20.2.2.1 (F (F a 2) 0) (x54.toInt).toNat = none ∧ ∀ i : Nat, (i : Int) < x54.toInt → G20.2.2.1 (F (F a 2) 0) i ≠ none))
    (oq73 : x73.toInt = ffL (qL G73 F (F a 9)))
    (oq73a : qL G73 F (F a 9) = uqs (vw (G.2.1 (F (F a 6) 0))) (vw (G.2.1 (F (F a 3) 0))) (G68.1 q11))
    (oq113 : ∀ i : Nat, G113.2.2.1 (F (F a 2) 0) i = if i = (((G73.1 q11 1).toInt)).toNat then some q11 else G73.2.2.1 (F (F a 2) 0) i)
    (oq113a : BO G113 F (F a 2))
    (c44 : ((G.1 a 18).toInt) = 0)
    (t54 : -1 ≤ x54.toInt ∧ x54.toInt ≤ 11)
    (c60 : x54.toInt ≠ (-1 : Int))
    (t73 : -1 ≤ x73.toInt)
    (c79 : x73.toInt = (-1 : Int))
    (r_G20_F_F_a_2_0 : G20.2.2.1 (F (F a 2) 0) = G.2.2.1 (F (F a 2) 0))
    (r_G73_F_F_a_2_0 : G73.2.2.1 (F (F a 2) 0) = G.2.2.1 (F (F a 2) 0))
    (D_G113_q11 : G113.1 q11 = G68.1 q11)
    (D_G73_q11 : G73.1 q11 = G68.1 q11)
    (d_G68_q11_0 : G68.1 q11 0 = G11.1 q11 0)
    (d_G68_q11_1 : G68.1 q11 1 = x54)
    (d_G68_q11_2 : G68.1 q11 2 = G11.1 q11 2)
    (d_G68_q11_3 : G68.1 q11 3 = G11.1 q11 3)
    (d_G68_q11_4 : G68.1 q11 4 = G11.1 q11 4)
    (d_G68_q11_5 : G68.1 q11 5 = G11.1 q11 5)
    (d_G68_q11_6 : G68.1 q11 6 = G11.1 q11 6)
    (d_G68_q11_7 : G68.1 q11 7 = G11.1 q11 7)
    (d_G68_q11_8 : G68.1 q11 8 = G11.1 q11 8)
    (d_G68_q11_9 : G68.1 q11 9 = G11.1 q11 9) :
    (¬ rOk (tC (G.2.1 (F (F (F a 1) 0) 0)) ((G.1 (F (F a 1) 0) 1).toInt)) ((G.1 (F (F a 1) 0) 1).toInt) ∧ x54.toInt = -1000 - (rS9 (tC (G.2.1 (F (F (F a 1) 0) 0)) ((G.1 (F (F a 1) 0) 1).toInt))).2.2 ∧ (G113.2.2.1 (F (F a 2) 0) = G.2.2.1 (F (F a 2) 0) ∧ G113.2.2.1 (F (F a 2) 1) = G.2.2.1 (F (F a 2) 1) ∧ G113.1 (F a 2) 2 = G.1 (F a 2) 2)) ∨ (rOk (tC (G.2.1 (F (F (F a 1) 0) 0)) ((G.1 (F (F a 1) 0) 1).toInt)) ((G.1 (F (F a 1) 0) 1).toInt) ∧ (G.1 a 18).toInt ≠ 0 ∧ x54.toInt = -3 ∧ (G113.2.2.1 (F (F a 2) 0) = G.2.2.1 (F (F a 2) 0) ∧ G113.2.2.1 (F (F a 2) 1) = G.2.2.1 (F (F a 2) 1) ∧ G113.1 (F a 2) 2 = G.1 (F a 2) 2)) ∨ (rOk (tC (G.2.1 (F (F (F a 1) 0) 0)) ((G.1 (F (F a 1) 0) 1).toInt)) ((G.1 (F (F a 1) 0) 1).toInt) ∧ (G.1 a 18).toInt = 0 ∧ (∀ i : Nat, i < 12 → G.2.2.1 (F (F a 2) 0) i ≠ none) ∧ x54.toInt = -4 ∧ (G113.2.2.1 (F (F a 2) 0) = G.2.2.1 (F (F a 2) 0) ∧ G113.2.2.1 (F (F a 2) 1) = G.2.2.1 (F (F a 2) 1) ∧ G113.1 (F a 2) 2 = G.1 (F a 2) 2)) ∨ (rOk (tC (G.2.1 (F (F (F a 1) 0) 0)) ((G.1 (F (F a 1) 0) 1).toInt)) ((G.1 (F (F a 1) 0) 1).toInt) ∧ (G.1 a 18).toInt = 0 ∧ (0 ≤ (G113.1 q11 1).toInt ∧ (G113.1 q11 1).toInt ≤ 11) ∧ G.2.2.1 (F (F a 2) 0) ((G113.1 q11 1).toInt).toNat = none ∧ (∀ i : Nat, (i : Int) < (G113.1 q11 1).toInt → G.2.2.1 (F (F a 2) 0) i ≠ none) ∧ ((G113.1 q11 0).toInt = (rS1 (tC (G.2.1 (F (F (F a 1) 0) 0)) ((G.1 (F (F a 1) 0) 1).toInt))).1 ∧ (G113.1 q11 2).toInt = (rS2 (tC (G.2.1 (F (F (F a 1) 0) 0)) ((G.1 (F (F a 1) 0) 1).toInt))).1 ∧ (G113.1 q11 3).toInt = (rS3 (tC (G.2.1 (F (F (F a 1) 0) 0)) ((G.1 (F (F a 1) 0) 1).toInt))).1 ∧ (G113.1 q11 4).toInt = (rS4 (tC (G.2.1 (F (F (F a 1) 0) 0)) ((G.1 (F (F a 1) 0) 1).toInt))).1 ∧ (G113.1 q11 5).toInt = (rS5 (tC (G.2.1 (F (F (F a 1) 0) 0)) ((G.1 (F (F a 1) 0) 1).toInt))).1 ∧ (G113.1 q11 6).toInt = (rS6 (tC (G.2.1 (F (F (F a 1) 0) 0)) ((G.1 (F (F a 1) 0) 1).toInt))).1 ∧ (G113.1 q11 7).toInt = (rS7 (tC (G.2.1 (F (F (F a 1) 0) 0)) ((G.1 (F (F a 1) 0) 1).toInt))).1 ∧ (G113.1 q11 8).toInt = (rS9 (tC (G.2.1 (F (F (F a 1) 0) 0)) ((G.1 (F (F a 1) 0) 1).toInt))).1 ∧ (G113.1 q11 9).toInt = (rS8 (tC (G.2.1 (F (F (F a 1) 0) 0)) ((G.1 (F (F a 1) 0) 1).toInt))).1) ∧ ((ffL (uqs (vw (G.2.1 (F (F a 6) 0))) (vw (G.2.1 (F (F a 3) 0))) (G113.1 q11)) ≠ -1 ∧ x54.toInt = -5 ∧ (G113.2.2.1 (F (F a 2) 0) = G.2.2.1 (F (F a 2) 0) ∧ G113.2.2.1 (F (F a 2) 1) = G.2.2.1 (F (F a 2) 1) ∧ G113.1 (F a 2) 2 = G.1 (F a 2) 2)) ∨ (ffL (uqs (vw (G.2.1 (F (F a 6) 0))) (vw (G.2.1 (F (F a 3) 0))) (G113.1 q11)) = -1 ∧ x54.toInt = (G113.1 q11 1).toInt ∧ (∀ i : Nat, G113.2.2.1 (F (F a 2) 0) i = if i = ((G113.1 q11 1).toInt).toNat then some q11 else G.2.2.1 (F (F a 2) 0) i) ∧ BO G113 F (F a 2)))) := by
  obtain ⟨f1, f0, f2, f3, f4, f5, f6, f7, f9, f8⟩ := hf11
  have lf := oq54
  rw [r_G20_F_F_a_2_0] at lf
  have kk : (G113.1 q11 1).toInt = x54.toInt := by rw [D_G113_q11, d_G68_q11_1]
  rcases lf with ⟨h1, -⟩ | ⟨h1, h2, h3⟩
  · exfalso; omega
  · refine Or.inr (Or.inr (Or.inr ⟨hs11, by omega, by omega, by rw [kk]; exact h2, fun i hi => h3 i (by rw [← kk]; exact hi), ⟨(by rw [D_G113_q11, d_G68_q11_0]; exact f0), (by rw [D_G113_q11, d_G68_q11_2]; exact f2), (by rw [D_G113_q11, d_G68_q11_3]; exact f3), (by rw [D_G113_q11, d_G68_q11_4]; exact f4), (by rw [D_G113_q11, d_G68_q11_5]; exact f5), (by rw [D_G113_q11, d_G68_q11_6]; exact f6), (by rw [D_G113_q11, d_G68_q11_7]; exact f7), (by rw [D_G113_q11, d_G68_q11_8]; exact f8), (by rw [D_G113_q11, d_G68_q11_9]; exact f9)⟩, ?_⟩))
    have e9 : G113.1 q11 = G68.1 q11 := D_G113_q11
    rw [e9]
    have ff : x73.toInt = ffL (uqs (vw (G.2.1 (F (F a 6) 0))) (vw (G.2.1 (F (F a 3) 0))) (G68.1 q11)) := by rw [← oq73a]; exact oq73
    refine Or.inr ⟨by omega, by rw [d_G68_q11_1], fun i => ?_, oq113a⟩
    rw [oq113 i, r_G73_F_F_a_2_0]
    rw [show (G73.1 q11 1) = x54 from by rw [D_G73_q11, d_G68_q11_1], d_G68_q11_1]
theorem v_X10_rule_117_9 {F : Nat → Nat → Nat} (G113 : XG) (a : Nat) (G73 : XG) (G : XG)
    (oq113b : ∀ (i q : Nat), G113.2.2.1 (F (F a 2) 1) i = some q → (∃ j : Nat, G73.2.2.1 (F (F a 2) 1) j = some q) ∨ ∃ j : Nat, G113.2.2.1 (F (F a 2) 0) j = some q)
    (r_G73_F_F_a_2_1 : G73.2.2.1 (F (F a 2) 1) = G.2.2.1 (F (F a 2) 1)) :
    ∀ (i p : Nat), G113.2.2.1 (F (F a 2) 1) i = some p → (∃ j : Nat, G.2.2.1 (F (F a 2) 1) j = some p) ∨ ∃ j : Nat, G113.2.2.1 (F (F a 2) 0) j = some p := by
  intro i p h
  rcases oq113b i p h with ⟨j, e⟩ | ⟨j, e⟩
  · exact Or.inl ⟨j, by rw [← r_G73_F_F_a_2_1]; exact e⟩
  · exact Or.inr ⟨j, e⟩
theorem v_X10_rule_107_10 {F : Nat → Nat → Nat} (G : XG) (a : Nat) (x20 : Int32) (G20 : XG) (G102 : XG)
    (n1 : 0 ≤ ((G.1 (F a 0) 1).toInt))
    (t20 : (((0 : Int) < 0 ∨ ((G.1 (F a 0) 1).toInt) < (0 : Int)) ∧ x20.toInt = 0 ∧ ((G20.1 (F a 0) 1).toInt) = ((G.1 (F a 0) 1).toInt)) ∨ ((0 ≤ (0 : Int) ∧ (0 : Int) ≤ ((G.1 (F a 0) 1).toInt)) ∧ x20.toInt = 1 ∧ ((G20.1 (F a 0) 1).toInt) = (0 : Int)))
    (d_G102_F_a_0_1 : G102.1 (F a 0) 1 = G20.1 (F a 0) 1) :
    (G102.1 (F a 0) 1).toInt = 0 := by
  rw [d_G102_F_a_0_1]
  omega
theorem v_X10_rule_107_11 {F : Nat → Nat → Nat} (G : XG) (a : Nat) (G11 : XG) (q11 : Nat) (x54 : Int32) (G20 : XG) (x73 : Int32) (G73 : XG) (G68 : XG) (G102 : XG)
    (hs11 : rOk (tC (G.2.1 (F (F (F a 1) 0) 0)) ((G.1 (F (F a 1) 0) 1).toInt)) ((G.1 (F (F a 1) 0) 1).toInt))
    (hf11 : (G11.1 q11 1).toInt = -1 ∧ (G11.1 q11 0).toInt = (rS1 (tC (G.2.1 (F (F (F a 1) 0) 0)) ((G.1 (F (F a 1) 0) 1).toInt))).1 ∧ (G11.1 q11 2).toInt = (rS2 (tC (G.2.1 (F (F (F a 1) 0) 0)) ((G.1 (F (F a 1) 0) 1).toInt))).1 ∧ (G11.1 q11 3).toInt = (rS3 (tC (G.2.1 (F (F (F a 1) 0) 0)) ((G.1 (F (F a 1) 0) 1).toInt))).1 ∧ (G11.1 q11 4).toInt = (rS4 (tC (G.2.1 (F (F (F a 1) 0) 0)) ((G.1 (F (F a 1) 0) 1).toInt))).1 ∧ (G11.1 q11 5).toInt = (rS5 (tC (G.2.1 (F (F (F a 1) 0) 0)) ((G.1 (F (F a 1) 0) 1).toInt))).1 ∧ (G11.1 q11 6).toInt = (rS6 (tC (G.2.1 (F (F (F a 1) 0) 0)) ((G.1 (F (F a 1) 0) 1).toInt))).1 ∧ (G11.1 q11 7).toInt = (rS7 (tC (G.2.1 (F (F (F a 1) 0) 0)) ((G.1 (F (F a 1) 0) 1).toInt))).1 ∧ (G11.1 q11 9).toInt = (rS8 (tC (G.2.1 (F (F (F a 1) 0) 0)) ((G.1 (F (F a 1) 0) 1).toInt))).1 ∧ (G11.1 q11 8).toInt = (rS9 (tC (G.2.1 (F (F (F a 1) 0) 0)) ((G.1 (F (F a 1) 0) 1).toInt))).1)
    (oq54 : (x54.toInt = -1 ∧ ∀ i : Nat, i < 12 → G20.2.2.1 (F (F a 2) 0) i ≠ none) ∨ (0 ≤ x54.toInt ∧ G20.2.2.1 (F (F a 2) 0) (x54.toInt).toNat = none ∧ ∀ i : Nat, (i : Int) < x54.toInt → G20.2.2.1 (F (F a 2) 0) i ≠ none))
    (oq73 : x73.toInt = ffL (qL G73 F (F a 9)))
    (oq73a : qL G73 F (F a 9) = uqs (vw (G.2.1 (F (F a 6) 0))) (vw (G.2.1 (F (F a 3) 0))) (G68.1 q11))
    (c44 : ((G.1 a 18).toInt) = 0)
    (t54 : -1 ≤ x54.toInt ∧ x54.toInt ≤ 11)
    (c60 : x54.toInt ≠ (-1 : Int))
    (t73 : -1 ≤ x73.toInt)
    (c79 : ¬ (x73.toInt = (-1 : Int)))
    (r_G102_F_F_a_2_0 : G102.2.2.1 (F (F a 2) 0) = G.2.2.1 (F (F a 2) 0))
    (r_G102_F_F_a_2_1 : G102.2.2.1 (F (F a 2) 1) = G.2.2.1 (F (F a 2) 1))
    (r_G20_F_F_a_2_0 : G20.2.2.1 (F (F a 2) 0) = G.2.2.1 (F (F a 2) 0))
    (D_G102_q11 : G102.1 q11 = G68.1 q11)
    (d_G102_F_a_2_2 : G102.1 (F a 2) 2 = G.1 (F a 2) 2)
    (d_G68_q11_0 : G68.1 q11 0 = G11.1 q11 0)
    (d_G68_q11_1 : G68.1 q11 1 = x54)
    (d_G68_q11_2 : G68.1 q11 2 = G11.1 q11 2)
    (d_G68_q11_3 : G68.1 q11 3 = G11.1 q11 3)
    (d_G68_q11_4 : G68.1 q11 4 = G11.1 q11 4)
    (d_G68_q11_5 : G68.1 q11 5 = G11.1 q11 5)
    (d_G68_q11_6 : G68.1 q11 6 = G11.1 q11 6)
    (d_G68_q11_7 : G68.1 q11 7 = G11.1 q11 7)
    (d_G68_q11_8 : G68.1 q11 8 = G11.1 q11 8)
    (d_G68_q11_9 : G68.1 q11 9 = G11.1 q11 9) :
    (¬ rOk (tC (G.2.1 (F (F (F a 1) 0) 0)) ((G.1 (F (F a 1) 0) 1).toInt)) ((G.1 (F (F a 1) 0) 1).toInt) ∧ (-5 : Int) = -1000 - (rS9 (tC (G.2.1 (F (F (F a 1) 0) 0)) ((G.1 (F (F a 1) 0) 1).toInt))).2.2 ∧ (G102.2.2.1 (F (F a 2) 0) = G.2.2.1 (F (F a 2) 0) ∧ G102.2.2.1 (F (F a 2) 1) = G.2.2.1 (F (F a 2) 1) ∧ G102.1 (F a 2) 2 = G.1 (F a 2) 2)) ∨ (rOk (tC (G.2.1 (F (F (F a 1) 0) 0)) ((G.1 (F (F a 1) 0) 1).toInt)) ((G.1 (F (F a 1) 0) 1).toInt) ∧ (G.1 a 18).toInt ≠ 0 ∧ (-5 : Int) = -3 ∧ (G102.2.2.1 (F (F a 2) 0) = G.2.2.1 (F (F a 2) 0) ∧ G102.2.2.1 (F (F a 2) 1) = G.2.2.1 (F (F a 2) 1) ∧ G102.1 (F a 2) 2 = G.1 (F a 2) 2)) ∨ (rOk (tC (G.2.1 (F (F (F a 1) 0) 0)) ((G.1 (F (F a 1) 0) 1).toInt)) ((G.1 (F (F a 1) 0) 1).toInt) ∧ (G.1 a 18).toInt = 0 ∧ (∀ i : Nat, i < 12 → G.2.2.1 (F (F a 2) 0) i ≠ none) ∧ (-5 : Int) = -4 ∧ (G102.2.2.1 (F (F a 2) 0) = G.2.2.1 (F (F a 2) 0) ∧ G102.2.2.1 (F (F a 2) 1) = G.2.2.1 (F (F a 2) 1) ∧ G102.1 (F a 2) 2 = G.1 (F a 2) 2)) ∨ (rOk (tC (G.2.1 (F (F (F a 1) 0) 0)) ((G.1 (F (F a 1) 0) 1).toInt)) ((G.1 (F (F a 1) 0) 1).toInt) ∧ (G.1 a 18).toInt = 0 ∧ (0 ≤ (G102.1 q11 1).toInt ∧ (G102.1 q11 1).toInt ≤ 11) ∧ G.2.2.1 (F (F a 2) 0) ((G102.1 q11 1).toInt).toNat = none ∧ (∀ i : Nat, (i : Int) < (G102.1 q11 1).toInt → G.2.2.1 (F (F a 2) 0) i ≠ none) ∧ ((G102.1 q11 0).toInt = (rS1 (tC (G.2.1 (F (F (F a 1) 0) 0)) ((G.1 (F (F a 1) 0) 1).toInt))).1 ∧ (G102.1 q11 2).toInt = (rS2 (tC (G.2.1 (F (F (F a 1) 0) 0)) ((G.1 (F (F a 1) 0) 1).toInt))).1 ∧ (G102.1 q11 3).toInt = (rS3 (tC (G.2.1 (F (F (F a 1) 0) 0)) ((G.1 (F (F a 1) 0) 1).toInt))).1 ∧ (G102.1 q11 4).toInt = (rS4 (tC (G.2.1 (F (F (F a 1) 0) 0)) ((G.1 (F (F a 1) 0) 1).toInt))).1 ∧ (G102.1 q11 5).toInt = (rS5 (tC (G.2.1 (F (F (F a 1) 0) 0)) ((G.1 (F (F a 1) 0) 1).toInt))).1 ∧ (G102.1 q11 6).toInt = (rS6 (tC (G.2.1 (F (F (F a 1) 0) 0)) ((G.1 (F (F a 1) 0) 1).toInt))).1 ∧ (G102.1 q11 7).toInt = (rS7 (tC (G.2.1 (F (F (F a 1) 0) 0)) ((G.1 (F (F a 1) 0) 1).toInt))).1 ∧ (G102.1 q11 8).toInt = (rS9 (tC (G.2.1 (F (F (F a 1) 0) 0)) ((G.1 (F (F a 1) 0) 1).toInt))).1 ∧ (G102.1 q11 9).toInt = (rS8 (tC (G.2.1 (F (F (F a 1) 0) 0)) ((G.1 (F (F a 1) 0) 1).toInt))).1) ∧ ((ffL (uqs (vw (G.2.1 (F (F a 6) 0))) (vw (G.2.1 (F (F a 3) 0))) (G102.1 q11)) ≠ -1 ∧ (-5 : Int) = -5 ∧ (G102.2.2.1 (F (F a 2) 0) = G.2.2.1 (F (F a 2) 0) ∧ G102.2.2.1 (F (F a 2) 1) = G.2.2.1 (F (F a 2) 1) ∧ G102.1 (F a 2) 2 = G.1 (F a 2) 2)) ∨ (ffL (uqs (vw (G.2.1 (F (F a 6) 0))) (vw (G.2.1 (F (F a 3) 0))) (G102.1 q11)) = -1 ∧ (-5 : Int) = (G102.1 q11 1).toInt ∧ (∀ i : Nat, G102.2.2.1 (F (F a 2) 0) i = if i = ((G102.1 q11 1).toInt).toNat then some q11 else G.2.2.1 (F (F a 2) 0) i) ∧ BO G102 F (F a 2)))) := by
  obtain ⟨f1, f0, f2, f3, f4, f5, f6, f7, f9, f8⟩ := hf11
  have lf := oq54
  rw [r_G20_F_F_a_2_0] at lf
  have kk : (G102.1 q11 1).toInt = x54.toInt := by rw [D_G102_q11, d_G68_q11_1]
  rcases lf with ⟨h1, -⟩ | ⟨h1, h2, h3⟩
  · exfalso; omega
  · refine Or.inr (Or.inr (Or.inr ⟨hs11, by omega, by omega, by rw [kk]; exact h2, fun i hi => h3 i (by rw [← kk]; exact hi), ⟨(by rw [D_G102_q11, d_G68_q11_0]; exact f0), (by rw [D_G102_q11, d_G68_q11_2]; exact f2), (by rw [D_G102_q11, d_G68_q11_3]; exact f3), (by rw [D_G102_q11, d_G68_q11_4]; exact f4), (by rw [D_G102_q11, d_G68_q11_5]; exact f5), (by rw [D_G102_q11, d_G68_q11_6]; exact f6), (by rw [D_G102_q11, d_G68_q11_7]; exact f7), (by rw [D_G102_q11, d_G68_q11_8]; exact f8), (by rw [D_G102_q11, d_G68_q11_9]; exact f9)⟩, ?_⟩))
    have e9 : G102.1 q11 = G68.1 q11 := D_G102_q11
    rw [e9]
    have ff : x73.toInt = ffL (uqs (vw (G.2.1 (F (F a 6) 0))) (vw (G.2.1 (F (F a 3) 0))) (G68.1 q11)) := by rw [← oq73a]; exact oq73
    exact Or.inl ⟨by omega, by omega, ⟨r_G102_F_F_a_2_0, r_G102_F_F_a_2_1, d_G102_F_a_2_2⟩⟩
theorem v_X10_rule_107_12 {F : Nat → Nat → Nat} (G102 : XG) (a : Nat) (G : XG)
    (r_G102_F_F_a_2_1 : G102.2.2.1 (F (F a 2) 1) = G.2.2.1 (F (F a 2) 1)) :
    ∀ (i p : Nat), G102.2.2.1 (F (F a 2) 1) i = some p → (∃ j : Nat, G.2.2.1 (F (F a 2) 1) j = some p) ∨ ∃ j : Nat, G102.2.2.1 (F (F a 2) 0) j = some p := by
  intro i p h
  rw [r_G102_F_F_a_2_1] at h
  exact Or.inl ⟨i, h⟩
theorem v_X10_rule_65_13 {F : Nat → Nat → Nat} (G : XG) (a : Nat) (x20 : Int32) (G20 : XG)
    (n1 : 0 ≤ ((G.1 (F a 0) 1).toInt))
    (t20 : (((0 : Int) < 0 ∨ ((G.1 (F a 0) 1).toInt) < (0 : Int)) ∧ x20.toInt = 0 ∧ ((G20.1 (F a 0) 1).toInt) = ((G.1 (F a 0) 1).toInt)) ∨ ((0 ≤ (0 : Int) ∧ (0 : Int) ≤ ((G.1 (F a 0) 1).toInt)) ∧ x20.toInt = 1 ∧ ((G20.1 (F a 0) 1).toInt) = (0 : Int))) :
    (G20.1 (F a 0) 1).toInt = 0 := by
  omega
theorem v_X10_rule_65_14 {F : Nat → Nat → Nat} (G : XG) (a : Nat) (x54 : Int32) (G20 : XG) (q11 : Nat)
    (hs11 : rOk (tC (G.2.1 (F (F (F a 1) 0) 0)) ((G.1 (F (F a 1) 0) 1).toInt)) ((G.1 (F (F a 1) 0) 1).toInt))
    (oq54 : (x54.toInt = -1 ∧ ∀ i : Nat, i < 12 → G20.2.2.1 (F (F a 2) 0) i ≠ none) ∨ (0 ≤ x54.toInt ∧ G20.2.2.1 (F (F a 2) 0) (x54.toInt).toNat = none ∧ ∀ i : Nat, (i : Int) < x54.toInt → G20.2.2.1 (F (F a 2) 0) i ≠ none))
    (c44 : ((G.1 a 18).toInt) = 0)
    (t54 : -1 ≤ x54.toInt ∧ x54.toInt ≤ 11)
    (c60 : ¬ (x54.toInt ≠ (-1 : Int)))
    (r_G20_F_F_a_2_0 : G20.2.2.1 (F (F a 2) 0) = G.2.2.1 (F (F a 2) 0))
    (r_G20_F_F_a_2_1 : G20.2.2.1 (F (F a 2) 1) = G.2.2.1 (F (F a 2) 1))
    (d_G20_F_a_2_2 : G20.1 (F a 2) 2 = G.1 (F a 2) 2) :
    (¬ rOk (tC (G.2.1 (F (F (F a 1) 0) 0)) ((G.1 (F (F a 1) 0) 1).toInt)) ((G.1 (F (F a 1) 0) 1).toInt) ∧ (-4 : Int) = -1000 - (rS9 (tC (G.2.1 (F (F (F a 1) 0) 0)) ((G.1 (F (F a 1) 0) 1).toInt))).2.2 ∧ (G20.2.2.1 (F (F a 2) 0) = G.2.2.1 (F (F a 2) 0) ∧ G20.2.2.1 (F (F a 2) 1) = G.2.2.1 (F (F a 2) 1) ∧ G20.1 (F a 2) 2 = G.1 (F a 2) 2)) ∨ (rOk (tC (G.2.1 (F (F (F a 1) 0) 0)) ((G.1 (F (F a 1) 0) 1).toInt)) ((G.1 (F (F a 1) 0) 1).toInt) ∧ (G.1 a 18).toInt ≠ 0 ∧ (-4 : Int) = -3 ∧ (G20.2.2.1 (F (F a 2) 0) = G.2.2.1 (F (F a 2) 0) ∧ G20.2.2.1 (F (F a 2) 1) = G.2.2.1 (F (F a 2) 1) ∧ G20.1 (F a 2) 2 = G.1 (F a 2) 2)) ∨ (rOk (tC (G.2.1 (F (F (F a 1) 0) 0)) ((G.1 (F (F a 1) 0) 1).toInt)) ((G.1 (F (F a 1) 0) 1).toInt) ∧ (G.1 a 18).toInt = 0 ∧ (∀ i : Nat, i < 12 → G.2.2.1 (F (F a 2) 0) i ≠ none) ∧ (-4 : Int) = -4 ∧ (G20.2.2.1 (F (F a 2) 0) = G.2.2.1 (F (F a 2) 0) ∧ G20.2.2.1 (F (F a 2) 1) = G.2.2.1 (F (F a 2) 1) ∧ G20.1 (F a 2) 2 = G.1 (F a 2) 2)) ∨ (rOk (tC (G.2.1 (F (F (F a 1) 0) 0)) ((G.1 (F (F a 1) 0) 1).toInt)) ((G.1 (F (F a 1) 0) 1).toInt) ∧ (G.1 a 18).toInt = 0 ∧ (0 ≤ (G20.1 q11 1).toInt ∧ (G20.1 q11 1).toInt ≤ 11) ∧ G.2.2.1 (F (F a 2) 0) ((G20.1 q11 1).toInt).toNat = none ∧ (∀ i : Nat, (i : Int) < (G20.1 q11 1).toInt → G.2.2.1 (F (F a 2) 0) i ≠ none) ∧ ((G20.1 q11 0).toInt = (rS1 (tC (G.2.1 (F (F (F a 1) 0) 0)) ((G.1 (F (F a 1) 0) 1).toInt))).1 ∧ (G20.1 q11 2).toInt = (rS2 (tC (G.2.1 (F (F (F a 1) 0) 0)) ((G.1 (F (F a 1) 0) 1).toInt))).1 ∧ (G20.1 q11 3).toInt = (rS3 (tC (G.2.1 (F (F (F a 1) 0) 0)) ((G.1 (F (F a 1) 0) 1).toInt))).1 ∧ (G20.1 q11 4).toInt = (rS4 (tC (G.2.1 (F (F (F a 1) 0) 0)) ((G.1 (F (F a 1) 0) 1).toInt))).1 ∧ (G20.1 q11 5).toInt = (rS5 (tC (G.2.1 (F (F (F a 1) 0) 0)) ((G.1 (F (F a 1) 0) 1).toInt))).1 ∧ (G20.1 q11 6).toInt = (rS6 (tC (G.2.1 (F (F (F a 1) 0) 0)) ((G.1 (F (F a 1) 0) 1).toInt))).1 ∧ (G20.1 q11 7).toInt = (rS7 (tC (G.2.1 (F (F (F a 1) 0) 0)) ((G.1 (F (F a 1) 0) 1).toInt))).1 ∧ (G20.1 q11 8).toInt = (rS9 (tC (G.2.1 (F (F (F a 1) 0) 0)) ((G.1 (F (F a 1) 0) 1).toInt))).1 ∧ (G20.1 q11 9).toInt = (rS8 (tC (G.2.1 (F (F (F a 1) 0) 0)) ((G.1 (F (F a 1) 0) 1).toInt))).1) ∧ ((ffL (uqs (vw (G.2.1 (F (F a 6) 0))) (vw (G.2.1 (F (F a 3) 0))) (G20.1 q11)) ≠ -1 ∧ (-4 : Int) = -5 ∧ (G20.2.2.1 (F (F a 2) 0) = G.2.2.1 (F (F a 2) 0) ∧ G20.2.2.1 (F (F a 2) 1) = G.2.2.1 (F (F a 2) 1) ∧ G20.1 (F a 2) 2 = G.1 (F a 2) 2)) ∨ (ffL (uqs (vw (G.2.1 (F (F a 6) 0))) (vw (G.2.1 (F (F a 3) 0))) (G20.1 q11)) = -1 ∧ (-4 : Int) = (G20.1 q11 1).toInt ∧ (∀ i : Nat, G20.2.2.1 (F (F a 2) 0) i = if i = ((G20.1 q11 1).toInt).toNat then some q11 else G.2.2.1 (F (F a 2) 0) i) ∧ BO G20 F (F a 2)))) := by
  have lf := oq54
  rw [r_G20_F_F_a_2_0] at lf
  rcases lf with ⟨h1, h2⟩ | ⟨h1, h2⟩
  · exact Or.inr (Or.inr (Or.inl ⟨hs11, by omega, h2, by omega, ⟨r_G20_F_F_a_2_0, r_G20_F_F_a_2_1, d_G20_F_a_2_2⟩⟩))
  · exfalso; omega
theorem v_X10_rule_65_15 {F : Nat → Nat → Nat} (G20 : XG) (a : Nat) (G : XG)
    (r_G20_F_F_a_2_1 : G20.2.2.1 (F (F a 2) 1) = G.2.2.1 (F (F a 2) 1)) :
    ∀ (i p : Nat), G20.2.2.1 (F (F a 2) 1) i = some p → (∃ j : Nat, G.2.2.1 (F (F a 2) 1) j = some p) ∨ ∃ j : Nat, G20.2.2.1 (F (F a 2) 0) j = some p := by
  intro i p h
  rw [r_G20_F_F_a_2_1] at h
  exact Or.inl ⟨i, h⟩
theorem v_X10_rule_49_16 {F : Nat → Nat → Nat} (G : XG) (a : Nat) (x20 : Int32) (G20 : XG)
    (n1 : 0 ≤ ((G.1 (F a 0) 1).toInt))
    (t20 : (((0 : Int) < 0 ∨ ((G.1 (F a 0) 1).toInt) < (0 : Int)) ∧ x20.toInt = 0 ∧ ((G20.1 (F a 0) 1).toInt) = ((G.1 (F a 0) 1).toInt)) ∨ ((0 ≤ (0 : Int) ∧ (0 : Int) ≤ ((G.1 (F a 0) 1).toInt)) ∧ x20.toInt = 1 ∧ ((G20.1 (F a 0) 1).toInt) = (0 : Int))) :
    (G20.1 (F a 0) 1).toInt = 0 := by
  omega
theorem v_X10_rule_49_17 {F : Nat → Nat → Nat} (G : XG) (a : Nat) (G20 : XG) (q11 : Nat)
    (hs11 : rOk (tC (G.2.1 (F (F (F a 1) 0) 0)) ((G.1 (F (F a 1) 0) 1).toInt)) ((G.1 (F (F a 1) 0) 1).toInt))
    (c44 : ¬ (((G.1 a 18).toInt) = 0))
    (r_G20_F_F_a_2_0 : G20.2.2.1 (F (F a 2) 0) = G.2.2.1 (F (F a 2) 0))
    (r_G20_F_F_a_2_1 : G20.2.2.1 (F (F a 2) 1) = G.2.2.1 (F (F a 2) 1))
    (d_G20_F_a_2_2 : G20.1 (F a 2) 2 = G.1 (F a 2) 2) :
    (¬ rOk (tC (G.2.1 (F (F (F a 1) 0) 0)) ((G.1 (F (F a 1) 0) 1).toInt)) ((G.1 (F (F a 1) 0) 1).toInt) ∧ (-3 : Int) = -1000 - (rS9 (tC (G.2.1 (F (F (F a 1) 0) 0)) ((G.1 (F (F a 1) 0) 1).toInt))).2.2 ∧ (G20.2.2.1 (F (F a 2) 0) = G.2.2.1 (F (F a 2) 0) ∧ G20.2.2.1 (F (F a 2) 1) = G.2.2.1 (F (F a 2) 1) ∧ G20.1 (F a 2) 2 = G.1 (F a 2) 2)) ∨ (rOk (tC (G.2.1 (F (F (F a 1) 0) 0)) ((G.1 (F (F a 1) 0) 1).toInt)) ((G.1 (F (F a 1) 0) 1).toInt) ∧ (G.1 a 18).toInt ≠ 0 ∧ (-3 : Int) = -3 ∧ (G20.2.2.1 (F (F a 2) 0) = G.2.2.1 (F (F a 2) 0) ∧ G20.2.2.1 (F (F a 2) 1) = G.2.2.1 (F (F a 2) 1) ∧ G20.1 (F a 2) 2 = G.1 (F a 2) 2)) ∨ (rOk (tC (G.2.1 (F (F (F a 1) 0) 0)) ((G.1 (F (F a 1) 0) 1).toInt)) ((G.1 (F (F a 1) 0) 1).toInt) ∧ (G.1 a 18).toInt = 0 ∧ (∀ i : Nat, i < 12 → G.2.2.1 (F (F a 2) 0) i ≠ none) ∧ (-3 : Int) = -4 ∧ (G20.2.2.1 (F (F a 2) 0) = G.2.2.1 (F (F a 2) 0) ∧ G20.2.2.1 (F (F a 2) 1) = G.2.2.1 (F (F a 2) 1) ∧ G20.1 (F a 2) 2 = G.1 (F a 2) 2)) ∨ (rOk (tC (G.2.1 (F (F (F a 1) 0) 0)) ((G.1 (F (F a 1) 0) 1).toInt)) ((G.1 (F (F a 1) 0) 1).toInt) ∧ (G.1 a 18).toInt = 0 ∧ (0 ≤ (G20.1 q11 1).toInt ∧ (G20.1 q11 1).toInt ≤ 11) ∧ G.2.2.1 (F (F a 2) 0) ((G20.1 q11 1).toInt).toNat = none ∧ (∀ i : Nat, (i : Int) < (G20.1 q11 1).toInt → G.2.2.1 (F (F a 2) 0) i ≠ none) ∧ ((G20.1 q11 0).toInt = (rS1 (tC (G.2.1 (F (F (F a 1) 0) 0)) ((G.1 (F (F a 1) 0) 1).toInt))).1 ∧ (G20.1 q11 2).toInt = (rS2 (tC (G.2.1 (F (F (F a 1) 0) 0)) ((G.1 (F (F a 1) 0) 1).toInt))).1 ∧ (G20.1 q11 3).toInt = (rS3 (tC (G.2.1 (F (F (F a 1) 0) 0)) ((G.1 (F (F a 1) 0) 1).toInt))).1 ∧ (G20.1 q11 4).toInt = (rS4 (tC (G.2.1 (F (F (F a 1) 0) 0)) ((G.1 (F (F a 1) 0) 1).toInt))).1 ∧ (G20.1 q11 5).toInt = (rS5 (tC (G.2.1 (F (F (F a 1) 0) 0)) ((G.1 (F (F a 1) 0) 1).toInt))).1 ∧ (G20.1 q11 6).toInt = (rS6 (tC (G.2.1 (F (F (F a 1) 0) 0)) ((G.1 (F (F a 1) 0) 1).toInt))).1 ∧ (G20.1 q11 7).toInt = (rS7 (tC (G.2.1 (F (F (F a 1) 0) 0)) ((G.1 (F (F a 1) 0) 1).toInt))).1 ∧ (G20.1 q11 8).toInt = (rS9 (tC (G.2.1 (F (F (F a 1) 0) 0)) ((G.1 (F (F a 1) 0) 1).toInt))).1 ∧ (G20.1 q11 9).toInt = (rS8 (tC (G.2.1 (F (F (F a 1) 0) 0)) ((G.1 (F (F a 1) 0) 1).toInt))).1) ∧ ((ffL (uqs (vw (G.2.1 (F (F a 6) 0))) (vw (G.2.1 (F (F a 3) 0))) (G20.1 q11)) ≠ -1 ∧ (-3 : Int) = -5 ∧ (G20.2.2.1 (F (F a 2) 0) = G.2.2.1 (F (F a 2) 0) ∧ G20.2.2.1 (F (F a 2) 1) = G.2.2.1 (F (F a 2) 1) ∧ G20.1 (F a 2) 2 = G.1 (F a 2) 2)) ∨ (ffL (uqs (vw (G.2.1 (F (F a 6) 0))) (vw (G.2.1 (F (F a 3) 0))) (G20.1 q11)) = -1 ∧ (-3 : Int) = (G20.1 q11 1).toInt ∧ (∀ i : Nat, G20.2.2.1 (F (F a 2) 0) i = if i = ((G20.1 q11 1).toInt).toNat then some q11 else G.2.2.1 (F (F a 2) 0) i) ∧ BO G20 F (F a 2)))) := by
  exact Or.inr (Or.inl ⟨hs11, by omega, by omega, ⟨r_G20_F_F_a_2_0, r_G20_F_F_a_2_1, d_G20_F_a_2_2⟩⟩)
theorem v_X10_rule_49_18 {F : Nat → Nat → Nat} (G20 : XG) (a : Nat) (G : XG)
    (r_G20_F_F_a_2_1 : G20.2.2.1 (F (F a 2) 1) = G.2.2.1 (F (F a 2) 1)) :
    ∀ (i p : Nat), G20.2.2.1 (F (F a 2) 1) i = some p → (∃ j : Nat, G.2.2.1 (F (F a 2) 1) j = some p) ∨ ∃ j : Nat, G20.2.2.1 (F (F a 2) 0) j = some p := by
  intro i p h
  rw [r_G20_F_F_a_2_1] at h
  exact Or.inl ⟨i, h⟩
