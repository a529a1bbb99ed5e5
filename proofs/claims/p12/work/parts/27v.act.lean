theorem v_X10_tally_56_1 {F : Nat → Nat → Nat} (a : Nat) (G : XG) (G_2 : XG)
    (rob : RO (vw (G.2.1 (F (F a 4) 0))) (aI (G.2.1 (F (F a 4) 1))))
    (c_G_2_F_F_a_4_0 : G_2.2.1 (F (F a 4) 0) = G.2.1 (F (F a 4) 0))
    (c_G_2_F_F_a_4_1 : G_2.2.1 (F (F a 4) 1) = G.2.1 (F (F a 4) 1)) :
    RO (vw (G_2.2.1 (F (F a 4) 0))) (aI (G_2.2.1 (F (F a 4) 1))) := by simp only [c_G_2_F_F_a_4_0, c_G_2_F_F_a_4_1]; assumption
theorem v_X10_tally_56_2 {K : Nat → Nat} {F : Nat → Nat → Nat} (a : Nat) (q25 : Nat) (G : XG) (G_2 : XG) (x22 : Int32) (l2_2 : Int32) (N2 : Nat) (x53 : Int32)
    (ha : K a = 12)
    (bkn : BKr K G (G.2.2.1 (F (F a 2) 0)))
    (hs25 : G_2.2.2.1 (F (F a 2) 0) (x22.toInt).toNat = some q25)
    (I2_0 : (0 : Int) ≤ l2_2.toInt)
    (hm2 : 2147483648 - l2_2.toInt < (((N2) + 1 : Nat) : Int))
    (c10 : ¬ (((G.1 (F a 9) 6).toInt) ≤ l2_2.toInt))
    (t22 : ((0 ≤ l2_2.toInt ∧ l2_2.toInt < ((G.1 (F a 9) 6).toInt) ∧ l2_2.toInt < 1080) ∧ x22.toInt = (aI (G.2.1 (F (F a 9) 0)) (l2_2.toInt))) ∨ (¬ (0 ≤ l2_2.toInt ∧ l2_2.toInt < ((G.1 (F a 9) 6).toInt) ∧ l2_2.toInt < 1080) ∧ x22.toInt = -1))
    (ht25 : 0 ≤ x22.toInt ∧ x22.toInt < 12)
    (f26 : ((G.1 q25 9).toInt) = 0 ∨ ((G.1 q25 9).toInt) = 1)
    (c37 : ((G.1 q25 9).toInt) ≠ 0)
    (t53 : ((0 ≤ l2_2.toInt ∧ l2_2.toInt < ((G.1 (F a 9) 6).toInt) ∧ l2_2.toInt < 1080) ∧ x53.toInt = (aI (G.2.1 (F (F a 9) 1)) (l2_2.toInt))) ∨ (¬ (0 ≤ l2_2.toInt ∧ l2_2.toInt < ((G.1 (F a 9) 6).toInt) ∧ l2_2.toInt < 1080) ∧ x53.toInt = -1))
    (r_G_2_F_F_a_2_0 : G_2.2.2.1 (F (F a 2) 0) = G.2.2.1 (F (F a 2) 0))
    (D_G_2_q25 : G_2.1 q25 = G.1 q25) :
    RW (G_2.1 q25) := by
  rw [D_G_2_q25]
  exact (bkn x22.toInt.toNat q25 (by omega) (by rw [← r_G_2_F_F_a_2_0]; exact hs25)).2
