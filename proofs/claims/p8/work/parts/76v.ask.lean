theorem v_X10_wouldSet_6_1 {F : Nat → Nat → Nat} (a : Nat) (G : XG)
    (ron : RO (vw (G.2.1 (F (F a 3) 0))) (aI (G.2.1 (F (F a 3) 1)))) :
    RO (vw (G.2.1 (F (F a 3) 0))) (aI (G.2.1 (F (F a 3) 1))) := by exact ron
theorem v_X10_wouldSet_22_2 {F : Nat → Nat → Nat} (a : Nat) (G : XG) (G6 : XG)
    (ron : RO (vw (G.2.1 (F (F a 3) 0))) (aI (G.2.1 (F (F a 3) 1))))
    (c_G6_F_F_a_3_0 : G6.2.1 (F (F a 3) 0) = G.2.1 (F (F a 3) 0))
    (c_G6_F_F_a_3_1 : G6.2.1 (F (F a 3) 1) = G.2.1 (F (F a 3) 1)) :
    RO (vw (G6.2.1 (F (F a 3) 0))) (aI (G6.2.1 (F (F a 3) 1))) := by simp only [c_G6_F_F_a_3_0, c_G6_F_F_a_3_1]; assumption
theorem v_X10_wouldSet_22_3 {F : Nat → Nat → Nat} (x6 : Int32) (p0 : Int32) (p1 : Int32) (p2 : Int32) (p3 : Int32) (G : XG) (a : Nat) (G6 : XG)
    (oq6 : (x6.toInt = -1 ∧ ¬ ((0 ≤ p0.toInt ∧ p0.toInt < 3) ∧ (0 ≤ p1.toInt ∧ p1.toInt < 30) ∧ (0 ≤ p2.toInt ∧ p2.toInt < 3) ∧ (p3.toInt = -1000 ∨ (-99 ≤ p3.toInt ∧ p3.toInt ≤ 99)))) ∨ ((0 ≤ p0.toInt ∧ p0.toInt < 3) ∧ (0 ≤ p1.toInt ∧ p1.toInt < 30) ∧ (0 ≤ p2.toInt ∧ p2.toInt < 3) ∧ (p3.toInt = -1000 ∨ (-99 ≤ p3.toInt ∧ p3.toInt ≤ 99)) ∧ ((x6.toInt = -2 ∧ cel (vw (G.2.1 (F (F a 3) 0))) p0.toInt p1.toInt 0 = -2000) ∨ (cel (vw (G.2.1 (F (F a 3) 0))) p0.toInt p1.toInt 0 ≠ -2000 ∧ ((x6.toInt = -4 ∧ cel (vw (G.2.1 (F (F a 3) 0))) p0.toInt p1.toInt p2.toInt = p3.toInt) ∨ (x6.toInt = 0 ∧ cel (vw (G.2.1 (F (F a 3) 0))) p0.toInt p1.toInt p2.toInt ≠ p3.toInt ∧ (vw (G6.2.1 (F (F a 5) 0))) = rset (vw (G.2.1 (F (F a 3) 0))) (90 * p0.toInt + 30 * p2.toInt + p1.toInt) p3.toInt ∧ RO (vw (G6.2.1 (F (F a 5) 0))) (aI (G6.2.1 (F (F a 5) 1)))))))))
    (t6 : -4 ≤ x6.toInt ∧ x6.toInt ≤ 0)
    (c13 : 0 ≤ x6.toInt) :
    RO (vw (G6.2.1 (F (F a 5) 0))) (aI (G6.2.1 (F (F a 5) 1))) := by
  rcases oq6 with ⟨h1, h2⟩ | ⟨v1, v2, v3, v4, ⟨h1, h2⟩ | ⟨h0, ⟨h1, h2⟩ | ⟨h1, h2, h3, h4⟩⟩⟩
  · exfalso; omega
  · exfalso; omega
  · exfalso; omega
  · exact h4
theorem v_X10_wouldSet_22_4 {K : Nat → Nat} {F : Nat → Nat → Nat} (a : Nat) (G : XG) (G6 : XG)
    (hF6 : XFr [] [F (F a 5) 0, F (F a 5) 1] [] G G6)
    (bko : BKr K G (G.2.2.1 (F (F a 2) 1)))
    (r_G6_F_F_a_2_1 : G6.2.2.1 (F (F a 2) 1) = G.2.2.1 (F (F a 2) 1)) :
    BKr K G6 (G6.2.2.1 (F (F a 2) 1)) := by
  have hd0 : ∀ p, p ∈ ([] : List (Nat × Nat)) → K p.1 ≠ 9 := fun _ h => by cases h
  rw [r_G6_F_F_a_2_1]
  exact bko.fr hF6 hd0
