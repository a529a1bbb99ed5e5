theorem v_X10_wouldSet_6_1 {F : Nat → Nat → Nat} (a : Nat) (G : XG)
    (ron : RO (vw (G.2.1 (F (F a 3) 0))) (aI (G.2.1 (F (F a 3) 1)))) :
    RO (vw (G.2.1 (F (F a 3) 0))) (aI (G.2.1 (F (F a 3) 1))) := by exact ron
theorem v_X10_wouldSet_22_2 {F : Nat → Nat → Nat} (a : Nat) (G : XG) (G6 : XG)
    (ron : RO (vw (G.2.1 (F (F a 3) 0))) (aI (G.2.1 (F (F a 3) 1))))
    (c_G6_F_F_a_3_0 : G6.2.1 (F (F a 3) 0) = G.2.1 (F (F a 3) 0))
    (c_G6_F_F_a_3_1 : G6.2.1 (F (F a 3) 1) = G.2.1 (F (F a 3) 1)) :
    RO (vw (G6.2.1 (F (F a 3) 0))) (aI (G6.2.1 (F (F a 3) 1))) := by simp only [c_G6_F_F_a_3_0, c_G6_F_F_a_3_1]; assumption
theorem v_X10_wouldSet_22_3 {F : Nat → Nat → Nat} (x6 : Int32) (p0 : Int32) (p1 : Int32) (p2 : Int32) (p3 : Int32) (G : XG) (a : Nat) (G6 : XG)
    (oq6 : (x6.toInt = -1 ∧ ¬ ((0 ≤ p0.toInt ∧ p0.toInt < 3) ∧ (0 ≤ p1.toInt ∧ p1.toInt < 30) ∧ (0 ≤ p2.toInt ∧ p2.toInt < 3) ∧ (p3.toInt = -1000 ∨ (-99 ≤ p3.toInt ∧ p3.toInt ≤ 99)))) ∨ ((0 ≤ p0.toInt ∧ p0.toInt < 3) ∧ (0 ≤ p1.toInt ∧ p1.toInt < 30) ∧ (0 ≤ p2.toInt ∧ p2.toInt < 3) ∧ (p3.toInt = -1000 ∨ (-99 ≤ p3.toInt ∧ p3.toInt ≤ 99)) ∧ ((x6.toInt = -2 ∧ cel (vw (G.2.1 (F (F a 3) 0))) p0.toInt p1.toInt 0 = -2000) ∨ (cel (vw (G.2.1 (F (F a 3) 0))) p0.toInt p1.toInt 0 ≠ -2000 ∧ ((x6.toInt = -4 ∧ cel (vw (G.2.1 (F (F a 3) 0))) p0.toInt p1.toInt p2.toInt = p3.toInt) ∨ (x6.toInt = 0 ∧ cel (vw (G.2.1 (F (F a 3) 0))) p0.toInt p1.toInt p2.toInt ≠ p3.toInt ∧ (vw (G6.2.1 (F (F a 5) 0))) = rset (vw (G.2.1 (F (F a 3) 0))) (90 * p0.toInt + 30 * p2.toInt + p1.toInt) p3.toInt ∧ RO (vw (G6.2.1 (F (F a 5) 0))) (aI (G6.2.1 (F (F a 5) 1)))))))))
    (t6 : -4 ≤ x6.toInt ∧ x6.toInt ≤ 0)
    (c13 : 0 ≤ x6.toInt) :
    RO (vw (G6.2.1 (F (F a 5) 0))) (aI (G6.2.1 (F (F a 5) 1))) := by
  rcases oq6 with ⟨h1, h2⟩ | ⟨v1, v2, v3, v4, ⟨h1, h2⟩ | ⟨h0, ⟨h1, h2⟩ | ⟨h1, h2, h3, h4⟩⟩⟩
  · exfalso; omega
  · exfalso; omega
  · exfalso; omega
  · exact h4
theorem v_X10_wouldSet_22_4 {K : Nat → Nat} {F : Nat → Nat → Nat} (a : Nat) (G : XG) (G6 : XG)
    (hF6 : XFr [] [F (F a 5) 0, F (F a 5) 1] [] G G6)
    (bko : BKr K G (G.2.2.1 (F (F a 2) 1)))
    (r_G6_F_F_a_2_1 : G6.2.2.1 (F (F a 2) 1) = G.2.2.1 (F (F a 2) 1)) :
    BKr K G6 (G6.2.2.1 (F (F a 2) 1)) := by
  have hd0 : ∀ p, p ∈ ([] : List (Nat × Nat)) → K p.1 ≠ 9 := fun _ h => by cases h
  rw [r_G6_F_F_a_2_1]
  exact bko.fr hF6 hd0
theorem v_X10_wouldSet_25_5 {K : Nat → Nat} {F : Nat → Nat → Nat} (a : Nat) (G : XG) (G6 : XG) (x6 : Int32) (p0 : Int32) (p1 : Int32) (p2 : Int32) (p3 : Int32) (x22 : Int32)
    (ha : K a = 12)
    (hk9999 : K (F a 11) = 3)
    (hj9999 : F (F a 11) 99 = 0)
    (hk9999a : K (F a 9) = 6)
    (hj9999a : F (F a 9) 99 = 1)
    (hk9999b : K (F (F a 11) 0) = 21)
    (hj9999b : F (F (F a 11) 0) 99 = 100)
    (hk9999c : K (F (F a 11) 1) = 21)
    (hj9999c : F (F (F a 11) 1) 99 = 101)
    (hk9999d : K (F (F a 11) 2) = 24)
    (hj9999d : F (F (F a 11) 2) 99 = 4)
    (hk9999e : K (F (F a 9) 0) = 22)
    (hj9999f : F (F (F a 9) 0) 99 = 10 * 1 + 0)
    (hk9999f : K (F (F a 9) 1) = 22)
    (hj9999h : F (F (F a 9) 1) 99 = 10 * 1 + 1)
    (hk9999g : K (F (F a 9) 2) = 22)
    (hj9999j : F (F (F a 9) 2) 99 = 10 * 1 + 2)
    (hk9999h : K (F (F a 9) 3) = 22)
    (hj9999l : F (F (F a 9) 3) 99 = 10 * 1 + 3)
    (hk9999i : K (F (F a 9) 4) = 23)
    (hj9999n : F (F (F a 9) 4) 99 = 10 * 1 + 4)
    (hk9999j : K (F (F a 9) 5) = 23)
    (hj9999p : F (F (F a 9) 5) 99 = 10 * 1 + 5)
    (hk9999k : K (F a 5) = 8)
    (hj9999q : F (F a 5) 99 = 2)
    (hk9999l : K (F (F a 5) 0) = 20)
    (hj9999s : F (F (F a 5) 0) 99 = 2)
    (hk9999m : K (F (F a 5) 1) = 21)
    (hj9999u : F (F (F a 5) 1) 99 = 2)
    (hk9999n : K (F a 2) = 2)
    (hj9999v : F (F a 2) 99 = 0)
    (hk9999o : K (F (F a 2) 1) = 15)
    (hj9999w : F (F (F a 2) 1) 99 = 1)
    (hk9999p : K (F a 3) = 8)
    (hj9999y : F (F a 3) 99 = 0)
    (hk9999q : K (F (F a 3) 0) = 20)
    (hj9999z26 : F (F (F a 3) 0) 99 = 0)
    (hk9999r : K (F (F a 3) 1) = 21)
    (hj9999z28 : F (F (F a 3) 1) 99 = 0)
    (hF6 : XFr [] [F (F a 5) 0, F (F a 5) 1] [] G G6)
    (bko : BKr K G (G.2.2.1 (F (F a 2) 1)))
    (oq6 : (x6.toInt = -1 ∧ ¬ ((0 ≤ p0.toInt ∧ p0.toInt < 3) ∧ (0 ≤ p1.toInt ∧ p1.toInt < 30) ∧ (0 ≤ p2.toInt ∧ p2.toInt < 3) ∧ (p3.toInt = -1000 ∨ (-99 ≤ p3.toInt ∧ p3.toInt ≤ 99)))) ∨ ((0 ≤ p0.toInt ∧ p0.toInt < 3) ∧ (0 ≤ p1.toInt ∧ p1.toInt < 30) ∧ (0 ≤ p2.toInt ∧ p2.toInt < 3) ∧ (p3.toInt = -1000 ∨ (-99 ≤ p3.toInt ∧ p3.toInt ≤ 99)) ∧ ((x6.toInt = -2 ∧ cel (vw (G.2.1 (F (F a 3) 0))) p0.toInt p1.toInt 0 = -2000) ∨ (cel (vw (G.2.1 (F (F a 3) 0))) p0.toInt p1.toInt 0 ≠ -2000 ∧ ((x6.toInt = -4 ∧ cel (vw (G.2.1 (F (F a 3) 0))) p0.toInt p1.toInt p2.toInt = p3.toInt) ∨ (x6.toInt = 0 ∧ cel (vw (G.2.1 (F (F a 3) 0))) p0.toInt p1.toInt p2.toInt ≠ p3.toInt ∧ (vw (G6.2.1 (F (F a 5) 0))) = rset (vw (G.2.1 (F (F a 3) 0))) (90 * p0.toInt + 30 * p2.toInt + p1.toInt) p3.toInt ∧ RO (vw (G6.2.1 (F (F a 5) 0))) (aI (G6.2.1 (F (F a 5) 1)))))))))
    (oq22 : AnsR ((G.1 a 18).toInt) x22.toInt (gaL G6 (G6.2.2.1 (F (F a 2) 1)) (vw (G.2.1 (F (F a 3) 0))) (vw (G6.2.1 (F (F a 5) 0))) 0 (((G.1 (F a 2) 2).toInt)).toNat))
    (sb : 0 ≤ ((G.1 (F a 2) 2).toInt) ∧ ((G.1 (F a 2) 2).toInt) ≤ 12)
    (t6 : -4 ≤ x6.toInt ∧ x6.toInt ≤ 0)
    (c13 : 0 ≤ x6.toInt)
    (r_G6_F_F_a_2_1 : G6.2.2.1 (F (F a 2) 1) = G.2.2.1 (F (F a 2) 1)) :
    (x22.toInt = -1 ∧ ¬ ((0 ≤ p0.toInt ∧ p0.toInt < 3) ∧ (0 ≤ p1.toInt ∧ p1.toInt < 30) ∧ (0 ≤ p2.toInt ∧ p2.toInt < 3) ∧ (p3.toInt = -1000 ∨ (-99 ≤ p3.toInt ∧ p3.toInt ≤ 99)))) ∨ (((0 ≤ p0.toInt ∧ p0.toInt < 3) ∧ (0 ≤ p1.toInt ∧ p1.toInt < 30) ∧ (0 ≤ p2.toInt ∧ p2.toInt < 3) ∧ (p3.toInt = -1000 ∨ (-99 ≤ p3.toInt ∧ p3.toInt ≤ 99))) ∧ x22.toInt = -2 ∧ cel (vw (G.2.1 (F (F a 3) 0))) p0.toInt p1.toInt 0 = -2000) ∨ (((0 ≤ p0.toInt ∧ p0.toInt < 3) ∧ (0 ≤ p1.toInt ∧ p1.toInt < 30) ∧ (0 ≤ p2.toInt ∧ p2.toInt < 3) ∧ (p3.toInt = -1000 ∨ (-99 ≤ p3.toInt ∧ p3.toInt ≤ 99))) ∧ cel (vw (G.2.1 (F (F a 3) 0))) p0.toInt p1.toInt 0 ≠ -2000 ∧ x22.toInt = -4 ∧ cel (vw (G.2.1 (F (F a 3) 0))) p0.toInt p1.toInt p2.toInt = p3.toInt) ∨ (((0 ≤ p0.toInt ∧ p0.toInt < 3) ∧ (0 ≤ p1.toInt ∧ p1.toInt < 30) ∧ (0 ≤ p2.toInt ∧ p2.toInt < 3) ∧ (p3.toInt = -1000 ∨ (-99 ≤ p3.toInt ∧ p3.toInt ≤ 99))) ∧ cel (vw (G.2.1 (F (F a 3) 0))) p0.toInt p1.toInt 0 ≠ -2000 ∧ cel (vw (G.2.1 (F (F a 3) 0))) p0.toInt p1.toInt p2.toInt ≠ p3.toInt ∧ AnsR ((G.1 a 18).toInt) x22.toInt (gaL G (G.2.2.1 (F (F a 2) 1)) (vw (G.2.1 (F (F a 3) 0))) (rset (vw (G.2.1 (F (F a 3) 0))) (90 * p0.toInt + 30 * p2.toInt + p1.toInt) p3.toInt) 0 (((G.1 (F a 2) 2).toInt)).toNat)) := by
  rcases oq6 with ⟨h1, h2⟩ | ⟨v1, v2, v3, v4, ⟨h1, h2⟩ | ⟨h0, ⟨h1, h2⟩ | ⟨h1, h2, h3, h4⟩⟩⟩
  · first
      | (exfalso; omega)
      | exact Or.inl ⟨h1, fun h => h2 h⟩
  · first
      | (exfalso; omega)
      | exact Or.inr (Or.inl ⟨⟨v1, v2, v3, v4⟩, h1, h2⟩)
  · first
      | (exfalso; omega)
      | exact Or.inr (Or.inr (Or.inl ⟨⟨v1, v2, v3, v4⟩, h0, h1, h2⟩))
  · first
      | (exfalso; omega)
      | (have hd0 : ∀ p, p ∈ ([] : List (Nat × Nat)) → K p.1 ≠ 9 := fun _ h => by cases h
         have hc : ∀ (i q : Nat), i < ((G.1 (F a 2) 2).toInt).toNat → G.2.2.1 (F (F a 2) 1) i = some q → G6.1 q = G.1 q := fun i q hi hq => hF6.rule hd0 (bko i q (by omega) hq).1
         rw [h3, r_G6_F_F_a_2_1, gaL_cg hc] at oq22
         exact Or.inr (Or.inr (Or.inr ⟨⟨v1, v2, v3, v4⟩, h0, h2, oq22⟩)))
theorem v_X10_wouldSet_25_6 {K : Nat → Nat} {F : Nat → Nat → Nat} (a : Nat) (G : XG) (G6 : XG) (x6 : Int32) (p0 : Int32) (p1 : Int32) (p2 : Int32) (p3 : Int32)
    (ha : K a = 12)
    (hk9999 : K (F a 11) = 3)
    (hj9999 : F (F a 11) 99 = 0)
    (hk9999a : K (F a 9) = 6)
    (hj9999a : F (F a 9) 99 = 1)
    (hk9999b : K (F (F a 11) 0) = 21)
    (hj9999b : F (F (F a 11) 0) 99 = 100)
    (hk9999c : K (F (F a 11) 1) = 21)
    (hj9999c : F (F (F a 11) 1) 99 = 101)
    (hk9999d : K (F (F a 11) 2) = 24)
    (hj9999d : F (F (F a 11) 2) 99 = 4)
    (hk9999e : K (F (F a 9) 0) = 22)
    (hj9999f : F (F (F a 9) 0) 99 = 10 * 1 + 0)
    (hk9999f : K (F (F a 9) 1) = 22)
    (hj9999h : F (F (F a 9) 1) 99 = 10 * 1 + 1)
    (hk9999g : K (F (F a 9) 2) = 22)
    (hj9999j : F (F (F a 9) 2) 99 = 10 * 1 + 2)
    (hk9999h : K (F (F a 9) 3) = 22)
    (hj9999l : F (F (F a 9) 3) 99 = 10 * 1 + 3)
    (hk9999i : K (F (F a 9) 4) = 23)
    (hj9999n : F (F (F a 9) 4) 99 = 10 * 1 + 4)
    (hk9999j : K (F (F a 9) 5) = 23)
    (hj9999p : F (F (F a 9) 5) 99 = 10 * 1 + 5)
    (hk9999k : K (F a 5) = 8)
    (hj9999q : F (F a 5) 99 = 2)
    (hk9999l : K (F (F a 5) 0) = 20)
    (hj9999s : F (F (F a 5) 0) 99 = 2)
    (hk9999m : K (F (F a 5) 1) = 21)
    (hj9999u : F (F (F a 5) 1) 99 = 2)
    (hk9999n : K (F a 2) = 2)
    (hj9999v : F (F a 2) 99 = 0)
    (hk9999o : K (F (F a 2) 1) = 15)
    (hj9999w : F (F (F a 2) 1) 99 = 1)
    (hk9999p : K (F a 3) = 8)
    (hj9999y : F (F a 3) 99 = 0)
    (hk9999q : K (F (F a 3) 0) = 20)
    (hj9999z26 : F (F (F a 3) 0) 99 = 0)
    (hk9999r : K (F (F a 3) 1) = 21)
    (hj9999z28 : F (F (F a 3) 1) 99 = 0)
    (hF6 : XFr [] [F (F a 5) 0, F (F a 5) 1] [] G G6)
    (bko : BKr K G (G.2.2.1 (F (F a 2) 1)))
    (oq6 : (x6.toInt = -1 ∧ ¬ ((0 ≤ p0.toInt ∧ p0.toInt < 3) ∧ (0 ≤ p1.toInt ∧ p1.toInt < 30) ∧ (0 ≤ p2.toInt ∧ p2.toInt < 3) ∧ (p3.toInt = -1000 ∨ (-99 ≤ p3.toInt ∧ p3.toInt ≤ 99)))) ∨ ((0 ≤ p0.toInt ∧ p0.toInt < 3) ∧ (0 ≤ p1.toInt ∧ p1.toInt < 30) ∧ (0 ≤ p2.toInt ∧ p2.toInt < 3) ∧ (p3.toInt = -1000 ∨ (-99 ≤ p3.toInt ∧ p3.toInt ≤ 99)) ∧ ((x6.toInt = -2 ∧ cel (vw (G.2.1 (F (F a 3) 0))) p0.toInt p1.toInt 0 = -2000) ∨ (cel (vw (G.2.1 (F (F a 3) 0))) p0.toInt p1.toInt 0 ≠ -2000 ∧ ((x6.toInt = -4 ∧ cel (vw (G.2.1 (F (F a 3) 0))) p0.toInt p1.toInt p2.toInt = p3.toInt) ∨ (x6.toInt = 0 ∧ cel (vw (G.2.1 (F (F a 3) 0))) p0.toInt p1.toInt p2.toInt ≠ p3.toInt ∧ (vw (G6.2.1 (F (F a 5) 0))) = rset (vw (G.2.1 (F (F a 3) 0))) (90 * p0.toInt + 30 * p2.toInt + p1.toInt) p3.toInt ∧ RO (vw (G6.2.1 (F (F a 5) 0))) (aI (G6.2.1 (F (F a 5) 1)))))))))
    (sb : 0 ≤ ((G.1 (F a 2) 2).toInt) ∧ ((G.1 (F a 2) 2).toInt) ≤ 12)
    (t6 : -4 ≤ x6.toInt ∧ x6.toInt ≤ 0)
    (c13 : ¬ (0 ≤ x6.toInt))
    (r_G6_F_F_a_2_1 : G6.2.2.1 (F (F a 2) 1) = G.2.2.1 (F (F a 2) 1)) :
    (x6.toInt = -1 ∧ ¬ ((0 ≤ p0.toInt ∧ p0.toInt < 3) ∧ (0 ≤ p1.toInt ∧ p1.toInt < 30) ∧ (0 ≤ p2.toInt ∧ p2.toInt < 3) ∧ (p3.toInt = -1000 ∨ (-99 ≤ p3.toInt ∧ p3.toInt ≤ 99)))) ∨ (((0 ≤ p0.toInt ∧ p0.toInt < 3) ∧ (0 ≤ p1.toInt ∧ p1.toInt < 30) ∧ (0 ≤ p2.toInt ∧ p2.toInt < 3) ∧ (p3.toInt = -1000 ∨ (-99 ≤ p3.toInt ∧ p3.toInt ≤ 99))) ∧ x6.toInt = -2 ∧ cel (vw (G.2.1 (F (F a 3) 0))) p0.toInt p1.toInt 0 = -2000) ∨ (((0 ≤ p0.toInt ∧ p0.toInt < 3) ∧ (0 ≤ p1.toInt ∧ p1.toInt < 30) ∧ (0 ≤ p2.toInt ∧ p2.toInt < 3) ∧ (p3.toInt = -1000 ∨ (-99 ≤ p3.toInt ∧ p3.toInt ≤ 99))) ∧ cel (vw (G.2.1 (F (F a 3) 0))) p0.toInt p1.toInt 0 ≠ -2000 ∧ x6.toInt = -4 ∧ cel (vw (G.2.1 (F (F a 3) 0))) p0.toInt p1.toInt p2.toInt = p3.toInt) ∨ (((0 ≤ p0.toInt ∧ p0.toInt < 3) ∧ (0 ≤ p1.toInt ∧ p1.toInt < 30) ∧ (0 ≤ p2.toInt ∧ p2.toInt < 3) ∧ (p3.toInt = -1000 ∨ (-99 ≤ p3.toInt ∧ p3.toInt ≤ 99))) ∧ cel (vw (G.2.1 (F (F a 3) 0))) p0.toInt p1.toInt 0 ≠ -2000 ∧ cel (vw (G.2.1 (F (F a 3) 0))) p0.toInt p1.toInt p2.toInt ≠ p3.toInt ∧ AnsR ((G.1 a 18).toInt) x6.toInt (gaL G (G.2.2.1 (F (F a 2) 1)) (vw (G.2.1 (F (F a 3) 0))) (rset (vw (G.2.1 (F (F a 3) 0))) (90 * p0.toInt + 30 * p2.toInt + p1.toInt) p3.toInt) 0 (((G.1 (F a 2) 2).toInt)).toNat)) := by
  rcases oq6 with ⟨h1, h2⟩ | ⟨v1, v2, v3, v4, ⟨h1, h2⟩ | ⟨h0, ⟨h1, h2⟩ | ⟨h1, h2, h3, h4⟩⟩⟩
  · first
      | (exfalso; omega)
      | exact Or.inl ⟨h1, fun h => h2 h⟩
  · first
      | (exfalso; omega)
      | exact Or.inr (Or.inl ⟨⟨v1, v2, v3, v4⟩, h1, h2⟩)
  · first
      | (exfalso; omega)
      | exact Or.inr (Or.inr (Or.inl ⟨⟨v1, v2, v3, v4⟩, h0, h1, h2⟩))
  · first
      | (exfalso; omega)
      | (have hd0 : ∀ p, p ∈ ([] : List (Nat × Nat)) → K p.1 ≠ 9 := fun _ h => by cases h
         have hc : ∀ (i q : Nat), i < ((G.1 (F a 2) 2).toInt).toNat → G.2.2.1 (F (F a 2) 1) i = some q → G6.1 q = G.1 q := fun i q hi hq => hF6.rule hd0 (bko i q (by omega) hq).1
         rw [h3, r_G6_F_F_a_2_1, gaL_cg hc] at oq22
         exact Or.inr (Or.inr (Or.inr ⟨⟨v1, v2, v3, v4⟩, h0, h2, oq22⟩)))
