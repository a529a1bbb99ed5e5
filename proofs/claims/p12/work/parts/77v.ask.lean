theorem v_X10_question_27_1 {K : Nat → Nat} {F : Nat → Nat → Nat} (a : Nat) (G : XG) (p0 : Int32) (p1 : Int32) (p2 : Int32)
    (ha : K a = 12)
    (hn5 : (p0.toInt < 0 ∨ 12 ≤ p0.toInt) ∨ G.2.2.1 (F (F a 2) 0) (p0.toInt).toNat = none) :
    (((p0.toInt < 0 ∨ 12 ≤ p0.toInt) ∨ G.2.2.1 (F (F a 2) 0) (p0.toInt).toNat = none) ∧ (-2147483648 : Int) = -2147483648) ∨ (∃ q : Nat, ((0 ≤ p0.toInt ∧ p0.toInt < 12) ∧ G.2.2.1 (F (F a 2) 0) (p0.toInt).toNat = some q) ∧ (-2147483648 : Int) = quS (vw (G.2.1 (F (F a 3) 0))) (G.1 q 0).toInt (G.1 q 2).toInt (G.1 q 3).toInt (G.1 q 4).toInt (G.1 q 5).toInt (G.1 q 6).toInt p1.toInt p2.toInt) := by
  first
    | exact Or.inl ⟨hn5, rfl⟩
    | exact Or.inr ⟨q5, ⟨ht5, hs5⟩, (quS_n (by unfold sbj; omega)).symm⟩
theorem v_X10_question_35_2 {F : Nat → Nat → Nat} (a : Nat) (G : XG)
    (ron : RO (vw (G.2.1 (F (F a 3) 0))) (aI (G.2.1 (F (F a 3) 1)))) :
    RO (vw (G.2.1 (F (F a 3) 0))) (aI (G.2.1 (F (F a 3) 1))) := by exact ron
theorem v_X10_question_35_3 {K : Nat → Nat} {F : Nat → Nat → Nat} (G : XG) (a : Nat) (p0 : Int32) (q5 : Nat)
    (bkn : BKr K G (G.2.2.1 (F (F a 2) 0)))
    (hs5 : G.2.2.1 (F (F a 2) 0) (p0.toInt).toNat = some q5)
    (ht5 : 0 ≤ p0.toInt ∧ p0.toInt < 12) :
    RW (G.1 q5) := by
  exact (bkn p0.toInt.toNat q5 (by omega) hs5).2
theorem v_X10_question_95_4 {F : Nat → Nat → Nat} (a : Nat) (q5 : Nat) (G : XG) (p0 : Int32) (p1 : Int32) (p2 : Int32)
    (hs5 : G.2.2.1 (F (F a 2) 0) (p0.toInt).toNat = some q5)
    (ht5 : 0 ≤ p0.toInt ∧ p0.toInt < 12)
    (c41 : ¬ p2.toInt = 0 ∧ ¬ p2.toInt = 1) :
    (((p0.toInt < 0 ∨ 12 ≤ p0.toInt) ∨ G.2.2.1 (F (F a 2) 0) (p0.toInt).toNat = none) ∧ (-2147483648 : Int) = -2147483648) ∨ (∃ q : Nat, ((0 ≤ p0.toInt ∧ p0.toInt < 12) ∧ G.2.2.1 (F (F a 2) 0) (p0.toInt).toNat = some q) ∧ (-2147483648 : Int) = quS (vw (G.2.1 (F (F a 3) 0))) (G.1 q 0).toInt (G.1 q 2).toInt (G.1 q 3).toInt (G.1 q 4).toInt (G.1 q 5).toInt (G.1 q 6).toInt p1.toInt p2.toInt) := by
  exact Or.inr ⟨q5, ⟨ht5, hs5⟩, (quS_o c41.1 c41.2).symm⟩
theorem v_X10_question_70_5 {K : Nat → Nat} {F : Nat → Nat → Nat} (a : Nat) (q5 : Nat) (G : XG) (p0 : Int32) (p1 : Int32) (x18 : Int32) (p2 : Int32)
    (ha : K a = 12)
    (hs5 : G.2.2.1 (F (F a 2) 0) (p0.toInt).toNat = some q5)
    (ht5 : 0 ≤ p0.toInt ∧ p0.toInt < 12)
    (t18 : ((((((G.1 q5 0).toInt) = 2 ∨ ((G.1 q5 0).toInt) = 4 ∨ ((G.1 q5 0).toInt) = 5) ∧ 0 ≤ p1.toInt ∧ p1.toInt < 30) ∨ (¬ (((G.1 q5 0).toInt) = 2 ∨ ((G.1 q5 0).toInt) = 4 ∨ ((G.1 q5 0).toInt) = 5) ∧ -99 ≤ p1.toInt ∧ p1.toInt ≤ 99)) ∧ x18.toInt = 1) ∨ (¬ (((((G.1 q5 0).toInt) = 2 ∨ ((G.1 q5 0).toInt) = 4 ∨ ((G.1 q5 0).toInt) = 5) ∧ 0 ≤ p1.toInt ∧ p1.toInt < 30) ∨ (¬ (((G.1 q5 0).toInt) = 2 ∨ ((G.1 q5 0).toInt) = 4 ∨ ((G.1 q5 0).toInt) = 5) ∧ -99 ≤ p1.toInt ∧ p1.toInt ≤ 99)) ∧ x18.toInt = 0))
    (c21 : x18.toInt ≠ 0)
    (c41 : p2.toInt = 0) :
    (((p0.toInt < 0 ∨ 12 ≤ p0.toInt) ∨ G.2.2.1 (F (F a 2) 0) (p0.toInt).toNat = none) ∧ (stt (vw (G.2.1 (F (F a 3) 0))) ((G.1 q5 0).toInt) ((G.1 q5 2).toInt) ((G.1 q5 3).toInt) ((G.1 q5 4).toInt) (p1.toInt)) = -2147483648) ∨ (∃ q : Nat, ((0 ≤ p0.toInt ∧ p0.toInt < 12) ∧ G.2.2.1 (F (F a 2) 0) (p0.toInt).toNat = some q) ∧ (stt (vw (G.2.1 (F (F a 3) 0))) ((G.1 q5 0).toInt) ((G.1 q5 2).toInt) ((G.1 q5 3).toInt) ((G.1 q5 4).toInt) (p1.toInt)) = quS (vw (G.2.1 (F (F a 3) 0))) (G.1 q 0).toInt (G.1 q 2).toInt (G.1 q 3).toInt (G.1 q 4).toInt (G.1 q 5).toInt (G.1 q 6).toInt p1.toInt p2.toInt) := by
  exact Or.inr ⟨q5, ⟨ht5, hs5⟩, (quS_0 (by unfold sbj; omega) c41).symm⟩
theorem v_X10_question_80_6 {F : Nat → Nat → Nat} (a : Nat) (G : XG)
    (ron : RO (vw (G.2.1 (F (F a 3) 0))) (aI (G.2.1 (F (F a 3) 1)))) :
    RO (vw (G.2.1 (F (F a 3) 0))) (aI (G.2.1 (F (F a 3) 1))) := by exact ron
theorem v_X10_question_80_7 {K : Nat → Nat} {F : Nat → Nat → Nat} (G : XG) (a : Nat) (p0 : Int32) (q5 : Nat)
    (bkn : BKr K G (G.2.2.1 (F (F a 2) 0)))
    (hs5 : G.2.2.1 (F (F a 2) 0) (p0.toInt).toNat = some q5)
    (ht5 : 0 ≤ p0.toInt ∧ p0.toInt < 12) :
    RW (G.1 q5) := by
  exact (bkn p0.toInt.toNat q5 (by omega) hs5).2
theorem v_X10_question_91_8 {K : Nat → Nat} {F : Nat → Nat → Nat} (a : Nat) (q5 : Nat) (G : XG) (p0 : Int32) (p1 : Int32) (x18 : Int32) (p2 : Int32) (x80 : Int32)
    (ha : K a = 12)
    (hs5 : G.2.2.1 (F (F a 2) 0) (p0.toInt).toNat = some q5)
    (ht5 : 0 ≤ p0.toInt ∧ p0.toInt < 12)
    (t18 : ((((((G.1 q5 0).toInt) = 2 ∨ ((G.1 q5 0).toInt) = 4 ∨ ((G.1 q5 0).toInt) = 5) ∧ 0 ≤ p1.toInt ∧ p1.toInt < 30) ∨ (¬ (((G.1 q5 0).toInt) = 2 ∨ ((G.1 q5 0).toInt) = 4 ∨ ((G.1 q5 0).toInt) = 5) ∧ -99 ≤ p1.toInt ∧ p1.toInt ≤ 99)) ∧ x18.toInt = 1) ∨ (¬ (((((G.1 q5 0).toInt) = 2 ∨ ((G.1 q5 0).toInt) = 4 ∨ ((G.1 q5 0).toInt) = 5) ∧ 0 ≤ p1.toInt ∧ p1.toInt < 30) ∨ (¬ (((G.1 q5 0).toInt) = 2 ∨ ((G.1 q5 0).toInt) = 4 ∨ ((G.1 q5 0).toInt) = 5) ∧ -99 ≤ p1.toInt ∧ p1.toInt ≤ 99)) ∧ x18.toInt = 0))
    (c21 : x18.toInt ≠ 0)
    (c41 : p2.toInt = 1)
    (t80 : x80.toInt = (flq (vw (G.2.1 (F (F a 3) 0))) ((G.1 q5 0).toInt) ((G.1 q5 2).toInt) ((G.1 q5 3).toInt) ((G.1 q5 5).toInt) ((G.1 q5 6).toInt) (p1.toInt) (stt (vw (G.2.1 (F (F a 3) 0))) ((G.1 q5 0).toInt) ((G.1 q5 2).toInt) ((G.1 q5 3).toInt) ((G.1 q5 4).toInt) (p1.toInt))))
    (f21 : x80.toInt = 0 ∨ x80.toInt = 1)
    (c83 : x80.toInt = 0) :
    (((p0.toInt < 0 ∨ 12 ≤ p0.toInt) ∨ G.2.2.1 (F (F a 2) 0) (p0.toInt).toNat = none) ∧ (0 : Int) = -2147483648) ∨ (∃ q : Nat, ((0 ≤ p0.toInt ∧ p0.toInt < 12) ∧ G.2.2.1 (F (F a 2) 0) (p0.toInt).toNat = some q) ∧ (0 : Int) = quS (vw (G.2.1 (F (F a 3) 0))) (G.1 q 0).toInt (G.1 q 2).toInt (G.1 q 3).toInt (G.1 q 4).toInt (G.1 q 5).toInt (G.1 q 6).toInt p1.toInt p2.toInt) := by
  exact Or.inr ⟨q5, ⟨ht5, hs5⟩, (by rw [quS_1 (by unfold sbj; omega) c41, ← t80]; omega)⟩
theorem v_X10_question_91_9 {K : Nat → Nat} {F : Nat → Nat → Nat} (a : Nat) (q5 : Nat) (G : XG) (p0 : Int32) (p1 : Int32) (x18 : Int32) (p2 : Int32) (x80 : Int32)
    (ha : K a = 12)
    (hs5 : G.2.2.1 (F (F a 2) 0) (p0.toInt).toNat = some q5)
    (ht5 : 0 ≤ p0.toInt ∧ p0.toInt < 12)
    (t18 : ((((((G.1 q5 0).toInt) = 2 ∨ ((G.1 q5 0).toInt) = 4 ∨ ((G.1 q5 0).toInt) = 5) ∧ 0 ≤ p1.toInt ∧ p1.toInt < 30) ∨ (¬ (((G.1 q5 0).toInt) = 2 ∨ ((G.1 q5 0).toInt) = 4 ∨ ((G.1 q5 0).toInt) = 5) ∧ -99 ≤ p1.toInt ∧ p1.toInt ≤ 99)) ∧ x18.toInt = 1) ∨ (¬ (((((G.1 q5 0).toInt) = 2 ∨ ((G.1 q5 0).toInt) = 4 ∨ ((G.1 q5 0).toInt) = 5) ∧ 0 ≤ p1.toInt ∧ p1.toInt < 30) ∨ (¬ (((G.1 q5 0).toInt) = 2 ∨ ((G.1 q5 0).toInt) = 4 ∨ ((G.1 q5 0).toInt) = 5) ∧ -99 ≤ p1.toInt ∧ p1.toInt ≤ 99)) ∧ x18.toInt = 0))
    (c21 : x18.toInt ≠ 0)
    (c41 : p2.toInt = 1)
    (t80 : x80.toInt = (flq (vw (G.2.1 (F (F a 3) 0))) ((G.1 q5 0).toInt) ((G.1 q5 2).toInt) ((G.1 q5 3).toInt) ((G.1 q5 5).toInt) ((G.1 q5 6).toInt) (p1.toInt) (stt (vw (G.2.1 (F (F a 3) 0))) ((G.1 q5 0).toInt) ((G.1 q5 2).toInt) ((G.1 q5 3).toInt) ((G.1 q5 4).toInt) (p1.toInt))))
    (f21 : x80.toInt = 0 ∨ x80.toInt = 1)
    (c83 : ¬ (x80.toInt = 0)) :
    (((p0.toInt < 0 ∨ 12 ≤ p0.toInt) ∨ G.2.2.1 (F (F a 2) 0) (p0.toInt).toNat = none) ∧ (1 : Int) = -2147483648) ∨ (∃ q : Nat, ((0 ≤ p0.toInt ∧ p0.toInt < 12) ∧ G.2.2.1 (F (F a 2) 0) (p0.toInt).toNat = some q) ∧ (1 : Int) = quS (vw (G.2.1 (F (F a 3) 0))) (G.1 q 0).toInt (G.1 q 2).toInt (G.1 q 3).toInt (G.1 q 4).toInt (G.1 q 5).toInt (G.1 q 6).toInt p1.toInt p2.toInt) := by
  exact Or.inr ⟨q5, ⟨ht5, hs5⟩, (by rw [quS_1 (by unfold sbj; omega) c41, ← t80]; omega)⟩
theorem v_X10_question_27_10 {K : Nat → Nat} {F : Nat → Nat → Nat} (a : Nat) (q5 : Nat) (G : XG) (p0 : Int32) (p1 : Int32) (x18 : Int32) (p2 : Int32)
    (ha : K a = 12)
    (hs5 : G.2.2.1 (F (F a 2) 0) (p0.toInt).toNat = some q5)
    (ht5 : 0 ≤ p0.toInt ∧ p0.toInt < 12)
    (t18 : ((((((G.1 q5 0).toInt) = 2 ∨ ((G.1 q5 0).toInt) = 4 ∨ ((G.1 q5 0).toInt) = 5) ∧ 0 ≤ p1.toInt ∧ p1.toInt < 30) ∨ (¬ (((G.1 q5 0).toInt) = 2 ∨ ((G.1 q5 0).toInt) = 4 ∨ ((G.1 q5 0).toInt) = 5) ∧ -99 ≤ p1.toInt ∧ p1.toInt ≤ 99)) ∧ x18.toInt = 1) ∨ (¬ (((((G.1 q5 0).toInt) = 2 ∨ ((G.1 q5 0).toInt) = 4 ∨ ((G.1 q5 0).toInt) = 5) ∧ 0 ≤ p1.toInt ∧ p1.toInt < 30) ∨ (¬ (((G.1 q5 0).toInt) = 2 ∨ ((G.1 q5 0).toInt) = 4 ∨ ((G.1 q5 0).toInt) = 5) ∧ -99 ≤ p1.toInt ∧ p1.toInt ≤ 99)) ∧ x18.toInt = 0))
    (c21 : ¬ (x18.toInt ≠ 0)) :
    (((p0.toInt < 0 ∨ 12 ≤ p0.toInt) ∨ G.2.2.1 (F (F a 2) 0) (p0.toInt).toNat = none) ∧ (-2147483648 : Int) = -2147483648) ∨ (∃ q : Nat, ((0 ≤ p0.toInt ∧ p0.toInt < 12) ∧ G.2.2.1 (F (F a 2) 0) (p0.toInt).toNat = some q) ∧ (-2147483648 : Int) = quS (vw (G.2.1 (F (F a 3) 0))) (G.1 q 0).toInt (G.1 q 2).toInt (G.1 q 3).toInt (G.1 q 4).toInt (G.1 q 5).toInt (G.1 q 6).toInt p1.toInt p2.toInt) := by
  first
    | exact Or.inl ⟨hn5, rfl⟩
    | exact Or.inr ⟨q5, ⟨ht5, hs5⟩, (quS_n (by unfold sbj; omega)).symm⟩
theorem v_X10_depth_37_1 {K : Nat → Nat} {F : Nat → Nat → Nat} (a : Nat) (G : XG) (p0 : Int32) (p1 : Int32)
    (ha : K a = 12)
    (hn5 : (p0.toInt < 0 ∨ 12 ≤ p0.toInt) ∨ G.2.2.1 (F (F a 2) 0) (p0.toInt).toNat = none) :
    (((p0.toInt < 0 ∨ 12 ≤ p0.toInt) ∨ G.2.2.1 (F (F a 2) 0) (p0.toInt).toNat = none) ∧ (-1 : Int) = -1) ∨ (∃ q : Nat, ((0 ≤ p0.toInt ∧ p0.toInt < 12) ∧ G.2.2.1 (F (F a 2) 0) (p0.toInt).toNat = some q) ∧ (-1 : Int) = dpS (vw (G.2.1 (F (F a 3) 0))) (G.1 q 0).toInt (G.1 q 2).toInt (G.1 q 3).toInt p1.toInt) := by
  first
    | exact Or.inl ⟨hn5, rfl⟩
    | exact Or.inr ⟨q5, ⟨ht5, hs5⟩, (dpS_n (by omega)).symm⟩
theorem v_X10_depth_37_2 {K : Nat → Nat} {F : Nat → Nat → Nat} (a : Nat) (q5 : Nat) (G : XG) (p0 : Int32) (p1 : Int32)
    (ha : K a = 12)
    (hs5 : G.2.2.1 (F (F a 2) 0) (p0.toInt).toNat = some q5)
    (ht5 : 0 ≤ p0.toInt ∧ p0.toInt < 12)
    (c18 : ((G.1 q5 0).toInt) ≠ (5 : Int)) :
    (((p0.toInt < 0 ∨ 12 ≤ p0.toInt) ∨ G.2.2.1 (F (F a 2) 0) (p0.toInt).toNat = none) ∧ (-1 : Int) = -1) ∨ (∃ q : Nat, ((0 ≤ p0.toInt ∧ p0.toInt < 12) ∧ G.2.2.1 (F (F a 2) 0) (p0.toInt).toNat = some q) ∧ (-1 : Int) = dpS (vw (G.2.1 (F (F a 3) 0))) (G.1 q 0).toInt (G.1 q 2).toInt (G.1 q 3).toInt p1.toInt) := by
  first
    | exact Or.inl ⟨hn5, rfl⟩
    | exact Or.inr ⟨q5, ⟨ht5, hs5⟩, (dpS_n (by omega)).symm⟩
theorem v_X10_depth_30_3 {F : Nat → Nat → Nat} (a : Nat) (G : XG)
    (ron : RO (vw (G.2.1 (F (F a 3) 0))) (aI (G.2.1 (F (F a 3) 1)))) :
    RO (vw (G.2.1 (F (F a 3) 0))) (aI (G.2.1 (F (F a 3) 1))) := by exact ron
theorem v_X10_depth_101_4 {K : Nat → Nat} {F : Nat → Nat → Nat} (a : Nat) (q5 : Nat) (G : XG) (p0 : Int32) (p1 : Int32) (l5_44 : Int32) (l4_44 : Int32) (x30 : Int32) (N44 : Nat)
    (ha : K a = 12)
    (hs5 : G.2.2.1 (F (F a 2) 0) (p0.toInt).toNat = some q5)
    (dp : dpF (vw (G.2.1 (F (F a 3) 0))) ((G.1 q5 2).toInt) ((G.1 q5 3).toInt) 31 0 (p1.toInt) = dpF (vw (G.2.1 (F (F a 3) 0))) ((G.1 q5 2).toInt) ((G.1 q5 3).toInt) (31 - l5_44.toInt).toNat (l5_44.toInt) (l4_44.toInt))
    (ht5 : 0 ≤ p0.toInt ∧ p0.toInt < 12)
    (c18 : ¬ (((G.1 q5 0).toInt) ≠ (5 : Int)))
    (t30 : (x30.toInt = 1 ∧ (cel (vw (G.2.1 (F (F a 3) 0))) ((G.1 q5 2).toInt) (p1.toInt) 0) ≠ -2000) ∨ (x30.toInt = 0 ∧ (cel (vw (G.2.1 (F (F a 3) 0))) ((G.1 q5 2).toInt) (p1.toInt) 0) = -2000))
    (c33 : x30.toInt ≠ 0)
    (I44_0 : 0 ≤ l5_44.toInt ∧ l5_44.toInt ≤ 31)
    (hm44 : 100 - l5_44.toInt < (((N44) + 1 : Nat) : Int))
    (c48 : (30 : Int) < l5_44.toInt) :
    (((p0.toInt < 0 ∨ 12 ≤ p0.toInt) ∨ G.2.2.1 (F (F a 2) 0) (p0.toInt).toNat = none) ∧ (-2 : Int) = -1) ∨ (∃ q : Nat, ((0 ≤ p0.toInt ∧ p0.toInt < 12) ∧ G.2.2.1 (F (F a 2) 0) (p0.toInt).toNat = some q) ∧ (-2 : Int) = dpS (vw (G.2.1 (F (F a 3) 0))) (G.1 q 0).toInt (G.1 q 2).toInt (G.1 q 3).toInt p1.toInt) := by
  have e : (31 - l5_44.toInt).toNat = 0 := by omega
  rw [e] at dp
  exact Or.inr ⟨q5, ⟨ht5, hs5⟩, ((dpS_i (by omega)).trans dp).symm⟩
theorem v_X10_depth_80_5 {F : Nat → Nat → Nat} (a : Nat) (G : XG)
    (ron : RO (vw (G.2.1 (F (F a 3) 0))) (aI (G.2.1 (F (F a 3) 1)))) :
    RO (vw (G.2.1 (F (F a 3) 0))) (aI (G.2.1 (F (F a 3) 1))) := by exact ron
theorem v_X10_depth_96_6 {K : Nat → Nat} {F : Nat → Nat → Nat} (a : Nat) (q5 : Nat) (G : XG) (p0 : Int32) (p1 : Int32) (l5_44 : Int32) (l4_44 : Int32) (x30 : Int32) (N44 : Nat) (x80 : Int32)
    (ha : K a = 12)
    (hs5 : G.2.2.1 (F (F a 2) 0) (p0.toInt).toNat = some q5)
    (dp : dpF (vw (G.2.1 (F (F a 3) 0))) ((G.1 q5 2).toInt) ((G.1 q5 3).toInt) 31 0 (p1.toInt) = dpF (vw (G.2.1 (F (F a 3) 0))) ((G.1 q5 2).toInt) ((G.1 q5 3).toInt) (31 - l5_44.toInt).toNat (l5_44.toInt) (l4_44.toInt))
    (ht5 : 0 ≤ p0.toInt ∧ p0.toInt < 12)
    (c18 : ¬ (((G.1 q5 0).toInt) ≠ (5 : Int)))
    (t30 : (x30.toInt = 1 ∧ (cel (vw (G.2.1 (F (F a 3) 0))) ((G.1 q5 2).toInt) (p1.toInt) 0) ≠ -2000) ∨ (x30.toInt = 0 ∧ (cel (vw (G.2.1 (F (F a 3) 0))) ((G.1 q5 2).toInt) (p1.toInt) 0) = -2000))
    (c33 : x30.toInt ≠ 0)
    (I44_0 : 0 ≤ l5_44.toInt ∧ l5_44.toInt ≤ 31)
    (hm44 : 100 - l5_44.toInt < (((N44) + 1 : Nat) : Int))
    (c48 : ¬ ((30 : Int) < l5_44.toInt))
    (t80 : (x80.toInt = 1 ∧ (cel (vw (G.2.1 (F (F a 3) 0))) ((G.1 q5 2).toInt) (cel (vw (G.2.1 (F (F a 3) 0))) ((G.1 q5 2).toInt) (l4_44.toInt) ((G.1 q5 3).toInt)) 0) ≠ -2000) ∨ (x80.toInt = 0 ∧ (cel (vw (G.2.1 (F (F a 3) 0))) ((G.1 q5 2).toInt) (cel (vw (G.2.1 (F (F a 3) 0))) ((G.1 q5 2).toInt) (l4_44.toInt) ((G.1 q5 3).toInt)) 0) = -2000))
    (c83 : x80.toInt ≠ 0) :
    dpF (vw (G.2.1 (F (F a 3) 0))) ((G.1 q5 2).toInt) ((G.1 q5 3).toInt) 31 0 (p1.toInt) = dpF (vw (G.2.1 (F (F a 3) 0))) ((G.1 q5 2).toInt) ((G.1 q5 3).toInt) (31 - (l5_44.toInt + 1)).toNat (l5_44.toInt + 1) ((cel (vw (G.2.1 (F (F a 3) 0))) ((G.1 q5 2).toInt) (l4_44.toInt) ((G.1 q5 3).toInt))) := by
  have e : (31 - l5_44.toInt).toNat = (31 - (l5_44.toInt + 1)).toNat + 1 := by omega
  rw [e] at dp
  exact dp.trans (dpF_s (by omega))
theorem v_X10_depth_88_7 {K : Nat → Nat} {F : Nat → Nat → Nat} (a : Nat) (q5 : Nat) (G : XG) (p0 : Int32) (p1 : Int32) (l5_44 : Int32) (l4_44 : Int32) (x30 : Int32) (N44 : Nat) (x80 : Int32)
    (ha : K a = 12)
    (hs5 : G.2.2.1 (F (F a 2) 0) (p0.toInt).toNat = some q5)
    (dp : dpF (vw (G.2.1 (F (F a 3) 0))) ((G.1 q5 2).toInt) ((G.1 q5 3).toInt) 31 0 (p1.toInt) = dpF (vw (G.2.1 (F (F a 3) 0))) ((G.1 q5 2).toInt) ((G.1 q5 3).toInt) (31 - l5_44.toInt).toNat (l5_44.toInt) (l4_44.toInt))
    (ht5 : 0 ≤ p0.toInt ∧ p0.toInt < 12)
    (c18 : ¬ (((G.1 q5 0).toInt) ≠ (5 : Int)))
    (t30 : (x30.toInt = 1 ∧ (cel (vw (G.2.1 (F (F a 3) 0))) ((G.1 q5 2).toInt) (p1.toInt) 0) ≠ -2000) ∨ (x30.toInt = 0 ∧ (cel (vw (G.2.1 (F (F a 3) 0))) ((G.1 q5 2).toInt) (p1.toInt) 0) = -2000))
    (c33 : x30.toInt ≠ 0)
    (I44_0 : 0 ≤ l5_44.toInt ∧ l5_44.toInt ≤ 31)
    (hm44 : 100 - l5_44.toInt < (((N44) + 1 : Nat) : Int))
    (c48 : ¬ ((30 : Int) < l5_44.toInt))
    (t80 : (x80.toInt = 1 ∧ (cel (vw (G.2.1 (F (F a 3) 0))) ((G.1 q5 2).toInt) (cel (vw (G.2.1 (F (F a 3) 0))) ((G.1 q5 2).toInt) (l4_44.toInt) ((G.1 q5 3).toInt)) 0) ≠ -2000) ∨ (x80.toInt = 0 ∧ (cel (vw (G.2.1 (F (F a 3) 0))) ((G.1 q5 2).toInt) (cel (vw (G.2.1 (F (F a 3) 0))) ((G.1 q5 2).toInt) (l4_44.toInt) ((G.1 q5 3).toInt)) 0) = -2000))
    (c83 : ¬ (x80.toInt ≠ 0)) :
    (((p0.toInt < 0 ∨ 12 ≤ p0.toInt) ∨ G.2.2.1 (F (F a 2) 0) (p0.toInt).toNat = none) ∧ l5_44.toInt = -1) ∨ (∃ q : Nat, ((0 ≤ p0.toInt ∧ p0.toInt < 12) ∧ G.2.2.1 (F (F a 2) 0) (p0.toInt).toNat = some q) ∧ l5_44.toInt = dpS (vw (G.2.1 (F (F a 3) 0))) (G.1 q 0).toInt (G.1 q 2).toInt (G.1 q 3).toInt p1.toInt) := by
  have e : (31 - l5_44.toInt).toNat = (30 - l5_44.toInt).toNat + 1 := by omega
  rw [e] at dp
  exact Or.inr ⟨q5, ⟨ht5, hs5⟩, ((dpS_i (by omega)).trans (dp.trans (dpF_o (by omega)))).symm⟩
theorem v_X10_depth_42_8 {F : Nat → Nat → Nat} (a : Nat) (q5 : Nat) (G : XG) (p1 : Int32) :
    dpF (vw (G.2.1 (F (F a 3) 0))) ((G.1 q5 2).toInt) ((G.1 q5 3).toInt) 31 0 (p1.toInt) = dpF (vw (G.2.1 (F (F a 3) 0))) ((G.1 q5 2).toInt) ((G.1 q5 3).toInt) (31 - (0 : Int)).toNat (0 : Int) (p1.toInt) := by
  have e : ((31 : Int) - (0 : Int)).toNat = 31 := by decide
  rw [e]
theorem v_X10_depth_37_9 {K : Nat → Nat} {F : Nat → Nat → Nat} (a : Nat) (q5 : Nat) (G : XG) (p0 : Int32) (x30 : Int32) (p1 : Int32)
    (ha : K a = 12)
    (hs5 : G.2.2.1 (F (F a 2) 0) (p0.toInt).toNat = some q5)
    (ht5 : 0 ≤ p0.toInt ∧ p0.toInt < 12)
    (c18 : ¬ (((G.1 q5 0).toInt) ≠ (5 : Int)))
    (t30 : (x30.toInt = 1 ∧ (cel (vw (G.2.1 (F (F a 3) 0))) ((G.1 q5 2).toInt) (p1.toInt) 0) ≠ -2000) ∨ (x30.toInt = 0 ∧ (cel (vw (G.2.1 (F (F a 3) 0))) ((G.1 q5 2).toInt) (p1.toInt) 0) = -2000))
    (c33 : ¬ (x30.toInt ≠ 0)) :
    (((p0.toInt < 0 ∨ 12 ≤ p0.toInt) ∨ G.2.2.1 (F (F a 2) 0) (p0.toInt).toNat = none) ∧ (-1 : Int) = -1) ∨ (∃ q : Nat, ((0 ≤ p0.toInt ∧ p0.toInt < 12) ∧ G.2.2.1 (F (F a 2) 0) (p0.toInt).toNat = some q) ∧ (-1 : Int) = dpS (vw (G.2.1 (F (F a 3) 0))) (G.1 q 0).toInt (G.1 q 2).toInt (G.1 q 3).toInt p1.toInt) := by
  first
    | exact Or.inl ⟨hn5, rfl⟩
    | exact Or.inr ⟨q5, ⟨ht5, hs5⟩, (dpS_n (by omega)).symm⟩
theorem v_X10_changedSince_72_1 {K : Nat → Nat} {F : Nat → Nat → Nat} (a : Nat) (p0 : Nat) (G : XG) (l2_4 : Int32) (l3_4 : Int32) (N4 : Nat)
    (ha : K a = 12)
    (hp0 : K p0 = 8)
    (pc : l2_4.toInt = smS (fun j => chQ G (G.2.2.1 (F (F a 2) 0)) (vw (G.2.1 (F p0 0))) (qtI G F (F a 8) j)) 0 l3_4.toInt)
    (w8 : 0 ≤ ((G.1 (F a 8) 6).toInt) ∧ ((G.1 (F a 8) 6).toInt) ≤ 1080)
    (I4_0 : 0 ≤ l3_4.toInt ∧ l3_4.toInt ≤ ((G.1 (F a 8) 6).toInt))
    (I4_1 : 0 ≤ l2_4.toInt ∧ l2_4.toInt ≤ l3_4.toInt)
    (hm4 : 5000 - l3_4.toInt < (((N4) + 1 : Nat) : Int))
    (c12 : ((G.1 (F a 8) 6).toInt) ≤ l3_4.toInt) :
    l2_4.toInt = smQ (chQ G (G.2.2.1 (F (F a 2) 0)) (vw (G.2.1 (F p0 0)))) (qL G F (F a 8)) := by
  rw [pc, show l3_4.toInt = (G.1 (F a 8) 6).toInt from by omega, smS_qL]
theorem v_X10_changedSince_68_2 {K : Nat → Nat} {F : Nat → Nat → Nat} (a : Nat) (p0 : Nat) (G : XG) (l2_4 : Int32) (l3_4 : Int32) (x24 : Int32) (N4 : Nat)
    (ha : K a = 12)
    (hp0 : K p0 = 8)
    (pc : l2_4.toInt = smS (fun j => chQ G (G.2.2.1 (F (F a 2) 0)) (vw (G.2.1 (F p0 0))) (qtI G F (F a 8) j)) 0 l3_4.toInt)
    (hn27 : (x24.toInt < 0 ∨ 12 ≤ x24.toInt) ∨ G.2.2.1 (F (F a 2) 0) (x24.toInt).toNat = none)
    (w8 : 0 ≤ ((G.1 (F a 8) 6).toInt) ∧ ((G.1 (F a 8) 6).toInt) ≤ 1080)
    (I4_0 : 0 ≤ l3_4.toInt ∧ l3_4.toInt ≤ ((G.1 (F a 8) 6).toInt))
    (I4_1 : 0 ≤ l2_4.toInt ∧ l2_4.toInt ≤ l3_4.toInt)
    (hm4 : 5000 - l3_4.toInt < (((N4) + 1 : Nat) : Int))
    (c12 : ¬ (((G.1 (F a 8) 6).toInt) ≤ l3_4.toInt))
    (t24 : ((0 ≤ l3_4.toInt ∧ l3_4.toInt < ((G.1 (F a 8) 6).toInt) ∧ l3_4.toInt < 1080) ∧ x24.toInt = (aI (G.2.1 (F (F a 8) 0)) (l3_4.toInt))) ∨ (¬ (0 ≤ l3_4.toInt ∧ l3_4.toInt < ((G.1 (F a 8) 6).toInt) ∧ l3_4.toInt < 1080) ∧ x24.toInt = -1)) :
    l2_4.toInt = smS (fun j => chQ G (G.2.2.1 (F (F a 2) 0)) (vw (G.2.1 (F p0 0))) (qtI G F (F a 8) j)) 0 (l3_4.toInt + 1) := by
  have e24 : x24.toInt = aI (G.2.1 (F (F a 8) 0)) l3_4.toInt := by omega
  rw [smS_s (by omega)]
  first
    | (rw [chQ_n (x := qtI G F (F a 8) l3_4.toInt) (z := x24.toInt) e24.symm hn27]; omega)
    | (have e45 : x45.toInt = aI (G.2.1 (F (F a 8) 1)) l3_4.toInt := by omega
       have e56 : x56.toInt = aI (G.2.1 (F (F a 8) 3)) l3_4.toInt := by omega
       have k := chQ_y (G := G) (v := vw (G.2.1 (F p0 0))) (x := qtI G F (F a 8) l3_4.toInt) e24.symm ht27 hs27 e45.symm e56.symm t48
       omega)
theorem v_X10_changedSince_48_3 {F : Nat → Nat → Nat} (p0 : Nat) (G : XG)
    (rox : RO (vw (G.2.1 (F p0 0))) (aI (G.2.1 (F p0 1)))) :
    RO (vw (G.2.1 (F p0 0))) (aI (G.2.1 (F p0 1))) := by exact rox
theorem v_X10_changedSince_48_4 {K : Nat → Nat} {F : Nat → Nat → Nat} (G : XG) (a : Nat) (x24 : Int32) (q27 : Nat) (l3_4 : Int32)
    (bkn : BKr K G (G.2.2.1 (F (F a 2) 0)))
    (hs27 : G.2.2.1 (F (F a 2) 0) (x24.toInt).toNat = some q27)
    (t24 : ((0 ≤ l3_4.toInt ∧ l3_4.toInt < ((G.1 (F a 8) 6).toInt) ∧ l3_4.toInt < 1080) ∧ x24.toInt = (aI (G.2.1 (F (F a 8) 0)) (l3_4.toInt))) ∨ (¬ (0 ≤ l3_4.toInt ∧ l3_4.toInt < ((G.1 (F a 8) 6).toInt) ∧ l3_4.toInt < 1080) ∧ x24.toInt = -1))
    (ht27 : 0 ≤ x24.toInt ∧ x24.toInt < 12) :
    RW (G.1 q27) := by
  exact (bkn x24.toInt.toNat q27 (by omega) hs27).2
theorem v_X10_changedSince_68_5 {K : Nat → Nat} {F : Nat → Nat → Nat} (a : Nat) (p0 : Nat) (q27 : Nat) (G : XG) (l2_4 : Int32) (l3_4 : Int32) (x24 : Int32) (x48 : Int32) (x45 : Int32) (N4 : Nat) (x56 : Int32)
    (ha : K a = 12)
    (hp0 : K p0 = 8)
    (pc : l2_4.toInt = smS (fun j => chQ G (G.2.2.1 (F (F a 2) 0)) (vw (G.2.1 (F p0 0))) (qtI G F (F a 8) j)) 0 l3_4.toInt)
    (hs27 : G.2.2.1 (F (F a 2) 0) (x24.toInt).toNat = some q27)
    (t48 : x48.toInt = (stt (vw (G.2.1 (F p0 0))) ((G.1 q27 0).toInt) ((G.1 q27 2).toInt) ((G.1 q27 3).toInt) ((G.1 q27 4).toInt) (x45.toInt)))
    (w8 : 0 ≤ ((G.1 (F a 8) 6).toInt) ∧ ((G.1 (F a 8) 6).toInt) ≤ 1080)
    (I4_0 : 0 ≤ l3_4.toInt ∧ l3_4.toInt ≤ ((G.1 (F a 8) 6).toInt))
    (I4_1 : 0 ≤ l2_4.toInt ∧ l2_4.toInt ≤ l3_4.toInt)
    (hm4 : 5000 - l3_4.toInt < (((N4) + 1 : Nat) : Int))
    (c12 : ¬ (((G.1 (F a 8) 6).toInt) ≤ l3_4.toInt))
    (t24 : ((0 ≤ l3_4.toInt ∧ l3_4.toInt < ((G.1 (F a 8) 6).toInt) ∧ l3_4.toInt < 1080) ∧ x24.toInt = (aI (G.2.1 (F (F a 8) 0)) (l3_4.toInt))) ∨ (¬ (0 ≤ l3_4.toInt ∧ l3_4.toInt < ((G.1 (F a 8) 6).toInt) ∧ l3_4.toInt < 1080) ∧ x24.toInt = -1))
    (ht27 : 0 ≤ x24.toInt ∧ x24.toInt < 12)
    (t45 : ((0 ≤ l3_4.toInt ∧ l3_4.toInt < ((G.1 (F a 8) 6).toInt) ∧ l3_4.toInt < 1080) ∧ x45.toInt = (aI (G.2.1 (F (F a 8) 1)) (l3_4.toInt))) ∨ (¬ (0 ≤ l3_4.toInt ∧ l3_4.toInt < ((G.1 (F a 8) 6).toInt) ∧ l3_4.toInt < 1080) ∧ x45.toInt = -1))
    (t56 : ((0 ≤ l3_4.toInt ∧ l3_4.toInt < ((G.1 (F a 8) 6).toInt) ∧ l3_4.toInt < 1080) ∧ x56.toInt = (aI (G.2.1 (F (F a 8) 3)) (l3_4.toInt))) ∨ (¬ (0 ≤ l3_4.toInt ∧ l3_4.toInt < ((G.1 (F a 8) 6).toInt) ∧ l3_4.toInt < 1080) ∧ x56.toInt = -2000))
    (c59 : (stt (vw (G.2.1 (F p0 0))) ((G.1 q27 0).toInt) ((G.1 q27 2).toInt) ((G.1 q27 3).toInt) ((G.1 q27 4).toInt) (x45.toInt)) = x56.toInt) :
    l2_4.toInt = smS (fun j => chQ G (G.2.2.1 (F (F a 2) 0)) (vw (G.2.1 (F p0 0))) (qtI G F (F a 8) j)) 0 (l3_4.toInt + 1) := by
  have e24 : x24.toInt = aI (G.2.1 (F (F a 8) 0)) l3_4.toInt := by omega
  rw [smS_s (by omega)]
  first
    | (rw [chQ_n (x := qtI G F (F a 8) l3_4.toInt) (z := x24.toInt) e24.symm hn27]; omega)
    | (have e45 : x45.toInt = aI (G.2.1 (F (F a 8) 1)) l3_4.toInt := by omega
       have e56 : x56.toInt = aI (G.2.1 (F (F a 8) 3)) l3_4.toInt := by omega
       have k := chQ_y (G := G) (v := vw (G.2.1 (F p0 0))) (x := qtI G F (F a 8) l3_4.toInt) e24.symm ht27 hs27 e45.symm e56.symm t48
       omega)
theorem v_X10_changedSince_68_6 {K : Nat → Nat} {F : Nat → Nat → Nat} (a : Nat) (p0 : Nat) (q27 : Nat) (G : XG) (l2_4 : Int32) (l3_4 : Int32) (x24 : Int32) (x48 : Int32) (x45 : Int32) (N4 : Nat) (x56 : Int32)
    (ha : K a = 12)
    (hp0 : K p0 = 8)
    (pc : l2_4.toInt = smS (fun j => chQ G (G.2.2.1 (F (F a 2) 0)) (vw (G.2.1 (F p0 0))) (qtI G F (F a 8) j)) 0 l3_4.toInt)
    (hs27 : G.2.2.1 (F (F a 2) 0) (x24.toInt).toNat = some q27)
    (t48 : x48.toInt = (stt (vw (G.2.1 (F p0 0))) ((G.1 q27 0).toInt) ((G.1 q27 2).toInt) ((G.1 q27 3).toInt) ((G.1 q27 4).toInt) (x45.toInt)))
    (w8 : 0 ≤ ((G.1 (F a 8) 6).toInt) ∧ ((G.1 (F a 8) 6).toInt) ≤ 1080)
    (I4_0 : 0 ≤ l3_4.toInt ∧ l3_4.toInt ≤ ((G.1 (F a 8) 6).toInt))
    (I4_1 : 0 ≤ l2_4.toInt ∧ l2_4.toInt ≤ l3_4.toInt)
    (hm4 : 5000 - l3_4.toInt < (((N4) + 1 : Nat) : Int))
    (c12 : ¬ (((G.1 (F a 8) 6).toInt) ≤ l3_4.toInt))
    (t24 : ((0 ≤ l3_4.toInt ∧ l3_4.toInt < ((G.1 (F a 8) 6).toInt) ∧ l3_4.toInt < 1080) ∧ x24.toInt = (aI (G.2.1 (F (F a 8) 0)) (l3_4.toInt))) ∨ (¬ (0 ≤ l3_4.toInt ∧ l3_4.toInt < ((G.1 (F a 8) 6).toInt) ∧ l3_4.toInt < 1080) ∧ x24.toInt = -1))
    (ht27 : 0 ≤ x24.toInt ∧ x24.toInt < 12)
    (t45 : ((0 ≤ l3_4.toInt ∧ l3_4.toInt < ((G.1 (F a 8) 6).toInt) ∧ l3_4.toInt < 1080) ∧ x45.toInt = (aI (G.2.1 (F (F a 8) 1)) (l3_4.toInt))) ∨ (¬ (0 ≤ l3_4.toInt ∧ l3_4.toInt < ((G.1 (F a 8) 6).toInt) ∧ l3_4.toInt < 1080) ∧ x45.toInt = -1))
    (t56 : ((0 ≤ l3_4.toInt ∧ l3_4.toInt < ((G.1 (F a 8) 6).toInt) ∧ l3_4.toInt < 1080) ∧ x56.toInt = (aI (G.2.1 (F (F a 8) 3)) (l3_4.toInt))) ∨ (¬ (0 ≤ l3_4.toInt ∧ l3_4.toInt < ((G.1 (F a 8) 6).toInt) ∧ l3_4.toInt < 1080) ∧ x56.toInt = -2000))
    (c59 : ¬ ((stt (vw (G.2.1 (F p0 0))) ((G.1 q27 0).toInt) ((G.1 q27 2).toInt) ((G.1 q27 3).toInt) ((G.1 q27 4).toInt) (x45.toInt)) = x56.toInt)) :
    (l2_4.toInt + 1) = smS (fun j => chQ G (G.2.2.1 (F (F a 2) 0)) (vw (G.2.1 (F p0 0))) (qtI G F (F a 8) j)) 0 (l3_4.toInt + 1) := by
  have e24 : x24.toInt = aI (G.2.1 (F (F a 8) 0)) l3_4.toInt := by omega
  rw [smS_s (by omega)]
  first
    | (rw [chQ_n (x := qtI G F (F a 8) l3_4.toInt) (z := x24.toInt) e24.symm hn27]; omega)
    | (have e45 : x45.toInt = aI (G.2.1 (F (F a 8) 1)) l3_4.toInt := by omega
       have e56 : x56.toInt = aI (G.2.1 (F (F a 8) 3)) l3_4.toInt := by omega
       have k := chQ_y (G := G) (v := vw (G.2.1 (F p0 0))) (x := qtI G F (F a 8) l3_4.toInt) e24.symm ht27 hs27 e45.symm e56.symm t48
       omega)
theorem v_X10_changedSince_3_7 {F : Nat → Nat → Nat} (a : Nat) (p0 : Nat) (G : XG) :
    (0 : Int) = smS (fun j => chQ G (G.2.2.1 (F (F a 2) 0)) (vw (G.2.1 (F p0 0))) (qtI G F (F a 8) j)) 0 (0 : Int) := by
  exact (smS_0 _ _).symm
theorem v_X10_settledSince_11_1 {F : Nat → Nat → Nat} (a : Nat) (G : XG)
    (rob : RO (vw (G.2.1 (F (F a 4) 0))) (aI (G.2.1 (F (F a 4) 1)))) :
    RO (vw (G.2.1 (F (F a 4) 0))) (aI (G.2.1 (F (F a 4) 1))) := by exact rob
theorem v_X10_settledSince_11_2 {F : Nat → Nat → Nat} (p0 : Nat) (G : XG)
    (rox : RO (vw (G.2.1 (F p0 0))) (aI (G.2.1 (F p0 1)))) :
    RO (vw (G.2.1 (F p0 0))) (aI (G.2.1 (F p0 1))) := by exact rox
theorem v_X10_settledSince_11_3 {K : Nat → Nat} {F : Nat → Nat → Nat} (G : XG) (a : Nat)
    (bko : BKr K G (G.2.2.1 (F (F a 2) 1))) :
    ∀ (i q : Nat), i < 12 → G.2.2.1 (F (F a 2) 1) i = some q → RW (G.1 q) := by
  exact bko.rw
theorem v_X10_settledSince_11_4 {K : Nat → Nat} {F : Nat → Nat → Nat} (a : Nat) (p0 : Nat) (G : XG)
    (ha : K a = 12)
    (hp0 : K p0 = 8)
    (hk9999 : K (F a 11) = 3)
    (hj9999 : F (F a 11) 99 = 0)
    (hk9999a : K (F a 9) = 6)
    (hj9999a : F (F a 9) 99 = 1)
    (hk9999b : K (F (F a 11) 0) = 21)
    (hj9999b : F (F (F a 11) 0) 99 = 100)
    (hk9999c : K (F (F a 11) 1) = 21)
    (hj9999c : F (F (F a 11) 1) 99 = 101)
    (hk9999d : K (F (F a 11) 2) = 24)
    (hj9999d : F (F (F a 11) 2) 99 = 4)
    (hk9999e : K (F (F a 9) 0) = 22)
    (hj9999f : F (F (F a 9) 0) 99 = 10 * 1 + 0)
    (hk9999f : K (F (F a 9) 1) = 22)
    (hj9999h : F (F (F a 9) 1) 99 = 10 * 1 + 1)
    (hk9999g : K (F (F a 9) 2) = 22)
    (hj9999j : F (F (F a 9) 2) 99 = 10 * 1 + 2)
    (hk9999h : K (F (F a 9) 3) = 22)
    (hj9999l : F (F (F a 9) 3) 99 = 10 * 1 + 3)
    (hk9999i : K (F (F a 9) 4) = 23)
    (hj9999n : F (F (F a 9) 4) 99 = 10 * 1 + 4)
    (hk9999j : K (F (F a 9) 5) = 23)
    (hj9999p : F (F (F a 9) 5) 99 = 10 * 1 + 5)
    (hk9999k : K (F a 2) = 2)
    (hj9999q : F (F a 2) 99 = 0)
    (hk9999l : K (F (F a 2) 0) = 15)
    (hj9999r : F (F (F a 2) 0) 99 = 0)
    (hk9999m : K (F (F a 2) 1) = 15)
    (hj9999s : F (F (F a 2) 1) 99 = 1)
    (hk9999n : K (F p0 0) = 20)
    (hj9999t : F (F p0 0) 99 = F p0 99)
    (hk9999o : K (F p0 1) = 21)
    (hj9999u : F (F p0 1) 99 = F p0 99)
    (hk9999p : K (F a 4) = 8)
    (hj9999v : F (F a 4) 99 = 1)
    (hk9999q : K (F (F a 4) 0) = 20)
    (hj9999y : F (F (F a 4) 0) 99 = 1)
    (hk9999r : K (F (F a 4) 1) = 21)
    (hj9999z26 : F (F (F a 4) 1) 99 = 1)
    (hk9999s : K (F a 3) = 8)
    (hj9999z27 : F (F a 3) 99 = 0)
    (hk9999t : K (F (F a 3) 0) = 20)
    (hj9999z29 : F (F (F a 3) 0) 99 = 0)
    (hk9999u : K (F (F a 3) 1) = 21)
    (hj9999z31 : F (F (F a 3) 1) 99 = 0)
    (rox : RO (vw (G.2.1 (F p0 0))) (aI (G.2.1 (F p0 1))))
    (j0 : F p0 99 < 12)
    (rob : RO (vw (G.2.1 (F (F a 4) 0))) (aI (G.2.1 (F (F a 4) 1))))
    (ron : RO (vw (G.2.1 (F (F a 3) 0))) (aI (G.2.1 (F (F a 3) 1))))
    (bko : BKr K G (G.2.2.1 (F (F a 2) 1)))
    (bkn : BKr K G (G.2.2.1 (F (F a 2) 0)))
    (sb : 0 ≤ ((G.1 (F a 2) 2).toInt) ∧ ((G.1 (F a 2) 2).toInt) ≤ 12) :
    F (F a 4) 99 < 12 := by
  first | assumption | omega
theorem v_X10_settledSince_11_5 {F : Nat → Nat → Nat} (p0 : Nat)
    (j0 : F p0 99 < 12) :
    F p0 99 < 12 := by exact j0
theorem v_X10_settledSince_89_6 {K : Nat → Nat} {F : Nat → Nat → Nat} (a : Nat) (p0 : Nat) (G : XG) (G11 : XG) (l2_18 : Int32) (l3_18 : Int32) (N18 : Nat)
    (ha : K a = 12)
    (hp0 : K p0 = 8)
    (j0 : F p0 99 < 12)
    (oq11 : qL G11 F (F a 9) = gaL G (G.2.2.1 (F (F a 2) 1)) (vw (G.2.1 (F (F a 4) 0))) (vw (G.2.1 (F p0 0))) (1 : Int) (((G.1 (F a 2) 2).toInt)).toNat)
    (pc : l2_18.toInt = smS (fun j => seQ G (G.2.2.1 (F (F a 2) 0)) (vw (G.2.1 (F (F a 3) 0))) (qtI G11 F (F a 9) j)) 0 l3_18.toInt)
    (sb : 0 ≤ ((G.1 (F a 2) 2).toInt) ∧ ((G.1 (F a 2) 2).toInt) ≤ 12)
    (t11 : 0 ≤ ((G11.1 (F a 9) 6).toInt) ∧ ((G11.1 (F a 9) 6).toInt) ≤ 1080)
    (I18_0 : 0 ≤ l3_18.toInt ∧ l3_18.toInt ≤ ((G11.1 (F a 9) 6).toInt))
    (I18_1 : 0 ≤ l2_18.toInt ∧ l2_18.toInt ≤ l3_18.toInt)
    (hm18 : 5000 - l3_18.toInt < (((N18) + 1 : Nat) : Int))
    (c26 : ((G11.1 (F a 9) 6).toInt) ≤ l3_18.toInt) :
    l2_18.toInt = smQ (seQ G (G.2.2.1 (F (F a 2) 0)) (vw (G.2.1 (F (F a 3) 0)))) (gaL G (G.2.2.1 (F (F a 2) 1)) (vw (G.2.1 (F (F a 4) 0))) (vw (G.2.1 (F p0 0))) 1 (((G.1 (F a 2) 2).toInt)).toNat) := by
  rw [pc, show l3_18.toInt = (G11.1 (F a 9) 6).toInt from by omega, smS_qL, oq11]
theorem v_X10_settledSince_85_7 {K : Nat → Nat} {F : Nat → Nat → Nat} (a : Nat) (p0 : Nat) (G : XG) (G11 : XG) (l2_18 : Int32) (l3_18 : Int32) (x38 : Int32) (N18 : Nat)
    (ha : K a = 12)
    (hp0 : K p0 = 8)
    (j0 : F p0 99 < 12)
    (pc : l2_18.toInt = smS (fun j => seQ G (G.2.2.1 (F (F a 2) 0)) (vw (G.2.1 (F (F a 3) 0))) (qtI G11 F (F a 9) j)) 0 l3_18.toInt)
    (hn41 : (x38.toInt < 0 ∨ 12 ≤ x38.toInt) ∨ G11.2.2.1 (F (F a 2) 0) (x38.toInt).toNat = none)
    (sb : 0 ≤ ((G.1 (F a 2) 2).toInt) ∧ ((G.1 (F a 2) 2).toInt) ≤ 12)
    (t11 : 0 ≤ ((G11.1 (F a 9) 6).toInt) ∧ ((G11.1 (F a 9) 6).toInt) ≤ 1080)
    (I18_0 : 0 ≤ l3_18.toInt ∧ l3_18.toInt ≤ ((G11.1 (F a 9) 6).toInt))
    (I18_1 : 0 ≤ l2_18.toInt ∧ l2_18.toInt ≤ l3_18.toInt)
    (hm18 : 5000 - l3_18.toInt < (((N18) + 1 : Nat) : Int))
    (c26 : ¬ (((G11.1 (F a 9) 6).toInt) ≤ l3_18.toInt))
    (t38 : ((0 ≤ l3_18.toInt ∧ l3_18.toInt < ((G11.1 (F a 9) 6).toInt) ∧ l3_18.toInt < 1080) ∧ x38.toInt = (aI (G11.2.1 (F (F a 9) 0)) (l3_18.toInt))) ∨ (¬ (0 ≤ l3_18.toInt ∧ l3_18.toInt < ((G11.1 (F a 9) 6).toInt) ∧ l3_18.toInt < 1080) ∧ x38.toInt = -1))
    (r_G11_F_F_a_2_0 : G11.2.2.1 (F (F a 2) 0) = G.2.2.1 (F (F a 2) 0)) :
    l2_18.toInt = smS (fun j => seQ G (G.2.2.1 (F (F a 2) 0)) (vw (G.2.1 (F (F a 3) 0))) (qtI G11 F (F a 9) j)) 0 (l3_18.toInt + 1) := by
  have e38 : x38.toInt = aI (G11.2.1 (F (F a 9) 0)) l3_18.toInt := by omega
  rw [smS_s (by omega)]
  first
    | (rw [r_G11_F_F_a_2_0] at hn41
       rw [seQ_n (x := qtI G11 F (F a 9) l3_18.toInt) (z := x38.toInt) e38.symm hn41]; omega)
    | (rw [r_G11_F_F_a_2_0] at hs41
       have e62 : x62.toInt = aI (G11.2.1 (F (F a 9) 1)) l3_18.toInt := by omega
       have eB : x73.toInt = aI (G11.2.1 (F (F a 9) 2)) l3_18.toInt := by omega
       have k := seQ_y (G := G) (v := vw (G.2.1 (F (F a 3) 0))) (x := qtI G11 F (F a 9) l3_18.toInt) e38.symm ht41 hs41 e62.symm eB.symm t65
       omega)
theorem v_X10_settledSince_65_8 {F : Nat → Nat → Nat} (a : Nat) (p0 : Nat) (G : XG) (G11 : XG)
    (rox : RO (vw (G.2.1 (F p0 0))) (aI (G.2.1 (F p0 1))))
    (rob : RO (vw (G.2.1 (F (F a 4) 0))) (aI (G.2.1 (F (F a 4) 1))))
    (ron : RO (vw (G.2.1 (F (F a 3) 0))) (aI (G.2.1 (F (F a 3) 1))))
    (c_G11_F_F_a_3_0 : G11.2.1 (F (F a 3) 0) = G.2.1 (F (F a 3) 0))
    (c_G11_F_F_a_3_1 : G11.2.1 (F (F a 3) 1) = G.2.1 (F (F a 3) 1)) :
    RO (vw (G11.2.1 (F (F a 3) 0))) (aI (G11.2.1 (F (F a 3) 1))) := by simp only [c_G11_F_F_a_3_0, c_G11_F_F_a_3_1]; assumption
theorem v_X10_settledSince_65_9 {K : Nat → Nat} {F : Nat → Nat → Nat} (G : XG) (a : Nat) (G11 : XG) (x38 : Int32) (q41 : Nat)
    (bkn : BKr K G (G.2.2.1 (F (F a 2) 0)))
    (hs41 : G11.2.2.1 (F (F a 2) 0) (x38.toInt).toNat = some q41)
    (ht41 : 0 ≤ x38.toInt ∧ x38.toInt < 12)
    (r_G11_F_F_a_2_0 : G11.2.2.1 (F (F a 2) 0) = G.2.2.1 (F (F a 2) 0))
    (D_G11_q41 : G11.1 q41 = G.1 q41) :
    RW (G11.1 q41) := by
  rw [D_G11_q41]
  exact (bkn x38.toInt.toNat q41 (by omega) (by rw [← r_G11_F_F_a_2_0]; exact hs41)).2
theorem v_X10_settledSince_85_10 {K : Nat → Nat} {F : Nat → Nat → Nat} (a : Nat) (p0 : Nat) (q41 : Nat) (G : XG) (G11 : XG) (l2_18 : Int32) (l3_18 : Int32) (x38 : Int32) (x65 : Int32) (x62 : Int32) (N18 : Nat) (x73 : Int32)
    (ha : K a = 12)
    (hp0 : K p0 = 8)
    (j0 : F p0 99 < 12)
    (pc : l2_18.toInt = smS (fun j => seQ G (G.2.2.1 (F (F a 2) 0)) (vw (G.2.1 (F (F a 3) 0))) (qtI G11 F (F a 9) j)) 0 l3_18.toInt)
    (hs41 : G11.2.2.1 (F (F a 2) 0) (x38.toInt).toNat = some q41)
    (t65 : x65.toInt = (stt (vw (G.2.1 (F (F a 3) 0))) ((G.1 q41 0).toInt) ((G.1 q41 2).toInt) ((G.1 q41 3).toInt) ((G.1 q41 4).toInt) (x62.toInt)))
    (sb : 0 ≤ ((G.1 (F a 2) 2).toInt) ∧ ((G.1 (F a 2) 2).toInt) ≤ 12)
    (t11 : 0 ≤ ((G11.1 (F a 9) 6).toInt) ∧ ((G11.1 (F a 9) 6).toInt) ≤ 1080)
    (I18_0 : 0 ≤ l3_18.toInt ∧ l3_18.toInt ≤ ((G11.1 (F a 9) 6).toInt))
    (I18_1 : 0 ≤ l2_18.toInt ∧ l2_18.toInt ≤ l3_18.toInt)
    (hm18 : 5000 - l3_18.toInt < (((N18) + 1 : Nat) : Int))
    (c26 : ¬ (((G11.1 (F a 9) 6).toInt) ≤ l3_18.toInt))
    (t38 : ((0 ≤ l3_18.toInt ∧ l3_18.toInt < ((G11.1 (F a 9) 6).toInt) ∧ l3_18.toInt < 1080) ∧ x38.toInt = (aI (G11.2.1 (F (F a 9) 0)) (l3_18.toInt))) ∨ (¬ (0 ≤ l3_18.toInt ∧ l3_18.toInt < ((G11.1 (F a 9) 6).toInt) ∧ l3_18.toInt < 1080) ∧ x38.toInt = -1))
    (ht41 : 0 ≤ x38.toInt ∧ x38.toInt < 12)
    (t62 : ((0 ≤ l3_18.toInt ∧ l3_18.toInt < ((G11.1 (F a 9) 6).toInt) ∧ l3_18.toInt < 1080) ∧ x62.toInt = (aI (G11.2.1 (F (F a 9) 1)) (l3_18.toInt))) ∨ (¬ (0 ≤ l3_18.toInt ∧ l3_18.toInt < ((G11.1 (F a 9) 6).toInt) ∧ l3_18.toInt < 1080) ∧ x62.toInt = -1))
    (t73 : ((0 ≤ l3_18.toInt ∧ l3_18.toInt < ((G11.1 (F a 9) 6).toInt) ∧ l3_18.toInt < 1080) ∧ x73.toInt = (aI (G11.2.1 (F (F a 9) 2)) (l3_18.toInt))) ∨ (¬ (0 ≤ l3_18.toInt ∧ l3_18.toInt < ((G11.1 (F a 9) 6).toInt) ∧ l3_18.toInt < 1080) ∧ x73.toInt = -2000))
    (c76 : (stt (vw (G.2.1 (F (F a 3) 0))) ((G.1 q41 0).toInt) ((G.1 q41 2).toInt) ((G.1 q41 3).toInt) ((G.1 q41 4).toInt) (x62.toInt)) ≠ x73.toInt)
    (r_G11_F_F_a_2_0 : G11.2.2.1 (F (F a 2) 0) = G.2.2.1 (F (F a 2) 0)) :
    l2_18.toInt = smS (fun j => seQ G (G.2.2.1 (F (F a 2) 0)) (vw (G.2.1 (F (F a 3) 0))) (qtI G11 F (F a 9) j)) 0 (l3_18.toInt + 1) := by
  have e38 : x38.toInt = aI (G11.2.1 (F (F a 9) 0)) l3_18.toInt := by omega
  rw [smS_s (by omega)]
  first
    | (rw [r_G11_F_F_a_2_0] at hn41
       rw [seQ_n (x := qtI G11 F (F a 9) l3_18.toInt) (z := x38.toInt) e38.symm hn41]; omega)
    | (rw [r_G11_F_F_a_2_0] at hs41
       have e62 : x62.toInt = aI (G11.2.1 (F (F a 9) 1)) l3_18.toInt := by omega
       have eB : x73.toInt = aI (G11.2.1 (F (F a 9) 2)) l3_18.toInt := by omega
       have k := seQ_y (G := G) (v := vw (G.2.1 (F (F a 3) 0))) (x := qtI G11 F (F a 9) l3_18.toInt) e38.symm ht41 hs41 e62.symm eB.symm t65
       omega)
theorem v_X10_settledSince_85_11 {K : Nat → Nat} {F : Nat → Nat → Nat} (a : Nat) (p0 : Nat) (q41 : Nat) (G : XG) (G11 : XG) (l2_18 : Int32) (l3_18 : Int32) (x38 : Int32) (x65 : Int32) (x62 : Int32) (N18 : Nat) (x73 : Int32)
    (ha : K a = 12)
    (hp0 : K p0 = 8)
    (j0 : F p0 99 < 12)
    (pc : l2_18.toInt = smS (fun j => seQ G (G.2.2.1 (F (F a 2) 0)) (vw (G.2.1 (F (F a 3) 0))) (qtI G11 F (F a 9) j)) 0 l3_18.toInt)
    (hs41 : G11.2.2.1 (F (F a 2) 0) (x38.toInt).toNat = some q41)
    (t65 : x65.toInt = (stt (vw (G.2.1 (F (F a 3) 0))) ((G.1 q41 0).toInt) ((G.1 q41 2).toInt) ((G.1 q41 3).toInt) ((G.1 q41 4).toInt) (x62.toInt)))
    (sb : 0 ≤ ((G.1 (F a 2) 2).toInt) ∧ ((G.1 (F a 2) 2).toInt) ≤ 12)
    (t11 : 0 ≤ ((G11.1 (F a 9) 6).toInt) ∧ ((G11.1 (F a 9) 6).toInt) ≤ 1080)
    (I18_0 : 0 ≤ l3_18.toInt ∧ l3_18.toInt ≤ ((G11.1 (F a 9) 6).toInt))
    (I18_1 : 0 ≤ l2_18.toInt ∧ l2_18.toInt ≤ l3_18.toInt)
    (hm18 : 5000 - l3_18.toInt < (((N18) + 1 : Nat) : Int))
    (c26 : ¬ (((G11.1 (F a 9) 6).toInt) ≤ l3_18.toInt))
    (t38 : ((0 ≤ l3_18.toInt ∧ l3_18.toInt < ((G11.1 (F a 9) 6).toInt) ∧ l3_18.toInt < 1080) ∧ x38.toInt = (aI (G11.2.1 (F (F a 9) 0)) (l3_18.toInt))) ∨ (¬ (0 ≤ l3_18.toInt ∧ l3_18.toInt < ((G11.1 (F a 9) 6).toInt) ∧ l3_18.toInt < 1080) ∧ x38.toInt = -1))
    (ht41 : 0 ≤ x38.toInt ∧ x38.toInt < 12)
    (t62 : ((0 ≤ l3_18.toInt ∧ l3_18.toInt < ((G11.1 (F a 9) 6).toInt) ∧ l3_18.toInt < 1080) ∧ x62.toInt = (aI (G11.2.1 (F (F a 9) 1)) (l3_18.toInt))) ∨ (¬ (0 ≤ l3_18.toInt ∧ l3_18.toInt < ((G11.1 (F a 9) 6).toInt) ∧ l3_18.toInt < 1080) ∧ x62.toInt = -1))
    (t73 : ((0 ≤ l3_18.toInt ∧ l3_18.toInt < ((G11.1 (F a 9) 6).toInt) ∧ l3_18.toInt < 1080) ∧ x73.toInt = (aI (G11.2.1 (F (F a 9) 2)) (l3_18.toInt))) ∨ (¬ (0 ≤ l3_18.toInt ∧ l3_18.toInt < ((G11.1 (F a 9) 6).toInt) ∧ l3_18.toInt < 1080) ∧ x73.toInt = -2000))
    (c76 : ¬ ((stt (vw (G.2.1 (F (F a 3) 0))) ((G.1 q41 0).toInt) ((G.1 q41 2).toInt) ((G.1 q41 3).toInt) ((G.1 q41 4).toInt) (x62.toInt)) ≠ x73.toInt))
    (r_G11_F_F_a_2_0 : G11.2.2.1 (F (F a 2) 0) = G.2.2.1 (F (F a 2) 0)) :
    (l2_18.toInt + 1) = smS (fun j => seQ G (G.2.2.1 (F (F a 2) 0)) (vw (G.2.1 (F (F a 3) 0))) (qtI G11 F (F a 9) j)) 0 (l3_18.toInt + 1) := by
  have e38 : x38.toInt = aI (G11.2.1 (F (F a 9) 0)) l3_18.toInt := by omega
  rw [smS_s (by omega)]
  first
    | (rw [r_G11_F_F_a_2_0] at hn41
       rw [seQ_n (x := qtI G11 F (F a 9) l3_18.toInt) (z := x38.toInt) e38.symm hn41]; omega)
    | (rw [r_G11_F_F_a_2_0] at hs41
       have e62 : x62.toInt = aI (G11.2.1 (F (F a 9) 1)) l3_18.toInt := by omega
       have eB : x73.toInt = aI (G11.2.1 (F (F a 9) 2)) l3_18.toInt := by omega
       have k := seQ_y (G := G) (v := vw (G.2.1 (F (F a 3) 0))) (x := qtI G11 F (F a 9) l3_18.toInt) e38.symm ht41 hs41 e62.symm eB.symm t65
       omega)
theorem v_X10_settledSince_17_12 {F : Nat → Nat → Nat} (a : Nat) (G : XG) (G11 : XG) :
    (0 : Int) = smS (fun j => seQ G (G.2.2.1 (F (F a 2) 0)) (vw (G.2.1 (F (F a 3) 0))) (qtI G11 F (F a 9) j)) 0 (0 : Int) := by
  exact (smS_0 _ _).symm
theorem v_X10_fresh_11_1 {F : Nat → Nat → Nat} (a : Nat) (G : XG) (p0 : Int32) (p1 : Int32)
    (hn2 : p0.toInt < 0 ∨ ((G.1 a 17).toInt) ≤ p0.toInt ∨ 8 ≤ p0.toInt) :
    (((p0.toInt < 0 ∨ ((G.1 a 17).toInt) ≤ p0.toInt ∨ 8 ≤ p0.toInt) ∨ p1.toInt < 0 ∨ 1 < p1.toInt) ∧ (-1 : Int) = -1) ∨ (∃ q : Nat, (0 ≤ p0.toInt ∧ p0.toInt < ((G.1 a 17).toInt) ∧ p0.toInt < 8) ∧ G.2.2.1 (F a 7) (p0.toInt).toNat = some q ∧ ((p1.toInt = 0 ∧ (-1 : Int) = smQ (chQ G (G.2.2.1 (F (F a 2) 0)) (vw (G.2.1 (F q 0)))) (qL G F (F a 8))) ∨ (p1.toInt = 1 ∧ (-1 : Int) = smQ (seQ G (G.2.2.1 (F (F a 2) 0)) (vw (G.2.1 (F (F a 3) 0)))) (gaL G (G.2.2.1 (F (F a 2) 1)) (vw (G.2.1 (F (F a 4) 0))) (vw (G.2.1 (F q 0))) 1 (((G.1 (F a 2) 2).toInt)).toNat)))) := by
  exact Or.inl ⟨Or.inl hn2, rfl⟩
theorem v_X10_fresh_53_2 {K : Nat → Nat} {F : Nat → Nat → Nat} (a : Nat) (q2 : Nat) (p0 : Int32) (G : XG) (p1 : Int32)
    (ha : K a = 12)
    (f46 : F q2 99 = 4 + (p0.toInt).toNat)
    (hs2 : F q2 99 = 4 + (p0.toInt).toNat ∧ G.2.2.1 (F a 7) (p0.toInt).toNat = some q2)
    (sb : 0 ≤ ((G.1 (F a 2) 2).toInt) ∧ ((G.1 (F a 2) 2).toInt) ≤ 12)
    (w8 : 0 ≤ ((G.1 (F a 8) 6).toInt) ∧ ((G.1 (F a 8) 6).toInt) ≤ 1080)
    (ht2 : 0 ≤ p0.toInt ∧ p0.toInt < ((G.1 a 17).toInt) ∧ p0.toInt < 8)
    (c13 : ¬ p1.toInt = 0 ∧ ¬ p1.toInt = 1) :
    (((p0.toInt < 0 ∨ ((G.1 a 17).toInt) ≤ p0.toInt ∨ 8 ≤ p0.toInt) ∨ p1.toInt < 0 ∨ 1 < p1.toInt) ∧ (-1 : Int) = -1) ∨ (∃ q : Nat, (0 ≤ p0.toInt ∧ p0.toInt < ((G.1 a 17).toInt) ∧ p0.toInt < 8) ∧ G.2.2.1 (F a 7) (p0.toInt).toNat = some q ∧ ((p1.toInt = 0 ∧ (-1 : Int) = smQ (chQ G (G.2.2.1 (F (F a 2) 0)) (vw (G.2.1 (F q 0)))) (qL G F (F a 8))) ∨ (p1.toInt = 1 ∧ (-1 : Int) = smQ (seQ G (G.2.2.1 (F (F a 2) 0)) (vw (G.2.1 (F (F a 3) 0)))) (gaL G (G.2.2.1 (F (F a 2) 1)) (vw (G.2.1 (F (F a 4) 0))) (vw (G.2.1 (F q 0))) 1 (((G.1 (F a 2) 2).toInt)).toNat)))) := by
  exact Or.inl ⟨Or.inr (by omega), rfl⟩
theorem v_X10_fresh_42_3 {F : Nat → Nat → Nat} (G : XG) (a : Nat) (q2 : Nat) (p0 : Int32)
    (rok : ∀ (i q : Nat), i < 8 → G.2.2.1 (F a 7) i = some q → RO (vw (G.2.1 (F q 0))) (aI (G.2.1 (F q 1))))
    (hs2 : F q2 99 = 4 + (p0.toInt).toNat ∧ G.2.2.1 (F a 7) (p0.toInt).toNat = some q2)
    (ht2 : 0 ≤ p0.toInt ∧ p0.toInt < ((G.1 a 17).toInt) ∧ p0.toInt < 8) :
    RO (vw (G.2.1 (F q2 0))) (aI (G.2.1 (F q2 1))) := by
  exact rok p0.toInt.toNat q2 (by omega) hs2.2
theorem v_X10_fresh_42_4 {K : Nat → Nat} {F : Nat → Nat → Nat} (a : Nat) (G : XG)
    (bkn : BKr K G (G.2.2.1 (F (F a 2) 0))) :
    BKr K G (G.2.2.1 (F (F a 2) 0)) := by exact bkn
theorem v_X10_fresh_45_5 {F : Nat → Nat → Nat} (a : Nat) (q2 : Nat) (p0 : Int32) (G : XG) (x42 : Int32) (p1 : Int32)
    (hs2 : F q2 99 = 4 + (p0.toInt).toNat ∧ G.2.2.1 (F a 7) (p0.toInt).toNat = some q2)
    (oq42 : x42.toInt = smQ (chQ G (G.2.2.1 (F (F a 2) 0)) (vw (G.2.1 (F q2 0)))) (qL G F (F a 8)))
    (ht2 : 0 ≤ p0.toInt ∧ p0.toInt < ((G.1 a 17).toInt) ∧ p0.toInt < 8)
    (c13 : p1.toInt = 0) :
    (((p0.toInt < 0 ∨ ((G.1 a 17).toInt) ≤ p0.toInt ∨ 8 ≤ p0.toInt) ∨ p1.toInt < 0 ∨ 1 < p1.toInt) ∧ x42.toInt = -1) ∨ (∃ q : Nat, (0 ≤ p0.toInt ∧ p0.toInt < ((G.1 a 17).toInt) ∧ p0.toInt < 8) ∧ G.2.2.1 (F a 7) (p0.toInt).toNat = some q ∧ ((p1.toInt = 0 ∧ x42.toInt = smQ (chQ G (G.2.2.1 (F (F a 2) 0)) (vw (G.2.1 (F q 0)))) (qL G F (F a 8))) ∨ (p1.toInt = 1 ∧ x42.toInt = smQ (seQ G (G.2.2.1 (F (F a 2) 0)) (vw (G.2.1 (F (F a 3) 0)))) (gaL G (G.2.2.1 (F (F a 2) 1)) (vw (G.2.1 (F (F a 4) 0))) (vw (G.2.1 (F q 0))) 1 (((G.1 (F a 2) 2).toInt)).toNat)))) := by
  exact Or.inr ⟨q2, ht2, hs2.2, Or.inl ⟨c13, oq42⟩⟩
theorem v_X10_fresh_48_6 {F : Nat → Nat → Nat} (G : XG) (a : Nat) (q2 : Nat) (p0 : Int32)
    (rok : ∀ (i q : Nat), i < 8 → G.2.2.1 (F a 7) i = some q → RO (vw (G.2.1 (F q 0))) (aI (G.2.1 (F q 1))))
    (hs2 : F q2 99 = 4 + (p0.toInt).toNat ∧ G.2.2.1 (F a 7) (p0.toInt).toNat = some q2)
    (ht2 : 0 ≤ p0.toInt ∧ p0.toInt < ((G.1 a 17).toInt) ∧ p0.toInt < 8) :
    RO (vw (G.2.1 (F q2 0))) (aI (G.2.1 (F q2 1))) := by
  exact rok p0.toInt.toNat q2 (by omega) hs2.2
theorem v_X10_fresh_48_7 {F : Nat → Nat → Nat} (q2 : Nat) (p0 : Int32) (G : XG) (a : Nat)
    (hs2 : F q2 99 = 4 + (p0.toInt).toNat ∧ G.2.2.1 (F a 7) (p0.toInt).toNat = some q2)
    (ht2 : 0 ≤ p0.toInt ∧ p0.toInt < ((G.1 a 17).toInt) ∧ p0.toInt < 8) :
    F q2 99 < 12 := by
  rw [hs2.1]; omega
theorem v_X10_fresh_48_8 {F : Nat → Nat → Nat} (a : Nat) (G : XG)
    (rob : RO (vw (G.2.1 (F (F a 4) 0))) (aI (G.2.1 (F (F a 4) 1)))) :
    RO (vw (G.2.1 (F (F a 4) 0))) (aI (G.2.1 (F (F a 4) 1))) := by exact rob
theorem v_X10_fresh_48_9 {F : Nat → Nat → Nat} (a : Nat) (G : XG)
    (ron : RO (vw (G.2.1 (F (F a 3) 0))) (aI (G.2.1 (F (F a 3) 1)))) :
    RO (vw (G.2.1 (F (F a 3) 0))) (aI (G.2.1 (F (F a 3) 1))) := by exact ron
theorem v_X10_fresh_48_10 {K : Nat → Nat} {F : Nat → Nat → Nat} (a : Nat) (G : XG)
    (bko : BKr K G (G.2.2.1 (F (F a 2) 1))) :
    BKr K G (G.2.2.1 (F (F a 2) 1)) := by exact bko
theorem v_X10_fresh_48_11 {K : Nat → Nat} {F : Nat → Nat → Nat} (a : Nat) (G : XG)
    (bkn : BKr K G (G.2.2.1 (F (F a 2) 0))) :
    BKr K G (G.2.2.1 (F (F a 2) 0)) := by exact bkn
theorem v_X10_fresh_51_12 {F : Nat → Nat → Nat} (a : Nat) (q2 : Nat) (p0 : Int32) (G : XG) (x48 : Int32) (p1 : Int32)
    (hs2 : F q2 99 = 4 + (p0.toInt).toNat ∧ G.2.2.1 (F a 7) (p0.toInt).toNat = some q2)
    (oq48 : x48.toInt = smQ (seQ G (G.2.2.1 (F (F a 2) 0)) (vw (G.2.1 (F (F a 3) 0)))) (gaL G (G.2.2.1 (F (F a 2) 1)) (vw (G.2.1 (F (F a 4) 0))) (vw (G.2.1 (F q2 0))) 1 (((G.1 (F a 2) 2).toInt)).toNat))
    (ht2 : 0 ≤ p0.toInt ∧ p0.toInt < ((G.1 a 17).toInt) ∧ p0.toInt < 8)
    (c13 : p1.toInt = 1) :
    (((p0.toInt < 0 ∨ ((G.1 a 17).toInt) ≤ p0.toInt ∨ 8 ≤ p0.toInt) ∨ p1.toInt < 0 ∨ 1 < p1.toInt) ∧ x48.toInt = -1) ∨ (∃ q : Nat, (0 ≤ p0.toInt ∧ p0.toInt < ((G.1 a 17).toInt) ∧ p0.toInt < 8) ∧ G.2.2.1 (F a 7) (p0.toInt).toNat = some q ∧ ((p1.toInt = 0 ∧ x48.toInt = smQ (chQ G (G.2.2.1 (F (F a 2) 0)) (vw (G.2.1 (F q 0)))) (qL G F (F a 8))) ∨ (p1.toInt = 1 ∧ x48.toInt = smQ (seQ G (G.2.2.1 (F (F a 2) 0)) (vw (G.2.1 (F (F a 3) 0)))) (gaL G (G.2.2.1 (F (F a 2) 1)) (vw (G.2.1 (F (F a 4) 0))) (vw (G.2.1 (F q 0))) 1 (((G.1 (F a 2) 2).toInt)).toNat)))) := by
  exact Or.inr ⟨q2, ht2, hs2.2, Or.inr ⟨c13, oq48⟩⟩
theorem v_X10_wouldCut_6_1 {F : Nat → Nat → Nat} (a : Nat) (G : XG)
    (ron : RO (vw (G.2.1 (F (F a 3) 0))) (aI (G.2.1 (F (F a 3) 1)))) :
    RO (vw (G.2.1 (F (F a 3) 0))) (aI (G.2.1 (F (F a 3) 1))) := by exact ron
theorem v_X10_wouldCut_22_2 {F : Nat → Nat → Nat} (a : Nat) (G : XG)
    (ron : RO (vw (G.2.1 (F (F a 3) 0))) (aI (G.2.1 (F (F a 3) 1)))) :
    RO (vw (G.2.1 (F (F a 3) 0))) (aI (G.2.1 (F (F a 3) 1))) := by exact ron
theorem v_X10_wouldCut_39_3 {F : Nat → Nat → Nat} (G22 : XG) (a : Nat)
    (oq22a : RO (vw (G22.2.1 (F (F a 5) 0))) (aI (G22.2.1 (F (F a 5) 1)))) :
    RO (vw (G22.2.1 (F (F a 5) 0))) (aI (G22.2.1 (F (F a 5) 1))) := by
  exact oq22a
theorem v_X10_wouldCut_39_4 {K : Nat → Nat} {F : Nat → Nat → Nat} (a : Nat) (G : XG) (G22 : XG) (p0 : Int32) (p1 : Int32) (x6 : Int32)
    (ha : K a = 12)
    (hk9999 : K (F a 11) = 3)
    (hj9999 : F (F a 11) 99 = 0)
    (hk9999a : K (F a 9) = 6)
    (hj9999a : F (F a 9) 99 = 1)
    (hk9999b : K (F a 12) = 4)
    (hj9999b : F (F a 12) 99 = 0)
    (hk9999c : K (F (F a 11) 0) = 21)
    (hj9999c : F (F (F a 11) 0) 99 = 100)
    (hk9999d : K (F (F a 11) 1) = 21)
    (hj9999d : F (F (F a 11) 1) 99 = 101)
    (hk9999e : K (F (F a 11) 2) = 24)
    (hj9999e : F (F (F a 11) 2) 99 = 4)
    (hk9999f : K (F (F a 9) 0) = 22)
    (hj9999g : F (F (F a 9) 0) 99 = 10 * 1 + 0)
    (hk9999g : K (F (F a 9) 1) = 22)
    (hj9999i : F (F (F a 9) 1) 99 = 10 * 1 + 1)
    (hk9999h : K (F (F a 9) 2) = 22)
    (hj9999k : F (F (F a 9) 2) 99 = 10 * 1 + 2)
    (hk9999i : K (F (F a 9) 3) = 22)
    (hj9999m : F (F (F a 9) 3) 99 = 10 * 1 + 3)
    (hk9999j : K (F (F a 9) 4) = 23)
    (hj9999o : F (F (F a 9) 4) 99 = 10 * 1 + 4)
    (hk9999k : K (F (F a 9) 5) = 23)
    (hj9999q : F (F (F a 9) 5) 99 = 10 * 1 + 5)
    (hk9999l : K (F a 5) = 8)
    (hj9999r : F (F a 5) 99 = 2)
    (hk9999m : K (F (F a 5) 0) = 20)
    (hj9999t : F (F (F a 5) 0) 99 = 2)
    (hk9999n : K (F (F a 5) 1) = 21)
    (hj9999v : F (F (F a 5) 1) 99 = 2)
    (hk9999o : K (F (F a 12) 0) = 24)
    (hj9999w : F (F (F a 12) 0) 99 = 0)
    (hk9999p : K (F (F a 12) 1) = 24)
    (hj9999y : F (F (F a 12) 1) 99 = 1)
    (hk9999q : K (F (F a 12) 2) = 24)
    (hj9999z25 : F (F (F a 12) 2) 99 = 2)
    (hk9999r : K (F (F a 12) 3) = 24)
    (hj9999z26 : F (F (F a 12) 3) 99 = 3)
    (hk9999s : K (F a 2) = 2)
    (hj9999z27 : F (F a 2) 99 = 0)
    (hk9999t : K (F (F a 2) 1) = 15)
    (hj9999z28 : F (F (F a 2) 1) 99 = 1)
    (hk9999u : K (F (F a 2) 0) = 15)
    (hj9999z29 : F (F (F a 2) 0) 99 = 0)
    (hk9999v : K (F a 3) = 8)
    (hj9999z30 : F (F a 3) 99 = 0)
    (hk9999w : K (F (F a 3) 0) = 20)
    (hj9999z32 : F (F (F a 3) 0) 99 = 0)
    (hk9999y : K (F (F a 3) 1) = 21)
    (hj9999z34 : F (F (F a 3) 1) 99 = 0)
    (hfr : XFr [(F a 11, 3), (F a 9, 6), (F a 12, 4)] [F (F a 11) 0, F (F a 11) 1, F (F a 11) 2, F (F a 9) 0, F (F a 9) 1, F (F a 9) 2, F (F a 9) 3, F (F a 9) 4, F (F a 9) 5, F (F a 5) 0, F (F a 5) 1, F (F a 12) 0, F (F a 12) 1, F (F a 12) 2, F (F a 12) 3] [] G G22)
    (hF22 : XFr [] [F (F a 5) 0, F (F a 5) 1] [] G G22)
    (ron : RO (vw (G.2.1 (F (F a 3) 0))) (aI (G.2.1 (F (F a 3) 1))))
    (bko : BKr K G (G.2.2.1 (F (F a 2) 1)))
    (bkn : BKr K G (G.2.2.1 (F (F a 2) 0)))
    (hac : ACo G (G.2.2.1 (F (F a 2) 0)))
    (oq22 : (vw (G22.2.1 (F (F a 5) 0))) = (vw (G.2.1 (F (F a 3) 0))))
    (oq22a : RO (vw (G22.2.1 (F (F a 5) 0))) (aI (G22.2.1 (F (F a 5) 1))))
    (sb : 0 ≤ ((G.1 (F a 2) 2).toInt) ∧ ((G.1 (F a 2) 2).toInt) ≤ 12)
    (z5 : ¬ (0 ≤ p0.toInt ∧ p0.toInt < 3 ∧ 0 ≤ p1.toInt ∧ p1.toInt < 30) → (cel (vw (G.2.1 (F (F a 3) 0))) (p0.toInt) (p1.toInt) 0) = -2000)
    (t6 : (x6.toInt = 1 ∧ (cel (vw (G.2.1 (F (F a 3) 0))) (p0.toInt) (p1.toInt) 0) ≠ -2000) ∨ (x6.toInt = 0 ∧ (cel (vw (G.2.1 (F (F a 3) 0))) (p0.toInt) (p1.toInt) 0) = -2000))
    (c9 : x6.toInt ≠ 0)
    (z25 : (cel (vw (G22.2.1 (F (F a 5) 0))) (p0.toInt) (p1.toInt) 0) = (cel (vw (G.2.1 (F (F a 3) 0))) (p0.toInt) (p1.toInt) 0))
    (c_G22_F_F_a_11_0 : G22.2.1 (F (F a 11) 0) = G.2.1 (F (F a 11) 0))
    (c_G22_F_F_a_11_1 : G22.2.1 (F (F a 11) 1) = G.2.1 (F (F a 11) 1))
    (c_G22_F_F_a_11_2 : G22.2.1 (F (F a 11) 2) = G.2.1 (F (F a 11) 2))
    (c_G22_F_F_a_12_0 : G22.2.1 (F (F a 12) 0) = G.2.1 (F (F a 12) 0))
    (c_G22_F_F_a_12_1 : G22.2.1 (F (F a 12) 1) = G.2.1 (F (F a 12) 1))
    (c_G22_F_F_a_12_2 : G22.2.1 (F (F a 12) 2) = G.2.1 (F (F a 12) 2))
    (c_G22_F_F_a_12_3 : G22.2.1 (F (F a 12) 3) = G.2.1 (F (F a 12) 3))
    (c_G22_F_F_a_9_0 : G22.2.1 (F (F a 9) 0) = G.2.1 (F (F a 9) 0))
    (c_G22_F_F_a_9_1 : G22.2.1 (F (F a 9) 1) = G.2.1 (F (F a 9) 1))
    (c_G22_F_F_a_9_2 : G22.2.1 (F (F a 9) 2) = G.2.1 (F (F a 9) 2))
    (c_G22_F_F_a_9_3 : G22.2.1 (F (F a 9) 3) = G.2.1 (F (F a 9) 3))
    (c_G22_F_F_a_9_4 : G22.2.1 (F (F a 9) 4) = G.2.1 (F (F a 9) 4))
    (c_G22_F_F_a_9_5 : G22.2.1 (F (F a 9) 5) = G.2.1 (F (F a 9) 5))
    (r_G22_F_F_a_2_0 : G22.2.2.1 (F (F a 2) 0) = G.2.2.1 (F (F a 2) 0))
    (d_G22_F_a_11_3 : G22.1 (F a 11) 3 = G.1 (F a 11) 3)
    (d_G22_F_a_12_4 : G22.1 (F a 12) 4 = G.1 (F a 12) 4)
    (d_G22_F_a_9_6 : G22.1 (F a 9) 6 = G.1 (F a 9) 6) :
    BKr K G22 (G22.2.2.1 (F (F a 2) 0)) := by
  have hd : ∀ p, p ∈ [(F a 11, 3), (F a 9, 6), (F a 12, 4)] → K p.1 ≠ 9 := (List.forall_mem_cons.mpr ⟨(show K (F a 11) ≠ 9 by omega), List.forall_mem_cons.mpr ⟨(show K (F a 9) ≠ 9 by omega), List.forall_mem_cons.mpr ⟨(show K (F a 12) ≠ 9 by omega), fun _ h => by cases h⟩⟩⟩)
  rw [show G22.2.2.1 (F (F a 2) 0) = G.2.2.1 (F (F a 2) 0) by assumption]
  exact bkn.fr hfr hd
theorem v_X10_wouldCut_39_5 {K : Nat → Nat} {F : Nat → Nat → Nat} (a : Nat) (G : XG) (G22 : XG) (p0 : Int32) (p1 : Int32) (x6 : Int32)
    (ha : K a = 12)
    (hk9999 : K (F a 11) = 3)
    (hj9999 : F (F a 11) 99 = 0)
    (hk9999a : K (F a 9) = 6)
    (hj9999a : F (F a 9) 99 = 1)
    (hk9999b : K (F a 12) = 4)
    (hj9999b : F (F a 12) 99 = 0)
    (hk9999c : K (F (F a 11) 0) = 21)
    (hj9999c : F (F (F a 11) 0) 99 = 100)
    (hk9999d : K (F (F a 11) 1) = 21)
    (hj9999d : F (F (F a 11) 1) 99 = 101)
    (hk9999e : K (F (F a 11) 2) = 24)
    (hj9999e : F (F (F a 11) 2) 99 = 4)
    (hk9999f : K (F (F a 9) 0) = 22)
    (hj9999g : F (F (F a 9) 0) 99 = 10 * 1 + 0)
    (hk9999g : K (F (F a 9) 1) = 22)
    (hj9999i : F (F (F a 9) 1) 99 = 10 * 1 + 1)
    (hk9999h : K (F (F a 9) 2) = 22)
    (hj9999k : F (F (F a 9) 2) 99 = 10 * 1 + 2)
    (hk9999i : K (F (F a 9) 3) = 22)
    (hj9999m : F (F (F a 9) 3) 99 = 10 * 1 + 3)
    (hk9999j : K (F (F a 9) 4) = 23)
    (hj9999o : F (F (F a 9) 4) 99 = 10 * 1 + 4)
    (hk9999k : K (F (F a 9) 5) = 23)
    (hj9999q : F (F (F a 9) 5) 99 = 10 * 1 + 5)
    (hk9999l : K (F a 5) = 8)
    (hj9999r : F (F a 5) 99 = 2)
    (hk9999m : K (F (F a 5) 0) = 20)
    (hj9999t : F (F (F a 5) 0) 99 = 2)
    (hk9999n : K (F (F a 5) 1) = 21)
    (hj9999v : F (F (F a 5) 1) 99 = 2)
    (hk9999o : K (F (F a 12) 0) = 24)
    (hj9999w : F (F (F a 12) 0) 99 = 0)
    (hk9999p : K (F (F a 12) 1) = 24)
    (hj9999y : F (F (F a 12) 1) 99 = 1)
    (hk9999q : K (F (F a 12) 2) = 24)
    (hj9999z25 : F (F (F a 12) 2) 99 = 2)
    (hk9999r : K (F (F a 12) 3) = 24)
    (hj9999z26 : F (F (F a 12) 3) 99 = 3)
    (hk9999s : K (F a 2) = 2)
    (hj9999z27 : F (F a 2) 99 = 0)
    (hk9999t : K (F (F a 2) 1) = 15)
    (hj9999z28 : F (F (F a 2) 1) 99 = 1)
    (hk9999u : K (F (F a 2) 0) = 15)
    (hj9999z29 : F (F (F a 2) 0) 99 = 0)
    (hk9999v : K (F a 3) = 8)
    (hj9999z30 : F (F a 3) 99 = 0)
    (hk9999w : K (F (F a 3) 0) = 20)
    (hj9999z32 : F (F (F a 3) 0) 99 = 0)
    (hk9999y : K (F (F a 3) 1) = 21)
    (hj9999z34 : F (F (F a 3) 1) 99 = 0)
    (hfr : XFr [(F a 11, 3), (F a 9, 6), (F a 12, 4)] [F (F a 11) 0, F (F a 11) 1, F (F a 11) 2, F (F a 9) 0, F (F a 9) 1, F (F a 9) 2, F (F a 9) 3, F (F a 9) 4, F (F a 9) 5, F (F a 5) 0, F (F a 5) 1, F (F a 12) 0, F (F a 12) 1, F (F a 12) 2, F (F a 12) 3] [] G G22)
    (hF22 : XFr [] [F (F a 5) 0, F (F a 5) 1] [] G G22)
    (ron : RO (vw (G.2.1 (F (F a 3) 0))) (aI (G.2.1 (F (F a 3) 1))))
    (bko : BKr K G (G.2.2.1 (F (F a 2) 1)))
    (bkn : BKr K G (G.2.2.1 (F (F a 2) 0)))
    (hac : ACo G (G.2.2.1 (F (F a 2) 0)))
    (oq22 : (vw (G22.2.1 (F (F a 5) 0))) = (vw (G.2.1 (F (F a 3) 0))))
    (oq22a : RO (vw (G22.2.1 (F (F a 5) 0))) (aI (G22.2.1 (F (F a 5) 1))))
    (sb : 0 ≤ ((G.1 (F a 2) 2).toInt) ∧ ((G.1 (F a 2) 2).toInt) ≤ 12)
    (z5 : ¬ (0 ≤ p0.toInt ∧ p0.toInt < 3 ∧ 0 ≤ p1.toInt ∧ p1.toInt < 30) → (cel (vw (G.2.1 (F (F a 3) 0))) (p0.toInt) (p1.toInt) 0) = -2000)
    (t6 : (x6.toInt = 1 ∧ (cel (vw (G.2.1 (F (F a 3) 0))) (p0.toInt) (p1.toInt) 0) ≠ -2000) ∨ (x6.toInt = 0 ∧ (cel (vw (G.2.1 (F (F a 3) 0))) (p0.toInt) (p1.toInt) 0) = -2000))
    (c9 : x6.toInt ≠ 0)
    (z25 : (cel (vw (G22.2.1 (F (F a 5) 0))) (p0.toInt) (p1.toInt) 0) = (cel (vw (G.2.1 (F (F a 3) 0))) (p0.toInt) (p1.toInt) 0))
    (c_G22_F_F_a_11_0 : G22.2.1 (F (F a 11) 0) = G.2.1 (F (F a 11) 0))
    (c_G22_F_F_a_11_1 : G22.2.1 (F (F a 11) 1) = G.2.1 (F (F a 11) 1))
    (c_G22_F_F_a_11_2 : G22.2.1 (F (F a 11) 2) = G.2.1 (F (F a 11) 2))
    (c_G22_F_F_a_12_0 : G22.2.1 (F (F a 12) 0) = G.2.1 (F (F a 12) 0))
    (c_G22_F_F_a_12_1 : G22.2.1 (F (F a 12) 1) = G.2.1 (F (F a 12) 1))
    (c_G22_F_F_a_12_2 : G22.2.1 (F (F a 12) 2) = G.2.1 (F (F a 12) 2))
    (c_G22_F_F_a_12_3 : G22.2.1 (F (F a 12) 3) = G.2.1 (F (F a 12) 3))
    (c_G22_F_F_a_9_0 : G22.2.1 (F (F a 9) 0) = G.2.1 (F (F a 9) 0))
    (c_G22_F_F_a_9_1 : G22.2.1 (F (F a 9) 1) = G.2.1 (F (F a 9) 1))
    (c_G22_F_F_a_9_2 : G22.2.1 (F (F a 9) 2) = G.2.1 (F (F a 9) 2))
    (c_G22_F_F_a_9_3 : G22.2.1 (F (F a 9) 3) = G.2.1 (F (F a 9) 3))
    (c_G22_F_F_a_9_4 : G22.2.1 (F (F a 9) 4) = G.2.1 (F (F a 9) 4))
    (c_G22_F_F_a_9_5 : G22.2.1 (F (F a 9) 5) = G.2.1 (F (F a 9) 5))
    (r_G22_F_F_a_2_0 : G22.2.2.1 (F (F a 2) 0) = G.2.2.1 (F (F a 2) 0))
    (d_G22_F_a_11_3 : G22.1 (F a 11) 3 = G.1 (F a 11) 3)
    (d_G22_F_a_12_4 : G22.1 (F a 12) 4 = G.1 (F a 12) 4)
    (d_G22_F_a_9_6 : G22.1 (F a 9) 6 = G.1 (F a 9) 6) :
    ACo G22 (G22.2.2.1 (F (F a 2) 0)) := by
  have hd : ∀ p, p ∈ [(F a 11, 3), (F a 9, 6), (F a 12, 4)] → K p.1 ≠ 9 := (List.forall_mem_cons.mpr ⟨(show K (F a 11) ≠ 9 by omega), List.forall_mem_cons.mpr ⟨(show K (F a 9) ≠ 9 by omega), List.forall_mem_cons.mpr ⟨(show K (F a 12) ≠ 9 by omega), fun _ h => by cases h⟩⟩⟩)
  rw [show G22.2.2.1 (F (F a 2) 0) = G.2.2.1 (F (F a 2) 0) by assumption]
  exact hac.cg (fun i q hi hq => hfr.rule hd (bkn i q hi hq).1)
theorem v_X10_wouldCut_102_6 {K : Nat → Nat} {F : Nat → Nat → Nat} (a : Nat) (G : XG) (G22 : XG) (p0 : Int32) (p1 : Int32) (x6 : Int32) (p2 : Int32)
    (ha : K a = 12)
    (sb : 0 ≤ ((G.1 (F a 2) 2).toInt) ∧ ((G.1 (F a 2) 2).toInt) ≤ 12)
    (z5 : ¬ (0 ≤ p0.toInt ∧ p0.toInt < 3 ∧ 0 ≤ p1.toInt ∧ p1.toInt < 30) → (cel (vw (G.2.1 (F (F a 3) 0))) (p0.toInt) (p1.toInt) 0) = -2000)
    (t6 : (x6.toInt = 1 ∧ (cel (vw (G.2.1 (F (F a 3) 0))) (p0.toInt) (p1.toInt) 0) ≠ -2000) ∨ (x6.toInt = 0 ∧ (cel (vw (G.2.1 (F (F a 3) 0))) (p0.toInt) (p1.toInt) 0) = -2000))
    (c9 : x6.toInt ≠ 0)
    (z25 : (cel (vw (G22.2.1 (F (F a 5) 0))) (p0.toInt) (p1.toInt) 0) = (cel (vw (G.2.1 (F (F a 3) 0))) (p0.toInt) (p1.toInt) 0))
    (c43 : p2.toInt < 0 ∨ 2 < p2.toInt) :
    (cel (vw (G.2.1 (F (F a 3) 0))) p0.toInt p1.toInt 0 = -2000 ∧ (-1 : Int) = -1) ∨ (cel (vw (G.2.1 (F (F a 3) 0))) p0.toInt p1.toInt 0 ≠ -2000 ∧ ((p2.toInt = 0 ∧ ∃ b : Int → Int, RO (cfin (clsA G (G.2.2.1 (F (F a 2) 0))) (clsT G (G.2.2.1 (F (F a 2) 0))) (clsC G (G.2.2.1 (F (F a 2) 0))) ([(p0.toInt, p1.toInt, 0, 0)], rfil (vw (G.2.1 (F (F a 3) 0))) p0.toInt p1.toInt (-2000) 3)) b ∧ (-1 : Int) = toB (aI (G.2.1 (F (F a 3) 1))) 3 - toB b 3) ∨ (p2.toInt = 1 ∧ (-1 : Int) = bsI (nn1 (cfin (clsA G (G.2.2.1 (F (F a 2) 0))) (clsT G (G.2.2.1 (F (F a 2) 0))) (clsC G (G.2.2.1 (F (F a 2) 0))) ([(p0.toInt, p1.toInt, 0, 0)], rfil (vw (G.2.1 (F (F a 3) 0))) p0.toInt p1.toInt (-2000) 3)) (vw (G.2.1 (F (F a 3) 0)))) 270) ∨ (p2.toInt = 2 ∧ AnsR ((G.1 a 18).toInt) (-1 : Int) (gaL G (G.2.2.1 (F (F a 2) 1)) (vw (G.2.1 (F (F a 3) 0))) (cfin (clsA G (G.2.2.1 (F (F a 2) 0))) (clsT G (G.2.2.1 (F (F a 2) 0))) (clsC G (G.2.2.1 (F (F a 2) 0))) ([(p0.toInt, p1.toInt, 0, 0)], rfil (vw (G.2.1 (F (F a 3) 0))) p0.toInt p1.toInt (-2000) 3)) 0 (((G.1 (F a 2) 2).toInt)).toNat)) ∨ ((p2.toInt < 0 ∨ 2 < p2.toInt) ∧ (-1 : Int) = -1))) := by
  exact Or.inr ⟨by omega, Or.inr (Or.inr (Or.inr ⟨by omega, rfl⟩))⟩
theorem v_X10_wouldCut_72_7 {F : Nat → Nat → Nat} (a : Nat) (G : XG) (G39 : XG) (G22 : XG)
    (ron : RO (vw (G.2.1 (F (F a 3) 0))) (aI (G.2.1 (F (F a 3) 1))))
    (oq22a : RO (vw (G22.2.1 (F (F a 5) 0))) (aI (G22.2.1 (F (F a 5) 1))))
    (oq39a : RO (vw (G39.2.1 (F (F a 5) 0))) (aI (G39.2.1 (F (F a 5) 1))))
    (c_G39_F_F_a_3_0 : G39.2.1 (F (F a 3) 0) = G.2.1 (F (F a 3) 0))
    (c_G39_F_F_a_3_1 : G39.2.1 (F (F a 3) 1) = G.2.1 (F (F a 3) 1)) :
    RO (vw (G39.2.1 (F (F a 3) 0))) (aI (G39.2.1 (F (F a 3) 1))) := by simp only [c_G39_F_F_a_3_0, c_G39_F_F_a_3_1]; assumption
theorem v_X10_wouldCut_79_8 {F : Nat → Nat → Nat} (G39 : XG) (a : Nat)
    (oq39a : RO (vw (G39.2.1 (F (F a 5) 0))) (aI (G39.2.1 (F (F a 5) 1)))) :
    RO (vw (G39.2.1 (F (F a 5) 0))) (aI (G39.2.1 (F (F a 5) 1))) := by
  exact oq39a
theorem v_X10_wouldCut_83_9 {K : Nat → Nat} {F : Nat → Nat → Nat} (a : Nat) (G : XG) (G39 : XG) (G22 : XG) (p0 : Int32) (p1 : Int32) (x72 : Int32) (x79 : Int32) (x6 : Int32) (p2 : Int32)
    (ha : K a = 12)
    (hk9999 : K (F a 11) = 3)
    (hj9999 : F (F a 11) 99 = 0)
    (hk9999a : K (F a 9) = 6)
    (hj9999a : F (F a 9) 99 = 1)
    (hk9999b : K (F a 12) = 4)
    (hj9999b : F (F a 12) 99 = 0)
    (hk9999c : K (F (F a 11) 0) = 21)
    (hj9999c : F (F (F a 11) 0) 99 = 100)
    (hk9999d : K (F (F a 11) 1) = 21)
    (hj9999d : F (F (F a 11) 1) 99 = 101)
    (hk9999e : K (F (F a 11) 2) = 24)
    (hj9999e : F (F (F a 11) 2) 99 = 4)
    (hk9999f : K (F (F a 9) 0) = 22)
    (hj9999g : F (F (F a 9) 0) 99 = 10 * 1 + 0)
    (hk9999g : K (F (F a 9) 1) = 22)
    (hj9999i : F (F (F a 9) 1) 99 = 10 * 1 + 1)
    (hk9999h : K (F (F a 9) 2) = 22)
    (hj9999k : F (F (F a 9) 2) 99 = 10 * 1 + 2)
    (hk9999i : K (F (F a 9) 3) = 22)
    (hj9999m : F (F (F a 9) 3) 99 = 10 * 1 + 3)
    (hk9999j : K (F (F a 9) 4) = 23)
    (hj9999o : F (F (F a 9) 4) 99 = 10 * 1 + 4)
    (hk9999k : K (F (F a 9) 5) = 23)
    (hj9999q : F (F (F a 9) 5) 99 = 10 * 1 + 5)
    (hk9999l : K (F a 5) = 8)
    (hj9999r : F (F a 5) 99 = 2)
    (hk9999m : K (F (F a 5) 0) = 20)
    (hj9999t : F (F (F a 5) 0) 99 = 2)
    (hk9999n : K (F (F a 5) 1) = 21)
    (hj9999v : F (F (F a 5) 1) 99 = 2)
    (hk9999o : K (F (F a 12) 0) = 24)
    (hj9999w : F (F (F a 12) 0) 99 = 0)
    (hk9999p : K (F (F a 12) 1) = 24)
    (hj9999y : F (F (F a 12) 1) 99 = 1)
    (hk9999q : K (F (F a 12) 2) = 24)
    (hj9999z25 : F (F (F a 12) 2) 99 = 2)
    (hk9999r : K (F (F a 12) 3) = 24)
    (hj9999z26 : F (F (F a 12) 3) 99 = 3)
    (hk9999s : K (F a 2) = 2)
    (hj9999z27 : F (F a 2) 99 = 0)
    (hk9999t : K (F (F a 2) 1) = 15)
    (hj9999z28 : F (F (F a 2) 1) 99 = 1)
    (hk9999u : K (F (F a 2) 0) = 15)
    (hj9999z29 : F (F (F a 2) 0) 99 = 0)
    (hk9999v : K (F a 3) = 8)
    (hj9999z30 : F (F a 3) 99 = 0)
    (hk9999w : K (F (F a 3) 0) = 20)
    (hj9999z32 : F (F (F a 3) 0) 99 = 0)
    (hk9999y : K (F (F a 3) 1) = 21)
    (hj9999z34 : F (F (F a 3) 1) 99 = 0)
    (hF22 : XFr [] [F (F a 5) 0, F (F a 5) 1] [] G G22)
    (bkn : BKr K G (G.2.2.1 (F (F a 2) 0)))
    (oq22 : (vw (G22.2.1 (F (F a 5) 0))) = (vw (G.2.1 (F (F a 3) 0))))
    (oq39 : (vw (G39.2.1 (F (F a 5) 0))) = cfin (clsA G22 (G22.2.2.1 (F (F a 2) 0))) (clsT G22 (G22.2.2.1 (F (F a 2) 0))) (clsC G22 (G22.2.2.1 (F (F a 2) 0))) ([(p0.toInt, p1.toInt, 0, 0)], rfil (vw (G22.2.1 (F (F a 5) 0))) p0.toInt p1.toInt (-2000) 3))
    (oq39a : RO (vw (G39.2.1 (F (F a 5) 0))) (aI (G39.2.1 (F (F a 5) 1))))
    (sb : 0 ≤ ((G.1 (F a 2) 2).toInt) ∧ ((G.1 (F a 2) 2).toInt) ≤ 12)
    (z5 : ¬ (0 ≤ p0.toInt ∧ p0.toInt < 3 ∧ 0 ≤ p1.toInt ∧ p1.toInt < 30) → (cel (vw (G.2.1 (F (F a 3) 0))) (p0.toInt) (p1.toInt) 0) = -2000)
    (t6 : (x6.toInt = 1 ∧ (cel (vw (G.2.1 (F (F a 3) 0))) (p0.toInt) (p1.toInt) 0) ≠ -2000) ∨ (x6.toInt = 0 ∧ (cel (vw (G.2.1 (F (F a 3) 0))) (p0.toInt) (p1.toInt) 0) = -2000))
    (c9 : x6.toInt ≠ 0)
    (z25 : (cel (vw (G22.2.1 (F (F a 5) 0))) (p0.toInt) (p1.toInt) 0) = (cel (vw (G.2.1 (F (F a 3) 0))) (p0.toInt) (p1.toInt) 0))
    (c43 : p2.toInt = 0)
    (t72 : x72.toInt = (toB (aI (G.2.1 (F (F a 3) 1))) 3) ∧ (0 ≤ x72.toInt ∧ x72.toInt ≤ 90))
    (t79 : x79.toInt = (toB (aI (G39.2.1 (F (F a 5) 1))) 3) ∧ (0 ≤ x79.toInt ∧ x79.toInt ≤ 90))
    (r_G22_F_F_a_2_0 : G22.2.2.1 (F (F a 2) 0) = G.2.2.1 (F (F a 2) 0)) :
    (cel (vw (G.2.1 (F (F a 3) 0))) p0.toInt p1.toInt 0 = -2000 ∧ (x72.toInt - x79.toInt) = -1) ∨ (cel (vw (G.2.1 (F (F a 3) 0))) p0.toInt p1.toInt 0 ≠ -2000 ∧ ((p2.toInt = 0 ∧ ∃ b : Int → Int, RO (cfin (clsA G (G.2.2.1 (F (F a 2) 0))) (clsT G (G.2.2.1 (F (F a 2) 0))) (clsC G (G.2.2.1 (F (F a 2) 0))) ([(p0.toInt, p1.toInt, 0, 0)], rfil (vw (G.2.1 (F (F a 3) 0))) p0.toInt p1.toInt (-2000) 3)) b ∧ (x72.toInt - x79.toInt) = toB (aI (G.2.1 (F (F a 3) 1))) 3 - toB b 3) ∨ (p2.toInt = 1 ∧ (x72.toInt - x79.toInt) = bsI (nn1 (cfin (clsA G (G.2.2.1 (F (F a 2) 0))) (clsT G (G.2.2.1 (F (F a 2) 0))) (clsC G (G.2.2.1 (F (F a 2) 0))) ([(p0.toInt, p1.toInt, 0, 0)], rfil (vw (G.2.1 (F (F a 3) 0))) p0.toInt p1.toInt (-2000) 3)) (vw (G.2.1 (F (F a 3) 0)))) 270) ∨ (p2.toInt = 2 ∧ AnsR ((G.1 a 18).toInt) (x72.toInt - x79.toInt) (gaL G (G.2.2.1 (F (F a 2) 1)) (vw (G.2.1 (F (F a 3) 0))) (cfin (clsA G (G.2.2.1 (F (F a 2) 0))) (clsT G (G.2.2.1 (F (F a 2) 0))) (clsC G (G.2.2.1 (F (F a 2) 0))) ([(p0.toInt, p1.toInt, 0, 0)], rfil (vw (G.2.1 (F (F a 3) 0))) p0.toInt p1.toInt (-2000) 3)) 0 (((G.1 (F a 2) 2).toInt)).toNat)) ∨ ((p2.toInt < 0 ∨ 2 < p2.toInt) ∧ (x72.toInt - x79.toInt) = -1))) := by
  have hd0 : ∀ p, p ∈ ([] : List (Nat × Nat)) → K p.1 ≠ 9 := fun _ h => by cases h
  have hd4 : ∀ p, p ∈ [(F a 12, 4)] → K p.1 ≠ 9 := (List.forall_mem_cons.mpr ⟨(show K (F a 12) ≠ 9 by omega), fun _ h => by cases h⟩)
  have h0 : ∀ (i q : Nat), i < 12 → G.2.2.1 (F (F a 2) 0) i = some q → G22.1 q = G.1 q := fun i q hi hq => hF22.rule hd0 (bkn i q hi hq).1
  rw [r_G22_F_F_a_2_0, (cls_cg h0).1, (cls_cg h0).2.1, (cls_cg h0).2.2, oq22] at oq39
  exact Or.inr ⟨by omega, Or.inl ⟨by omega, aI (G39.2.1 (F (F a 5) 1)), by rw [← oq39]; exact oq39a, by omega⟩⟩
theorem v_X10_wouldCut_95_10 {K : Nat → Nat} {F : Nat → Nat → Nat} (a : Nat) (G : XG) (G39 : XG) (G22 : XG) (p0 : Int32) (p1 : Int32) (x6 : Int32) (p2 : Int32)
    (ha : K a = 12)
    (hk9999 : K (F a 11) = 3)
    (hj9999 : F (F a 11) 99 = 0)
    (hk9999a : K (F a 9) = 6)
    (hj9999a : F (F a 9) 99 = 1)
    (hk9999b : K (F a 12) = 4)
    (hj9999b : F (F a 12) 99 = 0)
    (hk9999c : K (F (F a 11) 0) = 21)
    (hj9999c : F (F (F a 11) 0) 99 = 100)
    (hk9999d : K (F (F a 11) 1) = 21)
    (hj9999d : F (F (F a 11) 1) 99 = 101)
    (hk9999e : K (F (F a 11) 2) = 24)
    (hj9999e : F (F (F a 11) 2) 99 = 4)
    (hk9999f : K (F (F a 9) 0) = 22)
    (hj9999g : F (F (F a 9) 0) 99 = 10 * 1 + 0)
    (hk9999g : K (F (F a 9) 1) = 22)
    (hj9999i : F (F (F a 9) 1) 99 = 10 * 1 + 1)
    (hk9999h : K (F (F a 9) 2) = 22)
    (hj9999k : F (F (F a 9) 2) 99 = 10 * 1 + 2)
    (hk9999i : K (F (F a 9) 3) = 22)
    (hj9999m : F (F (F a 9) 3) 99 = 10 * 1 + 3)
    (hk9999j : K (F (F a 9) 4) = 23)
    (hj9999o : F (F (F a 9) 4) 99 = 10 * 1 + 4)
    (hk9999k : K (F (F a 9) 5) = 23)
    (hj9999q : F (F (F a 9) 5) 99 = 10 * 1 + 5)
    (hk9999l : K (F a 5) = 8)
    (hj9999r : F (F a 5) 99 = 2)
    (hk9999m : K (F (F a 5) 0) = 20)
    (hj9999t : F (F (F a 5) 0) 99 = 2)
    (hk9999n : K (F (F a 5) 1) = 21)
    (hj9999v : F (F (F a 5) 1) 99 = 2)
    (hk9999o : K (F (F a 12) 0) = 24)
    (hj9999w : F (F (F a 12) 0) 99 = 0)
    (hk9999p : K (F (F a 12) 1) = 24)
    (hj9999y : F (F (F a 12) 1) 99 = 1)
    (hk9999q : K (F (F a 12) 2) = 24)
    (hj9999z25 : F (F (F a 12) 2) 99 = 2)
    (hk9999r : K (F (F a 12) 3) = 24)
    (hj9999z26 : F (F (F a 12) 3) 99 = 3)
    (hk9999s : K (F a 2) = 2)
    (hj9999z27 : F (F a 2) 99 = 0)
    (hk9999t : K (F (F a 2) 1) = 15)
    (hj9999z28 : F (F (F a 2) 1) 99 = 1)
    (hk9999u : K (F (F a 2) 0) = 15)
    (hj9999z29 : F (F (F a 2) 0) 99 = 0)
    (hk9999v : K (F a 3) = 8)
    (hj9999z30 : F (F a 3) 99 = 0)
    (hk9999w : K (F (F a 3) 0) = 20)
    (hj9999z32 : F (F (F a 3) 0) 99 = 0)
    (hk9999y : K (F (F a 3) 1) = 21)
    (hj9999z34 : F (F (F a 3) 1) 99 = 0)
    (hF22 : XFr [] [F (F a 5) 0, F (F a 5) 1] [] G G22)
    (bkn : BKr K G (G.2.2.1 (F (F a 2) 0)))
    (oq22 : (vw (G22.2.1 (F (F a 5) 0))) = (vw (G.2.1 (F (F a 3) 0))))
    (oq39 : (vw (G39.2.1 (F (F a 5) 0))) = cfin (clsA G22 (G22.2.2.1 (F (F a 2) 0))) (clsT G22 (G22.2.2.1 (F (F a 2) 0))) (clsC G22 (G22.2.2.1 (F (F a 2) 0))) ([(p0.toInt, p1.toInt, 0, 0)], rfil (vw (G22.2.1 (F (F a 5) 0))) p0.toInt p1.toInt (-2000) 3))
    (sb : 0 ≤ ((G.1 (F a 2) 2).toInt) ∧ ((G.1 (F a 2) 2).toInt) ≤ 12)
    (z5 : ¬ (0 ≤ p0.toInt ∧ p0.toInt < 3 ∧ 0 ≤ p1.toInt ∧ p1.toInt < 30) → (cel (vw (G.2.1 (F (F a 3) 0))) (p0.toInt) (p1.toInt) 0) = -2000)
    (t6 : (x6.toInt = 1 ∧ (cel (vw (G.2.1 (F (F a 3) 0))) (p0.toInt) (p1.toInt) 0) ≠ -2000) ∨ (x6.toInt = 0 ∧ (cel (vw (G.2.1 (F (F a 3) 0))) (p0.toInt) (p1.toInt) 0) = -2000))
    (c9 : x6.toInt ≠ 0)
    (z25 : (cel (vw (G22.2.1 (F (F a 5) 0))) (p0.toInt) (p1.toInt) 0) = (cel (vw (G.2.1 (F (F a 3) 0))) (p0.toInt) (p1.toInt) 0))
    (c43 : p2.toInt = 1)
    (r_G22_F_F_a_2_0 : G22.2.2.1 (F (F a 2) 0) = G.2.2.1 (F (F a 2) 0)) :
    (cel (vw (G.2.1 (F (F a 3) 0))) p0.toInt p1.toInt 0 = -2000 ∧ (bsI (nn1 (vw (G39.2.1 (F (F a 5) 0))) (vw (G.2.1 (F (F a 3) 0)))) 270) = -1) ∨ (cel (vw (G.2.1 (F (F a 3) 0))) p0.toInt p1.toInt 0 ≠ -2000 ∧ ((p2.toInt = 0 ∧ ∃ b : Int → Int, RO (cfin (clsA G (G.2.2.1 (F (F a 2) 0))) (clsT G (G.2.2.1 (F (F a 2) 0))) (clsC G (G.2.2.1 (F (F a 2) 0))) ([(p0.toInt, p1.toInt, 0, 0)], rfil (vw (G.2.1 (F (F a 3) 0))) p0.toInt p1.toInt (-2000) 3)) b ∧ (bsI (nn1 (vw (G39.2.1 (F (F a 5) 0))) (vw (G.2.1 (F (F a 3) 0)))) 270) = toB (aI (G.2.1 (F (F a 3) 1))) 3 - toB b 3) ∨ (p2.toInt = 1 ∧ (bsI (nn1 (vw (G39.2.1 (F (F a 5) 0))) (vw (G.2.1 (F (F a 3) 0)))) 270) = bsI (nn1 (cfin (clsA G (G.2.2.1 (F (F a 2) 0))) (clsT G (G.2.2.1 (F (F a 2) 0))) (clsC G (G.2.2.1 (F (F a 2) 0))) ([(p0.toInt, p1.toInt, 0, 0)], rfil (vw (G.2.1 (F (F a 3) 0))) p0.toInt p1.toInt (-2000) 3)) (vw (G.2.1 (F (F a 3) 0)))) 270) ∨ (p2.toInt = 2 ∧ AnsR ((G.1 a 18).toInt) (bsI (nn1 (vw (G39.2.1 (F (F a 5) 0))) (vw (G.2.1 (F (F a 3) 0)))) 270) (gaL G (G.2.2.1 (F (F a 2) 1)) (vw (G.2.1 (F (F a 3) 0))) (cfin (clsA G (G.2.2.1 (F (F a 2) 0))) (clsT G (G.2.2.1 (F (F a 2) 0))) (clsC G (G.2.2.1 (F (F a 2) 0))) ([(p0.toInt, p1.toInt, 0, 0)], rfil (vw (G.2.1 (F (F a 3) 0))) p0.toInt p1.toInt (-2000) 3)) 0 (((G.1 (F a 2) 2).toInt)).toNat)) ∨ ((p2.toInt < 0 ∨ 2 < p2.toInt) ∧ (bsI (nn1 (vw (G39.2.1 (F (F a 5) 0))) (vw (G.2.1 (F (F a 3) 0)))) 270) = -1))) := by
  have hd0 : ∀ p, p ∈ ([] : List (Nat × Nat)) → K p.1 ≠ 9 := fun _ h => by cases h
  have hd4 : ∀ p, p ∈ [(F a 12, 4)] → K p.1 ≠ 9 := (List.forall_mem_cons.mpr ⟨(show K (F a 12) ≠ 9 by omega), fun _ h => by cases h⟩)
  have h0 : ∀ (i q : Nat), i < 12 → G.2.2.1 (F (F a 2) 0) i = some q → G22.1 q = G.1 q := fun i q hi hq => hF22.rule hd0 (bkn i q hi hq).1
  rw [r_G22_F_F_a_2_0, (cls_cg h0).1, (cls_cg h0).2.1, (cls_cg h0).2.2, oq22] at oq39
  rw [← oq39]
  exact Or.inr ⟨by omega, Or.inr (Or.inl ⟨by omega, by first | rfl | omega⟩)⟩
theorem v_X10_wouldCut_97_11 {F : Nat → Nat → Nat} (a : Nat) (G : XG) (G39 : XG) (G22 : XG)
    (ron : RO (vw (G.2.1 (F (F a 3) 0))) (aI (G.2.1 (F (F a 3) 1))))
    (oq22a : RO (vw (G22.2.1 (F (F a 5) 0))) (aI (G22.2.1 (F (F a 5) 1))))
    (oq39a : RO (vw (G39.2.1 (F (F a 5) 0))) (aI (G39.2.1 (F (F a 5) 1))))
    (c_G39_F_F_a_3_0 : G39.2.1 (F (F a 3) 0) = G.2.1 (F (F a 3) 0))
    (c_G39_F_F_a_3_1 : G39.2.1 (F (F a 3) 1) = G.2.1 (F (F a 3) 1)) :
    RO (vw (G39.2.1 (F (F a 3) 0))) (aI (G39.2.1 (F (F a 3) 1))) := by simp only [c_G39_F_F_a_3_0, c_G39_F_F_a_3_1]; assumption
theorem v_X10_wouldCut_97_12 {F : Nat → Nat → Nat} (G39 : XG) (a : Nat)
    (oq39a : RO (vw (G39.2.1 (F (F a 5) 0))) (aI (G39.2.1 (F (F a 5) 1)))) :
    RO (vw (G39.2.1 (F (F a 5) 0))) (aI (G39.2.1 (F (F a 5) 1))) := by
  exact oq39a
theorem v_X10_wouldCut_97_13 {K : Nat → Nat} {F : Nat → Nat → Nat} (a : Nat) (G : XG) (G39 : XG) (G22 : XG) (p0 : Int32) (p1 : Int32) (x6 : Int32) (p2 : Int32)
    (ha : K a = 12)
    (hk9999 : K (F a 11) = 3)
    (hj9999 : F (F a 11) 99 = 0)
    (hk9999a : K (F a 9) = 6)
    (hj9999a : F (F a 9) 99 = 1)
    (hk9999b : K (F a 12) = 4)
    (hj9999b : F (F a 12) 99 = 0)
    (hk9999c : K (F (F a 11) 0) = 21)
    (hj9999c : F (F (F a 11) 0) 99 = 100)
    (hk9999d : K (F (F a 11) 1) = 21)
    (hj9999d : F (F (F a 11) 1) 99 = 101)
    (hk9999e : K (F (F a 11) 2) = 24)
    (hj9999e : F (F (F a 11) 2) 99 = 4)
    (hk9999f : K (F (F a 9) 0) = 22)
    (hj9999g : F (F (F a 9) 0) 99 = 10 * 1 + 0)
    (hk9999g : K (F (F a 9) 1) = 22)
    (hj9999i : F (F (F a 9) 1) 99 = 10 * 1 + 1)
    (hk9999h : K (F (F a 9) 2) = 22)
    (hj9999k : F (F (F a 9) 2) 99 = 10 * 1 + 2)
    (hk9999i : K (F (F a 9) 3) = 22)
    (hj9999m : F (F (F a 9) 3) 99 = 10 * 1 + 3)
    (hk9999j : K (F (F a 9) 4) = 23)
    (hj9999o : F (F (F a 9) 4) 99 = 10 * 1 + 4)
    (hk9999k : K (F (F a 9) 5) = 23)
    (hj9999q : F (F (F a 9) 5) 99 = 10 * 1 + 5)
    (hk9999l : K (F a 5) = 8)
    (hj9999r : F (F a 5) 99 = 2)
    (hk9999m : K (F (F a 5) 0) = 20)
    (hj9999t : F (F (F a 5) 0) 99 = 2)
    (hk9999n : K (F (F a 5) 1) = 21)
    (hj9999v : F (F (F a 5) 1) 99 = 2)
    (hk9999o : K (F (F a 12) 0) = 24)
    (hj9999w : F (F (F a 12) 0) 99 = 0)
    (hk9999p : K (F (F a 12) 1) = 24)
    (hj9999y : F (F (F a 12) 1) 99 = 1)
    (hk9999q : K (F (F a 12) 2) = 24)
    (hj9999z25 : F (F (F a 12) 2) 99 = 2)
    (hk9999r : K (F (F a 12) 3) = 24)
    (hj9999z26 : F (F (F a 12) 3) 99 = 3)
    (hk9999s : K (F a 2) = 2)
    (hj9999z27 : F (F a 2) 99 = 0)
    (hk9999t : K (F (F a 2) 1) = 15)
    (hj9999z28 : F (F (F a 2) 1) 99 = 1)
    (hk9999u : K (F (F a 2) 0) = 15)
    (hj9999z29 : F (F (F a 2) 0) 99 = 0)
    (hk9999v : K (F a 3) = 8)
    (hj9999z30 : F (F a 3) 99 = 0)
    (hk9999w : K (F (F a 3) 0) = 20)
    (hj9999z32 : F (F (F a 3) 0) 99 = 0)
    (hk9999y : K (F (F a 3) 1) = 21)
    (hj9999z34 : F (F (F a 3) 1) 99 = 0)
    (hfr : XFr [(F a 11, 3), (F a 9, 6), (F a 12, 4)] [F (F a 11) 0, F (F a 11) 1, F (F a 11) 2, F (F a 9) 0, F (F a 9) 1, F (F a 9) 2, F (F a 9) 3, F (F a 9) 4, F (F a 9) 5, F (F a 5) 0, F (F a 5) 1, F (F a 12) 0, F (F a 12) 1, F (F a 12) 2, F (F a 12) 3] [] G G39)
    (hF22 : XFr [] [F (F a 5) 0, F (F a 5) 1] [] G G22)
    (hF39 : XFr [(F a 12, 4)] [F (F a 12) 0, F (F a 12) 1, F (F a 12) 2, F (F a 12) 3, F (F a 5) 0, F (F a 5) 1] [] G22 G39)
    (ron : RO (vw (G.2.1 (F (F a 3) 0))) (aI (G.2.1 (F (F a 3) 1))))
    (bko : BKr K G (G.2.2.1 (F (F a 2) 1)))
    (bkn : BKr K G (G.2.2.1 (F (F a 2) 0)))
    (hac : ACo G (G.2.2.1 (F (F a 2) 0)))
    (oq22 : (vw (G22.2.1 (F (F a 5) 0))) = (vw (G.2.1 (F (F a 3) 0))))
    (oq22a : RO (vw (G22.2.1 (F (F a 5) 0))) (aI (G22.2.1 (F (F a 5) 1))))
    (oq39 : (vw (G39.2.1 (F (F a 5) 0))) = cfin (clsA G22 (G22.2.2.1 (F (F a 2) 0))) (clsT G22 (G22.2.2.1 (F (F a 2) 0))) (clsC G22 (G22.2.2.1 (F (F a 2) 0))) ([(p0.toInt, p1.toInt, 0, 0)], rfil (vw (G22.2.1 (F (F a 5) 0))) p0.toInt p1.toInt (-2000) 3))
    (oq39a : RO (vw (G39.2.1 (F (F a 5) 0))) (aI (G39.2.1 (F (F a 5) 1))))
    (sb : 0 ≤ ((G.1 (F a 2) 2).toInt) ∧ ((G.1 (F a 2) 2).toInt) ≤ 12)
    (z5 : ¬ (0 ≤ p0.toInt ∧ p0.toInt < 3 ∧ 0 ≤ p1.toInt ∧ p1.toInt < 30) → (cel (vw (G.2.1 (F (F a 3) 0))) (p0.toInt) (p1.toInt) 0) = -2000)
    (t6 : (x6.toInt = 1 ∧ (cel (vw (G.2.1 (F (F a 3) 0))) (p0.toInt) (p1.toInt) 0) ≠ -2000) ∨ (x6.toInt = 0 ∧ (cel (vw (G.2.1 (F (F a 3) 0))) (p0.toInt) (p1.toInt) 0) = -2000))
    (c9 : x6.toInt ≠ 0)
    (z25 : (cel (vw (G22.2.1 (F (F a 5) 0))) (p0.toInt) (p1.toInt) 0) = (cel (vw (G.2.1 (F (F a 3) 0))) (p0.toInt) (p1.toInt) 0))
    (c43 : p2.toInt = 2)
    (c_G39_F_F_a_11_0 : G39.2.1 (F (F a 11) 0) = G.2.1 (F (F a 11) 0))
    (c_G39_F_F_a_11_1 : G39.2.1 (F (F a 11) 1) = G.2.1 (F (F a 11) 1))
    (c_G39_F_F_a_11_2 : G39.2.1 (F (F a 11) 2) = G.2.1 (F (F a 11) 2))
    (c_G39_F_F_a_9_0 : G39.2.1 (F (F a 9) 0) = G.2.1 (F (F a 9) 0))
    (c_G39_F_F_a_9_1 : G39.2.1 (F (F a 9) 1) = G.2.1 (F (F a 9) 1))
    (c_G39_F_F_a_9_2 : G39.2.1 (F (F a 9) 2) = G.2.1 (F (F a 9) 2))
    (c_G39_F_F_a_9_3 : G39.2.1 (F (F a 9) 3) = G.2.1 (F (F a 9) 3))
    (c_G39_F_F_a_9_4 : G39.2.1 (F (F a 9) 4) = G.2.1 (F (F a 9) 4))
    (c_G39_F_F_a_9_5 : G39.2.1 (F (F a 9) 5) = G.2.1 (F (F a 9) 5))
    (r_G22_F_F_a_2_0 : G22.2.2.1 (F (F a 2) 0) = G.2.2.1 (F (F a 2) 0))
    (r_G39_F_F_a_2_1 : G39.2.2.1 (F (F a 2) 1) = G.2.2.1 (F (F a 2) 1))
    (d_G39_F_a_11_3 : G39.1 (F a 11) 3 = G.1 (F a 11) 3)
    (d_G39_F_a_9_6 : G39.1 (F a 9) 6 = G.1 (F a 9) 6) :
    BKr K G39 (G39.2.2.1 (F (F a 2) 1)) := by
  have hd : ∀ p, p ∈ [(F a 11, 3), (F a 9, 6), (F a 12, 4)] → K p.1 ≠ 9 := (List.forall_mem_cons.mpr ⟨(show K (F a 11) ≠ 9 by omega), List.forall_mem_cons.mpr ⟨(show K (F a 9) ≠ 9 by omega), List.forall_mem_cons.mpr ⟨(show K (F a 12) ≠ 9 by omega), fun _ h => by cases h⟩⟩⟩)
  rw [show G39.2.2.1 (F (F a 2) 1) = G.2.2.1 (F (F a 2) 1) by assumption]
  exact bko.fr hfr hd
theorem v_X10_wouldCut_100_14 {K : Nat → Nat} {F : Nat → Nat → Nat} (a : Nat) (G : XG) (G22 : XG) (G39 : XG) (p0 : Int32) (p1 : Int32) (x97 : Int32) (x6 : Int32) (p2 : Int32)
    (ha : K a = 12)
    (hk9999 : K (F a 11) = 3)
    (hj9999 : F (F a 11) 99 = 0)
    (hk9999a : K (F a 9) = 6)
    (hj9999a : F (F a 9) 99 = 1)
    (hk9999b : K (F a 12) = 4)
    (hj9999b : F (F a 12) 99 = 0)
    (hk9999c : K (F (F a 11) 0) = 21)
    (hj9999c : F (F (F a 11) 0) 99 = 100)
    (hk9999d : K (F (F a 11) 1) = 21)
    (hj9999d : F (F (F a 11) 1) 99 = 101)
    (hk9999e : K (F (F a 11) 2) = 24)
    (hj9999e : F (F (F a 11) 2) 99 = 4)
    (hk9999f : K (F (F a 9) 0) = 22)
    (hj9999g : F (F (F a 9) 0) 99 = 10 * 1 + 0)
    (hk9999g : K (F (F a 9) 1) = 22)
    (hj9999i : F (F (F a 9) 1) 99 = 10 * 1 + 1)
    (hk9999h : K (F (F a 9) 2) = 22)
    (hj9999k : F (F (F a 9) 2) 99 = 10 * 1 + 2)
    (hk9999i : K (F (F a 9) 3) = 22)
    (hj9999m : F (F (F a 9) 3) 99 = 10 * 1 + 3)
    (hk9999j : K (F (F a 9) 4) = 23)
    (hj9999o : F (F (F a 9) 4) 99 = 10 * 1 + 4)
    (hk9999k : K (F (F a 9) 5) = 23)
    (hj9999q : F (F (F a 9) 5) 99 = 10 * 1 + 5)
    (hk9999l : K (F a 5) = 8)
    (hj9999r : F (F a 5) 99 = 2)
    (hk9999m : K (F (F a 5) 0) = 20)
    (hj9999t : F (F (F a 5) 0) 99 = 2)
    (hk9999n : K (F (F a 5) 1) = 21)
    (hj9999v : F (F (F a 5) 1) 99 = 2)
    (hk9999o : K (F (F a 12) 0) = 24)
    (hj9999w : F (F (F a 12) 0) 99 = 0)
    (hk9999p : K (F (F a 12) 1) = 24)
    (hj9999y : F (F (F a 12) 1) 99 = 1)
    (hk9999q : K (F (F a 12) 2) = 24)
    (hj9999z25 : F (F (F a 12) 2) 99 = 2)
    (hk9999r : K (F (F a 12) 3) = 24)
    (hj9999z26 : F (F (F a 12) 3) 99 = 3)
    (hk9999s : K (F a 2) = 2)
    (hj9999z27 : F (F a 2) 99 = 0)
    (hk9999t : K (F (F a 2) 1) = 15)
    (hj9999z28 : F (F (F a 2) 1) 99 = 1)
    (hk9999u : K (F (F a 2) 0) = 15)
    (hj9999z29 : F (F (F a 2) 0) 99 = 0)
    (hk9999v : K (F a 3) = 8)
    (hj9999z30 : F (F a 3) 99 = 0)
    (hk9999w : K (F (F a 3) 0) = 20)
    (hj9999z32 : F (F (F a 3) 0) 99 = 0)
    (hk9999y : K (F (F a 3) 1) = 21)
    (hj9999z34 : F (F (F a 3) 1) 99 = 0)
    (hF22 : XFr [] [F (F a 5) 0, F (F a 5) 1] [] G G22)
    (hF39 : XFr [(F a 12, 4)] [F (F a 12) 0, F (F a 12) 1, F (F a 12) 2, F (F a 12) 3, F (F a 5) 0, F (F a 5) 1] [] G22 G39)
    (bko : BKr K G (G.2.2.1 (F (F a 2) 1)))
    (bkn : BKr K G (G.2.2.1 (F (F a 2) 0)))
    (oq22 : (vw (G22.2.1 (F (F a 5) 0))) = (vw (G.2.1 (F (F a 3) 0))))
    (oq39 : (vw (G39.2.1 (F (F a 5) 0))) = cfin (clsA G22 (G22.2.2.1 (F (F a 2) 0))) (clsT G22 (G22.2.2.1 (F (F a 2) 0))) (clsC G22 (G22.2.2.1 (F (F a 2) 0))) ([(p0.toInt, p1.toInt, 0, 0)], rfil (vw (G22.2.1 (F (F a 5) 0))) p0.toInt p1.toInt (-2000) 3))
    (oq97 : AnsR ((G.1 a 18).toInt) x97.toInt (gaL G39 (G39.2.2.1 (F (F a 2) 1)) (vw (G.2.1 (F (F a 3) 0))) (vw (G39.2.1 (F (F a 5) 0))) 0 (((G.1 (F a 2) 2).toInt)).toNat))
    (sb : 0 ≤ ((G.1 (F a 2) 2).toInt) ∧ ((G.1 (F a 2) 2).toInt) ≤ 12)
    (z5 : ¬ (0 ≤ p0.toInt ∧ p0.toInt < 3 ∧ 0 ≤ p1.toInt ∧ p1.toInt < 30) → (cel (vw (G.2.1 (F (F a 3) 0))) (p0.toInt) (p1.toInt) 0) = -2000)
    (t6 : (x6.toInt = 1 ∧ (cel (vw (G.2.1 (F (F a 3) 0))) (p0.toInt) (p1.toInt) 0) ≠ -2000) ∨ (x6.toInt = 0 ∧ (cel (vw (G.2.1 (F (F a 3) 0))) (p0.toInt) (p1.toInt) 0) = -2000))
    (c9 : x6.toInt ≠ 0)
    (z25 : (cel (vw (G22.2.1 (F (F a 5) 0))) (p0.toInt) (p1.toInt) 0) = (cel (vw (G.2.1 (F (F a 3) 0))) (p0.toInt) (p1.toInt) 0))
    (c43 : p2.toInt = 2)
    (r_G22_F_F_a_2_0 : G22.2.2.1 (F (F a 2) 0) = G.2.2.1 (F (F a 2) 0))
    (r_G39_F_F_a_2_1 : G39.2.2.1 (F (F a 2) 1) = G.2.2.1 (F (F a 2) 1)) :
    (cel (vw (G.2.1 (F (F a 3) 0))) p0.toInt p1.toInt 0 = -2000 ∧ x97.toInt = -1) ∨ (cel (vw (G.2.1 (F (F a 3) 0))) p0.toInt p1.toInt 0 ≠ -2000 ∧ ((p2.toInt = 0 ∧ ∃ b : Int → Int, RO (cfin (clsA G (G.2.2.1 (F (F a 2) 0))) (clsT G (G.2.2.1 (F (F a 2) 0))) (clsC G (G.2.2.1 (F (F a 2) 0))) ([(p0.toInt, p1.toInt, 0, 0)], rfil (vw (G.2.1 (F (F a 3) 0))) p0.toInt p1.toInt (-2000) 3)) b ∧ x97.toInt = toB (aI (G.2.1 (F (F a 3) 1))) 3 - toB b 3) ∨ (p2.toInt = 1 ∧ x97.toInt = bsI (nn1 (cfin (clsA G (G.2.2.1 (F (F a 2) 0))) (clsT G (G.2.2.1 (F (F a 2) 0))) (clsC G (G.2.2.1 (F (F a 2) 0))) ([(p0.toInt, p1.toInt, 0, 0)], rfil (vw (G.2.1 (F (F a 3) 0))) p0.toInt p1.toInt (-2000) 3)) (vw (G.2.1 (F (F a 3) 0)))) 270) ∨ (p2.toInt = 2 ∧ AnsR ((G.1 a 18).toInt) x97.toInt (gaL G (G.2.2.1 (F (F a 2) 1)) (vw (G.2.1 (F (F a 3) 0))) (cfin (clsA G (G.2.2.1 (F (F a 2) 0))) (clsT G (G.2.2.1 (F (F a 2) 0))) (clsC G (G.2.2.1 (F (F a 2) 0))) ([(p0.toInt, p1.toInt, 0, 0)], rfil (vw (G.2.1 (F (F a 3) 0))) p0.toInt p1.toInt (-2000) 3)) 0 (((G.1 (F a 2) 2).toInt)).toNat)) ∨ ((p2.toInt < 0 ∨ 2 < p2.toInt) ∧ x97.toInt = -1))) := by
  have hd0 : ∀ p, p ∈ ([] : List (Nat × Nat)) → K p.1 ≠ 9 := fun _ h => by cases h
  have hd4 : ∀ p, p ∈ [(F a 12, 4)] → K p.1 ≠ 9 := (List.forall_mem_cons.mpr ⟨(show K (F a 12) ≠ 9 by omega), fun _ h => by cases h⟩)
  have h0 : ∀ (i q : Nat), i < 12 → G.2.2.1 (F (F a 2) 0) i = some q → G22.1 q = G.1 q := fun i q hi hq => hF22.rule hd0 (bkn i q hi hq).1
  rw [r_G22_F_F_a_2_0, (cls_cg h0).1, (cls_cg h0).2.1, (cls_cg h0).2.2, oq22] at oq39
  have hc : ∀ (i q : Nat), i < ((G.1 (F a 2) 2).toInt).toNat → G.2.2.1 (F (F a 2) 1) i = some q → G39.1 q = G.1 q := fun i q hi hq => (hF39.rule hd4 (bko i q (by omega) hq).1).trans (hF22.rule hd0 (bko i q (by omega) hq).1)
  rw [oq39, r_G39_F_F_a_2_1, gaL_cg hc] at oq97
  exact Or.inr ⟨by omega, Or.inr (Or.inr (Or.inl ⟨by omega, oq97⟩))⟩
theorem v_X10_wouldCut_13_15 {K : Nat → Nat} {F : Nat → Nat → Nat} (a : Nat) (G : XG) (p0 : Int32) (p1 : Int32) (x6 : Int32) (p2 : Int32)
    (ha : K a = 12)
    (sb : 0 ≤ ((G.1 (F a 2) 2).toInt) ∧ ((G.1 (F a 2) 2).toInt) ≤ 12)
    (z5 : ¬ (0 ≤ p0.toInt ∧ p0.toInt < 3 ∧ 0 ≤ p1.toInt ∧ p1.toInt < 30) → (cel (vw (G.2.1 (F (F a 3) 0))) (p0.toInt) (p1.toInt) 0) = -2000)
    (t6 : (x6.toInt = 1 ∧ (cel (vw (G.2.1 (F (F a 3) 0))) (p0.toInt) (p1.toInt) 0) ≠ -2000) ∨ (x6.toInt = 0 ∧ (cel (vw (G.2.1 (F (F a 3) 0))) (p0.toInt) (p1.toInt) 0) = -2000))
    (c9 : ¬ (x6.toInt ≠ 0)) :
    (cel (vw (G.2.1 (F (F a 3) 0))) p0.toInt p1.toInt 0 = -2000 ∧ (-1 : Int) = -1) ∨ (cel (vw (G.2.1 (F (F a 3) 0))) p0.toInt p1.toInt 0 ≠ -2000 ∧ ((p2.toInt = 0 ∧ ∃ b : Int → Int, RO (cfin (clsA G (G.2.2.1 (F (F a 2) 0))) (clsT G (G.2.2.1 (F (F a 2) 0))) (clsC G (G.2.2.1 (F (F a 2) 0))) ([(p0.toInt, p1.toInt, 0, 0)], rfil (vw (G.2.1 (F (F a 3) 0))) p0.toInt p1.toInt (-2000) 3)) b ∧ (-1 : Int) = toB (aI (G.2.1 (F (F a 3) 1))) 3 - toB b 3) ∨ (p2.toInt = 1 ∧ (-1 : Int) = bsI (nn1 (cfin (clsA G (G.2.2.1 (F (F a 2) 0))) (clsT G (G.2.2.1 (F (F a 2) 0))) (clsC G (G.2.2.1 (F (F a 2) 0))) ([(p0.toInt, p1.toInt, 0, 0)], rfil (vw (G.2.1 (F (F a 3) 0))) p0.toInt p1.toInt (-2000) 3)) (vw (G.2.1 (F (F a 3) 0)))) 270) ∨ (p2.toInt = 2 ∧ AnsR ((G.1 a 18).toInt) (-1 : Int) (gaL G (G.2.2.1 (F (F a 2) 1)) (vw (G.2.1 (F (F a 3) 0))) (cfin (clsA G (G.2.2.1 (F (F a 2) 0))) (clsT G (G.2.2.1 (F (F a 2) 0))) (clsC G (G.2.2.1 (F (F a 2) 0))) ([(p0.toInt, p1.toInt, 0, 0)], rfil (vw (G.2.1 (F (F a 3) 0))) p0.toInt p1.toInt (-2000) 3)) 0 (((G.1 (F a 2) 2).toInt)).toNat)) ∨ ((p2.toInt < 0 ∨ 2 < p2.toInt) ∧ (-1 : Int) = -1))) := by
  exact Or.inl ⟨by omega, rfl⟩
