theorem v_X10_all_12_1 {K : Nat → Nat} {F : Nat → Nat → Nat} (a : Nat) (G : XG) (p0 : Int32)
    (ha : K a = 12)
    (sb : 0 ≤ ((G.1 (F a 2) 2).toInt) ∧ ((G.1 (F a 2) 2).toInt) ≤ 12)
    (c1 : p0.toInt < 0) :
    ((p0.toInt < 0 ∨ 2 < p0.toInt) ∧ (-2147483648 : Int) = -2147483648) ∨ ((0 ≤ p0.toInt ∧ p0.toInt ≤ 2) ∧ (-2147483648 : Int) = alS p0.toInt (fqL (gaL G (G.2.2.1 (F (F a 2) 1)) (vw (G.2.1 (F (F a 6) 0))) (vw (G.2.1 (F (F a 3) 0))) 0 (((G.1 (F a 2) 2).toInt)).toNat))) := by
  exact Or.inl ⟨by omega, rfl⟩
theorem v_X10_all_27_2 {F : Nat → Nat → Nat} (a : Nat) (G : XG)
    (ro0 : RO (vw (G.2.1 (F (F a 6) 0))) (aI (G.2.1 (F (F a 6) 1)))) :
    RO (vw (G.2.1 (F (F a 6) 0))) (aI (G.2.1 (F (F a 6) 1))) := by exact ro0
theorem v_X10_all_27_3 {F : Nat → Nat → Nat} (a : Nat) (G : XG)
    (ron : RO (vw (G.2.1 (F (F a 3) 0))) (aI (G.2.1 (F (F a 3) 1)))) :
    RO (vw (G.2.1 (F (F a 3) 0))) (aI (G.2.1 (F (F a 3) 1))) := by exact ron
theorem v_X10_all_27_4 {K : Nat → Nat} {F : Nat → Nat → Nat} (G : XG) (a : Nat)
    (bko : BKr K G (G.2.2.1 (F (F a 2) 1))) :
    ∀ (i q : Nat), i < 12 → G.2.2.1 (F (F a 2) 1) i = some q → RW (G.1 q) := by
  exact bko.rw
theorem v_X10_all_27_5 {K : Nat → Nat} {F : Nat → Nat → Nat} (a : Nat) (G : XG) (p0 : Int32)
    (ha : K a = 12)
    (hk9999 : K (F a 11) = 3)
    (hj9999 : F (F a 11) 99 = 0)
    (hk9999a : K (F a 9) = 6)
    (hj9999a : F (F a 9) 99 = 1)
    (hk9999b : K (F (F a 11) 0) = 21)
    (hj9999b : F (F (F a 11) 0) 99 = 100)
    (hk9999c : K (F (F a 11) 1) = 21)
    (hj9999c : F (F (F a 11) 1) 99 = 101)
    (hk9999d : K (F (F a 11) 2) = 24)
    (hj9999d : F (F (F a 11) 2) 99 = 4)
    (hk9999e : K (F (F a 9) 0) = 22)
    (hj9999f : F (F (F a 9) 0) 99 = 10 * 1 + 0)
    (hk9999f : K (F (F a 9) 1) = 22)
    (hj9999h : F (F (F a 9) 1) 99 = 10 * 1 + 1)
    (hk9999g : K (F (F a 9) 2) = 22)
    (hj9999j : F (F (F a 9) 2) 99 = 10 * 1 + 2)
    (hk9999h : K (F (F a 9) 3) = 22)
    (hj9999l : F (F (F a 9) 3) 99 = 10 * 1 + 3)
    (hk9999i : K (F (F a 9) 4) = 23)
    (hj9999n : F (F (F a 9) 4) 99 = 10 * 1 + 4)
    (hk9999j : K (F (F a 9) 5) = 23)
    (hj9999p : F (F (F a 9) 5) 99 = 10 * 1 + 5)
    (hk9999k : K (F a 2) = 2)
    (hj9999q : F (F a 2) 99 = 0)
    (hk9999l : K (F (F a 2) 1) = 15)
    (hj9999r : F (F (F a 2) 1) 99 = 1)
    (hk9999m : K (F a 6) = 8)
    (hj9999s : F (F a 6) 99 = 3)
    (hk9999n : K (F (F a 6) 0) = 20)
    (hj9999u : F (F (F a 6) 0) 99 = 3)
    (hk9999o : K (F (F a 6) 1) = 21)
    (hj9999w : F (F (F a 6) 1) 99 = 3)
    (hk9999p : K (F a 3) = 8)
    (hj9999y : F (F a 3) 99 = 0)
    (hk9999q : K (F (F a 3) 0) = 20)
    (hj9999z26 : F (F (F a 3) 0) 99 = 0)
    (hk9999r : K (F (F a 3) 1) = 21)
    (hj9999z28 : F (F (F a 3) 1) 99 = 0)
    (ro0 : RO (vw (G.2.1 (F (F a 6) 0))) (aI (G.2.1 (F (F a 6) 1))))
    (ron : RO (vw (G.2.1 (F (F a 3) 0))) (aI (G.2.1 (F (F a 3) 1))))
    (bko : BKr K G (G.2.2.1 (F (F a 2) 1)))
    (sb : 0 ≤ ((G.1 (F a 2) 2).toInt) ∧ ((G.1 (F a 2) 2).toInt) ≤ 12)
    (c1 : ¬ (p0.toInt < 0))
    (c6 : p0.toInt ≤ (2 : Int)) :
    F (F a 6) 99 < 12 := by
  first | assumption | omega
theorem v_X10_all_27_6 {K : Nat → Nat} {F : Nat → Nat → Nat} (a : Nat) (G : XG) (p0 : Int32)
    (ha : K a = 12)
    (hk9999 : K (F a 11) = 3)
    (hj9999 : F (F a 11) 99 = 0)
    (hk9999a : K (F a 9) = 6)
    (hj9999a : F (F a 9) 99 = 1)
    (hk9999b : K (F (F a 11) 0) = 21)
    (hj9999b : F (F (F a 11) 0) 99 = 100)
    (hk9999c : K (F (F a 11) 1) = 21)
    (hj9999c : F (F (F a 11) 1) 99 = 101)
    (hk9999d : K (F (F a 11) 2) = 24)
    (hj9999d : F (F (F a 11) 2) 99 = 4)
    (hk9999e : K (F (F a 9) 0) = 22)
    (hj9999f : F (F (F a 9) 0) 99 = 10 * 1 + 0)
    (hk9999f : K (F (F a 9) 1) = 22)
    (hj9999h : F (F (F a 9) 1) 99 = 10 * 1 + 1)
    (hk9999g : K (F (F a 9) 2) = 22)
    (hj9999j : F (F (F a 9) 2) 99 = 10 * 1 + 2)
    (hk9999h : K (F (F a 9) 3) = 22)
    (hj9999l : F (F (F a 9) 3) 99 = 10 * 1 + 3)
    (hk9999i : K (F (F a 9) 4) = 23)
    (hj9999n : F (F (F a 9) 4) 99 = 10 * 1 + 4)
    (hk9999j : K (F (F a 9) 5) = 23)
    (hj9999p : F (F (F a 9) 5) 99 = 10 * 1 + 5)
    (hk9999k : K (F a 2) = 2)
    (hj9999q : F (F a 2) 99 = 0)
    (hk9999l : K (F (F a 2) 1) = 15)
    (hj9999r : F (F (F a 2) 1) 99 = 1)
    (hk9999m : K (F a 6) = 8)
    (hj9999s : F (F a 6) 99 = 3)
    (hk9999n : K (F (F a 6) 0) = 20)
    (hj9999u : F (F (F a 6) 0) 99 = 3)
    (hk9999o : K (F (F a 6) 1) = 21)
    (hj9999w : F (F (F a 6) 1) 99 = 3)
    (hk9999p : K (F a 3) = 8)
    (hj9999y : F (F a 3) 99 = 0)
    (hk9999q : K (F (F a 3) 0) = 20)
    (hj9999z26 : F (F (F a 3) 0) 99 = 0)
    (hk9999r : K (F (F a 3) 1) = 21)
    (hj9999z28 : F (F (F a 3) 1) 99 = 0)
    (ro0 : RO (vw (G.2.1 (F (F a 6) 0))) (aI (G.2.1 (F (F a 6) 1))))
    (ron : RO (vw (G.2.1 (F (F a 3) 0))) (aI (G.2.1 (F (F a 3) 1))))
    (bko : BKr K G (G.2.2.1 (F (F a 2) 1)))
    (sb : 0 ≤ ((G.1 (F a 2) 2).toInt) ∧ ((G.1 (F a 2) 2).toInt) ≤ 12)
    (c1 : ¬ (p0.toInt < 0))
    (c6 : p0.toInt ≤ (2 : Int)) :
    F (F a 3) 99 < 12 := by
  first | assumption | omega
theorem v_X10_all_81_7 {K : Nat → Nat} {F : Nat → Nat → Nat} (a : Nat) (G : XG) (G27 : XG) (x46 : Int32) (p0 : Int32) (x78 : Int32)
    (ha : K a = 12)
    (oq27 : qL G27 F (F a 9) = gaL G (G.2.2.1 (F (F a 2) 1)) (vw (G.2.1 (F (F a 6) 0))) (vw (G.2.1 (F (F a 3) 0))) (0 : Int) (((G.1 (F a 2) 2).toInt)).toNat)
    (oq46 : ∀ j : Int, 0 ≤ j → j < ((G27.1 (F a 9) 6).toInt) → (x46.toInt = -1 ∨ j < x46.toInt) → aI (G27.2.1 (F (F a 9) 5)) j = 0)
    (sb : 0 ≤ ((G.1 (F a 2) 2).toInt) ∧ ((G.1 (F a 2) 2).toInt) ≤ 12)
    (c1 : ¬ (p0.toInt < 0))
    (c6 : p0.toInt ≤ (2 : Int))
    (t27 : 0 ≤ ((G27.1 (F a 9) 6).toInt) ∧ ((G27.1 (F a 9) 6).toInt) ≤ 1080)
    (c31 : p0.toInt ≠ 0)
    (t46 : x46.toInt = -1 ∨ (0 ≤ x46.toInt ∧ x46.toInt < ((G27.1 (F a 9) 6).toInt) ∧ (aI (G27.2.1 (F (F a 9) 5)) (x46.toInt)) = 1))
    (c52 : x46.toInt ≠ (-1 : Int))
    (c59 : p0.toInt ≠ (1 : Int))
    (t78 : ((0 ≤ x46.toInt ∧ x46.toInt < ((G27.1 (F a 9) 6).toInt) ∧ x46.toInt < 1080) ∧ x78.toInt = (aI (G27.2.1 (F (F a 9) 1)) (x46.toInt))) ∨ (¬ (0 ≤ x46.toInt ∧ x46.toInt < ((G27.1 (F a 9) 6).toInt) ∧ x46.toInt < 1080) ∧ x78.toInt = -1)) :
    ((p0.toInt < 0 ∨ 2 < p0.toInt) ∧ x78.toInt = -2147483648) ∨ ((0 ≤ p0.toInt ∧ p0.toInt ≤ 2) ∧ x78.toInt = alS p0.toInt (fqL (gaL G (G.2.2.1 (F (F a 2) 1)) (vw (G.2.1 (F (F a 6) 0))) (vw (G.2.1 (F (F a 3) 0))) 0 (((G.1 (F a 2) 2).toInt)).toNat))) := by
  rw [← oq27]
  obtain ⟨t, ht⟩ := ff_some c52 t46 oq46
  refine Or.inr ⟨by omega, ?_⟩
  first
    | exact (show x67.toInt = aI (G27.2.1 (F (F a 9) 0)) x46.toInt by omega).trans (alS_c1 (by omega) ht).symm
    | exact (show x78.toInt = aI (G27.2.1 (F (F a 9) 1)) x46.toInt by omega).trans (alS_c2 (by omega) ht).symm
theorem v_X10_all_81_8 {K : Nat → Nat} {F : Nat → Nat → Nat} (a : Nat) (G : XG) (G27 : XG) (x46 : Int32) (p0 : Int32) (x67 : Int32)
    (ha : K a = 12)
    (oq27 : qL G27 F (F a 9) = gaL G (G.2.2.1 (F (F a 2) 1)) (vw (G.2.1 (F (F a 6) 0))) (vw (G.2.1 (F (F a 3) 0))) (0 : Int) (((G.1 (F a 2) 2).toInt)).toNat)
    (oq46 : ∀ j : Int, 0 ≤ j → j < ((G27.1 (F a 9) 6).toInt) → (x46.toInt = -1 ∨ j < x46.toInt) → aI (G27.2.1 (F (F a 9) 5)) j = 0)
    (sb : 0 ≤ ((G.1 (F a 2) 2).toInt) ∧ ((G.1 (F a 2) 2).toInt) ≤ 12)
    (c1 : ¬ (p0.toInt < 0))
    (c6 : p0.toInt ≤ (2 : Int))
    (t27 : 0 ≤ ((G27.1 (F a 9) 6).toInt) ∧ ((G27.1 (F a 9) 6).toInt) ≤ 1080)
    (c31 : p0.toInt ≠ 0)
    (t46 : x46.toInt = -1 ∨ (0 ≤ x46.toInt ∧ x46.toInt < ((G27.1 (F a 9) 6).toInt) ∧ (aI (G27.2.1 (F (F a 9) 5)) (x46.toInt)) = 1))
    (c52 : x46.toInt ≠ (-1 : Int))
    (c59 : ¬ (p0.toInt ≠ (1 : Int)))
    (t67 : ((0 ≤ x46.toInt ∧ x46.toInt < ((G27.1 (F a 9) 6).toInt) ∧ x46.toInt < 1080) ∧ x67.toInt = (aI (G27.2.1 (F (F a 9) 0)) (x46.toInt))) ∨ (¬ (0 ≤ x46.toInt ∧ x46.toInt < ((G27.1 (F a 9) 6).toInt) ∧ x46.toInt < 1080) ∧ x67.toInt = -1)) :
    ((p0.toInt < 0 ∨ 2 < p0.toInt) ∧ x67.toInt = -2147483648) ∨ ((0 ≤ p0.toInt ∧ p0.toInt ≤ 2) ∧ x67.toInt = alS p0.toInt (fqL (gaL G (G.2.2.1 (F (F a 2) 1)) (vw (G.2.1 (F (F a 6) 0))) (vw (G.2.1 (F (F a 3) 0))) 0 (((G.1 (F a 2) 2).toInt)).toNat))) := by
  rw [← oq27]
  obtain ⟨t, ht⟩ := ff_some c52 t46 oq46
  refine Or.inr ⟨by omega, ?_⟩
  first
    | exact (show x67.toInt = aI (G27.2.1 (F (F a 9) 0)) x46.toInt by omega).trans (alS_c1 (by omega) ht).symm
    | exact (show x78.toInt = aI (G27.2.1 (F (F a 9) 1)) x46.toInt by omega).trans (alS_c2 (by omega) ht).symm
theorem v_X10_all_56_9 {K : Nat → Nat} {F : Nat → Nat → Nat} (a : Nat) (G : XG) (G27 : XG) (x46 : Int32) (p0 : Int32)
    (ha : K a = 12)
    (oq27 : qL G27 F (F a 9) = gaL G (G.2.2.1 (F (F a 2) 1)) (vw (G.2.1 (F (F a 6) 0))) (vw (G.2.1 (F (F a 3) 0))) (0 : Int) (((G.1 (F a 2) 2).toInt)).toNat)
    (oq46 : ∀ j : Int, 0 ≤ j → j < ((G27.1 (F a 9) 6).toInt) → (x46.toInt = -1 ∨ j < x46.toInt) → aI (G27.2.1 (F (F a 9) 5)) j = 0)
    (sb : 0 ≤ ((G.1 (F a 2) 2).toInt) ∧ ((G.1 (F a 2) 2).toInt) ≤ 12)
    (c1 : ¬ (p0.toInt < 0))
    (c6 : p0.toInt ≤ (2 : Int))
    (t27 : 0 ≤ ((G27.1 (F a 9) 6).toInt) ∧ ((G27.1 (F a 9) 6).toInt) ≤ 1080)
    (c31 : p0.toInt ≠ 0)
    (t46 : x46.toInt = -1 ∨ (0 ≤ x46.toInt ∧ x46.toInt < ((G27.1 (F a 9) 6).toInt) ∧ (aI (G27.2.1 (F (F a 9) 5)) (x46.toInt)) = 1))
    (c52 : ¬ (x46.toInt ≠ (-1 : Int))) :
    ((p0.toInt < 0 ∨ 2 < p0.toInt) ∧ (-1 : Int) = -2147483648) ∨ ((0 ≤ p0.toInt ∧ p0.toInt ≤ 2) ∧ (-1 : Int) = alS p0.toInt (fqL (gaL G (G.2.2.1 (F (F a 2) 1)) (vw (G.2.1 (F (F a 6) 0))) (vw (G.2.1 (F (F a 3) 0))) 0 (((G.1 (F a 2) 2).toInt)).toNat))) := by
  rw [← oq27]
  exact Or.inr ⟨by omega, (alS_nil (by omega) (ff_none (show x46.toInt = -1 by omega) oq46)).symm⟩
theorem v_X10_all_41_10 {K : Nat → Nat} {F : Nat → Nat → Nat} (a : Nat) (G : XG) (G27 : XG) (p0 : Int32)
    (ha : K a = 12)
    (oq27 : qL G27 F (F a 9) = gaL G (G.2.2.1 (F (F a 2) 1)) (vw (G.2.1 (F (F a 6) 0))) (vw (G.2.1 (F (F a 3) 0))) (0 : Int) (((G.1 (F a 2) 2).toInt)).toNat)
    (sb : 0 ≤ ((G.1 (F a 2) 2).toInt) ∧ ((G.1 (F a 2) 2).toInt) ≤ 12)
    (c1 : ¬ (p0.toInt < 0))
    (c6 : p0.toInt ≤ (2 : Int))
    (t27 : 0 ≤ ((G27.1 (F a 9) 6).toInt) ∧ ((G27.1 (F a 9) 6).toInt) ≤ 1080)
    (c31 : ¬ (p0.toInt ≠ 0)) :
    ((p0.toInt < 0 ∨ 2 < p0.toInt) ∧ (hv (aI (G27.2.1 (F (F a 9) 5))) 0 1 ((G27.1 (F a 9) 6).toInt)) = -2147483648) ∨ ((0 ≤ p0.toInt ∧ p0.toInt ≤ 2) ∧ (hv (aI (G27.2.1 (F (F a 9) 5))) 0 1 ((G27.1 (F a 9) 6).toInt)) = alS p0.toInt (fqL (gaL G (G.2.2.1 (F (F a 2) 1)) (vw (G.2.1 (F (F a 6) 0))) (vw (G.2.1 (F (F a 3) 0))) 0 (((G.1 (F a 2) 2).toInt)).toNat))) := by
  refine Or.inr ⟨by omega, ?_⟩
  rw [← oq27, alS_len (by omega), ← hv_qL5]
theorem v_X10_all_12_11 {K : Nat → Nat} {F : Nat → Nat → Nat} (a : Nat) (G : XG) (p0 : Int32)
    (ha : K a = 12)
    (sb : 0 ≤ ((G.1 (F a 2) 2).toInt) ∧ ((G.1 (F a 2) 2).toInt) ≤ 12)
    (c1 : ¬ (p0.toInt < 0))
    (c6 : ¬ (p0.toInt ≤ (2 : Int))) :
    ((p0.toInt < 0 ∨ 2 < p0.toInt) ∧ (-2147483648 : Int) = -2147483648) ∨ ((0 ≤ p0.toInt ∧ p0.toInt ≤ 2) ∧ (-2147483648 : Int) = alS p0.toInt (fqL (gaL G (G.2.2.1 (F (F a 2) 1)) (vw (G.2.1 (F (F a 6) 0))) (vw (G.2.1 (F (F a 3) 0))) 0 (((G.1 (F a 2) 2).toInt)).toNat))) := by
  exact Or.inl ⟨by omega, rfl⟩
theorem v_X10_answerOnPaper_14_1 {F : Nat → Nat → Nat} (a : Nat) (G : XG)
    (ron : RO (vw (G.2.1 (F (F a 3) 0))) (aI (G.2.1 (F (F a 3) 1)))) :
    RO (vw (G.2.1 (F (F a 3) 0))) (aI (G.2.1 (F (F a 3) 1))) := by exact ron
theorem v_X10_answerOnPaper_14_2 {F : Nat → Nat → Nat} (a : Nat) (G : XG)
    (rop : RO (vw (G.2.1 (F (F a 5) 0))) (aI (G.2.1 (F (F a 5) 1)))) :
    RO (vw (G.2.1 (F (F a 5) 0))) (aI (G.2.1 (F (F a 5) 1))) := by exact rop
theorem v_X10_answerOnPaper_14_3 {K : Nat → Nat} {F : Nat → Nat → Nat} (G : XG) (a : Nat)
    (bko : BKr K G (G.2.2.1 (F (F a 2) 1))) :
    ∀ (i q : Nat), i < 12 → G.2.2.1 (F (F a 2) 1) i = some q → RW (G.1 q) := by
  exact bko.rw
theorem v_X10_answerOnPaper_14_4 {K : Nat → Nat} {F : Nat → Nat → Nat} (a : Nat) (G : XG)
    (ha : K a = 12)
    (hk9999 : K (F a 11) = 3)
    (hj9999 : F (F a 11) 99 = 0)
    (hk9999a : K (F a 9) = 6)
    (hj9999a : F (F a 9) 99 = 1)
    (hk9999b : K (F (F a 11) 0) = 21)
    (hj9999b : F (F (F a 11) 0) 99 = 100)
    (hk9999c : K (F (F a 11) 1) = 21)
    (hj9999c : F (F (F a 11) 1) 99 = 101)
    (hk9999d : K (F (F a 11) 2) = 24)
    (hj9999d : F (F (F a 11) 2) 99 = 4)
    (hk9999e : K (F (F a 9) 0) = 22)
    (hj9999f : F (F (F a 9) 0) 99 = 10 * 1 + 0)
    (hk9999f : K (F (F a 9) 1) = 22)
    (hj9999h : F (F (F a 9) 1) 99 = 10 * 1 + 1)
    (hk9999g : K (F (F a 9) 2) = 22)
    (hj9999j : F (F (F a 9) 2) 99 = 10 * 1 + 2)
    (hk9999h : K (F (F a 9) 3) = 22)
    (hj9999l : F (F (F a 9) 3) 99 = 10 * 1 + 3)
    (hk9999i : K (F (F a 9) 4) = 23)
    (hj9999n : F (F (F a 9) 4) 99 = 10 * 1 + 4)
    (hk9999j : K (F (F a 9) 5) = 23)
    (hj9999p : F (F (F a 9) 5) 99 = 10 * 1 + 5)
    (hk9999k : K (F a 2) = 2)
    (hj9999q : F (F a 2) 99 = 0)
    (hk9999l : K (F (F a 2) 1) = 15)
    (hj9999r : F (F (F a 2) 1) 99 = 1)
    (hk9999m : K (F a 5) = 8)
    (hj9999s : F (F a 5) 99 = 2)
    (hk9999n : K (F (F a 5) 0) = 20)
    (hj9999u : F (F (F a 5) 0) 99 = 2)
    (hk9999o : K (F (F a 5) 1) = 21)
    (hj9999w : F (F (F a 5) 1) 99 = 2)
    (hk9999p : K (F a 3) = 8)
    (hj9999y : F (F a 3) 99 = 0)
    (hk9999q : K (F (F a 3) 0) = 20)
    (hj9999z26 : F (F (F a 3) 0) 99 = 0)
    (hk9999r : K (F (F a 3) 1) = 21)
    (hj9999z28 : F (F (F a 3) 1) 99 = 0)
    (ron : RO (vw (G.2.1 (F (F a 3) 0))) (aI (G.2.1 (F (F a 3) 1))))
    (rop : RO (vw (G.2.1 (F (F a 5) 0))) (aI (G.2.1 (F (F a 5) 1))))
    (bko : BKr K G (G.2.2.1 (F (F a 2) 1)))
    (sb : 0 ≤ ((G.1 (F a 2) 2).toInt) ∧ ((G.1 (F a 2) 2).toInt) ≤ 12) :
    F (F a 3) 99 < 12 := by
  first | assumption | omega
theorem v_X10_answerOnPaper_14_5 {K : Nat → Nat} {F : Nat → Nat → Nat} (a : Nat) (G : XG)
    (ha : K a = 12)
    (hk9999 : K (F a 11) = 3)
    (hj9999 : F (F a 11) 99 = 0)
    (hk9999a : K (F a 9) = 6)
    (hj9999a : F (F a 9) 99 = 1)
    (hk9999b : K (F (F a 11) 0) = 21)
    (hj9999b : F (F (F a 11) 0) 99 = 100)
    (hk9999c : K (F (F a 11) 1) = 21)
    (hj9999c : F (F (F a 11) 1) 99 = 101)
    (hk9999d : K (F (F a 11) 2) = 24)
    (hj9999d : F (F (F a 11) 2) 99 = 4)
    (hk9999e : K (F (F a 9) 0) = 22)
    (hj9999f : F (F (F a 9) 0) 99 = 10 * 1 + 0)
    (hk9999f : K (F (F a 9) 1) = 22)
    (hj9999h : F (F (F a 9) 1) 99 = 10 * 1 + 1)
    (hk9999g : K (F (F a 9) 2) = 22)
    (hj9999j : F (F (F a 9) 2) 99 = 10 * 1 + 2)
    (hk9999h : K (F (F a 9) 3) = 22)
    (hj9999l : F (F (F a 9) 3) 99 = 10 * 1 + 3)
    (hk9999i : K (F (F a 9) 4) = 23)
    (hj9999n : F (F (F a 9) 4) 99 = 10 * 1 + 4)
    (hk9999j : K (F (F a 9) 5) = 23)
    (hj9999p : F (F (F a 9) 5) 99 = 10 * 1 + 5)
    (hk9999k : K (F a 2) = 2)
    (hj9999q : F (F a 2) 99 = 0)
    (hk9999l : K (F (F a 2) 1) = 15)
    (hj9999r : F (F (F a 2) 1) 99 = 1)
    (hk9999m : K (F a 5) = 8)
    (hj9999s : F (F a 5) 99 = 2)
    (hk9999n : K (F (F a 5) 0) = 20)
    (hj9999u : F (F (F a 5) 0) 99 = 2)
    (hk9999o : K (F (F a 5) 1) = 21)
    (hj9999w : F (F (F a 5) 1) 99 = 2)
    (hk9999p : K (F a 3) = 8)
    (hj9999y : F (F a 3) 99 = 0)
    (hk9999q : K (F (F a 3) 0) = 20)
    (hj9999z26 : F (F (F a 3) 0) 99 = 0)
    (hk9999r : K (F (F a 3) 1) = 21)
    (hj9999z28 : F (F (F a 3) 1) 99 = 0)
    (ron : RO (vw (G.2.1 (F (F a 3) 0))) (aI (G.2.1 (F (F a 3) 1))))
    (rop : RO (vw (G.2.1 (F (F a 5) 0))) (aI (G.2.1 (F (F a 5) 1))))
    (bko : BKr K G (G.2.2.1 (F (F a 2) 1)))
    (sb : 0 ≤ ((G.1 (F a 2) 2).toInt) ∧ ((G.1 (F a 2) 2).toInt) ≤ 12) :
    F (F a 5) 99 < 12 := by
  first | assumption | omega
theorem v_X10_answerOnPaper_75_6 {K : Nat → Nat} {F : Nat → Nat → Nat} (a : Nat) (G : XG) (G14 : XG) (l1_19 : Int32) (N19 : Nat)
    (ha : K a = 12)
    (oq14 : qL G14 F (F a 9) = gaL G (G.2.2.1 (F (F a 2) 1)) (vw (G.2.1 (F (F a 3) 0))) (vw (G.2.1 (F (F a 5) 0))) (0 : Int) (((G.1 (F a 2) 2).toInt)).toNat)
    (pa : ∀ j : Int, 0 ≤ j → j < l1_19.toInt → aI (G14.2.1 (F (F a 9) 5)) j ≠ 0 → (G.1 a 18).toInt ≠ 0 ∧ aI (G14.2.1 (F (F a 9) 4)) j ≠ 0)
    (sb : 0 ≤ ((G.1 (F a 2) 2).toInt) ∧ ((G.1 (F a 2) 2).toInt) ≤ 12)
    (t14 : 0 ≤ ((G14.1 (F a 9) 6).toInt) ∧ ((G14.1 (F a 9) 6).toInt) ≤ 1080)
    (I19_0 : (0 : Int) ≤ l1_19.toInt)
    (hm19 : 2147483648 - l1_19.toInt < (((N19) + 1 : Nat) : Int))
    (c27 : ((G14.1 (F a 9) 6).toInt) ≤ l1_19.toInt) :
    AnsR ((G.1 a 18).toInt) ((G14.1 (F a 9) 6).toInt) (gaL G (G.2.2.1 (F (F a 2) 1)) (vw (G.2.1 (F (F a 3) 0))) (vw (G.2.1 (F (F a 5) 0))) 0 (((G.1 (F a 2) 2).toInt)).toNat) := by
  unfold AnsR
  rw [← oq14]
  refine Or.inr ⟨?_, ?_⟩
  · rw [qL_len]; omega
  · exact ql_all (P := fun x => x.2.2.2.2.2 ≠ 0 → ((G.1 a 18).toInt) ≠ 0 ∧ x.2.2.2.2.1 ≠ 0) (fun j h1 h2 => pa j h1 (by omega))
theorem v_X10_answerOnPaper_65_7 {K : Nat → Nat} {F : Nat → Nat → Nat} (a : Nat) (G : XG) (G14 : XG) (l1_19 : Int32) (N19 : Nat) (x35 : Int32)
    (ha : K a = 12)
    (pa : ∀ j : Int, 0 ≤ j → j < l1_19.toInt → aI (G14.2.1 (F (F a 9) 5)) j ≠ 0 → (G.1 a 18).toInt ≠ 0 ∧ aI (G14.2.1 (F (F a 9) 4)) j ≠ 0)
    (sb : 0 ≤ ((G.1 (F a 2) 2).toInt) ∧ ((G.1 (F a 2) 2).toInt) ≤ 12)
    (t14 : 0 ≤ ((G14.1 (F a 9) 6).toInt) ∧ ((G14.1 (F a 9) 6).toInt) ≤ 1080)
    (I19_0 : (0 : Int) ≤ l1_19.toInt)
    (hm19 : 2147483648 - l1_19.toInt < (((N19) + 1 : Nat) : Int))
    (c27 : ¬ (((G14.1 (F a 9) 6).toInt) ≤ l1_19.toInt))
    (t35 : ((0 ≤ l1_19.toInt ∧ l1_19.toInt < ((G14.1 (F a 9) 6).toInt) ∧ l1_19.toInt < 1080) ∧ x35.toInt = (aI (G14.2.1 (F (F a 9) 5)) (l1_19.toInt))) ∨ (¬ (0 ≤ l1_19.toInt ∧ l1_19.toInt < ((G14.1 (F a 9) 6).toInt) ∧ l1_19.toInt < 1080) ∧ x35.toInt = 0))
    (f53 : x35.toInt = 0 ∨ x35.toInt = 1)
    (c38 : x35.toInt = 0) :
    ∀ j : Int, 0 ≤ j → j < (l1_19.toInt + 1) → aI (G14.2.1 (F (F a 9) 5)) j ≠ 0 → (G.1 a 18).toInt ≠ 0 ∧ aI (G14.2.1 (F (F a 9) 4)) j ≠ 0 := by
  intro j h1 h2 h3
  by_cases e : j = l1_19.toInt
  · subst e
    first
      | exact absurd h3 (by omega)
      | exact ⟨by omega, by omega⟩
  · exact pa j h1 (by omega) h3
theorem v_X10_answerOnPaper_61_8 {K : Nat → Nat} {F : Nat → Nat → Nat} (a : Nat) (G : XG) (G14 : XG) (l1_19 : Int32) (N19 : Nat) (x35 : Int32)
    (ha : K a = 12)
    (oq14 : qL G14 F (F a 9) = gaL G (G.2.2.1 (F (F a 2) 1)) (vw (G.2.1 (F (F a 3) 0))) (vw (G.2.1 (F (F a 5) 0))) (0 : Int) (((G.1 (F a 2) 2).toInt)).toNat)
    (sb : 0 ≤ ((G.1 (F a 2) 2).toInt) ∧ ((G.1 (F a 2) 2).toInt) ≤ 12)
    (t14 : 0 ≤ ((G14.1 (F a 9) 6).toInt) ∧ ((G14.1 (F a 9) 6).toInt) ≤ 1080)
    (I19_0 : (0 : Int) ≤ l1_19.toInt)
    (hm19 : 2147483648 - l1_19.toInt < (((N19) + 1 : Nat) : Int))
    (c27 : ¬ (((G14.1 (F a 9) 6).toInt) ≤ l1_19.toInt))
    (t35 : ((0 ≤ l1_19.toInt ∧ l1_19.toInt < ((G14.1 (F a 9) 6).toInt) ∧ l1_19.toInt < 1080) ∧ x35.toInt = (aI (G14.2.1 (F (F a 9) 5)) (l1_19.toInt))) ∨ (¬ (0 ≤ l1_19.toInt ∧ l1_19.toInt < ((G14.1 (F a 9) 6).toInt) ∧ l1_19.toInt < 1080) ∧ x35.toInt = 0))
    (f52 : x35.toInt = 0 ∨ x35.toInt = 1)
    (c38 : ¬ (x35.toInt = 0))
    (f54 : ((G.1 a 18).toInt) = 0 ∨ ((G.1 a 18).toInt) = 1)
    (c45 : ((G.1 a 18).toInt) = 0) :
    AnsR ((G.1 a 18).toInt) (-5 : Int) (gaL G (G.2.2.1 (F (F a 2) 1)) (vw (G.2.1 (F (F a 3) 0))) (vw (G.2.1 (F (F a 5) 0))) 0 (((G.1 (F a 2) 2).toInt)).toNat) := by
  unfold AnsR
  rw [← oq14]
  exact Or.inl ⟨rfl, _, List.mem_of_getElem? (qL_at (z := l1_19.toInt) (by omega)), show aI (G14.2.1 (F (F a 9) 5)) l1_19.toInt ≠ 0 by omega, (by first | exact Or.inl c45 | exact Or.inr (show aI (G14.2.1 (F (F a 9) 4)) l1_19.toInt = 0 by omega))⟩
theorem v_X10_answerOnPaper_65_9 {K : Nat → Nat} {F : Nat → Nat → Nat} (a : Nat) (G : XG) (G14 : XG) (l1_19 : Int32) (N19 : Nat) (x35 : Int32) (x53 : Int32)
    (ha : K a = 12)
    (pa : ∀ j : Int, 0 ≤ j → j < l1_19.toInt → aI (G14.2.1 (F (F a 9) 5)) j ≠ 0 → (G.1 a 18).toInt ≠ 0 ∧ aI (G14.2.1 (F (F a 9) 4)) j ≠ 0)
    (sb : 0 ≤ ((G.1 (F a 2) 2).toInt) ∧ ((G.1 (F a 2) 2).toInt) ≤ 12)
    (t14 : 0 ≤ ((G14.1 (F a 9) 6).toInt) ∧ ((G14.1 (F a 9) 6).toInt) ≤ 1080)
    (I19_0 : (0 : Int) ≤ l1_19.toInt)
    (hm19 : 2147483648 - l1_19.toInt < (((N19) + 1 : Nat) : Int))
    (c27 : ¬ (((G14.1 (F a 9) 6).toInt) ≤ l1_19.toInt))
    (t35 : ((0 ≤ l1_19.toInt ∧ l1_19.toInt < ((G14.1 (F a 9) 6).toInt) ∧ l1_19.toInt < 1080) ∧ x35.toInt = (aI (G14.2.1 (F (F a 9) 5)) (l1_19.toInt))) ∨ (¬ (0 ≤ l1_19.toInt ∧ l1_19.toInt < ((G14.1 (F a 9) 6).toInt) ∧ l1_19.toInt < 1080) ∧ x35.toInt = 0))
    (f53 : x35.toInt = 0 ∨ x35.toInt = 1)
    (c38 : ¬ (x35.toInt = 0))
    (f55 : ((G.1 a 18).toInt) = 0 ∨ ((G.1 a 18).toInt) = 1)
    (c45 : ¬ (((G.1 a 18).toInt) = 0))
    (t53 : ((0 ≤ l1_19.toInt ∧ l1_19.toInt < ((G14.1 (F a 9) 6).toInt) ∧ l1_19.toInt < 1080) ∧ x53.toInt = (aI (G14.2.1 (F (F a 9) 4)) (l1_19.toInt))) ∨ (¬ (0 ≤ l1_19.toInt ∧ l1_19.toInt < ((G14.1 (F a 9) 6).toInt) ∧ l1_19.toInt < 1080) ∧ x53.toInt = 0))
    (f58 : x53.toInt = 0 ∨ x53.toInt = 1)
    (c56 : x53.toInt ≠ 0) :
    ∀ j : Int, 0 ≤ j → j < (l1_19.toInt + 1) → aI (G14.2.1 (F (F a 9) 5)) j ≠ 0 → (G.1 a 18).toInt ≠ 0 ∧ aI (G14.2.1 (F (F a 9) 4)) j ≠ 0 := by
  intro j h1 h2 h3
  by_cases e : j = l1_19.toInt
  · subst e
    first
      | exact absurd h3 (by omega)
      | exact ⟨by omega, by omega⟩
  · exact pa j h1 (by omega) h3
theorem v_X10_answerOnPaper_61_10 {K : Nat → Nat} {F : Nat → Nat → Nat} (a : Nat) (G : XG) (G14 : XG) (l1_19 : Int32) (N19 : Nat) (x35 : Int32) (x53 : Int32)
    (ha : K a = 12)
    (oq14 : qL G14 F (F a 9) = gaL G (G.2.2.1 (F (F a 2) 1)) (vw (G.2.1 (F (F a 3) 0))) (vw (G.2.1 (F (F a 5) 0))) (0 : Int) (((G.1 (F a 2) 2).toInt)).toNat)
    (sb : 0 ≤ ((G.1 (F a 2) 2).toInt) ∧ ((G.1 (F a 2) 2).toInt) ≤ 12)
    (t14 : 0 ≤ ((G14.1 (F a 9) 6).toInt) ∧ ((G14.1 (F a 9) 6).toInt) ≤ 1080)
    (I19_0 : (0 : Int) ≤ l1_19.toInt)
    (hm19 : 2147483648 - l1_19.toInt < (((N19) + 1 : Nat) : Int))
    (c27 : ¬ (((G14.1 (F a 9) 6).toInt) ≤ l1_19.toInt))
    (t35 : ((0 ≤ l1_19.toInt ∧ l1_19.toInt < ((G14.1 (F a 9) 6).toInt) ∧ l1_19.toInt < 1080) ∧ x35.toInt = (aI (G14.2.1 (F (F a 9) 5)) (l1_19.toInt))) ∨ (¬ (0 ≤ l1_19.toInt ∧ l1_19.toInt < ((G14.1 (F a 9) 6).toInt) ∧ l1_19.toInt < 1080) ∧ x35.toInt = 0))
    (f52 : x35.toInt = 0 ∨ x35.toInt = 1)
    (c38 : ¬ (x35.toInt = 0))
    (f54 : ((G.1 a 18).toInt) = 0 ∨ ((G.1 a 18).toInt) = 1)
    (c45 : ¬ (((G.1 a 18).toInt) = 0))
    (t53 : ((0 ≤ l1_19.toInt ∧ l1_19.toInt < ((G14.1 (F a 9) 6).toInt) ∧ l1_19.toInt < 1080) ∧ x53.toInt = (aI (G14.2.1 (F (F a 9) 4)) (l1_19.toInt))) ∨ (¬ (0 ≤ l1_19.toInt ∧ l1_19.toInt < ((G14.1 (F a 9) 6).toInt) ∧ l1_19.toInt < 1080) ∧ x53.toInt = 0))
    (f57 : x53.toInt = 0 ∨ x53.toInt = 1)
    (c56 : ¬ (x53.toInt ≠ 0)) :
    AnsR ((G.1 a 18).toInt) (-5 : Int) (gaL G (G.2.2.1 (F (F a 2) 1)) (vw (G.2.1 (F (F a 3) 0))) (vw (G.2.1 (F (F a 5) 0))) 0 (((G.1 (F a 2) 2).toInt)).toNat) := by
  unfold AnsR
  rw [← oq14]
  exact Or.inl ⟨rfl, _, List.mem_of_getElem? (qL_at (z := l1_19.toInt) (by omega)), show aI (G14.2.1 (F (F a 9) 5)) l1_19.toInt ≠ 0 by omega, (by first | exact Or.inl c45 | exact Or.inr (show aI (G14.2.1 (F (F a 9) 4)) l1_19.toInt = 0 by omega))⟩
theorem v_X10_answerOnPaper_18_11 {K : Nat → Nat} {F : Nat → Nat → Nat} (a : Nat) (G : XG) (G14 : XG)
    (ha : K a = 12)
    (sb : 0 ≤ ((G.1 (F a 2) 2).toInt) ∧ ((G.1 (F a 2) 2).toInt) ≤ 12)
    (t14 : 0 ≤ ((G14.1 (F a 9) 6).toInt) ∧ ((G14.1 (F a 9) 6).toInt) ≤ 1080) :
    ∀ j : Int, 0 ≤ j → j < (0 : Int) → aI (G14.2.1 (F (F a 9) 5)) j ≠ 0 → (G.1 a 18).toInt ≠ 0 ∧ aI (G14.2.1 (F (F a 9) 4)) j ≠ 0 := by
  intro j h1 h2; exact absurd h1 (by omega)
theorem v_X10_rows_41_1 {F : Nat → Nat → Nat} (a : Nat) (G : XG)
    (ron : RO (vw (G.2.1 (F (F a 3) 0))) (aI (G.2.1 (F (F a 3) 1)))) :
    RO (vw (G.2.1 (F (F a 3) 0))) (aI (G.2.1 (F (F a 3) 1))) := by exact ron
theorem v_X10_told_16_1 {F : Nat → Nat → Nat} (a : Nat) (p0 : Int32) (G : XG) (p1 : Int32)
    (hn5 : (p0.toInt < 0 ∨ 12 ≤ p0.toInt) ∨ G.2.2.1 (F (F a 2) 0) (p0.toInt).toNat = none) :
    (((p0.toInt < 0 ∨ 12 ≤ p0.toInt) ∨ G.2.2.1 (F (F a 2) 0) (p0.toInt).toNat = none) ∧ (-2147483648 : Int) = -2147483648) ∨ (∃ q : Nat, ((0 ≤ p0.toInt ∧ p0.toInt < 12) ∧ G.2.2.1 (F (F a 2) 0) (p0.toInt).toNat = some q) ∧ (-2147483648 : Int) = tdC (G.1 q) (cnQ (qL G F (F a 8)) p0.toInt) p1.toInt) := by
  exact Or.inl ⟨hn5, rfl⟩
theorem v_X10_told_137_2 {K : Nat → Nat} {F : Nat → Nat → Nat} (a : Nat) (q5 : Nat) (G : XG) (p0 : Int32) (p1 : Int32)
    (ha : K a = 12)
    (hs5 : G.2.2.1 (F (F a 2) 0) (p0.toInt).toNat = some q5)
    (w8 : 0 ≤ ((G.1 (F a 8) 6).toInt) ∧ ((G.1 (F a 8) 6).toInt) ≤ 1080)
    (ht5 : 0 ≤ p0.toInt ∧ p0.toInt < 12)
    (c18 : p1.toInt < 0 ∨ 9 < p1.toInt) :
    (((p0.toInt < 0 ∨ 12 ≤ p0.toInt) ∨ G.2.2.1 (F (F a 2) 0) (p0.toInt).toNat = none) ∧ (-2147483648 : Int) = -2147483648) ∨ (∃ q : Nat, ((0 ≤ p0.toInt ∧ p0.toInt < 12) ∧ G.2.2.1 (F (F a 2) 0) (p0.toInt).toNat = some q) ∧ (-2147483648 : Int) = tdC (G.1 q) (cnQ (qL G F (F a 8)) p0.toInt) p1.toInt) := by
  exact Or.inr ⟨q5, ⟨ht5, hs5⟩, (tdC_o (by omega)).symm⟩
theorem v_X10_told_76_3 {F : Nat → Nat → Nat} (a : Nat) (q5 : Nat) (G : XG) (p0 : Int32) (p1 : Int32)
    (hs5 : G.2.2.1 (F (F a 2) 0) (p0.toInt).toNat = some q5)
    (ht5 : 0 ≤ p0.toInt ∧ p0.toInt < 12)
    (c18 : p1.toInt = 0) :
    (((p0.toInt < 0 ∨ 12 ≤ p0.toInt) ∨ G.2.2.1 (F (F a 2) 0) (p0.toInt).toNat = none) ∧ ((G.1 q5 0).toInt) = -2147483648) ∨ (∃ q : Nat, ((0 ≤ p0.toInt ∧ p0.toInt < 12) ∧ G.2.2.1 (F (F a 2) 0) (p0.toInt).toNat = some q) ∧ ((G.1 q5 0).toInt) = tdC (G.1 q) (cnQ (qL G F (F a 8)) p0.toInt) p1.toInt) := by
  exact Or.inr ⟨q5, ⟨ht5, hs5⟩, (tdC_0 c18).symm⟩
theorem v_X10_told_81_4 {F : Nat → Nat → Nat} (a : Nat) (q5 : Nat) (G : XG) (p0 : Int32) (p1 : Int32)
    (hs5 : G.2.2.1 (F (F a 2) 0) (p0.toInt).toNat = some q5)
    (ht5 : 0 ≤ p0.toInt ∧ p0.toInt < 12)
    (c18 : p1.toInt = 1) :
    (((p0.toInt < 0 ∨ 12 ≤ p0.toInt) ∨ G.2.2.1 (F (F a 2) 0) (p0.toInt).toNat = none) ∧ ((G.1 q5 2).toInt) = -2147483648) ∨ (∃ q : Nat, ((0 ≤ p0.toInt ∧ p0.toInt < 12) ∧ G.2.2.1 (F (F a 2) 0) (p0.toInt).toNat = some q) ∧ ((G.1 q5 2).toInt) = tdC (G.1 q) (cnQ (qL G F (F a 8)) p0.toInt) p1.toInt) := by
  exact Or.inr ⟨q5, ⟨ht5, hs5⟩, (tdC_1 c18).symm⟩
theorem v_X10_told_86_5 {F : Nat → Nat → Nat} (a : Nat) (q5 : Nat) (G : XG) (p0 : Int32) (p1 : Int32)
    (hs5 : G.2.2.1 (F (F a 2) 0) (p0.toInt).toNat = some q5)
    (ht5 : 0 ≤ p0.toInt ∧ p0.toInt < 12)
    (c18 : p1.toInt = 2) :
    (((p0.toInt < 0 ∨ 12 ≤ p0.toInt) ∨ G.2.2.1 (F (F a 2) 0) (p0.toInt).toNat = none) ∧ ((G.1 q5 3).toInt) = -2147483648) ∨ (∃ q : Nat, ((0 ≤ p0.toInt ∧ p0.toInt < 12) ∧ G.2.2.1 (F (F a 2) 0) (p0.toInt).toNat = some q) ∧ ((G.1 q5 3).toInt) = tdC (G.1 q) (cnQ (qL G F (F a 8)) p0.toInt) p1.toInt) := by
  exact Or.inr ⟨q5, ⟨ht5, hs5⟩, (tdC_2 c18).symm⟩
theorem v_X10_told_91_6 {F : Nat → Nat → Nat} (a : Nat) (q5 : Nat) (G : XG) (p0 : Int32) (p1 : Int32)
    (hs5 : G.2.2.1 (F (F a 2) 0) (p0.toInt).toNat = some q5)
    (ht5 : 0 ≤ p0.toInt ∧ p0.toInt < 12)
    (c18 : p1.toInt = 3) :
    (((p0.toInt < 0 ∨ 12 ≤ p0.toInt) ∨ G.2.2.1 (F (F a 2) 0) (p0.toInt).toNat = none) ∧ ((G.1 q5 4).toInt) = -2147483648) ∨ (∃ q : Nat, ((0 ≤ p0.toInt ∧ p0.toInt < 12) ∧ G.2.2.1 (F (F a 2) 0) (p0.toInt).toNat = some q) ∧ ((G.1 q5 4).toInt) = tdC (G.1 q) (cnQ (qL G F (F a 8)) p0.toInt) p1.toInt) := by
  exact Or.inr ⟨q5, ⟨ht5, hs5⟩, (tdC_3 c18).symm⟩
theorem v_X10_told_96_7 {F : Nat → Nat → Nat} (a : Nat) (q5 : Nat) (G : XG) (p0 : Int32) (p1 : Int32)
    (hs5 : G.2.2.1 (F (F a 2) 0) (p0.toInt).toNat = some q5)
    (ht5 : 0 ≤ p0.toInt ∧ p0.toInt < 12)
    (c18 : p1.toInt = 4) :
    (((p0.toInt < 0 ∨ 12 ≤ p0.toInt) ∨ G.2.2.1 (F (F a 2) 0) (p0.toInt).toNat = none) ∧ ((G.1 q5 5).toInt) = -2147483648) ∨ (∃ q : Nat, ((0 ≤ p0.toInt ∧ p0.toInt < 12) ∧ G.2.2.1 (F (F a 2) 0) (p0.toInt).toNat = some q) ∧ ((G.1 q5 5).toInt) = tdC (G.1 q) (cnQ (qL G F (F a 8)) p0.toInt) p1.toInt) := by
  exact Or.inr ⟨q5, ⟨ht5, hs5⟩, (tdC_4 c18).symm⟩
theorem v_X10_told_101_8 {F : Nat → Nat → Nat} (a : Nat) (q5 : Nat) (G : XG) (p0 : Int32) (p1 : Int32)
    (hs5 : G.2.2.1 (F (F a 2) 0) (p0.toInt).toNat = some q5)
    (ht5 : 0 ≤ p0.toInt ∧ p0.toInt < 12)
    (c18 : p1.toInt = 5) :
    (((p0.toInt < 0 ∨ 12 ≤ p0.toInt) ∨ G.2.2.1 (F (F a 2) 0) (p0.toInt).toNat = none) ∧ ((G.1 q5 6).toInt) = -2147483648) ∨ (∃ q : Nat, ((0 ≤ p0.toInt ∧ p0.toInt < 12) ∧ G.2.2.1 (F (F a 2) 0) (p0.toInt).toNat = some q) ∧ ((G.1 q5 6).toInt) = tdC (G.1 q) (cnQ (qL G F (F a 8)) p0.toInt) p1.toInt) := by
  exact Or.inr ⟨q5, ⟨ht5, hs5⟩, (tdC_5 c18).symm⟩
theorem v_X10_told_114_9 {K : Nat → Nat} {F : Nat → Nat → Nat} (a : Nat) (q5 : Nat) (G : XG) (p0 : Int32) (p1 : Int32)
    (ha : K a = 12)
    (hs5 : G.2.2.1 (F (F a 2) 0) (p0.toInt).toNat = some q5)
    (w8 : 0 ≤ ((G.1 (F a 8) 6).toInt) ∧ ((G.1 (F a 8) 6).toInt) ≤ 1080)
    (ht5 : 0 ≤ p0.toInt ∧ p0.toInt < 12)
    (c18 : p1.toInt = 6)
    (f12 : ((G.1 q5 9).toInt) = 0 ∨ ((G.1 q5 9).toInt) = 1)
    (c106 : ((G.1 q5 9).toInt) = 0) :
    (((p0.toInt < 0 ∨ 12 ≤ p0.toInt) ∨ G.2.2.1 (F (F a 2) 0) (p0.toInt).toNat = none) ∧ (0 : Int) = -2147483648) ∨ (∃ q : Nat, ((0 ≤ p0.toInt ∧ p0.toInt < 12) ∧ G.2.2.1 (F (F a 2) 0) (p0.toInt).toNat = some q) ∧ (0 : Int) = tdC (G.1 q) (cnQ (qL G F (F a 8)) p0.toInt) p1.toInt) := by
  exact Or.inr ⟨q5, ⟨ht5, hs5⟩, (by rw [tdC_6 c18]; omega)⟩
theorem v_X10_told_114_10 {K : Nat → Nat} {F : Nat → Nat → Nat} (a : Nat) (q5 : Nat) (G : XG) (p0 : Int32) (p1 : Int32)
    (ha : K a = 12)
    (hs5 : G.2.2.1 (F (F a 2) 0) (p0.toInt).toNat = some q5)
    (w8 : 0 ≤ ((G.1 (F a 8) 6).toInt) ∧ ((G.1 (F a 8) 6).toInt) ≤ 1080)
    (ht5 : 0 ≤ p0.toInt ∧ p0.toInt < 12)
    (c18 : p1.toInt = 6)
    (f12 : ((G.1 q5 9).toInt) = 0 ∨ ((G.1 q5 9).toInt) = 1)
    (c106 : ¬ (((G.1 q5 9).toInt) = 0)) :
    (((p0.toInt < 0 ∨ 12 ≤ p0.toInt) ∨ G.2.2.1 (F (F a 2) 0) (p0.toInt).toNat = none) ∧ (1 : Int) = -2147483648) ∨ (∃ q : Nat, ((0 ≤ p0.toInt ∧ p0.toInt < 12) ∧ G.2.2.1 (F (F a 2) 0) (p0.toInt).toNat = some q) ∧ (1 : Int) = tdC (G.1 q) (cnQ (qL G F (F a 8)) p0.toInt) p1.toInt) := by
  exact Or.inr ⟨q5, ⟨ht5, hs5⟩, (by rw [tdC_6 c18]; omega)⟩
theorem v_X10_told_119_11 {F : Nat → Nat → Nat} (a : Nat) (q5 : Nat) (G : XG) (p0 : Int32) (p1 : Int32)
    (hs5 : G.2.2.1 (F (F a 2) 0) (p0.toInt).toNat = some q5)
    (ht5 : 0 ≤ p0.toInt ∧ p0.toInt < 12)
    (c18 : p1.toInt = 7) :
    (((p0.toInt < 0 ∨ 12 ≤ p0.toInt) ∨ G.2.2.1 (F (F a 2) 0) (p0.toInt).toNat = none) ∧ ((G.1 q5 8).toInt) = -2147483648) ∨ (∃ q : Nat, ((0 ≤ p0.toInt ∧ p0.toInt < 12) ∧ G.2.2.1 (F (F a 2) 0) (p0.toInt).toNat = some q) ∧ ((G.1 q5 8).toInt) = tdC (G.1 q) (cnQ (qL G F (F a 8)) p0.toInt) p1.toInt) := by
  exact Or.inr ⟨q5, ⟨ht5, hs5⟩, (tdC_7 c18).symm⟩
theorem v_X10_told_124_12 {F : Nat → Nat → Nat} (a : Nat) (q5 : Nat) (G : XG) (p0 : Int32) (p1 : Int32)
    (hs5 : G.2.2.1 (F (F a 2) 0) (p0.toInt).toNat = some q5)
    (ht5 : 0 ≤ p0.toInt ∧ p0.toInt < 12)
    (c18 : p1.toInt = 8) :
    (((p0.toInt < 0 ∨ 12 ≤ p0.toInt) ∨ G.2.2.1 (F (F a 2) 0) (p0.toInt).toNat = none) ∧ ((G.1 q5 7).toInt) = -2147483648) ∨ (∃ q : Nat, ((0 ≤ p0.toInt ∧ p0.toInt < 12) ∧ G.2.2.1 (F (F a 2) 0) (p0.toInt).toNat = some q) ∧ ((G.1 q5 7).toInt) = tdC (G.1 q) (cnQ (qL G F (F a 8)) p0.toInt) p1.toInt) := by
  exact Or.inr ⟨q5, ⟨ht5, hs5⟩, (tdC_8 c18).symm⟩
theorem v_X10_told_133_13 {F : Nat → Nat → Nat} (a : Nat) (q5 : Nat) (G : XG) (p0 : Int32) (p1 : Int32)
    (hs5 : G.2.2.1 (F (F a 2) 0) (p0.toInt).toNat = some q5)
    (ht5 : 0 ≤ p0.toInt ∧ p0.toInt < 12)
    (c18 : p1.toInt = 9) :
    (((p0.toInt < 0 ∨ 12 ≤ p0.toInt) ∨ G.2.2.1 (F (F a 2) 0) (p0.toInt).toNat = none) ∧ (hv (aI (G.2.1 (F (F a 8) 0))) 0 (p0.toInt) ((G.1 (F a 8) 6).toInt)) = -2147483648) ∨ (∃ q : Nat, ((0 ≤ p0.toInt ∧ p0.toInt < 12) ∧ G.2.2.1 (F (F a 2) 0) (p0.toInt).toNat = some q) ∧ (hv (aI (G.2.1 (F (F a 8) 0))) 0 (p0.toInt) ((G.1 (F a 8) 6).toInt)) = tdC (G.1 q) (cnQ (qL G F (F a 8)) p0.toInt) p1.toInt) := by
  exact Or.inr ⟨q5, ⟨ht5, hs5⟩, (by rw [tdC_9 c18]; exact hv_qL G F (F a 8) _)⟩
theorem v_X10_group_68_1 {K : Nat → Nat} {F : Nat → Nat → Nat} (a : Nat) (G : XG) (x45 : Int32) (p1 : Int32) (p0 : Int32) (x29 : Int32)
    (ha : K a = 12)
    (w8 : 0 ≤ ((G.1 (F a 8) 6).toInt) ∧ ((G.1 (F a 8) 6).toInt) ≤ 1080)
    (c1 : p1.toInt = 0)
    (c13 : p0.toInt ≠ (-1 : Int))
    (t29 : (x29.toInt = -1 ∧ (p0.toInt < 0 ∨ (stF (aI (G.2.1 (F (F a 8) 0))) ((G.1 (F a 8) 6).toInt)) ≤ p0.toInt)) ∨ ((0 ≤ x29.toInt ∧ x29.toInt < ((G.1 (F a 8) 6).toInt)) ∧ (x29.toInt = 0 ∨ (aI (G.2.1 (F (F a 8) 0)) (x29.toInt)) ≠ (aI (G.2.1 (F (F a 8) 0)) (x29.toInt - 1))) ∧ (stF (aI (G.2.1 (F (F a 8) 0))) (x29.toInt)) = p0.toInt))
    (c35 : x29.toInt ≠ (-1 : Int))
    (t45 : ((0 ≤ x29.toInt ∧ x29.toInt < ((G.1 (F a 8) 6).toInt) ∧ x29.toInt < 1080) ∧ x45.toInt = (aI (G.2.1 (F (F a 8) 0)) (x29.toInt))) ∨ (¬ (0 ≤ x29.toInt ∧ x29.toInt < ((G.1 (F a 8) 6).toInt) ∧ x29.toInt < 1080) ∧ x45.toInt = -1))
    (c51 : p1.toInt ≠ 0) :
    ((p1.toInt < 0 ∨ 1 < p1.toInt) ∧ (hv (aI (G.2.1 (F (F a 8) 0))) 0 (x45.toInt) ((G.1 (F a 8) 6).toInt)) = -1) ∨ ((0 ≤ p1.toInt ∧ p1.toInt ≤ 1) ∧ GrC (aI (G.2.1 (F (F a 8) 0))) ((G.1 (F a 8) 6).toInt) p0.toInt p1.toInt (hv (aI (G.2.1 (F (F a 8) 0))) 0 (x45.toInt) ((G.1 (F a 8) 6).toInt))) := by
  have h45 : x45.toInt = aI (G.2.1 (F (F a 8) 0)) x29.toInt := by omega
  refine Or.inr ⟨by omega, Or.inr (Or.inr ⟨x29.toInt, by omega, by omega, by omega, ?_⟩)⟩
  first
    | (exfalso; omega)
    | exact Or.inl ⟨by omega, h45⟩
    | exact Or.inr ⟨by omega, by rw [h45]⟩
theorem v_X10_group_68_2 {K : Nat → Nat} {F : Nat → Nat → Nat} (a : Nat) (G : XG) (p1 : Int32) (p0 : Int32) (x29 : Int32) (x45 : Int32)
    (ha : K a = 12)
    (w8 : 0 ≤ ((G.1 (F a 8) 6).toInt) ∧ ((G.1 (F a 8) 6).toInt) ≤ 1080)
    (c1 : p1.toInt = 0)
    (c13 : p0.toInt ≠ (-1 : Int))
    (t29 : (x29.toInt = -1 ∧ (p0.toInt < 0 ∨ (stF (aI (G.2.1 (F (F a 8) 0))) ((G.1 (F a 8) 6).toInt)) ≤ p0.toInt)) ∨ ((0 ≤ x29.toInt ∧ x29.toInt < ((G.1 (F a 8) 6).toInt)) ∧ (x29.toInt = 0 ∨ (aI (G.2.1 (F (F a 8) 0)) (x29.toInt)) ≠ (aI (G.2.1 (F (F a 8) 0)) (x29.toInt - 1))) ∧ (stF (aI (G.2.1 (F (F a 8) 0))) (x29.toInt)) = p0.toInt))
    (c35 : x29.toInt ≠ (-1 : Int))
    (t45 : ((0 ≤ x29.toInt ∧ x29.toInt < ((G.1 (F a 8) 6).toInt) ∧ x29.toInt < 1080) ∧ x45.toInt = (aI (G.2.1 (F (F a 8) 0)) (x29.toInt))) ∨ (¬ (0 ≤ x29.toInt ∧ x29.toInt < ((G.1 (F a 8) 6).toInt) ∧ x29.toInt < 1080) ∧ x45.toInt = -1))
    (c51 : ¬ (p1.toInt ≠ 0)) :
    ((p1.toInt < 0 ∨ 1 < p1.toInt) ∧ x45.toInt = -1) ∨ ((0 ≤ p1.toInt ∧ p1.toInt ≤ 1) ∧ GrC (aI (G.2.1 (F (F a 8) 0))) ((G.1 (F a 8) 6).toInt) p0.toInt p1.toInt x45.toInt) := by
  have h45 : x45.toInt = aI (G.2.1 (F (F a 8) 0)) x29.toInt := by omega
  refine Or.inr ⟨by omega, Or.inr (Or.inr ⟨x29.toInt, by omega, by omega, by omega, ?_⟩)⟩
  first
    | (exfalso; omega)
    | exact Or.inl ⟨by omega, h45⟩
    | exact Or.inr ⟨by omega, by rw [h45]⟩
theorem v_X10_group_39_3 {K : Nat → Nat} {F : Nat → Nat → Nat} (a : Nat) (G : XG) (p1 : Int32) (p0 : Int32) (x29 : Int32)
    (ha : K a = 12)
    (w8 : 0 ≤ ((G.1 (F a 8) 6).toInt) ∧ ((G.1 (F a 8) 6).toInt) ≤ 1080)
    (c1 : p1.toInt = 0)
    (c13 : p0.toInt ≠ (-1 : Int))
    (t29 : (x29.toInt = -1 ∧ (p0.toInt < 0 ∨ (stF (aI (G.2.1 (F (F a 8) 0))) ((G.1 (F a 8) 6).toInt)) ≤ p0.toInt)) ∨ ((0 ≤ x29.toInt ∧ x29.toInt < ((G.1 (F a 8) 6).toInt)) ∧ (x29.toInt = 0 ∨ (aI (G.2.1 (F (F a 8) 0)) (x29.toInt)) ≠ (aI (G.2.1 (F (F a 8) 0)) (x29.toInt - 1))) ∧ (stF (aI (G.2.1 (F (F a 8) 0))) (x29.toInt)) = p0.toInt))
    (c35 : ¬ (x29.toInt ≠ (-1 : Int))) :
    ((p1.toInt < 0 ∨ 1 < p1.toInt) ∧ (-1 : Int) = -1) ∨ ((0 ≤ p1.toInt ∧ p1.toInt ≤ 1) ∧ GrC (aI (G.2.1 (F (F a 8) 0))) ((G.1 (F a 8) 6).toInt) p0.toInt p1.toInt (-1 : Int)) := by
  exact Or.inr ⟨by omega, Or.inr (Or.inl ⟨by omega, by omega, rfl⟩)⟩
theorem v_X10_group_23_4 {K : Nat → Nat} {F : Nat → Nat → Nat} (a : Nat) (G : XG) (p1 : Int32) (p0 : Int32)
    (ha : K a = 12)
    (w8 : 0 ≤ ((G.1 (F a 8) 6).toInt) ∧ ((G.1 (F a 8) 6).toInt) ≤ 1080)
    (c1 : p1.toInt = 0)
    (c13 : ¬ (p0.toInt ≠ (-1 : Int))) :
    ((p1.toInt < 0 ∨ 1 < p1.toInt) ∧ (stF (aI (G.2.1 (F (F a 8) 0))) ((G.1 (F a 8) 6).toInt)) = -1) ∨ ((0 ≤ p1.toInt ∧ p1.toInt ≤ 1) ∧ GrC (aI (G.2.1 (F (F a 8) 0))) ((G.1 (F a 8) 6).toInt) p0.toInt p1.toInt (stF (aI (G.2.1 (F (F a 8) 0))) ((G.1 (F a 8) 6).toInt))) := by
  exact Or.inr ⟨by omega, Or.inl ⟨by omega, rfl⟩⟩
theorem v_X10_group_68_5 {K : Nat → Nat} {F : Nat → Nat → Nat} (a : Nat) (G : XG) (x45 : Int32) (p1 : Int32) (p0 : Int32) (x29 : Int32)
    (ha : K a = 12)
    (w8 : 0 ≤ ((G.1 (F a 8) 6).toInt) ∧ ((G.1 (F a 8) 6).toInt) ≤ 1080)
    (c1 : ¬ (p1.toInt = 0))
    (c6 : p1.toInt = (1 : Int))
    (c13 : p0.toInt ≠ (-1 : Int))
    (t29 : (x29.toInt = -1 ∧ (p0.toInt < 0 ∨ (stF (aI (G.2.1 (F (F a 8) 0))) ((G.1 (F a 8) 6).toInt)) ≤ p0.toInt)) ∨ ((0 ≤ x29.toInt ∧ x29.toInt < ((G.1 (F a 8) 6).toInt)) ∧ (x29.toInt = 0 ∨ (aI (G.2.1 (F (F a 8) 0)) (x29.toInt)) ≠ (aI (G.2.1 (F (F a 8) 0)) (x29.toInt - 1))) ∧ (stF (aI (G.2.1 (F (F a 8) 0))) (x29.toInt)) = p0.toInt))
    (c35 : x29.toInt ≠ (-1 : Int))
    (t45 : ((0 ≤ x29.toInt ∧ x29.toInt < ((G.1 (F a 8) 6).toInt) ∧ x29.toInt < 1080) ∧ x45.toInt = (aI (G.2.1 (F (F a 8) 0)) (x29.toInt))) ∨ (¬ (0 ≤ x29.toInt ∧ x29.toInt < ((G.1 (F a 8) 6).toInt) ∧ x29.toInt < 1080) ∧ x45.toInt = -1))
    (c51 : p1.toInt ≠ 0) :
    ((p1.toInt < 0 ∨ 1 < p1.toInt) ∧ (hv (aI (G.2.1 (F (F a 8) 0))) 0 (x45.toInt) ((G.1 (F a 8) 6).toInt)) = -1) ∨ ((0 ≤ p1.toInt ∧ p1.toInt ≤ 1) ∧ GrC (aI (G.2.1 (F (F a 8) 0))) ((G.1 (F a 8) 6).toInt) p0.toInt p1.toInt (hv (aI (G.2.1 (F (F a 8) 0))) 0 (x45.toInt) ((G.1 (F a 8) 6).toInt))) := by
  have h45 : x45.toInt = aI (G.2.1 (F (F a 8) 0)) x29.toInt := by omega
  refine Or.inr ⟨by omega, Or.inr (Or.inr ⟨x29.toInt, by omega, by omega, by omega, ?_⟩)⟩
  first
    | (exfalso; omega)
    | exact Or.inl ⟨by omega, h45⟩
    | exact Or.inr ⟨by omega, by rw [h45]⟩
theorem v_X10_group_68_6 {K : Nat → Nat} {F : Nat → Nat → Nat} (a : Nat) (G : XG) (p1 : Int32) (p0 : Int32) (x29 : Int32) (x45 : Int32)
    (ha : K a = 12)
    (w8 : 0 ≤ ((G.1 (F a 8) 6).toInt) ∧ ((G.1 (F a 8) 6).toInt) ≤ 1080)
    (c1 : ¬ (p1.toInt = 0))
    (c6 : p1.toInt = (1 : Int))
    (c13 : p0.toInt ≠ (-1 : Int))
    (t29 : (x29.toInt = -1 ∧ (p0.toInt < 0 ∨ (stF (aI (G.2.1 (F (F a 8) 0))) ((G.1 (F a 8) 6).toInt)) ≤ p0.toInt)) ∨ ((0 ≤ x29.toInt ∧ x29.toInt < ((G.1 (F a 8) 6).toInt)) ∧ (x29.toInt = 0 ∨ (aI (G.2.1 (F (F a 8) 0)) (x29.toInt)) ≠ (aI (G.2.1 (F (F a 8) 0)) (x29.toInt - 1))) ∧ (stF (aI (G.2.1 (F (F a 8) 0))) (x29.toInt)) = p0.toInt))
    (c35 : x29.toInt ≠ (-1 : Int))
    (t45 : ((0 ≤ x29.toInt ∧ x29.toInt < ((G.1 (F a 8) 6).toInt) ∧ x29.toInt < 1080) ∧ x45.toInt = (aI (G.2.1 (F (F a 8) 0)) (x29.toInt))) ∨ (¬ (0 ≤ x29.toInt ∧ x29.toInt < ((G.1 (F a 8) 6).toInt) ∧ x29.toInt < 1080) ∧ x45.toInt = -1))
    (c51 : ¬ (p1.toInt ≠ 0)) :
    ((p1.toInt < 0 ∨ 1 < p1.toInt) ∧ x45.toInt = -1) ∨ ((0 ≤ p1.toInt ∧ p1.toInt ≤ 1) ∧ GrC (aI (G.2.1 (F (F a 8) 0))) ((G.1 (F a 8) 6).toInt) p0.toInt p1.toInt x45.toInt) := by
  have h45 : x45.toInt = aI (G.2.1 (F (F a 8) 0)) x29.toInt := by omega
  refine Or.inr ⟨by omega, Or.inr (Or.inr ⟨x29.toInt, by omega, by omega, by omega, ?_⟩)⟩
  first
    | (exfalso; omega)
    | exact Or.inl ⟨by omega, h45⟩
    | exact Or.inr ⟨by omega, by rw [h45]⟩
theorem v_X10_group_39_7 {K : Nat → Nat} {F : Nat → Nat → Nat} (a : Nat) (G : XG) (p1 : Int32) (p0 : Int32) (x29 : Int32)
    (ha : K a = 12)
    (w8 : 0 ≤ ((G.1 (F a 8) 6).toInt) ∧ ((G.1 (F a 8) 6).toInt) ≤ 1080)
    (c1 : ¬ (p1.toInt = 0))
    (c6 : p1.toInt = (1 : Int))
    (c13 : p0.toInt ≠ (-1 : Int))
    (t29 : (x29.toInt = -1 ∧ (p0.toInt < 0 ∨ (stF (aI (G.2.1 (F (F a 8) 0))) ((G.1 (F a 8) 6).toInt)) ≤ p0.toInt)) ∨ ((0 ≤ x29.toInt ∧ x29.toInt < ((G.1 (F a 8) 6).toInt)) ∧ (x29.toInt = 0 ∨ (aI (G.2.1 (F (F a 8) 0)) (x29.toInt)) ≠ (aI (G.2.1 (F (F a 8) 0)) (x29.toInt - 1))) ∧ (stF (aI (G.2.1 (F (F a 8) 0))) (x29.toInt)) = p0.toInt))
    (c35 : ¬ (x29.toInt ≠ (-1 : Int))) :
    ((p1.toInt < 0 ∨ 1 < p1.toInt) ∧ (-1 : Int) = -1) ∨ ((0 ≤ p1.toInt ∧ p1.toInt ≤ 1) ∧ GrC (aI (G.2.1 (F (F a 8) 0))) ((G.1 (F a 8) 6).toInt) p0.toInt p1.toInt (-1 : Int)) := by
  exact Or.inr ⟨by omega, Or.inr (Or.inl ⟨by omega, by omega, rfl⟩)⟩
theorem v_X10_group_23_8 {K : Nat → Nat} {F : Nat → Nat → Nat} (a : Nat) (G : XG) (p1 : Int32) (p0 : Int32)
    (ha : K a = 12)
    (w8 : 0 ≤ ((G.1 (F a 8) 6).toInt) ∧ ((G.1 (F a 8) 6).toInt) ≤ 1080)
    (c1 : ¬ (p1.toInt = 0))
    (c6 : p1.toInt = (1 : Int))
    (c13 : ¬ (p0.toInt ≠ (-1 : Int))) :
    ((p1.toInt < 0 ∨ 1 < p1.toInt) ∧ (stF (aI (G.2.1 (F (F a 8) 0))) ((G.1 (F a 8) 6).toInt)) = -1) ∨ ((0 ≤ p1.toInt ∧ p1.toInt ≤ 1) ∧ GrC (aI (G.2.1 (F (F a 8) 0))) ((G.1 (F a 8) 6).toInt) p0.toInt p1.toInt (stF (aI (G.2.1 (F (F a 8) 0))) ((G.1 (F a 8) 6).toInt))) := by
  exact Or.inr ⟨by omega, Or.inl ⟨by omega, rfl⟩⟩
theorem v_X10_group_10_9 {K : Nat → Nat} {F : Nat → Nat → Nat} (a : Nat) (G : XG) (p1 : Int32) (p0 : Int32)
    (ha : K a = 12)
    (w8 : 0 ≤ ((G.1 (F a 8) 6).toInt) ∧ ((G.1 (F a 8) 6).toInt) ≤ 1080)
    (c1 : ¬ (p1.toInt = 0))
    (c6 : ¬ (p1.toInt = (1 : Int))) :
    ((p1.toInt < 0 ∨ 1 < p1.toInt) ∧ (-1 : Int) = -1) ∨ ((0 ≤ p1.toInt ∧ p1.toInt ≤ 1) ∧ GrC (aI (G.2.1 (F (F a 8) 0))) ((G.1 (F a 8) 6).toInt) p0.toInt p1.toInt (-1 : Int)) := by
  exact Or.inl ⟨by omega, rfl⟩
theorem v_X10_count_68_1 {F : Nat → Nat → Nat} (a : Nat) (G : XG)
    (ron : RO (vw (G.2.1 (F (F a 3) 0))) (aI (G.2.1 (F (F a 3) 1)))) :
    RO (vw (G.2.1 (F (F a 3) 0))) (aI (G.2.1 (F (F a 3) 1))) := by exact ron