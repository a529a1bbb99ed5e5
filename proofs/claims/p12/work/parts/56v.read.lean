theorem v_X8_addFour_70_1 {K : Nat → Nat} {F : Nat → Nat → Nat} (a : Nat) (G : XG) (G_16 : XG) (p0 : Int32) (x5 : Int32) (l2_16 : Int32) (N16 : Nat)
    (ha : K a = 10)
    (pf : ∀ z : Int, 0 ≤ z → aI (G_16.2.1 (F a 0)) z = if (G.1 a 1).toInt ≤ z ∧ z < ((G_16.1 a 1).toInt) then bqI p0 (24 - 8 * (z - (G.1 a 1).toInt)) else aI (G.2.1 (F a 0)) z)
    (n0 : 0 ≤ ((G.1 a 1).toInt) ∧ ((G.1 a 1).toInt) ≤ 80)
    (t5 : x5.toInt = ((G.1 a 1).toInt) + (4 : Int) ∨ ((G.1 a 1).toInt) + (4 : Int) < -2147483648 ∨ 2147483648 ≤ ((G.1 a 1).toInt) + (4 : Int))
    (c8 : x5.toInt ≤ (80 : Int))
    (I16_0 : -8 ≤ l2_16.toInt ∧ l2_16.toInt ≤ 24)
    (I16_1 : 8 * (((G_16.1 a 1).toInt) - ((G.1 a 1).toInt)) = 24 - l2_16.toInt)
    (hm16 : 100 + l2_16.toInt < (((N16) + 1 : Nat) : Int))
    (c17 : l2_16.toInt < 0) :
    ((1 : Int) = 0 ∧ G_16.2.1 (F a 0) = (G.2.1 (F a 0))) ∨ ((1 : Int) = 1 ∧ ∀ z : Int, 0 ≤ z → aI (G_16.2.1 (F a 0)) z = if ((G.1 a 1).toInt) ≤ z ∧ z < ((G.1 a 1).toInt) + 4 then bqI p0 (24 - 8 * (z - ((G.1 a 1).toInt))) else aI (G.2.1 (F a 0)) z) := by
  refine Or.inr ⟨rfl, fun z hz => ?_⟩
  rw [pf z hz, show (G_16.1 a 1).toInt = (G.1 a 1).toInt + 4 from by omega]
theorem v_X8_addFour_66_2 {K : Nat → Nat} {F : Nat → Nat → Nat} (a : Nat) (G : XG) (G_16 : XG) (p0 : Int32) (l2_16 : Int32) (x5 : Int32) (N16 : Nat)
    (ha : K a = 10)
    (n0 : 0 ≤ ((G.1 a 1).toInt) ∧ ((G.1 a 1).toInt) ≤ 80)
    (t5 : x5.toInt = ((G.1 a 1).toInt) + (4 : Int) ∨ ((G.1 a 1).toInt) + (4 : Int) < -2147483648 ∨ 2147483648 ≤ ((G.1 a 1).toInt) + (4 : Int))
    (c8 : x5.toInt ≤ (80 : Int))
    (I16_0 : -8 ≤ l2_16.toInt ∧ l2_16.toInt ≤ 24)
    (I16_1 : 8 * (((G_16.1 a 1).toInt) - ((G.1 a 1).toInt)) = 24 - l2_16.toInt)
    (hm16 : 100 + l2_16.toInt < (((N16) + 1 : Nat) : Int))
    (c17 : ¬ (l2_16.toInt < 0))
    (c24 : ((G_16.1 a 1).toInt) < 0) :
    ∀ z : Int, 0 ≤ z → aI (G_16.2.1 (F a 0)) z = if (G.1 a 1).toInt ≤ z ∧ z < ((G_16.1 a 1).toInt) then bqI p0 (24 - 8 * (z - (G.1 a 1).toInt)) else aI (G.2.1 (F a 0)) z := by
  exfalso; omega
theorem v_X8_addFour_66_3 {K : Nat → Nat} {F : Nat → Nat → Nat} (a : Nat) (G : XG) (G_16 : XG) (p0 : Int32) (l2_16 : Int32) (x5 : Int32) (N16 : Nat)
    (ha : K a = 10)
    (n0 : 0 ≤ ((G.1 a 1).toInt) ∧ ((G.1 a 1).toInt) ≤ 80)
    (t5 : x5.toInt = ((G.1 a 1).toInt) + (4 : Int) ∨ ((G.1 a 1).toInt) + (4 : Int) < -2147483648 ∨ 2147483648 ≤ ((G.1 a 1).toInt) + (4 : Int))
    (c8 : x5.toInt ≤ (80 : Int))
    (I16_0 : -8 ≤ l2_16.toInt ∧ l2_16.toInt ≤ 24)
    (I16_1 : 8 * (((G_16.1 a 1).toInt) - ((G.1 a 1).toInt)) = 24 - l2_16.toInt)
    (hm16 : 100 + l2_16.toInt < (((N16) + 1 : Nat) : Int))
    (c17 : ¬ (l2_16.toInt < 0))
    (c24 : ¬ (((G_16.1 a 1).toInt) < 0))
    (c33 : (80 : Int) ≤ ((G_16.1 a 1).toInt)) :
    ∀ z : Int, 0 ≤ z → aI (G_16.2.1 (F a 0)) z = if (G.1 a 1).toInt ≤ z ∧ z < ((G_16.1 a 1).toInt) then bqI p0 (24 - 8 * (z - (G.1 a 1).toInt)) else aI (G.2.1 (F a 0)) z := by
  exfalso; omega
theorem v_X8_addFour_66_4 {K : Nat → Nat} {F : Nat → Nat → Nat} (a : Nat) (G : XG) (G_16 : XG) (G52 : XG) (x51 : Int32) (p0 : Int32) (x46 : Int32) (l2_16 : Int32) (x50 : Int32) (x5 : Int32) (N16 : Nat)
    (ha : K a = 10)
    (hG52 : G52 = cput G_16 (F a 0) (G_16.1 a 1).toNatClampNeg x51)
    (pf : ∀ z : Int, 0 ≤ z → aI (G_16.2.1 (F a 0)) z = if (G.1 a 1).toInt ≤ z ∧ z < ((G_16.1 a 1).toInt) then bqI p0 (24 - 8 * (z - (G.1 a 1).toInt)) else aI (G.2.1 (F a 0)) z)
    (eb46 : x46 = (Int32.toUInt32 p0 >>> (Int32.toUInt32 l2_16 &&& Int32.toUInt32 31)).toInt32)
    (he50 : x50 = x46 &&& 255)
    (ec51 : x51 = (Int32.toUInt32 x50 % 65536).toInt32)
    (n0 : 0 ≤ ((G.1 a 1).toInt) ∧ ((G.1 a 1).toInt) ≤ 80)
    (t5 : x5.toInt = ((G.1 a 1).toInt) + (4 : Int) ∨ ((G.1 a 1).toInt) + (4 : Int) < -2147483648 ∨ 2147483648 ≤ ((G.1 a 1).toInt) + (4 : Int))
    (c8 : x5.toInt ≤ (80 : Int))
    (I16_0 : -8 ≤ l2_16.toInt ∧ l2_16.toInt ≤ 24)
    (I16_1 : 8 * (((G_16.1 a 1).toInt) - ((G.1 a 1).toInt)) = 24 - l2_16.toInt)
    (hm16 : 100 + l2_16.toInt < (((N16) + 1 : Nat) : Int))
    (c17 : ¬ (l2_16.toInt < 0))
    (c24 : ¬ (((G_16.1 a 1).toInt) < 0))
    (c33 : ¬ ((80 : Int) ≤ ((G_16.1 a 1).toInt))) :
    ∀ z : Int, 0 ≤ z → aI (G52.2.1 (F a 0)) z = if (G.1 a 1).toInt ≤ z ∧ z < (((G_16.1 a 1).toInt) + (1 : Int)) then bqI p0 (24 - 8 * (z - (G.1 a 1).toInt)) else aI (G.2.1 (F a 0)) z := by
  intro z hz
  have u := aI_pu hG52 rfl (rfl : (G_16.1 a 1).toInt = (G_16.1 a 1).toInt) (bq_c eb46 he50 ec51 rfl) (by omega) z hz
  rw [u, pf z hz]
  by_cases e : z = (G_16.1 a 1).toInt
  · rw [if_pos e, if_pos (by omega)]
    congr 1
    omega
  · rw [if_neg e]
    by_cases q : (G.1 a 1).toInt ≤ z ∧ z < (G_16.1 a 1).toInt
    · rw [if_pos q, if_pos (by omega)]
    · rw [if_neg q, if_neg (by omega)]
theorem v_X8_addFour_15_5 {K : Nat → Nat} {F : Nat → Nat → Nat} (a : Nat) (G : XG) (x5 : Int32) (p0 : Int32)
    (ha : K a = 10)
    (n0 : 0 ≤ ((G.1 a 1).toInt) ∧ ((G.1 a 1).toInt) ≤ 80)
    (t5 : x5.toInt = ((G.1 a 1).toInt) + (4 : Int) ∨ ((G.1 a 1).toInt) + (4 : Int) < -2147483648 ∨ 2147483648 ≤ ((G.1 a 1).toInt) + (4 : Int))
    (c8 : x5.toInt ≤ (80 : Int)) :
    ∀ z : Int, 0 ≤ z → aI (G.2.1 (F a 0)) z = if (G.1 a 1).toInt ≤ z ∧ z < ((G.1 a 1).toInt) then bqI p0 (24 - 8 * (z - (G.1 a 1).toInt)) else aI (G.2.1 (F a 0)) z := by
  intro z hz; rw [if_neg (by omega)]
theorem v_X8_addFour_12_6 {F : Nat → Nat → Nat} (a : Nat) (G : XG) (p0 : Int32) :
    ((0 : Int) = 0 ∧ G.2.1 (F a 0) = (G.2.1 (F a 0))) ∨ ((0 : Int) = 1 ∧ ∀ z : Int, 0 ≤ z → aI (G.2.1 (F a 0)) z = if ((G.1 a 1).toInt) ≤ z ∧ z < ((G.1 a 1).toInt) + 4 then bqI p0 (24 - 8 * (z - ((G.1 a 1).toInt))) else aI (G.2.1 (F a 0)) z) := by
  exact Or.inl ⟨rfl, rfl⟩
theorem v_X5_advanceWord_49_1 {K : Nat → Nat} {F : Nat → Nat → Nat} (a : Nat) (G : XG) (G_5 : XG) (N5 : Nat)
    (ha : K a = 7)
    (pr : ∀ j : Int, (G.1 a 3).toInt ≤ j → j < ((G_5.1 a 3).toInt) → cLt ((tC (G.2.1 (F (F a 0) 0)) ((G.1 (F a 0) 1).toInt)) j))
    (n0 : 0 ≤ ((G.1 (F a 0) 1).toInt) ∧ ((G.1 (F a 0) 1).toInt) ≤ 80)
    (s0 : 0 ≤ ((G.1 a 3).toInt) ∧ ((G.1 a 3).toInt) ≤ ((G.1 (F a 0) 1).toInt))
    (I5_0 : ((G.1 a 3).toInt) ≤ ((G_5.1 a 3).toInt) ∧ ((G_5.1 a 3).toInt) ≤ ((G.1 (F a 0) 1).toInt))
    (hm5 : 200 - ((G_5.1 a 3).toInt) < (((N5) + 1 : Nat) : Int))
    (c16 : ((G.1 (F a 0) 1).toInt) ≤ ((G_5.1 a 3).toInt)) :
    ((G_5.1 a 3).toInt) = rn cLt (tC (G.2.1 (F (F a 0) 0)) ((G.1 (F a 0) 1).toInt)) ((G.1 a 3).toInt) := by
  symm
  refine rn_eq ⟨by omega, pr, cLt_n ?_⟩
  rcases tC_f (G.2.1 (F (F a 0) 0)) ((G.1 (F a 0) 1).toInt) ((G_5.1 a 3).toInt) with h | h
  · omega
  · exact Or.inl h.2
theorem v_X5_advanceWord_49_2 {K : Nat → Nat} {F : Nat → Nat → Nat} (a : Nat) (G : XG) (G_5 : XG) (N5 : Nat) (x27 : Int32) (x30 : Int32)
    (ha : K a = 7)
    (pr : ∀ j : Int, (G.1 a 3).toInt ≤ j → j < ((G_5.1 a 3).toInt) → cLt ((tC (G.2.1 (F (F a 0) 0)) ((G.1 (F a 0) 1).toInt)) j))
    (n0 : 0 ≤ ((G.1 (F a 0) 1).toInt) ∧ ((G.1 (F a 0) 1).toInt) ≤ 80)
    (s0 : 0 ≤ ((G.1 a 3).toInt) ∧ ((G.1 a 3).toInt) ≤ ((G.1 (F a 0) 1).toInt))
    (I5_0 : ((G.1 a 3).toInt) ≤ ((G_5.1 a 3).toInt) ∧ ((G_5.1 a 3).toInt) ≤ ((G.1 (F a 0) 1).toInt))
    (hm5 : 200 - ((G_5.1 a 3).toInt) < (((N5) + 1 : Nat) : Int))
    (c16 : ¬ (((G.1 (F a 0) 1).toInt) ≤ ((G_5.1 a 3).toInt)))
    (t27 : x27.toInt = (tC (G.2.1 (F (F a 0) 0)) ((G.1 (F a 0) 1).toInt) ((G_5.1 a 3).toInt)))
    (t30 : (x30.toInt = 1 ∧ 97 ≤ x27.toInt ∧ x27.toInt ≤ 122) ∨ (x30.toInt = 0 ∧ (x27.toInt < 97 ∨ 122 < x27.toInt)))
    (c33 : x30.toInt = 0) :
    ((G_5.1 a 3).toInt) = rn cLt (tC (G.2.1 (F (F a 0) 0)) ((G.1 (F a 0) 1).toInt)) ((G.1 a 3).toInt) := by
  symm
  refine rn_eq ⟨by omega, pr, cLt_n ?_⟩
  rcases tC_f (G.2.1 (F (F a 0) 0)) ((G.1 (F a 0) 1).toInt) ((G_5.1 a 3).toInt) with h | h
  · omega
  · exact Or.inl h.2
theorem v_X5_advanceWord_46_3 {K : Nat → Nat} {F : Nat → Nat → Nat} (a : Nat) (G : XG) (G_5 : XG) (N5 : Nat) (x27 : Int32) (x30 : Int32)
    (ha : K a = 7)
    (pr : ∀ j : Int, (G.1 a 3).toInt ≤ j → j < ((G_5.1 a 3).toInt) → cLt ((tC (G.2.1 (F (F a 0) 0)) ((G.1 (F a 0) 1).toInt)) j))
    (n0 : 0 ≤ ((G.1 (F a 0) 1).toInt) ∧ ((G.1 (F a 0) 1).toInt) ≤ 80)
    (s0 : 0 ≤ ((G.1 a 3).toInt) ∧ ((G.1 a 3).toInt) ≤ ((G.1 (F a 0) 1).toInt))
    (I5_0 : ((G.1 a 3).toInt) ≤ ((G_5.1 a 3).toInt) ∧ ((G_5.1 a 3).toInt) ≤ ((G.1 (F a 0) 1).toInt))
    (hm5 : 200 - ((G_5.1 a 3).toInt) < (((N5) + 1 : Nat) : Int))
    (c16 : ¬ (((G.1 (F a 0) 1).toInt) ≤ ((G_5.1 a 3).toInt)))
    (t27 : x27.toInt = (tC (G.2.1 (F (F a 0) 0)) ((G.1 (F a 0) 1).toInt) ((G_5.1 a 3).toInt)))
    (t30 : (x30.toInt = 1 ∧ 97 ≤ x27.toInt ∧ x27.toInt ≤ 122) ∨ (x30.toInt = 0 ∧ (x27.toInt < 97 ∨ 122 < x27.toInt)))
    (c33 : ¬ (x30.toInt = 0)) :
    ∀ j : Int, (G.1 a 3).toInt ≤ j → j < (((G_5.1 a 3).toInt) + (1 : Int)) → cLt ((tC (G.2.1 (F (F a 0) 0)) ((G.1 (F a 0) 1).toInt)) j) := by
  intro j h1 h2
  by_cases e : j = (G_5.1 a 3).toInt
  · rw [e]; unfold cLt; omega
  · exact pr j h1 (by omega)
theorem v_X5_advanceWord_2_4 {K : Nat → Nat} {F : Nat → Nat → Nat} (a : Nat) (G : XG)
    (ha : K a = 7)
    (n0 : 0 ≤ ((G.1 (F a 0) 1).toInt) ∧ ((G.1 (F a 0) 1).toInt) ≤ 80)
    (s0 : 0 ≤ ((G.1 a 3).toInt) ∧ ((G.1 a 3).toInt) ≤ ((G.1 (F a 0) 1).toInt)) :
    ∀ j : Int, (G.1 a 3).toInt ≤ j → j < ((G.1 a 3).toInt) → cLt ((tC (G.2.1 (F (F a 0) 0)) ((G.1 (F a 0) 1).toInt)) j) := by
  intro j h1 h2; exact absurd h1 (by omega)
theorem v_X5_advanceNumber_152_1 {K : Nat → Nat} {F : Nat → Nat → Nat} (a : Nat) (G : XG) (G_47 : XG) (G149 : XG) (l2_47 : Int32) (x8 : Int32) (l3_47 : Int32) (N47 : Nat)
    (ha : K a = 7)
    (pr : ∀ j : Int, nS (tC (G.2.1 (F (F a 0) 0)) ((G.1 (F a 0) 1).toInt)) ((G.1 a 2).toInt) ≤ j → j < ((G_47.1 a 3).toInt) → cDg ((tC (G.2.1 (F (F a 0) 0)) ((G.1 (F a 0) 1).toInt)) j))
    (n0 : 0 ≤ ((G.1 (F a 0) 1).toInt) ∧ ((G.1 (F a 0) 1).toInt) ≤ 80)
    (s0 : 0 ≤ ((G.1 a 2).toInt) ∧ ((G.1 a 2).toInt) < ((G.1 (F a 0) 1).toInt))
    (z0 : ((tC (G.2.1 (F (F a 0) 0)) ((G.1 (F a 0) 1).toInt) ((G.1 a 2).toInt)) = 45 ∧ (nS (tC (G.2.1 (F (F a 0) 0)) ((G.1 (F a 0) 1).toInt)) ((G.1 a 2).toInt)) = ((G.1 a 2).toInt) + 1) ∨ ((tC (G.2.1 (F (F a 0) 0)) ((G.1 (F a 0) 1).toInt) ((G.1 a 2).toInt)) ≠ 45 ∧ (nS (tC (G.2.1 (F (F a 0) 0)) ((G.1 (F a 0) 1).toInt)) ((G.1 a 2).toInt)) = ((G.1 a 2).toInt)))
    (z0a : (nv (tC (G.2.1 (F (F a 0) 0)) ((G.1 (F a 0) 1).toInt)) (nS (tC (G.2.1 (F (F a 0) 0)) ((G.1 (F a 0) 1).toInt)) ((G.1 a 2).toInt)) 0) = 0)
    (t8 : x8.toInt = (tC (G.2.1 (F (F a 0) 0)) ((G.1 (F a 0) 1).toInt) ((G.1 a 2).toInt)))
    (c13 : x8.toInt ≠ (45 : Int))
    (I47_0 : ((G_47.1 a 3).toInt) = (nS (tC (G.2.1 (F (F a 0) 0)) ((G.1 (F a 0) 1).toInt)) ((G.1 a 2).toInt)) + l3_47.toInt)
    (I47_1 : 0 ≤ l3_47.toInt ∧ ((G_47.1 a 3).toInt) ≤ ((G.1 (F a 0) 1).toInt))
    (I47_2 : (l3_47.toInt = 0 ∧ l2_47.toInt = 0) ∨ (l3_47.toInt = 1 ∧ 0 ≤ l2_47.toInt ∧ l2_47.toInt ≤ 9) ∨ (l3_47.toInt = 2 ∧ 0 ≤ l2_47.toInt ∧ l2_47.toInt ≤ 99) ∨ (l3_47.toInt = 3 ∧ 0 ≤ l2_47.toInt ∧ l2_47.toInt ≤ 999) ∨ (4 ≤ l3_47.toInt ∧ 0 ≤ l2_47.toInt ∧ l2_47.toInt ≤ 9999))
    (I47_3 : l3_47.toInt ≤ 4 → l2_47.toInt = (nv (tC (G.2.1 (F (F a 0) 0)) ((G.1 (F a 0) 1).toInt)) (nS (tC (G.2.1 (F (F a 0) 0)) ((G.1 (F a 0) 1).toInt)) ((G.1 a 2).toInt)) (l3_47.toInt)))
    (hm47 : 200 - ((G_47.1 a 3).toInt) < (((N47) + 1 : Nat) : Int))
    (c58 : ((G.1 (F a 0) 1).toInt) ≤ ((G_47.1 a 3).toInt))
    (c122 : l3_47.toInt < (1 : Int))
    (d_G149_a_1 : G149.1 a 1 = 3)
    (d_G149_a_3 : G149.1 a 3 = G_47.1 a 3)
    (d_G149_a_4 : G149.1 a 4 = l2_47) :
    ((G149.1 a 3).toInt) = nE (tC (G.2.1 (F (F a 0) 0)) ((G.1 (F a 0) 1).toInt)) ((G.1 a 2).toInt) ∧ ((nOk (tC (G.2.1 (F (F a 0) 0)) ((G.1 (F a 0) 1).toInt)) ((G.1 a 2).toInt) ∧ ((G149.1 a 1).toInt) = 2 ∧ ((G149.1 a 4).toInt) = nVl (tC (G.2.1 (F (F a 0) 0)) ((G.1 (F a 0) 1).toInt)) ((G.1 a 2).toInt)) ∨ (¬ nOk (tC (G.2.1 (F (F a 0) 0)) ((G.1 (F a 0) 1).toInt)) ((G.1 a 2).toInt) ∧ ((G149.1 a 1).toInt) = 3)) := by
  have hE : nE (tC (G.2.1 (F (F a 0) 0)) ((G.1 (F a 0) 1).toInt)) ((G.1 a 2).toInt) = (G_47.1 a 3).toInt := by
    unfold nE
    refine rn_eq ⟨by omega, pr, cDg_n ?_⟩
    rcases tC_f (G.2.1 (F (F a 0) 0)) ((G.1 (F a 0) 1).toInt) ((G_47.1 a 3).toInt) with h | h
    · omega
    · exact Or.inl h.2
  have nf := nS_f (tC (G.2.1 (F (F a 0) 0)) ((G.1 (F a 0) 1).toInt)) ((G.1 a 2).toInt)
  have hk : l3_47.toInt = nE (tC (G.2.1 (F (F a 0) 0)) ((G.1 (F a 0) 1).toInt)) ((G.1 a 2).toInt) - nS (tC (G.2.1 (F (F a 0) 0)) ((G.1 (F a 0) 1).toInt)) ((G.1 a 2).toInt) := by omega
  have e3 : (G149.1 a 3).toInt = (G_47.1 a 3).toInt := by rw [d_G149_a_3]
  refine ⟨by omega, ?_⟩
  by_cases q : 1 ≤ l3_47.toInt ∧ l3_47.toInt ≤ 4
  · refine Or.inl ⟨⟨by omega, by omega⟩, ?_, ?_⟩
    · rw [d_G149_a_1]
      first | rfl | decide | (exfalso; omega)
    · rw [hk] at I47_3
      rw [d_G149_a_4]
      omega
  · refine Or.inr ⟨fun h => q (by have h1 := h.1; have h2 := h.2; omega), ?_⟩
    rw [d_G149_a_1]
    first | rfl | decide | (exfalso; omega)
theorem v_X5_advanceNumber_152_2 {K : Nat → Nat} {F : Nat → Nat → Nat} (a : Nat) (G : XG) (G_47 : XG) (G149 : XG) (l2_47 : Int32) (x8 : Int32) (l3_47 : Int32) (N47 : Nat)
    (ha : K a = 7)
    (pr : ∀ j : Int, nS (tC (G.2.1 (F (F a 0) 0)) ((G.1 (F a 0) 1).toInt)) ((G.1 a 2).toInt) ≤ j → j < ((G_47.1 a 3).toInt) → cDg ((tC (G.2.1 (F (F a 0) 0)) ((G.1 (F a 0) 1).toInt)) j))
    (n0 : 0 ≤ ((G.1 (F a 0) 1).toInt) ∧ ((G.1 (F a 0) 1).toInt) ≤ 80)
    (s0 : 0 ≤ ((G.1 a 2).toInt) ∧ ((G.1 a 2).toInt) < ((G.1 (F a 0) 1).toInt))
    (z0 : ((tC (G.2.1 (F (F a 0) 0)) ((G.1 (F a 0) 1).toInt) ((G.1 a 2).toInt)) = 45 ∧ (nS (tC (G.2.1 (F (F a 0) 0)) ((G.1 (F a 0) 1).toInt)) ((G.1 a 2).toInt)) = ((G.1 a 2).toInt) + 1) ∨ ((tC (G.2.1 (F (F a 0) 0)) ((G.1 (F a 0) 1).toInt) ((G.1 a 2).toInt)) ≠ 45 ∧ (nS (tC (G.2.1 (F (F a 0) 0)) ((G.1 (F a 0) 1).toInt)) ((G.1 a 2).toInt)) = ((G.1 a 2).toInt)))
    (z0a : (nv (tC (G.2.1 (F (F a 0) 0)) ((G.1 (F a 0) 1).toInt)) (nS (tC (G.2.1 (F (F a 0) 0)) ((G.1 (F a 0) 1).toInt)) ((G.1 a 2).toInt)) 0) = 0)
    (t8 : x8.toInt = (tC (G.2.1 (F (F a 0) 0)) ((G.1 (F a 0) 1).toInt) ((G.1 a 2).toInt)))
    (c13 : x8.toInt ≠ (45 : Int))
    (I47_0 : ((G_47.1 a 3).toInt) = (nS (tC (G.2.1 (F (F a 0) 0)) ((G.1 (F a 0) 1).toInt)) ((G.1 a 2).toInt)) + l3_47.toInt)
    (I47_1 : 0 ≤ l3_47.toInt ∧ ((G_47.1 a 3).toInt) ≤ ((G.1 (F a 0) 1).toInt))
    (I47_2 : (l3_47.toInt = 0 ∧ l2_47.toInt = 0) ∨ (l3_47.toInt = 1 ∧ 0 ≤ l2_47.toInt ∧ l2_47.toInt ≤ 9) ∨ (l3_47.toInt = 2 ∧ 0 ≤ l2_47.toInt ∧ l2_47.toInt ≤ 99) ∨ (l3_47.toInt = 3 ∧ 0 ≤ l2_47.toInt ∧ l2_47.toInt ≤ 999) ∨ (4 ≤ l3_47.toInt ∧ 0 ≤ l2_47.toInt ∧ l2_47.toInt ≤ 9999))
    (I47_3 : l3_47.toInt ≤ 4 → l2_47.toInt = (nv (tC (G.2.1 (F (F a 0) 0)) ((G.1 (F a 0) 1).toInt)) (nS (tC (G.2.1 (F (F a 0) 0)) ((G.1 (F a 0) 1).toInt)) ((G.1 a 2).toInt)) (l3_47.toInt)))
    (hm47 : 200 - ((G_47.1 a 3).toInt) < (((N47) + 1 : Nat) : Int))
    (c58 : ((G.1 (F a 0) 1).toInt) ≤ ((G_47.1 a 3).toInt))
    (c122 : ¬ (l3_47.toInt < (1 : Int)))
    (c127 : (4 : Int) < l3_47.toInt)
    (d_G149_a_1 : G149.1 a 1 = 3)
    (d_G149_a_3 : G149.1 a 3 = G_47.1 a 3)
    (d_G149_a_4 : G149.1 a 4 = l2_47) :
    ((G149.1 a 3).toInt) = nE (tC (G.2.1 (F (F a 0) 0)) ((G.1 (F a 0) 1).toInt)) ((G.1 a 2).toInt) ∧ ((nOk (tC (G.2.1 (F (F a 0) 0)) ((G.1 (F a 0) 1).toInt)) ((G.1 a 2).toInt) ∧ ((G149.1 a 1).toInt) = 2 ∧ ((G149.1 a 4).toInt) = nVl (tC (G.2.1 (F (F a 0) 0)) ((G.1 (F a 0) 1).toInt)) ((G.1 a 2).toInt)) ∨ (¬ nOk (tC (G.2.1 (F (F a 0) 0)) ((G.1 (F a 0) 1).toInt)) ((G.1 a 2).toInt) ∧ ((G149.1 a 1).toInt) = 3)) := by
  have hE : nE (tC (G.2.1 (F (F a 0) 0)) ((G.1 (F a 0) 1).toInt)) ((G.1 a 2).toInt) = (G_47.1 a 3).toInt := by
    unfold nE
    refine rn_eq ⟨by omega, pr, cDg_n ?_⟩
    rcases tC_f (G.2.1 (F (F a 0) 0)) ((G.1 (F a 0) 1).toInt) ((G_47.1 a 3).toInt) with h | h
    · omega
    · exact Or.inl h.2
  have nf := nS_f (tC (G.2.1 (F (F a 0) 0)) ((G.1 (F a 0) 1).toInt)) ((G.1 a 2).toInt)
  have hk : l3_47.toInt = nE (tC (G.2.1 (F (F a 0) 0)) ((G.1 (F a 0) 1).toInt)) ((G.1 a 2).toInt) - nS (tC (G.2.1 (F (F a 0) 0)) ((G.1 (F a 0) 1).toInt)) ((G.1 a 2).toInt) := by omega
  have e3 : (G149.1 a 3).toInt = (G_47.1 a 3).toInt := by rw [d_G149_a_3]
  refine ⟨by omega, ?_⟩
  by_cases q : 1 ≤ l3_47.toInt ∧ l3_47.toInt ≤ 4
  · refine Or.inl ⟨⟨by omega, by omega⟩, ?_, ?_⟩
    · rw [d_G149_a_1]
      first | rfl | decide | (exfalso; omega)
    · rw [hk] at I47_3
      rw [d_G149_a_4]
      omega
  · refine Or.inr ⟨fun h => q (by have h1 := h.1; have h2 := h.2; omega), ?_⟩
    rw [d_G149_a_1]
    first | rfl | decide | (exfalso; omega)
theorem v_X5_advanceNumber_152_3 {K : Nat → Nat} {F : Nat → Nat → Nat} (a : Nat) (G : XG) (G_47 : XG) (G149 : XG) (l2_47 : Int32) (x8 : Int32) (l3_47 : Int32) (N47 : Nat)
    (ha : K a = 7)
    (pr : ∀ j : Int, nS (tC (G.2.1 (F (F a 0) 0)) ((G.1 (F a 0) 1).toInt)) ((G.1 a 2).toInt) ≤ j → j < ((G_47.1 a 3).toInt) → cDg ((tC (G.2.1 (F (F a 0) 0)) ((G.1 (F a 0) 1).toInt)) j))
    (n0 : 0 ≤ ((G.1 (F a 0) 1).toInt) ∧ ((G.1 (F a 0) 1).toInt) ≤ 80)
    (s0 : 0 ≤ ((G.1 a 2).toInt) ∧ ((G.1 a 2).toInt) < ((G.1 (F a 0) 1).toInt))
    (z0 : ((tC (G.2.1 (F (F a 0) 0)) ((G.1 (F a 0) 1).toInt) ((G.1 a 2).toInt)) = 45 ∧ (nS (tC (G.2.1 (F (F a 0) 0)) ((G.1 (F a 0) 1).toInt)) ((G.1 a 2).toInt)) = ((G.1 a 2).toInt) + 1) ∨ ((tC (G.2.1 (F (F a 0) 0)) ((G.1 (F a 0) 1).toInt) ((G.1 a 2).toInt)) ≠ 45 ∧ (nS (tC (G.2.1 (F (F a 0) 0)) ((G.1 (F a 0) 1).toInt)) ((G.1 a 2).toInt)) = ((G.1 a 2).toInt)))
    (z0a : (nv (tC (G.2.1 (F (F a 0) 0)) ((G.1 (F a 0) 1).toInt)) (nS (tC (G.2.1 (F (F a 0) 0)) ((G.1 (F a 0) 1).toInt)) ((G.1 a 2).toInt)) 0) = 0)
    (t8 : x8.toInt = (tC (G.2.1 (F (F a 0) 0)) ((G.1 (F a 0) 1).toInt) ((G.1 a 2).toInt)))
    (c13 : x8.toInt ≠ (45 : Int))
    (I47_0 : ((G_47.1 a 3).toInt) = (nS (tC (G.2.1 (F (F a 0) 0)) ((G.1 (F a 0) 1).toInt)) ((G.1 a 2).toInt)) + l3_47.toInt)
    (I47_1 : 0 ≤ l3_47.toInt ∧ ((G_47.1 a 3).toInt) ≤ ((G.1 (F a 0) 1).toInt))
    (I47_2 : (l3_47.toInt = 0 ∧ l2_47.toInt = 0) ∨ (l3_47.toInt = 1 ∧ 0 ≤ l2_47.toInt ∧ l2_47.toInt ≤ 9) ∨ (l3_47.toInt = 2 ∧ 0 ≤ l2_47.toInt ∧ l2_47.toInt ≤ 99) ∨ (l3_47.toInt = 3 ∧ 0 ≤ l2_47.toInt ∧ l2_47.toInt ≤ 999) ∨ (4 ≤ l3_47.toInt ∧ 0 ≤ l2_47.toInt ∧ l2_47.toInt ≤ 9999))
    (I47_3 : l3_47.toInt ≤ 4 → l2_47.toInt = (nv (tC (G.2.1 (F (F a 0) 0)) ((G.1 (F a 0) 1).toInt)) (nS (tC (G.2.1 (F (F a 0) 0)) ((G.1 (F a 0) 1).toInt)) ((G.1 a 2).toInt)) (l3_47.toInt)))
    (hm47 : 200 - ((G_47.1 a 3).toInt) < (((N47) + 1 : Nat) : Int))
    (c58 : ((G.1 (F a 0) 1).toInt) ≤ ((G_47.1 a 3).toInt))
    (c122 : ¬ (l3_47.toInt < (1 : Int)))
    (c127 : ¬ ((4 : Int) < l3_47.toInt))
    (d_G149_a_1 : G149.1 a 1 = 2)
    (d_G149_a_3 : G149.1 a 3 = G_47.1 a 3)
    (d_G149_a_4 : G149.1 a 4 = l2_47) :
    ((G149.1 a 3).toInt) = nE (tC (G.2.1 (F (F a 0) 0)) ((G.1 (F a 0) 1).toInt)) ((G.1 a 2).toInt) ∧ ((nOk (tC (G.2.1 (F (F a 0) 0)) ((G.1 (F a 0) 1).toInt)) ((G.1 a 2).toInt) ∧ ((G149.1 a 1).toInt) = 2 ∧ ((G149.1 a 4).toInt) = nVl (tC (G.2.1 (F (F a 0) 0)) ((G.1 (F a 0) 1).toInt)) ((G.1 a 2).toInt)) ∨ (¬ nOk (tC (G.2.1 (F (F a 0) 0)) ((G.1 (F a 0) 1).toInt)) ((G.1 a 2).toInt) ∧ ((G149.1 a 1).toInt) = 3)) := by
  have hE : nE (tC (G.2.1 (F (F a 0) 0)) ((G.1 (F a 0) 1).toInt)) ((G.1 a 2).toInt) = (G_47.1 a 3).toInt := by
    unfold nE
    refine rn_eq ⟨by omega, pr, cDg_n ?_⟩
    rcases tC_f (G.2.1 (F (F a 0) 0)) ((G.1 (F a 0) 1).toInt) ((G_47.1 a 3).toInt) with h | h
    · omega
    · exact Or.inl h.2
  have nf := nS_f (tC (G.2.1 (F (F a 0) 0)) ((G.1 (F a 0) 1).toInt)) ((G.1 a 2).toInt)
  have hk : l3_47.toInt = nE (tC (G.2.1 (F (F a 0) 0)) ((G.1 (F a 0) 1).toInt)) ((G.1 a 2).toInt) - nS (tC (G.2.1 (F (F a 0) 0)) ((G.1 (F a 0) 1).toInt)) ((G.1 a 2).toInt) := by omega
  have e3 : (G149.1 a 3).toInt = (G_47.1 a 3).toInt := by rw [d_G149_a_3]
  refine ⟨by omega, ?_⟩
  by_cases q : 1 ≤ l3_47.toInt ∧ l3_47.toInt ≤ 4
  · refine Or.inl ⟨⟨by omega, by omega⟩, ?_, ?_⟩
    · rw [d_G149_a_1]
      first | rfl | decide | (exfalso; omega)
    · rw [hk] at I47_3
      rw [d_G149_a_4]
      omega
  · refine Or.inr ⟨fun h => q (by have h1 := h.1; have h2 := h.2; omega), ?_⟩
    rw [d_G149_a_1]
    first | rfl | decide | (exfalso; omega)
theorem v_X5_advanceNumber_152_4 {K : Nat → Nat} {F : Nat → Nat → Nat} (a : Nat) (G : XG) (G_47 : XG) (G149 : XG) (l2_47 : Int32) (x8 : Int32) (l3_47 : Int32) (N47 : Nat) (x69 : Int32) (x72 : Int32)
    (ha : K a = 7)
    (pr : ∀ j : Int, nS (tC (G.2.1 (F (F a 0) 0)) ((G.1 (F a 0) 1).toInt)) ((G.1 a 2).toInt) ≤ j → j < ((G_47.1 a 3).toInt) → cDg ((tC (G.2.1 (F (F a 0) 0)) ((G.1 (F a 0) 1).toInt)) j))
    (n0 : 0 ≤ ((G.1 (F a 0) 1).toInt) ∧ ((G.1 (F a 0) 1).toInt) ≤ 80)
    (s0 : 0 ≤ ((G.1 a 2).toInt) ∧ ((G.1 a 2).toInt) < ((G.1 (F a 0) 1).toInt))
    (z0 : ((tC (G.2.1 (F (F a 0) 0)) ((G.1 (F a 0) 1).toInt) ((G.1 a 2).toInt)) = 45 ∧ (nS (tC (G.2.1 (F (F a 0) 0)) ((G.1 (F a 0) 1).toInt)) ((G.1 a 2).toInt)) = ((G.1 a 2).toInt) + 1) ∨ ((tC (G.2.1 (F (F a 0) 0)) ((G.1 (F a 0) 1).toInt) ((G.1 a 2).toInt)) ≠ 45 ∧ (nS (tC (G.2.1 (F (F a 0) 0)) ((G.1 (F a 0) 1).toInt)) ((G.1 a 2).toInt)) = ((G.1 a 2).toInt)))
    (z0a : (nv (tC (G.2.1 (F (F a 0) 0)) ((G.1 (F a 0) 1).toInt)) (nS (tC (G.2.1 (F (F a 0) 0)) ((G.1 (F a 0) 1).toInt)) ((G.1 a 2).toInt)) 0) = 0)
    (t8 : x8.toInt = (tC (G.2.1 (F (F a 0) 0)) ((G.1 (F a 0) 1).toInt) ((G.1 a 2).toInt)))
    (c13 : x8.toInt ≠ (45 : Int))
    (I47_0 : ((G_47.1 a 3).toInt) = (nS (tC (G.2.1 (F (F a 0) 0)) ((G.1 (F a 0) 1).toInt)) ((G.1 a 2).toInt)) + l3_47.toInt)
    (I47_1 : 0 ≤ l3_47.toInt ∧ ((G_47.1 a 3).toInt) ≤ ((G.1 (F a 0) 1).toInt))
    (I47_2 : (l3_47.toInt = 0 ∧ l2_47.toInt = 0) ∨ (l3_47.toInt = 1 ∧ 0 ≤ l2_47.toInt ∧ l2_47.toInt ≤ 9) ∨ (l3_47.toInt = 2 ∧ 0 ≤ l2_47.toInt ∧ l2_47.toInt ≤ 99) ∨ (l3_47.toInt = 3 ∧ 0 ≤ l2_47.toInt ∧ l2_47.toInt ≤ 999) ∨ (4 ≤ l3_47.toInt ∧ 0 ≤ l2_47.toInt ∧ l2_47.toInt ≤ 9999))
    (I47_3 : l3_47.toInt ≤ 4 → l2_47.toInt = (nv (tC (G.2.1 (F (F a 0) 0)) ((G.1 (F a 0) 1).toInt)) (nS (tC (G.2.1 (F (F a 0) 0)) ((G.1 (F a 0) 1).toInt)) ((G.1 a 2).toInt)) (l3_47.toInt)))
    (hm47 : 200 - ((G_47.1 a 3).toInt) < (((N47) + 1 : Nat) : Int))
    (c58 : ¬ (((G.1 (F a 0) 1).toInt) ≤ ((G_47.1 a 3).toInt)))
    (t69 : x69.toInt = (tC (G.2.1 (F (F a 0) 0)) ((G.1 (F a 0) 1).toInt) ((G_47.1 a 3).toInt)))
    (t72 : (x72.toInt = 1 ∧ 48 ≤ x69.toInt ∧ x69.toInt ≤ 57) ∨ (x72.toInt = 0 ∧ (x69.toInt < 48 ∨ 57 < x69.toInt)))
    (c75 : x72.toInt = 0)
    (c122 : l3_47.toInt < (1 : Int))
    (d_G149_a_1 : G149.1 a 1 = 3)
    (d_G149_a_3 : G149.1 a 3 = G_47.1 a 3)
    (d_G149_a_4 : G149.1 a 4 = l2_47) :
    ((G149.1 a 3).toInt) = nE (tC (G.2.1 (F (F a 0) 0)) ((G.1 (F a 0) 1).toInt)) ((G.1 a 2).toInt) ∧ ((nOk (tC (G.2.1 (F (F a 0) 0)) ((G.1 (F a 0) 1).toInt)) ((G.1 a 2).toInt) ∧ ((G149.1 a 1).toInt) = 2 ∧ ((G149.1 a 4).toInt) = nVl (tC (G.2.1 (F (F a 0) 0)) ((G.1 (F a 0) 1).toInt)) ((G.1 a 2).toInt)) ∨ (¬ nOk (tC (G.2.1 (F (F a 0) 0)) ((G.1 (F a 0) 1).toInt)) ((G.1 a 2).toInt) ∧ ((G149.1 a 1).toInt) = 3)) := by
  have hE : nE (tC (G.2.1 (F (F a 0) 0)) ((G.1 (F a 0) 1).toInt)) ((G.1 a 2).toInt) = (G_47.1 a 3).toInt := by
    unfold nE
    refine rn_eq ⟨by omega, pr, cDg_n ?_⟩
    rcases tC_f (G.2.1 (F (F a 0) 0)) ((G.1 (F a 0) 1).toInt) ((G_47.1 a 3).toInt) with h | h
    · omega
    · exact Or.inl h.2
  have nf := nS_f (tC (G.2.1 (F (F a 0) 0)) ((G.1 (F a 0) 1).toInt)) ((G.1 a 2).toInt)
  have hk : l3_47.toInt = nE (tC (G.2.1 (F (F a 0) 0)) ((G.1 (F a 0) 1).toInt)) ((G.1 a 2).toInt) - nS (tC (G.2.1 (F (F a 0) 0)) ((G.1 (F a 0) 1).toInt)) ((G.1 a 2).toInt) := by omega
  have e3 : (G149.1 a 3).toInt = (G_47.1 a 3).toInt := by rw [d_G149_a_3]
  refine ⟨by omega, ?_⟩
  by_cases q : 1 ≤ l3_47.toInt ∧ l3_47.toInt ≤ 4
  · refine Or.inl ⟨⟨by omega, by omega⟩, ?_, ?_⟩
    · rw [d_G149_a_1]
      first | rfl | decide | (exfalso; omega)
    · rw [hk] at I47_3
      rw [d_G149_a_4]
      omega
  · refine Or.inr ⟨fun h => q (by have h1 := h.1; have h2 := h.2; omega), ?_⟩
    rw [d_G149_a_1]
    first | rfl | decide | (exfalso; omega)
theorem v_X5_advanceNumber_152_5 {K : Nat → Nat} {F : Nat → Nat → Nat} (a : Nat) (G : XG) (G_47 : XG) (G149 : XG) (l2_47 : Int32) (x8 : Int32) (l3_47 : Int32) (N47 : Nat) (x69 : Int32) (x72 : Int32)
    (ha : K a = 7)
    (pr : ∀ j : Int, nS (tC (G.2.1 (F (F a 0) 0)) ((G.1 (F a 0) 1).toInt)) ((G.1 a 2).toInt) ≤ j → j < ((G_47.1 a 3).toInt) → cDg ((tC (G.2.1 (F (F a 0) 0)) ((G.1 (F a 0) 1).toInt)) j))
    (n0 : 0 ≤ ((G.1 (F a 0) 1).toInt) ∧ ((G.1 (F a 0) 1).toInt) ≤ 80)
    (s0 : 0 ≤ ((G.1 a 2).toInt) ∧ ((G.1 a 2).toInt) < ((G.1 (F a 0) 1).toInt))
    (z0 : ((tC (G.2.1 (F (F a 0) 0)) ((G.1 (F a 0) 1).toInt) ((G.1 a 2).toInt)) = 45 ∧ (nS (tC (G.2.1 (F (F a 0) 0)) ((G.1 (F a 0) 1).toInt)) ((G.1 a 2).toInt)) = ((G.1 a 2).toInt) + 1) ∨ ((tC (G.2.1 (F (F a 0) 0)) ((G.1 (F a 0) 1).toInt) ((G.1 a 2).toInt)) ≠ 45 ∧ (nS (tC (G.2.1 (F (F a 0) 0)) ((G.1 (F a 0) 1).toInt)) ((G.1 a 2).toInt)) = ((G.1 a 2).toInt)))
    (z0a : (nv (tC (G.2.1 (F (F a 0) 0)) ((G.1 (F a 0) 1).toInt)) (nS (tC (G.2.1 (F (F a 0) 0)) ((G.1 (F a 0) 1).toInt)) ((G.1 a 2).toInt)) 0) = 0)
    (t8 : x8.toInt = (tC (G.2.1 (F (F a 0) 0)) ((G.1 (F a 0) 1).toInt) ((G.1 a 2).toInt)))
    (c13 : x8.toInt ≠ (45 : Int))
    (I47_0 : ((G_47.1 a 3).toInt) = (nS (tC (G.2.1 (F (F a 0) 0)) ((G.1 (F a 0) 1).toInt)) ((G.1 a 2).toInt)) + l3_47.toInt)
    (I47_1 : 0 ≤ l3_47.toInt ∧ ((G_47.1 a 3).toInt) ≤ ((G.1 (F a 0) 1).toInt))
    (I47_2 : (l3_47.toInt = 0 ∧ l2_47.toInt = 0) ∨ (l3_47.toInt = 1 ∧ 0 ≤ l2_47.toInt ∧ l2_47.toInt ≤ 9) ∨ (l3_47.toInt = 2 ∧ 0 ≤ l2_47.toInt ∧ l2_47.toInt ≤ 99) ∨ (l3_47.toInt = 3 ∧ 0 ≤ l2_47.toInt ∧ l2_47.toInt ≤ 999) ∨ (4 ≤ l3_47.toInt ∧ 0 ≤ l2_47.toInt ∧ l2_47.toInt ≤ 9999))
    (I47_3 : l3_47.toInt ≤ 4 → l2_47.toInt = (nv (tC (G.2.1 (F (F a 0) 0)) ((G.1 (F a 0) 1).toInt)) (nS (tC (G.2.1 (F (F a 0) 0)) ((G.1 (F a 0) 1).toInt)) ((G.1 a 2).toInt)) (l3_47.toInt)))
    (hm47 : 200 - ((G_47.1 a 3).toInt) < (((N47) + 1 : Nat) : Int))
    (c58 : ¬ (((G.1 (F a 0) 1).toInt) ≤ ((G_47.1 a 3).toInt)))
    (t69 : x69.toInt = (tC (G.2.1 (F (F a 0) 0)) ((G.1 (F a 0) 1).toInt) ((G_47.1 a 3).toInt)))
    (t72 : (x72.toInt = 1 ∧ 48 ≤ x69.toInt ∧ x69.toInt ≤ 57) ∨ (x72.toInt = 0 ∧ (x69.toInt < 48 ∨ 57 < x69.toInt)))
    (c75 : x72.toInt = 0)
    (c122 : ¬ (l3_47.toInt < (1 : Int)))
    (c127 : (4 : Int) < l3_47.toInt)
    (d_G149_a_1 : G149.1 a 1 = 3)
    (d_G149_a_3 : G149.1 a 3 = G_47.1 a 3)
    (d_G149_a_4 : G149.1 a 4 = l2_47) :
    ((G149.1 a 3).toInt) = nE (tC (G.2.1 (F (F a 0) 0)) ((G.1 (F a 0) 1).toInt)) ((G.1 a 2).toInt) ∧ ((nOk (tC (G.2.1 (F (F a 0) 0)) ((G.1 (F a 0) 1).toInt)) ((G.1 a 2).toInt) ∧ ((G149.1 a 1).toInt) = 2 ∧ ((G149.1 a 4).toInt) = nVl (tC (G.2.1 (F (F a 0) 0)) ((G.1 (F a 0) 1).toInt)) ((G.1 a 2).toInt)) ∨ (¬ nOk (tC (G.2.1 (F (F a 0) 0)) ((G.1 (F a 0) 1).toInt)) ((G.1 a 2).toInt) ∧ ((G149.1 a 1).toInt) = 3)) := by
  have hE : nE (tC (G.2.1 (F (F a 0) 0)) ((G.1 (F a 0) 1).toInt)) ((G.1 a 2).toInt) = (G_47.1 a 3).toInt := by
    unfold nE
    refine rn_eq ⟨by omega, pr, cDg_n ?_⟩
    rcases tC_f (G.2.1 (F (F a 0) 0)) ((G.1 (F a 0) 1).toInt) ((G_47.1 a 3).toInt) with h | h
    · omega
    · exact Or.inl h.2
  have nf := nS_f (tC (G.2.1 (F (F a 0) 0)) ((G.1 (F a 0) 1).toInt)) ((G.1 a 2).toInt)
  have hk : l3_47.toInt = nE (tC (G.2.1 (F (F a 0) 0)) ((G.1 (F a 0) 1).toInt)) ((G.1 a 2).toInt) - nS (tC (G.2.1 (F (F a 0) 0)) ((G.1 (F a 0) 1).toInt)) ((G.1 a 2).toInt) := by omega
  have e3 : (G149.1 a 3).toInt = (G_47.1 a 3).toInt := by rw [d_G149_a_3]
  refine ⟨by omega, ?_⟩
  by_cases q : 1 ≤ l3_47.toInt ∧ l3_47.toInt ≤ 4
  · refine Or.inl ⟨⟨by omega, by omega⟩, ?_, ?_⟩
    · rw [d_G149_a_1]
      first | rfl | decide | (exfalso; omega)
    · rw [hk] at I47_3
      rw [d_G149_a_4]
      omega
  · refine Or.inr ⟨fun h => q (by have h1 := h.1; have h2 := h.2; omega), ?_⟩
    rw [d_G149_a_1]
    first | rfl | decide | (exfalso; omega)
theorem v_X5_advanceNumber_152_6 {K : Nat → Nat} {F : Nat → Nat → Nat} (a : Nat) (G : XG) (G_47 : XG) (G149 : XG) (l2_47 : Int32) (x8 : Int32) (l3_47 : Int32) (N47 : Nat) (x69 : Int32) (x72 : Int32)
    (ha : K a = 7)
    (pr : ∀ j : Int, nS (tC (G.2.1 (F (F a 0) 0)) ((G.1 (F a 0) 1).toInt)) ((G.1 a 2).toInt) ≤ j → j < ((G_47.1 a 3).toInt) → cDg ((tC (G.2.1 (F (F a 0) 0)) ((G.1 (F a 0) 1).toInt)) j))
    (n0 : 0 ≤ ((G.1 (F a 0) 1).toInt) ∧ ((G.1 (F a 0) 1).toInt) ≤ 80)
    (s0 : 0 ≤ ((G.1 a 2).toInt) ∧ ((G.1 a 2).toInt) < ((G.1 (F a 0) 1).toInt))
    (z0 : ((tC (G.2.1 (F (F a 0) 0)) ((G.1 (F a 0) 1).toInt) ((G.1 a 2).toInt)) = 45 ∧ (nS (tC (G.2.1 (F (F a 0) 0)) ((G.1 (F a 0) 1).toInt)) ((G.1 a 2).toInt)) = ((G.1 a 2).toInt) + 1) ∨ ((tC (G.2.1 (F (F a 0) 0)) ((G.1 (F a 0) 1).toInt) ((G.1 a 2).toInt)) ≠ 45 ∧ (nS (tC (G.2.1 (F (F a 0) 0)) ((G.1 (F a 0) 1).toInt)) ((G.1 a 2).toInt)) = ((G.1 a 2).toInt)))
    (z0a : (nv (tC (G.2.1 (F (F a 0) 0)) ((G.1 (F a 0) 1).toInt)) (nS (tC (G.2.1 (F (F a 0) 0)) ((G.1 (F a 0) 1).toInt)) ((G.1 a 2).toInt)) 0) = 0)
    (t8 : x8.toInt = (tC (G.2.1 (F (F a 0) 0)) ((G.1 (F a 0) 1).toInt) ((G.1 a 2).toInt)))
    (c13 : x8.toInt ≠ (45 : Int))
    (I47_0 : ((G_47.1 a 3).toInt) = (nS (tC (G.2.1 (F (F a 0) 0)) ((G.1 (F a 0) 1).toInt)) ((G.1 a 2).toInt)) + l3_47.toInt)
    (I47_1 : 0 ≤ l3_47.toInt ∧ ((G_47.1 a 3).toInt) ≤ ((G.1 (F a 0) 1).toInt))
    (I47_2 : (l3_47.toInt = 0 ∧ l2_47.toInt = 0) ∨ (l3_47.toInt = 1 ∧ 0 ≤ l2_47.toInt ∧ l2_47.toInt ≤ 9) ∨ (l3_47.toInt = 2 ∧ 0 ≤ l2_47.toInt ∧ l2_47.toInt ≤ 99) ∨ (l3_47.toInt = 3 ∧ 0 ≤ l2_47.toInt ∧ l2_47.toInt ≤ 999) ∨ (4 ≤ l3_47.toInt ∧ 0 ≤ l2_47.toInt ∧ l2_47.toInt ≤ 9999))
    (I47_3 : l3_47.toInt ≤ 4 → l2_47.toInt = (nv (tC (G.2.1 (F (F a 0) 0)) ((G.1 (F a 0) 1).toInt)) (nS (tC (G.2.1 (F (F a 0) 0)) ((G.1 (F a 0) 1).toInt)) ((G.1 a 2).toInt)) (l3_47.toInt)))
    (hm47 : 200 - ((G_47.1 a 3).toInt) < (((N47) + 1 : Nat) : Int))
    (c58 : ¬ (((G.1 (F a 0) 1).toInt) ≤ ((G_47.1 a 3).toInt)))
    (t69 : x69.toInt = (tC (G.2.1 (F (F a 0) 0)) ((G.1 (F a 0) 1).toInt) ((G_47.1 a 3).toInt)))
    (t72 : (x72.toInt = 1 ∧ 48 ≤ x69.toInt ∧ x69.toInt ≤ 57) ∨ (x72.toInt = 0 ∧ (x69.toInt < 48 ∨ 57 < x69.toInt)))
    (c75 : x72.toInt = 0)
    (c122 : ¬ (l3_47.toInt < (1 : Int)))
    (c127 : ¬ ((4 : Int) < l3_47.toInt))
    (d_G149_a_1 : G149.1 a 1 = 2)
    (d_G149_a_3 : G149.1 a 3 = G_47.1 a 3)
    (d_G149_a_4 : G149.1 a 4 = l2_47) :
    ((G149.1 a 3).toInt) = nE (tC (G.2.1 (F (F a 0) 0)) ((G.1 (F a 0) 1).toInt)) ((G.1 a 2).toInt) ∧ ((nOk (tC (G.2.1 (F (F a 0) 0)) ((G.1 (F a 0) 1).toInt)) ((G.1 a 2).toInt) ∧ ((G149.1 a 1).toInt) = 2 ∧ ((G149.1 a 4).toInt) = nVl (tC (G.2.1 (F (F a 0) 0)) ((G.1 (F a 0) 1).toInt)) ((G.1 a 2).toInt)) ∨ (¬ nOk (tC (G.2.1 (F (F a 0) 0)) ((G.1 (F a 0) 1).toInt)) ((G.1 a 2).toInt) ∧ ((G149.1 a 1).toInt) = 3)) := by
  have hE : nE (tC (G.2.1 (F (F a 0) 0)) ((G.1 (F a 0) 1).toInt)) ((G.1 a 2).toInt) = (G_47.1 a 3).toInt := by
    unfold nE
    refine rn_eq ⟨by omega, pr, cDg_n ?_⟩
    rcases tC_f (G.2.1 (F (F a 0) 0)) ((G.1 (F a 0) 1).toInt) ((G_47.1 a 3).toInt) with h | h
    · omega
    · exact Or.inl h.2
  have nf := nS_f (tC (G.2.1 (F (F a 0) 0)) ((G.1 (F a 0) 1).toInt)) ((G.1 a 2).toInt)
  have hk : l3_47.toInt = nE (tC (G.2.1 (F (F a 0) 0)) ((G.1 (F a 0) 1).toInt)) ((G.1 a 2).toInt) - nS (tC (G.2.1 (F (F a 0) 0)) ((G.1 (F a 0) 1).toInt)) ((G.1 a 2).toInt) := by omega
  have e3 : (G149.1 a 3).toInt = (G_47.1 a 3).toInt := by rw [d_G149_a_3]
  refine ⟨by omega, ?_⟩
  by_cases q : 1 ≤ l3_47.toInt ∧ l3_47.toInt ≤ 4
  · refine Or.inl ⟨⟨by omega, by omega⟩, ?_, ?_⟩
    · rw [d_G149_a_1]
      first | rfl | decide | (exfalso; omega)
    · rw [hk] at I47_3
      rw [d_G149_a_4]
      omega
  · refine Or.inr ⟨fun h => q (by have h1 := h.1; have h2 := h.2; omega), ?_⟩
    rw [d_G149_a_1]
    first | rfl | decide | (exfalso; omega)
theorem v_X5_advanceNumber_116_7 {K : Nat → Nat} {F : Nat → Nat → Nat} (a : Nat) (G : XG) (G_47 : XG) (l3_47 : Int32) (x8 : Int32) (l2_47 : Int32) (N47 : Nat) (x69 : Int32) (x72 : Int32)
    (ha : K a = 7)
    (pr : ∀ j : Int, nS (tC (G.2.1 (F (F a 0) 0)) ((G.1 (F a 0) 1).toInt)) ((G.1 a 2).toInt) ≤ j → j < ((G_47.1 a 3).toInt) → cDg ((tC (G.2.1 (F (F a 0) 0)) ((G.1 (F a 0) 1).toInt)) j))
    (n0 : 0 ≤ ((G.1 (F a 0) 1).toInt) ∧ ((G.1 (F a 0) 1).toInt) ≤ 80)
    (s0 : 0 ≤ ((G.1 a 2).toInt) ∧ ((G.1 a 2).toInt) < ((G.1 (F a 0) 1).toInt))
    (z0 : ((tC (G.2.1 (F (F a 0) 0)) ((G.1 (F a 0) 1).toInt) ((G.1 a 2).toInt)) = 45 ∧ (nS (tC (G.2.1 (F (F a 0) 0)) ((G.1 (F a 0) 1).toInt)) ((G.1 a 2).toInt)) = ((G.1 a 2).toInt) + 1) ∨ ((tC (G.2.1 (F (F a 0) 0)) ((G.1 (F a 0) 1).toInt) ((G.1 a 2).toInt)) ≠ 45 ∧ (nS (tC (G.2.1 (F (F a 0) 0)) ((G.1 (F a 0) 1).toInt)) ((G.1 a 2).toInt)) = ((G.1 a 2).toInt)))
    (z0a : (nv (tC (G.2.1 (F (F a 0) 0)) ((G.1 (F a 0) 1).toInt)) (nS (tC (G.2.1 (F (F a 0) 0)) ((G.1 (F a 0) 1).toInt)) ((G.1 a 2).toInt)) 0) = 0)
    (t8 : x8.toInt = (tC (G.2.1 (F (F a 0) 0)) ((G.1 (F a 0) 1).toInt) ((G.1 a 2).toInt)))
    (c13 : x8.toInt ≠ (45 : Int))
    (I47_0 : ((G_47.1 a 3).toInt) = (nS (tC (G.2.1 (F (F a 0) 0)) ((G.1 (F a 0) 1).toInt)) ((G.1 a 2).toInt)) + l3_47.toInt)
    (I47_1 : 0 ≤ l3_47.toInt ∧ ((G_47.1 a 3).toInt) ≤ ((G.1 (F a 0) 1).toInt))
    (I47_2 : (l3_47.toInt = 0 ∧ l2_47.toInt = 0) ∨ (l3_47.toInt = 1 ∧ 0 ≤ l2_47.toInt ∧ l2_47.toInt ≤ 9) ∨ (l3_47.toInt = 2 ∧ 0 ≤ l2_47.toInt ∧ l2_47.toInt ≤ 99) ∨ (l3_47.toInt = 3 ∧ 0 ≤ l2_47.toInt ∧ l2_47.toInt ≤ 999) ∨ (4 ≤ l3_47.toInt ∧ 0 ≤ l2_47.toInt ∧ l2_47.toInt ≤ 9999))
    (I47_3 : l3_47.toInt ≤ 4 → l2_47.toInt = (nv (tC (G.2.1 (F (F a 0) 0)) ((G.1 (F a 0) 1).toInt)) (nS (tC (G.2.1 (F (F a 0) 0)) ((G.1 (F a 0) 1).toInt)) ((G.1 a 2).toInt)) (l3_47.toInt)))
    (hm47 : 200 - ((G_47.1 a 3).toInt) < (((N47) + 1 : Nat) : Int))
    (c58 : ¬ (((G.1 (F a 0) 1).toInt) ≤ ((G_47.1 a 3).toInt)))
    (t69 : x69.toInt = (tC (G.2.1 (F (F a 0) 0)) ((G.1 (F a 0) 1).toInt) ((G_47.1 a 3).toInt)))
    (t72 : (x72.toInt = 1 ∧ 48 ≤ x69.toInt ∧ x69.toInt ≤ 57) ∨ (x72.toInt = 0 ∧ (x69.toInt < 48 ∨ 57 < x69.toInt)))
    (c75 : ¬ (x72.toInt = 0))
    (z78 : (nv (tC (G.2.1 (F (F a 0) 0)) ((G.1 (F a 0) 1).toInt)) (nS (tC (G.2.1 (F (F a 0) 0)) ((G.1 (F a 0) 1).toInt)) ((G.1 a 2).toInt)) (l3_47.toInt + 1)) = 10 * (nv (tC (G.2.1 (F (F a 0) 0)) ((G.1 (F a 0) 1).toInt)) (nS (tC (G.2.1 (F (F a 0) 0)) ((G.1 (F a 0) 1).toInt)) ((G.1 a 2).toInt)) (l3_47.toInt)) + ((tC (G.2.1 (F (F a 0) 0)) ((G.1 (F a 0) 1).toInt) ((nS (tC (G.2.1 (F (F a 0) 0)) ((G.1 (F a 0) 1).toInt)) ((G.1 a 2).toInt)) + l3_47.toInt)) - 48))
    (z78a : ((G_47.1 a 3).toInt) = (nS (tC (G.2.1 (F (F a 0) 0)) ((G.1 (F a 0) 1).toInt)) ((G.1 a 2).toInt)) + l3_47.toInt → (tC (G.2.1 (F (F a 0) 0)) ((G.1 (F a 0) 1).toInt) ((nS (tC (G.2.1 (F (F a 0) 0)) ((G.1 (F a 0) 1).toInt)) ((G.1 a 2).toInt)) + l3_47.toInt)) = (tC (G.2.1 (F (F a 0) 0)) ((G.1 (F a 0) 1).toInt) ((G_47.1 a 3).toInt)))
    (c80 : (4 : Int) ≤ l3_47.toInt) :
    ∀ j : Int, nS (tC (G.2.1 (F (F a 0) 0)) ((G.1 (F a 0) 1).toInt)) ((G.1 a 2).toInt) ≤ j → j < (((G_47.1 a 3).toInt) + (1 : Int)) → cDg ((tC (G.2.1 (F (F a 0) 0)) ((G.1 (F a 0) 1).toInt)) j) := by
  intro j h1 h2
  by_cases e : j = (G_47.1 a 3).toInt
  · rw [e]; unfold cDg; omega
  · exact pr j h1 (by omega)
theorem v_X5_advanceNumber_116_8 {K : Nat → Nat} {F : Nat → Nat → Nat} (a : Nat) (G : XG) (G_47 : XG) (l2_47 : Int32) (l3_47 : Int32) (x8 : Int32) (N47 : Nat) (x69 : Int32) (x72 : Int32)
    (ha : K a = 7)
    (pr : ∀ j : Int, nS (tC (G.2.1 (F (F a 0) 0)) ((G.1 (F a 0) 1).toInt)) ((G.1 a 2).toInt) ≤ j → j < ((G_47.1 a 3).toInt) → cDg ((tC (G.2.1 (F (F a 0) 0)) ((G.1 (F a 0) 1).toInt)) j))
    (n0 : 0 ≤ ((G.1 (F a 0) 1).toInt) ∧ ((G.1 (F a 0) 1).toInt) ≤ 80)
    (s0 : 0 ≤ ((G.1 a 2).toInt) ∧ ((G.1 a 2).toInt) < ((G.1 (F a 0) 1).toInt))
    (z0 : ((tC (G.2.1 (F (F a 0) 0)) ((G.1 (F a 0) 1).toInt) ((G.1 a 2).toInt)) = 45 ∧ (nS (tC (G.2.1 (F (F a 0) 0)) ((G.1 (F a 0) 1).toInt)) ((G.1 a 2).toInt)) = ((G.1 a 2).toInt) + 1) ∨ ((tC (G.2.1 (F (F a 0) 0)) ((G.1 (F a 0) 1).toInt) ((G.1 a 2).toInt)) ≠ 45 ∧ (nS (tC (G.2.1 (F (F a 0) 0)) ((G.1 (F a 0) 1).toInt)) ((G.1 a 2).toInt)) = ((G.1 a 2).toInt)))
    (z0a : (nv (tC (G.2.1 (F (F a 0) 0)) ((G.1 (F a 0) 1).toInt)) (nS (tC (G.2.1 (F (F a 0) 0)) ((G.1 (F a 0) 1).toInt)) ((G.1 a 2).toInt)) 0) = 0)
    (t8 : x8.toInt = (tC (G.2.1 (F (F a 0) 0)) ((G.1 (F a 0) 1).toInt) ((G.1 a 2).toInt)))
    (c13 : x8.toInt ≠ (45 : Int))
    (I47_0 : ((G_47.1 a 3).toInt) = (nS (tC (G.2.1 (F (F a 0) 0)) ((G.1 (F a 0) 1).toInt)) ((G.1 a 2).toInt)) + l3_47.toInt)
    (I47_1 : 0 ≤ l3_47.toInt ∧ ((G_47.1 a 3).toInt) ≤ ((G.1 (F a 0) 1).toInt))
    (I47_2 : (l3_47.toInt = 0 ∧ l2_47.toInt = 0) ∨ (l3_47.toInt = 1 ∧ 0 ≤ l2_47.toInt ∧ l2_47.toInt ≤ 9) ∨ (l3_47.toInt = 2 ∧ 0 ≤ l2_47.toInt ∧ l2_47.toInt ≤ 99) ∨ (l3_47.toInt = 3 ∧ 0 ≤ l2_47.toInt ∧ l2_47.toInt ≤ 999) ∨ (4 ≤ l3_47.toInt ∧ 0 ≤ l2_47.toInt ∧ l2_47.toInt ≤ 9999))
    (I47_3 : l3_47.toInt ≤ 4 → l2_47.toInt = (nv (tC (G.2.1 (F (F a 0) 0)) ((G.1 (F a 0) 1).toInt)) (nS (tC (G.2.1 (F (F a 0) 0)) ((G.1 (F a 0) 1).toInt)) ((G.1 a 2).toInt)) (l3_47.toInt)))
    (hm47 : 200 - ((G_47.1 a 3).toInt) < (((N47) + 1 : Nat) : Int))
    (c58 : ¬ (((G.1 (F a 0) 1).toInt) ≤ ((G_47.1 a 3).toInt)))
    (t69 : x69.toInt = (tC (G.2.1 (F (F a 0) 0)) ((G.1 (F a 0) 1).toInt) ((G_47.1 a 3).toInt)))
    (t72 : (x72.toInt = 1 ∧ 48 ≤ x69.toInt ∧ x69.toInt ≤ 57) ∨ (x72.toInt = 0 ∧ (x69.toInt < 48 ∨ 57 < x69.toInt)))
    (c75 : ¬ (x72.toInt = 0))
    (z78 : (nv (tC (G.2.1 (F (F a 0) 0)) ((G.1 (F a 0) 1).toInt)) (nS (tC (G.2.1 (F (F a 0) 0)) ((G.1 (F a 0) 1).toInt)) ((G.1 a 2).toInt)) (l3_47.toInt + 1)) = 10 * (nv (tC (G.2.1 (F (F a 0) 0)) ((G.1 (F a 0) 1).toInt)) (nS (tC (G.2.1 (F (F a 0) 0)) ((G.1 (F a 0) 1).toInt)) ((G.1 a 2).toInt)) (l3_47.toInt)) + ((tC (G.2.1 (F (F a 0) 0)) ((G.1 (F a 0) 1).toInt) ((nS (tC (G.2.1 (F (F a 0) 0)) ((G.1 (F a 0) 1).toInt)) ((G.1 a 2).toInt)) + l3_47.toInt)) - 48))
    (z78a : ((G_47.1 a 3).toInt) = (nS (tC (G.2.1 (F (F a 0) 0)) ((G.1 (F a 0) 1).toInt)) ((G.1 a 2).toInt)) + l3_47.toInt → (tC (G.2.1 (F (F a 0) 0)) ((G.1 (F a 0) 1).toInt) ((nS (tC (G.2.1 (F (F a 0) 0)) ((G.1 (F a 0) 1).toInt)) ((G.1 a 2).toInt)) + l3_47.toInt)) = (tC (G.2.1 (F (F a 0) 0)) ((G.1 (F a 0) 1).toInt) ((G_47.1 a 3).toInt)))
    (c80 : ¬ ((4 : Int) ≤ l3_47.toInt)) :
    ∀ j : Int, nS (tC (G.2.1 (F (F a 0) 0)) ((G.1 (F a 0) 1).toInt)) ((G.1 a 2).toInt) ≤ j → j < (((G_47.1 a 3).toInt) + (1 : Int)) → cDg ((tC (G.2.1 (F (F a 0) 0)) ((G.1 (F a 0) 1).toInt)) j) := by
  intro j h1 h2
  by_cases e : j = (G_47.1 a 3).toInt
  · rw [e]; unfold cDg; omega
  · exact pr j h1 (by omega)
theorem v_X5_advanceNumber_44_9 {K : Nat → Nat} {F : Nat → Nat → Nat} (a : Nat) (G : XG) (x8 : Int32)
    (ha : K a = 7)
    (n0 : 0 ≤ ((G.1 (F a 0) 1).toInt) ∧ ((G.1 (F a 0) 1).toInt) ≤ 80)
    (s0 : 0 ≤ ((G.1 a 2).toInt) ∧ ((G.1 a 2).toInt) < ((G.1 (F a 0) 1).toInt))
    (z0 : ((tC (G.2.1 (F (F a 0) 0)) ((G.1 (F a 0) 1).toInt) ((G.1 a 2).toInt)) = 45 ∧ (nS (tC (G.2.1 (F (F a 0) 0)) ((G.1 (F a 0) 1).toInt)) ((G.1 a 2).toInt)) = ((G.1 a 2).toInt) + 1) ∨ ((tC (G.2.1 (F (F a 0) 0)) ((G.1 (F a 0) 1).toInt) ((G.1 a 2).toInt)) ≠ 45 ∧ (nS (tC (G.2.1 (F (F a 0) 0)) ((G.1 (F a 0) 1).toInt)) ((G.1 a 2).toInt)) = ((G.1 a 2).toInt)))
    (z0a : (nv (tC (G.2.1 (F (F a 0) 0)) ((G.1 (F a 0) 1).toInt)) (nS (tC (G.2.1 (F (F a 0) 0)) ((G.1 (F a 0) 1).toInt)) ((G.1 a 2).toInt)) 0) = 0)
    (t8 : x8.toInt = (tC (G.2.1 (F (F a 0) 0)) ((G.1 (F a 0) 1).toInt) ((G.1 a 2).toInt)))
    (c13 : x8.toInt ≠ (45 : Int)) :
    ∀ j : Int, nS (tC (G.2.1 (F (F a 0) 0)) ((G.1 (F a 0) 1).toInt)) ((G.1 a 2).toInt) ≤ j → j < ((G.1 a 2).toInt) → cDg ((tC (G.2.1 (F (F a 0) 0)) ((G.1 (F a 0) 1).toInt)) j) := by
  intro j h1 h2; exact absurd h1 (by omega)
theorem v_X5_advanceNumber_152_10 {K : Nat → Nat} {F : Nat → Nat → Nat} (a : Nat) (G : XG) (G_47 : XG) (G149 : XG) (x144 : Int32) (x8 : Int32) (l3_47 : Int32) (l2_47 : Int32) (N47 : Nat)
    (ha : K a = 7)
    (pr : ∀ j : Int, nS (tC (G.2.1 (F (F a 0) 0)) ((G.1 (F a 0) 1).toInt)) ((G.1 a 2).toInt) ≤ j → j < ((G_47.1 a 3).toInt) → cDg ((tC (G.2.1 (F (F a 0) 0)) ((G.1 (F a 0) 1).toInt)) j))
    (n0 : 0 ≤ ((G.1 (F a 0) 1).toInt) ∧ ((G.1 (F a 0) 1).toInt) ≤ 80)
    (s0 : 0 ≤ ((G.1 a 2).toInt) ∧ ((G.1 a 2).toInt) < ((G.1 (F a 0) 1).toInt))
    (z0 : ((tC (G.2.1 (F (F a 0) 0)) ((G.1 (F a 0) 1).toInt) ((G.1 a 2).toInt)) = 45 ∧ (nS (tC (G.2.1 (F (F a 0) 0)) ((G.1 (F a 0) 1).toInt)) ((G.1 a 2).toInt)) = ((G.1 a 2).toInt) + 1) ∨ ((tC (G.2.1 (F (F a 0) 0)) ((G.1 (F a 0) 1).toInt) ((G.1 a 2).toInt)) ≠ 45 ∧ (nS (tC (G.2.1 (F (F a 0) 0)) ((G.1 (F a 0) 1).toInt)) ((G.1 a 2).toInt)) = ((G.1 a 2).toInt)))
    (z0a : (nv (tC (G.2.1 (F (F a 0) 0)) ((G.1 (F a 0) 1).toInt)) (nS (tC (G.2.1 (F (F a 0) 0)) ((G.1 (F a 0) 1).toInt)) ((G.1 a 2).toInt)) 0) = 0)
    (t8 : x8.toInt = (tC (G.2.1 (F (F a 0) 0)) ((G.1 (F a 0) 1).toInt) ((G.1 a 2).toInt)))
    (c13 : ¬ (x8.toInt ≠ (45 : Int)))
    (I47_0 : ((G_47.1 a 3).toInt) = (nS (tC (G.2.1 (F (F a 0) 0)) ((G.1 (F a 0) 1).toInt)) ((G.1 a 2).toInt)) + l3_47.toInt)
    (I47_1 : 0 ≤ l3_47.toInt ∧ ((G_47.1 a 3).toInt) ≤ ((G.1 (F a 0) 1).toInt))
    (I47_2 : (l3_47.toInt = 0 ∧ l2_47.toInt = 0) ∨ (l3_47.toInt = 1 ∧ 0 ≤ l2_47.toInt ∧ l2_47.toInt ≤ 9) ∨ (l3_47.toInt = 2 ∧ 0 ≤ l2_47.toInt ∧ l2_47.toInt ≤ 99) ∨ (l3_47.toInt = 3 ∧ 0 ≤ l2_47.toInt ∧ l2_47.toInt ≤ 999) ∨ (4 ≤ l3_47.toInt ∧ 0 ≤ l2_47.toInt ∧ l2_47.toInt ≤ 9999))
    (I47_3 : l3_47.toInt ≤ 4 → l2_47.toInt = (nv (tC (G.2.1 (F (F a 0) 0)) ((G.1 (F a 0) 1).toInt)) (nS (tC (G.2.1 (F (F a 0) 0)) ((G.1 (F a 0) 1).toInt)) ((G.1 a 2).toInt)) (l3_47.toInt)))
    (hm47 : 200 - ((G_47.1 a 3).toInt) < (((N47) + 1 : Nat) : Int))
    (c58 : ((G.1 (F a 0) 1).toInt) ≤ ((G_47.1 a 3).toInt))
    (c122 : l3_47.toInt < (1 : Int))
    (t144 : x144.toInt = -l2_47.toInt ∨ -l2_47.toInt < -2147483648 ∨ 2147483648 ≤ -l2_47.toInt)
    (d_G149_a_1 : G149.1 a 1 = 3)
    (d_G149_a_3 : G149.1 a 3 = G_47.1 a 3)
    (d_G149_a_4 : G149.1 a 4 = x144) :
    ((G149.1 a 3).toInt) = nE (tC (G.2.1 (F (F a 0) 0)) ((G.1 (F a 0) 1).toInt)) ((G.1 a 2).toInt) ∧ ((nOk (tC (G.2.1 (F (F a 0) 0)) ((G.1 (F a 0) 1).toInt)) ((G.1 a 2).toInt) ∧ ((G149.1 a 1).toInt) = 2 ∧ ((G149.1 a 4).toInt) = nVl (tC (G.2.1 (F (F a 0) 0)) ((G.1 (F a 0) 1).toInt)) ((G.1 a 2).toInt)) ∨ (¬ nOk (tC (G.2.1 (F (F a 0) 0)) ((G.1 (F a 0) 1).toInt)) ((G.1 a 2).toInt) ∧ ((G149.1 a 1).toInt) = 3)) := by
  have hE : nE (tC (G.2.1 (F (F a 0) 0)) ((G.1 (F a 0) 1).toInt)) ((G.1 a 2).toInt) = (G_47.1 a 3).toInt := by
    unfold nE
    refine rn_eq ⟨by omega, pr, cDg_n ?_⟩
    rcases tC_f (G.2.1 (F (F a 0) 0)) ((G.1 (F a 0) 1).toInt) ((G_47.1 a 3).toInt) with h | h
    · omega
    · exact Or.inl h.2
  have nf := nS_f (tC (G.2.1 (F (F a 0) 0)) ((G.1 (F a 0) 1).toInt)) ((G.1 a 2).toInt)
  have hk : l3_47.toInt = nE (tC (G.2.1 (F (F a 0) 0)) ((G.1 (F a 0) 1).toInt)) ((G.1 a 2).toInt) - nS (tC (G.2.1 (F (F a 0) 0)) ((G.1 (F a 0) 1).toInt)) ((G.1 a 2).toInt) := by omega
  have e3 : (G149.1 a 3).toInt = (G_47.1 a 3).toInt := by rw [d_G149_a_3]
  refine ⟨by omega, ?_⟩
  by_cases q : 1 ≤ l3_47.toInt ∧ l3_47.toInt ≤ 4
  · refine Or.inl ⟨⟨by omega, by omega⟩, ?_, ?_⟩
    · rw [d_G149_a_1]
      first | rfl | decide | (exfalso; omega)
    · rw [hk] at I47_3
      rw [d_G149_a_4]
      omega
  · refine Or.inr ⟨fun h => q (by have h1 := h.1; have h2 := h.2; omega), ?_⟩
    rw [d_G149_a_1]
    first | rfl | decide | (exfalso; omega)
theorem v_X5_advanceNumber_152_11 {K : Nat → Nat} {F : Nat → Nat → Nat} (a : Nat) (G : XG) (G_47 : XG) (G149 : XG) (x144 : Int32) (x8 : Int32) (l3_47 : Int32) (l2_47 : Int32) (N47 : Nat)
    (ha : K a = 7)
    (pr : ∀ j : Int, nS (tC (G.2.1 (F (F a 0) 0)) ((G.1 (F a 0) 1).toInt)) ((G.1 a 2).toInt) ≤ j → j < ((G_47.1 a 3).toInt) → cDg ((tC (G.2.1 (F (F a 0) 0)) ((G.1 (F a 0) 1).toInt)) j))
    (n0 : 0 ≤ ((G.1 (F a 0) 1).toInt) ∧ ((G.1 (F a 0) 1).toInt) ≤ 80)
    (s0 : 0 ≤ ((G.1 a 2).toInt) ∧ ((G.1 a 2).toInt) < ((G.1 (F a 0) 1).toInt))
    (z0 : ((tC (G.2.1 (F (F a 0) 0)) ((G.1 (F a 0) 1).toInt) ((G.1 a 2).toInt)) = 45 ∧ (nS (tC (G.2.1 (F (F a 0) 0)) ((G.1 (F a 0) 1).toInt)) ((G.1 a 2).toInt)) = ((G.1 a 2).toInt) + 1) ∨ ((tC (G.2.1 (F (F a 0) 0)) ((G.1 (F a 0) 1).toInt) ((G.1 a 2).toInt)) ≠ 45 ∧ (nS (tC (G.2.1 (F (F a 0) 0)) ((G.1 (F a 0) 1).toInt)) ((G.1 a 2).toInt)) = ((G.1 a 2).toInt)))
    (z0a : (nv (tC (G.2.1 (F (F a 0) 0)) ((G.1 (F a 0) 1).toInt)) (nS (tC (G.2.1 (F (F a 0) 0)) ((G.1 (F a 0) 1).toInt)) ((G.1 a 2).toInt)) 0) = 0)
    (t8 : x8.toInt = (tC (G.2.1 (F (F a 0) 0)) ((G.1 (F a 0) 1).toInt) ((G.1 a 2).toInt)))
    (c13 : ¬ (x8.toInt ≠ (45 : Int)))
    (I47_0 : ((G_47.1 a 3).toInt) = (nS (tC (G.2.1 (F (F a 0) 0)) ((G.1 (F a 0) 1).toInt)) ((G.1 a 2).toInt)) + l3_47.toInt)
    (I47_1 : 0 ≤ l3_47.toInt ∧ ((G_47.1 a 3).toInt) ≤ ((G.1 (F a 0) 1).toInt))
    (I47_2 : (l3_47.toInt = 0 ∧ l2_47.toInt = 0) ∨ (l3_47.toInt = 1 ∧ 0 ≤ l2_47.toInt ∧ l2_47.toInt ≤ 9) ∨ (l3_47.toInt = 2 ∧ 0 ≤ l2_47.toInt ∧ l2_47.toInt ≤ 99) ∨ (l3_47.toInt = 3 ∧ 0 ≤ l2_47.toInt ∧ l2_47.toInt ≤ 999) ∨ (4 ≤ l3_47.toInt ∧ 0 ≤ l2_47.toInt ∧ l2_47.toInt ≤ 9999))
    (I47_3 : l3_47.toInt ≤ 4 → l2_47.toInt = (nv (tC (G.2.1 (F (F a 0) 0)) ((G.1 (F a 0) 1).toInt)) (nS (tC (G.2.1 (F (F a 0) 0)) ((G.1 (F a 0) 1).toInt)) ((G.1 a 2).toInt)) (l3_47.toInt)))
    (hm47 : 200 - ((G_47.1 a 3).toInt) < (((N47) + 1 : Nat) : Int))
    (c58 : ((G.1 (F a 0) 1).toInt) ≤ ((G_47.1 a 3).toInt))
    (c122 : ¬ (l3_47.toInt < (1 : Int)))
    (c127 : (4 : Int) < l3_47.toInt)
    (t144 : x144.toInt = -l2_47.toInt ∨ -l2_47.toInt < -2147483648 ∨ 2147483648 ≤ -l2_47.toInt)
    (d_G149_a_1 : G149.1 a 1 = 3)
    (d_G149_a_3 : G149.1 a 3 = G_47.1 a 3)
    (d_G149_a_4 : G149.1 a 4 = x144) :
    ((G149.1 a 3).toInt) = nE (tC (G.2.1 (F (F a 0) 0)) ((G.1 (F a 0) 1).toInt)) ((G.1 a 2).toInt) ∧ ((nOk (tC (G.2.1 (F (F a 0) 0)) ((G.1 (F a 0) 1).toInt)) ((G.1 a 2).toInt) ∧ ((G149.1 a 1).toInt) = 2 ∧ ((G149.1 a 4).toInt) = nVl (tC (G.2.1 (F (F a 0) 0)) ((G.1 (F a 0) 1).toInt)) ((G.1 a 2).toInt)) ∨ (¬ nOk (tC (G.2.1 (F (F a 0) 0)) ((G.1 (F a 0) 1).toInt)) ((G.1 a 2).toInt) ∧ ((G149.1 a 1).toInt) = 3)) := by
  have hE : nE (tC (G.2.1 (F (F a 0) 0)) ((G.1 (F a 0) 1).toInt)) ((G.1 a 2).toInt) = (G_47.1 a 3).toInt := by
    unfold nE
    refine rn_eq ⟨by omega, pr, cDg_n ?_⟩
    rcases tC_f (G.2.1 (F (F a 0) 0)) ((G.1 (F a 0) 1).toInt) ((G_47.1 a 3).toInt) with h | h
    · omega
    · exact Or.inl h.2
  have nf := nS_f (tC (G.2.1 (F (F a 0) 0)) ((G.1 (F a 0) 1).toInt)) ((G.1 a 2).toInt)
  have hk : l3_47.toInt = nE (tC (G.2.1 (F (F a 0) 0)) ((G.1 (F a 0) 1).toInt)) ((G.1 a 2).toInt) - nS (tC (G.2.1 (F (F a 0) 0)) ((G.1 (F a 0) 1).toInt)) ((G.1 a 2).toInt) := by omega
  have e3 : (G149.1 a 3).toInt = (G_47.1 a 3).toInt := by rw [d_G149_a_3]
  refine ⟨by omega, ?_⟩
  by_cases q : 1 ≤ l3_47.toInt ∧ l3_47.toInt ≤ 4
  · refine Or.inl ⟨⟨by omega, by omega⟩, ?_, ?_⟩
    · rw [d_G149_a_1]
      first | rfl | decide | (exfalso; omega)
    · rw [hk] at I47_3
      rw [d_G149_a_4]
      omega
  · refine Or.inr ⟨fun h => q (by have h1 := h.1; have h2 := h.2; omega), ?_⟩
    rw [d_G149_a_1]
    first | rfl | decide | (exfalso; omega)
theorem v_X5_advanceNumber_152_12 {K : Nat → Nat} {F : Nat → Nat → Nat} (a : Nat) (G : XG) (G_47 : XG) (G149 : XG) (x144 : Int32) (x8 : Int32) (l3_47 : Int32) (l2_47 : Int32) (N47 : Nat)
    (ha : K a = 7)
    (pr : ∀ j : Int, nS (tC (G.2.1 (F (F a 0) 0)) ((G.1 (F a 0) 1).toInt)) ((G.1 a 2).toInt) ≤ j → j < ((G_47.1 a 3).toInt) → cDg ((tC (G.2.1 (F (F a 0) 0)) ((G.1 (F a 0) 1).toInt)) j))
    (n0 : 0 ≤ ((G.1 (F a 0) 1).toInt) ∧ ((G.1 (F a 0) 1).toInt) ≤ 80)
    (s0 : 0 ≤ ((G.1 a 2).toInt) ∧ ((G.1 a 2).toInt) < ((G.1 (F a 0) 1).toInt))
    (z0 : ((tC (G.2.1 (F (F a 0) 0)) ((G.1 (F a 0) 1).toInt) ((G.1 a 2).toInt)) = 45 ∧ (nS (tC (G.2.1 (F (F a 0) 0)) ((G.1 (F a 0) 1).toInt)) ((G.1 a 2).toInt)) = ((G.1 a 2).toInt) + 1) ∨ ((tC (G.2.1 (F (F a 0) 0)) ((G.1 (F a 0) 1).toInt) ((G.1 a 2).toInt)) ≠ 45 ∧ (nS (tC (G.2.1 (F (F a 0) 0)) ((G.1 (F a 0) 1).toInt)) ((G.1 a 2).toInt)) = ((G.1 a 2).toInt)))
    (z0a : (nv (tC (G.2.1 (F (F a 0) 0)) ((G.1 (F a 0) 1).toInt)) (nS (tC (G.2.1 (F (F a 0) 0)) ((G.1 (F a 0) 1).toInt)) ((G.1 a 2).toInt)) 0) = 0)
    (t8 : x8.toInt = (tC (G.2.1 (F (F a 0) 0)) ((G.1 (F a 0) 1).toInt) ((G.1 a 2).toInt)))
    (c13 : ¬ (x8.toInt ≠ (45 : Int)))
    (I47_0 : ((G_47.1 a 3).toInt) = (nS (tC (G.2.1 (F (F a 0) 0)) ((G.1 (F a 0) 1).toInt)) ((G.1 a 2).toInt)) + l3_47.toInt)
    (I47_1 : 0 ≤ l3_47.toInt ∧ ((G_47.1 a 3).toInt) ≤ ((G.1 (F a 0) 1).toInt))
    (I47_2 : (l3_47.toInt = 0 ∧ l2_47.toInt = 0) ∨ (l3_47.toInt = 1 ∧ 0 ≤ l2_47.toInt ∧ l2_47.toInt ≤ 9) ∨ (l3_47.toInt = 2 ∧ 0 ≤ l2_47.toInt ∧ l2_47.toInt ≤ 99) ∨ (l3_47.toInt = 3 ∧ 0 ≤ l2_47.toInt ∧ l2_47.toInt ≤ 999) ∨ (4 ≤ l3_47.toInt ∧ 0 ≤ l2_47.toInt ∧ l2_47.toInt ≤ 9999))
    (I47_3 : l3_47.toInt ≤ 4 → l2_47.toInt = (nv (tC (G.2.1 (F (F a 0) 0)) ((G.1 (F a 0) 1).toInt)) (nS (tC (G.2.1 (F (F a 0) 0)) ((G.1 (F a 0) 1).toInt)) ((G.1 a 2).toInt)) (l3_47.toInt)))
    (hm47 : 200 - ((G_47.1 a 3).toInt) < (((N47) + 1 : Nat) : Int))
    (c58 : ((G.1 (F a 0) 1).toInt) ≤ ((G_47.1 a 3).toInt))
    (c122 : ¬ (l3_47.toInt < (1 : Int)))
    (c127 : ¬ ((4 : Int) < l3_47.toInt))
    (t144 : x144.toInt = -l2_47.toInt ∨ -l2_47.toInt < -2147483648 ∨ 2147483648 ≤ -l2_47.toInt)
    (d_G149_a_1 : G149.1 a 1 = 2)
    (d_G149_a_3 : G149.1 a 3 = G_47.1 a 3)
    (d_G149_a_4 : G149.1 a 4 = x144) :
    ((G149.1 a 3).toInt) = nE (tC (G.2.1 (F (F a 0) 0)) ((G.1 (F a 0) 1).toInt)) ((G.1 a 2).toInt) ∧ ((nOk (tC (G.2.1 (F (F a 0) 0)) ((G.1 (F a 0) 1).toInt)) ((G.1 a 2).toInt) ∧ ((G149.1 a 1).toInt) = 2 ∧ ((G149.1 a 4).toInt) = nVl (tC (G.2.1 (F (F a 0) 0)) ((G.1 (F a 0) 1).toInt)) ((G.1 a 2).toInt)) ∨ (¬ nOk (tC (G.2.1 (F (F a 0) 0)) ((G.1 (F a 0) 1).toInt)) ((G.1 a 2).toInt) ∧ ((G149.1 a 1).toInt) = 3)) := by
  have hE : nE (tC (G.2.1 (F (F a 0) 0)) ((G.1 (F a 0) 1).toInt)) ((G.1 a 2).toInt) = (G_47.1 a 3).toInt := by
    unfold nE
    refine rn_eq ⟨by omega, pr, cDg_n ?_⟩
    rcases tC_f (G.2.1 (F (F a 0) 0)) ((G.1 (F a 0) 1).toInt) ((G_47.1 a 3).toInt) with h | h
    · omega
    · exact Or.inl h.2
  have nf := nS_f (tC (G.2.1 (F (F a 0) 0)) ((G.1 (F a 0) 1).toInt)) ((G.1 a 2).toInt)
  have hk : l3_47.toInt = nE (tC (G.2.1 (F (F a 0) 0)) ((G.1 (F a 0) 1).toInt)) ((G.1 a 2).toInt) - nS (tC (G.2.1 (F (F a 0) 0)) ((G.1 (F a 0) 1).toInt)) ((G.1 a 2).toInt) := by omega
  have e3 : (G149.1 a 3).toInt = (G_47.1 a 3).toInt := by rw [d_G149_a_3]
  refine ⟨by omega, ?_⟩
  by_cases q : 1 ≤ l3_47.toInt ∧ l3_47.toInt ≤ 4
  · refine Or.inl ⟨⟨by omega, by omega⟩, ?_, ?_⟩
    · rw [d_G149_a_1]
      first | rfl | decide | (exfalso; omega)
    · rw [hk] at I47_3
      rw [d_G149_a_4]
      omega
  · refine Or.inr ⟨fun h => q (by have h1 := h.1; have h2 := h.2; omega), ?_⟩
    rw [d_G149_a_1]
    first | rfl | decide | (exfalso; omega)
theorem v_X5_advanceNumber_152_13 {K : Nat → Nat} {F : Nat → Nat → Nat} (a : Nat) (G : XG) (G_47 : XG) (G149 : XG) (x144 : Int32) (x8 : Int32) (l3_47 : Int32) (l2_47 : Int32) (N47 : Nat) (x69 : Int32) (x72 : Int32)
    (ha : K a = 7)
    (pr : ∀ j : Int, nS (tC (G.2.1 (F (F a 0) 0)) ((G.1 (F a 0) 1).toInt)) ((G.1 a 2).toInt) ≤ j → j < ((G_47.1 a 3).toInt) → cDg ((tC (G.2.1 (F (F a 0) 0)) ((G.1 (F a 0) 1).toInt)) j))
    (n0 : 0 ≤ ((G.1 (F a 0) 1).toInt) ∧ ((G.1 (F a 0) 1).toInt) ≤ 80)
    (s0 : 0 ≤ ((G.1 a 2).toInt) ∧ ((G.1 a 2).toInt) < ((G.1 (F a 0) 1).toInt))
    (z0 : ((tC (G.2.1 (F (F a 0) 0)) ((G.1 (F a 0) 1).toInt) ((G.1 a 2).toInt)) = 45 ∧ (nS (tC (G.2.1 (F (F a 0) 0)) ((G.1 (F a 0) 1).toInt)) ((G.1 a 2).toInt)) = ((G.1 a 2).toInt) + 1) ∨ ((tC (G.2.1 (F (F a 0) 0)) ((G.1 (F a 0) 1).toInt) ((G.1 a 2).toInt)) ≠ 45 ∧ (nS (tC (G.2.1 (F (F a 0) 0)) ((G.1 (F a 0) 1).toInt)) ((G.1 a 2).toInt)) = ((G.1 a 2).toInt)))
    (z0a : (nv (tC (G.2.1 (F (F a 0) 0)) ((G.1 (F a 0) 1).toInt)) (nS (tC (G.2.1 (F (F a 0) 0)) ((G.1 (F a 0) 1).toInt)) ((G.1 a 2).toInt)) 0) = 0)
    (t8 : x8.toInt = (tC (G.2.1 (F (F a 0) 0)) ((G.1 (F a 0) 1).toInt) ((G.1 a 2).toInt)))
    (c13 : ¬ (x8.toInt ≠ (45 : Int)))
    (I47_0 : ((G_47.1 a 3).toInt) = (nS (tC (G.2.1 (F (F a 0) 0)) ((G.1 (F a 0) 1).toInt)) ((G.1 a 2).toInt)) + l3_47.toInt)
    (I47_1 : 0 ≤ l3_47.toInt ∧ ((G_47.1 a 3).toInt) ≤ ((G.1 (F a 0) 1).toInt))
    (I47_2 : (l3_47.toInt = 0 ∧ l2_47.toInt = 0) ∨ (l3_47.toInt = 1 ∧ 0 ≤ l2_47.toInt ∧ l2_47.toInt ≤ 9) ∨ (l3_47.toInt = 2 ∧ 0 ≤ l2_47.toInt ∧ l2_47.toInt ≤ 99) ∨ (l3_47.toInt = 3 ∧ 0 ≤ l2_47.toInt ∧ l2_47.toInt ≤ 999) ∨ (4 ≤ l3_47.toInt ∧ 0 ≤ l2_47.toInt ∧ l2_47.toInt ≤ 9999))
    (I47_3 : l3_47.toInt ≤ 4 → l2_47.toInt = (nv (tC (G.2.1 (F (F a 0) 0)) ((G.1 (F a 0) 1).toInt)) (nS (tC (G.2.1 (F (F a 0) 0)) ((G.1 (F a 0) 1).toInt)) ((G.1 a 2).toInt)) (l3_47.toInt)))
    (hm47 : 200 - ((G_47.1 a 3).toInt) < (((N47) + 1 : Nat) : Int))
    (c58 : ¬ (((G.1 (F a 0) 1).toInt) ≤ ((G_47.1 a 3).toInt)))
    (t69 : x69.toInt = (tC (G.2.1 (F (F a 0) 0)) ((G.1 (F a 0) 1).toInt) ((G_47.1 a 3).toInt)))
    (t72 : (x72.toInt = 1 ∧ 48 ≤ x69.toInt ∧ x69.toInt ≤ 57) ∨ (x72.toInt = 0 ∧ (x69.toInt < 48 ∨ 57 < x69.toInt)))
    (c75 : x72.toInt = 0)
    (c122 : l3_47.toInt < (1 : Int))
    (t144 : x144.toInt = -l2_47.toInt ∨ -l2_47.toInt < -2147483648 ∨ 2147483648 ≤ -l2_47.toInt)
    (d_G149_a_1 : G149.1 a 1 = 3)
    (d_G149_a_3 : G149.1 a 3 = G_47.1 a 3)
    (d_G149_a_4 : G149.1 a 4 = x144) :
    ((G149.1 a 3).toInt) = nE (tC (G.2.1 (F (F a 0) 0)) ((G.1 (F a 0) 1).toInt)) ((G.1 a 2).toInt) ∧ ((nOk (tC (G.2.1 (F (F a 0) 0)) ((G.1 (F a 0) 1).toInt)) ((G.1 a 2).toInt) ∧ ((G149.1 a 1).toInt) = 2 ∧ ((G149.1 a 4).toInt) = nVl (tC (G.2.1 (F (F a 0) 0)) ((G.1 (F a 0) 1).toInt)) ((G.1 a 2).toInt)) ∨ (¬ nOk (tC (G.2.1 (F (F a 0) 0)) ((G.1 (F a 0) 1).toInt)) ((G.1 a 2).toInt) ∧ ((G149.1 a 1).toInt) = 3)) := by
  have hE : nE (tC (G.2.1 (F (F a 0) 0)) ((G.1 (F a 0) 1).toInt)) ((G.1 a 2).toInt) = (G_47.1 a 3).toInt := by
    unfold nE
    refine rn_eq ⟨by omega, pr, cDg_n ?_⟩
    rcases tC_f (G.2.1 (F (F a 0) 0)) ((G.1 (F a 0) 1).toInt) ((G_47.1 a 3).toInt) with h | h
    · omega
    · exact Or.inl h.2
  have nf := nS_f (tC (G.2.1 (F (F a 0) 0)) ((G.1 (F a 0) 1).toInt)) ((G.1 a 2).toInt)
  have hk : l3_47.toInt = nE (tC (G.2.1 (F (F a 0) 0)) ((G.1 (F a 0) 1).toInt)) ((G.1 a 2).toInt) - nS (tC (G.2.1 (F (F a 0) 0)) ((G.1 (F a 0) 1).toInt)) ((G.1 a 2).toInt) := by omega
  have e3 : (G149.1 a 3).toInt = (G_47.1 a 3).toInt := by rw [d_G149_a_3]
  refine ⟨by omega, ?_⟩
  by_cases q : 1 ≤ l3_47.toInt ∧ l3_47.toInt ≤ 4
  · refine Or.inl ⟨⟨by omega, by omega⟩, ?_, ?_⟩
    · rw [d_G149_a_1]
      first | rfl | decide | (exfalso; omega)
    · rw [hk] at I47_3
      rw [d_G149_a_4]
      omega
  · refine Or.inr ⟨fun h => q (by have h1 := h.1; have h2 := h.2; omega), ?_⟩
    rw [d_G149_a_1]
    first | rfl | decide | (exfalso; omega)
theorem v_X5_advanceNumber_152_14 {K : Nat → Nat} {F : Nat → Nat → Nat} (a : Nat) (G : XG) (G_47 : XG) (G149 : XG) (x144 : Int32) (x8 : Int32) (l3_47 : Int32) (l2_47 : Int32) (N47 : Nat) (x69 : Int32) (x72 : Int32)
    (ha : K a = 7)
    (pr : ∀ j : Int, nS (tC (G.2.1 (F (F a 0) 0)) ((G.1 (F a 0) 1).toInt)) ((G.1 a 2).toInt) ≤ j → j < ((G_47.1 a 3).toInt) → cDg ((tC (G.2.1 (F (F a 0) 0)) ((G.1 (F a 0) 1).toInt)) j))
    (n0 : 0 ≤ ((G.1 (F a 0) 1).toInt) ∧ ((G.1 (F a 0) 1).toInt) ≤ 80)
    (s0 : 0 ≤ ((G.1 a 2).toInt) ∧ ((G.1 a 2).toInt) < ((G.1 (F a 0) 1).toInt))
    (z0 : ((tC (G.2.1 (F (F a 0) 0)) ((G.1 (F a 0) 1).toInt) ((G.1 a 2).toInt)) = 45 ∧ (nS (tC (G.2.1 (F (F a 0) 0)) ((G.1 (F a 0) 1).toInt)) ((G.1 a 2).toInt)) = ((G.1 a 2).toInt) + 1) ∨ ((tC (G.2.1 (F (F a 0) 0)) ((G.1 (F a 0) 1).toInt) ((G.1 a 2).toInt)) ≠ 45 ∧ (nS (tC (G.2.1 (F (F a 0) 0)) ((G.1 (F a 0) 1).toInt)) ((G.1 a 2).toInt)) = ((G.1 a 2).toInt)))
    (z0a : (nv (tC (G.2.1 (F (F a 0) 0)) ((G.1 (F a 0) 1).toInt)) (nS (tC (G.2.1 (F (F a 0) 0)) ((G.1 (F a 0) 1).toInt)) ((G.1 a 2).toInt)) 0) = 0)
    (t8 : x8.toInt = (tC (G.2.1 (F (F a 0) 0)) ((G.1 (F a 0) 1).toInt) ((G.1 a 2).toInt)))
    (c13 : ¬ (x8.toInt ≠ (45 : Int)))
    (I47_0 : ((G_47.1 a 3).toInt) = (nS (tC (G.2.1 (F (F a 0) 0)) ((G.1 (F a 0) 1).toInt)) ((G.1 a 2).toInt)) + l3_47.toInt)
    (I47_1 : 0 ≤ l3_47.toInt ∧ ((G_47.1 a 3).toInt) ≤ ((G.1 (F a 0) 1).toInt))
    (I47_2 : (l3_47.toInt = 0 ∧ l2_47.toInt = 0) ∨ (l3_47.toInt = 1 ∧ 0 ≤ l2_47.toInt ∧ l2_47.toInt ≤ 9) ∨ (l3_47.toInt = 2 ∧ 0 ≤ l2_47.toInt ∧ l2_47.toInt ≤ 99) ∨ (l3_47.toInt = 3 ∧ 0 ≤ l2_47.toInt ∧ l2_47.toInt ≤ 999) ∨ (4 ≤ l3_47.toInt ∧ 0 ≤ l2_47.toInt ∧ l2_47.toInt ≤ 9999))
    (I47_3 : l3_47.toInt ≤ 4 → l2_47.toInt = (nv (tC (G.2.1 (F (F a 0) 0)) ((G.1 (F a 0) 1).toInt)) (nS (tC (G.2.1 (F (F a 0) 0)) ((G.1 (F a 0) 1).toInt)) ((G.1 a 2).toInt)) (l3_47.toInt)))
    (hm47 : 200 - ((G_47.1 a 3).toInt) < (((N47) + 1 : Nat) : Int))
    (c58 : ¬ (((G.1 (F a 0) 1).toInt) ≤ ((G_47.1 a 3).toInt)))
    (t69 : x69.toInt = (tC (G.2.1 (F (F a 0) 0)) ((G.1 (F a 0) 1).toInt) ((G_47.1 a 3).toInt)))
    (t72 : (x72.toInt = 1 ∧ 48 ≤ x69.toInt ∧ x69.toInt ≤ 57) ∨ (x72.toInt = 0 ∧ (x69.toInt < 48 ∨ 57 < x69.toInt)))
    (c75 : x72.toInt = 0)
    (c122 : ¬ (l3_47.toInt < (1 : Int)))
    (c127 : (4 : Int) < l3_47.toInt)
    (t144 : x144.toInt = -l2_47.toInt ∨ -l2_47.toInt < -2147483648 ∨ 2147483648 ≤ -l2_47.toInt)
    (d_G149_a_1 : G149.1 a 1 = 3)
    (d_G149_a_3 : G149.1 a 3 = G_47.1 a 3)
    (d_G149_a_4 : G149.1 a 4 = x144) :
    ((G149.1 a 3).toInt) = nE (tC (G.2.1 (F (F a 0) 0)) ((G.1 (F a 0) 1).toInt)) ((G.1 a 2).toInt) ∧ ((nOk (tC (G.2.1 (F (F a 0) 0)) ((G.1 (F a 0) 1).toInt)) ((G.1 a 2).toInt) ∧ ((G149.1 a 1).toInt) = 2 ∧ ((G149.1 a 4).toInt) = nVl (tC (G.2.1 (F (F a 0) 0)) ((G.1 (F a 0) 1).toInt)) ((G.1 a 2).toInt)) ∨ (¬ nOk (tC (G.2.1 (F (F a 0) 0)) ((G.1 (F a 0) 1).toInt)) ((G.1 a 2).toInt) ∧ ((G149.1 a 1).toInt) = 3)) := by
  have hE : nE (tC (G.2.1 (F (F a 0) 0)) ((G.1 (F a 0) 1).toInt)) ((G.1 a 2).toInt) = (G_47.1 a 3).toInt := by
    unfold nE
    refine rn_eq ⟨by omega, pr, cDg_n ?_⟩
    rcases tC_f (G.2.1 (F (F a 0) 0)) ((G.1 (F a 0) 1).toInt) ((G_47.1 a 3).toInt) with h | h
    · omega
    · exact Or.inl h.2
  have nf := nS_f (tC (G.2.1 (F (F a 0) 0)) ((G.1 (F a 0) 1).toInt)) ((G.1 a 2).toInt)
  have hk : l3_47.toInt = nE (tC (G.2.1 (F (F a 0) 0)) ((G.1 (F a 0) 1).toInt)) ((G.1 a 2).toInt) - nS (tC (G.2.1 (F (F a 0) 0)) ((G.1 (F a 0) 1).toInt)) ((G.1 a 2).toInt) := by omega
  have e3 : (G149.1 a 3).toInt = (G_47.1 a 3).toInt := by rw [d_G149_a_3]
  refine ⟨by omega, ?_⟩
  by_cases q : 1 ≤ l3_47.toInt ∧ l3_47.toInt ≤ 4
  · refine Or.inl ⟨⟨by omega, by omega⟩, ?_, ?_⟩
    · rw [d_G149_a_1]
      first | rfl | decide | (exfalso; omega)
    · rw [hk] at I47_3
      rw [d_G149_a_4]
      omega
  · refine Or.inr ⟨fun h => q (by have h1 := h.1; have h2 := h.2; omega), ?_⟩
    rw [d_G149_a_1]
    first | rfl | decide | (exfalso; omega)
theorem v_X5_advanceNumber_152_15 {K : Nat → Nat} {F : Nat → Nat → Nat} (a : Nat) (G : XG) (G_47 : XG) (G149 : XG) (x144 : Int32) (x8 : Int32) (l3_47 : Int32) (l2_47 : Int32) (N47 : Nat) (x69 : Int32) (x72 : Int32)
    (ha : K a = 7)
    (pr : ∀ j : Int, nS (tC (G.2.1 (F (F a 0) 0)) ((G.1 (F a 0) 1).toInt)) ((G.1 a 2).toInt) ≤ j → j < ((G_47.1 a 3).toInt) → cDg ((tC (G.2.1 (F (F a 0) 0)) ((G.1 (F a 0) 1).toInt)) j))
    (n0 : 0 ≤ ((G.1 (F a 0) 1).toInt) ∧ ((G.1 (F a 0) 1).toInt) ≤ 80)
    (s0 : 0 ≤ ((G.1 a 2).toInt) ∧ ((G.1 a 2).toInt) < ((G.1 (F a 0) 1).toInt))
    (z0 : ((tC (G.2.1 (F (F a 0) 0)) ((G.1 (F a 0) 1).toInt) ((G.1 a 2).toInt)) = 45 ∧ (nS (tC (G.2.1 (F (F a 0) 0)) ((G.1 (F a 0) 1).toInt)) ((G.1 a 2).toInt)) = ((G.1 a 2).toInt) + 1) ∨ ((tC (G.2.1 (F (F a 0) 0)) ((G.1 (F a 0) 1).toInt) ((G.1 a 2).toInt)) ≠ 45 ∧ (nS (tC (G.2.1 (F (F a 0) 0)) ((G.1 (F a 0) 1).toInt)) ((G.1 a 2).toInt)) = ((G.1 a 2).toInt)))
    (z0a : (nv (tC (G.2.1 (F (F a 0) 0)) ((G.1 (F a 0) 1).toInt)) (nS (tC (G.2.1 (F (F a 0) 0)) ((G.1 (F a 0) 1).toInt)) ((G.1 a 2).toInt)) 0) = 0)
    (t8 : x8.toInt = (tC (G.2.1 (F (F a 0) 0)) ((G.1 (F a 0) 1).toInt) ((G.1 a 2).toInt)))
    (c13 : ¬ (x8.toInt ≠ (45 : Int)))
    (I47_0 : ((G_47.1 a 3).toInt) = (nS (tC (G.2.1 (F (F a 0) 0)) ((G.1 (F a 0) 1).toInt)) ((G.1 a 2).toInt)) + l3_47.toInt)
    (I47_1 : 0 ≤ l3_47.toInt ∧ ((G_47.1 a 3).toInt) ≤ ((G.1 (F a 0) 1).toInt))
    (I47_2 : (l3_47.toInt = 0 ∧ l2_47.toInt = 0) ∨ (l3_47.toInt = 1 ∧ 0 ≤ l2_47.toInt ∧ l2_47.toInt ≤ 9) ∨ (l3_47.toInt = 2 ∧ 0 ≤ l2_47.toInt ∧ l2_47.toInt ≤ 99) ∨ (l3_47.toInt = 3 ∧ 0 ≤ l2_47.toInt ∧ l2_47.toInt ≤ 999) ∨ (4 ≤ l3_47.toInt ∧ 0 ≤ l2_47.toInt ∧ l2_47.toInt ≤ 9999))
    (I47_3 : l3_47.toInt ≤ 4 → l2_47.toInt = (nv (tC (G.2.1 (F (F a 0) 0)) ((G.1 (F a 0) 1).toInt)) (nS (tC (G.2.1 (F (F a 0) 0)) ((G.1 (F a 0) 1).toInt)) ((G.1 a 2).toInt)) (l3_47.toInt)))
    (hm47 : 200 - ((G_47.1 a 3).toInt) < (((N47) + 1 : Nat) : Int))
    (c58 : ¬ (((G.1 (F a 0) 1).toInt) ≤ ((G_47.1 a 3).toInt)))
    (t69 : x69.toInt = (tC (G.2.1 (F (F a 0) 0)) ((G.1 (F a 0) 1).toInt) ((G_47.1 a 3).toInt)))
    (t72 : (x72.toInt = 1 ∧ 48 ≤ x69.toInt ∧ x69.toInt ≤ 57) ∨ (x72.toInt = 0 ∧ (x69.toInt < 48 ∨ 57 < x69.toInt)))
    (c75 : x72.toInt = 0)
    (c122 : ¬ (l3_47.toInt < (1 : Int)))
    (c127 : ¬ ((4 : Int) < l3_47.toInt))
    (t144 : x144.toInt = -l2_47.toInt ∨ -l2_47.toInt < -2147483648 ∨ 2147483648 ≤ -l2_47.toInt)
    (d_G149_a_1 : G149.1 a 1 = 2)
    (d_G149_a_3 : G149.1 a 3 = G_47.1 a 3)
    (d_G149_a_4 : G149.1 a 4 = x144) :
    ((G149.1 a 3).toInt) = nE (tC (G.2.1 (F (F a 0) 0)) ((G.1 (F a 0) 1).toInt)) ((G.1 a 2).toInt) ∧ ((nOk (tC (G.2.1 (F (F a 0) 0)) ((G.1 (F a 0) 1).toInt)) ((G.1 a 2).toInt) ∧ ((G149.1 a 1).toInt) = 2 ∧ ((G149.1 a 4).toInt) = nVl (tC (G.2.1 (F (F a 0) 0)) ((G.1 (F a 0) 1).toInt)) ((G.1 a 2).toInt)) ∨ (¬ nOk (tC (G.2.1 (F (F a 0) 0)) ((G.1 (F a 0) 1).toInt)) ((G.1 a 2).toInt) ∧ ((G149.1 a 1).toInt) = 3)) := by
  have hE : nE (tC (G.2.1 (F (F a 0) 0)) ((G.1 (F a 0) 1).toInt)) ((G.1 a 2).toInt) = (G_47.1 a 3).toInt := by
    unfold nE
    refine rn_eq ⟨by omega, pr, cDg_n ?_⟩
    rcases tC_f (G.2.1 (F (F a 0) 0)) ((G.1 (F a 0) 1).toInt) ((G_47.1 a 3).toInt) with h | h
    · omega
    · exact Or.inl h.2
  have nf := nS_f (tC (G.2.1 (F (F a 0) 0)) ((G.1 (F a 0) 1).toInt)) ((G.1 a 2).toInt)
  have hk : l3_47.toInt = nE (tC (G.2.1 (F (F a 0) 0)) ((G.1 (F a 0) 1).toInt)) ((G.1 a 2).toInt) - nS (tC (G.2.1 (F (F a 0) 0)) ((G.1 (F a 0) 1).toInt)) ((G.1 a 2).toInt) := by omega
  have e3 : (G149.1 a 3).toInt = (G_47.1 a 3).toInt := by rw [d_G149_a_3]
  refine ⟨by omega, ?_⟩
  by_cases q : 1 ≤ l3_47.toInt ∧ l3_47.toInt ≤ 4
  · refine Or.inl ⟨⟨by omega, by omega⟩, ?_, ?_⟩
    · rw [d_G149_a_1]
      first | rfl | decide | (exfalso; omega)
    · rw [hk] at I47_3
      rw [d_G149_a_4]
      omega
  · refine Or.inr ⟨fun h => q (by have h1 := h.1; have h2 := h.2; omega), ?_⟩
    rw [d_G149_a_1]
    first | rfl | decide | (exfalso; omega)
theorem v_X5_advanceNumber_116_16 {K : Nat → Nat} {F : Nat → Nat → Nat} (a : Nat) (G : XG) (G_47 : XG) (l3_47 : Int32) (x8 : Int32) (l2_47 : Int32) (N47 : Nat) (x69 : Int32) (x72 : Int32)
    (ha : K a = 7)
    (pr : ∀ j : Int, nS (tC (G.2.1 (F (F a 0) 0)) ((G.1 (F a 0) 1).toInt)) ((G.1 a 2).toInt) ≤ j → j < ((G_47.1 a 3).toInt) → cDg ((tC (G.2.1 (F (F a 0) 0)) ((G.1 (F a 0) 1).toInt)) j))
    (n0 : 0 ≤ ((G.1 (F a 0) 1).toInt) ∧ ((G.1 (F a 0) 1).toInt) ≤ 80)
    (s0 : 0 ≤ ((G.1 a 2).toInt) ∧ ((G.1 a 2).toInt) < ((G.1 (F a 0) 1).toInt))
    (z0 : ((tC (G.2.1 (F (F a 0) 0)) ((G.1 (F a 0) 1).toInt) ((G.1 a 2).toInt)) = 45 ∧ (nS (tC (G.2.1 (F (F a 0) 0)) ((G.1 (F a 0) 1).toInt)) ((G.1 a 2).toInt)) = ((G.1 a 2).toInt) + 1) ∨ ((tC (G.2.1 (F (F a 0) 0)) ((G.1 (F a 0) 1).toInt) ((G.1 a 2).toInt)) ≠ 45 ∧ (nS (tC (G.2.1 (F (F a 0) 0)) ((G.1 (F a 0) 1).toInt)) ((G.1 a 2).toInt)) = ((G.1 a 2).toInt)))
    (z0a : (nv (tC (G.2.1 (F (F a 0) 0)) ((G.1 (F a 0) 1).toInt)) (nS (tC (G.2.1 (F (F a 0) 0)) ((G.1 (F a 0) 1).toInt)) ((G.1 a 2).toInt)) 0) = 0)
    (t8 : x8.toInt = (tC (G.2.1 (F (F a 0) 0)) ((G.1 (F a 0) 1).toInt) ((G.1 a 2).toInt)))
    (c13 : ¬ (x8.toInt ≠ (45 : Int)))
    (I47_0 : ((G_47.1 a 3).toInt) = (nS (tC (G.2.1 (F (F a 0) 0)) ((G.1 (F a 0) 1).toInt)) ((G.1 a 2).toInt)) + l3_47.toInt)
    (I47_1 : 0 ≤ l3_47.toInt ∧ ((G_47.1 a 3).toInt) ≤ ((G.1 (F a 0) 1).toInt))
    (I47_2 : (l3_47.toInt = 0 ∧ l2_47.toInt = 0) ∨ (l3_47.toInt = 1 ∧ 0 ≤ l2_47.toInt ∧ l2_47.toInt ≤ 9) ∨ (l3_47.toInt = 2 ∧ 0 ≤ l2_47.toInt ∧ l2_47.toInt ≤ 99) ∨ (l3_47.toInt = 3 ∧ 0 ≤ l2_47.toInt ∧ l2_47.toInt ≤ 999) ∨ (4 ≤ l3_47.toInt ∧ 0 ≤ l2_47.toInt ∧ l2_47.toInt ≤ 9999))
    (I47_3 : l3_47.toInt ≤ 4 → l2_47.toInt = (nv (tC (G.2.1 (F (F a 0) 0)) ((G.1 (F a 0) 1).toInt)) (nS (tC (G.2.1 (F (F a 0) 0)) ((G.1 (F a 0) 1).toInt)) ((G.1 a 2).toInt)) (l3_47.toInt)))
    (hm47 : 200 - ((G_47.1 a 3).toInt) < (((N47) + 1 : Nat) : Int))
    (c58 : ¬ (((G.1 (F a 0) 1).toInt) ≤ ((G_47.1 a 3).toInt)))
    (t69 : x69.toInt = (tC (G.2.1 (F (F a 0) 0)) ((G.1 (F a 0) 1).toInt) ((G_47.1 a 3).toInt)))
    (t72 : (x72.toInt = 1 ∧ 48 ≤ x69.toInt ∧ x69.toInt ≤ 57) ∨ (x72.toInt = 0 ∧ (x69.toInt < 48 ∨ 57 < x69.toInt)))
    (c75 : ¬ (x72.toInt = 0))
    (z78 : (nv (tC (G.2.1 (F (F a 0) 0)) ((G.1 (F a 0) 1).toInt)) (nS (tC (G.2.1 (F (F a 0) 0)) ((G.1 (F a 0) 1).toInt)) ((G.1 a 2).toInt)) (l3_47.toInt + 1)) = 10 * (nv (tC (G.2.1 (F (F a 0) 0)) ((G.1 (F a 0) 1).toInt)) (nS (tC (G.2.1 (F (F a 0) 0)) ((G.1 (F a 0) 1).toInt)) ((G.1 a 2).toInt)) (l3_47.toInt)) + ((tC (G.2.1 (F (F a 0) 0)) ((G.1 (F a 0) 1).toInt) ((nS (tC (G.2.1 (F (F a 0) 0)) ((G.1 (F a 0) 1).toInt)) ((G.1 a 2).toInt)) + l3_47.toInt)) - 48))
    (z78a : ((G_47.1 a 3).toInt) = (nS (tC (G.2.1 (F (F a 0) 0)) ((G.1 (F a 0) 1).toInt)) ((G.1 a 2).toInt)) + l3_47.toInt → (tC (G.2.1 (F (F a 0) 0)) ((G.1 (F a 0) 1).toInt) ((nS (tC (G.2.1 (F (F a 0) 0)) ((G.1 (F a 0) 1).toInt)) ((G.1 a 2).toInt)) + l3_47.toInt)) = (tC (G.2.1 (F (F a 0) 0)) ((G.1 (F a 0) 1).toInt) ((G_47.1 a 3).toInt)))
    (c80 : (4 : Int) ≤ l3_47.toInt) :
    ∀ j : Int, nS (tC (G.2.1 (F (F a 0) 0)) ((G.1 (F a 0) 1).toInt)) ((G.1 a 2).toInt) ≤ j → j < (((G_47.1 a 3).toInt) + (1 : Int)) → cDg ((tC (G.2.1 (F (F a 0) 0)) ((G.1 (F a 0) 1).toInt)) j) := by
  intro j h1 h2
  by_cases e : j = (G_47.1 a 3).toInt
  · rw [e]; unfold cDg; omega
  · exact pr j h1 (by omega)
theorem v_X5_advanceNumber_116_17 {K : Nat → Nat} {F : Nat → Nat → Nat} (a : Nat) (G : XG) (G_47 : XG) (l2_47 : Int32) (l3_47 : Int32) (x8 : Int32) (N47 : Nat) (x69 : Int32) (x72 : Int32)
    (ha : K a = 7)
    (pr : ∀ j : Int, nS (tC (G.2.1 (F (F a 0) 0)) ((G.1 (F a 0) 1).toInt)) ((G.1 a 2).toInt) ≤ j → j < ((G_47.1 a 3).toInt) → cDg ((tC (G.2.1 (F (F a 0) 0)) ((G.1 (F a 0) 1).toInt)) j))
    (n0 : 0 ≤ ((G.1 (F a 0) 1).toInt) ∧ ((G.1 (F a 0) 1).toInt) ≤ 80)
    (s0 : 0 ≤ ((G.1 a 2).toInt) ∧ ((G.1 a 2).toInt) < ((G.1 (F a 0) 1).toInt))
    (z0 : ((tC (G.2.1 (F (F a 0) 0)) ((G.1 (F a 0) 1).toInt) ((G.1 a 2).toInt)) = 45 ∧ (nS (tC (G.2.1 (F (F a 0) 0)) ((G.1 (F a 0) 1).toInt)) ((G.1 a 2).toInt)) = ((G.1 a 2).toInt) + 1) ∨ ((tC (G.2.1 (F (F a 0) 0)) ((G.1 (F a 0) 1).toInt) ((G.1 a 2).toInt)) ≠ 45 ∧ (nS (tC (G.2.1 (F (F a 0) 0)) ((G.1 (F a 0) 1).toInt)) ((G.1 a 2).toInt)) = ((G.1 a 2).toInt)))
    (z0a : (nv (tC (G.2.1 (F (F a 0) 0)) ((G.1 (F a 0) 1).toInt)) (nS (tC (G.2.1 (F (F a 0) 0)) ((G.1 (F a 0) 1).toInt)) ((G.1 a 2).toInt)) 0) = 0)
    (t8 : x8.toInt = (tC (G.2.1 (F (F a 0) 0)) ((G.1 (F a 0) 1).toInt) ((G.1 a 2).toInt)))
    (c13 : ¬ (x8.toInt ≠ (45 : Int)))
    (I47_0 : ((G_47.1 a 3).toInt) = (nS (tC (G.2.1 (F (F a 0) 0)) ((G.1 (F a 0) 1).toInt)) ((G.1 a 2).toInt)) + l3_47.toInt)
    (I47_1 : 0 ≤ l3_47.toInt ∧ ((G_47.1 a 3).toInt) ≤ ((G.1 (F a 0) 1).toInt))
    (I47_2 : (l3_47.toInt = 0 ∧ l2_47.toInt = 0) ∨ (l3_47.toInt = 1 ∧ 0 ≤ l2_47.toInt ∧ l2_47.toInt ≤ 9) ∨ (l3_47.toInt = 2 ∧ 0 ≤ l2_47.toInt ∧ l2_47.toInt ≤ 99) ∨ (l3_47.toInt = 3 ∧ 0 ≤ l2_47.toInt ∧ l2_47.toInt ≤ 999) ∨ (4 ≤ l3_47.toInt ∧ 0 ≤ l2_47.toInt ∧ l2_47.toInt ≤ 9999))
    (I47_3 : l3_47.toInt ≤ 4 → l2_47.toInt = (nv (tC (G.2.1 (F (F a 0) 0)) ((G.1 (F a 0) 1).toInt)) (nS (tC (G.2.1 (F (F a 0) 0)) ((G.1 (F a 0) 1).toInt)) ((G.1 a 2).toInt)) (l3_47.toInt)))
    (hm47 : 200 - ((G_47.1 a 3).toInt) < (((N47) + 1 : Nat) : Int))
    (c58 : ¬ (((G.1 (F a 0) 1).toInt) ≤ ((G_47.1 a 3).toInt)))
    (t69 : x69.toInt = (tC (G.2.1 (F (F a 0) 0)) ((G.1 (F a 0) 1).toInt) ((G_47.1 a 3).toInt)))
    (t72 : (x72.toInt = 1 ∧ 48 ≤ x69.toInt ∧ x69.toInt ≤ 57) ∨ (x72.toInt = 0 ∧ (x69.toInt < 48 ∨ 57 < x69.toInt)))
    (c75 : ¬ (x72.toInt = 0))
    (z78 : (nv (tC (G.2.1 (F (F a 0) 0)) ((G.1 (F a 0) 1).toInt)) (nS (tC (G.2.1 (F (F a 0) 0)) ((G.1 (F a 0) 1).toInt)) ((G.1 a 2).toInt)) (l3_47.toInt + 1)) = 10 * (nv (tC (G.2.1 (F (F a 0) 0)) ((G.1 (F a 0) 1).toInt)) (nS (tC (G.2.1 (F (F a 0) 0)) ((G.1 (F a 0) 1).toInt)) ((G.1 a 2).toInt)) (l3_47.toInt)) + ((tC (G.2.1 (F (F a 0) 0)) ((G.1 (F a 0) 1).toInt) ((nS (tC (G.2.1 (F (F a 0) 0)) ((G.1 (F a 0) 1).toInt)) ((G.1 a 2).toInt)) + l3_47.toInt)) - 48))
    (z78a : ((G_47.1 a 3).toInt) = (nS (tC (G.2.1 (F (F a 0) 0)) ((G.1 (F a 0) 1).toInt)) ((G.1 a 2).toInt)) + l3_47.toInt → (tC (G.2.1 (F (F a 0) 0)) ((G.1 (F a 0) 1).toInt) ((nS (tC (G.2.1 (F (F a 0) 0)) ((G.1 (F a 0) 1).toInt)) ((G.1 a 2).toInt)) + l3_47.toInt)) = (tC (G.2.1 (F (F a 0) 0)) ((G.1 (F a 0) 1).toInt) ((G_47.1 a 3).toInt)))
    (c80 : ¬ ((4 : Int) ≤ l3_47.toInt)) :
    ∀ j : Int, nS (tC (G.2.1 (F (F a 0) 0)) ((G.1 (F a 0) 1).toInt)) ((G.1 a 2).toInt) ≤ j → j < (((G_47.1 a 3).toInt) + (1 : Int)) → cDg ((tC (G.2.1 (F (F a 0) 0)) ((G.1 (F a 0) 1).toInt)) j) := by
  intro j h1 h2
  by_cases e : j = (G_47.1 a 3).toInt
  · rw [e]; unfold cDg; omega
  · exact pr j h1 (by omega)
theorem v_X5_advanceNumber_44_18 {K : Nat → Nat} {F : Nat → Nat → Nat} (a : Nat) (G : XG) (x8 : Int32)
    (ha : K a = 7)
    (n0 : 0 ≤ ((G.1 (F a 0) 1).toInt) ∧ ((G.1 (F a 0) 1).toInt) ≤ 80)
    (s0 : 0 ≤ ((G.1 a 2).toInt) ∧ ((G.1 a 2).toInt) < ((G.1 (F a 0) 1).toInt))
    (z0 : ((tC (G.2.1 (F (F a 0) 0)) ((G.1 (F a 0) 1).toInt) ((G.1 a 2).toInt)) = 45 ∧ (nS (tC (G.2.1 (F (F a 0) 0)) ((G.1 (F a 0) 1).toInt)) ((G.1 a 2).toInt)) = ((G.1 a 2).toInt) + 1) ∨ ((tC (G.2.1 (F (F a 0) 0)) ((G.1 (F a 0) 1).toInt) ((G.1 a 2).toInt)) ≠ 45 ∧ (nS (tC (G.2.1 (F (F a 0) 0)) ((G.1 (F a 0) 1).toInt)) ((G.1 a 2).toInt)) = ((G.1 a 2).toInt)))
    (z0a : (nv (tC (G.2.1 (F (F a 0) 0)) ((G.1 (F a 0) 1).toInt)) (nS (tC (G.2.1 (F (F a 0) 0)) ((G.1 (F a 0) 1).toInt)) ((G.1 a 2).toInt)) 0) = 0)
    (t8 : x8.toInt = (tC (G.2.1 (F (F a 0) 0)) ((G.1 (F a 0) 1).toInt) ((G.1 a 2).toInt)))
    (c13 : ¬ (x8.toInt ≠ (45 : Int))) :
    ∀ j : Int, nS (tC (G.2.1 (F (F a 0) 0)) ((G.1 (F a 0) 1).toInt)) ((G.1 a 2).toInt) ≤ j → j < (((G.1 a 2).toInt) + (1 : Int)) → cDg ((tC (G.2.1 (F (F a 0) 0)) ((G.1 (F a 0) 1).toInt)) j) := by
  intro j h1 h2; exact absurd h1 (by omega)
theorem v_X5_advance_109_1 {K : Nat → Nat} {F : Nat → Nat → Nat} (a : Nat) (G : XG) (G_8 : XG) (G56 : XG) (G106 : XG) (N8 : Nat) (x89 : Int32) (x92 : Int32)
    (ha : K a = 7)
    (pr : ∀ j : Int, (G.1 a 3).toInt ≤ j → j < ((G_8.1 a 2).toInt) → cBl ((tC (G.2.1 (F (F a 0) 0)) ((G.1 (F a 0) 1).toInt)) j))
    (oq106 : ((G106.1 a 3).toInt) = nE (tC (G.2.1 (F (F a 0) 0)) ((G.1 (F a 0) 1).toInt)) ((G_8.1 a 2).toInt) ∧ ((nOk (tC (G.2.1 (F (F a 0) 0)) ((G.1 (F a 0) 1).toInt)) ((G_8.1 a 2).toInt) ∧ ((G106.1 a 1).toInt) = 2 ∧ ((G106.1 a 4).toInt) = nVl (tC (G.2.1 (F (F a 0) 0)) ((G.1 (F a 0) 1).toInt)) ((G_8.1 a 2).toInt)) ∨ (¬ nOk (tC (G.2.1 (F (F a 0) 0)) ((G.1 (F a 0) 1).toInt)) ((G_8.1 a 2).toInt) ∧ ((G106.1 a 1).toInt) = 3)))
    (n0 : 0 ≤ ((G.1 (F a 0) 1).toInt) ∧ ((G.1 (F a 0) 1).toInt) ≤ 80)
    (s0 : 0 ≤ ((G.1 a 3).toInt) ∧ ((G.1 a 3).toInt) ≤ ((G.1 (F a 0) 1).toInt))
    (I8_0 : ((G.1 a 3).toInt) ≤ ((G_8.1 a 2).toInt) ∧ ((G_8.1 a 2).toInt) ≤ ((G.1 (F a 0) 1).toInt))
    (hm8 : 200 - ((G_8.1 a 2).toInt) < (((N8) + 1 : Nat) : Int))
    (c19 : ((G.1 (F a 0) 1).toInt) ≤ ((G_8.1 a 2).toInt))
    (c70 : ((G_8.1 a 2).toInt) < ((G.1 (F a 0) 1).toInt))
    (t89 : x89.toInt = (tC (G.2.1 (F (F a 0) 0)) ((G.1 (F a 0) 1).toInt) ((G_8.1 a 2).toInt)))
    (t92 : (x92.toInt = 1 ∧ 97 ≤ x89.toInt ∧ x89.toInt ≤ 122) ∨ (x92.toInt = 0 ∧ (x89.toInt < 97 ∨ 122 < x89.toInt)))
    (c95 : x92.toInt = 0)
    (t106 : 0 ≤ ((G106.1 a 3).toInt) ∧ ((G106.1 a 3).toInt) ≤ ((G.1 (F a 0) 1).toInt))
    (d_G106_a_2 : G106.1 a 2 = G_8.1 a 2)
    (d_G56_a_2 : G56.1 a 2 = G_8.1 a 2) :
    ((G106.1 a 2).toInt) = rn cBl (tC (G.2.1 (F (F a 0) 0)) ((G.1 (F a 0) 1).toInt)) ((G.1 a 3).toInt) ∧ TokI (tC (G.2.1 (F (F a 0) 0)) ((G.1 (F a 0) 1).toInt)) ((G.1 (F a 0) 1).toInt) ((G106.1 a 1).toInt) ((G106.1 a 2).toInt) ((G106.1 a 3).toInt) ((G106.1 a 4).toInt) := by
  have hb : ¬ cBl ((tC (G.2.1 (F (F a 0) 0)) ((G.1 (F a 0) 1).toInt)) ((G_8.1 a 2).toInt)) := by
    have := tC_f (G.2.1 (F (F a 0) 0)) ((G.1 (F a 0) 1).toInt) ((G_8.1 a 2).toInt)
    show ¬ (_ = (32 : Int))
    omega
  have hr : (G_8.1 a 2).toInt = rn cBl (tC (G.2.1 (F (F a 0) 0)) ((G.1 (F a 0) 1).toInt)) ((G.1 a 3).toInt) := (rn_eq ⟨by omega, pr, hb⟩).symm
  rw [d_G106_a_2]
  refine ⟨hr, hb, fun h => absurd h (by omega), fun _ h => absurd h (cLt_n (by omega)), fun _ _ => ?_⟩
  first
    | exact oq106
    | (rw [d_G56_a_2] at oq106; exact oq106)
theorem v_X5_advance_109_2 {K : Nat → Nat} {F : Nat → Nat → Nat} (a : Nat) (G : XG) (G_8 : XG) (G56 : XG) (G99 : XG) (N8 : Nat) (x89 : Int32) (x92 : Int32)
    (ha : K a = 7)
    (pr : ∀ j : Int, (G.1 a 3).toInt ≤ j → j < ((G_8.1 a 2).toInt) → cBl ((tC (G.2.1 (F (F a 0) 0)) ((G.1 (F a 0) 1).toInt)) j))
    (oq99 : ((G99.1 a 3).toInt) = rn cLt (tC (G.2.1 (F (F a 0) 0)) ((G.1 (F a 0) 1).toInt)) ((G56.1 a 3).toInt))
    (n0 : 0 ≤ ((G.1 (F a 0) 1).toInt) ∧ ((G.1 (F a 0) 1).toInt) ≤ 80)
    (s0 : 0 ≤ ((G.1 a 3).toInt) ∧ ((G.1 a 3).toInt) ≤ ((G.1 (F a 0) 1).toInt))
    (I8_0 : ((G.1 a 3).toInt) ≤ ((G_8.1 a 2).toInt) ∧ ((G_8.1 a 2).toInt) ≤ ((G.1 (F a 0) 1).toInt))
    (hm8 : 200 - ((G_8.1 a 2).toInt) < (((N8) + 1 : Nat) : Int))
    (c19 : ((G.1 (F a 0) 1).toInt) ≤ ((G_8.1 a 2).toInt))
    (c70 : ((G_8.1 a 2).toInt) < ((G.1 (F a 0) 1).toInt))
    (t89 : x89.toInt = (tC (G.2.1 (F (F a 0) 0)) ((G.1 (F a 0) 1).toInt) ((G_8.1 a 2).toInt)))
    (t92 : (x92.toInt = 1 ∧ 97 ≤ x89.toInt ∧ x89.toInt ≤ 122) ∨ (x92.toInt = 0 ∧ (x89.toInt < 97 ∨ 122 < x89.toInt)))
    (c95 : ¬ (x92.toInt = 0))
    (t99 : ((G99.1 a 1).toInt) = 1 ∧ ((G_8.1 a 2).toInt) ≤ ((G99.1 a 3).toInt) ∧ ((G99.1 a 3).toInt) ≤ ((G.1 (F a 0) 1).toInt))
    (d_G56_a_3 : G56.1 a 3 = (G_8.1 a 2))
    (d_G99_a_2 : G99.1 a 2 = G_8.1 a 2) :
    ((G99.1 a 2).toInt) = rn cBl (tC (G.2.1 (F (F a 0) 0)) ((G.1 (F a 0) 1).toInt)) ((G.1 a 3).toInt) ∧ TokI (tC (G.2.1 (F (F a 0) 0)) ((G.1 (F a 0) 1).toInt)) ((G.1 (F a 0) 1).toInt) ((G99.1 a 1).toInt) ((G99.1 a 2).toInt) ((G99.1 a 3).toInt) ((G99.1 a 4).toInt) := by
  have hb : ¬ cBl ((tC (G.2.1 (F (F a 0) 0)) ((G.1 (F a 0) 1).toInt)) ((G_8.1 a 2).toInt)) := by
    have := tC_f (G.2.1 (F (F a 0) 0)) ((G.1 (F a 0) 1).toInt) ((G_8.1 a 2).toInt)
    show ¬ (_ = (32 : Int))
    omega
  have hr : (G_8.1 a 2).toInt = rn cBl (tC (G.2.1 (F (F a 0) 0)) ((G.1 (F a 0) 1).toInt)) ((G.1 a 3).toInt) := (rn_eq ⟨by omega, pr, hb⟩).symm
  rw [d_G56_a_3] at oq99
  rw [d_G99_a_2]
  exact ⟨hr, hb, fun h => absurd h (by omega), fun _ _ => ⟨by omega, oq99⟩, fun _ h => absurd (show cLt _ from ⟨by omega, by omega⟩) h⟩
theorem v_X5_advance_109_3 {K : Nat → Nat} {F : Nat → Nat → Nat} (a : Nat) (G : XG) (G_8 : XG) (G75 : XG) (N8 : Nat)
    (ha : K a = 7)
    (pr : ∀ j : Int, (G.1 a 3).toInt ≤ j → j < ((G_8.1 a 2).toInt) → cBl ((tC (G.2.1 (F (F a 0) 0)) ((G.1 (F a 0) 1).toInt)) j))
    (n0 : 0 ≤ ((G.1 (F a 0) 1).toInt) ∧ ((G.1 (F a 0) 1).toInt) ≤ 80)
    (s0 : 0 ≤ ((G.1 a 3).toInt) ∧ ((G.1 a 3).toInt) ≤ ((G.1 (F a 0) 1).toInt))
    (I8_0 : ((G.1 a 3).toInt) ≤ ((G_8.1 a 2).toInt) ∧ ((G_8.1 a 2).toInt) ≤ ((G.1 (F a 0) 1).toInt))
    (hm8 : 200 - ((G_8.1 a 2).toInt) < (((N8) + 1 : Nat) : Int))
    (c19 : ((G.1 (F a 0) 1).toInt) ≤ ((G_8.1 a 2).toInt))
    (c70 : ¬ (((G_8.1 a 2).toInt) < ((G.1 (F a 0) 1).toInt)))
    (d_G75_a_1 : G75.1 a 1 = 0)
    (d_G75_a_2 : G75.1 a 2 = G_8.1 a 2) :
    ((G75.1 a 2).toInt) = rn cBl (tC (G.2.1 (F (F a 0) 0)) ((G.1 (F a 0) 1).toInt)) ((G.1 a 3).toInt) ∧ TokI (tC (G.2.1 (F (F a 0) 0)) ((G.1 (F a 0) 1).toInt)) ((G.1 (F a 0) 1).toInt) ((G75.1 a 1).toInt) ((G75.1 a 2).toInt) ((G75.1 a 3).toInt) ((G75.1 a 4).toInt) := by
  have hb : ¬ cBl ((tC (G.2.1 (F (F a 0) 0)) ((G.1 (F a 0) 1).toInt)) ((G_8.1 a 2).toInt)) := by
    have := tC_f (G.2.1 (F (F a 0) 0)) ((G.1 (F a 0) 1).toInt) ((G_8.1 a 2).toInt)
    show ¬ (_ = (32 : Int))
    omega
  have hr : (G_8.1 a 2).toInt = rn cBl (tC (G.2.1 (F (F a 0) 0)) ((G.1 (F a 0) 1).toInt)) ((G.1 a 3).toInt) := (rn_eq ⟨by omega, pr, hb⟩).symm
  rw [d_G75_a_2, d_G75_a_1]
  exact ⟨hr, hb, fun _ => by decide, fun h => absurd h (by omega), fun h => absurd h (by omega)⟩
theorem v_X5_advance_109_4 {K : Nat → Nat} {F : Nat → Nat → Nat} (a : Nat) (G : XG) (G_8 : XG) (G56 : XG) (G106 : XG) (N8 : Nat) (x30 : Int32) (x89 : Int32) (x92 : Int32)
    (ha : K a = 7)
    (pr : ∀ j : Int, (G.1 a 3).toInt ≤ j → j < ((G_8.1 a 2).toInt) → cBl ((tC (G.2.1 (F (F a 0) 0)) ((G.1 (F a 0) 1).toInt)) j))
    (oq106 : ((G106.1 a 3).toInt) = nE (tC (G.2.1 (F (F a 0) 0)) ((G.1 (F a 0) 1).toInt)) ((G_8.1 a 2).toInt) ∧ ((nOk (tC (G.2.1 (F (F a 0) 0)) ((G.1 (F a 0) 1).toInt)) ((G_8.1 a 2).toInt) ∧ ((G106.1 a 1).toInt) = 2 ∧ ((G106.1 a 4).toInt) = nVl (tC (G.2.1 (F (F a 0) 0)) ((G.1 (F a 0) 1).toInt)) ((G_8.1 a 2).toInt)) ∨ (¬ nOk (tC (G.2.1 (F (F a 0) 0)) ((G.1 (F a 0) 1).toInt)) ((G_8.1 a 2).toInt) ∧ ((G106.1 a 1).toInt) = 3)))
    (n0 : 0 ≤ ((G.1 (F a 0) 1).toInt) ∧ ((G.1 (F a 0) 1).toInt) ≤ 80)
    (s0 : 0 ≤ ((G.1 a 3).toInt) ∧ ((G.1 a 3).toInt) ≤ ((G.1 (F a 0) 1).toInt))
    (I8_0 : ((G.1 a 3).toInt) ≤ ((G_8.1 a 2).toInt) ∧ ((G_8.1 a 2).toInt) ≤ ((G.1 (F a 0) 1).toInt))
    (hm8 : 200 - ((G_8.1 a 2).toInt) < (((N8) + 1 : Nat) : Int))
    (c19 : ¬ (((G.1 (F a 0) 1).toInt) ≤ ((G_8.1 a 2).toInt)))
    (t30 : x30.toInt = (tC (G.2.1 (F (F a 0) 0)) ((G.1 (F a 0) 1).toInt) ((G_8.1 a 2).toInt)))
    (c35 : x30.toInt ≠ (32 : Int))
    (c70 : ((G_8.1 a 2).toInt) < ((G.1 (F a 0) 1).toInt))
    (t89 : x89.toInt = (tC (G.2.1 (F (F a 0) 0)) ((G.1 (F a 0) 1).toInt) ((G_8.1 a 2).toInt)))
    (t92 : (x92.toInt = 1 ∧ 97 ≤ x89.toInt ∧ x89.toInt ≤ 122) ∨ (x92.toInt = 0 ∧ (x89.toInt < 97 ∨ 122 < x89.toInt)))
    (c95 : x92.toInt = 0)
    (t106 : 0 ≤ ((G106.1 a 3).toInt) ∧ ((G106.1 a 3).toInt) ≤ ((G.1 (F a 0) 1).toInt))
    (d_G106_a_2 : G106.1 a 2 = G_8.1 a 2)
    (d_G56_a_2 : G56.1 a 2 = G_8.1 a 2) :
    ((G106.1 a 2).toInt) = rn cBl (tC (G.2.1 (F (F a 0) 0)) ((G.1 (F a 0) 1).toInt)) ((G.1 a 3).toInt) ∧ TokI (tC (G.2.1 (F (F a 0) 0)) ((G.1 (F a 0) 1).toInt)) ((G.1 (F a 0) 1).toInt) ((G106.1 a 1).toInt) ((G106.1 a 2).toInt) ((G106.1 a 3).toInt) ((G106.1 a 4).toInt) := by
  have hb : ¬ cBl ((tC (G.2.1 (F (F a 0) 0)) ((G.1 (F a 0) 1).toInt)) ((G_8.1 a 2).toInt)) := by
    have := tC_f (G.2.1 (F (F a 0) 0)) ((G.1 (F a 0) 1).toInt) ((G_8.1 a 2).toInt)
    show ¬ (_ = (32 : Int))
    omega
  have hr : (G_8.1 a 2).toInt = rn cBl (tC (G.2.1 (F (F a 0) 0)) ((G.1 (F a 0) 1).toInt)) ((G.1 a 3).toInt) := (rn_eq ⟨by omega, pr, hb⟩).symm
  rw [d_G106_a_2]
  refine ⟨hr, hb, fun h => absurd h (by omega), fun _ h => absurd h (cLt_n (by omega)), fun _ _ => ?_⟩
  first
    | exact oq106
    | (rw [d_G56_a_2] at oq106; exact oq106)
theorem v_X5_advance_109_5 {K : Nat → Nat} {F : Nat → Nat → Nat} (a : Nat) (G : XG) (G_8 : XG) (G56 : XG) (G99 : XG) (N8 : Nat) (x30 : Int32) (x89 : Int32) (x92 : Int32)
    (ha : K a = 7)
    (pr : ∀ j : Int, (G.1 a 3).toInt ≤ j → j < ((G_8.1 a 2).toInt) → cBl ((tC (G.2.1 (F (F a 0) 0)) ((G.1 (F a 0) 1).toInt)) j))
    (oq99 : ((G99.1 a 3).toInt) = rn cLt (tC (G.2.1 (F (F a 0) 0)) ((G.1 (F a 0) 1).toInt)) ((G56.1 a 3).toInt))
    (n0 : 0 ≤ ((G.1 (F a 0) 1).toInt) ∧ ((G.1 (F a 0) 1).toInt) ≤ 80)
    (s0 : 0 ≤ ((G.1 a 3).toInt) ∧ ((G.1 a 3).toInt) ≤ ((G.1 (F a 0) 1).toInt))
    (I8_0 : ((G.1 a 3).toInt) ≤ ((G_8.1 a 2).toInt) ∧ ((G_8.1 a 2).toInt) ≤ ((G.1 (F a 0) 1).toInt))
    (hm8 : 200 - ((G_8.1 a 2).toInt) < (((N8) + 1 : Nat) : Int))
    (c19 : ¬ (((G.1 (F a 0) 1).toInt) ≤ ((G_8.1 a 2).toInt)))
    (t30 : x30.toInt = (tC (G.2.1 (F (F a 0) 0)) ((G.1 (F a 0) 1).toInt) ((G_8.1 a 2).toInt)))
    (c35 : x30.toInt ≠ (32 : Int))
    (c70 : ((G_8.1 a 2).toInt) < ((G.1 (F a 0) 1).toInt))
    (t89 : x89.toInt = (tC (G.2.1 (F (F a 0) 0)) ((G.1 (F a 0) 1).toInt) ((G_8.1 a 2).toInt)))
    (t92 : (x92.toInt = 1 ∧ 97 ≤ x89.toInt ∧ x89.toInt ≤ 122) ∨ (x92.toInt = 0 ∧ (x89.toInt < 97 ∨ 122 < x89.toInt)))
    (c95 : ¬ (x92.toInt = 0))
    (t99 : ((G99.1 a 1).toInt) = 1 ∧ ((G_8.1 a 2).toInt) ≤ ((G99.1 a 3).toInt) ∧ ((G99.1 a 3).toInt) ≤ ((G.1 (F a 0) 1).toInt))
    (d_G56_a_3 : G56.1 a 3 = (G_8.1 a 2))
    (d_G99_a_2 : G99.1 a 2 = G_8.1 a 2) :
    ((G99.1 a 2).toInt) = rn cBl (tC (G.2.1 (F (F a 0) 0)) ((G.1 (F a 0) 1).toInt)) ((G.1 a 3).toInt) ∧ TokI (tC (G.2.1 (F (F a 0) 0)) ((G.1 (F a 0) 1).toInt)) ((G.1 (F a 0) 1).toInt) ((G99.1 a 1).toInt) ((G99.1 a 2).toInt) ((G99.1 a 3).toInt) ((G99.1 a 4).toInt) := by
  have hb : ¬ cBl ((tC (G.2.1 (F (F a 0) 0)) ((G.1 (F a 0) 1).toInt)) ((G_8.1 a 2).toInt)) := by
    have := tC_f (G.2.1 (F (F a 0) 0)) ((G.1 (F a 0) 1).toInt) ((G_8.1 a 2).toInt)
    show ¬ (_ = (32 : Int))
    omega
  have hr : (G_8.1 a 2).toInt = rn cBl (tC (G.2.1 (F (F a 0) 0)) ((G.1 (F a 0) 1).toInt)) ((G.1 a 3).toInt) := (rn_eq ⟨by omega, pr, hb⟩).symm
  rw [d_G56_a_3] at oq99
  rw [d_G99_a_2]
  exact ⟨hr, hb, fun h => absurd h (by omega), fun _ _ => ⟨by omega, oq99⟩, fun _ h => absurd (show cLt _ from ⟨by omega, by omega⟩) h⟩
theorem v_X5_advance_109_6 {K : Nat → Nat} {F : Nat → Nat → Nat} (a : Nat) (G : XG) (G_8 : XG) (G75 : XG) (N8 : Nat) (x30 : Int32)
    (ha : K a = 7)
    (pr : ∀ j : Int, (G.1 a 3).toInt ≤ j → j < ((G_8.1 a 2).toInt) → cBl ((tC (G.2.1 (F (F a 0) 0)) ((G.1 (F a 0) 1).toInt)) j))
    (n0 : 0 ≤ ((G.1 (F a 0) 1).toInt) ∧ ((G.1 (F a 0) 1).toInt) ≤ 80)
    (s0 : 0 ≤ ((G.1 a 3).toInt) ∧ ((G.1 a 3).toInt) ≤ ((G.1 (F a 0) 1).toInt))
    (I8_0 : ((G.1 a 3).toInt) ≤ ((G_8.1 a 2).toInt) ∧ ((G_8.1 a 2).toInt) ≤ ((G.1 (F a 0) 1).toInt))
    (hm8 : 200 - ((G_8.1 a 2).toInt) < (((N8) + 1 : Nat) : Int))
    (c19 : ¬ (((G.1 (F a 0) 1).toInt) ≤ ((G_8.1 a 2).toInt)))
    (t30 : x30.toInt = (tC (G.2.1 (F (F a 0) 0)) ((G.1 (F a 0) 1).toInt) ((G_8.1 a 2).toInt)))
    (c35 : x30.toInt ≠ (32 : Int))
    (c70 : ¬ (((G_8.1 a 2).toInt) < ((G.1 (F a 0) 1).toInt)))
    (d_G75_a_1 : G75.1 a 1 = 0)
    (d_G75_a_2 : G75.1 a 2 = G_8.1 a 2) :
    ((G75.1 a 2).toInt) = rn cBl (tC (G.2.1 (F (F a 0) 0)) ((G.1 (F a 0) 1).toInt)) ((G.1 a 3).toInt) ∧ TokI (tC (G.2.1 (F (F a 0) 0)) ((G.1 (F a 0) 1).toInt)) ((G.1 (F a 0) 1).toInt) ((G75.1 a 1).toInt) ((G75.1 a 2).toInt) ((G75.1 a 3).toInt) ((G75.1 a 4).toInt) := by
  have hb : ¬ cBl ((tC (G.2.1 (F (F a 0) 0)) ((G.1 (F a 0) 1).toInt)) ((G_8.1 a 2).toInt)) := by
    have := tC_f (G.2.1 (F (F a 0) 0)) ((G.1 (F a 0) 1).toInt) ((G_8.1 a 2).toInt)
    show ¬ (_ = (32 : Int))
    omega
  have hr : (G_8.1 a 2).toInt = rn cBl (tC (G.2.1 (F (F a 0) 0)) ((G.1 (F a 0) 1).toInt)) ((G.1 a 3).toInt) := (rn_eq ⟨by omega, pr, hb⟩).symm
  rw [d_G75_a_2, d_G75_a_1]
  exact ⟨hr, hb, fun _ => by decide, fun h => absurd h (by omega), fun h => absurd h (by omega)⟩
theorem v_X5_advance_48_7 {K : Nat → Nat} {F : Nat → Nat → Nat} (a : Nat) (G : XG) (G_8 : XG) (N8 : Nat) (x30 : Int32)
    (ha : K a = 7)
    (pr : ∀ j : Int, (G.1 a 3).toInt ≤ j → j < ((G_8.1 a 2).toInt) → cBl ((tC (G.2.1 (F (F a 0) 0)) ((G.1 (F a 0) 1).toInt)) j))
    (n0 : 0 ≤ ((G.1 (F a 0) 1).toInt) ∧ ((G.1 (F a 0) 1).toInt) ≤ 80)
    (s0 : 0 ≤ ((G.1 a 3).toInt) ∧ ((G.1 a 3).toInt) ≤ ((G.1 (F a 0) 1).toInt))
    (I8_0 : ((G.1 a 3).toInt) ≤ ((G_8.1 a 2).toInt) ∧ ((G_8.1 a 2).toInt) ≤ ((G.1 (F a 0) 1).toInt))
    (hm8 : 200 - ((G_8.1 a 2).toInt) < (((N8) + 1 : Nat) : Int))
    (c19 : ¬ (((G.1 (F a 0) 1).toInt) ≤ ((G_8.1 a 2).toInt)))
    (t30 : x30.toInt = (tC (G.2.1 (F (F a 0) 0)) ((G.1 (F a 0) 1).toInt) ((G_8.1 a 2).toInt)))
    (c35 : ¬ (x30.toInt ≠ (32 : Int))) :
    ∀ j : Int, (G.1 a 3).toInt ≤ j → j < (((G_8.1 a 2).toInt) + (1 : Int)) → cBl ((tC (G.2.1 (F (F a 0) 0)) ((G.1 (F a 0) 1).toInt)) j) := by
  intro j h1 h2
  by_cases e : j = (G_8.1 a 2).toInt
  · rw [e]; show _ = (32 : Int); omega
  · exact pr j h1 (by omega)
theorem v_X5_advance_5_8 {K : Nat → Nat} {F : Nat → Nat → Nat} (a : Nat) (G : XG)
    (ha : K a = 7)
    (n0 : 0 ≤ ((G.1 (F a 0) 1).toInt) ∧ ((G.1 (F a 0) 1).toInt) ≤ 80)
    (s0 : 0 ≤ ((G.1 a 3).toInt) ∧ ((G.1 a 3).toInt) ≤ ((G.1 (F a 0) 1).toInt)) :
    ∀ j : Int, (G.1 a 3).toInt ≤ j → j < ((G.1 a 3).toInt) → cBl ((tC (G.2.1 (F (F a 0) 0)) ((G.1 (F a 0) 1).toInt)) j) := by
  intro j h1 h2; exact absurd h1 (by omega)
