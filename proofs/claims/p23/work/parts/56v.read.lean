theorem v_X8_addFour_70_1 {K : Nat → Nat} {F : Nat → Nat → Nat} (a : Nat) (G : XG) (G_16 : XG) (p0 : Int32) (x5 : Int32) (l2_16 : Int32) (N16 : Nat)
    (ha : K a = 10)
    (pf : ∀ z : Int, 0 ≤ z → aI (G_16.2.1 (F a 0)) z = if (G.1 a 1).toInt ≤ z ∧ z < ((G_16.1 a 1).toInt) then bqI p0 (24 - 8 * (z - (G.1 a 1).toInt)) else aI (G.2.1 (F a 0)) z)
    (n0 : 0 ≤ ((G.1 a 1).toInt) ∧ ((G.1 a 1).toInt) ≤ 80)
    (t5 : x5.toInt = ((G.1 a 1).toInt) + (4 : Int) ∨ ((G.1 a 1).toInt) + (4 : Int) < -2147483648 ∨ 2147483648 ≤ ((G.1 a 1).toInt) + (4 : Int))
    (c8 : x5.toInt ≤ (80 : Int))
    (I16_0 : -8 ≤ l2_16.toInt ∧ l2_16.toInt ≤ 24)
    (I16_1 : 8 * (((G_16.1 a 1).toInt) - ((G.1 a 1).toInt)) = 24 - l2_16.toInt)
    (hm16 : 100 + l2_16.toInt < (((N16) + 1 : Nat) : Int))
    (c17 : l2_16.toInt < 0) :
    ((1 : Int) = 0 ∧ G_16.2.1 (F a 0) = (G.2.1 (F a 0))) ∨ ((1 : Int) = 1 ∧ ∀ z : Int, 0 ≤ z → aI (G_16.2.1 (F a 0)) z = if ((G.1 a 1).toInt) ≤ z ∧ z < ((G.1 a 1).toInt) + 4 then bqI p0 (24 - 8 * (z - ((G.1 a 1).toInt))) else aI (G.2.1 (F a 0)) z) := by
  refine Or.inr ⟨rfl, fun z hz => ?_⟩
  rw [pf z hz, show (G_16.1 a 1).toInt = (G.1 a 1).toInt + 4 from by omega]
theorem v_X8_addFour_66_2 {K : Nat → Nat} {F : Nat → Nat → Nat} (a : Nat) (G : XG) (G_16 : XG) (p0 : Int32) (l2_16 : Int32) (x5 : Int32) (N16 : Nat)
    (ha : K a = 10)
    (n0 : 0 ≤ ((G.1 a 1).toInt) ∧ ((G.1 a 1).toInt) ≤ 80)
    (t5 : x5.toInt = ((G.1 a 1).toInt) + (4 : Int) ∨ ((G.1 a 1).toInt) + (4 : Int) < -2147483648 ∨ 2147483648 ≤ ((G.1 a 1).toInt) + (4 : Int))
    (c8 : x5.toInt ≤ (80 : Int))
    (I16_0 : -8 ≤ l2_16.toInt ∧ l2_16.toInt ≤ 24)
    (I16_1 : 8 * (((G_16.1 a 1).toInt) - ((G.1 a 1).toInt)) = 24 - l2_16.toInt)
    (hm16 : 100 + l2_16.toInt < (((N16) + 1 : Nat) : Int))
    (c17 : ¬ (l2_16.toInt < 0))
    (c24 : ((G_16.1 a 1).toInt) < 0) :
    ∀ z : Int, 0 ≤ z → aI (G_16.2.1 (F a 0)) z = if (G.1 a 1).toInt ≤ z ∧ z < ((G_16.1 a 1).toInt) then bqI p0 (24 - 8 * (z - (G.1 a 1).toInt)) else aI (G.2.1 (F a 0)) z := by
  exfalso; omega
theorem v_X8_addFour_66_3 {K : Nat → Nat} {F : Nat → Nat → Nat} (a : Nat) (G : XG) (G_16 : XG) (p0 : Int32) (l2_16 : Int32) (x5 : Int32) (N16 : Nat)
    (ha : K a = 10)
    (n0 : 0 ≤ ((G.1 a 1).toInt) ∧ ((G.1 a 1).toInt) ≤ 80)
    (t5 : x5.toInt = ((G.1 a 1).toInt) + (4 : Int) ∨ ((G.1 a 1).toInt) + (4 : Int) < -2147483648 ∨ 2147483648 ≤ ((G.1 a 1).toInt) + (4 : Int))
    (c8 : x5.toInt ≤ (80 : Int))
    (I16_0 : -8 ≤ l2_16.toInt ∧ l2_16.toInt ≤ 24)
    (I16_1 : 8 * (((G_16.1 a 1).toInt) - ((G.1 a 1).toInt)) = 24 - l2_16.toInt)
    (hm16 : 100 + l2_16.toInt < (((N16) + 1 : Nat) : Int))
    (c17 : ¬ (l2_16.toInt < 0))
    (c24 : ¬ (((G_16.1 a 1).toInt) < 0))
    (c33 : (80 : Int) ≤ ((G_16.1 a 1).toInt)) :
    ∀ z : Int, 0 ≤ z → aI (G_16.2.1 (F a 0)) z = if (G.1 a 1).toInt ≤ z ∧ z < ((G_16.1 a 1).toInt) then bqI p0 (24 - 8 * (z - (G.1 a 1).toInt)) else aI (G.2.1 (F a 0)) z := by
  exfalso; omega
theorem v_X8_addFour_66_4 {K : Nat → Nat} {F : Nat → Nat → Nat} (a : Nat) (G : XG) (G_16 : XG) (G52 : XG) (x51 : Int32) (p0 : Int32) (x46 : Int32) (l2_16 : Int32) (x50 : Int32) (x5 : Int32) (N16 : Nat)
    (ha : K a = 10)
    (hG52 : G52 = cput G_16 (F a 0) (G_16.1 a 1).toNatClampNeg x51)
    (pf : ∀ z : Int, 0 ≤ z → aI (G_16.2.1 (F a 0)) z = if (G.1 a 1).toInt ≤ z ∧ z < ((G_16.1 a 1).toInt) then bqI p0 (24 - 8 * (z - (G.1 a 1).toInt)) else aI (G.2.1 (F a 0)) z)
    (eb46 : x46 = (Int32.toUInt32 p0 >>> (Int32.toUInt32 l2_16 &&& Int32.toUInt32 31)).toInt32)
    (he50 : x50 = x46 &&& 255)
    (ec51 : x51 = (Int32.toUInt32 x50 % 65536).toInt32)
    (n0 : 0 ≤ ((G.1 a 1).toInt) ∧ ((G.1 a 1).toInt) ≤ 80)
    (t5 : x5.toInt = ((G.1 a 1).toInt) + (4 : Int) ∨ ((G.1 a 1).toInt) + (4 : Int) < -2147483648 ∨ 2147483648 ≤ ((G.1 a 1).toInt) + (4 : Int))
    (c8 : x5.toInt ≤ (80 : Int))
    (I16_0 : -8 ≤ l2_16.toInt ∧ l2_16.toInt ≤ 24)
    (I16_1 : 8 * (((G_16.1 a 1).toInt) - ((G.1 a 1).toInt)) = 24 - l2_16.toInt)
    (hm16 : 100 + l2_16.toInt < (((N16) + 1 : Nat) : Int))
    (c17 : ¬ (l2_16.toInt < 0))
    (c24 : ¬ (((G_16.1 a 1).toInt) < 0))
    (c33 : ¬ ((80 : Int) ≤ ((G_16.1 a 1).toInt))) :
    ∀ z : Int, 0 ≤ z → aI (G52.2.1 (F a 0)) z = if (G.1 a 1).toInt ≤ z ∧ z < (((G_16.1 a 1).toInt) + (1 : Int)) then bqI p0 (24 - 8 * (z - (G.1 a 1).toInt)) else aI (G.2.1 (F a 0)) z := by
  intro z hz
  have u := aI_pu hG52 rfl (rfl : (G_16.1 a 1).toInt = (G_16.1 a 1).toInt) (bq_c eb46 he50 ec51 rfl) (by omega) z hz
  rw [u, pf z hz]
  by_cases e : z = (G_16.1 a 1).toInt
  · rw [if_pos e, if_pos (by omega)]
    congr 1
    omega
  · rw [if_neg e]
    by_cases q : (G.1 a 1).toInt ≤ z ∧ z < (G_16.1 a 1).toInt
    · rw [if_pos q, if_pos (by omega)]
    · rw [if_neg q, if_neg (by omega)]
theorem v_X8_addFour_15_5 {K : Nat → Nat} {F : Nat → Nat → Nat} (a : Nat) (G : XG) (x5 : Int32) (p0 : Int32)
    (ha : K a = 10)
    (n0 : 0 ≤ ((G.1 a 1).toInt) ∧ ((G.1 a 1).toInt) ≤ 80)
    (t5 : x5.toInt = ((G.1 a 1).toInt) + (4 : Int) ∨ ((G.1 a 1).toInt) + (4 : Int) < -2147483648 ∨ 2147483648 ≤ ((G.1 a 1).toInt) + (4 : Int))
    (c8 : x5.toInt ≤ (80 : Int)) :
    ∀ z : Int, 0 ≤ z → aI (G.2.1 (F a 0)) z = if (G.1 a 1).toInt ≤ z ∧ z < ((G.1 a 1).toInt) then bqI p0 (24 - 8 * (z - (G.1 a 1).toInt)) else aI (G.2.1 (F a 0)) z := by
  intro z hz; rw [if_neg (by omega)]
theorem v_X8_addFour_12_6 {F : Nat → Nat → Nat} (a : Nat) (G : XG) (p0 : Int32) :
    ((0 : Int) = 0 ∧ G.2.1 (F a 0) = (G.2.1 (F a 0))) ∨ ((0 : Int) = 1 ∧ ∀ z : Int, 0 ≤ z → aI (G.2.1 (F a 0)) z = if ((G.1 a 1).toInt) ≤ z ∧ z < ((G.1 a 1).toInt) + 4 then bqI p0 (24 - 8 * (z - ((G.1 a 1).toInt))) else aI (G.2.1 (F a 0)) z) := by
  exact Or.inl ⟨rfl, rfl⟩
theorem v_X5_advanceWord_49_1 {K : Nat → Nat} {F : Nat → Nat → Nat} (a : Nat) (G : XG) (G_5 : XG) (N5 : Nat)
    (ha : K a = 7)
    (pr : ∀ j : Int, (G.1 a 3).toInt ≤ j → j < ((G_5.1 a 3).toInt) → cLt ((tC (G.2.1 (F (F a 0) 0)) ((G.1 (F a 0) 1).toInt)) j))
    (n0 : 0 ≤ ((G.1 (F a 0) 1).toInt) ∧ ((G.1 (F a 0) 1).toInt) ≤ 80)
    (s0 : 0 ≤ ((G.1 a 3).toInt) ∧ ((G.1 a 3).toInt) ≤ ((G.1 (F a 0) 1).toInt))
    (I5_0 : ((G.1 a 3).toInt) ≤ ((G_5.1 a 3).toInt) ∧ ((G_5.1 a 3).toInt) ≤ ((G.1 (F a 0) 1).toInt))
    (hm5 : 200 - ((G_5.1 a 3).toInt) < (((N5) + 1 : Nat) : Int))
    (c16 : ((G.1 (F a 0) 1).toInt) ≤ ((G_5.1 a 3).toInt)) :
    ((G_5.1 a 3).toInt) = rn cLt (tC (G.2.1 (F (F a 0) 0)) ((G.1 (F a 0) 1).toInt)) ((G.1 a 3).toInt) := by
  symm
  refine rn_eq ⟨by omega, pr, cLt_n ?_⟩
  rcases tC_f (G.2.1 (F (F a 0) 0)) ((G.1 (F a 0) 1).toInt) ((G_5.1 a 3).toInt) with h | h
  · omega
  · exact Or.inl h.2
theorem v_X5_advanceWord_49_2 {K : Nat → Nat} {F : Nat → Nat → Nat} (a : Nat) (G : XG) (G_5 : XG) (N5 : Nat) (x27 : Int32) (x30 : Int32)
    (ha : K a = 7)
    (pr : ∀ j : Int, (G.1 a 3).toInt ≤ j → j < ((G_5.1 a 3).toInt) → cLt ((tC (G.2.1 (F (F a 0) 0)) ((G.1 (F a 0) 1).toInt)) j))
    (n0 : 0 ≤ ((G.1 (F a 0) 1).toInt) ∧ ((G.1 (F a 0) 1).toInt) ≤ 80)
    (s0 : 0 ≤ ((G.1 a 3).toInt) ∧ ((G.1 a 3).toInt) ≤ ((G.1 (F a 0) 1).toInt))
    (I5_0 : ((G.1 a 3).toInt) ≤ ((G_5.1 a 3).toInt) ∧ ((G_5.1 a 3).toInt) ≤ ((G.1 (F a 0) 1).toInt))
    (hm5 : 200 - ((G_5.1 a 3).toInt) < (((N5) + 1 : Nat) : Int))
    (c16 : ¬ (((G.1 (F a 0) 1).toInt) ≤ ((G_5.1 a 3).toInt)))
    (t27 : x27.toInt = (tC (G.2.1 (F (F a 0) 0)) ((G.1 (F a 0) 1).toInt) ((G_5.1 a 3).toInt)))
    (t30 : (x30.toInt = 1 ∧ 97 ≤ x27.toInt ∧ x27.toInt ≤ 122) ∨ (x30.toInt = 0 ∧ (x27.toInt < 97 ∨ 122 < x27.toInt)))
    (c33 : x30.toInt = 0) :
    ((G_5.1 a 3).toInt) = rn cLt (tC (G.2.1 (F (F a 0) 0)) ((G.1 (F a 0) 1).toInt)) ((G.1 a 3).toInt) := by
  symm
  refine rn_eq ⟨by omega, pr, cLt_n ?_⟩
  rcases tC_f (G.2.1 (F (F a 0) 0)) ((G.1 (F a 0) 1).toInt) ((G_5.1 a 3).toInt) with h | h
  · omega
  · exact Or.inl h.2
theorem v_X5_advanceWord_46_3 {K : Nat → Nat} {F : Nat → Nat → Nat} (a : Nat) (G : XG) (G_5 : XG) (N5 : Nat) (x27 : Int32) (x30 : Int32)
    (ha : K a = 7)
    (pr : ∀ j : Int, (G.1 a 3).toInt ≤ j → j < ((G_5.1 a 3).toInt) → cLt ((tC (G.2.1 (F (F a 0) 0)) ((G.1 (F a 0) 1).toInt)) j))
    (n0 : 0 ≤ ((G.1 (F a 0) 1).toInt) ∧ ((G.1 (F a 0) 1).toInt) ≤ 80)
    (s0 : 0 ≤ ((G.1 a 3).toInt) ∧ ((G.1 a 3).toInt) ≤ ((G.1 (F a 0) 1).toInt))
    (I5_0 : ((G.1 a 3).toInt) ≤ ((G_5.1 a 3).toInt) ∧ ((G_5.1 a 3).toInt) ≤ ((G.1 (F a 0) 1).toInt))
    (hm5 : 200 - ((G_5.1 a 3).toInt) < (((N5) + 1 : Nat) : Int))
    (c16 : ¬ (((G.1 (F a 0) 1).toInt) ≤ ((G_5.1 a 3).toInt)))
    (t27 : x27.toInt = (tC (G.2.1 (F (F a 0) 0)) ((G.1 (F a 0) 1).toInt) ((G_5.1 a 3).toInt)))
    (t30 : (x30.toInt = 1 ∧ 97 ≤ x27.toInt ∧ x27.toInt ≤ 122) ∨ (x30.toInt = 0 ∧ (x27.toInt < 97 ∨ 122 < x27.toInt)))
    (c33 : ¬ (x30.toInt = 0)) :
    ∀ j : Int, (G.1 a 3).toInt ≤ j → j < (((G_5.1 a 3).toInt) + (1 : Int)) → cLt ((tC (G.2.1 (F (F a 0) 0)) ((G.1 (F a 0) 1).toInt)) j) := by
  intro j h1 h2
  by_cases e : j = (G_5.1 a 3).toInt
  · rw [e]; unfold cLt; omega
  · exact pr j h1 (by omega)
theorem v_X5_advanceWord_2_4 {K : Nat → Nat} {F : Nat → Nat → Nat} (a : Nat) (G : XG)
    (ha : K a = 7)
    (n0 : 0 ≤ ((G.1 (F a 0) 1).toInt) ∧ ((G.1 (F a 0) 1).toInt) ≤ 80)
    (s0 : 0 ≤ ((G.1 a 3).toInt) ∧ ((G.1 a 3).toInt) ≤ ((G.1 (F a 0) 1).toInt)) :
    ∀ j : Int, (G.1 a 3).toInt ≤ j → j < ((G.1 a 3).toInt) → cLt ((tC (G.2.1 (F (F a 0) 0)) ((G.1 (F a 0) 1).toInt)) j) := by
  intro j h1 h2; exact absurd h1 (by omega)
theorem v_X5_advanceNumber_152_1 {K : Nat → Nat} {F : Nat → Nat → Nat} (a : Nat) (G : XG) (G_47 : XG) (G149 : XG) (l2_47 : Int32) (x8 : Int32) (l3_47 : Int32) (N47 : Nat)
    (ha : K a = 7)
    (pr : ∀ j : Int, nS (tC (G.2.1 (F (F a 0) 0)) ((G.1 (F a 0) 1).toInt)) ((G.1 a 2).toInt) ≤ j → j < ((G_47.1 a 3).toInt) → cDg ((tC (G.2.1 (F (F a 0) 0)) ((G.1 (F a 0) 1).toInt)) j))
    (n0 : 0 ≤ ((G.1 (F a 0) 1).toInt) ∧ ((G.1 (F a 0) 1).toInt) ≤ 80)
    (s0 : 0 ≤ ((G.1 a 2).toInt) ∧ ((G.1 a 2).toInt) < ((G.1 (F a 0) 1).toInt))
    (z0 : ((tC (G.2.1 (F (F a 0) 0)) ((G.1 (F a 0) 1).toInt) ((G.1 a 2).toInt)) = 45 ∧ (nS (tC (G.2.1 (F (F a 0) 0)) ((G.1 (F a 0) 1).toInt)) ((G.1 a 2).toInt)) = ((G.1 a 2).toInt) + 1) ∨ ((tC (G.2.1 (F (F a 0) 0)) ((G.1 (F a 0) 1).toInt) ((G.1 a 2).toInt)) ≠ 45 ∧ (nS (tC (G.2.1 (F (F a 0) 0)) ((G.1 (F a 0) 1).toInt)) ((G.1 a 2).toInt)) = ((G.1 a 2).toInt)))
    (z0a : (nv (tC (G.2.1 (F (F a 0) 0)) ((G.1 (F a 0) 1).toInt)) (nS (tC (G.2.1 (F (F a 0) 0)) ((G.1 (F a 0) 1).toInt)) ((G.1 a 2).toInt)) 0) = 0)
    (t8 : x8.toInt = (tC (G.2.1 (F (F a 0) 0)) ((G.1 (F a 0) 1).toInt) ((G.1 a 2).toInt)))
    (c13 : x8.toInt ≠ (45 : Int))
    (I47_0 : ((G_47.1 a 3).toInt) = (nS (tC (G.2.1 (F (F a 0) 0)) ((G.1 (F a 0) 1).toInt)) ((G.1 a 2).toInt)) + l3_47.toInt)
    (I47_1 : 0 ≤ l3_47.toInt ∧ ((G_47.1 a 3).toInt) ≤ ((G.1 (F a 0) 1).toInt))
    (I47_2 : (l3_47.toInt = 0 ∧ l2_47.toInt = 0) ∨ (l3_47.toInt = 1 ∧ 0 ≤ l2_47.toInt ∧ l2_47.toInt ≤ 9) ∨ (l3_47.toInt = 2 ∧ 0 ≤ l2_47.toInt ∧ l2_47.toInt ≤ 99) ∨ (l3_47.toInt = 3 ∧ 0 ≤ l2_47.toInt ∧ l2_47.toInt ≤ 999) ∨ (4 ≤ l3_47.toInt ∧ 0 ≤ l2_47.toInt ∧ l2_47.toInt ≤ 9999))
    (I47_3 : l3_47.toInt ≤ 4 → l2_47.toInt = (nv (tC (G.2.1 (F (F a 0) 0)) ((G.1 (F a 0) 1).toInt)) (nS (tC (G.2.1 (F (F a 0) 0)) ((G.1 (F a 0) 1).toInt)) ((G.1 a 2).toInt)) (l3_47.toInt)))
    (hm47 : 200 - ((G_47.1 a 3).toInt) < (((N47) + 1 : Nat) : Int))
    (c58 : ((G.1 (F a 0) 1).toInt) ≤ ((G_47.1 a 3).toInt))
    (c122 : l3_47.toInt < (1 : Int))
    (d_G149_a_1 : G149.1 a 1 = 3)
    (d_G149_a_3 : G149.1 a 3 = G_47.1 a 3)
    (d_G149_a_4 : G149.1 a 4 = l2_47) :
    ((G149.1 a 3).toInt) = nE (tC (G.2.1 (F (F a 0) 0)) ((G.1 (F a 0) 1).toInt)) ((G.1 a 2).toInt) ∧ ((nOk (tC (G.2.1 (F (F a 0) 0)) ((G.1 (F a 0) 1).toInt)) ((G.1 a 2).toInt) ∧ ((G149.1 a 1).toInt) = 2 ∧ ((G149.1 a 4).toInt) = nVl (tC (G.2.1 (F (F a 0) 0)) ((G.1 (F a 0) 1).toInt)) ((G.1 a 2).toInt)) ∨ (¬ nOk (tC (G.2.1 (F (F a 0) 0)) ((G.1 (F a 0) 1).toInt)) ((G.1 a 2).toInt) ∧ ((G149.1 a 1).toInt) = 3)) := by
  have hE : nE (tC (G.2.1 (F (F a 0) 0)) ((G.1 (F a 0) 1).toInt)) ((G.1 a 2).toInt) = (G_47.1 a 3).toInt := by
    unfold nE
    refine rn_eq ⟨by omega, pr, cDg_n ?_⟩
    rcases tC_f (G.2.1 (F (F a 0) 0)) ((G.1 (F a 0) 1).toInt) ((G_47.1 a 3).toInt) with h | h
    · omega
    · exact Or.inl h.2
  have nf := nS_f (tC (G.2.1 (F (F a 0) 0)) ((G.1 (F a 0) 1).toInt)) ((G.1 a 2).toInt)
  have hk : l3_47.toInt = nE (tC (G.2.1 (F (F a 0) 0)) ((G.1 (F a 0) 1).toInt)) ((G.1 a 2).toInt) - nS (tC (G.2.1 (F (F a 0) 0)) ((G.1 (F a 0) 1).toInt)) ((G.1 a 2).toInt) := by omega
  have e3 : (G149.1 a 3).toInt = (G_47.1 a 3).toInt := by rw [d_G149_a_3]
  refine ⟨by omega, ?_⟩
  by_cases q : 1 ≤ l3_47.toInt ∧ l3_47.toInt ≤ 4
  · refine Or.inl ⟨⟨by omega, by omega⟩, ?_, ?_⟩
    · rw [d_G149_a_1]
      first | rfl | decide | (exfalso; omega)
    · rw [hk] at I47_3
      rw [d_G149_a_4]
      omega
  · refine Or.inr ⟨fun h => q (by have h1 := h.1; have h2 := h.2; omega), ?_⟩
    rw [d_G149_a_1]
    first | rfl | decide | (exfalso; omega)
theorem v_X5_advanceNumber_152_2 {K : Nat → Nat} {F : Nat → Nat → Nat} (a : Nat) (G : XG) (G_47 : XG) (G149 : XG) (l2_47 : Int32) (x8 : Int32) (l3_47 : Int32) (N47 : Nat)
    (ha : K a = 7)
    (pr : ∀ j : Int, nS (tC (G.2.1 (F (F a 0) 0)) ((G.1 (F a 0) 1).toInt)) ((G.1 a 2).toInt) ≤ j → j < ((G_47.1 a 3).toInt) → cDg ((tC (G.2.1 (F (F a 0) 0)) ((G.1 (F a 0) 1).toInt)) j))
    (n0 : 0 ≤ ((G.1 (F a 0) 1).toInt) ∧ ((G.1 (F a 0) 1).toInt) ≤ 80)
    (s0 : 0 ≤ ((G.1 a 2).toInt) ∧ ((G.1 a 2).toInt) < ((G.1 (F a 0) 1).toInt))
    (z0 : ((tC (G.2.1 (F (F a 0) 0)) ((G.1 (F a 0) 1).toInt) ((G.1 a 2).toInt)) = 45 ∧ (nS (tC (G.2.1 (F (F a 0) 0)) ((G.1 (F a 0) 1).toInt)) ((G.1 a 2).toInt)) = ((G.1 a 2).toInt) + 1) ∨ ((tC (G.2.1 (F (F a 0) 0)) ((G.1 (F a 0) 1).toInt) ((G.1 a 2).toInt)) ≠ 45 ∧ (nS (tC (G.2.1 (F (F a 0) 0)) ((G.1 (F a 0) 1).toInt)) ((G.1 a 2).toInt)) = ((G.1 a 2).toInt)))
    (z0a : (nv (tC (G.2.1 (F (F a 0) 0)) ((G.1 (F a 0) 1).toInt)) (nS (tC (G.2.1 (F (F a 0) 0)) ((G.1 (F a 0) 1).toInt)) ((G.1 a 2).toInt)) 0) = 0)
    (t8 : x8.toInt = (tC (G.2.1 (F (F a 0) 0)) ((G.1 (F a 0) 1).toInt) ((G.1 a 2).toInt)))
    (c13 : x8.toInt ≠ (45 : Int))
    (I47_0 : ((G_47.1 a 3).toInt) = (nS (tC (G.2.1 (F (F a 0) 0)) ((G.1 (F a 0) 1).toInt)) ((G.1 a 2).toInt)) + l3_47.toInt)
    (I47_1 : 0 ≤ l3_47.toInt ∧ ((G_47.1 a 3).toInt) ≤ ((G.1 (F a 0) 1).toInt))
    (I47_2 : (l3_47.toInt = 0 ∧ l2_47.toInt = 0) ∨ (l3_47.toInt = 1 ∧ 0 ≤ l2_47.toInt ∧ l2_47.toInt ≤ 9) ∨ (l3_47.toInt = 2 ∧ 0 ≤ l2_47.toInt ∧ l2_47.toInt ≤ 99) ∨ (l3_47.toInt = 3 ∧ 0 ≤ l2_47.toInt ∧ l2_47.toInt ≤ 999) ∨ (4 ≤ l3_47.toInt ∧ 0 ≤ l2_47.toInt ∧ l2_47.toInt ≤ 9999))
    (I47_3 : l3_47.toInt ≤ 4 → l2_47.toInt = (nv (tC (G.2.1 (F (F a 0) 0)) ((G.1 (F a 0) 1).toInt)) (nS (tC (G.2.1 (F (F a 0) 0)) ((G.1 (F a 0) 1).toInt)) ((G.1 a 2).toInt)) (l3_47.toInt)))
    (hm47 : 200 - ((G_47.1 a 3).toInt) < (((N47) + 1 : Nat) : Int))
    (c58 : ((G.1 (F a 0) 1).toInt) ≤ ((G_47.1 a 3).toInt))
    (c122 : ¬ (l3_47.toInt < (1 : Int)))
    (c127 : (4 : Int) < l3_47.toInt)
    (d_G149_a_1 : G149.1 a 1 = 3)
    (d_G149_a_3 : G149.1 a 3 = G_47.1 a 3)
    (d_G149_a_4 : G149.1 a 4 = l2_47) :
    ((G149.1 a 3).toInt) = nE (tC (G.2.1 (F (F a 0) 0)) ((G.1 (F a 0) 1).toInt)) ((G.1 a 2).toInt) ∧ ((nOk (tC (G.2.1 (F (F a 0) 0)) ((G.1 (F a 0) 1).toInt)) ((G.1 a 2).toInt) ∧ ((G149.1 a 1).toInt) = 2 ∧ ((G149.1 a 4).toInt) = nVl (tC (G.2.1 (F (F a 0) 0)) ((G.1 (F a 0) 1).toInt)) ((G.1 a 2).toInt)) ∨ (¬ nOk (tC (G.2.1 (F (F a 0) 0)) ((G.1 (F a 0) 1).toInt)) ((G.1 a 2).toInt) ∧ ((G149.1 a 1).toInt) = 3)) := by
  have hE : nE (tC (G.2.1 (F (F a 0) 0)) ((G.1 (F a 0) 1).toInt)) ((G.1 a 2).toInt) = (G_47.1 a 3).toInt := by
    unfold nE
    refine rn_eq ⟨by omega, pr, cDg_n ?_⟩
    rcases tC_f (G.2.1 (F (F a 0) 0)) ((G.1 (F a 0) 1).toInt) ((G_47.1 a 3).toInt) with h | h
    · omega
    · exact Or.inl h.2
  have nf := nS_f (tC (G.2.1 (F (F a 0) 0)) ((G.1 (F a 0) 1).toInt)) ((G.1 a 2).toInt)
  have hk : l3_47.toInt = nE (tC (G.2.1 (F (F a 0) 0)) ((G.1 (F a 0) 1).toInt)) ((G.1 a 2).toInt) - nS (tC (G.2.1 (F (F a 0) 0)) ((G.1 (F a 0) 1).toInt)) ((G.1 a 2).toInt) := by omega
  have e3 : (G149.1 a 3).toInt = (G_47.1 a 3).toInt := by rw [d_G149_a_3]
  refine ⟨by omega, ?_⟩
  by_cases q : 1 ≤ l3_47.toInt ∧ l3_47.toInt ≤ 4
  · refine Or.inl ⟨⟨by omega, by omega⟩, ?_, ?_⟩
    · rw [d_G149_a_1]
      first | rfl | decide | (exfalso; omega)
    · rw [hk] at I47_3
      rw [d_G149_a_4]
      omega
  · refine Or.inr ⟨fun h => q (by have h1 := h.1; have h2 := h.2; omega), ?_⟩
    rw [d_G149_a_1]
    first | rfl | decide | (exfalso; omega)
theorem v_X5_advanceNumber_152_3 {K : Nat → Nat} {F : Nat → Nat → Nat} (a : Nat) (G : XG) (G_47 : XG) (G149 : XG) (l2_47 : Int32) (x8 : Int32) (l3_47 : Int32) (N47 : Nat)
    (ha : K a = 7)
    (pr : ∀ j : Int, nS (tC (G.2.1 (F (F a 0) 0)) ((G.1 (F a 0) 1).toInt)) ((G.1 a 2).toInt) ≤ j → j < ((G_47.1 a 3).toInt) → cDg ((tC (G.2.1 (F (F a 0) 0)) ((G.1 (F a 0) 1).toInt)) j))
    (n0 : 0 ≤ ((G.1 (F a 0) 1).toInt) ∧ ((G.1 (F a 0) 1).toInt) ≤ 80)
    (s0 : 0 ≤ ((G.1 a 2).toInt) ∧ ((G.1 a 2).toInt) < ((G.1 (F a 0) 1).toInt))
    (z0 : ((tC (G.2.1 (F (F a 0) 0)) ((G.1 (F a 0) 1).toInt) ((G.1 a 2).toInt)) = 45 ∧ (nS (tC (G.2.1 (F (F a 0) 0)) ((G.1 (F a 0) 1).toInt)) ((G.1 a 2).toInt)) = ((G.1 a 2).toInt) + 1) ∨ ((tC (G.2.1 (F (F a 0) 0)) ((G.1 (F a 0) 1).toInt) ((G.1 a 2).toInt)) ≠ 45 ∧ (nS (tC (G.2.1 (F (F a 0) 0)) ((G.1 (F a 0) 1).toInt)) ((G.1 a 2).toInt)) = ((G.1 a 2).toInt)))
    (z0a : (nv (tC (G.2.1 (F (F a 0) 0)) ((G.1 (F a 0) 1).toInt)) (nS (tC (G.2.1 (F (F a 0) 0)) ((G.1 (F a 0) 1).toInt)) ((G.1 a 2).toInt)) 0) = 0)
    (t8 : x8.toInt = (tC (G.2.1 (F (F a 0) 0)) ((G.1 (F a 0) 1).toInt) ((G.1 a 2).toInt)))
    (c13 : x8.toInt ≠ (45 : Int))
    (I47_0 : ((G_47.1 a 3).toInt) = (nS (tC (G.2.1 (F (F a 0) 0)) ((G.1 (F a 0) 1).toInt)) ((G.1 a 2).toInt)) + l3_47.toInt)
    (I47_1 : 0 ≤ l3_47.toInt ∧ ((G_47.1 a 3).toInt) ≤ ((G.1 (F a 0) 1).toInt))
    (I47_2 : (l3_47.toInt = 0 ∧ l2_47.toInt = 0) ∨ (l3_47.toInt = 1 ∧ 0 ≤ l2_47.toInt ∧ l2_47.toInt ≤ 9) ∨ (l3_47.toInt = 2 ∧ 0 ≤ l2_47.toInt ∧ l2_47.toInt ≤ 99) ∨ (l3_47.toInt = 3 ∧ 0 ≤ l2_47.toInt ∧ l2_47.toInt ≤ 999) ∨ (4 ≤ l3_47.toInt ∧ 0 ≤ l2_47.toInt ∧ l2_47.toInt ≤ 9999))
    (I47_3 : l3_47.toInt ≤ 4 → l2_47.toInt = (nv (tC (G.2.1 (F (F a 0) 0)) ((G.1 (F a 0) 1).toInt)) (nS (tC (G.2.1 (F (F a 0) 0)) ((G.1 (F a 0) 1).toInt)) ((G.1 a 2).toInt)) (l3_47.toInt)))
    (hm47 : 200 - ((G_47.1 a 3).toInt) < (((N47) + 1 : Nat) : Int))
    (c58 : ((G.1 (F a 0) 1).toInt) ≤ ((G_47.1 a 3).toInt))
    (c122 : ¬ (l3_47.toInt < (1 : Int)))
    (c127 : ¬ ((4 : Int) < l3_47.toInt))
    (d_G149_a_1 : G149.1 a 1 = 2)
    (d_G149_a_3 : G149.1 a 3 = G_47.1 a 3)
    (d_G149_a_4 : G149.1 a 4 = l2_47) :
    ((G149.1 a 3).toInt) = nE (tC (G.2.1 (F (F a 0) 0)) ((G.1 (F a 0) 1).toInt)) ((G.1 a 2).toInt) ∧ ((nOk (tC (G.2.1 (F (F a 0) 0)) ((G.1 (F a 0) 1).toInt)) ((G.1 a 2).toInt) ∧ ((G149.1 a 1).toInt) = 2 ∧ ((G149.1 a 4).toInt) = nVl (tC (G.2.1 (F (F a 0) 0)) ((G.1 (F a 0) 1).toInt)) ((G.1 a 2).toInt)) ∨ (¬ nOk (tC (G.2.1 (F (F a 0) 0)) ((G.1 (F a 0) 1).toInt)) ((G.1 a 2).toInt) ∧ ((G149.1 a 1).toInt) = 3)) := by
  have hE : nE (tC (G.2.1 (F (F a 0) 0)) ((G.1 (F a 0) 1).toInt)) ((G.1 a 2).toInt) = (G_47.1 a 3).toInt := by
    unfold nE
    refine rn_eq ⟨by omega, pr, cDg_n ?_⟩
    rcases tC_f (G.2.1 (F (F a 0) 0)) ((G.1 (F a 0) 1).toInt) ((G_47.1 a 3).toInt) with h | h
    · omega
    · exact Or.inl h.2
  have nf := nS_f (tC (G.2.1 (F (F a 0) 0)) ((G.1 (F a 0) 1).toInt)) ((G.1 a 2).toInt)
  have hk : l3_47.toInt = nE (tC (G.2.1 (F (F a 0) 0)) ((G.1 (F a 0) 1).toInt)) ((G.1 a 2).toInt) - nS (tC (G.2.1 (F (F a 0) 0)) ((G.1 (F a 0) 1).toInt)) ((G.1 a 2).toInt) := by omega
  have e3 : (G149.1 a 3).toInt = (G_47.1 a 3).toInt := by rw [d_G149_a_3]
  refine ⟨by omega, ?_⟩
  by_cases q : 1 ≤ l3_47.toInt ∧ l3_47.toInt ≤ 4
  · refine Or.inl ⟨⟨by omega, by omega⟩, ?_, ?_⟩
    · rw [d_G149_a_1]
      first | rfl | decide | (exfalso; omega)
    · rw [hk] at I47_3
      rw [d_G149_a_4]
      omega
  · refine Or.inr ⟨fun h => q (by have h1 := h.1; have h2 := h.2; omega), ?_⟩
    rw [d_G149_a_1]
    first | rfl | decide | (exfalso; omega)
theorem v_X5_advanceNumber_152_4 {K : Nat → Nat} {F : Nat → Nat → Nat} (a : Nat) (G : XG) (G_47 : XG) (G149 : XG) (l2_47 : Int32) (x8 : Int32) (l3_47 : Int32) (N47 : Nat) (x69 : Int32) (x72 : Int32)
    (ha : K a = 7)
    (pr : ∀ j : Int, nS (tC (G.2.1 (F (F a 0) 0)) ((G.1 (F a 0) 1).toInt)) ((G.1 a 2).toInt) ≤ j → j < ((G_47.1 a 3).toInt) → cDg ((tC (G.2.1 (F (F a 0) 0)) ((G.1 (F a 0) 1).toInt)) j))
    (n0 : 0 ≤ ((G.1 (F a 0) 1).toInt) ∧ ((G.1 (F a 0) 1).toInt) ≤ 80)
    (s0 : 0 ≤ ((G.1 a 2).toInt) ∧ ((G.1 a 2).toInt) < ((G.1 (F a 0) 1).toInt))
    (z0 : ((tC (G.2.1 (F (F a 0) 0)) ((G.1 (F a 0) 1).toInt) ((G.1 a 2).toInt)) = 45 ∧ (nS (tC (G.2.1 (F (F a 0) 0)) ((G.1 (F a 0) 1).toInt)) ((G.1 a 2).toInt)) = ((G.1 a 2).toInt) + 1) ∨ ((tC (G.2.1 (F (F a 0) 0)) ((G.1 (F a 0) 1).toInt) ((G.1 a 2).toInt)) ≠ 45 ∧ (nS (tC (G.2.1 (F (F a 0) 0)) ((G.1 (F a 0) 1).toInt)) ((G.1 a 2).toInt)) = ((G.1 a 2).toInt)))
    (z0a : (nv (tC (G.2.1 (F (F a 0) 0)) ((G.1 (F a 0) 1).toInt)) (nS (tC (G.2.1 (F (F a 0) 0)) ((G.1 (F a 0) 1).toInt)) ((G.1 a 2).toInt)) 0) = 0)
    (t8 : x8.toInt = (tC (G.2.1 (F (F a 0) 0)) ((G.1 (F a 0) 1).toInt) ((G.1 a 2).toInt)))
    (c13 : x8.toInt ≠ (45 : Int))
    (I47_0 : ((G_47.1 a 3).toInt) = (nS (tC (G.2.1 (F (F a 0) 0)) ((G.1 (F a 0) 1).toInt)) ((G.1 a 2).toInt)) + l3_47.toInt)
    (I47_1 : 0 ≤ l3_47.toInt ∧ ((G_47.1 a 3).toInt) ≤ ((G.1 (F a 0) 1).toInt))
    (I47_2 : (l3_47.toInt = 0 ∧ l2_47.toInt = 0) ∨ (l3_47.toInt = 1 ∧ 0 ≤ l2_47.toInt ∧ l2_47.toInt ≤ 9) ∨ (l3_47.toInt = 2 ∧ 0 ≤ l2_47.toInt ∧ l2_47.toInt ≤ 99) ∨ (l3_47.toInt = 3 ∧ 0 ≤ l2_47.toInt ∧ l2_47.toInt ≤ 999) ∨ (4 ≤ l3_47.toInt ∧ 0 ≤ l2_47.toInt ∧ l2_47.toInt ≤ 9999))
    (I47_3 : l3_47.toInt ≤ 4 → l2_47.toInt = (nv (tC (G.2.1 (F (F a 0) 0)) ((G.1 (F a 0) 1).toInt)) (nS (tC (G.2.1 (F (F a 0) 0)) ((G.1 (F a 0) 1).toInt)) ((G.1 a 2).toInt)) (l3_47.toInt)))
    (hm47 : 200 - ((G_47.1 a 3).toInt) < (((N47) + 1 : Nat) : Int))
    (c58 : ¬ (((G.1 (F a 0) 1).toInt) ≤ ((G_47.1 a 3).toInt)))
    (t69 : x69.toInt = (tC (G.2.1 (F (F a 0) 0)) ((G.1 (F a 0) 1).toInt) ((G_47.1 a 3).toInt)))
    (t72 : (x72.toInt = 1 ∧ 48 ≤ x69.toInt ∧ x69.toInt ≤ 57) ∨ (x72.toInt = 0 ∧ (x69.toInt < 48 ∨ 57 < x69.toInt)))
    (c75 : x72.toInt = 0)
    (c122 : l3_47.toInt < (1 : Int))
    (d_G149_a_1 : G149.1 a 1 = 3)
    (d_G149_a_3 : G149.1 a 3 = G_47.1 a 3)
    (d_G149_a_4 : G149.1 a 4 = l2_47) :
    ((G149.1 a 3).toInt) = nE (tC (G.2.1 (F (F a 0) 0)) ((G.1 (F a 0) 1).toInt)) ((G.1 a 2).toInt) ∧ ((nOk (tC (G.2.1 (F (F a 0) 0)) ((G.1 (F a 0) 1).toInt)) ((G.1 a 2).toInt) ∧ ((G149.1 a 1).toInt) = 2 ∧ ((G149.1 a 4).toInt) = nVl (tC (G.2.1 (F (F a 0) 0)) ((G.1 (F a 0) 1).toInt)) ((G.1 a 2).toInt)) ∨ (¬ nOk (tC (G.2.1 (F (F a 0) 0)) ((G.1 (F a 0) 1).toInt)) ((G.1 a 2).toInt) ∧ ((G149.1 a 1).toInt) = 3)) := by
  have hE : nE (tC (G.2.1 (F (F a 0) 0)) ((G.1 (F a 0) 1).toInt)) ((G.1 a 2).toInt) = (G_47.1 a 3).toInt := by
    unfold nE
    refine rn_eq ⟨by omega, pr, cDg_n ?_⟩
    rcases tC_f (G.2.1 (F (F a 0) 0)) ((G.1 (F a 0) 1).toInt) ((G_47.1 a 3).toInt) with h | h
    · omega
    · exact Or.inl h.2
  have nf := nS_f (tC (G.2.1 (F (F a 0) 0)) ((G.1 (F a 0) 1).toInt)) ((G.1 a 2).toInt)
  have hk : l3_47.toInt = nE (tC (G.2.1 (F (F a 0) 0)) ((G.1 (F a 0) 1).toInt)) ((G.1 a 2).toInt) - nS (tC (G.2.1 (F (F a 0) 0)) ((G.1 (F a 0) 1).toInt)) ((G.1 a 2).toInt) := by omega
  have e3 : (G149.1 a 3).toInt = (G_47.1 a 3).toInt := by rw [d_G149_a_3]
  refine ⟨by omega, ?_⟩
  by_cases q : 1 ≤ l3_47.toInt ∧ l3_47.toInt ≤ 4
  · refine Or.inl ⟨⟨by omega, by omega⟩, ?_, ?_⟩
    · rw [d_G149_a_1]
      first | rfl | decide | (exfalso; omega)
    · rw [hk] at I47_3
      rw [d_G149_a_4]
      omega
  · refine Or.inr ⟨fun h => q (by have h1 := h.1; have h2 := h.2; omega), ?_⟩
    rw [d_G149_a_1]
    first | rfl | decide | (exfalso; omega)
theorem v_X5_advanceNumber_152_5 {K : Nat → Nat} {F : Nat → Nat → Nat} (a : Nat) (G : XG) (G_47 : XG) (G149 : XG) (l2_47 : Int32) (x8 : Int32) (l3_47 : Int32) (N47 : Nat) (x69 : Int32) (x72 : Int32)
    (ha : K a = 7)
    (pr : ∀ j : Int, nS (tC (G.2.1 (F (F a 0) 0)) ((G.1 (F a 0) 1).toInt)) ((G.1 a 2).toInt) ≤ j → j < ((G_47.1 a 3).toInt) → cDg ((tC (G.2.1 (F (F a 0) 0)) ((G.1 (F a 0) 1).toInt)) j))
    (n0 : 0 ≤ ((G.1 (F a 0) 1).toInt) ∧ ((G.1 (F a 0) 1).toInt) ≤ 80)
    (s0 : 0 ≤ ((G.1 a 2).toInt) ∧ ((G.1 a 2).toInt) < ((G.1 (F a 0) 1).toInt))
    (z0 : ((tC (G.2.1 (F (F a 0) 0)) ((G.1 (F a 0) 1).toInt) ((G.1 a 2).toInt)) = 45 ∧ (nS (tC (G.2.1 (F (F a 0) 0)) ((G.1 (F a 0) 1).toInt)) ((G.1 a 2).toInt)) = ((G.1 a 2).toInt) + 1) ∨ ((tC (G.2.1 (F (F a 0) 0)) ((G.1 (F a 0) 1).toInt) ((G.1 a 2).toInt)) ≠ 45 ∧ (nS (tC (G.2.1 (F (F a 0) 0)) ((G.1 (F a 0) 1).toInt)) ((G.1 a 2).toInt)) = ((G.1 a 2).toInt)))
    (z0a : (nv (tC (G.2.1 (F (F a 0) 0)) ((G.1 (F a 0) 1).toInt)) (nS (tC (G.2.1 (F (F a 0) 0)) ((G.1 (F a 0) 1).toInt)) ((G.1 a 2).toInt)) 0) = 0)
    (t8 : x8.toInt = (tC (G.2.1 (F (F a 0) 0)) ((G.1 (F a 0) 1).toInt) ((G.1 a 2).toInt)))
    (c13 : x8.toInt ≠ (45 : Int))
    (I47_0 : ((G_47.1 a 3).toInt) = (nS (tC (G.2.1 (F (F a 0) 0)) ((G.1 (F a 0) 1).toInt)) ((G.1 a 2).toInt)) + l3_47.toInt)
    (I47_1 : 0 ≤ l3_47.toInt ∧ ((G_47.1 a 3).toInt) ≤ ((G.1 (F a 0) 1).toInt))
    (I47_2 : (l3_47.toInt = 0 ∧ l2_47.toInt = 0) ∨ (l3_47.toInt = 1 ∧ 0 ≤ l2_47.toInt ∧ l2_47.toInt ≤ 9) ∨ (l3_47.toInt = 2 ∧ 0 ≤ l2_47.toInt ∧ l2_47.toInt ≤ 99) ∨ (l3_47.toInt = 3 ∧ 0 ≤ l2_47.toInt ∧ l2_47.toInt ≤ 999) ∨ (4 ≤ l3_47.toInt ∧ 0 ≤ l2_47.toInt ∧ l2_47.toInt ≤ 9999))
    (I47_3 : l3_47.toInt ≤ 4 → l2_47.toInt = (nv (tC (G.2.1 (F (F a 0) 0)) ((G.1 (F a 0) 1).toInt)) (nS (tC (G.2.1 (F (F a 0) 0)) ((G.1 (F a 0) 1).toInt)) ((G.1 a 2).toInt)) (l3_47.toInt)))
    (hm47 : 200 - ((G_47.1 a 3).toInt) < (((N47) + 1 : Nat) : Int))
    (c58 : ¬ (((G.1 (F a 0) 1).toInt) ≤ ((G_47.1 a 3).toInt)))
    (t69 : x69.toInt = (tC (G.2.1 (F (F a 0) 0)) ((G.1 (F a 0) 1).toInt) ((G_47.1 a 3).toInt)))
    (t72 : (x72.toInt = 1 ∧ 48 ≤ x69.toInt ∧ x69.toInt ≤ 57) ∨ (x72.toInt = 0 ∧ (x69.toInt < 48 ∨ 57 < x69.toInt)))
    (c75 : x72.toInt = 0)
    (c122 : ¬ (l3_47.toInt < (1 : Int)))
    (c127 : (4 : Int) < l3_47.toInt)
    (d_G149_a_1 : G149.1 a 1 = 3)
    (d_G149_a_3 : G149.1 a 3 = G_47.1 a 3)
    (d_G149_a_4 : G149.1 a 4 = l2_47) :
    ((G149.1 a 3).toInt) = nE (tC (G.2.1 (F (F a 0) 0)) ((G.1 (F a 0) 1).toInt)) ((G.1 a 2).toInt) ∧ ((nOk (tC (G.2.1 (F (F a 0) 0)) ((G.1 (F a 0) 1).toInt)) ((G.1 a 2).toInt) ∧ ((G149.1 a 1).toInt) = 2 ∧ ((G149.1 a 4).toInt) = nVl (tC (G.2.1 (F (F a 0) 0)) ((G.1 (F a 0) 1).toInt)) ((G.1 a 2).toInt)) ∨ (¬ nOk (tC (G.2.1 (F (F a 0) 0)) ((G.1 (F a 0) 1).toInt)) ((G.1 a 2).toInt) ∧ ((G149.1 a 1).toInt) = 3)) := by
  have hE : nE (tC (G.2.1 (F (F a 0) 0)) ((G.1 (F a 0) 1).toInt)) ((G.1 a 2).toInt) = (G_47.1 a 3).toInt := by
    unfold nE
    refine rn_eq ⟨by omega, pr, cDg_n ?_⟩
    rcases tC_f (G.2.1 (F (F a 0) 0)) ((G.1 (F a 0) 1).toInt) ((G_47.1 a 3).toInt) with h | h
    · omega
    · exact Or.inl h.2
  have nf := nS_f (tC (G.2.1 (F (F a 0) 0)) ((G.1 (F a 0) 1).toInt)) ((G.1 a 2).toInt)
  have hk : l3_47.toInt = nE (tC (G.2.1 (F (F a 0) 0)) ((G.1 (F a 0) 1).toInt)) ((G.1 a 2).toInt) - nS (tC (G.2.1 (F (F a 0) 0)) ((G.1 (F a 0) 1).toInt)) ((G.1 a 2).toInt) := by omega
  have e3 : (G149.1 a 3).toInt = (G_47.1 a 3).toInt := by rw [d_G149_a_3]
  refine ⟨by omega, ?_⟩
  by_cases q : 1 ≤ l3_47.toInt ∧ l3_47.toInt ≤ 4
  · refine Or.inl ⟨⟨by omega, by omega⟩, ?_, ?_⟩
    · rw [d_G149_a_1]
      first | rfl | decide | (exfalso; omega)
    · rw [hk] at I47_3
      rw [d_G149_a_4]
      omega
  · refine Or.inr ⟨fun h => q (by have h1 := h.1; have h2 := h.2; omega), ?_⟩
    rw [d_G149_a_1]
    first | rfl | decide | (exfalso; omega)
theorem v_X5_advanceNumber_152_6 {K : Nat → Nat} {F : Nat → Nat → Nat} (a : Nat) (G : XG) (G_47 : XG) (G149 : XG) (l2_47 : Int32) (x8 : Int32) (l3_47 : Int32) (N47 : Nat) (x69 : Int32) (x72 : Int32)
    (ha : K a = 7)
    (pr : ∀ j : Int, nS (tC (G.2.1 (F (F a 0) 0)) ((G.1 (F a 0) 1).toInt)) ((G.1 a 2).toInt) ≤ j → j < ((G_47.1 a 3).toInt) → cDg ((tC (G.2.1 (F (F a 0) 0)) ((G.1 (F a 0) 1).toInt)) j))
    (n0 : 0 ≤ ((G.1 (F a 0) 1).toInt) ∧ ((G.1 (F a 0) 1).toInt) ≤ 80)
    (s0 : 0 ≤ ((G.1 a 2).toInt) ∧ ((G.1 a 2).toInt) < ((G.1 (F a 0) 1).toInt))
    (z0 : ((tC (G.2.1 (F (F a 0) 0)) ((G.1 (F a 0) 1).toInt) ((G.1 a 2).toInt)) = 45 ∧ (nS (tC (G.2.1 (F (F a 0) 0)) ((G.1 (F a 0) 1).toInt)) ((G.1 a 2).toInt)) = ((G.1 a 2).toInt) + 1) ∨ ((tC (G.2.1 (F (F a 0) 0)) ((G.1 (F a 0) 1).toInt) ((G.1 a 2).toInt)) ≠ 45 ∧ (nS (tC (G.2.1 (F (F a 0) 0)) ((G.1 (F a 0) 1).toInt)) ((G.1 a 2).toInt)) = ((G.1 a 2).toInt)))
    (z0a : (nv (tC (G.2.1 (F (F a 0) 0)) ((G.1 (F a 0) 1).toInt)) (nS (tC (G.2.1 (F (F a 0) 0)) ((G.1 (F a 0) 1).toInt)) ((G.1 a 2).toInt)) 0) = 0)
    (t8 : x8.toInt = (tC (G.2.1 (F (F a 0) 0)) ((G.1 (F a 0) 1).toInt) ((G.1 a 2).toInt)))
    (c13 : x8.toInt ≠ (45 : Int))
    (I47_0 : ((G_47.1 a 3).toInt) = (nS (tC (G.2.1 (F (F a 0) 0)) ((G.1 (F a 0) 1).toInt)) ((G.1 a 2).toInt)) + l3_47.toInt)
    (I47_1 : 0 ≤ l3_47.toInt ∧ ((G_47.1 a 3).toInt) ≤ ((G.1 (F a 0) 1).toInt))
    (I47_2 : (l3_47.toInt = 0 ∧ l2_47.toInt = 0) ∨ (l3_47.toInt = 1 ∧ 0 ≤ l2_47.toInt ∧ l2_47.toInt ≤ 9) ∨ (l3_47.toInt = 2 ∧ 0 ≤ l2_47.toInt ∧ l2_47.toInt ≤ 99) ∨ (l3_47.toInt = 3 ∧ 0 ≤ l2_47.toInt ∧ l2_47.toInt ≤ 999) ∨ (4 ≤ l3_47.toInt ∧ 0 ≤ l2_47.toInt ∧ l2_47.toInt ≤ 9999))
    (I47_3 : l3_47.toInt ≤ 4 → l2_47.toInt = (nv (tC (G.2.1 (F (F a 0) 0)) ((G.1 (F a 0) 1).toInt)) (nS (tC (G.2.1 (F (F a 0) 0)) ((G.1 (F a 0) 1).toInt)) ((G.1 a 2).toInt)) (l3_47.toInt)))
    (hm47 : 200 - ((G_47.1 a 3).toInt) < (((N47) + 1 : Nat) : Int))
    (c58 : ¬ (((G.1 (F a 0) 1).toInt) ≤ ((G_47.1 a 3).toInt)))
    (t69 : x69.toInt = (tC (G.2.1 (F (F a 0) 0)) ((G.1 (F a 0) 1).toInt) ((G_47.1 a 3).toInt)))
    (t72 : (x72.toInt = 1 ∧ 48 ≤ x69.toInt ∧ x69.toInt ≤ 57) ∨ (x72.toInt = 0 ∧ (x69.toInt < 48 ∨ 57 < x69.toInt)))
    (c75 : x72.toInt = 0)
    (c122 : ¬ (l3_47.toInt < (1 : Int)))
    (c127 : ¬ ((4 : Int) < l3_47.toInt))
    (d_G149_a_1 : G149.1 a 1 = 2)
    (d_G149_a_3 : G149.1 a 3 = G_47.1 a 3)
    (d_G149_a_4 : G149.1 a 4 = l2_47) :
    ((G149.1 a 3).toInt) = nE (tC (G.2.1 (F (F a 0) 0)) ((G.1 (F a 0) 1).toInt)) ((G.1 a 2).toInt) ∧ ((nOk (tC (G.2.1 (F (F a 0) 0)) ((G.1 (F a 0) 1).toInt)) ((G.1 a 2).toInt) ∧ ((G149.1 a 1).toInt) = 2 ∧ ((G149.1 a 4).toInt) = nVl (tC (G.2.1 (F (F a 0) 0)) ((G.1 (F a 0) 1).toInt)) ((G.1 a 2).toInt)) ∨ (¬ nOk (tC (G.2.1 (F (F a 0) 0)) ((G.1 (F a 0) 1).toInt)) ((G.1 a 2).toInt) ∧ ((G149.1 a 1).toInt) = 3)) := by
  have hE : nE (tC (G.2.1 (F (F a 0) 0)) ((G.1 (F a 0) 1).toInt)) ((G.1 a 2).toInt) = (G_47.1 a 3).toInt := by
    unfold nE
    refine rn_eq ⟨by omega, pr, cDg_n ?_⟩
    rcases tC_f (G.2.1 (F (F a 0) 0)) ((G.1 (F a 0) 1).toInt) ((G_47.1 a 3).toInt) with h | h
    · omega
    · exact Or.inl h.2
  have nf := nS_f (tC (G.2.1 (F (F a 0) 0)) ((G.1 (F a 0) 1).toInt)) ((G.1 a 2).toInt)
  have hk : l3_47.toInt = nE (tC (G.2.1 (F (F a 0) 0)) ((G.1 (F a 0) 1).toInt)) ((G.1 a 2).toInt) - nS (tC (G.2.1 (F (F a 0) 0)) ((G.1 (F a 0) 1).toInt)) ((G.1 a 2).toInt) := by omega
  have e3 : (G149.1 a 3).toInt = (G_47.1 a 3).toInt := by rw [d_G149_a_3]
  refine ⟨by omega, ?_⟩
  by_cases q : 1 ≤ l3_47.toInt ∧ l3_47.toInt ≤ 4
  · refine Or.inl ⟨⟨by omega, by omega⟩, ?_, ?_⟩
    · rw [d_G149_a_1]
      first | rfl | decide | (exfalso; omega)
    · rw [hk] at I47_3
      rw [d_G149_a_4]
      omega
  · refine Or.inr ⟨fun h => q (by have h1 := h.1; have h2 := h.2; omega), ?_⟩
    rw [d_G149_a_1]
    first | rfl | decide | (exfalso; omega)
theorem v_X5_advanceNumber_116_7 {K : Nat → Nat} {F : Nat → Nat → Nat} (a : Nat) (G : XG) (G_47 : XG) (l3_47 : Int32) (x8 : Int32) (l2_47 : Int32) (N47 : Nat) (x69 : Int32) (x72 : Int32)
    (ha : K a = 7)
    (pr : ∀ j : Int, nS (tC (G.2.1 (F (F a 0) 0)) ((G.1 (F a 0) 1).toInt)) ((G.1 a 2).toInt) ≤ j → j < ((G_47.1 a 3).toInt) → cDg ((tC (G.2.1 (F (F a 0) 0)) ((G.1 (F a 0) 1).toInt)) j))
    (n0 : 0 ≤ ((G.1 (F a 0) 1).toInt) ∧ ((G.1 (F a 0) 1).toInt) ≤ 80)
    (s0 : 0 ≤ ((G.1 a 2).toInt) ∧ ((G.1 a 2).toInt) < ((G.1 (F a 0) 1).toInt))
    (z0 : ((tC (G.2.1 (F (F a 0) 0)) ((G.1 (F a 0) 1).toInt) ((G.1 a 2).toInt)) = 45 ∧ (nS (tC (G.2.1 (F (F a 0) 0)) ((G.1 (F a 0) 1).toInt)) ((G.1 a 2).toInt)) = ((G.1 a 2).toInt) + 1) ∨ ((tC (G.2.1 (F (F a 0) 0)) ((G.1 (F a 0) 1).toInt) ((G.1 a 2).toInt)) ≠ 45 ∧ (nS (tC (G.2.1 (F (F a 0) 0)) ((G.1 (F a 0) 1).toInt)) ((G.1 a 2).toInt)) = ((G.1 a 2).toInt)))
    (z0a : (nv (tC (G.2.1 (F (F a 0) 0)) ((G.1 (F a 0) 1).toInt)) (nS (tC (G.2.1 (F (F a 0) 0)) ((G.1 (F a 0) 1).toInt)) ((G.1 a 2).toInt)) 0) = 0)
    (t8 : x8.toInt = (tC (G.2.1 (F (F a 0) 0)) ((G.1 (F a 0) 1).toInt) ((G.1 a 2).toInt)))
    (c13 : x8.toInt ≠ (45 : Int))
    (I47_0 : ((G_47.1 a 3).toInt) = (nS (tC (G.2.1 (F (F a 0) 0)) ((G.1 (F a 0) 1).toInt)) ((G.1 a 2).toInt)) + l3_47.toInt)
    (I47_1 : 0 ≤ l3_47.toInt ∧ ((G_47.1 a 3).toInt) ≤ ((G.1 (F a 0) 1).toInt))
    (I47_2 : (l3_47.toInt = 0 ∧ l2_47.toInt = 0) ∨ (l3_47.toInt = 1 ∧ 0 ≤ l2_47.toInt ∧ l2_47.toInt ≤ 9) ∨ (l3_47.toInt = 2 ∧ 0 ≤ l2_47.toInt ∧ l2_47.toInt ≤ 99) ∨ (l3_47.toInt = 3 ∧ 0 ≤ l2_47.toInt ∧ l2_47.toInt ≤ 999) ∨ (4 ≤ l3_47.toInt ∧ 0 ≤ l2_47.toInt ∧ l2_47.toInt ≤ 9999))
    (I47_3 : l3_47.toInt ≤ 4 → l2_47.toInt = (nv (tC (G.2.1 (F (F a 0) 0)) ((G.1 (F a 0) 1).toInt)) (nS (tC (G.2.1 (F (F a 0) 0)) ((G.1 (F a 0) 1).toInt)) ((G.1 a 2).toInt)) (l3_47.toInt)))
    (hm47 : 200 - ((G_47.1 a 3).toInt) < (((N47) + 1 : Nat) : Int))
    (c58 : ¬ (((G.1 (F a 0) 1).toInt) ≤ ((G_47.1 a 3).toInt)))
    (t69 : x69.toInt = (tC (G.2.1 (F (F a 0) 0)) ((G.1 (F a 0) 1).toInt) ((G_47.1 a 3).toInt)))
    (t72 : (x72.toInt = 1 ∧ 48 ≤ x69.toInt ∧ x69.toInt ≤ 57) ∨ (x72.toInt = 0 ∧ (x69.toInt < 48 ∨ 57 < x69.toInt)))
    (c75 : ¬ (x72.toInt = 0))
    (z78 : (nv (tC (G.2.1 (F (F a 0) 0)) ((G.1 (F a 0) 1).toInt)) (nS (tC (G.2.1 (F (F a 0) 0)) ((G.1 (F a 0) 1).toInt)) ((G.1 a 2).toInt)) (l3_47.toInt + 1)) = 10 * (nv (tC (G.2.1 (F (F a 0) 0)) ((G.1 (F a 0) 1).toInt)) (nS (tC (G.2.1 (F (F a 0) 0)) ((G.1 (F a 0) 1).toInt)) ((G.1 a 2).toInt)) (l3_47.toInt)) + ((tC (G.2.1 (F (F a 0) 0)) ((G.1 (F a 0) 1).toInt) ((nS (tC (G.2.1 (F (F a 0) 0)) ((G.1 (F a 0) 1).toInt)) ((G.1 a 2).toInt)) + l3_47.toInt)) - 48))
    (z78a : ((G_47.1 a 3).toInt) = (nS (tC (G.2.1 (F (F a 0) 0)) ((G.1 (F a 0) 1).toInt)) ((G.1 a 2).toInt)) + l3_47.toInt → (tC (G.2.1 (F (F a 0) 0)) ((G.1 (F a 0) 1).toInt) ((nS (tC (G.2.1 (F (F a 0) 0)) ((G.1 (F a 0) 1).toInt)) ((G.1 a 2).toInt)) + l3_47.toInt)) = (tC (G.2.1 (F (F a 0) 0)) ((G.1 (F a 0) 1).toInt) ((G_47.1 a 3).toInt)))
    (c80 : (4 : Int) ≤ l3_47.toInt) :
    ∀ j : Int, nS (tC (G.2.1 (F (F a 0) 0)) ((G.1 (F a 0) 1).toInt)) ((G.1 a 2).toInt) ≤ j → j < (((G_47.1 a 3).toInt) + (1 : Int)) → cDg ((tC (G.2.1 (F (F a 0) 0)) ((G.1 (F a 0) 1).toInt)) j) := by
  intro j h1 h2
  by_cases e : j = (G_47.1 a 3).toInt
  · rw [e]; unfold cDg; omega
  · exact pr j h1 (by omega)
theorem v_X5_advanceNumber_116_8 {K : Nat → Nat} {F : Nat → Nat → Nat} (a : Nat) (G : XG) (G_47 : XG) (l2_47 : Int32) (l3_47 : Int32) (x8 : Int32) (N47 : Nat) (x69 : Int32) (x72 : Int32)
    (ha : K a = 7)
    (pr : ∀ j : Int, nS (tC (G.2.1 (F (F a 0) 0)) ((G.1 (F a 0) 1).toInt)) ((G.1 a 2).toInt) ≤ j → j < ((G_47.1 a 3).toInt) → cDg ((tC (G.2.1 (F (F a 0) 0)) ((G.1 (F a 0) 1).toInt)) j))
    (n0 : 0 ≤ ((G.1 (F a 0) 1).toInt) ∧ ((G.1 (F a 0) 1).toInt) ≤ 80)
    (s0 : 0 ≤ ((G.1 a 2).toInt) ∧ ((G.1 a 2).toInt) < ((G.1 (F a 0) 1).toInt))
    (z0 : ((tC (G.2.1 (F (F a 0) 0)) ((G.1 (F a 0) 1).toInt) ((G.1 a 2).toInt)) = 45 ∧ (nS (tC (G.2.1 (F (F a 0) 0)) ((G.1 (F a 0) 1).toInt)) ((G.1 a 2).toInt)) = ((G.1 a 2).toInt) + 1) ∨ ((tC (G.2.1 (F (F a 0) 0)) ((G.1 (F a 0) 1).toInt) ((G.1 a 2).toInt)) ≠ 45 ∧ (nS (tC (G.2.1 (F (F a 0) 0)) ((G.1 (F a 0) 1).toInt)) ((G.1 a 2).toInt)) = ((G.1 a 2).toInt)))
    (z0a : (nv (tC (G.2.1 (F (F a 0) 0)) ((G.1 (F a 0) 1).toInt)) (nS (tC (G.2.1 (F (F a 0) 0)) ((G.1 (F a 0) 1).toInt)) ((G.1 a 2).toInt)) 0) = 0)
    (t8 : x8.toInt = (tC (G.2.1 (F (F a 0) 0)) ((G.1 (F a 0) 1).toInt) ((G.1 a 2).toInt)))
    (c13 : x8.toInt ≠ (45 : Int))
    (I47_0 : ((G_47.1 a 3).toInt) = (nS (tC (G.2.1 (F (F a 0) 0)) ((G.1 (F a 0) 1).toInt)) ((G.1 a 2).toInt)) + l3_47.toInt)
    (I47_1 : 0 ≤ l3_47.toInt ∧ ((G_47.1 a 3).toInt) ≤ ((G.1 (F a 0) 1).toInt))
    (I47_2 : (l3_47.toInt = 0 ∧ l2_47.toInt = 0) ∨ (l3_47.toInt = 1 ∧ 0 ≤ l2_47.toInt ∧ l2_47.toInt ≤ 9) ∨ (l3_47.toInt = 2 ∧ 0 ≤ l2_47.toInt ∧ l2_47.toInt ≤ 99) ∨ (l3_47.toInt = 3 ∧ 0 ≤ l2_47.toInt ∧ l2_47.toInt ≤ 999) ∨ (4 ≤ l3_47.toInt ∧ 0 ≤ l2_47.toInt ∧ l2_47.toInt ≤ 9999))
    (I47_3 : l3_47.toInt ≤ 4 → l2_47.toInt = (nv (tC (G.2.1 (F (F a 0) 0)) ((G.1 (F a 0) 1).toInt)) (nS (tC (G.2.1 (F (F a 0) 0)) ((G.1 (F a 0) 1).toInt)) ((G.1 a 2).toInt)) (l3_47.toInt)))
    (hm47 : 200 - ((G_47.1 a 3).toInt) < (((N47) + 1 : Nat) : Int))
    (c58 : ¬ (((G.1 (F a 0) 1).toInt) ≤ ((G_47.1 a 3).toInt)))
    (t69 : x69.toInt = (tC (G.2.1 (F (F a 0) 0)) ((G.1 (F a 0) 1).toInt) ((G_47.1 a 3).toInt)))
    (t72 : (x72.toInt = 1 ∧ 48 ≤ x69.toInt ∧ x69.toInt ≤ 57) ∨ (x72.toInt = 0 ∧ (x69.toInt < 48 ∨ 57 < x69.toInt)))
    (c75 : ¬ (x72.toInt = 0))
    (z78 : (nv (tC (G.2.1 (F (F a 0) 0)) ((G.1 (F a 0) 1).toInt)) (nS (tC (G.2.1 (F (F a 0) 0)) ((G.1 (F a 0) 1).toInt)) ((G.1 a 2).toInt)) (l3_47.toInt + 1)) = 10 * (nv (tC (G.2.1 (F (F a 0) 0)) ((G.1 (F a 0) 1).toInt)) (nS (tC (G.2.1 (F (F a 0) 0)) ((G.1 (F a 0) 1).toInt)) ((G.1 a 2).toInt)) (l3_47.toInt)) + ((tC (G.2.1 (F (F a 0) 0)) ((G.1 (F a 0) 1).toInt) ((nS (tC (G.2.1 (F (F a 0) 0)) ((G.1 (F a 0) 1).toInt)) ((G.1 a 2).toInt)) + l3_47.toInt)) - 48))
    (z78a : ((G_47.1 a 3).toInt) = (nS (tC (G.2.1 (F (F a 0) 0)) ((G.1 (F a 0) 1).toInt)) ((G.1 a 2).toInt)) + l3_47.toInt → (tC (G.2.1 (F (F a 0) 0)) ((G.1 (F a 0) 1).toInt) ((nS (tC (G.2.1 (F (F a 0) 0)) ((G.1 (F a 0) 1).toInt)) ((G.1 a 2).toInt)) + l3_47.toInt)) = (tC (G.2.1 (F (F a 0) 0)) ((G.1 (F a 0) 1).toInt) ((G_47.1 a 3).toInt)))
    (c80 : ¬ ((4 : Int) ≤ l3_47.toInt)) :
    ∀ j : Int, nS (tC (G.2.1 (F (F a 0) 0)) ((G.1 (F a 0) 1).toInt)) ((G.1 a 2).toInt) ≤ j → j < (((G_47.1 a 3).toInt) + (1 : Int)) → cDg ((tC (G.2.1 (F (F a 0) 0)) ((G.1 (F a 0) 1).toInt)) j) := by
  intro j h1 h2
  by_cases e : j = (G_47.1 a 3).toInt
  · rw [e]; unfold cDg; omega
  · exact pr j h1 (by omega)
theorem v_X5_advanceNumber_44_9 {K : Nat → Nat} {F : Nat → Nat → Nat} (a : Nat) (G : XG) (x8 : Int32)
    (ha : K a = 7)
    (n0 : 0 ≤ ((G.1 (F a 0) 1).toInt) ∧ ((G.1 (F a 0) 1).toInt) ≤ 80)
    (s0 : 0 ≤ ((G.1 a 2).toInt) ∧ ((G.1 a 2).toInt) < ((G.1 (F a 0) 1).toInt))
    (z0 : ((tC (G.2.1 (F (F a 0) 0)) ((G.1 (F a 0) 1).toInt) ((G.1 a 2).toInt)) = 45 ∧ (nS (tC (G.2.1 (F (F a 0) 0)) ((G.1 (F a 0) 1).toInt)) ((G.1 a 2).toInt)) = ((G.1 a 2).toInt) + 1) ∨ ((tC (G.2.1 (F (F a 0) 0)) ((G.1 (F a 0) 1).toInt) ((G.1 a 2).toInt)) ≠ 45 ∧ (nS (tC (G.2.1 (F (F a 0) 0)) ((G.1 (F a 0) 1).toInt)) ((G.1 a 2).toInt)) = ((G.1 a 2).toInt)))
    (z0a : (nv (tC (G.2.1 (F (F a 0) 0)) ((G.1 (F a 0) 1).toInt)) (nS (tC (G.2.1 (F (F a 0) 0)) ((G.1 (F a 0) 1).toInt)) ((G.1 a 2).toInt)) 0) = 0)
    (t8 : x8.toInt = (tC (G.2.1 (F (F a 0) 0)) ((G.1 (F a 0) 1).toInt) ((G.1 a 2).toInt)))
    (c13 : x8.toInt ≠ (45 : Int)) :
    ∀ j : Int, nS (tC (G.2.1 (F (F a 0) 0)) ((G.1 (F a 0) 1).toInt)) ((G.1 a 2).toInt) ≤ j → j < ((G.1 a 2).toInt) → cDg ((tC (G.2.1 (F (F a 0) 0)) ((G.1 (F a 0) 1).toInt)) j) := by
  intro j h1 h2; exact absurd h1 (by omega)
theorem v_X5_advanceNumber_152_10 {K : Nat → Nat} {F : Nat → Nat → Nat} (a : Nat) (G : XG) (G_47 : XG) (G149 : XG) (x144 : Int32) (x8 : Int32) (l3_47 : Int32) (l2_47 : Int32) (N47 : Nat)
    (ha : K a = 7)
    (pr : ∀ j : Int, nS (tC (G.2.1 (F (F a 0) 0)) ((G.1 (F a 0) 1).toInt)) ((G.1 a 2).toInt) ≤ j → j < ((G_47.1 a 3).toInt) → cDg ((tC (G.2.1 (F (F a 0) 0)) ((G.1 (F a 0) 1).toInt)) j))
    (n0 : 0 ≤ ((G.1 (F a 0) 1).toInt) ∧ ((G.1 (F a 0) 1).toInt) ≤ 80)
    (s0 : 0 ≤ ((G.1 a 2).toInt) ∧ ((G.1 a 2).toInt) < ((G.1 (F a 0) 1).toInt))
    (z0 : ((tC (G.2.1 (F (F a 0) 0)) ((G.1 (F a 0) 1).toInt) ((G.1 a 2).toInt)) = 45 ∧ (nS (tC (G.2.1 (F (F a 0) 0)) ((G.1 (F a 0) 1).toInt)) ((G.1 a 2).toInt)) = ((G.1 a 2).toInt) + 1) ∨ ((tC (G.2.1 (F (F a 0) 0)) ((G.1 (F a 0) 1).toInt) ((G.1 a 2).toInt)) ≠ 45 ∧ (nS (tC (G.2.1 (F (F a 0) 0)) ((G.1 (F a 0) 1).toInt)) ((G.1 a 2).toInt)) = ((G.1 a 2).toInt)))
    (z0a : (nv (tC (G.2.1 (F (F a 0) 0)) ((G.1 (F a 0) 1).toInt)) (nS (tC (G.2.1 (F (F a 0) 0)) ((G.1 (F a 0) 1).toInt)) ((G.1 a 2).toInt)) 0) = 0)
    (t8 : x8.toInt = (tC (G.2.1 (F (F a 0) 0)) ((G.1 (F a 0) 1).toInt) ((G.1 a 2).toInt)))
    (c13 : ¬ (x8.toInt ≠ (45 : Int)))
    (I47_0 : ((G_47.1 a 3).toInt) = (nS (tC (G.2.1 (F (F a 0) 0)) ((G.1 (F a 0) 1).toInt)) ((G.1 a 2).toInt)) + l3_47.toInt)
    (I47_1 : 0 ≤ l3_47.toInt ∧ ((G_47.1 a 3).toInt) ≤ ((G.1 (F a 0) 1).toInt))
    (I47_2 : (l3_47.toInt = 0 ∧ l2_47.toInt = 0) ∨ (l3_47.toInt = 1 ∧ 0 ≤ l2_47.toInt ∧ l2_47.toInt ≤ 9) ∨ (l3_47.toInt = 2 ∧ 0 ≤ l2_47.toInt ∧ l2_47.toInt ≤ 99) ∨ (l3_47.toInt = 3 ∧ 0 ≤ l2_47.toInt ∧ l2_47.toInt ≤ 999) ∨ (4 ≤ l3_47.toInt ∧ 0 ≤ l2_47.toInt ∧ l2_47.toInt ≤ 9999))
    (I47_3 : l3_47.toInt ≤ 4 → l2_47.toInt = (nv (tC (G.2.1 (F (F a 0) 0)) ((G.1 (F a 0) 1).toInt)) (nS (tC (G.2.1 (F (F a 0) 0)) ((G.1 (F a 0) 1).toInt)) ((G.1 a 2).toInt)) (l3_47.toInt)))
    (hm47 : 200 - ((G_47.1 a 3).toInt) < (((N47) + 1 : Nat) : Int))
    (c58 : ((G.1 (F a 0) 1).toInt) ≤ ((G_47.1 a 3).toInt))
    (c122 : l3_47.toInt < (1 : Int))
    (t144 : x144.toInt = -l2_47.toInt ∨ -l2_47.toInt < -2147483648 ∨ 2147483648 ≤ -l2_47.toInt)
    (d_G149_a_1 : G149.1 a 1 = 3)
    (d_G149_a_3 : G149.1 a 3 = G_47.1 a 3)
    (d_G149_a_4 : G149.1 a 4 = x144) :
    ((G149.1 a 3).toInt) = nE (tC (G.2.1 (F (F a 0) 0)) ((G.1 (F a 0) 1).toInt)) ((G.1 a 2).toInt) ∧ ((nOk (tC (G.2.1 (F (F a 0) 0)) ((G.1 (F a 0) 1).toInt)) ((G.1 a 2).toInt) ∧ ((G149.1 a 1).toInt) = 2 ∧ ((G149.1 a 4).toInt) = nVl (tC (G.2.1 (F (F a 0) 0)) ((G.1 (F a 0) 1).toInt)) ((G.1 a 2).toInt)) ∨ (¬ nOk (tC (G.2.1 (F (F a 0) 0)) ((G.1 (F a 0) 1).toInt)) ((G.1 a 2).toInt) ∧ ((G149.1 a 1).toInt) = 3)) := by
  have hE : nE (tC (G.2.1 (F (F a 0) 0)) ((G.1 (F a 0) 1).toInt)) ((G.1 a 2).toInt) = (G_47.1 a 3).toInt := by
    unfold nE
    refine rn_eq ⟨by omega, pr, cDg_n ?_⟩
    rcases tC_f (G.2.1 (F (F a 0) 0)) ((G.1 (F a 0) 1).toInt) ((G_47.1 a 3).toInt) with h | h
    · omega
    · exact Or.inl h.2
  have nf := nS_f (tC (G.2.1 (F (F a 0) 0)) ((G.1 (F a 0) 1).toInt)) ((G.1 a 2).toInt)
  have hk : l3_47.toInt = nE (tC (G.2.1 (F (F a 0) 0)) ((G.1 (F a 0) 1).toInt)) ((G.1 a 2).toInt) - nS (tC (G.2.1 (F (F a 0) 0)) ((G.1 (F a 0) 1).toInt)) ((G.1 a 2).toInt) := by omega
  have e3 : (G149.1 a 3).toInt = (G_47.1 a 3).toInt := by rw [d_G149_a_3]
  refine ⟨by omega, ?_⟩
  by_cases q : 1 ≤ l3_47.toInt ∧ l3_47.toInt ≤ 4
  · refine Or.inl ⟨⟨by omega, by omega⟩, ?_, ?_⟩
    · rw [d_G149_a_1]
      first | rfl | decide | (exfalso; omega)
    · rw [hk] at I47_3
      rw [d_G149_a_4]
      omega
  · refine Or.inr ⟨fun h => q (by have h1 := h.1; have h2 := h.2; omega), ?_⟩
    rw [d_G149_a_1]
    first | rfl | decide | (exfalso; omega)
theorem v_X5_advanceNumber_152_11 {K : Nat → Nat} {F : Nat → Nat → Nat} (a : Nat) (G : XG) (G_47 : XG) (G149 : XG) (x144 : Int32) (x8 : Int32) (l3_47 : Int32) (l2_47 : Int32) (N47 : Nat)
    (ha : K a = 7)
    (pr : ∀ j : Int, nS (tC (G.2.1 (F (F a 0) 0)) ((G.1 (F a 0) 1).toInt)) ((G.1 a 2).toInt) ≤ j → j < ((G_47.1 a 3).toInt) → cDg ((tC (G.2.1 (F (F a 0) 0)) ((G.1 (F a 0) 1).toInt)) j))
    (n0 : 0 ≤ ((G.1 (F a 0) 1).toInt) ∧ ((G.1 (F a 0) 1).toInt) ≤ 80)
    (s0 : 0 ≤ ((G.1 a 2).toInt) ∧ ((G.1 a 2).toInt) < ((G.1 (F a 0) 1).toInt))
    (z0 : ((tC (G.2.1 (F (F a 0) 0)) ((G.1 (F a 0) 1).toInt) ((G.1 a 2).toInt)) = 45 ∧ (nS (tC (G.2.1 (F (F a 0) 0)) ((G.1 (F a 0) 1).toInt)) ((G.1 a 2).toInt)) = ((G.1 a 2).toInt) + 1) ∨ ((tC (G.2.1 (F (F a 0) 0)) ((G.1 (F a 0) 1).toInt) ((G.1 a 2).toInt)) ≠ 45 ∧ (nS (tC (G.2.1 (F (F a 0) 0)) ((G.1 (F a 0) 1).toInt)) ((G.1 a 2).toInt)) = ((G.1 a 2).toInt)))
    (z0a : (nv (tC (G.2.1 (F (F a 0) 0)) ((G.1 (F a 0) 1).toInt)) (nS (tC (G.2.1 (F (F a 0) 0)) ((G.1 (F a 0) 1).toInt)) ((G.1 a 2).toInt)) 0) = 0)
    (t8 : x8.toInt = (tC (G.2.1 (F (F a 0) 0)) ((G.1 (F a 0) 1).toInt) ((G.1 a 2).toInt)))
    (c13 : ¬ (x8.toInt ≠ (45 : Int)))
    (I47_0 : ((G_47.1 a 3).toInt) = (nS (tC (G.2.1 (F (F a 0) 0)) ((G.1 (F a 0) 1).toInt)) ((G.1 a 2).toInt)) + l3_47.toInt)
    (I47_1 : 0 ≤ l3_47.toInt ∧ ((G_47.1 a 3).toInt) ≤ ((G.1 (F a 0) 1).toInt))
    (I47_2 : (l3_47.toInt = 0 ∧ l2_47.toInt = 0) ∨ (l3_47.toInt = 1 ∧ 0 ≤ l2_47.toInt ∧ l2_47.toInt ≤ 9) ∨ (l3_47.toInt = 2 ∧ 0 ≤ l2_47.toInt ∧ l2_47.toInt ≤ 99) ∨ (l3_47.toInt = 3 ∧ 0 ≤ l2_47.toInt ∧ l2_47.toInt ≤ 999) ∨ (4 ≤ l3_47.toInt ∧ 0 ≤ l2_47.toInt ∧ l2_47.toInt ≤ 9999))
    (I47_3 : l3_47.toInt ≤ 4 → l2_47.toInt = (nv (tC (G.2.1 (F (F a 0) 0)) ((G.1 (F a 0) 1).toInt)) (nS (tC (G.2.1 (F (F a 0) 0)) ((G.1 (F a 0) 1).toInt)) ((G.1 a 2).toInt)) (l3_47.toInt)))
    (hm47 : 200 - ((G_47.1 a 3).toInt) < (((N47) + 1 : Nat) : Int))
    (c58 : ((G.1 (F a 0) 1).toInt) ≤ ((G_47.1 a 3).toInt))
    (c122 : ¬ (l3_47.toInt < (1 : Int)))
    (c127 : (4 : Int) < l3_47.toInt)
    (t144 : x144.toInt = -l2_47.toInt ∨ -l2_47.toInt < -2147483648 ∨ 2147483648 ≤ -l2_47.toInt)
    (d_G149_a_1 : G149.1 a 1 = 3)
    (d_G149_a_3 : G149.1 a 3 = G_47.1 a 3)
    (d_G149_a_4 : G149.1 a 4 = x144) :
    ((G149.1 a 3).toInt) = nE (tC (G.2.1 (F (F a 0) 0)) ((G.1 (F a 0) 1).toInt)) ((G.1 a 2).toInt) ∧ ((nOk (tC (G.2.1 (F (F a 0) 0)) ((G.1 (F a 0) 1).toInt)) ((G.1 a 2).toInt) ∧ ((G149.1 a 1).toInt) = 2 ∧ ((G149.1 a 4).toInt) = nVl (tC (G.2.1 (F (F a 0) 0)) ((G.1 (F a 0) 1).toInt)) ((G.1 a 2).toInt)) ∨ (¬ nOk (tC (G.2.1 (F (F a 0) 0)) ((G.1 (F a 0) 1).toInt)) ((G.1 a 2).toInt) ∧ ((G149.1 a 1).toInt) = 3)) := by
  have hE : nE (tC (G.2.1 (F (F a 0) 0)) ((G.1 (F a 0) 1).toInt)) ((G.1 a 2).toInt) = (G_47.1 a 3).toInt := by
    unfold nE
    refine rn_eq ⟨by omega, pr, cDg_n ?_⟩
    rcases tC_f (G.2.1 (F (F a 0) 0)) ((G.1 (F a 0) 1).toInt) ((G_47.1 a 3).toInt) with h | h
    · omega
    · exact Or.inl h.2
  have nf := nS_f (tC (G.2.1 (F (F a 0) 0)) ((G.1 (F a 0) 1).toInt)) ((G.1 a 2).toInt)
  have hk : l3_47.toInt = nE (tC (G.2.1 (F (F a 0) 0)) ((G.1 (F a 0) 1).toInt)) ((G.1 a 2).toInt) - nS (tC (G.2.1 (F (F a 0) 0)) ((G.1 (F a 0) 1).toInt)) ((G.1 a 2).toInt) := by omega
  have e3 : (G149.1 a 3).toInt = (G_47.1 a 3).toInt := by rw [d_G149_a_3]
  refine ⟨by omega, ?_⟩
  by_cases q : 1 ≤ l3_47.toInt ∧ l3_47.toInt ≤ 4
  · refine Or.inl ⟨⟨by omega, by omega⟩, ?_, ?_⟩
    · rw [d_G149_a_1]
      first | rfl | decide | (exfalso; omega)
    · rw [hk] at I47_3
      rw [d_G149_a_4]
      omega
  · refine Or.inr ⟨fun h => q (by have h1 := h.1; have h2 := h.2; omega), ?_⟩
    rw [d_G149_a_1]
    first | rfl | decide | (exfalso; omega)
theorem v_X5_advanceNumber_152_12 {K : Nat → Nat} {F : Nat → Nat → Nat} (a : Nat) (G : XG) (G_47 : XG) (G149 : XG) (x144 : Int32) (x8 : Int32) (l3_47 : Int32) (l2_47 : Int32) (N47 : Nat)
    (ha : K a = 7)
    (pr : ∀ j : Int, nS (tC (G.2.1 (F (F a 0) 0)) ((G.1 (F a 0) 1).toInt)) ((G.1 a 2).toInt) ≤ j → j < ((G_47.1 a 3).toInt) → cDg ((tC (G.2.1 (F (F a 0) 0)) ((G.1 (F a 0) 1).toInt)) j))
    (n0 : 0 ≤ ((G.1 (F a 0) 1).toInt) ∧ ((G.1 (F a 0) 1).toInt) ≤ 80)
    (s0 : 0 ≤ ((G.1 a 2).toInt) ∧ ((G.1 a 2).toInt) < ((G.1 (F a 0) 1).toInt))
    (z0 : ((tC (G.2.1 (F (F a 0) 0)) ((G.1 (F a 0) 1).toInt) ((G.1 a 2).toInt)) = 45 ∧ (nS (tC (G.2.1 (F (F a 0) 0)) ((G.1 (F a 0) 1).toInt)) ((G.1 a 2).toInt)) = ((G.1 a 2).toInt) + 1) ∨ ((tC (G.2.1 (F (F a 0) 0)) ((G.1 (F a 0) 1).toInt) ((G.1 a 2).toInt)) ≠ 45 ∧ (nS (tC (G.2.1 (F (F a 0) 0)) ((G.1 (F a 0) 1).toInt)) ((G.1 a 2).toInt)) = ((G.1 a 2).toInt)))
    (z0a : (nv (tC (G.2.1 (F (F a 0) 0)) ((G.1 (F a 0) 1).toInt)) (nS (tC (G.2.1 (F (F a 0) 0)) ((G.1 (F a 0) 1).toInt)) ((G.1 a 2).toInt)) 0) = 0)
    (t8 : x8.toInt = (tC (G.2.1 (F (F a 0) 0)) ((G.1 (F a 0) 1).toInt) ((G.1 a 2).toInt)))
    (c13 : ¬ (x8.toInt ≠ (45 : Int)))
    (I47_0 : ((G_47.1 a 3).toInt) = (nS (tC (G.2.1 (F (F a 0) 0)) ((G.1 (F a 0) 1).toInt)) ((G.1 a 2).toInt)) + l3_47.toInt)
    (I47_1 : 0 ≤ l3_47.toInt ∧ ((G_47.1 a 3).toInt) ≤ ((G.1 (F a 0) 1).toInt))
    (I47_2 : (l3_47.toInt = 0 ∧ l2_47.toInt = 0) ∨ (l3_47.toInt = 1 ∧ 0 ≤ l2_47.toInt ∧ l2_47.toInt ≤ 9) ∨ (l3_47.toInt = 2 ∧ 0 ≤ l2_47.toInt ∧ l2_47.toInt ≤ 99) ∨ (l3_47.toInt = 3 ∧ 0 ≤ l2_47.toInt ∧ l2_47.toInt ≤ 999) ∨ (4 ≤ l3_47.toInt ∧ 0 ≤ l2_47.toInt ∧ l2_47.toInt ≤ 9999))
    (I47_3 : l3_47.toInt ≤ 4 → l2_47.toInt = (nv (tC (G.2.1 (F (F a 0) 0)) ((G.1 (F a 0) 1).toInt)) (nS (tC (G.2.1 (F (F a 0) 0)) ((G.1 (F a 0) 1).toInt)) ((G.1 a 2).toInt)) (l3_47.toInt)))
    (hm47 : 200 - ((G_47.1 a 3).toInt) < (((N47) + 1 : Nat) : Int))
    (c58 : ((G.1 (F a 0) 1).toInt) ≤ ((G_47.1 a 3).toInt))
    (c122 : ¬ (l3_47.toInt < (1 : Int)))
    (c127 : ¬ ((4 : Int) < l3_47.toInt))
    (t144 : x144.toInt = -l2_47.toInt ∨ -l2_47.toInt < -2147483648 ∨ 2147483648 ≤ -l2_47.toInt)
    (d_G149_a_1 : G149.1 a 1 = 2)
    (d_G149_a_3 : G149.1 a 3 = G_47.1 a 3)
    (d_G149_a_4 : G149.1 a 4 = x144) :
    ((G149.1 a 3).toInt) = nE (tC (G.2.1 (F (F a 0) 0)) ((G.1 (F a 0) 1).toInt)) ((G.1 a 2).toInt) ∧ ((nOk (tC (G.2.1 (F (F a 0) 0)) ((G.1 (F a 0) 1).toInt)) ((G.1 a 2).toInt) ∧ ((G149.1 a 1).toInt) = 2 ∧ ((G149.1 a 4).toInt) = nVl (tC (G.2.1 (F (F a 0) 0)) ((G.1 (F a 0) 1).toInt)) ((G.1 a 2).toInt)) ∨ (¬ nOk (tC (G.2.1 (F (F a 0) 0)) ((G.1 (F a 0) 1).toInt)) ((G.1 a 2).toInt) ∧ ((G149.1 a 1).toInt) = 3)) := by
  have hE : nE (tC (G.2.1 (F (F a 0) 0)) ((G.1 (F a 0) 1).toInt)) ((G.1 a 2).toInt) = (G_47.1 a 3).toInt := by
    unfold nE
    refine rn_eq ⟨by omega, pr, cDg_n ?_⟩
    rcases tC_f (G.2.1 (F (F a 0) 0)) ((G.1 (F a 0) 1).toInt) ((G_47.1 a 3).toInt) with h | h
    · omega
    · exact Or.inl h.2
  have nf := nS_f (tC (G.2.1 (F (F a 0) 0)) ((G.1 (F a 0) 1).toInt)) ((G.1 a 2).toInt)
  have hk : l3_47.toInt = nE (tC (G.2.1 (F (F a 0) 0)) ((G.1 (F a 0) 1).toInt)) ((G.1 a 2).toInt) - nS (tC (G.2.1 (F (F a 0) 0)) ((G.1 (F a 0) 1).toInt)) ((G.1 a 2).toInt) := by omega
  have e3 : (G149.1 a 3).toInt = (G_47.1 a 3).toInt := by rw [d_G149_a_3]
  refine ⟨by omega, ?_⟩
  by_cases q : 1 ≤ l3_47.toInt ∧ l3_47.toInt ≤ 4
  · refine Or.inl ⟨⟨by omega, by omega⟩, ?_, ?_⟩
    · rw [d_G149_a_1]
      first | rfl | decide | (exfalso; omega)
    · rw [hk] at I47_3
      rw [d_G149_a_4]
      omega
  · refine Or.inr ⟨fun h => q (by have h1 := h.1; have h2 := h.2; omega), ?_⟩
    rw [d_G149_a_1]
    first | rfl | decide | (exfalso; omega)
theorem v_X5_advanceNumber_152_13 {K : Nat → Nat} {F : Nat → Nat → Nat} (a : Nat) (G : XG) (G_47 : XG) (G149 : XG) (x144 : Int32) (x8 : Int32) (l3_47 : Int32) (l2_47 : Int32) (N47 : Nat) (x69 : Int32) (x72 : Int32)
    (ha : K a = 7)
    (pr : ∀ j : Int, nS (tC (G.2.1 (F (F a 0) 0)) ((G.1 (F a 0) 1).toInt)) ((G.1 a 2).toInt) ≤ j → j < ((G_47.1 a 3).toInt) → cDg ((tC (G.2.1 (F (F a 0) 0)) ((G.1 (F a 0) 1).toInt)) j))
    (n0 : 0 ≤ ((G.1 (F a 0) 1).toInt) ∧ ((G.1 (F a 0) 1).toInt) ≤ 80)
    (s0 : 0 ≤ ((G.1 a 2).toInt) ∧ ((G.1 a 2).toInt) < ((G.1 (F a 0) 1).toInt))
    (z0 : ((tC (G.2.1 (F (F a 0) 0)) ((G.1 (F a 0) 1).toInt) ((G.1 a 2).toInt)) = 45 ∧ (nS (tC (G.2.1 (F (F a 0) 0)) ((G.1 (F a 0) 1).toInt)) ((G.1 a 2).toInt)) = ((G.1 a 2).toInt) + 1) ∨ ((tC (G.2.1 (F (F a 0) 0)) ((G.1 (F a 0) 1).toInt) ((G.1 a 2).toInt)) ≠ 45 ∧ (nS (tC (G.2.1 (F (F a 0) 0)) ((G.1 (F a 0) 1).toInt)) ((G.1 a 2).toInt)) = ((G.1 a 2).toInt)))
    (z0a : (nv (tC (G.2.1 (F (F a 0) 0)) ((G.1 (F a 0) 1).toInt)) (nS (tC (G.2.1 (F (F a 0) 0)) ((G.1 (F a 0) 1).toInt)) ((G.1 a 2).toInt)) 0) = 0)
    (t8 : x8.toInt = (tC (G.2.1 (F (F a 0) 0)) ((G.1 (F a 0) 1).toInt) ((G.1 a 2).toInt)))
    (c13 : ¬ (x8.toInt ≠ (45 : Int)))
    (I47_0 : ((G_47.1 a 3).toInt) = (nS (tC (G.2.1 (F (F a 0) 0)) ((G.1 (F a 0) 1).toInt)) ((G.1 a 2).toInt)) + l3_47.toInt)
    (I47_1 : 0 ≤ l3_47.toInt ∧ ((G_47.1 a 3).toInt) ≤ ((G.1 (F a 0) 1).toInt))
    (I47_2 : (l3_47.toInt = 0 ∧ l2_47.toInt = 0) ∨ (l3_47.toInt = 1 ∧ 0 ≤ l2_47.toInt ∧ l2_47.toInt ≤ 9) ∨ (l3_47.toInt = 2 ∧ 0 ≤ l2_47.toInt ∧ l2_47.toInt ≤ 99) ∨ (l3_47.toInt = 3 ∧ 0 ≤ l2_47.toInt ∧ l2_47.toInt ≤ 999) ∨ (4 ≤ l3_47.toInt ∧ 0 ≤ l2_47.toInt ∧ l2_47.toInt ≤ 9999))
    (I47_3 : l3_47.toInt ≤ 4 → l2_47.toInt = (nv (tC (G.2.1 (F (F a 0) 0)) ((G.1 (F a 0) 1).toInt)) (nS (tC (G.2.1 (F (F a 0) 0)) ((G.1 (F a 0) 1).toInt)) ((G.1 a 2).toInt)) (l3_47.toInt)))
    (hm47 : 200 - ((G_47.1 a 3).toInt) < (((N47) + 1 : Nat) : Int))
    (c58 : ¬ (((G.1 (F a 0) 1).toInt) ≤ ((G_47.1 a 3).toInt)))
    (t69 : x69.toInt = (tC (G.2.1 (F (F a 0) 0)) ((G.1 (F a 0) 1).toInt) ((G_47.1 a 3).toInt)))
    (t72 : (x72.toInt = 1 ∧ 48 ≤ x69.toInt ∧ x69.toInt ≤ 57) ∨ (x72.toInt = 0 ∧ (x69.toInt < 48 ∨ 57 < x69.toInt)))
    (c75 : x72.toInt = 0)
    (c122 : l3_47.toInt < (1 : Int))
    (t144 : x144.toInt = -l2_47.toInt ∨ -l2_47.toInt < -2147483648 ∨ 2147483648 ≤ -l2_47.toInt)
    (d_G149_a_1 : G149.1 a 1 = 3)
    (d_G149_a_3 : G149.1 a 3 = G_47.1 a 3)
    (d_G149_a_4 : G149.1 a 4 = x144) :
    ((G149.1 a 3).toInt) = nE (tC (G.2.1 (F (F a 0) 0)) ((G.1 (F a 0) 1).toInt)) ((G.1 a 2).toInt) ∧ ((nOk (tC (G.2.1 (F (F a 0) 0)) ((G.1 (F a 0) 1).toInt)) ((G.1 a 2).toInt) ∧ ((G149.1 a 1).toInt) = 2 ∧ ((G149.1 a 4).toInt) = nVl (tC (G.2.1 (F (F a 0) 0)) ((G.1 (F a 0) 1).toInt)) ((G.1 a 2).toInt)) ∨ (¬ nOk (tC (G.2.1 (F (F a 0) 0)) ((G.1 (F a 0) 1).toInt)) ((G.1 a 2).toInt) ∧ ((G149.1 a 1).toInt) = 3)) := by
  have hE : nE (tC (G.2.1 (F (F a 0) 0)) ((G.1 (F a 0) 1).toInt)) ((G.1 a 2).toInt) = (G_47.1 a 3).toInt := by
    unfold nE
    refine rn_eq ⟨by omega, pr, cDg_n ?_⟩
    rcases tC_f (G.2.1 (F (F a 0) 0)) ((G.1 (F a 0) 1).toInt) ((G_47.1 a 3).toInt) with h | h
    · omega
    · exact Or.inl h.2
  have nf := nS_f (tC (G.2.1 (F (F a 0) 0)) ((G.1 (F a 0) 1).toInt)) ((G.1 a 2).toInt)
  have hk : l3_47.toInt = nE (tC (G.2.1 (F (F a 0) 0)) ((G.1 (F a 0) 1).toInt)) ((G.1 a 2).toInt) - nS (tC (G.2.1 (F (F a 0) 0)) ((G.1 (F a 0) 1).toInt)) ((G.1 a 2).toInt) := by omega
  have e3 : (G149.1 a 3).toInt = (G_47.1 a 3).toInt := by rw [d_G149_a_3]
  refine ⟨by omega, ?_⟩
  by_cases q : 1 ≤ l3_47.toInt ∧ l3_47.toInt ≤ 4
  · refine Or.inl ⟨⟨by omega, by omega⟩, ?_, ?_⟩
    · rw [d_G149_a_1]
      first | rfl | decide | (exfalso; omega)
    · rw [hk] at I47_3
      rw [d_G149_a_4]
      omega
  · refine Or.inr ⟨fun h => q (by have h1 := h.1; have h2 := h.2; omega), ?_⟩
    rw [d_G149_a_1]
    first | rfl | decide | (exfalso; omega)
theorem v_X5_advanceNumber_152_14 {K : Nat → Nat} {F : Nat → Nat → Nat} (a : Nat) (G : XG) (G_47 : XG) (G149 : XG) (x144 : Int32) (x8 : Int32) (l3_47 : Int32) (l2_47 : Int32) (N47 : Nat) (x69 : Int32) (x72 : Int32)
    (ha : K a = 7)
    (pr : ∀ j : Int, nS (tC (G.2.1 (F (F a 0) 0)) ((G.1 (F a 0) 1).toInt)) ((G.1 a 2).toInt) ≤ j → j < ((G_47.1 a 3).toInt) → cDg ((tC (G.2.1 (F (F a 0) 0)) ((G.1 (F a 0) 1).toInt)) j))
    (n0 : 0 ≤ ((G.1 (F a 0) 1).toInt) ∧ ((G.1 (F a 0) 1).toInt) ≤ 80)
    (s0 : 0 ≤ ((G.1 a 2).toInt) ∧ ((G.1 a 2).toInt) < ((G.1 (F a 0) 1).toInt))
    (z0 : ((tC (G.2.1 (F (F a 0) 0)) ((G.1 (F a 0) 1).toInt) ((G.1 a 2).toInt)) = 45 ∧ (nS (tC (G.2.1 (F (F a 0) 0)) ((G.1 (F a 0) 1).toInt)) ((G.1 a 2).toInt)) = ((G.1 a 2).toInt) + 1) ∨ ((tC (G.2.1 (F (F a 0) 0)) ((G.1 (F a 0) 1).toInt) ((G.1 a 2).toInt)) ≠ 45 ∧ (nS (tC (G.2.1 (F (F a 0) 0)) ((G.1 (F a 0) 1).toInt)) ((G.1 a 2).toInt)) = ((G.1 a 2).toInt)))
    (z0a : (nv (tC (G.2.1 (F (F a 0) 0)) ((G.1 (F a 0) 1).toInt)) (nS (tC (G.2.1 (F (F a 0) 0)) ((G.1 (F a 0) 1).toInt)) ((G.1 a 2).toInt)) 0) = 0)
    (t8 : x8.toInt = (tC (G.2.1 (F (F a 0) 0)) ((G.1 (F a 0) 1).toInt) ((G.1 a 2).toInt)))
    (c13 : ¬ (x8.toInt ≠ (45 : Int)))
    (I47_0 : ((G_47.1 a 3).toInt) = (nS (tC (G.2.1 (F (F a 0) 0)) ((G.1 (F a 0) 1).toInt)) ((G.1 a 2).toInt)) + l3_47.toInt)
    (I47_1 : 0 ≤ l3_47.toInt ∧ ((G_47.1 a 3).toInt) ≤ ((G.1 (F a 0) 1).toInt))
    (I47_2 : (l3_47.toInt = 0 ∧ l2_47.toInt = 0) ∨ (l3_47.toInt = 1 ∧ 0 ≤ l2_47.toInt ∧ l2_47.toInt ≤ 9) ∨ (l3_47.toInt = 2 ∧ 0 ≤ l2_47.toInt ∧ l2_47.toInt ≤ 99) ∨ (l3_47.toInt = 3 ∧ 0 ≤ l2_47.toInt ∧ l2_47.toInt ≤ 999) ∨ (4 ≤ l3_47.toInt ∧ 0 ≤ l2_47.toInt ∧ l2_47.toInt ≤ 9999))
    (I47_3 : l3_47.toInt ≤ 4 → l2_47.toInt = (nv (tC (G.2.1 (F (F a 0) 0)) ((G.1 (F a 0) 1).toInt)) (nS (tC (G.2.1 (F (F a 0) 0)) ((G.1 (F a 0) 1).toInt)) ((G.1 a 2).toInt)) (l3_47.toInt)))
    (hm47 : 200 - ((G_47.1 a 3).toInt) < (((N47) + 1 : Nat) : Int))
    (c58 : ¬ (((G.1 (F a 0) 1).toInt) ≤ ((G_47.1 a 3).toInt)))
    (t69 : x69.toInt = (tC (G.2.1 (F (F a 0) 0)) ((G.1 (F a 0) 1).toInt) ((G_47.1 a 3).toInt)))
    (t72 : (x72.toInt = 1 ∧ 48 ≤ x69.toInt ∧ x69.toInt ≤ 57) ∨ (x72.toInt = 0 ∧ (x69.toInt < 48 ∨ 57 < x69.toInt)))
    (c75 : x72.toInt = 0)
    (c122 : ¬ (l3_47.toInt < (1 : Int)))
    (c127 : (4 : Int) < l3_47.toInt)
    (t144 : x144.toInt = -l2_47.toInt ∨ -l2_47.toInt < -2147483648 ∨ 2147483648 ≤ -l2_47.toInt)
    (d_G149_a_1 : G149.1 a 1 = 3)
    (d_G149_a_3 : G149.1 a 3 = G_47.1 a 3)
    (d_G149_a_4 : G149.1 a 4 = x144) :
    ((G149.1 a 3).toInt) = nE (tC (G.2.1 (F (F a 0) 0)) ((G.1 (F a 0) 1).toInt)) ((G.1 a 2).toInt) ∧ ((nOk (tC (G.2.1 (F (F a 0) 0)) ((G.1 (F a 0) 1).toInt)) ((G.1 a 2).toInt) ∧ ((G149.1 a 1).toInt) = 2 ∧ ((G149.1 a 4).toInt) = nVl (tC (G.2.1 (F (F a 0) 0)) ((G.1 (F a 0) 1).toInt)) ((G.1 a 2).toInt)) ∨ (¬ nOk (tC (G.2.1 (F (F a 0) 0)) ((G.1 (F a 0) 1).toInt)) ((G.1 a 2).toInt) ∧ ((G149.1 a 1).toInt) = 3)) := by
  have hE : nE (tC (G.2.1 (F (F a 0) 0)) ((G.1 (F a 0) 1).toInt)) ((G.1 a 2).toInt) = (G_47.1 a 3).toInt := by
    unfold nE
    refine rn_eq ⟨by omega, pr, cDg_n ?_⟩
    rcases tC_f (G.2.1 (F (F a 0) 0)) ((G.1 (F a 0) 1).toInt) ((G_47.1 a 3).toInt) with h | h
    · omega
    · exact Or.inl h.2
  have nf := nS_f (tC (G.2.1 (F (F a 0) 0)) ((G.1 (F a 0) 1).toInt)) ((G.1 a 2).toInt)
  have hk : l3_47.toInt = nE (tC (G.2.1 (F (F a 0) 0)) ((G.1 (F a 0) 1).toInt)) ((G.1 a 2).toInt) - nS (tC (G.2.1 (F (F a 0) 0)) ((G.1 (F a 0) 1).toInt)) ((G.1 a 2).toInt) := by omega
  have e3 : (G149.1 a 3).toInt = (G_47.1 a 3).toInt := by rw [d_G149_a_3]
  refine ⟨by omega, ?_⟩
  by_cases q : 1 ≤ l3_47.toInt ∧ l3_47.toInt ≤ 4
  · refine Or.inl ⟨⟨by omega, by omega⟩, ?_, ?_⟩
    · rw [d_G149_a_1]
      first | rfl | decide | (exfalso; omega)
    · rw [hk] at I47_3
      rw [d_G149_a_4]
      omega
  · refine Or.inr ⟨fun h => q (by have h1 := h.1; have h2 := h.2; omega), ?_⟩
    rw [d_G149_a_1]
    first | rfl | decide | (exfalso; omega)
theorem v_X5_advanceNumber_152_15 {K : Nat → Nat} {F : Nat → Nat → Nat} (a : Nat) (G : XG) (G_47 : XG) (G149 : XG) (x144 : Int32) (x8 : Int32) (l3_47 : Int32) (l2_47 : Int32) (N47 : Nat) (x69 : Int32) (x72 : Int32)
    (ha : K a = 7)
    (pr : ∀ j : Int, nS (tC (G.2.1 (F (F a 0) 0)) ((G.1 (F a 0) 1).toInt)) ((G.1 a 2).toInt) ≤ j → j < ((G_47.1 a 3).toInt) → cDg ((tC (G.2.1 (F (F a 0) 0)) ((G.1 (F a 0) 1).toInt)) j))
    (n0 : 0 ≤ ((G.1 (F a 0) 1).toInt) ∧ ((G.1 (F a 0) 1).toInt) ≤ 80)
    (s0 : 0 ≤ ((G.1 a 2).toInt) ∧ ((G.1 a 2).toInt) < ((G.1 (F a 0) 1).toInt))
    (z0 : ((tC (G.2.1 (F (F a 0) 0)) ((G.1 (F a 0) 1).toInt) ((G.1 a 2).toInt)) = 45 ∧ (nS (tC (G.2.1 (F (F a 0) 0)) ((G.1 (F a 0) 1).toInt)) ((G.1 a 2).toInt)) = ((G.1 a 2).toInt) + 1) ∨ ((tC (G.2.1 (F (F a 0) 0)) ((G.1 (F a 0) 1).toInt) ((G.1 a 2).toInt)) ≠ 45 ∧ (nS (tC (G.2.1 (F (F a 0) 0)) ((G.1 (F a 0) 1).toInt)) ((G.1 a 2).toInt)) = ((G.1 a 2).toInt)))
    (z0a : (nv (tC (G.2.1 (F (F a 0) 0)) ((G.1 (F a 0) 1).toInt)) (nS (tC (G.2.1 (F (F a 0) 0)) ((G.1 (F a 0) 1).toInt)) ((G.1 a 2).toInt)) 0) = 0)
    (t8 : x8.toInt = (tC (G.2.1 (F (F a 0) 0)) ((G.1 (F a 0) 1).toInt) ((G.1 a 2).toInt)))
    (c13 : ¬ (x8.toInt ≠ (45 : Int)))
    (I47_0 : ((G_47.1 a 3).toInt) = (nS (tC (G.2.1 (F (F a 0) 0)) ((G.1 (F a 0) 1).toInt)) ((G.1 a 2).toInt)) + l3_47.toInt)
    (I47_1 : 0 ≤ l3_47.toInt ∧ ((G_47.1 a 3).toInt) ≤ ((G.1 (F a 0) 1).toInt))
    (I47_2 : (l3_47.toInt = 0 ∧ l2_47.toInt = 0) ∨ (l3_47.toInt = 1 ∧ 0 ≤ l2_47.toInt ∧ l2_47.toInt ≤ 9) ∨ (l3_47.toInt = 2 ∧ 0 ≤ l2_47.toInt ∧ l2_47.toInt ≤ 99) ∨ (l3_47.toInt = 3 ∧ 0 ≤ l2_47.toInt ∧ l2_47.toInt ≤ 999) ∨ (4 ≤ l3_47.toInt ∧ 0 ≤ l2_47.toInt ∧ l2_47.toInt ≤ 9999))
    (I47_3 : l3_47.toInt ≤ 4 → l2_47.toInt = (nv (tC (G.2.1 (F (F a 0) 0)) ((G.1 (F a 0) 1).toInt)) (nS (tC (G.2.1 (F (F a 0) 0)) ((G.1 (F a 0) 1).toInt)) ((G.1 a 2).toInt)) (l3_47.toInt)))
    (hm47 : 200 - ((G_47.1 a 3).toInt) < (((N47) + 1 : Nat) : Int))
    (c58 : ¬ (((G.1 (F a 0) 1).toInt) ≤ ((G_47.1 a 3).toInt)))
    (t69 : x69.toInt = (tC (G.2.1 (F (F a 0) 0)) ((G.1 (F a 0) 1).toInt) ((G_47.1 a 3).toInt)))
    (t72 : (x72.toInt = 1 ∧ 48 ≤ x69.toInt ∧ x69.toInt ≤ 57) ∨ (x72.toInt = 0 ∧ (x69.toInt < 48 ∨ 57 < x69.toInt)))
    (c75 : x72.toInt = 0)
    (c122 : ¬ (l3_47.toInt < (1 : Int)))
    (c127 : ¬ ((4 : Int) < l3_47.toInt))
    (t144 : x144.toInt = -l2_47.toInt ∨ -l2_47.toInt < -2147483648 ∨ 2147483648 ≤ -l2_47.toInt)
    (d_G149_a_1 : G149.1 a 1 = 2)
    (d_G149_a_3 : G149.1 a 3 = G_47.1 a 3)
    (d_G149_a_4 : G149.1 a 4 = x144) :
    ((G149.1 a 3).toInt) = nE (tC (G.2.1 (F (F a 0) 0)) ((G.1 (F a 0) 1).toInt)) ((G.1 a 2).toInt) ∧ ((nOk (tC (G.2.1 (F (F a 0) 0)) ((G.1 (F a 0) 1).toInt)) ((G.1 a 2).toInt) ∧ ((G149.1 a 1).toInt) = 2 ∧ ((G149.1 a 4).toInt) = nVl (tC (G.2.1 (F (F a 0) 0)) ((G.1 (F a 0) 1).toInt)) ((G.1 a 2).toInt)) ∨ (¬ nOk (tC (G.2.1 (F (F a 0) 0)) ((G.1 (F a 0) 1).toInt)) ((G.1 a 2).toInt) ∧ ((G149.1 a 1).toInt) = 3)) := by
  have hE : nE (tC (G.2.1 (F (F a 0) 0)) ((G.1 (F a 0) 1).toInt)) ((G.1 a 2).toInt) = (G_47.1 a 3).toInt := by
    unfold nE
    refine rn_eq ⟨by omega, pr, cDg_n ?_⟩
    rcases tC_f (G.2.1 (F (F a 0) 0)) ((G.1 (F a 0) 1).toInt) ((G_47.1 a 3).toInt) with h | h
    · omega
    · exact Or.inl h.2
  have nf := nS_f (tC (G.2.1 (F (F a 0) 0)) ((G.1 (F a 0) 1).toInt)) ((G.1 a 2).toInt)
  have hk : l3_47.toInt = nE (tC (G.2.1 (F (F a 0) 0)) ((G.1 (F a 0) 1).toInt)) ((G.1 a 2).toInt) - nS (tC (G.2.1 (F (F a 0) 0)) ((G.1 (F a 0) 1).toInt)) ((G.1 a 2).toInt) := by omega
  have e3 : (G149.1 a 3).toInt = (G_47.1 a 3).toInt := by rw [d_G149_a_3]
  refine ⟨by omega, ?_⟩
  by_cases q : 1 ≤ l3_47.toInt ∧ l3_47.toInt ≤ 4
  · refine Or.inl ⟨⟨by omega, by omega⟩, ?_, ?_⟩
    · rw [d_G149_a_1]
      first | rfl | decide | (exfalso; omega)
    · rw [hk] at I47_3
      rw [d_G149_a_4]
      omega
  · refine Or.inr ⟨fun h => q (by have h1 := h.1; have h2 := h.2; omega), ?_⟩
    rw [d_G149_a_1]
    first | rfl | decide | (exfalso; omega)
theorem v_X5_advanceNumber_116_16 {K : Nat → Nat} {F : Nat → Nat → Nat} (a : Nat) (G : XG) (G_47 : XG) (l3_47 : Int32) (x8 : Int32) (l2_47 : Int32) (N47 : Nat) (x69 : Int32) (x72 : Int32)
    (ha : K a = 7)
    (pr : ∀ j : Int, nS (tC (G.2.1 (F (F a 0) 0)) ((G.1 (F a 0) 1).toInt)) ((G.1 a 2).toInt) ≤ j → j < ((G_47.1 a 3).toInt) → cDg ((tC (G.2.1 (F (F a 0) 0)) ((G.1 (F a 0) 1).toInt)) j))
    (n0 : 0 ≤ ((G.1 (F a 0) 1).toInt) ∧ ((G.1 (F a 0) 1).toInt) ≤ 80)
    (s0 : 0 ≤ ((G.1 a 2).toInt) ∧ ((G.1 a 2).toInt) < ((G.1 (F a 0) 1).toInt))
    (z0 : ((tC (G.2.1 (F (F a 0) 0)) ((G.1 (F a 0) 1).toInt) ((G.1 a 2).toInt)) = 45 ∧ (nS (tC (G.2.1 (F (F a 0) 0)) ((G.1 (F a 0) 1).toInt)) ((G.1 a 2).toInt)) = ((G.1 a 2).toInt) + 1) ∨ ((tC (G.2.1 (F (F a 0) 0)) ((G.1 (F a 0) 1).toInt) ((G.1 a 2).toInt)) ≠ 45 ∧ (nS (tC (G.2.1 (F (F a 0) 0)) ((G.1 (F a 0) 1).toInt)) ((G.1 a 2).toInt)) = ((G.1 a 2).toInt)))
    (z0a : (nv (tC (G.2.1 (F (F a 0) 0)) ((G.1 (F a 0) 1).toInt)) (nS (tC (G.2.1 (F (F a 0) 0)) ((G.1 (F a 0) 1).toInt)) ((G.1 a 2).toInt)) 0) = 0)
    (t8 : x8.toInt = (tC (G.2.1 (F (F a 0) 0)) ((G.1 (F a 0) 1).toInt) ((G.1 a 2).toInt)))
    (c13 : ¬ (x8.toInt ≠ (45 : Int)))
    (I47_0 : ((G_47.1 a 3).toInt) = (nS (tC (G.2.1 (F (F a 0) 0)) ((G.1 (F a 0) 1).toInt)) ((G.1 a 2).toInt)) + l3_47.toInt)
    (I47_1 : 0 ≤ l3_47.toInt ∧ ((G_47.1 a 3).toInt) ≤ ((G.1 (F a 0) 1).toInt))
    (I47_2 : (l3_47.toInt = 0 ∧ l2_47.toInt = 0) ∨ (l3_47.toInt = 1 ∧ 0 ≤ l2_47.toInt ∧ l2_47.toInt ≤ 9) ∨ (l3_47.toInt = 2 ∧ 0 ≤ l2_47.toInt ∧ l2_47.toInt ≤ 99) ∨ (l3_47.toInt = 3 ∧ 0 ≤ l2_47.toInt ∧ l2_47.toInt ≤ 999) ∨ (4 ≤ l3_47.toInt ∧ 0 ≤ l2_47.toInt ∧ l2_47.toInt ≤ 9999))
    (I47_3 : l3_47.toInt ≤ 4 → l2_47.toInt = (nv (tC (G.2.1 (F (F a 0) 0)) ((G.1 (F a 0) 1).toInt)) (nS (tC (G.2.1 (F (F a 0) 0)) ((G.1 (F a 0) 1).toInt)) ((G.1 a 2).toInt)) (l3_47.toInt)))
    (hm47 : 200 - ((G_47.1 a 3).toInt) < (((N47) + 1 : Nat) : Int))
    (c58 : ¬ (((G.1 (F a 0) 1).toInt) ≤ ((G_47.1 a 3).toInt)))
    (t69 : x69.toInt = (tC (G.2.1 (F (F a 0) 0)) ((G.1 (F a 0) 1).toInt) ((G_47.1 a 3).toInt)))
    (t72 : (x72.toInt = 1 ∧ 48 ≤ x69.toInt ∧ x69.toInt ≤ 57) ∨ (x72.toInt = 0 ∧ (x69.toInt < 48 ∨ 57 < x69.toInt)))
    (c75 : ¬ (x72.toInt = 0))
    (z78 : (nv (tC (G.2.1 (F (F a 0) 0)) ((G.1 (F a 0) 1).toInt)) (nS (tC (G.2.1 (F (F a 0) 0)) ((G.1 (F a 0) 1).toInt)) ((G.1 a 2).toInt)) (l3_47.toInt + 1)) = 10 * (nv (tC (G.2.1 (F (F a 0) 0)) ((G.1 (F a 0) 1).toInt)) (nS (tC (G.2.1 (F (F a 0) 0)) ((G.1 (F a 0) 1).toInt)) ((G.1 a 2).toInt)) (l3_47.toInt)) + ((tC (G.2.1 (F (F a 0) 0)) ((G.1 (F a 0) 1).toInt) ((nS (tC (G.2.1 (F (F a 0) 0)) ((G.1 (F a 0) 1).toInt)) ((G.1 a 2).toInt)) + l3_47.toInt)) - 48))
    (z78a : ((G_47.1 a 3).toInt) = (nS (tC (G.2.1 (F (F a 0) 0)) ((G.1 (F a 0) 1).toInt)) ((G.1 a 2).toInt)) + l3_47.toInt → (tC (G.2.1 (F (F a 0) 0)) ((G.1 (F a 0) 1).toInt) ((nS (tC (G.2.1 (F (F a 0) 0)) ((G.1 (F a 0) 1).toInt)) ((G.1 a 2).toInt)) + l3_47.toInt)) = (tC (G.2.1 (F (F a 0) 0)) ((G.1 (F a 0) 1).toInt) ((G_47.1 a 3).toInt)))
    (c80 : (4 : Int) ≤ l3_47.toInt) :
    ∀ j : Int, nS (tC (G.2.1 (F (F a 0) 0)) ((G.1 (F a 0) 1).toInt)) ((G.1 a 2).toInt) ≤ j → j < (((G_47.1 a 3).toInt) + (1 : Int)) → cDg ((tC (G.2.1 (F (F a 0) 0)) ((G.1 (F a 0) 1).toInt)) j) := by
  intro j h1 h2
  by_cases e : j = (G_47.1 a 3).toInt
  · rw [e]; unfold cDg; omega
  · exact pr j h1 (by omega)
theorem v_X5_advanceNumber_116_17 {K : Nat → Nat} {F : Nat → Nat → Nat} (a : Nat) (G : XG) (G_47 : XG) (l2_47 : Int32) (l3_47 : Int32) (x8 : Int32) (N47 : Nat) (x69 : Int32) (x72 : Int32)
    (ha : K a = 7)
    (pr : ∀ j : Int, nS (tC (G.2.1 (F (F a 0) 0)) ((G.1 (F a 0) 1).toInt)) ((G.1 a 2).toInt) ≤ j → j < ((G_47.1 a 3).toInt) → cDg ((tC (G.2.1 (F (F a 0) 0)) ((G.1 (F a 0) 1).toInt)) j))
    (n0 : 0 ≤ ((G.1 (F a 0) 1).toInt) ∧ ((G.1 (F a 0) 1).toInt) ≤ 80)
    (s0 : 0 ≤ ((G.1 a 2).toInt) ∧ ((G.1 a 2).toInt) < ((G.1 (F a 0) 1).toInt))
    (z0 : ((tC (G.2.1 (F (F a 0) 0)) ((G.1 (F a 0) 1).toInt) ((G.1 a 2).toInt)) = 45 ∧ (nS (tC (G.2.1 (F (F a 0) 0)) ((G.1 (F a 0) 1).toInt)) ((G.1 a 2).toInt)) = ((G.1 a 2).toInt) + 1) ∨ ((tC (G.2.1 (F (F a 0) 0)) ((G.1 (F a 0) 1).toInt) ((G.1 a 2).toInt)) ≠ 45 ∧ (nS (tC (G.2.1 (F (F a 0) 0)) ((G.1 (F a 0) 1).toInt)) ((G.1 a 2).toInt)) = ((G.1 a 2).toInt)))
    (z0a : (nv (tC (G.2.1 (F (F a 0) 0)) ((G.1 (F a 0) 1).toInt)) (nS (tC (G.2.1 (F (F a 0) 0)) ((G.1 (F a 0) 1).toInt)) ((G.1 a 2).toInt)) 0) = 0)
    (t8 : x8.toInt = (tC (G.2.1 (F (F a 0) 0)) ((G.1 (F a 0) 1).toInt) ((G.1 a 2).toInt)))
    (c13 : ¬ (x8.toInt ≠ (45 : Int)))
    (I47_0 : ((G_47.1 a 3).toInt) = (nS (tC (G.2.1 (F (F a 0) 0)) ((G.1 (F a 0) 1).toInt)) ((G.1 a 2).toInt)) + l3_47.toInt)
    (I47_1 : 0 ≤ l3_47.toInt ∧ ((G_47.1 a 3).toInt) ≤ ((G.1 (F a 0) 1).toInt))
    (I47_2 : (l3_47.toInt = 0 ∧ l2_47.toInt = 0) ∨ (l3_47.toInt = 1 ∧ 0 ≤ l2_47.toInt ∧ l2_47.toInt ≤ 9) ∨ (l3_47.toInt = 2 ∧ 0 ≤ l2_47.toInt ∧ l2_47.toInt ≤ 99) ∨ (l3_47.toInt = 3 ∧ 0 ≤ l2_47.toInt ∧ l2_47.toInt ≤ 999) ∨ (4 ≤ l3_47.toInt ∧ 0 ≤ l2_47.toInt ∧ l2_47.toInt ≤ 9999))
    (I47_3 : l3_47.toInt ≤ 4 → l2_47.toInt = (nv (tC (G.2.1 (F (F a 0) 0)) ((G.1 (F a 0) 1).toInt)) (nS (tC (G.2.1 (F (F a 0) 0)) ((G.1 (F a 0) 1).toInt)) ((G.1 a 2).toInt)) (l3_47.toInt)))
    (hm47 : 200 - ((G_47.1 a 3).toInt) < (((N47) + 1 : Nat) : Int))
    (c58 : ¬ (((G.1 (F a 0) 1).toInt) ≤ ((G_47.1 a 3).toInt)))
    (t69 : x69.toInt = (tC (G.2.1 (F (F a 0) 0)) ((G.1 (F a 0) 1).toInt) ((G_47.1 a 3).toInt)))
    (t72 : (x72.toInt = 1 ∧ 48 ≤ x69.toInt ∧ x69.toInt ≤ 57) ∨ (x72.toInt = 0 ∧ (x69.toInt < 48 ∨ 57 < x69.toInt)))
    (c75 : ¬ (x72.toInt = 0))
    (z78 : (nv (tC (G.2.1 (F (F a 0) 0)) ((G.1 (F a 0) 1).toInt)) (nS (tC (G.2.1 (F (F a 0) 0)) ((G.1 (F a 0) 1).toInt)) ((G.1 a 2).toInt)) (l3_47.toInt + 1)) = 10 * (nv (tC (G.2.1 (F (F a 0) 0)) ((G.1 (F a 0) 1).toInt)) (nS (tC (G.2.1 (F (F a 0) 0)) ((G.1 (F a 0) 1).toInt)) ((G.1 a 2).toInt)) (l3_47.toInt)) + ((tC (G.2.1 (F (F a 0) 0)) ((G.1 (F a 0) 1).toInt) ((nS (tC (G.2.1 (F (F a 0) 0)) ((G.1 (F a 0) 1).toInt)) ((G.1 a 2).toInt)) + l3_47.toInt)) - 48))
    (z78a : ((G_47.1 a 3).toInt) = (nS (tC (G.2.1 (F (F a 0) 0)) ((G.1 (F a 0) 1).toInt)) ((G.1 a 2).toInt)) + l3_47.toInt → (tC (G.2.1 (F (F a 0) 0)) ((G.1 (F a 0) 1).toInt) ((nS (tC (G.2.1 (F (F a 0) 0)) ((G.1 (F a 0) 1).toInt)) ((G.1 a 2).toInt)) + l3_47.toInt)) = (tC (G.2.1 (F (F a 0) 0)) ((G.1 (F a 0) 1).toInt) ((G_47.1 a 3).toInt)))
    (c80 : ¬ ((4 : Int) ≤ l3_47.toInt)) :
    ∀ j : Int, nS (tC (G.2.1 (F (F a 0) 0)) ((G.1 (F a 0) 1).toInt)) ((G.1 a 2).toInt) ≤ j → j < (((G_47.1 a 3).toInt) + (1 : Int)) → cDg ((tC (G.2.1 (F (F a 0) 0)) ((G.1 (F a 0) 1).toInt)) j) := by
  intro j h1 h2
  by_cases e : j = (G_47.1 a 3).toInt
  · rw [e]; unfold cDg; omega
  · exact pr j h1 (by omega)
theorem v_X5_advanceNumber_44_18 {K : Nat → Nat} {F : Nat → Nat → Nat} (a : Nat) (G : XG) (x8 : Int32)
    (ha : K a = 7)
    (n0 : 0 ≤ ((G.1 (F a 0) 1).toInt) ∧ ((G.1 (F a 0) 1).toInt) ≤ 80)
    (s0 : 0 ≤ ((G.1 a 2).toInt) ∧ ((G.1 a 2).toInt) < ((G.1 (F a 0) 1).toInt))
    (z0 : ((tC (G.2.1 (F (F a 0) 0)) ((G.1 (F a 0) 1).toInt) ((G.1 a 2).toInt)) = 45 ∧ (nS (tC (G.2.1 (F (F a 0) 0)) ((G.1 (F a 0) 1).toInt)) ((G.1 a 2).toInt)) = ((G.1 a 2).toInt) + 1) ∨ ((tC (G.2.1 (F (F a 0) 0)) ((G.1 (F a 0) 1).toInt) ((G.1 a 2).toInt)) ≠ 45 ∧ (nS (tC (G.2.1 (F (F a 0) 0)) ((G.1 (F a 0) 1).toInt)) ((G.1 a 2).toInt)) = ((G.1 a 2).toInt)))
    (z0a : (nv (tC (G.2.1 (F (F a 0) 0)) ((G.1 (F a 0) 1).toInt)) (nS (tC (G.2.1 (F (F a 0) 0)) ((G.1 (F a 0) 1).toInt)) ((G.1 a 2).toInt)) 0) = 0)
    (t8 : x8.toInt = (tC (G.2.1 (F (F a 0) 0)) ((G.1 (F a 0) 1).toInt) ((G.1 a 2).toInt)))
    (c13 : ¬ (x8.toInt ≠ (45 : Int))) :
    ∀ j : Int, nS (tC (G.2.1 (F (F a 0) 0)) ((G.1 (F a 0) 1).toInt)) ((G.1 a 2).toInt) ≤ j → j < (((G.1 a 2).toInt) + (1 : Int)) → cDg ((tC (G.2.1 (F (F a 0) 0)) ((G.1 (F a 0) 1).toInt)) j) := by
  intro j h1 h2; exact absurd h1 (by omega)
theorem v_X5_advance_109_1 {K : Nat → Nat} {F : Nat → Nat → Nat} (a : Nat) (G : XG) (G_8 : XG) (G56 : XG) (G106 : XG) (N8 : Nat) (x89 : Int32) (x92 : Int32)
    (ha : K a = 7)
    (pr : ∀ j : Int, (G.1 a 3).toInt ≤ j → j < ((G_8.1 a 2).toInt) → cBl ((tC (G.2.1 (F (F a 0) 0)) ((G.1 (F a 0) 1).toInt)) j))
    (oq106 : ((G106.1 a 3).toInt) = nE (tC (G.2.1 (F (F a 0) 0)) ((G.1 (F a 0) 1).toInt)) ((G_8.1 a 2).toInt) ∧ ((nOk (tC (G.2.1 (F (F a 0) 0)) ((G.1 (F a 0) 1).toInt)) ((G_8.1 a 2).toInt) ∧ ((G106.1 a 1).toInt) = 2 ∧ ((G106.1 a 4).toInt) = nVl (tC (G.2.1 (F (F a 0) 0)) ((G.1 (F a 0) 1).toInt)) ((G_8.1 a 2).toInt)) ∨ (¬ nOk (tC (G.2.1 (F (F a 0) 0)) ((G.1 (F a 0) 1).toInt)) ((G_8.1 a 2).toInt) ∧ ((G106.1 a 1).toInt) = 3)))
    (n0 : 0 ≤ ((G.1 (F a 0) 1).toInt) ∧ ((G.1 (F a 0) 1).toInt) ≤ 80)
    (s0 : 0 ≤ ((G.1 a 3).toInt) ∧ ((G.1 a 3).toInt) ≤ ((G.1 (F a 0) 1).toInt))
    (I8_0 : ((G.1 a 3).toInt) ≤ ((G_8.1 a 2).toInt) ∧ ((G_8.1 a 2).toInt) ≤ ((G.1 (F a 0) 1).toInt))
    (hm8 : 200 - ((G_8.1 a 2).toInt) < (((N8) + 1 : Nat) : Int))
    (c19 : ((G.1 (F a 0) 1).toInt) ≤ ((G_8.1 a 2).toInt))
    (c70 : ((G_8.1 a 2).toInt) < ((G.1 (F a 0) 1).toInt))
    (t89 : x89.toInt = (tC (G.2.1 (F (F a 0) 0)) ((G.1 (F a 0) 1).toInt) ((G_8.1 a 2).toInt)))
    (t92 : (x92.toInt = 1 ∧ 97 ≤ x89.toInt ∧ x89.toInt ≤ 122) ∨ (x92.toInt = 0 ∧ (x89.toInt < 97 ∨ 122 < x89.toInt)))
    (c95 : x92.toInt = 0)
    (t106 : 0 ≤ ((G106.1 a 3).toInt) ∧ ((G106.1 a 3).toInt) ≤ ((G.1 (F a 0) 1).toInt))
    (d_G106_a_2 : G106.1 a 2 = G_8.1 a 2)
    (d_G56_a_2 : G56.1 a 2 = G_8.1 a 2) :
    ((G106.1 a 2).toInt) = rn cBl (tC (G.2.1 (F (F a 0) 0)) ((G.1 (F a 0) 1).toInt)) ((G.1 a 3).toInt) ∧ TokI (tC (G.2.1 (F (F a 0) 0)) ((G.1 (F a 0) 1).toInt)) ((G.1 (F a 0) 1).toInt) ((G106.1 a 1).toInt) ((G106.1 a 2).toInt) ((G106.1 a 3).toInt) ((G106.1 a 4).toInt) := by
  have hb : ¬ cBl ((tC (G.2.1 (F (F a 0) 0)) ((G.1 (F a 0) 1).toInt)) ((G_8.1 a 2).toInt)) := by
    have := tC_f (G.2.1 (F (F a 0) 0)) ((G.1 (F a 0) 1).toInt) ((G_8.1 a 2).toInt)
    show ¬ (_ = (32 : Int))
    omega
  have hr : (G_8.1 a 2).toInt = rn cBl (tC (G.2.1 (F (F a 0) 0)) ((G.1 (F a 0) 1).toInt)) ((G.1 a 3).toInt) := (rn_eq ⟨by omega, pr, hb⟩).symm
  rw [d_G106_a_2]
  refine ⟨hr, hb, fun h => absurd h (by omega), fun _ h => absurd h (cLt_n (by omega)), fun _ _ => ?_⟩
  first
    | exact oq106
    | (rw [d_G56_a_2] at oq106; exact oq106)
theorem v_X5_advance_109_2 {K : Nat → Nat} {F : Nat → Nat → Nat} (a : Nat) (G : XG) (G_8 : XG) (G56 : XG) (G99 : XG) (N8 : Nat) (x89 : Int32) (x92 : Int32)
    (ha : K a = 7)
    (pr : ∀ j : Int, (G.1 a 3).toInt ≤ j → j < ((G_8.1 a 2).toInt) → cBl ((tC (G.2.1 (F (F a 0) 0)) ((G.1 (F a 0) 1).toInt)) j))
    (oq99 : ((G99.1 a 3).toInt) = rn cLt (tC (G.2.1 (F (F a 0) 0)) ((G.1 (F a 0) 1).toInt)) ((G56.1 a 3).toInt))
    (n0 : 0 ≤ ((G.1 (F a 0) 1).toInt) ∧ ((G.1 (F a 0) 1).toInt) ≤ 80)
    (s0 : 0 ≤ ((G.1 a 3).toInt) ∧ ((G.1 a 3).toInt) ≤ ((G.1 (F a 0) 1).toInt))
    (I8_0 : ((G.1 a 3).toInt) ≤ ((G_8.1 a 2).toInt) ∧ ((G_8.1 a 2).toInt) ≤ ((G.1 (F a 0) 1).toInt))
    (hm8 : 200 - ((G_8.1 a 2).toInt) < (((N8) + 1 : Nat) : Int))
    (c19 : ((G.1 (F a 0) 1).toInt) ≤ ((G_8.1 a 2).toInt))
    (c70 : ((G_8.1 a 2).toInt) < ((G.1 (F a 0) 1).toInt))
    (t89 : x89.toInt = (tC (G.2.1 (F (F a 0) 0)) ((G.1 (F a 0) 1).toInt) ((G_8.1 a 2).toInt)))
    (t92 : (x92.toInt = 1 ∧ 97 ≤ x89.toInt ∧ x89.toInt ≤ 122) ∨ (x92.toInt = 0 ∧ (x89.toInt < 97 ∨ 122 < x89.toInt)))
    (c95 : ¬ (x92.toInt = 0))
    (t99 : ((G99.1 a 1).toInt) = 1 ∧ ((G_8.1 a 2).toInt) ≤ ((G99.1 a 3).toInt) ∧ ((G99.1 a 3).toInt) ≤ ((G.1 (F a 0) 1).toInt))
    (d_G56_a_3 : G56.1 a 3 = (G_8.1 a 2))
    (d_G99_a_2 : G99.1 a 2 = G_8.1 a 2) :
    ((G99.1 a 2).toInt) = rn cBl (tC (G.2.1 (F (F a 0) 0)) ((G.1 (F a 0) 1).toInt)) ((G.1 a 3).toInt) ∧ TokI (tC (G.2.1 (F (F a 0) 0)) ((G.1 (F a 0) 1).toInt)) ((G.1 (F a 0) 1).toInt) ((G99.1 a 1).toInt) ((G99.1 a 2).toInt) ((G99.1 a 3).toInt) ((G99.1 a 4).toInt) := by
  have hb : ¬ cBl ((tC (G.2.1 (F (F a 0) 0)) ((G.1 (F a 0) 1).toInt)) ((G_8.1 a 2).toInt)) := by
    have := tC_f (G.2.1 (F (F a 0) 0)) ((G.1 (F a 0) 1).toInt) ((G_8.1 a 2).toInt)
    show ¬ (_ = (32 : Int))
    omega
  have hr : (G_8.1 a 2).toInt = rn cBl (tC (G.2.1 (F (F a 0) 0)) ((G.1 (F a 0) 1).toInt)) ((G.1 a 3).toInt) := (rn_eq ⟨by omega, pr, hb⟩).symm
  rw [d_G56_a_3] at oq99
  rw [d_G99_a_2]
  exact ⟨hr, hb, fun h => absurd h (by omega), fun _ _ => ⟨by omega, oq99⟩, fun _ h => absurd (show cLt _ from ⟨by omega, by omega⟩) h⟩
theorem v_X5_advance_109_3 {K : Nat → Nat} {F : Nat → Nat → Nat} (a : Nat) (G : XG) (G_8 : XG) (G75 : XG) (N8 : Nat)
    (ha : K a = 7)
    (pr : ∀ j : Int, (G.1 a 3).toInt ≤ j → j < ((G_8.1 a 2).toInt) → cBl ((tC (G.2.1 (F (F a 0) 0)) ((G.1 (F a 0) 1).toInt)) j))
    (n0 : 0 ≤ ((G.1 (F a 0) 1).toInt) ∧ ((G.1 (F a 0) 1).toInt) ≤ 80)
    (s0 : 0 ≤ ((G.1 a 3).toInt) ∧ ((G.1 a 3).toInt) ≤ ((G.1 (F a 0) 1).toInt))
    (I8_0 : ((G.1 a 3).toInt) ≤ ((G_8.1 a 2).toInt) ∧ ((G_8.1 a 2).toInt) ≤ ((G.1 (F a 0) 1).toInt))
    (hm8 : 200 - ((G_8.1 a 2).toInt) < (((N8) + 1 : Nat) : Int))
    (c19 : ((G.1 (F a 0) 1).toInt) ≤ ((G_8.1 a 2).toInt))
    (c70 : ¬ (((G_8.1 a 2).toInt) < ((G.1 (F a 0) 1).toInt)))
    (d_G75_a_1 : G75.1 a 1 = 0)
    (d_G75_a_2 : G75.1 a 2 = G_8.1 a 2) :
    ((G75.1 a 2).toInt) = rn cBl (tC (G.2.1 (F (F a 0) 0)) ((G.1 (F a 0) 1).toInt)) ((G.1 a 3).toInt) ∧ TokI (tC (G.2.1 (F (F a 0) 0)) ((G.1 (F a 0) 1).toInt)) ((G.1 (F a 0) 1).toInt) ((G75.1 a 1).toInt) ((G75.1 a 2).toInt) ((G75.1 a 3).toInt) ((G75.1 a 4).toInt) := by
  have hb : ¬ cBl ((tC (G.2.1 (F (F a 0) 0)) ((G.1 (F a 0) 1).toInt)) ((G_8.1 a 2).toInt)) := by
    have := tC_f (G.2.1 (F (F a 0) 0)) ((G.1 (F a 0) 1).toInt) ((G_8.1 a 2).toInt)
    show ¬ (_ = (32 : Int))
    omega
  have hr : (G_8.1 a 2).toInt = rn cBl (tC (G.2.1 (F (F a 0) 0)) ((G.1 (F a 0) 1).toInt)) ((G.1 a 3).toInt) := (rn_eq ⟨by omega, pr, hb⟩).symm
  rw [d_G75_a_2, d_G75_a_1]
  exact ⟨hr, hb, fun _ => by decide, fun h => absurd h (by omega), fun h => absurd h (by omega)⟩
theorem v_X5_advance_109_4 {K : Nat → Nat} {F : Nat → Nat → Nat} (a : Nat) (G : XG) (G_8 : XG) (G56 : XG) (G106 : XG) (N8 : Nat) (x30 : Int32) (x89 : Int32) (x92 : Int32)
    (ha : K a = 7)
    (pr : ∀ j : Int, (G.1 a 3).toInt ≤ j → j < ((G_8.1 a 2).toInt) → cBl ((tC (G.2.1 (F (F a 0) 0)) ((G.1 (F a 0) 1).toInt)) j))
    (oq106 : ((G106.1 a 3).toInt) = nE (tC (G.2.1 (F (F a 0) 0)) ((G.1 (F a 0) 1).toInt)) ((G_8.1 a 2).toInt) ∧ ((nOk (tC (G.2.1 (F (F a 0) 0)) ((G.1 (F a 0) 1).toInt)) ((G_8.1 a 2).toInt) ∧ ((G106.1 a 1).toInt) = 2 ∧ ((G106.1 a 4).toInt) = nVl (tC (G.2.1 (F (F a 0) 0)) ((G.1 (F a 0) 1).toInt)) ((G_8.1 a 2).toInt)) ∨ (¬ nOk (tC (G.2.1 (F (F a 0) 0)) ((G.1 (F a 0) 1).toInt)) ((G_8.1 a 2).toInt) ∧ ((G106.1 a 1).toInt) = 3)))
    (n0 : 0 ≤ ((G.1 (F a 0) 1).toInt) ∧ ((G.1 (F a 0) 1).toInt) ≤ 80)
    (s0 : 0 ≤ ((G.1 a 3).toInt) ∧ ((G.1 a 3).toInt) ≤ ((G.1 (F a 0) 1).toInt))
    (I8_0 : ((G.1 a 3).toInt) ≤ ((G_8.1 a 2).toInt) ∧ ((G_8.1 a 2).toInt) ≤ ((G.1 (F a 0) 1).toInt))
    (hm8 : 200 - ((G_8.1 a 2).toInt) < (((N8) + 1 : Nat) : Int))
    (c19 : ¬ (((G.1 (F a 0) 1).toInt) ≤ ((G_8.1 a 2).toInt)))
    (t30 : x30.toInt = (tC (G.2.1 (F (F a 0) 0)) ((G.1 (F a 0) 1).toInt) ((G_8.1 a 2).toInt)))
    (c35 : x30.toInt ≠ (32 : Int))
    (c70 : ((G_8.1 a 2).toInt) < ((G.1 (F a 0) 1).toInt))
    (t89 : x89.toInt = (tC (G.2.1 (F (F a 0) 0)) ((G.1 (F a 0) 1).toInt) ((G_8.1 a 2).toInt)))
    (t92 : (x92.toInt = 1 ∧ 97 ≤ x89.toInt ∧ x89.toInt ≤ 122) ∨ (x92.toInt = 0 ∧ (x89.toInt < 97 ∨ 122 < x89.toInt)))
    (c95 : x92.toInt = 0)
    (t106 : 0 ≤ ((G106.1 a 3).toInt) ∧ ((G106.1 a 3).toInt) ≤ ((G.1 (F a 0) 1).toInt))
    (d_G106_a_2 : G106.1 a 2 = G_8.1 a 2)
    (d_G56_a_2 : G56.1 a 2 = G_8.1 a 2) :
    ((G106.1 a 2).toInt) = rn cBl (tC (G.2.1 (F (F a 0) 0)) ((G.1 (F a 0) 1).toInt)) ((G.1 a 3).toInt) ∧ TokI (tC (G.2.1 (F (F a 0) 0)) ((G.1 (F a 0) 1).toInt)) ((G.1 (F a 0) 1).toInt) ((G106.1 a 1).toInt) ((G106.1 a 2).toInt) ((G106.1 a 3).toInt) ((G106.1 a 4).toInt) := by
  have hb : ¬ cBl ((tC (G.2.1 (F (F a 0) 0)) ((G.1 (F a 0) 1).toInt)) ((G_8.1 a 2).toInt)) := by
    have := tC_f (G.2.1 (F (F a 0) 0)) ((G.1 (F a 0) 1).toInt) ((G_8.1 a 2).toInt)
    show ¬ (_ = (32 : Int))
    omega
  have hr : (G_8.1 a 2).toInt = rn cBl (tC (G.2.1 (F (F a 0) 0)) ((G.1 (F a 0) 1).toInt)) ((G.1 a 3).toInt) := (rn_eq ⟨by omega, pr, hb⟩).symm
  rw [d_G106_a_2]
  refine ⟨hr, hb, fun h => absurd h (by omega), fun _ h => absurd h (cLt_n (by omega)), fun _ _ => ?_⟩
  first
    | exact oq106
    | (rw [d_G56_a_2] at oq106; exact oq106)
theorem v_X5_advance_109_5 {K : Nat → Nat} {F : Nat → Nat → Nat} (a : Nat) (G : XG) (G_8 : XG) (G56 : XG) (G99 : XG) (N8 : Nat) (x30 : Int32) (x89 : Int32) (x92 : Int32)
    (ha : K a = 7)
    (pr : ∀ j : Int, (G.1 a 3).toInt ≤ j → j < ((G_8.1 a 2).toInt) → cBl ((tC (G.2.1 (F (F a 0) 0)) ((G.1 (F a 0) 1).toInt)) j))
    (oq99 : ((G99.1 a 3).toInt) = rn cLt (tC (G.2.1 (F (F a 0) 0)) ((G.1 (F a 0) 1).toInt)) ((G56.1 a 3).toInt))
    (n0 : 0 ≤ ((G.1 (F a 0) 1).toInt) ∧ ((G.1 (F a 0) 1).toInt) ≤ 80)
    (s0 : 0 ≤ ((G.1 a 3).toInt) ∧ ((G.1 a 3).toInt) ≤ ((G.1 (F a 0) 1).toInt))
    (I8_0 : ((G.1 a 3).toInt) ≤ ((G_8.1 a 2).toInt) ∧ ((G_8.1 a 2).toInt) ≤ ((G.1 (F a 0) 1).toInt))
    (hm8 : 200 - ((G_8.1 a 2).toInt) < (((N8) + 1 : Nat) : Int))
    (c19 : ¬ (((G.1 (F a 0) 1).toInt) ≤ ((G_8.1 a 2).toInt)))
    (t30 : x30.toInt = (tC (G.2.1 (F (F a 0) 0)) ((G.1 (F a 0) 1).toInt) ((G_8.1 a 2).toInt)))
    (c35 : x30.toInt ≠ (32 : Int))
    (c70 : ((G_8.1 a 2).toInt) < ((G.1 (F a 0) 1).toInt))
    (t89 : x89.toInt = (tC (G.2.1 (F (F a 0) 0)) ((G.1 (F a 0) 1).toInt) ((G_8.1 a 2).toInt)))
    (t92 : (x92.toInt = 1 ∧ 97 ≤ x89.toInt ∧ x89.toInt ≤ 122) ∨ (x92.toInt = 0 ∧ (x89.toInt < 97 ∨ 122 < x89.toInt)))
    (c95 : ¬ (x92.toInt = 0))
    (t99 : ((G99.1 a 1).toInt) = 1 ∧ ((G_8.1 a 2).toInt) ≤ ((G99.1 a 3).toInt) ∧ ((G99.1 a 3).toInt) ≤ ((G.1 (F a 0) 1).toInt))
    (d_G56_a_3 : G56.1 a 3 = (G_8.1 a 2))
    (d_G99_a_2 : G99.1 a 2 = G_8.1 a 2) :
    ((G99.1 a 2).toInt) = rn cBl (tC (G.2.1 (F (F a 0) 0)) ((G.1 (F a 0) 1).toInt)) ((G.1 a 3).toInt) ∧ TokI (tC (G.2.1 (F (F a 0) 0)) ((G.1 (F a 0) 1).toInt)) ((G.1 (F a 0) 1).toInt) ((G99.1 a 1).toInt) ((G99.1 a 2).toInt) ((G99.1 a 3).toInt) ((G99.1 a 4).toInt) := by
  have hb : ¬ cBl ((tC (G.2.1 (F (F a 0) 0)) ((G.1 (F a 0) 1).toInt)) ((G_8.1 a 2).toInt)) := by
    have := tC_f (G.2.1 (F (F a 0) 0)) ((G.1 (F a 0) 1).toInt) ((G_8.1 a 2).toInt)
    show ¬ (_ = (32 : Int))
    omega
  have hr : (G_8.1 a 2).toInt = rn cBl (tC (G.2.1 (F (F a 0) 0)) ((G.1 (F a 0) 1).toInt)) ((G.1 a 3).toInt) := (rn_eq ⟨by omega, pr, hb⟩).symm
  rw [d_G56_a_3] at oq99
  rw [d_G99_a_2]
  exact ⟨hr, hb, fun h => absurd h (by omega), fun _ _ => ⟨by omega, oq99⟩, fun _ h => absurd (show cLt _ from ⟨by omega, by omega⟩) h⟩
theorem v_X5_advance_109_6 {K : Nat → Nat} {F : Nat → Nat → Nat} (a : Nat) (G : XG) (G_8 : XG) (G75 : XG) (N8 : Nat) (x30 : Int32)
    (ha : K a = 7)
    (pr : ∀ j : Int, (G.1 a 3).toInt ≤ j → j < ((G_8.1 a 2).toInt) → cBl ((tC (G.2.1 (F (F a 0) 0)) ((G.1 (F a 0) 1).toInt)) j))
    (n0 : 0 ≤ ((G.1 (F a 0) 1).toInt) ∧ ((G.1 (F a 0) 1).toInt) ≤ 80)
    (s0 : 0 ≤ ((G.1 a 3).toInt) ∧ ((G.1 a 3).toInt) ≤ ((G.1 (F a 0) 1).toInt))
    (I8_0 : ((G.1 a 3).toInt) ≤ ((G_8.1 a 2).toInt) ∧ ((G_8.1 a 2).toInt) ≤ ((G.1 (F a 0) 1).toInt))
    (hm8 : 200 - ((G_8.1 a 2).toInt) < (((N8) + 1 : Nat) : Int))
    (c19 : ¬ (((G.1 (F a 0) 1).toInt) ≤ ((G_8.1 a 2).toInt)))
    (t30 : x30.toInt = (tC (G.2.1 (F (F a 0) 0)) ((G.1 (F a 0) 1).toInt) ((G_8.1 a 2).toInt)))
    (c35 : x30.toInt ≠ (32 : Int))
    (c70 : ¬ (((G_8.1 a 2).toInt) < ((G.1 (F a 0) 1).toInt)))
    (d_G75_a_1 : G75.1 a 1 = 0)
    (d_G75_a_2 : G75.1 a 2 = G_8.1 a 2) :
    ((G75.1 a 2).toInt) = rn cBl (tC (G.2.1 (F (F a 0) 0)) ((G.1 (F a 0) 1).toInt)) ((G.1 a 3).toInt) ∧ TokI (tC (G.2.1 (F (F a 0) 0)) ((G.1 (F a 0) 1).toInt)) ((G.1 (F a 0) 1).toInt) ((G75.1 a 1).toInt) ((G75.1 a 2).toInt) ((G75.1 a 3).toInt) ((G75.1 a 4).toInt) := by
  have hb : ¬ cBl ((tC (G.2.1 (F (F a 0) 0)) ((G.1 (F a 0) 1).toInt)) ((G_8.1 a 2).toInt)) := by
    have := tC_f (G.2.1 (F (F a 0) 0)) ((G.1 (F a 0) 1).toInt) ((G_8.1 a 2).toInt)
    show ¬ (_ = (32 : Int))
    omega
  have hr : (G_8.1 a 2).toInt = rn cBl (tC (G.2.1 (F (F a 0) 0)) ((G.1 (F a 0) 1).toInt)) ((G.1 a 3).toInt) := (rn_eq ⟨by omega, pr, hb⟩).symm
  rw [d_G75_a_2, d_G75_a_1]
  exact ⟨hr, hb, fun _ => by decide, fun h => absurd h (by omega), fun h => absurd h (by omega)⟩
theorem v_X5_advance_48_7 {K : Nat → Nat} {F : Nat → Nat → Nat} (a : Nat) (G : XG) (G_8 : XG) (N8 : Nat) (x30 : Int32)
    (ha : K a = 7)
    (pr : ∀ j : Int, (G.1 a 3).toInt ≤ j → j < ((G_8.1 a 2).toInt) → cBl ((tC (G.2.1 (F (F a 0) 0)) ((G.1 (F a 0) 1).toInt)) j))
    (n0 : 0 ≤ ((G.1 (F a 0) 1).toInt) ∧ ((G.1 (F a 0) 1).toInt) ≤ 80)
    (s0 : 0 ≤ ((G.1 a 3).toInt) ∧ ((G.1 a 3).toInt) ≤ ((G.1 (F a 0) 1).toInt))
    (I8_0 : ((G.1 a 3).toInt) ≤ ((G_8.1 a 2).toInt) ∧ ((G_8.1 a 2).toInt) ≤ ((G.1 (F a 0) 1).toInt))
    (hm8 : 200 - ((G_8.1 a 2).toInt) < (((N8) + 1 : Nat) : Int))
    (c19 : ¬ (((G.1 (F a 0) 1).toInt) ≤ ((G_8.1 a 2).toInt)))
    (t30 : x30.toInt = (tC (G.2.1 (F (F a 0) 0)) ((G.1 (F a 0) 1).toInt) ((G_8.1 a 2).toInt)))
    (c35 : ¬ (x30.toInt ≠ (32 : Int))) :
    ∀ j : Int, (G.1 a 3).toInt ≤ j → j < (((G_8.1 a 2).toInt) + (1 : Int)) → cBl ((tC (G.2.1 (F (F a 0) 0)) ((G.1 (F a 0) 1).toInt)) j) := by
  intro j h1 h2
  by_cases e : j = (G_8.1 a 2).toInt
  · rw [e]; show _ = (32 : Int); omega
  · exact pr j h1 (by omega)
theorem v_X5_advance_5_8 {K : Nat → Nat} {F : Nat → Nat → Nat} (a : Nat) (G : XG)
    (ha : K a = 7)
    (n0 : 0 ≤ ((G.1 (F a 0) 1).toInt) ∧ ((G.1 (F a 0) 1).toInt) ≤ 80)
    (s0 : 0 ≤ ((G.1 a 3).toInt) ∧ ((G.1 a 3).toInt) ≤ ((G.1 (F a 0) 1).toInt)) :
    ∀ j : Int, (G.1 a 3).toInt ≤ j → j < ((G.1 a 3).toInt) → cBl ((tC (G.2.1 (F (F a 0) 0)) ((G.1 (F a 0) 1).toInt)) j) := by
  intro j h1 h2; exact absurd h1 (by omega)
theorem z_X8_length_1 (a0 : Int) : a0 = a0 := by omega
abbrev rm_X8_length : Room := { frames := 0, cells := 0, slots := 0, locals := 0 }
set_option maxHeartbeats 4000000 in
set_option maxRecDepth 100000 in
theorem c_X8_length (l : Launch) (E : XE) (K : Nat → Nat) (F : Nat → Nat → Nat) (G : XG) (h0 : Heap) (a : Nat) (ha : K a = 10) : Met l yX8_length (xw yX8_length cX8_length 1 (some .int)) rm_X8_length (va_Pc [.ref a] (XPh E K F G h0)) (XQ E (fun v (u : Unit) => ∃ r : Int32, v = .int r ∧ (r.toInt = ((G.1 a 1).toInt))) (fun _ H => H = h0)) 0 0 (xA E) := by
  refine x_enter (by decide) (Nat.le_of_ble_eq_true rfl) ?_
  intro p e s m args below meth c Q S hr hlk hnm hQ hP ls hl
  obtain ⟨⟨hz, hK, hT⟩, hh⟩ := hP
  obtain ⟨hx, hb, -, -, -⟩ := id S
  have hS : va_S (xA E) s.heap s.heap [] := va_S.rf
  have hl : lv_has ls 1 [(0, .ref a)] := hl
  refine lv_aload_n hx hb dX8_length_0 rfl (lv_at hl 0 rfl) ?_
  refine gX8_1 S hK hT ha kf_X8_13 dX8_length_1 (v := (G.1 a 1)) rfl (?_)
  exact x_ri hx hb hr hlk hQ (Nat.le_of_ble_eq_true rfl) (Nat.le_of_ble_eq_true rfl) hS dX8_length_4 () ⟨_, rfl, (z_X8_length_1 ((G.1 a 1).toInt))⟩ hh

theorem z_X8_signAt_1 (a0 : Int) (a1 : Int) (a2 : Int) (a3 : Int) (h0 : ((0 ≤ a0 ∧ a0 < a1) ∧ a3 = a2) ∨ (¬ (0 ≤ a0 ∧ a0 < a1) ∧ a3 = 0)) (h1 : a0 < 0) : (0 : Int) = a3 := by omega
theorem z_X8_signAt_2 (a0 : Int) (a1 : Int) (a2 : Int) (a3 : Int) (h0 : ((0 ≤ a0 ∧ a0 < a1) ∧ a3 = a2) ∨ (¬ (0 ≤ a0 ∧ a0 < a1) ∧ a3 = 0)) (h1 : a1 ≤ a0) : (0 : Int) = a3 := by omega
theorem z_X8_signAt_3 (a0 : Int) (a1 : Int) (a2 : Int) (h0 : 0 ≤ a1 ∧ a1 ≤ 80) (h1 : ¬ (a1 ≤ a0)) (h2 : (80 : Int) ≤ a0) : (0 : Int) = a2 := by omega
theorem z_X8_signAt_4 (a0 : Int) (h0 : ¬ (a0 < 0)) (h1 : ¬ ((80 : Int) ≤ a0)) : 0 ≤ a0 ∧ a0 < ((80 : Nat) : Int) := by omega
theorem z_X8_signAt_5 (a0 : Int) (a1 : Int) (a2 : Int) (a3 : Int) (h0 : ((0 ≤ a0 ∧ a0 < a1) ∧ a3 = a2) ∨ (¬ (0 ≤ a0 ∧ a0 < a1) ∧ a3 = 0)) (h1 : ¬ (a0 < 0)) (h2 : ¬ (a1 ≤ a0)) : a2 = a3 := by omega
abbrev rm_X8_signAt : Room := { frames := 0, cells := 0, slots := 0, locals := 0 }
set_option maxHeartbeats 4000000 in
set_option maxRecDepth 100000 in
theorem c_X8_signAt (l : Launch) (E : XE) (K : Nat → Nat) (F : Nat → Nat → Nat) (G : XG) (h0 : Heap) (a : Nat) (p0 : Int32) (ha : K a = 10) (n0 : 0 ≤ ((G.1 a 1).toInt) ∧ ((G.1 a 1).toInt) ≤ 80) : Met l yX8_signAt (xw yX8_signAt cX8_signAt 2 (some .char)) rm_X8_signAt (va_Pc [.ref a, .int p0] (XPh E K F G h0)) (XQ E (fun v (u : Unit) => ∃ r : Int32, v = .int r ∧ xok 1 r ∧ (r.toInt = (tC (G.2.1 (F a 0)) ((G.1 a 1).toInt) (p0.toInt)))) (fun _ H => H = h0)) 0 0 (xA E) := by
  refine x_enter (by decide) (Nat.le_of_ble_eq_true rfl) ?_
  intro p e s m args below meth c Q S hr hlk hnm hQ hP ls hl
  obtain ⟨⟨hz, hK, hT⟩, hh⟩ := hP
  obtain ⟨hx, hb, -, -, -⟩ := id S
  have hS : va_S (xA E) s.heap s.heap [] := va_S.rf
  have hl : lv_has ls 2 [(0, .ref a), (1, .int p0)] := hl
  obtain ⟨hk9999, hj9999⟩ := fkX8_0 hT ha
  have z0 : ((0 ≤ p0.toInt ∧ p0.toInt < ((G.1 a 1).toInt)) ∧ (tC (G.2.1 (F a 0)) ((G.1 a 1).toInt) (p0.toInt)) = (aI (G.2.1 (F a 0)) (p0.toInt))) ∨ (¬ (0 ≤ p0.toInt ∧ p0.toInt < ((G.1 a 1).toInt)) ∧ (tC (G.2.1 (F a 0)) ((G.1 a 1).toInt) (p0.toInt)) = 0) := tC_f _ _ _
  refine lv_iload_n hx hb dX8_signAt_0 rfl (lv_at hl 1 rfl) ?_
  refine xi_zlt (tgt := 27) hx hb (rfl : Int32.toInt p0 = p0.toInt) dX8_signAt_1 (by decide) (fun c1 => ?_) (fun c1 => ?_)
  · refine lv_iconst (v := 0) hx hb dX8_signAt_27 (by decide) ?_
    exact x_rz hx hb hr rfl hlk hQ (Nat.le_of_ble_eq_true rfl) (Nat.le_of_ble_eq_true rfl) hS dX8_signAt_28 () ⟨_, rfl, rfl, (z_X8_signAt_1 p0.toInt ((G.1 a 1).toInt) (aI (G.2.1 (F a 0)) (p0.toInt)) (tC (G.2.1 (F a 0)) ((G.1 a 1).toInt) (p0.toInt)) z0 c1)⟩ hh
  · refine lv_iload_n hx hb dX8_signAt_4 rfl (lv_at hl 1 rfl) ?_
    refine lv_aload_n hx hb dX8_signAt_5 rfl (lv_at hl 0 rfl) ?_
    refine gX8_1 S hK hT ha kf_X8_13 dX8_signAt_6 (v := (G.1 a 1)) rfl (?_)
    refine xi_cge (tgt := 27) hx hb (rfl : Int32.toInt p0 = p0.toInt) (rfl : Int32.toInt (G.1 a 1) = ((G.1 a 1).toInt)) dX8_signAt_9 (by decide) (fun c9 => ?_) (fun c9 => ?_)
    · refine lv_iconst (v := 0) hx hb dX8_signAt_27 (by decide) ?_
      exact x_rz hx hb hr rfl hlk hQ (Nat.le_of_ble_eq_true rfl) (Nat.le_of_ble_eq_true rfl) hS dX8_signAt_28 () ⟨_, rfl, rfl, (z_X8_signAt_2 p0.toInt ((G.1 a 1).toInt) (aI (G.2.1 (F a 0)) (p0.toInt)) (tC (G.2.1 (F a 0)) ((G.1 a 1).toInt) (p0.toInt)) z0 c9)⟩ hh
    · refine lv_iload_n hx hb dX8_signAt_12 rfl (lv_at hl 1 rfl) ?_
      refine lv_bipush (v := 80) hx hb dX8_signAt_13 (by decide) ?_
      refine xi_cge (tgt := 27) hx hb (rfl : Int32.toInt p0 = p0.toInt) ((by decide) : Int32.toInt 80 = (80 : Int)) dX8_signAt_15 (by decide) (fun c15 => ?_) (fun c15 => ?_)
      · refine lv_iconst (v := 0) hx hb dX8_signAt_27 (by decide) ?_
        exact x_rz hx hb hr rfl hlk hQ (Nat.le_of_ble_eq_true rfl) (Nat.le_of_ble_eq_true rfl) hS dX8_signAt_28 () ⟨_, rfl, rfl, (z_X8_signAt_3 p0.toInt ((G.1 a 1).toInt) (tC (G.2.1 (F a 0)) ((G.1 a 1).toInt) (p0.toInt)) n0 c9 c15)⟩ hh
      · refine lv_aload_n hx hb dX8_signAt_18 rfl (lv_at hl 0 rfl) ?_
        refine gX8_0 S hK hT ha kf_X8_9 dX8_signAt_19 (fun _ _ => ?_)
        refine lv_iload_n hx hb dX8_signAt_22 rfl (lv_at hl 1 rfl) ?_
        refine al_1 S hK hT hk9999 ar_25 (by decide) (z_X8_signAt_4 p0.toInt c1 c15) dX8_signAt_23 (fun x23 hv23 o23 => ?_)
        have hv23 : x23.toInt = (aI (G.2.1 (F a 0)) (p0.toInt)) := hv23.trans (by rw [(rfl : Int32.toInt p0 = p0.toInt)])
        refine lv_goto (tgt := 28) hx hb dX8_signAt_24 (by decide) ?_
        exact x_rz hx hb hr o23 hlk hQ (Nat.le_of_ble_eq_true rfl) (Nat.le_of_ble_eq_true rfl) hS dX8_signAt_28 () ⟨_, rfl, o23, (by rw [(hv23 : Int32.toInt x23 = (aI (G.2.1 (F a 0)) (p0.toInt)))] <;> exact (z_X8_signAt_5 p0.toInt ((G.1 a 1).toInt) (aI (G.2.1 (F a 0)) (p0.toInt)) (tC (G.2.1 (F a 0)) ((G.1 a 1).toInt) (p0.toInt)) z0 c1 c9))⟩ hh

theorem z_X8_shorten_1 (a0 : Int) (a1 : Int) (h0 : a0 < 0) : ((a0 < 0 ∨ a1 < a0) ∧ (0 : Int) = 0 ∧ a1 = a1) ∨ ((0 ≤ a0 ∧ a0 ≤ a1) ∧ (0 : Int) = 1 ∧ a1 = a0) := by omega
theorem z_X8_shorten_2 (a0 : Int) (a1 : Int) (h0 : ¬ (a0 < 0)) (h1 : a0 ≤ a1) : ((a0 < 0 ∨ a1 < a0) ∧ (1 : Int) = 0 ∧ a0 = a1) ∨ ((0 ≤ a0 ∧ a0 ≤ a1) ∧ (1 : Int) = 1 ∧ a0 = a0) := by omega
theorem z_X8_shorten_3 (a0 : Int) (a1 : Int) (h0 : ¬ (a0 ≤ a1)) : ((a0 < 0 ∨ a1 < a0) ∧ (0 : Int) = 0 ∧ a1 = a1) ∨ ((0 ≤ a0 ∧ a0 ≤ a1) ∧ (0 : Int) = 1 ∧ a1 = a0) := by omega
abbrev rm_X8_shorten : Room := { frames := 0, cells := 0, slots := 0, locals := 0 }
set_option maxHeartbeats 4000000 in
set_option maxRecDepth 100000 in
theorem c_X8_shorten (l : Launch) (E : XE) (K : Nat → Nat) (F : Nat → Nat → Nat) (G : XG) (a : Nat) (p0 : Int32) (ha : K a = 10) : Met l yX8_shorten (xw yX8_shorten cX8_shorten 2 (some .boolean)) rm_X8_shorten (va_Pc [.ref a, .int p0] (XP E K F G)) (XQ E (fun v (u : XG) => ∃ r : Int32, v = .int r ∧ (r = 0 ∨ r = 1) ∧ XFr [(a, 1)] [] [] G u ∧ (((p0.toInt < 0 ∨ ((G.1 a 1).toInt) < p0.toInt) ∧ r.toInt = 0 ∧ ((u.1 a 1).toInt) = ((G.1 a 1).toInt)) ∨ ((0 ≤ p0.toInt ∧ p0.toInt ≤ ((G.1 a 1).toInt)) ∧ r.toInt = 1 ∧ ((u.1 a 1).toInt) = p0.toInt))) (fun u H => TW E K F u H)) 0 0 (xA E) := by
  refine x_enter (by decide) (Nat.le_of_ble_eq_true rfl) ?_
  intro p e s m args below meth c Q S hr hlk hnm hQ hP ls hl
  obtain ⟨hz, hK, hT⟩ := hP
  obtain ⟨hx, hb, -, -, -⟩ := id S
  obtain ⟨H, hT, hS, hgo⟩ : ∃ H : Heap, TW E K F G H ∧ va_S (xA E) s.heap H [] ∧ H = s.heap := ⟨_, hT, va_S.rf, rfl⟩
  rw [← hgo]
  have hl : lv_has ls 2 [(0, .ref a), (1, .int p0)] := hl
  refine lv_iload_n hx hb dX8_shorten_0 rfl (lv_at hl 1 rfl) ?_
  refine xi_zlt (tgt := 12) hx hb (rfl : Int32.toInt p0 = p0.toInt) dX8_shorten_1 (by decide) (fun c1 => ?_) (fun c1 => ?_)
  · refine lv_iconst (v := 0) hx hb dX8_shorten_12 (by decide) ?_
    exact x_rz hx hb hr (xnz (Or.inl rfl)) hlk hQ (Nat.le_of_ble_eq_true rfl) (Nat.le_of_ble_eq_true rfl) hS dX8_shorten_13 G ⟨_, rfl, (Or.inl rfl), XFr.rf, (z_X8_shorten_1 p0.toInt ((G.1 a 1).toInt) c1)⟩ hT
  · refine lv_iload_n hx hb dX8_shorten_4 rfl (lv_at hl 1 rfl) ?_
    refine lv_aload_n hx hb dX8_shorten_5 rfl (lv_at hl 0 rfl) ?_
    refine gX8_1 S hK hT ha kf_X8_13 dX8_shorten_6 (v := (G.1 a 1)) rfl (?_)
    refine xi_cle (tgt := 14) hx hb (rfl : Int32.toInt p0 = p0.toInt) (rfl : Int32.toInt (G.1 a 1) = ((G.1 a 1).toInt)) dX8_shorten_9 (by decide) (fun c9 => ?_) (fun c9 => ?_)
    · refine lv_aload_n hx hb dX8_shorten_14 rfl (lv_at hl 0 rfl) ?_
      refine lv_iload_n hx hb dX8_shorten_15 rfl (lv_at hl 1 rfl) ?_
      refine pX8_1 (v := p0) S hK hT hS ha kf_X8_13 dX8_shorten_16 (fun H locs hT hS => ?_)
      obtain ⟨G16, hG16⟩ : ∃ GG : XG, GG = dput G a 1 p0 := ⟨_, rfl⟩
      rw [← hG16] at hT
      refine lv_iconst (v := 1) hx hb dX8_shorten_19 (by decide) ?_
      exact x_rz hx hb hr (xnz (Or.inr rfl)) hlk hQ (Nat.le_of_ble_eq_true rfl) (Nat.le_of_ble_eq_true rfl) hS dX8_shorten_20 G16 ⟨_, rfl, (Or.inr rfl), (by rw [hG16]; exact XFr.dput XFr.rf (List.mem_of_getElem? (i := 0) rfl)), (by rw [(show (G16.1 a 1).toInt = p0.toInt from (congrArg Int32.toInt (ld_at hG16)).trans (rfl : Int32.toInt p0 = p0.toInt))] <;> exact (z_X8_shorten_2 p0.toInt ((G.1 a 1).toInt) c1 c9))⟩ hT
    · refine lv_iconst (v := 0) hx hb dX8_shorten_12 (by decide) ?_
      exact x_rz hx hb hr (xnz (Or.inl rfl)) hlk hQ (Nat.le_of_ble_eq_true rfl) (Nat.le_of_ble_eq_true rfl) hS dX8_shorten_13 G ⟨_, rfl, (Or.inl rfl), XFr.rf, (z_X8_shorten_3 p0.toInt ((G.1 a 1).toInt) c9)⟩ hT

theorem z_X8_addFour_1 (a0 : Int) (h0 : -8 ≤ a0 ∧ a0 ≤ 24) : ¬ (100 + a0 < ((0 : Nat) : Int)) := by omega
theorem z_X8_addFour_2 (a0 : Int) (a1 : Int) (a2 : Int) (a3 : Int) (h0 : 0 ≤ a2 ∧ a2 ≤ 80) (h1 : a1 = a2 + (4 : Int) ∨ a2 + (4 : Int) < -2147483648 ∨ 2147483648 ≤ a2 + (4 : Int)) (h2 : a1 ≤ (80 : Int)) (h3 : -8 ≤ a0 ∧ a0 ≤ 24) (h4 : 8 * (a3 - a2) = 24 - a0) (h5 : a0 < 0) : (76 < a2 ∧ (1 : Int) = 0 ∧ a3 = a2) ∨ (a2 ≤ 76 ∧ (1 : Int) = 1 ∧ a3 = a2 + 4) := by omega
theorem z_X8_addFour_3 (a0 : Int) (a1 : Int) (a2 : Int) (a3 : Int) (h0 : 0 ≤ a2 ∧ a2 ≤ 80) (h1 : -8 ≤ a0 ∧ a0 ≤ 24) (h2 : 8 * (a3 - a2) = 24 - a0) (h3 : a3 < 0) : a1 = (a0 + (-8)) := by omega
theorem z_X8_addFour_4 (a0 : Int) (a1 : Int) (a2 : Int) (h0 : 0 ≤ a1 ∧ a1 ≤ 80) (h1 : -8 ≤ a0 ∧ a0 ≤ 24) (h2 : 8 * (a2 - a1) = 24 - a0) (h3 : a2 < 0) : -8 ≤ (a0 + (-8)) ∧ (a0 + (-8)) ≤ 24 := by omega
theorem z_X8_addFour_5 (a0 : Int) (a1 : Int) (a2 : Int) (h0 : 0 ≤ a1 ∧ a1 ≤ 80) (h1 : -8 ≤ a0 ∧ a0 ≤ 24) (h2 : 8 * (a2 - a1) = 24 - a0) (h3 : a2 < 0) : 8 * (a2 - a1) = 24 - (a0 + (-8)) := by omega
theorem z_X8_addFour_6 (a0 : Int) (a1 : Nat) (h0 : 100 + a0 < ((a1 + 1 : Nat) : Int)) : 100 + (a0 + (-8)) < ((a1 : Nat) : Int) := by omega
theorem z_X8_addFour_7 (a0 : Int) (a1 : Int) (a2 : Int) (a3 : Int) (a4 : Int) (h0 : 0 ≤ a3 ∧ a3 ≤ 80) (h1 : a1 = a3 + (4 : Int) ∨ a3 + (4 : Int) < -2147483648 ∨ 2147483648 ≤ a3 + (4 : Int)) (h2 : a1 ≤ (80 : Int)) (h3 : 8 * (a4 - a3) = 24 - a0) (h4 : ¬ (a0 < 0)) (h5 : (80 : Int) ≤ a4) : a2 = (a0 + (-8)) := by omega
theorem z_X8_addFour_8 (a0 : Int) (h0 : -8 ≤ a0 ∧ a0 ≤ 24) (h1 : ¬ (a0 < 0)) : -8 ≤ (a0 + (-8)) ∧ (a0 + (-8)) ≤ 24 := by omega
theorem z_X8_addFour_9 (a0 : Int) (a1 : Int) (a2 : Int) (a3 : Int) (h0 : 0 ≤ a2 ∧ a2 ≤ 80) (h1 : a1 = a2 + (4 : Int) ∨ a2 + (4 : Int) < -2147483648 ∨ 2147483648 ≤ a2 + (4 : Int)) (h2 : a1 ≤ (80 : Int)) (h3 : 8 * (a3 - a2) = 24 - a0) (h4 : ¬ (a0 < 0)) (h5 : (80 : Int) ≤ a3) : 8 * (a3 - a2) = 24 - (a0 + (-8)) := by omega
theorem z_X8_addFour_12 (a0 : Int) (a1 : Int) (h0 : ¬ (a1 < 0)) (h1 : ¬ ((80 : Int) ≤ a1)) (h2 : a0 = (a1 + (1 : Int)) ∨ (a1 + (1 : Int)) < -2147483648 ∨ 2147483648 ≤ (a1 + (1 : Int))) : a0 = (a1 + (1 : Int)) := by omega
theorem z_X8_addFour_13 (a0 : Int) (a1 : Int) (h0 : -8 ≤ a0 ∧ a0 ≤ 24) (h1 : a1 = (a0 + (-8)) ∨ (a0 + (-8)) < -2147483648 ∨ 2147483648 ≤ (a0 + (-8))) : a1 = (a0 + (-8)) := by omega
theorem z_X8_addFour_15 (a0 : Int) (a1 : Int) (a2 : Int) (h0 : 8 * (a2 - a1) = 24 - a0) : 8 * ((a2 + (1 : Int)) - a1) = 24 - (a0 + (-8)) := by omega
theorem z_X8_addFour_17 (a0 : Int) : 8 * (a0 - a0) = 24 - (24 : Int) := by omega
theorem z_X8_addFour_18 (a0 : Int) (a1 : Int) (h0 : 0 ≤ a1 ∧ a1 ≤ 80) (h1 : a0 = a1 + (4 : Int) ∨ a1 + (4 : Int) < -2147483648 ∨ 2147483648 ≤ a1 + (4 : Int)) (h2 : ¬ (a0 ≤ (80 : Int))) : (76 < a1 ∧ (0 : Int) = 0 ∧ a1 = a1) ∨ (a1 ≤ 76 ∧ (0 : Int) = 1 ∧ a1 = a1 + 4) := by omega
abbrev rm_X8_addFour : Room := { frames := 0, cells := 0, slots := 0, locals := 0 }
set_option maxHeartbeats 4000000 in
set_option maxRecDepth 100000 in
theorem c_X8_addFour (l : Launch) (E : XE) (K : Nat → Nat) (F : Nat → Nat → Nat) (G : XG) (a : Nat) (p0 : Int32) (ha : K a = 10) (n0 : 0 ≤ ((G.1 a 1).toInt) ∧ ((G.1 a 1).toInt) ≤ 80) : Met l yX8_addFour (xw yX8_addFour cX8_addFour 3 (some .boolean)) rm_X8_addFour (va_Pc [.ref a, .int p0] (XP E K F G)) (XQ E (fun v (u : XG) => ∃ r : Int32, v = .int r ∧ (r = 0 ∨ r = 1) ∧ XFr [(a, 1)] [F a 0] [] G u ∧ ((76 < ((G.1 a 1).toInt) ∧ r.toInt = 0 ∧ ((u.1 a 1).toInt) = ((G.1 a 1).toInt)) ∨ (((G.1 a 1).toInt) ≤ 76 ∧ r.toInt = 1 ∧ ((u.1 a 1).toInt) = ((G.1 a 1).toInt) + 4)) ∧ ((r.toInt = 0 ∧ u.2.1 (F a 0) = (G.2.1 (F a 0))) ∨ (r.toInt = 1 ∧ ∀ z : Int, 0 ≤ z → aI (u.2.1 (F a 0)) z = if ((G.1 a 1).toInt) ≤ z ∧ z < ((G.1 a 1).toInt) + 4 then bqI p0 (24 - 8 * (z - ((G.1 a 1).toInt))) else aI (G.2.1 (F a 0)) z))) (fun u H => TW E K F u H)) 0 0 (xA E) := by
  refine x_enter (by decide) (Nat.le_of_ble_eq_true rfl) ?_
  intro p e s m args below meth c Q S hr hlk hnm hQ hP ls hl
  obtain ⟨hz, hK, hT⟩ := hP
  obtain ⟨hx, hb, -, -, -⟩ := id S
  obtain ⟨H, hT, hS, hgo⟩ : ∃ H : Heap, TW E K F G H ∧ va_S (xA E) s.heap H [] ∧ H = s.heap := ⟨_, hT, va_S.rf, rfl⟩
  rw [← hgo]
  have hl : lv_has ls 3 [(0, .ref a), (1, .int p0)] := hl
  obtain ⟨hk9999, hj9999⟩ := fkX8_0 hT ha
  refine lv_aload_n hx hb dX8_addFour_0 rfl (lv_at hl 0 rfl) ?_
  refine gX8_1 S hK hT ha kf_X8_13 dX8_addFour_1 (v := (G.1 a 1)) rfl (?_)
  refine lv_iconst (v := 4) hx hb dX8_addFour_4 (by decide) ?_
  refine xi_iadd hx hb (rfl : Int32.toInt (G.1 a 1) = ((G.1 a 1).toInt)) ((by decide) : Int32.toInt 4 = (4 : Int)) dX8_addFour_5 (fun x5 t5 => ?_)
  refine lv_bipush (v := 80) hx hb dX8_addFour_6 (by decide) ?_
  refine xi_cle (tgt := 13) hx hb (rfl : Int32.toInt x5 = x5.toInt) ((by decide) : Int32.toInt 80 = (80 : Int)) dX8_addFour_8 (by decide) (fun c8 => ?_) (fun c8 => ?_)
  · refine lv_bipush (v := 24) hx hb dX8_addFour_13 (by decide) ?_
    refine lv_istore_n (lv' := [(2, .int 24), (0, .ref a), (1, .int p0)]) hx hb dX8_addFour_15 rfl hl (by decide) rfl (fun ls hl => ?_)
    have L16 : ∀ (N16 : Nat) (l2_16 : Int32) (G_16 : XG) (H : Heap) (locs : List Loc) (ls : Array Slot), XFr [(a, 1)] [F a 0] [] G G_16 → (∀ z : Int, 0 ≤ z → aI (G_16.2.1 (F a 0)) z = if (G.1 a 1).toInt ≤ z ∧ z < ((G_16.1 a 1).toInt) then bqI p0 (24 - 8 * (z - (G.1 a 1).toInt)) else aI (G.2.1 (F a 0)) z) → -8 ≤ l2_16.toInt ∧ l2_16.toInt ≤ 24 → 8 * (((G_16.1 a 1).toInt) - ((G.1 a 1).toInt)) = 24 - l2_16.toInt → 100 + l2_16.toInt < ((N16 : Nat) : Int) → TW E K F G_16 H → va_S (xA E) s.heap H locs → lv_has ls 3 [(0, .ref a), (1, .int p0), (2, .int l2_16)] → W p l e rm_X8_addFour s m args below meth c H locs 0 0 Q (F0 m 16 ls []) := by
      intro N16
      induction N16 with
      | zero =>
        intro l2_16 G_16 H locs ls hF_16 pf I16_0 I16_1 hm16
        exact absurd hm16 (z_X8_addFour_1 l2_16.toInt I16_0)
      | succ N16 ih16 =>
        intro l2_16 G_16 H locs ls hF_16 pf I16_0 I16_1 hm16 hT hS hl
        refine lv_iload_n hx hb dX8_addFour_16 rfl (lv_at hl 2 rfl) ?_
        refine xi_zlt (tgt := 69) hx hb (rfl : Int32.toInt l2_16 = l2_16.toInt) dX8_addFour_17 (by decide) (fun c17 => ?_) (fun c17 => ?_)
        · refine lv_iconst (v := 1) hx hb dX8_addFour_69 (by decide) ?_
          exact x_rz hx hb hr (xnz (Or.inr rfl)) hlk hQ (Nat.le_of_ble_eq_true rfl) (Nat.le_of_ble_eq_true rfl) hS dX8_addFour_70 G_16 ⟨_, rfl, (Or.inr rfl), (XFr.call XFr.rf hF_16 (xm1 0 rfl xm0) (xm1 0 rfl xm0) xm0), (z_X8_addFour_2 l2_16.toInt x5.toInt ((G.1 a 1).toInt) ((G_16.1 a 1).toInt) n0 t5 c8 I16_0 I16_1 c17), (v_X8_addFour_70_1 (K := K) (F := F) a G G_16 p0 x5 l2_16 N16 ha pf n0 t5 c8 I16_0 I16_1 hm16 c17)⟩ hT
        · refine lv_aload_n hx hb dX8_addFour_20 rfl (lv_at hl 0 rfl) ?_
          refine gX8_1 S hK hT ha kf_X8_13 dX8_addFour_21 (v := (G_16.1 a 1)) rfl (?_)
          refine xi_zlt (tgt := 63) hx hb (rfl : Int32.toInt (G_16.1 a 1) = ((G_16.1 a 1).toInt)) dX8_addFour_24 (by decide) (fun c24 => ?_) (fun c24 => ?_)
          · refine xi_iinc (n := (-8)) (lv' := fun z9 => [(2, .int z9), (0, .ref a), (1, .int p0)]) (k := 2) hx hb (rfl : Int32.toInt l2_16 = l2_16.toInt) (by decide) dX8_addFour_63 hl rfl (by decide) (fun _ => rfl) (fun x63 ls t63 hl => ?_)
            have e63 : x63.toInt = (l2_16.toInt + (-8)) := (z_X8_addFour_3 l2_16.toInt x63.toInt ((G.1 a 1).toInt) ((G_16.1 a 1).toInt) n0 I16_0 I16_1 c24)
            have hl : lv_has ls 3 [(2, .int x63), (0, .ref a), (1, .int p0)] := hl
            refine lv_goto (tgt := 16) hx hb dX8_addFour_66 (by decide) ?_
            exact ih16 x63 G_16 _ _ _ (XFr.call XFr.rf hF_16 (xm1 0 rfl xm0) (xm1 0 rfl xm0) xm0) (v_X8_addFour_66_2 (K := K) (F := F) a G G_16 p0 l2_16 x5 N16 ha n0 t5 c8 I16_0 I16_1 hm16 c17 c24) (by rw [(e63 : Int32.toInt x63 = (l2_16.toInt + (-8)))] <;> exact (z_X8_addFour_4 l2_16.toInt ((G.1 a 1).toInt) ((G_16.1 a 1).toInt) n0 I16_0 I16_1 c24)) (by rw [(e63 : Int32.toInt x63 = (l2_16.toInt + (-8)))] <;> exact (z_X8_addFour_5 l2_16.toInt ((G.1 a 1).toInt) ((G_16.1 a 1).toInt) n0 I16_0 I16_1 c24)) (by rw [(e63 : Int32.toInt x63 = (l2_16.toInt + (-8)))] <;> exact (z_X8_addFour_6 l2_16.toInt N16 hm16)) hT hS (lv_sub hl [1, 2, 0] rfl)
          · refine lv_aload_n hx hb dX8_addFour_27 rfl (lv_at hl 0 rfl) ?_
            refine gX8_1 S hK hT ha kf_X8_13 dX8_addFour_28 (v := (G_16.1 a 1)) rfl (?_)
            refine lv_bipush (v := 80) hx hb dX8_addFour_31 (by decide) ?_
            refine xi_cge (tgt := 63) hx hb (rfl : Int32.toInt (G_16.1 a 1) = ((G_16.1 a 1).toInt)) ((by decide) : Int32.toInt 80 = (80 : Int)) dX8_addFour_33 (by decide) (fun c33 => ?_) (fun c33 => ?_)
            · refine xi_iinc (n := (-8)) (lv' := fun z9 => [(2, .int z9), (0, .ref a), (1, .int p0)]) (k := 2) hx hb (rfl : Int32.toInt l2_16 = l2_16.toInt) (by decide) dX8_addFour_63 hl rfl (by decide) (fun _ => rfl) (fun x63 ls t63 hl => ?_)
              have e63 : x63.toInt = (l2_16.toInt + (-8)) := (z_X8_addFour_7 l2_16.toInt x5.toInt x63.toInt ((G.1 a 1).toInt) ((G_16.1 a 1).toInt) n0 t5 c8 I16_1 c17 c33)
              have hl : lv_has ls 3 [(2, .int x63), (0, .ref a), (1, .int p0)] := hl
              refine lv_goto (tgt := 16) hx hb dX8_addFour_66 (by decide) ?_
              exact ih16 x63 G_16 _ _ _ (XFr.call XFr.rf hF_16 (xm1 0 rfl xm0) (xm1 0 rfl xm0) xm0) (v_X8_addFour_66_3 (K := K) (F := F) a G G_16 p0 l2_16 x5 N16 ha n0 t5 c8 I16_0 I16_1 hm16 c17 c24 c33) (by rw [(e63 : Int32.toInt x63 = (l2_16.toInt + (-8)))] <;> exact (z_X8_addFour_8 l2_16.toInt I16_0 c17)) (by rw [(e63 : Int32.toInt x63 = (l2_16.toInt + (-8)))] <;> exact (z_X8_addFour_9 l2_16.toInt x5.toInt ((G.1 a 1).toInt) ((G_16.1 a 1).toInt) n0 t5 c8 I16_1 c17 c33)) (by rw [(e63 : Int32.toInt x63 = (l2_16.toInt + (-8)))] <;> exact (z_X8_addFour_6 l2_16.toInt N16 hm16)) hT hS (lv_sub hl [1, 2, 0] rfl)
            · refine lv_aload_n hx hb dX8_addFour_36 rfl (lv_at hl 0 rfl) ?_
              refine gX8_0 S hK hT ha kf_X8_9 dX8_addFour_37 (fun _ _ => ?_)
              refine lv_aload_n hx hb dX8_addFour_40 rfl (lv_at hl 0 rfl) ?_
              refine gX8_1 S hK hT ha kf_X8_13 dX8_addFour_41 (v := (G_16.1 a 1)) rfl (?_)
              refine lv_iload_n hx hb dX8_addFour_44 rfl (lv_at hl 1 rfl) ?_
              refine lv_iload_n hx hb dX8_addFour_45 rfl (lv_at hl 2 rfl) ?_
              refine lv_iushr hx hb dX8_addFour_46 rfl (lv_topi (fun x46 eb46 => ?_))
              refine lv_sipush (v := 255) hx hb dX8_addFour_47 (by decide) ?_
              refine lv_iand hx hb dX8_addFour_50 (lv_topi (fun x50 he50 => ?_))
              refine lv_i2c hx hb dX8_addFour_51 rfl (lv_topi (fun x51 ec51 => ?_))
              refine as_1 (x := x51) S hK hT hS hk9999 ar_25 aw_25 (by decide) (z_X8_signAt_4 ((G_16.1 a 1).toInt) c24 c33) dX8_addFour_52 (fun H locs hT hS => ?_)
              rw [(xnar1 (by rw [ec51]; exact pk_nc _))] at hT
              obtain ⟨G52, hG52⟩ : ∃ GG : XG, GG = cput G_16 (F a 0) (G_16.1 a 1).toNatClampNeg x51 := ⟨_, rfl⟩
              rw [← hG52] at hT
              refine lv_aload_n hx hb dX8_addFour_53 rfl (lv_at hl 0 rfl) ?_
              refine lv_dup hx hb dX8_addFour_54 rfl ?_
              refine gX8_1 S hK hT ha kf_X8_13 dX8_addFour_55 (v := (G_16.1 a 1)) (lc_d hG52) (?_)
              refine lv_iconst (v := 1) hx hb dX8_addFour_58 (by decide) ?_
              refine xi_iadd hx hb (rfl : Int32.toInt (G_16.1 a 1) = ((G_16.1 a 1).toInt)) ((by decide) : Int32.toInt 1 = (1 : Int)) dX8_addFour_59 (fun x59 t59 => ?_)
              have e59 : x59.toInt = (((G_16.1 a 1).toInt) + (1 : Int)) := (z_X8_addFour_12 x59.toInt ((G_16.1 a 1).toInt) c24 c33 t59)
              refine pX8_1 (v := x59) S hK hT hS ha kf_X8_13 dX8_addFour_60 (fun H locs hT hS => ?_)
              obtain ⟨G60, hG60⟩ : ∃ GG : XG, GG = dput G52 a 1 x59 := ⟨_, rfl⟩
              rw [← hG60] at hT
              refine xi_iinc (n := (-8)) (lv' := fun z9 => [(2, .int z9), (0, .ref a), (1, .int p0)]) (k := 2) hx hb (rfl : Int32.toInt l2_16 = l2_16.toInt) (by decide) dX8_addFour_63 hl rfl (by decide) (fun _ => rfl) (fun x63 ls t63 hl => ?_)
              have e63 : x63.toInt = (l2_16.toInt + (-8)) := (z_X8_addFour_13 l2_16.toInt x63.toInt I16_0 t63)
              have hl : lv_has ls 3 [(2, .int x63), (0, .ref a), (1, .int p0)] := hl
              refine lv_goto (tgt := 16) hx hb dX8_addFour_66 (by decide) ?_
              exact ih16 x63 G60 _ _ _ (by rw [hG60]; exact XFr.dput (by rw [hG52]; exact XFr.cput (XFr.call XFr.rf hF_16 (xm1 0 rfl xm0) (xm1 0 rfl xm0) xm0) (List.mem_of_getElem? (i := 0) rfl)) (List.mem_of_getElem? (i := 0) rfl)) (by rw [(show (G60.1 a 1).toInt = (((G_16.1 a 1).toInt) + (1 : Int)) from (congrArg Int32.toInt (ld_at hG60)).trans (e59 : Int32.toInt x59 = (((G_16.1 a 1).toInt) + (1 : Int)))), (show G60.2.1 (F a 0) = G52.2.1 (F a 0) from (ld_c hG60))] <;> exact (v_X8_addFour_66_4 (K := K) (F := F) a G G_16 G52 x51 p0 x46 l2_16 x50 x5 N16 ha hG52 pf eb46 he50 ec51 n0 t5 c8 I16_0 I16_1 hm16 c17 c24 c33)) (by rw [(e63 : Int32.toInt x63 = (l2_16.toInt + (-8)))] <;> exact (z_X8_addFour_8 l2_16.toInt I16_0 c17)) (by rw [(e63 : Int32.toInt x63 = (l2_16.toInt + (-8))), (show (G60.1 a 1).toInt = (((G_16.1 a 1).toInt) + (1 : Int)) from (congrArg Int32.toInt (ld_at hG60)).trans (e59 : Int32.toInt x59 = (((G_16.1 a 1).toInt) + (1 : Int))))] <;> exact (z_X8_addFour_15 l2_16.toInt ((G.1 a 1).toInt) ((G_16.1 a 1).toInt) I16_1)) (by rw [(e63 : Int32.toInt x63 = (l2_16.toInt + (-8)))] <;> exact (z_X8_addFour_6 l2_16.toInt N16 hm16)) hT hS (lv_sub hl [1, 2, 0] rfl)
    exact L16 4294967297 24 G _ _ _ XFr.rf (v_X8_addFour_15_5 (K := K) (F := F) a G x5 p0 ha n0 t5 c8) (by decide) (z_X8_addFour_17 ((G.1 a 1).toInt)) (by decide) hT hS (lv_sub hl [1, 2, 0] rfl)
  · refine lv_iconst (v := 0) hx hb dX8_addFour_11 (by decide) ?_
    exact x_rz hx hb hr (xnz (Or.inl rfl)) hlk hQ (Nat.le_of_ble_eq_true rfl) (Nat.le_of_ble_eq_true rfl) hS dX8_addFour_12 G ⟨_, rfl, (Or.inl rfl), XFr.rf, (z_X8_addFour_18 x5.toInt ((G.1 a 1).toInt) n0 t5 c8), (v_X8_addFour_12_6 (F := F) a G p0)⟩ hT

theorem z_X5_isLetter_1 (a0 : Int) (h0 : a0 < (97 : Int)) : ((0 : Int) = 1 ∧ 97 ≤ a0 ∧ a0 ≤ 122) ∨ ((0 : Int) = 0 ∧ (a0 < 97 ∨ 122 < a0)) := by omega
theorem z_X5_isLetter_2 (a0 : Int) (h0 : (122 : Int) < a0) : ((0 : Int) = 1 ∧ 97 ≤ a0 ∧ a0 ≤ 122) ∨ ((0 : Int) = 0 ∧ (a0 < 97 ∨ 122 < a0)) := by omega
theorem z_X5_isLetter_3 (a0 : Int) (h0 : ¬ (a0 < (97 : Int))) (h1 : ¬ ((122 : Int) < a0)) : ((1 : Int) = 1 ∧ 97 ≤ a0 ∧ a0 ≤ 122) ∨ ((1 : Int) = 0 ∧ (a0 < 97 ∨ 122 < a0)) := by omega
abbrev rm_X5_isLetter : Room := { frames := 0, cells := 0, slots := 0, locals := 0 }
set_option maxHeartbeats 4000000 in
set_option maxRecDepth 100000 in
theorem c_X5_isLetter (l : Launch) (E : XE) (K : Nat → Nat) (F : Nat → Nat → Nat) (G : XG) (h0 : Heap) (p0 : Int32)  : Met l yX5_isLetter (xw yX5_isLetter cX5_isLetter 1 (some .boolean)) rm_X5_isLetter (va_Pc [.int p0] (XPh E K F G h0)) (XQ E (fun v (u : Unit) => ∃ r : Int32, v = .int r ∧ (r = 0 ∨ r = 1) ∧ ((r.toInt = 1 ∧ 97 ≤ p0.toInt ∧ p0.toInt ≤ 122) ∨ (r.toInt = 0 ∧ (p0.toInt < 97 ∨ 122 < p0.toInt)))) (fun _ H => H = h0)) 0 0 (xA E) := by
  refine x_enter (by decide) (Nat.le_of_ble_eq_true rfl) ?_
  intro p e s m args below meth c Q S hr hlk hnm hQ hP ls hl
  obtain ⟨⟨hz, hK, hT⟩, hh⟩ := hP
  obtain ⟨hx, hb, -, -, -⟩ := id S
  have hS : va_S (xA E) s.heap s.heap [] := va_S.rf
  have hl : lv_has ls 1 [(0, .int p0)] := hl
  refine lv_iload_n hx hb dX5_isLetter_0 rfl (lv_at hl 0 rfl) ?_
  refine lv_bipush (v := 97) hx hb dX5_isLetter_1 (by decide) ?_
  refine xi_clt (tgt := 16) hx hb (rfl : Int32.toInt p0 = p0.toInt) ((by decide) : Int32.toInt 97 = (97 : Int)) dX5_isLetter_3 (by decide) (fun c3 => ?_) (fun c3 => ?_)
  · refine lv_iconst (v := 0) hx hb dX5_isLetter_16 (by decide) ?_
    exact x_rz hx hb hr (xnz (Or.inl rfl)) hlk hQ (Nat.le_of_ble_eq_true rfl) (Nat.le_of_ble_eq_true rfl) hS dX5_isLetter_17 () ⟨_, rfl, (Or.inl rfl), (z_X5_isLetter_1 p0.toInt c3)⟩ hh
  · refine lv_iload_n hx hb dX5_isLetter_6 rfl (lv_at hl 0 rfl) ?_
    refine lv_bipush (v := 122) hx hb dX5_isLetter_7 (by decide) ?_
    refine xi_cgt (tgt := 16) hx hb (rfl : Int32.toInt p0 = p0.toInt) ((by decide) : Int32.toInt 122 = (122 : Int)) dX5_isLetter_9 (by decide) (fun c9 => ?_) (fun c9 => ?_)
    · refine lv_iconst (v := 0) hx hb dX5_isLetter_16 (by decide) ?_
      exact x_rz hx hb hr (xnz (Or.inl rfl)) hlk hQ (Nat.le_of_ble_eq_true rfl) (Nat.le_of_ble_eq_true rfl) hS dX5_isLetter_17 () ⟨_, rfl, (Or.inl rfl), (z_X5_isLetter_2 p0.toInt c9)⟩ hh
    · refine lv_iconst (v := 1) hx hb dX5_isLetter_12 (by decide) ?_
      refine lv_goto (tgt := 17) hx hb dX5_isLetter_13 (by decide) ?_
      exact x_rz hx hb hr (xnz (Or.inr rfl)) hlk hQ (Nat.le_of_ble_eq_true rfl) (Nat.le_of_ble_eq_true rfl) hS dX5_isLetter_17 () ⟨_, rfl, (Or.inr rfl), (z_X5_isLetter_3 p0.toInt c3 c9)⟩ hh

theorem z_X5_isDigit_1 (a0 : Int) (h0 : a0 < (48 : Int)) : ((0 : Int) = 1 ∧ 48 ≤ a0 ∧ a0 ≤ 57) ∨ ((0 : Int) = 0 ∧ (a0 < 48 ∨ 57 < a0)) := by omega
theorem z_X5_isDigit_2 (a0 : Int) (h0 : (57 : Int) < a0) : ((0 : Int) = 1 ∧ 48 ≤ a0 ∧ a0 ≤ 57) ∨ ((0 : Int) = 0 ∧ (a0 < 48 ∨ 57 < a0)) := by omega
theorem z_X5_isDigit_3 (a0 : Int) (h0 : ¬ (a0 < (48 : Int))) (h1 : ¬ ((57 : Int) < a0)) : ((1 : Int) = 1 ∧ 48 ≤ a0 ∧ a0 ≤ 57) ∨ ((1 : Int) = 0 ∧ (a0 < 48 ∨ 57 < a0)) := by omega
abbrev rm_X5_isDigit : Room := { frames := 0, cells := 0, slots := 0, locals := 0 }
set_option maxHeartbeats 4000000 in
set_option maxRecDepth 100000 in
theorem c_X5_isDigit (l : Launch) (E : XE) (K : Nat → Nat) (F : Nat → Nat → Nat) (G : XG) (h0 : Heap) (p0 : Int32)  : Met l yX5_isDigit (xw yX5_isDigit cX5_isDigit 1 (some .boolean)) rm_X5_isDigit (va_Pc [.int p0] (XPh E K F G h0)) (XQ E (fun v (u : Unit) => ∃ r : Int32, v = .int r ∧ (r = 0 ∨ r = 1) ∧ ((r.toInt = 1 ∧ 48 ≤ p0.toInt ∧ p0.toInt ≤ 57) ∨ (r.toInt = 0 ∧ (p0.toInt < 48 ∨ 57 < p0.toInt)))) (fun _ H => H = h0)) 0 0 (xA E) := by
  refine x_enter (by decide) (Nat.le_of_ble_eq_true rfl) ?_
  intro p e s m args below meth c Q S hr hlk hnm hQ hP ls hl
  obtain ⟨⟨hz, hK, hT⟩, hh⟩ := hP
  obtain ⟨hx, hb, -, -, -⟩ := id S
  have hS : va_S (xA E) s.heap s.heap [] := va_S.rf
  have hl : lv_has ls 1 [(0, .int p0)] := hl
  refine lv_iload_n hx hb dX5_isDigit_0 rfl (lv_at hl 0 rfl) ?_
  refine lv_bipush (v := 48) hx hb dX5_isDigit_1 (by decide) ?_
  refine xi_clt (tgt := 16) hx hb (rfl : Int32.toInt p0 = p0.toInt) ((by decide) : Int32.toInt 48 = (48 : Int)) dX5_isDigit_3 (by decide) (fun c3 => ?_) (fun c3 => ?_)
  · refine lv_iconst (v := 0) hx hb dX5_isDigit_16 (by decide) ?_
    exact x_rz hx hb hr (xnz (Or.inl rfl)) hlk hQ (Nat.le_of_ble_eq_true rfl) (Nat.le_of_ble_eq_true rfl) hS dX5_isDigit_17 () ⟨_, rfl, (Or.inl rfl), (z_X5_isDigit_1 p0.toInt c3)⟩ hh
  · refine lv_iload_n hx hb dX5_isDigit_6 rfl (lv_at hl 0 rfl) ?_
    refine lv_bipush (v := 57) hx hb dX5_isDigit_7 (by decide) ?_
    refine xi_cgt (tgt := 16) hx hb (rfl : Int32.toInt p0 = p0.toInt) ((by decide) : Int32.toInt 57 = (57 : Int)) dX5_isDigit_9 (by decide) (fun c9 => ?_) (fun c9 => ?_)
    · refine lv_iconst (v := 0) hx hb dX5_isDigit_16 (by decide) ?_
      exact x_rz hx hb hr (xnz (Or.inl rfl)) hlk hQ (Nat.le_of_ble_eq_true rfl) (Nat.le_of_ble_eq_true rfl) hS dX5_isDigit_17 () ⟨_, rfl, (Or.inl rfl), (z_X5_isDigit_2 p0.toInt c9)⟩ hh
    · refine lv_iconst (v := 1) hx hb dX5_isDigit_12 (by decide) ?_
      refine lv_goto (tgt := 17) hx hb dX5_isDigit_13 (by decide) ?_
      exact x_rz hx hb hr (xnz (Or.inr rfl)) hlk hQ (Nat.le_of_ble_eq_true rfl) (Nat.le_of_ble_eq_true rfl) hS dX5_isDigit_17 () ⟨_, rfl, (Or.inr rfl), (z_X5_isDigit_3 p0.toInt c3 c9)⟩ hh

theorem z_X5_advanceWord_1 (a0 : Int) (a1 : Int) (a2 : Int) (h0 : a1 ≤ a2 ∧ a2 ≤ a0) (h1 : 0 ≤ a0 ∧ a0 ≤ 80) : ¬ (200 - a2 < ((0 : Nat) : Int)) := by omega
theorem z_X5_advanceWord_2 (a0 : Int) (a1 : Int) (a2 : Int) (h0 : a1 ≤ a2 ∧ a2 ≤ a0) : (1 : Int) = 1 ∧ a1 ≤ a2 ∧ a2 ≤ a0 := by omega
theorem z_X5_advanceWord_5 (a0 : Int) (a1 : Int) (a2 : Int) (h0 : 0 ≤ a1 ∧ a1 ≤ 80) (h1 : ¬ (a1 ≤ a2)) (h2 : a0 = (a2 + (1 : Int)) ∨ (a2 + (1 : Int)) < -2147483648 ∨ 2147483648 ≤ (a2 + (1 : Int))) (h3 : -2147483648 ≤ a2 ∧ a2 < 2147483648) : a0 = (a2 + (1 : Int)) := by omega
theorem z_X5_advanceWord_6 (a0 : Int) (a1 : Int) (a2 : Int) (h0 : a1 ≤ a2 ∧ a2 ≤ a0) (h1 : ¬ (a0 ≤ a2)) : a1 ≤ (a2 + (1 : Int)) ∧ (a2 + (1 : Int)) ≤ a0 := by omega
theorem z_X5_advanceWord_7 (a0 : Nat) (a1 : Int) (h0 : 200 - a1 < ((a0 + 1 : Nat) : Int)) : 200 - (a1 + (1 : Int)) < ((a0 : Nat) : Int) := by omega
theorem z_X5_advanceWord_8 (a0 : Int) (a1 : Int) (h0 : 0 ≤ a1 ∧ a1 ≤ a0) : a1 ≤ a1 ∧ a1 ≤ a0 := by omega
theorem z_X5_advanceWord_9 (a0 : Int) (a1 : Int) (h0 : 0 ≤ a1 ∧ a1 ≤ a0) : 200 - a1 < ((4294967297 : Nat) : Int) := by omega
abbrev rm_X5_advanceWord : Room := { frames := 1, cells := 0, slots := 0, locals := 21 }
set_option maxHeartbeats 4000000 in
set_option maxRecDepth 100000 in
theorem c_X5_advanceWord (l : Launch) (E : XE) (K : Nat → Nat) (F : Nat → Nat → Nat) (G : XG) (a : Nat) (ha : K a = 7) (n0 : 0 ≤ ((G.1 (F a 0) 1).toInt) ∧ ((G.1 (F a 0) 1).toInt) ≤ 80) (s0 : 0 ≤ ((G.1 a 3).toInt) ∧ ((G.1 a 3).toInt) ≤ ((G.1 (F a 0) 1).toInt)) : Met l yX5_advanceWord (xw yX5_advanceWord cX5_advanceWord 1 none) rm_X5_advanceWord (va_Pc [.ref a] (XP E K F G)) (XQv E (fun (u : XG) => XFr [(a, 1), (a, 3)] [] [] G u ∧ (((u.1 a 1).toInt) = 1 ∧ ((G.1 a 3).toInt) ≤ ((u.1 a 3).toInt) ∧ ((u.1 a 3).toInt) ≤ ((G.1 (F a 0) 1).toInt)) ∧ (((u.1 a 3).toInt) = rn cLt (tC (G.2.1 (F (F a 0) 0)) ((G.1 (F a 0) 1).toInt)) ((G.1 a 3).toInt))) (fun u H => TW E K F u H)) 0 0 (xA E) := by
  refine x_enter (by decide) (Nat.le_of_ble_eq_true rfl) ?_
  intro p e s m args below meth c Q S hr hlk hnm hQ hP ls hl
  obtain ⟨hz, hK, hT⟩ := hP
  obtain ⟨hx, hb, -, -, -⟩ := id S
  obtain ⟨H, hT, hS, hgo⟩ : ∃ H : Heap, TW E K F G H ∧ va_S (xA E) s.heap H [] ∧ H = s.heap := ⟨_, hT, va_S.rf, rfl⟩
  rw [← hgo]
  have hl : lv_has ls 1 [(0, .ref a)] := hl
  obtain ⟨hk9999, hj9999⟩ := fkX5_0 hT ha
  obtain ⟨hk9999a, hj9999a⟩ := fkX8_0 hT hk9999
  refine lv_aload_n hx hb dX5_advanceWord_0 rfl (lv_at hl 0 rfl) ?_
  refine lv_iconst (v := 1) hx hb dX5_advanceWord_1 (by decide) ?_
  refine pX5_1 (v := 1) S hK hT hS ha kf_X5_75 dX5_advanceWord_2 (fun H locs hT hS => ?_)
  obtain ⟨G2, hG2⟩ : ∃ GG : XG, GG = dput G a 1 1 := ⟨_, rfl⟩
  rw [← hG2] at hT
  have L5 : ∀ (N5 : Nat) (G_5 : XG) (H : Heap) (locs : List Loc) (ls : Array Slot), XFr [(a, 3)] [] [] G2 G_5 → (∀ j : Int, (G.1 a 3).toInt ≤ j → j < ((G_5.1 a 3).toInt) → cLt ((tC (G.2.1 (F (F a 0) 0)) ((G.1 (F a 0) 1).toInt)) j)) → ((G.1 a 3).toInt) ≤ ((G_5.1 a 3).toInt) ∧ ((G_5.1 a 3).toInt) ≤ ((G.1 (F a 0) 1).toInt) → 200 - ((G_5.1 a 3).toInt) < ((N5 : Nat) : Int) → TW E K F G_5 H → va_S (xA E) s.heap H locs → lv_has ls 1 [(0, .ref a)] → W p l e rm_X5_advanceWord s m args below meth c H locs 0 0 Q (F0 m 5 ls []) := by
    intro N5
    induction N5 with
    | zero =>
      intro G_5 H locs ls hF_5 pr I5_0 hm5
      exact absurd hm5 (z_X5_advanceWord_1 ((G.1 (F a 0) 1).toInt) ((G.1 a 3).toInt) ((G_5.1 a 3).toInt) I5_0 n0)
    | succ N5 ih5 =>
      intro G_5 H locs ls hF_5 pr I5_0 hm5 hT hS hl
      refine lv_aload_n hx hb dX5_advanceWord_5 rfl (lv_at hl 0 rfl) ?_
      refine gX5_3 S hK hT ha kf_X5_19 dX5_advanceWord_6 (v := (G_5.1 a 3)) rfl (?_)
      refine lv_aload_n hx hb dX5_advanceWord_9 rfl (lv_at hl 0 rfl) ?_
      refine gX5_0 S hK hT ha kf_X5_9 dX5_advanceWord_10 (fun _ _ => ?_)
      refine x_clp (x_runV (b := (F a 0)) (As := []) (rest := [.int (G_5.1 a 3)]) S (c_X8_length l E K F G_5 H (F a 0) hk9999) mv_X8_length km_X5_106 rfl rfl ⟨Nat.le_of_ble_eq_true rfl, Nat.le_of_ble_eq_true rfl⟩ (rc_10 hK hT hk9999) hK (fun _ => XPh.blind) (fun U hU hW => XPh.at hK hz hS hT hU hW) rfl hl.1 (Nat.le_of_ble_eq_true rfl) dX5_advanceWord_13 ⟨Nat.le_of_ble_eq_true rfl, Nat.le_of_ble_eq_true rfl⟩) hS ?_
      rintro _ _ locs ⟨x13, rfl, t13⟩ hS
      have t13 : x13.toInt = ((G.1 (F a 0) 1).toInt) := by rw [(show (G_5.1 (F a 0) 1).toInt = ((G.1 (F a 0) 1).toInt) from (congrArg Int32.toInt ((hF_5.1 _ _ (xnj (by decide) xn0)).trans (ld_a hG2 (xne_k hk9999 ha (by decide))))).trans (rfl : Int32.toInt (G.1 (F a 0) 1) = ((G.1 (F a 0) 1).toInt)))] at t13; exact t13
      refine xi_cge (tgt := 49) hx hb (rfl : Int32.toInt (G_5.1 a 3) = ((G_5.1 a 3).toInt)) (t13 : Int32.toInt x13 = ((G.1 (F a 0) 1).toInt)) dX5_advanceWord_16 (by decide) (fun c16 => ?_) (fun c16 => ?_)
      · exact x_rv hx hb hr hlk hQ (Nat.le_of_ble_eq_true rfl) (Nat.le_of_ble_eq_true rfl) hS dX5_advanceWord_49 G_5 ⟨(XFr.call (by rw [hG2]; exact XFr.dput XFr.rf (List.mem_of_getElem? (i := 0) rfl)) hF_5 (xm1 1 rfl xm0) xm0 xm0), (by rw [(show (G_5.1 a 1).toInt = (1 : Int) from (congrArg Int32.toInt ((hF_5.1 _ _ (xnj (by decide) xn0)).trans (ld_at hG2))).trans ((by decide) : Int32.toInt 1 = (1 : Int)))] <;> exact (z_X5_advanceWord_2 ((G.1 (F a 0) 1).toInt) ((G.1 a 3).toInt) ((G_5.1 a 3).toInt) I5_0)), (v_X5_advanceWord_49_1 (K := K) (F := F) a G G_5 N5 ha pr n0 s0 I5_0 hm5 c16)⟩ hT
      · refine lv_aload_n hx hb dX5_advanceWord_19 rfl (lv_at hl 0 rfl) ?_
        refine gX5_0 S hK hT ha kf_X5_9 dX5_advanceWord_20 (fun _ _ => ?_)
        refine lv_aload_n hx hb dX5_advanceWord_23 rfl (lv_at hl 0 rfl) ?_
        refine gX5_3 S hK hT ha kf_X5_19 dX5_advanceWord_24 (v := (G_5.1 a 3)) rfl (?_)
        refine x_clp (x_runV (b := (F a 0)) (As := [.int (G_5.1 a 3)]) (rest := []) S (c_X8_signAt l E K F G_5 H (F a 0) (G_5.1 a 3) hk9999 (by rw [(show (G_5.1 (F a 0) 1).toInt = ((G.1 (F a 0) 1).toInt) from (congrArg Int32.toInt ((hF_5.1 _ _ (xnj (by decide) xn0)).trans (ld_a hG2 (xne_k hk9999 ha (by decide))))).trans (rfl : Int32.toInt (G.1 (F a 0) 1) = ((G.1 (F a 0) 1).toInt)))] <;> exact (n0))) mv_X8_signAt km_X5_97 rfl rfl ⟨Nat.le_of_ble_eq_true rfl, Nat.le_of_ble_eq_true rfl⟩ (rc_10 hK hT hk9999) hK (fun _ => XPh.blind) (fun U hU hW => XPh.at hK hz hS hT hU hW) rfl hl.1 (Nat.le_of_ble_eq_true rfl) dX5_advanceWord_27 ⟨Nat.le_of_ble_eq_true rfl, Nat.le_of_ble_eq_true rfl⟩) hS ?_
        rintro _ _ locs ⟨x27, rfl, b27, t27⟩ hS
        have t27 : x27.toInt = (tC (G.2.1 (F (F a 0) 0)) ((G.1 (F a 0) 1).toInt) ((G_5.1 a 3).toInt)) := by rw [(show G_5.2.1 (F (F a 0) 0) = G.2.1 (F (F a 0) 0) from ((hF_5.2.1 _ xn0).trans (ld_c hG2)))] at t27; rw [(show (G_5.1 (F a 0) 1).toInt = ((G.1 (F a 0) 1).toInt) from (congrArg Int32.toInt ((hF_5.1 _ _ (xnj (by decide) xn0)).trans (ld_a hG2 (xne_k hk9999 ha (by decide))))).trans (rfl : Int32.toInt (G.1 (F a 0) 1) = ((G.1 (F a 0) 1).toInt)))] at t27; exact t27
        refine x_clp (x_runS (As := [.int x27]) (rest := []) S (c_X5_isLetter l E K F G_5 H x27) ms_X5_isLetter km_X5_107 rfl rfl ⟨Nat.le_of_ble_eq_true rfl, Nat.le_of_ble_eq_true rfl⟩ hK (fun _ => XPh.blind) (fun U hU hW => XPh.at hK hz hS hT hU hW) rfl hl.1 (Nat.le_of_ble_eq_true rfl) dX5_advanceWord_30 ⟨Nat.le_of_ble_eq_true rfl, Nat.le_of_ble_eq_true rfl⟩) hS ?_
        rintro _ _ locs ⟨x30, rfl, b30, t30⟩ hS
        have t30 : (x30.toInt = 1 ∧ 97 ≤ x27.toInt ∧ x27.toInt ≤ 122) ∨ (x30.toInt = 0 ∧ (x27.toInt < 97 ∨ 122 < x27.toInt)) := t30
        refine xi_zeq (tgt := 49) hx hb (rfl : Int32.toInt x30 = x30.toInt) dX5_advanceWord_33 (by decide) (fun c33 => ?_) (fun c33 => ?_)
        · exact x_rv hx hb hr hlk hQ (Nat.le_of_ble_eq_true rfl) (Nat.le_of_ble_eq_true rfl) hS dX5_advanceWord_49 G_5 ⟨(XFr.call (by rw [hG2]; exact XFr.dput XFr.rf (List.mem_of_getElem? (i := 0) rfl)) hF_5 (xm1 1 rfl xm0) xm0 xm0), (by rw [(show (G_5.1 a 1).toInt = (1 : Int) from (congrArg Int32.toInt ((hF_5.1 _ _ (xnj (by decide) xn0)).trans (ld_at hG2))).trans ((by decide) : Int32.toInt 1 = (1 : Int)))] <;> exact (z_X5_advanceWord_2 ((G.1 (F a 0) 1).toInt) ((G.1 a 3).toInt) ((G_5.1 a 3).toInt) I5_0)), (v_X5_advanceWord_49_2 (K := K) (F := F) a G G_5 N5 x27 x30 ha pr n0 s0 I5_0 hm5 c16 t27 t30 c33)⟩ hT
        · refine lv_aload_n hx hb dX5_advanceWord_36 rfl (lv_at hl 0 rfl) ?_
          refine lv_dup hx hb dX5_advanceWord_37 rfl ?_
          refine gX5_3 S hK hT ha kf_X5_19 dX5_advanceWord_38 (v := (G_5.1 a 3)) rfl (?_)
          refine lv_iconst (v := 1) hx hb dX5_advanceWord_41 (by decide) ?_
          refine xi_iadd hx hb (rfl : Int32.toInt (G_5.1 a 3) = ((G_5.1 a 3).toInt)) ((by decide) : Int32.toInt 1 = (1 : Int)) dX5_advanceWord_42 (fun x42 t42 => ?_)
          have e42 : x42.toInt = (((G_5.1 a 3).toInt) + (1 : Int)) := (z_X5_advanceWord_5 x42.toInt ((G.1 (F a 0) 1).toInt) ((G_5.1 a 3).toInt) n0 c16 t42 (xr (G_5.1 a 3)))
          refine pX5_3 (v := x42) S hK hT hS ha kf_X5_19 dX5_advanceWord_43 (fun H locs hT hS => ?_)
          obtain ⟨G43, hG43⟩ : ∃ GG : XG, GG = dput G_5 a 3 x42 := ⟨_, rfl⟩
          rw [← hG43] at hT
          refine lv_goto (tgt := 5) hx hb dX5_advanceWord_46 (by decide) ?_
          exact ih5 G43 _ _ _ (by rw [hG43]; exact XFr.dput (XFr.call XFr.rf hF_5 (xm1 0 rfl xm0) xm0 xm0) (List.mem_of_getElem? (i := 0) rfl)) (by rw [(show (G43.1 a 3).toInt = (((G_5.1 a 3).toInt) + (1 : Int)) from (congrArg Int32.toInt (ld_at hG43)).trans (e42 : Int32.toInt x42 = (((G_5.1 a 3).toInt) + (1 : Int))))] <;> exact (v_X5_advanceWord_46_3 (K := K) (F := F) a G G_5 N5 x27 x30 ha pr n0 s0 I5_0 hm5 c16 t27 t30 c33)) (by rw [(show (G43.1 a 3).toInt = (((G_5.1 a 3).toInt) + (1 : Int)) from (congrArg Int32.toInt (ld_at hG43)).trans (e42 : Int32.toInt x42 = (((G_5.1 a 3).toInt) + (1 : Int))))] <;> exact (z_X5_advanceWord_6 ((G.1 (F a 0) 1).toInt) ((G.1 a 3).toInt) ((G_5.1 a 3).toInt) I5_0 c16)) (by rw [(show (G43.1 a 3).toInt = (((G_5.1 a 3).toInt) + (1 : Int)) from (congrArg Int32.toInt (ld_at hG43)).trans (e42 : Int32.toInt x42 = (((G_5.1 a 3).toInt) + (1 : Int))))] <;> exact (z_X5_advanceWord_7 N5 ((G_5.1 a 3).toInt) hm5)) hT hS (lv_sub hl [0] rfl)
  exact L5 4294967297 G2 _ _ _ XFr.rf (by rw [(show (G2.1 a 3).toInt = ((G.1 a 3).toInt) from (congrArg Int32.toInt (ld_j hG2 (by decide))).trans (rfl : Int32.toInt (G.1 a 3) = ((G.1 a 3).toInt)))] <;> exact (v_X5_advanceWord_2_4 (K := K) (F := F) a G ha n0 s0)) (by rw [(show (G2.1 a 3).toInt = ((G.1 a 3).toInt) from (congrArg Int32.toInt (ld_j hG2 (by decide))).trans (rfl : Int32.toInt (G.1 a 3) = ((G.1 a 3).toInt)))] <;> exact (z_X5_advanceWord_8 ((G.1 (F a 0) 1).toInt) ((G.1 a 3).toInt) s0)) (by rw [(show (G2.1 a 3).toInt = ((G.1 a 3).toInt) from (congrArg Int32.toInt (ld_j hG2 (by decide))).trans (rfl : Int32.toInt (G.1 a 3) = ((G.1 a 3).toInt)))] <;> exact (z_X5_advanceWord_9 ((G.1 (F a 0) 1).toInt) ((G.1 a 3).toInt) s0)) hT hS (lv_sub hl [0] rfl)

theorem z_X5_advanceNumber_2 (a0 : Int) (a1 : Int) (a2 : Int) (h0 : 0 ≤ a0 ∧ a2 ≤ a1) (h1 : 0 ≤ a1 ∧ a1 ≤ 80) : ¬ (200 - a2 < ((0 : Nat) : Int)) := by omega
theorem z_X5_advanceNumber_3 (a0 : Int) (a1 : Int) (a2 : Int) (a3 : Int) (h0 : 0 ≤ a2 ∧ a2 < a1) (h1 : 0 ≤ a0 ∧ a3 ≤ a1) (h2 : a1 ≤ a3) : 0 ≤ a3 ∧ a3 ≤ a1 := by omega
theorem z_X5_advanceNumber_7 (a0 : Int) (a1 : Int) (a2 : Int) (a3 : Int) (a4 : Int) (a5 : Int) (h0 : 0 ≤ a2 ∧ a2 < a1) (h1 : (a5 = 45 ∧ a4 = a2 + 1) ∨ (a5 ≠ 45 ∧ a4 = a2)) (h2 : a3 = a4 + a0) (h3 : 0 ≤ a0 ∧ a3 ≤ a1) : 0 ≤ a3 ∧ a3 ≤ a1 := by omega
theorem z_X5_advanceNumber_8 (a0 : Int) (a1 : Int) (a2 : Int) (a3 : Int) (a4 : Int) (a5 : Int) (h0 : 0 ≤ a2 ∧ a2 < a1) (h1 : (a5 = 45 ∧ a4 = a2 + 1) ∨ (a5 ≠ 45 ∧ a4 = a2)) (h2 : a3 = a4 + a0) (h3 : ¬ (a1 ≤ a3)) (h4 : (4 : Int) < a0) : 0 ≤ a3 ∧ a3 ≤ a1 := by omega
theorem z_X5_advanceNumber_9 (a0 : Int) (a1 : Int) (a2 : Int) (a3 : Int) (a4 : Int) (a5 : Int) (h0 : 0 ≤ a2 ∧ a2 < a1) (h1 : (a5 = 45 ∧ a4 = a2 + 1) ∨ (a5 ≠ 45 ∧ a4 = a2)) (h2 : a3 = a4 + a0) (h3 : ¬ (a1 ≤ a3)) (h4 : ¬ (a0 < (1 : Int))) : 0 ≤ a3 ∧ a3 ≤ a1 := by omega
theorem z_X5_advanceNumber_10 (a0 : Int) (a1 : Int) (a2 : Int) (h0 : 0 ≤ a0 ∧ a2 ≤ a1) : 0 ≤ a0 := by omega
theorem z_X5_advanceNumber_11 (a0 : Int) (a1 : Int) (a2 : Int) (a3 : Int) (a4 : Int) (a5 : Int) (a6 : Int) (h0 : 0 ≤ a2 ∧ a2 ≤ 80) (h1 : 0 ≤ a3 ∧ a3 < a2) (h2 : (a6 = 45 ∧ a5 = a3 + 1) ∨ (a6 ≠ 45 ∧ a5 = a3)) (h3 : a4 = a5 + a0) (h4 : ¬ (a2 ≤ a4)) (h5 : (4 : Int) ≤ a0) (h6 : a1 = (a0 + 1) ∨ (a0 + 1) < -2147483648 ∨ 2147483648 ≤ (a0 + 1)) : a1 = (a0 + 1) := by omega
theorem z_X5_advanceNumber_13 (a0 : Int) (a1 : Int) (a2 : Int) (h0 : a1 = a2 + a0) : (a1 + (1 : Int)) = a2 + (a0 + 1) := by omega
theorem z_X5_advanceNumber_14 (a0 : Int) (a1 : Int) (a2 : Int) (h0 : ¬ (a1 ≤ a2)) (h1 : (4 : Int) ≤ a0) : 0 ≤ (a0 + 1) ∧ (a2 + (1 : Int)) ≤ a1 := by omega
theorem z_X5_advanceNumber_15 (a0 : Int) (a1 : Int) (h0 : (a1 = 0 ∧ a0 = 0) ∨ (a1 = 1 ∧ 0 ≤ a0 ∧ a0 ≤ 9) ∨ (a1 = 2 ∧ 0 ≤ a0 ∧ a0 ≤ 99) ∨ (a1 = 3 ∧ 0 ≤ a0 ∧ a0 ≤ 999) ∨ (4 ≤ a1 ∧ 0 ≤ a0 ∧ a0 ≤ 9999)) : ((a1 + 1) = 0 ∧ a0 = 0) ∨ ((a1 + 1) = 1 ∧ 0 ≤ a0 ∧ a0 ≤ 9) ∨ ((a1 + 1) = 2 ∧ 0 ≤ a0 ∧ a0 ≤ 99) ∨ ((a1 + 1) = 3 ∧ 0 ≤ a0 ∧ a0 ≤ 999) ∨ (4 ≤ (a1 + 1) ∧ 0 ≤ a0 ∧ a0 ≤ 9999) := by omega
theorem z_X5_advanceNumber_16 (a0 : Int) (a1 : Int) (a2 : Int) (h0 : (4 : Int) ≤ a1) : (a1 + 1) ≤ 4 → a0 = a2 := by omega
theorem z_X5_advanceNumber_18 (a0 : Int) (a1 : Int) (a2 : Int) (h0 : (a1 = 0 ∧ a0 = 0) ∨ (a1 = 1 ∧ 0 ≤ a0 ∧ a0 ≤ 9) ∨ (a1 = 2 ∧ 0 ≤ a0 ∧ a0 ≤ 99) ∨ (a1 = 3 ∧ 0 ≤ a0 ∧ a0 ≤ 999) ∨ (4 ≤ a1 ∧ 0 ≤ a0 ∧ a0 ≤ 9999)) (h1 : a2 = (a0 * (10 : Int)) ∨ (a0 * (10 : Int)) < -2147483648 ∨ 2147483648 ≤ (a0 * (10 : Int))) : a2 = (a0 * (10 : Int)) := by omega
theorem z_X5_advanceNumber_20 (a0 : Int) (a1 : Int) (a2 : Int) (a3 : Int) (a4 : Int) (h0 : a1 = a4) (h1 : (a2 = 1 ∧ 48 ≤ a1 ∧ a1 ≤ 57) ∨ (a2 = 0 ∧ (a1 < 48 ∨ 57 < a1))) (h2 : ¬ (a2 = 0)) (h3 : a3 = a4) (h4 : a0 = (a3 - (48 : Int)) ∨ (a3 - (48 : Int)) < -2147483648 ∨ 2147483648 ≤ (a3 - (48 : Int))) : a0 = (a3 - (48 : Int)) := by omega
theorem z_X5_advanceNumber_21 (a0 : Int) (a1 : Int) (a2 : Int) (a3 : Int) (a4 : Int) (a5 : Int) (a6 : Int) (h0 : (a1 = 0 ∧ a0 = 0) ∨ (a1 = 1 ∧ 0 ≤ a0 ∧ a0 ≤ 9) ∨ (a1 = 2 ∧ 0 ≤ a0 ∧ a0 ≤ 99) ∨ (a1 = 3 ∧ 0 ≤ a0 ∧ a0 ≤ 999) ∨ (4 ≤ a1 ∧ 0 ≤ a0 ∧ a0 ≤ 9999)) (h1 : a3 = a6) (h2 : (a4 = 1 ∧ 48 ≤ a3 ∧ a3 ≤ 57) ∨ (a4 = 0 ∧ (a3 < 48 ∨ 57 < a3))) (h3 : ¬ (a4 = 0)) (h4 : a5 = a6) (h5 : a2 = ((a0 * (10 : Int)) + (a5 - (48 : Int))) ∨ ((a0 * (10 : Int)) + (a5 - (48 : Int))) < -2147483648 ∨ 2147483648 ≤ ((a0 * (10 : Int)) + (a5 - (48 : Int)))) : a2 = ((a0 * (10 : Int)) + (a5 - (48 : Int))) := by omega
theorem z_X5_advanceNumber_22 (a0 : Int) (a1 : Int) (a2 : Int) (a3 : Int) (h0 : 0 ≤ a0 ∧ a3 ≤ a2) (h1 : ¬ ((4 : Int) ≤ a0)) (h2 : a1 = (a0 + 1) ∨ (a0 + 1) < -2147483648 ∨ 2147483648 ≤ (a0 + 1)) : a1 = (a0 + 1) := by omega
theorem z_X5_advanceNumber_25 (a0 : Int) (a1 : Int) (a2 : Int) (h0 : 0 ≤ a0 ∧ a2 ≤ a1) (h1 : ¬ (a1 ≤ a2)) : 0 ≤ (a0 + 1) ∧ (a2 + (1 : Int)) ≤ a1 := by omega
theorem z_X5_advanceNumber_26 (a0 : Int) (a1 : Int) (a2 : Int) (a3 : Int) (a4 : Int) (a5 : Int) (h0 : (a1 = 0 ∧ a0 = 0) ∨ (a1 = 1 ∧ 0 ≤ a0 ∧ a0 ≤ 9) ∨ (a1 = 2 ∧ 0 ≤ a0 ∧ a0 ≤ 99) ∨ (a1 = 3 ∧ 0 ≤ a0 ∧ a0 ≤ 999) ∨ (4 ≤ a1 ∧ 0 ≤ a0 ∧ a0 ≤ 9999)) (h1 : a2 = a5) (h2 : (a3 = 1 ∧ 48 ≤ a2 ∧ a2 ≤ 57) ∨ (a3 = 0 ∧ (a2 < 48 ∨ 57 < a2))) (h3 : ¬ (a3 = 0)) (h4 : ¬ ((4 : Int) ≤ a1)) (h5 : a4 = a5) : ((a1 + 1) = 0 ∧ ((a0 * (10 : Int)) + (a4 - (48 : Int))) = 0) ∨ ((a1 + 1) = 1 ∧ 0 ≤ ((a0 * (10 : Int)) + (a4 - (48 : Int))) ∧ ((a0 * (10 : Int)) + (a4 - (48 : Int))) ≤ 9) ∨ ((a1 + 1) = 2 ∧ 0 ≤ ((a0 * (10 : Int)) + (a4 - (48 : Int))) ∧ ((a0 * (10 : Int)) + (a4 - (48 : Int))) ≤ 99) ∨ ((a1 + 1) = 3 ∧ 0 ≤ ((a0 * (10 : Int)) + (a4 - (48 : Int))) ∧ ((a0 * (10 : Int)) + (a4 - (48 : Int))) ≤ 999) ∨ (4 ≤ (a1 + 1) ∧ 0 ≤ ((a0 * (10 : Int)) + (a4 - (48 : Int))) ∧ ((a0 * (10 : Int)) + (a4 - (48 : Int))) ≤ 9999) := by omega
theorem z_X5_advanceNumber_27 (a0 : Int) (a1 : Int) (a2 : Int) (a3 : Int) (a4 : Int) (a5 : Int) (a6 : Int) (a7 : Int) (a8 : Int) (h0 : a3 = a4 + a1) (h1 : a1 ≤ 4 → a0 = a6) (h2 : a5 = 10 * a6 + (a8 - 48)) (h3 : a3 = a4 + a1 → a8 = a7) (h4 : a2 = a7) : (a1 + 1) ≤ 4 → ((a0 * (10 : Int)) + (a2 - (48 : Int))) = a5 := by omega
theorem z_X5_advanceNumber_29 (a0 : Int) (a1 : Int) (a2 : Int) (a3 : Int) (h0 : (a3 = 45 ∧ a2 = a1 + 1) ∨ (a3 ≠ 45 ∧ a2 = a1)) (h1 : a0 = a3) (h2 : a0 ≠ (45 : Int)) : a1 = a2 + (0 : Int) := by omega
theorem z_X5_advanceNumber_30 (a0 : Int) (a1 : Int) (h0 : 0 ≤ a1 ∧ a1 < a0) : 0 ≤ (0 : Int) ∧ a1 ≤ a0 := by omega
theorem z_X5_advanceNumber_31 (a0 : Int) (h0 : a0 = 0) : (0 : Int) ≤ 4 → (0 : Int) = a0 := by omega
theorem z_X5_advanceNumber_32 (a0 : Int) (a1 : Int) (h0 : 0 ≤ a1 ∧ a1 < a0) : 200 - a1 < ((4294967297 : Nat) : Int) := by omega
theorem z_X5_advanceNumber_33 (a0 : Int) (a1 : Int) (a2 : Int) (h0 : 0 ≤ a1 ∧ a1 ≤ 80) (h1 : 0 ≤ a2 ∧ a2 < a1) (h2 : a0 = (a2 + (1 : Int)) ∨ (a2 + (1 : Int)) < -2147483648 ∨ 2147483648 ≤ (a2 + (1 : Int))) : a0 = (a2 + (1 : Int)) := by omega
theorem z_X5_advanceNumber_61 (a0 : Int) (a1 : Int) (a2 : Int) (a3 : Int) (h0 : (a3 = 45 ∧ a2 = a1 + 1) ∨ (a3 ≠ 45 ∧ a2 = a1)) (h1 : a0 = a3) (h2 : ¬ (a0 ≠ (45 : Int))) : (a1 + (1 : Int)) = a2 + (0 : Int) := by omega
theorem z_X5_advanceNumber_62 (a0 : Int) (a1 : Int) (h0 : 0 ≤ a1 ∧ a1 < a0) : 0 ≤ (0 : Int) ∧ (a1 + (1 : Int)) ≤ a0 := by omega
theorem z_X5_advanceNumber_64 (a0 : Int) (a1 : Int) (h0 : 0 ≤ a1 ∧ a1 < a0) : 200 - (a1 + (1 : Int)) < ((4294967297 : Nat) : Int) := by omega
abbrev rm_X5_advanceNumber : Room := { frames := 1, cells := 0, slots := 0, locals := 21 }
set_option maxHeartbeats 4000000 in
set_option maxRecDepth 100000 in
theorem c_X5_advanceNumber (l : Launch) (E : XE) (K : Nat → Nat) (F : Nat → Nat → Nat) (G : XG) (a : Nat) (ha : K a = 7) (n0 : 0 ≤ ((G.1 (F a 0) 1).toInt) ∧ ((G.1 (F a 0) 1).toInt) ≤ 80) (s0 : 0 ≤ ((G.1 a 2).toInt) ∧ ((G.1 a 2).toInt) < ((G.1 (F a 0) 1).toInt)) : Met l yX5_advanceNumber (xw yX5_advanceNumber cX5_advanceNumber 4 none) rm_X5_advanceNumber (va_Pc [.ref a] (XP E K F G)) (XQv E (fun (u : XG) => XFr [(a, 1), (a, 3), (a, 4)] [] [] G u ∧ (0 ≤ ((u.1 a 3).toInt) ∧ ((u.1 a 3).toInt) ≤ ((G.1 (F a 0) 1).toInt)) ∧ (((u.1 a 3).toInt) = nE (tC (G.2.1 (F (F a 0) 0)) ((G.1 (F a 0) 1).toInt)) ((G.1 a 2).toInt) ∧ ((nOk (tC (G.2.1 (F (F a 0) 0)) ((G.1 (F a 0) 1).toInt)) ((G.1 a 2).toInt) ∧ ((u.1 a 1).toInt) = 2 ∧ ((u.1 a 4).toInt) = nVl (tC (G.2.1 (F (F a 0) 0)) ((G.1 (F a 0) 1).toInt)) ((G.1 a 2).toInt)) ∨ (¬ nOk (tC (G.2.1 (F (F a 0) 0)) ((G.1 (F a 0) 1).toInt)) ((G.1 a 2).toInt) ∧ ((u.1 a 1).toInt) = 3)))) (fun u H => TW E K F u H)) 0 0 (xA E) := by
  refine x_enter (by decide) (Nat.le_of_ble_eq_true rfl) ?_
  intro p e s m args below meth c Q S hr hlk hnm hQ hP ls hl
  obtain ⟨hz, hK, hT⟩ := hP
  obtain ⟨hx, hb, -, -, -⟩ := id S
  obtain ⟨H, hT, hS, hgo⟩ : ∃ H : Heap, TW E K F G H ∧ va_S (xA E) s.heap H [] ∧ H = s.heap := ⟨_, hT, va_S.rf, rfl⟩
  rw [← hgo]
  have hl : lv_has ls 4 [(0, .ref a)] := hl
  obtain ⟨hk9999, hj9999⟩ := fkX5_0 hT ha
  obtain ⟨hk9999a, hj9999a⟩ := fkX8_0 hT hk9999
  have z0 : ((tC (G.2.1 (F (F a 0) 0)) ((G.1 (F a 0) 1).toInt) ((G.1 a 2).toInt)) = 45 ∧ (nS (tC (G.2.1 (F (F a 0) 0)) ((G.1 (F a 0) 1).toInt)) ((G.1 a 2).toInt)) = ((G.1 a 2).toInt) + 1) ∨ ((tC (G.2.1 (F (F a 0) 0)) ((G.1 (F a 0) 1).toInt) ((G.1 a 2).toInt)) ≠ 45 ∧ (nS (tC (G.2.1 (F (F a 0) 0)) ((G.1 (F a 0) 1).toInt)) ((G.1 a 2).toInt)) = ((G.1 a 2).toInt)) := (nS_f _ _).imp (fun h => ⟨h.1, h.2.1⟩) (fun h => ⟨h.1, h.2.1⟩)
  have z0a : (nv (tC (G.2.1 (F (F a 0) 0)) ((G.1 (F a 0) 1).toInt)) (nS (tC (G.2.1 (F (F a 0) 0)) ((G.1 (F a 0) 1).toInt)) ((G.1 a 2).toInt)) 0) = 0 := nv_0 _ _
  refine lv_aload_n hx hb dX5_advanceNumber_0 rfl (lv_at hl 0 rfl) ?_
  refine gX5_0 S hK hT ha kf_X5_9 dX5_advanceNumber_1 (fun _ _ => ?_)
  refine lv_aload_n hx hb dX5_advanceNumber_4 rfl (lv_at hl 0 rfl) ?_
  refine gX5_2 S hK hT ha kf_X5_78 dX5_advanceNumber_5 (v := (G.1 a 2)) rfl (?_)
  refine x_clp (x_runV (b := (F a 0)) (As := [.int (G.1 a 2)]) (rest := []) S (c_X8_signAt l E K F G H (F a 0) (G.1 a 2) hk9999 (n0)) mv_X8_signAt km_X5_97 rfl rfl ⟨Nat.le_of_ble_eq_true rfl, Nat.le_of_ble_eq_true rfl⟩ (rc_10 hK hT hk9999) hK (fun _ => XPh.blind) (fun U hU hW => XPh.at hK hz hS hT hU hW) rfl hl.1 (Nat.le_of_ble_eq_true rfl) dX5_advanceNumber_8 ⟨Nat.le_of_ble_eq_true rfl, Nat.le_of_ble_eq_true rfl⟩) hS ?_
  rintro _ _ locs ⟨x8, rfl, b8, t8⟩ hS
  have t8 : x8.toInt = (tC (G.2.1 (F (F a 0) 0)) ((G.1 (F a 0) 1).toInt) ((G.1 a 2).toInt)) := t8
  refine lv_bipush (v := 45) hx hb dX5_advanceNumber_11 (by decide) ?_
  refine xi_cne (tgt := 20) hx hb (rfl : Int32.toInt x8 = x8.toInt) ((by decide) : Int32.toInt 45 = (45 : Int)) dX5_advanceNumber_13 (by decide) (fun c13 => ?_) (fun c13 => ?_)
  · refine lv_iconst (v := 0) hx hb dX5_advanceNumber_20 (by decide) ?_
    refine lv_istore_n (lv' := [(1, .int 0), (0, .ref a)]) hx hb dX5_advanceNumber_21 rfl hl (by decide) rfl (fun ls hl => ?_)
    refine lv_iconst (v := 0) hx hb dX5_advanceNumber_22 (by decide) ?_
    refine lv_istore_n (lv' := [(2, .int 0), (1, .int 0), (0, .ref a)]) hx hb dX5_advanceNumber_23 rfl hl (by decide) rfl (fun ls hl => ?_)
    refine lv_iconst (v := 0) hx hb dX5_advanceNumber_24 (by decide) ?_
    refine lv_istore_n (lv' := [(3, .int 0), (2, .int 0), (1, .int 0), (0, .ref a)]) hx hb dX5_advanceNumber_25 rfl hl (by decide) rfl (fun ls hl => ?_)
    refine lv_aload_n hx hb dX5_advanceNumber_26 rfl (lv_at hl 3 rfl) ?_
    refine lv_iload_n hx hb dX5_advanceNumber_27 rfl (lv_at hl 2 rfl) ?_
    refine xi_zeq (tgt := 40) hx hb ((by decide) : Int32.toInt 0 = (0 : Int)) dX5_advanceNumber_28 (by decide) (fun _ => ?_) (fun c => absurd (show (0 : Int) = 0 by decide) c)
    refine lv_aload_n hx hb dX5_advanceNumber_40 rfl (lv_at hl 3 rfl) ?_
    refine gX5_2 S hK hT ha kf_X5_78 dX5_advanceNumber_41 (v := (G.1 a 2)) rfl (?_)
    refine pX5_3 (v := (G.1 a 2)) S hK hT hS ha kf_X5_19 dX5_advanceNumber_44 (fun H locs hT hS => ?_)
    obtain ⟨G44, hG44⟩ : ∃ GG : XG, GG = dput G a 3 (G.1 a 2) := ⟨_, rfl⟩
    rw [← hG44] at hT
    have L47 : ∀ (N47 : Nat) (l2_47 : Int32) (l3_47 : Int32) (G_47 : XG) (H : Heap) (locs : List Loc) (ls : Array Slot), XFr [(a, 3)] [] [] G44 G_47 → (∀ j : Int, nS (tC (G.2.1 (F (F a 0) 0)) ((G.1 (F a 0) 1).toInt)) ((G.1 a 2).toInt) ≤ j → j < ((G_47.1 a 3).toInt) → cDg ((tC (G.2.1 (F (F a 0) 0)) ((G.1 (F a 0) 1).toInt)) j)) → ((G_47.1 a 3).toInt) = (nS (tC (G.2.1 (F (F a 0) 0)) ((G.1 (F a 0) 1).toInt)) ((G.1 a 2).toInt)) + l3_47.toInt → 0 ≤ l3_47.toInt ∧ ((G_47.1 a 3).toInt) ≤ ((G.1 (F a 0) 1).toInt) → (l3_47.toInt = 0 ∧ l2_47.toInt = 0) ∨ (l3_47.toInt = 1 ∧ 0 ≤ l2_47.toInt ∧ l2_47.toInt ≤ 9) ∨ (l3_47.toInt = 2 ∧ 0 ≤ l2_47.toInt ∧ l2_47.toInt ≤ 99) ∨ (l3_47.toInt = 3 ∧ 0 ≤ l2_47.toInt ∧ l2_47.toInt ≤ 999) ∨ (4 ≤ l3_47.toInt ∧ 0 ≤ l2_47.toInt ∧ l2_47.toInt ≤ 9999) → (l3_47.toInt ≤ 4 → l2_47.toInt = (nv (tC (G.2.1 (F (F a 0) 0)) ((G.1 (F a 0) 1).toInt)) (nS (tC (G.2.1 (F (F a 0) 0)) ((G.1 (F a 0) 1).toInt)) ((G.1 a 2).toInt)) (l3_47.toInt))) → 200 - ((G_47.1 a 3).toInt) < ((N47 : Nat) : Int) → TW E K F G_47 H → va_S (xA E) s.heap H locs → lv_has ls 4 [(0, .ref a), (1, .int 0), (2, .int l2_47), (3, .int l3_47)] → W p l e rm_X5_advanceNumber s m args below meth c H locs 0 0 Q (F0 m 47 ls []) := by
      intro N47
      induction N47 with
      | zero =>
        intro l2_47 l3_47 G_47 H locs ls hF_47 pr I47_0 I47_1 I47_2 I47_3 hm47
        exact absurd hm47 (z_X5_advanceNumber_2 l3_47.toInt ((G.1 (F a 0) 1).toInt) ((G_47.1 a 3).toInt) I47_1 n0)
      | succ N47 ih47 =>
        intro l2_47 l3_47 G_47 H locs ls hF_47 pr I47_0 I47_1 I47_2 I47_3 hm47 hT hS hl
        refine lv_aload_n hx hb dX5_advanceNumber_47 rfl (lv_at hl 0 rfl) ?_
        refine gX5_3 S hK hT ha kf_X5_19 dX5_advanceNumber_48 (v := (G_47.1 a 3)) rfl (?_)
        refine lv_aload_n hx hb dX5_advanceNumber_51 rfl (lv_at hl 0 rfl) ?_
        refine gX5_0 S hK hT ha kf_X5_9 dX5_advanceNumber_52 (fun _ _ => ?_)
        refine x_clp (x_runV (b := (F a 0)) (As := []) (rest := [.int (G_47.1 a 3)]) S (c_X8_length l E K F G_47 H (F a 0) hk9999) mv_X8_length km_X5_106 rfl rfl ⟨Nat.le_of_ble_eq_true rfl, Nat.le_of_ble_eq_true rfl⟩ (rc_10 hK hT hk9999) hK (fun _ => XPh.blind) (fun U hU hW => XPh.at hK hz hS hT hU hW) rfl hl.1 (Nat.le_of_ble_eq_true rfl) dX5_advanceNumber_55 ⟨Nat.le_of_ble_eq_true rfl, Nat.le_of_ble_eq_true rfl⟩) hS ?_
        rintro _ _ locs ⟨x55, rfl, t55⟩ hS
        have t55 : x55.toInt = ((G.1 (F a 0) 1).toInt) := by rw [(show (G_47.1 (F a 0) 1).toInt = ((G.1 (F a 0) 1).toInt) from (congrArg Int32.toInt ((hF_47.1 _ _ (xnj (by decide) xn0)).trans (ld_j hG44 (by decide)))).trans (rfl : Int32.toInt (G.1 (F a 0) 1) = ((G.1 (F a 0) 1).toInt)))] at t55; exact t55
        refine xi_cge (tgt := 119) hx hb (rfl : Int32.toInt (G_47.1 a 3) = ((G_47.1 a 3).toInt)) (t55 : Int32.toInt x55 = ((G.1 (F a 0) 1).toInt)) dX5_advanceNumber_58 (by decide) (fun c58 => ?_) (fun c58 => ?_)
        · refine lv_aload_n hx hb dX5_advanceNumber_119 rfl (lv_at hl 0 rfl) ?_
          refine lv_iload_n hx hb dX5_advanceNumber_120 rfl (lv_at hl 3 rfl) ?_
          refine lv_iconst (v := 1) hx hb dX5_advanceNumber_121 (by decide) ?_
          refine xi_clt (tgt := 134) hx hb (rfl : Int32.toInt l3_47 = l3_47.toInt) ((by decide) : Int32.toInt 1 = (1 : Int)) dX5_advanceNumber_122 (by decide) (fun c122 => ?_) (fun c122 => ?_)
          · refine lv_iconst (v := 3) hx hb dX5_advanceNumber_134 (by decide) ?_
            refine pX5_1 (v := 3) S hK hT hS ha kf_X5_75 dX5_advanceNumber_135 (fun H locs hT hS => ?_)
            obtain ⟨G135, hG135⟩ : ∃ GG : XG, GG = dput G_47 a 1 3 := ⟨_, rfl⟩
            rw [← hG135] at hT
            refine lv_aload_n hx hb dX5_advanceNumber_138 rfl (lv_at hl 0 rfl) ?_
            refine lv_iload_n hx hb dX5_advanceNumber_139 rfl (lv_at hl 1 rfl) ?_
            refine xi_zeq (tgt := 148) hx hb ((by decide) : Int32.toInt 0 = (0 : Int)) dX5_advanceNumber_140 (by decide) (fun _ => ?_) (fun c => absurd (show (0 : Int) = 0 by decide) c)
            refine lv_iload_n hx hb dX5_advanceNumber_148 rfl (lv_at hl 2 rfl) ?_
            refine pX5_4 (v := l2_47) S hK hT hS ha kf_X5_89 dX5_advanceNumber_149 (fun H locs hT hS => ?_)
            obtain ⟨G149, hG149⟩ : ∃ GG : XG, GG = dput G135 a 4 l2_47 := ⟨_, rfl⟩
            rw [← hG149] at hT
            exact x_rv hx hb hr hlk hQ (Nat.le_of_ble_eq_true rfl) (Nat.le_of_ble_eq_true rfl) hS dX5_advanceNumber_152 G149 ⟨(by rw [hG149]; exact XFr.dput (by rw [hG135]; exact XFr.dput (XFr.call (by rw [hG44]; exact XFr.dput XFr.rf (List.mem_of_getElem? (i := 1) rfl)) hF_47 (xm1 1 rfl xm0) xm0 xm0) (List.mem_of_getElem? (i := 0) rfl)) (List.mem_of_getElem? (i := 2) rfl)), (by rw [(show (G149.1 a 3).toInt = ((G_47.1 a 3).toInt) from (congrArg Int32.toInt ((ld_j hG149 (by decide)).trans (ld_j hG135 (by decide)))).trans (rfl : Int32.toInt (G_47.1 a 3) = ((G_47.1 a 3).toInt)))] <;> exact (z_X5_advanceNumber_3 l3_47.toInt ((G.1 (F a 0) 1).toInt) ((G.1 a 2).toInt) ((G_47.1 a 3).toInt) s0 I47_1 c58)), (v_X5_advanceNumber_152_1 (K := K) (F := F) a G G_47 G149 l2_47 x8 l3_47 N47 ha pr n0 s0 z0 z0a t8 c13 I47_0 I47_1 I47_2 I47_3 hm47 c58 c122 ((ld_j hG149 (by decide)).trans (ld_at hG135)) ((ld_j hG149 (by decide)).trans (ld_j hG135 (by decide))) (ld_at hG149))⟩ hT
          · refine lv_iload_n hx hb dX5_advanceNumber_125 rfl (lv_at hl 3 rfl) ?_
            refine lv_iconst (v := 4) hx hb dX5_advanceNumber_126 (by decide) ?_
            refine xi_cgt (tgt := 134) hx hb (rfl : Int32.toInt l3_47 = l3_47.toInt) ((by decide) : Int32.toInt 4 = (4 : Int)) dX5_advanceNumber_127 (by decide) (fun c127 => ?_) (fun c127 => ?_)
            · refine lv_iconst (v := 3) hx hb dX5_advanceNumber_134 (by decide) ?_
              refine pX5_1 (v := 3) S hK hT hS ha kf_X5_75 dX5_advanceNumber_135 (fun H locs hT hS => ?_)
              obtain ⟨G135, hG135⟩ : ∃ GG : XG, GG = dput G_47 a 1 3 := ⟨_, rfl⟩
              rw [← hG135] at hT
              refine lv_aload_n hx hb dX5_advanceNumber_138 rfl (lv_at hl 0 rfl) ?_
              refine lv_iload_n hx hb dX5_advanceNumber_139 rfl (lv_at hl 1 rfl) ?_
              refine xi_zeq (tgt := 148) hx hb ((by decide) : Int32.toInt 0 = (0 : Int)) dX5_advanceNumber_140 (by decide) (fun _ => ?_) (fun c => absurd (show (0 : Int) = 0 by decide) c)
              refine lv_iload_n hx hb dX5_advanceNumber_148 rfl (lv_at hl 2 rfl) ?_
              refine pX5_4 (v := l2_47) S hK hT hS ha kf_X5_89 dX5_advanceNumber_149 (fun H locs hT hS => ?_)
              obtain ⟨G149, hG149⟩ : ∃ GG : XG, GG = dput G135 a 4 l2_47 := ⟨_, rfl⟩
              rw [← hG149] at hT
              exact x_rv hx hb hr hlk hQ (Nat.le_of_ble_eq_true rfl) (Nat.le_of_ble_eq_true rfl) hS dX5_advanceNumber_152 G149 ⟨(by rw [hG149]; exact XFr.dput (by rw [hG135]; exact XFr.dput (XFr.call (by rw [hG44]; exact XFr.dput XFr.rf (List.mem_of_getElem? (i := 1) rfl)) hF_47 (xm1 1 rfl xm0) xm0 xm0) (List.mem_of_getElem? (i := 0) rfl)) (List.mem_of_getElem? (i := 2) rfl)), (by rw [(show (G149.1 a 3).toInt = ((G_47.1 a 3).toInt) from (congrArg Int32.toInt ((ld_j hG149 (by decide)).trans (ld_j hG135 (by decide)))).trans (rfl : Int32.toInt (G_47.1 a 3) = ((G_47.1 a 3).toInt)))] <;> exact (z_X5_advanceNumber_3 l3_47.toInt ((G.1 (F a 0) 1).toInt) ((G.1 a 2).toInt) ((G_47.1 a 3).toInt) s0 I47_1 c58)), (v_X5_advanceNumber_152_2 (K := K) (F := F) a G G_47 G149 l2_47 x8 l3_47 N47 ha pr n0 s0 z0 z0a t8 c13 I47_0 I47_1 I47_2 I47_3 hm47 c58 c122 c127 ((ld_j hG149 (by decide)).trans (ld_at hG135)) ((ld_j hG149 (by decide)).trans (ld_j hG135 (by decide))) (ld_at hG149))⟩ hT
            · refine lv_iconst (v := 2) hx hb dX5_advanceNumber_130 (by decide) ?_
              refine lv_goto (tgt := 135) hx hb dX5_advanceNumber_131 (by decide) ?_
              refine pX5_1 (v := 2) S hK hT hS ha kf_X5_75 dX5_advanceNumber_135 (fun H locs hT hS => ?_)
              obtain ⟨G135, hG135⟩ : ∃ GG : XG, GG = dput G_47 a 1 2 := ⟨_, rfl⟩
              rw [← hG135] at hT
              refine lv_aload_n hx hb dX5_advanceNumber_138 rfl (lv_at hl 0 rfl) ?_
              refine lv_iload_n hx hb dX5_advanceNumber_139 rfl (lv_at hl 1 rfl) ?_
              refine xi_zeq (tgt := 148) hx hb ((by decide) : Int32.toInt 0 = (0 : Int)) dX5_advanceNumber_140 (by decide) (fun _ => ?_) (fun c => absurd (show (0 : Int) = 0 by decide) c)
              refine lv_iload_n hx hb dX5_advanceNumber_148 rfl (lv_at hl 2 rfl) ?_
              refine pX5_4 (v := l2_47) S hK hT hS ha kf_X5_89 dX5_advanceNumber_149 (fun H locs hT hS => ?_)
              obtain ⟨G149, hG149⟩ : ∃ GG : XG, GG = dput G135 a 4 l2_47 := ⟨_, rfl⟩
              rw [← hG149] at hT
              exact x_rv hx hb hr hlk hQ (Nat.le_of_ble_eq_true rfl) (Nat.le_of_ble_eq_true rfl) hS dX5_advanceNumber_152 G149 ⟨(by rw [hG149]; exact XFr.dput (by rw [hG135]; exact XFr.dput (XFr.call (by rw [hG44]; exact XFr.dput XFr.rf (List.mem_of_getElem? (i := 1) rfl)) hF_47 (xm1 1 rfl xm0) xm0 xm0) (List.mem_of_getElem? (i := 0) rfl)) (List.mem_of_getElem? (i := 2) rfl)), (by rw [(show (G149.1 a 3).toInt = ((G_47.1 a 3).toInt) from (congrArg Int32.toInt ((ld_j hG149 (by decide)).trans (ld_j hG135 (by decide)))).trans (rfl : Int32.toInt (G_47.1 a 3) = ((G_47.1 a 3).toInt)))] <;> exact (z_X5_advanceNumber_3 l3_47.toInt ((G.1 (F a 0) 1).toInt) ((G.1 a 2).toInt) ((G_47.1 a 3).toInt) s0 I47_1 c58)), (v_X5_advanceNumber_152_3 (K := K) (F := F) a G G_47 G149 l2_47 x8 l3_47 N47 ha pr n0 s0 z0 z0a t8 c13 I47_0 I47_1 I47_2 I47_3 hm47 c58 c122 c127 ((ld_j hG149 (by decide)).trans (ld_at hG135)) ((ld_j hG149 (by decide)).trans (ld_j hG135 (by decide))) (ld_at hG149))⟩ hT
        · refine lv_aload_n hx hb dX5_advanceNumber_61 rfl (lv_at hl 0 rfl) ?_
          refine gX5_0 S hK hT ha kf_X5_9 dX5_advanceNumber_62 (fun _ _ => ?_)
          refine lv_aload_n hx hb dX5_advanceNumber_65 rfl (lv_at hl 0 rfl) ?_
          refine gX5_3 S hK hT ha kf_X5_19 dX5_advanceNumber_66 (v := (G_47.1 a 3)) rfl (?_)
          refine x_clp (x_runV (b := (F a 0)) (As := [.int (G_47.1 a 3)]) (rest := []) S (c_X8_signAt l E K F G_47 H (F a 0) (G_47.1 a 3) hk9999 (by rw [(show (G_47.1 (F a 0) 1).toInt = ((G.1 (F a 0) 1).toInt) from (congrArg Int32.toInt ((hF_47.1 _ _ (xnj (by decide) xn0)).trans (ld_j hG44 (by decide)))).trans (rfl : Int32.toInt (G.1 (F a 0) 1) = ((G.1 (F a 0) 1).toInt)))] <;> exact (n0))) mv_X8_signAt km_X5_97 rfl rfl ⟨Nat.le_of_ble_eq_true rfl, Nat.le_of_ble_eq_true rfl⟩ (rc_10 hK hT hk9999) hK (fun _ => XPh.blind) (fun U hU hW => XPh.at hK hz hS hT hU hW) rfl hl.1 (Nat.le_of_ble_eq_true rfl) dX5_advanceNumber_69 ⟨Nat.le_of_ble_eq_true rfl, Nat.le_of_ble_eq_true rfl⟩) hS ?_
          rintro _ _ locs ⟨x69, rfl, b69, t69⟩ hS
          have t69 : x69.toInt = (tC (G.2.1 (F (F a 0) 0)) ((G.1 (F a 0) 1).toInt) ((G_47.1 a 3).toInt)) := by rw [(show G_47.2.1 (F (F a 0) 0) = G.2.1 (F (F a 0) 0) from ((hF_47.2.1 _ xn0).trans (ld_c hG44)))] at t69; rw [(show (G_47.1 (F a 0) 1).toInt = ((G.1 (F a 0) 1).toInt) from (congrArg Int32.toInt ((hF_47.1 _ _ (xnj (by decide) xn0)).trans (ld_j hG44 (by decide)))).trans (rfl : Int32.toInt (G.1 (F a 0) 1) = ((G.1 (F a 0) 1).toInt)))] at t69; exact t69
          refine x_clp (x_runS (As := [.int x69]) (rest := []) S (c_X5_isDigit l E K F G_47 H x69) ms_X5_isDigit km_X5_117 rfl rfl ⟨Nat.le_of_ble_eq_true rfl, Nat.le_of_ble_eq_true rfl⟩ hK (fun _ => XPh.blind) (fun U hU hW => XPh.at hK hz hS hT hU hW) rfl hl.1 (Nat.le_of_ble_eq_true rfl) dX5_advanceNumber_72 ⟨Nat.le_of_ble_eq_true rfl, Nat.le_of_ble_eq_true rfl⟩) hS ?_
          rintro _ _ locs ⟨x72, rfl, b72, t72⟩ hS
          have t72 : (x72.toInt = 1 ∧ 48 ≤ x69.toInt ∧ x69.toInt ≤ 57) ∨ (x72.toInt = 0 ∧ (x69.toInt < 48 ∨ 57 < x69.toInt)) := t72
          refine xi_zeq (tgt := 119) hx hb (rfl : Int32.toInt x72 = x72.toInt) dX5_advanceNumber_75 (by decide) (fun c75 => ?_) (fun c75 => ?_)
          · refine lv_aload_n hx hb dX5_advanceNumber_119 rfl (lv_at hl 0 rfl) ?_
            refine lv_iload_n hx hb dX5_advanceNumber_120 rfl (lv_at hl 3 rfl) ?_
            refine lv_iconst (v := 1) hx hb dX5_advanceNumber_121 (by decide) ?_
            refine xi_clt (tgt := 134) hx hb (rfl : Int32.toInt l3_47 = l3_47.toInt) ((by decide) : Int32.toInt 1 = (1 : Int)) dX5_advanceNumber_122 (by decide) (fun c122 => ?_) (fun c122 => ?_)
            · refine lv_iconst (v := 3) hx hb dX5_advanceNumber_134 (by decide) ?_
              refine pX5_1 (v := 3) S hK hT hS ha kf_X5_75 dX5_advanceNumber_135 (fun H locs hT hS => ?_)
              obtain ⟨G135, hG135⟩ : ∃ GG : XG, GG = dput G_47 a 1 3 := ⟨_, rfl⟩
              rw [← hG135] at hT
              refine lv_aload_n hx hb dX5_advanceNumber_138 rfl (lv_at hl 0 rfl) ?_
              refine lv_iload_n hx hb dX5_advanceNumber_139 rfl (lv_at hl 1 rfl) ?_
              refine xi_zeq (tgt := 148) hx hb ((by decide) : Int32.toInt 0 = (0 : Int)) dX5_advanceNumber_140 (by decide) (fun _ => ?_) (fun c => absurd (show (0 : Int) = 0 by decide) c)
              refine lv_iload_n hx hb dX5_advanceNumber_148 rfl (lv_at hl 2 rfl) ?_
              refine pX5_4 (v := l2_47) S hK hT hS ha kf_X5_89 dX5_advanceNumber_149 (fun H locs hT hS => ?_)
              obtain ⟨G149, hG149⟩ : ∃ GG : XG, GG = dput G135 a 4 l2_47 := ⟨_, rfl⟩
              rw [← hG149] at hT
              exact x_rv hx hb hr hlk hQ (Nat.le_of_ble_eq_true rfl) (Nat.le_of_ble_eq_true rfl) hS dX5_advanceNumber_152 G149 ⟨(by rw [hG149]; exact XFr.dput (by rw [hG135]; exact XFr.dput (XFr.call (by rw [hG44]; exact XFr.dput XFr.rf (List.mem_of_getElem? (i := 1) rfl)) hF_47 (xm1 1 rfl xm0) xm0 xm0) (List.mem_of_getElem? (i := 0) rfl)) (List.mem_of_getElem? (i := 2) rfl)), (by rw [(show (G149.1 a 3).toInt = ((G_47.1 a 3).toInt) from (congrArg Int32.toInt ((ld_j hG149 (by decide)).trans (ld_j hG135 (by decide)))).trans (rfl : Int32.toInt (G_47.1 a 3) = ((G_47.1 a 3).toInt)))] <;> exact (z_X5_advanceNumber_7 l3_47.toInt ((G.1 (F a 0) 1).toInt) ((G.1 a 2).toInt) ((G_47.1 a 3).toInt) (nS (tC (G.2.1 (F (F a 0) 0)) ((G.1 (F a 0) 1).toInt)) ((G.1 a 2).toInt)) (tC (G.2.1 (F (F a 0) 0)) ((G.1 (F a 0) 1).toInt) ((G.1 a 2).toInt)) s0 z0 I47_0 I47_1)), (v_X5_advanceNumber_152_4 (K := K) (F := F) a G G_47 G149 l2_47 x8 l3_47 N47 x69 x72 ha pr n0 s0 z0 z0a t8 c13 I47_0 I47_1 I47_2 I47_3 hm47 c58 t69 t72 c75 c122 ((ld_j hG149 (by decide)).trans (ld_at hG135)) ((ld_j hG149 (by decide)).trans (ld_j hG135 (by decide))) (ld_at hG149))⟩ hT
            · refine lv_iload_n hx hb dX5_advanceNumber_125 rfl (lv_at hl 3 rfl) ?_
              refine lv_iconst (v := 4) hx hb dX5_advanceNumber_126 (by decide) ?_
              refine xi_cgt (tgt := 134) hx hb (rfl : Int32.toInt l3_47 = l3_47.toInt) ((by decide) : Int32.toInt 4 = (4 : Int)) dX5_advanceNumber_127 (by decide) (fun c127 => ?_) (fun c127 => ?_)
              · refine lv_iconst (v := 3) hx hb dX5_advanceNumber_134 (by decide) ?_
                refine pX5_1 (v := 3) S hK hT hS ha kf_X5_75 dX5_advanceNumber_135 (fun H locs hT hS => ?_)
                obtain ⟨G135, hG135⟩ : ∃ GG : XG, GG = dput G_47 a 1 3 := ⟨_, rfl⟩
                rw [← hG135] at hT
                refine lv_aload_n hx hb dX5_advanceNumber_138 rfl (lv_at hl 0 rfl) ?_
                refine lv_iload_n hx hb dX5_advanceNumber_139 rfl (lv_at hl 1 rfl) ?_
                refine xi_zeq (tgt := 148) hx hb ((by decide) : Int32.toInt 0 = (0 : Int)) dX5_advanceNumber_140 (by decide) (fun _ => ?_) (fun c => absurd (show (0 : Int) = 0 by decide) c)
                refine lv_iload_n hx hb dX5_advanceNumber_148 rfl (lv_at hl 2 rfl) ?_
                refine pX5_4 (v := l2_47) S hK hT hS ha kf_X5_89 dX5_advanceNumber_149 (fun H locs hT hS => ?_)
                obtain ⟨G149, hG149⟩ : ∃ GG : XG, GG = dput G135 a 4 l2_47 := ⟨_, rfl⟩
                rw [← hG149] at hT
                exact x_rv hx hb hr hlk hQ (Nat.le_of_ble_eq_true rfl) (Nat.le_of_ble_eq_true rfl) hS dX5_advanceNumber_152 G149 ⟨(by rw [hG149]; exact XFr.dput (by rw [hG135]; exact XFr.dput (XFr.call (by rw [hG44]; exact XFr.dput XFr.rf (List.mem_of_getElem? (i := 1) rfl)) hF_47 (xm1 1 rfl xm0) xm0 xm0) (List.mem_of_getElem? (i := 0) rfl)) (List.mem_of_getElem? (i := 2) rfl)), (by rw [(show (G149.1 a 3).toInt = ((G_47.1 a 3).toInt) from (congrArg Int32.toInt ((ld_j hG149 (by decide)).trans (ld_j hG135 (by decide)))).trans (rfl : Int32.toInt (G_47.1 a 3) = ((G_47.1 a 3).toInt)))] <;> exact (z_X5_advanceNumber_8 l3_47.toInt ((G.1 (F a 0) 1).toInt) ((G.1 a 2).toInt) ((G_47.1 a 3).toInt) (nS (tC (G.2.1 (F (F a 0) 0)) ((G.1 (F a 0) 1).toInt)) ((G.1 a 2).toInt)) (tC (G.2.1 (F (F a 0) 0)) ((G.1 (F a 0) 1).toInt) ((G.1 a 2).toInt)) s0 z0 I47_0 c58 c127)), (v_X5_advanceNumber_152_5 (K := K) (F := F) a G G_47 G149 l2_47 x8 l3_47 N47 x69 x72 ha pr n0 s0 z0 z0a t8 c13 I47_0 I47_1 I47_2 I47_3 hm47 c58 t69 t72 c75 c122 c127 ((ld_j hG149 (by decide)).trans (ld_at hG135)) ((ld_j hG149 (by decide)).trans (ld_j hG135 (by decide))) (ld_at hG149))⟩ hT
              · refine lv_iconst (v := 2) hx hb dX5_advanceNumber_130 (by decide) ?_
                refine lv_goto (tgt := 135) hx hb dX5_advanceNumber_131 (by decide) ?_
                refine pX5_1 (v := 2) S hK hT hS ha kf_X5_75 dX5_advanceNumber_135 (fun H locs hT hS => ?_)
                obtain ⟨G135, hG135⟩ : ∃ GG : XG, GG = dput G_47 a 1 2 := ⟨_, rfl⟩
                rw [← hG135] at hT
                refine lv_aload_n hx hb dX5_advanceNumber_138 rfl (lv_at hl 0 rfl) ?_
                refine lv_iload_n hx hb dX5_advanceNumber_139 rfl (lv_at hl 1 rfl) ?_
                refine xi_zeq (tgt := 148) hx hb ((by decide) : Int32.toInt 0 = (0 : Int)) dX5_advanceNumber_140 (by decide) (fun _ => ?_) (fun c => absurd (show (0 : Int) = 0 by decide) c)
                refine lv_iload_n hx hb dX5_advanceNumber_148 rfl (lv_at hl 2 rfl) ?_
                refine pX5_4 (v := l2_47) S hK hT hS ha kf_X5_89 dX5_advanceNumber_149 (fun H locs hT hS => ?_)
                obtain ⟨G149, hG149⟩ : ∃ GG : XG, GG = dput G135 a 4 l2_47 := ⟨_, rfl⟩
                rw [← hG149] at hT
                exact x_rv hx hb hr hlk hQ (Nat.le_of_ble_eq_true rfl) (Nat.le_of_ble_eq_true rfl) hS dX5_advanceNumber_152 G149 ⟨(by rw [hG149]; exact XFr.dput (by rw [hG135]; exact XFr.dput (XFr.call (by rw [hG44]; exact XFr.dput XFr.rf (List.mem_of_getElem? (i := 1) rfl)) hF_47 (xm1 1 rfl xm0) xm0 xm0) (List.mem_of_getElem? (i := 0) rfl)) (List.mem_of_getElem? (i := 2) rfl)), (by rw [(show (G149.1 a 3).toInt = ((G_47.1 a 3).toInt) from (congrArg Int32.toInt ((ld_j hG149 (by decide)).trans (ld_j hG135 (by decide)))).trans (rfl : Int32.toInt (G_47.1 a 3) = ((G_47.1 a 3).toInt)))] <;> exact (z_X5_advanceNumber_9 l3_47.toInt ((G.1 (F a 0) 1).toInt) ((G.1 a 2).toInt) ((G_47.1 a 3).toInt) (nS (tC (G.2.1 (F (F a 0) 0)) ((G.1 (F a 0) 1).toInt)) ((G.1 a 2).toInt)) (tC (G.2.1 (F (F a 0) 0)) ((G.1 (F a 0) 1).toInt) ((G.1 a 2).toInt)) s0 z0 I47_0 c58 c122)), (v_X5_advanceNumber_152_6 (K := K) (F := F) a G G_47 G149 l2_47 x8 l3_47 N47 x69 x72 ha pr n0 s0 z0 z0a t8 c13 I47_0 I47_1 I47_2 I47_3 hm47 c58 t69 t72 c75 c122 c127 ((ld_j hG149 (by decide)).trans (ld_at hG135)) ((ld_j hG149 (by decide)).trans (ld_j hG135 (by decide))) (ld_at hG149))⟩ hT
          · have z78 : (nv (tC (G.2.1 (F (F a 0) 0)) ((G.1 (F a 0) 1).toInt)) (nS (tC (G.2.1 (F (F a 0) 0)) ((G.1 (F a 0) 1).toInt)) ((G.1 a 2).toInt)) (l3_47.toInt + 1)) = 10 * (nv (tC (G.2.1 (F (F a 0) 0)) ((G.1 (F a 0) 1).toInt)) (nS (tC (G.2.1 (F (F a 0) 0)) ((G.1 (F a 0) 1).toInt)) ((G.1 a 2).toInt)) (l3_47.toInt)) + ((tC (G.2.1 (F (F a 0) 0)) ((G.1 (F a 0) 1).toInt) ((nS (tC (G.2.1 (F (F a 0) 0)) ((G.1 (F a 0) 1).toInt)) ((G.1 a 2).toInt)) + l3_47.toInt)) - 48) := nv_s (z_X5_advanceNumber_10 l3_47.toInt ((G.1 (F a 0) 1).toInt) ((G_47.1 a 3).toInt) I47_1)
            have z78a : ((G_47.1 a 3).toInt) = (nS (tC (G.2.1 (F (F a 0) 0)) ((G.1 (F a 0) 1).toInt)) ((G.1 a 2).toInt)) + l3_47.toInt → (tC (G.2.1 (F (F a 0) 0)) ((G.1 (F a 0) 1).toInt) ((nS (tC (G.2.1 (F (F a 0) 0)) ((G.1 (F a 0) 1).toInt)) ((G.1 a 2).toInt)) + l3_47.toInt)) = (tC (G.2.1 (F (F a 0) 0)) ((G.1 (F a 0) 1).toInt) ((G_47.1 a 3).toInt)) := fun h9 => by rw [h9]
            refine lv_iload_n hx hb dX5_advanceNumber_78 rfl (lv_at hl 3 rfl) ?_
            refine lv_iconst (v := 4) hx hb dX5_advanceNumber_79 (by decide) ?_
            refine xi_cge (tgt := 103) hx hb (rfl : Int32.toInt l3_47 = l3_47.toInt) ((by decide) : Int32.toInt 4 = (4 : Int)) dX5_advanceNumber_80 (by decide) (fun c80 => ?_) (fun c80 => ?_)
            · refine xi_iinc (n := 1) (lv' := fun z9 => [(3, .int z9), (0, .ref a), (1, .int 0), (2, .int l2_47)]) (k := 3) hx hb (rfl : Int32.toInt l3_47 = l3_47.toInt) (by decide) dX5_advanceNumber_103 hl rfl (by decide) (fun _ => rfl) (fun x103 ls t103 hl => ?_)
              have e103 : x103.toInt = (l3_47.toInt + 1) := (z_X5_advanceNumber_11 l3_47.toInt x103.toInt ((G.1 (F a 0) 1).toInt) ((G.1 a 2).toInt) ((G_47.1 a 3).toInt) (nS (tC (G.2.1 (F (F a 0) 0)) ((G.1 (F a 0) 1).toInt)) ((G.1 a 2).toInt)) (tC (G.2.1 (F (F a 0) 0)) ((G.1 (F a 0) 1).toInt) ((G.1 a 2).toInt)) n0 s0 z0 I47_0 c58 c80 t103)
              have hl : lv_has ls 4 [(3, .int x103), (0, .ref a), (1, .int 0), (2, .int l2_47)] := hl
              refine lv_aload_n hx hb dX5_advanceNumber_106 rfl (lv_at hl 1 rfl) ?_
              refine lv_dup hx hb dX5_advanceNumber_107 rfl ?_
              refine gX5_3 S hK hT ha kf_X5_19 dX5_advanceNumber_108 (v := (G_47.1 a 3)) rfl (?_)
              refine lv_iconst (v := 1) hx hb dX5_advanceNumber_111 (by decide) ?_
              refine xi_iadd hx hb (rfl : Int32.toInt (G_47.1 a 3) = ((G_47.1 a 3).toInt)) ((by decide) : Int32.toInt 1 = (1 : Int)) dX5_advanceNumber_112 (fun x112 t112 => ?_)
              have e112 : x112.toInt = (((G_47.1 a 3).toInt) + (1 : Int)) := (z_X5_advanceWord_5 x112.toInt ((G.1 (F a 0) 1).toInt) ((G_47.1 a 3).toInt) n0 c58 t112 (xr (G_47.1 a 3)))
              refine pX5_3 (v := x112) S hK hT hS ha kf_X5_19 dX5_advanceNumber_113 (fun H locs hT hS => ?_)
              obtain ⟨G113, hG113⟩ : ∃ GG : XG, GG = dput G_47 a 3 x112 := ⟨_, rfl⟩
              rw [← hG113] at hT
              refine lv_goto (tgt := 47) hx hb dX5_advanceNumber_116 (by decide) ?_
              exact ih47 l2_47 x103 G113 _ _ _ (by rw [hG113]; exact XFr.dput (XFr.call XFr.rf hF_47 (xm1 0 rfl xm0) xm0 xm0) (List.mem_of_getElem? (i := 0) rfl)) (by rw [(show (G113.1 a 3).toInt = (((G_47.1 a 3).toInt) + (1 : Int)) from (congrArg Int32.toInt (ld_at hG113)).trans (e112 : Int32.toInt x112 = (((G_47.1 a 3).toInt) + (1 : Int))))] <;> exact (v_X5_advanceNumber_116_7 (K := K) (F := F) a G G_47 l3_47 x8 l2_47 N47 x69 x72 ha pr n0 s0 z0 z0a t8 c13 I47_0 I47_1 I47_2 I47_3 hm47 c58 t69 t72 c75 z78 z78a c80)) (by rw [(e103 : Int32.toInt x103 = (l3_47.toInt + 1)), (show (G113.1 a 3).toInt = (((G_47.1 a 3).toInt) + (1 : Int)) from (congrArg Int32.toInt (ld_at hG113)).trans (e112 : Int32.toInt x112 = (((G_47.1 a 3).toInt) + (1 : Int))))] <;> exact (z_X5_advanceNumber_13 l3_47.toInt ((G_47.1 a 3).toInt) (nS (tC (G.2.1 (F (F a 0) 0)) ((G.1 (F a 0) 1).toInt)) ((G.1 a 2).toInt)) I47_0)) (by rw [(e103 : Int32.toInt x103 = (l3_47.toInt + 1)), (show (G113.1 a 3).toInt = (((G_47.1 a 3).toInt) + (1 : Int)) from (congrArg Int32.toInt (ld_at hG113)).trans (e112 : Int32.toInt x112 = (((G_47.1 a 3).toInt) + (1 : Int))))] <;> exact (z_X5_advanceNumber_14 l3_47.toInt ((G.1 (F a 0) 1).toInt) ((G_47.1 a 3).toInt) c58 c80)) (by rw [(e103 : Int32.toInt x103 = (l3_47.toInt + 1))] <;> exact (z_X5_advanceNumber_15 l2_47.toInt l3_47.toInt I47_2)) (by rw [(e103 : Int32.toInt x103 = (l3_47.toInt + 1))] <;> exact (z_X5_advanceNumber_16 l2_47.toInt l3_47.toInt (nv (tC (G.2.1 (F (F a 0) 0)) ((G.1 (F a 0) 1).toInt)) (nS (tC (G.2.1 (F (F a 0) 0)) ((G.1 (F a 0) 1).toInt)) ((G.1 a 2).toInt)) (l3_47.toInt + 1)) c80)) (by rw [(show (G113.1 a 3).toInt = (((G_47.1 a 3).toInt) + (1 : Int)) from (congrArg Int32.toInt (ld_at hG113)).trans (e112 : Int32.toInt x112 = (((G_47.1 a 3).toInt) + (1 : Int))))] <;> exact (z_X5_advanceWord_7 N47 ((G_47.1 a 3).toInt) hm47)) hT hS (lv_sub hl [1, 2, 3, 0] rfl)
            · refine lv_iload_n hx hb dX5_advanceNumber_83 rfl (lv_at hl 2 rfl) ?_
              refine lv_bipush (v := 10) hx hb dX5_advanceNumber_84 (by decide) ?_
              refine xi_imul hx hb (rfl : Int32.toInt l2_47 = l2_47.toInt) ((by decide) : Int32.toInt 10 = (10 : Int)) dX5_advanceNumber_86 (fun x86 t86 => ?_)
              have e86 : x86.toInt = (l2_47.toInt * (10 : Int)) := (z_X5_advanceNumber_18 l2_47.toInt l3_47.toInt x86.toInt I47_2 t86)
              refine lv_aload_n hx hb dX5_advanceNumber_87 rfl (lv_at hl 0 rfl) ?_
              refine gX5_0 S hK hT ha kf_X5_9 dX5_advanceNumber_88 (fun _ _ => ?_)
              refine lv_aload_n hx hb dX5_advanceNumber_91 rfl (lv_at hl 0 rfl) ?_
              refine gX5_3 S hK hT ha kf_X5_19 dX5_advanceNumber_92 (v := (G_47.1 a 3)) rfl (?_)
              refine x_clp (x_runV (b := (F a 0)) (As := [.int (G_47.1 a 3)]) (rest := [.int x86]) S (c_X8_signAt l E K F G_47 H (F a 0) (G_47.1 a 3) hk9999 (by rw [(show (G_47.1 (F a 0) 1).toInt = ((G.1 (F a 0) 1).toInt) from (congrArg Int32.toInt ((hF_47.1 _ _ (xnj (by decide) xn0)).trans (ld_j hG44 (by decide)))).trans (rfl : Int32.toInt (G.1 (F a 0) 1) = ((G.1 (F a 0) 1).toInt)))] <;> exact (n0))) mv_X8_signAt km_X5_97 rfl rfl ⟨Nat.le_of_ble_eq_true rfl, Nat.le_of_ble_eq_true rfl⟩ (rc_10 hK hT hk9999) hK (fun _ => XPh.blind) (fun U hU hW => XPh.at hK hz hS hT hU hW) rfl hl.1 (Nat.le_of_ble_eq_true rfl) dX5_advanceNumber_95 ⟨Nat.le_of_ble_eq_true rfl, Nat.le_of_ble_eq_true rfl⟩) hS ?_
              rintro _ _ locs ⟨x95, rfl, b95, t95⟩ hS
              have t95 : x95.toInt = (tC (G.2.1 (F (F a 0) 0)) ((G.1 (F a 0) 1).toInt) ((G_47.1 a 3).toInt)) := by rw [(show G_47.2.1 (F (F a 0) 0) = G.2.1 (F (F a 0) 0) from ((hF_47.2.1 _ xn0).trans (ld_c hG44)))] at t95; rw [(show (G_47.1 (F a 0) 1).toInt = ((G.1 (F a 0) 1).toInt) from (congrArg Int32.toInt ((hF_47.1 _ _ (xnj (by decide) xn0)).trans (ld_j hG44 (by decide)))).trans (rfl : Int32.toInt (G.1 (F a 0) 1) = ((G.1 (F a 0) 1).toInt)))] at t95; exact t95
              refine lv_bipush (v := 48) hx hb dX5_advanceNumber_98 (by decide) ?_
              refine xi_isub hx hb (rfl : Int32.toInt x95 = x95.toInt) ((by decide) : Int32.toInt 48 = (48 : Int)) dX5_advanceNumber_100 (fun x100 t100 => ?_)
              have e100 : x100.toInt = (x95.toInt - (48 : Int)) := (z_X5_advanceNumber_20 x100.toInt x69.toInt x72.toInt x95.toInt (tC (G.2.1 (F (F a 0) 0)) ((G.1 (F a 0) 1).toInt) ((G_47.1 a 3).toInt)) t69 t72 c75 t95 t100)
              refine xi_iadd hx hb (e86 : Int32.toInt x86 = (l2_47.toInt * (10 : Int))) (e100 : Int32.toInt x100 = (x95.toInt - (48 : Int))) dX5_advanceNumber_101 (fun x101 t101 => ?_)
              have e101 : x101.toInt = ((l2_47.toInt * (10 : Int)) + (x95.toInt - (48 : Int))) := (z_X5_advanceNumber_21 l2_47.toInt l3_47.toInt x101.toInt x69.toInt x72.toInt x95.toInt (tC (G.2.1 (F (F a 0) 0)) ((G.1 (F a 0) 1).toInt) ((G_47.1 a 3).toInt)) I47_2 t69 t72 c75 t95 t101)
              refine lv_istore_n (lv' := [(2, .int x101), (0, .ref a), (1, .int 0), (3, .int l3_47)]) hx hb dX5_advanceNumber_102 rfl hl (by decide) rfl (fun ls hl => ?_)
              refine xi_iinc (n := 1) (lv' := fun z9 => [(3, .int z9), (2, .int x101), (0, .ref a), (1, .int 0)]) (k := 3) hx hb (rfl : Int32.toInt l3_47 = l3_47.toInt) (by decide) dX5_advanceNumber_103 hl rfl (by decide) (fun _ => rfl) (fun x103 ls t103 hl => ?_)
              have e103 : x103.toInt = (l3_47.toInt + 1) := (z_X5_advanceNumber_22 l3_47.toInt x103.toInt ((G.1 (F a 0) 1).toInt) ((G_47.1 a 3).toInt) I47_1 c80 t103)
              have hl : lv_has ls 4 [(3, .int x103), (2, .int x101), (0, .ref a), (1, .int 0)] := hl
              refine lv_aload_n hx hb dX5_advanceNumber_106 rfl (lv_at hl 2 rfl) ?_
              refine lv_dup hx hb dX5_advanceNumber_107 rfl ?_
              refine gX5_3 S hK hT ha kf_X5_19 dX5_advanceNumber_108 (v := (G_47.1 a 3)) rfl (?_)
              refine lv_iconst (v := 1) hx hb dX5_advanceNumber_111 (by decide) ?_
              refine xi_iadd hx hb (rfl : Int32.toInt (G_47.1 a 3) = ((G_47.1 a 3).toInt)) ((by decide) : Int32.toInt 1 = (1 : Int)) dX5_advanceNumber_112 (fun x112 t112 => ?_)
              have e112 : x112.toInt = (((G_47.1 a 3).toInt) + (1 : Int)) := (z_X5_advanceWord_5 x112.toInt ((G.1 (F a 0) 1).toInt) ((G_47.1 a 3).toInt) n0 c58 t112 (xr (G_47.1 a 3)))
              refine pX5_3 (v := x112) S hK hT hS ha kf_X5_19 dX5_advanceNumber_113 (fun H locs hT hS => ?_)
              obtain ⟨G113, hG113⟩ : ∃ GG : XG, GG = dput G_47 a 3 x112 := ⟨_, rfl⟩
              rw [← hG113] at hT
              refine lv_goto (tgt := 47) hx hb dX5_advanceNumber_116 (by decide) ?_
              exact ih47 x101 x103 G113 _ _ _ (by rw [hG113]; exact XFr.dput (XFr.call XFr.rf hF_47 (xm1 0 rfl xm0) xm0 xm0) (List.mem_of_getElem? (i := 0) rfl)) (by rw [(show (G113.1 a 3).toInt = (((G_47.1 a 3).toInt) + (1 : Int)) from (congrArg Int32.toInt (ld_at hG113)).trans (e112 : Int32.toInt x112 = (((G_47.1 a 3).toInt) + (1 : Int))))] <;> exact (v_X5_advanceNumber_116_8 (K := K) (F := F) a G G_47 l2_47 l3_47 x8 N47 x69 x72 ha pr n0 s0 z0 z0a t8 c13 I47_0 I47_1 I47_2 I47_3 hm47 c58 t69 t72 c75 z78 z78a c80)) (by rw [(e103 : Int32.toInt x103 = (l3_47.toInt + 1)), (show (G113.1 a 3).toInt = (((G_47.1 a 3).toInt) + (1 : Int)) from (congrArg Int32.toInt (ld_at hG113)).trans (e112 : Int32.toInt x112 = (((G_47.1 a 3).toInt) + (1 : Int))))] <;> exact (z_X5_advanceNumber_13 l3_47.toInt ((G_47.1 a 3).toInt) (nS (tC (G.2.1 (F (F a 0) 0)) ((G.1 (F a 0) 1).toInt)) ((G.1 a 2).toInt)) I47_0)) (by rw [(e103 : Int32.toInt x103 = (l3_47.toInt + 1)), (show (G113.1 a 3).toInt = (((G_47.1 a 3).toInt) + (1 : Int)) from (congrArg Int32.toInt (ld_at hG113)).trans (e112 : Int32.toInt x112 = (((G_47.1 a 3).toInt) + (1 : Int))))] <;> exact (z_X5_advanceNumber_25 l3_47.toInt ((G.1 (F a 0) 1).toInt) ((G_47.1 a 3).toInt) I47_1 c58)) (by rw [(e103 : Int32.toInt x103 = (l3_47.toInt + 1)), (e101 : Int32.toInt x101 = ((l2_47.toInt * (10 : Int)) + (x95.toInt - (48 : Int))))] <;> exact (z_X5_advanceNumber_26 l2_47.toInt l3_47.toInt x69.toInt x72.toInt x95.toInt (tC (G.2.1 (F (F a 0) 0)) ((G.1 (F a 0) 1).toInt) ((G_47.1 a 3).toInt)) I47_2 t69 t72 c75 c80 t95)) (by rw [(e103 : Int32.toInt x103 = (l3_47.toInt + 1)), (e101 : Int32.toInt x101 = ((l2_47.toInt * (10 : Int)) + (x95.toInt - (48 : Int))))] <;> exact (z_X5_advanceNumber_27 l2_47.toInt l3_47.toInt x95.toInt ((G_47.1 a 3).toInt) (nS (tC (G.2.1 (F (F a 0) 0)) ((G.1 (F a 0) 1).toInt)) ((G.1 a 2).toInt)) (nv (tC (G.2.1 (F (F a 0) 0)) ((G.1 (F a 0) 1).toInt)) (nS (tC (G.2.1 (F (F a 0) 0)) ((G.1 (F a 0) 1).toInt)) ((G.1 a 2).toInt)) (l3_47.toInt + 1)) (nv (tC (G.2.1 (F (F a 0) 0)) ((G.1 (F a 0) 1).toInt)) (nS (tC (G.2.1 (F (F a 0) 0)) ((G.1 (F a 0) 1).toInt)) ((G.1 a 2).toInt)) (l3_47.toInt)) (tC (G.2.1 (F (F a 0) 0)) ((G.1 (F a 0) 1).toInt) ((G_47.1 a 3).toInt)) (tC (G.2.1 (F (F a 0) 0)) ((G.1 (F a 0) 1).toInt) ((nS (tC (G.2.1 (F (F a 0) 0)) ((G.1 (F a 0) 1).toInt)) ((G.1 a 2).toInt)) + l3_47.toInt)) I47_0 I47_3 z78 z78a t95)) (by rw [(show (G113.1 a 3).toInt = (((G_47.1 a 3).toInt) + (1 : Int)) from (congrArg Int32.toInt (ld_at hG113)).trans (e112 : Int32.toInt x112 = (((G_47.1 a 3).toInt) + (1 : Int))))] <;> exact (z_X5_advanceWord_7 N47 ((G_47.1 a 3).toInt) hm47)) hT hS (lv_sub hl [2, 3, 1, 0] rfl)
    exact L47 4294967297 0 0 G44 _ _ _ XFr.rf (by rw [(show (G44.1 a 3).toInt = ((G.1 a 2).toInt) from (congrArg Int32.toInt (ld_at hG44)).trans (rfl : Int32.toInt (G.1 a 2) = ((G.1 a 2).toInt)))] <;> exact (v_X5_advanceNumber_44_9 (K := K) (F := F) a G x8 ha n0 s0 z0 z0a t8 c13)) (by rw [(show (G44.1 a 3).toInt = ((G.1 a 2).toInt) from (congrArg Int32.toInt (ld_at hG44)).trans (rfl : Int32.toInt (G.1 a 2) = ((G.1 a 2).toInt)))] <;> exact (z_X5_advanceNumber_29 x8.toInt ((G.1 a 2).toInt) (nS (tC (G.2.1 (F (F a 0) 0)) ((G.1 (F a 0) 1).toInt)) ((G.1 a 2).toInt)) (tC (G.2.1 (F (F a 0) 0)) ((G.1 (F a 0) 1).toInt) ((G.1 a 2).toInt)) z0 t8 c13)) (by rw [(show (G44.1 a 3).toInt = ((G.1 a 2).toInt) from (congrArg Int32.toInt (ld_at hG44)).trans (rfl : Int32.toInt (G.1 a 2) = ((G.1 a 2).toInt)))] <;> exact (z_X5_advanceNumber_30 ((G.1 (F a 0) 1).toInt) ((G.1 a 2).toInt) s0)) (by decide) (z_X5_advanceNumber_31 (nv (tC (G.2.1 (F (F a 0) 0)) ((G.1 (F a 0) 1).toInt)) (nS (tC (G.2.1 (F (F a 0) 0)) ((G.1 (F a 0) 1).toInt)) ((G.1 a 2).toInt)) 0) z0a) (by rw [(show (G44.1 a 3).toInt = ((G.1 a 2).toInt) from (congrArg Int32.toInt (ld_at hG44)).trans (rfl : Int32.toInt (G.1 a 2) = ((G.1 a 2).toInt)))] <;> exact (z_X5_advanceNumber_32 ((G.1 (F a 0) 1).toInt) ((G.1 a 2).toInt) s0)) hT hS (lv_sub hl [3, 2, 1, 0] rfl)
  · refine lv_iconst (v := 1) hx hb dX5_advanceNumber_16 (by decide) ?_
    refine lv_goto (tgt := 21) hx hb dX5_advanceNumber_17 (by decide) ?_
    refine lv_istore_n (lv' := [(1, .int 1), (0, .ref a)]) hx hb dX5_advanceNumber_21 rfl hl (by decide) rfl (fun ls hl => ?_)
    refine lv_iconst (v := 0) hx hb dX5_advanceNumber_22 (by decide) ?_
    refine lv_istore_n (lv' := [(2, .int 0), (1, .int 1), (0, .ref a)]) hx hb dX5_advanceNumber_23 rfl hl (by decide) rfl (fun ls hl => ?_)
    refine lv_iconst (v := 0) hx hb dX5_advanceNumber_24 (by decide) ?_
    refine lv_istore_n (lv' := [(3, .int 0), (2, .int 0), (1, .int 1), (0, .ref a)]) hx hb dX5_advanceNumber_25 rfl hl (by decide) rfl (fun ls hl => ?_)
    refine lv_aload_n hx hb dX5_advanceNumber_26 rfl (lv_at hl 3 rfl) ?_
    refine lv_iload_n hx hb dX5_advanceNumber_27 rfl (lv_at hl 2 rfl) ?_
    refine xi_zeq (tgt := 40) hx hb ((by decide) : Int32.toInt 1 = (1 : Int)) dX5_advanceNumber_28 (by decide) (fun c => absurd c (show ¬ ((1 : Int) = 0) by decide)) (fun _ => ?_)
    refine lv_aload_n hx hb dX5_advanceNumber_31 rfl (lv_at hl 3 rfl) ?_
    refine gX5_2 S hK hT ha kf_X5_78 dX5_advanceNumber_32 (v := (G.1 a 2)) rfl (?_)
    refine lv_iconst (v := 1) hx hb dX5_advanceNumber_35 (by decide) ?_
    refine xi_iadd hx hb (rfl : Int32.toInt (G.1 a 2) = ((G.1 a 2).toInt)) ((by decide) : Int32.toInt 1 = (1 : Int)) dX5_advanceNumber_36 (fun x36 t36 => ?_)
    have e36 : x36.toInt = (((G.1 a 2).toInt) + (1 : Int)) := (z_X5_advanceNumber_33 x36.toInt ((G.1 (F a 0) 1).toInt) ((G.1 a 2).toInt) n0 s0 t36)
    refine lv_goto (tgt := 44) hx hb dX5_advanceNumber_37 (by decide) ?_
    refine pX5_3 (v := x36) S hK hT hS ha kf_X5_19 dX5_advanceNumber_44 (fun H locs hT hS => ?_)
    obtain ⟨G44, hG44⟩ : ∃ GG : XG, GG = dput G a 3 x36 := ⟨_, rfl⟩
    rw [← hG44] at hT
    have L47 : ∀ (N47 : Nat) (l2_47 : Int32) (l3_47 : Int32) (G_47 : XG) (H : Heap) (locs : List Loc) (ls : Array Slot), XFr [(a, 3)] [] [] G44 G_47 → (∀ j : Int, nS (tC (G.2.1 (F (F a 0) 0)) ((G.1 (F a 0) 1).toInt)) ((G.1 a 2).toInt) ≤ j → j < ((G_47.1 a 3).toInt) → cDg ((tC (G.2.1 (F (F a 0) 0)) ((G.1 (F a 0) 1).toInt)) j)) → ((G_47.1 a 3).toInt) = (nS (tC (G.2.1 (F (F a 0) 0)) ((G.1 (F a 0) 1).toInt)) ((G.1 a 2).toInt)) + l3_47.toInt → 0 ≤ l3_47.toInt ∧ ((G_47.1 a 3).toInt) ≤ ((G.1 (F a 0) 1).toInt) → (l3_47.toInt = 0 ∧ l2_47.toInt = 0) ∨ (l3_47.toInt = 1 ∧ 0 ≤ l2_47.toInt ∧ l2_47.toInt ≤ 9) ∨ (l3_47.toInt = 2 ∧ 0 ≤ l2_47.toInt ∧ l2_47.toInt ≤ 99) ∨ (l3_47.toInt = 3 ∧ 0 ≤ l2_47.toInt ∧ l2_47.toInt ≤ 999) ∨ (4 ≤ l3_47.toInt ∧ 0 ≤ l2_47.toInt ∧ l2_47.toInt ≤ 9999) → (l3_47.toInt ≤ 4 → l2_47.toInt = (nv (tC (G.2.1 (F (F a 0) 0)) ((G.1 (F a 0) 1).toInt)) (nS (tC (G.2.1 (F (F a 0) 0)) ((G.1 (F a 0) 1).toInt)) ((G.1 a 2).toInt)) (l3_47.toInt))) → 200 - ((G_47.1 a 3).toInt) < ((N47 : Nat) : Int) → TW E K F G_47 H → va_S (xA E) s.heap H locs → lv_has ls 4 [(0, .ref a), (1, .int 1), (2, .int l2_47), (3, .int l3_47)] → W p l e rm_X5_advanceNumber s m args below meth c H locs 0 0 Q (F0 m 47 ls []) := by
      intro N47
      induction N47 with
      | zero =>
        intro l2_47 l3_47 G_47 H locs ls hF_47 pr I47_0 I47_1 I47_2 I47_3 hm47
        exact absurd hm47 (z_X5_advanceNumber_2 l3_47.toInt ((G.1 (F a 0) 1).toInt) ((G_47.1 a 3).toInt) I47_1 n0)
      | succ N47 ih47 =>
        intro l2_47 l3_47 G_47 H locs ls hF_47 pr I47_0 I47_1 I47_2 I47_3 hm47 hT hS hl
        refine lv_aload_n hx hb dX5_advanceNumber_47 rfl (lv_at hl 0 rfl) ?_
        refine gX5_3 S hK hT ha kf_X5_19 dX5_advanceNumber_48 (v := (G_47.1 a 3)) rfl (?_)
        refine lv_aload_n hx hb dX5_advanceNumber_51 rfl (lv_at hl 0 rfl) ?_
        refine gX5_0 S hK hT ha kf_X5_9 dX5_advanceNumber_52 (fun _ _ => ?_)
        refine x_clp (x_runV (b := (F a 0)) (As := []) (rest := [.int (G_47.1 a 3)]) S (c_X8_length l E K F G_47 H (F a 0) hk9999) mv_X8_length km_X5_106 rfl rfl ⟨Nat.le_of_ble_eq_true rfl, Nat.le_of_ble_eq_true rfl⟩ (rc_10 hK hT hk9999) hK (fun _ => XPh.blind) (fun U hU hW => XPh.at hK hz hS hT hU hW) rfl hl.1 (Nat.le_of_ble_eq_true rfl) dX5_advanceNumber_55 ⟨Nat.le_of_ble_eq_true rfl, Nat.le_of_ble_eq_true rfl⟩) hS ?_
        rintro _ _ locs ⟨x55, rfl, t55⟩ hS
        have t55 : x55.toInt = ((G.1 (F a 0) 1).toInt) := by rw [(show (G_47.1 (F a 0) 1).toInt = ((G.1 (F a 0) 1).toInt) from (congrArg Int32.toInt ((hF_47.1 _ _ (xnj (by decide) xn0)).trans (ld_j hG44 (by decide)))).trans (rfl : Int32.toInt (G.1 (F a 0) 1) = ((G.1 (F a 0) 1).toInt)))] at t55; exact t55
        refine xi_cge (tgt := 119) hx hb (rfl : Int32.toInt (G_47.1 a 3) = ((G_47.1 a 3).toInt)) (t55 : Int32.toInt x55 = ((G.1 (F a 0) 1).toInt)) dX5_advanceNumber_58 (by decide) (fun c58 => ?_) (fun c58 => ?_)
        · refine lv_aload_n hx hb dX5_advanceNumber_119 rfl (lv_at hl 0 rfl) ?_
          refine lv_iload_n hx hb dX5_advanceNumber_120 rfl (lv_at hl 3 rfl) ?_
          refine lv_iconst (v := 1) hx hb dX5_advanceNumber_121 (by decide) ?_
          refine xi_clt (tgt := 134) hx hb (rfl : Int32.toInt l3_47 = l3_47.toInt) ((by decide) : Int32.toInt 1 = (1 : Int)) dX5_advanceNumber_122 (by decide) (fun c122 => ?_) (fun c122 => ?_)
          · refine lv_iconst (v := 3) hx hb dX5_advanceNumber_134 (by decide) ?_
            refine pX5_1 (v := 3) S hK hT hS ha kf_X5_75 dX5_advanceNumber_135 (fun H locs hT hS => ?_)
            obtain ⟨G135, hG135⟩ : ∃ GG : XG, GG = dput G_47 a 1 3 := ⟨_, rfl⟩
            rw [← hG135] at hT
            refine lv_aload_n hx hb dX5_advanceNumber_138 rfl (lv_at hl 0 rfl) ?_
            refine lv_iload_n hx hb dX5_advanceNumber_139 rfl (lv_at hl 1 rfl) ?_
            refine xi_zeq (tgt := 148) hx hb ((by decide) : Int32.toInt 1 = (1 : Int)) dX5_advanceNumber_140 (by decide) (fun c => absurd c (show ¬ ((1 : Int) = 0) by decide)) (fun _ => ?_)
            refine lv_iload_n hx hb dX5_advanceNumber_143 rfl (lv_at hl 2 rfl) ?_
            refine xi_ineg hx hb (rfl : Int32.toInt l2_47 = l2_47.toInt) dX5_advanceNumber_144 (fun x144 t144 => ?_)
            refine lv_goto (tgt := 149) hx hb dX5_advanceNumber_145 (by decide) ?_
            refine pX5_4 (v := x144) S hK hT hS ha kf_X5_89 dX5_advanceNumber_149 (fun H locs hT hS => ?_)
            obtain ⟨G149, hG149⟩ : ∃ GG : XG, GG = dput G135 a 4 x144 := ⟨_, rfl⟩
            rw [← hG149] at hT
            exact x_rv hx hb hr hlk hQ (Nat.le_of_ble_eq_true rfl) (Nat.le_of_ble_eq_true rfl) hS dX5_advanceNumber_152 G149 ⟨(by rw [hG149]; exact XFr.dput (by rw [hG135]; exact XFr.dput (XFr.call (by rw [hG44]; exact XFr.dput XFr.rf (List.mem_of_getElem? (i := 1) rfl)) hF_47 (xm1 1 rfl xm0) xm0 xm0) (List.mem_of_getElem? (i := 0) rfl)) (List.mem_of_getElem? (i := 2) rfl)), (by rw [(show (G149.1 a 3).toInt = ((G_47.1 a 3).toInt) from (congrArg Int32.toInt ((ld_j hG149 (by decide)).trans (ld_j hG135 (by decide)))).trans (rfl : Int32.toInt (G_47.1 a 3) = ((G_47.1 a 3).toInt)))] <;> exact (z_X5_advanceNumber_3 l3_47.toInt ((G.1 (F a 0) 1).toInt) ((G.1 a 2).toInt) ((G_47.1 a 3).toInt) s0 I47_1 c58)), (v_X5_advanceNumber_152_10 (K := K) (F := F) a G G_47 G149 x144 x8 l3_47 l2_47 N47 ha pr n0 s0 z0 z0a t8 c13 I47_0 I47_1 I47_2 I47_3 hm47 c58 c122 t144 ((ld_j hG149 (by decide)).trans (ld_at hG135)) ((ld_j hG149 (by decide)).trans (ld_j hG135 (by decide))) (ld_at hG149))⟩ hT
          · refine lv_iload_n hx hb dX5_advanceNumber_125 rfl (lv_at hl 3 rfl) ?_
            refine lv_iconst (v := 4) hx hb dX5_advanceNumber_126 (by decide) ?_
            refine xi_cgt (tgt := 134) hx hb (rfl : Int32.toInt l3_47 = l3_47.toInt) ((by decide) : Int32.toInt 4 = (4 : Int)) dX5_advanceNumber_127 (by decide) (fun c127 => ?_) (fun c127 => ?_)
            · refine lv_iconst (v := 3) hx hb dX5_advanceNumber_134 (by decide) ?_
              refine pX5_1 (v := 3) S hK hT hS ha kf_X5_75 dX5_advanceNumber_135 (fun H locs hT hS => ?_)
              obtain ⟨G135, hG135⟩ : ∃ GG : XG, GG = dput G_47 a 1 3 := ⟨_, rfl⟩
              rw [← hG135] at hT
              refine lv_aload_n hx hb dX5_advanceNumber_138 rfl (lv_at hl 0 rfl) ?_
              refine lv_iload_n hx hb dX5_advanceNumber_139 rfl (lv_at hl 1 rfl) ?_
              refine xi_zeq (tgt := 148) hx hb ((by decide) : Int32.toInt 1 = (1 : Int)) dX5_advanceNumber_140 (by decide) (fun c => absurd c (show ¬ ((1 : Int) = 0) by decide)) (fun _ => ?_)
              refine lv_iload_n hx hb dX5_advanceNumber_143 rfl (lv_at hl 2 rfl) ?_
              refine xi_ineg hx hb (rfl : Int32.toInt l2_47 = l2_47.toInt) dX5_advanceNumber_144 (fun x144 t144 => ?_)
              refine lv_goto (tgt := 149) hx hb dX5_advanceNumber_145 (by decide) ?_
              refine pX5_4 (v := x144) S hK hT hS ha kf_X5_89 dX5_advanceNumber_149 (fun H locs hT hS => ?_)
              obtain ⟨G149, hG149⟩ : ∃ GG : XG, GG = dput G135 a 4 x144 := ⟨_, rfl⟩
              rw [← hG149] at hT
              exact x_rv hx hb hr hlk hQ (Nat.le_of_ble_eq_true rfl) (Nat.le_of_ble_eq_true rfl) hS dX5_advanceNumber_152 G149 ⟨(by rw [hG149]; exact XFr.dput (by rw [hG135]; exact XFr.dput (XFr.call (by rw [hG44]; exact XFr.dput XFr.rf (List.mem_of_getElem? (i := 1) rfl)) hF_47 (xm1 1 rfl xm0) xm0 xm0) (List.mem_of_getElem? (i := 0) rfl)) (List.mem_of_getElem? (i := 2) rfl)), (by rw [(show (G149.1 a 3).toInt = ((G_47.1 a 3).toInt) from (congrArg Int32.toInt ((ld_j hG149 (by decide)).trans (ld_j hG135 (by decide)))).trans (rfl : Int32.toInt (G_47.1 a 3) = ((G_47.1 a 3).toInt)))] <;> exact (z_X5_advanceNumber_3 l3_47.toInt ((G.1 (F a 0) 1).toInt) ((G.1 a 2).toInt) ((G_47.1 a 3).toInt) s0 I47_1 c58)), (v_X5_advanceNumber_152_11 (K := K) (F := F) a G G_47 G149 x144 x8 l3_47 l2_47 N47 ha pr n0 s0 z0 z0a t8 c13 I47_0 I47_1 I47_2 I47_3 hm47 c58 c122 c127 t144 ((ld_j hG149 (by decide)).trans (ld_at hG135)) ((ld_j hG149 (by decide)).trans (ld_j hG135 (by decide))) (ld_at hG149))⟩ hT
            · refine lv_iconst (v := 2) hx hb dX5_advanceNumber_130 (by decide) ?_
              refine lv_goto (tgt := 135) hx hb dX5_advanceNumber_131 (by decide) ?_
              refine pX5_1 (v := 2) S hK hT hS ha kf_X5_75 dX5_advanceNumber_135 (fun H locs hT hS => ?_)
              obtain ⟨G135, hG135⟩ : ∃ GG : XG, GG = dput G_47 a 1 2 := ⟨_, rfl⟩
              rw [← hG135] at hT
              refine lv_aload_n hx hb dX5_advanceNumber_138 rfl (lv_at hl 0 rfl) ?_
              refine lv_iload_n hx hb dX5_advanceNumber_139 rfl (lv_at hl 1 rfl) ?_
              refine xi_zeq (tgt := 148) hx hb ((by decide) : Int32.toInt 1 = (1 : Int)) dX5_advanceNumber_140 (by decide) (fun c => absurd c (show ¬ ((1 : Int) = 0) by decide)) (fun _ => ?_)
              refine lv_iload_n hx hb dX5_advanceNumber_143 rfl (lv_at hl 2 rfl) ?_
              refine xi_ineg hx hb (rfl : Int32.toInt l2_47 = l2_47.toInt) dX5_advanceNumber_144 (fun x144 t144 => ?_)
              refine lv_goto (tgt := 149) hx hb dX5_advanceNumber_145 (by decide) ?_
              refine pX5_4 (v := x144) S hK hT hS ha kf_X5_89 dX5_advanceNumber_149 (fun H locs hT hS => ?_)
              obtain ⟨G149, hG149⟩ : ∃ GG : XG, GG = dput G135 a 4 x144 := ⟨_, rfl⟩
              rw [← hG149] at hT
              exact x_rv hx hb hr hlk hQ (Nat.le_of_ble_eq_true rfl) (Nat.le_of_ble_eq_true rfl) hS dX5_advanceNumber_152 G149 ⟨(by rw [hG149]; exact XFr.dput (by rw [hG135]; exact XFr.dput (XFr.call (by rw [hG44]; exact XFr.dput XFr.rf (List.mem_of_getElem? (i := 1) rfl)) hF_47 (xm1 1 rfl xm0) xm0 xm0) (List.mem_of_getElem? (i := 0) rfl)) (List.mem_of_getElem? (i := 2) rfl)), (by rw [(show (G149.1 a 3).toInt = ((G_47.1 a 3).toInt) from (congrArg Int32.toInt ((ld_j hG149 (by decide)).trans (ld_j hG135 (by decide)))).trans (rfl : Int32.toInt (G_47.1 a 3) = ((G_47.1 a 3).toInt)))] <;> exact (z_X5_advanceNumber_3 l3_47.toInt ((G.1 (F a 0) 1).toInt) ((G.1 a 2).toInt) ((G_47.1 a 3).toInt) s0 I47_1 c58)), (v_X5_advanceNumber_152_12 (K := K) (F := F) a G G_47 G149 x144 x8 l3_47 l2_47 N47 ha pr n0 s0 z0 z0a t8 c13 I47_0 I47_1 I47_2 I47_3 hm47 c58 c122 c127 t144 ((ld_j hG149 (by decide)).trans (ld_at hG135)) ((ld_j hG149 (by decide)).trans (ld_j hG135 (by decide))) (ld_at hG149))⟩ hT
        · refine lv_aload_n hx hb dX5_advanceNumber_61 rfl (lv_at hl 0 rfl) ?_
          refine gX5_0 S hK hT ha kf_X5_9 dX5_advanceNumber_62 (fun _ _ => ?_)
          refine lv_aload_n hx hb dX5_advanceNumber_65 rfl (lv_at hl 0 rfl) ?_
          refine gX5_3 S hK hT ha kf_X5_19 dX5_advanceNumber_66 (v := (G_47.1 a 3)) rfl (?_)
          refine x_clp (x_runV (b := (F a 0)) (As := [.int (G_47.1 a 3)]) (rest := []) S (c_X8_signAt l E K F G_47 H (F a 0) (G_47.1 a 3) hk9999 (by rw [(show (G_47.1 (F a 0) 1).toInt = ((G.1 (F a 0) 1).toInt) from (congrArg Int32.toInt ((hF_47.1 _ _ (xnj (by decide) xn0)).trans (ld_j hG44 (by decide)))).trans (rfl : Int32.toInt (G.1 (F a 0) 1) = ((G.1 (F a 0) 1).toInt)))] <;> exact (n0))) mv_X8_signAt km_X5_97 rfl rfl ⟨Nat.le_of_ble_eq_true rfl, Nat.le_of_ble_eq_true rfl⟩ (rc_10 hK hT hk9999) hK (fun _ => XPh.blind) (fun U hU hW => XPh.at hK hz hS hT hU hW) rfl hl.1 (Nat.le_of_ble_eq_true rfl) dX5_advanceNumber_69 ⟨Nat.le_of_ble_eq_true rfl, Nat.le_of_ble_eq_true rfl⟩) hS ?_
          rintro _ _ locs ⟨x69, rfl, b69, t69⟩ hS
          have t69 : x69.toInt = (tC (G.2.1 (F (F a 0) 0)) ((G.1 (F a 0) 1).toInt) ((G_47.1 a 3).toInt)) := by rw [(show G_47.2.1 (F (F a 0) 0) = G.2.1 (F (F a 0) 0) from ((hF_47.2.1 _ xn0).trans (ld_c hG44)))] at t69; rw [(show (G_47.1 (F a 0) 1).toInt = ((G.1 (F a 0) 1).toInt) from (congrArg Int32.toInt ((hF_47.1 _ _ (xnj (by decide) xn0)).trans (ld_j hG44 (by decide)))).trans (rfl : Int32.toInt (G.1 (F a 0) 1) = ((G.1 (F a 0) 1).toInt)))] at t69; exact t69
          refine x_clp (x_runS (As := [.int x69]) (rest := []) S (c_X5_isDigit l E K F G_47 H x69) ms_X5_isDigit km_X5_117 rfl rfl ⟨Nat.le_of_ble_eq_true rfl, Nat.le_of_ble_eq_true rfl⟩ hK (fun _ => XPh.blind) (fun U hU hW => XPh.at hK hz hS hT hU hW) rfl hl.1 (Nat.le_of_ble_eq_true rfl) dX5_advanceNumber_72 ⟨Nat.le_of_ble_eq_true rfl, Nat.le_of_ble_eq_true rfl⟩) hS ?_
          rintro _ _ locs ⟨x72, rfl, b72, t72⟩ hS
          have t72 : (x72.toInt = 1 ∧ 48 ≤ x69.toInt ∧ x69.toInt ≤ 57) ∨ (x72.toInt = 0 ∧ (x69.toInt < 48 ∨ 57 < x69.toInt)) := t72
          refine xi_zeq (tgt := 119) hx hb (rfl : Int32.toInt x72 = x72.toInt) dX5_advanceNumber_75 (by decide) (fun c75 => ?_) (fun c75 => ?_)
          · refine lv_aload_n hx hb dX5_advanceNumber_119 rfl (lv_at hl 0 rfl) ?_
            refine lv_iload_n hx hb dX5_advanceNumber_120 rfl (lv_at hl 3 rfl) ?_
            refine lv_iconst (v := 1) hx hb dX5_advanceNumber_121 (by decide) ?_
            refine xi_clt (tgt := 134) hx hb (rfl : Int32.toInt l3_47 = l3_47.toInt) ((by decide) : Int32.toInt 1 = (1 : Int)) dX5_advanceNumber_122 (by decide) (fun c122 => ?_) (fun c122 => ?_)
            · refine lv_iconst (v := 3) hx hb dX5_advanceNumber_134 (by decide) ?_
              refine pX5_1 (v := 3) S hK hT hS ha kf_X5_75 dX5_advanceNumber_135 (fun H locs hT hS => ?_)
              obtain ⟨G135, hG135⟩ : ∃ GG : XG, GG = dput G_47 a 1 3 := ⟨_, rfl⟩
              rw [← hG135] at hT
              refine lv_aload_n hx hb dX5_advanceNumber_138 rfl (lv_at hl 0 rfl) ?_
              refine lv_iload_n hx hb dX5_advanceNumber_139 rfl (lv_at hl 1 rfl) ?_
              refine xi_zeq (tgt := 148) hx hb ((by decide) : Int32.toInt 1 = (1 : Int)) dX5_advanceNumber_140 (by decide) (fun c => absurd c (show ¬ ((1 : Int) = 0) by decide)) (fun _ => ?_)
              refine lv_iload_n hx hb dX5_advanceNumber_143 rfl (lv_at hl 2 rfl) ?_
              refine xi_ineg hx hb (rfl : Int32.toInt l2_47 = l2_47.toInt) dX5_advanceNumber_144 (fun x144 t144 => ?_)
              refine lv_goto (tgt := 149) hx hb dX5_advanceNumber_145 (by decide) ?_
              refine pX5_4 (v := x144) S hK hT hS ha kf_X5_89 dX5_advanceNumber_149 (fun H locs hT hS => ?_)
              obtain ⟨G149, hG149⟩ : ∃ GG : XG, GG = dput G135 a 4 x144 := ⟨_, rfl⟩
              rw [← hG149] at hT
              exact x_rv hx hb hr hlk hQ (Nat.le_of_ble_eq_true rfl) (Nat.le_of_ble_eq_true rfl) hS dX5_advanceNumber_152 G149 ⟨(by rw [hG149]; exact XFr.dput (by rw [hG135]; exact XFr.dput (XFr.call (by rw [hG44]; exact XFr.dput XFr.rf (List.mem_of_getElem? (i := 1) rfl)) hF_47 (xm1 1 rfl xm0) xm0 xm0) (List.mem_of_getElem? (i := 0) rfl)) (List.mem_of_getElem? (i := 2) rfl)), (by rw [(show (G149.1 a 3).toInt = ((G_47.1 a 3).toInt) from (congrArg Int32.toInt ((ld_j hG149 (by decide)).trans (ld_j hG135 (by decide)))).trans (rfl : Int32.toInt (G_47.1 a 3) = ((G_47.1 a 3).toInt)))] <;> exact (z_X5_advanceNumber_7 l3_47.toInt ((G.1 (F a 0) 1).toInt) ((G.1 a 2).toInt) ((G_47.1 a 3).toInt) (nS (tC (G.2.1 (F (F a 0) 0)) ((G.1 (F a 0) 1).toInt)) ((G.1 a 2).toInt)) (tC (G.2.1 (F (F a 0) 0)) ((G.1 (F a 0) 1).toInt) ((G.1 a 2).toInt)) s0 z0 I47_0 I47_1)), (v_X5_advanceNumber_152_13 (K := K) (F := F) a G G_47 G149 x144 x8 l3_47 l2_47 N47 x69 x72 ha pr n0 s0 z0 z0a t8 c13 I47_0 I47_1 I47_2 I47_3 hm47 c58 t69 t72 c75 c122 t144 ((ld_j hG149 (by decide)).trans (ld_at hG135)) ((ld_j hG149 (by decide)).trans (ld_j hG135 (by decide))) (ld_at hG149))⟩ hT
            · refine lv_iload_n hx hb dX5_advanceNumber_125 rfl (lv_at hl 3 rfl) ?_
              refine lv_iconst (v := 4) hx hb dX5_advanceNumber_126 (by decide) ?_
              refine xi_cgt (tgt := 134) hx hb (rfl : Int32.toInt l3_47 = l3_47.toInt) ((by decide) : Int32.toInt 4 = (4 : Int)) dX5_advanceNumber_127 (by decide) (fun c127 => ?_) (fun c127 => ?_)
              · refine lv_iconst (v := 3) hx hb dX5_advanceNumber_134 (by decide) ?_
                refine pX5_1 (v := 3) S hK hT hS ha kf_X5_75 dX5_advanceNumber_135 (fun H locs hT hS => ?_)
                obtain ⟨G135, hG135⟩ : ∃ GG : XG, GG = dput G_47 a 1 3 := ⟨_, rfl⟩
                rw [← hG135] at hT
                refine lv_aload_n hx hb dX5_advanceNumber_138 rfl (lv_at hl 0 rfl) ?_
                refine lv_iload_n hx hb dX5_advanceNumber_139 rfl (lv_at hl 1 rfl) ?_
                refine xi_zeq (tgt := 148) hx hb ((by decide) : Int32.toInt 1 = (1 : Int)) dX5_advanceNumber_140 (by decide) (fun c => absurd c (show ¬ ((1 : Int) = 0) by decide)) (fun _ => ?_)
                refine lv_iload_n hx hb dX5_advanceNumber_143 rfl (lv_at hl 2 rfl) ?_
                refine xi_ineg hx hb (rfl : Int32.toInt l2_47 = l2_47.toInt) dX5_advanceNumber_144 (fun x144 t144 => ?_)
                refine lv_goto (tgt := 149) hx hb dX5_advanceNumber_145 (by decide) ?_
                refine pX5_4 (v := x144) S hK hT hS ha kf_X5_89 dX5_advanceNumber_149 (fun H locs hT hS => ?_)
                obtain ⟨G149, hG149⟩ : ∃ GG : XG, GG = dput G135 a 4 x144 := ⟨_, rfl⟩
                rw [← hG149] at hT
                exact x_rv hx hb hr hlk hQ (Nat.le_of_ble_eq_true rfl) (Nat.le_of_ble_eq_true rfl) hS dX5_advanceNumber_152 G149 ⟨(by rw [hG149]; exact XFr.dput (by rw [hG135]; exact XFr.dput (XFr.call (by rw [hG44]; exact XFr.dput XFr.rf (List.mem_of_getElem? (i := 1) rfl)) hF_47 (xm1 1 rfl xm0) xm0 xm0) (List.mem_of_getElem? (i := 0) rfl)) (List.mem_of_getElem? (i := 2) rfl)), (by rw [(show (G149.1 a 3).toInt = ((G_47.1 a 3).toInt) from (congrArg Int32.toInt ((ld_j hG149 (by decide)).trans (ld_j hG135 (by decide)))).trans (rfl : Int32.toInt (G_47.1 a 3) = ((G_47.1 a 3).toInt)))] <;> exact (z_X5_advanceNumber_8 l3_47.toInt ((G.1 (F a 0) 1).toInt) ((G.1 a 2).toInt) ((G_47.1 a 3).toInt) (nS (tC (G.2.1 (F (F a 0) 0)) ((G.1 (F a 0) 1).toInt)) ((G.1 a 2).toInt)) (tC (G.2.1 (F (F a 0) 0)) ((G.1 (F a 0) 1).toInt) ((G.1 a 2).toInt)) s0 z0 I47_0 c58 c127)), (v_X5_advanceNumber_152_14 (K := K) (F := F) a G G_47 G149 x144 x8 l3_47 l2_47 N47 x69 x72 ha pr n0 s0 z0 z0a t8 c13 I47_0 I47_1 I47_2 I47_3 hm47 c58 t69 t72 c75 c122 c127 t144 ((ld_j hG149 (by decide)).trans (ld_at hG135)) ((ld_j hG149 (by decide)).trans (ld_j hG135 (by decide))) (ld_at hG149))⟩ hT
              · refine lv_iconst (v := 2) hx hb dX5_advanceNumber_130 (by decide) ?_
                refine lv_goto (tgt := 135) hx hb dX5_advanceNumber_131 (by decide) ?_
                refine pX5_1 (v := 2) S hK hT hS ha kf_X5_75 dX5_advanceNumber_135 (fun H locs hT hS => ?_)
                obtain ⟨G135, hG135⟩ : ∃ GG : XG, GG = dput G_47 a 1 2 := ⟨_, rfl⟩
                rw [← hG135] at hT
                refine lv_aload_n hx hb dX5_advanceNumber_138 rfl (lv_at hl 0 rfl) ?_
                refine lv_iload_n hx hb dX5_advanceNumber_139 rfl (lv_at hl 1 rfl) ?_
                refine xi_zeq (tgt := 148) hx hb ((by decide) : Int32.toInt 1 = (1 : Int)) dX5_advanceNumber_140 (by decide) (fun c => absurd c (show ¬ ((1 : Int) = 0) by decide)) (fun _ => ?_)
                refine lv_iload_n hx hb dX5_advanceNumber_143 rfl (lv_at hl 2 rfl) ?_
                refine xi_ineg hx hb (rfl : Int32.toInt l2_47 = l2_47.toInt) dX5_advanceNumber_144 (fun x144 t144 => ?_)
                refine lv_goto (tgt := 149) hx hb dX5_advanceNumber_145 (by decide) ?_
                refine pX5_4 (v := x144) S hK hT hS ha kf_X5_89 dX5_advanceNumber_149 (fun H locs hT hS => ?_)
                obtain ⟨G149, hG149⟩ : ∃ GG : XG, GG = dput G135 a 4 x144 := ⟨_, rfl⟩
                rw [← hG149] at hT
                exact x_rv hx hb hr hlk hQ (Nat.le_of_ble_eq_true rfl) (Nat.le_of_ble_eq_true rfl) hS dX5_advanceNumber_152 G149 ⟨(by rw [hG149]; exact XFr.dput (by rw [hG135]; exact XFr.dput (XFr.call (by rw [hG44]; exact XFr.dput XFr.rf (List.mem_of_getElem? (i := 1) rfl)) hF_47 (xm1 1 rfl xm0) xm0 xm0) (List.mem_of_getElem? (i := 0) rfl)) (List.mem_of_getElem? (i := 2) rfl)), (by rw [(show (G149.1 a 3).toInt = ((G_47.1 a 3).toInt) from (congrArg Int32.toInt ((ld_j hG149 (by decide)).trans (ld_j hG135 (by decide)))).trans (rfl : Int32.toInt (G_47.1 a 3) = ((G_47.1 a 3).toInt)))] <;> exact (z_X5_advanceNumber_9 l3_47.toInt ((G.1 (F a 0) 1).toInt) ((G.1 a 2).toInt) ((G_47.1 a 3).toInt) (nS (tC (G.2.1 (F (F a 0) 0)) ((G.1 (F a 0) 1).toInt)) ((G.1 a 2).toInt)) (tC (G.2.1 (F (F a 0) 0)) ((G.1 (F a 0) 1).toInt) ((G.1 a 2).toInt)) s0 z0 I47_0 c58 c122)), (v_X5_advanceNumber_152_15 (K := K) (F := F) a G G_47 G149 x144 x8 l3_47 l2_47 N47 x69 x72 ha pr n0 s0 z0 z0a t8 c13 I47_0 I47_1 I47_2 I47_3 hm47 c58 t69 t72 c75 c122 c127 t144 ((ld_j hG149 (by decide)).trans (ld_at hG135)) ((ld_j hG149 (by decide)).trans (ld_j hG135 (by decide))) (ld_at hG149))⟩ hT
          · have z78 : (nv (tC (G.2.1 (F (F a 0) 0)) ((G.1 (F a 0) 1).toInt)) (nS (tC (G.2.1 (F (F a 0) 0)) ((G.1 (F a 0) 1).toInt)) ((G.1 a 2).toInt)) (l3_47.toInt + 1)) = 10 * (nv (tC (G.2.1 (F (F a 0) 0)) ((G.1 (F a 0) 1).toInt)) (nS (tC (G.2.1 (F (F a 0) 0)) ((G.1 (F a 0) 1).toInt)) ((G.1 a 2).toInt)) (l3_47.toInt)) + ((tC (G.2.1 (F (F a 0) 0)) ((G.1 (F a 0) 1).toInt) ((nS (tC (G.2.1 (F (F a 0) 0)) ((G.1 (F a 0) 1).toInt)) ((G.1 a 2).toInt)) + l3_47.toInt)) - 48) := nv_s (z_X5_advanceNumber_10 l3_47.toInt ((G.1 (F a 0) 1).toInt) ((G_47.1 a 3).toInt) I47_1)
            have z78a : ((G_47.1 a 3).toInt) = (nS (tC (G.2.1 (F (F a 0) 0)) ((G.1 (F a 0) 1).toInt)) ((G.1 a 2).toInt)) + l3_47.toInt → (tC (G.2.1 (F (F a 0) 0)) ((G.1 (F a 0) 1).toInt) ((nS (tC (G.2.1 (F (F a 0) 0)) ((G.1 (F a 0) 1).toInt)) ((G.1 a 2).toInt)) + l3_47.toInt)) = (tC (G.2.1 (F (F a 0) 0)) ((G.1 (F a 0) 1).toInt) ((G_47.1 a 3).toInt)) := fun h9 => by rw [h9]
            refine lv_iload_n hx hb dX5_advanceNumber_78 rfl (lv_at hl 3 rfl) ?_
            refine lv_iconst (v := 4) hx hb dX5_advanceNumber_79 (by decide) ?_
            refine xi_cge (tgt := 103) hx hb (rfl : Int32.toInt l3_47 = l3_47.toInt) ((by decide) : Int32.toInt 4 = (4 : Int)) dX5_advanceNumber_80 (by decide) (fun c80 => ?_) (fun c80 => ?_)
            · refine xi_iinc (n := 1) (lv' := fun z9 => [(3, .int z9), (0, .ref a), (1, .int 1), (2, .int l2_47)]) (k := 3) hx hb (rfl : Int32.toInt l3_47 = l3_47.toInt) (by decide) dX5_advanceNumber_103 hl rfl (by decide) (fun _ => rfl) (fun x103 ls t103 hl => ?_)
              have e103 : x103.toInt = (l3_47.toInt + 1) := (z_X5_advanceNumber_11 l3_47.toInt x103.toInt ((G.1 (F a 0) 1).toInt) ((G.1 a 2).toInt) ((G_47.1 a 3).toInt) (nS (tC (G.2.1 (F (F a 0) 0)) ((G.1 (F a 0) 1).toInt)) ((G.1 a 2).toInt)) (tC (G.2.1 (F (F a 0) 0)) ((G.1 (F a 0) 1).toInt) ((G.1 a 2).toInt)) n0 s0 z0 I47_0 c58 c80 t103)
              have hl : lv_has ls 4 [(3, .int x103), (0, .ref a), (1, .int 1), (2, .int l2_47)] := hl
              refine lv_aload_n hx hb dX5_advanceNumber_106 rfl (lv_at hl 1 rfl) ?_
              refine lv_dup hx hb dX5_advanceNumber_107 rfl ?_
              refine gX5_3 S hK hT ha kf_X5_19 dX5_advanceNumber_108 (v := (G_47.1 a 3)) rfl (?_)
              refine lv_iconst (v := 1) hx hb dX5_advanceNumber_111 (by decide) ?_
              refine xi_iadd hx hb (rfl : Int32.toInt (G_47.1 a 3) = ((G_47.1 a 3).toInt)) ((by decide) : Int32.toInt 1 = (1 : Int)) dX5_advanceNumber_112 (fun x112 t112 => ?_)
              have e112 : x112.toInt = (((G_47.1 a 3).toInt) + (1 : Int)) := (z_X5_advanceWord_5 x112.toInt ((G.1 (F a 0) 1).toInt) ((G_47.1 a 3).toInt) n0 c58 t112 (xr (G_47.1 a 3)))
              refine pX5_3 (v := x112) S hK hT hS ha kf_X5_19 dX5_advanceNumber_113 (fun H locs hT hS => ?_)
              obtain ⟨G113, hG113⟩ : ∃ GG : XG, GG = dput G_47 a 3 x112 := ⟨_, rfl⟩
              rw [← hG113] at hT
              refine lv_goto (tgt := 47) hx hb dX5_advanceNumber_116 (by decide) ?_
              exact ih47 l2_47 x103 G113 _ _ _ (by rw [hG113]; exact XFr.dput (XFr.call XFr.rf hF_47 (xm1 0 rfl xm0) xm0 xm0) (List.mem_of_getElem? (i := 0) rfl)) (by rw [(show (G113.1 a 3).toInt = (((G_47.1 a 3).toInt) + (1 : Int)) from (congrArg Int32.toInt (ld_at hG113)).trans (e112 : Int32.toInt x112 = (((G_47.1 a 3).toInt) + (1 : Int))))] <;> exact (v_X5_advanceNumber_116_16 (K := K) (F := F) a G G_47 l3_47 x8 l2_47 N47 x69 x72 ha pr n0 s0 z0 z0a t8 c13 I47_0 I47_1 I47_2 I47_3 hm47 c58 t69 t72 c75 z78 z78a c80)) (by rw [(e103 : Int32.toInt x103 = (l3_47.toInt + 1)), (show (G113.1 a 3).toInt = (((G_47.1 a 3).toInt) + (1 : Int)) from (congrArg Int32.toInt (ld_at hG113)).trans (e112 : Int32.toInt x112 = (((G_47.1 a 3).toInt) + (1 : Int))))] <;> exact (z_X5_advanceNumber_13 l3_47.toInt ((G_47.1 a 3).toInt) (nS (tC (G.2.1 (F (F a 0) 0)) ((G.1 (F a 0) 1).toInt)) ((G.1 a 2).toInt)) I47_0)) (by rw [(e103 : Int32.toInt x103 = (l3_47.toInt + 1)), (show (G113.1 a 3).toInt = (((G_47.1 a 3).toInt) + (1 : Int)) from (congrArg Int32.toInt (ld_at hG113)).trans (e112 : Int32.toInt x112 = (((G_47.1 a 3).toInt) + (1 : Int))))] <;> exact (z_X5_advanceNumber_14 l3_47.toInt ((G.1 (F a 0) 1).toInt) ((G_47.1 a 3).toInt) c58 c80)) (by rw [(e103 : Int32.toInt x103 = (l3_47.toInt + 1))] <;> exact (z_X5_advanceNumber_15 l2_47.toInt l3_47.toInt I47_2)) (by rw [(e103 : Int32.toInt x103 = (l3_47.toInt + 1))] <;> exact (z_X5_advanceNumber_16 l2_47.toInt l3_47.toInt (nv (tC (G.2.1 (F (F a 0) 0)) ((G.1 (F a 0) 1).toInt)) (nS (tC (G.2.1 (F (F a 0) 0)) ((G.1 (F a 0) 1).toInt)) ((G.1 a 2).toInt)) (l3_47.toInt + 1)) c80)) (by rw [(show (G113.1 a 3).toInt = (((G_47.1 a 3).toInt) + (1 : Int)) from (congrArg Int32.toInt (ld_at hG113)).trans (e112 : Int32.toInt x112 = (((G_47.1 a 3).toInt) + (1 : Int))))] <;> exact (z_X5_advanceWord_7 N47 ((G_47.1 a 3).toInt) hm47)) hT hS (lv_sub hl [1, 2, 3, 0] rfl)
            · refine lv_iload_n hx hb dX5_advanceNumber_83 rfl (lv_at hl 2 rfl) ?_
              refine lv_bipush (v := 10) hx hb dX5_advanceNumber_84 (by decide) ?_
              refine xi_imul hx hb (rfl : Int32.toInt l2_47 = l2_47.toInt) ((by decide) : Int32.toInt 10 = (10 : Int)) dX5_advanceNumber_86 (fun x86 t86 => ?_)
              have e86 : x86.toInt = (l2_47.toInt * (10 : Int)) := (z_X5_advanceNumber_18 l2_47.toInt l3_47.toInt x86.toInt I47_2 t86)
              refine lv_aload_n hx hb dX5_advanceNumber_87 rfl (lv_at hl 0 rfl) ?_
              refine gX5_0 S hK hT ha kf_X5_9 dX5_advanceNumber_88 (fun _ _ => ?_)
              refine lv_aload_n hx hb dX5_advanceNumber_91 rfl (lv_at hl 0 rfl) ?_
              refine gX5_3 S hK hT ha kf_X5_19 dX5_advanceNumber_92 (v := (G_47.1 a 3)) rfl (?_)
              refine x_clp (x_runV (b := (F a 0)) (As := [.int (G_47.1 a 3)]) (rest := [.int x86]) S (c_X8_signAt l E K F G_47 H (F a 0) (G_47.1 a 3) hk9999 (by rw [(show (G_47.1 (F a 0) 1).toInt = ((G.1 (F a 0) 1).toInt) from (congrArg Int32.toInt ((hF_47.1 _ _ (xnj (by decide) xn0)).trans (ld_j hG44 (by decide)))).trans (rfl : Int32.toInt (G.1 (F a 0) 1) = ((G.1 (F a 0) 1).toInt)))] <;> exact (n0))) mv_X8_signAt km_X5_97 rfl rfl ⟨Nat.le_of_ble_eq_true rfl, Nat.le_of_ble_eq_true rfl⟩ (rc_10 hK hT hk9999) hK (fun _ => XPh.blind) (fun U hU hW => XPh.at hK hz hS hT hU hW) rfl hl.1 (Nat.le_of_ble_eq_true rfl) dX5_advanceNumber_95 ⟨Nat.le_of_ble_eq_true rfl, Nat.le_of_ble_eq_true rfl⟩) hS ?_
              rintro _ _ locs ⟨x95, rfl, b95, t95⟩ hS
              have t95 : x95.toInt = (tC (G.2.1 (F (F a 0) 0)) ((G.1 (F a 0) 1).toInt) ((G_47.1 a 3).toInt)) := by rw [(show G_47.2.1 (F (F a 0) 0) = G.2.1 (F (F a 0) 0) from ((hF_47.2.1 _ xn0).trans (ld_c hG44)))] at t95; rw [(show (G_47.1 (F a 0) 1).toInt = ((G.1 (F a 0) 1).toInt) from (congrArg Int32.toInt ((hF_47.1 _ _ (xnj (by decide) xn0)).trans (ld_j hG44 (by decide)))).trans (rfl : Int32.toInt (G.1 (F a 0) 1) = ((G.1 (F a 0) 1).toInt)))] at t95; exact t95
              refine lv_bipush (v := 48) hx hb dX5_advanceNumber_98 (by decide) ?_
              refine xi_isub hx hb (rfl : Int32.toInt x95 = x95.toInt) ((by decide) : Int32.toInt 48 = (48 : Int)) dX5_advanceNumber_100 (fun x100 t100 => ?_)
              have e100 : x100.toInt = (x95.toInt - (48 : Int)) := (z_X5_advanceNumber_20 x100.toInt x69.toInt x72.toInt x95.toInt (tC (G.2.1 (F (F a 0) 0)) ((G.1 (F a 0) 1).toInt) ((G_47.1 a 3).toInt)) t69 t72 c75 t95 t100)
              refine xi_iadd hx hb (e86 : Int32.toInt x86 = (l2_47.toInt * (10 : Int))) (e100 : Int32.toInt x100 = (x95.toInt - (48 : Int))) dX5_advanceNumber_101 (fun x101 t101 => ?_)
              have e101 : x101.toInt = ((l2_47.toInt * (10 : Int)) + (x95.toInt - (48 : Int))) := (z_X5_advanceNumber_21 l2_47.toInt l3_47.toInt x101.toInt x69.toInt x72.toInt x95.toInt (tC (G.2.1 (F (F a 0) 0)) ((G.1 (F a 0) 1).toInt) ((G_47.1 a 3).toInt)) I47_2 t69 t72 c75 t95 t101)
              refine lv_istore_n (lv' := [(2, .int x101), (0, .ref a), (1, .int 1), (3, .int l3_47)]) hx hb dX5_advanceNumber_102 rfl hl (by decide) rfl (fun ls hl => ?_)
              refine xi_iinc (n := 1) (lv' := fun z9 => [(3, .int z9), (2, .int x101), (0, .ref a), (1, .int 1)]) (k := 3) hx hb (rfl : Int32.toInt l3_47 = l3_47.toInt) (by decide) dX5_advanceNumber_103 hl rfl (by decide) (fun _ => rfl) (fun x103 ls t103 hl => ?_)
              have e103 : x103.toInt = (l3_47.toInt + 1) := (z_X5_advanceNumber_22 l3_47.toInt x103.toInt ((G.1 (F a 0) 1).toInt) ((G_47.1 a 3).toInt) I47_1 c80 t103)
              have hl : lv_has ls 4 [(3, .int x103), (2, .int x101), (0, .ref a), (1, .int 1)] := hl
              refine lv_aload_n hx hb dX5_advanceNumber_106 rfl (lv_at hl 2 rfl) ?_
              refine lv_dup hx hb dX5_advanceNumber_107 rfl ?_
              refine gX5_3 S hK hT ha kf_X5_19 dX5_advanceNumber_108 (v := (G_47.1 a 3)) rfl (?_)
              refine lv_iconst (v := 1) hx hb dX5_advanceNumber_111 (by decide) ?_
              refine xi_iadd hx hb (rfl : Int32.toInt (G_47.1 a 3) = ((G_47.1 a 3).toInt)) ((by decide) : Int32.toInt 1 = (1 : Int)) dX5_advanceNumber_112 (fun x112 t112 => ?_)
              have e112 : x112.toInt = (((G_47.1 a 3).toInt) + (1 : Int)) := (z_X5_advanceWord_5 x112.toInt ((G.1 (F a 0) 1).toInt) ((G_47.1 a 3).toInt) n0 c58 t112 (xr (G_47.1 a 3)))
              refine pX5_3 (v := x112) S hK hT hS ha kf_X5_19 dX5_advanceNumber_113 (fun H locs hT hS => ?_)
              obtain ⟨G113, hG113⟩ : ∃ GG : XG, GG = dput G_47 a 3 x112 := ⟨_, rfl⟩
              rw [← hG113] at hT
              refine lv_goto (tgt := 47) hx hb dX5_advanceNumber_116 (by decide) ?_
              exact ih47 x101 x103 G113 _ _ _ (by rw [hG113]; exact XFr.dput (XFr.call XFr.rf hF_47 (xm1 0 rfl xm0) xm0 xm0) (List.mem_of_getElem? (i := 0) rfl)) (by rw [(show (G113.1 a 3).toInt = (((G_47.1 a 3).toInt) + (1 : Int)) from (congrArg Int32.toInt (ld_at hG113)).trans (e112 : Int32.toInt x112 = (((G_47.1 a 3).toInt) + (1 : Int))))] <;> exact (v_X5_advanceNumber_116_17 (K := K) (F := F) a G G_47 l2_47 l3_47 x8 N47 x69 x72 ha pr n0 s0 z0 z0a t8 c13 I47_0 I47_1 I47_2 I47_3 hm47 c58 t69 t72 c75 z78 z78a c80)) (by rw [(e103 : Int32.toInt x103 = (l3_47.toInt + 1)), (show (G113.1 a 3).toInt = (((G_47.1 a 3).toInt) + (1 : Int)) from (congrArg Int32.toInt (ld_at hG113)).trans (e112 : Int32.toInt x112 = (((G_47.1 a 3).toInt) + (1 : Int))))] <;> exact (z_X5_advanceNumber_13 l3_47.toInt ((G_47.1 a 3).toInt) (nS (tC (G.2.1 (F (F a 0) 0)) ((G.1 (F a 0) 1).toInt)) ((G.1 a 2).toInt)) I47_0)) (by rw [(e103 : Int32.toInt x103 = (l3_47.toInt + 1)), (show (G113.1 a 3).toInt = (((G_47.1 a 3).toInt) + (1 : Int)) from (congrArg Int32.toInt (ld_at hG113)).trans (e112 : Int32.toInt x112 = (((G_47.1 a 3).toInt) + (1 : Int))))] <;> exact (z_X5_advanceNumber_25 l3_47.toInt ((G.1 (F a 0) 1).toInt) ((G_47.1 a 3).toInt) I47_1 c58)) (by rw [(e103 : Int32.toInt x103 = (l3_47.toInt + 1)), (e101 : Int32.toInt x101 = ((l2_47.toInt * (10 : Int)) + (x95.toInt - (48 : Int))))] <;> exact (z_X5_advanceNumber_26 l2_47.toInt l3_47.toInt x69.toInt x72.toInt x95.toInt (tC (G.2.1 (F (F a 0) 0)) ((G.1 (F a 0) 1).toInt) ((G_47.1 a 3).toInt)) I47_2 t69 t72 c75 c80 t95)) (by rw [(e103 : Int32.toInt x103 = (l3_47.toInt + 1)), (e101 : Int32.toInt x101 = ((l2_47.toInt * (10 : Int)) + (x95.toInt - (48 : Int))))] <;> exact (z_X5_advanceNumber_27 l2_47.toInt l3_47.toInt x95.toInt ((G_47.1 a 3).toInt) (nS (tC (G.2.1 (F (F a 0) 0)) ((G.1 (F a 0) 1).toInt)) ((G.1 a 2).toInt)) (nv (tC (G.2.1 (F (F a 0) 0)) ((G.1 (F a 0) 1).toInt)) (nS (tC (G.2.1 (F (F a 0) 0)) ((G.1 (F a 0) 1).toInt)) ((G.1 a 2).toInt)) (l3_47.toInt + 1)) (nv (tC (G.2.1 (F (F a 0) 0)) ((G.1 (F a 0) 1).toInt)) (nS (tC (G.2.1 (F (F a 0) 0)) ((G.1 (F a 0) 1).toInt)) ((G.1 a 2).toInt)) (l3_47.toInt)) (tC (G.2.1 (F (F a 0) 0)) ((G.1 (F a 0) 1).toInt) ((G_47.1 a 3).toInt)) (tC (G.2.1 (F (F a 0) 0)) ((G.1 (F a 0) 1).toInt) ((nS (tC (G.2.1 (F (F a 0) 0)) ((G.1 (F a 0) 1).toInt)) ((G.1 a 2).toInt)) + l3_47.toInt)) I47_0 I47_3 z78 z78a t95)) (by rw [(show (G113.1 a 3).toInt = (((G_47.1 a 3).toInt) + (1 : Int)) from (congrArg Int32.toInt (ld_at hG113)).trans (e112 : Int32.toInt x112 = (((G_47.1 a 3).toInt) + (1 : Int))))] <;> exact (z_X5_advanceWord_7 N47 ((G_47.1 a 3).toInt) hm47)) hT hS (lv_sub hl [2, 3, 1, 0] rfl)
    exact L47 4294967297 0 0 G44 _ _ _ XFr.rf (by rw [(show (G44.1 a 3).toInt = (((G.1 a 2).toInt) + (1 : Int)) from (congrArg Int32.toInt (ld_at hG44)).trans (e36 : Int32.toInt x36 = (((G.1 a 2).toInt) + (1 : Int))))] <;> exact (v_X5_advanceNumber_44_18 (K := K) (F := F) a G x8 ha n0 s0 z0 z0a t8 c13)) (by rw [(show (G44.1 a 3).toInt = (((G.1 a 2).toInt) + (1 : Int)) from (congrArg Int32.toInt (ld_at hG44)).trans (e36 : Int32.toInt x36 = (((G.1 a 2).toInt) + (1 : Int))))] <;> exact (z_X5_advanceNumber_61 x8.toInt ((G.1 a 2).toInt) (nS (tC (G.2.1 (F (F a 0) 0)) ((G.1 (F a 0) 1).toInt)) ((G.1 a 2).toInt)) (tC (G.2.1 (F (F a 0) 0)) ((G.1 (F a 0) 1).toInt) ((G.1 a 2).toInt)) z0 t8 c13)) (by rw [(show (G44.1 a 3).toInt = (((G.1 a 2).toInt) + (1 : Int)) from (congrArg Int32.toInt (ld_at hG44)).trans (e36 : Int32.toInt x36 = (((G.1 a 2).toInt) + (1 : Int))))] <;> exact (z_X5_advanceNumber_62 ((G.1 (F a 0) 1).toInt) ((G.1 a 2).toInt) s0)) (by decide) (z_X5_advanceNumber_31 (nv (tC (G.2.1 (F (F a 0) 0)) ((G.1 (F a 0) 1).toInt)) (nS (tC (G.2.1 (F (F a 0) 0)) ((G.1 (F a 0) 1).toInt)) ((G.1 a 2).toInt)) 0) z0a) (by rw [(show (G44.1 a 3).toInt = (((G.1 a 2).toInt) + (1 : Int)) from (congrArg Int32.toInt (ld_at hG44)).trans (e36 : Int32.toInt x36 = (((G.1 a 2).toInt) + (1 : Int))))] <;> exact (z_X5_advanceNumber_64 ((G.1 (F a 0) 1).toInt) ((G.1 a 2).toInt) s0)) hT hS (lv_sub hl [3, 2, 1, 0] rfl)

theorem z_X5_advance_2 (a0 : Int) (a1 : Int) (h0 : a0 ≤ a1) (h1 : a1 < a0) : 0 ≤ a0 ∧ a0 ≤ 80 := by omega
theorem z_X5_advance_4 (a0 : Int) (a1 : Int) (h0 : a0 ≤ a1) (h1 : a1 < a0) : 0 ≤ a1 ∧ a1 < a0 := by omega
theorem z_X5_advance_5 (a0 : Int) (a1 : Int) (a2 : Int) (h0 : a0 ≤ a2) (h1 : a2 < a0) : (0 ≤ a2 ∧ a2 ≤ a0) ∧ (0 ≤ a1 ∧ a1 ≤ a0) := by omega
theorem z_X5_advance_7 (a0 : Int) (a1 : Int) (h0 : a0 ≤ a1) (h1 : a1 < a0) : 0 ≤ a1 ∧ a1 ≤ a0 := by omega
theorem z_X5_advance_9 (a0 : Int) (a1 : Int) (a2 : Int) (h0 : 0 ≤ a1 ∧ a1 ≤ a0) (h1 : a1 ≤ a2 ∧ a2 ≤ a0) : (0 ≤ a2 ∧ a2 ≤ a0) ∧ (0 ≤ a2 ∧ a2 ≤ a0) := by omega
theorem z_X5_advance_13 (a0 : Int) (a1 : Int) (a2 : Int) (h0 : 0 ≤ a1 ∧ a1 ≤ a0) (h1 : a1 ≤ a2 ∧ a2 ≤ a0) (h2 : ¬ (a0 ≤ a2)) : 0 ≤ a2 ∧ a2 < a0 := by omega
theorem z_X5_advance_14 (a0 : Int) (a1 : Int) (a2 : Int) (a3 : Int) (h0 : 0 ≤ a1 ∧ a1 ≤ a0) (h1 : a1 ≤ a3 ∧ a3 ≤ a0) (h2 : 0 ≤ a2 ∧ a2 ≤ a0) : (0 ≤ a3 ∧ a3 ≤ a0) ∧ (0 ≤ a2 ∧ a2 ≤ a0) := by omega
theorem z_X5_advance_16 (a0 : Int) (a1 : Int) (a2 : Int) (h0 : 0 ≤ a1 ∧ a1 ≤ a0) (h1 : a1 ≤ a2 ∧ a2 ≤ a0) : 0 ≤ a2 ∧ a2 ≤ a0 := by omega
theorem z_X5_advance_17 (a0 : Int) (a1 : Int) (a2 : Int) (a3 : Int) (a4 : Int) (h0 : 0 ≤ a1 ∧ a1 ≤ a0) (h1 : a1 ≤ a4 ∧ a4 ≤ a0) (h2 : a2 = 1 ∧ a4 ≤ a3 ∧ a3 ≤ a0) : (0 ≤ a4 ∧ a4 ≤ a0) ∧ (0 ≤ a3 ∧ a3 ≤ a0) := by omega
theorem z_X5_advance_18 (a0 : Int) (a1 : Int) (h0 : ¬ (a0 ≤ a1)) (h1 : ¬ (a1 < a0)) : (0 ≤ a1 ∧ a1 ≤ a0) ∧ (0 ≤ a1 ∧ a1 ≤ a0) := by omega
abbrev rm_X5_advance : Room := { frames := 2, cells := 0, slots := 0, locals := 44 }
set_option maxHeartbeats 4000000 in
set_option maxRecDepth 100000 in
theorem c_X5_advance (l : Launch) (E : XE) (K : Nat → Nat) (F : Nat → Nat → Nat) (G : XG) (a : Nat) (ha : K a = 7) (n0 : 0 ≤ ((G.1 (F a 0) 1).toInt) ∧ ((G.1 (F a 0) 1).toInt) ≤ 80) (s0 : 0 ≤ ((G.1 a 3).toInt) ∧ ((G.1 a 3).toInt) ≤ ((G.1 (F a 0) 1).toInt)) : Met l yX5_advance (xw yX5_advance cX5_advance 1 none) rm_X5_advance (va_Pc [.ref a] (XP E K F G)) (XQv E (fun (u : XG) => XFr [(a, 1), (a, 2), (a, 3), (a, 4)] [] [] G u ∧ ((0 ≤ ((u.1 a 2).toInt) ∧ ((u.1 a 2).toInt) ≤ ((G.1 (F a 0) 1).toInt)) ∧ (0 ≤ ((u.1 a 3).toInt) ∧ ((u.1 a 3).toInt) ≤ ((G.1 (F a 0) 1).toInt))) ∧ (((u.1 a 2).toInt) = rn cBl (tC (G.2.1 (F (F a 0) 0)) ((G.1 (F a 0) 1).toInt)) ((G.1 a 3).toInt) ∧ TokI (tC (G.2.1 (F (F a 0) 0)) ((G.1 (F a 0) 1).toInt)) ((G.1 (F a 0) 1).toInt) ((u.1 a 1).toInt) ((u.1 a 2).toInt) ((u.1 a 3).toInt) ((u.1 a 4).toInt))) (fun u H => TW E K F u H)) 0 0 (xA E) := by
  refine x_enter (by decide) (Nat.le_of_ble_eq_true rfl) ?_
  intro p e s m args below meth c Q S hr hlk hnm hQ hP ls hl
  obtain ⟨hz, hK, hT⟩ := hP
  obtain ⟨hx, hb, -, -, -⟩ := id S
  obtain ⟨H, hT, hS, hgo⟩ : ∃ H : Heap, TW E K F G H ∧ va_S (xA E) s.heap H [] ∧ H = s.heap := ⟨_, hT, va_S.rf, rfl⟩
  rw [← hgo]
  have hl : lv_has ls 1 [(0, .ref a)] := hl
  obtain ⟨hk9999, hj9999⟩ := fkX5_0 hT ha
  obtain ⟨hk9999a, hj9999a⟩ := fkX8_0 hT hk9999
  refine lv_aload_n hx hb dX5_advance_0 rfl (lv_at hl 0 rfl) ?_
  refine lv_aload_n hx hb dX5_advance_1 rfl (lv_at hl 0 rfl) ?_
  refine gX5_3 S hK hT ha kf_X5_19 dX5_advance_2 (v := (G.1 a 3)) rfl (?_)
  refine pX5_2 (v := (G.1 a 3)) S hK hT hS ha kf_X5_78 dX5_advance_5 (fun H locs hT hS => ?_)
  obtain ⟨G5, hG5⟩ : ∃ GG : XG, GG = dput G a 2 (G.1 a 3) := ⟨_, rfl⟩
  rw [← hG5] at hT
  have L8 : ∀ (N8 : Nat) (G_8 : XG) (H : Heap) (locs : List Loc) (ls : Array Slot), XFr [(a, 2)] [] [] G5 G_8 → (∀ j : Int, (G.1 a 3).toInt ≤ j → j < ((G_8.1 a 2).toInt) → cBl ((tC (G.2.1 (F (F a 0) 0)) ((G.1 (F a 0) 1).toInt)) j)) → ((G.1 a 3).toInt) ≤ ((G_8.1 a 2).toInt) ∧ ((G_8.1 a 2).toInt) ≤ ((G.1 (F a 0) 1).toInt) → 200 - ((G_8.1 a 2).toInt) < ((N8 : Nat) : Int) → TW E K F G_8 H → va_S (xA E) s.heap H locs → lv_has ls 1 [(0, .ref a)] → W p l e rm_X5_advance s m args below meth c H locs 0 0 Q (F0 m 8 ls []) := by
    intro N8
    induction N8 with
    | zero =>
      intro G_8 H locs ls hF_8 pr I8_0 hm8
      exact absurd hm8 (z_X5_advanceWord_1 ((G.1 (F a 0) 1).toInt) ((G.1 a 3).toInt) ((G_8.1 a 2).toInt) I8_0 n0)
    | succ N8 ih8 =>
      intro G_8 H locs ls hF_8 pr I8_0 hm8 hT hS hl
      refine lv_aload_n hx hb dX5_advance_8 rfl (lv_at hl 0 rfl) ?_
      refine gX5_2 S hK hT ha kf_X5_78 dX5_advance_9 (v := (G_8.1 a 2)) rfl (?_)
      refine lv_aload_n hx hb dX5_advance_12 rfl (lv_at hl 0 rfl) ?_
      refine gX5_0 S hK hT ha kf_X5_9 dX5_advance_13 (fun _ _ => ?_)
      refine x_clp (x_runV (b := (F a 0)) (As := []) (rest := [.int (G_8.1 a 2)]) S (c_X8_length l E K F G_8 H (F a 0) hk9999) mv_X8_length km_X5_106 rfl rfl ⟨Nat.le_of_ble_eq_true rfl, Nat.le_of_ble_eq_true rfl⟩ (rc_10 hK hT hk9999) hK (fun _ => XPh.blind) (fun U hU hW => XPh.at hK hz hS hT hU hW) rfl hl.1 (Nat.le_of_ble_eq_true rfl) dX5_advance_16 ⟨Nat.le_of_ble_eq_true rfl, Nat.le_of_ble_eq_true rfl⟩) hS ?_
      rintro _ _ locs ⟨x16, rfl, t16⟩ hS
      have t16 : x16.toInt = ((G.1 (F a 0) 1).toInt) := by rw [(show (G_8.1 (F a 0) 1).toInt = ((G.1 (F a 0) 1).toInt) from (congrArg Int32.toInt ((hF_8.1 _ _ (xnj (by decide) xn0)).trans (ld_j hG5 (by decide)))).trans (rfl : Int32.toInt (G.1 (F a 0) 1) = ((G.1 (F a 0) 1).toInt)))] at t16; exact t16
      refine xi_cge (tgt := 51) hx hb (rfl : Int32.toInt (G_8.1 a 2) = ((G_8.1 a 2).toInt)) (t16 : Int32.toInt x16 = ((G.1 (F a 0) 1).toInt)) dX5_advance_19 (by decide) (fun c19 => ?_) (fun c19 => ?_)
      · refine lv_aload_n hx hb dX5_advance_51 rfl (lv_at hl 0 rfl) ?_
        refine lv_aload_n hx hb dX5_advance_52 rfl (lv_at hl 0 rfl) ?_
        refine gX5_2 S hK hT ha kf_X5_78 dX5_advance_53 (v := (G_8.1 a 2)) rfl (?_)
        refine pX5_3 (v := (G_8.1 a 2)) S hK hT hS ha kf_X5_19 dX5_advance_56 (fun H locs hT hS => ?_)
        obtain ⟨G56, hG56⟩ : ∃ GG : XG, GG = dput G_8 a 3 (G_8.1 a 2) := ⟨_, rfl⟩
        rw [← hG56] at hT
        refine lv_aload_n hx hb dX5_advance_59 rfl (lv_at hl 0 rfl) ?_
        refine gX5_2 S hK hT ha kf_X5_78 dX5_advance_60 (v := (G_8.1 a 2)) (ld_j hG56 (by decide)) (?_)
        refine lv_aload_n hx hb dX5_advance_63 rfl (lv_at hl 0 rfl) ?_
        refine gX5_0 S hK hT ha kf_X5_9 dX5_advance_64 (fun _ _ => ?_)
        refine x_clp (x_runV (b := (F a 0)) (As := []) (rest := [.int (G_8.1 a 2)]) S (c_X8_length l E K F G56 H (F a 0) hk9999) mv_X8_length km_X5_106 rfl rfl ⟨Nat.le_of_ble_eq_true rfl, Nat.le_of_ble_eq_true rfl⟩ (rc_10 hK hT hk9999) hK (fun _ => XPh.blind) (fun U hU hW => XPh.at hK hz hS hT hU hW) rfl hl.1 (Nat.le_of_ble_eq_true rfl) dX5_advance_67 ⟨Nat.le_of_ble_eq_true rfl, Nat.le_of_ble_eq_true rfl⟩) hS ?_
        rintro _ _ locs ⟨x67, rfl, t67⟩ hS
        have t67 : x67.toInt = ((G.1 (F a 0) 1).toInt) := by rw [(show (G56.1 (F a 0) 1).toInt = ((G.1 (F a 0) 1).toInt) from (congrArg Int32.toInt ((ld_j hG56 (by decide)).trans ((hF_8.1 _ _ (xnj (by decide) xn0)).trans (ld_j hG5 (by decide))))).trans (rfl : Int32.toInt (G.1 (F a 0) 1) = ((G.1 (F a 0) 1).toInt)))] at t67; exact t67
        refine xi_clt (tgt := 81) hx hb (rfl : Int32.toInt (G_8.1 a 2) = ((G_8.1 a 2).toInt)) (t67 : Int32.toInt x67 = ((G.1 (F a 0) 1).toInt)) dX5_advance_70 (by decide) (fun c70 => ?_) (fun c70 => ?_)
        · refine lv_aload_n hx hb dX5_advance_81 rfl (lv_at hl 0 rfl) ?_
          refine gX5_0 S hK hT ha kf_X5_9 dX5_advance_82 (fun _ _ => ?_)
          refine lv_aload_n hx hb dX5_advance_85 rfl (lv_at hl 0 rfl) ?_
          refine gX5_2 S hK hT ha kf_X5_78 dX5_advance_86 (v := (G_8.1 a 2)) (ld_j hG56 (by decide)) (?_)
          refine x_clp (x_runV (b := (F a 0)) (As := [.int (G_8.1 a 2)]) (rest := []) S (c_X8_signAt l E K F G56 H (F a 0) (G_8.1 a 2) hk9999 (by rw [(show (G56.1 (F a 0) 1).toInt = ((G.1 (F a 0) 1).toInt) from (congrArg Int32.toInt ((ld_j hG56 (by decide)).trans ((hF_8.1 _ _ (xnj (by decide) xn0)).trans (ld_j hG5 (by decide))))).trans (rfl : Int32.toInt (G.1 (F a 0) 1) = ((G.1 (F a 0) 1).toInt)))] <;> exact (z_X5_advance_2 ((G.1 (F a 0) 1).toInt) ((G_8.1 a 2).toInt) c19 c70))) mv_X8_signAt km_X5_97 rfl rfl ⟨Nat.le_of_ble_eq_true rfl, Nat.le_of_ble_eq_true rfl⟩ (rc_10 hK hT hk9999) hK (fun _ => XPh.blind) (fun U hU hW => XPh.at hK hz hS hT hU hW) rfl hl.1 (Nat.le_of_ble_eq_true rfl) dX5_advance_89 ⟨Nat.le_of_ble_eq_true rfl, Nat.le_of_ble_eq_true rfl⟩) hS ?_
          rintro _ _ locs ⟨x89, rfl, b89, t89⟩ hS
          have t89 : x89.toInt = (tC (G.2.1 (F (F a 0) 0)) ((G.1 (F a 0) 1).toInt) ((G_8.1 a 2).toInt)) := by rw [(show G56.2.1 (F (F a 0) 0) = G.2.1 (F (F a 0) 0) from ((ld_c hG56).trans ((hF_8.2.1 _ xn0).trans (ld_c hG5))))] at t89; rw [(show (G56.1 (F a 0) 1).toInt = ((G.1 (F a 0) 1).toInt) from (congrArg Int32.toInt ((ld_j hG56 (by decide)).trans ((hF_8.1 _ _ (xnj (by decide) xn0)).trans (ld_j hG5 (by decide))))).trans (rfl : Int32.toInt (G.1 (F a 0) 1) = ((G.1 (F a 0) 1).toInt)))] at t89; exact t89
          refine x_clp (x_runS (As := [.int x89]) (rest := []) S (c_X5_isLetter l E K F G56 H x89) ms_X5_isLetter km_X5_107 rfl rfl ⟨Nat.le_of_ble_eq_true rfl, Nat.le_of_ble_eq_true rfl⟩ hK (fun _ => XPh.blind) (fun U hU hW => XPh.at hK hz hS hT hU hW) rfl hl.1 (Nat.le_of_ble_eq_true rfl) dX5_advance_92 ⟨Nat.le_of_ble_eq_true rfl, Nat.le_of_ble_eq_true rfl⟩) hS ?_
          rintro _ _ locs ⟨x92, rfl, b92, t92⟩ hS
          have t92 : (x92.toInt = 1 ∧ 97 ≤ x89.toInt ∧ x89.toInt ≤ 122) ∨ (x92.toInt = 0 ∧ (x89.toInt < 97 ∨ 122 < x89.toInt)) := t92
          refine xi_zeq (tgt := 105) hx hb (rfl : Int32.toInt x92 = x92.toInt) dX5_advance_95 (by decide) (fun c95 => ?_) (fun c95 => ?_)
          · refine lv_aload_n hx hb dX5_advance_105 rfl (lv_at hl 0 rfl) ?_
            refine x_cv0 (x_runV (b := a) (As := []) (rest := []) S (c_X5_advanceNumber l E K F G56 a ha (by rw [(show (G56.1 (F a 0) 1).toInt = ((G.1 (F a 0) 1).toInt) from (congrArg Int32.toInt ((ld_j hG56 (by decide)).trans ((hF_8.1 _ _ (xnj (by decide) xn0)).trans (ld_j hG5 (by decide))))).trans (rfl : Int32.toInt (G.1 (F a 0) 1) = ((G.1 (F a 0) 1).toInt)))] <;> exact (z_X5_advance_2 ((G.1 (F a 0) 1).toInt) ((G_8.1 a 2).toInt) c19 c70)) (by rw [(show (G56.1 a 2).toInt = ((G_8.1 a 2).toInt) from (congrArg Int32.toInt (ld_j hG56 (by decide))).trans (rfl : Int32.toInt (G_8.1 a 2) = ((G_8.1 a 2).toInt))), (show (G56.1 (F a 0) 1).toInt = ((G.1 (F a 0) 1).toInt) from (congrArg Int32.toInt ((ld_j hG56 (by decide)).trans ((hF_8.1 _ _ (xnj (by decide) xn0)).trans (ld_j hG5 (by decide))))).trans (rfl : Int32.toInt (G.1 (F a 0) 1) = ((G.1 (F a 0) 1).toInt)))] <;> exact (z_X5_advance_4 ((G.1 (F a 0) 1).toInt) ((G_8.1 a 2).toInt) c19 c70))) mv_X5_advanceNumber km_X5_114 rfl rfl ⟨Nat.le_of_ble_eq_true rfl, Nat.le_of_ble_eq_true rfl⟩ (rc_7 hK hT ha) hK (fun _ => XP.blind) (fun U hU hW => XP.at hK hz hS hT hU hW) rfl hl.1 (Nat.le_of_ble_eq_true rfl) dX5_advance_106 ⟨Nat.le_of_ble_eq_true rfl, Nat.le_of_ble_eq_true rfl⟩) hS ?_
            rintro G106 H locs ⟨hF106, t106, oq106⟩ hT hS
            have t106 : 0 ≤ ((G106.1 a 3).toInt) ∧ ((G106.1 a 3).toInt) ≤ ((G.1 (F a 0) 1).toInt) := by rw [(show (G56.1 (F a 0) 1).toInt = ((G.1 (F a 0) 1).toInt) from (congrArg Int32.toInt ((ld_j hG56 (by decide)).trans ((hF_8.1 _ _ (xnj (by decide) xn0)).trans (ld_j hG5 (by decide))))).trans (rfl : Int32.toInt (G.1 (F a 0) 1) = ((G.1 (F a 0) 1).toInt)))] at t106; exact t106
            have oq106 : ((G106.1 a 3).toInt) = nE (tC (G.2.1 (F (F a 0) 0)) ((G.1 (F a 0) 1).toInt)) ((G_8.1 a 2).toInt) ∧ ((nOk (tC (G.2.1 (F (F a 0) 0)) ((G.1 (F a 0) 1).toInt)) ((G_8.1 a 2).toInt) ∧ ((G106.1 a 1).toInt) = 2 ∧ ((G106.1 a 4).toInt) = nVl (tC (G.2.1 (F (F a 0) 0)) ((G.1 (F a 0) 1).toInt)) ((G_8.1 a 2).toInt)) ∨ (¬ nOk (tC (G.2.1 (F (F a 0) 0)) ((G.1 (F a 0) 1).toInt)) ((G_8.1 a 2).toInt) ∧ ((G106.1 a 1).toInt) = 3)) := by simp only [(show G56.2.1 (F (F a 0) 0) = G.2.1 (F (F a 0) 0) from ((ld_c hG56).trans ((hF_8.2.1 _ xn0).trans (ld_c hG5)))), (show G56.1 (F a 0) 1 = G.1 (F a 0) 1 from ((ld_j hG56 (by decide)).trans ((hF_8.1 _ _ (xnj (by decide) xn0)).trans (ld_j hG5 (by decide))))), (show G56.1 a 2 = G_8.1 a 2 from (ld_j hG56 (by decide)))] at oq106; exact oq106
            exact x_rv hx hb hr hlk hQ (Nat.le_of_ble_eq_true rfl) (Nat.le_of_ble_eq_true rfl) hS dX5_advance_109 G106 ⟨(XFr.call (by rw [hG56]; exact XFr.dput (XFr.call (by rw [hG5]; exact XFr.dput XFr.rf (List.mem_of_getElem? (i := 1) rfl)) hF_8 (xm1 1 rfl xm0) xm0 xm0) (List.mem_of_getElem? (i := 2) rfl)) hF106 (xm1 0 rfl (xm1 2 rfl (xm1 3 rfl xm0))) xm0 xm0), (by rw [(show (G106.1 a 2).toInt = ((G_8.1 a 2).toInt) from (congrArg Int32.toInt ((hF106.1 _ _ (xnj (by decide) (xnj (by decide) (xnj (by decide) xn0)))).trans (ld_j hG56 (by decide)))).trans (rfl : Int32.toInt (G_8.1 a 2) = ((G_8.1 a 2).toInt)))] <;> exact (z_X5_advance_5 ((G.1 (F a 0) 1).toInt) ((G106.1 a 3).toInt) ((G_8.1 a 2).toInt) c19 c70)), (v_X5_advance_109_1 (K := K) (F := F) a G G_8 G56 G106 N8 x89 x92 ha pr oq106 n0 s0 I8_0 hm8 c19 c70 t89 t92 c95 t106 ((hF106.1 _ _ (xnj (by decide) (xnj (by decide) (xnj (by decide) xn0)))).trans (ld_j hG56 (by decide))) (ld_j hG56 (by decide)))⟩ hT
          · refine lv_aload_n hx hb dX5_advance_98 rfl (lv_at hl 0 rfl) ?_
            refine x_cv0 (x_runV (b := a) (As := []) (rest := []) S (c_X5_advanceWord l E K F G56 a ha (by rw [(show (G56.1 (F a 0) 1).toInt = ((G.1 (F a 0) 1).toInt) from (congrArg Int32.toInt ((ld_j hG56 (by decide)).trans ((hF_8.1 _ _ (xnj (by decide) xn0)).trans (ld_j hG5 (by decide))))).trans (rfl : Int32.toInt (G.1 (F a 0) 1) = ((G.1 (F a 0) 1).toInt)))] <;> exact (z_X5_advance_2 ((G.1 (F a 0) 1).toInt) ((G_8.1 a 2).toInt) c19 c70)) (by rw [(show (G56.1 a 3).toInt = ((G_8.1 a 2).toInt) from (congrArg Int32.toInt (ld_at hG56)).trans (rfl : Int32.toInt (G_8.1 a 2) = ((G_8.1 a 2).toInt))), (show (G56.1 (F a 0) 1).toInt = ((G.1 (F a 0) 1).toInt) from (congrArg Int32.toInt ((ld_j hG56 (by decide)).trans ((hF_8.1 _ _ (xnj (by decide) xn0)).trans (ld_j hG5 (by decide))))).trans (rfl : Int32.toInt (G.1 (F a 0) 1) = ((G.1 (F a 0) 1).toInt)))] <;> exact (z_X5_advance_7 ((G.1 (F a 0) 1).toInt) ((G_8.1 a 2).toInt) c19 c70))) mv_X5_advanceWord km_X5_111 rfl rfl ⟨Nat.le_of_ble_eq_true rfl, Nat.le_of_ble_eq_true rfl⟩ (rc_7 hK hT ha) hK (fun _ => XP.blind) (fun U hU hW => XP.at hK hz hS hT hU hW) rfl hl.1 (Nat.le_of_ble_eq_true rfl) dX5_advance_99 ⟨Nat.le_of_ble_eq_true rfl, Nat.le_of_ble_eq_true rfl⟩) hS ?_
            rintro G99 H locs ⟨hF99, t99, oq99⟩ hT hS
            have t99 : ((G99.1 a 1).toInt) = 1 ∧ ((G_8.1 a 2).toInt) ≤ ((G99.1 a 3).toInt) ∧ ((G99.1 a 3).toInt) ≤ ((G.1 (F a 0) 1).toInt) := by rw [(show (G56.1 a 3).toInt = ((G_8.1 a 2).toInt) from (congrArg Int32.toInt (ld_at hG56)).trans (rfl : Int32.toInt (G_8.1 a 2) = ((G_8.1 a 2).toInt)))] at t99; rw [(show (G56.1 (F a 0) 1).toInt = ((G.1 (F a 0) 1).toInt) from (congrArg Int32.toInt ((ld_j hG56 (by decide)).trans ((hF_8.1 _ _ (xnj (by decide) xn0)).trans (ld_j hG5 (by decide))))).trans (rfl : Int32.toInt (G.1 (F a 0) 1) = ((G.1 (F a 0) 1).toInt)))] at t99; exact t99
            have oq99 : ((G99.1 a 3).toInt) = rn cLt (tC (G.2.1 (F (F a 0) 0)) ((G.1 (F a 0) 1).toInt)) ((G56.1 a 3).toInt) := by simp only [(show G56.2.1 (F (F a 0) 0) = G.2.1 (F (F a 0) 0) from ((ld_c hG56).trans ((hF_8.2.1 _ xn0).trans (ld_c hG5)))), (show G56.1 (F a 0) 1 = G.1 (F a 0) 1 from ((ld_j hG56 (by decide)).trans ((hF_8.1 _ _ (xnj (by decide) xn0)).trans (ld_j hG5 (by decide)))))] at oq99; exact oq99
            refine lv_goto (tgt := 109) hx hb dX5_advance_102 (by decide) ?_
            exact x_rv hx hb hr hlk hQ (Nat.le_of_ble_eq_true rfl) (Nat.le_of_ble_eq_true rfl) hS dX5_advance_109 G99 ⟨(XFr.call (by rw [hG56]; exact XFr.dput (XFr.call (by rw [hG5]; exact XFr.dput XFr.rf (List.mem_of_getElem? (i := 1) rfl)) hF_8 (xm1 1 rfl xm0) xm0 xm0) (List.mem_of_getElem? (i := 2) rfl)) hF99 (xm1 0 rfl (xm1 2 rfl xm0)) xm0 xm0), (by rw [(show (G99.1 a 2).toInt = ((G_8.1 a 2).toInt) from (congrArg Int32.toInt ((hF99.1 _ _ (xnj (by decide) (xnj (by decide) xn0))).trans (ld_j hG56 (by decide)))).trans (rfl : Int32.toInt (G_8.1 a 2) = ((G_8.1 a 2).toInt)))] <;> exact (z_X5_advance_5 ((G.1 (F a 0) 1).toInt) ((G99.1 a 3).toInt) ((G_8.1 a 2).toInt) c19 c70)), (v_X5_advance_109_2 (K := K) (F := F) a G G_8 G56 G99 N8 x89 x92 ha pr oq99 n0 s0 I8_0 hm8 c19 c70 t89 t92 c95 t99 (ld_at hG56) ((hF99.1 _ _ (xnj (by decide) (xnj (by decide) xn0))).trans (ld_j hG56 (by decide))))⟩ hT
        · refine lv_aload_n hx hb dX5_advance_73 rfl (lv_at hl 0 rfl) ?_
          refine lv_iconst (v := 0) hx hb dX5_advance_74 (by decide) ?_
          refine pX5_1 (v := 0) S hK hT hS ha kf_X5_75 dX5_advance_75 (fun H locs hT hS => ?_)
          obtain ⟨G75, hG75⟩ : ∃ GG : XG, GG = dput G56 a 1 0 := ⟨_, rfl⟩
          rw [← hG75] at hT
          refine lv_goto (tgt := 109) hx hb dX5_advance_78 (by decide) ?_
          exact x_rv hx hb hr hlk hQ (Nat.le_of_ble_eq_true rfl) (Nat.le_of_ble_eq_true rfl) hS dX5_advance_109 G75 ⟨(by rw [hG75]; exact XFr.dput (by rw [hG56]; exact XFr.dput (XFr.call (by rw [hG5]; exact XFr.dput XFr.rf (List.mem_of_getElem? (i := 1) rfl)) hF_8 (xm1 1 rfl xm0) xm0 xm0) (List.mem_of_getElem? (i := 2) rfl)) (List.mem_of_getElem? (i := 0) rfl)), (by rw [(show (G75.1 a 2).toInt = ((G_8.1 a 2).toInt) from (congrArg Int32.toInt ((ld_j hG75 (by decide)).trans (ld_j hG56 (by decide)))).trans (rfl : Int32.toInt (G_8.1 a 2) = ((G_8.1 a 2).toInt))), (show (G75.1 a 3).toInt = ((G_8.1 a 2).toInt) from (congrArg Int32.toInt ((ld_j hG75 (by decide)).trans (ld_at hG56))).trans (rfl : Int32.toInt (G_8.1 a 2) = ((G_8.1 a 2).toInt)))] <;> exact (z_X5_advance_9 ((G.1 (F a 0) 1).toInt) ((G.1 a 3).toInt) ((G_8.1 a 2).toInt) s0 I8_0)), (v_X5_advance_109_3 (K := K) (F := F) a G G_8 G75 N8 ha pr n0 s0 I8_0 hm8 c19 c70 (ld_at hG75) ((ld_j hG75 (by decide)).trans (ld_j hG56 (by decide))))⟩ hT
      · refine lv_aload_n hx hb dX5_advance_22 rfl (lv_at hl 0 rfl) ?_
        refine gX5_0 S hK hT ha kf_X5_9 dX5_advance_23 (fun _ _ => ?_)
        refine lv_aload_n hx hb dX5_advance_26 rfl (lv_at hl 0 rfl) ?_
        refine gX5_2 S hK hT ha kf_X5_78 dX5_advance_27 (v := (G_8.1 a 2)) rfl (?_)
        refine x_clp (x_runV (b := (F a 0)) (As := [.int (G_8.1 a 2)]) (rest := []) S (c_X8_signAt l E K F G_8 H (F a 0) (G_8.1 a 2) hk9999 (by rw [(show (G_8.1 (F a 0) 1).toInt = ((G.1 (F a 0) 1).toInt) from (congrArg Int32.toInt ((hF_8.1 _ _ (xnj (by decide) xn0)).trans (ld_j hG5 (by decide)))).trans (rfl : Int32.toInt (G.1 (F a 0) 1) = ((G.1 (F a 0) 1).toInt)))] <;> exact (n0))) mv_X8_signAt km_X5_97 rfl rfl ⟨Nat.le_of_ble_eq_true rfl, Nat.le_of_ble_eq_true rfl⟩ (rc_10 hK hT hk9999) hK (fun _ => XPh.blind) (fun U hU hW => XPh.at hK hz hS hT hU hW) rfl hl.1 (Nat.le_of_ble_eq_true rfl) dX5_advance_30 ⟨Nat.le_of_ble_eq_true rfl, Nat.le_of_ble_eq_true rfl⟩) hS ?_
        rintro _ _ locs ⟨x30, rfl, b30, t30⟩ hS
        have t30 : x30.toInt = (tC (G.2.1 (F (F a 0) 0)) ((G.1 (F a 0) 1).toInt) ((G_8.1 a 2).toInt)) := by rw [(show G_8.2.1 (F (F a 0) 0) = G.2.1 (F (F a 0) 0) from ((hF_8.2.1 _ xn0).trans (ld_c hG5)))] at t30; rw [(show (G_8.1 (F a 0) 1).toInt = ((G.1 (F a 0) 1).toInt) from (congrArg Int32.toInt ((hF_8.1 _ _ (xnj (by decide) xn0)).trans (ld_j hG5 (by decide)))).trans (rfl : Int32.toInt (G.1 (F a 0) 1) = ((G.1 (F a 0) 1).toInt)))] at t30; exact t30
        refine lv_bipush (v := 32) hx hb dX5_advance_33 (by decide) ?_
        refine xi_cne (tgt := 51) hx hb (rfl : Int32.toInt x30 = x30.toInt) ((by decide) : Int32.toInt 32 = (32 : Int)) dX5_advance_35 (by decide) (fun c35 => ?_) (fun c35 => ?_)
        · refine lv_aload_n hx hb dX5_advance_51 rfl (lv_at hl 0 rfl) ?_
          refine lv_aload_n hx hb dX5_advance_52 rfl (lv_at hl 0 rfl) ?_
          refine gX5_2 S hK hT ha kf_X5_78 dX5_advance_53 (v := (G_8.1 a 2)) rfl (?_)
          refine pX5_3 (v := (G_8.1 a 2)) S hK hT hS ha kf_X5_19 dX5_advance_56 (fun H locs hT hS => ?_)
          obtain ⟨G56, hG56⟩ : ∃ GG : XG, GG = dput G_8 a 3 (G_8.1 a 2) := ⟨_, rfl⟩
          rw [← hG56] at hT
          refine lv_aload_n hx hb dX5_advance_59 rfl (lv_at hl 0 rfl) ?_
          refine gX5_2 S hK hT ha kf_X5_78 dX5_advance_60 (v := (G_8.1 a 2)) (ld_j hG56 (by decide)) (?_)
          refine lv_aload_n hx hb dX5_advance_63 rfl (lv_at hl 0 rfl) ?_
          refine gX5_0 S hK hT ha kf_X5_9 dX5_advance_64 (fun _ _ => ?_)
          refine x_clp (x_runV (b := (F a 0)) (As := []) (rest := [.int (G_8.1 a 2)]) S (c_X8_length l E K F G56 H (F a 0) hk9999) mv_X8_length km_X5_106 rfl rfl ⟨Nat.le_of_ble_eq_true rfl, Nat.le_of_ble_eq_true rfl⟩ (rc_10 hK hT hk9999) hK (fun _ => XPh.blind) (fun U hU hW => XPh.at hK hz hS hT hU hW) rfl hl.1 (Nat.le_of_ble_eq_true rfl) dX5_advance_67 ⟨Nat.le_of_ble_eq_true rfl, Nat.le_of_ble_eq_true rfl⟩) hS ?_
          rintro _ _ locs ⟨x67, rfl, t67⟩ hS
          have t67 : x67.toInt = ((G.1 (F a 0) 1).toInt) := by rw [(show (G56.1 (F a 0) 1).toInt = ((G.1 (F a 0) 1).toInt) from (congrArg Int32.toInt ((ld_j hG56 (by decide)).trans ((hF_8.1 _ _ (xnj (by decide) xn0)).trans (ld_j hG5 (by decide))))).trans (rfl : Int32.toInt (G.1 (F a 0) 1) = ((G.1 (F a 0) 1).toInt)))] at t67; exact t67
          refine xi_clt (tgt := 81) hx hb (rfl : Int32.toInt (G_8.1 a 2) = ((G_8.1 a 2).toInt)) (t67 : Int32.toInt x67 = ((G.1 (F a 0) 1).toInt)) dX5_advance_70 (by decide) (fun c70 => ?_) (fun c70 => ?_)
          · refine lv_aload_n hx hb dX5_advance_81 rfl (lv_at hl 0 rfl) ?_
            refine gX5_0 S hK hT ha kf_X5_9 dX5_advance_82 (fun _ _ => ?_)
            refine lv_aload_n hx hb dX5_advance_85 rfl (lv_at hl 0 rfl) ?_
            refine gX5_2 S hK hT ha kf_X5_78 dX5_advance_86 (v := (G_8.1 a 2)) (ld_j hG56 (by decide)) (?_)
            refine x_clp (x_runV (b := (F a 0)) (As := [.int (G_8.1 a 2)]) (rest := []) S (c_X8_signAt l E K F G56 H (F a 0) (G_8.1 a 2) hk9999 (by rw [(show (G56.1 (F a 0) 1).toInt = ((G.1 (F a 0) 1).toInt) from (congrArg Int32.toInt ((ld_j hG56 (by decide)).trans ((hF_8.1 _ _ (xnj (by decide) xn0)).trans (ld_j hG5 (by decide))))).trans (rfl : Int32.toInt (G.1 (F a 0) 1) = ((G.1 (F a 0) 1).toInt)))] <;> exact (n0))) mv_X8_signAt km_X5_97 rfl rfl ⟨Nat.le_of_ble_eq_true rfl, Nat.le_of_ble_eq_true rfl⟩ (rc_10 hK hT hk9999) hK (fun _ => XPh.blind) (fun U hU hW => XPh.at hK hz hS hT hU hW) rfl hl.1 (Nat.le_of_ble_eq_true rfl) dX5_advance_89 ⟨Nat.le_of_ble_eq_true rfl, Nat.le_of_ble_eq_true rfl⟩) hS ?_
            rintro _ _ locs ⟨x89, rfl, b89, t89⟩ hS
            have t89 : x89.toInt = (tC (G.2.1 (F (F a 0) 0)) ((G.1 (F a 0) 1).toInt) ((G_8.1 a 2).toInt)) := by rw [(show G56.2.1 (F (F a 0) 0) = G.2.1 (F (F a 0) 0) from ((ld_c hG56).trans ((hF_8.2.1 _ xn0).trans (ld_c hG5))))] at t89; rw [(show (G56.1 (F a 0) 1).toInt = ((G.1 (F a 0) 1).toInt) from (congrArg Int32.toInt ((ld_j hG56 (by decide)).trans ((hF_8.1 _ _ (xnj (by decide) xn0)).trans (ld_j hG5 (by decide))))).trans (rfl : Int32.toInt (G.1 (F a 0) 1) = ((G.1 (F a 0) 1).toInt)))] at t89; exact t89
            refine x_clp (x_runS (As := [.int x89]) (rest := []) S (c_X5_isLetter l E K F G56 H x89) ms_X5_isLetter km_X5_107 rfl rfl ⟨Nat.le_of_ble_eq_true rfl, Nat.le_of_ble_eq_true rfl⟩ hK (fun _ => XPh.blind) (fun U hU hW => XPh.at hK hz hS hT hU hW) rfl hl.1 (Nat.le_of_ble_eq_true rfl) dX5_advance_92 ⟨Nat.le_of_ble_eq_true rfl, Nat.le_of_ble_eq_true rfl⟩) hS ?_
            rintro _ _ locs ⟨x92, rfl, b92, t92⟩ hS
            have t92 : (x92.toInt = 1 ∧ 97 ≤ x89.toInt ∧ x89.toInt ≤ 122) ∨ (x92.toInt = 0 ∧ (x89.toInt < 97 ∨ 122 < x89.toInt)) := t92
            refine xi_zeq (tgt := 105) hx hb (rfl : Int32.toInt x92 = x92.toInt) dX5_advance_95 (by decide) (fun c95 => ?_) (fun c95 => ?_)
            · refine lv_aload_n hx hb dX5_advance_105 rfl (lv_at hl 0 rfl) ?_
              refine x_cv0 (x_runV (b := a) (As := []) (rest := []) S (c_X5_advanceNumber l E K F G56 a ha (by rw [(show (G56.1 (F a 0) 1).toInt = ((G.1 (F a 0) 1).toInt) from (congrArg Int32.toInt ((ld_j hG56 (by decide)).trans ((hF_8.1 _ _ (xnj (by decide) xn0)).trans (ld_j hG5 (by decide))))).trans (rfl : Int32.toInt (G.1 (F a 0) 1) = ((G.1 (F a 0) 1).toInt)))] <;> exact (n0)) (by rw [(show (G56.1 a 2).toInt = ((G_8.1 a 2).toInt) from (congrArg Int32.toInt (ld_j hG56 (by decide))).trans (rfl : Int32.toInt (G_8.1 a 2) = ((G_8.1 a 2).toInt))), (show (G56.1 (F a 0) 1).toInt = ((G.1 (F a 0) 1).toInt) from (congrArg Int32.toInt ((ld_j hG56 (by decide)).trans ((hF_8.1 _ _ (xnj (by decide) xn0)).trans (ld_j hG5 (by decide))))).trans (rfl : Int32.toInt (G.1 (F a 0) 1) = ((G.1 (F a 0) 1).toInt)))] <;> exact (z_X5_advance_13 ((G.1 (F a 0) 1).toInt) ((G.1 a 3).toInt) ((G_8.1 a 2).toInt) s0 I8_0 c19))) mv_X5_advanceNumber km_X5_114 rfl rfl ⟨Nat.le_of_ble_eq_true rfl, Nat.le_of_ble_eq_true rfl⟩ (rc_7 hK hT ha) hK (fun _ => XP.blind) (fun U hU hW => XP.at hK hz hS hT hU hW) rfl hl.1 (Nat.le_of_ble_eq_true rfl) dX5_advance_106 ⟨Nat.le_of_ble_eq_true rfl, Nat.le_of_ble_eq_true rfl⟩) hS ?_
              rintro G106 H locs ⟨hF106, t106, oq106⟩ hT hS
              have t106 : 0 ≤ ((G106.1 a 3).toInt) ∧ ((G106.1 a 3).toInt) ≤ ((G.1 (F a 0) 1).toInt) := by rw [(show (G56.1 (F a 0) 1).toInt = ((G.1 (F a 0) 1).toInt) from (congrArg Int32.toInt ((ld_j hG56 (by decide)).trans ((hF_8.1 _ _ (xnj (by decide) xn0)).trans (ld_j hG5 (by decide))))).trans (rfl : Int32.toInt (G.1 (F a 0) 1) = ((G.1 (F a 0) 1).toInt)))] at t106; exact t106
              have oq106 : ((G106.1 a 3).toInt) = nE (tC (G.2.1 (F (F a 0) 0)) ((G.1 (F a 0) 1).toInt)) ((G_8.1 a 2).toInt) ∧ ((nOk (tC (G.2.1 (F (F a 0) 0)) ((G.1 (F a 0) 1).toInt)) ((G_8.1 a 2).toInt) ∧ ((G106.1 a 1).toInt) = 2 ∧ ((G106.1 a 4).toInt) = nVl (tC (G.2.1 (F (F a 0) 0)) ((G.1 (F a 0) 1).toInt)) ((G_8.1 a 2).toInt)) ∨ (¬ nOk (tC (G.2.1 (F (F a 0) 0)) ((G.1 (F a 0) 1).toInt)) ((G_8.1 a 2).toInt) ∧ ((G106.1 a 1).toInt) = 3)) := by simp only [(show G56.2.1 (F (F a 0) 0) = G.2.1 (F (F a 0) 0) from ((ld_c hG56).trans ((hF_8.2.1 _ xn0).trans (ld_c hG5)))), (show G56.1 (F a 0) 1 = G.1 (F a 0) 1 from ((ld_j hG56 (by decide)).trans ((hF_8.1 _ _ (xnj (by decide) xn0)).trans (ld_j hG5 (by decide))))), (show G56.1 a 2 = G_8.1 a 2 from (ld_j hG56 (by decide)))] at oq106; exact oq106
              exact x_rv hx hb hr hlk hQ (Nat.le_of_ble_eq_true rfl) (Nat.le_of_ble_eq_true rfl) hS dX5_advance_109 G106 ⟨(XFr.call (by rw [hG56]; exact XFr.dput (XFr.call (by rw [hG5]; exact XFr.dput XFr.rf (List.mem_of_getElem? (i := 1) rfl)) hF_8 (xm1 1 rfl xm0) xm0 xm0) (List.mem_of_getElem? (i := 2) rfl)) hF106 (xm1 0 rfl (xm1 2 rfl (xm1 3 rfl xm0))) xm0 xm0), (by rw [(show (G106.1 a 2).toInt = ((G_8.1 a 2).toInt) from (congrArg Int32.toInt ((hF106.1 _ _ (xnj (by decide) (xnj (by decide) (xnj (by decide) xn0)))).trans (ld_j hG56 (by decide)))).trans (rfl : Int32.toInt (G_8.1 a 2) = ((G_8.1 a 2).toInt)))] <;> exact (z_X5_advance_14 ((G.1 (F a 0) 1).toInt) ((G.1 a 3).toInt) ((G106.1 a 3).toInt) ((G_8.1 a 2).toInt) s0 I8_0 t106)), (v_X5_advance_109_4 (K := K) (F := F) a G G_8 G56 G106 N8 x30 x89 x92 ha pr oq106 n0 s0 I8_0 hm8 c19 t30 c35 c70 t89 t92 c95 t106 ((hF106.1 _ _ (xnj (by decide) (xnj (by decide) (xnj (by decide) xn0)))).trans (ld_j hG56 (by decide))) (ld_j hG56 (by decide)))⟩ hT
            · refine lv_aload_n hx hb dX5_advance_98 rfl (lv_at hl 0 rfl) ?_
              refine x_cv0 (x_runV (b := a) (As := []) (rest := []) S (c_X5_advanceWord l E K F G56 a ha (by rw [(show (G56.1 (F a 0) 1).toInt = ((G.1 (F a 0) 1).toInt) from (congrArg Int32.toInt ((ld_j hG56 (by decide)).trans ((hF_8.1 _ _ (xnj (by decide) xn0)).trans (ld_j hG5 (by decide))))).trans (rfl : Int32.toInt (G.1 (F a 0) 1) = ((G.1 (F a 0) 1).toInt)))] <;> exact (n0)) (by rw [(show (G56.1 a 3).toInt = ((G_8.1 a 2).toInt) from (congrArg Int32.toInt (ld_at hG56)).trans (rfl : Int32.toInt (G_8.1 a 2) = ((G_8.1 a 2).toInt))), (show (G56.1 (F a 0) 1).toInt = ((G.1 (F a 0) 1).toInt) from (congrArg Int32.toInt ((ld_j hG56 (by decide)).trans ((hF_8.1 _ _ (xnj (by decide) xn0)).trans (ld_j hG5 (by decide))))).trans (rfl : Int32.toInt (G.1 (F a 0) 1) = ((G.1 (F a 0) 1).toInt)))] <;> exact (z_X5_advance_16 ((G.1 (F a 0) 1).toInt) ((G.1 a 3).toInt) ((G_8.1 a 2).toInt) s0 I8_0))) mv_X5_advanceWord km_X5_111 rfl rfl ⟨Nat.le_of_ble_eq_true rfl, Nat.le_of_ble_eq_true rfl⟩ (rc_7 hK hT ha) hK (fun _ => XP.blind) (fun U hU hW => XP.at hK hz hS hT hU hW) rfl hl.1 (Nat.le_of_ble_eq_true rfl) dX5_advance_99 ⟨Nat.le_of_ble_eq_true rfl, Nat.le_of_ble_eq_true rfl⟩) hS ?_
              rintro G99 H locs ⟨hF99, t99, oq99⟩ hT hS
              have t99 : ((G99.1 a 1).toInt) = 1 ∧ ((G_8.1 a 2).toInt) ≤ ((G99.1 a 3).toInt) ∧ ((G99.1 a 3).toInt) ≤ ((G.1 (F a 0) 1).toInt) := by rw [(show (G56.1 a 3).toInt = ((G_8.1 a 2).toInt) from (congrArg Int32.toInt (ld_at hG56)).trans (rfl : Int32.toInt (G_8.1 a 2) = ((G_8.1 a 2).toInt)))] at t99; rw [(show (G56.1 (F a 0) 1).toInt = ((G.1 (F a 0) 1).toInt) from (congrArg Int32.toInt ((ld_j hG56 (by decide)).trans ((hF_8.1 _ _ (xnj (by decide) xn0)).trans (ld_j hG5 (by decide))))).trans (rfl : Int32.toInt (G.1 (F a 0) 1) = ((G.1 (F a 0) 1).toInt)))] at t99; exact t99
              have oq99 : ((G99.1 a 3).toInt) = rn cLt (tC (G.2.1 (F (F a 0) 0)) ((G.1 (F a 0) 1).toInt)) ((G56.1 a 3).toInt) := by simp only [(show G56.2.1 (F (F a 0) 0) = G.2.1 (F (F a 0) 0) from ((ld_c hG56).trans ((hF_8.2.1 _ xn0).trans (ld_c hG5)))), (show G56.1 (F a 0) 1 = G.1 (F a 0) 1 from ((ld_j hG56 (by decide)).trans ((hF_8.1 _ _ (xnj (by decide) xn0)).trans (ld_j hG5 (by decide)))))] at oq99; exact oq99
              refine lv_goto (tgt := 109) hx hb dX5_advance_102 (by decide) ?_
              exact x_rv hx hb hr hlk hQ (Nat.le_of_ble_eq_true rfl) (Nat.le_of_ble_eq_true rfl) hS dX5_advance_109 G99 ⟨(XFr.call (by rw [hG56]; exact XFr.dput (XFr.call (by rw [hG5]; exact XFr.dput XFr.rf (List.mem_of_getElem? (i := 1) rfl)) hF_8 (xm1 1 rfl xm0) xm0 xm0) (List.mem_of_getElem? (i := 2) rfl)) hF99 (xm1 0 rfl (xm1 2 rfl xm0)) xm0 xm0), (by rw [(show (G99.1 a 2).toInt = ((G_8.1 a 2).toInt) from (congrArg Int32.toInt ((hF99.1 _ _ (xnj (by decide) (xnj (by decide) xn0))).trans (ld_j hG56 (by decide)))).trans (rfl : Int32.toInt (G_8.1 a 2) = ((G_8.1 a 2).toInt)))] <;> exact (z_X5_advance_17 ((G.1 (F a 0) 1).toInt) ((G.1 a 3).toInt) ((G99.1 a 1).toInt) ((G99.1 a 3).toInt) ((G_8.1 a 2).toInt) s0 I8_0 t99)), (v_X5_advance_109_5 (K := K) (F := F) a G G_8 G56 G99 N8 x30 x89 x92 ha pr oq99 n0 s0 I8_0 hm8 c19 t30 c35 c70 t89 t92 c95 t99 (ld_at hG56) ((hF99.1 _ _ (xnj (by decide) (xnj (by decide) xn0))).trans (ld_j hG56 (by decide))))⟩ hT
          · refine lv_aload_n hx hb dX5_advance_73 rfl (lv_at hl 0 rfl) ?_
            refine lv_iconst (v := 0) hx hb dX5_advance_74 (by decide) ?_
            refine pX5_1 (v := 0) S hK hT hS ha kf_X5_75 dX5_advance_75 (fun H locs hT hS => ?_)
            obtain ⟨G75, hG75⟩ : ∃ GG : XG, GG = dput G56 a 1 0 := ⟨_, rfl⟩
            rw [← hG75] at hT
            refine lv_goto (tgt := 109) hx hb dX5_advance_78 (by decide) ?_
            exact x_rv hx hb hr hlk hQ (Nat.le_of_ble_eq_true rfl) (Nat.le_of_ble_eq_true rfl) hS dX5_advance_109 G75 ⟨(by rw [hG75]; exact XFr.dput (by rw [hG56]; exact XFr.dput (XFr.call (by rw [hG5]; exact XFr.dput XFr.rf (List.mem_of_getElem? (i := 1) rfl)) hF_8 (xm1 1 rfl xm0) xm0 xm0) (List.mem_of_getElem? (i := 2) rfl)) (List.mem_of_getElem? (i := 0) rfl)), (by rw [(show (G75.1 a 2).toInt = ((G_8.1 a 2).toInt) from (congrArg Int32.toInt ((ld_j hG75 (by decide)).trans (ld_j hG56 (by decide)))).trans (rfl : Int32.toInt (G_8.1 a 2) = ((G_8.1 a 2).toInt))), (show (G75.1 a 3).toInt = ((G_8.1 a 2).toInt) from (congrArg Int32.toInt ((ld_j hG75 (by decide)).trans (ld_at hG56))).trans (rfl : Int32.toInt (G_8.1 a 2) = ((G_8.1 a 2).toInt)))] <;> exact (z_X5_advance_18 ((G.1 (F a 0) 1).toInt) ((G_8.1 a 2).toInt) c19 c70)), (v_X5_advance_109_6 (K := K) (F := F) a G G_8 G75 N8 x30 ha pr n0 s0 I8_0 hm8 c19 t30 c35 c70 (ld_at hG75) ((ld_j hG75 (by decide)).trans (ld_j hG56 (by decide))))⟩ hT
        · refine lv_aload_n hx hb dX5_advance_38 rfl (lv_at hl 0 rfl) ?_
          refine lv_dup hx hb dX5_advance_39 rfl ?_
          refine gX5_2 S hK hT ha kf_X5_78 dX5_advance_40 (v := (G_8.1 a 2)) rfl (?_)
          refine lv_iconst (v := 1) hx hb dX5_advance_43 (by decide) ?_
          refine xi_iadd hx hb (rfl : Int32.toInt (G_8.1 a 2) = ((G_8.1 a 2).toInt)) ((by decide) : Int32.toInt 1 = (1 : Int)) dX5_advance_44 (fun x44 t44 => ?_)
          have e44 : x44.toInt = (((G_8.1 a 2).toInt) + (1 : Int)) := (z_X5_advanceWord_5 x44.toInt ((G.1 (F a 0) 1).toInt) ((G_8.1 a 2).toInt) n0 c19 t44 (xr (G_8.1 a 2)))
          refine pX5_2 (v := x44) S hK hT hS ha kf_X5_78 dX5_advance_45 (fun H locs hT hS => ?_)
          obtain ⟨G45, hG45⟩ : ∃ GG : XG, GG = dput G_8 a 2 x44 := ⟨_, rfl⟩
          rw [← hG45] at hT
          refine lv_goto (tgt := 8) hx hb dX5_advance_48 (by decide) ?_
          exact ih8 G45 _ _ _ (by rw [hG45]; exact XFr.dput (XFr.call XFr.rf hF_8 (xm1 0 rfl xm0) xm0 xm0) (List.mem_of_getElem? (i := 0) rfl)) (by rw [(show (G45.1 a 2).toInt = (((G_8.1 a 2).toInt) + (1 : Int)) from (congrArg Int32.toInt (ld_at hG45)).trans (e44 : Int32.toInt x44 = (((G_8.1 a 2).toInt) + (1 : Int))))] <;> exact (v_X5_advance_48_7 (K := K) (F := F) a G G_8 N8 x30 ha pr n0 s0 I8_0 hm8 c19 t30 c35)) (by rw [(show (G45.1 a 2).toInt = (((G_8.1 a 2).toInt) + (1 : Int)) from (congrArg Int32.toInt (ld_at hG45)).trans (e44 : Int32.toInt x44 = (((G_8.1 a 2).toInt) + (1 : Int))))] <;> exact (z_X5_advanceWord_6 ((G.1 (F a 0) 1).toInt) ((G.1 a 3).toInt) ((G_8.1 a 2).toInt) I8_0 c19)) (by rw [(show (G45.1 a 2).toInt = (((G_8.1 a 2).toInt) + (1 : Int)) from (congrArg Int32.toInt (ld_at hG45)).trans (e44 : Int32.toInt x44 = (((G_8.1 a 2).toInt) + (1 : Int))))] <;> exact (z_X5_advanceWord_7 N8 ((G_8.1 a 2).toInt) hm8)) hT hS (lv_sub hl [0] rfl)
  exact L8 4294967297 G5 _ _ _ XFr.rf (by rw [(show (G5.1 a 2).toInt = ((G.1 a 3).toInt) from (congrArg Int32.toInt (ld_at hG5)).trans (rfl : Int32.toInt (G.1 a 3) = ((G.1 a 3).toInt)))] <;> exact (v_X5_advance_5_8 (K := K) (F := F) a G ha n0 s0)) (by rw [(show (G5.1 a 2).toInt = ((G.1 a 3).toInt) from (congrArg Int32.toInt (ld_at hG5)).trans (rfl : Int32.toInt (G.1 a 3) = ((G.1 a 3).toInt)))] <;> exact (z_X5_advanceWord_8 ((G.1 (F a 0) 1).toInt) ((G.1 a 3).toInt) s0)) (by rw [(show (G5.1 a 2).toInt = ((G.1 a 3).toInt) from (congrArg Int32.toInt (ld_at hG5)).trans (rfl : Int32.toInt (G.1 a 3) = ((G.1 a 3).toInt)))] <;> exact (z_X5_advanceWord_9 ((G.1 (F a 0) 1).toInt) ((G.1 a 3).toInt) s0)) hT hS (lv_sub hl [0] rfl)
theorem v_X5_takeWord_32_1 {K : Nat → Nat} {F : Nat → Nat → Nat} (a : Nat) (G : XG) (r1 : RSt) (p0 : Nat)
    (ha : K a = 7)
    (hrd : RdI (tC (G.2.1 (F (F a 0) 0)) ((G.1 (F a 0) 1).toInt)) ((G.1 (F a 0) 1).toInt) r1 ((G.1 a 1).toInt) ((G.1 a 2).toInt) ((G.1 a 3).toInt) ((G.1 a 4).toInt) ((G.1 a 5).toInt))
    (hp0 : p0 < 10)
    (n0 : 0 ≤ ((G.1 (F a 0) 1).toInt) ∧ ((G.1 (F a 0) 1).toInt) ≤ 80)
    (z0 : 0 ≤ ((G.1 a 2).toInt) ∧ ((G.1 a 2).toInt) ≤ ((G.1 (F a 0) 1).toInt))
    (z0a : 3 ≤ (((xlen.getD p0 0) : Nat) : Int) ∧ (((xlen.getD p0 0) : Nat) : Int) ≤ 7)
    (f10 : ((G.1 a 5).toInt) = 0 ∨ ((G.1 a 5).toInt) = 1)
    (c4 : ((G.1 a 5).toInt) ≠ 0) :
    (0 : Int) = (tkW (tC (G.2.1 (F (F a 0) 0)) ((G.1 (F a 0) 1).toInt)) (kw p0) r1).1 := by
  have kl := xlen_k p0 hp0
  rw [tkW_f (rd_w0 (tC_e _ _) hrd (by omega) (by omega))]
theorem v_X5_takeWord_32_2 {K : Nat → Nat} {F : Nat → Nat → Nat} (a : Nat) (G : XG) (r1 : RSt) (p0 : Nat)
    (ha : K a = 7)
    (hrd : RdI (tC (G.2.1 (F (F a 0) 0)) ((G.1 (F a 0) 1).toInt)) ((G.1 (F a 0) 1).toInt) r1 ((G.1 a 1).toInt) ((G.1 a 2).toInt) ((G.1 a 3).toInt) ((G.1 a 4).toInt) ((G.1 a 5).toInt))
    (hp0 : p0 < 10)
    (n0 : 0 ≤ ((G.1 (F a 0) 1).toInt) ∧ ((G.1 (F a 0) 1).toInt) ≤ 80)
    (z0 : 0 ≤ ((G.1 a 2).toInt) ∧ ((G.1 a 2).toInt) ≤ ((G.1 (F a 0) 1).toInt))
    (z0a : 3 ≤ (((xlen.getD p0 0) : Nat) : Int) ∧ (((xlen.getD p0 0) : Nat) : Int) ≤ 7)
    (f10 : ((G.1 a 5).toInt) = 0 ∨ ((G.1 a 5).toInt) = 1)
    (c4 : ((G.1 a 5).toInt) ≠ 0) :
    RdI (tC (G.2.1 (F (F a 0) 0)) ((G.1 (F a 0) 1).toInt)) ((G.1 (F a 0) 1).toInt) (tkW (tC (G.2.1 (F (F a 0) 0)) ((G.1 (F a 0) 1).toInt)) (kw p0) r1).2 ((G.1 a 1).toInt) ((G.1 a 2).toInt) ((G.1 a 3).toInt) ((G.1 a 4).toInt) ((G.1 a 5).toInt) := by
  have kl := xlen_k p0 hp0
  rw [tkW_f (rd_w0 (tC_e _ _) hrd (by omega) (by omega))]
  exact hrd
theorem v_X5_takeWord_32_3 {K : Nat → Nat} {F : Nat → Nat → Nat} (a : Nat) (G : XG) (r1 : RSt) (p0 : Nat)
    (ha : K a = 7)
    (hrd : RdI (tC (G.2.1 (F (F a 0) 0)) ((G.1 (F a 0) 1).toInt)) ((G.1 (F a 0) 1).toInt) r1 ((G.1 a 1).toInt) ((G.1 a 2).toInt) ((G.1 a 3).toInt) ((G.1 a 4).toInt) ((G.1 a 5).toInt))
    (hp0 : p0 < 10)
    (n0 : 0 ≤ ((G.1 (F a 0) 1).toInt) ∧ ((G.1 (F a 0) 1).toInt) ≤ 80)
    (z0 : 0 ≤ ((G.1 a 2).toInt) ∧ ((G.1 a 2).toInt) ≤ ((G.1 (F a 0) 1).toInt))
    (z0a : 3 ≤ (((xlen.getD p0 0) : Nat) : Int) ∧ (((xlen.getD p0 0) : Nat) : Int) ≤ 7)
    (f10 : ((G.1 a 5).toInt) = 0 ∨ ((G.1 a 5).toInt) = 1)
    (c4 : ¬ (((G.1 a 5).toInt) ≠ 0))
    (c12 : ((G.1 a 1).toInt) ≠ (1 : Int)) :
    (0 : Int) = (tkW (tC (G.2.1 (F (F a 0) 0)) ((G.1 (F a 0) 1).toInt)) (kw p0) r1).1 := by
  have kl := xlen_k p0 hp0
  rw [tkW_f (rd_w0 (tC_e _ _) hrd (by omega) (by omega))]
theorem v_X5_takeWord_32_4 {K : Nat → Nat} {F : Nat → Nat → Nat} (a : Nat) (G : XG) (r1 : RSt) (p0 : Nat)
    (ha : K a = 7)
    (hrd : RdI (tC (G.2.1 (F (F a 0) 0)) ((G.1 (F a 0) 1).toInt)) ((G.1 (F a 0) 1).toInt) r1 ((G.1 a 1).toInt) ((G.1 a 2).toInt) ((G.1 a 3).toInt) ((G.1 a 4).toInt) ((G.1 a 5).toInt))
    (hp0 : p0 < 10)
    (n0 : 0 ≤ ((G.1 (F a 0) 1).toInt) ∧ ((G.1 (F a 0) 1).toInt) ≤ 80)
    (z0 : 0 ≤ ((G.1 a 2).toInt) ∧ ((G.1 a 2).toInt) ≤ ((G.1 (F a 0) 1).toInt))
    (z0a : 3 ≤ (((xlen.getD p0 0) : Nat) : Int) ∧ (((xlen.getD p0 0) : Nat) : Int) ≤ 7)
    (f10 : ((G.1 a 5).toInt) = 0 ∨ ((G.1 a 5).toInt) = 1)
    (c4 : ¬ (((G.1 a 5).toInt) ≠ 0))
    (c12 : ((G.1 a 1).toInt) ≠ (1 : Int)) :
    RdI (tC (G.2.1 (F (F a 0) 0)) ((G.1 (F a 0) 1).toInt)) ((G.1 (F a 0) 1).toInt) (tkW (tC (G.2.1 (F (F a 0) 0)) ((G.1 (F a 0) 1).toInt)) (kw p0) r1).2 ((G.1 a 1).toInt) ((G.1 a 2).toInt) ((G.1 a 3).toInt) ((G.1 a 4).toInt) ((G.1 a 5).toInt) := by
  have kl := xlen_k p0 hp0
  rw [tkW_f (rd_w0 (tC_e _ _) hrd (by omega) (by omega))]
  exact hrd
theorem v_X5_takeWord_77_5 {K : Nat → Nat} {F : Nat → Nat → Nat} (a : Nat) (G : XG) (G73 : XG) (r1 : RSt) (p0 : Nat) (l2_35 : Int32) (x25 : Int32) (N35 : Nat) (x37 : Int32)
    (ha : K a = 7)
    (hrd : RdI (tC (G.2.1 (F (F a 0) 0)) ((G.1 (F a 0) 1).toInt)) ((G.1 (F a 0) 1).toInt) r1 ((G.1 a 1).toInt) ((G.1 a 2).toInt) ((G.1 a 3).toInt) ((G.1 a 4).toInt) ((G.1 a 5).toInt))
    (hp0 : p0 < 10)
    (pw : ∀ i : Nat, (i : Int) < l2_35.toInt → (tC (G.2.1 (F (F a 0) 0)) ((G.1 (F a 0) 1).toInt)) ((G.1 a 2).toInt + (i : Int)) = (kw p0).getD i 0)
    (oq73 : ((G73.1 a 2).toInt) = rn cBl (tC (G.2.1 (F (F a 0) 0)) ((G.1 (F a 0) 1).toInt)) ((G.1 a 3).toInt) ∧ TokI (tC (G.2.1 (F (F a 0) 0)) ((G.1 (F a 0) 1).toInt)) ((G.1 (F a 0) 1).toInt) ((G73.1 a 1).toInt) ((G73.1 a 2).toInt) ((G73.1 a 3).toInt) ((G73.1 a 4).toInt))
    (n0 : 0 ≤ ((G.1 (F a 0) 1).toInt) ∧ ((G.1 (F a 0) 1).toInt) ≤ 80)
    (z0 : 0 ≤ ((G.1 a 2).toInt) ∧ ((G.1 a 2).toInt) ≤ ((G.1 (F a 0) 1).toInt))
    (z0a : 3 ≤ (((xlen.getD p0 0) : Nat) : Int) ∧ (((xlen.getD p0 0) : Nat) : Int) ≤ 7)
    (f14 : ((G.1 a 5).toInt) = 0 ∨ ((G.1 a 5).toInt) = 1)
    (c4 : ¬ (((G.1 a 5).toInt) ≠ 0))
    (c12 : ¬ (((G.1 a 1).toInt) ≠ (1 : Int)))
    (z15 : 0 ≤ ((G.1 a 3).toInt) ∧ ((G.1 a 3).toInt) ≤ ((G.1 (F a 0) 1).toInt))
    (t25 : x25.toInt = (((xlen.getD p0 0) : Nat) : Int))
    (c28 : (((G.1 a 3).toInt) - ((G.1 a 2).toInt)) = x25.toInt)
    (I35_0 : 0 ≤ l2_35.toInt ∧ l2_35.toInt ≤ (((xlen.getD p0 0) : Nat) : Int))
    (I35_1 : (0 : Int) ≤ l2_35.toInt)
    (hm35 : 2147483648 - l2_35.toInt < (((N35) + 1 : Nat) : Int))
    (t37 : x37.toInt = (((xlen.getD p0 0) : Nat) : Int))
    (c40 : x37.toInt ≤ l2_35.toInt)
    (t73 : (0 ≤ ((G73.1 a 2).toInt) ∧ ((G73.1 a 2).toInt) ≤ ((G.1 (F a 0) 1).toInt)) ∧ (0 ≤ ((G73.1 a 3).toInt) ∧ ((G73.1 a 3).toInt) ≤ ((G.1 (F a 0) 1).toInt))) :
    (1 : Int) = (tkW (tC (G.2.1 (F (F a 0) 0)) ((G.1 (F a 0) 1).toInt)) (kw p0) r1).1 := by
  have kl := xlen_k p0 hp0
  have wk := rd_w1 hrd (by omega) (by omega) (by omega) (w := kw p0) (fun i hi => pw i (by omega))
  rw [tkW_t wk.1 wk.2]
theorem v_X5_takeWord_77_6 {K : Nat → Nat} {F : Nat → Nat → Nat} (a : Nat) (G : XG) (G73 : XG) (r1 : RSt) (p0 : Nat) (l2_35 : Int32) (x25 : Int32) (N35 : Nat) (x37 : Int32)
    (ha : K a = 7)
    (hrd : RdI (tC (G.2.1 (F (F a 0) 0)) ((G.1 (F a 0) 1).toInt)) ((G.1 (F a 0) 1).toInt) r1 ((G.1 a 1).toInt) ((G.1 a 2).toInt) ((G.1 a 3).toInt) ((G.1 a 4).toInt) ((G.1 a 5).toInt))
    (hp0 : p0 < 10)
    (pw : ∀ i : Nat, (i : Int) < l2_35.toInt → (tC (G.2.1 (F (F a 0) 0)) ((G.1 (F a 0) 1).toInt)) ((G.1 a 2).toInt + (i : Int)) = (kw p0).getD i 0)
    (oq73 : ((G73.1 a 2).toInt) = rn cBl (tC (G.2.1 (F (F a 0) 0)) ((G.1 (F a 0) 1).toInt)) ((G.1 a 3).toInt) ∧ TokI (tC (G.2.1 (F (F a 0) 0)) ((G.1 (F a 0) 1).toInt)) ((G.1 (F a 0) 1).toInt) ((G73.1 a 1).toInt) ((G73.1 a 2).toInt) ((G73.1 a 3).toInt) ((G73.1 a 4).toInt))
    (n0 : 0 ≤ ((G.1 (F a 0) 1).toInt) ∧ ((G.1 (F a 0) 1).toInt) ≤ 80)
    (z0 : 0 ≤ ((G.1 a 2).toInt) ∧ ((G.1 a 2).toInt) ≤ ((G.1 (F a 0) 1).toInt))
    (z0a : 3 ≤ (((xlen.getD p0 0) : Nat) : Int) ∧ (((xlen.getD p0 0) : Nat) : Int) ≤ 7)
    (f14 : ((G.1 a 5).toInt) = 0 ∨ ((G.1 a 5).toInt) = 1)
    (c4 : ¬ (((G.1 a 5).toInt) ≠ 0))
    (c12 : ¬ (((G.1 a 1).toInt) ≠ (1 : Int)))
    (z15 : 0 ≤ ((G.1 a 3).toInt) ∧ ((G.1 a 3).toInt) ≤ ((G.1 (F a 0) 1).toInt))
    (t25 : x25.toInt = (((xlen.getD p0 0) : Nat) : Int))
    (c28 : (((G.1 a 3).toInt) - ((G.1 a 2).toInt)) = x25.toInt)
    (I35_0 : 0 ≤ l2_35.toInt ∧ l2_35.toInt ≤ (((xlen.getD p0 0) : Nat) : Int))
    (I35_1 : (0 : Int) ≤ l2_35.toInt)
    (hm35 : 2147483648 - l2_35.toInt < (((N35) + 1 : Nat) : Int))
    (t37 : x37.toInt = (((xlen.getD p0 0) : Nat) : Int))
    (c40 : x37.toInt ≤ l2_35.toInt)
    (t73 : (0 ≤ ((G73.1 a 2).toInt) ∧ ((G73.1 a 2).toInt) ≤ ((G.1 (F a 0) 1).toInt)) ∧ (0 ≤ ((G73.1 a 3).toInt) ∧ ((G73.1 a 3).toInt) ≤ ((G.1 (F a 0) 1).toInt)))
    (d_G73_a_5 : G73.1 a 5 = G.1 a 5) :
    RdI (tC (G.2.1 (F (F a 0) 0)) ((G.1 (F a 0) 1).toInt)) ((G.1 (F a 0) 1).toInt) (tkW (tC (G.2.1 (F (F a 0) 0)) ((G.1 (F a 0) 1).toInt)) (kw p0) r1).2 ((G73.1 a 1).toInt) ((G73.1 a 2).toInt) ((G73.1 a 3).toInt) ((G73.1 a 4).toInt) ((G73.1 a 5).toInt) := by
  have kl := xlen_k p0 hp0
  have wk := rd_w1 hrd (by omega) (by omega) (by omega) (w := kw p0) (fun i hi => pw i (by omega))
  rw [tkW_t wk.1 wk.2]
  refine rd_st ?_ (by rw [d_G73_a_5]; omega) (by omega) oq73.2
  rw [oq73.1, hrd.2.1, show (G.1 a 2).toInt + (((kw p0).length : Nat) : Int) = (G.1 a 3).toInt from by omega]
theorem v_X5_takeWord_69_7 {K : Nat → Nat} {F : Nat → Nat → Nat} (a : Nat) (G : XG) (p0 : Nat) (l2_35 : Int32) (x25 : Int32) (N35 : Nat) (x37 : Int32) (x53 : Int32) (x58 : Int32)
    (ha : K a = 7)
    (hp0 : p0 < 10)
    (pw : ∀ i : Nat, (i : Int) < l2_35.toInt → (tC (G.2.1 (F (F a 0) 0)) ((G.1 (F a 0) 1).toInt)) ((G.1 a 2).toInt + (i : Int)) = (kw p0).getD i 0)
    (n0 : 0 ≤ ((G.1 (F a 0) 1).toInt) ∧ ((G.1 (F a 0) 1).toInt) ≤ 80)
    (z0 : 0 ≤ ((G.1 a 2).toInt) ∧ ((G.1 a 2).toInt) ≤ ((G.1 (F a 0) 1).toInt))
    (z0a : 3 ≤ (((xlen.getD p0 0) : Nat) : Int) ∧ (((xlen.getD p0 0) : Nat) : Int) ≤ 7)
    (f14 : ((G.1 a 5).toInt) = 0 ∨ ((G.1 a 5).toInt) = 1)
    (c4 : ¬ (((G.1 a 5).toInt) ≠ 0))
    (c12 : ¬ (((G.1 a 1).toInt) ≠ (1 : Int)))
    (z15 : 0 ≤ ((G.1 a 3).toInt) ∧ ((G.1 a 3).toInt) ≤ ((G.1 (F a 0) 1).toInt))
    (t25 : x25.toInt = (((xlen.getD p0 0) : Nat) : Int))
    (c28 : (((G.1 a 3).toInt) - ((G.1 a 2).toInt)) = x25.toInt)
    (I35_0 : 0 ≤ l2_35.toInt ∧ l2_35.toInt ≤ (((xlen.getD p0 0) : Nat) : Int))
    (I35_1 : (0 : Int) ≤ l2_35.toInt)
    (hm35 : 2147483648 - l2_35.toInt < (((N35) + 1 : Nat) : Int))
    (t37 : x37.toInt = (((xlen.getD p0 0) : Nat) : Int))
    (c40 : ¬ (x37.toInt ≤ l2_35.toInt))
    (t53 : x53.toInt = (tC (G.2.1 (F (F a 0) 0)) ((G.1 (F a 0) 1).toInt) (((G.1 a 2).toInt) + l2_35.toInt)))
    (t58 : x58.toInt = (xch p0 (l2_35.toInt)))
    (z61 : (xch p0 (l2_35.toInt)) = ((kw p0).getD (Int.toNat (l2_35.toInt)) 0))
    (c61 : x53.toInt = x58.toInt) :
    ∀ i : Nat, (i : Int) < (l2_35.toInt + 1) → (tC (G.2.1 (F (F a 0) 0)) ((G.1 (F a 0) 1).toInt)) ((G.1 a 2).toInt + (i : Int)) = (kw p0).getD i 0 := by
  intro i h
  by_cases e : (i : Int) = l2_35.toInt
  · have e2 : i = (l2_35.toInt).toNat := by omega
    rw [e, e2]
    omega
  · exact pw i (by omega)
theorem v_X5_takeWord_65_8 {K : Nat → Nat} {F : Nat → Nat → Nat} (a : Nat) (G : XG) (r1 : RSt) (p0 : Nat) (l2_35 : Int32) (x25 : Int32) (N35 : Nat) (x37 : Int32) (x53 : Int32) (x58 : Int32)
    (ha : K a = 7)
    (hrd : RdI (tC (G.2.1 (F (F a 0) 0)) ((G.1 (F a 0) 1).toInt)) ((G.1 (F a 0) 1).toInt) r1 ((G.1 a 1).toInt) ((G.1 a 2).toInt) ((G.1 a 3).toInt) ((G.1 a 4).toInt) ((G.1 a 5).toInt))
    (hp0 : p0 < 10)
    (n0 : 0 ≤ ((G.1 (F a 0) 1).toInt) ∧ ((G.1 (F a 0) 1).toInt) ≤ 80)
    (z0 : 0 ≤ ((G.1 a 2).toInt) ∧ ((G.1 a 2).toInt) ≤ ((G.1 (F a 0) 1).toInt))
    (z0a : 3 ≤ (((xlen.getD p0 0) : Nat) : Int) ∧ (((xlen.getD p0 0) : Nat) : Int) ≤ 7)
    (f13 : ((G.1 a 5).toInt) = 0 ∨ ((G.1 a 5).toInt) = 1)
    (c4 : ¬ (((G.1 a 5).toInt) ≠ 0))
    (c12 : ¬ (((G.1 a 1).toInt) ≠ (1 : Int)))
    (z15 : 0 ≤ ((G.1 a 3).toInt) ∧ ((G.1 a 3).toInt) ≤ ((G.1 (F a 0) 1).toInt))
    (t25 : x25.toInt = (((xlen.getD p0 0) : Nat) : Int))
    (c28 : (((G.1 a 3).toInt) - ((G.1 a 2).toInt)) = x25.toInt)
    (I35_0 : 0 ≤ l2_35.toInt ∧ l2_35.toInt ≤ (((xlen.getD p0 0) : Nat) : Int))
    (I35_1 : (0 : Int) ≤ l2_35.toInt)
    (hm35 : 2147483648 - l2_35.toInt < (((N35) + 1 : Nat) : Int))
    (t37 : x37.toInt = (((xlen.getD p0 0) : Nat) : Int))
    (c40 : ¬ (x37.toInt ≤ l2_35.toInt))
    (t53 : x53.toInt = (tC (G.2.1 (F (F a 0) 0)) ((G.1 (F a 0) 1).toInt) (((G.1 a 2).toInt) + l2_35.toInt)))
    (t58 : x58.toInt = (xch p0 (l2_35.toInt)))
    (z61 : (xch p0 (l2_35.toInt)) = ((kw p0).getD (Int.toNat (l2_35.toInt)) 0))
    (c61 : ¬ (x53.toInt = x58.toInt)) :
    (0 : Int) = (tkW (tC (G.2.1 (F (F a 0) 0)) ((G.1 (F a 0) 1).toInt)) (kw p0) r1).1 := by
  have kl := xlen_k p0 hp0
  rw [tkW_f (fun h => ?_)]
  have h2 := h.2.2 (l2_35.toInt).toNat (by omega)
  rw [hrd.2.1, show (((l2_35.toInt).toNat : Nat) : Int) = l2_35.toInt from by omega] at h2
  omega
theorem v_X5_takeWord_65_9 {K : Nat → Nat} {F : Nat → Nat → Nat} (a : Nat) (G : XG) (r1 : RSt) (p0 : Nat) (l2_35 : Int32) (x25 : Int32) (N35 : Nat) (x37 : Int32) (x53 : Int32) (x58 : Int32)
    (ha : K a = 7)
    (hrd : RdI (tC (G.2.1 (F (F a 0) 0)) ((G.1 (F a 0) 1).toInt)) ((G.1 (F a 0) 1).toInt) r1 ((G.1 a 1).toInt) ((G.1 a 2).toInt) ((G.1 a 3).toInt) ((G.1 a 4).toInt) ((G.1 a 5).toInt))
    (hp0 : p0 < 10)
    (n0 : 0 ≤ ((G.1 (F a 0) 1).toInt) ∧ ((G.1 (F a 0) 1).toInt) ≤ 80)
    (z0 : 0 ≤ ((G.1 a 2).toInt) ∧ ((G.1 a 2).toInt) ≤ ((G.1 (F a 0) 1).toInt))
    (z0a : 3 ≤ (((xlen.getD p0 0) : Nat) : Int) ∧ (((xlen.getD p0 0) : Nat) : Int) ≤ 7)
    (f13 : ((G.1 a 5).toInt) = 0 ∨ ((G.1 a 5).toInt) = 1)
    (c4 : ¬ (((G.1 a 5).toInt) ≠ 0))
    (c12 : ¬ (((G.1 a 1).toInt) ≠ (1 : Int)))
    (z15 : 0 ≤ ((G.1 a 3).toInt) ∧ ((G.1 a 3).toInt) ≤ ((G.1 (F a 0) 1).toInt))
    (t25 : x25.toInt = (((xlen.getD p0 0) : Nat) : Int))
    (c28 : (((G.1 a 3).toInt) - ((G.1 a 2).toInt)) = x25.toInt)
    (I35_0 : 0 ≤ l2_35.toInt ∧ l2_35.toInt ≤ (((xlen.getD p0 0) : Nat) : Int))
    (I35_1 : (0 : Int) ≤ l2_35.toInt)
    (hm35 : 2147483648 - l2_35.toInt < (((N35) + 1 : Nat) : Int))
    (t37 : x37.toInt = (((xlen.getD p0 0) : Nat) : Int))
    (c40 : ¬ (x37.toInt ≤ l2_35.toInt))
    (t53 : x53.toInt = (tC (G.2.1 (F (F a 0) 0)) ((G.1 (F a 0) 1).toInt) (((G.1 a 2).toInt) + l2_35.toInt)))
    (t58 : x58.toInt = (xch p0 (l2_35.toInt)))
    (z61 : (xch p0 (l2_35.toInt)) = ((kw p0).getD (Int.toNat (l2_35.toInt)) 0))
    (c61 : ¬ (x53.toInt = x58.toInt)) :
    RdI (tC (G.2.1 (F (F a 0) 0)) ((G.1 (F a 0) 1).toInt)) ((G.1 (F a 0) 1).toInt) (tkW (tC (G.2.1 (F (F a 0) 0)) ((G.1 (F a 0) 1).toInt)) (kw p0) r1).2 ((G.1 a 1).toInt) ((G.1 a 2).toInt) ((G.1 a 3).toInt) ((G.1 a 4).toInt) ((G.1 a 5).toInt) := by
  have kl := xlen_k p0 hp0
  rw [tkW_f (fun h => ?_)]
  · exact hrd
  · have h2 := h.2.2 (l2_35.toInt).toNat (by omega)
    rw [hrd.2.1, show (((l2_35.toInt).toNat : Nat) : Int) = l2_35.toInt from by omega] at h2
    omega
theorem v_X5_takeWord_34_10 {K : Nat → Nat} {F : Nat → Nat → Nat} (a : Nat) (G : XG) (p0 : Nat) (x25 : Int32)
    (ha : K a = 7)
    (hp0 : p0 < 10)
    (n0 : 0 ≤ ((G.1 (F a 0) 1).toInt) ∧ ((G.1 (F a 0) 1).toInt) ≤ 80)
    (z0 : 0 ≤ ((G.1 a 2).toInt) ∧ ((G.1 a 2).toInt) ≤ ((G.1 (F a 0) 1).toInt))
    (z0a : 3 ≤ (((xlen.getD p0 0) : Nat) : Int) ∧ (((xlen.getD p0 0) : Nat) : Int) ≤ 7)
    (f11 : ((G.1 a 5).toInt) = 0 ∨ ((G.1 a 5).toInt) = 1)
    (c4 : ¬ (((G.1 a 5).toInt) ≠ 0))
    (c12 : ¬ (((G.1 a 1).toInt) ≠ (1 : Int)))
    (z15 : 0 ≤ ((G.1 a 3).toInt) ∧ ((G.1 a 3).toInt) ≤ ((G.1 (F a 0) 1).toInt))
    (t25 : x25.toInt = (((xlen.getD p0 0) : Nat) : Int))
    (c28 : (((G.1 a 3).toInt) - ((G.1 a 2).toInt)) = x25.toInt) :
    ∀ i : Nat, (i : Int) < (0 : Int) → (tC (G.2.1 (F (F a 0) 0)) ((G.1 (F a 0) 1).toInt)) ((G.1 a 2).toInt + (i : Int)) = (kw p0).getD i 0 := by
  intro i h; omega
theorem v_X5_takeWord_32_11 {K : Nat → Nat} {F : Nat → Nat → Nat} (a : Nat) (G : XG) (r1 : RSt) (p0 : Nat) (x25 : Int32)
    (ha : K a = 7)
    (hrd : RdI (tC (G.2.1 (F (F a 0) 0)) ((G.1 (F a 0) 1).toInt)) ((G.1 (F a 0) 1).toInt) r1 ((G.1 a 1).toInt) ((G.1 a 2).toInt) ((G.1 a 3).toInt) ((G.1 a 4).toInt) ((G.1 a 5).toInt))
    (hp0 : p0 < 10)
    (n0 : 0 ≤ ((G.1 (F a 0) 1).toInt) ∧ ((G.1 (F a 0) 1).toInt) ≤ 80)
    (z0 : 0 ≤ ((G.1 a 2).toInt) ∧ ((G.1 a 2).toInt) ≤ ((G.1 (F a 0) 1).toInt))
    (z0a : 3 ≤ (((xlen.getD p0 0) : Nat) : Int) ∧ (((xlen.getD p0 0) : Nat) : Int) ≤ 7)
    (f11 : ((G.1 a 5).toInt) = 0 ∨ ((G.1 a 5).toInt) = 1)
    (c4 : ¬ (((G.1 a 5).toInt) ≠ 0))
    (c12 : ¬ (((G.1 a 1).toInt) ≠ (1 : Int)))
    (z15 : 0 ≤ ((G.1 a 3).toInt) ∧ ((G.1 a 3).toInt) ≤ ((G.1 (F a 0) 1).toInt))
    (t25 : x25.toInt = (((xlen.getD p0 0) : Nat) : Int))
    (c28 : ¬ ((((G.1 a 3).toInt) - ((G.1 a 2).toInt)) = x25.toInt)) :
    (0 : Int) = (tkW (tC (G.2.1 (F (F a 0) 0)) ((G.1 (F a 0) 1).toInt)) (kw p0) r1).1 := by
  have kl := xlen_k p0 hp0
  rw [tkW_f (rd_w0 (tC_e _ _) hrd (by omega) (by omega))]
theorem v_X5_takeWord_32_12 {K : Nat → Nat} {F : Nat → Nat → Nat} (a : Nat) (G : XG) (r1 : RSt) (p0 : Nat) (x25 : Int32)
    (ha : K a = 7)
    (hrd : RdI (tC (G.2.1 (F (F a 0) 0)) ((G.1 (F a 0) 1).toInt)) ((G.1 (F a 0) 1).toInt) r1 ((G.1 a 1).toInt) ((G.1 a 2).toInt) ((G.1 a 3).toInt) ((G.1 a 4).toInt) ((G.1 a 5).toInt))
    (hp0 : p0 < 10)
    (n0 : 0 ≤ ((G.1 (F a 0) 1).toInt) ∧ ((G.1 (F a 0) 1).toInt) ≤ 80)
    (z0 : 0 ≤ ((G.1 a 2).toInt) ∧ ((G.1 a 2).toInt) ≤ ((G.1 (F a 0) 1).toInt))
    (z0a : 3 ≤ (((xlen.getD p0 0) : Nat) : Int) ∧ (((xlen.getD p0 0) : Nat) : Int) ≤ 7)
    (f11 : ((G.1 a 5).toInt) = 0 ∨ ((G.1 a 5).toInt) = 1)
    (c4 : ¬ (((G.1 a 5).toInt) ≠ 0))
    (c12 : ¬ (((G.1 a 1).toInt) ≠ (1 : Int)))
    (z15 : 0 ≤ ((G.1 a 3).toInt) ∧ ((G.1 a 3).toInt) ≤ ((G.1 (F a 0) 1).toInt))
    (t25 : x25.toInt = (((xlen.getD p0 0) : Nat) : Int))
    (c28 : ¬ ((((G.1 a 3).toInt) - ((G.1 a 2).toInt)) = x25.toInt)) :
    RdI (tC (G.2.1 (F (F a 0) 0)) ((G.1 (F a 0) 1).toInt)) ((G.1 (F a 0) 1).toInt) (tkW (tC (G.2.1 (F (F a 0) 0)) ((G.1 (F a 0) 1).toInt)) (kw p0) r1).2 ((G.1 a 1).toInt) ((G.1 a 2).toInt) ((G.1 a 3).toInt) ((G.1 a 4).toInt) ((G.1 a 5).toInt) := by
  have kl := xlen_k p0 hp0
  rw [tkW_f (rd_w0 (tC_e _ _) hrd (by omega) (by omega))]
  exact hrd
theorem v_X5_takeNumber_37_1 {K : Nat → Nat} {F : Nat → Nat → Nat} (a : Nat) (G : XG) (r1 : RSt) (p0 : Int32) (p1 : Int32)
    (ha : K a = 7)
    (hrd : RdI (tC (G.2.1 (F (F a 0) 0)) ((G.1 (F a 0) 1).toInt)) ((G.1 (F a 0) 1).toInt) r1 ((G.1 a 1).toInt) ((G.1 a 2).toInt) ((G.1 a 3).toInt) ((G.1 a 4).toInt) ((G.1 a 5).toInt))
    (n0 : 0 ≤ ((G.1 (F a 0) 1).toInt) ∧ ((G.1 (F a 0) 1).toInt) ≤ 80)
    (z0 : 0 ≤ ((G.1 a 2).toInt) ∧ ((G.1 a 2).toInt) ≤ ((G.1 (F a 0) 1).toInt))
    (f9 : ((G.1 a 5).toInt) = 0 ∨ ((G.1 a 5).toInt) = 1)
    (c4 : ((G.1 a 5).toInt) ≠ 0) :
    (0 : Int) = (tkN (tC (G.2.1 (F (F a 0) 0)) ((G.1 (F a 0) 1).toInt)) p0.toInt p1.toInt r1).1 := by
  rw [tkN_f (rd_n0 (tC_e _ _) hrd (by omega))]
theorem v_X5_takeNumber_37_2 {K : Nat → Nat} {F : Nat → Nat → Nat} (a : Nat) (G33 : XG) (G : XG) (r1 : RSt) (p0 : Int32) (p1 : Int32)
    (ha : K a = 7)
    (hrd : RdI (tC (G.2.1 (F (F a 0) 0)) ((G.1 (F a 0) 1).toInt)) ((G.1 (F a 0) 1).toInt) r1 ((G.1 a 1).toInt) ((G.1 a 2).toInt) ((G.1 a 3).toInt) ((G.1 a 4).toInt) ((G.1 a 5).toInt))
    (n0 : 0 ≤ ((G.1 (F a 0) 1).toInt) ∧ ((G.1 (F a 0) 1).toInt) ≤ 80)
    (z0 : 0 ≤ ((G.1 a 2).toInt) ∧ ((G.1 a 2).toInt) ≤ ((G.1 (F a 0) 1).toInt))
    (f9 : ((G.1 a 5).toInt) = 0 ∨ ((G.1 a 5).toInt) = 1)
    (c4 : ((G.1 a 5).toInt) ≠ 0)
    (d_G33_a_1 : G33.1 a 1 = G.1 a 1)
    (d_G33_a_2 : G33.1 a 2 = G.1 a 2)
    (d_G33_a_3 : G33.1 a 3 = G.1 a 3)
    (d_G33_a_4 : G33.1 a 4 = G.1 a 4)
    (d_G33_a_5 : G33.1 a 5 = 1) :
    RdI (tC (G.2.1 (F (F a 0) 0)) ((G.1 (F a 0) 1).toInt)) ((G.1 (F a 0) 1).toInt) (tkN (tC (G.2.1 (F (F a 0) 0)) ((G.1 (F a 0) 1).toInt)) p0.toInt p1.toInt r1).2 ((G33.1 a 1).toInt) ((G33.1 a 2).toInt) ((G33.1 a 3).toInt) ((G33.1 a 4).toInt) ((G33.1 a 5).toInt) := by
  rw [tkN_f (rd_n0 (tC_e _ _) hrd (by omega)), d_G33_a_1, d_G33_a_2, d_G33_a_3, d_G33_a_4, d_G33_a_5]
  exact rd_bad hrd (by decide)
theorem v_X5_takeNumber_37_3 {K : Nat → Nat} {F : Nat → Nat → Nat} (a : Nat) (G : XG) (r1 : RSt) (p0 : Int32) (p1 : Int32)
    (ha : K a = 7)
    (hrd : RdI (tC (G.2.1 (F (F a 0) 0)) ((G.1 (F a 0) 1).toInt)) ((G.1 (F a 0) 1).toInt) r1 ((G.1 a 1).toInt) ((G.1 a 2).toInt) ((G.1 a 3).toInt) ((G.1 a 4).toInt) ((G.1 a 5).toInt))
    (n0 : 0 ≤ ((G.1 (F a 0) 1).toInt) ∧ ((G.1 (F a 0) 1).toInt) ≤ 80)
    (z0 : 0 ≤ ((G.1 a 2).toInt) ∧ ((G.1 a 2).toInt) ≤ ((G.1 (F a 0) 1).toInt))
    (f9 : ((G.1 a 5).toInt) = 0 ∨ ((G.1 a 5).toInt) = 1)
    (c4 : ¬ (((G.1 a 5).toInt) ≠ 0))
    (c12 : ((G.1 a 1).toInt) ≠ (2 : Int)) :
    (0 : Int) = (tkN (tC (G.2.1 (F (F a 0) 0)) ((G.1 (F a 0) 1).toInt)) p0.toInt p1.toInt r1).1 := by
  rw [tkN_f (rd_n0 (tC_e _ _) hrd (by omega))]
theorem v_X5_takeNumber_37_4 {K : Nat → Nat} {F : Nat → Nat → Nat} (a : Nat) (G33 : XG) (G : XG) (r1 : RSt) (p0 : Int32) (p1 : Int32)
    (ha : K a = 7)
    (hrd : RdI (tC (G.2.1 (F (F a 0) 0)) ((G.1 (F a 0) 1).toInt)) ((G.1 (F a 0) 1).toInt) r1 ((G.1 a 1).toInt) ((G.1 a 2).toInt) ((G.1 a 3).toInt) ((G.1 a 4).toInt) ((G.1 a 5).toInt))
    (n0 : 0 ≤ ((G.1 (F a 0) 1).toInt) ∧ ((G.1 (F a 0) 1).toInt) ≤ 80)
    (z0 : 0 ≤ ((G.1 a 2).toInt) ∧ ((G.1 a 2).toInt) ≤ ((G.1 (F a 0) 1).toInt))
    (f9 : ((G.1 a 5).toInt) = 0 ∨ ((G.1 a 5).toInt) = 1)
    (c4 : ¬ (((G.1 a 5).toInt) ≠ 0))
    (c12 : ((G.1 a 1).toInt) ≠ (2 : Int))
    (d_G33_a_1 : G33.1 a 1 = G.1 a 1)
    (d_G33_a_2 : G33.1 a 2 = G.1 a 2)
    (d_G33_a_3 : G33.1 a 3 = G.1 a 3)
    (d_G33_a_4 : G33.1 a 4 = G.1 a 4)
    (d_G33_a_5 : G33.1 a 5 = 1) :
    RdI (tC (G.2.1 (F (F a 0) 0)) ((G.1 (F a 0) 1).toInt)) ((G.1 (F a 0) 1).toInt) (tkN (tC (G.2.1 (F (F a 0) 0)) ((G.1 (F a 0) 1).toInt)) p0.toInt p1.toInt r1).2 ((G33.1 a 1).toInt) ((G33.1 a 2).toInt) ((G33.1 a 3).toInt) ((G33.1 a 4).toInt) ((G33.1 a 5).toInt) := by
  rw [tkN_f (rd_n0 (tC_e _ _) hrd (by omega)), d_G33_a_1, d_G33_a_2, d_G33_a_3, d_G33_a_4, d_G33_a_5]
  exact rd_bad hrd (by decide)
theorem v_X5_takeNumber_37_5 {K : Nat → Nat} {F : Nat → Nat → Nat} (a : Nat) (G : XG) (r1 : RSt) (p0 : Int32) (p1 : Int32)
    (ha : K a = 7)
    (hrd : RdI (tC (G.2.1 (F (F a 0) 0)) ((G.1 (F a 0) 1).toInt)) ((G.1 (F a 0) 1).toInt) r1 ((G.1 a 1).toInt) ((G.1 a 2).toInt) ((G.1 a 3).toInt) ((G.1 a 4).toInt) ((G.1 a 5).toInt))
    (n0 : 0 ≤ ((G.1 (F a 0) 1).toInt) ∧ ((G.1 (F a 0) 1).toInt) ≤ 80)
    (z0 : 0 ≤ ((G.1 a 2).toInt) ∧ ((G.1 a 2).toInt) ≤ ((G.1 (F a 0) 1).toInt))
    (f9 : ((G.1 a 5).toInt) = 0 ∨ ((G.1 a 5).toInt) = 1)
    (c4 : ¬ (((G.1 a 5).toInt) ≠ 0))
    (c12 : ¬ (((G.1 a 1).toInt) ≠ (2 : Int)))
    (c20 : ((G.1 a 4).toInt) < p0.toInt) :
    (0 : Int) = (tkN (tC (G.2.1 (F (F a 0) 0)) ((G.1 (F a 0) 1).toInt)) p0.toInt p1.toInt r1).1 := by
  rw [tkN_f (rd_n0 (tC_e _ _) hrd (by omega))]
theorem v_X5_takeNumber_37_6 {K : Nat → Nat} {F : Nat → Nat → Nat} (a : Nat) (G33 : XG) (G : XG) (r1 : RSt) (p0 : Int32) (p1 : Int32)
    (ha : K a = 7)
    (hrd : RdI (tC (G.2.1 (F (F a 0) 0)) ((G.1 (F a 0) 1).toInt)) ((G.1 (F a 0) 1).toInt) r1 ((G.1 a 1).toInt) ((G.1 a 2).toInt) ((G.1 a 3).toInt) ((G.1 a 4).toInt) ((G.1 a 5).toInt))
    (n0 : 0 ≤ ((G.1 (F a 0) 1).toInt) ∧ ((G.1 (F a 0) 1).toInt) ≤ 80)
    (z0 : 0 ≤ ((G.1 a 2).toInt) ∧ ((G.1 a 2).toInt) ≤ ((G.1 (F a 0) 1).toInt))
    (f9 : ((G.1 a 5).toInt) = 0 ∨ ((G.1 a 5).toInt) = 1)
    (c4 : ¬ (((G.1 a 5).toInt) ≠ 0))
    (c12 : ¬ (((G.1 a 1).toInt) ≠ (2 : Int)))
    (c20 : ((G.1 a 4).toInt) < p0.toInt)
    (d_G33_a_1 : G33.1 a 1 = G.1 a 1)
    (d_G33_a_2 : G33.1 a 2 = G.1 a 2)
    (d_G33_a_3 : G33.1 a 3 = G.1 a 3)
    (d_G33_a_4 : G33.1 a 4 = G.1 a 4)
    (d_G33_a_5 : G33.1 a 5 = 1) :
    RdI (tC (G.2.1 (F (F a 0) 0)) ((G.1 (F a 0) 1).toInt)) ((G.1 (F a 0) 1).toInt) (tkN (tC (G.2.1 (F (F a 0) 0)) ((G.1 (F a 0) 1).toInt)) p0.toInt p1.toInt r1).2 ((G33.1 a 1).toInt) ((G33.1 a 2).toInt) ((G33.1 a 3).toInt) ((G33.1 a 4).toInt) ((G33.1 a 5).toInt) := by
  rw [tkN_f (rd_n0 (tC_e _ _) hrd (by omega)), d_G33_a_1, d_G33_a_2, d_G33_a_3, d_G33_a_4, d_G33_a_5]
  exact rd_bad hrd (by decide)
theorem v_X5_takeNumber_48_7 {K : Nat → Nat} {F : Nat → Nat → Nat} (a : Nat) (G : XG) (G44 : XG) (r1 : RSt) (p0 : Int32) (p1 : Int32)
    (ha : K a = 7)
    (hrd : RdI (tC (G.2.1 (F (F a 0) 0)) ((G.1 (F a 0) 1).toInt)) ((G.1 (F a 0) 1).toInt) r1 ((G.1 a 1).toInt) ((G.1 a 2).toInt) ((G.1 a 3).toInt) ((G.1 a 4).toInt) ((G.1 a 5).toInt))
    (oq44 : ((G44.1 a 2).toInt) = rn cBl (tC (G.2.1 (F (F a 0) 0)) ((G.1 (F a 0) 1).toInt)) ((G.1 a 3).toInt) ∧ TokI (tC (G.2.1 (F (F a 0) 0)) ((G.1 (F a 0) 1).toInt)) ((G.1 (F a 0) 1).toInt) ((G44.1 a 1).toInt) ((G44.1 a 2).toInt) ((G44.1 a 3).toInt) ((G44.1 a 4).toInt))
    (n0 : 0 ≤ ((G.1 (F a 0) 1).toInt) ∧ ((G.1 (F a 0) 1).toInt) ≤ 80)
    (z0 : 0 ≤ ((G.1 a 2).toInt) ∧ ((G.1 a 2).toInt) ≤ ((G.1 (F a 0) 1).toInt))
    (f10 : ((G.1 a 5).toInt) = 0 ∨ ((G.1 a 5).toInt) = 1)
    (c4 : ¬ (((G.1 a 5).toInt) ≠ 0))
    (c12 : ¬ (((G.1 a 1).toInt) ≠ (2 : Int)))
    (c20 : ¬ (((G.1 a 4).toInt) < p0.toInt))
    (c28 : ((G.1 a 4).toInt) ≤ p1.toInt)
    (z38 : 0 ≤ ((G.1 a 3).toInt) ∧ ((G.1 a 3).toInt) ≤ ((G.1 (F a 0) 1).toInt))
    (t44 : (0 ≤ ((G44.1 a 2).toInt) ∧ ((G44.1 a 2).toInt) ≤ ((G.1 (F a 0) 1).toInt)) ∧ (0 ≤ ((G44.1 a 3).toInt) ∧ ((G44.1 a 3).toInt) ≤ ((G.1 (F a 0) 1).toInt))) :
    ((G.1 a 4).toInt) = (tkN (tC (G.2.1 (F (F a 0) 0)) ((G.1 (F a 0) 1).toInt)) p0.toInt p1.toInt r1).1 := by
  obtain ⟨q1, q2, q3, q4, q5⟩ := rd_n1 hrd (by omega) (by omega)
  rw [tkN_t q1 (by rw [q2]; exact q3) (by rw [q2]; omega) (by rw [q2]; omega), q2]
  exact q4
theorem v_X5_takeNumber_48_8 {K : Nat → Nat} {F : Nat → Nat → Nat} (a : Nat) (G : XG) (G44 : XG) (r1 : RSt) (p0 : Int32) (p1 : Int32)
    (ha : K a = 7)
    (hrd : RdI (tC (G.2.1 (F (F a 0) 0)) ((G.1 (F a 0) 1).toInt)) ((G.1 (F a 0) 1).toInt) r1 ((G.1 a 1).toInt) ((G.1 a 2).toInt) ((G.1 a 3).toInt) ((G.1 a 4).toInt) ((G.1 a 5).toInt))
    (oq44 : ((G44.1 a 2).toInt) = rn cBl (tC (G.2.1 (F (F a 0) 0)) ((G.1 (F a 0) 1).toInt)) ((G.1 a 3).toInt) ∧ TokI (tC (G.2.1 (F (F a 0) 0)) ((G.1 (F a 0) 1).toInt)) ((G.1 (F a 0) 1).toInt) ((G44.1 a 1).toInt) ((G44.1 a 2).toInt) ((G44.1 a 3).toInt) ((G44.1 a 4).toInt))
    (n0 : 0 ≤ ((G.1 (F a 0) 1).toInt) ∧ ((G.1 (F a 0) 1).toInt) ≤ 80)
    (z0 : 0 ≤ ((G.1 a 2).toInt) ∧ ((G.1 a 2).toInt) ≤ ((G.1 (F a 0) 1).toInt))
    (f10 : ((G.1 a 5).toInt) = 0 ∨ ((G.1 a 5).toInt) = 1)
    (c4 : ¬ (((G.1 a 5).toInt) ≠ 0))
    (c12 : ¬ (((G.1 a 1).toInt) ≠ (2 : Int)))
    (c20 : ¬ (((G.1 a 4).toInt) < p0.toInt))
    (c28 : ((G.1 a 4).toInt) ≤ p1.toInt)
    (z38 : 0 ≤ ((G.1 a 3).toInt) ∧ ((G.1 a 3).toInt) ≤ ((G.1 (F a 0) 1).toInt))
    (t44 : (0 ≤ ((G44.1 a 2).toInt) ∧ ((G44.1 a 2).toInt) ≤ ((G.1 (F a 0) 1).toInt)) ∧ (0 ≤ ((G44.1 a 3).toInt) ∧ ((G44.1 a 3).toInt) ≤ ((G.1 (F a 0) 1).toInt)))
    (d_G44_a_5 : G44.1 a 5 = G.1 a 5) :
    RdI (tC (G.2.1 (F (F a 0) 0)) ((G.1 (F a 0) 1).toInt)) ((G.1 (F a 0) 1).toInt) (tkN (tC (G.2.1 (F (F a 0) 0)) ((G.1 (F a 0) 1).toInt)) p0.toInt p1.toInt r1).2 ((G44.1 a 1).toInt) ((G44.1 a 2).toInt) ((G44.1 a 3).toInt) ((G44.1 a 4).toInt) ((G44.1 a 5).toInt) := by
  obtain ⟨q1, q2, q3, q4, q5⟩ := rd_n1 hrd (by omega) (by omega)
  rw [tkN_t q1 (by rw [q2]; exact q3) (by rw [q2]; omega) (by rw [q2]; omega), q2]
  refine rd_st ?_ (by rw [d_G44_a_5]; omega) (by omega) oq44.2
  rw [oq44.1, q5]
theorem v_X5_takeNumber_37_9 {K : Nat → Nat} {F : Nat → Nat → Nat} (a : Nat) (G : XG) (r1 : RSt) (p0 : Int32) (p1 : Int32)
    (ha : K a = 7)
    (hrd : RdI (tC (G.2.1 (F (F a 0) 0)) ((G.1 (F a 0) 1).toInt)) ((G.1 (F a 0) 1).toInt) r1 ((G.1 a 1).toInt) ((G.1 a 2).toInt) ((G.1 a 3).toInt) ((G.1 a 4).toInt) ((G.1 a 5).toInt))
    (n0 : 0 ≤ ((G.1 (F a 0) 1).toInt) ∧ ((G.1 (F a 0) 1).toInt) ≤ 80)
    (z0 : 0 ≤ ((G.1 a 2).toInt) ∧ ((G.1 a 2).toInt) ≤ ((G.1 (F a 0) 1).toInt))
    (f9 : ((G.1 a 5).toInt) = 0 ∨ ((G.1 a 5).toInt) = 1)
    (c4 : ¬ (((G.1 a 5).toInt) ≠ 0))
    (c12 : ¬ (((G.1 a 1).toInt) ≠ (2 : Int)))
    (c20 : ¬ (((G.1 a 4).toInt) < p0.toInt))
    (c28 : ¬ (((G.1 a 4).toInt) ≤ p1.toInt)) :
    (0 : Int) = (tkN (tC (G.2.1 (F (F a 0) 0)) ((G.1 (F a 0) 1).toInt)) p0.toInt p1.toInt r1).1 := by
  rw [tkN_f (rd_n0 (tC_e _ _) hrd (by omega))]
theorem v_X5_takeNumber_37_10 {K : Nat → Nat} {F : Nat → Nat → Nat} (a : Nat) (G33 : XG) (G : XG) (r1 : RSt) (p0 : Int32) (p1 : Int32)
    (ha : K a = 7)
    (hrd : RdI (tC (G.2.1 (F (F a 0) 0)) ((G.1 (F a 0) 1).toInt)) ((G.1 (F a 0) 1).toInt) r1 ((G.1 a 1).toInt) ((G.1 a 2).toInt) ((G.1 a 3).toInt) ((G.1 a 4).toInt) ((G.1 a 5).toInt))
    (n0 : 0 ≤ ((G.1 (F a 0) 1).toInt) ∧ ((G.1 (F a 0) 1).toInt) ≤ 80)
    (z0 : 0 ≤ ((G.1 a 2).toInt) ∧ ((G.1 a 2).toInt) ≤ ((G.1 (F a 0) 1).toInt))
    (f9 : ((G.1 a 5).toInt) = 0 ∨ ((G.1 a 5).toInt) = 1)
    (c4 : ¬ (((G.1 a 5).toInt) ≠ 0))
    (c12 : ¬ (((G.1 a 1).toInt) ≠ (2 : Int)))
    (c20 : ¬ (((G.1 a 4).toInt) < p0.toInt))
    (c28 : ¬ (((G.1 a 4).toInt) ≤ p1.toInt))
    (d_G33_a_1 : G33.1 a 1 = G.1 a 1)
    (d_G33_a_2 : G33.1 a 2 = G.1 a 2)
    (d_G33_a_3 : G33.1 a 3 = G.1 a 3)
    (d_G33_a_4 : G33.1 a 4 = G.1 a 4)
    (d_G33_a_5 : G33.1 a 5 = 1) :
    RdI (tC (G.2.1 (F (F a 0) 0)) ((G.1 (F a 0) 1).toInt)) ((G.1 (F a 0) 1).toInt) (tkN (tC (G.2.1 (F (F a 0) 0)) ((G.1 (F a 0) 1).toInt)) p0.toInt p1.toInt r1).2 ((G33.1 a 1).toInt) ((G33.1 a 2).toInt) ((G33.1 a 3).toInt) ((G33.1 a 4).toInt) ((G33.1 a 5).toInt) := by
  rw [tkN_f (rd_n0 (tC_e _ _) hrd (by omega)), d_G33_a_1, d_G33_a_2, d_G33_a_3, d_G33_a_4, d_G33_a_5]
  exact rd_bad hrd (by decide)
theorem v_X5_takeKind_33_1 {K : Nat → Nat} {F : Nat → Nat → Nat} (a : Nat) (G : XG) (r1 : RSt) (l1_2 : Int32) (N2 : Nat)
    (ha : K a = 7)
    (pk : ∀ k : Nat, (k : Int) < l1_2.toInt → (tkW (tC (G.2.1 (F (F a 0) 0)) ((G.1 (F a 0) 1).toInt)) (kw k) r1).1 ≠ 1)
    (n0 : 0 ≤ ((G.1 (F a 0) 1).toInt) ∧ ((G.1 (F a 0) 1).toInt) ≤ 80)
    (I2_0 : 0 ≤ l1_2.toInt ∧ l1_2.toInt ≤ 6)
    (I2_1 : (0 : Int) ≤ l1_2.toInt)
    (hm2 : 2147483648 - l1_2.toInt < (((N2) + 1 : Nat) : Int))
    (c5 : (6 : Int) ≤ l1_2.toInt) :
    (0 : Int) = (tkK (tC (G.2.1 (F (F a 0) 0)) ((G.1 (F a 0) 1).toInt)) r1).1 := by
  rw [tkK_no (fun k hk => pk k (by omega))]
theorem v_X5_takeKind_33_2 {K : Nat → Nat} {F : Nat → Nat → Nat} (a : Nat) (G : XG) (G_2 : XG) (G29 : XG) (r1 : RSt) (l1_2 : Int32) (N2 : Nat)
    (ha : K a = 7)
    (pk : ∀ k : Nat, (k : Int) < l1_2.toInt → (tkW (tC (G.2.1 (F (F a 0) 0)) ((G.1 (F a 0) 1).toInt)) (kw k) r1).1 ≠ 1)
    (rd : RdI (tC (G.2.1 (F (F a 0) 0)) ((G.1 (F a 0) 1).toInt)) ((G.1 (F a 0) 1).toInt) r1 ((G_2.1 a 1).toInt) ((G_2.1 a 2).toInt) ((G_2.1 a 3).toInt) ((G_2.1 a 4).toInt) ((G.1 a 5).toInt))
    (n0 : 0 ≤ ((G.1 (F a 0) 1).toInt) ∧ ((G.1 (F a 0) 1).toInt) ≤ 80)
    (I2_0 : 0 ≤ l1_2.toInt ∧ l1_2.toInt ≤ 6)
    (I2_1 : (0 : Int) ≤ l1_2.toInt)
    (hm2 : 2147483648 - l1_2.toInt < (((N2) + 1 : Nat) : Int))
    (c5 : (6 : Int) ≤ l1_2.toInt)
    (d_G29_a_1 : G29.1 a 1 = G_2.1 a 1)
    (d_G29_a_2 : G29.1 a 2 = G_2.1 a 2)
    (d_G29_a_3 : G29.1 a 3 = G_2.1 a 3)
    (d_G29_a_4 : G29.1 a 4 = G_2.1 a 4)
    (d_G29_a_5 : G29.1 a 5 = 1) :
    RdI (tC (G.2.1 (F (F a 0) 0)) ((G.1 (F a 0) 1).toInt)) ((G.1 (F a 0) 1).toInt) (tkK (tC (G.2.1 (F (F a 0) 0)) ((G.1 (F a 0) 1).toInt)) r1).2 ((G29.1 a 1).toInt) ((G29.1 a 2).toInt) ((G29.1 a 3).toInt) ((G29.1 a 4).toInt) ((G29.1 a 5).toInt) := by
  rw [tkK_no (fun k hk => pk k (by omega)), d_G29_a_1, d_G29_a_2, d_G29_a_3, d_G29_a_4, d_G29_a_5]
  exact rd_bad rd (by decide)
theorem v_X5_takeKind_13_3 {F : Nat → Nat → Nat} (a : Nat) (G : XG) (G_2 : XG) (r1 : RSt)
    (rd : RdI (tC (G.2.1 (F (F a 0) 0)) ((G.1 (F a 0) 1).toInt)) ((G.1 (F a 0) 1).toInt) r1 ((G_2.1 a 1).toInt) ((G_2.1 a 2).toInt) ((G_2.1 a 3).toInt) ((G_2.1 a 4).toInt) ((G.1 a 5).toInt))
    (c_G_2_F_F_a_0_0 : G_2.2.1 (F (F a 0) 0) = G.2.1 (F (F a 0) 0))
    (d_G_2_F_a_0_1 : G_2.1 (F a 0) 1 = G.1 (F a 0) 1)
    (d_G_2_a_5 : G_2.1 a 5 = G.1 a 5) :
    RdI (tC (G_2.2.1 (F (F a 0) 0)) ((G_2.1 (F a 0) 1).toInt)) ((G_2.1 (F a 0) 1).toInt) r1 ((G_2.1 a 1).toInt) ((G_2.1 a 2).toInt) ((G_2.1 a 3).toInt) ((G_2.1 a 4).toInt) ((G_2.1 a 5).toInt) := by
  rw [c_G_2_F_F_a_0_0, d_G_2_F_a_0_1, d_G_2_a_5]; exact rd
theorem v_X5_takeKind_24_4 {K : Nat → Nat} {F : Nat → Nat → Nat} (a : Nat) (G : XG) (r1 : RSt) (l1_2 : Int32) (x13 : Int32) (q10 : Nat) (N2 : Nat)
    (ha : K a = 7)
    (pk : ∀ k : Nat, (k : Int) < l1_2.toInt → (tkW (tC (G.2.1 (F (F a 0) 0)) ((G.1 (F a 0) 1).toInt)) (kw k) r1).1 ≠ 1)
    (oq13 : x13.toInt = (tkW (tC (G.2.1 (F (F a 0) 0)) ((G.1 (F a 0) 1).toInt)) (kw q10) r1).1)
    (n0 : 0 ≤ ((G.1 (F a 0) 1).toInt) ∧ ((G.1 (F a 0) 1).toInt) ≤ 80)
    (I2_0 : 0 ≤ l1_2.toInt ∧ l1_2.toInt ≤ 6)
    (I2_1 : (0 : Int) ≤ l1_2.toInt)
    (hm2 : 2147483648 - l1_2.toInt < (((N2) + 1 : Nat) : Int))
    (c5 : ¬ ((6 : Int) ≤ l1_2.toInt))
    (hw10 : (0 ≤ l1_2.toInt ∧ l1_2.toInt ≤ 4 ∧ (((q10) : Nat) : Int) = l1_2.toInt) ∨ (¬ (0 ≤ l1_2.toInt ∧ l1_2.toInt ≤ 4) ∧ (((q10) : Nat) : Int) = 5))
    (t13 : 0 ≤ x13.toInt ∧ x13.toInt ≤ 1)
    (f20 : x13.toInt = 0 ∨ x13.toInt = 1)
    (c16 : x13.toInt = 0) :
    ∀ k : Nat, (k : Int) < (l1_2.toInt + 1) → (tkW (tC (G.2.1 (F (F a 0) 0)) ((G.1 (F a 0) 1).toInt)) (kw k) r1).1 ≠ 1 := by
  intro k h
  by_cases e : (k : Int) = l1_2.toInt
  · have e2 : q10 = k := by omega
    rw [← e2, ← oq13]
    omega
  · exact pk k (by omega)
theorem v_X5_takeKind_24_5 {K : Nat → Nat} {F : Nat → Nat → Nat} (a : Nat) (G : XG) (G13 : XG) (r1 : RSt) (l1_2 : Int32) (x13 : Int32) (q10 : Nat) (N2 : Nat)
    (ha : K a = 7)
    (oq13 : x13.toInt = (tkW (tC (G.2.1 (F (F a 0) 0)) ((G.1 (F a 0) 1).toInt)) (kw q10) r1).1)
    (oq13a : RdI (tC (G.2.1 (F (F a 0) 0)) ((G.1 (F a 0) 1).toInt)) ((G.1 (F a 0) 1).toInt) (tkW (tC (G.2.1 (F (F a 0) 0)) ((G.1 (F a 0) 1).toInt)) (kw q10) r1).2 ((G13.1 a 1).toInt) ((G13.1 a 2).toInt) ((G13.1 a 3).toInt) ((G13.1 a 4).toInt) ((G13.1 a 5).toInt))
    (n0 : 0 ≤ ((G.1 (F a 0) 1).toInt) ∧ ((G.1 (F a 0) 1).toInt) ≤ 80)
    (I2_0 : 0 ≤ l1_2.toInt ∧ l1_2.toInt ≤ 6)
    (I2_1 : (0 : Int) ≤ l1_2.toInt)
    (hm2 : 2147483648 - l1_2.toInt < (((N2) + 1 : Nat) : Int))
    (c5 : ¬ ((6 : Int) ≤ l1_2.toInt))
    (hw10 : (0 ≤ l1_2.toInt ∧ l1_2.toInt ≤ 4 ∧ (((q10) : Nat) : Int) = l1_2.toInt) ∨ (¬ (0 ≤ l1_2.toInt ∧ l1_2.toInt ≤ 4) ∧ (((q10) : Nat) : Int) = 5))
    (t13 : 0 ≤ x13.toInt ∧ x13.toInt ≤ 1)
    (f20 : x13.toInt = 0 ∨ x13.toInt = 1)
    (c16 : x13.toInt = 0)
    (d_G13_a_5 : G13.1 a 5 = G.1 a 5) :
    RdI (tC (G.2.1 (F (F a 0) 0)) ((G.1 (F a 0) 1).toInt)) ((G.1 (F a 0) 1).toInt) r1 ((G13.1 a 1).toInt) ((G13.1 a 2).toInt) ((G13.1 a 3).toInt) ((G13.1 a 4).toInt) ((G.1 a 5).toInt) := by
  have w1 : (tkW (tC (G.2.1 (F (F a 0) 0)) ((G.1 (F a 0) 1).toInt)) (kw q10) r1).1 ≠ 1 := by rw [← oq13]; omega
  rw [tkW_n w1, d_G13_a_5] at oq13a
  exact oq13a
theorem v_X5_takeKind_20_6 {K : Nat → Nat} {F : Nat → Nat → Nat} (a : Nat) (G : XG) (r1 : RSt) (l1_2 : Int32) (x13 : Int32) (q10 : Nat) (N2 : Nat)
    (ha : K a = 7)
    (pk : ∀ k : Nat, (k : Int) < l1_2.toInt → (tkW (tC (G.2.1 (F (F a 0) 0)) ((G.1 (F a 0) 1).toInt)) (kw k) r1).1 ≠ 1)
    (oq13 : x13.toInt = (tkW (tC (G.2.1 (F (F a 0) 0)) ((G.1 (F a 0) 1).toInt)) (kw q10) r1).1)
    (n0 : 0 ≤ ((G.1 (F a 0) 1).toInt) ∧ ((G.1 (F a 0) 1).toInt) ≤ 80)
    (I2_0 : 0 ≤ l1_2.toInt ∧ l1_2.toInt ≤ 6)
    (I2_1 : (0 : Int) ≤ l1_2.toInt)
    (hm2 : 2147483648 - l1_2.toInt < (((N2) + 1 : Nat) : Int))
    (c5 : ¬ ((6 : Int) ≤ l1_2.toInt))
    (hw10 : (0 ≤ l1_2.toInt ∧ l1_2.toInt ≤ 4 ∧ (((q10) : Nat) : Int) = l1_2.toInt) ∨ (¬ (0 ≤ l1_2.toInt ∧ l1_2.toInt ≤ 4) ∧ (((q10) : Nat) : Int) = 5))
    (t13 : 0 ≤ x13.toInt ∧ x13.toInt ≤ 1)
    (f19 : x13.toInt = 0 ∨ x13.toInt = 1)
    (c16 : ¬ (x13.toInt = 0)) :
    l1_2.toInt = (tkK (tC (G.2.1 (F (F a 0) 0)) ((G.1 (F a 0) 1).toInt)) r1).1 := by
  have e2 : (l1_2.toInt).toNat = q10 := by omega
  rw [tkK_at (n := q10) (by omega) (fun k hk => pk k (by omega)) (by rw [← oq13]; omega)]
  show l1_2.toInt = (q10 : Int)
  omega
theorem v_X5_takeKind_20_7 {K : Nat → Nat} {F : Nat → Nat → Nat} (a : Nat) (G : XG) (G13 : XG) (r1 : RSt) (l1_2 : Int32) (x13 : Int32) (q10 : Nat) (N2 : Nat)
    (ha : K a = 7)
    (pk : ∀ k : Nat, (k : Int) < l1_2.toInt → (tkW (tC (G.2.1 (F (F a 0) 0)) ((G.1 (F a 0) 1).toInt)) (kw k) r1).1 ≠ 1)
    (oq13 : x13.toInt = (tkW (tC (G.2.1 (F (F a 0) 0)) ((G.1 (F a 0) 1).toInt)) (kw q10) r1).1)
    (oq13a : RdI (tC (G.2.1 (F (F a 0) 0)) ((G.1 (F a 0) 1).toInt)) ((G.1 (F a 0) 1).toInt) (tkW (tC (G.2.1 (F (F a 0) 0)) ((G.1 (F a 0) 1).toInt)) (kw q10) r1).2 ((G13.1 a 1).toInt) ((G13.1 a 2).toInt) ((G13.1 a 3).toInt) ((G13.1 a 4).toInt) ((G13.1 a 5).toInt))
    (n0 : 0 ≤ ((G.1 (F a 0) 1).toInt) ∧ ((G.1 (F a 0) 1).toInt) ≤ 80)
    (I2_0 : 0 ≤ l1_2.toInt ∧ l1_2.toInt ≤ 6)
    (I2_1 : (0 : Int) ≤ l1_2.toInt)
    (hm2 : 2147483648 - l1_2.toInt < (((N2) + 1 : Nat) : Int))
    (c5 : ¬ ((6 : Int) ≤ l1_2.toInt))
    (hw10 : (0 ≤ l1_2.toInt ∧ l1_2.toInt ≤ 4 ∧ (((q10) : Nat) : Int) = l1_2.toInt) ∨ (¬ (0 ≤ l1_2.toInt ∧ l1_2.toInt ≤ 4) ∧ (((q10) : Nat) : Int) = 5))
    (t13 : 0 ≤ x13.toInt ∧ x13.toInt ≤ 1)
    (f19 : x13.toInt = 0 ∨ x13.toInt = 1)
    (c16 : ¬ (x13.toInt = 0)) :
    RdI (tC (G.2.1 (F (F a 0) 0)) ((G.1 (F a 0) 1).toInt)) ((G.1 (F a 0) 1).toInt) (tkK (tC (G.2.1 (F (F a 0) 0)) ((G.1 (F a 0) 1).toInt)) r1).2 ((G13.1 a 1).toInt) ((G13.1 a 2).toInt) ((G13.1 a 3).toInt) ((G13.1 a 4).toInt) ((G13.1 a 5).toInt) := by
  rw [tkK_at (n := q10) (by omega) (fun k hk => pk k (by omega)) (by rw [← oq13]; omega)]
  exact oq13a
theorem v_X5_takeKind_1_8 {K : Nat → Nat} {F : Nat → Nat → Nat} (a : Nat) (G : XG) (r1 : RSt)
    (ha : K a = 7)
    (n0 : 0 ≤ ((G.1 (F a 0) 1).toInt) ∧ ((G.1 (F a 0) 1).toInt) ≤ 80) :
    ∀ k : Nat, (k : Int) < (0 : Int) → (tkW (tC (G.2.1 (F (F a 0) 0)) ((G.1 (F a 0) 1).toInt)) (kw k) r1).1 ≠ 1 := by
  intro k h; omega
theorem v_X5_takeKind_1_9 {F : Nat → Nat → Nat} (a : Nat) (G : XG) (r1 : RSt)
    (hrd : RdI (tC (G.2.1 (F (F a 0) 0)) ((G.1 (F a 0) 1).toInt)) ((G.1 (F a 0) 1).toInt) r1 ((G.1 a 1).toInt) ((G.1 a 2).toInt) ((G.1 a 3).toInt) ((G.1 a 4).toInt) ((G.1 a 5).toInt)) :
    RdI (tC (G.2.1 (F (F a 0) 0)) ((G.1 (F a 0) 1).toInt)) ((G.1 (F a 0) 1).toInt) r1 ((G.1 a 1).toInt) ((G.1 a 2).toInt) ((G.1 a 3).toInt) ((G.1 a 4).toInt) ((G.1 a 5).toInt) := by
  exact hrd
theorem v_X5_takeAction_3_1 {F : Nat → Nat → Nat} (a : Nat) (G : XG) (r1 : RSt)
    (hrd : RdI (tC (G.2.1 (F (F a 0) 0)) ((G.1 (F a 0) 1).toInt)) ((G.1 (F a 0) 1).toInt) r1 ((G.1 a 1).toInt) ((G.1 a 2).toInt) ((G.1 a 3).toInt) ((G.1 a 4).toInt) ((G.1 a 5).toInt)) :
    RdI (tC (G.2.1 (F (F a 0) 0)) ((G.1 (F a 0) 1).toInt)) ((G.1 (F a 0) 1).toInt) r1 ((G.1 a 1).toInt) ((G.1 a 2).toInt) ((G.1 a 3).toInt) ((G.1 a 4).toInt) ((G.1 a 5).toInt) := by exact hrd
theorem v_X5_takeAction_14_2 {K : Nat → Nat} {F : Nat → Nat → Nat} (a : Nat) (G : XG) (G3 : XG) (r1 : RSt) (x3 : Int32)
    (ha : K a = 7)
    (oq3 : x3.toInt = (tkW (tC (G.2.1 (F (F a 0) 0)) ((G.1 (F a 0) 1).toInt)) (kw 6) r1).1)
    (oq3a : RdI (tC (G.2.1 (F (F a 0) 0)) ((G.1 (F a 0) 1).toInt)) ((G.1 (F a 0) 1).toInt) (tkW (tC (G.2.1 (F (F a 0) 0)) ((G.1 (F a 0) 1).toInt)) (kw 6) r1).2 ((G3.1 a 1).toInt) ((G3.1 a 2).toInt) ((G3.1 a 3).toInt) ((G3.1 a 4).toInt) ((G3.1 a 5).toInt))
    (n0 : 0 ≤ ((G.1 (F a 0) 1).toInt) ∧ ((G.1 (F a 0) 1).toInt) ≤ 80)
    (t3 : 0 ≤ x3.toInt ∧ x3.toInt ≤ 1)
    (f11 : x3.toInt = 0 ∨ x3.toInt = 1)
    (c6 : x3.toInt = 0)
    (c_G3_F_F_a_0_0 : G3.2.1 (F (F a 0) 0) = G.2.1 (F (F a 0) 0))
    (d_G3_F_a_0_1 : G3.1 (F a 0) 1 = G.1 (F a 0) 1) :
    RdI (tC (G3.2.1 (F (F a 0) 0)) ((G3.1 (F a 0) 1).toInt)) ((G3.1 (F a 0) 1).toInt) r1 ((G3.1 a 1).toInt) ((G3.1 a 2).toInt) ((G3.1 a 3).toInt) ((G3.1 a 4).toInt) ((G3.1 a 5).toInt) := by
  have w1 : (tkW (tC (G.2.1 (F (F a 0) 0)) ((G.1 (F a 0) 1).toInt)) (kw 6) r1).1 ≠ 1 := by rw [← oq3]; omega
  rw [tkW_n w1] at oq3a
  rw [c_G3_F_F_a_0_0, d_G3_F_a_0_1]
  exact oq3a
theorem v_X5_takeAction_25_3 {K : Nat → Nat} {F : Nat → Nat → Nat} (a : Nat) (G : XG) (r1 : RSt) (x3 : Int32) (x14 : Int32)
    (ha : K a = 7)
    (oq3 : x3.toInt = (tkW (tC (G.2.1 (F (F a 0) 0)) ((G.1 (F a 0) 1).toInt)) (kw 6) r1).1)
    (oq14 : x14.toInt = (tkW (tC (G.2.1 (F (F a 0) 0)) ((G.1 (F a 0) 1).toInt)) (kw 7) r1).1)
    (n0 : 0 ≤ ((G.1 (F a 0) 1).toInt) ∧ ((G.1 (F a 0) 1).toInt) ≤ 80)
    (t3 : 0 ≤ x3.toInt ∧ x3.toInt ≤ 1)
    (f14 : x3.toInt = 0 ∨ x3.toInt = 1)
    (c6 : x3.toInt = 0)
    (t14 : 0 ≤ x14.toInt ∧ x14.toInt ≤ 1)
    (f17 : x14.toInt = 0 ∨ x14.toInt = 1)
    (c17 : x14.toInt = 0) :
    (0 : Int) = (tkA (tC (G.2.1 (F (F a 0) 0)) ((G.1 (F a 0) 1).toInt)) r1).1 := by
  have w1 : (tkW (tC (G.2.1 (F (F a 0) 0)) ((G.1 (F a 0) 1).toInt)) (kw 6) r1).1 ≠ 1 := by rw [← oq3]; omega
  first
    | (rw [tkA_b w1 (by rw [← oq14]; omega)]; done)
    | (rw [tkA_c w1 (by rw [← oq14]; omega)]; done)
theorem v_X5_takeAction_25_4 {K : Nat → Nat} {F : Nat → Nat → Nat} (a : Nat) (G : XG) (G14 : XG) (r1 : RSt) (x3 : Int32) (x14 : Int32)
    (ha : K a = 7)
    (oq3 : x3.toInt = (tkW (tC (G.2.1 (F (F a 0) 0)) ((G.1 (F a 0) 1).toInt)) (kw 6) r1).1)
    (oq14 : x14.toInt = (tkW (tC (G.2.1 (F (F a 0) 0)) ((G.1 (F a 0) 1).toInt)) (kw 7) r1).1)
    (oq14a : RdI (tC (G.2.1 (F (F a 0) 0)) ((G.1 (F a 0) 1).toInt)) ((G.1 (F a 0) 1).toInt) (tkW (tC (G.2.1 (F (F a 0) 0)) ((G.1 (F a 0) 1).toInt)) (kw 7) r1).2 ((G14.1 a 1).toInt) ((G14.1 a 2).toInt) ((G14.1 a 3).toInt) ((G14.1 a 4).toInt) ((G14.1 a 5).toInt))
    (n0 : 0 ≤ ((G.1 (F a 0) 1).toInt) ∧ ((G.1 (F a 0) 1).toInt) ≤ 80)
    (t3 : 0 ≤ x3.toInt ∧ x3.toInt ≤ 1)
    (f14 : x3.toInt = 0 ∨ x3.toInt = 1)
    (c6 : x3.toInt = 0)
    (t14 : 0 ≤ x14.toInt ∧ x14.toInt ≤ 1)
    (f17 : x14.toInt = 0 ∨ x14.toInt = 1)
    (c17 : x14.toInt = 0) :
    RdI (tC (G.2.1 (F (F a 0) 0)) ((G.1 (F a 0) 1).toInt)) ((G.1 (F a 0) 1).toInt) (tkA (tC (G.2.1 (F (F a 0) 0)) ((G.1 (F a 0) 1).toInt)) r1).2 ((G14.1 a 1).toInt) ((G14.1 a 2).toInt) ((G14.1 a 3).toInt) ((G14.1 a 4).toInt) ((G14.1 a 5).toInt) := by
  have w1 : (tkW (tC (G.2.1 (F (F a 0) 0)) ((G.1 (F a 0) 1).toInt)) (kw 6) r1).1 ≠ 1 := by rw [← oq3]; omega
  first
    | (rw [tkA_b w1 (by rw [← oq14]; omega)]; exact oq14a)
    | (have w2 : (tkW (tC (G.2.1 (F (F a 0) 0)) ((G.1 (F a 0) 1).toInt)) (kw 7) r1).1 ≠ 1 := by rw [← oq14]; omega
       rw [tkA_c w1 w2]
       rw [tkW_n w2] at oq14a
       exact oq14a)
theorem v_X5_takeAction_25_5 {K : Nat → Nat} {F : Nat → Nat → Nat} (a : Nat) (G : XG) (r1 : RSt) (x3 : Int32) (x14 : Int32)
    (ha : K a = 7)
    (oq3 : x3.toInt = (tkW (tC (G.2.1 (F (F a 0) 0)) ((G.1 (F a 0) 1).toInt)) (kw 6) r1).1)
    (oq14 : x14.toInt = (tkW (tC (G.2.1 (F (F a 0) 0)) ((G.1 (F a 0) 1).toInt)) (kw 7) r1).1)
    (n0 : 0 ≤ ((G.1 (F a 0) 1).toInt) ∧ ((G.1 (F a 0) 1).toInt) ≤ 80)
    (t3 : 0 ≤ x3.toInt ∧ x3.toInt ≤ 1)
    (f14 : x3.toInt = 0 ∨ x3.toInt = 1)
    (c6 : x3.toInt = 0)
    (t14 : 0 ≤ x14.toInt ∧ x14.toInt ≤ 1)
    (f17 : x14.toInt = 0 ∨ x14.toInt = 1)
    (c17 : ¬ (x14.toInt = 0)) :
    (2 : Int) = (tkA (tC (G.2.1 (F (F a 0) 0)) ((G.1 (F a 0) 1).toInt)) r1).1 := by
  have w1 : (tkW (tC (G.2.1 (F (F a 0) 0)) ((G.1 (F a 0) 1).toInt)) (kw 6) r1).1 ≠ 1 := by rw [← oq3]; omega
  first
    | (rw [tkA_b w1 (by rw [← oq14]; omega)]; done)
    | (rw [tkA_c w1 (by rw [← oq14]; omega)]; done)
theorem v_X5_takeAction_25_6 {K : Nat → Nat} {F : Nat → Nat → Nat} (a : Nat) (G : XG) (G14 : XG) (r1 : RSt) (x3 : Int32) (x14 : Int32)
    (ha : K a = 7)
    (oq3 : x3.toInt = (tkW (tC (G.2.1 (F (F a 0) 0)) ((G.1 (F a 0) 1).toInt)) (kw 6) r1).1)
    (oq14 : x14.toInt = (tkW (tC (G.2.1 (F (F a 0) 0)) ((G.1 (F a 0) 1).toInt)) (kw 7) r1).1)
    (oq14a : RdI (tC (G.2.1 (F (F a 0) 0)) ((G.1 (F a 0) 1).toInt)) ((G.1 (F a 0) 1).toInt) (tkW (tC (G.2.1 (F (F a 0) 0)) ((G.1 (F a 0) 1).toInt)) (kw 7) r1).2 ((G14.1 a 1).toInt) ((G14.1 a 2).toInt) ((G14.1 a 3).toInt) ((G14.1 a 4).toInt) ((G14.1 a 5).toInt))
    (n0 : 0 ≤ ((G.1 (F a 0) 1).toInt) ∧ ((G.1 (F a 0) 1).toInt) ≤ 80)
    (t3 : 0 ≤ x3.toInt ∧ x3.toInt ≤ 1)
    (f14 : x3.toInt = 0 ∨ x3.toInt = 1)
    (c6 : x3.toInt = 0)
    (t14 : 0 ≤ x14.toInt ∧ x14.toInt ≤ 1)
    (f17 : x14.toInt = 0 ∨ x14.toInt = 1)
    (c17 : ¬ (x14.toInt = 0)) :
    RdI (tC (G.2.1 (F (F a 0) 0)) ((G.1 (F a 0) 1).toInt)) ((G.1 (F a 0) 1).toInt) (tkA (tC (G.2.1 (F (F a 0) 0)) ((G.1 (F a 0) 1).toInt)) r1).2 ((G14.1 a 1).toInt) ((G14.1 a 2).toInt) ((G14.1 a 3).toInt) ((G14.1 a 4).toInt) ((G14.1 a 5).toInt) := by
  have w1 : (tkW (tC (G.2.1 (F (F a 0) 0)) ((G.1 (F a 0) 1).toInt)) (kw 6) r1).1 ≠ 1 := by rw [← oq3]; omega
  first
    | (rw [tkA_b w1 (by rw [← oq14]; omega)]; exact oq14a)
    | (have w2 : (tkW (tC (G.2.1 (F (F a 0) 0)) ((G.1 (F a 0) 1).toInt)) (kw 7) r1).1 ≠ 1 := by rw [← oq14]; omega
       rw [tkA_c w1 w2]
       rw [tkW_n w2] at oq14a
       exact oq14a)
theorem v_X5_takeAction_10_7 {K : Nat → Nat} {F : Nat → Nat → Nat} (a : Nat) (G : XG) (r1 : RSt) (x3 : Int32)
    (ha : K a = 7)
    (oq3 : x3.toInt = (tkW (tC (G.2.1 (F (F a 0) 0)) ((G.1 (F a 0) 1).toInt)) (kw 6) r1).1)
    (n0 : 0 ≤ ((G.1 (F a 0) 1).toInt) ∧ ((G.1 (F a 0) 1).toInt) ≤ 80)
    (t3 : 0 ≤ x3.toInt ∧ x3.toInt ≤ 1)
    (f11 : x3.toInt = 0 ∨ x3.toInt = 1)
    (c6 : ¬ (x3.toInt = 0)) :
    (1 : Int) = (tkA (tC (G.2.1 (F (F a 0) 0)) ((G.1 (F a 0) 1).toInt)) r1).1 := by
  rw [tkA_a (by rw [← oq3]; omega)]
theorem v_X5_takeAction_10_8 {K : Nat → Nat} {F : Nat → Nat → Nat} (a : Nat) (G : XG) (G3 : XG) (r1 : RSt) (x3 : Int32)
    (ha : K a = 7)
    (oq3 : x3.toInt = (tkW (tC (G.2.1 (F (F a 0) 0)) ((G.1 (F a 0) 1).toInt)) (kw 6) r1).1)
    (oq3a : RdI (tC (G.2.1 (F (F a 0) 0)) ((G.1 (F a 0) 1).toInt)) ((G.1 (F a 0) 1).toInt) (tkW (tC (G.2.1 (F (F a 0) 0)) ((G.1 (F a 0) 1).toInt)) (kw 6) r1).2 ((G3.1 a 1).toInt) ((G3.1 a 2).toInt) ((G3.1 a 3).toInt) ((G3.1 a 4).toInt) ((G3.1 a 5).toInt))
    (n0 : 0 ≤ ((G.1 (F a 0) 1).toInt) ∧ ((G.1 (F a 0) 1).toInt) ≤ 80)
    (t3 : 0 ≤ x3.toInt ∧ x3.toInt ≤ 1)
    (f11 : x3.toInt = 0 ∨ x3.toInt = 1)
    (c6 : ¬ (x3.toInt = 0)) :
    RdI (tC (G.2.1 (F (F a 0) 0)) ((G.1 (F a 0) 1).toInt)) ((G.1 (F a 0) 1).toInt) (tkA (tC (G.2.1 (F (F a 0) 0)) ((G.1 (F a 0) 1).toInt)) r1).2 ((G3.1 a 1).toInt) ((G3.1 a 2).toInt) ((G3.1 a 3).toInt) ((G3.1 a 4).toInt) ((G3.1 a 5).toInt) := by
  rw [tkA_a (by rw [← oq3]; omega)]; exact oq3a
