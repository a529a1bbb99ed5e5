theorem v_X6_fill_29_1 {K : Nat → Nat} {F : Nat → Nat → Nat} (a : Nat) (G : XG) (G_3 : XG) (p0 : Int32) (p1 : Int32) (p2 : Int32) (l4_3 : Int32) (N3 : Nat)
    (ha : K a = 8)
    (pf : vw (G_3.2.1 (F a 0)) = rfil (vw (G.2.1 (F a 0))) (p0.toInt) (p1.toInt) (p2.toInt) (l4_3.toInt))
    (e0 : 0 ≤ p0.toInt ∧ p0.toInt < 3 ∧ 0 ≤ p1.toInt ∧ p1.toInt < 30)
    (I3_0 : 0 ≤ l4_3.toInt ∧ l4_3.toInt ≤ 3)
    (I3_1 : (0 : Int) ≤ l4_3.toInt)
    (hm3 : 2147483648 - l4_3.toInt < (((N3) + 1 : Nat) : Int))
    (c6 : (3 : Int) ≤ l4_3.toInt) :
    (vw (G_3.2.1 (F a 0))) = rfil (vw (G.2.1 (F a 0))) (p0.toInt) (p1.toInt) (p2.toInt) 3 := by
  rw [pf]
  congr 1
  omega
theorem v_X6_fill_26_2 {K : Nat → Nat} {F : Nat → Nat → Nat} (a : Nat) (G : XG) (G_3 : XG) (G22 : XG) (x20 : Int32) (p2 : Int32) (p0 : Int32) (p1 : Int32) (l4_3 : Int32) (N3 : Nat) (x16 : Int32)
    (ha : K a = 8)
    (hG22 : G22 = cput G_3 (F a 0) x20.toNatClampNeg p2)
    (pf : vw (G_3.2.1 (F a 0)) = rfil (vw (G.2.1 (F a 0))) (p0.toInt) (p1.toInt) (p2.toInt) (l4_3.toInt))
    (e0 : 0 ≤ p0.toInt ∧ p0.toInt < 3 ∧ 0 ≤ p1.toInt ∧ p1.toInt < 30)
    (I3_0 : 0 ≤ l4_3.toInt ∧ l4_3.toInt ≤ 3)
    (I3_1 : (0 : Int) ≤ l4_3.toInt)
    (hm3 : 2147483648 - l4_3.toInt < (((N3) + 1 : Nat) : Int))
    (c6 : ¬ ((3 : Int) ≤ l4_3.toInt))
    (t16 : 0 ≤ p0.toInt ∧ p0.toInt < 3 ∧ 0 ≤ l4_3.toInt ∧ l4_3.toInt < 3 → x16.toInt = 90 * p0.toInt + 30 * l4_3.toInt)
    (t20 : x20.toInt = x16.toInt + p1.toInt ∨ x16.toInt + p1.toInt < -2147483648 ∨ 2147483648 ≤ x16.toInt + p1.toInt) :
    vw (G22.2.1 (F a 0)) = rfil (vw (G.2.1 (F a 0))) (p0.toInt) (p1.toInt) (p2.toInt) (l4_3.toInt + 1) := by
  have e1 : G22.2.1 (F a 0) = upd (G_3.2.1 (F a 0)) x20.toNatClampNeg p2 := by rw [hG22]; show up2 _ _ _ _ _ = _; rw [up2_r, upr_at]
  rw [vw_upd e1 rfl rfl (by omega), pf, ← rfil_s _ _ _ _ _ (by omega)]
  congr 1
  omega
theorem v_X6_fill_1_3 {F : Nat → Nat → Nat} (a : Nat) (p0 : Int32) (p1 : Int32) (G : XG) (p2 : Int32) :
    vw (G.2.1 (F a 0)) = rfil (vw (G.2.1 (F a 0))) (p0.toInt) (p1.toInt) (p2.toInt) (0 : Int) := by
  exact (rfil_0 _ _ _ _).symm
theorem v_X6_add_35_1 {K : Nat → Nat} {F : Nat → Nat → Nat} (a : Nat) (G : XG) (p0 : Int32) (p1 : Int32) (x1 : Int32)
    (ha : K a = 8)
    (e0 : 0 ≤ p0.toInt ∧ p0.toInt < 3 ∧ 0 ≤ p1.toInt ∧ p1.toInt < 30)
    (t1 : (x1.toInt = 1 ∧ 0 ≤ p0.toInt ∧ p0.toInt < 3) ∨ (x1.toInt = 0 ∧ (p0.toInt < 0 ∨ 3 ≤ p0.toInt)))
    (c4 : x1.toInt = 0) :
    (vw (G.2.1 (F a 0))) = rfil (vw (G.2.1 (F a 0))) (p0.toInt) (p1.toInt) (-1000) 3 := by
  first | (exfalso; omega) | skip
  all_goals (
    rw [oq32])
theorem v_X6_add_35_2 {K : Nat → Nat} {F : Nat → Nat → Nat} (a : Nat) (G : XG) (p0 : Int32) (p1 : Int32) (x1 : Int32)
    (ha : K a = 8)
    (hro : RO (vw (G.2.1 (F a 0))) (aI (G.2.1 (F a 1))))
    (e0 : 0 ≤ p0.toInt ∧ p0.toInt < 3 ∧ 0 ≤ p1.toInt ∧ p1.toInt < 30)
    (t1 : (x1.toInt = 1 ∧ 0 ≤ p0.toInt ∧ p0.toInt < 3) ∨ (x1.toInt = 0 ∧ (p0.toInt < 0 ∨ 3 ≤ p0.toInt)))
    (c4 : x1.toInt = 0) :
    RO (vw (G.2.1 (F a 0))) (aI (G.2.1 (F a 1))) := by
  first | (exfalso; omega) | skip
  all_goals (
    rw [oq32, c_G32_F_a_1]
    refine RO.fill hro (by omega) (Or.inr (Or.inl rfl)) (fun t2 h1 h2 h3 => ?_) (fun j h1 h2 => ?_)
    · rw [hG25, aI_put (by omega) _ h1, if_neg h3]
    · rw [hG25, aI_put (by omega) _ (by omega), if_pos rfl, bI_set he23 he24 hv20 rfl (by omega) j h1 h2]
      by_cases e : j = p1.toInt
      · rw [if_pos e, if_pos e, if_neg (by decide)]
      · rw [if_neg e, if_neg e])
theorem v_X6_add_35_3 {K : Nat → Nat} {F : Nat → Nat → Nat} (a : Nat) (G : XG) (p0 : Int32) (p1 : Int32) (x1 : Int32) (x8 : Int32)
    (ha : K a = 8)
    (e0 : 0 ≤ p0.toInt ∧ p0.toInt < 3 ∧ 0 ≤ p1.toInt ∧ p1.toInt < 30)
    (t1 : (x1.toInt = 1 ∧ 0 ≤ p0.toInt ∧ p0.toInt < 3) ∨ (x1.toInt = 0 ∧ (p0.toInt < 0 ∨ 3 ≤ p0.toInt)))
    (c4 : ¬ (x1.toInt = 0))
    (t8 : (x8.toInt = 1 ∧ 0 ≤ p1.toInt ∧ p1.toInt < 30) ∨ (x8.toInt = 0 ∧ (p1.toInt < 0 ∨ 30 ≤ p1.toInt)))
    (c11 : x8.toInt = 0) :
    (vw (G.2.1 (F a 0))) = rfil (vw (G.2.1 (F a 0))) (p0.toInt) (p1.toInt) (-1000) 3 := by
  first | (exfalso; omega) | skip
  all_goals (
    rw [oq32])
theorem v_X6_add_35_4 {K : Nat → Nat} {F : Nat → Nat → Nat} (a : Nat) (G : XG) (p0 : Int32) (p1 : Int32) (x1 : Int32) (x8 : Int32)
    (ha : K a = 8)
    (hro : RO (vw (G.2.1 (F a 0))) (aI (G.2.1 (F a 1))))
    (e0 : 0 ≤ p0.toInt ∧ p0.toInt < 3 ∧ 0 ≤ p1.toInt ∧ p1.toInt < 30)
    (t1 : (x1.toInt = 1 ∧ 0 ≤ p0.toInt ∧ p0.toInt < 3) ∨ (x1.toInt = 0 ∧ (p0.toInt < 0 ∨ 3 ≤ p0.toInt)))
    (c4 : ¬ (x1.toInt = 0))
    (t8 : (x8.toInt = 1 ∧ 0 ≤ p1.toInt ∧ p1.toInt < 30) ∨ (x8.toInt = 0 ∧ (p1.toInt < 0 ∨ 30 ≤ p1.toInt)))
    (c11 : x8.toInt = 0) :
    RO (vw (G.2.1 (F a 0))) (aI (G.2.1 (F a 1))) := by
  first | (exfalso; omega) | skip
  all_goals (
    rw [oq32, c_G32_F_a_1]
    refine RO.fill hro (by omega) (Or.inr (Or.inl rfl)) (fun t2 h1 h2 h3 => ?_) (fun j h1 h2 => ?_)
    · rw [hG25, aI_put (by omega) _ h1, if_neg h3]
    · rw [hG25, aI_put (by omega) _ (by omega), if_pos rfl, bI_set he23 he24 hv20 rfl (by omega) j h1 h2]
      by_cases e : j = p1.toInt
      · rw [if_pos e, if_pos e, if_neg (by decide)]
      · rw [if_neg e, if_neg e])
theorem v_X6_add_35_5 {K : Nat → Nat} {F : Nat → Nat → Nat} (a : Nat) (G : XG) (p0 : Int32) (x24 : Int32) (G32 : XG) (x20 : Int32) (x23 : Int32) (p1 : Int32) (x1 : Int32) (x8 : Int32)
    (ha : K a = 8)
    (hv20 : x20.toInt = (aI (G.2.1 (F a 1)) (p0.toInt)))
    (he23 : x23 = (1 : Int32) <<< (p1 &&& 31))
    (he24 : x24 = x20 ||| x23)
    (oq32 : (vw (G32.2.1 (F a 0))) = rfil (vw (G.2.1 (F a 0))) (p0.toInt) (p1.toInt) (-1000 : Int) 3)
    (e0 : 0 ≤ p0.toInt ∧ p0.toInt < 3 ∧ 0 ≤ p1.toInt ∧ p1.toInt < 30)
    (t1 : (x1.toInt = 1 ∧ 0 ≤ p0.toInt ∧ p0.toInt < 3) ∨ (x1.toInt = 0 ∧ (p0.toInt < 0 ∨ 3 ≤ p0.toInt)))
    (c4 : ¬ (x1.toInt = 0))
    (t8 : (x8.toInt = 1 ∧ 0 ≤ p1.toInt ∧ p1.toInt < 30) ∨ (x8.toInt = 0 ∧ (p1.toInt < 0 ∨ 30 ≤ p1.toInt)))
    (c11 : ¬ (x8.toInt = 0)) :
    (vw (G32.2.1 (F a 0))) = rfil (vw (G.2.1 (F a 0))) (p0.toInt) (p1.toInt) (-1000) 3 := by
  first | (exfalso; omega) | skip
  all_goals (
    rw [oq32])
theorem v_X6_add_35_6 {K : Nat → Nat} {F : Nat → Nat → Nat} (a : Nat) (G25 : XG) (G : XG) (p0 : Int32) (x24 : Int32) (G32 : XG) (x20 : Int32) (x23 : Int32) (p1 : Int32) (x1 : Int32) (x8 : Int32)
    (ha : K a = 8)
    (hG25 : G25 = cput G (F a 1) p0.toNatClampNeg x24)
    (hro : RO (vw (G.2.1 (F a 0))) (aI (G.2.1 (F a 1))))
    (hv20 : x20.toInt = (aI (G.2.1 (F a 1)) (p0.toInt)))
    (he23 : x23 = (1 : Int32) <<< (p1 &&& 31))
    (he24 : x24 = x20 ||| x23)
    (oq32 : (vw (G32.2.1 (F a 0))) = rfil (vw (G.2.1 (F a 0))) (p0.toInt) (p1.toInt) (-1000 : Int) 3)
    (e0 : 0 ≤ p0.toInt ∧ p0.toInt < 3 ∧ 0 ≤ p1.toInt ∧ p1.toInt < 30)
    (t1 : (x1.toInt = 1 ∧ 0 ≤ p0.toInt ∧ p0.toInt < 3) ∨ (x1.toInt = 0 ∧ (p0.toInt < 0 ∨ 3 ≤ p0.toInt)))
    (c4 : ¬ (x1.toInt = 0))
    (t8 : (x8.toInt = 1 ∧ 0 ≤ p1.toInt ∧ p1.toInt < 30) ∨ (x8.toInt = 0 ∧ (p1.toInt < 0 ∨ 30 ≤ p1.toInt)))
    (c11 : ¬ (x8.toInt = 0))
    (c_G32_F_a_1 : G32.2.1 (F a 1) = G25.2.1 (F a 1)) :
    RO (vw (G32.2.1 (F a 0))) (aI (G32.2.1 (F a 1))) := by
  first | (exfalso; omega) | skip
  all_goals (
    rw [oq32, c_G32_F_a_1]
    refine RO.fill hro (by omega) (Or.inr (Or.inl rfl)) (fun t2 h1 h2 h3 => ?_) (fun j h1 h2 => ?_)
    · rw [hG25, aI_put (by omega) _ h1, if_neg h3]
    · rw [hG25, aI_put (by omega) _ (by omega), if_pos rfl, bI_set he23 he24 hv20 rfl (by omega) j h1 h2]
      by_cases e : j = p1.toInt
      · rw [if_pos e, if_pos e, if_neg (by decide)]
      · rw [if_neg e, if_neg e])
theorem v_X6_remove_37_1 {K : Nat → Nat} {F : Nat → Nat → Nat} (a : Nat) (G : XG) (p0 : Int32) (p1 : Int32) (x1 : Int32)
    (ha : K a = 8)
    (e0 : 0 ≤ p0.toInt ∧ p0.toInt < 3 ∧ 0 ≤ p1.toInt ∧ p1.toInt < 30)
    (t1 : (x1.toInt = 1 ∧ 0 ≤ p0.toInt ∧ p0.toInt < 3) ∨ (x1.toInt = 0 ∧ (p0.toInt < 0 ∨ 3 ≤ p0.toInt)))
    (c4 : x1.toInt = 0) :
    (vw (G.2.1 (F a 0))) = rfil (vw (G.2.1 (F a 0))) (p0.toInt) (p1.toInt) (-2000) 3 := by
  first | (exfalso; omega) | skip
  all_goals (
    rw [oq34])
theorem v_X6_remove_37_2 {K : Nat → Nat} {F : Nat → Nat → Nat} (a : Nat) (G : XG) (p0 : Int32) (p1 : Int32) (x1 : Int32)
    (ha : K a = 8)
    (hro : RO (vw (G.2.1 (F a 0))) (aI (G.2.1 (F a 1))))
    (e0 : 0 ≤ p0.toInt ∧ p0.toInt < 3 ∧ 0 ≤ p1.toInt ∧ p1.toInt < 30)
    (t1 : (x1.toInt = 1 ∧ 0 ≤ p0.toInt ∧ p0.toInt < 3) ∨ (x1.toInt = 0 ∧ (p0.toInt < 0 ∨ 3 ≤ p0.toInt)))
    (c4 : x1.toInt = 0) :
    RO (vw (G.2.1 (F a 0))) (aI (G.2.1 (F a 1))) := by
  first | (exfalso; omega) | skip
  all_goals (
    rw [oq34, c_G34_F_a_1]
    refine RO.fill hro (by omega) (Or.inl rfl) (fun t2 h1 h2 h3 => ?_) (fun j h1 h2 => ?_)
    · rw [hG27, aI_put (by omega) _ h1, if_neg h3]
    · rw [hG27, aI_put (by omega) _ (by omega), if_pos rfl, bI_clr he23 he25 he26 hv20 rfl (by omega) j h1 h2]
      by_cases e : j = p1.toInt
      · rw [if_pos e, if_pos e, if_pos rfl]
      · rw [if_neg e, if_neg e])
theorem v_X6_remove_37_3 {K : Nat → Nat} {F : Nat → Nat → Nat} (a : Nat) (G : XG) (p0 : Int32) (p1 : Int32) (x1 : Int32) (x8 : Int32)
    (ha : K a = 8)
    (e0 : 0 ≤ p0.toInt ∧ p0.toInt < 3 ∧ 0 ≤ p1.toInt ∧ p1.toInt < 30)
    (t1 : (x1.toInt = 1 ∧ 0 ≤ p0.toInt ∧ p0.toInt < 3) ∨ (x1.toInt = 0 ∧ (p0.toInt < 0 ∨ 3 ≤ p0.toInt)))
    (c4 : ¬ (x1.toInt = 0))
    (t8 : (x8.toInt = 1 ∧ 0 ≤ p1.toInt ∧ p1.toInt < 30) ∨ (x8.toInt = 0 ∧ (p1.toInt < 0 ∨ 30 ≤ p1.toInt)))
    (c11 : x8.toInt = 0) :
    (vw (G.2.1 (F a 0))) = rfil (vw (G.2.1 (F a 0))) (p0.toInt) (p1.toInt) (-2000) 3 := by
  first | (exfalso; omega) | skip
  all_goals (
    rw [oq34])
theorem v_X6_remove_37_4 {K : Nat → Nat} {F : Nat → Nat → Nat} (a : Nat) (G : XG) (p0 : Int32) (p1 : Int32) (x1 : Int32) (x8 : Int32)
    (ha : K a = 8)
    (hro : RO (vw (G.2.1 (F a 0))) (aI (G.2.1 (F a 1))))
    (e0 : 0 ≤ p0.toInt ∧ p0.toInt < 3 ∧ 0 ≤ p1.toInt ∧ p1.toInt < 30)
    (t1 : (x1.toInt = 1 ∧ 0 ≤ p0.toInt ∧ p0.toInt < 3) ∨ (x1.toInt = 0 ∧ (p0.toInt < 0 ∨ 3 ≤ p0.toInt)))
    (c4 : ¬ (x1.toInt = 0))
    (t8 : (x8.toInt = 1 ∧ 0 ≤ p1.toInt ∧ p1.toInt < 30) ∨ (x8.toInt = 0 ∧ (p1.toInt < 0 ∨ 30 ≤ p1.toInt)))
    (c11 : x8.toInt = 0) :
    RO (vw (G.2.1 (F a 0))) (aI (G.2.1 (F a 1))) := by
  first | (exfalso; omega) | skip
  all_goals (
    rw [oq34, c_G34_F_a_1]
    refine RO.fill hro (by omega) (Or.inl rfl) (fun t2 h1 h2 h3 => ?_) (fun j h1 h2 => ?_)
    · rw [hG27, aI_put (by omega) _ h1, if_neg h3]
    · rw [hG27, aI_put (by omega) _ (by omega), if_pos rfl, bI_clr he23 he25 he26 hv20 rfl (by omega) j h1 h2]
      by_cases e : j = p1.toInt
      · rw [if_pos e, if_pos e, if_pos rfl]
      · rw [if_neg e, if_neg e])
theorem v_X6_remove_37_5 {K : Nat → Nat} {F : Nat → Nat → Nat} (a : Nat) (G : XG) (p0 : Int32) (x26 : Int32) (G34 : XG) (x20 : Int32) (x23 : Int32) (p1 : Int32) (x25 : Int32) (x1 : Int32) (x8 : Int32)
    (ha : K a = 8)
    (hv20 : x20.toInt = (aI (G.2.1 (F a 1)) (p0.toInt)))
    (he23 : x23 = (1 : Int32) <<< (p1 &&& 31))
    (he25 : x25 = x23 ^^^ (-1))
    (he26 : x26 = x20 &&& x25)
    (oq34 : (vw (G34.2.1 (F a 0))) = rfil (vw (G.2.1 (F a 0))) (p0.toInt) (p1.toInt) (-2000 : Int) 3)
    (e0 : 0 ≤ p0.toInt ∧ p0.toInt < 3 ∧ 0 ≤ p1.toInt ∧ p1.toInt < 30)
    (t1 : (x1.toInt = 1 ∧ 0 ≤ p0.toInt ∧ p0.toInt < 3) ∨ (x1.toInt = 0 ∧ (p0.toInt < 0 ∨ 3 ≤ p0.toInt)))
    (c4 : ¬ (x1.toInt = 0))
    (t8 : (x8.toInt = 1 ∧ 0 ≤ p1.toInt ∧ p1.toInt < 30) ∨ (x8.toInt = 0 ∧ (p1.toInt < 0 ∨ 30 ≤ p1.toInt)))
    (c11 : ¬ (x8.toInt = 0)) :
    (vw (G34.2.1 (F a 0))) = rfil (vw (G.2.1 (F a 0))) (p0.toInt) (p1.toInt) (-2000) 3 := by
  first | (exfalso; omega) | skip
  all_goals (
    rw [oq34])
theorem v_X6_remove_37_6 {K : Nat → Nat} {F : Nat → Nat → Nat} (a : Nat) (G27 : XG) (G : XG) (p0 : Int32) (x26 : Int32) (G34 : XG) (x20 : Int32) (x23 : Int32) (p1 : Int32) (x25 : Int32) (x1 : Int32) (x8 : Int32)
    (ha : K a = 8)
    (hG27 : G27 = cput G (F a 1) p0.toNatClampNeg x26)
    (hro : RO (vw (G.2.1 (F a 0))) (aI (G.2.1 (F a 1))))
    (hv20 : x20.toInt = (aI (G.2.1 (F a 1)) (p0.toInt)))
    (he23 : x23 = (1 : Int32) <<< (p1 &&& 31))
    (he25 : x25 = x23 ^^^ (-1))
    (he26 : x26 = x20 &&& x25)
    (oq34 : (vw (G34.2.1 (F a 0))) = rfil (vw (G.2.1 (F a 0))) (p0.toInt) (p1.toInt) (-2000 : Int) 3)
    (e0 : 0 ≤ p0.toInt ∧ p0.toInt < 3 ∧ 0 ≤ p1.toInt ∧ p1.toInt < 30)
    (t1 : (x1.toInt = 1 ∧ 0 ≤ p0.toInt ∧ p0.toInt < 3) ∨ (x1.toInt = 0 ∧ (p0.toInt < 0 ∨ 3 ≤ p0.toInt)))
    (c4 : ¬ (x1.toInt = 0))
    (t8 : (x8.toInt = 1 ∧ 0 ≤ p1.toInt ∧ p1.toInt < 30) ∨ (x8.toInt = 0 ∧ (p1.toInt < 0 ∨ 30 ≤ p1.toInt)))
    (c11 : ¬ (x8.toInt = 0))
    (c_G34_F_a_1 : G34.2.1 (F a 1) = G27.2.1 (F a 1)) :
    RO (vw (G34.2.1 (F a 0))) (aI (G34.2.1 (F a 1))) := by
  first | (exfalso; omega) | skip
  all_goals (
    rw [oq34, c_G34_F_a_1]
    refine RO.fill hro (by omega) (Or.inl rfl) (fun t2 h1 h2 h3 => ?_) (fun j h1 h2 => ?_)
    · rw [hG27, aI_put (by omega) _ h1, if_neg h3]
    · rw [hG27, aI_put (by omega) _ (by omega), if_pos rfl, bI_clr he23 he25 he26 hv20 rfl (by omega) j h1 h2]
      by_cases e : j = p1.toInt
      · rw [if_pos e, if_pos e, if_pos rfl]
      · rw [if_neg e, if_neg e])
theorem v_X6_change_3_1 {F : Nat → Nat → Nat} (a : Nat) (G : XG)
    (hro : RO (vw (G.2.1 (F a 0))) (aI (G.2.1 (F a 1)))) :
    RO (vw (G.2.1 (F a 0))) (aI (G.2.1 (F a 1))) := by exact hro
theorem v_X6_change_30_2 {K : Nat → Nat} {F : Nat → Nat → Nat} (a : Nat) (G : XG) (p2 : Int32) (p3 : Int32) (p0 : Int32) (p1 : Int32) (x3 : Int32)
    (ha : K a = 8)
    (e0 : 0 ≤ p2.toInt ∧ p2.toInt < 3)
    (e1 : p3.toInt = -1000 ∨ (-99 ≤ p3.toInt ∧ p3.toInt ≤ 99))
    (z0 : (¬ (0 ≤ p0.toInt ∧ p0.toInt < 3 ∧ 0 ≤ p1.toInt ∧ p1.toInt < 30)) → (cel (vw (G.2.1 (F a 0))) (p0.toInt) (p1.toInt) 0) = -2000)
    (t3 : (x3.toInt = 1 ∧ (cel (vw (G.2.1 (F a 0))) (p0.toInt) (p1.toInt) 0) ≠ -2000) ∨ (x3.toInt = 0 ∧ (cel (vw (G.2.1 (F a 0))) (p0.toInt) (p1.toInt) 0) = -2000))
    (c6 : x3.toInt = 0) :
    (vw (G.2.1 (F a 0))) = if cel (vw (G.2.1 (F a 0))) (p0.toInt) (p1.toInt) 0 ≠ -2000 then rset (vw (G.2.1 (F a 0))) (90 * (p0.toInt) + 30 * (p2.toInt) + (p1.toInt)) (p3.toInt) else (vw (G.2.1 (F a 0))) := by
  first | (exfalso; omega) | skip
  all_goals (
    first
      | (rw [if_neg (show ¬ (_ ≠ _) by omega)]; done)
      | (have e1 : G29.2.1 (F a 0) = upd (G.2.1 (F a 0)) x26.toNatClampNeg p3 := by rw [hG29]; show up2 _ _ _ _ _ = _; rw [up2_r, upr_at]
         rw [if_pos (show _ ≠ _ by omega), vw_upd e1 (I := 90 * p0.toInt + 30 * p2.toInt + p1.toInt) (by omega) rfl (by omega)]))
theorem v_X6_change_30_3 {K : Nat → Nat} {F : Nat → Nat → Nat} (a : Nat) (G : XG) (p2 : Int32) (p3 : Int32) (p0 : Int32) (p1 : Int32) (x3 : Int32)
    (ha : K a = 8)
    (hro : RO (vw (G.2.1 (F a 0))) (aI (G.2.1 (F a 1))))
    (e0 : 0 ≤ p2.toInt ∧ p2.toInt < 3)
    (e1 : p3.toInt = -1000 ∨ (-99 ≤ p3.toInt ∧ p3.toInt ≤ 99))
    (z0 : (¬ (0 ≤ p0.toInt ∧ p0.toInt < 3 ∧ 0 ≤ p1.toInt ∧ p1.toInt < 30)) → (cel (vw (G.2.1 (F a 0))) (p0.toInt) (p1.toInt) 0) = -2000)
    (t3 : (x3.toInt = 1 ∧ (cel (vw (G.2.1 (F a 0))) (p0.toInt) (p1.toInt) 0) ≠ -2000) ∨ (x3.toInt = 0 ∧ (cel (vw (G.2.1 (F a 0))) (p0.toInt) (p1.toInt) 0) = -2000))
    (c6 : x3.toInt = 0) :
    RO (vw (G.2.1 (F a 0))) (aI (G.2.1 (F a 1))) := by
  first | (exfalso; omega) | skip
  all_goals (
    first
      | exact hro
      | (have e1 : G29.2.1 (F a 0) = upd (G.2.1 (F a 0)) x26.toNatClampNeg p3 := by rw [hG29]; show up2 _ _ _ _ _ = _; rw [up2_r, upr_at]
         rw [vw_upd e1 (I := 90 * p0.toInt + 30 * p2.toInt + p1.toInt) (by omega) rfl (by omega), c_G29_F_a_1]
         exact hro.set (by omega) (by omega) (by unfold okv; omega) (by omega)))
theorem v_X6_change_30_4 {K : Nat → Nat} {F : Nat → Nat → Nat} (a : Nat) (G : XG) (p2 : Int32) (p3 : Int32) (p0 : Int32) (p1 : Int32) (x3 : Int32) (x10 : Int32)
    (ha : K a = 8)
    (e0 : 0 ≤ p2.toInt ∧ p2.toInt < 3)
    (e1 : p3.toInt = -1000 ∨ (-99 ≤ p3.toInt ∧ p3.toInt ≤ 99))
    (z0 : (¬ (0 ≤ p0.toInt ∧ p0.toInt < 3 ∧ 0 ≤ p1.toInt ∧ p1.toInt < 30)) → (cel (vw (G.2.1 (F a 0))) (p0.toInt) (p1.toInt) 0) = -2000)
    (t3 : (x3.toInt = 1 ∧ (cel (vw (G.2.1 (F a 0))) (p0.toInt) (p1.toInt) 0) ≠ -2000) ∨ (x3.toInt = 0 ∧ (cel (vw (G.2.1 (F a 0))) (p0.toInt) (p1.toInt) 0) = -2000))
    (c6 : ¬ (x3.toInt = 0))
    (t10 : (x10.toInt = 1 ∧ 0 ≤ p2.toInt ∧ p2.toInt < 3) ∨ (x10.toInt = 0 ∧ (p2.toInt < 0 ∨ 3 ≤ p2.toInt)))
    (c13 : x10.toInt = 0) :
    (vw (G.2.1 (F a 0))) = if cel (vw (G.2.1 (F a 0))) (p0.toInt) (p1.toInt) 0 ≠ -2000 then rset (vw (G.2.1 (F a 0))) (90 * (p0.toInt) + 30 * (p2.toInt) + (p1.toInt)) (p3.toInt) else (vw (G.2.1 (F a 0))) := by
  first | (exfalso; omega) | skip
  all_goals (
    first
      | (rw [if_neg (show ¬ (_ ≠ _) by omega)]; done)
      | (have e1 : G29.2.1 (F a 0) = upd (G.2.1 (F a 0)) x26.toNatClampNeg p3 := by rw [hG29]; show up2 _ _ _ _ _ = _; rw [up2_r, upr_at]
         rw [if_pos (show _ ≠ _ by omega), vw_upd e1 (I := 90 * p0.toInt + 30 * p2.toInt + p1.toInt) (by omega) rfl (by omega)]))
theorem v_X6_change_30_5 {K : Nat → Nat} {F : Nat → Nat → Nat} (a : Nat) (G : XG) (p2 : Int32) (p3 : Int32) (p0 : Int32) (p1 : Int32) (x3 : Int32) (x10 : Int32)
    (ha : K a = 8)
    (hro : RO (vw (G.2.1 (F a 0))) (aI (G.2.1 (F a 1))))
    (e0 : 0 ≤ p2.toInt ∧ p2.toInt < 3)
    (e1 : p3.toInt = -1000 ∨ (-99 ≤ p3.toInt ∧ p3.toInt ≤ 99))
    (z0 : (¬ (0 ≤ p0.toInt ∧ p0.toInt < 3 ∧ 0 ≤ p1.toInt ∧ p1.toInt < 30)) → (cel (vw (G.2.1 (F a 0))) (p0.toInt) (p1.toInt) 0) = -2000)
    (t3 : (x3.toInt = 1 ∧ (cel (vw (G.2.1 (F a 0))) (p0.toInt) (p1.toInt) 0) ≠ -2000) ∨ (x3.toInt = 0 ∧ (cel (vw (G.2.1 (F a 0))) (p0.toInt) (p1.toInt) 0) = -2000))
    (c6 : ¬ (x3.toInt = 0))
    (t10 : (x10.toInt = 1 ∧ 0 ≤ p2.toInt ∧ p2.toInt < 3) ∨ (x10.toInt = 0 ∧ (p2.toInt < 0 ∨ 3 ≤ p2.toInt)))
    (c13 : x10.toInt = 0) :
    RO (vw (G.2.1 (F a 0))) (aI (G.2.1 (F a 1))) := by
  first | (exfalso; omega) | skip
  all_goals (
    first
      | exact hro
      | (have e1 : G29.2.1 (F a 0) = upd (G.2.1 (F a 0)) x26.toNatClampNeg p3 := by rw [hG29]; show up2 _ _ _ _ _ = _; rw [up2_r, upr_at]
         rw [vw_upd e1 (I := 90 * p0.toInt + 30 * p2.toInt + p1.toInt) (by omega) rfl (by omega), c_G29_F_a_1]
         exact hro.set (by omega) (by omega) (by unfold okv; omega) (by omega)))
theorem v_X6_change_30_6 {K : Nat → Nat} {F : Nat → Nat → Nat} (a : Nat) (G29 : XG) (G : XG) (x26 : Int32) (p3 : Int32) (p2 : Int32) (p0 : Int32) (p1 : Int32) (x3 : Int32) (x10 : Int32) (x22 : Int32)
    (ha : K a = 8)
    (hG29 : G29 = cput G (F a 0) x26.toNatClampNeg p3)
    (e0 : 0 ≤ p2.toInt ∧ p2.toInt < 3)
    (e1 : p3.toInt = -1000 ∨ (-99 ≤ p3.toInt ∧ p3.toInt ≤ 99))
    (z0 : (¬ (0 ≤ p0.toInt ∧ p0.toInt < 3 ∧ 0 ≤ p1.toInt ∧ p1.toInt < 30)) → (cel (vw (G.2.1 (F a 0))) (p0.toInt) (p1.toInt) 0) = -2000)
    (t3 : (x3.toInt = 1 ∧ (cel (vw (G.2.1 (F a 0))) (p0.toInt) (p1.toInt) 0) ≠ -2000) ∨ (x3.toInt = 0 ∧ (cel (vw (G.2.1 (F a 0))) (p0.toInt) (p1.toInt) 0) = -2000))
    (c6 : ¬ (x3.toInt = 0))
    (t10 : (x10.toInt = 1 ∧ 0 ≤ p2.toInt ∧ p2.toInt < 3) ∨ (x10.toInt = 0 ∧ (p2.toInt < 0 ∨ 3 ≤ p2.toInt)))
    (c13 : ¬ (x10.toInt = 0))
    (t22 : 0 ≤ p0.toInt ∧ p0.toInt < 3 ∧ 0 ≤ p2.toInt ∧ p2.toInt < 3 → x22.toInt = 90 * p0.toInt + 30 * p2.toInt)
    (t26 : x26.toInt = x22.toInt + p1.toInt ∨ x22.toInt + p1.toInt < -2147483648 ∨ 2147483648 ≤ x22.toInt + p1.toInt) :
    (vw (G29.2.1 (F a 0))) = if cel (vw (G.2.1 (F a 0))) (p0.toInt) (p1.toInt) 0 ≠ -2000 then rset (vw (G.2.1 (F a 0))) (90 * (p0.toInt) + 30 * (p2.toInt) + (p1.toInt)) (p3.toInt) else (vw (G.2.1 (F a 0))) := by
  first | (exfalso; omega) | skip
  all_goals (
    first
      | (rw [if_neg (show ¬ (_ ≠ _) by omega)]; done)
      | (have e1 : G29.2.1 (F a 0) = upd (G.2.1 (F a 0)) x26.toNatClampNeg p3 := by rw [hG29]; show up2 _ _ _ _ _ = _; rw [up2_r, upr_at]
         rw [if_pos (show _ ≠ _ by omega), vw_upd e1 (I := 90 * p0.toInt + 30 * p2.toInt + p1.toInt) (by omega) rfl (by omega)]))
theorem v_X6_change_30_7 {K : Nat → Nat} {F : Nat → Nat → Nat} (a : Nat) (G29 : XG) (G : XG) (x26 : Int32) (p3 : Int32) (p2 : Int32) (p0 : Int32) (p1 : Int32) (x3 : Int32) (x10 : Int32) (x22 : Int32)
    (ha : K a = 8)
    (hG29 : G29 = cput G (F a 0) x26.toNatClampNeg p3)
    (hro : RO (vw (G.2.1 (F a 0))) (aI (G.2.1 (F a 1))))
    (e0 : 0 ≤ p2.toInt ∧ p2.toInt < 3)
    (e1 : p3.toInt = -1000 ∨ (-99 ≤ p3.toInt ∧ p3.toInt ≤ 99))
    (z0 : (¬ (0 ≤ p0.toInt ∧ p0.toInt < 3 ∧ 0 ≤ p1.toInt ∧ p1.toInt < 30)) → (cel (vw (G.2.1 (F a 0))) (p0.toInt) (p1.toInt) 0) = -2000)
    (t3 : (x3.toInt = 1 ∧ (cel (vw (G.2.1 (F a 0))) (p0.toInt) (p1.toInt) 0) ≠ -2000) ∨ (x3.toInt = 0 ∧ (cel (vw (G.2.1 (F a 0))) (p0.toInt) (p1.toInt) 0) = -2000))
    (c6 : ¬ (x3.toInt = 0))
    (t10 : (x10.toInt = 1 ∧ 0 ≤ p2.toInt ∧ p2.toInt < 3) ∨ (x10.toInt = 0 ∧ (p2.toInt < 0 ∨ 3 ≤ p2.toInt)))
    (c13 : ¬ (x10.toInt = 0))
    (t22 : 0 ≤ p0.toInt ∧ p0.toInt < 3 ∧ 0 ≤ p2.toInt ∧ p2.toInt < 3 → x22.toInt = 90 * p0.toInt + 30 * p2.toInt)
    (t26 : x26.toInt = x22.toInt + p1.toInt ∨ x22.toInt + p1.toInt < -2147483648 ∨ 2147483648 ≤ x22.toInt + p1.toInt)
    (c_G29_F_a_1 : G29.2.1 (F a 1) = G.2.1 (F a 1)) :
    RO (vw (G29.2.1 (F a 0))) (aI (G29.2.1 (F a 1))) := by
  first | (exfalso; omega) | skip
  all_goals (
    first
      | exact hro
      | (have e1 : G29.2.1 (F a 0) = upd (G.2.1 (F a 0)) x26.toNatClampNeg p3 := by rw [hG29]; show up2 _ _ _ _ _ = _; rw [up2_r, upr_at]
         rw [vw_upd e1 (I := 90 * p0.toInt + 30 * p2.toInt + p1.toInt) (by omega) rfl (by omega), c_G29_F_a_1]
         exact hro.set (by omega) (by omega) (by unfold okv; omega) (by omega)))
