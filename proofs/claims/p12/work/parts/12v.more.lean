theorem v_X6_copy_30_1 {F : Nat → Nat → Nat} (a : Nat) (p0 : Nat) (G13 : XG) (G : XG) (G27 : XG)
    (hG13 : G13 = ccopy G (F a 0) (va_cpy (G.2.1 (F p0 0)) (G.2.1 (F a 0)) (0 : Int32).toNatClampNeg (0 : Int32).toNatClampNeg (270 : Int32).toNatClampNeg))
    (c_G27_F_a_0 : G27.2.1 (F a 0) = G13.2.1 (F a 0)) :
    (vw (G27.2.1 (F a 0))) = (vw (G.2.1 (F p0 0))) := by
  rw [c_G27_F_a_0, ccopy_at hG13]
  exact vw_cpy _ _
theorem v_X6_copy_30_2 {K : Nat → Nat} {F : Nat → Nat → Nat} (a : Nat) (p0 : Nat) (G13 : XG) (G : XG) (G27 : XG)
    (ha : K a = 8)
    (hp0 : K p0 = 8)
    (hG13 : G13 = ccopy G (F a 0) (va_cpy (G.2.1 (F p0 0)) (G.2.1 (F a 0)) (0 : Int32).toNatClampNeg (0 : Int32).toNatClampNeg (270 : Int32).toNatClampNeg))
    (hG27 : G27 = ccopy G13 (F a 1) (va_cpy (G13.2.1 (F p0 1)) (G13.2.1 (F a 1)) (0 : Int32).toNatClampNeg (0 : Int32).toNatClampNeg (3 : Int32).toNatClampNeg))
    (hro : RO (vw (G.2.1 (F p0 0))) (aI (G.2.1 (F p0 1))))
    (c_G13_F_p0_1 : G13.2.1 (F p0 1) = G.2.1 (F p0 1))
    (c_G27_F_a_0 : G27.2.1 (F a 0) = G13.2.1 (F a 0)) :
    RO (vw (G27.2.1 (F a 0))) (aI (G27.2.1 (F a 1))) := by
  rw [c_G27_F_a_0, ccopy_at hG13, ccopy_at hG27, c_G13_F_p0_1]
  rw [show vw (va_cpy (G.2.1 (F p0 0)) (G.2.1 (F a 0)) (0 : Int32).toNatClampNeg (0 : Int32).toNatClampNeg (270 : Int32).toNatClampNeg) = vw (G.2.1 (F p0 0)) from vw_cpy _ _]
  exact hro.congr (fun t h1 h2 => aI_cpy _ _ 3 (by omega))
theorem v_X6_move_3_1 {F : Nat → Nat → Nat} (a : Nat) (G : XG)
    (hro : RO (vw (G.2.1 (F a 0))) (aI (G.2.1 (F a 1)))) :
    RO (vw (G.2.1 (F a 0))) (aI (G.2.1 (F a 1))) := by exact hro
theorem v_X6_move_25_2 {F : Nat → Nat → Nat} (a : Nat) (G : XG)
    (hro : RO (vw (G.2.1 (F a 0))) (aI (G.2.1 (F a 1)))) :
    RO (vw (G.2.1 (F a 0))) (aI (G.2.1 (F a 1))) := by
  exact hro
theorem v_X6_move_62_3 {F : Nat → Nat → Nat} (a : Nat) (G_31 : XG)
    (pr : RO (vw (G_31.2.1 (F a 0))) (aI (G_31.2.1 (F a 1)))) :
    RO (vw (G_31.2.1 (F a 0))) (aI (G_31.2.1 (F a 1))) := by
  exact pr
theorem v_X6_move_65_4 {K : Nat → Nat} {F : Nat → Nat → Nat} (a : Nat) (G : XG) (G_31 : XG) (G62 : XG) (p0 : Int32) (p2 : Int32) (p1 : Int32) (l4_31 : Int32) (x3 : Int32) (x10 : Int32) (N31 : Nat)
    (ha : K a = 8)
    (pm : vw (G_31.2.1 (F a 0)) = rmc (vw (G.2.1 (F a 0))) (p0.toInt) (p1.toInt) (p2.toInt) (l4_31.toInt))
    (oq62 : (vw (G62.2.1 (F a 0))) = rfil (vw (G_31.2.1 (F a 0))) (p0.toInt) (p1.toInt) (-2000) 3)
    (e0 : 0 ≤ p0.toInt ∧ p0.toInt < 3 ∧ 0 ≤ p1.toInt ∧ p1.toInt < 30 ∧ 0 ≤ p2.toInt ∧ p2.toInt < 30 ∧ p1.toInt ≠ p2.toInt)
    (e1 : (cel (vw (G.2.1 (F a 0))) (p0.toInt) (p1.toInt) 0) ≠ -2000)
    (t3 : (x3.toInt = 1 ∧ (cel (vw (G.2.1 (F a 0))) (p0.toInt) (p1.toInt) 0) ≠ -2000) ∨ (x3.toInt = 0 ∧ (cel (vw (G.2.1 (F a 0))) (p0.toInt) (p1.toInt) 0) = -2000))
    (c6 : ¬ (x3.toInt = 0))
    (t10 : (x10.toInt = 1 ∧ 0 ≤ p2.toInt ∧ p2.toInt < 30) ∨ (x10.toInt = 0 ∧ (p2.toInt < 0 ∨ 30 ≤ p2.toInt)))
    (c13 : ¬ (x10.toInt = 0))
    (c18 : p2.toInt ≠ p1.toInt)
    (I31_0 : 0 ≤ l4_31.toInt ∧ l4_31.toInt ≤ 3)
    (I31_1 : (0 : Int) ≤ l4_31.toInt)
    (hm31 : 2147483648 - l4_31.toInt < (((N31) + 1 : Nat) : Int))
    (c34 : (3 : Int) ≤ l4_31.toInt) :
    (vw (G62.2.1 (F a 0))) = rmv (vw (G.2.1 (F a 0))) (p0.toInt) (p1.toInt) (p2.toInt) := by
  rw [oq62, pm, show l4_31.toInt = 3 from by omega]
  exact rmc_3 _ _ _ _ (by omega)
theorem v_X6_move_65_5 {F : Nat → Nat → Nat} (a : Nat) (G62 : XG)
    (oq62a : RO (vw (G62.2.1 (F a 0))) (aI (G62.2.1 (F a 1)))) :
    RO (vw (G62.2.1 (F a 0))) (aI (G62.2.1 (F a 1))) := by
  exact oq62a
theorem v_X6_move_50_6 {F : Nat → Nat → Nat} (a : Nat) (G_31 : XG)
    (pr : RO (vw (G_31.2.1 (F a 0))) (aI (G_31.2.1 (F a 1)))) :
    RO (vw (G_31.2.1 (F a 0))) (aI (G_31.2.1 (F a 1))) := by
  exact pr
theorem v_X6_move_56_7 {K : Nat → Nat} {F : Nat → Nat → Nat} (a : Nat) (G : XG) (G_31 : XG) (G50 : XG) (p0 : Int32) (p2 : Int32) (p1 : Int32) (l4_31 : Int32) (x3 : Int32) (x10 : Int32) (N31 : Nat)
    (ha : K a = 8)
    (pm : vw (G_31.2.1 (F a 0)) = rmc (vw (G.2.1 (F a 0))) (p0.toInt) (p1.toInt) (p2.toInt) (l4_31.toInt))
    (oq50 : (vw (G50.2.1 (F a 0))) = if cel (vw (G_31.2.1 (F a 0))) (p0.toInt) (p2.toInt) 0 ≠ -2000 then rset (vw (G_31.2.1 (F a 0))) (90 * (p0.toInt) + 30 * (l4_31.toInt) + (p2.toInt)) ((cel (vw (G_31.2.1 (F a 0))) (p0.toInt) (p1.toInt) (l4_31.toInt))) else (vw (G_31.2.1 (F a 0))))
    (e0 : 0 ≤ p0.toInt ∧ p0.toInt < 3 ∧ 0 ≤ p1.toInt ∧ p1.toInt < 30 ∧ 0 ≤ p2.toInt ∧ p2.toInt < 30 ∧ p1.toInt ≠ p2.toInt)
    (e1 : (cel (vw (G.2.1 (F a 0))) (p0.toInt) (p1.toInt) 0) ≠ -2000)
    (t3 : (x3.toInt = 1 ∧ (cel (vw (G.2.1 (F a 0))) (p0.toInt) (p1.toInt) 0) ≠ -2000) ∨ (x3.toInt = 0 ∧ (cel (vw (G.2.1 (F a 0))) (p0.toInt) (p1.toInt) 0) = -2000))
    (c6 : ¬ (x3.toInt = 0))
    (t10 : (x10.toInt = 1 ∧ 0 ≤ p2.toInt ∧ p2.toInt < 30) ∨ (x10.toInt = 0 ∧ (p2.toInt < 0 ∨ 30 ≤ p2.toInt)))
    (c13 : ¬ (x10.toInt = 0))
    (c18 : p2.toInt ≠ p1.toInt)
    (I31_0 : 0 ≤ l4_31.toInt ∧ l4_31.toInt ≤ 3)
    (I31_1 : (0 : Int) ≤ l4_31.toInt)
    (hm31 : 2147483648 - l4_31.toInt < (((N31) + 1 : Nat) : Int))
    (c34 : ¬ ((3 : Int) ≤ l4_31.toInt))
    (z50 : (cel (vw (G_31.2.1 (F a 0))) (p0.toInt) (p1.toInt) (l4_31.toInt)) = -1000 ∨ (-99 ≤ (cel (vw (G_31.2.1 (F a 0))) (p0.toInt) (p1.toInt) (l4_31.toInt)) ∧ (cel (vw (G_31.2.1 (F a 0))) (p0.toInt) (p1.toInt) (l4_31.toInt)) ≤ 99)) :
    vw (G50.2.1 (F a 0)) = rmc (vw (G.2.1 (F a 0))) (p0.toInt) (p1.toInt) (p2.toInt) (l4_31.toInt + 1) := by
  rw [oq50, pm, if_pos (rmc_has (by omega) e1), ← rmc_s _ _ _ _ _ (by omega), rmc_cel (by omega), cel_in (by omega)]
theorem v_X6_move_56_8 {F : Nat → Nat → Nat} (a : Nat) (G50 : XG)
    (oq50a : RO (vw (G50.2.1 (F a 0))) (aI (G50.2.1 (F a 1)))) :
    RO (vw (G50.2.1 (F a 0))) (aI (G50.2.1 (F a 1))) := by
  exact oq50a
theorem v_X6_move_29_9 {F : Nat → Nat → Nat} (a : Nat) (G : XG) (G25 : XG) (p0 : Int32) (p2 : Int32) (p1 : Int32)
    (oq25 : (vw (G25.2.1 (F a 0))) = rfil (vw (G.2.1 (F a 0))) (p0.toInt) (p2.toInt) (-1000) 3) :
    vw (G25.2.1 (F a 0)) = rmc (vw (G.2.1 (F a 0))) (p0.toInt) (p1.toInt) (p2.toInt) (0 : Int) := by
  rw [oq25]; exact (rmc_0 _ _ _ _).symm
theorem v_X6_move_29_10 {F : Nat → Nat → Nat} (a : Nat) (G25 : XG)
    (oq25a : RO (vw (G25.2.1 (F a 0))) (aI (G25.2.1 (F a 1)))) :
    RO (vw (G25.2.1 (F a 0))) (aI (G25.2.1 (F a 1))) := by
  exact oq25a
theorem v_X0_enter_30_1 {K : Nat → Nat} {F : Nat → Nat → Nat} (a : Nat) (p0 : Nat) (G : XG)
    (ha : K a = 2)
    (hp0 : K p0 = 9)
    (e0 : 0 ≤ ((G.1 p0 1).toInt) ∧ ((G.1 p0 1).toInt) ≤ 11)
    (c4 : ((G.1 p0 1).toInt) < 0) :
    ∀ i : Nat, G.2.2.1 (F a 0) i = if i = (((G.1 p0 1).toInt)).toNat then some p0 else G.2.2.1 (F a 0) i := by
  first | (exfalso; omega) | skip
  all_goals (
    intro i
    rw [r_G27_F_a_0, rput_j hG25])
theorem v_X0_enter_30_2 {K : Nat → Nat} {F : Nat → Nat → Nat} (a : Nat) (p0 : Nat) (G : XG)
    (ha : K a = 2)
    (hp0 : K p0 = 9)
    (e0 : 0 ≤ ((G.1 p0 1).toInt) ∧ ((G.1 p0 1).toInt) ≤ 11)
    (c4 : ((G.1 p0 1).toInt) < 0) :
    BO G F a := by
  first | (exfalso; omega) | skip
  all_goals (
    exact BO.arr hF27 (fun b => by simp) r_G27_F_a_0 oq27)
theorem v_X0_enter_30_3 {K : Nat → Nat} {F : Nat → Nat → Nat} (a : Nat) (p0 : Nat) (G : XG)
    (ha : K a = 2)
    (hp0 : K p0 = 9)
    (e0 : 0 ≤ ((G.1 p0 1).toInt) ∧ ((G.1 p0 1).toInt) ≤ 11)
    (c4 : ((G.1 p0 1).toInt) < 0) :
    ∀ (i q : Nat), G.2.2.1 (F a 1) i = some q → (∃ j : Nat, G.2.2.1 (F a 1) j = some q) ∨ ∃ j : Nat, G.2.2.1 (F a 0) j = some q := by
  first | (exfalso; omega) | skip
  all_goals (
    intro i q h
    rcases oq27a i q h with ⟨j, e⟩ | ⟨j, e⟩
    · left; exact ⟨j, by rw [← r_G25_F_a_1]; exact e⟩
    · right; exact ⟨j, by rw [r_G27_F_a_0]; exact e⟩)
theorem v_X0_enter_30_4 {K : Nat → Nat} {F : Nat → Nat → Nat} (a : Nat) (p0 : Nat) (G : XG)
    (ha : K a = 2)
    (hp0 : K p0 = 9)
    (e0 : 0 ≤ ((G.1 p0 1).toInt) ∧ ((G.1 p0 1).toInt) ≤ 11)
    (c4 : ¬ (((G.1 p0 1).toInt) < 0))
    (c13 : (12 : Int) ≤ ((G.1 p0 1).toInt)) :
    ∀ i : Nat, G.2.2.1 (F a 0) i = if i = (((G.1 p0 1).toInt)).toNat then some p0 else G.2.2.1 (F a 0) i := by
  first | (exfalso; omega) | skip
  all_goals (
    intro i
    rw [r_G27_F_a_0, rput_j hG25])
theorem v_X0_enter_30_5 {K : Nat → Nat} {F : Nat → Nat → Nat} (a : Nat) (p0 : Nat) (G : XG)
    (ha : K a = 2)
    (hp0 : K p0 = 9)
    (e0 : 0 ≤ ((G.1 p0 1).toInt) ∧ ((G.1 p0 1).toInt) ≤ 11)
    (c4 : ¬ (((G.1 p0 1).toInt) < 0))
    (c13 : (12 : Int) ≤ ((G.1 p0 1).toInt)) :
    BO G F a := by
  first | (exfalso; omega) | skip
  all_goals (
    exact BO.arr hF27 (fun b => by simp) r_G27_F_a_0 oq27)
theorem v_X0_enter_30_6 {K : Nat → Nat} {F : Nat → Nat → Nat} (a : Nat) (p0 : Nat) (G : XG)
    (ha : K a = 2)
    (hp0 : K p0 = 9)
    (e0 : 0 ≤ ((G.1 p0 1).toInt) ∧ ((G.1 p0 1).toInt) ≤ 11)
    (c4 : ¬ (((G.1 p0 1).toInt) < 0))
    (c13 : (12 : Int) ≤ ((G.1 p0 1).toInt)) :
    ∀ (i q : Nat), G.2.2.1 (F a 1) i = some q → (∃ j : Nat, G.2.2.1 (F a 1) j = some q) ∨ ∃ j : Nat, G.2.2.1 (F a 0) j = some q := by
  first | (exfalso; omega) | skip
  all_goals (
    intro i q h
    rcases oq27a i q h with ⟨j, e⟩ | ⟨j, e⟩
    · left; exact ⟨j, by rw [← r_G25_F_a_1]; exact e⟩
    · right; exact ⟨j, by rw [r_G27_F_a_0]; exact e⟩)
theorem v_X0_enter_30_7 {K : Nat → Nat} {F : Nat → Nat → Nat} (a : Nat) (p0 : Nat) (G25 : XG) (G : XG) (G27 : XG)
    (ha : K a = 2)
    (hp0 : K p0 = 9)
    (hG25 : G25 = rput G (F a 0) (G.1 p0 1).toInt.toNat (some p0))
    (oq27 : ORn (G25.2.2.1 (F a 0)) (G27.2.2.1 (F a 1)) ((G27.1 a 2).toInt) (fun i => rkO G25 (G25.2.2.1 (F a 0) i)) 12)
    (e0 : 0 ≤ ((G.1 p0 1).toInt) ∧ ((G.1 p0 1).toInt) ≤ 11)
    (c4 : ¬ (((G.1 p0 1).toInt) < 0))
    (c13 : ¬ ((12 : Int) ≤ ((G.1 p0 1).toInt)))
    (r_G27_F_a_0 : G27.2.2.1 (F a 0) = G25.2.2.1 (F a 0)) :
    ∀ i : Nat, G27.2.2.1 (F a 0) i = if i = (((G.1 p0 1).toInt)).toNat then some p0 else G.2.2.1 (F a 0) i := by
  first | (exfalso; omega) | skip
  all_goals (
    intro i
    rw [r_G27_F_a_0, rput_j hG25])
theorem v_X0_enter_30_8 {K : Nat → Nat} {F : Nat → Nat → Nat} (a : Nat) (p0 : Nat) (G25 : XG) (G : XG) (G27 : XG)
    (ha : K a = 2)
    (hp0 : K p0 = 9)
    (hF27 : XFr [(a, 2)] [] [F a 1] G25 G27)
    (oq27 : ORn (G25.2.2.1 (F a 0)) (G27.2.2.1 (F a 1)) ((G27.1 a 2).toInt) (fun i => rkO G25 (G25.2.2.1 (F a 0) i)) 12)
    (e0 : 0 ≤ ((G.1 p0 1).toInt) ∧ ((G.1 p0 1).toInt) ≤ 11)
    (c4 : ¬ (((G.1 p0 1).toInt) < 0))
    (c13 : ¬ ((12 : Int) ≤ ((G.1 p0 1).toInt)))
    (r_G27_F_a_0 : G27.2.2.1 (F a 0) = G25.2.2.1 (F a 0)) :
    BO G27 F a := by
  first | (exfalso; omega) | skip
  all_goals (
    exact BO.arr hF27 (fun b => by simp) r_G27_F_a_0 oq27)
theorem v_X0_enter_30_9 {K : Nat → Nat} {F : Nat → Nat → Nat} (a : Nat) (p0 : Nat) (G25 : XG) (G : XG) (G27 : XG)
    (ha : K a = 2)
    (hp0 : K p0 = 9)
    (oq27 : ORn (G25.2.2.1 (F a 0)) (G27.2.2.1 (F a 1)) ((G27.1 a 2).toInt) (fun i => rkO G25 (G25.2.2.1 (F a 0) i)) 12)
    (oq27a : ∀ (i q : Nat), G27.2.2.1 (F a 1) i = some q → (∃ j : Nat, G25.2.2.1 (F a 1) j = some q) ∨ ∃ j : Nat, G25.2.2.1 (F a 0) j = some q)
    (e0 : 0 ≤ ((G.1 p0 1).toInt) ∧ ((G.1 p0 1).toInt) ≤ 11)
    (c4 : ¬ (((G.1 p0 1).toInt) < 0))
    (c13 : ¬ ((12 : Int) ≤ ((G.1 p0 1).toInt)))
    (r_G25_F_a_1 : G25.2.2.1 (F a 1) = G.2.2.1 (F a 1))
    (r_G27_F_a_0 : G27.2.2.1 (F a 0) = G25.2.2.1 (F a 0)) :
    ∀ (i q : Nat), G27.2.2.1 (F a 1) i = some q → (∃ j : Nat, G.2.2.1 (F a 1) j = some q) ∨ ∃ j : Nat, G27.2.2.1 (F a 0) j = some q := by
  first | (exfalso; omega) | skip
  all_goals (
    intro i q h
    rcases oq27a i q h with ⟨j, e⟩ | ⟨j, e⟩
    · left; exact ⟨j, by rw [← r_G25_F_a_1]; exact e⟩
    · right; exact ⟨j, by rw [r_G27_F_a_0]; exact e⟩)
theorem v_X0_strike_21_1 {K : Nat → Nat} {F : Nat → Nat → Nat} (a : Nat) (p0 : Int32) (G : XG)
    (ha : K a = 2)
    (e0 : 0 ≤ p0.toInt ∧ p0.toInt ≤ 11)
    (c1 : p0.toInt < 0) :
    ∀ i : Nat, G.2.2.1 (F a 0) i = if i = (p0.toInt).toNat then none else G.2.2.1 (F a 0) i := by
  first | (exfalso; omega) | skip
  all_goals (
    intro i
    rw [r_G18_F_a_0, rput_j hG16])
theorem v_X0_strike_21_2 {K : Nat → Nat} {F : Nat → Nat → Nat} (a : Nat) (p0 : Int32) (G : XG)
    (ha : K a = 2)
    (e0 : 0 ≤ p0.toInt ∧ p0.toInt ≤ 11)
    (c1 : p0.toInt < 0) :
    BO G F a := by
  first | (exfalso; omega) | skip
  all_goals (
    exact BO.arr hF18 (fun b => by simp) r_G18_F_a_0 oq18)
theorem v_X0_strike_21_3 {K : Nat → Nat} {F : Nat → Nat → Nat} (a : Nat) (p0 : Int32) (G : XG)
    (ha : K a = 2)
    (e0 : 0 ≤ p0.toInt ∧ p0.toInt ≤ 11)
    (c1 : p0.toInt < 0) :
    ∀ (i q : Nat), G.2.2.1 (F a 1) i = some q → (∃ j : Nat, G.2.2.1 (F a 1) j = some q) ∨ ∃ j : Nat, G.2.2.1 (F a 0) j = some q := by
  first | (exfalso; omega) | skip
  all_goals (
    intro i q h
    rcases oq18a i q h with ⟨j, e⟩ | ⟨j, e⟩
    · left; exact ⟨j, by rw [← r_G16_F_a_1]; exact e⟩
    · right; exact ⟨j, by rw [r_G18_F_a_0]; exact e⟩)
theorem v_X0_strike_21_4 {K : Nat → Nat} {F : Nat → Nat → Nat} (a : Nat) (p0 : Int32) (G : XG)
    (ha : K a = 2)
    (e0 : 0 ≤ p0.toInt ∧ p0.toInt ≤ 11)
    (c1 : ¬ (p0.toInt < 0))
    (c7 : (12 : Int) ≤ p0.toInt) :
    ∀ i : Nat, G.2.2.1 (F a 0) i = if i = (p0.toInt).toNat then none else G.2.2.1 (F a 0) i := by
  first | (exfalso; omega) | skip
  all_goals (
    intro i
    rw [r_G18_F_a_0, rput_j hG16])
theorem v_X0_strike_21_5 {K : Nat → Nat} {F : Nat → Nat → Nat} (a : Nat) (p0 : Int32) (G : XG)
    (ha : K a = 2)
    (e0 : 0 ≤ p0.toInt ∧ p0.toInt ≤ 11)
    (c1 : ¬ (p0.toInt < 0))
    (c7 : (12 : Int) ≤ p0.toInt) :
    BO G F a := by
  first | (exfalso; omega) | skip
  all_goals (
    exact BO.arr hF18 (fun b => by simp) r_G18_F_a_0 oq18)
theorem v_X0_strike_21_6 {K : Nat → Nat} {F : Nat → Nat → Nat} (a : Nat) (p0 : Int32) (G : XG)
    (ha : K a = 2)
    (e0 : 0 ≤ p0.toInt ∧ p0.toInt ≤ 11)
    (c1 : ¬ (p0.toInt < 0))
    (c7 : (12 : Int) ≤ p0.toInt) :
    ∀ (i q : Nat), G.2.2.1 (F a 1) i = some q → (∃ j : Nat, G.2.2.1 (F a 1) j = some q) ∨ ∃ j : Nat, G.2.2.1 (F a 0) j = some q := by
  first | (exfalso; omega) | skip
  all_goals (
    intro i q h
    rcases oq18a i q h with ⟨j, e⟩ | ⟨j, e⟩
    · left; exact ⟨j, by rw [← r_G16_F_a_1]; exact e⟩
    · right; exact ⟨j, by rw [r_G18_F_a_0]; exact e⟩)
theorem v_X0_strike_21_7 {K : Nat → Nat} {F : Nat → Nat → Nat} (a : Nat) (G16 : XG) (G : XG) (p0 : Int32) (G18 : XG)
    (ha : K a = 2)
    (hG16 : G16 = rput G (F a 0) p0.toInt.toNat none)
    (oq18 : ORn (G16.2.2.1 (F a 0)) (G18.2.2.1 (F a 1)) ((G18.1 a 2).toInt) (fun i => rkO G16 (G16.2.2.1 (F a 0) i)) 12)
    (e0 : 0 ≤ p0.toInt ∧ p0.toInt ≤ 11)
    (c1 : ¬ (p0.toInt < 0))
    (c7 : ¬ ((12 : Int) ≤ p0.toInt))
    (r_G18_F_a_0 : G18.2.2.1 (F a 0) = G16.2.2.1 (F a 0)) :
    ∀ i : Nat, G18.2.2.1 (F a 0) i = if i = (p0.toInt).toNat then none else G.2.2.1 (F a 0) i := by
  first | (exfalso; omega) | skip
  all_goals (
    intro i
    rw [r_G18_F_a_0, rput_j hG16])
theorem v_X0_strike_21_8 {K : Nat → Nat} {F : Nat → Nat → Nat} (a : Nat) (G16 : XG) (p0 : Int32) (G18 : XG)
    (ha : K a = 2)
    (hF18 : XFr [(a, 2)] [] [F a 1] G16 G18)
    (oq18 : ORn (G16.2.2.1 (F a 0)) (G18.2.2.1 (F a 1)) ((G18.1 a 2).toInt) (fun i => rkO G16 (G16.2.2.1 (F a 0) i)) 12)
    (e0 : 0 ≤ p0.toInt ∧ p0.toInt ≤ 11)
    (c1 : ¬ (p0.toInt < 0))
    (c7 : ¬ ((12 : Int) ≤ p0.toInt))
    (r_G18_F_a_0 : G18.2.2.1 (F a 0) = G16.2.2.1 (F a 0)) :
    BO G18 F a := by
  first | (exfalso; omega) | skip
  all_goals (
    exact BO.arr hF18 (fun b => by simp) r_G18_F_a_0 oq18)
theorem v_X0_strike_21_9 {K : Nat → Nat} {F : Nat → Nat → Nat} (a : Nat) (G16 : XG) (G : XG) (p0 : Int32) (G18 : XG)
    (ha : K a = 2)
    (oq18 : ORn (G16.2.2.1 (F a 0)) (G18.2.2.1 (F a 1)) ((G18.1 a 2).toInt) (fun i => rkO G16 (G16.2.2.1 (F a 0) i)) 12)
    (oq18a : ∀ (i q : Nat), G18.2.2.1 (F a 1) i = some q → (∃ j : Nat, G16.2.2.1 (F a 1) j = some q) ∨ ∃ j : Nat, G16.2.2.1 (F a 0) j = some q)
    (e0 : 0 ≤ p0.toInt ∧ p0.toInt ≤ 11)
    (c1 : ¬ (p0.toInt < 0))
    (c7 : ¬ ((12 : Int) ≤ p0.toInt))
    (r_G16_F_a_1 : G16.2.2.1 (F a 1) = G.2.2.1 (F a 1))
    (r_G18_F_a_0 : G18.2.2.1 (F a 0) = G16.2.2.1 (F a 0)) :
    ∀ (i q : Nat), G18.2.2.1 (F a 1) i = some q → (∃ j : Nat, G.2.2.1 (F a 1) j = some q) ∨ ∃ j : Nat, G18.2.2.1 (F a 0) j = some q := by
  first | (exfalso; omega) | skip
  all_goals (
    intro i q h
    rcases oq18a i q h with ⟨j, e⟩ | ⟨j, e⟩
    · left; exact ⟨j, by rw [← r_G16_F_a_1]; exact e⟩
    · right; exact ⟨j, by rw [r_G18_F_a_0]; exact e⟩)
