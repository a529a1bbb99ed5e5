theorem v_X2_replace_49_1 {K : Nat → Nat} {F : Nat → Nat → Nat} (p0 : Nat) (p1 : Nat) (G : XG) (G_3 : XG) (p2 : Int32) (p3 : Int32) (l4_3 : Int32) (N3 : Nat)
    (hp0 : K p0 = 8)
    (hp1 : K p1 = 9)
    (rp : (vw (G_3.2.1 (F p0 0))) = repl (vw (G.2.1 (F p0 0))) ((G.1 p1 2).toInt) ((G.1 p1 3).toInt) p2.toInt p3.toInt (l4_3.toInt))
    (e0 : 0 ≤ p2.toInt ∧ p2.toInt < 30)
    (e1 : p3.toInt = -1000 ∨ (-99 ≤ p3.toInt ∧ p3.toInt ≤ 99))
    (z0 : (0 ≤ ((G.1 p1 2).toInt) ∧ ((G.1 p1 2).toInt) ≤ 2) ∧ (0 ≤ ((G.1 p1 3).toInt) ∧ ((G.1 p1 3).toInt) ≤ 2))
    (I3_0 : 0 ≤ l4_3.toInt ∧ l4_3.toInt ≤ 30)
    (I3_1 : (0 : Int) ≤ l4_3.toInt)
    (hm3 : 2147483648 - l4_3.toInt < (((N3) + 1 : Nat) : Int))
    (c7 : (30 : Int) ≤ l4_3.toInt) :
    (vw (G_3.2.1 (F p0 0))) = repl (vw (G.2.1 (F p0 0))) ((G.1 p1 2).toInt) ((G.1 p1 3).toInt) p2.toInt p3.toInt 30 := by
  rw [rp, show l4_3.toInt = 30 from by omega]
theorem v_X2_replace_49_2 {F : Nat → Nat → Nat} (p0 : Nat) (G_3 : XG)
    (ro : RO (vw (G_3.2.1 (F p0 0))) (aI (G_3.2.1 (F p0 1)))) :
    RO (vw (G_3.2.1 (F p0 0))) (aI (G_3.2.1 (F p0 1))) := by
  exact ro
theorem v_X2_replace_46_3 {K : Nat → Nat} {F : Nat → Nat → Nat} (p0 : Nat) (p1 : Nat) (G : XG) (G_3 : XG) (p2 : Int32) (p3 : Int32) (l4_3 : Int32) (N3 : Nat)
    (hp0 : K p0 = 8)
    (hp1 : K p1 = 9)
    (rp : (vw (G_3.2.1 (F p0 0))) = repl (vw (G.2.1 (F p0 0))) ((G.1 p1 2).toInt) ((G.1 p1 3).toInt) p2.toInt p3.toInt (l4_3.toInt))
    (ro : RO (vw (G_3.2.1 (F p0 0))) (aI (G_3.2.1 (F p0 1))))
    (e0 : 0 ≤ p2.toInt ∧ p2.toInt < 30)
    (e1 : p3.toInt = -1000 ∨ (-99 ≤ p3.toInt ∧ p3.toInt ≤ 99))
    (z0 : (0 ≤ ((G.1 p1 2).toInt) ∧ ((G.1 p1 2).toInt) ≤ 2) ∧ (0 ≤ ((G.1 p1 3).toInt) ∧ ((G.1 p1 3).toInt) ≤ 2))
    (I3_0 : 0 ≤ l4_3.toInt ∧ l4_3.toInt ≤ 30)
    (I3_1 : (0 : Int) ≤ l4_3.toInt)
    (hm3 : 2147483648 - l4_3.toInt < (((N3) + 1 : Nat) : Int))
    (c7 : ¬ ((30 : Int) ≤ l4_3.toInt))
    (c25 : (cel (vw (G_3.2.1 (F p0 0))) ((G.1 p1 2).toInt) (l4_3.toInt) ((G.1 p1 3).toInt)) ≠ p2.toInt) :
    (vw (G_3.2.1 (F p0 0))) = repl (vw (G.2.1 (F p0 0))) ((G.1 p1 2).toInt) ((G.1 p1 3).toInt) p2.toInt p3.toInt (l4_3.toInt + 1) := by
  have ec : cel (vw (G_3.2.1 (F p0 0))) ((G.1 p1 2).toInt) (l4_3.toInt) ((G.1 p1 3).toInt) = vw (G.2.1 (F p0 0)) (90 * (G.1 p1 2).toInt + 30 * (G.1 p1 3).toInt + l4_3.toInt) := by
    rw [rp, cel_in (by omega), repl_at (Int.le_refl _)]
  have ab := ro.absent ((G.1 p1 2).toInt) (l4_3.toInt) ((G.1 p1 3).toInt) (by omega)
  first
    | (rw [repl_2 (by omega)]; exact rp)
    | (rw [oq40, if_pos (by omega), rp, repl_1 (by omega) (by omega)])
theorem v_X2_replace_46_4 {F : Nat → Nat → Nat} (p0 : Nat) (G_3 : XG)
    (ro : RO (vw (G_3.2.1 (F p0 0))) (aI (G_3.2.1 (F p0 1)))) :
    RO (vw (G_3.2.1 (F p0 0))) (aI (G_3.2.1 (F p0 1))) := by
  first
    | exact ro
    | (rw [← c_G40_F_p0_1]; exact oq40a)
theorem v_X2_replace_40_5 {F : Nat → Nat → Nat} (p0 : Nat) (G_3 : XG)
    (ro : RO (vw (G_3.2.1 (F p0 0))) (aI (G_3.2.1 (F p0 1)))) :
    RO (vw (G_3.2.1 (F p0 0))) (aI (G_3.2.1 (F p0 1))) := by exact ro
theorem v_X2_replace_46_6 {K : Nat → Nat} {F : Nat → Nat → Nat} (p0 : Nat) (p1 : Nat) (G : XG) (G_3 : XG) (G40 : XG) (p2 : Int32) (p3 : Int32) (l4_3 : Int32) (N3 : Nat)
    (hp0 : K p0 = 8)
    (hp1 : K p1 = 9)
    (rp : (vw (G_3.2.1 (F p0 0))) = repl (vw (G.2.1 (F p0 0))) ((G.1 p1 2).toInt) ((G.1 p1 3).toInt) p2.toInt p3.toInt (l4_3.toInt))
    (ro : RO (vw (G_3.2.1 (F p0 0))) (aI (G_3.2.1 (F p0 1))))
    (oq40 : (vw (G40.2.1 (F p0 0))) = if cel (vw (G_3.2.1 (F p0 0))) (((G.1 p1 2).toInt)) (l4_3.toInt) 0 ≠ -2000 then rset (vw (G_3.2.1 (F p0 0))) (90 * (((G.1 p1 2).toInt)) + 30 * (((G.1 p1 3).toInt)) + (l4_3.toInt)) (p3.toInt) else (vw (G_3.2.1 (F p0 0))))
    (e0 : 0 ≤ p2.toInt ∧ p2.toInt < 30)
    (e1 : p3.toInt = -1000 ∨ (-99 ≤ p3.toInt ∧ p3.toInt ≤ 99))
    (z0 : (0 ≤ ((G.1 p1 2).toInt) ∧ ((G.1 p1 2).toInt) ≤ 2) ∧ (0 ≤ ((G.1 p1 3).toInt) ∧ ((G.1 p1 3).toInt) ≤ 2))
    (I3_0 : 0 ≤ l4_3.toInt ∧ l4_3.toInt ≤ 30)
    (I3_1 : (0 : Int) ≤ l4_3.toInt)
    (hm3 : 2147483648 - l4_3.toInt < (((N3) + 1 : Nat) : Int))
    (c7 : ¬ ((30 : Int) ≤ l4_3.toInt))
    (c25 : ¬ ((cel (vw (G_3.2.1 (F p0 0))) ((G.1 p1 2).toInt) (l4_3.toInt) ((G.1 p1 3).toInt)) ≠ p2.toInt)) :
    (vw (G40.2.1 (F p0 0))) = repl (vw (G.2.1 (F p0 0))) ((G.1 p1 2).toInt) ((G.1 p1 3).toInt) p2.toInt p3.toInt (l4_3.toInt + 1) := by
  have ec : cel (vw (G_3.2.1 (F p0 0))) ((G.1 p1 2).toInt) (l4_3.toInt) ((G.1 p1 3).toInt) = vw (G.2.1 (F p0 0)) (90 * (G.1 p1 2).toInt + 30 * (G.1 p1 3).toInt + l4_3.toInt) := by
    rw [rp, cel_in (by omega), repl_at (Int.le_refl _)]
  have ab := ro.absent ((G.1 p1 2).toInt) (l4_3.toInt) ((G.1 p1 3).toInt) (by omega)
  first
    | (rw [repl_2 (by omega)]; exact rp)
    | (rw [oq40, if_pos (by omega), rp, repl_1 (by omega) (by omega)])
theorem v_X2_replace_46_7 {F : Nat → Nat → Nat} (p0 : Nat) (G_3 : XG) (G40 : XG)
    (ro : RO (vw (G_3.2.1 (F p0 0))) (aI (G_3.2.1 (F p0 1))))
    (oq40a : RO (vw (G40.2.1 (F p0 0))) (aI (G40.2.1 (F p0 1))))
    (c_G40_F_p0_1 : G40.2.1 (F p0 1) = G_3.2.1 (F p0 1)) :
    RO (vw (G40.2.1 (F p0 0))) (aI (G_3.2.1 (F p0 1))) := by
  first
    | exact ro
    | (rw [← c_G40_F_p0_1]; exact oq40a)
theorem v_X2_replace_1_8 {F : Nat → Nat → Nat} (p0 : Nat) (p1 : Nat) (G : XG) (p2 : Int32) (p3 : Int32) :
    (vw (G.2.1 (F p0 0))) = repl (vw (G.2.1 (F p0 0))) ((G.1 p1 2).toInt) ((G.1 p1 3).toInt) p2.toInt p3.toInt (0 : Int) := by
  rw [repl_0]
theorem v_X2_replace_1_9 {F : Nat → Nat → Nat} (p0 : Nat) (G : XG)
    (hro : RO (vw (G.2.1 (F p0 0))) (aI (G.2.1 (F p0 1)))) :
    RO (vw (G.2.1 (F p0 0))) (aI (G.2.1 (F p0 1))) := by
  exact hro
theorem v_X2_nextWith_38_1 {K : Nat → Nat} {F : Nat → Nat → Nat} (p0 : Nat) (p1 : Nat) (G : XG) (p2 : Int32) (l4_3 : Int32) (p3 : Int32) (N3 : Nat)
    (hp0 : K p0 = 8)
    (hp1 : K p1 = 9)
    (pn : ∀ j : Int, p2.toInt ≤ j → j < l4_3.toInt → cel (vw (G.2.1 (F p0 0))) ((G.1 p1 2).toInt) j ((G.1 p1 3).toInt) ≠ p3.toInt)
    (e0 : 0 ≤ p2.toInt ∧ p2.toInt ≤ 30)
    (z0 : (0 ≤ ((G.1 p1 2).toInt) ∧ ((G.1 p1 2).toInt) ≤ 2) ∧ (0 ≤ ((G.1 p1 3).toInt) ∧ ((G.1 p1 3).toInt) ≤ 2))
    (I3_0 : p2.toInt ≤ l4_3.toInt ∧ l4_3.toInt ≤ 30)
    (hm3 : 2147483648 - l4_3.toInt < (((N3) + 1 : Nat) : Int))
    (c7 : (30 : Int) ≤ l4_3.toInt) :
    ((-1 : Int) = -1 ∧ ∀ j : Int, p2.toInt ≤ j → j < 30 → cel (vw (G.2.1 (F p0 0))) ((G.1 p1 2).toInt) j ((G.1 p1 3).toInt) ≠ p3.toInt) ∨ ((p2.toInt ≤ (-1 : Int) ∧ (-1 : Int) < 30) ∧ cel (vw (G.2.1 (F p0 0))) ((G.1 p1 2).toInt) (-1 : Int) ((G.1 p1 3).toInt) = p3.toInt ∧ ∀ j : Int, p2.toInt ≤ j → j < (-1 : Int) → cel (vw (G.2.1 (F p0 0))) ((G.1 p1 2).toInt) j ((G.1 p1 3).toInt) ≠ p3.toInt) := by
  exact Or.inl ⟨rfl, fun j h1 h2 => pn j h1 (by omega)⟩
theorem v_X2_nextWith_34_2 {K : Nat → Nat} {F : Nat → Nat → Nat} (p0 : Nat) (p1 : Nat) (G : XG) (p2 : Int32) (l4_3 : Int32) (p3 : Int32) (N3 : Nat)
    (hp0 : K p0 = 8)
    (hp1 : K p1 = 9)
    (pn : ∀ j : Int, p2.toInt ≤ j → j < l4_3.toInt → cel (vw (G.2.1 (F p0 0))) ((G.1 p1 2).toInt) j ((G.1 p1 3).toInt) ≠ p3.toInt)
    (e0 : 0 ≤ p2.toInt ∧ p2.toInt ≤ 30)
    (z0 : (0 ≤ ((G.1 p1 2).toInt) ∧ ((G.1 p1 2).toInt) ≤ 2) ∧ (0 ≤ ((G.1 p1 3).toInt) ∧ ((G.1 p1 3).toInt) ≤ 2))
    (I3_0 : p2.toInt ≤ l4_3.toInt ∧ l4_3.toInt ≤ 30)
    (hm3 : 2147483648 - l4_3.toInt < (((N3) + 1 : Nat) : Int))
    (c7 : ¬ ((30 : Int) ≤ l4_3.toInt))
    (c25 : (cel (vw (G.2.1 (F p0 0))) ((G.1 p1 2).toInt) (l4_3.toInt) ((G.1 p1 3).toInt)) ≠ p3.toInt) :
    ∀ j : Int, p2.toInt ≤ j → j < (l4_3.toInt + 1) → cel (vw (G.2.1 (F p0 0))) ((G.1 p1 2).toInt) j ((G.1 p1 3).toInt) ≠ p3.toInt := by
  intro j h1 h2
  by_cases e : j = l4_3.toInt
  · subst e; omega
  · exact pn j h1 (by omega)
theorem v_X2_nextWith_30_3 {K : Nat → Nat} {F : Nat → Nat → Nat} (p0 : Nat) (p1 : Nat) (G : XG) (p2 : Int32) (l4_3 : Int32) (p3 : Int32) (N3 : Nat)
    (hp0 : K p0 = 8)
    (hp1 : K p1 = 9)
    (pn : ∀ j : Int, p2.toInt ≤ j → j < l4_3.toInt → cel (vw (G.2.1 (F p0 0))) ((G.1 p1 2).toInt) j ((G.1 p1 3).toInt) ≠ p3.toInt)
    (e0 : 0 ≤ p2.toInt ∧ p2.toInt ≤ 30)
    (z0 : (0 ≤ ((G.1 p1 2).toInt) ∧ ((G.1 p1 2).toInt) ≤ 2) ∧ (0 ≤ ((G.1 p1 3).toInt) ∧ ((G.1 p1 3).toInt) ≤ 2))
    (I3_0 : p2.toInt ≤ l4_3.toInt ∧ l4_3.toInt ≤ 30)
    (hm3 : 2147483648 - l4_3.toInt < (((N3) + 1 : Nat) : Int))
    (c7 : ¬ ((30 : Int) ≤ l4_3.toInt))
    (c25 : ¬ ((cel (vw (G.2.1 (F p0 0))) ((G.1 p1 2).toInt) (l4_3.toInt) ((G.1 p1 3).toInt)) ≠ p3.toInt)) :
    (l4_3.toInt = -1 ∧ ∀ j : Int, p2.toInt ≤ j → j < 30 → cel (vw (G.2.1 (F p0 0))) ((G.1 p1 2).toInt) j ((G.1 p1 3).toInt) ≠ p3.toInt) ∨ ((p2.toInt ≤ l4_3.toInt ∧ l4_3.toInt < 30) ∧ cel (vw (G.2.1 (F p0 0))) ((G.1 p1 2).toInt) l4_3.toInt ((G.1 p1 3).toInt) = p3.toInt ∧ ∀ j : Int, p2.toInt ≤ j → j < l4_3.toInt → cel (vw (G.2.1 (F p0 0))) ((G.1 p1 2).toInt) j ((G.1 p1 3).toInt) ≠ p3.toInt) := by
  exact Or.inr ⟨by omega, by omega, pn⟩
theorem v_X2_nextWith_1_4 {K : Nat → Nat} {F : Nat → Nat → Nat} (p0 : Nat) (p1 : Nat) (G : XG) (p2 : Int32) (p3 : Int32)
    (hp0 : K p0 = 8)
    (hp1 : K p1 = 9)
    (e0 : 0 ≤ p2.toInt ∧ p2.toInt ≤ 30)
    (z0 : (0 ≤ ((G.1 p1 2).toInt) ∧ ((G.1 p1 2).toInt) ≤ 2) ∧ (0 ≤ ((G.1 p1 3).toInt) ∧ ((G.1 p1 3).toInt) ≤ 2)) :
    ∀ j : Int, p2.toInt ≤ j → j < p2.toInt → cel (vw (G.2.1 (F p0 0))) ((G.1 p1 2).toInt) j ((G.1 p1 3).toInt) ≠ p3.toInt := by
  intro j h1 h2; omega
theorem v_X2_descend_3_1 {F : Nat → Nat → Nat} (p0 : Nat) (G : XG)
    (hro : RO (vw (G.2.1 (F p0 0))) (aI (G.2.1 (F p0 1)))) :
    RO (vw (G.2.1 (F p0 0))) (aI (G.2.1 (F p0 1))) := by exact hro
theorem v_X2_descend_72_2 {K : Nat → Nat} {F : Nat → Nat → Nat} (a : Nat) (p0 : Nat) (G : XG) (G3 : XG) (p1 : Int32) (p2 : Int32)
    (ha : K a = 4)
    (hp0 : K p0 = 8)
    (e0 : 0 ≤ p1.toInt ∧ p1.toInt < 3 ∧ 0 ≤ p2.toInt ∧ p2.toInt < 30)
    (e1 : 0 ≤ ((G.1 a 4).toInt) ∧ ((G.1 a 4).toInt) < 90)
    (c10 : ((G.1 a 4).toInt) < 0)
    (c_G3_F_a_0 : G3.2.1 (F a 0) = G.2.1 (F a 0)) :
    ∀ z : Int, 0 ≤ z → aI (G3.2.1 (F a 0)) z = if z = ((G.1 a 4).toInt) then p1.toInt else aI (G.2.1 (F a 0)) z := by
  first | (exfalso; omega) | (rw [c_G69_F_a_0]; exact aI_pu hG31 c_G3_F_a_0 (by omega) rfl (by omega))
theorem v_X2_descend_72_3 {K : Nat → Nat} {F : Nat → Nat → Nat} (a : Nat) (p0 : Nat) (G : XG) (G3 : XG) (p1 : Int32) (p2 : Int32)
    (ha : K a = 4)
    (hp0 : K p0 = 8)
    (e0 : 0 ≤ p1.toInt ∧ p1.toInt < 3 ∧ 0 ≤ p2.toInt ∧ p2.toInt < 30)
    (e1 : 0 ≤ ((G.1 a 4).toInt) ∧ ((G.1 a 4).toInt) < 90)
    (c10 : ((G.1 a 4).toInt) < 0) :
    ∀ z : Int, 0 ≤ z → aI (G3.2.1 (F a 1)) z = if z = ((G.1 a 4).toInt) then p2.toInt else aI (G.2.1 (F a 1)) z := by
  first | (exfalso; omega) | (rw [c_G69_F_a_1]; exact aI_pu hG41 c_G31_F_a_1 (by omega) rfl (by omega))
theorem v_X2_descend_72_4 {K : Nat → Nat} {F : Nat → Nat → Nat} (a : Nat) (p0 : Nat) (G : XG) (G3 : XG) (p1 : Int32) (p2 : Int32)
    (ha : K a = 4)
    (hp0 : K p0 = 8)
    (e0 : 0 ≤ p1.toInt ∧ p1.toInt < 3 ∧ 0 ≤ p2.toInt ∧ p2.toInt < 30)
    (e1 : 0 ≤ ((G.1 a 4).toInt) ∧ ((G.1 a 4).toInt) < 90)
    (c10 : ((G.1 a 4).toInt) < 0) :
    ∀ z : Int, 0 ≤ z → aI (G3.2.1 (F a 2)) z = if z = ((G.1 a 4).toInt) then 0 else aI (G.2.1 (F a 2)) z := by
  first | (exfalso; omega) | (rw [c_G69_F_a_2]; exact aI_pu hG51 c_G41_F_a_2 (by omega) (show ((0 : Int32)).toInt = 0 from by decide) (by omega))
theorem v_X2_descend_72_5 {K : Nat → Nat} {F : Nat → Nat → Nat} (a : Nat) (p0 : Nat) (G : XG) (G3 : XG) (p1 : Int32) (p2 : Int32)
    (ha : K a = 4)
    (hp0 : K p0 = 8)
    (e0 : 0 ≤ p1.toInt ∧ p1.toInt < 3 ∧ 0 ≤ p2.toInt ∧ p2.toInt < 30)
    (e1 : 0 ≤ ((G.1 a 4).toInt) ∧ ((G.1 a 4).toInt) < 90)
    (c10 : ((G.1 a 4).toInt) < 0) :
    ∀ z : Int, 0 ≤ z → aI (G3.2.1 (F a 3)) z = if z = ((G.1 a 4).toInt) then 0 else aI (G.2.1 (F a 3)) z := by
  first | (exfalso; omega) | (rw [c_G69_F_a_3]; exact aI_pu hG61 c_G51_F_a_3 (by omega) (show ((0 : Int32)).toInt = 0 from by decide) (by omega))
theorem v_X2_descend_72_6 {K : Nat → Nat} {F : Nat → Nat → Nat} (a : Nat) (p0 : Nat) (G : XG) (G3 : XG) (p1 : Int32) (p2 : Int32)
    (ha : K a = 4)
    (hp0 : K p0 = 8)
    (oq3 : (vw (G3.2.1 (F p0 0))) = rfil (vw (G.2.1 (F p0 0))) (p1.toInt) (p2.toInt) (-2000) 3)
    (e0 : 0 ≤ p1.toInt ∧ p1.toInt < 3 ∧ 0 ≤ p2.toInt ∧ p2.toInt < 30)
    (e1 : 0 ≤ ((G.1 a 4).toInt) ∧ ((G.1 a 4).toInt) < 90)
    (c10 : ((G.1 a 4).toInt) < 0) :
    (vw (G3.2.1 (F p0 0))) = rfil (vw (G.2.1 (F p0 0))) p1.toInt p2.toInt (-2000) 3 := by
  first | (exfalso; omega) | (rw [c_G69_F_p0_0]; exact oq3)
theorem v_X2_descend_72_7 {K : Nat → Nat} {F : Nat → Nat → Nat} (a : Nat) (p0 : Nat) (G : XG) (G3 : XG) (p1 : Int32) (p2 : Int32)
    (ha : K a = 4)
    (hp0 : K p0 = 8)
    (oq3a : RO (vw (G3.2.1 (F p0 0))) (aI (G3.2.1 (F p0 1))))
    (e0 : 0 ≤ p1.toInt ∧ p1.toInt < 3 ∧ 0 ≤ p2.toInt ∧ p2.toInt < 30)
    (e1 : 0 ≤ ((G.1 a 4).toInt) ∧ ((G.1 a 4).toInt) < 90)
    (c10 : ((G.1 a 4).toInt) < 0) :
    RO (vw (G3.2.1 (F p0 0))) (aI (G3.2.1 (F p0 1))) := by
  first | (exfalso; omega) | (rw [c_G69_F_p0_0, c_G69_F_p0_1]; exact oq3a)
theorem v_X2_descend_72_8 {K : Nat → Nat} {F : Nat → Nat → Nat} (a : Nat) (p0 : Nat) (G : XG) (G3 : XG) (p1 : Int32) (p2 : Int32)
    (ha : K a = 4)
    (hp0 : K p0 = 8)
    (e0 : 0 ≤ p1.toInt ∧ p1.toInt < 3 ∧ 0 ≤ p2.toInt ∧ p2.toInt < 30)
    (e1 : 0 ≤ ((G.1 a 4).toInt) ∧ ((G.1 a 4).toInt) < 90)
    (c10 : ¬ (((G.1 a 4).toInt) < 0))
    (c19 : (90 : Int) ≤ ((G.1 a 4).toInt))
    (c_G3_F_a_0 : G3.2.1 (F a 0) = G.2.1 (F a 0)) :
    ∀ z : Int, 0 ≤ z → aI (G3.2.1 (F a 0)) z = if z = ((G.1 a 4).toInt) then p1.toInt else aI (G.2.1 (F a 0)) z := by
  first | (exfalso; omega) | (rw [c_G69_F_a_0]; exact aI_pu hG31 c_G3_F_a_0 (by omega) rfl (by omega))
theorem v_X2_descend_72_9 {K : Nat → Nat} {F : Nat → Nat → Nat} (a : Nat) (p0 : Nat) (G : XG) (G3 : XG) (p1 : Int32) (p2 : Int32)
    (ha : K a = 4)
    (hp0 : K p0 = 8)
    (e0 : 0 ≤ p1.toInt ∧ p1.toInt < 3 ∧ 0 ≤ p2.toInt ∧ p2.toInt < 30)
    (e1 : 0 ≤ ((G.1 a 4).toInt) ∧ ((G.1 a 4).toInt) < 90)
    (c10 : ¬ (((G.1 a 4).toInt) < 0))
    (c19 : (90 : Int) ≤ ((G.1 a 4).toInt)) :
    ∀ z : Int, 0 ≤ z → aI (G3.2.1 (F a 1)) z = if z = ((G.1 a 4).toInt) then p2.toInt else aI (G.2.1 (F a 1)) z := by
  first | (exfalso; omega) | (rw [c_G69_F_a_1]; exact aI_pu hG41 c_G31_F_a_1 (by omega) rfl (by omega))
theorem v_X2_descend_72_10 {K : Nat → Nat} {F : Nat → Nat → Nat} (a : Nat) (p0 : Nat) (G : XG) (G3 : XG) (p1 : Int32) (p2 : Int32)
    (ha : K a = 4)
    (hp0 : K p0 = 8)
    (e0 : 0 ≤ p1.toInt ∧ p1.toInt < 3 ∧ 0 ≤ p2.toInt ∧ p2.toInt < 30)
    (e1 : 0 ≤ ((G.1 a 4).toInt) ∧ ((G.1 a 4).toInt) < 90)
    (c10 : ¬ (((G.1 a 4).toInt) < 0))
    (c19 : (90 : Int) ≤ ((G.1 a 4).toInt)) :
    ∀ z : Int, 0 ≤ z → aI (G3.2.1 (F a 2)) z = if z = ((G.1 a 4).toInt) then 0 else aI (G.2.1 (F a 2)) z := by
  first | (exfalso; omega) | (rw [c_G69_F_a_2]; exact aI_pu hG51 c_G41_F_a_2 (by omega) (show ((0 : Int32)).toInt = 0 from by decide) (by omega))
theorem v_X2_descend_72_11 {K : Nat → Nat} {F : Nat → Nat → Nat} (a : Nat) (p0 : Nat) (G : XG) (G3 : XG) (p1 : Int32) (p2 : Int32)
    (ha : K a = 4)
    (hp0 : K p0 = 8)
    (e0 : 0 ≤ p1.toInt ∧ p1.toInt < 3 ∧ 0 ≤ p2.toInt ∧ p2.toInt < 30)
    (e1 : 0 ≤ ((G.1 a 4).toInt) ∧ ((G.1 a 4).toInt) < 90)
    (c10 : ¬ (((G.1 a 4).toInt) < 0))
    (c19 : (90 : Int) ≤ ((G.1 a 4).toInt)) :
    ∀ z : Int, 0 ≤ z → aI (G3.2.1 (F a 3)) z = if z = ((G.1 a 4).toInt) then 0 else aI (G.2.1 (F a 3)) z := by
  first | (exfalso; omega) | (rw [c_G69_F_a_3]; exact aI_pu hG61 c_G51_F_a_3 (by omega) (show ((0 : Int32)).toInt = 0 from by decide) (by omega))
theorem v_X2_descend_72_12 {K : Nat → Nat} {F : Nat → Nat → Nat} (a : Nat) (p0 : Nat) (G : XG) (G3 : XG) (p1 : Int32) (p2 : Int32)
    (ha : K a = 4)
    (hp0 : K p0 = 8)
    (oq3 : (vw (G3.2.1 (F p0 0))) = rfil (vw (G.2.1 (F p0 0))) (p1.toInt) (p2.toInt) (-2000) 3)
    (e0 : 0 ≤ p1.toInt ∧ p1.toInt < 3 ∧ 0 ≤ p2.toInt ∧ p2.toInt < 30)
    (e1 : 0 ≤ ((G.1 a 4).toInt) ∧ ((G.1 a 4).toInt) < 90)
    (c10 : ¬ (((G.1 a 4).toInt) < 0))
    (c19 : (90 : Int) ≤ ((G.1 a 4).toInt)) :
    (vw (G3.2.1 (F p0 0))) = rfil (vw (G.2.1 (F p0 0))) p1.toInt p2.toInt (-2000) 3 := by
  first | (exfalso; omega) | (rw [c_G69_F_p0_0]; exact oq3)
theorem v_X2_descend_72_13 {K : Nat → Nat} {F : Nat → Nat → Nat} (a : Nat) (p0 : Nat) (G : XG) (G3 : XG) (p1 : Int32) (p2 : Int32)
    (ha : K a = 4)
    (hp0 : K p0 = 8)
    (oq3a : RO (vw (G3.2.1 (F p0 0))) (aI (G3.2.1 (F p0 1))))
    (e0 : 0 ≤ p1.toInt ∧ p1.toInt < 3 ∧ 0 ≤ p2.toInt ∧ p2.toInt < 30)
    (e1 : 0 ≤ ((G.1 a 4).toInt) ∧ ((G.1 a 4).toInt) < 90)
    (c10 : ¬ (((G.1 a 4).toInt) < 0))
    (c19 : (90 : Int) ≤ ((G.1 a 4).toInt)) :
    RO (vw (G3.2.1 (F p0 0))) (aI (G3.2.1 (F p0 1))) := by
  first | (exfalso; omega) | (rw [c_G69_F_p0_0, c_G69_F_p0_1]; exact oq3a)
theorem v_X2_descend_72_14 {K : Nat → Nat} {F : Nat → Nat → Nat} (a : Nat) (p0 : Nat) (G : XG) (G3 : XG) (G31 : XG) (p1 : Int32) (p2 : Int32) (G69 : XG)
    (ha : K a = 4)
    (hp0 : K p0 = 8)
    (hG31 : G31 = cput G3 (F a 0) (G.1 a 4).toNatClampNeg p1)
    (e0 : 0 ≤ p1.toInt ∧ p1.toInt < 3 ∧ 0 ≤ p2.toInt ∧ p2.toInt < 30)
    (e1 : 0 ≤ ((G.1 a 4).toInt) ∧ ((G.1 a 4).toInt) < 90)
    (c10 : ¬ (((G.1 a 4).toInt) < 0))
    (c19 : ¬ ((90 : Int) ≤ ((G.1 a 4).toInt)))
    (c_G3_F_a_0 : G3.2.1 (F a 0) = G.2.1 (F a 0))
    (c_G69_F_a_0 : G69.2.1 (F a 0) = G31.2.1 (F a 0)) :
    ∀ z : Int, 0 ≤ z → aI (G69.2.1 (F a 0)) z = if z = ((G.1 a 4).toInt) then p1.toInt else aI (G.2.1 (F a 0)) z := by
  first | (exfalso; omega) | (rw [c_G69_F_a_0]; exact aI_pu hG31 c_G3_F_a_0 (by omega) rfl (by omega))
theorem v_X2_descend_72_15 {K : Nat → Nat} {F : Nat → Nat → Nat} (a : Nat) (p0 : Nat) (G : XG) (G31 : XG) (p1 : Int32) (G41 : XG) (p2 : Int32) (G69 : XG)
    (ha : K a = 4)
    (hp0 : K p0 = 8)
    (hG41 : G41 = cput G31 (F a 1) (G.1 a 4).toNatClampNeg p2)
    (e0 : 0 ≤ p1.toInt ∧ p1.toInt < 3 ∧ 0 ≤ p2.toInt ∧ p2.toInt < 30)
    (e1 : 0 ≤ ((G.1 a 4).toInt) ∧ ((G.1 a 4).toInt) < 90)
    (c10 : ¬ (((G.1 a 4).toInt) < 0))
    (c19 : ¬ ((90 : Int) ≤ ((G.1 a 4).toInt)))
    (c_G31_F_a_1 : G31.2.1 (F a 1) = G.2.1 (F a 1))
    (c_G69_F_a_1 : G69.2.1 (F a 1) = G41.2.1 (F a 1)) :
    ∀ z : Int, 0 ≤ z → aI (G69.2.1 (F a 1)) z = if z = ((G.1 a 4).toInt) then p2.toInt else aI (G.2.1 (F a 1)) z := by
  first | (exfalso; omega) | (rw [c_G69_F_a_1]; exact aI_pu hG41 c_G31_F_a_1 (by omega) rfl (by omega))
theorem v_X2_descend_72_16 {K : Nat → Nat} {F : Nat → Nat → Nat} (a : Nat) (p0 : Nat) (G : XG) (p1 : Int32) (G41 : XG) (p2 : Int32) (G51 : XG) (G69 : XG)
    (ha : K a = 4)
    (hp0 : K p0 = 8)
    (hG51 : G51 = cput G41 (F a 2) (G.1 a 4).toNatClampNeg 0)
    (e0 : 0 ≤ p1.toInt ∧ p1.toInt < 3 ∧ 0 ≤ p2.toInt ∧ p2.toInt < 30)
    (e1 : 0 ≤ ((G.1 a 4).toInt) ∧ ((G.1 a 4).toInt) < 90)
    (c10 : ¬ (((G.1 a 4).toInt) < 0))
    (c19 : ¬ ((90 : Int) ≤ ((G.1 a 4).toInt)))
    (c_G41_F_a_2 : G41.2.1 (F a 2) = G.2.1 (F a 2))
    (c_G69_F_a_2 : G69.2.1 (F a 2) = G51.2.1 (F a 2)) :
    ∀ z : Int, 0 ≤ z → aI (G69.2.1 (F a 2)) z = if z = ((G.1 a 4).toInt) then 0 else aI (G.2.1 (F a 2)) z := by
  first | (exfalso; omega) | (rw [c_G69_F_a_2]; exact aI_pu hG51 c_G41_F_a_2 (by omega) (show ((0 : Int32)).toInt = 0 from by decide) (by omega))
theorem v_X2_descend_72_17 {K : Nat → Nat} {F : Nat → Nat → Nat} (a : Nat) (p0 : Nat) (G : XG) (p1 : Int32) (p2 : Int32) (G51 : XG) (G61 : XG) (G69 : XG)
    (ha : K a = 4)
    (hp0 : K p0 = 8)
    (hG61 : G61 = cput G51 (F a 3) (G.1 a 4).toNatClampNeg 0)
    (e0 : 0 ≤ p1.toInt ∧ p1.toInt < 3 ∧ 0 ≤ p2.toInt ∧ p2.toInt < 30)
    (e1 : 0 ≤ ((G.1 a 4).toInt) ∧ ((G.1 a 4).toInt) < 90)
    (c10 : ¬ (((G.1 a 4).toInt) < 0))
    (c19 : ¬ ((90 : Int) ≤ ((G.1 a 4).toInt)))
    (c_G51_F_a_3 : G51.2.1 (F a 3) = G.2.1 (F a 3))
    (c_G69_F_a_3 : G69.2.1 (F a 3) = G61.2.1 (F a 3)) :
    ∀ z : Int, 0 ≤ z → aI (G69.2.1 (F a 3)) z = if z = ((G.1 a 4).toInt) then 0 else aI (G.2.1 (F a 3)) z := by
  first | (exfalso; omega) | (rw [c_G69_F_a_3]; exact aI_pu hG61 c_G51_F_a_3 (by omega) (show ((0 : Int32)).toInt = 0 from by decide) (by omega))
theorem v_X2_descend_72_18 {K : Nat → Nat} {F : Nat → Nat → Nat} (a : Nat) (p0 : Nat) (G : XG) (G3 : XG) (p1 : Int32) (p2 : Int32) (G69 : XG)
    (ha : K a = 4)
    (hp0 : K p0 = 8)
    (oq3 : (vw (G3.2.1 (F p0 0))) = rfil (vw (G.2.1 (F p0 0))) (p1.toInt) (p2.toInt) (-2000) 3)
    (e0 : 0 ≤ p1.toInt ∧ p1.toInt < 3 ∧ 0 ≤ p2.toInt ∧ p2.toInt < 30)
    (e1 : 0 ≤ ((G.1 a 4).toInt) ∧ ((G.1 a 4).toInt) < 90)
    (c10 : ¬ (((G.1 a 4).toInt) < 0))
    (c19 : ¬ ((90 : Int) ≤ ((G.1 a 4).toInt)))
    (c_G69_F_p0_0 : G69.2.1 (F p0 0) = G3.2.1 (F p0 0)) :
    (vw (G69.2.1 (F p0 0))) = rfil (vw (G.2.1 (F p0 0))) p1.toInt p2.toInt (-2000) 3 := by
  first | (exfalso; omega) | (rw [c_G69_F_p0_0]; exact oq3)
theorem v_X2_descend_72_19 {K : Nat → Nat} {F : Nat → Nat → Nat} (a : Nat) (p0 : Nat) (G : XG) (G3 : XG) (p1 : Int32) (p2 : Int32) (G69 : XG)
    (ha : K a = 4)
    (hp0 : K p0 = 8)
    (oq3a : RO (vw (G3.2.1 (F p0 0))) (aI (G3.2.1 (F p0 1))))
    (e0 : 0 ≤ p1.toInt ∧ p1.toInt < 3 ∧ 0 ≤ p2.toInt ∧ p2.toInt < 30)
    (e1 : 0 ≤ ((G.1 a 4).toInt) ∧ ((G.1 a 4).toInt) < 90)
    (c10 : ¬ (((G.1 a 4).toInt) < 0))
    (c19 : ¬ ((90 : Int) ≤ ((G.1 a 4).toInt)))
    (c_G69_F_p0_0 : G69.2.1 (F p0 0) = G3.2.1 (F p0 0))
    (c_G69_F_p0_1 : G69.2.1 (F p0 1) = G3.2.1 (F p0 1)) :
    RO (vw (G69.2.1 (F p0 0))) (aI (G69.2.1 (F p0 1))) := by
  first | (exfalso; omega) | (rw [c_G69_F_p0_0, c_G69_F_p0_1]; exact oq3a)
