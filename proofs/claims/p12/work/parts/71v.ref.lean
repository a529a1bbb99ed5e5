theorem v_X11_queue_1_1 {F : Nat → Nat → Nat} (a : Nat) (G : XG)
    (hR : RV (G.2.1 (F a 10))) :
    RV (G.2.1 (F a 10)) := by exact hR
theorem v_X11_queue_1_2 {F : Nat → Nat → Nat} (a : Nat) (G : XG)
    (hM : RM (G.2.1 (F a 1)) (0)) :
    RM (G.2.1 (F a 1)) (0) := by exact hM
theorem v_X11_queue_1_3 {F : Nat → Nat → Nat} (a : Nat) (G : XG)
    (hB : RM (G.2.1 (F a 2)) 0) :
    RM (G.2.1 (F a 2)) 0 := by exact hB
theorem v_X11_queue_4_4 {F : Nat → Nat → Nat} (G1 : XG) (a : Nat) (G : XG)
    (oq1 : pL G1 F a = if ((G.1 a 6).toInt) = 0 then [] else fuO (G.2.1 (F a 10)) (mw (G.2.1 (F a 1)) 0) (mw (G.2.1 (F a 2)) 0) 1) :
    PV (G.2.1 (F a 10)) (pL G1 F a) := by
  rw [oq1]
  split
  · intro x hx; cases hx
  · exact fuO_pv _ _ _ _
theorem v_X11_queue_38_5 {K : Nat → Nat} {F : Nat → Nat → Nat} (a : Nat) (G : XG) (G1 : XG) (G26 : XG) (x15 : Int32) (p0 : Int32) (p1 : Int32)
    (ha : K a = 13)
    (oq1 : pL G1 F a = if ((G.1 a 6).toInt) = 0 then [] else fuO (G.2.1 (F a 10)) (mw (G.2.1 (F a 1)) 0) (mw (G.2.1 (F a 2)) 0) 1)
    (oq1a : ((G.1 a 6).toInt) ≠ 0 → LSt (G.2.1 (F a 10)) (G1.2.1 (F a 11)) (mw (G.2.1 (F a 1)) 0) 12 ∧ LSt (G.2.1 (F a 10)) (G1.2.1 (F a 13)) (mw (G.2.1 (F a 2)) 0) 12)
    (oq1b : G1.2.2.2 = G.2.2.2)
    (t1 : 0 ≤ ((G1.1 a 19).toInt) ∧ ((G1.1 a 19).toInt) ≤ 2388)
    (t15 : (x15.toInt = 1 ∧ (0 : Int) ≤ p0.toInt ∧ p0.toInt ≤ (((G1.1 a 19).toInt) - (1 : Int))) ∨ (x15.toInt = 0 ∧ (p0.toInt < (0 : Int) ∨ (((G1.1 a 19).toInt) - (1 : Int)) < p0.toInt)))
    (c18 : x15.toInt = 0)
    (d_G26_a_0 : G26.1 a 0 = 1) :
    (¬ (0 ≤ p0.toInt ∧ p0.toInt < (((if ((G.1 a 6).toInt) = 0 then [] else fuO (G.2.1 (F a 10)) (mw (G.2.1 (F a 1)) 0) (mw (G.2.1 (F a 2)) 0) 1).length : Nat) : Int)) ∧ ((G26.1 a 0).toInt) = 1 ∧ (0 : Int) = 0) ∨ (∃ y : Int × Int, 0 ≤ p0.toInt ∧ (if ((G.1 a 6).toInt) = 0 then [] else fuO (G.2.1 (F a 10)) (mw (G.2.1 (F a 1)) 0) (mw (G.2.1 (F a 2)) 0) 1)[(p0.toInt).toNat]? = some y ∧ ((G26.1 a 0).toInt) = 0 ∧ (0 : Int) = quM (G.2.1 (F a 10)) (mw (G.2.1 (F a 1)) 0) (mw (G.2.1 (F a 2)) 0) y p1.toInt) := by
  rw [← oq1, pL_len]
  exact Or.inl ⟨by omega, (congrArg Int32.toInt d_G26_a_0).trans (by decide), rfl⟩
theorem v_X11_queue_38_6 (a : Nat) (G : XG) (G1 : XG) (G26 : XG)
    (hG26 : G26 = dput G1 a 0 1)
    (oq1b : G1.2.2.2 = G.2.2.2) :
    G26.2.2.2 = G.2.2.2 := by
  rw [hG26]; exact oq1b
theorem v_X11_queue_152_7 {K : Nat → Nat} {F : Nat → Nat → Nat} (a : Nat) (G : XG) (G1 : XG) (G26 : XG) (p0 : Int32) (x15 : Int32) (p1 : Int32)
    (ha : K a = 13)
    (oq1 : pL G1 F a = if ((G.1 a 6).toInt) = 0 then [] else fuO (G.2.1 (F a 10)) (mw (G.2.1 (F a 1)) 0) (mw (G.2.1 (F a 2)) 0) 1)
    (oq1a : ((G.1 a 6).toInt) ≠ 0 → LSt (G.2.1 (F a 10)) (G1.2.1 (F a 11)) (mw (G.2.1 (F a 1)) 0) 12 ∧ LSt (G.2.1 (F a 10)) (G1.2.1 (F a 13)) (mw (G.2.1 (F a 2)) 0) 12)
    (oq1b : G1.2.2.2 = G.2.2.2)
    (t1 : 0 ≤ ((G1.1 a 19).toInt) ∧ ((G1.1 a 19).toInt) ≤ 2388)
    (t15 : (x15.toInt = 1 ∧ (0 : Int) ≤ p0.toInt ∧ p0.toInt ≤ (((G1.1 a 19).toInt) - (1 : Int))) ∨ (x15.toInt = 0 ∧ (p0.toInt < (0 : Int) ∨ (((G1.1 a 19).toInt) - (1 : Int)) < p0.toInt)))
    (c18 : ¬ (x15.toInt = 0))
    (z39 : (0 ≤ (aI (G1.2.1 (F a 17)) (p0.toInt)) ∧ (aI (G1.2.1 (F a 17)) (p0.toInt)) ≤ 11) ∧ (aI (G.2.1 (F a 10)) (10 * (aI (G1.2.1 (F a 17)) (p0.toInt)) + 0)) ≠ -1 ∧ ((sF (aI (G.2.1 (F a 10)) (10 * (aI (G1.2.1 (F a 17)) (p0.toInt)) + 0))) ≤ (aI (G1.2.1 (F a 18)) (p0.toInt)) ∧ (aI (G1.2.1 (F a 18)) (p0.toInt)) ≤ (sL (aI (G.2.1 (F a 10)) (10 * (aI (G1.2.1 (F a 17)) (p0.toInt)) + 0)))))
    (z39a : ((sF (aI (G.2.1 (F a 10)) (10 * (aI (G1.2.1 (F a 17)) (p0.toInt)) + 0))) = 0 ∨ (sF (aI (G.2.1 (F a 10)) (10 * (aI (G1.2.1 (F a 17)) (p0.toInt)) + 0))) = -99) ∧ ((sL (aI (G.2.1 (F a 10)) (10 * (aI (G1.2.1 (F a 17)) (p0.toInt)) + 0))) = 29 ∨ (sL (aI (G.2.1 (F a 10)) (10 * (aI (G1.2.1 (F a 17)) (p0.toInt)) + 0))) = 99))
    (c56 : p1.toInt < 0 ∨ 4 < p1.toInt)
    (d_G26_a_0 : G26.1 a 0 = 0) :
    (¬ (0 ≤ p0.toInt ∧ p0.toInt < (((if ((G.1 a 6).toInt) = 0 then [] else fuO (G.2.1 (F a 10)) (mw (G.2.1 (F a 1)) 0) (mw (G.2.1 (F a 2)) 0) 1).length : Nat) : Int)) ∧ ((G26.1 a 0).toInt) = 1 ∧ (-2147483648 : Int) = 0) ∨ (∃ y : Int × Int, 0 ≤ p0.toInt ∧ (if ((G.1 a 6).toInt) = 0 then [] else fuO (G.2.1 (F a 10)) (mw (G.2.1 (F a 1)) 0) (mw (G.2.1 (F a 2)) 0) 1)[(p0.toInt).toNat]? = some y ∧ ((G26.1 a 0).toInt) = 0 ∧ (-2147483648 : Int) = quM (G.2.1 (F a 10)) (mw (G.2.1 (F a 1)) 0) (mw (G.2.1 (F a 2)) 0) y p1.toInt) := by
  have hy := pL_at (G := G1) (F := F) (a := a) (z := p0.toInt) (by omega)
  rw [oq1] at hy
  have hw : (G.1 a 6).toInt ≠ 0 := fun h => by rw [if_pos h, List.getElem?_nil] at hy; cases hy
  refine Or.inr ⟨_, by omega, hy, (congrArg Int32.toInt d_G26_a_0).trans (by decide), ?_⟩
  exact (quM_o (by omega)).symm
theorem v_X11_queue_152_8 (a : Nat) (G : XG) (G1 : XG) (G26 : XG)
    (hG26 : G26 = dput G1 a 0 0)
    (oq1b : G1.2.2.2 = G.2.2.2) :
    G26.2.2.2 = G.2.2.2 := by
  rw [hG26]; exact oq1b
theorem v_X11_queue_98_9 {K : Nat → Nat} {F : Nat → Nat → Nat} (a : Nat) (G : XG) (G1 : XG) (G26 : XG) (p0 : Int32) (x15 : Int32) (p1 : Int32)
    (ha : K a = 13)
    (oq1 : pL G1 F a = if ((G.1 a 6).toInt) = 0 then [] else fuO (G.2.1 (F a 10)) (mw (G.2.1 (F a 1)) 0) (mw (G.2.1 (F a 2)) 0) 1)
    (oq1a : ((G.1 a 6).toInt) ≠ 0 → LSt (G.2.1 (F a 10)) (G1.2.1 (F a 11)) (mw (G.2.1 (F a 1)) 0) 12 ∧ LSt (G.2.1 (F a 10)) (G1.2.1 (F a 13)) (mw (G.2.1 (F a 2)) 0) 12)
    (oq1b : G1.2.2.2 = G.2.2.2)
    (t1 : 0 ≤ ((G1.1 a 19).toInt) ∧ ((G1.1 a 19).toInt) ≤ 2388)
    (t15 : (x15.toInt = 1 ∧ (0 : Int) ≤ p0.toInt ∧ p0.toInt ≤ (((G1.1 a 19).toInt) - (1 : Int))) ∨ (x15.toInt = 0 ∧ (p0.toInt < (0 : Int) ∨ (((G1.1 a 19).toInt) - (1 : Int)) < p0.toInt)))
    (c18 : ¬ (x15.toInt = 0))
    (z39 : (0 ≤ (aI (G1.2.1 (F a 17)) (p0.toInt)) ∧ (aI (G1.2.1 (F a 17)) (p0.toInt)) ≤ 11) ∧ (aI (G.2.1 (F a 10)) (10 * (aI (G1.2.1 (F a 17)) (p0.toInt)) + 0)) ≠ -1 ∧ ((sF (aI (G.2.1 (F a 10)) (10 * (aI (G1.2.1 (F a 17)) (p0.toInt)) + 0))) ≤ (aI (G1.2.1 (F a 18)) (p0.toInt)) ∧ (aI (G1.2.1 (F a 18)) (p0.toInt)) ≤ (sL (aI (G.2.1 (F a 10)) (10 * (aI (G1.2.1 (F a 17)) (p0.toInt)) + 0)))))
    (z39a : ((sF (aI (G.2.1 (F a 10)) (10 * (aI (G1.2.1 (F a 17)) (p0.toInt)) + 0))) = 0 ∨ (sF (aI (G.2.1 (F a 10)) (10 * (aI (G1.2.1 (F a 17)) (p0.toInt)) + 0))) = -99) ∧ ((sL (aI (G.2.1 (F a 10)) (10 * (aI (G1.2.1 (F a 17)) (p0.toInt)) + 0))) = 29 ∨ (sL (aI (G.2.1 (F a 10)) (10 * (aI (G1.2.1 (F a 17)) (p0.toInt)) + 0))) = 99))
    (c56 : p1.toInt = 0)
    (d_G26_a_0 : G26.1 a 0 = 0) :
    (¬ (0 ≤ p0.toInt ∧ p0.toInt < (((if ((G.1 a 6).toInt) = 0 then [] else fuO (G.2.1 (F a 10)) (mw (G.2.1 (F a 1)) 0) (mw (G.2.1 (F a 2)) 0) 1).length : Nat) : Int)) ∧ ((G26.1 a 0).toInt) = 1 ∧ (aI (G1.2.1 (F a 17)) (p0.toInt)) = 0) ∨ (∃ y : Int × Int, 0 ≤ p0.toInt ∧ (if ((G.1 a 6).toInt) = 0 then [] else fuO (G.2.1 (F a 10)) (mw (G.2.1 (F a 1)) 0) (mw (G.2.1 (F a 2)) 0) 1)[(p0.toInt).toNat]? = some y ∧ ((G26.1 a 0).toInt) = 0 ∧ (aI (G1.2.1 (F a 17)) (p0.toInt)) = quM (G.2.1 (F a 10)) (mw (G.2.1 (F a 1)) 0) (mw (G.2.1 (F a 2)) 0) y p1.toInt) := by
  have hy := pL_at (G := G1) (F := F) (a := a) (z := p0.toInt) (by omega)
  rw [oq1] at hy
  have hw : (G.1 a 6).toInt ≠ 0 := fun h => by rw [if_pos h, List.getElem?_nil] at hy; cases hy
  refine Or.inr ⟨_, by omega, hy, (congrArg Int32.toInt d_G26_a_0).trans (by decide), ?_⟩
  rw [quM_0 (by omega)]
theorem v_X11_queue_98_10 (a : Nat) (G : XG) (G1 : XG) (G26 : XG)
    (hG26 : G26 = dput G1 a 0 0)
    (oq1b : G1.2.2.2 = G.2.2.2) :
    G26.2.2.2 = G.2.2.2 := by
  rw [hG26]; exact oq1b
theorem v_X11_queue_105_11 {K : Nat → Nat} {F : Nat → Nat → Nat} (a : Nat) (G : XG) (G1 : XG) (G26 : XG) (p0 : Int32) (x15 : Int32) (p1 : Int32)
    (ha : K a = 13)
    (oq1 : pL G1 F a = if ((G.1 a 6).toInt) = 0 then [] else fuO (G.2.1 (F a 10)) (mw (G.2.1 (F a 1)) 0) (mw (G.2.1 (F a 2)) 0) 1)
    (oq1a : ((G.1 a 6).toInt) ≠ 0 → LSt (G.2.1 (F a 10)) (G1.2.1 (F a 11)) (mw (G.2.1 (F a 1)) 0) 12 ∧ LSt (G.2.1 (F a 10)) (G1.2.1 (F a 13)) (mw (G.2.1 (F a 2)) 0) 12)
    (oq1b : G1.2.2.2 = G.2.2.2)
    (t1 : 0 ≤ ((G1.1 a 19).toInt) ∧ ((G1.1 a 19).toInt) ≤ 2388)
    (t15 : (x15.toInt = 1 ∧ (0 : Int) ≤ p0.toInt ∧ p0.toInt ≤ (((G1.1 a 19).toInt) - (1 : Int))) ∨ (x15.toInt = 0 ∧ (p0.toInt < (0 : Int) ∨ (((G1.1 a 19).toInt) - (1 : Int)) < p0.toInt)))
    (c18 : ¬ (x15.toInt = 0))
    (z39 : (0 ≤ (aI (G1.2.1 (F a 17)) (p0.toInt)) ∧ (aI (G1.2.1 (F a 17)) (p0.toInt)) ≤ 11) ∧ (aI (G.2.1 (F a 10)) (10 * (aI (G1.2.1 (F a 17)) (p0.toInt)) + 0)) ≠ -1 ∧ ((sF (aI (G.2.1 (F a 10)) (10 * (aI (G1.2.1 (F a 17)) (p0.toInt)) + 0))) ≤ (aI (G1.2.1 (F a 18)) (p0.toInt)) ∧ (aI (G1.2.1 (F a 18)) (p0.toInt)) ≤ (sL (aI (G.2.1 (F a 10)) (10 * (aI (G1.2.1 (F a 17)) (p0.toInt)) + 0)))))
    (z39a : ((sF (aI (G.2.1 (F a 10)) (10 * (aI (G1.2.1 (F a 17)) (p0.toInt)) + 0))) = 0 ∨ (sF (aI (G.2.1 (F a 10)) (10 * (aI (G1.2.1 (F a 17)) (p0.toInt)) + 0))) = -99) ∧ ((sL (aI (G.2.1 (F a 10)) (10 * (aI (G1.2.1 (F a 17)) (p0.toInt)) + 0))) = 29 ∨ (sL (aI (G.2.1 (F a 10)) (10 * (aI (G1.2.1 (F a 17)) (p0.toInt)) + 0))) = 99))
    (c56 : p1.toInt = 1)
    (d_G26_a_0 : G26.1 a 0 = 0) :
    (¬ (0 ≤ p0.toInt ∧ p0.toInt < (((if ((G.1 a 6).toInt) = 0 then [] else fuO (G.2.1 (F a 10)) (mw (G.2.1 (F a 1)) 0) (mw (G.2.1 (F a 2)) 0) 1).length : Nat) : Int)) ∧ ((G26.1 a 0).toInt) = 1 ∧ (aI (G1.2.1 (F a 18)) (p0.toInt)) = 0) ∨ (∃ y : Int × Int, 0 ≤ p0.toInt ∧ (if ((G.1 a 6).toInt) = 0 then [] else fuO (G.2.1 (F a 10)) (mw (G.2.1 (F a 1)) 0) (mw (G.2.1 (F a 2)) 0) 1)[(p0.toInt).toNat]? = some y ∧ ((G26.1 a 0).toInt) = 0 ∧ (aI (G1.2.1 (F a 18)) (p0.toInt)) = quM (G.2.1 (F a 10)) (mw (G.2.1 (F a 1)) 0) (mw (G.2.1 (F a 2)) 0) y p1.toInt) := by
  have hy := pL_at (G := G1) (F := F) (a := a) (z := p0.toInt) (by omega)
  rw [oq1] at hy
  have hw : (G.1 a 6).toInt ≠ 0 := fun h => by rw [if_pos h, List.getElem?_nil] at hy; cases hy
  refine Or.inr ⟨_, by omega, hy, (congrArg Int32.toInt d_G26_a_0).trans (by decide), ?_⟩
  rw [quM_1 (by omega)]
theorem v_X11_queue_105_12 (a : Nat) (G : XG) (G1 : XG) (G26 : XG)
    (hG26 : G26 = dput G1 a 0 0)
    (oq1b : G1.2.2.2 = G.2.2.2) :
    G26.2.2.2 = G.2.2.2 := by
  rw [hG26]; exact oq1b
theorem v_X11_queue_112_13 {K : Nat → Nat} {F : Nat → Nat → Nat} (a : Nat) (G : XG) (G1 : XG) (G26 : XG) (p0 : Int32) (x15 : Int32) (p1 : Int32)
    (ha : K a = 13)
    (hk9999 : K (F a 15) = 42)
    (hj9999 : F (F a 15) 99 = 15)
    (hk9999a : K (F a 17) = 43)
    (hj9999a : F (F a 17) 99 = 17)
    (hk9999b : K (F a 18) = 44)
    (hj9999b : F (F a 18) 99 = 18)
    (hk9999c : K (F a 11) = 38)
    (hj9999c : F (F a 11) 99 = 11)
    (hk9999d : K (F a 13) = 38)
    (hj9999d : F (F a 13) 99 = 13)
    (hk9999e : K (F a 10) = 37)
    (hj9999e : F (F a 10) 99 = 10)
    (hk9999f : K (F a 1) = 30)
    (hj9999f : F (F a 1) 99 = 1)
    (hk9999g : K (F a 2) = 31)
    (hj9999g : F (F a 2) 99 = 2)
    (oq1 : pL G1 F a = if ((G.1 a 6).toInt) = 0 then [] else fuO (G.2.1 (F a 10)) (mw (G.2.1 (F a 1)) 0) (mw (G.2.1 (F a 2)) 0) 1)
    (oq1a : ((G.1 a 6).toInt) ≠ 0 → LSt (G.2.1 (F a 10)) (G1.2.1 (F a 11)) (mw (G.2.1 (F a 1)) 0) 12 ∧ LSt (G.2.1 (F a 10)) (G1.2.1 (F a 13)) (mw (G.2.1 (F a 2)) 0) 12)
    (oq1b : G1.2.2.2 = G.2.2.2)
    (t1 : 0 ≤ ((G1.1 a 19).toInt) ∧ ((G1.1 a 19).toInt) ≤ 2388)
    (t15 : (x15.toInt = 1 ∧ (0 : Int) ≤ p0.toInt ∧ p0.toInt ≤ (((G1.1 a 19).toInt) - (1 : Int))) ∨ (x15.toInt = 0 ∧ (p0.toInt < (0 : Int) ∨ (((G1.1 a 19).toInt) - (1 : Int)) < p0.toInt)))
    (c18 : ¬ (x15.toInt = 0))
    (z39 : (0 ≤ (aI (G1.2.1 (F a 17)) (p0.toInt)) ∧ (aI (G1.2.1 (F a 17)) (p0.toInt)) ≤ 11) ∧ (aI (G.2.1 (F a 10)) (10 * (aI (G1.2.1 (F a 17)) (p0.toInt)) + 0)) ≠ -1 ∧ ((sF (aI (G.2.1 (F a 10)) (10 * (aI (G1.2.1 (F a 17)) (p0.toInt)) + 0))) ≤ (aI (G1.2.1 (F a 18)) (p0.toInt)) ∧ (aI (G1.2.1 (F a 18)) (p0.toInt)) ≤ (sL (aI (G.2.1 (F a 10)) (10 * (aI (G1.2.1 (F a 17)) (p0.toInt)) + 0)))))
    (z39a : ((sF (aI (G.2.1 (F a 10)) (10 * (aI (G1.2.1 (F a 17)) (p0.toInt)) + 0))) = 0 ∨ (sF (aI (G.2.1 (F a 10)) (10 * (aI (G1.2.1 (F a 17)) (p0.toInt)) + 0))) = -99) ∧ ((sL (aI (G.2.1 (F a 10)) (10 * (aI (G1.2.1 (F a 17)) (p0.toInt)) + 0))) = 29 ∨ (sL (aI (G.2.1 (F a 10)) (10 * (aI (G1.2.1 (F a 17)) (p0.toInt)) + 0))) = 99))
    (c56 : p1.toInt = 2)
    (d_G26_a_0 : G26.1 a 0 = 0) :
    (¬ (0 ≤ p0.toInt ∧ p0.toInt < (((if ((G.1 a 6).toInt) = 0 then [] else fuO (G.2.1 (F a 10)) (mw (G.2.1 (F a 1)) 0) (mw (G.2.1 (F a 2)) 0) 1).length : Nat) : Int)) ∧ ((G26.1 a 0).toInt) = 1 ∧ (aI (G1.2.1 (F a 13)) (199 * (aI (G1.2.1 (F a 17)) (p0.toInt)) + (aI (G1.2.1 (F a 18)) (p0.toInt)) + 99)) = 0) ∨ (∃ y : Int × Int, 0 ≤ p0.toInt ∧ (if ((G.1 a 6).toInt) = 0 then [] else fuO (G.2.1 (F a 10)) (mw (G.2.1 (F a 1)) 0) (mw (G.2.1 (F a 2)) 0) 1)[(p0.toInt).toNat]? = some y ∧ ((G26.1 a 0).toInt) = 0 ∧ (aI (G1.2.1 (F a 13)) (199 * (aI (G1.2.1 (F a 17)) (p0.toInt)) + (aI (G1.2.1 (F a 18)) (p0.toInt)) + 99)) = quM (G.2.1 (F a 10)) (mw (G.2.1 (F a 1)) 0) (mw (G.2.1 (F a 2)) 0) y p1.toInt) := by
  have hy := pL_at (G := G1) (F := F) (a := a) (z := p0.toInt) (by omega)
  rw [oq1] at hy
  have hw : (G.1 a 6).toInt ≠ 0 := fun h => by rw [if_pos h, List.getElem?_nil] at hy; cases hy
  refine Or.inr ⟨_, by omega, hy, (congrArg Int32.toInt d_G26_a_0).trans (by decide), ?_⟩
  rw [quM_2 (by omega)]
  exact (oq1a hw).2 _ _ z39.1.1 (by omega) z39.2.1 (sbj_FL.mpr z39.2.2)
theorem v_X11_queue_112_14 (a : Nat) (G : XG) (G1 : XG) (G26 : XG)
    (hG26 : G26 = dput G1 a 0 0)
    (oq1b : G1.2.2.2 = G.2.2.2) :
    G26.2.2.2 = G.2.2.2 := by
  rw [hG26]; exact oq1b
theorem v_X11_queue_119_15 {K : Nat → Nat} {F : Nat → Nat → Nat} (a : Nat) (G : XG) (G1 : XG) (G26 : XG) (p0 : Int32) (x15 : Int32) (p1 : Int32)
    (ha : K a = 13)
    (hk9999 : K (F a 15) = 42)
    (hj9999 : F (F a 15) 99 = 15)
    (hk9999a : K (F a 17) = 43)
    (hj9999a : F (F a 17) 99 = 17)
    (hk9999b : K (F a 18) = 44)
    (hj9999b : F (F a 18) 99 = 18)
    (hk9999c : K (F a 11) = 38)
    (hj9999c : F (F a 11) 99 = 11)
    (hk9999d : K (F a 13) = 38)
    (hj9999d : F (F a 13) 99 = 13)
    (hk9999e : K (F a 10) = 37)
    (hj9999e : F (F a 10) 99 = 10)
    (hk9999f : K (F a 1) = 30)
    (hj9999f : F (F a 1) 99 = 1)
    (hk9999g : K (F a 2) = 31)
    (hj9999g : F (F a 2) 99 = 2)
    (oq1 : pL G1 F a = if ((G.1 a 6).toInt) = 0 then [] else fuO (G.2.1 (F a 10)) (mw (G.2.1 (F a 1)) 0) (mw (G.2.1 (F a 2)) 0) 1)
    (oq1a : ((G.1 a 6).toInt) ≠ 0 → LSt (G.2.1 (F a 10)) (G1.2.1 (F a 11)) (mw (G.2.1 (F a 1)) 0) 12 ∧ LSt (G.2.1 (F a 10)) (G1.2.1 (F a 13)) (mw (G.2.1 (F a 2)) 0) 12)
    (oq1b : G1.2.2.2 = G.2.2.2)
    (t1 : 0 ≤ ((G1.1 a 19).toInt) ∧ ((G1.1 a 19).toInt) ≤ 2388)
    (t15 : (x15.toInt = 1 ∧ (0 : Int) ≤ p0.toInt ∧ p0.toInt ≤ (((G1.1 a 19).toInt) - (1 : Int))) ∨ (x15.toInt = 0 ∧ (p0.toInt < (0 : Int) ∨ (((G1.1 a 19).toInt) - (1 : Int)) < p0.toInt)))
    (c18 : ¬ (x15.toInt = 0))
    (z39 : (0 ≤ (aI (G1.2.1 (F a 17)) (p0.toInt)) ∧ (aI (G1.2.1 (F a 17)) (p0.toInt)) ≤ 11) ∧ (aI (G.2.1 (F a 10)) (10 * (aI (G1.2.1 (F a 17)) (p0.toInt)) + 0)) ≠ -1 ∧ ((sF (aI (G.2.1 (F a 10)) (10 * (aI (G1.2.1 (F a 17)) (p0.toInt)) + 0))) ≤ (aI (G1.2.1 (F a 18)) (p0.toInt)) ∧ (aI (G1.2.1 (F a 18)) (p0.toInt)) ≤ (sL (aI (G.2.1 (F a 10)) (10 * (aI (G1.2.1 (F a 17)) (p0.toInt)) + 0)))))
    (z39a : ((sF (aI (G.2.1 (F a 10)) (10 * (aI (G1.2.1 (F a 17)) (p0.toInt)) + 0))) = 0 ∨ (sF (aI (G.2.1 (F a 10)) (10 * (aI (G1.2.1 (F a 17)) (p0.toInt)) + 0))) = -99) ∧ ((sL (aI (G.2.1 (F a 10)) (10 * (aI (G1.2.1 (F a 17)) (p0.toInt)) + 0))) = 29 ∨ (sL (aI (G.2.1 (F a 10)) (10 * (aI (G1.2.1 (F a 17)) (p0.toInt)) + 0))) = 99))
    (c56 : p1.toInt = 3)
    (d_G26_a_0 : G26.1 a 0 = 0) :
    (¬ (0 ≤ p0.toInt ∧ p0.toInt < (((if ((G.1 a 6).toInt) = 0 then [] else fuO (G.2.1 (F a 10)) (mw (G.2.1 (F a 1)) 0) (mw (G.2.1 (F a 2)) 0) 1).length : Nat) : Int)) ∧ ((G26.1 a 0).toInt) = 1 ∧ (aI (G1.2.1 (F a 11)) (199 * (aI (G1.2.1 (F a 17)) (p0.toInt)) + (aI (G1.2.1 (F a 18)) (p0.toInt)) + 99)) = 0) ∨ (∃ y : Int × Int, 0 ≤ p0.toInt ∧ (if ((G.1 a 6).toInt) = 0 then [] else fuO (G.2.1 (F a 10)) (mw (G.2.1 (F a 1)) 0) (mw (G.2.1 (F a 2)) 0) 1)[(p0.toInt).toNat]? = some y ∧ ((G26.1 a 0).toInt) = 0 ∧ (aI (G1.2.1 (F a 11)) (199 * (aI (G1.2.1 (F a 17)) (p0.toInt)) + (aI (G1.2.1 (F a 18)) (p0.toInt)) + 99)) = quM (G.2.1 (F a 10)) (mw (G.2.1 (F a 1)) 0) (mw (G.2.1 (F a 2)) 0) y p1.toInt) := by
  have hy := pL_at (G := G1) (F := F) (a := a) (z := p0.toInt) (by omega)
  rw [oq1] at hy
  have hw : (G.1 a 6).toInt ≠ 0 := fun h => by rw [if_pos h, List.getElem?_nil] at hy; cases hy
  refine Or.inr ⟨_, by omega, hy, (congrArg Int32.toInt d_G26_a_0).trans (by decide), ?_⟩
  rw [quM_3 (by omega)]
  exact (oq1a hw).1 _ _ z39.1.1 (by omega) z39.2.1 (sbj_FL.mpr z39.2.2)
theorem v_X11_queue_119_16 (a : Nat) (G : XG) (G1 : XG) (G26 : XG)
    (hG26 : G26 = dput G1 a 0 0)
    (oq1b : G1.2.2.2 = G.2.2.2) :
    G26.2.2.2 = G.2.2.2 := by
  rw [hG26]; exact oq1b
theorem v_X11_queue_138_17 {F : Nat → Nat → Nat} (a : Nat) (G : XG) (G26 : XG)
    (hR : RV (G.2.1 (F a 10)))
    (c_G26_F_a_10 : G26.2.1 (F a 10) = G.2.1 (F a 10)) :
    RV (G26.2.1 (F a 10)) := by simp only [c_G26_F_a_10]; assumption
theorem v_X11_queue_138_18 {F : Nat → Nat → Nat} (a : Nat) (G : XG) (G26 : XG)
    (hM : RM (G.2.1 (F a 1)) (0))
    (hB : RM (G.2.1 (F a 2)) 0)
    (c_G26_F_a_1 : G26.2.1 (F a 1) = G.2.1 (F a 1)) :
    RM (G26.2.1 (F a 1)) (0 : Int) := by simp only [c_G26_F_a_1]; assumption
theorem v_X11_queue_149_19 {K : Nat → Nat} {F : Nat → Nat → Nat} (a : Nat) (G : XG) (G1 : XG) (G26 : XG) (p0 : Int32) (x15 : Int32) (p1 : Int32) (x138 : Int32)
    (ha : K a = 13)
    (oq1 : pL G1 F a = if ((G.1 a 6).toInt) = 0 then [] else fuO (G.2.1 (F a 10)) (mw (G.2.1 (F a 1)) 0) (mw (G.2.1 (F a 2)) 0) 1)
    (oq1a : ((G.1 a 6).toInt) ≠ 0 → LSt (G.2.1 (F a 10)) (G1.2.1 (F a 11)) (mw (G.2.1 (F a 1)) 0) 12 ∧ LSt (G.2.1 (F a 10)) (G1.2.1 (F a 13)) (mw (G.2.1 (F a 2)) 0) 12)
    (oq1b : G1.2.2.2 = G.2.2.2)
    (t1 : 0 ≤ ((G1.1 a 19).toInt) ∧ ((G1.1 a 19).toInt) ≤ 2388)
    (t15 : (x15.toInt = 1 ∧ (0 : Int) ≤ p0.toInt ∧ p0.toInt ≤ (((G1.1 a 19).toInt) - (1 : Int))) ∨ (x15.toInt = 0 ∧ (p0.toInt < (0 : Int) ∨ (((G1.1 a 19).toInt) - (1 : Int)) < p0.toInt)))
    (c18 : ¬ (x15.toInt = 0))
    (z39 : (0 ≤ (aI (G1.2.1 (F a 17)) (p0.toInt)) ∧ (aI (G1.2.1 (F a 17)) (p0.toInt)) ≤ 11) ∧ (aI (G.2.1 (F a 10)) (10 * (aI (G1.2.1 (F a 17)) (p0.toInt)) + 0)) ≠ -1 ∧ ((sF (aI (G.2.1 (F a 10)) (10 * (aI (G1.2.1 (F a 17)) (p0.toInt)) + 0))) ≤ (aI (G1.2.1 (F a 18)) (p0.toInt)) ∧ (aI (G1.2.1 (F a 18)) (p0.toInt)) ≤ (sL (aI (G.2.1 (F a 10)) (10 * (aI (G1.2.1 (F a 17)) (p0.toInt)) + 0)))))
    (z39a : ((sF (aI (G.2.1 (F a 10)) (10 * (aI (G1.2.1 (F a 17)) (p0.toInt)) + 0))) = 0 ∨ (sF (aI (G.2.1 (F a 10)) (10 * (aI (G1.2.1 (F a 17)) (p0.toInt)) + 0))) = -99) ∧ ((sL (aI (G.2.1 (F a 10)) (10 * (aI (G1.2.1 (F a 17)) (p0.toInt)) + 0))) = 29 ∨ (sL (aI (G.2.1 (F a 10)) (10 * (aI (G1.2.1 (F a 17)) (p0.toInt)) + 0))) = 99))
    (c56 : p1.toInt = 4)
    (t138 : x138.toInt = (flq (mw (G.2.1 (F a 1)) 0) (aI (G.2.1 (F a 10)) (10 * (aI (G1.2.1 (F a 17)) (p0.toInt)) + 0)) (aI (G.2.1 (F a 10)) (10 * (aI (G1.2.1 (F a 17)) (p0.toInt)) + 1)) (aI (G.2.1 (F a 10)) (10 * (aI (G1.2.1 (F a 17)) (p0.toInt)) + 2)) (aI (G.2.1 (F a 10)) (10 * (aI (G1.2.1 (F a 17)) (p0.toInt)) + 4)) (aI (G.2.1 (F a 10)) (10 * (aI (G1.2.1 (F a 17)) (p0.toInt)) + 5)) (aI (G1.2.1 (F a 18)) (p0.toInt)) (stt (mw (G.2.1 (F a 1)) 0) (aI (G.2.1 (F a 10)) (10 * (aI (G1.2.1 (F a 17)) (p0.toInt)) + 0)) (aI (G.2.1 (F a 10)) (10 * (aI (G1.2.1 (F a 17)) (p0.toInt)) + 1)) (aI (G.2.1 (F a 10)) (10 * (aI (G1.2.1 (F a 17)) (p0.toInt)) + 2)) (aI (G.2.1 (F a 10)) (10 * (aI (G1.2.1 (F a 17)) (p0.toInt)) + 3)) (aI (G1.2.1 (F a 18)) (p0.toInt)))))
    (f38 : x138.toInt = 0 ∨ x138.toInt = 1)
    (c141 : x138.toInt = 0)
    (d_G26_a_0 : G26.1 a 0 = 0) :
    (¬ (0 ≤ p0.toInt ∧ p0.toInt < (((if ((G.1 a 6).toInt) = 0 then [] else fuO (G.2.1 (F a 10)) (mw (G.2.1 (F a 1)) 0) (mw (G.2.1 (F a 2)) 0) 1).length : Nat) : Int)) ∧ ((G26.1 a 0).toInt) = 1 ∧ (0 : Int) = 0) ∨ (∃ y : Int × Int, 0 ≤ p0.toInt ∧ (if ((G.1 a 6).toInt) = 0 then [] else fuO (G.2.1 (F a 10)) (mw (G.2.1 (F a 1)) 0) (mw (G.2.1 (F a 2)) 0) 1)[(p0.toInt).toNat]? = some y ∧ ((G26.1 a 0).toInt) = 0 ∧ (0 : Int) = quM (G.2.1 (F a 10)) (mw (G.2.1 (F a 1)) 0) (mw (G.2.1 (F a 2)) 0) y p1.toInt) := by
  have hy := pL_at (G := G1) (F := F) (a := a) (z := p0.toInt) (by omega)
  rw [oq1] at hy
  have hw : (G.1 a 6).toInt ≠ 0 := fun h => by rw [if_pos h, List.getElem?_nil] at hy; cases hy
  refine Or.inr ⟨_, by omega, hy, (congrArg Int32.toInt d_G26_a_0).trans (by decide), ?_⟩
  rw [quM_4 (by omega)]
  first
    | exact (show (0 : Int) = x138.toInt by omega).trans t138
    | exact (show (1 : Int) = x138.toInt by omega).trans t138
theorem v_X11_queue_149_20 (a : Nat) (G : XG) (G1 : XG) (G26 : XG)
    (hG26 : G26 = dput G1 a 0 0)
    (oq1b : G1.2.2.2 = G.2.2.2) :
    G26.2.2.2 = G.2.2.2 := by
  rw [hG26]; exact oq1b
theorem v_X11_queue_149_21 {K : Nat → Nat} {F : Nat → Nat → Nat} (a : Nat) (G : XG) (G1 : XG) (G26 : XG) (p0 : Int32) (x15 : Int32) (p1 : Int32) (x138 : Int32)
    (ha : K a = 13)
    (oq1 : pL G1 F a = if ((G.1 a 6).toInt) = 0 then [] else fuO (G.2.1 (F a 10)) (mw (G.2.1 (F a 1)) 0) (mw (G.2.1 (F a 2)) 0) 1)
    (oq1a : ((G.1 a 6).toInt) ≠ 0 → LSt (G.2.1 (F a 10)) (G1.2.1 (F a 11)) (mw (G.2.1 (F a 1)) 0) 12 ∧ LSt (G.2.1 (F a 10)) (G1.2.1 (F a 13)) (mw (G.2.1 (F a 2)) 0) 12)
    (oq1b : G1.2.2.2 = G.2.2.2)
    (t1 : 0 ≤ ((G1.1 a 19).toInt) ∧ ((G1.1 a 19).toInt) ≤ 2388)
    (t15 : (x15.toInt = 1 ∧ (0 : Int) ≤ p0.toInt ∧ p0.toInt ≤ (((G1.1 a 19).toInt) - (1 : Int))) ∨ (x15.toInt = 0 ∧ (p0.toInt < (0 : Int) ∨ (((G1.1 a 19).toInt) - (1 : Int)) < p0.toInt)))
    (c18 : ¬ (x15.toInt = 0))
    (z39 : (0 ≤ (aI (G1.2.1 (F a 17)) (p0.toInt)) ∧ (aI (G1.2.1 (F a 17)) (p0.toInt)) ≤ 11) ∧ (aI (G.2.1 (F a 10)) (10 * (aI (G1.2.1 (F a 17)) (p0.toInt)) + 0)) ≠ -1 ∧ ((sF (aI (G.2.1 (F a 10)) (10 * (aI (G1.2.1 (F a 17)) (p0.toInt)) + 0))) ≤ (aI (G1.2.1 (F a 18)) (p0.toInt)) ∧ (aI (G1.2.1 (F a 18)) (p0.toInt)) ≤ (sL (aI (G.2.1 (F a 10)) (10 * (aI (G1.2.1 (F a 17)) (p0.toInt)) + 0)))))
    (z39a : ((sF (aI (G.2.1 (F a 10)) (10 * (aI (G1.2.1 (F a 17)) (p0.toInt)) + 0))) = 0 ∨ (sF (aI (G.2.1 (F a 10)) (10 * (aI (G1.2.1 (F a 17)) (p0.toInt)) + 0))) = -99) ∧ ((sL (aI (G.2.1 (F a 10)) (10 * (aI (G1.2.1 (F a 17)) (p0.toInt)) + 0))) = 29 ∨ (sL (aI (G.2.1 (F a 10)) (10 * (aI (G1.2.1 (F a 17)) (p0.toInt)) + 0))) = 99))
    (c56 : p1.toInt = 4)
    (t138 : x138.toInt = (flq (mw (G.2.1 (F a 1)) 0) (aI (G.2.1 (F a 10)) (10 * (aI (G1.2.1 (F a 17)) (p0.toInt)) + 0)) (aI (G.2.1 (F a 10)) (10 * (aI (G1.2.1 (F a 17)) (p0.toInt)) + 1)) (aI (G.2.1 (F a 10)) (10 * (aI (G1.2.1 (F a 17)) (p0.toInt)) + 2)) (aI (G.2.1 (F a 10)) (10 * (aI (G1.2.1 (F a 17)) (p0.toInt)) + 4)) (aI (G.2.1 (F a 10)) (10 * (aI (G1.2.1 (F a 17)) (p0.toInt)) + 5)) (aI (G1.2.1 (F a 18)) (p0.toInt)) (stt (mw (G.2.1 (F a 1)) 0) (aI (G.2.1 (F a 10)) (10 * (aI (G1.2.1 (F a 17)) (p0.toInt)) + 0)) (aI (G.2.1 (F a 10)) (10 * (aI (G1.2.1 (F a 17)) (p0.toInt)) + 1)) (aI (G.2.1 (F a 10)) (10 * (aI (G1.2.1 (F a 17)) (p0.toInt)) + 2)) (aI (G.2.1 (F a 10)) (10 * (aI (G1.2.1 (F a 17)) (p0.toInt)) + 3)) (aI (G1.2.1 (F a 18)) (p0.toInt)))))
    (f38 : x138.toInt = 0 ∨ x138.toInt = 1)
    (c141 : ¬ (x138.toInt = 0))
    (d_G26_a_0 : G26.1 a 0 = 0) :
    (¬ (0 ≤ p0.toInt ∧ p0.toInt < (((if ((G.1 a 6).toInt) = 0 then [] else fuO (G.2.1 (F a 10)) (mw (G.2.1 (F a 1)) 0) (mw (G.2.1 (F a 2)) 0) 1).length : Nat) : Int)) ∧ ((G26.1 a 0).toInt) = 1 ∧ (1 : Int) = 0) ∨ (∃ y : Int × Int, 0 ≤ p0.toInt ∧ (if ((G.1 a 6).toInt) = 0 then [] else fuO (G.2.1 (F a 10)) (mw (G.2.1 (F a 1)) 0) (mw (G.2.1 (F a 2)) 0) 1)[(p0.toInt).toNat]? = some y ∧ ((G26.1 a 0).toInt) = 0 ∧ (1 : Int) = quM (G.2.1 (F a 10)) (mw (G.2.1 (F a 1)) 0) (mw (G.2.1 (F a 2)) 0) y p1.toInt) := by
  have hy := pL_at (G := G1) (F := F) (a := a) (z := p0.toInt) (by omega)
  rw [oq1] at hy
  have hw : (G.1 a 6).toInt ≠ 0 := fun h => by rw [if_pos h, List.getElem?_nil] at hy; cases hy
  refine Or.inr ⟨_, by omega, hy, (congrArg Int32.toInt d_G26_a_0).trans (by decide), ?_⟩
  rw [quM_4 (by omega)]
  first
    | exact (show (0 : Int) = x138.toInt by omega).trans t138
    | exact (show (1 : Int) = x138.toInt by omega).trans t138
theorem v_X11_queue_149_22 (a : Nat) (G : XG) (G1 : XG) (G26 : XG)
    (hG26 : G26 = dput G1 a 0 0)
    (oq1b : G1.2.2.2 = G.2.2.2) :
    G26.2.2.2 = G.2.2.2 := by
  rw [hG26]; exact oq1b
theorem v_X11_first_30_1 {F : Nat → Nat → Nat} (a : Nat) (G2 : XG) (G : XG)
    (hR : RV (G.2.1 (F a 10)))
    (c_G2_F_a_10 : G2.2.1 (F a 10) = G.2.1 (F a 10)) :
    RV (G2.2.1 (F a 10)) := by simp only [c_G2_F_a_10]; assumption
theorem v_X11_first_30_2 {F : Nat → Nat → Nat} (a : Nat) (G2 : XG) (G : XG)
    (hM : RM (G.2.1 (F a 1)) (0))
    (hB : RM (G.2.1 (F a 2)) 0)
    (c_G2_F_a_1 : G2.2.1 (F a 1) = G.2.1 (F a 1)) :
    RM (G2.2.1 (F a 1)) (0) := by simp only [c_G2_F_a_1]; assumption
theorem v_X11_first_30_3 {F : Nat → Nat → Nat} (a : Nat) (G2 : XG) (G : XG)
    (hM : RM (G.2.1 (F a 1)) (0))
    (hB : RM (G.2.1 (F a 2)) 0)
    (c_G2_F_a_2 : G2.2.1 (F a 2) = G.2.1 (F a 2)) :
    RM (G2.2.1 (F a 2)) 0 := by simp only [c_G2_F_a_2]; assumption
theorem v_X11_first_33_4 {F : Nat → Nat → Nat} (G30 : XG) (a : Nat) (G : XG)
    (oq30 : pL G30 F a = if ((G.1 a 6).toInt) = 0 then [] else fuO (G.2.1 (F a 10)) (mw (G.2.1 (F a 1)) 0) (mw (G.2.1 (F a 2)) 0) 1) :
    PV (G.2.1 (F a 10)) (pL G30 F a) := by
  rw [oq30]
  split
  · intro x hx; cases hx
  · exact fuO_pv _ _ _ _
theorem v_X11_first_84_5 {F : Nat → Nat → Nat} (a : Nat) (G : XG) (G30 : XG)
    (hR : RV (G.2.1 (F a 10)))
    (c_G30_F_a_10 : G30.2.1 (F a 10) = G.2.1 (F a 10)) :
    RV (G30.2.1 (F a 10)) := by simp only [c_G30_F_a_10]; assumption
theorem v_X11_first_84_6 {F : Nat → Nat → Nat} (a : Nat) (G : XG) (G30 : XG)
    (hM : RM (G.2.1 (F a 1)) (0))
    (hB : RM (G.2.1 (F a 2)) 0)
    (c_G30_F_a_1 : G30.2.1 (F a 1) = G.2.1 (F a 1)) :
    RM (G30.2.1 (F a 1)) (0) := by simp only [c_G30_F_a_1]; assumption
theorem v_X11_first_84_7 {F : Nat → Nat → Nat} (G : XG) (a : Nat) (G30 : XG)
    (hvq : PV (G.2.1 (F a 10)) (pL G30 F a))
    (c_G30_F_a_10 : G30.2.1 (F a 10) = G.2.1 (F a 10)) :
    PV (G30.2.1 (F a 10)) (pL G30 F a) := by
  first | exact hvq | (simp only [c_G30_F_a_10]; exact hvq)
theorem v_X11_first_64_8 {F : Nat → Nat → Nat} (a : Nat) (G : XG) (G30 : XG)
    (hR : RV (G.2.1 (F a 10)))
    (c_G30_F_a_10 : G30.2.1 (F a 10) = G.2.1 (F a 10)) :
    RV (G30.2.1 (F a 10)) := by simp only [c_G30_F_a_10]; assumption
theorem v_X11_first_64_9 {F : Nat → Nat → Nat} (a : Nat) (G : XG) (G30 : XG)
    (hM : RM (G.2.1 (F a 1)) (0))
    (hB : RM (G.2.1 (F a 2)) 0)
    (c_G30_F_a_1 : G30.2.1 (F a 1) = G.2.1 (F a 1)) :
    RM (G30.2.1 (F a 1)) (0 : Int) := by simp only [c_G30_F_a_1]; assumption
theorem v_X11_group_21_1 {K : Nat → Nat} {F : Nat → Nat → Nat} (a : Nat) (G : XG) (p0 : Int32) (p1 : Int32)
    (ha : K a = 13)
    (c7 : p0.toInt < (-1 : Int)) :
    ((p1.toInt < 0 ∨ 1 < p1.toInt) ∧ (-1 : Int) = -1) ∨ ((0 ≤ p1.toInt ∧ p1.toInt ≤ 1) ∧ GrM (nth1 (if ((G.1 a 6).toInt) = 0 then [] else fuO (G.2.1 (F a 10)) (mw (G.2.1 (F a 1)) 0) (mw (G.2.1 (F a 2)) 0) 1)) (((if ((G.1 a 6).toInt) = 0 then [] else fuO (G.2.1 (F a 10)) (mw (G.2.1 (F a 1)) 0) (mw (G.2.1 (F a 2)) 0) 1).length : Nat) : Int) p0.toInt p1.toInt (-1 : Int)) := by
  first
    | exact Or.inl ⟨by omega, rfl⟩
    | (by_cases h9 : 0 ≤ p1.toInt ∧ p1.toInt ≤ 1
       · exact Or.inr ⟨h9, Or.inr (Or.inl ⟨by omega, Or.inl (by omega), rfl⟩)⟩
       · exact Or.inl ⟨by omega, rfl⟩)
theorem v_X11_group_23_2 {F : Nat → Nat → Nat} (a : Nat) (G2 : XG) (G : XG)
    (hR : RV (G.2.1 (F a 10)))
    (c_G2_F_a_10 : G2.2.1 (F a 10) = G.2.1 (F a 10)) :
    RV (G2.2.1 (F a 10)) := by simp only [c_G2_F_a_10]; assumption
theorem v_X11_group_23_3 {F : Nat → Nat → Nat} (a : Nat) (G2 : XG) (G : XG)
    (hM : RM (G.2.1 (F a 1)) (0))
    (hB : RM (G.2.1 (F a 2)) 0)
    (c_G2_F_a_1 : G2.2.1 (F a 1) = G.2.1 (F a 1)) :
    RM (G2.2.1 (F a 1)) (0) := by simp only [c_G2_F_a_1]; assumption
theorem v_X11_group_23_4 {F : Nat → Nat → Nat} (a : Nat) (G2 : XG) (G : XG)
    (hM : RM (G.2.1 (F a 1)) (0))
    (hB : RM (G.2.1 (F a 2)) 0)
    (c_G2_F_a_2 : G2.2.1 (F a 2) = G.2.1 (F a 2)) :
    RM (G2.2.1 (F a 2)) 0 := by simp only [c_G2_F_a_2]; assumption
theorem v_X11_group_117_5 {K : Nat → Nat} {F : Nat → Nat → Nat} (a : Nat) (G2 : XG) (G : XG) (G23 : XG) (l4_34 : Int32) (l5_34 : Int32) (p0 : Int32) (x14 : Int32) (p1 : Int32) (l3_34 : Int32) (N34 : Nat)
    (ha : K a = 13)
    (oq23 : pL G23 F a = if ((G.1 a 6).toInt) = 0 then [] else fuO (G.2.1 (F a 10)) (mw (G.2.1 (F a 1)) 0) (mw (G.2.1 (F a 2)) 0) 1)
    (oq23a : ((G.1 a 6).toInt) ≠ 0 → LSt (G.2.1 (F a 10)) (G23.2.1 (F a 11)) (mw (G.2.1 (F a 1)) 0) 12 ∧ LSt (G.2.1 (F a 10)) (G23.2.1 (F a 13)) (mw (G.2.1 (F a 2)) 0) 12)
    (oq23b : G23.2.2.2 = G2.2.2.2)
    (c7 : ¬ (p0.toInt < (-1 : Int)))
    (t14 : (x14.toInt = 1 ∧ (0 : Int) ≤ p1.toInt ∧ p1.toInt ≤ (1 : Int)) ∨ (x14.toInt = 0 ∧ (p1.toInt < (0 : Int) ∨ (1 : Int) < p1.toInt)))
    (c17 : x14.toInt ≠ 0)
    (t23 : 0 ≤ ((G23.1 a 19).toInt) ∧ ((G23.1 a 19).toInt) ≤ 2388)
    (z26 : (stF (aI (G23.2.1 (F a 17))) 0) = 0)
    (I34_0 : 1 ≤ l5_34.toInt ∧ l5_34.toInt ≤ ((G23.1 a 19).toInt) + 1)
    (I34_1 : 0 ≤ l4_34.toInt ∧ l4_34.toInt < l5_34.toInt)
    (I34_2 : 0 ≤ l3_34.toInt ∧ l3_34.toInt ≤ l5_34.toInt)
    (I34_3 : ((G23.1 a 19).toInt) ≤ 2388)
    (I34_4 : l3_34.toInt = (stF (aI (G23.2.1 (F a 17))) (l4_34.toInt)))
    (I34_5 : l4_34.toInt = ((G23.1 a 19).toInt) ∨ l4_34.toInt = 0 ∨ (aI (G23.2.1 (F a 17)) (l4_34.toInt)) ≠ (aI (G23.2.1 (F a 17)) (l4_34.toInt - 1)))
    (I34_6 : p0.toInt < 0 ∨ l3_34.toInt ≤ p0.toInt)
    (I34_7 : l5_34.toInt ≤ ((G23.1 a 19).toInt) ∨ l4_34.toInt = ((G23.1 a 19).toInt))
    (I34_8 : l4_34.toInt ≤ ((G23.1 a 19).toInt))
    (hm34 : 5000 - l5_34.toInt < (((N34) + 1 : Nat) : Int))
    (c40 : ((G23.1 a 19).toInt) < l5_34.toInt)
    (z107 : l4_34.toInt = ((G23.1 a 19).toInt) → (stF (aI (G23.2.1 (F a 17))) (l4_34.toInt)) = (stF (aI (G23.2.1 (F a 17))) ((G23.1 a 19).toInt)))
    (c109 : p0.toInt ≠ (-1 : Int)) :
    ((p1.toInt < 0 ∨ 1 < p1.toInt) ∧ (-1 : Int) = -1) ∨ ((0 ≤ p1.toInt ∧ p1.toInt ≤ 1) ∧ GrM (nth1 (if ((G.1 a 6).toInt) = 0 then [] else fuO (G.2.1 (F a 10)) (mw (G.2.1 (F a 1)) 0) (mw (G.2.1 (F a 2)) 0) 1)) (((if ((G.1 a 6).toInt) = 0 then [] else fuO (G.2.1 (F a 10)) (mw (G.2.1 (F a 1)) 0) (mw (G.2.1 (F a 2)) 0) 1).length : Nat) : Int) p0.toInt p1.toInt (-1 : Int)) := by
  rw [← oq23, pL_len]
  refine Or.inr ⟨by omega, GrM_congr (g := aI (G23.2.1 (F a 17))) (fun j a1 a2 => (nth1_pL ⟨a1, by omega⟩).symm) ?_⟩
  rw [show (((G23.1 a 19).toInt.toNat : Nat) : Int) = (G23.1 a 19).toInt from by omega]
  first
    | exact Or.inl ⟨by omega, by omega⟩
    | exact Or.inr (Or.inl ⟨by omega, by omega, rfl⟩)
theorem v_X11_group_117_6 {K : Nat → Nat} {F : Nat → Nat → Nat} (a : Nat) (G2 : XG) (G : XG) (G23 : XG) (l4_34 : Int32) (l5_34 : Int32) (p0 : Int32) (x14 : Int32) (p1 : Int32) (l3_34 : Int32) (N34 : Nat)
    (ha : K a = 13)
    (oq23 : pL G23 F a = if ((G.1 a 6).toInt) = 0 then [] else fuO (G.2.1 (F a 10)) (mw (G.2.1 (F a 1)) 0) (mw (G.2.1 (F a 2)) 0) 1)
    (oq23a : ((G.1 a 6).toInt) ≠ 0 → LSt (G.2.1 (F a 10)) (G23.2.1 (F a 11)) (mw (G.2.1 (F a 1)) 0) 12 ∧ LSt (G.2.1 (F a 10)) (G23.2.1 (F a 13)) (mw (G.2.1 (F a 2)) 0) 12)
    (oq23b : G23.2.2.2 = G2.2.2.2)
    (c7 : ¬ (p0.toInt < (-1 : Int)))
    (t14 : (x14.toInt = 1 ∧ (0 : Int) ≤ p1.toInt ∧ p1.toInt ≤ (1 : Int)) ∨ (x14.toInt = 0 ∧ (p1.toInt < (0 : Int) ∨ (1 : Int) < p1.toInt)))
    (c17 : x14.toInt ≠ 0)
    (t23 : 0 ≤ ((G23.1 a 19).toInt) ∧ ((G23.1 a 19).toInt) ≤ 2388)
    (z26 : (stF (aI (G23.2.1 (F a 17))) 0) = 0)
    (I34_0 : 1 ≤ l5_34.toInt ∧ l5_34.toInt ≤ ((G23.1 a 19).toInt) + 1)
    (I34_1 : 0 ≤ l4_34.toInt ∧ l4_34.toInt < l5_34.toInt)
    (I34_2 : 0 ≤ l3_34.toInt ∧ l3_34.toInt ≤ l5_34.toInt)
    (I34_3 : ((G23.1 a 19).toInt) ≤ 2388)
    (I34_4 : l3_34.toInt = (stF (aI (G23.2.1 (F a 17))) (l4_34.toInt)))
    (I34_5 : l4_34.toInt = ((G23.1 a 19).toInt) ∨ l4_34.toInt = 0 ∨ (aI (G23.2.1 (F a 17)) (l4_34.toInt)) ≠ (aI (G23.2.1 (F a 17)) (l4_34.toInt - 1)))
    (I34_6 : p0.toInt < 0 ∨ l3_34.toInt ≤ p0.toInt)
    (I34_7 : l5_34.toInt ≤ ((G23.1 a 19).toInt) ∨ l4_34.toInt = ((G23.1 a 19).toInt))
    (I34_8 : l4_34.toInt ≤ ((G23.1 a 19).toInt))
    (hm34 : 5000 - l5_34.toInt < (((N34) + 1 : Nat) : Int))
    (c40 : ((G23.1 a 19).toInt) < l5_34.toInt)
    (z107 : l4_34.toInt = ((G23.1 a 19).toInt) → (stF (aI (G23.2.1 (F a 17))) (l4_34.toInt)) = (stF (aI (G23.2.1 (F a 17))) ((G23.1 a 19).toInt)))
    (c109 : ¬ (p0.toInt ≠ (-1 : Int))) :
    ((p1.toInt < 0 ∨ 1 < p1.toInt) ∧ l3_34.toInt = -1) ∨ ((0 ≤ p1.toInt ∧ p1.toInt ≤ 1) ∧ GrM (nth1 (if ((G.1 a 6).toInt) = 0 then [] else fuO (G.2.1 (F a 10)) (mw (G.2.1 (F a 1)) 0) (mw (G.2.1 (F a 2)) 0) 1)) (((if ((G.1 a 6).toInt) = 0 then [] else fuO (G.2.1 (F a 10)) (mw (G.2.1 (F a 1)) 0) (mw (G.2.1 (F a 2)) 0) 1).length : Nat) : Int) p0.toInt p1.toInt l3_34.toInt) := by
  rw [← oq23, pL_len]
  refine Or.inr ⟨by omega, GrM_congr (g := aI (G23.2.1 (F a 17))) (fun j a1 a2 => (nth1_pL ⟨a1, by omega⟩).symm) ?_⟩
  rw [show (((G23.1 a 19).toInt.toNat : Nat) : Int) = (G23.1 a 19).toInt from by omega]
  first
    | exact Or.inl ⟨by omega, by omega⟩
    | exact Or.inr (Or.inl ⟨by omega, by omega, rfl⟩)
theorem v_X11_group_104_7 {K : Nat → Nat} {F : Nat → Nat → Nat} (a : Nat) (G2 : XG) (G : XG) (G23 : XG) (l4_34 : Int32) (l5_34 : Int32) (l3_34 : Int32) (p0 : Int32) (x14 : Int32) (p1 : Int32) (N34 : Nat)
    (ha : K a = 13)
    (oq23a : ((G.1 a 6).toInt) ≠ 0 → LSt (G.2.1 (F a 10)) (G23.2.1 (F a 11)) (mw (G.2.1 (F a 1)) 0) 12 ∧ LSt (G.2.1 (F a 10)) (G23.2.1 (F a 13)) (mw (G.2.1 (F a 2)) 0) 12)
    (oq23b : G23.2.2.2 = G2.2.2.2)
    (rn : ∀ j : Int, l4_34.toInt ≤ j → j < l5_34.toInt → j < (G23.1 a 19).toInt → aI (G23.2.1 (F a 17)) j = aI (G23.2.1 (F a 17)) l4_34.toInt)
    (c7 : ¬ (p0.toInt < (-1 : Int)))
    (t14 : (x14.toInt = 1 ∧ (0 : Int) ≤ p1.toInt ∧ p1.toInt ≤ (1 : Int)) ∨ (x14.toInt = 0 ∧ (p1.toInt < (0 : Int) ∨ (1 : Int) < p1.toInt)))
    (c17 : x14.toInt ≠ 0)
    (t23 : 0 ≤ ((G23.1 a 19).toInt) ∧ ((G23.1 a 19).toInt) ≤ 2388)
    (z26 : (stF (aI (G23.2.1 (F a 17))) 0) = 0)
    (I34_0 : 1 ≤ l5_34.toInt ∧ l5_34.toInt ≤ ((G23.1 a 19).toInt) + 1)
    (I34_1 : 0 ≤ l4_34.toInt ∧ l4_34.toInt < l5_34.toInt)
    (I34_2 : 0 ≤ l3_34.toInt ∧ l3_34.toInt ≤ l5_34.toInt)
    (I34_3 : ((G23.1 a 19).toInt) ≤ 2388)
    (I34_4 : l3_34.toInt = (stF (aI (G23.2.1 (F a 17))) (l4_34.toInt)))
    (I34_5 : l4_34.toInt = ((G23.1 a 19).toInt) ∨ l4_34.toInt = 0 ∨ (aI (G23.2.1 (F a 17)) (l4_34.toInt)) ≠ (aI (G23.2.1 (F a 17)) (l4_34.toInt - 1)))
    (I34_6 : p0.toInt < 0 ∨ l3_34.toInt ≤ p0.toInt)
    (I34_7 : l5_34.toInt ≤ ((G23.1 a 19).toInt) ∨ l4_34.toInt = ((G23.1 a 19).toInt))
    (I34_8 : l4_34.toInt ≤ ((G23.1 a 19).toInt))
    (hm34 : 5000 - l5_34.toInt < (((N34) + 1 : Nat) : Int))
    (c40 : ¬ (((G23.1 a 19).toInt) < l5_34.toInt))
    (c49 : l5_34.toInt = ((G23.1 a 19).toInt))
    (z69 : (stF (aI (G23.2.1 (F a 17))) (l5_34.toInt)) = (stF (aI (G23.2.1 (F a 17))) (l4_34.toInt)) + 1)
    (z69a : (aI (G23.2.1 (F a 17)) (l5_34.toInt - 1)) = (aI (G23.2.1 (F a 17)) (l4_34.toInt)))
    (c71 : l3_34.toInt ≠ p0.toInt) :
    ∀ j : Int, l5_34.toInt ≤ j → j < (l5_34.toInt + 1) → j < (G23.1 a 19).toInt → aI (G23.2.1 (F a 17)) j = aI (G23.2.1 (F a 17)) l5_34.toInt := by
  first
    | (intro j a1 a2 a3
       rw [show j = l5_34.toInt from by omega])
    | (intro j a1 a2 a3
       by_cases e : j = l5_34.toInt
       · rw [e]; omega
       · exact rn j a1 (by omega) a3)
theorem v_X11_group_93_8 {K : Nat → Nat} {F : Nat → Nat → Nat} (a : Nat) (G2 : XG) (G : XG) (G23 : XG) (l4_34 : Int32) (l5_34 : Int32) (p0 : Int32) (x14 : Int32) (p1 : Int32) (l3_34 : Int32) (N34 : Nat) (x92 : Int32)
    (ha : K a = 13)
    (oq23 : pL G23 F a = if ((G.1 a 6).toInt) = 0 then [] else fuO (G.2.1 (F a 10)) (mw (G.2.1 (F a 1)) 0) (mw (G.2.1 (F a 2)) 0) 1)
    (oq23a : ((G.1 a 6).toInt) ≠ 0 → LSt (G.2.1 (F a 10)) (G23.2.1 (F a 11)) (mw (G.2.1 (F a 1)) 0) 12 ∧ LSt (G.2.1 (F a 10)) (G23.2.1 (F a 13)) (mw (G.2.1 (F a 2)) 0) 12)
    (oq23b : G23.2.2.2 = G2.2.2.2)
    (rn : ∀ j : Int, l4_34.toInt ≤ j → j < l5_34.toInt → j < (G23.1 a 19).toInt → aI (G23.2.1 (F a 17)) j = aI (G23.2.1 (F a 17)) l4_34.toInt)
    (c7 : ¬ (p0.toInt < (-1 : Int)))
    (t14 : (x14.toInt = 1 ∧ (0 : Int) ≤ p1.toInt ∧ p1.toInt ≤ (1 : Int)) ∨ (x14.toInt = 0 ∧ (p1.toInt < (0 : Int) ∨ (1 : Int) < p1.toInt)))
    (c17 : x14.toInt ≠ 0)
    (t23 : 0 ≤ ((G23.1 a 19).toInt) ∧ ((G23.1 a 19).toInt) ≤ 2388)
    (z26 : (stF (aI (G23.2.1 (F a 17))) 0) = 0)
    (I34_0 : 1 ≤ l5_34.toInt ∧ l5_34.toInt ≤ ((G23.1 a 19).toInt) + 1)
    (I34_1 : 0 ≤ l4_34.toInt ∧ l4_34.toInt < l5_34.toInt)
    (I34_2 : 0 ≤ l3_34.toInt ∧ l3_34.toInt ≤ l5_34.toInt)
    (I34_3 : ((G23.1 a 19).toInt) ≤ 2388)
    (I34_4 : l3_34.toInt = (stF (aI (G23.2.1 (F a 17))) (l4_34.toInt)))
    (I34_5 : l4_34.toInt = ((G23.1 a 19).toInt) ∨ l4_34.toInt = 0 ∨ (aI (G23.2.1 (F a 17)) (l4_34.toInt)) ≠ (aI (G23.2.1 (F a 17)) (l4_34.toInt - 1)))
    (I34_6 : p0.toInt < 0 ∨ l3_34.toInt ≤ p0.toInt)
    (I34_7 : l5_34.toInt ≤ ((G23.1 a 19).toInt) ∨ l4_34.toInt = ((G23.1 a 19).toInt))
    (I34_8 : l4_34.toInt ≤ ((G23.1 a 19).toInt))
    (hm34 : 5000 - l5_34.toInt < (((N34) + 1 : Nat) : Int))
    (c40 : ¬ (((G23.1 a 19).toInt) < l5_34.toInt))
    (c49 : l5_34.toInt = ((G23.1 a 19).toInt))
    (z69 : (stF (aI (G23.2.1 (F a 17))) (l5_34.toInt)) = (stF (aI (G23.2.1 (F a 17))) (l4_34.toInt)) + 1)
    (z69a : (aI (G23.2.1 (F a 17)) (l5_34.toInt - 1)) = (aI (G23.2.1 (F a 17)) (l4_34.toInt)))
    (c71 : ¬ (l3_34.toInt ≠ p0.toInt))
    (c75 : p1.toInt ≠ 0)
    (t92 : x92.toInt = l5_34.toInt - l4_34.toInt ∨ l5_34.toInt - l4_34.toInt < -2147483648 ∨ 2147483648 ≤ l5_34.toInt - l4_34.toInt) :
    ((p1.toInt < 0 ∨ 1 < p1.toInt) ∧ x92.toInt = -1) ∨ ((0 ≤ p1.toInt ∧ p1.toInt ≤ 1) ∧ GrM (nth1 (if ((G.1 a 6).toInt) = 0 then [] else fuO (G.2.1 (F a 10)) (mw (G.2.1 (F a 1)) 0) (mw (G.2.1 (F a 2)) 0) 1)) (((if ((G.1 a 6).toInt) = 0 then [] else fuO (G.2.1 (F a 10)) (mw (G.2.1 (F a 1)) 0) (mw (G.2.1 (F a 2)) 0) 1).length : Nat) : Int) p0.toInt p1.toInt x92.toInt) := by
  rw [← oq23, pL_len]
  refine Or.inr ⟨by omega, GrM_congr (g := aI (G23.2.1 (F a 17))) (fun j a1 a2 => (nth1_pL ⟨a1, by omega⟩).symm) ?_⟩
  rw [show (((G23.1 a 19).toInt.toNat : Nat) : Int) = (G23.1 a 19).toInt from by omega]
  refine Or.inr (Or.inr ⟨l4_34.toInt, l5_34.toInt, ⟨by omega, by omega, by omega⟩, by omega, by omega, fun j a1 a2 => rn j a1 a2 (by omega), by omega, ?_⟩)
  first
    | exact Or.inr ⟨by omega, by omega⟩
    | exact Or.inl ⟨by omega, rfl⟩
theorem v_X11_group_93_9 {K : Nat → Nat} {F : Nat → Nat → Nat} (a : Nat) (G2 : XG) (G : XG) (G23 : XG) (l4_34 : Int32) (l5_34 : Int32) (p0 : Int32) (x14 : Int32) (p1 : Int32) (l3_34 : Int32) (N34 : Nat)
    (ha : K a = 13)
    (oq23 : pL G23 F a = if ((G.1 a 6).toInt) = 0 then [] else fuO (G.2.1 (F a 10)) (mw (G.2.1 (F a 1)) 0) (mw (G.2.1 (F a 2)) 0) 1)
    (oq23a : ((G.1 a 6).toInt) ≠ 0 → LSt (G.2.1 (F a 10)) (G23.2.1 (F a 11)) (mw (G.2.1 (F a 1)) 0) 12 ∧ LSt (G.2.1 (F a 10)) (G23.2.1 (F a 13)) (mw (G.2.1 (F a 2)) 0) 12)
    (oq23b : G23.2.2.2 = G2.2.2.2)
    (rn : ∀ j : Int, l4_34.toInt ≤ j → j < l5_34.toInt → j < (G23.1 a 19).toInt → aI (G23.2.1 (F a 17)) j = aI (G23.2.1 (F a 17)) l4_34.toInt)
    (c7 : ¬ (p0.toInt < (-1 : Int)))
    (t14 : (x14.toInt = 1 ∧ (0 : Int) ≤ p1.toInt ∧ p1.toInt ≤ (1 : Int)) ∨ (x14.toInt = 0 ∧ (p1.toInt < (0 : Int) ∨ (1 : Int) < p1.toInt)))
    (c17 : x14.toInt ≠ 0)
    (t23 : 0 ≤ ((G23.1 a 19).toInt) ∧ ((G23.1 a 19).toInt) ≤ 2388)
    (z26 : (stF (aI (G23.2.1 (F a 17))) 0) = 0)
    (I34_0 : 1 ≤ l5_34.toInt ∧ l5_34.toInt ≤ ((G23.1 a 19).toInt) + 1)
    (I34_1 : 0 ≤ l4_34.toInt ∧ l4_34.toInt < l5_34.toInt)
    (I34_2 : 0 ≤ l3_34.toInt ∧ l3_34.toInt ≤ l5_34.toInt)
    (I34_3 : ((G23.1 a 19).toInt) ≤ 2388)
    (I34_4 : l3_34.toInt = (stF (aI (G23.2.1 (F a 17))) (l4_34.toInt)))
    (I34_5 : l4_34.toInt = ((G23.1 a 19).toInt) ∨ l4_34.toInt = 0 ∨ (aI (G23.2.1 (F a 17)) (l4_34.toInt)) ≠ (aI (G23.2.1 (F a 17)) (l4_34.toInt - 1)))
    (I34_6 : p0.toInt < 0 ∨ l3_34.toInt ≤ p0.toInt)
    (I34_7 : l5_34.toInt ≤ ((G23.1 a 19).toInt) ∨ l4_34.toInt = ((G23.1 a 19).toInt))
    (I34_8 : l4_34.toInt ≤ ((G23.1 a 19).toInt))
    (hm34 : 5000 - l5_34.toInt < (((N34) + 1 : Nat) : Int))
    (c40 : ¬ (((G23.1 a 19).toInt) < l5_34.toInt))
    (c49 : l5_34.toInt = ((G23.1 a 19).toInt))
    (z69 : (stF (aI (G23.2.1 (F a 17))) (l5_34.toInt)) = (stF (aI (G23.2.1 (F a 17))) (l4_34.toInt)) + 1)
    (z69a : (aI (G23.2.1 (F a 17)) (l5_34.toInt - 1)) = (aI (G23.2.1 (F a 17)) (l4_34.toInt)))
    (c71 : ¬ (l3_34.toInt ≠ p0.toInt))
    (c75 : ¬ (p1.toInt ≠ 0)) :
    ((p1.toInt < 0 ∨ 1 < p1.toInt) ∧ (aI (G23.2.1 (F a 17)) (l4_34.toInt)) = -1) ∨ ((0 ≤ p1.toInt ∧ p1.toInt ≤ 1) ∧ GrM (nth1 (if ((G.1 a 6).toInt) = 0 then [] else fuO (G.2.1 (F a 10)) (mw (G.2.1 (F a 1)) 0) (mw (G.2.1 (F a 2)) 0) 1)) (((if ((G.1 a 6).toInt) = 0 then [] else fuO (G.2.1 (F a 10)) (mw (G.2.1 (F a 1)) 0) (mw (G.2.1 (F a 2)) 0) 1).length : Nat) : Int) p0.toInt p1.toInt (aI (G23.2.1 (F a 17)) (l4_34.toInt))) := by
  rw [← oq23, pL_len]
  refine Or.inr ⟨by omega, GrM_congr (g := aI (G23.2.1 (F a 17))) (fun j a1 a2 => (nth1_pL ⟨a1, by omega⟩).symm) ?_⟩
  rw [show (((G23.1 a 19).toInt.toNat : Nat) : Int) = (G23.1 a 19).toInt from by omega]
  refine Or.inr (Or.inr ⟨l4_34.toInt, l5_34.toInt, ⟨by omega, by omega, by omega⟩, by omega, by omega, fun j a1 a2 => rn j a1 a2 (by omega), by omega, ?_⟩)
  first
    | exact Or.inr ⟨by omega, by omega⟩
    | exact Or.inl ⟨by omega, rfl⟩
theorem v_X11_group_104_10 {K : Nat → Nat} {F : Nat → Nat → Nat} (a : Nat) (G2 : XG) (G : XG) (G23 : XG) (l4_34 : Int32) (l5_34 : Int32) (p0 : Int32) (x14 : Int32) (p1 : Int32) (l3_34 : Int32) (N34 : Nat)
    (ha : K a = 13)
    (oq23a : ((G.1 a 6).toInt) ≠ 0 → LSt (G.2.1 (F a 10)) (G23.2.1 (F a 11)) (mw (G.2.1 (F a 1)) 0) 12 ∧ LSt (G.2.1 (F a 10)) (G23.2.1 (F a 13)) (mw (G.2.1 (F a 2)) 0) 12)
    (oq23b : G23.2.2.2 = G2.2.2.2)
    (rn : ∀ j : Int, l4_34.toInt ≤ j → j < l5_34.toInt → j < (G23.1 a 19).toInt → aI (G23.2.1 (F a 17)) j = aI (G23.2.1 (F a 17)) l4_34.toInt)
    (c7 : ¬ (p0.toInt < (-1 : Int)))
    (t14 : (x14.toInt = 1 ∧ (0 : Int) ≤ p1.toInt ∧ p1.toInt ≤ (1 : Int)) ∨ (x14.toInt = 0 ∧ (p1.toInt < (0 : Int) ∨ (1 : Int) < p1.toInt)))
    (c17 : x14.toInt ≠ 0)
    (t23 : 0 ≤ ((G23.1 a 19).toInt) ∧ ((G23.1 a 19).toInt) ≤ 2388)
    (z26 : (stF (aI (G23.2.1 (F a 17))) 0) = 0)
    (I34_0 : 1 ≤ l5_34.toInt ∧ l5_34.toInt ≤ ((G23.1 a 19).toInt) + 1)
    (I34_1 : 0 ≤ l4_34.toInt ∧ l4_34.toInt < l5_34.toInt)
    (I34_2 : 0 ≤ l3_34.toInt ∧ l3_34.toInt ≤ l5_34.toInt)
    (I34_3 : ((G23.1 a 19).toInt) ≤ 2388)
    (I34_4 : l3_34.toInt = (stF (aI (G23.2.1 (F a 17))) (l4_34.toInt)))
    (I34_5 : l4_34.toInt = ((G23.1 a 19).toInt) ∨ l4_34.toInt = 0 ∨ (aI (G23.2.1 (F a 17)) (l4_34.toInt)) ≠ (aI (G23.2.1 (F a 17)) (l4_34.toInt - 1)))
    (I34_6 : p0.toInt < 0 ∨ l3_34.toInt ≤ p0.toInt)
    (I34_7 : l5_34.toInt ≤ ((G23.1 a 19).toInt) ∨ l4_34.toInt = ((G23.1 a 19).toInt))
    (I34_8 : l4_34.toInt ≤ ((G23.1 a 19).toInt))
    (hm34 : 5000 - l5_34.toInt < (((N34) + 1 : Nat) : Int))
    (c40 : ¬ (((G23.1 a 19).toInt) < l5_34.toInt))
    (c49 : ¬ (l5_34.toInt = ((G23.1 a 19).toInt)))
    (c66 : (aI (G23.2.1 (F a 17)) (l5_34.toInt)) = (aI (G23.2.1 (F a 17)) (l4_34.toInt))) :
    ∀ j : Int, l4_34.toInt ≤ j → j < (l5_34.toInt + 1) → j < (G23.1 a 19).toInt → aI (G23.2.1 (F a 17)) j = aI (G23.2.1 (F a 17)) l4_34.toInt := by
  first
    | (intro j a1 a2 a3
       rw [show j = l5_34.toInt from by omega])
    | (intro j a1 a2 a3
       by_cases e : j = l5_34.toInt
       · rw [e]; omega
       · exact rn j a1 (by omega) a3)
theorem v_X11_group_104_11 {K : Nat → Nat} {F : Nat → Nat → Nat} (a : Nat) (G2 : XG) (G : XG) (G23 : XG) (l4_34 : Int32) (l5_34 : Int32) (l3_34 : Int32) (p0 : Int32) (x14 : Int32) (p1 : Int32) (N34 : Nat)
    (ha : K a = 13)
    (oq23a : ((G.1 a 6).toInt) ≠ 0 → LSt (G.2.1 (F a 10)) (G23.2.1 (F a 11)) (mw (G.2.1 (F a 1)) 0) 12 ∧ LSt (G.2.1 (F a 10)) (G23.2.1 (F a 13)) (mw (G.2.1 (F a 2)) 0) 12)
    (oq23b : G23.2.2.2 = G2.2.2.2)
    (rn : ∀ j : Int, l4_34.toInt ≤ j → j < l5_34.toInt → j < (G23.1 a 19).toInt → aI (G23.2.1 (F a 17)) j = aI (G23.2.1 (F a 17)) l4_34.toInt)
    (c7 : ¬ (p0.toInt < (-1 : Int)))
    (t14 : (x14.toInt = 1 ∧ (0 : Int) ≤ p1.toInt ∧ p1.toInt ≤ (1 : Int)) ∨ (x14.toInt = 0 ∧ (p1.toInt < (0 : Int) ∨ (1 : Int) < p1.toInt)))
    (c17 : x14.toInt ≠ 0)
    (t23 : 0 ≤ ((G23.1 a 19).toInt) ∧ ((G23.1 a 19).toInt) ≤ 2388)
    (z26 : (stF (aI (G23.2.1 (F a 17))) 0) = 0)
    (I34_0 : 1 ≤ l5_34.toInt ∧ l5_34.toInt ≤ ((G23.1 a 19).toInt) + 1)
    (I34_1 : 0 ≤ l4_34.toInt ∧ l4_34.toInt < l5_34.toInt)
    (I34_2 : 0 ≤ l3_34.toInt ∧ l3_34.toInt ≤ l5_34.toInt)
    (I34_3 : ((G23.1 a 19).toInt) ≤ 2388)
    (I34_4 : l3_34.toInt = (stF (aI (G23.2.1 (F a 17))) (l4_34.toInt)))
    (I34_5 : l4_34.toInt = ((G23.1 a 19).toInt) ∨ l4_34.toInt = 0 ∨ (aI (G23.2.1 (F a 17)) (l4_34.toInt)) ≠ (aI (G23.2.1 (F a 17)) (l4_34.toInt - 1)))
    (I34_6 : p0.toInt < 0 ∨ l3_34.toInt ≤ p0.toInt)
    (I34_7 : l5_34.toInt ≤ ((G23.1 a 19).toInt) ∨ l4_34.toInt = ((G23.1 a 19).toInt))
    (I34_8 : l4_34.toInt ≤ ((G23.1 a 19).toInt))
    (hm34 : 5000 - l5_34.toInt < (((N34) + 1 : Nat) : Int))
    (c40 : ¬ (((G23.1 a 19).toInt) < l5_34.toInt))
    (c49 : ¬ (l5_34.toInt = ((G23.1 a 19).toInt)))
    (c66 : ¬ ((aI (G23.2.1 (F a 17)) (l5_34.toInt)) = (aI (G23.2.1 (F a 17)) (l4_34.toInt))))
    (z69 : (stF (aI (G23.2.1 (F a 17))) (l5_34.toInt)) = (stF (aI (G23.2.1 (F a 17))) (l4_34.toInt)) + 1)
    (z69a : (aI (G23.2.1 (F a 17)) (l5_34.toInt - 1)) = (aI (G23.2.1 (F a 17)) (l4_34.toInt)))
    (c71 : l3_34.toInt ≠ p0.toInt) :
    ∀ j : Int, l5_34.toInt ≤ j → j < (l5_34.toInt + 1) → j < (G23.1 a 19).toInt → aI (G23.2.1 (F a 17)) j = aI (G23.2.1 (F a 17)) l5_34.toInt := by
  first
    | (intro j a1 a2 a3
       rw [show j = l5_34.toInt from by omega])
    | (intro j a1 a2 a3
       by_cases e : j = l5_34.toInt
       · rw [e]; omega
       · exact rn j a1 (by omega) a3)
theorem v_X11_group_93_12 {K : Nat → Nat} {F : Nat → Nat → Nat} (a : Nat) (G2 : XG) (G : XG) (G23 : XG) (l4_34 : Int32) (l5_34 : Int32) (p0 : Int32) (x14 : Int32) (p1 : Int32) (l3_34 : Int32) (N34 : Nat) (x92 : Int32)
    (ha : K a = 13)
    (oq23 : pL G23 F a = if ((G.1 a 6).toInt) = 0 then [] else fuO (G.2.1 (F a 10)) (mw (G.2.1 (F a 1)) 0) (mw (G.2.1 (F a 2)) 0) 1)
    (oq23a : ((G.1 a 6).toInt) ≠ 0 → LSt (G.2.1 (F a 10)) (G23.2.1 (F a 11)) (mw (G.2.1 (F a 1)) 0) 12 ∧ LSt (G.2.1 (F a 10)) (G23.2.1 (F a 13)) (mw (G.2.1 (F a 2)) 0) 12)
    (oq23b : G23.2.2.2 = G2.2.2.2)
    (rn : ∀ j : Int, l4_34.toInt ≤ j → j < l5_34.toInt → j < (G23.1 a 19).toInt → aI (G23.2.1 (F a 17)) j = aI (G23.2.1 (F a 17)) l4_34.toInt)
    (c7 : ¬ (p0.toInt < (-1 : Int)))
    (t14 : (x14.toInt = 1 ∧ (0 : Int) ≤ p1.toInt ∧ p1.toInt ≤ (1 : Int)) ∨ (x14.toInt = 0 ∧ (p1.toInt < (0 : Int) ∨ (1 : Int) < p1.toInt)))
    (c17 : x14.toInt ≠ 0)
    (t23 : 0 ≤ ((G23.1 a 19).toInt) ∧ ((G23.1 a 19).toInt) ≤ 2388)
    (z26 : (stF (aI (G23.2.1 (F a 17))) 0) = 0)
    (I34_0 : 1 ≤ l5_34.toInt ∧ l5_34.toInt ≤ ((G23.1 a 19).toInt) + 1)
    (I34_1 : 0 ≤ l4_34.toInt ∧ l4_34.toInt < l5_34.toInt)
    (I34_2 : 0 ≤ l3_34.toInt ∧ l3_34.toInt ≤ l5_34.toInt)
    (I34_3 : ((G23.1 a 19).toInt) ≤ 2388)
    (I34_4 : l3_34.toInt = (stF (aI (G23.2.1 (F a 17))) (l4_34.toInt)))
    (I34_5 : l4_34.toInt = ((G23.1 a 19).toInt) ∨ l4_34.toInt = 0 ∨ (aI (G23.2.1 (F a 17)) (l4_34.toInt)) ≠ (aI (G23.2.1 (F a 17)) (l4_34.toInt - 1)))
    (I34_6 : p0.toInt < 0 ∨ l3_34.toInt ≤ p0.toInt)
    (I34_7 : l5_34.toInt ≤ ((G23.1 a 19).toInt) ∨ l4_34.toInt = ((G23.1 a 19).toInt))
    (I34_8 : l4_34.toInt ≤ ((G23.1 a 19).toInt))
    (hm34 : 5000 - l5_34.toInt < (((N34) + 1 : Nat) : Int))
    (c40 : ¬ (((G23.1 a 19).toInt) < l5_34.toInt))
    (c49 : ¬ (l5_34.toInt = ((G23.1 a 19).toInt)))
    (c66 : ¬ ((aI (G23.2.1 (F a 17)) (l5_34.toInt)) = (aI (G23.2.1 (F a 17)) (l4_34.toInt))))
    (z69 : (stF (aI (G23.2.1 (F a 17))) (l5_34.toInt)) = (stF (aI (G23.2.1 (F a 17))) (l4_34.toInt)) + 1)
    (z69a : (aI (G23.2.1 (F a 17)) (l5_34.toInt - 1)) = (aI (G23.2.1 (F a 17)) (l4_34.toInt)))
    (c71 : ¬ (l3_34.toInt ≠ p0.toInt))
    (c75 : p1.toInt ≠ 0)
    (t92 : x92.toInt = l5_34.toInt - l4_34.toInt ∨ l5_34.toInt - l4_34.toInt < -2147483648 ∨ 2147483648 ≤ l5_34.toInt - l4_34.toInt) :
    ((p1.toInt < 0 ∨ 1 < p1.toInt) ∧ x92.toInt = -1) ∨ ((0 ≤ p1.toInt ∧ p1.toInt ≤ 1) ∧ GrM (nth1 (if ((G.1 a 6).toInt) = 0 then [] else fuO (G.2.1 (F a 10)) (mw (G.2.1 (F a 1)) 0) (mw (G.2.1 (F a 2)) 0) 1)) (((if ((G.1 a 6).toInt) = 0 then [] else fuO (G.2.1 (F a 10)) (mw (G.2.1 (F a 1)) 0) (mw (G.2.1 (F a 2)) 0) 1).length : Nat) : Int) p0.toInt p1.toInt x92.toInt) := by
  rw [← oq23, pL_len]
  refine Or.inr ⟨by omega, GrM_congr (g := aI (G23.2.1 (F a 17))) (fun j a1 a2 => (nth1_pL ⟨a1, by omega⟩).symm) ?_⟩
  rw [show (((G23.1 a 19).toInt.toNat : Nat) : Int) = (G23.1 a 19).toInt from by omega]
  refine Or.inr (Or.inr ⟨l4_34.toInt, l5_34.toInt, ⟨by omega, by omega, by omega⟩, by omega, by omega, fun j a1 a2 => rn j a1 a2 (by omega), by omega, ?_⟩)
  first
    | exact Or.inr ⟨by omega, by omega⟩
    | exact Or.inl ⟨by omega, rfl⟩
theorem v_X11_group_93_13 {K : Nat → Nat} {F : Nat → Nat → Nat} (a : Nat) (G2 : XG) (G : XG) (G23 : XG) (l4_34 : Int32) (l5_34 : Int32) (p0 : Int32) (x14 : Int32) (p1 : Int32) (l3_34 : Int32) (N34 : Nat)
    (ha : K a = 13)
    (oq23 : pL G23 F a = if ((G.1 a 6).toInt) = 0 then [] else fuO (G.2.1 (F a 10)) (mw (G.2.1 (F a 1)) 0) (mw (G.2.1 (F a 2)) 0) 1)
    (oq23a : ((G.1 a 6).toInt) ≠ 0 → LSt (G.2.1 (F a 10)) (G23.2.1 (F a 11)) (mw (G.2.1 (F a 1)) 0) 12 ∧ LSt (G.2.1 (F a 10)) (G23.2.1 (F a 13)) (mw (G.2.1 (F a 2)) 0) 12)
    (oq23b : G23.2.2.2 = G2.2.2.2)
    (rn : ∀ j : Int, l4_34.toInt ≤ j → j < l5_34.toInt → j < (G23.1 a 19).toInt → aI (G23.2.1 (F a 17)) j = aI (G23.2.1 (F a 17)) l4_34.toInt)
    (c7 : ¬ (p0.toInt < (-1 : Int)))
    (t14 : (x14.toInt = 1 ∧ (0 : Int) ≤ p1.toInt ∧ p1.toInt ≤ (1 : Int)) ∨ (x14.toInt = 0 ∧ (p1.toInt < (0 : Int) ∨ (1 : Int) < p1.toInt)))
    (c17 : x14.toInt ≠ 0)
    (t23 : 0 ≤ ((G23.1 a 19).toInt) ∧ ((G23.1 a 19).toInt) ≤ 2388)
    (z26 : (stF (aI (G23.2.1 (F a 17))) 0) = 0)
    (I34_0 : 1 ≤ l5_34.toInt ∧ l5_34.toInt ≤ ((G23.1 a 19).toInt) + 1)
    (I34_1 : 0 ≤ l4_34.toInt ∧ l4_34.toInt < l5_34.toInt)
    (I34_2 : 0 ≤ l3_34.toInt ∧ l3_34.toInt ≤ l5_34.toInt)
    (I34_3 : ((G23.1 a 19).toInt) ≤ 2388)
    (I34_4 : l3_34.toInt = (stF (aI (G23.2.1 (F a 17))) (l4_34.toInt)))
    (I34_5 : l4_34.toInt = ((G23.1 a 19).toInt) ∨ l4_34.toInt = 0 ∨ (aI (G23.2.1 (F a 17)) (l4_34.toInt)) ≠ (aI (G23.2.1 (F a 17)) (l4_34.toInt - 1)))
    (I34_6 : p0.toInt < 0 ∨ l3_34.toInt ≤ p0.toInt)
    (I34_7 : l5_34.toInt ≤ ((G23.1 a 19).toInt) ∨ l4_34.toInt = ((G23.1 a 19).toInt))
    (I34_8 : l4_34.toInt ≤ ((G23.1 a 19).toInt))
    (hm34 : 5000 - l5_34.toInt < (((N34) + 1 : Nat) : Int))
    (c40 : ¬ (((G23.1 a 19).toInt) < l5_34.toInt))
    (c49 : ¬ (l5_34.toInt = ((G23.1 a 19).toInt)))
    (c66 : ¬ ((aI (G23.2.1 (F a 17)) (l5_34.toInt)) = (aI (G23.2.1 (F a 17)) (l4_34.toInt))))
    (z69 : (stF (aI (G23.2.1 (F a 17))) (l5_34.toInt)) = (stF (aI (G23.2.1 (F a 17))) (l4_34.toInt)) + 1)
    (z69a : (aI (G23.2.1 (F a 17)) (l5_34.toInt - 1)) = (aI (G23.2.1 (F a 17)) (l4_34.toInt)))
    (c71 : ¬ (l3_34.toInt ≠ p0.toInt))
    (c75 : ¬ (p1.toInt ≠ 0)) :
    ((p1.toInt < 0 ∨ 1 < p1.toInt) ∧ (aI (G23.2.1 (F a 17)) (l4_34.toInt)) = -1) ∨ ((0 ≤ p1.toInt ∧ p1.toInt ≤ 1) ∧ GrM (nth1 (if ((G.1 a 6).toInt) = 0 then [] else fuO (G.2.1 (F a 10)) (mw (G.2.1 (F a 1)) 0) (mw (G.2.1 (F a 2)) 0) 1)) (((if ((G.1 a 6).toInt) = 0 then [] else fuO (G.2.1 (F a 10)) (mw (G.2.1 (F a 1)) 0) (mw (G.2.1 (F a 2)) 0) 1).length : Nat) : Int) p0.toInt p1.toInt (aI (G23.2.1 (F a 17)) (l4_34.toInt))) := by
  rw [← oq23, pL_len]
  refine Or.inr ⟨by omega, GrM_congr (g := aI (G23.2.1 (F a 17))) (fun j a1 a2 => (nth1_pL ⟨a1, by omega⟩).symm) ?_⟩
  rw [show (((G23.1 a 19).toInt.toNat : Nat) : Int) = (G23.1 a 19).toInt from by omega]
  refine Or.inr (Or.inr ⟨l4_34.toInt, l5_34.toInt, ⟨by omega, by omega, by omega⟩, by omega, by omega, fun j a1 a2 => rn j a1 a2 (by omega), by omega, ?_⟩)
  first
    | exact Or.inr ⟨by omega, by omega⟩
    | exact Or.inl ⟨by omega, rfl⟩
theorem v_X11_group_32_14 {K : Nat → Nat} {F : Nat → Nat → Nat} (a : Nat) (G2 : XG) (G : XG) (G23 : XG) (p0 : Int32) (x14 : Int32) (p1 : Int32)
    (ha : K a = 13)
    (oq23a : ((G.1 a 6).toInt) ≠ 0 → LSt (G.2.1 (F a 10)) (G23.2.1 (F a 11)) (mw (G.2.1 (F a 1)) 0) 12 ∧ LSt (G.2.1 (F a 10)) (G23.2.1 (F a 13)) (mw (G.2.1 (F a 2)) 0) 12)
    (oq23b : G23.2.2.2 = G2.2.2.2)
    (c7 : ¬ (p0.toInt < (-1 : Int)))
    (t14 : (x14.toInt = 1 ∧ (0 : Int) ≤ p1.toInt ∧ p1.toInt ≤ (1 : Int)) ∨ (x14.toInt = 0 ∧ (p1.toInt < (0 : Int) ∨ (1 : Int) < p1.toInt)))
    (c17 : x14.toInt ≠ 0)
    (t23 : 0 ≤ ((G23.1 a 19).toInt) ∧ ((G23.1 a 19).toInt) ≤ 2388)
    (z26 : (stF (aI (G23.2.1 (F a 17))) 0) = 0) :
    ∀ j : Int, (0 : Int) ≤ j → j < (1 : Int) → j < (G23.1 a 19).toInt → aI (G23.2.1 (F a 17)) j = aI (G23.2.1 (F a 17)) (0 : Int) := by
  intro j a1 a2 _
  rw [show j = 0 from by omega]
theorem v_X11_group_21_15 {K : Nat → Nat} {F : Nat → Nat → Nat} (a : Nat) (G : XG) (p0 : Int32) (x14 : Int32) (p1 : Int32)
    (ha : K a = 13)
    (c7 : ¬ (p0.toInt < (-1 : Int)))
    (t14 : (x14.toInt = 1 ∧ (0 : Int) ≤ p1.toInt ∧ p1.toInt ≤ (1 : Int)) ∨ (x14.toInt = 0 ∧ (p1.toInt < (0 : Int) ∨ (1 : Int) < p1.toInt)))
    (c17 : ¬ (x14.toInt ≠ 0)) :
    ((p1.toInt < 0 ∨ 1 < p1.toInt) ∧ (-1 : Int) = -1) ∨ ((0 ≤ p1.toInt ∧ p1.toInt ≤ 1) ∧ GrM (nth1 (if ((G.1 a 6).toInt) = 0 then [] else fuO (G.2.1 (F a 10)) (mw (G.2.1 (F a 1)) 0) (mw (G.2.1 (F a 2)) 0) 1)) (((if ((G.1 a 6).toInt) = 0 then [] else fuO (G.2.1 (F a 10)) (mw (G.2.1 (F a 1)) 0) (mw (G.2.1 (F a 2)) 0) 1).length : Nat) : Int) p0.toInt p1.toInt (-1 : Int)) := by
  first
    | exact Or.inl ⟨by omega, rfl⟩
    | (by_cases h9 : 0 ≤ p1.toInt ∧ p1.toInt ≤ 1
       · exact Or.inr ⟨h9, Or.inr (Or.inl ⟨by omega, Or.inl (by omega), rfl⟩)⟩
       · exact Or.inl ⟨by omega, rfl⟩)
theorem v_X11_all_21_1 {F : Nat → Nat → Nat} (a : Nat) (G2 : XG) (G : XG)
    (hR : RV (G.2.1 (F a 10)))
    (c_G2_F_a_10 : G2.2.1 (F a 10) = G.2.1 (F a 10)) :
    RV (G2.2.1 (F a 10)) := by simp only [c_G2_F_a_10]; assumption
theorem v_X11_all_166_2 {K : Nat → Nat} {F : Nat → Nat → Nat} (a : Nat) (G2 : XG) (G : XG) (G21 : XG) (l2_36 : Int32) (l3_36 : Int32) (l4_36 : Int32) (l5_36 : Int32) (x11 : Int32) (p0 : Int32) (N36 : Nat)
    (ha : K a = 13)
    (oq21 : ORm (G.2.1 (F a 10)) (G21.2.1 (F a 15)) ((G21.1 a 16).toInt) 12)
    (oq21a : G21.2.2.2 = G2.2.2.2)
    (pa : TrA l2_36.toInt l3_36.toInt l4_36.toInt (faL (G.2.1 (F a 10)) (mw (G.2.1 (F a 1)) 0) (ordN (prM (G.2.1 (F a 10))) (rkM (G.2.1 (F a 10))) 12).2 (l5_36.toInt).toNat))
    (t11 : (x11.toInt = 1 ∧ (0 : Int) ≤ p0.toInt ∧ p0.toInt ≤ (2 : Int)) ∨ (x11.toInt = 0 ∧ (p0.toInt < (0 : Int) ∨ (2 : Int) < p0.toInt)))
    (c14 : x11.toInt ≠ 0)
    (z24 : 0 ≤ ((G21.1 a 16).toInt) ∧ ((G21.1 a 16).toInt) ≤ 12)
    (I36_0 : 0 ≤ l5_36.toInt ∧ l5_36.toInt ≤ ((G21.1 a 16).toInt))
    (I36_1 : 0 ≤ l2_36.toInt ∧ l2_36.toInt ≤ 199 * l5_36.toInt)
    (hm36 : 100 - l5_36.toInt < (((N36) + 1 : Nat) : Int))
    (c42 : ((G21.1 a 16).toInt) ≤ l5_36.toInt)
    (c140 : p0.toInt ≠ 0)
    (c148 : l2_36.toInt ≠ 0)
    (c157 : p0.toInt ≠ (1 : Int)) :
    (¬ (0 ≤ p0.toInt ∧ p0.toInt ≤ 2) ∧ l4_36.toInt = -2147483648) ∨ ((0 ≤ p0.toInt ∧ p0.toInt ≤ 2) ∧ l4_36.toInt = alS p0.toInt (faO (G.2.1 (F a 10)) (mw (G.2.1 (F a 1)) 0))) := by
  have e : l5_36.toInt.toNat = (ordN (prM (G.2.1 (F a 10))) (rkM (G.2.1 (F a 10))) 12).1 := by
    have h9 := oq21.1
    omega
  rw [e] at pa
  refine Or.inr ⟨by omega, ?_⟩
  first
    | exact (alS_0 pa (by omega)).symm
    | exact (alS_e pa (by omega) (by omega)).symm
    | exact (alS_1 pa (by omega) (by omega)).symm
    | exact (alS_2 pa (by omega) (by omega)).symm
theorem v_X11_all_166_3 {K : Nat → Nat} {F : Nat → Nat → Nat} (a : Nat) (G2 : XG) (G : XG) (G21 : XG) (l2_36 : Int32) (l3_36 : Int32) (l4_36 : Int32) (l5_36 : Int32) (x11 : Int32) (p0 : Int32) (N36 : Nat)
    (ha : K a = 13)
    (oq21 : ORm (G.2.1 (F a 10)) (G21.2.1 (F a 15)) ((G21.1 a 16).toInt) 12)
    (oq21a : G21.2.2.2 = G2.2.2.2)
    (pa : TrA l2_36.toInt l3_36.toInt l4_36.toInt (faL (G.2.1 (F a 10)) (mw (G.2.1 (F a 1)) 0) (ordN (prM (G.2.1 (F a 10))) (rkM (G.2.1 (F a 10))) 12).2 (l5_36.toInt).toNat))
    (t11 : (x11.toInt = 1 ∧ (0 : Int) ≤ p0.toInt ∧ p0.toInt ≤ (2 : Int)) ∨ (x11.toInt = 0 ∧ (p0.toInt < (0 : Int) ∨ (2 : Int) < p0.toInt)))
    (c14 : x11.toInt ≠ 0)
    (z24 : 0 ≤ ((G21.1 a 16).toInt) ∧ ((G21.1 a 16).toInt) ≤ 12)
    (I36_0 : 0 ≤ l5_36.toInt ∧ l5_36.toInt ≤ ((G21.1 a 16).toInt))
    (I36_1 : 0 ≤ l2_36.toInt ∧ l2_36.toInt ≤ 199 * l5_36.toInt)
    (hm36 : 100 - l5_36.toInt < (((N36) + 1 : Nat) : Int))
    (c42 : ((G21.1 a 16).toInt) ≤ l5_36.toInt)
    (c140 : p0.toInt ≠ 0)
    (c148 : l2_36.toInt ≠ 0)
    (c157 : ¬ (p0.toInt ≠ (1 : Int))) :
    (¬ (0 ≤ p0.toInt ∧ p0.toInt ≤ 2) ∧ l3_36.toInt = -2147483648) ∨ ((0 ≤ p0.toInt ∧ p0.toInt ≤ 2) ∧ l3_36.toInt = alS p0.toInt (faO (G.2.1 (F a 10)) (mw (G.2.1 (F a 1)) 0))) := by
  have e : l5_36.toInt.toNat = (ordN (prM (G.2.1 (F a 10))) (rkM (G.2.1 (F a 10))) 12).1 := by
    have h9 := oq21.1
    omega
  rw [e] at pa
  refine Or.inr ⟨by omega, ?_⟩
  first
    | exact (alS_0 pa (by omega)).symm
    | exact (alS_e pa (by omega) (by omega)).symm
    | exact (alS_1 pa (by omega) (by omega)).symm
    | exact (alS_2 pa (by omega) (by omega)).symm
theorem v_X11_all_166_4 {K : Nat → Nat} {F : Nat → Nat → Nat} (a : Nat) (G2 : XG) (G : XG) (G21 : XG) (l2_36 : Int32) (l3_36 : Int32) (l4_36 : Int32) (l5_36 : Int32) (x11 : Int32) (p0 : Int32) (N36 : Nat)
    (ha : K a = 13)
    (oq21 : ORm (G.2.1 (F a 10)) (G21.2.1 (F a 15)) ((G21.1 a 16).toInt) 12)
    (oq21a : G21.2.2.2 = G2.2.2.2)
    (pa : TrA l2_36.toInt l3_36.toInt l4_36.toInt (faL (G.2.1 (F a 10)) (mw (G.2.1 (F a 1)) 0) (ordN (prM (G.2.1 (F a 10))) (rkM (G.2.1 (F a 10))) 12).2 (l5_36.toInt).toNat))
    (t11 : (x11.toInt = 1 ∧ (0 : Int) ≤ p0.toInt ∧ p0.toInt ≤ (2 : Int)) ∨ (x11.toInt = 0 ∧ (p0.toInt < (0 : Int) ∨ (2 : Int) < p0.toInt)))
    (c14 : x11.toInt ≠ 0)
    (z24 : 0 ≤ ((G21.1 a 16).toInt) ∧ ((G21.1 a 16).toInt) ≤ 12)
    (I36_0 : 0 ≤ l5_36.toInt ∧ l5_36.toInt ≤ ((G21.1 a 16).toInt))
    (I36_1 : 0 ≤ l2_36.toInt ∧ l2_36.toInt ≤ 199 * l5_36.toInt)
    (hm36 : 100 - l5_36.toInt < (((N36) + 1 : Nat) : Int))
    (c42 : ((G21.1 a 16).toInt) ≤ l5_36.toInt)
    (c140 : p0.toInt ≠ 0)
    (c148 : ¬ (l2_36.toInt ≠ 0)) :
    (¬ (0 ≤ p0.toInt ∧ p0.toInt ≤ 2) ∧ (-1 : Int) = -2147483648) ∨ ((0 ≤ p0.toInt ∧ p0.toInt ≤ 2) ∧ (-1 : Int) = alS p0.toInt (faO (G.2.1 (F a 10)) (mw (G.2.1 (F a 1)) 0))) := by
  have e : l5_36.toInt.toNat = (ordN (prM (G.2.1 (F a 10))) (rkM (G.2.1 (F a 10))) 12).1 := by
    have h9 := oq21.1
    omega
  rw [e] at pa
  refine Or.inr ⟨by omega, ?_⟩
  first
    | exact (alS_0 pa (by omega)).symm
    | exact (alS_e pa (by omega) (by omega)).symm
    | exact (alS_1 pa (by omega) (by omega)).symm
    | exact (alS_2 pa (by omega) (by omega)).symm
theorem v_X11_all_166_5 {K : Nat → Nat} {F : Nat → Nat → Nat} (a : Nat) (G2 : XG) (G : XG) (G21 : XG) (l2_36 : Int32) (l3_36 : Int32) (l4_36 : Int32) (l5_36 : Int32) (x11 : Int32) (p0 : Int32) (N36 : Nat)
    (ha : K a = 13)
    (oq21 : ORm (G.2.1 (F a 10)) (G21.2.1 (F a 15)) ((G21.1 a 16).toInt) 12)
    (oq21a : G21.2.2.2 = G2.2.2.2)
    (pa : TrA l2_36.toInt l3_36.toInt l4_36.toInt (faL (G.2.1 (F a 10)) (mw (G.2.1 (F a 1)) 0) (ordN (prM (G.2.1 (F a 10))) (rkM (G.2.1 (F a 10))) 12).2 (l5_36.toInt).toNat))
    (t11 : (x11.toInt = 1 ∧ (0 : Int) ≤ p0.toInt ∧ p0.toInt ≤ (2 : Int)) ∨ (x11.toInt = 0 ∧ (p0.toInt < (0 : Int) ∨ (2 : Int) < p0.toInt)))
    (c14 : x11.toInt ≠ 0)
    (z24 : 0 ≤ ((G21.1 a 16).toInt) ∧ ((G21.1 a 16).toInt) ≤ 12)
    (I36_0 : 0 ≤ l5_36.toInt ∧ l5_36.toInt ≤ ((G21.1 a 16).toInt))
    (I36_1 : 0 ≤ l2_36.toInt ∧ l2_36.toInt ≤ 199 * l5_36.toInt)
    (hm36 : 100 - l5_36.toInt < (((N36) + 1 : Nat) : Int))
    (c42 : ((G21.1 a 16).toInt) ≤ l5_36.toInt)
    (c140 : ¬ (p0.toInt ≠ 0)) :
    (¬ (0 ≤ p0.toInt ∧ p0.toInt ≤ 2) ∧ l2_36.toInt = -2147483648) ∨ ((0 ≤ p0.toInt ∧ p0.toInt ≤ 2) ∧ l2_36.toInt = alS p0.toInt (faO (G.2.1 (F a 10)) (mw (G.2.1 (F a 1)) 0))) := by
  have e : l5_36.toInt.toNat = (ordN (prM (G.2.1 (F a 10))) (rkM (G.2.1 (F a 10))) 12).1 := by
    have h9 := oq21.1
    omega
  rw [e] at pa
  refine Or.inr ⟨by omega, ?_⟩
  first
    | exact (alS_0 pa (by omega)).symm
    | exact (alS_e pa (by omega) (by omega)).symm
    | exact (alS_1 pa (by omega) (by omega)).symm
    | exact (alS_2 pa (by omega) (by omega)).symm
theorem v_X11_all_136_6 {K : Nat → Nat} {F : Nat → Nat → Nat} (a : Nat) (G2 : XG) (G : XG) (G21 : XG) (l2_36 : Int32) (l3_36 : Int32) (l4_36 : Int32) (l5_36 : Int32) (l2_58 : Int32) (l3_58 : Int32) (l4_58 : Int32) (l6_58 : Int32) (x11 : Int32) (p0 : Int32) (N36 : Nat) (N58 : Nat)
    (ha : K a = 13)
    (oq21 : ORm (G.2.1 (F a 10)) (G21.2.1 (F a 15)) ((G21.1 a 16).toInt) 12)
    (oq21a : G21.2.2.2 = G2.2.2.2)
    (pa : TrA l2_36.toInt l3_36.toInt l4_36.toInt (faL (G.2.1 (F a 10)) (mw (G.2.1 (F a 1)) 0) (ordN (prM (G.2.1 (F a 10))) (rkM (G.2.1 (F a 10))) 12).2 (l5_36.toInt).toNat))
    (pi : TrA l2_58.toInt l3_58.toInt l4_58.toInt (faL (G.2.1 (F a 10)) (mw (G.2.1 (F a 1)) 0) (ordN (prM (G.2.1 (F a 10))) (rkM (G.2.1 (F a 10))) 12).2 (l5_36.toInt).toNat ++ fap (G.2.1 (F a 10)) (mw (G.2.1 (F a 1)) 0) (aI (G21.2.1 (F a 15)) (l5_36.toInt)) l6_58.toInt))
    (t11 : (x11.toInt = 1 ∧ (0 : Int) ≤ p0.toInt ∧ p0.toInt ≤ (2 : Int)) ∨ (x11.toInt = 0 ∧ (p0.toInt < (0 : Int) ∨ (2 : Int) < p0.toInt)))
    (c14 : x11.toInt ≠ 0)
    (z24 : 0 ≤ ((G21.1 a 16).toInt) ∧ ((G21.1 a 16).toInt) ≤ 12)
    (I36_0 : 0 ≤ l5_36.toInt ∧ l5_36.toInt ≤ ((G21.1 a 16).toInt))
    (I36_1 : 0 ≤ l2_36.toInt ∧ l2_36.toInt ≤ 199 * l5_36.toInt)
    (hm36 : 100 - l5_36.toInt < (((N36) + 1 : Nat) : Int))
    (c42 : ¬ (((G21.1 a 16).toInt) ≤ l5_36.toInt))
    (z45 : 0 ≤ (aI (G21.2.1 (F a 15)) (l5_36.toInt)) ∧ (aI (G21.2.1 (F a 15)) (l5_36.toInt)) ≤ 11 ∧ (aI (G.2.1 (F a 10)) (10 * (aI (G21.2.1 (F a 15)) (l5_36.toInt)) + 0)) ≠ -1)
    (z45a : (((aI (G.2.1 (F a 10)) (10 * (aI (G21.2.1 (F a 15)) (l5_36.toInt)) + 0)) = 2 ∨ (aI (G.2.1 (F a 10)) (10 * (aI (G21.2.1 (F a 15)) (l5_36.toInt)) + 0)) = 4 ∨ (aI (G.2.1 (F a 10)) (10 * (aI (G21.2.1 (F a 15)) (l5_36.toInt)) + 0)) = 5) ∧ (sF (aI (G.2.1 (F a 10)) (10 * (aI (G21.2.1 (F a 15)) (l5_36.toInt)) + 0))) = 0 ∧ (sL (aI (G.2.1 (F a 10)) (10 * (aI (G21.2.1 (F a 15)) (l5_36.toInt)) + 0))) = 29) ∨ (¬ ((aI (G.2.1 (F a 10)) (10 * (aI (G21.2.1 (F a 15)) (l5_36.toInt)) + 0)) = 2 ∨ (aI (G.2.1 (F a 10)) (10 * (aI (G21.2.1 (F a 15)) (l5_36.toInt)) + 0)) = 4 ∨ (aI (G.2.1 (F a 10)) (10 * (aI (G21.2.1 (F a 15)) (l5_36.toInt)) + 0)) = 5) ∧ (sF (aI (G.2.1 (F a 10)) (10 * (aI (G21.2.1 (F a 15)) (l5_36.toInt)) + 0))) = -99 ∧ (sL (aI (G.2.1 (F a 10)) (10 * (aI (G21.2.1 (F a 15)) (l5_36.toInt)) + 0))) = 99))
    (I58_0 : (sF (aI (G.2.1 (F a 10)) (10 * (aI (G21.2.1 (F a 15)) (l5_36.toInt)) + 0))) ≤ l6_58.toInt ∧ l6_58.toInt ≤ (sL (aI (G.2.1 (F a 10)) (10 * (aI (G21.2.1 (F a 15)) (l5_36.toInt)) + 0))) + 1)
    (I58_1 : 0 ≤ l2_58.toInt ∧ l2_58.toInt ≤ 199 * l5_36.toInt + (l6_58.toInt - (sF (aI (G.2.1 (F a 10)) (10 * (aI (G21.2.1 (F a 15)) (l5_36.toInt)) + 0)))))
    (hm58 : 2147483648 - l6_58.toInt < (((N58) + 1 : Nat) : Int))
    (c71 : (sL (aI (G.2.1 (F a 10)) (10 * (aI (G21.2.1 (F a 15)) (l5_36.toInt)) + 0))) < l6_58.toInt) :
    TrA l2_58.toInt l3_58.toInt l4_58.toInt (faL (G.2.1 (F a 10)) (mw (G.2.1 (F a 1)) 0) (ordN (prM (G.2.1 (F a 10))) (rkM (G.2.1 (F a 10))) 12).2 (l5_36.toInt + 1).toNat) := by
  rw [show (l5_36.toInt + 1).toNat = l5_36.toInt.toNat + 1 from by omega, faL_s, or_nth oq21 (by omega), ← fap_l (s := l6_58.toInt) (by omega)]
  exact pi
theorem v_X11_all_89_7 {F : Nat → Nat → Nat} (a : Nat) (G : XG) (G21 : XG)
    (hR : RV (G.2.1 (F a 10)))
    (c_G21_F_a_10 : G21.2.1 (F a 10) = G.2.1 (F a 10)) :
    RV (G21.2.1 (F a 10)) := by simp only [c_G21_F_a_10]; assumption
theorem v_X11_all_89_8 {F : Nat → Nat → Nat} (a : Nat) (G : XG) (G21 : XG)
    (hM : RM (G.2.1 (F a 1)) (0))
    (c_G21_F_a_1 : G21.2.1 (F a 1) = G.2.1 (F a 1)) :
    RM (G21.2.1 (F a 1)) (0 : Int) := by simp only [c_G21_F_a_1]; assumption
theorem v_X11_all_130_9 {K : Nat → Nat} {F : Nat → Nat → Nat} (a : Nat) (G2 : XG) (G : XG) (G21 : XG) (l2_36 : Int32) (l3_36 : Int32) (l4_36 : Int32) (l5_36 : Int32) (l2_58 : Int32) (l3_58 : Int32) (l4_58 : Int32) (l6_58 : Int32) (x11 : Int32) (p0 : Int32) (N36 : Nat) (N58 : Nat) (x89 : Int32)
    (ha : K a = 13)
    (oq21a : G21.2.2.2 = G2.2.2.2)
    (pa : TrA l2_36.toInt l3_36.toInt l4_36.toInt (faL (G.2.1 (F a 10)) (mw (G.2.1 (F a 1)) 0) (ordN (prM (G.2.1 (F a 10))) (rkM (G.2.1 (F a 10))) 12).2 (l5_36.toInt).toNat))
    (pi : TrA l2_58.toInt l3_58.toInt l4_58.toInt (faL (G.2.1 (F a 10)) (mw (G.2.1 (F a 1)) 0) (ordN (prM (G.2.1 (F a 10))) (rkM (G.2.1 (F a 10))) 12).2 (l5_36.toInt).toNat ++ fap (G.2.1 (F a 10)) (mw (G.2.1 (F a 1)) 0) (aI (G21.2.1 (F a 15)) (l5_36.toInt)) l6_58.toInt))
    (t11 : (x11.toInt = 1 ∧ (0 : Int) ≤ p0.toInt ∧ p0.toInt ≤ (2 : Int)) ∨ (x11.toInt = 0 ∧ (p0.toInt < (0 : Int) ∨ (2 : Int) < p0.toInt)))
    (c14 : x11.toInt ≠ 0)
    (z24 : 0 ≤ ((G21.1 a 16).toInt) ∧ ((G21.1 a 16).toInt) ≤ 12)
    (I36_0 : 0 ≤ l5_36.toInt ∧ l5_36.toInt ≤ ((G21.1 a 16).toInt))
    (I36_1 : 0 ≤ l2_36.toInt ∧ l2_36.toInt ≤ 199 * l5_36.toInt)
    (hm36 : 100 - l5_36.toInt < (((N36) + 1 : Nat) : Int))
    (c42 : ¬ (((G21.1 a 16).toInt) ≤ l5_36.toInt))
    (z45 : 0 ≤ (aI (G21.2.1 (F a 15)) (l5_36.toInt)) ∧ (aI (G21.2.1 (F a 15)) (l5_36.toInt)) ≤ 11 ∧ (aI (G.2.1 (F a 10)) (10 * (aI (G21.2.1 (F a 15)) (l5_36.toInt)) + 0)) ≠ -1)
    (z45a : (((aI (G.2.1 (F a 10)) (10 * (aI (G21.2.1 (F a 15)) (l5_36.toInt)) + 0)) = 2 ∨ (aI (G.2.1 (F a 10)) (10 * (aI (G21.2.1 (F a 15)) (l5_36.toInt)) + 0)) = 4 ∨ (aI (G.2.1 (F a 10)) (10 * (aI (G21.2.1 (F a 15)) (l5_36.toInt)) + 0)) = 5) ∧ (sF (aI (G.2.1 (F a 10)) (10 * (aI (G21.2.1 (F a 15)) (l5_36.toInt)) + 0))) = 0 ∧ (sL (aI (G.2.1 (F a 10)) (10 * (aI (G21.2.1 (F a 15)) (l5_36.toInt)) + 0))) = 29) ∨ (¬ ((aI (G.2.1 (F a 10)) (10 * (aI (G21.2.1 (F a 15)) (l5_36.toInt)) + 0)) = 2 ∨ (aI (G.2.1 (F a 10)) (10 * (aI (G21.2.1 (F a 15)) (l5_36.toInt)) + 0)) = 4 ∨ (aI (G.2.1 (F a 10)) (10 * (aI (G21.2.1 (F a 15)) (l5_36.toInt)) + 0)) = 5) ∧ (sF (aI (G.2.1 (F a 10)) (10 * (aI (G21.2.1 (F a 15)) (l5_36.toInt)) + 0))) = -99 ∧ (sL (aI (G.2.1 (F a 10)) (10 * (aI (G21.2.1 (F a 15)) (l5_36.toInt)) + 0))) = 99))
    (I58_0 : (sF (aI (G.2.1 (F a 10)) (10 * (aI (G21.2.1 (F a 15)) (l5_36.toInt)) + 0))) ≤ l6_58.toInt ∧ l6_58.toInt ≤ (sL (aI (G.2.1 (F a 10)) (10 * (aI (G21.2.1 (F a 15)) (l5_36.toInt)) + 0))) + 1)
    (I58_1 : 0 ≤ l2_58.toInt ∧ l2_58.toInt ≤ 199 * l5_36.toInt + (l6_58.toInt - (sF (aI (G.2.1 (F a 10)) (10 * (aI (G21.2.1 (F a 15)) (l5_36.toInt)) + 0)))))
    (hm58 : 2147483648 - l6_58.toInt < (((N58) + 1 : Nat) : Int))
    (c71 : ¬ ((sL (aI (G.2.1 (F a 10)) (10 * (aI (G21.2.1 (F a 15)) (l5_36.toInt)) + 0))) < l6_58.toInt))
    (t89 : x89.toInt = (flq (mw (G.2.1 (F a 1)) 0) (aI (G.2.1 (F a 10)) (10 * (aI (G21.2.1 (F a 15)) (l5_36.toInt)) + 0)) (aI (G.2.1 (F a 10)) (10 * (aI (G21.2.1 (F a 15)) (l5_36.toInt)) + 1)) (aI (G.2.1 (F a 10)) (10 * (aI (G21.2.1 (F a 15)) (l5_36.toInt)) + 2)) (aI (G.2.1 (F a 10)) (10 * (aI (G21.2.1 (F a 15)) (l5_36.toInt)) + 4)) (aI (G.2.1 (F a 10)) (10 * (aI (G21.2.1 (F a 15)) (l5_36.toInt)) + 5)) (l6_58.toInt) (stt (mw (G.2.1 (F a 1)) 0) (aI (G.2.1 (F a 10)) (10 * (aI (G21.2.1 (F a 15)) (l5_36.toInt)) + 0)) (aI (G.2.1 (F a 10)) (10 * (aI (G21.2.1 (F a 15)) (l5_36.toInt)) + 1)) (aI (G.2.1 (F a 10)) (10 * (aI (G21.2.1 (F a 15)) (l5_36.toInt)) + 2)) (aI (G.2.1 (F a 10)) (10 * (aI (G21.2.1 (F a 15)) (l5_36.toInt)) + 3)) (l6_58.toInt))))
    (f35 : x89.toInt = 0 ∨ x89.toInt = 1)
    (c92 : x89.toInt = 0) :
    TrA l2_58.toInt l3_58.toInt l4_58.toInt (faL (G.2.1 (F a 10)) (mw (G.2.1 (F a 1)) 0) (ordN (prM (G.2.1 (F a 10))) (rkM (G.2.1 (F a 10))) 12).2 (l5_36.toInt).toNat ++ fap (G.2.1 (F a 10)) (mw (G.2.1 (F a 1)) 0) (aI (G21.2.1 (F a 15)) (l5_36.toInt)) (l6_58.toInt + 1)) := by
  have hz : fzq (G.2.1 (F a 10)) (mw (G.2.1 (F a 1)) 0) (aI (G21.2.1 (F a 15)) l5_36.toInt) l6_58.toInt = x89.toInt := t89.symm
  first
    | (rw [fap_n (by omega) (by omega)]
       exact pi)
    | (rw [fap_y (by omega) (by omega), ← List.append_assoc]
       first
         | (exfalso; omega)
         | exact TrA_n pi (by omega)
         | exact TrA_s pi (by omega) _)
theorem v_X11_all_130_10 {K : Nat → Nat} {F : Nat → Nat → Nat} (a : Nat) (G2 : XG) (G : XG) (G21 : XG) (l2_36 : Int32) (l3_36 : Int32) (l4_36 : Int32) (l5_36 : Int32) (l2_58 : Int32) (l3_58 : Int32) (l4_58 : Int32) (l6_58 : Int32) (x11 : Int32) (p0 : Int32) (N36 : Nat) (N58 : Nat) (x89 : Int32)
    (ha : K a = 13)
    (oq21a : G21.2.2.2 = G2.2.2.2)
    (pa : TrA l2_36.toInt l3_36.toInt l4_36.toInt (faL (G.2.1 (F a 10)) (mw (G.2.1 (F a 1)) 0) (ordN (prM (G.2.1 (F a 10))) (rkM (G.2.1 (F a 10))) 12).2 (l5_36.toInt).toNat))
    (pi : TrA l2_58.toInt l3_58.toInt l4_58.toInt (faL (G.2.1 (F a 10)) (mw (G.2.1 (F a 1)) 0) (ordN (prM (G.2.1 (F a 10))) (rkM (G.2.1 (F a 10))) 12).2 (l5_36.toInt).toNat ++ fap (G.2.1 (F a 10)) (mw (G.2.1 (F a 1)) 0) (aI (G21.2.1 (F a 15)) (l5_36.toInt)) l6_58.toInt))
    (t11 : (x11.toInt = 1 ∧ (0 : Int) ≤ p0.toInt ∧ p0.toInt ≤ (2 : Int)) ∨ (x11.toInt = 0 ∧ (p0.toInt < (0 : Int) ∨ (2 : Int) < p0.toInt)))
    (c14 : x11.toInt ≠ 0)
    (z24 : 0 ≤ ((G21.1 a 16).toInt) ∧ ((G21.1 a 16).toInt) ≤ 12)
    (I36_0 : 0 ≤ l5_36.toInt ∧ l5_36.toInt ≤ ((G21.1 a 16).toInt))
    (I36_1 : 0 ≤ l2_36.toInt ∧ l2_36.toInt ≤ 199 * l5_36.toInt)
    (hm36 : 100 - l5_36.toInt < (((N36) + 1 : Nat) : Int))
    (c42 : ¬ (((G21.1 a 16).toInt) ≤ l5_36.toInt))
    (z45 : 0 ≤ (aI (G21.2.1 (F a 15)) (l5_36.toInt)) ∧ (aI (G21.2.1 (F a 15)) (l5_36.toInt)) ≤ 11 ∧ (aI (G.2.1 (F a 10)) (10 * (aI (G21.2.1 (F a 15)) (l5_36.toInt)) + 0)) ≠ -1)
    (z45a : (((aI (G.2.1 (F a 10)) (10 * (aI (G21.2.1 (F a 15)) (l5_36.toInt)) + 0)) = 2 ∨ (aI (G.2.1 (F a 10)) (10 * (aI (G21.2.1 (F a 15)) (l5_36.toInt)) + 0)) = 4 ∨ (aI (G.2.1 (F a 10)) (10 * (aI (G21.2.1 (F a 15)) (l5_36.toInt)) + 0)) = 5) ∧ (sF (aI (G.2.1 (F a 10)) (10 * (aI (G21.2.1 (F a 15)) (l5_36.toInt)) + 0))) = 0 ∧ (sL (aI (G.2.1 (F a 10)) (10 * (aI (G21.2.1 (F a 15)) (l5_36.toInt)) + 0))) = 29) ∨ (¬ ((aI (G.2.1 (F a 10)) (10 * (aI (G21.2.1 (F a 15)) (l5_36.toInt)) + 0)) = 2 ∨ (aI (G.2.1 (F a 10)) (10 * (aI (G21.2.1 (F a 15)) (l5_36.toInt)) + 0)) = 4 ∨ (aI (G.2.1 (F a 10)) (10 * (aI (G21.2.1 (F a 15)) (l5_36.toInt)) + 0)) = 5) ∧ (sF (aI (G.2.1 (F a 10)) (10 * (aI (G21.2.1 (F a 15)) (l5_36.toInt)) + 0))) = -99 ∧ (sL (aI (G.2.1 (F a 10)) (10 * (aI (G21.2.1 (F a 15)) (l5_36.toInt)) + 0))) = 99))
    (I58_0 : (sF (aI (G.2.1 (F a 10)) (10 * (aI (G21.2.1 (F a 15)) (l5_36.toInt)) + 0))) ≤ l6_58.toInt ∧ l6_58.toInt ≤ (sL (aI (G.2.1 (F a 10)) (10 * (aI (G21.2.1 (F a 15)) (l5_36.toInt)) + 0))) + 1)
    (I58_1 : 0 ≤ l2_58.toInt ∧ l2_58.toInt ≤ 199 * l5_36.toInt + (l6_58.toInt - (sF (aI (G.2.1 (F a 10)) (10 * (aI (G21.2.1 (F a 15)) (l5_36.toInt)) + 0)))))
    (hm58 : 2147483648 - l6_58.toInt < (((N58) + 1 : Nat) : Int))
    (c71 : ¬ ((sL (aI (G.2.1 (F a 10)) (10 * (aI (G21.2.1 (F a 15)) (l5_36.toInt)) + 0))) < l6_58.toInt))
    (t89 : x89.toInt = (flq (mw (G.2.1 (F a 1)) 0) (aI (G.2.1 (F a 10)) (10 * (aI (G21.2.1 (F a 15)) (l5_36.toInt)) + 0)) (aI (G.2.1 (F a 10)) (10 * (aI (G21.2.1 (F a 15)) (l5_36.toInt)) + 1)) (aI (G.2.1 (F a 10)) (10 * (aI (G21.2.1 (F a 15)) (l5_36.toInt)) + 2)) (aI (G.2.1 (F a 10)) (10 * (aI (G21.2.1 (F a 15)) (l5_36.toInt)) + 4)) (aI (G.2.1 (F a 10)) (10 * (aI (G21.2.1 (F a 15)) (l5_36.toInt)) + 5)) (l6_58.toInt) (stt (mw (G.2.1 (F a 1)) 0) (aI (G.2.1 (F a 10)) (10 * (aI (G21.2.1 (F a 15)) (l5_36.toInt)) + 0)) (aI (G.2.1 (F a 10)) (10 * (aI (G21.2.1 (F a 15)) (l5_36.toInt)) + 1)) (aI (G.2.1 (F a 10)) (10 * (aI (G21.2.1 (F a 15)) (l5_36.toInt)) + 2)) (aI (G.2.1 (F a 10)) (10 * (aI (G21.2.1 (F a 15)) (l5_36.toInt)) + 3)) (l6_58.toInt))))
    (f36 : x89.toInt = 0 ∨ x89.toInt = 1)
    (c92 : ¬ (x89.toInt = 0))
    (c96 : l2_58.toInt ≠ 0) :
    TrA (l2_58.toInt + 1) l3_58.toInt l4_58.toInt (faL (G.2.1 (F a 10)) (mw (G.2.1 (F a 1)) 0) (ordN (prM (G.2.1 (F a 10))) (rkM (G.2.1 (F a 10))) 12).2 (l5_36.toInt).toNat ++ fap (G.2.1 (F a 10)) (mw (G.2.1 (F a 1)) 0) (aI (G21.2.1 (F a 15)) (l5_36.toInt)) (l6_58.toInt + 1)) := by
  have hz : fzq (G.2.1 (F a 10)) (mw (G.2.1 (F a 1)) 0) (aI (G21.2.1 (F a 15)) l5_36.toInt) l6_58.toInt = x89.toInt := t89.symm
  first
    | (rw [fap_n (by omega) (by omega)]
       exact pi)
    | (rw [fap_y (by omega) (by omega), ← List.append_assoc]
       first
         | (exfalso; omega)
         | exact TrA_n pi (by omega)
         | exact TrA_s pi (by omega) _)
theorem v_X11_all_130_11 {K : Nat → Nat} {F : Nat → Nat → Nat} (a : Nat) (G2 : XG) (G : XG) (G21 : XG) (l2_36 : Int32) (l3_36 : Int32) (l4_36 : Int32) (l5_36 : Int32) (l2_58 : Int32) (l3_58 : Int32) (l4_58 : Int32) (l6_58 : Int32) (x11 : Int32) (p0 : Int32) (N36 : Nat) (N58 : Nat) (x89 : Int32)
    (ha : K a = 13)
    (oq21a : G21.2.2.2 = G2.2.2.2)
    (pa : TrA l2_36.toInt l3_36.toInt l4_36.toInt (faL (G.2.1 (F a 10)) (mw (G.2.1 (F a 1)) 0) (ordN (prM (G.2.1 (F a 10))) (rkM (G.2.1 (F a 10))) 12).2 (l5_36.toInt).toNat))
    (pi : TrA l2_58.toInt l3_58.toInt l4_58.toInt (faL (G.2.1 (F a 10)) (mw (G.2.1 (F a 1)) 0) (ordN (prM (G.2.1 (F a 10))) (rkM (G.2.1 (F a 10))) 12).2 (l5_36.toInt).toNat ++ fap (G.2.1 (F a 10)) (mw (G.2.1 (F a 1)) 0) (aI (G21.2.1 (F a 15)) (l5_36.toInt)) l6_58.toInt))
    (t11 : (x11.toInt = 1 ∧ (0 : Int) ≤ p0.toInt ∧ p0.toInt ≤ (2 : Int)) ∨ (x11.toInt = 0 ∧ (p0.toInt < (0 : Int) ∨ (2 : Int) < p0.toInt)))
    (c14 : x11.toInt ≠ 0)
    (z24 : 0 ≤ ((G21.1 a 16).toInt) ∧ ((G21.1 a 16).toInt) ≤ 12)
    (I36_0 : 0 ≤ l5_36.toInt ∧ l5_36.toInt ≤ ((G21.1 a 16).toInt))
    (I36_1 : 0 ≤ l2_36.toInt ∧ l2_36.toInt ≤ 199 * l5_36.toInt)
    (hm36 : 100 - l5_36.toInt < (((N36) + 1 : Nat) : Int))
    (c42 : ¬ (((G21.1 a 16).toInt) ≤ l5_36.toInt))
    (z45 : 0 ≤ (aI (G21.2.1 (F a 15)) (l5_36.toInt)) ∧ (aI (G21.2.1 (F a 15)) (l5_36.toInt)) ≤ 11 ∧ (aI (G.2.1 (F a 10)) (10 * (aI (G21.2.1 (F a 15)) (l5_36.toInt)) + 0)) ≠ -1)
    (z45a : (((aI (G.2.1 (F a 10)) (10 * (aI (G21.2.1 (F a 15)) (l5_36.toInt)) + 0)) = 2 ∨ (aI (G.2.1 (F a 10)) (10 * (aI (G21.2.1 (F a 15)) (l5_36.toInt)) + 0)) = 4 ∨ (aI (G.2.1 (F a 10)) (10 * (aI (G21.2.1 (F a 15)) (l5_36.toInt)) + 0)) = 5) ∧ (sF (aI (G.2.1 (F a 10)) (10 * (aI (G21.2.1 (F a 15)) (l5_36.toInt)) + 0))) = 0 ∧ (sL (aI (G.2.1 (F a 10)) (10 * (aI (G21.2.1 (F a 15)) (l5_36.toInt)) + 0))) = 29) ∨ (¬ ((aI (G.2.1 (F a 10)) (10 * (aI (G21.2.1 (F a 15)) (l5_36.toInt)) + 0)) = 2 ∨ (aI (G.2.1 (F a 10)) (10 * (aI (G21.2.1 (F a 15)) (l5_36.toInt)) + 0)) = 4 ∨ (aI (G.2.1 (F a 10)) (10 * (aI (G21.2.1 (F a 15)) (l5_36.toInt)) + 0)) = 5) ∧ (sF (aI (G.2.1 (F a 10)) (10 * (aI (G21.2.1 (F a 15)) (l5_36.toInt)) + 0))) = -99 ∧ (sL (aI (G.2.1 (F a 10)) (10 * (aI (G21.2.1 (F a 15)) (l5_36.toInt)) + 0))) = 99))
    (I58_0 : (sF (aI (G.2.1 (F a 10)) (10 * (aI (G21.2.1 (F a 15)) (l5_36.toInt)) + 0))) ≤ l6_58.toInt ∧ l6_58.toInt ≤ (sL (aI (G.2.1 (F a 10)) (10 * (aI (G21.2.1 (F a 15)) (l5_36.toInt)) + 0))) + 1)
    (I58_1 : 0 ≤ l2_58.toInt ∧ l2_58.toInt ≤ 199 * l5_36.toInt + (l6_58.toInt - (sF (aI (G.2.1 (F a 10)) (10 * (aI (G21.2.1 (F a 15)) (l5_36.toInt)) + 0)))))
    (hm58 : 2147483648 - l6_58.toInt < (((N58) + 1 : Nat) : Int))
    (c71 : ¬ ((sL (aI (G.2.1 (F a 10)) (10 * (aI (G21.2.1 (F a 15)) (l5_36.toInt)) + 0))) < l6_58.toInt))
    (t89 : x89.toInt = (flq (mw (G.2.1 (F a 1)) 0) (aI (G.2.1 (F a 10)) (10 * (aI (G21.2.1 (F a 15)) (l5_36.toInt)) + 0)) (aI (G.2.1 (F a 10)) (10 * (aI (G21.2.1 (F a 15)) (l5_36.toInt)) + 1)) (aI (G.2.1 (F a 10)) (10 * (aI (G21.2.1 (F a 15)) (l5_36.toInt)) + 2)) (aI (G.2.1 (F a 10)) (10 * (aI (G21.2.1 (F a 15)) (l5_36.toInt)) + 4)) (aI (G.2.1 (F a 10)) (10 * (aI (G21.2.1 (F a 15)) (l5_36.toInt)) + 5)) (l6_58.toInt) (stt (mw (G.2.1 (F a 1)) 0) (aI (G.2.1 (F a 10)) (10 * (aI (G21.2.1 (F a 15)) (l5_36.toInt)) + 0)) (aI (G.2.1 (F a 10)) (10 * (aI (G21.2.1 (F a 15)) (l5_36.toInt)) + 1)) (aI (G.2.1 (F a 10)) (10 * (aI (G21.2.1 (F a 15)) (l5_36.toInt)) + 2)) (aI (G.2.1 (F a 10)) (10 * (aI (G21.2.1 (F a 15)) (l5_36.toInt)) + 3)) (l6_58.toInt))))
    (f36 : x89.toInt = 0 ∨ x89.toInt = 1)
    (c92 : ¬ (x89.toInt = 0))
    (c96 : l2_58.toInt ≠ 0)
    (c112 : ¬ (l2_58.toInt ≠ 0)) :
    TrA (l2_58.toInt + 1) l3_58.toInt l6_58.toInt (faL (G.2.1 (F a 10)) (mw (G.2.1 (F a 1)) 0) (ordN (prM (G.2.1 (F a 10))) (rkM (G.2.1 (F a 10))) 12).2 (l5_36.toInt).toNat ++ fap (G.2.1 (F a 10)) (mw (G.2.1 (F a 1)) 0) (aI (G21.2.1 (F a 15)) (l5_36.toInt)) (l6_58.toInt + 1)) := by
  have hz : fzq (G.2.1 (F a 10)) (mw (G.2.1 (F a 1)) 0) (aI (G21.2.1 (F a 15)) l5_36.toInt) l6_58.toInt = x89.toInt := t89.symm
  first
    | (rw [fap_n (by omega) (by omega)]
       exact pi)
    | (rw [fap_y (by omega) (by omega), ← List.append_assoc]
       first
         | (exfalso; omega)
         | exact TrA_n pi (by omega)
         | exact TrA_s pi (by omega) _)
theorem v_X11_all_130_12 {K : Nat → Nat} {F : Nat → Nat → Nat} (a : Nat) (G2 : XG) (G : XG) (G21 : XG) (l2_36 : Int32) (l3_36 : Int32) (l4_36 : Int32) (l5_36 : Int32) (l2_58 : Int32) (l3_58 : Int32) (l4_58 : Int32) (l6_58 : Int32) (x11 : Int32) (p0 : Int32) (N36 : Nat) (N58 : Nat) (x89 : Int32)
    (ha : K a = 13)
    (oq21a : G21.2.2.2 = G2.2.2.2)
    (pa : TrA l2_36.toInt l3_36.toInt l4_36.toInt (faL (G.2.1 (F a 10)) (mw (G.2.1 (F a 1)) 0) (ordN (prM (G.2.1 (F a 10))) (rkM (G.2.1 (F a 10))) 12).2 (l5_36.toInt).toNat))
    (pi : TrA l2_58.toInt l3_58.toInt l4_58.toInt (faL (G.2.1 (F a 10)) (mw (G.2.1 (F a 1)) 0) (ordN (prM (G.2.1 (F a 10))) (rkM (G.2.1 (F a 10))) 12).2 (l5_36.toInt).toNat ++ fap (G.2.1 (F a 10)) (mw (G.2.1 (F a 1)) 0) (aI (G21.2.1 (F a 15)) (l5_36.toInt)) l6_58.toInt))
    (t11 : (x11.toInt = 1 ∧ (0 : Int) ≤ p0.toInt ∧ p0.toInt ≤ (2 : Int)) ∨ (x11.toInt = 0 ∧ (p0.toInt < (0 : Int) ∨ (2 : Int) < p0.toInt)))
    (c14 : x11.toInt ≠ 0)
    (z24 : 0 ≤ ((G21.1 a 16).toInt) ∧ ((G21.1 a 16).toInt) ≤ 12)
    (I36_0 : 0 ≤ l5_36.toInt ∧ l5_36.toInt ≤ ((G21.1 a 16).toInt))
    (I36_1 : 0 ≤ l2_36.toInt ∧ l2_36.toInt ≤ 199 * l5_36.toInt)
    (hm36 : 100 - l5_36.toInt < (((N36) + 1 : Nat) : Int))
    (c42 : ¬ (((G21.1 a 16).toInt) ≤ l5_36.toInt))
    (z45 : 0 ≤ (aI (G21.2.1 (F a 15)) (l5_36.toInt)) ∧ (aI (G21.2.1 (F a 15)) (l5_36.toInt)) ≤ 11 ∧ (aI (G.2.1 (F a 10)) (10 * (aI (G21.2.1 (F a 15)) (l5_36.toInt)) + 0)) ≠ -1)
    (z45a : (((aI (G.2.1 (F a 10)) (10 * (aI (G21.2.1 (F a 15)) (l5_36.toInt)) + 0)) = 2 ∨ (aI (G.2.1 (F a 10)) (10 * (aI (G21.2.1 (F a 15)) (l5_36.toInt)) + 0)) = 4 ∨ (aI (G.2.1 (F a 10)) (10 * (aI (G21.2.1 (F a 15)) (l5_36.toInt)) + 0)) = 5) ∧ (sF (aI (G.2.1 (F a 10)) (10 * (aI (G21.2.1 (F a 15)) (l5_36.toInt)) + 0))) = 0 ∧ (sL (aI (G.2.1 (F a 10)) (10 * (aI (G21.2.1 (F a 15)) (l5_36.toInt)) + 0))) = 29) ∨ (¬ ((aI (G.2.1 (F a 10)) (10 * (aI (G21.2.1 (F a 15)) (l5_36.toInt)) + 0)) = 2 ∨ (aI (G.2.1 (F a 10)) (10 * (aI (G21.2.1 (F a 15)) (l5_36.toInt)) + 0)) = 4 ∨ (aI (G.2.1 (F a 10)) (10 * (aI (G21.2.1 (F a 15)) (l5_36.toInt)) + 0)) = 5) ∧ (sF (aI (G.2.1 (F a 10)) (10 * (aI (G21.2.1 (F a 15)) (l5_36.toInt)) + 0))) = -99 ∧ (sL (aI (G.2.1 (F a 10)) (10 * (aI (G21.2.1 (F a 15)) (l5_36.toInt)) + 0))) = 99))
    (I58_0 : (sF (aI (G.2.1 (F a 10)) (10 * (aI (G21.2.1 (F a 15)) (l5_36.toInt)) + 0))) ≤ l6_58.toInt ∧ l6_58.toInt ≤ (sL (aI (G.2.1 (F a 10)) (10 * (aI (G21.2.1 (F a 15)) (l5_36.toInt)) + 0))) + 1)
    (I58_1 : 0 ≤ l2_58.toInt ∧ l2_58.toInt ≤ 199 * l5_36.toInt + (l6_58.toInt - (sF (aI (G.2.1 (F a 10)) (10 * (aI (G21.2.1 (F a 15)) (l5_36.toInt)) + 0)))))
    (hm58 : 2147483648 - l6_58.toInt < (((N58) + 1 : Nat) : Int))
    (c71 : ¬ ((sL (aI (G.2.1 (F a 10)) (10 * (aI (G21.2.1 (F a 15)) (l5_36.toInt)) + 0))) < l6_58.toInt))
    (t89 : x89.toInt = (flq (mw (G.2.1 (F a 1)) 0) (aI (G.2.1 (F a 10)) (10 * (aI (G21.2.1 (F a 15)) (l5_36.toInt)) + 0)) (aI (G.2.1 (F a 10)) (10 * (aI (G21.2.1 (F a 15)) (l5_36.toInt)) + 1)) (aI (G.2.1 (F a 10)) (10 * (aI (G21.2.1 (F a 15)) (l5_36.toInt)) + 2)) (aI (G.2.1 (F a 10)) (10 * (aI (G21.2.1 (F a 15)) (l5_36.toInt)) + 4)) (aI (G.2.1 (F a 10)) (10 * (aI (G21.2.1 (F a 15)) (l5_36.toInt)) + 5)) (l6_58.toInt) (stt (mw (G.2.1 (F a 1)) 0) (aI (G.2.1 (F a 10)) (10 * (aI (G21.2.1 (F a 15)) (l5_36.toInt)) + 0)) (aI (G.2.1 (F a 10)) (10 * (aI (G21.2.1 (F a 15)) (l5_36.toInt)) + 1)) (aI (G.2.1 (F a 10)) (10 * (aI (G21.2.1 (F a 15)) (l5_36.toInt)) + 2)) (aI (G.2.1 (F a 10)) (10 * (aI (G21.2.1 (F a 15)) (l5_36.toInt)) + 3)) (l6_58.toInt))))
    (f37 : x89.toInt = 0 ∨ x89.toInt = 1)
    (c92 : ¬ (x89.toInt = 0))
    (c96 : ¬ (l2_58.toInt ≠ 0))
    (c112 : l2_58.toInt ≠ 0) :
    TrA (l2_58.toInt + 1) (aI (G21.2.1 (F a 15)) (l5_36.toInt)) l4_58.toInt (faL (G.2.1 (F a 10)) (mw (G.2.1 (F a 1)) 0) (ordN (prM (G.2.1 (F a 10))) (rkM (G.2.1 (F a 10))) 12).2 (l5_36.toInt).toNat ++ fap (G.2.1 (F a 10)) (mw (G.2.1 (F a 1)) 0) (aI (G21.2.1 (F a 15)) (l5_36.toInt)) (l6_58.toInt + 1)) := by
  have hz : fzq (G.2.1 (F a 10)) (mw (G.2.1 (F a 1)) 0) (aI (G21.2.1 (F a 15)) l5_36.toInt) l6_58.toInt = x89.toInt := t89.symm
  first
    | (rw [fap_n (by omega) (by omega)]
       exact pi)
    | (rw [fap_y (by omega) (by omega), ← List.append_assoc]
       first
         | (exfalso; omega)
         | exact TrA_n pi (by omega)
         | exact TrA_s pi (by omega) _)
theorem v_X11_all_130_13 {K : Nat → Nat} {F : Nat → Nat → Nat} (a : Nat) (G2 : XG) (G : XG) (G21 : XG) (l2_36 : Int32) (l3_36 : Int32) (l4_36 : Int32) (l5_36 : Int32) (l2_58 : Int32) (l3_58 : Int32) (l4_58 : Int32) (l6_58 : Int32) (x11 : Int32) (p0 : Int32) (N36 : Nat) (N58 : Nat) (x89 : Int32)
    (ha : K a = 13)
    (oq21a : G21.2.2.2 = G2.2.2.2)
    (pa : TrA l2_36.toInt l3_36.toInt l4_36.toInt (faL (G.2.1 (F a 10)) (mw (G.2.1 (F a 1)) 0) (ordN (prM (G.2.1 (F a 10))) (rkM (G.2.1 (F a 10))) 12).2 (l5_36.toInt).toNat))
    (pi : TrA l2_58.toInt l3_58.toInt l4_58.toInt (faL (G.2.1 (F a 10)) (mw (G.2.1 (F a 1)) 0) (ordN (prM (G.2.1 (F a 10))) (rkM (G.2.1 (F a 10))) 12).2 (l5_36.toInt).toNat ++ fap (G.2.1 (F a 10)) (mw (G.2.1 (F a 1)) 0) (aI (G21.2.1 (F a 15)) (l5_36.toInt)) l6_58.toInt))
    (t11 : (x11.toInt = 1 ∧ (0 : Int) ≤ p0.toInt ∧ p0.toInt ≤ (2 : Int)) ∨ (x11.toInt = 0 ∧ (p0.toInt < (0 : Int) ∨ (2 : Int) < p0.toInt)))
    (c14 : x11.toInt ≠ 0)
    (z24 : 0 ≤ ((G21.1 a 16).toInt) ∧ ((G21.1 a 16).toInt) ≤ 12)
    (I36_0 : 0 ≤ l5_36.toInt ∧ l5_36.toInt ≤ ((G21.1 a 16).toInt))
    (I36_1 : 0 ≤ l2_36.toInt ∧ l2_36.toInt ≤ 199 * l5_36.toInt)
    (hm36 : 100 - l5_36.toInt < (((N36) + 1 : Nat) : Int))
    (c42 : ¬ (((G21.1 a 16).toInt) ≤ l5_36.toInt))
    (z45 : 0 ≤ (aI (G21.2.1 (F a 15)) (l5_36.toInt)) ∧ (aI (G21.2.1 (F a 15)) (l5_36.toInt)) ≤ 11 ∧ (aI (G.2.1 (F a 10)) (10 * (aI (G21.2.1 (F a 15)) (l5_36.toInt)) + 0)) ≠ -1)
    (z45a : (((aI (G.2.1 (F a 10)) (10 * (aI (G21.2.1 (F a 15)) (l5_36.toInt)) + 0)) = 2 ∨ (aI (G.2.1 (F a 10)) (10 * (aI (G21.2.1 (F a 15)) (l5_36.toInt)) + 0)) = 4 ∨ (aI (G.2.1 (F a 10)) (10 * (aI (G21.2.1 (F a 15)) (l5_36.toInt)) + 0)) = 5) ∧ (sF (aI (G.2.1 (F a 10)) (10 * (aI (G21.2.1 (F a 15)) (l5_36.toInt)) + 0))) = 0 ∧ (sL (aI (G.2.1 (F a 10)) (10 * (aI (G21.2.1 (F a 15)) (l5_36.toInt)) + 0))) = 29) ∨ (¬ ((aI (G.2.1 (F a 10)) (10 * (aI (G21.2.1 (F a 15)) (l5_36.toInt)) + 0)) = 2 ∨ (aI (G.2.1 (F a 10)) (10 * (aI (G21.2.1 (F a 15)) (l5_36.toInt)) + 0)) = 4 ∨ (aI (G.2.1 (F a 10)) (10 * (aI (G21.2.1 (F a 15)) (l5_36.toInt)) + 0)) = 5) ∧ (sF (aI (G.2.1 (F a 10)) (10 * (aI (G21.2.1 (F a 15)) (l5_36.toInt)) + 0))) = -99 ∧ (sL (aI (G.2.1 (F a 10)) (10 * (aI (G21.2.1 (F a 15)) (l5_36.toInt)) + 0))) = 99))
    (I58_0 : (sF (aI (G.2.1 (F a 10)) (10 * (aI (G21.2.1 (F a 15)) (l5_36.toInt)) + 0))) ≤ l6_58.toInt ∧ l6_58.toInt ≤ (sL (aI (G.2.1 (F a 10)) (10 * (aI (G21.2.1 (F a 15)) (l5_36.toInt)) + 0))) + 1)
    (I58_1 : 0 ≤ l2_58.toInt ∧ l2_58.toInt ≤ 199 * l5_36.toInt + (l6_58.toInt - (sF (aI (G.2.1 (F a 10)) (10 * (aI (G21.2.1 (F a 15)) (l5_36.toInt)) + 0)))))
    (hm58 : 2147483648 - l6_58.toInt < (((N58) + 1 : Nat) : Int))
    (c71 : ¬ ((sL (aI (G.2.1 (F a 10)) (10 * (aI (G21.2.1 (F a 15)) (l5_36.toInt)) + 0))) < l6_58.toInt))
    (t89 : x89.toInt = (flq (mw (G.2.1 (F a 1)) 0) (aI (G.2.1 (F a 10)) (10 * (aI (G21.2.1 (F a 15)) (l5_36.toInt)) + 0)) (aI (G.2.1 (F a 10)) (10 * (aI (G21.2.1 (F a 15)) (l5_36.toInt)) + 1)) (aI (G.2.1 (F a 10)) (10 * (aI (G21.2.1 (F a 15)) (l5_36.toInt)) + 2)) (aI (G.2.1 (F a 10)) (10 * (aI (G21.2.1 (F a 15)) (l5_36.toInt)) + 4)) (aI (G.2.1 (F a 10)) (10 * (aI (G21.2.1 (F a 15)) (l5_36.toInt)) + 5)) (l6_58.toInt) (stt (mw (G.2.1 (F a 1)) 0) (aI (G.2.1 (F a 10)) (10 * (aI (G21.2.1 (F a 15)) (l5_36.toInt)) + 0)) (aI (G.2.1 (F a 10)) (10 * (aI (G21.2.1 (F a 15)) (l5_36.toInt)) + 1)) (aI (G.2.1 (F a 10)) (10 * (aI (G21.2.1 (F a 15)) (l5_36.toInt)) + 2)) (aI (G.2.1 (F a 10)) (10 * (aI (G21.2.1 (F a 15)) (l5_36.toInt)) + 3)) (l6_58.toInt))))
    (f37 : x89.toInt = 0 ∨ x89.toInt = 1)
    (c92 : ¬ (x89.toInt = 0))
    (c96 : ¬ (l2_58.toInt ≠ 0)) :
    TrA (l2_58.toInt + 1) (aI (G21.2.1 (F a 15)) (l5_36.toInt)) l6_58.toInt (faL (G.2.1 (F a 10)) (mw (G.2.1 (F a 1)) 0) (ordN (prM (G.2.1 (F a 10))) (rkM (G.2.1 (F a 10))) 12).2 (l5_36.toInt).toNat ++ fap (G.2.1 (F a 10)) (mw (G.2.1 (F a 1)) 0) (aI (G21.2.1 (F a 15)) (l5_36.toInt)) (l6_58.toInt + 1)) := by
  have hz : fzq (G.2.1 (F a 10)) (mw (G.2.1 (F a 1)) 0) (aI (G21.2.1 (F a 15)) l5_36.toInt) l6_58.toInt = x89.toInt := t89.symm
  first
    | (rw [fap_n (by omega) (by omega)]
       exact pi)
    | (rw [fap_y (by omega) (by omega), ← List.append_assoc]
       first
         | (exfalso; omega)
         | exact TrA_n pi (by omega)
         | exact TrA_s pi (by omega) _)
theorem v_X11_all_56_14 {F : Nat → Nat → Nat} (a : Nat) (G : XG) (G21 : XG) (l2_36 : Int32) (l3_36 : Int32) (l4_36 : Int32) (l5_36 : Int32)
    (pa : TrA l2_36.toInt l3_36.toInt l4_36.toInt (faL (G.2.1 (F a 10)) (mw (G.2.1 (F a 1)) 0) (ordN (prM (G.2.1 (F a 10))) (rkM (G.2.1 (F a 10))) 12).2 (l5_36.toInt).toNat)) :
    TrA l2_36.toInt l3_36.toInt l4_36.toInt (faL (G.2.1 (F a 10)) (mw (G.2.1 (F a 1)) 0) (ordN (prM (G.2.1 (F a 10))) (rkM (G.2.1 (F a 10))) 12).2 (l5_36.toInt).toNat ++ fap (G.2.1 (F a 10)) (mw (G.2.1 (F a 1)) 0) (aI (G21.2.1 (F a 15)) (l5_36.toInt)) (sF (aI (G.2.1 (F a 10)) (10 * (aI (G21.2.1 (F a 15)) (l5_36.toInt)) + 0)))) := by
  rw [fap_0 rfl, List.append_nil]
  exact pa
theorem v_X11_all_34_15 {F : Nat → Nat → Nat} (a : Nat) (G : XG) :
    TrA (0 : Int) (-2147483648 : Int) (-2147483648 : Int) (faL (G.2.1 (F a 10)) (mw (G.2.1 (F a 1)) 0) (ordN (prM (G.2.1 (F a 10))) (rkM (G.2.1 (F a 10))) 12).2 (0 : Int).toNat) := by
  show TrA 0 (-2147483648) (-2147483648) (faL _ _ _ 0)
  exact TrA_0
theorem v_X11_all_19_16 {K : Nat → Nat} {F : Nat → Nat → Nat} (a : Nat) (G : XG) (x11 : Int32) (p0 : Int32)
    (ha : K a = 13)
    (t11 : (x11.toInt = 1 ∧ (0 : Int) ≤ p0.toInt ∧ p0.toInt ≤ (2 : Int)) ∨ (x11.toInt = 0 ∧ (p0.toInt < (0 : Int) ∨ (2 : Int) < p0.toInt)))
    (c14 : ¬ (x11.toInt ≠ 0)) :
    (¬ (0 ≤ p0.toInt ∧ p0.toInt ≤ 2) ∧ (-2147483648 : Int) = -2147483648) ∨ ((0 ≤ p0.toInt ∧ p0.toInt ≤ 2) ∧ (-2147483648 : Int) = alS p0.toInt (faO (G.2.1 (F a 10)) (mw (G.2.1 (F a 1)) 0))) := by
  exact Or.inl ⟨by omega, rfl⟩
