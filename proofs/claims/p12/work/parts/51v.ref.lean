theorem v_X11_later_79_1 {F : Nat → Nat → Nat} (a : Nat) (G : XG) (G6 : XG)
    (hR : RV (G.2.1 (F a 10)))
    (c_G6_F_a_10 : G6.2.1 (F a 10) = G.2.1 (F a 10)) :
    RV (G6.2.1 (F a 10)) := by simp only [c_G6_F_a_10]; assumption
theorem v_X11_later_79_2 {F : Nat → Nat → Nat} (a : Nat) (G : XG) (G6 : XG)
    (hM : RM (G.2.1 (F a 1)) (0))
    (hB : RM (G.2.1 (F a 2)) 0)
    (c_G6_F_a_1 : G6.2.1 (F a 1) = G.2.1 (F a 1)) :
    RM (G6.2.1 (F a 1)) (0) := by simp only [c_G6_F_a_1]; assumption
theorem v_X11_later_79_3 {F : Nat → Nat → Nat} (a : Nat) (G : XG) (G6 : XG)
    (hM : RM (G.2.1 (F a 1)) (0))
    (hB : RM (G.2.1 (F a 2)) 0)
    (c_G6_F_a_2 : G6.2.1 (F a 2) = G.2.1 (F a 2)) :
    RM (G6.2.1 (F a 2)) 0 := by simp only [c_G6_F_a_2]; assumption
theorem v_X11_later_82_4 {F : Nat → Nat → Nat} (a : Nat) (G : XG) (G79 : XG)
    (oq79 : pL G79 F a = if ((G.1 a 6).toInt) = 0 then [] else fuO (G.2.1 (F a 10)) (mw (G.2.1 (F a 1)) 0) (mw (G.2.1 (F a 2)) 0) 1) :
    PV (G.2.1 (F a 10)) (pL G79 F a) := by
  rw [oq79]
  split
  · intro x hx; cases hx
  · exact fuO_pv _ _ _ _
theorem v_X11_later_171_5 {K : Nat → Nat} {F : Nat → Nat → Nat} (a : Nat) (G : XG) (G6 : XG) (G79 : XG) (G_86 : XG) (G169 : XG) (x167 : Int32) (p0 : Int32) (x79 : Int32) (l4_86 : Int32) (p1 : Int32) (x11 : Int32) (N86 : Nat)
    (ha : K a = 13)
    (hG169 : G169 = cput G_86 (F a 10) x167.toNatClampNeg 0)
    (oq79 : pL G79 F a = if ((G.1 a 6).toInt) = 0 then [] else fuO (G.2.1 (F a 10)) (mw (G.2.1 (F a 1)) 0) (mw (G.2.1 (F a 2)) 0) 1)
    (oq79a : x79.toInt = cnP (pL G79 F a) p0.toInt)
    (pl : ∀ j : Int, 0 ≤ j → j < l4_86.toInt → aI (G79.2.1 (F a 17)) j = p0.toInt → fzq (G.2.1 (F a 10)) (mw (G.2.1 (F a 1)) 0) (aI (G79.2.1 (F a 17)) j) (aI (G79.2.1 (F a 18)) j) = 0)
    (e167 : x167.toInt = (((10 : Int) * p0.toInt) + (6 : Int)))
    (z0 : p1.toInt = 0 ∨ p1.toInt = 1)
    (t6 : ((G6.1 a 20).toInt) = -2147483648 ∧ ((G6.1 a 21).toInt) = -2147483648 ∧ ((G6.1 a 23).toInt) = 0)
    (t11 : (x11.toInt = 1 ∧ 0 ≤ p0.toInt ∧ p0.toInt ≤ 11 ∧ (aI (G.2.1 (F a 10)) (10 * p0.toInt + 0)) ≠ -1) ∨ (x11.toInt = 0 ∧ (¬ (0 ≤ p0.toInt ∧ p0.toInt ≤ 11) ∨ (aI (G.2.1 (F a 10)) (10 * p0.toInt + 0)) = -1)))
    (c14 : x11.toInt ≠ 0)
    (c28 : p1.toInt = 0)
    (c36 : (aI (G.2.1 (F a 10)) (10 * p0.toInt + 6)) ≠ (0 : Int))
    (t79 : 0 ≤ x79.toInt ∧ x79.toInt ≤ 2388 ∧ 0 ≤ ((G79.1 a 19).toInt) ∧ ((G79.1 a 19).toInt) ≤ 2388)
    (I86_0 : 0 ≤ l4_86.toInt ∧ l4_86.toInt ≤ ((G79.1 a 19).toInt))
    (I86_1 : (0 : Int) ≤ l4_86.toInt)
    (hm86 : 2147483648 - l4_86.toInt < (((N86) + 1 : Nat) : Int))
    (c92 : ((G79.1 a 19).toInt) ≤ l4_86.toInt)
    (c_G_86_F_a_10 : G_86.2.1 (F a 10) = G.2.1 (F a 10)) :
    (¬ (0 ≤ p0.toInt ∧ p0.toInt ≤ 11 ∧ aI (G.2.1 (F a 10)) (10 * p0.toInt + 0) ≠ -1) ∧ x79.toInt = -2 ∧ G169.2.1 (F a 10) = (G.2.1 (F a 10))) ∨ ((0 ≤ p0.toInt ∧ p0.toInt ≤ 11 ∧ aI (G.2.1 (F a 10)) (10 * p0.toInt + 0) ≠ -1) ∧ aI (G.2.1 (F a 10)) (10 * p0.toInt + 6) = p1.toInt ∧ x79.toInt = -4 ∧ G169.2.1 (F a 10) = (G.2.1 (F a 10))) ∨ ((0 ≤ p0.toInt ∧ p0.toInt ≤ 11 ∧ aI (G.2.1 (F a 10)) (10 * p0.toInt + 0) ≠ -1) ∧ aI (G.2.1 (F a 10)) (10 * p0.toInt + 6) ≠ p1.toInt ∧ p1.toInt = 1 ∧ (∀ z : Int, 0 ≤ z → aI (G169.2.1 (F a 10)) z = if z = 10 * p0.toInt + 6 then 1 else aI (G.2.1 (F a 10)) z) ∧ x79.toInt = cnP (if ((G.1 a 6).toInt) = 0 then [] else fuO (G169.2.1 (F a 10)) (mw (G.2.1 (F a 1)) 0) (mw (G.2.1 (F a 2)) 0) 1) p0.toInt) ∨ ((0 ≤ p0.toInt ∧ p0.toInt ≤ 11 ∧ aI (G.2.1 (F a 10)) (10 * p0.toInt + 0) ≠ -1) ∧ aI (G.2.1 (F a 10)) (10 * p0.toInt + 6) ≠ p1.toInt ∧ p1.toInt = 0 ∧ ((QFl (G.2.1 (F a 10)) (mw (G.2.1 (F a 1)) 0) (if ((G.1 a 6).toInt) = 0 then [] else fuO (G.2.1 (F a 10)) (mw (G.2.1 (F a 1)) 0) (mw (G.2.1 (F a 2)) 0) 1) p0.toInt ∧ x79.toInt = -5 ∧ G169.2.1 (F a 10) = (G.2.1 (F a 10))) ∨ (¬ QFl (G.2.1 (F a 10)) (mw (G.2.1 (F a 1)) 0) (if ((G.1 a 6).toInt) = 0 then [] else fuO (G.2.1 (F a 10)) (mw (G.2.1 (F a 1)) 0) (mw (G.2.1 (F a 2)) 0) 1) p0.toInt ∧ (∀ z : Int, 0 ≤ z → aI (G169.2.1 (F a 10)) z = if z = 10 * p0.toInt + 6 then 0 else aI (G.2.1 (F a 10)) z) ∧ x79.toInt = cnP (if ((G.1 a 6).toInt) = 0 then [] else fuO (G.2.1 (F a 10)) (mw (G.2.1 (F a 1)) 0) (mw (G.2.1 (F a 2)) 0) 1) p0.toInt))) := by
  refine Or.inr (Or.inr (Or.inr ⟨by omega, by omega, by omega, Or.inr ⟨?_, aI_pu hG169 c_G_86_F_a_10 (by omega) (by decide) (by omega), (by rw [← oq79]; exact oq79a)⟩⟩))
  rw [← oq79]
  rintro ⟨x, hx, hn, hf⟩
  obtain ⟨j, hj⟩ := List.mem_iff_getElem?.mp hx
  obtain ⟨h1, rfl⟩ := pL_get hj
  have := pl (j : Int) (by omega) (by omega) hn
  rw [this] at hf
  exact absurd hf (by decide)
theorem v_X11_later_171_6 {K : Nat → Nat} {F : Nat → Nat → Nat} (a : Nat) (G : XG) (G6 : XG) (G79 : XG) (G_86 : XG) (G169 : XG) (x167 : Int32) (p0 : Int32) (x79 : Int32) (l4_86 : Int32) (p1 : Int32) (x11 : Int32) (N86 : Nat)
    (ha : K a = 13)
    (hG169 : G169 = cput G_86 (F a 10) x167.toNatClampNeg 0)
    (hR : RV (G.2.1 (F a 10)))
    (oq79a : x79.toInt = cnP (pL G79 F a) p0.toInt)
    (e167 : x167.toInt = (((10 : Int) * p0.toInt) + (6 : Int)))
    (z0 : p1.toInt = 0 ∨ p1.toInt = 1)
    (t6 : ((G6.1 a 20).toInt) = -2147483648 ∧ ((G6.1 a 21).toInt) = -2147483648 ∧ ((G6.1 a 23).toInt) = 0)
    (t11 : (x11.toInt = 1 ∧ 0 ≤ p0.toInt ∧ p0.toInt ≤ 11 ∧ (aI (G.2.1 (F a 10)) (10 * p0.toInt + 0)) ≠ -1) ∨ (x11.toInt = 0 ∧ (¬ (0 ≤ p0.toInt ∧ p0.toInt ≤ 11) ∨ (aI (G.2.1 (F a 10)) (10 * p0.toInt + 0)) = -1)))
    (c14 : x11.toInt ≠ 0)
    (c28 : p1.toInt = 0)
    (c36 : (aI (G.2.1 (F a 10)) (10 * p0.toInt + 6)) ≠ (0 : Int))
    (t79 : 0 ≤ x79.toInt ∧ x79.toInt ≤ 2388 ∧ 0 ≤ ((G79.1 a 19).toInt) ∧ ((G79.1 a 19).toInt) ≤ 2388)
    (I86_0 : 0 ≤ l4_86.toInt ∧ l4_86.toInt ≤ ((G79.1 a 19).toInt))
    (I86_1 : (0 : Int) ≤ l4_86.toInt)
    (hm86 : 2147483648 - l4_86.toInt < (((N86) + 1 : Nat) : Int))
    (c92 : ((G79.1 a 19).toInt) ≤ l4_86.toInt)
    (c_G_86_F_a_10 : G_86.2.1 (F a 10) = G.2.1 (F a 10)) :
    RV (G169.2.1 (F a 10)) := by
  exact hR.late (x := p0.toInt) (y := 0) (aI_pu hG169 c_G_86_F_a_10 (by omega) (by decide) (by omega))
theorem v_X11_later_154_7 {K : Nat → Nat} {F : Nat → Nat → Nat} (a : Nat) (G : XG) (G6 : XG) (G79 : XG) (p0 : Int32) (x79 : Int32) (l4_86 : Int32) (p1 : Int32) (x11 : Int32) (N86 : Nat)
    (ha : K a = 13)
    (oq79a : x79.toInt = cnP (pL G79 F a) p0.toInt)
    (pl : ∀ j : Int, 0 ≤ j → j < l4_86.toInt → aI (G79.2.1 (F a 17)) j = p0.toInt → fzq (G.2.1 (F a 10)) (mw (G.2.1 (F a 1)) 0) (aI (G79.2.1 (F a 17)) j) (aI (G79.2.1 (F a 18)) j) = 0)
    (z0 : p1.toInt = 0 ∨ p1.toInt = 1)
    (t6 : ((G6.1 a 20).toInt) = -2147483648 ∧ ((G6.1 a 21).toInt) = -2147483648 ∧ ((G6.1 a 23).toInt) = 0)
    (t11 : (x11.toInt = 1 ∧ 0 ≤ p0.toInt ∧ p0.toInt ≤ 11 ∧ (aI (G.2.1 (F a 10)) (10 * p0.toInt + 0)) ≠ -1) ∨ (x11.toInt = 0 ∧ (¬ (0 ≤ p0.toInt ∧ p0.toInt ≤ 11) ∨ (aI (G.2.1 (F a 10)) (10 * p0.toInt + 0)) = -1)))
    (c14 : x11.toInt ≠ 0)
    (c28 : p1.toInt = 0)
    (c36 : (aI (G.2.1 (F a 10)) (10 * p0.toInt + 6)) ≠ (0 : Int))
    (t79 : 0 ≤ x79.toInt ∧ x79.toInt ≤ 2388 ∧ 0 ≤ ((G79.1 a 19).toInt) ∧ ((G79.1 a 19).toInt) ≤ 2388)
    (I86_0 : 0 ≤ l4_86.toInt ∧ l4_86.toInt ≤ ((G79.1 a 19).toInt))
    (I86_1 : (0 : Int) ≤ l4_86.toInt)
    (hm86 : 2147483648 - l4_86.toInt < (((N86) + 1 : Nat) : Int))
    (c92 : ¬ (((G79.1 a 19).toInt) ≤ l4_86.toInt))
    (c103 : (aI (G79.2.1 (F a 17)) (l4_86.toInt)) ≠ p0.toInt) :
    ∀ j : Int, 0 ≤ j → j < (l4_86.toInt + 1) → aI (G79.2.1 (F a 17)) j = p0.toInt → fzq (G.2.1 (F a 10)) (mw (G.2.1 (F a 1)) 0) (aI (G79.2.1 (F a 17)) j) (aI (G79.2.1 (F a 18)) j) = 0 := by
  intro j h1 h2 h3
  by_cases e : j = l4_86.toInt
  · subst e
    first
      | exact absurd h3 (by omega)
      | (have t9 : flq _ _ _ _ _ _ _ _ = 0 := t130.symm.trans c133
         rw [h3]
         exact t9)
  · exact pl j h1 (by omega) h3
theorem v_X11_later_130_8 {F : Nat → Nat → Nat} (a : Nat) (G : XG) (G115 : XG)
    (hR : RV (G.2.1 (F a 10)))
    (c_G115_F_a_10 : G115.2.1 (F a 10) = G.2.1 (F a 10)) :
    RV (G115.2.1 (F a 10)) := by simp only [c_G115_F_a_10]; assumption
theorem v_X11_later_130_9 {F : Nat → Nat → Nat} (a : Nat) (G : XG) (G115 : XG)
    (hM : RM (G.2.1 (F a 1)) (0))
    (hB : RM (G.2.1 (F a 2)) 0)
    (c_G115_F_a_1 : G115.2.1 (F a 1) = G.2.1 (F a 1)) :
    RM (G115.2.1 (F a 1)) (0 : Int) := by simp only [c_G115_F_a_1]; assumption
theorem v_X11_later_154_10 {K : Nat → Nat} {F : Nat → Nat → Nat} (a : Nat) (G : XG) (G6 : XG) (G79 : XG) (p0 : Int32) (x79 : Int32) (l4_86 : Int32) (p1 : Int32) (x11 : Int32) (N86 : Nat) (x130 : Int32)
    (ha : K a = 13)
    (oq79a : x79.toInt = cnP (pL G79 F a) p0.toInt)
    (pl : ∀ j : Int, 0 ≤ j → j < l4_86.toInt → aI (G79.2.1 (F a 17)) j = p0.toInt → fzq (G.2.1 (F a 10)) (mw (G.2.1 (F a 1)) 0) (aI (G79.2.1 (F a 17)) j) (aI (G79.2.1 (F a 18)) j) = 0)
    (z0 : p1.toInt = 0 ∨ p1.toInt = 1)
    (t6 : ((G6.1 a 20).toInt) = -2147483648 ∧ ((G6.1 a 21).toInt) = -2147483648 ∧ ((G6.1 a 23).toInt) = 0)
    (t11 : (x11.toInt = 1 ∧ 0 ≤ p0.toInt ∧ p0.toInt ≤ 11 ∧ (aI (G.2.1 (F a 10)) (10 * p0.toInt + 0)) ≠ -1) ∨ (x11.toInt = 0 ∧ (¬ (0 ≤ p0.toInt ∧ p0.toInt ≤ 11) ∨ (aI (G.2.1 (F a 10)) (10 * p0.toInt + 0)) = -1)))
    (c14 : x11.toInt ≠ 0)
    (c28 : p1.toInt = 0)
    (c36 : (aI (G.2.1 (F a 10)) (10 * p0.toInt + 6)) ≠ (0 : Int))
    (t79 : 0 ≤ x79.toInt ∧ x79.toInt ≤ 2388 ∧ 0 ≤ ((G79.1 a 19).toInt) ∧ ((G79.1 a 19).toInt) ≤ 2388)
    (I86_0 : 0 ≤ l4_86.toInt ∧ l4_86.toInt ≤ ((G79.1 a 19).toInt))
    (I86_1 : (0 : Int) ≤ l4_86.toInt)
    (hm86 : 2147483648 - l4_86.toInt < (((N86) + 1 : Nat) : Int))
    (c92 : ¬ (((G79.1 a 19).toInt) ≤ l4_86.toInt))
    (c103 : ¬ ((aI (G79.2.1 (F a 17)) (l4_86.toInt)) ≠ p0.toInt))
    (z116 : (0 ≤ (aI (G79.2.1 (F a 17)) (l4_86.toInt)) ∧ (aI (G79.2.1 (F a 17)) (l4_86.toInt)) ≤ 11) ∧ (aI (G.2.1 (F a 10)) (10 * aI (G79.2.1 (F a 17)) (l4_86.toInt) + 0)) ≠ -1 ∧ ((sF (aI (G.2.1 (F a 10)) (10 * aI (G79.2.1 (F a 17)) (l4_86.toInt) + 0))) ≤ (aI (G79.2.1 (F a 18)) (l4_86.toInt)) ∧ (aI (G79.2.1 (F a 18)) (l4_86.toInt)) ≤ (sL (aI (G.2.1 (F a 10)) (10 * aI (G79.2.1 (F a 17)) (l4_86.toInt) + 0)))))
    (z116a : ((sF (aI (G.2.1 (F a 10)) (10 * aI (G79.2.1 (F a 17)) (l4_86.toInt) + 0))) = 0 ∨ (sF (aI (G.2.1 (F a 10)) (10 * aI (G79.2.1 (F a 17)) (l4_86.toInt) + 0))) = -99) ∧ ((sL (aI (G.2.1 (F a 10)) (10 * aI (G79.2.1 (F a 17)) (l4_86.toInt) + 0))) = 29 ∨ (sL (aI (G.2.1 (F a 10)) (10 * aI (G79.2.1 (F a 17)) (l4_86.toInt) + 0))) = 99))
    (z116b : (aI (G79.2.1 (F a 17)) (l4_86.toInt)) = p0.toInt → (sF (aI (G.2.1 (F a 10)) (10 * aI (G79.2.1 (F a 17)) (l4_86.toInt) + 0))) = (sF (aI (G.2.1 (F a 10)) (10 * p0.toInt + 0))) ∧ (sL (aI (G.2.1 (F a 10)) (10 * aI (G79.2.1 (F a 17)) (l4_86.toInt) + 0))) = (sL (aI (G.2.1 (F a 10)) (10 * p0.toInt + 0))))
    (t130 : x130.toInt = (flq (mw (G.2.1 (F a 1)) 0) (aI (G.2.1 (F a 10)) (10 * p0.toInt + 0)) (aI (G.2.1 (F a 10)) (10 * p0.toInt + 1)) (aI (G.2.1 (F a 10)) (10 * p0.toInt + 2)) (aI (G.2.1 (F a 10)) (10 * p0.toInt + 4)) (aI (G.2.1 (F a 10)) (10 * p0.toInt + 5)) (aI (G79.2.1 (F a 18)) (l4_86.toInt)) (stt (mw (G.2.1 (F a 1)) 0) (aI (G.2.1 (F a 10)) (10 * p0.toInt + 0)) (aI (G.2.1 (F a 10)) (10 * p0.toInt + 1)) (aI (G.2.1 (F a 10)) (10 * p0.toInt + 2)) (aI (G.2.1 (F a 10)) (10 * p0.toInt + 3)) (aI (G79.2.1 (F a 18)) (l4_86.toInt)))))
    (f57 : x130.toInt = 0 ∨ x130.toInt = 1)
    (c133 : x130.toInt = 0) :
    ∀ j : Int, 0 ≤ j → j < (l4_86.toInt + 1) → aI (G79.2.1 (F a 17)) j = p0.toInt → fzq (G.2.1 (F a 10)) (mw (G.2.1 (F a 1)) 0) (aI (G79.2.1 (F a 17)) j) (aI (G79.2.1 (F a 18)) j) = 0 := by
  intro j h1 h2 h3
  by_cases e : j = l4_86.toInt
  · subst e
    first
      | exact absurd h3 (by omega)
      | (have t9 : flq _ _ _ _ _ _ _ _ = 0 := t130.symm.trans c133
         rw [h3]
         exact t9)
  · exact pl j h1 (by omega) h3
theorem v_X11_later_150_11 {K : Nat → Nat} {F : Nat → Nat → Nat} (a : Nat) (G : XG) (G6 : XG) (G79 : XG) (G145 : XG) (p0 : Int32) (x79 : Int32) (l4_86 : Int32) (p1 : Int32) (x11 : Int32) (N86 : Nat) (x130 : Int32)
    (ha : K a = 13)
    (oq79 : pL G79 F a = if ((G.1 a 6).toInt) = 0 then [] else fuO (G.2.1 (F a 10)) (mw (G.2.1 (F a 1)) 0) (mw (G.2.1 (F a 2)) 0) 1)
    (oq79a : x79.toInt = cnP (pL G79 F a) p0.toInt)
    (z0 : p1.toInt = 0 ∨ p1.toInt = 1)
    (t6 : ((G6.1 a 20).toInt) = -2147483648 ∧ ((G6.1 a 21).toInt) = -2147483648 ∧ ((G6.1 a 23).toInt) = 0)
    (t11 : (x11.toInt = 1 ∧ 0 ≤ p0.toInt ∧ p0.toInt ≤ 11 ∧ (aI (G.2.1 (F a 10)) (10 * p0.toInt + 0)) ≠ -1) ∨ (x11.toInt = 0 ∧ (¬ (0 ≤ p0.toInt ∧ p0.toInt ≤ 11) ∨ (aI (G.2.1 (F a 10)) (10 * p0.toInt + 0)) = -1)))
    (c14 : x11.toInt ≠ 0)
    (c28 : p1.toInt = 0)
    (c36 : (aI (G.2.1 (F a 10)) (10 * p0.toInt + 6)) ≠ (0 : Int))
    (t79 : 0 ≤ x79.toInt ∧ x79.toInt ≤ 2388 ∧ 0 ≤ ((G79.1 a 19).toInt) ∧ ((G79.1 a 19).toInt) ≤ 2388)
    (I86_0 : 0 ≤ l4_86.toInt ∧ l4_86.toInt ≤ ((G79.1 a 19).toInt))
    (I86_1 : (0 : Int) ≤ l4_86.toInt)
    (hm86 : 2147483648 - l4_86.toInt < (((N86) + 1 : Nat) : Int))
    (c92 : ¬ (((G79.1 a 19).toInt) ≤ l4_86.toInt))
    (c103 : ¬ ((aI (G79.2.1 (F a 17)) (l4_86.toInt)) ≠ p0.toInt))
    (z116 : (0 ≤ (aI (G79.2.1 (F a 17)) (l4_86.toInt)) ∧ (aI (G79.2.1 (F a 17)) (l4_86.toInt)) ≤ 11) ∧ (aI (G.2.1 (F a 10)) (10 * aI (G79.2.1 (F a 17)) (l4_86.toInt) + 0)) ≠ -1 ∧ ((sF (aI (G.2.1 (F a 10)) (10 * aI (G79.2.1 (F a 17)) (l4_86.toInt) + 0))) ≤ (aI (G79.2.1 (F a 18)) (l4_86.toInt)) ∧ (aI (G79.2.1 (F a 18)) (l4_86.toInt)) ≤ (sL (aI (G.2.1 (F a 10)) (10 * aI (G79.2.1 (F a 17)) (l4_86.toInt) + 0)))))
    (z116a : ((sF (aI (G.2.1 (F a 10)) (10 * aI (G79.2.1 (F a 17)) (l4_86.toInt) + 0))) = 0 ∨ (sF (aI (G.2.1 (F a 10)) (10 * aI (G79.2.1 (F a 17)) (l4_86.toInt) + 0))) = -99) ∧ ((sL (aI (G.2.1 (F a 10)) (10 * aI (G79.2.1 (F a 17)) (l4_86.toInt) + 0))) = 29 ∨ (sL (aI (G.2.1 (F a 10)) (10 * aI (G79.2.1 (F a 17)) (l4_86.toInt) + 0))) = 99))
    (z116b : (aI (G79.2.1 (F a 17)) (l4_86.toInt)) = p0.toInt → (sF (aI (G.2.1 (F a 10)) (10 * aI (G79.2.1 (F a 17)) (l4_86.toInt) + 0))) = (sF (aI (G.2.1 (F a 10)) (10 * p0.toInt + 0))) ∧ (sL (aI (G.2.1 (F a 10)) (10 * aI (G79.2.1 (F a 17)) (l4_86.toInt) + 0))) = (sL (aI (G.2.1 (F a 10)) (10 * p0.toInt + 0))))
    (t130 : x130.toInt = (flq (mw (G.2.1 (F a 1)) 0) (aI (G.2.1 (F a 10)) (10 * p0.toInt + 0)) (aI (G.2.1 (F a 10)) (10 * p0.toInt + 1)) (aI (G.2.1 (F a 10)) (10 * p0.toInt + 2)) (aI (G.2.1 (F a 10)) (10 * p0.toInt + 4)) (aI (G.2.1 (F a 10)) (10 * p0.toInt + 5)) (aI (G79.2.1 (F a 18)) (l4_86.toInt)) (stt (mw (G.2.1 (F a 1)) 0) (aI (G.2.1 (F a 10)) (10 * p0.toInt + 0)) (aI (G.2.1 (F a 10)) (10 * p0.toInt + 1)) (aI (G.2.1 (F a 10)) (10 * p0.toInt + 2)) (aI (G.2.1 (F a 10)) (10 * p0.toInt + 3)) (aI (G79.2.1 (F a 18)) (l4_86.toInt)))))
    (f58 : x130.toInt = 0 ∨ x130.toInt = 1)
    (c133 : ¬ (x130.toInt = 0))
    (t145 : ((G145.1 a 20).toInt) = p0.toInt ∧ ((G145.1 a 21).toInt) = (aI (G79.2.1 (F a 18)) (l4_86.toInt)) ∧ 0 ≤ ((G145.1 a 23).toInt) ∧ ((G145.1 a 23).toInt) ≤ 24)
    (c_G145_F_a_10 : G145.2.1 (F a 10) = G.2.1 (F a 10)) :
    (¬ (0 ≤ p0.toInt ∧ p0.toInt ≤ 11 ∧ aI (G.2.1 (F a 10)) (10 * p0.toInt + 0) ≠ -1) ∧ (-5 : Int) = -2 ∧ G145.2.1 (F a 10) = (G.2.1 (F a 10))) ∨ ((0 ≤ p0.toInt ∧ p0.toInt ≤ 11 ∧ aI (G.2.1 (F a 10)) (10 * p0.toInt + 0) ≠ -1) ∧ aI (G.2.1 (F a 10)) (10 * p0.toInt + 6) = p1.toInt ∧ (-5 : Int) = -4 ∧ G145.2.1 (F a 10) = (G.2.1 (F a 10))) ∨ ((0 ≤ p0.toInt ∧ p0.toInt ≤ 11 ∧ aI (G.2.1 (F a 10)) (10 * p0.toInt + 0) ≠ -1) ∧ aI (G.2.1 (F a 10)) (10 * p0.toInt + 6) ≠ p1.toInt ∧ p1.toInt = 1 ∧ (∀ z : Int, 0 ≤ z → aI (G145.2.1 (F a 10)) z = if z = 10 * p0.toInt + 6 then 1 else aI (G.2.1 (F a 10)) z) ∧ (-5 : Int) = cnP (if ((G.1 a 6).toInt) = 0 then [] else fuO (G145.2.1 (F a 10)) (mw (G.2.1 (F a 1)) 0) (mw (G.2.1 (F a 2)) 0) 1) p0.toInt) ∨ ((0 ≤ p0.toInt ∧ p0.toInt ≤ 11 ∧ aI (G.2.1 (F a 10)) (10 * p0.toInt + 0) ≠ -1) ∧ aI (G.2.1 (F a 10)) (10 * p0.toInt + 6) ≠ p1.toInt ∧ p1.toInt = 0 ∧ ((QFl (G.2.1 (F a 10)) (mw (G.2.1 (F a 1)) 0) (if ((G.1 a 6).toInt) = 0 then [] else fuO (G.2.1 (F a 10)) (mw (G.2.1 (F a 1)) 0) (mw (G.2.1 (F a 2)) 0) 1) p0.toInt ∧ (-5 : Int) = -5 ∧ G145.2.1 (F a 10) = (G.2.1 (F a 10))) ∨ (¬ QFl (G.2.1 (F a 10)) (mw (G.2.1 (F a 1)) 0) (if ((G.1 a 6).toInt) = 0 then [] else fuO (G.2.1 (F a 10)) (mw (G.2.1 (F a 1)) 0) (mw (G.2.1 (F a 2)) 0) 1) p0.toInt ∧ (∀ z : Int, 0 ≤ z → aI (G145.2.1 (F a 10)) z = if z = 10 * p0.toInt + 6 then 0 else aI (G.2.1 (F a 10)) z) ∧ (-5 : Int) = cnP (if ((G.1 a 6).toInt) = 0 then [] else fuO (G.2.1 (F a 10)) (mw (G.2.1 (F a 1)) 0) (mw (G.2.1 (F a 2)) 0) 1) p0.toInt))) := by
  refine Or.inr (Or.inr (Or.inr ⟨by omega, by omega, by omega, Or.inl ⟨?_, rfl, by rw [c_G145_F_a_10]⟩⟩))
  rw [← oq79]
  refine ⟨_, List.mem_of_getElem? (pL_at (z := l4_86.toInt) (by omega)), by show aI (G79.2.1 (F a 17)) l4_86.toInt = p0.toInt; omega, ?_⟩
  show fzq _ _ (aI (G79.2.1 (F a 17)) l4_86.toInt) (aI (G79.2.1 (F a 18)) l4_86.toInt) = 1
  rw [show aI (G79.2.1 (F a 17)) l4_86.toInt = p0.toInt from by omega]
  have h01 := flq01 (mw (G.2.1 (F a 1)) 0) (aI (G.2.1 (F a 10)) (10 * p0.toInt + 0)) (aI (G.2.1 (F a 10)) (10 * p0.toInt + 1)) (aI (G.2.1 (F a 10)) (10 * p0.toInt + 2)) (aI (G.2.1 (F a 10)) (10 * p0.toInt + 4)) (aI (G.2.1 (F a 10)) (10 * p0.toInt + 5)) (aI (G79.2.1 (F a 18)) l4_86.toInt) (stt (mw (G.2.1 (F a 1)) 0) (aI (G.2.1 (F a 10)) (10 * p0.toInt + 0)) (aI (G.2.1 (F a 10)) (10 * p0.toInt + 1)) (aI (G.2.1 (F a 10)) (10 * p0.toInt + 2)) (aI (G.2.1 (F a 10)) (10 * p0.toInt + 3)) (aI (G79.2.1 (F a 18)) l4_86.toInt))
  show flq _ _ _ _ _ _ _ _ = 1
  omega
theorem v_X11_later_150_12 {F : Nat → Nat → Nat} (a : Nat) (G : XG) (G145 : XG)
    (hR : RV (G.2.1 (F a 10)))
    (c_G145_F_a_10 : G145.2.1 (F a 10) = G.2.1 (F a 10)) :
    RV (G145.2.1 (F a 10)) := by
  rw [c_G145_F_a_10]; exact hR
theorem v_X11_later_84_13 {K : Nat → Nat} {F : Nat → Nat → Nat} (a : Nat) (G : XG) (G6 : XG) (G79 : XG) (p0 : Int32) (x79 : Int32) (p1 : Int32) (x11 : Int32)
    (ha : K a = 13)
    (oq79a : x79.toInt = cnP (pL G79 F a) p0.toInt)
    (z0 : p1.toInt = 0 ∨ p1.toInt = 1)
    (t6 : ((G6.1 a 20).toInt) = -2147483648 ∧ ((G6.1 a 21).toInt) = -2147483648 ∧ ((G6.1 a 23).toInt) = 0)
    (t11 : (x11.toInt = 1 ∧ 0 ≤ p0.toInt ∧ p0.toInt ≤ 11 ∧ (aI (G.2.1 (F a 10)) (10 * p0.toInt + 0)) ≠ -1) ∨ (x11.toInt = 0 ∧ (¬ (0 ≤ p0.toInt ∧ p0.toInt ≤ 11) ∨ (aI (G.2.1 (F a 10)) (10 * p0.toInt + 0)) = -1)))
    (c14 : x11.toInt ≠ 0)
    (c28 : p1.toInt = 0)
    (c36 : (aI (G.2.1 (F a 10)) (10 * p0.toInt + 6)) ≠ (0 : Int))
    (t79 : 0 ≤ x79.toInt ∧ x79.toInt ≤ 2388 ∧ 0 ≤ ((G79.1 a 19).toInt) ∧ ((G79.1 a 19).toInt) ≤ 2388) :
    ∀ j : Int, 0 ≤ j → j < (0 : Int) → aI (G79.2.1 (F a 17)) j = p0.toInt → fzq (G.2.1 (F a 10)) (mw (G.2.1 (F a 1)) 0) (aI (G79.2.1 (F a 17)) j) (aI (G79.2.1 (F a 18)) j) = 0 := by
  intro j h1 h2; exact absurd h1 (by omega)
theorem v_X11_later_61_14 {K : Nat → Nat} {F : Nat → Nat → Nat} (a : Nat) (G : XG) (G6 : XG) (G58 : XG) (x56 : Int32) (p0 : Int32) (p1 : Int32) (x11 : Int32)
    (ha : K a = 13)
    (hG58 : G58 = cput G6 (F a 10) x56.toNatClampNeg 1)
    (hR : RV (G.2.1 (F a 10)))
    (e56 : x56.toInt = (((10 : Int) * p0.toInt) + (6 : Int)))
    (z0 : p1.toInt = 0 ∨ p1.toInt = 1)
    (t6 : ((G6.1 a 20).toInt) = -2147483648 ∧ ((G6.1 a 21).toInt) = -2147483648 ∧ ((G6.1 a 23).toInt) = 0)
    (t11 : (x11.toInt = 1 ∧ 0 ≤ p0.toInt ∧ p0.toInt ≤ 11 ∧ (aI (G.2.1 (F a 10)) (10 * p0.toInt + 0)) ≠ -1) ∨ (x11.toInt = 0 ∧ (¬ (0 ≤ p0.toInt ∧ p0.toInt ≤ 11) ∨ (aI (G.2.1 (F a 10)) (10 * p0.toInt + 0)) = -1)))
    (c14 : x11.toInt ≠ 0)
    (c28 : p1.toInt = 0)
    (c36 : (aI (G.2.1 (F a 10)) (10 * p0.toInt + 6)) ≠ (0 : Int))
    (c43 : ¬ (p1.toInt = 0))
    (c_G6_F_a_10 : G6.2.1 (F a 10) = G.2.1 (F a 10)) :
    RV (G58.2.1 (F a 10)) := by
  exact hR.late (x := p0.toInt) (y := 1) (aI_pu hG58 c_G6_F_a_10 (by omega) (by decide) (by omega))
theorem v_X11_later_61_15 {F : Nat → Nat → Nat} (a : Nat) (G : XG) (G58 : XG)
    (hM : RM (G.2.1 (F a 1)) (0))
    (hB : RM (G.2.1 (F a 2)) 0)
    (c_G58_F_a_1 : G58.2.1 (F a 1) = G.2.1 (F a 1)) :
    RM (G58.2.1 (F a 1)) (0) := by simp only [c_G58_F_a_1]; assumption
theorem v_X11_later_61_16 {F : Nat → Nat → Nat} (a : Nat) (G : XG) (G58 : XG)
    (hM : RM (G.2.1 (F a 1)) (0))
    (hB : RM (G.2.1 (F a 2)) 0)
    (c_G58_F_a_2 : G58.2.1 (F a 2) = G.2.1 (F a 2)) :
    RM (G58.2.1 (F a 2)) 0 := by simp only [c_G58_F_a_2]; assumption
theorem v_X11_later_76_17 {K : Nat → Nat} {F : Nat → Nat → Nat} (a : Nat) (G : XG) (G6 : XG) (G58 : XG) (x56 : Int32) (G61 : XG) (G74 : XG) (p0 : Int32) (x61 : Int32) (p1 : Int32) (x11 : Int32)
    (ha : K a = 13)
    (hG58 : G58 = cput G6 (F a 10) x56.toNatClampNeg 1)
    (e56 : x56.toInt = (((10 : Int) * p0.toInt) + (6 : Int)))
    (oq61 : pL G61 F a = if ((G.1 a 6).toInt) = 0 then [] else fuO (G58.2.1 (F a 10)) (mw (G.2.1 (F a 1)) 0) (mw (G.2.1 (F a 2)) 0) 1)
    (oq61a : x61.toInt = cnP (pL G61 F a) p0.toInt)
    (z0 : p1.toInt = 0 ∨ p1.toInt = 1)
    (t6 : ((G6.1 a 20).toInt) = -2147483648 ∧ ((G6.1 a 21).toInt) = -2147483648 ∧ ((G6.1 a 23).toInt) = 0)
    (t11 : (x11.toInt = 1 ∧ 0 ≤ p0.toInt ∧ p0.toInt ≤ 11 ∧ (aI (G.2.1 (F a 10)) (10 * p0.toInt + 0)) ≠ -1) ∨ (x11.toInt = 0 ∧ (¬ (0 ≤ p0.toInt ∧ p0.toInt ≤ 11) ∨ (aI (G.2.1 (F a 10)) (10 * p0.toInt + 0)) = -1)))
    (c14 : x11.toInt ≠ 0)
    (c28 : p1.toInt = 0)
    (c36 : (aI (G.2.1 (F a 10)) (10 * p0.toInt + 6)) ≠ (0 : Int))
    (c43 : ¬ (p1.toInt = 0))
    (t61 : 0 ≤ x61.toInt ∧ x61.toInt ≤ 2388 ∧ 0 ≤ ((G61.1 a 19).toInt) ∧ ((G61.1 a 19).toInt) ≤ 2388)
    (c_G6_F_a_10 : G6.2.1 (F a 10) = G.2.1 (F a 10))
    (c_G74_F_a_10 : G74.2.1 (F a 10) = G58.2.1 (F a 10)) :
    (¬ (0 ≤ p0.toInt ∧ p0.toInt ≤ 11 ∧ aI (G.2.1 (F a 10)) (10 * p0.toInt + 0) ≠ -1) ∧ x61.toInt = -2 ∧ G74.2.1 (F a 10) = (G.2.1 (F a 10))) ∨ ((0 ≤ p0.toInt ∧ p0.toInt ≤ 11 ∧ aI (G.2.1 (F a 10)) (10 * p0.toInt + 0) ≠ -1) ∧ aI (G.2.1 (F a 10)) (10 * p0.toInt + 6) = p1.toInt ∧ x61.toInt = -4 ∧ G74.2.1 (F a 10) = (G.2.1 (F a 10))) ∨ ((0 ≤ p0.toInt ∧ p0.toInt ≤ 11 ∧ aI (G.2.1 (F a 10)) (10 * p0.toInt + 0) ≠ -1) ∧ aI (G.2.1 (F a 10)) (10 * p0.toInt + 6) ≠ p1.toInt ∧ p1.toInt = 1 ∧ (∀ z : Int, 0 ≤ z → aI (G74.2.1 (F a 10)) z = if z = 10 * p0.toInt + 6 then 1 else aI (G.2.1 (F a 10)) z) ∧ x61.toInt = cnP (if ((G.1 a 6).toInt) = 0 then [] else fuO (G74.2.1 (F a 10)) (mw (G.2.1 (F a 1)) 0) (mw (G.2.1 (F a 2)) 0) 1) p0.toInt) ∨ ((0 ≤ p0.toInt ∧ p0.toInt ≤ 11 ∧ aI (G.2.1 (F a 10)) (10 * p0.toInt + 0) ≠ -1) ∧ aI (G.2.1 (F a 10)) (10 * p0.toInt + 6) ≠ p1.toInt ∧ p1.toInt = 0 ∧ ((QFl (G.2.1 (F a 10)) (mw (G.2.1 (F a 1)) 0) (if ((G.1 a 6).toInt) = 0 then [] else fuO (G.2.1 (F a 10)) (mw (G.2.1 (F a 1)) 0) (mw (G.2.1 (F a 2)) 0) 1) p0.toInt ∧ x61.toInt = -5 ∧ G74.2.1 (F a 10) = (G.2.1 (F a 10))) ∨ (¬ QFl (G.2.1 (F a 10)) (mw (G.2.1 (F a 1)) 0) (if ((G.1 a 6).toInt) = 0 then [] else fuO (G.2.1 (F a 10)) (mw (G.2.1 (F a 1)) 0) (mw (G.2.1 (F a 2)) 0) 1) p0.toInt ∧ (∀ z : Int, 0 ≤ z → aI (G74.2.1 (F a 10)) z = if z = 10 * p0.toInt + 6 then 0 else aI (G.2.1 (F a 10)) z) ∧ x61.toInt = cnP (if ((G.1 a 6).toInt) = 0 then [] else fuO (G.2.1 (F a 10)) (mw (G.2.1 (F a 1)) 0) (mw (G.2.1 (F a 2)) 0) 1) p0.toInt))) := by
  refine Or.inr (Or.inr (Or.inl ⟨by omega, by omega, by omega, ?_, ?_⟩))
  · rw [c_G74_F_a_10]
    exact aI_pu hG58 c_G6_F_a_10 (by omega) (by decide) (by omega)
  · rw [c_G74_F_a_10, ← oq61]
    exact oq61a
theorem v_X11_later_76_18 {K : Nat → Nat} {F : Nat → Nat → Nat} (a : Nat) (G : XG) (G6 : XG) (G58 : XG) (x56 : Int32) (G61 : XG) (G74 : XG) (p0 : Int32) (x61 : Int32) (p1 : Int32) (x11 : Int32)
    (ha : K a = 13)
    (hG58 : G58 = cput G6 (F a 10) x56.toNatClampNeg 1)
    (hR : RV (G.2.1 (F a 10)))
    (e56 : x56.toInt = (((10 : Int) * p0.toInt) + (6 : Int)))
    (oq61a : x61.toInt = cnP (pL G61 F a) p0.toInt)
    (z0 : p1.toInt = 0 ∨ p1.toInt = 1)
    (t6 : ((G6.1 a 20).toInt) = -2147483648 ∧ ((G6.1 a 21).toInt) = -2147483648 ∧ ((G6.1 a 23).toInt) = 0)
    (t11 : (x11.toInt = 1 ∧ 0 ≤ p0.toInt ∧ p0.toInt ≤ 11 ∧ (aI (G.2.1 (F a 10)) (10 * p0.toInt + 0)) ≠ -1) ∨ (x11.toInt = 0 ∧ (¬ (0 ≤ p0.toInt ∧ p0.toInt ≤ 11) ∨ (aI (G.2.1 (F a 10)) (10 * p0.toInt + 0)) = -1)))
    (c14 : x11.toInt ≠ 0)
    (c28 : p1.toInt = 0)
    (c36 : (aI (G.2.1 (F a 10)) (10 * p0.toInt + 6)) ≠ (0 : Int))
    (c43 : ¬ (p1.toInt = 0))
    (t61 : 0 ≤ x61.toInt ∧ x61.toInt ≤ 2388 ∧ 0 ≤ ((G61.1 a 19).toInt) ∧ ((G61.1 a 19).toInt) ≤ 2388)
    (c_G6_F_a_10 : G6.2.1 (F a 10) = G.2.1 (F a 10))
    (c_G74_F_a_10 : G74.2.1 (F a 10) = G58.2.1 (F a 10)) :
    RV (G74.2.1 (F a 10)) := by
  rw [c_G74_F_a_10]
  exact hR.late (x := p0.toInt) (y := 1) (aI_pu hG58 c_G6_F_a_10 (by omega) (by decide) (by omega))
theorem v_X11_later_41_19 {K : Nat → Nat} {F : Nat → Nat → Nat} (a : Nat) (G : XG) (G6 : XG) (p0 : Int32) (p1 : Int32) (x11 : Int32)
    (ha : K a = 13)
    (z0 : p1.toInt = 0 ∨ p1.toInt = 1)
    (t6 : ((G6.1 a 20).toInt) = -2147483648 ∧ ((G6.1 a 21).toInt) = -2147483648 ∧ ((G6.1 a 23).toInt) = 0)
    (t11 : (x11.toInt = 1 ∧ 0 ≤ p0.toInt ∧ p0.toInt ≤ 11 ∧ (aI (G.2.1 (F a 10)) (10 * p0.toInt + 0)) ≠ -1) ∨ (x11.toInt = 0 ∧ (¬ (0 ≤ p0.toInt ∧ p0.toInt ≤ 11) ∨ (aI (G.2.1 (F a 10)) (10 * p0.toInt + 0)) = -1)))
    (c14 : x11.toInt ≠ 0)
    (c28 : p1.toInt = 0)
    (c36 : ¬ ((aI (G.2.1 (F a 10)) (10 * p0.toInt + 6)) ≠ (0 : Int)))
    (c_G6_F_a_10 : G6.2.1 (F a 10) = G.2.1 (F a 10)) :
    (¬ (0 ≤ p0.toInt ∧ p0.toInt ≤ 11 ∧ aI (G.2.1 (F a 10)) (10 * p0.toInt + 0) ≠ -1) ∧ (-4 : Int) = -2 ∧ G6.2.1 (F a 10) = (G.2.1 (F a 10))) ∨ ((0 ≤ p0.toInt ∧ p0.toInt ≤ 11 ∧ aI (G.2.1 (F a 10)) (10 * p0.toInt + 0) ≠ -1) ∧ aI (G.2.1 (F a 10)) (10 * p0.toInt + 6) = p1.toInt ∧ (-4 : Int) = -4 ∧ G6.2.1 (F a 10) = (G.2.1 (F a 10))) ∨ ((0 ≤ p0.toInt ∧ p0.toInt ≤ 11 ∧ aI (G.2.1 (F a 10)) (10 * p0.toInt + 0) ≠ -1) ∧ aI (G.2.1 (F a 10)) (10 * p0.toInt + 6) ≠ p1.toInt ∧ p1.toInt = 1 ∧ (∀ z : Int, 0 ≤ z → aI (G6.2.1 (F a 10)) z = if z = 10 * p0.toInt + 6 then 1 else aI (G.2.1 (F a 10)) z) ∧ (-4 : Int) = cnP (if ((G.1 a 6).toInt) = 0 then [] else fuO (G6.2.1 (F a 10)) (mw (G.2.1 (F a 1)) 0) (mw (G.2.1 (F a 2)) 0) 1) p0.toInt) ∨ ((0 ≤ p0.toInt ∧ p0.toInt ≤ 11 ∧ aI (G.2.1 (F a 10)) (10 * p0.toInt + 0) ≠ -1) ∧ aI (G.2.1 (F a 10)) (10 * p0.toInt + 6) ≠ p1.toInt ∧ p1.toInt = 0 ∧ ((QFl (G.2.1 (F a 10)) (mw (G.2.1 (F a 1)) 0) (if ((G.1 a 6).toInt) = 0 then [] else fuO (G.2.1 (F a 10)) (mw (G.2.1 (F a 1)) 0) (mw (G.2.1 (F a 2)) 0) 1) p0.toInt ∧ (-4 : Int) = -5 ∧ G6.2.1 (F a 10) = (G.2.1 (F a 10))) ∨ (¬ QFl (G.2.1 (F a 10)) (mw (G.2.1 (F a 1)) 0) (if ((G.1 a 6).toInt) = 0 then [] else fuO (G.2.1 (F a 10)) (mw (G.2.1 (F a 1)) 0) (mw (G.2.1 (F a 2)) 0) 1) p0.toInt ∧ (∀ z : Int, 0 ≤ z → aI (G6.2.1 (F a 10)) z = if z = 10 * p0.toInt + 6 then 0 else aI (G.2.1 (F a 10)) z) ∧ (-4 : Int) = cnP (if ((G.1 a 6).toInt) = 0 then [] else fuO (G.2.1 (F a 10)) (mw (G.2.1 (F a 1)) 0) (mw (G.2.1 (F a 2)) 0) 1) p0.toInt))) := by
  exact Or.inr (Or.inl ⟨by omega, by omega, rfl, by rw [c_G6_F_a_10]⟩)
theorem v_X11_later_41_20 {F : Nat → Nat → Nat} (a : Nat) (G : XG) (G6 : XG)
    (hR : RV (G.2.1 (F a 10)))
    (c_G6_F_a_10 : G6.2.1 (F a 10) = G.2.1 (F a 10)) :
    RV (G6.2.1 (F a 10)) := by
  rw [c_G6_F_a_10]; exact hR
theorem v_X11_later_79_21 {F : Nat → Nat → Nat} (a : Nat) (G : XG) (G6 : XG)
    (hR : RV (G.2.1 (F a 10)))
    (c_G6_F_a_10 : G6.2.1 (F a 10) = G.2.1 (F a 10)) :
    RV (G6.2.1 (F a 10)) := by simp only [c_G6_F_a_10]; assumption
theorem v_X11_later_79_22 {F : Nat → Nat → Nat} (a : Nat) (G : XG) (G6 : XG)
    (hM : RM (G.2.1 (F a 1)) (0))
    (hB : RM (G.2.1 (F a 2)) 0)
    (c_G6_F_a_1 : G6.2.1 (F a 1) = G.2.1 (F a 1)) :
    RM (G6.2.1 (F a 1)) (0) := by simp only [c_G6_F_a_1]; assumption
theorem v_X11_later_79_23 {F : Nat → Nat → Nat} (a : Nat) (G : XG) (G6 : XG)
    (hM : RM (G.2.1 (F a 1)) (0))
    (hB : RM (G.2.1 (F a 2)) 0)
    (c_G6_F_a_2 : G6.2.1 (F a 2) = G.2.1 (F a 2)) :
    RM (G6.2.1 (F a 2)) 0 := by simp only [c_G6_F_a_2]; assumption
theorem v_X11_later_82_24 {F : Nat → Nat → Nat} (a : Nat) (G : XG) (G79 : XG)
    (oq79 : pL G79 F a = if ((G.1 a 6).toInt) = 0 then [] else fuO (G.2.1 (F a 10)) (mw (G.2.1 (F a 1)) 0) (mw (G.2.1 (F a 2)) 0) 1) :
    PV (G.2.1 (F a 10)) (pL G79 F a) := by
  rw [oq79]
  split
  · intro x hx; cases hx
  · exact fuO_pv _ _ _ _
theorem v_X11_later_171_25 {K : Nat → Nat} {F : Nat → Nat → Nat} (a : Nat) (G : XG) (G6 : XG) (G79 : XG) (G_86 : XG) (G169 : XG) (x167 : Int32) (p0 : Int32) (x79 : Int32) (l4_86 : Int32) (p1 : Int32) (x11 : Int32) (N86 : Nat)
    (ha : K a = 13)
    (hG169 : G169 = cput G_86 (F a 10) x167.toNatClampNeg 0)
    (oq79 : pL G79 F a = if ((G.1 a 6).toInt) = 0 then [] else fuO (G.2.1 (F a 10)) (mw (G.2.1 (F a 1)) 0) (mw (G.2.1 (F a 2)) 0) 1)
    (oq79a : x79.toInt = cnP (pL G79 F a) p0.toInt)
    (pl : ∀ j : Int, 0 ≤ j → j < l4_86.toInt → aI (G79.2.1 (F a 17)) j = p0.toInt → fzq (G.2.1 (F a 10)) (mw (G.2.1 (F a 1)) 0) (aI (G79.2.1 (F a 17)) j) (aI (G79.2.1 (F a 18)) j) = 0)
    (e167 : x167.toInt = (((10 : Int) * p0.toInt) + (6 : Int)))
    (z0 : p1.toInt = 0 ∨ p1.toInt = 1)
    (t6 : ((G6.1 a 20).toInt) = -2147483648 ∧ ((G6.1 a 21).toInt) = -2147483648 ∧ ((G6.1 a 23).toInt) = 0)
    (t11 : (x11.toInt = 1 ∧ 0 ≤ p0.toInt ∧ p0.toInt ≤ 11 ∧ (aI (G.2.1 (F a 10)) (10 * p0.toInt + 0)) ≠ -1) ∨ (x11.toInt = 0 ∧ (¬ (0 ≤ p0.toInt ∧ p0.toInt ≤ 11) ∨ (aI (G.2.1 (F a 10)) (10 * p0.toInt + 0)) = -1)))
    (c14 : x11.toInt ≠ 0)
    (c28 : ¬ (p1.toInt = 0))
    (c36 : (aI (G.2.1 (F a 10)) (10 * p0.toInt + 6)) ≠ (1 : Int))
    (c43 : p1.toInt = 0)
    (t79 : 0 ≤ x79.toInt ∧ x79.toInt ≤ 2388 ∧ 0 ≤ ((G79.1 a 19).toInt) ∧ ((G79.1 a 19).toInt) ≤ 2388)
    (I86_0 : 0 ≤ l4_86.toInt ∧ l4_86.toInt ≤ ((G79.1 a 19).toInt))
    (I86_1 : (0 : Int) ≤ l4_86.toInt)
    (hm86 : 2147483648 - l4_86.toInt < (((N86) + 1 : Nat) : Int))
    (c92 : ((G79.1 a 19).toInt) ≤ l4_86.toInt)
    (c_G_86_F_a_10 : G_86.2.1 (F a 10) = G.2.1 (F a 10)) :
    (¬ (0 ≤ p0.toInt ∧ p0.toInt ≤ 11 ∧ aI (G.2.1 (F a 10)) (10 * p0.toInt + 0) ≠ -1) ∧ x79.toInt = -2 ∧ G169.2.1 (F a 10) = (G.2.1 (F a 10))) ∨ ((0 ≤ p0.toInt ∧ p0.toInt ≤ 11 ∧ aI (G.2.1 (F a 10)) (10 * p0.toInt + 0) ≠ -1) ∧ aI (G.2.1 (F a 10)) (10 * p0.toInt + 6) = p1.toInt ∧ x79.toInt = -4 ∧ G169.2.1 (F a 10) = (G.2.1 (F a 10))) ∨ ((0 ≤ p0.toInt ∧ p0.toInt ≤ 11 ∧ aI (G.2.1 (F a 10)) (10 * p0.toInt + 0) ≠ -1) ∧ aI (G.2.1 (F a 10)) (10 * p0.toInt + 6) ≠ p1.toInt ∧ p1.toInt = 1 ∧ (∀ z : Int, 0 ≤ z → aI (G169.2.1 (F a 10)) z = if z = 10 * p0.toInt + 6 then 1 else aI (G.2.1 (F a 10)) z) ∧ x79.toInt = cnP (if ((G.1 a 6).toInt) = 0 then [] else fuO (G169.2.1 (F a 10)) (mw (G.2.1 (F a 1)) 0) (mw (G.2.1 (F a 2)) 0) 1) p0.toInt) ∨ ((0 ≤ p0.toInt ∧ p0.toInt ≤ 11 ∧ aI (G.2.1 (F a 10)) (10 * p0.toInt + 0) ≠ -1) ∧ aI (G.2.1 (F a 10)) (10 * p0.toInt + 6) ≠ p1.toInt ∧ p1.toInt = 0 ∧ ((QFl (G.2.1 (F a 10)) (mw (G.2.1 (F a 1)) 0) (if ((G.1 a 6).toInt) = 0 then [] else fuO (G.2.1 (F a 10)) (mw (G.2.1 (F a 1)) 0) (mw (G.2.1 (F a 2)) 0) 1) p0.toInt ∧ x79.toInt = -5 ∧ G169.2.1 (F a 10) = (G.2.1 (F a 10))) ∨ (¬ QFl (G.2.1 (F a 10)) (mw (G.2.1 (F a 1)) 0) (if ((G.1 a 6).toInt) = 0 then [] else fuO (G.2.1 (F a 10)) (mw (G.2.1 (F a 1)) 0) (mw (G.2.1 (F a 2)) 0) 1) p0.toInt ∧ (∀ z : Int, 0 ≤ z → aI (G169.2.1 (F a 10)) z = if z = 10 * p0.toInt + 6 then 0 else aI (G.2.1 (F a 10)) z) ∧ x79.toInt = cnP (if ((G.1 a 6).toInt) = 0 then [] else fuO (G.2.1 (F a 10)) (mw (G.2.1 (F a 1)) 0) (mw (G.2.1 (F a 2)) 0) 1) p0.toInt))) := by
  refine Or.inr (Or.inr (Or.inr ⟨by omega, by omega, by omega, Or.inr ⟨?_, aI_pu hG169 c_G_86_F_a_10 (by omega) (by decide) (by omega), (by rw [← oq79]; exact oq79a)⟩⟩))
  rw [← oq79]
  rintro ⟨x, hx, hn, hf⟩
  obtain ⟨j, hj⟩ := List.mem_iff_getElem?.mp hx
  obtain ⟨h1, rfl⟩ := pL_get hj
  have := pl (j : Int) (by omega) (by omega) hn
  rw [this] at hf
  exact absurd hf (by decide)
theorem v_X11_later_171_26 {K : Nat → Nat} {F : Nat → Nat → Nat} (a : Nat) (G : XG) (G6 : XG) (G79 : XG) (G_86 : XG) (G169 : XG) (x167 : Int32) (p0 : Int32) (x79 : Int32) (l4_86 : Int32) (p1 : Int32) (x11 : Int32) (N86 : Nat)
    (ha : K a = 13)
    (hG169 : G169 = cput G_86 (F a 10) x167.toNatClampNeg 0)
    (hR : RV (G.2.1 (F a 10)))
    (oq79a : x79.toInt = cnP (pL G79 F a) p0.toInt)
    (e167 : x167.toInt = (((10 : Int) * p0.toInt) + (6 : Int)))
    (z0 : p1.toInt = 0 ∨ p1.toInt = 1)
    (t6 : ((G6.1 a 20).toInt) = -2147483648 ∧ ((G6.1 a 21).toInt) = -2147483648 ∧ ((G6.1 a 23).toInt) = 0)
    (t11 : (x11.toInt = 1 ∧ 0 ≤ p0.toInt ∧ p0.toInt ≤ 11 ∧ (aI (G.2.1 (F a 10)) (10 * p0.toInt + 0)) ≠ -1) ∨ (x11.toInt = 0 ∧ (¬ (0 ≤ p0.toInt ∧ p0.toInt ≤ 11) ∨ (aI (G.2.1 (F a 10)) (10 * p0.toInt + 0)) = -1)))
    (c14 : x11.toInt ≠ 0)
    (c28 : ¬ (p1.toInt = 0))
    (c36 : (aI (G.2.1 (F a 10)) (10 * p0.toInt + 6)) ≠ (1 : Int))
    (c43 : p1.toInt = 0)
    (t79 : 0 ≤ x79.toInt ∧ x79.toInt ≤ 2388 ∧ 0 ≤ ((G79.1 a 19).toInt) ∧ ((G79.1 a 19).toInt) ≤ 2388)
    (I86_0 : 0 ≤ l4_86.toInt ∧ l4_86.toInt ≤ ((G79.1 a 19).toInt))
    (I86_1 : (0 : Int) ≤ l4_86.toInt)
    (hm86 : 2147483648 - l4_86.toInt < (((N86) + 1 : Nat) : Int))
    (c92 : ((G79.1 a 19).toInt) ≤ l4_86.toInt)
    (c_G_86_F_a_10 : G_86.2.1 (F a 10) = G.2.1 (F a 10)) :
    RV (G169.2.1 (F a 10)) := by
  exact hR.late (x := p0.toInt) (y := 0) (aI_pu hG169 c_G_86_F_a_10 (by omega) (by decide) (by omega))
theorem v_X11_later_154_27 {K : Nat → Nat} {F : Nat → Nat → Nat} (a : Nat) (G : XG) (G6 : XG) (G79 : XG) (p0 : Int32) (x79 : Int32) (l4_86 : Int32) (p1 : Int32) (x11 : Int32) (N86 : Nat)
    (ha : K a = 13)
    (oq79a : x79.toInt = cnP (pL G79 F a) p0.toInt)
    (pl : ∀ j : Int, 0 ≤ j → j < l4_86.toInt → aI (G79.2.1 (F a 17)) j = p0.toInt → fzq (G.2.1 (F a 10)) (mw (G.2.1 (F a 1)) 0) (aI (G79.2.1 (F a 17)) j) (aI (G79.2.1 (F a 18)) j) = 0)
    (z0 : p1.toInt = 0 ∨ p1.toInt = 1)
    (t6 : ((G6.1 a 20).toInt) = -2147483648 ∧ ((G6.1 a 21).toInt) = -2147483648 ∧ ((G6.1 a 23).toInt) = 0)
    (t11 : (x11.toInt = 1 ∧ 0 ≤ p0.toInt ∧ p0.toInt ≤ 11 ∧ (aI (G.2.1 (F a 10)) (10 * p0.toInt + 0)) ≠ -1) ∨ (x11.toInt = 0 ∧ (¬ (0 ≤ p0.toInt ∧ p0.toInt ≤ 11) ∨ (aI (G.2.1 (F a 10)) (10 * p0.toInt + 0)) = -1)))
    (c14 : x11.toInt ≠ 0)
    (c28 : ¬ (p1.toInt = 0))
    (c36 : (aI (G.2.1 (F a 10)) (10 * p0.toInt + 6)) ≠ (1 : Int))
    (c43 : p1.toInt = 0)
    (t79 : 0 ≤ x79.toInt ∧ x79.toInt ≤ 2388 ∧ 0 ≤ ((G79.1 a 19).toInt) ∧ ((G79.1 a 19).toInt) ≤ 2388)
    (I86_0 : 0 ≤ l4_86.toInt ∧ l4_86.toInt ≤ ((G79.1 a 19).toInt))
    (I86_1 : (0 : Int) ≤ l4_86.toInt)
    (hm86 : 2147483648 - l4_86.toInt < (((N86) + 1 : Nat) : Int))
    (c92 : ¬ (((G79.1 a 19).toInt) ≤ l4_86.toInt))
    (c103 : (aI (G79.2.1 (F a 17)) (l4_86.toInt)) ≠ p0.toInt) :
    ∀ j : Int, 0 ≤ j → j < (l4_86.toInt + 1) → aI (G79.2.1 (F a 17)) j = p0.toInt → fzq (G.2.1 (F a 10)) (mw (G.2.1 (F a 1)) 0) (aI (G79.2.1 (F a 17)) j) (aI (G79.2.1 (F a 18)) j) = 0 := by
  intro j h1 h2 h3
  by_cases e : j = l4_86.toInt
  · subst e
    first
      | exact absurd h3 (by omega)
      | (have t9 : flq _ _ _ _ _ _ _ _ = 0 := t130.symm.trans c133
         rw [h3]
         exact t9)
  · exact pl j h1 (by omega) h3
theorem v_X11_later_130_28 {F : Nat → Nat → Nat} (a : Nat) (G : XG) (G115 : XG)
    (hR : RV (G.2.1 (F a 10)))
    (c_G115_F_a_10 : G115.2.1 (F a 10) = G.2.1 (F a 10)) :
    RV (G115.2.1 (F a 10)) := by simp only [c_G115_F_a_10]; assumption
theorem v_X11_later_130_29 {F : Nat → Nat → Nat} (a : Nat) (G : XG) (G115 : XG)
    (hM : RM (G.2.1 (F a 1)) (0))
    (hB : RM (G.2.1 (F a 2)) 0)
    (c_G115_F_a_1 : G115.2.1 (F a 1) = G.2.1 (F a 1)) :
    RM (G115.2.1 (F a 1)) (0 : Int) := by simp only [c_G115_F_a_1]; assumption
theorem v_X11_later_154_30 {K : Nat → Nat} {F : Nat → Nat → Nat} (a : Nat) (G : XG) (G6 : XG) (G79 : XG) (p0 : Int32) (x79 : Int32) (l4_86 : Int32) (p1 : Int32) (x11 : Int32) (N86 : Nat) (x130 : Int32)
    (ha : K a = 13)
    (oq79a : x79.toInt = cnP (pL G79 F a) p0.toInt)
    (pl : ∀ j : Int, 0 ≤ j → j < l4_86.toInt → aI (G79.2.1 (F a 17)) j = p0.toInt → fzq (G.2.1 (F a 10)) (mw (G.2.1 (F a 1)) 0) (aI (G79.2.1 (F a 17)) j) (aI (G79.2.1 (F a 18)) j) = 0)
    (z0 : p1.toInt = 0 ∨ p1.toInt = 1)
    (t6 : ((G6.1 a 20).toInt) = -2147483648 ∧ ((G6.1 a 21).toInt) = -2147483648 ∧ ((G6.1 a 23).toInt) = 0)
    (t11 : (x11.toInt = 1 ∧ 0 ≤ p0.toInt ∧ p0.toInt ≤ 11 ∧ (aI (G.2.1 (F a 10)) (10 * p0.toInt + 0)) ≠ -1) ∨ (x11.toInt = 0 ∧ (¬ (0 ≤ p0.toInt ∧ p0.toInt ≤ 11) ∨ (aI (G.2.1 (F a 10)) (10 * p0.toInt + 0)) = -1)))
    (c14 : x11.toInt ≠ 0)
    (c28 : ¬ (p1.toInt = 0))
    (c36 : (aI (G.2.1 (F a 10)) (10 * p0.toInt + 6)) ≠ (1 : Int))
    (c43 : p1.toInt = 0)
    (t79 : 0 ≤ x79.toInt ∧ x79.toInt ≤ 2388 ∧ 0 ≤ ((G79.1 a 19).toInt) ∧ ((G79.1 a 19).toInt) ≤ 2388)
    (I86_0 : 0 ≤ l4_86.toInt ∧ l4_86.toInt ≤ ((G79.1 a 19).toInt))
    (I86_1 : (0 : Int) ≤ l4_86.toInt)
    (hm86 : 2147483648 - l4_86.toInt < (((N86) + 1 : Nat) : Int))
    (c92 : ¬ (((G79.1 a 19).toInt) ≤ l4_86.toInt))
    (c103 : ¬ ((aI (G79.2.1 (F a 17)) (l4_86.toInt)) ≠ p0.toInt))
    (z116 : (0 ≤ (aI (G79.2.1 (F a 17)) (l4_86.toInt)) ∧ (aI (G79.2.1 (F a 17)) (l4_86.toInt)) ≤ 11) ∧ (aI (G.2.1 (F a 10)) (10 * aI (G79.2.1 (F a 17)) (l4_86.toInt) + 0)) ≠ -1 ∧ ((sF (aI (G.2.1 (F a 10)) (10 * aI (G79.2.1 (F a 17)) (l4_86.toInt) + 0))) ≤ (aI (G79.2.1 (F a 18)) (l4_86.toInt)) ∧ (aI (G79.2.1 (F a 18)) (l4_86.toInt)) ≤ (sL (aI (G.2.1 (F a 10)) (10 * aI (G79.2.1 (F a 17)) (l4_86.toInt) + 0)))))
    (z116a : ((sF (aI (G.2.1 (F a 10)) (10 * aI (G79.2.1 (F a 17)) (l4_86.toInt) + 0))) = 0 ∨ (sF (aI (G.2.1 (F a 10)) (10 * aI (G79.2.1 (F a 17)) (l4_86.toInt) + 0))) = -99) ∧ ((sL (aI (G.2.1 (F a 10)) (10 * aI (G79.2.1 (F a 17)) (l4_86.toInt) + 0))) = 29 ∨ (sL (aI (G.2.1 (F a 10)) (10 * aI (G79.2.1 (F a 17)) (l4_86.toInt) + 0))) = 99))
    (z116b : (aI (G79.2.1 (F a 17)) (l4_86.toInt)) = p0.toInt → (sF (aI (G.2.1 (F a 10)) (10 * aI (G79.2.1 (F a 17)) (l4_86.toInt) + 0))) = (sF (aI (G.2.1 (F a 10)) (10 * p0.toInt + 0))) ∧ (sL (aI (G.2.1 (F a 10)) (10 * aI (G79.2.1 (F a 17)) (l4_86.toInt) + 0))) = (sL (aI (G.2.1 (F a 10)) (10 * p0.toInt + 0))))
    (t130 : x130.toInt = (flq (mw (G.2.1 (F a 1)) 0) (aI (G.2.1 (F a 10)) (10 * p0.toInt + 0)) (aI (G.2.1 (F a 10)) (10 * p0.toInt + 1)) (aI (G.2.1 (F a 10)) (10 * p0.toInt + 2)) (aI (G.2.1 (F a 10)) (10 * p0.toInt + 4)) (aI (G.2.1 (F a 10)) (10 * p0.toInt + 5)) (aI (G79.2.1 (F a 18)) (l4_86.toInt)) (stt (mw (G.2.1 (F a 1)) 0) (aI (G.2.1 (F a 10)) (10 * p0.toInt + 0)) (aI (G.2.1 (F a 10)) (10 * p0.toInt + 1)) (aI (G.2.1 (F a 10)) (10 * p0.toInt + 2)) (aI (G.2.1 (F a 10)) (10 * p0.toInt + 3)) (aI (G79.2.1 (F a 18)) (l4_86.toInt)))))
    (f58 : x130.toInt = 0 ∨ x130.toInt = 1)
    (c133 : x130.toInt = 0) :
    ∀ j : Int, 0 ≤ j → j < (l4_86.toInt + 1) → aI (G79.2.1 (F a 17)) j = p0.toInt → fzq (G.2.1 (F a 10)) (mw (G.2.1 (F a 1)) 0) (aI (G79.2.1 (F a 17)) j) (aI (G79.2.1 (F a 18)) j) = 0 := by
  intro j h1 h2 h3
  by_cases e : j = l4_86.toInt
  · subst e
    first
      | exact absurd h3 (by omega)
      | (have t9 : flq _ _ _ _ _ _ _ _ = 0 := t130.symm.trans c133
         rw [h3]
         exact t9)
  · exact pl j h1 (by omega) h3
theorem v_X11_later_150_31 {K : Nat → Nat} {F : Nat → Nat → Nat} (a : Nat) (G : XG) (G6 : XG) (G79 : XG) (G145 : XG) (p0 : Int32) (x79 : Int32) (l4_86 : Int32) (p1 : Int32) (x11 : Int32) (N86 : Nat) (x130 : Int32)
    (ha : K a = 13)
    (oq79 : pL G79 F a = if ((G.1 a 6).toInt) = 0 then [] else fuO (G.2.1 (F a 10)) (mw (G.2.1 (F a 1)) 0) (mw (G.2.1 (F a 2)) 0) 1)
    (oq79a : x79.toInt = cnP (pL G79 F a) p0.toInt)
    (z0 : p1.toInt = 0 ∨ p1.toInt = 1)
    (t6 : ((G6.1 a 20).toInt) = -2147483648 ∧ ((G6.1 a 21).toInt) = -2147483648 ∧ ((G6.1 a 23).toInt) = 0)
    (t11 : (x11.toInt = 1 ∧ 0 ≤ p0.toInt ∧ p0.toInt ≤ 11 ∧ (aI (G.2.1 (F a 10)) (10 * p0.toInt + 0)) ≠ -1) ∨ (x11.toInt = 0 ∧ (¬ (0 ≤ p0.toInt ∧ p0.toInt ≤ 11) ∨ (aI (G.2.1 (F a 10)) (10 * p0.toInt + 0)) = -1)))
    (c14 : x11.toInt ≠ 0)
    (c28 : ¬ (p1.toInt = 0))
    (c36 : (aI (G.2.1 (F a 10)) (10 * p0.toInt + 6)) ≠ (1 : Int))
    (c43 : p1.toInt = 0)
    (t79 : 0 ≤ x79.toInt ∧ x79.toInt ≤ 2388 ∧ 0 ≤ ((G79.1 a 19).toInt) ∧ ((G79.1 a 19).toInt) ≤ 2388)
    (I86_0 : 0 ≤ l4_86.toInt ∧ l4_86.toInt ≤ ((G79.1 a 19).toInt))
    (I86_1 : (0 : Int) ≤ l4_86.toInt)
    (hm86 : 2147483648 - l4_86.toInt < (((N86) + 1 : Nat) : Int))
    (c92 : ¬ (((G79.1 a 19).toInt) ≤ l4_86.toInt))
    (c103 : ¬ ((aI (G79.2.1 (F a 17)) (l4_86.toInt)) ≠ p0.toInt))
    (z116 : (0 ≤ (aI (G79.2.1 (F a 17)) (l4_86.toInt)) ∧ (aI (G79.2.1 (F a 17)) (l4_86.toInt)) ≤ 11) ∧ (aI (G.2.1 (F a 10)) (10 * aI (G79.2.1 (F a 17)) (l4_86.toInt) + 0)) ≠ -1 ∧ ((sF (aI (G.2.1 (F a 10)) (10 * aI (G79.2.1 (F a 17)) (l4_86.toInt) + 0))) ≤ (aI (G79.2.1 (F a 18)) (l4_86.toInt)) ∧ (aI (G79.2.1 (F a 18)) (l4_86.toInt)) ≤ (sL (aI (G.2.1 (F a 10)) (10 * aI (G79.2.1 (F a 17)) (l4_86.toInt) + 0)))))
    (z116a : ((sF (aI (G.2.1 (F a 10)) (10 * aI (G79.2.1 (F a 17)) (l4_86.toInt) + 0))) = 0 ∨ (sF (aI (G.2.1 (F a 10)) (10 * aI (G79.2.1 (F a 17)) (l4_86.toInt) + 0))) = -99) ∧ ((sL (aI (G.2.1 (F a 10)) (10 * aI (G79.2.1 (F a 17)) (l4_86.toInt) + 0))) = 29 ∨ (sL (aI (G.2.1 (F a 10)) (10 * aI (G79.2.1 (F a 17)) (l4_86.toInt) + 0))) = 99))
    (z116b : (aI (G79.2.1 (F a 17)) (l4_86.toInt)) = p0.toInt → (sF (aI (G.2.1 (F a 10)) (10 * aI (G79.2.1 (F a 17)) (l4_86.toInt) + 0))) = (sF (aI (G.2.1 (F a 10)) (10 * p0.toInt + 0))) ∧ (sL (aI (G.2.1 (F a 10)) (10 * aI (G79.2.1 (F a 17)) (l4_86.toInt) + 0))) = (sL (aI (G.2.1 (F a 10)) (10 * p0.toInt + 0))))
    (t130 : x130.toInt = (flq (mw (G.2.1 (F a 1)) 0) (aI (G.2.1 (F a 10)) (10 * p0.toInt + 0)) (aI (G.2.1 (F a 10)) (10 * p0.toInt + 1)) (aI (G.2.1 (F a 10)) (10 * p0.toInt + 2)) (aI (G.2.1 (F a 10)) (10 * p0.toInt + 4)) (aI (G.2.1 (F a 10)) (10 * p0.toInt + 5)) (aI (G79.2.1 (F a 18)) (l4_86.toInt)) (stt (mw (G.2.1 (F a 1)) 0) (aI (G.2.1 (F a 10)) (10 * p0.toInt + 0)) (aI (G.2.1 (F a 10)) (10 * p0.toInt + 1)) (aI (G.2.1 (F a 10)) (10 * p0.toInt + 2)) (aI (G.2.1 (F a 10)) (10 * p0.toInt + 3)) (aI (G79.2.1 (F a 18)) (l4_86.toInt)))))
    (f59 : x130.toInt = 0 ∨ x130.toInt = 1)
    (c133 : ¬ (x130.toInt = 0))
    (t145 : ((G145.1 a 20).toInt) = p0.toInt ∧ ((G145.1 a 21).toInt) = (aI (G79.2.1 (F a 18)) (l4_86.toInt)) ∧ 0 ≤ ((G145.1 a 23).toInt) ∧ ((G145.1 a 23).toInt) ≤ 24)
    (c_G145_F_a_10 : G145.2.1 (F a 10) = G.2.1 (F a 10)) :
    (¬ (0 ≤ p0.toInt ∧ p0.toInt ≤ 11 ∧ aI (G.2.1 (F a 10)) (10 * p0.toInt + 0) ≠ -1) ∧ (-5 : Int) = -2 ∧ G145.2.1 (F a 10) = (G.2.1 (F a 10))) ∨ ((0 ≤ p0.toInt ∧ p0.toInt ≤ 11 ∧ aI (G.2.1 (F a 10)) (10 * p0.toInt + 0) ≠ -1) ∧ aI (G.2.1 (F a 10)) (10 * p0.toInt + 6) = p1.toInt ∧ (-5 : Int) = -4 ∧ G145.2.1 (F a 10) = (G.2.1 (F a 10))) ∨ ((0 ≤ p0.toInt ∧ p0.toInt ≤ 11 ∧ aI (G.2.1 (F a 10)) (10 * p0.toInt + 0) ≠ -1) ∧ aI (G.2.1 (F a 10)) (10 * p0.toInt + 6) ≠ p1.toInt ∧ p1.toInt = 1 ∧ (∀ z : Int, 0 ≤ z → aI (G145.2.1 (F a 10)) z = if z = 10 * p0.toInt + 6 then 1 else aI (G.2.1 (F a 10)) z) ∧ (-5 : Int) = cnP (if ((G.1 a 6).toInt) = 0 then [] else fuO (G145.2.1 (F a 10)) (mw (G.2.1 (F a 1)) 0) (mw (G.2.1 (F a 2)) 0) 1) p0.toInt) ∨ ((0 ≤ p0.toInt ∧ p0.toInt ≤ 11 ∧ aI (G.2.1 (F a 10)) (10 * p0.toInt + 0) ≠ -1) ∧ aI (G.2.1 (F a 10)) (10 * p0.toInt + 6) ≠ p1.toInt ∧ p1.toInt = 0 ∧ ((QFl (G.2.1 (F a 10)) (mw (G.2.1 (F a 1)) 0) (if ((G.1 a 6).toInt) = 0 then [] else fuO (G.2.1 (F a 10)) (mw (G.2.1 (F a 1)) 0) (mw (G.2.1 (F a 2)) 0) 1) p0.toInt ∧ (-5 : Int) = -5 ∧ G145.2.1 (F a 10) = (G.2.1 (F a 10))) ∨ (¬ QFl (G.2.1 (F a 10)) (mw (G.2.1 (F a 1)) 0) (if ((G.1 a 6).toInt) = 0 then [] else fuO (G.2.1 (F a 10)) (mw (G.2.1 (F a 1)) 0) (mw (G.2.1 (F a 2)) 0) 1) p0.toInt ∧ (∀ z : Int, 0 ≤ z → aI (G145.2.1 (F a 10)) z = if z = 10 * p0.toInt + 6 then 0 else aI (G.2.1 (F a 10)) z) ∧ (-5 : Int) = cnP (if ((G.1 a 6).toInt) = 0 then [] else fuO (G.2.1 (F a 10)) (mw (G.2.1 (F a 1)) 0) (mw (G.2.1 (F a 2)) 0) 1) p0.toInt))) := by
  refine Or.inr (Or.inr (Or.inr ⟨by omega, by omega, by omega, Or.inl ⟨?_, rfl, by rw [c_G145_F_a_10]⟩⟩))
  rw [← oq79]
  refine ⟨_, List.mem_of_getElem? (pL_at (z := l4_86.toInt) (by omega)), by show aI (G79.2.1 (F a 17)) l4_86.toInt = p0.toInt; omega, ?_⟩
  show fzq _ _ (aI (G79.2.1 (F a 17)) l4_86.toInt) (aI (G79.2.1 (F a 18)) l4_86.toInt) = 1
  rw [show aI (G79.2.1 (F a 17)) l4_86.toInt = p0.toInt from by omega]
  have h01 := flq01 (mw (G.2.1 (F a 1)) 0) (aI (G.2.1 (F a 10)) (10 * p0.toInt + 0)) (aI (G.2.1 (F a 10)) (10 * p0.toInt + 1)) (aI (G.2.1 (F a 10)) (10 * p0.toInt + 2)) (aI (G.2.1 (F a 10)) (10 * p0.toInt + 4)) (aI (G.2.1 (F a 10)) (10 * p0.toInt + 5)) (aI (G79.2.1 (F a 18)) l4_86.toInt) (stt (mw (G.2.1 (F a 1)) 0) (aI (G.2.1 (F a 10)) (10 * p0.toInt + 0)) (aI (G.2.1 (F a 10)) (10 * p0.toInt + 1)) (aI (G.2.1 (F a 10)) (10 * p0.toInt + 2)) (aI (G.2.1 (F a 10)) (10 * p0.toInt + 3)) (aI (G79.2.1 (F a 18)) l4_86.toInt))
  show flq _ _ _ _ _ _ _ _ = 1
  omega
theorem v_X11_later_150_32 {F : Nat → Nat → Nat} (a : Nat) (G : XG) (G145 : XG)
    (hR : RV (G.2.1 (F a 10)))
    (c_G145_F_a_10 : G145.2.1 (F a 10) = G.2.1 (F a 10)) :
    RV (G145.2.1 (F a 10)) := by
  rw [c_G145_F_a_10]; exact hR
theorem v_X11_later_84_33 {K : Nat → Nat} {F : Nat → Nat → Nat} (a : Nat) (G : XG) (G6 : XG) (G79 : XG) (p0 : Int32) (x79 : Int32) (p1 : Int32) (x11 : Int32)
    (ha : K a = 13)
    (oq79a : x79.toInt = cnP (pL G79 F a) p0.toInt)
    (z0 : p1.toInt = 0 ∨ p1.toInt = 1)
    (t6 : ((G6.1 a 20).toInt) = -2147483648 ∧ ((G6.1 a 21).toInt) = -2147483648 ∧ ((G6.1 a 23).toInt) = 0)
    (t11 : (x11.toInt = 1 ∧ 0 ≤ p0.toInt ∧ p0.toInt ≤ 11 ∧ (aI (G.2.1 (F a 10)) (10 * p0.toInt + 0)) ≠ -1) ∨ (x11.toInt = 0 ∧ (¬ (0 ≤ p0.toInt ∧ p0.toInt ≤ 11) ∨ (aI (G.2.1 (F a 10)) (10 * p0.toInt + 0)) = -1)))
    (c14 : x11.toInt ≠ 0)
    (c28 : ¬ (p1.toInt = 0))
    (c36 : (aI (G.2.1 (F a 10)) (10 * p0.toInt + 6)) ≠ (1 : Int))
    (c43 : p1.toInt = 0)
    (t79 : 0 ≤ x79.toInt ∧ x79.toInt ≤ 2388 ∧ 0 ≤ ((G79.1 a 19).toInt) ∧ ((G79.1 a 19).toInt) ≤ 2388) :
    ∀ j : Int, 0 ≤ j → j < (0 : Int) → aI (G79.2.1 (F a 17)) j = p0.toInt → fzq (G.2.1 (F a 10)) (mw (G.2.1 (F a 1)) 0) (aI (G79.2.1 (F a 17)) j) (aI (G79.2.1 (F a 18)) j) = 0 := by
  intro j h1 h2; exact absurd h1 (by omega)
theorem v_X11_later_61_34 {K : Nat → Nat} {F : Nat → Nat → Nat} (a : Nat) (G : XG) (G6 : XG) (G58 : XG) (x56 : Int32) (p0 : Int32) (p1 : Int32) (x11 : Int32)
    (ha : K a = 13)
    (hG58 : G58 = cput G6 (F a 10) x56.toNatClampNeg 1)
    (hR : RV (G.2.1 (F a 10)))
    (e56 : x56.toInt = (((10 : Int) * p0.toInt) + (6 : Int)))
    (z0 : p1.toInt = 0 ∨ p1.toInt = 1)
    (t6 : ((G6.1 a 20).toInt) = -2147483648 ∧ ((G6.1 a 21).toInt) = -2147483648 ∧ ((G6.1 a 23).toInt) = 0)
    (t11 : (x11.toInt = 1 ∧ 0 ≤ p0.toInt ∧ p0.toInt ≤ 11 ∧ (aI (G.2.1 (F a 10)) (10 * p0.toInt + 0)) ≠ -1) ∨ (x11.toInt = 0 ∧ (¬ (0 ≤ p0.toInt ∧ p0.toInt ≤ 11) ∨ (aI (G.2.1 (F a 10)) (10 * p0.toInt + 0)) = -1)))
    (c14 : x11.toInt ≠ 0)
    (c28 : ¬ (p1.toInt = 0))
    (c36 : (aI (G.2.1 (F a 10)) (10 * p0.toInt + 6)) ≠ (1 : Int))
    (c_G6_F_a_10 : G6.2.1 (F a 10) = G.2.1 (F a 10)) :
    RV (G58.2.1 (F a 10)) := by
  exact hR.late (x := p0.toInt) (y := 1) (aI_pu hG58 c_G6_F_a_10 (by omega) (by decide) (by omega))
theorem v_X11_later_61_35 {F : Nat → Nat → Nat} (a : Nat) (G : XG) (G58 : XG)
    (hM : RM (G.2.1 (F a 1)) (0))
    (hB : RM (G.2.1 (F a 2)) 0)
    (c_G58_F_a_1 : G58.2.1 (F a 1) = G.2.1 (F a 1)) :
    RM (G58.2.1 (F a 1)) (0) := by simp only [c_G58_F_a_1]; assumption
theorem v_X11_later_61_36 {F : Nat → Nat → Nat} (a : Nat) (G : XG) (G58 : XG)
    (hM : RM (G.2.1 (F a 1)) (0))
    (hB : RM (G.2.1 (F a 2)) 0)
    (c_G58_F_a_2 : G58.2.1 (F a 2) = G.2.1 (F a 2)) :
    RM (G58.2.1 (F a 2)) 0 := by simp only [c_G58_F_a_2]; assumption
theorem v_X11_later_76_37 {K : Nat → Nat} {F : Nat → Nat → Nat} (a : Nat) (G : XG) (G6 : XG) (G58 : XG) (x56 : Int32) (G61 : XG) (G74 : XG) (p0 : Int32) (x61 : Int32) (p1 : Int32) (x11 : Int32)
    (ha : K a = 13)
    (hG58 : G58 = cput G6 (F a 10) x56.toNatClampNeg 1)
    (e56 : x56.toInt = (((10 : Int) * p0.toInt) + (6 : Int)))
    (oq61 : pL G61 F a = if ((G.1 a 6).toInt) = 0 then [] else fuO (G58.2.1 (F a 10)) (mw (G.2.1 (F a 1)) 0) (mw (G.2.1 (F a 2)) 0) 1)
    (oq61a : x61.toInt = cnP (pL G61 F a) p0.toInt)
    (z0 : p1.toInt = 0 ∨ p1.toInt = 1)
    (t6 : ((G6.1 a 20).toInt) = -2147483648 ∧ ((G6.1 a 21).toInt) = -2147483648 ∧ ((G6.1 a 23).toInt) = 0)
    (t11 : (x11.toInt = 1 ∧ 0 ≤ p0.toInt ∧ p0.toInt ≤ 11 ∧ (aI (G.2.1 (F a 10)) (10 * p0.toInt + 0)) ≠ -1) ∨ (x11.toInt = 0 ∧ (¬ (0 ≤ p0.toInt ∧ p0.toInt ≤ 11) ∨ (aI (G.2.1 (F a 10)) (10 * p0.toInt + 0)) = -1)))
    (c14 : x11.toInt ≠ 0)
    (c28 : ¬ (p1.toInt = 0))
    (c36 : (aI (G.2.1 (F a 10)) (10 * p0.toInt + 6)) ≠ (1 : Int))
    (t61 : 0 ≤ x61.toInt ∧ x61.toInt ≤ 2388 ∧ 0 ≤ ((G61.1 a 19).toInt) ∧ ((G61.1 a 19).toInt) ≤ 2388)
    (c_G6_F_a_10 : G6.2.1 (F a 10) = G.2.1 (F a 10))
    (c_G74_F_a_10 : G74.2.1 (F a 10) = G58.2.1 (F a 10)) :
    (¬ (0 ≤ p0.toInt ∧ p0.toInt ≤ 11 ∧ aI (G.2.1 (F a 10)) (10 * p0.toInt + 0) ≠ -1) ∧ x61.toInt = -2 ∧ G74.2.1 (F a 10) = (G.2.1 (F a 10))) ∨ ((0 ≤ p0.toInt ∧ p0.toInt ≤ 11 ∧ aI (G.2.1 (F a 10)) (10 * p0.toInt + 0) ≠ -1) ∧ aI (G.2.1 (F a 10)) (10 * p0.toInt + 6) = p1.toInt ∧ x61.toInt = -4 ∧ G74.2.1 (F a 10) = (G.2.1 (F a 10))) ∨ ((0 ≤ p0.toInt ∧ p0.toInt ≤ 11 ∧ aI (G.2.1 (F a 10)) (10 * p0.toInt + 0) ≠ -1) ∧ aI (G.2.1 (F a 10)) (10 * p0.toInt + 6) ≠ p1.toInt ∧ p1.toInt = 1 ∧ (∀ z : Int, 0 ≤ z → aI (G74.2.1 (F a 10)) z = if z = 10 * p0.toInt + 6 then 1 else aI (G.2.1 (F a 10)) z) ∧ x61.toInt = cnP (if ((G.1 a 6).toInt) = 0 then [] else fuO (G74.2.1 (F a 10)) (mw (G.2.1 (F a 1)) 0) (mw (G.2.1 (F a 2)) 0) 1) p0.toInt) ∨ ((0 ≤ p0.toInt ∧ p0.toInt ≤ 11 ∧ aI (G.2.1 (F a 10)) (10 * p0.toInt + 0) ≠ -1) ∧ aI (G.2.1 (F a 10)) (10 * p0.toInt + 6) ≠ p1.toInt ∧ p1.toInt = 0 ∧ ((QFl (G.2.1 (F a 10)) (mw (G.2.1 (F a 1)) 0) (if ((G.1 a 6).toInt) = 0 then [] else fuO (G.2.1 (F a 10)) (mw (G.2.1 (F a 1)) 0) (mw (G.2.1 (F a 2)) 0) 1) p0.toInt ∧ x61.toInt = -5 ∧ G74.2.1 (F a 10) = (G.2.1 (F a 10))) ∨ (¬ QFl (G.2.1 (F a 10)) (mw (G.2.1 (F a 1)) 0) (if ((G.1 a 6).toInt) = 0 then [] else fuO (G.2.1 (F a 10)) (mw (G.2.1 (F a 1)) 0) (mw (G.2.1 (F a 2)) 0) 1) p0.toInt ∧ (∀ z : Int, 0 ≤ z → aI (G74.2.1 (F a 10)) z = if z = 10 * p0.toInt + 6 then 0 else aI (G.2.1 (F a 10)) z) ∧ x61.toInt = cnP (if ((G.1 a 6).toInt) = 0 then [] else fuO (G.2.1 (F a 10)) (mw (G.2.1 (F a 1)) 0) (mw (G.2.1 (F a 2)) 0) 1) p0.toInt))) := by
  refine Or.inr (Or.inr (Or.inl ⟨by omega, by omega, by omega, ?_, ?_⟩))
  · rw [c_G74_F_a_10]
    exact aI_pu hG58 c_G6_F_a_10 (by omega) (by decide) (by omega)
  · rw [c_G74_F_a_10, ← oq61]
    exact oq61a
theorem v_X11_later_76_38 {K : Nat → Nat} {F : Nat → Nat → Nat} (a : Nat) (G : XG) (G6 : XG) (G58 : XG) (x56 : Int32) (G61 : XG) (G74 : XG) (p0 : Int32) (x61 : Int32) (p1 : Int32) (x11 : Int32)
    (ha : K a = 13)
    (hG58 : G58 = cput G6 (F a 10) x56.toNatClampNeg 1)
    (hR : RV (G.2.1 (F a 10)))
    (e56 : x56.toInt = (((10 : Int) * p0.toInt) + (6 : Int)))
    (oq61a : x61.toInt = cnP (pL G61 F a) p0.toInt)
    (z0 : p1.toInt = 0 ∨ p1.toInt = 1)
    (t6 : ((G6.1 a 20).toInt) = -2147483648 ∧ ((G6.1 a 21).toInt) = -2147483648 ∧ ((G6.1 a 23).toInt) = 0)
    (t11 : (x11.toInt = 1 ∧ 0 ≤ p0.toInt ∧ p0.toInt ≤ 11 ∧ (aI (G.2.1 (F a 10)) (10 * p0.toInt + 0)) ≠ -1) ∨ (x11.toInt = 0 ∧ (¬ (0 ≤ p0.toInt ∧ p0.toInt ≤ 11) ∨ (aI (G.2.1 (F a 10)) (10 * p0.toInt + 0)) = -1)))
    (c14 : x11.toInt ≠ 0)
    (c28 : ¬ (p1.toInt = 0))
    (c36 : (aI (G.2.1 (F a 10)) (10 * p0.toInt + 6)) ≠ (1 : Int))
    (t61 : 0 ≤ x61.toInt ∧ x61.toInt ≤ 2388 ∧ 0 ≤ ((G61.1 a 19).toInt) ∧ ((G61.1 a 19).toInt) ≤ 2388)
    (c_G6_F_a_10 : G6.2.1 (F a 10) = G.2.1 (F a 10))
    (c_G74_F_a_10 : G74.2.1 (F a 10) = G58.2.1 (F a 10)) :
    RV (G74.2.1 (F a 10)) := by
  rw [c_G74_F_a_10]
  exact hR.late (x := p0.toInt) (y := 1) (aI_pu hG58 c_G6_F_a_10 (by omega) (by decide) (by omega))
theorem v_X11_later_41_39 {K : Nat → Nat} {F : Nat → Nat → Nat} (a : Nat) (G : XG) (G6 : XG) (p0 : Int32) (p1 : Int32) (x11 : Int32)
    (ha : K a = 13)
    (z0 : p1.toInt = 0 ∨ p1.toInt = 1)
    (t6 : ((G6.1 a 20).toInt) = -2147483648 ∧ ((G6.1 a 21).toInt) = -2147483648 ∧ ((G6.1 a 23).toInt) = 0)
    (t11 : (x11.toInt = 1 ∧ 0 ≤ p0.toInt ∧ p0.toInt ≤ 11 ∧ (aI (G.2.1 (F a 10)) (10 * p0.toInt + 0)) ≠ -1) ∨ (x11.toInt = 0 ∧ (¬ (0 ≤ p0.toInt ∧ p0.toInt ≤ 11) ∨ (aI (G.2.1 (F a 10)) (10 * p0.toInt + 0)) = -1)))
    (c14 : x11.toInt ≠ 0)
    (c28 : ¬ (p1.toInt = 0))
    (c36 : ¬ ((aI (G.2.1 (F a 10)) (10 * p0.toInt + 6)) ≠ (1 : Int)))
    (c_G6_F_a_10 : G6.2.1 (F a 10) = G.2.1 (F a 10)) :
    (¬ (0 ≤ p0.toInt ∧ p0.toInt ≤ 11 ∧ aI (G.2.1 (F a 10)) (10 * p0.toInt + 0) ≠ -1) ∧ (-4 : Int) = -2 ∧ G6.2.1 (F a 10) = (G.2.1 (F a 10))) ∨ ((0 ≤ p0.toInt ∧ p0.toInt ≤ 11 ∧ aI (G.2.1 (F a 10)) (10 * p0.toInt + 0) ≠ -1) ∧ aI (G.2.1 (F a 10)) (10 * p0.toInt + 6) = p1.toInt ∧ (-4 : Int) = -4 ∧ G6.2.1 (F a 10) = (G.2.1 (F a 10))) ∨ ((0 ≤ p0.toInt ∧ p0.toInt ≤ 11 ∧ aI (G.2.1 (F a 10)) (10 * p0.toInt + 0) ≠ -1) ∧ aI (G.2.1 (F a 10)) (10 * p0.toInt + 6) ≠ p1.toInt ∧ p1.toInt = 1 ∧ (∀ z : Int, 0 ≤ z → aI (G6.2.1 (F a 10)) z = if z = 10 * p0.toInt + 6 then 1 else aI (G.2.1 (F a 10)) z) ∧ (-4 : Int) = cnP (if ((G.1 a 6).toInt) = 0 then [] else fuO (G6.2.1 (F a 10)) (mw (G.2.1 (F a 1)) 0) (mw (G.2.1 (F a 2)) 0) 1) p0.toInt) ∨ ((0 ≤ p0.toInt ∧ p0.toInt ≤ 11 ∧ aI (G.2.1 (F a 10)) (10 * p0.toInt + 0) ≠ -1) ∧ aI (G.2.1 (F a 10)) (10 * p0.toInt + 6) ≠ p1.toInt ∧ p1.toInt = 0 ∧ ((QFl (G.2.1 (F a 10)) (mw (G.2.1 (F a 1)) 0) (if ((G.1 a 6).toInt) = 0 then [] else fuO (G.2.1 (F a 10)) (mw (G.2.1 (F a 1)) 0) (mw (G.2.1 (F a 2)) 0) 1) p0.toInt ∧ (-4 : Int) = -5 ∧ G6.2.1 (F a 10) = (G.2.1 (F a 10))) ∨ (¬ QFl (G.2.1 (F a 10)) (mw (G.2.1 (F a 1)) 0) (if ((G.1 a 6).toInt) = 0 then [] else fuO (G.2.1 (F a 10)) (mw (G.2.1 (F a 1)) 0) (mw (G.2.1 (F a 2)) 0) 1) p0.toInt ∧ (∀ z : Int, 0 ≤ z → aI (G6.2.1 (F a 10)) z = if z = 10 * p0.toInt + 6 then 0 else aI (G.2.1 (F a 10)) z) ∧ (-4 : Int) = cnP (if ((G.1 a 6).toInt) = 0 then [] else fuO (G.2.1 (F a 10)) (mw (G.2.1 (F a 1)) 0) (mw (G.2.1 (F a 2)) 0) 1) p0.toInt))) := by
  exact Or.inr (Or.inl ⟨by omega, by omega, rfl, by rw [c_G6_F_a_10]⟩)
theorem v_X11_later_41_40 {F : Nat → Nat → Nat} (a : Nat) (G : XG) (G6 : XG)
    (hR : RV (G.2.1 (F a 10)))
    (c_G6_F_a_10 : G6.2.1 (F a 10) = G.2.1 (F a 10)) :
    RV (G6.2.1 (F a 10)) := by
  rw [c_G6_F_a_10]; exact hR
theorem v_X11_later_19_41 {K : Nat → Nat} {F : Nat → Nat → Nat} (a : Nat) (G : XG) (G6 : XG) (p1 : Int32) (x11 : Int32) (p0 : Int32)
    (ha : K a = 13)
    (z0 : p1.toInt = 0 ∨ p1.toInt = 1)
    (t6 : ((G6.1 a 20).toInt) = -2147483648 ∧ ((G6.1 a 21).toInt) = -2147483648 ∧ ((G6.1 a 23).toInt) = 0)
    (t11 : (x11.toInt = 1 ∧ 0 ≤ p0.toInt ∧ p0.toInt ≤ 11 ∧ (aI (G.2.1 (F a 10)) (10 * p0.toInt + 0)) ≠ -1) ∨ (x11.toInt = 0 ∧ (¬ (0 ≤ p0.toInt ∧ p0.toInt ≤ 11) ∨ (aI (G.2.1 (F a 10)) (10 * p0.toInt + 0)) = -1)))
    (c14 : ¬ (x11.toInt ≠ 0))
    (c_G6_F_a_10 : G6.2.1 (F a 10) = G.2.1 (F a 10)) :
    (¬ (0 ≤ p0.toInt ∧ p0.toInt ≤ 11 ∧ aI (G.2.1 (F a 10)) (10 * p0.toInt + 0) ≠ -1) ∧ (-2 : Int) = -2 ∧ G6.2.1 (F a 10) = (G.2.1 (F a 10))) ∨ ((0 ≤ p0.toInt ∧ p0.toInt ≤ 11 ∧ aI (G.2.1 (F a 10)) (10 * p0.toInt + 0) ≠ -1) ∧ aI (G.2.1 (F a 10)) (10 * p0.toInt + 6) = p1.toInt ∧ (-2 : Int) = -4 ∧ G6.2.1 (F a 10) = (G.2.1 (F a 10))) ∨ ((0 ≤ p0.toInt ∧ p0.toInt ≤ 11 ∧ aI (G.2.1 (F a 10)) (10 * p0.toInt + 0) ≠ -1) ∧ aI (G.2.1 (F a 10)) (10 * p0.toInt + 6) ≠ p1.toInt ∧ p1.toInt = 1 ∧ (∀ z : Int, 0 ≤ z → aI (G6.2.1 (F a 10)) z = if z = 10 * p0.toInt + 6 then 1 else aI (G.2.1 (F a 10)) z) ∧ (-2 : Int) = cnP (if ((G.1 a 6).toInt) = 0 then [] else fuO (G6.2.1 (F a 10)) (mw (G.2.1 (F a 1)) 0) (mw (G.2.1 (F a 2)) 0) 1) p0.toInt) ∨ ((0 ≤ p0.toInt ∧ p0.toInt ≤ 11 ∧ aI (G.2.1 (F a 10)) (10 * p0.toInt + 0) ≠ -1) ∧ aI (G.2.1 (F a 10)) (10 * p0.toInt + 6) ≠ p1.toInt ∧ p1.toInt = 0 ∧ ((QFl (G.2.1 (F a 10)) (mw (G.2.1 (F a 1)) 0) (if ((G.1 a 6).toInt) = 0 then [] else fuO (G.2.1 (F a 10)) (mw (G.2.1 (F a 1)) 0) (mw (G.2.1 (F a 2)) 0) 1) p0.toInt ∧ (-2 : Int) = -5 ∧ G6.2.1 (F a 10) = (G.2.1 (F a 10))) ∨ (¬ QFl (G.2.1 (F a 10)) (mw (G.2.1 (F a 1)) 0) (if ((G.1 a 6).toInt) = 0 then [] else fuO (G.2.1 (F a 10)) (mw (G.2.1 (F a 1)) 0) (mw (G.2.1 (F a 2)) 0) 1) p0.toInt ∧ (∀ z : Int, 0 ≤ z → aI (G6.2.1 (F a 10)) z = if z = 10 * p0.toInt + 6 then 0 else aI (G.2.1 (F a 10)) z) ∧ (-2 : Int) = cnP (if ((G.1 a 6).toInt) = 0 then [] else fuO (G.2.1 (F a 10)) (mw (G.2.1 (F a 1)) 0) (mw (G.2.1 (F a 2)) 0) 1) p0.toInt))) := by
  exact Or.inl ⟨by omega, rfl, by rw [c_G6_F_a_10]⟩
theorem v_X11_later_19_42 {F : Nat → Nat → Nat} (a : Nat) (G : XG) (G6 : XG)
    (hR : RV (G.2.1 (F a 10)))
    (c_G6_F_a_10 : G6.2.1 (F a 10) = G.2.1 (F a 10)) :
    RV (G6.2.1 (F a 10)) := by
  rw [c_G6_F_a_10]; exact hR
