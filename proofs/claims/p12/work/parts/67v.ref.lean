theorem v_X11_rule_10_1 {F : Nat → Nat → Nat} (G2 : XG) (G : XG) (a : Nat) (G6 : XG)
    (hG2 : G2 = dput G a 0 0)
    (hF6 : XFr [(a, 20), (a, 21), (a, 23)] [] [] G2 G6)
    (hwo : WDo G F a) :
    WDo G6 F a := by
  intro i hi j hj
  have h9 : G6.2.1 (F a (25 + i)) = G.2.1 (F a (25 + i)) := (hF6.2.1 _ xn0).trans (by rw [hG2]; rfl)
  rw [h9]
  exact hwo i hi j hj
theorem v_X11_rule_87_2 {F : Nat → Nat → Nat} (G10 : XG) (a : Nat) (G : XG) (G_58 : XG) (x43 : Int32) (l3_58 : Int32)
    (cp : CPd (G10.2.1 (F a 40)) (G.2.1 (F a 10)) (G_58.2.1 (F a 10)) 0 (10 * x43.toInt) (l3_58.toInt))
    (I58_0 : 0 ≤ l3_58.toInt ∧ l3_58.toInt ≤ 9)
    (c61 : (9 : Int) ≤ l3_58.toInt) :
    CPd (G10.2.1 (F a 40)) (G.2.1 (F a 10)) (G_58.2.1 (F a 10)) 0 (10 * x43.toInt) 9 := by
  rw [show l3_58.toInt = 9 from by omega] at cp
  exact cp
theorem v_X11_rule_87_3 {F : Nat → Nat → Nat} (G10 : XG) (a : Nat) (G : XG) (x43 : Int32) (G_58 : XG)
    (dfo10 : DFo (G10.2.1 (F a 40)) (tM (G.2.1 (F a 35)) ((G.1 a 36).toInt)))
    (oq43 : (x43.toInt = 12 ∨ aI (G.2.1 (F a 10)) (10 * x43.toInt + 0) = -1) ∧ ∀ i : Int, 0 ≤ i → i < x43.toInt → aI (G.2.1 (F a 10)) (10 * i + 0) ≠ -1)
    (cp87 : CPd (G10.2.1 (F a 40)) (G.2.1 (F a 10)) (G_58.2.1 (F a 10)) 0 (10 * x43.toInt) 9)
    (t43 : 0 ≤ x43.toInt ∧ x43.toInt ≤ 12)
    (c50 : x43.toInt ≠ (12 : Int)) :
    (0 ≤ (aI (G_58.2.1 (F a 10)) (10 * x43.toInt + 0)) ∧ (aI (G_58.2.1 (F a 10)) (10 * x43.toInt + 0)) ≤ 5) := by
  have b := (rS_b (tM (G.2.1 (F a 35)) ((G.1 a 36).toInt))).1
  have e := cp87.at (j := 0) (by omega) (by decide)
  rw [dfo10.1] at e
  omega
theorem v_X11_rule_142_4 (G_58 : XG) (a : Nat)
    (d_G_58_a_36 : G_58.1 a 36 = 0) :
    ((G_58.1 a 36).toInt) = 0 := by
  rw [d_G_58_a_36]; rfl
theorem v_X11_rule_142_5 {F : Nat → Nat → Nat} (G : XG) (a : Nat) (x10 : Int32) (G10 : XG) (x43 : Int32) (G_58 : XG) (l3_93 : Int32)
    (oq10 : (x10.toInt ≠ 0 ↔ rOk (tM (G.2.1 (F a 35)) ((G.1 a 36).toInt)) ((G.1 a 36).toInt)))
    (oq10a : (¬ rOk (tM (G.2.1 (F a 35)) ((G.1 a 36).toInt)) ((G.1 a 36).toInt) → ((G10.1 a 38).toInt) = (rS9 (tM (G.2.1 (F a 35)) ((G.1 a 36).toInt))).2.2 ∧ 0 ≤ (rS9 (tM (G.2.1 (F a 35)) ((G.1 a 36).toInt))).2.2 ∧ (rS9 (tM (G.2.1 (F a 35)) ((G.1 a 36).toInt))).2.2 ≤ ((G.1 a 36).toInt)))
    (dfo10 : DFo (G10.2.1 (F a 40)) (tM (G.2.1 (F a 35)) ((G.1 a 36).toInt)))
    (oq43 : (x43.toInt = 12 ∨ aI (G.2.1 (F a 10)) (10 * x43.toInt + 0) = -1) ∧ ∀ i : Int, 0 ≤ i → i < x43.toInt → aI (G.2.1 (F a 10)) (10 * i + 0) ≠ -1)
    (cp87 : CPd (G10.2.1 (F a 40)) (G.2.1 (F a 10)) (G_58.2.1 (F a 10)) 0 (10 * x43.toInt) 9)
    (pz : ∀ s : Int, sF (aI (G_58.2.1 (F a 10)) (10 * x43.toInt + 0)) ≤ s → s < l3_93.toInt → fzq (G_58.2.1 (F a 10)) (mw (G.2.1 (F a 1)) 0) (x43.toInt) s = 0)
    (nt0 : 0 ≤ ((G.1 a 36).toInt) ∧ ((G.1 a 36).toInt) ≤ 80)
    (c20 : x10.toInt ≠ 0)
    (c36 : ((G.1 a 6).toInt) = 0)
    (t43 : 0 ≤ x43.toInt ∧ x43.toInt ≤ 12)
    (c50 : x43.toInt ≠ (12 : Int))
    (kd87 : (0 ≤ (aI (G_58.2.1 (F a 10)) (10 * x43.toInt + 0)) ∧ (aI (G_58.2.1 (F a 10)) (10 * x43.toInt + 0)) ≤ 5))
    (sf87 : (((aI (G_58.2.1 (F a 10)) (10 * x43.toInt + 0)) = 2 ∨ (aI (G_58.2.1 (F a 10)) (10 * x43.toInt + 0)) = 4 ∨ (aI (G_58.2.1 (F a 10)) (10 * x43.toInt + 0)) = 5) ∧ (sF (aI (G_58.2.1 (F a 10)) (10 * x43.toInt + 0))) = 0 ∧ (sL (aI (G_58.2.1 (F a 10)) (10 * x43.toInt + 0))) = 29) ∨ (¬ ((aI (G_58.2.1 (F a 10)) (10 * x43.toInt + 0)) = 2 ∨ (aI (G_58.2.1 (F a 10)) (10 * x43.toInt + 0)) = 4 ∨ (aI (G_58.2.1 (F a 10)) (10 * x43.toInt + 0)) = 5) ∧ (sF (aI (G_58.2.1 (F a 10)) (10 * x43.toInt + 0))) = -99 ∧ (sL (aI (G_58.2.1 (F a 10)) (10 * x43.toInt + 0))) = 99))
    (I93_0 : (sF (aI (G_58.2.1 (F a 10)) (10 * x43.toInt + 0))) ≤ l3_93.toInt ∧ l3_93.toInt ≤ (sL (aI (G_58.2.1 (F a 10)) (10 * x43.toInt + 0))) + 1)
    (c99 : (sL (aI (G_58.2.1 (F a 10)) (10 * x43.toInt + 0))) < l3_93.toInt) :
    (¬ rOk (tM (G.2.1 (F a 35)) ((G.1 a 36).toInt)) ((G.1 a 36).toInt) ∧ x43.toInt = -1000 - (rS9 (tM (G.2.1 (F a 35)) ((G.1 a 36).toInt))).2.2 ∧ G_58.2.1 (F a 10) = (G.2.1 (F a 10))) ∨ (rOk (tM (G.2.1 (F a 35)) ((G.1 a 36).toInt)) ((G.1 a 36).toInt) ∧ ((G.1 a 6).toInt) ≠ 0 ∧ x43.toInt = -3 ∧ G_58.2.1 (F a 10) = (G.2.1 (F a 10))) ∨ (rOk (tM (G.2.1 (F a 35)) ((G.1 a 36).toInt)) ((G.1 a 36).toInt) ∧ ((G.1 a 6).toInt) = 0 ∧ (∀ i : Int, 0 ≤ i → i < 12 → aI (G.2.1 (F a 10)) (10 * i + 0) ≠ -1) ∧ x43.toInt = -4 ∧ G_58.2.1 (F a 10) = (G.2.1 (F a 10))) ∨ (rOk (tM (G.2.1 (F a 35)) ((G.1 a 36).toInt)) ((G.1 a 36).toInt) ∧ ((G.1 a 6).toInt) = 0 ∧ ∃ (k : Int) (d g : Nat → Int32), ((0 ≤ k ∧ k ≤ 11) ∧ aI (G.2.1 (F a 10)) (10 * k + 0) = -1 ∧ ∀ i : Int, 0 ≤ i → i < k → aI (G.2.1 (F a 10)) (10 * i + 0) ≠ -1) ∧ DFo d (tM (G.2.1 (F a 35)) ((G.1 a 36).toInt)) ∧ CPd d (G.2.1 (F a 10)) g 0 (10 * k) 9 ∧ (((∃ s : Int, sbj (aI g (10 * k + 0)) s ∧ fzq g (mw (G.2.1 (F a 1)) 0) k s = 1) ∧ x43.toInt = -5 ∧ ∀ z : Int, 0 ≤ z → aI (G_58.2.1 (F a 10)) z = if z = 10 * k then -1 else aI g z) ∨ ((∀ s : Int, sbj (aI g (10 * k + 0)) s → fzq g (mw (G.2.1 (F a 1)) 0) k s = 0) ∧ x43.toInt = k ∧ G_58.2.1 (F a 10) = g))) := by
  have ok : rOk (tM (G.2.1 (F a 35)) ((G.1 a 36).toInt)) ((G.1 a 36).toInt) := oq10.mp (by omega)
  refine Or.inr (Or.inr (Or.inr ⟨ok, by omega, x43.toInt, _, _, ⟨by omega, (by rcases oq43.1 with h | h; exact absurd h (by omega); exact h), fun i h1 h2 => oq43.2 i h1 h2⟩, dfo10, cp87, Or.inr ⟨fun s hs => ?_, rfl, rfl⟩⟩))
  have := sbj_FL.mp hs
  exact pz s this.1 (by omega)
theorem v_X11_rule_142_6 {F : Nat → Nat → Nat} (G : XG) (a : Nat) (G10 : XG) (G_58 : XG) (x43 : Int32)
    (hR : RV (G.2.1 (F a 10)))
    (dfo10 : DFo (G10.2.1 (F a 40)) (tM (G.2.1 (F a 35)) ((G.1 a 36).toInt)))
    (cp87 : CPd (G10.2.1 (F a 40)) (G.2.1 (F a 10)) (G_58.2.1 (F a 10)) 0 (10 * x43.toInt) 9)
    (t43 : 0 ≤ x43.toInt ∧ x43.toInt ≤ 12)
    (c50 : x43.toInt ≠ (12 : Int)) :
    RV (G_58.2.1 (F a 10)) := by
  exact hR.cpd (by omega) cp87 dfo10
theorem v_X11_rule_110_7 {F : Nat → Nat → Nat} (G : XG) (a : Nat) (G10 : XG) (G_58 : XG) (x43 : Int32)
    (hR : RV (G.2.1 (F a 10)))
    (dfo10 : DFo (G10.2.1 (F a 40)) (tM (G.2.1 (F a 35)) ((G.1 a 36).toInt)))
    (cp87 : CPd (G10.2.1 (F a 40)) (G.2.1 (F a 10)) (G_58.2.1 (F a 10)) 0 (10 * x43.toInt) 9)
    (t43 : 0 ≤ x43.toInt ∧ x43.toInt ≤ 12)
    (c50 : x43.toInt ≠ (12 : Int)) :
    RV (G_58.2.1 (F a 10)) := by
  exact hR.cpd (by omega) cp87 dfo10
theorem v_X11_rule_110_8 {F : Nat → Nat → Nat} (a : Nat) (G : XG) (G_58 : XG)
    (hM : RM (G.2.1 (F a 1)) (0))
    (c_G_58_F_a_1 : G_58.2.1 (F a 1) = G.2.1 (F a 1)) :
    RM (G_58.2.1 (F a 1)) (0 : Int) := by simp only [c_G_58_F_a_1]; assumption
theorem v_X11_rule_138_9 {F : Nat → Nat → Nat} (G_58 : XG) (a : Nat) (x43 : Int32) (l3_93 : Int32) (G : XG) (x110 : Int32)
    (pz : ∀ s : Int, sF (aI (G_58.2.1 (F a 10)) (10 * x43.toInt + 0)) ≤ s → s < l3_93.toInt → fzq (G_58.2.1 (F a 10)) (mw (G.2.1 (F a 1)) 0) (x43.toInt) s = 0)
    (t110 : x110.toInt = (flq (mw (G.2.1 (F a 1)) 0) (aI (G_58.2.1 (F a 10)) (10 * x43.toInt + 0)) (aI (G_58.2.1 (F a 10)) (10 * x43.toInt + 1)) (aI (G_58.2.1 (F a 10)) (10 * x43.toInt + 2)) (aI (G_58.2.1 (F a 10)) (10 * x43.toInt + 4)) (aI (G_58.2.1 (F a 10)) (10 * x43.toInt + 5)) (l3_93.toInt) (stt (mw (G.2.1 (F a 1)) 0) (aI (G_58.2.1 (F a 10)) (10 * x43.toInt + 0)) (aI (G_58.2.1 (F a 10)) (10 * x43.toInt + 1)) (aI (G_58.2.1 (F a 10)) (10 * x43.toInt + 2)) (aI (G_58.2.1 (F a 10)) (10 * x43.toInt + 3)) (l3_93.toInt))))
    (c113 : x110.toInt = 0) :
    ∀ s : Int, sF (aI (G_58.2.1 (F a 10)) (10 * x43.toInt + 0)) ≤ s → s < (l3_93.toInt + 1) → fzq (G_58.2.1 (F a 10)) (mw (G.2.1 (F a 1)) 0) (x43.toInt) s = 0 := by
  intro s h1 h2
  by_cases e : s = l3_93.toInt
  · subst e
    have t9 : flq _ _ _ _ _ _ _ _ = 0 := t110.symm.trans c113
    exact t9
  · exact pz s h1 (by omega)
theorem v_X11_rule_134_10 (G131 : XG) (a : Nat)
    (d_G131_a_36 : G131.1 a 36 = 0) :
    ((G131.1 a 36).toInt) = 0 := by
  rw [d_G131_a_36]; rfl
theorem v_X11_rule_134_11 {F : Nat → Nat → Nat} (G131 : XG) (G119 : XG) (a : Nat) (x129 : Int32) (G : XG) (x10 : Int32) (G10 : XG) (x43 : Int32) (G_58 : XG) (l3_93 : Int32) (x110 : Int32)
    (hG131 : G131 = cput G119 (F a 10) x129.toNatClampNeg (-1))
    (oq10 : (x10.toInt ≠ 0 ↔ rOk (tM (G.2.1 (F a 35)) ((G.1 a 36).toInt)) ((G.1 a 36).toInt)))
    (oq10a : (¬ rOk (tM (G.2.1 (F a 35)) ((G.1 a 36).toInt)) ((G.1 a 36).toInt) → ((G10.1 a 38).toInt) = (rS9 (tM (G.2.1 (F a 35)) ((G.1 a 36).toInt))).2.2 ∧ 0 ≤ (rS9 (tM (G.2.1 (F a 35)) ((G.1 a 36).toInt))).2.2 ∧ (rS9 (tM (G.2.1 (F a 35)) ((G.1 a 36).toInt))).2.2 ≤ ((G.1 a 36).toInt)))
    (dfo10 : DFo (G10.2.1 (F a 40)) (tM (G.2.1 (F a 35)) ((G.1 a 36).toInt)))
    (oq43 : (x43.toInt = 12 ∨ aI (G.2.1 (F a 10)) (10 * x43.toInt + 0) = -1) ∧ ∀ i : Int, 0 ≤ i → i < x43.toInt → aI (G.2.1 (F a 10)) (10 * i + 0) ≠ -1)
    (cp87 : CPd (G10.2.1 (F a 40)) (G.2.1 (F a 10)) (G_58.2.1 (F a 10)) 0 (10 * x43.toInt) 9)
    (e129 : x129.toInt = ((10 : Int) * x43.toInt))
    (nt0 : 0 ≤ ((G.1 a 36).toInt) ∧ ((G.1 a 36).toInt) ≤ 80)
    (c20 : x10.toInt ≠ 0)
    (c36 : ((G.1 a 6).toInt) = 0)
    (t43 : 0 ≤ x43.toInt ∧ x43.toInt ≤ 12)
    (c50 : x43.toInt ≠ (12 : Int))
    (kd87 : (0 ≤ (aI (G_58.2.1 (F a 10)) (10 * x43.toInt + 0)) ∧ (aI (G_58.2.1 (F a 10)) (10 * x43.toInt + 0)) ≤ 5))
    (sf87 : (((aI (G_58.2.1 (F a 10)) (10 * x43.toInt + 0)) = 2 ∨ (aI (G_58.2.1 (F a 10)) (10 * x43.toInt + 0)) = 4 ∨ (aI (G_58.2.1 (F a 10)) (10 * x43.toInt + 0)) = 5) ∧ (sF (aI (G_58.2.1 (F a 10)) (10 * x43.toInt + 0))) = 0 ∧ (sL (aI (G_58.2.1 (F a 10)) (10 * x43.toInt + 0))) = 29) ∨ (¬ ((aI (G_58.2.1 (F a 10)) (10 * x43.toInt + 0)) = 2 ∨ (aI (G_58.2.1 (F a 10)) (10 * x43.toInt + 0)) = 4 ∨ (aI (G_58.2.1 (F a 10)) (10 * x43.toInt + 0)) = 5) ∧ (sF (aI (G_58.2.1 (F a 10)) (10 * x43.toInt + 0))) = -99 ∧ (sL (aI (G_58.2.1 (F a 10)) (10 * x43.toInt + 0))) = 99))
    (I93_0 : (sF (aI (G_58.2.1 (F a 10)) (10 * x43.toInt + 0))) ≤ l3_93.toInt ∧ l3_93.toInt ≤ (sL (aI (G_58.2.1 (F a 10)) (10 * x43.toInt + 0))) + 1)
    (c99 : ¬ ((sL (aI (G_58.2.1 (F a 10)) (10 * x43.toInt + 0))) < l3_93.toInt))
    (t110 : x110.toInt = (flq (mw (G.2.1 (F a 1)) 0) (aI (G_58.2.1 (F a 10)) (10 * x43.toInt + 0)) (aI (G_58.2.1 (F a 10)) (10 * x43.toInt + 1)) (aI (G_58.2.1 (F a 10)) (10 * x43.toInt + 2)) (aI (G_58.2.1 (F a 10)) (10 * x43.toInt + 4)) (aI (G_58.2.1 (F a 10)) (10 * x43.toInt + 5)) (l3_93.toInt) (stt (mw (G.2.1 (F a 1)) 0) (aI (G_58.2.1 (F a 10)) (10 * x43.toInt + 0)) (aI (G_58.2.1 (F a 10)) (10 * x43.toInt + 1)) (aI (G_58.2.1 (F a 10)) (10 * x43.toInt + 2)) (aI (G_58.2.1 (F a 10)) (10 * x43.toInt + 3)) (l3_93.toInt))))
    (c113 : ¬ (x110.toInt = 0))
    (c_G119_F_a_10 : G119.2.1 (F a 10) = G_58.2.1 (F a 10)) :
    (¬ rOk (tM (G.2.1 (F a 35)) ((G.1 a 36).toInt)) ((G.1 a 36).toInt) ∧ (-5 : Int) = -1000 - (rS9 (tM (G.2.1 (F a 35)) ((G.1 a 36).toInt))).2.2 ∧ G131.2.1 (F a 10) = (G.2.1 (F a 10))) ∨ (rOk (tM (G.2.1 (F a 35)) ((G.1 a 36).toInt)) ((G.1 a 36).toInt) ∧ ((G.1 a 6).toInt) ≠ 0 ∧ (-5 : Int) = -3 ∧ G131.2.1 (F a 10) = (G.2.1 (F a 10))) ∨ (rOk (tM (G.2.1 (F a 35)) ((G.1 a 36).toInt)) ((G.1 a 36).toInt) ∧ ((G.1 a 6).toInt) = 0 ∧ (∀ i : Int, 0 ≤ i → i < 12 → aI (G.2.1 (F a 10)) (10 * i + 0) ≠ -1) ∧ (-5 : Int) = -4 ∧ G131.2.1 (F a 10) = (G.2.1 (F a 10))) ∨ (rOk (tM (G.2.1 (F a 35)) ((G.1 a 36).toInt)) ((G.1 a 36).toInt) ∧ ((G.1 a 6).toInt) = 0 ∧ ∃ (k : Int) (d g : Nat → Int32), ((0 ≤ k ∧ k ≤ 11) ∧ aI (G.2.1 (F a 10)) (10 * k + 0) = -1 ∧ ∀ i : Int, 0 ≤ i → i < k → aI (G.2.1 (F a 10)) (10 * i + 0) ≠ -1) ∧ DFo d (tM (G.2.1 (F a 35)) ((G.1 a 36).toInt)) ∧ CPd d (G.2.1 (F a 10)) g 0 (10 * k) 9 ∧ (((∃ s : Int, sbj (aI g (10 * k + 0)) s ∧ fzq g (mw (G.2.1 (F a 1)) 0) k s = 1) ∧ (-5 : Int) = -5 ∧ ∀ z : Int, 0 ≤ z → aI (G131.2.1 (F a 10)) z = if z = 10 * k then -1 else aI g z) ∨ ((∀ s : Int, sbj (aI g (10 * k + 0)) s → fzq g (mw (G.2.1 (F a 1)) 0) k s = 0) ∧ (-5 : Int) = k ∧ G131.2.1 (F a 10) = g))) := by
  have ok : rOk (tM (G.2.1 (F a 35)) ((G.1 a 36).toInt)) ((G.1 a 36).toInt) := oq10.mp (by omega)
  refine Or.inr (Or.inr (Or.inr ⟨ok, by omega, x43.toInt, _, _, ⟨by omega, (by rcases oq43.1 with h | h; exact absurd h (by omega); exact h), fun i h1 h2 => oq43.2 i h1 h2⟩, dfo10, cp87, Or.inl ⟨⟨l3_93.toInt, sbj_FL.mpr (by omega), ?_⟩, rfl, aI_pu hG131 c_G119_F_a_10 (by omega) (by decide) (by omega)⟩⟩))
  have h01 := flq01 (mw (G.2.1 (F a 1)) 0) (aI (G_58.2.1 (F a 10)) (10 * x43.toInt + 0)) (aI (G_58.2.1 (F a 10)) (10 * x43.toInt + 1)) (aI (G_58.2.1 (F a 10)) (10 * x43.toInt + 2)) (aI (G_58.2.1 (F a 10)) (10 * x43.toInt + 4)) (aI (G_58.2.1 (F a 10)) (10 * x43.toInt + 5)) l3_93.toInt (stt (mw (G.2.1 (F a 1)) 0) (aI (G_58.2.1 (F a 10)) (10 * x43.toInt + 0)) (aI (G_58.2.1 (F a 10)) (10 * x43.toInt + 1)) (aI (G_58.2.1 (F a 10)) (10 * x43.toInt + 2)) (aI (G_58.2.1 (F a 10)) (10 * x43.toInt + 3)) l3_93.toInt)
  show flq _ _ _ _ _ _ _ _ = 1
  omega
theorem v_X11_rule_134_12 {F : Nat → Nat → Nat} (G131 : XG) (G119 : XG) (a : Nat) (x129 : Int32) (G : XG) (G10 : XG) (G_58 : XG) (x43 : Int32)
    (hG131 : G131 = cput G119 (F a 10) x129.toNatClampNeg (-1))
    (hR : RV (G.2.1 (F a 10)))
    (dfo10 : DFo (G10.2.1 (F a 40)) (tM (G.2.1 (F a 35)) ((G.1 a 36).toInt)))
    (cp87 : CPd (G10.2.1 (F a 40)) (G.2.1 (F a 10)) (G_58.2.1 (F a 10)) 0 (10 * x43.toInt) 9)
    (e129 : x129.toInt = ((10 : Int) * x43.toInt))
    (t43 : 0 ≤ x43.toInt ∧ x43.toInt ≤ 12)
    (c50 : x43.toInt ≠ (12 : Int))
    (c_G119_F_a_10 : G119.2.1 (F a 10) = G_58.2.1 (F a 10)) :
    RV (G131.2.1 (F a 10)) := by
  exact (hR.cpd (by omega) cp87 dfo10).drop (aI_pu hG131 c_G119_F_a_10 (by omega) (by decide) (by omega))
theorem v_X11_rule_92_13 {F : Nat → Nat → Nat} (G_58 : XG) (a : Nat) (x43 : Int32) (G : XG) :
    ∀ s : Int, sF (aI (G_58.2.1 (F a 10)) (10 * x43.toInt + 0)) ≤ s → s < (sF (aI (G_58.2.1 (F a 10)) (10 * x43.toInt + 0))) → fzq (G_58.2.1 (F a 10)) (mw (G.2.1 (F a 1)) 0) (x43.toInt) s = 0 := by
  intro s h1 h2; exact absurd h1 (by omega)
theorem v_X11_rule_84_14 {F : Nat → Nat → Nat} (G80 : XG) (G_58 : XG) (a : Nat) (x73 : Int32) (x79 : Int32) (G10 : XG) (G : XG) (x43 : Int32) (l3_58 : Int32)
    (hG80 : G80 = cput G_58 (F a 10) x73.toNatClampNeg x79)
    (cp : CPd (G10.2.1 (F a 40)) (G.2.1 (F a 10)) (G_58.2.1 (F a 10)) 0 (10 * x43.toInt) (l3_58.toInt))
    (e73 : x73.toInt = (((10 : Int) * x43.toInt) + l3_58.toInt))
    (hv79 : x79.toInt = (aI (G10.2.1 (F a 40)) (l3_58.toInt)))
    (t43 : 0 ≤ x43.toInt ∧ x43.toInt ≤ 12)
    (c50 : x43.toInt ≠ (12 : Int))
    (I58_0 : 0 ≤ l3_58.toInt ∧ l3_58.toInt ≤ 9)
    (c61 : ¬ ((9 : Int) ≤ l3_58.toInt)) :
    CPd (G10.2.1 (F a 40)) (G.2.1 (F a 10)) (G80.2.1 (F a 10)) 0 (10 * x43.toInt) (l3_58.toInt + 1) := by
  exact cp.s (by omega) (by omega) (aI_pu hG80 rfl rfl hv79 (by omega)) (by omega) rfl
theorem v_X11_rule_57_15 {F : Nat → Nat → Nat} (x43 : Int32) (G10 : XG) (a : Nat) (G : XG) :
    CPd (G10.2.1 (F a 40)) (G.2.1 (F a 10)) (G.2.1 (F a 10)) 0 (10 * x43.toInt) (0 : Int) := by
  exact CPd.z _ _ _
theorem v_X11_rule_55_16 (G16 : XG) (a : Nat)
    (d_G16_a_36 : G16.1 a 36 = 0) :
    ((G16.1 a 36).toInt) = 0 := by
  rw [d_G16_a_36]; rfl
theorem v_X11_rule_55_17 {F : Nat → Nat → Nat} (G : XG) (a : Nat) (x10 : Int32) (G10 : XG) (x43 : Int32) (G16 : XG)
    (oq10 : (x10.toInt ≠ 0 ↔ rOk (tM (G.2.1 (F a 35)) ((G.1 a 36).toInt)) ((G.1 a 36).toInt)))
    (oq10a : (¬ rOk (tM (G.2.1 (F a 35)) ((G.1 a 36).toInt)) ((G.1 a 36).toInt) → ((G10.1 a 38).toInt) = (rS9 (tM (G.2.1 (F a 35)) ((G.1 a 36).toInt))).2.2 ∧ 0 ≤ (rS9 (tM (G.2.1 (F a 35)) ((G.1 a 36).toInt))).2.2 ∧ (rS9 (tM (G.2.1 (F a 35)) ((G.1 a 36).toInt))).2.2 ≤ ((G.1 a 36).toInt)))
    (oq43 : (x43.toInt = 12 ∨ aI (G.2.1 (F a 10)) (10 * x43.toInt + 0) = -1) ∧ ∀ i : Int, 0 ≤ i → i < x43.toInt → aI (G.2.1 (F a 10)) (10 * i + 0) ≠ -1)
    (nt0 : 0 ≤ ((G.1 a 36).toInt) ∧ ((G.1 a 36).toInt) ≤ 80)
    (c20 : x10.toInt ≠ 0)
    (c36 : ((G.1 a 6).toInt) = 0)
    (t43 : 0 ≤ x43.toInt ∧ x43.toInt ≤ 12)
    (c50 : ¬ (x43.toInt ≠ (12 : Int)))
    (c_G16_F_a_10 : G16.2.1 (F a 10) = G.2.1 (F a 10)) :
    (¬ rOk (tM (G.2.1 (F a 35)) ((G.1 a 36).toInt)) ((G.1 a 36).toInt) ∧ (-4 : Int) = -1000 - (rS9 (tM (G.2.1 (F a 35)) ((G.1 a 36).toInt))).2.2 ∧ G16.2.1 (F a 10) = (G.2.1 (F a 10))) ∨ (rOk (tM (G.2.1 (F a 35)) ((G.1 a 36).toInt)) ((G.1 a 36).toInt) ∧ ((G.1 a 6).toInt) ≠ 0 ∧ (-4 : Int) = -3 ∧ G16.2.1 (F a 10) = (G.2.1 (F a 10))) ∨ (rOk (tM (G.2.1 (F a 35)) ((G.1 a 36).toInt)) ((G.1 a 36).toInt) ∧ ((G.1 a 6).toInt) = 0 ∧ (∀ i : Int, 0 ≤ i → i < 12 → aI (G.2.1 (F a 10)) (10 * i + 0) ≠ -1) ∧ (-4 : Int) = -4 ∧ G16.2.1 (F a 10) = (G.2.1 (F a 10))) ∨ (rOk (tM (G.2.1 (F a 35)) ((G.1 a 36).toInt)) ((G.1 a 36).toInt) ∧ ((G.1 a 6).toInt) = 0 ∧ ∃ (k : Int) (d g : Nat → Int32), ((0 ≤ k ∧ k ≤ 11) ∧ aI (G.2.1 (F a 10)) (10 * k + 0) = -1 ∧ ∀ i : Int, 0 ≤ i → i < k → aI (G.2.1 (F a 10)) (10 * i + 0) ≠ -1) ∧ DFo d (tM (G.2.1 (F a 35)) ((G.1 a 36).toInt)) ∧ CPd d (G.2.1 (F a 10)) g 0 (10 * k) 9 ∧ (((∃ s : Int, sbj (aI g (10 * k + 0)) s ∧ fzq g (mw (G.2.1 (F a 1)) 0) k s = 1) ∧ (-4 : Int) = -5 ∧ ∀ z : Int, 0 ≤ z → aI (G16.2.1 (F a 10)) z = if z = 10 * k then -1 else aI g z) ∨ ((∀ s : Int, sbj (aI g (10 * k + 0)) s → fzq g (mw (G.2.1 (F a 1)) 0) k s = 0) ∧ (-4 : Int) = k ∧ G16.2.1 (F a 10) = g))) := by
  have ok : rOk (tM (G.2.1 (F a 35)) ((G.1 a 36).toInt)) ((G.1 a 36).toInt) := oq10.mp (by omega)
  exact Or.inr (Or.inr (Or.inl ⟨ok, by omega, fun i h1 h2 => oq43.2 i h1 (by omega), rfl, c_G16_F_a_10⟩))
theorem v_X11_rule_55_18 {F : Nat → Nat → Nat} (G : XG) (a : Nat) (G16 : XG)
    (hR : RV (G.2.1 (F a 10)))
    (c_G16_F_a_10 : G16.2.1 (F a 10) = G.2.1 (F a 10)) :
    RV (G16.2.1 (F a 10)) := by
  rw [c_G16_F_a_10]; exact hR
theorem v_X11_rule_41_19 (G16 : XG) (a : Nat)
    (d_G16_a_36 : G16.1 a 36 = 0) :
    ((G16.1 a 36).toInt) = 0 := by
  rw [d_G16_a_36]; rfl
theorem v_X11_rule_41_20 {F : Nat → Nat → Nat} (G : XG) (a : Nat) (x10 : Int32) (G10 : XG) (G16 : XG)
    (oq10 : (x10.toInt ≠ 0 ↔ rOk (tM (G.2.1 (F a 35)) ((G.1 a 36).toInt)) ((G.1 a 36).toInt)))
    (oq10a : (¬ rOk (tM (G.2.1 (F a 35)) ((G.1 a 36).toInt)) ((G.1 a 36).toInt) → ((G10.1 a 38).toInt) = (rS9 (tM (G.2.1 (F a 35)) ((G.1 a 36).toInt))).2.2 ∧ 0 ≤ (rS9 (tM (G.2.1 (F a 35)) ((G.1 a 36).toInt))).2.2 ∧ (rS9 (tM (G.2.1 (F a 35)) ((G.1 a 36).toInt))).2.2 ≤ ((G.1 a 36).toInt)))
    (nt0 : 0 ≤ ((G.1 a 36).toInt) ∧ ((G.1 a 36).toInt) ≤ 80)
    (c20 : x10.toInt ≠ 0)
    (c36 : ¬ (((G.1 a 6).toInt) = 0))
    (c_G16_F_a_10 : G16.2.1 (F a 10) = G.2.1 (F a 10)) :
    (¬ rOk (tM (G.2.1 (F a 35)) ((G.1 a 36).toInt)) ((G.1 a 36).toInt) ∧ (-3 : Int) = -1000 - (rS9 (tM (G.2.1 (F a 35)) ((G.1 a 36).toInt))).2.2 ∧ G16.2.1 (F a 10) = (G.2.1 (F a 10))) ∨ (rOk (tM (G.2.1 (F a 35)) ((G.1 a 36).toInt)) ((G.1 a 36).toInt) ∧ ((G.1 a 6).toInt) ≠ 0 ∧ (-3 : Int) = -3 ∧ G16.2.1 (F a 10) = (G.2.1 (F a 10))) ∨ (rOk (tM (G.2.1 (F a 35)) ((G.1 a 36).toInt)) ((G.1 a 36).toInt) ∧ ((G.1 a 6).toInt) = 0 ∧ (∀ i : Int, 0 ≤ i → i < 12 → aI (G.2.1 (F a 10)) (10 * i + 0) ≠ -1) ∧ (-3 : Int) = -4 ∧ G16.2.1 (F a 10) = (G.2.1 (F a 10))) ∨ (rOk (tM (G.2.1 (F a 35)) ((G.1 a 36).toInt)) ((G.1 a 36).toInt) ∧ ((G.1 a 6).toInt) = 0 ∧ ∃ (k : Int) (d g : Nat → Int32), ((0 ≤ k ∧ k ≤ 11) ∧ aI (G.2.1 (F a 10)) (10 * k + 0) = -1 ∧ ∀ i : Int, 0 ≤ i → i < k → aI (G.2.1 (F a 10)) (10 * i + 0) ≠ -1) ∧ DFo d (tM (G.2.1 (F a 35)) ((G.1 a 36).toInt)) ∧ CPd d (G.2.1 (F a 10)) g 0 (10 * k) 9 ∧ (((∃ s : Int, sbj (aI g (10 * k + 0)) s ∧ fzq g (mw (G.2.1 (F a 1)) 0) k s = 1) ∧ (-3 : Int) = -5 ∧ ∀ z : Int, 0 ≤ z → aI (G16.2.1 (F a 10)) z = if z = 10 * k then -1 else aI g z) ∨ ((∀ s : Int, sbj (aI g (10 * k + 0)) s → fzq g (mw (G.2.1 (F a 1)) 0) k s = 0) ∧ (-3 : Int) = k ∧ G16.2.1 (F a 10) = g))) := by
  have ok : rOk (tM (G.2.1 (F a 35)) ((G.1 a 36).toInt)) ((G.1 a 36).toInt) := oq10.mp (by omega)
  exact Or.inr (Or.inl ⟨ok, by omega, rfl, c_G16_F_a_10⟩)
theorem v_X11_rule_41_21 {F : Nat → Nat → Nat} (G : XG) (a : Nat) (G16 : XG)
    (hR : RV (G.2.1 (F a 10)))
    (c_G16_F_a_10 : G16.2.1 (F a 10) = G.2.1 (F a 10)) :
    RV (G16.2.1 (F a 10)) := by
  rw [c_G16_F_a_10]; exact hR
theorem v_X11_rule_23_22 {F : Nat → Nat → Nat} (x10 : Int32) (G : XG) (a : Nat) (G10 : XG)
    (oq10 : (x10.toInt ≠ 0 ↔ rOk (tM (G.2.1 (F a 35)) ((G.1 a 36).toInt)) ((G.1 a 36).toInt)))
    (oq10a : (¬ rOk (tM (G.2.1 (F a 35)) ((G.1 a 36).toInt)) ((G.1 a 36).toInt) → ((G10.1 a 38).toInt) = (rS9 (tM (G.2.1 (F a 35)) ((G.1 a 36).toInt))).2.2 ∧ 0 ≤ (rS9 (tM (G.2.1 (F a 35)) ((G.1 a 36).toInt))).2.2 ∧ (rS9 (tM (G.2.1 (F a 35)) ((G.1 a 36).toInt))).2.2 ≤ ((G.1 a 36).toInt)))
    (nt0 : 0 ≤ ((G.1 a 36).toInt) ∧ ((G.1 a 36).toInt) ≤ 80)
    (c20 : ¬ (x10.toInt ≠ 0)) :
    0 ≤ ((G10.1 a 38).toInt) ∧ ((G10.1 a 38).toInt) ≤ 80 := by
  have nk : ¬ rOk (tM (G.2.1 (F a 35)) ((G.1 a 36).toInt)) ((G.1 a 36).toInt) := fun h => oq10.mpr h (by omega)
  have pl := oq10a nk
  omega
theorem v_X11_rule_31_23 (G16 : XG) (a : Nat)
    (d_G16_a_36 : G16.1 a 36 = 0) :
    ((G16.1 a 36).toInt) = 0 := by
  rw [d_G16_a_36]; rfl
theorem v_X11_rule_31_24 {F : Nat → Nat → Nat} (G : XG) (a : Nat) (x10 : Int32) (G10 : XG) (G16 : XG)
    (oq10 : (x10.toInt ≠ 0 ↔ rOk (tM (G.2.1 (F a 35)) ((G.1 a 36).toInt)) ((G.1 a 36).toInt)))
    (oq10a : (¬ rOk (tM (G.2.1 (F a 35)) ((G.1 a 36).toInt)) ((G.1 a 36).toInt) → ((G10.1 a 38).toInt) = (rS9 (tM (G.2.1 (F a 35)) ((G.1 a 36).toInt))).2.2 ∧ 0 ≤ (rS9 (tM (G.2.1 (F a 35)) ((G.1 a 36).toInt))).2.2 ∧ (rS9 (tM (G.2.1 (F a 35)) ((G.1 a 36).toInt))).2.2 ≤ ((G.1 a 36).toInt)))
    (nt0 : 0 ≤ ((G.1 a 36).toInt) ∧ ((G.1 a 36).toInt) ≤ 80)
    (c20 : ¬ (x10.toInt ≠ 0))
    (c_G16_F_a_10 : G16.2.1 (F a 10) = G.2.1 (F a 10)) :
    (¬ rOk (tM (G.2.1 (F a 35)) ((G.1 a 36).toInt)) ((G.1 a 36).toInt) ∧ ((-1000 : Int) - ((G10.1 a 38).toInt)) = -1000 - (rS9 (tM (G.2.1 (F a 35)) ((G.1 a 36).toInt))).2.2 ∧ G16.2.1 (F a 10) = (G.2.1 (F a 10))) ∨ (rOk (tM (G.2.1 (F a 35)) ((G.1 a 36).toInt)) ((G.1 a 36).toInt) ∧ ((G.1 a 6).toInt) ≠ 0 ∧ ((-1000 : Int) - ((G10.1 a 38).toInt)) = -3 ∧ G16.2.1 (F a 10) = (G.2.1 (F a 10))) ∨ (rOk (tM (G.2.1 (F a 35)) ((G.1 a 36).toInt)) ((G.1 a 36).toInt) ∧ ((G.1 a 6).toInt) = 0 ∧ (∀ i : Int, 0 ≤ i → i < 12 → aI (G.2.1 (F a 10)) (10 * i + 0) ≠ -1) ∧ ((-1000 : Int) - ((G10.1 a 38).toInt)) = -4 ∧ G16.2.1 (F a 10) = (G.2.1 (F a 10))) ∨ (rOk (tM (G.2.1 (F a 35)) ((G.1 a 36).toInt)) ((G.1 a 36).toInt) ∧ ((G.1 a 6).toInt) = 0 ∧ ∃ (k : Int) (d g : Nat → Int32), ((0 ≤ k ∧ k ≤ 11) ∧ aI (G.2.1 (F a 10)) (10 * k + 0) = -1 ∧ ∀ i : Int, 0 ≤ i → i < k → aI (G.2.1 (F a 10)) (10 * i + 0) ≠ -1) ∧ DFo d (tM (G.2.1 (F a 35)) ((G.1 a 36).toInt)) ∧ CPd d (G.2.1 (F a 10)) g 0 (10 * k) 9 ∧ (((∃ s : Int, sbj (aI g (10 * k + 0)) s ∧ fzq g (mw (G.2.1 (F a 1)) 0) k s = 1) ∧ ((-1000 : Int) - ((G10.1 a 38).toInt)) = -5 ∧ ∀ z : Int, 0 ≤ z → aI (G16.2.1 (F a 10)) z = if z = 10 * k then -1 else aI g z) ∨ ((∀ s : Int, sbj (aI g (10 * k + 0)) s → fzq g (mw (G.2.1 (F a 1)) 0) k s = 0) ∧ ((-1000 : Int) - ((G10.1 a 38).toInt)) = k ∧ G16.2.1 (F a 10) = g))) := by
  have nk : ¬ rOk (tM (G.2.1 (F a 35)) ((G.1 a 36).toInt)) ((G.1 a 36).toInt) := fun h => oq10.mpr h (by omega)
  have pl := oq10a nk
  exact Or.inl ⟨nk, by omega, c_G16_F_a_10⟩
theorem v_X11_rule_31_25 {F : Nat → Nat → Nat} (G : XG) (a : Nat) (G16 : XG)
    (hR : RV (G.2.1 (F a 10)))
    (c_G16_F_a_10 : G16.2.1 (F a 10) = G.2.1 (F a 10)) :
    RV (G16.2.1 (F a 10)) := by
  rw [c_G16_F_a_10]; exact hR
