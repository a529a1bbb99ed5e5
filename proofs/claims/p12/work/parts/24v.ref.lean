theorem v_X11_firstFailing_43_1 {K : Nat → Nat} {F : Nat → Nat → Nat} (a : Nat) (G : XG) (l1_2 : Int32) (N2 : Nat)
    (ha : K a = 13)
    (pf : ∀ j : Int, 0 ≤ j → j < l1_2.toInt → fzq (G.2.1 (F a 10)) (mw (G.2.1 (F a 1)) 0) (aI (G.2.1 (F a 17)) j) (aI (G.2.1 (F a 18)) j) = 0)
    (s0 : 0 ≤ ((G.1 a 19).toInt) ∧ ((G.1 a 19).toInt) ≤ 2400)
    (I2_0 : 0 ≤ l1_2.toInt ∧ l1_2.toInt ≤ ((G.1 a 19).toInt))
    (I2_1 : (0 : Int) ≤ l1_2.toInt)
    (hm2 : 2147483648 - l1_2.toInt < (((N2) + 1 : Nat) : Int))
    (c7 : ((G.1 a 19).toInt) ≤ l1_2.toInt) :
    (-1 : Int) = ffP (G.2.1 (F a 10)) (mw (G.2.1 (F a 1)) 0) (pL G F a) := by
  first
    | exact ffP_eq (Or.inl rfl) (fun j h1 h2 _ => pf j h1 (by omega))
    | (refine ffP_eq (Or.inr ⟨by omega, by omega, ?_⟩) (fun j h1 h2 h3 => pf j h1 (by omega))
       have h01 := flq01 (mw (G.2.1 (F a 1)) 0) (aI (G.2.1 (F a 10)) (10 * aI (G.2.1 (F a 17)) l1_2.toInt + 0)) (aI (G.2.1 (F a 10)) (10 * aI (G.2.1 (F a 17)) l1_2.toInt + 1)) (aI (G.2.1 (F a 10)) (10 * aI (G.2.1 (F a 17)) l1_2.toInt + 2)) (aI (G.2.1 (F a 10)) (10 * aI (G.2.1 (F a 17)) l1_2.toInt + 4)) (aI (G.2.1 (F a 10)) (10 * aI (G.2.1 (F a 17)) l1_2.toInt + 5)) (aI (G.2.1 (F a 18)) l1_2.toInt) (stt (mw (G.2.1 (F a 1)) 0) (aI (G.2.1 (F a 10)) (10 * aI (G.2.1 (F a 17)) l1_2.toInt + 0)) (aI (G.2.1 (F a 10)) (10 * aI (G.2.1 (F a 17)) l1_2.toInt + 1)) (aI (G.2.1 (F a 10)) (10 * aI (G.2.1 (F a 17)) l1_2.toInt + 2)) (aI (G.2.1 (F a 10)) (10 * aI (G.2.1 (F a 17)) l1_2.toInt + 3)) (aI (G.2.1 (F a 18)) l1_2.toInt))
       show flq _ _ _ _ _ _ _ _ = 1
       omega)
theorem v_X11_firstFailing_28_2 {F : Nat → Nat → Nat} (a : Nat) (G : XG)
    (hR : RV (G.2.1 (F a 10))) :
    RV (G.2.1 (F a 10)) := by exact hR
theorem v_X11_firstFailing_28_3 {K : Nat → Nat} {F : Nat → Nat → Nat} (a : Nat) (G : XG) (l1_2 : Int32) (x16 : Int32) (x22 : Int32) (N2 : Nat)
    (ha : K a = 13)
    (hk9999 : K (F a 17) = 43)
    (hj9999 : F (F a 17) 99 = 17)
    (hk9999a : K (F a 18) = 44)
    (hj9999a : F (F a 18) 99 = 18)
    (hk9999b : K (F a 10) = 37)
    (hj9999b : F (F a 10) 99 = 10)
    (hk9999c : K (F a 1) = 30)
    (hj9999c : F (F a 1) 99 = 1)
    (hR : RV (G.2.1 (F a 10)))
    (hM : RM (G.2.1 (F a 1)) (0))
    (hv : PV (G.2.1 (F a 10)) (pL G F a))
    (pf : ∀ j : Int, 0 ≤ j → j < l1_2.toInt → fzq (G.2.1 (F a 10)) (mw (G.2.1 (F a 1)) 0) (aI (G.2.1 (F a 17)) j) (aI (G.2.1 (F a 18)) j) = 0)
    (hv16 : x16.toInt = (aI (G.2.1 (F a 17)) (l1_2.toInt)))
    (hv22 : x22.toInt = (aI (G.2.1 (F a 18)) (l1_2.toInt)))
    (s0 : 0 ≤ ((G.1 a 19).toInt) ∧ ((G.1 a 19).toInt) ≤ 2400)
    (I2_0 : 0 ≤ l1_2.toInt ∧ l1_2.toInt ≤ ((G.1 a 19).toInt))
    (I2_1 : (0 : Int) ≤ l1_2.toInt)
    (hm2 : 2147483648 - l1_2.toInt < (((N2) + 1 : Nat) : Int))
    (c7 : ¬ (((G.1 a 19).toInt) ≤ l1_2.toInt))
    (z10 : (0 ≤ (aI (G.2.1 (F a 17)) (l1_2.toInt)) ∧ (aI (G.2.1 (F a 17)) (l1_2.toInt)) ≤ 11) ∧ (aI (G.2.1 (F a 10)) (10 * (aI (G.2.1 (F a 17)) (l1_2.toInt)) + 0)) ≠ -1 ∧ ((sF (aI (G.2.1 (F a 10)) (10 * (aI (G.2.1 (F a 17)) (l1_2.toInt)) + 0))) ≤ (aI (G.2.1 (F a 18)) (l1_2.toInt)) ∧ (aI (G.2.1 (F a 18)) (l1_2.toInt)) ≤ (sL (aI (G.2.1 (F a 10)) (10 * (aI (G.2.1 (F a 17)) (l1_2.toInt)) + 0))))) :
    RM (G.2.1 (F a 1)) (0 : Int) := by
  first | assumption | omega
theorem v_X11_firstFailing_39_4 {K : Nat → Nat} {F : Nat → Nat → Nat} (a : Nat) (G : XG) (l1_2 : Int32) (N2 : Nat) (x28 : Int32)
    (ha : K a = 13)
    (pf : ∀ j : Int, 0 ≤ j → j < l1_2.toInt → fzq (G.2.1 (F a 10)) (mw (G.2.1 (F a 1)) 0) (aI (G.2.1 (F a 17)) j) (aI (G.2.1 (F a 18)) j) = 0)
    (s0 : 0 ≤ ((G.1 a 19).toInt) ∧ ((G.1 a 19).toInt) ≤ 2400)
    (I2_0 : 0 ≤ l1_2.toInt ∧ l1_2.toInt ≤ ((G.1 a 19).toInt))
    (I2_1 : (0 : Int) ≤ l1_2.toInt)
    (hm2 : 2147483648 - l1_2.toInt < (((N2) + 1 : Nat) : Int))
    (c7 : ¬ (((G.1 a 19).toInt) ≤ l1_2.toInt))
    (z10 : (0 ≤ (aI (G.2.1 (F a 17)) (l1_2.toInt)) ∧ (aI (G.2.1 (F a 17)) (l1_2.toInt)) ≤ 11) ∧ (aI (G.2.1 (F a 10)) (10 * (aI (G.2.1 (F a 17)) (l1_2.toInt)) + 0)) ≠ -1 ∧ ((sF (aI (G.2.1 (F a 10)) (10 * (aI (G.2.1 (F a 17)) (l1_2.toInt)) + 0))) ≤ (aI (G.2.1 (F a 18)) (l1_2.toInt)) ∧ (aI (G.2.1 (F a 18)) (l1_2.toInt)) ≤ (sL (aI (G.2.1 (F a 10)) (10 * (aI (G.2.1 (F a 17)) (l1_2.toInt)) + 0)))))
    (t28 : x28.toInt = (flq (mw (G.2.1 (F a 1)) 0) (aI (G.2.1 (F a 10)) (10 * (aI (G.2.1 (F a 17)) (l1_2.toInt)) + 0)) (aI (G.2.1 (F a 10)) (10 * (aI (G.2.1 (F a 17)) (l1_2.toInt)) + 1)) (aI (G.2.1 (F a 10)) (10 * (aI (G.2.1 (F a 17)) (l1_2.toInt)) + 2)) (aI (G.2.1 (F a 10)) (10 * (aI (G.2.1 (F a 17)) (l1_2.toInt)) + 4)) (aI (G.2.1 (F a 10)) (10 * (aI (G.2.1 (F a 17)) (l1_2.toInt)) + 5)) (aI (G.2.1 (F a 18)) (l1_2.toInt)) (stt (mw (G.2.1 (F a 1)) 0) (aI (G.2.1 (F a 10)) (10 * (aI (G.2.1 (F a 17)) (l1_2.toInt)) + 0)) (aI (G.2.1 (F a 10)) (10 * (aI (G.2.1 (F a 17)) (l1_2.toInt)) + 1)) (aI (G.2.1 (F a 10)) (10 * (aI (G.2.1 (F a 17)) (l1_2.toInt)) + 2)) (aI (G.2.1 (F a 10)) (10 * (aI (G.2.1 (F a 17)) (l1_2.toInt)) + 3)) (aI (G.2.1 (F a 18)) (l1_2.toInt)))))
    (f23 : x28.toInt = 0 ∨ x28.toInt = 1)
    (c31 : x28.toInt = 0) :
    ∀ j : Int, 0 ≤ j → j < (l1_2.toInt + 1) → fzq (G.2.1 (F a 10)) (mw (G.2.1 (F a 1)) 0) (aI (G.2.1 (F a 17)) j) (aI (G.2.1 (F a 18)) j) = 0 := by
  intro j h1 h2
  by_cases e : j = l1_2.toInt
  · subst e
    show flq _ _ _ _ _ _ _ _ = 0
    omega
  · exact pf j h1 (by omega)
theorem v_X11_firstFailing_35_5 {K : Nat → Nat} {F : Nat → Nat → Nat} (a : Nat) (G : XG) (l1_2 : Int32) (N2 : Nat) (x28 : Int32)
    (ha : K a = 13)
    (pf : ∀ j : Int, 0 ≤ j → j < l1_2.toInt → fzq (G.2.1 (F a 10)) (mw (G.2.1 (F a 1)) 0) (aI (G.2.1 (F a 17)) j) (aI (G.2.1 (F a 18)) j) = 0)
    (s0 : 0 ≤ ((G.1 a 19).toInt) ∧ ((G.1 a 19).toInt) ≤ 2400)
    (I2_0 : 0 ≤ l1_2.toInt ∧ l1_2.toInt ≤ ((G.1 a 19).toInt))
    (I2_1 : (0 : Int) ≤ l1_2.toInt)
    (hm2 : 2147483648 - l1_2.toInt < (((N2) + 1 : Nat) : Int))
    (c7 : ¬ (((G.1 a 19).toInt) ≤ l1_2.toInt))
    (z10 : (0 ≤ (aI (G.2.1 (F a 17)) (l1_2.toInt)) ∧ (aI (G.2.1 (F a 17)) (l1_2.toInt)) ≤ 11) ∧ (aI (G.2.1 (F a 10)) (10 * (aI (G.2.1 (F a 17)) (l1_2.toInt)) + 0)) ≠ -1 ∧ ((sF (aI (G.2.1 (F a 10)) (10 * (aI (G.2.1 (F a 17)) (l1_2.toInt)) + 0))) ≤ (aI (G.2.1 (F a 18)) (l1_2.toInt)) ∧ (aI (G.2.1 (F a 18)) (l1_2.toInt)) ≤ (sL (aI (G.2.1 (F a 10)) (10 * (aI (G.2.1 (F a 17)) (l1_2.toInt)) + 0)))))
    (t28 : x28.toInt = (flq (mw (G.2.1 (F a 1)) 0) (aI (G.2.1 (F a 10)) (10 * (aI (G.2.1 (F a 17)) (l1_2.toInt)) + 0)) (aI (G.2.1 (F a 10)) (10 * (aI (G.2.1 (F a 17)) (l1_2.toInt)) + 1)) (aI (G.2.1 (F a 10)) (10 * (aI (G.2.1 (F a 17)) (l1_2.toInt)) + 2)) (aI (G.2.1 (F a 10)) (10 * (aI (G.2.1 (F a 17)) (l1_2.toInt)) + 4)) (aI (G.2.1 (F a 10)) (10 * (aI (G.2.1 (F a 17)) (l1_2.toInt)) + 5)) (aI (G.2.1 (F a 18)) (l1_2.toInt)) (stt (mw (G.2.1 (F a 1)) 0) (aI (G.2.1 (F a 10)) (10 * (aI (G.2.1 (F a 17)) (l1_2.toInt)) + 0)) (aI (G.2.1 (F a 10)) (10 * (aI (G.2.1 (F a 17)) (l1_2.toInt)) + 1)) (aI (G.2.1 (F a 10)) (10 * (aI (G.2.1 (F a 17)) (l1_2.toInt)) + 2)) (aI (G.2.1 (F a 10)) (10 * (aI (G.2.1 (F a 17)) (l1_2.toInt)) + 3)) (aI (G.2.1 (F a 18)) (l1_2.toInt)))))
    (f22 : x28.toInt = 0 ∨ x28.toInt = 1)
    (c31 : ¬ (x28.toInt = 0)) :
    l1_2.toInt = ffP (G.2.1 (F a 10)) (mw (G.2.1 (F a 1)) 0) (pL G F a) := by
  first
    | exact ffP_eq (Or.inl rfl) (fun j h1 h2 _ => pf j h1 (by omega))
    | (refine ffP_eq (Or.inr ⟨by omega, by omega, ?_⟩) (fun j h1 h2 h3 => pf j h1 (by omega))
       have h01 := flq01 (mw (G.2.1 (F a 1)) 0) (aI (G.2.1 (F a 10)) (10 * aI (G.2.1 (F a 17)) l1_2.toInt + 0)) (aI (G.2.1 (F a 10)) (10 * aI (G.2.1 (F a 17)) l1_2.toInt + 1)) (aI (G.2.1 (F a 10)) (10 * aI (G.2.1 (F a 17)) l1_2.toInt + 2)) (aI (G.2.1 (F a 10)) (10 * aI (G.2.1 (F a 17)) l1_2.toInt + 4)) (aI (G.2.1 (F a 10)) (10 * aI (G.2.1 (F a 17)) l1_2.toInt + 5)) (aI (G.2.1 (F a 18)) l1_2.toInt) (stt (mw (G.2.1 (F a 1)) 0) (aI (G.2.1 (F a 10)) (10 * aI (G.2.1 (F a 17)) l1_2.toInt + 0)) (aI (G.2.1 (F a 10)) (10 * aI (G.2.1 (F a 17)) l1_2.toInt + 1)) (aI (G.2.1 (F a 10)) (10 * aI (G.2.1 (F a 17)) l1_2.toInt + 2)) (aI (G.2.1 (F a 10)) (10 * aI (G.2.1 (F a 17)) l1_2.toInt + 3)) (aI (G.2.1 (F a 18)) l1_2.toInt))
       show flq _ _ _ _ _ _ _ _ = 1
       omega)
theorem v_X11_firstFailing_1_6 {K : Nat → Nat} {F : Nat → Nat → Nat} (a : Nat) (G : XG)
    (ha : K a = 13)
    (s0 : 0 ≤ ((G.1 a 19).toInt) ∧ ((G.1 a 19).toInt) ≤ 2400) :
    ∀ j : Int, 0 ≤ j → j < (0 : Int) → fzq (G.2.1 (F a 10)) (mw (G.2.1 (F a 1)) 0) (aI (G.2.1 (F a 17)) j) (aI (G.2.1 (F a 18)) j) = 0 := by
  intro j h1 h2; exact absurd h1 (by omega)
theorem v_X11_findQueue_51_1 {K : Nat → Nat} {F : Nat → Nat → Nat} (a : Nat) (G2 : XG) (G : XG)
    (ha : K a = 13)
    (f21 : ((G.1 a 6).toInt) = 0 ∨ ((G.1 a 6).toInt) = 1)
    (c9 : ((G.1 a 6).toInt) = 0)
    (d_G2_a_19 : G2.1 a 19 = 0) :
    pL G2 F a = if ((G.1 a 6).toInt) = 0 then [] else fuO (G.2.1 (F a 10)) (mw (G.2.1 (F a 1)) 0) (mw (G.2.1 (F a 2)) 0) 1 := by
  first
    | (rw [if_neg (by omega), oq48]; rfl)
    | (rw [if_pos (by omega)]
       show lst _ (G2.1 a 19).toInt.toNat = []
       rw [d_G2_a_19]
       rfl)
theorem v_X11_findQueue_51_2 {F : Nat → Nat → Nat} (a : Nat) (G2 : XG) (G : XG)
    (c9 : ((G.1 a 6).toInt) = 0) :
    ((G.1 a 6).toInt) ≠ 0 → LSt (G.2.1 (F a 10)) (G2.2.1 (F a 11)) (mw (G.2.1 (F a 1)) 0) 12 ∧ LSt (G.2.1 (F a 10)) (G2.2.1 (F a 13)) (mw (G.2.1 (F a 2)) 0) 12 := by
  first
    | exact fun h => absurd c9 h
    | (intro _; rw [c_G48_F_a_11, c_G48_F_a_13]; exact ⟨oq22, oq35⟩)
theorem v_X11_findQueue_51_3 (a : Nat) (G2 : XG) (G : XG)
    (hG2 : G2 = dput G a 19 0) :
    G2.2.2.2 = G.2.2.2 := by
  first
    | (rw [hG2]; rfl)
    | (rw [oq48b, oq35a, oq22a, hG2]; rfl)
theorem v_X11_findQueue_22_4 {F : Nat → Nat → Nat} (a : Nat) (G2 : XG) (G : XG)
    (hR : RV (G.2.1 (F a 10)))
    (c_G2_F_a_10 : G2.2.1 (F a 10) = G.2.1 (F a 10)) :
    RV (G2.2.1 (F a 10)) := by simp only [c_G2_F_a_10]; assumption
theorem v_X11_findQueue_22_5 {F : Nat → Nat → Nat} (a : Nat) (G2 : XG) (G : XG)
    (hM : RM (G.2.1 (F a 1)) (0))
    (hB : RM (G.2.1 (F a 2)) 0)
    (c_G2_F_a_1 : G2.2.1 (F a 1) = G.2.1 (F a 1)) :
    RM (G2.2.1 (F a 1)) (0 : Int) := by simp only [c_G2_F_a_1]; assumption
theorem v_X11_findQueue_35_6 {F : Nat → Nat → Nat} (a : Nat) (G : XG) (G22 : XG)
    (hR : RV (G.2.1 (F a 10)))
    (c_G22_F_a_10 : G22.2.1 (F a 10) = G.2.1 (F a 10)) :
    RV (G22.2.1 (F a 10)) := by simp only [c_G22_F_a_10]; assumption
theorem v_X11_findQueue_35_7 {F : Nat → Nat → Nat} (a : Nat) (G : XG) (G22 : XG)
    (hM : RM (G.2.1 (F a 1)) (0))
    (hB : RM (G.2.1 (F a 2)) 0)
    (c_G22_F_a_2 : G22.2.1 (F a 2) = G.2.1 (F a 2)) :
    RM (G22.2.1 (F a 2)) (0 : Int) := by simp only [c_G22_F_a_2]; assumption
theorem v_X11_findQueue_48_8 {F : Nat → Nat → Nat} (a : Nat) (G : XG) (G35 : XG)
    (hR : RV (G.2.1 (F a 10)))
    (c_G35_F_a_10 : G35.2.1 (F a 10) = G.2.1 (F a 10)) :
    RV (G35.2.1 (F a 10)) := by simp only [c_G35_F_a_10]; assumption
theorem v_X11_findQueue_48_9 {F : Nat → Nat → Nat} (a : Nat) (G : XG) (G22 : XG) (G35 : XG)
    (oq22 : LSt (G.2.1 (F a 10)) (G22.2.1 (F a 11)) (mw (G.2.1 (F a 1)) (0 : Int)) 12)
    (oq35 : LSt (G.2.1 (F a 10)) (G35.2.1 (F a 13)) (mw (G.2.1 (F a 2)) (0 : Int)) 12)
    (c_G35_F_a_10 : G35.2.1 (F a 10) = G.2.1 (F a 10))
    (c_G35_F_a_11 : G35.2.1 (F a 11) = G22.2.1 (F a 11)) :
    LSt (G35.2.1 (F a 10)) (G35.2.1 (F a 11)) (mw (G.2.1 (F a 1)) 0) 12 := by simp only [c_G35_F_a_10, c_G35_F_a_11]; assumption
theorem v_X11_findQueue_48_10 {F : Nat → Nat → Nat} (a : Nat) (G : XG) (G22 : XG) (G35 : XG)
    (oq22 : LSt (G.2.1 (F a 10)) (G22.2.1 (F a 11)) (mw (G.2.1 (F a 1)) (0 : Int)) 12)
    (oq35 : LSt (G.2.1 (F a 10)) (G35.2.1 (F a 13)) (mw (G.2.1 (F a 2)) (0 : Int)) 12)
    (c_G35_F_a_10 : G35.2.1 (F a 10) = G.2.1 (F a 10)) :
    LSt (G35.2.1 (F a 10)) (G35.2.1 (F a 13)) (mw (G.2.1 (F a 2)) 0) 12 := by simp only [c_G35_F_a_10]; assumption
theorem v_X11_findQueue_51_11 {K : Nat → Nat} {F : Nat → Nat → Nat} (a : Nat) (G2 : XG) (G : XG) (G22 : XG) (G35 : XG) (G48 : XG)
    (ha : K a = 13)
    (oq22a : G22.2.2.2 = G2.2.2.2)
    (oq35a : G35.2.2.2 = G22.2.2.2)
    (oq48 : pL G48 F a = fuL (G.2.1 (F a 10)) (mw (G.2.1 (F a 1)) 0) (mw (G.2.1 (F a 2)) 0) (1 : Int) (ordN (prM (G.2.1 (F a 10))) (rkM (G.2.1 (F a 10))) 12).2 (ordN (prM (G.2.1 (F a 10))) (rkM (G.2.1 (F a 10))) 12).1)
    (oq48b : G48.2.2.2 = G35.2.2.2)
    (f31 : ((G.1 a 6).toInt) = 0 ∨ ((G.1 a 6).toInt) = 1)
    (c9 : ¬ (((G.1 a 6).toInt) = 0))
    (t48 : 0 ≤ ((G48.1 a 19).toInt) ∧ ((G48.1 a 19).toInt) ≤ 2388) :
    pL G48 F a = if ((G.1 a 6).toInt) = 0 then [] else fuO (G.2.1 (F a 10)) (mw (G.2.1 (F a 1)) 0) (mw (G.2.1 (F a 2)) 0) 1 := by
  first
    | (rw [if_neg (by omega), oq48]; rfl)
    | (rw [if_pos (by omega)]
       show lst _ (G2.1 a 19).toInt.toNat = []
       rw [d_G2_a_19]
       rfl)
theorem v_X11_findQueue_51_12 {F : Nat → Nat → Nat} (a : Nat) (G : XG) (G22 : XG) (G35 : XG) (G48 : XG)
    (oq22 : LSt (G.2.1 (F a 10)) (G22.2.1 (F a 11)) (mw (G.2.1 (F a 1)) (0 : Int)) 12)
    (oq35 : LSt (G.2.1 (F a 10)) (G35.2.1 (F a 13)) (mw (G.2.1 (F a 2)) (0 : Int)) 12)
    (c9 : ¬ (((G.1 a 6).toInt) = 0))
    (c_G48_F_a_11 : G48.2.1 (F a 11) = G22.2.1 (F a 11))
    (c_G48_F_a_13 : G48.2.1 (F a 13) = G35.2.1 (F a 13)) :
    ((G.1 a 6).toInt) ≠ 0 → LSt (G.2.1 (F a 10)) (G48.2.1 (F a 11)) (mw (G.2.1 (F a 1)) 0) 12 ∧ LSt (G.2.1 (F a 10)) (G48.2.1 (F a 13)) (mw (G.2.1 (F a 2)) 0) 12 := by
  first
    | exact fun h => absurd c9 h
    | (intro _; rw [c_G48_F_a_11, c_G48_F_a_13]; exact ⟨oq22, oq35⟩)
theorem v_X11_findQueue_51_13 (a : Nat) (G2 : XG) (G : XG) (G22 : XG) (G35 : XG) (G48 : XG)
    (hG2 : G2 = dput G a 19 0)
    (oq22a : G22.2.2.2 = G2.2.2.2)
    (oq35a : G35.2.2.2 = G22.2.2.2)
    (oq48b : G48.2.2.2 = G35.2.2.2) :
    G48.2.2.2 = G.2.2.2 := by
  first
    | (rw [hG2]; rfl)
    | (rw [oq48b, oq35a, oq22a, hG2]; rfl)
theorem v_X11_queueMany_1_1 {F : Nat → Nat → Nat} (a : Nat) (G : XG)
    (hR : RV (G.2.1 (F a 10))) :
    RV (G.2.1 (F a 10)) := by exact hR
theorem v_X11_queueMany_1_2 {F : Nat → Nat → Nat} (a : Nat) (G : XG)
    (hM : RM (G.2.1 (F a 1)) (0)) :
    RM (G.2.1 (F a 1)) (0) := by exact hM
theorem v_X11_queueMany_1_3 {F : Nat → Nat → Nat} (a : Nat) (G : XG)
    (hB : RM (G.2.1 (F a 2)) 0) :
    RM (G.2.1 (F a 2)) 0 := by exact hB
theorem v_X11_queueMany_8_4 {F : Nat → Nat → Nat} (a : Nat) (G : XG) (G1 : XG)
    (oq1 : pL G1 F a = if ((G.1 a 6).toInt) = 0 then [] else fuO (G.2.1 (F a 10)) (mw (G.2.1 (F a 1)) 0) (mw (G.2.1 (F a 2)) 0) 1) :
    pL G1 F a = if ((G.1 a 6).toInt) = 0 then [] else fuO (G.2.1 (F a 10)) (mw (G.2.1 (F a 1)) 0) (mw (G.2.1 (F a 2)) 0) 1 := by
  exact oq1
theorem v_X11_queueMany_8_5 (a : Nat) (G1 : XG) :
    ((G1.1 a 19).toInt) = ((G1.1 a 19).toInt) := by
  rfl
theorem v_X11_asks_10_1 {F : Nat → Nat → Nat} (a : Nat) (G : XG)
    (hR : RV (G.2.1 (F a 10))) :
    RV (G.2.1 (F a 10)) := by exact hR
theorem v_X11_asks_10_2 {F : Nat → Nat → Nat} (a : Nat) (G : XG) (r1 : Int → Int)
    (h1 : LSt (G.2.1 (F a 10)) (G.2.1 (F a 12)) r1 12) :
    LSt (G.2.1 (F a 10)) (G.2.1 (F a 12)) r1 12 := by exact h1
theorem v_X11_asks_10_3 {F : Nat → Nat → Nat} (a : Nat) (G : XG)
    (h2 : LSt (G.2.1 (F a 10)) (G.2.1 (F a 11)) (mw (G.2.1 (F a 1)) 0) 12) :
    LSt (G.2.1 (F a 10)) (G.2.1 (F a 11)) (mw (G.2.1 (F a 1)) 0) 12 := by exact h2
theorem v_X11_asks_14_4 {F : Nat → Nat → Nat} (a : Nat) (G : XG) (G10 : XG)
    (hR : RV (G.2.1 (F a 10)))
    (c_G10_F_a_10 : G10.2.1 (F a 10) = G.2.1 (F a 10)) :
    RV (G10.2.1 (F a 10)) := by simp only [c_G10_F_a_10]; assumption
theorem v_X11_asks_14_5 {F : Nat → Nat → Nat} (a : Nat) (G : XG) (G10 : XG)
    (hM : RM (G.2.1 (F a 1)) (0))
    (c_G10_F_a_1 : G10.2.1 (F a 1) = G.2.1 (F a 1)) :
    RM (G10.2.1 (F a 1)) (0) := by simp only [c_G10_F_a_1]; assumption
theorem v_X11_asks_14_6 {F : Nat → Nat → Nat} (a : Nat) (G : XG) (G10 : XG) (r1 : Int → Int) (p0 : Int32)
    (oq10 : pL G10 F a = fuL (G.2.1 (F a 10)) r1 (mw (G.2.1 (F a 1)) 0) p0.toInt (ordN (prM (G.2.1 (F a 10))) (rkM (G.2.1 (F a 10))) 12).2 (ordN (prM (G.2.1 (F a 10))) (rkM (G.2.1 (F a 10))) 12).1)
    (c_G10_F_a_10 : G10.2.1 (F a 10) = G.2.1 (F a 10)) :
    PV (G10.2.1 (F a 10)) (pL G10 F a) := by
  rw [oq10, c_G10_F_a_10]; exact fuO_pv (G.2.1 (F a 10)) r1 (mw (G.2.1 (F a 1)) 0) p0.toInt
theorem v_X11_asks_17_7 {F : Nat → Nat → Nat} (a : Nat) (G : XG) (G10 : XG) (r1 : Int → Int) (p0 : Int32)
    (oq10 : pL G10 F a = fuL (G.2.1 (F a 10)) r1 (mw (G.2.1 (F a 1)) 0) p0.toInt (ordN (prM (G.2.1 (F a 10))) (rkM (G.2.1 (F a 10))) 12).2 (ordN (prM (G.2.1 (F a 10))) (rkM (G.2.1 (F a 10))) 12).1) :
    pL G10 F a = fuO (G.2.1 (F a 10)) r1 (mw (G.2.1 (F a 1)) 0) p0.toInt := by
  exact oq10
theorem v_X11_asks_17_8 {F : Nat → Nat → Nat} (a : Nat) (G : XG) (G10 : XG) (x14 : Int32)
    (oq14 : x14.toInt = ffP (G.2.1 (F a 10)) (mw (G.2.1 (F a 1)) 0) (pL G10 F a)) :
    x14.toInt = ffP (G.2.1 (F a 10)) (mw (G.2.1 (F a 1)) 0) (pL G10 F a) := by
  exact oq14
theorem v_X11_asks_17_9 {K : Nat → Nat} {F : Nat → Nat → Nat} (a : Nat) (G : XG) (G10 : XG) (x14 : Int32)
    (ha : K a = 13)
    (oq10b : G10.2.2.2 = G.2.2.2)
    (oq14 : x14.toInt = ffP (G.2.1 (F a 10)) (mw (G.2.1 (F a 1)) 0) (pL G10 F a))
    (t10 : 0 ≤ ((G10.1 a 19).toInt) ∧ ((G10.1 a 19).toInt) ≤ 2388)
    (t14 : -1 ≤ x14.toInt ∧ x14.toInt < ((G10.1 a 19).toInt)) :
    0 ≤ ((G10.1 a 19).toInt) ∧ ((G10.1 a 19).toInt) ≤ 2388 ∧ x14.toInt < ((G10.1 a 19).toInt) := by
  omega
theorem v_X11_start_10_1 {K : Nat → Nat} {F : Nat → Nat → Nat} (a : Nat) (G : XG)
    (ha : K a = 13)
    (hk9999 : K (F a 4) = 31)
    (hj9999 : F (F a 4) 99 = 4)
    (hk9999a : K (F a 12) = 38)
    (hj9999a : F (F a 12) 99 = 12)
    (hk9999b : K (F a 10) = 37)
    (hj9999b : F (F a 10) 99 = 10)
    (hk9999c : K (F a 1) = 30)
    (hj9999c : F (F a 1) 99 = 1)
    (hR : RV (G.2.1 (F a 10)))
    (hM : RM (G.2.1 (F a 1)) (0)) :
    (F a 1) ≠ (F a 4) := by
  intro e
  have h1 : K (F a 1) = 30 := by assumption
  have h2 : K (F a 4) = 31 := by assumption
  rw [e, h2] at h1
  exact absurd h1 (by decide)
theorem v_X11_start_23_2 {F : Nat → Nat → Nat} (a : Nat) (G : XG) (G10 : XG)
    (hR : RV (G.2.1 (F a 10)))
    (c_G10_F_a_10 : G10.2.1 (F a 10) = G.2.1 (F a 10)) :
    RV (G10.2.1 (F a 10)) := by simp only [c_G10_F_a_10]; assumption
theorem v_X11_start_23_3 {F : Nat → Nat → Nat} (a : Nat) (G : XG) (G10 : XG)
    (hM : RM (G.2.1 (F a 1)) (0))
    (c_G10_F_a_1 : G10.2.1 (F a 1) = G.2.1 (F a 1)) :
    RM (G10.2.1 (F a 1)) (0 : Int) := by simp only [c_G10_F_a_1]; assumption
theorem v_X11_start_26_4 {F : Nat → Nat → Nat} (a : Nat) (G : XG) (G10 : XG) (G23 : XG)
    (oq10 : CPd (G.2.1 (F a 1)) (G.2.1 (F a 4)) (G10.2.1 (F a 4)) (0 : Int) (0 : Int) 360)
    (c_G23_F_a_4 : G23.2.1 (F a 4) = G10.2.1 (F a 4)) :
    mw (G23.2.1 (F a 4)) 0 = mw (G.2.1 (F a 1)) 0 := by
  rw [c_G23_F_a_4]; exact CPd.vwm oq10 (by decide)
theorem v_X11_start_26_5 {F : Nat → Nat → Nat} (a : Nat) (G : XG) (G10 : XG) (G23 : XG)
    (hM : RM (G.2.1 (F a 1)) (0))
    (oq10 : CPd (G.2.1 (F a 1)) (G.2.1 (F a 4)) (G10.2.1 (F a 4)) (0 : Int) (0 : Int) 360)
    (c_G23_F_a_4 : G23.2.1 (F a 4) = G10.2.1 (F a 4)) :
    RM (G23.2.1 (F a 4)) 0 := by
  rw [c_G23_F_a_4]; exact CPd.rm oq10 (by decide) hM
theorem v_X11_start_26_6 {F : Nat → Nat → Nat} (a : Nat) (G : XG) (G23 : XG)
    (oq23 : LSt (G.2.1 (F a 10)) (G23.2.1 (F a 12)) (mw (G.2.1 (F a 1)) (0 : Int)) 12) :
    LSt (G.2.1 (F a 10)) (G23.2.1 (F a 12)) (mw (G.2.1 (F a 1)) 0) 12 := by
  exact oq23
