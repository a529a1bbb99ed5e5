theorem v_X11_value_4_1 {K : Nat → Nat} {F : Nat → Nat → Nat} (a : Nat) (G : XG) (p0 : Int32) (p1 : Int32)
    (ha : K a = 13)
    (hk9999 : K (F a 1) = 30)
    (hj9999 : F (F a 1) 99 = 1)
    (hM : RM (G.2.1 (F a 1)) (0))
    (z0 : ¬ (0 ≤ p0.toInt ∧ p0.toInt < 3 ∧ 0 ≤ p1.toInt ∧ p1.toInt < 30) → (cel (mw (G.2.1 (F a 1)) 0) (p0.toInt) (p1.toInt) 0) = -2000) :
    RM (G.2.1 (F a 1)) 0 := by
  first | assumption | omega
theorem v_X11_value_50_2 (a : Nat) (G22 : XG) (G : XG)
    (hG22 : G22 = dput G a 0 1) :
    G22.2.2.2 = G.2.2.2 := by
  rw [hG22]; rfl
theorem v_X11_value_50_3 (a : Nat) (G22 : XG) (G : XG)
    (hG22 : G22 = dput G a 0 1) :
    G22.2.2.2 = G.2.2.2 := by
  rw [hG22]; rfl
theorem v_X11_value_50_4 (a : Nat) (G22 : XG) (G : XG)
    (hG22 : G22 = dput G a 0 0) :
    G22.2.2.2 = G.2.2.2 := by
  rw [hG22]; rfl
theorem v_X11_told_50_1 {K : Nat → Nat} {F : Nat → Nat → Nat} (a : Nat) (G : XG) (x7 : Int32) (p0 : Int32) (p1 : Int32)
    (ha : K a = 13)
    (t7 : (x7.toInt = 1 ∧ 0 ≤ p0.toInt ∧ p0.toInt ≤ 11 ∧ (aI (G.2.1 (F a 10)) (10 * p0.toInt + 0)) ≠ -1) ∨ (x7.toInt = 0 ∧ (¬ (0 ≤ p0.toInt ∧ p0.toInt ≤ 11) ∨ (aI (G.2.1 (F a 10)) (10 * p0.toInt + 0)) = -1)))
    (c10 : x7.toInt = 0) :
    (¬ (0 ≤ p0.toInt ∧ p0.toInt ≤ 11 ∧ aI (G.2.1 (F a 10)) (10 * p0.toInt + 0) ≠ -1) ∧ (-2147483648 : Int) = -2147483648) ∨ ((0 ≤ p0.toInt ∧ p0.toInt ≤ 11 ∧ aI (G.2.1 (F a 10)) (10 * p0.toInt + 0) ≠ -1) ∧ (-2147483648 : Int) = tdM (G.2.1 (F a 10)) p0.toInt (cnP (if ((G.1 a 6).toInt) = 0 then [] else fuO (G.2.1 (F a 10)) (mw (G.2.1 (F a 1)) 0) (mw (G.2.1 (F a 2)) 0) 1) p0.toInt) p1.toInt) := by
  first
    | exact Or.inl ⟨by omega, rfl⟩
    | exact Or.inr ⟨by omega, (tdM_o (by omega)).symm⟩
    | exact Or.inr ⟨by omega, (tdM_i (by omega)).symm⟩
    | exact Or.inr ⟨by omega, (by rw [tdM_9 (by omega), ← oq38]; exact oq38a)⟩
theorem v_X11_told_50_2 {K : Nat → Nat} {F : Nat → Nat → Nat} (a : Nat) (G : XG) (p0 : Int32) (p1 : Int32) (x7 : Int32) (x19 : Int32)
    (ha : K a = 13)
    (t7 : (x7.toInt = 1 ∧ 0 ≤ p0.toInt ∧ p0.toInt ≤ 11 ∧ (aI (G.2.1 (F a 10)) (10 * p0.toInt + 0)) ≠ -1) ∨ (x7.toInt = 0 ∧ (¬ (0 ≤ p0.toInt ∧ p0.toInt ≤ 11) ∨ (aI (G.2.1 (F a 10)) (10 * p0.toInt + 0)) = -1)))
    (c10 : ¬ (x7.toInt = 0))
    (t19 : (x19.toInt = 1 ∧ (0 : Int) ≤ p1.toInt ∧ p1.toInt ≤ (9 : Int)) ∨ (x19.toInt = 0 ∧ (p1.toInt < (0 : Int) ∨ (9 : Int) < p1.toInt)))
    (c22 : x19.toInt ≠ 0)
    (c33 : p1.toInt ≠ (9 : Int)) :
    (¬ (0 ≤ p0.toInt ∧ p0.toInt ≤ 11 ∧ aI (G.2.1 (F a 10)) (10 * p0.toInt + 0) ≠ -1) ∧ (aI (G.2.1 (F a 10)) (10 * p0.toInt + p1.toInt)) = -2147483648) ∨ ((0 ≤ p0.toInt ∧ p0.toInt ≤ 11 ∧ aI (G.2.1 (F a 10)) (10 * p0.toInt + 0) ≠ -1) ∧ (aI (G.2.1 (F a 10)) (10 * p0.toInt + p1.toInt)) = tdM (G.2.1 (F a 10)) p0.toInt (cnP (if ((G.1 a 6).toInt) = 0 then [] else fuO (G.2.1 (F a 10)) (mw (G.2.1 (F a 1)) 0) (mw (G.2.1 (F a 2)) 0) 1) p0.toInt) p1.toInt) := by
  first
    | exact Or.inl ⟨by omega, rfl⟩
    | exact Or.inr ⟨by omega, (tdM_o (by omega)).symm⟩
    | exact Or.inr ⟨by omega, (tdM_i (by omega)).symm⟩
    | exact Or.inr ⟨by omega, (by rw [tdM_9 (by omega), ← oq38]; exact oq38a)⟩
theorem v_X11_told_38_3 {F : Nat → Nat → Nat} (a : Nat) (G2 : XG) (G : XG)
    (hR : RV (G.2.1 (F a 10)))
    (c_G2_F_a_10 : G2.2.1 (F a 10) = G.2.1 (F a 10)) :
    RV (G2.2.1 (F a 10)) := by simp only [c_G2_F_a_10]; assumption
theorem v_X11_told_38_4 {F : Nat → Nat → Nat} (a : Nat) (G2 : XG) (G : XG)
    (hM : RM (G.2.1 (F a 1)) (0))
    (hB : RM (G.2.1 (F a 2)) 0)
    (c_G2_F_a_1 : G2.2.1 (F a 1) = G.2.1 (F a 1)) :
    RM (G2.2.1 (F a 1)) (0) := by simp only [c_G2_F_a_1]; assumption
theorem v_X11_told_38_5 {F : Nat → Nat → Nat} (a : Nat) (G2 : XG) (G : XG)
    (hM : RM (G.2.1 (F a 1)) (0))
    (hB : RM (G.2.1 (F a 2)) 0)
    (c_G2_F_a_2 : G2.2.1 (F a 2) = G.2.1 (F a 2)) :
    RM (G2.2.1 (F a 2)) 0 := by simp only [c_G2_F_a_2]; assumption
theorem v_X11_told_50_6 {K : Nat → Nat} {F : Nat → Nat → Nat} (a : Nat) (G : XG) (G38 : XG) (x38 : Int32) (p0 : Int32) (x7 : Int32) (x19 : Int32) (p1 : Int32)
    (ha : K a = 13)
    (oq38 : pL G38 F a = if ((G.1 a 6).toInt) = 0 then [] else fuO (G.2.1 (F a 10)) (mw (G.2.1 (F a 1)) 0) (mw (G.2.1 (F a 2)) 0) 1)
    (oq38a : x38.toInt = cnP (pL G38 F a) p0.toInt)
    (t7 : (x7.toInt = 1 ∧ 0 ≤ p0.toInt ∧ p0.toInt ≤ 11 ∧ (aI (G.2.1 (F a 10)) (10 * p0.toInt + 0)) ≠ -1) ∨ (x7.toInt = 0 ∧ (¬ (0 ≤ p0.toInt ∧ p0.toInt ≤ 11) ∨ (aI (G.2.1 (F a 10)) (10 * p0.toInt + 0)) = -1)))
    (c10 : ¬ (x7.toInt = 0))
    (t19 : (x19.toInt = 1 ∧ (0 : Int) ≤ p1.toInt ∧ p1.toInt ≤ (9 : Int)) ∨ (x19.toInt = 0 ∧ (p1.toInt < (0 : Int) ∨ (9 : Int) < p1.toInt)))
    (c22 : x19.toInt ≠ 0)
    (c33 : ¬ (p1.toInt ≠ (9 : Int)))
    (t38 : 0 ≤ x38.toInt ∧ x38.toInt ≤ 2388 ∧ 0 ≤ ((G38.1 a 19).toInt) ∧ ((G38.1 a 19).toInt) ≤ 2388) :
    (¬ (0 ≤ p0.toInt ∧ p0.toInt ≤ 11 ∧ aI (G.2.1 (F a 10)) (10 * p0.toInt + 0) ≠ -1) ∧ x38.toInt = -2147483648) ∨ ((0 ≤ p0.toInt ∧ p0.toInt ≤ 11 ∧ aI (G.2.1 (F a 10)) (10 * p0.toInt + 0) ≠ -1) ∧ x38.toInt = tdM (G.2.1 (F a 10)) p0.toInt (cnP (if ((G.1 a 6).toInt) = 0 then [] else fuO (G.2.1 (F a 10)) (mw (G.2.1 (F a 1)) 0) (mw (G.2.1 (F a 2)) 0) 1) p0.toInt) p1.toInt) := by
  first
    | exact Or.inl ⟨by omega, rfl⟩
    | exact Or.inr ⟨by omega, (tdM_o (by omega)).symm⟩
    | exact Or.inr ⟨by omega, (tdM_i (by omega)).symm⟩
    | exact Or.inr ⟨by omega, (by rw [tdM_9 (by omega), ← oq38]; exact oq38a)⟩
theorem v_X11_told_50_7 {K : Nat → Nat} {F : Nat → Nat → Nat} (a : Nat) (G : XG) (x7 : Int32) (p0 : Int32) (x19 : Int32) (p1 : Int32)
    (ha : K a = 13)
    (t7 : (x7.toInt = 1 ∧ 0 ≤ p0.toInt ∧ p0.toInt ≤ 11 ∧ (aI (G.2.1 (F a 10)) (10 * p0.toInt + 0)) ≠ -1) ∨ (x7.toInt = 0 ∧ (¬ (0 ≤ p0.toInt ∧ p0.toInt ≤ 11) ∨ (aI (G.2.1 (F a 10)) (10 * p0.toInt + 0)) = -1)))
    (c10 : ¬ (x7.toInt = 0))
    (t19 : (x19.toInt = 1 ∧ (0 : Int) ≤ p1.toInt ∧ p1.toInt ≤ (9 : Int)) ∨ (x19.toInt = 0 ∧ (p1.toInt < (0 : Int) ∨ (9 : Int) < p1.toInt)))
    (c22 : ¬ (x19.toInt ≠ 0)) :
    (¬ (0 ≤ p0.toInt ∧ p0.toInt ≤ 11 ∧ aI (G.2.1 (F a 10)) (10 * p0.toInt + 0) ≠ -1) ∧ (-2147483648 : Int) = -2147483648) ∨ ((0 ≤ p0.toInt ∧ p0.toInt ≤ 11 ∧ aI (G.2.1 (F a 10)) (10 * p0.toInt + 0) ≠ -1) ∧ (-2147483648 : Int) = tdM (G.2.1 (F a 10)) p0.toInt (cnP (if ((G.1 a 6).toInt) = 0 then [] else fuO (G.2.1 (F a 10)) (mw (G.2.1 (F a 1)) 0) (mw (G.2.1 (F a 2)) 0) 1) p0.toInt) p1.toInt) := by
  first
    | exact Or.inl ⟨by omega, rfl⟩
    | exact Or.inr ⟨by omega, (tdM_o (by omega)).symm⟩
    | exact Or.inr ⟨by omega, (tdM_i (by omega)).symm⟩
    | exact Or.inr ⟨by omega, (by rw [tdM_9 (by omega), ← oq38]; exact oq38a)⟩
theorem v_X11_question_45_1 {K : Nat → Nat} {F : Nat → Nat → Nat} (a : Nat) (G : XG) (x7 : Int32) (p0 : Int32) (p1 : Int32) (p2 : Int32)
    (ha : K a = 13)
    (t7 : (x7.toInt = 1 ∧ 0 ≤ p0.toInt ∧ p0.toInt ≤ 11 ∧ (aI (G.2.1 (F a 10)) (10 * p0.toInt + 0)) ≠ -1) ∨ (x7.toInt = 0 ∧ (¬ (0 ≤ p0.toInt ∧ p0.toInt ≤ 11) ∨ (aI (G.2.1 (F a 10)) (10 * p0.toInt + 0)) = -1)))
    (c10 : x7.toInt = 0) :
    (¬ (0 ≤ p0.toInt ∧ p0.toInt ≤ 11 ∧ aI (G.2.1 (F a 10)) (10 * p0.toInt + 0) ≠ -1) ∧ (-2147483648 : Int) = -2147483648) ∨ ((0 ≤ p0.toInt ∧ p0.toInt ≤ 11 ∧ aI (G.2.1 (F a 10)) (10 * p0.toInt + 0) ≠ -1) ∧ (-2147483648 : Int) = quS (mw (G.2.1 (F a 1)) 0) (aI (G.2.1 (F a 10)) (10 * p0.toInt + 0)) (aI (G.2.1 (F a 10)) (10 * p0.toInt + 1)) (aI (G.2.1 (F a 10)) (10 * p0.toInt + 2)) (aI (G.2.1 (F a 10)) (10 * p0.toInt + 3)) (aI (G.2.1 (F a 10)) (10 * p0.toInt + 4)) (aI (G.2.1 (F a 10)) (10 * p0.toInt + 5)) p1.toInt p2.toInt) := by
  first
    | exact Or.inl ⟨by omega, rfl⟩
    | exact Or.inr ⟨by omega, (quS_n (fun h => absurd (sbj_FL.mp h) (by omega))).symm⟩
    | exact Or.inr ⟨by omega, (quS_o (by omega) (by omega)).symm⟩
theorem v_X11_question_45_2 {K : Nat → Nat} {F : Nat → Nat → Nat} (a : Nat) (G : XG) (p0 : Int32) (x7 : Int32) (x27 : Int32) (p1 : Int32) (p2 : Int32)
    (ha : K a = 13)
    (t7 : (x7.toInt = 1 ∧ 0 ≤ p0.toInt ∧ p0.toInt ≤ 11 ∧ (aI (G.2.1 (F a 10)) (10 * p0.toInt + 0)) ≠ -1) ∨ (x7.toInt = 0 ∧ (¬ (0 ≤ p0.toInt ∧ p0.toInt ≤ 11) ∨ (aI (G.2.1 (F a 10)) (10 * p0.toInt + 0)) = -1)))
    (c10 : ¬ (x7.toInt = 0))
    (t27 : (x27.toInt = 1 ∧ (sF (aI (G.2.1 (F a 10)) (10 * p0.toInt + 0))) ≤ p1.toInt ∧ p1.toInt ≤ (sL (aI (G.2.1 (F a 10)) (10 * p0.toInt + 0)))) ∨ (x27.toInt = 0 ∧ (p1.toInt < (sF (aI (G.2.1 (F a 10)) (10 * p0.toInt + 0))) ∨ (sL (aI (G.2.1 (F a 10)) (10 * p0.toInt + 0))) < p1.toInt)))
    (c30 : x27.toInt = 0) :
    (¬ (0 ≤ p0.toInt ∧ p0.toInt ≤ 11 ∧ aI (G.2.1 (F a 10)) (10 * p0.toInt + 0) ≠ -1) ∧ (-2147483648 : Int) = -2147483648) ∨ ((0 ≤ p0.toInt ∧ p0.toInt ≤ 11 ∧ aI (G.2.1 (F a 10)) (10 * p0.toInt + 0) ≠ -1) ∧ (-2147483648 : Int) = quS (mw (G.2.1 (F a 1)) 0) (aI (G.2.1 (F a 10)) (10 * p0.toInt + 0)) (aI (G.2.1 (F a 10)) (10 * p0.toInt + 1)) (aI (G.2.1 (F a 10)) (10 * p0.toInt + 2)) (aI (G.2.1 (F a 10)) (10 * p0.toInt + 3)) (aI (G.2.1 (F a 10)) (10 * p0.toInt + 4)) (aI (G.2.1 (F a 10)) (10 * p0.toInt + 5)) p1.toInt p2.toInt) := by
  first
    | exact Or.inl ⟨by omega, rfl⟩
    | exact Or.inr ⟨by omega, (quS_n (fun h => absurd (sbj_FL.mp h) (by omega))).symm⟩
    | exact Or.inr ⟨by omega, (quS_o (by omega) (by omega)).symm⟩
theorem v_X11_question_72_3 {F : Nat → Nat → Nat} (a : Nat) (G2 : XG) (G : XG)
    (hR : RV (G.2.1 (F a 10)))
    (c_G2_F_a_10 : G2.2.1 (F a 10) = G.2.1 (F a 10)) :
    RV (G2.2.1 (F a 10)) := by simp only [c_G2_F_a_10]; assumption
theorem v_X11_question_72_4 {F : Nat → Nat → Nat} (a : Nat) (G2 : XG) (G : XG)
    (hM : RM (G.2.1 (F a 1)) (0))
    (c_G2_F_a_1 : G2.2.1 (F a 1) = G.2.1 (F a 1)) :
    RM (G2.2.1 (F a 1)) (0 : Int) := by simp only [c_G2_F_a_1]; assumption
theorem v_X11_question_83_5 {K : Nat → Nat} {F : Nat → Nat → Nat} (a : Nat) (G : XG) (p0 : Int32) (x7 : Int32) (x27 : Int32) (p1 : Int32) (x37 : Int32) (p2 : Int32) (x72 : Int32)
    (ha : K a = 13)
    (t7 : (x7.toInt = 1 ∧ 0 ≤ p0.toInt ∧ p0.toInt ≤ 11 ∧ (aI (G.2.1 (F a 10)) (10 * p0.toInt + 0)) ≠ -1) ∨ (x7.toInt = 0 ∧ (¬ (0 ≤ p0.toInt ∧ p0.toInt ≤ 11) ∨ (aI (G.2.1 (F a 10)) (10 * p0.toInt + 0)) = -1)))
    (c10 : ¬ (x7.toInt = 0))
    (t27 : (x27.toInt = 1 ∧ (sF (aI (G.2.1 (F a 10)) (10 * p0.toInt + 0))) ≤ p1.toInt ∧ p1.toInt ≤ (sL (aI (G.2.1 (F a 10)) (10 * p0.toInt + 0)))) ∨ (x27.toInt = 0 ∧ (p1.toInt < (sF (aI (G.2.1 (F a 10)) (10 * p0.toInt + 0))) ∨ (sL (aI (G.2.1 (F a 10)) (10 * p0.toInt + 0))) < p1.toInt)))
    (c30 : ¬ (x27.toInt = 0))
    (t37 : (x37.toInt = 1 ∧ (0 : Int) ≤ p2.toInt ∧ p2.toInt ≤ (1 : Int)) ∨ (x37.toInt = 0 ∧ (p2.toInt < (0 : Int) ∨ (1 : Int) < p2.toInt)))
    (c40 : x37.toInt ≠ 0)
    (c47 : p2.toInt ≠ 0)
    (t72 : x72.toInt = (flq (mw (G.2.1 (F a 1)) 0) (aI (G.2.1 (F a 10)) (10 * p0.toInt + 0)) (aI (G.2.1 (F a 10)) (10 * p0.toInt + 1)) (aI (G.2.1 (F a 10)) (10 * p0.toInt + 2)) (aI (G.2.1 (F a 10)) (10 * p0.toInt + 4)) (aI (G.2.1 (F a 10)) (10 * p0.toInt + 5)) (p1.toInt) (stt (mw (G.2.1 (F a 1)) 0) (aI (G.2.1 (F a 10)) (10 * p0.toInt + 0)) (aI (G.2.1 (F a 10)) (10 * p0.toInt + 1)) (aI (G.2.1 (F a 10)) (10 * p0.toInt + 2)) (aI (G.2.1 (F a 10)) (10 * p0.toInt + 3)) (p1.toInt))))
    (f18 : x72.toInt = 0 ∨ x72.toInt = 1)
    (c75 : x72.toInt = 0) :
    (¬ (0 ≤ p0.toInt ∧ p0.toInt ≤ 11 ∧ aI (G.2.1 (F a 10)) (10 * p0.toInt + 0) ≠ -1) ∧ (0 : Int) = -2147483648) ∨ ((0 ≤ p0.toInt ∧ p0.toInt ≤ 11 ∧ aI (G.2.1 (F a 10)) (10 * p0.toInt + 0) ≠ -1) ∧ (0 : Int) = quS (mw (G.2.1 (F a 1)) 0) (aI (G.2.1 (F a 10)) (10 * p0.toInt + 0)) (aI (G.2.1 (F a 10)) (10 * p0.toInt + 1)) (aI (G.2.1 (F a 10)) (10 * p0.toInt + 2)) (aI (G.2.1 (F a 10)) (10 * p0.toInt + 3)) (aI (G.2.1 (F a 10)) (10 * p0.toInt + 4)) (aI (G.2.1 (F a 10)) (10 * p0.toInt + 5)) p1.toInt p2.toInt) := by
  first
    | exact Or.inr ⟨by omega, (quS_0 (sbj_FL.mpr (by omega)) (by omega)).symm⟩
    | exact Or.inr ⟨by omega, (by rw [quS_1 (sbj_FL.mpr (by omega)) (by omega), ← t72]; omega)⟩
theorem v_X11_question_83_6 {K : Nat → Nat} {F : Nat → Nat → Nat} (a : Nat) (G : XG) (p0 : Int32) (x7 : Int32) (x27 : Int32) (p1 : Int32) (x37 : Int32) (p2 : Int32) (x72 : Int32)
    (ha : K a = 13)
    (t7 : (x7.toInt = 1 ∧ 0 ≤ p0.toInt ∧ p0.toInt ≤ 11 ∧ (aI (G.2.1 (F a 10)) (10 * p0.toInt + 0)) ≠ -1) ∨ (x7.toInt = 0 ∧ (¬ (0 ≤ p0.toInt ∧ p0.toInt ≤ 11) ∨ (aI (G.2.1 (F a 10)) (10 * p0.toInt + 0)) = -1)))
    (c10 : ¬ (x7.toInt = 0))
    (t27 : (x27.toInt = 1 ∧ (sF (aI (G.2.1 (F a 10)) (10 * p0.toInt + 0))) ≤ p1.toInt ∧ p1.toInt ≤ (sL (aI (G.2.1 (F a 10)) (10 * p0.toInt + 0)))) ∨ (x27.toInt = 0 ∧ (p1.toInt < (sF (aI (G.2.1 (F a 10)) (10 * p0.toInt + 0))) ∨ (sL (aI (G.2.1 (F a 10)) (10 * p0.toInt + 0))) < p1.toInt)))
    (c30 : ¬ (x27.toInt = 0))
    (t37 : (x37.toInt = 1 ∧ (0 : Int) ≤ p2.toInt ∧ p2.toInt ≤ (1 : Int)) ∨ (x37.toInt = 0 ∧ (p2.toInt < (0 : Int) ∨ (1 : Int) < p2.toInt)))
    (c40 : x37.toInt ≠ 0)
    (c47 : p2.toInt ≠ 0)
    (t72 : x72.toInt = (flq (mw (G.2.1 (F a 1)) 0) (aI (G.2.1 (F a 10)) (10 * p0.toInt + 0)) (aI (G.2.1 (F a 10)) (10 * p0.toInt + 1)) (aI (G.2.1 (F a 10)) (10 * p0.toInt + 2)) (aI (G.2.1 (F a 10)) (10 * p0.toInt + 4)) (aI (G.2.1 (F a 10)) (10 * p0.toInt + 5)) (p1.toInt) (stt (mw (G.2.1 (F a 1)) 0) (aI (G.2.1 (F a 10)) (10 * p0.toInt + 0)) (aI (G.2.1 (F a 10)) (10 * p0.toInt + 1)) (aI (G.2.1 (F a 10)) (10 * p0.toInt + 2)) (aI (G.2.1 (F a 10)) (10 * p0.toInt + 3)) (p1.toInt))))
    (f18 : x72.toInt = 0 ∨ x72.toInt = 1)
    (c75 : ¬ (x72.toInt = 0)) :
    (¬ (0 ≤ p0.toInt ∧ p0.toInt ≤ 11 ∧ aI (G.2.1 (F a 10)) (10 * p0.toInt + 0) ≠ -1) ∧ (1 : Int) = -2147483648) ∨ ((0 ≤ p0.toInt ∧ p0.toInt ≤ 11 ∧ aI (G.2.1 (F a 10)) (10 * p0.toInt + 0) ≠ -1) ∧ (1 : Int) = quS (mw (G.2.1 (F a 1)) 0) (aI (G.2.1 (F a 10)) (10 * p0.toInt + 0)) (aI (G.2.1 (F a 10)) (10 * p0.toInt + 1)) (aI (G.2.1 (F a 10)) (10 * p0.toInt + 2)) (aI (G.2.1 (F a 10)) (10 * p0.toInt + 3)) (aI (G.2.1 (F a 10)) (10 * p0.toInt + 4)) (aI (G.2.1 (F a 10)) (10 * p0.toInt + 5)) p1.toInt p2.toInt) := by
  first
    | exact Or.inr ⟨by omega, (quS_0 (sbj_FL.mpr (by omega)) (by omega)).symm⟩
    | exact Or.inr ⟨by omega, (by rw [quS_1 (sbj_FL.mpr (by omega)) (by omega), ← t72]; omega)⟩
theorem v_X11_question_58_7 {F : Nat → Nat → Nat} (a : Nat) (G2 : XG) (G : XG)
    (hR : RV (G.2.1 (F a 10)))
    (c_G2_F_a_10 : G2.2.1 (F a 10) = G.2.1 (F a 10)) :
    RV (G2.2.1 (F a 10)) := by simp only [c_G2_F_a_10]; assumption
theorem v_X11_question_58_8 {F : Nat → Nat → Nat} (a : Nat) (G2 : XG) (G : XG)
    (hM : RM (G.2.1 (F a 1)) (0))
    (c_G2_F_a_1 : G2.2.1 (F a 1) = G.2.1 (F a 1)) :
    RM (G2.2.1 (F a 1)) (0 : Int) := by simp only [c_G2_F_a_1]; assumption
theorem v_X11_question_83_9 {K : Nat → Nat} {F : Nat → Nat → Nat} (a : Nat) (G : XG) (p0 : Int32) (p1 : Int32) (x7 : Int32) (x27 : Int32) (x37 : Int32) (p2 : Int32)
    (ha : K a = 13)
    (t7 : (x7.toInt = 1 ∧ 0 ≤ p0.toInt ∧ p0.toInt ≤ 11 ∧ (aI (G.2.1 (F a 10)) (10 * p0.toInt + 0)) ≠ -1) ∨ (x7.toInt = 0 ∧ (¬ (0 ≤ p0.toInt ∧ p0.toInt ≤ 11) ∨ (aI (G.2.1 (F a 10)) (10 * p0.toInt + 0)) = -1)))
    (c10 : ¬ (x7.toInt = 0))
    (t27 : (x27.toInt = 1 ∧ (sF (aI (G.2.1 (F a 10)) (10 * p0.toInt + 0))) ≤ p1.toInt ∧ p1.toInt ≤ (sL (aI (G.2.1 (F a 10)) (10 * p0.toInt + 0)))) ∨ (x27.toInt = 0 ∧ (p1.toInt < (sF (aI (G.2.1 (F a 10)) (10 * p0.toInt + 0))) ∨ (sL (aI (G.2.1 (F a 10)) (10 * p0.toInt + 0))) < p1.toInt)))
    (c30 : ¬ (x27.toInt = 0))
    (t37 : (x37.toInt = 1 ∧ (0 : Int) ≤ p2.toInt ∧ p2.toInt ≤ (1 : Int)) ∨ (x37.toInt = 0 ∧ (p2.toInt < (0 : Int) ∨ (1 : Int) < p2.toInt)))
    (c40 : x37.toInt ≠ 0)
    (c47 : ¬ (p2.toInt ≠ 0)) :
    (¬ (0 ≤ p0.toInt ∧ p0.toInt ≤ 11 ∧ aI (G.2.1 (F a 10)) (10 * p0.toInt + 0) ≠ -1) ∧ (stt (mw (G.2.1 (F a 1)) 0) (aI (G.2.1 (F a 10)) (10 * p0.toInt + 0)) (aI (G.2.1 (F a 10)) (10 * p0.toInt + 1)) (aI (G.2.1 (F a 10)) (10 * p0.toInt + 2)) (aI (G.2.1 (F a 10)) (10 * p0.toInt + 3)) (p1.toInt)) = -2147483648) ∨ ((0 ≤ p0.toInt ∧ p0.toInt ≤ 11 ∧ aI (G.2.1 (F a 10)) (10 * p0.toInt + 0) ≠ -1) ∧ (stt (mw (G.2.1 (F a 1)) 0) (aI (G.2.1 (F a 10)) (10 * p0.toInt + 0)) (aI (G.2.1 (F a 10)) (10 * p0.toInt + 1)) (aI (G.2.1 (F a 10)) (10 * p0.toInt + 2)) (aI (G.2.1 (F a 10)) (10 * p0.toInt + 3)) (p1.toInt)) = quS (mw (G.2.1 (F a 1)) 0) (aI (G.2.1 (F a 10)) (10 * p0.toInt + 0)) (aI (G.2.1 (F a 10)) (10 * p0.toInt + 1)) (aI (G.2.1 (F a 10)) (10 * p0.toInt + 2)) (aI (G.2.1 (F a 10)) (10 * p0.toInt + 3)) (aI (G.2.1 (F a 10)) (10 * p0.toInt + 4)) (aI (G.2.1 (F a 10)) (10 * p0.toInt + 5)) p1.toInt p2.toInt) := by
  first
    | exact Or.inr ⟨by omega, (quS_0 (sbj_FL.mpr (by omega)) (by omega)).symm⟩
    | exact Or.inr ⟨by omega, (by rw [quS_1 (sbj_FL.mpr (by omega)) (by omega), ← t72]; omega)⟩
theorem v_X11_question_45_10 {K : Nat → Nat} {F : Nat → Nat → Nat} (a : Nat) (G : XG) (p0 : Int32) (x7 : Int32) (x27 : Int32) (p1 : Int32) (x37 : Int32) (p2 : Int32)
    (ha : K a = 13)
    (t7 : (x7.toInt = 1 ∧ 0 ≤ p0.toInt ∧ p0.toInt ≤ 11 ∧ (aI (G.2.1 (F a 10)) (10 * p0.toInt + 0)) ≠ -1) ∨ (x7.toInt = 0 ∧ (¬ (0 ≤ p0.toInt ∧ p0.toInt ≤ 11) ∨ (aI (G.2.1 (F a 10)) (10 * p0.toInt + 0)) = -1)))
    (c10 : ¬ (x7.toInt = 0))
    (t27 : (x27.toInt = 1 ∧ (sF (aI (G.2.1 (F a 10)) (10 * p0.toInt + 0))) ≤ p1.toInt ∧ p1.toInt ≤ (sL (aI (G.2.1 (F a 10)) (10 * p0.toInt + 0)))) ∨ (x27.toInt = 0 ∧ (p1.toInt < (sF (aI (G.2.1 (F a 10)) (10 * p0.toInt + 0))) ∨ (sL (aI (G.2.1 (F a 10)) (10 * p0.toInt + 0))) < p1.toInt)))
    (c30 : ¬ (x27.toInt = 0))
    (t37 : (x37.toInt = 1 ∧ (0 : Int) ≤ p2.toInt ∧ p2.toInt ≤ (1 : Int)) ∨ (x37.toInt = 0 ∧ (p2.toInt < (0 : Int) ∨ (1 : Int) < p2.toInt)))
    (c40 : ¬ (x37.toInt ≠ 0)) :
    (¬ (0 ≤ p0.toInt ∧ p0.toInt ≤ 11 ∧ aI (G.2.1 (F a 10)) (10 * p0.toInt + 0) ≠ -1) ∧ (-2147483648 : Int) = -2147483648) ∨ ((0 ≤ p0.toInt ∧ p0.toInt ≤ 11 ∧ aI (G.2.1 (F a 10)) (10 * p0.toInt + 0) ≠ -1) ∧ (-2147483648 : Int) = quS (mw (G.2.1 (F a 1)) 0) (aI (G.2.1 (F a 10)) (10 * p0.toInt + 0)) (aI (G.2.1 (F a 10)) (10 * p0.toInt + 1)) (aI (G.2.1 (F a 10)) (10 * p0.toInt + 2)) (aI (G.2.1 (F a 10)) (10 * p0.toInt + 3)) (aI (G.2.1 (F a 10)) (10 * p0.toInt + 4)) (aI (G.2.1 (F a 10)) (10 * p0.toInt + 5)) p1.toInt p2.toInt) := by
  first
    | exact Or.inl ⟨by omega, rfl⟩
    | exact Or.inr ⟨by omega, (quS_n (fun h => absurd (sbj_FL.mp h) (by omega))).symm⟩
    | exact Or.inr ⟨by omega, (quS_o (by omega) (by omega)).symm⟩
theorem v_X11_count_66_1 {F : Nat → Nat → Nat} (a : Nat) (G2 : XG) (G : XG)
    (hM : RM (G.2.1 (F a 1)) (0))
    (hB : RM (G.2.1 (F a 2)) 0)
    (c_G2_F_a_1 : G2.2.1 (F a 1) = G.2.1 (F a 1)) :
    RM (G2.2.1 (F a 1)) (0) := by simp only [c_G2_F_a_1]; assumption
theorem v_X11_count_71_2 {F : Nat → Nat → Nat} (a : Nat) (G2 : XG) (G : XG)
    (hR : RV (G.2.1 (F a 10)))
    (c_G2_F_a_10 : G2.2.1 (F a 10) = G.2.1 (F a 10)) :
    RV (G2.2.1 (F a 10)) := by simp only [c_G2_F_a_10]; assumption
theorem v_X11_count_71_3 {F : Nat → Nat → Nat} (a : Nat) (G2 : XG) (G : XG)
    (hM : RM (G.2.1 (F a 1)) (0))
    (hB : RM (G.2.1 (F a 2)) 0)
    (c_G2_F_a_1 : G2.2.1 (F a 1) = G.2.1 (F a 1)) :
    RM (G2.2.1 (F a 1)) (0) := by simp only [c_G2_F_a_1]; assumption
theorem v_X11_count_71_4 {F : Nat → Nat → Nat} (a : Nat) (G2 : XG) (G : XG)
    (hM : RM (G.2.1 (F a 1)) (0))
    (hB : RM (G.2.1 (F a 2)) 0)
    (c_G2_F_a_2 : G2.2.1 (F a 2) = G.2.1 (F a 2)) :
    RM (G2.2.1 (F a 2)) 0 := by simp only [c_G2_F_a_2]; assumption
theorem v_X11_rows_23_1 {K : Nat → Nat} {F : Nat → Nat → Nat} (a : Nat) (G : XG) (x6 : Int32) (p0 : Int32) (p1 : Int32)
    (ha : K a = 13)
    (t6 : (x6.toInt = 1 ∧ 0 ≤ p0.toInt ∧ p0.toInt ≤ 2) ∨ (x6.toInt = 0 ∧ (p0.toInt < 0 ∨ 2 < p0.toInt)))
    (c9 : x6.toInt = 0) :
    (¬ ((0 ≤ p0.toInt ∧ p0.toInt ≤ 2) ∧ (p1.toInt = 0 ∨ p1.toInt = 1)) ∧ (-1 : Int) = -1) ∨ ((0 ≤ p0.toInt ∧ p0.toInt ≤ 2) ∧ p1.toInt = 0 ∧ (-1 : Int) = rmR (G.2.1 (F a 1)) p0.toInt 30) ∨ ((0 ≤ p0.toInt ∧ p0.toInt ≤ 2) ∧ p1.toInt = 1 ∧ ∀ j : Int, 0 ≤ j → j < 32 → bI (-1 : Int) j = if j < 30 then aI (G.2.1 (F a 1)) (4 * (30 * p0.toInt + j)) else 0) := by
  exact Or.inl ⟨by omega, rfl⟩
theorem v_X11_rows_88_2 {K : Nat → Nat} {F : Nat → Nat → Nat} (a : Nat) (G : XG) (l4_32 : Int32) (l5_32 : Int32) (p0 : Int32) (x6 : Int32) (x16 : Int32) (p1 : Int32) (l3_32 : Int32) (N32 : Nat)
    (ha : K a = 13)
    (pb : ∀ j : Int, 0 ≤ j → j < 32 → bI l4_32.toInt j = if j < l5_32.toInt then aI (G.2.1 (F a 1)) (4 * (30 * p0.toInt + j)) else 0)
    (t6 : (x6.toInt = 1 ∧ 0 ≤ p0.toInt ∧ p0.toInt ≤ 2) ∨ (x6.toInt = 0 ∧ (p0.toInt < 0 ∨ 2 < p0.toInt)))
    (c9 : ¬ (x6.toInt = 0))
    (t16 : (x16.toInt = 1 ∧ (0 : Int) ≤ p1.toInt ∧ p1.toInt ≤ (1 : Int)) ∨ (x16.toInt = 0 ∧ (p1.toInt < (0 : Int) ∨ (1 : Int) < p1.toInt)))
    (c19 : x16.toInt ≠ 0)
    (z24 : (rmR (G.2.1 (F a 1)) (p0.toInt) 0) = 0)
    (I32_0 : 0 ≤ l5_32.toInt ∧ l5_32.toInt ≤ 30)
    (I32_1 : l3_32.toInt = (rmR (G.2.1 (F a 1)) (p0.toInt) (l5_32.toInt)))
    (I32_2 : 0 ≤ l3_32.toInt ∧ l3_32.toInt ≤ l5_32.toInt)
    (I32_3 : (0 : Int) ≤ l5_32.toInt)
    (hm32 : 2147483648 - l5_32.toInt < (((N32) + 1 : Nat) : Int))
    (c36 : (30 : Int) ≤ l5_32.toInt)
    (z78 : l5_32.toInt = 30 → (rmR (G.2.1 (F a 1)) (p0.toInt) (l5_32.toInt)) = (rmR (G.2.1 (F a 1)) (p0.toInt) 30))
    (c79 : p1.toInt ≠ 0) :
    (¬ ((0 ≤ p0.toInt ∧ p0.toInt ≤ 2) ∧ (p1.toInt = 0 ∨ p1.toInt = 1)) ∧ l4_32.toInt = -1) ∨ ((0 ≤ p0.toInt ∧ p0.toInt ≤ 2) ∧ p1.toInt = 0 ∧ l4_32.toInt = rmR (G.2.1 (F a 1)) p0.toInt 30) ∨ ((0 ≤ p0.toInt ∧ p0.toInt ≤ 2) ∧ p1.toInt = 1 ∧ ∀ j : Int, 0 ≤ j → j < 32 → bI l4_32.toInt j = if j < 30 then aI (G.2.1 (F a 1)) (4 * (30 * p0.toInt + j)) else 0) := by
  first
    | exact Or.inr (Or.inl ⟨by omega, by omega, by omega⟩)
    | exact Or.inr (Or.inr ⟨by omega, by omega, fun j h1 h2 => by rw [pb j h1 h2, show l5_32.toInt = 30 by omega]⟩)
theorem v_X11_rows_88_3 {K : Nat → Nat} {F : Nat → Nat → Nat} (a : Nat) (G : XG) (l4_32 : Int32) (l5_32 : Int32) (p0 : Int32) (x6 : Int32) (x16 : Int32) (p1 : Int32) (l3_32 : Int32) (N32 : Nat)
    (ha : K a = 13)
    (pb : ∀ j : Int, 0 ≤ j → j < 32 → bI l4_32.toInt j = if j < l5_32.toInt then aI (G.2.1 (F a 1)) (4 * (30 * p0.toInt + j)) else 0)
    (t6 : (x6.toInt = 1 ∧ 0 ≤ p0.toInt ∧ p0.toInt ≤ 2) ∨ (x6.toInt = 0 ∧ (p0.toInt < 0 ∨ 2 < p0.toInt)))
    (c9 : ¬ (x6.toInt = 0))
    (t16 : (x16.toInt = 1 ∧ (0 : Int) ≤ p1.toInt ∧ p1.toInt ≤ (1 : Int)) ∨ (x16.toInt = 0 ∧ (p1.toInt < (0 : Int) ∨ (1 : Int) < p1.toInt)))
    (c19 : x16.toInt ≠ 0)
    (z24 : (rmR (G.2.1 (F a 1)) (p0.toInt) 0) = 0)
    (I32_0 : 0 ≤ l5_32.toInt ∧ l5_32.toInt ≤ 30)
    (I32_1 : l3_32.toInt = (rmR (G.2.1 (F a 1)) (p0.toInt) (l5_32.toInt)))
    (I32_2 : 0 ≤ l3_32.toInt ∧ l3_32.toInt ≤ l5_32.toInt)
    (I32_3 : (0 : Int) ≤ l5_32.toInt)
    (hm32 : 2147483648 - l5_32.toInt < (((N32) + 1 : Nat) : Int))
    (c36 : (30 : Int) ≤ l5_32.toInt)
    (z78 : l5_32.toInt = 30 → (rmR (G.2.1 (F a 1)) (p0.toInt) (l5_32.toInt)) = (rmR (G.2.1 (F a 1)) (p0.toInt) 30))
    (c79 : ¬ (p1.toInt ≠ 0)) :
    (¬ ((0 ≤ p0.toInt ∧ p0.toInt ≤ 2) ∧ (p1.toInt = 0 ∨ p1.toInt = 1)) ∧ l3_32.toInt = -1) ∨ ((0 ≤ p0.toInt ∧ p0.toInt ≤ 2) ∧ p1.toInt = 0 ∧ l3_32.toInt = rmR (G.2.1 (F a 1)) p0.toInt 30) ∨ ((0 ≤ p0.toInt ∧ p0.toInt ≤ 2) ∧ p1.toInt = 1 ∧ ∀ j : Int, 0 ≤ j → j < 32 → bI l3_32.toInt j = if j < 30 then aI (G.2.1 (F a 1)) (4 * (30 * p0.toInt + j)) else 0) := by
  first
    | exact Or.inr (Or.inl ⟨by omega, by omega, by omega⟩)
    | exact Or.inr (Or.inr ⟨by omega, by omega, fun j h1 h2 => by rw [pb j h1 h2, show l5_32.toInt = 30 by omega]⟩)
theorem v_X11_rows_75_4 {K : Nat → Nat} {F : Nat → Nat → Nat} (a : Nat) (G : XG) (l4_32 : Int32) (l5_32 : Int32) (p0 : Int32) (x65 : Int32) (x68 : Int32) (x69 : Int32) (x6 : Int32) (x16 : Int32) (p1 : Int32) (l3_32 : Int32) (N32 : Nat) (x47 : Int32) (x62 : Int32)
    (ha : K a = 13)
    (hM : RM (G.2.1 (F a 1)) (0))
    (pb : ∀ j : Int, 0 ≤ j → j < 32 → bI l4_32.toInt j = if j < l5_32.toInt then aI (G.2.1 (F a 1)) (4 * (30 * p0.toInt + j)) else 0)
    (hv65 : x65.toInt = (aI (G.2.1 (F a 1)) (4 * (30 * p0.toInt + l5_32.toInt))))
    (he68 : x68 = (x65 : Int32) <<< (l5_32 &&& 31))
    (he69 : x69 = l4_32 ||| x68)
    (t6 : (x6.toInt = 1 ∧ 0 ≤ p0.toInt ∧ p0.toInt ≤ 2) ∨ (x6.toInt = 0 ∧ (p0.toInt < 0 ∨ 2 < p0.toInt)))
    (c9 : ¬ (x6.toInt = 0))
    (t16 : (x16.toInt = 1 ∧ (0 : Int) ≤ p1.toInt ∧ p1.toInt ≤ (1 : Int)) ∨ (x16.toInt = 0 ∧ (p1.toInt < (0 : Int) ∨ (1 : Int) < p1.toInt)))
    (c19 : x16.toInt ≠ 0)
    (z24 : (rmR (G.2.1 (F a 1)) (p0.toInt) 0) = 0)
    (I32_0 : 0 ≤ l5_32.toInt ∧ l5_32.toInt ≤ 30)
    (I32_1 : l3_32.toInt = (rmR (G.2.1 (F a 1)) (p0.toInt) (l5_32.toInt)))
    (I32_2 : 0 ≤ l3_32.toInt ∧ l3_32.toInt ≤ l5_32.toInt)
    (I32_3 : (0 : Int) ≤ l5_32.toInt)
    (hm32 : 2147483648 - l5_32.toInt < (((N32) + 1 : Nat) : Int))
    (c36 : ¬ ((30 : Int) ≤ l5_32.toInt))
    (z39 : (aI (G.2.1 (F a 1)) (4 * (30 * p0.toInt + l5_32.toInt))) = 0 ∨ (aI (G.2.1 (F a 1)) (4 * (30 * p0.toInt + l5_32.toInt))) = 1)
    (z39a : (rmR (G.2.1 (F a 1)) (p0.toInt) (l5_32.toInt + 1)) = (rmR (G.2.1 (F a 1)) (p0.toInt) (l5_32.toInt)) + (aI (G.2.1 (F a 1)) (4 * (30 * p0.toInt + l5_32.toInt))))
    (t47 : 0 ≤ p0.toInt ∧ p0.toInt ≤ 2 ∧ 0 ≤ l5_32.toInt ∧ l5_32.toInt ≤ 29 → x47.toInt = 4 * (30 * p0.toInt + l5_32.toInt))
    (t62 : 0 ≤ p0.toInt ∧ p0.toInt ≤ 2 ∧ 0 ≤ l5_32.toInt ∧ l5_32.toInt ≤ 29 → x62.toInt = 4 * (30 * p0.toInt + l5_32.toInt)) :
    ∀ j : Int, 0 ≤ j → j < 32 → bI x69.toInt j = if j < (l5_32.toInt + 1) then aI (G.2.1 (F a 1)) (4 * (30 * p0.toInt + j)) else 0 := by
  have h01 := hM.is2 (t := p0.toInt) (k := l5_32.toInt) (by omega) (by omega)
  have hz : bI l4_32.toInt l5_32.toInt = 0 := by rw [pb l5_32.toInt (by omega) (by omega), if_neg (by omega)]
  intro j h1 h2
  rw [bI_or01 hv65 h01 he68 he69 rfl rfl (by omega) hz j h1 h2, pb j h1 h2]
  by_cases e : j = l5_32.toInt
  · rw [if_pos e, if_pos (by omega), e]
  · rw [if_neg e]
    by_cases g : j < l5_32.toInt
    · rw [if_pos g, if_pos (by omega)]
    · rw [if_neg g, if_neg (by omega)]
theorem v_X11_rows_30_5 {K : Nat → Nat} {F : Nat → Nat → Nat} (a : Nat) (G : XG) (x6 : Int32) (p0 : Int32) (x16 : Int32) (p1 : Int32)
    (ha : K a = 13)
    (t6 : (x6.toInt = 1 ∧ 0 ≤ p0.toInt ∧ p0.toInt ≤ 2) ∨ (x6.toInt = 0 ∧ (p0.toInt < 0 ∨ 2 < p0.toInt)))
    (c9 : ¬ (x6.toInt = 0))
    (t16 : (x16.toInt = 1 ∧ (0 : Int) ≤ p1.toInt ∧ p1.toInt ≤ (1 : Int)) ∨ (x16.toInt = 0 ∧ (p1.toInt < (0 : Int) ∨ (1 : Int) < p1.toInt)))
    (c19 : x16.toInt ≠ 0)
    (z24 : (rmR (G.2.1 (F a 1)) (p0.toInt) 0) = 0) :
    ∀ j : Int, 0 ≤ j → j < 32 → bI (0 : Int) j = if j < (0 : Int) then aI (G.2.1 (F a 1)) (4 * (30 * p0.toInt + j)) else 0 := by
  intro j h1 h2
  rw [if_neg (by omega)]
  exact bI_0 j
theorem v_X11_rows_23_6 {K : Nat → Nat} {F : Nat → Nat → Nat} (a : Nat) (G : XG) (x6 : Int32) (p0 : Int32) (x16 : Int32) (p1 : Int32)
    (ha : K a = 13)
    (t6 : (x6.toInt = 1 ∧ 0 ≤ p0.toInt ∧ p0.toInt ≤ 2) ∨ (x6.toInt = 0 ∧ (p0.toInt < 0 ∨ 2 < p0.toInt)))
    (c9 : ¬ (x6.toInt = 0))
    (t16 : (x16.toInt = 1 ∧ (0 : Int) ≤ p1.toInt ∧ p1.toInt ≤ (1 : Int)) ∨ (x16.toInt = 0 ∧ (p1.toInt < (0 : Int) ∨ (1 : Int) < p1.toInt)))
    (c19 : ¬ (x16.toInt ≠ 0)) :
    (¬ ((0 ≤ p0.toInt ∧ p0.toInt ≤ 2) ∧ (p1.toInt = 0 ∨ p1.toInt = 1)) ∧ (-1 : Int) = -1) ∨ ((0 ≤ p0.toInt ∧ p0.toInt ≤ 2) ∧ p1.toInt = 0 ∧ (-1 : Int) = rmR (G.2.1 (F a 1)) p0.toInt 30) ∨ ((0 ≤ p0.toInt ∧ p0.toInt ≤ 2) ∧ p1.toInt = 1 ∧ ∀ j : Int, 0 ≤ j → j < 32 → bI (-1 : Int) j = if j < 30 then aI (G.2.1 (F a 1)) (4 * (30 * p0.toInt + j)) else 0) := by
  exact Or.inl ⟨by omega, rfl⟩
