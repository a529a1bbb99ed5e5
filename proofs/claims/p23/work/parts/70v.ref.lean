theorem v_X11_value_4_1 {K : Nat → Nat} {F : Nat → Nat → Nat} (a : Nat) (G : XG) (p0 : Int32) (p1 : Int32)
    (ha : K a = 13)
    (hk9999 : K (F a 1) = 30)
    (hj9999 : F (F a 1) 99 = 1)
    (hM : RM (G.2.1 (F a 1)) (0))
    (z0 : ¬ (0 ≤ p0.toInt ∧ p0.toInt < 3 ∧ 0 ≤ p1.toInt ∧ p1.toInt < 30) → (cel (mw (G.2.1 (F a 1)) 0) (p0.toInt) (p1.toInt) 0) = -2000) :
    RM (G.2.1 (F a 1)) 0 := by
  first | assumption | omega
theorem v_X11_value_50_2 (a : Nat) (G22 : XG) (G : XG)
    (hG22 : G22 = dput G a 0 1) :
    G22.2.2.2 = G.2.2.2 := by
  rw [hG22]; rfl
theorem v_X11_value_50_3 (a : Nat) (G22 : XG) (G : XG)
    (hG22 : G22 = dput G a 0 1) :
    G22.2.2.2 = G.2.2.2 := by
  rw [hG22]; rfl
theorem v_X11_value_50_4 (a : Nat) (G22 : XG) (G : XG)
    (hG22 : G22 = dput G a 0 0) :
    G22.2.2.2 = G.2.2.2 := by
  rw [hG22]; rfl
theorem v_X11_told_50_1 {K : Nat → Nat} {F : Nat → Nat → Nat} (a : Nat) (G : XG) (x7 : Int32) (p0 : Int32) (p1 : Int32)
    (ha : K a = 13)
    (t7 : (x7.toInt = 1 ∧ 0 ≤ p0.toInt ∧ p0.toInt ≤ 11 ∧ (aI (G.2.1 (F a 10)) (10 * p0.toInt + 0)) ≠ -1) ∨ (x7.toInt = 0 ∧ (¬ (0 ≤ p0.toInt ∧ p0.toInt ≤ 11) ∨ (aI (G.2.1 (F a 10)) (10 * p0.toInt + 0)) = -1)))
    (c10 : x7.toInt = 0) :
    (¬ (0 ≤ p0.toInt ∧ p0.toInt ≤ 11 ∧ aI (G.2.1 (F a 10)) (10 * p0.toInt + 0) ≠ -1) ∧ (-2147483648 : Int) = -2147483648) ∨ ((0 ≤ p0.toInt ∧ p0.toInt ≤ 11 ∧ aI (G.2.1 (F a 10)) (10 * p0.toInt + 0) ≠ -1) ∧ (-2147483648 : Int) = tdM (G.2.1 (F a 10)) p0.toInt (cnP (if ((G.1 a 6).toInt) = 0 then [] else fuO (G.2.1 (F a 10)) (mw (G.2.1 (F a 1)) 0) (mw (G.2.1 (F a 2)) 0) 1) p0.toInt) p1.toInt) := by
  first
    | exact Or.inl ⟨by omega, rfl⟩
    | exact Or.inr ⟨by omega, (tdM_o (by omega)).symm⟩
    | exact Or.inr ⟨by omega, (tdM_i (by omega)).symm⟩
    | exact Or.inr ⟨by omega, (by rw [tdM_9 (by omega), ← oq38]; exact oq38a)⟩
theorem v_X11_told_50_2 {K : Nat → Nat} {F : Nat → Nat → Nat} (a : Nat) (G : XG) (p0 : Int32) (p1 : Int32) (x7 : Int32) (x19 : Int32)
    (ha : K a = 13)
    (t7 : (x7.toInt = 1 ∧ 0 ≤ p0.toInt ∧ p0.toInt ≤ 11 ∧ (aI (G.2.1 (F a 10)) (10 * p0.toInt + 0)) ≠ -1) ∨ (x7.toInt = 0 ∧ (¬ (0 ≤ p0.toInt ∧ p0.toInt ≤ 11) ∨ (aI (G.2.1 (F a 10)) (10 * p0.toInt + 0)) = -1)))
    (c10 : ¬ (x7.toInt = 0))
    (t19 : (x19.toInt = 1 ∧ (0 : Int) ≤ p1.toInt ∧ p1.toInt ≤ (9 : Int)) ∨ (x19.toInt = 0 ∧ (p1.toInt < (0 : Int) ∨ (9 : Int) < p1.toInt)))
    (c22 : x19.toInt ≠ 0)
    (c33 : p1.toInt ≠ (9 : Int)) :
    (¬ (0 ≤ p0.toInt ∧ p0.toInt ≤ 11 ∧ aI (G.2.1 (F a 10)) (10 * p0.toInt + 0) ≠ -1) ∧ (aI (G.2.1 (F a 10)) (10 * p0.toInt + p1.toInt)) = -2147483648) ∨ ((0 ≤ p0.toInt ∧ p0.toInt ≤ 11 ∧ aI (G.2.1 (F a 10)) (10 * p0.toInt + 0) ≠ -1) ∧ (aI (G.2.1 (F a 10)) (10 * p0.toInt + p1.toInt)) = tdM (G.2.1 (F a 10)) p0.toInt (cnP (if ((G.1 a 6).toInt) = 0 then [] else fuO (G.2.1 (F a 10)) (mw (G.2.1 (F a 1)) 0) (mw (G.2.1 (F a 2)) 0) 1) p0.toInt) p1.toInt) := by
  first
    | exact Or.inl ⟨by omega, rfl⟩
    | exact Or.inr ⟨by omega, (tdM_o (by omega)).symm⟩
    | exact Or.inr ⟨by omega, (tdM_i (by omega)).symm⟩
    | exact Or.inr ⟨by omega, (by rw [tdM_9 (by omega), ← oq38]; exact oq38a)⟩
theorem v_X11_told_38_3 {F : Nat → Nat → Nat} (a : Nat) (G2 : XG) (G : XG)
    (hR : RV (G.2.1 (F a 10)))
    (c_G2_F_a_10 : G2.2.1 (F a 10) = G.2.1 (F a 10)) :
    RV (G2.2.1 (F a 10)) := by simp only [c_G2_F_a_10]; assumption
theorem v_X11_told_38_4 {F : Nat → Nat → Nat} (a : Nat) (G2 : XG) (G : XG)
    (hM : RM (G.2.1 (F a 1)) (0))
    (hB : RM (G.2.1 (F a 2)) 0)
    (c_G2_F_a_1 : G2.2.1 (F a 1) = G.2.1 (F a 1)) :
    RM (G2.2.1 (F a 1)) (0) := by simp only [c_G2_F_a_1]; assumption
theorem v_X11_told_38_5 {F : Nat → Nat → Nat} (a : Nat) (G2 : XG) (G : XG)
    (hM : RM (G.2.1 (F a 1)) (0))
    (hB : RM (G.2.1 (F a 2)) 0)
    (c_G2_F_a_2 : G2.2.1 (F a 2) = G.2.1 (F a 2)) :
    RM (G2.2.1 (F a 2)) 0 := by simp only [c_G2_F_a_2]; assumption
theorem v_X11_told_50_6 {K : Nat → Nat} {F : Nat → Nat → Nat} (a : Nat) (G : XG) (G38 : XG) (x38 : Int32) (p0 : Int32) (x7 : Int32) (x19 : Int32) (p1 : Int32)
    (ha : K a = 13)
    (oq38 : pL G38 F a = if ((G.1 a 6).toInt) = 0 then [] else fuO (G.2.1 (F a 10)) (mw (G.2.1 (F a 1)) 0) (mw (G.2.1 (F a 2)) 0) 1)
    (oq38a : x38.toInt = cnP (pL G38 F a) p0.toInt)
    (t7 : (x7.toInt = 1 ∧ 0 ≤ p0.toInt ∧ p0.toInt ≤ 11 ∧ (aI (G.2.1 (F a 10)) (10 * p0.toInt + 0)) ≠ -1) ∨ (x7.toInt = 0 ∧ (¬ (0 ≤ p0.toInt ∧ p0.toInt ≤ 11) ∨ (aI (G.2.1 (F a 10)) (10 * p0.toInt + 0)) = -1)))
    (c10 : ¬ (x7.toInt = 0))
    (t19 : (x19.toInt = 1 ∧ (0 : Int) ≤ p1.toInt ∧ p1.toInt ≤ (9 : Int)) ∨ (x19.toInt = 0 ∧ (p1.toInt < (0 : Int) ∨ (9 : Int) < p1.toInt)))
    (c22 : x19.toInt ≠ 0)
    (c33 : ¬ (p1.toInt ≠ (9 : Int)))
    (t38 : 0 ≤ x38.toInt ∧ x38.toInt ≤ 2388 ∧ 0 ≤ ((G38.1 a 19).toInt) ∧ ((G38.1 a 19).toInt) ≤ 2388) :
    (¬ (0 ≤ p0.toInt ∧ p0.toInt ≤ 11 ∧ aI (G.2.1 (F a 10)) (10 * p0.toInt + 0) ≠ -1) ∧ x38.toInt = -2147483648) ∨ ((0 ≤ p0.toInt ∧ p0.toInt ≤ 11 ∧ aI (G.2.1 (F a 10)) (10 * p0.toInt + 0) ≠ -1) ∧ x38.toInt = tdM (G.2.1 (F a 10)) p0.toInt (cnP (if ((G.1 a 6).toInt) = 0 then [] else fuO (G.2.1 (F a 10)) (mw (G.2.1 (F a 1)) 0) (mw (G.2.1 (F a 2)) 0) 1) p0.toInt) p1.toInt) := by
  first
    | exact Or.inl ⟨by omega, rfl⟩
    | exact Or.inr ⟨by omega, (tdM_o (by omega)).symm⟩
    | exact Or.inr ⟨by omega, (tdM_i (by omega)).symm⟩
    | exact Or.inr ⟨by omega, (by rw [tdM_9 (by omega), ← oq38]; exact oq38a)⟩
theorem v_X11_told_50_7 {K : Nat → Nat} {F : Nat → Nat → Nat} (a : Nat) (G : XG) (x7 : Int32) (p0 : Int32) (x19 : Int32) (p1 : Int32)
    (ha : K a = 13)
    (t7 : (x7.toInt = 1 ∧ 0 ≤ p0.toInt ∧ p0.toInt ≤ 11 ∧ (aI (G.2.1 (F a 10)) (10 * p0.toInt + 0)) ≠ -1) ∨ (x7.toInt = 0 ∧ (¬ (0 ≤ p0.toInt ∧ p0.toInt ≤ 11) ∨ (aI (G.2.1 (F a 10)) (10 * p0.toInt + 0)) = -1)))
    (c10 : ¬ (x7.toInt = 0))
    (t19 : (x19.toInt = 1 ∧ (0 : Int) ≤ p1.toInt ∧ p1.toInt ≤ (9 : Int)) ∨ (x19.toInt = 0 ∧ (p1.toInt < (0 : Int) ∨ (9 : Int) < p1.toInt)))
    (c22 : ¬ (x19.toInt ≠ 0)) :
    (¬ (0 ≤ p0.toInt ∧ p0.toInt ≤ 11 ∧ aI (G.2.1 (F a 10)) (10 * p0.toInt + 0) ≠ -1) ∧ (-2147483648 : Int) = -2147483648) ∨ ((0 ≤ p0.toInt ∧ p0.toInt ≤ 11 ∧ aI (G.2.1 (F a 10)) (10 * p0.toInt + 0) ≠ -1) ∧ (-2147483648 : Int) = tdM (G.2.1 (F a 10)) p0.toInt (cnP (if ((G.1 a 6).toInt) = 0 then [] else fuO (G.2.1 (F a 10)) (mw (G.2.1 (F a 1)) 0) (mw (G.2.1 (F a 2)) 0) 1) p0.toInt) p1.toInt) := by
  first
    | exact Or.inl ⟨by omega, rfl⟩
    | exact Or.inr ⟨by omega, (tdM_o (by omega)).symm⟩
    | exact Or.inr ⟨by omega, (tdM_i (by omega)).symm⟩
    | exact Or.inr ⟨by omega, (by rw [tdM_9 (by omega), ← oq38]; exact oq38a)⟩
theorem v_X11_question_45_1 {K : Nat → Nat} {F : Nat → Nat → Nat} (a : Nat) (G : XG) (x7 : Int32) (p0 : Int32) (p1 : Int32) (p2 : Int32)
    (ha : K a = 13)
    (t7 : (x7.toInt = 1 ∧ 0 ≤ p0.toInt ∧ p0.toInt ≤ 11 ∧ (aI (G.2.1 (F a 10)) (10 * p0.toInt + 0)) ≠ -1) ∨ (x7.toInt = 0 ∧ (¬ (0 ≤ p0.toInt ∧ p0.toInt ≤ 11) ∨ (aI (G.2.1 (F a 10)) (10 * p0.toInt + 0)) = -1)))
    (c10 : x7.toInt = 0) :
    (¬ (0 ≤ p0.toInt ∧ p0.toInt ≤ 11 ∧ aI (G.2.1 (F a 10)) (10 * p0.toInt + 0) ≠ -1) ∧ (-2147483648 : Int) = -2147483648) ∨ ((0 ≤ p0.toInt ∧ p0.toInt ≤ 11 ∧ aI (G.2.1 (F a 10)) (10 * p0.toInt + 0) ≠ -1) ∧ (-2147483648 : Int) = quS (mw (G.2.1 (F a 1)) 0) (aI (G.2.1 (F a 10)) (10 * p0.toInt + 0)) (aI (G.2.1 (F a 10)) (10 * p0.toInt + 1)) (aI (G.2.1 (F a 10)) (10 * p0.toInt + 2)) (aI (G.2.1 (F a 10)) (10 * p0.toInt + 3)) (aI (G.2.1 (F a 10)) (10 * p0.toInt + 4)) (aI (G.2.1 (F a 10)) (10 * p0.toInt + 5)) p1.toInt p2.toInt) := by
  first
    | exact Or.inl ⟨by omega, rfl⟩
    | exact Or.inr ⟨by omega, (quS_n (fun h => absurd (sbj_FL.mp h) (by omega))).symm⟩
    | exact Or.inr ⟨by omega, (quS_o (by omega) (by omega)).symm⟩
theorem v_X11_question_45_2 {K : Nat → Nat} {F : Nat → Nat → Nat} (a : Nat) (G : XG) (p0 : Int32) (x7 : Int32) (x27 : Int32) (p1 : Int32) (p2 : Int32)
    (ha : K a = 13)
    (t7 : (x7.toInt = 1 ∧ 0 ≤ p0.toInt ∧ p0.toInt ≤ 11 ∧ (aI (G.2.1 (F a 10)) (10 * p0.toInt + 0)) ≠ -1) ∨ (x7.toInt = 0 ∧ (¬ (0 ≤ p0.toInt ∧ p0.toInt ≤ 11) ∨ (aI (G.2.1 (F a 10)) (10 * p0.toInt + 0)) = -1)))
    (c10 : ¬ (x7.toInt = 0))
    (t27 : (x27.toInt = 1 ∧ (sF (aI (G.2.1 (F a 10)) (10 * p0.toInt + 0))) ≤ p1.toInt ∧ p1.toInt ≤ (sL (aI (G.2.1 (F a 10)) (10 * p0.toInt + 0)))) ∨ (x27.toInt = 0 ∧ (p1.toInt < (sF (aI (G.2.1 (F a 10)) (10 * p0.toInt + 0))) ∨ (sL (aI (G.2.1 (F a 10)) (10 * p0.toInt + 0))) < p1.toInt)))
    (c30 : x27.toInt = 0) :
    (¬ (0 ≤ p0.toInt ∧ p0.toInt ≤ 11 ∧ aI (G.2.1 (F a 10)) (10 * p0.toInt + 0) ≠ -1) ∧ (-2147483648 : Int) = -2147483648) ∨ ((0 ≤ p0.toInt ∧ p0.toInt ≤ 11 ∧ aI (G.2.1 (F a 10)) (10 * p0.toInt + 0) ≠ -1) ∧ (-2147483648 : Int) = quS (mw (G.2.1 (F a 1)) 0) (aI (G.2.1 (F a 10)) (10 * p0.toInt + 0)) (aI (G.2.1 (F a 10)) (10 * p0.toInt + 1)) (aI (G.2.1 (F a 10)) (10 * p0.toInt + 2)) (aI (G.2.1 (F a 10)) (10 * p0.toInt + 3)) (aI (G.2.1 (F a 10)) (10 * p0.toInt + 4)) (aI (G.2.1 (F a 10)) (10 * p0.toInt + 5)) p1.toInt p2.toInt) := by
  first
    | exact Or.inl ⟨by omega, rfl⟩
    | exact Or.inr ⟨by omega, (quS_n (fun h => absurd (sbj_FL.mp h) (by omega))).symm⟩
    | exact Or.inr ⟨by omega, (quS_o (by omega) (by omega)).symm⟩
theorem v_X11_question_72_3 {F : Nat → Nat → Nat} (a : Nat) (G2 : XG) (G : XG)
    (hR : RV (G.2.1 (F a 10)))
    (c_G2_F_a_10 : G2.2.1 (F a 10) = G.2.1 (F a 10)) :
    RV (G2.2.1 (F a 10)) := by simp only [c_G2_F_a_10]; assumption
theorem v_X11_question_72_4 {F : Nat → Nat → Nat} (a : Nat) (G2 : XG) (G : XG)
    (hM : RM (G.2.1 (F a 1)) (0))
    (c_G2_F_a_1 : G2.2.1 (F a 1) = G.2.1 (F a 1)) :
    RM (G2.2.1 (F a 1)) (0 : Int) := by simp only [c_G2_F_a_1]; assumption
theorem v_X11_question_83_5 {K : Nat → Nat} {F : Nat → Nat → Nat} (a : Nat) (G : XG) (p0 : Int32) (x7 : Int32) (x27 : Int32) (p1 : Int32) (x37 : Int32) (p2 : Int32) (x72 : Int32)
    (ha : K a = 13)
    (t7 : (x7.toInt = 1 ∧ 0 ≤ p0.toInt ∧ p0.toInt ≤ 11 ∧ (aI (G.2.1 (F a 10)) (10 * p0.toInt + 0)) ≠ -1) ∨ (x7.toInt = 0 ∧ (¬ (0 ≤ p0.toInt ∧ p0.toInt ≤ 11) ∨ (aI (G.2.1 (F a 10)) (10 * p0.toInt + 0)) = -1)))
    (c10 : ¬ (x7.toInt = 0))
    (t27 : (x27.toInt = 1 ∧ (sF (aI (G.2.1 (F a 10)) (10 * p0.toInt + 0))) ≤ p1.toInt ∧ p1.toInt ≤ (sL (aI (G.2.1 (F a 10)) (10 * p0.toInt + 0)))) ∨ (x27.toInt = 0 ∧ (p1.toInt < (sF (aI (G.2.1 (F a 10)) (10 * p0.toInt + 0))) ∨ (sL (aI (G.2.1 (F a 10)) (10 * p0.toInt + 0))) < p1.toInt)))
    (c30 : ¬ (x27.toInt = 0))
    (t37 : (x37.toInt = 1 ∧ (0 : Int) ≤ p2.toInt ∧ p2.toInt ≤ (1 : Int)) ∨ (x37.toInt = 0 ∧ (p2.toInt < (0 : Int) ∨ (1 : Int) < p2.toInt)))
    (c40 : x37.toInt ≠ 0)
    (c47 : p2.toInt ≠ 0)
    (t72 : x72.toInt = (flq (mw (G.2.1 (F a 1)) 0) (aI (G.2.1 (F a 10)) (10 * p0.toInt + 0)) (aI (G.2.1 (F a 10)) (10 * p0.toInt + 1)) (aI (G.2.1 (F a 10)) (10 * p0.toInt + 2)) (aI (G.2.1 (F a 10)) (10 * p0.toInt + 4)) (aI (G.2.1 (F a 10)) (10 * p0.toInt + 5)) (p1.toInt) (stt (mw (G.2.1 (F a 1)) 0) (aI (G.2.1 (F a 10)) (10 * p0.toInt + 0)) (aI (G.2.1 (F a 10)) (10 * p0.toInt + 1)) (aI (G.2.1 (F a 10)) (10 * p0.toInt + 2)) (aI (G.2.1 (F a 10)) (10 * p0.toInt + 3)) (p1.toInt))))
    (f18 : x72.toInt = 0 ∨ x72.toInt = 1)
    (c75 : x72.toInt = 0) :
    (¬ (0 ≤ p0.toInt ∧ p0.toInt ≤ 11 ∧ aI (G.2.1 (F a 10)) (10 * p0.toInt + 0) ≠ -1) ∧ (0 : Int) = -2147483648) ∨ ((0 ≤ p0.toInt ∧ p0.toInt ≤ 11 ∧ aI (G.2.1 (F a 10)) (10 * p0.toInt + 0) ≠ -1) ∧ (0 : Int) = quS (mw (G.2.1 (F a 1)) 0) (aI (G.2.1 (F a 10)) (10 * p0.toInt + 0)) (aI (G.2.1 (F a 10)) (10 * p0.toInt + 1)) (aI (G.2.1 (F a 10)) (10 * p0.toInt + 2)) (aI (G.2.1 (F a 10)) (10 * p0.toInt + 3)) (aI (G.2.1 (F a 10)) (10 * p0.toInt + 4)) (aI (G.2.1 (F a 10)) (10 * p0.toInt + 5)) p1.toInt p2.toInt) := by
  first
    | exact Or.inr ⟨by omega, (quS_0 (sbj_FL.mpr (by omega)) (by omega)).symm⟩
    | exact Or.inr ⟨by omega, (by rw [quS_1 (sbj_FL.mpr (by omega)) (by omega), ← t72]; omega)⟩
theorem v_X11_question_83_6 {K : Nat → Nat} {F : Nat → Nat → Nat} (a : Nat) (G : XG) (p0 : Int32) (x7 : Int32) (x27 : Int32) (p1 : Int32) (x37 : Int32) (p2 : Int32) (x72 : Int32)
    (ha : K a = 13)
    (t7 : (x7.toInt = 1 ∧ 0 ≤ p0.toInt ∧ p0.toInt ≤ 11 ∧ (aI (G.2.1 (F a 10)) (10 * p0.toInt + 0)) ≠ -1) ∨ (x7.toInt = 0 ∧ (¬ (0 ≤ p0.toInt ∧ p0.toInt ≤ 11) ∨ (aI (G.2.1 (F a 10)) (10 * p0.toInt + 0)) = -1)))
    (c10 : ¬ (x7.toInt = 0))
    (t27 : (x27.toInt = 1 ∧ (sF (aI (G.2.1 (F a 10)) (10 * p0.toInt + 0))) ≤ p1.toInt ∧ p1.toInt ≤ (sL (aI (G.2.1 (F a 10)) (10 * p0.toInt + 0)))) ∨ (x27.toInt = 0 ∧ (p1.toInt < (sF (aI (G.2.1 (F a 10)) (10 * p0.toInt + 0))) ∨ (sL (aI (G.2.1 (F a 10)) (10 * p0.toInt + 0))) < p1.toInt)))
    (c30 : ¬ (x27.toInt = 0))
    (t37 : (x37.toInt = 1 ∧ (0 : Int) ≤ p2.toInt ∧ p2.toInt ≤ (1 : Int)) ∨ (x37.toInt = 0 ∧ (p2.toInt < (0 : Int) ∨ (1 : Int) < p2.toInt)))
    (c40 : x37.toInt ≠ 0)
    (c47 : p2.toInt ≠ 0)
    (t72 : x72.toInt = (flq (mw (G.2.1 (F a 1)) 0) (aI (G.2.1 (F a 10)) (10 * p0.toInt + 0)) (aI (G.2.1 (F a 10)) (10 * p0.toInt + 1)) (aI (G.2.1 (F a 10)) (10 * p0.toInt + 2)) (aI (G.2.1 (F a 10)) (10 * p0.toInt + 4)) (aI (G.2.1 (F a 10)) (10 * p0.toInt + 5)) (p1.toInt) (stt (mw (G.2.1 (F a 1)) 0) (aI (G.2.1 (F a 10)) (10 * p0.toInt + 0)) (aI (G.2.1 (F a 10)) (10 * p0.toInt + 1)) (aI (G.2.1 (F a 10)) (10 * p0.toInt + 2)) (aI (G.2.1 (F a 10)) (10 * p0.toInt + 3)) (p1.toInt))))
    (f18 : x72.toInt = 0 ∨ x72.toInt = 1)
    (c75 : ¬ (x72.toInt = 0)) :
    (¬ (0 ≤ p0.toInt ∧ p0.toInt ≤ 11 ∧ aI (G.2.1 (F a 10)) (10 * p0.toInt + 0) ≠ -1) ∧ (1 : Int) = -2147483648) ∨ ((0 ≤ p0.toInt ∧ p0.toInt ≤ 11 ∧ aI (G.2.1 (F a 10)) (10 * p0.toInt + 0) ≠ -1) ∧ (1 : Int) = quS (mw (G.2.1 (F a 1)) 0) (aI (G.2.1 (F a 10)) (10 * p0.toInt + 0)) (aI (G.2.1 (F a 10)) (10 * p0.toInt + 1)) (aI (G.2.1 (F a 10)) (10 * p0.toInt + 2)) (aI (G.2.1 (F a 10)) (10 * p0.toInt + 3)) (aI (G.2.1 (F a 10)) (10 * p0.toInt + 4)) (aI (G.2.1 (F a 10)) (10 * p0.toInt + 5)) p1.toInt p2.toInt) := by
  first
    | exact Or.inr ⟨by omega, (quS_0 (sbj_FL.mpr (by omega)) (by omega)).symm⟩
    | exact Or.inr ⟨by omega, (by rw [quS_1 (sbj_FL.mpr (by omega)) (by omega), ← t72]; omega)⟩
theorem v_X11_question_58_7 {F : Nat → Nat → Nat} (a : Nat) (G2 : XG) (G : XG)
    (hR : RV (G.2.1 (F a 10)))
    (c_G2_F_a_10 : G2.2.1 (F a 10) = G.2.1 (F a 10)) :
    RV (G2.2.1 (F a 10)) := by simp only [c_G2_F_a_10]; assumption
theorem v_X11_question_58_8 {F : Nat → Nat → Nat} (a : Nat) (G2 : XG) (G : XG)
    (hM : RM (G.2.1 (F a 1)) (0))
    (c_G2_F_a_1 : G2.2.1 (F a 1) = G.2.1 (F a 1)) :
    RM (G2.2.1 (F a 1)) (0 : Int) := by simp only [c_G2_F_a_1]; assumption
theorem v_X11_question_83_9 {K : Nat → Nat} {F : Nat → Nat → Nat} (a : Nat) (G : XG) (p0 : Int32) (p1 : Int32) (x7 : Int32) (x27 : Int32) (x37 : Int32) (p2 : Int32)
    (ha : K a = 13)
    (t7 : (x7.toInt = 1 ∧ 0 ≤ p0.toInt ∧ p0.toInt ≤ 11 ∧ (aI (G.2.1 (F a 10)) (10 * p0.toInt + 0)) ≠ -1) ∨ (x7.toInt = 0 ∧ (¬ (0 ≤ p0.toInt ∧ p0.toInt ≤ 11) ∨ (aI (G.2.1 (F a 10)) (10 * p0.toInt + 0)) = -1)))
    (c10 : ¬ (x7.toInt = 0))
    (t27 : (x27.toInt = 1 ∧ (sF (aI (G.2.1 (F a 10)) (10 * p0.toInt + 0))) ≤ p1.toInt ∧ p1.toInt ≤ (sL (aI (G.2.1 (F a 10)) (10 * p0.toInt + 0)))) ∨ (x27.toInt = 0 ∧ (p1.toInt < (sF (aI (G.2.1 (F a 10)) (10 * p0.toInt + 0))) ∨ (sL (aI (G.2.1 (F a 10)) (10 * p0.toInt + 0))) < p1.toInt)))
    (c30 : ¬ (x27.toInt = 0))
    (t37 : (x37.toInt = 1 ∧ (0 : Int) ≤ p2.toInt ∧ p2.toInt ≤ (1 : Int)) ∨ (x37.toInt = 0 ∧ (p2.toInt < (0 : Int) ∨ (1 : Int) < p2.toInt)))
    (c40 : x37.toInt ≠ 0)
    (c47 : ¬ (p2.toInt ≠ 0)) :
    (¬ (0 ≤ p0.toInt ∧ p0.toInt ≤ 11 ∧ aI (G.2.1 (F a 10)) (10 * p0.toInt + 0) ≠ -1) ∧ (stt (mw (G.2.1 (F a 1)) 0) (aI (G.2.1 (F a 10)) (10 * p0.toInt + 0)) (aI (G.2.1 (F a 10)) (10 * p0.toInt + 1)) (aI (G.2.1 (F a 10)) (10 * p0.toInt + 2)) (aI (G.2.1 (F a 10)) (10 * p0.toInt + 3)) (p1.toInt)) = -2147483648) ∨ ((0 ≤ p0.toInt ∧ p0.toInt ≤ 11 ∧ aI (G.2.1 (F a 10)) (10 * p0.toInt + 0) ≠ -1) ∧ (stt (mw (G.2.1 (F a 1)) 0) (aI (G.2.1 (F a 10)) (10 * p0.toInt + 0)) (aI (G.2.1 (F a 10)) (10 * p0.toInt + 1)) (aI (G.2.1 (F a 10)) (10 * p0.toInt + 2)) (aI (G.2.1 (F a 10)) (10 * p0.toInt + 3)) (p1.toInt)) = quS (mw (G.2.1 (F a 1)) 0) (aI (G.2.1 (F a 10)) (10 * p0.toInt + 0)) (aI (G.2.1 (F a 10)) (10 * p0.toInt + 1)) (aI (G.2.1 (F a 10)) (10 * p0.toInt + 2)) (aI (G.2.1 (F a 10)) (10 * p0.toInt + 3)) (aI (G.2.1 (F a 10)) (10 * p0.toInt + 4)) (aI (G.2.1 (F a 10)) (10 * p0.toInt + 5)) p1.toInt p2.toInt) := by
  first
    | exact Or.inr ⟨by omega, (quS_0 (sbj_FL.mpr (by omega)) (by omega)).symm⟩
    | exact Or.inr ⟨by omega, (by rw [quS_1 (sbj_FL.mpr (by omega)) (by omega), ← t72]; omega)⟩
theorem v_X11_question_45_10 {K : Nat → Nat} {F : Nat → Nat → Nat} (a : Nat) (G : XG) (p0 : Int32) (x7 : Int32) (x27 : Int32) (p1 : Int32) (x37 : Int32) (p2 : Int32)
    (ha : K a = 13)
    (t7 : (x7.toInt = 1 ∧ 0 ≤ p0.toInt ∧ p0.toInt ≤ 11 ∧ (aI (G.2.1 (F a 10)) (10 * p0.toInt + 0)) ≠ -1) ∨ (x7.toInt = 0 ∧ (¬ (0 ≤ p0.toInt ∧ p0.toInt ≤ 11) ∨ (aI (G.2.1 (F a 10)) (10 * p0.toInt + 0)) = -1)))
    (c10 : ¬ (x7.toInt = 0))
    (t27 : (x27.toInt = 1 ∧ (sF (aI (G.2.1 (F a 10)) (10 * p0.toInt + 0))) ≤ p1.toInt ∧ p1.toInt ≤ (sL (aI (G.2.1 (F a 10)) (10 * p0.toInt + 0)))) ∨ (x27.toInt = 0 ∧ (p1.toInt < (sF (aI (G.2.1 (F a 10)) (10 * p0.toInt + 0))) ∨ (sL (aI (G.2.1 (F a 10)) (10 * p0.toInt + 0))) < p1.toInt)))
    (c30 : ¬ (x27.toInt = 0))
    (t37 : (x37.toInt = 1 ∧ (0 : Int) ≤ p2.toInt ∧ p2.toInt ≤ (1 : Int)) ∨ (x37.toInt = 0 ∧ (p2.toInt < (0 : Int) ∨ (1 : Int) < p2.toInt)))
    (c40 : ¬ (x37.toInt ≠ 0)) :
    (¬ (0 ≤ p0.toInt ∧ p0.toInt ≤ 11 ∧ aI (G.2.1 (F a 10)) (10 * p0.toInt + 0) ≠ -1) ∧ (-2147483648 : Int) = -2147483648) ∨ ((0 ≤ p0.toInt ∧ p0.toInt ≤ 11 ∧ aI (G.2.1 (F a 10)) (10 * p0.toInt + 0) ≠ -1) ∧ (-2147483648 : Int) = quS (mw (G.2.1 (F a 1)) 0) (aI (G.2.1 (F a 10)) (10 * p0.toInt + 0)) (aI (G.2.1 (F a 10)) (10 * p0.toInt + 1)) (aI (G.2.1 (F a 10)) (10 * p0.toInt + 2)) (aI (G.2.1 (F a 10)) (10 * p0.toInt + 3)) (aI (G.2.1 (F a 10)) (10 * p0.toInt + 4)) (aI (G.2.1 (F a 10)) (10 * p0.toInt + 5)) p1.toInt p2.toInt) := by
  first
    | exact Or.inl ⟨by omega, rfl⟩
    | exact Or.inr ⟨by omega, (quS_n (fun h => absurd (sbj_FL.mp h) (by omega))).symm⟩
    | exact Or.inr ⟨by omega, (quS_o (by omega) (by omega)).symm⟩
theorem v_X11_count_66_1 {F : Nat → Nat → Nat} (a : Nat) (G2 : XG) (G : XG)
    (hM : RM (G.2.1 (F a 1)) (0))
    (hB : RM (G.2.1 (F a 2)) 0)
    (c_G2_F_a_1 : G2.2.1 (F a 1) = G.2.1 (F a 1)) :
    RM (G2.2.1 (F a 1)) (0) := by simp only [c_G2_F_a_1]; assumption
theorem v_X11_count_71_2 {F : Nat → Nat → Nat} (a : Nat) (G2 : XG) (G : XG)
    (hR : RV (G.2.1 (F a 10)))
    (c_G2_F_a_10 : G2.2.1 (F a 10) = G.2.1 (F a 10)) :
    RV (G2.2.1 (F a 10)) := by simp only [c_G2_F_a_10]; assumption
theorem v_X11_count_71_3 {F : Nat → Nat → Nat} (a : Nat) (G2 : XG) (G : XG)
    (hM : RM (G.2.1 (F a 1)) (0))
    (hB : RM (G.2.1 (F a 2)) 0)
    (c_G2_F_a_1 : G2.2.1 (F a 1) = G.2.1 (F a 1)) :
    RM (G2.2.1 (F a 1)) (0) := by simp only [c_G2_F_a_1]; assumption
theorem v_X11_count_71_4 {F : Nat → Nat → Nat} (a : Nat) (G2 : XG) (G : XG)
    (hM : RM (G.2.1 (F a 1)) (0))
    (hB : RM (G.2.1 (F a 2)) 0)
    (c_G2_F_a_2 : G2.2.1 (F a 2) = G.2.1 (F a 2)) :
    RM (G2.2.1 (F a 2)) 0 := by simp only [c_G2_F_a_2]; assumption
theorem v_X11_rows_23_1 {K : Nat → Nat} {F : Nat → Nat → Nat} (a : Nat) (G : XG) (x6 : Int32) (p0 : Int32) (p1 : Int32)
    (ha : K a = 13)
    (t6 : (x6.toInt = 1 ∧ 0 ≤ p0.toInt ∧ p0.toInt ≤ 2) ∨ (x6.toInt = 0 ∧ (p0.toInt < 0 ∨ 2 < p0.toInt)))
    (c9 : x6.toInt = 0) :
    (¬ ((0 ≤ p0.toInt ∧ p0.toInt ≤ 2) ∧ (p1.toInt = 0 ∨ p1.toInt = 1)) ∧ (-1 : Int) = -1) ∨ ((0 ≤ p0.toInt ∧ p0.toInt ≤ 2) ∧ p1.toInt = 0 ∧ (-1 : Int) = rmR (G.2.1 (F a 1)) p0.toInt 30) ∨ ((0 ≤ p0.toInt ∧ p0.toInt ≤ 2) ∧ p1.toInt = 1 ∧ ∀ j : Int, 0 ≤ j → j < 32 → bI (-1 : Int) j = if j < 30 then aI (G.2.1 (F a 1)) (4 * (30 * p0.toInt + j)) else 0) := by
  exact Or.inl ⟨by omega, rfl⟩
theorem v_X11_rows_88_2 {K : Nat → Nat} {F : Nat → Nat → Nat} (a : Nat) (G : XG) (l4_32 : Int32) (l5_32 : Int32) (p0 : Int32) (x6 : Int32) (x16 : Int32) (p1 : Int32) (l3_32 : Int32) (N32 : Nat)
    (ha : K a = 13)
    (pb : ∀ j : Int, 0 ≤ j → j < 32 → bI l4_32.toInt j = if j < l5_32.toInt then aI (G.2.1 (F a 1)) (4 * (30 * p0.toInt + j)) else 0)
    (t6 : (x6.toInt = 1 ∧ 0 ≤ p0.toInt ∧ p0.toInt ≤ 2) ∨ (x6.toInt = 0 ∧ (p0.toInt < 0 ∨ 2 < p0.toInt)))
    (c9 : ¬ (x6.toInt = 0))
    (t16 : (x16.toInt = 1 ∧ (0 : Int) ≤ p1.toInt ∧ p1.toInt ≤ (1 : Int)) ∨ (x16.toInt = 0 ∧ (p1.toInt < (0 : Int) ∨ (1 : Int) < p1.toInt)))
    (c19 : x16.toInt ≠ 0)
    (z24 : (rmR (G.2.1 (F a 1)) (p0.toInt) 0) = 0)
    (I32_0 : 0 ≤ l5_32.toInt ∧ l5_32.toInt ≤ 30)
    (I32_1 : l3_32.toInt = (rmR (G.2.1 (F a 1)) (p0.toInt) (l5_32.toInt)))
    (I32_2 : 0 ≤ l3_32.toInt ∧ l3_32.toInt ≤ l5_32.toInt)
    (I32_3 : (0 : Int) ≤ l5_32.toInt)
    (hm32 : 2147483648 - l5_32.toInt < (((N32) + 1 : Nat) : Int))
    (c36 : (30 : Int) ≤ l5_32.toInt)
    (z78 : l5_32.toInt = 30 → (rmR (G.2.1 (F a 1)) (p0.toInt) (l5_32.toInt)) = (rmR (G.2.1 (F a 1)) (p0.toInt) 30))
    (c79 : p1.toInt ≠ 0) :
    (¬ ((0 ≤ p0.toInt ∧ p0.toInt ≤ 2) ∧ (p1.toInt = 0 ∨ p1.toInt = 1)) ∧ l4_32.toInt = -1) ∨ ((0 ≤ p0.toInt ∧ p0.toInt ≤ 2) ∧ p1.toInt = 0 ∧ l4_32.toInt = rmR (G.2.1 (F a 1)) p0.toInt 30) ∨ ((0 ≤ p0.toInt ∧ p0.toInt ≤ 2) ∧ p1.toInt = 1 ∧ ∀ j : Int, 0 ≤ j → j < 32 → bI l4_32.toInt j = if j < 30 then aI (G.2.1 (F a 1)) (4 * (30 * p0.toInt + j)) else 0) := by
  first
    | exact Or.inr (Or.inl ⟨by omega, by omega, by omega⟩)
    | exact Or.inr (Or.inr ⟨by omega, by omega, fun j h1 h2 => by rw [pb j h1 h2, show l5_32.toInt = 30 by omega]⟩)
theorem v_X11_rows_88_3 {K : Nat → Nat} {F : Nat → Nat → Nat} (a : Nat) (G : XG) (l4_32 : Int32) (l5_32 : Int32) (p0 : Int32) (x6 : Int32) (x16 : Int32) (p1 : Int32) (l3_32 : Int32) (N32 : Nat)
    (ha : K a = 13)
    (pb : ∀ j : Int, 0 ≤ j → j < 32 → bI l4_32.toInt j = if j < l5_32.toInt then aI (G.2.1 (F a 1)) (4 * (30 * p0.toInt + j)) else 0)
    (t6 : (x6.toInt = 1 ∧ 0 ≤ p0.toInt ∧ p0.toInt ≤ 2) ∨ (x6.toInt = 0 ∧ (p0.toInt < 0 ∨ 2 < p0.toInt)))
    (c9 : ¬ (x6.toInt = 0))
    (t16 : (x16.toInt = 1 ∧ (0 : Int) ≤ p1.toInt ∧ p1.toInt ≤ (1 : Int)) ∨ (x16.toInt = 0 ∧ (p1.toInt < (0 : Int) ∨ (1 : Int) < p1.toInt)))
    (c19 : x16.toInt ≠ 0)
    (z24 : (rmR (G.2.1 (F a 1)) (p0.toInt) 0) = 0)
    (I32_0 : 0 ≤ l5_32.toInt ∧ l5_32.toInt ≤ 30)
    (I32_1 : l3_32.toInt = (rmR (G.2.1 (F a 1)) (p0.toInt) (l5_32.toInt)))
    (I32_2 : 0 ≤ l3_32.toInt ∧ l3_32.toInt ≤ l5_32.toInt)
    (I32_3 : (0 : Int) ≤ l5_32.toInt)
    (hm32 : 2147483648 - l5_32.toInt < (((N32) + 1 : Nat) : Int))
    (c36 : (30 : Int) ≤ l5_32.toInt)
    (z78 : l5_32.toInt = 30 → (rmR (G.2.1 (F a 1)) (p0.toInt) (l5_32.toInt)) = (rmR (G.2.1 (F a 1)) (p0.toInt) 30))
    (c79 : ¬ (p1.toInt ≠ 0)) :
    (¬ ((0 ≤ p0.toInt ∧ p0.toInt ≤ 2) ∧ (p1.toInt = 0 ∨ p1.toInt = 1)) ∧ l3_32.toInt = -1) ∨ ((0 ≤ p0.toInt ∧ p0.toInt ≤ 2) ∧ p1.toInt = 0 ∧ l3_32.toInt = rmR (G.2.1 (F a 1)) p0.toInt 30) ∨ ((0 ≤ p0.toInt ∧ p0.toInt ≤ 2) ∧ p1.toInt = 1 ∧ ∀ j : Int, 0 ≤ j → j < 32 → bI l3_32.toInt j = if j < 30 then aI (G.2.1 (F a 1)) (4 * (30 * p0.toInt + j)) else 0) := by
  first
    | exact Or.inr (Or.inl ⟨by omega, by omega, by omega⟩)
    | exact Or.inr (Or.inr ⟨by omega, by omega, fun j h1 h2 => by rw [pb j h1 h2, show l5_32.toInt = 30 by omega]⟩)
theorem v_X11_rows_75_4 {K : Nat → Nat} {F : Nat → Nat → Nat} (a : Nat) (G : XG) (l4_32 : Int32) (l5_32 : Int32) (p0 : Int32) (x65 : Int32) (x68 : Int32) (x69 : Int32) (x6 : Int32) (x16 : Int32) (p1 : Int32) (l3_32 : Int32) (N32 : Nat) (x47 : Int32) (x62 : Int32)
    (ha : K a = 13)
    (hM : RM (G.2.1 (F a 1)) (0))
    (pb : ∀ j : Int, 0 ≤ j → j < 32 → bI l4_32.toInt j = if j < l5_32.toInt then aI (G.2.1 (F a 1)) (4 * (30 * p0.toInt + j)) else 0)
    (hv65 : x65.toInt = (aI (G.2.1 (F a 1)) (4 * (30 * p0.toInt + l5_32.toInt))))
    (he68 : x68 = (x65 : Int32) <<< (l5_32 &&& 31))
    (he69 : x69 = l4_32 ||| x68)
    (t6 : (x6.toInt = 1 ∧ 0 ≤ p0.toInt ∧ p0.toInt ≤ 2) ∨ (x6.toInt = 0 ∧ (p0.toInt < 0 ∨ 2 < p0.toInt)))
    (c9 : ¬ (x6.toInt = 0))
    (t16 : (x16.toInt = 1 ∧ (0 : Int) ≤ p1.toInt ∧ p1.toInt ≤ (1 : Int)) ∨ (x16.toInt = 0 ∧ (p1.toInt < (0 : Int) ∨ (1 : Int) < p1.toInt)))
    (c19 : x16.toInt ≠ 0)
    (z24 : (rmR (G.2.1 (F a 1)) (p0.toInt) 0) = 0)
    (I32_0 : 0 ≤ l5_32.toInt ∧ l5_32.toInt ≤ 30)
    (I32_1 : l3_32.toInt = (rmR (G.2.1 (F a 1)) (p0.toInt) (l5_32.toInt)))
    (I32_2 : 0 ≤ l3_32.toInt ∧ l3_32.toInt ≤ l5_32.toInt)
    (I32_3 : (0 : Int) ≤ l5_32.toInt)
    (hm32 : 2147483648 - l5_32.toInt < (((N32) + 1 : Nat) : Int))
    (c36 : ¬ ((30 : Int) ≤ l5_32.toInt))
    (z39 : (aI (G.2.1 (F a 1)) (4 * (30 * p0.toInt + l5_32.toInt))) = 0 ∨ (aI (G.2.1 (F a 1)) (4 * (30 * p0.toInt + l5_32.toInt))) = 1)
    (z39a : (rmR (G.2.1 (F a 1)) (p0.toInt) (l5_32.toInt + 1)) = (rmR (G.2.1 (F a 1)) (p0.toInt) (l5_32.toInt)) + (aI (G.2.1 (F a 1)) (4 * (30 * p0.toInt + l5_32.toInt))))
    (t47 : 0 ≤ p0.toInt ∧ p0.toInt ≤ 2 ∧ 0 ≤ l5_32.toInt ∧ l5_32.toInt ≤ 29 → x47.toInt = 4 * (30 * p0.toInt + l5_32.toInt))
    (t62 : 0 ≤ p0.toInt ∧ p0.toInt ≤ 2 ∧ 0 ≤ l5_32.toInt ∧ l5_32.toInt ≤ 29 → x62.toInt = 4 * (30 * p0.toInt + l5_32.toInt)) :
    ∀ j : Int, 0 ≤ j → j < 32 → bI x69.toInt j = if j < (l5_32.toInt + 1) then aI (G.2.1 (F a 1)) (4 * (30 * p0.toInt + j)) else 0 := by
  have h01 := hM.is2 (t := p0.toInt) (k := l5_32.toInt) (by omega) (by omega)
  have hz : bI l4_32.toInt l5_32.toInt = 0 := by rw [pb l5_32.toInt (by omega) (by omega), if_neg (by omega)]
  intro j h1 h2
  rw [bI_or01 hv65 h01 he68 he69 rfl rfl (by omega) hz j h1 h2, pb j h1 h2]
  by_cases e : j = l5_32.toInt
  · rw [if_pos e, if_pos (by omega), e]
  · rw [if_neg e]
    by_cases g : j < l5_32.toInt
    · rw [if_pos g, if_pos (by omega)]
    · rw [if_neg g, if_neg (by omega)]
theorem v_X11_rows_30_5 {K : Nat → Nat} {F : Nat → Nat → Nat} (a : Nat) (G : XG) (x6 : Int32) (p0 : Int32) (x16 : Int32) (p1 : Int32)
    (ha : K a = 13)
    (t6 : (x6.toInt = 1 ∧ 0 ≤ p0.toInt ∧ p0.toInt ≤ 2) ∨ (x6.toInt = 0 ∧ (p0.toInt < 0 ∨ 2 < p0.toInt)))
    (c9 : ¬ (x6.toInt = 0))
    (t16 : (x16.toInt = 1 ∧ (0 : Int) ≤ p1.toInt ∧ p1.toInt ≤ (1 : Int)) ∨ (x16.toInt = 0 ∧ (p1.toInt < (0 : Int) ∨ (1 : Int) < p1.toInt)))
    (c19 : x16.toInt ≠ 0)
    (z24 : (rmR (G.2.1 (F a 1)) (p0.toInt) 0) = 0) :
    ∀ j : Int, 0 ≤ j → j < 32 → bI (0 : Int) j = if j < (0 : Int) then aI (G.2.1 (F a 1)) (4 * (30 * p0.toInt + j)) else 0 := by
  intro j h1 h2
  rw [if_neg (by omega)]
  exact bI_0 j
theorem v_X11_rows_23_6 {K : Nat → Nat} {F : Nat → Nat → Nat} (a : Nat) (G : XG) (x6 : Int32) (p0 : Int32) (x16 : Int32) (p1 : Int32)
    (ha : K a = 13)
    (t6 : (x6.toInt = 1 ∧ 0 ≤ p0.toInt ∧ p0.toInt ≤ 2) ∨ (x6.toInt = 0 ∧ (p0.toInt < 0 ∨ 2 < p0.toInt)))
    (c9 : ¬ (x6.toInt = 0))
    (t16 : (x16.toInt = 1 ∧ (0 : Int) ≤ p1.toInt ∧ p1.toInt ≤ (1 : Int)) ∨ (x16.toInt = 0 ∧ (p1.toInt < (0 : Int) ∨ (1 : Int) < p1.toInt)))
    (c19 : ¬ (x16.toInt ≠ 0)) :
    (¬ ((0 ≤ p0.toInt ∧ p0.toInt ≤ 2) ∧ (p1.toInt = 0 ∨ p1.toInt = 1)) ∧ (-1 : Int) = -1) ∨ ((0 ≤ p0.toInt ∧ p0.toInt ≤ 2) ∧ p1.toInt = 0 ∧ (-1 : Int) = rmR (G.2.1 (F a 1)) p0.toInt 30) ∨ ((0 ≤ p0.toInt ∧ p0.toInt ≤ 2) ∧ p1.toInt = 1 ∧ ∀ j : Int, 0 ≤ j → j < 32 → bI (-1 : Int) j = if j < 30 then aI (G.2.1 (F a 1)) (4 * (30 * p0.toInt + j)) else 0) := by
  exact Or.inl ⟨by omega, rfl⟩
abbrev rm_X11_verdict : Room := { frames := 0, cells := 0, slots := 0, locals := 0 }
set_option maxHeartbeats 4000000 in
set_option maxRecDepth 100000 in
theorem c_X11_verdict (l : Launch) (E : XE) (K : Nat → Nat) (F : Nat → Nat → Nat) (G : XG) (a : Nat) (p0 : Int32) (ha : K a = 13) : Met l yX11_verdict (xw yX11_verdict cX11_verdict 2 (some .int)) rm_X11_verdict (va_Pc [.ref a, .int p0] (XP E K F G)) (XQ E (fun v (u : XG) => ∃ r : Int32, v = .int r ∧ XFr [(a, 0)] [] [] G u) (fun u H => TW E K F u H)) 0 0 (xA E) := by
  refine x_enter (by decide) (Nat.le_of_ble_eq_true rfl) ?_
  intro p e s m args below meth c Q S hr hlk hnm hQ hP ls hl
  obtain ⟨hz, hK, hT⟩ := hP
  obtain ⟨hx, hb, -, -, -⟩ := id S
  obtain ⟨H, hT, hS, hgo⟩ : ∃ H : Heap, TW E K F G H ∧ va_S (xA E) s.heap H [] ∧ H = s.heap := ⟨_, hT, va_S.rf, rfl⟩
  rw [← hgo]
  have hl : lv_has ls 2 [(0, .ref a), (1, .int p0)] := hl
  refine lv_aload_n hx hb dX11_verdict_0 rfl (lv_at hl 0 rfl) ?_
  refine lv_iconst (v := 0) hx hb dX11_verdict_1 (by decide) ?_
  refine pX11_0 (v := 0) S hK hT hS ha kf_X11_134 dX11_verdict_2 (fun H locs hT hS => ?_)
  obtain ⟨G2, hG2⟩ : ∃ GG : XG, GG = dput G a 0 0 := ⟨_, rfl⟩
  rw [← hG2] at hT
  refine lv_iload_n hx hb dX11_verdict_5 rfl (lv_at hl 1 rfl) ?_
  refine xi_zne (tgt := 16) hx hb (rfl : Int32.toInt p0 = p0.toInt) dX11_verdict_6 (by decide) (fun c6 => ?_) (fun c6 => ?_)
  · refine lv_iload_n hx hb dX11_verdict_16 rfl (lv_at hl 1 rfl) ?_
    refine lv_iconst (v := 1) hx hb dX11_verdict_17 (by decide) ?_
    refine xi_cne (tgt := 28) hx hb (rfl : Int32.toInt p0 = p0.toInt) ((by decide) : Int32.toInt 1 = (1 : Int)) dX11_verdict_18 (by decide) (fun c18 => ?_) (fun c18 => ?_)
    · refine lv_iload_n hx hb dX11_verdict_28 rfl (lv_at hl 1 rfl) ?_
      refine lv_iconst (v := 2) hx hb dX11_verdict_29 (by decide) ?_
      refine xi_cne (tgt := 40) hx hb (rfl : Int32.toInt p0 = p0.toInt) ((by decide) : Int32.toInt 2 = (2 : Int)) dX11_verdict_30 (by decide) (fun c30 => ?_) (fun c30 => ?_)
      · refine lv_ldc (v := (-2147483648)) hx hb S.2.2.2.1 (S.2.2.2.2 _ (List.mem_cons_of_mem _ kc_X11_57)) dX11_verdict_40 ?_
        exact x_ri hx hb hr hlk hQ (Nat.le_of_ble_eq_true rfl) (Nat.le_of_ble_eq_true rfl) hS dX11_verdict_42 G2 ⟨_, rfl, (by rw [hG2]; exact XFr.dput XFr.rf (List.mem_of_getElem? (i := 0) rfl))⟩ hT
      · refine lv_aload_n hx hb dX11_verdict_33 rfl (lv_at hl 0 rfl) ?_
        refine gX11_23 S hK hT ha kf_X11_224 dX11_verdict_34 (v := (G.1 a 23)) (ld_j hG2 (by decide)) (?_)
        refine lv_goto (tgt := 42) hx hb dX11_verdict_37 (by decide) ?_
        exact x_ri hx hb hr hlk hQ (Nat.le_of_ble_eq_true rfl) (Nat.le_of_ble_eq_true rfl) hS dX11_verdict_42 G2 ⟨_, rfl, (by rw [hG2]; exact XFr.dput XFr.rf (List.mem_of_getElem? (i := 0) rfl))⟩ hT
    · refine lv_aload_n hx hb dX11_verdict_21 rfl (lv_at hl 0 rfl) ?_
      refine gX11_21 S hK hT ha kf_X11_62 dX11_verdict_22 (v := (G.1 a 21)) (ld_j hG2 (by decide)) (?_)
      refine lv_goto (tgt := 42) hx hb dX11_verdict_25 (by decide) ?_
      exact x_ri hx hb hr hlk hQ (Nat.le_of_ble_eq_true rfl) (Nat.le_of_ble_eq_true rfl) hS dX11_verdict_42 G2 ⟨_, rfl, (by rw [hG2]; exact XFr.dput XFr.rf (List.mem_of_getElem? (i := 0) rfl))⟩ hT
  · refine lv_aload_n hx hb dX11_verdict_9 rfl (lv_at hl 0 rfl) ?_
    refine gX11_20 S hK hT ha kf_X11_58 dX11_verdict_10 (v := (G.1 a 20)) (ld_j hG2 (by decide)) (?_)
    refine lv_goto (tgt := 42) hx hb dX11_verdict_13 (by decide) ?_
    exact x_ri hx hb hr hlk hQ (Nat.le_of_ble_eq_true rfl) (Nat.le_of_ble_eq_true rfl) hS dX11_verdict_42 G2 ⟨_, rfl, (by rw [hG2]; exact XFr.dput XFr.rf (List.mem_of_getElem? (i := 0) rfl))⟩ hT

theorem z_X11_letter_1 (a0 : Int) (h0 : 0 ≤ a0 ∧ a0 ≤ 24) : -2147483648 ≤ a0 ∧ a0 < 2147483648 := by omega
theorem z_X11_letter_2 (a0 : Int) (a1 : Int) (a2 : Int) (h0 : 0 ≤ a2 ∧ a2 ≤ 24) (h1 : (a1 = 1 ∧ (0 : Int) ≤ a0 ∧ a0 ≤ (a2 - (1 : Int))) ∨ (a1 = 0 ∧ (a0 < (0 : Int) ∨ (a2 - (1 : Int)) < a0))) (h2 : ¬ (a1 = 0)) : 0 ≤ a0 ∧ a0 < ((24 : Nat) : Int) := by omega
abbrev rm_X11_letter : Room := { frames := 1, cells := 0, slots := 0, locals := 25 }
set_option maxHeartbeats 4000000 in
set_option maxRecDepth 100000 in
theorem c_X11_letter (l : Launch) (E : XE) (K : Nat → Nat) (F : Nat → Nat → Nat) (G : XG) (a : Nat) (p0 : Int32) (ha : K a = 13) (w0 : 0 ≤ ((G.1 a 23).toInt) ∧ ((G.1 a 23).toInt) ≤ 24) : Met l yX11_letter (xw yX11_letter cX11_letter 2 (some .int)) rm_X11_letter (va_Pc [.ref a, .int p0] (XP E K F G)) (XQ E (fun v (u : XG) => ∃ r : Int32, v = .int r ∧ XFr [(a, 0)] [] [] G u) (fun u H => TW E K F u H)) 0 0 (xA E) := by
  refine x_enter (by decide) (Nat.le_of_ble_eq_true rfl) ?_
  intro p e s m args below meth c Q S hr hlk hnm hQ hP ls hl
  obtain ⟨hz, hK, hT⟩ := hP
  obtain ⟨hx, hb, -, -, -⟩ := id S
  obtain ⟨H, hT, hS, hgo⟩ : ∃ H : Heap, TW E K F G H ∧ va_S (xA E) s.heap H [] ∧ H = s.heap := ⟨_, hT, va_S.rf, rfl⟩
  rw [← hgo]
  have hl : lv_has ls 2 [(0, .ref a), (1, .int p0)] := hl
  refine lv_aload_n hx hb dX11_letter_0 rfl (lv_at hl 0 rfl) ?_
  refine lv_iconst (v := 0) hx hb dX11_letter_1 (by decide) ?_
  refine pX11_0 (v := 0) S hK hT hS ha kf_X11_134 dX11_letter_2 (fun H locs hT hS => ?_)
  obtain ⟨G2, hG2⟩ : ∃ GG : XG, GG = dput G a 0 0 := ⟨_, rfl⟩
  rw [← hG2] at hT
  refine lv_iload_n hx hb dX11_letter_5 rfl (lv_at hl 1 rfl) ?_
  refine lv_i2l (v := p0.toInt64) hx hb dX11_letter_6 rfl ?_
  refine lv_lconst (v := (0 : Int64)) hx hb dX11_letter_7 (by decide) ?_
  refine lv_aload_n hx hb dX11_letter_8 rfl (lv_at hl 0 rfl) ?_
  refine gX11_23 S hK hT ha kf_X11_224 dX11_letter_9 (v := (G.1 a 23)) (ld_j hG2 (by decide)) (?_)
  refine lv_i2l (v := ((G.1 a 23) : Int32).toInt64) hx hb dX11_letter_12 rfl ?_
  refine lv_lconst (v := (1 : Int64)) hx hb dX11_letter_13 (by decide) ?_
  refine lv_lsub hx hb dX11_letter_14 (lv_topl (fun y14 hy14 => ?_))
  have hy14 : y14.toInt = ((G.1 a 23).toInt) - (1 : Int) := xl_sub (xl_i2l (rfl : Int32.toInt (G.1 a 23) = ((G.1 a 23).toInt))) (by decide) (z_X11_letter_1 ((G.1 a 23).toInt) w0) (by decide) hy14
  refine x_clp (x_runS (As := [.long p0.toInt64, .long (0 : Int64), .long y14]) (rest := []) S (c_X11_in l E K F G2 H p0.toInt64 p0.toInt (0 : Int64) (0 : Int) y14 (((G.1 a 23).toInt) - (1 : Int)) (xl_i2l (rfl : Int32.toInt p0 = p0.toInt)) (by decide) hy14) ms_X11_in km_X11_139 rfl rfl ⟨Nat.le_of_ble_eq_true rfl, Nat.le_of_ble_eq_true rfl⟩ hK (fun _ => XPh.blind) (fun U hU hW => XPh.at hK hz hS hT hU hW) rfl hl.1 (Nat.le_of_ble_eq_true rfl) dX11_letter_15 ⟨Nat.le_of_ble_eq_true rfl, Nat.le_of_ble_eq_true rfl⟩) hS ?_
  rintro _ _ locs ⟨x15, rfl, b15, t15⟩ hS
  have t15 : (x15.toInt = 1 ∧ (0 : Int) ≤ p0.toInt ∧ p0.toInt ≤ (((G.1 a 23).toInt) - (1 : Int))) ∨ (x15.toInt = 0 ∧ (p0.toInt < (0 : Int) ∨ (((G.1 a 23).toInt) - (1 : Int)) < p0.toInt)) := t15
  refine xi_zeq (tgt := 30) hx hb (rfl : Int32.toInt x15 = x15.toInt) dX11_letter_18 (by decide) (fun c18 => ?_) (fun c18 => ?_)
  · refine lv_iconst (v := (-1)) hx hb dX11_letter_30 (by decide) ?_
    exact x_ri hx hb hr hlk hQ (Nat.le_of_ble_eq_true rfl) (Nat.le_of_ble_eq_true rfl) hS dX11_letter_31 G2 ⟨_, rfl, (by rw [hG2]; exact XFr.dput XFr.rf (List.mem_of_getElem? (i := 0) rfl))⟩ hT
  · refine lv_aload_n hx hb dX11_letter_21 rfl (lv_at hl 0 rfl) ?_
    obtain ⟨hk22, hj22⟩ := fkX11_22 hT ha
    refine gX11_22 S hK hT ha kf_X11_65 dX11_letter_22 (fun _ _ => ?_)
    refine lv_iload_n hx hb dX11_letter_25 rfl (lv_at hl 1 rfl) ?_
    refine al_2 S hK hT hk22 ar_45 (by decide) (z_X11_letter_2 p0.toInt x15.toInt ((G.1 a 23).toInt) w0 t15 c18) dX11_letter_26 (fun x26 hv26 o26 => ?_)
    have hv26 : x26.toInt = (aI (G.2.1 (F a 22)) (p0.toInt)) := hv26.trans (by rw [(rfl : Int32.toInt p0 = p0.toInt), ((ld_c hG2) : G2.2.1 (F a 22) = G.2.1 (F a 22))])
    refine lv_goto (tgt := 31) hx hb dX11_letter_27 (by decide) ?_
    exact x_ri hx hb hr hlk hQ (Nat.le_of_ble_eq_true rfl) (Nat.le_of_ble_eq_true rfl) hS dX11_letter_31 G2 ⟨_, rfl, (by rw [hG2]; exact XFr.dput XFr.rf (List.mem_of_getElem? (i := 0) rfl))⟩ hT

theorem z_X11_value_1 (a0 : Int) (a1 : Int) (a2 : Int) (a3 : Int) (h0 : (a1 = 1 ∧ a3 ≠ -2000) ∨ (a1 = 0 ∧ a3 = -2000)) (h1 : a1 = 0) : (a3 ≠ -2000 ∧ 0 ≤ a0 ∧ a0 < 3 ∧ (1 : Int) = 0 ∧ (0 : Int) = a2) ∨ ((a3 = -2000 ∨ a0 < 0 ∨ 3 ≤ a0) ∧ (1 : Int) = 1 ∧ (0 : Int) = 0) := by omega
theorem z_X11_value_2 (a0 : Int) (a1 : Int) (a2 : Int) (a3 : Int) (h0 : (a1 = 1 ∧ 0 ≤ a0 ∧ a0 ≤ 2) ∨ (a1 = 0 ∧ (a0 < 0 ∨ 2 < a0))) (h1 : a1 = 0) : (a3 ≠ -2000 ∧ 0 ≤ a0 ∧ a0 < 3 ∧ (1 : Int) = 0 ∧ (0 : Int) = a2) ∨ ((a3 = -2000 ∨ a0 < 0 ∨ 3 ≤ a0) ∧ (1 : Int) = 1 ∧ (0 : Int) = 0) := by omega
theorem z_X11_value_3 (a0 : Int) (a1 : Int) (a2 : Int) (a3 : Int) (a4 : Int) (a5 : Int) (a6 : Int) (a7 : Int) (a8 : Int) (h0 : ¬ (0 ≤ a0 ∧ a0 < 3 ∧ 0 ≤ a1 ∧ a1 < 30) → a8 = -2000) (h1 : (a5 = 1 ∧ a8 ≠ -2000) ∨ (a5 = 0 ∧ a8 = -2000)) (h2 : ¬ (a5 = 0)) (h3 : (a3 = 1 ∧ 0 ≤ a2 ∧ a2 ≤ 2) ∨ (a3 = 0 ∧ (a2 < 0 ∨ 2 < a2))) (h4 : ¬ (a3 = 0)) (h5 : 0 ≤ a0 ∧ a0 ≤ 2 ∧ 0 ≤ a1 ∧ a1 ≤ 29 → a4 = 4 * (30 * a0 + a1)) (h6 : a6 = a4 + (1 : Int) ∨ a4 + (1 : Int) < -2147483648 ∨ 2147483648 ≤ a4 + (1 : Int)) (h7 : a7 = a6 + a2 ∨ a6 + a2 < -2147483648 ∨ 2147483648 ≤ a6 + a2) : 0 ≤ a7 ∧ a7 < ((360 : Nat) : Int) := by omega
theorem z_X11_value_4 (a0 : Int) (a1 : Int) (a2 : Int) (a3 : Int) (a4 : Int) (a5 : Int) (a6 : Int) (a7 : Int) (a8 : Int) (h0 : ¬ (0 ≤ a0 ∧ a0 < 3 ∧ 0 ≤ a1 ∧ a1 < 30) → a8 = -2000) (h1 : (a5 = 1 ∧ a8 ≠ -2000) ∨ (a5 = 0 ∧ a8 = -2000)) (h2 : ¬ (a5 = 0)) (h3 : (a3 = 1 ∧ 0 ≤ a2 ∧ a2 ≤ 2) ∨ (a3 = 0 ∧ (a2 < 0 ∨ 2 < a2))) (h4 : ¬ (a3 = 0)) (h5 : 0 ≤ a0 ∧ a0 ≤ 2 ∧ 0 ≤ a1 ∧ a1 ≤ 29 → a4 = 4 * (30 * a0 + a1)) (h6 : a6 = a4 + (1 : Int) ∨ a4 + (1 : Int) < -2147483648 ∨ 2147483648 ≤ a4 + (1 : Int)) (h7 : a7 = a6 + a2 ∨ a6 + a2 < -2147483648 ∨ 2147483648 ≤ a6 + a2) : a7 = 4 * (30 * a0 + a1) + 1 + a2 := by omega
theorem z_X11_value_5 (a0 : Int) (a1 : Int) (a2 : Int) (a3 : Int) (a4 : Int) (a5 : Int) (h0 : ¬ (0 ≤ a0 ∧ a0 < 3 ∧ 0 ≤ a1 ∧ a1 < 30) → a5 = -2000) (h1 : (a4 = 1 ∧ a5 ≠ -2000) ∨ (a4 = 0 ∧ a5 = -2000)) (h2 : ¬ (a4 = 0)) (h3 : (a3 = 1 ∧ 0 ≤ a2 ∧ a2 ≤ 2) ∨ (a3 = 0 ∧ (a2 < 0 ∨ 2 < a2))) (h4 : ¬ (a3 = 0)) : (0 ≤ a0 ∧ a0 < 3) ∧ (0 ≤ a1 ∧ a1 < 30) ∧ (0 ≤ a2 ∧ a2 < 3) := by omega
theorem z_X11_value_6 (a0 : Int) (a1 : Int) (h0 : (a0 = 1 ∧ a1 ≠ -2000) ∨ (a0 = 0 ∧ a1 = -2000)) (h1 : ¬ (a0 = 0)) : a1 ≠ -2000 := by omega
theorem z_X11_value_7 (a0 : Int) (a1 : Int) (a2 : Int) (a3 : Int) (a4 : Int) (a5 : Int) (h0 : (a2 = 1 ∧ a5 ≠ -2000) ∨ (a2 = 0 ∧ a5 = -2000)) (h1 : ¬ (a2 = 0)) (h2 : (a1 = 1 ∧ 0 ≤ a0 ∧ a0 ≤ 2) ∨ (a1 = 0 ∧ (a0 < 0 ∨ 2 < a0))) (h3 : ¬ (a1 = 0)) (h4 : a3 = a4) : (a5 ≠ -2000 ∧ 0 ≤ a0 ∧ a0 < 3 ∧ (0 : Int) = 0 ∧ a3 = a4) ∨ ((a5 = -2000 ∨ a0 < 0 ∨ 3 ≤ a0) ∧ (0 : Int) = 1 ∧ a3 = 0) := by omega
abbrev rm_X11_value : Room := { frames := 3, cells := 0, slots := 0, locals := 67 }
set_option maxHeartbeats 4000000 in
set_option maxRecDepth 100000 in
theorem c_X11_value (l : Launch) (E : XE) (K : Nat → Nat) (F : Nat → Nat → Nat) (G : XG) (a : Nat) (p0 : Int32) (p1 : Int32) (p2 : Int32) (ha : K a = 13) (hM : RM (G.2.1 (F a 1)) (0)) : Met l yX11_value (xw yX11_value cX11_value 4 (some .int)) rm_X11_value (va_Pc [.ref a, .int p0, .int p1, .int p2] (XP E K F G)) (XQ E (fun v (u : XG) => ∃ r : Int32, v = .int r ∧ XFr [(a, 0)] [] [] G u ∧ (((cel (mw (G.2.1 (F a 1)) 0) (p0.toInt) (p1.toInt) 0) ≠ -2000 ∧ 0 ≤ p2.toInt ∧ p2.toInt < 3 ∧ ((u.1 a 0).toInt) = 0 ∧ r.toInt = (cel (mw (G.2.1 (F a 1)) 0) (p0.toInt) (p1.toInt) (p2.toInt))) ∨ (((cel (mw (G.2.1 (F a 1)) 0) (p0.toInt) (p1.toInt) 0) = -2000 ∨ p2.toInt < 0 ∨ 3 ≤ p2.toInt) ∧ ((u.1 a 0).toInt) = 1 ∧ r.toInt = 0)) ∧ (u.2.2.2 = G.2.2.2)) (fun u H => TW E K F u H)) 0 0 (xA E) := by
  refine x_enter (by decide) (Nat.le_of_ble_eq_true rfl) ?_
  intro p e s m args below meth c Q S hr hlk hnm hQ hP ls hl
  obtain ⟨hz, hK, hT⟩ := hP
  obtain ⟨hx, hb, -, -, -⟩ := id S
  obtain ⟨H, hT, hS, hgo⟩ : ∃ H : Heap, TW E K F G H ∧ va_S (xA E) s.heap H [] ∧ H = s.heap := ⟨_, hT, va_S.rf, rfl⟩
  rw [← hgo]
  have hl : lv_has ls 4 [(0, .ref a), (1, .int p0), (2, .int p1), (3, .int p2)] := hl
  obtain ⟨hk9999, hj9999⟩ := fkX11_1 hT ha
  have z0 : ¬ (0 ≤ p0.toInt ∧ p0.toInt < 3 ∧ 0 ≤ p1.toInt ∧ p1.toInt < 30) → (cel (mw (G.2.1 (F a 1)) 0) (p0.toInt) (p1.toInt) 0) = -2000 := fun h9 => cel_out (by omega)
  refine lv_aload_n hx hb dX11_value_0 rfl (lv_at hl 0 rfl) ?_
  refine lv_aload_n hx hb dX11_value_1 rfl (lv_at hl 0 rfl) ?_
  refine lv_iload_n hx hb dX11_value_2 rfl (lv_at hl 1 rfl) ?_
  refine lv_iload_n hx hb dX11_value_3 rfl (lv_at hl 2 rfl) ?_
  refine x_clp (x_runV (b := a) (As := [.int p0, .int p1]) (rest := [.ref a]) S (c_X11_isRow l E K F G H a p0 p1 ha (v_X11_value_4_1 (K := K) (F := F) a G p0 p1 ha hk9999 hj9999 hM z0)) mv_X11_isRow km_X11_346 rfl rfl ⟨Nat.le_of_ble_eq_true rfl, Nat.le_of_ble_eq_true rfl⟩ (rc_13 hK hT ha) hK (fun _ => XPh.blind) (fun U hU hW => XPh.at hK hz hS hT hU hW) rfl hl.1 (Nat.le_of_ble_eq_true rfl) dX11_value_4 ⟨Nat.le_of_ble_eq_true rfl, Nat.le_of_ble_eq_true rfl⟩) hS ?_
  rintro _ _ locs ⟨x4, rfl, b4, t4⟩ hS
  have t4 : (x4.toInt = 1 ∧ (cel (mw (G.2.1 (F a 1)) 0) (p0.toInt) (p1.toInt) 0) ≠ -2000) ∨ (x4.toInt = 0 ∧ (cel (mw (G.2.1 (F a 1)) 0) (p0.toInt) (p1.toInt) 0) = -2000) := t4
  refine xi_zeq (tgt := 21) hx hb (rfl : Int32.toInt x4 = x4.toInt) dX11_value_7 (by decide) (fun c7 => ?_) (fun c7 => ?_)
  · refine lv_iconst (v := 1) hx hb dX11_value_21 (by decide) ?_
    refine pX11_0 (v := 1) S hK hT hS ha kf_X11_134 dX11_value_22 (fun H locs hT hS => ?_)
    obtain ⟨G22, hG22⟩ : ∃ GG : XG, GG = dput G a 0 1 := ⟨_, rfl⟩
    rw [← hG22] at hT
    refine lv_aload_n hx hb dX11_value_25 rfl (lv_at hl 0 rfl) ?_
    refine gX11_0 S hK hT ha kf_X11_134 dX11_value_26 (v := 1) (ld_at hG22) (?_)
    refine xi_zne (tgt := 49) hx hb ((by decide) : Int32.toInt 1 = (1 : Int)) dX11_value_29 (by decide) (fun _ => ?_) (fun c => absurd (show (1 : Int) ≠ 0 by decide) c)
    refine lv_iconst (v := 0) hx hb dX11_value_49 (by decide) ?_
    exact x_ri hx hb hr hlk hQ (Nat.le_of_ble_eq_true rfl) (Nat.le_of_ble_eq_true rfl) hS dX11_value_50 G22 ⟨_, rfl, (by rw [hG22]; exact XFr.dput XFr.rf (List.mem_of_getElem? (i := 0) rfl)), (by rw [(show (G22.1 a 0).toInt = (1 : Int) from (congrArg Int32.toInt (ld_at hG22)).trans ((by decide) : Int32.toInt 1 = (1 : Int)))] <;> exact (z_X11_value_1 p2.toInt x4.toInt (cel (mw (G.2.1 (F a 1)) 0) (p0.toInt) (p1.toInt) (p2.toInt)) (cel (mw (G.2.1 (F a 1)) 0) (p0.toInt) (p1.toInt) 0) t4 c7)), (v_X11_value_50_2 a G22 G hG22)⟩ hT
  · refine lv_iload_n hx hb dX11_value_10 rfl (lv_at hl 3 rfl) ?_
    refine x_clp (x_runS (As := [.int p2]) (rest := [.ref a]) S (c_X11_isColumn l E K F G H p2) ms_X11_isColumn km_X11_356 rfl rfl ⟨Nat.le_of_ble_eq_true rfl, Nat.le_of_ble_eq_true rfl⟩ hK (fun _ => XPh.blind) (fun U hU hW => XPh.at hK hz hS hT hU hW) rfl hl.1 (Nat.le_of_ble_eq_true rfl) dX11_value_11 ⟨Nat.le_of_ble_eq_true rfl, Nat.le_of_ble_eq_true rfl⟩) hS ?_
    rintro _ _ locs ⟨x11, rfl, b11, t11⟩ hS
    have t11 : (x11.toInt = 1 ∧ 0 ≤ p2.toInt ∧ p2.toInt ≤ 2) ∨ (x11.toInt = 0 ∧ (p2.toInt < 0 ∨ 2 < p2.toInt)) := t11
    refine xi_zeq (tgt := 21) hx hb (rfl : Int32.toInt x11 = x11.toInt) dX11_value_14 (by decide) (fun c14 => ?_) (fun c14 => ?_)
    · refine lv_iconst (v := 1) hx hb dX11_value_21 (by decide) ?_
      refine pX11_0 (v := 1) S hK hT hS ha kf_X11_134 dX11_value_22 (fun H locs hT hS => ?_)
      obtain ⟨G22, hG22⟩ : ∃ GG : XG, GG = dput G a 0 1 := ⟨_, rfl⟩
      rw [← hG22] at hT
      refine lv_aload_n hx hb dX11_value_25 rfl (lv_at hl 0 rfl) ?_
      refine gX11_0 S hK hT ha kf_X11_134 dX11_value_26 (v := 1) (ld_at hG22) (?_)
      refine xi_zne (tgt := 49) hx hb ((by decide) : Int32.toInt 1 = (1 : Int)) dX11_value_29 (by decide) (fun _ => ?_) (fun c => absurd (show (1 : Int) ≠ 0 by decide) c)
      refine lv_iconst (v := 0) hx hb dX11_value_49 (by decide) ?_
      exact x_ri hx hb hr hlk hQ (Nat.le_of_ble_eq_true rfl) (Nat.le_of_ble_eq_true rfl) hS dX11_value_50 G22 ⟨_, rfl, (by rw [hG22]; exact XFr.dput XFr.rf (List.mem_of_getElem? (i := 0) rfl)), (by rw [(show (G22.1 a 0).toInt = (1 : Int) from (congrArg Int32.toInt (ld_at hG22)).trans ((by decide) : Int32.toInt 1 = (1 : Int)))] <;> exact (z_X11_value_2 p2.toInt x11.toInt (cel (mw (G.2.1 (F a 1)) 0) (p0.toInt) (p1.toInt) (p2.toInt)) (cel (mw (G.2.1 (F a 1)) 0) (p0.toInt) (p1.toInt) 0) t11 c14)), (v_X11_value_50_3 a G22 G hG22)⟩ hT
    · refine lv_iconst (v := 0) hx hb dX11_value_17 (by decide) ?_
      refine lv_goto (tgt := 22) hx hb dX11_value_18 (by decide) ?_
      refine pX11_0 (v := 0) S hK hT hS ha kf_X11_134 dX11_value_22 (fun H locs hT hS => ?_)
      obtain ⟨G22, hG22⟩ : ∃ GG : XG, GG = dput G a 0 0 := ⟨_, rfl⟩
      rw [← hG22] at hT
      refine lv_aload_n hx hb dX11_value_25 rfl (lv_at hl 0 rfl) ?_
      refine gX11_0 S hK hT ha kf_X11_134 dX11_value_26 (v := 0) (ld_at hG22) (?_)
      refine xi_zne (tgt := 49) hx hb ((by decide) : Int32.toInt 0 = (0 : Int)) dX11_value_29 (by decide) (fun c => absurd c (show ¬ ((0 : Int) ≠ 0) by decide)) (fun _ => ?_)
      refine lv_aload_n hx hb dX11_value_32 rfl (lv_at hl 0 rfl) ?_
      refine gX11_1 S hK hT ha kf_X11_9 dX11_value_33 (fun _ _ => ?_)
      refine lv_iload_n hx hb dX11_value_36 rfl (lv_at hl 1 rfl) ?_
      refine lv_iload_n hx hb dX11_value_37 rfl (lv_at hl 2 rfl) ?_
      refine x_clp (x_runS (As := [.int p0, .int p1]) (rest := [.ref (F a 1)]) S (c_X11_at l E K F G22 H p0 p1) ms_X11_at km_X11_156 rfl rfl ⟨Nat.le_of_ble_eq_true rfl, Nat.le_of_ble_eq_true rfl⟩ hK (fun _ => XPh.blind) (fun U hU hW => XPh.at hK hz hS hT hU hW) rfl hl.1 (Nat.le_of_ble_eq_true rfl) dX11_value_38 ⟨Nat.le_of_ble_eq_true rfl, Nat.le_of_ble_eq_true rfl⟩) hS ?_
      rintro _ _ locs ⟨x38, rfl, t38⟩ hS
      have t38 : 0 ≤ p0.toInt ∧ p0.toInt ≤ 2 ∧ 0 ≤ p1.toInt ∧ p1.toInt ≤ 29 → x38.toInt = 4 * (30 * p0.toInt + p1.toInt) := t38
      refine lv_iconst (v := 1) hx hb dX11_value_41 (by decide) ?_
      refine xi_iadd hx hb (rfl : Int32.toInt x38 = x38.toInt) ((by decide) : Int32.toInt 1 = (1 : Int)) dX11_value_42 (fun x42 t42 => ?_)
      refine lv_iload_n hx hb dX11_value_43 rfl (lv_at hl 3 rfl) ?_
      refine xi_iadd hx hb (rfl : Int32.toInt x42 = x42.toInt) (rfl : Int32.toInt p2 = p2.toInt) dX11_value_44 (fun x44 t44 => ?_)
      refine al_0 S hK hT hk9999 ar_30 (by decide) (z_X11_value_3 p0.toInt p1.toInt p2.toInt x11.toInt x38.toInt x4.toInt x42.toInt x44.toInt (cel (mw (G.2.1 (F a 1)) 0) (p0.toInt) (p1.toInt) 0) z0 t4 c7 t11 c14 t38 t42 t44) dX11_value_45 (fun x45 hv45 o45 => ?_)
      have hv45 : x45.toInt = (aI (G.2.1 (F a 1)) (4 * (30 * p0.toInt + p1.toInt) + 1 + p2.toInt)) := hv45.trans (by rw [((rfl : Int32.toInt x44 = x44.toInt).trans (z_X11_value_4 p0.toInt p1.toInt p2.toInt x11.toInt x38.toInt x4.toInt x42.toInt x44.toInt (cel (mw (G.2.1 (F a 1)) 0) (p0.toInt) (p1.toInt) 0) z0 t4 c7 t11 c14 t38 t42 t44)), ((ld_c hG22) : G22.2.1 (F a 1) = G.2.1 (F a 1))])
      have z46 : (aI (G.2.1 (F a 1)) (4 * (30 * p0.toInt + p1.toInt) + 1 + p2.toInt)) = (cel (mw (G.2.1 (F a 1)) 0) (p0.toInt) (p1.toInt) (p2.toInt)) := hM.cel0 (z_X11_value_5 p0.toInt p1.toInt p2.toInt x11.toInt x4.toInt (cel (mw (G.2.1 (F a 1)) 0) (p0.toInt) (p1.toInt) 0) z0 t4 c7 t11 c14) (z_X11_value_6 x4.toInt (cel (mw (G.2.1 (F a 1)) 0) (p0.toInt) (p1.toInt) 0) t4 c7)
      refine lv_goto (tgt := 50) hx hb dX11_value_46 (by decide) ?_
      exact x_ri hx hb hr hlk hQ (Nat.le_of_ble_eq_true rfl) (Nat.le_of_ble_eq_true rfl) hS dX11_value_50 G22 ⟨_, rfl, (by rw [hG22]; exact XFr.dput XFr.rf (List.mem_of_getElem? (i := 0) rfl)), (by rw [(hv45 : Int32.toInt x45 = (aI (G.2.1 (F a 1)) (4 * (30 * p0.toInt + p1.toInt) + 1 + p2.toInt))), (show (G22.1 a 0).toInt = (0 : Int) from (congrArg Int32.toInt (ld_at hG22)).trans ((by decide) : Int32.toInt 0 = (0 : Int)))] <;> exact (z_X11_value_7 p2.toInt x11.toInt x4.toInt (aI (G.2.1 (F a 1)) (4 * (30 * p0.toInt + p1.toInt) + 1 + p2.toInt)) (cel (mw (G.2.1 (F a 1)) 0) (p0.toInt) (p1.toInt) (p2.toInt)) (cel (mw (G.2.1 (F a 1)) 0) (p0.toInt) (p1.toInt) 0) t4 c7 t11 c14 z46)), (v_X11_value_50_4 a G22 G hG22)⟩ hT

theorem z_X11_asked_1 (a0 : Int) (h0 : a0 = -1 ∨ (0 ≤ a0 ∧ a0 ≤ 2388)) (h1 : a0 ≠ (-1 : Int)) : 0 ≤ a0 ∧ a0 < ((2400 : Nat) : Int) := by omega
theorem z_X11_asked_3 (a0 : Int) (h0 : a0 = (-1 : Int)) : a0 = -1 ∨ (0 ≤ a0 ∧ a0 ≤ 2388) := by omega
theorem z_X11_asked_4 (a0 : Int) (h0 : 0 ≤ a0 ∧ a0 ≤ 2388) : -2147483648 ≤ a0 ∧ a0 < 2147483648 := by omega
theorem z_X11_asked_5 (a0 : Int) (a1 : Int) (a2 : Int) (h0 : 0 ≤ a2 ∧ a2 ≤ 2388) (h1 : (a1 = 1 ∧ (0 : Int) ≤ a0 ∧ a0 ≤ (a2 - (1 : Int))) ∨ (a1 = 0 ∧ (a0 < (0 : Int) ∨ (a2 - (1 : Int)) < a0))) (h2 : a1 ≠ 0) : a0 = -1 ∨ (0 ≤ a0 ∧ a0 ≤ 2388) := by omega
abbrev rm_X11_asked : Room := { frames := 1, cells := 0, slots := 0, locals := 25 }
set_option maxHeartbeats 4000000 in
set_option maxRecDepth 100000 in
theorem c_X11_asked (l : Launch) (E : XE) (K : Nat → Nat) (F : Nat → Nat → Nat) (G : XG) (a : Nat) (p0 : Int32) (p1 : Int32) (ha : K a = 13) (k0 : 0 ≤ ((G.1 a 43).toInt) ∧ ((G.1 a 43).toInt) ≤ 2388) : Met l yX11_asked (xw yX11_asked cX11_asked 3 (some .int)) rm_X11_asked (va_Pc [.ref a, .int p0, .int p1] (XP E K F G)) (XQ E (fun v (u : XG) => ∃ r : Int32, v = .int r ∧ XFr [(a, 0)] [] [] G u) (fun u H => TW E K F u H)) 0 0 (xA E) := by
  refine x_enter (by decide) (Nat.le_of_ble_eq_true rfl) ?_
  intro p e s m args below meth c Q S hr hlk hnm hQ hP ls hl
  obtain ⟨hz, hK, hT⟩ := hP
  obtain ⟨hx, hb, -, -, -⟩ := id S
  obtain ⟨H, hT, hS, hgo⟩ : ∃ H : Heap, TW E K F G H ∧ va_S (xA E) s.heap H [] ∧ H = s.heap := ⟨_, hT, va_S.rf, rfl⟩
  rw [← hgo]
  have hl : lv_has ls 3 [(0, .ref a), (1, .int p0), (2, .int p1)] := hl
  refine lv_aload_n hx hb dX11_asked_0 rfl (lv_at hl 0 rfl) ?_
  refine lv_iconst (v := 0) hx hb dX11_asked_1 (by decide) ?_
  refine pX11_0 (v := 0) S hK hT hS ha kf_X11_134 dX11_asked_2 (fun H locs hT hS => ?_)
  obtain ⟨G2, hG2⟩ : ∃ GG : XG, GG = dput G a 0 0 := ⟨_, rfl⟩
  rw [← hG2] at hT
  refine lv_iload_n hx hb dX11_asked_5 rfl (lv_at hl 2 rfl) ?_
  refine lv_i2l (v := p1.toInt64) hx hb dX11_asked_6 rfl ?_
  refine lv_lconst (v := (0 : Int64)) hx hb dX11_asked_7 (by decide) ?_
  refine lv_ldc2 (v := 2) hx hb S.2.2.2.1 (S.2.2.2.2 _ (List.mem_cons_of_mem _ kc_X11_137)) dX11_asked_8 ?_
  refine x_clp (x_runS (As := [.long p1.toInt64, .long (0 : Int64), .long (2 : Int64)]) (rest := []) S (c_X11_in l E K F G2 H p1.toInt64 p1.toInt (0 : Int64) (0 : Int) (2 : Int64) (2 : Int) (xl_i2l (rfl : Int32.toInt p1 = p1.toInt)) (by decide) (by decide)) ms_X11_in km_X11_139 rfl rfl ⟨Nat.le_of_ble_eq_true rfl, Nat.le_of_ble_eq_true rfl⟩ hK (fun _ => XPh.blind) (fun U hU hW => XPh.at hK hz hS hT hU hW) rfl hl.1 (Nat.le_of_ble_eq_true rfl) dX11_asked_11 ⟨Nat.le_of_ble_eq_true rfl, Nat.le_of_ble_eq_true rfl⟩) hS ?_
  rintro _ _ locs ⟨x11, rfl, b11, t11⟩ hS
  have t11 : (x11.toInt = 1 ∧ (0 : Int) ≤ p1.toInt ∧ p1.toInt ≤ (2 : Int)) ∨ (x11.toInt = 0 ∧ (p1.toInt < (0 : Int) ∨ (2 : Int) < p1.toInt)) := t11
  refine xi_zeq (tgt := 38) hx hb (rfl : Int32.toInt x11 = x11.toInt) dX11_asked_14 (by decide) (fun c14 => ?_) (fun c14 => ?_)
  · refine lv_iconst (v := (-1)) hx hb dX11_asked_38 (by decide) ?_
    exact x_ri hx hb hr hlk hQ (Nat.le_of_ble_eq_true rfl) (Nat.le_of_ble_eq_true rfl) hS dX11_asked_39 G2 ⟨_, rfl, (by rw [hG2]; exact XFr.dput XFr.rf (List.mem_of_getElem? (i := 0) rfl))⟩ hT
  · refine lv_iload_n hx hb dX11_asked_17 rfl (lv_at hl 1 rfl) ?_
    refine lv_iconst (v := (-1)) hx hb dX11_asked_18 (by decide) ?_
    have J40 : ∀ (H : Heap) (locs : List Loc) (ls : Array Slot), p0.toInt = -1 ∨ (0 ≤ p0.toInt ∧ p0.toInt ≤ 2388) → TW E K F G2 H → va_S (xA E) s.heap H locs → lv_has ls 3 [(0, .ref a), (1, .int p0), (2, .int p1)] → W p l e rm_X11_asked s m args below meth c H locs 0 0 Q (F0 m 40 ls []) := by
      intro H locs ls I40_0 hT hS hl
      refine lv_iload_n hx hb dX11_asked_40 rfl (lv_at hl 1 rfl) ?_
      refine lv_iconst (v := (-1)) hx hb dX11_asked_41 (by decide) ?_
      refine xi_cne (tgt := 52) hx hb (rfl : Int32.toInt p0 = p0.toInt) ((by decide) : Int32.toInt (-1) = (-1 : Int)) dX11_asked_42 (by decide) (fun c42 => ?_) (fun c42 => ?_)
      · refine lv_iload_n hx hb dX11_asked_52 rfl (lv_at hl 2 rfl) ?_
        refine xi_zne (tgt := 65) hx hb (rfl : Int32.toInt p1 = p1.toInt) dX11_asked_53 (by decide) (fun c53 => ?_) (fun c53 => ?_)
        · refine lv_iload_n hx hb dX11_asked_65 rfl (lv_at hl 2 rfl) ?_
          refine lv_iconst (v := 1) hx hb dX11_asked_66 (by decide) ?_
          refine xi_cne (tgt := 79) hx hb (rfl : Int32.toInt p1 = p1.toInt) ((by decide) : Int32.toInt 1 = (1 : Int)) dX11_asked_67 (by decide) (fun c67 => ?_) (fun c67 => ?_)
          · refine lv_iload_n hx hb dX11_asked_79 rfl (lv_at hl 1 rfl) ?_
            refine lv_aload_n hx hb dX11_asked_80 rfl (lv_at hl 0 rfl) ?_
            refine gX11_44 S hK hT ha kf_X11_115 dX11_asked_81 (v := (G.1 a 44)) (ld_j hG2 (by decide)) (?_)
            refine xi_cne (tgt := 91) hx hb (rfl : Int32.toInt p0 = p0.toInt) (rfl : Int32.toInt (G.1 a 44) = ((G.1 a 44).toInt)) dX11_asked_84 (by decide) (fun c84 => ?_) (fun c84 => ?_)
            · refine lv_iconst (v := 0) hx hb dX11_asked_91 (by decide) ?_
              exact x_ri hx hb hr hlk hQ (Nat.le_of_ble_eq_true rfl) (Nat.le_of_ble_eq_true rfl) hS dX11_asked_92 G2 ⟨_, rfl, (by rw [hG2]; exact XFr.dput XFr.rf (List.mem_of_getElem? (i := 0) rfl))⟩ hT
            · refine lv_iconst (v := 1) hx hb dX11_asked_87 (by decide) ?_
              refine lv_goto (tgt := 92) hx hb dX11_asked_88 (by decide) ?_
              exact x_ri hx hb hr hlk hQ (Nat.le_of_ble_eq_true rfl) (Nat.le_of_ble_eq_true rfl) hS dX11_asked_92 G2 ⟨_, rfl, (by rw [hG2]; exact XFr.dput XFr.rf (List.mem_of_getElem? (i := 0) rfl))⟩ hT
          · refine lv_aload_n hx hb dX11_asked_70 rfl (lv_at hl 0 rfl) ?_
            obtain ⟨hk71, hj71⟩ := fkX11_42 hT ha
            refine gX11_42 S hK hT ha kf_X11_112 dX11_asked_71 (fun _ _ => ?_)
            refine lv_iload_n hx hb dX11_asked_74 rfl (lv_at hl 1 rfl) ?_
            refine al_0 S hK hT hk71 ar_54 (by decide) (z_X11_asked_1 p0.toInt I40_0 c42) dX11_asked_75 (fun x75 hv75 o75 => ?_)
            have hv75 : x75.toInt = (aI (G.2.1 (F a 42)) (p0.toInt)) := hv75.trans (by rw [(rfl : Int32.toInt p0 = p0.toInt), ((ld_c hG2) : G2.2.1 (F a 42) = G.2.1 (F a 42))])
            refine lv_goto (tgt := 92) hx hb dX11_asked_76 (by decide) ?_
            exact x_ri hx hb hr hlk hQ (Nat.le_of_ble_eq_true rfl) (Nat.le_of_ble_eq_true rfl) hS dX11_asked_92 G2 ⟨_, rfl, (by rw [hG2]; exact XFr.dput XFr.rf (List.mem_of_getElem? (i := 0) rfl))⟩ hT
        · refine lv_aload_n hx hb dX11_asked_56 rfl (lv_at hl 0 rfl) ?_
          obtain ⟨hk57, hj57⟩ := fkX11_41 hT ha
          refine gX11_41 S hK hT ha kf_X11_109 dX11_asked_57 (fun _ _ => ?_)
          refine lv_iload_n hx hb dX11_asked_60 rfl (lv_at hl 1 rfl) ?_
          refine al_0 S hK hT hk57 ar_53 (by decide) (z_X11_asked_1 p0.toInt I40_0 c42) dX11_asked_61 (fun x61 hv61 o61 => ?_)
          have hv61 : x61.toInt = (aI (G.2.1 (F a 41)) (p0.toInt)) := hv61.trans (by rw [(rfl : Int32.toInt p0 = p0.toInt), ((ld_c hG2) : G2.2.1 (F a 41) = G.2.1 (F a 41))])
          refine lv_goto (tgt := 92) hx hb dX11_asked_62 (by decide) ?_
          exact x_ri hx hb hr hlk hQ (Nat.le_of_ble_eq_true rfl) (Nat.le_of_ble_eq_true rfl) hS dX11_asked_92 G2 ⟨_, rfl, (by rw [hG2]; exact XFr.dput XFr.rf (List.mem_of_getElem? (i := 0) rfl))⟩ hT
      · refine lv_aload_n hx hb dX11_asked_45 rfl (lv_at hl 0 rfl) ?_
        refine gX11_43 S hK hT ha kf_X11_340 dX11_asked_46 (v := (G.1 a 43)) (ld_j hG2 (by decide)) (?_)
        refine lv_goto (tgt := 92) hx hb dX11_asked_49 (by decide) ?_
        exact x_ri hx hb hr hlk hQ (Nat.le_of_ble_eq_true rfl) (Nat.le_of_ble_eq_true rfl) hS dX11_asked_92 G2 ⟨_, rfl, (by rw [hG2]; exact XFr.dput XFr.rf (List.mem_of_getElem? (i := 0) rfl))⟩ hT
    refine xi_ceq (tgt := 40) hx hb (rfl : Int32.toInt p0 = p0.toInt) ((by decide) : Int32.toInt (-1) = (-1 : Int)) dX11_asked_19 (by decide) (fun c19 => ?_) (fun c19 => ?_)
    · exact J40 _ _ _ (z_X11_asked_3 p0.toInt c19) hT hS (lv_sub hl [0, 1, 2] rfl)
    · refine lv_iload_n hx hb dX11_asked_22 rfl (lv_at hl 1 rfl) ?_
      refine lv_i2l (v := p0.toInt64) hx hb dX11_asked_23 rfl ?_
      refine lv_lconst (v := (0 : Int64)) hx hb dX11_asked_24 (by decide) ?_
      refine lv_aload_n hx hb dX11_asked_25 rfl (lv_at hl 0 rfl) ?_
      refine gX11_43 S hK hT ha kf_X11_340 dX11_asked_26 (v := (G.1 a 43)) (ld_j hG2 (by decide)) (?_)
      refine lv_i2l (v := ((G.1 a 43) : Int32).toInt64) hx hb dX11_asked_29 rfl ?_
      refine lv_lconst (v := (1 : Int64)) hx hb dX11_asked_30 (by decide) ?_
      refine lv_lsub hx hb dX11_asked_31 (lv_topl (fun y31 hy31 => ?_))
      have hy31 : y31.toInt = ((G.1 a 43).toInt) - (1 : Int) := xl_sub (xl_i2l (rfl : Int32.toInt (G.1 a 43) = ((G.1 a 43).toInt))) (by decide) (z_X11_asked_4 ((G.1 a 43).toInt) k0) (by decide) hy31
      refine x_clp (x_runS (As := [.long p0.toInt64, .long (0 : Int64), .long y31]) (rest := []) S (c_X11_in l E K F G2 H p0.toInt64 p0.toInt (0 : Int64) (0 : Int) y31 (((G.1 a 43).toInt) - (1 : Int)) (xl_i2l (rfl : Int32.toInt p0 = p0.toInt)) (by decide) hy31) ms_X11_in km_X11_139 rfl rfl ⟨Nat.le_of_ble_eq_true rfl, Nat.le_of_ble_eq_true rfl⟩ hK (fun _ => XPh.blind) (fun U hU hW => XPh.at hK hz hS hT hU hW) rfl hl.1 (Nat.le_of_ble_eq_true rfl) dX11_asked_32 ⟨Nat.le_of_ble_eq_true rfl, Nat.le_of_ble_eq_true rfl⟩) hS ?_
      rintro _ _ locs ⟨x32, rfl, b32, t32⟩ hS
      have t32 : (x32.toInt = 1 ∧ (0 : Int) ≤ p0.toInt ∧ p0.toInt ≤ (((G.1 a 43).toInt) - (1 : Int))) ∨ (x32.toInt = 0 ∧ (p0.toInt < (0 : Int) ∨ (((G.1 a 43).toInt) - (1 : Int)) < p0.toInt)) := t32
      refine xi_zne (tgt := 40) hx hb (rfl : Int32.toInt x32 = x32.toInt) dX11_asked_35 (by decide) (fun c35 => ?_) (fun c35 => ?_)
      · exact J40 _ _ _ (z_X11_asked_5 p0.toInt x32.toInt ((G.1 a 43).toInt) k0 t32 c35) hT hS (lv_sub hl [0, 1, 2] rfl)
      · refine lv_iconst (v := (-1)) hx hb dX11_asked_38 (by decide) ?_
        exact x_ri hx hb hr hlk hQ (Nat.le_of_ble_eq_true rfl) (Nat.le_of_ble_eq_true rfl) hS dX11_asked_39 G2 ⟨_, rfl, (by rw [hG2]; exact XFr.dput XFr.rf (List.mem_of_getElem? (i := 0) rfl))⟩ hT

theorem z_X11_since_1 (a0 : Int) (a1 : Int) (h0 : (a1 = 1 ∧ (0 : Int) ≤ a0 ∧ a0 ≤ (6 : Int)) ∨ (a1 = 0 ∧ (a0 < (0 : Int) ∨ (6 : Int) < a0))) (h1 : a1 ≠ 0) (h2 : a0 ≠ (6 : Int)) : 0 ≤ a0 ∧ a0 < ((6 : Nat) : Int) := by omega
abbrev rm_X11_since : Room := { frames := 1, cells := 0, slots := 0, locals := 25 }
set_option maxHeartbeats 4000000 in
set_option maxRecDepth 100000 in
theorem c_X11_since (l : Launch) (E : XE) (K : Nat → Nat) (F : Nat → Nat → Nat) (G : XG) (a : Nat) (p0 : Int32) (ha : K a = 13) : Met l yX11_since (xw yX11_since cX11_since 2 (some .int)) rm_X11_since (va_Pc [.ref a, .int p0] (XP E K F G)) (XQ E (fun v (u : XG) => ∃ r : Int32, v = .int r ∧ XFr [(a, 0)] [] [] G u) (fun u H => TW E K F u H)) 0 0 (xA E) := by
  refine x_enter (by decide) (Nat.le_of_ble_eq_true rfl) ?_
  intro p e s m args below meth c Q S hr hlk hnm hQ hP ls hl
  obtain ⟨hz, hK, hT⟩ := hP
  obtain ⟨hx, hb, -, -, -⟩ := id S
  obtain ⟨H, hT, hS, hgo⟩ : ∃ H : Heap, TW E K F G H ∧ va_S (xA E) s.heap H [] ∧ H = s.heap := ⟨_, hT, va_S.rf, rfl⟩
  rw [← hgo]
  have hl : lv_has ls 2 [(0, .ref a), (1, .int p0)] := hl
  refine lv_aload_n hx hb dX11_since_0 rfl (lv_at hl 0 rfl) ?_
  refine lv_iconst (v := 0) hx hb dX11_since_1 (by decide) ?_
  refine pX11_0 (v := 0) S hK hT hS ha kf_X11_134 dX11_since_2 (fun H locs hT hS => ?_)
  obtain ⟨G2, hG2⟩ : ∃ GG : XG, GG = dput G a 0 0 := ⟨_, rfl⟩
  rw [← hG2] at hT
  refine lv_aload_n hx hb dX11_since_5 rfl (lv_at hl 0 rfl) ?_
  refine gX11_6 S hK hT ha kf_X11_206 dX11_since_6 (v := (G.1 a 6)) (ld_j hG2 (by decide)) (fun hz6 => ?_)
  refine xi_zeq (tgt := 24) hx hb (rfl : Int32.toInt (G.1 a 6) = ((G.1 a 6).toInt)) dX11_since_9 (by decide) (fun c9 => ?_) (fun c9 => ?_)
  · refine lv_iconst (v := (-1)) hx hb dX11_since_24 (by decide) ?_
    refine lv_goto (tgt := 47) hx hb dX11_since_25 (by decide) ?_
    exact x_ri hx hb hr hlk hQ (Nat.le_of_ble_eq_true rfl) (Nat.le_of_ble_eq_true rfl) hS dX11_since_47 G2 ⟨_, rfl, (by rw [hG2]; exact XFr.dput XFr.rf (List.mem_of_getElem? (i := 0) rfl))⟩ hT
  · refine lv_iload_n hx hb dX11_since_12 rfl (lv_at hl 1 rfl) ?_
    refine lv_i2l (v := p0.toInt64) hx hb dX11_since_13 rfl ?_
    refine lv_lconst (v := (0 : Int64)) hx hb dX11_since_14 (by decide) ?_
    refine lv_ldc2 (v := 6) hx hb S.2.2.2.1 (S.2.2.2.2 _ (List.mem_cons_of_mem _ kc_X11_396)) dX11_since_15 ?_
    refine x_clp (x_runS (As := [.long p0.toInt64, .long (0 : Int64), .long (6 : Int64)]) (rest := []) S (c_X11_in l E K F G2 H p0.toInt64 p0.toInt (0 : Int64) (0 : Int) (6 : Int64) (6 : Int) (xl_i2l (rfl : Int32.toInt p0 = p0.toInt)) (by decide) (by decide)) ms_X11_in km_X11_139 rfl rfl ⟨Nat.le_of_ble_eq_true rfl, Nat.le_of_ble_eq_true rfl⟩ hK (fun _ => XPh.blind) (fun U hU hW => XPh.at hK hz hS hT hU hW) rfl hl.1 (Nat.le_of_ble_eq_true rfl) dX11_since_18 ⟨Nat.le_of_ble_eq_true rfl, Nat.le_of_ble_eq_true rfl⟩) hS ?_
    rintro _ _ locs ⟨x18, rfl, b18, t18⟩ hS
    have t18 : (x18.toInt = 1 ∧ (0 : Int) ≤ p0.toInt ∧ p0.toInt ≤ (6 : Int)) ∨ (x18.toInt = 0 ∧ (p0.toInt < (0 : Int) ∨ (6 : Int) < p0.toInt)) := t18
    refine xi_zne (tgt := 28) hx hb (rfl : Int32.toInt x18 = x18.toInt) dX11_since_21 (by decide) (fun c21 => ?_) (fun c21 => ?_)
    · refine lv_iload_n hx hb dX11_since_28 rfl (lv_at hl 1 rfl) ?_
      refine lv_bipush (v := 6) hx hb dX11_since_29 (by decide) ?_
      refine xi_cne (tgt := 41) hx hb (rfl : Int32.toInt p0 = p0.toInt) ((by decide) : Int32.toInt 6 = (6 : Int)) dX11_since_31 (by decide) (fun c31 => ?_) (fun c31 => ?_)
      · refine lv_aload_n hx hb dX11_since_41 rfl (lv_at hl 0 rfl) ?_
        obtain ⟨hk42, hj42⟩ := fkX11_8 hT ha
        refine gX11_8 S hK hT ha kf_X11_27 dX11_since_42 (fun _ _ => ?_)
        refine lv_iload_n hx hb dX11_since_45 rfl (lv_at hl 1 rfl) ?_
        refine al_0 S hK hT hk42 ar_35 (by decide) (z_X11_since_1 p0.toInt x18.toInt t18 c21 c31) dX11_since_46 (fun x46 hv46 o46 => ?_)
        have hv46 : x46.toInt = (aI (G.2.1 (F a 8)) (p0.toInt)) := hv46.trans (by rw [(rfl : Int32.toInt p0 = p0.toInt), ((ld_c hG2) : G2.2.1 (F a 8) = G.2.1 (F a 8))])
        exact x_ri hx hb hr hlk hQ (Nat.le_of_ble_eq_true rfl) (Nat.le_of_ble_eq_true rfl) hS dX11_since_47 G2 ⟨_, rfl, (by rw [hG2]; exact XFr.dput XFr.rf (List.mem_of_getElem? (i := 0) rfl))⟩ hT
      · refine lv_aload_n hx hb dX11_since_34 rfl (lv_at hl 0 rfl) ?_
        refine gX11_7 S hK hT ha kf_X11_373 dX11_since_35 (v := (G.1 a 7)) (ld_j hG2 (by decide)) (?_)
        refine lv_goto (tgt := 47) hx hb dX11_since_38 (by decide) ?_
        exact x_ri hx hb hr hlk hQ (Nat.le_of_ble_eq_true rfl) (Nat.le_of_ble_eq_true rfl) hS dX11_since_47 G2 ⟨_, rfl, (by rw [hG2]; exact XFr.dput XFr.rf (List.mem_of_getElem? (i := 0) rfl))⟩ hT
    · refine lv_iconst (v := (-1)) hx hb dX11_since_24 (by decide) ?_
      refine lv_goto (tgt := 47) hx hb dX11_since_25 (by decide) ?_
      exact x_ri hx hb hr hlk hQ (Nat.le_of_ble_eq_true rfl) (Nat.le_of_ble_eq_true rfl) hS dX11_since_47 G2 ⟨_, rfl, (by rw [hG2]; exact XFr.dput XFr.rf (List.mem_of_getElem? (i := 0) rfl))⟩ hT

theorem z_X11_told_1 (a0 : Int) (a1 : Int) (a2 : Int) (h0 : (a1 = 1 ∧ 0 ≤ a0 ∧ a0 ≤ 11 ∧ a2 ≠ -1) ∨ (a1 = 0 ∧ (¬ (0 ≤ a0 ∧ a0 ≤ 11) ∨ a2 = -1))) (h1 : ¬ (a1 = 0)) : 0 ≤ a0 ∧ a0 ≤ 11 := by omega
theorem z_X11_told_2 (a0 : Int) (a1 : Int) (h0 : (a1 = 1 ∧ (0 : Int) ≤ a0 ∧ a0 ≤ (9 : Int)) ∨ (a1 = 0 ∧ (a0 < (0 : Int) ∨ (9 : Int) < a0))) (h1 : a1 ≠ 0) : 0 ≤ a0 ∧ a0 ≤ 9 := by omega
abbrev rm_X11_told : Room := { frames := 6, cells := 0, slots := 0, locals := 145 }
set_option maxHeartbeats 4000000 in
set_option maxRecDepth 100000 in
theorem c_X11_told (l : Launch) (E : XE) (K : Nat → Nat) (F : Nat → Nat → Nat) (G : XG) (a : Nat) (p0 : Int32) (p1 : Int32) (ha : K a = 13) (hR : RV (G.2.1 (F a 10))) (hM : RM (G.2.1 (F a 1)) (0)) (hB : RM (G.2.1 (F a 2)) 0) : Met l yX11_told (xw yX11_told cX11_told 3 (some .int)) rm_X11_told (va_Pc [.ref a, .int p0, .int p1] (XP E K F G)) (XQ E (fun v (u : XG) => ∃ r : Int32, v = .int r ∧ XFr [(a, 0), (a, 16), (a, 19)] [F a 15, F a 17, F a 18, F a 11, F a 13] [] G u ∧ ((¬ (0 ≤ p0.toInt ∧ p0.toInt ≤ 11 ∧ aI (G.2.1 (F a 10)) (10 * p0.toInt + 0) ≠ -1) ∧ r.toInt = -2147483648) ∨ ((0 ≤ p0.toInt ∧ p0.toInt ≤ 11 ∧ aI (G.2.1 (F a 10)) (10 * p0.toInt + 0) ≠ -1) ∧ r.toInt = tdM (G.2.1 (F a 10)) p0.toInt (cnP (if ((G.1 a 6).toInt) = 0 then [] else fuO (G.2.1 (F a 10)) (mw (G.2.1 (F a 1)) 0) (mw (G.2.1 (F a 2)) 0) 1) p0.toInt) p1.toInt))) (fun u H => TW E K F u H)) 0 0 (xA E) := by
  refine x_enter (by decide) (Nat.le_of_ble_eq_true rfl) ?_
  intro p e s m args below meth c Q S hr hlk hnm hQ hP ls hl
  obtain ⟨hz, hK, hT⟩ := hP
  obtain ⟨hx, hb, -, -, -⟩ := id S
  obtain ⟨H, hT, hS, hgo⟩ : ∃ H : Heap, TW E K F G H ∧ va_S (xA E) s.heap H [] ∧ H = s.heap := ⟨_, hT, va_S.rf, rfl⟩
  rw [← hgo]
  have hl : lv_has ls 3 [(0, .ref a), (1, .int p0), (2, .int p1)] := hl
  obtain ⟨hk9999, hj9999⟩ := fkX11_15 hT ha
  obtain ⟨hk9999a, hj9999a⟩ := fkX11_17 hT ha
  obtain ⟨hk9999b, hj9999b⟩ := fkX11_18 hT ha
  obtain ⟨hk9999c, hj9999c⟩ := fkX11_11 hT ha
  obtain ⟨hk9999d, hj9999d⟩ := fkX11_13 hT ha
  obtain ⟨hk9999e, hj9999e⟩ := fkX11_10 hT ha
  obtain ⟨hk9999f, hj9999f⟩ := fkX11_1 hT ha
  obtain ⟨hk9999g, hj9999g⟩ := fkX11_2 hT ha
  refine lv_aload_n hx hb dX11_told_0 rfl (lv_at hl 0 rfl) ?_
  refine lv_iconst (v := 0) hx hb dX11_told_1 (by decide) ?_
  refine pX11_0 (v := 0) S hK hT hS ha kf_X11_134 dX11_told_2 (fun H locs hT hS => ?_)
  obtain ⟨G2, hG2⟩ : ∃ GG : XG, GG = dput G a 0 0 := ⟨_, rfl⟩
  rw [← hG2] at hT
  refine lv_aload_n hx hb dX11_told_5 rfl (lv_at hl 0 rfl) ?_
  refine lv_iload_n hx hb dX11_told_6 rfl (lv_at hl 1 rfl) ?_
  refine x_clp (x_runV (b := a) (As := [.int p0]) (rest := []) S (c_X11_isRule l E K F G2 H a p0 ha) mv_X11_isRule km_X11_162 rfl rfl ⟨Nat.le_of_ble_eq_true rfl, Nat.le_of_ble_eq_true rfl⟩ (rc_13 hK hT ha) hK (fun _ => XPh.blind) (fun U hU hW => XPh.at hK hz hS hT hU hW) rfl hl.1 (Nat.le_of_ble_eq_true rfl) dX11_told_7 ⟨Nat.le_of_ble_eq_true rfl, Nat.le_of_ble_eq_true rfl⟩) hS ?_
  rintro _ _ locs ⟨x7, rfl, b7, t7⟩ hS
  have t7 : (x7.toInt = 1 ∧ 0 ≤ p0.toInt ∧ p0.toInt ≤ 11 ∧ (aI (G.2.1 (F a 10)) (10 * p0.toInt + 0)) ≠ -1) ∨ (x7.toInt = 0 ∧ (¬ (0 ≤ p0.toInt ∧ p0.toInt ≤ 11) ∨ (aI (G.2.1 (F a 10)) (10 * p0.toInt + 0)) = -1)) := by rw [(show G2.2.1 (F a 10) = G.2.1 (F a 10) from (ld_c hG2))] at t7; exact t7
  refine xi_zeq (tgt := 25) hx hb (rfl : Int32.toInt x7 = x7.toInt) dX11_told_10 (by decide) (fun c10 => ?_) (fun c10 => ?_)
  · refine lv_ldc (v := (-2147483648)) hx hb S.2.2.2.1 (S.2.2.2.2 _ (List.mem_cons_of_mem _ kc_X11_57)) dX11_told_25 ?_
    refine lv_goto (tgt := 50) hx hb dX11_told_27 (by decide) ?_
    exact x_ri hx hb hr hlk hQ (Nat.le_of_ble_eq_true rfl) (Nat.le_of_ble_eq_true rfl) hS dX11_told_50 G2 ⟨_, rfl, (by rw [hG2]; exact XFr.dput XFr.rf (List.mem_of_getElem? (i := 0) rfl)), (by rw [((by decide) : Int32.toInt (-2147483648) = (-2147483648 : Int))] <;> exact (v_X11_told_50_1 (K := K) (F := F) a G x7 p0 p1 ha t7 c10))⟩ hT
  · refine lv_iload_n hx hb dX11_told_13 rfl (lv_at hl 2 rfl) ?_
    refine lv_i2l (v := p1.toInt64) hx hb dX11_told_14 rfl ?_
    refine lv_lconst (v := (0 : Int64)) hx hb dX11_told_15 (by decide) ?_
    refine lv_ldc2 (v := 9) hx hb S.2.2.2.1 (S.2.2.2.2 _ (List.mem_cons_of_mem _ kc_X11_385)) dX11_told_16 ?_
    refine x_clp (x_runS (As := [.long p1.toInt64, .long (0 : Int64), .long (9 : Int64)]) (rest := []) S (c_X11_in l E K F G2 H p1.toInt64 p1.toInt (0 : Int64) (0 : Int) (9 : Int64) (9 : Int) (xl_i2l (rfl : Int32.toInt p1 = p1.toInt)) (by decide) (by decide)) ms_X11_in km_X11_139 rfl rfl ⟨Nat.le_of_ble_eq_true rfl, Nat.le_of_ble_eq_true rfl⟩ hK (fun _ => XPh.blind) (fun U hU hW => XPh.at hK hz hS hT hU hW) rfl hl.1 (Nat.le_of_ble_eq_true rfl) dX11_told_19 ⟨Nat.le_of_ble_eq_true rfl, Nat.le_of_ble_eq_true rfl⟩) hS ?_
    rintro _ _ locs ⟨x19, rfl, b19, t19⟩ hS
    have t19 : (x19.toInt = 1 ∧ (0 : Int) ≤ p1.toInt ∧ p1.toInt ≤ (9 : Int)) ∨ (x19.toInt = 0 ∧ (p1.toInt < (0 : Int) ∨ (9 : Int) < p1.toInt)) := t19
    refine xi_zne (tgt := 30) hx hb (rfl : Int32.toInt x19 = x19.toInt) dX11_told_22 (by decide) (fun c22 => ?_) (fun c22 => ?_)
    · refine lv_iload_n hx hb dX11_told_30 rfl (lv_at hl 2 rfl) ?_
      refine lv_bipush (v := 9) hx hb dX11_told_31 (by decide) ?_
      refine xi_cne (tgt := 44) hx hb (rfl : Int32.toInt p1 = p1.toInt) ((by decide) : Int32.toInt 9 = (9 : Int)) dX11_told_33 (by decide) (fun c33 => ?_) (fun c33 => ?_)
      · refine lv_aload_n hx hb dX11_told_44 rfl (lv_at hl 0 rfl) ?_
        refine lv_iload_n hx hb dX11_told_45 rfl (lv_at hl 1 rfl) ?_
        refine lv_iload_n hx hb dX11_told_46 rfl (lv_at hl 2 rfl) ?_
        refine x_clp (x_runV (b := a) (As := [.int p0, .int p1]) (rest := []) S (c_X11_of l E K F G2 H a p0 p1 ha (z_X11_told_1 p0.toInt x7.toInt (aI (G.2.1 (F a 10)) (10 * p0.toInt + 0)) t7 c10) (z_X11_told_2 p1.toInt x19.toInt t19 c22)) mv_X11_of km_X11_165 rfl rfl ⟨Nat.le_of_ble_eq_true rfl, Nat.le_of_ble_eq_true rfl⟩ (rc_13 hK hT ha) hK (fun _ => XPh.blind) (fun U hU hW => XPh.at hK hz hS hT hU hW) rfl hl.1 (Nat.le_of_ble_eq_true rfl) dX11_told_47 ⟨Nat.le_of_ble_eq_true rfl, Nat.le_of_ble_eq_true rfl⟩) hS ?_
        rintro _ _ locs ⟨x47, rfl, t47⟩ hS
        have t47 : x47.toInt = (aI (G.2.1 (F a 10)) (10 * p0.toInt + p1.toInt)) := by rw [(show G2.2.1 (F a 10) = G.2.1 (F a 10) from (ld_c hG2))] at t47; exact t47
        exact x_ri hx hb hr hlk hQ (Nat.le_of_ble_eq_true rfl) (Nat.le_of_ble_eq_true rfl) hS dX11_told_50 G2 ⟨_, rfl, (by rw [hG2]; exact XFr.dput XFr.rf (List.mem_of_getElem? (i := 0) rfl)), (by rw [(t47 : Int32.toInt x47 = (aI (G.2.1 (F a 10)) (10 * p0.toInt + p1.toInt)))] <;> exact (v_X11_told_50_2 (K := K) (F := F) a G p0 p1 x7 x19 ha t7 c10 t19 c22 c33))⟩ hT
      · refine lv_aload_n hx hb dX11_told_36 rfl (lv_at hl 0 rfl) ?_
        refine lv_iload_n hx hb dX11_told_37 rfl (lv_at hl 1 rfl) ?_
        refine x_cl0 (x_runV (b := a) (As := [.int p0]) (rest := []) S (c_X11_inQueue l E K F G2 a p0 ha (v_X11_told_38_3 (F := F) a G2 G hR (ld_c hG2)) (v_X11_told_38_4 (F := F) a G2 G hM hB (ld_c hG2)) (v_X11_told_38_5 (F := F) a G2 G hM hB (ld_c hG2))) mv_X11_inQueue km_X11_306 rfl rfl ⟨Nat.le_of_ble_eq_true rfl, Nat.le_of_ble_eq_true rfl⟩ (rc_13 hK hT ha) hK (fun _ => XP.blind) (fun U hU hW => XP.at hK hz hS hT hU hW) rfl hl.1 (Nat.le_of_ble_eq_true rfl) dX11_told_38 ⟨Nat.le_of_ble_eq_true rfl, Nat.le_of_ble_eq_true rfl⟩) hS ?_
        rintro _ G38 H locs ⟨x38, rfl, hF38, t38, oq38, oq38a⟩ hT hS
        have t38 : 0 ≤ x38.toInt ∧ x38.toInt ≤ 2388 ∧ 0 ≤ ((G38.1 a 19).toInt) ∧ ((G38.1 a 19).toInt) ≤ 2388 := t38
        have oq38 : pL G38 F a = if ((G.1 a 6).toInt) = 0 then [] else fuO (G.2.1 (F a 10)) (mw (G.2.1 (F a 1)) 0) (mw (G.2.1 (F a 2)) 0) 1 := by simp only [(show G2.1 a 6 = G.1 a 6 from (ld_j hG2 (by decide))), (show G2.2.1 (F a 10) = G.2.1 (F a 10) from (ld_c hG2)), (show G2.2.1 (F a 1) = G.2.1 (F a 1) from (ld_c hG2)), (show G2.2.1 (F a 2) = G.2.1 (F a 2) from (ld_c hG2))] at oq38; exact oq38
        refine lv_goto (tgt := 50) hx hb dX11_told_41 (by decide) ?_
        exact x_ri hx hb hr hlk hQ (Nat.le_of_ble_eq_true rfl) (Nat.le_of_ble_eq_true rfl) hS dX11_told_50 G38 ⟨_, rfl, (XFr.call (by rw [hG2]; exact XFr.dput XFr.rf (List.mem_of_getElem? (i := 0) rfl)) hF38 (xm1 1 rfl (xm1 2 rfl xm0)) (xm1 0 rfl (xm1 1 rfl (xm1 2 rfl (xm1 3 rfl (xm1 4 rfl xm0))))) xm0), (v_X11_told_50_6 (K := K) (F := F) a G G38 x38 p0 x7 x19 p1 ha oq38 oq38a t7 c10 t19 c22 c33 t38)⟩ hT
    · refine lv_ldc (v := (-2147483648)) hx hb S.2.2.2.1 (S.2.2.2.2 _ (List.mem_cons_of_mem _ kc_X11_57)) dX11_told_25 ?_
      refine lv_goto (tgt := 50) hx hb dX11_told_27 (by decide) ?_
      exact x_ri hx hb hr hlk hQ (Nat.le_of_ble_eq_true rfl) (Nat.le_of_ble_eq_true rfl) hS dX11_told_50 G2 ⟨_, rfl, (by rw [hG2]; exact XFr.dput XFr.rf (List.mem_of_getElem? (i := 0) rfl)), (by rw [((by decide) : Int32.toInt (-2147483648) = (-2147483648 : Int))] <;> exact (v_X11_told_50_7 (K := K) (F := F) a G x7 p0 x19 p1 ha t7 c10 t19 c22))⟩ hT

theorem z_X11_question_4 (a0 : Int) (a1 : Int) (a2 : Int) (h0 : (a1 = 1 ∧ 0 ≤ a0 ∧ a0 ≤ 11 ∧ a2 ≠ -1) ∨ (a1 = 0 ∧ (¬ (0 ≤ a0 ∧ a0 ≤ 11) ∨ a2 = -1))) (h1 : ¬ (a1 = 0)) : a2 ≠ -1 := by omega
theorem z_X11_question_5 (a0 : Int) (a1 : Int) (a2 : Int) (a3 : Int) (h0 : (a1 = 1 ∧ a2 ≤ a0 ∧ a0 ≤ a3) ∨ (a1 = 0 ∧ (a0 < a2 ∨ a3 < a0))) (h1 : ¬ (a1 = 0)) : a2 ≤ a0 ∧ a0 ≤ a3 := by omega
abbrev rm_X11_question : Room := { frames := 4, cells := 0, slots := 0, locals := 104 }
set_option maxHeartbeats 4000000 in
set_option maxRecDepth 100000 in
theorem c_X11_question (l : Launch) (E : XE) (K : Nat → Nat) (F : Nat → Nat → Nat) (G : XG) (a : Nat) (p0 : Int32) (p1 : Int32) (p2 : Int32) (ha : K a = 13) (hR : RV (G.2.1 (F a 10))) (hM : RM (G.2.1 (F a 1)) (0)) : Met l yX11_question (xw yX11_question cX11_question 4 (some .int)) rm_X11_question (va_Pc [.ref a, .int p0, .int p1, .int p2] (XP E K F G)) (XQ E (fun v (u : XG) => ∃ r : Int32, v = .int r ∧ XFr [(a, 0)] [] [] G u ∧ ((¬ (0 ≤ p0.toInt ∧ p0.toInt ≤ 11 ∧ aI (G.2.1 (F a 10)) (10 * p0.toInt + 0) ≠ -1) ∧ r.toInt = -2147483648) ∨ ((0 ≤ p0.toInt ∧ p0.toInt ≤ 11 ∧ aI (G.2.1 (F a 10)) (10 * p0.toInt + 0) ≠ -1) ∧ r.toInt = quS (mw (G.2.1 (F a 1)) 0) (aI (G.2.1 (F a 10)) (10 * p0.toInt + 0)) (aI (G.2.1 (F a 10)) (10 * p0.toInt + 1)) (aI (G.2.1 (F a 10)) (10 * p0.toInt + 2)) (aI (G.2.1 (F a 10)) (10 * p0.toInt + 3)) (aI (G.2.1 (F a 10)) (10 * p0.toInt + 4)) (aI (G.2.1 (F a 10)) (10 * p0.toInt + 5)) p1.toInt p2.toInt))) (fun u H => TW E K F u H)) 0 0 (xA E) := by
  refine x_enter (by decide) (Nat.le_of_ble_eq_true rfl) ?_
  intro p e s m args below meth c Q S hr hlk hnm hQ hP ls hl
  obtain ⟨hz, hK, hT⟩ := hP
  obtain ⟨hx, hb, -, -, -⟩ := id S
  obtain ⟨H, hT, hS, hgo⟩ : ∃ H : Heap, TW E K F G H ∧ va_S (xA E) s.heap H [] ∧ H = s.heap := ⟨_, hT, va_S.rf, rfl⟩
  rw [← hgo]
  have hl : lv_has ls 4 [(0, .ref a), (1, .int p0), (2, .int p1), (3, .int p2)] := hl
  obtain ⟨hk9999, hj9999⟩ := fkX11_10 hT ha
  obtain ⟨hk9999a, hj9999a⟩ := fkX11_1 hT ha
  refine lv_aload_n hx hb dX11_question_0 rfl (lv_at hl 0 rfl) ?_
  refine lv_iconst (v := 0) hx hb dX11_question_1 (by decide) ?_
  refine pX11_0 (v := 0) S hK hT hS ha kf_X11_134 dX11_question_2 (fun H locs hT hS => ?_)
  obtain ⟨G2, hG2⟩ : ∃ GG : XG, GG = dput G a 0 0 := ⟨_, rfl⟩
  rw [← hG2] at hT
  refine lv_aload_n hx hb dX11_question_5 rfl (lv_at hl 0 rfl) ?_
  refine lv_iload_n hx hb dX11_question_6 rfl (lv_at hl 1 rfl) ?_
  refine x_clp (x_runV (b := a) (As := [.int p0]) (rest := []) S (c_X11_isRule l E K F G2 H a p0 ha) mv_X11_isRule km_X11_162 rfl rfl ⟨Nat.le_of_ble_eq_true rfl, Nat.le_of_ble_eq_true rfl⟩ (rc_13 hK hT ha) hK (fun _ => XPh.blind) (fun U hU hW => XPh.at hK hz hS hT hU hW) rfl hl.1 (Nat.le_of_ble_eq_true rfl) dX11_question_7 ⟨Nat.le_of_ble_eq_true rfl, Nat.le_of_ble_eq_true rfl⟩) hS ?_
  rintro _ _ locs ⟨x7, rfl, b7, t7⟩ hS
  have t7 : (x7.toInt = 1 ∧ 0 ≤ p0.toInt ∧ p0.toInt ≤ 11 ∧ (aI (G.2.1 (F a 10)) (10 * p0.toInt + 0)) ≠ -1) ∨ (x7.toInt = 0 ∧ (¬ (0 ≤ p0.toInt ∧ p0.toInt ≤ 11) ∨ (aI (G.2.1 (F a 10)) (10 * p0.toInt + 0)) = -1)) := by rw [(show G2.2.1 (F a 10) = G.2.1 (F a 10) from (ld_c hG2))] at t7; exact t7
  refine xi_zeq (tgt := 43) hx hb (rfl : Int32.toInt x7 = x7.toInt) dX11_question_10 (by decide) (fun c10 => ?_) (fun c10 => ?_)
  · refine lv_ldc (v := (-2147483648)) hx hb S.2.2.2.1 (S.2.2.2.2 _ (List.mem_cons_of_mem _ kc_X11_57)) dX11_question_43 ?_
    exact x_ri hx hb hr hlk hQ (Nat.le_of_ble_eq_true rfl) (Nat.le_of_ble_eq_true rfl) hS dX11_question_45 G2 ⟨_, rfl, (by rw [hG2]; exact XFr.dput XFr.rf (List.mem_of_getElem? (i := 0) rfl)), (by rw [((by decide) : Int32.toInt (-2147483648) = (-2147483648 : Int))] <;> exact (v_X11_question_45_1 (K := K) (F := F) a G x7 p0 p1 p2 ha t7 c10))⟩ hT
  · refine lv_iload_n hx hb dX11_question_13 rfl (lv_at hl 2 rfl) ?_
    refine lv_i2l (v := p1.toInt64) hx hb dX11_question_14 rfl ?_
    refine lv_aload_n hx hb dX11_question_15 rfl (lv_at hl 0 rfl) ?_
    refine lv_iload_n hx hb dX11_question_16 rfl (lv_at hl 1 rfl) ?_
    refine x_clp (x_runV (b := a) (As := [.int p0]) (rest := [.long p1.toInt64]) S (c_X11_firstSubject l E K F G2 H a p0 ha (z_X11_told_1 p0.toInt x7.toInt (aI (G.2.1 (F a 10)) (10 * p0.toInt + 0)) t7 c10)) mv_X11_firstSubject km_X11_179 rfl rfl ⟨Nat.le_of_ble_eq_true rfl, Nat.le_of_ble_eq_true rfl⟩ (rc_13 hK hT ha) hK (fun _ => XPh.blind) (fun U hU hW => XPh.at hK hz hS hT hU hW) rfl hl.1 (Nat.le_of_ble_eq_true rfl) dX11_question_17 ⟨Nat.le_of_ble_eq_true rfl, Nat.le_of_ble_eq_true rfl⟩) hS ?_
    rintro _ _ locs ⟨x17, rfl, t17⟩ hS
    have t17 : x17.toInt = (sF (aI (G.2.1 (F a 10)) (10 * p0.toInt + 0))) := by rw [(show G2.2.1 (F a 10) = G.2.1 (F a 10) from (ld_c hG2))] at t17; exact t17
    refine lv_i2l (v := x17.toInt64) hx hb dX11_question_20 rfl ?_
    refine lv_aload_n hx hb dX11_question_21 rfl (lv_at hl 0 rfl) ?_
    refine lv_iload_n hx hb dX11_question_22 rfl (lv_at hl 1 rfl) ?_
    refine x_clp (x_runV (b := a) (As := [.int p0]) (rest := [.long x17.toInt64, .long p1.toInt64]) S (c_X11_lastSubject l E K F G2 H a p0 ha (z_X11_told_1 p0.toInt x7.toInt (aI (G.2.1 (F a 10)) (10 * p0.toInt + 0)) t7 c10)) mv_X11_lastSubject km_X11_183 rfl rfl ⟨Nat.le_of_ble_eq_true rfl, Nat.le_of_ble_eq_true rfl⟩ (rc_13 hK hT ha) hK (fun _ => XPh.blind) (fun U hU hW => XPh.at hK hz hS hT hU hW) rfl hl.1 (Nat.le_of_ble_eq_true rfl) dX11_question_23 ⟨Nat.le_of_ble_eq_true rfl, Nat.le_of_ble_eq_true rfl⟩) hS ?_
    rintro _ _ locs ⟨x23, rfl, t23⟩ hS
    have t23 : x23.toInt = (sL (aI (G.2.1 (F a 10)) (10 * p0.toInt + 0))) := by rw [(show G2.2.1 (F a 10) = G.2.1 (F a 10) from (ld_c hG2))] at t23; exact t23
    refine lv_i2l (v := x23.toInt64) hx hb dX11_question_26 rfl ?_
    refine x_clp (x_runS (As := [.long p1.toInt64, .long x17.toInt64, .long x23.toInt64]) (rest := []) S (c_X11_in l E K F G2 H p1.toInt64 p1.toInt x17.toInt64 ((sF (aI (G.2.1 (F a 10)) (10 * p0.toInt + 0)))) x23.toInt64 ((sL (aI (G.2.1 (F a 10)) (10 * p0.toInt + 0)))) (xl_i2l (rfl : Int32.toInt p1 = p1.toInt)) (xl_i2l (t17 : Int32.toInt x17 = (sF (aI (G.2.1 (F a 10)) (10 * p0.toInt + 0))))) (xl_i2l (t23 : Int32.toInt x23 = (sL (aI (G.2.1 (F a 10)) (10 * p0.toInt + 0)))))) ms_X11_in km_X11_139 rfl rfl ⟨Nat.le_of_ble_eq_true rfl, Nat.le_of_ble_eq_true rfl⟩ hK (fun _ => XPh.blind) (fun U hU hW => XPh.at hK hz hS hT hU hW) rfl hl.1 (Nat.le_of_ble_eq_true rfl) dX11_question_27 ⟨Nat.le_of_ble_eq_true rfl, Nat.le_of_ble_eq_true rfl⟩) hS ?_
    rintro _ _ locs ⟨x27, rfl, b27, t27⟩ hS
    have t27 : (x27.toInt = 1 ∧ (sF (aI (G.2.1 (F a 10)) (10 * p0.toInt + 0))) ≤ p1.toInt ∧ p1.toInt ≤ (sL (aI (G.2.1 (F a 10)) (10 * p0.toInt + 0)))) ∨ (x27.toInt = 0 ∧ (p1.toInt < (sF (aI (G.2.1 (F a 10)) (10 * p0.toInt + 0))) ∨ (sL (aI (G.2.1 (F a 10)) (10 * p0.toInt + 0))) < p1.toInt)) := t27
    refine xi_zeq (tgt := 43) hx hb (rfl : Int32.toInt x27 = x27.toInt) dX11_question_30 (by decide) (fun c30 => ?_) (fun c30 => ?_)
    · refine lv_ldc (v := (-2147483648)) hx hb S.2.2.2.1 (S.2.2.2.2 _ (List.mem_cons_of_mem _ kc_X11_57)) dX11_question_43 ?_
      exact x_ri hx hb hr hlk hQ (Nat.le_of_ble_eq_true rfl) (Nat.le_of_ble_eq_true rfl) hS dX11_question_45 G2 ⟨_, rfl, (by rw [hG2]; exact XFr.dput XFr.rf (List.mem_of_getElem? (i := 0) rfl)), (by rw [((by decide) : Int32.toInt (-2147483648) = (-2147483648 : Int))] <;> exact (v_X11_question_45_2 (K := K) (F := F) a G p0 x7 x27 p1 p2 ha t7 c10 t27 c30))⟩ hT
    · refine lv_iload_n hx hb dX11_question_33 rfl (lv_at hl 3 rfl) ?_
      refine lv_i2l (v := p2.toInt64) hx hb dX11_question_34 rfl ?_
      refine lv_lconst (v := (0 : Int64)) hx hb dX11_question_35 (by decide) ?_
      refine lv_lconst (v := (1 : Int64)) hx hb dX11_question_36 (by decide) ?_
      refine x_clp (x_runS (As := [.long p2.toInt64, .long (0 : Int64), .long (1 : Int64)]) (rest := []) S (c_X11_in l E K F G2 H p2.toInt64 p2.toInt (0 : Int64) (0 : Int) (1 : Int64) (1 : Int) (xl_i2l (rfl : Int32.toInt p2 = p2.toInt)) (by decide) (by decide)) ms_X11_in km_X11_139 rfl rfl ⟨Nat.le_of_ble_eq_true rfl, Nat.le_of_ble_eq_true rfl⟩ hK (fun _ => XPh.blind) (fun U hU hW => XPh.at hK hz hS hT hU hW) rfl hl.1 (Nat.le_of_ble_eq_true rfl) dX11_question_37 ⟨Nat.le_of_ble_eq_true rfl, Nat.le_of_ble_eq_true rfl⟩) hS ?_
      rintro _ _ locs ⟨x37, rfl, b37, t37⟩ hS
      have t37 : (x37.toInt = 1 ∧ (0 : Int) ≤ p2.toInt ∧ p2.toInt ≤ (1 : Int)) ∨ (x37.toInt = 0 ∧ (p2.toInt < (0 : Int) ∨ (1 : Int) < p2.toInt)) := t37
      refine xi_zne (tgt := 46) hx hb (rfl : Int32.toInt x37 = x37.toInt) dX11_question_40 (by decide) (fun c40 => ?_) (fun c40 => ?_)
      · refine lv_iload_n hx hb dX11_question_46 rfl (lv_at hl 3 rfl) ?_
        refine xi_zne (tgt := 64) hx hb (rfl : Int32.toInt p2 = p2.toInt) dX11_question_47 (by decide) (fun c47 => ?_) (fun c47 => ?_)
        · refine lv_aload_n hx hb dX11_question_64 rfl (lv_at hl 0 rfl) ?_
          refine lv_iload_n hx hb dX11_question_65 rfl (lv_at hl 1 rfl) ?_
          refine lv_iload_n hx hb dX11_question_66 rfl (lv_at hl 2 rfl) ?_
          refine lv_aload_n hx hb dX11_question_67 rfl (lv_at hl 0 rfl) ?_
          refine gX11_1 S hK hT ha kf_X11_9 dX11_question_68 (fun _ _ => ?_)
          refine lv_iconst (v := 0) hx hb dX11_question_71 (by decide) ?_
          refine x_clp (x_runV (b := a) (As := [.int p0, .int p1, .ref (F a 1), .int 0]) (rest := []) S (c_X11_fails l E K F G2 H a p0 p1 (F a 1) 0 ha (XO.a hk9999a (by decide)) (z_X11_told_1 p0.toInt x7.toInt (aI (G.2.1 (F a 10)) (10 * p0.toInt + 0)) t7 c10) (by rw [(show G2.2.1 (F a 10) = G.2.1 (F a 10) from (ld_c hG2))] <;> exact (z_X11_question_4 p0.toInt x7.toInt (aI (G.2.1 (F a 10)) (10 * p0.toInt + 0)) t7 c10)) (by rw [(show G2.2.1 (F a 10) = G.2.1 (F a 10) from (ld_c hG2))] <;> exact (z_X11_question_5 p1.toInt x27.toInt (sF (aI (G.2.1 (F a 10)) (10 * p0.toInt + 0))) (sL (aI (G.2.1 (F a 10)) (10 * p0.toInt + 0))) t27 c30)) (v_X11_question_72_3 (F := F) a G2 G hR (ld_c hG2)) (v_X11_question_72_4 (F := F) a G2 G hM (ld_c hG2))) mv_X11_fails km_X11_221 rfl rfl ⟨Nat.le_of_ble_eq_true rfl, Nat.le_of_ble_eq_true rfl⟩ (rc_13 hK hT ha) hK (fun _ => XPh.blind) (fun U hU hW => XPh.at hK hz hS hT hU hW) rfl hl.1 (Nat.le_of_ble_eq_true rfl) dX11_question_72 ⟨Nat.le_of_ble_eq_true rfl, Nat.le_of_ble_eq_true rfl⟩) hS ?_
          rintro _ _ locs ⟨x72, rfl, b72, t72⟩ hS
          have t72 : x72.toInt = (flq (mw (G.2.1 (F a 1)) 0) (aI (G.2.1 (F a 10)) (10 * p0.toInt + 0)) (aI (G.2.1 (F a 10)) (10 * p0.toInt + 1)) (aI (G.2.1 (F a 10)) (10 * p0.toInt + 2)) (aI (G.2.1 (F a 10)) (10 * p0.toInt + 4)) (aI (G.2.1 (F a 10)) (10 * p0.toInt + 5)) (p1.toInt) (stt (mw (G.2.1 (F a 1)) 0) (aI (G.2.1 (F a 10)) (10 * p0.toInt + 0)) (aI (G.2.1 (F a 10)) (10 * p0.toInt + 1)) (aI (G.2.1 (F a 10)) (10 * p0.toInt + 2)) (aI (G.2.1 (F a 10)) (10 * p0.toInt + 3)) (p1.toInt))) := by rw [(show G2.2.1 (F a 1) = G.2.1 (F a 1) from (ld_c hG2))] at t72; rw [(show G2.2.1 (F a 10) = G.2.1 (F a 10) from (ld_c hG2))] at t72; exact t72
          refine xi_zeq (tgt := 82) hx hb (rfl : Int32.toInt x72 = x72.toInt) dX11_question_75 (by decide) (fun c75 => ?_) (fun c75 => ?_)
          · refine lv_iconst (v := 0) hx hb dX11_question_82 (by decide) ?_
            exact x_ri hx hb hr hlk hQ (Nat.le_of_ble_eq_true rfl) (Nat.le_of_ble_eq_true rfl) hS dX11_question_83 G2 ⟨_, rfl, (by rw [hG2]; exact XFr.dput XFr.rf (List.mem_of_getElem? (i := 0) rfl)), (v_X11_question_83_5 (K := K) (F := F) a G p0 x7 x27 p1 x37 p2 x72 ha t7 c10 t27 c30 t37 c40 c47 t72 (xzi b72) c75)⟩ hT
          · refine lv_iconst (v := 1) hx hb dX11_question_78 (by decide) ?_
            refine lv_goto (tgt := 83) hx hb dX11_question_79 (by decide) ?_
            exact x_ri hx hb hr hlk hQ (Nat.le_of_ble_eq_true rfl) (Nat.le_of_ble_eq_true rfl) hS dX11_question_83 G2 ⟨_, rfl, (by rw [hG2]; exact XFr.dput XFr.rf (List.mem_of_getElem? (i := 0) rfl)), (v_X11_question_83_6 (K := K) (F := F) a G p0 x7 x27 p1 x37 p2 x72 ha t7 c10 t27 c30 t37 c40 c47 t72 (xzi b72) c75)⟩ hT
        · refine lv_aload_n hx hb dX11_question_50 rfl (lv_at hl 0 rfl) ?_
          refine lv_iload_n hx hb dX11_question_51 rfl (lv_at hl 1 rfl) ?_
          refine lv_iload_n hx hb dX11_question_52 rfl (lv_at hl 2 rfl) ?_
          refine lv_aload_n hx hb dX11_question_53 rfl (lv_at hl 0 rfl) ?_
          refine gX11_1 S hK hT ha kf_X11_9 dX11_question_54 (fun _ _ => ?_)
          refine lv_iconst (v := 0) hx hb dX11_question_57 (by decide) ?_
          refine x_clp (x_runV (b := a) (As := [.int p0, .int p1, .ref (F a 1), .int 0]) (rest := []) S (c_X11_stateOf l E K F G2 H a p0 p1 (F a 1) 0 ha (XO.a hk9999a (by decide)) (z_X11_told_1 p0.toInt x7.toInt (aI (G.2.1 (F a 10)) (10 * p0.toInt + 0)) t7 c10) (by rw [(show G2.2.1 (F a 10) = G.2.1 (F a 10) from (ld_c hG2))] <;> exact (z_X11_question_4 p0.toInt x7.toInt (aI (G.2.1 (F a 10)) (10 * p0.toInt + 0)) t7 c10)) (by rw [(show G2.2.1 (F a 10) = G.2.1 (F a 10) from (ld_c hG2))] <;> exact (z_X11_question_5 p1.toInt x27.toInt (sF (aI (G.2.1 (F a 10)) (10 * p0.toInt + 0))) (sL (aI (G.2.1 (F a 10)) (10 * p0.toInt + 0))) t27 c30)) (v_X11_question_58_7 (F := F) a G2 G hR (ld_c hG2)) (v_X11_question_58_8 (F := F) a G2 G hM (ld_c hG2))) mv_X11_stateOf km_X11_189 rfl rfl ⟨Nat.le_of_ble_eq_true rfl, Nat.le_of_ble_eq_true rfl⟩ (rc_13 hK hT ha) hK (fun _ => XPh.blind) (fun U hU hW => XPh.at hK hz hS hT hU hW) rfl hl.1 (Nat.le_of_ble_eq_true rfl) dX11_question_58 ⟨Nat.le_of_ble_eq_true rfl, Nat.le_of_ble_eq_true rfl⟩) hS ?_
          rintro _ _ locs ⟨x58, rfl, t58⟩ hS
          have t58 : x58.toInt = (stt (mw (G.2.1 (F a 1)) 0) (aI (G.2.1 (F a 10)) (10 * p0.toInt + 0)) (aI (G.2.1 (F a 10)) (10 * p0.toInt + 1)) (aI (G.2.1 (F a 10)) (10 * p0.toInt + 2)) (aI (G.2.1 (F a 10)) (10 * p0.toInt + 3)) (p1.toInt)) := by rw [(show G2.2.1 (F a 1) = G.2.1 (F a 1) from (ld_c hG2))] at t58; rw [(show G2.2.1 (F a 10) = G.2.1 (F a 10) from (ld_c hG2))] at t58; exact t58
          refine lv_goto (tgt := 83) hx hb dX11_question_61 (by decide) ?_
          exact x_ri hx hb hr hlk hQ (Nat.le_of_ble_eq_true rfl) (Nat.le_of_ble_eq_true rfl) hS dX11_question_83 G2 ⟨_, rfl, (by rw [hG2]; exact XFr.dput XFr.rf (List.mem_of_getElem? (i := 0) rfl)), (by rw [(t58 : Int32.toInt x58 = (stt (mw (G.2.1 (F a 1)) 0) (aI (G.2.1 (F a 10)) (10 * p0.toInt + 0)) (aI (G.2.1 (F a 10)) (10 * p0.toInt + 1)) (aI (G.2.1 (F a 10)) (10 * p0.toInt + 2)) (aI (G.2.1 (F a 10)) (10 * p0.toInt + 3)) (p1.toInt)))] <;> exact (v_X11_question_83_9 (K := K) (F := F) a G p0 p1 x7 x27 x37 p2 ha t7 c10 t27 c30 t37 c40 c47))⟩ hT
      · refine lv_ldc (v := (-2147483648)) hx hb S.2.2.2.1 (S.2.2.2.2 _ (List.mem_cons_of_mem _ kc_X11_57)) dX11_question_43 ?_
        exact x_ri hx hb hr hlk hQ (Nat.le_of_ble_eq_true rfl) (Nat.le_of_ble_eq_true rfl) hS dX11_question_45 G2 ⟨_, rfl, (by rw [hG2]; exact XFr.dput XFr.rf (List.mem_of_getElem? (i := 0) rfl)), (by rw [((by decide) : Int32.toInt (-2147483648) = (-2147483648 : Int))] <;> exact (v_X11_question_45_10 (K := K) (F := F) a G p0 x7 x27 p1 x37 p2 ha t7 c10 t27 c30 t37 c40))⟩ hT

theorem z_X11_lateMany_1 (a0 : Int) (h0 : 0 ≤ a0 ∧ a0 ≤ 12) : ¬ (2147483648 - a0 < ((0 : Nat) : Int)) := by omega
theorem z_X11_lateMany_2 (a0 : Int) (a1 : Int) (h0 : 0 ≤ a0 ∧ a0 ≤ 12) (h1 : a1 = (a0 + 1) ∨ (a0 + 1) < -2147483648 ∨ 2147483648 ≤ (a0 + 1)) : a1 = (a0 + 1) := by omega
theorem z_X11_lateMany_3 (a0 : Int) (h0 : 0 ≤ a0 ∧ a0 ≤ 12) (h1 : ¬ ((12 : Int) ≤ a0)) : 0 ≤ (a0 + 1) ∧ (a0 + 1) ≤ 12 := by omega
theorem z_X11_lateMany_4 (a0 : Int) (h0 : 0 ≤ a0 ∧ a0 ≤ 12) : (0 : Int) ≤ (a0 + 1) := by omega
theorem z_X11_lateMany_5 (a0 : Int) (a1 : Nat) (h0 : 2147483648 - a0 < ((a1 + 1 : Nat) : Int)) : 2147483648 - (a0 + 1) < ((a1 : Nat) : Int) := by omega
theorem z_X11_lateMany_6 (a0 : Int) (h0 : 0 ≤ a0 ∧ a0 ≤ 12) (h1 : ¬ ((12 : Int) ≤ a0)) : 0 ≤ a0 ∧ a0 ≤ 11 := by omega
abbrev rm_X11_lateMany : Room := { frames := 2, cells := 0, slots := 0, locals := 46 }
set_option maxHeartbeats 4000000 in
set_option maxRecDepth 100000 in
theorem c_X11_lateMany (l : Launch) (E : XE) (K : Nat → Nat) (F : Nat → Nat → Nat) (G : XG) (h0 : Heap) (a : Nat) (ha : K a = 13) : Met l yX11_lateMany (xw yX11_lateMany cX11_lateMany 3 (some .int)) rm_X11_lateMany (va_Pc [.ref a] (XPh E K F G h0)) (XQ E (fun v (u : Unit) => ∃ r : Int32, v = .int r) (fun _ H => H = h0)) 0 0 (xA E) := by
  refine x_enter (by decide) (Nat.le_of_ble_eq_true rfl) ?_
  intro p e s m args below meth c Q S hr hlk hnm hQ hP ls hl
  obtain ⟨⟨hz, hK, hT⟩, hh⟩ := hP
  obtain ⟨hx, hb, -, -, -⟩ := id S
  have hS : va_S (xA E) s.heap s.heap [] := va_S.rf
  have hl : lv_has ls 3 [(0, .ref a)] := hl
  refine lv_iconst (v := 0) hx hb dX11_lateMany_0 (by decide) ?_
  refine lv_istore_n (lv' := [(1, .int 0), (0, .ref a)]) hx hb dX11_lateMany_1 rfl hl (by decide) rfl (fun ls hl => ?_)
  refine lv_iconst (v := 0) hx hb dX11_lateMany_2 (by decide) ?_
  refine lv_istore_n (lv' := [(2, .int 0), (1, .int 0), (0, .ref a)]) hx hb dX11_lateMany_3 rfl hl (by decide) rfl (fun ls hl => ?_)
  have L4 : ∀ (N4 : Nat) (l1_4 : Int32) (l2_4 : Int32) (locs : List Loc) (ls : Array Slot), 0 ≤ l2_4.toInt ∧ l2_4.toInt ≤ 12 → (0 : Int) ≤ l2_4.toInt → 2147483648 - l2_4.toInt < ((N4 : Nat) : Int) → TW E K F G s.heap → va_S (xA E) s.heap s.heap locs → lv_has ls 3 [(0, .ref a), (1, .int l1_4), (2, .int l2_4)] → W p l e rm_X11_lateMany s m args below meth c s.heap locs 0 0 Q (F0 m 4 ls []) := by
    intro N4
    induction N4 with
    | zero =>
      intro l1_4 l2_4 locs ls I4_0 I4_1 hm4
      exact absurd hm4 (z_X11_lateMany_1 l2_4.toInt I4_0)
    | succ N4 ih4 =>
      intro l1_4 l2_4 locs ls I4_0 I4_1 hm4 hT hS hl
      refine lv_iload_n hx hb dX11_lateMany_4 rfl (lv_at hl 2 rfl) ?_
      refine lv_bipush (v := 12) hx hb dX11_lateMany_5 (by decide) ?_
      refine xi_cge (tgt := 38) hx hb (rfl : Int32.toInt l2_4 = l2_4.toInt) ((by decide) : Int32.toInt 12 = (12 : Int)) dX11_lateMany_7 (by decide) (fun c7 => ?_) (fun c7 => ?_)
      · refine lv_iload_n hx hb dX11_lateMany_38 rfl (lv_at hl 1 rfl) ?_
        exact x_ri hx hb hr hlk hQ (Nat.le_of_ble_eq_true rfl) (Nat.le_of_ble_eq_true rfl) hS dX11_lateMany_39 () ⟨_, rfl⟩ hh
      · refine lv_iload_n hx hb dX11_lateMany_10 rfl (lv_at hl 1 rfl) ?_
        refine lv_aload_n hx hb dX11_lateMany_11 rfl (lv_at hl 0 rfl) ?_
        refine lv_iload_n hx hb dX11_lateMany_12 rfl (lv_at hl 2 rfl) ?_
        refine x_clp (x_runV (b := a) (As := [.int l2_4]) (rest := [.int l1_4]) S (c_X11_isRule l E K F G s.heap a l2_4 ha) mv_X11_isRule km_X11_162 rfl rfl ⟨Nat.le_of_ble_eq_true rfl, Nat.le_of_ble_eq_true rfl⟩ (rc_13 hK hT ha) hK (fun _ => XPh.blind) (fun U hU hW => XPh.at hK hz hS hT hU hW) rfl hl.1 (Nat.le_of_ble_eq_true rfl) dX11_lateMany_13 ⟨Nat.le_of_ble_eq_true rfl, Nat.le_of_ble_eq_true rfl⟩) hS ?_
        rintro _ _ locs ⟨x13, rfl, b13, t13⟩ hS
        obtain ⟨hk13, hj13⟩ := fkX11_10 hT ha
        have t13 : (x13.toInt = 1 ∧ 0 ≤ l2_4.toInt ∧ l2_4.toInt ≤ 11 ∧ (aI (G.2.1 (F a 10)) (10 * l2_4.toInt + 0)) ≠ -1) ∨ (x13.toInt = 0 ∧ (¬ (0 ≤ l2_4.toInt ∧ l2_4.toInt ≤ 11) ∨ (aI (G.2.1 (F a 10)) (10 * l2_4.toInt + 0)) = -1)) := t13
        have J30 : ∀ (k_30 : Int32) (locs : List Loc) (ls : Array Slot), TW E K F G s.heap → va_S (xA E) s.heap s.heap locs → lv_has ls 3 [(0, .ref a), (2, .int l2_4)] → W p l e rm_X11_lateMany s m args below meth c s.heap locs 0 0 Q (F0 m 30 ls [.int k_30, .int l1_4]) := by
          intro k_30 locs ls hT hS hl
          refine xi_iadd hx hb (rfl : Int32.toInt l1_4 = l1_4.toInt) (rfl : Int32.toInt k_30 = k_30.toInt) dX11_lateMany_30 (fun x30 t30 => ?_)
          refine lv_istore_n (lv' := [(1, .int x30), (0, .ref a), (2, .int l2_4)]) hx hb dX11_lateMany_31 rfl hl (by decide) rfl (fun ls hl => ?_)
          refine xi_iinc (n := 1) (lv' := fun z9 => [(2, .int z9), (1, .int x30), (0, .ref a)]) (k := 2) hx hb (rfl : Int32.toInt l2_4 = l2_4.toInt) (by decide) dX11_lateMany_32 hl rfl (by decide) (fun _ => rfl) (fun x32 ls t32 hl => ?_)
          have e32 : x32.toInt = (l2_4.toInt + 1) := (z_X11_lateMany_2 l2_4.toInt x32.toInt I4_0 t32)
          have hl : lv_has ls 3 [(2, .int x32), (1, .int x30), (0, .ref a)] := hl
          refine lv_goto (tgt := 4) hx hb dX11_lateMany_35 (by decide) ?_
          exact ih4 x30 x32 _ _ (by rw [(e32 : Int32.toInt x32 = (l2_4.toInt + 1))] <;> exact (z_X11_lateMany_3 l2_4.toInt I4_0 c7)) (by rw [(e32 : Int32.toInt x32 = (l2_4.toInt + 1))] <;> exact (z_X11_lateMany_4 l2_4.toInt I4_0)) (by rw [(e32 : Int32.toInt x32 = (l2_4.toInt + 1))] <;> exact (z_X11_lateMany_5 l2_4.toInt N4 hm4)) hT hS (lv_sub hl [2, 1, 0] rfl)
        refine xi_zeq (tgt := 29) hx hb (rfl : Int32.toInt x13 = x13.toInt) dX11_lateMany_16 (by decide) (fun c16 => ?_) (fun c16 => ?_)
        · refine lv_iconst (v := 0) hx hb dX11_lateMany_29 (by decide) ?_
          exact J30 0 _ _ hT hS (lv_sub hl [0, 2] rfl)
        · refine lv_aload_n hx hb dX11_lateMany_19 rfl (lv_at hl 0 rfl) ?_
          refine lv_iload_n hx hb dX11_lateMany_20 rfl (lv_at hl 2 rfl) ?_
          refine lv_bipush (v := 6) hx hb dX11_lateMany_21 (by decide) ?_
          refine x_clp (x_runV (b := a) (As := [.int l2_4, .int 6]) (rest := [.int l1_4]) S (c_X11_of l E K F G s.heap a l2_4 6 ha (z_X11_lateMany_6 l2_4.toInt I4_0 c7) (by decide)) mv_X11_of km_X11_165 rfl rfl ⟨Nat.le_of_ble_eq_true rfl, Nat.le_of_ble_eq_true rfl⟩ (rc_13 hK hT ha) hK (fun _ => XPh.blind) (fun U hU hW => XPh.at hK hz hS hT hU hW) rfl hl.1 (Nat.le_of_ble_eq_true rfl) dX11_lateMany_23 ⟨Nat.le_of_ble_eq_true rfl, Nat.le_of_ble_eq_true rfl⟩) hS ?_
          rintro _ _ locs ⟨x23, rfl, t23⟩ hS
          obtain ⟨hk23, hj23⟩ := fkX11_10 hT ha
          have t23 : x23.toInt = (aI (G.2.1 (F a 10)) (10 * l2_4.toInt + 6)) := t23
          refine lv_goto (tgt := 30) hx hb dX11_lateMany_26 (by decide) ?_
          exact J30 x23 _ _ hT hS (lv_sub hl [0, 2] rfl)
  exact L4 4294967297 0 0 _ _ (by decide) (by decide) (by decide) hT hS (lv_sub hl [2, 1, 0] rfl)

theorem z_X11_count_1 (a0 : Int) : (a0 < 0 ∨ 9 < a0) ∨ (a0 = 0) ∨ (a0 = 1) ∨ (a0 = 2) ∨ (a0 = 3) ∨ (a0 = 4) ∨ (a0 = 5) ∨ (a0 = 6) ∨ (a0 = 7) ∨ (a0 = 8) ∨ (a0 = 9) := by omega
theorem z_X11_count_2 (a0 : Int) (a1 : Int) (a2 : Int) (h0 : a0 < 0 ∨ 9 < a0) (h1 : (a1 = 1 ∧ (4 : Int) ≤ a0 ∧ a0 ≤ (7 : Int)) ∨ (a1 = 0 ∧ (a0 < (4 : Int) ∨ (7 : Int) < a0))) (h2 : ¬ (a1 = 0)) : 0 ≤ a2 ∧ a2 < ((4 : Nat) : Int) := by omega
theorem z_X11_count_3 (a0 : Int) (a1 : Int) (h0 : a0 = 4) (h1 : a1 = a0 - (4 : Int) ∨ a0 - (4 : Int) < -2147483648 ∨ 2147483648 ≤ a0 - (4 : Int)) : 0 ≤ a1 ∧ a1 < ((4 : Nat) : Int) := by omega
theorem z_X11_count_4 (a0 : Int) (a1 : Int) (h0 : a0 = 5) (h1 : a1 = a0 - (4 : Int) ∨ a0 - (4 : Int) < -2147483648 ∨ 2147483648 ≤ a0 - (4 : Int)) : 0 ≤ a1 ∧ a1 < ((4 : Nat) : Int) := by omega
theorem z_X11_count_5 (a0 : Int) (a1 : Int) (h0 : a0 = 6) (h1 : a1 = a0 - (4 : Int) ∨ a0 - (4 : Int) < -2147483648 ∨ 2147483648 ≤ a0 - (4 : Int)) : 0 ≤ a1 ∧ a1 < ((4 : Nat) : Int) := by omega
theorem z_X11_count_6 (a0 : Int) (a1 : Int) (h0 : a0 = 7) (h1 : a1 = a0 - (4 : Int) ∨ a0 - (4 : Int) < -2147483648 ∨ 2147483648 ≤ a0 - (4 : Int)) : 0 ≤ a1 ∧ a1 < ((4 : Nat) : Int) := by omega
abbrev rm_X11_count : Room := { frames := 6, cells := 0, slots := 0, locals := 142 }
set_option maxHeartbeats 4000000 in
set_option maxRecDepth 100000 in
theorem c_X11_count (l : Launch) (E : XE) (K : Nat → Nat) (F : Nat → Nat → Nat) (G : XG) (a : Nat) (p0 : Int32) (ha : K a = 13) (hR : RV (G.2.1 (F a 10))) (hM : RM (G.2.1 (F a 1)) (0)) (hB : RM (G.2.1 (F a 2)) 0) : Met l yX11_count (xw yX11_count cX11_count 2 (some .int)) rm_X11_count (va_Pc [.ref a, .int p0] (XP E K F G)) (XQ E (fun v (u : XG) => ∃ r : Int32, v = .int r ∧ XFr [(a, 0), (a, 16), (a, 19)] [F a 15, F a 17, F a 18, F a 11, F a 13] [] G u) (fun u H => TW E K F u H)) 0 0 (xA E) := by
  refine x_enter (by decide) (Nat.le_of_ble_eq_true rfl) ?_
  intro p e s m args below meth c Q S hr hlk hnm hQ hP ls hl
  obtain ⟨hz, hK, hT⟩ := hP
  obtain ⟨hx, hb, -, -, -⟩ := id S
  obtain ⟨H, hT, hS, hgo⟩ : ∃ H : Heap, TW E K F G H ∧ va_S (xA E) s.heap H [] ∧ H = s.heap := ⟨_, hT, va_S.rf, rfl⟩
  rw [← hgo]
  have hl : lv_has ls 2 [(0, .ref a), (1, .int p0)] := hl
  obtain ⟨hk9999, hj9999⟩ := fkX11_15 hT ha
  obtain ⟨hk9999a, hj9999a⟩ := fkX11_17 hT ha
  obtain ⟨hk9999b, hj9999b⟩ := fkX11_18 hT ha
  obtain ⟨hk9999c, hj9999c⟩ := fkX11_11 hT ha
  obtain ⟨hk9999d, hj9999d⟩ := fkX11_13 hT ha
  obtain ⟨hk9999e, hj9999e⟩ := fkX11_10 hT ha
  obtain ⟨hk9999f, hj9999f⟩ := fkX11_1 hT ha
  obtain ⟨hk9999g, hj9999g⟩ := fkX11_2 hT ha
  refine lv_aload_n hx hb dX11_count_0 rfl (lv_at hl 0 rfl) ?_
  refine lv_iconst (v := 0) hx hb dX11_count_1 (by decide) ?_
  refine pX11_0 (v := 0) S hK hT hS ha kf_X11_134 dX11_count_2 (fun H locs hT hS => ?_)
  obtain ⟨G2, hG2⟩ : ∃ GG : XG, GG = dput G a 0 0 := ⟨_, rfl⟩
  rw [← hG2] at hT
  refine lv_iload_n hx hb dX11_count_5 rfl (lv_at hl 1 rfl) ?_
  rcases ((z_X11_count_1 p0.toInt) : (p0.toInt < 0 ∨ 9 < p0.toInt) ∨ (p0.toInt = 0) ∨ (p0.toInt = 1) ∨ (p0.toInt = 2) ∨ (p0.toInt = 3) ∨ (p0.toInt = 4) ∨ (p0.toInt = 5) ∨ (p0.toInt = 6) ∨ (p0.toInt = 7) ∨ (p0.toInt = 8) ∨ (p0.toInt = 9)) with c6 | c6 | c6 | c6 | c6 | c6 | c6 | c6 | c6 | c6 | c6
  · refine lv_tableOut (tgt := 98) hx hb dX11_count_6 c6 (by decide) ?_
    refine lv_iload_n hx hb dX11_count_98 rfl (lv_at hl 1 rfl) ?_
    refine lv_i2l (v := p0.toInt64) hx hb dX11_count_99 rfl ?_
    refine lv_ldc2 (v := 4) hx hb S.2.2.2.1 (S.2.2.2.2 _ (List.mem_cons_of_mem _ kc_X11_401)) dX11_count_100 ?_
    refine lv_ldc2 (v := 7) hx hb S.2.2.2.1 (S.2.2.2.2 _ (List.mem_cons_of_mem _ kc_X11_403)) dX11_count_103 ?_
    refine x_clp (x_runS (As := [.long p0.toInt64, .long (4 : Int64), .long (7 : Int64)]) (rest := []) S (c_X11_in l E K F G2 H p0.toInt64 p0.toInt (4 : Int64) (4 : Int) (7 : Int64) (7 : Int) (xl_i2l (rfl : Int32.toInt p0 = p0.toInt)) (by decide) (by decide)) ms_X11_in km_X11_139 rfl rfl ⟨Nat.le_of_ble_eq_true rfl, Nat.le_of_ble_eq_true rfl⟩ hK (fun _ => XPh.blind) (fun U hU hW => XPh.at hK hz hS hT hU hW) rfl hl.1 (Nat.le_of_ble_eq_true rfl) dX11_count_106 ⟨Nat.le_of_ble_eq_true rfl, Nat.le_of_ble_eq_true rfl⟩) hS ?_
    rintro _ _ locs ⟨x106, rfl, b106, t106⟩ hS
    have t106 : (x106.toInt = 1 ∧ (4 : Int) ≤ p0.toInt ∧ p0.toInt ≤ (7 : Int)) ∨ (x106.toInt = 0 ∧ (p0.toInt < (4 : Int) ∨ (7 : Int) < p0.toInt)) := t106
    refine xi_zeq (tgt := 123) hx hb (rfl : Int32.toInt x106 = x106.toInt) dX11_count_109 (by decide) (fun c109 => ?_) (fun c109 => ?_)
    · refine lv_iconst (v := (-1)) hx hb dX11_count_123 (by decide) ?_
      exact x_ri hx hb hr hlk hQ (Nat.le_of_ble_eq_true rfl) (Nat.le_of_ble_eq_true rfl) hS dX11_count_124 G2 ⟨_, rfl, (by rw [hG2]; exact XFr.dput XFr.rf (List.mem_of_getElem? (i := 0) rfl))⟩ hT
    · refine lv_aload_n hx hb dX11_count_112 rfl (lv_at hl 0 rfl) ?_
      obtain ⟨hk113, hj113⟩ := fkX11_9 hT ha
      refine gX11_9 S hK hT ha kf_X11_30 dX11_count_113 (fun _ _ => ?_)
      refine lv_iload_n hx hb dX11_count_116 rfl (lv_at hl 1 rfl) ?_
      refine lv_iconst (v := 4) hx hb dX11_count_117 (by decide) ?_
      refine xi_isub hx hb (rfl : Int32.toInt p0 = p0.toInt) ((by decide) : Int32.toInt 4 = (4 : Int)) dX11_count_118 (fun x118 t118 => ?_)
      refine al_0 S hK hT hk113 ar_36 (by decide) (z_X11_count_2 p0.toInt x106.toInt x118.toInt c6 t106 c109) dX11_count_119 (fun x119 hv119 o119 => ?_)
      have hv119 : x119.toInt = (aI (G.2.1 (F a 9)) (x118.toInt)) := hv119.trans (by rw [(rfl : Int32.toInt x118 = x118.toInt), ((ld_c hG2) : G2.2.1 (F a 9) = G.2.1 (F a 9))])
      refine lv_goto (tgt := 124) hx hb dX11_count_120 (by decide) ?_
      exact x_ri hx hb hr hlk hQ (Nat.le_of_ble_eq_true rfl) (Nat.le_of_ble_eq_true rfl) hS dX11_count_124 G2 ⟨_, rfl, (by rw [hG2]; exact XFr.dput XFr.rf (List.mem_of_getElem? (i := 0) rfl))⟩ hT
  · refine lv_tableIn (off := 54) (tgt := 60) hx hb dX11_count_6 (by rw [c6]; decide) (by rw [c6]; decide) (by rw [c6]; rfl) (by decide) ?_
    refine lv_aload_n hx hb dX11_count_60 rfl (lv_at hl 0 rfl) ?_
    refine x_clp (x_runV (b := a) (As := []) (rest := []) S (c_X11_ruleMany l E K F G2 H a ha) mv_X11_ruleMany km_X11_303 rfl rfl ⟨Nat.le_of_ble_eq_true rfl, Nat.le_of_ble_eq_true rfl⟩ (rc_13 hK hT ha) hK (fun _ => XPh.blind) (fun U hU hW => XPh.at hK hz hS hT hU hW) rfl hl.1 (Nat.le_of_ble_eq_true rfl) dX11_count_61 ⟨Nat.le_of_ble_eq_true rfl, Nat.le_of_ble_eq_true rfl⟩) hS ?_
    rintro _ _ locs ⟨x61, rfl, t61⟩ hS
    have t61 : x61.toInt = (nRl (G.2.1 (F a 10)) 12) := by rw [(show G2.2.1 (F a 10) = G.2.1 (F a 10) from (ld_c hG2))] at t61; exact t61
    exact x_ri hx hb hr hlk hQ (Nat.le_of_ble_eq_true rfl) (Nat.le_of_ble_eq_true rfl) hS dX11_count_64 G2 ⟨_, rfl, (by rw [hG2]; exact XFr.dput XFr.rf (List.mem_of_getElem? (i := 0) rfl))⟩ hT
  · refine lv_tableIn (off := 59) (tgt := 65) hx hb dX11_count_6 (by rw [c6]; decide) (by rw [c6]; decide) (by rw [c6]; rfl) (by decide) ?_
    refine lv_aload_n hx hb dX11_count_65 rfl (lv_at hl 0 rfl) ?_
    refine x_clp (x_runV (b := a) (As := []) (rest := []) S (c_X11_rowMany l E K F G2 H a ha (v_X11_count_66_1 (F := F) a G2 G hM hB (ld_c hG2))) mv_X11_rowMany km_X11_376 rfl rfl ⟨Nat.le_of_ble_eq_true rfl, Nat.le_of_ble_eq_true rfl⟩ (rc_13 hK hT ha) hK (fun _ => XPh.blind) (fun U hU hW => XPh.at hK hz hS hT hU hW) rfl hl.1 (Nat.le_of_ble_eq_true rfl) dX11_count_66 ⟨Nat.le_of_ble_eq_true rfl, Nat.le_of_ble_eq_true rfl⟩) hS ?_
    rintro _ _ locs ⟨x66, rfl, t66⟩ hS
    have t66 : x66.toInt = (rmT (G.2.1 (F a 1)) 360) ∧ (0 ≤ x66.toInt ∧ x66.toInt ≤ 90) := by rw [(show G2.2.1 (F a 1) = G.2.1 (F a 1) from (ld_c hG2))] at t66; exact t66
    exact x_ri hx hb hr hlk hQ (Nat.le_of_ble_eq_true rfl) (Nat.le_of_ble_eq_true rfl) hS dX11_count_69 G2 ⟨_, rfl, (by rw [hG2]; exact XFr.dput XFr.rf (List.mem_of_getElem? (i := 0) rfl))⟩ hT
  · refine lv_tableIn (off := 64) (tgt := 70) hx hb dX11_count_6 (by rw [c6]; decide) (by rw [c6]; decide) (by rw [c6]; rfl) (by decide) ?_
    refine lv_aload_n hx hb dX11_count_70 rfl (lv_at hl 0 rfl) ?_
    refine x_cl0 (x_runV (b := a) (As := []) (rest := []) S (c_X11_queueMany l E K F G2 a ha (v_X11_count_71_2 (F := F) a G2 G hR (ld_c hG2)) (v_X11_count_71_3 (F := F) a G2 G hM hB (ld_c hG2)) (v_X11_count_71_4 (F := F) a G2 G hM hB (ld_c hG2))) mv_X11_queueMany km_X11_379 rfl rfl ⟨Nat.le_of_ble_eq_true rfl, Nat.le_of_ble_eq_true rfl⟩ (rc_13 hK hT ha) hK (fun _ => XP.blind) (fun U hU hW => XP.at hK hz hS hT hU hW) rfl hl.1 (Nat.le_of_ble_eq_true rfl) dX11_count_71 ⟨Nat.le_of_ble_eq_true rfl, Nat.le_of_ble_eq_true rfl⟩) hS ?_
    rintro _ G71 H locs ⟨x71, rfl, hF71, t71, oq71, oq71a⟩ hT hS
    have t71 : 0 ≤ x71.toInt ∧ x71.toInt ≤ 2388 := t71
    have oq71 : pL G71 F a = if ((G.1 a 6).toInt) = 0 then [] else fuO (G.2.1 (F a 10)) (mw (G.2.1 (F a 1)) 0) (mw (G.2.1 (F a 2)) 0) 1 := by simp only [(show G2.1 a 6 = G.1 a 6 from (ld_j hG2 (by decide))), (show G2.2.1 (F a 10) = G.2.1 (F a 10) from (ld_c hG2)), (show G2.2.1 (F a 1) = G.2.1 (F a 1) from (ld_c hG2)), (show G2.2.1 (F a 2) = G.2.1 (F a 2) from (ld_c hG2))] at oq71; exact oq71
    exact x_ri hx hb hr hlk hQ (Nat.le_of_ble_eq_true rfl) (Nat.le_of_ble_eq_true rfl) hS dX11_count_74 G71 ⟨_, rfl, (XFr.call (by rw [hG2]; exact XFr.dput XFr.rf (List.mem_of_getElem? (i := 0) rfl)) hF71 (xm1 1 rfl (xm1 2 rfl xm0)) (xm1 0 rfl (xm1 1 rfl (xm1 2 rfl (xm1 3 rfl (xm1 4 rfl xm0))))) xm0)⟩ hT
  · refine lv_tableIn (off := 69) (tgt := 75) hx hb dX11_count_6 (by rw [c6]; decide) (by rw [c6]; decide) (by rw [c6]; rfl) (by decide) ?_
    refine lv_aload_n hx hb dX11_count_75 rfl (lv_at hl 0 rfl) ?_
    refine gX11_6 S hK hT ha kf_X11_206 dX11_count_76 (v := (G.1 a 6)) (ld_j hG2 (by decide)) (fun hz76 => ?_)
    refine xi_zeq (tgt := 86) hx hb (rfl : Int32.toInt (G.1 a 6) = ((G.1 a 6).toInt)) dX11_count_79 (by decide) (fun c79 => ?_) (fun c79 => ?_)
    · refine lv_iconst (v := 0) hx hb dX11_count_86 (by decide) ?_
      exact x_ri hx hb hr hlk hQ (Nat.le_of_ble_eq_true rfl) (Nat.le_of_ble_eq_true rfl) hS dX11_count_87 G2 ⟨_, rfl, (by rw [hG2]; exact XFr.dput XFr.rf (List.mem_of_getElem? (i := 0) rfl))⟩ hT
    · refine lv_iconst (v := 1) hx hb dX11_count_82 (by decide) ?_
      refine lv_goto (tgt := 87) hx hb dX11_count_83 (by decide) ?_
      exact x_ri hx hb hr hlk hQ (Nat.le_of_ble_eq_true rfl) (Nat.le_of_ble_eq_true rfl) hS dX11_count_87 G2 ⟨_, rfl, (by rw [hG2]; exact XFr.dput XFr.rf (List.mem_of_getElem? (i := 0) rfl))⟩ hT
  · refine lv_tableIn (off := 92) (tgt := 98) hx hb dX11_count_6 (by rw [c6]; decide) (by rw [c6]; decide) (by rw [c6]; rfl) (by decide) ?_
    refine lv_iload_n hx hb dX11_count_98 rfl (lv_at hl 1 rfl) ?_
    refine lv_i2l (v := p0.toInt64) hx hb dX11_count_99 rfl ?_
    refine lv_ldc2 (v := 4) hx hb S.2.2.2.1 (S.2.2.2.2 _ (List.mem_cons_of_mem _ kc_X11_401)) dX11_count_100 ?_
    refine lv_ldc2 (v := 7) hx hb S.2.2.2.1 (S.2.2.2.2 _ (List.mem_cons_of_mem _ kc_X11_403)) dX11_count_103 ?_
    refine x_clp (x_runS (As := [.long p0.toInt64, .long (4 : Int64), .long (7 : Int64)]) (rest := []) S (c_X11_in l E K F G2 H p0.toInt64 p0.toInt (4 : Int64) (4 : Int) (7 : Int64) (7 : Int) (xl_i2l (rfl : Int32.toInt p0 = p0.toInt)) (by decide) (by decide)) ms_X11_in km_X11_139 rfl rfl ⟨Nat.le_of_ble_eq_true rfl, Nat.le_of_ble_eq_true rfl⟩ hK (fun _ => XPh.blind) (fun U hU hW => XPh.at hK hz hS hT hU hW) rfl hl.1 (Nat.le_of_ble_eq_true rfl) dX11_count_106 ⟨Nat.le_of_ble_eq_true rfl, Nat.le_of_ble_eq_true rfl⟩) hS ?_
    rintro _ _ locs ⟨x106, rfl, b106, t106⟩ hS
    have t106 : (x106.toInt = 1 ∧ (4 : Int) ≤ p0.toInt ∧ p0.toInt ≤ (7 : Int)) ∨ (x106.toInt = 0 ∧ (p0.toInt < (4 : Int) ∨ (7 : Int) < p0.toInt)) := t106
    refine xi_zeq (tgt := 123) hx hb (rfl : Int32.toInt x106 = x106.toInt) dX11_count_109 (by decide) (fun c109 => ?_) (fun c109 => ?_)
    · refine lv_iconst (v := (-1)) hx hb dX11_count_123 (by decide) ?_
      exact x_ri hx hb hr hlk hQ (Nat.le_of_ble_eq_true rfl) (Nat.le_of_ble_eq_true rfl) hS dX11_count_124 G2 ⟨_, rfl, (by rw [hG2]; exact XFr.dput XFr.rf (List.mem_of_getElem? (i := 0) rfl))⟩ hT
    · refine lv_aload_n hx hb dX11_count_112 rfl (lv_at hl 0 rfl) ?_
      obtain ⟨hk113, hj113⟩ := fkX11_9 hT ha
      refine gX11_9 S hK hT ha kf_X11_30 dX11_count_113 (fun _ _ => ?_)
      refine lv_iload_n hx hb dX11_count_116 rfl (lv_at hl 1 rfl) ?_
      refine lv_iconst (v := 4) hx hb dX11_count_117 (by decide) ?_
      refine xi_isub hx hb (rfl : Int32.toInt p0 = p0.toInt) ((by decide) : Int32.toInt 4 = (4 : Int)) dX11_count_118 (fun x118 t118 => ?_)
      refine al_0 S hK hT hk113 ar_36 (by decide) (z_X11_count_3 p0.toInt x118.toInt c6 t118) dX11_count_119 (fun x119 hv119 o119 => ?_)
      have hv119 : x119.toInt = (aI (G.2.1 (F a 9)) (x118.toInt)) := hv119.trans (by rw [(rfl : Int32.toInt x118 = x118.toInt), ((ld_c hG2) : G2.2.1 (F a 9) = G.2.1 (F a 9))])
      refine lv_goto (tgt := 124) hx hb dX11_count_120 (by decide) ?_
      exact x_ri hx hb hr hlk hQ (Nat.le_of_ble_eq_true rfl) (Nat.le_of_ble_eq_true rfl) hS dX11_count_124 G2 ⟨_, rfl, (by rw [hG2]; exact XFr.dput XFr.rf (List.mem_of_getElem? (i := 0) rfl))⟩ hT
  · refine lv_tableIn (off := 92) (tgt := 98) hx hb dX11_count_6 (by rw [c6]; decide) (by rw [c6]; decide) (by rw [c6]; rfl) (by decide) ?_
    refine lv_iload_n hx hb dX11_count_98 rfl (lv_at hl 1 rfl) ?_
    refine lv_i2l (v := p0.toInt64) hx hb dX11_count_99 rfl ?_
    refine lv_ldc2 (v := 4) hx hb S.2.2.2.1 (S.2.2.2.2 _ (List.mem_cons_of_mem _ kc_X11_401)) dX11_count_100 ?_
    refine lv_ldc2 (v := 7) hx hb S.2.2.2.1 (S.2.2.2.2 _ (List.mem_cons_of_mem _ kc_X11_403)) dX11_count_103 ?_
    refine x_clp (x_runS (As := [.long p0.toInt64, .long (4 : Int64), .long (7 : Int64)]) (rest := []) S (c_X11_in l E K F G2 H p0.toInt64 p0.toInt (4 : Int64) (4 : Int) (7 : Int64) (7 : Int) (xl_i2l (rfl : Int32.toInt p0 = p0.toInt)) (by decide) (by decide)) ms_X11_in km_X11_139 rfl rfl ⟨Nat.le_of_ble_eq_true rfl, Nat.le_of_ble_eq_true rfl⟩ hK (fun _ => XPh.blind) (fun U hU hW => XPh.at hK hz hS hT hU hW) rfl hl.1 (Nat.le_of_ble_eq_true rfl) dX11_count_106 ⟨Nat.le_of_ble_eq_true rfl, Nat.le_of_ble_eq_true rfl⟩) hS ?_
    rintro _ _ locs ⟨x106, rfl, b106, t106⟩ hS
    have t106 : (x106.toInt = 1 ∧ (4 : Int) ≤ p0.toInt ∧ p0.toInt ≤ (7 : Int)) ∨ (x106.toInt = 0 ∧ (p0.toInt < (4 : Int) ∨ (7 : Int) < p0.toInt)) := t106
    refine xi_zeq (tgt := 123) hx hb (rfl : Int32.toInt x106 = x106.toInt) dX11_count_109 (by decide) (fun c109 => ?_) (fun c109 => ?_)
    · refine lv_iconst (v := (-1)) hx hb dX11_count_123 (by decide) ?_
      exact x_ri hx hb hr hlk hQ (Nat.le_of_ble_eq_true rfl) (Nat.le_of_ble_eq_true rfl) hS dX11_count_124 G2 ⟨_, rfl, (by rw [hG2]; exact XFr.dput XFr.rf (List.mem_of_getElem? (i := 0) rfl))⟩ hT
    · refine lv_aload_n hx hb dX11_count_112 rfl (lv_at hl 0 rfl) ?_
      obtain ⟨hk113, hj113⟩ := fkX11_9 hT ha
      refine gX11_9 S hK hT ha kf_X11_30 dX11_count_113 (fun _ _ => ?_)
      refine lv_iload_n hx hb dX11_count_116 rfl (lv_at hl 1 rfl) ?_
      refine lv_iconst (v := 4) hx hb dX11_count_117 (by decide) ?_
      refine xi_isub hx hb (rfl : Int32.toInt p0 = p0.toInt) ((by decide) : Int32.toInt 4 = (4 : Int)) dX11_count_118 (fun x118 t118 => ?_)
      refine al_0 S hK hT hk113 ar_36 (by decide) (z_X11_count_4 p0.toInt x118.toInt c6 t118) dX11_count_119 (fun x119 hv119 o119 => ?_)
      have hv119 : x119.toInt = (aI (G.2.1 (F a 9)) (x118.toInt)) := hv119.trans (by rw [(rfl : Int32.toInt x118 = x118.toInt), ((ld_c hG2) : G2.2.1 (F a 9) = G.2.1 (F a 9))])
      refine lv_goto (tgt := 124) hx hb dX11_count_120 (by decide) ?_
      exact x_ri hx hb hr hlk hQ (Nat.le_of_ble_eq_true rfl) (Nat.le_of_ble_eq_true rfl) hS dX11_count_124 G2 ⟨_, rfl, (by rw [hG2]; exact XFr.dput XFr.rf (List.mem_of_getElem? (i := 0) rfl))⟩ hT
  · refine lv_tableIn (off := 92) (tgt := 98) hx hb dX11_count_6 (by rw [c6]; decide) (by rw [c6]; decide) (by rw [c6]; rfl) (by decide) ?_
    refine lv_iload_n hx hb dX11_count_98 rfl (lv_at hl 1 rfl) ?_
    refine lv_i2l (v := p0.toInt64) hx hb dX11_count_99 rfl ?_
    refine lv_ldc2 (v := 4) hx hb S.2.2.2.1 (S.2.2.2.2 _ (List.mem_cons_of_mem _ kc_X11_401)) dX11_count_100 ?_
    refine lv_ldc2 (v := 7) hx hb S.2.2.2.1 (S.2.2.2.2 _ (List.mem_cons_of_mem _ kc_X11_403)) dX11_count_103 ?_
    refine x_clp (x_runS (As := [.long p0.toInt64, .long (4 : Int64), .long (7 : Int64)]) (rest := []) S (c_X11_in l E K F G2 H p0.toInt64 p0.toInt (4 : Int64) (4 : Int) (7 : Int64) (7 : Int) (xl_i2l (rfl : Int32.toInt p0 = p0.toInt)) (by decide) (by decide)) ms_X11_in km_X11_139 rfl rfl ⟨Nat.le_of_ble_eq_true rfl, Nat.le_of_ble_eq_true rfl⟩ hK (fun _ => XPh.blind) (fun U hU hW => XPh.at hK hz hS hT hU hW) rfl hl.1 (Nat.le_of_ble_eq_true rfl) dX11_count_106 ⟨Nat.le_of_ble_eq_true rfl, Nat.le_of_ble_eq_true rfl⟩) hS ?_
    rintro _ _ locs ⟨x106, rfl, b106, t106⟩ hS
    have t106 : (x106.toInt = 1 ∧ (4 : Int) ≤ p0.toInt ∧ p0.toInt ≤ (7 : Int)) ∨ (x106.toInt = 0 ∧ (p0.toInt < (4 : Int) ∨ (7 : Int) < p0.toInt)) := t106
    refine xi_zeq (tgt := 123) hx hb (rfl : Int32.toInt x106 = x106.toInt) dX11_count_109 (by decide) (fun c109 => ?_) (fun c109 => ?_)
    · refine lv_iconst (v := (-1)) hx hb dX11_count_123 (by decide) ?_
      exact x_ri hx hb hr hlk hQ (Nat.le_of_ble_eq_true rfl) (Nat.le_of_ble_eq_true rfl) hS dX11_count_124 G2 ⟨_, rfl, (by rw [hG2]; exact XFr.dput XFr.rf (List.mem_of_getElem? (i := 0) rfl))⟩ hT
    · refine lv_aload_n hx hb dX11_count_112 rfl (lv_at hl 0 rfl) ?_
      obtain ⟨hk113, hj113⟩ := fkX11_9 hT ha
      refine gX11_9 S hK hT ha kf_X11_30 dX11_count_113 (fun _ _ => ?_)
      refine lv_iload_n hx hb dX11_count_116 rfl (lv_at hl 1 rfl) ?_
      refine lv_iconst (v := 4) hx hb dX11_count_117 (by decide) ?_
      refine xi_isub hx hb (rfl : Int32.toInt p0 = p0.toInt) ((by decide) : Int32.toInt 4 = (4 : Int)) dX11_count_118 (fun x118 t118 => ?_)
      refine al_0 S hK hT hk113 ar_36 (by decide) (z_X11_count_5 p0.toInt x118.toInt c6 t118) dX11_count_119 (fun x119 hv119 o119 => ?_)
      have hv119 : x119.toInt = (aI (G.2.1 (F a 9)) (x118.toInt)) := hv119.trans (by rw [(rfl : Int32.toInt x118 = x118.toInt), ((ld_c hG2) : G2.2.1 (F a 9) = G.2.1 (F a 9))])
      refine lv_goto (tgt := 124) hx hb dX11_count_120 (by decide) ?_
      exact x_ri hx hb hr hlk hQ (Nat.le_of_ble_eq_true rfl) (Nat.le_of_ble_eq_true rfl) hS dX11_count_124 G2 ⟨_, rfl, (by rw [hG2]; exact XFr.dput XFr.rf (List.mem_of_getElem? (i := 0) rfl))⟩ hT
  · refine lv_tableIn (off := 92) (tgt := 98) hx hb dX11_count_6 (by rw [c6]; decide) (by rw [c6]; decide) (by rw [c6]; rfl) (by decide) ?_
    refine lv_iload_n hx hb dX11_count_98 rfl (lv_at hl 1 rfl) ?_
    refine lv_i2l (v := p0.toInt64) hx hb dX11_count_99 rfl ?_
    refine lv_ldc2 (v := 4) hx hb S.2.2.2.1 (S.2.2.2.2 _ (List.mem_cons_of_mem _ kc_X11_401)) dX11_count_100 ?_
    refine lv_ldc2 (v := 7) hx hb S.2.2.2.1 (S.2.2.2.2 _ (List.mem_cons_of_mem _ kc_X11_403)) dX11_count_103 ?_
    refine x_clp (x_runS (As := [.long p0.toInt64, .long (4 : Int64), .long (7 : Int64)]) (rest := []) S (c_X11_in l E K F G2 H p0.toInt64 p0.toInt (4 : Int64) (4 : Int) (7 : Int64) (7 : Int) (xl_i2l (rfl : Int32.toInt p0 = p0.toInt)) (by decide) (by decide)) ms_X11_in km_X11_139 rfl rfl ⟨Nat.le_of_ble_eq_true rfl, Nat.le_of_ble_eq_true rfl⟩ hK (fun _ => XPh.blind) (fun U hU hW => XPh.at hK hz hS hT hU hW) rfl hl.1 (Nat.le_of_ble_eq_true rfl) dX11_count_106 ⟨Nat.le_of_ble_eq_true rfl, Nat.le_of_ble_eq_true rfl⟩) hS ?_
    rintro _ _ locs ⟨x106, rfl, b106, t106⟩ hS
    have t106 : (x106.toInt = 1 ∧ (4 : Int) ≤ p0.toInt ∧ p0.toInt ≤ (7 : Int)) ∨ (x106.toInt = 0 ∧ (p0.toInt < (4 : Int) ∨ (7 : Int) < p0.toInt)) := t106
    refine xi_zeq (tgt := 123) hx hb (rfl : Int32.toInt x106 = x106.toInt) dX11_count_109 (by decide) (fun c109 => ?_) (fun c109 => ?_)
    · refine lv_iconst (v := (-1)) hx hb dX11_count_123 (by decide) ?_
      exact x_ri hx hb hr hlk hQ (Nat.le_of_ble_eq_true rfl) (Nat.le_of_ble_eq_true rfl) hS dX11_count_124 G2 ⟨_, rfl, (by rw [hG2]; exact XFr.dput XFr.rf (List.mem_of_getElem? (i := 0) rfl))⟩ hT
    · refine lv_aload_n hx hb dX11_count_112 rfl (lv_at hl 0 rfl) ?_
      obtain ⟨hk113, hj113⟩ := fkX11_9 hT ha
      refine gX11_9 S hK hT ha kf_X11_30 dX11_count_113 (fun _ _ => ?_)
      refine lv_iload_n hx hb dX11_count_116 rfl (lv_at hl 1 rfl) ?_
      refine lv_iconst (v := 4) hx hb dX11_count_117 (by decide) ?_
      refine xi_isub hx hb (rfl : Int32.toInt p0 = p0.toInt) ((by decide) : Int32.toInt 4 = (4 : Int)) dX11_count_118 (fun x118 t118 => ?_)
      refine al_0 S hK hT hk113 ar_36 (by decide) (z_X11_count_6 p0.toInt x118.toInt c6 t118) dX11_count_119 (fun x119 hv119 o119 => ?_)
      have hv119 : x119.toInt = (aI (G.2.1 (F a 9)) (x118.toInt)) := hv119.trans (by rw [(rfl : Int32.toInt x118 = x118.toInt), ((ld_c hG2) : G2.2.1 (F a 9) = G.2.1 (F a 9))])
      refine lv_goto (tgt := 124) hx hb dX11_count_120 (by decide) ?_
      exact x_ri hx hb hr hlk hQ (Nat.le_of_ble_eq_true rfl) (Nat.le_of_ble_eq_true rfl) hS dX11_count_124 G2 ⟨_, rfl, (by rw [hG2]; exact XFr.dput XFr.rf (List.mem_of_getElem? (i := 0) rfl))⟩ hT
  · refine lv_tableIn (off := 82) (tgt := 88) hx hb dX11_count_6 (by rw [c6]; decide) (by rw [c6]; decide) (by rw [c6]; rfl) (by decide) ?_
    refine lv_aload_n hx hb dX11_count_88 rfl (lv_at hl 0 rfl) ?_
    refine gX11_36 S hK hT ha kf_X11_245 dX11_count_89 (v := (G.1 a 36)) (ld_j hG2 (by decide)) (?_)
    exact x_ri hx hb hr hlk hQ (Nat.le_of_ble_eq_true rfl) (Nat.le_of_ble_eq_true rfl) hS dX11_count_92 G2 ⟨_, rfl, (by rw [hG2]; exact XFr.dput XFr.rf (List.mem_of_getElem? (i := 0) rfl))⟩ hT
  · refine lv_tableIn (off := 87) (tgt := 93) hx hb dX11_count_6 (by rw [c6]; decide) (by rw [c6]; decide) (by rw [c6]; rfl) (by decide) ?_
    refine lv_aload_n hx hb dX11_count_93 rfl (lv_at hl 0 rfl) ?_
    refine x_clp (x_runV (b := a) (As := []) (rest := []) S (c_X11_lateMany l E K F G2 H a ha) mv_X11_lateMany km_X11_398 rfl rfl ⟨Nat.le_of_ble_eq_true rfl, Nat.le_of_ble_eq_true rfl⟩ (rc_13 hK hT ha) hK (fun _ => XPh.blind) (fun U hU hW => XPh.at hK hz hS hT hU hW) rfl hl.1 (Nat.le_of_ble_eq_true rfl) dX11_count_94 ⟨Nat.le_of_ble_eq_true rfl, Nat.le_of_ble_eq_true rfl⟩) hS ?_
    rintro _ _ locs ⟨x94, rfl⟩ hS
    exact x_ri hx hb hr hlk hQ (Nat.le_of_ble_eq_true rfl) (Nat.le_of_ble_eq_true rfl) hS dX11_count_97 G2 ⟨_, rfl, (by rw [hG2]; exact XFr.dput XFr.rf (List.mem_of_getElem? (i := 0) rfl))⟩ hT

theorem z_X11_rows_1 (a0 : Int) (h0 : 0 ≤ a0 ∧ a0 ≤ 30) : ¬ (2147483648 - a0 < ((0 : Nat) : Int)) := by omega
theorem z_X11_rows_2 (a0 : Int) (a1 : Int) (h0 : (a1 = 1 ∧ 0 ≤ a0 ∧ a0 ≤ 2) ∨ (a1 = 0 ∧ (a0 < 0 ∨ 2 < a0))) (h1 : ¬ (a1 = 0)) : 0 ≤ a0 ∧ a0 < 3 := by omega
theorem z_X11_rows_3 (a0 : Int) (h0 : 0 ≤ a0 ∧ a0 ≤ 30) (h1 : ¬ ((30 : Int) ≤ a0)) : 0 ≤ a0 ∧ a0 < 30 := by omega
theorem z_X11_rows_4 (a0 : Int) (h0 : 0 ≤ a0 ∧ a0 ≤ 30) : 0 ≤ a0 := by omega
theorem z_X11_rows_5 (a0 : Int) (a1 : Int) (a2 : Int) (a3 : Int) (h0 : (a3 = 1 ∧ 0 ≤ a1 ∧ a1 ≤ 2) ∨ (a3 = 0 ∧ (a1 < 0 ∨ 2 < a1))) (h1 : ¬ (a3 = 0)) (h2 : 0 ≤ a0 ∧ a0 ≤ 30) (h3 : ¬ ((30 : Int) ≤ a0)) (h4 : 0 ≤ a1 ∧ a1 ≤ 2 ∧ 0 ≤ a0 ∧ a0 ≤ 29 → a2 = 4 * (30 * a1 + a0)) : 0 ≤ a2 ∧ a2 < ((360 : Nat) : Int) := by omega
theorem z_X11_rows_6 (a0 : Int) (a1 : Int) (a2 : Int) (a3 : Int) (h0 : (a3 = 1 ∧ 0 ≤ a1 ∧ a1 ≤ 2) ∨ (a3 = 0 ∧ (a1 < 0 ∨ 2 < a1))) (h1 : ¬ (a3 = 0)) (h2 : 0 ≤ a0 ∧ a0 ≤ 30) (h3 : ¬ ((30 : Int) ≤ a0)) (h4 : 0 ≤ a1 ∧ a1 ≤ 2 ∧ 0 ≤ a0 ∧ a0 ≤ 29 → a2 = 4 * (30 * a1 + a0)) : a2 = 4 * (30 * a1 + a0) := by omega
theorem z_X11_rows_7 (a0 : Int) (a1 : Int) (a2 : Int) (a3 : Int) (h0 : (a2 = 1 ∧ 0 ≤ a1 ∧ a1 ≤ 2) ∨ (a2 = 0 ∧ (a1 < 0 ∨ 2 < a1))) (h1 : ¬ (a2 = 0)) (h2 : 0 ≤ a0 ∧ a0 ≤ 30) (h3 : ¬ ((30 : Int) ≤ a0)) (h4 : 0 ≤ a1 ∧ a1 ≤ 2 ∧ 0 ≤ a0 ∧ a0 ≤ 29 → a3 = 4 * (30 * a1 + a0)) : 0 ≤ a3 ∧ a3 < ((360 : Nat) : Int) := by omega
theorem z_X11_rows_8 (a0 : Int) (a1 : Int) (a2 : Int) (a3 : Int) (h0 : (a2 = 1 ∧ 0 ≤ a1 ∧ a1 ≤ 2) ∨ (a2 = 0 ∧ (a1 < 0 ∨ 2 < a1))) (h1 : ¬ (a2 = 0)) (h2 : 0 ≤ a0 ∧ a0 ≤ 30) (h3 : ¬ ((30 : Int) ≤ a0)) (h4 : 0 ≤ a1 ∧ a1 ≤ 2 ∧ 0 ≤ a0 ∧ a0 ≤ 29 → a3 = 4 * (30 * a1 + a0)) : a3 = 4 * (30 * a1 + a0) := by omega
theorem z_X11_rows_9 (a0 : Int) (a1 : Int) (h0 : 0 ≤ a0 ∧ a0 ≤ 30) (h1 : a1 = (a0 + 1) ∨ (a0 + 1) < -2147483648 ∨ 2147483648 ≤ (a0 + 1)) : a1 = (a0 + 1) := by omega
theorem z_X11_rows_10 (a0 : Int) (h0 : 0 ≤ a0 ∧ a0 ≤ 30) (h1 : ¬ ((30 : Int) ≤ a0)) : 0 ≤ (a0 + 1) ∧ (a0 + 1) ≤ 30 := by omega
theorem z_X11_rows_11 (a0 : Int) (a1 : Int) (a2 : Int) (a3 : Int) (a4 : Int) (a5 : Int) (h0 : a0 = a5) (h1 : 0 ≤ a0 ∧ a0 ≤ a1) (h2 : ¬ ((30 : Int) ≤ a1)) (h3 : a3 = 0 ∨ a3 = 1) (h4 : a4 = a5 + a3) (h5 : a2 = a0 + a3 ∨ a0 + a3 < -2147483648 ∨ 2147483648 ≤ a0 + a3) : a2 = a4 := by omega
theorem z_X11_rows_12 (a0 : Int) (a1 : Int) (a2 : Int) (a3 : Int) (h0 : 0 ≤ a0 ∧ a0 ≤ a1) (h1 : ¬ ((30 : Int) ≤ a1)) (h2 : a3 = 0 ∨ a3 = 1) (h3 : a2 = a0 + a3 ∨ a0 + a3 < -2147483648 ∨ 2147483648 ≤ a0 + a3) : 0 ≤ a2 ∧ a2 ≤ (a1 + 1) := by omega
theorem z_X11_rows_13 (a0 : Int) (h0 : 0 ≤ a0 ∧ a0 ≤ 30) : (0 : Int) ≤ (a0 + 1) := by omega
theorem z_X11_rows_15 (a0 : Int) (h0 : a0 = 0) : (0 : Int) = a0 := by omega
abbrev rm_X11_rows : Room := { frames := 2, cells := 0, slots := 0, locals := 45 }
set_option maxHeartbeats 4000000 in
set_option maxRecDepth 100000 in
theorem c_X11_rows (l : Launch) (E : XE) (K : Nat → Nat) (F : Nat → Nat → Nat) (G : XG) (a : Nat) (p0 : Int32) (p1 : Int32) (ha : K a = 13) (hM : RM (G.2.1 (F a 1)) (0)) : Met l yX11_rows (xw yX11_rows cX11_rows 6 (some .int)) rm_X11_rows (va_Pc [.ref a, .int p0, .int p1] (XP E K F G)) (XQ E (fun v (u : XG) => ∃ r : Int32, v = .int r ∧ XFr [(a, 0)] [] [] G u ∧ ((¬ ((0 ≤ p0.toInt ∧ p0.toInt ≤ 2) ∧ (p1.toInt = 0 ∨ p1.toInt = 1)) ∧ r.toInt = -1) ∨ ((0 ≤ p0.toInt ∧ p0.toInt ≤ 2) ∧ p1.toInt = 0 ∧ r.toInt = rmR (G.2.1 (F a 1)) p0.toInt 30) ∨ ((0 ≤ p0.toInt ∧ p0.toInt ≤ 2) ∧ p1.toInt = 1 ∧ ∀ j : Int, 0 ≤ j → j < 32 → bI r.toInt j = if j < 30 then aI (G.2.1 (F a 1)) (4 * (30 * p0.toInt + j)) else 0))) (fun u H => TW E K F u H)) 0 0 (xA E) := by
  refine x_enter (by decide) (Nat.le_of_ble_eq_true rfl) ?_
  intro p e s m args below meth c Q S hr hlk hnm hQ hP ls hl
  obtain ⟨hz, hK, hT⟩ := hP
  obtain ⟨hx, hb, -, -, -⟩ := id S
  obtain ⟨H, hT, hS, hgo⟩ : ∃ H : Heap, TW E K F G H ∧ va_S (xA E) s.heap H [] ∧ H = s.heap := ⟨_, hT, va_S.rf, rfl⟩
  rw [← hgo]
  have hl : lv_has ls 6 [(0, .ref a), (1, .int p0), (2, .int p1)] := hl
  obtain ⟨hk9999, hj9999⟩ := fkX11_1 hT ha
  refine lv_aload_n hx hb dX11_rows_0 rfl (lv_at hl 0 rfl) ?_
  refine lv_iconst (v := 0) hx hb dX11_rows_1 (by decide) ?_
  refine pX11_0 (v := 0) S hK hT hS ha kf_X11_134 dX11_rows_2 (fun H locs hT hS => ?_)
  obtain ⟨G2, hG2⟩ : ∃ GG : XG, GG = dput G a 0 0 := ⟨_, rfl⟩
  rw [← hG2] at hT
  refine lv_iload_n hx hb dX11_rows_5 rfl (lv_at hl 1 rfl) ?_
  refine x_clp (x_runS (As := [.int p0]) (rest := []) S (c_X11_isTable l E K F G2 H p0) ms_X11_isTable km_X11_149 rfl rfl ⟨Nat.le_of_ble_eq_true rfl, Nat.le_of_ble_eq_true rfl⟩ hK (fun _ => XPh.blind) (fun U hU hW => XPh.at hK hz hS hT hU hW) rfl hl.1 (Nat.le_of_ble_eq_true rfl) dX11_rows_6 ⟨Nat.le_of_ble_eq_true rfl, Nat.le_of_ble_eq_true rfl⟩) hS ?_
  rintro _ _ locs ⟨x6, rfl, b6, t6⟩ hS
  have t6 : (x6.toInt = 1 ∧ 0 ≤ p0.toInt ∧ p0.toInt ≤ 2) ∨ (x6.toInt = 0 ∧ (p0.toInt < 0 ∨ 2 < p0.toInt)) := t6
  refine xi_zeq (tgt := 22) hx hb (rfl : Int32.toInt x6 = x6.toInt) dX11_rows_9 (by decide) (fun c9 => ?_) (fun c9 => ?_)
  · refine lv_iconst (v := (-1)) hx hb dX11_rows_22 (by decide) ?_
    exact x_ri hx hb hr hlk hQ (Nat.le_of_ble_eq_true rfl) (Nat.le_of_ble_eq_true rfl) hS dX11_rows_23 G2 ⟨_, rfl, (by rw [hG2]; exact XFr.dput XFr.rf (List.mem_of_getElem? (i := 0) rfl)), (by rw [((by decide) : Int32.toInt (-1) = (-1 : Int))] <;> exact (v_X11_rows_23_1 (K := K) (F := F) a G x6 p0 p1 ha t6 c9))⟩ hT
  · refine lv_iload_n hx hb dX11_rows_12 rfl (lv_at hl 2 rfl) ?_
    refine lv_i2l (v := p1.toInt64) hx hb dX11_rows_13 rfl ?_
    refine lv_lconst (v := (0 : Int64)) hx hb dX11_rows_14 (by decide) ?_
    refine lv_lconst (v := (1 : Int64)) hx hb dX11_rows_15 (by decide) ?_
    refine x_clp (x_runS (As := [.long p1.toInt64, .long (0 : Int64), .long (1 : Int64)]) (rest := []) S (c_X11_in l E K F G2 H p1.toInt64 p1.toInt (0 : Int64) (0 : Int) (1 : Int64) (1 : Int) (xl_i2l (rfl : Int32.toInt p1 = p1.toInt)) (by decide) (by decide)) ms_X11_in km_X11_139 rfl rfl ⟨Nat.le_of_ble_eq_true rfl, Nat.le_of_ble_eq_true rfl⟩ hK (fun _ => XPh.blind) (fun U hU hW => XPh.at hK hz hS hT hU hW) rfl hl.1 (Nat.le_of_ble_eq_true rfl) dX11_rows_16 ⟨Nat.le_of_ble_eq_true rfl, Nat.le_of_ble_eq_true rfl⟩) hS ?_
    rintro _ _ locs ⟨x16, rfl, b16, t16⟩ hS
    have t16 : (x16.toInt = 1 ∧ (0 : Int) ≤ p1.toInt ∧ p1.toInt ≤ (1 : Int)) ∨ (x16.toInt = 0 ∧ (p1.toInt < (0 : Int) ∨ (1 : Int) < p1.toInt)) := t16
    refine xi_zne (tgt := 24) hx hb (rfl : Int32.toInt x16 = x16.toInt) dX11_rows_19 (by decide) (fun c19 => ?_) (fun c19 => ?_)
    · have z24 : (rmR (G.2.1 (F a 1)) (p0.toInt) 0) = 0 := rmR_0 _ _
      refine lv_iconst (v := 0) hx hb dX11_rows_24 (by decide) ?_
      refine lv_istore_n (lv' := [(3, .int 0), (0, .ref a), (1, .int p0), (2, .int p1)]) hx hb dX11_rows_25 rfl hl (by decide) rfl (fun ls hl => ?_)
      refine lv_iconst (v := 0) hx hb dX11_rows_26 (by decide) ?_
      refine lv_istore (lv' := [(4, .int 0), (3, .int 0), (0, .ref a), (1, .int p0), (2, .int p1)]) hx hb dX11_rows_27 hl (by decide) rfl (fun ls hl => ?_)
      refine lv_iconst (v := 0) hx hb dX11_rows_29 (by decide) ?_
      refine lv_istore (lv' := [(5, .int 0), (4, .int 0), (3, .int 0), (0, .ref a), (1, .int p0), (2, .int p1)]) hx hb dX11_rows_30 hl (by decide) rfl (fun ls hl => ?_)
      have L32 : ∀ (N32 : Nat) (l3_32 : Int32) (l4_32 : Int32) (l5_32 : Int32) (H : Heap) (locs : List Loc) (ls : Array Slot), (∀ j : Int, 0 ≤ j → j < 32 → bI l4_32.toInt j = if j < l5_32.toInt then aI (G.2.1 (F a 1)) (4 * (30 * p0.toInt + j)) else 0) → 0 ≤ l5_32.toInt ∧ l5_32.toInt ≤ 30 → l3_32.toInt = (rmR (G.2.1 (F a 1)) (p0.toInt) (l5_32.toInt)) → 0 ≤ l3_32.toInt ∧ l3_32.toInt ≤ l5_32.toInt → (0 : Int) ≤ l5_32.toInt → 2147483648 - l5_32.toInt < ((N32 : Nat) : Int) → TW E K F G2 H → va_S (xA E) s.heap H locs → lv_has ls 6 [(0, .ref a), (1, .int p0), (2, .int p1), (3, .int l3_32), (4, .int l4_32), (5, .int l5_32)] → W p l e rm_X11_rows s m args below meth c H locs 0 0 Q (F0 m 32 ls []) := by
        intro N32
        induction N32 with
        | zero =>
          intro l3_32 l4_32 l5_32 H locs ls pb I32_0 I32_1 I32_2 I32_3 hm32
          exact absurd hm32 (z_X11_rows_1 l5_32.toInt I32_0)
        | succ N32 ih32 =>
          intro l3_32 l4_32 l5_32 H locs ls pb I32_0 I32_1 I32_2 I32_3 hm32 hT hS hl
          refine lv_iload hx hb dX11_rows_32 (lv_at hl 5 rfl) ?_
          refine lv_bipush (v := 30) hx hb dX11_rows_34 (by decide) ?_
          refine xi_cge (tgt := 78) hx hb (rfl : Int32.toInt l5_32 = l5_32.toInt) ((by decide) : Int32.toInt 30 = (30 : Int)) dX11_rows_36 (by decide) (fun c36 => ?_) (fun c36 => ?_)
          · have z78 : l5_32.toInt = 30 → (rmR (G.2.1 (F a 1)) (p0.toInt) (l5_32.toInt)) = (rmR (G.2.1 (F a 1)) (p0.toInt) 30) := fun h9 => by rw [h9]
            refine lv_iload_n hx hb dX11_rows_78 rfl (lv_at hl 2 rfl) ?_
            refine xi_zne (tgt := 86) hx hb (rfl : Int32.toInt p1 = p1.toInt) dX11_rows_79 (by decide) (fun c79 => ?_) (fun c79 => ?_)
            · refine lv_iload hx hb dX11_rows_86 (lv_at hl 4 rfl) ?_
              exact x_ri hx hb hr hlk hQ (Nat.le_of_ble_eq_true rfl) (Nat.le_of_ble_eq_true rfl) hS dX11_rows_88 G2 ⟨_, rfl, (by rw [hG2]; exact XFr.dput XFr.rf (List.mem_of_getElem? (i := 0) rfl)), (v_X11_rows_88_2 (K := K) (F := F) a G l4_32 l5_32 p0 x6 x16 p1 l3_32 N32 ha pb t6 c9 t16 c19 z24 I32_0 I32_1 I32_2 I32_3 hm32 c36 z78 c79)⟩ hT
            · refine lv_iload_n hx hb dX11_rows_82 rfl (lv_at hl 3 rfl) ?_
              refine lv_goto (tgt := 88) hx hb dX11_rows_83 (by decide) ?_
              exact x_ri hx hb hr hlk hQ (Nat.le_of_ble_eq_true rfl) (Nat.le_of_ble_eq_true rfl) hS dX11_rows_88 G2 ⟨_, rfl, (by rw [hG2]; exact XFr.dput XFr.rf (List.mem_of_getElem? (i := 0) rfl)), (v_X11_rows_88_3 (K := K) (F := F) a G l4_32 l5_32 p0 x6 x16 p1 l3_32 N32 ha pb t6 c9 t16 c19 z24 I32_0 I32_1 I32_2 I32_3 hm32 c36 z78 c79)⟩ hT
          · have z39 : (aI (G.2.1 (F a 1)) (4 * (30 * p0.toInt + l5_32.toInt))) = 0 ∨ (aI (G.2.1 (F a 1)) (4 * (30 * p0.toInt + l5_32.toInt))) = 1 := hM.is2 (z_X11_rows_2 p0.toInt x6.toInt t6 c9) (z_X11_rows_3 l5_32.toInt I32_0 c36)
            have z39a : (rmR (G.2.1 (F a 1)) (p0.toInt) (l5_32.toInt + 1)) = (rmR (G.2.1 (F a 1)) (p0.toInt) (l5_32.toInt)) + (aI (G.2.1 (F a 1)) (4 * (30 * p0.toInt + l5_32.toInt))) := rmR_s _ _ (z_X11_rows_4 l5_32.toInt I32_0)
            refine lv_iload_n hx hb dX11_rows_39 rfl (lv_at hl 3 rfl) ?_
            refine lv_aload_n hx hb dX11_rows_40 rfl (lv_at hl 0 rfl) ?_
            refine gX11_1 S hK hT ha kf_X11_9 dX11_rows_41 (fun _ _ => ?_)
            refine lv_iload_n hx hb dX11_rows_44 rfl (lv_at hl 1 rfl) ?_
            refine lv_iload hx hb dX11_rows_45 (lv_at hl 5 rfl) ?_
            refine x_clp (x_runS (As := [.int p0, .int l5_32]) (rest := [.ref (F a 1), .int l3_32]) S (c_X11_at l E K F G2 H p0 l5_32) ms_X11_at km_X11_156 rfl rfl ⟨Nat.le_of_ble_eq_true rfl, Nat.le_of_ble_eq_true rfl⟩ hK (fun _ => XPh.blind) (fun U hU hW => XPh.at hK hz hS hT hU hW) rfl hl.1 (Nat.le_of_ble_eq_true rfl) dX11_rows_47 ⟨Nat.le_of_ble_eq_true rfl, Nat.le_of_ble_eq_true rfl⟩) hS ?_
            rintro _ _ locs ⟨x47, rfl, t47⟩ hS
            have t47 : 0 ≤ p0.toInt ∧ p0.toInt ≤ 2 ∧ 0 ≤ l5_32.toInt ∧ l5_32.toInt ≤ 29 → x47.toInt = 4 * (30 * p0.toInt + l5_32.toInt) := t47
            refine al_0 S hK hT hk9999 ar_30 (by decide) (z_X11_rows_5 l5_32.toInt p0.toInt x47.toInt x6.toInt t6 c9 I32_0 c36 t47) dX11_rows_50 (fun x50 hv50 o50 => ?_)
            have hv50 : x50.toInt = (aI (G.2.1 (F a 1)) (4 * (30 * p0.toInt + l5_32.toInt))) := hv50.trans (by rw [((rfl : Int32.toInt x47 = x47.toInt).trans (z_X11_rows_6 l5_32.toInt p0.toInt x47.toInt x6.toInt t6 c9 I32_0 c36 t47)), ((ld_c hG2) : G2.2.1 (F a 1) = G.2.1 (F a 1))])
            refine xi_iadd hx hb (rfl : Int32.toInt l3_32 = l3_32.toInt) (hv50 : Int32.toInt x50 = (aI (G.2.1 (F a 1)) (4 * (30 * p0.toInt + l5_32.toInt)))) dX11_rows_51 (fun x51 t51 => ?_)
            refine lv_istore_n (lv' := [(3, .int x51), (0, .ref a), (1, .int p0), (2, .int p1), (4, .int l4_32), (5, .int l5_32)]) hx hb dX11_rows_52 rfl hl (by decide) rfl (fun ls hl => ?_)
            refine lv_iload hx hb dX11_rows_53 (lv_at hl 4 rfl) ?_
            refine lv_aload_n hx hb dX11_rows_55 rfl (lv_at hl 1 rfl) ?_
            refine gX11_1 S hK hT ha kf_X11_9 dX11_rows_56 (fun _ _ => ?_)
            refine lv_iload_n hx hb dX11_rows_59 rfl (lv_at hl 2 rfl) ?_
            refine lv_iload hx hb dX11_rows_60 (lv_at hl 5 rfl) ?_
            refine x_clp (x_runS (As := [.int p0, .int l5_32]) (rest := [.ref (F a 1), .int l4_32]) S (c_X11_at l E K F G2 H p0 l5_32) ms_X11_at km_X11_156 rfl rfl ⟨Nat.le_of_ble_eq_true rfl, Nat.le_of_ble_eq_true rfl⟩ hK (fun _ => XPh.blind) (fun U hU hW => XPh.at hK hz hS hT hU hW) rfl hl.1 (Nat.le_of_ble_eq_true rfl) dX11_rows_62 ⟨Nat.le_of_ble_eq_true rfl, Nat.le_of_ble_eq_true rfl⟩) hS ?_
            rintro _ _ locs ⟨x62, rfl, t62⟩ hS
            have t62 : 0 ≤ p0.toInt ∧ p0.toInt ≤ 2 ∧ 0 ≤ l5_32.toInt ∧ l5_32.toInt ≤ 29 → x62.toInt = 4 * (30 * p0.toInt + l5_32.toInt) := t62
            refine al_0 S hK hT hk9999 ar_30 (by decide) (z_X11_rows_7 l5_32.toInt p0.toInt x6.toInt x62.toInt t6 c9 I32_0 c36 t62) dX11_rows_65 (fun x65 hv65 o65 => ?_)
            have hv65 : x65.toInt = (aI (G.2.1 (F a 1)) (4 * (30 * p0.toInt + l5_32.toInt))) := hv65.trans (by rw [((rfl : Int32.toInt x62 = x62.toInt).trans (z_X11_rows_8 l5_32.toInt p0.toInt x6.toInt x62.toInt t6 c9 I32_0 c36 t62)), ((ld_c hG2) : G2.2.1 (F a 1) = G.2.1 (F a 1))])
            refine lv_iload hx hb dX11_rows_66 (lv_at hl 5 rfl) ?_
            refine lv_ishl hx hb dX11_rows_68 (lv_topi (fun x68 he68 => ?_))
            refine lv_ior hx hb dX11_rows_69 (lv_topi (fun x69 he69 => ?_))
            refine lv_istore (lv' := [(4, .int x69), (3, .int x51), (0, .ref a), (1, .int p0), (2, .int p1), (5, .int l5_32)]) hx hb dX11_rows_70 hl (by decide) rfl (fun ls hl => ?_)
            refine xi_iinc (n := 1) (lv' := fun z9 => [(5, .int z9), (4, .int x69), (3, .int x51), (0, .ref a), (1, .int p0), (2, .int p1)]) (k := 5) hx hb (rfl : Int32.toInt l5_32 = l5_32.toInt) (by decide) dX11_rows_72 hl rfl (by decide) (fun _ => rfl) (fun x72 ls t72 hl => ?_)
            have e72 : x72.toInt = (l5_32.toInt + 1) := (z_X11_rows_9 l5_32.toInt x72.toInt I32_0 t72)
            have hl : lv_has ls 6 [(5, .int x72), (4, .int x69), (3, .int x51), (0, .ref a), (1, .int p0), (2, .int p1)] := hl
            refine lv_goto (tgt := 32) hx hb dX11_rows_75 (by decide) ?_
            exact ih32 x51 x69 x72 _ _ _ (by rw [(e72 : Int32.toInt x72 = (l5_32.toInt + 1))] <;> exact (v_X11_rows_75_4 (K := K) (F := F) a G l4_32 l5_32 p0 x65 x68 x69 x6 x16 p1 l3_32 N32 x47 x62 ha hM pb hv65 he68 he69 t6 c9 t16 c19 z24 I32_0 I32_1 I32_2 I32_3 hm32 c36 z39 z39a t47 t62)) (by rw [(e72 : Int32.toInt x72 = (l5_32.toInt + 1))] <;> exact (z_X11_rows_10 l5_32.toInt I32_0 c36)) (by rw [(e72 : Int32.toInt x72 = (l5_32.toInt + 1))] <;> exact (z_X11_rows_11 l3_32.toInt l5_32.toInt x51.toInt (aI (G.2.1 (F a 1)) (4 * (30 * p0.toInt + l5_32.toInt))) (rmR (G.2.1 (F a 1)) (p0.toInt) (l5_32.toInt + 1)) (rmR (G.2.1 (F a 1)) (p0.toInt) (l5_32.toInt)) I32_1 I32_2 c36 z39 z39a t51)) (by rw [(e72 : Int32.toInt x72 = (l5_32.toInt + 1))] <;> exact (z_X11_rows_12 l3_32.toInt l5_32.toInt x51.toInt (aI (G.2.1 (F a 1)) (4 * (30 * p0.toInt + l5_32.toInt))) I32_2 c36 z39 t51)) (by rw [(e72 : Int32.toInt x72 = (l5_32.toInt + 1))] <;> exact (z_X11_rows_13 l5_32.toInt I32_0)) (by rw [(e72 : Int32.toInt x72 = (l5_32.toInt + 1))] <;> exact (z_X11_lateMany_5 l5_32.toInt N32 hm32)) hT hS (lv_sub hl [3, 4, 5, 2, 1, 0] rfl)
      exact L32 4294967297 0 0 0 _ _ _ (v_X11_rows_30_5 (K := K) (F := F) a G x6 p0 x16 p1 ha t6 c9 t16 c19 z24) (by decide) (z_X11_rows_15 (rmR (G.2.1 (F a 1)) (p0.toInt) 0) z24) (by decide) (by decide) (by decide) hT hS (lv_sub hl [3, 4, 5, 2, 1, 0] rfl)
    · refine lv_iconst (v := (-1)) hx hb dX11_rows_22 (by decide) ?_
      exact x_ri hx hb hr hlk hQ (Nat.le_of_ble_eq_true rfl) (Nat.le_of_ble_eq_true rfl) hS dX11_rows_23 G2 ⟨_, rfl, (by rw [hG2]; exact XFr.dput XFr.rf (List.mem_of_getElem? (i := 0) rfl)), (by rw [((by decide) : Int32.toInt (-1) = (-1 : Int))] <;> exact (v_X11_rows_23_6 (K := K) (F := F) a G x6 p0 x16 p1 ha t6 c9 t16 c19))⟩ hT
theorem v_X11_queue_1_1 {F : Nat → Nat → Nat} (a : Nat) (G : XG)
    (hR : RV (G.2.1 (F a 10))) :
    RV (G.2.1 (F a 10)) := by exact hR
theorem v_X11_queue_1_2 {F : Nat → Nat → Nat} (a : Nat) (G : XG)
    (hM : RM (G.2.1 (F a 1)) (0)) :
    RM (G.2.1 (F a 1)) (0) := by exact hM
theorem v_X11_queue_1_3 {F : Nat → Nat → Nat} (a : Nat) (G : XG)
    (hB : RM (G.2.1 (F a 2)) 0) :
    RM (G.2.1 (F a 2)) 0 := by exact hB
theorem v_X11_queue_4_4 {F : Nat → Nat → Nat} (G1 : XG) (a : Nat) (G : XG)
    (oq1 : pL G1 F a = if ((G.1 a 6).toInt) = 0 then [] else fuO (G.2.1 (F a 10)) (mw (G.2.1 (F a 1)) 0) (mw (G.2.1 (F a 2)) 0) 1) :
    PV (G.2.1 (F a 10)) (pL G1 F a) := by
  rw [oq1]
  split
  · intro x hx; cases hx
  · exact fuO_pv _ _ _ _
theorem v_X11_queue_38_5 {K : Nat → Nat} {F : Nat → Nat → Nat} (a : Nat) (G : XG) (G1 : XG) (G26 : XG) (x15 : Int32) (p0 : Int32) (p1 : Int32)
    (ha : K a = 13)
    (oq1 : pL G1 F a = if ((G.1 a 6).toInt) = 0 then [] else fuO (G.2.1 (F a 10)) (mw (G.2.1 (F a 1)) 0) (mw (G.2.1 (F a 2)) 0) 1)
    (oq1a : ((G.1 a 6).toInt) ≠ 0 → LSt (G.2.1 (F a 10)) (G1.2.1 (F a 11)) (mw (G.2.1 (F a 1)) 0) 12 ∧ LSt (G.2.1 (F a 10)) (G1.2.1 (F a 13)) (mw (G.2.1 (F a 2)) 0) 12)
    (oq1b : G1.2.2.2 = G.2.2.2)
    (t1 : 0 ≤ ((G1.1 a 19).toInt) ∧ ((G1.1 a 19).toInt) ≤ 2388)
    (t15 : (x15.toInt = 1 ∧ (0 : Int) ≤ p0.toInt ∧ p0.toInt ≤ (((G1.1 a 19).toInt) - (1 : Int))) ∨ (x15.toInt = 0 ∧ (p0.toInt < (0 : Int) ∨ (((G1.1 a 19).toInt) - (1 : Int)) < p0.toInt)))
    (c18 : x15.toInt = 0)
    (d_G26_a_0 : G26.1 a 0 = 1) :
    (¬ (0 ≤ p0.toInt ∧ p0.toInt < (((if ((G.1 a 6).toInt) = 0 then [] else fuO (G.2.1 (F a 10)) (mw (G.2.1 (F a 1)) 0) (mw (G.2.1 (F a 2)) 0) 1).length : Nat) : Int)) ∧ ((G26.1 a 0).toInt) = 1 ∧ (0 : Int) = 0) ∨ (∃ y : Int × Int, 0 ≤ p0.toInt ∧ (if ((G.1 a 6).toInt) = 0 then [] else fuO (G.2.1 (F a 10)) (mw (G.2.1 (F a 1)) 0) (mw (G.2.1 (F a 2)) 0) 1)[(p0.toInt).toNat]? = some y ∧ ((G26.1 a 0).toInt) = 0 ∧ (0 : Int) = quM (G.2.1 (F a 10)) (mw (G.2.1 (F a 1)) 0) (mw (G.2.1 (F a 2)) 0) y p1.toInt) := by
  rw [← oq1, pL_len]
  exact Or.inl ⟨by omega, (congrArg Int32.toInt d_G26_a_0).trans (by decide), rfl⟩
theorem v_X11_queue_38_6 (a : Nat) (G : XG) (G1 : XG) (G26 : XG)
    (hG26 : G26 = dput G1 a 0 1)
    (oq1b : G1.2.2.2 = G.2.2.2) :
    G26.2.2.2 = G.2.2.2 := by
  rw [hG26]; exact oq1b
theorem v_X11_queue_152_7 {K : Nat → Nat} {F : Nat → Nat → Nat} (a : Nat) (G : XG) (G1 : XG) (G26 : XG) (p0 : Int32) (x15 : Int32) (p1 : Int32)
    (ha : K a = 13)
    (oq1 : pL G1 F a = if ((G.1 a 6).toInt) = 0 then [] else fuO (G.2.1 (F a 10)) (mw (G.2.1 (F a 1)) 0) (mw (G.2.1 (F a 2)) 0) 1)
    (oq1a : ((G.1 a 6).toInt) ≠ 0 → LSt (G.2.1 (F a 10)) (G1.2.1 (F a 11)) (mw (G.2.1 (F a 1)) 0) 12 ∧ LSt (G.2.1 (F a 10)) (G1.2.1 (F a 13)) (mw (G.2.1 (F a 2)) 0) 12)
    (oq1b : G1.2.2.2 = G.2.2.2)
    (t1 : 0 ≤ ((G1.1 a 19).toInt) ∧ ((G1.1 a 19).toInt) ≤ 2388)
    (t15 : (x15.toInt = 1 ∧ (0 : Int) ≤ p0.toInt ∧ p0.toInt ≤ (((G1.1 a 19).toInt) - (1 : Int))) ∨ (x15.toInt = 0 ∧ (p0.toInt < (0 : Int) ∨ (((G1.1 a 19).toInt) - (1 : Int)) < p0.toInt)))
    (c18 : ¬ (x15.toInt = 0))
    (z39 : (0 ≤ (aI (G1.2.1 (F a 17)) (p0.toInt)) ∧ (aI (G1.2.1 (F a 17)) (p0.toInt)) ≤ 11) ∧ (aI (G.2.1 (F a 10)) (10 * (aI (G1.2.1 (F a 17)) (p0.toInt)) + 0)) ≠ -1 ∧ ((sF (aI (G.2.1 (F a 10)) (10 * (aI (G1.2.1 (F a 17)) (p0.toInt)) + 0))) ≤ (aI (G1.2.1 (F a 18)) (p0.toInt)) ∧ (aI (G1.2.1 (F a 18)) (p0.toInt)) ≤ (sL (aI (G.2.1 (F a 10)) (10 * (aI (G1.2.1 (F a 17)) (p0.toInt)) + 0)))))
    (z39a : ((sF (aI (G.2.1 (F a 10)) (10 * (aI (G1.2.1 (F a 17)) (p0.toInt)) + 0))) = 0 ∨ (sF (aI (G.2.1 (F a 10)) (10 * (aI (G1.2.1 (F a 17)) (p0.toInt)) + 0))) = -99) ∧ ((sL (aI (G.2.1 (F a 10)) (10 * (aI (G1.2.1 (F a 17)) (p0.toInt)) + 0))) = 29 ∨ (sL (aI (G.2.1 (F a 10)) (10 * (aI (G1.2.1 (F a 17)) (p0.toInt)) + 0))) = 99))
    (c56 : p1.toInt < 0 ∨ 4 < p1.toInt)
    (d_G26_a_0 : G26.1 a 0 = 0) :
    (¬ (0 ≤ p0.toInt ∧ p0.toInt < (((if ((G.1 a 6).toInt) = 0 then [] else fuO (G.2.1 (F a 10)) (mw (G.2.1 (F a 1)) 0) (mw (G.2.1 (F a 2)) 0) 1).length : Nat) : Int)) ∧ ((G26.1 a 0).toInt) = 1 ∧ (-2147483648 : Int) = 0) ∨ (∃ y : Int × Int, 0 ≤ p0.toInt ∧ (if ((G.1 a 6).toInt) = 0 then [] else fuO (G.2.1 (F a 10)) (mw (G.2.1 (F a 1)) 0) (mw (G.2.1 (F a 2)) 0) 1)[(p0.toInt).toNat]? = some y ∧ ((G26.1 a 0).toInt) = 0 ∧ (-2147483648 : Int) = quM (G.2.1 (F a 10)) (mw (G.2.1 (F a 1)) 0) (mw (G.2.1 (F a 2)) 0) y p1.toInt) := by
  have hy := pL_at (G := G1) (F := F) (a := a) (z := p0.toInt) (by omega)
  rw [oq1] at hy
  have hw : (G.1 a 6).toInt ≠ 0 := fun h => by rw [if_pos h, List.getElem?_nil] at hy; cases hy
  refine Or.inr ⟨_, by omega, hy, (congrArg Int32.toInt d_G26_a_0).trans (by decide), ?_⟩
  exact (quM_o (by omega)).symm
theorem v_X11_queue_152_8 (a : Nat) (G : XG) (G1 : XG) (G26 : XG)
    (hG26 : G26 = dput G1 a 0 0)
    (oq1b : G1.2.2.2 = G.2.2.2) :
    G26.2.2.2 = G.2.2.2 := by
  rw [hG26]; exact oq1b
theorem v_X11_queue_98_9 {K : Nat → Nat} {F : Nat → Nat → Nat} (a : Nat) (G : XG) (G1 : XG) (G26 : XG) (p0 : Int32) (x15 : Int32) (p1 : Int32)
    (ha : K a = 13)
    (oq1 : pL G1 F a = if ((G.1 a 6).toInt) = 0 then [] else fuO (G.2.1 (F a 10)) (mw (G.2.1 (F a 1)) 0) (mw (G.2.1 (F a 2)) 0) 1)
    (oq1a : ((G.1 a 6).toInt) ≠ 0 → LSt (G.2.1 (F a 10)) (G1.2.1 (F a 11)) (mw (G.2.1 (F a 1)) 0) 12 ∧ LSt (G.2.1 (F a 10)) (G1.2.1 (F a 13)) (mw (G.2.1 (F a 2)) 0) 12)
    (oq1b : G1.2.2.2 = G.2.2.2)
    (t1 : 0 ≤ ((G1.1 a 19).toInt) ∧ ((G1.1 a 19).toInt) ≤ 2388)
    (t15 : (x15.toInt = 1 ∧ (0 : Int) ≤ p0.toInt ∧ p0.toInt ≤ (((G1.1 a 19).toInt) - (1 : Int))) ∨ (x15.toInt = 0 ∧ (p0.toInt < (0 : Int) ∨ (((G1.1 a 19).toInt) - (1 : Int)) < p0.toInt)))
    (c18 : ¬ (x15.toInt = 0))
    (z39 : (0 ≤ (aI (G1.2.1 (F a 17)) (p0.toInt)) ∧ (aI (G1.2.1 (F a 17)) (p0.toInt)) ≤ 11) ∧ (aI (G.2.1 (F a 10)) (10 * (aI (G1.2.1 (F a 17)) (p0.toInt)) + 0)) ≠ -1 ∧ ((sF (aI (G.2.1 (F a 10)) (10 * (aI (G1.2.1 (F a 17)) (p0.toInt)) + 0))) ≤ (aI (G1.2.1 (F a 18)) (p0.toInt)) ∧ (aI (G1.2.1 (F a 18)) (p0.toInt)) ≤ (sL (aI (G.2.1 (F a 10)) (10 * (aI (G1.2.1 (F a 17)) (p0.toInt)) + 0)))))
    (z39a : ((sF (aI (G.2.1 (F a 10)) (10 * (aI (G1.2.1 (F a 17)) (p0.toInt)) + 0))) = 0 ∨ (sF (aI (G.2.1 (F a 10)) (10 * (aI (G1.2.1 (F a 17)) (p0.toInt)) + 0))) = -99) ∧ ((sL (aI (G.2.1 (F a 10)) (10 * (aI (G1.2.1 (F a 17)) (p0.toInt)) + 0))) = 29 ∨ (sL (aI (G.2.1 (F a 10)) (10 * (aI (G1.2.1 (F a 17)) (p0.toInt)) + 0))) = 99))
    (c56 : p1.toInt = 0)
    (d_G26_a_0 : G26.1 a 0 = 0) :
    (¬ (0 ≤ p0.toInt ∧ p0.toInt < (((if ((G.1 a 6).toInt) = 0 then [] else fuO (G.2.1 (F a 10)) (mw (G.2.1 (F a 1)) 0) (mw (G.2.1 (F a 2)) 0) 1).length : Nat) : Int)) ∧ ((G26.1 a 0).toInt) = 1 ∧ (aI (G1.2.1 (F a 17)) (p0.toInt)) = 0) ∨ (∃ y : Int × Int, 0 ≤ p0.toInt ∧ (if ((G.1 a 6).toInt) = 0 then [] else fuO (G.2.1 (F a 10)) (mw (G.2.1 (F a 1)) 0) (mw (G.2.1 (F a 2)) 0) 1)[(p0.toInt).toNat]? = some y ∧ ((G26.1 a 0).toInt) = 0 ∧ (aI (G1.2.1 (F a 17)) (p0.toInt)) = quM (G.2.1 (F a 10)) (mw (G.2.1 (F a 1)) 0) (mw (G.2.1 (F a 2)) 0) y p1.toInt) := by
  have hy := pL_at (G := G1) (F := F) (a := a) (z := p0.toInt) (by omega)
  rw [oq1] at hy
  have hw : (G.1 a 6).toInt ≠ 0 := fun h => by rw [if_pos h, List.getElem?_nil] at hy; cases hy
  refine Or.inr ⟨_, by omega, hy, (congrArg Int32.toInt d_G26_a_0).trans (by decide), ?_⟩
  rw [quM_0 (by omega)]
theorem v_X11_queue_98_10 (a : Nat) (G : XG) (G1 : XG) (G26 : XG)
    (hG26 : G26 = dput G1 a 0 0)
    (oq1b : G1.2.2.2 = G.2.2.2) :
    G26.2.2.2 = G.2.2.2 := by
  rw [hG26]; exact oq1b
theorem v_X11_queue_105_11 {K : Nat → Nat} {F : Nat → Nat → Nat} (a : Nat) (G : XG) (G1 : XG) (G26 : XG) (p0 : Int32) (x15 : Int32) (p1 : Int32)
    (ha : K a = 13)
    (oq1 : pL G1 F a = if ((G.1 a 6).toInt) = 0 then [] else fuO (G.2.1 (F a 10)) (mw (G.2.1 (F a 1)) 0) (mw (G.2.1 (F a 2)) 0) 1)
    (oq1a : ((G.1 a 6).toInt) ≠ 0 → LSt (G.2.1 (F a 10)) (G1.2.1 (F a 11)) (mw (G.2.1 (F a 1)) 0) 12 ∧ LSt (G.2.1 (F a 10)) (G1.2.1 (F a 13)) (mw (G.2.1 (F a 2)) 0) 12)
    (oq1b : G1.2.2.2 = G.2.2.2)
    (t1 : 0 ≤ ((G1.1 a 19).toInt) ∧ ((G1.1 a 19).toInt) ≤ 2388)
    (t15 : (x15.toInt = 1 ∧ (0 : Int) ≤ p0.toInt ∧ p0.toInt ≤ (((G1.1 a 19).toInt) - (1 : Int))) ∨ (x15.toInt = 0 ∧ (p0.toInt < (0 : Int) ∨ (((G1.1 a 19).toInt) - (1 : Int)) < p0.toInt)))
    (c18 : ¬ (x15.toInt = 0))
    (z39 : (0 ≤ (aI (G1.2.1 (F a 17)) (p0.toInt)) ∧ (aI (G1.2.1 (F a 17)) (p0.toInt)) ≤ 11) ∧ (aI (G.2.1 (F a 10)) (10 * (aI (G1.2.1 (F a 17)) (p0.toInt)) + 0)) ≠ -1 ∧ ((sF (aI (G.2.1 (F a 10)) (10 * (aI (G1.2.1 (F a 17)) (p0.toInt)) + 0))) ≤ (aI (G1.2.1 (F a 18)) (p0.toInt)) ∧ (aI (G1.2.1 (F a 18)) (p0.toInt)) ≤ (sL (aI (G.2.1 (F a 10)) (10 * (aI (G1.2.1 (F a 17)) (p0.toInt)) + 0)))))
    (z39a : ((sF (aI (G.2.1 (F a 10)) (10 * (aI (G1.2.1 (F a 17)) (p0.toInt)) + 0))) = 0 ∨ (sF (aI (G.2.1 (F a 10)) (10 * (aI (G1.2.1 (F a 17)) (p0.toInt)) + 0))) = -99) ∧ ((sL (aI (G.2.1 (F a 10)) (10 * (aI (G1.2.1 (F a 17)) (p0.toInt)) + 0))) = 29 ∨ (sL (aI (G.2.1 (F a 10)) (10 * (aI (G1.2.1 (F a 17)) (p0.toInt)) + 0))) = 99))
    (c56 : p1.toInt = 1)
    (d_G26_a_0 : G26.1 a 0 = 0) :
    (¬ (0 ≤ p0.toInt ∧ p0.toInt < (((if ((G.1 a 6).toInt) = 0 then [] else fuO (G.2.1 (F a 10)) (mw (G.2.1 (F a 1)) 0) (mw (G.2.1 (F a 2)) 0) 1).length : Nat) : Int)) ∧ ((G26.1 a 0).toInt) = 1 ∧ (aI (G1.2.1 (F a 18)) (p0.toInt)) = 0) ∨ (∃ y : Int × Int, 0 ≤ p0.toInt ∧ (if ((G.1 a 6).toInt) = 0 then [] else fuO (G.2.1 (F a 10)) (mw (G.2.1 (F a 1)) 0) (mw (G.2.1 (F a 2)) 0) 1)[(p0.toInt).toNat]? = some y ∧ ((G26.1 a 0).toInt) = 0 ∧ (aI (G1.2.1 (F a 18)) (p0.toInt)) = quM (G.2.1 (F a 10)) (mw (G.2.1 (F a 1)) 0) (mw (G.2.1 (F a 2)) 0) y p1.toInt) := by
  have hy := pL_at (G := G1) (F := F) (a := a) (z := p0.toInt) (by omega)
  rw [oq1] at hy
  have hw : (G.1 a 6).toInt ≠ 0 := fun h => by rw [if_pos h, List.getElem?_nil] at hy; cases hy
  refine Or.inr ⟨_, by omega, hy, (congrArg Int32.toInt d_G26_a_0).trans (by decide), ?_⟩
  rw [quM_1 (by omega)]
theorem v_X11_queue_105_12 (a : Nat) (G : XG) (G1 : XG) (G26 : XG)
    (hG26 : G26 = dput G1 a 0 0)
    (oq1b : G1.2.2.2 = G.2.2.2) :
    G26.2.2.2 = G.2.2.2 := by
  rw [hG26]; exact oq1b
theorem v_X11_queue_112_13 {K : Nat → Nat} {F : Nat → Nat → Nat} (a : Nat) (G : XG) (G1 : XG) (G26 : XG) (p0 : Int32) (x15 : Int32) (p1 : Int32)
    (ha : K a = 13)
    (hk9999 : K (F a 15) = 42)
    (hj9999 : F (F a 15) 99 = 15)
    (hk9999a : K (F a 17) = 43)
    (hj9999a : F (F a 17) 99 = 17)
    (hk9999b : K (F a 18) = 44)
    (hj9999b : F (F a 18) 99 = 18)
    (hk9999c : K (F a 11) = 38)
    (hj9999c : F (F a 11) 99 = 11)
    (hk9999d : K (F a 13) = 38)
    (hj9999d : F (F a 13) 99 = 13)
    (hk9999e : K (F a 10) = 37)
    (hj9999e : F (F a 10) 99 = 10)
    (hk9999f : K (F a 1) = 30)
    (hj9999f : F (F a 1) 99 = 1)
    (hk9999g : K (F a 2) = 31)
    (hj9999g : F (F a 2) 99 = 2)
    (oq1 : pL G1 F a = if ((G.1 a 6).toInt) = 0 then [] else fuO (G.2.1 (F a 10)) (mw (G.2.1 (F a 1)) 0) (mw (G.2.1 (F a 2)) 0) 1)
    (oq1a : ((G.1 a 6).toInt) ≠ 0 → LSt (G.2.1 (F a 10)) (G1.2.1 (F a 11)) (mw (G.2.1 (F a 1)) 0) 12 ∧ LSt (G.2.1 (F a 10)) (G1.2.1 (F a 13)) (mw (G.2.1 (F a 2)) 0) 12)
    (oq1b : G1.2.2.2 = G.2.2.2)
    (t1 : 0 ≤ ((G1.1 a 19).toInt) ∧ ((G1.1 a 19).toInt) ≤ 2388)
    (t15 : (x15.toInt = 1 ∧ (0 : Int) ≤ p0.toInt ∧ p0.toInt ≤ (((G1.1 a 19).toInt) - (1 : Int))) ∨ (x15.toInt = 0 ∧ (p0.toInt < (0 : Int) ∨ (((G1.1 a 19).toInt) - (1 : Int)) < p0.toInt)))
    (c18 : ¬ (x15.toInt = 0))
    (z39 : (0 ≤ (aI (G1.2.1 (F a 17)) (p0.toInt)) ∧ (aI (G1.2.1 (F a 17)) (p0.toInt)) ≤ 11) ∧ (aI (G.2.1 (F a 10)) (10 * (aI (G1.2.1 (F a 17)) (p0.toInt)) + 0)) ≠ -1 ∧ ((sF (aI (G.2.1 (F a 10)) (10 * (aI (G1.2.1 (F a 17)) (p0.toInt)) + 0))) ≤ (aI (G1.2.1 (F a 18)) (p0.toInt)) ∧ (aI (G1.2.1 (F a 18)) (p0.toInt)) ≤ (sL (aI (G.2.1 (F a 10)) (10 * (aI (G1.2.1 (F a 17)) (p0.toInt)) + 0)))))
    (z39a : ((sF (aI (G.2.1 (F a 10)) (10 * (aI (G1.2.1 (F a 17)) (p0.toInt)) + 0))) = 0 ∨ (sF (aI (G.2.1 (F a 10)) (10 * (aI (G1.2.1 (F a 17)) (p0.toInt)) + 0))) = -99) ∧ ((sL (aI (G.2.1 (F a 10)) (10 * (aI (G1.2.1 (F a 17)) (p0.toInt)) + 0))) = 29 ∨ (sL (aI (G.2.1 (F a 10)) (10 * (aI (G1.2.1 (F a 17)) (p0.toInt)) + 0))) = 99))
    (c56 : p1.toInt = 2)
    (d_G26_a_0 : G26.1 a 0 = 0) :
    (¬ (0 ≤ p0.toInt ∧ p0.toInt < (((if ((G.1 a 6).toInt) = 0 then [] else fuO (G.2.1 (F a 10)) (mw (G.2.1 (F a 1)) 0) (mw (G.2.1 (F a 2)) 0) 1).length : Nat) : Int)) ∧ ((G26.1 a 0).toInt) = 1 ∧ (aI (G1.2.1 (F a 13)) (199 * (aI (G1.2.1 (F a 17)) (p0.toInt)) + (aI (G1.2.1 (F a 18)) (p0.toInt)) + 99)) = 0) ∨ (∃ y : Int × Int, 0 ≤ p0.toInt ∧ (if ((G.1 a 6).toInt) = 0 then [] else fuO (G.2.1 (F a 10)) (mw (G.2.1 (F a 1)) 0) (mw (G.2.1 (F a 2)) 0) 1)[(p0.toInt).toNat]? = some y ∧ ((G26.1 a 0).toInt) = 0 ∧ (aI (G1.2.1 (F a 13)) (199 * (aI (G1.2.1 (F a 17)) (p0.toInt)) + (aI (G1.2.1 (F a 18)) (p0.toInt)) + 99)) = quM (G.2.1 (F a 10)) (mw (G.2.1 (F a 1)) 0) (mw (G.2.1 (F a 2)) 0) y p1.toInt) := by
  have hy := pL_at (G := G1) (F := F) (a := a) (z := p0.toInt) (by omega)
  rw [oq1] at hy
  have hw : (G.1 a 6).toInt ≠ 0 := fun h => by rw [if_pos h, List.getElem?_nil] at hy; cases hy
  refine Or.inr ⟨_, by omega, hy, (congrArg Int32.toInt d_G26_a_0).trans (by decide), ?_⟩
  rw [quM_2 (by omega)]
  exact (oq1a hw).2 _ _ z39.1.1 (by omega) z39.2.1 (sbj_FL.mpr z39.2.2)
theorem v_X11_queue_112_14 (a : Nat) (G : XG) (G1 : XG) (G26 : XG)
    (hG26 : G26 = dput G1 a 0 0)
    (oq1b : G1.2.2.2 = G.2.2.2) :
    G26.2.2.2 = G.2.2.2 := by
  rw [hG26]; exact oq1b
theorem v_X11_queue_119_15 {K : Nat → Nat} {F : Nat → Nat → Nat} (a : Nat) (G : XG) (G1 : XG) (G26 : XG) (p0 : Int32) (x15 : Int32) (p1 : Int32)
    (ha : K a = 13)
    (hk9999 : K (F a 15) = 42)
    (hj9999 : F (F a 15) 99 = 15)
    (hk9999a : K (F a 17) = 43)
    (hj9999a : F (F a 17) 99 = 17)
    (hk9999b : K (F a 18) = 44)
    (hj9999b : F (F a 18) 99 = 18)
    (hk9999c : K (F a 11) = 38)
    (hj9999c : F (F a 11) 99 = 11)
    (hk9999d : K (F a 13) = 38)
    (hj9999d : F (F a 13) 99 = 13)
    (hk9999e : K (F a 10) = 37)
    (hj9999e : F (F a 10) 99 = 10)
    (hk9999f : K (F a 1) = 30)
    (hj9999f : F (F a 1) 99 = 1)
    (hk9999g : K (F a 2) = 31)
    (hj9999g : F (F a 2) 99 = 2)
    (oq1 : pL G1 F a = if ((G.1 a 6).toInt) = 0 then [] else fuO (G.2.1 (F a 10)) (mw (G.2.1 (F a 1)) 0) (mw (G.2.1 (F a 2)) 0) 1)
    (oq1a : ((G.1 a 6).toInt) ≠ 0 → LSt (G.2.1 (F a 10)) (G1.2.1 (F a 11)) (mw (G.2.1 (F a 1)) 0) 12 ∧ LSt (G.2.1 (F a 10)) (G1.2.1 (F a 13)) (mw (G.2.1 (F a 2)) 0) 12)
    (oq1b : G1.2.2.2 = G.2.2.2)
    (t1 : 0 ≤ ((G1.1 a 19).toInt) ∧ ((G1.1 a 19).toInt) ≤ 2388)
    (t15 : (x15.toInt = 1 ∧ (0 : Int) ≤ p0.toInt ∧ p0.toInt ≤ (((G1.1 a 19).toInt) - (1 : Int))) ∨ (x15.toInt = 0 ∧ (p0.toInt < (0 : Int) ∨ (((G1.1 a 19).toInt) - (1 : Int)) < p0.toInt)))
    (c18 : ¬ (x15.toInt = 0))
    (z39 : (0 ≤ (aI (G1.2.1 (F a 17)) (p0.toInt)) ∧ (aI (G1.2.1 (F a 17)) (p0.toInt)) ≤ 11) ∧ (aI (G.2.1 (F a 10)) (10 * (aI (G1.2.1 (F a 17)) (p0.toInt)) + 0)) ≠ -1 ∧ ((sF (aI (G.2.1 (F a 10)) (10 * (aI (G1.2.1 (F a 17)) (p0.toInt)) + 0))) ≤ (aI (G1.2.1 (F a 18)) (p0.toInt)) ∧ (aI (G1.2.1 (F a 18)) (p0.toInt)) ≤ (sL (aI (G.2.1 (F a 10)) (10 * (aI (G1.2.1 (F a 17)) (p0.toInt)) + 0)))))
    (z39a : ((sF (aI (G.2.1 (F a 10)) (10 * (aI (G1.2.1 (F a 17)) (p0.toInt)) + 0))) = 0 ∨ (sF (aI (G.2.1 (F a 10)) (10 * (aI (G1.2.1 (F a 17)) (p0.toInt)) + 0))) = -99) ∧ ((sL (aI (G.2.1 (F a 10)) (10 * (aI (G1.2.1 (F a 17)) (p0.toInt)) + 0))) = 29 ∨ (sL (aI (G.2.1 (F a 10)) (10 * (aI (G1.2.1 (F a 17)) (p0.toInt)) + 0))) = 99))
    (c56 : p1.toInt = 3)
    (d_G26_a_0 : G26.1 a 0 = 0) :
    (¬ (0 ≤ p0.toInt ∧ p0.toInt < (((if ((G.1 a 6).toInt) = 0 then [] else fuO (G.2.1 (F a 10)) (mw (G.2.1 (F a 1)) 0) (mw (G.2.1 (F a 2)) 0) 1).length : Nat) : Int)) ∧ ((G26.1 a 0).toInt) = 1 ∧ (aI (G1.2.1 (F a 11)) (199 * (aI (G1.2.1 (F a 17)) (p0.toInt)) + (aI (G1.2.1 (F a 18)) (p0.toInt)) + 99)) = 0) ∨ (∃ y : Int × Int, 0 ≤ p0.toInt ∧ (if ((G.1 a 6).toInt) = 0 then [] else fuO (G.2.1 (F a 10)) (mw (G.2.1 (F a 1)) 0) (mw (G.2.1 (F a 2)) 0) 1)[(p0.toInt).toNat]? = some y ∧ ((G26.1 a 0).toInt) = 0 ∧ (aI (G1.2.1 (F a 11)) (199 * (aI (G1.2.1 (F a 17)) (p0.toInt)) + (aI (G1.2.1 (F a 18)) (p0.toInt)) + 99)) = quM (G.2.1 (F a 10)) (mw (G.2.1 (F a 1)) 0) (mw (G.2.1 (F a 2)) 0) y p1.toInt) := by
  have hy := pL_at (G := G1) (F := F) (a := a) (z := p0.toInt) (by omega)
  rw [oq1] at hy
  have hw : (G.1 a 6).toInt ≠ 0 := fun h => by rw [if_pos h, List.getElem?_nil] at hy; cases hy
  refine Or.inr ⟨_, by omega, hy, (congrArg Int32.toInt d_G26_a_0).trans (by decide), ?_⟩
  rw [quM_3 (by omega)]
  exact (oq1a hw).1 _ _ z39.1.1 (by omega) z39.2.1 (sbj_FL.mpr z39.2.2)
theorem v_X11_queue_119_16 (a : Nat) (G : XG) (G1 : XG) (G26 : XG)
    (hG26 : G26 = dput G1 a 0 0)
    (oq1b : G1.2.2.2 = G.2.2.2) :
    G26.2.2.2 = G.2.2.2 := by
  rw [hG26]; exact oq1b
theorem v_X11_queue_138_17 {F : Nat → Nat → Nat} (a : Nat) (G : XG) (G26 : XG)
    (hR : RV (G.2.1 (F a 10)))
    (c_G26_F_a_10 : G26.2.1 (F a 10) = G.2.1 (F a 10)) :
    RV (G26.2.1 (F a 10)) := by simp only [c_G26_F_a_10]; assumption
theorem v_X11_queue_138_18 {F : Nat → Nat → Nat} (a : Nat) (G : XG) (G26 : XG)
    (hM : RM (G.2.1 (F a 1)) (0))
    (hB : RM (G.2.1 (F a 2)) 0)
    (c_G26_F_a_1 : G26.2.1 (F a 1) = G.2.1 (F a 1)) :
    RM (G26.2.1 (F a 1)) (0 : Int) := by simp only [c_G26_F_a_1]; assumption
theorem v_X11_queue_149_19 {K : Nat → Nat} {F : Nat → Nat → Nat} (a : Nat) (G : XG) (G1 : XG) (G26 : XG) (p0 : Int32) (x15 : Int32) (p1 : Int32) (x138 : Int32)
    (ha : K a = 13)
    (oq1 : pL G1 F a = if ((G.1 a 6).toInt) = 0 then [] else fuO (G.2.1 (F a 10)) (mw (G.2.1 (F a 1)) 0) (mw (G.2.1 (F a 2)) 0) 1)
    (oq1a : ((G.1 a 6).toInt) ≠ 0 → LSt (G.2.1 (F a 10)) (G1.2.1 (F a 11)) (mw (G.2.1 (F a 1)) 0) 12 ∧ LSt (G.2.1 (F a 10)) (G1.2.1 (F a 13)) (mw (G.2.1 (F a 2)) 0) 12)
    (oq1b : G1.2.2.2 = G.2.2.2)
    (t1 : 0 ≤ ((G1.1 a 19).toInt) ∧ ((G1.1 a 19).toInt) ≤ 2388)
    (t15 : (x15.toInt = 1 ∧ (0 : Int) ≤ p0.toInt ∧ p0.toInt ≤ (((G1.1 a 19).toInt) - (1 : Int))) ∨ (x15.toInt = 0 ∧ (p0.toInt < (0 : Int) ∨ (((G1.1 a 19).toInt) - (1 : Int)) < p0.toInt)))
    (c18 : ¬ (x15.toInt = 0))
    (z39 : (0 ≤ (aI (G1.2.1 (F a 17)) (p0.toInt)) ∧ (aI (G1.2.1 (F a 17)) (p0.toInt)) ≤ 11) ∧ (aI (G.2.1 (F a 10)) (10 * (aI (G1.2.1 (F a 17)) (p0.toInt)) + 0)) ≠ -1 ∧ ((sF (aI (G.2.1 (F a 10)) (10 * (aI (G1.2.1 (F a 17)) (p0.toInt)) + 0))) ≤ (aI (G1.2.1 (F a 18)) (p0.toInt)) ∧ (aI (G1.2.1 (F a 18)) (p0.toInt)) ≤ (sL (aI (G.2.1 (F a 10)) (10 * (aI (G1.2.1 (F a 17)) (p0.toInt)) + 0)))))
    (z39a : ((sF (aI (G.2.1 (F a 10)) (10 * (aI (G1.2.1 (F a 17)) (p0.toInt)) + 0))) = 0 ∨ (sF (aI (G.2.1 (F a 10)) (10 * (aI (G1.2.1 (F a 17)) (p0.toInt)) + 0))) = -99) ∧ ((sL (aI (G.2.1 (F a 10)) (10 * (aI (G1.2.1 (F a 17)) (p0.toInt)) + 0))) = 29 ∨ (sL (aI (G.2.1 (F a 10)) (10 * (aI (G1.2.1 (F a 17)) (p0.toInt)) + 0))) = 99))
    (c56 : p1.toInt = 4)
    (t138 : x138.toInt = (flq (mw (G.2.1 (F a 1)) 0) (aI (G.2.1 (F a 10)) (10 * (aI (G1.2.1 (F a 17)) (p0.toInt)) + 0)) (aI (G.2.1 (F a 10)) (10 * (aI (G1.2.1 (F a 17)) (p0.toInt)) + 1)) (aI (G.2.1 (F a 10)) (10 * (aI (G1.2.1 (F a 17)) (p0.toInt)) + 2)) (aI (G.2.1 (F a 10)) (10 * (aI (G1.2.1 (F a 17)) (p0.toInt)) + 4)) (aI (G.2.1 (F a 10)) (10 * (aI (G1.2.1 (F a 17)) (p0.toInt)) + 5)) (aI (G1.2.1 (F a 18)) (p0.toInt)) (stt (mw (G.2.1 (F a 1)) 0) (aI (G.2.1 (F a 10)) (10 * (aI (G1.2.1 (F a 17)) (p0.toInt)) + 0)) (aI (G.2.1 (F a 10)) (10 * (aI (G1.2.1 (F a 17)) (p0.toInt)) + 1)) (aI (G.2.1 (F a 10)) (10 * (aI (G1.2.1 (F a 17)) (p0.toInt)) + 2)) (aI (G.2.1 (F a 10)) (10 * (aI (G1.2.1 (F a 17)) (p0.toInt)) + 3)) (aI (G1.2.1 (F a 18)) (p0.toInt)))))
    (f38 : x138.toInt = 0 ∨ x138.toInt = 1)
    (c141 : x138.toInt = 0)
    (d_G26_a_0 : G26.1 a 0 = 0) :
    (¬ (0 ≤ p0.toInt ∧ p0.toInt < (((if ((G.1 a 6).toInt) = 0 then [] else fuO (G.2.1 (F a 10)) (mw (G.2.1 (F a 1)) 0) (mw (G.2.1 (F a 2)) 0) 1).length : Nat) : Int)) ∧ ((G26.1 a 0).toInt) = 1 ∧ (0 : Int) = 0) ∨ (∃ y : Int × Int, 0 ≤ p0.toInt ∧ (if ((G.1 a 6).toInt) = 0 then [] else fuO (G.2.1 (F a 10)) (mw (G.2.1 (F a 1)) 0) (mw (G.2.1 (F a 2)) 0) 1)[(p0.toInt).toNat]? = some y ∧ ((G26.1 a 0).toInt) = 0 ∧ (0 : Int) = quM (G.2.1 (F a 10)) (mw (G.2.1 (F a 1)) 0) (mw (G.2.1 (F a 2)) 0) y p1.toInt) := by
  have hy := pL_at (G := G1) (F := F) (a := a) (z := p0.toInt) (by omega)
  rw [oq1] at hy
  have hw : (G.1 a 6).toInt ≠ 0 := fun h => by rw [if_pos h, List.getElem?_nil] at hy; cases hy
  refine Or.inr ⟨_, by omega, hy, (congrArg Int32.toInt d_G26_a_0).trans (by decide), ?_⟩
  rw [quM_4 (by omega)]
  first
    | exact (show (0 : Int) = x138.toInt by omega).trans t138
    | exact (show (1 : Int) = x138.toInt by omega).trans t138
theorem v_X11_queue_149_20 (a : Nat) (G : XG) (G1 : XG) (G26 : XG)
    (hG26 : G26 = dput G1 a 0 0)
    (oq1b : G1.2.2.2 = G.2.2.2) :
    G26.2.2.2 = G.2.2.2 := by
  rw [hG26]; exact oq1b
theorem v_X11_queue_149_21 {K : Nat → Nat} {F : Nat → Nat → Nat} (a : Nat) (G : XG) (G1 : XG) (G26 : XG) (p0 : Int32) (x15 : Int32) (p1 : Int32) (x138 : Int32)
    (ha : K a = 13)
    (oq1 : pL G1 F a = if ((G.1 a 6).toInt) = 0 then [] else fuO (G.2.1 (F a 10)) (mw (G.2.1 (F a 1)) 0) (mw (G.2.1 (F a 2)) 0) 1)
    (oq1a : ((G.1 a 6).toInt) ≠ 0 → LSt (G.2.1 (F a 10)) (G1.2.1 (F a 11)) (mw (G.2.1 (F a 1)) 0) 12 ∧ LSt (G.2.1 (F a 10)) (G1.2.1 (F a 13)) (mw (G.2.1 (F a 2)) 0) 12)
    (oq1b : G1.2.2.2 = G.2.2.2)
    (t1 : 0 ≤ ((G1.1 a 19).toInt) ∧ ((G1.1 a 19).toInt) ≤ 2388)
    (t15 : (x15.toInt = 1 ∧ (0 : Int) ≤ p0.toInt ∧ p0.toInt ≤ (((G1.1 a 19).toInt) - (1 : Int))) ∨ (x15.toInt = 0 ∧ (p0.toInt < (0 : Int) ∨ (((G1.1 a 19).toInt) - (1 : Int)) < p0.toInt)))
    (c18 : ¬ (x15.toInt = 0))
    (z39 : (0 ≤ (aI (G1.2.1 (F a 17)) (p0.toInt)) ∧ (aI (G1.2.1 (F a 17)) (p0.toInt)) ≤ 11) ∧ (aI (G.2.1 (F a 10)) (10 * (aI (G1.2.1 (F a 17)) (p0.toInt)) + 0)) ≠ -1 ∧ ((sF (aI (G.2.1 (F a 10)) (10 * (aI (G1.2.1 (F a 17)) (p0.toInt)) + 0))) ≤ (aI (G1.2.1 (F a 18)) (p0.toInt)) ∧ (aI (G1.2.1 (F a 18)) (p0.toInt)) ≤ (sL (aI (G.2.1 (F a 10)) (10 * (aI (G1.2.1 (F a 17)) (p0.toInt)) + 0)))))
    (z39a : ((sF (aI (G.2.1 (F a 10)) (10 * (aI (G1.2.1 (F a 17)) (p0.toInt)) + 0))) = 0 ∨ (sF (aI (G.2.1 (F a 10)) (10 * (aI (G1.2.1 (F a 17)) (p0.toInt)) + 0))) = -99) ∧ ((sL (aI (G.2.1 (F a 10)) (10 * (aI (G1.2.1 (F a 17)) (p0.toInt)) + 0))) = 29 ∨ (sL (aI (G.2.1 (F a 10)) (10 * (aI (G1.2.1 (F a 17)) (p0.toInt)) + 0))) = 99))
    (c56 : p1.toInt = 4)
    (t138 : x138.toInt = (flq (mw (G.2.1 (F a 1)) 0) (aI (G.2.1 (F a 10)) (10 * (aI (G1.2.1 (F a 17)) (p0.toInt)) + 0)) (aI (G.2.1 (F a 10)) (10 * (aI (G1.2.1 (F a 17)) (p0.toInt)) + 1)) (aI (G.2.1 (F a 10)) (10 * (aI (G1.2.1 (F a 17)) (p0.toInt)) + 2)) (aI (G.2.1 (F a 10)) (10 * (aI (G1.2.1 (F a 17)) (p0.toInt)) + 4)) (aI (G.2.1 (F a 10)) (10 * (aI (G1.2.1 (F a 17)) (p0.toInt)) + 5)) (aI (G1.2.1 (F a 18)) (p0.toInt)) (stt (mw (G.2.1 (F a 1)) 0) (aI (G.2.1 (F a 10)) (10 * (aI (G1.2.1 (F a 17)) (p0.toInt)) + 0)) (aI (G.2.1 (F a 10)) (10 * (aI (G1.2.1 (F a 17)) (p0.toInt)) + 1)) (aI (G.2.1 (F a 10)) (10 * (aI (G1.2.1 (F a 17)) (p0.toInt)) + 2)) (aI (G.2.1 (F a 10)) (10 * (aI (G1.2.1 (F a 17)) (p0.toInt)) + 3)) (aI (G1.2.1 (F a 18)) (p0.toInt)))))
    (f38 : x138.toInt = 0 ∨ x138.toInt = 1)
    (c141 : ¬ (x138.toInt = 0))
    (d_G26_a_0 : G26.1 a 0 = 0) :
    (¬ (0 ≤ p0.toInt ∧ p0.toInt < (((if ((G.1 a 6).toInt) = 0 then [] else fuO (G.2.1 (F a 10)) (mw (G.2.1 (F a 1)) 0) (mw (G.2.1 (F a 2)) 0) 1).length : Nat) : Int)) ∧ ((G26.1 a 0).toInt) = 1 ∧ (1 : Int) = 0) ∨ (∃ y : Int × Int, 0 ≤ p0.toInt ∧ (if ((G.1 a 6).toInt) = 0 then [] else fuO (G.2.1 (F a 10)) (mw (G.2.1 (F a 1)) 0) (mw (G.2.1 (F a 2)) 0) 1)[(p0.toInt).toNat]? = some y ∧ ((G26.1 a 0).toInt) = 0 ∧ (1 : Int) = quM (G.2.1 (F a 10)) (mw (G.2.1 (F a 1)) 0) (mw (G.2.1 (F a 2)) 0) y p1.toInt) := by
  have hy := pL_at (G := G1) (F := F) (a := a) (z := p0.toInt) (by omega)
  rw [oq1] at hy
  have hw : (G.1 a 6).toInt ≠ 0 := fun h => by rw [if_pos h, List.getElem?_nil] at hy; cases hy
  refine Or.inr ⟨_, by omega, hy, (congrArg Int32.toInt d_G26_a_0).trans (by decide), ?_⟩
  rw [quM_4 (by omega)]
  first
    | exact (show (0 : Int) = x138.toInt by omega).trans t138
    | exact (show (1 : Int) = x138.toInt by omega).trans t138
theorem v_X11_queue_149_22 (a : Nat) (G : XG) (G1 : XG) (G26 : XG)
    (hG26 : G26 = dput G1 a 0 0)
    (oq1b : G1.2.2.2 = G.2.2.2) :
    G26.2.2.2 = G.2.2.2 := by
  rw [hG26]; exact oq1b
theorem v_X11_first_30_1 {F : Nat → Nat → Nat} (a : Nat) (G2 : XG) (G : XG)
    (hR : RV (G.2.1 (F a 10)))
    (c_G2_F_a_10 : G2.2.1 (F a 10) = G.2.1 (F a 10)) :
    RV (G2.2.1 (F a 10)) := by simp only [c_G2_F_a_10]; assumption
theorem v_X11_first_30_2 {F : Nat → Nat → Nat} (a : Nat) (G2 : XG) (G : XG)
    (hM : RM (G.2.1 (F a 1)) (0))
    (hB : RM (G.2.1 (F a 2)) 0)
    (c_G2_F_a_1 : G2.2.1 (F a 1) = G.2.1 (F a 1)) :
    RM (G2.2.1 (F a 1)) (0) := by simp only [c_G2_F_a_1]; assumption
theorem v_X11_first_30_3 {F : Nat → Nat → Nat} (a : Nat) (G2 : XG) (G : XG)
    (hM : RM (G.2.1 (F a 1)) (0))
    (hB : RM (G.2.1 (F a 2)) 0)
    (c_G2_F_a_2 : G2.2.1 (F a 2) = G.2.1 (F a 2)) :
    RM (G2.2.1 (F a 2)) 0 := by simp only [c_G2_F_a_2]; assumption
theorem v_X11_first_33_4 {F : Nat → Nat → Nat} (G30 : XG) (a : Nat) (G : XG)
    (oq30 : pL G30 F a = if ((G.1 a 6).toInt) = 0 then [] else fuO (G.2.1 (F a 10)) (mw (G.2.1 (F a 1)) 0) (mw (G.2.1 (F a 2)) 0) 1) :
    PV (G.2.1 (F a 10)) (pL G30 F a) := by
  rw [oq30]
  split
  · intro x hx; cases hx
  · exact fuO_pv _ _ _ _
theorem v_X11_first_84_5 {F : Nat → Nat → Nat} (a : Nat) (G : XG) (G30 : XG)
    (hR : RV (G.2.1 (F a 10)))
    (c_G30_F_a_10 : G30.2.1 (F a 10) = G.2.1 (F a 10)) :
    RV (G30.2.1 (F a 10)) := by simp only [c_G30_F_a_10]; assumption
theorem v_X11_first_84_6 {F : Nat → Nat → Nat} (a : Nat) (G : XG) (G30 : XG)
    (hM : RM (G.2.1 (F a 1)) (0))
    (hB : RM (G.2.1 (F a 2)) 0)
    (c_G30_F_a_1 : G30.2.1 (F a 1) = G.2.1 (F a 1)) :
    RM (G30.2.1 (F a 1)) (0) := by simp only [c_G30_F_a_1]; assumption
theorem v_X11_first_84_7 {F : Nat → Nat → Nat} (G : XG) (a : Nat) (G30 : XG)
    (hvq : PV (G.2.1 (F a 10)) (pL G30 F a))
    (c_G30_F_a_10 : G30.2.1 (F a 10) = G.2.1 (F a 10)) :
    PV (G30.2.1 (F a 10)) (pL G30 F a) := by
  first | exact hvq | (simp only [c_G30_F_a_10]; exact hvq)
theorem v_X11_first_64_8 {F : Nat → Nat → Nat} (a : Nat) (G : XG) (G30 : XG)
    (hR : RV (G.2.1 (F a 10)))
    (c_G30_F_a_10 : G30.2.1 (F a 10) = G.2.1 (F a 10)) :
    RV (G30.2.1 (F a 10)) := by simp only [c_G30_F_a_10]; assumption
theorem v_X11_first_64_9 {F : Nat → Nat → Nat} (a : Nat) (G : XG) (G30 : XG)
    (hM : RM (G.2.1 (F a 1)) (0))
    (hB : RM (G.2.1 (F a 2)) 0)
    (c_G30_F_a_1 : G30.2.1 (F a 1) = G.2.1 (F a 1)) :
    RM (G30.2.1 (F a 1)) (0 : Int) := by simp only [c_G30_F_a_1]; assumption
theorem v_X11_group_21_1 {K : Nat → Nat} {F : Nat → Nat → Nat} (a : Nat) (G : XG) (p0 : Int32) (p1 : Int32)
    (ha : K a = 13)
    (c7 : p0.toInt < (-1 : Int)) :
    ((p1.toInt < 0 ∨ 1 < p1.toInt) ∧ (-1 : Int) = -1) ∨ ((0 ≤ p1.toInt ∧ p1.toInt ≤ 1) ∧ GrM (nth1 (if ((G.1 a 6).toInt) = 0 then [] else fuO (G.2.1 (F a 10)) (mw (G.2.1 (F a 1)) 0) (mw (G.2.1 (F a 2)) 0) 1)) (((if ((G.1 a 6).toInt) = 0 then [] else fuO (G.2.1 (F a 10)) (mw (G.2.1 (F a 1)) 0) (mw (G.2.1 (F a 2)) 0) 1).length : Nat) : Int) p0.toInt p1.toInt (-1 : Int)) := by
  first
    | exact Or.inl ⟨by omega, rfl⟩
    | (by_cases h9 : 0 ≤ p1.toInt ∧ p1.toInt ≤ 1
       · exact Or.inr ⟨h9, Or.inr (Or.inl ⟨by omega, Or.inl (by omega), rfl⟩)⟩
       · exact Or.inl ⟨by omega, rfl⟩)
theorem v_X11_group_23_2 {F : Nat → Nat → Nat} (a : Nat) (G2 : XG) (G : XG)
    (hR : RV (G.2.1 (F a 10)))
    (c_G2_F_a_10 : G2.2.1 (F a 10) = G.2.1 (F a 10)) :
    RV (G2.2.1 (F a 10)) := by simp only [c_G2_F_a_10]; assumption
theorem v_X11_group_23_3 {F : Nat → Nat → Nat} (a : Nat) (G2 : XG) (G : XG)
    (hM : RM (G.2.1 (F a 1)) (0))
    (hB : RM (G.2.1 (F a 2)) 0)
    (c_G2_F_a_1 : G2.2.1 (F a 1) = G.2.1 (F a 1)) :
    RM (G2.2.1 (F a 1)) (0) := by simp only [c_G2_F_a_1]; assumption
theorem v_X11_group_23_4 {F : Nat → Nat → Nat} (a : Nat) (G2 : XG) (G : XG)
    (hM : RM (G.2.1 (F a 1)) (0))
    (hB : RM (G.2.1 (F a 2)) 0)
    (c_G2_F_a_2 : G2.2.1 (F a 2) = G.2.1 (F a 2)) :
    RM (G2.2.1 (F a 2)) 0 := by simp only [c_G2_F_a_2]; assumption
theorem v_X11_group_117_5 {K : Nat → Nat} {F : Nat → Nat → Nat} (a : Nat) (G2 : XG) (G : XG) (G23 : XG) (l4_34 : Int32) (l5_34 : Int32) (p0 : Int32) (x14 : Int32) (p1 : Int32) (l3_34 : Int32) (N34 : Nat)
    (ha : K a = 13)
    (oq23 : pL G23 F a = if ((G.1 a 6).toInt) = 0 then [] else fuO (G.2.1 (F a 10)) (mw (G.2.1 (F a 1)) 0) (mw (G.2.1 (F a 2)) 0) 1)
    (oq23a : ((G.1 a 6).toInt) ≠ 0 → LSt (G.2.1 (F a 10)) (G23.2.1 (F a 11)) (mw (G.2.1 (F a 1)) 0) 12 ∧ LSt (G.2.1 (F a 10)) (G23.2.1 (F a 13)) (mw (G.2.1 (F a 2)) 0) 12)
    (oq23b : G23.2.2.2 = G2.2.2.2)
    (c7 : ¬ (p0.toInt < (-1 : Int)))
    (t14 : (x14.toInt = 1 ∧ (0 : Int) ≤ p1.toInt ∧ p1.toInt ≤ (1 : Int)) ∨ (x14.toInt = 0 ∧ (p1.toInt < (0 : Int) ∨ (1 : Int) < p1.toInt)))
    (c17 : x14.toInt ≠ 0)
    (t23 : 0 ≤ ((G23.1 a 19).toInt) ∧ ((G23.1 a 19).toInt) ≤ 2388)
    (z26 : (stF (aI (G23.2.1 (F a 17))) 0) = 0)
    (I34_0 : 1 ≤ l5_34.toInt ∧ l5_34.toInt ≤ ((G23.1 a 19).toInt) + 1)
    (I34_1 : 0 ≤ l4_34.toInt ∧ l4_34.toInt < l5_34.toInt)
    (I34_2 : 0 ≤ l3_34.toInt ∧ l3_34.toInt ≤ l5_34.toInt)
    (I34_3 : ((G23.1 a 19).toInt) ≤ 2388)
    (I34_4 : l3_34.toInt = (stF (aI (G23.2.1 (F a 17))) (l4_34.toInt)))
    (I34_5 : l4_34.toInt = ((G23.1 a 19).toInt) ∨ l4_34.toInt = 0 ∨ (aI (G23.2.1 (F a 17)) (l4_34.toInt)) ≠ (aI (G23.2.1 (F a 17)) (l4_34.toInt - 1)))
    (I34_6 : p0.toInt < 0 ∨ l3_34.toInt ≤ p0.toInt)
    (I34_7 : l5_34.toInt ≤ ((G23.1 a 19).toInt) ∨ l4_34.toInt = ((G23.1 a 19).toInt))
    (I34_8 : l4_34.toInt ≤ ((G23.1 a 19).toInt))
    (hm34 : 5000 - l5_34.toInt < (((N34) + 1 : Nat) : Int))
    (c40 : ((G23.1 a 19).toInt) < l5_34.toInt)
    (z107 : l4_34.toInt = ((G23.1 a 19).toInt) → (stF (aI (G23.2.1 (F a 17))) (l4_34.toInt)) = (stF (aI (G23.2.1 (F a 17))) ((G23.1 a 19).toInt)))
    (c109 : p0.toInt ≠ (-1 : Int)) :
    ((p1.toInt < 0 ∨ 1 < p1.toInt) ∧ (-1 : Int) = -1) ∨ ((0 ≤ p1.toInt ∧ p1.toInt ≤ 1) ∧ GrM (nth1 (if ((G.1 a 6).toInt) = 0 then [] else fuO (G.2.1 (F a 10)) (mw (G.2.1 (F a 1)) 0) (mw (G.2.1 (F a 2)) 0) 1)) (((if ((G.1 a 6).toInt) = 0 then [] else fuO (G.2.1 (F a 10)) (mw (G.2.1 (F a 1)) 0) (mw (G.2.1 (F a 2)) 0) 1).length : Nat) : Int) p0.toInt p1.toInt (-1 : Int)) := by
  rw [← oq23, pL_len]
  refine Or.inr ⟨by omega, GrM_congr (g := aI (G23.2.1 (F a 17))) (fun j a1 a2 => (nth1_pL ⟨a1, by omega⟩).symm) ?_⟩
  rw [show (((G23.1 a 19).toInt.toNat : Nat) : Int) = (G23.1 a 19).toInt from by omega]
  first
    | exact Or.inl ⟨by omega, by omega⟩
    | exact Or.inr (Or.inl ⟨by omega, by omega, rfl⟩)
theorem v_X11_group_117_6 {K : Nat → Nat} {F : Nat → Nat → Nat} (a : Nat) (G2 : XG) (G : XG) (G23 : XG) (l4_34 : Int32) (l5_34 : Int32) (p0 : Int32) (x14 : Int32) (p1 : Int32) (l3_34 : Int32) (N34 : Nat)
    (ha : K a = 13)
    (oq23 : pL G23 F a = if ((G.1 a 6).toInt) = 0 then [] else fuO (G.2.1 (F a 10)) (mw (G.2.1 (F a 1)) 0) (mw (G.2.1 (F a 2)) 0) 1)
    (oq23a : ((G.1 a 6).toInt) ≠ 0 → LSt (G.2.1 (F a 10)) (G23.2.1 (F a 11)) (mw (G.2.1 (F a 1)) 0) 12 ∧ LSt (G.2.1 (F a 10)) (G23.2.1 (F a 13)) (mw (G.2.1 (F a 2)) 0) 12)
    (oq23b : G23.2.2.2 = G2.2.2.2)
    (c7 : ¬ (p0.toInt < (-1 : Int)))
    (t14 : (x14.toInt = 1 ∧ (0 : Int) ≤ p1.toInt ∧ p1.toInt ≤ (1 : Int)) ∨ (x14.toInt = 0 ∧ (p1.toInt < (0 : Int) ∨ (1 : Int) < p1.toInt)))
    (c17 : x14.toInt ≠ 0)
    (t23 : 0 ≤ ((G23.1 a 19).toInt) ∧ ((G23.1 a 19).toInt) ≤ 2388)
    (z26 : (stF (aI (G23.2.1 (F a 17))) 0) = 0)
    (I34_0 : 1 ≤ l5_34.toInt ∧ l5_34.toInt ≤ ((G23.1 a 19).toInt) + 1)
    (I34_1 : 0 ≤ l4_34.toInt ∧ l4_34.toInt < l5_34.toInt)
    (I34_2 : 0 ≤ l3_34.toInt ∧ l3_34.toInt ≤ l5_34.toInt)
    (I34_3 : ((G23.1 a 19).toInt) ≤ 2388)
    (I34_4 : l3_34.toInt = (stF (aI (G23.2.1 (F a 17))) (l4_34.toInt)))
    (I34_5 : l4_34.toInt = ((G23.1 a 19).toInt) ∨ l4_34.toInt = 0 ∨ (aI (G23.2.1 (F a 17)) (l4_34.toInt)) ≠ (aI (G23.2.1 (F a 17)) (l4_34.toInt - 1)))
    (I34_6 : p0.toInt < 0 ∨ l3_34.toInt ≤ p0.toInt)
    (I34_7 : l5_34.toInt ≤ ((G23.1 a 19).toInt) ∨ l4_34.toInt = ((G23.1 a 19).toInt))
    (I34_8 : l4_34.toInt ≤ ((G23.1 a 19).toInt))
    (hm34 : 5000 - l5_34.toInt < (((N34) + 1 : Nat) : Int))
    (c40 : ((G23.1 a 19).toInt) < l5_34.toInt)
    (z107 : l4_34.toInt = ((G23.1 a 19).toInt) → (stF (aI (G23.2.1 (F a 17))) (l4_34.toInt)) = (stF (aI (G23.2.1 (F a 17))) ((G23.1 a 19).toInt)))
    (c109 : ¬ (p0.toInt ≠ (-1 : Int))) :
    ((p1.toInt < 0 ∨ 1 < p1.toInt) ∧ l3_34.toInt = -1) ∨ ((0 ≤ p1.toInt ∧ p1.toInt ≤ 1) ∧ GrM (nth1 (if ((G.1 a 6).toInt) = 0 then [] else fuO (G.2.1 (F a 10)) (mw (G.2.1 (F a 1)) 0) (mw (G.2.1 (F a 2)) 0) 1)) (((if ((G.1 a 6).toInt) = 0 then [] else fuO (G.2.1 (F a 10)) (mw (G.2.1 (F a 1)) 0) (mw (G.2.1 (F a 2)) 0) 1).length : Nat) : Int) p0.toInt p1.toInt l3_34.toInt) := by
  rw [← oq23, pL_len]
  refine Or.inr ⟨by omega, GrM_congr (g := aI (G23.2.1 (F a 17))) (fun j a1 a2 => (nth1_pL ⟨a1, by omega⟩).symm) ?_⟩
  rw [show (((G23.1 a 19).toInt.toNat : Nat) : Int) = (G23.1 a 19).toInt from by omega]
  first
    | exact Or.inl ⟨by omega, by omega⟩
    | exact Or.inr (Or.inl ⟨by omega, by omega, rfl⟩)
theorem v_X11_group_104_7 {K : Nat → Nat} {F : Nat → Nat → Nat} (a : Nat) (G2 : XG) (G : XG) (G23 : XG) (l4_34 : Int32) (l5_34 : Int32) (l3_34 : Int32) (p0 : Int32) (x14 : Int32) (p1 : Int32) (N34 : Nat)
    (ha : K a = 13)
    (oq23a : ((G.1 a 6).toInt) ≠ 0 → LSt (G.2.1 (F a 10)) (G23.2.1 (F a 11)) (mw (G.2.1 (F a 1)) 0) 12 ∧ LSt (G.2.1 (F a 10)) (G23.2.1 (F a 13)) (mw (G.2.1 (F a 2)) 0) 12)
    (oq23b : G23.2.2.2 = G2.2.2.2)
    (rn : ∀ j : Int, l4_34.toInt ≤ j → j < l5_34.toInt → j < (G23.1 a 19).toInt → aI (G23.2.1 (F a 17)) j = aI (G23.2.1 (F a 17)) l4_34.toInt)
    (c7 : ¬ (p0.toInt < (-1 : Int)))
    (t14 : (x14.toInt = 1 ∧ (0 : Int) ≤ p1.toInt ∧ p1.toInt ≤ (1 : Int)) ∨ (x14.toInt = 0 ∧ (p1.toInt < (0 : Int) ∨ (1 : Int) < p1.toInt)))
    (c17 : x14.toInt ≠ 0)
    (t23 : 0 ≤ ((G23.1 a 19).toInt) ∧ ((G23.1 a 19).toInt) ≤ 2388)
    (z26 : (stF (aI (G23.2.1 (F a 17))) 0) = 0)
    (I34_0 : 1 ≤ l5_34.toInt ∧ l5_34.toInt ≤ ((G23.1 a 19).toInt) + 1)
    (I34_1 : 0 ≤ l4_34.toInt ∧ l4_34.toInt < l5_34.toInt)
    (I34_2 : 0 ≤ l3_34.toInt ∧ l3_34.toInt ≤ l5_34.toInt)
    (I34_3 : ((G23.1 a 19).toInt) ≤ 2388)
    (I34_4 : l3_34.toInt = (stF (aI (G23.2.1 (F a 17))) (l4_34.toInt)))
    (I34_5 : l4_34.toInt = ((G23.1 a 19).toInt) ∨ l4_34.toInt = 0 ∨ (aI (G23.2.1 (F a 17)) (l4_34.toInt)) ≠ (aI (G23.2.1 (F a 17)) (l4_34.toInt - 1)))
    (I34_6 : p0.toInt < 0 ∨ l3_34.toInt ≤ p0.toInt)
    (I34_7 : l5_34.toInt ≤ ((G23.1 a 19).toInt) ∨ l4_34.toInt = ((G23.1 a 19).toInt))
    (I34_8 : l4_34.toInt ≤ ((G23.1 a 19).toInt))
    (hm34 : 5000 - l5_34.toInt < (((N34) + 1 : Nat) : Int))
    (c40 : ¬ (((G23.1 a 19).toInt) < l5_34.toInt))
    (c49 : l5_34.toInt = ((G23.1 a 19).toInt))
    (z69 : (stF (aI (G23.2.1 (F a 17))) (l5_34.toInt)) = (stF (aI (G23.2.1 (F a 17))) (l4_34.toInt)) + 1)
    (z69a : (aI (G23.2.1 (F a 17)) (l5_34.toInt - 1)) = (aI (G23.2.1 (F a 17)) (l4_34.toInt)))
    (c71 : l3_34.toInt ≠ p0.toInt) :
    ∀ j : Int, l5_34.toInt ≤ j → j < (l5_34.toInt + 1) → j < (G23.1 a 19).toInt → aI (G23.2.1 (F a 17)) j = aI (G23.2.1 (F a 17)) l5_34.toInt := by
  first
    | (intro j a1 a2 a3
       rw [show j = l5_34.toInt from by omega])
    | (intro j a1 a2 a3
       by_cases e : j = l5_34.toInt
       · rw [e]; omega
       · exact rn j a1 (by omega) a3)
theorem v_X11_group_93_8 {K : Nat → Nat} {F : Nat → Nat → Nat} (a : Nat) (G2 : XG) (G : XG) (G23 : XG) (l4_34 : Int32) (l5_34 : Int32) (p0 : Int32) (x14 : Int32) (p1 : Int32) (l3_34 : Int32) (N34 : Nat) (x92 : Int32)
    (ha : K a = 13)
    (oq23 : pL G23 F a = if ((G.1 a 6).toInt) = 0 then [] else fuO (G.2.1 (F a 10)) (mw (G.2.1 (F a 1)) 0) (mw (G.2.1 (F a 2)) 0) 1)
    (oq23a : ((G.1 a 6).toInt) ≠ 0 → LSt (G.2.1 (F a 10)) (G23.2.1 (F a 11)) (mw (G.2.1 (F a 1)) 0) 12 ∧ LSt (G.2.1 (F a 10)) (G23.2.1 (F a 13)) (mw (G.2.1 (F a 2)) 0) 12)
    (oq23b : G23.2.2.2 = G2.2.2.2)
    (rn : ∀ j : Int, l4_34.toInt ≤ j → j < l5_34.toInt → j < (G23.1 a 19).toInt → aI (G23.2.1 (F a 17)) j = aI (G23.2.1 (F a 17)) l4_34.toInt)
    (c7 : ¬ (p0.toInt < (-1 : Int)))
    (t14 : (x14.toInt = 1 ∧ (0 : Int) ≤ p1.toInt ∧ p1.toInt ≤ (1 : Int)) ∨ (x14.toInt = 0 ∧ (p1.toInt < (0 : Int) ∨ (1 : Int) < p1.toInt)))
    (c17 : x14.toInt ≠ 0)
    (t23 : 0 ≤ ((G23.1 a 19).toInt) ∧ ((G23.1 a 19).toInt) ≤ 2388)
    (z26 : (stF (aI (G23.2.1 (F a 17))) 0) = 0)
    (I34_0 : 1 ≤ l5_34.toInt ∧ l5_34.toInt ≤ ((G23.1 a 19).toInt) + 1)
    (I34_1 : 0 ≤ l4_34.toInt ∧ l4_34.toInt < l5_34.toInt)
    (I34_2 : 0 ≤ l3_34.toInt ∧ l3_34.toInt ≤ l5_34.toInt)
    (I34_3 : ((G23.1 a 19).toInt) ≤ 2388)
    (I34_4 : l3_34.toInt = (stF (aI (G23.2.1 (F a 17))) (l4_34.toInt)))
    (I34_5 : l4_34.toInt = ((G23.1 a 19).toInt) ∨ l4_34.toInt = 0 ∨ (aI (G23.2.1 (F a 17)) (l4_34.toInt)) ≠ (aI (G23.2.1 (F a 17)) (l4_34.toInt - 1)))
    (I34_6 : p0.toInt < 0 ∨ l3_34.toInt ≤ p0.toInt)
    (I34_7 : l5_34.toInt ≤ ((G23.1 a 19).toInt) ∨ l4_34.toInt = ((G23.1 a 19).toInt))
    (I34_8 : l4_34.toInt ≤ ((G23.1 a 19).toInt))
    (hm34 : 5000 - l5_34.toInt < (((N34) + 1 : Nat) : Int))
    (c40 : ¬ (((G23.1 a 19).toInt) < l5_34.toInt))
    (c49 : l5_34.toInt = ((G23.1 a 19).toInt))
    (z69 : (stF (aI (G23.2.1 (F a 17))) (l5_34.toInt)) = (stF (aI (G23.2.1 (F a 17))) (l4_34.toInt)) + 1)
    (z69a : (aI (G23.2.1 (F a 17)) (l5_34.toInt - 1)) = (aI (G23.2.1 (F a 17)) (l4_34.toInt)))
    (c71 : ¬ (l3_34.toInt ≠ p0.toInt))
    (c75 : p1.toInt ≠ 0)
    (t92 : x92.toInt = l5_34.toInt - l4_34.toInt ∨ l5_34.toInt - l4_34.toInt < -2147483648 ∨ 2147483648 ≤ l5_34.toInt - l4_34.toInt) :
    ((p1.toInt < 0 ∨ 1 < p1.toInt) ∧ x92.toInt = -1) ∨ ((0 ≤ p1.toInt ∧ p1.toInt ≤ 1) ∧ GrM (nth1 (if ((G.1 a 6).toInt) = 0 then [] else fuO (G.2.1 (F a 10)) (mw (G.2.1 (F a 1)) 0) (mw (G.2.1 (F a 2)) 0) 1)) (((if ((G.1 a 6).toInt) = 0 then [] else fuO (G.2.1 (F a 10)) (mw (G.2.1 (F a 1)) 0) (mw (G.2.1 (F a 2)) 0) 1).length : Nat) : Int) p0.toInt p1.toInt x92.toInt) := by
  rw [← oq23, pL_len]
  refine Or.inr ⟨by omega, GrM_congr (g := aI (G23.2.1 (F a 17))) (fun j a1 a2 => (nth1_pL ⟨a1, by omega⟩).symm) ?_⟩
  rw [show (((G23.1 a 19).toInt.toNat : Nat) : Int) = (G23.1 a 19).toInt from by omega]
  refine Or.inr (Or.inr ⟨l4_34.toInt, l5_34.toInt, ⟨by omega, by omega, by omega⟩, by omega, by omega, fun j a1 a2 => rn j a1 a2 (by omega), by omega, ?_⟩)
  first
    | exact Or.inr ⟨by omega, by omega⟩
    | exact Or.inl ⟨by omega, rfl⟩
theorem v_X11_group_93_9 {K : Nat → Nat} {F : Nat → Nat → Nat} (a : Nat) (G2 : XG) (G : XG) (G23 : XG) (l4_34 : Int32) (l5_34 : Int32) (p0 : Int32) (x14 : Int32) (p1 : Int32) (l3_34 : Int32) (N34 : Nat)
    (ha : K a = 13)
    (oq23 : pL G23 F a = if ((G.1 a 6).toInt) = 0 then [] else fuO (G.2.1 (F a 10)) (mw (G.2.1 (F a 1)) 0) (mw (G.2.1 (F a 2)) 0) 1)
    (oq23a : ((G.1 a 6).toInt) ≠ 0 → LSt (G.2.1 (F a 10)) (G23.2.1 (F a 11)) (mw (G.2.1 (F a 1)) 0) 12 ∧ LSt (G.2.1 (F a 10)) (G23.2.1 (F a 13)) (mw (G.2.1 (F a 2)) 0) 12)
    (oq23b : G23.2.2.2 = G2.2.2.2)
    (rn : ∀ j : Int, l4_34.toInt ≤ j → j < l5_34.toInt → j < (G23.1 a 19).toInt → aI (G23.2.1 (F a 17)) j = aI (G23.2.1 (F a 17)) l4_34.toInt)
    (c7 : ¬ (p0.toInt < (-1 : Int)))
    (t14 : (x14.toInt = 1 ∧ (0 : Int) ≤ p1.toInt ∧ p1.toInt ≤ (1 : Int)) ∨ (x14.toInt = 0 ∧ (p1.toInt < (0 : Int) ∨ (1 : Int) < p1.toInt)))
    (c17 : x14.toInt ≠ 0)
    (t23 : 0 ≤ ((G23.1 a 19).toInt) ∧ ((G23.1 a 19).toInt) ≤ 2388)
    (z26 : (stF (aI (G23.2.1 (F a 17))) 0) = 0)
    (I34_0 : 1 ≤ l5_34.toInt ∧ l5_34.toInt ≤ ((G23.1 a 19).toInt) + 1)
    (I34_1 : 0 ≤ l4_34.toInt ∧ l4_34.toInt < l5_34.toInt)
    (I34_2 : 0 ≤ l3_34.toInt ∧ l3_34.toInt ≤ l5_34.toInt)
    (I34_3 : ((G23.1 a 19).toInt) ≤ 2388)
    (I34_4 : l3_34.toInt = (stF (aI (G23.2.1 (F a 17))) (l4_34.toInt)))
    (I34_5 : l4_34.toInt = ((G23.1 a 19).toInt) ∨ l4_34.toInt = 0 ∨ (aI (G23.2.1 (F a 17)) (l4_34.toInt)) ≠ (aI (G23.2.1 (F a 17)) (l4_34.toInt - 1)))
    (I34_6 : p0.toInt < 0 ∨ l3_34.toInt ≤ p0.toInt)
    (I34_7 : l5_34.toInt ≤ ((G23.1 a 19).toInt) ∨ l4_34.toInt = ((G23.1 a 19).toInt))
    (I34_8 : l4_34.toInt ≤ ((G23.1 a 19).toInt))
    (hm34 : 5000 - l5_34.toInt < (((N34) + 1 : Nat) : Int))
    (c40 : ¬ (((G23.1 a 19).toInt) < l5_34.toInt))
    (c49 : l5_34.toInt = ((G23.1 a 19).toInt))
    (z69 : (stF (aI (G23.2.1 (F a 17))) (l5_34.toInt)) = (stF (aI (G23.2.1 (F a 17))) (l4_34.toInt)) + 1)
    (z69a : (aI (G23.2.1 (F a 17)) (l5_34.toInt - 1)) = (aI (G23.2.1 (F a 17)) (l4_34.toInt)))
    (c71 : ¬ (l3_34.toInt ≠ p0.toInt))
    (c75 : ¬ (p1.toInt ≠ 0)) :
    ((p1.toInt < 0 ∨ 1 < p1.toInt) ∧ (aI (G23.2.1 (F a 17)) (l4_34.toInt)) = -1) ∨ ((0 ≤ p1.toInt ∧ p1.toInt ≤ 1) ∧ GrM (nth1 (if ((G.1 a 6).toInt) = 0 then [] else fuO (G.2.1 (F a 10)) (mw (G.2.1 (F a 1)) 0) (mw (G.2.1 (F a 2)) 0) 1)) (((if ((G.1 a 6).toInt) = 0 then [] else fuO (G.2.1 (F a 10)) (mw (G.2.1 (F a 1)) 0) (mw (G.2.1 (F a 2)) 0) 1).length : Nat) : Int) p0.toInt p1.toInt (aI (G23.2.1 (F a 17)) (l4_34.toInt))) := by
  rw [← oq23, pL_len]
  refine Or.inr ⟨by omega, GrM_congr (g := aI (G23.2.1 (F a 17))) (fun j a1 a2 => (nth1_pL ⟨a1, by omega⟩).symm) ?_⟩
  rw [show (((G23.1 a 19).toInt.toNat : Nat) : Int) = (G23.1 a 19).toInt from by omega]
  refine Or.inr (Or.inr ⟨l4_34.toInt, l5_34.toInt, ⟨by omega, by omega, by omega⟩, by omega, by omega, fun j a1 a2 => rn j a1 a2 (by omega), by omega, ?_⟩)
  first
    | exact Or.inr ⟨by omega, by omega⟩
    | exact Or.inl ⟨by omega, rfl⟩
theorem v_X11_group_104_10 {K : Nat → Nat} {F : Nat → Nat → Nat} (a : Nat) (G2 : XG) (G : XG) (G23 : XG) (l4_34 : Int32) (l5_34 : Int32) (p0 : Int32) (x14 : Int32) (p1 : Int32) (l3_34 : Int32) (N34 : Nat)
    (ha : K a = 13)
    (oq23a : ((G.1 a 6).toInt) ≠ 0 → LSt (G.2.1 (F a 10)) (G23.2.1 (F a 11)) (mw (G.2.1 (F a 1)) 0) 12 ∧ LSt (G.2.1 (F a 10)) (G23.2.1 (F a 13)) (mw (G.2.1 (F a 2)) 0) 12)
    (oq23b : G23.2.2.2 = G2.2.2.2)
    (rn : ∀ j : Int, l4_34.toInt ≤ j → j < l5_34.toInt → j < (G23.1 a 19).toInt → aI (G23.2.1 (F a 17)) j = aI (G23.2.1 (F a 17)) l4_34.toInt)
    (c7 : ¬ (p0.toInt < (-1 : Int)))
    (t14 : (x14.toInt = 1 ∧ (0 : Int) ≤ p1.toInt ∧ p1.toInt ≤ (1 : Int)) ∨ (x14.toInt = 0 ∧ (p1.toInt < (0 : Int) ∨ (1 : Int) < p1.toInt)))
    (c17 : x14.toInt ≠ 0)
    (t23 : 0 ≤ ((G23.1 a 19).toInt) ∧ ((G23.1 a 19).toInt) ≤ 2388)
    (z26 : (stF (aI (G23.2.1 (F a 17))) 0) = 0)
    (I34_0 : 1 ≤ l5_34.toInt ∧ l5_34.toInt ≤ ((G23.1 a 19).toInt) + 1)
    (I34_1 : 0 ≤ l4_34.toInt ∧ l4_34.toInt < l5_34.toInt)
    (I34_2 : 0 ≤ l3_34.toInt ∧ l3_34.toInt ≤ l5_34.toInt)
    (I34_3 : ((G23.1 a 19).toInt) ≤ 2388)
    (I34_4 : l3_34.toInt = (stF (aI (G23.2.1 (F a 17))) (l4_34.toInt)))
    (I34_5 : l4_34.toInt = ((G23.1 a 19).toInt) ∨ l4_34.toInt = 0 ∨ (aI (G23.2.1 (F a 17)) (l4_34.toInt)) ≠ (aI (G23.2.1 (F a 17)) (l4_34.toInt - 1)))
    (I34_6 : p0.toInt < 0 ∨ l3_34.toInt ≤ p0.toInt)
    (I34_7 : l5_34.toInt ≤ ((G23.1 a 19).toInt) ∨ l4_34.toInt = ((G23.1 a 19).toInt))
    (I34_8 : l4_34.toInt ≤ ((G23.1 a 19).toInt))
    (hm34 : 5000 - l5_34.toInt < (((N34) + 1 : Nat) : Int))
    (c40 : ¬ (((G23.1 a 19).toInt) < l5_34.toInt))
    (c49 : ¬ (l5_34.toInt = ((G23.1 a 19).toInt)))
    (c66 : (aI (G23.2.1 (F a 17)) (l5_34.toInt)) = (aI (G23.2.1 (F a 17)) (l4_34.toInt))) :
    ∀ j : Int, l4_34.toInt ≤ j → j < (l5_34.toInt + 1) → j < (G23.1 a 19).toInt → aI (G23.2.1 (F a 17)) j = aI (G23.2.1 (F a 17)) l4_34.toInt := by
  first
    | (intro j a1 a2 a3
       rw [show j = l5_34.toInt from by omega])
    | (intro j a1 a2 a3
       by_cases e : j = l5_34.toInt
       · rw [e]; omega
       · exact rn j a1 (by omega) a3)
theorem v_X11_group_104_11 {K : Nat → Nat} {F : Nat → Nat → Nat} (a : Nat) (G2 : XG) (G : XG) (G23 : XG) (l4_34 : Int32) (l5_34 : Int32) (l3_34 : Int32) (p0 : Int32) (x14 : Int32) (p1 : Int32) (N34 : Nat)
    (ha : K a = 13)
    (oq23a : ((G.1 a 6).toInt) ≠ 0 → LSt (G.2.1 (F a 10)) (G23.2.1 (F a 11)) (mw (G.2.1 (F a 1)) 0) 12 ∧ LSt (G.2.1 (F a 10)) (G23.2.1 (F a 13)) (mw (G.2.1 (F a 2)) 0) 12)
    (oq23b : G23.2.2.2 = G2.2.2.2)
    (rn : ∀ j : Int, l4_34.toInt ≤ j → j < l5_34.toInt → j < (G23.1 a 19).toInt → aI (G23.2.1 (F a 17)) j = aI (G23.2.1 (F a 17)) l4_34.toInt)
    (c7 : ¬ (p0.toInt < (-1 : Int)))
    (t14 : (x14.toInt = 1 ∧ (0 : Int) ≤ p1.toInt ∧ p1.toInt ≤ (1 : Int)) ∨ (x14.toInt = 0 ∧ (p1.toInt < (0 : Int) ∨ (1 : Int) < p1.toInt)))
    (c17 : x14.toInt ≠ 0)
    (t23 : 0 ≤ ((G23.1 a 19).toInt) ∧ ((G23.1 a 19).toInt) ≤ 2388)
    (z26 : (stF (aI (G23.2.1 (F a 17))) 0) = 0)
    (I34_0 : 1 ≤ l5_34.toInt ∧ l5_34.toInt ≤ ((G23.1 a 19).toInt) + 1)
    (I34_1 : 0 ≤ l4_34.toInt ∧ l4_34.toInt < l5_34.toInt)
    (I34_2 : 0 ≤ l3_34.toInt ∧ l3_34.toInt ≤ l5_34.toInt)
    (I34_3 : ((G23.1 a 19).toInt) ≤ 2388)
    (I34_4 : l3_34.toInt = (stF (aI (G23.2.1 (F a 17))) (l4_34.toInt)))
    (I34_5 : l4_34.toInt = ((G23.1 a 19).toInt) ∨ l4_34.toInt = 0 ∨ (aI (G23.2.1 (F a 17)) (l4_34.toInt)) ≠ (aI (G23.2.1 (F a 17)) (l4_34.toInt - 1)))
    (I34_6 : p0.toInt < 0 ∨ l3_34.toInt ≤ p0.toInt)
    (I34_7 : l5_34.toInt ≤ ((G23.1 a 19).toInt) ∨ l4_34.toInt = ((G23.1 a 19).toInt))
    (I34_8 : l4_34.toInt ≤ ((G23.1 a 19).toInt))
    (hm34 : 5000 - l5_34.toInt < (((N34) + 1 : Nat) : Int))
    (c40 : ¬ (((G23.1 a 19).toInt) < l5_34.toInt))
    (c49 : ¬ (l5_34.toInt = ((G23.1 a 19).toInt)))
    (c66 : ¬ ((aI (G23.2.1 (F a 17)) (l5_34.toInt)) = (aI (G23.2.1 (F a 17)) (l4_34.toInt))))
    (z69 : (stF (aI (G23.2.1 (F a 17))) (l5_34.toInt)) = (stF (aI (G23.2.1 (F a 17))) (l4_34.toInt)) + 1)
    (z69a : (aI (G23.2.1 (F a 17)) (l5_34.toInt - 1)) = (aI (G23.2.1 (F a 17)) (l4_34.toInt)))
    (c71 : l3_34.toInt ≠ p0.toInt) :
    ∀ j : Int, l5_34.toInt ≤ j → j < (l5_34.toInt + 1) → j < (G23.1 a 19).toInt → aI (G23.2.1 (F a 17)) j = aI (G23.2.1 (F a 17)) l5_34.toInt := by
  first
    | (intro j a1 a2 a3
       rw [show j = l5_34.toInt from by omega])
    | (intro j a1 a2 a3
       by_cases e : j = l5_34.toInt
       · rw [e]; omega
       · exact rn j a1 (by omega) a3)
theorem v_X11_group_93_12 {K : Nat → Nat} {F : Nat → Nat → Nat} (a : Nat) (G2 : XG) (G : XG) (G23 : XG) (l4_34 : Int32) (l5_34 : Int32) (p0 : Int32) (x14 : Int32) (p1 : Int32) (l3_34 : Int32) (N34 : Nat) (x92 : Int32)
    (ha : K a = 13)
    (oq23 : pL G23 F a = if ((G.1 a 6).toInt) = 0 then [] else fuO (G.2.1 (F a 10)) (mw (G.2.1 (F a 1)) 0) (mw (G.2.1 (F a 2)) 0) 1)
    (oq23a : ((G.1 a 6).toInt) ≠ 0 → LSt (G.2.1 (F a 10)) (G23.2.1 (F a 11)) (mw (G.2.1 (F a 1)) 0) 12 ∧ LSt (G.2.1 (F a 10)) (G23.2.1 (F a 13)) (mw (G.2.1 (F a 2)) 0) 12)
    (oq23b : G23.2.2.2 = G2.2.2.2)
    (rn : ∀ j : Int, l4_34.toInt ≤ j → j < l5_34.toInt → j < (G23.1 a 19).toInt → aI (G23.2.1 (F a 17)) j = aI (G23.2.1 (F a 17)) l4_34.toInt)
    (c7 : ¬ (p0.toInt < (-1 : Int)))
    (t14 : (x14.toInt = 1 ∧ (0 : Int) ≤ p1.toInt ∧ p1.toInt ≤ (1 : Int)) ∨ (x14.toInt = 0 ∧ (p1.toInt < (0 : Int) ∨ (1 : Int) < p1.toInt)))
    (c17 : x14.toInt ≠ 0)
    (t23 : 0 ≤ ((G23.1 a 19).toInt) ∧ ((G23.1 a 19).toInt) ≤ 2388)
    (z26 : (stF (aI (G23.2.1 (F a 17))) 0) = 0)
    (I34_0 : 1 ≤ l5_34.toInt ∧ l5_34.toInt ≤ ((G23.1 a 19).toInt) + 1)
    (I34_1 : 0 ≤ l4_34.toInt ∧ l4_34.toInt < l5_34.toInt)
    (I34_2 : 0 ≤ l3_34.toInt ∧ l3_34.toInt ≤ l5_34.toInt)
    (I34_3 : ((G23.1 a 19).toInt) ≤ 2388)
    (I34_4 : l3_34.toInt = (stF (aI (G23.2.1 (F a 17))) (l4_34.toInt)))
    (I34_5 : l4_34.toInt = ((G23.1 a 19).toInt) ∨ l4_34.toInt = 0 ∨ (aI (G23.2.1 (F a 17)) (l4_34.toInt)) ≠ (aI (G23.2.1 (F a 17)) (l4_34.toInt - 1)))
    (I34_6 : p0.toInt < 0 ∨ l3_34.toInt ≤ p0.toInt)
    (I34_7 : l5_34.toInt ≤ ((G23.1 a 19).toInt) ∨ l4_34.toInt = ((G23.1 a 19).toInt))
    (I34_8 : l4_34.toInt ≤ ((G23.1 a 19).toInt))
    (hm34 : 5000 - l5_34.toInt < (((N34) + 1 : Nat) : Int))
    (c40 : ¬ (((G23.1 a 19).toInt) < l5_34.toInt))
    (c49 : ¬ (l5_34.toInt = ((G23.1 a 19).toInt)))
    (c66 : ¬ ((aI (G23.2.1 (F a 17)) (l5_34.toInt)) = (aI (G23.2.1 (F a 17)) (l4_34.toInt))))
    (z69 : (stF (aI (G23.2.1 (F a 17))) (l5_34.toInt)) = (stF (aI (G23.2.1 (F a 17))) (l4_34.toInt)) + 1)
    (z69a : (aI (G23.2.1 (F a 17)) (l5_34.toInt - 1)) = (aI (G23.2.1 (F a 17)) (l4_34.toInt)))
    (c71 : ¬ (l3_34.toInt ≠ p0.toInt))
    (c75 : p1.toInt ≠ 0)
    (t92 : x92.toInt = l5_34.toInt - l4_34.toInt ∨ l5_34.toInt - l4_34.toInt < -2147483648 ∨ 2147483648 ≤ l5_34.toInt - l4_34.toInt) :
    ((p1.toInt < 0 ∨ 1 < p1.toInt) ∧ x92.toInt = -1) ∨ ((0 ≤ p1.toInt ∧ p1.toInt ≤ 1) ∧ GrM (nth1 (if ((G.1 a 6).toInt) = 0 then [] else fuO (G.2.1 (F a 10)) (mw (G.2.1 (F a 1)) 0) (mw (G.2.1 (F a 2)) 0) 1)) (((if ((G.1 a 6).toInt) = 0 then [] else fuO (G.2.1 (F a 10)) (mw (G.2.1 (F a 1)) 0) (mw (G.2.1 (F a 2)) 0) 1).length : Nat) : Int) p0.toInt p1.toInt x92.toInt) := by
  rw [← oq23, pL_len]
  refine Or.inr ⟨by omega, GrM_congr (g := aI (G23.2.1 (F a 17))) (fun j a1 a2 => (nth1_pL ⟨a1, by omega⟩).symm) ?_⟩
  rw [show (((G23.1 a 19).toInt.toNat : Nat) : Int) = (G23.1 a 19).toInt from by omega]
  refine Or.inr (Or.inr ⟨l4_34.toInt, l5_34.toInt, ⟨by omega, by omega, by omega⟩, by omega, by omega, fun j a1 a2 => rn j a1 a2 (by omega), by omega, ?_⟩)
  first
    | exact Or.inr ⟨by omega, by omega⟩
    | exact Or.inl ⟨by omega, rfl⟩
theorem v_X11_group_93_13 {K : Nat → Nat} {F : Nat → Nat → Nat} (a : Nat) (G2 : XG) (G : XG) (G23 : XG) (l4_34 : Int32) (l5_34 : Int32) (p0 : Int32) (x14 : Int32) (p1 : Int32) (l3_34 : Int32) (N34 : Nat)
    (ha : K a = 13)
    (oq23 : pL G23 F a = if ((G.1 a 6).toInt) = 0 then [] else fuO (G.2.1 (F a 10)) (mw (G.2.1 (F a 1)) 0) (mw (G.2.1 (F a 2)) 0) 1)
    (oq23a : ((G.1 a 6).toInt) ≠ 0 → LSt (G.2.1 (F a 10)) (G23.2.1 (F a 11)) (mw (G.2.1 (F a 1)) 0) 12 ∧ LSt (G.2.1 (F a 10)) (G23.2.1 (F a 13)) (mw (G.2.1 (F a 2)) 0) 12)
    (oq23b : G23.2.2.2 = G2.2.2.2)
    (rn : ∀ j : Int, l4_34.toInt ≤ j → j < l5_34.toInt → j < (G23.1 a 19).toInt → aI (G23.2.1 (F a 17)) j = aI (G23.2.1 (F a 17)) l4_34.toInt)
    (c7 : ¬ (p0.toInt < (-1 : Int)))
    (t14 : (x14.toInt = 1 ∧ (0 : Int) ≤ p1.toInt ∧ p1.toInt ≤ (1 : Int)) ∨ (x14.toInt = 0 ∧ (p1.toInt < (0 : Int) ∨ (1 : Int) < p1.toInt)))
    (c17 : x14.toInt ≠ 0)
    (t23 : 0 ≤ ((G23.1 a 19).toInt) ∧ ((G23.1 a 19).toInt) ≤ 2388)
    (z26 : (stF (aI (G23.2.1 (F a 17))) 0) = 0)
    (I34_0 : 1 ≤ l5_34.toInt ∧ l5_34.toInt ≤ ((G23.1 a 19).toInt) + 1)
    (I34_1 : 0 ≤ l4_34.toInt ∧ l4_34.toInt < l5_34.toInt)
    (I34_2 : 0 ≤ l3_34.toInt ∧ l3_34.toInt ≤ l5_34.toInt)
    (I34_3 : ((G23.1 a 19).toInt) ≤ 2388)
    (I34_4 : l3_34.toInt = (stF (aI (G23.2.1 (F a 17))) (l4_34.toInt)))
    (I34_5 : l4_34.toInt = ((G23.1 a 19).toInt) ∨ l4_34.toInt = 0 ∨ (aI (G23.2.1 (F a 17)) (l4_34.toInt)) ≠ (aI (G23.2.1 (F a 17)) (l4_34.toInt - 1)))
    (I34_6 : p0.toInt < 0 ∨ l3_34.toInt ≤ p0.toInt)
    (I34_7 : l5_34.toInt ≤ ((G23.1 a 19).toInt) ∨ l4_34.toInt = ((G23.1 a 19).toInt))
    (I34_8 : l4_34.toInt ≤ ((G23.1 a 19).toInt))
    (hm34 : 5000 - l5_34.toInt < (((N34) + 1 : Nat) : Int))
    (c40 : ¬ (((G23.1 a 19).toInt) < l5_34.toInt))
    (c49 : ¬ (l5_34.toInt = ((G23.1 a 19).toInt)))
    (c66 : ¬ ((aI (G23.2.1 (F a 17)) (l5_34.toInt)) = (aI (G23.2.1 (F a 17)) (l4_34.toInt))))
    (z69 : (stF (aI (G23.2.1 (F a 17))) (l5_34.toInt)) = (stF (aI (G23.2.1 (F a 17))) (l4_34.toInt)) + 1)
    (z69a : (aI (G23.2.1 (F a 17)) (l5_34.toInt - 1)) = (aI (G23.2.1 (F a 17)) (l4_34.toInt)))
    (c71 : ¬ (l3_34.toInt ≠ p0.toInt))
    (c75 : ¬ (p1.toInt ≠ 0)) :
    ((p1.toInt < 0 ∨ 1 < p1.toInt) ∧ (aI (G23.2.1 (F a 17)) (l4_34.toInt)) = -1) ∨ ((0 ≤ p1.toInt ∧ p1.toInt ≤ 1) ∧ GrM (nth1 (if ((G.1 a 6).toInt) = 0 then [] else fuO (G.2.1 (F a 10)) (mw (G.2.1 (F a 1)) 0) (mw (G.2.1 (F a 2)) 0) 1)) (((if ((G.1 a 6).toInt) = 0 then [] else fuO (G.2.1 (F a 10)) (mw (G.2.1 (F a 1)) 0) (mw (G.2.1 (F a 2)) 0) 1).length : Nat) : Int) p0.toInt p1.toInt (aI (G23.2.1 (F a 17)) (l4_34.toInt))) := by
  rw [← oq23, pL_len]
  refine Or.inr ⟨by omega, GrM_congr (g := aI (G23.2.1 (F a 17))) (fun j a1 a2 => (nth1_pL ⟨a1, by omega⟩).symm) ?_⟩
  rw [show (((G23.1 a 19).toInt.toNat : Nat) : Int) = (G23.1 a 19).toInt from by omega]
  refine Or.inr (Or.inr ⟨l4_34.toInt, l5_34.toInt, ⟨by omega, by omega, by omega⟩, by omega, by omega, fun j a1 a2 => rn j a1 a2 (by omega), by omega, ?_⟩)
  first
    | exact Or.inr ⟨by omega, by omega⟩
    | exact Or.inl ⟨by omega, rfl⟩
theorem v_X11_group_32_14 {K : Nat → Nat} {F : Nat → Nat → Nat} (a : Nat) (G2 : XG) (G : XG) (G23 : XG) (p0 : Int32) (x14 : Int32) (p1 : Int32)
    (ha : K a = 13)
    (oq23a : ((G.1 a 6).toInt) ≠ 0 → LSt (G.2.1 (F a 10)) (G23.2.1 (F a 11)) (mw (G.2.1 (F a 1)) 0) 12 ∧ LSt (G.2.1 (F a 10)) (G23.2.1 (F a 13)) (mw (G.2.1 (F a 2)) 0) 12)
    (oq23b : G23.2.2.2 = G2.2.2.2)
    (c7 : ¬ (p0.toInt < (-1 : Int)))
    (t14 : (x14.toInt = 1 ∧ (0 : Int) ≤ p1.toInt ∧ p1.toInt ≤ (1 : Int)) ∨ (x14.toInt = 0 ∧ (p1.toInt < (0 : Int) ∨ (1 : Int) < p1.toInt)))
    (c17 : x14.toInt ≠ 0)
    (t23 : 0 ≤ ((G23.1 a 19).toInt) ∧ ((G23.1 a 19).toInt) ≤ 2388)
    (z26 : (stF (aI (G23.2.1 (F a 17))) 0) = 0) :
    ∀ j : Int, (0 : Int) ≤ j → j < (1 : Int) → j < (G23.1 a 19).toInt → aI (G23.2.1 (F a 17)) j = aI (G23.2.1 (F a 17)) (0 : Int) := by
  intro j a1 a2 _
  rw [show j = 0 from by omega]
theorem v_X11_group_21_15 {K : Nat → Nat} {F : Nat → Nat → Nat} (a : Nat) (G : XG) (p0 : Int32) (x14 : Int32) (p1 : Int32)
    (ha : K a = 13)
    (c7 : ¬ (p0.toInt < (-1 : Int)))
    (t14 : (x14.toInt = 1 ∧ (0 : Int) ≤ p1.toInt ∧ p1.toInt ≤ (1 : Int)) ∨ (x14.toInt = 0 ∧ (p1.toInt < (0 : Int) ∨ (1 : Int) < p1.toInt)))
    (c17 : ¬ (x14.toInt ≠ 0)) :
    ((p1.toInt < 0 ∨ 1 < p1.toInt) ∧ (-1 : Int) = -1) ∨ ((0 ≤ p1.toInt ∧ p1.toInt ≤ 1) ∧ GrM (nth1 (if ((G.1 a 6).toInt) = 0 then [] else fuO (G.2.1 (F a 10)) (mw (G.2.1 (F a 1)) 0) (mw (G.2.1 (F a 2)) 0) 1)) (((if ((G.1 a 6).toInt) = 0 then [] else fuO (G.2.1 (F a 10)) (mw (G.2.1 (F a 1)) 0) (mw (G.2.1 (F a 2)) 0) 1).length : Nat) : Int) p0.toInt p1.toInt (-1 : Int)) := by
  first
    | exact Or.inl ⟨by omega, rfl⟩
    | (by_cases h9 : 0 ≤ p1.toInt ∧ p1.toInt ≤ 1
       · exact Or.inr ⟨h9, Or.inr (Or.inl ⟨by omega, Or.inl (by omega), rfl⟩)⟩
       · exact Or.inl ⟨by omega, rfl⟩)
theorem v_X11_all_21_1 {F : Nat → Nat → Nat} (a : Nat) (G2 : XG) (G : XG)
    (hR : RV (G.2.1 (F a 10)))
    (c_G2_F_a_10 : G2.2.1 (F a 10) = G.2.1 (F a 10)) :
    RV (G2.2.1 (F a 10)) := by simp only [c_G2_F_a_10]; assumption
theorem v_X11_all_166_2 {K : Nat → Nat} {F : Nat → Nat → Nat} (a : Nat) (G2 : XG) (G : XG) (G21 : XG) (l2_36 : Int32) (l3_36 : Int32) (l4_36 : Int32) (l5_36 : Int32) (x11 : Int32) (p0 : Int32) (N36 : Nat)
    (ha : K a = 13)
    (oq21 : ORm (G.2.1 (F a 10)) (G21.2.1 (F a 15)) ((G21.1 a 16).toInt) 12)
    (oq21a : G21.2.2.2 = G2.2.2.2)
    (pa : TrA l2_36.toInt l3_36.toInt l4_36.toInt (faL (G.2.1 (F a 10)) (mw (G.2.1 (F a 1)) 0) (ordN (prM (G.2.1 (F a 10))) (rkM (G.2.1 (F a 10))) 12).2 (l5_36.toInt).toNat))
    (t11 : (x11.toInt = 1 ∧ (0 : Int) ≤ p0.toInt ∧ p0.toInt ≤ (2 : Int)) ∨ (x11.toInt = 0 ∧ (p0.toInt < (0 : Int) ∨ (2 : Int) < p0.toInt)))
    (c14 : x11.toInt ≠ 0)
    (z24 : 0 ≤ ((G21.1 a 16).toInt) ∧ ((G21.1 a 16).toInt) ≤ 12)
    (I36_0 : 0 ≤ l5_36.toInt ∧ l5_36.toInt ≤ ((G21.1 a 16).toInt))
    (I36_1 : 0 ≤ l2_36.toInt ∧ l2_36.toInt ≤ 199 * l5_36.toInt)
    (hm36 : 100 - l5_36.toInt < (((N36) + 1 : Nat) : Int))
    (c42 : ((G21.1 a 16).toInt) ≤ l5_36.toInt)
    (c140 : p0.toInt ≠ 0)
    (c148 : l2_36.toInt ≠ 0)
    (c157 : p0.toInt ≠ (1 : Int)) :
    (¬ (0 ≤ p0.toInt ∧ p0.toInt ≤ 2) ∧ l4_36.toInt = -2147483648) ∨ ((0 ≤ p0.toInt ∧ p0.toInt ≤ 2) ∧ l4_36.toInt = alS p0.toInt (faO (G.2.1 (F a 10)) (mw (G.2.1 (F a 1)) 0))) := by
  have e : l5_36.toInt.toNat = (ordN (prM (G.2.1 (F a 10))) (rkM (G.2.1 (F a 10))) 12).1 := by
    have h9 := oq21.1
    omega
  rw [e] at pa
  refine Or.inr ⟨by omega, ?_⟩
  first
    | exact (alS_0 pa (by omega)).symm
    | exact (alS_e pa (by omega) (by omega)).symm
    | exact (alS_1 pa (by omega) (by omega)).symm
    | exact (alS_2 pa (by omega) (by omega)).symm
theorem v_X11_all_166_3 {K : Nat → Nat} {F : Nat → Nat → Nat} (a : Nat) (G2 : XG) (G : XG) (G21 : XG) (l2_36 : Int32) (l3_36 : Int32) (l4_36 : Int32) (l5_36 : Int32) (x11 : Int32) (p0 : Int32) (N36 : Nat)
    (ha : K a = 13)
    (oq21 : ORm (G.2.1 (F a 10)) (G21.2.1 (F a 15)) ((G21.1 a 16).toInt) 12)
    (oq21a : G21.2.2.2 = G2.2.2.2)
    (pa : TrA l2_36.toInt l3_36.toInt l4_36.toInt (faL (G.2.1 (F a 10)) (mw (G.2.1 (F a 1)) 0) (ordN (prM (G.2.1 (F a 10))) (rkM (G.2.1 (F a 10))) 12).2 (l5_36.toInt).toNat))
    (t11 : (x11.toInt = 1 ∧ (0 : Int) ≤ p0.toInt ∧ p0.toInt ≤ (2 : Int)) ∨ (x11.toInt = 0 ∧ (p0.toInt < (0 : Int) ∨ (2 : Int) < p0.toInt)))
    (c14 : x11.toInt ≠ 0)
    (z24 : 0 ≤ ((G21.1 a 16).toInt) ∧ ((G21.1 a 16).toInt) ≤ 12)
    (I36_0 : 0 ≤ l5_36.toInt ∧ l5_36.toInt ≤ ((G21.1 a 16).toInt))
    (I36_1 : 0 ≤ l2_36.toInt ∧ l2_36.toInt ≤ 199 * l5_36.toInt)
    (hm36 : 100 - l5_36.toInt < (((N36) + 1 : Nat) : Int))
    (c42 : ((G21.1 a 16).toInt) ≤ l5_36.toInt)
    (c140 : p0.toInt ≠ 0)
    (c148 : l2_36.toInt ≠ 0)
    (c157 : ¬ (p0.toInt ≠ (1 : Int))) :
    (¬ (0 ≤ p0.toInt ∧ p0.toInt ≤ 2) ∧ l3_36.toInt = -2147483648) ∨ ((0 ≤ p0.toInt ∧ p0.toInt ≤ 2) ∧ l3_36.toInt = alS p0.toInt (faO (G.2.1 (F a 10)) (mw (G.2.1 (F a 1)) 0))) := by
  have e : l5_36.toInt.toNat = (ordN (prM (G.2.1 (F a 10))) (rkM (G.2.1 (F a 10))) 12).1 := by
    have h9 := oq21.1
    omega
  rw [e] at pa
  refine Or.inr ⟨by omega, ?_⟩
  first
    | exact (alS_0 pa (by omega)).symm
    | exact (alS_e pa (by omega) (by omega)).symm
    | exact (alS_1 pa (by omega) (by omega)).symm
    | exact (alS_2 pa (by omega) (by omega)).symm
theorem v_X11_all_166_4 {K : Nat → Nat} {F : Nat → Nat → Nat} (a : Nat) (G2 : XG) (G : XG) (G21 : XG) (l2_36 : Int32) (l3_36 : Int32) (l4_36 : Int32) (l5_36 : Int32) (x11 : Int32) (p0 : Int32) (N36 : Nat)
    (ha : K a = 13)
    (oq21 : ORm (G.2.1 (F a 10)) (G21.2.1 (F a 15)) ((G21.1 a 16).toInt) 12)
    (oq21a : G21.2.2.2 = G2.2.2.2)
    (pa : TrA l2_36.toInt l3_36.toInt l4_36.toInt (faL (G.2.1 (F a 10)) (mw (G.2.1 (F a 1)) 0) (ordN (prM (G.2.1 (F a 10))) (rkM (G.2.1 (F a 10))) 12).2 (l5_36.toInt).toNat))
    (t11 : (x11.toInt = 1 ∧ (0 : Int) ≤ p0.toInt ∧ p0.toInt ≤ (2 : Int)) ∨ (x11.toInt = 0 ∧ (p0.toInt < (0 : Int) ∨ (2 : Int) < p0.toInt)))
    (c14 : x11.toInt ≠ 0)
    (z24 : 0 ≤ ((G21.1 a 16).toInt) ∧ ((G21.1 a 16).toInt) ≤ 12)
    (I36_0 : 0 ≤ l5_36.toInt ∧ l5_36.toInt ≤ ((G21.1 a 16).toInt))
    (I36_1 : 0 ≤ l2_36.toInt ∧ l2_36.toInt ≤ 199 * l5_36.toInt)
    (hm36 : 100 - l5_36.toInt < (((N36) + 1 : Nat) : Int))
    (c42 : ((G21.1 a 16).toInt) ≤ l5_36.toInt)
    (c140 : p0.toInt ≠ 0)
    (c148 : ¬ (l2_36.toInt ≠ 0)) :
    (¬ (0 ≤ p0.toInt ∧ p0.toInt ≤ 2) ∧ (-1 : Int) = -2147483648) ∨ ((0 ≤ p0.toInt ∧ p0.toInt ≤ 2) ∧ (-1 : Int) = alS p0.toInt (faO (G.2.1 (F a 10)) (mw (G.2.1 (F a 1)) 0))) := by
  have e : l5_36.toInt.toNat = (ordN (prM (G.2.1 (F a 10))) (rkM (G.2.1 (F a 10))) 12).1 := by
    have h9 := oq21.1
    omega
  rw [e] at pa
  refine Or.inr ⟨by omega, ?_⟩
  first
    | exact (alS_0 pa (by omega)).symm
    | exact (alS_e pa (by omega) (by omega)).symm
    | exact (alS_1 pa (by omega) (by omega)).symm
    | exact (alS_2 pa (by omega) (by omega)).symm
theorem v_X11_all_166_5 {K : Nat → Nat} {F : Nat → Nat → Nat} (a : Nat) (G2 : XG) (G : XG) (G21 : XG) (l2_36 : Int32) (l3_36 : Int32) (l4_36 : Int32) (l5_36 : Int32) (x11 : Int32) (p0 : Int32) (N36 : Nat)
    (ha : K a = 13)
    (oq21 : ORm (G.2.1 (F a 10)) (G21.2.1 (F a 15)) ((G21.1 a 16).toInt) 12)
    (oq21a : G21.2.2.2 = G2.2.2.2)
    (pa : TrA l2_36.toInt l3_36.toInt l4_36.toInt (faL (G.2.1 (F a 10)) (mw (G.2.1 (F a 1)) 0) (ordN (prM (G.2.1 (F a 10))) (rkM (G.2.1 (F a 10))) 12).2 (l5_36.toInt).toNat))
    (t11 : (x11.toInt = 1 ∧ (0 : Int) ≤ p0.toInt ∧ p0.toInt ≤ (2 : Int)) ∨ (x11.toInt = 0 ∧ (p0.toInt < (0 : Int) ∨ (2 : Int) < p0.toInt)))
    (c14 : x11.toInt ≠ 0)
    (z24 : 0 ≤ ((G21.1 a 16).toInt) ∧ ((G21.1 a 16).toInt) ≤ 12)
    (I36_0 : 0 ≤ l5_36.toInt ∧ l5_36.toInt ≤ ((G21.1 a 16).toInt))
    (I36_1 : 0 ≤ l2_36.toInt ∧ l2_36.toInt ≤ 199 * l5_36.toInt)
    (hm36 : 100 - l5_36.toInt < (((N36) + 1 : Nat) : Int))
    (c42 : ((G21.1 a 16).toInt) ≤ l5_36.toInt)
    (c140 : ¬ (p0.toInt ≠ 0)) :
    (¬ (0 ≤ p0.toInt ∧ p0.toInt ≤ 2) ∧ l2_36.toInt = -2147483648) ∨ ((0 ≤ p0.toInt ∧ p0.toInt ≤ 2) ∧ l2_36.toInt = alS p0.toInt (faO (G.2.1 (F a 10)) (mw (G.2.1 (F a 1)) 0))) := by
  have e : l5_36.toInt.toNat = (ordN (prM (G.2.1 (F a 10))) (rkM (G.2.1 (F a 10))) 12).1 := by
    have h9 := oq21.1
    omega
  rw [e] at pa
  refine Or.inr ⟨by omega, ?_⟩
  first
    | exact (alS_0 pa (by omega)).symm
    | exact (alS_e pa (by omega) (by omega)).symm
    | exact (alS_1 pa (by omega) (by omega)).symm
    | exact (alS_2 pa (by omega) (by omega)).symm
theorem v_X11_all_136_6 {K : Nat → Nat} {F : Nat → Nat → Nat} (a : Nat) (G2 : XG) (G : XG) (G21 : XG) (l2_36 : Int32) (l3_36 : Int32) (l4_36 : Int32) (l5_36 : Int32) (l2_58 : Int32) (l3_58 : Int32) (l4_58 : Int32) (l6_58 : Int32) (x11 : Int32) (p0 : Int32) (N36 : Nat) (N58 : Nat)
    (ha : K a = 13)
    (oq21 : ORm (G.2.1 (F a 10)) (G21.2.1 (F a 15)) ((G21.1 a 16).toInt) 12)
    (oq21a : G21.2.2.2 = G2.2.2.2)
    (pa : TrA l2_36.toInt l3_36.toInt l4_36.toInt (faL (G.2.1 (F a 10)) (mw (G.2.1 (F a 1)) 0) (ordN (prM (G.2.1 (F a 10))) (rkM (G.2.1 (F a 10))) 12).2 (l5_36.toInt).toNat))
    (pi : TrA l2_58.toInt l3_58.toInt l4_58.toInt (faL (G.2.1 (F a 10)) (mw (G.2.1 (F a 1)) 0) (ordN (prM (G.2.1 (F a 10))) (rkM (G.2.1 (F a 10))) 12).2 (l5_36.toInt).toNat ++ fap (G.2.1 (F a 10)) (mw (G.2.1 (F a 1)) 0) (aI (G21.2.1 (F a 15)) (l5_36.toInt)) l6_58.toInt))
    (t11 : (x11.toInt = 1 ∧ (0 : Int) ≤ p0.toInt ∧ p0.toInt ≤ (2 : Int)) ∨ (x11.toInt = 0 ∧ (p0.toInt < (0 : Int) ∨ (2 : Int) < p0.toInt)))
    (c14 : x11.toInt ≠ 0)
    (z24 : 0 ≤ ((G21.1 a 16).toInt) ∧ ((G21.1 a 16).toInt) ≤ 12)
    (I36_0 : 0 ≤ l5_36.toInt ∧ l5_36.toInt ≤ ((G21.1 a 16).toInt))
    (I36_1 : 0 ≤ l2_36.toInt ∧ l2_36.toInt ≤ 199 * l5_36.toInt)
    (hm36 : 100 - l5_36.toInt < (((N36) + 1 : Nat) : Int))
    (c42 : ¬ (((G21.1 a 16).toInt) ≤ l5_36.toInt))
    (z45 : 0 ≤ (aI (G21.2.1 (F a 15)) (l5_36.toInt)) ∧ (aI (G21.2.1 (F a 15)) (l5_36.toInt)) ≤ 11 ∧ (aI (G.2.1 (F a 10)) (10 * (aI (G21.2.1 (F a 15)) (l5_36.toInt)) + 0)) ≠ -1)
    (z45a : (((aI (G.2.1 (F a 10)) (10 * (aI (G21.2.1 (F a 15)) (l5_36.toInt)) + 0)) = 2 ∨ (aI (G.2.1 (F a 10)) (10 * (aI (G21.2.1 (F a 15)) (l5_36.toInt)) + 0)) = 4 ∨ (aI (G.2.1 (F a 10)) (10 * (aI (G21.2.1 (F a 15)) (l5_36.toInt)) + 0)) = 5) ∧ (sF (aI (G.2.1 (F a 10)) (10 * (aI (G21.2.1 (F a 15)) (l5_36.toInt)) + 0))) = 0 ∧ (sL (aI (G.2.1 (F a 10)) (10 * (aI (G21.2.1 (F a 15)) (l5_36.toInt)) + 0))) = 29) ∨ (¬ ((aI (G.2.1 (F a 10)) (10 * (aI (G21.2.1 (F a 15)) (l5_36.toInt)) + 0)) = 2 ∨ (aI (G.2.1 (F a 10)) (10 * (aI (G21.2.1 (F a 15)) (l5_36.toInt)) + 0)) = 4 ∨ (aI (G.2.1 (F a 10)) (10 * (aI (G21.2.1 (F a 15)) (l5_36.toInt)) + 0)) = 5) ∧ (sF (aI (G.2.1 (F a 10)) (10 * (aI (G21.2.1 (F a 15)) (l5_36.toInt)) + 0))) = -99 ∧ (sL (aI (G.2.1 (F a 10)) (10 * (aI (G21.2.1 (F a 15)) (l5_36.toInt)) + 0))) = 99))
    (I58_0 : (sF (aI (G.2.1 (F a 10)) (10 * (aI (G21.2.1 (F a 15)) (l5_36.toInt)) + 0))) ≤ l6_58.toInt ∧ l6_58.toInt ≤ (sL (aI (G.2.1 (F a 10)) (10 * (aI (G21.2.1 (F a 15)) (l5_36.toInt)) + 0))) + 1)
    (I58_1 : 0 ≤ l2_58.toInt ∧ l2_58.toInt ≤ 199 * l5_36.toInt + (l6_58.toInt - (sF (aI (G.2.1 (F a 10)) (10 * (aI (G21.2.1 (F a 15)) (l5_36.toInt)) + 0)))))
    (hm58 : 2147483648 - l6_58.toInt < (((N58) + 1 : Nat) : Int))
    (c71 : (sL (aI (G.2.1 (F a 10)) (10 * (aI (G21.2.1 (F a 15)) (l5_36.toInt)) + 0))) < l6_58.toInt) :
    TrA l2_58.toInt l3_58.toInt l4_58.toInt (faL (G.2.1 (F a 10)) (mw (G.2.1 (F a 1)) 0) (ordN (prM (G.2.1 (F a 10))) (rkM (G.2.1 (F a 10))) 12).2 (l5_36.toInt + 1).toNat) := by
  rw [show (l5_36.toInt + 1).toNat = l5_36.toInt.toNat + 1 from by omega, faL_s, or_nth oq21 (by omega), ← fap_l (s := l6_58.toInt) (by omega)]
  exact pi
theorem v_X11_all_89_7 {F : Nat → Nat → Nat} (a : Nat) (G : XG) (G21 : XG)
    (hR : RV (G.2.1 (F a 10)))
    (c_G21_F_a_10 : G21.2.1 (F a 10) = G.2.1 (F a 10)) :
    RV (G21.2.1 (F a 10)) := by simp only [c_G21_F_a_10]; assumption
theorem v_X11_all_89_8 {F : Nat → Nat → Nat} (a : Nat) (G : XG) (G21 : XG)
    (hM : RM (G.2.1 (F a 1)) (0))
    (c_G21_F_a_1 : G21.2.1 (F a 1) = G.2.1 (F a 1)) :
    RM (G21.2.1 (F a 1)) (0 : Int) := by simp only [c_G21_F_a_1]; assumption
theorem v_X11_all_130_9 {K : Nat → Nat} {F : Nat → Nat → Nat} (a : Nat) (G2 : XG) (G : XG) (G21 : XG) (l2_36 : Int32) (l3_36 : Int32) (l4_36 : Int32) (l5_36 : Int32) (l2_58 : Int32) (l3_58 : Int32) (l4_58 : Int32) (l6_58 : Int32) (x11 : Int32) (p0 : Int32) (N36 : Nat) (N58 : Nat) (x89 : Int32)
    (ha : K a = 13)
    (oq21a : G21.2.2.2 = G2.2.2.2)
    (pa : TrA l2_36.toInt l3_36.toInt l4_36.toInt (faL (G.2.1 (F a 10)) (mw (G.2.1 (F a 1)) 0) (ordN (prM (G.2.1 (F a 10))) (rkM (G.2.1 (F a 10))) 12).2 (l5_36.toInt).toNat))
    (pi : TrA l2_58.toInt l3_58.toInt l4_58.toInt (faL (G.2.1 (F a 10)) (mw (G.2.1 (F a 1)) 0) (ordN (prM (G.2.1 (F a 10))) (rkM (G.2.1 (F a 10))) 12).2 (l5_36.toInt).toNat ++ fap (G.2.1 (F a 10)) (mw (G.2.1 (F a 1)) 0) (aI (G21.2.1 (F a 15)) (l5_36.toInt)) l6_58.toInt))
    (t11 : (x11.toInt = 1 ∧ (0 : Int) ≤ p0.toInt ∧ p0.toInt ≤ (2 : Int)) ∨ (x11.toInt = 0 ∧ (p0.toInt < (0 : Int) ∨ (2 : Int) < p0.toInt)))
    (c14 : x11.toInt ≠ 0)
    (z24 : 0 ≤ ((G21.1 a 16).toInt) ∧ ((G21.1 a 16).toInt) ≤ 12)
    (I36_0 : 0 ≤ l5_36.toInt ∧ l5_36.toInt ≤ ((G21.1 a 16).toInt))
    (I36_1 : 0 ≤ l2_36.toInt ∧ l2_36.toInt ≤ 199 * l5_36.toInt)
    (hm36 : 100 - l5_36.toInt < (((N36) + 1 : Nat) : Int))
    (c42 : ¬ (((G21.1 a 16).toInt) ≤ l5_36.toInt))
    (z45 : 0 ≤ (aI (G21.2.1 (F a 15)) (l5_36.toInt)) ∧ (aI (G21.2.1 (F a 15)) (l5_36.toInt)) ≤ 11 ∧ (aI (G.2.1 (F a 10)) (10 * (aI (G21.2.1 (F a 15)) (l5_36.toInt)) + 0)) ≠ -1)
    (z45a : (((aI (G.2.1 (F a 10)) (10 * (aI (G21.2.1 (F a 15)) (l5_36.toInt)) + 0)) = 2 ∨ (aI (G.2.1 (F a 10)) (10 * (aI (G21.2.1 (F a 15)) (l5_36.toInt)) + 0)) = 4 ∨ (aI (G.2.1 (F a 10)) (10 * (aI (G21.2.1 (F a 15)) (l5_36.toInt)) + 0)) = 5) ∧ (sF (aI (G.2.1 (F a 10)) (10 * (aI (G21.2.1 (F a 15)) (l5_36.toInt)) + 0))) = 0 ∧ (sL (aI (G.2.1 (F a 10)) (10 * (aI (G21.2.1 (F a 15)) (l5_36.toInt)) + 0))) = 29) ∨ (¬ ((aI (G.2.1 (F a 10)) (10 * (aI (G21.2.1 (F a 15)) (l5_36.toInt)) + 0)) = 2 ∨ (aI (G.2.1 (F a 10)) (10 * (aI (G21.2.1 (F a 15)) (l5_36.toInt)) + 0)) = 4 ∨ (aI (G.2.1 (F a 10)) (10 * (aI (G21.2.1 (F a 15)) (l5_36.toInt)) + 0)) = 5) ∧ (sF (aI (G.2.1 (F a 10)) (10 * (aI (G21.2.1 (F a 15)) (l5_36.toInt)) + 0))) = -99 ∧ (sL (aI (G.2.1 (F a 10)) (10 * (aI (G21.2.1 (F a 15)) (l5_36.toInt)) + 0))) = 99))
    (I58_0 : (sF (aI (G.2.1 (F a 10)) (10 * (aI (G21.2.1 (F a 15)) (l5_36.toInt)) + 0))) ≤ l6_58.toInt ∧ l6_58.toInt ≤ (sL (aI (G.2.1 (F a 10)) (10 * (aI (G21.2.1 (F a 15)) (l5_36.toInt)) + 0))) + 1)
    (I58_1 : 0 ≤ l2_58.toInt ∧ l2_58.toInt ≤ 199 * l5_36.toInt + (l6_58.toInt - (sF (aI (G.2.1 (F a 10)) (10 * (aI (G21.2.1 (F a 15)) (l5_36.toInt)) + 0)))))
    (hm58 : 2147483648 - l6_58.toInt < (((N58) + 1 : Nat) : Int))
    (c71 : ¬ ((sL (aI (G.2.1 (F a 10)) (10 * (aI (G21.2.1 (F a 15)) (l5_36.toInt)) + 0))) < l6_58.toInt))
    (t89 : x89.toInt = (flq (mw (G.2.1 (F a 1)) 0) (aI (G.2.1 (F a 10)) (10 * (aI (G21.2.1 (F a 15)) (l5_36.toInt)) + 0)) (aI (G.2.1 (F a 10)) (10 * (aI (G21.2.1 (F a 15)) (l5_36.toInt)) + 1)) (aI (G.2.1 (F a 10)) (10 * (aI (G21.2.1 (F a 15)) (l5_36.toInt)) + 2)) (aI (G.2.1 (F a 10)) (10 * (aI (G21.2.1 (F a 15)) (l5_36.toInt)) + 4)) (aI (G.2.1 (F a 10)) (10 * (aI (G21.2.1 (F a 15)) (l5_36.toInt)) + 5)) (l6_58.toInt) (stt (mw (G.2.1 (F a 1)) 0) (aI (G.2.1 (F a 10)) (10 * (aI (G21.2.1 (F a 15)) (l5_36.toInt)) + 0)) (aI (G.2.1 (F a 10)) (10 * (aI (G21.2.1 (F a 15)) (l5_36.toInt)) + 1)) (aI (G.2.1 (F a 10)) (10 * (aI (G21.2.1 (F a 15)) (l5_36.toInt)) + 2)) (aI (G.2.1 (F a 10)) (10 * (aI (G21.2.1 (F a 15)) (l5_36.toInt)) + 3)) (l6_58.toInt))))
    (f35 : x89.toInt = 0 ∨ x89.toInt = 1)
    (c92 : x89.toInt = 0) :
    TrA l2_58.toInt l3_58.toInt l4_58.toInt (faL (G.2.1 (F a 10)) (mw (G.2.1 (F a 1)) 0) (ordN (prM (G.2.1 (F a 10))) (rkM (G.2.1 (F a 10))) 12).2 (l5_36.toInt).toNat ++ fap (G.2.1 (F a 10)) (mw (G.2.1 (F a 1)) 0) (aI (G21.2.1 (F a 15)) (l5_36.toInt)) (l6_58.toInt + 1)) := by
  have hz : fzq (G.2.1 (F a 10)) (mw (G.2.1 (F a 1)) 0) (aI (G21.2.1 (F a 15)) l5_36.toInt) l6_58.toInt = x89.toInt := t89.symm
  first
    | (rw [fap_n (by omega) (by omega)]
       exact pi)
    | (rw [fap_y (by omega) (by omega), ← List.append_assoc]
       first
         | (exfalso; omega)
         | exact TrA_n pi (by omega)
         | exact TrA_s pi (by omega) _)
theorem v_X11_all_130_10 {K : Nat → Nat} {F : Nat → Nat → Nat} (a : Nat) (G2 : XG) (G : XG) (G21 : XG) (l2_36 : Int32) (l3_36 : Int32) (l4_36 : Int32) (l5_36 : Int32) (l2_58 : Int32) (l3_58 : Int32) (l4_58 : Int32) (l6_58 : Int32) (x11 : Int32) (p0 : Int32) (N36 : Nat) (N58 : Nat) (x89 : Int32)
    (ha : K a = 13)
    (oq21a : G21.2.2.2 = G2.2.2.2)
    (pa : TrA l2_36.toInt l3_36.toInt l4_36.toInt (faL (G.2.1 (F a 10)) (mw (G.2.1 (F a 1)) 0) (ordN (prM (G.2.1 (F a 10))) (rkM (G.2.1 (F a 10))) 12).2 (l5_36.toInt).toNat))
    (pi : TrA l2_58.toInt l3_58.toInt l4_58.toInt (faL (G.2.1 (F a 10)) (mw (G.2.1 (F a 1)) 0) (ordN (prM (G.2.1 (F a 10))) (rkM (G.2.1 (F a 10))) 12).2 (l5_36.toInt).toNat ++ fap (G.2.1 (F a 10)) (mw (G.2.1 (F a 1)) 0) (aI (G21.2.1 (F a 15)) (l5_36.toInt)) l6_58.toInt))
    (t11 : (x11.toInt = 1 ∧ (0 : Int) ≤ p0.toInt ∧ p0.toInt ≤ (2 : Int)) ∨ (x11.toInt = 0 ∧ (p0.toInt < (0 : Int) ∨ (2 : Int) < p0.toInt)))
    (c14 : x11.toInt ≠ 0)
    (z24 : 0 ≤ ((G21.1 a 16).toInt) ∧ ((G21.1 a 16).toInt) ≤ 12)
    (I36_0 : 0 ≤ l5_36.toInt ∧ l5_36.toInt ≤ ((G21.1 a 16).toInt))
    (I36_1 : 0 ≤ l2_36.toInt ∧ l2_36.toInt ≤ 199 * l5_36.toInt)
    (hm36 : 100 - l5_36.toInt < (((N36) + 1 : Nat) : Int))
    (c42 : ¬ (((G21.1 a 16).toInt) ≤ l5_36.toInt))
    (z45 : 0 ≤ (aI (G21.2.1 (F a 15)) (l5_36.toInt)) ∧ (aI (G21.2.1 (F a 15)) (l5_36.toInt)) ≤ 11 ∧ (aI (G.2.1 (F a 10)) (10 * (aI (G21.2.1 (F a 15)) (l5_36.toInt)) + 0)) ≠ -1)
    (z45a : (((aI (G.2.1 (F a 10)) (10 * (aI (G21.2.1 (F a 15)) (l5_36.toInt)) + 0)) = 2 ∨ (aI (G.2.1 (F a 10)) (10 * (aI (G21.2.1 (F a 15)) (l5_36.toInt)) + 0)) = 4 ∨ (aI (G.2.1 (F a 10)) (10 * (aI (G21.2.1 (F a 15)) (l5_36.toInt)) + 0)) = 5) ∧ (sF (aI (G.2.1 (F a 10)) (10 * (aI (G21.2.1 (F a 15)) (l5_36.toInt)) + 0))) = 0 ∧ (sL (aI (G.2.1 (F a 10)) (10 * (aI (G21.2.1 (F a 15)) (l5_36.toInt)) + 0))) = 29) ∨ (¬ ((aI (G.2.1 (F a 10)) (10 * (aI (G21.2.1 (F a 15)) (l5_36.toInt)) + 0)) = 2 ∨ (aI (G.2.1 (F a 10)) (10 * (aI (G21.2.1 (F a 15)) (l5_36.toInt)) + 0)) = 4 ∨ (aI (G.2.1 (F a 10)) (10 * (aI (G21.2.1 (F a 15)) (l5_36.toInt)) + 0)) = 5) ∧ (sF (aI (G.2.1 (F a 10)) (10 * (aI (G21.2.1 (F a 15)) (l5_36.toInt)) + 0))) = -99 ∧ (sL (aI (G.2.1 (F a 10)) (10 * (aI (G21.2.1 (F a 15)) (l5_36.toInt)) + 0))) = 99))
    (I58_0 : (sF (aI (G.2.1 (F a 10)) (10 * (aI (G21.2.1 (F a 15)) (l5_36.toInt)) + 0))) ≤ l6_58.toInt ∧ l6_58.toInt ≤ (sL (aI (G.2.1 (F a 10)) (10 * (aI (G21.2.1 (F a 15)) (l5_36.toInt)) + 0))) + 1)
    (I58_1 : 0 ≤ l2_58.toInt ∧ l2_58.toInt ≤ 199 * l5_36.toInt + (l6_58.toInt - (sF (aI (G.2.1 (F a 10)) (10 * (aI (G21.2.1 (F a 15)) (l5_36.toInt)) + 0)))))
    (hm58 : 2147483648 - l6_58.toInt < (((N58) + 1 : Nat) : Int))
    (c71 : ¬ ((sL (aI (G.2.1 (F a 10)) (10 * (aI (G21.2.1 (F a 15)) (l5_36.toInt)) + 0))) < l6_58.toInt))
    (t89 : x89.toInt = (flq (mw (G.2.1 (F a 1)) 0) (aI (G.2.1 (F a 10)) (10 * (aI (G21.2.1 (F a 15)) (l5_36.toInt)) + 0)) (aI (G.2.1 (F a 10)) (10 * (aI (G21.2.1 (F a 15)) (l5_36.toInt)) + 1)) (aI (G.2.1 (F a 10)) (10 * (aI (G21.2.1 (F a 15)) (l5_36.toInt)) + 2)) (aI (G.2.1 (F a 10)) (10 * (aI (G21.2.1 (F a 15)) (l5_36.toInt)) + 4)) (aI (G.2.1 (F a 10)) (10 * (aI (G21.2.1 (F a 15)) (l5_36.toInt)) + 5)) (l6_58.toInt) (stt (mw (G.2.1 (F a 1)) 0) (aI (G.2.1 (F a 10)) (10 * (aI (G21.2.1 (F a 15)) (l5_36.toInt)) + 0)) (aI (G.2.1 (F a 10)) (10 * (aI (G21.2.1 (F a 15)) (l5_36.toInt)) + 1)) (aI (G.2.1 (F a 10)) (10 * (aI (G21.2.1 (F a 15)) (l5_36.toInt)) + 2)) (aI (G.2.1 (F a 10)) (10 * (aI (G21.2.1 (F a 15)) (l5_36.toInt)) + 3)) (l6_58.toInt))))
    (f36 : x89.toInt = 0 ∨ x89.toInt = 1)
    (c92 : ¬ (x89.toInt = 0))
    (c96 : l2_58.toInt ≠ 0) :
    TrA (l2_58.toInt + 1) l3_58.toInt l4_58.toInt (faL (G.2.1 (F a 10)) (mw (G.2.1 (F a 1)) 0) (ordN (prM (G.2.1 (F a 10))) (rkM (G.2.1 (F a 10))) 12).2 (l5_36.toInt).toNat ++ fap (G.2.1 (F a 10)) (mw (G.2.1 (F a 1)) 0) (aI (G21.2.1 (F a 15)) (l5_36.toInt)) (l6_58.toInt + 1)) := by
  have hz : fzq (G.2.1 (F a 10)) (mw (G.2.1 (F a 1)) 0) (aI (G21.2.1 (F a 15)) l5_36.toInt) l6_58.toInt = x89.toInt := t89.symm
  first
    | (rw [fap_n (by omega) (by omega)]
       exact pi)
    | (rw [fap_y (by omega) (by omega), ← List.append_assoc]
       first
         | (exfalso; omega)
         | exact TrA_n pi (by omega)
         | exact TrA_s pi (by omega) _)
theorem v_X11_all_130_11 {K : Nat → Nat} {F : Nat → Nat → Nat} (a : Nat) (G2 : XG) (G : XG) (G21 : XG) (l2_36 : Int32) (l3_36 : Int32) (l4_36 : Int32) (l5_36 : Int32) (l2_58 : Int32) (l3_58 : Int32) (l4_58 : Int32) (l6_58 : Int32) (x11 : Int32) (p0 : Int32) (N36 : Nat) (N58 : Nat) (x89 : Int32)
    (ha : K a = 13)
    (oq21a : G21.2.2.2 = G2.2.2.2)
    (pa : TrA l2_36.toInt l3_36.toInt l4_36.toInt (faL (G.2.1 (F a 10)) (mw (G.2.1 (F a 1)) 0) (ordN (prM (G.2.1 (F a 10))) (rkM (G.2.1 (F a 10))) 12).2 (l5_36.toInt).toNat))
    (pi : TrA l2_58.toInt l3_58.toInt l4_58.toInt (faL (G.2.1 (F a 10)) (mw (G.2.1 (F a 1)) 0) (ordN (prM (G.2.1 (F a 10))) (rkM (G.2.1 (F a 10))) 12).2 (l5_36.toInt).toNat ++ fap (G.2.1 (F a 10)) (mw (G.2.1 (F a 1)) 0) (aI (G21.2.1 (F a 15)) (l5_36.toInt)) l6_58.toInt))
    (t11 : (x11.toInt = 1 ∧ (0 : Int) ≤ p0.toInt ∧ p0.toInt ≤ (2 : Int)) ∨ (x11.toInt = 0 ∧ (p0.toInt < (0 : Int) ∨ (2 : Int) < p0.toInt)))
    (c14 : x11.toInt ≠ 0)
    (z24 : 0 ≤ ((G21.1 a 16).toInt) ∧ ((G21.1 a 16).toInt) ≤ 12)
    (I36_0 : 0 ≤ l5_36.toInt ∧ l5_36.toInt ≤ ((G21.1 a 16).toInt))
    (I36_1 : 0 ≤ l2_36.toInt ∧ l2_36.toInt ≤ 199 * l5_36.toInt)
    (hm36 : 100 - l5_36.toInt < (((N36) + 1 : Nat) : Int))
    (c42 : ¬ (((G21.1 a 16).toInt) ≤ l5_36.toInt))
    (z45 : 0 ≤ (aI (G21.2.1 (F a 15)) (l5_36.toInt)) ∧ (aI (G21.2.1 (F a 15)) (l5_36.toInt)) ≤ 11 ∧ (aI (G.2.1 (F a 10)) (10 * (aI (G21.2.1 (F a 15)) (l5_36.toInt)) + 0)) ≠ -1)
    (z45a : (((aI (G.2.1 (F a 10)) (10 * (aI (G21.2.1 (F a 15)) (l5_36.toInt)) + 0)) = 2 ∨ (aI (G.2.1 (F a 10)) (10 * (aI (G21.2.1 (F a 15)) (l5_36.toInt)) + 0)) = 4 ∨ (aI (G.2.1 (F a 10)) (10 * (aI (G21.2.1 (F a 15)) (l5_36.toInt)) + 0)) = 5) ∧ (sF (aI (G.2.1 (F a 10)) (10 * (aI (G21.2.1 (F a 15)) (l5_36.toInt)) + 0))) = 0 ∧ (sL (aI (G.2.1 (F a 10)) (10 * (aI (G21.2.1 (F a 15)) (l5_36.toInt)) + 0))) = 29) ∨ (¬ ((aI (G.2.1 (F a 10)) (10 * (aI (G21.2.1 (F a 15)) (l5_36.toInt)) + 0)) = 2 ∨ (aI (G.2.1 (F a 10)) (10 * (aI (G21.2.1 (F a 15)) (l5_36.toInt)) + 0)) = 4 ∨ (aI (G.2.1 (F a 10)) (10 * (aI (G21.2.1 (F a 15)) (l5_36.toInt)) + 0)) = 5) ∧ (sF (aI (G.2.1 (F a 10)) (10 * (aI (G21.2.1 (F a 15)) (l5_36.toInt)) + 0))) = -99 ∧ (sL (aI (G.2.1 (F a 10)) (10 * (aI (G21.2.1 (F a 15)) (l5_36.toInt)) + 0))) = 99))
    (I58_0 : (sF (aI (G.2.1 (F a 10)) (10 * (aI (G21.2.1 (F a 15)) (l5_36.toInt)) + 0))) ≤ l6_58.toInt ∧ l6_58.toInt ≤ (sL (aI (G.2.1 (F a 10)) (10 * (aI (G21.2.1 (F a 15)) (l5_36.toInt)) + 0))) + 1)
    (I58_1 : 0 ≤ l2_58.toInt ∧ l2_58.toInt ≤ 199 * l5_36.toInt + (l6_58.toInt - (sF (aI (G.2.1 (F a 10)) (10 * (aI (G21.2.1 (F a 15)) (l5_36.toInt)) + 0)))))
    (hm58 : 2147483648 - l6_58.toInt < (((N58) + 1 : Nat) : Int))
    (c71 : ¬ ((sL (aI (G.2.1 (F a 10)) (10 * (aI (G21.2.1 (F a 15)) (l5_36.toInt)) + 0))) < l6_58.toInt))
    (t89 : x89.toInt = (flq (mw (G.2.1 (F a 1)) 0) (aI (G.2.1 (F a 10)) (10 * (aI (G21.2.1 (F a 15)) (l5_36.toInt)) + 0)) (aI (G.2.1 (F a 10)) (10 * (aI (G21.2.1 (F a 15)) (l5_36.toInt)) + 1)) (aI (G.2.1 (F a 10)) (10 * (aI (G21.2.1 (F a 15)) (l5_36.toInt)) + 2)) (aI (G.2.1 (F a 10)) (10 * (aI (G21.2.1 (F a 15)) (l5_36.toInt)) + 4)) (aI (G.2.1 (F a 10)) (10 * (aI (G21.2.1 (F a 15)) (l5_36.toInt)) + 5)) (l6_58.toInt) (stt (mw (G.2.1 (F a 1)) 0) (aI (G.2.1 (F a 10)) (10 * (aI (G21.2.1 (F a 15)) (l5_36.toInt)) + 0)) (aI (G.2.1 (F a 10)) (10 * (aI (G21.2.1 (F a 15)) (l5_36.toInt)) + 1)) (aI (G.2.1 (F a 10)) (10 * (aI (G21.2.1 (F a 15)) (l5_36.toInt)) + 2)) (aI (G.2.1 (F a 10)) (10 * (aI (G21.2.1 (F a 15)) (l5_36.toInt)) + 3)) (l6_58.toInt))))
    (f36 : x89.toInt = 0 ∨ x89.toInt = 1)
    (c92 : ¬ (x89.toInt = 0))
    (c96 : l2_58.toInt ≠ 0)
    (c112 : ¬ (l2_58.toInt ≠ 0)) :
    TrA (l2_58.toInt + 1) l3_58.toInt l6_58.toInt (faL (G.2.1 (F a 10)) (mw (G.2.1 (F a 1)) 0) (ordN (prM (G.2.1 (F a 10))) (rkM (G.2.1 (F a 10))) 12).2 (l5_36.toInt).toNat ++ fap (G.2.1 (F a 10)) (mw (G.2.1 (F a 1)) 0) (aI (G21.2.1 (F a 15)) (l5_36.toInt)) (l6_58.toInt + 1)) := by
  have hz : fzq (G.2.1 (F a 10)) (mw (G.2.1 (F a 1)) 0) (aI (G21.2.1 (F a 15)) l5_36.toInt) l6_58.toInt = x89.toInt := t89.symm
  first
    | (rw [fap_n (by omega) (by omega)]
       exact pi)
    | (rw [fap_y (by omega) (by omega), ← List.append_assoc]
       first
         | (exfalso; omega)
         | exact TrA_n pi (by omega)
         | exact TrA_s pi (by omega) _)
theorem v_X11_all_130_12 {K : Nat → Nat} {F : Nat → Nat → Nat} (a : Nat) (G2 : XG) (G : XG) (G21 : XG) (l2_36 : Int32) (l3_36 : Int32) (l4_36 : Int32) (l5_36 : Int32) (l2_58 : Int32) (l3_58 : Int32) (l4_58 : Int32) (l6_58 : Int32) (x11 : Int32) (p0 : Int32) (N36 : Nat) (N58 : Nat) (x89 : Int32)
    (ha : K a = 13)
    (oq21a : G21.2.2.2 = G2.2.2.2)
    (pa : TrA l2_36.toInt l3_36.toInt l4_36.toInt (faL (G.2.1 (F a 10)) (mw (G.2.1 (F a 1)) 0) (ordN (prM (G.2.1 (F a 10))) (rkM (G.2.1 (F a 10))) 12).2 (l5_36.toInt).toNat))
    (pi : TrA l2_58.toInt l3_58.toInt l4_58.toInt (faL (G.2.1 (F a 10)) (mw (G.2.1 (F a 1)) 0) (ordN (prM (G.2.1 (F a 10))) (rkM (G.2.1 (F a 10))) 12).2 (l5_36.toInt).toNat ++ fap (G.2.1 (F a 10)) (mw (G.2.1 (F a 1)) 0) (aI (G21.2.1 (F a 15)) (l5_36.toInt)) l6_58.toInt))
    (t11 : (x11.toInt = 1 ∧ (0 : Int) ≤ p0.toInt ∧ p0.toInt ≤ (2 : Int)) ∨ (x11.toInt = 0 ∧ (p0.toInt < (0 : Int) ∨ (2 : Int) < p0.toInt)))
    (c14 : x11.toInt ≠ 0)
    (z24 : 0 ≤ ((G21.1 a 16).toInt) ∧ ((G21.1 a 16).toInt) ≤ 12)
    (I36_0 : 0 ≤ l5_36.toInt ∧ l5_36.toInt ≤ ((G21.1 a 16).toInt))
    (I36_1 : 0 ≤ l2_36.toInt ∧ l2_36.toInt ≤ 199 * l5_36.toInt)
    (hm36 : 100 - l5_36.toInt < (((N36) + 1 : Nat) : Int))
    (c42 : ¬ (((G21.1 a 16).toInt) ≤ l5_36.toInt))
    (z45 : 0 ≤ (aI (G21.2.1 (F a 15)) (l5_36.toInt)) ∧ (aI (G21.2.1 (F a 15)) (l5_36.toInt)) ≤ 11 ∧ (aI (G.2.1 (F a 10)) (10 * (aI (G21.2.1 (F a 15)) (l5_36.toInt)) + 0)) ≠ -1)
    (z45a : (((aI (G.2.1 (F a 10)) (10 * (aI (G21.2.1 (F a 15)) (l5_36.toInt)) + 0)) = 2 ∨ (aI (G.2.1 (F a 10)) (10 * (aI (G21.2.1 (F a 15)) (l5_36.toInt)) + 0)) = 4 ∨ (aI (G.2.1 (F a 10)) (10 * (aI (G21.2.1 (F a 15)) (l5_36.toInt)) + 0)) = 5) ∧ (sF (aI (G.2.1 (F a 10)) (10 * (aI (G21.2.1 (F a 15)) (l5_36.toInt)) + 0))) = 0 ∧ (sL (aI (G.2.1 (F a 10)) (10 * (aI (G21.2.1 (F a 15)) (l5_36.toInt)) + 0))) = 29) ∨ (¬ ((aI (G.2.1 (F a 10)) (10 * (aI (G21.2.1 (F a 15)) (l5_36.toInt)) + 0)) = 2 ∨ (aI (G.2.1 (F a 10)) (10 * (aI (G21.2.1 (F a 15)) (l5_36.toInt)) + 0)) = 4 ∨ (aI (G.2.1 (F a 10)) (10 * (aI (G21.2.1 (F a 15)) (l5_36.toInt)) + 0)) = 5) ∧ (sF (aI (G.2.1 (F a 10)) (10 * (aI (G21.2.1 (F a 15)) (l5_36.toInt)) + 0))) = -99 ∧ (sL (aI (G.2.1 (F a 10)) (10 * (aI (G21.2.1 (F a 15)) (l5_36.toInt)) + 0))) = 99))
    (I58_0 : (sF (aI (G.2.1 (F a 10)) (10 * (aI (G21.2.1 (F a 15)) (l5_36.toInt)) + 0))) ≤ l6_58.toInt ∧ l6_58.toInt ≤ (sL (aI (G.2.1 (F a 10)) (10 * (aI (G21.2.1 (F a 15)) (l5_36.toInt)) + 0))) + 1)
    (I58_1 : 0 ≤ l2_58.toInt ∧ l2_58.toInt ≤ 199 * l5_36.toInt + (l6_58.toInt - (sF (aI (G.2.1 (F a 10)) (10 * (aI (G21.2.1 (F a 15)) (l5_36.toInt)) + 0)))))
    (hm58 : 2147483648 - l6_58.toInt < (((N58) + 1 : Nat) : Int))
    (c71 : ¬ ((sL (aI (G.2.1 (F a 10)) (10 * (aI (G21.2.1 (F a 15)) (l5_36.toInt)) + 0))) < l6_58.toInt))
    (t89 : x89.toInt = (flq (mw (G.2.1 (F a 1)) 0) (aI (G.2.1 (F a 10)) (10 * (aI (G21.2.1 (F a 15)) (l5_36.toInt)) + 0)) (aI (G.2.1 (F a 10)) (10 * (aI (G21.2.1 (F a 15)) (l5_36.toInt)) + 1)) (aI (G.2.1 (F a 10)) (10 * (aI (G21.2.1 (F a 15)) (l5_36.toInt)) + 2)) (aI (G.2.1 (F a 10)) (10 * (aI (G21.2.1 (F a 15)) (l5_36.toInt)) + 4)) (aI (G.2.1 (F a 10)) (10 * (aI (G21.2.1 (F a 15)) (l5_36.toInt)) + 5)) (l6_58.toInt) (stt (mw (G.2.1 (F a 1)) 0) (aI (G.2.1 (F a 10)) (10 * (aI (G21.2.1 (F a 15)) (l5_36.toInt)) + 0)) (aI (G.2.1 (F a 10)) (10 * (aI (G21.2.1 (F a 15)) (l5_36.toInt)) + 1)) (aI (G.2.1 (F a 10)) (10 * (aI (G21.2.1 (F a 15)) (l5_36.toInt)) + 2)) (aI (G.2.1 (F a 10)) (10 * (aI (G21.2.1 (F a 15)) (l5_36.toInt)) + 3)) (l6_58.toInt))))
    (f37 : x89.toInt = 0 ∨ x89.toInt = 1)
    (c92 : ¬ (x89.toInt = 0))
    (c96 : ¬ (l2_58.toInt ≠ 0))
    (c112 : l2_58.toInt ≠ 0) :
    TrA (l2_58.toInt + 1) (aI (G21.2.1 (F a 15)) (l5_36.toInt)) l4_58.toInt (faL (G.2.1 (F a 10)) (mw (G.2.1 (F a 1)) 0) (ordN (prM (G.2.1 (F a 10))) (rkM (G.2.1 (F a 10))) 12).2 (l5_36.toInt).toNat ++ fap (G.2.1 (F a 10)) (mw (G.2.1 (F a 1)) 0) (aI (G21.2.1 (F a 15)) (l5_36.toInt)) (l6_58.toInt + 1)) := by
  have hz : fzq (G.2.1 (F a 10)) (mw (G.2.1 (F a 1)) 0) (aI (G21.2.1 (F a 15)) l5_36.toInt) l6_58.toInt = x89.toInt := t89.symm
  first
    | (rw [fap_n (by omega) (by omega)]
       exact pi)
    | (rw [fap_y (by omega) (by omega), ← List.append_assoc]
       first
         | (exfalso; omega)
         | exact TrA_n pi (by omega)
         | exact TrA_s pi (by omega) _)
theorem v_X11_all_130_13 {K : Nat → Nat} {F : Nat → Nat → Nat} (a : Nat) (G2 : XG) (G : XG) (G21 : XG) (l2_36 : Int32) (l3_36 : Int32) (l4_36 : Int32) (l5_36 : Int32) (l2_58 : Int32) (l3_58 : Int32) (l4_58 : Int32) (l6_58 : Int32) (x11 : Int32) (p0 : Int32) (N36 : Nat) (N58 : Nat) (x89 : Int32)
    (ha : K a = 13)
    (oq21a : G21.2.2.2 = G2.2.2.2)
    (pa : TrA l2_36.toInt l3_36.toInt l4_36.toInt (faL (G.2.1 (F a 10)) (mw (G.2.1 (F a 1)) 0) (ordN (prM (G.2.1 (F a 10))) (rkM (G.2.1 (F a 10))) 12).2 (l5_36.toInt).toNat))
    (pi : TrA l2_58.toInt l3_58.toInt l4_58.toInt (faL (G.2.1 (F a 10)) (mw (G.2.1 (F a 1)) 0) (ordN (prM (G.2.1 (F a 10))) (rkM (G.2.1 (F a 10))) 12).2 (l5_36.toInt).toNat ++ fap (G.2.1 (F a 10)) (mw (G.2.1 (F a 1)) 0) (aI (G21.2.1 (F a 15)) (l5_36.toInt)) l6_58.toInt))
    (t11 : (x11.toInt = 1 ∧ (0 : Int) ≤ p0.toInt ∧ p0.toInt ≤ (2 : Int)) ∨ (x11.toInt = 0 ∧ (p0.toInt < (0 : Int) ∨ (2 : Int) < p0.toInt)))
    (c14 : x11.toInt ≠ 0)
    (z24 : 0 ≤ ((G21.1 a 16).toInt) ∧ ((G21.1 a 16).toInt) ≤ 12)
    (I36_0 : 0 ≤ l5_36.toInt ∧ l5_36.toInt ≤ ((G21.1 a 16).toInt))
    (I36_1 : 0 ≤ l2_36.toInt ∧ l2_36.toInt ≤ 199 * l5_36.toInt)
    (hm36 : 100 - l5_36.toInt < (((N36) + 1 : Nat) : Int))
    (c42 : ¬ (((G21.1 a 16).toInt) ≤ l5_36.toInt))
    (z45 : 0 ≤ (aI (G21.2.1 (F a 15)) (l5_36.toInt)) ∧ (aI (G21.2.1 (F a 15)) (l5_36.toInt)) ≤ 11 ∧ (aI (G.2.1 (F a 10)) (10 * (aI (G21.2.1 (F a 15)) (l5_36.toInt)) + 0)) ≠ -1)
    (z45a : (((aI (G.2.1 (F a 10)) (10 * (aI (G21.2.1 (F a 15)) (l5_36.toInt)) + 0)) = 2 ∨ (aI (G.2.1 (F a 10)) (10 * (aI (G21.2.1 (F a 15)) (l5_36.toInt)) + 0)) = 4 ∨ (aI (G.2.1 (F a 10)) (10 * (aI (G21.2.1 (F a 15)) (l5_36.toInt)) + 0)) = 5) ∧ (sF (aI (G.2.1 (F a 10)) (10 * (aI (G21.2.1 (F a 15)) (l5_36.toInt)) + 0))) = 0 ∧ (sL (aI (G.2.1 (F a 10)) (10 * (aI (G21.2.1 (F a 15)) (l5_36.toInt)) + 0))) = 29) ∨ (¬ ((aI (G.2.1 (F a 10)) (10 * (aI (G21.2.1 (F a 15)) (l5_36.toInt)) + 0)) = 2 ∨ (aI (G.2.1 (F a 10)) (10 * (aI (G21.2.1 (F a 15)) (l5_36.toInt)) + 0)) = 4 ∨ (aI (G.2.1 (F a 10)) (10 * (aI (G21.2.1 (F a 15)) (l5_36.toInt)) + 0)) = 5) ∧ (sF (aI (G.2.1 (F a 10)) (10 * (aI (G21.2.1 (F a 15)) (l5_36.toInt)) + 0))) = -99 ∧ (sL (aI (G.2.1 (F a 10)) (10 * (aI (G21.2.1 (F a 15)) (l5_36.toInt)) + 0))) = 99))
    (I58_0 : (sF (aI (G.2.1 (F a 10)) (10 * (aI (G21.2.1 (F a 15)) (l5_36.toInt)) + 0))) ≤ l6_58.toInt ∧ l6_58.toInt ≤ (sL (aI (G.2.1 (F a 10)) (10 * (aI (G21.2.1 (F a 15)) (l5_36.toInt)) + 0))) + 1)
    (I58_1 : 0 ≤ l2_58.toInt ∧ l2_58.toInt ≤ 199 * l5_36.toInt + (l6_58.toInt - (sF (aI (G.2.1 (F a 10)) (10 * (aI (G21.2.1 (F a 15)) (l5_36.toInt)) + 0)))))
    (hm58 : 2147483648 - l6_58.toInt < (((N58) + 1 : Nat) : Int))
    (c71 : ¬ ((sL (aI (G.2.1 (F a 10)) (10 * (aI (G21.2.1 (F a 15)) (l5_36.toInt)) + 0))) < l6_58.toInt))
    (t89 : x89.toInt = (flq (mw (G.2.1 (F a 1)) 0) (aI (G.2.1 (F a 10)) (10 * (aI (G21.2.1 (F a 15)) (l5_36.toInt)) + 0)) (aI (G.2.1 (F a 10)) (10 * (aI (G21.2.1 (F a 15)) (l5_36.toInt)) + 1)) (aI (G.2.1 (F a 10)) (10 * (aI (G21.2.1 (F a 15)) (l5_36.toInt)) + 2)) (aI (G.2.1 (F a 10)) (10 * (aI (G21.2.1 (F a 15)) (l5_36.toInt)) + 4)) (aI (G.2.1 (F a 10)) (10 * (aI (G21.2.1 (F a 15)) (l5_36.toInt)) + 5)) (l6_58.toInt) (stt (mw (G.2.1 (F a 1)) 0) (aI (G.2.1 (F a 10)) (10 * (aI (G21.2.1 (F a 15)) (l5_36.toInt)) + 0)) (aI (G.2.1 (F a 10)) (10 * (aI (G21.2.1 (F a 15)) (l5_36.toInt)) + 1)) (aI (G.2.1 (F a 10)) (10 * (aI (G21.2.1 (F a 15)) (l5_36.toInt)) + 2)) (aI (G.2.1 (F a 10)) (10 * (aI (G21.2.1 (F a 15)) (l5_36.toInt)) + 3)) (l6_58.toInt))))
    (f37 : x89.toInt = 0 ∨ x89.toInt = 1)
    (c92 : ¬ (x89.toInt = 0))
    (c96 : ¬ (l2_58.toInt ≠ 0)) :
    TrA (l2_58.toInt + 1) (aI (G21.2.1 (F a 15)) (l5_36.toInt)) l6_58.toInt (faL (G.2.1 (F a 10)) (mw (G.2.1 (F a 1)) 0) (ordN (prM (G.2.1 (F a 10))) (rkM (G.2.1 (F a 10))) 12).2 (l5_36.toInt).toNat ++ fap (G.2.1 (F a 10)) (mw (G.2.1 (F a 1)) 0) (aI (G21.2.1 (F a 15)) (l5_36.toInt)) (l6_58.toInt + 1)) := by
  have hz : fzq (G.2.1 (F a 10)) (mw (G.2.1 (F a 1)) 0) (aI (G21.2.1 (F a 15)) l5_36.toInt) l6_58.toInt = x89.toInt := t89.symm
  first
    | (rw [fap_n (by omega) (by omega)]
       exact pi)
    | (rw [fap_y (by omega) (by omega), ← List.append_assoc]
       first
         | (exfalso; omega)
         | exact TrA_n pi (by omega)
         | exact TrA_s pi (by omega) _)
theorem v_X11_all_56_14 {F : Nat → Nat → Nat} (a : Nat) (G : XG) (G21 : XG) (l2_36 : Int32) (l3_36 : Int32) (l4_36 : Int32) (l5_36 : Int32)
    (pa : TrA l2_36.toInt l3_36.toInt l4_36.toInt (faL (G.2.1 (F a 10)) (mw (G.2.1 (F a 1)) 0) (ordN (prM (G.2.1 (F a 10))) (rkM (G.2.1 (F a 10))) 12).2 (l5_36.toInt).toNat)) :
    TrA l2_36.toInt l3_36.toInt l4_36.toInt (faL (G.2.1 (F a 10)) (mw (G.2.1 (F a 1)) 0) (ordN (prM (G.2.1 (F a 10))) (rkM (G.2.1 (F a 10))) 12).2 (l5_36.toInt).toNat ++ fap (G.2.1 (F a 10)) (mw (G.2.1 (F a 1)) 0) (aI (G21.2.1 (F a 15)) (l5_36.toInt)) (sF (aI (G.2.1 (F a 10)) (10 * (aI (G21.2.1 (F a 15)) (l5_36.toInt)) + 0)))) := by
  rw [fap_0 rfl, List.append_nil]
  exact pa
theorem v_X11_all_34_15 {F : Nat → Nat → Nat} (a : Nat) (G : XG) :
    TrA (0 : Int) (-2147483648 : Int) (-2147483648 : Int) (faL (G.2.1 (F a 10)) (mw (G.2.1 (F a 1)) 0) (ordN (prM (G.2.1 (F a 10))) (rkM (G.2.1 (F a 10))) 12).2 (0 : Int).toNat) := by
  show TrA 0 (-2147483648) (-2147483648) (faL _ _ _ 0)
  exact TrA_0
theorem v_X11_all_19_16 {K : Nat → Nat} {F : Nat → Nat → Nat} (a : Nat) (G : XG) (x11 : Int32) (p0 : Int32)
    (ha : K a = 13)
    (t11 : (x11.toInt = 1 ∧ (0 : Int) ≤ p0.toInt ∧ p0.toInt ≤ (2 : Int)) ∨ (x11.toInt = 0 ∧ (p0.toInt < (0 : Int) ∨ (2 : Int) < p0.toInt)))
    (c14 : ¬ (x11.toInt ≠ 0)) :
    (¬ (0 ≤ p0.toInt ∧ p0.toInt ≤ 2) ∧ (-2147483648 : Int) = -2147483648) ∨ ((0 ≤ p0.toInt ∧ p0.toInt ≤ 2) ∧ (-2147483648 : Int) = alS p0.toInt (faO (G.2.1 (F a 10)) (mw (G.2.1 (F a 1)) 0))) := by
  exact Or.inl ⟨by omega, rfl⟩
