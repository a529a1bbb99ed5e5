theorem v_X11_wouldTell_1_1 {F : Nat → Nat → Nat} (a : Nat) (G : XG)
    (hR : RV (G.2.1 (F a 10))) :
    RV (G.2.1 (F a 10)) := by exact hR
theorem v_X11_wouldTell_1_2 {F : Nat → Nat → Nat} (a : Nat) (G : XG)
    (hM : RM (G.2.1 (F a 1)) (0)) :
    RM (G.2.1 (F a 1)) (0) := by exact hM
theorem v_X11_wouldTell_1_3 {F : Nat → Nat → Nat} (a : Nat) (G : XG) (r1 : Int → Int)
    (h1 : LSt (G.2.1 (F a 10)) (G.2.1 (F a 12)) r1 12) :
    LSt (G.2.1 (F a 10)) (G.2.1 (F a 12)) r1 12 := by exact h1
theorem v_X11_wouldTell_49_4 {K : Nat → Nat} {F : Nat → Nat → Nat} (a : Nat) (G : XG) (G1 : XG) (r1 : Int → Int) (x1 : Int32)
    (ha : K a = 13)
    (hk9999 : K (F a 15) = 42)
    (hj9999 : F (F a 15) 99 = 15)
    (hk9999a : K (F a 17) = 43)
    (hj9999a : F (F a 17) 99 = 17)
    (hk9999b : K (F a 18) = 44)
    (hj9999b : F (F a 18) 99 = 18)
    (hk9999c : K (F a 11) = 38)
    (hj9999c : F (F a 11) 99 = 11)
    (hk9999d : K (F a 1) = 30)
    (hj9999d : F (F a 1) 99 = 1)
    (hk9999e : K (F a 4) = 31)
    (hj9999e : F (F a 4) 99 = 4)
    (hk9999f : K (F a 10) = 37)
    (hj9999f : F (F a 10) 99 = 10)
    (hk9999g : K (F a 12) = 38)
    (hj9999g : F (F a 12) 99 = 12)
    (hF1 : XFr [(a, 16), (a, 19), (a, 45), (a, 46)] [F a 15, F a 17, F a 18, F a 11] [] G G1)
    (hR : RV (G.2.1 (F a 10)))
    (hM : RM (G.2.1 (F a 1)) (0))
    (hA : RM (G.2.1 (F a 4)) 0)
    (h1 : LSt (G.2.1 (F a 10)) (G.2.1 (F a 12)) r1 12)
    (oq1 : ((G1.1 a 45).toInt) = (((fuO (G.2.1 (F a 10)) r1 (mw (G.2.1 (F a 1)) 0) 2).length : Nat) : Int))
    (oq1a : pL G1 F a = fuO (G.2.1 (F a 10)) r1 (mw (G.2.1 (F a 1)) 0) 0)
    (oq1b : x1.toInt = ffP (G.2.1 (F a 10)) (mw (G.2.1 (F a 1)) 0) (fuO (G.2.1 (F a 10)) r1 (mw (G.2.1 (F a 1)) 0) 0))
    (oq1c : ((G1.1 a 46).toInt) = x1.toInt)
    (oq1d : LSt (G.2.1 (F a 10)) (G1.2.1 (F a 11)) (mw (G.2.1 (F a 1)) 0) 12)
    (oq1e : 0 ≤ ((G1.1 a 19).toInt) ∧ ((G1.1 a 19).toInt) ≤ 2388 ∧ -1 ≤ x1.toInt ∧ x1.toInt < ((G1.1 a 19).toInt))
    (c5 : x1.toInt = (-1 : Int))
    (f29 : ((G.1 a 6).toInt) = 0 ∨ ((G.1 a 6).toInt) = 1)
    (c17 : ((G.1 a 6).toInt) ≠ 0)
    (c_G1_F_a_1 : G1.2.1 (F a 1) = G.2.1 (F a 1))
    (c_G1_F_a_4 : G1.2.1 (F a 4) = G.2.1 (F a 4)) :
    (F a 4) ≠ (F a 1) := by
  intro e
  have h1 : K (F a 1) = 30 := by assumption
  have h2 : K (F a 4) = 31 := by assumption
  rw [← e, h2] at h1
  exact absurd h1 (by decide)
theorem v_X11_wouldTell_53_5 {K : Nat → Nat} {F : Nat → Nat → Nat} (a : Nat) (G : XG) (G1 : XG) (r1 : Int → Int) (x1 : Int32)
    (ha : K a = 13)
    (oq1 : ((G1.1 a 45).toInt) = (((fuO (G.2.1 (F a 10)) r1 (mw (G.2.1 (F a 1)) 0) 2).length : Nat) : Int))
    (oq1b : x1.toInt = ffP (G.2.1 (F a 10)) (mw (G.2.1 (F a 1)) 0) (fuO (G.2.1 (F a 10)) r1 (mw (G.2.1 (F a 1)) 0) 0))
    (oq1c : ((G1.1 a 46).toInt) = x1.toInt)
    (oq1e : 0 ≤ ((G1.1 a 19).toInt) ∧ ((G1.1 a 19).toInt) ≤ 2388 ∧ -1 ≤ x1.toInt ∧ x1.toInt < ((G1.1 a 19).toInt))
    (c5 : x1.toInt = (-1 : Int))
    (f31 : ((G.1 a 6).toInt) = 0 ∨ ((G.1 a 6).toInt) = 1)
    (c17 : ((G.1 a 6).toInt) ≠ 0) :
    AnsM ((G.1 a 6).toInt) ((G1.1 a 45).toInt) (G.2.1 (F a 10)) r1 (mw (G.2.1 (F a 1)) 0) := by
  unfold AnsM
  first
    | exact Or.inl ⟨Or.inl (by rw [← oq1b]; omega), rfl⟩
    | (rw [oq22] at oq22a; exact Or.inl ⟨Or.inr ⟨by omega, by rw [← oq22a]; omega⟩, rfl⟩)
    | exact Or.inr ⟨by rw [← oq1b]; omega, fun h => absurd h (by omega), oq1⟩
    | (rw [oq22] at oq22a; exact Or.inr ⟨by rw [← oq1b]; omega, fun h => by rw [← oq22a]; omega, oq1⟩)
theorem v_X11_wouldTell_53_6 {F : Nat → Nat → Nat} (a : Nat) (G : XG) (G1 : XG) (G49 : XG)
    (oq49 : CPd (G1.2.1 (F a 4)) (G1.2.1 (F a 1)) (G49.2.1 (F a 1)) (0 : Int) (0 : Int) 360)
    (c_G1_F_a_4 : G1.2.1 (F a 4) = G.2.1 (F a 4)) :
    mw (G49.2.1 (F a 1)) 0 = mw (G.2.1 (F a 4)) 0 := by
  first
    | (rw [← c_G1_F_a_4]; exact CPd.vwm oq49 (by decide))
    | (rw [← c_G22_F_a_4]; exact CPd.vwm oq49 (by decide))
theorem v_X11_wouldTell_53_7 {F : Nat → Nat → Nat} (a : Nat) (G : XG) (G1 : XG) (G49 : XG)
    (hA : RM (G.2.1 (F a 4)) 0)
    (oq49 : CPd (G1.2.1 (F a 4)) (G1.2.1 (F a 1)) (G49.2.1 (F a 1)) (0 : Int) (0 : Int) 360)
    (c_G1_F_a_4 : G1.2.1 (F a 4) = G.2.1 (F a 4)) :
    RM (G49.2.1 (F a 1)) 0 := by
  first
    | exact CPd.rm oq49 (by decide) (by rw [c_G1_F_a_4]; exact hA)
    | exact CPd.rm oq49 (by decide) (by rw [c_G22_F_a_4]; exact hA)
theorem v_X11_wouldTell_22_8 {F : Nat → Nat → Nat} (a : Nat) (G : XG) (G1 : XG)
    (hR : RV (G.2.1 (F a 10)))
    (c_G1_F_a_10 : G1.2.1 (F a 10) = G.2.1 (F a 10)) :
    RV (G1.2.1 (F a 10)) := by simp only [c_G1_F_a_10]; assumption
theorem v_X11_wouldTell_22_9 {F : Nat → Nat → Nat} (a : Nat) (G : XG) (G1 : XG)
    (hM : RM (G.2.1 (F a 1)) (0))
    (hA : RM (G.2.1 (F a 4)) 0)
    (c_G1_F_a_1 : G1.2.1 (F a 1) = G.2.1 (F a 1)) :
    RM (G1.2.1 (F a 1)) (0) := by simp only [c_G1_F_a_1]; assumption
theorem v_X11_wouldTell_22_10 {F : Nat → Nat → Nat} (a : Nat) (G : XG) (G1 : XG) (r1 : Int → Int)
    (h1 : LSt (G.2.1 (F a 10)) (G.2.1 (F a 12)) r1 12)
    (oq1d : LSt (G.2.1 (F a 10)) (G1.2.1 (F a 11)) (mw (G.2.1 (F a 1)) 0) 12)
    (c_G1_F_a_10 : G1.2.1 (F a 10) = G.2.1 (F a 10))
    (c_G1_F_a_12 : G1.2.1 (F a 12) = G.2.1 (F a 12)) :
    LSt (G1.2.1 (F a 10)) (G1.2.1 (F a 12)) r1 12 := by simp only [c_G1_F_a_10, c_G1_F_a_12]; assumption
theorem v_X11_wouldTell_22_11 {F : Nat → Nat → Nat} (G : XG) (a : Nat) (G1 : XG)
    (oq1d : LSt (G.2.1 (F a 10)) (G1.2.1 (F a 11)) (mw (G.2.1 (F a 1)) 0) 12)
    (c_G1_F_a_1 : G1.2.1 (F a 1) = G.2.1 (F a 1))
    (c_G1_F_a_10 : G1.2.1 (F a 10) = G.2.1 (F a 10)) :
    LSt (G1.2.1 (F a 10)) (G1.2.1 (F a 11)) (mw (G1.2.1 (F a 1)) 0) 12 := by
  (try rw [c_G1_F_a_10])
  (try rw [c_G1_F_a_1])
  exact oq1d
theorem v_X11_wouldTell_49_12 {K : Nat → Nat} {F : Nat → Nat → Nat} (a : Nat) (G : XG) (G1 : XG) (G22 : XG) (r1 : Int → Int) (x1 : Int32) (x22 : Int32)
    (ha : K a = 13)
    (hk9999 : K (F a 15) = 42)
    (hj9999 : F (F a 15) 99 = 15)
    (hk9999a : K (F a 17) = 43)
    (hj9999a : F (F a 17) 99 = 17)
    (hk9999b : K (F a 18) = 44)
    (hj9999b : F (F a 18) 99 = 18)
    (hk9999c : K (F a 11) = 38)
    (hj9999c : F (F a 11) 99 = 11)
    (hk9999d : K (F a 1) = 30)
    (hj9999d : F (F a 1) 99 = 1)
    (hk9999e : K (F a 4) = 31)
    (hj9999e : F (F a 4) 99 = 4)
    (hk9999f : K (F a 10) = 37)
    (hj9999f : F (F a 10) 99 = 10)
    (hk9999g : K (F a 12) = 38)
    (hj9999g : F (F a 12) 99 = 12)
    (hF1 : XFr [(a, 16), (a, 19), (a, 45), (a, 46)] [F a 15, F a 17, F a 18, F a 11] [] G G1)
    (hF22 : XFr [(a, 16), (a, 19)] [F a 15, F a 17, F a 18] [] G1 G22)
    (hR : RV (G.2.1 (F a 10)))
    (hM : RM (G.2.1 (F a 1)) (0))
    (hA : RM (G.2.1 (F a 4)) 0)
    (h1 : LSt (G.2.1 (F a 10)) (G.2.1 (F a 12)) r1 12)
    (oq1 : ((G1.1 a 45).toInt) = (((fuO (G.2.1 (F a 10)) r1 (mw (G.2.1 (F a 1)) 0) 2).length : Nat) : Int))
    (oq1a : pL G1 F a = fuO (G.2.1 (F a 10)) r1 (mw (G.2.1 (F a 1)) 0) 0)
    (oq1b : x1.toInt = ffP (G.2.1 (F a 10)) (mw (G.2.1 (F a 1)) 0) (fuO (G.2.1 (F a 10)) r1 (mw (G.2.1 (F a 1)) 0) 0))
    (oq1c : ((G1.1 a 46).toInt) = x1.toInt)
    (oq1d : LSt (G.2.1 (F a 10)) (G1.2.1 (F a 11)) (mw (G.2.1 (F a 1)) 0) 12)
    (oq1e : 0 ≤ ((G1.1 a 19).toInt) ∧ ((G1.1 a 19).toInt) ≤ 2388 ∧ -1 ≤ x1.toInt ∧ x1.toInt < ((G1.1 a 19).toInt))
    (oq22 : pL G22 F a = fuO (G.2.1 (F a 10)) r1 (mw (G.2.1 (F a 1)) 0) (1 : Int))
    (oq22a : x22.toInt = ffP (G.2.1 (F a 10)) (mw (G.2.1 (F a 1)) 0) (pL G22 F a))
    (oq22b : 0 ≤ ((G22.1 a 19).toInt) ∧ ((G22.1 a 19).toInt) ≤ 2388 ∧ x22.toInt < ((G22.1 a 19).toInt))
    (c5 : x1.toInt = (-1 : Int))
    (f33 : ((G.1 a 6).toInt) = 0 ∨ ((G.1 a 6).toInt) = 1)
    (c17 : ¬ (((G.1 a 6).toInt) ≠ 0))
    (t22 : -1 ≤ x22.toInt)
    (c26 : x22.toInt = (-1 : Int))
    (c_G1_F_a_4 : G1.2.1 (F a 4) = G.2.1 (F a 4))
    (c_G22_F_a_1 : G22.2.1 (F a 1) = G.2.1 (F a 1))
    (c_G22_F_a_11 : G22.2.1 (F a 11) = G1.2.1 (F a 11))
    (c_G22_F_a_4 : G22.2.1 (F a 4) = G.2.1 (F a 4))
    (d_G22_a_45 : G22.1 a 45 = G1.1 a 45)
    (d_G22_a_46 : G22.1 a 46 = G1.1 a 46) :
    (F a 4) ≠ (F a 1) := by
  intro e
  have h1 : K (F a 1) = 30 := by assumption
  have h2 : K (F a 4) = 31 := by assumption
  rw [← e, h2] at h1
  exact absurd h1 (by decide)
theorem v_X11_wouldTell_53_13 {K : Nat → Nat} {F : Nat → Nat → Nat} (a : Nat) (G : XG) (G1 : XG) (G22 : XG) (r1 : Int → Int) (x1 : Int32) (x22 : Int32)
    (ha : K a = 13)
    (oq1 : ((G1.1 a 45).toInt) = (((fuO (G.2.1 (F a 10)) r1 (mw (G.2.1 (F a 1)) 0) 2).length : Nat) : Int))
    (oq1b : x1.toInt = ffP (G.2.1 (F a 10)) (mw (G.2.1 (F a 1)) 0) (fuO (G.2.1 (F a 10)) r1 (mw (G.2.1 (F a 1)) 0) 0))
    (oq1c : ((G1.1 a 46).toInt) = x1.toInt)
    (oq1e : 0 ≤ ((G1.1 a 19).toInt) ∧ ((G1.1 a 19).toInt) ≤ 2388 ∧ -1 ≤ x1.toInt ∧ x1.toInt < ((G1.1 a 19).toInt))
    (oq22 : pL G22 F a = fuO (G.2.1 (F a 10)) r1 (mw (G.2.1 (F a 1)) 0) (1 : Int))
    (oq22a : x22.toInt = ffP (G.2.1 (F a 10)) (mw (G.2.1 (F a 1)) 0) (pL G22 F a))
    (oq22b : 0 ≤ ((G22.1 a 19).toInt) ∧ ((G22.1 a 19).toInt) ≤ 2388 ∧ x22.toInt < ((G22.1 a 19).toInt))
    (c5 : x1.toInt = (-1 : Int))
    (f35 : ((G.1 a 6).toInt) = 0 ∨ ((G.1 a 6).toInt) = 1)
    (c17 : ¬ (((G.1 a 6).toInt) ≠ 0))
    (t22 : -1 ≤ x22.toInt)
    (c26 : x22.toInt = (-1 : Int)) :
    AnsM ((G.1 a 6).toInt) ((G1.1 a 45).toInt) (G.2.1 (F a 10)) r1 (mw (G.2.1 (F a 1)) 0) := by
  unfold AnsM
  first
    | exact Or.inl ⟨Or.inl (by rw [← oq1b]; omega), rfl⟩
    | (rw [oq22] at oq22a; exact Or.inl ⟨Or.inr ⟨by omega, by rw [← oq22a]; omega⟩, rfl⟩)
    | exact Or.inr ⟨by rw [← oq1b]; omega, fun h => absurd h (by omega), oq1⟩
    | (rw [oq22] at oq22a; exact Or.inr ⟨by rw [← oq1b]; omega, fun h => by rw [← oq22a]; omega, oq1⟩)
theorem v_X11_wouldTell_53_14 {F : Nat → Nat → Nat} (a : Nat) (G : XG) (G1 : XG) (G22 : XG) (G49 : XG)
    (oq49 : CPd (G22.2.1 (F a 4)) (G22.2.1 (F a 1)) (G49.2.1 (F a 1)) (0 : Int) (0 : Int) 360)
    (c_G1_F_a_4 : G1.2.1 (F a 4) = G.2.1 (F a 4))
    (c_G22_F_a_4 : G22.2.1 (F a 4) = G.2.1 (F a 4)) :
    mw (G49.2.1 (F a 1)) 0 = mw (G.2.1 (F a 4)) 0 := by
  first
    | (rw [← c_G1_F_a_4]; exact CPd.vwm oq49 (by decide))
    | (rw [← c_G22_F_a_4]; exact CPd.vwm oq49 (by decide))
theorem v_X11_wouldTell_53_15 {F : Nat → Nat → Nat} (a : Nat) (G : XG) (G1 : XG) (G22 : XG) (G49 : XG)
    (hA : RM (G.2.1 (F a 4)) 0)
    (oq49 : CPd (G22.2.1 (F a 4)) (G22.2.1 (F a 1)) (G49.2.1 (F a 1)) (0 : Int) (0 : Int) 360)
    (c_G1_F_a_4 : G1.2.1 (F a 4) = G.2.1 (F a 4))
    (c_G22_F_a_4 : G22.2.1 (F a 4) = G.2.1 (F a 4)) :
    RM (G49.2.1 (F a 1)) 0 := by
  first
    | exact CPd.rm oq49 (by decide) (by rw [c_G1_F_a_4]; exact hA)
    | exact CPd.rm oq49 (by decide) (by rw [c_G22_F_a_4]; exact hA)
theorem v_X11_wouldTell_49_16 {K : Nat → Nat} {F : Nat → Nat → Nat} (a : Nat) (G : XG) (G1 : XG) (G22 : XG) (r1 : Int → Int) (x1 : Int32) (x22 : Int32)
    (ha : K a = 13)
    (hk9999 : K (F a 15) = 42)
    (hj9999 : F (F a 15) 99 = 15)
    (hk9999a : K (F a 17) = 43)
    (hj9999a : F (F a 17) 99 = 17)
    (hk9999b : K (F a 18) = 44)
    (hj9999b : F (F a 18) 99 = 18)
    (hk9999c : K (F a 11) = 38)
    (hj9999c : F (F a 11) 99 = 11)
    (hk9999d : K (F a 1) = 30)
    (hj9999d : F (F a 1) 99 = 1)
    (hk9999e : K (F a 4) = 31)
    (hj9999e : F (F a 4) 99 = 4)
    (hk9999f : K (F a 10) = 37)
    (hj9999f : F (F a 10) 99 = 10)
    (hk9999g : K (F a 12) = 38)
    (hj9999g : F (F a 12) 99 = 12)
    (hF1 : XFr [(a, 16), (a, 19), (a, 45), (a, 46)] [F a 15, F a 17, F a 18, F a 11] [] G G1)
    (hF22 : XFr [(a, 16), (a, 19)] [F a 15, F a 17, F a 18] [] G1 G22)
    (hR : RV (G.2.1 (F a 10)))
    (hM : RM (G.2.1 (F a 1)) (0))
    (hA : RM (G.2.1 (F a 4)) 0)
    (h1 : LSt (G.2.1 (F a 10)) (G.2.1 (F a 12)) r1 12)
    (oq1 : ((G1.1 a 45).toInt) = (((fuO (G.2.1 (F a 10)) r1 (mw (G.2.1 (F a 1)) 0) 2).length : Nat) : Int))
    (oq1a : pL G1 F a = fuO (G.2.1 (F a 10)) r1 (mw (G.2.1 (F a 1)) 0) 0)
    (oq1b : x1.toInt = ffP (G.2.1 (F a 10)) (mw (G.2.1 (F a 1)) 0) (fuO (G.2.1 (F a 10)) r1 (mw (G.2.1 (F a 1)) 0) 0))
    (oq1c : ((G1.1 a 46).toInt) = x1.toInt)
    (oq1d : LSt (G.2.1 (F a 10)) (G1.2.1 (F a 11)) (mw (G.2.1 (F a 1)) 0) 12)
    (oq1e : 0 ≤ ((G1.1 a 19).toInt) ∧ ((G1.1 a 19).toInt) ≤ 2388 ∧ -1 ≤ x1.toInt ∧ x1.toInt < ((G1.1 a 19).toInt))
    (oq22 : pL G22 F a = fuO (G.2.1 (F a 10)) r1 (mw (G.2.1 (F a 1)) 0) (1 : Int))
    (oq22a : x22.toInt = ffP (G.2.1 (F a 10)) (mw (G.2.1 (F a 1)) 0) (pL G22 F a))
    (oq22b : 0 ≤ ((G22.1 a 19).toInt) ∧ ((G22.1 a 19).toInt) ≤ 2388 ∧ x22.toInt < ((G22.1 a 19).toInt))
    (c5 : x1.toInt = (-1 : Int))
    (f33 : ((G.1 a 6).toInt) = 0 ∨ ((G.1 a 6).toInt) = 1)
    (c17 : ¬ (((G.1 a 6).toInt) ≠ 0))
    (t22 : -1 ≤ x22.toInt)
    (c26 : ¬ (x22.toInt = (-1 : Int)))
    (c_G1_F_a_4 : G1.2.1 (F a 4) = G.2.1 (F a 4))
    (c_G22_F_a_1 : G22.2.1 (F a 1) = G.2.1 (F a 1))
    (c_G22_F_a_11 : G22.2.1 (F a 11) = G1.2.1 (F a 11))
    (c_G22_F_a_4 : G22.2.1 (F a 4) = G.2.1 (F a 4))
    (d_G22_a_45 : G22.1 a 45 = G1.1 a 45)
    (d_G22_a_46 : G22.1 a 46 = G1.1 a 46) :
    (F a 4) ≠ (F a 1) := by
  intro e
  have h1 : K (F a 1) = 30 := by assumption
  have h2 : K (F a 4) = 31 := by assumption
  rw [← e, h2] at h1
  exact absurd h1 (by decide)
theorem v_X11_wouldTell_53_17 {K : Nat → Nat} {F : Nat → Nat → Nat} (a : Nat) (G : XG) (G1 : XG) (G22 : XG) (r1 : Int → Int) (x1 : Int32) (x22 : Int32)
    (ha : K a = 13)
    (oq1 : ((G1.1 a 45).toInt) = (((fuO (G.2.1 (F a 10)) r1 (mw (G.2.1 (F a 1)) 0) 2).length : Nat) : Int))
    (oq1b : x1.toInt = ffP (G.2.1 (F a 10)) (mw (G.2.1 (F a 1)) 0) (fuO (G.2.1 (F a 10)) r1 (mw (G.2.1 (F a 1)) 0) 0))
    (oq1c : ((G1.1 a 46).toInt) = x1.toInt)
    (oq1e : 0 ≤ ((G1.1 a 19).toInt) ∧ ((G1.1 a 19).toInt) ≤ 2388 ∧ -1 ≤ x1.toInt ∧ x1.toInt < ((G1.1 a 19).toInt))
    (oq22 : pL G22 F a = fuO (G.2.1 (F a 10)) r1 (mw (G.2.1 (F a 1)) 0) (1 : Int))
    (oq22a : x22.toInt = ffP (G.2.1 (F a 10)) (mw (G.2.1 (F a 1)) 0) (pL G22 F a))
    (oq22b : 0 ≤ ((G22.1 a 19).toInt) ∧ ((G22.1 a 19).toInt) ≤ 2388 ∧ x22.toInt < ((G22.1 a 19).toInt))
    (c5 : x1.toInt = (-1 : Int))
    (f35 : ((G.1 a 6).toInt) = 0 ∨ ((G.1 a 6).toInt) = 1)
    (c17 : ¬ (((G.1 a 6).toInt) ≠ 0))
    (t22 : -1 ≤ x22.toInt)
    (c26 : ¬ (x22.toInt = (-1 : Int))) :
    AnsM ((G.1 a 6).toInt) (-5 : Int) (G.2.1 (F a 10)) r1 (mw (G.2.1 (F a 1)) 0) := by
  unfold AnsM
  first
    | exact Or.inl ⟨Or.inl (by rw [← oq1b]; omega), rfl⟩
    | (rw [oq22] at oq22a; exact Or.inl ⟨Or.inr ⟨by omega, by rw [← oq22a]; omega⟩, rfl⟩)
    | exact Or.inr ⟨by rw [← oq1b]; omega, fun h => absurd h (by omega), oq1⟩
    | (rw [oq22] at oq22a; exact Or.inr ⟨by rw [← oq1b]; omega, fun h => by rw [← oq22a]; omega, oq1⟩)
theorem v_X11_wouldTell_53_18 {F : Nat → Nat → Nat} (a : Nat) (G : XG) (G1 : XG) (G22 : XG) (G49 : XG)
    (oq49 : CPd (G22.2.1 (F a 4)) (G22.2.1 (F a 1)) (G49.2.1 (F a 1)) (0 : Int) (0 : Int) 360)
    (c_G1_F_a_4 : G1.2.1 (F a 4) = G.2.1 (F a 4))
    (c_G22_F_a_4 : G22.2.1 (F a 4) = G.2.1 (F a 4)) :
    mw (G49.2.1 (F a 1)) 0 = mw (G.2.1 (F a 4)) 0 := by
  first
    | (rw [← c_G1_F_a_4]; exact CPd.vwm oq49 (by decide))
    | (rw [← c_G22_F_a_4]; exact CPd.vwm oq49 (by decide))
theorem v_X11_wouldTell_53_19 {F : Nat → Nat → Nat} (a : Nat) (G : XG) (G1 : XG) (G22 : XG) (G49 : XG)
    (hA : RM (G.2.1 (F a 4)) 0)
    (oq49 : CPd (G22.2.1 (F a 4)) (G22.2.1 (F a 1)) (G49.2.1 (F a 1)) (0 : Int) (0 : Int) 360)
    (c_G1_F_a_4 : G1.2.1 (F a 4) = G.2.1 (F a 4))
    (c_G22_F_a_4 : G22.2.1 (F a 4) = G.2.1 (F a 4)) :
    RM (G49.2.1 (F a 1)) 0 := by
  first
    | exact CPd.rm oq49 (by decide) (by rw [c_G1_F_a_4]; exact hA)
    | exact CPd.rm oq49 (by decide) (by rw [c_G22_F_a_4]; exact hA)
theorem v_X11_wouldTell_49_20 {K : Nat → Nat} {F : Nat → Nat → Nat} (a : Nat) (G : XG) (G1 : XG) (r1 : Int → Int) (x1 : Int32)
    (ha : K a = 13)
    (hk9999 : K (F a 15) = 42)
    (hj9999 : F (F a 15) 99 = 15)
    (hk9999a : K (F a 17) = 43)
    (hj9999a : F (F a 17) 99 = 17)
    (hk9999b : K (F a 18) = 44)
    (hj9999b : F (F a 18) 99 = 18)
    (hk9999c : K (F a 11) = 38)
    (hj9999c : F (F a 11) 99 = 11)
    (hk9999d : K (F a 1) = 30)
    (hj9999d : F (F a 1) 99 = 1)
    (hk9999e : K (F a 4) = 31)
    (hj9999e : F (F a 4) 99 = 4)
    (hk9999f : K (F a 10) = 37)
    (hj9999f : F (F a 10) 99 = 10)
    (hk9999g : K (F a 12) = 38)
    (hj9999g : F (F a 12) 99 = 12)
    (hF1 : XFr [(a, 16), (a, 19), (a, 45), (a, 46)] [F a 15, F a 17, F a 18, F a 11] [] G G1)
    (hR : RV (G.2.1 (F a 10)))
    (hM : RM (G.2.1 (F a 1)) (0))
    (hA : RM (G.2.1 (F a 4)) 0)
    (h1 : LSt (G.2.1 (F a 10)) (G.2.1 (F a 12)) r1 12)
    (oq1 : ((G1.1 a 45).toInt) = (((fuO (G.2.1 (F a 10)) r1 (mw (G.2.1 (F a 1)) 0) 2).length : Nat) : Int))
    (oq1a : pL G1 F a = fuO (G.2.1 (F a 10)) r1 (mw (G.2.1 (F a 1)) 0) 0)
    (oq1b : x1.toInt = ffP (G.2.1 (F a 10)) (mw (G.2.1 (F a 1)) 0) (fuO (G.2.1 (F a 10)) r1 (mw (G.2.1 (F a 1)) 0) 0))
    (oq1c : ((G1.1 a 46).toInt) = x1.toInt)
    (oq1d : LSt (G.2.1 (F a 10)) (G1.2.1 (F a 11)) (mw (G.2.1 (F a 1)) 0) 12)
    (oq1e : 0 ≤ ((G1.1 a 19).toInt) ∧ ((G1.1 a 19).toInt) ≤ 2388 ∧ -1 ≤ x1.toInt ∧ x1.toInt < ((G1.1 a 19).toInt))
    (c5 : ¬ (x1.toInt = (-1 : Int)))
    (c_G1_F_a_1 : G1.2.1 (F a 1) = G.2.1 (F a 1))
    (c_G1_F_a_4 : G1.2.1 (F a 4) = G.2.1 (F a 4)) :
    (F a 4) ≠ (F a 1) := by
  intro e
  have h1 : K (F a 1) = 30 := by assumption
  have h2 : K (F a 4) = 31 := by assumption
  rw [← e, h2] at h1
  exact absurd h1 (by decide)
theorem v_X11_wouldTell_53_21 {K : Nat → Nat} {F : Nat → Nat → Nat} (a : Nat) (G : XG) (G1 : XG) (r1 : Int → Int) (x1 : Int32)
    (ha : K a = 13)
    (oq1 : ((G1.1 a 45).toInt) = (((fuO (G.2.1 (F a 10)) r1 (mw (G.2.1 (F a 1)) 0) 2).length : Nat) : Int))
    (oq1b : x1.toInt = ffP (G.2.1 (F a 10)) (mw (G.2.1 (F a 1)) 0) (fuO (G.2.1 (F a 10)) r1 (mw (G.2.1 (F a 1)) 0) 0))
    (oq1c : ((G1.1 a 46).toInt) = x1.toInt)
    (oq1e : 0 ≤ ((G1.1 a 19).toInt) ∧ ((G1.1 a 19).toInt) ≤ 2388 ∧ -1 ≤ x1.toInt ∧ x1.toInt < ((G1.1 a 19).toInt))
    (c5 : ¬ (x1.toInt = (-1 : Int))) :
    AnsM ((G.1 a 6).toInt) (-5 : Int) (G.2.1 (F a 10)) r1 (mw (G.2.1 (F a 1)) 0) := by
  unfold AnsM
  first
    | exact Or.inl ⟨Or.inl (by rw [← oq1b]; omega), rfl⟩
    | (rw [oq22] at oq22a; exact Or.inl ⟨Or.inr ⟨by omega, by rw [← oq22a]; omega⟩, rfl⟩)
    | exact Or.inr ⟨by rw [← oq1b]; omega, fun h => absurd h (by omega), oq1⟩
    | (rw [oq22] at oq22a; exact Or.inr ⟨by rw [← oq1b]; omega, fun h => by rw [← oq22a]; omega, oq1⟩)
theorem v_X11_wouldTell_53_22 {F : Nat → Nat → Nat} (a : Nat) (G : XG) (G1 : XG) (G49 : XG)
    (oq49 : CPd (G1.2.1 (F a 4)) (G1.2.1 (F a 1)) (G49.2.1 (F a 1)) (0 : Int) (0 : Int) 360)
    (c_G1_F_a_4 : G1.2.1 (F a 4) = G.2.1 (F a 4)) :
    mw (G49.2.1 (F a 1)) 0 = mw (G.2.1 (F a 4)) 0 := by
  first
    | (rw [← c_G1_F_a_4]; exact CPd.vwm oq49 (by decide))
    | (rw [← c_G22_F_a_4]; exact CPd.vwm oq49 (by decide))
theorem v_X11_wouldTell_53_23 {F : Nat → Nat → Nat} (a : Nat) (G : XG) (G1 : XG) (G49 : XG)
    (hA : RM (G.2.1 (F a 4)) 0)
    (oq49 : CPd (G1.2.1 (F a 4)) (G1.2.1 (F a 1)) (G49.2.1 (F a 1)) (0 : Int) (0 : Int) 360)
    (c_G1_F_a_4 : G1.2.1 (F a 4) = G.2.1 (F a 4)) :
    RM (G49.2.1 (F a 1)) 0 := by
  first
    | exact CPd.rm oq49 (by decide) (by rw [c_G1_F_a_4]; exact hA)
    | exact CPd.rm oq49 (by decide) (by rw [c_G22_F_a_4]; exact hA)
theorem v_X11_wouldSet_11_1 {F : Nat → Nat → Nat} (a : Nat) (G2 : XG) (G : XG)
    (hM : RM (G.2.1 (F a 1)) (0))
    (c_G2_F_a_1 : G2.2.1 (F a 1) = G.2.1 (F a 1)) :
    RM (G2.2.1 (F a 1)) 0 := by simp only [c_G2_F_a_1]; assumption
theorem v_X11_wouldSet_25_2 {F : Nat → Nat → Nat} (a : Nat) (G2 : XG) (G : XG)
    (hR : RV (G.2.1 (F a 10)))
    (c_G2_F_a_10 : G2.2.1 (F a 10) = G.2.1 (F a 10)) :
    RV (G2.2.1 (F a 10)) := by simp only [c_G2_F_a_10]; assumption
theorem v_X11_wouldSet_25_3 {F : Nat → Nat → Nat} (a : Nat) (G2 : XG) (G : XG)
    (hM : RM (G.2.1 (F a 1)) (0))
    (c_G2_F_a_1 : G2.2.1 (F a 1) = G.2.1 (F a 1)) :
    RM (G2.2.1 (F a 1)) (0) := by simp only [c_G2_F_a_1]; assumption
theorem v_X11_wouldSet_45_4 {F : Nat → Nat → Nat} (a : Nat) (G : XG) (G43 : XG)
    (hR : RV (G.2.1 (F a 10)))
    (c_G43_F_a_10 : G43.2.1 (F a 10) = G.2.1 (F a 10)) :
    RV (G43.2.1 (F a 10)) := by simp only [c_G43_F_a_10]; assumption
theorem v_X11_wouldSet_45_5 {F : Nat → Nat → Nat} (G43 : XG) (G25 : XG) (a : Nat) (x40 : Int32) (p3 : Int32) (G : XG) (p0 : Int32) (p1 : Int32) (p2 : Int32) (x34 : Int32) (x38 : Int32)
    (hG43 : G43 = cput G25 (F a 1) x40.toNatClampNeg p3)
    (hM : RM (G.2.1 (F a 1)) (0))
    (z24 : 0 ≤ p0.toInt ∧ p0.toInt < 3 ∧ 0 ≤ p1.toInt ∧ p1.toInt < 30 ∧ 0 ≤ p2.toInt ∧ p2.toInt < 3 ∧ (p3.toInt = -1000 ∨ (-99 ≤ p3.toInt ∧ p3.toInt ≤ 99)))
    (t34 : 0 ≤ p0.toInt ∧ p0.toInt ≤ 2 ∧ 0 ≤ p1.toInt ∧ p1.toInt ≤ 29 → x34.toInt = 4 * (30 * p0.toInt + p1.toInt))
    (t38 : x38.toInt = x34.toInt + (1 : Int) ∨ x34.toInt + (1 : Int) < -2147483648 ∨ 2147483648 ≤ x34.toInt + (1 : Int))
    (t40 : x40.toInt = x38.toInt + p2.toInt ∨ x38.toInt + p2.toInt < -2147483648 ∨ 2147483648 ≤ x38.toInt + p2.toInt)
    (c_G25_F_a_1 : G25.2.1 (F a 1) = G.2.1 (F a 1)) :
    RM (G43.2.1 (F a 1)) (0) := by
  exact hM.set (t := p0.toInt) (k := p1.toInt) (c := p2.toInt) (by omega) (by decide) (by omega) (aI_pu hG43 c_G25_F_a_1 rfl rfl (by omega)) (by omega)
theorem v_X11_wouldSet_45_6 {F : Nat → Nat → Nat} (G25 : XG) (a : Nat) (G43 : XG)
    (oq25a : RM (G25.2.1 (F a 4)) 0)
    (c_G43_F_a_4 : G43.2.1 (F a 4) = G25.2.1 (F a 4)) :
    RM (G43.2.1 (F a 4)) 0 := by simp only [c_G43_F_a_4]; assumption
theorem v_X11_wouldSet_45_7 {F : Nat → Nat → Nat} (G : XG) (a : Nat) (G25 : XG) (G43 : XG)
    (oq25b : LSt (G.2.1 (F a 10)) (G25.2.1 (F a 12)) (mw (G.2.1 (F a 1)) 0) 12)
    (c_G43_F_a_10 : G43.2.1 (F a 10) = G.2.1 (F a 10))
    (c_G43_F_a_12 : G43.2.1 (F a 12) = G25.2.1 (F a 12)) :
    LSt (G43.2.1 (F a 10)) (G43.2.1 (F a 12)) (mw (G.2.1 (F a 1)) 0) 12 := by
  rw [c_G43_F_a_10, c_G43_F_a_12]; exact oq25b
theorem v_X11_wouldSet_48_8 {F : Nat → Nat → Nat} (G25 : XG) (a : Nat) (G : XG) (G45 : XG)
    (oq25 : mw (G25.2.1 (F a 4)) 0 = mw (G.2.1 (F a 1)) 0)
    (oq45a : mw (G45.2.1 (F a 1)) 0 = mw (G25.2.1 (F a 4)) 0) :
    mw (G45.2.1 (F a 1)) 0 = mw (G.2.1 (F a 1)) 0 := by
  exact oq45a.trans oq25
theorem v_X11_wouldSet_48_9 {F : Nat → Nat → Nat} (G45 : XG) (a : Nat)
    (oq45b : RM (G45.2.1 (F a 1)) 0) :
    RM (G45.2.1 (F a 1)) 0 := by
  exact oq45b
theorem v_X11_wouldSet_48_10 {K : Nat → Nat} {F : Nat → Nat → Nat} (a : Nat) (G : XG) (G25 : XG) (G43 : XG) (x40 : Int32) (p3 : Int32) (x11 : Int32) (p0 : Int32) (p1 : Int32) (p2 : Int32) (x45 : Int32) (x34 : Int32) (x38 : Int32)
    (ha : K a = 13)
    (hG43 : G43 = cput G25 (F a 1) x40.toNatClampNeg p3)
    (hM : RM (G.2.1 (F a 1)) (0))
    (oq11 : x11.toInt = whyS (mw (G.2.1 (F a 1)) 0) p0.toInt p1.toInt p2.toInt p3.toInt)
    (oq45 : AnsM ((G.1 a 6).toInt) x45.toInt (G.2.1 (F a 10)) (mw (G.2.1 (F a 1)) 0) (mw (G43.2.1 (F a 1)) 0))
    (c18 : x11.toInt = 0)
    (z24 : 0 ≤ p0.toInt ∧ p0.toInt < 3 ∧ 0 ≤ p1.toInt ∧ p1.toInt < 30 ∧ 0 ≤ p2.toInt ∧ p2.toInt < 3 ∧ (p3.toInt = -1000 ∨ (-99 ≤ p3.toInt ∧ p3.toInt ≤ 99)))
    (t34 : 0 ≤ p0.toInt ∧ p0.toInt ≤ 2 ∧ 0 ≤ p1.toInt ∧ p1.toInt ≤ 29 → x34.toInt = 4 * (30 * p0.toInt + p1.toInt))
    (t38 : x38.toInt = x34.toInt + (1 : Int) ∨ x34.toInt + (1 : Int) < -2147483648 ∨ 2147483648 ≤ x34.toInt + (1 : Int))
    (t40 : x40.toInt = x38.toInt + p2.toInt ∨ x38.toInt + p2.toInt < -2147483648 ∨ 2147483648 ≤ x38.toInt + p2.toInt)
    (c_G25_F_a_1 : G25.2.1 (F a 1) = G.2.1 (F a 1)) :
    (whyS (mw (G.2.1 (F a 1)) 0) p0.toInt p1.toInt p2.toInt p3.toInt ≠ 0 ∧ x45.toInt = whyS (mw (G.2.1 (F a 1)) 0) p0.toInt p1.toInt p2.toInt p3.toInt) ∨ (whyS (mw (G.2.1 (F a 1)) 0) p0.toInt p1.toInt p2.toInt p3.toInt = 0 ∧ AnsM ((G.1 a 6).toInt) x45.toInt (G.2.1 (F a 10)) (mw (G.2.1 (F a 1)) 0) (rset (mw (G.2.1 (F a 1)) 0) (90 * p0.toInt + 30 * p2.toInt + p1.toInt) p3.toInt)) := by
  have w0 := whyS_0 (oq11.symm.trans c18)
  have fl : aI (G.2.1 (F a 1)) (0 + 4 * (30 * p0.toInt + p1.toInt)) = 1 := by
    rcases hM.flag (t := p0.toInt) (k := p1.toInt) (by omega) with h | h
    · exact absurd h.2 w0.2.1
    · exact h.1
  have e1 := mw_set (b := 0) (t := p0.toInt) (k := p1.toInt) (c := p2.toInt) (by omega) (by decide) (by omega) (aI_pu hG43 c_G25_F_a_1 rfl rfl (by omega)) fl
  rw [e1] at oq45
  exact Or.inr ⟨oq11.symm.trans c18, oq45⟩
theorem v_X11_wouldSet_23_11 {F : Nat → Nat → Nat} (G2 : XG) (a : Nat) (G : XG)
    (c_G2_F_a_1 : G2.2.1 (F a 1) = G.2.1 (F a 1)) :
    mw (G2.2.1 (F a 1)) 0 = mw (G.2.1 (F a 1)) 0 := by
  rw [c_G2_F_a_1]
theorem v_X11_wouldSet_23_12 {F : Nat → Nat → Nat} (G : XG) (a : Nat) (G2 : XG)
    (hM : RM (G.2.1 (F a 1)) (0))
    (c_G2_F_a_1 : G2.2.1 (F a 1) = G.2.1 (F a 1)) :
    RM (G2.2.1 (F a 1)) 0 := by
  rw [c_G2_F_a_1]; exact hM
theorem v_X11_wouldSet_23_13 {K : Nat → Nat} {F : Nat → Nat → Nat} (a : Nat) (G : XG) (x11 : Int32) (p0 : Int32) (p1 : Int32) (p2 : Int32) (p3 : Int32)
    (ha : K a = 13)
    (oq11 : x11.toInt = whyS (mw (G.2.1 (F a 1)) 0) p0.toInt p1.toInt p2.toInt p3.toInt)
    (c18 : ¬ (x11.toInt = 0)) :
    (whyS (mw (G.2.1 (F a 1)) 0) p0.toInt p1.toInt p2.toInt p3.toInt ≠ 0 ∧ x11.toInt = whyS (mw (G.2.1 (F a 1)) 0) p0.toInt p1.toInt p2.toInt p3.toInt) ∨ (whyS (mw (G.2.1 (F a 1)) 0) p0.toInt p1.toInt p2.toInt p3.toInt = 0 ∧ AnsM ((G.1 a 6).toInt) x11.toInt (G.2.1 (F a 10)) (mw (G.2.1 (F a 1)) 0) (rset (mw (G.2.1 (F a 1)) 0) (90 * p0.toInt + 30 * p2.toInt + p1.toInt) p3.toInt)) := by
  exact Or.inl ⟨by omega, by omega⟩
theorem v_X11_depth_38_1 {K : Nat → Nat} {F : Nat → Nat → Nat} (a : Nat) (G : XG) (x7 : Int32) (p0 : Int32) (p1 : Int32)
    (ha : K a = 13)
    (t7 : (x7.toInt = 1 ∧ 0 ≤ p0.toInt ∧ p0.toInt ≤ 11 ∧ (aI (G.2.1 (F a 10)) (10 * p0.toInt + 0)) ≠ -1) ∨ (x7.toInt = 0 ∧ (¬ (0 ≤ p0.toInt ∧ p0.toInt ≤ 11) ∨ (aI (G.2.1 (F a 10)) (10 * p0.toInt + 0)) = -1)))
    (c10 : x7.toInt = 0) :
    (¬ (0 ≤ p0.toInt ∧ p0.toInt ≤ 11 ∧ aI (G.2.1 (F a 10)) (10 * p0.toInt + 0) ≠ -1) ∧ (-1 : Int) = -1) ∨ ((0 ≤ p0.toInt ∧ p0.toInt ≤ 11 ∧ aI (G.2.1 (F a 10)) (10 * p0.toInt + 0) ≠ -1) ∧ (-1 : Int) = dpS (mw (G.2.1 (F a 1)) 0) (aI (G.2.1 (F a 10)) (10 * p0.toInt + 0)) (aI (G.2.1 (F a 10)) (10 * p0.toInt + 1)) (aI (G.2.1 (F a 10)) (10 * p0.toInt + 2)) p1.toInt) := by
  first
    | exact Or.inl ⟨by omega, rfl⟩
    | exact Or.inr ⟨by omega, (dpS_n (by omega)).symm⟩
theorem v_X11_depth_38_2 {K : Nat → Nat} {F : Nat → Nat → Nat} (a : Nat) (G : XG) (p0 : Int32) (x7 : Int32) (p1 : Int32)
    (ha : K a = 13)
    (t7 : (x7.toInt = 1 ∧ 0 ≤ p0.toInt ∧ p0.toInt ≤ 11 ∧ (aI (G.2.1 (F a 10)) (10 * p0.toInt + 0)) ≠ -1) ∨ (x7.toInt = 0 ∧ (¬ (0 ≤ p0.toInt ∧ p0.toInt ≤ 11) ∨ (aI (G.2.1 (F a 10)) (10 * p0.toInt + 0)) = -1)))
    (c10 : ¬ (x7.toInt = 0))
    (z13 : (-1 ≤ (aI (G.2.1 (F a 10)) (10 * p0.toInt + 0)) ∧ (aI (G.2.1 (F a 10)) (10 * p0.toInt + 0)) ≤ 5) ∧ (0 ≤ (aI (G.2.1 (F a 10)) (10 * p0.toInt + 1)) ∧ (aI (G.2.1 (F a 10)) (10 * p0.toInt + 1)) ≤ 2) ∧ (0 ≤ (aI (G.2.1 (F a 10)) (10 * p0.toInt + 2)) ∧ (aI (G.2.1 (F a 10)) (10 * p0.toInt + 2)) ≤ 2) ∧ (-1 ≤ (aI (G.2.1 (F a 10)) (10 * p0.toInt + 3)) ∧ (aI (G.2.1 (F a 10)) (10 * p0.toInt + 3)) ≤ 2) ∧ ((aI (G.2.1 (F a 10)) (10 * p0.toInt + 0)) = 1 ∨ (aI (G.2.1 (F a 10)) (10 * p0.toInt + 0)) = 3 ∨ (aI (G.2.1 (F a 10)) (10 * p0.toInt + 0)) = 4 → 0 ≤ (aI (G.2.1 (F a 10)) (10 * p0.toInt + 3))))
    (c20 : (aI (G.2.1 (F a 10)) (10 * p0.toInt + 0)) ≠ (5 : Int)) :
    (¬ (0 ≤ p0.toInt ∧ p0.toInt ≤ 11 ∧ aI (G.2.1 (F a 10)) (10 * p0.toInt + 0) ≠ -1) ∧ (-1 : Int) = -1) ∨ ((0 ≤ p0.toInt ∧ p0.toInt ≤ 11 ∧ aI (G.2.1 (F a 10)) (10 * p0.toInt + 0) ≠ -1) ∧ (-1 : Int) = dpS (mw (G.2.1 (F a 1)) 0) (aI (G.2.1 (F a 10)) (10 * p0.toInt + 0)) (aI (G.2.1 (F a 10)) (10 * p0.toInt + 1)) (aI (G.2.1 (F a 10)) (10 * p0.toInt + 2)) p1.toInt) := by
  first
    | exact Or.inl ⟨by omega, rfl⟩
    | exact Or.inr ⟨by omega, (dpS_n (by omega)).symm⟩
theorem v_X11_depth_31_3 {F : Nat → Nat → Nat} (a : Nat) (G2 : XG) (G : XG)
    (hM : RM (G.2.1 (F a 1)) (0))
    (c_G2_F_a_1 : G2.2.1 (F a 1) = G.2.1 (F a 1)) :
    RM (G2.2.1 (F a 1)) 0 := by simp only [c_G2_F_a_1]; assumption
theorem v_X11_depth_106_4 {K : Nat → Nat} {F : Nat → Nat → Nat} (a : Nat) (G : XG) (p0 : Int32) (p1 : Int32) (l3_44 : Int32) (l4_44 : Int32) (x7 : Int32) (x31 : Int32) (N44 : Nat)
    (ha : K a = 13)
    (dp : dpF (mw (G.2.1 (F a 1)) 0) (aI (G.2.1 (F a 10)) (10 * p0.toInt + 1)) (aI (G.2.1 (F a 10)) (10 * p0.toInt + 2)) 31 0 (p1.toInt) = dpF (mw (G.2.1 (F a 1)) 0) (aI (G.2.1 (F a 10)) (10 * p0.toInt + 1)) (aI (G.2.1 (F a 10)) (10 * p0.toInt + 2)) (31 - l3_44.toInt).toNat (l3_44.toInt) (l4_44.toInt))
    (t7 : (x7.toInt = 1 ∧ 0 ≤ p0.toInt ∧ p0.toInt ≤ 11 ∧ (aI (G.2.1 (F a 10)) (10 * p0.toInt + 0)) ≠ -1) ∨ (x7.toInt = 0 ∧ (¬ (0 ≤ p0.toInt ∧ p0.toInt ≤ 11) ∨ (aI (G.2.1 (F a 10)) (10 * p0.toInt + 0)) = -1)))
    (c10 : ¬ (x7.toInt = 0))
    (z13 : (-1 ≤ (aI (G.2.1 (F a 10)) (10 * p0.toInt + 0)) ∧ (aI (G.2.1 (F a 10)) (10 * p0.toInt + 0)) ≤ 5) ∧ (0 ≤ (aI (G.2.1 (F a 10)) (10 * p0.toInt + 1)) ∧ (aI (G.2.1 (F a 10)) (10 * p0.toInt + 1)) ≤ 2) ∧ (0 ≤ (aI (G.2.1 (F a 10)) (10 * p0.toInt + 2)) ∧ (aI (G.2.1 (F a 10)) (10 * p0.toInt + 2)) ≤ 2) ∧ (-1 ≤ (aI (G.2.1 (F a 10)) (10 * p0.toInt + 3)) ∧ (aI (G.2.1 (F a 10)) (10 * p0.toInt + 3)) ≤ 2) ∧ ((aI (G.2.1 (F a 10)) (10 * p0.toInt + 0)) = 1 ∨ (aI (G.2.1 (F a 10)) (10 * p0.toInt + 0)) = 3 ∨ (aI (G.2.1 (F a 10)) (10 * p0.toInt + 0)) = 4 → 0 ≤ (aI (G.2.1 (F a 10)) (10 * p0.toInt + 3))))
    (c20 : ¬ ((aI (G.2.1 (F a 10)) (10 * p0.toInt + 0)) ≠ (5 : Int)))
    (t31 : (x31.toInt = 1 ∧ (cel (mw (G.2.1 (F a 1)) 0) (aI (G.2.1 (F a 10)) (10 * p0.toInt + 1)) (p1.toInt) 0) ≠ -2000) ∨ (x31.toInt = 0 ∧ (cel (mw (G.2.1 (F a 1)) 0) (aI (G.2.1 (F a 10)) (10 * p0.toInt + 1)) (p1.toInt) 0) = -2000))
    (c34 : x31.toInt ≠ 0)
    (z39 : ¬ (0 ≤ (aI (G.2.1 (F a 10)) (10 * p0.toInt + 1)) ∧ (aI (G.2.1 (F a 10)) (10 * p0.toInt + 1)) < 3 ∧ 0 ≤ p1.toInt ∧ p1.toInt < 30) → (cel (mw (G.2.1 (F a 1)) 0) (aI (G.2.1 (F a 10)) (10 * p0.toInt + 1)) (p1.toInt) 0) = -2000)
    (I44_0 : 0 ≤ l3_44.toInt ∧ l3_44.toInt ≤ 31)
    (I44_1 : 0 ≤ l4_44.toInt ∧ l4_44.toInt < 30)
    (I44_2 : (cel (mw (G.2.1 (F a 1)) 0) (aI (G.2.1 (F a 10)) (10 * p0.toInt + 1)) (l4_44.toInt) 0) ≠ -2000)
    (hm44 : 100 - l3_44.toInt < (((N44) + 1 : Nat) : Int))
    (c47 : (30 : Int) < l3_44.toInt) :
    (¬ (0 ≤ p0.toInt ∧ p0.toInt ≤ 11 ∧ aI (G.2.1 (F a 10)) (10 * p0.toInt + 0) ≠ -1) ∧ (-2 : Int) = -1) ∨ ((0 ≤ p0.toInt ∧ p0.toInt ≤ 11 ∧ aI (G.2.1 (F a 10)) (10 * p0.toInt + 0) ≠ -1) ∧ (-2 : Int) = dpS (mw (G.2.1 (F a 1)) 0) (aI (G.2.1 (F a 10)) (10 * p0.toInt + 0)) (aI (G.2.1 (F a 10)) (10 * p0.toInt + 1)) (aI (G.2.1 (F a 10)) (10 * p0.toInt + 2)) p1.toInt) := by
  have e : (31 - l3_44.toInt).toNat = 0 := by omega
  rw [e] at dp
  exact Or.inr ⟨by omega, ((dpS_i (by omega)).trans dp).symm⟩
theorem v_X11_depth_86_5 {F : Nat → Nat → Nat} (a : Nat) (G2 : XG) (G : XG)
    (hM : RM (G.2.1 (F a 1)) (0))
    (c_G2_F_a_1 : G2.2.1 (F a 1) = G.2.1 (F a 1)) :
    RM (G2.2.1 (F a 1)) 0 := by simp only [c_G2_F_a_1]; assumption
theorem v_X11_depth_101_6 {K : Nat → Nat} {F : Nat → Nat → Nat} (a : Nat) (G : XG) (p0 : Int32) (p1 : Int32) (l3_44 : Int32) (l4_44 : Int32) (x7 : Int32) (x31 : Int32) (N44 : Nat) (x62 : Int32) (x86 : Int32)
    (ha : K a = 13)
    (dp : dpF (mw (G.2.1 (F a 1)) 0) (aI (G.2.1 (F a 10)) (10 * p0.toInt + 1)) (aI (G.2.1 (F a 10)) (10 * p0.toInt + 2)) 31 0 (p1.toInt) = dpF (mw (G.2.1 (F a 1)) 0) (aI (G.2.1 (F a 10)) (10 * p0.toInt + 1)) (aI (G.2.1 (F a 10)) (10 * p0.toInt + 2)) (31 - l3_44.toInt).toNat (l3_44.toInt) (l4_44.toInt))
    (t7 : (x7.toInt = 1 ∧ 0 ≤ p0.toInt ∧ p0.toInt ≤ 11 ∧ (aI (G.2.1 (F a 10)) (10 * p0.toInt + 0)) ≠ -1) ∨ (x7.toInt = 0 ∧ (¬ (0 ≤ p0.toInt ∧ p0.toInt ≤ 11) ∨ (aI (G.2.1 (F a 10)) (10 * p0.toInt + 0)) = -1)))
    (c10 : ¬ (x7.toInt = 0))
    (z13 : (-1 ≤ (aI (G.2.1 (F a 10)) (10 * p0.toInt + 0)) ∧ (aI (G.2.1 (F a 10)) (10 * p0.toInt + 0)) ≤ 5) ∧ (0 ≤ (aI (G.2.1 (F a 10)) (10 * p0.toInt + 1)) ∧ (aI (G.2.1 (F a 10)) (10 * p0.toInt + 1)) ≤ 2) ∧ (0 ≤ (aI (G.2.1 (F a 10)) (10 * p0.toInt + 2)) ∧ (aI (G.2.1 (F a 10)) (10 * p0.toInt + 2)) ≤ 2) ∧ (-1 ≤ (aI (G.2.1 (F a 10)) (10 * p0.toInt + 3)) ∧ (aI (G.2.1 (F a 10)) (10 * p0.toInt + 3)) ≤ 2) ∧ ((aI (G.2.1 (F a 10)) (10 * p0.toInt + 0)) = 1 ∨ (aI (G.2.1 (F a 10)) (10 * p0.toInt + 0)) = 3 ∨ (aI (G.2.1 (F a 10)) (10 * p0.toInt + 0)) = 4 → 0 ≤ (aI (G.2.1 (F a 10)) (10 * p0.toInt + 3))))
    (c20 : ¬ ((aI (G.2.1 (F a 10)) (10 * p0.toInt + 0)) ≠ (5 : Int)))
    (t31 : (x31.toInt = 1 ∧ (cel (mw (G.2.1 (F a 1)) 0) (aI (G.2.1 (F a 10)) (10 * p0.toInt + 1)) (p1.toInt) 0) ≠ -2000) ∨ (x31.toInt = 0 ∧ (cel (mw (G.2.1 (F a 1)) 0) (aI (G.2.1 (F a 10)) (10 * p0.toInt + 1)) (p1.toInt) 0) = -2000))
    (c34 : x31.toInt ≠ 0)
    (z39 : ¬ (0 ≤ (aI (G.2.1 (F a 10)) (10 * p0.toInt + 1)) ∧ (aI (G.2.1 (F a 10)) (10 * p0.toInt + 1)) < 3 ∧ 0 ≤ p1.toInt ∧ p1.toInt < 30) → (cel (mw (G.2.1 (F a 1)) 0) (aI (G.2.1 (F a 10)) (10 * p0.toInt + 1)) (p1.toInt) 0) = -2000)
    (I44_0 : 0 ≤ l3_44.toInt ∧ l3_44.toInt ≤ 31)
    (I44_1 : 0 ≤ l4_44.toInt ∧ l4_44.toInt < 30)
    (I44_2 : (cel (mw (G.2.1 (F a 1)) 0) (aI (G.2.1 (F a 10)) (10 * p0.toInt + 1)) (l4_44.toInt) 0) ≠ -2000)
    (hm44 : 100 - l3_44.toInt < (((N44) + 1 : Nat) : Int))
    (c47 : ¬ ((30 : Int) < l3_44.toInt))
    (t62 : 0 ≤ (aI (G.2.1 (F a 10)) (10 * p0.toInt + 1)) ∧ (aI (G.2.1 (F a 10)) (10 * p0.toInt + 1)) ≤ 2 ∧ 0 ≤ l4_44.toInt ∧ l4_44.toInt ≤ 29 → x62.toInt = 4 * (30 * (aI (G.2.1 (F a 10)) (10 * p0.toInt + 1)) + l4_44.toInt))
    (z77 : (aI (G.2.1 (F a 1)) (4 * (30 * (aI (G.2.1 (F a 10)) (10 * p0.toInt + 1)) + l4_44.toInt) + 1 + (aI (G.2.1 (F a 10)) (10 * p0.toInt + 2)))) = (cel (mw (G.2.1 (F a 1)) 0) (aI (G.2.1 (F a 10)) (10 * p0.toInt + 1)) (l4_44.toInt) (aI (G.2.1 (F a 10)) (10 * p0.toInt + 2))))
    (t86 : (x86.toInt = 1 ∧ (cel (mw (G.2.1 (F a 1)) 0) (aI (G.2.1 (F a 10)) (10 * p0.toInt + 1)) (aI (G.2.1 (F a 1)) (4 * (30 * (aI (G.2.1 (F a 10)) (10 * p0.toInt + 1)) + l4_44.toInt) + 1 + (aI (G.2.1 (F a 10)) (10 * p0.toInt + 2)))) 0) ≠ -2000) ∨ (x86.toInt = 0 ∧ (cel (mw (G.2.1 (F a 1)) 0) (aI (G.2.1 (F a 10)) (10 * p0.toInt + 1)) (aI (G.2.1 (F a 1)) (4 * (30 * (aI (G.2.1 (F a 10)) (10 * p0.toInt + 1)) + l4_44.toInt) + 1 + (aI (G.2.1 (F a 10)) (10 * p0.toInt + 2)))) 0) = -2000))
    (z89 : ¬ (0 ≤ (aI (G.2.1 (F a 10)) (10 * p0.toInt + 1)) ∧ (aI (G.2.1 (F a 10)) (10 * p0.toInt + 1)) < 3 ∧ 0 ≤ (aI (G.2.1 (F a 1)) (4 * (30 * (aI (G.2.1 (F a 10)) (10 * p0.toInt + 1)) + l4_44.toInt) + 1 + (aI (G.2.1 (F a 10)) (10 * p0.toInt + 2)))) ∧ (aI (G.2.1 (F a 1)) (4 * (30 * (aI (G.2.1 (F a 10)) (10 * p0.toInt + 1)) + l4_44.toInt) + 1 + (aI (G.2.1 (F a 10)) (10 * p0.toInt + 2)))) < 30) → (cel (mw (G.2.1 (F a 1)) 0) (aI (G.2.1 (F a 10)) (10 * p0.toInt + 1)) (aI (G.2.1 (F a 1)) (4 * (30 * (aI (G.2.1 (F a 10)) (10 * p0.toInt + 1)) + l4_44.toInt) + 1 + (aI (G.2.1 (F a 10)) (10 * p0.toInt + 2)))) 0) = -2000)
    (c89 : x86.toInt ≠ 0) :
    dpF (mw (G.2.1 (F a 1)) 0) (aI (G.2.1 (F a 10)) (10 * p0.toInt + 1)) (aI (G.2.1 (F a 10)) (10 * p0.toInt + 2)) 31 0 (p1.toInt) = dpF (mw (G.2.1 (F a 1)) 0) (aI (G.2.1 (F a 10)) (10 * p0.toInt + 1)) (aI (G.2.1 (F a 10)) (10 * p0.toInt + 2)) (31 - (l3_44.toInt + 1)).toNat (l3_44.toInt + 1) ((aI (G.2.1 (F a 1)) (4 * (30 * (aI (G.2.1 (F a 10)) (10 * p0.toInt + 1)) + l4_44.toInt) + 1 + (aI (G.2.1 (F a 10)) (10 * p0.toInt + 2))))) := by
  have e : (31 - l3_44.toInt).toNat = (31 - (l3_44.toInt + 1)).toNat + 1 := by omega
  rw [e] at dp
  rw [z77] at t86 ⊢
  exact dp.trans (dpF_s (by omega))
theorem v_X11_depth_93_7 {K : Nat → Nat} {F : Nat → Nat → Nat} (a : Nat) (G : XG) (p0 : Int32) (p1 : Int32) (l3_44 : Int32) (l4_44 : Int32) (x7 : Int32) (x31 : Int32) (N44 : Nat) (x62 : Int32) (x86 : Int32)
    (ha : K a = 13)
    (dp : dpF (mw (G.2.1 (F a 1)) 0) (aI (G.2.1 (F a 10)) (10 * p0.toInt + 1)) (aI (G.2.1 (F a 10)) (10 * p0.toInt + 2)) 31 0 (p1.toInt) = dpF (mw (G.2.1 (F a 1)) 0) (aI (G.2.1 (F a 10)) (10 * p0.toInt + 1)) (aI (G.2.1 (F a 10)) (10 * p0.toInt + 2)) (31 - l3_44.toInt).toNat (l3_44.toInt) (l4_44.toInt))
    (t7 : (x7.toInt = 1 ∧ 0 ≤ p0.toInt ∧ p0.toInt ≤ 11 ∧ (aI (G.2.1 (F a 10)) (10 * p0.toInt + 0)) ≠ -1) ∨ (x7.toInt = 0 ∧ (¬ (0 ≤ p0.toInt ∧ p0.toInt ≤ 11) ∨ (aI (G.2.1 (F a 10)) (10 * p0.toInt + 0)) = -1)))
    (c10 : ¬ (x7.toInt = 0))
    (z13 : (-1 ≤ (aI (G.2.1 (F a 10)) (10 * p0.toInt + 0)) ∧ (aI (G.2.1 (F a 10)) (10 * p0.toInt + 0)) ≤ 5) ∧ (0 ≤ (aI (G.2.1 (F a 10)) (10 * p0.toInt + 1)) ∧ (aI (G.2.1 (F a 10)) (10 * p0.toInt + 1)) ≤ 2) ∧ (0 ≤ (aI (G.2.1 (F a 10)) (10 * p0.toInt + 2)) ∧ (aI (G.2.1 (F a 10)) (10 * p0.toInt + 2)) ≤ 2) ∧ (-1 ≤ (aI (G.2.1 (F a 10)) (10 * p0.toInt + 3)) ∧ (aI (G.2.1 (F a 10)) (10 * p0.toInt + 3)) ≤ 2) ∧ ((aI (G.2.1 (F a 10)) (10 * p0.toInt + 0)) = 1 ∨ (aI (G.2.1 (F a 10)) (10 * p0.toInt + 0)) = 3 ∨ (aI (G.2.1 (F a 10)) (10 * p0.toInt + 0)) = 4 → 0 ≤ (aI (G.2.1 (F a 10)) (10 * p0.toInt + 3))))
    (c20 : ¬ ((aI (G.2.1 (F a 10)) (10 * p0.toInt + 0)) ≠ (5 : Int)))
    (t31 : (x31.toInt = 1 ∧ (cel (mw (G.2.1 (F a 1)) 0) (aI (G.2.1 (F a 10)) (10 * p0.toInt + 1)) (p1.toInt) 0) ≠ -2000) ∨ (x31.toInt = 0 ∧ (cel (mw (G.2.1 (F a 1)) 0) (aI (G.2.1 (F a 10)) (10 * p0.toInt + 1)) (p1.toInt) 0) = -2000))
    (c34 : x31.toInt ≠ 0)
    (z39 : ¬ (0 ≤ (aI (G.2.1 (F a 10)) (10 * p0.toInt + 1)) ∧ (aI (G.2.1 (F a 10)) (10 * p0.toInt + 1)) < 3 ∧ 0 ≤ p1.toInt ∧ p1.toInt < 30) → (cel (mw (G.2.1 (F a 1)) 0) (aI (G.2.1 (F a 10)) (10 * p0.toInt + 1)) (p1.toInt) 0) = -2000)
    (I44_0 : 0 ≤ l3_44.toInt ∧ l3_44.toInt ≤ 31)
    (I44_1 : 0 ≤ l4_44.toInt ∧ l4_44.toInt < 30)
    (I44_2 : (cel (mw (G.2.1 (F a 1)) 0) (aI (G.2.1 (F a 10)) (10 * p0.toInt + 1)) (l4_44.toInt) 0) ≠ -2000)
    (hm44 : 100 - l3_44.toInt < (((N44) + 1 : Nat) : Int))
    (c47 : ¬ ((30 : Int) < l3_44.toInt))
    (t62 : 0 ≤ (aI (G.2.1 (F a 10)) (10 * p0.toInt + 1)) ∧ (aI (G.2.1 (F a 10)) (10 * p0.toInt + 1)) ≤ 2 ∧ 0 ≤ l4_44.toInt ∧ l4_44.toInt ≤ 29 → x62.toInt = 4 * (30 * (aI (G.2.1 (F a 10)) (10 * p0.toInt + 1)) + l4_44.toInt))
    (z77 : (aI (G.2.1 (F a 1)) (4 * (30 * (aI (G.2.1 (F a 10)) (10 * p0.toInt + 1)) + l4_44.toInt) + 1 + (aI (G.2.1 (F a 10)) (10 * p0.toInt + 2)))) = (cel (mw (G.2.1 (F a 1)) 0) (aI (G.2.1 (F a 10)) (10 * p0.toInt + 1)) (l4_44.toInt) (aI (G.2.1 (F a 10)) (10 * p0.toInt + 2))))
    (t86 : (x86.toInt = 1 ∧ (cel (mw (G.2.1 (F a 1)) 0) (aI (G.2.1 (F a 10)) (10 * p0.toInt + 1)) (aI (G.2.1 (F a 1)) (4 * (30 * (aI (G.2.1 (F a 10)) (10 * p0.toInt + 1)) + l4_44.toInt) + 1 + (aI (G.2.1 (F a 10)) (10 * p0.toInt + 2)))) 0) ≠ -2000) ∨ (x86.toInt = 0 ∧ (cel (mw (G.2.1 (F a 1)) 0) (aI (G.2.1 (F a 10)) (10 * p0.toInt + 1)) (aI (G.2.1 (F a 1)) (4 * (30 * (aI (G.2.1 (F a 10)) (10 * p0.toInt + 1)) + l4_44.toInt) + 1 + (aI (G.2.1 (F a 10)) (10 * p0.toInt + 2)))) 0) = -2000))
    (z89 : ¬ (0 ≤ (aI (G.2.1 (F a 10)) (10 * p0.toInt + 1)) ∧ (aI (G.2.1 (F a 10)) (10 * p0.toInt + 1)) < 3 ∧ 0 ≤ (aI (G.2.1 (F a 1)) (4 * (30 * (aI (G.2.1 (F a 10)) (10 * p0.toInt + 1)) + l4_44.toInt) + 1 + (aI (G.2.1 (F a 10)) (10 * p0.toInt + 2)))) ∧ (aI (G.2.1 (F a 1)) (4 * (30 * (aI (G.2.1 (F a 10)) (10 * p0.toInt + 1)) + l4_44.toInt) + 1 + (aI (G.2.1 (F a 10)) (10 * p0.toInt + 2)))) < 30) → (cel (mw (G.2.1 (F a 1)) 0) (aI (G.2.1 (F a 10)) (10 * p0.toInt + 1)) (aI (G.2.1 (F a 1)) (4 * (30 * (aI (G.2.1 (F a 10)) (10 * p0.toInt + 1)) + l4_44.toInt) + 1 + (aI (G.2.1 (F a 10)) (10 * p0.toInt + 2)))) 0) = -2000)
    (c89 : ¬ (x86.toInt ≠ 0)) :
    (¬ (0 ≤ p0.toInt ∧ p0.toInt ≤ 11 ∧ aI (G.2.1 (F a 10)) (10 * p0.toInt + 0) ≠ -1) ∧ l3_44.toInt = -1) ∨ ((0 ≤ p0.toInt ∧ p0.toInt ≤ 11 ∧ aI (G.2.1 (F a 10)) (10 * p0.toInt + 0) ≠ -1) ∧ l3_44.toInt = dpS (mw (G.2.1 (F a 1)) 0) (aI (G.2.1 (F a 10)) (10 * p0.toInt + 0)) (aI (G.2.1 (F a 10)) (10 * p0.toInt + 1)) (aI (G.2.1 (F a 10)) (10 * p0.toInt + 2)) p1.toInt) := by
  have e : (31 - l3_44.toInt).toNat = (30 - l3_44.toInt).toNat + 1 := by omega
  rw [e] at dp
  rw [z77] at t86
  exact Or.inr ⟨by omega, ((dpS_i (by omega)).trans (dp.trans (dpF_o (by omega)))).symm⟩
theorem v_X11_depth_42_8 {F : Nat → Nat → Nat} (a : Nat) (G : XG) (p0 : Int32) (p1 : Int32) :
    dpF (mw (G.2.1 (F a 1)) 0) (aI (G.2.1 (F a 10)) (10 * p0.toInt + 1)) (aI (G.2.1 (F a 10)) (10 * p0.toInt + 2)) 31 0 (p1.toInt) = dpF (mw (G.2.1 (F a 1)) 0) (aI (G.2.1 (F a 10)) (10 * p0.toInt + 1)) (aI (G.2.1 (F a 10)) (10 * p0.toInt + 2)) (31 - (0 : Int)).toNat (0 : Int) (p1.toInt) := by
  have e : ((31 : Int) - (0 : Int)).toNat = 31 := by decide
  rw [e]
theorem v_X11_depth_38_9 {K : Nat → Nat} {F : Nat → Nat → Nat} (a : Nat) (G : XG) (p0 : Int32) (x7 : Int32) (x31 : Int32) (p1 : Int32)
    (ha : K a = 13)
    (t7 : (x7.toInt = 1 ∧ 0 ≤ p0.toInt ∧ p0.toInt ≤ 11 ∧ (aI (G.2.1 (F a 10)) (10 * p0.toInt + 0)) ≠ -1) ∨ (x7.toInt = 0 ∧ (¬ (0 ≤ p0.toInt ∧ p0.toInt ≤ 11) ∨ (aI (G.2.1 (F a 10)) (10 * p0.toInt + 0)) = -1)))
    (c10 : ¬ (x7.toInt = 0))
    (z13 : (-1 ≤ (aI (G.2.1 (F a 10)) (10 * p0.toInt + 0)) ∧ (aI (G.2.1 (F a 10)) (10 * p0.toInt + 0)) ≤ 5) ∧ (0 ≤ (aI (G.2.1 (F a 10)) (10 * p0.toInt + 1)) ∧ (aI (G.2.1 (F a 10)) (10 * p0.toInt + 1)) ≤ 2) ∧ (0 ≤ (aI (G.2.1 (F a 10)) (10 * p0.toInt + 2)) ∧ (aI (G.2.1 (F a 10)) (10 * p0.toInt + 2)) ≤ 2) ∧ (-1 ≤ (aI (G.2.1 (F a 10)) (10 * p0.toInt + 3)) ∧ (aI (G.2.1 (F a 10)) (10 * p0.toInt + 3)) ≤ 2) ∧ ((aI (G.2.1 (F a 10)) (10 * p0.toInt + 0)) = 1 ∨ (aI (G.2.1 (F a 10)) (10 * p0.toInt + 0)) = 3 ∨ (aI (G.2.1 (F a 10)) (10 * p0.toInt + 0)) = 4 → 0 ≤ (aI (G.2.1 (F a 10)) (10 * p0.toInt + 3))))
    (c20 : ¬ ((aI (G.2.1 (F a 10)) (10 * p0.toInt + 0)) ≠ (5 : Int)))
    (t31 : (x31.toInt = 1 ∧ (cel (mw (G.2.1 (F a 1)) 0) (aI (G.2.1 (F a 10)) (10 * p0.toInt + 1)) (p1.toInt) 0) ≠ -2000) ∨ (x31.toInt = 0 ∧ (cel (mw (G.2.1 (F a 1)) 0) (aI (G.2.1 (F a 10)) (10 * p0.toInt + 1)) (p1.toInt) 0) = -2000))
    (c34 : ¬ (x31.toInt ≠ 0)) :
    (¬ (0 ≤ p0.toInt ∧ p0.toInt ≤ 11 ∧ aI (G.2.1 (F a 10)) (10 * p0.toInt + 0) ≠ -1) ∧ (-1 : Int) = -1) ∨ ((0 ≤ p0.toInt ∧ p0.toInt ≤ 11 ∧ aI (G.2.1 (F a 10)) (10 * p0.toInt + 0) ≠ -1) ∧ (-1 : Int) = dpS (mw (G.2.1 (F a 1)) 0) (aI (G.2.1 (F a 10)) (10 * p0.toInt + 0)) (aI (G.2.1 (F a 10)) (10 * p0.toInt + 1)) (aI (G.2.1 (F a 10)) (10 * p0.toInt + 2)) p1.toInt) := by
  first
    | exact Or.inl ⟨by omega, rfl⟩
    | exact Or.inr ⟨by omega, (dpS_n (by omega)).symm⟩
theorem v_X11_leansOn_117_1 {K : Nat → Nat} {F : Nat → Nat → Nat} (a : Nat) (G : XG) (l5_6 : Int32) (l6_6 : Int32) (p0 : Int32) (p1 : Int32) (p2 : Int32) (p3 : Int32) (N6 : Nat)
    (ha : K a = 13)
    (hR : RV (G.2.1 (F a 10)))
    (hM : RM (G.2.1 (F a 1)) (0))
    (pl : (l5_6.toInt = 1 ∧ lnR (G.2.1 (F a 10)) (G.2.1 (F a 1)) l6_6.toInt p0.toInt p1.toInt p2.toInt p3.toInt) ∨ (l5_6.toInt = 0 ∧ ¬ lnR (G.2.1 (F a 10)) (G.2.1 (F a 1)) l6_6.toInt p0.toInt p1.toInt p2.toInt p3.toInt))
    (e0 : 0 ≤ p0.toInt ∧ p0.toInt < 3 ∧ 0 ≤ p1.toInt ∧ p1.toInt < 30)
    (e1 : 0 ≤ p3.toInt ∧ p3.toInt < 30)
    (I6_0 : 0 ≤ l6_6.toInt ∧ l6_6.toInt ≤ 12)
    (hm6 : 100 - l6_6.toInt < (((N6) + 1 : Nat) : Int))
    (c10 : (12 : Int) ≤ l6_6.toInt)
    (c100 : l5_6.toInt = 0) :
    ((0 : Int) = 1 ∧ lnM (G.2.1 (F a 10)) (mw (G.2.1 (F a 1)) 0) 12 p0.toInt p1.toInt p2.toInt p3.toInt) ∨ ((0 : Int) = 0 ∧ ¬ lnM (G.2.1 (F a 10)) (mw (G.2.1 (F a 1)) 0) 12 p0.toInt p1.toInt p2.toInt p3.toInt) := by
  have e12 : l6_6.toInt = 12 := by omega
  rw [e12] at pl
  rcases pl with ⟨a1, a2⟩ | ⟨a1, a2⟩
  · first
      | (exfalso; omega)
      | exact Or.inl ⟨rfl, lnR_M hR hM ⟨by omega, by omega⟩ (by decide) (by omega) a2⟩
      | exact Or.inr ⟨rfl, lnM_no hM (by omega) (by omega)⟩
  · first
      | (exfalso; omega)
      | exact Or.inr ⟨rfl, fun h => a2 (lnM_R hR hM ⟨by omega, by omega⟩ (by decide) (by omega) h)⟩
theorem v_X11_leansOn_106_2 {K : Nat → Nat} {F : Nat → Nat → Nat} (a : Nat) (G : XG) (l5_6 : Int32) (l6_6 : Int32) (p0 : Int32) (p1 : Int32) (p2 : Int32) (p3 : Int32) (N6 : Nat)
    (ha : K a = 13)
    (hk9999 : K (F a 10) = 37)
    (hj9999 : F (F a 10) 99 = 10)
    (hk9999a : K (F a 1) = 30)
    (hj9999a : F (F a 1) 99 = 1)
    (hR : RV (G.2.1 (F a 10)))
    (hM : RM (G.2.1 (F a 1)) (0))
    (pl : (l5_6.toInt = 1 ∧ lnR (G.2.1 (F a 10)) (G.2.1 (F a 1)) l6_6.toInt p0.toInt p1.toInt p2.toInt p3.toInt) ∨ (l5_6.toInt = 0 ∧ ¬ lnR (G.2.1 (F a 10)) (G.2.1 (F a 1)) l6_6.toInt p0.toInt p1.toInt p2.toInt p3.toInt))
    (e0 : 0 ≤ p0.toInt ∧ p0.toInt < 3 ∧ 0 ≤ p1.toInt ∧ p1.toInt < 30)
    (e1 : 0 ≤ p3.toInt ∧ p3.toInt < 30)
    (I6_0 : 0 ≤ l6_6.toInt ∧ l6_6.toInt ≤ 12)
    (hm6 : 100 - l6_6.toInt < (((N6) + 1 : Nat) : Int))
    (c10 : (12 : Int) ≤ l6_6.toInt)
    (c100 : ¬ (l5_6.toInt = 0)) :
    RM (G.2.1 (F a 1)) 0 := by
  first | assumption | omega
theorem v_X11_leansOn_117_3 {K : Nat → Nat} {F : Nat → Nat → Nat} (a : Nat) (G : XG) (l5_6 : Int32) (l6_6 : Int32) (p0 : Int32) (p1 : Int32) (p2 : Int32) (p3 : Int32) (N6 : Nat) (x106 : Int32)
    (ha : K a = 13)
    (hR : RV (G.2.1 (F a 10)))
    (hM : RM (G.2.1 (F a 1)) (0))
    (pl : (l5_6.toInt = 1 ∧ lnR (G.2.1 (F a 10)) (G.2.1 (F a 1)) l6_6.toInt p0.toInt p1.toInt p2.toInt p3.toInt) ∨ (l5_6.toInt = 0 ∧ ¬ lnR (G.2.1 (F a 10)) (G.2.1 (F a 1)) l6_6.toInt p0.toInt p1.toInt p2.toInt p3.toInt))
    (e0 : 0 ≤ p0.toInt ∧ p0.toInt < 3 ∧ 0 ≤ p1.toInt ∧ p1.toInt < 30)
    (e1 : 0 ≤ p3.toInt ∧ p3.toInt < 30)
    (I6_0 : 0 ≤ l6_6.toInt ∧ l6_6.toInt ≤ 12)
    (hm6 : 100 - l6_6.toInt < (((N6) + 1 : Nat) : Int))
    (c10 : (12 : Int) ≤ l6_6.toInt)
    (c100 : ¬ (l5_6.toInt = 0))
    (t106 : (x106.toInt = 1 ∧ (cel (mw (G.2.1 (F a 1)) 0) (p0.toInt) (p1.toInt) 0) ≠ -2000) ∨ (x106.toInt = 0 ∧ (cel (mw (G.2.1 (F a 1)) 0) (p0.toInt) (p1.toInt) 0) = -2000))
    (c109 : x106.toInt = 0) :
    ((0 : Int) = 1 ∧ lnM (G.2.1 (F a 10)) (mw (G.2.1 (F a 1)) 0) 12 p0.toInt p1.toInt p2.toInt p3.toInt) ∨ ((0 : Int) = 0 ∧ ¬ lnM (G.2.1 (F a 10)) (mw (G.2.1 (F a 1)) 0) 12 p0.toInt p1.toInt p2.toInt p3.toInt) := by
  have e12 : l6_6.toInt = 12 := by omega
  rw [e12] at pl
  rcases pl with ⟨a1, a2⟩ | ⟨a1, a2⟩
  · first
      | (exfalso; omega)
      | exact Or.inl ⟨rfl, lnR_M hR hM ⟨by omega, by omega⟩ (by decide) (by omega) a2⟩
      | exact Or.inr ⟨rfl, lnM_no hM (by omega) (by omega)⟩
  · first
      | (exfalso; omega)
      | exact Or.inr ⟨rfl, fun h => a2 (lnM_R hR hM ⟨by omega, by omega⟩ (by decide) (by omega) h)⟩
theorem v_X11_leansOn_117_4 {K : Nat → Nat} {F : Nat → Nat → Nat} (a : Nat) (G : XG) (l5_6 : Int32) (l6_6 : Int32) (p0 : Int32) (p1 : Int32) (p2 : Int32) (p3 : Int32) (N6 : Nat) (x106 : Int32)
    (ha : K a = 13)
    (hR : RV (G.2.1 (F a 10)))
    (hM : RM (G.2.1 (F a 1)) (0))
    (pl : (l5_6.toInt = 1 ∧ lnR (G.2.1 (F a 10)) (G.2.1 (F a 1)) l6_6.toInt p0.toInt p1.toInt p2.toInt p3.toInt) ∨ (l5_6.toInt = 0 ∧ ¬ lnR (G.2.1 (F a 10)) (G.2.1 (F a 1)) l6_6.toInt p0.toInt p1.toInt p2.toInt p3.toInt))
    (e0 : 0 ≤ p0.toInt ∧ p0.toInt < 3 ∧ 0 ≤ p1.toInt ∧ p1.toInt < 30)
    (e1 : 0 ≤ p3.toInt ∧ p3.toInt < 30)
    (I6_0 : 0 ≤ l6_6.toInt ∧ l6_6.toInt ≤ 12)
    (hm6 : 100 - l6_6.toInt < (((N6) + 1 : Nat) : Int))
    (c10 : (12 : Int) ≤ l6_6.toInt)
    (c100 : ¬ (l5_6.toInt = 0))
    (t106 : (x106.toInt = 1 ∧ (cel (mw (G.2.1 (F a 1)) 0) (p0.toInt) (p1.toInt) 0) ≠ -2000) ∨ (x106.toInt = 0 ∧ (cel (mw (G.2.1 (F a 1)) 0) (p0.toInt) (p1.toInt) 0) = -2000))
    (c109 : ¬ (x106.toInt = 0)) :
    ((1 : Int) = 1 ∧ lnM (G.2.1 (F a 10)) (mw (G.2.1 (F a 1)) 0) 12 p0.toInt p1.toInt p2.toInt p3.toInt) ∨ ((1 : Int) = 0 ∧ ¬ lnM (G.2.1 (F a 10)) (mw (G.2.1 (F a 1)) 0) 12 p0.toInt p1.toInt p2.toInt p3.toInt) := by
  have e12 : l6_6.toInt = 12 := by omega
  rw [e12] at pl
  rcases pl with ⟨a1, a2⟩ | ⟨a1, a2⟩
  · first
      | (exfalso; omega)
      | exact Or.inl ⟨rfl, lnR_M hR hM ⟨by omega, by omega⟩ (by decide) (by omega) a2⟩
      | exact Or.inr ⟨rfl, lnM_no hM (by omega) (by omega)⟩
  · first
      | (exfalso; omega)
      | exact Or.inr ⟨rfl, fun h => a2 (lnM_R hR hM ⟨by omega, by omega⟩ (by decide) (by omega) h)⟩
theorem v_X11_leansOn_95_5 {F : Nat → Nat → Nat} (a : Nat) (G : XG) (l6_6 : Int32) (p0 : Int32) (p1 : Int32) (p2 : Int32) (p3 : Int32) (k_90 : Int32)
    (pj : (k_90.toInt = 1 ∧ lnR (G.2.1 (F a 10)) (G.2.1 (F a 1)) (l6_6.toInt + 1) p0.toInt p1.toInt p2.toInt p3.toInt) ∨ (k_90.toInt = 0 ∧ ¬ lnR (G.2.1 (F a 10)) (G.2.1 (F a 1)) (l6_6.toInt + 1) p0.toInt p1.toInt p2.toInt p3.toInt)) :
    (k_90.toInt = 1 ∧ lnR (G.2.1 (F a 10)) (G.2.1 (F a 1)) (l6_6.toInt + 1) p0.toInt p1.toInt p2.toInt p3.toInt) ∨ (k_90.toInt = 0 ∧ ¬ lnR (G.2.1 (F a 10)) (G.2.1 (F a 1)) (l6_6.toInt + 1) p0.toInt p1.toInt p2.toInt p3.toInt) := by
  exact pj
theorem v_X11_leansOn_86_6 {K : Nat → Nat} {F : Nat → Nat → Nat} (a : Nat) (G : XG) (l5_6 : Int32) (l6_6 : Int32) (p0 : Int32) (p1 : Int32) (p2 : Int32) (p3 : Int32) (N6 : Nat)
    (ha : K a = 13)
    (pl : (l5_6.toInt = 1 ∧ lnR (G.2.1 (F a 10)) (G.2.1 (F a 1)) l6_6.toInt p0.toInt p1.toInt p2.toInt p3.toInt) ∨ (l5_6.toInt = 0 ∧ ¬ lnR (G.2.1 (F a 10)) (G.2.1 (F a 1)) l6_6.toInt p0.toInt p1.toInt p2.toInt p3.toInt))
    (e0 : 0 ≤ p0.toInt ∧ p0.toInt < 3 ∧ 0 ≤ p1.toInt ∧ p1.toInt < 30)
    (e1 : 0 ≤ p3.toInt ∧ p3.toInt < 30)
    (I6_0 : 0 ≤ l6_6.toInt ∧ l6_6.toInt ≤ 12)
    (hm6 : 100 - l6_6.toInt < (((N6) + 1 : Nat) : Int))
    (c10 : ¬ ((12 : Int) ≤ l6_6.toInt))
    (c15 : l5_6.toInt ≠ 0) :
    ((1 : Int) = 1 ∧ lnR (G.2.1 (F a 10)) (G.2.1 (F a 1)) (l6_6.toInt + 1) p0.toInt p1.toInt p2.toInt p3.toInt) ∨ ((1 : Int) = 0 ∧ ¬ lnR (G.2.1 (F a 10)) (G.2.1 (F a 1)) (l6_6.toInt + 1) p0.toInt p1.toInt p2.toInt p3.toInt) := by
  rcases pl with ⟨a1, a2⟩ | ⟨a1, a2⟩
  · first
      | exact Or.inl ⟨rfl, (lnR_s (by omega)).mpr (Or.inl a2)⟩
      | (exfalso; omega)
  · first
      | exact Or.inr ⟨rfl, fun h => ((lnR_s (by omega)).mp h).elim a2 (fun h9 => by
          obtain ⟨h1, h2, h3, h4⟩ := h9
          omega)⟩
      | exact Or.inl ⟨rfl, (lnR_s (by omega)).mpr (Or.inr ⟨by omega, by omega, by omega, by omega⟩)⟩
      | (exfalso; omega)
theorem v_X11_leansOn_89_7 {K : Nat → Nat} {F : Nat → Nat → Nat} (a : Nat) (G : XG) (l5_6 : Int32) (l6_6 : Int32) (p0 : Int32) (p1 : Int32) (p2 : Int32) (p3 : Int32) (N6 : Nat) (x21 : Int32)
    (ha : K a = 13)
    (pl : (l5_6.toInt = 1 ∧ lnR (G.2.1 (F a 10)) (G.2.1 (F a 1)) l6_6.toInt p0.toInt p1.toInt p2.toInt p3.toInt) ∨ (l5_6.toInt = 0 ∧ ¬ lnR (G.2.1 (F a 10)) (G.2.1 (F a 1)) l6_6.toInt p0.toInt p1.toInt p2.toInt p3.toInt))
    (e0 : 0 ≤ p0.toInt ∧ p0.toInt < 3 ∧ 0 ≤ p1.toInt ∧ p1.toInt < 30)
    (e1 : 0 ≤ p3.toInt ∧ p3.toInt < 30)
    (I6_0 : 0 ≤ l6_6.toInt ∧ l6_6.toInt ≤ 12)
    (hm6 : 100 - l6_6.toInt < (((N6) + 1 : Nat) : Int))
    (c10 : ¬ ((12 : Int) ≤ l6_6.toInt))
    (c15 : ¬ (l5_6.toInt ≠ 0))
    (t21 : (x21.toInt = 1 ∧ 0 ≤ l6_6.toInt ∧ l6_6.toInt ≤ 11 ∧ (aI (G.2.1 (F a 10)) (10 * l6_6.toInt + 0)) ≠ -1) ∨ (x21.toInt = 0 ∧ (¬ (0 ≤ l6_6.toInt ∧ l6_6.toInt ≤ 11) ∨ (aI (G.2.1 (F a 10)) (10 * l6_6.toInt + 0)) = -1)))
    (c24 : x21.toInt = 0) :
    ((0 : Int) = 1 ∧ lnR (G.2.1 (F a 10)) (G.2.1 (F a 1)) (l6_6.toInt + 1) p0.toInt p1.toInt p2.toInt p3.toInt) ∨ ((0 : Int) = 0 ∧ ¬ lnR (G.2.1 (F a 10)) (G.2.1 (F a 1)) (l6_6.toInt + 1) p0.toInt p1.toInt p2.toInt p3.toInt) := by
  rcases pl with ⟨a1, a2⟩ | ⟨a1, a2⟩
  · first
      | exact Or.inl ⟨rfl, (lnR_s (by omega)).mpr (Or.inl a2)⟩
      | (exfalso; omega)
  · first
      | exact Or.inr ⟨rfl, fun h => ((lnR_s (by omega)).mp h).elim a2 (fun h9 => by
          obtain ⟨h1, h2, h3, h4⟩ := h9
          omega)⟩
      | exact Or.inl ⟨rfl, (lnR_s (by omega)).mpr (Or.inr ⟨by omega, by omega, by omega, by omega⟩)⟩
      | (exfalso; omega)
theorem v_X11_leansOn_89_8 {K : Nat → Nat} {F : Nat → Nat → Nat} (a : Nat) (G : XG) (l5_6 : Int32) (l6_6 : Int32) (p0 : Int32) (p1 : Int32) (p2 : Int32) (p3 : Int32) (N6 : Nat) (x21 : Int32)
    (ha : K a = 13)
    (pl : (l5_6.toInt = 1 ∧ lnR (G.2.1 (F a 10)) (G.2.1 (F a 1)) l6_6.toInt p0.toInt p1.toInt p2.toInt p3.toInt) ∨ (l5_6.toInt = 0 ∧ ¬ lnR (G.2.1 (F a 10)) (G.2.1 (F a 1)) l6_6.toInt p0.toInt p1.toInt p2.toInt p3.toInt))
    (e0 : 0 ≤ p0.toInt ∧ p0.toInt < 3 ∧ 0 ≤ p1.toInt ∧ p1.toInt < 30)
    (e1 : 0 ≤ p3.toInt ∧ p3.toInt < 30)
    (I6_0 : 0 ≤ l6_6.toInt ∧ l6_6.toInt ≤ 12)
    (hm6 : 100 - l6_6.toInt < (((N6) + 1 : Nat) : Int))
    (c10 : ¬ ((12 : Int) ≤ l6_6.toInt))
    (c15 : ¬ (l5_6.toInt ≠ 0))
    (t21 : (x21.toInt = 1 ∧ 0 ≤ l6_6.toInt ∧ l6_6.toInt ≤ 11 ∧ (aI (G.2.1 (F a 10)) (10 * l6_6.toInt + 0)) ≠ -1) ∨ (x21.toInt = 0 ∧ (¬ (0 ≤ l6_6.toInt ∧ l6_6.toInt ≤ 11) ∨ (aI (G.2.1 (F a 10)) (10 * l6_6.toInt + 0)) = -1)))
    (c24 : ¬ (x21.toInt = 0))
    (z27 : (-1 ≤ (aI (G.2.1 (F a 10)) (10 * l6_6.toInt + 0)) ∧ (aI (G.2.1 (F a 10)) (10 * l6_6.toInt + 0)) ≤ 5) ∧ (0 ≤ (aI (G.2.1 (F a 10)) (10 * l6_6.toInt + 1)) ∧ (aI (G.2.1 (F a 10)) (10 * l6_6.toInt + 1)) ≤ 2) ∧ (0 ≤ (aI (G.2.1 (F a 10)) (10 * l6_6.toInt + 2)) ∧ (aI (G.2.1 (F a 10)) (10 * l6_6.toInt + 2)) ≤ 2) ∧ (-1 ≤ (aI (G.2.1 (F a 10)) (10 * l6_6.toInt + 3)) ∧ (aI (G.2.1 (F a 10)) (10 * l6_6.toInt + 3)) ≤ 2) ∧ ((aI (G.2.1 (F a 10)) (10 * l6_6.toInt + 0)) = 1 ∨ (aI (G.2.1 (F a 10)) (10 * l6_6.toInt + 0)) = 3 ∨ (aI (G.2.1 (F a 10)) (10 * l6_6.toInt + 0)) = 4 → 0 ≤ (aI (G.2.1 (F a 10)) (10 * l6_6.toInt + 3))))
    (c35 : (aI (G.2.1 (F a 10)) (10 * l6_6.toInt + 0)) ≠ (1 : Int)) :
    ((0 : Int) = 1 ∧ lnR (G.2.1 (F a 10)) (G.2.1 (F a 1)) (l6_6.toInt + 1) p0.toInt p1.toInt p2.toInt p3.toInt) ∨ ((0 : Int) = 0 ∧ ¬ lnR (G.2.1 (F a 10)) (G.2.1 (F a 1)) (l6_6.toInt + 1) p0.toInt p1.toInt p2.toInt p3.toInt) := by
  rcases pl with ⟨a1, a2⟩ | ⟨a1, a2⟩
  · first
      | exact Or.inl ⟨rfl, (lnR_s (by omega)).mpr (Or.inl a2)⟩
      | (exfalso; omega)
  · first
      | exact Or.inr ⟨rfl, fun h => ((lnR_s (by omega)).mp h).elim a2 (fun h9 => by
          obtain ⟨h1, h2, h3, h4⟩ := h9
          omega)⟩
      | exact Or.inl ⟨rfl, (lnR_s (by omega)).mpr (Or.inr ⟨by omega, by omega, by omega, by omega⟩)⟩
      | (exfalso; omega)
theorem v_X11_leansOn_89_9 {K : Nat → Nat} {F : Nat → Nat → Nat} (a : Nat) (G : XG) (l5_6 : Int32) (l6_6 : Int32) (p0 : Int32) (p1 : Int32) (p2 : Int32) (p3 : Int32) (N6 : Nat) (x21 : Int32)
    (ha : K a = 13)
    (pl : (l5_6.toInt = 1 ∧ lnR (G.2.1 (F a 10)) (G.2.1 (F a 1)) l6_6.toInt p0.toInt p1.toInt p2.toInt p3.toInt) ∨ (l5_6.toInt = 0 ∧ ¬ lnR (G.2.1 (F a 10)) (G.2.1 (F a 1)) l6_6.toInt p0.toInt p1.toInt p2.toInt p3.toInt))
    (e0 : 0 ≤ p0.toInt ∧ p0.toInt < 3 ∧ 0 ≤ p1.toInt ∧ p1.toInt < 30)
    (e1 : 0 ≤ p3.toInt ∧ p3.toInt < 30)
    (I6_0 : 0 ≤ l6_6.toInt ∧ l6_6.toInt ≤ 12)
    (hm6 : 100 - l6_6.toInt < (((N6) + 1 : Nat) : Int))
    (c10 : ¬ ((12 : Int) ≤ l6_6.toInt))
    (c15 : ¬ (l5_6.toInt ≠ 0))
    (t21 : (x21.toInt = 1 ∧ 0 ≤ l6_6.toInt ∧ l6_6.toInt ≤ 11 ∧ (aI (G.2.1 (F a 10)) (10 * l6_6.toInt + 0)) ≠ -1) ∨ (x21.toInt = 0 ∧ (¬ (0 ≤ l6_6.toInt ∧ l6_6.toInt ≤ 11) ∨ (aI (G.2.1 (F a 10)) (10 * l6_6.toInt + 0)) = -1)))
    (c24 : ¬ (x21.toInt = 0))
    (z27 : (-1 ≤ (aI (G.2.1 (F a 10)) (10 * l6_6.toInt + 0)) ∧ (aI (G.2.1 (F a 10)) (10 * l6_6.toInt + 0)) ≤ 5) ∧ (0 ≤ (aI (G.2.1 (F a 10)) (10 * l6_6.toInt + 1)) ∧ (aI (G.2.1 (F a 10)) (10 * l6_6.toInt + 1)) ≤ 2) ∧ (0 ≤ (aI (G.2.1 (F a 10)) (10 * l6_6.toInt + 2)) ∧ (aI (G.2.1 (F a 10)) (10 * l6_6.toInt + 2)) ≤ 2) ∧ (-1 ≤ (aI (G.2.1 (F a 10)) (10 * l6_6.toInt + 3)) ∧ (aI (G.2.1 (F a 10)) (10 * l6_6.toInt + 3)) ≤ 2) ∧ ((aI (G.2.1 (F a 10)) (10 * l6_6.toInt + 0)) = 1 ∨ (aI (G.2.1 (F a 10)) (10 * l6_6.toInt + 0)) = 3 ∨ (aI (G.2.1 (F a 10)) (10 * l6_6.toInt + 0)) = 4 → 0 ≤ (aI (G.2.1 (F a 10)) (10 * l6_6.toInt + 3))))
    (c35 : ¬ ((aI (G.2.1 (F a 10)) (10 * l6_6.toInt + 0)) ≠ (1 : Int)))
    (c46 : (aI (G.2.1 (F a 10)) (10 * l6_6.toInt + 3)) ≠ p2.toInt) :
    ((0 : Int) = 1 ∧ lnR (G.2.1 (F a 10)) (G.2.1 (F a 1)) (l6_6.toInt + 1) p0.toInt p1.toInt p2.toInt p3.toInt) ∨ ((0 : Int) = 0 ∧ ¬ lnR (G.2.1 (F a 10)) (G.2.1 (F a 1)) (l6_6.toInt + 1) p0.toInt p1.toInt p2.toInt p3.toInt) := by
  rcases pl with ⟨a1, a2⟩ | ⟨a1, a2⟩
  · first
      | exact Or.inl ⟨rfl, (lnR_s (by omega)).mpr (Or.inl a2)⟩
      | (exfalso; omega)
  · first
      | exact Or.inr ⟨rfl, fun h => ((lnR_s (by omega)).mp h).elim a2 (fun h9 => by
          obtain ⟨h1, h2, h3, h4⟩ := h9
          omega)⟩
      | exact Or.inl ⟨rfl, (lnR_s (by omega)).mpr (Or.inr ⟨by omega, by omega, by omega, by omega⟩)⟩
      | (exfalso; omega)
theorem v_X11_leansOn_89_10 {K : Nat → Nat} {F : Nat → Nat → Nat} (a : Nat) (G : XG) (l5_6 : Int32) (l6_6 : Int32) (p0 : Int32) (p1 : Int32) (p2 : Int32) (p3 : Int32) (N6 : Nat) (x21 : Int32)
    (ha : K a = 13)
    (pl : (l5_6.toInt = 1 ∧ lnR (G.2.1 (F a 10)) (G.2.1 (F a 1)) l6_6.toInt p0.toInt p1.toInt p2.toInt p3.toInt) ∨ (l5_6.toInt = 0 ∧ ¬ lnR (G.2.1 (F a 10)) (G.2.1 (F a 1)) l6_6.toInt p0.toInt p1.toInt p2.toInt p3.toInt))
    (e0 : 0 ≤ p0.toInt ∧ p0.toInt < 3 ∧ 0 ≤ p1.toInt ∧ p1.toInt < 30)
    (e1 : 0 ≤ p3.toInt ∧ p3.toInt < 30)
    (I6_0 : 0 ≤ l6_6.toInt ∧ l6_6.toInt ≤ 12)
    (hm6 : 100 - l6_6.toInt < (((N6) + 1 : Nat) : Int))
    (c10 : ¬ ((12 : Int) ≤ l6_6.toInt))
    (c15 : ¬ (l5_6.toInt ≠ 0))
    (t21 : (x21.toInt = 1 ∧ 0 ≤ l6_6.toInt ∧ l6_6.toInt ≤ 11 ∧ (aI (G.2.1 (F a 10)) (10 * l6_6.toInt + 0)) ≠ -1) ∨ (x21.toInt = 0 ∧ (¬ (0 ≤ l6_6.toInt ∧ l6_6.toInt ≤ 11) ∨ (aI (G.2.1 (F a 10)) (10 * l6_6.toInt + 0)) = -1)))
    (c24 : ¬ (x21.toInt = 0))
    (z27 : (-1 ≤ (aI (G.2.1 (F a 10)) (10 * l6_6.toInt + 0)) ∧ (aI (G.2.1 (F a 10)) (10 * l6_6.toInt + 0)) ≤ 5) ∧ (0 ≤ (aI (G.2.1 (F a 10)) (10 * l6_6.toInt + 1)) ∧ (aI (G.2.1 (F a 10)) (10 * l6_6.toInt + 1)) ≤ 2) ∧ (0 ≤ (aI (G.2.1 (F a 10)) (10 * l6_6.toInt + 2)) ∧ (aI (G.2.1 (F a 10)) (10 * l6_6.toInt + 2)) ≤ 2) ∧ (-1 ≤ (aI (G.2.1 (F a 10)) (10 * l6_6.toInt + 3)) ∧ (aI (G.2.1 (F a 10)) (10 * l6_6.toInt + 3)) ≤ 2) ∧ ((aI (G.2.1 (F a 10)) (10 * l6_6.toInt + 0)) = 1 ∨ (aI (G.2.1 (F a 10)) (10 * l6_6.toInt + 0)) = 3 ∨ (aI (G.2.1 (F a 10)) (10 * l6_6.toInt + 0)) = 4 → 0 ≤ (aI (G.2.1 (F a 10)) (10 * l6_6.toInt + 3))))
    (c35 : ¬ ((aI (G.2.1 (F a 10)) (10 * l6_6.toInt + 0)) ≠ (1 : Int)))
    (c46 : ¬ ((aI (G.2.1 (F a 10)) (10 * l6_6.toInt + 3)) ≠ p2.toInt))
    (c57 : (aI (G.2.1 (F a 10)) (10 * l6_6.toInt + 1)) ≠ p0.toInt) :
    ((0 : Int) = 1 ∧ lnR (G.2.1 (F a 10)) (G.2.1 (F a 1)) (l6_6.toInt + 1) p0.toInt p1.toInt p2.toInt p3.toInt) ∨ ((0 : Int) = 0 ∧ ¬ lnR (G.2.1 (F a 10)) (G.2.1 (F a 1)) (l6_6.toInt + 1) p0.toInt p1.toInt p2.toInt p3.toInt) := by
  rcases pl with ⟨a1, a2⟩ | ⟨a1, a2⟩
  · first
      | exact Or.inl ⟨rfl, (lnR_s (by omega)).mpr (Or.inl a2)⟩
      | (exfalso; omega)
  · first
      | exact Or.inr ⟨rfl, fun h => ((lnR_s (by omega)).mp h).elim a2 (fun h9 => by
          obtain ⟨h1, h2, h3, h4⟩ := h9
          omega)⟩
      | exact Or.inl ⟨rfl, (lnR_s (by omega)).mpr (Or.inr ⟨by omega, by omega, by omega, by omega⟩)⟩
      | (exfalso; omega)
theorem v_X11_leansOn_89_11 {K : Nat → Nat} {F : Nat → Nat → Nat} (a : Nat) (G : XG) (l5_6 : Int32) (l6_6 : Int32) (p0 : Int32) (p1 : Int32) (p2 : Int32) (p3 : Int32) (N6 : Nat) (x21 : Int32) (x66 : Int32)
    (ha : K a = 13)
    (pl : (l5_6.toInt = 1 ∧ lnR (G.2.1 (F a 10)) (G.2.1 (F a 1)) l6_6.toInt p0.toInt p1.toInt p2.toInt p3.toInt) ∨ (l5_6.toInt = 0 ∧ ¬ lnR (G.2.1 (F a 10)) (G.2.1 (F a 1)) l6_6.toInt p0.toInt p1.toInt p2.toInt p3.toInt))
    (e0 : 0 ≤ p0.toInt ∧ p0.toInt < 3 ∧ 0 ≤ p1.toInt ∧ p1.toInt < 30)
    (e1 : 0 ≤ p3.toInt ∧ p3.toInt < 30)
    (I6_0 : 0 ≤ l6_6.toInt ∧ l6_6.toInt ≤ 12)
    (hm6 : 100 - l6_6.toInt < (((N6) + 1 : Nat) : Int))
    (c10 : ¬ ((12 : Int) ≤ l6_6.toInt))
    (c15 : ¬ (l5_6.toInt ≠ 0))
    (t21 : (x21.toInt = 1 ∧ 0 ≤ l6_6.toInt ∧ l6_6.toInt ≤ 11 ∧ (aI (G.2.1 (F a 10)) (10 * l6_6.toInt + 0)) ≠ -1) ∨ (x21.toInt = 0 ∧ (¬ (0 ≤ l6_6.toInt ∧ l6_6.toInt ≤ 11) ∨ (aI (G.2.1 (F a 10)) (10 * l6_6.toInt + 0)) = -1)))
    (c24 : ¬ (x21.toInt = 0))
    (z27 : (-1 ≤ (aI (G.2.1 (F a 10)) (10 * l6_6.toInt + 0)) ∧ (aI (G.2.1 (F a 10)) (10 * l6_6.toInt + 0)) ≤ 5) ∧ (0 ≤ (aI (G.2.1 (F a 10)) (10 * l6_6.toInt + 1)) ∧ (aI (G.2.1 (F a 10)) (10 * l6_6.toInt + 1)) ≤ 2) ∧ (0 ≤ (aI (G.2.1 (F a 10)) (10 * l6_6.toInt + 2)) ∧ (aI (G.2.1 (F a 10)) (10 * l6_6.toInt + 2)) ≤ 2) ∧ (-1 ≤ (aI (G.2.1 (F a 10)) (10 * l6_6.toInt + 3)) ∧ (aI (G.2.1 (F a 10)) (10 * l6_6.toInt + 3)) ≤ 2) ∧ ((aI (G.2.1 (F a 10)) (10 * l6_6.toInt + 0)) = 1 ∨ (aI (G.2.1 (F a 10)) (10 * l6_6.toInt + 0)) = 3 ∨ (aI (G.2.1 (F a 10)) (10 * l6_6.toInt + 0)) = 4 → 0 ≤ (aI (G.2.1 (F a 10)) (10 * l6_6.toInt + 3))))
    (c35 : ¬ ((aI (G.2.1 (F a 10)) (10 * l6_6.toInt + 0)) ≠ (1 : Int)))
    (c46 : ¬ ((aI (G.2.1 (F a 10)) (10 * l6_6.toInt + 3)) ≠ p2.toInt))
    (c57 : ¬ ((aI (G.2.1 (F a 10)) (10 * l6_6.toInt + 1)) ≠ p0.toInt))
    (t66 : 0 ≤ p0.toInt ∧ p0.toInt ≤ 2 ∧ 0 ≤ p1.toInt ∧ p1.toInt ≤ 29 → x66.toInt = 4 * (30 * p0.toInt + p1.toInt))
    (c82 : (aI (G.2.1 (F a 1)) (4 * (30 * p0.toInt + p1.toInt) + 1 + (aI (G.2.1 (F a 10)) (10 * l6_6.toInt + 2)))) ≠ p3.toInt) :
    ((0 : Int) = 1 ∧ lnR (G.2.1 (F a 10)) (G.2.1 (F a 1)) (l6_6.toInt + 1) p0.toInt p1.toInt p2.toInt p3.toInt) ∨ ((0 : Int) = 0 ∧ ¬ lnR (G.2.1 (F a 10)) (G.2.1 (F a 1)) (l6_6.toInt + 1) p0.toInt p1.toInt p2.toInt p3.toInt) := by
  rcases pl with ⟨a1, a2⟩ | ⟨a1, a2⟩
  · first
      | exact Or.inl ⟨rfl, (lnR_s (by omega)).mpr (Or.inl a2)⟩
      | (exfalso; omega)
  · first
      | exact Or.inr ⟨rfl, fun h => ((lnR_s (by omega)).mp h).elim a2 (fun h9 => by
          obtain ⟨h1, h2, h3, h4⟩ := h9
          omega)⟩
      | exact Or.inl ⟨rfl, (lnR_s (by omega)).mpr (Or.inr ⟨by omega, by omega, by omega, by omega⟩)⟩
      | (exfalso; omega)
theorem v_X11_leansOn_86_12 {K : Nat → Nat} {F : Nat → Nat → Nat} (a : Nat) (G : XG) (l5_6 : Int32) (l6_6 : Int32) (p0 : Int32) (p1 : Int32) (p2 : Int32) (p3 : Int32) (N6 : Nat) (x21 : Int32) (x66 : Int32)
    (ha : K a = 13)
    (pl : (l5_6.toInt = 1 ∧ lnR (G.2.1 (F a 10)) (G.2.1 (F a 1)) l6_6.toInt p0.toInt p1.toInt p2.toInt p3.toInt) ∨ (l5_6.toInt = 0 ∧ ¬ lnR (G.2.1 (F a 10)) (G.2.1 (F a 1)) l6_6.toInt p0.toInt p1.toInt p2.toInt p3.toInt))
    (e0 : 0 ≤ p0.toInt ∧ p0.toInt < 3 ∧ 0 ≤ p1.toInt ∧ p1.toInt < 30)
    (e1 : 0 ≤ p3.toInt ∧ p3.toInt < 30)
    (I6_0 : 0 ≤ l6_6.toInt ∧ l6_6.toInt ≤ 12)
    (hm6 : 100 - l6_6.toInt < (((N6) + 1 : Nat) : Int))
    (c10 : ¬ ((12 : Int) ≤ l6_6.toInt))
    (c15 : ¬ (l5_6.toInt ≠ 0))
    (t21 : (x21.toInt = 1 ∧ 0 ≤ l6_6.toInt ∧ l6_6.toInt ≤ 11 ∧ (aI (G.2.1 (F a 10)) (10 * l6_6.toInt + 0)) ≠ -1) ∨ (x21.toInt = 0 ∧ (¬ (0 ≤ l6_6.toInt ∧ l6_6.toInt ≤ 11) ∨ (aI (G.2.1 (F a 10)) (10 * l6_6.toInt + 0)) = -1)))
    (c24 : ¬ (x21.toInt = 0))
    (z27 : (-1 ≤ (aI (G.2.1 (F a 10)) (10 * l6_6.toInt + 0)) ∧ (aI (G.2.1 (F a 10)) (10 * l6_6.toInt + 0)) ≤ 5) ∧ (0 ≤ (aI (G.2.1 (F a 10)) (10 * l6_6.toInt + 1)) ∧ (aI (G.2.1 (F a 10)) (10 * l6_6.toInt + 1)) ≤ 2) ∧ (0 ≤ (aI (G.2.1 (F a 10)) (10 * l6_6.toInt + 2)) ∧ (aI (G.2.1 (F a 10)) (10 * l6_6.toInt + 2)) ≤ 2) ∧ (-1 ≤ (aI (G.2.1 (F a 10)) (10 * l6_6.toInt + 3)) ∧ (aI (G.2.1 (F a 10)) (10 * l6_6.toInt + 3)) ≤ 2) ∧ ((aI (G.2.1 (F a 10)) (10 * l6_6.toInt + 0)) = 1 ∨ (aI (G.2.1 (F a 10)) (10 * l6_6.toInt + 0)) = 3 ∨ (aI (G.2.1 (F a 10)) (10 * l6_6.toInt + 0)) = 4 → 0 ≤ (aI (G.2.1 (F a 10)) (10 * l6_6.toInt + 3))))
    (c35 : ¬ ((aI (G.2.1 (F a 10)) (10 * l6_6.toInt + 0)) ≠ (1 : Int)))
    (c46 : ¬ ((aI (G.2.1 (F a 10)) (10 * l6_6.toInt + 3)) ≠ p2.toInt))
    (c57 : ¬ ((aI (G.2.1 (F a 10)) (10 * l6_6.toInt + 1)) ≠ p0.toInt))
    (t66 : 0 ≤ p0.toInt ∧ p0.toInt ≤ 2 ∧ 0 ≤ p1.toInt ∧ p1.toInt ≤ 29 → x66.toInt = 4 * (30 * p0.toInt + p1.toInt))
    (c82 : ¬ ((aI (G.2.1 (F a 1)) (4 * (30 * p0.toInt + p1.toInt) + 1 + (aI (G.2.1 (F a 10)) (10 * l6_6.toInt + 2)))) ≠ p3.toInt)) :
    ((1 : Int) = 1 ∧ lnR (G.2.1 (F a 10)) (G.2.1 (F a 1)) (l6_6.toInt + 1) p0.toInt p1.toInt p2.toInt p3.toInt) ∨ ((1 : Int) = 0 ∧ ¬ lnR (G.2.1 (F a 10)) (G.2.1 (F a 1)) (l6_6.toInt + 1) p0.toInt p1.toInt p2.toInt p3.toInt) := by
  rcases pl with ⟨a1, a2⟩ | ⟨a1, a2⟩
  · first
      | exact Or.inl ⟨rfl, (lnR_s (by omega)).mpr (Or.inl a2)⟩
      | (exfalso; omega)
  · first
      | exact Or.inr ⟨rfl, fun h => ((lnR_s (by omega)).mp h).elim a2 (fun h9 => by
          obtain ⟨h1, h2, h3, h4⟩ := h9
          omega)⟩
      | exact Or.inl ⟨rfl, (lnR_s (by omega)).mpr (Or.inr ⟨by omega, by omega, by omega, by omega⟩)⟩
      | (exfalso; omega)
theorem v_X11_leansOn_4_13 {K : Nat → Nat} {F : Nat → Nat → Nat} (a : Nat) (G : XG) (p0 : Int32) (p1 : Int32) (p3 : Int32) (p2 : Int32)
    (ha : K a = 13)
    (e0 : 0 ≤ p0.toInt ∧ p0.toInt < 3 ∧ 0 ≤ p1.toInt ∧ p1.toInt < 30)
    (e1 : 0 ≤ p3.toInt ∧ p3.toInt < 30) :
    ((0 : Int) = 1 ∧ lnR (G.2.1 (F a 10)) (G.2.1 (F a 1)) (0 : Int) p0.toInt p1.toInt p2.toInt p3.toInt) ∨ ((0 : Int) = 0 ∧ ¬ lnR (G.2.1 (F a 10)) (G.2.1 (F a 1)) (0 : Int) p0.toInt p1.toInt p2.toInt p3.toInt) := by
  exact Or.inr ⟨rfl, lnR_0 (by omega)⟩
