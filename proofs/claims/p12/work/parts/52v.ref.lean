theorem v_X11_back_31_1 {F : Nat → Nat → Nat} (a : Nat) (G : XG) (G6 : XG)
    (hR : RV (G.2.1 (F a 10)))
    (c_G6_F_a_10 : G6.2.1 (F a 10) = G.2.1 (F a 10)) :
    RV (G6.2.1 (F a 10)) := by simp only [c_G6_F_a_10]; assumption
theorem v_X11_back_129_2 {F : Nat → Nat → Nat} (a : Nat) (G : XG) (G31 : XG)
    (hR : RV (G.2.1 (F a 10)))
    (c_G31_F_a_10 : G31.2.1 (F a 10) = G.2.1 (F a 10)) :
    RV (G31.2.1 (F a 10)) := by simp only [c_G31_F_a_10]; assumption
theorem v_X11_back_129_3 {F : Nat → Nat → Nat} (a : Nat) (G : XG) (G31 : XG)
    (hM : RM (G.2.1 (F a 1)) (0))
    (hB : RM (G.2.1 (F a 2)) 0)
    (c_G31_F_a_1 : G31.2.1 (F a 1) = G.2.1 (F a 1)) :
    RM (G31.2.1 (F a 1)) (0 : Int) := by simp only [c_G31_F_a_1]; assumption
theorem v_X11_back_146_4 {K : Nat → Nat} {F : Nat → Nat → Nat} (a : Nat) (G2 : XG) (G : XG) (G6 : XG) (G31 : XG) (G129 : XG) (l2_36 : Int32) (p0 : Int32) (x140 : Int32) (x21 : Int32) (N36 : Nat)
    (ha : K a = 13)
    (hk9999 : K (F a 15) = 42)
    (hj9999 : F (F a 15) 99 = 15)
    (hk9999a : K (F a 17) = 43)
    (hj9999a : F (F a 17) 99 = 17)
    (hk9999b : K (F a 18) = 44)
    (hj9999b : F (F a 18) 99 = 18)
    (hk9999c : K (F a 11) = 38)
    (hj9999c : F (F a 11) 99 = 11)
    (hk9999d : K (F a 13) = 38)
    (hj9999d : F (F a 13) 99 = 13)
    (hk9999e : K (F a 22) = 45)
    (hj9999e : F (F a 22) 99 = 22)
    (hk9999f : K (F a 12) = 38)
    (hj9999f : F (F a 12) 99 = 12)
    (hk9999g : K (F a 1) = 30)
    (hj9999g : F (F a 1) 99 = 1)
    (hk9999h : K (F a 8) = 35)
    (hj9999h : F (F a 8) 99 = 8)
    (hk9999i : K (F a 10) = 37)
    (hj9999i : F (F a 10) 99 = 10)
    (hk9999j : K (F a 2) = 31)
    (hj9999j : F (F a 2) 99 = 2)
    (hk9999k : K (F a 3) = 32)
    (hj9999k : F (F a 3) 99 = 3)
    (hG2 : G2 = dput G a 0 0)
    (hF6 : XFr [(a, 20), (a, 21), (a, 23)] [] [] G2 G6)
    (hF31 : XFr [(a, 16)] [F a 15] [] G6 G31)
    (hF129 : XFr [] [F a 12] [] G31 G129)
    (hR : RV (G.2.1 (F a 10)))
    (hM : RM (G.2.1 (F a 1)) (0))
    (hB : RM (G.2.1 (F a 2)) 0)
    (hmk : ∀ m : Int, 0 ≤ m → m < ((G.1 a 7).toInt) → RM (G.2.1 (F a 3)) (360 * m))
    (oq31 : ORm (G.2.1 (F a 10)) (G31.2.1 (F a 15)) ((G31.1 a 16).toInt) 12)
    (oq31a : G31.2.2.2 = G6.2.2.2)
    (pk : ∀ j : Int, 0 ≤ j → j < l2_36.toInt → (aI (G.2.1 (F a 10)) (10 * aI (G31.2.1 (F a 15)) j + 6) = 0 → ∀ s : Int, sbj (aI (G.2.1 (F a 10)) (10 * aI (G31.2.1 (F a 15)) j + 0)) s → fzq (G.2.1 (F a 10)) (mw (G.2.1 (F a 3)) (360 * p0.toInt)) (aI (G31.2.1 (F a 15)) j) s = 0))
    (oq129 : LSt (G.2.1 (F a 10)) (G129.2.1 (F a 12)) (mw (G.2.1 (F a 1)) (0 : Int)) 12)
    (oq129a : G129.2.2.2 = G31.2.2.2)
    (e140 : x140.toInt = ((360 : Int) * p0.toInt))
    (m0 : 0 ≤ ((G.1 a 7).toInt) ∧ ((G.1 a 7).toInt) ≤ 8)
    (t6 : ((G6.1 a 20).toInt) = -2147483648 ∧ ((G6.1 a 21).toInt) = -2147483648 ∧ ((G6.1 a 23).toInt) = 0)
    (f41 : ((G.1 a 6).toInt) = 0 ∨ ((G.1 a 6).toInt) = 1)
    (c13 : ((G.1 a 6).toInt) ≠ 0)
    (t21 : (((G.1 a 6).toInt) ≠ 0 ∧ 0 ≤ p0.toInt ∧ p0.toInt ≤ ((G.1 a 7).toInt) - 1 ∧ x21.toInt = 1) ∨ (¬ (((G.1 a 6).toInt) ≠ 0 ∧ 0 ≤ p0.toInt ∧ p0.toInt ≤ ((G.1 a 7).toInt) - 1) ∧ x21.toInt = 0))
    (c24 : x21.toInt ≠ 0)
    (z34 : 0 ≤ ((G31.1 a 16).toInt) ∧ ((G31.1 a 16).toInt) ≤ 12)
    (I36_0 : 0 ≤ l2_36.toInt ∧ l2_36.toInt ≤ ((G31.1 a 16).toInt))
    (I36_1 : (0 : Int) ≤ l2_36.toInt)
    (hm36 : 2147483648 - l2_36.toInt < (((N36) + 1 : Nat) : Int))
    (c41 : ((G31.1 a 16).toInt) ≤ l2_36.toInt)
    (c_G129_F_a_1 : G129.2.1 (F a 1) = G.2.1 (F a 1))
    (c_G129_F_a_11 : G129.2.1 (F a 11) = G.2.1 (F a 11))
    (c_G129_F_a_13 : G129.2.1 (F a 13) = G.2.1 (F a 13))
    (c_G129_F_a_15 : G129.2.1 (F a 15) = G31.2.1 (F a 15))
    (c_G129_F_a_17 : G129.2.1 (F a 17) = G.2.1 (F a 17))
    (c_G129_F_a_18 : G129.2.1 (F a 18) = G.2.1 (F a 18))
    (c_G129_F_a_22 : G129.2.1 (F a 22) = G.2.1 (F a 22))
    (c_G129_F_a_3 : G129.2.1 (F a 3) = G.2.1 (F a 3))
    (c_G129_F_a_8 : G129.2.1 (F a 8) = G.2.1 (F a 8))
    (c_G31_F_a_3 : G31.2.1 (F a 3) = G.2.1 (F a 3))
    (c_G6_F_a_1 : G6.2.1 (F a 1) = G.2.1 (F a 1))
    (d_G129_a_0 : G129.1 a 0 = 0)
    (d_G129_a_16 : G129.1 a 16 = G31.1 a 16)
    (d_G129_a_19 : G129.1 a 19 = G.1 a 19)
    (d_G129_a_20 : G129.1 a 20 = G6.1 a 20)
    (d_G129_a_21 : G129.1 a 21 = G6.1 a 21)
    (d_G129_a_23 : G129.1 a 23 = G6.1 a 23)
    (d_G129_a_7 : G129.1 a 7 = G.1 a 7)
    (d_G6_a_7 : G6.1 a 7 = G.1 a 7) :
    (F a 3) ≠ (F a 1) := by
  intro e
  have h1 : K (F a 1) = 30 := by assumption
  have h2 : K (F a 3) = 32 := by assumption
  rw [← e, h2] at h1
  exact absurd h1 (by decide)
theorem v_X11_back_159_5 {F : Nat → Nat → Nat} (a : Nat) (G : XG) (G146 : XG)
    (hR : RV (G.2.1 (F a 10)))
    (c_G146_F_a_10 : G146.2.1 (F a 10) = G.2.1 (F a 10)) :
    RV (G146.2.1 (F a 10)) := by simp only [c_G146_F_a_10]; assumption
theorem v_X11_back_159_6 {K : Nat → Nat} {F : Nat → Nat → Nat} (a : Nat) (G : XG) (G6 : XG) (G31 : XG) (G129 : XG) (G146 : XG) (l2_36 : Int32) (p0 : Int32) (x21 : Int32) (N36 : Nat)
    (ha : K a = 13)
    (hmk : ∀ m : Int, 0 ≤ m → m < ((G.1 a 7).toInt) → RM (G.2.1 (F a 3)) (360 * m))
    (oq31a : G31.2.2.2 = G6.2.2.2)
    (oq129a : G129.2.2.2 = G31.2.2.2)
    (oq146 : CPd (G129.2.1 (F a 3)) (G129.2.1 (F a 1)) (G146.2.1 (F a 1)) ((360 : Int) * p0.toInt) (0 : Int) 360)
    (m0 : 0 ≤ ((G.1 a 7).toInt) ∧ ((G.1 a 7).toInt) ≤ 8)
    (t6 : ((G6.1 a 20).toInt) = -2147483648 ∧ ((G6.1 a 21).toInt) = -2147483648 ∧ ((G6.1 a 23).toInt) = 0)
    (f43 : ((G.1 a 6).toInt) = 0 ∨ ((G.1 a 6).toInt) = 1)
    (c13 : ((G.1 a 6).toInt) ≠ 0)
    (t21 : (((G.1 a 6).toInt) ≠ 0 ∧ 0 ≤ p0.toInt ∧ p0.toInt ≤ ((G.1 a 7).toInt) - 1 ∧ x21.toInt = 1) ∨ (¬ (((G.1 a 6).toInt) ≠ 0 ∧ 0 ≤ p0.toInt ∧ p0.toInt ≤ ((G.1 a 7).toInt) - 1) ∧ x21.toInt = 0))
    (c24 : x21.toInt ≠ 0)
    (z34 : 0 ≤ ((G31.1 a 16).toInt) ∧ ((G31.1 a 16).toInt) ≤ 12)
    (I36_0 : 0 ≤ l2_36.toInt ∧ l2_36.toInt ≤ ((G31.1 a 16).toInt))
    (I36_1 : (0 : Int) ≤ l2_36.toInt)
    (hm36 : 2147483648 - l2_36.toInt < (((N36) + 1 : Nat) : Int))
    (c41 : ((G31.1 a 16).toInt) ≤ l2_36.toInt)
    (c_G129_F_a_3 : G129.2.1 (F a 3) = G.2.1 (F a 3)) :
    RM (G146.2.1 (F a 1)) (0 : Int) := by
  exact CPd.rm oq146 (by decide) (by rw [c_G129_F_a_3]; exact hmk p0.toInt (by omega) (by omega))
theorem v_X11_back_172_7 {F : Nat → Nat → Nat} (a : Nat) (G : XG) (G159 : XG)
    (hR : RV (G.2.1 (F a 10)))
    (c_G159_F_a_10 : G159.2.1 (F a 10) = G.2.1 (F a 10)) :
    RV (G159.2.1 (F a 10)) := by simp only [c_G159_F_a_10]; assumption
theorem v_X11_back_172_8 {F : Nat → Nat → Nat} (a : Nat) (G : XG) (G159 : XG)
    (hM : RM (G.2.1 (F a 1)) (0))
    (hB : RM (G.2.1 (F a 2)) 0)
    (c_G159_F_a_2 : G159.2.1 (F a 2) = G.2.1 (F a 2)) :
    RM (G159.2.1 (F a 2)) (0 : Int) := by simp only [c_G159_F_a_2]; assumption
theorem v_X11_back_185_9 {F : Nat → Nat → Nat} (a : Nat) (G : XG) (G172 : XG)
    (hR : RV (G.2.1 (F a 10)))
    (c_G172_F_a_10 : G172.2.1 (F a 10) = G.2.1 (F a 10)) :
    RV (G172.2.1 (F a 10)) := by simp only [c_G172_F_a_10]; assumption
theorem v_X11_back_196_10 {F : Nat → Nat → Nat} (a : Nat) (G : XG) (G192 : XG)
    (hR : RV (G.2.1 (F a 10)))
    (c_G192_F_a_10 : G192.2.1 (F a 10) = G.2.1 (F a 10)) :
    RV (G192.2.1 (F a 10)) := by simp only [c_G192_F_a_10]; assumption
theorem v_X11_back_196_11 {K : Nat → Nat} {F : Nat → Nat → Nat} (a : Nat) (G : XG) (G6 : XG) (G31 : XG) (G129 : XG) (G146 : XG) (G159 : XG) (G172 : XG) (G192 : XG) (l2_36 : Int32) (p0 : Int32) (x21 : Int32) (N36 : Nat)
    (ha : K a = 13)
    (hmk : ∀ m : Int, 0 ≤ m → m < ((G.1 a 7).toInt) → RM (G.2.1 (F a 3)) (360 * m))
    (oq31a : G31.2.2.2 = G6.2.2.2)
    (oq129a : G129.2.2.2 = G31.2.2.2)
    (oq146 : CPd (G129.2.1 (F a 3)) (G129.2.1 (F a 1)) (G146.2.1 (F a 1)) ((360 : Int) * p0.toInt) (0 : Int) 360)
    (oq159a : G159.2.2.2 = G146.2.2.2)
    (oq172a : G172.2.2.2 = G159.2.2.2)
    (m0 : 0 ≤ ((G.1 a 7).toInt) ∧ ((G.1 a 7).toInt) ≤ 8)
    (t6 : ((G6.1 a 20).toInt) = -2147483648 ∧ ((G6.1 a 21).toInt) = -2147483648 ∧ ((G6.1 a 23).toInt) = 0)
    (f52 : ((G.1 a 6).toInt) = 0 ∨ ((G.1 a 6).toInt) = 1)
    (c13 : ((G.1 a 6).toInt) ≠ 0)
    (t21 : (((G.1 a 6).toInt) ≠ 0 ∧ 0 ≤ p0.toInt ∧ p0.toInt ≤ ((G.1 a 7).toInt) - 1 ∧ x21.toInt = 1) ∨ (¬ (((G.1 a 6).toInt) ≠ 0 ∧ 0 ≤ p0.toInt ∧ p0.toInt ≤ ((G.1 a 7).toInt) - 1) ∧ x21.toInt = 0))
    (c24 : x21.toInt ≠ 0)
    (z34 : 0 ≤ ((G31.1 a 16).toInt) ∧ ((G31.1 a 16).toInt) ≤ 12)
    (I36_0 : 0 ≤ l2_36.toInt ∧ l2_36.toInt ≤ ((G31.1 a 16).toInt))
    (I36_1 : (0 : Int) ≤ l2_36.toInt)
    (hm36 : 2147483648 - l2_36.toInt < (((N36) + 1 : Nat) : Int))
    (c41 : ((G31.1 a 16).toInt) ≤ l2_36.toInt)
    (c_G129_F_a_3 : G129.2.1 (F a 3) = G.2.1 (F a 3))
    (c_G192_F_a_1 : G192.2.1 (F a 1) = G146.2.1 (F a 1)) :
    RM (G192.2.1 (F a 1)) (0) := by
  first | exact CPd.rm oq146 (by decide) (by rw [c_G129_F_a_3]; exact hmk p0.toInt (by omega) (by omega)) | (rw [c_G192_F_a_1]; exact CPd.rm oq146 (by decide) (by rw [c_G129_F_a_3]; exact hmk p0.toInt (by omega) (by omega)))
theorem v_X11_back_196_12 {F : Nat → Nat → Nat} (a : Nat) (G : XG) (G192 : XG)
    (hM : RM (G.2.1 (F a 1)) (0))
    (hB : RM (G.2.1 (F a 2)) 0)
    (c_G192_F_a_2 : G192.2.1 (F a 2) = G.2.1 (F a 2)) :
    RM (G192.2.1 (F a 2)) 0 := by simp only [c_G192_F_a_2]; assumption
theorem v_X11_back_199_13 {K : Nat → Nat} {F : Nat → Nat → Nat} (a : Nat) (G : XG) (G6 : XG) (G31 : XG) (G129 : XG) (G146 : XG) (G159 : XG) (G172 : XG) (x191 : Int32) (G196 : XG) (l2_36 : Int32) (p0 : Int32) (x196 : Int32) (x21 : Int32) (N36 : Nat)
    (ha : K a = 13)
    (oq31 : ORm (G.2.1 (F a 10)) (G31.2.1 (F a 15)) ((G31.1 a 16).toInt) 12)
    (oq31a : G31.2.2.2 = G6.2.2.2)
    (pk : ∀ j : Int, 0 ≤ j → j < l2_36.toInt → (aI (G.2.1 (F a 10)) (10 * aI (G31.2.1 (F a 15)) j + 6) = 0 → ∀ s : Int, sbj (aI (G.2.1 (F a 10)) (10 * aI (G31.2.1 (F a 15)) j + 0)) s → fzq (G.2.1 (F a 10)) (mw (G.2.1 (F a 3)) (360 * p0.toInt)) (aI (G31.2.1 (F a 15)) j) s = 0))
    (oq129a : G129.2.2.2 = G31.2.2.2)
    (oq146 : CPd (G129.2.1 (F a 3)) (G129.2.1 (F a 1)) (G146.2.1 (F a 1)) ((360 : Int) * p0.toInt) (0 : Int) 360)
    (oq159a : G159.2.2.2 = G146.2.2.2)
    (oq172a : G172.2.2.2 = G159.2.2.2)
    (e191 : x191.toInt = (p0.toInt + (1 : Int)))
    (oq196 : pL G196 F a = if ((G.1 a 6).toInt) = 0 then [] else fuO (G.2.1 (F a 10)) (mw (G146.2.1 (F a 1)) 0) (mw (G.2.1 (F a 2)) 0) 1)
    (oq196a : x196.toInt = ((G196.1 a 19).toInt))
    (m0 : 0 ≤ ((G.1 a 7).toInt) ∧ ((G.1 a 7).toInt) ≤ 8)
    (t6 : ((G6.1 a 20).toInt) = -2147483648 ∧ ((G6.1 a 21).toInt) = -2147483648 ∧ ((G6.1 a 23).toInt) = 0)
    (f55 : ((G.1 a 6).toInt) = 0 ∨ ((G.1 a 6).toInt) = 1)
    (c13 : ((G.1 a 6).toInt) ≠ 0)
    (t21 : (((G.1 a 6).toInt) ≠ 0 ∧ 0 ≤ p0.toInt ∧ p0.toInt ≤ ((G.1 a 7).toInt) - 1 ∧ x21.toInt = 1) ∨ (¬ (((G.1 a 6).toInt) ≠ 0 ∧ 0 ≤ p0.toInt ∧ p0.toInt ≤ ((G.1 a 7).toInt) - 1) ∧ x21.toInt = 0))
    (c24 : x21.toInt ≠ 0)
    (z34 : 0 ≤ ((G31.1 a 16).toInt) ∧ ((G31.1 a 16).toInt) ≤ 12)
    (I36_0 : 0 ≤ l2_36.toInt ∧ l2_36.toInt ≤ ((G31.1 a 16).toInt))
    (I36_1 : (0 : Int) ≤ l2_36.toInt)
    (hm36 : 2147483648 - l2_36.toInt < (((N36) + 1 : Nat) : Int))
    (c41 : ((G31.1 a 16).toInt) ≤ l2_36.toInt)
    (t196 : 0 ≤ x196.toInt ∧ x196.toInt ≤ 2388)
    (c_G129_F_a_3 : G129.2.1 (F a 3) = G.2.1 (F a 3))
    (c_G196_F_a_1 : G196.2.1 (F a 1) = G146.2.1 (F a 1))
    (d_G196_a_7 : G196.1 a 7 = x191) :
    (((G.1 a 6).toInt) = 0 ∧ x196.toInt = -3 ∧ (G196.2.1 (F a 1) = (G.2.1 (F a 1)) ∧ ((G196.1 a 7).toInt) = ((G.1 a 7).toInt))) ∨ (((G.1 a 6).toInt) ≠ 0 ∧ ¬ (0 ≤ p0.toInt ∧ p0.toInt < ((G.1 a 7).toInt)) ∧ x196.toInt = -2 ∧ (G196.2.1 (F a 1) = (G.2.1 (F a 1)) ∧ ((G196.1 a 7).toInt) = ((G.1 a 7).toInt))) ∨ (((G.1 a 6).toInt) ≠ 0 ∧ (0 ≤ p0.toInt ∧ p0.toInt < ((G.1 a 7).toInt)) ∧ ((PFl (G.2.1 (F a 10)) (mw (G.2.1 (F a 3)) (360 * p0.toInt)) ∧ x196.toInt = -5 ∧ (G196.2.1 (F a 1) = (G.2.1 (F a 1)) ∧ ((G196.1 a 7).toInt) = ((G.1 a 7).toInt))) ∨ (¬ PFl (G.2.1 (F a 10)) (mw (G.2.1 (F a 3)) (360 * p0.toInt)) ∧ mw (G196.2.1 (F a 1)) 0 = (mw (G.2.1 (F a 3)) (360 * p0.toInt)) ∧ ((G196.1 a 7).toInt) = p0.toInt + 1 ∧ x196.toInt = (((fuO (G.2.1 (F a 10)) (mw (G196.2.1 (F a 1)) 0) (mw (G.2.1 (F a 2)) 0) 1).length : Nat) : Int)))) := by
  refine Or.inr (Or.inr ⟨by omega, by omega, Or.inr ⟨?_, by rw [c_G196_F_a_1, ← c_G129_F_a_3]; exact CPd.vwm oq146 (by decide), by rw [d_G196_a_7]; omega, (by
    have e := pL_len G196 F a
    rw [oq196, if_neg (by omega)] at e
    rw [c_G196_F_a_1]
    omega)⟩⟩)
  rintro ⟨q, s, hq, hk, hl, hs, hf⟩
  have hp : prM (G.2.1 (F a 10)) q.toNat = true := by
    unfold prM
    rw [show ((q.toNat : Nat) : Int) = q from by omega]
    exact decide_eq_true hk
  obtain ⟨i, h1, h2⟩ := ordN_all (rk := rkM (G.2.1 (F a 10))) (show q.toNat < 12 by omega) hp
  have e1 : aI (G31.2.1 (F a 15)) (i : Int) = q := by
    have := oq31.2 i h1
    rw [h2] at this
    show (G31.2.1 (F a 15) ((i : Int)).toNat).toInt = q
    rw [show ((i : Int)).toNat = i from by omega, this]
    omega
  have e2 := oq31.1
  have := pk (i : Int) (by omega) (by omega)
  rw [e1] at this
  rw [this hl s hs] at hf
  exact absurd hf (by decide)
theorem v_X11_back_199_14 {K : Nat → Nat} {F : Nat → Nat → Nat} (a : Nat) (G : XG) (G6 : XG) (G31 : XG) (G129 : XG) (G146 : XG) (G159 : XG) (G172 : XG) (G196 : XG) (l2_36 : Int32) (p0 : Int32) (x196 : Int32) (x21 : Int32) (N36 : Nat)
    (ha : K a = 13)
    (hmk : ∀ m : Int, 0 ≤ m → m < ((G.1 a 7).toInt) → RM (G.2.1 (F a 3)) (360 * m))
    (oq31a : G31.2.2.2 = G6.2.2.2)
    (oq129a : G129.2.2.2 = G31.2.2.2)
    (oq146 : CPd (G129.2.1 (F a 3)) (G129.2.1 (F a 1)) (G146.2.1 (F a 1)) ((360 : Int) * p0.toInt) (0 : Int) 360)
    (oq159a : G159.2.2.2 = G146.2.2.2)
    (oq172a : G172.2.2.2 = G159.2.2.2)
    (oq196a : x196.toInt = ((G196.1 a 19).toInt))
    (m0 : 0 ≤ ((G.1 a 7).toInt) ∧ ((G.1 a 7).toInt) ≤ 8)
    (t6 : ((G6.1 a 20).toInt) = -2147483648 ∧ ((G6.1 a 21).toInt) = -2147483648 ∧ ((G6.1 a 23).toInt) = 0)
    (f55 : ((G.1 a 6).toInt) = 0 ∨ ((G.1 a 6).toInt) = 1)
    (c13 : ((G.1 a 6).toInt) ≠ 0)
    (t21 : (((G.1 a 6).toInt) ≠ 0 ∧ 0 ≤ p0.toInt ∧ p0.toInt ≤ ((G.1 a 7).toInt) - 1 ∧ x21.toInt = 1) ∨ (¬ (((G.1 a 6).toInt) ≠ 0 ∧ 0 ≤ p0.toInt ∧ p0.toInt ≤ ((G.1 a 7).toInt) - 1) ∧ x21.toInt = 0))
    (c24 : x21.toInt ≠ 0)
    (z34 : 0 ≤ ((G31.1 a 16).toInt) ∧ ((G31.1 a 16).toInt) ≤ 12)
    (I36_0 : 0 ≤ l2_36.toInt ∧ l2_36.toInt ≤ ((G31.1 a 16).toInt))
    (I36_1 : (0 : Int) ≤ l2_36.toInt)
    (hm36 : 2147483648 - l2_36.toInt < (((N36) + 1 : Nat) : Int))
    (c41 : ((G31.1 a 16).toInt) ≤ l2_36.toInt)
    (t196 : 0 ≤ x196.toInt ∧ x196.toInt ≤ 2388)
    (c_G129_F_a_3 : G129.2.1 (F a 3) = G.2.1 (F a 3))
    (c_G196_F_a_1 : G196.2.1 (F a 1) = G146.2.1 (F a 1)) :
    RM (G196.2.1 (F a 1)) 0 := by
  rw [c_G196_F_a_1]; exact CPd.rm oq146 (by decide) (by rw [c_G129_F_a_3]; exact hmk p0.toInt (by omega) (by omega))
theorem v_X11_back_116_15 {K : Nat → Nat} {F : Nat → Nat → Nat} (a : Nat) (G : XG) (G6 : XG) (G31 : XG) (l2_36 : Int32) (p0 : Int32) (l4_58 : Int32) (x21 : Int32) (N36 : Nat) (N58 : Nat)
    (ha : K a = 13)
    (oq31a : G31.2.2.2 = G6.2.2.2)
    (pk : ∀ j : Int, 0 ≤ j → j < l2_36.toInt → (aI (G.2.1 (F a 10)) (10 * aI (G31.2.1 (F a 15)) j + 6) = 0 → ∀ s : Int, sbj (aI (G.2.1 (F a 10)) (10 * aI (G31.2.1 (F a 15)) j + 0)) s → fzq (G.2.1 (F a 10)) (mw (G.2.1 (F a 3)) (360 * p0.toInt)) (aI (G31.2.1 (F a 15)) j) s = 0))
    (ps : ∀ s : Int, sF (aI (G.2.1 (F a 10)) (10 * (aI (G31.2.1 (F a 15)) (l2_36.toInt)) + 0)) ≤ s → s < l4_58.toInt → fzq (G.2.1 (F a 10)) (mw (G.2.1 (F a 3)) (360 * p0.toInt)) (aI (G31.2.1 (F a 15)) (l2_36.toInt)) s = 0)
    (m0 : 0 ≤ ((G.1 a 7).toInt) ∧ ((G.1 a 7).toInt) ≤ 8)
    (t6 : ((G6.1 a 20).toInt) = -2147483648 ∧ ((G6.1 a 21).toInt) = -2147483648 ∧ ((G6.1 a 23).toInt) = 0)
    (f42 : ((G.1 a 6).toInt) = 0 ∨ ((G.1 a 6).toInt) = 1)
    (c13 : ((G.1 a 6).toInt) ≠ 0)
    (t21 : (((G.1 a 6).toInt) ≠ 0 ∧ 0 ≤ p0.toInt ∧ p0.toInt ≤ ((G.1 a 7).toInt) - 1 ∧ x21.toInt = 1) ∨ (¬ (((G.1 a 6).toInt) ≠ 0 ∧ 0 ≤ p0.toInt ∧ p0.toInt ≤ ((G.1 a 7).toInt) - 1) ∧ x21.toInt = 0))
    (c24 : x21.toInt ≠ 0)
    (z34 : 0 ≤ ((G31.1 a 16).toInt) ∧ ((G31.1 a 16).toInt) ≤ 12)
    (I36_0 : 0 ≤ l2_36.toInt ∧ l2_36.toInt ≤ ((G31.1 a 16).toInt))
    (I36_1 : (0 : Int) ≤ l2_36.toInt)
    (hm36 : 2147483648 - l2_36.toInt < (((N36) + 1 : Nat) : Int))
    (c41 : ¬ (((G31.1 a 16).toInt) ≤ l2_36.toInt))
    (z51 : 0 ≤ (aI (G31.2.1 (F a 15)) (l2_36.toInt)) ∧ (aI (G31.2.1 (F a 15)) (l2_36.toInt)) ≤ 11 ∧ (aI (G.2.1 (F a 10)) (10 * (aI (G31.2.1 (F a 15)) (l2_36.toInt)) + 0)) ≠ -1)
    (z51a : (((aI (G.2.1 (F a 10)) (10 * (aI (G31.2.1 (F a 15)) (l2_36.toInt)) + 0)) = 2 ∨ (aI (G.2.1 (F a 10)) (10 * (aI (G31.2.1 (F a 15)) (l2_36.toInt)) + 0)) = 4 ∨ (aI (G.2.1 (F a 10)) (10 * (aI (G31.2.1 (F a 15)) (l2_36.toInt)) + 0)) = 5) ∧ (sF (aI (G.2.1 (F a 10)) (10 * (aI (G31.2.1 (F a 15)) (l2_36.toInt)) + 0))) = 0 ∧ (sL (aI (G.2.1 (F a 10)) (10 * (aI (G31.2.1 (F a 15)) (l2_36.toInt)) + 0))) = 29) ∨ (¬ ((aI (G.2.1 (F a 10)) (10 * (aI (G31.2.1 (F a 15)) (l2_36.toInt)) + 0)) = 2 ∨ (aI (G.2.1 (F a 10)) (10 * (aI (G31.2.1 (F a 15)) (l2_36.toInt)) + 0)) = 4 ∨ (aI (G.2.1 (F a 10)) (10 * (aI (G31.2.1 (F a 15)) (l2_36.toInt)) + 0)) = 5) ∧ (sF (aI (G.2.1 (F a 10)) (10 * (aI (G31.2.1 (F a 15)) (l2_36.toInt)) + 0))) = -99 ∧ (sL (aI (G.2.1 (F a 10)) (10 * (aI (G31.2.1 (F a 15)) (l2_36.toInt)) + 0))) = 99))
    (I58_0 : (sF (aI (G.2.1 (F a 10)) (10 * (aI (G31.2.1 (F a 15)) (l2_36.toInt)) + 0))) ≤ l4_58.toInt ∧ l4_58.toInt ≤ (sL (aI (G.2.1 (F a 10)) (10 * (aI (G31.2.1 (F a 15)) (l2_36.toInt)) + 0))) + 1)
    (hm58 : 2147483648 - l4_58.toInt < (((N58) + 1 : Nat) : Int))
    (c65 : (sL (aI (G.2.1 (F a 10)) (10 * (aI (G31.2.1 (F a 15)) (l2_36.toInt)) + 0))) < l4_58.toInt) :
    ∀ j : Int, 0 ≤ j → j < (l2_36.toInt + 1) → (aI (G.2.1 (F a 10)) (10 * aI (G31.2.1 (F a 15)) j + 6) = 0 → ∀ s : Int, sbj (aI (G.2.1 (F a 10)) (10 * aI (G31.2.1 (F a 15)) j + 0)) s → fzq (G.2.1 (F a 10)) (mw (G.2.1 (F a 3)) (360 * p0.toInt)) (aI (G31.2.1 (F a 15)) j) s = 0) := by
  intro j h1 h2
  by_cases e : j = l2_36.toInt
  · subst e
    intro hl s hs
    have := sbj_FL.mp hs
    exact ps s this.1 (by omega)
  · exact pk j h1 (by omega)
theorem v_X11_back_116_16 {K : Nat → Nat} {F : Nat → Nat → Nat} (a : Nat) (G : XG) (G6 : XG) (G31 : XG) (l2_36 : Int32) (p0 : Int32) (l4_58 : Int32) (x21 : Int32) (N36 : Nat) (N58 : Nat)
    (ha : K a = 13)
    (oq31a : G31.2.2.2 = G6.2.2.2)
    (pk : ∀ j : Int, 0 ≤ j → j < l2_36.toInt → (aI (G.2.1 (F a 10)) (10 * aI (G31.2.1 (F a 15)) j + 6) = 0 → ∀ s : Int, sbj (aI (G.2.1 (F a 10)) (10 * aI (G31.2.1 (F a 15)) j + 0)) s → fzq (G.2.1 (F a 10)) (mw (G.2.1 (F a 3)) (360 * p0.toInt)) (aI (G31.2.1 (F a 15)) j) s = 0))
    (m0 : 0 ≤ ((G.1 a 7).toInt) ∧ ((G.1 a 7).toInt) ≤ 8)
    (t6 : ((G6.1 a 20).toInt) = -2147483648 ∧ ((G6.1 a 21).toInt) = -2147483648 ∧ ((G6.1 a 23).toInt) = 0)
    (f43 : ((G.1 a 6).toInt) = 0 ∨ ((G.1 a 6).toInt) = 1)
    (c13 : ((G.1 a 6).toInt) ≠ 0)
    (t21 : (((G.1 a 6).toInt) ≠ 0 ∧ 0 ≤ p0.toInt ∧ p0.toInt ≤ ((G.1 a 7).toInt) - 1 ∧ x21.toInt = 1) ∨ (¬ (((G.1 a 6).toInt) ≠ 0 ∧ 0 ≤ p0.toInt ∧ p0.toInt ≤ ((G.1 a 7).toInt) - 1) ∧ x21.toInt = 0))
    (c24 : x21.toInt ≠ 0)
    (z34 : 0 ≤ ((G31.1 a 16).toInt) ∧ ((G31.1 a 16).toInt) ≤ 12)
    (I36_0 : 0 ≤ l2_36.toInt ∧ l2_36.toInt ≤ ((G31.1 a 16).toInt))
    (I36_1 : (0 : Int) ≤ l2_36.toInt)
    (hm36 : 2147483648 - l2_36.toInt < (((N36) + 1 : Nat) : Int))
    (c41 : ¬ (((G31.1 a 16).toInt) ≤ l2_36.toInt))
    (z51 : 0 ≤ (aI (G31.2.1 (F a 15)) (l2_36.toInt)) ∧ (aI (G31.2.1 (F a 15)) (l2_36.toInt)) ≤ 11 ∧ (aI (G.2.1 (F a 10)) (10 * (aI (G31.2.1 (F a 15)) (l2_36.toInt)) + 0)) ≠ -1)
    (z51a : (((aI (G.2.1 (F a 10)) (10 * (aI (G31.2.1 (F a 15)) (l2_36.toInt)) + 0)) = 2 ∨ (aI (G.2.1 (F a 10)) (10 * (aI (G31.2.1 (F a 15)) (l2_36.toInt)) + 0)) = 4 ∨ (aI (G.2.1 (F a 10)) (10 * (aI (G31.2.1 (F a 15)) (l2_36.toInt)) + 0)) = 5) ∧ (sF (aI (G.2.1 (F a 10)) (10 * (aI (G31.2.1 (F a 15)) (l2_36.toInt)) + 0))) = 0 ∧ (sL (aI (G.2.1 (F a 10)) (10 * (aI (G31.2.1 (F a 15)) (l2_36.toInt)) + 0))) = 29) ∨ (¬ ((aI (G.2.1 (F a 10)) (10 * (aI (G31.2.1 (F a 15)) (l2_36.toInt)) + 0)) = 2 ∨ (aI (G.2.1 (F a 10)) (10 * (aI (G31.2.1 (F a 15)) (l2_36.toInt)) + 0)) = 4 ∨ (aI (G.2.1 (F a 10)) (10 * (aI (G31.2.1 (F a 15)) (l2_36.toInt)) + 0)) = 5) ∧ (sF (aI (G.2.1 (F a 10)) (10 * (aI (G31.2.1 (F a 15)) (l2_36.toInt)) + 0))) = -99 ∧ (sL (aI (G.2.1 (F a 10)) (10 * (aI (G31.2.1 (F a 15)) (l2_36.toInt)) + 0))) = 99))
    (I58_0 : (sF (aI (G.2.1 (F a 10)) (10 * (aI (G31.2.1 (F a 15)) (l2_36.toInt)) + 0))) ≤ l4_58.toInt ∧ l4_58.toInt ≤ (sL (aI (G.2.1 (F a 10)) (10 * (aI (G31.2.1 (F a 15)) (l2_36.toInt)) + 0))) + 1)
    (hm58 : 2147483648 - l4_58.toInt < (((N58) + 1 : Nat) : Int))
    (c65 : ¬ ((sL (aI (G.2.1 (F a 10)) (10 * (aI (G31.2.1 (F a 15)) (l2_36.toInt)) + 0))) < l4_58.toInt))
    (c75 : (aI (G.2.1 (F a 10)) (10 * (aI (G31.2.1 (F a 15)) (l2_36.toInt)) + 6)) ≠ 0) :
    ∀ j : Int, 0 ≤ j → j < (l2_36.toInt + 1) → (aI (G.2.1 (F a 10)) (10 * aI (G31.2.1 (F a 15)) j + 6) = 0 → ∀ s : Int, sbj (aI (G.2.1 (F a 10)) (10 * aI (G31.2.1 (F a 15)) j + 0)) s → fzq (G.2.1 (F a 10)) (mw (G.2.1 (F a 3)) (360 * p0.toInt)) (aI (G31.2.1 (F a 15)) j) s = 0) := by
  intro j h1 h2
  by_cases e : j = l2_36.toInt
  · subst e
    intro hl
    exact absurd hl (by omega)
  · exact pk j h1 (by omega)
theorem v_X11_back_91_17 {F : Nat → Nat → Nat} (a : Nat) (G : XG) (G31 : XG)
    (hR : RV (G.2.1 (F a 10)))
    (c_G31_F_a_10 : G31.2.1 (F a 10) = G.2.1 (F a 10)) :
    RV (G31.2.1 (F a 10)) := by simp only [c_G31_F_a_10]; assumption
theorem v_X11_back_91_18 {K : Nat → Nat} {F : Nat → Nat → Nat} (a : Nat) (G : XG) (G6 : XG) (G31 : XG) (l2_36 : Int32) (p0 : Int32) (l4_58 : Int32) (x21 : Int32) (N36 : Nat) (N58 : Nat)
    (ha : K a = 13)
    (hmk : ∀ m : Int, 0 ≤ m → m < ((G.1 a 7).toInt) → RM (G.2.1 (F a 3)) (360 * m))
    (oq31a : G31.2.2.2 = G6.2.2.2)
    (m0 : 0 ≤ ((G.1 a 7).toInt) ∧ ((G.1 a 7).toInt) ≤ 8)
    (t6 : ((G6.1 a 20).toInt) = -2147483648 ∧ ((G6.1 a 21).toInt) = -2147483648 ∧ ((G6.1 a 23).toInt) = 0)
    (f43 : ((G.1 a 6).toInt) = 0 ∨ ((G.1 a 6).toInt) = 1)
    (c13 : ((G.1 a 6).toInt) ≠ 0)
    (t21 : (((G.1 a 6).toInt) ≠ 0 ∧ 0 ≤ p0.toInt ∧ p0.toInt ≤ ((G.1 a 7).toInt) - 1 ∧ x21.toInt = 1) ∨ (¬ (((G.1 a 6).toInt) ≠ 0 ∧ 0 ≤ p0.toInt ∧ p0.toInt ≤ ((G.1 a 7).toInt) - 1) ∧ x21.toInt = 0))
    (c24 : x21.toInt ≠ 0)
    (z34 : 0 ≤ ((G31.1 a 16).toInt) ∧ ((G31.1 a 16).toInt) ≤ 12)
    (I36_0 : 0 ≤ l2_36.toInt ∧ l2_36.toInt ≤ ((G31.1 a 16).toInt))
    (I36_1 : (0 : Int) ≤ l2_36.toInt)
    (hm36 : 2147483648 - l2_36.toInt < (((N36) + 1 : Nat) : Int))
    (c41 : ¬ (((G31.1 a 16).toInt) ≤ l2_36.toInt))
    (z51 : 0 ≤ (aI (G31.2.1 (F a 15)) (l2_36.toInt)) ∧ (aI (G31.2.1 (F a 15)) (l2_36.toInt)) ≤ 11 ∧ (aI (G.2.1 (F a 10)) (10 * (aI (G31.2.1 (F a 15)) (l2_36.toInt)) + 0)) ≠ -1)
    (z51a : (((aI (G.2.1 (F a 10)) (10 * (aI (G31.2.1 (F a 15)) (l2_36.toInt)) + 0)) = 2 ∨ (aI (G.2.1 (F a 10)) (10 * (aI (G31.2.1 (F a 15)) (l2_36.toInt)) + 0)) = 4 ∨ (aI (G.2.1 (F a 10)) (10 * (aI (G31.2.1 (F a 15)) (l2_36.toInt)) + 0)) = 5) ∧ (sF (aI (G.2.1 (F a 10)) (10 * (aI (G31.2.1 (F a 15)) (l2_36.toInt)) + 0))) = 0 ∧ (sL (aI (G.2.1 (F a 10)) (10 * (aI (G31.2.1 (F a 15)) (l2_36.toInt)) + 0))) = 29) ∨ (¬ ((aI (G.2.1 (F a 10)) (10 * (aI (G31.2.1 (F a 15)) (l2_36.toInt)) + 0)) = 2 ∨ (aI (G.2.1 (F a 10)) (10 * (aI (G31.2.1 (F a 15)) (l2_36.toInt)) + 0)) = 4 ∨ (aI (G.2.1 (F a 10)) (10 * (aI (G31.2.1 (F a 15)) (l2_36.toInt)) + 0)) = 5) ∧ (sF (aI (G.2.1 (F a 10)) (10 * (aI (G31.2.1 (F a 15)) (l2_36.toInt)) + 0))) = -99 ∧ (sL (aI (G.2.1 (F a 10)) (10 * (aI (G31.2.1 (F a 15)) (l2_36.toInt)) + 0))) = 99))
    (I58_0 : (sF (aI (G.2.1 (F a 10)) (10 * (aI (G31.2.1 (F a 15)) (l2_36.toInt)) + 0))) ≤ l4_58.toInt ∧ l4_58.toInt ≤ (sL (aI (G.2.1 (F a 10)) (10 * (aI (G31.2.1 (F a 15)) (l2_36.toInt)) + 0))) + 1)
    (hm58 : 2147483648 - l4_58.toInt < (((N58) + 1 : Nat) : Int))
    (c65 : ¬ ((sL (aI (G.2.1 (F a 10)) (10 * (aI (G31.2.1 (F a 15)) (l2_36.toInt)) + 0))) < l4_58.toInt))
    (c75 : ¬ ((aI (G.2.1 (F a 10)) (10 * (aI (G31.2.1 (F a 15)) (l2_36.toInt)) + 6)) ≠ 0))
    (c_G31_F_a_3 : G31.2.1 (F a 3) = G.2.1 (F a 3)) :
    RM (G31.2.1 (F a 3)) ((360 : Int) * p0.toInt) := by
  rw [c_G31_F_a_3]; exact hmk p0.toInt (by omega) (by omega)
theorem v_X11_back_110_19 {K : Nat → Nat} {F : Nat → Nat → Nat} (a : Nat) (G : XG) (G6 : XG) (G31 : XG) (l2_36 : Int32) (p0 : Int32) (l4_58 : Int32) (x21 : Int32) (N36 : Nat) (N58 : Nat) (x91 : Int32)
    (ha : K a = 13)
    (oq31a : G31.2.2.2 = G6.2.2.2)
    (ps : ∀ s : Int, sF (aI (G.2.1 (F a 10)) (10 * (aI (G31.2.1 (F a 15)) (l2_36.toInt)) + 0)) ≤ s → s < l4_58.toInt → fzq (G.2.1 (F a 10)) (mw (G.2.1 (F a 3)) (360 * p0.toInt)) (aI (G31.2.1 (F a 15)) (l2_36.toInt)) s = 0)
    (m0 : 0 ≤ ((G.1 a 7).toInt) ∧ ((G.1 a 7).toInt) ≤ 8)
    (t6 : ((G6.1 a 20).toInt) = -2147483648 ∧ ((G6.1 a 21).toInt) = -2147483648 ∧ ((G6.1 a 23).toInt) = 0)
    (f44 : ((G.1 a 6).toInt) = 0 ∨ ((G.1 a 6).toInt) = 1)
    (c13 : ((G.1 a 6).toInt) ≠ 0)
    (t21 : (((G.1 a 6).toInt) ≠ 0 ∧ 0 ≤ p0.toInt ∧ p0.toInt ≤ ((G.1 a 7).toInt) - 1 ∧ x21.toInt = 1) ∨ (¬ (((G.1 a 6).toInt) ≠ 0 ∧ 0 ≤ p0.toInt ∧ p0.toInt ≤ ((G.1 a 7).toInt) - 1) ∧ x21.toInt = 0))
    (c24 : x21.toInt ≠ 0)
    (z34 : 0 ≤ ((G31.1 a 16).toInt) ∧ ((G31.1 a 16).toInt) ≤ 12)
    (I36_0 : 0 ≤ l2_36.toInt ∧ l2_36.toInt ≤ ((G31.1 a 16).toInt))
    (I36_1 : (0 : Int) ≤ l2_36.toInt)
    (hm36 : 2147483648 - l2_36.toInt < (((N36) + 1 : Nat) : Int))
    (c41 : ¬ (((G31.1 a 16).toInt) ≤ l2_36.toInt))
    (z51 : 0 ≤ (aI (G31.2.1 (F a 15)) (l2_36.toInt)) ∧ (aI (G31.2.1 (F a 15)) (l2_36.toInt)) ≤ 11 ∧ (aI (G.2.1 (F a 10)) (10 * (aI (G31.2.1 (F a 15)) (l2_36.toInt)) + 0)) ≠ -1)
    (z51a : (((aI (G.2.1 (F a 10)) (10 * (aI (G31.2.1 (F a 15)) (l2_36.toInt)) + 0)) = 2 ∨ (aI (G.2.1 (F a 10)) (10 * (aI (G31.2.1 (F a 15)) (l2_36.toInt)) + 0)) = 4 ∨ (aI (G.2.1 (F a 10)) (10 * (aI (G31.2.1 (F a 15)) (l2_36.toInt)) + 0)) = 5) ∧ (sF (aI (G.2.1 (F a 10)) (10 * (aI (G31.2.1 (F a 15)) (l2_36.toInt)) + 0))) = 0 ∧ (sL (aI (G.2.1 (F a 10)) (10 * (aI (G31.2.1 (F a 15)) (l2_36.toInt)) + 0))) = 29) ∨ (¬ ((aI (G.2.1 (F a 10)) (10 * (aI (G31.2.1 (F a 15)) (l2_36.toInt)) + 0)) = 2 ∨ (aI (G.2.1 (F a 10)) (10 * (aI (G31.2.1 (F a 15)) (l2_36.toInt)) + 0)) = 4 ∨ (aI (G.2.1 (F a 10)) (10 * (aI (G31.2.1 (F a 15)) (l2_36.toInt)) + 0)) = 5) ∧ (sF (aI (G.2.1 (F a 10)) (10 * (aI (G31.2.1 (F a 15)) (l2_36.toInt)) + 0))) = -99 ∧ (sL (aI (G.2.1 (F a 10)) (10 * (aI (G31.2.1 (F a 15)) (l2_36.toInt)) + 0))) = 99))
    (I58_0 : (sF (aI (G.2.1 (F a 10)) (10 * (aI (G31.2.1 (F a 15)) (l2_36.toInt)) + 0))) ≤ l4_58.toInt ∧ l4_58.toInt ≤ (sL (aI (G.2.1 (F a 10)) (10 * (aI (G31.2.1 (F a 15)) (l2_36.toInt)) + 0))) + 1)
    (hm58 : 2147483648 - l4_58.toInt < (((N58) + 1 : Nat) : Int))
    (c65 : ¬ ((sL (aI (G.2.1 (F a 10)) (10 * (aI (G31.2.1 (F a 15)) (l2_36.toInt)) + 0))) < l4_58.toInt))
    (c75 : ¬ ((aI (G.2.1 (F a 10)) (10 * (aI (G31.2.1 (F a 15)) (l2_36.toInt)) + 6)) ≠ 0))
    (t91 : x91.toInt = (flq (mw (G.2.1 (F a 3)) (360 * p0.toInt)) (aI (G.2.1 (F a 10)) (10 * (aI (G31.2.1 (F a 15)) (l2_36.toInt)) + 0)) (aI (G.2.1 (F a 10)) (10 * (aI (G31.2.1 (F a 15)) (l2_36.toInt)) + 1)) (aI (G.2.1 (F a 10)) (10 * (aI (G31.2.1 (F a 15)) (l2_36.toInt)) + 2)) (aI (G.2.1 (F a 10)) (10 * (aI (G31.2.1 (F a 15)) (l2_36.toInt)) + 4)) (aI (G.2.1 (F a 10)) (10 * (aI (G31.2.1 (F a 15)) (l2_36.toInt)) + 5)) (l4_58.toInt) (stt (mw (G.2.1 (F a 3)) (360 * p0.toInt)) (aI (G.2.1 (F a 10)) (10 * (aI (G31.2.1 (F a 15)) (l2_36.toInt)) + 0)) (aI (G.2.1 (F a 10)) (10 * (aI (G31.2.1 (F a 15)) (l2_36.toInt)) + 1)) (aI (G.2.1 (F a 10)) (10 * (aI (G31.2.1 (F a 15)) (l2_36.toInt)) + 2)) (aI (G.2.1 (F a 10)) (10 * (aI (G31.2.1 (F a 15)) (l2_36.toInt)) + 3)) (l4_58.toInt))))
    (f60 : x91.toInt = 0 ∨ x91.toInt = 1)
    (c94 : x91.toInt = 0) :
    ∀ s : Int, sF (aI (G.2.1 (F a 10)) (10 * (aI (G31.2.1 (F a 15)) (l2_36.toInt)) + 0)) ≤ s → s < (l4_58.toInt + 1) → fzq (G.2.1 (F a 10)) (mw (G.2.1 (F a 3)) (360 * p0.toInt)) (aI (G31.2.1 (F a 15)) (l2_36.toInt)) s = 0 := by
  intro s h1 h2
  by_cases e : s = l4_58.toInt
  · subst e
    have t9 : flq _ _ _ _ _ _ _ _ = 0 := t91.symm.trans c94
    exact t9
  · exact ps s h1 (by omega)
theorem v_X11_back_106_20 {K : Nat → Nat} {F : Nat → Nat → Nat} (a : Nat) (G : XG) (G6 : XG) (G31 : XG) (G101 : XG) (l2_36 : Int32) (p0 : Int32) (l4_58 : Int32) (x21 : Int32) (N36 : Nat) (N58 : Nat) (x91 : Int32)
    (ha : K a = 13)
    (oq31a : G31.2.2.2 = G6.2.2.2)
    (m0 : 0 ≤ ((G.1 a 7).toInt) ∧ ((G.1 a 7).toInt) ≤ 8)
    (t6 : ((G6.1 a 20).toInt) = -2147483648 ∧ ((G6.1 a 21).toInt) = -2147483648 ∧ ((G6.1 a 23).toInt) = 0)
    (f44 : ((G.1 a 6).toInt) = 0 ∨ ((G.1 a 6).toInt) = 1)
    (c13 : ((G.1 a 6).toInt) ≠ 0)
    (t21 : (((G.1 a 6).toInt) ≠ 0 ∧ 0 ≤ p0.toInt ∧ p0.toInt ≤ ((G.1 a 7).toInt) - 1 ∧ x21.toInt = 1) ∨ (¬ (((G.1 a 6).toInt) ≠ 0 ∧ 0 ≤ p0.toInt ∧ p0.toInt ≤ ((G.1 a 7).toInt) - 1) ∧ x21.toInt = 0))
    (c24 : x21.toInt ≠ 0)
    (z34 : 0 ≤ ((G31.1 a 16).toInt) ∧ ((G31.1 a 16).toInt) ≤ 12)
    (I36_0 : 0 ≤ l2_36.toInt ∧ l2_36.toInt ≤ ((G31.1 a 16).toInt))
    (I36_1 : (0 : Int) ≤ l2_36.toInt)
    (hm36 : 2147483648 - l2_36.toInt < (((N36) + 1 : Nat) : Int))
    (c41 : ¬ (((G31.1 a 16).toInt) ≤ l2_36.toInt))
    (z51 : 0 ≤ (aI (G31.2.1 (F a 15)) (l2_36.toInt)) ∧ (aI (G31.2.1 (F a 15)) (l2_36.toInt)) ≤ 11 ∧ (aI (G.2.1 (F a 10)) (10 * (aI (G31.2.1 (F a 15)) (l2_36.toInt)) + 0)) ≠ -1)
    (z51a : (((aI (G.2.1 (F a 10)) (10 * (aI (G31.2.1 (F a 15)) (l2_36.toInt)) + 0)) = 2 ∨ (aI (G.2.1 (F a 10)) (10 * (aI (G31.2.1 (F a 15)) (l2_36.toInt)) + 0)) = 4 ∨ (aI (G.2.1 (F a 10)) (10 * (aI (G31.2.1 (F a 15)) (l2_36.toInt)) + 0)) = 5) ∧ (sF (aI (G.2.1 (F a 10)) (10 * (aI (G31.2.1 (F a 15)) (l2_36.toInt)) + 0))) = 0 ∧ (sL (aI (G.2.1 (F a 10)) (10 * (aI (G31.2.1 (F a 15)) (l2_36.toInt)) + 0))) = 29) ∨ (¬ ((aI (G.2.1 (F a 10)) (10 * (aI (G31.2.1 (F a 15)) (l2_36.toInt)) + 0)) = 2 ∨ (aI (G.2.1 (F a 10)) (10 * (aI (G31.2.1 (F a 15)) (l2_36.toInt)) + 0)) = 4 ∨ (aI (G.2.1 (F a 10)) (10 * (aI (G31.2.1 (F a 15)) (l2_36.toInt)) + 0)) = 5) ∧ (sF (aI (G.2.1 (F a 10)) (10 * (aI (G31.2.1 (F a 15)) (l2_36.toInt)) + 0))) = -99 ∧ (sL (aI (G.2.1 (F a 10)) (10 * (aI (G31.2.1 (F a 15)) (l2_36.toInt)) + 0))) = 99))
    (I58_0 : (sF (aI (G.2.1 (F a 10)) (10 * (aI (G31.2.1 (F a 15)) (l2_36.toInt)) + 0))) ≤ l4_58.toInt ∧ l4_58.toInt ≤ (sL (aI (G.2.1 (F a 10)) (10 * (aI (G31.2.1 (F a 15)) (l2_36.toInt)) + 0))) + 1)
    (hm58 : 2147483648 - l4_58.toInt < (((N58) + 1 : Nat) : Int))
    (c65 : ¬ ((sL (aI (G.2.1 (F a 10)) (10 * (aI (G31.2.1 (F a 15)) (l2_36.toInt)) + 0))) < l4_58.toInt))
    (c75 : ¬ ((aI (G.2.1 (F a 10)) (10 * (aI (G31.2.1 (F a 15)) (l2_36.toInt)) + 6)) ≠ 0))
    (t91 : x91.toInt = (flq (mw (G.2.1 (F a 3)) (360 * p0.toInt)) (aI (G.2.1 (F a 10)) (10 * (aI (G31.2.1 (F a 15)) (l2_36.toInt)) + 0)) (aI (G.2.1 (F a 10)) (10 * (aI (G31.2.1 (F a 15)) (l2_36.toInt)) + 1)) (aI (G.2.1 (F a 10)) (10 * (aI (G31.2.1 (F a 15)) (l2_36.toInt)) + 2)) (aI (G.2.1 (F a 10)) (10 * (aI (G31.2.1 (F a 15)) (l2_36.toInt)) + 4)) (aI (G.2.1 (F a 10)) (10 * (aI (G31.2.1 (F a 15)) (l2_36.toInt)) + 5)) (l4_58.toInt) (stt (mw (G.2.1 (F a 3)) (360 * p0.toInt)) (aI (G.2.1 (F a 10)) (10 * (aI (G31.2.1 (F a 15)) (l2_36.toInt)) + 0)) (aI (G.2.1 (F a 10)) (10 * (aI (G31.2.1 (F a 15)) (l2_36.toInt)) + 1)) (aI (G.2.1 (F a 10)) (10 * (aI (G31.2.1 (F a 15)) (l2_36.toInt)) + 2)) (aI (G.2.1 (F a 10)) (10 * (aI (G31.2.1 (F a 15)) (l2_36.toInt)) + 3)) (l4_58.toInt))))
    (f60 : x91.toInt = 0 ∨ x91.toInt = 1)
    (c94 : ¬ (x91.toInt = 0))
    (t101 : ((G101.1 a 20).toInt) = (aI (G31.2.1 (F a 15)) (l2_36.toInt)) ∧ ((G101.1 a 21).toInt) = l4_58.toInt ∧ 0 ≤ ((G101.1 a 23).toInt) ∧ ((G101.1 a 23).toInt) ≤ 24)
    (c_G101_F_a_1 : G101.2.1 (F a 1) = G.2.1 (F a 1))
    (d_G101_a_7 : G101.1 a 7 = G.1 a 7) :
    (((G.1 a 6).toInt) = 0 ∧ (-5 : Int) = -3 ∧ (G101.2.1 (F a 1) = (G.2.1 (F a 1)) ∧ ((G101.1 a 7).toInt) = ((G.1 a 7).toInt))) ∨ (((G.1 a 6).toInt) ≠ 0 ∧ ¬ (0 ≤ p0.toInt ∧ p0.toInt < ((G.1 a 7).toInt)) ∧ (-5 : Int) = -2 ∧ (G101.2.1 (F a 1) = (G.2.1 (F a 1)) ∧ ((G101.1 a 7).toInt) = ((G.1 a 7).toInt))) ∨ (((G.1 a 6).toInt) ≠ 0 ∧ (0 ≤ p0.toInt ∧ p0.toInt < ((G.1 a 7).toInt)) ∧ ((PFl (G.2.1 (F a 10)) (mw (G.2.1 (F a 3)) (360 * p0.toInt)) ∧ (-5 : Int) = -5 ∧ (G101.2.1 (F a 1) = (G.2.1 (F a 1)) ∧ ((G101.1 a 7).toInt) = ((G.1 a 7).toInt))) ∨ (¬ PFl (G.2.1 (F a 10)) (mw (G.2.1 (F a 3)) (360 * p0.toInt)) ∧ mw (G101.2.1 (F a 1)) 0 = (mw (G.2.1 (F a 3)) (360 * p0.toInt)) ∧ ((G101.1 a 7).toInt) = p0.toInt + 1 ∧ (-5 : Int) = (((fuO (G.2.1 (F a 10)) (mw (G101.2.1 (F a 1)) 0) (mw (G.2.1 (F a 2)) 0) 1).length : Nat) : Int)))) := by
  have h01 := flq01 (mw (G.2.1 (F a 3)) (360 * p0.toInt)) (aI (G.2.1 (F a 10)) (10 * aI (G31.2.1 (F a 15)) (l2_36.toInt) + 0)) (aI (G.2.1 (F a 10)) (10 * aI (G31.2.1 (F a 15)) (l2_36.toInt) + 1)) (aI (G.2.1 (F a 10)) (10 * aI (G31.2.1 (F a 15)) (l2_36.toInt) + 2)) (aI (G.2.1 (F a 10)) (10 * aI (G31.2.1 (F a 15)) (l2_36.toInt) + 4)) (aI (G.2.1 (F a 10)) (10 * aI (G31.2.1 (F a 15)) (l2_36.toInt) + 5)) l4_58.toInt (stt (mw (G.2.1 (F a 3)) (360 * p0.toInt)) (aI (G.2.1 (F a 10)) (10 * aI (G31.2.1 (F a 15)) (l2_36.toInt) + 0)) (aI (G.2.1 (F a 10)) (10 * aI (G31.2.1 (F a 15)) (l2_36.toInt) + 1)) (aI (G.2.1 (F a 10)) (10 * aI (G31.2.1 (F a 15)) (l2_36.toInt) + 2)) (aI (G.2.1 (F a 10)) (10 * aI (G31.2.1 (F a 15)) (l2_36.toInt) + 3)) l4_58.toInt)
  refine Or.inr (Or.inr ⟨by omega, by omega, Or.inl ⟨⟨aI (G31.2.1 (F a 15)) (l2_36.toInt), l4_58.toInt, by omega, by omega, by omega, sbj_FL.mpr (by omega), ?_⟩, rfl, by rw [c_G101_F_a_1], by rw [d_G101_a_7]⟩⟩)
  show flq _ _ _ _ _ _ _ _ = 1
  omega
theorem v_X11_back_106_21 {F : Nat → Nat → Nat} (a : Nat) (G : XG) (G101 : XG)
    (hM : RM (G.2.1 (F a 1)) (0))
    (c_G101_F_a_1 : G101.2.1 (F a 1) = G.2.1 (F a 1)) :
    RM (G101.2.1 (F a 1)) 0 := by
  rw [c_G101_F_a_1]; exact hM
theorem v_X11_back_56_22 {K : Nat → Nat} {F : Nat → Nat → Nat} (a : Nat) (G : XG) (G6 : XG) (G31 : XG) (l2_36 : Int32) (p0 : Int32) (x21 : Int32) (N36 : Nat)
    (ha : K a = 13)
    (oq31a : G31.2.2.2 = G6.2.2.2)
    (m0 : 0 ≤ ((G.1 a 7).toInt) ∧ ((G.1 a 7).toInt) ≤ 8)
    (t6 : ((G6.1 a 20).toInt) = -2147483648 ∧ ((G6.1 a 21).toInt) = -2147483648 ∧ ((G6.1 a 23).toInt) = 0)
    (f39 : ((G.1 a 6).toInt) = 0 ∨ ((G.1 a 6).toInt) = 1)
    (c13 : ((G.1 a 6).toInt) ≠ 0)
    (t21 : (((G.1 a 6).toInt) ≠ 0 ∧ 0 ≤ p0.toInt ∧ p0.toInt ≤ ((G.1 a 7).toInt) - 1 ∧ x21.toInt = 1) ∨ (¬ (((G.1 a 6).toInt) ≠ 0 ∧ 0 ≤ p0.toInt ∧ p0.toInt ≤ ((G.1 a 7).toInt) - 1) ∧ x21.toInt = 0))
    (c24 : x21.toInt ≠ 0)
    (z34 : 0 ≤ ((G31.1 a 16).toInt) ∧ ((G31.1 a 16).toInt) ≤ 12)
    (I36_0 : 0 ≤ l2_36.toInt ∧ l2_36.toInt ≤ ((G31.1 a 16).toInt))
    (I36_1 : (0 : Int) ≤ l2_36.toInt)
    (hm36 : 2147483648 - l2_36.toInt < (((N36) + 1 : Nat) : Int))
    (c41 : ¬ (((G31.1 a 16).toInt) ≤ l2_36.toInt))
    (z51 : 0 ≤ (aI (G31.2.1 (F a 15)) (l2_36.toInt)) ∧ (aI (G31.2.1 (F a 15)) (l2_36.toInt)) ≤ 11 ∧ (aI (G.2.1 (F a 10)) (10 * (aI (G31.2.1 (F a 15)) (l2_36.toInt)) + 0)) ≠ -1)
    (z51a : (((aI (G.2.1 (F a 10)) (10 * (aI (G31.2.1 (F a 15)) (l2_36.toInt)) + 0)) = 2 ∨ (aI (G.2.1 (F a 10)) (10 * (aI (G31.2.1 (F a 15)) (l2_36.toInt)) + 0)) = 4 ∨ (aI (G.2.1 (F a 10)) (10 * (aI (G31.2.1 (F a 15)) (l2_36.toInt)) + 0)) = 5) ∧ (sF (aI (G.2.1 (F a 10)) (10 * (aI (G31.2.1 (F a 15)) (l2_36.toInt)) + 0))) = 0 ∧ (sL (aI (G.2.1 (F a 10)) (10 * (aI (G31.2.1 (F a 15)) (l2_36.toInt)) + 0))) = 29) ∨ (¬ ((aI (G.2.1 (F a 10)) (10 * (aI (G31.2.1 (F a 15)) (l2_36.toInt)) + 0)) = 2 ∨ (aI (G.2.1 (F a 10)) (10 * (aI (G31.2.1 (F a 15)) (l2_36.toInt)) + 0)) = 4 ∨ (aI (G.2.1 (F a 10)) (10 * (aI (G31.2.1 (F a 15)) (l2_36.toInt)) + 0)) = 5) ∧ (sF (aI (G.2.1 (F a 10)) (10 * (aI (G31.2.1 (F a 15)) (l2_36.toInt)) + 0))) = -99 ∧ (sL (aI (G.2.1 (F a 10)) (10 * (aI (G31.2.1 (F a 15)) (l2_36.toInt)) + 0))) = 99)) :
    ∀ s : Int, sF (aI (G.2.1 (F a 10)) (10 * (aI (G31.2.1 (F a 15)) (l2_36.toInt)) + 0)) ≤ s → s < (sF (aI (G.2.1 (F a 10)) (10 * (aI (G31.2.1 (F a 15)) (l2_36.toInt)) + 0))) → fzq (G.2.1 (F a 10)) (mw (G.2.1 (F a 3)) (360 * p0.toInt)) (aI (G31.2.1 (F a 15)) (l2_36.toInt)) s = 0 := by
  intro s h1 h2; exact absurd h1 (by omega)
theorem v_X11_back_35_23 {K : Nat → Nat} {F : Nat → Nat → Nat} (a : Nat) (G : XG) (G6 : XG) (G31 : XG) (p0 : Int32) (x21 : Int32)
    (ha : K a = 13)
    (oq31a : G31.2.2.2 = G6.2.2.2)
    (m0 : 0 ≤ ((G.1 a 7).toInt) ∧ ((G.1 a 7).toInt) ≤ 8)
    (t6 : ((G6.1 a 20).toInt) = -2147483648 ∧ ((G6.1 a 21).toInt) = -2147483648 ∧ ((G6.1 a 23).toInt) = 0)
    (f36 : ((G.1 a 6).toInt) = 0 ∨ ((G.1 a 6).toInt) = 1)
    (c13 : ((G.1 a 6).toInt) ≠ 0)
    (t21 : (((G.1 a 6).toInt) ≠ 0 ∧ 0 ≤ p0.toInt ∧ p0.toInt ≤ ((G.1 a 7).toInt) - 1 ∧ x21.toInt = 1) ∨ (¬ (((G.1 a 6).toInt) ≠ 0 ∧ 0 ≤ p0.toInt ∧ p0.toInt ≤ ((G.1 a 7).toInt) - 1) ∧ x21.toInt = 0))
    (c24 : x21.toInt ≠ 0)
    (z34 : 0 ≤ ((G31.1 a 16).toInt) ∧ ((G31.1 a 16).toInt) ≤ 12) :
    ∀ j : Int, 0 ≤ j → j < (0 : Int) → (aI (G.2.1 (F a 10)) (10 * aI (G31.2.1 (F a 15)) j + 6) = 0 → ∀ s : Int, sbj (aI (G.2.1 (F a 10)) (10 * aI (G31.2.1 (F a 15)) j + 0)) s → fzq (G.2.1 (F a 10)) (mw (G.2.1 (F a 3)) (360 * p0.toInt)) (aI (G31.2.1 (F a 15)) j) s = 0) := by
  intro j h1 h2; exact absurd h1 (by omega)
theorem v_X11_back_29_24 {K : Nat → Nat} {F : Nat → Nat → Nat} (a : Nat) (G : XG) (G6 : XG) (p0 : Int32) (x21 : Int32)
    (ha : K a = 13)
    (m0 : 0 ≤ ((G.1 a 7).toInt) ∧ ((G.1 a 7).toInt) ≤ 8)
    (t6 : ((G6.1 a 20).toInt) = -2147483648 ∧ ((G6.1 a 21).toInt) = -2147483648 ∧ ((G6.1 a 23).toInt) = 0)
    (f33 : ((G.1 a 6).toInt) = 0 ∨ ((G.1 a 6).toInt) = 1)
    (c13 : ((G.1 a 6).toInt) ≠ 0)
    (t21 : (((G.1 a 6).toInt) ≠ 0 ∧ 0 ≤ p0.toInt ∧ p0.toInt ≤ ((G.1 a 7).toInt) - 1 ∧ x21.toInt = 1) ∨ (¬ (((G.1 a 6).toInt) ≠ 0 ∧ 0 ≤ p0.toInt ∧ p0.toInt ≤ ((G.1 a 7).toInt) - 1) ∧ x21.toInt = 0))
    (c24 : ¬ (x21.toInt ≠ 0))
    (c_G6_F_a_1 : G6.2.1 (F a 1) = G.2.1 (F a 1))
    (d_G6_a_7 : G6.1 a 7 = G.1 a 7) :
    (((G.1 a 6).toInt) = 0 ∧ (-2 : Int) = -3 ∧ (G6.2.1 (F a 1) = (G.2.1 (F a 1)) ∧ ((G6.1 a 7).toInt) = ((G.1 a 7).toInt))) ∨ (((G.1 a 6).toInt) ≠ 0 ∧ ¬ (0 ≤ p0.toInt ∧ p0.toInt < ((G.1 a 7).toInt)) ∧ (-2 : Int) = -2 ∧ (G6.2.1 (F a 1) = (G.2.1 (F a 1)) ∧ ((G6.1 a 7).toInt) = ((G.1 a 7).toInt))) ∨ (((G.1 a 6).toInt) ≠ 0 ∧ (0 ≤ p0.toInt ∧ p0.toInt < ((G.1 a 7).toInt)) ∧ ((PFl (G.2.1 (F a 10)) (mw (G.2.1 (F a 3)) (360 * p0.toInt)) ∧ (-2 : Int) = -5 ∧ (G6.2.1 (F a 1) = (G.2.1 (F a 1)) ∧ ((G6.1 a 7).toInt) = ((G.1 a 7).toInt))) ∨ (¬ PFl (G.2.1 (F a 10)) (mw (G.2.1 (F a 3)) (360 * p0.toInt)) ∧ mw (G6.2.1 (F a 1)) 0 = (mw (G.2.1 (F a 3)) (360 * p0.toInt)) ∧ ((G6.1 a 7).toInt) = p0.toInt + 1 ∧ (-2 : Int) = (((fuO (G.2.1 (F a 10)) (mw (G6.2.1 (F a 1)) 0) (mw (G.2.1 (F a 2)) 0) 1).length : Nat) : Int)))) := by
  exact Or.inr (Or.inl ⟨by omega, by omega, rfl, by rw [c_G6_F_a_1], by rw [d_G6_a_7]⟩)
theorem v_X11_back_29_25 {F : Nat → Nat → Nat} (a : Nat) (G : XG) (G6 : XG)
    (hM : RM (G.2.1 (F a 1)) (0))
    (c_G6_F_a_1 : G6.2.1 (F a 1) = G.2.1 (F a 1)) :
    RM (G6.2.1 (F a 1)) 0 := by
  rw [c_G6_F_a_1]; exact hM
theorem v_X11_back_18_26 {K : Nat → Nat} {F : Nat → Nat → Nat} (a : Nat) (G : XG) (G6 : XG) (p0 : Int32)
    (ha : K a = 13)
    (m0 : 0 ≤ ((G.1 a 7).toInt) ∧ ((G.1 a 7).toInt) ≤ 8)
    (t6 : ((G6.1 a 20).toInt) = -2147483648 ∧ ((G6.1 a 21).toInt) = -2147483648 ∧ ((G6.1 a 23).toInt) = 0)
    (f33 : ((G.1 a 6).toInt) = 0 ∨ ((G.1 a 6).toInt) = 1)
    (c13 : ¬ (((G.1 a 6).toInt) ≠ 0))
    (c_G6_F_a_1 : G6.2.1 (F a 1) = G.2.1 (F a 1))
    (d_G6_a_7 : G6.1 a 7 = G.1 a 7) :
    (((G.1 a 6).toInt) = 0 ∧ (-3 : Int) = -3 ∧ (G6.2.1 (F a 1) = (G.2.1 (F a 1)) ∧ ((G6.1 a 7).toInt) = ((G.1 a 7).toInt))) ∨ (((G.1 a 6).toInt) ≠ 0 ∧ ¬ (0 ≤ p0.toInt ∧ p0.toInt < ((G.1 a 7).toInt)) ∧ (-3 : Int) = -2 ∧ (G6.2.1 (F a 1) = (G.2.1 (F a 1)) ∧ ((G6.1 a 7).toInt) = ((G.1 a 7).toInt))) ∨ (((G.1 a 6).toInt) ≠ 0 ∧ (0 ≤ p0.toInt ∧ p0.toInt < ((G.1 a 7).toInt)) ∧ ((PFl (G.2.1 (F a 10)) (mw (G.2.1 (F a 3)) (360 * p0.toInt)) ∧ (-3 : Int) = -5 ∧ (G6.2.1 (F a 1) = (G.2.1 (F a 1)) ∧ ((G6.1 a 7).toInt) = ((G.1 a 7).toInt))) ∨ (¬ PFl (G.2.1 (F a 10)) (mw (G.2.1 (F a 3)) (360 * p0.toInt)) ∧ mw (G6.2.1 (F a 1)) 0 = (mw (G.2.1 (F a 3)) (360 * p0.toInt)) ∧ ((G6.1 a 7).toInt) = p0.toInt + 1 ∧ (-3 : Int) = (((fuO (G.2.1 (F a 10)) (mw (G6.2.1 (F a 1)) 0) (mw (G.2.1 (F a 2)) 0) 1).length : Nat) : Int)))) := by
  exact Or.inl ⟨by omega, rfl, by rw [c_G6_F_a_1], by rw [d_G6_a_7]⟩
theorem v_X11_back_18_27 {F : Nat → Nat → Nat} (a : Nat) (G : XG) (G6 : XG)
    (hM : RM (G.2.1 (F a 1)) (0))
    (c_G6_F_a_1 : G6.2.1 (F a 1) = G.2.1 (F a 1)) :
    RM (G6.2.1 (F a 1)) 0 := by
  rw [c_G6_F_a_1]; exact hM
