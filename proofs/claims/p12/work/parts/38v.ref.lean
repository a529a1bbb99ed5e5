theorem v_X11_goesBack_10_1 {K : Nat → Nat} {F : Nat → Nat → Nat} (a : Nat) (G : XG)
    (ha : K a = 13)
    (hk9999 : K (F a 1) = 30)
    (hj9999 : F (F a 1) 99 = 1)
    (hk9999a : K (F a 8) = 35)
    (hj9999a : F (F a 8) 99 = 8)
    (hk9999b : K (F a 22) = 45)
    (hj9999b : F (F a 22) 99 = 22)
    (hk9999c : K (F a 17) = 43)
    (hj9999c : F (F a 17) 99 = 17)
    (hk9999d : K (F a 18) = 44)
    (hj9999d : F (F a 18) 99 = 18)
    (hk9999e : K (F a 10) = 37)
    (hj9999e : F (F a 10) 99 = 10)
    (hk9999f : K (F a 4) = 31)
    (hj9999f : F (F a 4) 99 = 4)
    (hv : PV (G.2.1 (F a 10)) (pL G F a))
    (hA : RM (G.2.1 (F a 4)) 0)
    (s0 : 0 ≤ ((G.1 a 46).toInt) ∧ ((G.1 a 46).toInt) < ((G.1 a 19).toInt) ∧ ((G.1 a 19).toInt) ≤ 2388)
    (z0 : (0 ≤ (aI (G.2.1 (F a 17)) ((G.1 a 46).toInt)) ∧ (aI (G.2.1 (F a 17)) ((G.1 a 46).toInt)) ≤ 11) ∧ (aI (G.2.1 (F a 10)) (10 * (aI (G.2.1 (F a 17)) ((G.1 a 46).toInt)) + 0)) ≠ -1 ∧ ((sF (aI (G.2.1 (F a 10)) (10 * (aI (G.2.1 (F a 17)) ((G.1 a 46).toInt)) + 0))) ≤ (aI (G.2.1 (F a 18)) ((G.1 a 46).toInt)) ∧ (aI (G.2.1 (F a 18)) ((G.1 a 46).toInt)) ≤ (sL (aI (G.2.1 (F a 10)) (10 * (aI (G.2.1 (F a 17)) ((G.1 a 46).toInt)) + 0)))))
    (z0a : ((sF (aI (G.2.1 (F a 10)) (10 * (aI (G.2.1 (F a 17)) ((G.1 a 46).toInt)) + 0))) = 0 ∨ (sF (aI (G.2.1 (F a 10)) (10 * (aI (G.2.1 (F a 17)) ((G.1 a 46).toInt)) + 0))) = -99) ∧ ((sL (aI (G.2.1 (F a 10)) (10 * (aI (G.2.1 (F a 17)) ((G.1 a 46).toInt)) + 0))) = 29 ∨ (sL (aI (G.2.1 (F a 10)) (10 * (aI (G.2.1 (F a 17)) ((G.1 a 46).toInt)) + 0))) = 99)) :
    (F a 4) ≠ (F a 1) := by
  intro e
  have h1 : K (F a 1) = 30 := by assumption
  have h2 : K (F a 4) = 31 := by assumption
  rw [← e, h2] at h1
  exact absurd h1 (by decide)
theorem v_X11_goesBack_41_2 {F : Nat → Nat → Nat} (a : Nat) (G : XG) (G10 : XG) (G38 : XG)
    (oq10 : CPd (G.2.1 (F a 4)) (G.2.1 (F a 1)) (G10.2.1 (F a 1)) (0 : Int) (0 : Int) 360)
    (c_G38_F_a_1 : G38.2.1 (F a 1) = G10.2.1 (F a 1)) :
    mw (G38.2.1 (F a 1)) 0 = mw (G.2.1 (F a 4)) 0 := by
  rw [c_G38_F_a_1]; exact CPd.vwm oq10 (by decide)
theorem v_X11_goesBack_41_3 {F : Nat → Nat → Nat} (a : Nat) (G : XG) (G10 : XG) (G38 : XG)
    (hA : RM (G.2.1 (F a 4)) 0)
    (oq10 : CPd (G.2.1 (F a 4)) (G.2.1 (F a 1)) (G10.2.1 (F a 1)) (0 : Int) (0 : Int) 360)
    (c_G38_F_a_1 : G38.2.1 (F a 1) = G10.2.1 (F a 1)) :
    RM (G38.2.1 (F a 1)) 0 := by
  rw [c_G38_F_a_1]; exact CPd.rm oq10 (by decide) hA
theorem v_X11_goesBack_41_4 {K : Nat → Nat} {F : Nat → Nat → Nat} (a : Nat) (G : XG) (G32 : XG) (G38 : XG)
    (ha : K a = 13)
    (s0 : 0 ≤ ((G.1 a 46).toInt) ∧ ((G.1 a 46).toInt) < ((G.1 a 19).toInt) ∧ ((G.1 a 19).toInt) ≤ 2388)
    (z0 : (0 ≤ (aI (G.2.1 (F a 17)) ((G.1 a 46).toInt)) ∧ (aI (G.2.1 (F a 17)) ((G.1 a 46).toInt)) ≤ 11) ∧ (aI (G.2.1 (F a 10)) (10 * (aI (G.2.1 (F a 17)) ((G.1 a 46).toInt)) + 0)) ≠ -1 ∧ ((sF (aI (G.2.1 (F a 10)) (10 * (aI (G.2.1 (F a 17)) ((G.1 a 46).toInt)) + 0))) ≤ (aI (G.2.1 (F a 18)) ((G.1 a 46).toInt)) ∧ (aI (G.2.1 (F a 18)) ((G.1 a 46).toInt)) ≤ (sL (aI (G.2.1 (F a 10)) (10 * (aI (G.2.1 (F a 17)) ((G.1 a 46).toInt)) + 0)))))
    (z0a : ((sF (aI (G.2.1 (F a 10)) (10 * (aI (G.2.1 (F a 17)) ((G.1 a 46).toInt)) + 0))) = 0 ∨ (sF (aI (G.2.1 (F a 10)) (10 * (aI (G.2.1 (F a 17)) ((G.1 a 46).toInt)) + 0))) = -99) ∧ ((sL (aI (G.2.1 (F a 10)) (10 * (aI (G.2.1 (F a 17)) ((G.1 a 46).toInt)) + 0))) = 29 ∨ (sL (aI (G.2.1 (F a 10)) (10 * (aI (G.2.1 (F a 17)) ((G.1 a 46).toInt)) + 0))) = 99))
    (t32 : ((G32.1 a 20).toInt) = (aI (G.2.1 (F a 17)) ((G.1 a 46).toInt)) ∧ ((G32.1 a 21).toInt) = (aI (G.2.1 (F a 18)) ((G.1 a 46).toInt)) ∧ 0 ≤ ((G32.1 a 23).toInt) ∧ ((G32.1 a 23).toInt) ≤ 24)
    (d_G38_a_23 : G38.1 a 23 = G32.1 a 23) :
    0 ≤ ((G38.1 a 23).toInt) ∧ ((G38.1 a 23).toInt) ≤ 24 := by
  rw [d_G38_a_23]; omega
