theorem v_X10_becomePrompt_110_1 {F : Nat → Nat → Nat} (a : Nat) (G : XG) (G72 : XG)
    (ron : RO (vw (G.2.1 (F (F a 3) 0))) (aI (G.2.1 (F (F a 3) 1))))
    (rob : RO (vw (G.2.1 (F (F a 4) 0))) (aI (G.2.1 (F (F a 4) 1))))
    (c_G72_F_F_a_4_0 : G72.2.1 (F (F a 4) 0) = G.2.1 (F (F a 4) 0))
    (c_G72_F_F_a_4_1 : G72.2.1 (F (F a 4) 1) = G.2.1 (F (F a 4) 1)) :
    RO (vw (G72.2.1 (F (F a 4) 0))) (aI (G72.2.1 (F (F a 4) 1))) := by simp only [c_G72_F_F_a_4_0, c_G72_F_F_a_4_1]; assumption
theorem v_X10_becomePrompt_110_2 {F : Nat → Nat → Nat} (a : Nat) (G : XG) (G72 : XG)
    (ron : RO (vw (G.2.1 (F (F a 3) 0))) (aI (G.2.1 (F (F a 3) 1))))
    (rob : RO (vw (G.2.1 (F (F a 4) 0))) (aI (G.2.1 (F (F a 4) 1))))
    (c_G72_F_F_a_3_0 : G72.2.1 (F (F a 3) 0) = G.2.1 (F (F a 3) 0))
    (c_G72_F_F_a_3_1 : G72.2.1 (F (F a 3) 1) = G.2.1 (F (F a 3) 1)) :
    RO (vw (G72.2.1 (F (F a 3) 0))) (aI (G72.2.1 (F (F a 3) 1))) := by simp only [c_G72_F_F_a_3_0, c_G72_F_F_a_3_1]; assumption
theorem v_X10_becomePrompt_110_3 {K : Nat → Nat} {F : Nat → Nat → Nat} (a : Nat) (p0 : Nat) (G : XG) (G_2 : XG) (G72 : XG)
    (hF_2 : XFr [] [F a 16] [] G G_2)
    (hG72 : G72 = dput G_2 p0 9 0)
    (bko : BKr K G (G.2.2.1 (F (F a 2) 1)))
    (r_G72_F_F_a_2_1 : G72.2.2.1 (F (F a 2) 1) = G.2.2.1 (F (F a 2) 1)) :
    ∀ (i q : Nat), i < 12 → G72.2.2.1 (F (F a 2) 1) i = some q → RW (G72.1 q) := by
  have e1 : G_2.1 = G.1 := funext (fun b => fr_A hF_2 (fun _ => xn0))
  have b2 : BKr K G_2 (G.2.2.1 (F (F a 2) 1)) := fun i q hi hq => ⟨(bko i q hi hq).1, by rw [e1]; exact (bko i q hi hq).2⟩
  rw [r_G72_F_F_a_2_1]
  exact (b2.late hG72).rw
theorem v_X10_becomePrompt_110_4 {K : Nat → Nat} {F : Nat → Nat → Nat} (a : Nat) (p0 : Nat) (G : XG) (G_2 : XG) (G72 : XG) (l2_2 : Int32) (x7 : Int32) (x92 : Int32) (N2 : Nat)
    (ha : K a = 12)
    (hp0 : K p0 = 9)
    (hk9999 : K (F a 14) = 11)
    (hj9999 : F (F a 14) 99 = 0)
    (hk9999a : K (F a 11) = 3)
    (hj9999a : F (F a 11) 99 = 0)
    (hk9999b : K (F a 8) = 6)
    (hj9999b : F (F a 8) 99 = 0)
    (hk9999c : K (F a 16) = 27)
    (hj9999c : F (F a 16) 99 = 0)
    (hk9999d : K (F (F a 11) 0) = 21)
    (hj9999d : F (F (F a 11) 0) 99 = 100)
    (hk9999e : K (F (F a 11) 1) = 21)
    (hj9999e : F (F (F a 11) 1) 99 = 101)
    (hk9999f : K (F (F a 11) 2) = 24)
    (hj9999f : F (F (F a 11) 2) 99 = 4)
    (hk9999g : K (F (F a 8) 0) = 22)
    (hj9999h : F (F (F a 8) 0) 99 = 10 * 0 + 0)
    (hk9999h : K (F (F a 8) 1) = 22)
    (hj9999j : F (F (F a 8) 1) 99 = 10 * 0 + 1)
    (hk9999i : K (F (F a 8) 2) = 22)
    (hj9999l : F (F (F a 8) 2) 99 = 10 * 0 + 2)
    (hk9999j : K (F (F a 8) 3) = 22)
    (hj9999n : F (F (F a 8) 3) 99 = 10 * 0 + 3)
    (hk9999k : K (F (F a 8) 4) = 23)
    (hj9999p : F (F (F a 8) 4) 99 = 10 * 0 + 4)
    (hk9999l : K (F (F a 8) 5) = 23)
    (hj9999r : F (F (F a 8) 5) 99 = 10 * 0 + 5)
    (hk9999m : K (F a 2) = 2)
    (hj9999s : F (F a 2) 99 = 0)
    (hk9999n : K (F (F a 2) 1) = 15)
    (hj9999t : F (F (F a 2) 1) 99 = 1)
    (hk9999o : K (F a 3) = 8)
    (hj9999u : F (F a 3) 99 = 0)
    (hk9999p : K (F (F a 3) 0) = 20)
    (hj9999w : F (F (F a 3) 0) 99 = 0)
    (hk9999q : K (F (F a 3) 1) = 21)
    (hj9999z25 : F (F (F a 3) 1) 99 = 0)
    (hk9999r : K (F a 4) = 8)
    (hj9999z26 : F (F a 4) 99 = 1)
    (hk9999s : K (F (F a 4) 0) = 20)
    (hj9999z28 : F (F (F a 4) 0) 99 = 1)
    (hk9999t : K (F (F a 4) 1) = 21)
    (hj9999z30 : F (F (F a 4) 1) 99 = 1)
    (hF_2 : XFr [] [F a 16] [] G G_2)
    (hG72 : G72 = dput G_2 p0 9 0)
    (ron : RO (vw (G.2.1 (F (F a 3) 0))) (aI (G.2.1 (F (F a 3) 1))))
    (rob : RO (vw (G.2.1 (F (F a 4) 0))) (aI (G.2.1 (F (F a 4) 1))))
    (bko : BKr K G (G.2.2.1 (F (F a 2) 1)))
    (pa : ∀ j : Int, 0 ≤ j → j < l2_2.toInt → aI (G.2.1 (F (F a 8) 0)) j = ((G.1 p0 1).toInt) → aI (G.2.1 (F (F a 8) 5)) j = 0)
    (t7 : x7.toInt = ((G.1 (F a 8) 6).toInt))
    (t92 : x92.toInt = (hv (aI (G.2.1 (F (F a 8) 0))) 0 ((G.1 p0 1).toInt) ((G.1 (F a 8) 6).toInt)))
    (sb : 0 ≤ ((G.1 (F a 2) 2).toInt) ∧ ((G.1 (F a 2) 2).toInt) ≤ 12)
    (sw : 0 ≤ ((G.1 (F a 8) 6).toInt) ∧ ((G.1 (F a 8) 6).toInt) ≤ 1080)
    (I2_0 : 0 ≤ l2_2.toInt ∧ l2_2.toInt ≤ ((G.1 (F a 8) 6).toInt))
    (I2_1 : (0 : Int) ≤ l2_2.toInt)
    (hm2 : 2147483648 - l2_2.toInt < (((N2) + 1 : Nat) : Int))
    (c10 : ((G.1 (F a 8) 6).toInt) ≤ l2_2.toInt)
    (f58 : ((G.1 a 18).toInt) = 0 ∨ ((G.1 a 18).toInt) = 1)
    (c79 : ((G.1 a 18).toInt) ≠ 0)
    (c_G72_F_F_a_11_0 : G72.2.1 (F (F a 11) 0) = G.2.1 (F (F a 11) 0))
    (c_G72_F_F_a_11_1 : G72.2.1 (F (F a 11) 1) = G.2.1 (F (F a 11) 1))
    (c_G72_F_F_a_11_2 : G72.2.1 (F (F a 11) 2) = G.2.1 (F (F a 11) 2))
    (c_G72_F_F_a_8_0 : G72.2.1 (F (F a 8) 0) = G.2.1 (F (F a 8) 0))
    (c_G72_F_F_a_8_1 : G72.2.1 (F (F a 8) 1) = G.2.1 (F (F a 8) 1))
    (c_G72_F_F_a_8_2 : G72.2.1 (F (F a 8) 2) = G.2.1 (F (F a 8) 2))
    (c_G72_F_F_a_8_3 : G72.2.1 (F (F a 8) 3) = G.2.1 (F (F a 8) 3))
    (c_G72_F_F_a_8_4 : G72.2.1 (F (F a 8) 4) = G.2.1 (F (F a 8) 4))
    (c_G72_F_F_a_8_5 : G72.2.1 (F (F a 8) 5) = G.2.1 (F (F a 8) 5))
    (c_G72_F_a_16 : G72.2.1 (F a 16) = G_2.2.1 (F a 16))
    (r_G72_F_F_a_2_1 : G72.2.2.1 (F (F a 2) 1) = G.2.2.1 (F (F a 2) 1))
    (d_G72_F_a_11_3 : G72.1 (F a 11) 3 = G.1 (F a 11) 3)
    (d_G72_F_a_14_1 : G72.1 (F a 14) 1 = G.1 (F a 14) 1)
    (d_G72_F_a_14_2 : G72.1 (F a 14) 2 = G.1 (F a 14) 2)
    (d_G72_F_a_14_3 : G72.1 (F a 14) 3 = G.1 (F a 14) 3)
    (d_G72_F_a_8_6 : G72.1 (F a 8) 6 = G.1 (F a 8) 6)
    (d_G72_p0_9 : G72.1 p0 9 = 0) :
    F (F a 4) 99 < 12 := by
  first | assumption | omega
theorem v_X10_becomePrompt_110_5 {K : Nat → Nat} {F : Nat → Nat → Nat} (a : Nat) (p0 : Nat) (G : XG) (G_2 : XG) (G72 : XG) (l2_2 : Int32) (x7 : Int32) (x92 : Int32) (N2 : Nat)
    (ha : K a = 12)
    (hp0 : K p0 = 9)
    (hk9999 : K (F a 14) = 11)
    (hj9999 : F (F a 14) 99 = 0)
    (hk9999a : K (F a 11) = 3)
    (hj9999a : F (F a 11) 99 = 0)
    (hk9999b : K (F a 8) = 6)
    (hj9999b : F (F a 8) 99 = 0)
    (hk9999c : K (F a 16) = 27)
    (hj9999c : F (F a 16) 99 = 0)
    (hk9999d : K (F (F a 11) 0) = 21)
    (hj9999d : F (F (F a 11) 0) 99 = 100)
    (hk9999e : K (F (F a 11) 1) = 21)
    (hj9999e : F (F (F a 11) 1) 99 = 101)
    (hk9999f : K (F (F a 11) 2) = 24)
    (hj9999f : F (F (F a 11) 2) 99 = 4)
    (hk9999g : K (F (F a 8) 0) = 22)
    (hj9999h : F (F (F a 8) 0) 99 = 10 * 0 + 0)
    (hk9999h : K (F (F a 8) 1) = 22)
    (hj9999j : F (F (F a 8) 1) 99 = 10 * 0 + 1)
    (hk9999i : K (F (F a 8) 2) = 22)
    (hj9999l : F (F (F a 8) 2) 99 = 10 * 0 + 2)
    (hk9999j : K (F (F a 8) 3) = 22)
    (hj9999n : F (F (F a 8) 3) 99 = 10 * 0 + 3)
    (hk9999k : K (F (F a 8) 4) = 23)
    (hj9999p : F (F (F a 8) 4) 99 = 10 * 0 + 4)
    (hk9999l : K (F (F a 8) 5) = 23)
    (hj9999r : F (F (F a 8) 5) 99 = 10 * 0 + 5)
    (hk9999m : K (F a 2) = 2)
    (hj9999s : F (F a 2) 99 = 0)
    (hk9999n : K (F (F a 2) 1) = 15)
    (hj9999t : F (F (F a 2) 1) 99 = 1)
    (hk9999o : K (F a 3) = 8)
    (hj9999u : F (F a 3) 99 = 0)
    (hk9999p : K (F (F a 3) 0) = 20)
    (hj9999w : F (F (F a 3) 0) 99 = 0)
    (hk9999q : K (F (F a 3) 1) = 21)
    (hj9999z25 : F (F (F a 3) 1) 99 = 0)
    (hk9999r : K (F a 4) = 8)
    (hj9999z26 : F (F a 4) 99 = 1)
    (hk9999s : K (F (F a 4) 0) = 20)
    (hj9999z28 : F (F (F a 4) 0) 99 = 1)
    (hk9999t : K (F (F a 4) 1) = 21)
    (hj9999z30 : F (F (F a 4) 1) 99 = 1)
    (hF_2 : XFr [] [F a 16] [] G G_2)
    (hG72 : G72 = dput G_2 p0 9 0)
    (ron : RO (vw (G.2.1 (F (F a 3) 0))) (aI (G.2.1 (F (F a 3) 1))))
    (rob : RO (vw (G.2.1 (F (F a 4) 0))) (aI (G.2.1 (F (F a 4) 1))))
    (bko : BKr K G (G.2.2.1 (F (F a 2) 1)))
    (pa : ∀ j : Int, 0 ≤ j → j < l2_2.toInt → aI (G.2.1 (F (F a 8) 0)) j = ((G.1 p0 1).toInt) → aI (G.2.1 (F (F a 8) 5)) j = 0)
    (t7 : x7.toInt = ((G.1 (F a 8) 6).toInt))
    (t92 : x92.toInt = (hv (aI (G.2.1 (F (F a 8) 0))) 0 ((G.1 p0 1).toInt) ((G.1 (F a 8) 6).toInt)))
    (sb : 0 ≤ ((G.1 (F a 2) 2).toInt) ∧ ((G.1 (F a 2) 2).toInt) ≤ 12)
    (sw : 0 ≤ ((G.1 (F a 8) 6).toInt) ∧ ((G.1 (F a 8) 6).toInt) ≤ 1080)
    (I2_0 : 0 ≤ l2_2.toInt ∧ l2_2.toInt ≤ ((G.1 (F a 8) 6).toInt))
    (I2_1 : (0 : Int) ≤ l2_2.toInt)
    (hm2 : 2147483648 - l2_2.toInt < (((N2) + 1 : Nat) : Int))
    (c10 : ((G.1 (F a 8) 6).toInt) ≤ l2_2.toInt)
    (f58 : ((G.1 a 18).toInt) = 0 ∨ ((G.1 a 18).toInt) = 1)
    (c79 : ((G.1 a 18).toInt) ≠ 0)
    (c_G72_F_F_a_11_0 : G72.2.1 (F (F a 11) 0) = G.2.1 (F (F a 11) 0))
    (c_G72_F_F_a_11_1 : G72.2.1 (F (F a 11) 1) = G.2.1 (F (F a 11) 1))
    (c_G72_F_F_a_11_2 : G72.2.1 (F (F a 11) 2) = G.2.1 (F (F a 11) 2))
    (c_G72_F_F_a_8_0 : G72.2.1 (F (F a 8) 0) = G.2.1 (F (F a 8) 0))
    (c_G72_F_F_a_8_1 : G72.2.1 (F (F a 8) 1) = G.2.1 (F (F a 8) 1))
    (c_G72_F_F_a_8_2 : G72.2.1 (F (F a 8) 2) = G.2.1 (F (F a 8) 2))
    (c_G72_F_F_a_8_3 : G72.2.1 (F (F a 8) 3) = G.2.1 (F (F a 8) 3))
    (c_G72_F_F_a_8_4 : G72.2.1 (F (F a 8) 4) = G.2.1 (F (F a 8) 4))
    (c_G72_F_F_a_8_5 : G72.2.1 (F (F a 8) 5) = G.2.1 (F (F a 8) 5))
    (c_G72_F_a_16 : G72.2.1 (F a 16) = G_2.2.1 (F a 16))
    (r_G72_F_F_a_2_1 : G72.2.2.1 (F (F a 2) 1) = G.2.2.1 (F (F a 2) 1))
    (d_G72_F_a_11_3 : G72.1 (F a 11) 3 = G.1 (F a 11) 3)
    (d_G72_F_a_14_1 : G72.1 (F a 14) 1 = G.1 (F a 14) 1)
    (d_G72_F_a_14_2 : G72.1 (F a 14) 2 = G.1 (F a 14) 2)
    (d_G72_F_a_14_3 : G72.1 (F a 14) 3 = G.1 (F a 14) 3)
    (d_G72_F_a_8_6 : G72.1 (F a 8) 6 = G.1 (F a 8) 6)
    (d_G72_p0_9 : G72.1 p0 9 = 0) :
    F (F a 3) 99 < 12 := by
  first | assumption | omega
theorem v_X10_becomePrompt_114_6 {K : Nat → Nat} {F : Nat → Nat → Nat} (a : Nat) (p0 : Nat) (G : XG) (G_2 : XG) (G72 : XG) (G110 : XG) (l2_2 : Int32) (N2 : Nat)
    (ha : K a = 12)
    (hp0 : K p0 = 9)
    (hk9999 : K (F a 14) = 11)
    (hj9999 : F (F a 14) 99 = 0)
    (hk9999a : K (F a 11) = 3)
    (hj9999a : F (F a 11) 99 = 0)
    (hk9999b : K (F a 8) = 6)
    (hj9999b : F (F a 8) 99 = 0)
    (hk9999c : K (F a 16) = 27)
    (hj9999c : F (F a 16) 99 = 0)
    (hk9999d : K (F (F a 11) 0) = 21)
    (hj9999d : F (F (F a 11) 0) 99 = 100)
    (hk9999e : K (F (F a 11) 1) = 21)
    (hj9999e : F (F (F a 11) 1) 99 = 101)
    (hk9999f : K (F (F a 11) 2) = 24)
    (hj9999f : F (F (F a 11) 2) 99 = 4)
    (hk9999g : K (F (F a 8) 0) = 22)
    (hj9999h : F (F (F a 8) 0) 99 = 10 * 0 + 0)
    (hk9999h : K (F (F a 8) 1) = 22)
    (hj9999j : F (F (F a 8) 1) 99 = 10 * 0 + 1)
    (hk9999i : K (F (F a 8) 2) = 22)
    (hj9999l : F (F (F a 8) 2) 99 = 10 * 0 + 2)
    (hk9999j : K (F (F a 8) 3) = 22)
    (hj9999n : F (F (F a 8) 3) 99 = 10 * 0 + 3)
    (hk9999k : K (F (F a 8) 4) = 23)
    (hj9999p : F (F (F a 8) 4) 99 = 10 * 0 + 4)
    (hk9999l : K (F (F a 8) 5) = 23)
    (hj9999r : F (F (F a 8) 5) 99 = 10 * 0 + 5)
    (hk9999m : K (F a 2) = 2)
    (hj9999s : F (F a 2) 99 = 0)
    (hk9999n : K (F (F a 2) 1) = 15)
    (hj9999t : F (F (F a 2) 1) 99 = 1)
    (hk9999o : K (F a 3) = 8)
    (hj9999u : F (F a 3) 99 = 0)
    (hk9999p : K (F (F a 3) 0) = 20)
    (hj9999w : F (F (F a 3) 0) 99 = 0)
    (hk9999q : K (F (F a 3) 1) = 21)
    (hj9999z25 : F (F (F a 3) 1) 99 = 0)
    (hk9999r : K (F a 4) = 8)
    (hj9999z26 : F (F a 4) 99 = 1)
    (hk9999s : K (F (F a 4) 0) = 20)
    (hj9999z28 : F (F (F a 4) 0) 99 = 1)
    (hk9999t : K (F (F a 4) 1) = 21)
    (hj9999z30 : F (F (F a 4) 1) 99 = 1)
    (hF_2 : XFr [] [F a 16] [] G G_2)
    (hG72 : G72 = dput G_2 p0 9 0)
    (pa : ∀ j : Int, 0 ≤ j → j < l2_2.toInt → aI (G.2.1 (F (F a 8) 0)) j = ((G.1 p0 1).toInt) → aI (G.2.1 (F (F a 8) 5)) j = 0)
    (oq110 : qL G110 F (F a 8) = gaL G72 (G72.2.2.1 (F (F a 2) 1)) (vw (G.2.1 (F (F a 4) 0))) (vw (G.2.1 (F (F a 3) 0))) (1 : Int) (((G.1 (F a 2) 2).toInt)).toNat)
    (sb : 0 ≤ ((G.1 (F a 2) 2).toInt) ∧ ((G.1 (F a 2) 2).toInt) ≤ 12)
    (sw : 0 ≤ ((G.1 (F a 8) 6).toInt) ∧ ((G.1 (F a 8) 6).toInt) ≤ 1080)
    (I2_0 : 0 ≤ l2_2.toInt ∧ l2_2.toInt ≤ ((G.1 (F a 8) 6).toInt))
    (I2_1 : (0 : Int) ≤ l2_2.toInt)
    (hm2 : 2147483648 - l2_2.toInt < (((N2) + 1 : Nat) : Int))
    (c10 : ((G.1 (F a 8) 6).toInt) ≤ l2_2.toInt)
    (f60 : ((G.1 a 18).toInt) = 0 ∨ ((G.1 a 18).toInt) = 1)
    (c79 : ((G.1 a 18).toInt) ≠ 0)
    (t110 : 0 ≤ ((G110.1 (F a 8) 6).toInt) ∧ ((G110.1 (F a 8) 6).toInt) ≤ 1080)
    (r_G72_F_F_a_2_1 : G72.2.2.1 (F (F a 2) 1) = G.2.2.1 (F (F a 2) 1))
    (d_G110_p0_9 : G110.1 p0 9 = 0) :
    ((∃ x, x ∈ qL G F (F a 8) ∧ x.1 = ((G.1 p0 1).toInt) ∧ x.2.2.2.2.2 ≠ 0) ∧ (hv (aI (G.2.1 (F (F a 8) 0))) 0 ((G.1 p0 1).toInt) ((G.1 (F a 8) 6).toInt)) = -5 ∧ ((G110.1 p0 9).toInt) = ((G.1 p0 9).toInt) ∧ qL G110 F (F a 8) = qL G F (F a 8)) ∨ ((∀ x, x ∈ qL G F (F a 8) → x.1 = ((G.1 p0 1).toInt) → x.2.2.2.2.2 = 0) ∧ ((G110.1 p0 9).toInt) = 0 ∧ ((((G.1 a 18).toInt) = 0 ∧ qL G110 F (F a 8) = qL G F (F a 8) ∧ (hv (aI (G.2.1 (F (F a 8) 0))) 0 ((G.1 p0 1).toInt) ((G.1 (F a 8) 6).toInt)) = 0) ∨ (((G.1 a 18).toInt) ≠ 0 ∧ qL G110 F (F a 8) = (gaL (dput G p0 9 0) (G.2.2.1 (F (F a 2) 1)) (vw (G.2.1 (F (F a 4) 0))) (vw (G.2.1 (F (F a 3) 0))) 1 (((G.1 (F a 2) 2).toInt)).toNat) ∧ (hv (aI (G.2.1 (F (F a 8) 0))) 0 ((G.1 p0 1).toInt) ((G.1 (F a 8) 6).toInt)) = cnQ (qL G F (F a 8)) ((G.1 p0 1).toInt)))) := by
  have e1 : G_2.1 = G.1 := funext (fun b => fr_A hF_2 (fun _ => xn0))
  have e2 : G72.1 = (dput G p0 9 0).1 := by
    rw [hG72]
    show up2 G_2.1 _ _ _ = up2 G.1 _ _ _
    rw [e1]
  refine Or.inr ⟨ql_all (P := fun x => x.1 = ((G.1 p0 1).toInt) → x.2.2.2.2.2 = 0) (fun j h1 h2 => pa j h1 (by omega)), by rw [d_G110_p0_9]; rfl, Or.inr ⟨by omega, ?_, ?_⟩⟩
  · rw [oq110, r_G72_F_F_a_2_1]
    exact gaL_cg (fun i q _ _ => congrFun e2 q)
  · exact hv_qL G F (F a 8) _
theorem v_X10_becomePrompt_83_7 {K : Nat → Nat} {F : Nat → Nat → Nat} (a : Nat) (p0 : Nat) (G : XG) (G72 : XG) (l2_2 : Int32) (N2 : Nat)
    (ha : K a = 12)
    (hp0 : K p0 = 9)
    (pa : ∀ j : Int, 0 ≤ j → j < l2_2.toInt → aI (G.2.1 (F (F a 8) 0)) j = ((G.1 p0 1).toInt) → aI (G.2.1 (F (F a 8) 5)) j = 0)
    (sb : 0 ≤ ((G.1 (F a 2) 2).toInt) ∧ ((G.1 (F a 2) 2).toInt) ≤ 12)
    (sw : 0 ≤ ((G.1 (F a 8) 6).toInt) ∧ ((G.1 (F a 8) 6).toInt) ≤ 1080)
    (I2_0 : 0 ≤ l2_2.toInt ∧ l2_2.toInt ≤ ((G.1 (F a 8) 6).toInt))
    (I2_1 : (0 : Int) ≤ l2_2.toInt)
    (hm2 : 2147483648 - l2_2.toInt < (((N2) + 1 : Nat) : Int))
    (c10 : ((G.1 (F a 8) 6).toInt) ≤ l2_2.toInt)
    (f57 : ((G.1 a 18).toInt) = 0 ∨ ((G.1 a 18).toInt) = 1)
    (c79 : ¬ (((G.1 a 18).toInt) ≠ 0))
    (c_G72_F_F_a_8_0 : G72.2.1 (F (F a 8) 0) = G.2.1 (F (F a 8) 0))
    (c_G72_F_F_a_8_1 : G72.2.1 (F (F a 8) 1) = G.2.1 (F (F a 8) 1))
    (c_G72_F_F_a_8_2 : G72.2.1 (F (F a 8) 2) = G.2.1 (F (F a 8) 2))
    (c_G72_F_F_a_8_3 : G72.2.1 (F (F a 8) 3) = G.2.1 (F (F a 8) 3))
    (c_G72_F_F_a_8_4 : G72.2.1 (F (F a 8) 4) = G.2.1 (F (F a 8) 4))
    (c_G72_F_F_a_8_5 : G72.2.1 (F (F a 8) 5) = G.2.1 (F (F a 8) 5))
    (d_G72_F_a_8_6 : G72.1 (F a 8) 6 = G.1 (F a 8) 6)
    (d_G72_p0_9 : G72.1 p0 9 = 0) :
    ((∃ x, x ∈ qL G F (F a 8) ∧ x.1 = ((G.1 p0 1).toInt) ∧ x.2.2.2.2.2 ≠ 0) ∧ (0 : Int) = -5 ∧ ((G72.1 p0 9).toInt) = ((G.1 p0 9).toInt) ∧ qL G72 F (F a 8) = qL G F (F a 8)) ∨ ((∀ x, x ∈ qL G F (F a 8) → x.1 = ((G.1 p0 1).toInt) → x.2.2.2.2.2 = 0) ∧ ((G72.1 p0 9).toInt) = 0 ∧ ((((G.1 a 18).toInt) = 0 ∧ qL G72 F (F a 8) = qL G F (F a 8) ∧ (0 : Int) = 0) ∨ (((G.1 a 18).toInt) ≠ 0 ∧ qL G72 F (F a 8) = (gaL (dput G p0 9 0) (G.2.2.1 (F (F a 2) 1)) (vw (G.2.1 (F (F a 4) 0))) (vw (G.2.1 (F (F a 3) 0))) 1 (((G.1 (F a 2) 2).toInt)).toNat) ∧ (0 : Int) = cnQ (qL G F (F a 8)) ((G.1 p0 1).toInt)))) := by
  exact Or.inr ⟨ql_all (P := fun x => x.1 = ((G.1 p0 1).toInt) → x.2.2.2.2.2 = 0) (fun j h1 h2 => pa j h1 (by omega)), by rw [d_G72_p0_9]; rfl, Or.inl ⟨by omega, qL_cg d_G72_F_a_8_6 c_G72_F_F_a_8_0 c_G72_F_F_a_8_1 c_G72_F_F_a_8_2 c_G72_F_F_a_8_3 c_G72_F_F_a_8_4 c_G72_F_F_a_8_5, rfl⟩⟩
theorem v_X10_becomePrompt_67_8 {K : Nat → Nat} {F : Nat → Nat → Nat} (a : Nat) (p0 : Nat) (G : XG) (l2_2 : Int32) (N2 : Nat) (x18 : Int32) (x46 : Int32)
    (ha : K a = 12)
    (hp0 : K p0 = 9)
    (pa : ∀ j : Int, 0 ≤ j → j < l2_2.toInt → aI (G.2.1 (F (F a 8) 0)) j = ((G.1 p0 1).toInt) → aI (G.2.1 (F (F a 8) 5)) j = 0)
    (sb : 0 ≤ ((G.1 (F a 2) 2).toInt) ∧ ((G.1 (F a 2) 2).toInt) ≤ 12)
    (sw : 0 ≤ ((G.1 (F a 8) 6).toInt) ∧ ((G.1 (F a 8) 6).toInt) ≤ 1080)
    (I2_0 : 0 ≤ l2_2.toInt ∧ l2_2.toInt ≤ ((G.1 (F a 8) 6).toInt))
    (I2_1 : (0 : Int) ≤ l2_2.toInt)
    (hm2 : 2147483648 - l2_2.toInt < (((N2) + 1 : Nat) : Int))
    (c10 : ¬ (((G.1 (F a 8) 6).toInt) ≤ l2_2.toInt))
    (t18 : ((0 ≤ l2_2.toInt ∧ l2_2.toInt < ((G.1 (F a 8) 6).toInt) ∧ l2_2.toInt < 1080) ∧ x18.toInt = (aI (G.2.1 (F (F a 8) 0)) (l2_2.toInt))) ∨ (¬ (0 ≤ l2_2.toInt ∧ l2_2.toInt < ((G.1 (F a 8) 6).toInt) ∧ l2_2.toInt < 1080) ∧ x18.toInt = -1))
    (c25 : x18.toInt = ((G.1 p0 1).toInt))
    (t46 : ((0 ≤ l2_2.toInt ∧ l2_2.toInt < ((G.1 (F a 8) 6).toInt) ∧ l2_2.toInt < 1080) ∧ x46.toInt = (aI (G.2.1 (F (F a 8) 5)) (l2_2.toInt))) ∨ (¬ (0 ≤ l2_2.toInt ∧ l2_2.toInt < ((G.1 (F a 8) 6).toInt) ∧ l2_2.toInt < 1080) ∧ x46.toInt = 0))
    (f63 : x46.toInt = 0 ∨ x46.toInt = 1)
    (c49 : x46.toInt = 0) :
    ∀ j : Int, 0 ≤ j → j < (l2_2.toInt + 1) → aI (G.2.1 (F (F a 8) 0)) j = ((G.1 p0 1).toInt) → aI (G.2.1 (F (F a 8) 5)) j = 0 := by
  intro j h1 h2 h3
  by_cases e : j = l2_2.toInt
  · subst e; omega
  · exact pa j h1 (by omega) h3
theorem v_X10_becomePrompt_63_9 {K : Nat → Nat} {F : Nat → Nat → Nat} (a : Nat) (p0 : Nat) (G : XG) (G58 : XG) (l2_2 : Int32) (N2 : Nat) (x18 : Int32) (x46 : Int32)
    (ha : K a = 12)
    (hp0 : K p0 = 9)
    (sb : 0 ≤ ((G.1 (F a 2) 2).toInt) ∧ ((G.1 (F a 2) 2).toInt) ≤ 12)
    (sw : 0 ≤ ((G.1 (F a 8) 6).toInt) ∧ ((G.1 (F a 8) 6).toInt) ≤ 1080)
    (I2_0 : 0 ≤ l2_2.toInt ∧ l2_2.toInt ≤ ((G.1 (F a 8) 6).toInt))
    (I2_1 : (0 : Int) ≤ l2_2.toInt)
    (hm2 : 2147483648 - l2_2.toInt < (((N2) + 1 : Nat) : Int))
    (c10 : ¬ (((G.1 (F a 8) 6).toInt) ≤ l2_2.toInt))
    (t18 : ((0 ≤ l2_2.toInt ∧ l2_2.toInt < ((G.1 (F a 8) 6).toInt) ∧ l2_2.toInt < 1080) ∧ x18.toInt = (aI (G.2.1 (F (F a 8) 0)) (l2_2.toInt))) ∨ (¬ (0 ≤ l2_2.toInt ∧ l2_2.toInt < ((G.1 (F a 8) 6).toInt) ∧ l2_2.toInt < 1080) ∧ x18.toInt = -1))
    (c25 : x18.toInt = ((G.1 p0 1).toInt))
    (t46 : ((0 ≤ l2_2.toInt ∧ l2_2.toInt < ((G.1 (F a 8) 6).toInt) ∧ l2_2.toInt < 1080) ∧ x46.toInt = (aI (G.2.1 (F (F a 8) 5)) (l2_2.toInt))) ∨ (¬ (0 ≤ l2_2.toInt ∧ l2_2.toInt < ((G.1 (F a 8) 6).toInt) ∧ l2_2.toInt < 1080) ∧ x46.toInt = 0))
    (f63 : x46.toInt = 0 ∨ x46.toInt = 1)
    (c49 : ¬ (x46.toInt = 0))
    (c_G58_F_F_a_8_0 : G58.2.1 (F (F a 8) 0) = G.2.1 (F (F a 8) 0))
    (c_G58_F_F_a_8_1 : G58.2.1 (F (F a 8) 1) = G.2.1 (F (F a 8) 1))
    (c_G58_F_F_a_8_2 : G58.2.1 (F (F a 8) 2) = G.2.1 (F (F a 8) 2))
    (c_G58_F_F_a_8_3 : G58.2.1 (F (F a 8) 3) = G.2.1 (F (F a 8) 3))
    (c_G58_F_F_a_8_4 : G58.2.1 (F (F a 8) 4) = G.2.1 (F (F a 8) 4))
    (c_G58_F_F_a_8_5 : G58.2.1 (F (F a 8) 5) = G.2.1 (F (F a 8) 5))
    (d_G58_F_a_8_6 : G58.1 (F a 8) 6 = G.1 (F a 8) 6)
    (d_G58_p0_9 : G58.1 p0 9 = G.1 p0 9) :
    ((∃ x, x ∈ qL G F (F a 8) ∧ x.1 = ((G.1 p0 1).toInt) ∧ x.2.2.2.2.2 ≠ 0) ∧ (-5 : Int) = -5 ∧ ((G58.1 p0 9).toInt) = ((G.1 p0 9).toInt) ∧ qL G58 F (F a 8) = qL G F (F a 8)) ∨ ((∀ x, x ∈ qL G F (F a 8) → x.1 = ((G.1 p0 1).toInt) → x.2.2.2.2.2 = 0) ∧ ((G58.1 p0 9).toInt) = 0 ∧ ((((G.1 a 18).toInt) = 0 ∧ qL G58 F (F a 8) = qL G F (F a 8) ∧ (-5 : Int) = 0) ∨ (((G.1 a 18).toInt) ≠ 0 ∧ qL G58 F (F a 8) = (gaL (dput G p0 9 0) (G.2.2.1 (F (F a 2) 1)) (vw (G.2.1 (F (F a 4) 0))) (vw (G.2.1 (F (F a 3) 0))) 1 (((G.1 (F a 2) 2).toInt)).toNat) ∧ (-5 : Int) = cnQ (qL G F (F a 8)) ((G.1 p0 1).toInt)))) := by
  exact Or.inl ⟨⟨_, List.mem_of_getElem? (qL_at (z := l2_2.toInt) (by omega)), show aI (G.2.1 (F (F a 8) 0)) l2_2.toInt = ((G.1 p0 1).toInt) by omega, show aI (G.2.1 (F (F a 8) 5)) l2_2.toInt ≠ 0 by omega⟩, rfl, by rw [d_G58_p0_9], qL_cg d_G58_F_a_8_6 c_G58_F_F_a_8_0 c_G58_F_F_a_8_1 c_G58_F_F_a_8_2 c_G58_F_F_a_8_3 c_G58_F_F_a_8_4 c_G58_F_F_a_8_5⟩
theorem v_X10_becomePrompt_67_10 {K : Nat → Nat} {F : Nat → Nat → Nat} (a : Nat) (p0 : Nat) (G : XG) (l2_2 : Int32) (N2 : Nat) (x18 : Int32)
    (ha : K a = 12)
    (hp0 : K p0 = 9)
    (pa : ∀ j : Int, 0 ≤ j → j < l2_2.toInt → aI (G.2.1 (F (F a 8) 0)) j = ((G.1 p0 1).toInt) → aI (G.2.1 (F (F a 8) 5)) j = 0)
    (sb : 0 ≤ ((G.1 (F a 2) 2).toInt) ∧ ((G.1 (F a 2) 2).toInt) ≤ 12)
    (sw : 0 ≤ ((G.1 (F a 8) 6).toInt) ∧ ((G.1 (F a 8) 6).toInt) ≤ 1080)
    (I2_0 : 0 ≤ l2_2.toInt ∧ l2_2.toInt ≤ ((G.1 (F a 8) 6).toInt))
    (I2_1 : (0 : Int) ≤ l2_2.toInt)
    (hm2 : 2147483648 - l2_2.toInt < (((N2) + 1 : Nat) : Int))
    (c10 : ¬ (((G.1 (F a 8) 6).toInt) ≤ l2_2.toInt))
    (t18 : ((0 ≤ l2_2.toInt ∧ l2_2.toInt < ((G.1 (F a 8) 6).toInt) ∧ l2_2.toInt < 1080) ∧ x18.toInt = (aI (G.2.1 (F (F a 8) 0)) (l2_2.toInt))) ∨ (¬ (0 ≤ l2_2.toInt ∧ l2_2.toInt < ((G.1 (F a 8) 6).toInt) ∧ l2_2.toInt < 1080) ∧ x18.toInt = -1))
    (c25 : ¬ (x18.toInt = ((G.1 p0 1).toInt))) :
    ∀ j : Int, 0 ≤ j → j < (l2_2.toInt + 1) → aI (G.2.1 (F (F a 8) 0)) j = ((G.1 p0 1).toInt) → aI (G.2.1 (F (F a 8) 5)) j = 0 := by
  intro j h1 h2 h3
  by_cases e : j = l2_2.toInt
  · subst e; omega
  · exact pa j h1 (by omega) h3
theorem v_X10_becomePrompt_1_11 {K : Nat → Nat} {F : Nat → Nat → Nat} (a : Nat) (p0 : Nat) (G : XG)
    (ha : K a = 12)
    (hp0 : K p0 = 9)
    (sb : 0 ≤ ((G.1 (F a 2) 2).toInt) ∧ ((G.1 (F a 2) 2).toInt) ≤ 12)
    (sw : 0 ≤ ((G.1 (F a 8) 6).toInt) ∧ ((G.1 (F a 8) 6).toInt) ≤ 1080) :
    ∀ j : Int, 0 ≤ j → j < (0 : Int) → aI (G.2.1 (F (F a 8) 0)) j = ((G.1 p0 1).toInt) → aI (G.2.1 (F (F a 8) 5)) j = 0 := by
  intro j h1 h2; exact absurd h1 (by omega)
theorem z_X10_becomePrompt_1 (a0 : Int) (h0 : -2147483648 ≤ a0 ∧ a0 < 2147483648) : ¬ (2147483648 - a0 < ((0 : Nat) : Int)) := by omega
theorem z_X10_becomePrompt_6 (a0 : Int) (a1 : Int) (a2 : Int) (h0 : 0 ≤ a2 ∧ a2 ≤ 1080) (h1 : 0 ≤ a0 ∧ a0 ≤ a2) (h2 : a1 = (a0 + 1) ∨ (a0 + 1) < -2147483648 ∨ 2147483648 ≤ (a0 + 1)) : a1 = (a0 + 1) := by omega
theorem z_X10_becomePrompt_7 (a0 : Int) (a1 : Int) (h0 : 0 ≤ a0 ∧ a0 ≤ a1) (h1 : ¬ (a1 ≤ a0)) : 0 ≤ (a0 + 1) ∧ (a0 + 1) ≤ a1 := by omega
theorem z_X10_becomePrompt_8 (a0 : Int) (a1 : Int) (h0 : 0 ≤ a0 ∧ a0 ≤ a1) : (0 : Int) ≤ (a0 + 1) := by omega
theorem z_X10_becomePrompt_9 (a0 : Int) (a1 : Nat) (h0 : 2147483648 - a0 < ((a1 + 1 : Nat) : Int)) : 2147483648 - (a0 + 1) < ((a1 : Nat) : Int) := by omega
theorem z_X10_becomePrompt_15 (a0 : Int) (h0 : 0 ≤ a0 ∧ a0 ≤ 1080) : 0 ≤ (0 : Int) ∧ (0 : Int) ≤ a0 := by omega
abbrev rm_X10_becomePrompt : Room := { frames := 8, cells := 7, slots := 700, locals := 194 }
set_option maxHeartbeats 4000000 in
set_option maxRecDepth 100000 in
theorem c_X10_becomePrompt (l : Launch) (E : XE) (K : Nat → Nat) (F : Nat → Nat → Nat) (G : XG) (a : Nat) (p0 : Nat) (ha : K a = 12) (hp0 : K p0 = 9) (sb : 0 ≤ ((G.1 (F a 2) 2).toInt) ∧ ((G.1 (F a 2) 2).toInt) ≤ 12) (sw : 0 ≤ ((G.1 (F a 8) 6).toInt) ∧ ((G.1 (F a 8) 6).toInt) ≤ 1080) (ron : RO (vw (G.2.1 (F (F a 3) 0))) (aI (G.2.1 (F (F a 3) 1)))) (rob : RO (vw (G.2.1 (F (F a 4) 0))) (aI (G.2.1 (F (F a 4) 1)))) (bko : BKr K G (G.2.2.1 (F (F a 2) 1))) : Met l yX10_becomePrompt (xw yX10_becomePrompt cX10_becomePrompt 3 (some .int)) rm_X10_becomePrompt (va_Pc [.ref a, .ref p0] (XP E K F G)) (XQ E (fun v (u : XG) => ∃ r : Int32, v = .int r ∧ XFr [(F a 14, 1), (F a 14, 2), (F a 14, 3), (p0, 9), (F a 11, 3), (F a 8, 6)] [F a 16, F (F a 11) 0, F (F a 11) 1, F (F a 11) 2, F (F a 8) 0, F (F a 8) 1, F (F a 8) 2, F (F a 8) 3, F (F a 8) 4, F (F a 8) 5] [] G u ∧ (0 ≤ ((u.1 (F a 8) 6).toInt) ∧ ((u.1 (F a 8) 6).toInt) ≤ 1080) ∧ (((∃ x, x ∈ qL G F (F a 8) ∧ x.1 = ((G.1 p0 1).toInt) ∧ x.2.2.2.2.2 ≠ 0) ∧ r.toInt = -5 ∧ ((u.1 p0 9).toInt) = ((G.1 p0 9).toInt) ∧ qL u F (F a 8) = qL G F (F a 8)) ∨ ((∀ x, x ∈ qL G F (F a 8) → x.1 = ((G.1 p0 1).toInt) → x.2.2.2.2.2 = 0) ∧ ((u.1 p0 9).toInt) = 0 ∧ ((((G.1 a 18).toInt) = 0 ∧ qL u F (F a 8) = qL G F (F a 8) ∧ r.toInt = 0) ∨ (((G.1 a 18).toInt) ≠ 0 ∧ qL u F (F a 8) = (gaL (dput G p0 9 0) (G.2.2.1 (F (F a 2) 1)) (vw (G.2.1 (F (F a 4) 0))) (vw (G.2.1 (F (F a 3) 0))) 1 (((G.1 (F a 2) 2).toInt)).toNat) ∧ r.toInt = cnQ (qL G F (F a 8)) ((G.1 p0 1).toInt)))))) (fun u H => TW E K F u H)) 7 700 (xA E) := by
  refine x_enter (by decide) (Nat.le_of_ble_eq_true rfl) ?_
  intro p e s m args below meth c Q S hr hlk hnm hQ hP ls hl
  obtain ⟨hz, hK, hT⟩ := hP
  obtain ⟨hx, hb, -, -, -⟩ := id S
  obtain ⟨H, hT, hS, hgo⟩ : ∃ H : Heap, TW E K F G H ∧ va_S (xA E) s.heap H [] ∧ H = s.heap := ⟨_, hT, va_S.rf, rfl⟩
  rw [← hgo]
  have hl : lv_has ls 3 [(0, .ref a), (1, .ref p0)] := hl
  obtain ⟨hk9999, hj9999⟩ := fkX10_14 hT ha
  obtain ⟨hk9999a, hj9999a⟩ := fkX10_11 hT ha
  obtain ⟨hk9999b, hj9999b⟩ := fkX10_8 hT ha
  obtain ⟨hk9999c, hj9999c⟩ := fkX10_16 hT ha
  obtain ⟨hk9999d, hj9999d⟩ := fkX1_0 hT hk9999a
  obtain ⟨hk9999e, hj9999e⟩ := fkX1_1 hT hk9999a
  obtain ⟨hk9999f, hj9999f⟩ := fkX1_2 hT hk9999a
  obtain ⟨hk9999g, hj9999g⟩ := fkX4_0 hT hk9999b
  have hj9999h : F (F (F a 8) 0) 99 = 10 * 0 + 0 := by rw [hj9999g, hj9999b]
  obtain ⟨hk9999h, hj9999i⟩ := fkX4_1 hT hk9999b
  have hj9999j : F (F (F a 8) 1) 99 = 10 * 0 + 1 := by rw [hj9999i, hj9999b]
  obtain ⟨hk9999i, hj9999k⟩ := fkX4_2 hT hk9999b
  have hj9999l : F (F (F a 8) 2) 99 = 10 * 0 + 2 := by rw [hj9999k, hj9999b]
  obtain ⟨hk9999j, hj9999m⟩ := fkX4_3 hT hk9999b
  have hj9999n : F (F (F a 8) 3) 99 = 10 * 0 + 3 := by rw [hj9999m, hj9999b]
  obtain ⟨hk9999k, hj9999o⟩ := fkX4_4 hT hk9999b
  have hj9999p : F (F (F a 8) 4) 99 = 10 * 0 + 4 := by rw [hj9999o, hj9999b]
  obtain ⟨hk9999l, hj9999q⟩ := fkX4_5 hT hk9999b
  have hj9999r : F (F (F a 8) 5) 99 = 10 * 0 + 5 := by rw [hj9999q, hj9999b]
  obtain ⟨hk9999m, hj9999s⟩ := fkX10_2 hT ha
  obtain ⟨hk9999n, hj9999t⟩ := fkX0_1 hT hk9999m
  obtain ⟨hk9999o, hj9999u⟩ := fkX10_3 hT ha
  obtain ⟨hk9999p, hj9999v⟩ := fkX6_0 hT hk9999o
  have hj9999w : F (F (F a 3) 0) 99 = 0 := by rw [hj9999v, hj9999u]
  obtain ⟨hk9999q, hj9999y⟩ := fkX6_1 hT hk9999o
  have hj9999z25 : F (F (F a 3) 1) 99 = 0 := by rw [hj9999y, hj9999u]
  obtain ⟨hk9999r, hj9999z26⟩ := fkX10_4 hT ha
  obtain ⟨hk9999s, hj9999z27⟩ := fkX6_0 hT hk9999r
  have hj9999z28 : F (F (F a 4) 0) 99 = 1 := by rw [hj9999z27, hj9999z26]
  obtain ⟨hk9999t, hj9999z29⟩ := fkX6_1 hT hk9999r
  have hj9999z30 : F (F (F a 4) 1) 99 = 1 := by rw [hj9999z29, hj9999z26]
  refine lv_iconst (v := 0) hx hb dX10_becomePrompt_0 (by decide) ?_
  refine lv_istore_n (lv' := [(2, .int 0), (0, .ref a), (1, .ref p0)]) hx hb dX10_becomePrompt_1 rfl hl (by decide) rfl (fun ls hl => ?_)
  have L2 : ∀ (N2 : Nat) (l2_2 : Int32) (G_2 : XG) (H : Heap) (locs : List Loc) (ls : Array Slot), XFr [] [F a 16] [] G G_2 → (∀ j : Int, 0 ≤ j → j < l2_2.toInt → aI (G.2.1 (F (F a 8) 0)) j = ((G.1 p0 1).toInt) → aI (G.2.1 (F (F a 8) 5)) j = 0) → 0 ≤ l2_2.toInt ∧ l2_2.toInt ≤ ((G.1 (F a 8) 6).toInt) → (0 : Int) ≤ l2_2.toInt → 2147483648 - l2_2.toInt < ((N2 : Nat) : Int) → TW E K F G_2 H → va_S (xA E) s.heap H locs → lv_has ls 3 [(0, .ref a), (1, .ref p0), (2, .int l2_2)] → W p l e rm_X10_becomePrompt s m args below meth c H locs 0 0 Q (F0 m 2 ls []) := by
    intro N2
    induction N2 with
    | zero =>
      intro l2_2 G_2 H locs ls hF_2 pa I2_0 I2_1 hm2
      exact absurd hm2 (z_X10_becomePrompt_1 l2_2.toInt (xr l2_2))
    | succ N2 ih2 =>
      intro l2_2 G_2 H locs ls hF_2 pa I2_0 I2_1 hm2 hT hS hl
      refine lv_iload_n hx hb dX10_becomePrompt_2 rfl (lv_at hl 2 rfl) ?_
      refine lv_aload_n hx hb dX10_becomePrompt_3 rfl (lv_at hl 0 rfl) ?_
      refine gX10_8 S hK hT ha kf_X10_57 dX10_becomePrompt_4 (fun _ _ => ?_)
      refine x_clp (x_runV (b := (F a 8)) (As := []) (rest := [.int l2_2]) S (c_X4_size l E K F G_2 H (F a 8) hk9999b) mv_X4_size km_X10_232 rfl rfl ⟨Nat.le_of_ble_eq_true rfl, Nat.le_of_ble_eq_true rfl⟩ (rc_6 hK hT hk9999b) hK (fun _ => XPh.blind) (fun U hU hW => XPh.at hK hz hS hT hU hW) rfl hl.1 (Nat.le_of_ble_eq_true rfl) dX10_becomePrompt_7 ⟨Nat.le_of_ble_eq_true rfl, Nat.le_of_ble_eq_true rfl⟩) hS ?_
      rintro _ _ locs ⟨x7, rfl, t7⟩ hS
      have t7 : x7.toInt = ((G.1 (F a 8) 6).toInt) := by rw [(show (G_2.1 (F a 8) 6).toInt = ((G.1 (F a 8) 6).toInt) from (congrArg Int32.toInt (hF_2.1 _ _ xn0)).trans (rfl : Int32.toInt (G.1 (F a 8) 6) = ((G.1 (F a 8) 6).toInt)))] at t7; exact t7
      refine xi_cge (tgt := 70) hx hb (rfl : Int32.toInt l2_2 = l2_2.toInt) (t7 : Int32.toInt x7 = ((G.1 (F a 8) 6).toInt)) dX10_becomePrompt_10 (by decide) (fun c10 => ?_) (fun c10 => ?_)
      · refine lv_aload_n hx hb dX10_becomePrompt_70 rfl (lv_at hl 1 rfl) ?_
        refine lv_iconst (v := 0) hx hb dX10_becomePrompt_71 (by decide) ?_
        refine pX7_9 (v := 0) S hK hT hS hp0 kf_X10_170 (Or.inl rfl) dX10_becomePrompt_72 (fun H locs hT hS => ?_)
        obtain ⟨G72, hG72⟩ : ∃ GG : XG, GG = dput G_2 p0 9 0 := ⟨_, rfl⟩
        rw [← hG72] at hT
        refine lv_aload_n hx hb dX10_becomePrompt_75 rfl (lv_at hl 0 rfl) ?_
        refine gX10_18 S hK hT ha kf_X10_123 dX10_becomePrompt_76 (v := (G.1 a 18)) ((ld_j hG72 (by decide)).trans (hF_2.1 _ _ xn0)) (fun hz76 => ?_)
        refine xi_zne (tgt := 84) hx hb (rfl : Int32.toInt (G.1 a 18) = ((G.1 a 18).toInt)) dX10_becomePrompt_79 (by decide) (fun c79 => ?_) (fun c79 => ?_)
        · refine lv_aload_n hx hb dX10_becomePrompt_84 rfl (lv_at hl 0 rfl) ?_
          refine gX10_8 S hK hT ha kf_X10_57 dX10_becomePrompt_85 (fun _ _ => ?_)
          refine lv_aload_n hx hb dX10_becomePrompt_88 rfl (lv_at hl 1 rfl) ?_
          refine gX7_1 S hK hT hp0 kf_X10_130 dX10_becomePrompt_89 (v := (G.1 p0 1)) ((ld_j hG72 (by decide)).trans (hF_2.1 _ _ xn0)) (?_)
          refine x_clp (x_runV (b := (F a 8)) (As := [.int (G.1 p0 1)]) (rest := []) S (c_X4_ofRule l E K F G72 H (F a 8) (G.1 p0 1) hk9999b (by rw [(show (G72.1 (F a 8) 6).toInt = ((G.1 (F a 8) 6).toInt) from (congrArg Int32.toInt ((ld_j hG72 (by decide)).trans (hF_2.1 _ _ xn0))).trans (rfl : Int32.toInt (G.1 (F a 8) 6) = ((G.1 (F a 8) 6).toInt)))] <;> exact (sw))) mv_X4_ofRule km_X10_296 rfl rfl ⟨Nat.le_of_ble_eq_true rfl, Nat.le_of_ble_eq_true rfl⟩ (rc_6 hK hT hk9999b) hK (fun _ => XPh.blind) (fun U hU hW => XPh.at hK hz hS hT hU hW) rfl hl.1 (Nat.le_of_ble_eq_true rfl) dX10_becomePrompt_92 ⟨Nat.le_of_ble_eq_true rfl, Nat.le_of_ble_eq_true rfl⟩) hS ?_
          rintro _ _ locs ⟨x92, rfl, t92⟩ hS
          have t92 : x92.toInt = (hv (aI (G.2.1 (F (F a 8) 0))) 0 ((G.1 p0 1).toInt) ((G.1 (F a 8) 6).toInt)) := by rw [(show G72.2.1 (F (F a 8) 0) = G.2.1 (F (F a 8) 0) from ((ld_c hG72).trans (hF_2.2.1 _ (xn1 (xne_k hk9999g hk9999c (by decide)) xn0))))] at t92; rw [(show (G72.1 (F a 8) 6).toInt = ((G.1 (F a 8) 6).toInt) from (congrArg Int32.toInt ((ld_j hG72 (by decide)).trans (hF_2.1 _ _ xn0))).trans (rfl : Int32.toInt (G.1 (F a 8) 6) = ((G.1 (F a 8) 6).toInt)))] at t92; exact t92
          refine lv_istore_n (lv' := [(2, .int x92), (0, .ref a), (1, .ref p0)]) hx hb dX10_becomePrompt_95 rfl hl (by decide) rfl (fun ls hl => ?_)
          refine lv_aload_n hx hb dX10_becomePrompt_96 rfl (lv_at hl 1 rfl) ?_
          refine lv_aload_n hx hb dX10_becomePrompt_97 rfl (lv_at hl 1 rfl) ?_
          refine gX10_8 S hK hT ha kf_X10_57 dX10_becomePrompt_98 (fun _ _ => ?_)
          refine lv_aload_n hx hb dX10_becomePrompt_101 rfl (lv_at hl 1 rfl) ?_
          refine gX10_4 S hK hT ha kf_X10_41 dX10_becomePrompt_102 (fun _ _ => ?_)
          refine lv_aload_n hx hb dX10_becomePrompt_105 rfl (lv_at hl 1 rfl) ?_
          refine gX10_3 S hK hT ha kf_X10_37 dX10_becomePrompt_106 (fun _ _ => ?_)
          refine lv_iconst (v := 1) hx hb dX10_becomePrompt_109 (by decide) ?_
          refine x_cv0 (x_runV (b := a) (As := [.ref (F a 8), .ref (F a 4), .ref (F a 3), .int 1]) (rest := []) S (c_X10_gather l E K F G72 a (F a 8) (F a 4) (F a 3) 1 ha hk9999b hk9999r hk9999o (by rw [(show (G72.1 (F a 2) 2).toInt = ((G.1 (F a 2) 2).toInt) from (congrArg Int32.toInt ((ld_j hG72 (by decide)).trans (hF_2.1 _ _ xn0))).trans (rfl : Int32.toInt (G.1 (F a 2) 2) = ((G.1 (F a 2) 2).toInt)))] <;> exact (sb)) (v_X10_becomePrompt_110_1 (F := F) a G G72 ron rob ((ld_c hG72).trans (hF_2.2.1 _ (xn1 (xne_k hk9999s hk9999c (by decide)) xn0))) ((ld_c hG72).trans (hF_2.2.1 _ (xn1 (xne_k hk9999t hk9999c (by decide)) xn0)))) (v_X10_becomePrompt_110_2 (F := F) a G G72 ron rob ((ld_c hG72).trans (hF_2.2.1 _ (xn1 (xne_k hk9999p hk9999c (by decide)) xn0))) ((ld_c hG72).trans (hF_2.2.1 _ (xn1 (xne_k hk9999q hk9999c (by decide)) xn0)))) (v_X10_becomePrompt_110_3 (K := K) (F := F) a p0 G G_2 G72 hF_2 hG72 bko ((ld_r hG72).trans (hF_2.2.2 _ xn0))) (v_X10_becomePrompt_110_4 (K := K) (F := F) a p0 G G_2 G72 l2_2 x7 x92 N2 ha hp0 hk9999 hj9999 hk9999a hj9999a hk9999b hj9999b hk9999c hj9999c hk9999d hj9999d hk9999e hj9999e hk9999f hj9999f hk9999g hj9999h hk9999h hj9999j hk9999i hj9999l hk9999j hj9999n hk9999k hj9999p hk9999l hj9999r hk9999m hj9999s hk9999n hj9999t hk9999o hj9999u hk9999p hj9999w hk9999q hj9999z25 hk9999r hj9999z26 hk9999s hj9999z28 hk9999t hj9999z30 hF_2 hG72 ron rob bko pa t7 t92 sb sw I2_0 I2_1 hm2 c10 (xzi hz76) c79 ((ld_c hG72).trans (hF_2.2.1 _ (xn1 (xne_k hk9999d hk9999c (by decide)) xn0))) ((ld_c hG72).trans (hF_2.2.1 _ (xn1 (xne_k hk9999e hk9999c (by decide)) xn0))) ((ld_c hG72).trans (hF_2.2.1 _ (xn1 (xne_k hk9999f hk9999c (by decide)) xn0))) ((ld_c hG72).trans (hF_2.2.1 _ (xn1 (xne_k hk9999g hk9999c (by decide)) xn0))) ((ld_c hG72).trans (hF_2.2.1 _ (xn1 (xne_k hk9999h hk9999c (by decide)) xn0))) ((ld_c hG72).trans (hF_2.2.1 _ (xn1 (xne_k hk9999i hk9999c (by decide)) xn0))) ((ld_c hG72).trans (hF_2.2.1 _ (xn1 (xne_k hk9999j hk9999c (by decide)) xn0))) ((ld_c hG72).trans (hF_2.2.1 _ (xn1 (xne_k hk9999k hk9999c (by decide)) xn0))) ((ld_c hG72).trans (hF_2.2.1 _ (xn1 (xne_k hk9999l hk9999c (by decide)) xn0))) (ld_c hG72) ((ld_r hG72).trans (hF_2.2.2 _ xn0)) ((ld_j hG72 (by decide)).trans (hF_2.1 _ _ xn0)) ((ld_j hG72 (by decide)).trans (hF_2.1 _ _ xn0)) ((ld_j hG72 (by decide)).trans (hF_2.1 _ _ xn0)) ((ld_j hG72 (by decide)).trans (hF_2.1 _ _ xn0)) ((ld_j hG72 (by decide)).trans (hF_2.1 _ _ xn0)) (ld_at hG72)) (v_X10_becomePrompt_110_5 (K := K) (F := F) a p0 G G_2 G72 l2_2 x7 x92 N2 ha hp0 hk9999 hj9999 hk9999a hj9999a hk9999b hj9999b hk9999c hj9999c hk9999d hj9999d hk9999e hj9999e hk9999f hj9999f hk9999g hj9999h hk9999h hj9999j hk9999i hj9999l hk9999j hj9999n hk9999k hj9999p hk9999l hj9999r hk9999m hj9999s hk9999n hj9999t hk9999o hj9999u hk9999p hj9999w hk9999q hj9999z25 hk9999r hj9999z26 hk9999s hj9999z28 hk9999t hj9999z30 hF_2 hG72 ron rob bko pa t7 t92 sb sw I2_0 I2_1 hm2 c10 (xzi hz76) c79 ((ld_c hG72).trans (hF_2.2.1 _ (xn1 (xne_k hk9999d hk9999c (by decide)) xn0))) ((ld_c hG72).trans (hF_2.2.1 _ (xn1 (xne_k hk9999e hk9999c (by decide)) xn0))) ((ld_c hG72).trans (hF_2.2.1 _ (xn1 (xne_k hk9999f hk9999c (by decide)) xn0))) ((ld_c hG72).trans (hF_2.2.1 _ (xn1 (xne_k hk9999g hk9999c (by decide)) xn0))) ((ld_c hG72).trans (hF_2.2.1 _ (xn1 (xne_k hk9999h hk9999c (by decide)) xn0))) ((ld_c hG72).trans (hF_2.2.1 _ (xn1 (xne_k hk9999i hk9999c (by decide)) xn0))) ((ld_c hG72).trans (hF_2.2.1 _ (xn1 (xne_k hk9999j hk9999c (by decide)) xn0))) ((ld_c hG72).trans (hF_2.2.1 _ (xn1 (xne_k hk9999k hk9999c (by decide)) xn0))) ((ld_c hG72).trans (hF_2.2.1 _ (xn1 (xne_k hk9999l hk9999c (by decide)) xn0))) (ld_c hG72) ((ld_r hG72).trans (hF_2.2.2 _ xn0)) ((ld_j hG72 (by decide)).trans (hF_2.1 _ _ xn0)) ((ld_j hG72 (by decide)).trans (hF_2.1 _ _ xn0)) ((ld_j hG72 (by decide)).trans (hF_2.1 _ _ xn0)) ((ld_j hG72 (by decide)).trans (hF_2.1 _ _ xn0)) ((ld_j hG72 (by decide)).trans (hF_2.1 _ _ xn0)) (ld_at hG72))) mv_X10_gather km_X10_240 rfl rfl ⟨Nat.le_of_ble_eq_true rfl, Nat.le_of_ble_eq_true rfl⟩ (rc_12 hK hT ha) hK (fun _ => XP.blind) (fun U hU hW => XP.at hK hz hS hT hU hW) rfl hl.1 (Nat.le_of_ble_eq_true rfl) dX10_becomePrompt_110 ⟨Nat.le_of_ble_eq_true rfl, Nat.le_of_ble_eq_true rfl⟩) hS ?_
          rintro G110 H locs ⟨hF110, t110, oq110⟩ hT hS
          have t110 : 0 ≤ ((G110.1 (F a 8) 6).toInt) ∧ ((G110.1 (F a 8) 6).toInt) ≤ 1080 := t110
          have oq110 : qL G110 F (F a 8) = gaL G72 (G72.2.2.1 (F (F a 2) 1)) (vw (G.2.1 (F (F a 4) 0))) (vw (G.2.1 (F (F a 3) 0))) (1 : Int) (((G.1 (F a 2) 2).toInt)).toNat := by simp only [(show G72.2.1 (F (F a 4) 0) = G.2.1 (F (F a 4) 0) from ((ld_c hG72).trans (hF_2.2.1 _ (xn1 (xne_k hk9999s hk9999c (by decide)) xn0)))), (show G72.2.1 (F (F a 3) 0) = G.2.1 (F (F a 3) 0) from ((ld_c hG72).trans (hF_2.2.1 _ (xn1 (xne_k hk9999p hk9999c (by decide)) xn0)))), (show G72.1 (F a 2) 2 = G.1 (F a 2) 2 from ((ld_j hG72 (by decide)).trans (hF_2.1 _ _ xn0)))] at oq110; exact oq110
          refine lv_iload_n hx hb dX10_becomePrompt_113 rfl (lv_at hl 0 rfl) ?_
          exact x_ri hx hb hr hlk hQ (Nat.le_of_ble_eq_true rfl) (Nat.le_of_ble_eq_true rfl) hS dX10_becomePrompt_114 G110 ⟨_, rfl, (XFr.call (by rw [hG72]; exact XFr.dput (XFr.call XFr.rf hF_2 xm0 (xm1 0 rfl xm0) xm0) (List.mem_of_getElem? (i := 3) rfl)) hF110 (xm1 4 rfl (xm1 5 rfl xm0)) (xm1 1 rfl (xm1 2 rfl (xm1 3 rfl (xm1 4 rfl (xm1 5 rfl (xm1 6 rfl (xm1 7 rfl (xm1 8 rfl (xm1 9 rfl xm0))))))))) xm0), (t110), (by rw [(t92 : Int32.toInt x92 = (hv (aI (G.2.1 (F (F a 8) 0))) 0 ((G.1 p0 1).toInt) ((G.1 (F a 8) 6).toInt)))] <;> exact (v_X10_becomePrompt_114_6 (K := K) (F := F) a p0 G G_2 G72 G110 l2_2 N2 ha hp0 hk9999 hj9999 hk9999a hj9999a hk9999b hj9999b hk9999c hj9999c hk9999d hj9999d hk9999e hj9999e hk9999f hj9999f hk9999g hj9999h hk9999h hj9999j hk9999i hj9999l hk9999j hj9999n hk9999k hj9999p hk9999l hj9999r hk9999m hj9999s hk9999n hj9999t hk9999o hj9999u hk9999p hj9999w hk9999q hj9999z25 hk9999r hj9999z26 hk9999s hj9999z28 hk9999t hj9999z30 hF_2 hG72 pa oq110 sb sw I2_0 I2_1 hm2 c10 (xzi hz76) c79 t110 ((ld_r hG72).trans (hF_2.2.2 _ xn0)) ((hF110.1 _ _ (xnj (by decide) (xnj (by decide) xn0))).trans (ld_at hG72))))⟩ hT
        · refine lv_iconst (v := 0) hx hb dX10_becomePrompt_82 (by decide) ?_
          exact x_ri hx hb hr hlk hQ (Nat.le_of_ble_eq_true rfl) (Nat.le_of_ble_eq_true rfl) hS dX10_becomePrompt_83 G72 ⟨_, rfl, (by rw [hG72]; exact XFr.dput (XFr.call XFr.rf hF_2 xm0 (xm1 0 rfl xm0) xm0) (List.mem_of_getElem? (i := 3) rfl)), (by rw [(show (G72.1 (F a 8) 6).toInt = ((G.1 (F a 8) 6).toInt) from (congrArg Int32.toInt ((ld_j hG72 (by decide)).trans (hF_2.1 _ _ xn0))).trans (rfl : Int32.toInt (G.1 (F a 8) 6) = ((G.1 (F a 8) 6).toInt)))] <;> exact (sw)), (v_X10_becomePrompt_83_7 (K := K) (F := F) a p0 G G72 l2_2 N2 ha hp0 pa sb sw I2_0 I2_1 hm2 c10 (xzi hz76) c79 ((ld_c hG72).trans (hF_2.2.1 _ (xn1 (xne_k hk9999g hk9999c (by decide)) xn0))) ((ld_c hG72).trans (hF_2.2.1 _ (xn1 (xne_k hk9999h hk9999c (by decide)) xn0))) ((ld_c hG72).trans (hF_2.2.1 _ (xn1 (xne_k hk9999i hk9999c (by decide)) xn0))) ((ld_c hG72).trans (hF_2.2.1 _ (xn1 (xne_k hk9999j hk9999c (by decide)) xn0))) ((ld_c hG72).trans (hF_2.2.1 _ (xn1 (xne_k hk9999k hk9999c (by decide)) xn0))) ((ld_c hG72).trans (hF_2.2.1 _ (xn1 (xne_k hk9999l hk9999c (by decide)) xn0))) ((ld_j hG72 (by decide)).trans (hF_2.1 _ _ xn0)) (ld_at hG72))⟩ hT
      · refine lv_aload_n hx hb dX10_becomePrompt_13 rfl (lv_at hl 0 rfl) ?_
        refine gX10_8 S hK hT ha kf_X10_57 dX10_becomePrompt_14 (fun _ _ => ?_)
        refine lv_iload_n hx hb dX10_becomePrompt_17 rfl (lv_at hl 2 rfl) ?_
        refine x_clp (x_runV (b := (F a 8)) (As := [.int l2_2]) (rest := []) S (c_X4_number l E K F G_2 H (F a 8) l2_2 hk9999b) mv_X4_number km_X10_301 rfl rfl ⟨Nat.le_of_ble_eq_true rfl, Nat.le_of_ble_eq_true rfl⟩ (rc_6 hK hT hk9999b) hK (fun _ => XPh.blind) (fun U hU hW => XPh.at hK hz hS hT hU hW) rfl hl.1 (Nat.le_of_ble_eq_true rfl) dX10_becomePrompt_18 ⟨Nat.le_of_ble_eq_true rfl, Nat.le_of_ble_eq_true rfl⟩) hS ?_
        rintro _ _ locs ⟨x18, rfl, t18⟩ hS
        have t18 : ((0 ≤ l2_2.toInt ∧ l2_2.toInt < ((G.1 (F a 8) 6).toInt) ∧ l2_2.toInt < 1080) ∧ x18.toInt = (aI (G.2.1 (F (F a 8) 0)) (l2_2.toInt))) ∨ (¬ (0 ≤ l2_2.toInt ∧ l2_2.toInt < ((G.1 (F a 8) 6).toInt) ∧ l2_2.toInt < 1080) ∧ x18.toInt = -1) := by rw [(show (G_2.1 (F a 8) 6).toInt = ((G.1 (F a 8) 6).toInt) from (congrArg Int32.toInt (hF_2.1 _ _ xn0)).trans (rfl : Int32.toInt (G.1 (F a 8) 6) = ((G.1 (F a 8) 6).toInt)))] at t18; rw [(show G_2.2.1 (F (F a 8) 0) = G.2.1 (F (F a 8) 0) from (hF_2.2.1 _ (xn1 (xne_k hk9999g hk9999c (by decide)) xn0)))] at t18; exact t18
        refine lv_aload_n hx hb dX10_becomePrompt_21 rfl (lv_at hl 1 rfl) ?_
        refine gX7_1 S hK hT hp0 kf_X10_130 dX10_becomePrompt_22 (v := (G.1 p0 1)) (hF_2.1 _ _ xn0) (?_)
        refine xi_ceq (tgt := 31) hx hb (rfl : Int32.toInt x18 = x18.toInt) (rfl : Int32.toInt (G.1 p0 1) = ((G.1 p0 1).toInt)) dX10_becomePrompt_25 (by decide) (fun c25 => ?_) (fun c25 => ?_)
        · refine lv_aload_n hx hb dX10_becomePrompt_31 rfl (lv_at hl 0 rfl) ?_
          refine gX10_16 S hK hT ha kf_X10_99 dX10_becomePrompt_32 (fun _ _ => ?_)
          refine lv_iconst (v := 0) hx hb dX10_becomePrompt_35 (by decide) ?_
          refine lv_dup2_11 hx hb dX10_becomePrompt_36 rfl rfl ?_
          refine al_0 S hK hT hk9999c ar_27 (by decide) (by decide) dX10_becomePrompt_37 (fun x37 hv37 o37 => ?_)
          have hv37 : x37.toInt = (aI (G_2.2.1 (F a 16)) 0) := hv37.trans (by rw [((by decide) : Int32.toInt 0 = (0 : Int))])
          refine lv_iconst (v := 1) hx hb dX10_becomePrompt_38 (by decide) ?_
          refine xi_iadd hx hb (hv37 : Int32.toInt x37 = (aI (G_2.2.1 (F a 16)) 0)) ((by decide) : Int32.toInt 1 = (1 : Int)) dX10_becomePrompt_39 (fun x39 t39 => ?_)
          refine as_0 (x := x39) S hK hT hS hk9999c ar_27 aw_27 (by decide) (by decide) dX10_becomePrompt_40 (fun H locs hT hS => ?_)
          obtain ⟨G40, hG40⟩ : ∃ GG : XG, GG = cput G_2 (F a 16) (0 : Int32).toNatClampNeg x39 := ⟨_, rfl⟩
          rw [← hG40] at hT
          refine lv_aload_n hx hb dX10_becomePrompt_41 rfl (lv_at hl 0 rfl) ?_
          refine gX10_8 S hK hT ha kf_X10_57 dX10_becomePrompt_42 (fun _ _ => ?_)
          refine lv_iload_n hx hb dX10_becomePrompt_45 rfl (lv_at hl 2 rfl) ?_
          refine x_clp (x_runV (b := (F a 8)) (As := [.int l2_2]) (rest := []) S (c_X4_fails l E K F G40 H (F a 8) l2_2 hk9999b) mv_X4_fails km_X10_309 rfl rfl ⟨Nat.le_of_ble_eq_true rfl, Nat.le_of_ble_eq_true rfl⟩ (rc_6 hK hT hk9999b) hK (fun _ => XPh.blind) (fun U hU hW => XPh.at hK hz hS hT hU hW) rfl hl.1 (Nat.le_of_ble_eq_true rfl) dX10_becomePrompt_46 ⟨Nat.le_of_ble_eq_true rfl, Nat.le_of_ble_eq_true rfl⟩) hS ?_
          rintro _ _ locs ⟨x46, rfl, b46, t46⟩ hS
          have t46 : ((0 ≤ l2_2.toInt ∧ l2_2.toInt < ((G.1 (F a 8) 6).toInt) ∧ l2_2.toInt < 1080) ∧ x46.toInt = (aI (G.2.1 (F (F a 8) 5)) (l2_2.toInt))) ∨ (¬ (0 ≤ l2_2.toInt ∧ l2_2.toInt < ((G.1 (F a 8) 6).toInt) ∧ l2_2.toInt < 1080) ∧ x46.toInt = 0) := by rw [(show (G40.1 (F a 8) 6).toInt = ((G.1 (F a 8) 6).toInt) from (congrArg Int32.toInt ((lc_d hG40).trans (hF_2.1 _ _ xn0))).trans (rfl : Int32.toInt (G.1 (F a 8) 6) = ((G.1 (F a 8) 6).toInt)))] at t46; rw [(show G40.2.1 (F (F a 8) 5) = G.2.1 (F (F a 8) 5) from ((lc_c hG40 (xne_k hk9999l hk9999c (by decide))).trans (hF_2.2.1 _ (xn1 (xne_k hk9999l hk9999c (by decide)) xn0))))] at t46; exact t46
          refine xi_zeq (tgt := 64) hx hb (rfl : Int32.toInt x46 = x46.toInt) dX10_becomePrompt_49 (by decide) (fun c49 => ?_) (fun c49 => ?_)
          · refine xi_iinc (n := 1) (lv' := fun z9 => [(2, .int z9), (0, .ref a), (1, .ref p0)]) (k := 2) hx hb (rfl : Int32.toInt l2_2 = l2_2.toInt) (by decide) dX10_becomePrompt_64 hl rfl (by decide) (fun _ => rfl) (fun x64 ls t64 hl => ?_)
            have e64 : x64.toInt = (l2_2.toInt + 1) := (z_X10_becomePrompt_6 l2_2.toInt x64.toInt ((G.1 (F a 8) 6).toInt) sw I2_0 t64)
            have hl : lv_has ls 3 [(2, .int x64), (0, .ref a), (1, .ref p0)] := hl
            refine lv_goto (tgt := 2) hx hb dX10_becomePrompt_67 (by decide) ?_
            exact ih2 x64 G40 _ _ _ (by rw [hG40]; exact XFr.cput (XFr.call XFr.rf hF_2 xm0 (xm1 0 rfl xm0) xm0) (List.mem_of_getElem? (i := 0) rfl)) (by rw [(e64 : Int32.toInt x64 = (l2_2.toInt + 1))] <;> exact (v_X10_becomePrompt_67_8 (K := K) (F := F) a p0 G l2_2 N2 x18 x46 ha hp0 pa sb sw I2_0 I2_1 hm2 c10 t18 c25 t46 (xzi b46) c49)) (by rw [(e64 : Int32.toInt x64 = (l2_2.toInt + 1))] <;> exact (z_X10_becomePrompt_7 l2_2.toInt ((G.1 (F a 8) 6).toInt) I2_0 c10)) (by rw [(e64 : Int32.toInt x64 = (l2_2.toInt + 1))] <;> exact (z_X10_becomePrompt_8 l2_2.toInt ((G.1 (F a 8) 6).toInt) I2_0)) (by rw [(e64 : Int32.toInt x64 = (l2_2.toInt + 1))] <;> exact (z_X10_becomePrompt_9 l2_2.toInt N2 hm2)) hT hS (lv_sub hl [1, 2, 0] rfl)
          · refine lv_aload_n hx hb dX10_becomePrompt_52 rfl (lv_at hl 0 rfl) ?_
            refine lv_aload_n hx hb dX10_becomePrompt_53 rfl (lv_at hl 0 rfl) ?_
            refine gX10_8 S hK hT ha kf_X10_57 dX10_becomePrompt_54 (fun _ _ => ?_)
            refine lv_iload_n hx hb dX10_becomePrompt_57 rfl (lv_at hl 2 rfl) ?_
            refine x_cv (x_runV (b := a) (As := [.ref (F a 8), .int l2_2]) (rest := []) S (c_X10_tellVerdict l E K F G40 a (F a 8) l2_2 ha hk9999b) mv_X10_tellVerdict km_X10_247 rfl rfl ⟨Nat.le_of_ble_eq_true rfl, Nat.le_of_ble_eq_true rfl⟩ (rc_12 hK hT ha) hK (fun _ => XP.blind) (fun U hU hW => XP.at hK hz hS hT hU hW) rfl hl.1 (Nat.le_of_ble_eq_true rfl) dX10_becomePrompt_58 ⟨Nat.le_of_ble_eq_true rfl, Nat.le_of_ble_eq_true rfl⟩) hS ?_
            rintro G58 H locs hF58 hT hS
            refine lv_bipush (v := (-5)) hx hb dX10_becomePrompt_61 (by decide) ?_
            exact x_ri hx hb hr hlk hQ (Nat.le_of_ble_eq_true rfl) (Nat.le_of_ble_eq_true rfl) hS dX10_becomePrompt_63 G58 ⟨_, rfl, (XFr.call (by rw [hG40]; exact XFr.cput (XFr.call XFr.rf hF_2 xm0 (xm1 0 rfl xm0) xm0) (List.mem_of_getElem? (i := 0) rfl)) hF58 (xm1 0 rfl (xm1 1 rfl (xm1 2 rfl xm0))) xm0 xm0), (by rw [(show (G58.1 (F a 8) 6).toInt = ((G.1 (F a 8) 6).toInt) from (congrArg Int32.toInt ((hF58.1 _ _ (xnj (by decide) (xnj (by decide) (xnj (by decide) xn0)))).trans ((lc_d hG40).trans (hF_2.1 _ _ xn0)))).trans (rfl : Int32.toInt (G.1 (F a 8) 6) = ((G.1 (F a 8) 6).toInt)))] <;> exact (sw)), (by rw [((by decide) : Int32.toInt (-5) = (-5 : Int))] <;> exact (v_X10_becomePrompt_63_9 (K := K) (F := F) a p0 G G58 l2_2 N2 x18 x46 ha hp0 sb sw I2_0 I2_1 hm2 c10 t18 c25 t46 (xzi b46) c49 ((hF58.2.1 _ xn0).trans ((lc_c hG40 (xne_k hk9999g hk9999c (by decide))).trans (hF_2.2.1 _ (xn1 (xne_k hk9999g hk9999c (by decide)) xn0)))) ((hF58.2.1 _ xn0).trans ((lc_c hG40 (xne_k hk9999h hk9999c (by decide))).trans (hF_2.2.1 _ (xn1 (xne_k hk9999h hk9999c (by decide)) xn0)))) ((hF58.2.1 _ xn0).trans ((lc_c hG40 (xne_k hk9999i hk9999c (by decide))).trans (hF_2.2.1 _ (xn1 (xne_k hk9999i hk9999c (by decide)) xn0)))) ((hF58.2.1 _ xn0).trans ((lc_c hG40 (xne_k hk9999j hk9999c (by decide))).trans (hF_2.2.1 _ (xn1 (xne_k hk9999j hk9999c (by decide)) xn0)))) ((hF58.2.1 _ xn0).trans ((lc_c hG40 (xne_k hk9999k hk9999c (by decide))).trans (hF_2.2.1 _ (xn1 (xne_k hk9999k hk9999c (by decide)) xn0)))) ((hF58.2.1 _ xn0).trans ((lc_c hG40 (xne_k hk9999l hk9999c (by decide))).trans (hF_2.2.1 _ (xn1 (xne_k hk9999l hk9999c (by decide)) xn0)))) ((hF58.1 _ _ (xnj (by decide) (xnj (by decide) (xnj (by decide) xn0)))).trans ((lc_d hG40).trans (hF_2.1 _ _ xn0))) ((hF58.1 _ _ (xnj (by decide) (xnj (by decide) (xnj (by decide) xn0)))).trans ((lc_d hG40).trans (hF_2.1 _ _ xn0)))))⟩ hT
        · refine lv_goto (tgt := 64) hx hb dX10_becomePrompt_28 (by decide) ?_
          refine xi_iinc (n := 1) (lv' := fun z9 => [(2, .int z9), (0, .ref a), (1, .ref p0)]) (k := 2) hx hb (rfl : Int32.toInt l2_2 = l2_2.toInt) (by decide) dX10_becomePrompt_64 hl rfl (by decide) (fun _ => rfl) (fun x64 ls t64 hl => ?_)
          have e64 : x64.toInt = (l2_2.toInt + 1) := (z_X10_becomePrompt_6 l2_2.toInt x64.toInt ((G.1 (F a 8) 6).toInt) sw I2_0 t64)
          have hl : lv_has ls 3 [(2, .int x64), (0, .ref a), (1, .ref p0)] := hl
          refine lv_goto (tgt := 2) hx hb dX10_becomePrompt_67 (by decide) ?_
          exact ih2 x64 G_2 _ _ _ (XFr.call XFr.rf hF_2 xm0 (xm1 0 rfl xm0) xm0) (by rw [(e64 : Int32.toInt x64 = (l2_2.toInt + 1))] <;> exact (v_X10_becomePrompt_67_10 (K := K) (F := F) a p0 G l2_2 N2 x18 ha hp0 pa sb sw I2_0 I2_1 hm2 c10 t18 c25)) (by rw [(e64 : Int32.toInt x64 = (l2_2.toInt + 1))] <;> exact (z_X10_becomePrompt_7 l2_2.toInt ((G.1 (F a 8) 6).toInt) I2_0 c10)) (by rw [(e64 : Int32.toInt x64 = (l2_2.toInt + 1))] <;> exact (z_X10_becomePrompt_8 l2_2.toInt ((G.1 (F a 8) 6).toInt) I2_0)) (by rw [(e64 : Int32.toInt x64 = (l2_2.toInt + 1))] <;> exact (z_X10_becomePrompt_9 l2_2.toInt N2 hm2)) hT hS (lv_sub hl [1, 2, 0] rfl)
  exact L2 4294967297 0 G _ _ _ XFr.rf (v_X10_becomePrompt_1_11 (K := K) (F := F) a p0 G ha hp0 sb sw) (z_X10_becomePrompt_15 ((G.1 (F a 8) 6).toInt) sw) (by decide) (by decide) hT hS (lv_sub hl [1, 2, 0] rfl)
theorem v_X10_back_29_1 {K : Nat → Nat} {F : Nat → Nat → Nat} (a : Nat) (G : XG) (G4 : XG) (p0 : Int32)
    (ha : K a = 12)
    (hn19 : p0.toInt < 0 ∨ ((G4.1 a 17).toInt) ≤ p0.toInt ∨ 8 ≤ p0.toInt)
    (sb : 0 ≤ ((G.1 (F a 2) 2).toInt) ∧ ((G.1 (F a 2) 2).toInt) ≤ 12)
    (sw : 0 ≤ ((G.1 (F a 8) 6).toInt) ∧ ((G.1 (F a 8) 6).toInt) ≤ 1080)
    (t4 : ((G4.1 (F a 14) 1).toInt) = 0)
    (f79 : ((G.1 a 18).toInt) = 0 ∨ ((G.1 a 18).toInt) = 1)
    (c11 : ((G.1 a 18).toInt) ≠ 0)
    (c_G4_F_F_a_3_0 : G4.2.1 (F (F a 3) 0) = G.2.1 (F (F a 3) 0))
    (c_G4_F_F_a_8_0 : G4.2.1 (F (F a 8) 0) = G.2.1 (F (F a 8) 0))
    (c_G4_F_F_a_8_1 : G4.2.1 (F (F a 8) 1) = G.2.1 (F (F a 8) 1))
    (c_G4_F_F_a_8_2 : G4.2.1 (F (F a 8) 2) = G.2.1 (F (F a 8) 2))
    (c_G4_F_F_a_8_3 : G4.2.1 (F (F a 8) 3) = G.2.1 (F (F a 8) 3))
    (c_G4_F_F_a_8_4 : G4.2.1 (F (F a 8) 4) = G.2.1 (F (F a 8) 4))
    (c_G4_F_F_a_8_5 : G4.2.1 (F (F a 8) 5) = G.2.1 (F (F a 8) 5))
    (d_G4_F_a_8_6 : G4.1 (F a 8) 6 = G.1 (F a 8) 6)
    (d_G4_a_17 : G4.1 a 17 = G.1 a 17) :
    (((G.1 a 18).toInt) = 0 ∧ (-2 : Int) = -3 ∧ ((vw (G4.2.1 (F (F a 3) 0))) = (vw (G.2.1 (F (F a 3) 0))) ∧ qL G4 F (F a 8) = qL G F (F a 8)) ∧ ((G4.1 a 17).toInt) = ((G.1 a 17).toInt)) ∨ (((G.1 a 18).toInt) ≠ 0 ∧ (p0.toInt < 0 ∨ ((G.1 a 17).toInt) ≤ p0.toInt ∨ 8 ≤ p0.toInt) ∧ (-2 : Int) = -2 ∧ ((vw (G4.2.1 (F (F a 3) 0))) = (vw (G.2.1 (F (F a 3) 0))) ∧ qL G4 F (F a 8) = qL G F (F a 8)) ∧ ((G4.1 a 17).toInt) = ((G.1 a 17).toInt)) ∨ (((G.1 a 18).toInt) ≠ 0 ∧ (0 ≤ p0.toInt ∧ p0.toInt < ((G.1 a 17).toInt) ∧ p0.toInt < 8) ∧ ∃ q : Nat, G.2.2.1 (F a 7) (p0.toInt).toNat = some q ∧ ((ffL (gaL G (G.2.2.1 (F (F a 2) 1)) (vw (G.2.1 (F (F a 6) 0))) (vw (G.2.1 (F q 0))) 2 (((G.1 (F a 2) 2).toInt)).toNat) ≠ -1 ∧ (-2 : Int) = -5 ∧ ((vw (G4.2.1 (F (F a 3) 0))) = (vw (G.2.1 (F (F a 3) 0))) ∧ qL G4 F (F a 8) = qL G F (F a 8)) ∧ ((G4.1 a 17).toInt) = ((G.1 a 17).toInt)) ∨ (ffL (gaL G (G.2.2.1 (F (F a 2) 1)) (vw (G.2.1 (F (F a 6) 0))) (vw (G.2.1 (F q 0))) 2 (((G.1 (F a 2) 2).toInt)).toNat) = -1 ∧ (vw (G4.2.1 (F (F a 3) 0))) = (vw (G.2.1 (F q 0))) ∧ ((G4.1 a 17).toInt) = p0.toInt + 1 ∧ (-2 : Int) = ((G4.1 (F a 8) 6).toInt) ∧ qL G4 F (F a 8) = (gaL G (G.2.2.1 (F (F a 2) 1)) (vw (G.2.1 (F (F a 4) 0))) (vw (G.2.1 (F q 0))) 1 (((G.1 (F a 2) 2).toInt)).toNat)))) := by
  exact Or.inr (Or.inl ⟨by omega, (by have h9 := hn19; rw [d_G4_a_17] at h9; exact h9), rfl, ⟨by rw [c_G4_F_F_a_3_0], qL_cg d_G4_F_a_8_6 c_G4_F_F_a_8_0 c_G4_F_F_a_8_1 c_G4_F_F_a_8_2 c_G4_F_F_a_8_3 c_G4_F_F_a_8_4 c_G4_F_F_a_8_5⟩, by rw [d_G4_a_17]⟩)
theorem v_X10_back_29_2 {F : Nat → Nat → Nat} (a : Nat) (G : XG) (G4 : XG)
    (ron : RO (vw (G.2.1 (F (F a 3) 0))) (aI (G.2.1 (F (F a 3) 1))))
    (c_G4_F_F_a_3_0 : G4.2.1 (F (F a 3) 0) = G.2.1 (F (F a 3) 0))
    (c_G4_F_F_a_3_1 : G4.2.1 (F (F a 3) 1) = G.2.1 (F (F a 3) 1)) :
    RO (vw (G4.2.1 (F (F a 3) 0))) (aI (G4.2.1 (F (F a 3) 1))) := by
  rw [c_G4_F_F_a_3_0, c_G4_F_F_a_3_1]; exact ron
theorem v_X10_back_41_3 {F : Nat → Nat → Nat} (a : Nat) (G : XG) (G4 : XG)
    (ron : RO (vw (G.2.1 (F (F a 3) 0))) (aI (G.2.1 (F (F a 3) 1))))
    (rob : RO (vw (G.2.1 (F (F a 4) 0))) (aI (G.2.1 (F (F a 4) 1))))
    (ro0 : RO (vw (G.2.1 (F (F a 6) 0))) (aI (G.2.1 (F (F a 6) 1))))
    (c_G4_F_F_a_6_0 : G4.2.1 (F (F a 6) 0) = G.2.1 (F (F a 6) 0))
    (c_G4_F_F_a_6_1 : G4.2.1 (F (F a 6) 1) = G.2.1 (F (F a 6) 1)) :
    RO (vw (G4.2.1 (F (F a 6) 0))) (aI (G4.2.1 (F (F a 6) 1))) := by simp only [c_G4_F_F_a_6_0, c_G4_F_F_a_6_1]; assumption
theorem v_X10_back_41_4 {K : Nat → Nat} {F : Nat → Nat → Nat} (a : Nat) (q19 : Nat) (p0 : Int32) (G : XG) (G4 : XG)
    (ha : K a = 12)
    (f68 : F q19 99 = 4 + (p0.toInt).toNat)
    (rok : ∀ (i q : Nat), i < 8 → G.2.2.1 (F a 7) i = some q → RO (vw (G.2.1 (F q 0))) (aI (G.2.1 (F q 1))))
    (hs19 : F q19 99 = 4 + (p0.toInt).toNat ∧ G4.2.2.1 (F a 7) (p0.toInt).toNat = some q19)
    (sb : 0 ≤ ((G.1 (F a 2) 2).toInt) ∧ ((G.1 (F a 2) 2).toInt) ≤ 12)
    (sw : 0 ≤ ((G.1 (F a 8) 6).toInt) ∧ ((G.1 (F a 8) 6).toInt) ≤ 1080)
    (t4 : ((G4.1 (F a 14) 1).toInt) = 0)
    (f85 : ((G.1 a 18).toInt) = 0 ∨ ((G.1 a 18).toInt) = 1)
    (c11 : ((G.1 a 18).toInt) ≠ 0)
    (ht19 : 0 ≤ p0.toInt ∧ p0.toInt < ((G.1 a 17).toInt) ∧ p0.toInt < 8)
    (c_G4_F_q19_0 : G4.2.1 (F q19 0) = G.2.1 (F q19 0))
    (c_G4_F_q19_1 : G4.2.1 (F q19 1) = G.2.1 (F q19 1))
    (r_G4_F_a_7 : G4.2.2.1 (F a 7) = G.2.2.1 (F a 7)) :
    RO (vw (G4.2.1 (F q19 0))) (aI (G4.2.1 (F q19 1))) := by
  have hq7 : G.2.2.1 (F a 7) (p0.toInt).toNat = some q19 := by rw [← r_G4_F_a_7]; exact hs19.2
  have hr := rok (p0.toInt).toNat q19 (by omega) hq7
  first
    | (simp only [c_G4_F_q19_0, c_G4_F_q19_1]; exact hr)
    | (simp only [c_G41_F_q19_0, c_G41_F_q19_1]; exact hr)
    | (simp only [c_G85_F_q19_0, c_G85_F_q19_1]; exact hr)
theorem v_X10_back_41_5 {K : Nat → Nat} {F : Nat → Nat → Nat} (a : Nat) (q19 : Nat) (p0 : Int32) (G : XG) (G4 : XG)
    (ha : K a = 12)
    (hk9999 : K (F a 14) = 11)
    (hj9999 : F (F a 14) 99 = 0)
    (hk9999a : K (F a 11) = 3)
    (hj9999a : F (F a 11) 99 = 0)
    (hk9999b : K (F a 9) = 6)
    (hj9999b : F (F a 9) 99 = 1)
    (hk9999c : K (F a 8) = 6)
    (hj9999c : F (F a 8) 99 = 0)
    (hk9999d : K (F a 15) = 26)
    (hj9999d : F (F a 15) 99 = 0)
    (hk9999e : K (F (F a 11) 0) = 21)
    (hj9999e : F (F (F a 11) 0) 99 = 100)
    (hk9999f : K (F (F a 11) 1) = 21)
    (hj9999f : F (F (F a 11) 1) 99 = 101)
    (hk9999g : K (F (F a 11) 2) = 24)
    (hj9999g : F (F (F a 11) 2) 99 = 4)
    (hk9999h : K (F (F a 9) 0) = 22)
    (hj9999i : F (F (F a 9) 0) 99 = 10 * 1 + 0)
    (hk9999i : K (F (F a 9) 1) = 22)
    (hj9999k : F (F (F a 9) 1) 99 = 10 * 1 + 1)
    (hk9999j : K (F (F a 9) 2) = 22)
    (hj9999m : F (F (F a 9) 2) 99 = 10 * 1 + 2)
    (hk9999k : K (F (F a 9) 3) = 22)
    (hj9999o : F (F (F a 9) 3) 99 = 10 * 1 + 3)
    (hk9999l : K (F (F a 9) 4) = 23)
    (hj9999q : F (F (F a 9) 4) 99 = 10 * 1 + 4)
    (hk9999m : K (F (F a 9) 5) = 23)
    (hj9999s : F (F (F a 9) 5) 99 = 10 * 1 + 5)
    (hk9999n : K (F a 3) = 8)
    (hj9999t : F (F a 3) 99 = 0)
    (hk9999o : K (F (F a 3) 0) = 20)
    (hj9999v : F (F (F a 3) 0) 99 = 0)
    (hk9999p : K (F (F a 3) 1) = 21)
    (hj9999y : F (F (F a 3) 1) 99 = 0)
    (hk9999q : K (F (F a 8) 0) = 22)
    (hj9999z26 : F (F (F a 8) 0) 99 = 10 * 0 + 0)
    (hk9999r : K (F (F a 8) 1) = 22)
    (hj9999z28 : F (F (F a 8) 1) 99 = 10 * 0 + 1)
    (hk9999s : K (F (F a 8) 2) = 22)
    (hj9999z30 : F (F (F a 8) 2) 99 = 10 * 0 + 2)
    (hk9999t : K (F (F a 8) 3) = 22)
    (hj9999z32 : F (F (F a 8) 3) 99 = 10 * 0 + 3)
    (hk9999u : K (F (F a 8) 4) = 23)
    (hj9999z34 : F (F (F a 8) 4) 99 = 10 * 0 + 4)
    (hk9999v : K (F (F a 8) 5) = 23)
    (hj9999z36 : F (F (F a 8) 5) 99 = 10 * 0 + 5)
    (hk9999w : K (F a 2) = 2)
    (hj9999z37 : F (F a 2) 99 = 0)
    (hk9999y : K (F (F a 2) 1) = 15)
    (hj9999z38 : F (F (F a 2) 1) 99 = 1)
    (hk9999z25 : K (F (F a 2) 0) = 15)
    (hj9999z39 : F (F (F a 2) 0) 99 = 0)
    (hk9999z26 : K (F a 4) = 8)
    (hj9999z40 : F (F a 4) 99 = 1)
    (hk9999z27 : K (F (F a 4) 0) = 20)
    (hj9999z42 : F (F (F a 4) 0) 99 = 1)
    (hk9999z28 : K (F (F a 4) 1) = 21)
    (hj9999z44 : F (F (F a 4) 1) 99 = 1)
    (hk9999z29 : K (F a 6) = 8)
    (hj9999z45 : F (F a 6) 99 = 3)
    (hk9999z30 : K (F (F a 6) 0) = 20)
    (hj9999z47 : F (F (F a 6) 0) 99 = 3)
    (hk9999z31 : K (F (F a 6) 1) = 21)
    (hj9999z49 : F (F (F a 6) 1) 99 = 3)
    (hk9999z32 : K (F a 7) = 16)
    (hj9999z50 : F (F a 7) 99 = 0)
    (hk19 : K q19 = 8)
    (f68 : F q19 99 = 4 + (p0.toInt).toNat)
    (hk30 : K (F q19 0) = 20)
    (hj30a : F (F q19 0) 99 = 4 + (p0.toInt).toNat)
    (hk30a : K (F q19 1) = 21)
    (hj30c : F (F q19 1) 99 = 4 + (p0.toInt).toNat)
    (hfr : XFr [(F a 14, 1), (F a 14, 2), (F a 14, 3), (a, 17), (F a 11, 3), (F a 9, 6), (F a 8, 6)] [F a 15, F (F a 11) 0, F (F a 11) 1, F (F a 11) 2, F (F a 9) 0, F (F a 9) 1, F (F a 9) 2, F (F a 9) 3, F (F a 9) 4, F (F a 9) 5, F (F a 3) 0, F (F a 3) 1, F (F a 8) 0, F (F a 8) 1, F (F a 8) 2, F (F a 8) 3, F (F a 8) 4, F (F a 8) 5] [] G G4)
    (bko : BKr K G (G.2.2.1 (F (F a 2) 1)))
    (hs19 : F q19 99 = 4 + (p0.toInt).toNat ∧ G4.2.2.1 (F a 7) (p0.toInt).toNat = some q19)
    (sb : 0 ≤ ((G.1 (F a 2) 2).toInt) ∧ ((G.1 (F a 2) 2).toInt) ≤ 12)
    (sw : 0 ≤ ((G.1 (F a 8) 6).toInt) ∧ ((G.1 (F a 8) 6).toInt) ≤ 1080)
    (t4 : ((G4.1 (F a 14) 1).toInt) = 0)
    (f85 : ((G.1 a 18).toInt) = 0 ∨ ((G.1 a 18).toInt) = 1)
    (c11 : ((G.1 a 18).toInt) ≠ 0)
    (ht19 : 0 ≤ p0.toInt ∧ p0.toInt < ((G.1 a 17).toInt) ∧ p0.toInt < 8)
    (r_G4_F_F_a_2_1 : G4.2.2.1 (F (F a 2) 1) = G.2.2.1 (F (F a 2) 1)) :
    ∀ (i q : Nat), i < 12 → G4.2.2.1 (F (F a 2) 1) i = some q → RW (G4.1 q) := by
  have hd : ∀ p, p ∈ [(F a 14, 1), (F a 14, 2), (F a 14, 3), (a, 17), (F a 11, 3), (F a 9, 6), (F a 8, 6)] → K p.1 ≠ 9 := (List.forall_mem_cons.mpr ⟨(show K (F a 14) ≠ 9 by omega), List.forall_mem_cons.mpr ⟨(show K (F a 14) ≠ 9 by omega), List.forall_mem_cons.mpr ⟨(show K (F a 14) ≠ 9 by omega), List.forall_mem_cons.mpr ⟨(show K (a) ≠ 9 by omega), List.forall_mem_cons.mpr ⟨(show K (F a 11) ≠ 9 by omega), List.forall_mem_cons.mpr ⟨(show K (F a 9) ≠ 9 by omega), List.forall_mem_cons.mpr ⟨(show K (F a 8) ≠ 9 by omega), fun _ h => by cases h⟩⟩⟩⟩⟩⟩⟩)
  first
    | rw [r_G4_F_F_a_2_1]; exact (bko.fr hfr hd).rw
    | rw [r_G41_F_F_a_2_1]; exact (bko.fr hfr hd).rw
    | rw [r_G100_F_F_a_2_1]; exact (bko.fr hfr hd).rw
theorem v_X10_back_41_6 {K : Nat → Nat} {F : Nat → Nat → Nat} (a : Nat) (q19 : Nat) (p0 : Int32) (G : XG) (G4 : XG)
    (ha : K a = 12)
    (hk9999 : K (F a 14) = 11)
    (hj9999 : F (F a 14) 99 = 0)
    (hk9999a : K (F a 11) = 3)
    (hj9999a : F (F a 11) 99 = 0)
    (hk9999b : K (F a 9) = 6)
    (hj9999b : F (F a 9) 99 = 1)
    (hk9999c : K (F a 8) = 6)
    (hj9999c : F (F a 8) 99 = 0)
    (hk9999d : K (F a 15) = 26)
    (hj9999d : F (F a 15) 99 = 0)
    (hk9999e : K (F (F a 11) 0) = 21)
    (hj9999e : F (F (F a 11) 0) 99 = 100)
    (hk9999f : K (F (F a 11) 1) = 21)
    (hj9999f : F (F (F a 11) 1) 99 = 101)
    (hk9999g : K (F (F a 11) 2) = 24)
    (hj9999g : F (F (F a 11) 2) 99 = 4)
    (hk9999h : K (F (F a 9) 0) = 22)
    (hj9999i : F (F (F a 9) 0) 99 = 10 * 1 + 0)
    (hk9999i : K (F (F a 9) 1) = 22)
    (hj9999k : F (F (F a 9) 1) 99 = 10 * 1 + 1)
    (hk9999j : K (F (F a 9) 2) = 22)
    (hj9999m : F (F (F a 9) 2) 99 = 10 * 1 + 2)
    (hk9999k : K (F (F a 9) 3) = 22)
    (hj9999o : F (F (F a 9) 3) 99 = 10 * 1 + 3)
    (hk9999l : K (F (F a 9) 4) = 23)
    (hj9999q : F (F (F a 9) 4) 99 = 10 * 1 + 4)
    (hk9999m : K (F (F a 9) 5) = 23)
    (hj9999s : F (F (F a 9) 5) 99 = 10 * 1 + 5)
    (hk9999n : K (F a 3) = 8)
    (hj9999t : F (F a 3) 99 = 0)
    (hk9999o : K (F (F a 3) 0) = 20)
    (hj9999v : F (F (F a 3) 0) 99 = 0)
    (hk9999p : K (F (F a 3) 1) = 21)
    (hj9999y : F (F (F a 3) 1) 99 = 0)
    (hk9999q : K (F (F a 8) 0) = 22)
    (hj9999z26 : F (F (F a 8) 0) 99 = 10 * 0 + 0)
    (hk9999r : K (F (F a 8) 1) = 22)
    (hj9999z28 : F (F (F a 8) 1) 99 = 10 * 0 + 1)
    (hk9999s : K (F (F a 8) 2) = 22)
    (hj9999z30 : F (F (F a 8) 2) 99 = 10 * 0 + 2)
    (hk9999t : K (F (F a 8) 3) = 22)
    (hj9999z32 : F (F (F a 8) 3) 99 = 10 * 0 + 3)
    (hk9999u : K (F (F a 8) 4) = 23)
    (hj9999z34 : F (F (F a 8) 4) 99 = 10 * 0 + 4)
    (hk9999v : K (F (F a 8) 5) = 23)
    (hj9999z36 : F (F (F a 8) 5) 99 = 10 * 0 + 5)
    (hk9999w : K (F a 2) = 2)
    (hj9999z37 : F (F a 2) 99 = 0)
    (hk9999y : K (F (F a 2) 1) = 15)
    (hj9999z38 : F (F (F a 2) 1) 99 = 1)
    (hk9999z25 : K (F (F a 2) 0) = 15)
    (hj9999z39 : F (F (F a 2) 0) 99 = 0)
    (hk9999z26 : K (F a 4) = 8)
    (hj9999z40 : F (F a 4) 99 = 1)
    (hk9999z27 : K (F (F a 4) 0) = 20)
    (hj9999z42 : F (F (F a 4) 0) 99 = 1)
    (hk9999z28 : K (F (F a 4) 1) = 21)
    (hj9999z44 : F (F (F a 4) 1) 99 = 1)
    (hk9999z29 : K (F a 6) = 8)
    (hj9999z45 : F (F a 6) 99 = 3)
    (hk9999z30 : K (F (F a 6) 0) = 20)
    (hj9999z47 : F (F (F a 6) 0) 99 = 3)
    (hk9999z31 : K (F (F a 6) 1) = 21)
    (hj9999z49 : F (F (F a 6) 1) 99 = 3)
    (hk9999z32 : K (F a 7) = 16)
    (hj9999z50 : F (F a 7) 99 = 0)
    (hk19 : K q19 = 8)
    (f68 : F q19 99 = 4 + (p0.toInt).toNat)
    (hk30 : K (F q19 0) = 20)
    (hj30a : F (F q19 0) 99 = 4 + (p0.toInt).toNat)
    (hk30a : K (F q19 1) = 21)
    (hj30c : F (F q19 1) 99 = 4 + (p0.toInt).toNat)
    (hfr : XFr [(F a 14, 1), (F a 14, 2), (F a 14, 3), (a, 17), (F a 11, 3), (F a 9, 6), (F a 8, 6)] [F a 15, F (F a 11) 0, F (F a 11) 1, F (F a 11) 2, F (F a 9) 0, F (F a 9) 1, F (F a 9) 2, F (F a 9) 3, F (F a 9) 4, F (F a 9) 5, F (F a 3) 0, F (F a 3) 1, F (F a 8) 0, F (F a 8) 1, F (F a 8) 2, F (F a 8) 3, F (F a 8) 4, F (F a 8) 5] [] G G4)
    (hF4 : XFr [(F a 14, 1)] [] [] G G4)
    (ron : RO (vw (G.2.1 (F (F a 3) 0))) (aI (G.2.1 (F (F a 3) 1))))
    (rob : RO (vw (G.2.1 (F (F a 4) 0))) (aI (G.2.1 (F (F a 4) 1))))
    (ro0 : RO (vw (G.2.1 (F (F a 6) 0))) (aI (G.2.1 (F (F a 6) 1))))
    (bko : BKr K G (G.2.2.1 (F (F a 2) 1)))
    (bkn : BKr K G (G.2.2.1 (F (F a 2) 0)))
    (rok : ∀ (i q : Nat), i < 8 → G.2.2.1 (F a 7) i = some q → RO (vw (G.2.1 (F q 0))) (aI (G.2.1 (F q 1))))
    (hs19 : F q19 99 = 4 + (p0.toInt).toNat ∧ G4.2.2.1 (F a 7) (p0.toInt).toNat = some q19)
    (sb : 0 ≤ ((G.1 (F a 2) 2).toInt) ∧ ((G.1 (F a 2) 2).toInt) ≤ 12)
    (sw : 0 ≤ ((G.1 (F a 8) 6).toInt) ∧ ((G.1 (F a 8) 6).toInt) ≤ 1080)
    (t4 : ((G4.1 (F a 14) 1).toInt) = 0)
    (f85 : ((G.1 a 18).toInt) = 0 ∨ ((G.1 a 18).toInt) = 1)
    (c11 : ((G.1 a 18).toInt) ≠ 0)
    (ht19 : 0 ≤ p0.toInt ∧ p0.toInt < ((G.1 a 17).toInt) ∧ p0.toInt < 8)
    (c_G4_F_F_a_11_0 : G4.2.1 (F (F a 11) 0) = G.2.1 (F (F a 11) 0))
    (c_G4_F_F_a_11_1 : G4.2.1 (F (F a 11) 1) = G.2.1 (F (F a 11) 1))
    (c_G4_F_F_a_11_2 : G4.2.1 (F (F a 11) 2) = G.2.1 (F (F a 11) 2))
    (c_G4_F_F_a_3_0 : G4.2.1 (F (F a 3) 0) = G.2.1 (F (F a 3) 0))
    (c_G4_F_F_a_3_1 : G4.2.1 (F (F a 3) 1) = G.2.1 (F (F a 3) 1))
    (c_G4_F_F_a_8_0 : G4.2.1 (F (F a 8) 0) = G.2.1 (F (F a 8) 0))
    (c_G4_F_F_a_8_1 : G4.2.1 (F (F a 8) 1) = G.2.1 (F (F a 8) 1))
    (c_G4_F_F_a_8_2 : G4.2.1 (F (F a 8) 2) = G.2.1 (F (F a 8) 2))
    (c_G4_F_F_a_8_3 : G4.2.1 (F (F a 8) 3) = G.2.1 (F (F a 8) 3))
    (c_G4_F_F_a_8_4 : G4.2.1 (F (F a 8) 4) = G.2.1 (F (F a 8) 4))
    (c_G4_F_F_a_8_5 : G4.2.1 (F (F a 8) 5) = G.2.1 (F (F a 8) 5))
    (c_G4_F_F_a_9_0 : G4.2.1 (F (F a 9) 0) = G.2.1 (F (F a 9) 0))
    (c_G4_F_F_a_9_1 : G4.2.1 (F (F a 9) 1) = G.2.1 (F (F a 9) 1))
    (c_G4_F_F_a_9_2 : G4.2.1 (F (F a 9) 2) = G.2.1 (F (F a 9) 2))
    (c_G4_F_F_a_9_3 : G4.2.1 (F (F a 9) 3) = G.2.1 (F (F a 9) 3))
    (c_G4_F_F_a_9_4 : G4.2.1 (F (F a 9) 4) = G.2.1 (F (F a 9) 4))
    (c_G4_F_F_a_9_5 : G4.2.1 (F (F a 9) 5) = G.2.1 (F (F a 9) 5))
    (c_G4_F_a_15 : G4.2.1 (F a 15) = G.2.1 (F a 15))
    (c_G4_F_q19_0 : G4.2.1 (F q19 0) = G.2.1 (F q19 0))
    (c_G4_F_q19_1 : G4.2.1 (F q19 1) = G.2.1 (F q19 1))
    (r_G4_F_F_a_2_1 : G4.2.2.1 (F (F a 2) 1) = G.2.2.1 (F (F a 2) 1))
    (r_G4_F_a_7 : G4.2.2.1 (F a 7) = G.2.2.1 (F a 7))
    (d_G4_F_a_11_3 : G4.1 (F a 11) 3 = G.1 (F a 11) 3)
    (d_G4_F_a_14_2 : G4.1 (F a 14) 2 = G.1 (F a 14) 2)
    (d_G4_F_a_14_3 : G4.1 (F a 14) 3 = G.1 (F a 14) 3)
    (d_G4_F_a_8_6 : G4.1 (F a 8) 6 = G.1 (F a 8) 6)
    (d_G4_F_a_9_6 : G4.1 (F a 9) 6 = G.1 (F a 9) 6)
    (d_G4_a_17 : G4.1 a 17 = G.1 a 17) :
    F (F a 6) 99 < 12 := by
  first | assumption | omega
theorem v_X10_back_41_7 {K : Nat → Nat} {F : Nat → Nat → Nat} (a : Nat) (q19 : Nat) (p0 : Int32) (G : XG) (G4 : XG)
    (ha : K a = 12)
    (hk9999 : K (F a 14) = 11)
    (hj9999 : F (F a 14) 99 = 0)
    (hk9999a : K (F a 11) = 3)
    (hj9999a : F (F a 11) 99 = 0)
    (hk9999b : K (F a 9) = 6)
    (hj9999b : F (F a 9) 99 = 1)
    (hk9999c : K (F a 8) = 6)
    (hj9999c : F (F a 8) 99 = 0)
    (hk9999d : K (F a 15) = 26)
    (hj9999d : F (F a 15) 99 = 0)
    (hk9999e : K (F (F a 11) 0) = 21)
    (hj9999e : F (F (F a 11) 0) 99 = 100)
    (hk9999f : K (F (F a 11) 1) = 21)
    (hj9999f : F (F (F a 11) 1) 99 = 101)
    (hk9999g : K (F (F a 11) 2) = 24)
    (hj9999g : F (F (F a 11) 2) 99 = 4)
    (hk9999h : K (F (F a 9) 0) = 22)
    (hj9999i : F (F (F a 9) 0) 99 = 10 * 1 + 0)
    (hk9999i : K (F (F a 9) 1) = 22)
    (hj9999k : F (F (F a 9) 1) 99 = 10 * 1 + 1)
    (hk9999j : K (F (F a 9) 2) = 22)
    (hj9999m : F (F (F a 9) 2) 99 = 10 * 1 + 2)
    (hk9999k : K (F (F a 9) 3) = 22)
    (hj9999o : F (F (F a 9) 3) 99 = 10 * 1 + 3)
    (hk9999l : K (F (F a 9) 4) = 23)
    (hj9999q : F (F (F a 9) 4) 99 = 10 * 1 + 4)
    (hk9999m : K (F (F a 9) 5) = 23)
    (hj9999s : F (F (F a 9) 5) 99 = 10 * 1 + 5)
    (hk9999n : K (F a 3) = 8)
    (hj9999t : F (F a 3) 99 = 0)
    (hk9999o : K (F (F a 3) 0) = 20)
    (hj9999v : F (F (F a 3) 0) 99 = 0)
    (hk9999p : K (F (F a 3) 1) = 21)
    (hj9999y : F (F (F a 3) 1) 99 = 0)
    (hk9999q : K (F (F a 8) 0) = 22)
    (hj9999z26 : F (F (F a 8) 0) 99 = 10 * 0 + 0)
    (hk9999r : K (F (F a 8) 1) = 22)
    (hj9999z28 : F (F (F a 8) 1) 99 = 10 * 0 + 1)
    (hk9999s : K (F (F a 8) 2) = 22)
    (hj9999z30 : F (F (F a 8) 2) 99 = 10 * 0 + 2)
    (hk9999t : K (F (F a 8) 3) = 22)
    (hj9999z32 : F (F (F a 8) 3) 99 = 10 * 0 + 3)
    (hk9999u : K (F (F a 8) 4) = 23)
    (hj9999z34 : F (F (F a 8) 4) 99 = 10 * 0 + 4)
    (hk9999v : K (F (F a 8) 5) = 23)
    (hj9999z36 : F (F (F a 8) 5) 99 = 10 * 0 + 5)
    (hk9999w : K (F a 2) = 2)
    (hj9999z37 : F (F a 2) 99 = 0)
    (hk9999y : K (F (F a 2) 1) = 15)
    (hj9999z38 : F (F (F a 2) 1) 99 = 1)
    (hk9999z25 : K (F (F a 2) 0) = 15)
    (hj9999z39 : F (F (F a 2) 0) 99 = 0)
    (hk9999z26 : K (F a 4) = 8)
    (hj9999z40 : F (F a 4) 99 = 1)
    (hk9999z27 : K (F (F a 4) 0) = 20)
    (hj9999z42 : F (F (F a 4) 0) 99 = 1)
    (hk9999z28 : K (F (F a 4) 1) = 21)
    (hj9999z44 : F (F (F a 4) 1) 99 = 1)
    (hk9999z29 : K (F a 6) = 8)
    (hj9999z45 : F (F a 6) 99 = 3)
    (hk9999z30 : K (F (F a 6) 0) = 20)
    (hj9999z47 : F (F (F a 6) 0) 99 = 3)
    (hk9999z31 : K (F (F a 6) 1) = 21)
    (hj9999z49 : F (F (F a 6) 1) 99 = 3)
    (hk9999z32 : K (F a 7) = 16)
    (hj9999z50 : F (F a 7) 99 = 0)
    (hk19 : K q19 = 8)
    (f68 : F q19 99 = 4 + (p0.toInt).toNat)
    (hk30 : K (F q19 0) = 20)
    (hj30a : F (F q19 0) 99 = 4 + (p0.toInt).toNat)
    (hk30a : K (F q19 1) = 21)
    (hj30c : F (F q19 1) 99 = 4 + (p0.toInt).toNat)
    (hfr : XFr [(F a 14, 1), (F a 14, 2), (F a 14, 3), (a, 17), (F a 11, 3), (F a 9, 6), (F a 8, 6)] [F a 15, F (F a 11) 0, F (F a 11) 1, F (F a 11) 2, F (F a 9) 0, F (F a 9) 1, F (F a 9) 2, F (F a 9) 3, F (F a 9) 4, F (F a 9) 5, F (F a 3) 0, F (F a 3) 1, F (F a 8) 0, F (F a 8) 1, F (F a 8) 2, F (F a 8) 3, F (F a 8) 4, F (F a 8) 5] [] G G4)
    (hF4 : XFr [(F a 14, 1)] [] [] G G4)
    (ron : RO (vw (G.2.1 (F (F a 3) 0))) (aI (G.2.1 (F (F a 3) 1))))
    (rob : RO (vw (G.2.1 (F (F a 4) 0))) (aI (G.2.1 (F (F a 4) 1))))
    (ro0 : RO (vw (G.2.1 (F (F a 6) 0))) (aI (G.2.1 (F (F a 6) 1))))
    (bko : BKr K G (G.2.2.1 (F (F a 2) 1)))
    (bkn : BKr K G (G.2.2.1 (F (F a 2) 0)))
    (rok : ∀ (i q : Nat), i < 8 → G.2.2.1 (F a 7) i = some q → RO (vw (G.2.1 (F q 0))) (aI (G.2.1 (F q 1))))
    (hs19 : F q19 99 = 4 + (p0.toInt).toNat ∧ G4.2.2.1 (F a 7) (p0.toInt).toNat = some q19)
    (sb : 0 ≤ ((G.1 (F a 2) 2).toInt) ∧ ((G.1 (F a 2) 2).toInt) ≤ 12)
    (sw : 0 ≤ ((G.1 (F a 8) 6).toInt) ∧ ((G.1 (F a 8) 6).toInt) ≤ 1080)
    (t4 : ((G4.1 (F a 14) 1).toInt) = 0)
    (f85 : ((G.1 a 18).toInt) = 0 ∨ ((G.1 a 18).toInt) = 1)
    (c11 : ((G.1 a 18).toInt) ≠ 0)
    (ht19 : 0 ≤ p0.toInt ∧ p0.toInt < ((G.1 a 17).toInt) ∧ p0.toInt < 8)
    (c_G4_F_F_a_11_0 : G4.2.1 (F (F a 11) 0) = G.2.1 (F (F a 11) 0))
    (c_G4_F_F_a_11_1 : G4.2.1 (F (F a 11) 1) = G.2.1 (F (F a 11) 1))
    (c_G4_F_F_a_11_2 : G4.2.1 (F (F a 11) 2) = G.2.1 (F (F a 11) 2))
    (c_G4_F_F_a_3_0 : G4.2.1 (F (F a 3) 0) = G.2.1 (F (F a 3) 0))
    (c_G4_F_F_a_3_1 : G4.2.1 (F (F a 3) 1) = G.2.1 (F (F a 3) 1))
    (c_G4_F_F_a_8_0 : G4.2.1 (F (F a 8) 0) = G.2.1 (F (F a 8) 0))
    (c_G4_F_F_a_8_1 : G4.2.1 (F (F a 8) 1) = G.2.1 (F (F a 8) 1))
    (c_G4_F_F_a_8_2 : G4.2.1 (F (F a 8) 2) = G.2.1 (F (F a 8) 2))
    (c_G4_F_F_a_8_3 : G4.2.1 (F (F a 8) 3) = G.2.1 (F (F a 8) 3))
    (c_G4_F_F_a_8_4 : G4.2.1 (F (F a 8) 4) = G.2.1 (F (F a 8) 4))
    (c_G4_F_F_a_8_5 : G4.2.1 (F (F a 8) 5) = G.2.1 (F (F a 8) 5))
    (c_G4_F_F_a_9_0 : G4.2.1 (F (F a 9) 0) = G.2.1 (F (F a 9) 0))
    (c_G4_F_F_a_9_1 : G4.2.1 (F (F a 9) 1) = G.2.1 (F (F a 9) 1))
    (c_G4_F_F_a_9_2 : G4.2.1 (F (F a 9) 2) = G.2.1 (F (F a 9) 2))
    (c_G4_F_F_a_9_3 : G4.2.1 (F (F a 9) 3) = G.2.1 (F (F a 9) 3))
    (c_G4_F_F_a_9_4 : G4.2.1 (F (F a 9) 4) = G.2.1 (F (F a 9) 4))
    (c_G4_F_F_a_9_5 : G4.2.1 (F (F a 9) 5) = G.2.1 (F (F a 9) 5))
    (c_G4_F_a_15 : G4.2.1 (F a 15) = G.2.1 (F a 15))
    (c_G4_F_q19_0 : G4.2.1 (F q19 0) = G.2.1 (F q19 0))
    (c_G4_F_q19_1 : G4.2.1 (F q19 1) = G.2.1 (F q19 1))
    (r_G4_F_F_a_2_1 : G4.2.2.1 (F (F a 2) 1) = G.2.2.1 (F (F a 2) 1))
    (r_G4_F_a_7 : G4.2.2.1 (F a 7) = G.2.2.1 (F a 7))
    (d_G4_F_a_11_3 : G4.1 (F a 11) 3 = G.1 (F a 11) 3)
    (d_G4_F_a_14_2 : G4.1 (F a 14) 2 = G.1 (F a 14) 2)
    (d_G4_F_a_14_3 : G4.1 (F a 14) 3 = G.1 (F a 14) 3)
    (d_G4_F_a_8_6 : G4.1 (F a 8) 6 = G.1 (F a 8) 6)
    (d_G4_F_a_9_6 : G4.1 (F a 9) 6 = G.1 (F a 9) 6)
    (d_G4_a_17 : G4.1 a 17 = G.1 a 17) :
    F q19 99 < 12 := by
  first | assumption | omega
theorem v_X10_back_80_8 {F : Nat → Nat → Nat} (a : Nat) (G : XG) (G41 : XG)
    (ron : RO (vw (G.2.1 (F (F a 3) 0))) (aI (G.2.1 (F (F a 3) 1))))
    (rob : RO (vw (G.2.1 (F (F a 4) 0))) (aI (G.2.1 (F (F a 4) 1))))
    (ro0 : RO (vw (G.2.1 (F (F a 6) 0))) (aI (G.2.1 (F (F a 6) 1))))
    (c_G41_F_F_a_3_0 : G41.2.1 (F (F a 3) 0) = G.2.1 (F (F a 3) 0))
    (c_G41_F_F_a_3_1 : G41.2.1 (F (F a 3) 1) = G.2.1 (F (F a 3) 1)) :
    RO (vw (G41.2.1 (F (F a 3) 0))) (aI (G41.2.1 (F (F a 3) 1))) := by simp only [c_G41_F_F_a_3_0, c_G41_F_F_a_3_1]; assumption
theorem v_X10_back_80_9 {K : Nat → Nat} {F : Nat → Nat → Nat} (a : Nat) (q19 : Nat) (p0 : Int32) (G : XG) (G41 : XG) (G4 : XG) (x48 : Int32)
    (ha : K a = 12)
    (f68 : F q19 99 = 4 + (p0.toInt).toNat)
    (rok : ∀ (i q : Nat), i < 8 → G.2.2.1 (F a 7) i = some q → RO (vw (G.2.1 (F q 0))) (aI (G.2.1 (F q 1))))
    (hs19 : F q19 99 = 4 + (p0.toInt).toNat ∧ G4.2.2.1 (F a 7) (p0.toInt).toNat = some q19)
    (sb : 0 ≤ ((G.1 (F a 2) 2).toInt) ∧ ((G.1 (F a 2) 2).toInt) ≤ 12)
    (sw : 0 ≤ ((G.1 (F a 8) 6).toInt) ∧ ((G.1 (F a 8) 6).toInt) ≤ 1080)
    (t4 : ((G4.1 (F a 14) 1).toInt) = 0)
    (f88 : ((G.1 a 18).toInt) = 0 ∨ ((G.1 a 18).toInt) = 1)
    (c11 : ((G.1 a 18).toInt) ≠ 0)
    (ht19 : 0 ≤ p0.toInt ∧ p0.toInt < ((G.1 a 17).toInt) ∧ p0.toInt < 8)
    (t41 : 0 ≤ ((G41.1 (F a 9) 6).toInt) ∧ ((G41.1 (F a 9) 6).toInt) ≤ 1080)
    (t48 : x48.toInt = -1 ∨ (0 ≤ x48.toInt ∧ x48.toInt < ((G41.1 (F a 9) 6).toInt) ∧ (aI (G41.2.1 (F (F a 9) 5)) (x48.toInt)) = 1))
    (c54 : x48.toInt = (-1 : Int))
    (c_G4_F_q19_0 : G4.2.1 (F q19 0) = G.2.1 (F q19 0))
    (c_G4_F_q19_1 : G4.2.1 (F q19 1) = G.2.1 (F q19 1))
    (c_G41_F_q19_0 : G41.2.1 (F q19 0) = G.2.1 (F q19 0))
    (c_G41_F_q19_1 : G41.2.1 (F q19 1) = G.2.1 (F q19 1))
    (r_G4_F_a_7 : G4.2.2.1 (F a 7) = G.2.2.1 (F a 7)) :
    RO (vw (G41.2.1 (F q19 0))) (aI (G41.2.1 (F q19 1))) := by
  have hq7 : G.2.2.1 (F a 7) (p0.toInt).toNat = some q19 := by rw [← r_G4_F_a_7]; exact hs19.2
  have hr := rok (p0.toInt).toNat q19 (by omega) hq7
  first
    | (simp only [c_G4_F_q19_0, c_G4_F_q19_1]; exact hr)
    | (simp only [c_G41_F_q19_0, c_G41_F_q19_1]; exact hr)
    | (simp only [c_G85_F_q19_0, c_G85_F_q19_1]; exact hr)
theorem v_X10_back_80_10 {K : Nat → Nat} {F : Nat → Nat → Nat} (a : Nat) (q19 : Nat) (p0 : Int32) (G : XG) (G41 : XG) (G4 : XG) (x48 : Int32)
    (ha : K a = 12)
    (hk9999 : K (F a 14) = 11)
    (hj9999 : F (F a 14) 99 = 0)
    (hk9999a : K (F a 11) = 3)
    (hj9999a : F (F a 11) 99 = 0)
    (hk9999b : K (F a 9) = 6)
    (hj9999b : F (F a 9) 99 = 1)
    (hk9999c : K (F a 8) = 6)
    (hj9999c : F (F a 8) 99 = 0)
    (hk9999d : K (F a 15) = 26)
    (hj9999d : F (F a 15) 99 = 0)
    (hk9999e : K (F (F a 11) 0) = 21)
    (hj9999e : F (F (F a 11) 0) 99 = 100)
    (hk9999f : K (F (F a 11) 1) = 21)
    (hj9999f : F (F (F a 11) 1) 99 = 101)
    (hk9999g : K (F (F a 11) 2) = 24)
    (hj9999g : F (F (F a 11) 2) 99 = 4)
    (hk9999h : K (F (F a 9) 0) = 22)
    (hj9999i : F (F (F a 9) 0) 99 = 10 * 1 + 0)
    (hk9999i : K (F (F a 9) 1) = 22)
    (hj9999k : F (F (F a 9) 1) 99 = 10 * 1 + 1)
    (hk9999j : K (F (F a 9) 2) = 22)
    (hj9999m : F (F (F a 9) 2) 99 = 10 * 1 + 2)
    (hk9999k : K (F (F a 9) 3) = 22)
    (hj9999o : F (F (F a 9) 3) 99 = 10 * 1 + 3)
    (hk9999l : K (F (F a 9) 4) = 23)
    (hj9999q : F (F (F a 9) 4) 99 = 10 * 1 + 4)
    (hk9999m : K (F (F a 9) 5) = 23)
    (hj9999s : F (F (F a 9) 5) 99 = 10 * 1 + 5)
    (hk9999n : K (F a 3) = 8)
    (hj9999t : F (F a 3) 99 = 0)
    (hk9999o : K (F (F a 3) 0) = 20)
    (hj9999v : F (F (F a 3) 0) 99 = 0)
    (hk9999p : K (F (F a 3) 1) = 21)
    (hj9999y : F (F (F a 3) 1) 99 = 0)
    (hk9999q : K (F (F a 8) 0) = 22)
    (hj9999z26 : F (F (F a 8) 0) 99 = 10 * 0 + 0)
    (hk9999r : K (F (F a 8) 1) = 22)
    (hj9999z28 : F (F (F a 8) 1) 99 = 10 * 0 + 1)
    (hk9999s : K (F (F a 8) 2) = 22)
    (hj9999z30 : F (F (F a 8) 2) 99 = 10 * 0 + 2)
    (hk9999t : K (F (F a 8) 3) = 22)
    (hj9999z32 : F (F (F a 8) 3) 99 = 10 * 0 + 3)
    (hk9999u : K (F (F a 8) 4) = 23)
    (hj9999z34 : F (F (F a 8) 4) 99 = 10 * 0 + 4)
    (hk9999v : K (F (F a 8) 5) = 23)
    (hj9999z36 : F (F (F a 8) 5) 99 = 10 * 0 + 5)
    (hk9999w : K (F a 2) = 2)
    (hj9999z37 : F (F a 2) 99 = 0)
    (hk9999y : K (F (F a 2) 1) = 15)
    (hj9999z38 : F (F (F a 2) 1) 99 = 1)
    (hk9999z25 : K (F (F a 2) 0) = 15)
    (hj9999z39 : F (F (F a 2) 0) 99 = 0)
    (hk9999z26 : K (F a 4) = 8)
    (hj9999z40 : F (F a 4) 99 = 1)
    (hk9999z27 : K (F (F a 4) 0) = 20)
    (hj9999z42 : F (F (F a 4) 0) 99 = 1)
    (hk9999z28 : K (F (F a 4) 1) = 21)
    (hj9999z44 : F (F (F a 4) 1) 99 = 1)
    (hk9999z29 : K (F a 6) = 8)
    (hj9999z45 : F (F a 6) 99 = 3)
    (hk9999z30 : K (F (F a 6) 0) = 20)
    (hj9999z47 : F (F (F a 6) 0) 99 = 3)
    (hk9999z31 : K (F (F a 6) 1) = 21)
    (hj9999z49 : F (F (F a 6) 1) 99 = 3)
    (hk9999z32 : K (F a 7) = 16)
    (hj9999z50 : F (F a 7) 99 = 0)
    (hk19 : K q19 = 8)
    (f68 : F q19 99 = 4 + (p0.toInt).toNat)
    (hk30 : K (F q19 0) = 20)
    (hj30a : F (F q19 0) 99 = 4 + (p0.toInt).toNat)
    (hk30a : K (F q19 1) = 21)
    (hj30c : F (F q19 1) 99 = 4 + (p0.toInt).toNat)
    (hfr : XFr [(F a 14, 1), (F a 14, 2), (F a 14, 3), (a, 17), (F a 11, 3), (F a 9, 6), (F a 8, 6)] [F a 15, F (F a 11) 0, F (F a 11) 1, F (F a 11) 2, F (F a 9) 0, F (F a 9) 1, F (F a 9) 2, F (F a 9) 3, F (F a 9) 4, F (F a 9) 5, F (F a 3) 0, F (F a 3) 1, F (F a 8) 0, F (F a 8) 1, F (F a 8) 2, F (F a 8) 3, F (F a 8) 4, F (F a 8) 5] [] G G41)
    (bko : BKr K G (G.2.2.1 (F (F a 2) 1)))
    (hs19 : F q19 99 = 4 + (p0.toInt).toNat ∧ G4.2.2.1 (F a 7) (p0.toInt).toNat = some q19)
    (sb : 0 ≤ ((G.1 (F a 2) 2).toInt) ∧ ((G.1 (F a 2) 2).toInt) ≤ 12)
    (sw : 0 ≤ ((G.1 (F a 8) 6).toInt) ∧ ((G.1 (F a 8) 6).toInt) ≤ 1080)
    (t4 : ((G4.1 (F a 14) 1).toInt) = 0)
    (f88 : ((G.1 a 18).toInt) = 0 ∨ ((G.1 a 18).toInt) = 1)
    (c11 : ((G.1 a 18).toInt) ≠ 0)
    (ht19 : 0 ≤ p0.toInt ∧ p0.toInt < ((G.1 a 17).toInt) ∧ p0.toInt < 8)
    (t41 : 0 ≤ ((G41.1 (F a 9) 6).toInt) ∧ ((G41.1 (F a 9) 6).toInt) ≤ 1080)
    (t48 : x48.toInt = -1 ∨ (0 ≤ x48.toInt ∧ x48.toInt < ((G41.1 (F a 9) 6).toInt) ∧ (aI (G41.2.1 (F (F a 9) 5)) (x48.toInt)) = 1))
    (c54 : x48.toInt = (-1 : Int))
    (r_G4_F_F_a_2_1 : G4.2.2.1 (F (F a 2) 1) = G.2.2.1 (F (F a 2) 1))
    (r_G41_F_F_a_2_1 : G41.2.2.1 (F (F a 2) 1) = G.2.2.1 (F (F a 2) 1)) :
    ∀ (i q : Nat), i < 12 → G41.2.2.1 (F (F a 2) 1) i = some q → RW (G41.1 q) := by
  have hd : ∀ p, p ∈ [(F a 14, 1), (F a 14, 2), (F a 14, 3), (a, 17), (F a 11, 3), (F a 9, 6), (F a 8, 6)] → K p.1 ≠ 9 := (List.forall_mem_cons.mpr ⟨(show K (F a 14) ≠ 9 by omega), List.forall_mem_cons.mpr ⟨(show K (F a 14) ≠ 9 by omega), List.forall_mem_cons.mpr ⟨(show K (F a 14) ≠ 9 by omega), List.forall_mem_cons.mpr ⟨(show K (a) ≠ 9 by omega), List.forall_mem_cons.mpr ⟨(show K (F a 11) ≠ 9 by omega), List.forall_mem_cons.mpr ⟨(show K (F a 9) ≠ 9 by omega), List.forall_mem_cons.mpr ⟨(show K (F a 8) ≠ 9 by omega), fun _ h => by cases h⟩⟩⟩⟩⟩⟩⟩)
  first
    | rw [r_G4_F_F_a_2_1]; exact (bko.fr hfr hd).rw
    | rw [r_G41_F_F_a_2_1]; exact (bko.fr hfr hd).rw
    | rw [r_G100_F_F_a_2_1]; exact (bko.fr hfr hd).rw
theorem v_X10_back_80_11 {K : Nat → Nat} {F : Nat → Nat → Nat} (a : Nat) (q19 : Nat) (p0 : Int32) (G : XG) (G41 : XG) (G4 : XG) (x48 : Int32)
    (ha : K a = 12)
    (hk9999 : K (F a 14) = 11)
    (hj9999 : F (F a 14) 99 = 0)
    (hk9999a : K (F a 11) = 3)
    (hj9999a : F (F a 11) 99 = 0)
    (hk9999b : K (F a 9) = 6)
    (hj9999b : F (F a 9) 99 = 1)
    (hk9999c : K (F a 8) = 6)
    (hj9999c : F (F a 8) 99 = 0)
    (hk9999d : K (F a 15) = 26)
    (hj9999d : F (F a 15) 99 = 0)
    (hk9999e : K (F (F a 11) 0) = 21)
    (hj9999e : F (F (F a 11) 0) 99 = 100)
    (hk9999f : K (F (F a 11) 1) = 21)
    (hj9999f : F (F (F a 11) 1) 99 = 101)
    (hk9999g : K (F (F a 11) 2) = 24)
    (hj9999g : F (F (F a 11) 2) 99 = 4)
    (hk9999h : K (F (F a 9) 0) = 22)
    (hj9999i : F (F (F a 9) 0) 99 = 10 * 1 + 0)
    (hk9999i : K (F (F a 9) 1) = 22)
    (hj9999k : F (F (F a 9) 1) 99 = 10 * 1 + 1)
    (hk9999j : K (F (F a 9) 2) = 22)
    (hj9999m : F (F (F a 9) 2) 99 = 10 * 1 + 2)
    (hk9999k : K (F (F a 9) 3) = 22)
    (hj9999o : F (F (F a 9) 3) 99 = 10 * 1 + 3)
    (hk9999l : K (F (F a 9) 4) = 23)
    (hj9999q : F (F (F a 9) 4) 99 = 10 * 1 + 4)
    (hk9999m : K (F (F a 9) 5) = 23)
    (hj9999s : F (F (F a 9) 5) 99 = 10 * 1 + 5)
    (hk9999n : K (F a 3) = 8)
    (hj9999t : F (F a 3) 99 = 0)
    (hk9999o : K (F (F a 3) 0) = 20)
    (hj9999v : F (F (F a 3) 0) 99 = 0)
    (hk9999p : K (F (F a 3) 1) = 21)
    (hj9999y : F (F (F a 3) 1) 99 = 0)
    (hk9999q : K (F (F a 8) 0) = 22)
    (hj9999z26 : F (F (F a 8) 0) 99 = 10 * 0 + 0)
    (hk9999r : K (F (F a 8) 1) = 22)
    (hj9999z28 : F (F (F a 8) 1) 99 = 10 * 0 + 1)
    (hk9999s : K (F (F a 8) 2) = 22)
    (hj9999z30 : F (F (F a 8) 2) 99 = 10 * 0 + 2)
    (hk9999t : K (F (F a 8) 3) = 22)
    (hj9999z32 : F (F (F a 8) 3) 99 = 10 * 0 + 3)
    (hk9999u : K (F (F a 8) 4) = 23)
    (hj9999z34 : F (F (F a 8) 4) 99 = 10 * 0 + 4)
    (hk9999v : K (F (F a 8) 5) = 23)
    (hj9999z36 : F (F (F a 8) 5) 99 = 10 * 0 + 5)
    (hk9999w : K (F a 2) = 2)
    (hj9999z37 : F (F a 2) 99 = 0)
    (hk9999y : K (F (F a 2) 1) = 15)
    (hj9999z38 : F (F (F a 2) 1) 99 = 1)
    (hk9999z25 : K (F (F a 2) 0) = 15)
    (hj9999z39 : F (F (F a 2) 0) 99 = 0)
    (hk9999z26 : K (F a 4) = 8)
    (hj9999z40 : F (F a 4) 99 = 1)
    (hk9999z27 : K (F (F a 4) 0) = 20)
    (hj9999z42 : F (F (F a 4) 0) 99 = 1)
    (hk9999z28 : K (F (F a 4) 1) = 21)
    (hj9999z44 : F (F (F a 4) 1) 99 = 1)
    (hk9999z29 : K (F a 6) = 8)
    (hj9999z45 : F (F a 6) 99 = 3)
    (hk9999z30 : K (F (F a 6) 0) = 20)
    (hj9999z47 : F (F (F a 6) 0) 99 = 3)
    (hk9999z31 : K (F (F a 6) 1) = 21)
    (hj9999z49 : F (F (F a 6) 1) 99 = 3)
    (hk9999z32 : K (F a 7) = 16)
    (hj9999z50 : F (F a 7) 99 = 0)
    (hk19 : K q19 = 8)
    (f68 : F q19 99 = 4 + (p0.toInt).toNat)
    (hk30 : K (F q19 0) = 20)
    (hj30a : F (F q19 0) 99 = 4 + (p0.toInt).toNat)
    (hk30a : K (F q19 1) = 21)
    (hj30c : F (F q19 1) 99 = 4 + (p0.toInt).toNat)
    (hfr : XFr [(F a 14, 1), (F a 14, 2), (F a 14, 3), (a, 17), (F a 11, 3), (F a 9, 6), (F a 8, 6)] [F a 15, F (F a 11) 0, F (F a 11) 1, F (F a 11) 2, F (F a 9) 0, F (F a 9) 1, F (F a 9) 2, F (F a 9) 3, F (F a 9) 4, F (F a 9) 5, F (F a 3) 0, F (F a 3) 1, F (F a 8) 0, F (F a 8) 1, F (F a 8) 2, F (F a 8) 3, F (F a 8) 4, F (F a 8) 5] [] G G41)
    (hF4 : XFr [(F a 14, 1)] [] [] G G4)
    (hF41 : XFr [(F a 11, 3), (F a 9, 6)] [F (F a 11) 0, F (F a 11) 1, F (F a 11) 2, F (F a 9) 0, F (F a 9) 1, F (F a 9) 2, F (F a 9) 3, F (F a 9) 4, F (F a 9) 5] [] G4 G41)
    (ron : RO (vw (G.2.1 (F (F a 3) 0))) (aI (G.2.1 (F (F a 3) 1))))
    (rob : RO (vw (G.2.1 (F (F a 4) 0))) (aI (G.2.1 (F (F a 4) 1))))
    (ro0 : RO (vw (G.2.1 (F (F a 6) 0))) (aI (G.2.1 (F (F a 6) 1))))
    (bko : BKr K G (G.2.2.1 (F (F a 2) 1)))
    (bkn : BKr K G (G.2.2.1 (F (F a 2) 0)))
    (rok : ∀ (i q : Nat), i < 8 → G.2.2.1 (F a 7) i = some q → RO (vw (G.2.1 (F q 0))) (aI (G.2.1 (F q 1))))
    (hs19 : F q19 99 = 4 + (p0.toInt).toNat ∧ G4.2.2.1 (F a 7) (p0.toInt).toNat = some q19)
    (oq41 : qL G41 F (F a 9) = gaL G4 (G4.2.2.1 (F (F a 2) 1)) (vw (G.2.1 (F (F a 6) 0))) (vw (G.2.1 (F q19 0))) (2 : Int) (((G.1 (F a 2) 2).toInt)).toNat)
    (oq48 : ∀ j : Int, 0 ≤ j → j < ((G41.1 (F a 9) 6).toInt) → (x48.toInt = -1 ∨ j < x48.toInt) → aI (G41.2.1 (F (F a 9) 5)) j = 0)
    (sb : 0 ≤ ((G.1 (F a 2) 2).toInt) ∧ ((G.1 (F a 2) 2).toInt) ≤ 12)
    (sw : 0 ≤ ((G.1 (F a 8) 6).toInt) ∧ ((G.1 (F a 8) 6).toInt) ≤ 1080)
    (t4 : ((G4.1 (F a 14) 1).toInt) = 0)
    (f88 : ((G.1 a 18).toInt) = 0 ∨ ((G.1 a 18).toInt) = 1)
    (c11 : ((G.1 a 18).toInt) ≠ 0)
    (ht19 : 0 ≤ p0.toInt ∧ p0.toInt < ((G.1 a 17).toInt) ∧ p0.toInt < 8)
    (t41 : 0 ≤ ((G41.1 (F a 9) 6).toInt) ∧ ((G41.1 (F a 9) 6).toInt) ≤ 1080)
    (t48 : x48.toInt = -1 ∨ (0 ≤ x48.toInt ∧ x48.toInt < ((G41.1 (F a 9) 6).toInt) ∧ (aI (G41.2.1 (F (F a 9) 5)) (x48.toInt)) = 1))
    (c54 : x48.toInt = (-1 : Int))
    (c_G4_F_q19_0 : G4.2.1 (F q19 0) = G.2.1 (F q19 0))
    (c_G4_F_q19_1 : G4.2.1 (F q19 1) = G.2.1 (F q19 1))
    (c_G41_F_F_a_3_0 : G41.2.1 (F (F a 3) 0) = G.2.1 (F (F a 3) 0))
    (c_G41_F_F_a_3_1 : G41.2.1 (F (F a 3) 1) = G.2.1 (F (F a 3) 1))
    (c_G41_F_F_a_8_0 : G41.2.1 (F (F a 8) 0) = G.2.1 (F (F a 8) 0))
    (c_G41_F_F_a_8_1 : G41.2.1 (F (F a 8) 1) = G.2.1 (F (F a 8) 1))
    (c_G41_F_F_a_8_2 : G41.2.1 (F (F a 8) 2) = G.2.1 (F (F a 8) 2))
    (c_G41_F_F_a_8_3 : G41.2.1 (F (F a 8) 3) = G.2.1 (F (F a 8) 3))
    (c_G41_F_F_a_8_4 : G41.2.1 (F (F a 8) 4) = G.2.1 (F (F a 8) 4))
    (c_G41_F_F_a_8_5 : G41.2.1 (F (F a 8) 5) = G.2.1 (F (F a 8) 5))
    (c_G41_F_a_15 : G41.2.1 (F a 15) = G.2.1 (F a 15))
    (r_G4_F_F_a_2_1 : G4.2.2.1 (F (F a 2) 1) = G.2.2.1 (F (F a 2) 1))
    (r_G4_F_a_7 : G4.2.2.1 (F a 7) = G.2.2.1 (F a 7))
    (d_G41_F_a_14_1 : G41.1 (F a 14) 1 = G4.1 (F a 14) 1)
    (d_G41_F_a_14_2 : G41.1 (F a 14) 2 = G.1 (F a 14) 2)
    (d_G41_F_a_14_3 : G41.1 (F a 14) 3 = G.1 (F a 14) 3)
    (d_G41_F_a_8_6 : G41.1 (F a 8) 6 = G.1 (F a 8) 6)
    (d_G41_a_17 : G41.1 a 17 = G.1 a 17) :
    F (F a 3) 99 < 12 := by
  first | assumption | omega
theorem v_X10_back_80_12 {K : Nat → Nat} {F : Nat → Nat → Nat} (a : Nat) (q19 : Nat) (p0 : Int32) (G : XG) (G41 : XG) (G4 : XG) (x48 : Int32)
    (ha : K a = 12)
    (hk9999 : K (F a 14) = 11)
    (hj9999 : F (F a 14) 99 = 0)
    (hk9999a : K (F a 11) = 3)
    (hj9999a : F (F a 11) 99 = 0)
    (hk9999b : K (F a 9) = 6)
    (hj9999b : F (F a 9) 99 = 1)
    (hk9999c : K (F a 8) = 6)
    (hj9999c : F (F a 8) 99 = 0)
    (hk9999d : K (F a 15) = 26)
    (hj9999d : F (F a 15) 99 = 0)
    (hk9999e : K (F (F a 11) 0) = 21)
    (hj9999e : F (F (F a 11) 0) 99 = 100)
    (hk9999f : K (F (F a 11) 1) = 21)
    (hj9999f : F (F (F a 11) 1) 99 = 101)
    (hk9999g : K (F (F a 11) 2) = 24)
    (hj9999g : F (F (F a 11) 2) 99 = 4)
    (hk9999h : K (F (F a 9) 0) = 22)
    (hj9999i : F (F (F a 9) 0) 99 = 10 * 1 + 0)
    (hk9999i : K (F (F a 9) 1) = 22)
    (hj9999k : F (F (F a 9) 1) 99 = 10 * 1 + 1)
    (hk9999j : K (F (F a 9) 2) = 22)
    (hj9999m : F (F (F a 9) 2) 99 = 10 * 1 + 2)
    (hk9999k : K (F (F a 9) 3) = 22)
    (hj9999o : F (F (F a 9) 3) 99 = 10 * 1 + 3)
    (hk9999l : K (F (F a 9) 4) = 23)
    (hj9999q : F (F (F a 9) 4) 99 = 10 * 1 + 4)
    (hk9999m : K (F (F a 9) 5) = 23)
    (hj9999s : F (F (F a 9) 5) 99 = 10 * 1 + 5)
    (hk9999n : K (F a 3) = 8)
    (hj9999t : F (F a 3) 99 = 0)
    (hk9999o : K (F (F a 3) 0) = 20)
    (hj9999v : F (F (F a 3) 0) 99 = 0)
    (hk9999p : K (F (F a 3) 1) = 21)
    (hj9999y : F (F (F a 3) 1) 99 = 0)
    (hk9999q : K (F (F a 8) 0) = 22)
    (hj9999z26 : F (F (F a 8) 0) 99 = 10 * 0 + 0)
    (hk9999r : K (F (F a 8) 1) = 22)
    (hj9999z28 : F (F (F a 8) 1) 99 = 10 * 0 + 1)
    (hk9999s : K (F (F a 8) 2) = 22)
    (hj9999z30 : F (F (F a 8) 2) 99 = 10 * 0 + 2)
    (hk9999t : K (F (F a 8) 3) = 22)
    (hj9999z32 : F (F (F a 8) 3) 99 = 10 * 0 + 3)
    (hk9999u : K (F (F a 8) 4) = 23)
    (hj9999z34 : F (F (F a 8) 4) 99 = 10 * 0 + 4)
    (hk9999v : K (F (F a 8) 5) = 23)
    (hj9999z36 : F (F (F a 8) 5) 99 = 10 * 0 + 5)
    (hk9999w : K (F a 2) = 2)
    (hj9999z37 : F (F a 2) 99 = 0)
    (hk9999y : K (F (F a 2) 1) = 15)
    (hj9999z38 : F (F (F a 2) 1) 99 = 1)
    (hk9999z25 : K (F (F a 2) 0) = 15)
    (hj9999z39 : F (F (F a 2) 0) 99 = 0)
    (hk9999z26 : K (F a 4) = 8)
    (hj9999z40 : F (F a 4) 99 = 1)
    (hk9999z27 : K (F (F a 4) 0) = 20)
    (hj9999z42 : F (F (F a 4) 0) 99 = 1)
    (hk9999z28 : K (F (F a 4) 1) = 21)
    (hj9999z44 : F (F (F a 4) 1) 99 = 1)
    (hk9999z29 : K (F a 6) = 8)
    (hj9999z45 : F (F a 6) 99 = 3)
    (hk9999z30 : K (F (F a 6) 0) = 20)
    (hj9999z47 : F (F (F a 6) 0) 99 = 3)
    (hk9999z31 : K (F (F a 6) 1) = 21)
    (hj9999z49 : F (F (F a 6) 1) 99 = 3)
    (hk9999z32 : K (F a 7) = 16)
    (hj9999z50 : F (F a 7) 99 = 0)
    (hk19 : K q19 = 8)
    (f68 : F q19 99 = 4 + (p0.toInt).toNat)
    (hk30 : K (F q19 0) = 20)
    (hj30a : F (F q19 0) 99 = 4 + (p0.toInt).toNat)
    (hk30a : K (F q19 1) = 21)
    (hj30c : F (F q19 1) 99 = 4 + (p0.toInt).toNat)
    (hfr : XFr [(F a 14, 1), (F a 14, 2), (F a 14, 3), (a, 17), (F a 11, 3), (F a 9, 6), (F a 8, 6)] [F a 15, F (F a 11) 0, F (F a 11) 1, F (F a 11) 2, F (F a 9) 0, F (F a 9) 1, F (F a 9) 2, F (F a 9) 3, F (F a 9) 4, F (F a 9) 5, F (F a 3) 0, F (F a 3) 1, F (F a 8) 0, F (F a 8) 1, F (F a 8) 2, F (F a 8) 3, F (F a 8) 4, F (F a 8) 5] [] G G41)
    (hF4 : XFr [(F a 14, 1)] [] [] G G4)
    (hF41 : XFr [(F a 11, 3), (F a 9, 6)] [F (F a 11) 0, F (F a 11) 1, F (F a 11) 2, F (F a 9) 0, F (F a 9) 1, F (F a 9) 2, F (F a 9) 3, F (F a 9) 4, F (F a 9) 5] [] G4 G41)
    (ron : RO (vw (G.2.1 (F (F a 3) 0))) (aI (G.2.1 (F (F a 3) 1))))
    (rob : RO (vw (G.2.1 (F (F a 4) 0))) (aI (G.2.1 (F (F a 4) 1))))
    (ro0 : RO (vw (G.2.1 (F (F a 6) 0))) (aI (G.2.1 (F (F a 6) 1))))
    (bko : BKr K G (G.2.2.1 (F (F a 2) 1)))
    (bkn : BKr K G (G.2.2.1 (F (F a 2) 0)))
    (rok : ∀ (i q : Nat), i < 8 → G.2.2.1 (F a 7) i = some q → RO (vw (G.2.1 (F q 0))) (aI (G.2.1 (F q 1))))
    (hs19 : F q19 99 = 4 + (p0.toInt).toNat ∧ G4.2.2.1 (F a 7) (p0.toInt).toNat = some q19)
    (oq41 : qL G41 F (F a 9) = gaL G4 (G4.2.2.1 (F (F a 2) 1)) (vw (G.2.1 (F (F a 6) 0))) (vw (G.2.1 (F q19 0))) (2 : Int) (((G.1 (F a 2) 2).toInt)).toNat)
    (oq48 : ∀ j : Int, 0 ≤ j → j < ((G41.1 (F a 9) 6).toInt) → (x48.toInt = -1 ∨ j < x48.toInt) → aI (G41.2.1 (F (F a 9) 5)) j = 0)
    (sb : 0 ≤ ((G.1 (F a 2) 2).toInt) ∧ ((G.1 (F a 2) 2).toInt) ≤ 12)
    (sw : 0 ≤ ((G.1 (F a 8) 6).toInt) ∧ ((G.1 (F a 8) 6).toInt) ≤ 1080)
    (t4 : ((G4.1 (F a 14) 1).toInt) = 0)
    (f88 : ((G.1 a 18).toInt) = 0 ∨ ((G.1 a 18).toInt) = 1)
    (c11 : ((G.1 a 18).toInt) ≠ 0)
    (ht19 : 0 ≤ p0.toInt ∧ p0.toInt < ((G.1 a 17).toInt) ∧ p0.toInt < 8)
    (t41 : 0 ≤ ((G41.1 (F a 9) 6).toInt) ∧ ((G41.1 (F a 9) 6).toInt) ≤ 1080)
    (t48 : x48.toInt = -1 ∨ (0 ≤ x48.toInt ∧ x48.toInt < ((G41.1 (F a 9) 6).toInt) ∧ (aI (G41.2.1 (F (F a 9) 5)) (x48.toInt)) = 1))
    (c54 : x48.toInt = (-1 : Int))
    (c_G4_F_q19_0 : G4.2.1 (F q19 0) = G.2.1 (F q19 0))
    (c_G4_F_q19_1 : G4.2.1 (F q19 1) = G.2.1 (F q19 1))
    (c_G41_F_F_a_3_0 : G41.2.1 (F (F a 3) 0) = G.2.1 (F (F a 3) 0))
    (c_G41_F_F_a_3_1 : G41.2.1 (F (F a 3) 1) = G.2.1 (F (F a 3) 1))
    (c_G41_F_F_a_8_0 : G41.2.1 (F (F a 8) 0) = G.2.1 (F (F a 8) 0))
    (c_G41_F_F_a_8_1 : G41.2.1 (F (F a 8) 1) = G.2.1 (F (F a 8) 1))
    (c_G41_F_F_a_8_2 : G41.2.1 (F (F a 8) 2) = G.2.1 (F (F a 8) 2))
    (c_G41_F_F_a_8_3 : G41.2.1 (F (F a 8) 3) = G.2.1 (F (F a 8) 3))
    (c_G41_F_F_a_8_4 : G41.2.1 (F (F a 8) 4) = G.2.1 (F (F a 8) 4))
    (c_G41_F_F_a_8_5 : G41.2.1 (F (F a 8) 5) = G.2.1 (F (F a 8) 5))
    (c_G41_F_a_15 : G41.2.1 (F a 15) = G.2.1 (F a 15))
    (r_G4_F_F_a_2_1 : G4.2.2.1 (F (F a 2) 1) = G.2.2.1 (F (F a 2) 1))
    (r_G4_F_a_7 : G4.2.2.1 (F a 7) = G.2.2.1 (F a 7))
    (d_G41_F_a_14_1 : G41.1 (F a 14) 1 = G4.1 (F a 14) 1)
    (d_G41_F_a_14_2 : G41.1 (F a 14) 2 = G.1 (F a 14) 2)
    (d_G41_F_a_14_3 : G41.1 (F a 14) 3 = G.1 (F a 14) 3)
    (d_G41_F_a_8_6 : G41.1 (F a 8) 6 = G.1 (F a 8) 6)
    (d_G41_a_17 : G41.1 a 17 = G.1 a 17) :
    F q19 99 < 12 := by
  first | assumption | omega
theorem v_X10_back_85_13 {F : Nat → Nat → Nat} (a : Nat) (G : XG) (G80 : XG)
    (ron : RO (vw (G.2.1 (F (F a 3) 0))) (aI (G.2.1 (F (F a 3) 1))))
    (rob : RO (vw (G.2.1 (F (F a 4) 0))) (aI (G.2.1 (F (F a 4) 1))))
    (ro0 : RO (vw (G.2.1 (F (F a 6) 0))) (aI (G.2.1 (F (F a 6) 1))))
    (c_G80_F_F_a_4_0 : G80.2.1 (F (F a 4) 0) = G.2.1 (F (F a 4) 0))
    (c_G80_F_F_a_4_1 : G80.2.1 (F (F a 4) 1) = G.2.1 (F (F a 4) 1)) :
    RO (vw (G80.2.1 (F (F a 4) 0))) (aI (G80.2.1 (F (F a 4) 1))) := by simp only [c_G80_F_F_a_4_0, c_G80_F_F_a_4_1]; assumption
theorem v_X10_back_85_14 {K : Nat → Nat} {F : Nat → Nat → Nat} (a : Nat) (q19 : Nat) (p0 : Int32) (G : XG) (G80 : XG) (G4 : XG) (G41 : XG) (x48 : Int32)
    (ha : K a = 12)
    (hk9999 : K (F a 14) = 11)
    (hj9999 : F (F a 14) 99 = 0)
    (hk9999a : K (F a 11) = 3)
    (hj9999a : F (F a 11) 99 = 0)
    (hk9999b : K (F a 9) = 6)
    (hj9999b : F (F a 9) 99 = 1)
    (hk9999c : K (F a 8) = 6)
    (hj9999c : F (F a 8) 99 = 0)
    (hk9999d : K (F a 15) = 26)
    (hj9999d : F (F a 15) 99 = 0)
    (hk9999e : K (F (F a 11) 0) = 21)
    (hj9999e : F (F (F a 11) 0) 99 = 100)
    (hk9999f : K (F (F a 11) 1) = 21)
    (hj9999f : F (F (F a 11) 1) 99 = 101)
    (hk9999g : K (F (F a 11) 2) = 24)
    (hj9999g : F (F (F a 11) 2) 99 = 4)
    (hk9999h : K (F (F a 9) 0) = 22)
    (hj9999i : F (F (F a 9) 0) 99 = 10 * 1 + 0)
    (hk9999i : K (F (F a 9) 1) = 22)
    (hj9999k : F (F (F a 9) 1) 99 = 10 * 1 + 1)
    (hk9999j : K (F (F a 9) 2) = 22)
    (hj9999m : F (F (F a 9) 2) 99 = 10 * 1 + 2)
    (hk9999k : K (F (F a 9) 3) = 22)
    (hj9999o : F (F (F a 9) 3) 99 = 10 * 1 + 3)
    (hk9999l : K (F (F a 9) 4) = 23)
    (hj9999q : F (F (F a 9) 4) 99 = 10 * 1 + 4)
    (hk9999m : K (F (F a 9) 5) = 23)
    (hj9999s : F (F (F a 9) 5) 99 = 10 * 1 + 5)
    (hk9999n : K (F a 3) = 8)
    (hj9999t : F (F a 3) 99 = 0)
    (hk9999o : K (F (F a 3) 0) = 20)
    (hj9999v : F (F (F a 3) 0) 99 = 0)
    (hk9999p : K (F (F a 3) 1) = 21)
    (hj9999y : F (F (F a 3) 1) 99 = 0)
    (hk9999q : K (F (F a 8) 0) = 22)
    (hj9999z26 : F (F (F a 8) 0) 99 = 10 * 0 + 0)
    (hk9999r : K (F (F a 8) 1) = 22)
    (hj9999z28 : F (F (F a 8) 1) 99 = 10 * 0 + 1)
    (hk9999s : K (F (F a 8) 2) = 22)
    (hj9999z30 : F (F (F a 8) 2) 99 = 10 * 0 + 2)
    (hk9999t : K (F (F a 8) 3) = 22)
    (hj9999z32 : F (F (F a 8) 3) 99 = 10 * 0 + 3)
    (hk9999u : K (F (F a 8) 4) = 23)
    (hj9999z34 : F (F (F a 8) 4) 99 = 10 * 0 + 4)
    (hk9999v : K (F (F a 8) 5) = 23)
    (hj9999z36 : F (F (F a 8) 5) 99 = 10 * 0 + 5)
    (hk9999w : K (F a 2) = 2)
    (hj9999z37 : F (F a 2) 99 = 0)
    (hk9999y : K (F (F a 2) 1) = 15)
    (hj9999z38 : F (F (F a 2) 1) 99 = 1)
    (hk9999z25 : K (F (F a 2) 0) = 15)
    (hj9999z39 : F (F (F a 2) 0) 99 = 0)
    (hk9999z26 : K (F a 4) = 8)
    (hj9999z40 : F (F a 4) 99 = 1)
    (hk9999z27 : K (F (F a 4) 0) = 20)
    (hj9999z42 : F (F (F a 4) 0) 99 = 1)
    (hk9999z28 : K (F (F a 4) 1) = 21)
    (hj9999z44 : F (F (F a 4) 1) 99 = 1)
    (hk9999z29 : K (F a 6) = 8)
    (hj9999z45 : F (F a 6) 99 = 3)
    (hk9999z30 : K (F (F a 6) 0) = 20)
    (hj9999z47 : F (F (F a 6) 0) 99 = 3)
    (hk9999z31 : K (F (F a 6) 1) = 21)
    (hj9999z49 : F (F (F a 6) 1) 99 = 3)
    (hk9999z32 : K (F a 7) = 16)
    (hj9999z50 : F (F a 7) 99 = 0)
    (hk19 : K q19 = 8)
    (f68 : F q19 99 = 4 + (p0.toInt).toNat)
    (hk30 : K (F q19 0) = 20)
    (hj30a : F (F q19 0) 99 = 4 + (p0.toInt).toNat)
    (hk30a : K (F q19 1) = 21)
    (hj30c : F (F q19 1) 99 = 4 + (p0.toInt).toNat)
    (hfr : XFr [(F a 14, 1), (F a 14, 2), (F a 14, 3), (a, 17), (F a 11, 3), (F a 9, 6), (F a 8, 6)] [F a 15, F (F a 11) 0, F (F a 11) 1, F (F a 11) 2, F (F a 9) 0, F (F a 9) 1, F (F a 9) 2, F (F a 9) 3, F (F a 9) 4, F (F a 9) 5, F (F a 3) 0, F (F a 3) 1, F (F a 8) 0, F (F a 8) 1, F (F a 8) 2, F (F a 8) 3, F (F a 8) 4, F (F a 8) 5] [] G G80)
    (bkn : BKr K G (G.2.2.1 (F (F a 2) 0)))
    (hs19 : F q19 99 = 4 + (p0.toInt).toNat ∧ G4.2.2.1 (F a 7) (p0.toInt).toNat = some q19)
    (sb : 0 ≤ ((G.1 (F a 2) 2).toInt) ∧ ((G.1 (F a 2) 2).toInt) ≤ 12)
    (sw : 0 ≤ ((G.1 (F a 8) 6).toInt) ∧ ((G.1 (F a 8) 6).toInt) ≤ 1080)
    (t4 : ((G4.1 (F a 14) 1).toInt) = 0)
    (f90 : ((G.1 a 18).toInt) = 0 ∨ ((G.1 a 18).toInt) = 1)
    (c11 : ((G.1 a 18).toInt) ≠ 0)
    (ht19 : 0 ≤ p0.toInt ∧ p0.toInt < ((G.1 a 17).toInt) ∧ p0.toInt < 8)
    (t41 : 0 ≤ ((G41.1 (F a 9) 6).toInt) ∧ ((G41.1 (F a 9) 6).toInt) ≤ 1080)
    (t48 : x48.toInt = -1 ∨ (0 ≤ x48.toInt ∧ x48.toInt < ((G41.1 (F a 9) 6).toInt) ∧ (aI (G41.2.1 (F (F a 9) 5)) (x48.toInt)) = 1))
    (c54 : x48.toInt = (-1 : Int))
    (t80 : 0 ≤ ((G80.1 (F a 9) 6).toInt) ∧ ((G80.1 (F a 9) 6).toInt) ≤ 1080)
    (r_G80_F_F_a_2_0 : G80.2.2.1 (F (F a 2) 0) = G.2.2.1 (F (F a 2) 0)) :
    BKr K G80 (G80.2.2.1 (F (F a 2) 0)) := by
  have hd : ∀ p, p ∈ [(F a 14, 1), (F a 14, 2), (F a 14, 3), (a, 17), (F a 11, 3), (F a 9, 6), (F a 8, 6)] → K p.1 ≠ 9 := (List.forall_mem_cons.mpr ⟨(show K (F a 14) ≠ 9 by omega), List.forall_mem_cons.mpr ⟨(show K (F a 14) ≠ 9 by omega), List.forall_mem_cons.mpr ⟨(show K (F a 14) ≠ 9 by omega), List.forall_mem_cons.mpr ⟨(show K (a) ≠ 9 by omega), List.forall_mem_cons.mpr ⟨(show K (F a 11) ≠ 9 by omega), List.forall_mem_cons.mpr ⟨(show K (F a 9) ≠ 9 by omega), List.forall_mem_cons.mpr ⟨(show K (F a 8) ≠ 9 by omega), fun _ h => by cases h⟩⟩⟩⟩⟩⟩⟩)
  rw [r_G80_F_F_a_2_0]
  exact bkn.fr hfr hd
theorem v_X10_back_93_15 {K : Nat → Nat} {F : Nat → Nat → Nat} (a : Nat) (q19 : Nat) (p0 : Int32) (G : XG) (G85 : XG) (G4 : XG) (G41 : XG) (G80 : XG) (x48 : Int32)
    (ha : K a = 12)
    (f68 : F q19 99 = 4 + (p0.toInt).toNat)
    (rok : ∀ (i q : Nat), i < 8 → G.2.2.1 (F a 7) i = some q → RO (vw (G.2.1 (F q 0))) (aI (G.2.1 (F q 1))))
    (hs19 : F q19 99 = 4 + (p0.toInt).toNat ∧ G4.2.2.1 (F a 7) (p0.toInt).toNat = some q19)
    (sb : 0 ≤ ((G.1 (F a 2) 2).toInt) ∧ ((G.1 (F a 2) 2).toInt) ≤ 12)
    (sw : 0 ≤ ((G.1 (F a 8) 6).toInt) ∧ ((G.1 (F a 8) 6).toInt) ≤ 1080)
    (t4 : ((G4.1 (F a 14) 1).toInt) = 0)
    (f91 : ((G.1 a 18).toInt) = 0 ∨ ((G.1 a 18).toInt) = 1)
    (c11 : ((G.1 a 18).toInt) ≠ 0)
    (ht19 : 0 ≤ p0.toInt ∧ p0.toInt < ((G.1 a 17).toInt) ∧ p0.toInt < 8)
    (t41 : 0 ≤ ((G41.1 (F a 9) 6).toInt) ∧ ((G41.1 (F a 9) 6).toInt) ≤ 1080)
    (t48 : x48.toInt = -1 ∨ (0 ≤ x48.toInt ∧ x48.toInt < ((G41.1 (F a 9) 6).toInt) ∧ (aI (G41.2.1 (F (F a 9) 5)) (x48.toInt)) = 1))
    (c54 : x48.toInt = (-1 : Int))
    (t80 : 0 ≤ ((G80.1 (F a 9) 6).toInt) ∧ ((G80.1 (F a 9) 6).toInt) ≤ 1080)
    (c_G4_F_q19_0 : G4.2.1 (F q19 0) = G.2.1 (F q19 0))
    (c_G4_F_q19_1 : G4.2.1 (F q19 1) = G.2.1 (F q19 1))
    (c_G85_F_q19_0 : G85.2.1 (F q19 0) = G.2.1 (F q19 0))
    (c_G85_F_q19_1 : G85.2.1 (F q19 1) = G.2.1 (F q19 1))
    (r_G4_F_a_7 : G4.2.2.1 (F a 7) = G.2.2.1 (F a 7)) :
    RO (vw (G85.2.1 (F q19 0))) (aI (G85.2.1 (F q19 1))) := by
  have hq7 : G.2.2.1 (F a 7) (p0.toInt).toNat = some q19 := by rw [← r_G4_F_a_7]; exact hs19.2
  have hr := rok (p0.toInt).toNat q19 (by omega) hq7
  first
    | (simp only [c_G4_F_q19_0, c_G4_F_q19_1]; exact hr)
    | (simp only [c_G41_F_q19_0, c_G41_F_q19_1]; exact hr)
    | (simp only [c_G85_F_q19_0, c_G85_F_q19_1]; exact hr)
theorem v_X10_back_117_16 {F : Nat → Nat → Nat} (a : Nat) (G : XG) (G100 : XG) (G93 : XG)
    (ron : RO (vw (G.2.1 (F (F a 3) 0))) (aI (G.2.1 (F (F a 3) 1))))
    (rob : RO (vw (G.2.1 (F (F a 4) 0))) (aI (G.2.1 (F (F a 4) 1))))
    (ro0 : RO (vw (G.2.1 (F (F a 6) 0))) (aI (G.2.1 (F (F a 6) 1))))
    (oq93a : RO (vw (G93.2.1 (F (F a 3) 0))) (aI (G93.2.1 (F (F a 3) 1))))
    (c_G100_F_F_a_4_0 : G100.2.1 (F (F a 4) 0) = G.2.1 (F (F a 4) 0))
    (c_G100_F_F_a_4_1 : G100.2.1 (F (F a 4) 1) = G.2.1 (F (F a 4) 1)) :
    RO (vw (G100.2.1 (F (F a 4) 0))) (aI (G100.2.1 (F (F a 4) 1))) := by simp only [c_G100_F_F_a_4_0, c_G100_F_F_a_4_1]; assumption
theorem v_X10_back_117_17 {F : Nat → Nat → Nat} (a : Nat) (G : XG) (G100 : XG) (G93 : XG)
    (ron : RO (vw (G.2.1 (F (F a 3) 0))) (aI (G.2.1 (F (F a 3) 1))))
    (rob : RO (vw (G.2.1 (F (F a 4) 0))) (aI (G.2.1 (F (F a 4) 1))))
    (ro0 : RO (vw (G.2.1 (F (F a 6) 0))) (aI (G.2.1 (F (F a 6) 1))))
    (oq93a : RO (vw (G93.2.1 (F (F a 3) 0))) (aI (G93.2.1 (F (F a 3) 1))))
    (c_G100_F_F_a_3_0 : G100.2.1 (F (F a 3) 0) = G93.2.1 (F (F a 3) 0))
    (c_G100_F_F_a_3_1 : G100.2.1 (F (F a 3) 1) = G93.2.1 (F (F a 3) 1)) :
    RO (vw (G100.2.1 (F (F a 3) 0))) (aI (G100.2.1 (F (F a 3) 1))) := by simp only [c_G100_F_F_a_3_0, c_G100_F_F_a_3_1]; assumption
theorem v_X10_back_117_18 {K : Nat → Nat} {F : Nat → Nat → Nat} (a : Nat) (q19 : Nat) (p0 : Int32) (G : XG) (G100 : XG) (G4 : XG) (G41 : XG) (G80 : XG) (x48 : Int32)
    (ha : K a = 12)
    (hk9999 : K (F a 14) = 11)
    (hj9999 : F (F a 14) 99 = 0)
    (hk9999a : K (F a 11) = 3)
    (hj9999a : F (F a 11) 99 = 0)
    (hk9999b : K (F a 9) = 6)
    (hj9999b : F (F a 9) 99 = 1)
    (hk9999c : K (F a 8) = 6)
    (hj9999c : F (F a 8) 99 = 0)
    (hk9999d : K (F a 15) = 26)
    (hj9999d : F (F a 15) 99 = 0)
    (hk9999e : K (F (F a 11) 0) = 21)
    (hj9999e : F (F (F a 11) 0) 99 = 100)
    (hk9999f : K (F (F a 11) 1) = 21)
    (hj9999f : F (F (F a 11) 1) 99 = 101)
    (hk9999g : K (F (F a 11) 2) = 24)
    (hj9999g : F (F (F a 11) 2) 99 = 4)
    (hk9999h : K (F (F a 9) 0) = 22)
    (hj9999i : F (F (F a 9) 0) 99 = 10 * 1 + 0)
    (hk9999i : K (F (F a 9) 1) = 22)
    (hj9999k : F (F (F a 9) 1) 99 = 10 * 1 + 1)
    (hk9999j : K (F (F a 9) 2) = 22)
    (hj9999m : F (F (F a 9) 2) 99 = 10 * 1 + 2)
    (hk9999k : K (F (F a 9) 3) = 22)
    (hj9999o : F (F (F a 9) 3) 99 = 10 * 1 + 3)
    (hk9999l : K (F (F a 9) 4) = 23)
    (hj9999q : F (F (F a 9) 4) 99 = 10 * 1 + 4)
    (hk9999m : K (F (F a 9) 5) = 23)
    (hj9999s : F (F (F a 9) 5) 99 = 10 * 1 + 5)
    (hk9999n : K (F a 3) = 8)
    (hj9999t : F (F a 3) 99 = 0)
    (hk9999o : K (F (F a 3) 0) = 20)
    (hj9999v : F (F (F a 3) 0) 99 = 0)
    (hk9999p : K (F (F a 3) 1) = 21)
    (hj9999y : F (F (F a 3) 1) 99 = 0)
    (hk9999q : K (F (F a 8) 0) = 22)
    (hj9999z26 : F (F (F a 8) 0) 99 = 10 * 0 + 0)
    (hk9999r : K (F (F a 8) 1) = 22)
    (hj9999z28 : F (F (F a 8) 1) 99 = 10 * 0 + 1)
    (hk9999s : K (F (F a 8) 2) = 22)
    (hj9999z30 : F (F (F a 8) 2) 99 = 10 * 0 + 2)
    (hk9999t : K (F (F a 8) 3) = 22)
    (hj9999z32 : F (F (F a 8) 3) 99 = 10 * 0 + 3)
    (hk9999u : K (F (F a 8) 4) = 23)
    (hj9999z34 : F (F (F a 8) 4) 99 = 10 * 0 + 4)
    (hk9999v : K (F (F a 8) 5) = 23)
    (hj9999z36 : F (F (F a 8) 5) 99 = 10 * 0 + 5)
    (hk9999w : K (F a 2) = 2)
    (hj9999z37 : F (F a 2) 99 = 0)
    (hk9999y : K (F (F a 2) 1) = 15)
    (hj9999z38 : F (F (F a 2) 1) 99 = 1)
    (hk9999z25 : K (F (F a 2) 0) = 15)
    (hj9999z39 : F (F (F a 2) 0) 99 = 0)
    (hk9999z26 : K (F a 4) = 8)
    (hj9999z40 : F (F a 4) 99 = 1)
    (hk9999z27 : K (F (F a 4) 0) = 20)
    (hj9999z42 : F (F (F a 4) 0) 99 = 1)
    (hk9999z28 : K (F (F a 4) 1) = 21)
    (hj9999z44 : F (F (F a 4) 1) 99 = 1)
    (hk9999z29 : K (F a 6) = 8)
    (hj9999z45 : F (F a 6) 99 = 3)
    (hk9999z30 : K (F (F a 6) 0) = 20)
    (hj9999z47 : F (F (F a 6) 0) 99 = 3)
    (hk9999z31 : K (F (F a 6) 1) = 21)
    (hj9999z49 : F (F (F a 6) 1) 99 = 3)
    (hk9999z32 : K (F a 7) = 16)
    (hj9999z50 : F (F a 7) 99 = 0)
    (hk19 : K q19 = 8)
    (f68 : F q19 99 = 4 + (p0.toInt).toNat)
    (hk30 : K (F q19 0) = 20)
    (hj30a : F (F q19 0) 99 = 4 + (p0.toInt).toNat)
    (hk30a : K (F q19 1) = 21)
    (hj30c : F (F q19 1) 99 = 4 + (p0.toInt).toNat)
    (hfr : XFr [(F a 14, 1), (F a 14, 2), (F a 14, 3), (a, 17), (F a 11, 3), (F a 9, 6), (F a 8, 6)] [F a 15, F (F a 11) 0, F (F a 11) 1, F (F a 11) 2, F (F a 9) 0, F (F a 9) 1, F (F a 9) 2, F (F a 9) 3, F (F a 9) 4, F (F a 9) 5, F (F a 3) 0, F (F a 3) 1, F (F a 8) 0, F (F a 8) 1, F (F a 8) 2, F (F a 8) 3, F (F a 8) 4, F (F a 8) 5] [] G G100)
    (bko : BKr K G (G.2.2.1 (F (F a 2) 1)))
    (hs19 : F q19 99 = 4 + (p0.toInt).toNat ∧ G4.2.2.1 (F a 7) (p0.toInt).toNat = some q19)
    (sb : 0 ≤ ((G.1 (F a 2) 2).toInt) ∧ ((G.1 (F a 2) 2).toInt) ≤ 12)
    (sw : 0 ≤ ((G.1 (F a 8) 6).toInt) ∧ ((G.1 (F a 8) 6).toInt) ≤ 1080)
    (t4 : ((G4.1 (F a 14) 1).toInt) = 0)
    (f96 : ((G.1 a 18).toInt) = 0 ∨ ((G.1 a 18).toInt) = 1)
    (c11 : ((G.1 a 18).toInt) ≠ 0)
    (ht19 : 0 ≤ p0.toInt ∧ p0.toInt < ((G.1 a 17).toInt) ∧ p0.toInt < 8)
    (t41 : 0 ≤ ((G41.1 (F a 9) 6).toInt) ∧ ((G41.1 (F a 9) 6).toInt) ≤ 1080)
    (t48 : x48.toInt = -1 ∨ (0 ≤ x48.toInt ∧ x48.toInt < ((G41.1 (F a 9) 6).toInt) ∧ (aI (G41.2.1 (F (F a 9) 5)) (x48.toInt)) = 1))
    (c54 : x48.toInt = (-1 : Int))
    (t80 : 0 ≤ ((G80.1 (F a 9) 6).toInt) ∧ ((G80.1 (F a 9) 6).toInt) ≤ 1080)
    (r_G100_F_F_a_2_1 : G100.2.2.1 (F (F a 2) 1) = G.2.2.1 (F (F a 2) 1))
    (r_G4_F_F_a_2_1 : G4.2.2.1 (F (F a 2) 1) = G.2.2.1 (F (F a 2) 1))
    (r_G41_F_F_a_2_1 : G41.2.2.1 (F (F a 2) 1) = G.2.2.1 (F (F a 2) 1)) :
    ∀ (i q : Nat), i < 12 → G100.2.2.1 (F (F a 2) 1) i = some q → RW (G100.1 q) := by
  have hd : ∀ p, p ∈ [(F a 14, 1), (F a 14, 2), (F a 14, 3), (a, 17), (F a 11, 3), (F a 9, 6), (F a 8, 6)] → K p.1 ≠ 9 := (List.forall_mem_cons.mpr ⟨(show K (F a 14) ≠ 9 by omega), List.forall_mem_cons.mpr ⟨(show K (F a 14) ≠ 9 by omega), List.forall_mem_cons.mpr ⟨(show K (F a 14) ≠ 9 by omega), List.forall_mem_cons.mpr ⟨(show K (a) ≠ 9 by omega), List.forall_mem_cons.mpr ⟨(show K (F a 11) ≠ 9 by omega), List.forall_mem_cons.mpr ⟨(show K (F a 9) ≠ 9 by omega), List.forall_mem_cons.mpr ⟨(show K (F a 8) ≠ 9 by omega), fun _ h => by cases h⟩⟩⟩⟩⟩⟩⟩)
  first
    | rw [r_G4_F_F_a_2_1]; exact (bko.fr hfr hd).rw
    | rw [r_G41_F_F_a_2_1]; exact (bko.fr hfr hd).rw
    | rw [r_G100_F_F_a_2_1]; exact (bko.fr hfr hd).rw
theorem v_X10_back_117_19 {K : Nat → Nat} {F : Nat → Nat → Nat} (a : Nat) (q19 : Nat) (p0 : Int32) (G : XG) (G100 : XG) (G4 : XG) (G41 : XG) (G80 : XG) (G85 : XG) (G93 : XG) (x99 : Int32) (x48 : Int32)
    (ha : K a = 12)
    (hk9999 : K (F a 14) = 11)
    (hj9999 : F (F a 14) 99 = 0)
    (hk9999a : K (F a 11) = 3)
    (hj9999a : F (F a 11) 99 = 0)
    (hk9999b : K (F a 9) = 6)
    (hj9999b : F (F a 9) 99 = 1)
    (hk9999c : K (F a 8) = 6)
    (hj9999c : F (F a 8) 99 = 0)
    (hk9999d : K (F a 15) = 26)
    (hj9999d : F (F a 15) 99 = 0)
    (hk9999e : K (F (F a 11) 0) = 21)
    (hj9999e : F (F (F a 11) 0) 99 = 100)
    (hk9999f : K (F (F a 11) 1) = 21)
    (hj9999f : F (F (F a 11) 1) 99 = 101)
    (hk9999g : K (F (F a 11) 2) = 24)
    (hj9999g : F (F (F a 11) 2) 99 = 4)
    (hk9999h : K (F (F a 9) 0) = 22)
    (hj9999i : F (F (F a 9) 0) 99 = 10 * 1 + 0)
    (hk9999i : K (F (F a 9) 1) = 22)
    (hj9999k : F (F (F a 9) 1) 99 = 10 * 1 + 1)
    (hk9999j : K (F (F a 9) 2) = 22)
    (hj9999m : F (F (F a 9) 2) 99 = 10 * 1 + 2)
    (hk9999k : K (F (F a 9) 3) = 22)
    (hj9999o : F (F (F a 9) 3) 99 = 10 * 1 + 3)
    (hk9999l : K (F (F a 9) 4) = 23)
    (hj9999q : F (F (F a 9) 4) 99 = 10 * 1 + 4)
    (hk9999m : K (F (F a 9) 5) = 23)
    (hj9999s : F (F (F a 9) 5) 99 = 10 * 1 + 5)
    (hk9999n : K (F a 3) = 8)
    (hj9999t : F (F a 3) 99 = 0)
    (hk9999o : K (F (F a 3) 0) = 20)
    (hj9999v : F (F (F a 3) 0) 99 = 0)
    (hk9999p : K (F (F a 3) 1) = 21)
    (hj9999y : F (F (F a 3) 1) 99 = 0)
    (hk9999q : K (F (F a 8) 0) = 22)
    (hj9999z26 : F (F (F a 8) 0) 99 = 10 * 0 + 0)
    (hk9999r : K (F (F a 8) 1) = 22)
    (hj9999z28 : F (F (F a 8) 1) 99 = 10 * 0 + 1)
    (hk9999s : K (F (F a 8) 2) = 22)
    (hj9999z30 : F (F (F a 8) 2) 99 = 10 * 0 + 2)
    (hk9999t : K (F (F a 8) 3) = 22)
    (hj9999z32 : F (F (F a 8) 3) 99 = 10 * 0 + 3)
    (hk9999u : K (F (F a 8) 4) = 23)
    (hj9999z34 : F (F (F a 8) 4) 99 = 10 * 0 + 4)
    (hk9999v : K (F (F a 8) 5) = 23)
    (hj9999z36 : F (F (F a 8) 5) 99 = 10 * 0 + 5)
    (hk9999w : K (F a 2) = 2)
    (hj9999z37 : F (F a 2) 99 = 0)
    (hk9999y : K (F (F a 2) 1) = 15)
    (hj9999z38 : F (F (F a 2) 1) 99 = 1)
    (hk9999z25 : K (F (F a 2) 0) = 15)
    (hj9999z39 : F (F (F a 2) 0) 99 = 0)
    (hk9999z26 : K (F a 4) = 8)
    (hj9999z40 : F (F a 4) 99 = 1)
    (hk9999z27 : K (F (F a 4) 0) = 20)
    (hj9999z42 : F (F (F a 4) 0) 99 = 1)
    (hk9999z28 : K (F (F a 4) 1) = 21)
    (hj9999z44 : F (F (F a 4) 1) 99 = 1)
    (hk9999z29 : K (F a 6) = 8)
    (hj9999z45 : F (F a 6) 99 = 3)
    (hk9999z30 : K (F (F a 6) 0) = 20)
    (hj9999z47 : F (F (F a 6) 0) 99 = 3)
    (hk9999z31 : K (F (F a 6) 1) = 21)
    (hj9999z49 : F (F (F a 6) 1) 99 = 3)
    (hk9999z32 : K (F a 7) = 16)
    (hj9999z50 : F (F a 7) 99 = 0)
    (hk19 : K q19 = 8)
    (f68 : F q19 99 = 4 + (p0.toInt).toNat)
    (hk30 : K (F q19 0) = 20)
    (hj30a : F (F q19 0) 99 = 4 + (p0.toInt).toNat)
    (hk30a : K (F q19 1) = 21)
    (hj30c : F (F q19 1) 99 = 4 + (p0.toInt).toNat)
    (hfr : XFr [(F a 14, 1), (F a 14, 2), (F a 14, 3), (a, 17), (F a 11, 3), (F a 9, 6), (F a 8, 6)] [F a 15, F (F a 11) 0, F (F a 11) 1, F (F a 11) 2, F (F a 9) 0, F (F a 9) 1, F (F a 9) 2, F (F a 9) 3, F (F a 9) 4, F (F a 9) 5, F (F a 3) 0, F (F a 3) 1, F (F a 8) 0, F (F a 8) 1, F (F a 8) 2, F (F a 8) 3, F (F a 8) 4, F (F a 8) 5] [] G G100)
    (hF4 : XFr [(F a 14, 1)] [] [] G G4)
    (hF41 : XFr [(F a 11, 3), (F a 9, 6)] [F (F a 11) 0, F (F a 11) 1, F (F a 11) 2, F (F a 9) 0, F (F a 9) 1, F (F a 9) 2, F (F a 9) 3, F (F a 9) 4, F (F a 9) 5] [] G4 G41)
    (hF80 : XFr [(F a 11, 3), (F a 9, 6)] [F (F a 11) 0, F (F a 11) 1, F (F a 11) 2, F (F a 9) 0, F (F a 9) 1, F (F a 9) 2, F (F a 9) 3, F (F a 9) 4, F (F a 9) 5] [] G41 G80)
    (hF85 : XFr [] [F a 15] [] G80 G85)
    (hF93 : XFr [] [F (F a 3) 0, F (F a 3) 1] [] G85 G93)
    (hG100 : G100 = dput G93 a 17 x99)
    (ron : RO (vw (G.2.1 (F (F a 3) 0))) (aI (G.2.1 (F (F a 3) 1))))
    (rob : RO (vw (G.2.1 (F (F a 4) 0))) (aI (G.2.1 (F (F a 4) 1))))
    (ro0 : RO (vw (G.2.1 (F (F a 6) 0))) (aI (G.2.1 (F (F a 6) 1))))
    (bko : BKr K G (G.2.2.1 (F (F a 2) 1)))
    (bkn : BKr K G (G.2.2.1 (F (F a 2) 0)))
    (rok : ∀ (i q : Nat), i < 8 → G.2.2.1 (F a 7) i = some q → RO (vw (G.2.1 (F q 0))) (aI (G.2.1 (F q 1))))
    (hs19 : F q19 99 = 4 + (p0.toInt).toNat ∧ G4.2.2.1 (F a 7) (p0.toInt).toNat = some q19)
    (oq41 : qL G41 F (F a 9) = gaL G4 (G4.2.2.1 (F (F a 2) 1)) (vw (G.2.1 (F (F a 6) 0))) (vw (G.2.1 (F q19 0))) (2 : Int) (((G.1 (F a 2) 2).toInt)).toNat)
    (oq48 : ∀ j : Int, 0 ≤ j → j < ((G41.1 (F a 9) 6).toInt) → (x48.toInt = -1 ∨ j < x48.toInt) → aI (G41.2.1 (F (F a 9) 5)) j = 0)
    (oq80 : qL G80 F (F a 9) = gaL G41 (G41.2.2.1 (F (F a 2) 1)) (vw (G.2.1 (F (F a 3) 0))) (vw (G.2.1 (F q19 0))) (1 : Int) (((G.1 (F a 2) 2).toInt)).toNat)
    (oq93 : (vw (G93.2.1 (F (F a 3) 0))) = (vw (G.2.1 (F q19 0))))
    (oq93a : RO (vw (G93.2.1 (F (F a 3) 0))) (aI (G93.2.1 (F (F a 3) 1))))
    (e99 : x99.toInt = (p0.toInt + (1 : Int)))
    (sb : 0 ≤ ((G.1 (F a 2) 2).toInt) ∧ ((G.1 (F a 2) 2).toInt) ≤ 12)
    (sw : 0 ≤ ((G.1 (F a 8) 6).toInt) ∧ ((G.1 (F a 8) 6).toInt) ≤ 1080)
    (t4 : ((G4.1 (F a 14) 1).toInt) = 0)
    (f96 : ((G.1 a 18).toInt) = 0 ∨ ((G.1 a 18).toInt) = 1)
    (c11 : ((G.1 a 18).toInt) ≠ 0)
    (ht19 : 0 ≤ p0.toInt ∧ p0.toInt < ((G.1 a 17).toInt) ∧ p0.toInt < 8)
    (t41 : 0 ≤ ((G41.1 (F a 9) 6).toInt) ∧ ((G41.1 (F a 9) 6).toInt) ≤ 1080)
    (t48 : x48.toInt = -1 ∨ (0 ≤ x48.toInt ∧ x48.toInt < ((G41.1 (F a 9) 6).toInt) ∧ (aI (G41.2.1 (F (F a 9) 5)) (x48.toInt)) = 1))
    (c54 : x48.toInt = (-1 : Int))
    (t80 : 0 ≤ ((G80.1 (F a 9) 6).toInt) ∧ ((G80.1 (F a 9) 6).toInt) ≤ 1080)
    (c_G100_F_F_a_11_0 : G100.2.1 (F (F a 11) 0) = G80.2.1 (F (F a 11) 0))
    (c_G100_F_F_a_11_1 : G100.2.1 (F (F a 11) 1) = G80.2.1 (F (F a 11) 1))
    (c_G100_F_F_a_11_2 : G100.2.1 (F (F a 11) 2) = G80.2.1 (F (F a 11) 2))
    (c_G100_F_F_a_3_0 : G100.2.1 (F (F a 3) 0) = G93.2.1 (F (F a 3) 0))
    (c_G100_F_F_a_3_1 : G100.2.1 (F (F a 3) 1) = G93.2.1 (F (F a 3) 1))
    (c_G100_F_F_a_8_0 : G100.2.1 (F (F a 8) 0) = G.2.1 (F (F a 8) 0))
    (c_G100_F_F_a_8_1 : G100.2.1 (F (F a 8) 1) = G.2.1 (F (F a 8) 1))
    (c_G100_F_F_a_8_2 : G100.2.1 (F (F a 8) 2) = G.2.1 (F (F a 8) 2))
    (c_G100_F_F_a_8_3 : G100.2.1 (F (F a 8) 3) = G.2.1 (F (F a 8) 3))
    (c_G100_F_F_a_8_4 : G100.2.1 (F (F a 8) 4) = G.2.1 (F (F a 8) 4))
    (c_G100_F_F_a_8_5 : G100.2.1 (F (F a 8) 5) = G.2.1 (F (F a 8) 5))
    (c_G100_F_F_a_9_0 : G100.2.1 (F (F a 9) 0) = G80.2.1 (F (F a 9) 0))
    (c_G100_F_F_a_9_1 : G100.2.1 (F (F a 9) 1) = G80.2.1 (F (F a 9) 1))
    (c_G100_F_F_a_9_2 : G100.2.1 (F (F a 9) 2) = G80.2.1 (F (F a 9) 2))
    (c_G100_F_F_a_9_3 : G100.2.1 (F (F a 9) 3) = G80.2.1 (F (F a 9) 3))
    (c_G100_F_F_a_9_4 : G100.2.1 (F (F a 9) 4) = G80.2.1 (F (F a 9) 4))
    (c_G100_F_F_a_9_5 : G100.2.1 (F (F a 9) 5) = G80.2.1 (F (F a 9) 5))
    (c_G100_F_a_15 : G100.2.1 (F a 15) = G85.2.1 (F a 15))
    (c_G4_F_q19_0 : G4.2.1 (F q19 0) = G.2.1 (F q19 0))
    (c_G4_F_q19_1 : G4.2.1 (F q19 1) = G.2.1 (F q19 1))
    (r_G100_F_F_a_2_1 : G100.2.2.1 (F (F a 2) 1) = G.2.2.1 (F (F a 2) 1))
    (r_G4_F_F_a_2_1 : G4.2.2.1 (F (F a 2) 1) = G.2.2.1 (F (F a 2) 1))
    (r_G4_F_a_7 : G4.2.2.1 (F a 7) = G.2.2.1 (F a 7))
    (r_G41_F_F_a_2_1 : G41.2.2.1 (F (F a 2) 1) = G.2.2.1 (F (F a 2) 1))
    (d_G100_F_a_11_3 : G100.1 (F a 11) 3 = G80.1 (F a 11) 3)
    (d_G100_F_a_14_1 : G100.1 (F a 14) 1 = G4.1 (F a 14) 1)
    (d_G100_F_a_14_2 : G100.1 (F a 14) 2 = G.1 (F a 14) 2)
    (d_G100_F_a_14_3 : G100.1 (F a 14) 3 = G.1 (F a 14) 3)
    (d_G100_F_a_8_6 : G100.1 (F a 8) 6 = G.1 (F a 8) 6)
    (d_G100_F_a_9_6 : G100.1 (F a 9) 6 = G80.1 (F a 9) 6)
    (d_G100_a_17 : G100.1 a 17 = x99) :
    F (F a 4) 99 < 12 := by
  first | assumption | omega
theorem v_X10_back_117_20 {K : Nat → Nat} {F : Nat → Nat → Nat} (a : Nat) (q19 : Nat) (p0 : Int32) (G : XG) (G100 : XG) (G4 : XG) (G41 : XG) (G80 : XG) (G85 : XG) (G93 : XG) (x99 : Int32) (x48 : Int32)
    (ha : K a = 12)
    (hk9999 : K (F a 14) = 11)
    (hj9999 : F (F a 14) 99 = 0)
    (hk9999a : K (F a 11) = 3)
    (hj9999a : F (F a 11) 99 = 0)
    (hk9999b : K (F a 9) = 6)
    (hj9999b : F (F a 9) 99 = 1)
    (hk9999c : K (F a 8) = 6)
    (hj9999c : F (F a 8) 99 = 0)
    (hk9999d : K (F a 15) = 26)
    (hj9999d : F (F a 15) 99 = 0)
    (hk9999e : K (F (F a 11) 0) = 21)
    (hj9999e : F (F (F a 11) 0) 99 = 100)
    (hk9999f : K (F (F a 11) 1) = 21)
    (hj9999f : F (F (F a 11) 1) 99 = 101)
    (hk9999g : K (F (F a 11) 2) = 24)
    (hj9999g : F (F (F a 11) 2) 99 = 4)
    (hk9999h : K (F (F a 9) 0) = 22)
    (hj9999i : F (F (F a 9) 0) 99 = 10 * 1 + 0)
    (hk9999i : K (F (F a 9) 1) = 22)
    (hj9999k : F (F (F a 9) 1) 99 = 10 * 1 + 1)
    (hk9999j : K (F (F a 9) 2) = 22)
    (hj9999m : F (F (F a 9) 2) 99 = 10 * 1 + 2)
    (hk9999k : K (F (F a 9) 3) = 22)
    (hj9999o : F (F (F a 9) 3) 99 = 10 * 1 + 3)
    (hk9999l : K (F (F a 9) 4) = 23)
    (hj9999q : F (F (F a 9) 4) 99 = 10 * 1 + 4)
    (hk9999m : K (F (F a 9) 5) = 23)
    (hj9999s : F (F (F a 9) 5) 99 = 10 * 1 + 5)
    (hk9999n : K (F a 3) = 8)
    (hj9999t : F (F a 3) 99 = 0)
    (hk9999o : K (F (F a 3) 0) = 20)
    (hj9999v : F (F (F a 3) 0) 99 = 0)
    (hk9999p : K (F (F a 3) 1) = 21)
    (hj9999y : F (F (F a 3) 1) 99 = 0)
    (hk9999q : K (F (F a 8) 0) = 22)
    (hj9999z26 : F (F (F a 8) 0) 99 = 10 * 0 + 0)
    (hk9999r : K (F (F a 8) 1) = 22)
    (hj9999z28 : F (F (F a 8) 1) 99 = 10 * 0 + 1)
    (hk9999s : K (F (F a 8) 2) = 22)
    (hj9999z30 : F (F (F a 8) 2) 99 = 10 * 0 + 2)
    (hk9999t : K (F (F a 8) 3) = 22)
    (hj9999z32 : F (F (F a 8) 3) 99 = 10 * 0 + 3)
    (hk9999u : K (F (F a 8) 4) = 23)
    (hj9999z34 : F (F (F a 8) 4) 99 = 10 * 0 + 4)
    (hk9999v : K (F (F a 8) 5) = 23)
    (hj9999z36 : F (F (F a 8) 5) 99 = 10 * 0 + 5)
    (hk9999w : K (F a 2) = 2)
    (hj9999z37 : F (F a 2) 99 = 0)
    (hk9999y : K (F (F a 2) 1) = 15)
    (hj9999z38 : F (F (F a 2) 1) 99 = 1)
    (hk9999z25 : K (F (F a 2) 0) = 15)
    (hj9999z39 : F (F (F a 2) 0) 99 = 0)
    (hk9999z26 : K (F a 4) = 8)
    (hj9999z40 : F (F a 4) 99 = 1)
    (hk9999z27 : K (F (F a 4) 0) = 20)
    (hj9999z42 : F (F (F a 4) 0) 99 = 1)
    (hk9999z28 : K (F (F a 4) 1) = 21)
    (hj9999z44 : F (F (F a 4) 1) 99 = 1)
    (hk9999z29 : K (F a 6) = 8)
    (hj9999z45 : F (F a 6) 99 = 3)
    (hk9999z30 : K (F (F a 6) 0) = 20)
    (hj9999z47 : F (F (F a 6) 0) 99 = 3)
    (hk9999z31 : K (F (F a 6) 1) = 21)
    (hj9999z49 : F (F (F a 6) 1) 99 = 3)
    (hk9999z32 : K (F a 7) = 16)
    (hj9999z50 : F (F a 7) 99 = 0)
    (hk19 : K q19 = 8)
    (f68 : F q19 99 = 4 + (p0.toInt).toNat)
    (hk30 : K (F q19 0) = 20)
    (hj30a : F (F q19 0) 99 = 4 + (p0.toInt).toNat)
    (hk30a : K (F q19 1) = 21)
    (hj30c : F (F q19 1) 99 = 4 + (p0.toInt).toNat)
    (hfr : XFr [(F a 14, 1), (F a 14, 2), (F a 14, 3), (a, 17), (F a 11, 3), (F a 9, 6), (F a 8, 6)] [F a 15, F (F a 11) 0, F (F a 11) 1, F (F a 11) 2, F (F a 9) 0, F (F a 9) 1, F (F a 9) 2, F (F a 9) 3, F (F a 9) 4, F (F a 9) 5, F (F a 3) 0, F (F a 3) 1, F (F a 8) 0, F (F a 8) 1, F (F a 8) 2, F (F a 8) 3, F (F a 8) 4, F (F a 8) 5] [] G G100)
    (hF4 : XFr [(F a 14, 1)] [] [] G G4)
    (hF41 : XFr [(F a 11, 3), (F a 9, 6)] [F (F a 11) 0, F (F a 11) 1, F (F a 11) 2, F (F a 9) 0, F (F a 9) 1, F (F a 9) 2, F (F a 9) 3, F (F a 9) 4, F (F a 9) 5] [] G4 G41)
    (hF80 : XFr [(F a 11, 3), (F a 9, 6)] [F (F a 11) 0, F (F a 11) 1, F (F a 11) 2, F (F a 9) 0, F (F a 9) 1, F (F a 9) 2, F (F a 9) 3, F (F a 9) 4, F (F a 9) 5] [] G41 G80)
    (hF85 : XFr [] [F a 15] [] G80 G85)
    (hF93 : XFr [] [F (F a 3) 0, F (F a 3) 1] [] G85 G93)
    (hG100 : G100 = dput G93 a 17 x99)
    (ron : RO (vw (G.2.1 (F (F a 3) 0))) (aI (G.2.1 (F (F a 3) 1))))
    (rob : RO (vw (G.2.1 (F (F a 4) 0))) (aI (G.2.1 (F (F a 4) 1))))
    (ro0 : RO (vw (G.2.1 (F (F a 6) 0))) (aI (G.2.1 (F (F a 6) 1))))
    (bko : BKr K G (G.2.2.1 (F (F a 2) 1)))
    (bkn : BKr K G (G.2.2.1 (F (F a 2) 0)))
    (rok : ∀ (i q : Nat), i < 8 → G.2.2.1 (F a 7) i = some q → RO (vw (G.2.1 (F q 0))) (aI (G.2.1 (F q 1))))
    (hs19 : F q19 99 = 4 + (p0.toInt).toNat ∧ G4.2.2.1 (F a 7) (p0.toInt).toNat = some q19)
    (oq41 : qL G41 F (F a 9) = gaL G4 (G4.2.2.1 (F (F a 2) 1)) (vw (G.2.1 (F (F a 6) 0))) (vw (G.2.1 (F q19 0))) (2 : Int) (((G.1 (F a 2) 2).toInt)).toNat)
    (oq48 : ∀ j : Int, 0 ≤ j → j < ((G41.1 (F a 9) 6).toInt) → (x48.toInt = -1 ∨ j < x48.toInt) → aI (G41.2.1 (F (F a 9) 5)) j = 0)
    (oq80 : qL G80 F (F a 9) = gaL G41 (G41.2.2.1 (F (F a 2) 1)) (vw (G.2.1 (F (F a 3) 0))) (vw (G.2.1 (F q19 0))) (1 : Int) (((G.1 (F a 2) 2).toInt)).toNat)
    (oq93 : (vw (G93.2.1 (F (F a 3) 0))) = (vw (G.2.1 (F q19 0))))
    (oq93a : RO (vw (G93.2.1 (F (F a 3) 0))) (aI (G93.2.1 (F (F a 3) 1))))
    (e99 : x99.toInt = (p0.toInt + (1 : Int)))
    (sb : 0 ≤ ((G.1 (F a 2) 2).toInt) ∧ ((G.1 (F a 2) 2).toInt) ≤ 12)
    (sw : 0 ≤ ((G.1 (F a 8) 6).toInt) ∧ ((G.1 (F a 8) 6).toInt) ≤ 1080)
    (t4 : ((G4.1 (F a 14) 1).toInt) = 0)
    (f96 : ((G.1 a 18).toInt) = 0 ∨ ((G.1 a 18).toInt) = 1)
    (c11 : ((G.1 a 18).toInt) ≠ 0)
    (ht19 : 0 ≤ p0.toInt ∧ p0.toInt < ((G.1 a 17).toInt) ∧ p0.toInt < 8)
    (t41 : 0 ≤ ((G41.1 (F a 9) 6).toInt) ∧ ((G41.1 (F a 9) 6).toInt) ≤ 1080)
    (t48 : x48.toInt = -1 ∨ (0 ≤ x48.toInt ∧ x48.toInt < ((G41.1 (F a 9) 6).toInt) ∧ (aI (G41.2.1 (F (F a 9) 5)) (x48.toInt)) = 1))
    (c54 : x48.toInt = (-1 : Int))
    (t80 : 0 ≤ ((G80.1 (F a 9) 6).toInt) ∧ ((G80.1 (F a 9) 6).toInt) ≤ 1080)
    (c_G100_F_F_a_11_0 : G100.2.1 (F (F a 11) 0) = G80.2.1 (F (F a 11) 0))
    (c_G100_F_F_a_11_1 : G100.2.1 (F (F a 11) 1) = G80.2.1 (F (F a 11) 1))
    (c_G100_F_F_a_11_2 : G100.2.1 (F (F a 11) 2) = G80.2.1 (F (F a 11) 2))
    (c_G100_F_F_a_3_0 : G100.2.1 (F (F a 3) 0) = G93.2.1 (F (F a 3) 0))
    (c_G100_F_F_a_3_1 : G100.2.1 (F (F a 3) 1) = G93.2.1 (F (F a 3) 1))
    (c_G100_F_F_a_8_0 : G100.2.1 (F (F a 8) 0) = G.2.1 (F (F a 8) 0))
    (c_G100_F_F_a_8_1 : G100.2.1 (F (F a 8) 1) = G.2.1 (F (F a 8) 1))
    (c_G100_F_F_a_8_2 : G100.2.1 (F (F a 8) 2) = G.2.1 (F (F a 8) 2))
    (c_G100_F_F_a_8_3 : G100.2.1 (F (F a 8) 3) = G.2.1 (F (F a 8) 3))
    (c_G100_F_F_a_8_4 : G100.2.1 (F (F a 8) 4) = G.2.1 (F (F a 8) 4))
    (c_G100_F_F_a_8_5 : G100.2.1 (F (F a 8) 5) = G.2.1 (F (F a 8) 5))
    (c_G100_F_F_a_9_0 : G100.2.1 (F (F a 9) 0) = G80.2.1 (F (F a 9) 0))
    (c_G100_F_F_a_9_1 : G100.2.1 (F (F a 9) 1) = G80.2.1 (F (F a 9) 1))
    (c_G100_F_F_a_9_2 : G100.2.1 (F (F a 9) 2) = G80.2.1 (F (F a 9) 2))
    (c_G100_F_F_a_9_3 : G100.2.1 (F (F a 9) 3) = G80.2.1 (F (F a 9) 3))
    (c_G100_F_F_a_9_4 : G100.2.1 (F (F a 9) 4) = G80.2.1 (F (F a 9) 4))
    (c_G100_F_F_a_9_5 : G100.2.1 (F (F a 9) 5) = G80.2.1 (F (F a 9) 5))
    (c_G100_F_a_15 : G100.2.1 (F a 15) = G85.2.1 (F a 15))
    (c_G4_F_q19_0 : G4.2.1 (F q19 0) = G.2.1 (F q19 0))
    (c_G4_F_q19_1 : G4.2.1 (F q19 1) = G.2.1 (F q19 1))
    (r_G100_F_F_a_2_1 : G100.2.2.1 (F (F a 2) 1) = G.2.2.1 (F (F a 2) 1))
    (r_G4_F_F_a_2_1 : G4.2.2.1 (F (F a 2) 1) = G.2.2.1 (F (F a 2) 1))
    (r_G4_F_a_7 : G4.2.2.1 (F a 7) = G.2.2.1 (F a 7))
    (r_G41_F_F_a_2_1 : G41.2.2.1 (F (F a 2) 1) = G.2.2.1 (F (F a 2) 1))
    (d_G100_F_a_11_3 : G100.1 (F a 11) 3 = G80.1 (F a 11) 3)
    (d_G100_F_a_14_1 : G100.1 (F a 14) 1 = G4.1 (F a 14) 1)
    (d_G100_F_a_14_2 : G100.1 (F a 14) 2 = G.1 (F a 14) 2)
    (d_G100_F_a_14_3 : G100.1 (F a 14) 3 = G.1 (F a 14) 3)
    (d_G100_F_a_8_6 : G100.1 (F a 8) 6 = G.1 (F a 8) 6)
    (d_G100_F_a_9_6 : G100.1 (F a 9) 6 = G80.1 (F a 9) 6)
    (d_G100_a_17 : G100.1 a 17 = x99) :
    F (F a 3) 99 < 12 := by
  first | assumption | omega
theorem v_X10_back_127_21 {K : Nat → Nat} {F : Nat → Nat → Nat} (a : Nat) (q19 : Nat) (p0 : Int32) (G : XG) (G117 : XG) (G4 : XG) (G41 : XG) (G80 : XG) (G93 : XG) (G100 : XG) (x99 : Int32) (x48 : Int32)
    (ha : K a = 12)
    (hk9999 : K (F a 14) = 11)
    (hj9999 : F (F a 14) 99 = 0)
    (hk9999a : K (F a 11) = 3)
    (hj9999a : F (F a 11) 99 = 0)
    (hk9999b : K (F a 9) = 6)
    (hj9999b : F (F a 9) 99 = 1)
    (hk9999c : K (F a 8) = 6)
    (hj9999c : F (F a 8) 99 = 0)
    (hk9999d : K (F a 15) = 26)
    (hj9999d : F (F a 15) 99 = 0)
    (hk9999e : K (F (F a 11) 0) = 21)
    (hj9999e : F (F (F a 11) 0) 99 = 100)
    (hk9999f : K (F (F a 11) 1) = 21)
    (hj9999f : F (F (F a 11) 1) 99 = 101)
    (hk9999g : K (F (F a 11) 2) = 24)
    (hj9999g : F (F (F a 11) 2) 99 = 4)
    (hk9999h : K (F (F a 9) 0) = 22)
    (hj9999i : F (F (F a 9) 0) 99 = 10 * 1 + 0)
    (hk9999i : K (F (F a 9) 1) = 22)
    (hj9999k : F (F (F a 9) 1) 99 = 10 * 1 + 1)
    (hk9999j : K (F (F a 9) 2) = 22)
    (hj9999m : F (F (F a 9) 2) 99 = 10 * 1 + 2)
    (hk9999k : K (F (F a 9) 3) = 22)
    (hj9999o : F (F (F a 9) 3) 99 = 10 * 1 + 3)
    (hk9999l : K (F (F a 9) 4) = 23)
    (hj9999q : F (F (F a 9) 4) 99 = 10 * 1 + 4)
    (hk9999m : K (F (F a 9) 5) = 23)
    (hj9999s : F (F (F a 9) 5) 99 = 10 * 1 + 5)
    (hk9999n : K (F a 3) = 8)
    (hj9999t : F (F a 3) 99 = 0)
    (hk9999o : K (F (F a 3) 0) = 20)
    (hj9999v : F (F (F a 3) 0) 99 = 0)
    (hk9999p : K (F (F a 3) 1) = 21)
    (hj9999y : F (F (F a 3) 1) 99 = 0)
    (hk9999q : K (F (F a 8) 0) = 22)
    (hj9999z26 : F (F (F a 8) 0) 99 = 10 * 0 + 0)
    (hk9999r : K (F (F a 8) 1) = 22)
    (hj9999z28 : F (F (F a 8) 1) 99 = 10 * 0 + 1)
    (hk9999s : K (F (F a 8) 2) = 22)
    (hj9999z30 : F (F (F a 8) 2) 99 = 10 * 0 + 2)
    (hk9999t : K (F (F a 8) 3) = 22)
    (hj9999z32 : F (F (F a 8) 3) 99 = 10 * 0 + 3)
    (hk9999u : K (F (F a 8) 4) = 23)
    (hj9999z34 : F (F (F a 8) 4) 99 = 10 * 0 + 4)
    (hk9999v : K (F (F a 8) 5) = 23)
    (hj9999z36 : F (F (F a 8) 5) 99 = 10 * 0 + 5)
    (hk9999w : K (F a 2) = 2)
    (hj9999z37 : F (F a 2) 99 = 0)
    (hk9999y : K (F (F a 2) 1) = 15)
    (hj9999z38 : F (F (F a 2) 1) 99 = 1)
    (hk9999z25 : K (F (F a 2) 0) = 15)
    (hj9999z39 : F (F (F a 2) 0) 99 = 0)
    (hk9999z26 : K (F a 4) = 8)
    (hj9999z40 : F (F a 4) 99 = 1)
    (hk9999z27 : K (F (F a 4) 0) = 20)
    (hj9999z42 : F (F (F a 4) 0) 99 = 1)
    (hk9999z28 : K (F (F a 4) 1) = 21)
    (hj9999z44 : F (F (F a 4) 1) 99 = 1)
    (hk9999z29 : K (F a 6) = 8)
    (hj9999z45 : F (F a 6) 99 = 3)
    (hk9999z30 : K (F (F a 6) 0) = 20)
    (hj9999z47 : F (F (F a 6) 0) 99 = 3)
    (hk9999z31 : K (F (F a 6) 1) = 21)
    (hj9999z49 : F (F (F a 6) 1) 99 = 3)
    (hk9999z32 : K (F a 7) = 16)
    (hj9999z50 : F (F a 7) 99 = 0)
    (hk19 : K q19 = 8)
    (f68 : F q19 99 = 4 + (p0.toInt).toNat)
    (hk30 : K (F q19 0) = 20)
    (hj30a : F (F q19 0) 99 = 4 + (p0.toInt).toNat)
    (hk30a : K (F q19 1) = 21)
    (hj30c : F (F q19 1) 99 = 4 + (p0.toInt).toNat)
    (hfr : XFr [(F a 14, 1), (F a 14, 2), (F a 14, 3), (a, 17), (F a 11, 3), (F a 9, 6), (F a 8, 6)] [F a 15, F (F a 11) 0, F (F a 11) 1, F (F a 11) 2, F (F a 9) 0, F (F a 9) 1, F (F a 9) 2, F (F a 9) 3, F (F a 9) 4, F (F a 9) 5, F (F a 3) 0, F (F a 3) 1, F (F a 8) 0, F (F a 8) 1, F (F a 8) 2, F (F a 8) 3, F (F a 8) 4, F (F a 8) 5] [] G G117)
    (hF4 : XFr [(F a 14, 1)] [] [] G G4)
    (hF117 : XFr [(F a 11, 3), (F a 8, 6)] [F (F a 11) 0, F (F a 11) 1, F (F a 11) 2, F (F a 8) 0, F (F a 8) 1, F (F a 8) 2, F (F a 8) 3, F (F a 8) 4, F (F a 8) 5] [] G100 G117)
    (bko : BKr K G (G.2.2.1 (F (F a 2) 1)))
    (hs19 : F q19 99 = 4 + (p0.toInt).toNat ∧ G4.2.2.1 (F a 7) (p0.toInt).toNat = some q19)
    (oq41 : qL G41 F (F a 9) = gaL G4 (G4.2.2.1 (F (F a 2) 1)) (vw (G.2.1 (F (F a 6) 0))) (vw (G.2.1 (F q19 0))) (2 : Int) (((G.1 (F a 2) 2).toInt)).toNat)
    (oq48 : ∀ j : Int, 0 ≤ j → j < ((G41.1 (F a 9) 6).toInt) → (x48.toInt = -1 ∨ j < x48.toInt) → aI (G41.2.1 (F (F a 9) 5)) j = 0)
    (oq93 : (vw (G93.2.1 (F (F a 3) 0))) = (vw (G.2.1 (F q19 0))))
    (e99 : x99.toInt = (p0.toInt + (1 : Int)))
    (oq117 : qL G117 F (F a 8) = gaL G100 (G100.2.2.1 (F (F a 2) 1)) (vw (G.2.1 (F (F a 4) 0))) (vw (G93.2.1 (F (F a 3) 0))) (1 : Int) (((G.1 (F a 2) 2).toInt)).toNat)
    (sb : 0 ≤ ((G.1 (F a 2) 2).toInt) ∧ ((G.1 (F a 2) 2).toInt) ≤ 12)
    (sw : 0 ≤ ((G.1 (F a 8) 6).toInt) ∧ ((G.1 (F a 8) 6).toInt) ≤ 1080)
    (t4 : ((G4.1 (F a 14) 1).toInt) = 0)
    (f99 : ((G.1 a 18).toInt) = 0 ∨ ((G.1 a 18).toInt) = 1)
    (c11 : ((G.1 a 18).toInt) ≠ 0)
    (ht19 : 0 ≤ p0.toInt ∧ p0.toInt < ((G.1 a 17).toInt) ∧ p0.toInt < 8)
    (t41 : 0 ≤ ((G41.1 (F a 9) 6).toInt) ∧ ((G41.1 (F a 9) 6).toInt) ≤ 1080)
    (t48 : x48.toInt = -1 ∨ (0 ≤ x48.toInt ∧ x48.toInt < ((G41.1 (F a 9) 6).toInt) ∧ (aI (G41.2.1 (F (F a 9) 5)) (x48.toInt)) = 1))
    (c54 : x48.toInt = (-1 : Int))
    (t80 : 0 ≤ ((G80.1 (F a 9) 6).toInt) ∧ ((G80.1 (F a 9) 6).toInt) ≤ 1080)
    (t117 : 0 ≤ ((G117.1 (F a 8) 6).toInt) ∧ ((G117.1 (F a 8) 6).toInt) ≤ 1080)
    (c_G117_F_F_a_3_0 : G117.2.1 (F (F a 3) 0) = G93.2.1 (F (F a 3) 0))
    (r_G100_F_F_a_2_1 : G100.2.2.1 (F (F a 2) 1) = G.2.2.1 (F (F a 2) 1))
    (r_G4_F_F_a_2_1 : G4.2.2.1 (F (F a 2) 1) = G.2.2.1 (F (F a 2) 1))
    (r_G4_F_a_7 : G4.2.2.1 (F a 7) = G.2.2.1 (F a 7))
    (d_G117_a_17 : G117.1 a 17 = x99) :
    (((G.1 a 18).toInt) = 0 ∧ ((G117.1 (F a 8) 6).toInt) = -3 ∧ ((vw (G117.2.1 (F (F a 3) 0))) = (vw (G.2.1 (F (F a 3) 0))) ∧ qL G117 F (F a 8) = qL G F (F a 8)) ∧ ((G117.1 a 17).toInt) = ((G.1 a 17).toInt)) ∨ (((G.1 a 18).toInt) ≠ 0 ∧ (p0.toInt < 0 ∨ ((G.1 a 17).toInt) ≤ p0.toInt ∨ 8 ≤ p0.toInt) ∧ ((G117.1 (F a 8) 6).toInt) = -2 ∧ ((vw (G117.2.1 (F (F a 3) 0))) = (vw (G.2.1 (F (F a 3) 0))) ∧ qL G117 F (F a 8) = qL G F (F a 8)) ∧ ((G117.1 a 17).toInt) = ((G.1 a 17).toInt)) ∨ (((G.1 a 18).toInt) ≠ 0 ∧ (0 ≤ p0.toInt ∧ p0.toInt < ((G.1 a 17).toInt) ∧ p0.toInt < 8) ∧ ∃ q : Nat, G.2.2.1 (F a 7) (p0.toInt).toNat = some q ∧ ((ffL (gaL G (G.2.2.1 (F (F a 2) 1)) (vw (G.2.1 (F (F a 6) 0))) (vw (G.2.1 (F q 0))) 2 (((G.1 (F a 2) 2).toInt)).toNat) ≠ -1 ∧ ((G117.1 (F a 8) 6).toInt) = -5 ∧ ((vw (G117.2.1 (F (F a 3) 0))) = (vw (G.2.1 (F (F a 3) 0))) ∧ qL G117 F (F a 8) = qL G F (F a 8)) ∧ ((G117.1 a 17).toInt) = ((G.1 a 17).toInt)) ∨ (ffL (gaL G (G.2.2.1 (F (F a 2) 1)) (vw (G.2.1 (F (F a 6) 0))) (vw (G.2.1 (F q 0))) 2 (((G.1 (F a 2) 2).toInt)).toNat) = -1 ∧ (vw (G117.2.1 (F (F a 3) 0))) = (vw (G.2.1 (F q 0))) ∧ ((G117.1 a 17).toInt) = p0.toInt + 1 ∧ ((G117.1 (F a 8) 6).toInt) = ((G117.1 (F a 8) 6).toInt) ∧ qL G117 F (F a 8) = (gaL G (G.2.2.1 (F (F a 2) 1)) (vw (G.2.1 (F (F a 4) 0))) (vw (G.2.1 (F q 0))) 1 (((G.1 (F a 2) 2).toInt)).toNat)))) := by
  have hq7 : G.2.2.1 (F a 7) (p0.toInt).toNat = some q19 := by rw [← r_G4_F_a_7]; exact hs19.2
  have hd1 : ∀ p, p ∈ [(F a 14, 1)] → K p.1 ≠ 9 := (List.forall_mem_cons.mpr ⟨(show K (F a 14) ≠ 9 by omega), fun _ h => by cases h⟩)
  have hc : ∀ (i q : Nat), i < ((G.1 (F a 2) 2).toInt).toNat → G.2.2.1 (F (F a 2) 1) i = some q → G4.1 q = G.1 q := fun i q hi hq => hF4.rule hd1 (bko i q (by omega) hq).1
  have f := ff_list t48 oq48
  rw [oq41, r_G4_F_F_a_2_1, gaL_cg hc] at f
  have hd : ∀ p, p ∈ [(F a 14, 1), (F a 14, 2), (F a 14, 3), (a, 17), (F a 11, 3), (F a 9, 6), (F a 8, 6)] → K p.1 ≠ 9 := (List.forall_mem_cons.mpr ⟨(show K (F a 14) ≠ 9 by omega), List.forall_mem_cons.mpr ⟨(show K (F a 14) ≠ 9 by omega), List.forall_mem_cons.mpr ⟨(show K (F a 14) ≠ 9 by omega), List.forall_mem_cons.mpr ⟨(show K (a) ≠ 9 by omega), List.forall_mem_cons.mpr ⟨(show K (F a 11) ≠ 9 by omega), List.forall_mem_cons.mpr ⟨(show K (F a 9) ≠ 9 by omega), List.forall_mem_cons.mpr ⟨(show K (F a 8) ≠ 9 by omega), fun _ h => by cases h⟩⟩⟩⟩⟩⟩⟩)
  have hd2 : ∀ p, p ∈ [(F a 11, 3), (F a 8, 6)] → K p.1 ≠ 9 := (List.forall_mem_cons.mpr ⟨(show K (F a 11) ≠ 9 by omega), List.forall_mem_cons.mpr ⟨(show K (F a 8) ≠ 9 by omega), fun _ h => by cases h⟩⟩)
  refine Or.inr (Or.inr ⟨by omega, ht19, q19, hq7, Or.inr ⟨by omega, (by rw [c_G117_F_F_a_3_0]; exact oq93), (by rw [d_G117_a_17, e99]), (by first | rfl | omega), ?_⟩⟩)
  rw [oq117, r_G100_F_F_a_2_1, oq93]
  exact gaL_cg (fun i q hi hq => (hF117.rule hd2 (bko i q (by omega) hq).1).symm.trans (hfr.rule hd (bko i q (by omega) hq).1))
theorem v_X10_back_127_22 {F : Nat → Nat → Nat} (a : Nat) (G117 : XG) (G93 : XG)
    (oq93a : RO (vw (G93.2.1 (F (F a 3) 0))) (aI (G93.2.1 (F (F a 3) 1))))
    (c_G117_F_F_a_3_0 : G117.2.1 (F (F a 3) 0) = G93.2.1 (F (F a 3) 0))
    (c_G117_F_F_a_3_1 : G117.2.1 (F (F a 3) 1) = G93.2.1 (F (F a 3) 1)) :
    RO (vw (G117.2.1 (F (F a 3) 0))) (aI (G117.2.1 (F (F a 3) 1))) := by
  rw [c_G117_F_F_a_3_0, c_G117_F_F_a_3_1]; exact oq93a
theorem v_X10_back_68_23 {K : Nat → Nat} {F : Nat → Nat → Nat} (a : Nat) (q19 : Nat) (p0 : Int32) (G : XG) (G63 : XG) (G4 : XG) (G41 : XG) (x48 : Int32)
    (ha : K a = 12)
    (hk9999 : K (F a 14) = 11)
    (hj9999 : F (F a 14) 99 = 0)
    (hk9999a : K (F a 11) = 3)
    (hj9999a : F (F a 11) 99 = 0)
    (hk9999b : K (F a 9) = 6)
    (hj9999b : F (F a 9) 99 = 1)
    (hk9999c : K (F a 8) = 6)
    (hj9999c : F (F a 8) 99 = 0)
    (hk9999d : K (F a 15) = 26)
    (hj9999d : F (F a 15) 99 = 0)
    (hk9999e : K (F (F a 11) 0) = 21)
    (hj9999e : F (F (F a 11) 0) 99 = 100)
    (hk9999f : K (F (F a 11) 1) = 21)
    (hj9999f : F (F (F a 11) 1) 99 = 101)
    (hk9999g : K (F (F a 11) 2) = 24)
    (hj9999g : F (F (F a 11) 2) 99 = 4)
    (hk9999h : K (F (F a 9) 0) = 22)
    (hj9999i : F (F (F a 9) 0) 99 = 10 * 1 + 0)
    (hk9999i : K (F (F a 9) 1) = 22)
    (hj9999k : F (F (F a 9) 1) 99 = 10 * 1 + 1)
    (hk9999j : K (F (F a 9) 2) = 22)
    (hj9999m : F (F (F a 9) 2) 99 = 10 * 1 + 2)
    (hk9999k : K (F (F a 9) 3) = 22)
    (hj9999o : F (F (F a 9) 3) 99 = 10 * 1 + 3)
    (hk9999l : K (F (F a 9) 4) = 23)
    (hj9999q : F (F (F a 9) 4) 99 = 10 * 1 + 4)
    (hk9999m : K (F (F a 9) 5) = 23)
    (hj9999s : F (F (F a 9) 5) 99 = 10 * 1 + 5)
    (hk9999n : K (F a 3) = 8)
    (hj9999t : F (F a 3) 99 = 0)
    (hk9999o : K (F (F a 3) 0) = 20)
    (hj9999v : F (F (F a 3) 0) 99 = 0)
    (hk9999p : K (F (F a 3) 1) = 21)
    (hj9999y : F (F (F a 3) 1) 99 = 0)
    (hk9999q : K (F (F a 8) 0) = 22)
    (hj9999z26 : F (F (F a 8) 0) 99 = 10 * 0 + 0)
    (hk9999r : K (F (F a 8) 1) = 22)
    (hj9999z28 : F (F (F a 8) 1) 99 = 10 * 0 + 1)
    (hk9999s : K (F (F a 8) 2) = 22)
    (hj9999z30 : F (F (F a 8) 2) 99 = 10 * 0 + 2)
    (hk9999t : K (F (F a 8) 3) = 22)
    (hj9999z32 : F (F (F a 8) 3) 99 = 10 * 0 + 3)
    (hk9999u : K (F (F a 8) 4) = 23)
    (hj9999z34 : F (F (F a 8) 4) 99 = 10 * 0 + 4)
    (hk9999v : K (F (F a 8) 5) = 23)
    (hj9999z36 : F (F (F a 8) 5) 99 = 10 * 0 + 5)
    (hk9999w : K (F a 2) = 2)
    (hj9999z37 : F (F a 2) 99 = 0)
    (hk9999y : K (F (F a 2) 1) = 15)
    (hj9999z38 : F (F (F a 2) 1) 99 = 1)
    (hk9999z25 : K (F (F a 2) 0) = 15)
    (hj9999z39 : F (F (F a 2) 0) 99 = 0)
    (hk9999z26 : K (F a 4) = 8)
    (hj9999z40 : F (F a 4) 99 = 1)
    (hk9999z27 : K (F (F a 4) 0) = 20)
    (hj9999z42 : F (F (F a 4) 0) 99 = 1)
    (hk9999z28 : K (F (F a 4) 1) = 21)
    (hj9999z44 : F (F (F a 4) 1) 99 = 1)
    (hk9999z29 : K (F a 6) = 8)
    (hj9999z45 : F (F a 6) 99 = 3)
    (hk9999z30 : K (F (F a 6) 0) = 20)
    (hj9999z47 : F (F (F a 6) 0) 99 = 3)
    (hk9999z31 : K (F (F a 6) 1) = 21)
    (hj9999z49 : F (F (F a 6) 1) 99 = 3)
    (hk9999z32 : K (F a 7) = 16)
    (hj9999z50 : F (F a 7) 99 = 0)
    (hk19 : K q19 = 8)
    (f68 : F q19 99 = 4 + (p0.toInt).toNat)
    (hk30 : K (F q19 0) = 20)
    (hj30a : F (F q19 0) 99 = 4 + (p0.toInt).toNat)
    (hk30a : K (F q19 1) = 21)
    (hj30c : F (F q19 1) 99 = 4 + (p0.toInt).toNat)
    (hF4 : XFr [(F a 14, 1)] [] [] G G4)
    (bko : BKr K G (G.2.2.1 (F (F a 2) 1)))
    (hs19 : F q19 99 = 4 + (p0.toInt).toNat ∧ G4.2.2.1 (F a 7) (p0.toInt).toNat = some q19)
    (oq41 : qL G41 F (F a 9) = gaL G4 (G4.2.2.1 (F (F a 2) 1)) (vw (G.2.1 (F (F a 6) 0))) (vw (G.2.1 (F q19 0))) (2 : Int) (((G.1 (F a 2) 2).toInt)).toNat)
    (oq48 : ∀ j : Int, 0 ≤ j → j < ((G41.1 (F a 9) 6).toInt) → (x48.toInt = -1 ∨ j < x48.toInt) → aI (G41.2.1 (F (F a 9) 5)) j = 0)
    (sb : 0 ≤ ((G.1 (F a 2) 2).toInt) ∧ ((G.1 (F a 2) 2).toInt) ≤ 12)
    (sw : 0 ≤ ((G.1 (F a 8) 6).toInt) ∧ ((G.1 (F a 8) 6).toInt) ≤ 1080)
    (t4 : ((G4.1 (F a 14) 1).toInt) = 0)
    (f89 : ((G.1 a 18).toInt) = 0 ∨ ((G.1 a 18).toInt) = 1)
    (c11 : ((G.1 a 18).toInt) ≠ 0)
    (ht19 : 0 ≤ p0.toInt ∧ p0.toInt < ((G.1 a 17).toInt) ∧ p0.toInt < 8)
    (t41 : 0 ≤ ((G41.1 (F a 9) 6).toInt) ∧ ((G41.1 (F a 9) 6).toInt) ≤ 1080)
    (t48 : x48.toInt = -1 ∨ (0 ≤ x48.toInt ∧ x48.toInt < ((G41.1 (F a 9) 6).toInt) ∧ (aI (G41.2.1 (F (F a 9) 5)) (x48.toInt)) = 1))
    (c54 : ¬ (x48.toInt = (-1 : Int)))
    (c_G63_F_F_a_3_0 : G63.2.1 (F (F a 3) 0) = G.2.1 (F (F a 3) 0))
    (c_G63_F_F_a_8_0 : G63.2.1 (F (F a 8) 0) = G.2.1 (F (F a 8) 0))
    (c_G63_F_F_a_8_1 : G63.2.1 (F (F a 8) 1) = G.2.1 (F (F a 8) 1))
    (c_G63_F_F_a_8_2 : G63.2.1 (F (F a 8) 2) = G.2.1 (F (F a 8) 2))
    (c_G63_F_F_a_8_3 : G63.2.1 (F (F a 8) 3) = G.2.1 (F (F a 8) 3))
    (c_G63_F_F_a_8_4 : G63.2.1 (F (F a 8) 4) = G.2.1 (F (F a 8) 4))
    (c_G63_F_F_a_8_5 : G63.2.1 (F (F a 8) 5) = G.2.1 (F (F a 8) 5))
    (r_G4_F_F_a_2_1 : G4.2.2.1 (F (F a 2) 1) = G.2.2.1 (F (F a 2) 1))
    (r_G4_F_a_7 : G4.2.2.1 (F a 7) = G.2.2.1 (F a 7))
    (d_G63_F_a_8_6 : G63.1 (F a 8) 6 = G.1 (F a 8) 6)
    (d_G63_a_17 : G63.1 a 17 = G.1 a 17) :
    (((G.1 a 18).toInt) = 0 ∧ (-5 : Int) = -3 ∧ ((vw (G63.2.1 (F (F a 3) 0))) = (vw (G.2.1 (F (F a 3) 0))) ∧ qL G63 F (F a 8) = qL G F (F a 8)) ∧ ((G63.1 a 17).toInt) = ((G.1 a 17).toInt)) ∨ (((G.1 a 18).toInt) ≠ 0 ∧ (p0.toInt < 0 ∨ ((G.1 a 17).toInt) ≤ p0.toInt ∨ 8 ≤ p0.toInt) ∧ (-5 : Int) = -2 ∧ ((vw (G63.2.1 (F (F a 3) 0))) = (vw (G.2.1 (F (F a 3) 0))) ∧ qL G63 F (F a 8) = qL G F (F a 8)) ∧ ((G63.1 a 17).toInt) = ((G.1 a 17).toInt)) ∨ (((G.1 a 18).toInt) ≠ 0 ∧ (0 ≤ p0.toInt ∧ p0.toInt < ((G.1 a 17).toInt) ∧ p0.toInt < 8) ∧ ∃ q : Nat, G.2.2.1 (F a 7) (p0.toInt).toNat = some q ∧ ((ffL (gaL G (G.2.2.1 (F (F a 2) 1)) (vw (G.2.1 (F (F a 6) 0))) (vw (G.2.1 (F q 0))) 2 (((G.1 (F a 2) 2).toInt)).toNat) ≠ -1 ∧ (-5 : Int) = -5 ∧ ((vw (G63.2.1 (F (F a 3) 0))) = (vw (G.2.1 (F (F a 3) 0))) ∧ qL G63 F (F a 8) = qL G F (F a 8)) ∧ ((G63.1 a 17).toInt) = ((G.1 a 17).toInt)) ∨ (ffL (gaL G (G.2.2.1 (F (F a 2) 1)) (vw (G.2.1 (F (F a 6) 0))) (vw (G.2.1 (F q 0))) 2 (((G.1 (F a 2) 2).toInt)).toNat) = -1 ∧ (vw (G63.2.1 (F (F a 3) 0))) = (vw (G.2.1 (F q 0))) ∧ ((G63.1 a 17).toInt) = p0.toInt + 1 ∧ (-5 : Int) = ((G63.1 (F a 8) 6).toInt) ∧ qL G63 F (F a 8) = (gaL G (G.2.2.1 (F (F a 2) 1)) (vw (G.2.1 (F (F a 4) 0))) (vw (G.2.1 (F q 0))) 1 (((G.1 (F a 2) 2).toInt)).toNat)))) := by
  have hq7 : G.2.2.1 (F a 7) (p0.toInt).toNat = some q19 := by rw [← r_G4_F_a_7]; exact hs19.2
  have hd1 : ∀ p, p ∈ [(F a 14, 1)] → K p.1 ≠ 9 := (List.forall_mem_cons.mpr ⟨(show K (F a 14) ≠ 9 by omega), fun _ h => by cases h⟩)
  have hc : ∀ (i q : Nat), i < ((G.1 (F a 2) 2).toInt).toNat → G.2.2.1 (F (F a 2) 1) i = some q → G4.1 q = G.1 q := fun i q hi hq => hF4.rule hd1 (bko i q (by omega) hq).1
  have f := ff_list t48 oq48
  rw [oq41, r_G4_F_F_a_2_1, gaL_cg hc] at f
  exact Or.inr (Or.inr ⟨by omega, ht19, q19, hq7, Or.inl ⟨(fun h => by rw [h] at f; omega), rfl, ⟨by rw [c_G63_F_F_a_3_0], qL_cg d_G63_F_a_8_6 c_G63_F_F_a_8_0 c_G63_F_F_a_8_1 c_G63_F_F_a_8_2 c_G63_F_F_a_8_3 c_G63_F_F_a_8_4 c_G63_F_F_a_8_5⟩, by rw [d_G63_a_17]⟩⟩)
theorem v_X10_back_68_24 {F : Nat → Nat → Nat} (a : Nat) (G : XG) (G63 : XG)
    (ron : RO (vw (G.2.1 (F (F a 3) 0))) (aI (G.2.1 (F (F a 3) 1))))
    (c_G63_F_F_a_3_0 : G63.2.1 (F (F a 3) 0) = G.2.1 (F (F a 3) 0))
    (c_G63_F_F_a_3_1 : G63.2.1 (F (F a 3) 1) = G.2.1 (F (F a 3) 1)) :
    RO (vw (G63.2.1 (F (F a 3) 0))) (aI (G63.2.1 (F (F a 3) 1))) := by
  rw [c_G63_F_F_a_3_0, c_G63_F_F_a_3_1]; exact ron
theorem v_X10_back_16_25 {K : Nat → Nat} {F : Nat → Nat → Nat} (a : Nat) (G : XG) (G4 : XG) (p0 : Int32)
    (ha : K a = 12)
    (sb : 0 ≤ ((G.1 (F a 2) 2).toInt) ∧ ((G.1 (F a 2) 2).toInt) ≤ 12)
    (sw : 0 ≤ ((G.1 (F a 8) 6).toInt) ∧ ((G.1 (F a 8) 6).toInt) ≤ 1080)
    (t4 : ((G4.1 (F a 14) 1).toInt) = 0)
    (f78 : ((G.1 a 18).toInt) = 0 ∨ ((G.1 a 18).toInt) = 1)
    (c11 : ¬ (((G.1 a 18).toInt) ≠ 0))
    (c_G4_F_F_a_3_0 : G4.2.1 (F (F a 3) 0) = G.2.1 (F (F a 3) 0))
    (c_G4_F_F_a_8_0 : G4.2.1 (F (F a 8) 0) = G.2.1 (F (F a 8) 0))
    (c_G4_F_F_a_8_1 : G4.2.1 (F (F a 8) 1) = G.2.1 (F (F a 8) 1))
    (c_G4_F_F_a_8_2 : G4.2.1 (F (F a 8) 2) = G.2.1 (F (F a 8) 2))
    (c_G4_F_F_a_8_3 : G4.2.1 (F (F a 8) 3) = G.2.1 (F (F a 8) 3))
    (c_G4_F_F_a_8_4 : G4.2.1 (F (F a 8) 4) = G.2.1 (F (F a 8) 4))
    (c_G4_F_F_a_8_5 : G4.2.1 (F (F a 8) 5) = G.2.1 (F (F a 8) 5))
    (d_G4_F_a_8_6 : G4.1 (F a 8) 6 = G.1 (F a 8) 6)
    (d_G4_a_17 : G4.1 a 17 = G.1 a 17) :
    (((G.1 a 18).toInt) = 0 ∧ (-3 : Int) = -3 ∧ ((vw (G4.2.1 (F (F a 3) 0))) = (vw (G.2.1 (F (F a 3) 0))) ∧ qL G4 F (F a 8) = qL G F (F a 8)) ∧ ((G4.1 a 17).toInt) = ((G.1 a 17).toInt)) ∨ (((G.1 a 18).toInt) ≠ 0 ∧ (p0.toInt < 0 ∨ ((G.1 a 17).toInt) ≤ p0.toInt ∨ 8 ≤ p0.toInt) ∧ (-3 : Int) = -2 ∧ ((vw (G4.2.1 (F (F a 3) 0))) = (vw (G.2.1 (F (F a 3) 0))) ∧ qL G4 F (F a 8) = qL G F (F a 8)) ∧ ((G4.1 a 17).toInt) = ((G.1 a 17).toInt)) ∨ (((G.1 a 18).toInt) ≠ 0 ∧ (0 ≤ p0.toInt ∧ p0.toInt < ((G.1 a 17).toInt) ∧ p0.toInt < 8) ∧ ∃ q : Nat, G.2.2.1 (F a 7) (p0.toInt).toNat = some q ∧ ((ffL (gaL G (G.2.2.1 (F (F a 2) 1)) (vw (G.2.1 (F (F a 6) 0))) (vw (G.2.1 (F q 0))) 2 (((G.1 (F a 2) 2).toInt)).toNat) ≠ -1 ∧ (-3 : Int) = -5 ∧ ((vw (G4.2.1 (F (F a 3) 0))) = (vw (G.2.1 (F (F a 3) 0))) ∧ qL G4 F (F a 8) = qL G F (F a 8)) ∧ ((G4.1 a 17).toInt) = ((G.1 a 17).toInt)) ∨ (ffL (gaL G (G.2.2.1 (F (F a 2) 1)) (vw (G.2.1 (F (F a 6) 0))) (vw (G.2.1 (F q 0))) 2 (((G.1 (F a 2) 2).toInt)).toNat) = -1 ∧ (vw (G4.2.1 (F (F a 3) 0))) = (vw (G.2.1 (F q 0))) ∧ ((G4.1 a 17).toInt) = p0.toInt + 1 ∧ (-3 : Int) = ((G4.1 (F a 8) 6).toInt) ∧ qL G4 F (F a 8) = (gaL G (G.2.2.1 (F (F a 2) 1)) (vw (G.2.1 (F (F a 4) 0))) (vw (G.2.1 (F q 0))) 1 (((G.1 (F a 2) 2).toInt)).toNat)))) := by
  exact Or.inl ⟨by omega, rfl, ⟨by rw [c_G4_F_F_a_3_0], qL_cg d_G4_F_a_8_6 c_G4_F_F_a_8_0 c_G4_F_F_a_8_1 c_G4_F_F_a_8_2 c_G4_F_F_a_8_3 c_G4_F_F_a_8_4 c_G4_F_F_a_8_5⟩, by rw [d_G4_a_17]⟩
theorem v_X10_back_16_26 {F : Nat → Nat → Nat} (a : Nat) (G : XG) (G4 : XG)
    (ron : RO (vw (G.2.1 (F (F a 3) 0))) (aI (G.2.1 (F (F a 3) 1))))
    (c_G4_F_F_a_3_0 : G4.2.1 (F (F a 3) 0) = G.2.1 (F (F a 3) 0))
    (c_G4_F_F_a_3_1 : G4.2.1 (F (F a 3) 1) = G.2.1 (F (F a 3) 1)) :
    RO (vw (G4.2.1 (F (F a 3) 0))) (aI (G4.2.1 (F (F a 3) 1))) := by
  rw [c_G4_F_F_a_3_0, c_G4_F_F_a_3_1]; exact ron
theorem z_X10_back_5 (a0 : Int) (a1 : Int) (a2 : Int) (h0 : 0 ≤ a0 ∧ a0 < a2 ∧ a0 < 8) (h1 : a1 = (a0 + (1 : Int)) ∨ (a0 + (1 : Int)) < -2147483648 ∨ 2147483648 ≤ (a0 + (1 : Int))) : a1 = (a0 + (1 : Int)) := by omega
abbrev rm_X10_back : Room := { frames := 8, cells := 8, slots := 800, locals := 194 }
set_option maxHeartbeats 4000000 in
set_option maxRecDepth 100000 in
theorem c_X10_back (l : Launch) (E : XE) (K : Nat → Nat) (F : Nat → Nat → Nat) (G : XG) (a : Nat) (p0 : Int32) (ha : K a = 12) (sb : 0 ≤ ((G.1 (F a 2) 2).toInt) ∧ ((G.1 (F a 2) 2).toInt) ≤ 12) (sw : 0 ≤ ((G.1 (F a 8) 6).toInt) ∧ ((G.1 (F a 8) 6).toInt) ≤ 1080) (ron : RO (vw (G.2.1 (F (F a 3) 0))) (aI (G.2.1 (F (F a 3) 1)))) (rob : RO (vw (G.2.1 (F (F a 4) 0))) (aI (G.2.1 (F (F a 4) 1)))) (ro0 : RO (vw (G.2.1 (F (F a 6) 0))) (aI (G.2.1 (F (F a 6) 1)))) (bko : BKr K G (G.2.2.1 (F (F a 2) 1))) (bkn : BKr K G (G.2.2.1 (F (F a 2) 0))) (rok : ∀ (i q : Nat), i < 8 → G.2.2.1 (F a 7) i = some q → RO (vw (G.2.1 (F q 0))) (aI (G.2.1 (F q 1)))) : Met l yX10_back (xw yX10_back cX10_back 4 (some .int)) rm_X10_back (va_Pc [.ref a, .int p0] (XP E K F G)) (XQ E (fun v (u : XG) => ∃ r : Int32, v = .int r ∧ XFr [(F a 14, 1), (F a 14, 2), (F a 14, 3), (a, 17), (F a 11, 3), (F a 9, 6), (F a 8, 6)] [F a 15, F (F a 11) 0, F (F a 11) 1, F (F a 11) 2, F (F a 9) 0, F (F a 9) 1, F (F a 9) 2, F (F a 9) 3, F (F a 9) 4, F (F a 9) 5, F (F a 3) 0, F (F a 3) 1, F (F a 8) 0, F (F a 8) 1, F (F a 8) 2, F (F a 8) 3, F (F a 8) 4, F (F a 8) 5] [] G u ∧ (0 ≤ ((u.1 (F a 8) 6).toInt) ∧ ((u.1 (F a 8) 6).toInt) ≤ 1080) ∧ ((((G.1 a 18).toInt) = 0 ∧ r.toInt = -3 ∧ ((vw (u.2.1 (F (F a 3) 0))) = (vw (G.2.1 (F (F a 3) 0))) ∧ qL u F (F a 8) = qL G F (F a 8)) ∧ ((u.1 a 17).toInt) = ((G.1 a 17).toInt)) ∨ (((G.1 a 18).toInt) ≠ 0 ∧ (p0.toInt < 0 ∨ ((G.1 a 17).toInt) ≤ p0.toInt ∨ 8 ≤ p0.toInt) ∧ r.toInt = -2 ∧ ((vw (u.2.1 (F (F a 3) 0))) = (vw (G.2.1 (F (F a 3) 0))) ∧ qL u F (F a 8) = qL G F (F a 8)) ∧ ((u.1 a 17).toInt) = ((G.1 a 17).toInt)) ∨ (((G.1 a 18).toInt) ≠ 0 ∧ (0 ≤ p0.toInt ∧ p0.toInt < ((G.1 a 17).toInt) ∧ p0.toInt < 8) ∧ ∃ q : Nat, G.2.2.1 (F a 7) (p0.toInt).toNat = some q ∧ ((ffL (gaL G (G.2.2.1 (F (F a 2) 1)) (vw (G.2.1 (F (F a 6) 0))) (vw (G.2.1 (F q 0))) 2 (((G.1 (F a 2) 2).toInt)).toNat) ≠ -1 ∧ r.toInt = -5 ∧ ((vw (u.2.1 (F (F a 3) 0))) = (vw (G.2.1 (F (F a 3) 0))) ∧ qL u F (F a 8) = qL G F (F a 8)) ∧ ((u.1 a 17).toInt) = ((G.1 a 17).toInt)) ∨ (ffL (gaL G (G.2.2.1 (F (F a 2) 1)) (vw (G.2.1 (F (F a 6) 0))) (vw (G.2.1 (F q 0))) 2 (((G.1 (F a 2) 2).toInt)).toNat) = -1 ∧ (vw (u.2.1 (F (F a 3) 0))) = (vw (G.2.1 (F q 0))) ∧ ((u.1 a 17).toInt) = p0.toInt + 1 ∧ r.toInt = ((u.1 (F a 8) 6).toInt) ∧ qL u F (F a 8) = (gaL G (G.2.2.1 (F (F a 2) 1)) (vw (G.2.1 (F (F a 4) 0))) (vw (G.2.1 (F q 0))) 1 (((G.1 (F a 2) 2).toInt)).toNat))))) ∧ (RO (vw (u.2.1 (F (F a 3) 0))) (aI (u.2.1 (F (F a 3) 1))))) (fun u H => TW E K F u H)) 8 800 (xA E) := by
  refine x_enter (by decide) (Nat.le_of_ble_eq_true rfl) ?_
  intro p e s m args below meth c Q S hr hlk hnm hQ hP ls hl
  obtain ⟨hz, hK, hT⟩ := hP
  obtain ⟨hx, hb, -, -, -⟩ := id S
  obtain ⟨H, hT, hS, hgo⟩ : ∃ H : Heap, TW E K F G H ∧ va_S (xA E) s.heap H [] ∧ H = s.heap := ⟨_, hT, va_S.rf, rfl⟩
  rw [← hgo]
  have hl : lv_has ls 4 [(0, .ref a), (1, .int p0)] := hl
  obtain ⟨hk9999, hj9999⟩ := fkX10_14 hT ha
  obtain ⟨hk9999a, hj9999a⟩ := fkX10_11 hT ha
  obtain ⟨hk9999b, hj9999b⟩ := fkX10_9 hT ha
  obtain ⟨hk9999c, hj9999c⟩ := fkX10_8 hT ha
  obtain ⟨hk9999d, hj9999d⟩ := fkX10_15 hT ha
  obtain ⟨hk9999e, hj9999e⟩ := fkX1_0 hT hk9999a
  obtain ⟨hk9999f, hj9999f⟩ := fkX1_1 hT hk9999a
  obtain ⟨hk9999g, hj9999g⟩ := fkX1_2 hT hk9999a
  obtain ⟨hk9999h, hj9999h⟩ := fkX4_0 hT hk9999b
  have hj9999i : F (F (F a 9) 0) 99 = 10 * 1 + 0 := by rw [hj9999h, hj9999b]
  obtain ⟨hk9999i, hj9999j⟩ := fkX4_1 hT hk9999b
  have hj9999k : F (F (F a 9) 1) 99 = 10 * 1 + 1 := by rw [hj9999j, hj9999b]
  obtain ⟨hk9999j, hj9999l⟩ := fkX4_2 hT hk9999b
  have hj9999m : F (F (F a 9) 2) 99 = 10 * 1 + 2 := by rw [hj9999l, hj9999b]
  obtain ⟨hk9999k, hj9999n⟩ := fkX4_3 hT hk9999b
  have hj9999o : F (F (F a 9) 3) 99 = 10 * 1 + 3 := by rw [hj9999n, hj9999b]
  obtain ⟨hk9999l, hj9999p⟩ := fkX4_4 hT hk9999b
  have hj9999q : F (F (F a 9) 4) 99 = 10 * 1 + 4 := by rw [hj9999p, hj9999b]
  obtain ⟨hk9999m, hj9999r⟩ := fkX4_5 hT hk9999b
  have hj9999s : F (F (F a 9) 5) 99 = 10 * 1 + 5 := by rw [hj9999r, hj9999b]
  obtain ⟨hk9999n, hj9999t⟩ := fkX10_3 hT ha
  obtain ⟨hk9999o, hj9999u⟩ := fkX6_0 hT hk9999n
  have hj9999v : F (F (F a 3) 0) 99 = 0 := by rw [hj9999u, hj9999t]
  obtain ⟨hk9999p, hj9999w⟩ := fkX6_1 hT hk9999n
  have hj9999y : F (F (F a 3) 1) 99 = 0 := by rw [hj9999w, hj9999t]
  obtain ⟨hk9999q, hj9999z25⟩ := fkX4_0 hT hk9999c
  have hj9999z26 : F (F (F a 8) 0) 99 = 10 * 0 + 0 := by rw [hj9999z25, hj9999c]
  obtain ⟨hk9999r, hj9999z27⟩ := fkX4_1 hT hk9999c
  have hj9999z28 : F (F (F a 8) 1) 99 = 10 * 0 + 1 := by rw [hj9999z27, hj9999c]
  obtain ⟨hk9999s, hj9999z29⟩ := fkX4_2 hT hk9999c
  have hj9999z30 : F (F (F a 8) 2) 99 = 10 * 0 + 2 := by rw [hj9999z29, hj9999c]
  obtain ⟨hk9999t, hj9999z31⟩ := fkX4_3 hT hk9999c
  have hj9999z32 : F (F (F a 8) 3) 99 = 10 * 0 + 3 := by rw [hj9999z31, hj9999c]
  obtain ⟨hk9999u, hj9999z33⟩ := fkX4_4 hT hk9999c
  have hj9999z34 : F (F (F a 8) 4) 99 = 10 * 0 + 4 := by rw [hj9999z33, hj9999c]
  obtain ⟨hk9999v, hj9999z35⟩ := fkX4_5 hT hk9999c
  have hj9999z36 : F (F (F a 8) 5) 99 = 10 * 0 + 5 := by rw [hj9999z35, hj9999c]
  obtain ⟨hk9999w, hj9999z37⟩ := fkX10_2 hT ha
  obtain ⟨hk9999y, hj9999z38⟩ := fkX0_1 hT hk9999w
  obtain ⟨hk9999z25, hj9999z39⟩ := fkX0_0 hT hk9999w
  obtain ⟨hk9999z26, hj9999z40⟩ := fkX10_4 hT ha
  obtain ⟨hk9999z27, hj9999z41⟩ := fkX6_0 hT hk9999z26
  have hj9999z42 : F (F (F a 4) 0) 99 = 1 := by rw [hj9999z41, hj9999z40]
  obtain ⟨hk9999z28, hj9999z43⟩ := fkX6_1 hT hk9999z26
  have hj9999z44 : F (F (F a 4) 1) 99 = 1 := by rw [hj9999z43, hj9999z40]
  obtain ⟨hk9999z29, hj9999z45⟩ := fkX10_6 hT ha
  obtain ⟨hk9999z30, hj9999z46⟩ := fkX6_0 hT hk9999z29
  have hj9999z47 : F (F (F a 6) 0) 99 = 3 := by rw [hj9999z46, hj9999z45]
  obtain ⟨hk9999z31, hj9999z48⟩ := fkX6_1 hT hk9999z29
  have hj9999z49 : F (F (F a 6) 1) 99 = 3 := by rw [hj9999z48, hj9999z45]
  obtain ⟨hk9999z32, hj9999z50⟩ := fkX10_7 hT ha
  refine lv_aload_n hx hb dX10_back_0 rfl (lv_at hl 0 rfl) ?_
  refine gX10_14 S hK hT ha kf_X10_91 dX10_back_1 (fun _ _ => ?_)
  refine x_cv (x_runV (b := (F a 14)) (As := []) (rest := []) S (c_X9_clear l E K F G (F a 14) hk9999) mv_X9_clear km_X10_113 rfl rfl ⟨Nat.le_of_ble_eq_true rfl, Nat.le_of_ble_eq_true rfl⟩ (rc_11 hK hT hk9999) hK (fun _ => XP.blind) (fun U hU hW => XP.at hK hz hS hT hU hW) rfl hl.1 (Nat.le_of_ble_eq_true rfl) dX10_back_4 ⟨Nat.le_of_ble_eq_true rfl, Nat.le_of_ble_eq_true rfl⟩) hS ?_
  rintro G4 H locs ⟨hF4, t4⟩ hT hS
  have t4 : ((G4.1 (F a 14) 1).toInt) = 0 := t4
  refine lv_aload_n hx hb dX10_back_7 rfl (lv_at hl 0 rfl) ?_
  refine gX10_18 S hK hT ha kf_X10_123 dX10_back_8 (v := (G.1 a 18)) (hF4.1 _ _ (xnj (by decide) xn0)) (fun hz8 => ?_)
  refine xi_zne (tgt := 17) hx hb (rfl : Int32.toInt (G.1 a 18) = ((G.1 a 18).toInt)) dX10_back_11 (by decide) (fun c11 => ?_) (fun c11 => ?_)
  · refine lv_aload_n hx hb dX10_back_17 rfl (lv_at hl 0 rfl) ?_
    refine lv_iload_n hx hb dX10_back_18 rfl (lv_at hl 1 rfl) ?_
    refine x_clp (x_runV (b := a) (As := [.int p0]) (rest := []) S (c_X10_rowsAtMark l E K F G4 H a p0 ha) mv_X10_rowsAtMark km_X10_236 rfl rfl ⟨Nat.le_of_ble_eq_true rfl, Nat.le_of_ble_eq_true rfl⟩ (rc_12 hK hT ha) hK (fun _ => XPh.blind) (fun U hU hW => XPh.at hK hz hS hT hU hW) rfl hl.1 (Nat.le_of_ble_eq_true rfl) dX10_back_19 ⟨Nat.le_of_ble_eq_true rfl, Nat.le_of_ble_eq_true rfl⟩) hS ?_
    rintro _ _ locs (⟨rfl, hn19⟩ | ⟨q19, rfl, hk19, ht19, hs19⟩) hS
    · refine lv_astore_nN (lv' := [(2, .null), (0, .ref a), (1, .int p0)]) hx hb dX10_back_22 rfl hl (by decide) rfl (fun ls hl => ?_)
      refine lv_aload_nN hx hb dX10_back_23 rfl (lv_at hl 0 rfl) ?_
      refine lv_ifnonnullN hx hb dX10_back_24 ?_
      refine lv_bipush (v := (-2)) hx hb dX10_back_27 (by decide) ?_
      exact x_ri hx hb hr hlk hQ (Nat.le_of_ble_eq_true rfl) (Nat.le_of_ble_eq_true rfl) hS dX10_back_29 G4 ⟨_, rfl, (XFr.call XFr.rf hF4 (xm1 0 rfl xm0) xm0 xm0), (by rw [(show (G4.1 (F a 8) 6).toInt = ((G.1 (F a 8) 6).toInt) from (congrArg Int32.toInt (hF4.1 _ _ (xnj (by decide) xn0))).trans (rfl : Int32.toInt (G.1 (F a 8) 6) = ((G.1 (F a 8) 6).toInt)))] <;> exact (sw)), (by rw [((by decide) : Int32.toInt (-2) = (-2 : Int))] <;> exact (v_X10_back_29_1 (K := K) (F := F) a G G4 p0 ha hn19 sb sw t4 (xzi hz8) c11 (hF4.2.1 _ xn0) (hF4.2.1 _ xn0) (hF4.2.1 _ xn0) (hF4.2.1 _ xn0) (hF4.2.1 _ xn0) (hF4.2.1 _ xn0) (hF4.2.1 _ xn0) (hF4.1 _ _ (xnj (by decide) xn0)) (hF4.1 _ _ (xnj (by decide) xn0)))), (v_X10_back_29_2 (F := F) a G G4 ron (hF4.2.1 _ xn0) (hF4.2.1 _ xn0))⟩ hT
    · have ht19 : 0 ≤ p0.toInt ∧ p0.toInt < ((G.1 a 17).toInt) ∧ p0.toInt < 8 := by rw [(show (G4.1 a 17).toInt = ((G.1 a 17).toInt) from (congrArg Int32.toInt (hF4.1 _ _ (xnj (by decide) xn0))).trans (rfl : Int32.toInt (G.1 a 17) = ((G.1 a 17).toInt)))] at ht19; exact ht19
      refine lv_astore_n (lv' := [(2, .ref q19), (0, .ref a), (1, .int p0)]) hx hb dX10_back_22 rfl hl (by decide) rfl (fun ls hl => ?_)
      refine lv_aload_n hx hb dX10_back_23 rfl (lv_at hl 0 rfl) ?_
      refine lv_ifnonnull (tgt := 30) hx hb dX10_back_24 (by decide) ?_
      obtain ⟨hk30, hj30⟩ := fkX6_0 hT hk19
      have hj30a : F (F q19 0) 99 = 4 + (p0.toInt).toNat := by rw [hj30, (hs19).1]
      obtain ⟨hk30a, hj30b⟩ := fkX6_1 hT hk19
      have hj30c : F (F q19 1) 99 = 4 + (p0.toInt).toNat := by rw [hj30b, (hs19).1]
      refine lv_aload_n hx hb dX10_back_30 rfl (lv_at hl 1 rfl) ?_
      refine lv_aload_n hx hb dX10_back_31 rfl (lv_at hl 1 rfl) ?_
      refine gX10_9 S hK hT ha kf_X10_61 dX10_back_32 (fun _ _ => ?_)
      refine lv_aload_n hx hb dX10_back_35 rfl (lv_at hl 1 rfl) ?_
      refine gX10_6 S hK hT ha kf_X10_47 dX10_back_36 (fun _ _ => ?_)
      refine lv_aload_n hx hb dX10_back_39 rfl (lv_at hl 0 rfl) ?_
      refine lv_iconst (v := 2) hx hb dX10_back_40 (by decide) ?_
      refine x_cv0 (x_runV (b := a) (As := [.ref (F a 9), .ref (F a 6), .ref q19, .int 2]) (rest := []) S (c_X10_gather l E K F G4 a (F a 9) (F a 6) q19 2 ha hk9999b hk9999z29 hk19 (by rw [(show (G4.1 (F a 2) 2).toInt = ((G.1 (F a 2) 2).toInt) from (congrArg Int32.toInt (hF4.1 _ _ (xnj (by decide) xn0))).trans (rfl : Int32.toInt (G.1 (F a 2) 2) = ((G.1 (F a 2) 2).toInt)))] <;> exact (sb)) (v_X10_back_41_3 (F := F) a G G4 ron rob ro0 (hF4.2.1 _ xn0) (hF4.2.1 _ xn0)) (v_X10_back_41_4 (K := K) (F := F) a q19 p0 G G4 ha ((hs19).1) rok hs19 sb sw t4 (xzi hz8) c11 ht19 (hF4.2.1 _ xn0) (hF4.2.1 _ xn0) (hF4.2.2 _ xn0)) (v_X10_back_41_5 (K := K) (F := F) a q19 p0 G G4 ha hk9999 hj9999 hk9999a hj9999a hk9999b hj9999b hk9999c hj9999c hk9999d hj9999d hk9999e hj9999e hk9999f hj9999f hk9999g hj9999g hk9999h hj9999i hk9999i hj9999k hk9999j hj9999m hk9999k hj9999o hk9999l hj9999q hk9999m hj9999s hk9999n hj9999t hk9999o hj9999v hk9999p hj9999y hk9999q hj9999z26 hk9999r hj9999z28 hk9999s hj9999z30 hk9999t hj9999z32 hk9999u hj9999z34 hk9999v hj9999z36 hk9999w hj9999z37 hk9999y hj9999z38 hk9999z25 hj9999z39 hk9999z26 hj9999z40 hk9999z27 hj9999z42 hk9999z28 hj9999z44 hk9999z29 hj9999z45 hk9999z30 hj9999z47 hk9999z31 hj9999z49 hk9999z32 hj9999z50 hk19 ((hs19).1) hk30 hj30a hk30a hj30c (XFr.call XFr.rf hF4 (xm1 0 rfl xm0) xm0 xm0) bko hs19 sb sw t4 (xzi hz8) c11 ht19 (hF4.2.2 _ xn0)) (v_X10_back_41_6 (K := K) (F := F) a q19 p0 G G4 ha hk9999 hj9999 hk9999a hj9999a hk9999b hj9999b hk9999c hj9999c hk9999d hj9999d hk9999e hj9999e hk9999f hj9999f hk9999g hj9999g hk9999h hj9999i hk9999i hj9999k hk9999j hj9999m hk9999k hj9999o hk9999l hj9999q hk9999m hj9999s hk9999n hj9999t hk9999o hj9999v hk9999p hj9999y hk9999q hj9999z26 hk9999r hj9999z28 hk9999s hj9999z30 hk9999t hj9999z32 hk9999u hj9999z34 hk9999v hj9999z36 hk9999w hj9999z37 hk9999y hj9999z38 hk9999z25 hj9999z39 hk9999z26 hj9999z40 hk9999z27 hj9999z42 hk9999z28 hj9999z44 hk9999z29 hj9999z45 hk9999z30 hj9999z47 hk9999z31 hj9999z49 hk9999z32 hj9999z50 hk19 ((hs19).1) hk30 hj30a hk30a hj30c (XFr.call XFr.rf hF4 (xm1 0 rfl xm0) xm0 xm0) hF4 ron rob ro0 bko bkn rok hs19 sb sw t4 (xzi hz8) c11 ht19 (hF4.2.1 _ xn0) (hF4.2.1 _ xn0) (hF4.2.1 _ xn0) (hF4.2.1 _ xn0) (hF4.2.1 _ xn0) (hF4.2.1 _ xn0) (hF4.2.1 _ xn0) (hF4.2.1 _ xn0) (hF4.2.1 _ xn0) (hF4.2.1 _ xn0) (hF4.2.1 _ xn0) (hF4.2.1 _ xn0) (hF4.2.1 _ xn0) (hF4.2.1 _ xn0) (hF4.2.1 _ xn0) (hF4.2.1 _ xn0) (hF4.2.1 _ xn0) (hF4.2.1 _ xn0) (hF4.2.1 _ xn0) (hF4.2.1 _ xn0) (hF4.2.2 _ xn0) (hF4.2.2 _ xn0) (hF4.1 _ _ (xnj (by decide) xn0)) (hF4.1 _ _ (xnj (by decide) xn0)) (hF4.1 _ _ (xnj (by decide) xn0)) (hF4.1 _ _ (xnj (by decide) xn0)) (hF4.1 _ _ (xnj (by decide) xn0)) (hF4.1 _ _ (xnj (by decide) xn0))) (v_X10_back_41_7 (K := K) (F := F) a q19 p0 G G4 ha hk9999 hj9999 hk9999a hj9999a hk9999b hj9999b hk9999c hj9999c hk9999d hj9999d hk9999e hj9999e hk9999f hj9999f hk9999g hj9999g hk9999h hj9999i hk9999i hj9999k hk9999j hj9999m hk9999k hj9999o hk9999l hj9999q hk9999m hj9999s hk9999n hj9999t hk9999o hj9999v hk9999p hj9999y hk9999q hj9999z26 hk9999r hj9999z28 hk9999s hj9999z30 hk9999t hj9999z32 hk9999u hj9999z34 hk9999v hj9999z36 hk9999w hj9999z37 hk9999y hj9999z38 hk9999z25 hj9999z39 hk9999z26 hj9999z40 hk9999z27 hj9999z42 hk9999z28 hj9999z44 hk9999z29 hj9999z45 hk9999z30 hj9999z47 hk9999z31 hj9999z49 hk9999z32 hj9999z50 hk19 ((hs19).1) hk30 hj30a hk30a hj30c (XFr.call XFr.rf hF4 (xm1 0 rfl xm0) xm0 xm0) hF4 ron rob ro0 bko bkn rok hs19 sb sw t4 (xzi hz8) c11 ht19 (hF4.2.1 _ xn0) (hF4.2.1 _ xn0) (hF4.2.1 _ xn0) (hF4.2.1 _ xn0) (hF4.2.1 _ xn0) (hF4.2.1 _ xn0) (hF4.2.1 _ xn0) (hF4.2.1 _ xn0) (hF4.2.1 _ xn0) (hF4.2.1 _ xn0) (hF4.2.1 _ xn0) (hF4.2.1 _ xn0) (hF4.2.1 _ xn0) (hF4.2.1 _ xn0) (hF4.2.1 _ xn0) (hF4.2.1 _ xn0) (hF4.2.1 _ xn0) (hF4.2.1 _ xn0) (hF4.2.1 _ xn0) (hF4.2.1 _ xn0) (hF4.2.2 _ xn0) (hF4.2.2 _ xn0) (hF4.1 _ _ (xnj (by decide) xn0)) (hF4.1 _ _ (xnj (by decide) xn0)) (hF4.1 _ _ (xnj (by decide) xn0)) (hF4.1 _ _ (xnj (by decide) xn0)) (hF4.1 _ _ (xnj (by decide) xn0)) (hF4.1 _ _ (xnj (by decide) xn0)))) mv_X10_gather km_X10_240 rfl rfl ⟨Nat.le_of_ble_eq_true rfl, Nat.le_of_ble_eq_true rfl⟩ (rc_12 hK hT ha) hK (fun _ => XP.blind) (fun U hU hW => XP.at hK hz hS hT hU hW) rfl hl.1 (Nat.le_of_ble_eq_true rfl) dX10_back_41 ⟨Nat.le_of_ble_eq_true rfl, Nat.le_of_ble_eq_true rfl⟩) hS ?_
      rintro G41 H locs ⟨hF41, t41, oq41⟩ hT hS
      have t41 : 0 ≤ ((G41.1 (F a 9) 6).toInt) ∧ ((G41.1 (F a 9) 6).toInt) ≤ 1080 := t41
      have oq41 : qL G41 F (F a 9) = gaL G4 (G4.2.2.1 (F (F a 2) 1)) (vw (G.2.1 (F (F a 6) 0))) (vw (G.2.1 (F q19 0))) (2 : Int) (((G.1 (F a 2) 2).toInt)).toNat := by simp only [(show G4.2.1 (F (F a 6) 0) = G.2.1 (F (F a 6) 0) from (hF4.2.1 _ xn0)), (show G4.2.1 (F q19 0) = G.2.1 (F q19 0) from (hF4.2.1 _ xn0)), (show G4.1 (F a 2) 2 = G.1 (F a 2) 2 from (hF4.1 _ _ (xnj (by decide) xn0)))] at oq41; exact oq41
      refine lv_aload_n hx hb dX10_back_44 rfl (lv_at hl 1 rfl) ?_
      refine gX10_9 S hK hT ha kf_X10_61 dX10_back_45 (fun _ _ => ?_)
      refine x_clp (x_runV (b := (F a 9)) (As := []) (rest := []) S (c_X4_firstFailing l E K F G41 H (F a 9) hk9999b (t41)) mv_X4_firstFailing km_X10_244 rfl rfl ⟨Nat.le_of_ble_eq_true rfl, Nat.le_of_ble_eq_true rfl⟩ (rc_6 hK hT hk9999b) hK (fun _ => XPh.blind) (fun U hU hW => XPh.at hK hz hS hT hU hW) rfl hl.1 (Nat.le_of_ble_eq_true rfl) dX10_back_48 ⟨Nat.le_of_ble_eq_true rfl, Nat.le_of_ble_eq_true rfl⟩) hS ?_
      rintro _ _ locs ⟨x48, rfl, t48, oq48⟩ hS
      have t48 : x48.toInt = -1 ∨ (0 ≤ x48.toInt ∧ x48.toInt < ((G41.1 (F a 9) 6).toInt) ∧ (aI (G41.2.1 (F (F a 9) 5)) (x48.toInt)) = 1) := t48
      refine lv_istore_n (lv' := [(3, .int x48), (2, .ref q19), (0, .ref a), (1, .int p0)]) hx hb dX10_back_51 rfl hl (by decide) rfl (fun ls hl => ?_)
      refine lv_iload_n hx hb dX10_back_52 rfl (lv_at hl 0 rfl) ?_
      refine lv_iconst (v := (-1)) hx hb dX10_back_53 (by decide) ?_
      refine xi_ceq (tgt := 69) hx hb (rfl : Int32.toInt x48 = x48.toInt) ((by decide) : Int32.toInt (-1) = (-1 : Int)) dX10_back_54 (by decide) (fun c54 => ?_) (fun c54 => ?_)
      · refine lv_aload_n hx hb dX10_back_69 rfl (lv_at hl 2 rfl) ?_
        refine lv_aload_n hx hb dX10_back_70 rfl (lv_at hl 2 rfl) ?_
        refine gX10_9 S hK hT ha kf_X10_61 dX10_back_71 (fun _ _ => ?_)
        refine lv_aload_n hx hb dX10_back_74 rfl (lv_at hl 2 rfl) ?_
        refine gX10_3 S hK hT ha kf_X10_37 dX10_back_75 (fun _ _ => ?_)
        refine lv_aload_n hx hb dX10_back_78 rfl (lv_at hl 1 rfl) ?_
        refine lv_iconst (v := 1) hx hb dX10_back_79 (by decide) ?_
        refine x_cv0 (x_runV (b := a) (As := [.ref (F a 9), .ref (F a 3), .ref q19, .int 1]) (rest := []) S (c_X10_gather l E K F G41 a (F a 9) (F a 3) q19 1 ha hk9999b hk9999n hk19 (by rw [(show (G41.1 (F a 2) 2).toInt = ((G.1 (F a 2) 2).toInt) from (congrArg Int32.toInt ((hF41.1 _ _ (xnj (by decide) (xnj (by decide) xn0))).trans (hF4.1 _ _ (xnj (by decide) xn0)))).trans (rfl : Int32.toInt (G.1 (F a 2) 2) = ((G.1 (F a 2) 2).toInt)))] <;> exact (sb)) (v_X10_back_80_8 (F := F) a G G41 ron rob ro0 ((hF41.2.1 _ (xn1 (xne_k hk9999o hk9999e (by decide)) (xn1 (xne_k hk9999o hk9999f (by decide)) (xn1 (xne_k hk9999o hk9999g (by decide)) (xn1 (xne_k hk9999o hk9999h (by decide)) (xn1 (xne_k hk9999o hk9999i (by decide)) (xn1 (xne_k hk9999o hk9999j (by decide)) (xn1 (xne_k hk9999o hk9999k (by decide)) (xn1 (xne_k hk9999o hk9999l (by decide)) (xn1 (xne_k hk9999o hk9999m (by decide)) xn0)))))))))).trans (hF4.2.1 _ xn0)) ((hF41.2.1 _ (xn1 (xne_j hj9999y hj9999e (by first | decide | omega)) (xn1 (xne_j hj9999y hj9999f (by first | decide | omega)) (xn1 (xne_k hk9999p hk9999g (by decide)) (xn1 (xne_k hk9999p hk9999h (by decide)) (xn1 (xne_k hk9999p hk9999i (by decide)) (xn1 (xne_k hk9999p hk9999j (by decide)) (xn1 (xne_k hk9999p hk9999k (by decide)) (xn1 (xne_k hk9999p hk9999l (by decide)) (xn1 (xne_k hk9999p hk9999m (by decide)) xn0)))))))))).trans (hF4.2.1 _ xn0))) (v_X10_back_80_9 (K := K) (F := F) a q19 p0 G G41 G4 x48 ha ((hs19).1) rok hs19 sb sw t4 (xzi hz8) c11 ht19 t41 t48 c54 (hF4.2.1 _ xn0) (hF4.2.1 _ xn0) ((hF41.2.1 _ (xn1 (xne_k hk30 hk9999e (by decide)) (xn1 (xne_k hk30 hk9999f (by decide)) (xn1 (xne_k hk30 hk9999g (by decide)) (xn1 (xne_k hk30 hk9999h (by decide)) (xn1 (xne_k hk30 hk9999i (by decide)) (xn1 (xne_k hk30 hk9999j (by decide)) (xn1 (xne_k hk30 hk9999k (by decide)) (xn1 (xne_k hk30 hk9999l (by decide)) (xn1 (xne_k hk30 hk9999m (by decide)) xn0)))))))))).trans (hF4.2.1 _ xn0)) ((hF41.2.1 _ (xn1 (xne_j hj30c hj9999e (by first | decide | omega)) (xn1 (xne_j hj30c hj9999f (by first | decide | omega)) (xn1 (xne_k hk30a hk9999g (by decide)) (xn1 (xne_k hk30a hk9999h (by decide)) (xn1 (xne_k hk30a hk9999i (by decide)) (xn1 (xne_k hk30a hk9999j (by decide)) (xn1 (xne_k hk30a hk9999k (by decide)) (xn1 (xne_k hk30a hk9999l (by decide)) (xn1 (xne_k hk30a hk9999m (by decide)) xn0)))))))))).trans (hF4.2.1 _ xn0)) (hF4.2.2 _ xn0)) (v_X10_back_80_10 (K := K) (F := F) a q19 p0 G G41 G4 x48 ha hk9999 hj9999 hk9999a hj9999a hk9999b hj9999b hk9999c hj9999c hk9999d hj9999d hk9999e hj9999e hk9999f hj9999f hk9999g hj9999g hk9999h hj9999i hk9999i hj9999k hk9999j hj9999m hk9999k hj9999o hk9999l hj9999q hk9999m hj9999s hk9999n hj9999t hk9999o hj9999v hk9999p hj9999y hk9999q hj9999z26 hk9999r hj9999z28 hk9999s hj9999z30 hk9999t hj9999z32 hk9999u hj9999z34 hk9999v hj9999z36 hk9999w hj9999z37 hk9999y hj9999z38 hk9999z25 hj9999z39 hk9999z26 hj9999z40 hk9999z27 hj9999z42 hk9999z28 hj9999z44 hk9999z29 hj9999z45 hk9999z30 hj9999z47 hk9999z31 hj9999z49 hk9999z32 hj9999z50 hk19 ((hs19).1) hk30 hj30a hk30a hj30c (XFr.call (XFr.call XFr.rf hF4 (xm1 0 rfl xm0) xm0 xm0) hF41 (xm1 4 rfl (xm1 5 rfl xm0)) (xm1 1 rfl (xm1 2 rfl (xm1 3 rfl (xm1 4 rfl (xm1 5 rfl (xm1 6 rfl (xm1 7 rfl (xm1 8 rfl (xm1 9 rfl xm0))))))))) xm0) bko hs19 sb sw t4 (xzi hz8) c11 ht19 t41 t48 c54 (hF4.2.2 _ xn0) ((hF41.2.2 _ xn0).trans (hF4.2.2 _ xn0))) (v_X10_back_80_11 (K := K) (F := F) a q19 p0 G G41 G4 x48 ha hk9999 hj9999 hk9999a hj9999a hk9999b hj9999b hk9999c hj9999c hk9999d hj9999d hk9999e hj9999e hk9999f hj9999f hk9999g hj9999g hk9999h hj9999i hk9999i hj9999k hk9999j hj9999m hk9999k hj9999o hk9999l hj9999q hk9999m hj9999s hk9999n hj9999t hk9999o hj9999v hk9999p hj9999y hk9999q hj9999z26 hk9999r hj9999z28 hk9999s hj9999z30 hk9999t hj9999z32 hk9999u hj9999z34 hk9999v hj9999z36 hk9999w hj9999z37 hk9999y hj9999z38 hk9999z25 hj9999z39 hk9999z26 hj9999z40 hk9999z27 hj9999z42 hk9999z28 hj9999z44 hk9999z29 hj9999z45 hk9999z30 hj9999z47 hk9999z31 hj9999z49 hk9999z32 hj9999z50 hk19 ((hs19).1) hk30 hj30a hk30a hj30c (XFr.call (XFr.call XFr.rf hF4 (xm1 0 rfl xm0) xm0 xm0) hF41 (xm1 4 rfl (xm1 5 rfl xm0)) (xm1 1 rfl (xm1 2 rfl (xm1 3 rfl (xm1 4 rfl (xm1 5 rfl (xm1 6 rfl (xm1 7 rfl (xm1 8 rfl (xm1 9 rfl xm0))))))))) xm0) hF4 hF41 ron rob ro0 bko bkn rok hs19 oq41 oq48 sb sw t4 (xzi hz8) c11 ht19 t41 t48 c54 (hF4.2.1 _ xn0) (hF4.2.1 _ xn0) ((hF41.2.1 _ (xn1 (xne_k hk9999o hk9999e (by decide)) (xn1 (xne_k hk9999o hk9999f (by decide)) (xn1 (xne_k hk9999o hk9999g (by decide)) (xn1 (xne_k hk9999o hk9999h (by decide)) (xn1 (xne_k hk9999o hk9999i (by decide)) (xn1 (xne_k hk9999o hk9999j (by decide)) (xn1 (xne_k hk9999o hk9999k (by decide)) (xn1 (xne_k hk9999o hk9999l (by decide)) (xn1 (xne_k hk9999o hk9999m (by decide)) xn0)))))))))).trans (hF4.2.1 _ xn0)) ((hF41.2.1 _ (xn1 (xne_j hj9999y hj9999e (by first | decide | omega)) (xn1 (xne_j hj9999y hj9999f (by first | decide | omega)) (xn1 (xne_k hk9999p hk9999g (by decide)) (xn1 (xne_k hk9999p hk9999h (by decide)) (xn1 (xne_k hk9999p hk9999i (by decide)) (xn1 (xne_k hk9999p hk9999j (by decide)) (xn1 (xne_k hk9999p hk9999k (by decide)) (xn1 (xne_k hk9999p hk9999l (by decide)) (xn1 (xne_k hk9999p hk9999m (by decide)) xn0)))))))))).trans (hF4.2.1 _ xn0)) ((hF41.2.1 _ (xn1 (xne_k hk9999q hk9999e (by decide)) (xn1 (xne_k hk9999q hk9999f (by decide)) (xn1 (xne_k hk9999q hk9999g (by decide)) (xn1 (xne_j hj9999z26 hj9999i (by first | decide | omega)) (xn1 (xne_j hj9999z26 hj9999k (by first | decide | omega)) (xn1 (xne_j hj9999z26 hj9999m (by first | decide | omega)) (xn1 (xne_j hj9999z26 hj9999o (by first | decide | omega)) (xn1 (xne_k hk9999q hk9999l (by decide)) (xn1 (xne_k hk9999q hk9999m (by decide)) xn0)))))))))).trans (hF4.2.1 _ xn0)) ((hF41.2.1 _ (xn1 (xne_k hk9999r hk9999e (by decide)) (xn1 (xne_k hk9999r hk9999f (by decide)) (xn1 (xne_k hk9999r hk9999g (by decide)) (xn1 (xne_j hj9999z28 hj9999i (by first | decide | omega)) (xn1 (xne_j hj9999z28 hj9999k (by first | decide | omega)) (xn1 (xne_j hj9999z28 hj9999m (by first | decide | omega)) (xn1 (xne_j hj9999z28 hj9999o (by first | decide | omega)) (xn1 (xne_k hk9999r hk9999l (by decide)) (xn1 (xne_k hk9999r hk9999m (by decide)) xn0)))))))))).trans (hF4.2.1 _ xn0)) ((hF41.2.1 _ (xn1 (xne_k hk9999s hk9999e (by decide)) (xn1 (xne_k hk9999s hk9999f (by decide)) (xn1 (xne_k hk9999s hk9999g (by decide)) (xn1 (xne_j hj9999z30 hj9999i (by first | decide | omega)) (xn1 (xne_j hj9999z30 hj9999k (by first | decide | omega)) (xn1 (xne_j hj9999z30 hj9999m (by first | decide | omega)) (xn1 (xne_j hj9999z30 hj9999o (by first | decide | omega)) (xn1 (xne_k hk9999s hk9999l (by decide)) (xn1 (xne_k hk9999s hk9999m (by decide)) xn0)))))))))).trans (hF4.2.1 _ xn0)) ((hF41.2.1 _ (xn1 (xne_k hk9999t hk9999e (by decide)) (xn1 (xne_k hk9999t hk9999f (by decide)) (xn1 (xne_k hk9999t hk9999g (by decide)) (xn1 (xne_j hj9999z32 hj9999i (by first | decide | omega)) (xn1 (xne_j hj9999z32 hj9999k (by first | decide | omega)) (xn1 (xne_j hj9999z32 hj9999m (by first | decide | omega)) (xn1 (xne_j hj9999z32 hj9999o (by first | decide | omega)) (xn1 (xne_k hk9999t hk9999l (by decide)) (xn1 (xne_k hk9999t hk9999m (by decide)) xn0)))))))))).trans (hF4.2.1 _ xn0)) ((hF41.2.1 _ (xn1 (xne_k hk9999u hk9999e (by decide)) (xn1 (xne_k hk9999u hk9999f (by decide)) (xn1 (xne_k hk9999u hk9999g (by decide)) (xn1 (xne_k hk9999u hk9999h (by decide)) (xn1 (xne_k hk9999u hk9999i (by decide)) (xn1 (xne_k hk9999u hk9999j (by decide)) (xn1 (xne_k hk9999u hk9999k (by decide)) (xn1 (xne_j hj9999z34 hj9999q (by first | decide | omega)) (xn1 (xne_j hj9999z34 hj9999s (by first | decide | omega)) xn0)))))))))).trans (hF4.2.1 _ xn0)) ((hF41.2.1 _ (xn1 (xne_k hk9999v hk9999e (by decide)) (xn1 (xne_k hk9999v hk9999f (by decide)) (xn1 (xne_k hk9999v hk9999g (by decide)) (xn1 (xne_k hk9999v hk9999h (by decide)) (xn1 (xne_k hk9999v hk9999i (by decide)) (xn1 (xne_k hk9999v hk9999j (by decide)) (xn1 (xne_k hk9999v hk9999k (by decide)) (xn1 (xne_j hj9999z36 hj9999q (by first | decide | omega)) (xn1 (xne_j hj9999z36 hj9999s (by first | decide | omega)) xn0)))))))))).trans (hF4.2.1 _ xn0)) ((hF41.2.1 _ (xn1 (xne_k hk9999d hk9999e (by decide)) (xn1 (xne_k hk9999d hk9999f (by decide)) (xn1 (xne_k hk9999d hk9999g (by decide)) (xn1 (xne_k hk9999d hk9999h (by decide)) (xn1 (xne_k hk9999d hk9999i (by decide)) (xn1 (xne_k hk9999d hk9999j (by decide)) (xn1 (xne_k hk9999d hk9999k (by decide)) (xn1 (xne_k hk9999d hk9999l (by decide)) (xn1 (xne_k hk9999d hk9999m (by decide)) xn0)))))))))).trans (hF4.2.1 _ xn0)) (hF4.2.2 _ xn0) (hF4.2.2 _ xn0) (hF41.1 _ _ (xnj (by decide) (xnj (by decide) xn0))) ((hF41.1 _ _ (xnj (by decide) (xnj (by decide) xn0))).trans (hF4.1 _ _ (xnj (by decide) xn0))) ((hF41.1 _ _ (xna (xne_k hk9999 hk9999a (by decide)) (xnj (by decide) xn0))).trans (hF4.1 _ _ (xnj (by decide) xn0))) ((hF41.1 _ _ (xnj (by decide) (xna (xne_j hj9999c hj9999b (by first | decide | omega)) xn0))).trans (hF4.1 _ _ (xnj (by decide) xn0))) ((hF41.1 _ _ (xnj (by decide) (xnj (by decide) xn0))).trans (hF4.1 _ _ (xnj (by decide) xn0)))) (v_X10_back_80_12 (K := K) (F := F) a q19 p0 G G41 G4 x48 ha hk9999 hj9999 hk9999a hj9999a hk9999b hj9999b hk9999c hj9999c hk9999d hj9999d hk9999e hj9999e hk9999f hj9999f hk9999g hj9999g hk9999h hj9999i hk9999i hj9999k hk9999j hj9999m hk9999k hj9999o hk9999l hj9999q hk9999m hj9999s hk9999n hj9999t hk9999o hj9999v hk9999p hj9999y hk9999q hj9999z26 hk9999r hj9999z28 hk9999s hj9999z30 hk9999t hj9999z32 hk9999u hj9999z34 hk9999v hj9999z36 hk9999w hj9999z37 hk9999y hj9999z38 hk9999z25 hj9999z39 hk9999z26 hj9999z40 hk9999z27 hj9999z42 hk9999z28 hj9999z44 hk9999z29 hj9999z45 hk9999z30 hj9999z47 hk9999z31 hj9999z49 hk9999z32 hj9999z50 hk19 ((hs19).1) hk30 hj30a hk30a hj30c (XFr.call (XFr.call XFr.rf hF4 (xm1 0 rfl xm0) xm0 xm0) hF41 (xm1 4 rfl (xm1 5 rfl xm0)) (xm1 1 rfl (xm1 2 rfl (xm1 3 rfl (xm1 4 rfl (xm1 5 rfl (xm1 6 rfl (xm1 7 rfl (xm1 8 rfl (xm1 9 rfl xm0))))))))) xm0) hF4 hF41 ron rob ro0 bko bkn rok hs19 oq41 oq48 sb sw t4 (xzi hz8) c11 ht19 t41 t48 c54 (hF4.2.1 _ xn0) (hF4.2.1 _ xn0) ((hF41.2.1 _ (xn1 (xne_k hk9999o hk9999e (by decide)) (xn1 (xne_k hk9999o hk9999f (by decide)) (xn1 (xne_k hk9999o hk9999g (by decide)) (xn1 (xne_k hk9999o hk9999h (by decide)) (xn1 (xne_k hk9999o hk9999i (by decide)) (xn1 (xne_k hk9999o hk9999j (by decide)) (xn1 (xne_k hk9999o hk9999k (by decide)) (xn1 (xne_k hk9999o hk9999l (by decide)) (xn1 (xne_k hk9999o hk9999m (by decide)) xn0)))))))))).trans (hF4.2.1 _ xn0)) ((hF41.2.1 _ (xn1 (xne_j hj9999y hj9999e (by first | decide | omega)) (xn1 (xne_j hj9999y hj9999f (by first | decide | omega)) (xn1 (xne_k hk9999p hk9999g (by decide)) (xn1 (xne_k hk9999p hk9999h (by decide)) (xn1 (xne_k hk9999p hk9999i (by decide)) (xn1 (xne_k hk9999p hk9999j (by decide)) (xn1 (xne_k hk9999p hk9999k (by decide)) (xn1 (xne_k hk9999p hk9999l (by decide)) (xn1 (xne_k hk9999p hk9999m (by decide)) xn0)))))))))).trans (hF4.2.1 _ xn0)) ((hF41.2.1 _ (xn1 (xne_k hk9999q hk9999e (by decide)) (xn1 (xne_k hk9999q hk9999f (by decide)) (xn1 (xne_k hk9999q hk9999g (by decide)) (xn1 (xne_j hj9999z26 hj9999i (by first | decide | omega)) (xn1 (xne_j hj9999z26 hj9999k (by first | decide | omega)) (xn1 (xne_j hj9999z26 hj9999m (by first | decide | omega)) (xn1 (xne_j hj9999z26 hj9999o (by first | decide | omega)) (xn1 (xne_k hk9999q hk9999l (by decide)) (xn1 (xne_k hk9999q hk9999m (by decide)) xn0)))))))))).trans (hF4.2.1 _ xn0)) ((hF41.2.1 _ (xn1 (xne_k hk9999r hk9999e (by decide)) (xn1 (xne_k hk9999r hk9999f (by decide)) (xn1 (xne_k hk9999r hk9999g (by decide)) (xn1 (xne_j hj9999z28 hj9999i (by first | decide | omega)) (xn1 (xne_j hj9999z28 hj9999k (by first | decide | omega)) (xn1 (xne_j hj9999z28 hj9999m (by first | decide | omega)) (xn1 (xne_j hj9999z28 hj9999o (by first | decide | omega)) (xn1 (xne_k hk9999r hk9999l (by decide)) (xn1 (xne_k hk9999r hk9999m (by decide)) xn0)))))))))).trans (hF4.2.1 _ xn0)) ((hF41.2.1 _ (xn1 (xne_k hk9999s hk9999e (by decide)) (xn1 (xne_k hk9999s hk9999f (by decide)) (xn1 (xne_k hk9999s hk9999g (by decide)) (xn1 (xne_j hj9999z30 hj9999i (by first | decide | omega)) (xn1 (xne_j hj9999z30 hj9999k (by first | decide | omega)) (xn1 (xne_j hj9999z30 hj9999m (by first | decide | omega)) (xn1 (xne_j hj9999z30 hj9999o (by first | decide | omega)) (xn1 (xne_k hk9999s hk9999l (by decide)) (xn1 (xne_k hk9999s hk9999m (by decide)) xn0)))))))))).trans (hF4.2.1 _ xn0)) ((hF41.2.1 _ (xn1 (xne_k hk9999t hk9999e (by decide)) (xn1 (xne_k hk9999t hk9999f (by decide)) (xn1 (xne_k hk9999t hk9999g (by decide)) (xn1 (xne_j hj9999z32 hj9999i (by first | decide | omega)) (xn1 (xne_j hj9999z32 hj9999k (by first | decide | omega)) (xn1 (xne_j hj9999z32 hj9999m (by first | decide | omega)) (xn1 (xne_j hj9999z32 hj9999o (by first | decide | omega)) (xn1 (xne_k hk9999t hk9999l (by decide)) (xn1 (xne_k hk9999t hk9999m (by decide)) xn0)))))))))).trans (hF4.2.1 _ xn0)) ((hF41.2.1 _ (xn1 (xne_k hk9999u hk9999e (by decide)) (xn1 (xne_k hk9999u hk9999f (by decide)) (xn1 (xne_k hk9999u hk9999g (by decide)) (xn1 (xne_k hk9999u hk9999h (by decide)) (xn1 (xne_k hk9999u hk9999i (by decide)) (xn1 (xne_k hk9999u hk9999j (by decide)) (xn1 (xne_k hk9999u hk9999k (by decide)) (xn1 (xne_j hj9999z34 hj9999q (by first | decide | omega)) (xn1 (xne_j hj9999z34 hj9999s (by first | decide | omega)) xn0)))))))))).trans (hF4.2.1 _ xn0)) ((hF41.2.1 _ (xn1 (xne_k hk9999v hk9999e (by decide)) (xn1 (xne_k hk9999v hk9999f (by decide)) (xn1 (xne_k hk9999v hk9999g (by decide)) (xn1 (xne_k hk9999v hk9999h (by decide)) (xn1 (xne_k hk9999v hk9999i (by decide)) (xn1 (xne_k hk9999v hk9999j (by decide)) (xn1 (xne_k hk9999v hk9999k (by decide)) (xn1 (xne_j hj9999z36 hj9999q (by first | decide | omega)) (xn1 (xne_j hj9999z36 hj9999s (by first | decide | omega)) xn0)))))))))).trans (hF4.2.1 _ xn0)) ((hF41.2.1 _ (xn1 (xne_k hk9999d hk9999e (by decide)) (xn1 (xne_k hk9999d hk9999f (by decide)) (xn1 (xne_k hk9999d hk9999g (by decide)) (xn1 (xne_k hk9999d hk9999h (by decide)) (xn1 (xne_k hk9999d hk9999i (by decide)) (xn1 (xne_k hk9999d hk9999j (by decide)) (xn1 (xne_k hk9999d hk9999k (by decide)) (xn1 (xne_k hk9999d hk9999l (by decide)) (xn1 (xne_k hk9999d hk9999m (by decide)) xn0)))))))))).trans (hF4.2.1 _ xn0)) (hF4.2.2 _ xn0) (hF4.2.2 _ xn0) (hF41.1 _ _ (xnj (by decide) (xnj (by decide) xn0))) ((hF41.1 _ _ (xnj (by decide) (xnj (by decide) xn0))).trans (hF4.1 _ _ (xnj (by decide) xn0))) ((hF41.1 _ _ (xna (xne_k hk9999 hk9999a (by decide)) (xnj (by decide) xn0))).trans (hF4.1 _ _ (xnj (by decide) xn0))) ((hF41.1 _ _ (xnj (by decide) (xna (xne_j hj9999c hj9999b (by first | decide | omega)) xn0))).trans (hF4.1 _ _ (xnj (by decide) xn0))) ((hF41.1 _ _ (xnj (by decide) (xnj (by decide) xn0))).trans (hF4.1 _ _ (xnj (by decide) xn0))))) mv_X10_gather km_X10_240 rfl rfl ⟨Nat.le_of_ble_eq_true rfl, Nat.le_of_ble_eq_true rfl⟩ (rc_12 hK hT ha) hK (fun _ => XP.blind) (fun U hU hW => XP.at hK hz hS hT hU hW) rfl hl.1 (Nat.le_of_ble_eq_true rfl) dX10_back_80 ⟨Nat.le_of_ble_eq_true rfl, Nat.le_of_ble_eq_true rfl⟩) hS ?_
        rintro G80 H locs ⟨hF80, t80, oq80⟩ hT hS
        have t80 : 0 ≤ ((G80.1 (F a 9) 6).toInt) ∧ ((G80.1 (F a 9) 6).toInt) ≤ 1080 := t80
        have oq80 : qL G80 F (F a 9) = gaL G41 (G41.2.2.1 (F (F a 2) 1)) (vw (G.2.1 (F (F a 3) 0))) (vw (G.2.1 (F q19 0))) (1 : Int) (((G.1 (F a 2) 2).toInt)).toNat := by simp only [(show G41.2.1 (F (F a 3) 0) = G.2.1 (F (F a 3) 0) from ((hF41.2.1 _ (xn1 (xne_k hk9999o hk9999e (by decide)) (xn1 (xne_k hk9999o hk9999f (by decide)) (xn1 (xne_k hk9999o hk9999g (by decide)) (xn1 (xne_k hk9999o hk9999h (by decide)) (xn1 (xne_k hk9999o hk9999i (by decide)) (xn1 (xne_k hk9999o hk9999j (by decide)) (xn1 (xne_k hk9999o hk9999k (by decide)) (xn1 (xne_k hk9999o hk9999l (by decide)) (xn1 (xne_k hk9999o hk9999m (by decide)) xn0)))))))))).trans (hF4.2.1 _ xn0))), (show G41.2.1 (F q19 0) = G.2.1 (F q19 0) from ((hF41.2.1 _ (xn1 (xne_k hk30 hk9999e (by decide)) (xn1 (xne_k hk30 hk9999f (by decide)) (xn1 (xne_k hk30 hk9999g (by decide)) (xn1 (xne_k hk30 hk9999h (by decide)) (xn1 (xne_k hk30 hk9999i (by decide)) (xn1 (xne_k hk30 hk9999j (by decide)) (xn1 (xne_k hk30 hk9999k (by decide)) (xn1 (xne_k hk30 hk9999l (by decide)) (xn1 (xne_k hk30 hk9999m (by decide)) xn0)))))))))).trans (hF4.2.1 _ xn0))), (show G41.1 (F a 2) 2 = G.1 (F a 2) 2 from ((hF41.1 _ _ (xnj (by decide) (xnj (by decide) xn0))).trans (hF4.1 _ _ (xnj (by decide) xn0))))] at oq80; exact oq80
        refine lv_aload_n hx hb dX10_back_83 rfl (lv_at hl 2 rfl) ?_
        refine lv_iconst (v := 1) hx hb dX10_back_84 (by decide) ?_
        refine x_cv0 (x_runV (b := a) (As := [.int 1]) (rest := []) S (c_X10_tally l E K F G80 a 1 ha (Or.inr rfl) (v_X10_back_85_13 (F := F) a G G80 ron rob ro0 ((hF80.2.1 _ (xn1 (xne_k hk9999z27 hk9999e (by decide)) (xn1 (xne_k hk9999z27 hk9999f (by decide)) (xn1 (xne_k hk9999z27 hk9999g (by decide)) (xn1 (xne_k hk9999z27 hk9999h (by decide)) (xn1 (xne_k hk9999z27 hk9999i (by decide)) (xn1 (xne_k hk9999z27 hk9999j (by decide)) (xn1 (xne_k hk9999z27 hk9999k (by decide)) (xn1 (xne_k hk9999z27 hk9999l (by decide)) (xn1 (xne_k hk9999z27 hk9999m (by decide)) xn0)))))))))).trans ((hF41.2.1 _ (xn1 (xne_k hk9999z27 hk9999e (by decide)) (xn1 (xne_k hk9999z27 hk9999f (by decide)) (xn1 (xne_k hk9999z27 hk9999g (by decide)) (xn1 (xne_k hk9999z27 hk9999h (by decide)) (xn1 (xne_k hk9999z27 hk9999i (by decide)) (xn1 (xne_k hk9999z27 hk9999j (by decide)) (xn1 (xne_k hk9999z27 hk9999k (by decide)) (xn1 (xne_k hk9999z27 hk9999l (by decide)) (xn1 (xne_k hk9999z27 hk9999m (by decide)) xn0)))))))))).trans (hF4.2.1 _ xn0))) ((hF80.2.1 _ (xn1 (xne_j hj9999z44 hj9999e (by first | decide | omega)) (xn1 (xne_j hj9999z44 hj9999f (by first | decide | omega)) (xn1 (xne_k hk9999z28 hk9999g (by decide)) (xn1 (xne_k hk9999z28 hk9999h (by decide)) (xn1 (xne_k hk9999z28 hk9999i (by decide)) (xn1 (xne_k hk9999z28 hk9999j (by decide)) (xn1 (xne_k hk9999z28 hk9999k (by decide)) (xn1 (xne_k hk9999z28 hk9999l (by decide)) (xn1 (xne_k hk9999z28 hk9999m (by decide)) xn0)))))))))).trans ((hF41.2.1 _ (xn1 (xne_j hj9999z44 hj9999e (by first | decide | omega)) (xn1 (xne_j hj9999z44 hj9999f (by first | decide | omega)) (xn1 (xne_k hk9999z28 hk9999g (by decide)) (xn1 (xne_k hk9999z28 hk9999h (by decide)) (xn1 (xne_k hk9999z28 hk9999i (by decide)) (xn1 (xne_k hk9999z28 hk9999j (by decide)) (xn1 (xne_k hk9999z28 hk9999k (by decide)) (xn1 (xne_k hk9999z28 hk9999l (by decide)) (xn1 (xne_k hk9999z28 hk9999m (by decide)) xn0)))))))))).trans (hF4.2.1 _ xn0)))) (v_X10_back_85_14 (K := K) (F := F) a q19 p0 G G80 G4 G41 x48 ha hk9999 hj9999 hk9999a hj9999a hk9999b hj9999b hk9999c hj9999c hk9999d hj9999d hk9999e hj9999e hk9999f hj9999f hk9999g hj9999g hk9999h hj9999i hk9999i hj9999k hk9999j hj9999m hk9999k hj9999o hk9999l hj9999q hk9999m hj9999s hk9999n hj9999t hk9999o hj9999v hk9999p hj9999y hk9999q hj9999z26 hk9999r hj9999z28 hk9999s hj9999z30 hk9999t hj9999z32 hk9999u hj9999z34 hk9999v hj9999z36 hk9999w hj9999z37 hk9999y hj9999z38 hk9999z25 hj9999z39 hk9999z26 hj9999z40 hk9999z27 hj9999z42 hk9999z28 hj9999z44 hk9999z29 hj9999z45 hk9999z30 hj9999z47 hk9999z31 hj9999z49 hk9999z32 hj9999z50 hk19 ((hs19).1) hk30 hj30a hk30a hj30c (XFr.call (XFr.call (XFr.call XFr.rf hF4 (xm1 0 rfl xm0) xm0 xm0) hF41 (xm1 4 rfl (xm1 5 rfl xm0)) (xm1 1 rfl (xm1 2 rfl (xm1 3 rfl (xm1 4 rfl (xm1 5 rfl (xm1 6 rfl (xm1 7 rfl (xm1 8 rfl (xm1 9 rfl xm0))))))))) xm0) hF80 (xm1 4 rfl (xm1 5 rfl xm0)) (xm1 1 rfl (xm1 2 rfl (xm1 3 rfl (xm1 4 rfl (xm1 5 rfl (xm1 6 rfl (xm1 7 rfl (xm1 8 rfl (xm1 9 rfl xm0))))))))) xm0) bkn hs19 sb sw t4 (xzi hz8) c11 ht19 t41 t48 c54 t80 ((hF80.2.2 _ xn0).trans ((hF41.2.2 _ xn0).trans (hF4.2.2 _ xn0))))) mv_X10_tally km_X10_251 rfl rfl ⟨Nat.le_of_ble_eq_true rfl, Nat.le_of_ble_eq_true rfl⟩ (rc_12 hK hT ha) hK (fun _ => XP.blind) (fun U hU hW => XP.at hK hz hS hT hU hW) rfl hl.1 (Nat.le_of_ble_eq_true rfl) dX10_back_85 ⟨Nat.le_of_ble_eq_true rfl, Nat.le_of_ble_eq_true rfl⟩) hS ?_
        rintro G85 H locs hF85 hT hS
        refine lv_aload_n hx hb dX10_back_88 rfl (lv_at hl 2 rfl) ?_
        refine gX10_3 S hK hT ha kf_X10_37 dX10_back_89 (fun _ _ => ?_)
        refine lv_aload_n hx hb dX10_back_92 rfl (lv_at hl 1 rfl) ?_
        refine x_cv0 (x_runV (b := (F a 3)) (As := [.ref q19]) (rest := []) S (c_X6_copy l E K F G85 (F a 3) q19 hk9999n hk19 (v_X10_back_93_15 (K := K) (F := F) a q19 p0 G G85 G4 G41 G80 x48 ha ((hs19).1) rok hs19 sb sw t4 (xzi hz8) c11 ht19 t41 t48 c54 t80 (hF4.2.1 _ xn0) (hF4.2.1 _ xn0) ((hF85.2.1 _ (xn1 (xne_k hk30 hk9999d (by decide)) xn0)).trans ((hF80.2.1 _ (xn1 (xne_k hk30 hk9999e (by decide)) (xn1 (xne_k hk30 hk9999f (by decide)) (xn1 (xne_k hk30 hk9999g (by decide)) (xn1 (xne_k hk30 hk9999h (by decide)) (xn1 (xne_k hk30 hk9999i (by decide)) (xn1 (xne_k hk30 hk9999j (by decide)) (xn1 (xne_k hk30 hk9999k (by decide)) (xn1 (xne_k hk30 hk9999l (by decide)) (xn1 (xne_k hk30 hk9999m (by decide)) xn0)))))))))).trans ((hF41.2.1 _ (xn1 (xne_k hk30 hk9999e (by decide)) (xn1 (xne_k hk30 hk9999f (by decide)) (xn1 (xne_k hk30 hk9999g (by decide)) (xn1 (xne_k hk30 hk9999h (by decide)) (xn1 (xne_k hk30 hk9999i (by decide)) (xn1 (xne_k hk30 hk9999j (by decide)) (xn1 (xne_k hk30 hk9999k (by decide)) (xn1 (xne_k hk30 hk9999l (by decide)) (xn1 (xne_k hk30 hk9999m (by decide)) xn0)))))))))).trans (hF4.2.1 _ xn0)))) ((hF85.2.1 _ (xn1 (xne_k hk30a hk9999d (by decide)) xn0)).trans ((hF80.2.1 _ (xn1 (xne_j hj30c hj9999e (by first | decide | omega)) (xn1 (xne_j hj30c hj9999f (by first | decide | omega)) (xn1 (xne_k hk30a hk9999g (by decide)) (xn1 (xne_k hk30a hk9999h (by decide)) (xn1 (xne_k hk30a hk9999i (by decide)) (xn1 (xne_k hk30a hk9999j (by decide)) (xn1 (xne_k hk30a hk9999k (by decide)) (xn1 (xne_k hk30a hk9999l (by decide)) (xn1 (xne_k hk30a hk9999m (by decide)) xn0)))))))))).trans ((hF41.2.1 _ (xn1 (xne_j hj30c hj9999e (by first | decide | omega)) (xn1 (xne_j hj30c hj9999f (by first | decide | omega)) (xn1 (xne_k hk30a hk9999g (by decide)) (xn1 (xne_k hk30a hk9999h (by decide)) (xn1 (xne_k hk30a hk9999i (by decide)) (xn1 (xne_k hk30a hk9999j (by decide)) (xn1 (xne_k hk30a hk9999k (by decide)) (xn1 (xne_k hk30a hk9999l (by decide)) (xn1 (xne_k hk30a hk9999m (by decide)) xn0)))))))))).trans (hF4.2.1 _ xn0)))) (hF4.2.2 _ xn0))) mv_X6_copy km_X10_195 rfl rfl ⟨Nat.le_of_ble_eq_true rfl, Nat.le_of_ble_eq_true rfl⟩ (rc_8 hK hT hk9999n) hK (fun _ => XP.blind) (fun U hU hW => XP.at hK hz hS hT hU hW) rfl hl.1 (Nat.le_of_ble_eq_true rfl) dX10_back_93 ⟨Nat.le_of_ble_eq_true rfl, Nat.le_of_ble_eq_true rfl⟩) hS ?_
        rintro G93 H locs ⟨hF93, oq93, oq93a⟩ hT hS
        have oq93 : (vw (G93.2.1 (F (F a 3) 0))) = (vw (G.2.1 (F q19 0))) := by simp only [(show G85.2.1 (F q19 0) = G.2.1 (F q19 0) from ((hF85.2.1 _ (xn1 (xne_k hk30 hk9999d (by decide)) xn0)).trans ((hF80.2.1 _ (xn1 (xne_k hk30 hk9999e (by decide)) (xn1 (xne_k hk30 hk9999f (by decide)) (xn1 (xne_k hk30 hk9999g (by decide)) (xn1 (xne_k hk30 hk9999h (by decide)) (xn1 (xne_k hk30 hk9999i (by decide)) (xn1 (xne_k hk30 hk9999j (by decide)) (xn1 (xne_k hk30 hk9999k (by decide)) (xn1 (xne_k hk30 hk9999l (by decide)) (xn1 (xne_k hk30 hk9999m (by decide)) xn0)))))))))).trans ((hF41.2.1 _ (xn1 (xne_k hk30 hk9999e (by decide)) (xn1 (xne_k hk30 hk9999f (by decide)) (xn1 (xne_k hk30 hk9999g (by decide)) (xn1 (xne_k hk30 hk9999h (by decide)) (xn1 (xne_k hk30 hk9999i (by decide)) (xn1 (xne_k hk30 hk9999j (by decide)) (xn1 (xne_k hk30 hk9999k (by decide)) (xn1 (xne_k hk30 hk9999l (by decide)) (xn1 (xne_k hk30 hk9999m (by decide)) xn0)))))))))).trans (hF4.2.1 _ xn0)))))] at oq93; exact oq93
        refine lv_aload_n hx hb dX10_back_96 rfl (lv_at hl 2 rfl) ?_
        refine lv_iload_n hx hb dX10_back_97 rfl (lv_at hl 3 rfl) ?_
        refine lv_iconst (v := 1) hx hb dX10_back_98 (by decide) ?_
        refine xi_iadd hx hb (rfl : Int32.toInt p0 = p0.toInt) ((by decide) : Int32.toInt 1 = (1 : Int)) dX10_back_99 (fun x99 t99 => ?_)
        have e99 : x99.toInt = (p0.toInt + (1 : Int)) := (z_X10_back_5 p0.toInt x99.toInt ((G.1 a 17).toInt) ht19 t99)
        refine pX10_17 (v := x99) S hK hT hS ha kf_X10_233 dX10_back_100 (fun H locs hT hS => ?_)
        obtain ⟨G100, hG100⟩ : ∃ GG : XG, GG = dput G93 a 17 x99 := ⟨_, rfl⟩
        rw [← hG100] at hT
        refine lv_aload_n hx hb dX10_back_103 rfl (lv_at hl 2 rfl) ?_
        refine lv_aload_n hx hb dX10_back_104 rfl (lv_at hl 2 rfl) ?_
        refine gX10_8 S hK hT ha kf_X10_57 dX10_back_105 (fun _ _ => ?_)
        refine lv_aload_n hx hb dX10_back_108 rfl (lv_at hl 2 rfl) ?_
        refine gX10_4 S hK hT ha kf_X10_41 dX10_back_109 (fun _ _ => ?_)
        refine lv_aload_n hx hb dX10_back_112 rfl (lv_at hl 2 rfl) ?_
        refine gX10_3 S hK hT ha kf_X10_37 dX10_back_113 (fun _ _ => ?_)
        refine lv_iconst (v := 1) hx hb dX10_back_116 (by decide) ?_
        refine x_cv0 (x_runV (b := a) (As := [.ref (F a 8), .ref (F a 4), .ref (F a 3), .int 1]) (rest := []) S (c_X10_gather l E K F G100 a (F a 8) (F a 4) (F a 3) 1 ha hk9999c hk9999z26 hk9999n (by rw [(show (G100.1 (F a 2) 2).toInt = ((G.1 (F a 2) 2).toInt) from (congrArg Int32.toInt ((ld_j hG100 (by decide)).trans ((hF93.1 _ _ xn0).trans ((hF85.1 _ _ xn0).trans ((hF80.1 _ _ (xnj (by decide) (xnj (by decide) xn0))).trans ((hF41.1 _ _ (xnj (by decide) (xnj (by decide) xn0))).trans (hF4.1 _ _ (xnj (by decide) xn0)))))))).trans (rfl : Int32.toInt (G.1 (F a 2) 2) = ((G.1 (F a 2) 2).toInt)))] <;> exact (sb)) (v_X10_back_117_16 (F := F) a G G100 G93 ron rob ro0 oq93a ((ld_c hG100).trans ((hF93.2.1 _ (xn1 (xne_j hj9999z42 hj9999v (by first | decide | omega)) (xn1 (xne_k hk9999z27 hk9999p (by decide)) xn0))).trans ((hF85.2.1 _ (xn1 (xne_k hk9999z27 hk9999d (by decide)) xn0)).trans ((hF80.2.1 _ (xn1 (xne_k hk9999z27 hk9999e (by decide)) (xn1 (xne_k hk9999z27 hk9999f (by decide)) (xn1 (xne_k hk9999z27 hk9999g (by decide)) (xn1 (xne_k hk9999z27 hk9999h (by decide)) (xn1 (xne_k hk9999z27 hk9999i (by decide)) (xn1 (xne_k hk9999z27 hk9999j (by decide)) (xn1 (xne_k hk9999z27 hk9999k (by decide)) (xn1 (xne_k hk9999z27 hk9999l (by decide)) (xn1 (xne_k hk9999z27 hk9999m (by decide)) xn0)))))))))).trans ((hF41.2.1 _ (xn1 (xne_k hk9999z27 hk9999e (by decide)) (xn1 (xne_k hk9999z27 hk9999f (by decide)) (xn1 (xne_k hk9999z27 hk9999g (by decide)) (xn1 (xne_k hk9999z27 hk9999h (by decide)) (xn1 (xne_k hk9999z27 hk9999i (by decide)) (xn1 (xne_k hk9999z27 hk9999j (by decide)) (xn1 (xne_k hk9999z27 hk9999k (by decide)) (xn1 (xne_k hk9999z27 hk9999l (by decide)) (xn1 (xne_k hk9999z27 hk9999m (by decide)) xn0)))))))))).trans (hF4.2.1 _ xn0)))))) ((ld_c hG100).trans ((hF93.2.1 _ (xn1 (xne_k hk9999z28 hk9999o (by decide)) (xn1 (xne_j hj9999z44 hj9999y (by first | decide | omega)) xn0))).trans ((hF85.2.1 _ (xn1 (xne_k hk9999z28 hk9999d (by decide)) xn0)).trans ((hF80.2.1 _ (xn1 (xne_j hj9999z44 hj9999e (by first | decide | omega)) (xn1 (xne_j hj9999z44 hj9999f (by first | decide | omega)) (xn1 (xne_k hk9999z28 hk9999g (by decide)) (xn1 (xne_k hk9999z28 hk9999h (by decide)) (xn1 (xne_k hk9999z28 hk9999i (by decide)) (xn1 (xne_k hk9999z28 hk9999j (by decide)) (xn1 (xne_k hk9999z28 hk9999k (by decide)) (xn1 (xne_k hk9999z28 hk9999l (by decide)) (xn1 (xne_k hk9999z28 hk9999m (by decide)) xn0)))))))))).trans ((hF41.2.1 _ (xn1 (xne_j hj9999z44 hj9999e (by first | decide | omega)) (xn1 (xne_j hj9999z44 hj9999f (by first | decide | omega)) (xn1 (xne_k hk9999z28 hk9999g (by decide)) (xn1 (xne_k hk9999z28 hk9999h (by decide)) (xn1 (xne_k hk9999z28 hk9999i (by decide)) (xn1 (xne_k hk9999z28 hk9999j (by decide)) (xn1 (xne_k hk9999z28 hk9999k (by decide)) (xn1 (xne_k hk9999z28 hk9999l (by decide)) (xn1 (xne_k hk9999z28 hk9999m (by decide)) xn0)))))))))).trans (hF4.2.1 _ xn0))))))) (v_X10_back_117_17 (F := F) a G G100 G93 ron rob ro0 oq93a (ld_c hG100) (ld_c hG100)) (v_X10_back_117_18 (K := K) (F := F) a q19 p0 G G100 G4 G41 G80 x48 ha hk9999 hj9999 hk9999a hj9999a hk9999b hj9999b hk9999c hj9999c hk9999d hj9999d hk9999e hj9999e hk9999f hj9999f hk9999g hj9999g hk9999h hj9999i hk9999i hj9999k hk9999j hj9999m hk9999k hj9999o hk9999l hj9999q hk9999m hj9999s hk9999n hj9999t hk9999o hj9999v hk9999p hj9999y hk9999q hj9999z26 hk9999r hj9999z28 hk9999s hj9999z30 hk9999t hj9999z32 hk9999u hj9999z34 hk9999v hj9999z36 hk9999w hj9999z37 hk9999y hj9999z38 hk9999z25 hj9999z39 hk9999z26 hj9999z40 hk9999z27 hj9999z42 hk9999z28 hj9999z44 hk9999z29 hj9999z45 hk9999z30 hj9999z47 hk9999z31 hj9999z49 hk9999z32 hj9999z50 hk19 ((hs19).1) hk30 hj30a hk30a hj30c (by rw [hG100]; exact XFr.dput (XFr.call (XFr.call (XFr.call (XFr.call (XFr.call XFr.rf hF4 (xm1 0 rfl xm0) xm0 xm0) hF41 (xm1 4 rfl (xm1 5 rfl xm0)) (xm1 1 rfl (xm1 2 rfl (xm1 3 rfl (xm1 4 rfl (xm1 5 rfl (xm1 6 rfl (xm1 7 rfl (xm1 8 rfl (xm1 9 rfl xm0))))))))) xm0) hF80 (xm1 4 rfl (xm1 5 rfl xm0)) (xm1 1 rfl (xm1 2 rfl (xm1 3 rfl (xm1 4 rfl (xm1 5 rfl (xm1 6 rfl (xm1 7 rfl (xm1 8 rfl (xm1 9 rfl xm0))))))))) xm0) hF85 xm0 (xm1 0 rfl xm0) xm0) hF93 xm0 (xm1 10 rfl (xm1 11 rfl xm0)) xm0) (List.mem_of_getElem? (i := 3) rfl)) bko hs19 sb sw t4 (xzi hz8) c11 ht19 t41 t48 c54 t80 ((ld_r hG100).trans ((hF93.2.2 _ xn0).trans ((hF85.2.2 _ xn0).trans ((hF80.2.2 _ xn0).trans ((hF41.2.2 _ xn0).trans (hF4.2.2 _ xn0)))))) (hF4.2.2 _ xn0) ((hF41.2.2 _ xn0).trans (hF4.2.2 _ xn0))) (v_X10_back_117_19 (K := K) (F := F) a q19 p0 G G100 G4 G41 G80 G85 G93 x99 x48 ha hk9999 hj9999 hk9999a hj9999a hk9999b hj9999b hk9999c hj9999c hk9999d hj9999d hk9999e hj9999e hk9999f hj9999f hk9999g hj9999g hk9999h hj9999i hk9999i hj9999k hk9999j hj9999m hk9999k hj9999o hk9999l hj9999q hk9999m hj9999s hk9999n hj9999t hk9999o hj9999v hk9999p hj9999y hk9999q hj9999z26 hk9999r hj9999z28 hk9999s hj9999z30 hk9999t hj9999z32 hk9999u hj9999z34 hk9999v hj9999z36 hk9999w hj9999z37 hk9999y hj9999z38 hk9999z25 hj9999z39 hk9999z26 hj9999z40 hk9999z27 hj9999z42 hk9999z28 hj9999z44 hk9999z29 hj9999z45 hk9999z30 hj9999z47 hk9999z31 hj9999z49 hk9999z32 hj9999z50 hk19 ((hs19).1) hk30 hj30a hk30a hj30c (by rw [hG100]; exact XFr.dput (XFr.call (XFr.call (XFr.call (XFr.call (XFr.call XFr.rf hF4 (xm1 0 rfl xm0) xm0 xm0) hF41 (xm1 4 rfl (xm1 5 rfl xm0)) (xm1 1 rfl (xm1 2 rfl (xm1 3 rfl (xm1 4 rfl (xm1 5 rfl (xm1 6 rfl (xm1 7 rfl (xm1 8 rfl (xm1 9 rfl xm0))))))))) xm0) hF80 (xm1 4 rfl (xm1 5 rfl xm0)) (xm1 1 rfl (xm1 2 rfl (xm1 3 rfl (xm1 4 rfl (xm1 5 rfl (xm1 6 rfl (xm1 7 rfl (xm1 8 rfl (xm1 9 rfl xm0))))))))) xm0) hF85 xm0 (xm1 0 rfl xm0) xm0) hF93 xm0 (xm1 10 rfl (xm1 11 rfl xm0)) xm0) (List.mem_of_getElem? (i := 3) rfl)) hF4 hF41 hF80 hF85 hF93 hG100 ron rob ro0 bko bkn rok hs19 oq41 oq48 oq80 oq93 oq93a e99 sb sw t4 (xzi hz8) c11 ht19 t41 t48 c54 t80 ((ld_c hG100).trans ((hF93.2.1 _ (xn1 (xne_k hk9999e hk9999o (by decide)) (xn1 (xne_j hj9999e hj9999y (by first | decide | omega)) xn0))).trans (hF85.2.1 _ (xn1 (xne_k hk9999e hk9999d (by decide)) xn0)))) ((ld_c hG100).trans ((hF93.2.1 _ (xn1 (xne_k hk9999f hk9999o (by decide)) (xn1 (xne_j hj9999f hj9999y (by first | decide | omega)) xn0))).trans (hF85.2.1 _ (xn1 (xne_k hk9999f hk9999d (by decide)) xn0)))) ((ld_c hG100).trans ((hF93.2.1 _ (xn1 (xne_k hk9999g hk9999o (by decide)) (xn1 (xne_k hk9999g hk9999p (by decide)) xn0))).trans (hF85.2.1 _ (xn1 (xne_k hk9999g hk9999d (by decide)) xn0)))) (ld_c hG100) (ld_c hG100) ((ld_c hG100).trans ((hF93.2.1 _ (xn1 (xne_k hk9999q hk9999o (by decide)) (xn1 (xne_k hk9999q hk9999p (by decide)) xn0))).trans ((hF85.2.1 _ (xn1 (xne_k hk9999q hk9999d (by decide)) xn0)).trans ((hF80.2.1 _ (xn1 (xne_k hk9999q hk9999e (by decide)) (xn1 (xne_k hk9999q hk9999f (by decide)) (xn1 (xne_k hk9999q hk9999g (by decide)) (xn1 (xne_j hj9999z26 hj9999i (by first | decide | omega)) (xn1 (xne_j hj9999z26 hj9999k (by first | decide | omega)) (xn1 (xne_j hj9999z26 hj9999m (by first | decide | omega)) (xn1 (xne_j hj9999z26 hj9999o (by first | decide | omega)) (xn1 (xne_k hk9999q hk9999l (by decide)) (xn1 (xne_k hk9999q hk9999m (by decide)) xn0)))))))))).trans ((hF41.2.1 _ (xn1 (xne_k hk9999q hk9999e (by decide)) (xn1 (xne_k hk9999q hk9999f (by decide)) (xn1 (xne_k hk9999q hk9999g (by decide)) (xn1 (xne_j hj9999z26 hj9999i (by first | decide | omega)) (xn1 (xne_j hj9999z26 hj9999k (by first | decide | omega)) (xn1 (xne_j hj9999z26 hj9999m (by first | decide | omega)) (xn1 (xne_j hj9999z26 hj9999o (by first | decide | omega)) (xn1 (xne_k hk9999q hk9999l (by decide)) (xn1 (xne_k hk9999q hk9999m (by decide)) xn0)))))))))).trans (hF4.2.1 _ xn0)))))) ((ld_c hG100).trans ((hF93.2.1 _ (xn1 (xne_k hk9999r hk9999o (by decide)) (xn1 (xne_k hk9999r hk9999p (by decide)) xn0))).trans ((hF85.2.1 _ (xn1 (xne_k hk9999r hk9999d (by decide)) xn0)).trans ((hF80.2.1 _ (xn1 (xne_k hk9999r hk9999e (by decide)) (xn1 (xne_k hk9999r hk9999f (by decide)) (xn1 (xne_k hk9999r hk9999g (by decide)) (xn1 (xne_j hj9999z28 hj9999i (by first | decide | omega)) (xn1 (xne_j hj9999z28 hj9999k (by first | decide | omega)) (xn1 (xne_j hj9999z28 hj9999m (by first | decide | omega)) (xn1 (xne_j hj9999z28 hj9999o (by first | decide | omega)) (xn1 (xne_k hk9999r hk9999l (by decide)) (xn1 (xne_k hk9999r hk9999m (by decide)) xn0)))))))))).trans ((hF41.2.1 _ (xn1 (xne_k hk9999r hk9999e (by decide)) (xn1 (xne_k hk9999r hk9999f (by decide)) (xn1 (xne_k hk9999r hk9999g (by decide)) (xn1 (xne_j hj9999z28 hj9999i (by first | decide | omega)) (xn1 (xne_j hj9999z28 hj9999k (by first | decide | omega)) (xn1 (xne_j hj9999z28 hj9999m (by first | decide | omega)) (xn1 (xne_j hj9999z28 hj9999o (by first | decide | omega)) (xn1 (xne_k hk9999r hk9999l (by decide)) (xn1 (xne_k hk9999r hk9999m (by decide)) xn0)))))))))).trans (hF4.2.1 _ xn0)))))) ((ld_c hG100).trans ((hF93.2.1 _ (xn1 (xne_k hk9999s hk9999o (by decide)) (xn1 (xne_k hk9999s hk9999p (by decide)) xn0))).trans ((hF85.2.1 _ (xn1 (xne_k hk9999s hk9999d (by decide)) xn0)).trans ((hF80.2.1 _ (xn1 (xne_k hk9999s hk9999e (by decide)) (xn1 (xne_k hk9999s hk9999f (by decide)) (xn1 (xne_k hk9999s hk9999g (by decide)) (xn1 (xne_j hj9999z30 hj9999i (by first | decide | omega)) (xn1 (xne_j hj9999z30 hj9999k (by first | decide | omega)) (xn1 (xne_j hj9999z30 hj9999m (by first | decide | omega)) (xn1 (xne_j hj9999z30 hj9999o (by first | decide | omega)) (xn1 (xne_k hk9999s hk9999l (by decide)) (xn1 (xne_k hk9999s hk9999m (by decide)) xn0)))))))))).trans ((hF41.2.1 _ (xn1 (xne_k hk9999s hk9999e (by decide)) (xn1 (xne_k hk9999s hk9999f (by decide)) (xn1 (xne_k hk9999s hk9999g (by decide)) (xn1 (xne_j hj9999z30 hj9999i (by first | decide | omega)) (xn1 (xne_j hj9999z30 hj9999k (by first | decide | omega)) (xn1 (xne_j hj9999z30 hj9999m (by first | decide | omega)) (xn1 (xne_j hj9999z30 hj9999o (by first | decide | omega)) (xn1 (xne_k hk9999s hk9999l (by decide)) (xn1 (xne_k hk9999s hk9999m (by decide)) xn0)))))))))).trans (hF4.2.1 _ xn0)))))) ((ld_c hG100).trans ((hF93.2.1 _ (xn1 (xne_k hk9999t hk9999o (by decide)) (xn1 (xne_k hk9999t hk9999p (by decide)) xn0))).trans ((hF85.2.1 _ (xn1 (xne_k hk9999t hk9999d (by decide)) xn0)).trans ((hF80.2.1 _ (xn1 (xne_k hk9999t hk9999e (by decide)) (xn1 (xne_k hk9999t hk9999f (by decide)) (xn1 (xne_k hk9999t hk9999g (by decide)) (xn1 (xne_j hj9999z32 hj9999i (by first | decide | omega)) (xn1 (xne_j hj9999z32 hj9999k (by first | decide | omega)) (xn1 (xne_j hj9999z32 hj9999m (by first | decide | omega)) (xn1 (xne_j hj9999z32 hj9999o (by first | decide | omega)) (xn1 (xne_k hk9999t hk9999l (by decide)) (xn1 (xne_k hk9999t hk9999m (by decide)) xn0)))))))))).trans ((hF41.2.1 _ (xn1 (xne_k hk9999t hk9999e (by decide)) (xn1 (xne_k hk9999t hk9999f (by decide)) (xn1 (xne_k hk9999t hk9999g (by decide)) (xn1 (xne_j hj9999z32 hj9999i (by first | decide | omega)) (xn1 (xne_j hj9999z32 hj9999k (by first | decide | omega)) (xn1 (xne_j hj9999z32 hj9999m (by first | decide | omega)) (xn1 (xne_j hj9999z32 hj9999o (by first | decide | omega)) (xn1 (xne_k hk9999t hk9999l (by decide)) (xn1 (xne_k hk9999t hk9999m (by decide)) xn0)))))))))).trans (hF4.2.1 _ xn0)))))) ((ld_c hG100).trans ((hF93.2.1 _ (xn1 (xne_k hk9999u hk9999o (by decide)) (xn1 (xne_k hk9999u hk9999p (by decide)) xn0))).trans ((hF85.2.1 _ (xn1 (xne_k hk9999u hk9999d (by decide)) xn0)).trans ((hF80.2.1 _ (xn1 (xne_k hk9999u hk9999e (by decide)) (xn1 (xne_k hk9999u hk9999f (by decide)) (xn1 (xne_k hk9999u hk9999g (by decide)) (xn1 (xne_k hk9999u hk9999h (by decide)) (xn1 (xne_k hk9999u hk9999i (by decide)) (xn1 (xne_k hk9999u hk9999j (by decide)) (xn1 (xne_k hk9999u hk9999k (by decide)) (xn1 (xne_j hj9999z34 hj9999q (by first | decide | omega)) (xn1 (xne_j hj9999z34 hj9999s (by first | decide | omega)) xn0)))))))))).trans ((hF41.2.1 _ (xn1 (xne_k hk9999u hk9999e (by decide)) (xn1 (xne_k hk9999u hk9999f (by decide)) (xn1 (xne_k hk9999u hk9999g (by decide)) (xn1 (xne_k hk9999u hk9999h (by decide)) (xn1 (xne_k hk9999u hk9999i (by decide)) (xn1 (xne_k hk9999u hk9999j (by decide)) (xn1 (xne_k hk9999u hk9999k (by decide)) (xn1 (xne_j hj9999z34 hj9999q (by first | decide | omega)) (xn1 (xne_j hj9999z34 hj9999s (by first | decide | omega)) xn0)))))))))).trans (hF4.2.1 _ xn0)))))) ((ld_c hG100).trans ((hF93.2.1 _ (xn1 (xne_k hk9999v hk9999o (by decide)) (xn1 (xne_k hk9999v hk9999p (by decide)) xn0))).trans ((hF85.2.1 _ (xn1 (xne_k hk9999v hk9999d (by decide)) xn0)).trans ((hF80.2.1 _ (xn1 (xne_k hk9999v hk9999e (by decide)) (xn1 (xne_k hk9999v hk9999f (by decide)) (xn1 (xne_k hk9999v hk9999g (by decide)) (xn1 (xne_k hk9999v hk9999h (by decide)) (xn1 (xne_k hk9999v hk9999i (by decide)) (xn1 (xne_k hk9999v hk9999j (by decide)) (xn1 (xne_k hk9999v hk9999k (by decide)) (xn1 (xne_j hj9999z36 hj9999q (by first | decide | omega)) (xn1 (xne_j hj9999z36 hj9999s (by first | decide | omega)) xn0)))))))))).trans ((hF41.2.1 _ (xn1 (xne_k hk9999v hk9999e (by decide)) (xn1 (xne_k hk9999v hk9999f (by decide)) (xn1 (xne_k hk9999v hk9999g (by decide)) (xn1 (xne_k hk9999v hk9999h (by decide)) (xn1 (xne_k hk9999v hk9999i (by decide)) (xn1 (xne_k hk9999v hk9999j (by decide)) (xn1 (xne_k hk9999v hk9999k (by decide)) (xn1 (xne_j hj9999z36 hj9999q (by first | decide | omega)) (xn1 (xne_j hj9999z36 hj9999s (by first | decide | omega)) xn0)))))))))).trans (hF4.2.1 _ xn0)))))) ((ld_c hG100).trans ((hF93.2.1 _ (xn1 (xne_k hk9999h hk9999o (by decide)) (xn1 (xne_k hk9999h hk9999p (by decide)) xn0))).trans (hF85.2.1 _ (xn1 (xne_k hk9999h hk9999d (by decide)) xn0)))) ((ld_c hG100).trans ((hF93.2.1 _ (xn1 (xne_k hk9999i hk9999o (by decide)) (xn1 (xne_k hk9999i hk9999p (by decide)) xn0))).trans (hF85.2.1 _ (xn1 (xne_k hk9999i hk9999d (by decide)) xn0)))) ((ld_c hG100).trans ((hF93.2.1 _ (xn1 (xne_k hk9999j hk9999o (by decide)) (xn1 (xne_k hk9999j hk9999p (by decide)) xn0))).trans (hF85.2.1 _ (xn1 (xne_k hk9999j hk9999d (by decide)) xn0)))) ((ld_c hG100).trans ((hF93.2.1 _ (xn1 (xne_k hk9999k hk9999o (by decide)) (xn1 (xne_k hk9999k hk9999p (by decide)) xn0))).trans (hF85.2.1 _ (xn1 (xne_k hk9999k hk9999d (by decide)) xn0)))) ((ld_c hG100).trans ((hF93.2.1 _ (xn1 (xne_k hk9999l hk9999o (by decide)) (xn1 (xne_k hk9999l hk9999p (by decide)) xn0))).trans (hF85.2.1 _ (xn1 (xne_k hk9999l hk9999d (by decide)) xn0)))) ((ld_c hG100).trans ((hF93.2.1 _ (xn1 (xne_k hk9999m hk9999o (by decide)) (xn1 (xne_k hk9999m hk9999p (by decide)) xn0))).trans (hF85.2.1 _ (xn1 (xne_k hk9999m hk9999d (by decide)) xn0)))) ((ld_c hG100).trans (hF93.2.1 _ (xn1 (xne_k hk9999d hk9999o (by decide)) (xn1 (xne_k hk9999d hk9999p (by decide)) xn0)))) (hF4.2.1 _ xn0) (hF4.2.1 _ xn0) ((ld_r hG100).trans ((hF93.2.2 _ xn0).trans ((hF85.2.2 _ xn0).trans ((hF80.2.2 _ xn0).trans ((hF41.2.2 _ xn0).trans (hF4.2.2 _ xn0)))))) (hF4.2.2 _ xn0) (hF4.2.2 _ xn0) ((hF41.2.2 _ xn0).trans (hF4.2.2 _ xn0)) ((ld_j hG100 (by decide)).trans ((hF93.1 _ _ xn0).trans (hF85.1 _ _ xn0))) ((ld_j hG100 (by decide)).trans ((hF93.1 _ _ xn0).trans ((hF85.1 _ _ xn0).trans ((hF80.1 _ _ (xnj (by decide) (xnj (by decide) xn0))).trans (hF41.1 _ _ (xnj (by decide) (xnj (by decide) xn0))))))) ((ld_j hG100 (by decide)).trans ((hF93.1 _ _ xn0).trans ((hF85.1 _ _ xn0).trans ((hF80.1 _ _ (xnj (by decide) (xnj (by decide) xn0))).trans ((hF41.1 _ _ (xnj (by decide) (xnj (by decide) xn0))).trans (hF4.1 _ _ (xnj (by decide) xn0))))))) ((ld_j hG100 (by decide)).trans ((hF93.1 _ _ xn0).trans ((hF85.1 _ _ xn0).trans ((hF80.1 _ _ (xna (xne_k hk9999 hk9999a (by decide)) (xnj (by decide) xn0))).trans ((hF41.1 _ _ (xna (xne_k hk9999 hk9999a (by decide)) (xnj (by decide) xn0))).trans (hF4.1 _ _ (xnj (by decide) xn0))))))) ((ld_j hG100 (by decide)).trans ((hF93.1 _ _ xn0).trans ((hF85.1 _ _ xn0).trans ((hF80.1 _ _ (xnj (by decide) (xna (xne_j hj9999c hj9999b (by first | decide | omega)) xn0))).trans ((hF41.1 _ _ (xnj (by decide) (xna (xne_j hj9999c hj9999b (by first | decide | omega)) xn0))).trans (hF4.1 _ _ (xnj (by decide) xn0))))))) ((ld_j hG100 (by decide)).trans ((hF93.1 _ _ xn0).trans (hF85.1 _ _ xn0))) (ld_at hG100)) (v_X10_back_117_20 (K := K) (F := F) a q19 p0 G G100 G4 G41 G80 G85 G93 x99 x48 ha hk9999 hj9999 hk9999a hj9999a hk9999b hj9999b hk9999c hj9999c hk9999d hj9999d hk9999e hj9999e hk9999f hj9999f hk9999g hj9999g hk9999h hj9999i hk9999i hj9999k hk9999j hj9999m hk9999k hj9999o hk9999l hj9999q hk9999m hj9999s hk9999n hj9999t hk9999o hj9999v hk9999p hj9999y hk9999q hj9999z26 hk9999r hj9999z28 hk9999s hj9999z30 hk9999t hj9999z32 hk9999u hj9999z34 hk9999v hj9999z36 hk9999w hj9999z37 hk9999y hj9999z38 hk9999z25 hj9999z39 hk9999z26 hj9999z40 hk9999z27 hj9999z42 hk9999z28 hj9999z44 hk9999z29 hj9999z45 hk9999z30 hj9999z47 hk9999z31 hj9999z49 hk9999z32 hj9999z50 hk19 ((hs19).1) hk30 hj30a hk30a hj30c (by rw [hG100]; exact XFr.dput (XFr.call (XFr.call (XFr.call (XFr.call (XFr.call XFr.rf hF4 (xm1 0 rfl xm0) xm0 xm0) hF41 (xm1 4 rfl (xm1 5 rfl xm0)) (xm1 1 rfl (xm1 2 rfl (xm1 3 rfl (xm1 4 rfl (xm1 5 rfl (xm1 6 rfl (xm1 7 rfl (xm1 8 rfl (xm1 9 rfl xm0))))))))) xm0) hF80 (xm1 4 rfl (xm1 5 rfl xm0)) (xm1 1 rfl (xm1 2 rfl (xm1 3 rfl (xm1 4 rfl (xm1 5 rfl (xm1 6 rfl (xm1 7 rfl (xm1 8 rfl (xm1 9 rfl xm0))))))))) xm0) hF85 xm0 (xm1 0 rfl xm0) xm0) hF93 xm0 (xm1 10 rfl (xm1 11 rfl xm0)) xm0) (List.mem_of_getElem? (i := 3) rfl)) hF4 hF41 hF80 hF85 hF93 hG100 ron rob ro0 bko bkn rok hs19 oq41 oq48 oq80 oq93 oq93a e99 sb sw t4 (xzi hz8) c11 ht19 t41 t48 c54 t80 ((ld_c hG100).trans ((hF93.2.1 _ (xn1 (xne_k hk9999e hk9999o (by decide)) (xn1 (xne_j hj9999e hj9999y (by first | decide | omega)) xn0))).trans (hF85.2.1 _ (xn1 (xne_k hk9999e hk9999d (by decide)) xn0)))) ((ld_c hG100).trans ((hF93.2.1 _ (xn1 (xne_k hk9999f hk9999o (by decide)) (xn1 (xne_j hj9999f hj9999y (by first | decide | omega)) xn0))).trans (hF85.2.1 _ (xn1 (xne_k hk9999f hk9999d (by decide)) xn0)))) ((ld_c hG100).trans ((hF93.2.1 _ (xn1 (xne_k hk9999g hk9999o (by decide)) (xn1 (xne_k hk9999g hk9999p (by decide)) xn0))).trans (hF85.2.1 _ (xn1 (xne_k hk9999g hk9999d (by decide)) xn0)))) (ld_c hG100) (ld_c hG100) ((ld_c hG100).trans ((hF93.2.1 _ (xn1 (xne_k hk9999q hk9999o (by decide)) (xn1 (xne_k hk9999q hk9999p (by decide)) xn0))).trans ((hF85.2.1 _ (xn1 (xne_k hk9999q hk9999d (by decide)) xn0)).trans ((hF80.2.1 _ (xn1 (xne_k hk9999q hk9999e (by decide)) (xn1 (xne_k hk9999q hk9999f (by decide)) (xn1 (xne_k hk9999q hk9999g (by decide)) (xn1 (xne_j hj9999z26 hj9999i (by first | decide | omega)) (xn1 (xne_j hj9999z26 hj9999k (by first | decide | omega)) (xn1 (xne_j hj9999z26 hj9999m (by first | decide | omega)) (xn1 (xne_j hj9999z26 hj9999o (by first | decide | omega)) (xn1 (xne_k hk9999q hk9999l (by decide)) (xn1 (xne_k hk9999q hk9999m (by decide)) xn0)))))))))).trans ((hF41.2.1 _ (xn1 (xne_k hk9999q hk9999e (by decide)) (xn1 (xne_k hk9999q hk9999f (by decide)) (xn1 (xne_k hk9999q hk9999g (by decide)) (xn1 (xne_j hj9999z26 hj9999i (by first | decide | omega)) (xn1 (xne_j hj9999z26 hj9999k (by first | decide | omega)) (xn1 (xne_j hj9999z26 hj9999m (by first | decide | omega)) (xn1 (xne_j hj9999z26 hj9999o (by first | decide | omega)) (xn1 (xne_k hk9999q hk9999l (by decide)) (xn1 (xne_k hk9999q hk9999m (by decide)) xn0)))))))))).trans (hF4.2.1 _ xn0)))))) ((ld_c hG100).trans ((hF93.2.1 _ (xn1 (xne_k hk9999r hk9999o (by decide)) (xn1 (xne_k hk9999r hk9999p (by decide)) xn0))).trans ((hF85.2.1 _ (xn1 (xne_k hk9999r hk9999d (by decide)) xn0)).trans ((hF80.2.1 _ (xn1 (xne_k hk9999r hk9999e (by decide)) (xn1 (xne_k hk9999r hk9999f (by decide)) (xn1 (xne_k hk9999r hk9999g (by decide)) (xn1 (xne_j hj9999z28 hj9999i (by first | decide | omega)) (xn1 (xne_j hj9999z28 hj9999k (by first | decide | omega)) (xn1 (xne_j hj9999z28 hj9999m (by first | decide | omega)) (xn1 (xne_j hj9999z28 hj9999o (by first | decide | omega)) (xn1 (xne_k hk9999r hk9999l (by decide)) (xn1 (xne_k hk9999r hk9999m (by decide)) xn0)))))))))).trans ((hF41.2.1 _ (xn1 (xne_k hk9999r hk9999e (by decide)) (xn1 (xne_k hk9999r hk9999f (by decide)) (xn1 (xne_k hk9999r hk9999g (by decide)) (xn1 (xne_j hj9999z28 hj9999i (by first | decide | omega)) (xn1 (xne_j hj9999z28 hj9999k (by first | decide | omega)) (xn1 (xne_j hj9999z28 hj9999m (by first | decide | omega)) (xn1 (xne_j hj9999z28 hj9999o (by first | decide | omega)) (xn1 (xne_k hk9999r hk9999l (by decide)) (xn1 (xne_k hk9999r hk9999m (by decide)) xn0)))))))))).trans (hF4.2.1 _ xn0)))))) ((ld_c hG100).trans ((hF93.2.1 _ (xn1 (xne_k hk9999s hk9999o (by decide)) (xn1 (xne_k hk9999s hk9999p (by decide)) xn0))).trans ((hF85.2.1 _ (xn1 (xne_k hk9999s hk9999d (by decide)) xn0)).trans ((hF80.2.1 _ (xn1 (xne_k hk9999s hk9999e (by decide)) (xn1 (xne_k hk9999s hk9999f (by decide)) (xn1 (xne_k hk9999s hk9999g (by decide)) (xn1 (xne_j hj9999z30 hj9999i (by first | decide | omega)) (xn1 (xne_j hj9999z30 hj9999k (by first | decide | omega)) (xn1 (xne_j hj9999z30 hj9999m (by first | decide | omega)) (xn1 (xne_j hj9999z30 hj9999o (by first | decide | omega)) (xn1 (xne_k hk9999s hk9999l (by decide)) (xn1 (xne_k hk9999s hk9999m (by decide)) xn0)))))))))).trans ((hF41.2.1 _ (xn1 (xne_k hk9999s hk9999e (by decide)) (xn1 (xne_k hk9999s hk9999f (by decide)) (xn1 (xne_k hk9999s hk9999g (by decide)) (xn1 (xne_j hj9999z30 hj9999i (by first | decide | omega)) (xn1 (xne_j hj9999z30 hj9999k (by first | decide | omega)) (xn1 (xne_j hj9999z30 hj9999m (by first | decide | omega)) (xn1 (xne_j hj9999z30 hj9999o (by first | decide | omega)) (xn1 (xne_k hk9999s hk9999l (by decide)) (xn1 (xne_k hk9999s hk9999m (by decide)) xn0)))))))))).trans (hF4.2.1 _ xn0)))))) ((ld_c hG100).trans ((hF93.2.1 _ (xn1 (xne_k hk9999t hk9999o (by decide)) (xn1 (xne_k hk9999t hk9999p (by decide)) xn0))).trans ((hF85.2.1 _ (xn1 (xne_k hk9999t hk9999d (by decide)) xn0)).trans ((hF80.2.1 _ (xn1 (xne_k hk9999t hk9999e (by decide)) (xn1 (xne_k hk9999t hk9999f (by decide)) (xn1 (xne_k hk9999t hk9999g (by decide)) (xn1 (xne_j hj9999z32 hj9999i (by first | decide | omega)) (xn1 (xne_j hj9999z32 hj9999k (by first | decide | omega)) (xn1 (xne_j hj9999z32 hj9999m (by first | decide | omega)) (xn1 (xne_j hj9999z32 hj9999o (by first | decide | omega)) (xn1 (xne_k hk9999t hk9999l (by decide)) (xn1 (xne_k hk9999t hk9999m (by decide)) xn0)))))))))).trans ((hF41.2.1 _ (xn1 (xne_k hk9999t hk9999e (by decide)) (xn1 (xne_k hk9999t hk9999f (by decide)) (xn1 (xne_k hk9999t hk9999g (by decide)) (xn1 (xne_j hj9999z32 hj9999i (by first | decide | omega)) (xn1 (xne_j hj9999z32 hj9999k (by first | decide | omega)) (xn1 (xne_j hj9999z32 hj9999m (by first | decide | omega)) (xn1 (xne_j hj9999z32 hj9999o (by first | decide | omega)) (xn1 (xne_k hk9999t hk9999l (by decide)) (xn1 (xne_k hk9999t hk9999m (by decide)) xn0)))))))))).trans (hF4.2.1 _ xn0)))))) ((ld_c hG100).trans ((hF93.2.1 _ (xn1 (xne_k hk9999u hk9999o (by decide)) (xn1 (xne_k hk9999u hk9999p (by decide)) xn0))).trans ((hF85.2.1 _ (xn1 (xne_k hk9999u hk9999d (by decide)) xn0)).trans ((hF80.2.1 _ (xn1 (xne_k hk9999u hk9999e (by decide)) (xn1 (xne_k hk9999u hk9999f (by decide)) (xn1 (xne_k hk9999u hk9999g (by decide)) (xn1 (xne_k hk9999u hk9999h (by decide)) (xn1 (xne_k hk9999u hk9999i (by decide)) (xn1 (xne_k hk9999u hk9999j (by decide)) (xn1 (xne_k hk9999u hk9999k (by decide)) (xn1 (xne_j hj9999z34 hj9999q (by first | decide | omega)) (xn1 (xne_j hj9999z34 hj9999s (by first | decide | omega)) xn0)))))))))).trans ((hF41.2.1 _ (xn1 (xne_k hk9999u hk9999e (by decide)) (xn1 (xne_k hk9999u hk9999f (by decide)) (xn1 (xne_k hk9999u hk9999g (by decide)) (xn1 (xne_k hk9999u hk9999h (by decide)) (xn1 (xne_k hk9999u hk9999i (by decide)) (xn1 (xne_k hk9999u hk9999j (by decide)) (xn1 (xne_k hk9999u hk9999k (by decide)) (xn1 (xne_j hj9999z34 hj9999q (by first | decide | omega)) (xn1 (xne_j hj9999z34 hj9999s (by first | decide | omega)) xn0)))))))))).trans (hF4.2.1 _ xn0)))))) ((ld_c hG100).trans ((hF93.2.1 _ (xn1 (xne_k hk9999v hk9999o (by decide)) (xn1 (xne_k hk9999v hk9999p (by decide)) xn0))).trans ((hF85.2.1 _ (xn1 (xne_k hk9999v hk9999d (by decide)) xn0)).trans ((hF80.2.1 _ (xn1 (xne_k hk9999v hk9999e (by decide)) (xn1 (xne_k hk9999v hk9999f (by decide)) (xn1 (xne_k hk9999v hk9999g (by decide)) (xn1 (xne_k hk9999v hk9999h (by decide)) (xn1 (xne_k hk9999v hk9999i (by decide)) (xn1 (xne_k hk9999v hk9999j (by decide)) (xn1 (xne_k hk9999v hk9999k (by decide)) (xn1 (xne_j hj9999z36 hj9999q (by first | decide | omega)) (xn1 (xne_j hj9999z36 hj9999s (by first | decide | omega)) xn0)))))))))).trans ((hF41.2.1 _ (xn1 (xne_k hk9999v hk9999e (by decide)) (xn1 (xne_k hk9999v hk9999f (by decide)) (xn1 (xne_k hk9999v hk9999g (by decide)) (xn1 (xne_k hk9999v hk9999h (by decide)) (xn1 (xne_k hk9999v hk9999i (by decide)) (xn1 (xne_k hk9999v hk9999j (by decide)) (xn1 (xne_k hk9999v hk9999k (by decide)) (xn1 (xne_j hj9999z36 hj9999q (by first | decide | omega)) (xn1 (xne_j hj9999z36 hj9999s (by first | decide | omega)) xn0)))))))))).trans (hF4.2.1 _ xn0)))))) ((ld_c hG100).trans ((hF93.2.1 _ (xn1 (xne_k hk9999h hk9999o (by decide)) (xn1 (xne_k hk9999h hk9999p (by decide)) xn0))).trans (hF85.2.1 _ (xn1 (xne_k hk9999h hk9999d (by decide)) xn0)))) ((ld_c hG100).trans ((hF93.2.1 _ (xn1 (xne_k hk9999i hk9999o (by decide)) (xn1 (xne_k hk9999i hk9999p (by decide)) xn0))).trans (hF85.2.1 _ (xn1 (xne_k hk9999i hk9999d (by decide)) xn0)))) ((ld_c hG100).trans ((hF93.2.1 _ (xn1 (xne_k hk9999j hk9999o (by decide)) (xn1 (xne_k hk9999j hk9999p (by decide)) xn0))).trans (hF85.2.1 _ (xn1 (xne_k hk9999j hk9999d (by decide)) xn0)))) ((ld_c hG100).trans ((hF93.2.1 _ (xn1 (xne_k hk9999k hk9999o (by decide)) (xn1 (xne_k hk9999k hk9999p (by decide)) xn0))).trans (hF85.2.1 _ (xn1 (xne_k hk9999k hk9999d (by decide)) xn0)))) ((ld_c hG100).trans ((hF93.2.1 _ (xn1 (xne_k hk9999l hk9999o (by decide)) (xn1 (xne_k hk9999l hk9999p (by decide)) xn0))).trans (hF85.2.1 _ (xn1 (xne_k hk9999l hk9999d (by decide)) xn0)))) ((ld_c hG100).trans ((hF93.2.1 _ (xn1 (xne_k hk9999m hk9999o (by decide)) (xn1 (xne_k hk9999m hk9999p (by decide)) xn0))).trans (hF85.2.1 _ (xn1 (xne_k hk9999m hk9999d (by decide)) xn0)))) ((ld_c hG100).trans (hF93.2.1 _ (xn1 (xne_k hk9999d hk9999o (by decide)) (xn1 (xne_k hk9999d hk9999p (by decide)) xn0)))) (hF4.2.1 _ xn0) (hF4.2.1 _ xn0) ((ld_r hG100).trans ((hF93.2.2 _ xn0).trans ((hF85.2.2 _ xn0).trans ((hF80.2.2 _ xn0).trans ((hF41.2.2 _ xn0).trans (hF4.2.2 _ xn0)))))) (hF4.2.2 _ xn0) (hF4.2.2 _ xn0) ((hF41.2.2 _ xn0).trans (hF4.2.2 _ xn0)) ((ld_j hG100 (by decide)).trans ((hF93.1 _ _ xn0).trans (hF85.1 _ _ xn0))) ((ld_j hG100 (by decide)).trans ((hF93.1 _ _ xn0).trans ((hF85.1 _ _ xn0).trans ((hF80.1 _ _ (xnj (by decide) (xnj (by decide) xn0))).trans (hF41.1 _ _ (xnj (by decide) (xnj (by decide) xn0))))))) ((ld_j hG100 (by decide)).trans ((hF93.1 _ _ xn0).trans ((hF85.1 _ _ xn0).trans ((hF80.1 _ _ (xnj (by decide) (xnj (by decide) xn0))).trans ((hF41.1 _ _ (xnj (by decide) (xnj (by decide) xn0))).trans (hF4.1 _ _ (xnj (by decide) xn0))))))) ((ld_j hG100 (by decide)).trans ((hF93.1 _ _ xn0).trans ((hF85.1 _ _ xn0).trans ((hF80.1 _ _ (xna (xne_k hk9999 hk9999a (by decide)) (xnj (by decide) xn0))).trans ((hF41.1 _ _ (xna (xne_k hk9999 hk9999a (by decide)) (xnj (by decide) xn0))).trans (hF4.1 _ _ (xnj (by decide) xn0))))))) ((ld_j hG100 (by decide)).trans ((hF93.1 _ _ xn0).trans ((hF85.1 _ _ xn0).trans ((hF80.1 _ _ (xnj (by decide) (xna (xne_j hj9999c hj9999b (by first | decide | omega)) xn0))).trans ((hF41.1 _ _ (xnj (by decide) (xna (xne_j hj9999c hj9999b (by first | decide | omega)) xn0))).trans (hF4.1 _ _ (xnj (by decide) xn0))))))) ((ld_j hG100 (by decide)).trans ((hF93.1 _ _ xn0).trans (hF85.1 _ _ xn0))) (ld_at hG100))) mv_X10_gather km_X10_240 rfl rfl ⟨Nat.le_of_ble_eq_true rfl, Nat.le_of_ble_eq_true rfl⟩ (rc_12 hK hT ha) hK (fun _ => XP.blind) (fun U hU hW => XP.at hK hz hS hT hU hW) rfl hl.1 (Nat.le_of_ble_eq_true rfl) dX10_back_117 ⟨Nat.le_of_ble_eq_true rfl, Nat.le_of_ble_eq_true rfl⟩) hS ?_
        rintro G117 H locs ⟨hF117, t117, oq117⟩ hT hS
        have t117 : 0 ≤ ((G117.1 (F a 8) 6).toInt) ∧ ((G117.1 (F a 8) 6).toInt) ≤ 1080 := t117
        have oq117 : qL G117 F (F a 8) = gaL G100 (G100.2.2.1 (F (F a 2) 1)) (vw (G.2.1 (F (F a 4) 0))) (vw (G93.2.1 (F (F a 3) 0))) (1 : Int) (((G.1 (F a 2) 2).toInt)).toNat := by simp only [(show G100.2.1 (F (F a 4) 0) = G.2.1 (F (F a 4) 0) from ((ld_c hG100).trans ((hF93.2.1 _ (xn1 (xne_j hj9999z42 hj9999v (by first | decide | omega)) (xn1 (xne_k hk9999z27 hk9999p (by decide)) xn0))).trans ((hF85.2.1 _ (xn1 (xne_k hk9999z27 hk9999d (by decide)) xn0)).trans ((hF80.2.1 _ (xn1 (xne_k hk9999z27 hk9999e (by decide)) (xn1 (xne_k hk9999z27 hk9999f (by decide)) (xn1 (xne_k hk9999z27 hk9999g (by decide)) (xn1 (xne_k hk9999z27 hk9999h (by decide)) (xn1 (xne_k hk9999z27 hk9999i (by decide)) (xn1 (xne_k hk9999z27 hk9999j (by decide)) (xn1 (xne_k hk9999z27 hk9999k (by decide)) (xn1 (xne_k hk9999z27 hk9999l (by decide)) (xn1 (xne_k hk9999z27 hk9999m (by decide)) xn0)))))))))).trans ((hF41.2.1 _ (xn1 (xne_k hk9999z27 hk9999e (by decide)) (xn1 (xne_k hk9999z27 hk9999f (by decide)) (xn1 (xne_k hk9999z27 hk9999g (by decide)) (xn1 (xne_k hk9999z27 hk9999h (by decide)) (xn1 (xne_k hk9999z27 hk9999i (by decide)) (xn1 (xne_k hk9999z27 hk9999j (by decide)) (xn1 (xne_k hk9999z27 hk9999k (by decide)) (xn1 (xne_k hk9999z27 hk9999l (by decide)) (xn1 (xne_k hk9999z27 hk9999m (by decide)) xn0)))))))))).trans (hF4.2.1 _ xn0))))))), (show G100.2.1 (F (F a 3) 0) = G93.2.1 (F (F a 3) 0) from (ld_c hG100)), (show G100.1 (F a 2) 2 = G.1 (F a 2) 2 from ((ld_j hG100 (by decide)).trans ((hF93.1 _ _ xn0).trans ((hF85.1 _ _ xn0).trans ((hF80.1 _ _ (xnj (by decide) (xnj (by decide) xn0))).trans ((hF41.1 _ _ (xnj (by decide) (xnj (by decide) xn0))).trans (hF4.1 _ _ (xnj (by decide) xn0))))))))] at oq117; exact oq117
        refine lv_aload_n hx hb dX10_back_120 rfl (lv_at hl 2 rfl) ?_
        refine gX10_8 S hK hT ha kf_X10_57 dX10_back_121 (fun _ _ => ?_)
        refine x_clp (x_runV (b := (F a 8)) (As := []) (rest := []) S (c_X4_size l E K F G117 H (F a 8) hk9999c) mv_X4_size km_X10_232 rfl rfl ⟨Nat.le_of_ble_eq_true rfl, Nat.le_of_ble_eq_true rfl⟩ (rc_6 hK hT hk9999c) hK (fun _ => XPh.blind) (fun U hU hW => XPh.at hK hz hS hT hU hW) rfl hl.1 (Nat.le_of_ble_eq_true rfl) dX10_back_124 ⟨Nat.le_of_ble_eq_true rfl, Nat.le_of_ble_eq_true rfl⟩) hS ?_
        rintro _ _ locs ⟨x124, rfl, t124⟩ hS
        have t124 : x124.toInt = ((G117.1 (F a 8) 6).toInt) := t124
        exact x_ri hx hb hr hlk hQ (Nat.le_of_ble_eq_true rfl) (Nat.le_of_ble_eq_true rfl) hS dX10_back_127 G117 ⟨_, rfl, (XFr.call (by rw [hG100]; exact XFr.dput (XFr.call (XFr.call (XFr.call (XFr.call (XFr.call XFr.rf hF4 (xm1 0 rfl xm0) xm0 xm0) hF41 (xm1 4 rfl (xm1 5 rfl xm0)) (xm1 1 rfl (xm1 2 rfl (xm1 3 rfl (xm1 4 rfl (xm1 5 rfl (xm1 6 rfl (xm1 7 rfl (xm1 8 rfl (xm1 9 rfl xm0))))))))) xm0) hF80 (xm1 4 rfl (xm1 5 rfl xm0)) (xm1 1 rfl (xm1 2 rfl (xm1 3 rfl (xm1 4 rfl (xm1 5 rfl (xm1 6 rfl (xm1 7 rfl (xm1 8 rfl (xm1 9 rfl xm0))))))))) xm0) hF85 xm0 (xm1 0 rfl xm0) xm0) hF93 xm0 (xm1 10 rfl (xm1 11 rfl xm0)) xm0) (List.mem_of_getElem? (i := 3) rfl)) hF117 (xm1 4 rfl (xm1 6 rfl xm0)) (xm1 1 rfl (xm1 2 rfl (xm1 3 rfl (xm1 12 rfl (xm1 13 rfl (xm1 14 rfl (xm1 15 rfl (xm1 16 rfl (xm1 17 rfl xm0))))))))) xm0), (t117), (by rw [(t124 : Int32.toInt x124 = ((G117.1 (F a 8) 6).toInt))] <;> exact (v_X10_back_127_21 (K := K) (F := F) a q19 p0 G G117 G4 G41 G80 G93 G100 x99 x48 ha hk9999 hj9999 hk9999a hj9999a hk9999b hj9999b hk9999c hj9999c hk9999d hj9999d hk9999e hj9999e hk9999f hj9999f hk9999g hj9999g hk9999h hj9999i hk9999i hj9999k hk9999j hj9999m hk9999k hj9999o hk9999l hj9999q hk9999m hj9999s hk9999n hj9999t hk9999o hj9999v hk9999p hj9999y hk9999q hj9999z26 hk9999r hj9999z28 hk9999s hj9999z30 hk9999t hj9999z32 hk9999u hj9999z34 hk9999v hj9999z36 hk9999w hj9999z37 hk9999y hj9999z38 hk9999z25 hj9999z39 hk9999z26 hj9999z40 hk9999z27 hj9999z42 hk9999z28 hj9999z44 hk9999z29 hj9999z45 hk9999z30 hj9999z47 hk9999z31 hj9999z49 hk9999z32 hj9999z50 hk19 ((hs19).1) hk30 hj30a hk30a hj30c (XFr.call (by rw [hG100]; exact XFr.dput (XFr.call (XFr.call (XFr.call (XFr.call (XFr.call XFr.rf hF4 (xm1 0 rfl xm0) xm0 xm0) hF41 (xm1 4 rfl (xm1 5 rfl xm0)) (xm1 1 rfl (xm1 2 rfl (xm1 3 rfl (xm1 4 rfl (xm1 5 rfl (xm1 6 rfl (xm1 7 rfl (xm1 8 rfl (xm1 9 rfl xm0))))))))) xm0) hF80 (xm1 4 rfl (xm1 5 rfl xm0)) (xm1 1 rfl (xm1 2 rfl (xm1 3 rfl (xm1 4 rfl (xm1 5 rfl (xm1 6 rfl (xm1 7 rfl (xm1 8 rfl (xm1 9 rfl xm0))))))))) xm0) hF85 xm0 (xm1 0 rfl xm0) xm0) hF93 xm0 (xm1 10 rfl (xm1 11 rfl xm0)) xm0) (List.mem_of_getElem? (i := 3) rfl)) hF117 (xm1 4 rfl (xm1 6 rfl xm0)) (xm1 1 rfl (xm1 2 rfl (xm1 3 rfl (xm1 12 rfl (xm1 13 rfl (xm1 14 rfl (xm1 15 rfl (xm1 16 rfl (xm1 17 rfl xm0))))))))) xm0) hF4 hF117 bko hs19 oq41 oq48 oq93 e99 oq117 sb sw t4 (xzi hz8) c11 ht19 t41 t48 c54 t80 t117 ((hF117.2.1 _ (xn1 (xne_k hk9999o hk9999e (by decide)) (xn1 (xne_k hk9999o hk9999f (by decide)) (xn1 (xne_k hk9999o hk9999g (by decide)) (xn1 (xne_k hk9999o hk9999q (by decide)) (xn1 (xne_k hk9999o hk9999r (by decide)) (xn1 (xne_k hk9999o hk9999s (by decide)) (xn1 (xne_k hk9999o hk9999t (by decide)) (xn1 (xne_k hk9999o hk9999u (by decide)) (xn1 (xne_k hk9999o hk9999v (by decide)) xn0)))))))))).trans (ld_c hG100)) ((ld_r hG100).trans ((hF93.2.2 _ xn0).trans ((hF85.2.2 _ xn0).trans ((hF80.2.2 _ xn0).trans ((hF41.2.2 _ xn0).trans (hF4.2.2 _ xn0)))))) (hF4.2.2 _ xn0) (hF4.2.2 _ xn0) ((hF117.1 _ _ (xnj (by decide) (xnj (by decide) xn0))).trans (ld_at hG100)))), (v_X10_back_127_22 (F := F) a G117 G93 oq93a ((hF117.2.1 _ (xn1 (xne_k hk9999o hk9999e (by decide)) (xn1 (xne_k hk9999o hk9999f (by decide)) (xn1 (xne_k hk9999o hk9999g (by decide)) (xn1 (xne_k hk9999o hk9999q (by decide)) (xn1 (xne_k hk9999o hk9999r (by decide)) (xn1 (xne_k hk9999o hk9999s (by decide)) (xn1 (xne_k hk9999o hk9999t (by decide)) (xn1 (xne_k hk9999o hk9999u (by decide)) (xn1 (xne_k hk9999o hk9999v (by decide)) xn0)))))))))).trans (ld_c hG100)) ((hF117.2.1 _ (xn1 (xne_j hj9999y hj9999e (by first | decide | omega)) (xn1 (xne_j hj9999y hj9999f (by first | decide | omega)) (xn1 (xne_k hk9999p hk9999g (by decide)) (xn1 (xne_k hk9999p hk9999q (by decide)) (xn1 (xne_k hk9999p hk9999r (by decide)) (xn1 (xne_k hk9999p hk9999s (by decide)) (xn1 (xne_k hk9999p hk9999t (by decide)) (xn1 (xne_k hk9999p hk9999u (by decide)) (xn1 (xne_k hk9999p hk9999v (by decide)) xn0)))))))))).trans (ld_c hG100)))⟩ hT
      · refine lv_aload_n hx hb dX10_back_57 rfl (lv_at hl 2 rfl) ?_
        refine lv_aload_n hx hb dX10_back_58 rfl (lv_at hl 2 rfl) ?_
        refine gX10_9 S hK hT ha kf_X10_61 dX10_back_59 (fun _ _ => ?_)
        refine lv_iload_n hx hb dX10_back_62 rfl (lv_at hl 0 rfl) ?_
        refine x_cv (x_runV (b := a) (As := [.ref (F a 9), .int x48]) (rest := []) S (c_X10_tellVerdict l E K F G41 a (F a 9) x48 ha hk9999b) mv_X10_tellVerdict km_X10_247 rfl rfl ⟨Nat.le_of_ble_eq_true rfl, Nat.le_of_ble_eq_true rfl⟩ (rc_12 hK hT ha) hK (fun _ => XP.blind) (fun U hU hW => XP.at hK hz hS hT hU hW) rfl hl.1 (Nat.le_of_ble_eq_true rfl) dX10_back_63 ⟨Nat.le_of_ble_eq_true rfl, Nat.le_of_ble_eq_true rfl⟩) hS ?_
        rintro G63 H locs hF63 hT hS
        refine lv_bipush (v := (-5)) hx hb dX10_back_66 (by decide) ?_
        exact x_ri hx hb hr hlk hQ (Nat.le_of_ble_eq_true rfl) (Nat.le_of_ble_eq_true rfl) hS dX10_back_68 G63 ⟨_, rfl, (XFr.call (XFr.call (XFr.call XFr.rf hF4 (xm1 0 rfl xm0) xm0 xm0) hF41 (xm1 4 rfl (xm1 5 rfl xm0)) (xm1 1 rfl (xm1 2 rfl (xm1 3 rfl (xm1 4 rfl (xm1 5 rfl (xm1 6 rfl (xm1 7 rfl (xm1 8 rfl (xm1 9 rfl xm0))))))))) xm0) hF63 (xm1 0 rfl (xm1 1 rfl (xm1 2 rfl xm0))) xm0 xm0), (by rw [(show (G63.1 (F a 8) 6).toInt = ((G.1 (F a 8) 6).toInt) from (congrArg Int32.toInt ((hF63.1 _ _ (xnj (by decide) (xnj (by decide) (xnj (by decide) xn0)))).trans ((hF41.1 _ _ (xnj (by decide) (xna (xne_j hj9999c hj9999b (by first | decide | omega)) xn0))).trans (hF4.1 _ _ (xnj (by decide) xn0))))).trans (rfl : Int32.toInt (G.1 (F a 8) 6) = ((G.1 (F a 8) 6).toInt)))] <;> exact (sw)), (by rw [((by decide) : Int32.toInt (-5) = (-5 : Int))] <;> exact (v_X10_back_68_23 (K := K) (F := F) a q19 p0 G G63 G4 G41 x48 ha hk9999 hj9999 hk9999a hj9999a hk9999b hj9999b hk9999c hj9999c hk9999d hj9999d hk9999e hj9999e hk9999f hj9999f hk9999g hj9999g hk9999h hj9999i hk9999i hj9999k hk9999j hj9999m hk9999k hj9999o hk9999l hj9999q hk9999m hj9999s hk9999n hj9999t hk9999o hj9999v hk9999p hj9999y hk9999q hj9999z26 hk9999r hj9999z28 hk9999s hj9999z30 hk9999t hj9999z32 hk9999u hj9999z34 hk9999v hj9999z36 hk9999w hj9999z37 hk9999y hj9999z38 hk9999z25 hj9999z39 hk9999z26 hj9999z40 hk9999z27 hj9999z42 hk9999z28 hj9999z44 hk9999z29 hj9999z45 hk9999z30 hj9999z47 hk9999z31 hj9999z49 hk9999z32 hj9999z50 hk19 ((hs19).1) hk30 hj30a hk30a hj30c hF4 bko hs19 oq41 oq48 sb sw t4 (xzi hz8) c11 ht19 t41 t48 c54 ((hF63.2.1 _ xn0).trans ((hF41.2.1 _ (xn1 (xne_k hk9999o hk9999e (by decide)) (xn1 (xne_k hk9999o hk9999f (by decide)) (xn1 (xne_k hk9999o hk9999g (by decide)) (xn1 (xne_k hk9999o hk9999h (by decide)) (xn1 (xne_k hk9999o hk9999i (by decide)) (xn1 (xne_k hk9999o hk9999j (by decide)) (xn1 (xne_k hk9999o hk9999k (by decide)) (xn1 (xne_k hk9999o hk9999l (by decide)) (xn1 (xne_k hk9999o hk9999m (by decide)) xn0)))))))))).trans (hF4.2.1 _ xn0))) ((hF63.2.1 _ xn0).trans ((hF41.2.1 _ (xn1 (xne_k hk9999q hk9999e (by decide)) (xn1 (xne_k hk9999q hk9999f (by decide)) (xn1 (xne_k hk9999q hk9999g (by decide)) (xn1 (xne_j hj9999z26 hj9999i (by first | decide | omega)) (xn1 (xne_j hj9999z26 hj9999k (by first | decide | omega)) (xn1 (xne_j hj9999z26 hj9999m (by first | decide | omega)) (xn1 (xne_j hj9999z26 hj9999o (by first | decide | omega)) (xn1 (xne_k hk9999q hk9999l (by decide)) (xn1 (xne_k hk9999q hk9999m (by decide)) xn0)))))))))).trans (hF4.2.1 _ xn0))) ((hF63.2.1 _ xn0).trans ((hF41.2.1 _ (xn1 (xne_k hk9999r hk9999e (by decide)) (xn1 (xne_k hk9999r hk9999f (by decide)) (xn1 (xne_k hk9999r hk9999g (by decide)) (xn1 (xne_j hj9999z28 hj9999i (by first | decide | omega)) (xn1 (xne_j hj9999z28 hj9999k (by first | decide | omega)) (xn1 (xne_j hj9999z28 hj9999m (by first | decide | omega)) (xn1 (xne_j hj9999z28 hj9999o (by first | decide | omega)) (xn1 (xne_k hk9999r hk9999l (by decide)) (xn1 (xne_k hk9999r hk9999m (by decide)) xn0)))))))))).trans (hF4.2.1 _ xn0))) ((hF63.2.1 _ xn0).trans ((hF41.2.1 _ (xn1 (xne_k hk9999s hk9999e (by decide)) (xn1 (xne_k hk9999s hk9999f (by decide)) (xn1 (xne_k hk9999s hk9999g (by decide)) (xn1 (xne_j hj9999z30 hj9999i (by first | decide | omega)) (xn1 (xne_j hj9999z30 hj9999k (by first | decide | omega)) (xn1 (xne_j hj9999z30 hj9999m (by first | decide | omega)) (xn1 (xne_j hj9999z30 hj9999o (by first | decide | omega)) (xn1 (xne_k hk9999s hk9999l (by decide)) (xn1 (xne_k hk9999s hk9999m (by decide)) xn0)))))))))).trans (hF4.2.1 _ xn0))) ((hF63.2.1 _ xn0).trans ((hF41.2.1 _ (xn1 (xne_k hk9999t hk9999e (by decide)) (xn1 (xne_k hk9999t hk9999f (by decide)) (xn1 (xne_k hk9999t hk9999g (by decide)) (xn1 (xne_j hj9999z32 hj9999i (by first | decide | omega)) (xn1 (xne_j hj9999z32 hj9999k (by first | decide | omega)) (xn1 (xne_j hj9999z32 hj9999m (by first | decide | omega)) (xn1 (xne_j hj9999z32 hj9999o (by first | decide | omega)) (xn1 (xne_k hk9999t hk9999l (by decide)) (xn1 (xne_k hk9999t hk9999m (by decide)) xn0)))))))))).trans (hF4.2.1 _ xn0))) ((hF63.2.1 _ xn0).trans ((hF41.2.1 _ (xn1 (xne_k hk9999u hk9999e (by decide)) (xn1 (xne_k hk9999u hk9999f (by decide)) (xn1 (xne_k hk9999u hk9999g (by decide)) (xn1 (xne_k hk9999u hk9999h (by decide)) (xn1 (xne_k hk9999u hk9999i (by decide)) (xn1 (xne_k hk9999u hk9999j (by decide)) (xn1 (xne_k hk9999u hk9999k (by decide)) (xn1 (xne_j hj9999z34 hj9999q (by first | decide | omega)) (xn1 (xne_j hj9999z34 hj9999s (by first | decide | omega)) xn0)))))))))).trans (hF4.2.1 _ xn0))) ((hF63.2.1 _ xn0).trans ((hF41.2.1 _ (xn1 (xne_k hk9999v hk9999e (by decide)) (xn1 (xne_k hk9999v hk9999f (by decide)) (xn1 (xne_k hk9999v hk9999g (by decide)) (xn1 (xne_k hk9999v hk9999h (by decide)) (xn1 (xne_k hk9999v hk9999i (by decide)) (xn1 (xne_k hk9999v hk9999j (by decide)) (xn1 (xne_k hk9999v hk9999k (by decide)) (xn1 (xne_j hj9999z36 hj9999q (by first | decide | omega)) (xn1 (xne_j hj9999z36 hj9999s (by first | decide | omega)) xn0)))))))))).trans (hF4.2.1 _ xn0))) (hF4.2.2 _ xn0) (hF4.2.2 _ xn0) ((hF63.1 _ _ (xnj (by decide) (xnj (by decide) (xnj (by decide) xn0)))).trans ((hF41.1 _ _ (xnj (by decide) (xna (xne_j hj9999c hj9999b (by first | decide | omega)) xn0))).trans (hF4.1 _ _ (xnj (by decide) xn0)))) ((hF63.1 _ _ (xnj (by decide) (xnj (by decide) (xnj (by decide) xn0)))).trans ((hF41.1 _ _ (xnj (by decide) (xnj (by decide) xn0))).trans (hF4.1 _ _ (xnj (by decide) xn0)))))), (v_X10_back_68_24 (F := F) a G G63 ron ((hF63.2.1 _ xn0).trans ((hF41.2.1 _ (xn1 (xne_k hk9999o hk9999e (by decide)) (xn1 (xne_k hk9999o hk9999f (by decide)) (xn1 (xne_k hk9999o hk9999g (by decide)) (xn1 (xne_k hk9999o hk9999h (by decide)) (xn1 (xne_k hk9999o hk9999i (by decide)) (xn1 (xne_k hk9999o hk9999j (by decide)) (xn1 (xne_k hk9999o hk9999k (by decide)) (xn1 (xne_k hk9999o hk9999l (by decide)) (xn1 (xne_k hk9999o hk9999m (by decide)) xn0)))))))))).trans (hF4.2.1 _ xn0))) ((hF63.2.1 _ xn0).trans ((hF41.2.1 _ (xn1 (xne_j hj9999y hj9999e (by first | decide | omega)) (xn1 (xne_j hj9999y hj9999f (by first | decide | omega)) (xn1 (xne_k hk9999p hk9999g (by decide)) (xn1 (xne_k hk9999p hk9999h (by decide)) (xn1 (xne_k hk9999p hk9999i (by decide)) (xn1 (xne_k hk9999p hk9999j (by decide)) (xn1 (xne_k hk9999p hk9999k (by decide)) (xn1 (xne_k hk9999p hk9999l (by decide)) (xn1 (xne_k hk9999p hk9999m (by decide)) xn0)))))))))).trans (hF4.2.1 _ xn0))))⟩ hT
  · refine lv_bipush (v := (-3)) hx hb dX10_back_14 (by decide) ?_
    exact x_ri hx hb hr hlk hQ (Nat.le_of_ble_eq_true rfl) (Nat.le_of_ble_eq_true rfl) hS dX10_back_16 G4 ⟨_, rfl, (XFr.call XFr.rf hF4 (xm1 0 rfl xm0) xm0 xm0), (by rw [(show (G4.1 (F a 8) 6).toInt = ((G.1 (F a 8) 6).toInt) from (congrArg Int32.toInt (hF4.1 _ _ (xnj (by decide) xn0))).trans (rfl : Int32.toInt (G.1 (F a 8) 6) = ((G.1 (F a 8) 6).toInt)))] <;> exact (sw)), (by rw [((by decide) : Int32.toInt (-3) = (-3 : Int))] <;> exact (v_X10_back_16_25 (K := K) (F := F) a G G4 p0 ha sb sw t4 (xzi hz8) c11 (hF4.2.1 _ xn0) (hF4.2.1 _ xn0) (hF4.2.1 _ xn0) (hF4.2.1 _ xn0) (hF4.2.1 _ xn0) (hF4.2.1 _ xn0) (hF4.2.1 _ xn0) (hF4.1 _ _ (xnj (by decide) xn0)) (hF4.1 _ _ (xnj (by decide) xn0)))), (v_X10_back_16_26 (F := F) a G G4 ron (hF4.2.1 _ xn0) (hF4.2.1 _ xn0))⟩ hT
theorem v_X11_look_10_1 {F : Nat → Nat → Nat} (a : Nat) (G : XG)
    (hR : RV (G.2.1 (F a 10))) :
    RV (G.2.1 (F a 10)) := by exact hR
theorem v_X11_look_10_2 {K : Nat → Nat} {F : Nat → Nat → Nat} (a : Nat) (G : XG) (r1 : Int → Int)
    (ha : K a = 13)
    (hk9999 : K (F a 15) = 42)
    (hj9999 : F (F a 15) 99 = 15)
    (hk9999a : K (F a 17) = 43)
    (hj9999a : F (F a 17) 99 = 17)
    (hk9999b : K (F a 18) = 44)
    (hj9999b : F (F a 18) 99 = 18)
    (hk9999c : K (F a 11) = 38)
    (hj9999c : F (F a 11) 99 = 11)
    (hk9999d : K (F a 10) = 37)
    (hj9999d : F (F a 10) 99 = 10)
    (hk9999e : K (F a 1) = 30)
    (hj9999e : F (F a 1) 99 = 1)
    (hk9999f : K (F a 12) = 38)
    (hj9999f : F (F a 12) 99 = 12)
    (hR : RV (G.2.1 (F a 10)))
    (hM : RM (G.2.1 (F a 1)) (0))
    (h1 : LSt (G.2.1 (F a 10)) (G.2.1 (F a 12)) r1 12) :
    RM (G.2.1 (F a 1)) (0 : Int) := by
  first | assumption | omega
theorem v_X11_look_23_3 {F : Nat → Nat → Nat} (a : Nat) (G : XG) (G10 : XG)
    (hR : RV (G.2.1 (F a 10)))
    (c_G10_F_a_10 : G10.2.1 (F a 10) = G.2.1 (F a 10)) :
    RV (G10.2.1 (F a 10)) := by simp only [c_G10_F_a_10]; assumption
theorem v_X11_look_23_4 {F : Nat → Nat → Nat} (a : Nat) (G : XG) (G10 : XG) (r1 : Int → Int)
    (h1 : LSt (G.2.1 (F a 10)) (G.2.1 (F a 12)) r1 12)
    (oq10 : LSt (G.2.1 (F a 10)) (G10.2.1 (F a 11)) (mw (G.2.1 (F a 1)) (0 : Int)) 12)
    (c_G10_F_a_10 : G10.2.1 (F a 10) = G.2.1 (F a 10))
    (c_G10_F_a_12 : G10.2.1 (F a 12) = G.2.1 (F a 12)) :
    LSt (G10.2.1 (F a 10)) (G10.2.1 (F a 12)) r1 12 := by simp only [c_G10_F_a_10, c_G10_F_a_12]; assumption
theorem v_X11_look_23_5 {F : Nat → Nat → Nat} (a : Nat) (G : XG) (G10 : XG) (r1 : Int → Int)
    (h1 : LSt (G.2.1 (F a 10)) (G.2.1 (F a 12)) r1 12)
    (oq10 : LSt (G.2.1 (F a 10)) (G10.2.1 (F a 11)) (mw (G.2.1 (F a 1)) (0 : Int)) 12)
    (c_G10_F_a_10 : G10.2.1 (F a 10) = G.2.1 (F a 10)) :
    LSt (G10.2.1 (F a 10)) (G10.2.1 (F a 11)) (mw (G.2.1 (F a 1)) 0) 12 := by simp only [c_G10_F_a_10]; assumption
theorem v_X11_look_37_6 {F : Nat → Nat → Nat} (a : Nat) (G : XG) (G31 : XG)
    (hR : RV (G.2.1 (F a 10)))
    (c_G31_F_a_10 : G31.2.1 (F a 10) = G.2.1 (F a 10)) :
    RV (G31.2.1 (F a 10)) := by simp only [c_G31_F_a_10]; assumption
theorem v_X11_look_37_7 {F : Nat → Nat → Nat} (a : Nat) (G : XG) (G31 : XG)
    (hM : RM (G.2.1 (F a 1)) (0))
    (c_G31_F_a_1 : G31.2.1 (F a 1) = G.2.1 (F a 1)) :
    RM (G31.2.1 (F a 1)) (0) := by simp only [c_G31_F_a_1]; assumption
theorem v_X11_look_37_8 {F : Nat → Nat → Nat} (a : Nat) (G : XG) (G10 : XG) (G31 : XG) (r1 : Int → Int)
    (h1 : LSt (G.2.1 (F a 10)) (G.2.1 (F a 12)) r1 12)
    (oq10 : LSt (G.2.1 (F a 10)) (G10.2.1 (F a 11)) (mw (G.2.1 (F a 1)) (0 : Int)) 12)
    (c_G31_F_a_10 : G31.2.1 (F a 10) = G.2.1 (F a 10))
    (c_G31_F_a_12 : G31.2.1 (F a 12) = G.2.1 (F a 12)) :
    LSt (G31.2.1 (F a 10)) (G31.2.1 (F a 12)) r1 12 := by simp only [c_G31_F_a_10, c_G31_F_a_12]; assumption
theorem v_X11_look_37_9 {K : Nat → Nat} {F : Nat → Nat → Nat} (a : Nat) (G : XG) (G10 : XG) (G23 : XG) (G31 : XG) (r1 : Int → Int)
    (ha : K a = 13)
    (hk9999 : K (F a 15) = 42)
    (hj9999 : F (F a 15) 99 = 15)
    (hk9999a : K (F a 17) = 43)
    (hj9999a : F (F a 17) 99 = 17)
    (hk9999b : K (F a 18) = 44)
    (hj9999b : F (F a 18) 99 = 18)
    (hk9999c : K (F a 11) = 38)
    (hj9999c : F (F a 11) 99 = 11)
    (hk9999d : K (F a 10) = 37)
    (hj9999d : F (F a 10) 99 = 10)
    (hk9999e : K (F a 1) = 30)
    (hj9999e : F (F a 1) 99 = 1)
    (hk9999f : K (F a 12) = 38)
    (hj9999f : F (F a 12) 99 = 12)
    (hF10 : XFr [] [F a 11] [] G G10)
    (hF23 : XFr [(a, 16), (a, 19)] [F a 15, F a 17, F a 18] [] G10 G23)
    (hG31 : G31 = dput G23 a 45 (G23.1 a 19))
    (hR : RV (G.2.1 (F a 10)))
    (hM : RM (G.2.1 (F a 1)) (0))
    (h1 : LSt (G.2.1 (F a 10)) (G.2.1 (F a 12)) r1 12)
    (oq10 : LSt (G.2.1 (F a 10)) (G10.2.1 (F a 11)) (mw (G.2.1 (F a 1)) (0 : Int)) 12)
    (oq10a : G10.2.2.2 = G.2.2.2)
    (oq23 : pL G23 F a = fuL (G.2.1 (F a 10)) r1 (mw (G.2.1 (F a 1)) 0) (2 : Int) (ordN (prM (G.2.1 (F a 10))) (rkM (G.2.1 (F a 10))) 12).2 (ordN (prM (G.2.1 (F a 10))) (rkM (G.2.1 (F a 10))) 12).1)
    (oq23a : ORm (G.2.1 (F a 10)) (G23.2.1 (F a 15)) ((G23.1 a 16).toInt) 12)
    (oq23b : G23.2.2.2 = G10.2.2.2)
    (t23 : 0 ≤ ((G23.1 a 19).toInt) ∧ ((G23.1 a 19).toInt) ≤ 2388)
    (c_G31_F_a_1 : G31.2.1 (F a 1) = G.2.1 (F a 1))
    (c_G31_F_a_10 : G31.2.1 (F a 10) = G.2.1 (F a 10))
    (c_G31_F_a_11 : G31.2.1 (F a 11) = G10.2.1 (F a 11))
    (c_G31_F_a_15 : G31.2.1 (F a 15) = G23.2.1 (F a 15))
    (c_G31_F_a_17 : G31.2.1 (F a 17) = G23.2.1 (F a 17))
    (c_G31_F_a_18 : G31.2.1 (F a 18) = G23.2.1 (F a 18))
    (d_G31_a_16 : G31.1 a 16 = G23.1 a 16)
    (d_G31_a_19 : G31.1 a 19 = G23.1 a 19)
    (d_G31_a_45 : G31.1 a 45 = (G23.1 a 19))
    (d_G31_a_46 : G31.1 a 46 = G.1 a 46) :
    LSt (G31.2.1 (F a 10)) (G31.2.1 (F a 11)) (mw (G31.2.1 (F a 1)) 0) 12 := by
  rw [show G31.2.1 (F a 11) = G10.2.1 (F a 11) by assumption, show G31.2.1 (F a 10) = G.2.1 (F a 10) by assumption, show G31.2.1 (F a 1) = G.2.1 (F a 1) by assumption]; exact oq10
theorem v_X11_look_47_10 {K : Nat → Nat} {F : Nat → Nat → Nat} (a : Nat) (G : XG) (G10 : XG) (G23 : XG) (G37 : XG) (G40 : XG) (x37 : Int32) (r1 : Int → Int)
    (ha : K a = 13)
    (oq10a : G10.2.2.2 = G.2.2.2)
    (oq23 : pL G23 F a = fuL (G.2.1 (F a 10)) r1 (mw (G.2.1 (F a 1)) 0) (2 : Int) (ordN (prM (G.2.1 (F a 10))) (rkM (G.2.1 (F a 10))) 12).2 (ordN (prM (G.2.1 (F a 10))) (rkM (G.2.1 (F a 10))) 12).1)
    (oq23b : G23.2.2.2 = G10.2.2.2)
    (oq37a : x37.toInt = ffP (G.2.1 (F a 10)) (mw (G.2.1 (F a 1)) 0) (pL G37 F a))
    (oq37b : 0 ≤ ((G37.1 a 19).toInt) ∧ ((G37.1 a 19).toInt) ≤ 2388 ∧ x37.toInt < ((G37.1 a 19).toInt))
    (t23 : 0 ≤ ((G23.1 a 19).toInt) ∧ ((G23.1 a 19).toInt) ≤ 2388)
    (t37 : -1 ≤ x37.toInt)
    (d_G40_a_45 : G40.1 a 45 = (G23.1 a 19)) :
    ((G40.1 a 45).toInt) = (((fuO (G.2.1 (F a 10)) r1 (mw (G.2.1 (F a 1)) 0) 2).length : Nat) : Int) := by
  have e : fuO (G.2.1 (F a 10)) r1 (mw (G.2.1 (F a 1)) 0) 2 = pL G23 F a := oq23.symm
  rw [d_G40_a_45, e, pL_len]
  omega
theorem v_X11_look_47_11 {F : Nat → Nat → Nat} (a : Nat) (G : XG) (G37 : XG) (G40 : XG) (x37 : Int32) (r1 : Int → Int)
    (hG40 : G40 = dput G37 a 46 x37)
    (oq37 : pL G37 F a = fuO (G.2.1 (F a 10)) r1 (mw (G.2.1 (F a 1)) 0) (0 : Int)) :
    pL G40 F a = fuO (G.2.1 (F a 10)) r1 (mw (G.2.1 (F a 1)) 0) 0 := by
  rw [show pL G40 F a = pL G37 F a from pL_cg (ld_j hG40 (by decide)) (ld_c hG40) (ld_c hG40)]; exact oq37
theorem v_X11_look_47_12 {F : Nat → Nat → Nat} (a : Nat) (G : XG) (G37 : XG) (x37 : Int32) (r1 : Int → Int)
    (oq37 : pL G37 F a = fuO (G.2.1 (F a 10)) r1 (mw (G.2.1 (F a 1)) 0) (0 : Int))
    (oq37a : x37.toInt = ffP (G.2.1 (F a 10)) (mw (G.2.1 (F a 1)) 0) (pL G37 F a)) :
    x37.toInt = ffP (G.2.1 (F a 10)) (mw (G.2.1 (F a 1)) 0) (fuO (G.2.1 (F a 10)) r1 (mw (G.2.1 (F a 1)) 0) 0) := by
  rw [← oq37]; exact oq37a
theorem v_X11_look_47_13 (a : Nat) (G40 : XG) (x37 : Int32)
    (d_G40_a_46 : G40.1 a 46 = x37) :
    ((G40.1 a 46).toInt) = x37.toInt := by
  rw [d_G40_a_46]
theorem v_X11_look_47_14 {F : Nat → Nat → Nat} (a : Nat) (G : XG) (G10 : XG) (G40 : XG)
    (oq10 : LSt (G.2.1 (F a 10)) (G10.2.1 (F a 11)) (mw (G.2.1 (F a 1)) (0 : Int)) 12)
    (c_G40_F_a_11 : G40.2.1 (F a 11) = G10.2.1 (F a 11)) :
    LSt (G.2.1 (F a 10)) (G40.2.1 (F a 11)) (mw (G.2.1 (F a 1)) 0) 12 := by
  rw [c_G40_F_a_11]; exact oq10
theorem v_X11_look_47_15 {K : Nat → Nat} {F : Nat → Nat → Nat} (a : Nat) (G : XG) (G10 : XG) (G23 : XG) (G37 : XG) (G40 : XG) (x37 : Int32)
    (ha : K a = 13)
    (oq10a : G10.2.2.2 = G.2.2.2)
    (oq23b : G23.2.2.2 = G10.2.2.2)
    (oq37a : x37.toInt = ffP (G.2.1 (F a 10)) (mw (G.2.1 (F a 1)) 0) (pL G37 F a))
    (oq37b : 0 ≤ ((G37.1 a 19).toInt) ∧ ((G37.1 a 19).toInt) ≤ 2388 ∧ x37.toInt < ((G37.1 a 19).toInt))
    (t23 : 0 ≤ ((G23.1 a 19).toInt) ∧ ((G23.1 a 19).toInt) ≤ 2388)
    (t37 : -1 ≤ x37.toInt)
    (d_G40_a_19 : G40.1 a 19 = G37.1 a 19) :
    0 ≤ ((G40.1 a 19).toInt) ∧ ((G40.1 a 19).toInt) ≤ 2388 ∧ -1 ≤ x37.toInt ∧ x37.toInt < ((G40.1 a 19).toInt) := by
  rw [d_G40_a_19]; omega
theorem v_X11_freeRule_23_1 {K : Nat → Nat} {F : Nat → Nat → Nat} (a : Nat) (l1_2 : Int32) (G : XG) (N2 : Nat)
    (ha : K a = 13)
    (pr : ∀ i : Int, 0 ≤ i → i < l1_2.toInt → aI (G.2.1 (F a 10)) (10 * i + 0) ≠ -1)
    (I2_0 : 0 ≤ l1_2.toInt ∧ l1_2.toInt ≤ 12)
    (I2_1 : (0 : Int) ≤ l1_2.toInt)
    (hm2 : 2147483648 - l1_2.toInt < (((N2) + 1 : Nat) : Int))
    (c5 : (12 : Int) ≤ l1_2.toInt) :
    (l1_2.toInt = 12 ∨ aI (G.2.1 (F a 10)) (10 * l1_2.toInt + 0) = -1) ∧ ∀ i : Int, 0 ≤ i → i < l1_2.toInt → aI (G.2.1 (F a 10)) (10 * i + 0) ≠ -1 := by
  exact ⟨by omega, pr⟩
theorem v_X11_freeRule_23_2 {K : Nat → Nat} {F : Nat → Nat → Nat} (a : Nat) (l1_2 : Int32) (G : XG) (N2 : Nat) (x10 : Int32)
    (ha : K a = 13)
    (pr : ∀ i : Int, 0 ≤ i → i < l1_2.toInt → aI (G.2.1 (F a 10)) (10 * i + 0) ≠ -1)
    (I2_0 : 0 ≤ l1_2.toInt ∧ l1_2.toInt ≤ 12)
    (I2_1 : (0 : Int) ≤ l1_2.toInt)
    (hm2 : 2147483648 - l1_2.toInt < (((N2) + 1 : Nat) : Int))
    (c5 : ¬ ((12 : Int) ≤ l1_2.toInt))
    (t10 : (x10.toInt = 1 ∧ 0 ≤ l1_2.toInt ∧ l1_2.toInt ≤ 11 ∧ (aI (G.2.1 (F a 10)) (10 * l1_2.toInt + 0)) ≠ -1) ∨ (x10.toInt = 0 ∧ (¬ (0 ≤ l1_2.toInt ∧ l1_2.toInt ≤ 11) ∨ (aI (G.2.1 (F a 10)) (10 * l1_2.toInt + 0)) = -1)))
    (c13 : x10.toInt = 0) :
    (l1_2.toInt = 12 ∨ aI (G.2.1 (F a 10)) (10 * l1_2.toInt + 0) = -1) ∧ ∀ i : Int, 0 ≤ i → i < l1_2.toInt → aI (G.2.1 (F a 10)) (10 * i + 0) ≠ -1 := by
  exact ⟨by omega, pr⟩
theorem v_X11_freeRule_19_3 {K : Nat → Nat} {F : Nat → Nat → Nat} (a : Nat) (l1_2 : Int32) (G : XG) (N2 : Nat) (x10 : Int32)
    (ha : K a = 13)
    (pr : ∀ i : Int, 0 ≤ i → i < l1_2.toInt → aI (G.2.1 (F a 10)) (10 * i + 0) ≠ -1)
    (I2_0 : 0 ≤ l1_2.toInt ∧ l1_2.toInt ≤ 12)
    (I2_1 : (0 : Int) ≤ l1_2.toInt)
    (hm2 : 2147483648 - l1_2.toInt < (((N2) + 1 : Nat) : Int))
    (c5 : ¬ ((12 : Int) ≤ l1_2.toInt))
    (t10 : (x10.toInt = 1 ∧ 0 ≤ l1_2.toInt ∧ l1_2.toInt ≤ 11 ∧ (aI (G.2.1 (F a 10)) (10 * l1_2.toInt + 0)) ≠ -1) ∨ (x10.toInt = 0 ∧ (¬ (0 ≤ l1_2.toInt ∧ l1_2.toInt ≤ 11) ∨ (aI (G.2.1 (F a 10)) (10 * l1_2.toInt + 0)) = -1)))
    (c13 : ¬ (x10.toInt = 0)) :
    ∀ i : Int, 0 ≤ i → i < (l1_2.toInt + 1) → aI (G.2.1 (F a 10)) (10 * i + 0) ≠ -1 := by
  intro i h1 h2
  by_cases e : i = l1_2.toInt
  · subst e; omega
  · exact pr i h1 (by omega)
theorem v_X11_freeRule_1_4 {K : Nat → Nat} {F : Nat → Nat → Nat} (a : Nat) (G : XG)
    (ha : K a = 13) :
    ∀ i : Int, 0 ≤ i → i < (0 : Int) → aI (G.2.1 (F a 10)) (10 * i + 0) ≠ -1 := by
  intro i h1 h2; exact absurd h1 (by omega)
abbrev rm_X11_look : Room := { frames := 6, cells := 0, slots := 0, locals := 146 }
set_option maxHeartbeats 4000000 in
set_option maxRecDepth 100000 in
theorem c_X11_look (l : Launch) (E : XE) (K : Nat → Nat) (F : Nat → Nat → Nat) (G : XG) (a : Nat) (r1 : Int → Int) (ha : K a = 13) (hR : RV (G.2.1 (F a 10))) (hM : RM (G.2.1 (F a 1)) (0)) (h1 : LSt (G.2.1 (F a 10)) (G.2.1 (F a 12)) r1 12) : Met l yX11_look (xw yX11_look cX11_look 1 (some .int)) rm_X11_look (va_Pc [.ref a] (XP E K F G)) (XQ E (fun v (u : XG) => ∃ r : Int32, v = .int r ∧ XFr [(a, 16), (a, 19), (a, 45), (a, 46)] [F a 15, F a 17, F a 18, F a 11] [] G u ∧ (((u.1 a 45).toInt) = (((fuO (G.2.1 (F a 10)) r1 (mw (G.2.1 (F a 1)) 0) 2).length : Nat) : Int)) ∧ (pL u F a = fuO (G.2.1 (F a 10)) r1 (mw (G.2.1 (F a 1)) 0) 0) ∧ (r.toInt = ffP (G.2.1 (F a 10)) (mw (G.2.1 (F a 1)) 0) (fuO (G.2.1 (F a 10)) r1 (mw (G.2.1 (F a 1)) 0) 0)) ∧ (((u.1 a 46).toInt) = r.toInt) ∧ (LSt (G.2.1 (F a 10)) (u.2.1 (F a 11)) (mw (G.2.1 (F a 1)) 0) 12) ∧ (0 ≤ ((u.1 a 19).toInt) ∧ ((u.1 a 19).toInt) ≤ 2388 ∧ -1 ≤ r.toInt ∧ r.toInt < ((u.1 a 19).toInt))) (fun u H => TW E K F u H)) 0 0 (xA E) := by
  refine x_enter (by decide) (Nat.le_of_ble_eq_true rfl) ?_
  intro p e s m args below meth c Q S hr hlk hnm hQ hP ls hl
  obtain ⟨hz, hK, hT⟩ := hP
  obtain ⟨hx, hb, -, -, -⟩ := id S
  obtain ⟨H, hT, hS, hgo⟩ : ∃ H : Heap, TW E K F G H ∧ va_S (xA E) s.heap H [] ∧ H = s.heap := ⟨_, hT, va_S.rf, rfl⟩
  rw [← hgo]
  have hl : lv_has ls 1 [(0, .ref a)] := hl
  obtain ⟨hk9999, hj9999⟩ := fkX11_15 hT ha
  obtain ⟨hk9999a, hj9999a⟩ := fkX11_17 hT ha
  obtain ⟨hk9999b, hj9999b⟩ := fkX11_18 hT ha
  obtain ⟨hk9999c, hj9999c⟩ := fkX11_11 hT ha
  obtain ⟨hk9999d, hj9999d⟩ := fkX11_10 hT ha
  obtain ⟨hk9999e, hj9999e⟩ := fkX11_1 hT ha
  obtain ⟨hk9999f, hj9999f⟩ := fkX11_12 hT ha
  refine lv_aload_n hx hb dX11_look_0 rfl (lv_at hl 0 rfl) ?_
  refine lv_aload_n hx hb dX11_look_1 rfl (lv_at hl 0 rfl) ?_
  refine gX11_11 S hK hT ha kf_X11_36 dX11_look_2 (fun _ _ => ?_)
  refine lv_aload_n hx hb dX11_look_5 rfl (lv_at hl 0 rfl) ?_
  refine gX11_1 S hK hT ha kf_X11_9 dX11_look_6 (fun _ _ => ?_)
  refine lv_iconst (v := 0) hx hb dX11_look_9 (by decide) ?_
  refine x_cv0 (x_runV (b := a) (As := [.ref (F a 11), .ref (F a 1), .int 0]) (rest := []) S (c_X11_layStates l E K F G a (F a 11) (F a 1) 0 ha hk9999c (XO.a hk9999e (by decide)) (v_X11_look_10_1 (F := F) a G hR) (v_X11_look_10_2 (K := K) (F := F) a G r1 ha hk9999 hj9999 hk9999a hj9999a hk9999b hj9999b hk9999c hj9999c hk9999d hj9999d hk9999e hj9999e hk9999f hj9999f hR hM h1)) mv_X11_layStates km_X11_210 rfl rfl ⟨Nat.le_of_ble_eq_true rfl, Nat.le_of_ble_eq_true rfl⟩ (rc_13 hK hT ha) hK (fun _ => XP.blind) (fun U hU hW => XP.at hK hz hS hT hU hW) rfl hl.1 (Nat.le_of_ble_eq_true rfl) dX11_look_10 ⟨Nat.le_of_ble_eq_true rfl, Nat.le_of_ble_eq_true rfl⟩) hS ?_
  rintro G10 H locs ⟨hF10, oq10, oq10a⟩ hT hS
  refine lv_aload_n hx hb dX11_look_13 rfl (lv_at hl 0 rfl) ?_
  refine lv_iconst (v := 2) hx hb dX11_look_14 (by decide) ?_
  refine lv_aload_n hx hb dX11_look_15 rfl (lv_at hl 0 rfl) ?_
  refine gX11_12 S hK hT ha kf_X11_39 dX11_look_16 (fun _ _ => ?_)
  refine lv_aload_n hx hb dX11_look_19 rfl (lv_at hl 0 rfl) ?_
  refine gX11_11 S hK hT ha kf_X11_36 dX11_look_20 (fun _ _ => ?_)
  refine x_cv0 (x_runV (b := a) (As := [.int 2, .ref (F a 12), .ref (F a 11)]) (rest := []) S (c_X11_findUnlike l E K F G10 a 2 (F a 12) (F a 11) r1 (mw (G.2.1 (F a 1)) 0) ha hk9999f hk9999c (v_X11_look_23_3 (F := F) a G G10 hR (hF10.2.1 _ (xn1 (xne_k hk9999d hk9999c (by decide)) xn0))) (v_X11_look_23_4 (F := F) a G G10 r1 h1 oq10 (hF10.2.1 _ (xn1 (xne_k hk9999d hk9999c (by decide)) xn0)) (hF10.2.1 _ (xn1 (xne_j hj9999f hj9999c (by first | decide | omega)) xn0))) (v_X11_look_23_5 (F := F) a G G10 r1 h1 oq10 (hF10.2.1 _ (xn1 (xne_k hk9999d hk9999c (by decide)) xn0)))) mv_X11_findUnlike km_X11_214 rfl rfl ⟨Nat.le_of_ble_eq_true rfl, Nat.le_of_ble_eq_true rfl⟩ (rc_13 hK hT ha) hK (fun _ => XP.blind) (fun U hU hW => XP.at hK hz hS hT hU hW) rfl hl.1 (Nat.le_of_ble_eq_true rfl) dX11_look_23 ⟨Nat.le_of_ble_eq_true rfl, Nat.le_of_ble_eq_true rfl⟩) hS ?_
  rintro G23 H locs ⟨hF23, t23, oq23, oq23a, oq23b⟩ hT hS
  have t23 : 0 ≤ ((G23.1 a 19).toInt) ∧ ((G23.1 a 19).toInt) ≤ 2388 := t23
  have oq23 : pL G23 F a = fuL (G.2.1 (F a 10)) r1 (mw (G.2.1 (F a 1)) 0) (2 : Int) (ordN (prM (G.2.1 (F a 10))) (rkM (G.2.1 (F a 10))) 12).2 (ordN (prM (G.2.1 (F a 10))) (rkM (G.2.1 (F a 10))) 12).1 := by simp only [(show G10.2.1 (F a 10) = G.2.1 (F a 10) from (hF10.2.1 _ (xn1 (xne_k hk9999d hk9999c (by decide)) xn0)))] at oq23; exact oq23
  have oq23a : ORm (G.2.1 (F a 10)) (G23.2.1 (F a 15)) ((G23.1 a 16).toInt) 12 := by simp only [(show G10.2.1 (F a 10) = G.2.1 (F a 10) from (hF10.2.1 _ (xn1 (xne_k hk9999d hk9999c (by decide)) xn0)))] at oq23a; exact oq23a
  refine lv_aload_n hx hb dX11_look_26 rfl (lv_at hl 0 rfl) ?_
  refine lv_aload_n hx hb dX11_look_27 rfl (lv_at hl 0 rfl) ?_
  refine gX11_19 S hK hT ha kf_X11_203 dX11_look_28 (v := (G23.1 a 19)) rfl (?_)
  refine pX11_45 (v := (G23.1 a 19)) S hK hT hS ha kf_X11_316 dX11_look_31 (fun H locs hT hS => ?_)
  obtain ⟨G31, hG31⟩ : ∃ GG : XG, GG = dput G23 a 45 (G23.1 a 19) := ⟨_, rfl⟩
  rw [← hG31] at hT
  refine lv_aload_n hx hb dX11_look_34 rfl (lv_at hl 0 rfl) ?_
  refine lv_aload_n hx hb dX11_look_35 rfl (lv_at hl 0 rfl) ?_
  refine lv_iconst (v := 0) hx hb dX11_look_36 (by decide) ?_
  refine x_cl0 (x_runV (b := a) (As := [.int 0]) (rest := [.ref a]) S (c_X11_asks l E K F G31 a 0 r1 ha (v_X11_look_37_6 (F := F) a G G31 hR ((ld_c hG31).trans ((hF23.2.1 _ (xn1 (xne_k hk9999d hk9999 (by decide)) (xn1 (xne_k hk9999d hk9999a (by decide)) (xn1 (xne_k hk9999d hk9999b (by decide)) xn0)))).trans (hF10.2.1 _ (xn1 (xne_k hk9999d hk9999c (by decide)) xn0))))) (v_X11_look_37_7 (F := F) a G G31 hM ((ld_c hG31).trans ((hF23.2.1 _ (xn1 (xne_k hk9999e hk9999 (by decide)) (xn1 (xne_k hk9999e hk9999a (by decide)) (xn1 (xne_k hk9999e hk9999b (by decide)) xn0)))).trans (hF10.2.1 _ (xn1 (xne_k hk9999e hk9999c (by decide)) xn0))))) (v_X11_look_37_8 (F := F) a G G10 G31 r1 h1 oq10 ((ld_c hG31).trans ((hF23.2.1 _ (xn1 (xne_k hk9999d hk9999 (by decide)) (xn1 (xne_k hk9999d hk9999a (by decide)) (xn1 (xne_k hk9999d hk9999b (by decide)) xn0)))).trans (hF10.2.1 _ (xn1 (xne_k hk9999d hk9999c (by decide)) xn0)))) ((ld_c hG31).trans ((hF23.2.1 _ (xn1 (xne_k hk9999f hk9999 (by decide)) (xn1 (xne_k hk9999f hk9999a (by decide)) (xn1 (xne_k hk9999f hk9999b (by decide)) xn0)))).trans (hF10.2.1 _ (xn1 (xne_j hj9999f hj9999c (by first | decide | omega)) xn0))))) (v_X11_look_37_9 (K := K) (F := F) a G G10 G23 G31 r1 ha hk9999 hj9999 hk9999a hj9999a hk9999b hj9999b hk9999c hj9999c hk9999d hj9999d hk9999e hj9999e hk9999f hj9999f hF10 hF23 hG31 hR hM h1 oq10 oq10a oq23 oq23a oq23b t23 ((ld_c hG31).trans ((hF23.2.1 _ (xn1 (xne_k hk9999e hk9999 (by decide)) (xn1 (xne_k hk9999e hk9999a (by decide)) (xn1 (xne_k hk9999e hk9999b (by decide)) xn0)))).trans (hF10.2.1 _ (xn1 (xne_k hk9999e hk9999c (by decide)) xn0)))) ((ld_c hG31).trans ((hF23.2.1 _ (xn1 (xne_k hk9999d hk9999 (by decide)) (xn1 (xne_k hk9999d hk9999a (by decide)) (xn1 (xne_k hk9999d hk9999b (by decide)) xn0)))).trans (hF10.2.1 _ (xn1 (xne_k hk9999d hk9999c (by decide)) xn0)))) ((ld_c hG31).trans (hF23.2.1 _ (xn1 (xne_k hk9999c hk9999 (by decide)) (xn1 (xne_k hk9999c hk9999a (by decide)) (xn1 (xne_k hk9999c hk9999b (by decide)) xn0))))) (ld_c hG31) (ld_c hG31) (ld_c hG31) (ld_j hG31 (by decide)) (ld_j hG31 (by decide)) (ld_at hG31) ((ld_j hG31 (by decide)).trans ((hF23.1 _ _ (xnj (by decide) (xnj (by decide) xn0))).trans (hF10.1 _ _ xn0))))) mv_X11_asks km_X11_319 rfl rfl ⟨Nat.le_of_ble_eq_true rfl, Nat.le_of_ble_eq_true rfl⟩ (rc_13 hK hT ha) hK (fun _ => XP.blind) (fun U hU hW => XP.at hK hz hS hT hU hW) rfl hl.1 (Nat.le_of_ble_eq_true rfl) dX11_look_37 ⟨Nat.le_of_ble_eq_true rfl, Nat.le_of_ble_eq_true rfl⟩) hS ?_
  rintro _ G37 H locs ⟨x37, rfl, hF37, t37, oq37, oq37a, oq37b⟩ hT hS
  have t37 : -1 ≤ x37.toInt := t37
  have oq37 : pL G37 F a = fuO (G.2.1 (F a 10)) r1 (mw (G.2.1 (F a 1)) 0) (0 : Int) := by simp only [(show G31.2.1 (F a 10) = G.2.1 (F a 10) from ((ld_c hG31).trans ((hF23.2.1 _ (xn1 (xne_k hk9999d hk9999 (by decide)) (xn1 (xne_k hk9999d hk9999a (by decide)) (xn1 (xne_k hk9999d hk9999b (by decide)) xn0)))).trans (hF10.2.1 _ (xn1 (xne_k hk9999d hk9999c (by decide)) xn0))))), (show G31.2.1 (F a 1) = G.2.1 (F a 1) from ((ld_c hG31).trans ((hF23.2.1 _ (xn1 (xne_k hk9999e hk9999 (by decide)) (xn1 (xne_k hk9999e hk9999a (by decide)) (xn1 (xne_k hk9999e hk9999b (by decide)) xn0)))).trans (hF10.2.1 _ (xn1 (xne_k hk9999e hk9999c (by decide)) xn0)))))] at oq37; exact oq37
  have oq37a : x37.toInt = ffP (G.2.1 (F a 10)) (mw (G.2.1 (F a 1)) 0) (pL G37 F a) := by simp only [(show G31.2.1 (F a 10) = G.2.1 (F a 10) from ((ld_c hG31).trans ((hF23.2.1 _ (xn1 (xne_k hk9999d hk9999 (by decide)) (xn1 (xne_k hk9999d hk9999a (by decide)) (xn1 (xne_k hk9999d hk9999b (by decide)) xn0)))).trans (hF10.2.1 _ (xn1 (xne_k hk9999d hk9999c (by decide)) xn0))))), (show G31.2.1 (F a 1) = G.2.1 (F a 1) from ((ld_c hG31).trans ((hF23.2.1 _ (xn1 (xne_k hk9999e hk9999 (by decide)) (xn1 (xne_k hk9999e hk9999a (by decide)) (xn1 (xne_k hk9999e hk9999b (by decide)) xn0)))).trans (hF10.2.1 _ (xn1 (xne_k hk9999e hk9999c (by decide)) xn0)))))] at oq37a; exact oq37a
  refine pX11_46 (v := x37) S hK hT hS ha kf_X11_322 dX11_look_40 (fun H locs hT hS => ?_)
  obtain ⟨G40, hG40⟩ : ∃ GG : XG, GG = dput G37 a 46 x37 := ⟨_, rfl⟩
  rw [← hG40] at hT
  refine lv_aload_n hx hb dX11_look_43 rfl (lv_at hl 0 rfl) ?_
  refine gX11_46 S hK hT ha kf_X11_322 dX11_look_44 (v := x37) (ld_at hG40) (?_)
  exact x_ri hx hb hr hlk hQ (Nat.le_of_ble_eq_true rfl) (Nat.le_of_ble_eq_true rfl) hS dX11_look_47 G40 ⟨_, rfl, (by rw [hG40]; exact XFr.dput (XFr.call (by rw [hG31]; exact XFr.dput (XFr.call (XFr.call XFr.rf hF10 xm0 (xm1 3 rfl xm0) xm0) hF23 (xm1 0 rfl (xm1 1 rfl xm0)) (xm1 0 rfl (xm1 1 rfl (xm1 2 rfl xm0))) xm0) (List.mem_of_getElem? (i := 2) rfl)) hF37 (xm1 0 rfl (xm1 1 rfl xm0)) (xm1 0 rfl (xm1 1 rfl (xm1 2 rfl xm0))) xm0) (List.mem_of_getElem? (i := 3) rfl)), (v_X11_look_47_10 (K := K) (F := F) a G G10 G23 G37 G40 x37 r1 ha oq10a oq23 oq23b oq37a oq37b t23 t37 ((ld_j hG40 (by decide)).trans ((hF37.1 _ _ (xnj (by decide) (xnj (by decide) xn0))).trans (ld_at hG31)))), (v_X11_look_47_11 (F := F) a G G37 G40 x37 r1 hG40 oq37), (v_X11_look_47_12 (F := F) a G G37 x37 r1 oq37 oq37a), (v_X11_look_47_13 a G40 x37 (ld_at hG40)), (v_X11_look_47_14 (F := F) a G G10 G40 oq10 ((ld_c hG40).trans ((hF37.2.1 _ (xn1 (xne_k hk9999c hk9999 (by decide)) (xn1 (xne_k hk9999c hk9999a (by decide)) (xn1 (xne_k hk9999c hk9999b (by decide)) xn0)))).trans ((ld_c hG31).trans (hF23.2.1 _ (xn1 (xne_k hk9999c hk9999 (by decide)) (xn1 (xne_k hk9999c hk9999a (by decide)) (xn1 (xne_k hk9999c hk9999b (by decide)) xn0)))))))), (v_X11_look_47_15 (K := K) (F := F) a G G10 G23 G37 G40 x37 ha oq10a oq23b oq37a oq37b t23 t37 (ld_j hG40 (by decide)))⟩ hT

theorem z_X11_freeRule_1 (a0 : Int) (h0 : 0 ≤ a0 ∧ a0 ≤ 12) : ¬ (2147483648 - a0 < ((0 : Nat) : Int)) := by omega
theorem z_X11_freeRule_4 (a0 : Int) (a1 : Int) (h0 : 0 ≤ a0 ∧ a0 ≤ 12) (h1 : a1 = (a0 + 1) ∨ (a0 + 1) < -2147483648 ∨ 2147483648 ≤ (a0 + 1)) : a1 = (a0 + 1) := by omega
theorem z_X11_freeRule_5 (a0 : Int) (h0 : 0 ≤ a0 ∧ a0 ≤ 12) (h1 : ¬ ((12 : Int) ≤ a0)) : 0 ≤ (a0 + 1) ∧ (a0 + 1) ≤ 12 := by omega
theorem z_X11_freeRule_6 (a0 : Int) (h0 : 0 ≤ a0 ∧ a0 ≤ 12) : (0 : Int) ≤ (a0 + 1) := by omega
theorem z_X11_freeRule_7 (a0 : Int) (a1 : Nat) (h0 : 2147483648 - a0 < ((a1 + 1 : Nat) : Int)) : 2147483648 - (a0 + 1) < ((a1 : Nat) : Int) := by omega
abbrev rm_X11_freeRule : Room := { frames := 2, cells := 0, slots := 0, locals := 46 }
set_option maxHeartbeats 4000000 in
set_option maxRecDepth 100000 in
theorem c_X11_freeRule (l : Launch) (E : XE) (K : Nat → Nat) (F : Nat → Nat → Nat) (G : XG) (h0 : Heap) (a : Nat) (ha : K a = 13) : Met l yX11_freeRule (xw yX11_freeRule cX11_freeRule 2 (some .int)) rm_X11_freeRule (va_Pc [.ref a] (XPh E K F G h0)) (XQ E (fun v (u : Unit) => ∃ r : Int32, v = .int r ∧ (0 ≤ r.toInt ∧ r.toInt ≤ 12) ∧ ((r.toInt = 12 ∨ aI (G.2.1 (F a 10)) (10 * r.toInt + 0) = -1) ∧ ∀ i : Int, 0 ≤ i → i < r.toInt → aI (G.2.1 (F a 10)) (10 * i + 0) ≠ -1)) (fun _ H => H = h0)) 0 0 (xA E) := by
  refine x_enter (by decide) (Nat.le_of_ble_eq_true rfl) ?_
  intro p e s m args below meth c Q S hr hlk hnm hQ hP ls hl
  obtain ⟨⟨hz, hK, hT⟩, hh⟩ := hP
  obtain ⟨hx, hb, -, -, -⟩ := id S
  have hS : va_S (xA E) s.heap s.heap [] := va_S.rf
  have hl : lv_has ls 2 [(0, .ref a)] := hl
  obtain ⟨hk9999, hj9999⟩ := fkX11_10 hT ha
  refine lv_iconst (v := 0) hx hb dX11_freeRule_0 (by decide) ?_
  refine lv_istore_n (lv' := [(1, .int 0), (0, .ref a)]) hx hb dX11_freeRule_1 rfl hl (by decide) rfl (fun ls hl => ?_)
  have L2 : ∀ (N2 : Nat) (l1_2 : Int32) (locs : List Loc) (ls : Array Slot), (∀ i : Int, 0 ≤ i → i < l1_2.toInt → aI (G.2.1 (F a 10)) (10 * i + 0) ≠ -1) → 0 ≤ l1_2.toInt ∧ l1_2.toInt ≤ 12 → (0 : Int) ≤ l1_2.toInt → 2147483648 - l1_2.toInt < ((N2 : Nat) : Int) → TW E K F G s.heap → va_S (xA E) s.heap s.heap locs → lv_has ls 2 [(0, .ref a), (1, .int l1_2)] → W p l e rm_X11_freeRule s m args below meth c s.heap locs 0 0 Q (F0 m 2 ls []) := by
    intro N2
    induction N2 with
    | zero =>
      intro l1_2 locs ls pr I2_0 I2_1 hm2
      exact absurd hm2 (z_X11_freeRule_1 l1_2.toInt I2_0)
    | succ N2 ih2 =>
      intro l1_2 locs ls pr I2_0 I2_1 hm2 hT hS hl
      refine lv_iload_n hx hb dX11_freeRule_2 rfl (lv_at hl 1 rfl) ?_
      refine lv_bipush (v := 12) hx hb dX11_freeRule_3 (by decide) ?_
      refine xi_cge (tgt := 22) hx hb (rfl : Int32.toInt l1_2 = l1_2.toInt) ((by decide) : Int32.toInt 12 = (12 : Int)) dX11_freeRule_5 (by decide) (fun c5 => ?_) (fun c5 => ?_)
      · refine lv_iload_n hx hb dX11_freeRule_22 rfl (lv_at hl 1 rfl) ?_
        exact x_ri hx hb hr hlk hQ (Nat.le_of_ble_eq_true rfl) (Nat.le_of_ble_eq_true rfl) hS dX11_freeRule_23 () ⟨_, rfl, (I2_0), (v_X11_freeRule_23_1 (K := K) (F := F) a l1_2 G N2 ha pr I2_0 I2_1 hm2 c5)⟩ hh
      · refine lv_aload_n hx hb dX11_freeRule_8 rfl (lv_at hl 0 rfl) ?_
        refine lv_iload_n hx hb dX11_freeRule_9 rfl (lv_at hl 1 rfl) ?_
        refine x_clp (x_runV (b := a) (As := [.int l1_2]) (rest := []) S (c_X11_isRule l E K F G s.heap a l1_2 ha) mv_X11_isRule km_X11_162 rfl rfl ⟨Nat.le_of_ble_eq_true rfl, Nat.le_of_ble_eq_true rfl⟩ (rc_13 hK hT ha) hK (fun _ => XPh.blind) (fun U hU hW => XPh.at hK hz hS hT hU hW) rfl hl.1 (Nat.le_of_ble_eq_true rfl) dX11_freeRule_10 ⟨Nat.le_of_ble_eq_true rfl, Nat.le_of_ble_eq_true rfl⟩) hS ?_
        rintro _ _ locs ⟨x10, rfl, b10, t10⟩ hS
        have t10 : (x10.toInt = 1 ∧ 0 ≤ l1_2.toInt ∧ l1_2.toInt ≤ 11 ∧ (aI (G.2.1 (F a 10)) (10 * l1_2.toInt + 0)) ≠ -1) ∨ (x10.toInt = 0 ∧ (¬ (0 ≤ l1_2.toInt ∧ l1_2.toInt ≤ 11) ∨ (aI (G.2.1 (F a 10)) (10 * l1_2.toInt + 0)) = -1)) := t10
        refine xi_zeq (tgt := 22) hx hb (rfl : Int32.toInt x10 = x10.toInt) dX11_freeRule_13 (by decide) (fun c13 => ?_) (fun c13 => ?_)
        · refine lv_iload_n hx hb dX11_freeRule_22 rfl (lv_at hl 1 rfl) ?_
          exact x_ri hx hb hr hlk hQ (Nat.le_of_ble_eq_true rfl) (Nat.le_of_ble_eq_true rfl) hS dX11_freeRule_23 () ⟨_, rfl, (I2_0), (v_X11_freeRule_23_2 (K := K) (F := F) a l1_2 G N2 x10 ha pr I2_0 I2_1 hm2 c5 t10 c13)⟩ hh
        · refine xi_iinc (n := 1) (lv' := fun z9 => [(1, .int z9), (0, .ref a)]) (k := 1) hx hb (rfl : Int32.toInt l1_2 = l1_2.toInt) (by decide) dX11_freeRule_16 hl rfl (by decide) (fun _ => rfl) (fun x16 ls t16 hl => ?_)
          have e16 : x16.toInt = (l1_2.toInt + 1) := (z_X11_freeRule_4 l1_2.toInt x16.toInt I2_0 t16)
          have hl : lv_has ls 2 [(1, .int x16), (0, .ref a)] := hl
          refine lv_goto (tgt := 2) hx hb dX11_freeRule_19 (by decide) ?_
          exact ih2 x16 _ _ (by rw [(e16 : Int32.toInt x16 = (l1_2.toInt + 1))] <;> exact (v_X11_freeRule_19_3 (K := K) (F := F) a l1_2 G N2 x10 ha pr I2_0 I2_1 hm2 c5 t10 c13)) (by rw [(e16 : Int32.toInt x16 = (l1_2.toInt + 1))] <;> exact (z_X11_freeRule_5 l1_2.toInt I2_0 c5)) (by rw [(e16 : Int32.toInt x16 = (l1_2.toInt + 1))] <;> exact (z_X11_freeRule_6 l1_2.toInt I2_0)) (by rw [(e16 : Int32.toInt x16 = (l1_2.toInt + 1))] <;> exact (z_X11_freeRule_7 l1_2.toInt N2 hm2)) hT hS (lv_sub hl [1, 0] rfl)
  exact L2 4294967297 0 _ _ (v_X11_freeRule_1_4 (K := K) (F := F) a G ha) (by decide) (by decide) (by decide) hT hS (lv_sub hl [1, 0] rfl)
/-! ===== what the reference asked ===== -/
def aL (G : XG) (F : Nat → Nat → Nat) (a : Nat) : List (Int × Int) := lst (fun i => ((G.2.1 (F a 41) i).toInt, (G.2.1 (F a 42) i).toInt)) (G.1 a 43).toInt.toNat
theorem aL_len (G : XG) (F : Nat → Nat → Nat) (a : Nat) : (aL G F a).length = (G.1 a 43).toInt.toNat := lst_len _ _
theorem aL_cg {G u : XG} {F : Nat → Nat → Nat} {a : Nat} (hn : u.1 a 43 = G.1 a 43) (h0 : u.2.1 (F a 41) = G.2.1 (F a 41)) (h1 : u.2.1 (F a 42) = G.2.1 (F a 42)) : aL u F a = aL G F a := by
  unfold aL
  rw [hn, h0, h1]
/-! ===== the reference: what is asked till one fails, what that leaves ===== -/
noncomputable def upP (f : Nat → Int32) (r : Int → Int) : List (Int × Int) → List (Int × Int)
  | [] => []
  | y :: l => if fzq f r y.1 y.2 ≠ 0 then [y] else y :: upP f r l
noncomputable def fpF (f : Nat → Int32) (r : Int → Int) : List (Int × Int) → Option (Int × Int)
  | [] => none
  | y :: l => if fzq f r y.1 y.2 ≠ 0 then some y else fpF f r l
theorem ffP_c (f : Nat → Int32) (r : Int → Int) (y : Int × Int) (l : List (Int × Int)) : ffP f r (y :: l) = if fzq f r y.1 y.2 ≠ 0 then 0 else if ffP f r l = -1 then -1 else ffP f r l + 1 := rfl
theorem ffP_ge (f : Nat → Int32) (r : Int → Int) (l : List (Int × Int)) : -1 ≤ ffP f r l := ffL_ge _
theorem up_ff (f : Nat → Int32) (r : Int → Int) : ∀ l : List (Int × Int), (ffP f r l = -1 ∧ upP f r l = l ∧ fpF f r l = none) ∨ (0 ≤ ffP f r l ∧ upP f r l = l.take ((ffP f r l).toNat + 1) ∧ ∃ y, l[(ffP f r l).toNat]? = some y ∧ fpF f r l = some y)
  | [] => Or.inl ⟨rfl, rfl, rfl⟩
  | y :: l => by
    rw [ffP_c]
    unfold upP fpF
    by_cases c : fzq f r y.1 y.2 ≠ 0
    · rw [if_pos c, if_pos c, if_pos c]
      exact Or.inr ⟨Int.le_refl _, rfl, y, rfl, rfl⟩
    · rw [if_neg c, if_neg c, if_neg c]
      rcases up_ff f r l with ⟨a, b, d⟩ | ⟨a, b, z, d, e⟩
      · rw [if_pos a, b]
        exact Or.inl ⟨rfl, rfl, d⟩
      · rw [if_neg (by omega), b]
        have h : (ffP f r l + 1).toNat = (ffP f r l).toNat + 1 := by omega
        rw [h]
        exact Or.inr ⟨by omega, by rw [List.take_succ_cons], z, d, e⟩
theorem up_take {f : Nat → Int32} {r : Int → Int} {l : List (Int × Int)} {k m : Int} (hk : k = ffP f r l) (hm : (k = -1 ∧ m = ((l.length : Nat) : Int)) ∨ (k ≠ -1 ∧ m = k + 1)) : upP f r l = l.take m.toNat ∧ (((upP f r l).length : Nat) : Int) = m := by
  subst hk
  rcases up_ff f r l with ⟨a, b, -⟩ | ⟨a, b, y, d, -⟩
  · have e : m = ((l.length : Nat) : Int) := hm.elim (fun h => h.2) (fun h => absurd a h.1)
    rw [b, e]
    exact ⟨by rw [show (((l.length : Nat) : Int)).toNat = l.length by omega, List.take_length], rfl⟩
  · have e : m = ffP f r l + 1 := hm.elim (fun h => by omega) (fun h => h.2)
    have h : m.toNat = (ffP f r l).toNat + 1 := by omega
    rw [b, h]
    refine ⟨rfl, ?_⟩
    have hl : (ffP f r l).toNat < l.length := (List.getElem?_eq_some_iff.mp d).1
    rw [List.length_take]
    omega
theorem fp_no {f : Nat → Int32} {r : Int → Int} {l : List (Int × Int)} (h : ffP f r l = -1) : fpF f r l = none := (up_ff f r l).elim (fun q => q.2.2) (fun q => absurd q.1 (by omega))
theorem fp_at {f : Nat → Int32} {r : Int → Int} {l : List (Int × Int)} {k : Int} {y : Int × Int} (hk : k = ffP f r l) (h : k ≠ -1) (hy : l[k.toNat]? = some y) : fpF f r l = some y := by
  subst hk
  rcases up_ff f r l with ⟨a, -⟩ | ⟨-, -, z, d, e⟩
  · exact absurd a h
  · rw [d] at hy
    cases hy
    exact e
/-- the verdict of the reference -/
def TMo (G u : XG) (a : Nat) (o : Option (Int × Int)) : Prop := match o with
  | none => (u.1 a 20).toInt = (G.1 a 20).toInt ∧ (u.1 a 21).toInt = (G.1 a 21).toInt
  | some y => (u.1 a 20).toInt = y.1 ∧ (u.1 a 21).toInt = y.2
def TM (u : XG) (a : Nat) (o : Option (Int × Int)) : Prop := match o with
  | none => (u.1 a 20).toInt = -2147483648 ∧ (u.1 a 21).toInt = -2147483648
  | some y => (u.1 a 20).toInt = y.1 ∧ (u.1 a 21).toInt = y.2
theorem TMo.tm {G u : XG} {a : Nat} {o : Option (Int × Int)} (h : TMo G u a o) (h0 : (G.1 a 20).toInt = -2147483648 ∧ (G.1 a 21).toInt = -2147483648) : TM u a o := by
  cases o with
  | none => exact ⟨h.1.trans h0.1, h.2.trans h0.2⟩
  | some y => exact h
noncomputable def acVM (op : Int) (f : Nat → Int32) (r1 p : Int → Int) : Option (Int × Int) := match fpF f p (fuO f r1 p 0) with
  | some y => some y
  | none => if op = 0 then fpF f p (fuO f r1 p 1) else none
noncomputable def acKM (op : Int) (f : Nat → Int32) (r1 p : Int → Int) : Int := (((upP f p (fuO f r1 p 0)).length : Nat) : Int) + (match fpF f p (fuO f r1 p 0) with
  | some _ => 0
  | none => if op = 0 then (((upP f p (fuO f r1 p 1)).length : Nat) : Int) else 0)
def isNm (o : Option (Int × Int)) : Int := match o with
  | none => 1
  | some _ => 0
def isSm (o : Option (Int × Int)) : Int := match o with
  | none => 0
  | some _ => 1
noncomputable def acCM (op : Int) (f : Nat → Int32) (r1 p : Int → Int) : Int := match fpF f p (fuO f r1 p 0) with
  | some _ => 0
  | none => if op = 0 then isNm (fpF f p (fuO f r1 p 1)) else 0
noncomputable def acBM (op : Int) (f : Nat → Int32) (r1 p : Int → Int) : Int := match fpF f p (fuO f r1 p 0) with
  | some _ => 0
  | none => if op = 0 then isSm (fpF f p (fuO f r1 p 1)) else 0
noncomputable def acIM (op : Int) (f : Nat → Int32) (r1 p : Int → Int) (z : Int) : Int := match fpF f p (fuO f r1 p 0) with
  | some _ => 0
  | none => if op = 0 then 0 else z
noncomputable def acJM (op : Int) (f : Nat → Int32) (r1 p : Int → Int) : Int := match fpF f p (fuO f r1 p 0) with
  | some _ => if op = 0 then 0 else 1
  | none => 0
def acAM (op : Int) (f : Nat → Int32) (r1 p : Int → Int) (l0 l1 : List (Int × Int)) (a0 a1 : Int) : Prop := match fpF f p (fuO f r1 p 0) with
  | some _ => l1 = l0 ∧ a1 = a0
  | none => if op = 0 then l1 = upP f p (fuO f r1 p 1) ∧ a1 = ffP f p (fuO f r1 p 1) else l1 = l0 ∧ a1 = a0
theorem am_s {f : Nat → Int32} {r1 p : Int → Int} {y : Int × Int} (h : fpF f p (fuO f r1 p 0) = some y) (op : Int) : acVM op f r1 p = some y ∧ acKM op f r1 p = (((upP f p (fuO f r1 p 0)).length : Nat) : Int) ∧ acCM op f r1 p = 0 ∧ acBM op f r1 p = 0 ∧ (∀ z, acIM op f r1 p z = 0) ∧ acJM op f r1 p = (if op = 0 then 0 else 1) ∧ ∀ (l0 l1 : List (Int × Int)) (a0 a1 : Int), l1 = l0 → a1 = a0 → acAM op f r1 p l0 l1 a0 a1 := by
  unfold acVM acKM acCM acBM acIM acJM acAM
  rw [h]
  exact ⟨rfl, Int.add_zero _, rfl, rfl, fun _ => rfl, rfl, fun _ _ _ _ a b => ⟨a, b⟩⟩
theorem am_n {f : Nat → Int32} {r1 p : Int → Int} (h : fpF f p (fuO f r1 p 0) = none) {op : Int} (ho : op ≠ 0) : acVM op f r1 p = none ∧ acKM op f r1 p = (((upP f p (fuO f r1 p 0)).length : Nat) : Int) ∧ acCM op f r1 p = 0 ∧ acBM op f r1 p = 0 ∧ (∀ z, acIM op f r1 p z = z) ∧ acJM op f r1 p = 0 ∧ ∀ (l0 l1 : List (Int × Int)) (a0 a1 : Int), l1 = l0 → a1 = a0 → acAM op f r1 p l0 l1 a0 a1 := by
  unfold acVM acKM acCM acBM acIM acJM acAM
  rw [h]
  refine ⟨if_neg ho, ?_, if_neg ho, if_neg ho, fun _ => if_neg ho, rfl, fun _ _ _ _ a b => ?_⟩
  · show _ + (if op = 0 then _ else (0 : Int)) = _
    rw [if_neg ho, Int.add_zero]
  · show if op = 0 then _ else _
    rw [if_neg ho]
    exact ⟨a, b⟩
theorem am_o {f : Nat → Int32} {r1 p : Int → Int} (h : fpF f p (fuO f r1 p 0) = none) {op : Int} (ho : op = 0) : acVM op f r1 p = fpF f p (fuO f r1 p 1) ∧ acKM op f r1 p = (((upP f p (fuO f r1 p 0)).length : Nat) : Int) + (((upP f p (fuO f r1 p 1)).length : Nat) : Int) ∧ acCM op f r1 p = isNm (fpF f p (fuO f r1 p 1)) ∧ acBM op f r1 p = isSm (fpF f p (fuO f r1 p 1)) ∧ (∀ z, acIM op f r1 p z = 0) ∧ acJM op f r1 p = 0 ∧ ∀ (l0 l1 : List (Int × Int)) (a0 a1 : Int), l1 = upP f p (fuO f r1 p 1) → a1 = ffP f p (fuO f r1 p 1) → acAM op f r1 p l0 l1 a0 a1 := by
  unfold acVM acKM acCM acBM acIM acJM acAM
  rw [h]
  refine ⟨if_pos ho, ?_, if_pos ho, if_pos ho, fun _ => if_pos ho, rfl, fun _ _ _ _ a b => ?_⟩
  · show _ + (if op = 0 then _ else (0 : Int)) = _
    rw [if_pos ho]
  · show if op = 0 then _ else _
    rw [if_pos ho]
    exact ⟨a, b⟩
/-- an act of the reference -/
def ActMT (go : Prop) (op : Int) (f : Nat → Int32) (r1 p vb : Int → Int) (l0 l1 : List (Int × Int)) (a0 a1 : Int) (u : XG) (a : Nat) (c0 c1 s0 s1 : Nat → Int32) : Prop :=
  (¬ go ∧ (l1 = l0 ∧ a1 = a0) ∧ TM u a none ∧ SF c0 c1 0 0 0 0 ∧ SI s0 s1 0 0 0 0 0 (if op = 0 then 0 else 1)) ∨
  (go ∧ acAM op f r1 p l0 l1 a0 a1 ∧ TM u a (acVM op f r1 p) ∧ SF c0 c1 (acKM op f r1 p) (acCM op f r1 p) (acBM op f r1 p) 0 ∧ SI s0 s1 (acIM op f r1 p (frA f r1 vb p 1 12)) (acIM op f r1 p (frA f p vb r1 1 12)) 0 0 (acIM op f r1 p 1) (acJM op f r1 p))
/-- two counts at once -/
theorem SI.two {f g m h : Nat → Int32} {b C L c l x y I J : Int} (p : SI f g (tlK b C) (tlK b L) (tlN b L) (tlN b C) 0 0)
    (q1 : SI g m (if I = 0 then x else 0) (if I = 1 then x else 0) (if I = 2 then x else 0) (if I = 3 then x else 0) (if I = 4 then x else 0) (if I = 5 then x else 0))
    (q2 : SI m h (if J = 0 then y else 0) (if J = 1 then y else 0) (if J = 2 then y else 0) (if J = 3 then y else 0) (if J = 4 then y else 0) (if J = 5 then y else 0))
    (hh : (b = 0 ∧ I = 0 ∧ J = 1) ∨ (b = 1 ∧ I = 3 ∧ J = 2)) (hx : x = c) (hy : y = l) : SI f h (tlK b (C + c)) (tlK b (L + l)) (tlN b (L + l)) (tlN b (C + c)) 0 0 := by
  subst hx hy
  have a := (p.tr q1).tr q2
  rcases hh with ⟨e1, e2, e3⟩ | ⟨e1, e2, e3⟩
  · subst e1 e2 e3
    rw [tlK_0, tlK_0, tlN_0, tlN_0] at a ⊢
    exact a.cg (by rw [if_pos rfl, if_neg (by decide)] <;> omega) (by rw [if_neg (by decide), if_pos rfl] <;> omega) (by rw [if_neg (by decide), if_neg (by decide)] <;> omega) (by rw [if_neg (by decide), if_neg (by decide)] <;> omega) (by rw [if_neg (by decide), if_neg (by decide)] <;> omega) (by rw [if_neg (by decide), if_neg (by decide)] <;> omega)
  · subst e1 e2 e3
    rw [tlK_1, tlK_1, tlN_1, tlN_1] at a ⊢
    exact a.cg (by rw [if_neg (by decide), if_neg (by decide)] <;> omega) (by rw [if_neg (by decide), if_neg (by decide)] <;> omega) (by rw [if_neg (by decide), if_pos rfl] <;> omega) (by rw [if_pos rfl, if_neg (by decide)] <;> omega) (by rw [if_neg (by decide), if_neg (by decide)] <;> omega) (by rw [if_neg (by decide), if_neg (by decide)] <;> omega)
theorem tk_0 {α : Type} (l : List α) : l.take 0 = [] := by cases l <;> rfl
theorem tk_s {α : Type} {y : α} : ∀ {l : List α} {n : Nat}, l[n]? = some y → l.take (n + 1) = l.take n ++ [y]
  | [], n, h => by cases h
  | z :: l, 0, h => by
    cases h
    rw [List.take_succ_cons, tk_0, tk_0] <;> rfl
  | z :: l, n + 1, h => by
    have i := tk_s (l := l) (n := n) h
    rw [List.take_succ_cons, i, List.take_succ_cons] <;> rfl
theorem fpn_y {l : List (Int × Int)} {y : Int × Int} {n : Int} (h : y.1 = n) : (((((l ++ [y]).filter (fun y => decide (y.1 = n))).length : Nat)) : Int) = ((((l.filter (fun y => decide (y.1 = n))).length : Nat)) : Int) + 1 := by
  rw [List.filter_append, List.filter_cons_of_pos (by exact decide_eq_true h), List.filter_nil, List.length_append, List.length_cons, List.length_nil]
  omega
theorem fpn_n {l : List (Int × Int)} {y : Int × Int} {n : Int} (h : y.1 ≠ n) : (((((l ++ [y]).filter (fun y => decide (y.1 = n))).length : Nat)) : Int) = ((((l.filter (fun y => decide (y.1 = n))).length : Nat)) : Int) := by
  rw [List.filter_append, List.filter_cons_of_neg (by intro q; exact h (of_decide_eq_true q)), List.filter_nil, List.append_nil]
theorem upP_y {f : Nat → Int32} {r : Int → Int} {y : Int × Int} {l : List (Int × Int)} (h : fzq f r y.1 y.2 ≠ 0) : upP f r (y :: l) = [y] ∧ fpF f r (y :: l) = some y := by
  unfold upP fpF
  exact ⟨if_pos h, if_pos h⟩
theorem upP_n {f : Nat → Int32} {r : Int → Int} {y : Int × Int} {l : List (Int × Int)} (h : fzq f r y.1 y.2 = 0) : upP f r (y :: l) = y :: upP f r l ∧ fpF f r (y :: l) = fpF f r l := by
  have k : ∀ z : Int × Int, upP f r (z :: l) = if fzq f r z.1 z.2 ≠ 0 then [z] else z :: upP f r l := fun _ => rfl
  have k2 : ∀ z : Int × Int, fpF f r (z :: l) = if fzq f r z.1 z.2 ≠ 0 then some z else fpF f r l := fun _ => rfl
  rw [k, k2]
  exact ⟨if_neg (fun q => q h), if_neg (fun q => q h)⟩
theorem upf_at {f : Nat → Int32} {r : Int → Int} {y : Int × Int} {n : Int} (hf : fzq f r y.1 y.2 ≠ 0) (he : y.1 = n) : ∀ (l : List (Int × Int)) (i : Nat), l[i]? = some y → (∀ (j : Nat) (z : Int × Int), j < i → l[j]? = some z → z.1 = n → fzq f r z.1 z.2 = 0) → upP f r (l.filter (fun y => decide (y.1 = n))) = (l.take (i + 1)).filter (fun y => decide (y.1 = n)) ∧ fpF f r (l.filter (fun y => decide (y.1 = n))) = some y
  | [], i, h, _ => by cases h
  | z :: l, 0, h, _ => by
    cases h
    rw [List.take_succ_cons, tk_0, List.filter_cons_of_pos (by exact decide_eq_true he), List.filter_cons_of_pos (by exact decide_eq_true he)]
    exact upP_y hf
  | z :: l, i + 1, h, hh => by
    obtain ⟨i1, i2⟩ := upf_at hf he l i h (fun j w hj hw => hh (j + 1) w (by omega) hw)
    rw [List.take_succ_cons]
    by_cases c : z.1 = n
    · obtain ⟨k1, k2⟩ := upP_n (l := l.filter (fun y => decide (y.1 = n))) (hh 0 z (by omega) rfl c)
      rw [List.filter_cons_of_pos (by exact decide_eq_true c), List.filter_cons_of_pos (by exact decide_eq_true c), k1, k2, i1]
      exact ⟨rfl, i2⟩
    · rw [List.filter_cons_of_neg (by intro q; exact c (of_decide_eq_true q)), List.filter_cons_of_neg (by intro q; exact c (of_decide_eq_true q))]
      exact ⟨i1, i2⟩
theorem upf_all {f : Nat → Int32} {r : Int → Int} {n : Int} : ∀ l : List (Int × Int), (∀ z, z ∈ l → z.1 = n → fzq f r z.1 z.2 = 0) → upP f r (l.filter (fun y => decide (y.1 = n))) = l.filter (fun y => decide (y.1 = n)) ∧ fpF f r (l.filter (fun y => decide (y.1 = n))) = none
  | [], _ => ⟨rfl, rfl⟩
  | z :: l, hh => by
    obtain ⟨i1, i2⟩ := upf_all l (fun w hw => hh w (List.mem_cons_of_mem _ hw))
    by_cases c : z.1 = n
    · obtain ⟨k1, k2⟩ := upP_n (l := l.filter (fun y => decide (y.1 = n))) (hh z List.mem_cons_self c)
      rw [List.filter_cons_of_pos (by exact decide_eq_true c), k1, k2, i1]
      exact ⟨rfl, i2⟩
    · rw [List.filter_cons_of_neg (by intro q; exact c (of_decide_eq_true q))]
      exact ⟨i1, i2⟩
/-- what was asked: the class's list, the reference's list, the place of the one that failed -/
def ASKd (w : List Qt) (l : List (Int × Int)) (af : Int) : Prop := w.map (fun x => (x.1, x.2.1)) = l ∧ (∀ (j : Nat) (x : Qt), w[j]? = some x → (x.2.2.2.2.2 ≠ 0 ↔ (j : Int) = af)) ∧ ((w.length : Nat) : Int) ≤ 1080
theorem up_idx {f : Nat → Int32} {r : Int → Int} : ∀ (l : List (Int × Int)) (j : Nat) (y : Int × Int), (upP f r l)[j]? = some y → (fzq f r y.1 y.2 ≠ 0 ↔ (j : Int) = ffP f r l)
  | [], j, y, h => by cases h
  | z :: l, j, y, h => by
    rw [ffP_c]
    have g := ffP_ge f r l
    by_cases c : fzq f r z.1 z.2 ≠ 0
    · rw [(upP_y c).1] at h
      rw [if_pos c]
      cases j with
      | zero => cases h; exact ⟨fun _ => rfl, fun _ => c⟩
      | succ j => cases h
    · have c0 : fzq f r z.1 z.2 = 0 := Classical.byContradiction c
      rw [(upP_n c0).1] at h
      rw [if_neg c]
      cases j with
      | zero =>
        cases h
        refine ⟨fun q => absurd c0 q, fun q => ?_⟩
        exfalso
        split at q
        · omega
        · omega
      | succ j =>
        have h : (upP f r l)[j]? = some y := h
        refine (up_idx l j y h).trans ?_
        split
        · omega
        · omega
/-- the counts are alike -/
def CNTe (n : Int) (f g : Nat → Int32) : Prop := ∀ j : Int, 0 ≤ j → j < n → aI f j = aI g j
theorem v_X11_takeAsked_86_1 {K : Nat → Nat} {F : Nat → Nat → Nat} (a : Nat) (G : XG) (k_22 : Int32) (G_35 : XG) (G85 : XG) (l1_35 : Int32) (N35 : Nat)
    (ha : K a = 13)
    (pt : ∀ j : Int, 0 ≤ j → j < l1_35.toInt → aI (G_35.2.1 (F a 41)) j = aI (G.2.1 (F a 17)) j ∧ aI (G_35.2.1 (F a 42)) j = aI (G.2.1 (F a 18)) j)
    (s0 : 0 ≤ ((G.1 a 19).toInt) ∧ ((G.1 a 19).toInt) ≤ 2388 ∧ -1 ≤ ((G.1 a 46).toInt) ∧ ((G.1 a 46).toInt) < 2388)
    (I22_0 : 0 ≤ k_22.toInt ∧ k_22.toInt ≤ 2388)
    (I22_1 : ((((G.1 a 46).toInt) = -1 ∧ k_22.toInt = ((G.1 a 19).toInt)) ∨ (((G.1 a 46).toInt) ≠ -1 ∧ k_22.toInt = ((G.1 a 46).toInt) + 1)))
    (I35_0 : 0 ≤ l1_35.toInt)
    (I35_1 : l1_35.toInt ≤ k_22.toInt)
    (I35_2 : (0 : Int) ≤ l1_35.toInt)
    (hm35 : 2147483648 - l1_35.toInt < (((N35) + 1 : Nat) : Int))
    (c40 : k_22.toInt ≤ l1_35.toInt)
    (c_G85_F_a_41 : G85.2.1 (F a 41) = G_35.2.1 (F a 41))
    (c_G85_F_a_42 : G85.2.1 (F a 42) = G_35.2.1 (F a 42))
    (d_G85_a_43 : G85.1 a 43 = k_22) :
    ((G.1 a 46).toInt) < ((G.1 a 19).toInt) → aL G85 F a = (pL G F a).take ((G85.1 a 43).toInt).toNat := by
  intro hlt
  have h3 : (G85.1 a 43).toInt = k_22.toInt := by rw [d_G85_a_43]
  rw [h3]
  refine List.ext_getElem? (fun i => ?_)
  rw [List.getElem?_take]
  by_cases g : i < (k_22.toInt).toNat
  · rw [if_pos g]
    have q := pt (i : Int) (by omega) (by omega)
    rw [← c_G85_F_a_41, ← c_G85_F_a_42] at q
    have e1 : (aL G85 F a)[i]? = some (aI (G85.2.1 (F a 41)) (i : Int), aI (G85.2.1 (F a 42)) (i : Int)) := lst_get _ (show i < (G85.1 a 43).toInt.toNat by rw [h3]; exact g)
    have q2 : (pL G F a)[i]? = some (aI (G.2.1 (F a 17)) (i : Int), aI (G.2.1 (F a 18)) (i : Int)) := pL_at (z := (i : Int)) ⟨by omega, by omega⟩
    rw [e1, q2, q.1, q.2]
  · rw [if_neg g]
    exact List.getElem?_eq_none (by rw [aL_len, h3]; omega)
theorem v_X11_takeAsked_70_2 {K : Nat → Nat} {F : Nat → Nat → Nat} (a : Nat) (G : XG) (k_22 : Int32) (G_35 : XG) (G54 : XG) (l1_35 : Int32) (x53 : Int32) (G66 : XG) (x65 : Int32) (N35 : Nat)
    (ha : K a = 13)
    (hG54 : G54 = cput G_35 (F a 41) l1_35.toNatClampNeg x53)
    (hG66 : G66 = cput G54 (F a 42) l1_35.toNatClampNeg x65)
    (pt : ∀ j : Int, 0 ≤ j → j < l1_35.toInt → aI (G_35.2.1 (F a 41)) j = aI (G.2.1 (F a 17)) j ∧ aI (G_35.2.1 (F a 42)) j = aI (G.2.1 (F a 18)) j)
    (hv53 : x53.toInt = (aI (G.2.1 (F a 17)) (l1_35.toInt)))
    (hv65 : x65.toInt = (aI (G.2.1 (F a 18)) (l1_35.toInt)))
    (s0 : 0 ≤ ((G.1 a 19).toInt) ∧ ((G.1 a 19).toInt) ≤ 2388 ∧ -1 ≤ ((G.1 a 46).toInt) ∧ ((G.1 a 46).toInt) < 2388)
    (I22_0 : 0 ≤ k_22.toInt ∧ k_22.toInt ≤ 2388)
    (I22_1 : ((((G.1 a 46).toInt) = -1 ∧ k_22.toInt = ((G.1 a 19).toInt)) ∨ (((G.1 a 46).toInt) ≠ -1 ∧ k_22.toInt = ((G.1 a 46).toInt) + 1)))
    (I35_0 : 0 ≤ l1_35.toInt)
    (I35_1 : l1_35.toInt ≤ k_22.toInt)
    (I35_2 : (0 : Int) ≤ l1_35.toInt)
    (hm35 : 2147483648 - l1_35.toInt < (((N35) + 1 : Nat) : Int))
    (c40 : ¬ (k_22.toInt ≤ l1_35.toInt))
    (c_G54_F_a_42 : G54.2.1 (F a 42) = G_35.2.1 (F a 42))
    (c_G66_F_a_41 : G66.2.1 (F a 41) = G54.2.1 (F a 41)) :
    ∀ j : Int, 0 ≤ j → j < (l1_35.toInt + 1) → aI (G66.2.1 (F a 41)) j = aI (G.2.1 (F a 17)) j ∧ aI (G66.2.1 (F a 42)) j = aI (G.2.1 (F a 18)) j := by
  intro j h1 h2
  have u0 := aI_pz hG54 rfl rfl hv53 I35_0 j h1
  have u1 := aI_pz hG66 c_G54_F_a_42 rfl hv65 I35_0 j h1
  rw [c_G66_F_a_41, u0, u1]
  by_cases e : j = l1_35.toInt
  · rw [if_pos e, if_pos e, e]; exact ⟨rfl, rfl⟩
  · rw [if_neg e, if_neg e]; exact pt j h1 (by omega)
theorem v_X11_takeAsked_34_3 {K : Nat → Nat} {F : Nat → Nat → Nat} (a : Nat) (G : XG) (k_22 : Int32) (G30 : XG)
    (ha : K a = 13)
    (s0 : 0 ≤ ((G.1 a 19).toInt) ∧ ((G.1 a 19).toInt) ≤ 2388 ∧ -1 ≤ ((G.1 a 46).toInt) ∧ ((G.1 a 46).toInt) < 2388)
    (I22_0 : 0 ≤ k_22.toInt ∧ k_22.toInt ≤ 2388)
    (I22_1 : ((((G.1 a 46).toInt) = -1 ∧ k_22.toInt = ((G.1 a 19).toInt)) ∨ (((G.1 a 46).toInt) ≠ -1 ∧ k_22.toInt = ((G.1 a 46).toInt) + 1))) :
    ∀ j : Int, 0 ≤ j → j < (0 : Int) → aI (G30.2.1 (F a 41)) j = aI (G.2.1 (F a 17)) j ∧ aI (G30.2.1 (F a 42)) j = aI (G.2.1 (F a 18)) j := by
  intro j h1 h2; exact absurd h1 (by omega)
theorem z_X11_moves_1 (a0 : Int) (h0 : 0 ≤ a0 ∧ a0 ≤ 12) : ¬ (2147483648 - a0 < ((0 : Nat) : Int)) := by omega
theorem z_X11_moves_2 (a0 : Int) (a1 : Int) (h0 : 0 ≤ a0 ∧ a0 ≤ 12) (h1 : a1 = (a0 + 1) ∨ (a0 + 1) < -2147483648 ∨ 2147483648 ≤ (a0 + 1)) : a1 = (a0 + 1) := by omega
theorem z_X11_moves_3 (a0 : Int) (h0 : 0 ≤ a0 ∧ a0 ≤ 12) (h1 : ¬ ((12 : Int) ≤ a0)) : 0 ≤ (a0 + 1) ∧ (a0 + 1) ≤ 12 := by omega
theorem z_X11_moves_4 (a0 : Int) (h0 : 0 ≤ a0 ∧ a0 ≤ 12) : (0 : Int) ≤ (a0 + 1) := by omega
theorem z_X11_moves_5 (a0 : Int) (a1 : Nat) (h0 : 2147483648 - a0 < ((a1 + 1 : Nat) : Int)) : 2147483648 - (a0 + 1) < ((a1 : Nat) : Int) := by omega
theorem z_X11_moves_6 (a0 : Int) (h0 : 0 ≤ a0 ∧ a0 ≤ 12) (h1 : ¬ ((12 : Int) ≤ a0)) : 0 ≤ a0 ∧ a0 ≤ 11 := by omega
theorem z_X11_moves_9 (a0 : Int) (h0 : -2147483648 ≤ a0 ∧ a0 < 2147483648) : ¬ (2147483648 - a0 < ((0 : Nat) : Int)) := by omega
theorem z_X11_moves_11 (a0 : Int) (a1 : Int) (a2 : Int) (a3 : Int) (a4 : Int) (h0 : 0 ≤ a0 ∧ a0 ≤ 12) (h1 : ¬ ((12 : Int) ≤ a0)) (h2 : ((a2 = 2 ∨ a2 = 4 ∨ a2 = 5) ∧ a3 = 0 ∧ a4 = 29) ∨ (¬ (a2 = 2 ∨ a2 = 4 ∨ a2 = 5) ∧ a3 = -99 ∧ a4 = 99)) (h3 : a3 ≤ a1 ∧ a1 ≤ a4 + 1) (h4 : ¬ (a4 < a1)) : 0 ≤ a0 ∧ a0 ≤ 11 ∧ -99 ≤ a1 ∧ a1 ≤ 99 := by omega
theorem z_X11_moves_12 (a0 : Int) (a1 : Int) (a2 : Int) (a3 : Int) (a4 : Int) (h0 : 0 ≤ a0 ∧ a0 ≤ 12) (h1 : ¬ ((12 : Int) ≤ a0)) (h2 : ((a2 = 2 ∨ a2 = 4 ∨ a2 = 5) ∧ a3 = 0 ∧ a4 = 29) ∨ (¬ (a2 = 2 ∨ a2 = 4 ∨ a2 = 5) ∧ a3 = -99 ∧ a4 = 99)) (h3 : a3 ≤ a1 ∧ a1 ≤ a4 + 1) (h4 : ¬ (a4 < a1)) : 0 ≤ 199 * a0 + a1 + 99 ∧ 199 * a0 + a1 + 99 < ((2388 : Nat) : Int) := by omega
theorem z_X11_moves_16 (a0 : Int) (h0 : 0 ≤ a0 ∧ a0 ≤ 3) : 0 ≤ a0 ∧ a0 < ((6 : Nat) : Int) := by omega
theorem z_X11_moves_18 (a0 : Int) (h0 : 1 ≤ a0 ∧ a0 ≤ 2) : 0 ≤ a0 ∧ a0 < ((6 : Nat) : Int) := by omega
theorem z_X11_moves_19 (a0 : Int) (h0 : 1 ≤ a0 ∧ a0 ≤ 2) : 0 ≤ a0 := by omega
theorem z_X11_moves_20 (a0 : Int) (h0 : 0 ≤ a0 ∧ a0 ≤ 3) : 0 ≤ a0 := by omega
theorem z_X11_moves_22 (a0 : Int) (a1 : Int) (a2 : Int) (a3 : Int) (a4 : Int) (h0 : ((a2 = 2 ∨ a2 = 4 ∨ a2 = 5) ∧ a3 = 0 ∧ a4 = 29) ∨ (¬ (a2 = 2 ∨ a2 = 4 ∨ a2 = 5) ∧ a3 = -99 ∧ a4 = 99)) (h1 : ¬ (a4 < a0)) (h2 : a1 = (a0 + 1) ∨ (a0 + 1) < -2147483648 ∨ 2147483648 ≤ (a0 + 1)) (h3 : -2147483648 ≤ a0 ∧ a0 < 2147483648) : a1 = (a0 + 1) := by omega
theorem z_X11_moves_23 (a0 : Int) (a1 : Int) (a2 : Int) (h0 : a1 ≤ a0 ∧ a0 ≤ a2 + 1) (h1 : ¬ (a2 < a0)) : a1 ≤ (a0 + 1) ∧ (a0 + 1) ≤ a2 + 1 := by omega
theorem z_X11_moves_25 (a0 : Int) (a1 : Int) (a2 : Int) (h0 : ((a0 = 2 ∨ a0 = 4 ∨ a0 = 5) ∧ a1 = 0 ∧ a2 = 29) ∨ (¬ (a0 = 2 ∨ a0 = 4 ∨ a0 = 5) ∧ a1 = -99 ∧ a2 = 99)) : a1 ≤ a1 ∧ a1 ≤ a2 + 1 := by omega
theorem z_X11_moves_26 (a0 : Int) (a1 : Int) (a2 : Int) (h0 : ((a0 = 2 ∨ a0 = 4 ∨ a0 = 5) ∧ a1 = 0 ∧ a2 = 29) ∨ (¬ (a0 = 2 ∨ a0 = 4 ∨ a0 = 5) ∧ a1 = -99 ∧ a2 = 99)) : 2147483648 - a1 < ((4294967297 : Nat) : Int) := by omega
abbrev rm_X11_moves : Room := { frames := 2, cells := 0, slots := 0, locals := 46 }
set_option maxHeartbeats 4000000 in
set_option maxRecDepth 100000 in
theorem c_X11_moves (l : Launch) (E : XE) (K : Nat → Nat) (F : Nat → Nat → Nat) (G : XG) (a : Nat) (p0 : Nat) (p1 : Nat) (p2 : Int32) (ha : K a = 13) (hp0 : K p0 = 38) (hp1 : K p1 = 38) (e0 : 1 ≤ p2.toInt ∧ p2.toInt ≤ 2) (hR : RV (G.2.1 (F a 10))) : Met l yX11_moves (xw yX11_moves cX11_moves 9 none) rm_X11_moves (va_Pc [.ref a, .ref p0, .ref p1, .int p2] (XP E K F G)) (XQv E (fun (u : XG) => XFr [] [F a 8] [] G u) (fun u H => TW E K F u H)) 0 0 (xA E) := by
  refine x_enter (by decide) (Nat.le_of_ble_eq_true rfl) ?_
  intro p e s m args below meth c Q S hr hlk hnm hQ hP ls hl
  obtain ⟨hz, hK, hT⟩ := hP
  obtain ⟨hx, hb, -, -, -⟩ := id S
  obtain ⟨H, hT, hS, hgo⟩ : ∃ H : Heap, TW E K F G H ∧ va_S (xA E) s.heap H [] ∧ H = s.heap := ⟨_, hT, va_S.rf, rfl⟩
  rw [← hgo]
  have hl : lv_has ls 9 [(0, .ref a), (1, .ref p0), (2, .ref p1), (3, .int p2)] := hl
  obtain ⟨hk9999, hj9999⟩ := fkX11_8 hT ha
  obtain ⟨hk9999a, hj9999a⟩ := fkX11_10 hT ha
  refine lv_iconst (v := 0) hx hb dX11_moves_0 (by decide) ?_
  refine lv_istore (lv' := [(4, .int 0), (0, .ref a), (1, .ref p0), (2, .ref p1), (3, .int p2)]) hx hb dX11_moves_1 hl (by decide) rfl (fun ls hl => ?_)
  have L3 : ∀ (N3 : Nat) (l4_3 : Int32) (G_3 : XG) (H : Heap) (locs : List Loc) (ls : Array Slot), XFr [] [F a 8] [] G G_3 → 0 ≤ l4_3.toInt ∧ l4_3.toInt ≤ 12 → (0 : Int) ≤ l4_3.toInt → 2147483648 - l4_3.toInt < ((N3 : Nat) : Int) → TW E K F G_3 H → va_S (xA E) s.heap H locs → lv_has ls 9 [(0, .ref a), (1, .ref p0), (2, .ref p1), (3, .int p2), (4, .int l4_3)] → W p l e rm_X11_moves s m args below meth c H locs 0 0 Q (F0 m 3 ls []) := by
    intro N3
    induction N3 with
    | zero =>
      intro l4_3 G_3 H locs ls hF_3 I3_0 I3_1 hm3
      exact absurd hm3 (z_X11_moves_1 l4_3.toInt I3_0)
    | succ N3 ih3 =>
      intro l4_3 G_3 H locs ls hF_3 I3_0 I3_1 hm3 hT hS hl
      refine lv_iload hx hb dX11_moves_3 (lv_at hl 4 rfl) ?_
      refine lv_bipush (v := 12) hx hb dX11_moves_5 (by decide) ?_
      refine xi_cge (tgt := 170) hx hb (rfl : Int32.toInt l4_3 = l4_3.toInt) ((by decide) : Int32.toInt 12 = (12 : Int)) dX11_moves_7 (by decide) (fun c7 => ?_) (fun c7 => ?_)
      · exact x_rv hx hb hr hlk hQ (Nat.le_of_ble_eq_true rfl) (Nat.le_of_ble_eq_true rfl) hS dX11_moves_170 G_3 (XFr.call XFr.rf hF_3 xm0 (xm1 0 rfl xm0) xm0) hT
      · refine lv_aload_n hx hb dX11_moves_10 rfl (lv_at hl 0 rfl) ?_
        refine lv_iload hx hb dX11_moves_11 (lv_at hl 4 rfl) ?_
        refine x_clp (x_runV (b := a) (As := [.int l4_3]) (rest := []) S (c_X11_isRule l E K F G_3 H a l4_3 ha) mv_X11_isRule km_X11_162 rfl rfl ⟨Nat.le_of_ble_eq_true rfl, Nat.le_of_ble_eq_true rfl⟩ (rc_13 hK hT ha) hK (fun _ => XPh.blind) (fun U hU hW => XPh.at hK hz hS hT hU hW) rfl hl.1 (Nat.le_of_ble_eq_true rfl) dX11_moves_13 ⟨Nat.le_of_ble_eq_true rfl, Nat.le_of_ble_eq_true rfl⟩) hS ?_
        rintro _ _ locs ⟨x13, rfl, b13, t13⟩ hS
        have t13 : (x13.toInt = 1 ∧ 0 ≤ l4_3.toInt ∧ l4_3.toInt ≤ 11 ∧ (aI (G.2.1 (F a 10)) (10 * l4_3.toInt + 0)) ≠ -1) ∨ (x13.toInt = 0 ∧ (¬ (0 ≤ l4_3.toInt ∧ l4_3.toInt ≤ 11) ∨ (aI (G.2.1 (F a 10)) (10 * l4_3.toInt + 0)) = -1)) := by rw [(show G_3.2.1 (F a 10) = G.2.1 (F a 10) from (hF_3.2.1 _ (xn1 (xne_k hk9999a hk9999 (by decide)) xn0)))] at t13; exact t13
        have J164 : ∀ (G_164 : XG) (H : Heap) (locs : List Loc) (ls : Array Slot), XFr [] [F a 8] [] G_3 G_164 → TW E K F G_164 H → va_S (xA E) s.heap H locs → lv_has ls 9 [(0, .ref a), (1, .ref p0), (2, .ref p1), (3, .int p2), (4, .int l4_3)] → W p l e rm_X11_moves s m args below meth c H locs 0 0 Q (F0 m 164 ls []) := by
          intro G_164 H locs ls hF_164 hT hS hl
          refine xi_iinc (n := 1) (lv' := fun z9 => [(4, .int z9), (0, .ref a), (1, .ref p0), (2, .ref p1), (3, .int p2)]) (k := 4) hx hb (rfl : Int32.toInt l4_3 = l4_3.toInt) (by decide) dX11_moves_164 hl rfl (by decide) (fun _ => rfl) (fun x164 ls t164 hl => ?_)
          have e164 : x164.toInt = (l4_3.toInt + 1) := (z_X11_moves_2 l4_3.toInt x164.toInt I3_0 t164)
          have hl : lv_has ls 9 [(4, .int x164), (0, .ref a), (1, .ref p0), (2, .ref p1), (3, .int p2)] := hl
          refine lv_goto (tgt := 3) hx hb dX11_moves_167 (by decide) ?_
          exact ih3 x164 G_164 _ _ _ (XFr.call (XFr.call XFr.rf hF_3 xm0 (xm1 0 rfl xm0) xm0) hF_164 xm0 (xm1 0 rfl xm0) xm0) (by rw [(e164 : Int32.toInt x164 = (l4_3.toInt + 1))] <;> exact (z_X11_moves_3 l4_3.toInt I3_0 c7)) (by rw [(e164 : Int32.toInt x164 = (l4_3.toInt + 1))] <;> exact (z_X11_moves_4 l4_3.toInt I3_0)) (by rw [(e164 : Int32.toInt x164 = (l4_3.toInt + 1))] <;> exact (z_X11_moves_5 l4_3.toInt N3 hm3)) hT hS (lv_sub hl [1, 2, 3, 4, 0] rfl)
        refine xi_zeq (tgt := 164) hx hb (rfl : Int32.toInt x13 = x13.toInt) dX11_moves_16 (by decide) (fun c16 => ?_) (fun c16 => ?_)
        · exact J164 G_3 _ _ _ XFr.rf hT hS (lv_sub hl [0, 1, 2, 3, 4] rfl)
        · refine lv_aload_n hx hb dX11_moves_19 rfl (lv_at hl 0 rfl) ?_
          refine lv_iload hx hb dX11_moves_20 (lv_at hl 4 rfl) ?_
          refine lv_bipush (v := 6) hx hb dX11_moves_22 (by decide) ?_
          refine x_clp (x_runV (b := a) (As := [.int l4_3, .int 6]) (rest := []) S (c_X11_of l E K F G_3 H a l4_3 6 ha (z_X11_moves_6 l4_3.toInt I3_0 c7) (by decide)) mv_X11_of km_X11_165 rfl rfl ⟨Nat.le_of_ble_eq_true rfl, Nat.le_of_ble_eq_true rfl⟩ (rc_13 hK hT ha) hK (fun _ => XPh.blind) (fun U hU hW => XPh.at hK hz hS hT hU hW) rfl hl.1 (Nat.le_of_ble_eq_true rfl) dX11_moves_24 ⟨Nat.le_of_ble_eq_true rfl, Nat.le_of_ble_eq_true rfl⟩) hS ?_
          rintro _ _ locs ⟨x24, rfl, t24⟩ hS
          have t24 : x24.toInt = (aI (G.2.1 (F a 10)) (10 * l4_3.toInt + 6)) := by rw [(show G_3.2.1 (F a 10) = G.2.1 (F a 10) from (hF_3.2.1 _ (xn1 (xne_k hk9999a hk9999 (by decide)) xn0)))] at t24; exact t24
          refine lv_iconst (v := 1) hx hb dX11_moves_27 (by decide) ?_
          refine xi_cne (tgt := 164) hx hb (t24 : Int32.toInt x24 = (aI (G.2.1 (F a 10)) (10 * l4_3.toInt + 6))) ((by decide) : Int32.toInt 1 = (1 : Int)) dX11_moves_28 (by decide) (fun c28 => ?_) (fun c28 => ?_)
          · exact J164 G_3 _ _ _ XFr.rf hT hS (lv_sub hl [0, 1, 2, 3, 4] rfl)
          · have z31 : (-1 ≤ (aI (G.2.1 (F a 10)) (10 * l4_3.toInt + 0)) ∧ (aI (G.2.1 (F a 10)) (10 * l4_3.toInt + 0)) ≤ 5) ∧ (0 ≤ (aI (G.2.1 (F a 10)) (10 * l4_3.toInt + 1)) ∧ (aI (G.2.1 (F a 10)) (10 * l4_3.toInt + 1)) ≤ 2) ∧ (0 ≤ (aI (G.2.1 (F a 10)) (10 * l4_3.toInt + 2)) ∧ (aI (G.2.1 (F a 10)) (10 * l4_3.toInt + 2)) ≤ 2) ∧ (-1 ≤ (aI (G.2.1 (F a 10)) (10 * l4_3.toInt + 3)) ∧ (aI (G.2.1 (F a 10)) (10 * l4_3.toInt + 3)) ≤ 2) ∧ ((aI (G.2.1 (F a 10)) (10 * l4_3.toInt + 0)) = 1 ∨ (aI (G.2.1 (F a 10)) (10 * l4_3.toInt + 0)) = 3 ∨ (aI (G.2.1 (F a 10)) (10 * l4_3.toInt + 0)) = 4 → 0 ≤ (aI (G.2.1 (F a 10)) (10 * l4_3.toInt + 3))) := RV.row hR (z_X11_moves_6 l4_3.toInt I3_0 c7)
            have z31a : (((aI (G.2.1 (F a 10)) (10 * l4_3.toInt + 0)) = 2 ∨ (aI (G.2.1 (F a 10)) (10 * l4_3.toInt + 0)) = 4 ∨ (aI (G.2.1 (F a 10)) (10 * l4_3.toInt + 0)) = 5) ∧ (sF (aI (G.2.1 (F a 10)) (10 * l4_3.toInt + 0))) = 0 ∧ (sL (aI (G.2.1 (F a 10)) (10 * l4_3.toInt + 0))) = 29) ∨ (¬ ((aI (G.2.1 (F a 10)) (10 * l4_3.toInt + 0)) = 2 ∨ (aI (G.2.1 (F a 10)) (10 * l4_3.toInt + 0)) = 4 ∨ (aI (G.2.1 (F a 10)) (10 * l4_3.toInt + 0)) = 5) ∧ (sF (aI (G.2.1 (F a 10)) (10 * l4_3.toInt + 0))) = -99 ∧ (sL (aI (G.2.1 (F a 10)) (10 * l4_3.toInt + 0))) = 99) := sFL _
            refine lv_aload_n hx hb dX11_moves_31 rfl (lv_at hl 0 rfl) ?_
            refine lv_iload hx hb dX11_moves_32 (lv_at hl 4 rfl) ?_
            refine x_clp (x_runV (b := a) (As := [.int l4_3]) (rest := []) S (c_X11_firstSubject l E K F G_3 H a l4_3 ha (z_X11_moves_6 l4_3.toInt I3_0 c7)) mv_X11_firstSubject km_X11_179 rfl rfl ⟨Nat.le_of_ble_eq_true rfl, Nat.le_of_ble_eq_true rfl⟩ (rc_13 hK hT ha) hK (fun _ => XPh.blind) (fun U hU hW => XPh.at hK hz hS hT hU hW) rfl hl.1 (Nat.le_of_ble_eq_true rfl) dX11_moves_34 ⟨Nat.le_of_ble_eq_true rfl, Nat.le_of_ble_eq_true rfl⟩) hS ?_
            rintro _ _ locs ⟨x34, rfl, t34⟩ hS
            have t34 : x34.toInt = (sF (aI (G.2.1 (F a 10)) (10 * l4_3.toInt + 0))) := by rw [(show G_3.2.1 (F a 10) = G.2.1 (F a 10) from (hF_3.2.1 _ (xn1 (xne_k hk9999a hk9999 (by decide)) xn0)))] at t34; exact t34
            refine lv_istore (lv' := [(5, .int x34), (0, .ref a), (1, .ref p0), (2, .ref p1), (3, .int p2), (4, .int l4_3)]) hx hb dX11_moves_37 hl (by decide) rfl (fun ls hl => ?_)
            have L39 : ∀ (N39 : Nat) (l5_39 : Int32) (G_39 : XG) (H : Heap) (locs : List Loc) (ls : Array Slot), XFr [] [F a 8] [] G_3 G_39 → (sF (aI (G.2.1 (F a 10)) (10 * l4_3.toInt + 0))) ≤ l5_39.toInt ∧ l5_39.toInt ≤ (sL (aI (G.2.1 (F a 10)) (10 * l4_3.toInt + 0))) + 1 → 2147483648 - l5_39.toInt < ((N39 : Nat) : Int) → TW E K F G_39 H → va_S (xA E) s.heap H locs → lv_has ls 9 [(0, .ref a), (1, .ref p0), (2, .ref p1), (3, .int p2), (4, .int l4_3), (5, .int l5_39)] → W p l e rm_X11_moves s m args below meth c H locs 0 0 Q (F0 m 39 ls []) := by
              intro N39
              induction N39 with
              | zero =>
                intro l5_39 G_39 H locs ls hF_39 I39_0 hm39
                exact absurd hm39 (z_X11_moves_9 l5_39.toInt (xr l5_39))
              | succ N39 ih39 =>
                intro l5_39 G_39 H locs ls hF_39 I39_0 hm39 hT hS hl
                refine lv_iload hx hb dX11_moves_39 (lv_at hl 5 rfl) ?_
                refine lv_aload_n hx hb dX11_moves_41 rfl (lv_at hl 0 rfl) ?_
                refine lv_iload hx hb dX11_moves_42 (lv_at hl 4 rfl) ?_
                refine x_clp (x_runV (b := a) (As := [.int l4_3]) (rest := [.int l5_39]) S (c_X11_lastSubject l E K F G_39 H a l4_3 ha (z_X11_moves_6 l4_3.toInt I3_0 c7)) mv_X11_lastSubject km_X11_183 rfl rfl ⟨Nat.le_of_ble_eq_true rfl, Nat.le_of_ble_eq_true rfl⟩ (rc_13 hK hT ha) hK (fun _ => XPh.blind) (fun U hU hW => XPh.at hK hz hS hT hU hW) rfl hl.1 (Nat.le_of_ble_eq_true rfl) dX11_moves_44 ⟨Nat.le_of_ble_eq_true rfl, Nat.le_of_ble_eq_true rfl⟩) hS ?_
                rintro _ _ locs ⟨x44, rfl, t44⟩ hS
                have t44 : x44.toInt = (sL (aI (G.2.1 (F a 10)) (10 * l4_3.toInt + 0))) := by rw [(show G_39.2.1 (F a 10) = G.2.1 (F a 10) from ((hF_39.2.1 _ (xn1 (xne_k hk9999a hk9999 (by decide)) xn0)).trans (hF_3.2.1 _ (xn1 (xne_k hk9999a hk9999 (by decide)) xn0))))] at t44; exact t44
                refine xi_cgt (tgt := 164) hx hb (rfl : Int32.toInt l5_39 = l5_39.toInt) (t44 : Int32.toInt x44 = (sL (aI (G.2.1 (F a 10)) (10 * l4_3.toInt + 0)))) dX11_moves_47 (by decide) (fun c47 => ?_) (fun c47 => ?_)
                · exact J164 G_39 _ _ _ (XFr.call XFr.rf hF_39 xm0 (xm1 0 rfl xm0) xm0) hT hS (lv_sub hl [0, 1, 2, 3, 4] rfl)
                · refine lv_iload hx hb dX11_moves_50 (lv_at hl 4 rfl) ?_
                  refine lv_iload hx hb dX11_moves_52 (lv_at hl 5 rfl) ?_
                  refine x_clp (x_runS (As := [.int l4_3, .int l5_39]) (rest := []) S (c_X11_placeOf l E K F G_39 H l4_3 l5_39 (z_X11_moves_11 l4_3.toInt l5_39.toInt (aI (G.2.1 (F a 10)) (10 * l4_3.toInt + 0)) (sF (aI (G.2.1 (F a 10)) (10 * l4_3.toInt + 0))) (sL (aI (G.2.1 (F a 10)) (10 * l4_3.toInt + 0))) I3_0 c7 z31a I39_0 c47)) ms_X11_placeOf km_X11_186 rfl rfl ⟨Nat.le_of_ble_eq_true rfl, Nat.le_of_ble_eq_true rfl⟩ hK (fun _ => XPh.blind) (fun U hU hW => XPh.at hK hz hS hT hU hW) rfl hl.1 (Nat.le_of_ble_eq_true rfl) dX11_moves_54 ⟨Nat.le_of_ble_eq_true rfl, Nat.le_of_ble_eq_true rfl⟩) hS ?_
                  rintro _ _ locs ⟨x54, rfl, t54⟩ hS
                  have t54 : x54.toInt = 199 * l4_3.toInt + l5_39.toInt + 99 := t54
                  refine lv_istore (lv' := [(6, .int x54), (0, .ref a), (1, .ref p0), (2, .ref p1), (3, .int p2), (4, .int l4_3), (5, .int l5_39)]) hx hb dX11_moves_57 hl (by decide) rfl (fun ls hl => ?_)
                  refine lv_aload_n hx hb dX11_moves_59 rfl (lv_at hl 2 rfl) ?_
                  refine lv_iload hx hb dX11_moves_60 (lv_at hl 0 rfl) ?_
                  refine al_0 S hK hT hp0 ar_38 (by decide) (by rw [(t54 : Int32.toInt x54 = 199 * l4_3.toInt + l5_39.toInt + 99)]; exact (z_X11_moves_12 l4_3.toInt l5_39.toInt (aI (G.2.1 (F a 10)) (10 * l4_3.toInt + 0)) (sF (aI (G.2.1 (F a 10)) (10 * l4_3.toInt + 0))) (sL (aI (G.2.1 (F a 10)) (10 * l4_3.toInt + 0))) I3_0 c7 z31a I39_0 c47)) dX11_moves_62 (fun x62 hv62 o62 => ?_)
                  have hv62 : x62.toInt = (aI (G.2.1 p0) (199 * l4_3.toInt + l5_39.toInt + 99)) := hv62.trans (by rw [(t54 : Int32.toInt x54 = 199 * l4_3.toInt + l5_39.toInt + 99), (((hF_39.2.1 _ (xn1 (xne_k hp0 hk9999 (by decide)) xn0)).trans (hF_3.2.1 _ (xn1 (xne_k hp0 hk9999 (by decide)) xn0))) : G_39.2.1 p0 = G.2.1 p0)])
                  refine lv_aload_n hx hb dX11_moves_63 rfl (lv_at hl 1 rfl) ?_
                  obtain ⟨hk64, hj64⟩ := fkX11_13 hT ha
                  refine gX11_13 S hK hT ha kf_X11_42 dX11_moves_64 (fun _ _ => ?_)
                  refine lv_iload hx hb dX11_moves_67 (lv_at hl 0 rfl) ?_
                  refine al_0 S hK hT hk64 ar_38 (by decide) (by rw [(t54 : Int32.toInt x54 = 199 * l4_3.toInt + l5_39.toInt + 99)]; exact (z_X11_moves_12 l4_3.toInt l5_39.toInt (aI (G.2.1 (F a 10)) (10 * l4_3.toInt + 0)) (sF (aI (G.2.1 (F a 10)) (10 * l4_3.toInt + 0))) (sL (aI (G.2.1 (F a 10)) (10 * l4_3.toInt + 0))) I3_0 c7 z31a I39_0 c47)) dX11_moves_69 (fun x69 hv69 o69 => ?_)
                  have hv69 : x69.toInt = (aI (G.2.1 (F a 13)) (199 * l4_3.toInt + l5_39.toInt + 99)) := hv69.trans (by rw [(t54 : Int32.toInt x54 = 199 * l4_3.toInt + l5_39.toInt + 99), (((hF_39.2.1 _ (xn1 (xne_k hk64 hk9999 (by decide)) xn0)).trans (hF_3.2.1 _ (xn1 (xne_k hk64 hk9999 (by decide)) xn0))) : G_39.2.1 (F a 13) = G.2.1 (F a 13))])
                  have J78 : ∀ (k_78 : Int32) (H : Heap) (locs : List Loc) (ls : Array Slot), TW E K F G_39 H → va_S (xA E) s.heap H locs → lv_has ls 9 [(0, .ref a), (1, .ref p0), (2, .ref p1), (3, .int p2), (4, .int l4_3), (5, .int l5_39), (6, .int x54)] → W p l e rm_X11_moves s m args below meth c H locs 0 0 Q (F0 m 78 ls [.int k_78]) := by
                    intro k_78 H locs ls hT hS hl
                    refine lv_istore (lv' := [(7, .int k_78), (0, .ref a), (1, .ref p0), (2, .ref p1), (3, .int p2), (4, .int l4_3), (5, .int l5_39), (6, .int x54)]) hx hb dX11_moves_78 hl (by decide) rfl (fun ls hl => ?_)
                    refine lv_aload_n hx hb dX11_moves_80 rfl (lv_at hl 3 rfl) ?_
                    refine lv_iload hx hb dX11_moves_81 (lv_at hl 7 rfl) ?_
                    refine al_0 S hK hT hp1 ar_38 (by decide) (by rw [(t54 : Int32.toInt x54 = 199 * l4_3.toInt + l5_39.toInt + 99)]; exact (z_X11_moves_12 l4_3.toInt l5_39.toInt (aI (G.2.1 (F a 10)) (10 * l4_3.toInt + 0)) (sF (aI (G.2.1 (F a 10)) (10 * l4_3.toInt + 0))) (sL (aI (G.2.1 (F a 10)) (10 * l4_3.toInt + 0))) I3_0 c7 z31a I39_0 c47)) dX11_moves_83 (fun x83 hv83 o83 => ?_)
                    have hv83 : x83.toInt = (aI (G.2.1 p1) (199 * l4_3.toInt + l5_39.toInt + 99)) := hv83.trans (by rw [(t54 : Int32.toInt x54 = 199 * l4_3.toInt + l5_39.toInt + 99), (((hF_39.2.1 _ (xn1 (xne_k hp1 hk9999 (by decide)) xn0)).trans (hF_3.2.1 _ (xn1 (xne_k hp1 hk9999 (by decide)) xn0))) : G_39.2.1 p1 = G.2.1 p1)])
                    refine lv_aload_n hx hb dX11_moves_84 rfl (lv_at hl 1 rfl) ?_
                    refine gX11_13 S hK hT ha kf_X11_42 dX11_moves_85 (fun _ _ => ?_)
                    refine lv_iload hx hb dX11_moves_88 (lv_at hl 7 rfl) ?_
                    refine al_0 S hK hT hk64 ar_38 (by decide) (by rw [(t54 : Int32.toInt x54 = 199 * l4_3.toInt + l5_39.toInt + 99)]; exact (z_X11_moves_12 l4_3.toInt l5_39.toInt (aI (G.2.1 (F a 10)) (10 * l4_3.toInt + 0)) (sF (aI (G.2.1 (F a 10)) (10 * l4_3.toInt + 0))) (sL (aI (G.2.1 (F a 10)) (10 * l4_3.toInt + 0))) I3_0 c7 z31a I39_0 c47)) dX11_moves_90 (fun x90 hv90 o90 => ?_)
                    have hv90 : x90.toInt = (aI (G.2.1 (F a 13)) (199 * l4_3.toInt + l5_39.toInt + 99)) := hv90.trans (by rw [(t54 : Int32.toInt x54 = 199 * l4_3.toInt + l5_39.toInt + 99), (((hF_39.2.1 _ (xn1 (xne_k hk64 hk9999 (by decide)) xn0)).trans (hF_3.2.1 _ (xn1 (xne_k hk64 hk9999 (by decide)) xn0))) : G_39.2.1 (F a 13) = G.2.1 (F a 13))])
                    have J99 : ∀ (k_99 : Int32) (H : Heap) (locs : List Loc) (ls : Array Slot), TW E K F G_39 H → va_S (xA E) s.heap H locs → lv_has ls 9 [(0, .ref a), (1, .ref p0), (2, .ref p1), (3, .int p2), (4, .int l4_3), (5, .int l5_39), (7, .int k_78)] → W p l e rm_X11_moves s m args below meth c H locs 0 0 Q (F0 m 99 ls [.int k_99]) := by
                      intro k_99 H locs ls hT hS hl
                      refine lv_istore (lv' := [(8, .int k_99), (0, .ref a), (1, .ref p0), (2, .ref p1), (3, .int p2), (4, .int l4_3), (5, .int l5_39), (7, .int k_78)]) hx hb dX11_moves_99 hl (by decide) rfl (fun ls hl => ?_)
                      refine lv_aload_n hx hb dX11_moves_101 rfl (lv_at hl 1 rfl) ?_
                      refine gX11_8 S hK hT ha kf_X11_27 dX11_moves_102 (fun _ _ => ?_)
                      refine lv_iload_n hx hb dX11_moves_105 rfl (lv_at hl 4 rfl) ?_
                      refine lv_iconst (v := 1) hx hb dX11_moves_106 (by decide) ?_
                      have J115 : ∀ (k_115 : Int32) (H : Heap) (locs : List Loc) (ls : Array Slot), 0 ≤ k_115.toInt ∧ k_115.toInt ≤ 3 → TW E K F G_39 H → va_S (xA E) s.heap H locs → lv_has ls 9 [(0, .ref a), (1, .ref p0), (2, .ref p1), (3, .int p2), (4, .int l4_3), (5, .int l5_39), (7, .int k_78), (8, .int k_99)] → W p l e rm_X11_moves s m args below meth c H locs 0 0 Q (F0 m 115 ls [.int k_115, .ref (F a 8)]) := by
                        intro k_115 H locs ls I115_0 hT hS hl
                        refine lv_dup2_11 hx hb dX11_moves_115 rfl rfl ?_
                        refine al_0 S hK hT hk9999 ar_35 (by decide) (z_X11_moves_16 k_115.toInt I115_0) dX11_moves_116 (fun x116 hv116 o116 => ?_)
                        have hv116 : x116.toInt = (aI (G_39.2.1 (F a 8)) (k_115.toInt)) := hv116.trans (by rw [(rfl : Int32.toInt k_115 = k_115.toInt)])
                        refine lv_iload hx hb dX11_moves_117 (lv_at hl 7 rfl) ?_
                        have J132 : ∀ (k_132 : Int32) (H : Heap) (locs : List Loc) (ls : Array Slot), TW E K F G_39 H → va_S (xA E) s.heap H locs → lv_has ls 9 [(0, .ref a), (1, .ref p0), (2, .ref p1), (3, .int p2), (4, .int l4_3), (5, .int l5_39), (7, .int k_78), (8, .int k_99)] → W p l e rm_X11_moves s m args below meth c H locs 0 0 Q (F0 m 132 ls [.int k_132, .int x116, .int k_115, .ref (F a 8)]) := by
                          intro k_132 H locs ls hT hS hl
                          refine xi_iadd hx hb (hv116 : Int32.toInt x116 = (aI (G_39.2.1 (F a 8)) (k_115.toInt))) (rfl : Int32.toInt k_132 = k_132.toInt) dX11_moves_132 (fun x132 t132 => ?_)
                          refine as_0 (x := x132) S hK hT hS hk9999 ar_35 aw_35 (by decide) (z_X11_moves_16 k_115.toInt I115_0) dX11_moves_133 (fun H locs hT hS => ?_)
                          obtain ⟨G133, hG133⟩ : ∃ GG : XG, GG = cput G_39 (F a 8) k_115.toNatClampNeg x132 := ⟨_, rfl⟩
                          rw [← hG133] at hT
                          refine lv_aload_n hx hb dX11_moves_134 rfl (lv_at hl 0 rfl) ?_
                          refine gX11_8 S hK hT ha kf_X11_27 dX11_moves_135 (fun _ _ => ?_)
                          refine lv_iload_n hx hb dX11_moves_138 rfl (lv_at hl 3 rfl) ?_
                          refine lv_dup2_11 hx hb dX11_moves_139 rfl rfl ?_
                          refine al_0 S hK hT hk9999 ar_35 (by decide) (z_X11_moves_18 p2.toInt e0) dX11_moves_140 (fun x140 hv140 o140 => ?_)
                          have hv140 : x140.toInt = (aI (G133.2.1 (F a 8)) (p2.toInt)) := hv140.trans (by rw [(rfl : Int32.toInt p2 = p2.toInt)])
                          have hc140 : (p2.toInt = k_115.toInt → (aI (G133.2.1 (F a 8)) (p2.toInt)) = x132.toInt) ∧ (p2.toInt ≠ k_115.toInt → (aI (G133.2.1 (F a 8)) (p2.toInt)) = (aI (G_39.2.1 (F a 8)) (p2.toInt))) := xlk hG133 rfl (rfl : Int32.toInt k_115 = k_115.toInt) (rfl : Int32.toInt x132 = x132.toInt) (z_X11_moves_20 k_115.toInt I115_0) (z_X11_moves_19 p2.toInt e0)
                          refine lv_iload hx hb dX11_moves_141 (lv_at hl 6 rfl) ?_
                          have J156 : ∀ (k_156 : Int32) (H : Heap) (locs : List Loc) (ls : Array Slot), TW E K F G133 H → va_S (xA E) s.heap H locs → lv_has ls 9 [(0, .ref a), (1, .ref p0), (2, .ref p1), (3, .int p2), (4, .int l4_3), (5, .int l5_39)] → W p l e rm_X11_moves s m args below meth c H locs 0 0 Q (F0 m 156 ls [.int k_156, .int x140, .int p2, .ref (F a 8)]) := by
                            intro k_156 H locs ls hT hS hl
                            refine xi_iadd hx hb (hv140 : Int32.toInt x140 = (aI (G133.2.1 (F a 8)) (p2.toInt))) (rfl : Int32.toInt k_156 = k_156.toInt) dX11_moves_156 (fun x156 t156 => ?_)
                            refine as_0 (x := x156) S hK hT hS hk9999 ar_35 aw_35 (by decide) (z_X11_moves_18 p2.toInt e0) dX11_moves_157 (fun H locs hT hS => ?_)
                            obtain ⟨G157, hG157⟩ : ∃ GG : XG, GG = cput G133 (F a 8) p2.toNatClampNeg x156 := ⟨_, rfl⟩
                            rw [← hG157] at hT
                            refine xi_iinc (n := 1) (lv' := fun z9 => [(5, .int z9), (0, .ref a), (1, .ref p0), (2, .ref p1), (3, .int p2), (4, .int l4_3)]) (k := 5) hx hb (rfl : Int32.toInt l5_39 = l5_39.toInt) (by decide) dX11_moves_158 hl rfl (by decide) (fun _ => rfl) (fun x158 ls t158 hl => ?_)
                            have e158 : x158.toInt = (l5_39.toInt + 1) := (z_X11_moves_22 l5_39.toInt x158.toInt (aI (G.2.1 (F a 10)) (10 * l4_3.toInt + 0)) (sF (aI (G.2.1 (F a 10)) (10 * l4_3.toInt + 0))) (sL (aI (G.2.1 (F a 10)) (10 * l4_3.toInt + 0))) z31a c47 t158 (xr l5_39))
                            have hl : lv_has ls 9 [(5, .int x158), (0, .ref a), (1, .ref p0), (2, .ref p1), (3, .int p2), (4, .int l4_3)] := hl
                            refine lv_goto (tgt := 39) hx hb dX11_moves_161 (by decide) ?_
                            exact ih39 x158 G157 _ _ _ (by rw [hG157]; exact XFr.cput (by rw [hG133]; exact XFr.cput (XFr.call XFr.rf hF_39 xm0 (xm1 0 rfl xm0) xm0) (List.mem_of_getElem? (i := 0) rfl)) (List.mem_of_getElem? (i := 0) rfl)) (by rw [(e158 : Int32.toInt x158 = (l5_39.toInt + 1))] <;> exact (z_X11_moves_23 l5_39.toInt (sF (aI (G.2.1 (F a 10)) (10 * l4_3.toInt + 0))) (sL (aI (G.2.1 (F a 10)) (10 * l4_3.toInt + 0))) I39_0 c47)) (by rw [(e158 : Int32.toInt x158 = (l5_39.toInt + 1))] <;> exact (z_X11_moves_5 l5_39.toInt N39 hm39)) hT hS (lv_sub hl [1, 2, 3, 4, 5, 0] rfl)
                          have J155 : ∀ (H : Heap) (locs : List Loc) (ls : Array Slot), TW E K F G133 H → va_S (xA E) s.heap H locs → lv_has ls 9 [(0, .ref a), (1, .ref p0), (2, .ref p1), (3, .int p2), (4, .int l4_3), (5, .int l5_39)] → W p l e rm_X11_moves s m args below meth c H locs 0 0 Q (F0 m 155 ls [.int x140, .int p2, .ref (F a 8)]) := by
                            intro H locs ls hT hS hl
                            refine lv_iconst (v := 0) hx hb dX11_moves_155 (by decide) ?_
                            exact J156 0 _ _ _ hT hS (lv_sub hl [0, 1, 2, 3, 4, 5] rfl)
                          refine xi_zeq (tgt := 155) hx hb (rfl : Int32.toInt k_78 = k_78.toInt) dX11_moves_143 (by decide) (fun c143 => ?_) (fun c143 => ?_)
                          · exact J155 _ _ _ hT hS (lv_sub hl [0, 1, 2, 3, 4, 5] rfl)
                          · refine lv_iload hx hb dX11_moves_146 (lv_at hl 7 rfl) ?_
                            refine xi_zne (tgt := 155) hx hb (rfl : Int32.toInt k_99 = k_99.toInt) dX11_moves_148 (by decide) (fun c148 => ?_) (fun c148 => ?_)
                            · exact J155 _ _ _ hT hS (lv_sub hl [0, 1, 2, 3, 4, 5] rfl)
                            · refine lv_iconst (v := 1) hx hb dX11_moves_151 (by decide) ?_
                              refine lv_goto (tgt := 156) hx hb dX11_moves_152 (by decide) ?_
                              exact J156 1 _ _ _ hT hS (lv_sub hl [0, 1, 2, 3, 4, 5] rfl)
                        have J131 : ∀ (H : Heap) (locs : List Loc) (ls : Array Slot), TW E K F G_39 H → va_S (xA E) s.heap H locs → lv_has ls 9 [(0, .ref a), (1, .ref p0), (2, .ref p1), (3, .int p2), (4, .int l4_3), (5, .int l5_39), (7, .int k_78), (8, .int k_99)] → W p l e rm_X11_moves s m args below meth c H locs 0 0 Q (F0 m 131 ls [.int x116, .int k_115, .ref (F a 8)]) := by
                          intro H locs ls hT hS hl
                          refine lv_iconst (v := 0) hx hb dX11_moves_131 (by decide) ?_
                          exact J132 0 _ _ _ hT hS (lv_sub hl [0, 1, 2, 3, 4, 5, 6, 7] rfl)
                        refine xi_zeq (tgt := 131) hx hb (rfl : Int32.toInt k_99 = k_99.toInt) dX11_moves_119 (by decide) (fun c119 => ?_) (fun c119 => ?_)
                        · exact J131 _ _ _ hT hS (lv_sub hl [0, 1, 2, 3, 4, 5, 6, 7] rfl)
                        · refine lv_iload hx hb dX11_moves_122 (lv_at hl 6 rfl) ?_
                          refine xi_zne (tgt := 131) hx hb (rfl : Int32.toInt k_78 = k_78.toInt) dX11_moves_124 (by decide) (fun c124 => ?_) (fun c124 => ?_)
                          · exact J131 _ _ _ hT hS (lv_sub hl [0, 1, 2, 3, 4, 5, 6, 7] rfl)
                          · refine lv_iconst (v := 1) hx hb dX11_moves_127 (by decide) ?_
                            refine lv_goto (tgt := 132) hx hb dX11_moves_128 (by decide) ?_
                            exact J132 1 _ _ _ hT hS (lv_sub hl [0, 1, 2, 3, 4, 5, 6, 7] rfl)
                      refine xi_cne (tgt := 114) hx hb (rfl : Int32.toInt p2 = p2.toInt) ((by decide) : Int32.toInt 1 = (1 : Int)) dX11_moves_107 (by decide) (fun c107 => ?_) (fun c107 => ?_)
                      · refine lv_iconst (v := 3) hx hb dX11_moves_114 (by decide) ?_
                        exact J115 3 _ _ _ (by decide) hT hS (lv_sub hl [1, 2, 3, 4, 5, 6, 7, 0] rfl)
                      · refine lv_iconst (v := 0) hx hb dX11_moves_110 (by decide) ?_
                        refine lv_goto (tgt := 115) hx hb dX11_moves_111 (by decide) ?_
                        exact J115 0 _ _ _ (by decide) hT hS (lv_sub hl [1, 2, 3, 4, 5, 6, 7, 0] rfl)
                    refine xi_ceq (tgt := 98) hx hb (hv83 : Int32.toInt x83 = (aI (G.2.1 p1) (199 * l4_3.toInt + l5_39.toInt + 99))) (hv90 : Int32.toInt x90 = (aI (G.2.1 (F a 13)) (199 * l4_3.toInt + l5_39.toInt + 99))) dX11_moves_91 (by decide) (fun c91 => ?_) (fun c91 => ?_)
                    · refine lv_iconst (v := 0) hx hb dX11_moves_98 (by decide) ?_
                      exact J99 0 _ _ _ hT hS (lv_sub hl [1, 2, 3, 4, 5, 6, 0] rfl)
                    · refine lv_iconst (v := 1) hx hb dX11_moves_94 (by decide) ?_
                      refine lv_goto (tgt := 99) hx hb dX11_moves_95 (by decide) ?_
                      exact J99 1 _ _ _ hT hS (lv_sub hl [1, 2, 3, 4, 5, 6, 0] rfl)
                  refine xi_ceq (tgt := 77) hx hb (hv62 : Int32.toInt x62 = (aI (G.2.1 p0) (199 * l4_3.toInt + l5_39.toInt + 99))) (hv69 : Int32.toInt x69 = (aI (G.2.1 (F a 13)) (199 * l4_3.toInt + l5_39.toInt + 99))) dX11_moves_70 (by decide) (fun c70 => ?_) (fun c70 => ?_)
                  · refine lv_iconst (v := 0) hx hb dX11_moves_77 (by decide) ?_
                    exact J78 0 _ _ _ hT hS (lv_sub hl [1, 2, 3, 4, 5, 6, 0] rfl)
                  · refine lv_iconst (v := 1) hx hb dX11_moves_73 (by decide) ?_
                    refine lv_goto (tgt := 78) hx hb dX11_moves_74 (by decide) ?_
                    exact J78 1 _ _ _ hT hS (lv_sub hl [1, 2, 3, 4, 5, 6, 0] rfl)
            exact L39 4294967297 x34 G_3 _ _ _ XFr.rf (by rw [(t34 : Int32.toInt x34 = (sF (aI (G.2.1 (F a 10)) (10 * l4_3.toInt + 0))))] <;> exact (z_X11_moves_25 (aI (G.2.1 (F a 10)) (10 * l4_3.toInt + 0)) (sF (aI (G.2.1 (F a 10)) (10 * l4_3.toInt + 0))) (sL (aI (G.2.1 (F a 10)) (10 * l4_3.toInt + 0))) z31a)) (by rw [(t34 : Int32.toInt x34 = (sF (aI (G.2.1 (F a 10)) (10 * l4_3.toInt + 0))))] <;> exact (z_X11_moves_26 (aI (G.2.1 (F a 10)) (10 * l4_3.toInt + 0)) (sF (aI (G.2.1 (F a 10)) (10 * l4_3.toInt + 0))) (sL (aI (G.2.1 (F a 10)) (10 * l4_3.toInt + 0))) z31a)) hT hS (lv_sub hl [1, 2, 3, 4, 5, 0] rfl)
  exact L3 4294967297 0 G _ _ _ XFr.rf (by decide) (by decide) (by decide) hT hS (lv_sub hl [1, 2, 3, 4, 0] rfl)

theorem z_X11_takeAsked_2 (a0 : Int) (a1 : Int) (a2 : Int) (h0 : 0 ≤ a0 ∧ a0 ≤ 2388) (h1 : ((a2 = -1 ∧ a0 = a1) ∨ (a2 ≠ -1 ∧ a0 = a2 + 1))) : 0 ≤ a0 ∧ a0 ≤ 2388 ∧ a2 = a2 ∧ ((a2 = -1 ∧ a0 = a1) ∨ (a2 ≠ -1 ∧ a0 = a2 + 1)) := by omega
theorem z_X11_takeAsked_3 (a0 : Int) (a1 : Int) (h0 : 0 ≤ a0 ∧ a0 ≤ 2388) (h1 : 0 ≤ a1) (h2 : ¬ (a0 ≤ a1)) : 0 ≤ a1 ∧ a1 < ((2400 : Nat) : Int) := by omega
theorem z_X11_takeAsked_7 (a0 : Int) (a1 : Int) (a2 : Int) (h0 : 0 ≤ a0 ∧ a0 ≤ 2388) (h1 : 0 ≤ a1) (h2 : ¬ (a0 ≤ a1)) (h3 : a2 = (a1 + 1) ∨ (a1 + 1) < -2147483648 ∨ 2147483648 ≤ (a1 + 1)) : a2 = (a1 + 1) := by omega
theorem z_X11_takeAsked_8 (a0 : Int) (h0 : 0 ≤ a0) : 0 ≤ (a0 + 1) := by omega
theorem z_X11_takeAsked_9 (a0 : Int) (a1 : Int) (h0 : ¬ (a0 ≤ a1)) : (a1 + 1) ≤ a0 := by omega
theorem z_X11_takeAsked_10 (a0 : Int) (h0 : 0 ≤ a0) : (0 : Int) ≤ (a0 + 1) := by omega
theorem z_X11_takeAsked_12 (a0 : Int) (h0 : 0 ≤ a0 ∧ a0 ≤ 2388) : (0 : Int) ≤ a0 := by omega
theorem z_X11_takeAsked_13 (a0 : Int) (a1 : Int) (a2 : Int) (h0 : 0 ≤ a1 ∧ a1 ≤ 2388 ∧ -1 ≤ a2 ∧ a2 < 2388) (h1 : a0 = (a2 + (1 : Int)) ∨ (a2 + (1 : Int)) < -2147483648 ∨ 2147483648 ≤ (a2 + (1 : Int))) : a0 = (a2 + (1 : Int)) := by omega
theorem z_X11_takeAsked_14 (a0 : Int) (a1 : Int) (h0 : 0 ≤ a0 ∧ a0 ≤ 2388 ∧ -1 ≤ a1 ∧ a1 < 2388) : 0 ≤ (a1 + (1 : Int)) ∧ (a1 + (1 : Int)) ≤ 2388 := by omega
theorem z_X11_takeAsked_15 (a0 : Int) (a1 : Int) (h0 : a1 ≠ (-1 : Int)) : ((a1 = -1 ∧ (a1 + (1 : Int)) = a0) ∨ (a1 ≠ -1 ∧ (a1 + (1 : Int)) = a1 + 1)) := by omega
theorem z_X11_takeAsked_16 (a0 : Int) (a1 : Int) (h0 : 0 ≤ a0 ∧ a0 ≤ 2388 ∧ -1 ≤ a1 ∧ a1 < 2388) : 0 ≤ a0 ∧ a0 ≤ 2388 := by omega
theorem z_X11_takeAsked_17 (a0 : Int) (a1 : Int) (h0 : ¬ (a1 ≠ (-1 : Int))) : ((a1 = -1 ∧ a0 = a0) ∨ (a1 ≠ -1 ∧ a0 = a1 + 1)) := by omega
abbrev rm_X11_takeAsked : Room := { frames := 0, cells := 0, slots := 0, locals := 0 }
set_option maxHeartbeats 4000000 in
set_option maxRecDepth 100000 in
theorem c_X11_takeAsked (l : Launch) (E : XE) (K : Nat → Nat) (F : Nat → Nat → Nat) (G : XG) (a : Nat) (ha : K a = 13) (s0 : 0 ≤ ((G.1 a 19).toInt) ∧ ((G.1 a 19).toInt) ≤ 2388 ∧ -1 ≤ ((G.1 a 46).toInt) ∧ ((G.1 a 46).toInt) < 2388) : Met l yX11_takeAsked (xw yX11_takeAsked cX11_takeAsked 2 none) rm_X11_takeAsked (va_Pc [.ref a] (XP E K F G)) (XQv E (fun (u : XG) => XFr [(a, 43), (a, 44)] [F a 41, F a 42, F a 9] [] G u ∧ (0 ≤ ((u.1 a 43).toInt) ∧ ((u.1 a 43).toInt) ≤ 2388 ∧ ((u.1 a 44).toInt) = ((G.1 a 46).toInt) ∧ ((((G.1 a 46).toInt) = -1 ∧ ((u.1 a 43).toInt) = ((G.1 a 19).toInt)) ∨ (((G.1 a 46).toInt) ≠ -1 ∧ ((u.1 a 43).toInt) = ((G.1 a 46).toInt) + 1))) ∧ (((G.1 a 46).toInt) < ((G.1 a 19).toInt) → aL u F a = (pL G F a).take ((u.1 a 43).toInt).toNat)) (fun u H => TW E K F u H)) 0 0 (xA E) := by
  refine x_enter (by decide) (Nat.le_of_ble_eq_true rfl) ?_
  intro p e s m args below meth c Q S hr hlk hnm hQ hP ls hl
  obtain ⟨hz, hK, hT⟩ := hP
  obtain ⟨hx, hb, -, -, -⟩ := id S
  obtain ⟨H, hT, hS, hgo⟩ : ∃ H : Heap, TW E K F G H ∧ va_S (xA E) s.heap H [] ∧ H = s.heap := ⟨_, hT, va_S.rf, rfl⟩
  rw [← hgo]
  have hl : lv_has ls 2 [(0, .ref a)] := hl
  obtain ⟨hk9999, hj9999⟩ := fkX11_41 hT ha
  obtain ⟨hk9999a, hj9999a⟩ := fkX11_42 hT ha
  obtain ⟨hk9999b, hj9999b⟩ := fkX11_9 hT ha
  refine lv_aload_n hx hb dX11_takeAsked_0 rfl (lv_at hl 0 rfl) ?_
  refine lv_aload_n hx hb dX11_takeAsked_1 rfl (lv_at hl 0 rfl) ?_
  refine gX11_46 S hK hT ha kf_X11_322 dX11_takeAsked_2 (v := (G.1 a 46)) rfl (?_)
  refine lv_iconst (v := (-1)) hx hb dX11_takeAsked_5 (by decide) ?_
  have J22 : ∀ (k_22 : Int32) (H : Heap) (locs : List Loc) (ls : Array Slot), 0 ≤ k_22.toInt ∧ k_22.toInt ≤ 2388 → ((((G.1 a 46).toInt) = -1 ∧ k_22.toInt = ((G.1 a 19).toInt)) ∨ (((G.1 a 46).toInt) ≠ -1 ∧ k_22.toInt = ((G.1 a 46).toInt) + 1)) → TW E K F G H → va_S (xA E) s.heap H locs → lv_has ls 2 [(0, .ref a)] → W p l e rm_X11_takeAsked s m args below meth c H locs 0 0 Q (F0 m 22 ls [.int k_22, .ref a]) := by
    intro k_22 H locs ls I22_0 I22_1 hT hS hl
    refine pX11_43 (v := k_22) S hK hT hS ha kf_X11_340 dX11_takeAsked_22 (fun H locs hT hS => ?_)
    obtain ⟨G22, hG22⟩ : ∃ GG : XG, GG = dput G a 43 k_22 := ⟨_, rfl⟩
    rw [← hG22] at hT
    refine lv_aload_n hx hb dX11_takeAsked_25 rfl (lv_at hl 0 rfl) ?_
    refine lv_aload_n hx hb dX11_takeAsked_26 rfl (lv_at hl 0 rfl) ?_
    refine gX11_46 S hK hT ha kf_X11_322 dX11_takeAsked_27 (v := (G.1 a 46)) (ld_j hG22 (by decide)) (?_)
    refine pX11_44 (v := (G.1 a 46)) S hK hT hS ha kf_X11_115 dX11_takeAsked_30 (fun H locs hT hS => ?_)
    obtain ⟨G30, hG30⟩ : ∃ GG : XG, GG = dput G22 a 44 (G.1 a 46) := ⟨_, rfl⟩
    rw [← hG30] at hT
    refine lv_iconst (v := 0) hx hb dX11_takeAsked_33 (by decide) ?_
    refine lv_istore_n (lv' := [(1, .int 0), (0, .ref a)]) hx hb dX11_takeAsked_34 rfl hl (by decide) rfl (fun ls hl => ?_)
    have L35 : ∀ (N35 : Nat) (l1_35 : Int32) (G_35 : XG) (H : Heap) (locs : List Loc) (ls : Array Slot), XFr [] [F a 41, F a 42] [] G30 G_35 → (∀ j : Int, 0 ≤ j → j < l1_35.toInt → aI (G_35.2.1 (F a 41)) j = aI (G.2.1 (F a 17)) j ∧ aI (G_35.2.1 (F a 42)) j = aI (G.2.1 (F a 18)) j) → 0 ≤ l1_35.toInt → l1_35.toInt ≤ k_22.toInt → (0 : Int) ≤ l1_35.toInt → 2147483648 - l1_35.toInt < ((N35 : Nat) : Int) → TW E K F G_35 H → va_S (xA E) s.heap H locs → lv_has ls 2 [(0, .ref a), (1, .int l1_35)] → W p l e rm_X11_takeAsked s m args below meth c H locs 0 0 Q (F0 m 35 ls []) := by
      intro N35
      induction N35 with
      | zero =>
        intro l1_35 G_35 H locs ls hF_35 pt I35_0 I35_1 I35_2 hm35
        exact absurd hm35 (z_X11_moves_9 l1_35.toInt (xr l1_35))
      | succ N35 ih35 =>
        intro l1_35 G_35 H locs ls hF_35 pt I35_0 I35_1 I35_2 hm35 hT hS hl
        refine lv_iload_n hx hb dX11_takeAsked_35 rfl (lv_at hl 1 rfl) ?_
        refine lv_aload_n hx hb dX11_takeAsked_36 rfl (lv_at hl 0 rfl) ?_
        refine gX11_43 S hK hT ha kf_X11_340 dX11_takeAsked_37 (v := k_22) ((hF_35.1 _ _ xn0).trans ((ld_j hG30 (by decide)).trans (ld_at hG22))) (?_)
        refine xi_cge (tgt := 73) hx hb (rfl : Int32.toInt l1_35 = l1_35.toInt) (rfl : Int32.toInt k_22 = k_22.toInt) dX11_takeAsked_40 (by decide) (fun c40 => ?_) (fun c40 => ?_)
        · refine lv_aload_n hx hb dX11_takeAsked_73 rfl (lv_at hl 0 rfl) ?_
          refine gX11_9 S hK hT ha kf_X11_30 dX11_takeAsked_74 (fun _ _ => ?_)
          refine lv_iconst (v := 0) hx hb dX11_takeAsked_77 (by decide) ?_
          refine lv_dup2_11 hx hb dX11_takeAsked_78 rfl rfl ?_
          refine al_0 S hK hT hk9999b ar_36 (by decide) (by decide) dX11_takeAsked_79 (fun x79 hv79 o79 => ?_)
          have hv79 : x79.toInt = (aI (G.2.1 (F a 9)) 0) := hv79.trans (by rw [((by decide) : Int32.toInt 0 = (0 : Int)), (((hF_35.2.1 _ (xn1 (xne_k hk9999b hk9999 (by decide)) (xn1 (xne_k hk9999b hk9999a (by decide)) xn0))).trans ((ld_c hG30).trans (ld_c hG22))) : G_35.2.1 (F a 9) = G.2.1 (F a 9))])
          refine lv_aload_n hx hb dX11_takeAsked_80 rfl (lv_at hl 0 rfl) ?_
          refine gX11_43 S hK hT ha kf_X11_340 dX11_takeAsked_81 (v := k_22) ((hF_35.1 _ _ xn0).trans ((ld_j hG30 (by decide)).trans (ld_at hG22))) (?_)
          refine xi_iadd hx hb (hv79 : Int32.toInt x79 = (aI (G.2.1 (F a 9)) 0)) (rfl : Int32.toInt k_22 = k_22.toInt) dX11_takeAsked_84 (fun x84 t84 => ?_)
          refine as_0 (x := x84) S hK hT hS hk9999b ar_36 aw_36 (by decide) (by decide) dX11_takeAsked_85 (fun H locs hT hS => ?_)
          obtain ⟨G85, hG85⟩ : ∃ GG : XG, GG = cput G_35 (F a 9) (0 : Int32).toNatClampNeg x84 := ⟨_, rfl⟩
          rw [← hG85] at hT
          exact x_rv hx hb hr hlk hQ (Nat.le_of_ble_eq_true rfl) (Nat.le_of_ble_eq_true rfl) hS dX11_takeAsked_86 G85 ⟨(by rw [hG85]; exact XFr.cput (XFr.call (by rw [hG30]; exact XFr.dput (by rw [hG22]; exact XFr.dput XFr.rf (List.mem_of_getElem? (i := 0) rfl)) (List.mem_of_getElem? (i := 1) rfl)) hF_35 xm0 (xm1 0 rfl (xm1 1 rfl xm0)) xm0) (List.mem_of_getElem? (i := 2) rfl)), (by rw [(show (G85.1 a 43).toInt = k_22.toInt from (congrArg Int32.toInt ((lc_d hG85).trans ((hF_35.1 _ _ xn0).trans ((ld_j hG30 (by decide)).trans (ld_at hG22))))).trans (rfl : Int32.toInt k_22 = k_22.toInt)), (show (G85.1 a 44).toInt = ((G.1 a 46).toInt) from (congrArg Int32.toInt ((lc_d hG85).trans ((hF_35.1 _ _ xn0).trans (ld_at hG30)))).trans (rfl : Int32.toInt (G.1 a 46) = ((G.1 a 46).toInt)))] <;> exact (z_X11_takeAsked_2 k_22.toInt ((G.1 a 19).toInt) ((G.1 a 46).toInt) I22_0 I22_1)), (v_X11_takeAsked_86_1 (K := K) (F := F) a G k_22 G_35 G85 l1_35 N35 ha pt s0 I22_0 I22_1 I35_0 I35_1 I35_2 hm35 c40 (lc_c hG85 (xne_k hk9999 hk9999b (by decide))) (lc_c hG85 (xne_k hk9999a hk9999b (by decide))) ((lc_d hG85).trans ((hF_35.1 _ _ xn0).trans ((ld_j hG30 (by decide)).trans (ld_at hG22)))))⟩ hT
        · refine lv_aload_n hx hb dX11_takeAsked_43 rfl (lv_at hl 0 rfl) ?_
          refine gX11_41 S hK hT ha kf_X11_109 dX11_takeAsked_44 (fun _ _ => ?_)
          refine lv_iload_n hx hb dX11_takeAsked_47 rfl (lv_at hl 1 rfl) ?_
          refine lv_aload_n hx hb dX11_takeAsked_48 rfl (lv_at hl 0 rfl) ?_
          obtain ⟨hk49, hj49⟩ := fkX11_17 hT ha
          refine gX11_17 S hK hT ha kf_X11_51 dX11_takeAsked_49 (fun _ _ => ?_)
          refine lv_iload_n hx hb dX11_takeAsked_52 rfl (lv_at hl 1 rfl) ?_
          refine al_0 S hK hT hk49 ar_43 (by decide) (z_X11_takeAsked_3 k_22.toInt l1_35.toInt I22_0 I35_0 c40) dX11_takeAsked_53 (fun x53 hv53 o53 => ?_)
          have hv53 : x53.toInt = (aI (G.2.1 (F a 17)) (l1_35.toInt)) := hv53.trans (by rw [(rfl : Int32.toInt l1_35 = l1_35.toInt), (((hF_35.2.1 _ (xn1 (xne_k hk49 hk9999 (by decide)) (xn1 (xne_k hk49 hk9999a (by decide)) xn0))).trans ((ld_c hG30).trans (ld_c hG22))) : G_35.2.1 (F a 17) = G.2.1 (F a 17))])
          refine as_0 (x := x53) S hK hT hS hk9999 ar_53 aw_53 (by decide) (z_X11_takeAsked_3 k_22.toInt l1_35.toInt I22_0 I35_0 c40) dX11_takeAsked_54 (fun H locs hT hS => ?_)
          obtain ⟨G54, hG54⟩ : ∃ GG : XG, GG = cput G_35 (F a 41) l1_35.toNatClampNeg x53 := ⟨_, rfl⟩
          rw [← hG54] at hT
          refine lv_aload_n hx hb dX11_takeAsked_55 rfl (lv_at hl 0 rfl) ?_
          refine gX11_42 S hK hT ha kf_X11_112 dX11_takeAsked_56 (fun _ _ => ?_)
          refine lv_iload_n hx hb dX11_takeAsked_59 rfl (lv_at hl 1 rfl) ?_
          refine lv_aload_n hx hb dX11_takeAsked_60 rfl (lv_at hl 0 rfl) ?_
          obtain ⟨hk61, hj61⟩ := fkX11_18 hT ha
          refine gX11_18 S hK hT ha kf_X11_54 dX11_takeAsked_61 (fun _ _ => ?_)
          refine lv_iload_n hx hb dX11_takeAsked_64 rfl (lv_at hl 1 rfl) ?_
          refine al_0 S hK hT hk61 ar_44 (by decide) (z_X11_takeAsked_3 k_22.toInt l1_35.toInt I22_0 I35_0 c40) dX11_takeAsked_65 (fun x65 hv65 o65 => ?_)
          have hv65 : x65.toInt = (aI (G.2.1 (F a 18)) (l1_35.toInt)) := hv65.trans (by rw [(rfl : Int32.toInt l1_35 = l1_35.toInt), (((lc_c hG54 (xne_k hk61 hk9999 (by decide))).trans ((hF_35.2.1 _ (xn1 (xne_k hk61 hk9999 (by decide)) (xn1 (xne_k hk61 hk9999a (by decide)) xn0))).trans ((ld_c hG30).trans (ld_c hG22)))) : G54.2.1 (F a 18) = G.2.1 (F a 18))])
          refine as_0 (x := x65) S hK hT hS hk9999a ar_54 aw_54 (by decide) (z_X11_takeAsked_3 k_22.toInt l1_35.toInt I22_0 I35_0 c40) dX11_takeAsked_66 (fun H locs hT hS => ?_)
          obtain ⟨G66, hG66⟩ : ∃ GG : XG, GG = cput G54 (F a 42) l1_35.toNatClampNeg x65 := ⟨_, rfl⟩
          rw [← hG66] at hT
          refine xi_iinc (n := 1) (lv' := fun z9 => [(1, .int z9), (0, .ref a)]) (k := 1) hx hb (rfl : Int32.toInt l1_35 = l1_35.toInt) (by decide) dX11_takeAsked_67 hl rfl (by decide) (fun _ => rfl) (fun x67 ls t67 hl => ?_)
          have e67 : x67.toInt = (l1_35.toInt + 1) := (z_X11_takeAsked_7 k_22.toInt l1_35.toInt x67.toInt I22_0 I35_0 c40 t67)
          have hl : lv_has ls 2 [(1, .int x67), (0, .ref a)] := hl
          refine lv_goto (tgt := 35) hx hb dX11_takeAsked_70 (by decide) ?_
          exact ih35 x67 G66 _ _ _ (by rw [hG66]; exact XFr.cput (by rw [hG54]; exact XFr.cput (XFr.call XFr.rf hF_35 xm0 (xm1 0 rfl (xm1 1 rfl xm0)) xm0) (List.mem_of_getElem? (i := 0) rfl)) (List.mem_of_getElem? (i := 1) rfl)) (by rw [(e67 : Int32.toInt x67 = (l1_35.toInt + 1))] <;> exact (v_X11_takeAsked_70_2 (K := K) (F := F) a G k_22 G_35 G54 l1_35 x53 G66 x65 N35 ha hG54 hG66 pt hv53 hv65 s0 I22_0 I22_1 I35_0 I35_1 I35_2 hm35 c40 (lc_c hG54 (xne_k hk9999a hk9999 (by decide))) (lc_c hG66 (xne_k hk9999 hk9999a (by decide))))) (by rw [(e67 : Int32.toInt x67 = (l1_35.toInt + 1))] <;> exact (z_X11_takeAsked_8 l1_35.toInt I35_0)) (by rw [(e67 : Int32.toInt x67 = (l1_35.toInt + 1))] <;> exact (z_X11_takeAsked_9 k_22.toInt l1_35.toInt c40)) (by rw [(e67 : Int32.toInt x67 = (l1_35.toInt + 1))] <;> exact (z_X11_takeAsked_10 l1_35.toInt I35_0)) (by rw [(e67 : Int32.toInt x67 = (l1_35.toInt + 1))] <;> exact (z_X11_moves_5 l1_35.toInt N35 hm35)) hT hS (lv_sub hl [1, 0] rfl)
    exact L35 4294967297 0 G30 _ _ _ XFr.rf (v_X11_takeAsked_34_3 (K := K) (F := F) a G k_22 G30 ha s0 I22_0 I22_1) (by decide) (z_X11_takeAsked_12 k_22.toInt I22_0) (by decide) (by decide) hT hS (lv_sub hl [1, 0] rfl)
  refine xi_cne (tgt := 16) hx hb (rfl : Int32.toInt (G.1 a 46) = ((G.1 a 46).toInt)) ((by decide) : Int32.toInt (-1) = (-1 : Int)) dX11_takeAsked_6 (by decide) (fun c6 => ?_) (fun c6 => ?_)
  · refine lv_aload_n hx hb dX11_takeAsked_16 rfl (lv_at hl 0 rfl) ?_
    refine gX11_46 S hK hT ha kf_X11_322 dX11_takeAsked_17 (v := (G.1 a 46)) rfl (?_)
    refine lv_iconst (v := 1) hx hb dX11_takeAsked_20 (by decide) ?_
    refine xi_iadd hx hb (rfl : Int32.toInt (G.1 a 46) = ((G.1 a 46).toInt)) ((by decide) : Int32.toInt 1 = (1 : Int)) dX11_takeAsked_21 (fun x21 t21 => ?_)
    have e21 : x21.toInt = (((G.1 a 46).toInt) + (1 : Int)) := (z_X11_takeAsked_13 x21.toInt ((G.1 a 19).toInt) ((G.1 a 46).toInt) s0 t21)
    exact J22 x21 _ _ _ (by rw [(e21 : Int32.toInt x21 = (((G.1 a 46).toInt) + (1 : Int)))] <;> exact (z_X11_takeAsked_14 ((G.1 a 19).toInt) ((G.1 a 46).toInt) s0)) (by rw [(e21 : Int32.toInt x21 = (((G.1 a 46).toInt) + (1 : Int)))] <;> exact (z_X11_takeAsked_15 ((G.1 a 19).toInt) ((G.1 a 46).toInt) c6)) hT hS (lv_sub hl [0] rfl)
  · refine lv_aload_n hx hb dX11_takeAsked_9 rfl (lv_at hl 0 rfl) ?_
    refine gX11_19 S hK hT ha kf_X11_203 dX11_takeAsked_10 (v := (G.1 a 19)) rfl (?_)
    refine lv_goto (tgt := 22) hx hb dX11_takeAsked_13 (by decide) ?_
    exact J22 (G.1 a 19) _ _ _ (z_X11_takeAsked_16 ((G.1 a 19).toInt) ((G.1 a 46).toInt) s0) (z_X11_takeAsked_17 ((G.1 a 19).toInt) ((G.1 a 46).toInt) c6) hT hS (lv_sub hl [0] rfl)
theorem xok_i2b {y x : Int32} (h : x = y.toInt8.toInt32) : xok 2 x := by
  subst h
  show narrow .byte (.int y.toInt8.toInt32) = .int y.toInt8.toInt32
  simp [narrow]

theorem z_X11_puts_1 (a0 : Int) (h0 : 0 ≤ a0 ∧ a0 ≤ 23) : 0 ≤ a0 ∧ a0 < ((24 : Nat) : Int) := by omega
theorem z_X11_puts_2 (a0 : Int) (a1 : Int) (h0 : 0 ≤ a1 ∧ a1 ≤ 23) (h1 : a0 = (a1 + (1 : Int)) ∨ (a1 + (1 : Int)) < -2147483648 ∨ 2147483648 ≤ (a1 + (1 : Int))) : a0 = (a1 + (1 : Int)) := by omega
theorem z_X11_puts_3 (a0 : Int) : (a0 + (1 : Int)) = a0 + 1 := by omega
abbrev rm_X11_puts : Room := { frames := 0, cells := 0, slots := 0, locals := 0 }
set_option maxHeartbeats 4000000 in
set_option maxRecDepth 100000 in
theorem c_X11_puts (l : Launch) (E : XE) (K : Nat → Nat) (F : Nat → Nat → Nat) (G : XG) (a : Nat) (p0 : Int32) (ha : K a = 13) (w0 : 0 ≤ ((G.1 a 23).toInt) ∧ ((G.1 a 23).toInt) ≤ 23) : Met l yX11_puts (xw yX11_puts cX11_puts 2 none) rm_X11_puts (va_Pc [.ref a, .int p0] (XP E K F G)) (XQv E (fun (u : XG) => XFr [(a, 23)] [F a 22] [] G u ∧ (((u.1 a 23).toInt) = ((G.1 a 23).toInt) + 1)) (fun u H => TW E K F u H)) 0 0 (xA E) := by
  refine x_enter (by decide) (Nat.le_of_ble_eq_true rfl) ?_
  intro p e s m args below meth c Q S hr hlk hnm hQ hP ls hl
  obtain ⟨hz, hK, hT⟩ := hP
  obtain ⟨hx, hb, -, -, -⟩ := id S
  obtain ⟨H, hT, hS, hgo⟩ : ∃ H : Heap, TW E K F G H ∧ va_S (xA E) s.heap H [] ∧ H = s.heap := ⟨_, hT, va_S.rf, rfl⟩
  rw [← hgo]
  have hl : lv_has ls 2 [(0, .ref a), (1, .int p0)] := hl
  obtain ⟨hk9999, hj9999⟩ := fkX11_22 hT ha
  refine lv_aload_n hx hb dX11_puts_0 rfl (lv_at hl 0 rfl) ?_
  refine gX11_22 S hK hT ha kf_X11_65 dX11_puts_1 (fun _ _ => ?_)
  refine lv_aload_n hx hb dX11_puts_4 rfl (lv_at hl 0 rfl) ?_
  refine gX11_23 S hK hT ha kf_X11_224 dX11_puts_5 (v := (G.1 a 23)) rfl (?_)
  refine lv_iload_n hx hb dX11_puts_8 rfl (lv_at hl 1 rfl) ?_
  refine lv_i2b hx hb dX11_puts_9 rfl (lv_topi (fun x9 eb9 => ?_))
  refine as_2 (x := x9) S hK hT hS hk9999 ar_45 aw_45 (by decide) (z_X11_puts_1 ((G.1 a 23).toInt) w0) dX11_puts_10 (fun H locs hT hS => ?_)
  rw [(xnar2 (xok_i2b eb9))] at hT
  obtain ⟨G10, hG10⟩ : ∃ GG : XG, GG = cput G (F a 22) (G.1 a 23).toNatClampNeg x9 := ⟨_, rfl⟩
  rw [← hG10] at hT
  refine lv_aload_n hx hb dX11_puts_11 rfl (lv_at hl 0 rfl) ?_
  refine lv_dup hx hb dX11_puts_12 rfl ?_
  refine gX11_23 S hK hT ha kf_X11_224 dX11_puts_13 (v := (G.1 a 23)) (lc_d hG10) (?_)
  refine lv_iconst (v := 1) hx hb dX11_puts_16 (by decide) ?_
  refine xi_iadd hx hb (rfl : Int32.toInt (G.1 a 23) = ((G.1 a 23).toInt)) ((by decide) : Int32.toInt 1 = (1 : Int)) dX11_puts_17 (fun x17 t17 => ?_)
  have e17 : x17.toInt = (((G.1 a 23).toInt) + (1 : Int)) := (z_X11_puts_2 x17.toInt ((G.1 a 23).toInt) w0 t17)
  refine pX11_23 (v := x17) S hK hT hS ha kf_X11_224 dX11_puts_18 (fun H locs hT hS => ?_)
  obtain ⟨G18, hG18⟩ : ∃ GG : XG, GG = dput G10 a 23 x17 := ⟨_, rfl⟩
  rw [← hG18] at hT
  exact x_rv hx hb hr hlk hQ (Nat.le_of_ble_eq_true rfl) (Nat.le_of_ble_eq_true rfl) hS dX11_puts_21 G18 ⟨(by rw [hG18]; exact XFr.dput (by rw [hG10]; exact XFr.cput XFr.rf (List.mem_of_getElem? (i := 0) rfl)) (List.mem_of_getElem? (i := 0) rfl)), (by rw [(show (G18.1 a 23).toInt = (((G.1 a 23).toInt) + (1 : Int)) from (congrArg Int32.toInt (ld_at hG18)).trans (e17 : Int32.toInt x17 = (((G.1 a 23).toInt) + (1 : Int))))] <;> exact (z_X11_puts_3 ((G.1 a 23).toInt)))⟩ hT

theorem z_X11_putNumber_1 (a0 : Int) (h0 : 0 ≤ a0 ∧ a0 ≤ 20) : 0 ≤ a0 ∧ a0 ≤ 23 := by omega
theorem z_X11_putNumber_2 (a0 : Int) (a1 : Int) (h0 : a1 = a0 + 1) : a0 + 1 ≤ a1 ∧ a1 ≤ a0 + 3 := by omega
theorem z_X11_putNumber_4 (a0 : Int) (a1 : Int) (h0 : 0 ≤ a0 ∧ a0 ≤ 20) (h1 : a1 = a0 + 1) : 0 ≤ a1 ∧ a1 ≤ 23 := by omega
theorem z_X11_putNumber_5 (a0 : Int) (a1 : Int) (a2 : Int) (h0 : a1 = a0 + 1) (h1 : a2 = a1 + 1) : a0 + 1 ≤ a2 ∧ a2 ≤ a0 + 3 := by omega
theorem z_X11_putNumber_13 (a0 : Int) (a1 : Int) (a2 : Int) (h0 : a2 = a0 + 1) (h1 : a1 = a2 + 1) : a0 + 1 ≤ a1 ∧ a1 ≤ a0 + 3 := by omega
theorem z_X11_putNumber_15 (a0 : Int) (a1 : Int) (a2 : Int) (h0 : 0 ≤ a0 ∧ a0 ≤ 20) (h1 : a2 = a0 + 1) (h2 : a1 = a2 + 1) : 0 ≤ a1 ∧ a1 ≤ 23 := by omega
theorem z_X11_putNumber_16 (a0 : Int) (a1 : Int) (a2 : Int) (a3 : Int) (h0 : a3 = a0 + 1) (h1 : a1 = a3 + 1) (h2 : a2 = a1 + 1) : a0 + 1 ≤ a2 ∧ a2 ≤ a0 + 3 := by omega
abbrev rm_X11_putNumber : Room := { frames := 1, cells := 0, slots := 0, locals := 21 }
set_option maxHeartbeats 4000000 in
set_option maxRecDepth 100000 in
theorem c_X11_putNumber (l : Launch) (E : XE) (K : Nat → Nat) (F : Nat → Nat → Nat) (G : XG) (a : Nat) (p0 : Int32) (ha : K a = 13) (w0 : 0 ≤ ((G.1 a 23).toInt) ∧ ((G.1 a 23).toInt) ≤ 20) (e0 : -99 ≤ p0.toInt ∧ p0.toInt ≤ 99) : Met l yX11_putNumber (xw yX11_putNumber cX11_putNumber 3 none) rm_X11_putNumber (va_Pc [.ref a, .int p0] (XP E K F G)) (XQv E (fun (u : XG) => XFr [(a, 23)] [F a 22] [] G u ∧ (((G.1 a 23).toInt) + 1 ≤ ((u.1 a 23).toInt) ∧ ((u.1 a 23).toInt) ≤ ((G.1 a 23).toInt) + 3)) (fun u H => TW E K F u H)) 0 0 (xA E) := by
  refine x_enter (by decide) (Nat.le_of_ble_eq_true rfl) ?_
  intro p e s m args below meth c Q S hr hlk hnm hQ hP ls hl
  obtain ⟨hz, hK, hT⟩ := hP
  obtain ⟨hx, hb, -, -, -⟩ := id S
  obtain ⟨H, hT, hS, hgo⟩ : ∃ H : Heap, TW E K F G H ∧ va_S (xA E) s.heap H [] ∧ H = s.heap := ⟨_, hT, va_S.rf, rfl⟩
  rw [← hgo]
  have hl : lv_has ls 3 [(0, .ref a), (1, .int p0)] := hl
  obtain ⟨hk9999, hj9999⟩ := fkX11_22 hT ha
  refine lv_iload_n hx hb dX11_putNumber_0 rfl (lv_at hl 1 rfl) ?_
  refine xi_zge (tgt := 10) hx hb (rfl : Int32.toInt p0 = p0.toInt) dX11_putNumber_1 (by decide) (fun c1 => ?_) (fun c1 => ?_)
  · refine lv_iload_n hx hb dX11_putNumber_10 rfl (lv_at hl 1 rfl) ?_
    refine xi_zge (tgt := 19) hx hb (rfl : Int32.toInt p0 = p0.toInt) dX11_putNumber_11 (by decide) (fun c11 => ?_) (fun c11 => ?_)
    · refine lv_iload_n hx hb dX11_putNumber_19 rfl (lv_at hl 1 rfl) ?_
      refine lv_istore_n (lv' := [(2, .int p0), (0, .ref a), (1, .int p0)]) hx hb dX11_putNumber_20 rfl hl (by decide) rfl (fun ls hl => ?_)
      refine lv_iload_n hx hb dX11_putNumber_21 rfl (lv_at hl 0 rfl) ?_
      refine lv_bipush (v := 9) hx hb dX11_putNumber_22 (by decide) ?_
      refine xi_cle (tgt := 38) hx hb (rfl : Int32.toInt p0 = p0.toInt) ((by decide) : Int32.toInt 9 = (9 : Int)) dX11_putNumber_24 (by decide) (fun c24 => ?_) (fun c24 => ?_)
      · refine lv_aload_n hx hb dX11_putNumber_38 rfl (lv_at hl 1 rfl) ?_
        refine lv_bipush (v := 48) hx hb dX11_putNumber_39 (by decide) ?_
        refine lv_iload_n hx hb dX11_putNumber_41 rfl (lv_at hl 0 rfl) ?_
        refine lv_bipush (v := 10) hx hb dX11_putNumber_42 (by decide) ?_
        refine xi_irem hx hb (rfl : Int32.toInt p0 = p0.toInt) ((by decide) : Int32.toInt 10 = (10 : Int)) (by decide) dX11_putNumber_44 (fun x44 t44 => ?_)
        refine xi_iadd hx hb ((by decide) : Int32.toInt 48 = (48 : Int)) (rfl : Int32.toInt x44 = x44.toInt) dX11_putNumber_45 (fun x45 t45 => ?_)
        refine x_cv0 (x_runV (b := a) (As := [.int x45]) (rest := []) S (c_X11_puts l E K F G a x45 ha (z_X11_putNumber_1 ((G.1 a 23).toInt) w0)) mv_X11_puts km_X11_227 rfl rfl ⟨Nat.le_of_ble_eq_true rfl, Nat.le_of_ble_eq_true rfl⟩ (rc_13 hK hT ha) hK (fun _ => XP.blind) (fun U hU hW => XP.at hK hz hS hT hU hW) rfl hl.1 (Nat.le_of_ble_eq_true rfl) dX11_putNumber_46 ⟨Nat.le_of_ble_eq_true rfl, Nat.le_of_ble_eq_true rfl⟩) hS ?_
        rintro G46 H locs ⟨hF46, t46⟩ hT hS
        have t46 : ((G46.1 a 23).toInt) = ((G.1 a 23).toInt) + 1 := t46
        exact x_rv hx hb hr hlk hQ (Nat.le_of_ble_eq_true rfl) (Nat.le_of_ble_eq_true rfl) hS dX11_putNumber_49 G46 ⟨(XFr.call XFr.rf hF46 (xm1 0 rfl xm0) (xm1 0 rfl xm0) xm0), (z_X11_putNumber_2 ((G.1 a 23).toInt) ((G46.1 a 23).toInt) t46)⟩ hT
      · refine lv_aload_n hx hb dX11_putNumber_27 rfl (lv_at hl 1 rfl) ?_
        refine lv_bipush (v := 48) hx hb dX11_putNumber_28 (by decide) ?_
        refine lv_iload_n hx hb dX11_putNumber_30 rfl (lv_at hl 0 rfl) ?_
        refine lv_bipush (v := 10) hx hb dX11_putNumber_31 (by decide) ?_
        refine xi_idiv hx hb (rfl : Int32.toInt p0 = p0.toInt) ((by decide) : Int32.toInt 10 = (10 : Int)) (by decide) dX11_putNumber_33 (fun x33 t33 => ?_)
        refine xi_iadd hx hb ((by decide) : Int32.toInt 48 = (48 : Int)) (rfl : Int32.toInt x33 = x33.toInt) dX11_putNumber_34 (fun x34 t34 => ?_)
        refine x_cv0 (x_runV (b := a) (As := [.int x34]) (rest := []) S (c_X11_puts l E K F G a x34 ha (z_X11_putNumber_1 ((G.1 a 23).toInt) w0)) mv_X11_puts km_X11_227 rfl rfl ⟨Nat.le_of_ble_eq_true rfl, Nat.le_of_ble_eq_true rfl⟩ (rc_13 hK hT ha) hK (fun _ => XP.blind) (fun U hU hW => XP.at hK hz hS hT hU hW) rfl hl.1 (Nat.le_of_ble_eq_true rfl) dX11_putNumber_35 ⟨Nat.le_of_ble_eq_true rfl, Nat.le_of_ble_eq_true rfl⟩) hS ?_
        rintro G35 H locs ⟨hF35, t35⟩ hT hS
        have t35 : ((G35.1 a 23).toInt) = ((G.1 a 23).toInt) + 1 := t35
        refine lv_aload_n hx hb dX11_putNumber_38 rfl (lv_at hl 1 rfl) ?_
        refine lv_bipush (v := 48) hx hb dX11_putNumber_39 (by decide) ?_
        refine lv_iload_n hx hb dX11_putNumber_41 rfl (lv_at hl 0 rfl) ?_
        refine lv_bipush (v := 10) hx hb dX11_putNumber_42 (by decide) ?_
        refine xi_irem hx hb (rfl : Int32.toInt p0 = p0.toInt) ((by decide) : Int32.toInt 10 = (10 : Int)) (by decide) dX11_putNumber_44 (fun x44 t44 => ?_)
        refine xi_iadd hx hb ((by decide) : Int32.toInt 48 = (48 : Int)) (rfl : Int32.toInt x44 = x44.toInt) dX11_putNumber_45 (fun x45 t45 => ?_)
        refine x_cv0 (x_runV (b := a) (As := [.int x45]) (rest := []) S (c_X11_puts l E K F G35 a x45 ha (z_X11_putNumber_4 ((G.1 a 23).toInt) ((G35.1 a 23).toInt) w0 t35)) mv_X11_puts km_X11_227 rfl rfl ⟨Nat.le_of_ble_eq_true rfl, Nat.le_of_ble_eq_true rfl⟩ (rc_13 hK hT ha) hK (fun _ => XP.blind) (fun U hU hW => XP.at hK hz hS hT hU hW) rfl hl.1 (Nat.le_of_ble_eq_true rfl) dX11_putNumber_46 ⟨Nat.le_of_ble_eq_true rfl, Nat.le_of_ble_eq_true rfl⟩) hS ?_
        rintro G46 H locs ⟨hF46, t46⟩ hT hS
        have t46 : ((G46.1 a 23).toInt) = ((G35.1 a 23).toInt) + 1 := t46
        exact x_rv hx hb hr hlk hQ (Nat.le_of_ble_eq_true rfl) (Nat.le_of_ble_eq_true rfl) hS dX11_putNumber_49 G46 ⟨(XFr.call (XFr.call XFr.rf hF35 (xm1 0 rfl xm0) (xm1 0 rfl xm0) xm0) hF46 (xm1 0 rfl xm0) (xm1 0 rfl xm0) xm0), (z_X11_putNumber_5 ((G.1 a 23).toInt) ((G35.1 a 23).toInt) ((G46.1 a 23).toInt) t35 t46)⟩ hT
    · refine lv_iload_n hx hb dX11_putNumber_14 rfl (lv_at hl 1 rfl) ?_
      refine xi_ineg hx hb (rfl : Int32.toInt p0 = p0.toInt) dX11_putNumber_15 (fun x15 t15 => ?_)
      refine lv_goto (tgt := 20) hx hb dX11_putNumber_16 (by decide) ?_
      refine lv_istore_n (lv' := [(2, .int x15), (0, .ref a), (1, .int p0)]) hx hb dX11_putNumber_20 rfl hl (by decide) rfl (fun ls hl => ?_)
      refine lv_iload_n hx hb dX11_putNumber_21 rfl (lv_at hl 0 rfl) ?_
      refine lv_bipush (v := 9) hx hb dX11_putNumber_22 (by decide) ?_
      refine xi_cle (tgt := 38) hx hb (rfl : Int32.toInt x15 = x15.toInt) ((by decide) : Int32.toInt 9 = (9 : Int)) dX11_putNumber_24 (by decide) (fun c24 => ?_) (fun c24 => ?_)
      · refine lv_aload_n hx hb dX11_putNumber_38 rfl (lv_at hl 1 rfl) ?_
        refine lv_bipush (v := 48) hx hb dX11_putNumber_39 (by decide) ?_
        refine lv_iload_n hx hb dX11_putNumber_41 rfl (lv_at hl 0 rfl) ?_
        refine lv_bipush (v := 10) hx hb dX11_putNumber_42 (by decide) ?_
        refine xi_irem hx hb (rfl : Int32.toInt x15 = x15.toInt) ((by decide) : Int32.toInt 10 = (10 : Int)) (by decide) dX11_putNumber_44 (fun x44 t44 => ?_)
        refine xi_iadd hx hb ((by decide) : Int32.toInt 48 = (48 : Int)) (rfl : Int32.toInt x44 = x44.toInt) dX11_putNumber_45 (fun x45 t45 => ?_)
        refine x_cv0 (x_runV (b := a) (As := [.int x45]) (rest := []) S (c_X11_puts l E K F G a x45 ha (z_X11_putNumber_1 ((G.1 a 23).toInt) w0)) mv_X11_puts km_X11_227 rfl rfl ⟨Nat.le_of_ble_eq_true rfl, Nat.le_of_ble_eq_true rfl⟩ (rc_13 hK hT ha) hK (fun _ => XP.blind) (fun U hU hW => XP.at hK hz hS hT hU hW) rfl hl.1 (Nat.le_of_ble_eq_true rfl) dX11_putNumber_46 ⟨Nat.le_of_ble_eq_true rfl, Nat.le_of_ble_eq_true rfl⟩) hS ?_
        rintro G46 H locs ⟨hF46, t46⟩ hT hS
        have t46 : ((G46.1 a 23).toInt) = ((G.1 a 23).toInt) + 1 := t46
        exact x_rv hx hb hr hlk hQ (Nat.le_of_ble_eq_true rfl) (Nat.le_of_ble_eq_true rfl) hS dX11_putNumber_49 G46 ⟨(XFr.call XFr.rf hF46 (xm1 0 rfl xm0) (xm1 0 rfl xm0) xm0), (z_X11_putNumber_2 ((G.1 a 23).toInt) ((G46.1 a 23).toInt) t46)⟩ hT
      · refine lv_aload_n hx hb dX11_putNumber_27 rfl (lv_at hl 1 rfl) ?_
        refine lv_bipush (v := 48) hx hb dX11_putNumber_28 (by decide) ?_
        refine lv_iload_n hx hb dX11_putNumber_30 rfl (lv_at hl 0 rfl) ?_
        refine lv_bipush (v := 10) hx hb dX11_putNumber_31 (by decide) ?_
        refine xi_idiv hx hb (rfl : Int32.toInt x15 = x15.toInt) ((by decide) : Int32.toInt 10 = (10 : Int)) (by decide) dX11_putNumber_33 (fun x33 t33 => ?_)
        refine xi_iadd hx hb ((by decide) : Int32.toInt 48 = (48 : Int)) (rfl : Int32.toInt x33 = x33.toInt) dX11_putNumber_34 (fun x34 t34 => ?_)
        refine x_cv0 (x_runV (b := a) (As := [.int x34]) (rest := []) S (c_X11_puts l E K F G a x34 ha (z_X11_putNumber_1 ((G.1 a 23).toInt) w0)) mv_X11_puts km_X11_227 rfl rfl ⟨Nat.le_of_ble_eq_true rfl, Nat.le_of_ble_eq_true rfl⟩ (rc_13 hK hT ha) hK (fun _ => XP.blind) (fun U hU hW => XP.at hK hz hS hT hU hW) rfl hl.1 (Nat.le_of_ble_eq_true rfl) dX11_putNumber_35 ⟨Nat.le_of_ble_eq_true rfl, Nat.le_of_ble_eq_true rfl⟩) hS ?_
        rintro G35 H locs ⟨hF35, t35⟩ hT hS
        have t35 : ((G35.1 a 23).toInt) = ((G.1 a 23).toInt) + 1 := t35
        refine lv_aload_n hx hb dX11_putNumber_38 rfl (lv_at hl 1 rfl) ?_
        refine lv_bipush (v := 48) hx hb dX11_putNumber_39 (by decide) ?_
        refine lv_iload_n hx hb dX11_putNumber_41 rfl (lv_at hl 0 rfl) ?_
        refine lv_bipush (v := 10) hx hb dX11_putNumber_42 (by decide) ?_
        refine xi_irem hx hb (rfl : Int32.toInt x15 = x15.toInt) ((by decide) : Int32.toInt 10 = (10 : Int)) (by decide) dX11_putNumber_44 (fun x44 t44 => ?_)
        refine xi_iadd hx hb ((by decide) : Int32.toInt 48 = (48 : Int)) (rfl : Int32.toInt x44 = x44.toInt) dX11_putNumber_45 (fun x45 t45 => ?_)
        refine x_cv0 (x_runV (b := a) (As := [.int x45]) (rest := []) S (c_X11_puts l E K F G35 a x45 ha (z_X11_putNumber_4 ((G.1 a 23).toInt) ((G35.1 a 23).toInt) w0 t35)) mv_X11_puts km_X11_227 rfl rfl ⟨Nat.le_of_ble_eq_true rfl, Nat.le_of_ble_eq_true rfl⟩ (rc_13 hK hT ha) hK (fun _ => XP.blind) (fun U hU hW => XP.at hK hz hS hT hU hW) rfl hl.1 (Nat.le_of_ble_eq_true rfl) dX11_putNumber_46 ⟨Nat.le_of_ble_eq_true rfl, Nat.le_of_ble_eq_true rfl⟩) hS ?_
        rintro G46 H locs ⟨hF46, t46⟩ hT hS
        have t46 : ((G46.1 a 23).toInt) = ((G35.1 a 23).toInt) + 1 := t46
        exact x_rv hx hb hr hlk hQ (Nat.le_of_ble_eq_true rfl) (Nat.le_of_ble_eq_true rfl) hS dX11_putNumber_49 G46 ⟨(XFr.call (XFr.call XFr.rf hF35 (xm1 0 rfl xm0) (xm1 0 rfl xm0) xm0) hF46 (xm1 0 rfl xm0) (xm1 0 rfl xm0) xm0), (z_X11_putNumber_5 ((G.1 a 23).toInt) ((G35.1 a 23).toInt) ((G46.1 a 23).toInt) t35 t46)⟩ hT
  · refine lv_aload_n hx hb dX11_putNumber_4 rfl (lv_at hl 0 rfl) ?_
    refine lv_bipush (v := 45) hx hb dX11_putNumber_5 (by decide) ?_
    refine x_cv0 (x_runV (b := a) (As := [.int 45]) (rest := []) S (c_X11_puts l E K F G a 45 ha (z_X11_putNumber_1 ((G.1 a 23).toInt) w0)) mv_X11_puts km_X11_227 rfl rfl ⟨Nat.le_of_ble_eq_true rfl, Nat.le_of_ble_eq_true rfl⟩ (rc_13 hK hT ha) hK (fun _ => XP.blind) (fun U hU hW => XP.at hK hz hS hT hU hW) rfl hl.1 (Nat.le_of_ble_eq_true rfl) dX11_putNumber_7 ⟨Nat.le_of_ble_eq_true rfl, Nat.le_of_ble_eq_true rfl⟩) hS ?_
    rintro G7 H locs ⟨hF7, t7⟩ hT hS
    have t7 : ((G7.1 a 23).toInt) = ((G.1 a 23).toInt) + 1 := t7
    refine lv_iload_n hx hb dX11_putNumber_10 rfl (lv_at hl 1 rfl) ?_
    refine xi_zge (tgt := 19) hx hb (rfl : Int32.toInt p0 = p0.toInt) dX11_putNumber_11 (by decide) (fun c11 => ?_) (fun c11 => ?_)
    · refine lv_iload_n hx hb dX11_putNumber_19 rfl (lv_at hl 1 rfl) ?_
      refine lv_istore_n (lv' := [(2, .int p0), (0, .ref a), (1, .int p0)]) hx hb dX11_putNumber_20 rfl hl (by decide) rfl (fun ls hl => ?_)
      refine lv_iload_n hx hb dX11_putNumber_21 rfl (lv_at hl 0 rfl) ?_
      refine lv_bipush (v := 9) hx hb dX11_putNumber_22 (by decide) ?_
      refine xi_cle (tgt := 38) hx hb (rfl : Int32.toInt p0 = p0.toInt) ((by decide) : Int32.toInt 9 = (9 : Int)) dX11_putNumber_24 (by decide) (fun c24 => ?_) (fun c24 => ?_)
      · refine lv_aload_n hx hb dX11_putNumber_38 rfl (lv_at hl 1 rfl) ?_
        refine lv_bipush (v := 48) hx hb dX11_putNumber_39 (by decide) ?_
        refine lv_iload_n hx hb dX11_putNumber_41 rfl (lv_at hl 0 rfl) ?_
        refine lv_bipush (v := 10) hx hb dX11_putNumber_42 (by decide) ?_
        refine xi_irem hx hb (rfl : Int32.toInt p0 = p0.toInt) ((by decide) : Int32.toInt 10 = (10 : Int)) (by decide) dX11_putNumber_44 (fun x44 t44 => ?_)
        refine xi_iadd hx hb ((by decide) : Int32.toInt 48 = (48 : Int)) (rfl : Int32.toInt x44 = x44.toInt) dX11_putNumber_45 (fun x45 t45 => ?_)
        refine x_cv0 (x_runV (b := a) (As := [.int x45]) (rest := []) S (c_X11_puts l E K F G7 a x45 ha (z_X11_putNumber_4 ((G.1 a 23).toInt) ((G7.1 a 23).toInt) w0 t7)) mv_X11_puts km_X11_227 rfl rfl ⟨Nat.le_of_ble_eq_true rfl, Nat.le_of_ble_eq_true rfl⟩ (rc_13 hK hT ha) hK (fun _ => XP.blind) (fun U hU hW => XP.at hK hz hS hT hU hW) rfl hl.1 (Nat.le_of_ble_eq_true rfl) dX11_putNumber_46 ⟨Nat.le_of_ble_eq_true rfl, Nat.le_of_ble_eq_true rfl⟩) hS ?_
        rintro G46 H locs ⟨hF46, t46⟩ hT hS
        have t46 : ((G46.1 a 23).toInt) = ((G7.1 a 23).toInt) + 1 := t46
        exact x_rv hx hb hr hlk hQ (Nat.le_of_ble_eq_true rfl) (Nat.le_of_ble_eq_true rfl) hS dX11_putNumber_49 G46 ⟨(XFr.call (XFr.call XFr.rf hF7 (xm1 0 rfl xm0) (xm1 0 rfl xm0) xm0) hF46 (xm1 0 rfl xm0) (xm1 0 rfl xm0) xm0), (z_X11_putNumber_13 ((G.1 a 23).toInt) ((G46.1 a 23).toInt) ((G7.1 a 23).toInt) t7 t46)⟩ hT
      · refine lv_aload_n hx hb dX11_putNumber_27 rfl (lv_at hl 1 rfl) ?_
        refine lv_bipush (v := 48) hx hb dX11_putNumber_28 (by decide) ?_
        refine lv_iload_n hx hb dX11_putNumber_30 rfl (lv_at hl 0 rfl) ?_
        refine lv_bipush (v := 10) hx hb dX11_putNumber_31 (by decide) ?_
        refine xi_idiv hx hb (rfl : Int32.toInt p0 = p0.toInt) ((by decide) : Int32.toInt 10 = (10 : Int)) (by decide) dX11_putNumber_33 (fun x33 t33 => ?_)
        refine xi_iadd hx hb ((by decide) : Int32.toInt 48 = (48 : Int)) (rfl : Int32.toInt x33 = x33.toInt) dX11_putNumber_34 (fun x34 t34 => ?_)
        refine x_cv0 (x_runV (b := a) (As := [.int x34]) (rest := []) S (c_X11_puts l E K F G7 a x34 ha (z_X11_putNumber_4 ((G.1 a 23).toInt) ((G7.1 a 23).toInt) w0 t7)) mv_X11_puts km_X11_227 rfl rfl ⟨Nat.le_of_ble_eq_true rfl, Nat.le_of_ble_eq_true rfl⟩ (rc_13 hK hT ha) hK (fun _ => XP.blind) (fun U hU hW => XP.at hK hz hS hT hU hW) rfl hl.1 (Nat.le_of_ble_eq_true rfl) dX11_putNumber_35 ⟨Nat.le_of_ble_eq_true rfl, Nat.le_of_ble_eq_true rfl⟩) hS ?_
        rintro G35 H locs ⟨hF35, t35⟩ hT hS
        have t35 : ((G35.1 a 23).toInt) = ((G7.1 a 23).toInt) + 1 := t35
        refine lv_aload_n hx hb dX11_putNumber_38 rfl (lv_at hl 1 rfl) ?_
        refine lv_bipush (v := 48) hx hb dX11_putNumber_39 (by decide) ?_
        refine lv_iload_n hx hb dX11_putNumber_41 rfl (lv_at hl 0 rfl) ?_
        refine lv_bipush (v := 10) hx hb dX11_putNumber_42 (by decide) ?_
        refine xi_irem hx hb (rfl : Int32.toInt p0 = p0.toInt) ((by decide) : Int32.toInt 10 = (10 : Int)) (by decide) dX11_putNumber_44 (fun x44 t44 => ?_)
        refine xi_iadd hx hb ((by decide) : Int32.toInt 48 = (48 : Int)) (rfl : Int32.toInt x44 = x44.toInt) dX11_putNumber_45 (fun x45 t45 => ?_)
        refine x_cv0 (x_runV (b := a) (As := [.int x45]) (rest := []) S (c_X11_puts l E K F G35 a x45 ha (z_X11_putNumber_15 ((G.1 a 23).toInt) ((G35.1 a 23).toInt) ((G7.1 a 23).toInt) w0 t7 t35)) mv_X11_puts km_X11_227 rfl rfl ⟨Nat.le_of_ble_eq_true rfl, Nat.le_of_ble_eq_true rfl⟩ (rc_13 hK hT ha) hK (fun _ => XP.blind) (fun U hU hW => XP.at hK hz hS hT hU hW) rfl hl.1 (Nat.le_of_ble_eq_true rfl) dX11_putNumber_46 ⟨Nat.le_of_ble_eq_true rfl, Nat.le_of_ble_eq_true rfl⟩) hS ?_
        rintro G46 H locs ⟨hF46, t46⟩ hT hS
        have t46 : ((G46.1 a 23).toInt) = ((G35.1 a 23).toInt) + 1 := t46
        exact x_rv hx hb hr hlk hQ (Nat.le_of_ble_eq_true rfl) (Nat.le_of_ble_eq_true rfl) hS dX11_putNumber_49 G46 ⟨(XFr.call (XFr.call (XFr.call XFr.rf hF7 (xm1 0 rfl xm0) (xm1 0 rfl xm0) xm0) hF35 (xm1 0 rfl xm0) (xm1 0 rfl xm0) xm0) hF46 (xm1 0 rfl xm0) (xm1 0 rfl xm0) xm0), (z_X11_putNumber_16 ((G.1 a 23).toInt) ((G35.1 a 23).toInt) ((G46.1 a 23).toInt) ((G7.1 a 23).toInt) t7 t35 t46)⟩ hT
    · refine lv_iload_n hx hb dX11_putNumber_14 rfl (lv_at hl 1 rfl) ?_
      refine xi_ineg hx hb (rfl : Int32.toInt p0 = p0.toInt) dX11_putNumber_15 (fun x15 t15 => ?_)
      refine lv_goto (tgt := 20) hx hb dX11_putNumber_16 (by decide) ?_
      refine lv_istore_n (lv' := [(2, .int x15), (0, .ref a), (1, .int p0)]) hx hb dX11_putNumber_20 rfl hl (by decide) rfl (fun ls hl => ?_)
      refine lv_iload_n hx hb dX11_putNumber_21 rfl (lv_at hl 0 rfl) ?_
      refine lv_bipush (v := 9) hx hb dX11_putNumber_22 (by decide) ?_
      refine xi_cle (tgt := 38) hx hb (rfl : Int32.toInt x15 = x15.toInt) ((by decide) : Int32.toInt 9 = (9 : Int)) dX11_putNumber_24 (by decide) (fun c24 => ?_) (fun c24 => ?_)
      · refine lv_aload_n hx hb dX11_putNumber_38 rfl (lv_at hl 1 rfl) ?_
        refine lv_bipush (v := 48) hx hb dX11_putNumber_39 (by decide) ?_
        refine lv_iload_n hx hb dX11_putNumber_41 rfl (lv_at hl 0 rfl) ?_
        refine lv_bipush (v := 10) hx hb dX11_putNumber_42 (by decide) ?_
        refine xi_irem hx hb (rfl : Int32.toInt x15 = x15.toInt) ((by decide) : Int32.toInt 10 = (10 : Int)) (by decide) dX11_putNumber_44 (fun x44 t44 => ?_)
        refine xi_iadd hx hb ((by decide) : Int32.toInt 48 = (48 : Int)) (rfl : Int32.toInt x44 = x44.toInt) dX11_putNumber_45 (fun x45 t45 => ?_)
        refine x_cv0 (x_runV (b := a) (As := [.int x45]) (rest := []) S (c_X11_puts l E K F G7 a x45 ha (z_X11_putNumber_4 ((G.1 a 23).toInt) ((G7.1 a 23).toInt) w0 t7)) mv_X11_puts km_X11_227 rfl rfl ⟨Nat.le_of_ble_eq_true rfl, Nat.le_of_ble_eq_true rfl⟩ (rc_13 hK hT ha) hK (fun _ => XP.blind) (fun U hU hW => XP.at hK hz hS hT hU hW) rfl hl.1 (Nat.le_of_ble_eq_true rfl) dX11_putNumber_46 ⟨Nat.le_of_ble_eq_true rfl, Nat.le_of_ble_eq_true rfl⟩) hS ?_
        rintro G46 H locs ⟨hF46, t46⟩ hT hS
        have t46 : ((G46.1 a 23).toInt) = ((G7.1 a 23).toInt) + 1 := t46
        exact x_rv hx hb hr hlk hQ (Nat.le_of_ble_eq_true rfl) (Nat.le_of_ble_eq_true rfl) hS dX11_putNumber_49 G46 ⟨(XFr.call (XFr.call XFr.rf hF7 (xm1 0 rfl xm0) (xm1 0 rfl xm0) xm0) hF46 (xm1 0 rfl xm0) (xm1 0 rfl xm0) xm0), (z_X11_putNumber_13 ((G.1 a 23).toInt) ((G46.1 a 23).toInt) ((G7.1 a 23).toInt) t7 t46)⟩ hT
      · refine lv_aload_n hx hb dX11_putNumber_27 rfl (lv_at hl 1 rfl) ?_
        refine lv_bipush (v := 48) hx hb dX11_putNumber_28 (by decide) ?_
        refine lv_iload_n hx hb dX11_putNumber_30 rfl (lv_at hl 0 rfl) ?_
        refine lv_bipush (v := 10) hx hb dX11_putNumber_31 (by decide) ?_
        refine xi_idiv hx hb (rfl : Int32.toInt x15 = x15.toInt) ((by decide) : Int32.toInt 10 = (10 : Int)) (by decide) dX11_putNumber_33 (fun x33 t33 => ?_)
        refine xi_iadd hx hb ((by decide) : Int32.toInt 48 = (48 : Int)) (rfl : Int32.toInt x33 = x33.toInt) dX11_putNumber_34 (fun x34 t34 => ?_)
        refine x_cv0 (x_runV (b := a) (As := [.int x34]) (rest := []) S (c_X11_puts l E K F G7 a x34 ha (z_X11_putNumber_4 ((G.1 a 23).toInt) ((G7.1 a 23).toInt) w0 t7)) mv_X11_puts km_X11_227 rfl rfl ⟨Nat.le_of_ble_eq_true rfl, Nat.le_of_ble_eq_true rfl⟩ (rc_13 hK hT ha) hK (fun _ => XP.blind) (fun U hU hW => XP.at hK hz hS hT hU hW) rfl hl.1 (Nat.le_of_ble_eq_true rfl) dX11_putNumber_35 ⟨Nat.le_of_ble_eq_true rfl, Nat.le_of_ble_eq_true rfl⟩) hS ?_
        rintro G35 H locs ⟨hF35, t35⟩ hT hS
        have t35 : ((G35.1 a 23).toInt) = ((G7.1 a 23).toInt) + 1 := t35
        refine lv_aload_n hx hb dX11_putNumber_38 rfl (lv_at hl 1 rfl) ?_
        refine lv_bipush (v := 48) hx hb dX11_putNumber_39 (by decide) ?_
        refine lv_iload_n hx hb dX11_putNumber_41 rfl (lv_at hl 0 rfl) ?_
        refine lv_bipush (v := 10) hx hb dX11_putNumber_42 (by decide) ?_
        refine xi_irem hx hb (rfl : Int32.toInt x15 = x15.toInt) ((by decide) : Int32.toInt 10 = (10 : Int)) (by decide) dX11_putNumber_44 (fun x44 t44 => ?_)
        refine xi_iadd hx hb ((by decide) : Int32.toInt 48 = (48 : Int)) (rfl : Int32.toInt x44 = x44.toInt) dX11_putNumber_45 (fun x45 t45 => ?_)
        refine x_cv0 (x_runV (b := a) (As := [.int x45]) (rest := []) S (c_X11_puts l E K F G35 a x45 ha (z_X11_putNumber_15 ((G.1 a 23).toInt) ((G35.1 a 23).toInt) ((G7.1 a 23).toInt) w0 t7 t35)) mv_X11_puts km_X11_227 rfl rfl ⟨Nat.le_of_ble_eq_true rfl, Nat.le_of_ble_eq_true rfl⟩ (rc_13 hK hT ha) hK (fun _ => XP.blind) (fun U hU hW => XP.at hK hz hS hT hU hW) rfl hl.1 (Nat.le_of_ble_eq_true rfl) dX11_putNumber_46 ⟨Nat.le_of_ble_eq_true rfl, Nat.le_of_ble_eq_true rfl⟩) hS ?_
        rintro G46 H locs ⟨hF46, t46⟩ hT hS
        have t46 : ((G46.1 a 23).toInt) = ((G35.1 a 23).toInt) + 1 := t46
        exact x_rv hx hb hr hlk hQ (Nat.le_of_ble_eq_true rfl) (Nat.le_of_ble_eq_true rfl) hS dX11_putNumber_49 G46 ⟨(XFr.call (XFr.call (XFr.call XFr.rf hF7 (xm1 0 rfl xm0) (xm1 0 rfl xm0) xm0) hF35 (xm1 0 rfl xm0) (xm1 0 rfl xm0) xm0) hF46 (xm1 0 rfl xm0) (xm1 0 rfl xm0) xm0), (z_X11_putNumber_16 ((G.1 a 23).toInt) ((G35.1 a 23).toInt) ((G46.1 a 23).toInt) ((G7.1 a 23).toInt) t7 t35 t46)⟩ hT

theorem z_X11_wordOf_1 (a0 : Int) : (a0 < 0 ∨ 4 < a0) ∨ (a0 = 0) ∨ (a0 = 1) ∨ (a0 = 2) ∨ (a0 = 3) ∨ (a0 = 4) := by omega
abbrev rm_X11_wordOf : Room := { frames := 0, cells := 0, slots := 0, locals := 0 }
set_option maxHeartbeats 4000000 in
set_option maxRecDepth 100000 in
theorem c_X11_wordOf (l : Launch) (E : XE) (K : Nat → Nat) (F : Nat → Nat → Nat) (G : XG) (h0 : Heap) (a : Nat) (p0 : Int32) (ha : K a = 13) : Met l yX11_wordOf (xw yX11_wordOf cX11_wordOf 2 (some (.array .char))) rm_X11_wordOf (va_Pc [.ref a, .int p0] (XPh E K F G h0)) (XQ E (fun v (u : Unit) => ∃ r n : Nat, v = .ref r ∧ XWd K r n ∧ ((n : Nat) : Int) ≤ 6) (fun _ H => H = h0)) 0 0 (xA E) := by
  refine x_enter (by decide) (Nat.le_of_ble_eq_true rfl) ?_
  intro p e s m args below meth c Q S hr hlk hnm hQ hP ls hl
  obtain ⟨⟨hz, hK, hT⟩, hh⟩ := hP
  obtain ⟨hx, hb, -, -, -⟩ := id S
  have hS : va_S (xA E) s.heap s.heap [] := va_S.rf
  have hl : lv_has ls 2 [(0, .ref a), (1, .int p0)] := hl
  refine lv_iload_n hx hb dX11_wordOf_0 rfl (lv_at hl 1 rfl) ?_
  rcases ((z_X11_wordOf_1 p0.toInt) : (p0.toInt < 0 ∨ 4 < p0.toInt) ∨ (p0.toInt = 0) ∨ (p0.toInt = 1) ∨ (p0.toInt = 2) ∨ (p0.toInt = 3) ∨ (p0.toInt = 4)) with c1 | c1 | c1 | c1 | c1 | c1
  · refine lv_tableOut (tgt := 61) hx hb dX11_wordOf_1 c1 (by decide) ?_
    refine lv_aload_n hx hb dX11_wordOf_61 rfl (lv_at hl 0 rfl) ?_
    obtain ⟨hk62, hj62⟩ := fkX11_30 hT ha
    refine gX11_30 S hK hT ha kf_X11_88 dX11_wordOf_62 (fun _ _ => ?_)
    exact x_ra hx hb hr (by first | exact Or.inl ⟨_, rfl⟩ | exact Or.inr ⟨_, rfl⟩) (by first | exact Or.inl rfl | exact Or.inr ⟨_, rfl⟩) hlk hQ (Nat.le_of_ble_eq_true rfl) (Nat.le_of_ble_eq_true rfl) hS dX11_wordOf_65 () ⟨_, _, rfl, XWd.k47 hk62, by decide⟩ hh
  · refine lv_tableIn (off := 35) (tgt := 36) hx hb dX11_wordOf_1 (by rw [c1]; decide) (by rw [c1]; decide) (by rw [c1]; rfl) (by decide) ?_
    refine lv_aload_n hx hb dX11_wordOf_36 rfl (lv_at hl 0 rfl) ?_
    obtain ⟨hk37, hj37⟩ := fkX11_25 hT ha
    refine gX11_25 S hK hT ha kf_X11_73 dX11_wordOf_37 (fun _ _ => ?_)
    exact x_ra hx hb hr (by first | exact Or.inl ⟨_, rfl⟩ | exact Or.inr ⟨_, rfl⟩) (by first | exact Or.inl rfl | exact Or.inr ⟨_, rfl⟩) hlk hQ (Nat.le_of_ble_eq_true rfl) (Nat.le_of_ble_eq_true rfl) hS dX11_wordOf_40 () ⟨_, _, rfl, XWd.k49 hk37, by decide⟩ hh
  · refine lv_tableIn (off := 40) (tgt := 41) hx hb dX11_wordOf_1 (by rw [c1]; decide) (by rw [c1]; decide) (by rw [c1]; rfl) (by decide) ?_
    refine lv_aload_n hx hb dX11_wordOf_41 rfl (lv_at hl 0 rfl) ?_
    obtain ⟨hk42, hj42⟩ := fkX11_26 hT ha
    refine gX11_26 S hK hT ha kf_X11_76 dX11_wordOf_42 (fun _ _ => ?_)
    exact x_ra hx hb hr (by first | exact Or.inl ⟨_, rfl⟩ | exact Or.inr ⟨_, rfl⟩) (by first | exact Or.inl rfl | exact Or.inr ⟨_, rfl⟩) hlk hQ (Nat.le_of_ble_eq_true rfl) (Nat.le_of_ble_eq_true rfl) hS dX11_wordOf_45 () ⟨_, _, rfl, XWd.k49 hk42, by decide⟩ hh
  · refine lv_tableIn (off := 45) (tgt := 46) hx hb dX11_wordOf_1 (by rw [c1]; decide) (by rw [c1]; decide) (by rw [c1]; rfl) (by decide) ?_
    refine lv_aload_n hx hb dX11_wordOf_46 rfl (lv_at hl 0 rfl) ?_
    obtain ⟨hk47, hj47⟩ := fkX11_27 hT ha
    refine gX11_27 S hK hT ha kf_X11_79 dX11_wordOf_47 (fun _ _ => ?_)
    exact x_ra hx hb hr (by first | exact Or.inl ⟨_, rfl⟩ | exact Or.inr ⟨_, rfl⟩) (by first | exact Or.inl rfl | exact Or.inr ⟨_, rfl⟩) hlk hQ (Nat.le_of_ble_eq_true rfl) (Nat.le_of_ble_eq_true rfl) hS dX11_wordOf_50 () ⟨_, _, rfl, XWd.k48 hk47, by decide⟩ hh
  · refine lv_tableIn (off := 50) (tgt := 51) hx hb dX11_wordOf_1 (by rw [c1]; decide) (by rw [c1]; decide) (by rw [c1]; rfl) (by decide) ?_
    refine lv_aload_n hx hb dX11_wordOf_51 rfl (lv_at hl 0 rfl) ?_
    obtain ⟨hk52, hj52⟩ := fkX11_28 hT ha
    refine gX11_28 S hK hT ha kf_X11_82 dX11_wordOf_52 (fun _ _ => ?_)
    exact x_ra hx hb hr (by first | exact Or.inl ⟨_, rfl⟩ | exact Or.inr ⟨_, rfl⟩) (by first | exact Or.inl rfl | exact Or.inr ⟨_, rfl⟩) hlk hQ (Nat.le_of_ble_eq_true rfl) (Nat.le_of_ble_eq_true rfl) hS dX11_wordOf_55 () ⟨_, _, rfl, XWd.k46 hk52, by decide⟩ hh
  · refine lv_tableIn (off := 55) (tgt := 56) hx hb dX11_wordOf_1 (by rw [c1]; decide) (by rw [c1]; decide) (by rw [c1]; rfl) (by decide) ?_
    refine lv_aload_n hx hb dX11_wordOf_56 rfl (lv_at hl 0 rfl) ?_
    obtain ⟨hk57, hj57⟩ := fkX11_29 hT ha
    refine gX11_29 S hK hT ha kf_X11_85 dX11_wordOf_57 (fun _ _ => ?_)
    exact x_ra hx hb hr (by first | exact Or.inl ⟨_, rfl⟩ | exact Or.inr ⟨_, rfl⟩) (by first | exact Or.inl rfl | exact Or.inr ⟨_, rfl⟩) hlk hQ (Nat.le_of_ble_eq_true rfl) (Nat.le_of_ble_eq_true rfl) hS dX11_wordOf_60 () ⟨_, _, rfl, XWd.k48 hk57, by decide⟩ hh

theorem z_X11_putWord_1 (a0 : Int) (h0 : -2147483648 ≤ a0 ∧ a0 < 2147483648) : ¬ (2147483648 - a0 < ((0 : Nat) : Int)) := by omega
theorem z_X11_putWord_2 (a0 : Int) (a1 : Int) (a2 : Nat) (a3 : Int) (a4 : Int) (h0 : a4 = a3 + a0) (h1 : 0 ≤ a0 ∧ a0 ≤ ((a2 : Nat) : Int)) (h2 : a1 = ((a2 : Nat) : Int)) (h3 : a1 ≤ a0) : a4 = a3 + ((a2 : Nat) : Int) := by omega
theorem z_X11_putWord_3 (a0 : Int) (a1 : Int) (a2 : Nat) (h0 : 0 ≤ a0 ∧ a0 ≤ ((a2 : Nat) : Int)) (h1 : a1 = ((a2 : Nat) : Int)) (h2 : ¬ (a1 ≤ a0)) : 0 ≤ a0 ∧ a0 < ((a2 : Nat) : Int) := by omega
theorem z_X11_putWord_4 (a0 : Int) (a1 : Int) (a2 : Nat) (a3 : Int) (a4 : Int) (h0 : 0 ≤ a3 ∧ a3 + ((a2 : Nat) : Int) ≤ 24) (h1 : a4 = a3 + a0) (h2 : 0 ≤ a0 ∧ a0 ≤ ((a2 : Nat) : Int)) (h3 : a1 = ((a2 : Nat) : Int)) (h4 : ¬ (a1 ≤ a0)) : 0 ≤ a4 ∧ a4 ≤ 23 := by omega
theorem z_X11_putWord_5 (a0 : Int) (a1 : Int) (a2 : Nat) (a3 : Int) (h0 : 0 ≤ a3 ∧ a3 + ((a2 : Nat) : Int) ≤ 24) (h1 : 0 ≤ a0 ∧ a0 ≤ ((a2 : Nat) : Int)) (h2 : a1 = (a0 + 1) ∨ (a0 + 1) < -2147483648 ∨ 2147483648 ≤ (a0 + 1)) : a1 = (a0 + 1) := by omega
theorem z_X11_putWord_6 (a0 : Int) (a1 : Int) (a2 : Int) (a3 : Int) (h0 : a3 = a1 + a0) (h1 : a2 = a3 + 1) : a2 = a1 + (a0 + 1) := by omega
theorem z_X11_putWord_7 (a0 : Int) (a1 : Int) (a2 : Nat) (h0 : 0 ≤ a0 ∧ a0 ≤ ((a2 : Nat) : Int)) (h1 : a1 = ((a2 : Nat) : Int)) (h2 : ¬ (a1 ≤ a0)) : 0 ≤ (a0 + 1) ∧ (a0 + 1) ≤ ((a2 : Nat) : Int) := by omega
theorem z_X11_putWord_8 (a0 : Int) (a1 : Nat) (h0 : 0 ≤ a0 ∧ a0 ≤ ((a1 : Nat) : Int)) : (0 : Int) ≤ (a0 + 1) := by omega
theorem z_X11_putWord_9 (a0 : Int) (a1 : Nat) (h0 : 2147483648 - a0 < ((a1 + 1 : Nat) : Int)) : 2147483648 - (a0 + 1) < ((a1 : Nat) : Int) := by omega
theorem z_X11_putWord_10 (a0 : Int) : a0 = a0 + (0 : Int) := by omega
theorem z_X11_putWord_11 (a0 : Nat) : 0 ≤ (0 : Int) ∧ (0 : Int) ≤ ((a0 : Nat) : Int) := by omega
abbrev rm_X11_putWord : Room := { frames := 1, cells := 0, slots := 0, locals := 21 }
set_option maxHeartbeats 4000000 in
set_option maxRecDepth 100000 in
theorem c_X11_putWord (l : Launch) (E : XE) (K : Nat → Nat) (F : Nat → Nat → Nat) (G : XG) (a : Nat) (p0 : Nat) (n0 : Nat) (ha : K a = 13) (hp0 : XWd K p0 n0) (w0 : 0 ≤ ((G.1 a 23).toInt) ∧ ((G.1 a 23).toInt) + (((n0) : Nat) : Int) ≤ 24) : Met l yX11_putWord (xw yX11_putWord cX11_putWord 3 none) rm_X11_putWord (va_Pc [.ref a, .ref p0] (XP E K F G)) (XQv E (fun (u : XG) => XFr [(a, 23)] [F a 22] [] G u ∧ (((u.1 a 23).toInt) = ((G.1 a 23).toInt) + (((n0) : Nat) : Int))) (fun u H => TW E K F u H)) 0 0 (xA E) := by
  refine x_enter (by decide) (Nat.le_of_ble_eq_true rfl) ?_
  intro p e s m args below meth c Q S hr hlk hnm hQ hP ls hl
  obtain ⟨hz, hK, hT⟩ := hP
  obtain ⟨hx, hb, -, -, -⟩ := id S
  obtain ⟨H, hT, hS, hgo⟩ : ∃ H : Heap, TW E K F G H ∧ va_S (xA E) s.heap H [] ∧ H = s.heap := ⟨_, hT, va_S.rf, rfl⟩
  rw [← hgo]
  have hl : lv_has ls 3 [(0, .ref a), (1, .ref p0)] := hl
  obtain ⟨hk9999, hj9999⟩ := fkX11_22 hT ha
  refine lv_iconst (v := 0) hx hb dX11_putWord_0 (by decide) ?_
  refine lv_istore_n (lv' := [(2, .int 0), (0, .ref a), (1, .ref p0)]) hx hb dX11_putWord_1 rfl hl (by decide) rfl (fun ls hl => ?_)
  have L2 : ∀ (N2 : Nat) (l2_2 : Int32) (G_2 : XG) (H : Heap) (locs : List Loc) (ls : Array Slot), XFr [(a, 23)] [F a 22] [] G G_2 → ((G_2.1 a 23).toInt) = ((G.1 a 23).toInt) + l2_2.toInt → 0 ≤ l2_2.toInt ∧ l2_2.toInt ≤ (((n0) : Nat) : Int) → (0 : Int) ≤ l2_2.toInt → 2147483648 - l2_2.toInt < ((N2 : Nat) : Int) → TW E K F G_2 H → va_S (xA E) s.heap H locs → lv_has ls 3 [(0, .ref a), (1, .ref p0), (2, .int l2_2)] → W p l e rm_X11_putWord s m args below meth c H locs 0 0 Q (F0 m 2 ls []) := by
    intro N2
    induction N2 with
    | zero =>
      intro l2_2 G_2 H locs ls hF_2 I2_0 I2_1 I2_2 hm2
      exact absurd hm2 (z_X11_putWord_1 l2_2.toInt (xr l2_2))
    | succ N2 ih2 =>
      intro l2_2 G_2 H locs ls hF_2 I2_0 I2_1 I2_2 hm2 hT hS hl
      refine lv_iload_n hx hb dX11_putWord_2 rfl (lv_at hl 2 rfl) ?_
      refine lv_aload_n hx hb dX11_putWord_3 rfl (lv_at hl 1 rfl) ?_
      refine len_wd S hK hT hp0 dX11_putWord_4 (fun x4 t4 => ?_)
      refine xi_cge (tgt := 21) hx hb (rfl : Int32.toInt l2_2 = l2_2.toInt) (rfl : Int32.toInt x4 = x4.toInt) dX11_putWord_5 (by decide) (fun c5 => ?_) (fun c5 => ?_)
      · exact x_rv hx hb hr hlk hQ (Nat.le_of_ble_eq_true rfl) (Nat.le_of_ble_eq_true rfl) hS dX11_putWord_21 G_2 ⟨(XFr.call XFr.rf hF_2 (xm1 0 rfl xm0) (xm1 0 rfl xm0) xm0), (z_X11_putWord_2 l2_2.toInt x4.toInt n0 ((G.1 a 23).toInt) ((G_2.1 a 23).toInt) I2_0 I2_1 t4 c5)⟩ hT
      · refine lv_aload_n hx hb dX11_putWord_8 rfl (lv_at hl 0 rfl) ?_
        refine lv_aload_n hx hb dX11_putWord_9 rfl (lv_at hl 1 rfl) ?_
        refine lv_iload_n hx hb dX11_putWord_10 rfl (lv_at hl 2 rfl) ?_
        refine ald_wd S hK hT hp0 (z_X11_putWord_3 l2_2.toInt x4.toInt n0 I2_1 t4 c5) dX11_putWord_11 (fun x11 hv11 o11 => ?_)
        refine x_cv0 (x_runV (b := a) (As := [.int x11]) (rest := []) S (c_X11_puts l E K F G_2 a x11 ha (z_X11_putWord_4 l2_2.toInt x4.toInt n0 ((G.1 a 23).toInt) ((G_2.1 a 23).toInt) w0 I2_0 I2_1 t4 c5)) mv_X11_puts km_X11_227 rfl rfl ⟨Nat.le_of_ble_eq_true rfl, Nat.le_of_ble_eq_true rfl⟩ (rc_13 hK hT ha) hK (fun _ => XP.blind) (fun U hU hW => XP.at hK hz hS hT hU hW) rfl hl.1 (Nat.le_of_ble_eq_true rfl) dX11_putWord_12 ⟨Nat.le_of_ble_eq_true rfl, Nat.le_of_ble_eq_true rfl⟩) hS ?_
        rintro G12 H locs ⟨hF12, t12⟩ hT hS
        have t12 : ((G12.1 a 23).toInt) = ((G_2.1 a 23).toInt) + 1 := t12
        refine xi_iinc (n := 1) (lv' := fun z9 => [(2, .int z9), (0, .ref a), (1, .ref p0)]) (k := 2) hx hb (rfl : Int32.toInt l2_2 = l2_2.toInt) (by decide) dX11_putWord_15 hl rfl (by decide) (fun _ => rfl) (fun x15 ls t15 hl => ?_)
        have e15 : x15.toInt = (l2_2.toInt + 1) := (z_X11_putWord_5 l2_2.toInt x15.toInt n0 ((G.1 a 23).toInt) w0 I2_1 t15)
        have hl : lv_has ls 3 [(2, .int x15), (0, .ref a), (1, .ref p0)] := hl
        refine lv_goto (tgt := 2) hx hb dX11_putWord_18 (by decide) ?_
        exact ih2 x15 G12 _ _ _ (XFr.call (XFr.call XFr.rf hF_2 (xm1 0 rfl xm0) (xm1 0 rfl xm0) xm0) hF12 (xm1 0 rfl xm0) (xm1 0 rfl xm0) xm0) (by rw [(e15 : Int32.toInt x15 = (l2_2.toInt + 1))] <;> exact (z_X11_putWord_6 l2_2.toInt ((G.1 a 23).toInt) ((G12.1 a 23).toInt) ((G_2.1 a 23).toInt) I2_0 t12)) (by rw [(e15 : Int32.toInt x15 = (l2_2.toInt + 1))] <;> exact (z_X11_putWord_7 l2_2.toInt x4.toInt n0 I2_1 t4 c5)) (by rw [(e15 : Int32.toInt x15 = (l2_2.toInt + 1))] <;> exact (z_X11_putWord_8 l2_2.toInt n0 I2_1)) (by rw [(e15 : Int32.toInt x15 = (l2_2.toInt + 1))] <;> exact (z_X11_putWord_9 l2_2.toInt N2 hm2)) hT hS (lv_sub hl [1, 2, 0] rfl)
  exact L2 4294967297 0 G _ _ _ XFr.rf (z_X11_putWord_10 ((G.1 a 23).toInt)) (z_X11_putWord_11 n0) (by decide) (by decide) hT hS (lv_sub hl [1, 2, 0] rfl)

theorem z_X11_failed_1 (a0 : Int) (a1 : Int) (a2 : Int) (h0 : a0 = -2147483648 ∧ a1 = -2147483648 ∧ a2 = 0) : 0 ≤ a2 ∧ a2 + 4 ≤ 24 := by omega
theorem z_X11_failed_2 (a0 : Int) (a1 : Int) (a2 : Int) (a3 : Int) (h0 : a0 = -2147483648 ∧ a1 = -2147483648 ∧ a2 = 0) (h1 : a3 = a2 + 4) : 0 ≤ a3 ∧ a3 ≤ 23 := by omega
theorem z_X11_failed_3 (a0 : Int) (a1 : Int) (a2 : Int) (a3 : Int) (a4 : Int) (h0 : a0 = -2147483648 ∧ a1 = -2147483648 ∧ a2 = 0) (h1 : a3 = a2 + 4) (h2 : a4 = a3 + 1) : 0 ≤ a4 ∧ a4 ≤ 20 := by omega
theorem z_X11_failed_4 (a0 : Int) (h0 : 0 ≤ a0 ∧ a0 ≤ 11) : -99 ≤ a0 ∧ a0 ≤ 99 := by omega
theorem z_X11_failed_5 (a0 : Int) (a1 : Int) (a2 : Int) (a3 : Int) (a4 : Int) (a5 : Int) (h0 : a0 = -2147483648 ∧ a1 = -2147483648 ∧ a2 = 0) (h1 : a3 = a2 + 4) (h2 : a4 = a3 + 1) (h3 : a4 + 1 ≤ a5 ∧ a5 ≤ a4 + 3) : 0 ≤ a5 ∧ a5 ≤ 23 := by omega
theorem z_X11_failed_7 (a0 : Nat) (a1 : Int) (a2 : Int) (a3 : Int) (a4 : Int) (a5 : Int) (a6 : Int) (a7 : Int) (h0 : a1 = -2147483648 ∧ a2 = -2147483648 ∧ a3 = 0) (h1 : a4 = a3 + 4) (h2 : a5 = a4 + 1) (h3 : a5 + 1 ≤ a6 ∧ a6 ≤ a5 + 3) (h4 : a7 = a6 + 1) (h5 : ((a0 : Nat) : Int) ≤ 6) : 0 ≤ a7 ∧ a7 + ((a0 : Nat) : Int) ≤ 24 := by omega
theorem z_X11_failed_8 (a0 : Nat) (a1 : Int) (a2 : Int) (a3 : Int) (a4 : Int) (a5 : Int) (a6 : Int) (a7 : Int) (a8 : Int) (h0 : a1 = -2147483648 ∧ a2 = -2147483648 ∧ a3 = 0) (h1 : a4 = a3 + 4) (h2 : a5 = a4 + 1) (h3 : a5 + 1 ≤ a6 ∧ a6 ≤ a5 + 3) (h4 : a7 = a6 + 1) (h5 : ((a0 : Nat) : Int) ≤ 6) (h6 : a8 = a7 + ((a0 : Nat) : Int)) : 0 ≤ a8 ∧ a8 ≤ 23 := by omega
theorem z_X11_failed_9 (a0 : Nat) (a1 : Int) (a2 : Int) (a3 : Int) (a4 : Int) (a5 : Int) (a6 : Int) (a7 : Int) (a8 : Int) (a9 : Int) (h0 : a1 = -2147483648 ∧ a2 = -2147483648 ∧ a3 = 0) (h1 : a4 = a3 + 4) (h2 : a5 = a4 + 1) (h3 : a5 + 1 ≤ a6 ∧ a6 ≤ a5 + 3) (h4 : a7 = a6 + 1) (h5 : ((a0 : Nat) : Int) ≤ 6) (h6 : a8 = a7 + ((a0 : Nat) : Int)) (h7 : a9 = a8 + 1) : 0 ≤ a9 ∧ a9 ≤ 20 := by omega
theorem z_X11_failed_11 (a0 : Int) (a1 : Int) (a2 : Nat) (a3 : Int) (a4 : Int) (a5 : Int) (a6 : Int) (a7 : Int) (a8 : Int) (a9 : Int) (a10 : Int) (a11 : Int) (a12 : Int) (h0 : a3 = -2147483648 ∧ a4 = -2147483648 ∧ a5 = 0) (h1 : a6 = a5 + 4) (h2 : a7 = a6 + 1) (h3 : a7 + 1 ≤ a8 ∧ a8 ≤ a7 + 3) (h4 : a9 = a8 + 1) (h5 : 3 ≤ ((a2 : Nat) : Int) ∧ ((a2 : Nat) : Int) ≤ 7) (h6 : a10 = a9 + ((a2 : Nat) : Int)) (h7 : a11 = a10 + 1) (h8 : a11 + 1 ≤ a12 ∧ a12 ≤ a11 + 3) : a0 = a0 ∧ a1 = a1 ∧ 0 ≤ a12 ∧ a12 ≤ 24 := by omega
abbrev rm_X11_failed : Room := { frames := 2, cells := 0, slots := 0, locals := 43 }
set_option maxHeartbeats 4000000 in
set_option maxRecDepth 100000 in
theorem c_X11_failed (l : Launch) (E : XE) (K : Nat → Nat) (F : Nat → Nat → Nat) (G : XG) (a : Nat) (p0 : Int32) (p1 : Int32) (ha : K a = 13) (e0 : 0 ≤ p0.toInt ∧ p0.toInt ≤ 11) (e1 : -99 ≤ p1.toInt ∧ p1.toInt ≤ 99) : Met l yX11_failed (xw yX11_failed cX11_failed 3 none) rm_X11_failed (va_Pc [.ref a, .int p0, .int p1] (XP E K F G)) (XQv E (fun (u : XG) => XFr [(a, 20), (a, 21), (a, 23)] [F a 22] [] G u ∧ (((u.1 a 20).toInt) = p0.toInt ∧ ((u.1 a 21).toInt) = p1.toInt ∧ 0 ≤ ((u.1 a 23).toInt) ∧ ((u.1 a 23).toInt) ≤ 24)) (fun u H => TW E K F u H)) 0 0 (xA E) := by
  refine x_enter (by decide) (Nat.le_of_ble_eq_true rfl) ?_
  intro p e s m args below meth c Q S hr hlk hnm hQ hP ls hl
  obtain ⟨hz, hK, hT⟩ := hP
  obtain ⟨hx, hb, -, -, -⟩ := id S
  obtain ⟨H, hT, hS, hgo⟩ : ∃ H : Heap, TW E K F G H ∧ va_S (xA E) s.heap H [] ∧ H = s.heap := ⟨_, hT, va_S.rf, rfl⟩
  rw [← hgo]
  have hl : lv_has ls 3 [(0, .ref a), (1, .int p0), (2, .int p1)] := hl
  obtain ⟨hk9999, hj9999⟩ := fkX11_22 hT ha
  refine lv_aload_n hx hb dX11_failed_0 rfl (lv_at hl 0 rfl) ?_
  refine x_cv0 (x_runV (b := a) (As := []) (rest := []) S (c_X11_nothing l E K F G a ha) mv_X11_nothing km_X11_231 rfl rfl ⟨Nat.le_of_ble_eq_true rfl, Nat.le_of_ble_eq_true rfl⟩ (rc_13 hK hT ha) hK (fun _ => XP.blind) (fun U hU hW => XP.at hK hz hS hT hU hW) rfl hl.1 (Nat.le_of_ble_eq_true rfl) dX11_failed_1 ⟨Nat.le_of_ble_eq_true rfl, Nat.le_of_ble_eq_true rfl⟩) hS ?_
  rintro G1 H locs ⟨hF1, t1⟩ hT hS
  have t1 : ((G1.1 a 20).toInt) = -2147483648 ∧ ((G1.1 a 21).toInt) = -2147483648 ∧ ((G1.1 a 23).toInt) = 0 := t1
  refine lv_aload_n hx hb dX11_failed_4 rfl (lv_at hl 0 rfl) ?_
  refine lv_iload_n hx hb dX11_failed_5 rfl (lv_at hl 1 rfl) ?_
  refine pX11_20 (v := p0) S hK hT hS ha kf_X11_58 dX11_failed_6 (fun H locs hT hS => ?_)
  obtain ⟨G6, hG6⟩ : ∃ GG : XG, GG = dput G1 a 20 p0 := ⟨_, rfl⟩
  rw [← hG6] at hT
  refine lv_aload_n hx hb dX11_failed_9 rfl (lv_at hl 0 rfl) ?_
  refine lv_iload_n hx hb dX11_failed_10 rfl (lv_at hl 2 rfl) ?_
  refine pX11_21 (v := p1) S hK hT hS ha kf_X11_62 dX11_failed_11 (fun H locs hT hS => ?_)
  obtain ⟨G11, hG11⟩ : ∃ GG : XG, GG = dput G6 a 21 p1 := ⟨_, rfl⟩
  rw [← hG11] at hT
  refine lv_aload_n hx hb dX11_failed_14 rfl (lv_at hl 0 rfl) ?_
  refine lv_aload_n hx hb dX11_failed_15 rfl (lv_at hl 0 rfl) ?_
  obtain ⟨hk16, hj16⟩ := fkX11_24 hT ha
  refine gX11_24 S hK hT ha kf_X11_69 dX11_failed_16 (fun _ _ => ?_)
  refine x_cv0 (x_runV (b := a) (As := [.ref (F a 24)]) (rest := []) S (c_X11_putWord l E K F G11 a (F a 24) 4 ha (XWd.k47 hk16) (by rw [(show (G11.1 a 23).toInt = ((G1.1 a 23).toInt) from (congrArg Int32.toInt ((ld_j hG11 (by decide)).trans (ld_j hG6 (by decide)))).trans (rfl : Int32.toInt (G1.1 a 23) = ((G1.1 a 23).toInt)))] <;> exact (z_X11_failed_1 ((G1.1 a 20).toInt) ((G1.1 a 21).toInt) ((G1.1 a 23).toInt) t1))) mv_X11_putWord km_X11_234 rfl rfl ⟨Nat.le_of_ble_eq_true rfl, Nat.le_of_ble_eq_true rfl⟩ (rc_13 hK hT ha) hK (fun _ => XP.blind) (fun U hU hW => XP.at hK hz hS hT hU hW) rfl hl.1 (Nat.le_of_ble_eq_true rfl) dX11_failed_19 ⟨Nat.le_of_ble_eq_true rfl, Nat.le_of_ble_eq_true rfl⟩) hS ?_
  rintro G19 H locs ⟨hF19, t19⟩ hT hS
  have t19 : ((G19.1 a 23).toInt) = ((G1.1 a 23).toInt) + 4 := by rw [(show (G11.1 a 23).toInt = ((G1.1 a 23).toInt) from (congrArg Int32.toInt ((ld_j hG11 (by decide)).trans (ld_j hG6 (by decide)))).trans (rfl : Int32.toInt (G1.1 a 23) = ((G1.1 a 23).toInt)))] at t19; exact t19
  refine lv_aload_n hx hb dX11_failed_22 rfl (lv_at hl 0 rfl) ?_
  refine lv_bipush (v := 32) hx hb dX11_failed_23 (by decide) ?_
  refine x_cv0 (x_runV (b := a) (As := [.int 32]) (rest := []) S (c_X11_puts l E K F G19 a 32 ha (z_X11_failed_2 ((G1.1 a 20).toInt) ((G1.1 a 21).toInt) ((G1.1 a 23).toInt) ((G19.1 a 23).toInt) t1 t19)) mv_X11_puts km_X11_227 rfl rfl ⟨Nat.le_of_ble_eq_true rfl, Nat.le_of_ble_eq_true rfl⟩ (rc_13 hK hT ha) hK (fun _ => XP.blind) (fun U hU hW => XP.at hK hz hS hT hU hW) rfl hl.1 (Nat.le_of_ble_eq_true rfl) dX11_failed_25 ⟨Nat.le_of_ble_eq_true rfl, Nat.le_of_ble_eq_true rfl⟩) hS ?_
  rintro G25 H locs ⟨hF25, t25⟩ hT hS
  have t25 : ((G25.1 a 23).toInt) = ((G19.1 a 23).toInt) + 1 := t25
  refine lv_aload_n hx hb dX11_failed_28 rfl (lv_at hl 0 rfl) ?_
  refine lv_iload_n hx hb dX11_failed_29 rfl (lv_at hl 1 rfl) ?_
  refine x_cv0 (x_runV (b := a) (As := [.int p0]) (rest := []) S (c_X11_putNumber l E K F G25 a p0 ha (z_X11_failed_3 ((G1.1 a 20).toInt) ((G1.1 a 21).toInt) ((G1.1 a 23).toInt) ((G19.1 a 23).toInt) ((G25.1 a 23).toInt) t1 t19 t25) (z_X11_failed_4 p0.toInt e0)) mv_X11_putNumber km_X11_238 rfl rfl ⟨Nat.le_of_ble_eq_true rfl, Nat.le_of_ble_eq_true rfl⟩ (rc_13 hK hT ha) hK (fun _ => XP.blind) (fun U hU hW => XP.at hK hz hS hT hU hW) rfl hl.1 (Nat.le_of_ble_eq_true rfl) dX11_failed_30 ⟨Nat.le_of_ble_eq_true rfl, Nat.le_of_ble_eq_true rfl⟩) hS ?_
  rintro G30 H locs ⟨hF30, t30⟩ hT hS
  have t30 : ((G25.1 a 23).toInt) + 1 ≤ ((G30.1 a 23).toInt) ∧ ((G30.1 a 23).toInt) ≤ ((G25.1 a 23).toInt) + 3 := t30
  refine lv_aload_n hx hb dX11_failed_33 rfl (lv_at hl 0 rfl) ?_
  refine lv_bipush (v := 32) hx hb dX11_failed_34 (by decide) ?_
  refine x_cv0 (x_runV (b := a) (As := [.int 32]) (rest := []) S (c_X11_puts l E K F G30 a 32 ha (z_X11_failed_5 ((G1.1 a 20).toInt) ((G1.1 a 21).toInt) ((G1.1 a 23).toInt) ((G19.1 a 23).toInt) ((G25.1 a 23).toInt) ((G30.1 a 23).toInt) t1 t19 t25 t30)) mv_X11_puts km_X11_227 rfl rfl ⟨Nat.le_of_ble_eq_true rfl, Nat.le_of_ble_eq_true rfl⟩ (rc_13 hK hT ha) hK (fun _ => XP.blind) (fun U hU hW => XP.at hK hz hS hT hU hW) rfl hl.1 (Nat.le_of_ble_eq_true rfl) dX11_failed_36 ⟨Nat.le_of_ble_eq_true rfl, Nat.le_of_ble_eq_true rfl⟩) hS ?_
  rintro G36 H locs ⟨hF36, t36⟩ hT hS
  have t36 : ((G36.1 a 23).toInt) = ((G30.1 a 23).toInt) + 1 := t36
  refine lv_aload_n hx hb dX11_failed_39 rfl (lv_at hl 0 rfl) ?_
  refine lv_aload_n hx hb dX11_failed_40 rfl (lv_at hl 0 rfl) ?_
  refine lv_aload_n hx hb dX11_failed_41 rfl (lv_at hl 0 rfl) ?_
  refine lv_iload_n hx hb dX11_failed_42 rfl (lv_at hl 1 rfl) ?_
  refine lv_iconst (v := 0) hx hb dX11_failed_43 (by decide) ?_
  refine x_clp (x_runV (b := a) (As := [.int p0, .int 0]) (rest := [.ref a, .ref a]) S (c_X11_of l E K F G36 H a p0 0 ha (e0) (by decide)) mv_X11_of km_X11_165 rfl rfl ⟨Nat.le_of_ble_eq_true rfl, Nat.le_of_ble_eq_true rfl⟩ (rc_13 hK hT ha) hK (fun _ => XPh.blind) (fun U hU hW => XPh.at hK hz hS hT hU hW) rfl hl.1 (Nat.le_of_ble_eq_true rfl) dX11_failed_44 ⟨Nat.le_of_ble_eq_true rfl, Nat.le_of_ble_eq_true rfl⟩) hS ?_
  rintro _ _ locs ⟨x44, rfl, t44⟩ hS
  obtain ⟨hk44, hj44⟩ := fkX11_10 hT ha
  have t44 : x44.toInt = (aI (G.2.1 (F a 10)) (10 * p0.toInt + 0)) := by rw [(show G36.2.1 (F a 10) = G.2.1 (F a 10) from ((hF36.2.1 _ (xn1 (xne_k hk44 hk9999 (by decide)) xn0)).trans ((hF30.2.1 _ (xn1 (xne_k hk44 hk9999 (by decide)) xn0)).trans ((hF25.2.1 _ (xn1 (xne_k hk44 hk9999 (by decide)) xn0)).trans ((hF19.2.1 _ (xn1 (xne_k hk44 hk9999 (by decide)) xn0)).trans ((ld_c hG11).trans ((ld_c hG6).trans (hF1.2.1 _ xn0))))))))] at t44; exact t44
  refine x_clp (x_runV (b := a) (As := [.int x44]) (rest := [.ref a]) S (c_X11_wordOf l E K F G36 H a x44 ha) mv_X11_wordOf km_X11_241 rfl rfl ⟨Nat.le_of_ble_eq_true rfl, Nat.le_of_ble_eq_true rfl⟩ (rc_13 hK hT ha) hK (fun _ => XPh.blind) (fun U hU hW => XPh.at hK hz hS hT hU hW) rfl hl.1 (Nat.le_of_ble_eq_true rfl) dX11_failed_47 ⟨Nat.le_of_ble_eq_true rfl, Nat.le_of_ble_eq_true rfl⟩) hS ?_
  rintro _ _ locs ⟨q47, n47, rfl, hw47, hl47⟩ hS
  refine x_cv0 (x_runV (b := a) (As := [.ref q47]) (rest := []) S (c_X11_putWord l E K F G36 a q47 n47 ha hw47 (z_X11_failed_7 n47 ((G1.1 a 20).toInt) ((G1.1 a 21).toInt) ((G1.1 a 23).toInt) ((G19.1 a 23).toInt) ((G25.1 a 23).toInt) ((G30.1 a 23).toInt) ((G36.1 a 23).toInt) t1 t19 t25 t30 t36 hl47)) mv_X11_putWord km_X11_234 rfl rfl ⟨Nat.le_of_ble_eq_true rfl, Nat.le_of_ble_eq_true rfl⟩ (rc_13 hK hT ha) hK (fun _ => XP.blind) (fun U hU hW => XP.at hK hz hS hT hU hW) rfl hl.1 (Nat.le_of_ble_eq_true rfl) dX11_failed_50 ⟨Nat.le_of_ble_eq_true rfl, Nat.le_of_ble_eq_true rfl⟩) hS ?_
  rintro G50 H locs ⟨hF50, t50⟩ hT hS
  have t50 : ((G50.1 a 23).toInt) = ((G36.1 a 23).toInt) + (((n47) : Nat) : Int) := t50
  refine lv_aload_n hx hb dX11_failed_53 rfl (lv_at hl 0 rfl) ?_
  refine lv_bipush (v := 32) hx hb dX11_failed_54 (by decide) ?_
  refine x_cv0 (x_runV (b := a) (As := [.int 32]) (rest := []) S (c_X11_puts l E K F G50 a 32 ha (z_X11_failed_8 n47 ((G1.1 a 20).toInt) ((G1.1 a 21).toInt) ((G1.1 a 23).toInt) ((G19.1 a 23).toInt) ((G25.1 a 23).toInt) ((G30.1 a 23).toInt) ((G36.1 a 23).toInt) ((G50.1 a 23).toInt) t1 t19 t25 t30 t36 hl47 t50)) mv_X11_puts km_X11_227 rfl rfl ⟨Nat.le_of_ble_eq_true rfl, Nat.le_of_ble_eq_true rfl⟩ (rc_13 hK hT ha) hK (fun _ => XP.blind) (fun U hU hW => XP.at hK hz hS hT hU hW) rfl hl.1 (Nat.le_of_ble_eq_true rfl) dX11_failed_56 ⟨Nat.le_of_ble_eq_true rfl, Nat.le_of_ble_eq_true rfl⟩) hS ?_
  rintro G56 H locs ⟨hF56, t56⟩ hT hS
  have t56 : ((G56.1 a 23).toInt) = ((G50.1 a 23).toInt) + 1 := t56
  refine lv_aload_n hx hb dX11_failed_59 rfl (lv_at hl 0 rfl) ?_
  refine lv_iload_n hx hb dX11_failed_60 rfl (lv_at hl 2 rfl) ?_
  refine x_cv0 (x_runV (b := a) (As := [.int p1]) (rest := []) S (c_X11_putNumber l E K F G56 a p1 ha (z_X11_failed_9 n47 ((G1.1 a 20).toInt) ((G1.1 a 21).toInt) ((G1.1 a 23).toInt) ((G19.1 a 23).toInt) ((G25.1 a 23).toInt) ((G30.1 a 23).toInt) ((G36.1 a 23).toInt) ((G50.1 a 23).toInt) ((G56.1 a 23).toInt) t1 t19 t25 t30 t36 hl47 t50 t56) (e1)) mv_X11_putNumber km_X11_238 rfl rfl ⟨Nat.le_of_ble_eq_true rfl, Nat.le_of_ble_eq_true rfl⟩ (rc_13 hK hT ha) hK (fun _ => XP.blind) (fun U hU hW => XP.at hK hz hS hT hU hW) rfl hl.1 (Nat.le_of_ble_eq_true rfl) dX11_failed_61 ⟨Nat.le_of_ble_eq_true rfl, Nat.le_of_ble_eq_true rfl⟩) hS ?_
  rintro G61 H locs ⟨hF61, t61⟩ hT hS
  have t61 : ((G56.1 a 23).toInt) + 1 ≤ ((G61.1 a 23).toInt) ∧ ((G61.1 a 23).toInt) ≤ ((G56.1 a 23).toInt) + 3 := t61
  exact x_rv hx hb hr hlk hQ (Nat.le_of_ble_eq_true rfl) (Nat.le_of_ble_eq_true rfl) hS dX11_failed_64 G61 ⟨(XFr.call (XFr.call (XFr.call (XFr.call (XFr.call (XFr.call (XFr.call (by rw [hG11]; exact XFr.dput (by rw [hG6]; exact XFr.dput (XFr.call XFr.rf hF1 (xm1 0 rfl (xm1 1 rfl (xm1 2 rfl xm0))) xm0 xm0) (List.mem_of_getElem? (i := 0) rfl)) (List.mem_of_getElem? (i := 1) rfl)) hF19 (xm1 2 rfl xm0) (xm1 0 rfl xm0) xm0) hF25 (xm1 2 rfl xm0) (xm1 0 rfl xm0) xm0) hF30 (xm1 2 rfl xm0) (xm1 0 rfl xm0) xm0) hF36 (xm1 2 rfl xm0) (xm1 0 rfl xm0) xm0) hF50 (xm1 2 rfl xm0) (xm1 0 rfl xm0) xm0) hF56 (xm1 2 rfl xm0) (xm1 0 rfl xm0) xm0) hF61 (xm1 2 rfl xm0) (xm1 0 rfl xm0) xm0), (by rw [(show (G61.1 a 20).toInt = p0.toInt from (congrArg Int32.toInt ((hF61.1 _ _ (xnj (by decide) xn0)).trans ((hF56.1 _ _ (xnj (by decide) xn0)).trans ((hF50.1 _ _ (xnj (by decide) xn0)).trans ((hF36.1 _ _ (xnj (by decide) xn0)).trans ((hF30.1 _ _ (xnj (by decide) xn0)).trans ((hF25.1 _ _ (xnj (by decide) xn0)).trans ((hF19.1 _ _ (xnj (by decide) xn0)).trans ((ld_j hG11 (by decide)).trans (ld_at hG6)))))))))).trans (rfl : Int32.toInt p0 = p0.toInt)), (show (G61.1 a 21).toInt = p1.toInt from (congrArg Int32.toInt ((hF61.1 _ _ (xnj (by decide) xn0)).trans ((hF56.1 _ _ (xnj (by decide) xn0)).trans ((hF50.1 _ _ (xnj (by decide) xn0)).trans ((hF36.1 _ _ (xnj (by decide) xn0)).trans ((hF30.1 _ _ (xnj (by decide) xn0)).trans ((hF25.1 _ _ (xnj (by decide) xn0)).trans ((hF19.1 _ _ (xnj (by decide) xn0)).trans (ld_at hG11))))))))).trans (rfl : Int32.toInt p1 = p1.toInt))] <;> exact (z_X11_failed_11 p0.toInt p1.toInt n47 ((G1.1 a 20).toInt) ((G1.1 a 21).toInt) ((G1.1 a 23).toInt) ((G19.1 a 23).toInt) ((G25.1 a 23).toInt) ((G30.1 a 23).toInt) ((G36.1 a 23).toInt) ((G50.1 a 23).toInt) ((G56.1 a 23).toInt) ((G61.1 a 23).toInt) t1 t19 t25 t30 t36 (XWd.lim hw47) t50 t56 t61))⟩ hT
theorem sFLb (kd : Int) : (sF kd = 0 ∨ sF kd = -99) ∧ (sL kd = 29 ∨ sL kd = 99) := by
  have := sFL kd
  omega
theorem v_X11_goesBack_10_1 {K : Nat → Nat} {F : Nat → Nat → Nat} (a : Nat) (G : XG)
    (ha : K a = 13)
    (hk9999 : K (F a 1) = 30)
    (hj9999 : F (F a 1) 99 = 1)
    (hk9999a : K (F a 8) = 35)
    (hj9999a : F (F a 8) 99 = 8)
    (hk9999b : K (F a 22) = 45)
    (hj9999b : F (F a 22) 99 = 22)
    (hk9999c : K (F a 17) = 43)
    (hj9999c : F (F a 17) 99 = 17)
    (hk9999d : K (F a 18) = 44)
    (hj9999d : F (F a 18) 99 = 18)
    (hk9999e : K (F a 10) = 37)
    (hj9999e : F (F a 10) 99 = 10)
    (hk9999f : K (F a 4) = 31)
    (hj9999f : F (F a 4) 99 = 4)
    (hv : PV (G.2.1 (F a 10)) (pL G F a))
    (hA : RM (G.2.1 (F a 4)) 0)
    (s0 : 0 ≤ ((G.1 a 46).toInt) ∧ ((G.1 a 46).toInt) < ((G.1 a 19).toInt) ∧ ((G.1 a 19).toInt) ≤ 2388)
    (z0 : (0 ≤ (aI (G.2.1 (F a 17)) ((G.1 a 46).toInt)) ∧ (aI (G.2.1 (F a 17)) ((G.1 a 46).toInt)) ≤ 11) ∧ (aI (G.2.1 (F a 10)) (10 * (aI (G.2.1 (F a 17)) ((G.1 a 46).toInt)) + 0)) ≠ -1 ∧ ((sF (aI (G.2.1 (F a 10)) (10 * (aI (G.2.1 (F a 17)) ((G.1 a 46).toInt)) + 0))) ≤ (aI (G.2.1 (F a 18)) ((G.1 a 46).toInt)) ∧ (aI (G.2.1 (F a 18)) ((G.1 a 46).toInt)) ≤ (sL (aI (G.2.1 (F a 10)) (10 * (aI (G.2.1 (F a 17)) ((G.1 a 46).toInt)) + 0)))))
    (z0a : ((sF (aI (G.2.1 (F a 10)) (10 * (aI (G.2.1 (F a 17)) ((G.1 a 46).toInt)) + 0))) = 0 ∨ (sF (aI (G.2.1 (F a 10)) (10 * (aI (G.2.1 (F a 17)) ((G.1 a 46).toInt)) + 0))) = -99) ∧ ((sL (aI (G.2.1 (F a 10)) (10 * (aI (G.2.1 (F a 17)) ((G.1 a 46).toInt)) + 0))) = 29 ∨ (sL (aI (G.2.1 (F a 10)) (10 * (aI (G.2.1 (F a 17)) ((G.1 a 46).toInt)) + 0))) = 99)) :
    (F a 4) ≠ (F a 1) := by
  intro e
  have h1 : K (F a 1) = 30 := by assumption
  have h2 : K (F a 4) = 31 := by assumption
  rw [← e, h2] at h1
  exact absurd h1 (by decide)
theorem v_X11_goesBack_41_2 {F : Nat → Nat → Nat} (a : Nat) (G : XG) (G10 : XG) (G38 : XG)
    (oq10 : CPd (G.2.1 (F a 4)) (G.2.1 (F a 1)) (G10.2.1 (F a 1)) (0 : Int) (0 : Int) 360)
    (c_G38_F_a_1 : G38.2.1 (F a 1) = G10.2.1 (F a 1)) :
    mw (G38.2.1 (F a 1)) 0 = mw (G.2.1 (F a 4)) 0 := by
  rw [c_G38_F_a_1]; exact CPd.vwm oq10 (by decide)
theorem v_X11_goesBack_41_3 {F : Nat → Nat → Nat} (a : Nat) (G : XG) (G10 : XG) (G38 : XG)
    (hA : RM (G.2.1 (F a 4)) 0)
    (oq10 : CPd (G.2.1 (F a 4)) (G.2.1 (F a 1)) (G10.2.1 (F a 1)) (0 : Int) (0 : Int) 360)
    (c_G38_F_a_1 : G38.2.1 (F a 1) = G10.2.1 (F a 1)) :
    RM (G38.2.1 (F a 1)) 0 := by
  rw [c_G38_F_a_1]; exact CPd.rm oq10 (by decide) hA
theorem v_X11_goesBack_41_4 {K : Nat → Nat} {F : Nat → Nat → Nat} (a : Nat) (G : XG) (G32 : XG) (G38 : XG)
    (ha : K a = 13)
    (s0 : 0 ≤ ((G.1 a 46).toInt) ∧ ((G.1 a 46).toInt) < ((G.1 a 19).toInt) ∧ ((G.1 a 19).toInt) ≤ 2388)
    (z0 : (0 ≤ (aI (G.2.1 (F a 17)) ((G.1 a 46).toInt)) ∧ (aI (G.2.1 (F a 17)) ((G.1 a 46).toInt)) ≤ 11) ∧ (aI (G.2.1 (F a 10)) (10 * (aI (G.2.1 (F a 17)) ((G.1 a 46).toInt)) + 0)) ≠ -1 ∧ ((sF (aI (G.2.1 (F a 10)) (10 * (aI (G.2.1 (F a 17)) ((G.1 a 46).toInt)) + 0))) ≤ (aI (G.2.1 (F a 18)) ((G.1 a 46).toInt)) ∧ (aI (G.2.1 (F a 18)) ((G.1 a 46).toInt)) ≤ (sL (aI (G.2.1 (F a 10)) (10 * (aI (G.2.1 (F a 17)) ((G.1 a 46).toInt)) + 0)))))
    (z0a : ((sF (aI (G.2.1 (F a 10)) (10 * (aI (G.2.1 (F a 17)) ((G.1 a 46).toInt)) + 0))) = 0 ∨ (sF (aI (G.2.1 (F a 10)) (10 * (aI (G.2.1 (F a 17)) ((G.1 a 46).toInt)) + 0))) = -99) ∧ ((sL (aI (G.2.1 (F a 10)) (10 * (aI (G.2.1 (F a 17)) ((G.1 a 46).toInt)) + 0))) = 29 ∨ (sL (aI (G.2.1 (F a 10)) (10 * (aI (G.2.1 (F a 17)) ((G.1 a 46).toInt)) + 0))) = 99))
    (t32 : ((G32.1 a 20).toInt) = (aI (G.2.1 (F a 17)) ((G.1 a 46).toInt)) ∧ ((G32.1 a 21).toInt) = (aI (G.2.1 (F a 18)) ((G.1 a 46).toInt)) ∧ 0 ≤ ((G32.1 a 23).toInt) ∧ ((G32.1 a 23).toInt) ≤ 24)
    (d_G38_a_23 : G38.1 a 23 = G32.1 a 23) :
    0 ≤ ((G38.1 a 23).toInt) ∧ ((G38.1 a 23).toInt) ≤ 24 := by
  rw [d_G38_a_23]; omega
theorem z_X11_goesBack_1 (a0 : Int) (a1 : Int) (h0 : 0 ≤ a1 ∧ a1 < a0 ∧ a0 ≤ 2388) : 0 ≤ a1 ∧ a1 < a0 := by omega
theorem z_X11_goesBack_2 (a0 : Int) (a1 : Int) (h0 : 0 ≤ a1 ∧ a1 < a0 ∧ a0 ≤ 2388) : 0 ≤ a1 ∧ a1 < ((2400 : Nat) : Int) := by omega
theorem z_X11_goesBack_5 (a0 : Int) (a1 : Int) (a2 : Int) (h0 : a1 ≤ a0 ∧ a0 ≤ a2) (h1 : a1 = 0 ∨ a1 = -99) (h2 : a2 = 29 ∨ a2 = 99) : -99 ≤ a0 ∧ a0 ≤ 99 := by omega
abbrev rm_X11_goesBack : Room := { frames := 3, cells := 0, slots := 0, locals := 65 }
set_option maxHeartbeats 4000000 in
set_option maxRecDepth 100000 in
theorem c_X11_goesBack (l : Launch) (E : XE) (K : Nat → Nat) (F : Nat → Nat → Nat) (G : XG) (a : Nat) (ha : K a = 13) (s0 : 0 ≤ ((G.1 a 46).toInt) ∧ ((G.1 a 46).toInt) < ((G.1 a 19).toInt) ∧ ((G.1 a 19).toInt) ≤ 2388) (hv : PV (G.2.1 (F a 10)) (pL G F a)) (hA : RM (G.2.1 (F a 4)) 0) : Met l yX11_goesBack (xw yX11_goesBack cX11_goesBack 1 (some .int)) rm_X11_goesBack (va_Pc [.ref a] (XP E K F G)) (XQ E (fun v (u : XG) => ∃ r : Int32, v = .int r ∧ XFr [(a, 20), (a, 21), (a, 23)] [F a 1, F a 8, F a 22] [] G u ∧ (r.toInt = -5) ∧ (mw (u.2.1 (F a 1)) 0 = mw (G.2.1 (F a 4)) 0) ∧ (RM (u.2.1 (F a 1)) 0) ∧ (0 ≤ ((u.1 a 23).toInt) ∧ ((u.1 a 23).toInt) ≤ 24)) (fun u H => TW E K F u H)) 0 0 (xA E) := by
  refine x_enter (by decide) (Nat.le_of_ble_eq_true rfl) ?_
  intro p e s m args below meth c Q S hr hlk hnm hQ hP ls hl
  obtain ⟨hz, hK, hT⟩ := hP
  obtain ⟨hx, hb, -, -, -⟩ := id S
  obtain ⟨H, hT, hS, hgo⟩ : ∃ H : Heap, TW E K F G H ∧ va_S (xA E) s.heap H [] ∧ H = s.heap := ⟨_, hT, va_S.rf, rfl⟩
  rw [← hgo]
  have hl : lv_has ls 1 [(0, .ref a)] := hl
  obtain ⟨hk9999, hj9999⟩ := fkX11_1 hT ha
  obtain ⟨hk9999a, hj9999a⟩ := fkX11_8 hT ha
  obtain ⟨hk9999b, hj9999b⟩ := fkX11_22 hT ha
  obtain ⟨hk9999c, hj9999c⟩ := fkX11_17 hT ha
  obtain ⟨hk9999d, hj9999d⟩ := fkX11_18 hT ha
  obtain ⟨hk9999e, hj9999e⟩ := fkX11_10 hT ha
  obtain ⟨hk9999f, hj9999f⟩ := fkX11_4 hT ha
  have z0 : (0 ≤ (aI (G.2.1 (F a 17)) ((G.1 a 46).toInt)) ∧ (aI (G.2.1 (F a 17)) ((G.1 a 46).toInt)) ≤ 11) ∧ (aI (G.2.1 (F a 10)) (10 * (aI (G.2.1 (F a 17)) ((G.1 a 46).toInt)) + 0)) ≠ -1 ∧ ((sF (aI (G.2.1 (F a 10)) (10 * (aI (G.2.1 (F a 17)) ((G.1 a 46).toInt)) + 0))) ≤ (aI (G.2.1 (F a 18)) ((G.1 a 46).toInt)) ∧ (aI (G.2.1 (F a 18)) ((G.1 a 46).toInt)) ≤ (sL (aI (G.2.1 (F a 10)) (10 * (aI (G.2.1 (F a 17)) ((G.1 a 46).toInt)) + 0)))) := pv_at hv (z_X11_goesBack_1 ((G.1 a 19).toInt) ((G.1 a 46).toInt) s0)
  have z0a : ((sF (aI (G.2.1 (F a 10)) (10 * (aI (G.2.1 (F a 17)) ((G.1 a 46).toInt)) + 0))) = 0 ∨ (sF (aI (G.2.1 (F a 10)) (10 * (aI (G.2.1 (F a 17)) ((G.1 a 46).toInt)) + 0))) = -99) ∧ ((sL (aI (G.2.1 (F a 10)) (10 * (aI (G.2.1 (F a 17)) ((G.1 a 46).toInt)) + 0))) = 29 ∨ (sL (aI (G.2.1 (F a 10)) (10 * (aI (G.2.1 (F a 17)) ((G.1 a 46).toInt)) + 0))) = 99) := sFLb _
  refine lv_aload_n hx hb dX11_goesBack_0 rfl (lv_at hl 0 rfl) ?_
  refine gX11_4 S hK hT ha kf_X11_21 dX11_goesBack_1 (fun _ _ => ?_)
  refine lv_iconst (v := 0) hx hb dX11_goesBack_4 (by decide) ?_
  refine lv_aload_n hx hb dX11_goesBack_5 rfl (lv_at hl 0 rfl) ?_
  refine gX11_1 S hK hT ha kf_X11_9 dX11_goesBack_6 (fun _ _ => ?_)
  refine lv_iconst (v := 0) hx hb dX11_goesBack_9 (by decide) ?_
  refine x_cv0 (x_runS (As := [.ref (F a 4), .int 0, .ref (F a 1), .int 0]) (rest := []) S (c_X11_copy l E K F G (F a 4) 0 (F a 1) 0 (XO.b hk9999f (by decide)) (XO.a hk9999 (by decide)) (v_X11_goesBack_10_1 (K := K) (F := F) a G ha hk9999 hj9999 hk9999a hj9999a hk9999b hj9999b hk9999c hj9999c hk9999d hj9999d hk9999e hj9999e hk9999f hj9999f hv hA s0 z0 z0a)) ms_X11_copy km_X11_309 rfl rfl ⟨Nat.le_of_ble_eq_true rfl, Nat.le_of_ble_eq_true rfl⟩ hK (fun _ => XP.blind) (fun U hU hW => XP.at hK hz hS hT hU hW) rfl hl.1 (Nat.le_of_ble_eq_true rfl) dX11_goesBack_10 ⟨Nat.le_of_ble_eq_true rfl, Nat.le_of_ble_eq_true rfl⟩) hS ?_
  rintro G10 H locs ⟨hF10, oq10⟩ hT hS
  refine lv_aload_n hx hb dX11_goesBack_13 rfl (lv_at hl 0 rfl) ?_
  refine lv_aload_n hx hb dX11_goesBack_14 rfl (lv_at hl 0 rfl) ?_
  refine gX11_17 S hK hT ha kf_X11_51 dX11_goesBack_15 (fun _ _ => ?_)
  refine lv_aload_n hx hb dX11_goesBack_18 rfl (lv_at hl 0 rfl) ?_
  refine gX11_46 S hK hT ha kf_X11_322 dX11_goesBack_19 (v := (G.1 a 46)) (hF10.1 _ _ xn0) (?_)
  refine al_0 S hK hT hk9999c ar_43 (by decide) (z_X11_goesBack_2 ((G.1 a 19).toInt) ((G.1 a 46).toInt) s0) dX11_goesBack_22 (fun x22 hv22 o22 => ?_)
  have hv22 : x22.toInt = (aI (G.2.1 (F a 17)) ((G.1 a 46).toInt)) := hv22.trans (by rw [(rfl : Int32.toInt (G.1 a 46) = ((G.1 a 46).toInt)), ((hF10.2.1 _ (xn1 (xne_k hk9999c hk9999 (by decide)) xn0)) : G10.2.1 (F a 17) = G.2.1 (F a 17))])
  refine lv_aload_n hx hb dX11_goesBack_23 rfl (lv_at hl 0 rfl) ?_
  refine gX11_18 S hK hT ha kf_X11_54 dX11_goesBack_24 (fun _ _ => ?_)
  refine lv_aload_n hx hb dX11_goesBack_27 rfl (lv_at hl 0 rfl) ?_
  refine gX11_46 S hK hT ha kf_X11_322 dX11_goesBack_28 (v := (G.1 a 46)) (hF10.1 _ _ xn0) (?_)
  refine al_0 S hK hT hk9999d ar_44 (by decide) (z_X11_goesBack_2 ((G.1 a 19).toInt) ((G.1 a 46).toInt) s0) dX11_goesBack_31 (fun x31 hv31 o31 => ?_)
  have hv31 : x31.toInt = (aI (G.2.1 (F a 18)) ((G.1 a 46).toInt)) := hv31.trans (by rw [(rfl : Int32.toInt (G.1 a 46) = ((G.1 a 46).toInt)), ((hF10.2.1 _ (xn1 (xne_k hk9999d hk9999 (by decide)) xn0)) : G10.2.1 (F a 18) = G.2.1 (F a 18))])
  refine x_cv0 (x_runV (b := a) (As := [.int x22, .int x31]) (rest := []) S (c_X11_failed l E K F G10 a x22 x31 ha (by rw [(hv22 : Int32.toInt x22 = (aI (G.2.1 (F a 17)) ((G.1 a 46).toInt)))] <;> exact ((z0).1)) (by rw [(hv31 : Int32.toInt x31 = (aI (G.2.1 (F a 18)) ((G.1 a 46).toInt)))] <;> exact (z_X11_goesBack_5 (aI (G.2.1 (F a 18)) ((G.1 a 46).toInt)) (sF (aI (G.2.1 (F a 10)) (10 * (aI (G.2.1 (F a 17)) ((G.1 a 46).toInt)) + 0))) (sL (aI (G.2.1 (F a 10)) (10 * (aI (G.2.1 (F a 17)) ((G.1 a 46).toInt)) + 0))) (z0).2.2 (z0a).1 (z0a).2))) mv_X11_failed km_X11_299 rfl rfl ⟨Nat.le_of_ble_eq_true rfl, Nat.le_of_ble_eq_true rfl⟩ (rc_13 hK hT ha) hK (fun _ => XP.blind) (fun U hU hW => XP.at hK hz hS hT hU hW) rfl hl.1 (Nat.le_of_ble_eq_true rfl) dX11_goesBack_32 ⟨Nat.le_of_ble_eq_true rfl, Nat.le_of_ble_eq_true rfl⟩) hS ?_
  rintro G32 H locs ⟨hF32, t32⟩ hT hS
  have t32 : ((G32.1 a 20).toInt) = (aI (G.2.1 (F a 17)) ((G.1 a 46).toInt)) ∧ ((G32.1 a 21).toInt) = (aI (G.2.1 (F a 18)) ((G.1 a 46).toInt)) ∧ 0 ≤ ((G32.1 a 23).toInt) ∧ ((G32.1 a 23).toInt) ≤ 24 := by rw [(hv22 : Int32.toInt x22 = (aI (G.2.1 (F a 17)) ((G.1 a 46).toInt)))] at t32; rw [(hv31 : Int32.toInt x31 = (aI (G.2.1 (F a 18)) ((G.1 a 46).toInt)))] at t32; exact t32
  refine lv_aload_n hx hb dX11_goesBack_35 rfl (lv_at hl 0 rfl) ?_
  refine lv_bipush (v := (-5)) hx hb dX11_goesBack_36 (by decide) ?_
  refine x_cl0 (x_runV (b := a) (As := [.int (-5)]) (rest := []) S (c_X11_refuses l E K F G32 a (-5) ha) mv_X11_refuses km_X11_325 rfl rfl ⟨Nat.le_of_ble_eq_true rfl, Nat.le_of_ble_eq_true rfl⟩ (rc_13 hK hT ha) hK (fun _ => XP.blind) (fun U hU hW => XP.at hK hz hS hT hU hW) rfl hl.1 (Nat.le_of_ble_eq_true rfl) dX11_goesBack_38 ⟨Nat.le_of_ble_eq_true rfl, Nat.le_of_ble_eq_true rfl⟩) hS ?_
  rintro _ G38 H locs ⟨x38, rfl, hF38, t38⟩ hT hS
  have t38 : x38.toInt = (-5 : Int) := by rw [((by decide) : Int32.toInt (-5) = (-5 : Int))] at t38; exact t38
  exact x_ri hx hb hr hlk hQ (Nat.le_of_ble_eq_true rfl) (Nat.le_of_ble_eq_true rfl) hS dX11_goesBack_41 G38 ⟨_, rfl, (XFr.call (XFr.call (XFr.call XFr.rf hF10 xm0 (xm1 0 rfl xm0) xm0) hF32 (xm1 0 rfl (xm1 1 rfl (xm1 2 rfl xm0))) (xm1 2 rfl xm0) xm0) hF38 xm0 (xm1 1 rfl xm0) xm0), (by rw [(t38 : Int32.toInt x38 = (-5 : Int))] <;> exact (by decide)), (v_X11_goesBack_41_2 (F := F) a G G10 G38 oq10 ((hF38.2.1 _ (xn1 (xne_k hk9999 hk9999a (by decide)) xn0)).trans (hF32.2.1 _ (xn1 (xne_k hk9999 hk9999b (by decide)) xn0)))), (v_X11_goesBack_41_3 (F := F) a G G10 G38 hA oq10 ((hF38.2.1 _ (xn1 (xne_k hk9999 hk9999a (by decide)) xn0)).trans (hF32.2.1 _ (xn1 (xne_k hk9999 hk9999b (by decide)) xn0)))), (v_X11_goesBack_41_4 (K := K) (F := F) a G G32 G38 ha s0 z0 z0a t32 (hF38.1 _ _ xn0))⟩ hT
theorem v_X11_settles_1_1 {F : Nat → Nat → Nat} (a : Nat) (G : XG)
    (hR : RV (G.2.1 (F a 10))) :
    RV (G.2.1 (F a 10)) := by exact hR
theorem v_X11_settles_1_2 {F : Nat → Nat → Nat} (a : Nat) (G : XG)
    (hM : RM (G.2.1 (F a 1)) (0)) :
    RM (G.2.1 (F a 1)) (0) := by exact hM
theorem v_X11_settles_1_3 {F : Nat → Nat → Nat} (a : Nat) (G : XG) (r1 : Int → Int)
    (h1 : LSt (G.2.1 (F a 10)) (G.2.1 (F a 12)) r1 12) :
    LSt (G.2.1 (F a 10)) (G.2.1 (F a 12)) r1 12 := by exact h1
theorem v_X11_settles_92_4 {F : Nat → Nat → Nat} (a : Nat) (G : XG) (G40 : XG)
    (hR : RV (G.2.1 (F a 10)))
    (c_G40_F_a_10 : G40.2.1 (F a 10) = G.2.1 (F a 10)) :
    RV (G40.2.1 (F a 10)) := by simp only [c_G40_F_a_10]; assumption
theorem v_X11_settles_92_5 {F : Nat → Nat → Nat} (a : Nat) (G : XG) (G40 : XG)
    (hM : RM (G.2.1 (F a 1)) (0))
    (hA : RM (G.2.1 (F a 4)) 0)
    (hB : RM (G.2.1 (F a 2)) 0)
    (c_G40_F_a_1 : G40.2.1 (F a 1) = G.2.1 (F a 1)) :
    RM (G40.2.1 (F a 1)) (0) := by simp only [c_G40_F_a_1]; assumption
theorem v_X11_settles_92_6 {F : Nat → Nat → Nat} (a : Nat) (G : XG) (G1 : XG) (G40 : XG) (r1 : Int → Int)
    (h1 : LSt (G.2.1 (F a 10)) (G.2.1 (F a 12)) r1 12)
    (oq1d : LSt (G.2.1 (F a 10)) (G1.2.1 (F a 11)) (mw (G.2.1 (F a 1)) 0) 12)
    (c_G40_F_a_10 : G40.2.1 (F a 10) = G.2.1 (F a 10))
    (c_G40_F_a_12 : G40.2.1 (F a 12) = G.2.1 (F a 12)) :
    LSt (G40.2.1 (F a 10)) (G40.2.1 (F a 12)) r1 12 := by simp only [c_G40_F_a_10, c_G40_F_a_12]; assumption
theorem v_X11_settles_92_7 {F : Nat → Nat → Nat} (a : Nat) (G : XG) (G1 : XG) (G40 : XG)
    (oq1d : LSt (G.2.1 (F a 10)) (G1.2.1 (F a 11)) (mw (G.2.1 (F a 1)) 0) 12)
    (c_G40_F_a_1 : G40.2.1 (F a 1) = G.2.1 (F a 1))
    (c_G40_F_a_10 : G40.2.1 (F a 10) = G.2.1 (F a 10))
    (c_G40_F_a_11 : G40.2.1 (F a 11) = G1.2.1 (F a 11)) :
    LSt (G40.2.1 (F a 10)) (G40.2.1 (F a 11)) (mw (G40.2.1 (F a 1)) 0) 12 := by
  rw [c_G40_F_a_10, c_G40_F_a_1, c_G40_F_a_11]; exact oq1d
theorem v_X11_settles_139_8 {K : Nat → Nat} {F : Nat → Nat → Nat} (a : Nat) (G : XG) (G1 : XG) (G92 : XG) (G95 : XG) (x92 : Int32) (G99 : XG) (G134 : XG) (r1 : Int → Int) (x1 : Int32)
    (ha : K a = 13)
    (oq1 : ((G1.1 a 45).toInt) = (((fuO (G.2.1 (F a 10)) r1 (mw (G.2.1 (F a 1)) 0) 2).length : Nat) : Int))
    (oq1b : x1.toInt = ffP (G.2.1 (F a 10)) (mw (G.2.1 (F a 1)) 0) (fuO (G.2.1 (F a 10)) r1 (mw (G.2.1 (F a 1)) 0) 0))
    (oq1c : ((G1.1 a 46).toInt) = x1.toInt)
    (oq1e : 0 ≤ ((G1.1 a 19).toInt) ∧ ((G1.1 a 19).toInt) ≤ 2388 ∧ -1 ≤ x1.toInt ∧ x1.toInt < ((G1.1 a 19).toInt))
    (oq92 : pL G92 F a = fuO (G.2.1 (F a 10)) r1 (mw (G.2.1 (F a 1)) 0) (1 : Int))
    (oq92a : x92.toInt = ffP (G.2.1 (F a 10)) (mw (G.2.1 (F a 1)) 0) (pL G92 F a))
    (oq92b : 0 ≤ ((G92.1 a 19).toInt) ∧ ((G92.1 a 19).toInt) ≤ 2388 ∧ x92.toInt < ((G92.1 a 19).toInt))
    (oq99 : ((G95.1 a 46).toInt) < ((G92.1 a 19).toInt) → aL G99 F a = (pL G95 F a).take ((G99.1 a 43).toInt).toNat)
    (wm : 0 ≤ ((G.1 a 23).toInt) ∧ ((G.1 a 23).toInt) ≤ 24)
    (am : 0 ≤ ((G.1 a 43).toInt) ∧ ((G.1 a 43).toInt) ≤ 2388)
    (c5 : x1.toInt = (-1 : Int))
    (f58 : ((G.1 a 6).toInt) = 0 ∨ ((G.1 a 6).toInt) = 1)
    (c45 : ((G.1 a 6).toInt) = 0)
    (t92 : -1 ≤ x92.toInt)
    (t99 : 0 ≤ ((G99.1 a 43).toInt) ∧ ((G99.1 a 43).toInt) ≤ 2388 ∧ ((G99.1 a 44).toInt) = x92.toInt ∧ ((x92.toInt = -1 ∧ ((G99.1 a 43).toInt) = ((G92.1 a 19).toInt)) ∨ (x92.toInt ≠ -1 ∧ ((G99.1 a 43).toInt) = x92.toInt + 1)))
    (c107 : x92.toInt = (-1 : Int))
    (c_G134_F_a_1 : G134.2.1 (F a 1) = G.2.1 (F a 1)) :
    ((ffP (G.2.1 (F a 10)) (mw (G.2.1 (F a 1)) 0) (fuO (G.2.1 (F a 10)) r1 (mw (G.2.1 (F a 1)) 0) 0) ≠ -1 ∨ (((G.1 a 6).toInt) = 0 ∧ ffP (G.2.1 (F a 10)) (mw (G.2.1 (F a 1)) 0) (fuO (G.2.1 (F a 10)) r1 (mw (G.2.1 (F a 1)) 0) 1) ≠ -1)) ∧ ((G1.1 a 45).toInt) = -5 ∧ mw (G134.2.1 (F a 1)) 0 = mw (G.2.1 (F a 4)) 0) ∨ (ffP (G.2.1 (F a 10)) (mw (G.2.1 (F a 1)) 0) (fuO (G.2.1 (F a 10)) r1 (mw (G.2.1 (F a 1)) 0) 0) = -1 ∧ (((G.1 a 6).toInt) = 0 → ffP (G.2.1 (F a 10)) (mw (G.2.1 (F a 1)) 0) (fuO (G.2.1 (F a 10)) r1 (mw (G.2.1 (F a 1)) 0) 1) = -1) ∧ ((G1.1 a 45).toInt) = (((fuO (G.2.1 (F a 10)) r1 (mw (G.2.1 (F a 1)) 0) 2).length : Nat) : Int) ∧ mw (G134.2.1 (F a 1)) 0 = mw (G.2.1 (F a 1)) 0) := by
  rw [oq92] at oq92a
  refine Or.inr ⟨by rw [← oq1b]; omega, fun h => by rw [← oq92a]; omega, ?_, ?_⟩
  · exact oq1
  · rw [c_G134_F_a_1]
theorem v_X11_settles_139_9 {F : Nat → Nat → Nat} (a : Nat) (G : XG) (G134 : XG)
    (hM : RM (G.2.1 (F a 1)) (0))
    (c_G134_F_a_1 : G134.2.1 (F a 1) = G.2.1 (F a 1)) :
    RM (G134.2.1 (F a 1)) 0 := by
  rw [c_G134_F_a_1]; exact hM
theorem v_X11_settles_121_10 {F : Nat → Nat → Nat} (a : Nat) (G : XG) (G92 : XG) (G119 : XG) (r1 : Int → Int)
    (oq92 : pL G92 F a = fuO (G.2.1 (F a 10)) r1 (mw (G.2.1 (F a 1)) 0) (1 : Int))
    (c_G119_F_a_10 : G119.2.1 (F a 10) = G.2.1 (F a 10))
    (c_G119_F_a_17 : G119.2.1 (F a 17) = G92.2.1 (F a 17))
    (c_G119_F_a_18 : G119.2.1 (F a 18) = G92.2.1 (F a 18))
    (d_G119_a_19 : G119.1 a 19 = G92.1 a 19) :
    PV (G119.2.1 (F a 10)) (pL G119 F a) := by
  rw [show pL G119 F a = pL G92 F a from pL_cg d_G119_a_19 c_G119_F_a_17 c_G119_F_a_18, oq92, c_G119_F_a_10]; exact fuO_pv _ _ _ _
theorem v_X11_settles_121_11 {F : Nat → Nat → Nat} (a : Nat) (G : XG) (G119 : XG)
    (hM : RM (G.2.1 (F a 1)) (0))
    (hA : RM (G.2.1 (F a 4)) 0)
    (hB : RM (G.2.1 (F a 2)) 0)
    (c_G119_F_a_4 : G119.2.1 (F a 4) = G.2.1 (F a 4)) :
    RM (G119.2.1 (F a 4)) 0 := by simp only [c_G119_F_a_4]; assumption
theorem v_X11_settles_124_12 {K : Nat → Nat} {F : Nat → Nat → Nat} (a : Nat) (G : XG) (G1 : XG) (G92 : XG) (G95 : XG) (x92 : Int32) (G99 : XG) (G121 : XG) (r1 : Int → Int) (x1 : Int32)
    (ha : K a = 13)
    (oq1 : ((G1.1 a 45).toInt) = (((fuO (G.2.1 (F a 10)) r1 (mw (G.2.1 (F a 1)) 0) 2).length : Nat) : Int))
    (oq1b : x1.toInt = ffP (G.2.1 (F a 10)) (mw (G.2.1 (F a 1)) 0) (fuO (G.2.1 (F a 10)) r1 (mw (G.2.1 (F a 1)) 0) 0))
    (oq1c : ((G1.1 a 46).toInt) = x1.toInt)
    (oq1e : 0 ≤ ((G1.1 a 19).toInt) ∧ ((G1.1 a 19).toInt) ≤ 2388 ∧ -1 ≤ x1.toInt ∧ x1.toInt < ((G1.1 a 19).toInt))
    (oq92 : pL G92 F a = fuO (G.2.1 (F a 10)) r1 (mw (G.2.1 (F a 1)) 0) (1 : Int))
    (oq92a : x92.toInt = ffP (G.2.1 (F a 10)) (mw (G.2.1 (F a 1)) 0) (pL G92 F a))
    (oq92b : 0 ≤ ((G92.1 a 19).toInt) ∧ ((G92.1 a 19).toInt) ≤ 2388 ∧ x92.toInt < ((G92.1 a 19).toInt))
    (oq99 : ((G95.1 a 46).toInt) < ((G92.1 a 19).toInt) → aL G99 F a = (pL G95 F a).take ((G99.1 a 43).toInt).toNat)
    (oq121 : mw (G121.2.1 (F a 1)) 0 = mw (G.2.1 (F a 4)) 0)
    (oq121b : 0 ≤ ((G121.1 a 23).toInt) ∧ ((G121.1 a 23).toInt) ≤ 24)
    (wm : 0 ≤ ((G.1 a 23).toInt) ∧ ((G.1 a 23).toInt) ≤ 24)
    (am : 0 ≤ ((G.1 a 43).toInt) ∧ ((G.1 a 43).toInt) ≤ 2388)
    (c5 : x1.toInt = (-1 : Int))
    (f63 : ((G.1 a 6).toInt) = 0 ∨ ((G.1 a 6).toInt) = 1)
    (c45 : ((G.1 a 6).toInt) = 0)
    (t92 : -1 ≤ x92.toInt)
    (t99 : 0 ≤ ((G99.1 a 43).toInt) ∧ ((G99.1 a 43).toInt) ≤ 2388 ∧ ((G99.1 a 44).toInt) = x92.toInt ∧ ((x92.toInt = -1 ∧ ((G99.1 a 43).toInt) = ((G92.1 a 19).toInt)) ∨ (x92.toInt ≠ -1 ∧ ((G99.1 a 43).toInt) = x92.toInt + 1)))
    (c107 : ¬ (x92.toInt = (-1 : Int))) :
    ((ffP (G.2.1 (F a 10)) (mw (G.2.1 (F a 1)) 0) (fuO (G.2.1 (F a 10)) r1 (mw (G.2.1 (F a 1)) 0) 0) ≠ -1 ∨ (((G.1 a 6).toInt) = 0 ∧ ffP (G.2.1 (F a 10)) (mw (G.2.1 (F a 1)) 0) (fuO (G.2.1 (F a 10)) r1 (mw (G.2.1 (F a 1)) 0) 1) ≠ -1)) ∧ -5 = -5 ∧ mw (G121.2.1 (F a 1)) 0 = mw (G.2.1 (F a 4)) 0) ∨ (ffP (G.2.1 (F a 10)) (mw (G.2.1 (F a 1)) 0) (fuO (G.2.1 (F a 10)) r1 (mw (G.2.1 (F a 1)) 0) 0) = -1 ∧ (((G.1 a 6).toInt) = 0 → ffP (G.2.1 (F a 10)) (mw (G.2.1 (F a 1)) 0) (fuO (G.2.1 (F a 10)) r1 (mw (G.2.1 (F a 1)) 0) 1) = -1) ∧ -5 = (((fuO (G.2.1 (F a 10)) r1 (mw (G.2.1 (F a 1)) 0) 2).length : Nat) : Int) ∧ mw (G121.2.1 (F a 1)) 0 = mw (G.2.1 (F a 1)) 0) := by
  rw [oq92] at oq92a
  refine Or.inl ⟨Or.inr ⟨by omega, by rw [← oq92a]; omega⟩, by omega, ?_⟩
  exact oq121
theorem v_X11_settles_124_13 {F : Nat → Nat → Nat} (a : Nat) (G121 : XG)
    (oq121a : RM (G121.2.1 (F a 1)) 0) :
    RM (G121.2.1 (F a 1)) 0 := by
  exact oq121a
theorem v_X11_settles_68_14 {F : Nat → Nat → Nat} (a : Nat) (G : XG) (G57 : XG)
    (hR : RV (G.2.1 (F a 10)))
    (c_G57_F_a_10 : G57.2.1 (F a 10) = G.2.1 (F a 10)) :
    RV (G57.2.1 (F a 10)) := by simp only [c_G57_F_a_10]; assumption
theorem v_X11_settles_68_15 {F : Nat → Nat → Nat} (a : Nat) (G : XG) (G57 : XG)
    (hM : RM (G.2.1 (F a 1)) (0))
    (hA : RM (G.2.1 (F a 4)) 0)
    (hB : RM (G.2.1 (F a 2)) 0)
    (c_G57_F_a_2 : G57.2.1 (F a 2) = G.2.1 (F a 2)) :
    RM (G57.2.1 (F a 2)) (0 : Int) := by simp only [c_G57_F_a_2]; assumption
theorem v_X11_settles_81_16 {F : Nat → Nat → Nat} (a : Nat) (G : XG) (G68 : XG)
    (hR : RV (G.2.1 (F a 10)))
    (c_G68_F_a_10 : G68.2.1 (F a 10) = G.2.1 (F a 10)) :
    RV (G68.2.1 (F a 10)) := by simp only [c_G68_F_a_10]; assumption
theorem v_X11_settles_88_17 {K : Nat → Nat} {F : Nat → Nat → Nat} (a : Nat) (G : XG) (G1 : XG) (G57 : XG) (G68 : XG) (G81 : XG) (r1 : Int → Int) (x1 : Int32)
    (ha : K a = 13)
    (oq1 : ((G1.1 a 45).toInt) = (((fuO (G.2.1 (F a 10)) r1 (mw (G.2.1 (F a 1)) 0) 2).length : Nat) : Int))
    (oq1b : x1.toInt = ffP (G.2.1 (F a 10)) (mw (G.2.1 (F a 1)) 0) (fuO (G.2.1 (F a 10)) r1 (mw (G.2.1 (F a 1)) 0) 0))
    (oq1c : ((G1.1 a 46).toInt) = x1.toInt)
    (oq1e : 0 ≤ ((G1.1 a 19).toInt) ∧ ((G1.1 a 19).toInt) ≤ 2388 ∧ -1 ≤ x1.toInt ∧ x1.toInt < ((G1.1 a 19).toInt))
    (oq68a : G68.2.2.2 = G57.2.2.2)
    (wm : 0 ≤ ((G.1 a 23).toInt) ∧ ((G.1 a 23).toInt) ≤ 24)
    (am : 0 ≤ ((G.1 a 43).toInt) ∧ ((G.1 a 43).toInt) ≤ 2388)
    (c5 : x1.toInt = (-1 : Int))
    (f55 : ((G.1 a 6).toInt) = 0 ∨ ((G.1 a 6).toInt) = 1)
    (c45 : ¬ (((G.1 a 6).toInt) = 0))
    (c_G81_F_a_1 : G81.2.1 (F a 1) = G.2.1 (F a 1)) :
    ((ffP (G.2.1 (F a 10)) (mw (G.2.1 (F a 1)) 0) (fuO (G.2.1 (F a 10)) r1 (mw (G.2.1 (F a 1)) 0) 0) ≠ -1 ∨ (((G.1 a 6).toInt) = 0 ∧ ffP (G.2.1 (F a 10)) (mw (G.2.1 (F a 1)) 0) (fuO (G.2.1 (F a 10)) r1 (mw (G.2.1 (F a 1)) 0) 1) ≠ -1)) ∧ ((G1.1 a 45).toInt) = -5 ∧ mw (G81.2.1 (F a 1)) 0 = mw (G.2.1 (F a 4)) 0) ∨ (ffP (G.2.1 (F a 10)) (mw (G.2.1 (F a 1)) 0) (fuO (G.2.1 (F a 10)) r1 (mw (G.2.1 (F a 1)) 0) 0) = -1 ∧ (((G.1 a 6).toInt) = 0 → ffP (G.2.1 (F a 10)) (mw (G.2.1 (F a 1)) 0) (fuO (G.2.1 (F a 10)) r1 (mw (G.2.1 (F a 1)) 0) 1) = -1) ∧ ((G1.1 a 45).toInt) = (((fuO (G.2.1 (F a 10)) r1 (mw (G.2.1 (F a 1)) 0) 2).length : Nat) : Int) ∧ mw (G81.2.1 (F a 1)) 0 = mw (G.2.1 (F a 1)) 0) := by
  refine Or.inr ⟨by rw [← oq1b]; omega, fun h => absurd h (by omega), ?_, ?_⟩
  · exact oq1
  · rw [c_G81_F_a_1]
theorem v_X11_settles_88_18 {F : Nat → Nat → Nat} (a : Nat) (G : XG) (G81 : XG)
    (hM : RM (G.2.1 (F a 1)) (0))
    (c_G81_F_a_1 : G81.2.1 (F a 1) = G.2.1 (F a 1)) :
    RM (G81.2.1 (F a 1)) 0 := by
  rw [c_G81_F_a_1]; exact hM
theorem v_X11_settles_24_19 {F : Nat → Nat → Nat} (a : Nat) (G : XG) (G1 : XG) (G22 : XG) (r1 : Int → Int)
    (oq1a : pL G1 F a = fuO (G.2.1 (F a 10)) r1 (mw (G.2.1 (F a 1)) 0) 0)
    (c_G22_F_a_10 : G22.2.1 (F a 10) = G.2.1 (F a 10))
    (c_G22_F_a_17 : G22.2.1 (F a 17) = G1.2.1 (F a 17))
    (c_G22_F_a_18 : G22.2.1 (F a 18) = G1.2.1 (F a 18))
    (d_G22_a_19 : G22.1 a 19 = G1.1 a 19) :
    PV (G22.2.1 (F a 10)) (pL G22 F a) := by
  rw [show pL G22 F a = pL G1 F a from pL_cg d_G22_a_19 c_G22_F_a_17 c_G22_F_a_18, oq1a, c_G22_F_a_10]; exact fuO_pv _ _ _ _
theorem v_X11_settles_24_20 {F : Nat → Nat → Nat} (a : Nat) (G : XG) (G22 : XG)
    (hM : RM (G.2.1 (F a 1)) (0))
    (hA : RM (G.2.1 (F a 4)) 0)
    (hB : RM (G.2.1 (F a 2)) 0)
    (c_G22_F_a_4 : G22.2.1 (F a 4) = G.2.1 (F a 4)) :
    RM (G22.2.1 (F a 4)) 0 := by simp only [c_G22_F_a_4]; assumption
theorem v_X11_settles_27_21 {K : Nat → Nat} {F : Nat → Nat → Nat} (a : Nat) (G : XG) (G1 : XG) (G24 : XG) (r1 : Int → Int) (x1 : Int32)
    (ha : K a = 13)
    (oq1 : ((G1.1 a 45).toInt) = (((fuO (G.2.1 (F a 10)) r1 (mw (G.2.1 (F a 1)) 0) 2).length : Nat) : Int))
    (oq1b : x1.toInt = ffP (G.2.1 (F a 10)) (mw (G.2.1 (F a 1)) 0) (fuO (G.2.1 (F a 10)) r1 (mw (G.2.1 (F a 1)) 0) 0))
    (oq1c : ((G1.1 a 46).toInt) = x1.toInt)
    (oq1e : 0 ≤ ((G1.1 a 19).toInt) ∧ ((G1.1 a 19).toInt) ≤ 2388 ∧ -1 ≤ x1.toInt ∧ x1.toInt < ((G1.1 a 19).toInt))
    (oq24 : mw (G24.2.1 (F a 1)) 0 = mw (G.2.1 (F a 4)) 0)
    (oq24b : 0 ≤ ((G24.1 a 23).toInt) ∧ ((G24.1 a 23).toInt) ≤ 24)
    (wm : 0 ≤ ((G.1 a 23).toInt) ∧ ((G.1 a 23).toInt) ≤ 24)
    (am : 0 ≤ ((G.1 a 43).toInt) ∧ ((G.1 a 43).toInt) ≤ 2388)
    (c5 : ¬ (x1.toInt = (-1 : Int))) :
    ((ffP (G.2.1 (F a 10)) (mw (G.2.1 (F a 1)) 0) (fuO (G.2.1 (F a 10)) r1 (mw (G.2.1 (F a 1)) 0) 0) ≠ -1 ∨ (((G.1 a 6).toInt) = 0 ∧ ffP (G.2.1 (F a 10)) (mw (G.2.1 (F a 1)) 0) (fuO (G.2.1 (F a 10)) r1 (mw (G.2.1 (F a 1)) 0) 1) ≠ -1)) ∧ -5 = -5 ∧ mw (G24.2.1 (F a 1)) 0 = mw (G.2.1 (F a 4)) 0) ∨ (ffP (G.2.1 (F a 10)) (mw (G.2.1 (F a 1)) 0) (fuO (G.2.1 (F a 10)) r1 (mw (G.2.1 (F a 1)) 0) 0) = -1 ∧ (((G.1 a 6).toInt) = 0 → ffP (G.2.1 (F a 10)) (mw (G.2.1 (F a 1)) 0) (fuO (G.2.1 (F a 10)) r1 (mw (G.2.1 (F a 1)) 0) 1) = -1) ∧ -5 = (((fuO (G.2.1 (F a 10)) r1 (mw (G.2.1 (F a 1)) 0) 2).length : Nat) : Int) ∧ mw (G24.2.1 (F a 1)) 0 = mw (G.2.1 (F a 1)) 0) := by
  refine Or.inl ⟨Or.inl (by rw [← oq1b]; omega), by omega, ?_⟩
  exact oq24
theorem v_X11_settles_27_22 {F : Nat → Nat → Nat} (a : Nat) (G24 : XG)
    (oq24a : RM (G24.2.1 (F a 1)) 0) :
    RM (G24.2.1 (F a 1)) 0 := by
  exact oq24a
theorem z_X11_settles_1 (a0 : Int) (a1 : Int) (h0 : -1 ≤ a0) (h1 : 0 ≤ a1 ∧ a1 ≤ 2388 ∧ a0 < a1) : 0 ≤ a1 ∧ a1 ≤ 2388 ∧ -1 ≤ a0 ∧ a0 < 2388 := by omega
theorem z_X11_settles_2 (a0 : Int) (a1 : Int) (h0 : 0 ≤ a0 ∧ a0 ≤ 24) (h1 : 0 ≤ a1) (h2 : a1 ≤ 2388) : (0 ≤ a0 ∧ a0 ≤ 24) ∧ (0 ≤ a1 ∧ a1 ≤ 2388) := by omega
theorem z_X11_settles_3 (a0 : Int) (a1 : Int) (h0 : -1 ≤ a0) (h1 : 0 ≤ a1 ∧ a1 ≤ 2388 ∧ a0 < a1) (h2 : ¬ (a0 = (-1 : Int))) : 0 ≤ a0 ∧ a0 < a1 ∧ a1 ≤ 2388 := by omega
theorem z_X11_settles_4 (a0 : Int) (a1 : Int) (h0 : 0 ≤ a1) (h1 : a1 ≤ 2388) (h2 : 0 ≤ a0 ∧ a0 ≤ 24) : (0 ≤ a0 ∧ a0 ≤ 24) ∧ (0 ≤ a1 ∧ a1 ≤ 2388) := by omega
theorem z_X11_settles_5 (a0 : Int) (a1 : Int) (h0 : 0 ≤ a0 ∧ a0 ≤ 24) (h1 : 0 ≤ a1 ∧ a1 ≤ 2388) : (0 ≤ a0 ∧ a0 ≤ 24) ∧ (0 ≤ a1 ∧ a1 ≤ 2388) := by omega
theorem z_X11_settles_6 (a0 : Int) (a1 : Int) (a2 : Int) (a3 : Int) (h0 : 0 ≤ a2 ∧ a2 ≤ 2388 ∧ -1 ≤ a0 ∧ a0 < a2) (h1 : a3 = a0) (h2 : a1 = (a3 + (1 : Int)) ∨ (a3 + (1 : Int)) < -2147483648 ∨ 2147483648 ≤ (a3 + (1 : Int))) : a1 = (a3 + (1 : Int)) := by omega
theorem z_X11_settles_7 (a0 : Int) (a1 : Int) (a2 : Int) (h0 : 0 ≤ a1 ∧ a1 ≤ 2388 ∧ -1 ≤ a0 ∧ a0 < a1) (h1 : a2 = a0) (h2 : ¬ (a0 = (-1 : Int))) : 0 ≤ a2 ∧ a2 < a1 ∧ a1 ≤ 2388 := by omega
theorem z_X11_settles_8 (a0 : Int) (a1 : Int) (h0 : 0 ≤ a0 ∧ a0 ≤ 2388) (h1 : 0 ≤ a1 ∧ a1 ≤ 24) : (0 ≤ a1 ∧ a1 ≤ 24) ∧ (0 ≤ a0 ∧ a0 ≤ 2388) := by omega
abbrev rm_X11_settles : Room := { frames := 7, cells := 0, slots := 0, locals := 166 }
set_option maxHeartbeats 4000000 in
set_option maxRecDepth 100000 in
theorem c_X11_settles (l : Launch) (E : XE) (K : Nat → Nat) (F : Nat → Nat → Nat) (G : XG) (a : Nat) (r1 : Int → Int) (ha : K a = 13) (wm : 0 ≤ ((G.1 a 23).toInt) ∧ ((G.1 a 23).toInt) ≤ 24) (am : 0 ≤ ((G.1 a 43).toInt) ∧ ((G.1 a 43).toInt) ≤ 2388) (hR : RV (G.2.1 (F a 10))) (hM : RM (G.2.1 (F a 1)) (0)) (hA : RM (G.2.1 (F a 4)) 0) (hB : RM (G.2.1 (F a 2)) 0) (h1 : LSt (G.2.1 (F a 10)) (G.2.1 (F a 12)) r1 12) : Met l yX11_settles (xw yX11_settles cX11_settles 1 (some .int)) rm_X11_settles (va_Pc [.ref a] (XP E K F G)) (XQ E (fun v (u : XG) => ∃ r : Int32, v = .int r ∧ XFr [(a, 16), (a, 19), (a, 20), (a, 21), (a, 23), (a, 45), (a, 46), (a, 43), (a, 44)] [F a 15, F a 17, F a 18, F a 1, F a 8, F a 22, F a 11, F a 13, F a 9, F a 41, F a 42] [] G u ∧ ((0 ≤ ((u.1 a 23).toInt) ∧ ((u.1 a 23).toInt) ≤ 24) ∧ (0 ≤ ((u.1 a 43).toInt) ∧ ((u.1 a 43).toInt) ≤ 2388)) ∧ (((ffP (G.2.1 (F a 10)) (mw (G.2.1 (F a 1)) 0) (fuO (G.2.1 (F a 10)) r1 (mw (G.2.1 (F a 1)) 0) 0) ≠ -1 ∨ (((G.1 a 6).toInt) = 0 ∧ ffP (G.2.1 (F a 10)) (mw (G.2.1 (F a 1)) 0) (fuO (G.2.1 (F a 10)) r1 (mw (G.2.1 (F a 1)) 0) 1) ≠ -1)) ∧ r.toInt = -5 ∧ mw (u.2.1 (F a 1)) 0 = mw (G.2.1 (F a 4)) 0) ∨ (ffP (G.2.1 (F a 10)) (mw (G.2.1 (F a 1)) 0) (fuO (G.2.1 (F a 10)) r1 (mw (G.2.1 (F a 1)) 0) 0) = -1 ∧ (((G.1 a 6).toInt) = 0 → ffP (G.2.1 (F a 10)) (mw (G.2.1 (F a 1)) 0) (fuO (G.2.1 (F a 10)) r1 (mw (G.2.1 (F a 1)) 0) 1) = -1) ∧ r.toInt = (((fuO (G.2.1 (F a 10)) r1 (mw (G.2.1 (F a 1)) 0) 2).length : Nat) : Int) ∧ mw (u.2.1 (F a 1)) 0 = mw (G.2.1 (F a 1)) 0)) ∧ (RM (u.2.1 (F a 1)) 0)) (fun u H => TW E K F u H)) 0 0 (xA E) := by
  refine x_enter (by decide) (Nat.le_of_ble_eq_true rfl) ?_
  intro p e s m args below meth c Q S hr hlk hnm hQ hP ls hl
  obtain ⟨hz, hK, hT⟩ := hP
  obtain ⟨hx, hb, -, -, -⟩ := id S
  obtain ⟨H, hT, hS, hgo⟩ : ∃ H : Heap, TW E K F G H ∧ va_S (xA E) s.heap H [] ∧ H = s.heap := ⟨_, hT, va_S.rf, rfl⟩
  rw [← hgo]
  have hl : lv_has ls 1 [(0, .ref a)] := hl
  obtain ⟨hk9999, hj9999⟩ := fkX11_15 hT ha
  obtain ⟨hk9999a, hj9999a⟩ := fkX11_17 hT ha
  obtain ⟨hk9999b, hj9999b⟩ := fkX11_18 hT ha
  obtain ⟨hk9999c, hj9999c⟩ := fkX11_1 hT ha
  obtain ⟨hk9999d, hj9999d⟩ := fkX11_8 hT ha
  obtain ⟨hk9999e, hj9999e⟩ := fkX11_22 hT ha
  obtain ⟨hk9999f, hj9999f⟩ := fkX11_11 hT ha
  obtain ⟨hk9999g, hj9999g⟩ := fkX11_13 hT ha
  obtain ⟨hk9999h, hj9999h⟩ := fkX11_9 hT ha
  obtain ⟨hk9999i, hj9999i⟩ := fkX11_41 hT ha
  obtain ⟨hk9999j, hj9999j⟩ := fkX11_42 hT ha
  obtain ⟨hk9999k, hj9999k⟩ := fkX11_10 hT ha
  obtain ⟨hk9999l, hj9999l⟩ := fkX11_4 hT ha
  obtain ⟨hk9999m, hj9999m⟩ := fkX11_2 hT ha
  obtain ⟨hk9999n, hj9999n⟩ := fkX11_12 hT ha
  refine lv_aload_n hx hb dX11_settles_0 rfl (lv_at hl 0 rfl) ?_
  refine x_cl0 (x_runV (b := a) (As := []) (rest := []) S (c_X11_look l E K F G a r1 ha (v_X11_settles_1_1 (F := F) a G hR) (v_X11_settles_1_2 (F := F) a G hM) (v_X11_settles_1_3 (F := F) a G r1 h1)) mv_X11_look km_X11_328 rfl rfl ⟨Nat.le_of_ble_eq_true rfl, Nat.le_of_ble_eq_true rfl⟩ (rc_13 hK hT ha) hK (fun _ => XP.blind) (fun U hU hW => XP.at hK hz hS hT hU hW) rfl hl.1 (Nat.le_of_ble_eq_true rfl) dX11_settles_1 ⟨Nat.le_of_ble_eq_true rfl, Nat.le_of_ble_eq_true rfl⟩) hS ?_
  rintro _ G1 H locs ⟨x1, rfl, hF1, oq1, oq1a, oq1b, oq1c, oq1d, oq1e⟩ hT hS
  have z4 : 0 ≤ ((G1.1 a 19).toInt) ∧ ((G1.1 a 19).toInt) ≤ 2388 ∧ -1 ≤ x1.toInt ∧ x1.toInt < ((G1.1 a 19).toInt) := oq1e
  have z4a : ((G1.1 a 46).toInt) = x1.toInt := oq1c
  refine lv_iconst (v := (-1)) hx hb dX11_settles_4 (by decide) ?_
  refine xi_ceq (tgt := 28) hx hb (rfl : Int32.toInt x1 = x1.toInt) ((by decide) : Int32.toInt (-1) = (-1 : Int)) dX11_settles_5 (by decide) (fun c5 => ?_) (fun c5 => ?_)
  · refine lv_aload_n hx hb dX11_settles_28 rfl (lv_at hl 0 rfl) ?_
    refine gX11_9 S hK hT ha kf_X11_30 dX11_settles_29 (fun _ _ => ?_)
    refine lv_iconst (v := 0) hx hb dX11_settles_32 (by decide) ?_
    refine lv_dup2_11 hx hb dX11_settles_33 rfl rfl ?_
    refine al_0 S hK hT hk9999h ar_36 (by decide) (by decide) dX11_settles_34 (fun x34 hv34 o34 => ?_)
    have hv34 : x34.toInt = (aI (G.2.1 (F a 9)) 0) := hv34.trans (by rw [((by decide) : Int32.toInt 0 = (0 : Int)), ((hF1.2.1 _ (xn1 (xne_k hk9999h hk9999 (by decide)) (xn1 (xne_k hk9999h hk9999a (by decide)) (xn1 (xne_k hk9999h hk9999b (by decide)) (xn1 (xne_k hk9999h hk9999f (by decide)) xn0))))) : G1.2.1 (F a 9) = G.2.1 (F a 9))])
    refine lv_aload_n hx hb dX11_settles_35 rfl (lv_at hl 0 rfl) ?_
    refine gX11_19 S hK hT ha kf_X11_203 dX11_settles_36 (v := (G1.1 a 19)) rfl (?_)
    refine xi_iadd hx hb (hv34 : Int32.toInt x34 = (aI (G.2.1 (F a 9)) 0)) (rfl : Int32.toInt (G1.1 a 19) = ((G1.1 a 19).toInt)) dX11_settles_39 (fun x39 t39 => ?_)
    refine as_0 (x := x39) S hK hT hS hk9999h ar_36 aw_36 (by decide) (by decide) dX11_settles_40 (fun H locs hT hS => ?_)
    obtain ⟨G40, hG40⟩ : ∃ GG : XG, GG = cput G1 (F a 9) (0 : Int32).toNatClampNeg x39 := ⟨_, rfl⟩
    rw [← hG40] at hT
    refine lv_aload_n hx hb dX11_settles_41 rfl (lv_at hl 0 rfl) ?_
    refine gX11_6 S hK hT ha kf_X11_206 dX11_settles_42 (v := (G.1 a 6)) ((lc_d hG40).trans (hF1.1 _ _ (xnj (by decide) (xnj (by decide) (xnj (by decide) (xnj (by decide) xn0)))))) (fun hz42 => ?_)
    refine xi_zeq (tgt := 89) hx hb (rfl : Int32.toInt (G.1 a 6) = ((G.1 a 6).toInt)) dX11_settles_45 (by decide) (fun c45 => ?_) (fun c45 => ?_)
    · refine lv_aload_n hx hb dX11_settles_89 rfl (lv_at hl 0 rfl) ?_
      refine lv_aload_n hx hb dX11_settles_90 rfl (lv_at hl 0 rfl) ?_
      refine lv_iconst (v := 1) hx hb dX11_settles_91 (by decide) ?_
      refine x_cl0 (x_runV (b := a) (As := [.int 1]) (rest := [.ref a]) S (c_X11_asks l E K F G40 a 1 r1 ha (v_X11_settles_92_4 (F := F) a G G40 hR ((lc_c hG40 (xne_k hk9999k hk9999h (by decide))).trans (hF1.2.1 _ (xn1 (xne_k hk9999k hk9999 (by decide)) (xn1 (xne_k hk9999k hk9999a (by decide)) (xn1 (xne_k hk9999k hk9999b (by decide)) (xn1 (xne_k hk9999k hk9999f (by decide)) xn0))))))) (v_X11_settles_92_5 (F := F) a G G40 hM hA hB ((lc_c hG40 (xne_k hk9999c hk9999h (by decide))).trans (hF1.2.1 _ (xn1 (xne_k hk9999c hk9999 (by decide)) (xn1 (xne_k hk9999c hk9999a (by decide)) (xn1 (xne_k hk9999c hk9999b (by decide)) (xn1 (xne_k hk9999c hk9999f (by decide)) xn0))))))) (v_X11_settles_92_6 (F := F) a G G1 G40 r1 h1 oq1d ((lc_c hG40 (xne_k hk9999k hk9999h (by decide))).trans (hF1.2.1 _ (xn1 (xne_k hk9999k hk9999 (by decide)) (xn1 (xne_k hk9999k hk9999a (by decide)) (xn1 (xne_k hk9999k hk9999b (by decide)) (xn1 (xne_k hk9999k hk9999f (by decide)) xn0)))))) ((lc_c hG40 (xne_k hk9999n hk9999h (by decide))).trans (hF1.2.1 _ (xn1 (xne_k hk9999n hk9999 (by decide)) (xn1 (xne_k hk9999n hk9999a (by decide)) (xn1 (xne_k hk9999n hk9999b (by decide)) (xn1 (xne_j hj9999n hj9999f (by first | decide | omega)) xn0))))))) (v_X11_settles_92_7 (F := F) a G G1 G40 oq1d ((lc_c hG40 (xne_k hk9999c hk9999h (by decide))).trans (hF1.2.1 _ (xn1 (xne_k hk9999c hk9999 (by decide)) (xn1 (xne_k hk9999c hk9999a (by decide)) (xn1 (xne_k hk9999c hk9999b (by decide)) (xn1 (xne_k hk9999c hk9999f (by decide)) xn0)))))) ((lc_c hG40 (xne_k hk9999k hk9999h (by decide))).trans (hF1.2.1 _ (xn1 (xne_k hk9999k hk9999 (by decide)) (xn1 (xne_k hk9999k hk9999a (by decide)) (xn1 (xne_k hk9999k hk9999b (by decide)) (xn1 (xne_k hk9999k hk9999f (by decide)) xn0)))))) (lc_c hG40 (xne_k hk9999f hk9999h (by decide))))) mv_X11_asks km_X11_319 rfl rfl ⟨Nat.le_of_ble_eq_true rfl, Nat.le_of_ble_eq_true rfl⟩ (rc_13 hK hT ha) hK (fun _ => XP.blind) (fun U hU hW => XP.at hK hz hS hT hU hW) rfl hl.1 (Nat.le_of_ble_eq_true rfl) dX11_settles_92 ⟨Nat.le_of_ble_eq_true rfl, Nat.le_of_ble_eq_true rfl⟩) hS ?_
      rintro _ G92 H locs ⟨x92, rfl, hF92, t92, oq92, oq92a, oq92b⟩ hT hS
      have t92 : -1 ≤ x92.toInt := t92
      have oq92 : pL G92 F a = fuO (G.2.1 (F a 10)) r1 (mw (G.2.1 (F a 1)) 0) (1 : Int) := by simp only [(show G40.2.1 (F a 10) = G.2.1 (F a 10) from ((lc_c hG40 (xne_k hk9999k hk9999h (by decide))).trans (hF1.2.1 _ (xn1 (xne_k hk9999k hk9999 (by decide)) (xn1 (xne_k hk9999k hk9999a (by decide)) (xn1 (xne_k hk9999k hk9999b (by decide)) (xn1 (xne_k hk9999k hk9999f (by decide)) xn0))))))), (show G40.2.1 (F a 1) = G.2.1 (F a 1) from ((lc_c hG40 (xne_k hk9999c hk9999h (by decide))).trans (hF1.2.1 _ (xn1 (xne_k hk9999c hk9999 (by decide)) (xn1 (xne_k hk9999c hk9999a (by decide)) (xn1 (xne_k hk9999c hk9999b (by decide)) (xn1 (xne_k hk9999c hk9999f (by decide)) xn0)))))))] at oq92; exact oq92
      have oq92a : x92.toInt = ffP (G.2.1 (F a 10)) (mw (G.2.1 (F a 1)) 0) (pL G92 F a) := by simp only [(show G40.2.1 (F a 10) = G.2.1 (F a 10) from ((lc_c hG40 (xne_k hk9999k hk9999h (by decide))).trans (hF1.2.1 _ (xn1 (xne_k hk9999k hk9999 (by decide)) (xn1 (xne_k hk9999k hk9999a (by decide)) (xn1 (xne_k hk9999k hk9999b (by decide)) (xn1 (xne_k hk9999k hk9999f (by decide)) xn0))))))), (show G40.2.1 (F a 1) = G.2.1 (F a 1) from ((lc_c hG40 (xne_k hk9999c hk9999h (by decide))).trans (hF1.2.1 _ (xn1 (xne_k hk9999c hk9999 (by decide)) (xn1 (xne_k hk9999c hk9999a (by decide)) (xn1 (xne_k hk9999c hk9999b (by decide)) (xn1 (xne_k hk9999c hk9999f (by decide)) xn0)))))))] at oq92a; exact oq92a
      have z95 : 0 ≤ ((G92.1 a 19).toInt) ∧ ((G92.1 a 19).toInt) ≤ 2388 ∧ x92.toInt < ((G92.1 a 19).toInt) := oq92b
      refine pX11_46 (v := x92) S hK hT hS ha kf_X11_322 dX11_settles_95 (fun H locs hT hS => ?_)
      obtain ⟨G95, hG95⟩ : ∃ GG : XG, GG = dput G92 a 46 x92 := ⟨_, rfl⟩
      rw [← hG95] at hT
      refine lv_aload_n hx hb dX11_settles_98 rfl (lv_at hl 0 rfl) ?_
      refine x_cv0 (x_runV (b := a) (As := []) (rest := []) S (c_X11_takeAsked l E K F G95 a ha (by rw [(show (G95.1 a 19).toInt = ((G92.1 a 19).toInt) from (congrArg Int32.toInt (ld_j hG95 (by decide))).trans (rfl : Int32.toInt (G92.1 a 19) = ((G92.1 a 19).toInt))), (show (G95.1 a 46).toInt = x92.toInt from (congrArg Int32.toInt (ld_at hG95)).trans (rfl : Int32.toInt x92 = x92.toInt))] <;> exact (z_X11_settles_1 x92.toInt ((G92.1 a 19).toInt) t92 z95))) mv_X11_takeAsked km_X11_337 rfl rfl ⟨Nat.le_of_ble_eq_true rfl, Nat.le_of_ble_eq_true rfl⟩ (rc_13 hK hT ha) hK (fun _ => XP.blind) (fun U hU hW => XP.at hK hz hS hT hU hW) rfl hl.1 (Nat.le_of_ble_eq_true rfl) dX11_settles_99 ⟨Nat.le_of_ble_eq_true rfl, Nat.le_of_ble_eq_true rfl⟩) hS ?_
      rintro G99 H locs ⟨hF99, t99, oq99⟩ hT hS
      have t99 : 0 ≤ ((G99.1 a 43).toInt) ∧ ((G99.1 a 43).toInt) ≤ 2388 ∧ ((G99.1 a 44).toInt) = x92.toInt ∧ ((x92.toInt = -1 ∧ ((G99.1 a 43).toInt) = ((G92.1 a 19).toInt)) ∨ (x92.toInt ≠ -1 ∧ ((G99.1 a 43).toInt) = x92.toInt + 1)) := by rw [(show (G95.1 a 46).toInt = x92.toInt from (congrArg Int32.toInt (ld_at hG95)).trans (rfl : Int32.toInt x92 = x92.toInt))] at t99; rw [(show (G95.1 a 19).toInt = ((G92.1 a 19).toInt) from (congrArg Int32.toInt (ld_j hG95 (by decide))).trans (rfl : Int32.toInt (G92.1 a 19) = ((G92.1 a 19).toInt)))] at t99; exact t99
      have oq99 : ((G95.1 a 46).toInt) < ((G92.1 a 19).toInt) → aL G99 F a = (pL G95 F a).take ((G99.1 a 43).toInt).toNat := by simp only [(show G95.1 a 19 = G92.1 a 19 from (ld_j hG95 (by decide)))] at oq99; exact oq99
      refine lv_aload_n hx hb dX11_settles_102 rfl (lv_at hl 0 rfl) ?_
      refine gX11_46 S hK hT ha kf_X11_322 dX11_settles_103 (v := x92) ((hF99.1 _ _ (xnj (by decide) (xnj (by decide) xn0))).trans (ld_at hG95)) (?_)
      refine lv_iconst (v := (-1)) hx hb dX11_settles_106 (by decide) ?_
      refine xi_ceq (tgt := 125) hx hb (rfl : Int32.toInt x92 = x92.toInt) ((by decide) : Int32.toInt (-1) = (-1 : Int)) dX11_settles_107 (by decide) (fun c107 => ?_) (fun c107 => ?_)
      · refine lv_aload_n hx hb dX11_settles_125 rfl (lv_at hl 0 rfl) ?_
        refine gX11_9 S hK hT ha kf_X11_30 dX11_settles_126 (fun _ _ => ?_)
        refine lv_iconst (v := 1) hx hb dX11_settles_129 (by decide) ?_
        refine lv_dup2_11 hx hb dX11_settles_130 rfl rfl ?_
        refine al_0 S hK hT hk9999h ar_36 (by decide) (by decide) dX11_settles_131 (fun x131 hv131 o131 => ?_)
        have hv131 : x131.toInt = (aI (G99.2.1 (F a 9)) 1) := hv131.trans (by rw [((by decide) : Int32.toInt 1 = (1 : Int))])
        refine lv_iconst (v := 1) hx hb dX11_settles_132 (by decide) ?_
        refine xi_iadd hx hb (hv131 : Int32.toInt x131 = (aI (G99.2.1 (F a 9)) 1)) ((by decide) : Int32.toInt 1 = (1 : Int)) dX11_settles_133 (fun x133 t133 => ?_)
        refine as_0 (x := x133) S hK hT hS hk9999h ar_36 aw_36 (by decide) (by decide) dX11_settles_134 (fun H locs hT hS => ?_)
        obtain ⟨G134, hG134⟩ : ∃ GG : XG, GG = cput G99 (F a 9) (1 : Int32).toNatClampNeg x133 := ⟨_, rfl⟩
        rw [← hG134] at hT
        refine lv_aload_n hx hb dX11_settles_135 rfl (lv_at hl 0 rfl) ?_
        refine gX11_45 S hK hT ha kf_X11_316 dX11_settles_136 (v := (G1.1 a 45)) ((lc_d hG134).trans ((hF99.1 _ _ (xnj (by decide) (xnj (by decide) xn0))).trans ((ld_j hG95 (by decide)).trans ((hF92.1 _ _ (xnj (by decide) (xnj (by decide) xn0))).trans (lc_d hG40))))) (?_)
        exact x_ri hx hb hr hlk hQ (Nat.le_of_ble_eq_true rfl) (Nat.le_of_ble_eq_true rfl) hS dX11_settles_139 G134 ⟨_, rfl, (by rw [hG134]; exact XFr.cput (XFr.call (by rw [hG95]; exact XFr.dput (XFr.call (by rw [hG40]; exact XFr.cput (XFr.call XFr.rf hF1 (xm1 0 rfl (xm1 1 rfl (xm1 5 rfl (xm1 6 rfl xm0)))) (xm1 0 rfl (xm1 1 rfl (xm1 2 rfl (xm1 6 rfl xm0)))) xm0) (List.mem_of_getElem? (i := 8) rfl)) hF92 (xm1 0 rfl (xm1 1 rfl xm0)) (xm1 0 rfl (xm1 1 rfl (xm1 2 rfl xm0))) xm0) (List.mem_of_getElem? (i := 6) rfl)) hF99 (xm1 7 rfl (xm1 8 rfl xm0)) (xm1 9 rfl (xm1 10 rfl (xm1 8 rfl xm0))) xm0) (List.mem_of_getElem? (i := 8) rfl)), (by rw [(show (G134.1 a 23).toInt = ((G.1 a 23).toInt) from (congrArg Int32.toInt ((lc_d hG134).trans ((hF99.1 _ _ (xnj (by decide) (xnj (by decide) xn0))).trans ((ld_j hG95 (by decide)).trans ((hF92.1 _ _ (xnj (by decide) (xnj (by decide) xn0))).trans ((lc_d hG40).trans (hF1.1 _ _ (xnj (by decide) (xnj (by decide) (xnj (by decide) (xnj (by decide) xn0))))))))))).trans (rfl : Int32.toInt (G.1 a 23) = ((G.1 a 23).toInt))), (show (G134.1 a 43).toInt = ((G99.1 a 43).toInt) from (congrArg Int32.toInt (lc_d hG134)).trans (rfl : Int32.toInt (G99.1 a 43) = ((G99.1 a 43).toInt)))] <;> exact (z_X11_settles_2 ((G.1 a 23).toInt) ((G99.1 a 43).toInt) wm (t99).1 (t99).2.1)), (v_X11_settles_139_8 (K := K) (F := F) a G G1 G92 G95 x92 G99 G134 r1 x1 ha oq1 oq1b oq1c oq1e oq92 oq92a oq92b oq99 wm am c5 (xzi hz42) c45 t92 t99 c107 ((lc_c hG134 (xne_k hk9999c hk9999h (by decide))).trans ((hF99.2.1 _ (xn1 (xne_k hk9999c hk9999i (by decide)) (xn1 (xne_k hk9999c hk9999j (by decide)) (xn1 (xne_k hk9999c hk9999h (by decide)) xn0)))).trans ((ld_c hG95).trans ((hF92.2.1 _ (xn1 (xne_k hk9999c hk9999 (by decide)) (xn1 (xne_k hk9999c hk9999a (by decide)) (xn1 (xne_k hk9999c hk9999b (by decide)) xn0)))).trans ((lc_c hG40 (xne_k hk9999c hk9999h (by decide))).trans (hF1.2.1 _ (xn1 (xne_k hk9999c hk9999 (by decide)) (xn1 (xne_k hk9999c hk9999a (by decide)) (xn1 (xne_k hk9999c hk9999b (by decide)) (xn1 (xne_k hk9999c hk9999f (by decide)) xn0))))))))))), (v_X11_settles_139_9 (F := F) a G G134 hM ((lc_c hG134 (xne_k hk9999c hk9999h (by decide))).trans ((hF99.2.1 _ (xn1 (xne_k hk9999c hk9999i (by decide)) (xn1 (xne_k hk9999c hk9999j (by decide)) (xn1 (xne_k hk9999c hk9999h (by decide)) xn0)))).trans ((ld_c hG95).trans ((hF92.2.1 _ (xn1 (xne_k hk9999c hk9999 (by decide)) (xn1 (xne_k hk9999c hk9999a (by decide)) (xn1 (xne_k hk9999c hk9999b (by decide)) xn0)))).trans ((lc_c hG40 (xne_k hk9999c hk9999h (by decide))).trans (hF1.2.1 _ (xn1 (xne_k hk9999c hk9999 (by decide)) (xn1 (xne_k hk9999c hk9999a (by decide)) (xn1 (xne_k hk9999c hk9999b (by decide)) (xn1 (xne_k hk9999c hk9999f (by decide)) xn0)))))))))))⟩ hT
      · refine lv_aload_n hx hb dX11_settles_110 rfl (lv_at hl 0 rfl) ?_
        refine gX11_9 S hK hT ha kf_X11_30 dX11_settles_111 (fun _ _ => ?_)
        refine lv_iconst (v := 2) hx hb dX11_settles_114 (by decide) ?_
        refine lv_dup2_11 hx hb dX11_settles_115 rfl rfl ?_
        refine al_0 S hK hT hk9999h ar_36 (by decide) (by decide) dX11_settles_116 (fun x116 hv116 o116 => ?_)
        have hv116 : x116.toInt = (aI (G99.2.1 (F a 9)) 2) := hv116.trans (by rw [((by decide) : Int32.toInt 2 = (2 : Int))])
        refine lv_iconst (v := 1) hx hb dX11_settles_117 (by decide) ?_
        refine xi_iadd hx hb (hv116 : Int32.toInt x116 = (aI (G99.2.1 (F a 9)) 2)) ((by decide) : Int32.toInt 1 = (1 : Int)) dX11_settles_118 (fun x118 t118 => ?_)
        refine as_0 (x := x118) S hK hT hS hk9999h ar_36 aw_36 (by decide) (by decide) dX11_settles_119 (fun H locs hT hS => ?_)
        obtain ⟨G119, hG119⟩ : ∃ GG : XG, GG = cput G99 (F a 9) (2 : Int32).toNatClampNeg x118 := ⟨_, rfl⟩
        rw [← hG119] at hT
        refine lv_aload_n hx hb dX11_settles_120 rfl (lv_at hl 0 rfl) ?_
        refine x_cl0 (x_runV (b := a) (As := []) (rest := []) S (c_X11_goesBack l E K F G119 a ha (by rw [(show (G119.1 a 46).toInt = x92.toInt from (congrArg Int32.toInt ((lc_d hG119).trans ((hF99.1 _ _ (xnj (by decide) (xnj (by decide) xn0))).trans (ld_at hG95)))).trans (rfl : Int32.toInt x92 = x92.toInt)), (show (G119.1 a 19).toInt = ((G92.1 a 19).toInt) from (congrArg Int32.toInt ((lc_d hG119).trans ((hF99.1 _ _ (xnj (by decide) (xnj (by decide) xn0))).trans (ld_j hG95 (by decide))))).trans (rfl : Int32.toInt (G92.1 a 19) = ((G92.1 a 19).toInt)))] <;> exact (z_X11_settles_3 x92.toInt ((G92.1 a 19).toInt) t92 z95 c107)) (v_X11_settles_121_10 (F := F) a G G92 G119 r1 oq92 ((lc_c hG119 (xne_k hk9999k hk9999h (by decide))).trans ((hF99.2.1 _ (xn1 (xne_k hk9999k hk9999i (by decide)) (xn1 (xne_k hk9999k hk9999j (by decide)) (xn1 (xne_k hk9999k hk9999h (by decide)) xn0)))).trans ((ld_c hG95).trans ((hF92.2.1 _ (xn1 (xne_k hk9999k hk9999 (by decide)) (xn1 (xne_k hk9999k hk9999a (by decide)) (xn1 (xne_k hk9999k hk9999b (by decide)) xn0)))).trans ((lc_c hG40 (xne_k hk9999k hk9999h (by decide))).trans (hF1.2.1 _ (xn1 (xne_k hk9999k hk9999 (by decide)) (xn1 (xne_k hk9999k hk9999a (by decide)) (xn1 (xne_k hk9999k hk9999b (by decide)) (xn1 (xne_k hk9999k hk9999f (by decide)) xn0)))))))))) ((lc_c hG119 (xne_k hk9999a hk9999h (by decide))).trans ((hF99.2.1 _ (xn1 (xne_k hk9999a hk9999i (by decide)) (xn1 (xne_k hk9999a hk9999j (by decide)) (xn1 (xne_k hk9999a hk9999h (by decide)) xn0)))).trans (ld_c hG95))) ((lc_c hG119 (xne_k hk9999b hk9999h (by decide))).trans ((hF99.2.1 _ (xn1 (xne_k hk9999b hk9999i (by decide)) (xn1 (xne_k hk9999b hk9999j (by decide)) (xn1 (xne_k hk9999b hk9999h (by decide)) xn0)))).trans (ld_c hG95))) ((lc_d hG119).trans ((hF99.1 _ _ (xnj (by decide) (xnj (by decide) xn0))).trans (ld_j hG95 (by decide))))) (v_X11_settles_121_11 (F := F) a G G119 hM hA hB ((lc_c hG119 (xne_k hk9999l hk9999h (by decide))).trans ((hF99.2.1 _ (xn1 (xne_k hk9999l hk9999i (by decide)) (xn1 (xne_k hk9999l hk9999j (by decide)) (xn1 (xne_k hk9999l hk9999h (by decide)) xn0)))).trans ((ld_c hG95).trans ((hF92.2.1 _ (xn1 (xne_k hk9999l hk9999 (by decide)) (xn1 (xne_k hk9999l hk9999a (by decide)) (xn1 (xne_k hk9999l hk9999b (by decide)) xn0)))).trans ((lc_c hG40 (xne_k hk9999l hk9999h (by decide))).trans (hF1.2.1 _ (xn1 (xne_k hk9999l hk9999 (by decide)) (xn1 (xne_k hk9999l hk9999a (by decide)) (xn1 (xne_k hk9999l hk9999b (by decide)) (xn1 (xne_k hk9999l hk9999f (by decide)) xn0)))))))))))) mv_X11_goesBack km_X11_331 rfl rfl ⟨Nat.le_of_ble_eq_true rfl, Nat.le_of_ble_eq_true rfl⟩ (rc_13 hK hT ha) hK (fun _ => XP.blind) (fun U hU hW => XP.at hK hz hS hT hU hW) rfl hl.1 (Nat.le_of_ble_eq_true rfl) dX11_settles_121 ⟨Nat.le_of_ble_eq_true rfl, Nat.le_of_ble_eq_true rfl⟩) hS ?_
        rintro _ G121 H locs ⟨x121, rfl, hF121, t121, oq121, oq121a, oq121b⟩ hT hS
        have t121 : x121.toInt = -5 := t121
        have oq121 : mw (G121.2.1 (F a 1)) 0 = mw (G.2.1 (F a 4)) 0 := by simp only [(show G119.2.1 (F a 4) = G.2.1 (F a 4) from ((lc_c hG119 (xne_k hk9999l hk9999h (by decide))).trans ((hF99.2.1 _ (xn1 (xne_k hk9999l hk9999i (by decide)) (xn1 (xne_k hk9999l hk9999j (by decide)) (xn1 (xne_k hk9999l hk9999h (by decide)) xn0)))).trans ((ld_c hG95).trans ((hF92.2.1 _ (xn1 (xne_k hk9999l hk9999 (by decide)) (xn1 (xne_k hk9999l hk9999a (by decide)) (xn1 (xne_k hk9999l hk9999b (by decide)) xn0)))).trans ((lc_c hG40 (xne_k hk9999l hk9999h (by decide))).trans (hF1.2.1 _ (xn1 (xne_k hk9999l hk9999 (by decide)) (xn1 (xne_k hk9999l hk9999a (by decide)) (xn1 (xne_k hk9999l hk9999b (by decide)) (xn1 (xne_k hk9999l hk9999f (by decide)) xn0)))))))))))] at oq121; exact oq121
        have z124 : 0 ≤ ((G121.1 a 23).toInt) ∧ ((G121.1 a 23).toInt) ≤ 24 := oq121b
        exact x_ri hx hb hr hlk hQ (Nat.le_of_ble_eq_true rfl) (Nat.le_of_ble_eq_true rfl) hS dX11_settles_124 G121 ⟨_, rfl, (XFr.call (by rw [hG119]; exact XFr.cput (XFr.call (by rw [hG95]; exact XFr.dput (XFr.call (by rw [hG40]; exact XFr.cput (XFr.call XFr.rf hF1 (xm1 0 rfl (xm1 1 rfl (xm1 5 rfl (xm1 6 rfl xm0)))) (xm1 0 rfl (xm1 1 rfl (xm1 2 rfl (xm1 6 rfl xm0)))) xm0) (List.mem_of_getElem? (i := 8) rfl)) hF92 (xm1 0 rfl (xm1 1 rfl xm0)) (xm1 0 rfl (xm1 1 rfl (xm1 2 rfl xm0))) xm0) (List.mem_of_getElem? (i := 6) rfl)) hF99 (xm1 7 rfl (xm1 8 rfl xm0)) (xm1 9 rfl (xm1 10 rfl (xm1 8 rfl xm0))) xm0) (List.mem_of_getElem? (i := 8) rfl)) hF121 (xm1 2 rfl (xm1 3 rfl (xm1 4 rfl xm0))) (xm1 3 rfl (xm1 4 rfl (xm1 5 rfl xm0))) xm0), (by rw [(show (G121.1 a 43).toInt = ((G99.1 a 43).toInt) from (congrArg Int32.toInt ((hF121.1 _ _ (xnj (by decide) (xnj (by decide) (xnj (by decide) xn0)))).trans (lc_d hG119))).trans (rfl : Int32.toInt (G99.1 a 43) = ((G99.1 a 43).toInt)))] <;> exact (z_X11_settles_4 ((G121.1 a 23).toInt) ((G99.1 a 43).toInt) (t99).1 (t99).2.1 z124)), (by rw [(t121 : Int32.toInt x121 = -5)] <;> exact (v_X11_settles_124_12 (K := K) (F := F) a G G1 G92 G95 x92 G99 G121 r1 x1 ha oq1 oq1b oq1c oq1e oq92 oq92a oq92b oq99 oq121 oq121b wm am c5 (xzi hz42) c45 t92 t99 c107)), (v_X11_settles_124_13 (F := F) a G121 oq121a)⟩ hT
    · refine lv_aload_n hx hb dX11_settles_48 rfl (lv_at hl 0 rfl) ?_
      refine gX11_8 S hK hT ha kf_X11_27 dX11_settles_49 (fun _ _ => ?_)
      refine lv_iconst (v := 4) hx hb dX11_settles_52 (by decide) ?_
      refine lv_dup2_11 hx hb dX11_settles_53 rfl rfl ?_
      refine al_0 S hK hT hk9999d ar_35 (by decide) (by decide) dX11_settles_54 (fun x54 hv54 o54 => ?_)
      have hv54 : x54.toInt = (aI (G.2.1 (F a 8)) 4) := hv54.trans (by rw [((by decide) : Int32.toInt 4 = (4 : Int)), (((lc_c hG40 (xne_k hk9999d hk9999h (by decide))).trans (hF1.2.1 _ (xn1 (xne_k hk9999d hk9999 (by decide)) (xn1 (xne_k hk9999d hk9999a (by decide)) (xn1 (xne_k hk9999d hk9999b (by decide)) (xn1 (xne_k hk9999d hk9999f (by decide)) xn0)))))) : G40.2.1 (F a 8) = G.2.1 (F a 8))])
      refine lv_iconst (v := 1) hx hb dX11_settles_55 (by decide) ?_
      refine xi_iadd hx hb (hv54 : Int32.toInt x54 = (aI (G.2.1 (F a 8)) 4)) ((by decide) : Int32.toInt 1 = (1 : Int)) dX11_settles_56 (fun x56 t56 => ?_)
      refine as_0 (x := x56) S hK hT hS hk9999d ar_35 aw_35 (by decide) (by decide) dX11_settles_57 (fun H locs hT hS => ?_)
      obtain ⟨G57, hG57⟩ : ∃ GG : XG, GG = cput G40 (F a 8) (4 : Int32).toNatClampNeg x56 := ⟨_, rfl⟩
      rw [← hG57] at hT
      refine lv_aload_n hx hb dX11_settles_58 rfl (lv_at hl 0 rfl) ?_
      refine lv_aload_n hx hb dX11_settles_59 rfl (lv_at hl 0 rfl) ?_
      refine gX11_13 S hK hT ha kf_X11_42 dX11_settles_60 (fun _ _ => ?_)
      refine lv_aload_n hx hb dX11_settles_63 rfl (lv_at hl 0 rfl) ?_
      refine gX11_2 S hK hT ha kf_X11_15 dX11_settles_64 (fun _ _ => ?_)
      refine lv_iconst (v := 0) hx hb dX11_settles_67 (by decide) ?_
      refine x_cv0 (x_runV (b := a) (As := [.ref (F a 13), .ref (F a 2), .int 0]) (rest := []) S (c_X11_layStates l E K F G57 a (F a 13) (F a 2) 0 ha hk9999g (XO.b hk9999m (by decide)) (v_X11_settles_68_14 (F := F) a G G57 hR ((lc_c hG57 (xne_k hk9999k hk9999d (by decide))).trans ((lc_c hG40 (xne_k hk9999k hk9999h (by decide))).trans (hF1.2.1 _ (xn1 (xne_k hk9999k hk9999 (by decide)) (xn1 (xne_k hk9999k hk9999a (by decide)) (xn1 (xne_k hk9999k hk9999b (by decide)) (xn1 (xne_k hk9999k hk9999f (by decide)) xn0)))))))) (v_X11_settles_68_15 (F := F) a G G57 hM hA hB ((lc_c hG57 (xne_k hk9999m hk9999d (by decide))).trans ((lc_c hG40 (xne_k hk9999m hk9999h (by decide))).trans (hF1.2.1 _ (xn1 (xne_k hk9999m hk9999 (by decide)) (xn1 (xne_k hk9999m hk9999a (by decide)) (xn1 (xne_k hk9999m hk9999b (by decide)) (xn1 (xne_k hk9999m hk9999f (by decide)) xn0))))))))) mv_X11_layStates km_X11_210 rfl rfl ⟨Nat.le_of_ble_eq_true rfl, Nat.le_of_ble_eq_true rfl⟩ (rc_13 hK hT ha) hK (fun _ => XP.blind) (fun U hU hW => XP.at hK hz hS hT hU hW) rfl hl.1 (Nat.le_of_ble_eq_true rfl) dX11_settles_68 ⟨Nat.le_of_ble_eq_true rfl, Nat.le_of_ble_eq_true rfl⟩) hS ?_
      rintro G68 H locs ⟨hF68, oq68, oq68a⟩ hT hS
      have oq68 : LSt (G.2.1 (F a 10)) (G68.2.1 (F a 13)) (mw (G.2.1 (F a 2)) (0 : Int)) 12 := by simp only [(show G57.2.1 (F a 10) = G.2.1 (F a 10) from ((lc_c hG57 (xne_k hk9999k hk9999d (by decide))).trans ((lc_c hG40 (xne_k hk9999k hk9999h (by decide))).trans (hF1.2.1 _ (xn1 (xne_k hk9999k hk9999 (by decide)) (xn1 (xne_k hk9999k hk9999a (by decide)) (xn1 (xne_k hk9999k hk9999b (by decide)) (xn1 (xne_k hk9999k hk9999f (by decide)) xn0)))))))), (show G57.2.1 (F a 2) = G.2.1 (F a 2) from ((lc_c hG57 (xne_k hk9999m hk9999d (by decide))).trans ((lc_c hG40 (xne_k hk9999m hk9999h (by decide))).trans (hF1.2.1 _ (xn1 (xne_k hk9999m hk9999 (by decide)) (xn1 (xne_k hk9999m hk9999a (by decide)) (xn1 (xne_k hk9999m hk9999b (by decide)) (xn1 (xne_k hk9999m hk9999f (by decide)) xn0))))))))] at oq68; exact oq68
      refine lv_aload_n hx hb dX11_settles_71 rfl (lv_at hl 0 rfl) ?_
      refine lv_aload_n hx hb dX11_settles_72 rfl (lv_at hl 0 rfl) ?_
      refine gX11_12 S hK hT ha kf_X11_39 dX11_settles_73 (fun _ _ => ?_)
      refine lv_aload_n hx hb dX11_settles_76 rfl (lv_at hl 0 rfl) ?_
      refine gX11_11 S hK hT ha kf_X11_36 dX11_settles_77 (fun _ _ => ?_)
      refine lv_iconst (v := 1) hx hb dX11_settles_80 (by decide) ?_
      refine x_cv0 (x_runV (b := a) (As := [.ref (F a 12), .ref (F a 11), .int 1]) (rest := []) S (c_X11_moves l E K F G68 a (F a 12) (F a 11) 1 ha hk9999n hk9999f (by decide) (v_X11_settles_81_16 (F := F) a G G68 hR ((hF68.2.1 _ (xn1 (xne_k hk9999k hk9999g (by decide)) xn0)).trans ((lc_c hG57 (xne_k hk9999k hk9999d (by decide))).trans ((lc_c hG40 (xne_k hk9999k hk9999h (by decide))).trans (hF1.2.1 _ (xn1 (xne_k hk9999k hk9999 (by decide)) (xn1 (xne_k hk9999k hk9999a (by decide)) (xn1 (xne_k hk9999k hk9999b (by decide)) (xn1 (xne_k hk9999k hk9999f (by decide)) xn0)))))))))) mv_X11_moves km_X11_334 rfl rfl ⟨Nat.le_of_ble_eq_true rfl, Nat.le_of_ble_eq_true rfl⟩ (rc_13 hK hT ha) hK (fun _ => XP.blind) (fun U hU hW => XP.at hK hz hS hT hU hW) rfl hl.1 (Nat.le_of_ble_eq_true rfl) dX11_settles_81 ⟨Nat.le_of_ble_eq_true rfl, Nat.le_of_ble_eq_true rfl⟩) hS ?_
      rintro G81 H locs hF81 hT hS
      refine lv_aload_n hx hb dX11_settles_84 rfl (lv_at hl 0 rfl) ?_
      refine gX11_45 S hK hT ha kf_X11_316 dX11_settles_85 (v := (G1.1 a 45)) ((hF81.1 _ _ xn0).trans ((hF68.1 _ _ xn0).trans ((lc_d hG57).trans (lc_d hG40)))) (?_)
      exact x_ri hx hb hr hlk hQ (Nat.le_of_ble_eq_true rfl) (Nat.le_of_ble_eq_true rfl) hS dX11_settles_88 G81 ⟨_, rfl, (XFr.call (XFr.call (by rw [hG57]; exact XFr.cput (by rw [hG40]; exact XFr.cput (XFr.call XFr.rf hF1 (xm1 0 rfl (xm1 1 rfl (xm1 5 rfl (xm1 6 rfl xm0)))) (xm1 0 rfl (xm1 1 rfl (xm1 2 rfl (xm1 6 rfl xm0)))) xm0) (List.mem_of_getElem? (i := 8) rfl)) (List.mem_of_getElem? (i := 4) rfl)) hF68 xm0 (xm1 7 rfl xm0) xm0) hF81 xm0 (xm1 4 rfl xm0) xm0), (by rw [(show (G81.1 a 23).toInt = ((G.1 a 23).toInt) from (congrArg Int32.toInt ((hF81.1 _ _ xn0).trans ((hF68.1 _ _ xn0).trans ((lc_d hG57).trans ((lc_d hG40).trans (hF1.1 _ _ (xnj (by decide) (xnj (by decide) (xnj (by decide) (xnj (by decide) xn0)))))))))).trans (rfl : Int32.toInt (G.1 a 23) = ((G.1 a 23).toInt))), (show (G81.1 a 43).toInt = ((G.1 a 43).toInt) from (congrArg Int32.toInt ((hF81.1 _ _ xn0).trans ((hF68.1 _ _ xn0).trans ((lc_d hG57).trans ((lc_d hG40).trans (hF1.1 _ _ (xnj (by decide) (xnj (by decide) (xnj (by decide) (xnj (by decide) xn0)))))))))).trans (rfl : Int32.toInt (G.1 a 43) = ((G.1 a 43).toInt)))] <;> exact (z_X11_settles_5 ((G.1 a 23).toInt) ((G.1 a 43).toInt) wm am)), (v_X11_settles_88_17 (K := K) (F := F) a G G1 G57 G68 G81 r1 x1 ha oq1 oq1b oq1c oq1e oq68a wm am c5 (xzi hz42) c45 ((hF81.2.1 _ (xn1 (xne_k hk9999c hk9999d (by decide)) xn0)).trans ((hF68.2.1 _ (xn1 (xne_k hk9999c hk9999g (by decide)) xn0)).trans ((lc_c hG57 (xne_k hk9999c hk9999d (by decide))).trans ((lc_c hG40 (xne_k hk9999c hk9999h (by decide))).trans (hF1.2.1 _ (xn1 (xne_k hk9999c hk9999 (by decide)) (xn1 (xne_k hk9999c hk9999a (by decide)) (xn1 (xne_k hk9999c hk9999b (by decide)) (xn1 (xne_k hk9999c hk9999f (by decide)) xn0)))))))))), (v_X11_settles_88_18 (F := F) a G G81 hM ((hF81.2.1 _ (xn1 (xne_k hk9999c hk9999d (by decide)) xn0)).trans ((hF68.2.1 _ (xn1 (xne_k hk9999c hk9999g (by decide)) xn0)).trans ((lc_c hG57 (xne_k hk9999c hk9999d (by decide))).trans ((lc_c hG40 (xne_k hk9999c hk9999h (by decide))).trans (hF1.2.1 _ (xn1 (xne_k hk9999c hk9999 (by decide)) (xn1 (xne_k hk9999c hk9999a (by decide)) (xn1 (xne_k hk9999c hk9999b (by decide)) (xn1 (xne_k hk9999c hk9999f (by decide)) xn0))))))))))⟩ hT
  · refine lv_aload_n hx hb dX11_settles_8 rfl (lv_at hl 0 rfl) ?_
    refine gX11_9 S hK hT ha kf_X11_30 dX11_settles_9 (fun _ _ => ?_)
    refine lv_iconst (v := 0) hx hb dX11_settles_12 (by decide) ?_
    refine lv_dup2_11 hx hb dX11_settles_13 rfl rfl ?_
    refine al_0 S hK hT hk9999h ar_36 (by decide) (by decide) dX11_settles_14 (fun x14 hv14 o14 => ?_)
    have hv14 : x14.toInt = (aI (G.2.1 (F a 9)) 0) := hv14.trans (by rw [((by decide) : Int32.toInt 0 = (0 : Int)), ((hF1.2.1 _ (xn1 (xne_k hk9999h hk9999 (by decide)) (xn1 (xne_k hk9999h hk9999a (by decide)) (xn1 (xne_k hk9999h hk9999b (by decide)) (xn1 (xne_k hk9999h hk9999f (by decide)) xn0))))) : G1.2.1 (F a 9) = G.2.1 (F a 9))])
    refine lv_aload_n hx hb dX11_settles_15 rfl (lv_at hl 0 rfl) ?_
    refine gX11_46 S hK hT ha kf_X11_322 dX11_settles_16 (v := (G1.1 a 46)) rfl (?_)
    refine lv_iconst (v := 1) hx hb dX11_settles_19 (by decide) ?_
    refine xi_iadd hx hb (rfl : Int32.toInt (G1.1 a 46) = ((G1.1 a 46).toInt)) ((by decide) : Int32.toInt 1 = (1 : Int)) dX11_settles_20 (fun x20 t20 => ?_)
    have e20 : x20.toInt = (((G1.1 a 46).toInt) + (1 : Int)) := (z_X11_settles_6 x1.toInt x20.toInt ((G1.1 a 19).toInt) ((G1.1 a 46).toInt) z4 z4a t20)
    refine xi_iadd hx hb (hv14 : Int32.toInt x14 = (aI (G.2.1 (F a 9)) 0)) (e20 : Int32.toInt x20 = (((G1.1 a 46).toInt) + (1 : Int))) dX11_settles_21 (fun x21 t21 => ?_)
    refine as_0 (x := x21) S hK hT hS hk9999h ar_36 aw_36 (by decide) (by decide) dX11_settles_22 (fun H locs hT hS => ?_)
    obtain ⟨G22, hG22⟩ : ∃ GG : XG, GG = cput G1 (F a 9) (0 : Int32).toNatClampNeg x21 := ⟨_, rfl⟩
    rw [← hG22] at hT
    refine lv_aload_n hx hb dX11_settles_23 rfl (lv_at hl 0 rfl) ?_
    refine x_cl0 (x_runV (b := a) (As := []) (rest := []) S (c_X11_goesBack l E K F G22 a ha (by rw [(show (G22.1 a 46).toInt = ((G1.1 a 46).toInt) from (congrArg Int32.toInt (lc_d hG22)).trans (rfl : Int32.toInt (G1.1 a 46) = ((G1.1 a 46).toInt))), (show (G22.1 a 19).toInt = ((G1.1 a 19).toInt) from (congrArg Int32.toInt (lc_d hG22)).trans (rfl : Int32.toInt (G1.1 a 19) = ((G1.1 a 19).toInt)))] <;> exact (z_X11_settles_7 x1.toInt ((G1.1 a 19).toInt) ((G1.1 a 46).toInt) z4 z4a c5)) (v_X11_settles_24_19 (F := F) a G G1 G22 r1 oq1a ((lc_c hG22 (xne_k hk9999k hk9999h (by decide))).trans (hF1.2.1 _ (xn1 (xne_k hk9999k hk9999 (by decide)) (xn1 (xne_k hk9999k hk9999a (by decide)) (xn1 (xne_k hk9999k hk9999b (by decide)) (xn1 (xne_k hk9999k hk9999f (by decide)) xn0)))))) (lc_c hG22 (xne_k hk9999a hk9999h (by decide))) (lc_c hG22 (xne_k hk9999b hk9999h (by decide))) (lc_d hG22)) (v_X11_settles_24_20 (F := F) a G G22 hM hA hB ((lc_c hG22 (xne_k hk9999l hk9999h (by decide))).trans (hF1.2.1 _ (xn1 (xne_k hk9999l hk9999 (by decide)) (xn1 (xne_k hk9999l hk9999a (by decide)) (xn1 (xne_k hk9999l hk9999b (by decide)) (xn1 (xne_k hk9999l hk9999f (by decide)) xn0)))))))) mv_X11_goesBack km_X11_331 rfl rfl ⟨Nat.le_of_ble_eq_true rfl, Nat.le_of_ble_eq_true rfl⟩ (rc_13 hK hT ha) hK (fun _ => XP.blind) (fun U hU hW => XP.at hK hz hS hT hU hW) rfl hl.1 (Nat.le_of_ble_eq_true rfl) dX11_settles_24 ⟨Nat.le_of_ble_eq_true rfl, Nat.le_of_ble_eq_true rfl⟩) hS ?_
    rintro _ G24 H locs ⟨x24, rfl, hF24, t24, oq24, oq24a, oq24b⟩ hT hS
    have t24 : x24.toInt = -5 := t24
    have oq24 : mw (G24.2.1 (F a 1)) 0 = mw (G.2.1 (F a 4)) 0 := by simp only [(show G22.2.1 (F a 4) = G.2.1 (F a 4) from ((lc_c hG22 (xne_k hk9999l hk9999h (by decide))).trans (hF1.2.1 _ (xn1 (xne_k hk9999l hk9999 (by decide)) (xn1 (xne_k hk9999l hk9999a (by decide)) (xn1 (xne_k hk9999l hk9999b (by decide)) (xn1 (xne_k hk9999l hk9999f (by decide)) xn0)))))))] at oq24; exact oq24
    have z27 : 0 ≤ ((G24.1 a 23).toInt) ∧ ((G24.1 a 23).toInt) ≤ 24 := oq24b
    exact x_ri hx hb hr hlk hQ (Nat.le_of_ble_eq_true rfl) (Nat.le_of_ble_eq_true rfl) hS dX11_settles_27 G24 ⟨_, rfl, (XFr.call (by rw [hG22]; exact XFr.cput (XFr.call XFr.rf hF1 (xm1 0 rfl (xm1 1 rfl (xm1 5 rfl (xm1 6 rfl xm0)))) (xm1 0 rfl (xm1 1 rfl (xm1 2 rfl (xm1 6 rfl xm0)))) xm0) (List.mem_of_getElem? (i := 8) rfl)) hF24 (xm1 2 rfl (xm1 3 rfl (xm1 4 rfl xm0))) (xm1 3 rfl (xm1 4 rfl (xm1 5 rfl xm0))) xm0), (by rw [(show (G24.1 a 43).toInt = ((G.1 a 43).toInt) from (congrArg Int32.toInt ((hF24.1 _ _ (xnj (by decide) (xnj (by decide) (xnj (by decide) xn0)))).trans ((lc_d hG22).trans (hF1.1 _ _ (xnj (by decide) (xnj (by decide) (xnj (by decide) (xnj (by decide) xn0)))))))).trans (rfl : Int32.toInt (G.1 a 43) = ((G.1 a 43).toInt)))] <;> exact (z_X11_settles_8 ((G.1 a 43).toInt) ((G24.1 a 23).toInt) am z27)), (by rw [(t24 : Int32.toInt x24 = -5)] <;> exact (v_X11_settles_27_21 (K := K) (F := F) a G G1 G24 r1 x1 ha oq1 oq1b oq1c oq1e oq24 oq24b wm am c5)), (v_X11_settles_27_22 (F := F) a G24 oq24a)⟩ hT
