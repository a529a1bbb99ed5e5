theorem v_X5_read_19_1 {F : Nat → Nat → Nat} (G11 : XG) (a : Nat) (G : XG) (G7 : XG) (G14 : XG)
    (oq11 : ((G11.1 a 2).toInt) = rn cBl (tC (G.2.1 (F (F a 0) 0)) ((G.1 (F a 0) 1).toInt)) ((G7.1 a 3).toInt) ∧ TokI (tC (G.2.1 (F (F a 0) 0)) ((G.1 (F a 0) 1).toInt)) ((G.1 (F a 0) 1).toInt) ((G11.1 a 1).toInt) ((G11.1 a 2).toInt) ((G11.1 a 3).toInt) ((G11.1 a 4).toInt))
    (n0 : 0 ≤ ((G.1 (F a 0) 1).toInt) ∧ ((G.1 (F a 0) 1).toInt) ≤ 80)
    (t11 : (0 ≤ ((G11.1 a 2).toInt) ∧ ((G11.1 a 2).toInt) ≤ ((G.1 (F a 0) 1).toInt)) ∧ (0 ≤ ((G11.1 a 3).toInt) ∧ ((G11.1 a 3).toInt) ≤ ((G.1 (F a 0) 1).toInt)))
    (c_G14_F_F_a_0_0 : G14.2.1 (F (F a 0) 0) = G.2.1 (F (F a 0) 0))
    (d_G14_F_a_0_1 : G14.1 (F a 0) 1 = G.1 (F a 0) 1)
    (d_G14_a_1 : G14.1 a 1 = G11.1 a 1)
    (d_G14_a_2 : G14.1 a 2 = G11.1 a 2)
    (d_G14_a_3 : G14.1 a 3 = G11.1 a 3)
    (d_G14_a_4 : G14.1 a 4 = G11.1 a 4)
    (d_G14_a_5 : G14.1 a 5 = 0)
    (d_G7_a_3 : G7.1 a 3 = 0) :
    RdI (tC (G14.2.1 (F (F a 0) 0)) ((G14.1 (F a 0) 1).toInt)) ((G14.1 (F a 0) 1).toInt) (1, rn cBl (tC (G.2.1 (F (F a 0) 0)) ((G.1 (F a 0) 1).toInt)) 0) ((G14.1 a 1).toInt) ((G14.1 a 2).toInt) ((G14.1 a 3).toInt) ((G14.1 a 4).toInt) ((G14.1 a 5).toInt) := by
  (try rw [c_G14_F_F_a_0_0])
  (try rw [d_G14_F_a_0_1])
  (try rw [d_G14_a_1])
  (try rw [d_G14_a_2])
  (try rw [d_G14_a_3])
  (try rw [d_G14_a_4])
  (try rw [d_G14_a_5])
  exact rd_st (by rw [oq11.1, d_G7_a_3]; rfl) (by decide) (by omega) oq11.2
theorem v_X5_read_30_2 {F : Nat → Nat → Nat} (G : XG) (a : Nat) (G19 : XG) (G22 : XG)
    (oq19a : RdI (tC (G.2.1 (F (F a 0) 0)) ((G.1 (F a 0) 1).toInt)) ((G.1 (F a 0) 1).toInt) (tkK (tC (G.2.1 (F (F a 0) 0)) ((G.1 (F a 0) 1).toInt)) (1, rn cBl (tC (G.2.1 (F (F a 0) 0)) ((G.1 (F a 0) 1).toInt)) 0)).2 ((G19.1 a 1).toInt) ((G19.1 a 2).toInt) ((G19.1 a 3).toInt) ((G19.1 a 4).toInt) ((G19.1 a 5).toInt))
    (c_G22_F_F_a_0_0 : G22.2.1 (F (F a 0) 0) = G.2.1 (F (F a 0) 0))
    (d_G22_F_a_0_1 : G22.1 (F a 0) 1 = G.1 (F a 0) 1)
    (d_G22_a_1 : G22.1 a 1 = G19.1 a 1)
    (d_G22_a_2 : G22.1 a 2 = G19.1 a 2)
    (d_G22_a_3 : G22.1 a 3 = G19.1 a 3)
    (d_G22_a_4 : G22.1 a 4 = G19.1 a 4)
    (d_G22_a_5 : G22.1 a 5 = G19.1 a 5) :
    RdI (tC (G22.2.1 (F (F a 0) 0)) ((G22.1 (F a 0) 1).toInt)) ((G22.1 (F a 0) 1).toInt) ((rS1 (tC (G.2.1 (F (F a 0) 0)) ((G.1 (F a 0) 1).toInt))).2) ((G22.1 a 1).toInt) ((G22.1 a 2).toInt) ((G22.1 a 3).toInt) ((G22.1 a 4).toInt) ((G22.1 a 5).toInt) := by
  (try rw [c_G22_F_F_a_0_0])
  (try rw [d_G22_F_a_0_1])
  (try rw [d_G22_a_1])
  (try rw [d_G22_a_2])
  (try rw [d_G22_a_3])
  (try rw [d_G22_a_4])
  (try rw [d_G22_a_5])
  exact oq19a
theorem v_X5_read_40_3 {F : Nat → Nat → Nat} (G : XG) (a : Nat) (G30 : XG) (G33 : XG)
    (oq30a : RdI (tC (G.2.1 (F (F a 0) 0)) ((G.1 (F a 0) 1).toInt)) ((G.1 (F a 0) 1).toInt) (tkN (tC (G.2.1 (F (F a 0) 0)) ((G.1 (F a 0) 1).toInt)) (0 : Int) (2 : Int) ((rS1 (tC (G.2.1 (F (F a 0) 0)) ((G.1 (F a 0) 1).toInt))).2)).2 ((G30.1 a 1).toInt) ((G30.1 a 2).toInt) ((G30.1 a 3).toInt) ((G30.1 a 4).toInt) ((G30.1 a 5).toInt))
    (c_G33_F_F_a_0_0 : G33.2.1 (F (F a 0) 0) = G.2.1 (F (F a 0) 0))
    (d_G33_F_a_0_1 : G33.1 (F a 0) 1 = G.1 (F a 0) 1)
    (d_G33_a_1 : G33.1 a 1 = G30.1 a 1)
    (d_G33_a_2 : G33.1 a 2 = G30.1 a 2)
    (d_G33_a_3 : G33.1 a 3 = G30.1 a 3)
    (d_G33_a_4 : G33.1 a 4 = G30.1 a 4)
    (d_G33_a_5 : G33.1 a 5 = G30.1 a 5) :
    RdI (tC (G33.2.1 (F (F a 0) 0)) ((G33.1 (F a 0) 1).toInt)) ((G33.1 (F a 0) 1).toInt) ((rS2 (tC (G.2.1 (F (F a 0) 0)) ((G.1 (F a 0) 1).toInt))).2) ((G33.1 a 1).toInt) ((G33.1 a 2).toInt) ((G33.1 a 3).toInt) ((G33.1 a 4).toInt) ((G33.1 a 5).toInt) := by
  (try rw [c_G33_F_F_a_0_0])
  (try rw [d_G33_F_a_0_1])
  (try rw [d_G33_a_1])
  (try rw [d_G33_a_2])
  (try rw [d_G33_a_3])
  (try rw [d_G33_a_4])
  (try rw [d_G33_a_5])
  exact oq30a
theorem v_X5_read_153_4 {F : Nat → Nat → Nat} (G : XG) (a : Nat) (G_149 : XG) (G_133 : XG)
    (rd7 : RdI (tC (G.2.1 (F (F a 0) 0)) ((G.1 (F a 0) 1).toInt)) (G.1 (F a 0) 1).toInt (rS7 (tC (G.2.1 (F (F a 0) 0)) ((G.1 (F a 0) 1).toInt))).2 ((G_149.1 a 1).toInt) ((G_149.1 a 2).toInt) ((G_149.1 a 3).toInt) ((G_149.1 a 4).toInt) ((G_133.1 a 5).toInt))
    (c_G_149_F_F_a_0_0 : G_149.2.1 (F (F a 0) 0) = G.2.1 (F (F a 0) 0))
    (d_G_149_F_a_0_1 : G_149.1 (F a 0) 1 = G.1 (F a 0) 1)
    (d_G_149_a_5 : G_149.1 a 5 = G_133.1 a 5) :
    RdI (tC (G_149.2.1 (F (F a 0) 0)) ((G_149.1 (F a 0) 1).toInt)) ((G_149.1 (F a 0) 1).toInt) ((rS7 (tC (G.2.1 (F (F a 0) 0)) ((G.1 (F a 0) 1).toInt))).2) ((G_149.1 a 1).toInt) ((G_149.1 a 2).toInt) ((G_149.1 a 3).toInt) ((G_149.1 a 4).toInt) ((G_149.1 a 5).toInt) := by
  (try rw [c_G_149_F_F_a_0_0])
  (try rw [d_G_149_F_a_0_1])
  (try rw [d_G_149_a_1])
  (try rw [d_G_149_a_2])
  (try rw [d_G_149_a_3])
  (try rw [d_G_149_a_4])
  (try rw [d_G_149_a_5])
  exact rd7
theorem v_X5_read_163_5 {F : Nat → Nat → Nat} (G : XG) (a : Nat) (G153 : XG) (G156 : XG) (G_133 : XG)
    (oq153a : RdI (tC (G.2.1 (F (F a 0) 0)) ((G.1 (F a 0) 1).toInt)) ((G.1 (F a 0) 1).toInt) (tkW (tC (G.2.1 (F (F a 0) 0)) ((G.1 (F a 0) 1).toInt)) (kw 8) ((rS7 (tC (G.2.1 (F (F a 0) 0)) ((G.1 (F a 0) 1).toInt))).2)).2 ((G153.1 a 1).toInt) ((G153.1 a 2).toInt) ((G153.1 a 3).toInt) ((G153.1 a 4).toInt) ((G153.1 a 5).toInt))
    (c_G156_F_F_a_0_0 : G156.2.1 (F (F a 0) 0) = G.2.1 (F (F a 0) 0))
    (d_G153_a_5 : G153.1 a 5 = G_133.1 a 5)
    (d_G156_F_a_0_1 : G156.1 (F a 0) 1 = G.1 (F a 0) 1)
    (d_G156_a_1 : G156.1 a 1 = G153.1 a 1)
    (d_G156_a_2 : G156.1 a 2 = G153.1 a 2)
    (d_G156_a_3 : G156.1 a 3 = G153.1 a 3)
    (d_G156_a_4 : G156.1 a 4 = G153.1 a 4)
    (d_G156_a_5 : G156.1 a 5 = G_133.1 a 5) :
    RdI (tC (G156.2.1 (F (F a 0) 0)) ((G156.1 (F a 0) 1).toInt)) ((G156.1 (F a 0) 1).toInt) ((rS8 (tC (G.2.1 (F (F a 0) 0)) ((G.1 (F a 0) 1).toInt))).2) ((G156.1 a 1).toInt) ((G156.1 a 2).toInt) ((G156.1 a 3).toInt) ((G156.1 a 4).toInt) ((G156.1 a 5).toInt) := by
  (try rw [d_G153_a_5] at oq153a)
  (try rw [c_G156_F_F_a_0_0])
  (try rw [d_G156_F_a_0_1])
  (try rw [d_G156_a_1])
  (try rw [d_G156_a_2])
  (try rw [d_G156_a_3])
  (try rw [d_G156_a_4])
  (try rw [d_G156_a_5])
  exact oq153a
theorem v_X5_read_208_6 {F : Nat → Nat → Nat} (G : XG) (a : Nat) (G_181 : XG) (G181 : XG)
    (rd9 : RdI (tC (G.2.1 (F (F a 0) 0)) ((G.1 (F a 0) 1).toInt)) (G.1 (F a 0) 1).toInt (rS9 (tC (G.2.1 (F (F a 0) 0)) ((G.1 (F a 0) 1).toInt))).2 ((G_181.1 a 1).toInt) ((G_181.1 a 2).toInt) ((G_181.1 a 3).toInt) ((G_181.1 a 4).toInt) ((G_181.1 a 5).toInt))
    (d_G181_a_2 : G181.1 a 2 = G_181.1 a 2) :
    (G181.1 a 2).toInt = (rS9 (tC (G.2.1 (F (F a 0) 0)) ((G.1 (F a 0) 1).toInt))).2.2 := by
  (try rw [d_G181_a_2])
  (try rw [d_G193_a_2])
  exact rd9.2.1.symm
theorem v_X5_read_208_7 {F : Nat → Nat → Nat} (G : XG) (a : Nat) (G_181 : XG)
    (rd9 : RdI (tC (G.2.1 (F (F a 0) 0)) ((G.1 (F a 0) 1).toInt)) (G.1 (F a 0) 1).toInt (rS9 (tC (G.2.1 (F (F a 0) 0)) ((G.1 (F a 0) 1).toInt))).2 ((G_181.1 a 1).toInt) ((G_181.1 a 2).toInt) ((G_181.1 a 3).toInt) ((G_181.1 a 4).toInt) ((G_181.1 a 5).toInt))
    (c188 : ((G_181.1 a 1).toInt) = 0)
    (c200 : ((G_181.1 a 5).toInt) = 0) :
    rOk (tC (G.2.1 (F (F a 0) 0)) ((G.1 (F a 0) 1).toInt)) ((G.1 (F a 0) 1).toInt) := by
  exact (rd_ok rd9).mp ⟨by omega, by omega⟩
theorem v_X5_read_208_8 {F : Nat → Nat → Nat} (x19 : Int32) (G : XG) (a : Nat) (x30 : Int32) (x40 : Int32) (G_80 : XG) (q14 : Nat) (G_133 : XG) (G_149 : XG) (x153 : Int32) (k_181 : Int32) (G22 : XG) (G181 : XG)
    (oq19 : x19.toInt = (tkK (tC (G.2.1 (F (F a 0) 0)) ((G.1 (F a 0) 1).toInt)) (1, rn cBl (tC (G.2.1 (F (F a 0) 0)) ((G.1 (F a 0) 1).toInt)) 0)).1)
    (oq30 : x30.toInt = (tkN (tC (G.2.1 (F (F a 0) 0)) ((G.1 (F a 0) 1).toInt)) (0 : Int) (2 : Int) ((rS1 (tC (G.2.1 (F (F a 0) 0)) ((G.1 (F a 0) 1).toInt))).2)).1)
    (oq40 : x40.toInt = (tkN (tC (G.2.1 (F (F a 0) 0)) ((G.1 (F a 0) 1).toInt)) (0 : Int) (2 : Int) ((rS2 (tC (G.2.1 (F (F a 0) 0)) ((G.1 (F a 0) 1).toInt))).2)).1)
    (f4 : ((G_80.1 q14 4).toInt) = (rS4 (tC (G.2.1 (F (F a 0) 0)) ((G.1 (F a 0) 1).toInt))).1)
    (f5 : ((G_133.1 q14 5).toInt) = (rS5 (tC (G.2.1 (F (F a 0) 0)) ((G.1 (F a 0) 1).toInt))).1)
    (f6 : ((G_133.1 q14 6).toInt) = (rS6 (tC (G.2.1 (F (F a 0) 0)) ((G.1 (F a 0) 1).toInt))).1)
    (f7 : ((G_149.1 q14 7).toInt) = (rS7 (tC (G.2.1 (F (F a 0) 0)) ((G.1 (F a 0) 1).toInt))).1)
    (oq153 : x153.toInt = (tkW (tC (G.2.1 (F (F a 0) 0)) ((G.1 (F a 0) 1).toInt)) (kw 8) ((rS7 (tC (G.2.1 (F (F a 0) 0)) ((G.1 (F a 0) 1).toInt))).2)).1)
    (f9 : k_181.toInt = (rS9 (tC (G.2.1 (F (F a 0) 0)) ((G.1 (F a 0) 1).toInt))).1)
    (t19 : 0 ≤ x19.toInt ∧ x19.toInt ≤ 5)
    (t22 : ((G22.1 q14 0).toInt) = x19.toInt ∧ ((G22.1 q14 1).toInt) = -1 ∧ ((G22.1 q14 4).toInt) = -1 ∧ ((G22.1 q14 7).toInt) = 0)
    (d_G181_q14_0 : G181.1 q14 0 = G22.1 q14 0)
    (d_G181_q14_1 : G181.1 q14 1 = G22.1 q14 1)
    (d_G181_q14_2 : G181.1 q14 2 = x30)
    (d_G181_q14_3 : G181.1 q14 3 = x40)
    (d_G181_q14_4 : G181.1 q14 4 = G_80.1 q14 4)
    (d_G181_q14_5 : G181.1 q14 5 = G_133.1 q14 5)
    (d_G181_q14_6 : G181.1 q14 6 = G_133.1 q14 6)
    (d_G181_q14_7 : G181.1 q14 7 = G_149.1 q14 7)
    (d_G181_q14_8 : G181.1 q14 8 = k_181)
    (d_G181_q14_9 : G181.1 q14 9 = x153) :
    (G181.1 q14 1).toInt = -1 ∧ (G181.1 q14 0).toInt = (rS1 (tC (G.2.1 (F (F a 0) 0)) ((G.1 (F a 0) 1).toInt))).1 ∧ (G181.1 q14 2).toInt = (rS2 (tC (G.2.1 (F (F a 0) 0)) ((G.1 (F a 0) 1).toInt))).1 ∧ (G181.1 q14 3).toInt = (rS3 (tC (G.2.1 (F (F a 0) 0)) ((G.1 (F a 0) 1).toInt))).1 ∧ (G181.1 q14 4).toInt = (rS4 (tC (G.2.1 (F (F a 0) 0)) ((G.1 (F a 0) 1).toInt))).1 ∧ (G181.1 q14 5).toInt = (rS5 (tC (G.2.1 (F (F a 0) 0)) ((G.1 (F a 0) 1).toInt))).1 ∧ (G181.1 q14 6).toInt = (rS6 (tC (G.2.1 (F (F a 0) 0)) ((G.1 (F a 0) 1).toInt))).1 ∧ (G181.1 q14 7).toInt = (rS7 (tC (G.2.1 (F (F a 0) 0)) ((G.1 (F a 0) 1).toInt))).1 ∧ (G181.1 q14 9).toInt = (rS8 (tC (G.2.1 (F (F a 0) 0)) ((G.1 (F a 0) 1).toInt))).1 ∧ (G181.1 q14 8).toInt = (rS9 (tC (G.2.1 (F (F a 0) 0)) ((G.1 (F a 0) 1).toInt))).1 := by
  have k19 : (rS1 (tC (G.2.1 (F (F a 0) 0)) ((G.1 (F a 0) 1).toInt))).1 = (G22.1 q14 0).toInt := by have := oq19; show (tkK _ _).1 = _; rw [← this]; omega
  refine ⟨?_, ?_, ?_, ?_, ?_, ?_, ?_, ?_, ?_, ?_⟩
  · rw [d_G181_q14_1]; omega
  · rw [d_G181_q14_0, k19]
  · rw [d_G181_q14_2]; exact oq30
  · rw [d_G181_q14_3]; exact oq40
  · rw [d_G181_q14_4]; exact f4
  · rw [d_G181_q14_5]; exact f5
  · rw [d_G181_q14_6]; exact f6
  · rw [d_G181_q14_7]; exact f7
  · rw [d_G181_q14_9]; exact oq153
  · rw [d_G181_q14_8]; exact f9
theorem v_X5_read_208_9 {F : Nat → Nat → Nat} (G : XG) (a : Nat) (G_181 : XG) (G181 : XG)
    (rd9 : RdI (tC (G.2.1 (F (F a 0) 0)) ((G.1 (F a 0) 1).toInt)) (G.1 (F a 0) 1).toInt (rS9 (tC (G.2.1 (F (F a 0) 0)) ((G.1 (F a 0) 1).toInt))).2 ((G_181.1 a 1).toInt) ((G_181.1 a 2).toInt) ((G_181.1 a 3).toInt) ((G_181.1 a 4).toInt) ((G_181.1 a 5).toInt))
    (d_G181_a_2 : G181.1 a 2 = G_181.1 a 2) :
    (G181.1 a 2).toInt = (rS9 (tC (G.2.1 (F (F a 0) 0)) ((G.1 (F a 0) 1).toInt))).2.2 := by
  (try rw [d_G181_a_2])
  (try rw [d_G193_a_2])
  exact rd9.2.1.symm
theorem v_X5_read_208_10 {F : Nat → Nat → Nat} (G : XG) (a : Nat) (G_181 : XG)
    (rd9 : RdI (tC (G.2.1 (F (F a 0) 0)) ((G.1 (F a 0) 1).toInt)) (G.1 (F a 0) 1).toInt (rS9 (tC (G.2.1 (F (F a 0) 0)) ((G.1 (F a 0) 1).toInt))).2 ((G_181.1 a 1).toInt) ((G_181.1 a 2).toInt) ((G_181.1 a 3).toInt) ((G_181.1 a 4).toInt) ((G_181.1 a 5).toInt))
    (c188 : ((G_181.1 a 1).toInt) = 0)
    (c200 : ¬ (((G_181.1 a 5).toInt) = 0)) :
    ¬ rOk (tC (G.2.1 (F (F a 0) 0)) ((G.1 (F a 0) 1).toInt)) ((G.1 (F a 0) 1).toInt) := by
  intro h
  have := (rd_ok rd9).mpr h
  omega
theorem v_X5_read_208_11 {F : Nat → Nat → Nat} (G : XG) (a : Nat) (G_181 : XG) (G193 : XG)
    (rd9 : RdI (tC (G.2.1 (F (F a 0) 0)) ((G.1 (F a 0) 1).toInt)) (G.1 (F a 0) 1).toInt (rS9 (tC (G.2.1 (F (F a 0) 0)) ((G.1 (F a 0) 1).toInt))).2 ((G_181.1 a 1).toInt) ((G_181.1 a 2).toInt) ((G_181.1 a 3).toInt) ((G_181.1 a 4).toInt) ((G_181.1 a 5).toInt))
    (d_G193_a_2 : G193.1 a 2 = G_181.1 a 2) :
    (G193.1 a 2).toInt = (rS9 (tC (G.2.1 (F (F a 0) 0)) ((G.1 (F a 0) 1).toInt))).2.2 := by
  (try rw [d_G181_a_2])
  (try rw [d_G193_a_2])
  exact rd9.2.1.symm
theorem v_X5_read_208_12 {F : Nat → Nat → Nat} (G : XG) (a : Nat) (G_181 : XG)
    (rd9 : RdI (tC (G.2.1 (F (F a 0) 0)) ((G.1 (F a 0) 1).toInt)) (G.1 (F a 0) 1).toInt (rS9 (tC (G.2.1 (F (F a 0) 0)) ((G.1 (F a 0) 1).toInt))).2 ((G_181.1 a 1).toInt) ((G_181.1 a 2).toInt) ((G_181.1 a 3).toInt) ((G_181.1 a 4).toInt) ((G_181.1 a 5).toInt))
    (c188 : ¬ (((G_181.1 a 1).toInt) = 0)) :
    ¬ rOk (tC (G.2.1 (F (F a 0) 0)) ((G.1 (F a 0) 1).toInt)) ((G.1 (F a 0) 1).toInt) := by
  intro h
  have := (rd_ok rd9).mpr h
  omega
theorem v_X5_read_179_13 {F : Nat → Nat → Nat} (x163 : Int32) (G : XG) (a : Nat) (G163 : XG) (G_133 : XG)
    (oq163 : x163.toInt = (tkW (tC (G.2.1 (F (F a 0) 0)) ((G.1 (F a 0) 1).toInt)) (kw 9) ((rS8 (tC (G.2.1 (F (F a 0) 0)) ((G.1 (F a 0) 1).toInt))).2)).1)
    (oq163a : RdI (tC (G.2.1 (F (F a 0) 0)) ((G.1 (F a 0) 1).toInt)) ((G.1 (F a 0) 1).toInt) (tkW (tC (G.2.1 (F (F a 0) 0)) ((G.1 (F a 0) 1).toInt)) (kw 9) ((rS8 (tC (G.2.1 (F (F a 0) 0)) ((G.1 (F a 0) 1).toInt))).2)).2 ((G163.1 a 1).toInt) ((G163.1 a 2).toInt) ((G163.1 a 3).toInt) ((G163.1 a 4).toInt) ((G163.1 a 5).toInt))
    (t163 : 0 ≤ x163.toInt ∧ x163.toInt ≤ 1)
    (c166 : x163.toInt = 0)
    (d_G163_a_5 : G163.1 a 5 = G_133.1 a 5) :
    RdI (tC (G.2.1 (F (F a 0) 0)) ((G.1 (F a 0) 1).toInt)) (G.1 (F a 0) 1).toInt (rS9 (tC (G.2.1 (F (F a 0) 0)) ((G.1 (F a 0) 1).toInt))).2 ((G163.1 a 1).toInt) ((G163.1 a 2).toInt) ((G163.1 a 3).toInt) ((G163.1 a 4).toInt) ((G_133.1 a 5).toInt) := by
  have e9 : rS9 (tC (G.2.1 (F (F a 0) 0)) ((G.1 (F a 0) 1).toInt)) = (50, (tkW (tC (G.2.1 (F (F a 0) 0)) ((G.1 (F a 0) 1).toInt)) (kw 9) (rS8 (tC (G.2.1 (F (F a 0) 0)) ((G.1 (F a 0) 1).toInt))).2).2) := if_neg (by rw [← oq163]; omega)
  rw [e9]
  (try rw [d_G163_a_5] at oq163a)
  exact oq163a
theorem v_X5_read_179_14 {F : Nat → Nat → Nat} (x163 : Int32) (G : XG) (a : Nat)
    (oq163 : x163.toInt = (tkW (tC (G.2.1 (F (F a 0) 0)) ((G.1 (F a 0) 1).toInt)) (kw 9) ((rS8 (tC (G.2.1 (F (F a 0) 0)) ((G.1 (F a 0) 1).toInt))).2)).1)
    (t163 : 0 ≤ x163.toInt ∧ x163.toInt ≤ 1)
    (c166 : x163.toInt = 0) :
    (50 : Int) = (rS9 (tC (G.2.1 (F (F a 0) 0)) ((G.1 (F a 0) 1).toInt))).1 := by
  have e9 : rS9 (tC (G.2.1 (F (F a 0) 0)) ((G.1 (F a 0) 1).toInt)) = (50, (tkW (tC (G.2.1 (F (F a 0) 0)) ((G.1 (F a 0) 1).toInt)) (kw 9) (rS8 (tC (G.2.1 (F (F a 0) 0)) ((G.1 (F a 0) 1).toInt))).2).2) := if_neg (by rw [← oq163]; omega)
  rw [e9]
theorem v_X5_read_173_15 {F : Nat → Nat → Nat} (G : XG) (a : Nat) (G163 : XG) (G_133 : XG)
    (oq163a : RdI (tC (G.2.1 (F (F a 0) 0)) ((G.1 (F a 0) 1).toInt)) ((G.1 (F a 0) 1).toInt) (tkW (tC (G.2.1 (F (F a 0) 0)) ((G.1 (F a 0) 1).toInt)) (kw 9) ((rS8 (tC (G.2.1 (F (F a 0) 0)) ((G.1 (F a 0) 1).toInt))).2)).2 ((G163.1 a 1).toInt) ((G163.1 a 2).toInt) ((G163.1 a 3).toInt) ((G163.1 a 4).toInt) ((G163.1 a 5).toInt))
    (c_G163_F_F_a_0_0 : G163.2.1 (F (F a 0) 0) = G.2.1 (F (F a 0) 0))
    (d_G163_F_a_0_1 : G163.1 (F a 0) 1 = G.1 (F a 0) 1)
    (d_G163_a_5 : G163.1 a 5 = G_133.1 a 5) :
    RdI (tC (G163.2.1 (F (F a 0) 0)) ((G163.1 (F a 0) 1).toInt)) ((G163.1 (F a 0) 1).toInt) ((tkW (tC (G.2.1 (F (F a 0) 0)) ((G.1 (F a 0) 1).toInt)) (kw 9) (rS8 (tC (G.2.1 (F (F a 0) 0)) ((G.1 (F a 0) 1).toInt))).2).2) ((G163.1 a 1).toInt) ((G163.1 a 2).toInt) ((G163.1 a 3).toInt) ((G163.1 a 4).toInt) ((G163.1 a 5).toInt) := by
  (try rw [d_G163_a_5] at oq163a)
  (try rw [c_G163_F_F_a_0_0])
  (try rw [d_G163_F_a_0_1])
  (try rw [d_G163_a_1])
  (try rw [d_G163_a_2])
  (try rw [d_G163_a_3])
  (try rw [d_G163_a_4])
  (try rw [d_G163_a_5])
  exact oq163a
theorem v_X5_read_176_16 {F : Nat → Nat → Nat} (x163 : Int32) (G : XG) (a : Nat) (G173 : XG)
    (oq163 : x163.toInt = (tkW (tC (G.2.1 (F (F a 0) 0)) ((G.1 (F a 0) 1).toInt)) (kw 9) ((rS8 (tC (G.2.1 (F (F a 0) 0)) ((G.1 (F a 0) 1).toInt))).2)).1)
    (oq173a : RdI (tC (G.2.1 (F (F a 0) 0)) ((G.1 (F a 0) 1).toInt)) ((G.1 (F a 0) 1).toInt) (tkN (tC (G.2.1 (F (F a 0) 0)) ((G.1 (F a 0) 1).toInt)) (0 : Int) (99 : Int) ((tkW (tC (G.2.1 (F (F a 0) 0)) ((G.1 (F a 0) 1).toInt)) (kw 9) (rS8 (tC (G.2.1 (F (F a 0) 0)) ((G.1 (F a 0) 1).toInt))).2).2)).2 ((G173.1 a 1).toInt) ((G173.1 a 2).toInt) ((G173.1 a 3).toInt) ((G173.1 a 4).toInt) ((G173.1 a 5).toInt))
    (t163 : 0 ≤ x163.toInt ∧ x163.toInt ≤ 1)
    (c166 : ¬ (x163.toInt = 0)) :
    RdI (tC (G.2.1 (F (F a 0) 0)) ((G.1 (F a 0) 1).toInt)) (G.1 (F a 0) 1).toInt (rS9 (tC (G.2.1 (F (F a 0) 0)) ((G.1 (F a 0) 1).toInt))).2 ((G173.1 a 1).toInt) ((G173.1 a 2).toInt) ((G173.1 a 3).toInt) ((G173.1 a 4).toInt) ((G173.1 a 5).toInt) := by
  have e9 : rS9 (tC (G.2.1 (F (F a 0) 0)) ((G.1 (F a 0) 1).toInt)) = tkN (tC (G.2.1 (F (F a 0) 0)) ((G.1 (F a 0) 1).toInt)) 0 99 (tkW (tC (G.2.1 (F (F a 0) 0)) ((G.1 (F a 0) 1).toInt)) (kw 9) (rS8 (tC (G.2.1 (F (F a 0) 0)) ((G.1 (F a 0) 1).toInt))).2).2 := if_pos (by rw [← oq163]; omega)
  rw [e9]
  exact oq173a
theorem v_X5_read_176_17 {F : Nat → Nat → Nat} (x163 : Int32) (G : XG) (a : Nat) (x173 : Int32)
    (oq163 : x163.toInt = (tkW (tC (G.2.1 (F (F a 0) 0)) ((G.1 (F a 0) 1).toInt)) (kw 9) ((rS8 (tC (G.2.1 (F (F a 0) 0)) ((G.1 (F a 0) 1).toInt))).2)).1)
    (oq173 : x173.toInt = (tkN (tC (G.2.1 (F (F a 0) 0)) ((G.1 (F a 0) 1).toInt)) (0 : Int) (99 : Int) ((tkW (tC (G.2.1 (F (F a 0) 0)) ((G.1 (F a 0) 1).toInt)) (kw 9) (rS8 (tC (G.2.1 (F (F a 0) 0)) ((G.1 (F a 0) 1).toInt))).2).2)).1)
    (t163 : 0 ≤ x163.toInt ∧ x163.toInt ≤ 1)
    (c166 : ¬ (x163.toInt = 0)) :
    x173.toInt = (rS9 (tC (G.2.1 (F (F a 0) 0)) ((G.1 (F a 0) 1).toInt))).1 := by
  have e9 : rS9 (tC (G.2.1 (F (F a 0) 0)) ((G.1 (F a 0) 1).toInt)) = tkN (tC (G.2.1 (F (F a 0) 0)) ((G.1 (F a 0) 1).toInt)) 0 99 (tkW (tC (G.2.1 (F (F a 0) 0)) ((G.1 (F a 0) 1).toInt)) (kw 9) (rS8 (tC (G.2.1 (F (F a 0) 0)) ((G.1 (F a 0) 1).toInt))).2).2 := if_pos (by rw [← oq163]; omega)
  rw [e9]
  exact oq173
theorem v_X5_read_138_18 {F : Nat → Nat → Nat} (x19 : Int32) (G : XG) (a : Nat) (G_133 : XG) (G22 : XG) (q14 : Nat)
    (oq19 : x19.toInt = (tkK (tC (G.2.1 (F (F a 0) 0)) ((G.1 (F a 0) 1).toInt)) (1, rn cBl (tC (G.2.1 (F (F a 0) 0)) ((G.1 (F a 0) 1).toInt)) 0)).1)
    (rd6 : RdI (tC (G.2.1 (F (F a 0) 0)) ((G.1 (F a 0) 1).toInt)) (G.1 (F a 0) 1).toInt (rS6 (tC (G.2.1 (F (F a 0) 0)) ((G.1 (F a 0) 1).toInt))).2 ((G_133.1 a 1).toInt) ((G_133.1 a 2).toInt) ((G_133.1 a 3).toInt) ((G_133.1 a 4).toInt) ((G_133.1 a 5).toInt))
    (t19 : 0 ≤ x19.toInt ∧ x19.toInt ≤ 5)
    (t22 : ((G22.1 q14 0).toInt) = x19.toInt ∧ ((G22.1 q14 1).toInt) = -1 ∧ ((G22.1 q14 4).toInt) = -1 ∧ ((G22.1 q14 7).toInt) = 0)
    (c138 : ((G22.1 q14 0).toInt) ≠ (1 : Int)) :
    RdI (tC (G.2.1 (F (F a 0) 0)) ((G.1 (F a 0) 1).toInt)) (G.1 (F a 0) 1).toInt (rS7 (tC (G.2.1 (F (F a 0) 0)) ((G.1 (F a 0) 1).toInt))).2 ((G_133.1 a 1).toInt) ((G_133.1 a 2).toInt) ((G_133.1 a 3).toInt) ((G_133.1 a 4).toInt) ((G_133.1 a 5).toInt) := by
  have k19 : (rS1 (tC (G.2.1 (F (F a 0) 0)) ((G.1 (F a 0) 1).toInt))).1 = (G22.1 q14 0).toInt := by have := oq19; show (tkK _ _).1 = _; rw [← this]; omega
  have e7 : rS7 (tC (G.2.1 (F (F a 0) 0)) ((G.1 (F a 0) 1).toInt)) = (0, (rS6 (tC (G.2.1 (F (F a 0) 0)) ((G.1 (F a 0) 1).toInt))).2) := if_neg (by rw [k19]; omega)
  rw [e7]
  exact rd6
theorem v_X5_read_138_19 {F : Nat → Nat → Nat} (x19 : Int32) (G : XG) (a : Nat) (G22 : XG) (q14 : Nat)
    (oq19 : x19.toInt = (tkK (tC (G.2.1 (F (F a 0) 0)) ((G.1 (F a 0) 1).toInt)) (1, rn cBl (tC (G.2.1 (F (F a 0) 0)) ((G.1 (F a 0) 1).toInt)) 0)).1)
    (t19 : 0 ≤ x19.toInt ∧ x19.toInt ≤ 5)
    (t22 : ((G22.1 q14 0).toInt) = x19.toInt ∧ ((G22.1 q14 1).toInt) = -1 ∧ ((G22.1 q14 4).toInt) = -1 ∧ ((G22.1 q14 7).toInt) = 0)
    (c138 : ((G22.1 q14 0).toInt) ≠ (1 : Int)) :
    ((G22.1 q14 7).toInt) = (rS7 (tC (G.2.1 (F (F a 0) 0)) ((G.1 (F a 0) 1).toInt))).1 := by
  have k19 : (rS1 (tC (G.2.1 (F (F a 0) 0)) ((G.1 (F a 0) 1).toInt))).1 = (G22.1 q14 0).toInt := by have := oq19; show (tkK _ _).1 = _; rw [← this]; omega
  have e7 : rS7 (tC (G.2.1 (F (F a 0) 0)) ((G.1 (F a 0) 1).toInt)) = (0, (rS6 (tC (G.2.1 (F (F a 0) 0)) ((G.1 (F a 0) 1).toInt))).2) := if_neg (by rw [k19]; omega)
  rw [e7]
  show _ = (0 : Int)
  omega
theorem v_X5_read_143_20 {F : Nat → Nat → Nat} (G : XG) (a : Nat) (G_133 : XG)
    (rd6 : RdI (tC (G.2.1 (F (F a 0) 0)) ((G.1 (F a 0) 1).toInt)) (G.1 (F a 0) 1).toInt (rS6 (tC (G.2.1 (F (F a 0) 0)) ((G.1 (F a 0) 1).toInt))).2 ((G_133.1 a 1).toInt) ((G_133.1 a 2).toInt) ((G_133.1 a 3).toInt) ((G_133.1 a 4).toInt) ((G_133.1 a 5).toInt))
    (c_G_133_F_F_a_0_0 : G_133.2.1 (F (F a 0) 0) = G.2.1 (F (F a 0) 0))
    (d_G_133_F_a_0_1 : G_133.1 (F a 0) 1 = G.1 (F a 0) 1) :
    RdI (tC (G_133.2.1 (F (F a 0) 0)) ((G_133.1 (F a 0) 1).toInt)) ((G_133.1 (F a 0) 1).toInt) ((rS6 (tC (G.2.1 (F (F a 0) 0)) ((G.1 (F a 0) 1).toInt))).2) ((G_133.1 a 1).toInt) ((G_133.1 a 2).toInt) ((G_133.1 a 3).toInt) ((G_133.1 a 4).toInt) ((G_133.1 a 5).toInt) := by
  (try rw [c_G_133_F_F_a_0_0])
  (try rw [d_G_133_F_a_0_1])
  (try rw [d_G_133_a_1])
  (try rw [d_G_133_a_2])
  (try rw [d_G_133_a_3])
  (try rw [d_G_133_a_4])
  (try rw [d_G_133_a_5])
  exact rd6
theorem v_X5_read_146_21 {F : Nat → Nat → Nat} (x19 : Int32) (G : XG) (a : Nat) (G143 : XG) (G22 : XG) (q14 : Nat) (G_133 : XG)
    (oq19 : x19.toInt = (tkK (tC (G.2.1 (F (F a 0) 0)) ((G.1 (F a 0) 1).toInt)) (1, rn cBl (tC (G.2.1 (F (F a 0) 0)) ((G.1 (F a 0) 1).toInt)) 0)).1)
    (oq143a : RdI (tC (G.2.1 (F (F a 0) 0)) ((G.1 (F a 0) 1).toInt)) ((G.1 (F a 0) 1).toInt) (tkA (tC (G.2.1 (F (F a 0) 0)) ((G.1 (F a 0) 1).toInt)) ((rS6 (tC (G.2.1 (F (F a 0) 0)) ((G.1 (F a 0) 1).toInt))).2)).2 ((G143.1 a 1).toInt) ((G143.1 a 2).toInt) ((G143.1 a 3).toInt) ((G143.1 a 4).toInt) ((G143.1 a 5).toInt))
    (t19 : 0 ≤ x19.toInt ∧ x19.toInt ≤ 5)
    (t22 : ((G22.1 q14 0).toInt) = x19.toInt ∧ ((G22.1 q14 1).toInt) = -1 ∧ ((G22.1 q14 4).toInt) = -1 ∧ ((G22.1 q14 7).toInt) = 0)
    (c138 : ¬ (((G22.1 q14 0).toInt) ≠ (1 : Int)))
    (d_G143_a_5 : G143.1 a 5 = G_133.1 a 5) :
    RdI (tC (G.2.1 (F (F a 0) 0)) ((G.1 (F a 0) 1).toInt)) (G.1 (F a 0) 1).toInt (rS7 (tC (G.2.1 (F (F a 0) 0)) ((G.1 (F a 0) 1).toInt))).2 ((G143.1 a 1).toInt) ((G143.1 a 2).toInt) ((G143.1 a 3).toInt) ((G143.1 a 4).toInt) ((G_133.1 a 5).toInt) := by
  have k19 : (rS1 (tC (G.2.1 (F (F a 0) 0)) ((G.1 (F a 0) 1).toInt))).1 = (G22.1 q14 0).toInt := by have := oq19; show (tkK _ _).1 = _; rw [← this]; omega
  have e7 : rS7 (tC (G.2.1 (F (F a 0) 0)) ((G.1 (F a 0) 1).toInt)) = tkA (tC (G.2.1 (F (F a 0) 0)) ((G.1 (F a 0) 1).toInt)) (rS6 (tC (G.2.1 (F (F a 0) 0)) ((G.1 (F a 0) 1).toInt))).2 := if_pos (by rw [k19]; omega)
  rw [e7]
  (try rw [d_G143_a_5] at oq143a)
  exact oq143a
theorem v_X5_read_146_22 {F : Nat → Nat → Nat} (x19 : Int32) (G : XG) (a : Nat) (x143 : Int32) (G22 : XG) (q14 : Nat)
    (oq19 : x19.toInt = (tkK (tC (G.2.1 (F (F a 0) 0)) ((G.1 (F a 0) 1).toInt)) (1, rn cBl (tC (G.2.1 (F (F a 0) 0)) ((G.1 (F a 0) 1).toInt)) 0)).1)
    (oq143 : x143.toInt = (tkA (tC (G.2.1 (F (F a 0) 0)) ((G.1 (F a 0) 1).toInt)) ((rS6 (tC (G.2.1 (F (F a 0) 0)) ((G.1 (F a 0) 1).toInt))).2)).1)
    (t19 : 0 ≤ x19.toInt ∧ x19.toInt ≤ 5)
    (t22 : ((G22.1 q14 0).toInt) = x19.toInt ∧ ((G22.1 q14 1).toInt) = -1 ∧ ((G22.1 q14 4).toInt) = -1 ∧ ((G22.1 q14 7).toInt) = 0)
    (c138 : ¬ (((G22.1 q14 0).toInt) ≠ (1 : Int))) :
    x143.toInt = (rS7 (tC (G.2.1 (F (F a 0) 0)) ((G.1 (F a 0) 1).toInt))).1 := by
  have k19 : (rS1 (tC (G.2.1 (F (F a 0) 0)) ((G.1 (F a 0) 1).toInt))).1 = (G22.1 q14 0).toInt := by have := oq19; show (tkK _ _).1 = _; rw [← this]; omega
  have e7 : rS7 (tC (G.2.1 (F (F a 0) 0)) ((G.1 (F a 0) 1).toInt)) = tkA (tC (G.2.1 (F (F a 0) 0)) ((G.1 (F a 0) 1).toInt)) (rS6 (tC (G.2.1 (F (F a 0) 0)) ((G.1 (F a 0) 1).toInt))).2 := if_pos (by rw [k19]; omega)
  rw [e7]
  exact oq143
theorem v_X5_read_112_23 {F : Nat → Nat → Nat} (G : XG) (a : Nat) (G_80 : XG)
    (rd4 : RdI (tC (G.2.1 (F (F a 0) 0)) ((G.1 (F a 0) 1).toInt)) (G.1 (F a 0) 1).toInt (rS4 (tC (G.2.1 (F (F a 0) 0)) ((G.1 (F a 0) 1).toInt))).2 ((G_80.1 a 1).toInt) ((G_80.1 a 2).toInt) ((G_80.1 a 3).toInt) ((G_80.1 a 4).toInt) ((G_80.1 a 5).toInt))
    (c_G_80_F_F_a_0_0 : G_80.2.1 (F (F a 0) 0) = G.2.1 (F (F a 0) 0))
    (d_G_80_F_a_0_1 : G_80.1 (F a 0) 1 = G.1 (F a 0) 1) :
    RdI (tC (G_80.2.1 (F (F a 0) 0)) ((G_80.1 (F a 0) 1).toInt)) ((G_80.1 (F a 0) 1).toInt) ((rS4 (tC (G.2.1 (F (F a 0) 0)) ((G.1 (F a 0) 1).toInt))).2) ((G_80.1 a 1).toInt) ((G_80.1 a 2).toInt) ((G_80.1 a 3).toInt) ((G_80.1 a 4).toInt) ((G_80.1 a 5).toInt) := by
  (try rw [c_G_80_F_F_a_0_0])
  (try rw [d_G_80_F_a_0_1])
  (try rw [d_G_80_a_1])
  (try rw [d_G_80_a_2])
  (try rw [d_G_80_a_3])
  (try rw [d_G_80_a_4])
  (try rw [d_G_80_a_5])
  exact rd4
theorem v_X5_read_127_24 {F : Nat → Nat → Nat} (x19 : Int32) (G : XG) (a : Nat) (G112 : XG) (G22 : XG) (q14 : Nat) (G115 : XG)
    (oq19 : x19.toInt = (tkK (tC (G.2.1 (F (F a 0) 0)) ((G.1 (F a 0) 1).toInt)) (1, rn cBl (tC (G.2.1 (F (F a 0) 0)) ((G.1 (F a 0) 1).toInt)) 0)).1)
    (oq112a : RdI (tC (G.2.1 (F (F a 0) 0)) ((G.1 (F a 0) 1).toInt)) ((G.1 (F a 0) 1).toInt) (tkN (tC (G.2.1 (F (F a 0) 0)) ((G.1 (F a 0) 1).toInt)) (-9999 : Int) (9999 : Int) ((rS4 (tC (G.2.1 (F (F a 0) 0)) ((G.1 (F a 0) 1).toInt))).2)).2 ((G112.1 a 1).toInt) ((G112.1 a 2).toInt) ((G112.1 a 3).toInt) ((G112.1 a 4).toInt) ((G112.1 a 5).toInt))
    (t19 : 0 ≤ x19.toInt ∧ x19.toInt ≤ 5)
    (t22 : ((G22.1 q14 0).toInt) = x19.toInt ∧ ((G22.1 q14 1).toInt) = -1 ∧ ((G22.1 q14 4).toInt) = -1 ∧ ((G22.1 q14 7).toInt) = 0)
    (I104_0 : ((G22.1 q14 0).toInt) = 2 ∨ ((G22.1 q14 0).toInt) = 3 ∨ ((G22.1 q14 0).toInt) = 4)
    (c_G115_F_F_a_0_0 : G115.2.1 (F (F a 0) 0) = G.2.1 (F (F a 0) 0))
    (d_G115_F_a_0_1 : G115.1 (F a 0) 1 = G.1 (F a 0) 1)
    (d_G115_a_1 : G115.1 a 1 = G112.1 a 1)
    (d_G115_a_2 : G115.1 a 2 = G112.1 a 2)
    (d_G115_a_3 : G115.1 a 3 = G112.1 a 3)
    (d_G115_a_4 : G115.1 a 4 = G112.1 a 4)
    (d_G115_a_5 : G115.1 a 5 = G112.1 a 5) :
    RdI (tC (G115.2.1 (F (F a 0) 0)) ((G115.1 (F a 0) 1).toInt)) ((G115.1 (F a 0) 1).toInt) ((rS5 (tC (G.2.1 (F (F a 0) 0)) ((G.1 (F a 0) 1).toInt))).2) ((G115.1 a 1).toInt) ((G115.1 a 2).toInt) ((G115.1 a 3).toInt) ((G115.1 a 4).toInt) ((G115.1 a 5).toInt) := by
  have k19 : (rS1 (tC (G.2.1 (F (F a 0) 0)) ((G.1 (F a 0) 1).toInt))).1 = (G22.1 q14 0).toInt := by have := oq19; show (tkK _ _).1 = _; rw [← this]; omega
  have e5 : rS5 (tC (G.2.1 (F (F a 0) 0)) ((G.1 (F a 0) 1).toInt)) = tkN (tC (G.2.1 (F (F a 0) 0)) ((G.1 (F a 0) 1).toInt)) (-9999) 9999 (rS4 (tC (G.2.1 (F (F a 0) 0)) ((G.1 (F a 0) 1).toInt))).2 := if_pos (by rw [k19]; omega)
  (try rw [c_G115_F_F_a_0_0])
  (try rw [d_G115_F_a_0_1])
  (try rw [d_G115_a_1])
  (try rw [d_G115_a_2])
  (try rw [d_G115_a_3])
  (try rw [d_G115_a_4])
  (try rw [d_G115_a_5])
  rw [e5]
  exact oq112a
theorem v_X5_read_130_25 {F : Nat → Nat → Nat} (x19 : Int32) (G : XG) (a : Nat) (x112 : Int32) (G127 : XG) (G22 : XG) (q14 : Nat)
    (oq19 : x19.toInt = (tkK (tC (G.2.1 (F (F a 0) 0)) ((G.1 (F a 0) 1).toInt)) (1, rn cBl (tC (G.2.1 (F (F a 0) 0)) ((G.1 (F a 0) 1).toInt)) 0)).1)
    (oq112 : x112.toInt = (tkN (tC (G.2.1 (F (F a 0) 0)) ((G.1 (F a 0) 1).toInt)) (-9999 : Int) (9999 : Int) ((rS4 (tC (G.2.1 (F (F a 0) 0)) ((G.1 (F a 0) 1).toInt))).2)).1)
    (oq127a : RdI (tC (G.2.1 (F (F a 0) 0)) ((G.1 (F a 0) 1).toInt)) ((G.1 (F a 0) 1).toInt) (tkN (tC (G.2.1 (F (F a 0) 0)) ((G.1 (F a 0) 1).toInt)) x112.toInt (9999 : Int) ((rS5 (tC (G.2.1 (F (F a 0) 0)) ((G.1 (F a 0) 1).toInt))).2)).2 ((G127.1 a 1).toInt) ((G127.1 a 2).toInt) ((G127.1 a 3).toInt) ((G127.1 a 4).toInt) ((G127.1 a 5).toInt))
    (t19 : 0 ≤ x19.toInt ∧ x19.toInt ≤ 5)
    (t22 : ((G22.1 q14 0).toInt) = x19.toInt ∧ ((G22.1 q14 1).toInt) = -1 ∧ ((G22.1 q14 4).toInt) = -1 ∧ ((G22.1 q14 7).toInt) = 0)
    (I104_0 : ((G22.1 q14 0).toInt) = 2 ∨ ((G22.1 q14 0).toInt) = 3 ∨ ((G22.1 q14 0).toInt) = 4) :
    RdI (tC (G.2.1 (F (F a 0) 0)) ((G.1 (F a 0) 1).toInt)) (G.1 (F a 0) 1).toInt (rS6 (tC (G.2.1 (F (F a 0) 0)) ((G.1 (F a 0) 1).toInt))).2 ((G127.1 a 1).toInt) ((G127.1 a 2).toInt) ((G127.1 a 3).toInt) ((G127.1 a 4).toInt) ((G127.1 a 5).toInt) := by
  have k19 : (rS1 (tC (G.2.1 (F (F a 0) 0)) ((G.1 (F a 0) 1).toInt))).1 = (G22.1 q14 0).toInt := by have := oq19; show (tkK _ _).1 = _; rw [← this]; omega
  have e5 : rS5 (tC (G.2.1 (F (F a 0) 0)) ((G.1 (F a 0) 1).toInt)) = tkN (tC (G.2.1 (F (F a 0) 0)) ((G.1 (F a 0) 1).toInt)) (-9999) 9999 (rS4 (tC (G.2.1 (F (F a 0) 0)) ((G.1 (F a 0) 1).toInt))).2 := if_pos (by rw [k19]; omega)
  have e6 : rS6 (tC (G.2.1 (F (F a 0) 0)) ((G.1 (F a 0) 1).toInt)) = tkN (tC (G.2.1 (F (F a 0) 0)) ((G.1 (F a 0) 1).toInt)) (rS5 (tC (G.2.1 (F (F a 0) 0)) ((G.1 (F a 0) 1).toInt))).1 9999 (rS5 (tC (G.2.1 (F (F a 0) 0)) ((G.1 (F a 0) 1).toInt))).2 := if_pos (by rw [k19]; omega)
  rw [e6]
  rw [show x112.toInt = (rS5 (tC (G.2.1 (F (F a 0) 0)) ((G.1 (F a 0) 1).toInt))).1 from by rw [e5]; exact oq112] at oq127a
  exact oq127a
theorem v_X5_read_130_26 {F : Nat → Nat → Nat} (x19 : Int32) (G : XG) (a : Nat) (x112 : Int32) (G22 : XG) (q14 : Nat)
    (oq19 : x19.toInt = (tkK (tC (G.2.1 (F (F a 0) 0)) ((G.1 (F a 0) 1).toInt)) (1, rn cBl (tC (G.2.1 (F (F a 0) 0)) ((G.1 (F a 0) 1).toInt)) 0)).1)
    (oq112 : x112.toInt = (tkN (tC (G.2.1 (F (F a 0) 0)) ((G.1 (F a 0) 1).toInt)) (-9999 : Int) (9999 : Int) ((rS4 (tC (G.2.1 (F (F a 0) 0)) ((G.1 (F a 0) 1).toInt))).2)).1)
    (t19 : 0 ≤ x19.toInt ∧ x19.toInt ≤ 5)
    (t22 : ((G22.1 q14 0).toInt) = x19.toInt ∧ ((G22.1 q14 1).toInt) = -1 ∧ ((G22.1 q14 4).toInt) = -1 ∧ ((G22.1 q14 7).toInt) = 0)
    (I104_0 : ((G22.1 q14 0).toInt) = 2 ∨ ((G22.1 q14 0).toInt) = 3 ∨ ((G22.1 q14 0).toInt) = 4) :
    x112.toInt = (rS5 (tC (G.2.1 (F (F a 0) 0)) ((G.1 (F a 0) 1).toInt))).1 := by
  have k19 : (rS1 (tC (G.2.1 (F (F a 0) 0)) ((G.1 (F a 0) 1).toInt))).1 = (G22.1 q14 0).toInt := by have := oq19; show (tkK _ _).1 = _; rw [← this]; omega
  have e5 : rS5 (tC (G.2.1 (F (F a 0) 0)) ((G.1 (F a 0) 1).toInt)) = tkN (tC (G.2.1 (F (F a 0) 0)) ((G.1 (F a 0) 1).toInt)) (-9999) 9999 (rS4 (tC (G.2.1 (F (F a 0) 0)) ((G.1 (F a 0) 1).toInt))).2 := if_pos (by rw [k19]; omega)
  rw [e5]
  exact oq112
theorem v_X5_read_130_27 {F : Nat → Nat → Nat} (x19 : Int32) (G : XG) (a : Nat) (x112 : Int32) (x127 : Int32) (G22 : XG) (q14 : Nat)
    (oq19 : x19.toInt = (tkK (tC (G.2.1 (F (F a 0) 0)) ((G.1 (F a 0) 1).toInt)) (1, rn cBl (tC (G.2.1 (F (F a 0) 0)) ((G.1 (F a 0) 1).toInt)) 0)).1)
    (oq112 : x112.toInt = (tkN (tC (G.2.1 (F (F a 0) 0)) ((G.1 (F a 0) 1).toInt)) (-9999 : Int) (9999 : Int) ((rS4 (tC (G.2.1 (F (F a 0) 0)) ((G.1 (F a 0) 1).toInt))).2)).1)
    (oq127 : x127.toInt = (tkN (tC (G.2.1 (F (F a 0) 0)) ((G.1 (F a 0) 1).toInt)) x112.toInt (9999 : Int) ((rS5 (tC (G.2.1 (F (F a 0) 0)) ((G.1 (F a 0) 1).toInt))).2)).1)
    (t19 : 0 ≤ x19.toInt ∧ x19.toInt ≤ 5)
    (t22 : ((G22.1 q14 0).toInt) = x19.toInt ∧ ((G22.1 q14 1).toInt) = -1 ∧ ((G22.1 q14 4).toInt) = -1 ∧ ((G22.1 q14 7).toInt) = 0)
    (I104_0 : ((G22.1 q14 0).toInt) = 2 ∨ ((G22.1 q14 0).toInt) = 3 ∨ ((G22.1 q14 0).toInt) = 4) :
    x127.toInt = (rS6 (tC (G.2.1 (F (F a 0) 0)) ((G.1 (F a 0) 1).toInt))).1 := by
  have k19 : (rS1 (tC (G.2.1 (F (F a 0) 0)) ((G.1 (F a 0) 1).toInt))).1 = (G22.1 q14 0).toInt := by have := oq19; show (tkK _ _).1 = _; rw [← this]; omega
  have e5 : rS5 (tC (G.2.1 (F (F a 0) 0)) ((G.1 (F a 0) 1).toInt)) = tkN (tC (G.2.1 (F (F a 0) 0)) ((G.1 (F a 0) 1).toInt)) (-9999) 9999 (rS4 (tC (G.2.1 (F (F a 0) 0)) ((G.1 (F a 0) 1).toInt))).2 := if_pos (by rw [k19]; omega)
  have e6 : rS6 (tC (G.2.1 (F (F a 0) 0)) ((G.1 (F a 0) 1).toInt)) = tkN (tC (G.2.1 (F (F a 0) 0)) ((G.1 (F a 0) 1).toInt)) (rS5 (tC (G.2.1 (F (F a 0) 0)) ((G.1 (F a 0) 1).toInt))).1 9999 (rS5 (tC (G.2.1 (F (F a 0) 0)) ((G.1 (F a 0) 1).toInt))).2 := if_pos (by rw [k19]; omega)
  rw [e6]
  rw [show x112.toInt = (rS5 (tC (G.2.1 (F (F a 0) 0)) ((G.1 (F a 0) 1).toInt))).1 from by rw [e5]; exact oq112] at oq127
  exact oq127
theorem v_X5_read_101_28 {F : Nat → Nat → Nat} (x19 : Int32) (G : XG) (a : Nat) (G_80 : XG) (G22 : XG) (q14 : Nat)
    (oq19 : x19.toInt = (tkK (tC (G.2.1 (F (F a 0) 0)) ((G.1 (F a 0) 1).toInt)) (1, rn cBl (tC (G.2.1 (F (F a 0) 0)) ((G.1 (F a 0) 1).toInt)) 0)).1)
    (rd4 : RdI (tC (G.2.1 (F (F a 0) 0)) ((G.1 (F a 0) 1).toInt)) (G.1 (F a 0) 1).toInt (rS4 (tC (G.2.1 (F (F a 0) 0)) ((G.1 (F a 0) 1).toInt))).2 ((G_80.1 a 1).toInt) ((G_80.1 a 2).toInt) ((G_80.1 a 3).toInt) ((G_80.1 a 4).toInt) ((G_80.1 a 5).toInt))
    (t19 : 0 ≤ x19.toInt ∧ x19.toInt ≤ 5)
    (t22 : ((G22.1 q14 0).toInt) = x19.toInt ∧ ((G22.1 q14 1).toInt) = -1 ∧ ((G22.1 q14 4).toInt) = -1 ∧ ((G22.1 q14 7).toInt) = 0)
    (c85 : ¬ (((G22.1 q14 0).toInt) = (2 : Int)))
    (c93 : ¬ (((G22.1 q14 0).toInt) = (3 : Int)))
    (c101 : ((G22.1 q14 0).toInt) ≠ (4 : Int)) :
    RdI (tC (G.2.1 (F (F a 0) 0)) ((G.1 (F a 0) 1).toInt)) (G.1 (F a 0) 1).toInt (rS6 (tC (G.2.1 (F (F a 0) 0)) ((G.1 (F a 0) 1).toInt))).2 ((G_80.1 a 1).toInt) ((G_80.1 a 2).toInt) ((G_80.1 a 3).toInt) ((G_80.1 a 4).toInt) ((G_80.1 a 5).toInt) := by
  have k19 : (rS1 (tC (G.2.1 (F (F a 0) 0)) ((G.1 (F a 0) 1).toInt))).1 = (G22.1 q14 0).toInt := by have := oq19; show (tkK _ _).1 = _; rw [← this]; omega
  have e5 : rS5 (tC (G.2.1 (F (F a 0) 0)) ((G.1 (F a 0) 1).toInt)) = (0, (rS4 (tC (G.2.1 (F (F a 0) 0)) ((G.1 (F a 0) 1).toInt))).2) := if_neg (by rw [k19]; omega)
  have e6 : rS6 (tC (G.2.1 (F (F a 0) 0)) ((G.1 (F a 0) 1).toInt)) = (0, (rS5 (tC (G.2.1 (F (F a 0) 0)) ((G.1 (F a 0) 1).toInt))).2) := if_neg (by rw [k19]; omega)
  rw [e6, e5]
  exact rd4
theorem v_X5_read_101_29 {F : Nat → Nat → Nat} (x19 : Int32) (G : XG) (a : Nat) (G14 : XG) (q14 : Nat) (G22 : XG)
    (oq19 : x19.toInt = (tkK (tC (G.2.1 (F (F a 0) 0)) ((G.1 (F a 0) 1).toInt)) (1, rn cBl (tC (G.2.1 (F (F a 0) 0)) ((G.1 (F a 0) 1).toInt)) 0)).1)
    (hn14 : ((G14.1 q14 5).toInt) = 0)
    (t19 : 0 ≤ x19.toInt ∧ x19.toInt ≤ 5)
    (t22 : ((G22.1 q14 0).toInt) = x19.toInt ∧ ((G22.1 q14 1).toInt) = -1 ∧ ((G22.1 q14 4).toInt) = -1 ∧ ((G22.1 q14 7).toInt) = 0)
    (c85 : ¬ (((G22.1 q14 0).toInt) = (2 : Int)))
    (c93 : ¬ (((G22.1 q14 0).toInt) = (3 : Int)))
    (c101 : ((G22.1 q14 0).toInt) ≠ (4 : Int)) :
    ((G14.1 q14 5).toInt) = (rS5 (tC (G.2.1 (F (F a 0) 0)) ((G.1 (F a 0) 1).toInt))).1 := by
  have k19 : (rS1 (tC (G.2.1 (F (F a 0) 0)) ((G.1 (F a 0) 1).toInt))).1 = (G22.1 q14 0).toInt := by have := oq19; show (tkK _ _).1 = _; rw [← this]; omega
  have e5 : rS5 (tC (G.2.1 (F (F a 0) 0)) ((G.1 (F a 0) 1).toInt)) = (0, (rS4 (tC (G.2.1 (F (F a 0) 0)) ((G.1 (F a 0) 1).toInt))).2) := if_neg (by rw [k19]; omega)
  rw [e5]
  show _ = (0 : Int)
  omega
theorem v_X5_read_101_30 {F : Nat → Nat → Nat} (x19 : Int32) (G : XG) (a : Nat) (G14 : XG) (q14 : Nat) (G22 : XG)
    (oq19 : x19.toInt = (tkK (tC (G.2.1 (F (F a 0) 0)) ((G.1 (F a 0) 1).toInt)) (1, rn cBl (tC (G.2.1 (F (F a 0) 0)) ((G.1 (F a 0) 1).toInt)) 0)).1)
    (hn14a : ((G14.1 q14 6).toInt) = 0)
    (t19 : 0 ≤ x19.toInt ∧ x19.toInt ≤ 5)
    (t22 : ((G22.1 q14 0).toInt) = x19.toInt ∧ ((G22.1 q14 1).toInt) = -1 ∧ ((G22.1 q14 4).toInt) = -1 ∧ ((G22.1 q14 7).toInt) = 0)
    (c85 : ¬ (((G22.1 q14 0).toInt) = (2 : Int)))
    (c93 : ¬ (((G22.1 q14 0).toInt) = (3 : Int)))
    (c101 : ((G22.1 q14 0).toInt) ≠ (4 : Int)) :
    ((G14.1 q14 6).toInt) = (rS6 (tC (G.2.1 (F (F a 0) 0)) ((G.1 (F a 0) 1).toInt))).1 := by
  have k19 : (rS1 (tC (G.2.1 (F (F a 0) 0)) ((G.1 (F a 0) 1).toInt))).1 = (G22.1 q14 0).toInt := by have := oq19; show (tkK _ _).1 = _; rw [← this]; omega
  have e5 : rS5 (tC (G.2.1 (F (F a 0) 0)) ((G.1 (F a 0) 1).toInt)) = (0, (rS4 (tC (G.2.1 (F (F a 0) 0)) ((G.1 (F a 0) 1).toInt))).2) := if_neg (by rw [k19]; omega)
  have e6 : rS6 (tC (G.2.1 (F (F a 0) 0)) ((G.1 (F a 0) 1).toInt)) = (0, (rS5 (tC (G.2.1 (F (F a 0) 0)) ((G.1 (F a 0) 1).toInt))).2) := if_neg (by rw [k19]; omega)
  rw [e6]
  show _ = (0 : Int)
  omega
theorem v_X5_read_74_31 {F : Nat → Nat → Nat} (G : XG) (a : Nat) (G40 : XG) (G43 : XG)
    (oq40a : RdI (tC (G.2.1 (F (F a 0) 0)) ((G.1 (F a 0) 1).toInt)) ((G.1 (F a 0) 1).toInt) (tkN (tC (G.2.1 (F (F a 0) 0)) ((G.1 (F a 0) 1).toInt)) (0 : Int) (2 : Int) ((rS2 (tC (G.2.1 (F (F a 0) 0)) ((G.1 (F a 0) 1).toInt))).2)).2 ((G40.1 a 1).toInt) ((G40.1 a 2).toInt) ((G40.1 a 3).toInt) ((G40.1 a 4).toInt) ((G40.1 a 5).toInt))
    (c_G43_F_F_a_0_0 : G43.2.1 (F (F a 0) 0) = G.2.1 (F (F a 0) 0))
    (d_G43_F_a_0_1 : G43.1 (F a 0) 1 = G.1 (F a 0) 1)
    (d_G43_a_1 : G43.1 a 1 = G40.1 a 1)
    (d_G43_a_2 : G43.1 a 2 = G40.1 a 2)
    (d_G43_a_3 : G43.1 a 3 = G40.1 a 3)
    (d_G43_a_4 : G43.1 a 4 = G40.1 a 4)
    (d_G43_a_5 : G43.1 a 5 = G40.1 a 5) :
    RdI (tC (G43.2.1 (F (F a 0) 0)) ((G43.1 (F a 0) 1).toInt)) ((G43.1 (F a 0) 1).toInt) ((rS3 (tC (G.2.1 (F (F a 0) 0)) ((G.1 (F a 0) 1).toInt))).2) ((G43.1 a 1).toInt) ((G43.1 a 2).toInt) ((G43.1 a 3).toInt) ((G43.1 a 4).toInt) ((G43.1 a 5).toInt) := by
  (try rw [c_G43_F_F_a_0_0])
  (try rw [d_G43_F_a_0_1])
  (try rw [d_G43_a_1])
  (try rw [d_G43_a_2])
  (try rw [d_G43_a_3])
  (try rw [d_G43_a_4])
  (try rw [d_G43_a_5])
  exact oq40a
theorem v_X5_read_77_32 {F : Nat → Nat → Nat} (x19 : Int32) (G : XG) (a : Nat) (G74 : XG) (G22 : XG) (q14 : Nat)
    (oq19 : x19.toInt = (tkK (tC (G.2.1 (F (F a 0) 0)) ((G.1 (F a 0) 1).toInt)) (1, rn cBl (tC (G.2.1 (F (F a 0) 0)) ((G.1 (F a 0) 1).toInt)) 0)).1)
    (oq74a : RdI (tC (G.2.1 (F (F a 0) 0)) ((G.1 (F a 0) 1).toInt)) ((G.1 (F a 0) 1).toInt) (tkN (tC (G.2.1 (F (F a 0) 0)) ((G.1 (F a 0) 1).toInt)) (0 : Int) (2 : Int) ((rS3 (tC (G.2.1 (F (F a 0) 0)) ((G.1 (F a 0) 1).toInt))).2)).2 ((G74.1 a 1).toInt) ((G74.1 a 2).toInt) ((G74.1 a 3).toInt) ((G74.1 a 4).toInt) ((G74.1 a 5).toInt))
    (t19 : 0 ≤ x19.toInt ∧ x19.toInt ≤ 5)
    (t22 : ((G22.1 q14 0).toInt) = x19.toInt ∧ ((G22.1 q14 1).toInt) = -1 ∧ ((G22.1 q14 4).toInt) = -1 ∧ ((G22.1 q14 7).toInt) = 0)
    (I70_0 : ((G22.1 q14 0).toInt) = 1 ∨ ((G22.1 q14 0).toInt) = 3 ∨ ((G22.1 q14 0).toInt) = 4) :
    RdI (tC (G.2.1 (F (F a 0) 0)) ((G.1 (F a 0) 1).toInt)) (G.1 (F a 0) 1).toInt (rS4 (tC (G.2.1 (F (F a 0) 0)) ((G.1 (F a 0) 1).toInt))).2 ((G74.1 a 1).toInt) ((G74.1 a 2).toInt) ((G74.1 a 3).toInt) ((G74.1 a 4).toInt) ((G74.1 a 5).toInt) := by
  have k19 : (rS1 (tC (G.2.1 (F (F a 0) 0)) ((G.1 (F a 0) 1).toInt))).1 = (G22.1 q14 0).toInt := by have := oq19; show (tkK _ _).1 = _; rw [← this]; omega
  have e4 : rS4 (tC (G.2.1 (F (F a 0) 0)) ((G.1 (F a 0) 1).toInt)) = tkN (tC (G.2.1 (F (F a 0) 0)) ((G.1 (F a 0) 1).toInt)) 0 2 (rS3 (tC (G.2.1 (F (F a 0) 0)) ((G.1 (F a 0) 1).toInt))).2 := if_pos (by rw [k19]; omega)
  rw [e4]
  exact oq74a
theorem v_X5_read_77_33 {F : Nat → Nat → Nat} (x19 : Int32) (G : XG) (a : Nat) (x74 : Int32) (G22 : XG) (q14 : Nat)
    (oq19 : x19.toInt = (tkK (tC (G.2.1 (F (F a 0) 0)) ((G.1 (F a 0) 1).toInt)) (1, rn cBl (tC (G.2.1 (F (F a 0) 0)) ((G.1 (F a 0) 1).toInt)) 0)).1)
    (oq74 : x74.toInt = (tkN (tC (G.2.1 (F (F a 0) 0)) ((G.1 (F a 0) 1).toInt)) (0 : Int) (2 : Int) ((rS3 (tC (G.2.1 (F (F a 0) 0)) ((G.1 (F a 0) 1).toInt))).2)).1)
    (t19 : 0 ≤ x19.toInt ∧ x19.toInt ≤ 5)
    (t22 : ((G22.1 q14 0).toInt) = x19.toInt ∧ ((G22.1 q14 1).toInt) = -1 ∧ ((G22.1 q14 4).toInt) = -1 ∧ ((G22.1 q14 7).toInt) = 0)
    (I70_0 : ((G22.1 q14 0).toInt) = 1 ∨ ((G22.1 q14 0).toInt) = 3 ∨ ((G22.1 q14 0).toInt) = 4) :
    x74.toInt = (rS4 (tC (G.2.1 (F (F a 0) 0)) ((G.1 (F a 0) 1).toInt))).1 := by
  have k19 : (rS1 (tC (G.2.1 (F (F a 0) 0)) ((G.1 (F a 0) 1).toInt))).1 = (G22.1 q14 0).toInt := by have := oq19; show (tkK _ _).1 = _; rw [← this]; omega
  have e4 : rS4 (tC (G.2.1 (F (F a 0) 0)) ((G.1 (F a 0) 1).toInt)) = tkN (tC (G.2.1 (F (F a 0) 0)) ((G.1 (F a 0) 1).toInt)) 0 2 (rS3 (tC (G.2.1 (F (F a 0) 0)) ((G.1 (F a 0) 1).toInt))).2 := if_pos (by rw [k19]; omega)
  rw [e4]
  exact oq74
theorem v_X5_read_67_34 {F : Nat → Nat → Nat} (x19 : Int32) (G : XG) (a : Nat) (G40 : XG) (G22 : XG) (q14 : Nat)
    (oq19 : x19.toInt = (tkK (tC (G.2.1 (F (F a 0) 0)) ((G.1 (F a 0) 1).toInt)) (1, rn cBl (tC (G.2.1 (F (F a 0) 0)) ((G.1 (F a 0) 1).toInt)) 0)).1)
    (oq40a : RdI (tC (G.2.1 (F (F a 0) 0)) ((G.1 (F a 0) 1).toInt)) ((G.1 (F a 0) 1).toInt) (tkN (tC (G.2.1 (F (F a 0) 0)) ((G.1 (F a 0) 1).toInt)) (0 : Int) (2 : Int) ((rS2 (tC (G.2.1 (F (F a 0) 0)) ((G.1 (F a 0) 1).toInt))).2)).2 ((G40.1 a 1).toInt) ((G40.1 a 2).toInt) ((G40.1 a 3).toInt) ((G40.1 a 4).toInt) ((G40.1 a 5).toInt))
    (t19 : 0 ≤ x19.toInt ∧ x19.toInt ≤ 5)
    (t22 : ((G22.1 q14 0).toInt) = x19.toInt ∧ ((G22.1 q14 1).toInt) = -1 ∧ ((G22.1 q14 4).toInt) = -1 ∧ ((G22.1 q14 7).toInt) = 0)
    (c51 : ¬ (((G22.1 q14 0).toInt) = (1 : Int)))
    (c59 : ¬ (((G22.1 q14 0).toInt) = (3 : Int)))
    (c67 : ((G22.1 q14 0).toInt) ≠ (4 : Int)) :
    RdI (tC (G.2.1 (F (F a 0) 0)) ((G.1 (F a 0) 1).toInt)) (G.1 (F a 0) 1).toInt (rS4 (tC (G.2.1 (F (F a 0) 0)) ((G.1 (F a 0) 1).toInt))).2 ((G40.1 a 1).toInt) ((G40.1 a 2).toInt) ((G40.1 a 3).toInt) ((G40.1 a 4).toInt) ((G40.1 a 5).toInt) := by
  have k19 : (rS1 (tC (G.2.1 (F (F a 0) 0)) ((G.1 (F a 0) 1).toInt))).1 = (G22.1 q14 0).toInt := by have := oq19; show (tkK _ _).1 = _; rw [← this]; omega
  have e4 : rS4 (tC (G.2.1 (F (F a 0) 0)) ((G.1 (F a 0) 1).toInt)) = (-1, (rS3 (tC (G.2.1 (F (F a 0) 0)) ((G.1 (F a 0) 1).toInt))).2) := if_neg (by rw [k19]; omega)
  rw [e4]
  exact oq40a
theorem v_X5_read_67_35 {F : Nat → Nat → Nat} (x19 : Int32) (G : XG) (a : Nat) (G22 : XG) (q14 : Nat)
    (oq19 : x19.toInt = (tkK (tC (G.2.1 (F (F a 0) 0)) ((G.1 (F a 0) 1).toInt)) (1, rn cBl (tC (G.2.1 (F (F a 0) 0)) ((G.1 (F a 0) 1).toInt)) 0)).1)
    (t19 : 0 ≤ x19.toInt ∧ x19.toInt ≤ 5)
    (t22 : ((G22.1 q14 0).toInt) = x19.toInt ∧ ((G22.1 q14 1).toInt) = -1 ∧ ((G22.1 q14 4).toInt) = -1 ∧ ((G22.1 q14 7).toInt) = 0)
    (c51 : ¬ (((G22.1 q14 0).toInt) = (1 : Int)))
    (c59 : ¬ (((G22.1 q14 0).toInt) = (3 : Int)))
    (c67 : ((G22.1 q14 0).toInt) ≠ (4 : Int)) :
    ((G22.1 q14 4).toInt) = (rS4 (tC (G.2.1 (F (F a 0) 0)) ((G.1 (F a 0) 1).toInt))).1 := by
  have k19 : (rS1 (tC (G.2.1 (F (F a 0) 0)) ((G.1 (F a 0) 1).toInt))).1 = (G22.1 q14 0).toInt := by have := oq19; show (tkK _ _).1 = _; rw [← this]; omega
  have e4 : rS4 (tC (G.2.1 (F (F a 0) 0)) ((G.1 (F a 0) 1).toInt)) = (-1, (rS3 (tC (G.2.1 (F (F a 0) 0)) ((G.1 (F a 0) 1).toInt))).2) := if_neg (by rw [k19]; omega)
  rw [e4]
  show _ = (-1 : Int)
  omega
