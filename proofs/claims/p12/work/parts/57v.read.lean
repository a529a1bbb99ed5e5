theorem v_X5_takeWord_32_1 {K : Nat → Nat} {F : Nat → Nat → Nat} (a : Nat) (G : XG) (r1 : RSt) (p0 : Nat)
    (ha : K a = 7)
    (hrd : RdI (tC (G.2.1 (F (F a 0) 0)) ((G.1 (F a 0) 1).toInt)) ((G.1 (F a 0) 1).toInt) r1 ((G.1 a 1).toInt) ((G.1 a 2).toInt) ((G.1 a 3).toInt) ((G.1 a 4).toInt) ((G.1 a 5).toInt))
    (hp0 : p0 < 10)
    (n0 : 0 ≤ ((G.1 (F a 0) 1).toInt) ∧ ((G.1 (F a 0) 1).toInt) ≤ 80)
    (z0 : 0 ≤ ((G.1 a 2).toInt) ∧ ((G.1 a 2).toInt) ≤ ((G.1 (F a 0) 1).toInt))
    (z0a : 3 ≤ (((xlen.getD p0 0) : Nat) : Int) ∧ (((xlen.getD p0 0) : Nat) : Int) ≤ 7)
    (f10 : ((G.1 a 5).toInt) = 0 ∨ ((G.1 a 5).toInt) = 1)
    (c4 : ((G.1 a 5).toInt) ≠ 0) :
    (0 : Int) = (tkW (tC (G.2.1 (F (F a 0) 0)) ((G.1 (F a 0) 1).toInt)) (kw p0) r1).1 := by
  have kl := xlen_k p0 hp0
  rw [tkW_f (rd_w0 (tC_e _ _) hrd (by omega) (by omega))]
theorem v_X5_takeWord_32_2 {K : Nat → Nat} {F : Nat → Nat → Nat} (a : Nat) (G : XG) (r1 : RSt) (p0 : Nat)
    (ha : K a = 7)
    (hrd : RdI (tC (G.2.1 (F (F a 0) 0)) ((G.1 (F a 0) 1).toInt)) ((G.1 (F a 0) 1).toInt) r1 ((G.1 a 1).toInt) ((G.1 a 2).toInt) ((G.1 a 3).toInt) ((G.1 a 4).toInt) ((G.1 a 5).toInt))
    (hp0 : p0 < 10)
    (n0 : 0 ≤ ((G.1 (F a 0) 1).toInt) ∧ ((G.1 (F a 0) 1).toInt) ≤ 80)
    (z0 : 0 ≤ ((G.1 a 2).toInt) ∧ ((G.1 a 2).toInt) ≤ ((G.1 (F a 0) 1).toInt))
    (z0a : 3 ≤ (((xlen.getD p0 0) : Nat) : Int) ∧ (((xlen.getD p0 0) : Nat) : Int) ≤ 7)
    (f10 : ((G.1 a 5).toInt) = 0 ∨ ((G.1 a 5).toInt) = 1)
    (c4 : ((G.1 a 5).toInt) ≠ 0) :
    RdI (tC (G.2.1 (F (F a 0) 0)) ((G.1 (F a 0) 1).toInt)) ((G.1 (F a 0) 1).toInt) (tkW (tC (G.2.1 (F (F a 0) 0)) ((G.1 (F a 0) 1).toInt)) (kw p0) r1).2 ((G.1 a 1).toInt) ((G.1 a 2).toInt) ((G.1 a 3).toInt) ((G.1 a 4).toInt) ((G.1 a 5).toInt) := by
  have kl := xlen_k p0 hp0
  rw [tkW_f (rd_w0 (tC_e _ _) hrd (by omega) (by omega))]
  exact hrd
theorem v_X5_takeWord_32_3 {K : Nat → Nat} {F : Nat → Nat → Nat} (a : Nat) (G : XG) (r1 : RSt) (p0 : Nat)
    (ha : K a = 7)
    (hrd : RdI (tC (G.2.1 (F (F a 0) 0)) ((G.1 (F a 0) 1).toInt)) ((G.1 (F a 0) 1).toInt) r1 ((G.1 a 1).toInt) ((G.1 a 2).toInt) ((G.1 a 3).toInt) ((G.1 a 4).toInt) ((G.1 a 5).toInt))
    (hp0 : p0 < 10)
    (n0 : 0 ≤ ((G.1 (F a 0) 1).toInt) ∧ ((G.1 (F a 0) 1).toInt) ≤ 80)
    (z0 : 0 ≤ ((G.1 a 2).toInt) ∧ ((G.1 a 2).toInt) ≤ ((G.1 (F a 0) 1).toInt))
    (z0a : 3 ≤ (((xlen.getD p0 0) : Nat) : Int) ∧ (((xlen.getD p0 0) : Nat) : Int) ≤ 7)
    (f10 : ((G.1 a 5).toInt) = 0 ∨ ((G.1 a 5).toInt) = 1)
    (c4 : ¬ (((G.1 a 5).toInt) ≠ 0))
    (c12 : ((G.1 a 1).toInt) ≠ (1 : Int)) :
    (0 : Int) = (tkW (tC (G.2.1 (F (F a 0) 0)) ((G.1 (F a 0) 1).toInt)) (kw p0) r1).1 := by
  have kl := xlen_k p0 hp0
  rw [tkW_f (rd_w0 (tC_e _ _) hrd (by omega) (by omega))]
theorem v_X5_takeWord_32_4 {K : Nat → Nat} {F : Nat → Nat → Nat} (a : Nat) (G : XG) (r1 : RSt) (p0 : Nat)
    (ha : K a = 7)
    (hrd : RdI (tC (G.2.1 (F (F a 0) 0)) ((G.1 (F a 0) 1).toInt)) ((G.1 (F a 0) 1).toInt) r1 ((G.1 a 1).toInt) ((G.1 a 2).toInt) ((G.1 a 3).toInt) ((G.1 a 4).toInt) ((G.1 a 5).toInt))
    (hp0 : p0 < 10)
    (n0 : 0 ≤ ((G.1 (F a 0) 1).toInt) ∧ ((G.1 (F a 0) 1).toInt) ≤ 80)
    (z0 : 0 ≤ ((G.1 a 2).toInt) ∧ ((G.1 a 2).toInt) ≤ ((G.1 (F a 0) 1).toInt))
    (z0a : 3 ≤ (((xlen.getD p0 0) : Nat) : Int) ∧ (((xlen.getD p0 0) : Nat) : Int) ≤ 7)
    (f10 : ((G.1 a 5).toInt) = 0 ∨ ((G.1 a 5).toInt) = 1)
    (c4 : ¬ (((G.1 a 5).toInt) ≠ 0))
    (c12 : ((G.1 a 1).toInt) ≠ (1 : Int)) :
    RdI (tC (G.2.1 (F (F a 0) 0)) ((G.1 (F a 0) 1).toInt)) ((G.1 (F a 0) 1).toInt) (tkW (tC (G.2.1 (F (F a 0) 0)) ((G.1 (F a 0) 1).toInt)) (kw p0) r1).2 ((G.1 a 1).toInt) ((G.1 a 2).toInt) ((G.1 a 3).toInt) ((G.1 a 4).toInt) ((G.1 a 5).toInt) := by
  have kl := xlen_k p0 hp0
  rw [tkW_f (rd_w0 (tC_e _ _) hrd (by omega) (by omega))]
  exact hrd
theorem v_X5_takeWord_77_5 {K : Nat → Nat} {F : Nat → Nat → Nat} (a : Nat) (G : XG) (G73 : XG) (r1 : RSt) (p0 : Nat) (l2_35 : Int32) (x25 : Int32) (N35 : Nat) (x37 : Int32)
    (ha : K a = 7)
    (hrd : RdI (tC (G.2.1 (F (F a 0) 0)) ((G.1 (F a 0) 1).toInt)) ((G.1 (F a 0) 1).toInt) r1 ((G.1 a 1).toInt) ((G.1 a 2).toInt) ((G.1 a 3).toInt) ((G.1 a 4).toInt) ((G.1 a 5).toInt))
    (hp0 : p0 < 10)
    (pw : ∀ i : Nat, (i : Int) < l2_35.toInt → (tC (G.2.1 (F (F a 0) 0)) ((G.1 (F a 0) 1).toInt)) ((G.1 a 2).toInt + (i : Int)) = (kw p0).getD i 0)
    (oq73 : ((G73.1 a 2).toInt) = rn cBl (tC (G.2.1 (F (F a 0) 0)) ((G.1 (F a 0) 1).toInt)) ((G.1 a 3).toInt) ∧ TokI (tC (G.2.1 (F (F a 0) 0)) ((G.1 (F a 0) 1).toInt)) ((G.1 (F a 0) 1).toInt) ((G73.1 a 1).toInt) ((G73.1 a 2).toInt) ((G73.1 a 3).toInt) ((G73.1 a 4).toInt))
    (n0 : 0 ≤ ((G.1 (F a 0) 1).toInt) ∧ ((G.1 (F a 0) 1).toInt) ≤ 80)
    (z0 : 0 ≤ ((G.1 a 2).toInt) ∧ ((G.1 a 2).toInt) ≤ ((G.1 (F a 0) 1).toInt))
    (z0a : 3 ≤ (((xlen.getD p0 0) : Nat) : Int) ∧ (((xlen.getD p0 0) : Nat) : Int) ≤ 7)
    (f14 : ((G.1 a 5).toInt) = 0 ∨ ((G.1 a 5).toInt) = 1)
    (c4 : ¬ (((G.1 a 5).toInt) ≠ 0))
    (c12 : ¬ (((G.1 a 1).toInt) ≠ (1 : Int)))
    (z15 : 0 ≤ ((G.1 a 3).toInt) ∧ ((G.1 a 3).toInt) ≤ ((G.1 (F a 0) 1).toInt))
    (t25 : x25.toInt = (((xlen.getD p0 0) : Nat) : Int))
    (c28 : (((G.1 a 3).toInt) - ((G.1 a 2).toInt)) = x25.toInt)
    (I35_0 : 0 ≤ l2_35.toInt ∧ l2_35.toInt ≤ (((xlen.getD p0 0) : Nat) : Int))
    (I35_1 : (0 : Int) ≤ l2_35.toInt)
    (hm35 : 2147483648 - l2_35.toInt < (((N35) + 1 : Nat) : Int))
    (t37 : x37.toInt = (((xlen.getD p0 0) : Nat) : Int))
    (c40 : x37.toInt ≤ l2_35.toInt)
    (t73 : (0 ≤ ((G73.1 a 2).toInt) ∧ ((G73.1 a 2).toInt) ≤ ((G.1 (F a 0) 1).toInt)) ∧ (0 ≤ ((G73.1 a 3).toInt) ∧ ((G73.1 a 3).toInt) ≤ ((G.1 (F a 0) 1).toInt))) :
    (1 : Int) = (tkW (tC (G.2.1 (F (F a 0) 0)) ((G.1 (F a 0) 1).toInt)) (kw p0) r1).1 := by
  have kl := xlen_k p0 hp0
  have wk := rd_w1 hrd (by omega) (by omega) (by omega) (w := kw p0) (fun i hi => pw i (by omega))
  rw [tkW_t wk.1 wk.2]
theorem v_X5_takeWord_77_6 {K : Nat → Nat} {F : Nat → Nat → Nat} (a : Nat) (G : XG) (G73 : XG) (r1 : RSt) (p0 : Nat) (l2_35 : Int32) (x25 : Int32) (N35 : Nat) (x37 : Int32)
    (ha : K a = 7)
    (hrd : RdI (tC (G.2.1 (F (F a 0) 0)) ((G.1 (F a 0) 1).toInt)) ((G.1 (F a 0) 1).toInt) r1 ((G.1 a 1).toInt) ((G.1 a 2).toInt) ((G.1 a 3).toInt) ((G.1 a 4).toInt) ((G.1 a 5).toInt))
    (hp0 : p0 < 10)
    (pw : ∀ i : Nat, (i : Int) < l2_35.toInt → (tC (G.2.1 (F (F a 0) 0)) ((G.1 (F a 0) 1).toInt)) ((G.1 a 2).toInt + (i : Int)) = (kw p0).getD i 0)
    (oq73 : ((G73.1 a 2).toInt) = rn cBl (tC (G.2.1 (F (F a 0) 0)) ((G.1 (F a 0) 1).toInt)) ((G.1 a 3).toInt) ∧ TokI (tC (G.2.1 (F (F a 0) 0)) ((G.1 (F a 0) 1).toInt)) ((G.1 (F a 0) 1).toInt) ((G73.1 a 1).toInt) ((G73.1 a 2).toInt) ((G73.1 a 3).toInt) ((G73.1 a 4).toInt))
    (n0 : 0 ≤ ((G.1 (F a 0) 1).toInt) ∧ ((G.1 (F a 0) 1).toInt) ≤ 80)
    (z0 : 0 ≤ ((G.1 a 2).toInt) ∧ ((G.1 a 2).toInt) ≤ ((G.1 (F a 0) 1).toInt))
    (z0a : 3 ≤ (((xlen.getD p0 0) : Nat) : Int) ∧ (((xlen.getD p0 0) : Nat) : Int) ≤ 7)
    (f14 : ((G.1 a 5).toInt) = 0 ∨ ((G.1 a 5).toInt) = 1)
    (c4 : ¬ (((G.1 a 5).toInt) ≠ 0))
    (c12 : ¬ (((G.1 a 1).toInt) ≠ (1 : Int)))
    (z15 : 0 ≤ ((G.1 a 3).toInt) ∧ ((G.1 a 3).toInt) ≤ ((G.1 (F a 0) 1).toInt))
    (t25 : x25.toInt = (((xlen.getD p0 0) : Nat) : Int))
    (c28 : (((G.1 a 3).toInt) - ((G.1 a 2).toInt)) = x25.toInt)
    (I35_0 : 0 ≤ l2_35.toInt ∧ l2_35.toInt ≤ (((xlen.getD p0 0) : Nat) : Int))
    (I35_1 : (0 : Int) ≤ l2_35.toInt)
    (hm35 : 2147483648 - l2_35.toInt < (((N35) + 1 : Nat) : Int))
    (t37 : x37.toInt = (((xlen.getD p0 0) : Nat) : Int))
    (c40 : x37.toInt ≤ l2_35.toInt)
    (t73 : (0 ≤ ((G73.1 a 2).toInt) ∧ ((G73.1 a 2).toInt) ≤ ((G.1 (F a 0) 1).toInt)) ∧ (0 ≤ ((G73.1 a 3).toInt) ∧ ((G73.1 a 3).toInt) ≤ ((G.1 (F a 0) 1).toInt)))
    (d_G73_a_5 : G73.1 a 5 = G.1 a 5) :
    RdI (tC (G.2.1 (F (F a 0) 0)) ((G.1 (F a 0) 1).toInt)) ((G.1 (F a 0) 1).toInt) (tkW (tC (G.2.1 (F (F a 0) 0)) ((G.1 (F a 0) 1).toInt)) (kw p0) r1).2 ((G73.1 a 1).toInt) ((G73.1 a 2).toInt) ((G73.1 a 3).toInt) ((G73.1 a 4).toInt) ((G73.1 a 5).toInt) := by
  have kl := xlen_k p0 hp0
  have wk := rd_w1 hrd (by omega) (by omega) (by omega) (w := kw p0) (fun i hi => pw i (by omega))
  rw [tkW_t wk.1 wk.2]
  refine rd_st ?_ (by rw [d_G73_a_5]; omega) (by omega) oq73.2
  rw [oq73.1, hrd.2.1, show (G.1 a 2).toInt + (((kw p0).length : Nat) : Int) = (G.1 a 3).toInt from by omega]
theorem v_X5_takeWord_69_7 {K : Nat → Nat} {F : Nat → Nat → Nat} (a : Nat) (G : XG) (p0 : Nat) (l2_35 : Int32) (x25 : Int32) (N35 : Nat) (x37 : Int32) (x53 : Int32) (x58 : Int32)
    (ha : K a = 7)
    (hp0 : p0 < 10)
    (pw : ∀ i : Nat, (i : Int) < l2_35.toInt → (tC (G.2.1 (F (F a 0) 0)) ((G.1 (F a 0) 1).toInt)) ((G.1 a 2).toInt + (i : Int)) = (kw p0).getD i 0)
    (n0 : 0 ≤ ((G.1 (F a 0) 1).toInt) ∧ ((G.1 (F a 0) 1).toInt) ≤ 80)
    (z0 : 0 ≤ ((G.1 a 2).toInt) ∧ ((G.1 a 2).toInt) ≤ ((G.1 (F a 0) 1).toInt))
    (z0a : 3 ≤ (((xlen.getD p0 0) : Nat) : Int) ∧ (((xlen.getD p0 0) : Nat) : Int) ≤ 7)
    (f14 : ((G.1 a 5).toInt) = 0 ∨ ((G.1 a 5).toInt) = 1)
    (c4 : ¬ (((G.1 a 5).toInt) ≠ 0))
    (c12 : ¬ (((G.1 a 1).toInt) ≠ (1 : Int)))
    (z15 : 0 ≤ ((G.1 a 3).toInt) ∧ ((G.1 a 3).toInt) ≤ ((G.1 (F a 0) 1).toInt))
    (t25 : x25.toInt = (((xlen.getD p0 0) : Nat) : Int))
    (c28 : (((G.1 a 3).toInt) - ((G.1 a 2).toInt)) = x25.toInt)
    (I35_0 : 0 ≤ l2_35.toInt ∧ l2_35.toInt ≤ (((xlen.getD p0 0) : Nat) : Int))
    (I35_1 : (0 : Int) ≤ l2_35.toInt)
    (hm35 : 2147483648 - l2_35.toInt < (((N35) + 1 : Nat) : Int))
    (t37 : x37.toInt = (((xlen.getD p0 0) : Nat) : Int))
    (c40 : ¬ (x37.toInt ≤ l2_35.toInt))
    (t53 : x53.toInt = (tC (G.2.1 (F (F a 0) 0)) ((G.1 (F a 0) 1).toInt) (((G.1 a 2).toInt) + l2_35.toInt)))
    (t58 : x58.toInt = (xch p0 (l2_35.toInt)))
    (z61 : (xch p0 (l2_35.toInt)) = ((kw p0).getD (Int.toNat (l2_35.toInt)) 0))
    (c61 : x53.toInt = x58.toInt) :
    ∀ i : Nat, (i : Int) < (l2_35.toInt + 1) → (tC (G.2.1 (F (F a 0) 0)) ((G.1 (F a 0) 1).toInt)) ((G.1 a 2).toInt + (i : Int)) = (kw p0).getD i 0 := by
  intro i h
  by_cases e : (i : Int) = l2_35.toInt
  · have e2 : i = (l2_35.toInt).toNat := by omega
    rw [e, e2]
    omega
  · exact pw i (by omega)
theorem v_X5_takeWord_65_8 {K : Nat → Nat} {F : Nat → Nat → Nat} (a : Nat) (G : XG) (r1 : RSt) (p0 : Nat) (l2_35 : Int32) (x25 : Int32) (N35 : Nat) (x37 : Int32) (x53 : Int32) (x58 : Int32)
    (ha : K a = 7)
    (hrd : RdI (tC (G.2.1 (F (F a 0) 0)) ((G.1 (F a 0) 1).toInt)) ((G.1 (F a 0) 1).toInt) r1 ((G.1 a 1).toInt) ((G.1 a 2).toInt) ((G.1 a 3).toInt) ((G.1 a 4).toInt) ((G.1 a 5).toInt))
    (hp0 : p0 < 10)
    (n0 : 0 ≤ ((G.1 (F a 0) 1).toInt) ∧ ((G.1 (F a 0) 1).toInt) ≤ 80)
    (z0 : 0 ≤ ((G.1 a 2).toInt) ∧ ((G.1 a 2).toInt) ≤ ((G.1 (F a 0) 1).toInt))
    (z0a : 3 ≤ (((xlen.getD p0 0) : Nat) : Int) ∧ (((xlen.getD p0 0) : Nat) : Int) ≤ 7)
    (f13 : ((G.1 a 5).toInt) = 0 ∨ ((G.1 a 5).toInt) = 1)
    (c4 : ¬ (((G.1 a 5).toInt) ≠ 0))
    (c12 : ¬ (((G.1 a 1).toInt) ≠ (1 : Int)))
    (z15 : 0 ≤ ((G.1 a 3).toInt) ∧ ((G.1 a 3).toInt) ≤ ((G.1 (F a 0) 1).toInt))
    (t25 : x25.toInt = (((xlen.getD p0 0) : Nat) : Int))
    (c28 : (((G.1 a 3).toInt) - ((G.1 a 2).toInt)) = x25.toInt)
    (I35_0 : 0 ≤ l2_35.toInt ∧ l2_35.toInt ≤ (((xlen.getD p0 0) : Nat) : Int))
    (I35_1 : (0 : Int) ≤ l2_35.toInt)
    (hm35 : 2147483648 - l2_35.toInt < (((N35) + 1 : Nat) : Int))
    (t37 : x37.toInt = (((xlen.getD p0 0) : Nat) : Int))
    (c40 : ¬ (x37.toInt ≤ l2_35.toInt))
    (t53 : x53.toInt = (tC (G.2.1 (F (F a 0) 0)) ((G.1 (F a 0) 1).toInt) (((G.1 a 2).toInt) + l2_35.toInt)))
    (t58 : x58.toInt = (xch p0 (l2_35.toInt)))
    (z61 : (xch p0 (l2_35.toInt)) = ((kw p0).getD (Int.toNat (l2_35.toInt)) 0))
    (c61 : ¬ (x53.toInt = x58.toInt)) :
    (0 : Int) = (tkW (tC (G.2.1 (F (F a 0) 0)) ((G.1 (F a 0) 1).toInt)) (kw p0) r1).1 := by
  have kl := xlen_k p0 hp0
  rw [tkW_f (fun h => ?_)]
  have h2 := h.2.2 (l2_35.toInt).toNat (by omega)
  rw [hrd.2.1, show (((l2_35.toInt).toNat : Nat) : Int) = l2_35.toInt from by omega] at h2
  omega
theorem v_X5_takeWord_65_9 {K : Nat → Nat} {F : Nat → Nat → Nat} (a : Nat) (G : XG) (r1 : RSt) (p0 : Nat) (l2_35 : Int32) (x25 : Int32) (N35 : Nat) (x37 : Int32) (x53 : Int32) (x58 : Int32)
    (ha : K a = 7)
    (hrd : RdI (tC (G.2.1 (F (F a 0) 0)) ((G.1 (F a 0) 1).toInt)) ((G.1 (F a 0) 1).toInt) r1 ((G.1 a 1).toInt) ((G.1 a 2).toInt) ((G.1 a 3).toInt) ((G.1 a 4).toInt) ((G.1 a 5).toInt))
    (hp0 : p0 < 10)
    (n0 : 0 ≤ ((G.1 (F a 0) 1).toInt) ∧ ((G.1 (F a 0) 1).toInt) ≤ 80)
    (z0 : 0 ≤ ((G.1 a 2).toInt) ∧ ((G.1 a 2).toInt) ≤ ((G.1 (F a 0) 1).toInt))
    (z0a : 3 ≤ (((xlen.getD p0 0) : Nat) : Int) ∧ (((xlen.getD p0 0) : Nat) : Int) ≤ 7)
    (f13 : ((G.1 a 5).toInt) = 0 ∨ ((G.1 a 5).toInt) = 1)
    (c4 : ¬ (((G.1 a 5).toInt) ≠ 0))
    (c12 : ¬ (((G.1 a 1).toInt) ≠ (1 : Int)))
    (z15 : 0 ≤ ((G.1 a 3).toInt) ∧ ((G.1 a 3).toInt) ≤ ((G.1 (F a 0) 1).toInt))
    (t25 : x25.toInt = (((xlen.getD p0 0) : Nat) : Int))
    (c28 : (((G.1 a 3).toInt) - ((G.1 a 2).toInt)) = x25.toInt)
    (I35_0 : 0 ≤ l2_35.toInt ∧ l2_35.toInt ≤ (((xlen.getD p0 0) : Nat) : Int))
    (I35_1 : (0 : Int) ≤ l2_35.toInt)
    (hm35 : 2147483648 - l2_35.toInt < (((N35) + 1 : Nat) : Int))
    (t37 : x37.toInt = (((xlen.getD p0 0) : Nat) : Int))
    (c40 : ¬ (x37.toInt ≤ l2_35.toInt))
    (t53 : x53.toInt = (tC (G.2.1 (F (F a 0) 0)) ((G.1 (F a 0) 1).toInt) (((G.1 a 2).toInt) + l2_35.toInt)))
    (t58 : x58.toInt = (xch p0 (l2_35.toInt)))
    (z61 : (xch p0 (l2_35.toInt)) = ((kw p0).getD (Int.toNat (l2_35.toInt)) 0))
    (c61 : ¬ (x53.toInt = x58.toInt)) :
    RdI (tC (G.2.1 (F (F a 0) 0)) ((G.1 (F a 0) 1).toInt)) ((G.1 (F a 0) 1).toInt) (tkW (tC (G.2.1 (F (F a 0) 0)) ((G.1 (F a 0) 1).toInt)) (kw p0) r1).2 ((G.1 a 1).toInt) ((G.1 a 2).toInt) ((G.1 a 3).toInt) ((G.1 a 4).toInt) ((G.1 a 5).toInt) := by
  have kl := xlen_k p0 hp0
  rw [tkW_f (fun h => ?_)]
  · exact hrd
  · have h2 := h.2.2 (l2_35.toInt).toNat (by omega)
    rw [hrd.2.1, show (((l2_35.toInt).toNat : Nat) : Int) = l2_35.toInt from by omega] at h2
    omega
theorem v_X5_takeWord_34_10 {K : Nat → Nat} {F : Nat → Nat → Nat} (a : Nat) (G : XG) (p0 : Nat) (x25 : Int32)
    (ha : K a = 7)
    (hp0 : p0 < 10)
    (n0 : 0 ≤ ((G.1 (F a 0) 1).toInt) ∧ ((G.1 (F a 0) 1).toInt) ≤ 80)
    (z0 : 0 ≤ ((G.1 a 2).toInt) ∧ ((G.1 a 2).toInt) ≤ ((G.1 (F a 0) 1).toInt))
    (z0a : 3 ≤ (((xlen.getD p0 0) : Nat) : Int) ∧ (((xlen.getD p0 0) : Nat) : Int) ≤ 7)
    (f11 : ((G.1 a 5).toInt) = 0 ∨ ((G.1 a 5).toInt) = 1)
    (c4 : ¬ (((G.1 a 5).toInt) ≠ 0))
    (c12 : ¬ (((G.1 a 1).toInt) ≠ (1 : Int)))
    (z15 : 0 ≤ ((G.1 a 3).toInt) ∧ ((G.1 a 3).toInt) ≤ ((G.1 (F a 0) 1).toInt))
    (t25 : x25.toInt = (((xlen.getD p0 0) : Nat) : Int))
    (c28 : (((G.1 a 3).toInt) - ((G.1 a 2).toInt)) = x25.toInt) :
    ∀ i : Nat, (i : Int) < (0 : Int) → (tC (G.2.1 (F (F a 0) 0)) ((G.1 (F a 0) 1).toInt)) ((G.1 a 2).toInt + (i : Int)) = (kw p0).getD i 0 := by
  intro i h; omega
theorem v_X5_takeWord_32_11 {K : Nat → Nat} {F : Nat → Nat → Nat} (a : Nat) (G : XG) (r1 : RSt) (p0 : Nat) (x25 : Int32)
    (ha : K a = 7)
    (hrd : RdI (tC (G.2.1 (F (F a 0) 0)) ((G.1 (F a 0) 1).toInt)) ((G.1 (F a 0) 1).toInt) r1 ((G.1 a 1).toInt) ((G.1 a 2).toInt) ((G.1 a 3).toInt) ((G.1 a 4).toInt) ((G.1 a 5).toInt))
    (hp0 : p0 < 10)
    (n0 : 0 ≤ ((G.1 (F a 0) 1).toInt) ∧ ((G.1 (F a 0) 1).toInt) ≤ 80)
    (z0 : 0 ≤ ((G.1 a 2).toInt) ∧ ((G.1 a 2).toInt) ≤ ((G.1 (F a 0) 1).toInt))
    (z0a : 3 ≤ (((xlen.getD p0 0) : Nat) : Int) ∧ (((xlen.getD p0 0) : Nat) : Int) ≤ 7)
    (f11 : ((G.1 a 5).toInt) = 0 ∨ ((G.1 a 5).toInt) = 1)
    (c4 : ¬ (((G.1 a 5).toInt) ≠ 0))
    (c12 : ¬ (((G.1 a 1).toInt) ≠ (1 : Int)))
    (z15 : 0 ≤ ((G.1 a 3).toInt) ∧ ((G.1 a 3).toInt) ≤ ((G.1 (F a 0) 1).toInt))
    (t25 : x25.toInt = (((xlen.getD p0 0) : Nat) : Int))
    (c28 : ¬ ((((G.1 a 3).toInt) - ((G.1 a 2).toInt)) = x25.toInt)) :
    (0 : Int) = (tkW (tC (G.2.1 (F (F a 0) 0)) ((G.1 (F a 0) 1).toInt)) (kw p0) r1).1 := by
  have kl := xlen_k p0 hp0
  rw [tkW_f (rd_w0 (tC_e _ _) hrd (by omega) (by omega))]
theorem v_X5_takeWord_32_12 {K : Nat → Nat} {F : Nat → Nat → Nat} (a : Nat) (G : XG) (r1 : RSt) (p0 : Nat) (x25 : Int32)
    (ha : K a = 7)
    (hrd : RdI (tC (G.2.1 (F (F a 0) 0)) ((G.1 (F a 0) 1).toInt)) ((G.1 (F a 0) 1).toInt) r1 ((G.1 a 1).toInt) ((G.1 a 2).toInt) ((G.1 a 3).toInt) ((G.1 a 4).toInt) ((G.1 a 5).toInt))
    (hp0 : p0 < 10)
    (n0 : 0 ≤ ((G.1 (F a 0) 1).toInt) ∧ ((G.1 (F a 0) 1).toInt) ≤ 80)
    (z0 : 0 ≤ ((G.1 a 2).toInt) ∧ ((G.1 a 2).toInt) ≤ ((G.1 (F a 0) 1).toInt))
    (z0a : 3 ≤ (((xlen.getD p0 0) : Nat) : Int) ∧ (((xlen.getD p0 0) : Nat) : Int) ≤ 7)
    (f11 : ((G.1 a 5).toInt) = 0 ∨ ((G.1 a 5).toInt) = 1)
    (c4 : ¬ (((G.1 a 5).toInt) ≠ 0))
    (c12 : ¬ (((G.1 a 1).toInt) ≠ (1 : Int)))
    (z15 : 0 ≤ ((G.1 a 3).toInt) ∧ ((G.1 a 3).toInt) ≤ ((G.1 (F a 0) 1).toInt))
    (t25 : x25.toInt = (((xlen.getD p0 0) : Nat) : Int))
    (c28 : ¬ ((((G.1 a 3).toInt) - ((G.1 a 2).toInt)) = x25.toInt)) :
    RdI (tC (G.2.1 (F (F a 0) 0)) ((G.1 (F a 0) 1).toInt)) ((G.1 (F a 0) 1).toInt) (tkW (tC (G.2.1 (F (F a 0) 0)) ((G.1 (F a 0) 1).toInt)) (kw p0) r1).2 ((G.1 a 1).toInt) ((G.1 a 2).toInt) ((G.1 a 3).toInt) ((G.1 a 4).toInt) ((G.1 a 5).toInt) := by
  have kl := xlen_k p0 hp0
  rw [tkW_f (rd_w0 (tC_e _ _) hrd (by omega) (by omega))]
  exact hrd
theorem v_X5_takeNumber_37_1 {K : Nat → Nat} {F : Nat → Nat → Nat} (a : Nat) (G : XG) (r1 : RSt) (p0 : Int32) (p1 : Int32)
    (ha : K a = 7)
    (hrd : RdI (tC (G.2.1 (F (F a 0) 0)) ((G.1 (F a 0) 1).toInt)) ((G.1 (F a 0) 1).toInt) r1 ((G.1 a 1).toInt) ((G.1 a 2).toInt) ((G.1 a 3).toInt) ((G.1 a 4).toInt) ((G.1 a 5).toInt))
    (n0 : 0 ≤ ((G.1 (F a 0) 1).toInt) ∧ ((G.1 (F a 0) 1).toInt) ≤ 80)
    (z0 : 0 ≤ ((G.1 a 2).toInt) ∧ ((G.1 a 2).toInt) ≤ ((G.1 (F a 0) 1).toInt))
    (f9 : ((G.1 a 5).toInt) = 0 ∨ ((G.1 a 5).toInt) = 1)
    (c4 : ((G.1 a 5).toInt) ≠ 0) :
    (0 : Int) = (tkN (tC (G.2.1 (F (F a 0) 0)) ((G.1 (F a 0) 1).toInt)) p0.toInt p1.toInt r1).1 := by
  rw [tkN_f (rd_n0 (tC_e _ _) hrd (by omega))]
theorem v_X5_takeNumber_37_2 {K : Nat → Nat} {F : Nat → Nat → Nat} (a : Nat) (G33 : XG) (G : XG) (r1 : RSt) (p0 : Int32) (p1 : Int32)
    (ha : K a = 7)
    (hrd : RdI (tC (G.2.1 (F (F a 0) 0)) ((G.1 (F a 0) 1).toInt)) ((G.1 (F a 0) 1).toInt) r1 ((G.1 a 1).toInt) ((G.1 a 2).toInt) ((G.1 a 3).toInt) ((G.1 a 4).toInt) ((G.1 a 5).toInt))
    (n0 : 0 ≤ ((G.1 (F a 0) 1).toInt) ∧ ((G.1 (F a 0) 1).toInt) ≤ 80)
    (z0 : 0 ≤ ((G.1 a 2).toInt) ∧ ((G.1 a 2).toInt) ≤ ((G.1 (F a 0) 1).toInt))
    (f9 : ((G.1 a 5).toInt) = 0 ∨ ((G.1 a 5).toInt) = 1)
    (c4 : ((G.1 a 5).toInt) ≠ 0)
    (d_G33_a_1 : G33.1 a 1 = G.1 a 1)
    (d_G33_a_2 : G33.1 a 2 = G.1 a 2)
    (d_G33_a_3 : G33.1 a 3 = G.1 a 3)
    (d_G33_a_4 : G33.1 a 4 = G.1 a 4)
    (d_G33_a_5 : G33.1 a 5 = 1) :
    RdI (tC (G.2.1 (F (F a 0) 0)) ((G.1 (F a 0) 1).toInt)) ((G.1 (F a 0) 1).toInt) (tkN (tC (G.2.1 (F (F a 0) 0)) ((G.1 (F a 0) 1).toInt)) p0.toInt p1.toInt r1).2 ((G33.1 a 1).toInt) ((G33.1 a 2).toInt) ((G33.1 a 3).toInt) ((G33.1 a 4).toInt) ((G33.1 a 5).toInt) := by
  rw [tkN_f (rd_n0 (tC_e _ _) hrd (by omega)), d_G33_a_1, d_G33_a_2, d_G33_a_3, d_G33_a_4, d_G33_a_5]
  exact rd_bad hrd (by decide)
theorem v_X5_takeNumber_37_3 {K : Nat → Nat} {F : Nat → Nat → Nat} (a : Nat) (G : XG) (r1 : RSt) (p0 : Int32) (p1 : Int32)
    (ha : K a = 7)
    (hrd : RdI (tC (G.2.1 (F (F a 0) 0)) ((G.1 (F a 0) 1).toInt)) ((G.1 (F a 0) 1).toInt) r1 ((G.1 a 1).toInt) ((G.1 a 2).toInt) ((G.1 a 3).toInt) ((G.1 a 4).toInt) ((G.1 a 5).toInt))
    (n0 : 0 ≤ ((G.1 (F a 0) 1).toInt) ∧ ((G.1 (F a 0) 1).toInt) ≤ 80)
    (z0 : 0 ≤ ((G.1 a 2).toInt) ∧ ((G.1 a 2).toInt) ≤ ((G.1 (F a 0) 1).toInt))
    (f9 : ((G.1 a 5).toInt) = 0 ∨ ((G.1 a 5).toInt) = 1)
    (c4 : ¬ (((G.1 a 5).toInt) ≠ 0))
    (c12 : ((G.1 a 1).toInt) ≠ (2 : Int)) :
    (0 : Int) = (tkN (tC (G.2.1 (F (F a 0) 0)) ((G.1 (F a 0) 1).toInt)) p0.toInt p1.toInt r1).1 := by
  rw [tkN_f (rd_n0 (tC_e _ _) hrd (by omega))]
theorem v_X5_takeNumber_37_4 {K : Nat → Nat} {F : Nat → Nat → Nat} (a : Nat) (G33 : XG) (G : XG) (r1 : RSt) (p0 : Int32) (p1 : Int32)
    (ha : K a = 7)
    (hrd : RdI (tC (G.2.1 (F (F a 0) 0)) ((G.1 (F a 0) 1).toInt)) ((G.1 (F a 0) 1).toInt) r1 ((G.1 a 1).toInt) ((G.1 a 2).toInt) ((G.1 a 3).toInt) ((G.1 a 4).toInt) ((G.1 a 5).toInt))
    (n0 : 0 ≤ ((G.1 (F a 0) 1).toInt) ∧ ((G.1 (F a 0) 1).toInt) ≤ 80)
    (z0 : 0 ≤ ((G.1 a 2).toInt) ∧ ((G.1 a 2).toInt) ≤ ((G.1 (F a 0) 1).toInt))
    (f9 : ((G.1 a 5).toInt) = 0 ∨ ((G.1 a 5).toInt) = 1)
    (c4 : ¬ (((G.1 a 5).toInt) ≠ 0))
    (c12 : ((G.1 a 1).toInt) ≠ (2 : Int))
    (d_G33_a_1 : G33.1 a 1 = G.1 a 1)
    (d_G33_a_2 : G33.1 a 2 = G.1 a 2)
    (d_G33_a_3 : G33.1 a 3 = G.1 a 3)
    (d_G33_a_4 : G33.1 a 4 = G.1 a 4)
    (d_G33_a_5 : G33.1 a 5 = 1) :
    RdI (tC (G.2.1 (F (F a 0) 0)) ((G.1 (F a 0) 1).toInt)) ((G.1 (F a 0) 1).toInt) (tkN (tC (G.2.1 (F (F a 0) 0)) ((G.1 (F a 0) 1).toInt)) p0.toInt p1.toInt r1).2 ((G33.1 a 1).toInt) ((G33.1 a 2).toInt) ((G33.1 a 3).toInt) ((G33.1 a 4).toInt) ((G33.1 a 5).toInt) := by
  rw [tkN_f (rd_n0 (tC_e _ _) hrd (by omega)), d_G33_a_1, d_G33_a_2, d_G33_a_3, d_G33_a_4, d_G33_a_5]
  exact rd_bad hrd (by decide)
theorem v_X5_takeNumber_37_5 {K : Nat → Nat} {F : Nat → Nat → Nat} (a : Nat) (G : XG) (r1 : RSt) (p0 : Int32) (p1 : Int32)
    (ha : K a = 7)
    (hrd : RdI (tC (G.2.1 (F (F a 0) 0)) ((G.1 (F a 0) 1).toInt)) ((G.1 (F a 0) 1).toInt) r1 ((G.1 a 1).toInt) ((G.1 a 2).toInt) ((G.1 a 3).toInt) ((G.1 a 4).toInt) ((G.1 a 5).toInt))
    (n0 : 0 ≤ ((G.1 (F a 0) 1).toInt) ∧ ((G.1 (F a 0) 1).toInt) ≤ 80)
    (z0 : 0 ≤ ((G.1 a 2).toInt) ∧ ((G.1 a 2).toInt) ≤ ((G.1 (F a 0) 1).toInt))
    (f9 : ((G.1 a 5).toInt) = 0 ∨ ((G.1 a 5).toInt) = 1)
    (c4 : ¬ (((G.1 a 5).toInt) ≠ 0))
    (c12 : ¬ (((G.1 a 1).toInt) ≠ (2 : Int)))
    (c20 : ((G.1 a 4).toInt) < p0.toInt) :
    (0 : Int) = (tkN (tC (G.2.1 (F (F a 0) 0)) ((G.1 (F a 0) 1).toInt)) p0.toInt p1.toInt r1).1 := by
  rw [tkN_f (rd_n0 (tC_e _ _) hrd (by omega))]
theorem v_X5_takeNumber_37_6 {K : Nat → Nat} {F : Nat → Nat → Nat} (a : Nat) (G33 : XG) (G : XG) (r1 : RSt) (p0 : Int32) (p1 : Int32)
    (ha : K a = 7)
    (hrd : RdI (tC (G.2.1 (F (F a 0) 0)) ((G.1 (F a 0) 1).toInt)) ((G.1 (F a 0) 1).toInt) r1 ((G.1 a 1).toInt) ((G.1 a 2).toInt) ((G.1 a 3).toInt) ((G.1 a 4).toInt) ((G.1 a 5).toInt))
    (n0 : 0 ≤ ((G.1 (F a 0) 1).toInt) ∧ ((G.1 (F a 0) 1).toInt) ≤ 80)
    (z0 : 0 ≤ ((G.1 a 2).toInt) ∧ ((G.1 a 2).toInt) ≤ ((G.1 (F a 0) 1).toInt))
    (f9 : ((G.1 a 5).toInt) = 0 ∨ ((G.1 a 5).toInt) = 1)
    (c4 : ¬ (((G.1 a 5).toInt) ≠ 0))
    (c12 : ¬ (((G.1 a 1).toInt) ≠ (2 : Int)))
    (c20 : ((G.1 a 4).toInt) < p0.toInt)
    (d_G33_a_1 : G33.1 a 1 = G.1 a 1)
    (d_G33_a_2 : G33.1 a 2 = G.1 a 2)
    (d_G33_a_3 : G33.1 a 3 = G.1 a 3)
    (d_G33_a_4 : G33.1 a 4 = G.1 a 4)
    (d_G33_a_5 : G33.1 a 5 = 1) :
    RdI (tC (G.2.1 (F (F a 0) 0)) ((G.1 (F a 0) 1).toInt)) ((G.1 (F a 0) 1).toInt) (tkN (tC (G.2.1 (F (F a 0) 0)) ((G.1 (F a 0) 1).toInt)) p0.toInt p1.toInt r1).2 ((G33.1 a 1).toInt) ((G33.1 a 2).toInt) ((G33.1 a 3).toInt) ((G33.1 a 4).toInt) ((G33.1 a 5).toInt) := by
  rw [tkN_f (rd_n0 (tC_e _ _) hrd (by omega)), d_G33_a_1, d_G33_a_2, d_G33_a_3, d_G33_a_4, d_G33_a_5]
  exact rd_bad hrd (by decide)
theorem v_X5_takeNumber_48_7 {K : Nat → Nat} {F : Nat → Nat → Nat} (a : Nat) (G : XG) (G44 : XG) (r1 : RSt) (p0 : Int32) (p1 : Int32)
    (ha : K a = 7)
    (hrd : RdI (tC (G.2.1 (F (F a 0) 0)) ((G.1 (F a 0) 1).toInt)) ((G.1 (F a 0) 1).toInt) r1 ((G.1 a 1).toInt) ((G.1 a 2).toInt) ((G.1 a 3).toInt) ((G.1 a 4).toInt) ((G.1 a 5).toInt))
    (oq44 : ((G44.1 a 2).toInt) = rn cBl (tC (G.2.1 (F (F a 0) 0)) ((G.1 (F a 0) 1).toInt)) ((G.1 a 3).toInt) ∧ TokI (tC (G.2.1 (F (F a 0) 0)) ((G.1 (F a 0) 1).toInt)) ((G.1 (F a 0) 1).toInt) ((G44.1 a 1).toInt) ((G44.1 a 2).toInt) ((G44.1 a 3).toInt) ((G44.1 a 4).toInt))
    (n0 : 0 ≤ ((G.1 (F a 0) 1).toInt) ∧ ((G.1 (F a 0) 1).toInt) ≤ 80)
    (z0 : 0 ≤ ((G.1 a 2).toInt) ∧ ((G.1 a 2).toInt) ≤ ((G.1 (F a 0) 1).toInt))
    (f10 : ((G.1 a 5).toInt) = 0 ∨ ((G.1 a 5).toInt) = 1)
    (c4 : ¬ (((G.1 a 5).toInt) ≠ 0))
    (c12 : ¬ (((G.1 a 1).toInt) ≠ (2 : Int)))
    (c20 : ¬ (((G.1 a 4).toInt) < p0.toInt))
    (c28 : ((G.1 a 4).toInt) ≤ p1.toInt)
    (z38 : 0 ≤ ((G.1 a 3).toInt) ∧ ((G.1 a 3).toInt) ≤ ((G.1 (F a 0) 1).toInt))
    (t44 : (0 ≤ ((G44.1 a 2).toInt) ∧ ((G44.1 a 2).toInt) ≤ ((G.1 (F a 0) 1).toInt)) ∧ (0 ≤ ((G44.1 a 3).toInt) ∧ ((G44.1 a 3).toInt) ≤ ((G.1 (F a 0) 1).toInt))) :
    ((G.1 a 4).toInt) = (tkN (tC (G.2.1 (F (F a 0) 0)) ((G.1 (F a 0) 1).toInt)) p0.toInt p1.toInt r1).1 := by
  obtain ⟨q1, q2, q3, q4, q5⟩ := rd_n1 hrd (by omega) (by omega)
  rw [tkN_t q1 (by rw [q2]; exact q3) (by rw [q2]; omega) (by rw [q2]; omega), q2]
  exact q4
theorem v_X5_takeNumber_48_8 {K : Nat → Nat} {F : Nat → Nat → Nat} (a : Nat) (G : XG) (G44 : XG) (r1 : RSt) (p0 : Int32) (p1 : Int32)
    (ha : K a = 7)
    (hrd : RdI (tC (G.2.1 (F (F a 0) 0)) ((G.1 (F a 0) 1).toInt)) ((G.1 (F a 0) 1).toInt) r1 ((G.1 a 1).toInt) ((G.1 a 2).toInt) ((G.1 a 3).toInt) ((G.1 a 4).toInt) ((G.1 a 5).toInt))
    (oq44 : ((G44.1 a 2).toInt) = rn cBl (tC (G.2.1 (F (F a 0) 0)) ((G.1 (F a 0) 1).toInt)) ((G.1 a 3).toInt) ∧ TokI (tC (G.2.1 (F (F a 0) 0)) ((G.1 (F a 0) 1).toInt)) ((G.1 (F a 0) 1).toInt) ((G44.1 a 1).toInt) ((G44.1 a 2).toInt) ((G44.1 a 3).toInt) ((G44.1 a 4).toInt))
    (n0 : 0 ≤ ((G.1 (F a 0) 1).toInt) ∧ ((G.1 (F a 0) 1).toInt) ≤ 80)
    (z0 : 0 ≤ ((G.1 a 2).toInt) ∧ ((G.1 a 2).toInt) ≤ ((G.1 (F a 0) 1).toInt))
    (f10 : ((G.1 a 5).toInt) = 0 ∨ ((G.1 a 5).toInt) = 1)
    (c4 : ¬ (((G.1 a 5).toInt) ≠ 0))
    (c12 : ¬ (((G.1 a 1).toInt) ≠ (2 : Int)))
    (c20 : ¬ (((G.1 a 4).toInt) < p0.toInt))
    (c28 : ((G.1 a 4).toInt) ≤ p1.toInt)
    (z38 : 0 ≤ ((G.1 a 3).toInt) ∧ ((G.1 a 3).toInt) ≤ ((G.1 (F a 0) 1).toInt))
    (t44 : (0 ≤ ((G44.1 a 2).toInt) ∧ ((G44.1 a 2).toInt) ≤ ((G.1 (F a 0) 1).toInt)) ∧ (0 ≤ ((G44.1 a 3).toInt) ∧ ((G44.1 a 3).toInt) ≤ ((G.1 (F a 0) 1).toInt)))
    (d_G44_a_5 : G44.1 a 5 = G.1 a 5) :
    RdI (tC (G.2.1 (F (F a 0) 0)) ((G.1 (F a 0) 1).toInt)) ((G.1 (F a 0) 1).toInt) (tkN (tC (G.2.1 (F (F a 0) 0)) ((G.1 (F a 0) 1).toInt)) p0.toInt p1.toInt r1).2 ((G44.1 a 1).toInt) ((G44.1 a 2).toInt) ((G44.1 a 3).toInt) ((G44.1 a 4).toInt) ((G44.1 a 5).toInt) := by
  obtain ⟨q1, q2, q3, q4, q5⟩ := rd_n1 hrd (by omega) (by omega)
  rw [tkN_t q1 (by rw [q2]; exact q3) (by rw [q2]; omega) (by rw [q2]; omega), q2]
  refine rd_st ?_ (by rw [d_G44_a_5]; omega) (by omega) oq44.2
  rw [oq44.1, q5]
theorem v_X5_takeNumber_37_9 {K : Nat → Nat} {F : Nat → Nat → Nat} (a : Nat) (G : XG) (r1 : RSt) (p0 : Int32) (p1 : Int32)
    (ha : K a = 7)
    (hrd : RdI (tC (G.2.1 (F (F a 0) 0)) ((G.1 (F a 0) 1).toInt)) ((G.1 (F a 0) 1).toInt) r1 ((G.1 a 1).toInt) ((G.1 a 2).toInt) ((G.1 a 3).toInt) ((G.1 a 4).toInt) ((G.1 a 5).toInt))
    (n0 : 0 ≤ ((G.1 (F a 0) 1).toInt) ∧ ((G.1 (F a 0) 1).toInt) ≤ 80)
    (z0 : 0 ≤ ((G.1 a 2).toInt) ∧ ((G.1 a 2).toInt) ≤ ((G.1 (F a 0) 1).toInt))
    (f9 : ((G.1 a 5).toInt) = 0 ∨ ((G.1 a 5).toInt) = 1)
    (c4 : ¬ (((G.1 a 5).toInt) ≠ 0))
    (c12 : ¬ (((G.1 a 1).toInt) ≠ (2 : Int)))
    (c20 : ¬ (((G.1 a 4).toInt) < p0.toInt))
    (c28 : ¬ (((G.1 a 4).toInt) ≤ p1.toInt)) :
    (0 : Int) = (tkN (tC (G.2.1 (F (F a 0) 0)) ((G.1 (F a 0) 1).toInt)) p0.toInt p1.toInt r1).1 := by
  rw [tkN_f (rd_n0 (tC_e _ _) hrd (by omega))]
theorem v_X5_takeNumber_37_10 {K : Nat → Nat} {F : Nat → Nat → Nat} (a : Nat) (G33 : XG) (G : XG) (r1 : RSt) (p0 : Int32) (p1 : Int32)
    (ha : K a = 7)
    (hrd : RdI (tC (G.2.1 (F (F a 0) 0)) ((G.1 (F a 0) 1).toInt)) ((G.1 (F a 0) 1).toInt) r1 ((G.1 a 1).toInt) ((G.1 a 2).toInt) ((G.1 a 3).toInt) ((G.1 a 4).toInt) ((G.1 a 5).toInt))
    (n0 : 0 ≤ ((G.1 (F a 0) 1).toInt) ∧ ((G.1 (F a 0) 1).toInt) ≤ 80)
    (z0 : 0 ≤ ((G.1 a 2).toInt) ∧ ((G.1 a 2).toInt) ≤ ((G.1 (F a 0) 1).toInt))
    (f9 : ((G.1 a 5).toInt) = 0 ∨ ((G.1 a 5).toInt) = 1)
    (c4 : ¬ (((G.1 a 5).toInt) ≠ 0))
    (c12 : ¬ (((G.1 a 1).toInt) ≠ (2 : Int)))
    (c20 : ¬ (((G.1 a 4).toInt) < p0.toInt))
    (c28 : ¬ (((G.1 a 4).toInt) ≤ p1.toInt))
    (d_G33_a_1 : G33.1 a 1 = G.1 a 1)
    (d_G33_a_2 : G33.1 a 2 = G.1 a 2)
    (d_G33_a_3 : G33.1 a 3 = G.1 a 3)
    (d_G33_a_4 : G33.1 a 4 = G.1 a 4)
    (d_G33_a_5 : G33.1 a 5 = 1) :
    RdI (tC (G.2.1 (F (F a 0) 0)) ((G.1 (F a 0) 1).toInt)) ((G.1 (F a 0) 1).toInt) (tkN (tC (G.2.1 (F (F a 0) 0)) ((G.1 (F a 0) 1).toInt)) p0.toInt p1.toInt r1).2 ((G33.1 a 1).toInt) ((G33.1 a 2).toInt) ((G33.1 a 3).toInt) ((G33.1 a 4).toInt) ((G33.1 a 5).toInt) := by
  rw [tkN_f (rd_n0 (tC_e _ _) hrd (by omega)), d_G33_a_1, d_G33_a_2, d_G33_a_3, d_G33_a_4, d_G33_a_5]
  exact rd_bad hrd (by decide)
theorem v_X5_takeKind_33_1 {K : Nat → Nat} {F : Nat → Nat → Nat} (a : Nat) (G : XG) (r1 : RSt) (l1_2 : Int32) (N2 : Nat)
    (ha : K a = 7)
    (pk : ∀ k : Nat, (k : Int) < l1_2.toInt → (tkW (tC (G.2.1 (F (F a 0) 0)) ((G.1 (F a 0) 1).toInt)) (kw k) r1).1 ≠ 1)
    (n0 : 0 ≤ ((G.1 (F a 0) 1).toInt) ∧ ((G.1 (F a 0) 1).toInt) ≤ 80)
    (I2_0 : 0 ≤ l1_2.toInt ∧ l1_2.toInt ≤ 6)
    (I2_1 : (0 : Int) ≤ l1_2.toInt)
    (hm2 : 2147483648 - l1_2.toInt < (((N2) + 1 : Nat) : Int))
    (c5 : (6 : Int) ≤ l1_2.toInt) :
    (0 : Int) = (tkK (tC (G.2.1 (F (F a 0) 0)) ((G.1 (F a 0) 1).toInt)) r1).1 := by
  rw [tkK_no (fun k hk => pk k (by omega))]
theorem v_X5_takeKind_33_2 {K : Nat → Nat} {F : Nat → Nat → Nat} (a : Nat) (G : XG) (G_2 : XG) (G29 : XG) (r1 : RSt) (l1_2 : Int32) (N2 : Nat)
    (ha : K a = 7)
    (pk : ∀ k : Nat, (k : Int) < l1_2.toInt → (tkW (tC (G.2.1 (F (F a 0) 0)) ((G.1 (F a 0) 1).toInt)) (kw k) r1).1 ≠ 1)
    (rd : RdI (tC (G.2.1 (F (F a 0) 0)) ((G.1 (F a 0) 1).toInt)) ((G.1 (F a 0) 1).toInt) r1 ((G_2.1 a 1).toInt) ((G_2.1 a 2).toInt) ((G_2.1 a 3).toInt) ((G_2.1 a 4).toInt) ((G.1 a 5).toInt))
    (n0 : 0 ≤ ((G.1 (F a 0) 1).toInt) ∧ ((G.1 (F a 0) 1).toInt) ≤ 80)
    (I2_0 : 0 ≤ l1_2.toInt ∧ l1_2.toInt ≤ 6)
    (I2_1 : (0 : Int) ≤ l1_2.toInt)
    (hm2 : 2147483648 - l1_2.toInt < (((N2) + 1 : Nat) : Int))
    (c5 : (6 : Int) ≤ l1_2.toInt)
    (d_G29_a_1 : G29.1 a 1 = G_2.1 a 1)
    (d_G29_a_2 : G29.1 a 2 = G_2.1 a 2)
    (d_G29_a_3 : G29.1 a 3 = G_2.1 a 3)
    (d_G29_a_4 : G29.1 a 4 = G_2.1 a 4)
    (d_G29_a_5 : G29.1 a 5 = 1) :
    RdI (tC (G.2.1 (F (F a 0) 0)) ((G.1 (F a 0) 1).toInt)) ((G.1 (F a 0) 1).toInt) (tkK (tC (G.2.1 (F (F a 0) 0)) ((G.1 (F a 0) 1).toInt)) r1).2 ((G29.1 a 1).toInt) ((G29.1 a 2).toInt) ((G29.1 a 3).toInt) ((G29.1 a 4).toInt) ((G29.1 a 5).toInt) := by
  rw [tkK_no (fun k hk => pk k (by omega)), d_G29_a_1, d_G29_a_2, d_G29_a_3, d_G29_a_4, d_G29_a_5]
  exact rd_bad rd (by decide)
theorem v_X5_takeKind_13_3 {F : Nat → Nat → Nat} (a : Nat) (G : XG) (G_2 : XG) (r1 : RSt)
    (rd : RdI (tC (G.2.1 (F (F a 0) 0)) ((G.1 (F a 0) 1).toInt)) ((G.1 (F a 0) 1).toInt) r1 ((G_2.1 a 1).toInt) ((G_2.1 a 2).toInt) ((G_2.1 a 3).toInt) ((G_2.1 a 4).toInt) ((G.1 a 5).toInt))
    (c_G_2_F_F_a_0_0 : G_2.2.1 (F (F a 0) 0) = G.2.1 (F (F a 0) 0))
    (d_G_2_F_a_0_1 : G_2.1 (F a 0) 1 = G.1 (F a 0) 1)
    (d_G_2_a_5 : G_2.1 a 5 = G.1 a 5) :
    RdI (tC (G_2.2.1 (F (F a 0) 0)) ((G_2.1 (F a 0) 1).toInt)) ((G_2.1 (F a 0) 1).toInt) r1 ((G_2.1 a 1).toInt) ((G_2.1 a 2).toInt) ((G_2.1 a 3).toInt) ((G_2.1 a 4).toInt) ((G_2.1 a 5).toInt) := by
  rw [c_G_2_F_F_a_0_0, d_G_2_F_a_0_1, d_G_2_a_5]; exact rd
theorem v_X5_takeKind_24_4 {K : Nat → Nat} {F : Nat → Nat → Nat} (a : Nat) (G : XG) (r1 : RSt) (l1_2 : Int32) (x13 : Int32) (q10 : Nat) (N2 : Nat)
    (ha : K a = 7)
    (pk : ∀ k : Nat, (k : Int) < l1_2.toInt → (tkW (tC (G.2.1 (F (F a 0) 0)) ((G.1 (F a 0) 1).toInt)) (kw k) r1).1 ≠ 1)
    (oq13 : x13.toInt = (tkW (tC (G.2.1 (F (F a 0) 0)) ((G.1 (F a 0) 1).toInt)) (kw q10) r1).1)
    (n0 : 0 ≤ ((G.1 (F a 0) 1).toInt) ∧ ((G.1 (F a 0) 1).toInt) ≤ 80)
    (I2_0 : 0 ≤ l1_2.toInt ∧ l1_2.toInt ≤ 6)
    (I2_1 : (0 : Int) ≤ l1_2.toInt)
    (hm2 : 2147483648 - l1_2.toInt < (((N2) + 1 : Nat) : Int))
    (c5 : ¬ ((6 : Int) ≤ l1_2.toInt))
    (hw10 : (0 ≤ l1_2.toInt ∧ l1_2.toInt ≤ 4 ∧ (((q10) : Nat) : Int) = l1_2.toInt) ∨ (¬ (0 ≤ l1_2.toInt ∧ l1_2.toInt ≤ 4) ∧ (((q10) : Nat) : Int) = 5))
    (t13 : 0 ≤ x13.toInt ∧ x13.toInt ≤ 1)
    (f20 : x13.toInt = 0 ∨ x13.toInt = 1)
    (c16 : x13.toInt = 0) :
    ∀ k : Nat, (k : Int) < (l1_2.toInt + 1) → (tkW (tC (G.2.1 (F (F a 0) 0)) ((G.1 (F a 0) 1).toInt)) (kw k) r1).1 ≠ 1 := by
  intro k h
  by_cases e : (k : Int) = l1_2.toInt
  · have e2 : q10 = k := by omega
    rw [← e2, ← oq13]
    omega
  · exact pk k (by omega)
theorem v_X5_takeKind_24_5 {K : Nat → Nat} {F : Nat → Nat → Nat} (a : Nat) (G : XG) (G13 : XG) (r1 : RSt) (l1_2 : Int32) (x13 : Int32) (q10 : Nat) (N2 : Nat)
    (ha : K a = 7)
    (oq13 : x13.toInt = (tkW (tC (G.2.1 (F (F a 0) 0)) ((G.1 (F a 0) 1).toInt)) (kw q10) r1).1)
    (oq13a : RdI (tC (G.2.1 (F (F a 0) 0)) ((G.1 (F a 0) 1).toInt)) ((G.1 (F a 0) 1).toInt) (tkW (tC (G.2.1 (F (F a 0) 0)) ((G.1 (F a 0) 1).toInt)) (kw q10) r1).2 ((G13.1 a 1).toInt) ((G13.1 a 2).toInt) ((G13.1 a 3).toInt) ((G13.1 a 4).toInt) ((G13.1 a 5).toInt))
    (n0 : 0 ≤ ((G.1 (F a 0) 1).toInt) ∧ ((G.1 (F a 0) 1).toInt) ≤ 80)
    (I2_0 : 0 ≤ l1_2.toInt ∧ l1_2.toInt ≤ 6)
    (I2_1 : (0 : Int) ≤ l1_2.toInt)
    (hm2 : 2147483648 - l1_2.toInt < (((N2) + 1 : Nat) : Int))
    (c5 : ¬ ((6 : Int) ≤ l1_2.toInt))
    (hw10 : (0 ≤ l1_2.toInt ∧ l1_2.toInt ≤ 4 ∧ (((q10) : Nat) : Int) = l1_2.toInt) ∨ (¬ (0 ≤ l1_2.toInt ∧ l1_2.toInt ≤ 4) ∧ (((q10) : Nat) : Int) = 5))
    (t13 : 0 ≤ x13.toInt ∧ x13.toInt ≤ 1)
    (f20 : x13.toInt = 0 ∨ x13.toInt = 1)
    (c16 : x13.toInt = 0)
    (d_G13_a_5 : G13.1 a 5 = G.1 a 5) :
    RdI (tC (G.2.1 (F (F a 0) 0)) ((G.1 (F a 0) 1).toInt)) ((G.1 (F a 0) 1).toInt) r1 ((G13.1 a 1).toInt) ((G13.1 a 2).toInt) ((G13.1 a 3).toInt) ((G13.1 a 4).toInt) ((G.1 a 5).toInt) := by
  have w1 : (tkW (tC (G.2.1 (F (F a 0) 0)) ((G.1 (F a 0) 1).toInt)) (kw q10) r1).1 ≠ 1 := by rw [← oq13]; omega
  rw [tkW_n w1, d_G13_a_5] at oq13a
  exact oq13a
theorem v_X5_takeKind_20_6 {K : Nat → Nat} {F : Nat → Nat → Nat} (a : Nat) (G : XG) (r1 : RSt) (l1_2 : Int32) (x13 : Int32) (q10 : Nat) (N2 : Nat)
    (ha : K a = 7)
    (pk : ∀ k : Nat, (k : Int) < l1_2.toInt → (tkW (tC (G.2.1 (F (F a 0) 0)) ((G.1 (F a 0) 1).toInt)) (kw k) r1).1 ≠ 1)
    (oq13 : x13.toInt = (tkW (tC (G.2.1 (F (F a 0) 0)) ((G.1 (F a 0) 1).toInt)) (kw q10) r1).1)
    (n0 : 0 ≤ ((G.1 (F a 0) 1).toInt) ∧ ((G.1 (F a 0) 1).toInt) ≤ 80)
    (I2_0 : 0 ≤ l1_2.toInt ∧ l1_2.toInt ≤ 6)
    (I2_1 : (0 : Int) ≤ l1_2.toInt)
    (hm2 : 2147483648 - l1_2.toInt < (((N2) + 1 : Nat) : Int))
    (c5 : ¬ ((6 : Int) ≤ l1_2.toInt))
    (hw10 : (0 ≤ l1_2.toInt ∧ l1_2.toInt ≤ 4 ∧ (((q10) : Nat) : Int) = l1_2.toInt) ∨ (¬ (0 ≤ l1_2.toInt ∧ l1_2.toInt ≤ 4) ∧ (((q10) : Nat) : Int) = 5))
    (t13 : 0 ≤ x13.toInt ∧ x13.toInt ≤ 1)
    (f19 : x13.toInt = 0 ∨ x13.toInt = 1)
    (c16 : ¬ (x13.toInt = 0)) :
    l1_2.toInt = (tkK (tC (G.2.1 (F (F a 0) 0)) ((G.1 (F a 0) 1).toInt)) r1).1 := by
  have e2 : (l1_2.toInt).toNat = q10 := by omega
  rw [tkK_at (n := q10) (by omega) (fun k hk => pk k (by omega)) (by rw [← oq13]; omega)]
  show l1_2.toInt = (q10 : Int)
  omega
theorem v_X5_takeKind_20_7 {K : Nat → Nat} {F : Nat → Nat → Nat} (a : Nat) (G : XG) (G13 : XG) (r1 : RSt) (l1_2 : Int32) (x13 : Int32) (q10 : Nat) (N2 : Nat)
    (ha : K a = 7)
    (pk : ∀ k : Nat, (k : Int) < l1_2.toInt → (tkW (tC (G.2.1 (F (F a 0) 0)) ((G.1 (F a 0) 1).toInt)) (kw k) r1).1 ≠ 1)
    (oq13 : x13.toInt = (tkW (tC (G.2.1 (F (F a 0) 0)) ((G.1 (F a 0) 1).toInt)) (kw q10) r1).1)
    (oq13a : RdI (tC (G.2.1 (F (F a 0) 0)) ((G.1 (F a 0) 1).toInt)) ((G.1 (F a 0) 1).toInt) (tkW (tC (G.2.1 (F (F a 0) 0)) ((G.1 (F a 0) 1).toInt)) (kw q10) r1).2 ((G13.1 a 1).toInt) ((G13.1 a 2).toInt) ((G13.1 a 3).toInt) ((G13.1 a 4).toInt) ((G13.1 a 5).toInt))
    (n0 : 0 ≤ ((G.1 (F a 0) 1).toInt) ∧ ((G.1 (F a 0) 1).toInt) ≤ 80)
    (I2_0 : 0 ≤ l1_2.toInt ∧ l1_2.toInt ≤ 6)
    (I2_1 : (0 : Int) ≤ l1_2.toInt)
    (hm2 : 2147483648 - l1_2.toInt < (((N2) + 1 : Nat) : Int))
    (c5 : ¬ ((6 : Int) ≤ l1_2.toInt))
    (hw10 : (0 ≤ l1_2.toInt ∧ l1_2.toInt ≤ 4 ∧ (((q10) : Nat) : Int) = l1_2.toInt) ∨ (¬ (0 ≤ l1_2.toInt ∧ l1_2.toInt ≤ 4) ∧ (((q10) : Nat) : Int) = 5))
    (t13 : 0 ≤ x13.toInt ∧ x13.toInt ≤ 1)
    (f19 : x13.toInt = 0 ∨ x13.toInt = 1)
    (c16 : ¬ (x13.toInt = 0)) :
    RdI (tC (G.2.1 (F (F a 0) 0)) ((G.1 (F a 0) 1).toInt)) ((G.1 (F a 0) 1).toInt) (tkK (tC (G.2.1 (F (F a 0) 0)) ((G.1 (F a 0) 1).toInt)) r1).2 ((G13.1 a 1).toInt) ((G13.1 a 2).toInt) ((G13.1 a 3).toInt) ((G13.1 a 4).toInt) ((G13.1 a 5).toInt) := by
  rw [tkK_at (n := q10) (by omega) (fun k hk => pk k (by omega)) (by rw [← oq13]; omega)]
  exact oq13a
theorem v_X5_takeKind_1_8 {K : Nat → Nat} {F : Nat → Nat → Nat} (a : Nat) (G : XG) (r1 : RSt)
    (ha : K a = 7)
    (n0 : 0 ≤ ((G.1 (F a 0) 1).toInt) ∧ ((G.1 (F a 0) 1).toInt) ≤ 80) :
    ∀ k : Nat, (k : Int) < (0 : Int) → (tkW (tC (G.2.1 (F (F a 0) 0)) ((G.1 (F a 0) 1).toInt)) (kw k) r1).1 ≠ 1 := by
  intro k h; omega
theorem v_X5_takeKind_1_9 {F : Nat → Nat → Nat} (a : Nat) (G : XG) (r1 : RSt)
    (hrd : RdI (tC (G.2.1 (F (F a 0) 0)) ((G.1 (F a 0) 1).toInt)) ((G.1 (F a 0) 1).toInt) r1 ((G.1 a 1).toInt) ((G.1 a 2).toInt) ((G.1 a 3).toInt) ((G.1 a 4).toInt) ((G.1 a 5).toInt)) :
    RdI (tC (G.2.1 (F (F a 0) 0)) ((G.1 (F a 0) 1).toInt)) ((G.1 (F a 0) 1).toInt) r1 ((G.1 a 1).toInt) ((G.1 a 2).toInt) ((G.1 a 3).toInt) ((G.1 a 4).toInt) ((G.1 a 5).toInt) := by
  exact hrd
theorem v_X5_takeAction_3_1 {F : Nat → Nat → Nat} (a : Nat) (G : XG) (r1 : RSt)
    (hrd : RdI (tC (G.2.1 (F (F a 0) 0)) ((G.1 (F a 0) 1).toInt)) ((G.1 (F a 0) 1).toInt) r1 ((G.1 a 1).toInt) ((G.1 a 2).toInt) ((G.1 a 3).toInt) ((G.1 a 4).toInt) ((G.1 a 5).toInt)) :
    RdI (tC (G.2.1 (F (F a 0) 0)) ((G.1 (F a 0) 1).toInt)) ((G.1 (F a 0) 1).toInt) r1 ((G.1 a 1).toInt) ((G.1 a 2).toInt) ((G.1 a 3).toInt) ((G.1 a 4).toInt) ((G.1 a 5).toInt) := by exact hrd
theorem v_X5_takeAction_14_2 {K : Nat → Nat} {F : Nat → Nat → Nat} (a : Nat) (G : XG) (G3 : XG) (r1 : RSt) (x3 : Int32)
    (ha : K a = 7)
    (oq3 : x3.toInt = (tkW (tC (G.2.1 (F (F a 0) 0)) ((G.1 (F a 0) 1).toInt)) (kw 6) r1).1)
    (oq3a : RdI (tC (G.2.1 (F (F a 0) 0)) ((G.1 (F a 0) 1).toInt)) ((G.1 (F a 0) 1).toInt) (tkW (tC (G.2.1 (F (F a 0) 0)) ((G.1 (F a 0) 1).toInt)) (kw 6) r1).2 ((G3.1 a 1).toInt) ((G3.1 a 2).toInt) ((G3.1 a 3).toInt) ((G3.1 a 4).toInt) ((G3.1 a 5).toInt))
    (n0 : 0 ≤ ((G.1 (F a 0) 1).toInt) ∧ ((G.1 (F a 0) 1).toInt) ≤ 80)
    (t3 : 0 ≤ x3.toInt ∧ x3.toInt ≤ 1)
    (f11 : x3.toInt = 0 ∨ x3.toInt = 1)
    (c6 : x3.toInt = 0)
    (c_G3_F_F_a_0_0 : G3.2.1 (F (F a 0) 0) = G.2.1 (F (F a 0) 0))
    (d_G3_F_a_0_1 : G3.1 (F a 0) 1 = G.1 (F a 0) 1) :
    RdI (tC (G3.2.1 (F (F a 0) 0)) ((G3.1 (F a 0) 1).toInt)) ((G3.1 (F a 0) 1).toInt) r1 ((G3.1 a 1).toInt) ((G3.1 a 2).toInt) ((G3.1 a 3).toInt) ((G3.1 a 4).toInt) ((G3.1 a 5).toInt) := by
  have w1 : (tkW (tC (G.2.1 (F (F a 0) 0)) ((G.1 (F a 0) 1).toInt)) (kw 6) r1).1 ≠ 1 := by rw [← oq3]; omega
  rw [tkW_n w1] at oq3a
  rw [c_G3_F_F_a_0_0, d_G3_F_a_0_1]
  exact oq3a
theorem v_X5_takeAction_25_3 {K : Nat → Nat} {F : Nat → Nat → Nat} (a : Nat) (G : XG) (r1 : RSt) (x3 : Int32) (x14 : Int32)
    (ha : K a = 7)
    (oq3 : x3.toInt = (tkW (tC (G.2.1 (F (F a 0) 0)) ((G.1 (F a 0) 1).toInt)) (kw 6) r1).1)
    (oq14 : x14.toInt = (tkW (tC (G.2.1 (F (F a 0) 0)) ((G.1 (F a 0) 1).toInt)) (kw 7) r1).1)
    (n0 : 0 ≤ ((G.1 (F a 0) 1).toInt) ∧ ((G.1 (F a 0) 1).toInt) ≤ 80)
    (t3 : 0 ≤ x3.toInt ∧ x3.toInt ≤ 1)
    (f14 : x3.toInt = 0 ∨ x3.toInt = 1)
    (c6 : x3.toInt = 0)
    (t14 : 0 ≤ x14.toInt ∧ x14.toInt ≤ 1)
    (f17 : x14.toInt = 0 ∨ x14.toInt = 1)
    (c17 : x14.toInt = 0) :
    (0 : Int) = (tkA (tC (G.2.1 (F (F a 0) 0)) ((G.1 (F a 0) 1).toInt)) r1).1 := by
  have w1 : (tkW (tC (G.2.1 (F (F a 0) 0)) ((G.1 (F a 0) 1).toInt)) (kw 6) r1).1 ≠ 1 := by rw [← oq3]; omega
  first
    | (rw [tkA_b w1 (by rw [← oq14]; omega)]; done)
    | (rw [tkA_c w1 (by rw [← oq14]; omega)]; done)
theorem v_X5_takeAction_25_4 {K : Nat → Nat} {F : Nat → Nat → Nat} (a : Nat) (G : XG) (G14 : XG) (r1 : RSt) (x3 : Int32) (x14 : Int32)
    (ha : K a = 7)
    (oq3 : x3.toInt = (tkW (tC (G.2.1 (F (F a 0) 0)) ((G.1 (F a 0) 1).toInt)) (kw 6) r1).1)
    (oq14 : x14.toInt = (tkW (tC (G.2.1 (F (F a 0) 0)) ((G.1 (F a 0) 1).toInt)) (kw 7) r1).1)
    (oq14a : RdI (tC (G.2.1 (F (F a 0) 0)) ((G.1 (F a 0) 1).toInt)) ((G.1 (F a 0) 1).toInt) (tkW (tC (G.2.1 (F (F a 0) 0)) ((G.1 (F a 0) 1).toInt)) (kw 7) r1).2 ((G14.1 a 1).toInt) ((G14.1 a 2).toInt) ((G14.1 a 3).toInt) ((G14.1 a 4).toInt) ((G14.1 a 5).toInt))
    (n0 : 0 ≤ ((G.1 (F a 0) 1).toInt) ∧ ((G.1 (F a 0) 1).toInt) ≤ 80)
    (t3 : 0 ≤ x3.toInt ∧ x3.toInt ≤ 1)
    (f14 : x3.toInt = 0 ∨ x3.toInt = 1)
    (c6 : x3.toInt = 0)
    (t14 : 0 ≤ x14.toInt ∧ x14.toInt ≤ 1)
    (f17 : x14.toInt = 0 ∨ x14.toInt = 1)
    (c17 : x14.toInt = 0) :
    RdI (tC (G.2.1 (F (F a 0) 0)) ((G.1 (F a 0) 1).toInt)) ((G.1 (F a 0) 1).toInt) (tkA (tC (G.2.1 (F (F a 0) 0)) ((G.1 (F a 0) 1).toInt)) r1).2 ((G14.1 a 1).toInt) ((G14.1 a 2).toInt) ((G14.1 a 3).toInt) ((G14.1 a 4).toInt) ((G14.1 a 5).toInt) := by
  have w1 : (tkW (tC (G.2.1 (F (F a 0) 0)) ((G.1 (F a 0) 1).toInt)) (kw 6) r1).1 ≠ 1 := by rw [← oq3]; omega
  first
    | (rw [tkA_b w1 (by rw [← oq14]; omega)]; exact oq14a)
    | (have w2 : (tkW (tC (G.2.1 (F (F a 0) 0)) ((G.1 (F a 0) 1).toInt)) (kw 7) r1).1 ≠ 1 := by rw [← oq14]; omega
       rw [tkA_c w1 w2]
       rw [tkW_n w2] at oq14a
       exact oq14a)
theorem v_X5_takeAction_25_5 {K : Nat → Nat} {F : Nat → Nat → Nat} (a : Nat) (G : XG) (r1 : RSt) (x3 : Int32) (x14 : Int32)
    (ha : K a = 7)
    (oq3 : x3.toInt = (tkW (tC (G.2.1 (F (F a 0) 0)) ((G.1 (F a 0) 1).toInt)) (kw 6) r1).1)
    (oq14 : x14.toInt = (tkW (tC (G.2.1 (F (F a 0) 0)) ((G.1 (F a 0) 1).toInt)) (kw 7) r1).1)
    (n0 : 0 ≤ ((G.1 (F a 0) 1).toInt) ∧ ((G.1 (F a 0) 1).toInt) ≤ 80)
    (t3 : 0 ≤ x3.toInt ∧ x3.toInt ≤ 1)
    (f14 : x3.toInt = 0 ∨ x3.toInt = 1)
    (c6 : x3.toInt = 0)
    (t14 : 0 ≤ x14.toInt ∧ x14.toInt ≤ 1)
    (f17 : x14.toInt = 0 ∨ x14.toInt = 1)
    (c17 : ¬ (x14.toInt = 0)) :
    (2 : Int) = (tkA (tC (G.2.1 (F (F a 0) 0)) ((G.1 (F a 0) 1).toInt)) r1).1 := by
  have w1 : (tkW (tC (G.2.1 (F (F a 0) 0)) ((G.1 (F a 0) 1).toInt)) (kw 6) r1).1 ≠ 1 := by rw [← oq3]; omega
  first
    | (rw [tkA_b w1 (by rw [← oq14]; omega)]; done)
    | (rw [tkA_c w1 (by rw [← oq14]; omega)]; done)
theorem v_X5_takeAction_25_6 {K : Nat → Nat} {F : Nat → Nat → Nat} (a : Nat) (G : XG) (G14 : XG) (r1 : RSt) (x3 : Int32) (x14 : Int32)
    (ha : K a = 7)
    (oq3 : x3.toInt = (tkW (tC (G.2.1 (F (F a 0) 0)) ((G.1 (F a 0) 1).toInt)) (kw 6) r1).1)
    (oq14 : x14.toInt = (tkW (tC (G.2.1 (F (F a 0) 0)) ((G.1 (F a 0) 1).toInt)) (kw 7) r1).1)
    (oq14a : RdI (tC (G.2.1 (F (F a 0) 0)) ((G.1 (F a 0) 1).toInt)) ((G.1 (F a 0) 1).toInt) (tkW (tC (G.2.1 (F (F a 0) 0)) ((G.1 (F a 0) 1).toInt)) (kw 7) r1).2 ((G14.1 a 1).toInt) ((G14.1 a 2).toInt) ((G14.1 a 3).toInt) ((G14.1 a 4).toInt) ((G14.1 a 5).toInt))
    (n0 : 0 ≤ ((G.1 (F a 0) 1).toInt) ∧ ((G.1 (F a 0) 1).toInt) ≤ 80)
    (t3 : 0 ≤ x3.toInt ∧ x3.toInt ≤ 1)
    (f14 : x3.toInt = 0 ∨ x3.toInt = 1)
    (c6 : x3.toInt = 0)
    (t14 : 0 ≤ x14.toInt ∧ x14.toInt ≤ 1)
    (f17 : x14.toInt = 0 ∨ x14.toInt = 1)
    (c17 : ¬ (x14.toInt = 0)) :
    RdI (tC (G.2.1 (F (F a 0) 0)) ((G.1 (F a 0) 1).toInt)) ((G.1 (F a 0) 1).toInt) (tkA (tC (G.2.1 (F (F a 0) 0)) ((G.1 (F a 0) 1).toInt)) r1).2 ((G14.1 a 1).toInt) ((G14.1 a 2).toInt) ((G14.1 a 3).toInt) ((G14.1 a 4).toInt) ((G14.1 a 5).toInt) := by
  have w1 : (tkW (tC (G.2.1 (F (F a 0) 0)) ((G.1 (F a 0) 1).toInt)) (kw 6) r1).1 ≠ 1 := by rw [← oq3]; omega
  first
    | (rw [tkA_b w1 (by rw [← oq14]; omega)]; exact oq14a)
    | (have w2 : (tkW (tC (G.2.1 (F (F a 0) 0)) ((G.1 (F a 0) 1).toInt)) (kw 7) r1).1 ≠ 1 := by rw [← oq14]; omega
       rw [tkA_c w1 w2]
       rw [tkW_n w2] at oq14a
       exact oq14a)
theorem v_X5_takeAction_10_7 {K : Nat → Nat} {F : Nat → Nat → Nat} (a : Nat) (G : XG) (r1 : RSt) (x3 : Int32)
    (ha : K a = 7)
    (oq3 : x3.toInt = (tkW (tC (G.2.1 (F (F a 0) 0)) ((G.1 (F a 0) 1).toInt)) (kw 6) r1).1)
    (n0 : 0 ≤ ((G.1 (F a 0) 1).toInt) ∧ ((G.1 (F a 0) 1).toInt) ≤ 80)
    (t3 : 0 ≤ x3.toInt ∧ x3.toInt ≤ 1)
    (f11 : x3.toInt = 0 ∨ x3.toInt = 1)
    (c6 : ¬ (x3.toInt = 0)) :
    (1 : Int) = (tkA (tC (G.2.1 (F (F a 0) 0)) ((G.1 (F a 0) 1).toInt)) r1).1 := by
  rw [tkA_a (by rw [← oq3]; omega)]
theorem v_X5_takeAction_10_8 {K : Nat → Nat} {F : Nat → Nat → Nat} (a : Nat) (G : XG) (G3 : XG) (r1 : RSt) (x3 : Int32)
    (ha : K a = 7)
    (oq3 : x3.toInt = (tkW (tC (G.2.1 (F (F a 0) 0)) ((G.1 (F a 0) 1).toInt)) (kw 6) r1).1)
    (oq3a : RdI (tC (G.2.1 (F (F a 0) 0)) ((G.1 (F a 0) 1).toInt)) ((G.1 (F a 0) 1).toInt) (tkW (tC (G.2.1 (F (F a 0) 0)) ((G.1 (F a 0) 1).toInt)) (kw 6) r1).2 ((G3.1 a 1).toInt) ((G3.1 a 2).toInt) ((G3.1 a 3).toInt) ((G3.1 a 4).toInt) ((G3.1 a 5).toInt))
    (n0 : 0 ≤ ((G.1 (F a 0) 1).toInt) ∧ ((G.1 (F a 0) 1).toInt) ≤ 80)
    (t3 : 0 ≤ x3.toInt ∧ x3.toInt ≤ 1)
    (f11 : x3.toInt = 0 ∨ x3.toInt = 1)
    (c6 : ¬ (x3.toInt = 0)) :
    RdI (tC (G.2.1 (F (F a 0) 0)) ((G.1 (F a 0) 1).toInt)) ((G.1 (F a 0) 1).toInt) (tkA (tC (G.2.1 (F (F a 0) 0)) ((G.1 (F a 0) 1).toInt)) r1).2 ((G3.1 a 1).toInt) ((G3.1 a 2).toInt) ((G3.1 a 3).toInt) ((G3.1 a 4).toInt) ((G3.1 a 5).toInt) := by
  rw [tkA_a (by rw [← oq3]; omega)]; exact oq3a
