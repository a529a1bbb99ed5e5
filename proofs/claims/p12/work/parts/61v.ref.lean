theorem v_X11_next_45_1 {K : Nat → Nat} {F : Nat → Nat → Nat} (a : Nat) (G : XG) (G_0 : XG) (N0 : Nat) (x5 : Int32) (x42 : Int32)
    (ha : K a = 13)
    (pr : ∀ j : Int, (G.1 a 37).toInt ≤ j → j < ((G_0.1 a 37).toInt) → cBl ((tM (G.2.1 (F a 35)) ((G.1 a 36).toInt)) j))
    (nt0 : 0 ≤ ((G.1 a 36).toInt) ∧ ((G.1 a 36).toInt) ≤ 80)
    (s0 : 0 ≤ ((G.1 a 37).toInt) ∧ ((G.1 a 37).toInt) ≤ ((G.1 a 36).toInt))
    (I0_0 : ((G.1 a 37).toInt) ≤ ((G_0.1 a 37).toInt) ∧ ((G_0.1 a 37).toInt) ≤ ((G.1 a 36).toInt))
    (hm0 : 200 - ((G_0.1 a 37).toInt) < (((N0) + 1 : Nat) : Int))
    (t5 : -128 ≤ x5.toInt ∧ x5.toInt ≤ 127 ∧ ((0 ≤ x5.toInt ∧ (tM (G.2.1 (F a 35)) ((G.1 a 36).toInt) ((G_0.1 a 37).toInt)) = x5.toInt) ∨ (x5.toInt < 0 ∧ (tM (G.2.1 (F a 35)) ((G.1 a 36).toInt) ((G_0.1 a 37).toInt)) = x5.toInt + 256)))
    (c10 : x5.toInt ≠ (32 : Int))
    (t42 : -128 ≤ x42.toInt ∧ x42.toInt ≤ 127 ∧ ((0 ≤ x42.toInt ∧ (tM (G.2.1 (F a 35)) ((G.1 a 36).toInt) ((G_0.1 a 37).toInt)) = x42.toInt) ∨ (x42.toInt < 0 ∧ (tM (G.2.1 (F a 35)) ((G.1 a 36).toInt) ((G_0.1 a 37).toInt)) = x42.toInt + 256))) :
    ((G_0.1 a 37).toInt) = rn cBl (tM (G.2.1 (F a 35)) ((G.1 a 36).toInt)) ((G.1 a 37).toInt) := by
  symm
  refine rn_eq ⟨by omega, pr, ?_⟩
  show ¬ (_ = (32 : Int))
  have := tM_f (G.2.1 (F a 35)) ((G.1 a 36).toInt) ((G_0.1 a 37).toInt)
  omega
theorem v_X11_next_45_2 {K : Nat → Nat} {F : Nat → Nat → Nat} (a : Nat) (G : XG) (G_0 : XG) (N0 : Nat) (x5 : Int32) (x42 : Int32)
    (ha : K a = 13)
    (pr : ∀ j : Int, (G.1 a 37).toInt ≤ j → j < ((G_0.1 a 37).toInt) → cBl ((tM (G.2.1 (F a 35)) ((G.1 a 36).toInt)) j))
    (nt0 : 0 ≤ ((G.1 a 36).toInt) ∧ ((G.1 a 36).toInt) ≤ 80)
    (s0 : 0 ≤ ((G.1 a 37).toInt) ∧ ((G.1 a 37).toInt) ≤ ((G.1 a 36).toInt))
    (I0_0 : ((G.1 a 37).toInt) ≤ ((G_0.1 a 37).toInt) ∧ ((G_0.1 a 37).toInt) ≤ ((G.1 a 36).toInt))
    (hm0 : 200 - ((G_0.1 a 37).toInt) < (((N0) + 1 : Nat) : Int))
    (t5 : -128 ≤ x5.toInt ∧ x5.toInt ≤ 127 ∧ ((0 ≤ x5.toInt ∧ (tM (G.2.1 (F a 35)) ((G.1 a 36).toInt) ((G_0.1 a 37).toInt)) = x5.toInt) ∨ (x5.toInt < 0 ∧ (tM (G.2.1 (F a 35)) ((G.1 a 36).toInt) ((G_0.1 a 37).toInt)) = x5.toInt + 256)))
    (c10 : ¬ (x5.toInt ≠ (32 : Int)))
    (z13 : ((0 ≤ ((G_0.1 a 37).toInt) ∧ ((G_0.1 a 37).toInt) < ((G.1 a 36).toInt)) ∧ True) ∨ (¬ (0 ≤ ((G_0.1 a 37).toInt) ∧ ((G_0.1 a 37).toInt) < ((G.1 a 36).toInt)) ∧ (tM (G.2.1 (F a 35)) ((G.1 a 36).toInt) ((G_0.1 a 37).toInt)) = 0))
    (c21 : ((G.1 a 36).toInt) ≤ ((G_0.1 a 37).toInt))
    (t42 : -128 ≤ x42.toInt ∧ x42.toInt ≤ 127 ∧ ((0 ≤ x42.toInt ∧ (tM (G.2.1 (F a 35)) ((G.1 a 36).toInt) ((G_0.1 a 37).toInt)) = x42.toInt) ∨ (x42.toInt < 0 ∧ (tM (G.2.1 (F a 35)) ((G.1 a 36).toInt) ((G_0.1 a 37).toInt)) = x42.toInt + 256))) :
    ((G_0.1 a 37).toInt) = rn cBl (tM (G.2.1 (F a 35)) ((G.1 a 36).toInt)) ((G.1 a 37).toInt) := by
  symm
  refine rn_eq ⟨by omega, pr, ?_⟩
  show ¬ (_ = (32 : Int))
  have := tM_f (G.2.1 (F a 35)) ((G.1 a 36).toInt) ((G_0.1 a 37).toInt)
  omega
theorem v_X11_next_34_3 {K : Nat → Nat} {F : Nat → Nat → Nat} (a : Nat) (G : XG) (G_0 : XG) (N0 : Nat) (x5 : Int32)
    (ha : K a = 13)
    (pr : ∀ j : Int, (G.1 a 37).toInt ≤ j → j < ((G_0.1 a 37).toInt) → cBl ((tM (G.2.1 (F a 35)) ((G.1 a 36).toInt)) j))
    (nt0 : 0 ≤ ((G.1 a 36).toInt) ∧ ((G.1 a 36).toInt) ≤ 80)
    (s0 : 0 ≤ ((G.1 a 37).toInt) ∧ ((G.1 a 37).toInt) ≤ ((G.1 a 36).toInt))
    (I0_0 : ((G.1 a 37).toInt) ≤ ((G_0.1 a 37).toInt) ∧ ((G_0.1 a 37).toInt) ≤ ((G.1 a 36).toInt))
    (hm0 : 200 - ((G_0.1 a 37).toInt) < (((N0) + 1 : Nat) : Int))
    (t5 : -128 ≤ x5.toInt ∧ x5.toInt ≤ 127 ∧ ((0 ≤ x5.toInt ∧ (tM (G.2.1 (F a 35)) ((G.1 a 36).toInt) ((G_0.1 a 37).toInt)) = x5.toInt) ∨ (x5.toInt < 0 ∧ (tM (G.2.1 (F a 35)) ((G.1 a 36).toInt) ((G_0.1 a 37).toInt)) = x5.toInt + 256)))
    (c10 : ¬ (x5.toInt ≠ (32 : Int)))
    (z13 : ((0 ≤ ((G_0.1 a 37).toInt) ∧ ((G_0.1 a 37).toInt) < ((G.1 a 36).toInt)) ∧ True) ∨ (¬ (0 ≤ ((G_0.1 a 37).toInt) ∧ ((G_0.1 a 37).toInt) < ((G.1 a 36).toInt)) ∧ (tM (G.2.1 (F a 35)) ((G.1 a 36).toInt) ((G_0.1 a 37).toInt)) = 0))
    (c21 : ¬ (((G.1 a 36).toInt) ≤ ((G_0.1 a 37).toInt))) :
    ∀ j : Int, (G.1 a 37).toInt ≤ j → j < (((G_0.1 a 37).toInt) + (1 : Int)) → cBl ((tM (G.2.1 (F a 35)) ((G.1 a 36).toInt)) j) := by
  intro j h1 h2
  by_cases e : j = (G_0.1 a 37).toInt
  · rw [e]; show _ = (32 : Int); omega
  · exact pr j h1 (by omega)
theorem v_X11_next_9999_4 {K : Nat → Nat} {F : Nat → Nat → Nat} (a : Nat) (G : XG)
    (ha : K a = 13)
    (nt0 : 0 ≤ ((G.1 a 36).toInt) ∧ ((G.1 a 36).toInt) ≤ 80)
    (s0 : 0 ≤ ((G.1 a 37).toInt) ∧ ((G.1 a 37).toInt) ≤ ((G.1 a 36).toInt)) :
    ∀ j : Int, (G.1 a 37).toInt ≤ j → j < ((G.1 a 37).toInt) → cBl ((tM (G.2.1 (F a 35)) ((G.1 a 36).toInt)) j) := by
  intro j h1 h2; exact absurd h1 (by omega)
theorem v_X11_isWord_112_1 {K : Nat → Nat} {F : Nat → Nat → Nat} (a : Nat) (G : XG) (G1 : XG) (r1 : RSt) (r2 : List Int) (n0 : Nat) (p0 : Nat) (l2_10 : Int32) (l3_54 : Int32) (l4_54 : Int32) (x1 : Int32) (N10 : Nat) (x12 : Int32) (x15 : Int32) (N54 : Nat)
    (ha : K a = 13)
    (hrm : RdM (tM (G.2.1 (F a 35)) ((G.1 a 36).toInt)) ((G.1 a 36).toInt) r1 ((G.1 a 39).toInt) ((G.1 a 37).toInt) ((G.1 a 38).toInt))
    (hwd : r2.length = n0 ∧ ∀ i : Nat, i < n0 → aI (G.2.1 p0) (i : Int) = r2.getD i 0 ∧ 0 ≤ r2.getD i 0 ∧ r2.getD i 0 ≤ 127)
    (oq1 : ((G1.1 a 37).toInt) = rn cBl (tM (G.2.1 (F a 35)) ((G.1 a 36).toInt)) ((G.1 a 37).toInt))
    (pl : ∀ j : Int, (G1.1 a 37).toInt ≤ j → j < l2_10.toInt → cLt ((tM (G.2.1 (F a 35)) ((G.1 a 36).toInt)) j))
    (pw : (l3_54.toInt = 1 → ((G.1 a 39).toInt ≠ 0 ∧ l2_10.toInt - (G1.1 a 37).toInt = (n0 : Int) ∧ ∀ i : Nat, (i : Int) < l4_54.toInt → (tM (G.2.1 (F a 35)) ((G.1 a 36).toInt)) ((G1.1 a 37).toInt + (i : Int)) = r2.getD i 0)) ∧ (l3_54.toInt = 0 → ¬ (r1.1 = 1 ∧ wOk (tM (G.2.1 (F a 35)) ((G.1 a 36).toInt)) r1.2 r2)))
    (nt0 : 0 ≤ ((G.1 a 36).toInt) ∧ ((G.1 a 36).toInt) ≤ 80)
    (f11 : 3 ≤ (((n0) : Nat) : Int) ∧ (((n0) : Nat) : Int) ≤ 7)
    (z0 : 0 ≤ ((G.1 a 37).toInt) ∧ ((G.1 a 37).toInt) ≤ ((G.1 a 36).toInt))
    (t1 : -128 ≤ x1.toInt ∧ x1.toInt ≤ 127 ∧ ((0 ≤ x1.toInt ∧ (tM (G.2.1 (F a 35)) ((G.1 a 36).toInt) ((G1.1 a 37).toInt)) = x1.toInt) ∨ (x1.toInt < 0 ∧ (tM (G.2.1 (F a 35)) ((G.1 a 36).toInt) ((G1.1 a 37).toInt)) = x1.toInt + 256)) ∧ ((G.1 a 37).toInt) ≤ ((G1.1 a 37).toInt) ∧ ((G1.1 a 37).toInt) ≤ ((G.1 a 36).toInt))
    (I10_0 : ((G1.1 a 37).toInt) ≤ l2_10.toInt ∧ l2_10.toInt ≤ ((G.1 a 36).toInt))
    (hm10 : 2147483648 - l2_10.toInt < (((N10) + 1 : Nat) : Int))
    (z10 : ((0 ≤ l2_10.toInt ∧ l2_10.toInt < ((G.1 a 36).toInt)) ∧ True) ∨ (¬ (0 ≤ l2_10.toInt ∧ l2_10.toInt < ((G.1 a 36).toInt)) ∧ (tM (G.2.1 (F a 35)) ((G.1 a 36).toInt) (l2_10.toInt)) = 0))
    (t12 : -128 ≤ x12.toInt ∧ x12.toInt ≤ 127 ∧ ((0 ≤ x12.toInt ∧ (tM (G.2.1 (F a 35)) ((G.1 a 36).toInt) (l2_10.toInt)) = x12.toInt) ∨ (x12.toInt < 0 ∧ (tM (G.2.1 (F a 35)) ((G.1 a 36).toInt) (l2_10.toInt)) = x12.toInt + 256)))
    (t15 : (x15.toInt = 1 ∧ 97 ≤ x12.toInt ∧ x12.toInt ≤ 122) ∨ (x15.toInt = 0 ∧ (x12.toInt < 97 ∨ 122 < x12.toInt)))
    (c18 : x15.toInt = 0)
    (f20 : ((G.1 a 39).toInt) = 0 ∨ ((G.1 a 39).toInt) = 1)
    (c31 : ((G.1 a 39).toInt) = 0)
    (I54_0 : 0 ≤ l4_54.toInt ∧ l4_54.toInt ≤ (((n0) : Nat) : Int))
    (I54_1 : l3_54.toInt = 0 ∨ l3_54.toInt = 1)
    (I54_2 : (0 : Int) ≤ l4_54.toInt)
    (hm54 : 2147483648 - l4_54.toInt < (((N54) + 1 : Nat) : Int))
    (c55 : l3_54.toInt = 0) :
    l3_54.toInt = (tkW (tM (G.2.1 (F a 35)) ((G.1 a 36).toInt)) r2 r1).1 := by
  have he : l2_10.toInt = rn cLt (tM (G.2.1 (F a 35)) ((G.1 a 36).toInt)) ((G1.1 a 37).toInt) := by
    symm
    refine rn_eq ⟨by omega, pl, cLt_n ?_⟩
    omega
  first
    | (have nw := pw.2 (by omega)
       rw [tkW_f nw]
       show l3_54.toInt = 0
       omega)
    | (obtain ⟨w1, w2, w3⟩ := pw.1 (by omega)
       have wk := rdm_w1 hrm oq1 he w1 (by rw [hwd.1]; exact w2) (fun i hi => w3 i (by rw [hwd.1] at hi; omega))
       rw [tkW_t wk.1 wk.2]
       show l3_54.toInt = 1
       omega)
theorem v_X11_isWord_112_2 {K : Nat → Nat} {F : Nat → Nat → Nat} (a : Nat) (G : XG) (G1 : XG) (G108 : XG) (r1 : RSt) (r2 : List Int) (n0 : Nat) (p0 : Nat) (l2_10 : Int32) (l3_54 : Int32) (l4_54 : Int32) (x1 : Int32) (N10 : Nat) (x12 : Int32) (x15 : Int32) (N54 : Nat)
    (ha : K a = 13)
    (hrm : RdM (tM (G.2.1 (F a 35)) ((G.1 a 36).toInt)) ((G.1 a 36).toInt) r1 ((G.1 a 39).toInt) ((G.1 a 37).toInt) ((G.1 a 38).toInt))
    (hwd : r2.length = n0 ∧ ∀ i : Nat, i < n0 → aI (G.2.1 p0) (i : Int) = r2.getD i 0 ∧ 0 ≤ r2.getD i 0 ∧ r2.getD i 0 ≤ 127)
    (oq1 : ((G1.1 a 37).toInt) = rn cBl (tM (G.2.1 (F a 35)) ((G.1 a 36).toInt)) ((G.1 a 37).toInt))
    (pl : ∀ j : Int, (G1.1 a 37).toInt ≤ j → j < l2_10.toInt → cLt ((tM (G.2.1 (F a 35)) ((G.1 a 36).toInt)) j))
    (pw : (l3_54.toInt = 1 → ((G.1 a 39).toInt ≠ 0 ∧ l2_10.toInt - (G1.1 a 37).toInt = (n0 : Int) ∧ ∀ i : Nat, (i : Int) < l4_54.toInt → (tM (G.2.1 (F a 35)) ((G.1 a 36).toInt)) ((G1.1 a 37).toInt + (i : Int)) = r2.getD i 0)) ∧ (l3_54.toInt = 0 → ¬ (r1.1 = 1 ∧ wOk (tM (G.2.1 (F a 35)) ((G.1 a 36).toInt)) r1.2 r2)))
    (nt0 : 0 ≤ ((G.1 a 36).toInt) ∧ ((G.1 a 36).toInt) ≤ 80)
    (f11 : 3 ≤ (((n0) : Nat) : Int) ∧ (((n0) : Nat) : Int) ≤ 7)
    (z0 : 0 ≤ ((G.1 a 37).toInt) ∧ ((G.1 a 37).toInt) ≤ ((G.1 a 36).toInt))
    (t1 : -128 ≤ x1.toInt ∧ x1.toInt ≤ 127 ∧ ((0 ≤ x1.toInt ∧ (tM (G.2.1 (F a 35)) ((G.1 a 36).toInt) ((G1.1 a 37).toInt)) = x1.toInt) ∨ (x1.toInt < 0 ∧ (tM (G.2.1 (F a 35)) ((G.1 a 36).toInt) ((G1.1 a 37).toInt)) = x1.toInt + 256)) ∧ ((G.1 a 37).toInt) ≤ ((G1.1 a 37).toInt) ∧ ((G1.1 a 37).toInt) ≤ ((G.1 a 36).toInt))
    (I10_0 : ((G1.1 a 37).toInt) ≤ l2_10.toInt ∧ l2_10.toInt ≤ ((G.1 a 36).toInt))
    (hm10 : 2147483648 - l2_10.toInt < (((N10) + 1 : Nat) : Int))
    (z10 : ((0 ≤ l2_10.toInt ∧ l2_10.toInt < ((G.1 a 36).toInt)) ∧ True) ∨ (¬ (0 ≤ l2_10.toInt ∧ l2_10.toInt < ((G.1 a 36).toInt)) ∧ (tM (G.2.1 (F a 35)) ((G.1 a 36).toInt) (l2_10.toInt)) = 0))
    (t12 : -128 ≤ x12.toInt ∧ x12.toInt ≤ 127 ∧ ((0 ≤ x12.toInt ∧ (tM (G.2.1 (F a 35)) ((G.1 a 36).toInt) (l2_10.toInt)) = x12.toInt) ∨ (x12.toInt < 0 ∧ (tM (G.2.1 (F a 35)) ((G.1 a 36).toInt) (l2_10.toInt)) = x12.toInt + 256)))
    (t15 : (x15.toInt = 1 ∧ 97 ≤ x12.toInt ∧ x12.toInt ≤ 122) ∨ (x15.toInt = 0 ∧ (x12.toInt < 97 ∨ 122 < x12.toInt)))
    (c18 : x15.toInt = 0)
    (f20 : ((G.1 a 39).toInt) = 0 ∨ ((G.1 a 39).toInt) = 1)
    (c31 : ((G.1 a 39).toInt) = 0)
    (I54_0 : 0 ≤ l4_54.toInt ∧ l4_54.toInt ≤ (((n0) : Nat) : Int))
    (I54_1 : l3_54.toInt = 0 ∨ l3_54.toInt = 1)
    (I54_2 : (0 : Int) ≤ l4_54.toInt)
    (hm54 : 2147483648 - l4_54.toInt < (((N54) + 1 : Nat) : Int))
    (c55 : l3_54.toInt = 0)
    (d_G108_a_37 : G108.1 a 37 = (G1.1 a 37))
    (d_G108_a_38 : G108.1 a 38 = G.1 a 38)
    (d_G108_a_39 : G108.1 a 39 = G.1 a 39) :
    RdM (tM (G.2.1 (F a 35)) ((G.1 a 36).toInt)) ((G.1 a 36).toInt) (tkW (tM (G.2.1 (F a 35)) ((G.1 a 36).toInt)) r2 r1).2 ((G108.1 a 39).toInt) ((G108.1 a 37).toInt) ((G108.1 a 38).toInt) := by
  have he : l2_10.toInt = rn cLt (tM (G.2.1 (F a 35)) ((G.1 a 36).toInt)) ((G1.1 a 37).toInt) := by
    symm
    refine rn_eq ⟨by omega, pl, cLt_n ?_⟩
    omega
  first
    | (have nw := pw.2 (by omega)
       rw [tkW_f nw, d_G108_a_37, d_G108_a_38, d_G108_a_39]
       exact hrm.sk (tM_e _ _) oq1)
    | (obtain ⟨w1, w2, w3⟩ := pw.1 (by omega)
       have wk := rdm_w1 hrm oq1 he w1 (by rw [hwd.1]; exact w2) (fun i hi => w3 i (by rw [hwd.1] at hi; omega))
       rw [tkW_t wk.1 wk.2, d_G108_a_37, d_G108_a_38, d_G108_a_39]
       refine rdm_st (tM_e _ _) ?_ w1 (by omega)
       rw [show r1.2 + (r2.length : Int) = l2_10.toInt from ?_]
       have s2 := hrm.2.2.1 wk.1
       rw [← oq1] at s2
       have := hwd.1
       omega)
theorem v_X11_isWord_112_3 {K : Nat → Nat} {F : Nat → Nat → Nat} (a : Nat) (G : XG) (G1 : XG) (l2_10 : Int32) (r1 : RSt) (r2 : List Int) (n0 : Nat) (p0 : Nat) (l3_54 : Int32) (l4_54 : Int32) (x1 : Int32) (N10 : Nat) (x12 : Int32) (x15 : Int32) (N54 : Nat)
    (ha : K a = 13)
    (hrm : RdM (tM (G.2.1 (F a 35)) ((G.1 a 36).toInt)) ((G.1 a 36).toInt) r1 ((G.1 a 39).toInt) ((G.1 a 37).toInt) ((G.1 a 38).toInt))
    (hwd : r2.length = n0 ∧ ∀ i : Nat, i < n0 → aI (G.2.1 p0) (i : Int) = r2.getD i 0 ∧ 0 ≤ r2.getD i 0 ∧ r2.getD i 0 ≤ 127)
    (oq1 : ((G1.1 a 37).toInt) = rn cBl (tM (G.2.1 (F a 35)) ((G.1 a 36).toInt)) ((G.1 a 37).toInt))
    (pl : ∀ j : Int, (G1.1 a 37).toInt ≤ j → j < l2_10.toInt → cLt ((tM (G.2.1 (F a 35)) ((G.1 a 36).toInt)) j))
    (pw : (l3_54.toInt = 1 → ((G.1 a 39).toInt ≠ 0 ∧ l2_10.toInt - (G1.1 a 37).toInt = (n0 : Int) ∧ ∀ i : Nat, (i : Int) < l4_54.toInt → (tM (G.2.1 (F a 35)) ((G.1 a 36).toInt)) ((G1.1 a 37).toInt + (i : Int)) = r2.getD i 0)) ∧ (l3_54.toInt = 0 → ¬ (r1.1 = 1 ∧ wOk (tM (G.2.1 (F a 35)) ((G.1 a 36).toInt)) r1.2 r2)))
    (nt0 : 0 ≤ ((G.1 a 36).toInt) ∧ ((G.1 a 36).toInt) ≤ 80)
    (f11 : 3 ≤ (((n0) : Nat) : Int) ∧ (((n0) : Nat) : Int) ≤ 7)
    (z0 : 0 ≤ ((G.1 a 37).toInt) ∧ ((G.1 a 37).toInt) ≤ ((G.1 a 36).toInt))
    (t1 : -128 ≤ x1.toInt ∧ x1.toInt ≤ 127 ∧ ((0 ≤ x1.toInt ∧ (tM (G.2.1 (F a 35)) ((G.1 a 36).toInt) ((G1.1 a 37).toInt)) = x1.toInt) ∨ (x1.toInt < 0 ∧ (tM (G.2.1 (F a 35)) ((G.1 a 36).toInt) ((G1.1 a 37).toInt)) = x1.toInt + 256)) ∧ ((G.1 a 37).toInt) ≤ ((G1.1 a 37).toInt) ∧ ((G1.1 a 37).toInt) ≤ ((G.1 a 36).toInt))
    (I10_0 : ((G1.1 a 37).toInt) ≤ l2_10.toInt ∧ l2_10.toInt ≤ ((G.1 a 36).toInt))
    (hm10 : 2147483648 - l2_10.toInt < (((N10) + 1 : Nat) : Int))
    (z10 : ((0 ≤ l2_10.toInt ∧ l2_10.toInt < ((G.1 a 36).toInt)) ∧ True) ∨ (¬ (0 ≤ l2_10.toInt ∧ l2_10.toInt < ((G.1 a 36).toInt)) ∧ (tM (G.2.1 (F a 35)) ((G.1 a 36).toInt) (l2_10.toInt)) = 0))
    (t12 : -128 ≤ x12.toInt ∧ x12.toInt ≤ 127 ∧ ((0 ≤ x12.toInt ∧ (tM (G.2.1 (F a 35)) ((G.1 a 36).toInt) (l2_10.toInt)) = x12.toInt) ∨ (x12.toInt < 0 ∧ (tM (G.2.1 (F a 35)) ((G.1 a 36).toInt) (l2_10.toInt)) = x12.toInt + 256)))
    (t15 : (x15.toInt = 1 ∧ 97 ≤ x12.toInt ∧ x12.toInt ≤ 122) ∨ (x15.toInt = 0 ∧ (x12.toInt < 97 ∨ 122 < x12.toInt)))
    (c18 : x15.toInt = 0)
    (f20 : ((G.1 a 39).toInt) = 0 ∨ ((G.1 a 39).toInt) = 1)
    (c31 : ((G.1 a 39).toInt) = 0)
    (I54_0 : 0 ≤ l4_54.toInt ∧ l4_54.toInt ≤ (((n0) : Nat) : Int))
    (I54_1 : l3_54.toInt = 0 ∨ l3_54.toInt = 1)
    (I54_2 : (0 : Int) ≤ l4_54.toInt)
    (hm54 : 2147483648 - l4_54.toInt < (((N54) + 1 : Nat) : Int))
    (c55 : l3_54.toInt = 0)
    (c97 : ¬ (l3_54.toInt = 0)) :
    l3_54.toInt = (tkW (tM (G.2.1 (F a 35)) ((G.1 a 36).toInt)) r2 r1).1 := by
  have he : l2_10.toInt = rn cLt (tM (G.2.1 (F a 35)) ((G.1 a 36).toInt)) ((G1.1 a 37).toInt) := by
    symm
    refine rn_eq ⟨by omega, pl, cLt_n ?_⟩
    omega
  first
    | (have nw := pw.2 (by omega)
       rw [tkW_f nw]
       show l3_54.toInt = 0
       omega)
    | (obtain ⟨w1, w2, w3⟩ := pw.1 (by omega)
       have wk := rdm_w1 hrm oq1 he w1 (by rw [hwd.1]; exact w2) (fun i hi => w3 i (by rw [hwd.1] at hi; omega))
       rw [tkW_t wk.1 wk.2]
       show l3_54.toInt = 1
       omega)
theorem v_X11_isWord_112_4 {K : Nat → Nat} {F : Nat → Nat → Nat} (a : Nat) (G : XG) (G1 : XG) (G108 : XG) (l2_10 : Int32) (r1 : RSt) (r2 : List Int) (n0 : Nat) (p0 : Nat) (l3_54 : Int32) (l4_54 : Int32) (x1 : Int32) (N10 : Nat) (x12 : Int32) (x15 : Int32) (N54 : Nat)
    (ha : K a = 13)
    (hrm : RdM (tM (G.2.1 (F a 35)) ((G.1 a 36).toInt)) ((G.1 a 36).toInt) r1 ((G.1 a 39).toInt) ((G.1 a 37).toInt) ((G.1 a 38).toInt))
    (hwd : r2.length = n0 ∧ ∀ i : Nat, i < n0 → aI (G.2.1 p0) (i : Int) = r2.getD i 0 ∧ 0 ≤ r2.getD i 0 ∧ r2.getD i 0 ≤ 127)
    (oq1 : ((G1.1 a 37).toInt) = rn cBl (tM (G.2.1 (F a 35)) ((G.1 a 36).toInt)) ((G.1 a 37).toInt))
    (pl : ∀ j : Int, (G1.1 a 37).toInt ≤ j → j < l2_10.toInt → cLt ((tM (G.2.1 (F a 35)) ((G.1 a 36).toInt)) j))
    (pw : (l3_54.toInt = 1 → ((G.1 a 39).toInt ≠ 0 ∧ l2_10.toInt - (G1.1 a 37).toInt = (n0 : Int) ∧ ∀ i : Nat, (i : Int) < l4_54.toInt → (tM (G.2.1 (F a 35)) ((G.1 a 36).toInt)) ((G1.1 a 37).toInt + (i : Int)) = r2.getD i 0)) ∧ (l3_54.toInt = 0 → ¬ (r1.1 = 1 ∧ wOk (tM (G.2.1 (F a 35)) ((G.1 a 36).toInt)) r1.2 r2)))
    (nt0 : 0 ≤ ((G.1 a 36).toInt) ∧ ((G.1 a 36).toInt) ≤ 80)
    (f11 : 3 ≤ (((n0) : Nat) : Int) ∧ (((n0) : Nat) : Int) ≤ 7)
    (z0 : 0 ≤ ((G.1 a 37).toInt) ∧ ((G.1 a 37).toInt) ≤ ((G.1 a 36).toInt))
    (t1 : -128 ≤ x1.toInt ∧ x1.toInt ≤ 127 ∧ ((0 ≤ x1.toInt ∧ (tM (G.2.1 (F a 35)) ((G.1 a 36).toInt) ((G1.1 a 37).toInt)) = x1.toInt) ∨ (x1.toInt < 0 ∧ (tM (G.2.1 (F a 35)) ((G.1 a 36).toInt) ((G1.1 a 37).toInt)) = x1.toInt + 256)) ∧ ((G.1 a 37).toInt) ≤ ((G1.1 a 37).toInt) ∧ ((G1.1 a 37).toInt) ≤ ((G.1 a 36).toInt))
    (I10_0 : ((G1.1 a 37).toInt) ≤ l2_10.toInt ∧ l2_10.toInt ≤ ((G.1 a 36).toInt))
    (hm10 : 2147483648 - l2_10.toInt < (((N10) + 1 : Nat) : Int))
    (z10 : ((0 ≤ l2_10.toInt ∧ l2_10.toInt < ((G.1 a 36).toInt)) ∧ True) ∨ (¬ (0 ≤ l2_10.toInt ∧ l2_10.toInt < ((G.1 a 36).toInt)) ∧ (tM (G.2.1 (F a 35)) ((G.1 a 36).toInt) (l2_10.toInt)) = 0))
    (t12 : -128 ≤ x12.toInt ∧ x12.toInt ≤ 127 ∧ ((0 ≤ x12.toInt ∧ (tM (G.2.1 (F a 35)) ((G.1 a 36).toInt) (l2_10.toInt)) = x12.toInt) ∨ (x12.toInt < 0 ∧ (tM (G.2.1 (F a 35)) ((G.1 a 36).toInt) (l2_10.toInt)) = x12.toInt + 256)))
    (t15 : (x15.toInt = 1 ∧ 97 ≤ x12.toInt ∧ x12.toInt ≤ 122) ∨ (x15.toInt = 0 ∧ (x12.toInt < 97 ∨ 122 < x12.toInt)))
    (c18 : x15.toInt = 0)
    (f20 : ((G.1 a 39).toInt) = 0 ∨ ((G.1 a 39).toInt) = 1)
    (c31 : ((G.1 a 39).toInt) = 0)
    (I54_0 : 0 ≤ l4_54.toInt ∧ l4_54.toInt ≤ (((n0) : Nat) : Int))
    (I54_1 : l3_54.toInt = 0 ∨ l3_54.toInt = 1)
    (I54_2 : (0 : Int) ≤ l4_54.toInt)
    (hm54 : 2147483648 - l4_54.toInt < (((N54) + 1 : Nat) : Int))
    (c55 : l3_54.toInt = 0)
    (c97 : ¬ (l3_54.toInt = 0))
    (d_G108_a_37 : G108.1 a 37 = l2_10)
    (d_G108_a_38 : G108.1 a 38 = G.1 a 38)
    (d_G108_a_39 : G108.1 a 39 = G.1 a 39) :
    RdM (tM (G.2.1 (F a 35)) ((G.1 a 36).toInt)) ((G.1 a 36).toInt) (tkW (tM (G.2.1 (F a 35)) ((G.1 a 36).toInt)) r2 r1).2 ((G108.1 a 39).toInt) ((G108.1 a 37).toInt) ((G108.1 a 38).toInt) := by
  have he : l2_10.toInt = rn cLt (tM (G.2.1 (F a 35)) ((G.1 a 36).toInt)) ((G1.1 a 37).toInt) := by
    symm
    refine rn_eq ⟨by omega, pl, cLt_n ?_⟩
    omega
  first
    | (have nw := pw.2 (by omega)
       rw [tkW_f nw, d_G108_a_37, d_G108_a_38, d_G108_a_39]
       exact hrm.sk (tM_e _ _) oq1)
    | (obtain ⟨w1, w2, w3⟩ := pw.1 (by omega)
       have wk := rdm_w1 hrm oq1 he w1 (by rw [hwd.1]; exact w2) (fun i hi => w3 i (by rw [hwd.1] at hi; omega))
       rw [tkW_t wk.1 wk.2, d_G108_a_37, d_G108_a_38, d_G108_a_39]
       refine rdm_st (tM_e _ _) ?_ w1 (by omega)
       rw [show r1.2 + (r2.length : Int) = l2_10.toInt from ?_]
       have s2 := hrm.2.2.1 wk.1
       rw [← oq1] at s2
       have := hwd.1
       omega)
theorem v_X11_isWord_112_5 {K : Nat → Nat} {F : Nat → Nat → Nat} (a : Nat) (G : XG) (G1 : XG) (r1 : RSt) (r2 : List Int) (n0 : Nat) (p0 : Nat) (l2_10 : Int32) (l3_54 : Int32) (l4_54 : Int32) (x1 : Int32) (N10 : Nat) (x12 : Int32) (x15 : Int32) (N54 : Nat) (x61 : Int32)
    (ha : K a = 13)
    (hrm : RdM (tM (G.2.1 (F a 35)) ((G.1 a 36).toInt)) ((G.1 a 36).toInt) r1 ((G.1 a 39).toInt) ((G.1 a 37).toInt) ((G.1 a 38).toInt))
    (hwd : r2.length = n0 ∧ ∀ i : Nat, i < n0 → aI (G.2.1 p0) (i : Int) = r2.getD i 0 ∧ 0 ≤ r2.getD i 0 ∧ r2.getD i 0 ≤ 127)
    (oq1 : ((G1.1 a 37).toInt) = rn cBl (tM (G.2.1 (F a 35)) ((G.1 a 36).toInt)) ((G.1 a 37).toInt))
    (pl : ∀ j : Int, (G1.1 a 37).toInt ≤ j → j < l2_10.toInt → cLt ((tM (G.2.1 (F a 35)) ((G.1 a 36).toInt)) j))
    (pw : (l3_54.toInt = 1 → ((G.1 a 39).toInt ≠ 0 ∧ l2_10.toInt - (G1.1 a 37).toInt = (n0 : Int) ∧ ∀ i : Nat, (i : Int) < l4_54.toInt → (tM (G.2.1 (F a 35)) ((G.1 a 36).toInt)) ((G1.1 a 37).toInt + (i : Int)) = r2.getD i 0)) ∧ (l3_54.toInt = 0 → ¬ (r1.1 = 1 ∧ wOk (tM (G.2.1 (F a 35)) ((G.1 a 36).toInt)) r1.2 r2)))
    (nt0 : 0 ≤ ((G.1 a 36).toInt) ∧ ((G.1 a 36).toInt) ≤ 80)
    (f11 : 3 ≤ (((n0) : Nat) : Int) ∧ (((n0) : Nat) : Int) ≤ 7)
    (z0 : 0 ≤ ((G.1 a 37).toInt) ∧ ((G.1 a 37).toInt) ≤ ((G.1 a 36).toInt))
    (t1 : -128 ≤ x1.toInt ∧ x1.toInt ≤ 127 ∧ ((0 ≤ x1.toInt ∧ (tM (G.2.1 (F a 35)) ((G.1 a 36).toInt) ((G1.1 a 37).toInt)) = x1.toInt) ∨ (x1.toInt < 0 ∧ (tM (G.2.1 (F a 35)) ((G.1 a 36).toInt) ((G1.1 a 37).toInt)) = x1.toInt + 256)) ∧ ((G.1 a 37).toInt) ≤ ((G1.1 a 37).toInt) ∧ ((G1.1 a 37).toInt) ≤ ((G.1 a 36).toInt))
    (I10_0 : ((G1.1 a 37).toInt) ≤ l2_10.toInt ∧ l2_10.toInt ≤ ((G.1 a 36).toInt))
    (hm10 : 2147483648 - l2_10.toInt < (((N10) + 1 : Nat) : Int))
    (z10 : ((0 ≤ l2_10.toInt ∧ l2_10.toInt < ((G.1 a 36).toInt)) ∧ True) ∨ (¬ (0 ≤ l2_10.toInt ∧ l2_10.toInt < ((G.1 a 36).toInt)) ∧ (tM (G.2.1 (F a 35)) ((G.1 a 36).toInt) (l2_10.toInt)) = 0))
    (t12 : -128 ≤ x12.toInt ∧ x12.toInt ≤ 127 ∧ ((0 ≤ x12.toInt ∧ (tM (G.2.1 (F a 35)) ((G.1 a 36).toInt) (l2_10.toInt)) = x12.toInt) ∨ (x12.toInt < 0 ∧ (tM (G.2.1 (F a 35)) ((G.1 a 36).toInt) (l2_10.toInt)) = x12.toInt + 256)))
    (t15 : (x15.toInt = 1 ∧ 97 ≤ x12.toInt ∧ x12.toInt ≤ 122) ∨ (x15.toInt = 0 ∧ (x12.toInt < 97 ∨ 122 < x12.toInt)))
    (c18 : x15.toInt = 0)
    (f20 : ((G.1 a 39).toInt) = 0 ∨ ((G.1 a 39).toInt) = 1)
    (c31 : ((G.1 a 39).toInt) = 0)
    (I54_0 : 0 ≤ l4_54.toInt ∧ l4_54.toInt ≤ (((n0) : Nat) : Int))
    (I54_1 : l3_54.toInt = 0 ∨ l3_54.toInt = 1)
    (I54_2 : (0 : Int) ≤ l4_54.toInt)
    (hm54 : 2147483648 - l4_54.toInt < (((N54) + 1 : Nat) : Int))
    (c55 : ¬ (l3_54.toInt = 0))
    (t61 : x61.toInt = (((n0) : Nat) : Int))
    (c62 : x61.toInt ≤ l4_54.toInt)
    (c97 : l3_54.toInt = 0) :
    l3_54.toInt = (tkW (tM (G.2.1 (F a 35)) ((G.1 a 36).toInt)) r2 r1).1 := by
  have he : l2_10.toInt = rn cLt (tM (G.2.1 (F a 35)) ((G.1 a 36).toInt)) ((G1.1 a 37).toInt) := by
    symm
    refine rn_eq ⟨by omega, pl, cLt_n ?_⟩
    omega
  first
    | (have nw := pw.2 (by omega)
       rw [tkW_f nw]
       show l3_54.toInt = 0
       omega)
    | (obtain ⟨w1, w2, w3⟩ := pw.1 (by omega)
       have wk := rdm_w1 hrm oq1 he w1 (by rw [hwd.1]; exact w2) (fun i hi => w3 i (by rw [hwd.1] at hi; omega))
       rw [tkW_t wk.1 wk.2]
       show l3_54.toInt = 1
       omega)
theorem v_X11_isWord_112_6 {K : Nat → Nat} {F : Nat → Nat → Nat} (a : Nat) (G : XG) (G1 : XG) (G108 : XG) (r1 : RSt) (r2 : List Int) (n0 : Nat) (p0 : Nat) (l2_10 : Int32) (l3_54 : Int32) (l4_54 : Int32) (x1 : Int32) (N10 : Nat) (x12 : Int32) (x15 : Int32) (N54 : Nat) (x61 : Int32)
    (ha : K a = 13)
    (hrm : RdM (tM (G.2.1 (F a 35)) ((G.1 a 36).toInt)) ((G.1 a 36).toInt) r1 ((G.1 a 39).toInt) ((G.1 a 37).toInt) ((G.1 a 38).toInt))
    (hwd : r2.length = n0 ∧ ∀ i : Nat, i < n0 → aI (G.2.1 p0) (i : Int) = r2.getD i 0 ∧ 0 ≤ r2.getD i 0 ∧ r2.getD i 0 ≤ 127)
    (oq1 : ((G1.1 a 37).toInt) = rn cBl (tM (G.2.1 (F a 35)) ((G.1 a 36).toInt)) ((G.1 a 37).toInt))
    (pl : ∀ j : Int, (G1.1 a 37).toInt ≤ j → j < l2_10.toInt → cLt ((tM (G.2.1 (F a 35)) ((G.1 a 36).toInt)) j))
    (pw : (l3_54.toInt = 1 → ((G.1 a 39).toInt ≠ 0 ∧ l2_10.toInt - (G1.1 a 37).toInt = (n0 : Int) ∧ ∀ i : Nat, (i : Int) < l4_54.toInt → (tM (G.2.1 (F a 35)) ((G.1 a 36).toInt)) ((G1.1 a 37).toInt + (i : Int)) = r2.getD i 0)) ∧ (l3_54.toInt = 0 → ¬ (r1.1 = 1 ∧ wOk (tM (G.2.1 (F a 35)) ((G.1 a 36).toInt)) r1.2 r2)))
    (nt0 : 0 ≤ ((G.1 a 36).toInt) ∧ ((G.1 a 36).toInt) ≤ 80)
    (f11 : 3 ≤ (((n0) : Nat) : Int) ∧ (((n0) : Nat) : Int) ≤ 7)
    (z0 : 0 ≤ ((G.1 a 37).toInt) ∧ ((G.1 a 37).toInt) ≤ ((G.1 a 36).toInt))
    (t1 : -128 ≤ x1.toInt ∧ x1.toInt ≤ 127 ∧ ((0 ≤ x1.toInt ∧ (tM (G.2.1 (F a 35)) ((G.1 a 36).toInt) ((G1.1 a 37).toInt)) = x1.toInt) ∨ (x1.toInt < 0 ∧ (tM (G.2.1 (F a 35)) ((G.1 a 36).toInt) ((G1.1 a 37).toInt)) = x1.toInt + 256)) ∧ ((G.1 a 37).toInt) ≤ ((G1.1 a 37).toInt) ∧ ((G1.1 a 37).toInt) ≤ ((G.1 a 36).toInt))
    (I10_0 : ((G1.1 a 37).toInt) ≤ l2_10.toInt ∧ l2_10.toInt ≤ ((G.1 a 36).toInt))
    (hm10 : 2147483648 - l2_10.toInt < (((N10) + 1 : Nat) : Int))
    (z10 : ((0 ≤ l2_10.toInt ∧ l2_10.toInt < ((G.1 a 36).toInt)) ∧ True) ∨ (¬ (0 ≤ l2_10.toInt ∧ l2_10.toInt < ((G.1 a 36).toInt)) ∧ (tM (G.2.1 (F a 35)) ((G.1 a 36).toInt) (l2_10.toInt)) = 0))
    (t12 : -128 ≤ x12.toInt ∧ x12.toInt ≤ 127 ∧ ((0 ≤ x12.toInt ∧ (tM (G.2.1 (F a 35)) ((G.1 a 36).toInt) (l2_10.toInt)) = x12.toInt) ∨ (x12.toInt < 0 ∧ (tM (G.2.1 (F a 35)) ((G.1 a 36).toInt) (l2_10.toInt)) = x12.toInt + 256)))
    (t15 : (x15.toInt = 1 ∧ 97 ≤ x12.toInt ∧ x12.toInt ≤ 122) ∨ (x15.toInt = 0 ∧ (x12.toInt < 97 ∨ 122 < x12.toInt)))
    (c18 : x15.toInt = 0)
    (f20 : ((G.1 a 39).toInt) = 0 ∨ ((G.1 a 39).toInt) = 1)
    (c31 : ((G.1 a 39).toInt) = 0)
    (I54_0 : 0 ≤ l4_54.toInt ∧ l4_54.toInt ≤ (((n0) : Nat) : Int))
    (I54_1 : l3_54.toInt = 0 ∨ l3_54.toInt = 1)
    (I54_2 : (0 : Int) ≤ l4_54.toInt)
    (hm54 : 2147483648 - l4_54.toInt < (((N54) + 1 : Nat) : Int))
    (c55 : ¬ (l3_54.toInt = 0))
    (t61 : x61.toInt = (((n0) : Nat) : Int))
    (c62 : x61.toInt ≤ l4_54.toInt)
    (c97 : l3_54.toInt = 0)
    (d_G108_a_37 : G108.1 a 37 = (G1.1 a 37))
    (d_G108_a_38 : G108.1 a 38 = G.1 a 38)
    (d_G108_a_39 : G108.1 a 39 = G.1 a 39) :
    RdM (tM (G.2.1 (F a 35)) ((G.1 a 36).toInt)) ((G.1 a 36).toInt) (tkW (tM (G.2.1 (F a 35)) ((G.1 a 36).toInt)) r2 r1).2 ((G108.1 a 39).toInt) ((G108.1 a 37).toInt) ((G108.1 a 38).toInt) := by
  have he : l2_10.toInt = rn cLt (tM (G.2.1 (F a 35)) ((G.1 a 36).toInt)) ((G1.1 a 37).toInt) := by
    symm
    refine rn_eq ⟨by omega, pl, cLt_n ?_⟩
    omega
  first
    | (have nw := pw.2 (by omega)
       rw [tkW_f nw, d_G108_a_37, d_G108_a_38, d_G108_a_39]
       exact hrm.sk (tM_e _ _) oq1)
    | (obtain ⟨w1, w2, w3⟩ := pw.1 (by omega)
       have wk := rdm_w1 hrm oq1 he w1 (by rw [hwd.1]; exact w2) (fun i hi => w3 i (by rw [hwd.1] at hi; omega))
       rw [tkW_t wk.1 wk.2, d_G108_a_37, d_G108_a_38, d_G108_a_39]
       refine rdm_st (tM_e _ _) ?_ w1 (by omega)
       rw [show r1.2 + (r2.length : Int) = l2_10.toInt from ?_]
       have s2 := hrm.2.2.1 wk.1
       rw [← oq1] at s2
       have := hwd.1
       omega)
theorem v_X11_isWord_112_7 {K : Nat → Nat} {F : Nat → Nat → Nat} (a : Nat) (G : XG) (G1 : XG) (l2_10 : Int32) (r1 : RSt) (r2 : List Int) (n0 : Nat) (p0 : Nat) (l3_54 : Int32) (l4_54 : Int32) (x1 : Int32) (N10 : Nat) (x12 : Int32) (x15 : Int32) (N54 : Nat) (x61 : Int32)
    (ha : K a = 13)
    (hrm : RdM (tM (G.2.1 (F a 35)) ((G.1 a 36).toInt)) ((G.1 a 36).toInt) r1 ((G.1 a 39).toInt) ((G.1 a 37).toInt) ((G.1 a 38).toInt))
    (hwd : r2.length = n0 ∧ ∀ i : Nat, i < n0 → aI (G.2.1 p0) (i : Int) = r2.getD i 0 ∧ 0 ≤ r2.getD i 0 ∧ r2.getD i 0 ≤ 127)
    (oq1 : ((G1.1 a 37).toInt) = rn cBl (tM (G.2.1 (F a 35)) ((G.1 a 36).toInt)) ((G.1 a 37).toInt))
    (pl : ∀ j : Int, (G1.1 a 37).toInt ≤ j → j < l2_10.toInt → cLt ((tM (G.2.1 (F a 35)) ((G.1 a 36).toInt)) j))
    (pw : (l3_54.toInt = 1 → ((G.1 a 39).toInt ≠ 0 ∧ l2_10.toInt - (G1.1 a 37).toInt = (n0 : Int) ∧ ∀ i : Nat, (i : Int) < l4_54.toInt → (tM (G.2.1 (F a 35)) ((G.1 a 36).toInt)) ((G1.1 a 37).toInt + (i : Int)) = r2.getD i 0)) ∧ (l3_54.toInt = 0 → ¬ (r1.1 = 1 ∧ wOk (tM (G.2.1 (F a 35)) ((G.1 a 36).toInt)) r1.2 r2)))
    (nt0 : 0 ≤ ((G.1 a 36).toInt) ∧ ((G.1 a 36).toInt) ≤ 80)
    (f11 : 3 ≤ (((n0) : Nat) : Int) ∧ (((n0) : Nat) : Int) ≤ 7)
    (z0 : 0 ≤ ((G.1 a 37).toInt) ∧ ((G.1 a 37).toInt) ≤ ((G.1 a 36).toInt))
    (t1 : -128 ≤ x1.toInt ∧ x1.toInt ≤ 127 ∧ ((0 ≤ x1.toInt ∧ (tM (G.2.1 (F a 35)) ((G.1 a 36).toInt) ((G1.1 a 37).toInt)) = x1.toInt) ∨ (x1.toInt < 0 ∧ (tM (G.2.1 (F a 35)) ((G.1 a 36).toInt) ((G1.1 a 37).toInt)) = x1.toInt + 256)) ∧ ((G.1 a 37).toInt) ≤ ((G1.1 a 37).toInt) ∧ ((G1.1 a 37).toInt) ≤ ((G.1 a 36).toInt))
    (I10_0 : ((G1.1 a 37).toInt) ≤ l2_10.toInt ∧ l2_10.toInt ≤ ((G.1 a 36).toInt))
    (hm10 : 2147483648 - l2_10.toInt < (((N10) + 1 : Nat) : Int))
    (z10 : ((0 ≤ l2_10.toInt ∧ l2_10.toInt < ((G.1 a 36).toInt)) ∧ True) ∨ (¬ (0 ≤ l2_10.toInt ∧ l2_10.toInt < ((G.1 a 36).toInt)) ∧ (tM (G.2.1 (F a 35)) ((G.1 a 36).toInt) (l2_10.toInt)) = 0))
    (t12 : -128 ≤ x12.toInt ∧ x12.toInt ≤ 127 ∧ ((0 ≤ x12.toInt ∧ (tM (G.2.1 (F a 35)) ((G.1 a 36).toInt) (l2_10.toInt)) = x12.toInt) ∨ (x12.toInt < 0 ∧ (tM (G.2.1 (F a 35)) ((G.1 a 36).toInt) (l2_10.toInt)) = x12.toInt + 256)))
    (t15 : (x15.toInt = 1 ∧ 97 ≤ x12.toInt ∧ x12.toInt ≤ 122) ∨ (x15.toInt = 0 ∧ (x12.toInt < 97 ∨ 122 < x12.toInt)))
    (c18 : x15.toInt = 0)
    (f20 : ((G.1 a 39).toInt) = 0 ∨ ((G.1 a 39).toInt) = 1)
    (c31 : ((G.1 a 39).toInt) = 0)
    (I54_0 : 0 ≤ l4_54.toInt ∧ l4_54.toInt ≤ (((n0) : Nat) : Int))
    (I54_1 : l3_54.toInt = 0 ∨ l3_54.toInt = 1)
    (I54_2 : (0 : Int) ≤ l4_54.toInt)
    (hm54 : 2147483648 - l4_54.toInt < (((N54) + 1 : Nat) : Int))
    (c55 : ¬ (l3_54.toInt = 0))
    (t61 : x61.toInt = (((n0) : Nat) : Int))
    (c62 : x61.toInt ≤ l4_54.toInt) :
    l3_54.toInt = (tkW (tM (G.2.1 (F a 35)) ((G.1 a 36).toInt)) r2 r1).1 := by
  have he : l2_10.toInt = rn cLt (tM (G.2.1 (F a 35)) ((G.1 a 36).toInt)) ((G1.1 a 37).toInt) := by
    symm
    refine rn_eq ⟨by omega, pl, cLt_n ?_⟩
    omega
  first
    | (have nw := pw.2 (by omega)
       rw [tkW_f nw]
       show l3_54.toInt = 0
       omega)
    | (obtain ⟨w1, w2, w3⟩ := pw.1 (by omega)
       have wk := rdm_w1 hrm oq1 he w1 (by rw [hwd.1]; exact w2) (fun i hi => w3 i (by rw [hwd.1] at hi; omega))
       rw [tkW_t wk.1 wk.2]
       show l3_54.toInt = 1
       omega)
theorem v_X11_isWord_112_8 {K : Nat → Nat} {F : Nat → Nat → Nat} (a : Nat) (G : XG) (G1 : XG) (G108 : XG) (l2_10 : Int32) (r1 : RSt) (r2 : List Int) (n0 : Nat) (p0 : Nat) (l3_54 : Int32) (l4_54 : Int32) (x1 : Int32) (N10 : Nat) (x12 : Int32) (x15 : Int32) (N54 : Nat) (x61 : Int32)
    (ha : K a = 13)
    (hrm : RdM (tM (G.2.1 (F a 35)) ((G.1 a 36).toInt)) ((G.1 a 36).toInt) r1 ((G.1 a 39).toInt) ((G.1 a 37).toInt) ((G.1 a 38).toInt))
    (hwd : r2.length = n0 ∧ ∀ i : Nat, i < n0 → aI (G.2.1 p0) (i : Int) = r2.getD i 0 ∧ 0 ≤ r2.getD i 0 ∧ r2.getD i 0 ≤ 127)
    (oq1 : ((G1.1 a 37).toInt) = rn cBl (tM (G.2.1 (F a 35)) ((G.1 a 36).toInt)) ((G.1 a 37).toInt))
    (pl : ∀ j : Int, (G1.1 a 37).toInt ≤ j → j < l2_10.toInt → cLt ((tM (G.2.1 (F a 35)) ((G.1 a 36).toInt)) j))
    (pw : (l3_54.toInt = 1 → ((G.1 a 39).toInt ≠ 0 ∧ l2_10.toInt - (G1.1 a 37).toInt = (n0 : Int) ∧ ∀ i : Nat, (i : Int) < l4_54.toInt → (tM (G.2.1 (F a 35)) ((G.1 a 36).toInt)) ((G1.1 a 37).toInt + (i : Int)) = r2.getD i 0)) ∧ (l3_54.toInt = 0 → ¬ (r1.1 = 1 ∧ wOk (tM (G.2.1 (F a 35)) ((G.1 a 36).toInt)) r1.2 r2)))
    (nt0 : 0 ≤ ((G.1 a 36).toInt) ∧ ((G.1 a 36).toInt) ≤ 80)
    (f11 : 3 ≤ (((n0) : Nat) : Int) ∧ (((n0) : Nat) : Int) ≤ 7)
    (z0 : 0 ≤ ((G.1 a 37).toInt) ∧ ((G.1 a 37).toInt) ≤ ((G.1 a 36).toInt))
    (t1 : -128 ≤ x1.toInt ∧ x1.toInt ≤ 127 ∧ ((0 ≤ x1.toInt ∧ (tM (G.2.1 (F a 35)) ((G.1 a 36).toInt) ((G1.1 a 37).toInt)) = x1.toInt) ∨ (x1.toInt < 0 ∧ (tM (G.2.1 (F a 35)) ((G.1 a 36).toInt) ((G1.1 a 37).toInt)) = x1.toInt + 256)) ∧ ((G.1 a 37).toInt) ≤ ((G1.1 a 37).toInt) ∧ ((G1.1 a 37).toInt) ≤ ((G.1 a 36).toInt))
    (I10_0 : ((G1.1 a 37).toInt) ≤ l2_10.toInt ∧ l2_10.toInt ≤ ((G.1 a 36).toInt))
    (hm10 : 2147483648 - l2_10.toInt < (((N10) + 1 : Nat) : Int))
    (z10 : ((0 ≤ l2_10.toInt ∧ l2_10.toInt < ((G.1 a 36).toInt)) ∧ True) ∨ (¬ (0 ≤ l2_10.toInt ∧ l2_10.toInt < ((G.1 a 36).toInt)) ∧ (tM (G.2.1 (F a 35)) ((G.1 a 36).toInt) (l2_10.toInt)) = 0))
    (t12 : -128 ≤ x12.toInt ∧ x12.toInt ≤ 127 ∧ ((0 ≤ x12.toInt ∧ (tM (G.2.1 (F a 35)) ((G.1 a 36).toInt) (l2_10.toInt)) = x12.toInt) ∨ (x12.toInt < 0 ∧ (tM (G.2.1 (F a 35)) ((G.1 a 36).toInt) (l2_10.toInt)) = x12.toInt + 256)))
    (t15 : (x15.toInt = 1 ∧ 97 ≤ x12.toInt ∧ x12.toInt ≤ 122) ∨ (x15.toInt = 0 ∧ (x12.toInt < 97 ∨ 122 < x12.toInt)))
    (c18 : x15.toInt = 0)
    (f20 : ((G.1 a 39).toInt) = 0 ∨ ((G.1 a 39).toInt) = 1)
    (c31 : ((G.1 a 39).toInt) = 0)
    (I54_0 : 0 ≤ l4_54.toInt ∧ l4_54.toInt ≤ (((n0) : Nat) : Int))
    (I54_1 : l3_54.toInt = 0 ∨ l3_54.toInt = 1)
    (I54_2 : (0 : Int) ≤ l4_54.toInt)
    (hm54 : 2147483648 - l4_54.toInt < (((N54) + 1 : Nat) : Int))
    (c55 : ¬ (l3_54.toInt = 0))
    (t61 : x61.toInt = (((n0) : Nat) : Int))
    (c62 : x61.toInt ≤ l4_54.toInt)
    (d_G108_a_37 : G108.1 a 37 = l2_10)
    (d_G108_a_38 : G108.1 a 38 = G.1 a 38)
    (d_G108_a_39 : G108.1 a 39 = G.1 a 39) :
    RdM (tM (G.2.1 (F a 35)) ((G.1 a 36).toInt)) ((G.1 a 36).toInt) (tkW (tM (G.2.1 (F a 35)) ((G.1 a 36).toInt)) r2 r1).2 ((G108.1 a 39).toInt) ((G108.1 a 37).toInt) ((G108.1 a 38).toInt) := by
  have he : l2_10.toInt = rn cLt (tM (G.2.1 (F a 35)) ((G.1 a 36).toInt)) ((G1.1 a 37).toInt) := by
    symm
    refine rn_eq ⟨by omega, pl, cLt_n ?_⟩
    omega
  first
    | (have nw := pw.2 (by omega)
       rw [tkW_f nw, d_G108_a_37, d_G108_a_38, d_G108_a_39]
       exact hrm.sk (tM_e _ _) oq1)
    | (obtain ⟨w1, w2, w3⟩ := pw.1 (by omega)
       have wk := rdm_w1 hrm oq1 he w1 (by rw [hwd.1]; exact w2) (fun i hi => w3 i (by rw [hwd.1] at hi; omega))
       rw [tkW_t wk.1 wk.2, d_G108_a_37, d_G108_a_38, d_G108_a_39]
       refine rdm_st (tM_e _ _) ?_ w1 (by omega)
       rw [show r1.2 + (r2.length : Int) = l2_10.toInt from ?_]
       have s2 := hrm.2.2.1 wk.1
       rw [← oq1] at s2
       have := hwd.1
       omega)
theorem v_X11_isWord_92_9 {K : Nat → Nat} {F : Nat → Nat → Nat} (a : Nat) (G : XG) (G1 : XG) (r1 : RSt) (r2 : List Int) (n0 : Nat) (p0 : Nat) (l2_10 : Int32) (l3_54 : Int32) (l4_54 : Int32) (x1 : Int32) (N10 : Nat) (x12 : Int32) (x15 : Int32) (N54 : Nat) (x61 : Int32) (x73 : Int32) (x79 : Int32)
    (ha : K a = 13)
    (hrm : RdM (tM (G.2.1 (F a 35)) ((G.1 a 36).toInt)) ((G.1 a 36).toInt) r1 ((G.1 a 39).toInt) ((G.1 a 37).toInt) ((G.1 a 38).toInt))
    (hwd : r2.length = n0 ∧ ∀ i : Nat, i < n0 → aI (G.2.1 p0) (i : Int) = r2.getD i 0 ∧ 0 ≤ r2.getD i 0 ∧ r2.getD i 0 ≤ 127)
    (oq1 : ((G1.1 a 37).toInt) = rn cBl (tM (G.2.1 (F a 35)) ((G.1 a 36).toInt)) ((G.1 a 37).toInt))
    (pl : ∀ j : Int, (G1.1 a 37).toInt ≤ j → j < l2_10.toInt → cLt ((tM (G.2.1 (F a 35)) ((G.1 a 36).toInt)) j))
    (pw : (l3_54.toInt = 1 → ((G.1 a 39).toInt ≠ 0 ∧ l2_10.toInt - (G1.1 a 37).toInt = (n0 : Int) ∧ ∀ i : Nat, (i : Int) < l4_54.toInt → (tM (G.2.1 (F a 35)) ((G.1 a 36).toInt)) ((G1.1 a 37).toInt + (i : Int)) = r2.getD i 0)) ∧ (l3_54.toInt = 0 → ¬ (r1.1 = 1 ∧ wOk (tM (G.2.1 (F a 35)) ((G.1 a 36).toInt)) r1.2 r2)))
    (nt0 : 0 ≤ ((G.1 a 36).toInt) ∧ ((G.1 a 36).toInt) ≤ 80)
    (f12 : 3 ≤ (((n0) : Nat) : Int) ∧ (((n0) : Nat) : Int) ≤ 7)
    (z0 : 0 ≤ ((G.1 a 37).toInt) ∧ ((G.1 a 37).toInt) ≤ ((G.1 a 36).toInt))
    (t1 : -128 ≤ x1.toInt ∧ x1.toInt ≤ 127 ∧ ((0 ≤ x1.toInt ∧ (tM (G.2.1 (F a 35)) ((G.1 a 36).toInt) ((G1.1 a 37).toInt)) = x1.toInt) ∨ (x1.toInt < 0 ∧ (tM (G.2.1 (F a 35)) ((G.1 a 36).toInt) ((G1.1 a 37).toInt)) = x1.toInt + 256)) ∧ ((G.1 a 37).toInt) ≤ ((G1.1 a 37).toInt) ∧ ((G1.1 a 37).toInt) ≤ ((G.1 a 36).toInt))
    (I10_0 : ((G1.1 a 37).toInt) ≤ l2_10.toInt ∧ l2_10.toInt ≤ ((G.1 a 36).toInt))
    (hm10 : 2147483648 - l2_10.toInt < (((N10) + 1 : Nat) : Int))
    (z10 : ((0 ≤ l2_10.toInt ∧ l2_10.toInt < ((G.1 a 36).toInt)) ∧ True) ∨ (¬ (0 ≤ l2_10.toInt ∧ l2_10.toInt < ((G.1 a 36).toInt)) ∧ (tM (G.2.1 (F a 35)) ((G.1 a 36).toInt) (l2_10.toInt)) = 0))
    (t12 : -128 ≤ x12.toInt ∧ x12.toInt ≤ 127 ∧ ((0 ≤ x12.toInt ∧ (tM (G.2.1 (F a 35)) ((G.1 a 36).toInt) (l2_10.toInt)) = x12.toInt) ∨ (x12.toInt < 0 ∧ (tM (G.2.1 (F a 35)) ((G.1 a 36).toInt) (l2_10.toInt)) = x12.toInt + 256)))
    (t15 : (x15.toInt = 1 ∧ 97 ≤ x12.toInt ∧ x12.toInt ≤ 122) ∨ (x15.toInt = 0 ∧ (x12.toInt < 97 ∨ 122 < x12.toInt)))
    (c18 : x15.toInt = 0)
    (f21 : ((G.1 a 39).toInt) = 0 ∨ ((G.1 a 39).toInt) = 1)
    (c31 : ((G.1 a 39).toInt) = 0)
    (I54_0 : 0 ≤ l4_54.toInt ∧ l4_54.toInt ≤ (((n0) : Nat) : Int))
    (I54_1 : l3_54.toInt = 0 ∨ l3_54.toInt = 1)
    (I54_2 : (0 : Int) ≤ l4_54.toInt)
    (hm54 : 2147483648 - l4_54.toInt < (((N54) + 1 : Nat) : Int))
    (c55 : ¬ (l3_54.toInt = 0))
    (t61 : x61.toInt = (((n0) : Nat) : Int))
    (c62 : ¬ (x61.toInt ≤ l4_54.toInt))
    (t73 : -128 ≤ x73.toInt ∧ x73.toInt ≤ 127 ∧ ((0 ≤ x73.toInt ∧ (tM (G.2.1 (F a 35)) ((G.1 a 36).toInt) (((G1.1 a 37).toInt) + l4_54.toInt)) = x73.toInt) ∨ (x73.toInt < 0 ∧ (tM (G.2.1 (F a 35)) ((G.1 a 36).toInt) (((G1.1 a 37).toInt) + l4_54.toInt)) = x73.toInt + 256)))
    (hv79 : x79.toInt = (aI (G.2.1 p0) (l4_54.toInt)))
    (c80 : x73.toInt ≠ x79.toInt) :
    ((0 : Int) = 1 → ((G.1 a 39).toInt ≠ 0 ∧ l2_10.toInt - (G1.1 a 37).toInt = (n0 : Int) ∧ ∀ i : Nat, (i : Int) < (l4_54.toInt + 1) → (tM (G.2.1 (F a 35)) ((G.1 a 36).toInt)) ((G1.1 a 37).toInt + (i : Int)) = r2.getD i 0)) ∧ ((0 : Int) = 0 → ¬ (r1.1 = 1 ∧ wOk (tM (G.2.1 (F a 35)) ((G.1 a 36).toInt)) r1.2 r2)) := by
  have he : l2_10.toInt = rn cLt (tM (G.2.1 (F a 35)) ((G.1 a 36).toInt)) ((G1.1 a 37).toInt) := by
    symm
    refine rn_eq ⟨by omega, pl, cLt_n ?_⟩
    omega
  have hi := hwd.2 (l4_54.toInt).toNat (by omega)
  rw [show (((l4_54.toInt).toNat : Nat) : Int) = l4_54.toInt from by omega] at hi
  obtain ⟨w1, w2, w3⟩ := pw.1 (by omega)
  refine ⟨fun h => ?_, fun h => ?_⟩
  · first
      | (exfalso; omega)
      | (refine ⟨w1, w2, fun i hj => ?_⟩
         by_cases e : (i : Int) = l4_54.toInt
         · rw [e, show i = (l4_54.toInt).toNat from by omega]
           omega
         · exact w3 i (by omega))
  · first
      | (exfalso; omega)
      | exact rdm_w0 hrm oq1 he (Or.inr (Or.inr ⟨(l4_54.toInt).toNat, by rw [hwd.1]; omega, by rw [show (((l4_54.toInt).toNat : Nat) : Int) = l4_54.toInt from by omega]; omega⟩))
theorem v_X11_isWord_92_10 {K : Nat → Nat} {F : Nat → Nat → Nat} (a : Nat) (G : XG) (G1 : XG) (r1 : RSt) (r2 : List Int) (n0 : Nat) (p0 : Nat) (l2_10 : Int32) (l3_54 : Int32) (l4_54 : Int32) (x1 : Int32) (N10 : Nat) (x12 : Int32) (x15 : Int32) (N54 : Nat) (x61 : Int32) (x73 : Int32) (x79 : Int32)
    (ha : K a = 13)
    (hrm : RdM (tM (G.2.1 (F a 35)) ((G.1 a 36).toInt)) ((G.1 a 36).toInt) r1 ((G.1 a 39).toInt) ((G.1 a 37).toInt) ((G.1 a 38).toInt))
    (hwd : r2.length = n0 ∧ ∀ i : Nat, i < n0 → aI (G.2.1 p0) (i : Int) = r2.getD i 0 ∧ 0 ≤ r2.getD i 0 ∧ r2.getD i 0 ≤ 127)
    (oq1 : ((G1.1 a 37).toInt) = rn cBl (tM (G.2.1 (F a 35)) ((G.1 a 36).toInt)) ((G.1 a 37).toInt))
    (pl : ∀ j : Int, (G1.1 a 37).toInt ≤ j → j < l2_10.toInt → cLt ((tM (G.2.1 (F a 35)) ((G.1 a 36).toInt)) j))
    (pw : (l3_54.toInt = 1 → ((G.1 a 39).toInt ≠ 0 ∧ l2_10.toInt - (G1.1 a 37).toInt = (n0 : Int) ∧ ∀ i : Nat, (i : Int) < l4_54.toInt → (tM (G.2.1 (F a 35)) ((G.1 a 36).toInt)) ((G1.1 a 37).toInt + (i : Int)) = r2.getD i 0)) ∧ (l3_54.toInt = 0 → ¬ (r1.1 = 1 ∧ wOk (tM (G.2.1 (F a 35)) ((G.1 a 36).toInt)) r1.2 r2)))
    (nt0 : 0 ≤ ((G.1 a 36).toInt) ∧ ((G.1 a 36).toInt) ≤ 80)
    (f12 : 3 ≤ (((n0) : Nat) : Int) ∧ (((n0) : Nat) : Int) ≤ 7)
    (z0 : 0 ≤ ((G.1 a 37).toInt) ∧ ((G.1 a 37).toInt) ≤ ((G.1 a 36).toInt))
    (t1 : -128 ≤ x1.toInt ∧ x1.toInt ≤ 127 ∧ ((0 ≤ x1.toInt ∧ (tM (G.2.1 (F a 35)) ((G.1 a 36).toInt) ((G1.1 a 37).toInt)) = x1.toInt) ∨ (x1.toInt < 0 ∧ (tM (G.2.1 (F a 35)) ((G.1 a 36).toInt) ((G1.1 a 37).toInt)) = x1.toInt + 256)) ∧ ((G.1 a 37).toInt) ≤ ((G1.1 a 37).toInt) ∧ ((G1.1 a 37).toInt) ≤ ((G.1 a 36).toInt))
    (I10_0 : ((G1.1 a 37).toInt) ≤ l2_10.toInt ∧ l2_10.toInt ≤ ((G.1 a 36).toInt))
    (hm10 : 2147483648 - l2_10.toInt < (((N10) + 1 : Nat) : Int))
    (z10 : ((0 ≤ l2_10.toInt ∧ l2_10.toInt < ((G.1 a 36).toInt)) ∧ True) ∨ (¬ (0 ≤ l2_10.toInt ∧ l2_10.toInt < ((G.1 a 36).toInt)) ∧ (tM (G.2.1 (F a 35)) ((G.1 a 36).toInt) (l2_10.toInt)) = 0))
    (t12 : -128 ≤ x12.toInt ∧ x12.toInt ≤ 127 ∧ ((0 ≤ x12.toInt ∧ (tM (G.2.1 (F a 35)) ((G.1 a 36).toInt) (l2_10.toInt)) = x12.toInt) ∨ (x12.toInt < 0 ∧ (tM (G.2.1 (F a 35)) ((G.1 a 36).toInt) (l2_10.toInt)) = x12.toInt + 256)))
    (t15 : (x15.toInt = 1 ∧ 97 ≤ x12.toInt ∧ x12.toInt ≤ 122) ∨ (x15.toInt = 0 ∧ (x12.toInt < 97 ∨ 122 < x12.toInt)))
    (c18 : x15.toInt = 0)
    (f21 : ((G.1 a 39).toInt) = 0 ∨ ((G.1 a 39).toInt) = 1)
    (c31 : ((G.1 a 39).toInt) = 0)
    (I54_0 : 0 ≤ l4_54.toInt ∧ l4_54.toInt ≤ (((n0) : Nat) : Int))
    (I54_1 : l3_54.toInt = 0 ∨ l3_54.toInt = 1)
    (I54_2 : (0 : Int) ≤ l4_54.toInt)
    (hm54 : 2147483648 - l4_54.toInt < (((N54) + 1 : Nat) : Int))
    (c55 : ¬ (l3_54.toInt = 0))
    (t61 : x61.toInt = (((n0) : Nat) : Int))
    (c62 : ¬ (x61.toInt ≤ l4_54.toInt))
    (t73 : -128 ≤ x73.toInt ∧ x73.toInt ≤ 127 ∧ ((0 ≤ x73.toInt ∧ (tM (G.2.1 (F a 35)) ((G.1 a 36).toInt) (((G1.1 a 37).toInt) + l4_54.toInt)) = x73.toInt) ∨ (x73.toInt < 0 ∧ (tM (G.2.1 (F a 35)) ((G.1 a 36).toInt) (((G1.1 a 37).toInt) + l4_54.toInt)) = x73.toInt + 256)))
    (hv79 : x79.toInt = (aI (G.2.1 p0) (l4_54.toInt)))
    (c80 : ¬ (x73.toInt ≠ x79.toInt)) :
    ((1 : Int) = 1 → ((G.1 a 39).toInt ≠ 0 ∧ l2_10.toInt - (G1.1 a 37).toInt = (n0 : Int) ∧ ∀ i : Nat, (i : Int) < (l4_54.toInt + 1) → (tM (G.2.1 (F a 35)) ((G.1 a 36).toInt)) ((G1.1 a 37).toInt + (i : Int)) = r2.getD i 0)) ∧ ((1 : Int) = 0 → ¬ (r1.1 = 1 ∧ wOk (tM (G.2.1 (F a 35)) ((G.1 a 36).toInt)) r1.2 r2)) := by
  have he : l2_10.toInt = rn cLt (tM (G.2.1 (F a 35)) ((G.1 a 36).toInt)) ((G1.1 a 37).toInt) := by
    symm
    refine rn_eq ⟨by omega, pl, cLt_n ?_⟩
    omega
  have hi := hwd.2 (l4_54.toInt).toNat (by omega)
  rw [show (((l4_54.toInt).toNat : Nat) : Int) = l4_54.toInt from by omega] at hi
  obtain ⟨w1, w2, w3⟩ := pw.1 (by omega)
  refine ⟨fun h => ?_, fun h => ?_⟩
  · first
      | (exfalso; omega)
      | (refine ⟨w1, w2, fun i hj => ?_⟩
         by_cases e : (i : Int) = l4_54.toInt
         · rw [e, show i = (l4_54.toInt).toNat from by omega]
           omega
         · exact w3 i (by omega))
  · first
      | (exfalso; omega)
      | exact rdm_w0 hrm oq1 he (Or.inr (Or.inr ⟨(l4_54.toInt).toNat, by rw [hwd.1]; omega, by rw [show (((l4_54.toInt).toNat : Nat) : Int) = l4_54.toInt from by omega]; omega⟩))
theorem v_X11_isWord_52_11 {K : Nat → Nat} {F : Nat → Nat → Nat} (a : Nat) (G : XG) (G1 : XG) (r1 : RSt) (r2 : List Int) (n0 : Nat) (p0 : Nat) (l2_10 : Int32) (x1 : Int32) (N10 : Nat) (x12 : Int32) (x15 : Int32)
    (ha : K a = 13)
    (hrm : RdM (tM (G.2.1 (F a 35)) ((G.1 a 36).toInt)) ((G.1 a 36).toInt) r1 ((G.1 a 39).toInt) ((G.1 a 37).toInt) ((G.1 a 38).toInt))
    (hwd : r2.length = n0 ∧ ∀ i : Nat, i < n0 → aI (G.2.1 p0) (i : Int) = r2.getD i 0 ∧ 0 ≤ r2.getD i 0 ∧ r2.getD i 0 ≤ 127)
    (oq1 : ((G1.1 a 37).toInt) = rn cBl (tM (G.2.1 (F a 35)) ((G.1 a 36).toInt)) ((G.1 a 37).toInt))
    (pl : ∀ j : Int, (G1.1 a 37).toInt ≤ j → j < l2_10.toInt → cLt ((tM (G.2.1 (F a 35)) ((G.1 a 36).toInt)) j))
    (nt0 : 0 ≤ ((G.1 a 36).toInt) ∧ ((G.1 a 36).toInt) ≤ 80)
    (f9 : 3 ≤ (((n0) : Nat) : Int) ∧ (((n0) : Nat) : Int) ≤ 7)
    (z0 : 0 ≤ ((G.1 a 37).toInt) ∧ ((G.1 a 37).toInt) ≤ ((G.1 a 36).toInt))
    (t1 : -128 ≤ x1.toInt ∧ x1.toInt ≤ 127 ∧ ((0 ≤ x1.toInt ∧ (tM (G.2.1 (F a 35)) ((G.1 a 36).toInt) ((G1.1 a 37).toInt)) = x1.toInt) ∨ (x1.toInt < 0 ∧ (tM (G.2.1 (F a 35)) ((G.1 a 36).toInt) ((G1.1 a 37).toInt)) = x1.toInt + 256)) ∧ ((G.1 a 37).toInt) ≤ ((G1.1 a 37).toInt) ∧ ((G1.1 a 37).toInt) ≤ ((G.1 a 36).toInt))
    (I10_0 : ((G1.1 a 37).toInt) ≤ l2_10.toInt ∧ l2_10.toInt ≤ ((G.1 a 36).toInt))
    (hm10 : 2147483648 - l2_10.toInt < (((N10) + 1 : Nat) : Int))
    (z10 : ((0 ≤ l2_10.toInt ∧ l2_10.toInt < ((G.1 a 36).toInt)) ∧ True) ∨ (¬ (0 ≤ l2_10.toInt ∧ l2_10.toInt < ((G.1 a 36).toInt)) ∧ (tM (G.2.1 (F a 35)) ((G.1 a 36).toInt) (l2_10.toInt)) = 0))
    (t12 : -128 ≤ x12.toInt ∧ x12.toInt ≤ 127 ∧ ((0 ≤ x12.toInt ∧ (tM (G.2.1 (F a 35)) ((G.1 a 36).toInt) (l2_10.toInt)) = x12.toInt) ∨ (x12.toInt < 0 ∧ (tM (G.2.1 (F a 35)) ((G.1 a 36).toInt) (l2_10.toInt)) = x12.toInt + 256)))
    (t15 : (x15.toInt = 1 ∧ 97 ≤ x12.toInt ∧ x12.toInt ≤ 122) ∨ (x15.toInt = 0 ∧ (x12.toInt < 97 ∨ 122 < x12.toInt)))
    (c18 : x15.toInt = 0)
    (f18 : ((G.1 a 39).toInt) = 0 ∨ ((G.1 a 39).toInt) = 1)
    (c31 : ((G.1 a 39).toInt) = 0) :
    ((0 : Int) = 1 → ((G.1 a 39).toInt ≠ 0 ∧ l2_10.toInt - (G1.1 a 37).toInt = (n0 : Int) ∧ ∀ i : Nat, (i : Int) < (0 : Int) → (tM (G.2.1 (F a 35)) ((G.1 a 36).toInt)) ((G1.1 a 37).toInt + (i : Int)) = r2.getD i 0)) ∧ ((0 : Int) = 0 → ¬ (r1.1 = 1 ∧ wOk (tM (G.2.1 (F a 35)) ((G.1 a 36).toInt)) r1.2 r2)) := by
  have he : l2_10.toInt = rn cLt (tM (G.2.1 (F a 35)) ((G.1 a 36).toInt)) ((G1.1 a 37).toInt) := by
    symm
    refine rn_eq ⟨by omega, pl, cLt_n ?_⟩
    omega
  refine ⟨fun h => ?_, fun h => ?_⟩
  · first
      | (exfalso; omega)
      | exact ⟨by omega, by omega, fun i hi => by omega⟩
  · first
      | (exfalso; omega)
      | exact rdm_w0 hrm oq1 he (Or.inl (by omega))
      | exact rdm_w0 hrm oq1 he (Or.inr (Or.inl (by rw [hwd.1]; omega)))
theorem v_X11_isWord_112_12 {K : Nat → Nat} {F : Nat → Nat → Nat} (a : Nat) (G : XG) (G1 : XG) (r1 : RSt) (r2 : List Int) (n0 : Nat) (p0 : Nat) (l2_10 : Int32) (l3_54 : Int32) (l4_54 : Int32) (x1 : Int32) (N10 : Nat) (x12 : Int32) (x15 : Int32) (x41 : Int32) (N54 : Nat)
    (ha : K a = 13)
    (hrm : RdM (tM (G.2.1 (F a 35)) ((G.1 a 36).toInt)) ((G.1 a 36).toInt) r1 ((G.1 a 39).toInt) ((G.1 a 37).toInt) ((G.1 a 38).toInt))
    (hwd : r2.length = n0 ∧ ∀ i : Nat, i < n0 → aI (G.2.1 p0) (i : Int) = r2.getD i 0 ∧ 0 ≤ r2.getD i 0 ∧ r2.getD i 0 ≤ 127)
    (oq1 : ((G1.1 a 37).toInt) = rn cBl (tM (G.2.1 (F a 35)) ((G.1 a 36).toInt)) ((G.1 a 37).toInt))
    (pl : ∀ j : Int, (G1.1 a 37).toInt ≤ j → j < l2_10.toInt → cLt ((tM (G.2.1 (F a 35)) ((G.1 a 36).toInt)) j))
    (pw : (l3_54.toInt = 1 → ((G.1 a 39).toInt ≠ 0 ∧ l2_10.toInt - (G1.1 a 37).toInt = (n0 : Int) ∧ ∀ i : Nat, (i : Int) < l4_54.toInt → (tM (G.2.1 (F a 35)) ((G.1 a 36).toInt)) ((G1.1 a 37).toInt + (i : Int)) = r2.getD i 0)) ∧ (l3_54.toInt = 0 → ¬ (r1.1 = 1 ∧ wOk (tM (G.2.1 (F a 35)) ((G.1 a 36).toInt)) r1.2 r2)))
    (nt0 : 0 ≤ ((G.1 a 36).toInt) ∧ ((G.1 a 36).toInt) ≤ 80)
    (f12 : 3 ≤ (((n0) : Nat) : Int) ∧ (((n0) : Nat) : Int) ≤ 7)
    (z0 : 0 ≤ ((G.1 a 37).toInt) ∧ ((G.1 a 37).toInt) ≤ ((G.1 a 36).toInt))
    (t1 : -128 ≤ x1.toInt ∧ x1.toInt ≤ 127 ∧ ((0 ≤ x1.toInt ∧ (tM (G.2.1 (F a 35)) ((G.1 a 36).toInt) ((G1.1 a 37).toInt)) = x1.toInt) ∨ (x1.toInt < 0 ∧ (tM (G.2.1 (F a 35)) ((G.1 a 36).toInt) ((G1.1 a 37).toInt)) = x1.toInt + 256)) ∧ ((G.1 a 37).toInt) ≤ ((G1.1 a 37).toInt) ∧ ((G1.1 a 37).toInt) ≤ ((G.1 a 36).toInt))
    (I10_0 : ((G1.1 a 37).toInt) ≤ l2_10.toInt ∧ l2_10.toInt ≤ ((G.1 a 36).toInt))
    (hm10 : 2147483648 - l2_10.toInt < (((N10) + 1 : Nat) : Int))
    (z10 : ((0 ≤ l2_10.toInt ∧ l2_10.toInt < ((G.1 a 36).toInt)) ∧ True) ∨ (¬ (0 ≤ l2_10.toInt ∧ l2_10.toInt < ((G.1 a 36).toInt)) ∧ (tM (G.2.1 (F a 35)) ((G.1 a 36).toInt) (l2_10.toInt)) = 0))
    (t12 : -128 ≤ x12.toInt ∧ x12.toInt ≤ 127 ∧ ((0 ≤ x12.toInt ∧ (tM (G.2.1 (F a 35)) ((G.1 a 36).toInt) (l2_10.toInt)) = x12.toInt) ∨ (x12.toInt < 0 ∧ (tM (G.2.1 (F a 35)) ((G.1 a 36).toInt) (l2_10.toInt)) = x12.toInt + 256)))
    (t15 : (x15.toInt = 1 ∧ 97 ≤ x12.toInt ∧ x12.toInt ≤ 122) ∨ (x15.toInt = 0 ∧ (x12.toInt < 97 ∨ 122 < x12.toInt)))
    (c18 : x15.toInt = 0)
    (f21 : ((G.1 a 39).toInt) = 0 ∨ ((G.1 a 39).toInt) = 1)
    (c31 : ¬ (((G.1 a 39).toInt) = 0))
    (t41 : x41.toInt = (((n0) : Nat) : Int))
    (c42 : (l2_10.toInt - ((G1.1 a 37).toInt)) ≠ x41.toInt)
    (I54_0 : 0 ≤ l4_54.toInt ∧ l4_54.toInt ≤ (((n0) : Nat) : Int))
    (I54_1 : l3_54.toInt = 0 ∨ l3_54.toInt = 1)
    (I54_2 : (0 : Int) ≤ l4_54.toInt)
    (hm54 : 2147483648 - l4_54.toInt < (((N54) + 1 : Nat) : Int))
    (c55 : l3_54.toInt = 0) :
    l3_54.toInt = (tkW (tM (G.2.1 (F a 35)) ((G.1 a 36).toInt)) r2 r1).1 := by
  have he : l2_10.toInt = rn cLt (tM (G.2.1 (F a 35)) ((G.1 a 36).toInt)) ((G1.1 a 37).toInt) := by
    symm
    refine rn_eq ⟨by omega, pl, cLt_n ?_⟩
    omega
  first
    | (have nw := pw.2 (by omega)
       rw [tkW_f nw]
       show l3_54.toInt = 0
       omega)
    | (obtain ⟨w1, w2, w3⟩ := pw.1 (by omega)
       have wk := rdm_w1 hrm oq1 he w1 (by rw [hwd.1]; exact w2) (fun i hi => w3 i (by rw [hwd.1] at hi; omega))
       rw [tkW_t wk.1 wk.2]
       show l3_54.toInt = 1
       omega)
theorem v_X11_isWord_112_13 {K : Nat → Nat} {F : Nat → Nat → Nat} (a : Nat) (G : XG) (G1 : XG) (G108 : XG) (r1 : RSt) (r2 : List Int) (n0 : Nat) (p0 : Nat) (l2_10 : Int32) (l3_54 : Int32) (l4_54 : Int32) (x1 : Int32) (N10 : Nat) (x12 : Int32) (x15 : Int32) (x41 : Int32) (N54 : Nat)
    (ha : K a = 13)
    (hrm : RdM (tM (G.2.1 (F a 35)) ((G.1 a 36).toInt)) ((G.1 a 36).toInt) r1 ((G.1 a 39).toInt) ((G.1 a 37).toInt) ((G.1 a 38).toInt))
    (hwd : r2.length = n0 ∧ ∀ i : Nat, i < n0 → aI (G.2.1 p0) (i : Int) = r2.getD i 0 ∧ 0 ≤ r2.getD i 0 ∧ r2.getD i 0 ≤ 127)
    (oq1 : ((G1.1 a 37).toInt) = rn cBl (tM (G.2.1 (F a 35)) ((G.1 a 36).toInt)) ((G.1 a 37).toInt))
    (pl : ∀ j : Int, (G1.1 a 37).toInt ≤ j → j < l2_10.toInt → cLt ((tM (G.2.1 (F a 35)) ((G.1 a 36).toInt)) j))
    (pw : (l3_54.toInt = 1 → ((G.1 a 39).toInt ≠ 0 ∧ l2_10.toInt - (G1.1 a 37).toInt = (n0 : Int) ∧ ∀ i : Nat, (i : Int) < l4_54.toInt → (tM (G.2.1 (F a 35)) ((G.1 a 36).toInt)) ((G1.1 a 37).toInt + (i : Int)) = r2.getD i 0)) ∧ (l3_54.toInt = 0 → ¬ (r1.1 = 1 ∧ wOk (tM (G.2.1 (F a 35)) ((G.1 a 36).toInt)) r1.2 r2)))
    (nt0 : 0 ≤ ((G.1 a 36).toInt) ∧ ((G.1 a 36).toInt) ≤ 80)
    (f12 : 3 ≤ (((n0) : Nat) : Int) ∧ (((n0) : Nat) : Int) ≤ 7)
    (z0 : 0 ≤ ((G.1 a 37).toInt) ∧ ((G.1 a 37).toInt) ≤ ((G.1 a 36).toInt))
    (t1 : -128 ≤ x1.toInt ∧ x1.toInt ≤ 127 ∧ ((0 ≤ x1.toInt ∧ (tM (G.2.1 (F a 35)) ((G.1 a 36).toInt) ((G1.1 a 37).toInt)) = x1.toInt) ∨ (x1.toInt < 0 ∧ (tM (G.2.1 (F a 35)) ((G.1 a 36).toInt) ((G1.1 a 37).toInt)) = x1.toInt + 256)) ∧ ((G.1 a 37).toInt) ≤ ((G1.1 a 37).toInt) ∧ ((G1.1 a 37).toInt) ≤ ((G.1 a 36).toInt))
    (I10_0 : ((G1.1 a 37).toInt) ≤ l2_10.toInt ∧ l2_10.toInt ≤ ((G.1 a 36).toInt))
    (hm10 : 2147483648 - l2_10.toInt < (((N10) + 1 : Nat) : Int))
    (z10 : ((0 ≤ l2_10.toInt ∧ l2_10.toInt < ((G.1 a 36).toInt)) ∧ True) ∨ (¬ (0 ≤ l2_10.toInt ∧ l2_10.toInt < ((G.1 a 36).toInt)) ∧ (tM (G.2.1 (F a 35)) ((G.1 a 36).toInt) (l2_10.toInt)) = 0))
    (t12 : -128 ≤ x12.toInt ∧ x12.toInt ≤ 127 ∧ ((0 ≤ x12.toInt ∧ (tM (G.2.1 (F a 35)) ((G.1 a 36).toInt) (l2_10.toInt)) = x12.toInt) ∨ (x12.toInt < 0 ∧ (tM (G.2.1 (F a 35)) ((G.1 a 36).toInt) (l2_10.toInt)) = x12.toInt + 256)))
    (t15 : (x15.toInt = 1 ∧ 97 ≤ x12.toInt ∧ x12.toInt ≤ 122) ∨ (x15.toInt = 0 ∧ (x12.toInt < 97 ∨ 122 < x12.toInt)))
    (c18 : x15.toInt = 0)
    (f21 : ((G.1 a 39).toInt) = 0 ∨ ((G.1 a 39).toInt) = 1)
    (c31 : ¬ (((G.1 a 39).toInt) = 0))
    (t41 : x41.toInt = (((n0) : Nat) : Int))
    (c42 : (l2_10.toInt - ((G1.1 a 37).toInt)) ≠ x41.toInt)
    (I54_0 : 0 ≤ l4_54.toInt ∧ l4_54.toInt ≤ (((n0) : Nat) : Int))
    (I54_1 : l3_54.toInt = 0 ∨ l3_54.toInt = 1)
    (I54_2 : (0 : Int) ≤ l4_54.toInt)
    (hm54 : 2147483648 - l4_54.toInt < (((N54) + 1 : Nat) : Int))
    (c55 : l3_54.toInt = 0)
    (d_G108_a_37 : G108.1 a 37 = (G1.1 a 37))
    (d_G108_a_38 : G108.1 a 38 = G.1 a 38)
    (d_G108_a_39 : G108.1 a 39 = G.1 a 39) :
    RdM (tM (G.2.1 (F a 35)) ((G.1 a 36).toInt)) ((G.1 a 36).toInt) (tkW (tM (G.2.1 (F a 35)) ((G.1 a 36).toInt)) r2 r1).2 ((G108.1 a 39).toInt) ((G108.1 a 37).toInt) ((G108.1 a 38).toInt) := by
  have he : l2_10.toInt = rn cLt (tM (G.2.1 (F a 35)) ((G.1 a 36).toInt)) ((G1.1 a 37).toInt) := by
    symm
    refine rn_eq ⟨by omega, pl, cLt_n ?_⟩
    omega
  first
    | (have nw := pw.2 (by omega)
       rw [tkW_f nw, d_G108_a_37, d_G108_a_38, d_G108_a_39]
       exact hrm.sk (tM_e _ _) oq1)
    | (obtain ⟨w1, w2, w3⟩ := pw.1 (by omega)
       have wk := rdm_w1 hrm oq1 he w1 (by rw [hwd.1]; exact w2) (fun i hi => w3 i (by rw [hwd.1] at hi; omega))
       rw [tkW_t wk.1 wk.2, d_G108_a_37, d_G108_a_38, d_G108_a_39]
       refine rdm_st (tM_e _ _) ?_ w1 (by omega)
       rw [show r1.2 + (r2.length : Int) = l2_10.toInt from ?_]
       have s2 := hrm.2.2.1 wk.1
       rw [← oq1] at s2
       have := hwd.1
       omega)
theorem v_X11_isWord_112_14 {K : Nat → Nat} {F : Nat → Nat → Nat} (a : Nat) (G : XG) (G1 : XG) (l2_10 : Int32) (r1 : RSt) (r2 : List Int) (n0 : Nat) (p0 : Nat) (l3_54 : Int32) (l4_54 : Int32) (x1 : Int32) (N10 : Nat) (x12 : Int32) (x15 : Int32) (x41 : Int32) (N54 : Nat)
    (ha : K a = 13)
    (hrm : RdM (tM (G.2.1 (F a 35)) ((G.1 a 36).toInt)) ((G.1 a 36).toInt) r1 ((G.1 a 39).toInt) ((G.1 a 37).toInt) ((G.1 a 38).toInt))
    (hwd : r2.length = n0 ∧ ∀ i : Nat, i < n0 → aI (G.2.1 p0) (i : Int) = r2.getD i 0 ∧ 0 ≤ r2.getD i 0 ∧ r2.getD i 0 ≤ 127)
    (oq1 : ((G1.1 a 37).toInt) = rn cBl (tM (G.2.1 (F a 35)) ((G.1 a 36).toInt)) ((G.1 a 37).toInt))
    (pl : ∀ j : Int, (G1.1 a 37).toInt ≤ j → j < l2_10.toInt → cLt ((tM (G.2.1 (F a 35)) ((G.1 a 36).toInt)) j))
    (pw : (l3_54.toInt = 1 → ((G.1 a 39).toInt ≠ 0 ∧ l2_10.toInt - (G1.1 a 37).toInt = (n0 : Int) ∧ ∀ i : Nat, (i : Int) < l4_54.toInt → (tM (G.2.1 (F a 35)) ((G.1 a 36).toInt)) ((G1.1 a 37).toInt + (i : Int)) = r2.getD i 0)) ∧ (l3_54.toInt = 0 → ¬ (r1.1 = 1 ∧ wOk (tM (G.2.1 (F a 35)) ((G.1 a 36).toInt)) r1.2 r2)))
    (nt0 : 0 ≤ ((G.1 a 36).toInt) ∧ ((G.1 a 36).toInt) ≤ 80)
    (f12 : 3 ≤ (((n0) : Nat) : Int) ∧ (((n0) : Nat) : Int) ≤ 7)
    (z0 : 0 ≤ ((G.1 a 37).toInt) ∧ ((G.1 a 37).toInt) ≤ ((G.1 a 36).toInt))
    (t1 : -128 ≤ x1.toInt ∧ x1.toInt ≤ 127 ∧ ((0 ≤ x1.toInt ∧ (tM (G.2.1 (F a 35)) ((G.1 a 36).toInt) ((G1.1 a 37).toInt)) = x1.toInt) ∨ (x1.toInt < 0 ∧ (tM (G.2.1 (F a 35)) ((G.1 a 36).toInt) ((G1.1 a 37).toInt)) = x1.toInt + 256)) ∧ ((G.1 a 37).toInt) ≤ ((G1.1 a 37).toInt) ∧ ((G1.1 a 37).toInt) ≤ ((G.1 a 36).toInt))
    (I10_0 : ((G1.1 a 37).toInt) ≤ l2_10.toInt ∧ l2_10.toInt ≤ ((G.1 a 36).toInt))
    (hm10 : 2147483648 - l2_10.toInt < (((N10) + 1 : Nat) : Int))
    (z10 : ((0 ≤ l2_10.toInt ∧ l2_10.toInt < ((G.1 a 36).toInt)) ∧ True) ∨ (¬ (0 ≤ l2_10.toInt ∧ l2_10.toInt < ((G.1 a 36).toInt)) ∧ (tM (G.2.1 (F a 35)) ((G.1 a 36).toInt) (l2_10.toInt)) = 0))
    (t12 : -128 ≤ x12.toInt ∧ x12.toInt ≤ 127 ∧ ((0 ≤ x12.toInt ∧ (tM (G.2.1 (F a 35)) ((G.1 a 36).toInt) (l2_10.toInt)) = x12.toInt) ∨ (x12.toInt < 0 ∧ (tM (G.2.1 (F a 35)) ((G.1 a 36).toInt) (l2_10.toInt)) = x12.toInt + 256)))
    (t15 : (x15.toInt = 1 ∧ 97 ≤ x12.toInt ∧ x12.toInt ≤ 122) ∨ (x15.toInt = 0 ∧ (x12.toInt < 97 ∨ 122 < x12.toInt)))
    (c18 : x15.toInt = 0)
    (f21 : ((G.1 a 39).toInt) = 0 ∨ ((G.1 a 39).toInt) = 1)
    (c31 : ¬ (((G.1 a 39).toInt) = 0))
    (t41 : x41.toInt = (((n0) : Nat) : Int))
    (c42 : (l2_10.toInt - ((G1.1 a 37).toInt)) ≠ x41.toInt)
    (I54_0 : 0 ≤ l4_54.toInt ∧ l4_54.toInt ≤ (((n0) : Nat) : Int))
    (I54_1 : l3_54.toInt = 0 ∨ l3_54.toInt = 1)
    (I54_2 : (0 : Int) ≤ l4_54.toInt)
    (hm54 : 2147483648 - l4_54.toInt < (((N54) + 1 : Nat) : Int))
    (c55 : l3_54.toInt = 0)
    (c97 : ¬ (l3_54.toInt = 0)) :
    l3_54.toInt = (tkW (tM (G.2.1 (F a 35)) ((G.1 a 36).toInt)) r2 r1).1 := by
  have he : l2_10.toInt = rn cLt (tM (G.2.1 (F a 35)) ((G.1 a 36).toInt)) ((G1.1 a 37).toInt) := by
    symm
    refine rn_eq ⟨by omega, pl, cLt_n ?_⟩
    omega
  first
    | (have nw := pw.2 (by omega)
       rw [tkW_f nw]
       show l3_54.toInt = 0
       omega)
    | (obtain ⟨w1, w2, w3⟩ := pw.1 (by omega)
       have wk := rdm_w1 hrm oq1 he w1 (by rw [hwd.1]; exact w2) (fun i hi => w3 i (by rw [hwd.1] at hi; omega))
       rw [tkW_t wk.1 wk.2]
       show l3_54.toInt = 1
       omega)
theorem v_X11_isWord_112_15 {K : Nat → Nat} {F : Nat → Nat → Nat} (a : Nat) (G : XG) (G1 : XG) (G108 : XG) (l2_10 : Int32) (r1 : RSt) (r2 : List Int) (n0 : Nat) (p0 : Nat) (l3_54 : Int32) (l4_54 : Int32) (x1 : Int32) (N10 : Nat) (x12 : Int32) (x15 : Int32) (x41 : Int32) (N54 : Nat)
    (ha : K a = 13)
    (hrm : RdM (tM (G.2.1 (F a 35)) ((G.1 a 36).toInt)) ((G.1 a 36).toInt) r1 ((G.1 a 39).toInt) ((G.1 a 37).toInt) ((G.1 a 38).toInt))
    (hwd : r2.length = n0 ∧ ∀ i : Nat, i < n0 → aI (G.2.1 p0) (i : Int) = r2.getD i 0 ∧ 0 ≤ r2.getD i 0 ∧ r2.getD i 0 ≤ 127)
    (oq1 : ((G1.1 a 37).toInt) = rn cBl (tM (G.2.1 (F a 35)) ((G.1 a 36).toInt)) ((G.1 a 37).toInt))
    (pl : ∀ j : Int, (G1.1 a 37).toInt ≤ j → j < l2_10.toInt → cLt ((tM (G.2.1 (F a 35)) ((G.1 a 36).toInt)) j))
    (pw : (l3_54.toInt = 1 → ((G.1 a 39).toInt ≠ 0 ∧ l2_10.toInt - (G1.1 a 37).toInt = (n0 : Int) ∧ ∀ i : Nat, (i : Int) < l4_54.toInt → (tM (G.2.1 (F a 35)) ((G.1 a 36).toInt)) ((G1.1 a 37).toInt + (i : Int)) = r2.getD i 0)) ∧ (l3_54.toInt = 0 → ¬ (r1.1 = 1 ∧ wOk (tM (G.2.1 (F a 35)) ((G.1 a 36).toInt)) r1.2 r2)))
    (nt0 : 0 ≤ ((G.1 a 36).toInt) ∧ ((G.1 a 36).toInt) ≤ 80)
    (f12 : 3 ≤ (((n0) : Nat) : Int) ∧ (((n0) : Nat) : Int) ≤ 7)
    (z0 : 0 ≤ ((G.1 a 37).toInt) ∧ ((G.1 a 37).toInt) ≤ ((G.1 a 36).toInt))
    (t1 : -128 ≤ x1.toInt ∧ x1.toInt ≤ 127 ∧ ((0 ≤ x1.toInt ∧ (tM (G.2.1 (F a 35)) ((G.1 a 36).toInt) ((G1.1 a 37).toInt)) = x1.toInt) ∨ (x1.toInt < 0 ∧ (tM (G.2.1 (F a 35)) ((G.1 a 36).toInt) ((G1.1 a 37).toInt)) = x1.toInt + 256)) ∧ ((G.1 a 37).toInt) ≤ ((G1.1 a 37).toInt) ∧ ((G1.1 a 37).toInt) ≤ ((G.1 a 36).toInt))
    (I10_0 : ((G1.1 a 37).toInt) ≤ l2_10.toInt ∧ l2_10.toInt ≤ ((G.1 a 36).toInt))
    (hm10 : 2147483648 - l2_10.toInt < (((N10) + 1 : Nat) : Int))
    (z10 : ((0 ≤ l2_10.toInt ∧ l2_10.toInt < ((G.1 a 36).toInt)) ∧ True) ∨ (¬ (0 ≤ l2_10.toInt ∧ l2_10.toInt < ((G.1 a 36).toInt)) ∧ (tM (G.2.1 (F a 35)) ((G.1 a 36).toInt) (l2_10.toInt)) = 0))
    (t12 : -128 ≤ x12.toInt ∧ x12.toInt ≤ 127 ∧ ((0 ≤ x12.toInt ∧ (tM (G.2.1 (F a 35)) ((G.1 a 36).toInt) (l2_10.toInt)) = x12.toInt) ∨ (x12.toInt < 0 ∧ (tM (G.2.1 (F a 35)) ((G.1 a 36).toInt) (l2_10.toInt)) = x12.toInt + 256)))
    (t15 : (x15.toInt = 1 ∧ 97 ≤ x12.toInt ∧ x12.toInt ≤ 122) ∨ (x15.toInt = 0 ∧ (x12.toInt < 97 ∨ 122 < x12.toInt)))
    (c18 : x15.toInt = 0)
    (f21 : ((G.1 a 39).toInt) = 0 ∨ ((G.1 a 39).toInt) = 1)
    (c31 : ¬ (((G.1 a 39).toInt) = 0))
    (t41 : x41.toInt = (((n0) : Nat) : Int))
    (c42 : (l2_10.toInt - ((G1.1 a 37).toInt)) ≠ x41.toInt)
    (I54_0 : 0 ≤ l4_54.toInt ∧ l4_54.toInt ≤ (((n0) : Nat) : Int))
    (I54_1 : l3_54.toInt = 0 ∨ l3_54.toInt = 1)
    (I54_2 : (0 : Int) ≤ l4_54.toInt)
    (hm54 : 2147483648 - l4_54.toInt < (((N54) + 1 : Nat) : Int))
    (c55 : l3_54.toInt = 0)
    (c97 : ¬ (l3_54.toInt = 0))
    (d_G108_a_37 : G108.1 a 37 = l2_10)
    (d_G108_a_38 : G108.1 a 38 = G.1 a 38)
    (d_G108_a_39 : G108.1 a 39 = G.1 a 39) :
    RdM (tM (G.2.1 (F a 35)) ((G.1 a 36).toInt)) ((G.1 a 36).toInt) (tkW (tM (G.2.1 (F a 35)) ((G.1 a 36).toInt)) r2 r1).2 ((G108.1 a 39).toInt) ((G108.1 a 37).toInt) ((G108.1 a 38).toInt) := by
  have he : l2_10.toInt = rn cLt (tM (G.2.1 (F a 35)) ((G.1 a 36).toInt)) ((G1.1 a 37).toInt) := by
    symm
    refine rn_eq ⟨by omega, pl, cLt_n ?_⟩
    omega
  first
    | (have nw := pw.2 (by omega)
       rw [tkW_f nw, d_G108_a_37, d_G108_a_38, d_G108_a_39]
       exact hrm.sk (tM_e _ _) oq1)
    | (obtain ⟨w1, w2, w3⟩ := pw.1 (by omega)
       have wk := rdm_w1 hrm oq1 he w1 (by rw [hwd.1]; exact w2) (fun i hi => w3 i (by rw [hwd.1] at hi; omega))
       rw [tkW_t wk.1 wk.2, d_G108_a_37, d_G108_a_38, d_G108_a_39]
       refine rdm_st (tM_e _ _) ?_ w1 (by omega)
       rw [show r1.2 + (r2.length : Int) = l2_10.toInt from ?_]
       have s2 := hrm.2.2.1 wk.1
       rw [← oq1] at s2
       have := hwd.1
       omega)
theorem v_X11_isWord_112_16 {K : Nat → Nat} {F : Nat → Nat → Nat} (a : Nat) (G : XG) (G1 : XG) (r1 : RSt) (r2 : List Int) (n0 : Nat) (p0 : Nat) (l2_10 : Int32) (l3_54 : Int32) (l4_54 : Int32) (x1 : Int32) (N10 : Nat) (x12 : Int32) (x15 : Int32) (x41 : Int32) (N54 : Nat) (x61 : Int32)
    (ha : K a = 13)
    (hrm : RdM (tM (G.2.1 (F a 35)) ((G.1 a 36).toInt)) ((G.1 a 36).toInt) r1 ((G.1 a 39).toInt) ((G.1 a 37).toInt) ((G.1 a 38).toInt))
    (hwd : r2.length = n0 ∧ ∀ i : Nat, i < n0 → aI (G.2.1 p0) (i : Int) = r2.getD i 0 ∧ 0 ≤ r2.getD i 0 ∧ r2.getD i 0 ≤ 127)
    (oq1 : ((G1.1 a 37).toInt) = rn cBl (tM (G.2.1 (F a 35)) ((G.1 a 36).toInt)) ((G.1 a 37).toInt))
    (pl : ∀ j : Int, (G1.1 a 37).toInt ≤ j → j < l2_10.toInt → cLt ((tM (G.2.1 (F a 35)) ((G.1 a 36).toInt)) j))
    (pw : (l3_54.toInt = 1 → ((G.1 a 39).toInt ≠ 0 ∧ l2_10.toInt - (G1.1 a 37).toInt = (n0 : Int) ∧ ∀ i : Nat, (i : Int) < l4_54.toInt → (tM (G.2.1 (F a 35)) ((G.1 a 36).toInt)) ((G1.1 a 37).toInt + (i : Int)) = r2.getD i 0)) ∧ (l3_54.toInt = 0 → ¬ (r1.1 = 1 ∧ wOk (tM (G.2.1 (F a 35)) ((G.1 a 36).toInt)) r1.2 r2)))
    (nt0 : 0 ≤ ((G.1 a 36).toInt) ∧ ((G.1 a 36).toInt) ≤ 80)
    (f12 : 3 ≤ (((n0) : Nat) : Int) ∧ (((n0) : Nat) : Int) ≤ 7)
    (z0 : 0 ≤ ((G.1 a 37).toInt) ∧ ((G.1 a 37).toInt) ≤ ((G.1 a 36).toInt))
    (t1 : -128 ≤ x1.toInt ∧ x1.toInt ≤ 127 ∧ ((0 ≤ x1.toInt ∧ (tM (G.2.1 (F a 35)) ((G.1 a 36).toInt) ((G1.1 a 37).toInt)) = x1.toInt) ∨ (x1.toInt < 0 ∧ (tM (G.2.1 (F a 35)) ((G.1 a 36).toInt) ((G1.1 a 37).toInt)) = x1.toInt + 256)) ∧ ((G.1 a 37).toInt) ≤ ((G1.1 a 37).toInt) ∧ ((G1.1 a 37).toInt) ≤ ((G.1 a 36).toInt))
    (I10_0 : ((G1.1 a 37).toInt) ≤ l2_10.toInt ∧ l2_10.toInt ≤ ((G.1 a 36).toInt))
    (hm10 : 2147483648 - l2_10.toInt < (((N10) + 1 : Nat) : Int))
    (z10 : ((0 ≤ l2_10.toInt ∧ l2_10.toInt < ((G.1 a 36).toInt)) ∧ True) ∨ (¬ (0 ≤ l2_10.toInt ∧ l2_10.toInt < ((G.1 a 36).toInt)) ∧ (tM (G.2.1 (F a 35)) ((G.1 a 36).toInt) (l2_10.toInt)) = 0))
    (t12 : -128 ≤ x12.toInt ∧ x12.toInt ≤ 127 ∧ ((0 ≤ x12.toInt ∧ (tM (G.2.1 (F a 35)) ((G.1 a 36).toInt) (l2_10.toInt)) = x12.toInt) ∨ (x12.toInt < 0 ∧ (tM (G.2.1 (F a 35)) ((G.1 a 36).toInt) (l2_10.toInt)) = x12.toInt + 256)))
    (t15 : (x15.toInt = 1 ∧ 97 ≤ x12.toInt ∧ x12.toInt ≤ 122) ∨ (x15.toInt = 0 ∧ (x12.toInt < 97 ∨ 122 < x12.toInt)))
    (c18 : x15.toInt = 0)
    (f21 : ((G.1 a 39).toInt) = 0 ∨ ((G.1 a 39).toInt) = 1)
    (c31 : ¬ (((G.1 a 39).toInt) = 0))
    (t41 : x41.toInt = (((n0) : Nat) : Int))
    (c42 : (l2_10.toInt - ((G1.1 a 37).toInt)) ≠ x41.toInt)
    (I54_0 : 0 ≤ l4_54.toInt ∧ l4_54.toInt ≤ (((n0) : Nat) : Int))
    (I54_1 : l3_54.toInt = 0 ∨ l3_54.toInt = 1)
    (I54_2 : (0 : Int) ≤ l4_54.toInt)
    (hm54 : 2147483648 - l4_54.toInt < (((N54) + 1 : Nat) : Int))
    (c55 : ¬ (l3_54.toInt = 0))
    (t61 : x61.toInt = (((n0) : Nat) : Int))
    (c62 : x61.toInt ≤ l4_54.toInt)
    (c97 : l3_54.toInt = 0) :
    l3_54.toInt = (tkW (tM (G.2.1 (F a 35)) ((G.1 a 36).toInt)) r2 r1).1 := by
  have he : l2_10.toInt = rn cLt (tM (G.2.1 (F a 35)) ((G.1 a 36).toInt)) ((G1.1 a 37).toInt) := by
    symm
    refine rn_eq ⟨by omega, pl, cLt_n ?_⟩
    omega
  first
    | (have nw := pw.2 (by omega)
       rw [tkW_f nw]
       show l3_54.toInt = 0
       omega)
    | (obtain ⟨w1, w2, w3⟩ := pw.1 (by omega)
       have wk := rdm_w1 hrm oq1 he w1 (by rw [hwd.1]; exact w2) (fun i hi => w3 i (by rw [hwd.1] at hi; omega))
       rw [tkW_t wk.1 wk.2]
       show l3_54.toInt = 1
       omega)
theorem v_X11_isWord_112_17 {K : Nat → Nat} {F : Nat → Nat → Nat} (a : Nat) (G : XG) (G1 : XG) (G108 : XG) (r1 : RSt) (r2 : List Int) (n0 : Nat) (p0 : Nat) (l2_10 : Int32) (l3_54 : Int32) (l4_54 : Int32) (x1 : Int32) (N10 : Nat) (x12 : Int32) (x15 : Int32) (x41 : Int32) (N54 : Nat) (x61 : Int32)
    (ha : K a = 13)
    (hrm : RdM (tM (G.2.1 (F a 35)) ((G.1 a 36).toInt)) ((G.1 a 36).toInt) r1 ((G.1 a 39).toInt) ((G.1 a 37).toInt) ((G.1 a 38).toInt))
    (hwd : r2.length = n0 ∧ ∀ i : Nat, i < n0 → aI (G.2.1 p0) (i : Int) = r2.getD i 0 ∧ 0 ≤ r2.getD i 0 ∧ r2.getD i 0 ≤ 127)
    (oq1 : ((G1.1 a 37).toInt) = rn cBl (tM (G.2.1 (F a 35)) ((G.1 a 36).toInt)) ((G.1 a 37).toInt))
    (pl : ∀ j : Int, (G1.1 a 37).toInt ≤ j → j < l2_10.toInt → cLt ((tM (G.2.1 (F a 35)) ((G.1 a 36).toInt)) j))
    (pw : (l3_54.toInt = 1 → ((G.1 a 39).toInt ≠ 0 ∧ l2_10.toInt - (G1.1 a 37).toInt = (n0 : Int) ∧ ∀ i : Nat, (i : Int) < l4_54.toInt → (tM (G.2.1 (F a 35)) ((G.1 a 36).toInt)) ((G1.1 a 37).toInt + (i : Int)) = r2.getD i 0)) ∧ (l3_54.toInt = 0 → ¬ (r1.1 = 1 ∧ wOk (tM (G.2.1 (F a 35)) ((G.1 a 36).toInt)) r1.2 r2)))
    (nt0 : 0 ≤ ((G.1 a 36).toInt) ∧ ((G.1 a 36).toInt) ≤ 80)
    (f12 : 3 ≤ (((n0) : Nat) : Int) ∧ (((n0) : Nat) : Int) ≤ 7)
    (z0 : 0 ≤ ((G.1 a 37).toInt) ∧ ((G.1 a 37).toInt) ≤ ((G.1 a 36).toInt))
    (t1 : -128 ≤ x1.toInt ∧ x1.toInt ≤ 127 ∧ ((0 ≤ x1.toInt ∧ (tM (G.2.1 (F a 35)) ((G.1 a 36).toInt) ((G1.1 a 37).toInt)) = x1.toInt) ∨ (x1.toInt < 0 ∧ (tM (G.2.1 (F a 35)) ((G.1 a 36).toInt) ((G1.1 a 37).toInt)) = x1.toInt + 256)) ∧ ((G.1 a 37).toInt) ≤ ((G1.1 a 37).toInt) ∧ ((G1.1 a 37).toInt) ≤ ((G.1 a 36).toInt))
    (I10_0 : ((G1.1 a 37).toInt) ≤ l2_10.toInt ∧ l2_10.toInt ≤ ((G.1 a 36).toInt))
    (hm10 : 2147483648 - l2_10.toInt < (((N10) + 1 : Nat) : Int))
    (z10 : ((0 ≤ l2_10.toInt ∧ l2_10.toInt < ((G.1 a 36).toInt)) ∧ True) ∨ (¬ (0 ≤ l2_10.toInt ∧ l2_10.toInt < ((G.1 a 36).toInt)) ∧ (tM (G.2.1 (F a 35)) ((G.1 a 36).toInt) (l2_10.toInt)) = 0))
    (t12 : -128 ≤ x12.toInt ∧ x12.toInt ≤ 127 ∧ ((0 ≤ x12.toInt ∧ (tM (G.2.1 (F a 35)) ((G.1 a 36).toInt) (l2_10.toInt)) = x12.toInt) ∨ (x12.toInt < 0 ∧ (tM (G.2.1 (F a 35)) ((G.1 a 36).toInt) (l2_10.toInt)) = x12.toInt + 256)))
    (t15 : (x15.toInt = 1 ∧ 97 ≤ x12.toInt ∧ x12.toInt ≤ 122) ∨ (x15.toInt = 0 ∧ (x12.toInt < 97 ∨ 122 < x12.toInt)))
    (c18 : x15.toInt = 0)
    (f21 : ((G.1 a 39).toInt) = 0 ∨ ((G.1 a 39).toInt) = 1)
    (c31 : ¬ (((G.1 a 39).toInt) = 0))
    (t41 : x41.toInt = (((n0) : Nat) : Int))
    (c42 : (l2_10.toInt - ((G1.1 a 37).toInt)) ≠ x41.toInt)
    (I54_0 : 0 ≤ l4_54.toInt ∧ l4_54.toInt ≤ (((n0) : Nat) : Int))
    (I54_1 : l3_54.toInt = 0 ∨ l3_54.toInt = 1)
    (I54_2 : (0 : Int) ≤ l4_54.toInt)
    (hm54 : 2147483648 - l4_54.toInt < (((N54) + 1 : Nat) : Int))
    (c55 : ¬ (l3_54.toInt = 0))
    (t61 : x61.toInt = (((n0) : Nat) : Int))
    (c62 : x61.toInt ≤ l4_54.toInt)
    (c97 : l3_54.toInt = 0)
    (d_G108_a_37 : G108.1 a 37 = (G1.1 a 37))
    (d_G108_a_38 : G108.1 a 38 = G.1 a 38)
    (d_G108_a_39 : G108.1 a 39 = G.1 a 39) :
    RdM (tM (G.2.1 (F a 35)) ((G.1 a 36).toInt)) ((G.1 a 36).toInt) (tkW (tM (G.2.1 (F a 35)) ((G.1 a 36).toInt)) r2 r1).2 ((G108.1 a 39).toInt) ((G108.1 a 37).toInt) ((G108.1 a 38).toInt) := by
  have he : l2_10.toInt = rn cLt (tM (G.2.1 (F a 35)) ((G.1 a 36).toInt)) ((G1.1 a 37).toInt) := by
    symm
    refine rn_eq ⟨by omega, pl, cLt_n ?_⟩
    omega
  first
    | (have nw := pw.2 (by omega)
       rw [tkW_f nw, d_G108_a_37, d_G108_a_38, d_G108_a_39]
       exact hrm.sk (tM_e _ _) oq1)
    | (obtain ⟨w1, w2, w3⟩ := pw.1 (by omega)
       have wk := rdm_w1 hrm oq1 he w1 (by rw [hwd.1]; exact w2) (fun i hi => w3 i (by rw [hwd.1] at hi; omega))
       rw [tkW_t wk.1 wk.2, d_G108_a_37, d_G108_a_38, d_G108_a_39]
       refine rdm_st (tM_e _ _) ?_ w1 (by omega)
       rw [show r1.2 + (r2.length : Int) = l2_10.toInt from ?_]
       have s2 := hrm.2.2.1 wk.1
       rw [← oq1] at s2
       have := hwd.1
       omega)
theorem v_X11_isWord_112_18 {K : Nat → Nat} {F : Nat → Nat → Nat} (a : Nat) (G : XG) (G1 : XG) (l2_10 : Int32) (r1 : RSt) (r2 : List Int) (n0 : Nat) (p0 : Nat) (l3_54 : Int32) (l4_54 : Int32) (x1 : Int32) (N10 : Nat) (x12 : Int32) (x15 : Int32) (x41 : Int32) (N54 : Nat) (x61 : Int32)
    (ha : K a = 13)
    (hrm : RdM (tM (G.2.1 (F a 35)) ((G.1 a 36).toInt)) ((G.1 a 36).toInt) r1 ((G.1 a 39).toInt) ((G.1 a 37).toInt) ((G.1 a 38).toInt))
    (hwd : r2.length = n0 ∧ ∀ i : Nat, i < n0 → aI (G.2.1 p0) (i : Int) = r2.getD i 0 ∧ 0 ≤ r2.getD i 0 ∧ r2.getD i 0 ≤ 127)
    (oq1 : ((G1.1 a 37).toInt) = rn cBl (tM (G.2.1 (F a 35)) ((G.1 a 36).toInt)) ((G.1 a 37).toInt))
    (pl : ∀ j : Int, (G1.1 a 37).toInt ≤ j → j < l2_10.toInt → cLt ((tM (G.2.1 (F a 35)) ((G.1 a 36).toInt)) j))
    (pw : (l3_54.toInt = 1 → ((G.1 a 39).toInt ≠ 0 ∧ l2_10.toInt - (G1.1 a 37).toInt = (n0 : Int) ∧ ∀ i : Nat, (i : Int) < l4_54.toInt → (tM (G.2.1 (F a 35)) ((G.1 a 36).toInt)) ((G1.1 a 37).toInt + (i : Int)) = r2.getD i 0)) ∧ (l3_54.toInt = 0 → ¬ (r1.1 = 1 ∧ wOk (tM (G.2.1 (F a 35)) ((G.1 a 36).toInt)) r1.2 r2)))
    (nt0 : 0 ≤ ((G.1 a 36).toInt) ∧ ((G.1 a 36).toInt) ≤ 80)
    (f12 : 3 ≤ (((n0) : Nat) : Int) ∧ (((n0) : Nat) : Int) ≤ 7)
    (z0 : 0 ≤ ((G.1 a 37).toInt) ∧ ((G.1 a 37).toInt) ≤ ((G.1 a 36).toInt))
    (t1 : -128 ≤ x1.toInt ∧ x1.toInt ≤ 127 ∧ ((0 ≤ x1.toInt ∧ (tM (G.2.1 (F a 35)) ((G.1 a 36).toInt) ((G1.1 a 37).toInt)) = x1.toInt) ∨ (x1.toInt < 0 ∧ (tM (G.2.1 (F a 35)) ((G.1 a 36).toInt) ((G1.1 a 37).toInt)) = x1.toInt + 256)) ∧ ((G.1 a 37).toInt) ≤ ((G1.1 a 37).toInt) ∧ ((G1.1 a 37).toInt) ≤ ((G.1 a 36).toInt))
    (I10_0 : ((G1.1 a 37).toInt) ≤ l2_10.toInt ∧ l2_10.toInt ≤ ((G.1 a 36).toInt))
    (hm10 : 2147483648 - l2_10.toInt < (((N10) + 1 : Nat) : Int))
    (z10 : ((0 ≤ l2_10.toInt ∧ l2_10.toInt < ((G.1 a 36).toInt)) ∧ True) ∨ (¬ (0 ≤ l2_10.toInt ∧ l2_10.toInt < ((G.1 a 36).toInt)) ∧ (tM (G.2.1 (F a 35)) ((G.1 a 36).toInt) (l2_10.toInt)) = 0))
    (t12 : -128 ≤ x12.toInt ∧ x12.toInt ≤ 127 ∧ ((0 ≤ x12.toInt ∧ (tM (G.2.1 (F a 35)) ((G.1 a 36).toInt) (l2_10.toInt)) = x12.toInt) ∨ (x12.toInt < 0 ∧ (tM (G.2.1 (F a 35)) ((G.1 a 36).toInt) (l2_10.toInt)) = x12.toInt + 256)))
    (t15 : (x15.toInt = 1 ∧ 97 ≤ x12.toInt ∧ x12.toInt ≤ 122) ∨ (x15.toInt = 0 ∧ (x12.toInt < 97 ∨ 122 < x12.toInt)))
    (c18 : x15.toInt = 0)
    (f21 : ((G.1 a 39).toInt) = 0 ∨ ((G.1 a 39).toInt) = 1)
    (c31 : ¬ (((G.1 a 39).toInt) = 0))
    (t41 : x41.toInt = (((n0) : Nat) : Int))
    (c42 : (l2_10.toInt - ((G1.1 a 37).toInt)) ≠ x41.toInt)
    (I54_0 : 0 ≤ l4_54.toInt ∧ l4_54.toInt ≤ (((n0) : Nat) : Int))
    (I54_1 : l3_54.toInt = 0 ∨ l3_54.toInt = 1)
    (I54_2 : (0 : Int) ≤ l4_54.toInt)
    (hm54 : 2147483648 - l4_54.toInt < (((N54) + 1 : Nat) : Int))
    (c55 : ¬ (l3_54.toInt = 0))
    (t61 : x61.toInt = (((n0) : Nat) : Int))
    (c62 : x61.toInt ≤ l4_54.toInt) :
    l3_54.toInt = (tkW (tM (G.2.1 (F a 35)) ((G.1 a 36).toInt)) r2 r1).1 := by
  have he : l2_10.toInt = rn cLt (tM (G.2.1 (F a 35)) ((G.1 a 36).toInt)) ((G1.1 a 37).toInt) := by
    symm
    refine rn_eq ⟨by omega, pl, cLt_n ?_⟩
    omega
  first
    | (have nw := pw.2 (by omega)
       rw [tkW_f nw]
       show l3_54.toInt = 0
       omega)
    | (obtain ⟨w1, w2, w3⟩ := pw.1 (by omega)
       have wk := rdm_w1 hrm oq1 he w1 (by rw [hwd.1]; exact w2) (fun i hi => w3 i (by rw [hwd.1] at hi; omega))
       rw [tkW_t wk.1 wk.2]
       show l3_54.toInt = 1
       omega)
theorem v_X11_isWord_112_19 {K : Nat → Nat} {F : Nat → Nat → Nat} (a : Nat) (G : XG) (G1 : XG) (G108 : XG) (l2_10 : Int32) (r1 : RSt) (r2 : List Int) (n0 : Nat) (p0 : Nat) (l3_54 : Int32) (l4_54 : Int32) (x1 : Int32) (N10 : Nat) (x12 : Int32) (x15 : Int32) (x41 : Int32) (N54 : Nat) (x61 : Int32)
    (ha : K a = 13)
    (hrm : RdM (tM (G.2.1 (F a 35)) ((G.1 a 36).toInt)) ((G.1 a 36).toInt) r1 ((G.1 a 39).toInt) ((G.1 a 37).toInt) ((G.1 a 38).toInt))
    (hwd : r2.length = n0 ∧ ∀ i : Nat, i < n0 → aI (G.2.1 p0) (i : Int) = r2.getD i 0 ∧ 0 ≤ r2.getD i 0 ∧ r2.getD i 0 ≤ 127)
    (oq1 : ((G1.1 a 37).toInt) = rn cBl (tM (G.2.1 (F a 35)) ((G.1 a 36).toInt)) ((G.1 a 37).toInt))
    (pl : ∀ j : Int, (G1.1 a 37).toInt ≤ j → j < l2_10.toInt → cLt ((tM (G.2.1 (F a 35)) ((G.1 a 36).toInt)) j))
    (pw : (l3_54.toInt = 1 → ((G.1 a 39).toInt ≠ 0 ∧ l2_10.toInt - (G1.1 a 37).toInt = (n0 : Int) ∧ ∀ i : Nat, (i : Int) < l4_54.toInt → (tM (G.2.1 (F a 35)) ((G.1 a 36).toInt)) ((G1.1 a 37).toInt + (i : Int)) = r2.getD i 0)) ∧ (l3_54.toInt = 0 → ¬ (r1.1 = 1 ∧ wOk (tM (G.2.1 (F a 35)) ((G.1 a 36).toInt)) r1.2 r2)))
    (nt0 : 0 ≤ ((G.1 a 36).toInt) ∧ ((G.1 a 36).toInt) ≤ 80)
    (f12 : 3 ≤ (((n0) : Nat) : Int) ∧ (((n0) : Nat) : Int) ≤ 7)
    (z0 : 0 ≤ ((G.1 a 37).toInt) ∧ ((G.1 a 37).toInt) ≤ ((G.1 a 36).toInt))
    (t1 : -128 ≤ x1.toInt ∧ x1.toInt ≤ 127 ∧ ((0 ≤ x1.toInt ∧ (tM (G.2.1 (F a 35)) ((G.1 a 36).toInt) ((G1.1 a 37).toInt)) = x1.toInt) ∨ (x1.toInt < 0 ∧ (tM (G.2.1 (F a 35)) ((G.1 a 36).toInt) ((G1.1 a 37).toInt)) = x1.toInt + 256)) ∧ ((G.1 a 37).toInt) ≤ ((G1.1 a 37).toInt) ∧ ((G1.1 a 37).toInt) ≤ ((G.1 a 36).toInt))
    (I10_0 : ((G1.1 a 37).toInt) ≤ l2_10.toInt ∧ l2_10.toInt ≤ ((G.1 a 36).toInt))
    (hm10 : 2147483648 - l2_10.toInt < (((N10) + 1 : Nat) : Int))
    (z10 : ((0 ≤ l2_10.toInt ∧ l2_10.toInt < ((G.1 a 36).toInt)) ∧ True) ∨ (¬ (0 ≤ l2_10.toInt ∧ l2_10.toInt < ((G.1 a 36).toInt)) ∧ (tM (G.2.1 (F a 35)) ((G.1 a 36).toInt) (l2_10.toInt)) = 0))
    (t12 : -128 ≤ x12.toInt ∧ x12.toInt ≤ 127 ∧ ((0 ≤ x12.toInt ∧ (tM (G.2.1 (F a 35)) ((G.1 a 36).toInt) (l2_10.toInt)) = x12.toInt) ∨ (x12.toInt < 0 ∧ (tM (G.2.1 (F a 35)) ((G.1 a 36).toInt) (l2_10.toInt)) = x12.toInt + 256)))
    (t15 : (x15.toInt = 1 ∧ 97 ≤ x12.toInt ∧ x12.toInt ≤ 122) ∨ (x15.toInt = 0 ∧ (x12.toInt < 97 ∨ 122 < x12.toInt)))
    (c18 : x15.toInt = 0)
    (f21 : ((G.1 a 39).toInt) = 0 ∨ ((G.1 a 39).toInt) = 1)
    (c31 : ¬ (((G.1 a 39).toInt) = 0))
    (t41 : x41.toInt = (((n0) : Nat) : Int))
    (c42 : (l2_10.toInt - ((G1.1 a 37).toInt)) ≠ x41.toInt)
    (I54_0 : 0 ≤ l4_54.toInt ∧ l4_54.toInt ≤ (((n0) : Nat) : Int))
    (I54_1 : l3_54.toInt = 0 ∨ l3_54.toInt = 1)
    (I54_2 : (0 : Int) ≤ l4_54.toInt)
    (hm54 : 2147483648 - l4_54.toInt < (((N54) + 1 : Nat) : Int))
    (c55 : ¬ (l3_54.toInt = 0))
    (t61 : x61.toInt = (((n0) : Nat) : Int))
    (c62 : x61.toInt ≤ l4_54.toInt)
    (d_G108_a_37 : G108.1 a 37 = l2_10)
    (d_G108_a_38 : G108.1 a 38 = G.1 a 38)
    (d_G108_a_39 : G108.1 a 39 = G.1 a 39) :
    RdM (tM (G.2.1 (F a 35)) ((G.1 a 36).toInt)) ((G.1 a 36).toInt) (tkW (tM (G.2.1 (F a 35)) ((G.1 a 36).toInt)) r2 r1).2 ((G108.1 a 39).toInt) ((G108.1 a 37).toInt) ((G108.1 a 38).toInt) := by
  have he : l2_10.toInt = rn cLt (tM (G.2.1 (F a 35)) ((G.1 a 36).toInt)) ((G1.1 a 37).toInt) := by
    symm
    refine rn_eq ⟨by omega, pl, cLt_n ?_⟩
    omega
  first
    | (have nw := pw.2 (by omega)
       rw [tkW_f nw, d_G108_a_37, d_G108_a_38, d_G108_a_39]
       exact hrm.sk (tM_e _ _) oq1)
    | (obtain ⟨w1, w2, w3⟩ := pw.1 (by omega)
       have wk := rdm_w1 hrm oq1 he w1 (by rw [hwd.1]; exact w2) (fun i hi => w3 i (by rw [hwd.1] at hi; omega))
       rw [tkW_t wk.1 wk.2, d_G108_a_37, d_G108_a_38, d_G108_a_39]
       refine rdm_st (tM_e _ _) ?_ w1 (by omega)
       rw [show r1.2 + (r2.length : Int) = l2_10.toInt from ?_]
       have s2 := hrm.2.2.1 wk.1
       rw [← oq1] at s2
       have := hwd.1
       omega)
theorem v_X11_isWord_92_20 {K : Nat → Nat} {F : Nat → Nat → Nat} (a : Nat) (G : XG) (G1 : XG) (r1 : RSt) (r2 : List Int) (n0 : Nat) (p0 : Nat) (l2_10 : Int32) (l3_54 : Int32) (l4_54 : Int32) (x1 : Int32) (N10 : Nat) (x12 : Int32) (x15 : Int32) (x41 : Int32) (N54 : Nat) (x61 : Int32) (x73 : Int32) (x79 : Int32)
    (ha : K a = 13)
    (hrm : RdM (tM (G.2.1 (F a 35)) ((G.1 a 36).toInt)) ((G.1 a 36).toInt) r1 ((G.1 a 39).toInt) ((G.1 a 37).toInt) ((G.1 a 38).toInt))
    (hwd : r2.length = n0 ∧ ∀ i : Nat, i < n0 → aI (G.2.1 p0) (i : Int) = r2.getD i 0 ∧ 0 ≤ r2.getD i 0 ∧ r2.getD i 0 ≤ 127)
    (oq1 : ((G1.1 a 37).toInt) = rn cBl (tM (G.2.1 (F a 35)) ((G.1 a 36).toInt)) ((G.1 a 37).toInt))
    (pl : ∀ j : Int, (G1.1 a 37).toInt ≤ j → j < l2_10.toInt → cLt ((tM (G.2.1 (F a 35)) ((G.1 a 36).toInt)) j))
    (pw : (l3_54.toInt = 1 → ((G.1 a 39).toInt ≠ 0 ∧ l2_10.toInt - (G1.1 a 37).toInt = (n0 : Int) ∧ ∀ i : Nat, (i : Int) < l4_54.toInt → (tM (G.2.1 (F a 35)) ((G.1 a 36).toInt)) ((G1.1 a 37).toInt + (i : Int)) = r2.getD i 0)) ∧ (l3_54.toInt = 0 → ¬ (r1.1 = 1 ∧ wOk (tM (G.2.1 (F a 35)) ((G.1 a 36).toInt)) r1.2 r2)))
    (nt0 : 0 ≤ ((G.1 a 36).toInt) ∧ ((G.1 a 36).toInt) ≤ 80)
    (f13 : 3 ≤ (((n0) : Nat) : Int) ∧ (((n0) : Nat) : Int) ≤ 7)
    (z0 : 0 ≤ ((G.1 a 37).toInt) ∧ ((G.1 a 37).toInt) ≤ ((G.1 a 36).toInt))
    (t1 : -128 ≤ x1.toInt ∧ x1.toInt ≤ 127 ∧ ((0 ≤ x1.toInt ∧ (tM (G.2.1 (F a 35)) ((G.1 a 36).toInt) ((G1.1 a 37).toInt)) = x1.toInt) ∨ (x1.toInt < 0 ∧ (tM (G.2.1 (F a 35)) ((G.1 a 36).toInt) ((G1.1 a 37).toInt)) = x1.toInt + 256)) ∧ ((G.1 a 37).toInt) ≤ ((G1.1 a 37).toInt) ∧ ((G1.1 a 37).toInt) ≤ ((G.1 a 36).toInt))
    (I10_0 : ((G1.1 a 37).toInt) ≤ l2_10.toInt ∧ l2_10.toInt ≤ ((G.1 a 36).toInt))
    (hm10 : 2147483648 - l2_10.toInt < (((N10) + 1 : Nat) : Int))
    (z10 : ((0 ≤ l2_10.toInt ∧ l2_10.toInt < ((G.1 a 36).toInt)) ∧ True) ∨ (¬ (0 ≤ l2_10.toInt ∧ l2_10.toInt < ((G.1 a 36).toInt)) ∧ (tM (G.2.1 (F a 35)) ((G.1 a 36).toInt) (l2_10.toInt)) = 0))
    (t12 : -128 ≤ x12.toInt ∧ x12.toInt ≤ 127 ∧ ((0 ≤ x12.toInt ∧ (tM (G.2.1 (F a 35)) ((G.1 a 36).toInt) (l2_10.toInt)) = x12.toInt) ∨ (x12.toInt < 0 ∧ (tM (G.2.1 (F a 35)) ((G.1 a 36).toInt) (l2_10.toInt)) = x12.toInt + 256)))
    (t15 : (x15.toInt = 1 ∧ 97 ≤ x12.toInt ∧ x12.toInt ≤ 122) ∨ (x15.toInt = 0 ∧ (x12.toInt < 97 ∨ 122 < x12.toInt)))
    (c18 : x15.toInt = 0)
    (f22 : ((G.1 a 39).toInt) = 0 ∨ ((G.1 a 39).toInt) = 1)
    (c31 : ¬ (((G.1 a 39).toInt) = 0))
    (t41 : x41.toInt = (((n0) : Nat) : Int))
    (c42 : (l2_10.toInt - ((G1.1 a 37).toInt)) ≠ x41.toInt)
    (I54_0 : 0 ≤ l4_54.toInt ∧ l4_54.toInt ≤ (((n0) : Nat) : Int))
    (I54_1 : l3_54.toInt = 0 ∨ l3_54.toInt = 1)
    (I54_2 : (0 : Int) ≤ l4_54.toInt)
    (hm54 : 2147483648 - l4_54.toInt < (((N54) + 1 : Nat) : Int))
    (c55 : ¬ (l3_54.toInt = 0))
    (t61 : x61.toInt = (((n0) : Nat) : Int))
    (c62 : ¬ (x61.toInt ≤ l4_54.toInt))
    (t73 : -128 ≤ x73.toInt ∧ x73.toInt ≤ 127 ∧ ((0 ≤ x73.toInt ∧ (tM (G.2.1 (F a 35)) ((G.1 a 36).toInt) (((G1.1 a 37).toInt) + l4_54.toInt)) = x73.toInt) ∨ (x73.toInt < 0 ∧ (tM (G.2.1 (F a 35)) ((G.1 a 36).toInt) (((G1.1 a 37).toInt) + l4_54.toInt)) = x73.toInt + 256)))
    (hv79 : x79.toInt = (aI (G.2.1 p0) (l4_54.toInt)))
    (c80 : x73.toInt ≠ x79.toInt) :
    ((0 : Int) = 1 → ((G.1 a 39).toInt ≠ 0 ∧ l2_10.toInt - (G1.1 a 37).toInt = (n0 : Int) ∧ ∀ i : Nat, (i : Int) < (l4_54.toInt + 1) → (tM (G.2.1 (F a 35)) ((G.1 a 36).toInt)) ((G1.1 a 37).toInt + (i : Int)) = r2.getD i 0)) ∧ ((0 : Int) = 0 → ¬ (r1.1 = 1 ∧ wOk (tM (G.2.1 (F a 35)) ((G.1 a 36).toInt)) r1.2 r2)) := by
  have he : l2_10.toInt = rn cLt (tM (G.2.1 (F a 35)) ((G.1 a 36).toInt)) ((G1.1 a 37).toInt) := by
    symm
    refine rn_eq ⟨by omega, pl, cLt_n ?_⟩
    omega
  have hi := hwd.2 (l4_54.toInt).toNat (by omega)
  rw [show (((l4_54.toInt).toNat : Nat) : Int) = l4_54.toInt from by omega] at hi
  obtain ⟨w1, w2, w3⟩ := pw.1 (by omega)
  refine ⟨fun h => ?_, fun h => ?_⟩
  · first
      | (exfalso; omega)
      | (refine ⟨w1, w2, fun i hj => ?_⟩
         by_cases e : (i : Int) = l4_54.toInt
         · rw [e, show i = (l4_54.toInt).toNat from by omega]
           omega
         · exact w3 i (by omega))
  · first
      | (exfalso; omega)
      | exact rdm_w0 hrm oq1 he (Or.inr (Or.inr ⟨(l4_54.toInt).toNat, by rw [hwd.1]; omega, by rw [show (((l4_54.toInt).toNat : Nat) : Int) = l4_54.toInt from by omega]; omega⟩))
theorem v_X11_isWord_92_21 {K : Nat → Nat} {F : Nat → Nat → Nat} (a : Nat) (G : XG) (G1 : XG) (r1 : RSt) (r2 : List Int) (n0 : Nat) (p0 : Nat) (l2_10 : Int32) (l3_54 : Int32) (l4_54 : Int32) (x1 : Int32) (N10 : Nat) (x12 : Int32) (x15 : Int32) (x41 : Int32) (N54 : Nat) (x61 : Int32) (x73 : Int32) (x79 : Int32)
    (ha : K a = 13)
    (hrm : RdM (tM (G.2.1 (F a 35)) ((G.1 a 36).toInt)) ((G.1 a 36).toInt) r1 ((G.1 a 39).toInt) ((G.1 a 37).toInt) ((G.1 a 38).toInt))
    (hwd : r2.length = n0 ∧ ∀ i : Nat, i < n0 → aI (G.2.1 p0) (i : Int) = r2.getD i 0 ∧ 0 ≤ r2.getD i 0 ∧ r2.getD i 0 ≤ 127)
    (oq1 : ((G1.1 a 37).toInt) = rn cBl (tM (G.2.1 (F a 35)) ((G.1 a 36).toInt)) ((G.1 a 37).toInt))
    (pl : ∀ j : Int, (G1.1 a 37).toInt ≤ j → j < l2_10.toInt → cLt ((tM (G.2.1 (F a 35)) ((G.1 a 36).toInt)) j))
    (pw : (l3_54.toInt = 1 → ((G.1 a 39).toInt ≠ 0 ∧ l2_10.toInt - (G1.1 a 37).toInt = (n0 : Int) ∧ ∀ i : Nat, (i : Int) < l4_54.toInt → (tM (G.2.1 (F a 35)) ((G.1 a 36).toInt)) ((G1.1 a 37).toInt + (i : Int)) = r2.getD i 0)) ∧ (l3_54.toInt = 0 → ¬ (r1.1 = 1 ∧ wOk (tM (G.2.1 (F a 35)) ((G.1 a 36).toInt)) r1.2 r2)))
    (nt0 : 0 ≤ ((G.1 a 36).toInt) ∧ ((G.1 a 36).toInt) ≤ 80)
    (f13 : 3 ≤ (((n0) : Nat) : Int) ∧ (((n0) : Nat) : Int) ≤ 7)
    (z0 : 0 ≤ ((G.1 a 37).toInt) ∧ ((G.1 a 37).toInt) ≤ ((G.1 a 36).toInt))
    (t1 : -128 ≤ x1.toInt ∧ x1.toInt ≤ 127 ∧ ((0 ≤ x1.toInt ∧ (tM (G.2.1 (F a 35)) ((G.1 a 36).toInt) ((G1.1 a 37).toInt)) = x1.toInt) ∨ (x1.toInt < 0 ∧ (tM (G.2.1 (F a 35)) ((G.1 a 36).toInt) ((G1.1 a 37).toInt)) = x1.toInt + 256)) ∧ ((G.1 a 37).toInt) ≤ ((G1.1 a 37).toInt) ∧ ((G1.1 a 37).toInt) ≤ ((G.1 a 36).toInt))
    (I10_0 : ((G1.1 a 37).toInt) ≤ l2_10.toInt ∧ l2_10.toInt ≤ ((G.1 a 36).toInt))
    (hm10 : 2147483648 - l2_10.toInt < (((N10) + 1 : Nat) : Int))
    (z10 : ((0 ≤ l2_10.toInt ∧ l2_10.toInt < ((G.1 a 36).toInt)) ∧ True) ∨ (¬ (0 ≤ l2_10.toInt ∧ l2_10.toInt < ((G.1 a 36).toInt)) ∧ (tM (G.2.1 (F a 35)) ((G.1 a 36).toInt) (l2_10.toInt)) = 0))
    (t12 : -128 ≤ x12.toInt ∧ x12.toInt ≤ 127 ∧ ((0 ≤ x12.toInt ∧ (tM (G.2.1 (F a 35)) ((G.1 a 36).toInt) (l2_10.toInt)) = x12.toInt) ∨ (x12.toInt < 0 ∧ (tM (G.2.1 (F a 35)) ((G.1 a 36).toInt) (l2_10.toInt)) = x12.toInt + 256)))
    (t15 : (x15.toInt = 1 ∧ 97 ≤ x12.toInt ∧ x12.toInt ≤ 122) ∨ (x15.toInt = 0 ∧ (x12.toInt < 97 ∨ 122 < x12.toInt)))
    (c18 : x15.toInt = 0)
    (f22 : ((G.1 a 39).toInt) = 0 ∨ ((G.1 a 39).toInt) = 1)
    (c31 : ¬ (((G.1 a 39).toInt) = 0))
    (t41 : x41.toInt = (((n0) : Nat) : Int))
    (c42 : (l2_10.toInt - ((G1.1 a 37).toInt)) ≠ x41.toInt)
    (I54_0 : 0 ≤ l4_54.toInt ∧ l4_54.toInt ≤ (((n0) : Nat) : Int))
    (I54_1 : l3_54.toInt = 0 ∨ l3_54.toInt = 1)
    (I54_2 : (0 : Int) ≤ l4_54.toInt)
    (hm54 : 2147483648 - l4_54.toInt < (((N54) + 1 : Nat) : Int))
    (c55 : ¬ (l3_54.toInt = 0))
    (t61 : x61.toInt = (((n0) : Nat) : Int))
    (c62 : ¬ (x61.toInt ≤ l4_54.toInt))
    (t73 : -128 ≤ x73.toInt ∧ x73.toInt ≤ 127 ∧ ((0 ≤ x73.toInt ∧ (tM (G.2.1 (F a 35)) ((G.1 a 36).toInt) (((G1.1 a 37).toInt) + l4_54.toInt)) = x73.toInt) ∨ (x73.toInt < 0 ∧ (tM (G.2.1 (F a 35)) ((G.1 a 36).toInt) (((G1.1 a 37).toInt) + l4_54.toInt)) = x73.toInt + 256)))
    (hv79 : x79.toInt = (aI (G.2.1 p0) (l4_54.toInt)))
    (c80 : ¬ (x73.toInt ≠ x79.toInt)) :
    ((1 : Int) = 1 → ((G.1 a 39).toInt ≠ 0 ∧ l2_10.toInt - (G1.1 a 37).toInt = (n0 : Int) ∧ ∀ i : Nat, (i : Int) < (l4_54.toInt + 1) → (tM (G.2.1 (F a 35)) ((G.1 a 36).toInt)) ((G1.1 a 37).toInt + (i : Int)) = r2.getD i 0)) ∧ ((1 : Int) = 0 → ¬ (r1.1 = 1 ∧ wOk (tM (G.2.1 (F a 35)) ((G.1 a 36).toInt)) r1.2 r2)) := by
  have he : l2_10.toInt = rn cLt (tM (G.2.1 (F a 35)) ((G.1 a 36).toInt)) ((G1.1 a 37).toInt) := by
    symm
    refine rn_eq ⟨by omega, pl, cLt_n ?_⟩
    omega
  have hi := hwd.2 (l4_54.toInt).toNat (by omega)
  rw [show (((l4_54.toInt).toNat : Nat) : Int) = l4_54.toInt from by omega] at hi
  obtain ⟨w1, w2, w3⟩ := pw.1 (by omega)
  refine ⟨fun h => ?_, fun h => ?_⟩
  · first
      | (exfalso; omega)
      | (refine ⟨w1, w2, fun i hj => ?_⟩
         by_cases e : (i : Int) = l4_54.toInt
         · rw [e, show i = (l4_54.toInt).toNat from by omega]
           omega
         · exact w3 i (by omega))
  · first
      | (exfalso; omega)
      | exact rdm_w0 hrm oq1 he (Or.inr (Or.inr ⟨(l4_54.toInt).toNat, by rw [hwd.1]; omega, by rw [show (((l4_54.toInt).toNat : Nat) : Int) = l4_54.toInt from by omega]; omega⟩))
theorem v_X11_isWord_52_22 {K : Nat → Nat} {F : Nat → Nat → Nat} (a : Nat) (G : XG) (G1 : XG) (r1 : RSt) (r2 : List Int) (n0 : Nat) (p0 : Nat) (l2_10 : Int32) (x1 : Int32) (N10 : Nat) (x12 : Int32) (x15 : Int32) (x41 : Int32)
    (ha : K a = 13)
    (hrm : RdM (tM (G.2.1 (F a 35)) ((G.1 a 36).toInt)) ((G.1 a 36).toInt) r1 ((G.1 a 39).toInt) ((G.1 a 37).toInt) ((G.1 a 38).toInt))
    (hwd : r2.length = n0 ∧ ∀ i : Nat, i < n0 → aI (G.2.1 p0) (i : Int) = r2.getD i 0 ∧ 0 ≤ r2.getD i 0 ∧ r2.getD i 0 ≤ 127)
    (oq1 : ((G1.1 a 37).toInt) = rn cBl (tM (G.2.1 (F a 35)) ((G.1 a 36).toInt)) ((G.1 a 37).toInt))
    (pl : ∀ j : Int, (G1.1 a 37).toInt ≤ j → j < l2_10.toInt → cLt ((tM (G.2.1 (F a 35)) ((G.1 a 36).toInt)) j))
    (nt0 : 0 ≤ ((G.1 a 36).toInt) ∧ ((G.1 a 36).toInt) ≤ 80)
    (f10 : 3 ≤ (((n0) : Nat) : Int) ∧ (((n0) : Nat) : Int) ≤ 7)
    (z0 : 0 ≤ ((G.1 a 37).toInt) ∧ ((G.1 a 37).toInt) ≤ ((G.1 a 36).toInt))
    (t1 : -128 ≤ x1.toInt ∧ x1.toInt ≤ 127 ∧ ((0 ≤ x1.toInt ∧ (tM (G.2.1 (F a 35)) ((G.1 a 36).toInt) ((G1.1 a 37).toInt)) = x1.toInt) ∨ (x1.toInt < 0 ∧ (tM (G.2.1 (F a 35)) ((G.1 a 36).toInt) ((G1.1 a 37).toInt)) = x1.toInt + 256)) ∧ ((G.1 a 37).toInt) ≤ ((G1.1 a 37).toInt) ∧ ((G1.1 a 37).toInt) ≤ ((G.1 a 36).toInt))
    (I10_0 : ((G1.1 a 37).toInt) ≤ l2_10.toInt ∧ l2_10.toInt ≤ ((G.1 a 36).toInt))
    (hm10 : 2147483648 - l2_10.toInt < (((N10) + 1 : Nat) : Int))
    (z10 : ((0 ≤ l2_10.toInt ∧ l2_10.toInt < ((G.1 a 36).toInt)) ∧ True) ∨ (¬ (0 ≤ l2_10.toInt ∧ l2_10.toInt < ((G.1 a 36).toInt)) ∧ (tM (G.2.1 (F a 35)) ((G.1 a 36).toInt) (l2_10.toInt)) = 0))
    (t12 : -128 ≤ x12.toInt ∧ x12.toInt ≤ 127 ∧ ((0 ≤ x12.toInt ∧ (tM (G.2.1 (F a 35)) ((G.1 a 36).toInt) (l2_10.toInt)) = x12.toInt) ∨ (x12.toInt < 0 ∧ (tM (G.2.1 (F a 35)) ((G.1 a 36).toInt) (l2_10.toInt)) = x12.toInt + 256)))
    (t15 : (x15.toInt = 1 ∧ 97 ≤ x12.toInt ∧ x12.toInt ≤ 122) ∨ (x15.toInt = 0 ∧ (x12.toInt < 97 ∨ 122 < x12.toInt)))
    (c18 : x15.toInt = 0)
    (f19 : ((G.1 a 39).toInt) = 0 ∨ ((G.1 a 39).toInt) = 1)
    (c31 : ¬ (((G.1 a 39).toInt) = 0))
    (t41 : x41.toInt = (((n0) : Nat) : Int))
    (c42 : (l2_10.toInt - ((G1.1 a 37).toInt)) ≠ x41.toInt) :
    ((0 : Int) = 1 → ((G.1 a 39).toInt ≠ 0 ∧ l2_10.toInt - (G1.1 a 37).toInt = (n0 : Int) ∧ ∀ i : Nat, (i : Int) < (0 : Int) → (tM (G.2.1 (F a 35)) ((G.1 a 36).toInt)) ((G1.1 a 37).toInt + (i : Int)) = r2.getD i 0)) ∧ ((0 : Int) = 0 → ¬ (r1.1 = 1 ∧ wOk (tM (G.2.1 (F a 35)) ((G.1 a 36).toInt)) r1.2 r2)) := by
  have he : l2_10.toInt = rn cLt (tM (G.2.1 (F a 35)) ((G.1 a 36).toInt)) ((G1.1 a 37).toInt) := by
    symm
    refine rn_eq ⟨by omega, pl, cLt_n ?_⟩
    omega
  refine ⟨fun h => ?_, fun h => ?_⟩
  · first
      | (exfalso; omega)
      | exact ⟨by omega, by omega, fun i hi => by omega⟩
  · first
      | (exfalso; omega)
      | exact rdm_w0 hrm oq1 he (Or.inl (by omega))
      | exact rdm_w0 hrm oq1 he (Or.inr (Or.inl (by rw [hwd.1]; omega)))
theorem v_X11_isWord_112_23 {K : Nat → Nat} {F : Nat → Nat → Nat} (a : Nat) (G : XG) (G1 : XG) (r1 : RSt) (r2 : List Int) (n0 : Nat) (p0 : Nat) (l2_10 : Int32) (l3_54 : Int32) (l4_54 : Int32) (x1 : Int32) (N10 : Nat) (x12 : Int32) (x15 : Int32) (x41 : Int32) (N54 : Nat)
    (ha : K a = 13)
    (hrm : RdM (tM (G.2.1 (F a 35)) ((G.1 a 36).toInt)) ((G.1 a 36).toInt) r1 ((G.1 a 39).toInt) ((G.1 a 37).toInt) ((G.1 a 38).toInt))
    (hwd : r2.length = n0 ∧ ∀ i : Nat, i < n0 → aI (G.2.1 p0) (i : Int) = r2.getD i 0 ∧ 0 ≤ r2.getD i 0 ∧ r2.getD i 0 ≤ 127)
    (oq1 : ((G1.1 a 37).toInt) = rn cBl (tM (G.2.1 (F a 35)) ((G.1 a 36).toInt)) ((G.1 a 37).toInt))
    (pl : ∀ j : Int, (G1.1 a 37).toInt ≤ j → j < l2_10.toInt → cLt ((tM (G.2.1 (F a 35)) ((G.1 a 36).toInt)) j))
    (pw : (l3_54.toInt = 1 → ((G.1 a 39).toInt ≠ 0 ∧ l2_10.toInt - (G1.1 a 37).toInt = (n0 : Int) ∧ ∀ i : Nat, (i : Int) < l4_54.toInt → (tM (G.2.1 (F a 35)) ((G.1 a 36).toInt)) ((G1.1 a 37).toInt + (i : Int)) = r2.getD i 0)) ∧ (l3_54.toInt = 0 → ¬ (r1.1 = 1 ∧ wOk (tM (G.2.1 (F a 35)) ((G.1 a 36).toInt)) r1.2 r2)))
    (nt0 : 0 ≤ ((G.1 a 36).toInt) ∧ ((G.1 a 36).toInt) ≤ 80)
    (f12 : 3 ≤ (((n0) : Nat) : Int) ∧ (((n0) : Nat) : Int) ≤ 7)
    (z0 : 0 ≤ ((G.1 a 37).toInt) ∧ ((G.1 a 37).toInt) ≤ ((G.1 a 36).toInt))
    (t1 : -128 ≤ x1.toInt ∧ x1.toInt ≤ 127 ∧ ((0 ≤ x1.toInt ∧ (tM (G.2.1 (F a 35)) ((G.1 a 36).toInt) ((G1.1 a 37).toInt)) = x1.toInt) ∨ (x1.toInt < 0 ∧ (tM (G.2.1 (F a 35)) ((G.1 a 36).toInt) ((G1.1 a 37).toInt)) = x1.toInt + 256)) ∧ ((G.1 a 37).toInt) ≤ ((G1.1 a 37).toInt) ∧ ((G1.1 a 37).toInt) ≤ ((G.1 a 36).toInt))
    (I10_0 : ((G1.1 a 37).toInt) ≤ l2_10.toInt ∧ l2_10.toInt ≤ ((G.1 a 36).toInt))
    (hm10 : 2147483648 - l2_10.toInt < (((N10) + 1 : Nat) : Int))
    (z10 : ((0 ≤ l2_10.toInt ∧ l2_10.toInt < ((G.1 a 36).toInt)) ∧ True) ∨ (¬ (0 ≤ l2_10.toInt ∧ l2_10.toInt < ((G.1 a 36).toInt)) ∧ (tM (G.2.1 (F a 35)) ((G.1 a 36).toInt) (l2_10.toInt)) = 0))
    (t12 : -128 ≤ x12.toInt ∧ x12.toInt ≤ 127 ∧ ((0 ≤ x12.toInt ∧ (tM (G.2.1 (F a 35)) ((G.1 a 36).toInt) (l2_10.toInt)) = x12.toInt) ∨ (x12.toInt < 0 ∧ (tM (G.2.1 (F a 35)) ((G.1 a 36).toInt) (l2_10.toInt)) = x12.toInt + 256)))
    (t15 : (x15.toInt = 1 ∧ 97 ≤ x12.toInt ∧ x12.toInt ≤ 122) ∨ (x15.toInt = 0 ∧ (x12.toInt < 97 ∨ 122 < x12.toInt)))
    (c18 : x15.toInt = 0)
    (f21 : ((G.1 a 39).toInt) = 0 ∨ ((G.1 a 39).toInt) = 1)
    (c31 : ¬ (((G.1 a 39).toInt) = 0))
    (t41 : x41.toInt = (((n0) : Nat) : Int))
    (c42 : ¬ ((l2_10.toInt - ((G1.1 a 37).toInt)) ≠ x41.toInt))
    (I54_0 : 0 ≤ l4_54.toInt ∧ l4_54.toInt ≤ (((n0) : Nat) : Int))
    (I54_1 : l3_54.toInt = 0 ∨ l3_54.toInt = 1)
    (I54_2 : (0 : Int) ≤ l4_54.toInt)
    (hm54 : 2147483648 - l4_54.toInt < (((N54) + 1 : Nat) : Int))
    (c55 : l3_54.toInt = 0) :
    l3_54.toInt = (tkW (tM (G.2.1 (F a 35)) ((G.1 a 36).toInt)) r2 r1).1 := by
  have he : l2_10.toInt = rn cLt (tM (G.2.1 (F a 35)) ((G.1 a 36).toInt)) ((G1.1 a 37).toInt) := by
    symm
    refine rn_eq ⟨by omega, pl, cLt_n ?_⟩
    omega
  first
    | (have nw := pw.2 (by omega)
       rw [tkW_f nw]
       show l3_54.toInt = 0
       omega)
    | (obtain ⟨w1, w2, w3⟩ := pw.1 (by omega)
       have wk := rdm_w1 hrm oq1 he w1 (by rw [hwd.1]; exact w2) (fun i hi => w3 i (by rw [hwd.1] at hi; omega))
       rw [tkW_t wk.1 wk.2]
       show l3_54.toInt = 1
       omega)
theorem v_X11_isWord_112_24 {K : Nat → Nat} {F : Nat → Nat → Nat} (a : Nat) (G : XG) (G1 : XG) (G108 : XG) (r1 : RSt) (r2 : List Int) (n0 : Nat) (p0 : Nat) (l2_10 : Int32) (l3_54 : Int32) (l4_54 : Int32) (x1 : Int32) (N10 : Nat) (x12 : Int32) (x15 : Int32) (x41 : Int32) (N54 : Nat)
    (ha : K a = 13)
    (hrm : RdM (tM (G.2.1 (F a 35)) ((G.1 a 36).toInt)) ((G.1 a 36).toInt) r1 ((G.1 a 39).toInt) ((G.1 a 37).toInt) ((G.1 a 38).toInt))
    (hwd : r2.length = n0 ∧ ∀ i : Nat, i < n0 → aI (G.2.1 p0) (i : Int) = r2.getD i 0 ∧ 0 ≤ r2.getD i 0 ∧ r2.getD i 0 ≤ 127)
    (oq1 : ((G1.1 a 37).toInt) = rn cBl (tM (G.2.1 (F a 35)) ((G.1 a 36).toInt)) ((G.1 a 37).toInt))
    (pl : ∀ j : Int, (G1.1 a 37).toInt ≤ j → j < l2_10.toInt → cLt ((tM (G.2.1 (F a 35)) ((G.1 a 36).toInt)) j))
    (pw : (l3_54.toInt = 1 → ((G.1 a 39).toInt ≠ 0 ∧ l2_10.toInt - (G1.1 a 37).toInt = (n0 : Int) ∧ ∀ i : Nat, (i : Int) < l4_54.toInt → (tM (G.2.1 (F a 35)) ((G.1 a 36).toInt)) ((G1.1 a 37).toInt + (i : Int)) = r2.getD i 0)) ∧ (l3_54.toInt = 0 → ¬ (r1.1 = 1 ∧ wOk (tM (G.2.1 (F a 35)) ((G.1 a 36).toInt)) r1.2 r2)))
    (nt0 : 0 ≤ ((G.1 a 36).toInt) ∧ ((G.1 a 36).toInt) ≤ 80)
    (f12 : 3 ≤ (((n0) : Nat) : Int) ∧ (((n0) : Nat) : Int) ≤ 7)
    (z0 : 0 ≤ ((G.1 a 37).toInt) ∧ ((G.1 a 37).toInt) ≤ ((G.1 a 36).toInt))
    (t1 : -128 ≤ x1.toInt ∧ x1.toInt ≤ 127 ∧ ((0 ≤ x1.toInt ∧ (tM (G.2.1 (F a 35)) ((G.1 a 36).toInt) ((G1.1 a 37).toInt)) = x1.toInt) ∨ (x1.toInt < 0 ∧ (tM (G.2.1 (F a 35)) ((G.1 a 36).toInt) ((G1.1 a 37).toInt)) = x1.toInt + 256)) ∧ ((G.1 a 37).toInt) ≤ ((G1.1 a 37).toInt) ∧ ((G1.1 a 37).toInt) ≤ ((G.1 a 36).toInt))
    (I10_0 : ((G1.1 a 37).toInt) ≤ l2_10.toInt ∧ l2_10.toInt ≤ ((G.1 a 36).toInt))
    (hm10 : 2147483648 - l2_10.toInt < (((N10) + 1 : Nat) : Int))
    (z10 : ((0 ≤ l2_10.toInt ∧ l2_10.toInt < ((G.1 a 36).toInt)) ∧ True) ∨ (¬ (0 ≤ l2_10.toInt ∧ l2_10.toInt < ((G.1 a 36).toInt)) ∧ (tM (G.2.1 (F a 35)) ((G.1 a 36).toInt) (l2_10.toInt)) = 0))
    (t12 : -128 ≤ x12.toInt ∧ x12.toInt ≤ 127 ∧ ((0 ≤ x12.toInt ∧ (tM (G.2.1 (F a 35)) ((G.1 a 36).toInt) (l2_10.toInt)) = x12.toInt) ∨ (x12.toInt < 0 ∧ (tM (G.2.1 (F a 35)) ((G.1 a 36).toInt) (l2_10.toInt)) = x12.toInt + 256)))
    (t15 : (x15.toInt = 1 ∧ 97 ≤ x12.toInt ∧ x12.toInt ≤ 122) ∨ (x15.toInt = 0 ∧ (x12.toInt < 97 ∨ 122 < x12.toInt)))
    (c18 : x15.toInt = 0)
    (f21 : ((G.1 a 39).toInt) = 0 ∨ ((G.1 a 39).toInt) = 1)
    (c31 : ¬ (((G.1 a 39).toInt) = 0))
    (t41 : x41.toInt = (((n0) : Nat) : Int))
    (c42 : ¬ ((l2_10.toInt - ((G1.1 a 37).toInt)) ≠ x41.toInt))
    (I54_0 : 0 ≤ l4_54.toInt ∧ l4_54.toInt ≤ (((n0) : Nat) : Int))
    (I54_1 : l3_54.toInt = 0 ∨ l3_54.toInt = 1)
    (I54_2 : (0 : Int) ≤ l4_54.toInt)
    (hm54 : 2147483648 - l4_54.toInt < (((N54) + 1 : Nat) : Int))
    (c55 : l3_54.toInt = 0)
    (d_G108_a_37 : G108.1 a 37 = (G1.1 a 37))
    (d_G108_a_38 : G108.1 a 38 = G.1 a 38)
    (d_G108_a_39 : G108.1 a 39 = G.1 a 39) :
    RdM (tM (G.2.1 (F a 35)) ((G.1 a 36).toInt)) ((G.1 a 36).toInt) (tkW (tM (G.2.1 (F a 35)) ((G.1 a 36).toInt)) r2 r1).2 ((G108.1 a 39).toInt) ((G108.1 a 37).toInt) ((G108.1 a 38).toInt) := by
  have he : l2_10.toInt = rn cLt (tM (G.2.1 (F a 35)) ((G.1 a 36).toInt)) ((G1.1 a 37).toInt) := by
    symm
    refine rn_eq ⟨by omega, pl, cLt_n ?_⟩
    omega
  first
    | (have nw := pw.2 (by omega)
       rw [tkW_f nw, d_G108_a_37, d_G108_a_38, d_G108_a_39]
       exact hrm.sk (tM_e _ _) oq1)
    | (obtain ⟨w1, w2, w3⟩ := pw.1 (by omega)
       have wk := rdm_w1 hrm oq1 he w1 (by rw [hwd.1]; exact w2) (fun i hi => w3 i (by rw [hwd.1] at hi; omega))
       rw [tkW_t wk.1 wk.2, d_G108_a_37, d_G108_a_38, d_G108_a_39]
       refine rdm_st (tM_e _ _) ?_ w1 (by omega)
       rw [show r1.2 + (r2.length : Int) = l2_10.toInt from ?_]
       have s2 := hrm.2.2.1 wk.1
       rw [← oq1] at s2
       have := hwd.1
       omega)
theorem v_X11_isWord_112_25 {K : Nat → Nat} {F : Nat → Nat → Nat} (a : Nat) (G : XG) (G1 : XG) (l2_10 : Int32) (r1 : RSt) (r2 : List Int) (n0 : Nat) (p0 : Nat) (l3_54 : Int32) (l4_54 : Int32) (x1 : Int32) (N10 : Nat) (x12 : Int32) (x15 : Int32) (x41 : Int32) (N54 : Nat)
    (ha : K a = 13)
    (hrm : RdM (tM (G.2.1 (F a 35)) ((G.1 a 36).toInt)) ((G.1 a 36).toInt) r1 ((G.1 a 39).toInt) ((G.1 a 37).toInt) ((G.1 a 38).toInt))
    (hwd : r2.length = n0 ∧ ∀ i : Nat, i < n0 → aI (G.2.1 p0) (i : Int) = r2.getD i 0 ∧ 0 ≤ r2.getD i 0 ∧ r2.getD i 0 ≤ 127)
    (oq1 : ((G1.1 a 37).toInt) = rn cBl (tM (G.2.1 (F a 35)) ((G.1 a 36).toInt)) ((G.1 a 37).toInt))
    (pl : ∀ j : Int, (G1.1 a 37).toInt ≤ j → j < l2_10.toInt → cLt ((tM (G.2.1 (F a 35)) ((G.1 a 36).toInt)) j))
    (pw : (l3_54.toInt = 1 → ((G.1 a 39).toInt ≠ 0 ∧ l2_10.toInt - (G1.1 a 37).toInt = (n0 : Int) ∧ ∀ i : Nat, (i : Int) < l4_54.toInt → (tM (G.2.1 (F a 35)) ((G.1 a 36).toInt)) ((G1.1 a 37).toInt + (i : Int)) = r2.getD i 0)) ∧ (l3_54.toInt = 0 → ¬ (r1.1 = 1 ∧ wOk (tM (G.2.1 (F a 35)) ((G.1 a 36).toInt)) r1.2 r2)))
    (nt0 : 0 ≤ ((G.1 a 36).toInt) ∧ ((G.1 a 36).toInt) ≤ 80)
    (f12 : 3 ≤ (((n0) : Nat) : Int) ∧ (((n0) : Nat) : Int) ≤ 7)
    (z0 : 0 ≤ ((G.1 a 37).toInt) ∧ ((G.1 a 37).toInt) ≤ ((G.1 a 36).toInt))
    (t1 : -128 ≤ x1.toInt ∧ x1.toInt ≤ 127 ∧ ((0 ≤ x1.toInt ∧ (tM (G.2.1 (F a 35)) ((G.1 a 36).toInt) ((G1.1 a 37).toInt)) = x1.toInt) ∨ (x1.toInt < 0 ∧ (tM (G.2.1 (F a 35)) ((G.1 a 36).toInt) ((G1.1 a 37).toInt)) = x1.toInt + 256)) ∧ ((G.1 a 37).toInt) ≤ ((G1.1 a 37).toInt) ∧ ((G1.1 a 37).toInt) ≤ ((G.1 a 36).toInt))
    (I10_0 : ((G1.1 a 37).toInt) ≤ l2_10.toInt ∧ l2_10.toInt ≤ ((G.1 a 36).toInt))
    (hm10 : 2147483648 - l2_10.toInt < (((N10) + 1 : Nat) : Int))
    (z10 : ((0 ≤ l2_10.toInt ∧ l2_10.toInt < ((G.1 a 36).toInt)) ∧ True) ∨ (¬ (0 ≤ l2_10.toInt ∧ l2_10.toInt < ((G.1 a 36).toInt)) ∧ (tM (G.2.1 (F a 35)) ((G.1 a 36).toInt) (l2_10.toInt)) = 0))
    (t12 : -128 ≤ x12.toInt ∧ x12.toInt ≤ 127 ∧ ((0 ≤ x12.toInt ∧ (tM (G.2.1 (F a 35)) ((G.1 a 36).toInt) (l2_10.toInt)) = x12.toInt) ∨ (x12.toInt < 0 ∧ (tM (G.2.1 (F a 35)) ((G.1 a 36).toInt) (l2_10.toInt)) = x12.toInt + 256)))
    (t15 : (x15.toInt = 1 ∧ 97 ≤ x12.toInt ∧ x12.toInt ≤ 122) ∨ (x15.toInt = 0 ∧ (x12.toInt < 97 ∨ 122 < x12.toInt)))
    (c18 : x15.toInt = 0)
    (f21 : ((G.1 a 39).toInt) = 0 ∨ ((G.1 a 39).toInt) = 1)
    (c31 : ¬ (((G.1 a 39).toInt) = 0))
    (t41 : x41.toInt = (((n0) : Nat) : Int))
    (c42 : ¬ ((l2_10.toInt - ((G1.1 a 37).toInt)) ≠ x41.toInt))
    (I54_0 : 0 ≤ l4_54.toInt ∧ l4_54.toInt ≤ (((n0) : Nat) : Int))
    (I54_1 : l3_54.toInt = 0 ∨ l3_54.toInt = 1)
    (I54_2 : (0 : Int) ≤ l4_54.toInt)
    (hm54 : 2147483648 - l4_54.toInt < (((N54) + 1 : Nat) : Int))
    (c55 : l3_54.toInt = 0)
    (c97 : ¬ (l3_54.toInt = 0)) :
    l3_54.toInt = (tkW (tM (G.2.1 (F a 35)) ((G.1 a 36).toInt)) r2 r1).1 := by
  have he : l2_10.toInt = rn cLt (tM (G.2.1 (F a 35)) ((G.1 a 36).toInt)) ((G1.1 a 37).toInt) := by
    symm
    refine rn_eq ⟨by omega, pl, cLt_n ?_⟩
    omega
  first
    | (have nw := pw.2 (by omega)
       rw [tkW_f nw]
       show l3_54.toInt = 0
       omega)
    | (obtain ⟨w1, w2, w3⟩ := pw.1 (by omega)
       have wk := rdm_w1 hrm oq1 he w1 (by rw [hwd.1]; exact w2) (fun i hi => w3 i (by rw [hwd.1] at hi; omega))
       rw [tkW_t wk.1 wk.2]
       show l3_54.toInt = 1
       omega)
theorem v_X11_isWord_112_26 {K : Nat → Nat} {F : Nat → Nat → Nat} (a : Nat) (G : XG) (G1 : XG) (G108 : XG) (l2_10 : Int32) (r1 : RSt) (r2 : List Int) (n0 : Nat) (p0 : Nat) (l3_54 : Int32) (l4_54 : Int32) (x1 : Int32) (N10 : Nat) (x12 : Int32) (x15 : Int32) (x41 : Int32) (N54 : Nat)
    (ha : K a = 13)
    (hrm : RdM (tM (G.2.1 (F a 35)) ((G.1 a 36).toInt)) ((G.1 a 36).toInt) r1 ((G.1 a 39).toInt) ((G.1 a 37).toInt) ((G.1 a 38).toInt))
    (hwd : r2.length = n0 ∧ ∀ i : Nat, i < n0 → aI (G.2.1 p0) (i : Int) = r2.getD i 0 ∧ 0 ≤ r2.getD i 0 ∧ r2.getD i 0 ≤ 127)
    (oq1 : ((G1.1 a 37).toInt) = rn cBl (tM (G.2.1 (F a 35)) ((G.1 a 36).toInt)) ((G.1 a 37).toInt))
    (pl : ∀ j : Int, (G1.1 a 37).toInt ≤ j → j < l2_10.toInt → cLt ((tM (G.2.1 (F a 35)) ((G.1 a 36).toInt)) j))
    (pw : (l3_54.toInt = 1 → ((G.1 a 39).toInt ≠ 0 ∧ l2_10.toInt - (G1.1 a 37).toInt = (n0 : Int) ∧ ∀ i : Nat, (i : Int) < l4_54.toInt → (tM (G.2.1 (F a 35)) ((G.1 a 36).toInt)) ((G1.1 a 37).toInt + (i : Int)) = r2.getD i 0)) ∧ (l3_54.toInt = 0 → ¬ (r1.1 = 1 ∧ wOk (tM (G.2.1 (F a 35)) ((G.1 a 36).toInt)) r1.2 r2)))
    (nt0 : 0 ≤ ((G.1 a 36).toInt) ∧ ((G.1 a 36).toInt) ≤ 80)
    (f12 : 3 ≤ (((n0) : Nat) : Int) ∧ (((n0) : Nat) : Int) ≤ 7)
    (z0 : 0 ≤ ((G.1 a 37).toInt) ∧ ((G.1 a 37).toInt) ≤ ((G.1 a 36).toInt))
    (t1 : -128 ≤ x1.toInt ∧ x1.toInt ≤ 127 ∧ ((0 ≤ x1.toInt ∧ (tM (G.2.1 (F a 35)) ((G.1 a 36).toInt) ((G1.1 a 37).toInt)) = x1.toInt) ∨ (x1.toInt < 0 ∧ (tM (G.2.1 (F a 35)) ((G.1 a 36).toInt) ((G1.1 a 37).toInt)) = x1.toInt + 256)) ∧ ((G.1 a 37).toInt) ≤ ((G1.1 a 37).toInt) ∧ ((G1.1 a 37).toInt) ≤ ((G.1 a 36).toInt))
    (I10_0 : ((G1.1 a 37).toInt) ≤ l2_10.toInt ∧ l2_10.toInt ≤ ((G.1 a 36).toInt))
    (hm10 : 2147483648 - l2_10.toInt < (((N10) + 1 : Nat) : Int))
    (z10 : ((0 ≤ l2_10.toInt ∧ l2_10.toInt < ((G.1 a 36).toInt)) ∧ True) ∨ (¬ (0 ≤ l2_10.toInt ∧ l2_10.toInt < ((G.1 a 36).toInt)) ∧ (tM (G.2.1 (F a 35)) ((G.1 a 36).toInt) (l2_10.toInt)) = 0))
    (t12 : -128 ≤ x12.toInt ∧ x12.toInt ≤ 127 ∧ ((0 ≤ x12.toInt ∧ (tM (G.2.1 (F a 35)) ((G.1 a 36).toInt) (l2_10.toInt)) = x12.toInt) ∨ (x12.toInt < 0 ∧ (tM (G.2.1 (F a 35)) ((G.1 a 36).toInt) (l2_10.toInt)) = x12.toInt + 256)))
    (t15 : (x15.toInt = 1 ∧ 97 ≤ x12.toInt ∧ x12.toInt ≤ 122) ∨ (x15.toInt = 0 ∧ (x12.toInt < 97 ∨ 122 < x12.toInt)))
    (c18 : x15.toInt = 0)
    (f21 : ((G.1 a 39).toInt) = 0 ∨ ((G.1 a 39).toInt) = 1)
    (c31 : ¬ (((G.1 a 39).toInt) = 0))
    (t41 : x41.toInt = (((n0) : Nat) : Int))
    (c42 : ¬ ((l2_10.toInt - ((G1.1 a 37).toInt)) ≠ x41.toInt))
    (I54_0 : 0 ≤ l4_54.toInt ∧ l4_54.toInt ≤ (((n0) : Nat) : Int))
    (I54_1 : l3_54.toInt = 0 ∨ l3_54.toInt = 1)
    (I54_2 : (0 : Int) ≤ l4_54.toInt)
    (hm54 : 2147483648 - l4_54.toInt < (((N54) + 1 : Nat) : Int))
    (c55 : l3_54.toInt = 0)
    (c97 : ¬ (l3_54.toInt = 0))
    (d_G108_a_37 : G108.1 a 37 = l2_10)
    (d_G108_a_38 : G108.1 a 38 = G.1 a 38)
    (d_G108_a_39 : G108.1 a 39 = G.1 a 39) :
    RdM (tM (G.2.1 (F a 35)) ((G.1 a 36).toInt)) ((G.1 a 36).toInt) (tkW (tM (G.2.1 (F a 35)) ((G.1 a 36).toInt)) r2 r1).2 ((G108.1 a 39).toInt) ((G108.1 a 37).toInt) ((G108.1 a 38).toInt) := by
  have he : l2_10.toInt = rn cLt (tM (G.2.1 (F a 35)) ((G.1 a 36).toInt)) ((G1.1 a 37).toInt) := by
    symm
    refine rn_eq ⟨by omega, pl, cLt_n ?_⟩
    omega
  first
    | (have nw := pw.2 (by omega)
       rw [tkW_f nw, d_G108_a_37, d_G108_a_38, d_G108_a_39]
       exact hrm.sk (tM_e _ _) oq1)
    | (obtain ⟨w1, w2, w3⟩ := pw.1 (by omega)
       have wk := rdm_w1 hrm oq1 he w1 (by rw [hwd.1]; exact w2) (fun i hi => w3 i (by rw [hwd.1] at hi; omega))
       rw [tkW_t wk.1 wk.2, d_G108_a_37, d_G108_a_38, d_G108_a_39]
       refine rdm_st (tM_e _ _) ?_ w1 (by omega)
       rw [show r1.2 + (r2.length : Int) = l2_10.toInt from ?_]
       have s2 := hrm.2.2.1 wk.1
       rw [← oq1] at s2
       have := hwd.1
       omega)
theorem v_X11_isWord_112_27 {K : Nat → Nat} {F : Nat → Nat → Nat} (a : Nat) (G : XG) (G1 : XG) (r1 : RSt) (r2 : List Int) (n0 : Nat) (p0 : Nat) (l2_10 : Int32) (l3_54 : Int32) (l4_54 : Int32) (x1 : Int32) (N10 : Nat) (x12 : Int32) (x15 : Int32) (x41 : Int32) (N54 : Nat) (x61 : Int32)
    (ha : K a = 13)
    (hrm : RdM (tM (G.2.1 (F a 35)) ((G.1 a 36).toInt)) ((G.1 a 36).toInt) r1 ((G.1 a 39).toInt) ((G.1 a 37).toInt) ((G.1 a 38).toInt))
    (hwd : r2.length = n0 ∧ ∀ i : Nat, i < n0 → aI (G.2.1 p0) (i : Int) = r2.getD i 0 ∧ 0 ≤ r2.getD i 0 ∧ r2.getD i 0 ≤ 127)
    (oq1 : ((G1.1 a 37).toInt) = rn cBl (tM (G.2.1 (F a 35)) ((G.1 a 36).toInt)) ((G.1 a 37).toInt))
    (pl : ∀ j : Int, (G1.1 a 37).toInt ≤ j → j < l2_10.toInt → cLt ((tM (G.2.1 (F a 35)) ((G.1 a 36).toInt)) j))
    (pw : (l3_54.toInt = 1 → ((G.1 a 39).toInt ≠ 0 ∧ l2_10.toInt - (G1.1 a 37).toInt = (n0 : Int) ∧ ∀ i : Nat, (i : Int) < l4_54.toInt → (tM (G.2.1 (F a 35)) ((G.1 a 36).toInt)) ((G1.1 a 37).toInt + (i : Int)) = r2.getD i 0)) ∧ (l3_54.toInt = 0 → ¬ (r1.1 = 1 ∧ wOk (tM (G.2.1 (F a 35)) ((G.1 a 36).toInt)) r1.2 r2)))
    (nt0 : 0 ≤ ((G.1 a 36).toInt) ∧ ((G.1 a 36).toInt) ≤ 80)
    (f12 : 3 ≤ (((n0) : Nat) : Int) ∧ (((n0) : Nat) : Int) ≤ 7)
    (z0 : 0 ≤ ((G.1 a 37).toInt) ∧ ((G.1 a 37).toInt) ≤ ((G.1 a 36).toInt))
    (t1 : -128 ≤ x1.toInt ∧ x1.toInt ≤ 127 ∧ ((0 ≤ x1.toInt ∧ (tM (G.2.1 (F a 35)) ((G.1 a 36).toInt) ((G1.1 a 37).toInt)) = x1.toInt) ∨ (x1.toInt < 0 ∧ (tM (G.2.1 (F a 35)) ((G.1 a 36).toInt) ((G1.1 a 37).toInt)) = x1.toInt + 256)) ∧ ((G.1 a 37).toInt) ≤ ((G1.1 a 37).toInt) ∧ ((G1.1 a 37).toInt) ≤ ((G.1 a 36).toInt))
    (I10_0 : ((G1.1 a 37).toInt) ≤ l2_10.toInt ∧ l2_10.toInt ≤ ((G.1 a 36).toInt))
    (hm10 : 2147483648 - l2_10.toInt < (((N10) + 1 : Nat) : Int))
    (z10 : ((0 ≤ l2_10.toInt ∧ l2_10.toInt < ((G.1 a 36).toInt)) ∧ True) ∨ (¬ (0 ≤ l2_10.toInt ∧ l2_10.toInt < ((G.1 a 36).toInt)) ∧ (tM (G.2.1 (F a 35)) ((G.1 a 36).toInt) (l2_10.toInt)) = 0))
    (t12 : -128 ≤ x12.toInt ∧ x12.toInt ≤ 127 ∧ ((0 ≤ x12.toInt ∧ (tM (G.2.1 (F a 35)) ((G.1 a 36).toInt) (l2_10.toInt)) = x12.toInt) ∨ (x12.toInt < 0 ∧ (tM (G.2.1 (F a 35)) ((G.1 a 36).toInt) (l2_10.toInt)) = x12.toInt + 256)))
    (t15 : (x15.toInt = 1 ∧ 97 ≤ x12.toInt ∧ x12.toInt ≤ 122) ∨ (x15.toInt = 0 ∧ (x12.toInt < 97 ∨ 122 < x12.toInt)))
    (c18 : x15.toInt = 0)
    (f21 : ((G.1 a 39).toInt) = 0 ∨ ((G.1 a 39).toInt) = 1)
    (c31 : ¬ (((G.1 a 39).toInt) = 0))
    (t41 : x41.toInt = (((n0) : Nat) : Int))
    (c42 : ¬ ((l2_10.toInt - ((G1.1 a 37).toInt)) ≠ x41.toInt))
    (I54_0 : 0 ≤ l4_54.toInt ∧ l4_54.toInt ≤ (((n0) : Nat) : Int))
    (I54_1 : l3_54.toInt = 0 ∨ l3_54.toInt = 1)
    (I54_2 : (0 : Int) ≤ l4_54.toInt)
    (hm54 : 2147483648 - l4_54.toInt < (((N54) + 1 : Nat) : Int))
    (c55 : ¬ (l3_54.toInt = 0))
    (t61 : x61.toInt = (((n0) : Nat) : Int))
    (c62 : x61.toInt ≤ l4_54.toInt)
    (c97 : l3_54.toInt = 0) :
    l3_54.toInt = (tkW (tM (G.2.1 (F a 35)) ((G.1 a 36).toInt)) r2 r1).1 := by
  have he : l2_10.toInt = rn cLt (tM (G.2.1 (F a 35)) ((G.1 a 36).toInt)) ((G1.1 a 37).toInt) := by
    symm
    refine rn_eq ⟨by omega, pl, cLt_n ?_⟩
    omega
  first
    | (have nw := pw.2 (by omega)
       rw [tkW_f nw]
       show l3_54.toInt = 0
       omega)
    | (obtain ⟨w1, w2, w3⟩ := pw.1 (by omega)
       have wk := rdm_w1 hrm oq1 he w1 (by rw [hwd.1]; exact w2) (fun i hi => w3 i (by rw [hwd.1] at hi; omega))
       rw [tkW_t wk.1 wk.2]
       show l3_54.toInt = 1
       omega)
theorem v_X11_isWord_112_28 {K : Nat → Nat} {F : Nat → Nat → Nat} (a : Nat) (G : XG) (G1 : XG) (G108 : XG) (r1 : RSt) (r2 : List Int) (n0 : Nat) (p0 : Nat) (l2_10 : Int32) (l3_54 : Int32) (l4_54 : Int32) (x1 : Int32) (N10 : Nat) (x12 : Int32) (x15 : Int32) (x41 : Int32) (N54 : Nat) (x61 : Int32)
    (ha : K a = 13)
    (hrm : RdM (tM (G.2.1 (F a 35)) ((G.1 a 36).toInt)) ((G.1 a 36).toInt) r1 ((G.1 a 39).toInt) ((G.1 a 37).toInt) ((G.1 a 38).toInt))
    (hwd : r2.length = n0 ∧ ∀ i : Nat, i < n0 → aI (G.2.1 p0) (i : Int) = r2.getD i 0 ∧ 0 ≤ r2.getD i 0 ∧ r2.getD i 0 ≤ 127)
    (oq1 : ((G1.1 a 37).toInt) = rn cBl (tM (G.2.1 (F a 35)) ((G.1 a 36).toInt)) ((G.1 a 37).toInt))
    (pl : ∀ j : Int, (G1.1 a 37).toInt ≤ j → j < l2_10.toInt → cLt ((tM (G.2.1 (F a 35)) ((G.1 a 36).toInt)) j))
    (pw : (l3_54.toInt = 1 → ((G.1 a 39).toInt ≠ 0 ∧ l2_10.toInt - (G1.1 a 37).toInt = (n0 : Int) ∧ ∀ i : Nat, (i : Int) < l4_54.toInt → (tM (G.2.1 (F a 35)) ((G.1 a 36).toInt)) ((G1.1 a 37).toInt + (i : Int)) = r2.getD i 0)) ∧ (l3_54.toInt = 0 → ¬ (r1.1 = 1 ∧ wOk (tM (G.2.1 (F a 35)) ((G.1 a 36).toInt)) r1.2 r2)))
    (nt0 : 0 ≤ ((G.1 a 36).toInt) ∧ ((G.1 a 36).toInt) ≤ 80)
    (f12 : 3 ≤ (((n0) : Nat) : Int) ∧ (((n0) : Nat) : Int) ≤ 7)
    (z0 : 0 ≤ ((G.1 a 37).toInt) ∧ ((G.1 a 37).toInt) ≤ ((G.1 a 36).toInt))
    (t1 : -128 ≤ x1.toInt ∧ x1.toInt ≤ 127 ∧ ((0 ≤ x1.toInt ∧ (tM (G.2.1 (F a 35)) ((G.1 a 36).toInt) ((G1.1 a 37).toInt)) = x1.toInt) ∨ (x1.toInt < 0 ∧ (tM (G.2.1 (F a 35)) ((G.1 a 36).toInt) ((G1.1 a 37).toInt)) = x1.toInt + 256)) ∧ ((G.1 a 37).toInt) ≤ ((G1.1 a 37).toInt) ∧ ((G1.1 a 37).toInt) ≤ ((G.1 a 36).toInt))
    (I10_0 : ((G1.1 a 37).toInt) ≤ l2_10.toInt ∧ l2_10.toInt ≤ ((G.1 a 36).toInt))
    (hm10 : 2147483648 - l2_10.toInt < (((N10) + 1 : Nat) : Int))
    (z10 : ((0 ≤ l2_10.toInt ∧ l2_10.toInt < ((G.1 a 36).toInt)) ∧ True) ∨ (¬ (0 ≤ l2_10.toInt ∧ l2_10.toInt < ((G.1 a 36).toInt)) ∧ (tM (G.2.1 (F a 35)) ((G.1 a 36).toInt) (l2_10.toInt)) = 0))
    (t12 : -128 ≤ x12.toInt ∧ x12.toInt ≤ 127 ∧ ((0 ≤ x12.toInt ∧ (tM (G.2.1 (F a 35)) ((G.1 a 36).toInt) (l2_10.toInt)) = x12.toInt) ∨ (x12.toInt < 0 ∧ (tM (G.2.1 (F a 35)) ((G.1 a 36).toInt) (l2_10.toInt)) = x12.toInt + 256)))
    (t15 : (x15.toInt = 1 ∧ 97 ≤ x12.toInt ∧ x12.toInt ≤ 122) ∨ (x15.toInt = 0 ∧ (x12.toInt < 97 ∨ 122 < x12.toInt)))
    (c18 : x15.toInt = 0)
    (f21 : ((G.1 a 39).toInt) = 0 ∨ ((G.1 a 39).toInt) = 1)
    (c31 : ¬ (((G.1 a 39).toInt) = 0))
    (t41 : x41.toInt = (((n0) : Nat) : Int))
    (c42 : ¬ ((l2_10.toInt - ((G1.1 a 37).toInt)) ≠ x41.toInt))
    (I54_0 : 0 ≤ l4_54.toInt ∧ l4_54.toInt ≤ (((n0) : Nat) : Int))
    (I54_1 : l3_54.toInt = 0 ∨ l3_54.toInt = 1)
    (I54_2 : (0 : Int) ≤ l4_54.toInt)
    (hm54 : 2147483648 - l4_54.toInt < (((N54) + 1 : Nat) : Int))
    (c55 : ¬ (l3_54.toInt = 0))
    (t61 : x61.toInt = (((n0) : Nat) : Int))
    (c62 : x61.toInt ≤ l4_54.toInt)
    (c97 : l3_54.toInt = 0)
    (d_G108_a_37 : G108.1 a 37 = (G1.1 a 37))
    (d_G108_a_38 : G108.1 a 38 = G.1 a 38)
    (d_G108_a_39 : G108.1 a 39 = G.1 a 39) :
    RdM (tM (G.2.1 (F a 35)) ((G.1 a 36).toInt)) ((G.1 a 36).toInt) (tkW (tM (G.2.1 (F a 35)) ((G.1 a 36).toInt)) r2 r1).2 ((G108.1 a 39).toInt) ((G108.1 a 37).toInt) ((G108.1 a 38).toInt) := by
  have he : l2_10.toInt = rn cLt (tM (G.2.1 (F a 35)) ((G.1 a 36).toInt)) ((G1.1 a 37).toInt) := by
    symm
    refine rn_eq ⟨by omega, pl, cLt_n ?_⟩
    omega
  first
    | (have nw := pw.2 (by omega)
       rw [tkW_f nw, d_G108_a_37, d_G108_a_38, d_G108_a_39]
       exact hrm.sk (tM_e _ _) oq1)
    | (obtain ⟨w1, w2, w3⟩ := pw.1 (by omega)
       have wk := rdm_w1 hrm oq1 he w1 (by rw [hwd.1]; exact w2) (fun i hi => w3 i (by rw [hwd.1] at hi; omega))
       rw [tkW_t wk.1 wk.2, d_G108_a_37, d_G108_a_38, d_G108_a_39]
       refine rdm_st (tM_e _ _) ?_ w1 (by omega)
       rw [show r1.2 + (r2.length : Int) = l2_10.toInt from ?_]
       have s2 := hrm.2.2.1 wk.1
       rw [← oq1] at s2
       have := hwd.1
       omega)
theorem v_X11_isWord_112_29 {K : Nat → Nat} {F : Nat → Nat → Nat} (a : Nat) (G : XG) (G1 : XG) (l2_10 : Int32) (r1 : RSt) (r2 : List Int) (n0 : Nat) (p0 : Nat) (l3_54 : Int32) (l4_54 : Int32) (x1 : Int32) (N10 : Nat) (x12 : Int32) (x15 : Int32) (x41 : Int32) (N54 : Nat) (x61 : Int32)
    (ha : K a = 13)
    (hrm : RdM (tM (G.2.1 (F a 35)) ((G.1 a 36).toInt)) ((G.1 a 36).toInt) r1 ((G.1 a 39).toInt) ((G.1 a 37).toInt) ((G.1 a 38).toInt))
    (hwd : r2.length = n0 ∧ ∀ i : Nat, i < n0 → aI (G.2.1 p0) (i : Int) = r2.getD i 0 ∧ 0 ≤ r2.getD i 0 ∧ r2.getD i 0 ≤ 127)
    (oq1 : ((G1.1 a 37).toInt) = rn cBl (tM (G.2.1 (F a 35)) ((G.1 a 36).toInt)) ((G.1 a 37).toInt))
    (pl : ∀ j : Int, (G1.1 a 37).toInt ≤ j → j < l2_10.toInt → cLt ((tM (G.2.1 (F a 35)) ((G.1 a 36).toInt)) j))
    (pw : (l3_54.toInt = 1 → ((G.1 a 39).toInt ≠ 0 ∧ l2_10.toInt - (G1.1 a 37).toInt = (n0 : Int) ∧ ∀ i : Nat, (i : Int) < l4_54.toInt → (tM (G.2.1 (F a 35)) ((G.1 a 36).toInt)) ((G1.1 a 37).toInt + (i : Int)) = r2.getD i 0)) ∧ (l3_54.toInt = 0 → ¬ (r1.1 = 1 ∧ wOk (tM (G.2.1 (F a 35)) ((G.1 a 36).toInt)) r1.2 r2)))
    (nt0 : 0 ≤ ((G.1 a 36).toInt) ∧ ((G.1 a 36).toInt) ≤ 80)
    (f12 : 3 ≤ (((n0) : Nat) : Int) ∧ (((n0) : Nat) : Int) ≤ 7)
    (z0 : 0 ≤ ((G.1 a 37).toInt) ∧ ((G.1 a 37).toInt) ≤ ((G.1 a 36).toInt))
    (t1 : -128 ≤ x1.toInt ∧ x1.toInt ≤ 127 ∧ ((0 ≤ x1.toInt ∧ (tM (G.2.1 (F a 35)) ((G.1 a 36).toInt) ((G1.1 a 37).toInt)) = x1.toInt) ∨ (x1.toInt < 0 ∧ (tM (G.2.1 (F a 35)) ((G.1 a 36).toInt) ((G1.1 a 37).toInt)) = x1.toInt + 256)) ∧ ((G.1 a 37).toInt) ≤ ((G1.1 a 37).toInt) ∧ ((G1.1 a 37).toInt) ≤ ((G.1 a 36).toInt))
    (I10_0 : ((G1.1 a 37).toInt) ≤ l2_10.toInt ∧ l2_10.toInt ≤ ((G.1 a 36).toInt))
    (hm10 : 2147483648 - l2_10.toInt < (((N10) + 1 : Nat) : Int))
    (z10 : ((0 ≤ l2_10.toInt ∧ l2_10.toInt < ((G.1 a 36).toInt)) ∧ True) ∨ (¬ (0 ≤ l2_10.toInt ∧ l2_10.toInt < ((G.1 a 36).toInt)) ∧ (tM (G.2.1 (F a 35)) ((G.1 a 36).toInt) (l2_10.toInt)) = 0))
    (t12 : -128 ≤ x12.toInt ∧ x12.toInt ≤ 127 ∧ ((0 ≤ x12.toInt ∧ (tM (G.2.1 (F a 35)) ((G.1 a 36).toInt) (l2_10.toInt)) = x12.toInt) ∨ (x12.toInt < 0 ∧ (tM (G.2.1 (F a 35)) ((G.1 a 36).toInt) (l2_10.toInt)) = x12.toInt + 256)))
    (t15 : (x15.toInt = 1 ∧ 97 ≤ x12.toInt ∧ x12.toInt ≤ 122) ∨ (x15.toInt = 0 ∧ (x12.toInt < 97 ∨ 122 < x12.toInt)))
    (c18 : x15.toInt = 0)
    (f21 : ((G.1 a 39).toInt) = 0 ∨ ((G.1 a 39).toInt) = 1)
    (c31 : ¬ (((G.1 a 39).toInt) = 0))
    (t41 : x41.toInt = (((n0) : Nat) : Int))
    (c42 : ¬ ((l2_10.toInt - ((G1.1 a 37).toInt)) ≠ x41.toInt))
    (I54_0 : 0 ≤ l4_54.toInt ∧ l4_54.toInt ≤ (((n0) : Nat) : Int))
    (I54_1 : l3_54.toInt = 0 ∨ l3_54.toInt = 1)
    (I54_2 : (0 : Int) ≤ l4_54.toInt)
    (hm54 : 2147483648 - l4_54.toInt < (((N54) + 1 : Nat) : Int))
    (c55 : ¬ (l3_54.toInt = 0))
    (t61 : x61.toInt = (((n0) : Nat) : Int))
    (c62 : x61.toInt ≤ l4_54.toInt) :
    l3_54.toInt = (tkW (tM (G.2.1 (F a 35)) ((G.1 a 36).toInt)) r2 r1).1 := by
  have he : l2_10.toInt = rn cLt (tM (G.2.1 (F a 35)) ((G.1 a 36).toInt)) ((G1.1 a 37).toInt) := by
    symm
    refine rn_eq ⟨by omega, pl, cLt_n ?_⟩
    omega
  first
    | (have nw := pw.2 (by omega)
       rw [tkW_f nw]
       show l3_54.toInt = 0
       omega)
    | (obtain ⟨w1, w2, w3⟩ := pw.1 (by omega)
       have wk := rdm_w1 hrm oq1 he w1 (by rw [hwd.1]; exact w2) (fun i hi => w3 i (by rw [hwd.1] at hi; omega))
       rw [tkW_t wk.1 wk.2]
       show l3_54.toInt = 1
       omega)
theorem v_X11_isWord_112_30 {K : Nat → Nat} {F : Nat → Nat → Nat} (a : Nat) (G : XG) (G1 : XG) (G108 : XG) (l2_10 : Int32) (r1 : RSt) (r2 : List Int) (n0 : Nat) (p0 : Nat) (l3_54 : Int32) (l4_54 : Int32) (x1 : Int32) (N10 : Nat) (x12 : Int32) (x15 : Int32) (x41 : Int32) (N54 : Nat) (x61 : Int32)
    (ha : K a = 13)
    (hrm : RdM (tM (G.2.1 (F a 35)) ((G.1 a 36).toInt)) ((G.1 a 36).toInt) r1 ((G.1 a 39).toInt) ((G.1 a 37).toInt) ((G.1 a 38).toInt))
    (hwd : r2.length = n0 ∧ ∀ i : Nat, i < n0 → aI (G.2.1 p0) (i : Int) = r2.getD i 0 ∧ 0 ≤ r2.getD i 0 ∧ r2.getD i 0 ≤ 127)
    (oq1 : ((G1.1 a 37).toInt) = rn cBl (tM (G.2.1 (F a 35)) ((G.1 a 36).toInt)) ((G.1 a 37).toInt))
    (pl : ∀ j : Int, (G1.1 a 37).toInt ≤ j → j < l2_10.toInt → cLt ((tM (G.2.1 (F a 35)) ((G.1 a 36).toInt)) j))
    (pw : (l3_54.toInt = 1 → ((G.1 a 39).toInt ≠ 0 ∧ l2_10.toInt - (G1.1 a 37).toInt = (n0 : Int) ∧ ∀ i : Nat, (i : Int) < l4_54.toInt → (tM (G.2.1 (F a 35)) ((G.1 a 36).toInt)) ((G1.1 a 37).toInt + (i : Int)) = r2.getD i 0)) ∧ (l3_54.toInt = 0 → ¬ (r1.1 = 1 ∧ wOk (tM (G.2.1 (F a 35)) ((G.1 a 36).toInt)) r1.2 r2)))
    (nt0 : 0 ≤ ((G.1 a 36).toInt) ∧ ((G.1 a 36).toInt) ≤ 80)
    (f12 : 3 ≤ (((n0) : Nat) : Int) ∧ (((n0) : Nat) : Int) ≤ 7)
    (z0 : 0 ≤ ((G.1 a 37).toInt) ∧ ((G.1 a 37).toInt) ≤ ((G.1 a 36).toInt))
    (t1 : -128 ≤ x1.toInt ∧ x1.toInt ≤ 127 ∧ ((0 ≤ x1.toInt ∧ (tM (G.2.1 (F a 35)) ((G.1 a 36).toInt) ((G1.1 a 37).toInt)) = x1.toInt) ∨ (x1.toInt < 0 ∧ (tM (G.2.1 (F a 35)) ((G.1 a 36).toInt) ((G1.1 a 37).toInt)) = x1.toInt + 256)) ∧ ((G.1 a 37).toInt) ≤ ((G1.1 a 37).toInt) ∧ ((G1.1 a 37).toInt) ≤ ((G.1 a 36).toInt))
    (I10_0 : ((G1.1 a 37).toInt) ≤ l2_10.toInt ∧ l2_10.toInt ≤ ((G.1 a 36).toInt))
    (hm10 : 2147483648 - l2_10.toInt < (((N10) + 1 : Nat) : Int))
    (z10 : ((0 ≤ l2_10.toInt ∧ l2_10.toInt < ((G.1 a 36).toInt)) ∧ True) ∨ (¬ (0 ≤ l2_10.toInt ∧ l2_10.toInt < ((G.1 a 36).toInt)) ∧ (tM (G.2.1 (F a 35)) ((G.1 a 36).toInt) (l2_10.toInt)) = 0))
    (t12 : -128 ≤ x12.toInt ∧ x12.toInt ≤ 127 ∧ ((0 ≤ x12.toInt ∧ (tM (G.2.1 (F a 35)) ((G.1 a 36).toInt) (l2_10.toInt)) = x12.toInt) ∨ (x12.toInt < 0 ∧ (tM (G.2.1 (F a 35)) ((G.1 a 36).toInt) (l2_10.toInt)) = x12.toInt + 256)))
    (t15 : (x15.toInt = 1 ∧ 97 ≤ x12.toInt ∧ x12.toInt ≤ 122) ∨ (x15.toInt = 0 ∧ (x12.toInt < 97 ∨ 122 < x12.toInt)))
    (c18 : x15.toInt = 0)
    (f21 : ((G.1 a 39).toInt) = 0 ∨ ((G.1 a 39).toInt) = 1)
    (c31 : ¬ (((G.1 a 39).toInt) = 0))
    (t41 : x41.toInt = (((n0) : Nat) : Int))
    (c42 : ¬ ((l2_10.toInt - ((G1.1 a 37).toInt)) ≠ x41.toInt))
    (I54_0 : 0 ≤ l4_54.toInt ∧ l4_54.toInt ≤ (((n0) : Nat) : Int))
    (I54_1 : l3_54.toInt = 0 ∨ l3_54.toInt = 1)
    (I54_2 : (0 : Int) ≤ l4_54.toInt)
    (hm54 : 2147483648 - l4_54.toInt < (((N54) + 1 : Nat) : Int))
    (c55 : ¬ (l3_54.toInt = 0))
    (t61 : x61.toInt = (((n0) : Nat) : Int))
    (c62 : x61.toInt ≤ l4_54.toInt)
    (d_G108_a_37 : G108.1 a 37 = l2_10)
    (d_G108_a_38 : G108.1 a 38 = G.1 a 38)
    (d_G108_a_39 : G108.1 a 39 = G.1 a 39) :
    RdM (tM (G.2.1 (F a 35)) ((G.1 a 36).toInt)) ((G.1 a 36).toInt) (tkW (tM (G.2.1 (F a 35)) ((G.1 a 36).toInt)) r2 r1).2 ((G108.1 a 39).toInt) ((G108.1 a 37).toInt) ((G108.1 a 38).toInt) := by
  have he : l2_10.toInt = rn cLt (tM (G.2.1 (F a 35)) ((G.1 a 36).toInt)) ((G1.1 a 37).toInt) := by
    symm
    refine rn_eq ⟨by omega, pl, cLt_n ?_⟩
    omega
  first
    | (have nw := pw.2 (by omega)
       rw [tkW_f nw, d_G108_a_37, d_G108_a_38, d_G108_a_39]
       exact hrm.sk (tM_e _ _) oq1)
    | (obtain ⟨w1, w2, w3⟩ := pw.1 (by omega)
       have wk := rdm_w1 hrm oq1 he w1 (by rw [hwd.1]; exact w2) (fun i hi => w3 i (by rw [hwd.1] at hi; omega))
       rw [tkW_t wk.1 wk.2, d_G108_a_37, d_G108_a_38, d_G108_a_39]
       refine rdm_st (tM_e _ _) ?_ w1 (by omega)
       rw [show r1.2 + (r2.length : Int) = l2_10.toInt from ?_]
       have s2 := hrm.2.2.1 wk.1
       rw [← oq1] at s2
       have := hwd.1
       omega)
theorem v_X11_isWord_92_31 {K : Nat → Nat} {F : Nat → Nat → Nat} (a : Nat) (G : XG) (G1 : XG) (r1 : RSt) (r2 : List Int) (n0 : Nat) (p0 : Nat) (l2_10 : Int32) (l3_54 : Int32) (l4_54 : Int32) (x1 : Int32) (N10 : Nat) (x12 : Int32) (x15 : Int32) (x41 : Int32) (N54 : Nat) (x61 : Int32) (x73 : Int32) (x79 : Int32)
    (ha : K a = 13)
    (hrm : RdM (tM (G.2.1 (F a 35)) ((G.1 a 36).toInt)) ((G.1 a 36).toInt) r1 ((G.1 a 39).toInt) ((G.1 a 37).toInt) ((G.1 a 38).toInt))
    (hwd : r2.length = n0 ∧ ∀ i : Nat, i < n0 → aI (G.2.1 p0) (i : Int) = r2.getD i 0 ∧ 0 ≤ r2.getD i 0 ∧ r2.getD i 0 ≤ 127)
    (oq1 : ((G1.1 a 37).toInt) = rn cBl (tM (G.2.1 (F a 35)) ((G.1 a 36).toInt)) ((G.1 a 37).toInt))
    (pl : ∀ j : Int, (G1.1 a 37).toInt ≤ j → j < l2_10.toInt → cLt ((tM (G.2.1 (F a 35)) ((G.1 a 36).toInt)) j))
    (pw : (l3_54.toInt = 1 → ((G.1 a 39).toInt ≠ 0 ∧ l2_10.toInt - (G1.1 a 37).toInt = (n0 : Int) ∧ ∀ i : Nat, (i : Int) < l4_54.toInt → (tM (G.2.1 (F a 35)) ((G.1 a 36).toInt)) ((G1.1 a 37).toInt + (i : Int)) = r2.getD i 0)) ∧ (l3_54.toInt = 0 → ¬ (r1.1 = 1 ∧ wOk (tM (G.2.1 (F a 35)) ((G.1 a 36).toInt)) r1.2 r2)))
    (nt0 : 0 ≤ ((G.1 a 36).toInt) ∧ ((G.1 a 36).toInt) ≤ 80)
    (f13 : 3 ≤ (((n0) : Nat) : Int) ∧ (((n0) : Nat) : Int) ≤ 7)
    (z0 : 0 ≤ ((G.1 a 37).toInt) ∧ ((G.1 a 37).toInt) ≤ ((G.1 a 36).toInt))
    (t1 : -128 ≤ x1.toInt ∧ x1.toInt ≤ 127 ∧ ((0 ≤ x1.toInt ∧ (tM (G.2.1 (F a 35)) ((G.1 a 36).toInt) ((G1.1 a 37).toInt)) = x1.toInt) ∨ (x1.toInt < 0 ∧ (tM (G.2.1 (F a 35)) ((G.1 a 36).toInt) ((G1.1 a 37).toInt)) = x1.toInt + 256)) ∧ ((G.1 a 37).toInt) ≤ ((G1.1 a 37).toInt) ∧ ((G1.1 a 37).toInt) ≤ ((G.1 a 36).toInt))
    (I10_0 : ((G1.1 a 37).toInt) ≤ l2_10.toInt ∧ l2_10.toInt ≤ ((G.1 a 36).toInt))
    (hm10 : 2147483648 - l2_10.toInt < (((N10) + 1 : Nat) : Int))
    (z10 : ((0 ≤ l2_10.toInt ∧ l2_10.toInt < ((G.1 a 36).toInt)) ∧ True) ∨ (¬ (0 ≤ l2_10.toInt ∧ l2_10.toInt < ((G.1 a 36).toInt)) ∧ (tM (G.2.1 (F a 35)) ((G.1 a 36).toInt) (l2_10.toInt)) = 0))
    (t12 : -128 ≤ x12.toInt ∧ x12.toInt ≤ 127 ∧ ((0 ≤ x12.toInt ∧ (tM (G.2.1 (F a 35)) ((G.1 a 36).toInt) (l2_10.toInt)) = x12.toInt) ∨ (x12.toInt < 0 ∧ (tM (G.2.1 (F a 35)) ((G.1 a 36).toInt) (l2_10.toInt)) = x12.toInt + 256)))
    (t15 : (x15.toInt = 1 ∧ 97 ≤ x12.toInt ∧ x12.toInt ≤ 122) ∨ (x15.toInt = 0 ∧ (x12.toInt < 97 ∨ 122 < x12.toInt)))
    (c18 : x15.toInt = 0)
    (f22 : ((G.1 a 39).toInt) = 0 ∨ ((G.1 a 39).toInt) = 1)
    (c31 : ¬ (((G.1 a 39).toInt) = 0))
    (t41 : x41.toInt = (((n0) : Nat) : Int))
    (c42 : ¬ ((l2_10.toInt - ((G1.1 a 37).toInt)) ≠ x41.toInt))
    (I54_0 : 0 ≤ l4_54.toInt ∧ l4_54.toInt ≤ (((n0) : Nat) : Int))
    (I54_1 : l3_54.toInt = 0 ∨ l3_54.toInt = 1)
    (I54_2 : (0 : Int) ≤ l4_54.toInt)
    (hm54 : 2147483648 - l4_54.toInt < (((N54) + 1 : Nat) : Int))
    (c55 : ¬ (l3_54.toInt = 0))
    (t61 : x61.toInt = (((n0) : Nat) : Int))
    (c62 : ¬ (x61.toInt ≤ l4_54.toInt))
    (t73 : -128 ≤ x73.toInt ∧ x73.toInt ≤ 127 ∧ ((0 ≤ x73.toInt ∧ (tM (G.2.1 (F a 35)) ((G.1 a 36).toInt) (((G1.1 a 37).toInt) + l4_54.toInt)) = x73.toInt) ∨ (x73.toInt < 0 ∧ (tM (G.2.1 (F a 35)) ((G.1 a 36).toInt) (((G1.1 a 37).toInt) + l4_54.toInt)) = x73.toInt + 256)))
    (hv79 : x79.toInt = (aI (G.2.1 p0) (l4_54.toInt)))
    (c80 : x73.toInt ≠ x79.toInt) :
    ((0 : Int) = 1 → ((G.1 a 39).toInt ≠ 0 ∧ l2_10.toInt - (G1.1 a 37).toInt = (n0 : Int) ∧ ∀ i : Nat, (i : Int) < (l4_54.toInt + 1) → (tM (G.2.1 (F a 35)) ((G.1 a 36).toInt)) ((G1.1 a 37).toInt + (i : Int)) = r2.getD i 0)) ∧ ((0 : Int) = 0 → ¬ (r1.1 = 1 ∧ wOk (tM (G.2.1 (F a 35)) ((G.1 a 36).toInt)) r1.2 r2)) := by
  have he : l2_10.toInt = rn cLt (tM (G.2.1 (F a 35)) ((G.1 a 36).toInt)) ((G1.1 a 37).toInt) := by
    symm
    refine rn_eq ⟨by omega, pl, cLt_n ?_⟩
    omega
  have hi := hwd.2 (l4_54.toInt).toNat (by omega)
  rw [show (((l4_54.toInt).toNat : Nat) : Int) = l4_54.toInt from by omega] at hi
  obtain ⟨w1, w2, w3⟩ := pw.1 (by omega)
  refine ⟨fun h => ?_, fun h => ?_⟩
  · first
      | (exfalso; omega)
      | (refine ⟨w1, w2, fun i hj => ?_⟩
         by_cases e : (i : Int) = l4_54.toInt
         · rw [e, show i = (l4_54.toInt).toNat from by omega]
           omega
         · exact w3 i (by omega))
  · first
      | (exfalso; omega)
      | exact rdm_w0 hrm oq1 he (Or.inr (Or.inr ⟨(l4_54.toInt).toNat, by rw [hwd.1]; omega, by rw [show (((l4_54.toInt).toNat : Nat) : Int) = l4_54.toInt from by omega]; omega⟩))
theorem v_X11_isWord_92_32 {K : Nat → Nat} {F : Nat → Nat → Nat} (a : Nat) (G : XG) (G1 : XG) (r1 : RSt) (r2 : List Int) (n0 : Nat) (p0 : Nat) (l2_10 : Int32) (l3_54 : Int32) (l4_54 : Int32) (x1 : Int32) (N10 : Nat) (x12 : Int32) (x15 : Int32) (x41 : Int32) (N54 : Nat) (x61 : Int32) (x73 : Int32) (x79 : Int32)
    (ha : K a = 13)
    (hrm : RdM (tM (G.2.1 (F a 35)) ((G.1 a 36).toInt)) ((G.1 a 36).toInt) r1 ((G.1 a 39).toInt) ((G.1 a 37).toInt) ((G.1 a 38).toInt))
    (hwd : r2.length = n0 ∧ ∀ i : Nat, i < n0 → aI (G.2.1 p0) (i : Int) = r2.getD i 0 ∧ 0 ≤ r2.getD i 0 ∧ r2.getD i 0 ≤ 127)
    (oq1 : ((G1.1 a 37).toInt) = rn cBl (tM (G.2.1 (F a 35)) ((G.1 a 36).toInt)) ((G.1 a 37).toInt))
    (pl : ∀ j : Int, (G1.1 a 37).toInt ≤ j → j < l2_10.toInt → cLt ((tM (G.2.1 (F a 35)) ((G.1 a 36).toInt)) j))
    (pw : (l3_54.toInt = 1 → ((G.1 a 39).toInt ≠ 0 ∧ l2_10.toInt - (G1.1 a 37).toInt = (n0 : Int) ∧ ∀ i : Nat, (i : Int) < l4_54.toInt → (tM (G.2.1 (F a 35)) ((G.1 a 36).toInt)) ((G1.1 a 37).toInt + (i : Int)) = r2.getD i 0)) ∧ (l3_54.toInt = 0 → ¬ (r1.1 = 1 ∧ wOk (tM (G.2.1 (F a 35)) ((G.1 a 36).toInt)) r1.2 r2)))
    (nt0 : 0 ≤ ((G.1 a 36).toInt) ∧ ((G.1 a 36).toInt) ≤ 80)
    (f13 : 3 ≤ (((n0) : Nat) : Int) ∧ (((n0) : Nat) : Int) ≤ 7)
    (z0 : 0 ≤ ((G.1 a 37).toInt) ∧ ((G.1 a 37).toInt) ≤ ((G.1 a 36).toInt))
    (t1 : -128 ≤ x1.toInt ∧ x1.toInt ≤ 127 ∧ ((0 ≤ x1.toInt ∧ (tM (G.2.1 (F a 35)) ((G.1 a 36).toInt) ((G1.1 a 37).toInt)) = x1.toInt) ∨ (x1.toInt < 0 ∧ (tM (G.2.1 (F a 35)) ((G.1 a 36).toInt) ((G1.1 a 37).toInt)) = x1.toInt + 256)) ∧ ((G.1 a 37).toInt) ≤ ((G1.1 a 37).toInt) ∧ ((G1.1 a 37).toInt) ≤ ((G.1 a 36).toInt))
    (I10_0 : ((G1.1 a 37).toInt) ≤ l2_10.toInt ∧ l2_10.toInt ≤ ((G.1 a 36).toInt))
    (hm10 : 2147483648 - l2_10.toInt < (((N10) + 1 : Nat) : Int))
    (z10 : ((0 ≤ l2_10.toInt ∧ l2_10.toInt < ((G.1 a 36).toInt)) ∧ True) ∨ (¬ (0 ≤ l2_10.toInt ∧ l2_10.toInt < ((G.1 a 36).toInt)) ∧ (tM (G.2.1 (F a 35)) ((G.1 a 36).toInt) (l2_10.toInt)) = 0))
    (t12 : -128 ≤ x12.toInt ∧ x12.toInt ≤ 127 ∧ ((0 ≤ x12.toInt ∧ (tM (G.2.1 (F a 35)) ((G.1 a 36).toInt) (l2_10.toInt)) = x12.toInt) ∨ (x12.toInt < 0 ∧ (tM (G.2.1 (F a 35)) ((G.1 a 36).toInt) (l2_10.toInt)) = x12.toInt + 256)))
    (t15 : (x15.toInt = 1 ∧ 97 ≤ x12.toInt ∧ x12.toInt ≤ 122) ∨ (x15.toInt = 0 ∧ (x12.toInt < 97 ∨ 122 < x12.toInt)))
    (c18 : x15.toInt = 0)
    (f22 : ((G.1 a 39).toInt) = 0 ∨ ((G.1 a 39).toInt) = 1)
    (c31 : ¬ (((G.1 a 39).toInt) = 0))
    (t41 : x41.toInt = (((n0) : Nat) : Int))
    (c42 : ¬ ((l2_10.toInt - ((G1.1 a 37).toInt)) ≠ x41.toInt))
    (I54_0 : 0 ≤ l4_54.toInt ∧ l4_54.toInt ≤ (((n0) : Nat) : Int))
    (I54_1 : l3_54.toInt = 0 ∨ l3_54.toInt = 1)
    (I54_2 : (0 : Int) ≤ l4_54.toInt)
    (hm54 : 2147483648 - l4_54.toInt < (((N54) + 1 : Nat) : Int))
    (c55 : ¬ (l3_54.toInt = 0))
    (t61 : x61.toInt = (((n0) : Nat) : Int))
    (c62 : ¬ (x61.toInt ≤ l4_54.toInt))
    (t73 : -128 ≤ x73.toInt ∧ x73.toInt ≤ 127 ∧ ((0 ≤ x73.toInt ∧ (tM (G.2.1 (F a 35)) ((G.1 a 36).toInt) (((G1.1 a 37).toInt) + l4_54.toInt)) = x73.toInt) ∨ (x73.toInt < 0 ∧ (tM (G.2.1 (F a 35)) ((G.1 a 36).toInt) (((G1.1 a 37).toInt) + l4_54.toInt)) = x73.toInt + 256)))
    (hv79 : x79.toInt = (aI (G.2.1 p0) (l4_54.toInt)))
    (c80 : ¬ (x73.toInt ≠ x79.toInt)) :
    ((1 : Int) = 1 → ((G.1 a 39).toInt ≠ 0 ∧ l2_10.toInt - (G1.1 a 37).toInt = (n0 : Int) ∧ ∀ i : Nat, (i : Int) < (l4_54.toInt + 1) → (tM (G.2.1 (F a 35)) ((G.1 a 36).toInt)) ((G1.1 a 37).toInt + (i : Int)) = r2.getD i 0)) ∧ ((1 : Int) = 0 → ¬ (r1.1 = 1 ∧ wOk (tM (G.2.1 (F a 35)) ((G.1 a 36).toInt)) r1.2 r2)) := by
  have he : l2_10.toInt = rn cLt (tM (G.2.1 (F a 35)) ((G.1 a 36).toInt)) ((G1.1 a 37).toInt) := by
    symm
    refine rn_eq ⟨by omega, pl, cLt_n ?_⟩
    omega
  have hi := hwd.2 (l4_54.toInt).toNat (by omega)
  rw [show (((l4_54.toInt).toNat : Nat) : Int) = l4_54.toInt from by omega] at hi
  obtain ⟨w1, w2, w3⟩ := pw.1 (by omega)
  refine ⟨fun h => ?_, fun h => ?_⟩
  · first
      | (exfalso; omega)
      | (refine ⟨w1, w2, fun i hj => ?_⟩
         by_cases e : (i : Int) = l4_54.toInt
         · rw [e, show i = (l4_54.toInt).toNat from by omega]
           omega
         · exact w3 i (by omega))
  · first
      | (exfalso; omega)
      | exact rdm_w0 hrm oq1 he (Or.inr (Or.inr ⟨(l4_54.toInt).toNat, by rw [hwd.1]; omega, by rw [show (((l4_54.toInt).toNat : Nat) : Int) = l4_54.toInt from by omega]; omega⟩))
theorem v_X11_isWord_52_33 {K : Nat → Nat} {F : Nat → Nat → Nat} (a : Nat) (G : XG) (G1 : XG) (r1 : RSt) (r2 : List Int) (n0 : Nat) (p0 : Nat) (l2_10 : Int32) (x1 : Int32) (N10 : Nat) (x12 : Int32) (x15 : Int32) (x41 : Int32)
    (ha : K a = 13)
    (hrm : RdM (tM (G.2.1 (F a 35)) ((G.1 a 36).toInt)) ((G.1 a 36).toInt) r1 ((G.1 a 39).toInt) ((G.1 a 37).toInt) ((G.1 a 38).toInt))
    (hwd : r2.length = n0 ∧ ∀ i : Nat, i < n0 → aI (G.2.1 p0) (i : Int) = r2.getD i 0 ∧ 0 ≤ r2.getD i 0 ∧ r2.getD i 0 ≤ 127)
    (oq1 : ((G1.1 a 37).toInt) = rn cBl (tM (G.2.1 (F a 35)) ((G.1 a 36).toInt)) ((G.1 a 37).toInt))
    (pl : ∀ j : Int, (G1.1 a 37).toInt ≤ j → j < l2_10.toInt → cLt ((tM (G.2.1 (F a 35)) ((G.1 a 36).toInt)) j))
    (nt0 : 0 ≤ ((G.1 a 36).toInt) ∧ ((G.1 a 36).toInt) ≤ 80)
    (f10 : 3 ≤ (((n0) : Nat) : Int) ∧ (((n0) : Nat) : Int) ≤ 7)
    (z0 : 0 ≤ ((G.1 a 37).toInt) ∧ ((G.1 a 37).toInt) ≤ ((G.1 a 36).toInt))
    (t1 : -128 ≤ x1.toInt ∧ x1.toInt ≤ 127 ∧ ((0 ≤ x1.toInt ∧ (tM (G.2.1 (F a 35)) ((G.1 a 36).toInt) ((G1.1 a 37).toInt)) = x1.toInt) ∨ (x1.toInt < 0 ∧ (tM (G.2.1 (F a 35)) ((G.1 a 36).toInt) ((G1.1 a 37).toInt)) = x1.toInt + 256)) ∧ ((G.1 a 37).toInt) ≤ ((G1.1 a 37).toInt) ∧ ((G1.1 a 37).toInt) ≤ ((G.1 a 36).toInt))
    (I10_0 : ((G1.1 a 37).toInt) ≤ l2_10.toInt ∧ l2_10.toInt ≤ ((G.1 a 36).toInt))
    (hm10 : 2147483648 - l2_10.toInt < (((N10) + 1 : Nat) : Int))
    (z10 : ((0 ≤ l2_10.toInt ∧ l2_10.toInt < ((G.1 a 36).toInt)) ∧ True) ∨ (¬ (0 ≤ l2_10.toInt ∧ l2_10.toInt < ((G.1 a 36).toInt)) ∧ (tM (G.2.1 (F a 35)) ((G.1 a 36).toInt) (l2_10.toInt)) = 0))
    (t12 : -128 ≤ x12.toInt ∧ x12.toInt ≤ 127 ∧ ((0 ≤ x12.toInt ∧ (tM (G.2.1 (F a 35)) ((G.1 a 36).toInt) (l2_10.toInt)) = x12.toInt) ∨ (x12.toInt < 0 ∧ (tM (G.2.1 (F a 35)) ((G.1 a 36).toInt) (l2_10.toInt)) = x12.toInt + 256)))
    (t15 : (x15.toInt = 1 ∧ 97 ≤ x12.toInt ∧ x12.toInt ≤ 122) ∨ (x15.toInt = 0 ∧ (x12.toInt < 97 ∨ 122 < x12.toInt)))
    (c18 : x15.toInt = 0)
    (f19 : ((G.1 a 39).toInt) = 0 ∨ ((G.1 a 39).toInt) = 1)
    (c31 : ¬ (((G.1 a 39).toInt) = 0))
    (t41 : x41.toInt = (((n0) : Nat) : Int))
    (c42 : ¬ ((l2_10.toInt - ((G1.1 a 37).toInt)) ≠ x41.toInt)) :
    ((1 : Int) = 1 → ((G.1 a 39).toInt ≠ 0 ∧ l2_10.toInt - (G1.1 a 37).toInt = (n0 : Int) ∧ ∀ i : Nat, (i : Int) < (0 : Int) → (tM (G.2.1 (F a 35)) ((G.1 a 36).toInt)) ((G1.1 a 37).toInt + (i : Int)) = r2.getD i 0)) ∧ ((1 : Int) = 0 → ¬ (r1.1 = 1 ∧ wOk (tM (G.2.1 (F a 35)) ((G.1 a 36).toInt)) r1.2 r2)) := by
  have he : l2_10.toInt = rn cLt (tM (G.2.1 (F a 35)) ((G.1 a 36).toInt)) ((G1.1 a 37).toInt) := by
    symm
    refine rn_eq ⟨by omega, pl, cLt_n ?_⟩
    omega
  refine ⟨fun h => ?_, fun h => ?_⟩
  · first
      | (exfalso; omega)
      | exact ⟨by omega, by omega, fun i hi => by omega⟩
  · first
      | (exfalso; omega)
      | exact rdm_w0 hrm oq1 he (Or.inl (by omega))
      | exact rdm_w0 hrm oq1 he (Or.inr (Or.inl (by rw [hwd.1]; omega)))
theorem v_X11_isWord_24_34 {K : Nat → Nat} {F : Nat → Nat → Nat} (a : Nat) (G : XG) (G1 : XG) (r2 : List Int) (n0 : Nat) (p0 : Nat) (l2_10 : Int32) (x1 : Int32) (N10 : Nat) (x12 : Int32) (x15 : Int32)
    (ha : K a = 13)
    (hwd : r2.length = n0 ∧ ∀ i : Nat, i < n0 → aI (G.2.1 p0) (i : Int) = r2.getD i 0 ∧ 0 ≤ r2.getD i 0 ∧ r2.getD i 0 ≤ 127)
    (oq1 : ((G1.1 a 37).toInt) = rn cBl (tM (G.2.1 (F a 35)) ((G.1 a 36).toInt)) ((G.1 a 37).toInt))
    (pl : ∀ j : Int, (G1.1 a 37).toInt ≤ j → j < l2_10.toInt → cLt ((tM (G.2.1 (F a 35)) ((G.1 a 36).toInt)) j))
    (nt0 : 0 ≤ ((G.1 a 36).toInt) ∧ ((G.1 a 36).toInt) ≤ 80)
    (f10 : 3 ≤ (((n0) : Nat) : Int) ∧ (((n0) : Nat) : Int) ≤ 7)
    (z0 : 0 ≤ ((G.1 a 37).toInt) ∧ ((G.1 a 37).toInt) ≤ ((G.1 a 36).toInt))
    (t1 : -128 ≤ x1.toInt ∧ x1.toInt ≤ 127 ∧ ((0 ≤ x1.toInt ∧ (tM (G.2.1 (F a 35)) ((G.1 a 36).toInt) ((G1.1 a 37).toInt)) = x1.toInt) ∨ (x1.toInt < 0 ∧ (tM (G.2.1 (F a 35)) ((G.1 a 36).toInt) ((G1.1 a 37).toInt)) = x1.toInt + 256)) ∧ ((G.1 a 37).toInt) ≤ ((G1.1 a 37).toInt) ∧ ((G1.1 a 37).toInt) ≤ ((G.1 a 36).toInt))
    (I10_0 : ((G1.1 a 37).toInt) ≤ l2_10.toInt ∧ l2_10.toInt ≤ ((G.1 a 36).toInt))
    (hm10 : 2147483648 - l2_10.toInt < (((N10) + 1 : Nat) : Int))
    (z10 : ((0 ≤ l2_10.toInt ∧ l2_10.toInt < ((G.1 a 36).toInt)) ∧ True) ∨ (¬ (0 ≤ l2_10.toInt ∧ l2_10.toInt < ((G.1 a 36).toInt)) ∧ (tM (G.2.1 (F a 35)) ((G.1 a 36).toInt) (l2_10.toInt)) = 0))
    (t12 : -128 ≤ x12.toInt ∧ x12.toInt ≤ 127 ∧ ((0 ≤ x12.toInt ∧ (tM (G.2.1 (F a 35)) ((G.1 a 36).toInt) (l2_10.toInt)) = x12.toInt) ∨ (x12.toInt < 0 ∧ (tM (G.2.1 (F a 35)) ((G.1 a 36).toInt) (l2_10.toInt)) = x12.toInt + 256)))
    (t15 : (x15.toInt = 1 ∧ 97 ≤ x12.toInt ∧ x12.toInt ≤ 122) ∨ (x15.toInt = 0 ∧ (x12.toInt < 97 ∨ 122 < x12.toInt)))
    (c18 : ¬ (x15.toInt = 0)) :
    ∀ j : Int, (G1.1 a 37).toInt ≤ j → j < (l2_10.toInt + 1) → cLt ((tM (G.2.1 (F a 35)) ((G.1 a 36).toInt)) j) := by
  intro j h1 h2
  by_cases e : j = l2_10.toInt
  · rw [e]; unfold cLt; omega
  · exact pl j h1 (by omega)
theorem v_X11_isWord_9_35 {K : Nat → Nat} {F : Nat → Nat → Nat} (a : Nat) (G : XG) (G1 : XG) (r2 : List Int) (n0 : Nat) (p0 : Nat) (x1 : Int32)
    (ha : K a = 13)
    (hwd : r2.length = n0 ∧ ∀ i : Nat, i < n0 → aI (G.2.1 p0) (i : Int) = r2.getD i 0 ∧ 0 ≤ r2.getD i 0 ∧ r2.getD i 0 ≤ 127)
    (oq1 : ((G1.1 a 37).toInt) = rn cBl (tM (G.2.1 (F a 35)) ((G.1 a 36).toInt)) ((G.1 a 37).toInt))
    (nt0 : 0 ≤ ((G.1 a 36).toInt) ∧ ((G.1 a 36).toInt) ≤ 80)
    (f8 : 3 ≤ (((n0) : Nat) : Int) ∧ (((n0) : Nat) : Int) ≤ 7)
    (z0 : 0 ≤ ((G.1 a 37).toInt) ∧ ((G.1 a 37).toInt) ≤ ((G.1 a 36).toInt))
    (t1 : -128 ≤ x1.toInt ∧ x1.toInt ≤ 127 ∧ ((0 ≤ x1.toInt ∧ (tM (G.2.1 (F a 35)) ((G.1 a 36).toInt) ((G1.1 a 37).toInt)) = x1.toInt) ∨ (x1.toInt < 0 ∧ (tM (G.2.1 (F a 35)) ((G.1 a 36).toInt) ((G1.1 a 37).toInt)) = x1.toInt + 256)) ∧ ((G.1 a 37).toInt) ≤ ((G1.1 a 37).toInt) ∧ ((G1.1 a 37).toInt) ≤ ((G.1 a 36).toInt)) :
    ∀ j : Int, (G1.1 a 37).toInt ≤ j → j < ((G1.1 a 37).toInt) → cLt ((tM (G.2.1 (F a 35)) ((G.1 a 36).toInt)) j) := by
  intro j h1 h2; exact absurd h1 (by omega)
