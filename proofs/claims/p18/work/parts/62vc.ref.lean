theorem v_X11_number_151_13 {K : Nat → Nat} {F : Nat → Nat → Nat} (a : Nat) (G : XG) (G10 : XG) (G147 : XG) (r1 : RSt) (l5_55 : Int32) (x10 : Int32) (l7_55 : Int32) (l6_55 : Int32) (N55 : Nat) (x58 : Int32) (x61 : Int32) (p0 : Int32) (p1 : Int32)
    (ha : K a = 13)
    (hrm : RdM (tM (G.2.1 (F a 35)) ((G.1 a 36).toInt)) ((G.1 a 36).toInt) r1 ((G.1 a 39).toInt) ((G.1 a 37).toInt) ((G.1 a 38).toInt))
    (oq10 : ((G10.1 a 37).toInt) = rn cBl (tM (G.2.1 (F a 35)) ((G.1 a 36).toInt)) ((G.1 a 37).toInt))
    (pd : ∀ j : Int, nS (tM (G.2.1 (F a 35)) ((G.1 a 36).toInt)) ((G10.1 a 37).toInt) ≤ j → j < l5_55.toInt → cDg ((tM (G.2.1 (F a 35)) ((G.1 a 36).toInt)) j))
    (nt0 : 0 ≤ ((G.1 a 36).toInt) ∧ ((G.1 a 36).toInt) ≤ 80)
    (z0 : 0 ≤ ((G.1 a 37).toInt) ∧ ((G.1 a 37).toInt) ≤ ((G.1 a 36).toInt))
    (f11 : ((G.1 a 39).toInt) = 0 ∨ ((G.1 a 39).toInt) = 1)
    (c4 : ((G.1 a 39).toInt) ≠ 0)
    (t10 : -128 ≤ x10.toInt ∧ x10.toInt ≤ 127 ∧ ((0 ≤ x10.toInt ∧ (tM (G.2.1 (F a 35)) ((G.1 a 36).toInt) ((G10.1 a 37).toInt)) = x10.toInt) ∨ (x10.toInt < 0 ∧ (tM (G.2.1 (F a 35)) ((G.1 a 36).toInt) ((G10.1 a 37).toInt)) = x10.toInt + 256)) ∧ ((G.1 a 37).toInt) ≤ ((G10.1 a 37).toInt) ∧ ((G10.1 a 37).toInt) ≤ ((G.1 a 36).toInt))
    (z13 : ((tM (G.2.1 (F a 35)) ((G.1 a 36).toInt) ((G10.1 a 37).toInt)) = 45 ∧ (nS (tM (G.2.1 (F a 35)) ((G.1 a 36).toInt)) ((G10.1 a 37).toInt)) = ((G10.1 a 37).toInt) + 1) ∨ ((tM (G.2.1 (F a 35)) ((G.1 a 36).toInt) ((G10.1 a 37).toInt)) ≠ 45 ∧ (nS (tM (G.2.1 (F a 35)) ((G.1 a 36).toInt)) ((G10.1 a 37).toInt)) = ((G10.1 a 37).toInt)))
    (z13a : (nv (tM (G.2.1 (F a 35)) ((G.1 a 36).toInt)) (nS (tM (G.2.1 (F a 35)) ((G.1 a 36).toInt)) ((G10.1 a 37).toInt)) 0) = 0)
    (c15 : ¬ (x10.toInt ≠ (45 : Int)))
    (I55_0 : l5_55.toInt = (nS (tM (G.2.1 (F a 35)) ((G.1 a 36).toInt)) ((G10.1 a 37).toInt)) + l7_55.toInt)
    (I55_1 : 0 ≤ l7_55.toInt ∧ l5_55.toInt ≤ ((G.1 a 36).toInt) + 1)
    (I55_2 : (l7_55.toInt = 0 ∧ l6_55.toInt = 0) ∨ (l7_55.toInt = 1 ∧ 0 ≤ l6_55.toInt ∧ l6_55.toInt ≤ 9) ∨ (l7_55.toInt = 2 ∧ 0 ≤ l6_55.toInt ∧ l6_55.toInt ≤ 99) ∨ (l7_55.toInt = 3 ∧ 0 ≤ l6_55.toInt ∧ l6_55.toInt ≤ 999) ∨ (l7_55.toInt = 4 ∧ 0 ≤ l6_55.toInt ∧ l6_55.toInt ≤ 9999) ∨ (5 ≤ l7_55.toInt ∧ 0 ≤ l6_55.toInt ∧ l6_55.toInt ≤ 999999))
    (I55_3 : l7_55.toInt ≤ 4 → l6_55.toInt = (nv (tM (G.2.1 (F a 35)) ((G.1 a 36).toInt)) (nS (tM (G.2.1 (F a 35)) ((G.1 a 36).toInt)) ((G10.1 a 37).toInt)) (l7_55.toInt)))
    (I55_4 : l5_55.toInt ≤ ((G.1 a 36).toInt) ∨ l7_55.toInt = 0)
    (hm55 : 200 - l5_55.toInt < (((N55) + 1 : Nat) : Int))
    (z55 : ((0 ≤ l5_55.toInt ∧ l5_55.toInt < ((G.1 a 36).toInt)) ∧ True) ∨ (¬ (0 ≤ l5_55.toInt ∧ l5_55.toInt < ((G.1 a 36).toInt)) ∧ (tM (G.2.1 (F a 35)) ((G.1 a 36).toInt) (l5_55.toInt)) = 0))
    (t58 : -128 ≤ x58.toInt ∧ x58.toInt ≤ 127 ∧ ((0 ≤ x58.toInt ∧ (tM (G.2.1 (F a 35)) ((G.1 a 36).toInt) (l5_55.toInt)) = x58.toInt) ∨ (x58.toInt < 0 ∧ (tM (G.2.1 (F a 35)) ((G.1 a 36).toInt) (l5_55.toInt)) = x58.toInt + 256)))
    (t61 : (x61.toInt = 1 ∧ 48 ≤ x58.toInt ∧ x58.toInt ≤ 57) ∨ (x61.toInt = 0 ∧ (x58.toInt < 48 ∨ 57 < x58.toInt)))
    (c64 : x61.toInt = 0)
    (c122 : l7_55.toInt = 0)
    (t147 : ((G147.1 a 39).toInt) = 0 ∧ (((G.1 a 39).toInt) ≠ 0 → ((G147.1 a 38).toInt) = ((G10.1 a 37).toInt)) ∧ (((G.1 a 39).toInt) = 0 → ((G147.1 a 38).toInt) = ((G.1 a 38).toInt)))
    (d_G147_a_37 : G147.1 a 37 = G10.1 a 37) :
    RdM (tM (G.2.1 (F a 35)) ((G.1 a 36).toInt)) ((G.1 a 36).toInt) (tkN (tM (G.2.1 (F a 35)) ((G.1 a 36).toInt)) p0.toInt p1.toInt r1).2 ((G147.1 a 39).toInt) ((G147.1 a 37).toInt) ((G147.1 a 38).toInt) := by
  have hv6 := num_b I55_2
  clear I55_2 hm55
  have hE : nE (tM (G.2.1 (F a 35)) ((G.1 a 36).toInt)) ((G10.1 a 37).toInt) = l5_55.toInt := by
    unfold nE
    refine rn_eq ⟨by omega, pd, cDg_n ?_⟩
    omega
  have nf := nS_f (tM (G.2.1 (F a 35)) ((G.1 a 36).toInt)) ((G10.1 a 37).toInt)
  have hs2 : r1.1 = 1 ∧ r1.2 = (G10.1 a 37).toInt := by
    have h1 := hrm.2.1.mp (by omega)
    exact ⟨h1, by rw [oq10]; exact hrm.2.2.1 h1⟩
  have hk : l7_55.toInt = nE (tM (G.2.1 (F a 35)) ((G.1 a 36).toInt)) ((G10.1 a 37).toInt) - nS (tM (G.2.1 (F a 35)) ((G.1 a 36).toInt)) ((G10.1 a 37).toInt) := by omega
  have nb : ¬ (r1.1 = 1 ∧ nOk (tM (G.2.1 (F a 35)) ((G.1 a 36).toInt)) r1.2 ∧ p0.toInt ≤ nVl (tM (G.2.1 (F a 35)) ((G.1 a 36).toInt)) r1.2 ∧ nVl (tM (G.2.1 (F a 35)) ((G.1 a 36).toInt)) r1.2 ≤ p1.toInt) := by
    rintro ⟨h1, h2, h3, h4⟩
    rw [hs2.2] at h2 h3 h4
    have h5 := h2.1
    have h6 := h2.2
    rw [hk] at I55_3
    omega
  rw [tkN_f nb, hs2.2, d_G147_a_37]
  exact rdm_bad rfl (by omega) (by omega) (by omega) (by omega)
theorem v_X11_number_151_14 {K : Nat → Nat} {F : Nat → Nat → Nat} (a : Nat) (G : XG) (G10 : XG) (G147 : XG) (r1 : RSt) (l5_55 : Int32) (x10 : Int32) (l7_55 : Int32) (l6_55 : Int32) (N55 : Nat) (x58 : Int32) (x61 : Int32) (p0 : Int32) (p1 : Int32)
    (ha : K a = 13)
    (hrm : RdM (tM (G.2.1 (F a 35)) ((G.1 a 36).toInt)) ((G.1 a 36).toInt) r1 ((G.1 a 39).toInt) ((G.1 a 37).toInt) ((G.1 a 38).toInt))
    (oq10 : ((G10.1 a 37).toInt) = rn cBl (tM (G.2.1 (F a 35)) ((G.1 a 36).toInt)) ((G.1 a 37).toInt))
    (pd : ∀ j : Int, nS (tM (G.2.1 (F a 35)) ((G.1 a 36).toInt)) ((G10.1 a 37).toInt) ≤ j → j < l5_55.toInt → cDg ((tM (G.2.1 (F a 35)) ((G.1 a 36).toInt)) j))
    (nt0 : 0 ≤ ((G.1 a 36).toInt) ∧ ((G.1 a 36).toInt) ≤ 80)
    (z0 : 0 ≤ ((G.1 a 37).toInt) ∧ ((G.1 a 37).toInt) ≤ ((G.1 a 36).toInt))
    (f11 : ((G.1 a 39).toInt) = 0 ∨ ((G.1 a 39).toInt) = 1)
    (c4 : ((G.1 a 39).toInt) ≠ 0)
    (t10 : -128 ≤ x10.toInt ∧ x10.toInt ≤ 127 ∧ ((0 ≤ x10.toInt ∧ (tM (G.2.1 (F a 35)) ((G.1 a 36).toInt) ((G10.1 a 37).toInt)) = x10.toInt) ∨ (x10.toInt < 0 ∧ (tM (G.2.1 (F a 35)) ((G.1 a 36).toInt) ((G10.1 a 37).toInt)) = x10.toInt + 256)) ∧ ((G.1 a 37).toInt) ≤ ((G10.1 a 37).toInt) ∧ ((G10.1 a 37).toInt) ≤ ((G.1 a 36).toInt))
    (z13 : ((tM (G.2.1 (F a 35)) ((G.1 a 36).toInt) ((G10.1 a 37).toInt)) = 45 ∧ (nS (tM (G.2.1 (F a 35)) ((G.1 a 36).toInt)) ((G10.1 a 37).toInt)) = ((G10.1 a 37).toInt) + 1) ∨ ((tM (G.2.1 (F a 35)) ((G.1 a 36).toInt) ((G10.1 a 37).toInt)) ≠ 45 ∧ (nS (tM (G.2.1 (F a 35)) ((G.1 a 36).toInt)) ((G10.1 a 37).toInt)) = ((G10.1 a 37).toInt)))
    (z13a : (nv (tM (G.2.1 (F a 35)) ((G.1 a 36).toInt)) (nS (tM (G.2.1 (F a 35)) ((G.1 a 36).toInt)) ((G10.1 a 37).toInt)) 0) = 0)
    (c15 : ¬ (x10.toInt ≠ (45 : Int)))
    (I55_0 : l5_55.toInt = (nS (tM (G.2.1 (F a 35)) ((G.1 a 36).toInt)) ((G10.1 a 37).toInt)) + l7_55.toInt)
    (I55_1 : 0 ≤ l7_55.toInt ∧ l5_55.toInt ≤ ((G.1 a 36).toInt) + 1)
    (I55_2 : (l7_55.toInt = 0 ∧ l6_55.toInt = 0) ∨ (l7_55.toInt = 1 ∧ 0 ≤ l6_55.toInt ∧ l6_55.toInt ≤ 9) ∨ (l7_55.toInt = 2 ∧ 0 ≤ l6_55.toInt ∧ l6_55.toInt ≤ 99) ∨ (l7_55.toInt = 3 ∧ 0 ≤ l6_55.toInt ∧ l6_55.toInt ≤ 999) ∨ (l7_55.toInt = 4 ∧ 0 ≤ l6_55.toInt ∧ l6_55.toInt ≤ 9999) ∨ (5 ≤ l7_55.toInt ∧ 0 ≤ l6_55.toInt ∧ l6_55.toInt ≤ 999999))
    (I55_3 : l7_55.toInt ≤ 4 → l6_55.toInt = (nv (tM (G.2.1 (F a 35)) ((G.1 a 36).toInt)) (nS (tM (G.2.1 (F a 35)) ((G.1 a 36).toInt)) ((G10.1 a 37).toInt)) (l7_55.toInt)))
    (I55_4 : l5_55.toInt ≤ ((G.1 a 36).toInt) ∨ l7_55.toInt = 0)
    (hm55 : 200 - l5_55.toInt < (((N55) + 1 : Nat) : Int))
    (z55 : ((0 ≤ l5_55.toInt ∧ l5_55.toInt < ((G.1 a 36).toInt)) ∧ True) ∨ (¬ (0 ≤ l5_55.toInt ∧ l5_55.toInt < ((G.1 a 36).toInt)) ∧ (tM (G.2.1 (F a 35)) ((G.1 a 36).toInt) (l5_55.toInt)) = 0))
    (t58 : -128 ≤ x58.toInt ∧ x58.toInt ≤ 127 ∧ ((0 ≤ x58.toInt ∧ (tM (G.2.1 (F a 35)) ((G.1 a 36).toInt) (l5_55.toInt)) = x58.toInt) ∨ (x58.toInt < 0 ∧ (tM (G.2.1 (F a 35)) ((G.1 a 36).toInt) (l5_55.toInt)) = x58.toInt + 256)))
    (t61 : (x61.toInt = 1 ∧ 48 ≤ x58.toInt ∧ x58.toInt ≤ 57) ∨ (x61.toInt = 0 ∧ (x58.toInt < 48 ∨ 57 < x58.toInt)))
    (c64 : x61.toInt = 0)
    (c122 : ¬ (l7_55.toInt = 0))
    (c128 : (4 : Int) < l7_55.toInt)
    (t147 : ((G147.1 a 39).toInt) = 0 ∧ (((G.1 a 39).toInt) ≠ 0 → ((G147.1 a 38).toInt) = ((G10.1 a 37).toInt)) ∧ (((G.1 a 39).toInt) = 0 → ((G147.1 a 38).toInt) = ((G.1 a 38).toInt))) :
    (0 : Int) = (tkN (tM (G.2.1 (F a 35)) ((G.1 a 36).toInt)) p0.toInt p1.toInt r1).1 := by
  have hv6 := num_b I55_2
  clear I55_2 hm55
  have hE : nE (tM (G.2.1 (F a 35)) ((G.1 a 36).toInt)) ((G10.1 a 37).toInt) = l5_55.toInt := by
    unfold nE
    refine rn_eq ⟨by omega, pd, cDg_n ?_⟩
    omega
  have nf := nS_f (tM (G.2.1 (F a 35)) ((G.1 a 36).toInt)) ((G10.1 a 37).toInt)
  have hs2 : r1.1 = 1 ∧ r1.2 = (G10.1 a 37).toInt := by
    have h1 := hrm.2.1.mp (by omega)
    exact ⟨h1, by rw [oq10]; exact hrm.2.2.1 h1⟩
  have hk : l7_55.toInt = nE (tM (G.2.1 (F a 35)) ((G.1 a 36).toInt)) ((G10.1 a 37).toInt) - nS (tM (G.2.1 (F a 35)) ((G.1 a 36).toInt)) ((G10.1 a 37).toInt) := by omega
  have nb : ¬ (r1.1 = 1 ∧ nOk (tM (G.2.1 (F a 35)) ((G.1 a 36).toInt)) r1.2 ∧ p0.toInt ≤ nVl (tM (G.2.1 (F a 35)) ((G.1 a 36).toInt)) r1.2 ∧ nVl (tM (G.2.1 (F a 35)) ((G.1 a 36).toInt)) r1.2 ≤ p1.toInt) := by
    rintro ⟨h1, h2, h3, h4⟩
    rw [hs2.2] at h2 h3 h4
    have h5 := h2.1
    have h6 := h2.2
    rw [hk] at I55_3
    omega
  rw [tkN_f nb]
theorem v_X11_number_151_15 {K : Nat → Nat} {F : Nat → Nat → Nat} (a : Nat) (G : XG) (G10 : XG) (G147 : XG) (r1 : RSt) (l5_55 : Int32) (x10 : Int32) (l7_55 : Int32) (l6_55 : Int32) (N55 : Nat) (x58 : Int32) (x61 : Int32) (p0 : Int32) (p1 : Int32)
    (ha : K a = 13)
    (hrm : RdM (tM (G.2.1 (F a 35)) ((G.1 a 36).toInt)) ((G.1 a 36).toInt) r1 ((G.1 a 39).toInt) ((G.1 a 37).toInt) ((G.1 a 38).toInt))
    (oq10 : ((G10.1 a 37).toInt) = rn cBl (tM (G.2.1 (F a 35)) ((G.1 a 36).toInt)) ((G.1 a 37).toInt))
    (pd : ∀ j : Int, nS (tM (G.2.1 (F a 35)) ((G.1 a 36).toInt)) ((G10.1 a 37).toInt) ≤ j → j < l5_55.toInt → cDg ((tM (G.2.1 (F a 35)) ((G.1 a 36).toInt)) j))
    (nt0 : 0 ≤ ((G.1 a 36).toInt) ∧ ((G.1 a 36).toInt) ≤ 80)
    (z0 : 0 ≤ ((G.1 a 37).toInt) ∧ ((G.1 a 37).toInt) ≤ ((G.1 a 36).toInt))
    (f11 : ((G.1 a 39).toInt) = 0 ∨ ((G.1 a 39).toInt) = 1)
    (c4 : ((G.1 a 39).toInt) ≠ 0)
    (t10 : -128 ≤ x10.toInt ∧ x10.toInt ≤ 127 ∧ ((0 ≤ x10.toInt ∧ (tM (G.2.1 (F a 35)) ((G.1 a 36).toInt) ((G10.1 a 37).toInt)) = x10.toInt) ∨ (x10.toInt < 0 ∧ (tM (G.2.1 (F a 35)) ((G.1 a 36).toInt) ((G10.1 a 37).toInt)) = x10.toInt + 256)) ∧ ((G.1 a 37).toInt) ≤ ((G10.1 a 37).toInt) ∧ ((G10.1 a 37).toInt) ≤ ((G.1 a 36).toInt))
    (z13 : ((tM (G.2.1 (F a 35)) ((G.1 a 36).toInt) ((G10.1 a 37).toInt)) = 45 ∧ (nS (tM (G.2.1 (F a 35)) ((G.1 a 36).toInt)) ((G10.1 a 37).toInt)) = ((G10.1 a 37).toInt) + 1) ∨ ((tM (G.2.1 (F a 35)) ((G.1 a 36).toInt) ((G10.1 a 37).toInt)) ≠ 45 ∧ (nS (tM (G.2.1 (F a 35)) ((G.1 a 36).toInt)) ((G10.1 a 37).toInt)) = ((G10.1 a 37).toInt)))
    (z13a : (nv (tM (G.2.1 (F a 35)) ((G.1 a 36).toInt)) (nS (tM (G.2.1 (F a 35)) ((G.1 a 36).toInt)) ((G10.1 a 37).toInt)) 0) = 0)
    (c15 : ¬ (x10.toInt ≠ (45 : Int)))
    (I55_0 : l5_55.toInt = (nS (tM (G.2.1 (F a 35)) ((G.1 a 36).toInt)) ((G10.1 a 37).toInt)) + l7_55.toInt)
    (I55_1 : 0 ≤ l7_55.toInt ∧ l5_55.toInt ≤ ((G.1 a 36).toInt) + 1)
    (I55_2 : (l7_55.toInt = 0 ∧ l6_55.toInt = 0) ∨ (l7_55.toInt = 1 ∧ 0 ≤ l6_55.toInt ∧ l6_55.toInt ≤ 9) ∨ (l7_55.toInt = 2 ∧ 0 ≤ l6_55.toInt ∧ l6_55.toInt ≤ 99) ∨ (l7_55.toInt = 3 ∧ 0 ≤ l6_55.toInt ∧ l6_55.toInt ≤ 999) ∨ (l7_55.toInt = 4 ∧ 0 ≤ l6_55.toInt ∧ l6_55.toInt ≤ 9999) ∨ (5 ≤ l7_55.toInt ∧ 0 ≤ l6_55.toInt ∧ l6_55.toInt ≤ 999999))
    (I55_3 : l7_55.toInt ≤ 4 → l6_55.toInt = (nv (tM (G.2.1 (F a 35)) ((G.1 a 36).toInt)) (nS (tM (G.2.1 (F a 35)) ((G.1 a 36).toInt)) ((G10.1 a 37).toInt)) (l7_55.toInt)))
    (I55_4 : l5_55.toInt ≤ ((G.1 a 36).toInt) ∨ l7_55.toInt = 0)
    (hm55 : 200 - l5_55.toInt < (((N55) + 1 : Nat) : Int))
    (z55 : ((0 ≤ l5_55.toInt ∧ l5_55.toInt < ((G.1 a 36).toInt)) ∧ True) ∨ (¬ (0 ≤ l5_55.toInt ∧ l5_55.toInt < ((G.1 a 36).toInt)) ∧ (tM (G.2.1 (F a 35)) ((G.1 a 36).toInt) (l5_55.toInt)) = 0))
    (t58 : -128 ≤ x58.toInt ∧ x58.toInt ≤ 127 ∧ ((0 ≤ x58.toInt ∧ (tM (G.2.1 (F a 35)) ((G.1 a 36).toInt) (l5_55.toInt)) = x58.toInt) ∨ (x58.toInt < 0 ∧ (tM (G.2.1 (F a 35)) ((G.1 a 36).toInt) (l5_55.toInt)) = x58.toInt + 256)))
    (t61 : (x61.toInt = 1 ∧ 48 ≤ x58.toInt ∧ x58.toInt ≤ 57) ∨ (x61.toInt = 0 ∧ (x58.toInt < 48 ∨ 57 < x58.toInt)))
    (c64 : x61.toInt = 0)
    (c122 : ¬ (l7_55.toInt = 0))
    (c128 : (4 : Int) < l7_55.toInt)
    (t147 : ((G147.1 a 39).toInt) = 0 ∧ (((G.1 a 39).toInt) ≠ 0 → ((G147.1 a 38).toInt) = ((G10.1 a 37).toInt)) ∧ (((G.1 a 39).toInt) = 0 → ((G147.1 a 38).toInt) = ((G.1 a 38).toInt)))
    (d_G147_a_37 : G147.1 a 37 = G10.1 a 37) :
    RdM (tM (G.2.1 (F a 35)) ((G.1 a 36).toInt)) ((G.1 a 36).toInt) (tkN (tM (G.2.1 (F a 35)) ((G.1 a 36).toInt)) p0.toInt p1.toInt r1).2 ((G147.1 a 39).toInt) ((G147.1 a 37).toInt) ((G147.1 a 38).toInt) := by
  have hv6 := num_b I55_2
  clear I55_2 hm55
  have hE : nE (tM (G.2.1 (F a 35)) ((G.1 a 36).toInt)) ((G10.1 a 37).toInt) = l5_55.toInt := by
    unfold nE
    refine rn_eq ⟨by omega, pd, cDg_n ?_⟩
    omega
  have nf := nS_f (tM (G.2.1 (F a 35)) ((G.1 a 36).toInt)) ((G10.1 a 37).toInt)
  have hs2 : r1.1 = 1 ∧ r1.2 = (G10.1 a 37).toInt := by
    have h1 := hrm.2.1.mp (by omega)
    exact ⟨h1, by rw [oq10]; exact hrm.2.2.1 h1⟩
  have hk : l7_55.toInt = nE (tM (G.2.1 (F a 35)) ((G.1 a 36).toInt)) ((G10.1 a 37).toInt) - nS (tM (G.2.1 (F a 35)) ((G.1 a 36).toInt)) ((G10.1 a 37).toInt) := by omega
  have nb : ¬ (r1.1 = 1 ∧ nOk (tM (G.2.1 (F a 35)) ((G.1 a 36).toInt)) r1.2 ∧ p0.toInt ≤ nVl (tM (G.2.1 (F a 35)) ((G.1 a 36).toInt)) r1.2 ∧ nVl (tM (G.2.1 (F a 35)) ((G.1 a 36).toInt)) r1.2 ≤ p1.toInt) := by
    rintro ⟨h1, h2, h3, h4⟩
    rw [hs2.2] at h2 h3 h4
    have h5 := h2.1
    have h6 := h2.2
    rw [hk] at I55_3
    omega
  rw [tkN_f nb, hs2.2, d_G147_a_37]
  exact rdm_bad rfl (by omega) (by omega) (by omega) (by omega)
theorem v_X11_number_160_16 {K : Nat → Nat} {F : Nat → Nat → Nat} (a : Nat) (G : XG) (G10 : XG) (l5_55 : Int32) (r1 : RSt) (x10 : Int32) (l7_55 : Int32) (l6_55 : Int32) (N55 : Nat) (x58 : Int32) (x61 : Int32) (x112 : Int32) (x138 : Int32) (p0 : Int32) (p1 : Int32)
    (ha : K a = 13)
    (hrm : RdM (tM (G.2.1 (F a 35)) ((G.1 a 36).toInt)) ((G.1 a 36).toInt) r1 ((G.1 a 39).toInt) ((G.1 a 37).toInt) ((G.1 a 38).toInt))
    (oq10 : ((G10.1 a 37).toInt) = rn cBl (tM (G.2.1 (F a 35)) ((G.1 a 36).toInt)) ((G.1 a 37).toInt))
    (pd : ∀ j : Int, nS (tM (G.2.1 (F a 35)) ((G.1 a 36).toInt)) ((G10.1 a 37).toInt) ≤ j → j < l5_55.toInt → cDg ((tM (G.2.1 (F a 35)) ((G.1 a 36).toInt)) j))
    (nt0 : 0 ≤ ((G.1 a 36).toInt) ∧ ((G.1 a 36).toInt) ≤ 80)
    (z0 : 0 ≤ ((G.1 a 37).toInt) ∧ ((G.1 a 37).toInt) ≤ ((G.1 a 36).toInt))
    (f11 : ((G.1 a 39).toInt) = 0 ∨ ((G.1 a 39).toInt) = 1)
    (c4 : ((G.1 a 39).toInt) ≠ 0)
    (t10 : -128 ≤ x10.toInt ∧ x10.toInt ≤ 127 ∧ ((0 ≤ x10.toInt ∧ (tM (G.2.1 (F a 35)) ((G.1 a 36).toInt) ((G10.1 a 37).toInt)) = x10.toInt) ∨ (x10.toInt < 0 ∧ (tM (G.2.1 (F a 35)) ((G.1 a 36).toInt) ((G10.1 a 37).toInt)) = x10.toInt + 256)) ∧ ((G.1 a 37).toInt) ≤ ((G10.1 a 37).toInt) ∧ ((G10.1 a 37).toInt) ≤ ((G.1 a 36).toInt))
    (z13 : ((tM (G.2.1 (F a 35)) ((G.1 a 36).toInt) ((G10.1 a 37).toInt)) = 45 ∧ (nS (tM (G.2.1 (F a 35)) ((G.1 a 36).toInt)) ((G10.1 a 37).toInt)) = ((G10.1 a 37).toInt) + 1) ∨ ((tM (G.2.1 (F a 35)) ((G.1 a 36).toInt) ((G10.1 a 37).toInt)) ≠ 45 ∧ (nS (tM (G.2.1 (F a 35)) ((G.1 a 36).toInt)) ((G10.1 a 37).toInt)) = ((G10.1 a 37).toInt)))
    (z13a : (nv (tM (G.2.1 (F a 35)) ((G.1 a 36).toInt)) (nS (tM (G.2.1 (F a 35)) ((G.1 a 36).toInt)) ((G10.1 a 37).toInt)) 0) = 0)
    (c15 : ¬ (x10.toInt ≠ (45 : Int)))
    (I55_0 : l5_55.toInt = (nS (tM (G.2.1 (F a 35)) ((G.1 a 36).toInt)) ((G10.1 a 37).toInt)) + l7_55.toInt)
    (I55_1 : 0 ≤ l7_55.toInt ∧ l5_55.toInt ≤ ((G.1 a 36).toInt) + 1)
    (I55_2 : (l7_55.toInt = 0 ∧ l6_55.toInt = 0) ∨ (l7_55.toInt = 1 ∧ 0 ≤ l6_55.toInt ∧ l6_55.toInt ≤ 9) ∨ (l7_55.toInt = 2 ∧ 0 ≤ l6_55.toInt ∧ l6_55.toInt ≤ 99) ∨ (l7_55.toInt = 3 ∧ 0 ≤ l6_55.toInt ∧ l6_55.toInt ≤ 999) ∨ (l7_55.toInt = 4 ∧ 0 ≤ l6_55.toInt ∧ l6_55.toInt ≤ 9999) ∨ (5 ≤ l7_55.toInt ∧ 0 ≤ l6_55.toInt ∧ l6_55.toInt ≤ 999999))
    (I55_3 : l7_55.toInt ≤ 4 → l6_55.toInt = (nv (tM (G.2.1 (F a 35)) ((G.1 a 36).toInt)) (nS (tM (G.2.1 (F a 35)) ((G.1 a 36).toInt)) ((G10.1 a 37).toInt)) (l7_55.toInt)))
    (I55_4 : l5_55.toInt ≤ ((G.1 a 36).toInt) ∨ l7_55.toInt = 0)
    (hm55 : 200 - l5_55.toInt < (((N55) + 1 : Nat) : Int))
    (z55 : ((0 ≤ l5_55.toInt ∧ l5_55.toInt < ((G.1 a 36).toInt)) ∧ True) ∨ (¬ (0 ≤ l5_55.toInt ∧ l5_55.toInt < ((G.1 a 36).toInt)) ∧ (tM (G.2.1 (F a 35)) ((G.1 a 36).toInt) (l5_55.toInt)) = 0))
    (t58 : -128 ≤ x58.toInt ∧ x58.toInt ≤ 127 ∧ ((0 ≤ x58.toInt ∧ (tM (G.2.1 (F a 35)) ((G.1 a 36).toInt) (l5_55.toInt)) = x58.toInt) ∨ (x58.toInt < 0 ∧ (tM (G.2.1 (F a 35)) ((G.1 a 36).toInt) (l5_55.toInt)) = x58.toInt + 256)))
    (t61 : (x61.toInt = 1 ∧ 48 ≤ x58.toInt ∧ x58.toInt ≤ 57) ∨ (x61.toInt = 0 ∧ (x58.toInt < 48 ∨ 57 < x58.toInt)))
    (c64 : x61.toInt = 0)
    (t112 : x112.toInt = -l6_55.toInt ∨ -l6_55.toInt < -2147483648 ∨ 2147483648 ≤ -l6_55.toInt)
    (c122 : ¬ (l7_55.toInt = 0))
    (c128 : ¬ ((4 : Int) < l7_55.toInt))
    (t138 : (x138.toInt = 1 ∧ p0.toInt ≤ x112.toInt ∧ x112.toInt ≤ p1.toInt) ∨ (x138.toInt = 0 ∧ (x112.toInt < p0.toInt ∨ p1.toInt < x112.toInt)))
    (c141 : x138.toInt ≠ 0) :
    x112.toInt = (tkN (tM (G.2.1 (F a 35)) ((G.1 a 36).toInt)) p0.toInt p1.toInt r1).1 := by
  have hv6 := num_b I55_2
  clear I55_2 hm55
  have hE : nE (tM (G.2.1 (F a 35)) ((G.1 a 36).toInt)) ((G10.1 a 37).toInt) = l5_55.toInt := by
    unfold nE
    refine rn_eq ⟨by omega, pd, cDg_n ?_⟩
    omega
  have nf := nS_f (tM (G.2.1 (F a 35)) ((G.1 a 36).toInt)) ((G10.1 a 37).toInt)
  have hs2 : r1.1 = 1 ∧ r1.2 = (G10.1 a 37).toInt := by
    have h1 := hrm.2.1.mp (by omega)
    exact ⟨h1, by rw [oq10]; exact hrm.2.2.1 h1⟩
  have hk : l7_55.toInt = nE (tM (G.2.1 (F a 35)) ((G.1 a 36).toInt)) ((G10.1 a 37).toInt) - nS (tM (G.2.1 (F a 35)) ((G.1 a 36).toInt)) ((G10.1 a 37).toInt) := by omega
  rw [hk] at I55_3
  have hv : x112.toInt = nVl (tM (G.2.1 (F a 35)) ((G.1 a 36).toInt)) ((G10.1 a 37).toInt) := by omega
  have gd : tkN (tM (G.2.1 (F a 35)) ((G.1 a 36).toInt)) p0.toInt p1.toInt r1 = (nVl (tM (G.2.1 (F a 35)) ((G.1 a 36).toInt)) r1.2, (1, rn cBl (tM (G.2.1 (F a 35)) ((G.1 a 36).toInt)) (nE (tM (G.2.1 (F a 35)) ((G.1 a 36).toInt)) r1.2))) := tkN_t hs2.1 (by rw [hs2.2]; exact ⟨by omega, by omega⟩) (by rw [hs2.2, ← hv]; omega) (by rw [hs2.2, ← hv]; omega)
  rw [gd, hs2.2]
  exact hv
theorem v_X11_number_160_17 {K : Nat → Nat} {F : Nat → Nat → Nat} (a : Nat) (G : XG) (G10 : XG) (G155 : XG) (l5_55 : Int32) (r1 : RSt) (x10 : Int32) (l7_55 : Int32) (l6_55 : Int32) (N55 : Nat) (x58 : Int32) (x61 : Int32) (x112 : Int32) (x138 : Int32) (p0 : Int32) (p1 : Int32)
    (ha : K a = 13)
    (hrm : RdM (tM (G.2.1 (F a 35)) ((G.1 a 36).toInt)) ((G.1 a 36).toInt) r1 ((G.1 a 39).toInt) ((G.1 a 37).toInt) ((G.1 a 38).toInt))
    (oq10 : ((G10.1 a 37).toInt) = rn cBl (tM (G.2.1 (F a 35)) ((G.1 a 36).toInt)) ((G.1 a 37).toInt))
    (pd : ∀ j : Int, nS (tM (G.2.1 (F a 35)) ((G.1 a 36).toInt)) ((G10.1 a 37).toInt) ≤ j → j < l5_55.toInt → cDg ((tM (G.2.1 (F a 35)) ((G.1 a 36).toInt)) j))
    (nt0 : 0 ≤ ((G.1 a 36).toInt) ∧ ((G.1 a 36).toInt) ≤ 80)
    (z0 : 0 ≤ ((G.1 a 37).toInt) ∧ ((G.1 a 37).toInt) ≤ ((G.1 a 36).toInt))
    (f11 : ((G.1 a 39).toInt) = 0 ∨ ((G.1 a 39).toInt) = 1)
    (c4 : ((G.1 a 39).toInt) ≠ 0)
    (t10 : -128 ≤ x10.toInt ∧ x10.toInt ≤ 127 ∧ ((0 ≤ x10.toInt ∧ (tM (G.2.1 (F a 35)) ((G.1 a 36).toInt) ((G10.1 a 37).toInt)) = x10.toInt) ∨ (x10.toInt < 0 ∧ (tM (G.2.1 (F a 35)) ((G.1 a 36).toInt) ((G10.1 a 37).toInt)) = x10.toInt + 256)) ∧ ((G.1 a 37).toInt) ≤ ((G10.1 a 37).toInt) ∧ ((G10.1 a 37).toInt) ≤ ((G.1 a 36).toInt))
    (z13 : ((tM (G.2.1 (F a 35)) ((G.1 a 36).toInt) ((G10.1 a 37).toInt)) = 45 ∧ (nS (tM (G.2.1 (F a 35)) ((G.1 a 36).toInt)) ((G10.1 a 37).toInt)) = ((G10.1 a 37).toInt) + 1) ∨ ((tM (G.2.1 (F a 35)) ((G.1 a 36).toInt) ((G10.1 a 37).toInt)) ≠ 45 ∧ (nS (tM (G.2.1 (F a 35)) ((G.1 a 36).toInt)) ((G10.1 a 37).toInt)) = ((G10.1 a 37).toInt)))
    (z13a : (nv (tM (G.2.1 (F a 35)) ((G.1 a 36).toInt)) (nS (tM (G.2.1 (F a 35)) ((G.1 a 36).toInt)) ((G10.1 a 37).toInt)) 0) = 0)
    (c15 : ¬ (x10.toInt ≠ (45 : Int)))
    (I55_0 : l5_55.toInt = (nS (tM (G.2.1 (F a 35)) ((G.1 a 36).toInt)) ((G10.1 a 37).toInt)) + l7_55.toInt)
    (I55_1 : 0 ≤ l7_55.toInt ∧ l5_55.toInt ≤ ((G.1 a 36).toInt) + 1)
    (I55_2 : (l7_55.toInt = 0 ∧ l6_55.toInt = 0) ∨ (l7_55.toInt = 1 ∧ 0 ≤ l6_55.toInt ∧ l6_55.toInt ≤ 9) ∨ (l7_55.toInt = 2 ∧ 0 ≤ l6_55.toInt ∧ l6_55.toInt ≤ 99) ∨ (l7_55.toInt = 3 ∧ 0 ≤ l6_55.toInt ∧ l6_55.toInt ≤ 999) ∨ (l7_55.toInt = 4 ∧ 0 ≤ l6_55.toInt ∧ l6_55.toInt ≤ 9999) ∨ (5 ≤ l7_55.toInt ∧ 0 ≤ l6_55.toInt ∧ l6_55.toInt ≤ 999999))
    (I55_3 : l7_55.toInt ≤ 4 → l6_55.toInt = (nv (tM (G.2.1 (F a 35)) ((G.1 a 36).toInt)) (nS (tM (G.2.1 (F a 35)) ((G.1 a 36).toInt)) ((G10.1 a 37).toInt)) (l7_55.toInt)))
    (I55_4 : l5_55.toInt ≤ ((G.1 a 36).toInt) ∨ l7_55.toInt = 0)
    (hm55 : 200 - l5_55.toInt < (((N55) + 1 : Nat) : Int))
    (z55 : ((0 ≤ l5_55.toInt ∧ l5_55.toInt < ((G.1 a 36).toInt)) ∧ True) ∨ (¬ (0 ≤ l5_55.toInt ∧ l5_55.toInt < ((G.1 a 36).toInt)) ∧ (tM (G.2.1 (F a 35)) ((G.1 a 36).toInt) (l5_55.toInt)) = 0))
    (t58 : -128 ≤ x58.toInt ∧ x58.toInt ≤ 127 ∧ ((0 ≤ x58.toInt ∧ (tM (G.2.1 (F a 35)) ((G.1 a 36).toInt) (l5_55.toInt)) = x58.toInt) ∨ (x58.toInt < 0 ∧ (tM (G.2.1 (F a 35)) ((G.1 a 36).toInt) (l5_55.toInt)) = x58.toInt + 256)))
    (t61 : (x61.toInt = 1 ∧ 48 ≤ x58.toInt ∧ x58.toInt ≤ 57) ∨ (x61.toInt = 0 ∧ (x58.toInt < 48 ∨ 57 < x58.toInt)))
    (c64 : x61.toInt = 0)
    (t112 : x112.toInt = -l6_55.toInt ∨ -l6_55.toInt < -2147483648 ∨ 2147483648 ≤ -l6_55.toInt)
    (c122 : ¬ (l7_55.toInt = 0))
    (c128 : ¬ ((4 : Int) < l7_55.toInt))
    (t138 : (x138.toInt = 1 ∧ p0.toInt ≤ x112.toInt ∧ x112.toInt ≤ p1.toInt) ∨ (x138.toInt = 0 ∧ (x112.toInt < p0.toInt ∨ p1.toInt < x112.toInt)))
    (c141 : x138.toInt ≠ 0)
    (d_G155_a_37 : G155.1 a 37 = l5_55)
    (d_G155_a_39 : G155.1 a 39 = G.1 a 39) :
    RdM (tM (G.2.1 (F a 35)) ((G.1 a 36).toInt)) ((G.1 a 36).toInt) (tkN (tM (G.2.1 (F a 35)) ((G.1 a 36).toInt)) p0.toInt p1.toInt r1).2 ((G155.1 a 39).toInt) ((G155.1 a 37).toInt) ((G155.1 a 38).toInt) := by
  have hv6 := num_b I55_2
  clear I55_2 hm55
  have hE : nE (tM (G.2.1 (F a 35)) ((G.1 a 36).toInt)) ((G10.1 a 37).toInt) = l5_55.toInt := by
    unfold nE
    refine rn_eq ⟨by omega, pd, cDg_n ?_⟩
    omega
  have nf := nS_f (tM (G.2.1 (F a 35)) ((G.1 a 36).toInt)) ((G10.1 a 37).toInt)
  have hs2 : r1.1 = 1 ∧ r1.2 = (G10.1 a 37).toInt := by
    have h1 := hrm.2.1.mp (by omega)
    exact ⟨h1, by rw [oq10]; exact hrm.2.2.1 h1⟩
  have hk : l7_55.toInt = nE (tM (G.2.1 (F a 35)) ((G.1 a 36).toInt)) ((G10.1 a 37).toInt) - nS (tM (G.2.1 (F a 35)) ((G.1 a 36).toInt)) ((G10.1 a 37).toInt) := by omega
  rw [hk] at I55_3
  have hv : x112.toInt = nVl (tM (G.2.1 (F a 35)) ((G.1 a 36).toInt)) ((G10.1 a 37).toInt) := by omega
  have gd : tkN (tM (G.2.1 (F a 35)) ((G.1 a 36).toInt)) p0.toInt p1.toInt r1 = (nVl (tM (G.2.1 (F a 35)) ((G.1 a 36).toInt)) r1.2, (1, rn cBl (tM (G.2.1 (F a 35)) ((G.1 a 36).toInt)) (nE (tM (G.2.1 (F a 35)) ((G.1 a 36).toInt)) r1.2))) := tkN_t hs2.1 (by rw [hs2.2]; exact ⟨by omega, by omega⟩) (by rw [hs2.2, ← hv]; omega) (by rw [hs2.2, ← hv]; omega)
  rw [gd, hs2.2]
  rw [d_G155_a_37, d_G155_a_39]
  exact rdm_st (tM_e _ _) (by rw [hE]) (by omega) (by omega)
theorem v_X11_number_151_18 {K : Nat → Nat} {F : Nat → Nat → Nat} (a : Nat) (G : XG) (G10 : XG) (G147 : XG) (r1 : RSt) (l5_55 : Int32) (x10 : Int32) (l7_55 : Int32) (l6_55 : Int32) (N55 : Nat) (x58 : Int32) (x61 : Int32) (x112 : Int32) (x138 : Int32) (p0 : Int32) (p1 : Int32)
    (ha : K a = 13)
    (hrm : RdM (tM (G.2.1 (F a 35)) ((G.1 a 36).toInt)) ((G.1 a 36).toInt) r1 ((G.1 a 39).toInt) ((G.1 a 37).toInt) ((G.1 a 38).toInt))
    (oq10 : ((G10.1 a 37).toInt) = rn cBl (tM (G.2.1 (F a 35)) ((G.1 a 36).toInt)) ((G.1 a 37).toInt))
    (pd : ∀ j : Int, nS (tM (G.2.1 (F a 35)) ((G.1 a 36).toInt)) ((G10.1 a 37).toInt) ≤ j → j < l5_55.toInt → cDg ((tM (G.2.1 (F a 35)) ((G.1 a 36).toInt)) j))
    (nt0 : 0 ≤ ((G.1 a 36).toInt) ∧ ((G.1 a 36).toInt) ≤ 80)
    (z0 : 0 ≤ ((G.1 a 37).toInt) ∧ ((G.1 a 37).toInt) ≤ ((G.1 a 36).toInt))
    (f11 : ((G.1 a 39).toInt) = 0 ∨ ((G.1 a 39).toInt) = 1)
    (c4 : ((G.1 a 39).toInt) ≠ 0)
    (t10 : -128 ≤ x10.toInt ∧ x10.toInt ≤ 127 ∧ ((0 ≤ x10.toInt ∧ (tM (G.2.1 (F a 35)) ((G.1 a 36).toInt) ((G10.1 a 37).toInt)) = x10.toInt) ∨ (x10.toInt < 0 ∧ (tM (G.2.1 (F a 35)) ((G.1 a 36).toInt) ((G10.1 a 37).toInt)) = x10.toInt + 256)) ∧ ((G.1 a 37).toInt) ≤ ((G10.1 a 37).toInt) ∧ ((G10.1 a 37).toInt) ≤ ((G.1 a 36).toInt))
    (z13 : ((tM (G.2.1 (F a 35)) ((G.1 a 36).toInt) ((G10.1 a 37).toInt)) = 45 ∧ (nS (tM (G.2.1 (F a 35)) ((G.1 a 36).toInt)) ((G10.1 a 37).toInt)) = ((G10.1 a 37).toInt) + 1) ∨ ((tM (G.2.1 (F a 35)) ((G.1 a 36).toInt) ((G10.1 a 37).toInt)) ≠ 45 ∧ (nS (tM (G.2.1 (F a 35)) ((G.1 a 36).toInt)) ((G10.1 a 37).toInt)) = ((G10.1 a 37).toInt)))
    (z13a : (nv (tM (G.2.1 (F a 35)) ((G.1 a 36).toInt)) (nS (tM (G.2.1 (F a 35)) ((G.1 a 36).toInt)) ((G10.1 a 37).toInt)) 0) = 0)
    (c15 : ¬ (x10.toInt ≠ (45 : Int)))
    (I55_0 : l5_55.toInt = (nS (tM (G.2.1 (F a 35)) ((G.1 a 36).toInt)) ((G10.1 a 37).toInt)) + l7_55.toInt)
    (I55_1 : 0 ≤ l7_55.toInt ∧ l5_55.toInt ≤ ((G.1 a 36).toInt) + 1)
    (I55_2 : (l7_55.toInt = 0 ∧ l6_55.toInt = 0) ∨ (l7_55.toInt = 1 ∧ 0 ≤ l6_55.toInt ∧ l6_55.toInt ≤ 9) ∨ (l7_55.toInt = 2 ∧ 0 ≤ l6_55.toInt ∧ l6_55.toInt ≤ 99) ∨ (l7_55.toInt = 3 ∧ 0 ≤ l6_55.toInt ∧ l6_55.toInt ≤ 999) ∨ (l7_55.toInt = 4 ∧ 0 ≤ l6_55.toInt ∧ l6_55.toInt ≤ 9999) ∨ (5 ≤ l7_55.toInt ∧ 0 ≤ l6_55.toInt ∧ l6_55.toInt ≤ 999999))
    (I55_3 : l7_55.toInt ≤ 4 → l6_55.toInt = (nv (tM (G.2.1 (F a 35)) ((G.1 a 36).toInt)) (nS (tM (G.2.1 (F a 35)) ((G.1 a 36).toInt)) ((G10.1 a 37).toInt)) (l7_55.toInt)))
    (I55_4 : l5_55.toInt ≤ ((G.1 a 36).toInt) ∨ l7_55.toInt = 0)
    (hm55 : 200 - l5_55.toInt < (((N55) + 1 : Nat) : Int))
    (z55 : ((0 ≤ l5_55.toInt ∧ l5_55.toInt < ((G.1 a 36).toInt)) ∧ True) ∨ (¬ (0 ≤ l5_55.toInt ∧ l5_55.toInt < ((G.1 a 36).toInt)) ∧ (tM (G.2.1 (F a 35)) ((G.1 a 36).toInt) (l5_55.toInt)) = 0))
    (t58 : -128 ≤ x58.toInt ∧ x58.toInt ≤ 127 ∧ ((0 ≤ x58.toInt ∧ (tM (G.2.1 (F a 35)) ((G.1 a 36).toInt) (l5_55.toInt)) = x58.toInt) ∨ (x58.toInt < 0 ∧ (tM (G.2.1 (F a 35)) ((G.1 a 36).toInt) (l5_55.toInt)) = x58.toInt + 256)))
    (t61 : (x61.toInt = 1 ∧ 48 ≤ x58.toInt ∧ x58.toInt ≤ 57) ∨ (x61.toInt = 0 ∧ (x58.toInt < 48 ∨ 57 < x58.toInt)))
    (c64 : x61.toInt = 0)
    (t112 : x112.toInt = -l6_55.toInt ∨ -l6_55.toInt < -2147483648 ∨ 2147483648 ≤ -l6_55.toInt)
    (c122 : ¬ (l7_55.toInt = 0))
    (c128 : ¬ ((4 : Int) < l7_55.toInt))
    (t138 : (x138.toInt = 1 ∧ p0.toInt ≤ x112.toInt ∧ x112.toInt ≤ p1.toInt) ∨ (x138.toInt = 0 ∧ (x112.toInt < p0.toInt ∨ p1.toInt < x112.toInt)))
    (c141 : ¬ (x138.toInt ≠ 0))
    (t147 : ((G147.1 a 39).toInt) = 0 ∧ (((G.1 a 39).toInt) ≠ 0 → ((G147.1 a 38).toInt) = ((G10.1 a 37).toInt)) ∧ (((G.1 a 39).toInt) = 0 → ((G147.1 a 38).toInt) = ((G.1 a 38).toInt))) :
    (0 : Int) = (tkN (tM (G.2.1 (F a 35)) ((G.1 a 36).toInt)) p0.toInt p1.toInt r1).1 := by
  have hv6 := num_b I55_2
  clear I55_2 hm55
  have hE : nE (tM (G.2.1 (F a 35)) ((G.1 a 36).toInt)) ((G10.1 a 37).toInt) = l5_55.toInt := by
    unfold nE
    refine rn_eq ⟨by omega, pd, cDg_n ?_⟩
    omega
  have nf := nS_f (tM (G.2.1 (F a 35)) ((G.1 a 36).toInt)) ((G10.1 a 37).toInt)
  have hs2 : r1.1 = 1 ∧ r1.2 = (G10.1 a 37).toInt := by
    have h1 := hrm.2.1.mp (by omega)
    exact ⟨h1, by rw [oq10]; exact hrm.2.2.1 h1⟩
  have hk : l7_55.toInt = nE (tM (G.2.1 (F a 35)) ((G.1 a 36).toInt)) ((G10.1 a 37).toInt) - nS (tM (G.2.1 (F a 35)) ((G.1 a 36).toInt)) ((G10.1 a 37).toInt) := by omega
  have nb : ¬ (r1.1 = 1 ∧ nOk (tM (G.2.1 (F a 35)) ((G.1 a 36).toInt)) r1.2 ∧ p0.toInt ≤ nVl (tM (G.2.1 (F a 35)) ((G.1 a 36).toInt)) r1.2 ∧ nVl (tM (G.2.1 (F a 35)) ((G.1 a 36).toInt)) r1.2 ≤ p1.toInt) := by
    rintro ⟨h1, h2, h3, h4⟩
    rw [hs2.2] at h2 h3 h4
    have h5 := h2.1
    have h6 := h2.2
    rw [hk] at I55_3
    omega
  rw [tkN_f nb]
theorem v_X11_number_151_19 {K : Nat → Nat} {F : Nat → Nat → Nat} (a : Nat) (G : XG) (G10 : XG) (G147 : XG) (r1 : RSt) (l5_55 : Int32) (x10 : Int32) (l7_55 : Int32) (l6_55 : Int32) (N55 : Nat) (x58 : Int32) (x61 : Int32) (x112 : Int32) (x138 : Int32) (p0 : Int32) (p1 : Int32)
    (ha : K a = 13)
    (hrm : RdM (tM (G.2.1 (F a 35)) ((G.1 a 36).toInt)) ((G.1 a 36).toInt) r1 ((G.1 a 39).toInt) ((G.1 a 37).toInt) ((G.1 a 38).toInt))
    (oq10 : ((G10.1 a 37).toInt) = rn cBl (tM (G.2.1 (F a 35)) ((G.1 a 36).toInt)) ((G.1 a 37).toInt))
    (pd : ∀ j : Int, nS (tM (G.2.1 (F a 35)) ((G.1 a 36).toInt)) ((G10.1 a 37).toInt) ≤ j → j < l5_55.toInt → cDg ((tM (G.2.1 (F a 35)) ((G.1 a 36).toInt)) j))
    (nt0 : 0 ≤ ((G.1 a 36).toInt) ∧ ((G.1 a 36).toInt) ≤ 80)
    (z0 : 0 ≤ ((G.1 a 37).toInt) ∧ ((G.1 a 37).toInt) ≤ ((G.1 a 36).toInt))
    (f11 : ((G.1 a 39).toInt) = 0 ∨ ((G.1 a 39).toInt) = 1)
    (c4 : ((G.1 a 39).toInt) ≠ 0)
    (t10 : -128 ≤ x10.toInt ∧ x10.toInt ≤ 127 ∧ ((0 ≤ x10.toInt ∧ (tM (G.2.1 (F a 35)) ((G.1 a 36).toInt) ((G10.1 a 37).toInt)) = x10.toInt) ∨ (x10.toInt < 0 ∧ (tM (G.2.1 (F a 35)) ((G.1 a 36).toInt) ((G10.1 a 37).toInt)) = x10.toInt + 256)) ∧ ((G.1 a 37).toInt) ≤ ((G10.1 a 37).toInt) ∧ ((G10.1 a 37).toInt) ≤ ((G.1 a 36).toInt))
    (z13 : ((tM (G.2.1 (F a 35)) ((G.1 a 36).toInt) ((G10.1 a 37).toInt)) = 45 ∧ (nS (tM (G.2.1 (F a 35)) ((G.1 a 36).toInt)) ((G10.1 a 37).toInt)) = ((G10.1 a 37).toInt) + 1) ∨ ((tM (G.2.1 (F a 35)) ((G.1 a 36).toInt) ((G10.1 a 37).toInt)) ≠ 45 ∧ (nS (tM (G.2.1 (F a 35)) ((G.1 a 36).toInt)) ((G10.1 a 37).toInt)) = ((G10.1 a 37).toInt)))
    (z13a : (nv (tM (G.2.1 (F a 35)) ((G.1 a 36).toInt)) (nS (tM (G.2.1 (F a 35)) ((G.1 a 36).toInt)) ((G10.1 a 37).toInt)) 0) = 0)
    (c15 : ¬ (x10.toInt ≠ (45 : Int)))
    (I55_0 : l5_55.toInt = (nS (tM (G.2.1 (F a 35)) ((G.1 a 36).toInt)) ((G10.1 a 37).toInt)) + l7_55.toInt)
    (I55_1 : 0 ≤ l7_55.toInt ∧ l5_55.toInt ≤ ((G.1 a 36).toInt) + 1)
    (I55_2 : (l7_55.toInt = 0 ∧ l6_55.toInt = 0) ∨ (l7_55.toInt = 1 ∧ 0 ≤ l6_55.toInt ∧ l6_55.toInt ≤ 9) ∨ (l7_55.toInt = 2 ∧ 0 ≤ l6_55.toInt ∧ l6_55.toInt ≤ 99) ∨ (l7_55.toInt = 3 ∧ 0 ≤ l6_55.toInt ∧ l6_55.toInt ≤ 999) ∨ (l7_55.toInt = 4 ∧ 0 ≤ l6_55.toInt ∧ l6_55.toInt ≤ 9999) ∨ (5 ≤ l7_55.toInt ∧ 0 ≤ l6_55.toInt ∧ l6_55.toInt ≤ 999999))
    (I55_3 : l7_55.toInt ≤ 4 → l6_55.toInt = (nv (tM (G.2.1 (F a 35)) ((G.1 a 36).toInt)) (nS (tM (G.2.1 (F a 35)) ((G.1 a 36).toInt)) ((G10.1 a 37).toInt)) (l7_55.toInt)))
    (I55_4 : l5_55.toInt ≤ ((G.1 a 36).toInt) ∨ l7_55.toInt = 0)
    (hm55 : 200 - l5_55.toInt < (((N55) + 1 : Nat) : Int))
    (z55 : ((0 ≤ l5_55.toInt ∧ l5_55.toInt < ((G.1 a 36).toInt)) ∧ True) ∨ (¬ (0 ≤ l5_55.toInt ∧ l5_55.toInt < ((G.1 a 36).toInt)) ∧ (tM (G.2.1 (F a 35)) ((G.1 a 36).toInt) (l5_55.toInt)) = 0))
    (t58 : -128 ≤ x58.toInt ∧ x58.toInt ≤ 127 ∧ ((0 ≤ x58.toInt ∧ (tM (G.2.1 (F a 35)) ((G.1 a 36).toInt) (l5_55.toInt)) = x58.toInt) ∨ (x58.toInt < 0 ∧ (tM (G.2.1 (F a 35)) ((G.1 a 36).toInt) (l5_55.toInt)) = x58.toInt + 256)))
    (t61 : (x61.toInt = 1 ∧ 48 ≤ x58.toInt ∧ x58.toInt ≤ 57) ∨ (x61.toInt = 0 ∧ (x58.toInt < 48 ∨ 57 < x58.toInt)))
    (c64 : x61.toInt = 0)
    (t112 : x112.toInt = -l6_55.toInt ∨ -l6_55.toInt < -2147483648 ∨ 2147483648 ≤ -l6_55.toInt)
    (c122 : ¬ (l7_55.toInt = 0))
    (c128 : ¬ ((4 : Int) < l7_55.toInt))
    (t138 : (x138.toInt = 1 ∧ p0.toInt ≤ x112.toInt ∧ x112.toInt ≤ p1.toInt) ∨ (x138.toInt = 0 ∧ (x112.toInt < p0.toInt ∨ p1.toInt < x112.toInt)))
    (c141 : ¬ (x138.toInt ≠ 0))
    (t147 : ((G147.1 a 39).toInt) = 0 ∧ (((G.1 a 39).toInt) ≠ 0 → ((G147.1 a 38).toInt) = ((G10.1 a 37).toInt)) ∧ (((G.1 a 39).toInt) = 0 → ((G147.1 a 38).toInt) = ((G.1 a 38).toInt)))
    (d_G147_a_37 : G147.1 a 37 = G10.1 a 37) :
    RdM (tM (G.2.1 (F a 35)) ((G.1 a 36).toInt)) ((G.1 a 36).toInt) (tkN (tM (G.2.1 (F a 35)) ((G.1 a 36).toInt)) p0.toInt p1.toInt r1).2 ((G147.1 a 39).toInt) ((G147.1 a 37).toInt) ((G147.1 a 38).toInt) := by
  have hv6 := num_b I55_2
  clear I55_2 hm55
  have hE : nE (tM (G.2.1 (F a 35)) ((G.1 a 36).toInt)) ((G10.1 a 37).toInt) = l5_55.toInt := by
    unfold nE
    refine rn_eq ⟨by omega, pd, cDg_n ?_⟩
    omega
  have nf := nS_f (tM (G.2.1 (F a 35)) ((G.1 a 36).toInt)) ((G10.1 a 37).toInt)
  have hs2 : r1.1 = 1 ∧ r1.2 = (G10.1 a 37).toInt := by
    have h1 := hrm.2.1.mp (by omega)
    exact ⟨h1, by rw [oq10]; exact hrm.2.2.1 h1⟩
  have hk : l7_55.toInt = nE (tM (G.2.1 (F a 35)) ((G.1 a 36).toInt)) ((G10.1 a 37).toInt) - nS (tM (G.2.1 (F a 35)) ((G.1 a 36).toInt)) ((G10.1 a 37).toInt) := by omega
  have nb : ¬ (r1.1 = 1 ∧ nOk (tM (G.2.1 (F a 35)) ((G.1 a 36).toInt)) r1.2 ∧ p0.toInt ≤ nVl (tM (G.2.1 (F a 35)) ((G.1 a 36).toInt)) r1.2 ∧ nVl (tM (G.2.1 (F a 35)) ((G.1 a 36).toInt)) r1.2 ≤ p1.toInt) := by
    rintro ⟨h1, h2, h3, h4⟩
    rw [hs2.2] at h2 h3 h4
    have h5 := h2.1
    have h6 := h2.2
    rw [hk] at I55_3
    omega
  rw [tkN_f nb, hs2.2, d_G147_a_37]
  exact rdm_bad rfl (by omega) (by omega) (by omega) (by omega)
theorem v_X11_number_103_20 {K : Nat → Nat} {F : Nat → Nat → Nat} (a : Nat) (G : XG) (G10 : XG) (l5_55 : Int32) (l6_55 : Int32) (x88 : Int32) (l7_55 : Int32) (x10 : Int32) (N55 : Nat) (x58 : Int32) (x61 : Int32)
    (ha : K a = 13)
    (oq10 : ((G10.1 a 37).toInt) = rn cBl (tM (G.2.1 (F a 35)) ((G.1 a 36).toInt)) ((G.1 a 37).toInt))
    (pd : ∀ j : Int, nS (tM (G.2.1 (F a 35)) ((G.1 a 36).toInt)) ((G10.1 a 37).toInt) ≤ j → j < l5_55.toInt → cDg ((tM (G.2.1 (F a 35)) ((G.1 a 36).toInt)) j))
    (nt0 : 0 ≤ ((G.1 a 36).toInt) ∧ ((G.1 a 36).toInt) ≤ 80)
    (z0 : 0 ≤ ((G.1 a 37).toInt) ∧ ((G.1 a 37).toInt) ≤ ((G.1 a 36).toInt))
    (f15 : ((G.1 a 39).toInt) = 0 ∨ ((G.1 a 39).toInt) = 1)
    (c4 : ((G.1 a 39).toInt) ≠ 0)
    (t10 : -128 ≤ x10.toInt ∧ x10.toInt ≤ 127 ∧ ((0 ≤ x10.toInt ∧ (tM (G.2.1 (F a 35)) ((G.1 a 36).toInt) ((G10.1 a 37).toInt)) = x10.toInt) ∨ (x10.toInt < 0 ∧ (tM (G.2.1 (F a 35)) ((G.1 a 36).toInt) ((G10.1 a 37).toInt)) = x10.toInt + 256)) ∧ ((G.1 a 37).toInt) ≤ ((G10.1 a 37).toInt) ∧ ((G10.1 a 37).toInt) ≤ ((G.1 a 36).toInt))
    (z13 : ((tM (G.2.1 (F a 35)) ((G.1 a 36).toInt) ((G10.1 a 37).toInt)) = 45 ∧ (nS (tM (G.2.1 (F a 35)) ((G.1 a 36).toInt)) ((G10.1 a 37).toInt)) = ((G10.1 a 37).toInt) + 1) ∨ ((tM (G.2.1 (F a 35)) ((G.1 a 36).toInt) ((G10.1 a 37).toInt)) ≠ 45 ∧ (nS (tM (G.2.1 (F a 35)) ((G.1 a 36).toInt)) ((G10.1 a 37).toInt)) = ((G10.1 a 37).toInt)))
    (z13a : (nv (tM (G.2.1 (F a 35)) ((G.1 a 36).toInt)) (nS (tM (G.2.1 (F a 35)) ((G.1 a 36).toInt)) ((G10.1 a 37).toInt)) 0) = 0)
    (c15 : ¬ (x10.toInt ≠ (45 : Int)))
    (I55_0 : l5_55.toInt = (nS (tM (G.2.1 (F a 35)) ((G.1 a 36).toInt)) ((G10.1 a 37).toInt)) + l7_55.toInt)
    (I55_1 : 0 ≤ l7_55.toInt ∧ l5_55.toInt ≤ ((G.1 a 36).toInt) + 1)
    (I55_2 : (l7_55.toInt = 0 ∧ l6_55.toInt = 0) ∨ (l7_55.toInt = 1 ∧ 0 ≤ l6_55.toInt ∧ l6_55.toInt ≤ 9) ∨ (l7_55.toInt = 2 ∧ 0 ≤ l6_55.toInt ∧ l6_55.toInt ≤ 99) ∨ (l7_55.toInt = 3 ∧ 0 ≤ l6_55.toInt ∧ l6_55.toInt ≤ 999) ∨ (l7_55.toInt = 4 ∧ 0 ≤ l6_55.toInt ∧ l6_55.toInt ≤ 9999) ∨ (5 ≤ l7_55.toInt ∧ 0 ≤ l6_55.toInt ∧ l6_55.toInt ≤ 999999))
    (I55_3 : l7_55.toInt ≤ 4 → l6_55.toInt = (nv (tM (G.2.1 (F a 35)) ((G.1 a 36).toInt)) (nS (tM (G.2.1 (F a 35)) ((G.1 a 36).toInt)) ((G10.1 a 37).toInt)) (l7_55.toInt)))
    (I55_4 : l5_55.toInt ≤ ((G.1 a 36).toInt) ∨ l7_55.toInt = 0)
    (hm55 : 200 - l5_55.toInt < (((N55) + 1 : Nat) : Int))
    (z55 : ((0 ≤ l5_55.toInt ∧ l5_55.toInt < ((G.1 a 36).toInt)) ∧ True) ∨ (¬ (0 ≤ l5_55.toInt ∧ l5_55.toInt < ((G.1 a 36).toInt)) ∧ (tM (G.2.1 (F a 35)) ((G.1 a 36).toInt) (l5_55.toInt)) = 0))
    (t58 : -128 ≤ x58.toInt ∧ x58.toInt ≤ 127 ∧ ((0 ≤ x58.toInt ∧ (tM (G.2.1 (F a 35)) ((G.1 a 36).toInt) (l5_55.toInt)) = x58.toInt) ∨ (x58.toInt < 0 ∧ (tM (G.2.1 (F a 35)) ((G.1 a 36).toInt) (l5_55.toInt)) = x58.toInt + 256)))
    (t61 : (x61.toInt = 1 ∧ 48 ≤ x58.toInt ∧ x58.toInt ≤ 57) ∨ (x61.toInt = 0 ∧ (x58.toInt < 48 ∨ 57 < x58.toInt)))
    (c64 : ¬ (x61.toInt = 0))
    (z67 : (nv (tM (G.2.1 (F a 35)) ((G.1 a 36).toInt)) (nS (tM (G.2.1 (F a 35)) ((G.1 a 36).toInt)) ((G10.1 a 37).toInt)) (l7_55.toInt + 1)) = 10 * (nv (tM (G.2.1 (F a 35)) ((G.1 a 36).toInt)) (nS (tM (G.2.1 (F a 35)) ((G.1 a 36).toInt)) ((G10.1 a 37).toInt)) (l7_55.toInt)) + ((tM (G.2.1 (F a 35)) ((G.1 a 36).toInt) ((nS (tM (G.2.1 (F a 35)) ((G.1 a 36).toInt)) ((G10.1 a 37).toInt)) + l7_55.toInt)) - 48))
    (z67a : l5_55.toInt = (nS (tM (G.2.1 (F a 35)) ((G.1 a 36).toInt)) ((G10.1 a 37).toInt)) + l7_55.toInt → (tM (G.2.1 (F a 35)) ((G.1 a 36).toInt) ((nS (tM (G.2.1 (F a 35)) ((G.1 a 36).toInt)) ((G10.1 a 37).toInt)) + l7_55.toInt)) = (tM (G.2.1 (F a 35)) ((G.1 a 36).toInt) (l5_55.toInt)))
    (c72 : l6_55.toInt ≤ (99999 : Int))
    (t88 : -128 ≤ x88.toInt ∧ x88.toInt ≤ 127 ∧ ((0 ≤ x88.toInt ∧ (tM (G.2.1 (F a 35)) ((G.1 a 36).toInt) (l5_55.toInt)) = x88.toInt) ∨ (x88.toInt < 0 ∧ (tM (G.2.1 (F a 35)) ((G.1 a 36).toInt) (l5_55.toInt)) = x88.toInt + 256))) :
    ∀ j : Int, nS (tM (G.2.1 (F a 35)) ((G.1 a 36).toInt)) ((G10.1 a 37).toInt) ≤ j → j < (l5_55.toInt + 1) → cDg ((tM (G.2.1 (F a 35)) ((G.1 a 36).toInt)) j) := by
  intro j h1 h2
  by_cases e : j = l5_55.toInt
  · rw [e]; unfold cDg; omega
  · exact pd j h1 (by omega)
theorem v_X11_number_103_21 {K : Nat → Nat} {F : Nat → Nat → Nat} (a : Nat) (G : XG) (G10 : XG) (l5_55 : Int32) (l7_55 : Int32) (x10 : Int32) (l6_55 : Int32) (N55 : Nat) (x58 : Int32) (x61 : Int32)
    (ha : K a = 13)
    (oq10 : ((G10.1 a 37).toInt) = rn cBl (tM (G.2.1 (F a 35)) ((G.1 a 36).toInt)) ((G.1 a 37).toInt))
    (pd : ∀ j : Int, nS (tM (G.2.1 (F a 35)) ((G.1 a 36).toInt)) ((G10.1 a 37).toInt) ≤ j → j < l5_55.toInt → cDg ((tM (G.2.1 (F a 35)) ((G.1 a 36).toInt)) j))
    (nt0 : 0 ≤ ((G.1 a 36).toInt) ∧ ((G.1 a 36).toInt) ≤ 80)
    (z0 : 0 ≤ ((G.1 a 37).toInt) ∧ ((G.1 a 37).toInt) ≤ ((G.1 a 36).toInt))
    (f12 : ((G.1 a 39).toInt) = 0 ∨ ((G.1 a 39).toInt) = 1)
    (c4 : ((G.1 a 39).toInt) ≠ 0)
    (t10 : -128 ≤ x10.toInt ∧ x10.toInt ≤ 127 ∧ ((0 ≤ x10.toInt ∧ (tM (G.2.1 (F a 35)) ((G.1 a 36).toInt) ((G10.1 a 37).toInt)) = x10.toInt) ∨ (x10.toInt < 0 ∧ (tM (G.2.1 (F a 35)) ((G.1 a 36).toInt) ((G10.1 a 37).toInt)) = x10.toInt + 256)) ∧ ((G.1 a 37).toInt) ≤ ((G10.1 a 37).toInt) ∧ ((G10.1 a 37).toInt) ≤ ((G.1 a 36).toInt))
    (z13 : ((tM (G.2.1 (F a 35)) ((G.1 a 36).toInt) ((G10.1 a 37).toInt)) = 45 ∧ (nS (tM (G.2.1 (F a 35)) ((G.1 a 36).toInt)) ((G10.1 a 37).toInt)) = ((G10.1 a 37).toInt) + 1) ∨ ((tM (G.2.1 (F a 35)) ((G.1 a 36).toInt) ((G10.1 a 37).toInt)) ≠ 45 ∧ (nS (tM (G.2.1 (F a 35)) ((G.1 a 36).toInt)) ((G10.1 a 37).toInt)) = ((G10.1 a 37).toInt)))
    (z13a : (nv (tM (G.2.1 (F a 35)) ((G.1 a 36).toInt)) (nS (tM (G.2.1 (F a 35)) ((G.1 a 36).toInt)) ((G10.1 a 37).toInt)) 0) = 0)
    (c15 : ¬ (x10.toInt ≠ (45 : Int)))
    (I55_0 : l5_55.toInt = (nS (tM (G.2.1 (F a 35)) ((G.1 a 36).toInt)) ((G10.1 a 37).toInt)) + l7_55.toInt)
    (I55_1 : 0 ≤ l7_55.toInt ∧ l5_55.toInt ≤ ((G.1 a 36).toInt) + 1)
    (I55_2 : (l7_55.toInt = 0 ∧ l6_55.toInt = 0) ∨ (l7_55.toInt = 1 ∧ 0 ≤ l6_55.toInt ∧ l6_55.toInt ≤ 9) ∨ (l7_55.toInt = 2 ∧ 0 ≤ l6_55.toInt ∧ l6_55.toInt ≤ 99) ∨ (l7_55.toInt = 3 ∧ 0 ≤ l6_55.toInt ∧ l6_55.toInt ≤ 999) ∨ (l7_55.toInt = 4 ∧ 0 ≤ l6_55.toInt ∧ l6_55.toInt ≤ 9999) ∨ (5 ≤ l7_55.toInt ∧ 0 ≤ l6_55.toInt ∧ l6_55.toInt ≤ 999999))
    (I55_3 : l7_55.toInt ≤ 4 → l6_55.toInt = (nv (tM (G.2.1 (F a 35)) ((G.1 a 36).toInt)) (nS (tM (G.2.1 (F a 35)) ((G.1 a 36).toInt)) ((G10.1 a 37).toInt)) (l7_55.toInt)))
    (I55_4 : l5_55.toInt ≤ ((G.1 a 36).toInt) ∨ l7_55.toInt = 0)
    (hm55 : 200 - l5_55.toInt < (((N55) + 1 : Nat) : Int))
    (z55 : ((0 ≤ l5_55.toInt ∧ l5_55.toInt < ((G.1 a 36).toInt)) ∧ True) ∨ (¬ (0 ≤ l5_55.toInt ∧ l5_55.toInt < ((G.1 a 36).toInt)) ∧ (tM (G.2.1 (F a 35)) ((G.1 a 36).toInt) (l5_55.toInt)) = 0))
    (t58 : -128 ≤ x58.toInt ∧ x58.toInt ≤ 127 ∧ ((0 ≤ x58.toInt ∧ (tM (G.2.1 (F a 35)) ((G.1 a 36).toInt) (l5_55.toInt)) = x58.toInt) ∨ (x58.toInt < 0 ∧ (tM (G.2.1 (F a 35)) ((G.1 a 36).toInt) (l5_55.toInt)) = x58.toInt + 256)))
    (t61 : (x61.toInt = 1 ∧ 48 ≤ x58.toInt ∧ x58.toInt ≤ 57) ∨ (x61.toInt = 0 ∧ (x58.toInt < 48 ∨ 57 < x58.toInt)))
    (c64 : ¬ (x61.toInt = 0))
    (z67 : (nv (tM (G.2.1 (F a 35)) ((G.1 a 36).toInt)) (nS (tM (G.2.1 (F a 35)) ((G.1 a 36).toInt)) ((G10.1 a 37).toInt)) (l7_55.toInt + 1)) = 10 * (nv (tM (G.2.1 (F a 35)) ((G.1 a 36).toInt)) (nS (tM (G.2.1 (F a 35)) ((G.1 a 36).toInt)) ((G10.1 a 37).toInt)) (l7_55.toInt)) + ((tM (G.2.1 (F a 35)) ((G.1 a 36).toInt) ((nS (tM (G.2.1 (F a 35)) ((G.1 a 36).toInt)) ((G10.1 a 37).toInt)) + l7_55.toInt)) - 48))
    (z67a : l5_55.toInt = (nS (tM (G.2.1 (F a 35)) ((G.1 a 36).toInt)) ((G10.1 a 37).toInt)) + l7_55.toInt → (tM (G.2.1 (F a 35)) ((G.1 a 36).toInt) ((nS (tM (G.2.1 (F a 35)) ((G.1 a 36).toInt)) ((G10.1 a 37).toInt)) + l7_55.toInt)) = (tM (G.2.1 (F a 35)) ((G.1 a 36).toInt) (l5_55.toInt)))
    (c72 : ¬ (l6_55.toInt ≤ (99999 : Int))) :
    ∀ j : Int, nS (tM (G.2.1 (F a 35)) ((G.1 a 36).toInt)) ((G10.1 a 37).toInt) ≤ j → j < (l5_55.toInt + 1) → cDg ((tM (G.2.1 (F a 35)) ((G.1 a 36).toInt)) j) := by
  intro j h1 h2
  by_cases e : j = l5_55.toInt
  · rw [e]; unfold cDg; omega
  · exact pd j h1 (by omega)
theorem v_X11_number_53_22 {K : Nat → Nat} {F : Nat → Nat → Nat} (a : Nat) (G : XG) (G10 : XG) (x10 : Int32)
    (ha : K a = 13)
    (oq10 : ((G10.1 a 37).toInt) = rn cBl (tM (G.2.1 (F a 35)) ((G.1 a 36).toInt)) ((G.1 a 37).toInt))
    (nt0 : 0 ≤ ((G.1 a 36).toInt) ∧ ((G.1 a 36).toInt) ≤ 80)
    (z0 : 0 ≤ ((G.1 a 37).toInt) ∧ ((G.1 a 37).toInt) ≤ ((G.1 a 36).toInt))
    (f9 : ((G.1 a 39).toInt) = 0 ∨ ((G.1 a 39).toInt) = 1)
    (c4 : ((G.1 a 39).toInt) ≠ 0)
    (t10 : -128 ≤ x10.toInt ∧ x10.toInt ≤ 127 ∧ ((0 ≤ x10.toInt ∧ (tM (G.2.1 (F a 35)) ((G.1 a 36).toInt) ((G10.1 a 37).toInt)) = x10.toInt) ∨ (x10.toInt < 0 ∧ (tM (G.2.1 (F a 35)) ((G.1 a 36).toInt) ((G10.1 a 37).toInt)) = x10.toInt + 256)) ∧ ((G.1 a 37).toInt) ≤ ((G10.1 a 37).toInt) ∧ ((G10.1 a 37).toInt) ≤ ((G.1 a 36).toInt))
    (z13 : ((tM (G.2.1 (F a 35)) ((G.1 a 36).toInt) ((G10.1 a 37).toInt)) = 45 ∧ (nS (tM (G.2.1 (F a 35)) ((G.1 a 36).toInt)) ((G10.1 a 37).toInt)) = ((G10.1 a 37).toInt) + 1) ∨ ((tM (G.2.1 (F a 35)) ((G.1 a 36).toInt) ((G10.1 a 37).toInt)) ≠ 45 ∧ (nS (tM (G.2.1 (F a 35)) ((G.1 a 36).toInt)) ((G10.1 a 37).toInt)) = ((G10.1 a 37).toInt)))
    (z13a : (nv (tM (G.2.1 (F a 35)) ((G.1 a 36).toInt)) (nS (tM (G.2.1 (F a 35)) ((G.1 a 36).toInt)) ((G10.1 a 37).toInt)) 0) = 0)
    (c15 : ¬ (x10.toInt ≠ (45 : Int))) :
    ∀ j : Int, nS (tM (G.2.1 (F a 35)) ((G.1 a 36).toInt)) ((G10.1 a 37).toInt) ≤ j → j < (((G10.1 a 37).toInt) + (1 : Int)) → cDg ((tM (G.2.1 (F a 35)) ((G.1 a 36).toInt)) j) := by
  intro j h1 h2; exact absurd h1 (by omega)
theorem v_X11_number_8_23 {K : Nat → Nat} {F : Nat → Nat → Nat} (a : Nat) (G : XG) (r1 : RSt) (p0 : Int32) (p1 : Int32)
    (ha : K a = 13)
    (hrm : RdM (tM (G.2.1 (F a 35)) ((G.1 a 36).toInt)) ((G.1 a 36).toInt) r1 ((G.1 a 39).toInt) ((G.1 a 37).toInt) ((G.1 a 38).toInt))
    (nt0 : 0 ≤ ((G.1 a 36).toInt) ∧ ((G.1 a 36).toInt) ≤ 80)
    (z0 : 0 ≤ ((G.1 a 37).toInt) ∧ ((G.1 a 37).toInt) ≤ ((G.1 a 36).toInt))
    (f6 : ((G.1 a 39).toInt) = 0 ∨ ((G.1 a 39).toInt) = 1)
    (c4 : ¬ (((G.1 a 39).toInt) ≠ 0)) :
    (0 : Int) = (tkN (tM (G.2.1 (F a 35)) ((G.1 a 36).toInt)) p0.toInt p1.toInt r1).1 := by
  rw [tkN_f (fun h => hrm.2.1.mpr h.1 (by omega))]
theorem v_X11_number_8_24 {K : Nat → Nat} {F : Nat → Nat → Nat} (a : Nat) (G : XG) (r1 : RSt) (p0 : Int32) (p1 : Int32)
    (ha : K a = 13)
    (hrm : RdM (tM (G.2.1 (F a 35)) ((G.1 a 36).toInt)) ((G.1 a 36).toInt) r1 ((G.1 a 39).toInt) ((G.1 a 37).toInt) ((G.1 a 38).toInt))
    (nt0 : 0 ≤ ((G.1 a 36).toInt) ∧ ((G.1 a 36).toInt) ≤ 80)
    (z0 : 0 ≤ ((G.1 a 37).toInt) ∧ ((G.1 a 37).toInt) ≤ ((G.1 a 36).toInt))
    (f6 : ((G.1 a 39).toInt) = 0 ∨ ((G.1 a 39).toInt) = 1)
    (c4 : ¬ (((G.1 a 39).toInt) ≠ 0)) :
    RdM (tM (G.2.1 (F a 35)) ((G.1 a 36).toInt)) ((G.1 a 36).toInt) (tkN (tM (G.2.1 (F a 35)) ((G.1 a 36).toInt)) p0.toInt p1.toInt r1).2 ((G.1 a 39).toInt) ((G.1 a 37).toInt) ((G.1 a 38).toInt) := by
  rw [tkN_f (fun h => hrm.2.1.mpr h.1 (by omega))]
  have s0 : r1.1 = 0 := hrm.1.elim id (fun h => absurd (by omega) (hrm.2.1.mpr h))
  exact rdm_bad rfl (by omega) (hrm.2.2.2.1 s0).symm (by omega) hrm.2.2.2.2.2
theorem z_X11_number_3 (a0 : Int) (a1 : Int) (a2 : Int) (h0 : 0 ≤ a1 ∧ a0 ≤ a2 + 1) (h1 : 0 ≤ a2 ∧ a2 ≤ 80) : ¬ (200 - a0 < ((0 : Nat) : Int)) := by omega
theorem z_X11_number_5 (a0 : Int) (a1 : Int) (a2 : Int) (a3 : Int) (a4 : Int) (a5 : Int) (a6 : Int) (h0 : 0 ≤ a3 ∧ a3 ≤ a2) (h1 : a3 ≤ a4) (h2 : (a6 = 45 ∧ a5 = a4 + 1) ∨ (a6 ≠ 45 ∧ a5 = a4)) (h3 : a0 = a5 + a1) (h4 : 0 ≤ a1 ∧ a0 ≤ a2 + 1) : 0 ≤ a0 := by omega
theorem z_X11_number_6 (a0 : Int) (a1 : Int) (a2 : Int) (h0 : 0 ≤ a1 ∧ a0 ≤ a2 + 1) : 0 ≤ a1 := by omega
theorem z_X11_number_7 (a0 : Int) (a1 : Int) (a2 : Int) (h0 : (a1 = 0 ∧ a0 = 0) ∨ (a1 = 1 ∧ 0 ≤ a0 ∧ a0 ≤ 9) ∨ (a1 = 2 ∧ 0 ≤ a0 ∧ a0 ≤ 99) ∨ (a1 = 3 ∧ 0 ≤ a0 ∧ a0 ≤ 999) ∨ (a1 = 4 ∧ 0 ≤ a0 ∧ a0 ≤ 9999) ∨ (5 ≤ a1 ∧ 0 ≤ a0 ∧ a0 ≤ 999999)) (h1 : a2 = ((10 : Int) * a0) ∨ ((10 : Int) * a0) < -2147483648 ∨ 2147483648 ≤ ((10 : Int) * a0)) : a2 = ((10 : Int) * a0) := by omega
theorem z_X11_number_10 (a0 : Int) (a1 : Int) (a2 : Int) (a3 : Int) (h0 : (a1 = 0 ∧ a0 = 0) ∨ (a1 = 1 ∧ 0 ≤ a0 ∧ a0 ≤ 9) ∨ (a1 = 2 ∧ 0 ≤ a0 ∧ a0 ≤ 99) ∨ (a1 = 3 ∧ 0 ≤ a0 ∧ a0 ≤ 999) ∨ (a1 = 4 ∧ 0 ≤ a0 ∧ a0 ≤ 9999) ∨ (5 ≤ a1 ∧ 0 ≤ a0 ∧ a0 ≤ 999999)) (h1 : -128 ≤ a2) (h2 : a2 ≤ 127) (h3 : a3 = (((10 : Int) * a0) + a2) ∨ (((10 : Int) * a0) + a2) < -2147483648 ∨ 2147483648 ≤ (((10 : Int) * a0) + a2)) : a3 = (((10 : Int) * a0) + a2) := by omega
theorem z_X11_number_11 (a0 : Int) (a1 : Int) (a2 : Int) (a3 : Int) (h0 : (a1 = 0 ∧ a0 = 0) ∨ (a1 = 1 ∧ 0 ≤ a0 ∧ a0 ≤ 9) ∨ (a1 = 2 ∧ 0 ≤ a0 ∧ a0 ≤ 99) ∨ (a1 = 3 ∧ 0 ≤ a0 ∧ a0 ≤ 999) ∨ (a1 = 4 ∧ 0 ≤ a0 ∧ a0 ≤ 9999) ∨ (5 ≤ a1 ∧ 0 ≤ a0 ∧ a0 ≤ 999999)) (h1 : -128 ≤ a2) (h2 : a2 ≤ 127) (h3 : a3 = ((((10 : Int) * a0) + a2) - (48 : Int)) ∨ ((((10 : Int) * a0) + a2) - (48 : Int)) < -2147483648 ∨ 2147483648 ≤ ((((10 : Int) * a0) + a2) - (48 : Int))) : a3 = ((((10 : Int) * a0) + a2) - (48 : Int)) := by omega
theorem z_X11_number_12 (a0 : Int) (a1 : Int) (a2 : Int) (a3 : Int) (a4 : Int) (a5 : Int) (a6 : Int) (a7 : Int) (h0 : 0 ≤ a3 ∧ a3 ≤ 80) (h1 : 0 ≤ a4 ∧ a4 ≤ a3) (h2 : a4 ≤ a5) (h3 : (a7 = 45 ∧ a6 = a5 + 1) ∨ (a7 ≠ 45 ∧ a6 = a5)) (h4 : a0 = a6 + a1) (h5 : 0 ≤ a1 ∧ a0 ≤ a3 + 1) (h6 : a2 = (a1 + 1) ∨ (a1 + 1) < -2147483648 ∨ 2147483648 ≤ (a1 + 1)) : a2 = (a1 + 1) := by omega
theorem z_X11_number_13 (a0 : Int) (a1 : Int) (a2 : Int) (a3 : Int) (h0 : 0 ≤ a3 ∧ a3 ≤ 80) (h1 : 0 ≤ a1 ∧ a0 ≤ a3 + 1) (h2 : a2 = (a0 + 1) ∨ (a0 + 1) < -2147483648 ∨ 2147483648 ≤ (a0 + 1)) (h3 : -2147483648 ≤ a0 ∧ a0 < 2147483648) : a2 = (a0 + 1) := by omega
theorem z_X11_number_14 (a0 : Int) (a1 : Int) (a2 : Int) (h0 : a0 = a2 + a1) : (a0 + 1) = a2 + (a1 + 1) := by omega
theorem z_X11_number_15 (a0 : Int) (a1 : Int) (a2 : Int) (a3 : Int) (a4 : Int) (a5 : Int) (a6 : Int) (h0 : -128 ≤ a2) (h1 : (0 ≤ a2 ∧ a6 = a2) ∨ (a2 < 0 ∧ a6 = a2 + 256)) (h2 : a4 ≤ a3) (h3 : (a6 = 45 ∧ a5 = a4 + 1) ∨ (a6 ≠ 45 ∧ a5 = a4)) (h4 : a2 ≠ (45 : Int)) (h5 : a0 = a5 + a1) (h6 : 0 ≤ a1 ∧ a0 ≤ a3 + 1) (h7 : a0 ≤ a3 ∨ a1 = 0) : 0 ≤ (a1 + 1) ∧ (a0 + 1) ≤ a3 + 1 := by omega
theorem z_X11_number_16 (a0 : Int) (a1 : Int) (a2 : Int) (a3 : Int) (a4 : Int) (a5 : Int) (h0 : (a1 = 0 ∧ a0 = 0) ∨ (a1 = 1 ∧ 0 ≤ a0 ∧ a0 ≤ 9) ∨ (a1 = 2 ∧ 0 ≤ a0 ∧ a0 ≤ 99) ∨ (a1 = 3 ∧ 0 ≤ a0 ∧ a0 ≤ 999) ∨ (a1 = 4 ∧ 0 ≤ a0 ∧ a0 ≤ 9999) ∨ (5 ≤ a1 ∧ 0 ≤ a0 ∧ a0 ≤ 999999)) (h1 : (0 ≤ a2 ∧ a5 = a2) ∨ (a2 < 0 ∧ a5 = a2 + 256)) (h2 : (a3 = 1 ∧ 48 ≤ a2 ∧ a2 ≤ 57) ∨ (a3 = 0 ∧ (a2 < 48 ∨ 57 < a2))) (h3 : ¬ (a3 = 0)) (h4 : a0 ≤ (99999 : Int)) (h5 : -128 ≤ a4) (h6 : (0 ≤ a4 ∧ a5 = a4) ∨ (a4 < 0 ∧ a5 = a4 + 256)) : ((a1 + 1) = 0 ∧ ((((10 : Int) * a0) + a4) - (48 : Int)) = 0) ∨ ((a1 + 1) = 1 ∧ 0 ≤ ((((10 : Int) * a0) + a4) - (48 : Int)) ∧ ((((10 : Int) * a0) + a4) - (48 : Int)) ≤ 9) ∨ ((a1 + 1) = 2 ∧ 0 ≤ ((((10 : Int) * a0) + a4) - (48 : Int)) ∧ ((((10 : Int) * a0) + a4) - (48 : Int)) ≤ 99) ∨ ((a1 + 1) = 3 ∧ 0 ≤ ((((10 : Int) * a0) + a4) - (48 : Int)) ∧ ((((10 : Int) * a0) + a4) - (48 : Int)) ≤ 999) ∨ ((a1 + 1) = 4 ∧ 0 ≤ ((((10 : Int) * a0) + a4) - (48 : Int)) ∧ ((((10 : Int) * a0) + a4) - (48 : Int)) ≤ 9999) ∨ (5 ≤ (a1 + 1) ∧ 0 ≤ ((((10 : Int) * a0) + a4) - (48 : Int)) ∧ ((((10 : Int) * a0) + a4) - (48 : Int)) ≤ 999999) := by omega
theorem z_X11_number_17 (a0 : Int) (a1 : Int) (a2 : Int) (a3 : Int) (a4 : Int) (a5 : Int) (a6 : Int) (a7 : Int) (a8 : Int) (a9 : Int) (a10 : Int) (h0 : a0 = a6 + a2) (h1 : a2 ≤ 4 → a1 = a8) (h2 : (0 ≤ a3 ∧ a10 = a3) ∨ (a3 < 0 ∧ a10 = a3 + 256)) (h3 : (a4 = 1 ∧ 48 ≤ a3 ∧ a3 ≤ 57) ∨ (a4 = 0 ∧ (a3 < 48 ∨ 57 < a3))) (h4 : ¬ (a4 = 0)) (h5 : a7 = 10 * a8 + (a9 - 48)) (h6 : a0 = a6 + a2 → a9 = a10) (h7 : -128 ≤ a5) (h8 : (0 ≤ a5 ∧ a10 = a5) ∨ (a5 < 0 ∧ a10 = a5 + 256)) : (a2 + 1) ≤ 4 → ((((10 : Int) * a1) + a5) - (48 : Int)) = a7 := by omega
theorem z_X11_number_18 (a0 : Int) (a1 : Int) (a2 : Int) (a3 : Int) (a4 : Int) (a5 : Int) (h0 : ((0 ≤ a0 ∧ a0 < a4) ∧ True) ∨ (¬ (0 ≤ a0 ∧ a0 < a4) ∧ a5 = 0)) (h1 : (0 ≤ a2 ∧ a5 = a2) ∨ (a2 < 0 ∧ a5 = a2 + 256)) (h2 : (a3 = 1 ∧ 48 ≤ a2 ∧ a2 ≤ 57) ∨ (a3 = 0 ∧ (a2 < 48 ∨ 57 < a2))) (h3 : ¬ (a3 = 0)) : (a0 + 1) ≤ a4 ∨ (a1 + 1) = 0 := by omega
theorem z_X11_number_19 (a0 : Int) (a1 : Nat) (h0 : 200 - a0 < ((a1 + 1 : Nat) : Int)) : 200 - (a0 + 1) < ((a1 : Nat) : Int) := by omega
theorem z_X11_number_20 (a0 : Int) (a1 : Int) (a2 : Int) (a3 : Int) (a4 : Int) (a5 : Int) (a6 : Int) (a7 : Int) (a8 : Int) (h0 : 0 ≤ a4 ∧ a4 ≤ 80) (h1 : 0 ≤ a5 ∧ a5 ≤ a4) (h2 : a5 ≤ a6) (h3 : (a8 = 45 ∧ a7 = a6 + 1) ∨ (a8 ≠ 45 ∧ a7 = a6)) (h4 : a0 = a7 + a2) (h5 : (a2 = 0 ∧ a1 = 0) ∨ (a2 = 1 ∧ 0 ≤ a1 ∧ a1 ≤ 9) ∨ (a2 = 2 ∧ 0 ≤ a1 ∧ a1 ≤ 99) ∨ (a2 = 3 ∧ 0 ≤ a1 ∧ a1 ≤ 999) ∨ (a2 = 4 ∧ 0 ≤ a1 ∧ a1 ≤ 9999) ∨ (5 ≤ a2 ∧ 0 ≤ a1 ∧ a1 ≤ 999999)) (h6 : a0 ≤ a4 ∨ a2 = 0) (h7 : a3 = (a2 + 1) ∨ (a2 + 1) < -2147483648 ∨ 2147483648 ≤ (a2 + 1)) : a3 = (a2 + 1) := by omega
theorem z_X11_number_23 (a0 : Int) (a1 : Int) (a2 : Int) (a3 : Int) (h0 : (a2 = 0 ∧ a1 = 0) ∨ (a2 = 1 ∧ 0 ≤ a1 ∧ a1 ≤ 9) ∨ (a2 = 2 ∧ 0 ≤ a1 ∧ a1 ≤ 99) ∨ (a2 = 3 ∧ 0 ≤ a1 ∧ a1 ≤ 999) ∨ (a2 = 4 ∧ 0 ≤ a1 ∧ a1 ≤ 9999) ∨ (5 ≤ a2 ∧ 0 ≤ a1 ∧ a1 ≤ 999999)) (h1 : a0 ≤ a3 ∨ a2 = 0) (h2 : ¬ (a1 ≤ (99999 : Int))) : 0 ≤ (a2 + 1) ∧ (a0 + 1) ≤ a3 + 1 := by omega
theorem z_X11_number_24 (a0 : Int) (a1 : Int) (h0 : (a1 = 0 ∧ a0 = 0) ∨ (a1 = 1 ∧ 0 ≤ a0 ∧ a0 ≤ 9) ∨ (a1 = 2 ∧ 0 ≤ a0 ∧ a0 ≤ 99) ∨ (a1 = 3 ∧ 0 ≤ a0 ∧ a0 ≤ 999) ∨ (a1 = 4 ∧ 0 ≤ a0 ∧ a0 ≤ 9999) ∨ (5 ≤ a1 ∧ 0 ≤ a0 ∧ a0 ≤ 999999)) : ((a1 + 1) = 0 ∧ a0 = 0) ∨ ((a1 + 1) = 1 ∧ 0 ≤ a0 ∧ a0 ≤ 9) ∨ ((a1 + 1) = 2 ∧ 0 ≤ a0 ∧ a0 ≤ 99) ∨ ((a1 + 1) = 3 ∧ 0 ≤ a0 ∧ a0 ≤ 999) ∨ ((a1 + 1) = 4 ∧ 0 ≤ a0 ∧ a0 ≤ 9999) ∨ (5 ≤ (a1 + 1) ∧ 0 ≤ a0 ∧ a0 ≤ 999999) := by omega
theorem z_X11_number_25 (a0 : Int) (a1 : Int) (a2 : Int) (h0 : (a1 = 0 ∧ a0 = 0) ∨ (a1 = 1 ∧ 0 ≤ a0 ∧ a0 ≤ 9) ∨ (a1 = 2 ∧ 0 ≤ a0 ∧ a0 ≤ 99) ∨ (a1 = 3 ∧ 0 ≤ a0 ∧ a0 ≤ 999) ∨ (a1 = 4 ∧ 0 ≤ a0 ∧ a0 ≤ 9999) ∨ (5 ≤ a1 ∧ 0 ≤ a0 ∧ a0 ≤ 999999)) (h1 : ¬ (a0 ≤ (99999 : Int))) : (a1 + 1) ≤ 4 → a0 = a2 := by omega
theorem z_X11_number_28 (a0 : Int) (a1 : Int) (a2 : Int) (a3 : Int) (h0 : -128 ≤ a0) (h1 : (0 ≤ a0 ∧ a3 = a0) ∨ (a0 < 0 ∧ a3 = a0 + 256)) (h2 : (a3 = 45 ∧ a2 = a1 + 1) ∨ (a3 ≠ 45 ∧ a2 = a1)) (h3 : a0 ≠ (45 : Int)) : a1 = a2 + (0 : Int) := by omega
theorem z_X11_number_29 (a0 : Int) (a1 : Int) (h0 : a1 ≤ a0) : 0 ≤ (0 : Int) ∧ a1 ≤ a0 + 1 := by omega
theorem z_X11_number_30 (a0 : Int) (h0 : a0 = 0) : (0 : Int) ≤ 4 → (0 : Int) = a0 := by omega
theorem z_X11_number_31 (a0 : Int) (a1 : Int) : a1 ≤ a0 ∨ (0 : Int) = 0 := by omega
theorem z_X11_number_32 (a0 : Int) (h0 : -2147483648 ≤ a0 ∧ a0 < 2147483648) : 200 - a0 < ((4294967297 : Nat) : Int) := by omega
theorem z_X11_number_33 (a0 : Int) (a1 : Int) (a2 : Int) (h0 : 0 ≤ a1 ∧ a1 ≤ 80) (h1 : a2 ≤ a1) (h2 : a0 = (a2 + (1 : Int)) ∨ (a2 + (1 : Int)) < -2147483648 ∨ 2147483648 ≤ (a2 + (1 : Int))) (h3 : -2147483648 ≤ a2 ∧ a2 < 2147483648) : a0 = (a2 + (1 : Int)) := by omega
theorem z_X11_number_46 (a0 : Int) (a1 : Int) (a2 : Int) (a3 : Int) (a4 : Int) (a5 : Int) (h0 : 0 ≤ a1 ∧ a0 ≤ a4 + 1) (h1 : ((0 ≤ a0 ∧ a0 < a4) ∧ True) ∨ (¬ (0 ≤ a0 ∧ a0 < a4) ∧ a5 = 0)) (h2 : (0 ≤ a2 ∧ a5 = a2) ∨ (a2 < 0 ∧ a5 = a2 + 256)) (h3 : (a3 = 1 ∧ 48 ≤ a2 ∧ a2 ≤ 57) ∨ (a3 = 0 ∧ (a2 < 48 ∨ 57 < a2))) (h4 : ¬ (a3 = 0)) : 0 ≤ (a1 + 1) ∧ (a0 + 1) ≤ a4 + 1 := by omega
theorem z_X11_number_59 (a0 : Int) (a1 : Int) (a2 : Int) (a3 : Int) (h0 : (0 ≤ a0 ∧ a3 = a0) ∨ (a0 < 0 ∧ a3 = a0 + 256)) (h1 : (a3 = 45 ∧ a2 = a1 + 1) ∨ (a3 ≠ 45 ∧ a2 = a1)) (h2 : ¬ (a0 ≠ (45 : Int))) : (a1 + (1 : Int)) = a2 + (0 : Int) := by omega
theorem z_X11_number_60 (a0 : Int) (a1 : Int) (h0 : a1 ≤ a0) : 0 ≤ (0 : Int) ∧ (a1 + (1 : Int)) ≤ a0 + 1 := by omega
theorem z_X11_number_62 (a0 : Int) (a1 : Int) : (a1 + (1 : Int)) ≤ a0 ∨ (0 : Int) = 0 := by omega
theorem z_X11_number_63 (a0 : Int) (h0 : -2147483648 ≤ a0 ∧ a0 < 2147483648) : 200 - (a0 + (1 : Int)) < ((4294967297 : Nat) : Int) := by omega
abbrev rm_X11_number : Room := { frames := 2, cells := 0, slots := 0, locals := 45 }
set_option maxHeartbeats 4000000 in
set_option maxRecDepth 100000 in
theorem c_X11_number (l : Launch) (E : XE) (K : Nat → Nat) (F : Nat → Nat → Nat) (G : XG) (a : Nat) (p0 : Int32) (p1 : Int32) (r1 : RSt) (ha : K a = 13) (nt0 : 0 ≤ ((G.1 a 36).toInt) ∧ ((G.1 a 36).toInt) ≤ 80) (hrm : RdM (tM (G.2.1 (F a 35)) ((G.1 a 36).toInt)) ((G.1 a 36).toInt) r1 ((G.1 a 39).toInt) ((G.1 a 37).toInt) ((G.1 a 38).toInt)) : Met l yX11_number (xw yX11_number cX11_number 8 (some .int)) rm_X11_number (va_Pc [.ref a, .int p0, .int p1] (XP E K F G)) (XQ E (fun v (u : XG) => ∃ r : Int32, v = .int r ∧ XFr [(a, 37), (a, 38), (a, 39)] [] [] G u ∧ (r.toInt = (tkN (tM (G.2.1 (F a 35)) ((G.1 a 36).toInt)) p0.toInt p1.toInt r1).1) ∧ (RdM (tM (G.2.1 (F a 35)) ((G.1 a 36).toInt)) ((G.1 a 36).toInt) (tkN (tM (G.2.1 (F a 35)) ((G.1 a 36).toInt)) p0.toInt p1.toInt r1).2 ((u.1 a 39).toInt) ((u.1 a 37).toInt) ((u.1 a 38).toInt))) (fun u H => TW E K F u H)) 0 0 (xA E) := by
  refine x_enter (by decide) (Nat.le_of_ble_eq_true rfl) ?_
  intro p e s m args below meth c Q S hr hlk hnm hQ hP ls hl
  obtain ⟨hz, hK, hT⟩ := hP
  obtain ⟨hx, hb, -, -, -⟩ := id S
  obtain ⟨H, hT, hS, hgo⟩ : ∃ H : Heap, TW E K F G H ∧ va_S (xA E) s.heap H [] ∧ H = s.heap := ⟨_, hT, va_S.rf, rfl⟩
  rw [← hgo]
  have hl : lv_has ls 8 [(0, .ref a), (1, .int p0), (2, .int p1)] := hl
  obtain ⟨hk9999, hj9999⟩ := fkX11_35 hT ha
  have z0 : 0 ≤ ((G.1 a 37).toInt) ∧ ((G.1 a 37).toInt) ≤ ((G.1 a 36).toInt) := hrm.2.2.2.2.1
  refine lv_aload_n hx hb dX11_number_0 rfl (lv_at hl 0 rfl) ?_
  refine gX11_39 S hK hT ha kf_X11_262 dX11_number_1 (v := (G.1 a 39)) rfl (fun hz1 => ?_)
  refine xi_zne (tgt := 9) hx hb (rfl : Int32.toInt (G.1 a 39) = ((G.1 a 39).toInt)) dX11_number_4 (by decide) (fun c4 => ?_) (fun c4 => ?_)
  · refine lv_aload_n hx hb dX11_number_9 rfl (lv_at hl 0 rfl) ?_
    refine x_cl0 (x_runV (b := a) (As := []) (rest := []) S (c_X11_next l E K F G a ha (nt0) (z0)) mv_X11_next km_X11_268 rfl rfl ⟨Nat.le_of_ble_eq_true rfl, Nat.le_of_ble_eq_true rfl⟩ (rc_13 hK hT ha) hK (fun _ => XP.blind) (fun U hU hW => XP.at hK hz hS hT hU hW) rfl hl.1 (Nat.le_of_ble_eq_true rfl) dX11_number_10 ⟨Nat.le_of_ble_eq_true rfl, Nat.le_of_ble_eq_true rfl⟩) hS ?_
    rintro _ G10 H locs ⟨x10, rfl, hF10, t10, oq10⟩ hT hS
    have t10 : -128 ≤ x10.toInt ∧ x10.toInt ≤ 127 ∧ ((0 ≤ x10.toInt ∧ (tM (G.2.1 (F a 35)) ((G.1 a 36).toInt) ((G10.1 a 37).toInt)) = x10.toInt) ∨ (x10.toInt < 0 ∧ (tM (G.2.1 (F a 35)) ((G.1 a 36).toInt) ((G10.1 a 37).toInt)) = x10.toInt + 256)) ∧ ((G.1 a 37).toInt) ≤ ((G10.1 a 37).toInt) ∧ ((G10.1 a 37).toInt) ≤ ((G.1 a 36).toInt) := t10
    have z13 : ((tM (G.2.1 (F a 35)) ((G.1 a 36).toInt) ((G10.1 a 37).toInt)) = 45 ∧ (nS (tM (G.2.1 (F a 35)) ((G.1 a 36).toInt)) ((G10.1 a 37).toInt)) = ((G10.1 a 37).toInt) + 1) ∨ ((tM (G.2.1 (F a 35)) ((G.1 a 36).toInt) ((G10.1 a 37).toInt)) ≠ 45 ∧ (nS (tM (G.2.1 (F a 35)) ((G.1 a 36).toInt)) ((G10.1 a 37).toInt)) = ((G10.1 a 37).toInt)) := (nS_f _ _).imp (fun h => ⟨h.1, h.2.1⟩) (fun h => ⟨h.1, h.2.1⟩)
    have z13a : (nv (tM (G.2.1 (F a 35)) ((G.1 a 36).toInt)) (nS (tM (G.2.1 (F a 35)) ((G.1 a 36).toInt)) ((G10.1 a 37).toInt)) 0) = 0 := nv_0 _ _
    refine lv_bipush (v := 45) hx hb dX11_number_13 (by decide) ?_
    refine xi_cne (tgt := 22) hx hb (rfl : Int32.toInt x10 = x10.toInt) ((by decide) : Int32.toInt 45 = (45 : Int)) dX11_number_15 (by decide) (fun c15 => ?_) (fun c15 => ?_)
    · refine lv_iconst (v := 0) hx hb dX11_number_22 (by decide) ?_
      refine lv_istore_n (lv' := [(3, .int 0), (0, .ref a), (1, .int p0), (2, .int p1)]) hx hb dX11_number_23 rfl hl (by decide) rfl (fun ls hl => ?_)
      refine lv_aload_n hx hb dX11_number_24 rfl (lv_at hl 1 rfl) ?_
      refine gX11_37 S hK hT ha kf_X11_256 dX11_number_25 (v := (G10.1 a 37)) rfl (?_)
      refine lv_istore (lv' := [(4, .int (G10.1 a 37)), (3, .int 0), (0, .ref a), (1, .int p0), (2, .int p1)]) hx hb dX11_number_28 hl (by decide) rfl (fun ls hl => ?_)
      refine lv_iload_n hx hb dX11_number_30 rfl (lv_at hl 1 rfl) ?_
      refine xi_zeq (tgt := 43) hx hb ((by decide) : Int32.toInt 0 = (0 : Int)) dX11_number_31 (by decide) (fun _ => ?_) (fun c => absurd (show (0 : Int) = 0 by decide) c)
      refine lv_aload_n hx hb dX11_number_43 rfl (lv_at hl 2 rfl) ?_
      refine gX11_37 S hK hT ha kf_X11_256 dX11_number_44 (v := (G10.1 a 37)) rfl (?_)
      refine lv_istore (lv' := [(5, .int (G10.1 a 37)), (4, .int (G10.1 a 37)), (3, .int 0), (0, .ref a), (1, .int p0), (2, .int p1)]) hx hb dX11_number_47 hl (by decide) rfl (fun ls hl => ?_)
      refine lv_iconst (v := 0) hx hb dX11_number_49 (by decide) ?_
      refine lv_istore (lv' := [(6, .int 0), (5, .int (G10.1 a 37)), (4, .int (G10.1 a 37)), (3, .int 0), (0, .ref a), (1, .int p0), (2, .int p1)]) hx hb dX11_number_50 hl (by decide) rfl (fun ls hl => ?_)
      refine lv_iconst (v := 0) hx hb dX11_number_52 (by decide) ?_
      refine lv_istore (lv' := [(7, .int 0), (6, .int 0), (5, .int (G10.1 a 37)), (4, .int (G10.1 a 37)), (3, .int 0), (0, .ref a), (1, .int p0), (2, .int p1)]) hx hb dX11_number_53 hl (by decide) rfl (fun ls hl => ?_)
      have L55 : ∀ (N55 : Nat) (l5_55 : Int32) (l6_55 : Int32) (l7_55 : Int32) (H : Heap) (locs : List Loc) (ls : Array Slot), (∀ j : Int, nS (tM (G.2.1 (F a 35)) ((G.1 a 36).toInt)) ((G10.1 a 37).toInt) ≤ j → j < l5_55.toInt → cDg ((tM (G.2.1 (F a 35)) ((G.1 a 36).toInt)) j)) → l5_55.toInt = (nS (tM (G.2.1 (F a 35)) ((G.1 a 36).toInt)) ((G10.1 a 37).toInt)) + l7_55.toInt → 0 ≤ l7_55.toInt ∧ l5_55.toInt ≤ ((G.1 a 36).toInt) + 1 → (l7_55.toInt = 0 ∧ l6_55.toInt = 0) ∨ (l7_55.toInt = 1 ∧ 0 ≤ l6_55.toInt ∧ l6_55.toInt ≤ 9) ∨ (l7_55.toInt = 2 ∧ 0 ≤ l6_55.toInt ∧ l6_55.toInt ≤ 99) ∨ (l7_55.toInt = 3 ∧ 0 ≤ l6_55.toInt ∧ l6_55.toInt ≤ 999) ∨ (l7_55.toInt = 4 ∧ 0 ≤ l6_55.toInt ∧ l6_55.toInt ≤ 9999) ∨ (5 ≤ l7_55.toInt ∧ 0 ≤ l6_55.toInt ∧ l6_55.toInt ≤ 999999) → (l7_55.toInt ≤ 4 → l6_55.toInt = (nv (tM (G.2.1 (F a 35)) ((G.1 a 36).toInt)) (nS (tM (G.2.1 (F a 35)) ((G.1 a 36).toInt)) ((G10.1 a 37).toInt)) (l7_55.toInt))) → l5_55.toInt ≤ ((G.1 a 36).toInt) ∨ l7_55.toInt = 0 → 200 - l5_55.toInt < ((N55 : Nat) : Int) → TW E K F G10 H → va_S (xA E) s.heap H locs → lv_has ls 8 [(0, .ref a), (1, .int p0), (2, .int p1), (3, .int 0), (4, .int (G10.1 a 37)), (5, .int l5_55), (6, .int l6_55), (7, .int l7_55)] → W p l e rm_X11_number s m args below meth c H locs 0 0 Q (F0 m 55 ls []) := by
        intro N55
        induction N55 with
        | zero =>
          intro l5_55 l6_55 l7_55 H locs ls pd I55_0 I55_1 I55_2 I55_3 I55_4 hm55
          exact absurd hm55 (z_X11_number_3 l5_55.toInt l7_55.toInt ((G.1 a 36).toInt) I55_1 nt0)
        | succ N55 ih55 =>
          intro l5_55 l6_55 l7_55 H locs ls pd I55_0 I55_1 I55_2 I55_3 I55_4 hm55 hT hS hl
          have z55 : ((0 ≤ l5_55.toInt ∧ l5_55.toInt < ((G.1 a 36).toInt)) ∧ True) ∨ (¬ (0 ≤ l5_55.toInt ∧ l5_55.toInt < ((G.1 a 36).toInt)) ∧ (tM (G.2.1 (F a 35)) ((G.1 a 36).toInt) (l5_55.toInt)) = 0) := (tM_f _ _ _).imp (fun h => ⟨h.1, trivial⟩) id
          refine lv_aload_n hx hb dX11_number_55 rfl (lv_at hl 0 rfl) ?_
          refine lv_iload hx hb dX11_number_56 (lv_at hl 5 rfl) ?_
          refine x_clp (x_runV (b := a) (As := [.int l5_55]) (rest := []) S (c_X11_signAt l E K F G10 H a l5_55 ha (by rw [(show (G10.1 a 36).toInt = ((G.1 a 36).toInt) from (congrArg Int32.toInt (hF10.1 _ _ (xnj (by decide) xn0))).trans (rfl : Int32.toInt (G.1 a 36) = ((G.1 a 36).toInt)))] <;> exact (nt0)) (z_X11_number_5 l5_55.toInt l7_55.toInt ((G.1 a 36).toInt) ((G.1 a 37).toInt) ((G10.1 a 37).toInt) (nS (tM (G.2.1 (F a 35)) ((G.1 a 36).toInt)) ((G10.1 a 37).toInt)) (tM (G.2.1 (F a 35)) ((G.1 a 36).toInt) ((G10.1 a 37).toInt)) z0 (t10).2.2.2.1 z13 I55_0 I55_1)) mv_X11_signAt km_X11_259 rfl rfl ⟨Nat.le_of_ble_eq_true rfl, Nat.le_of_ble_eq_true rfl⟩ (rc_13 hK hT ha) hK (fun _ => XPh.blind) (fun U hU hW => XPh.at hK hz hS hT hU hW) rfl hl.1 (Nat.le_of_ble_eq_true rfl) dX11_number_58 ⟨Nat.le_of_ble_eq_true rfl, Nat.le_of_ble_eq_true rfl⟩) hS ?_
          rintro _ _ locs ⟨x58, rfl, t58⟩ hS
          have t58 : -128 ≤ x58.toInt ∧ x58.toInt ≤ 127 ∧ ((0 ≤ x58.toInt ∧ (tM (G.2.1 (F a 35)) ((G.1 a 36).toInt) (l5_55.toInt)) = x58.toInt) ∨ (x58.toInt < 0 ∧ (tM (G.2.1 (F a 35)) ((G.1 a 36).toInt) (l5_55.toInt)) = x58.toInt + 256)) := by rw [(show G10.2.1 (F a 35) = G.2.1 (F a 35) from (hF10.2.1 _ xn0))] at t58; rw [(show (G10.1 a 36).toInt = ((G.1 a 36).toInt) from (congrArg Int32.toInt (hF10.1 _ _ (xnj (by decide) xn0))).trans (rfl : Int32.toInt (G.1 a 36) = ((G.1 a 36).toInt)))] at t58; exact t58
          refine x_clp (x_runS (As := [.int x58]) (rest := []) S (c_X11_isDigit l E K F G10 H x58) ms_X11_isDigit km_X11_275 rfl rfl ⟨Nat.le_of_ble_eq_true rfl, Nat.le_of_ble_eq_true rfl⟩ hK (fun _ => XPh.blind) (fun U hU hW => XPh.at hK hz hS hT hU hW) rfl hl.1 (Nat.le_of_ble_eq_true rfl) dX11_number_61 ⟨Nat.le_of_ble_eq_true rfl, Nat.le_of_ble_eq_true rfl⟩) hS ?_
          rintro _ _ locs ⟨x61, rfl, b61, t61⟩ hS
          have t61 : (x61.toInt = 1 ∧ 48 ≤ x58.toInt ∧ x58.toInt ≤ 57) ∨ (x61.toInt = 0 ∧ (x58.toInt < 48 ∨ 57 < x58.toInt)) := t61
          refine xi_zeq (tgt := 106) hx hb (rfl : Int32.toInt x61 = x61.toInt) dX11_number_64 (by decide) (fun c64 => ?_) (fun c64 => ?_)
          · refine lv_iload_n hx hb dX11_number_106 rfl (lv_at hl 3 rfl) ?_
            refine xi_zeq (tgt := 116) hx hb ((by decide) : Int32.toInt 0 = (0 : Int)) dX11_number_107 (by decide) (fun _ => ?_) (fun c => absurd (show (0 : Int) = 0 by decide) c)
            refine lv_iload hx hb dX11_number_116 (lv_at hl 6 rfl) ?_
            refine lv_istore (lv' := [(6, .int l6_55), (0, .ref a), (1, .int p0), (2, .int p1), (3, .int 0), (4, .int (G10.1 a 37)), (5, .int l5_55), (7, .int l7_55)]) hx hb dX11_number_118 hl (by decide) rfl (fun ls hl => ?_)
            refine lv_iload hx hb dX11_number_120 (lv_at hl 7 rfl) ?_
            refine xi_zeq (tgt := 144) hx hb (rfl : Int32.toInt l7_55 = l7_55.toInt) dX11_number_122 (by decide) (fun c122 => ?_) (fun c122 => ?_)
            · refine lv_aload_n hx hb dX11_number_144 rfl (lv_at hl 1 rfl) ?_
              refine lv_iload hx hb dX11_number_145 (lv_at hl 5 rfl) ?_
              refine x_cv0 (x_runV (b := a) (As := [.int (G10.1 a 37)]) (rest := []) S (c_X11_wrong l E K F G10 a (G10.1 a 37) ha) mv_X11_wrong km_X11_279 rfl rfl ⟨Nat.le_of_ble_eq_true rfl, Nat.le_of_ble_eq_true rfl⟩ (rc_13 hK hT ha) hK (fun _ => XP.blind) (fun U hU hW => XP.at hK hz hS hT hU hW) rfl hl.1 (Nat.le_of_ble_eq_true rfl) dX11_number_147 ⟨Nat.le_of_ble_eq_true rfl, Nat.le_of_ble_eq_true rfl⟩) hS ?_
              rintro G147 H locs ⟨hF147, t147⟩ hT hS
              have t147 : ((G147.1 a 39).toInt) = 0 ∧ (((G.1 a 39).toInt) ≠ 0 → ((G147.1 a 38).toInt) = ((G10.1 a 37).toInt)) ∧ (((G.1 a 39).toInt) = 0 → ((G147.1 a 38).toInt) = ((G.1 a 38).toInt)) := by rw [(show (G10.1 a 39).toInt = ((G.1 a 39).toInt) from (congrArg Int32.toInt (hF10.1 _ _ (xnj (by decide) xn0))).trans (rfl : Int32.toInt (G.1 a 39) = ((G.1 a 39).toInt)))] at t147; rw [(show (G10.1 a 38).toInt = ((G.1 a 38).toInt) from (congrArg Int32.toInt (hF10.1 _ _ (xnj (by decide) xn0))).trans (rfl : Int32.toInt (G.1 a 38) = ((G.1 a 38).toInt)))] at t147; exact t147
              refine lv_iconst (v := 0) hx hb dX11_number_150 (by decide) ?_
              exact x_ri hx hb hr hlk hQ (Nat.le_of_ble_eq_true rfl) (Nat.le_of_ble_eq_true rfl) hS dX11_number_151 G147 ⟨_, rfl, (XFr.call (XFr.call XFr.rf hF10 (xm1 0 rfl xm0) xm0 xm0) hF147 (xm1 1 rfl (xm1 2 rfl xm0)) xm0 xm0), (v_X11_number_151_1 (K := K) (F := F) a G G10 G147 r1 l5_55 x10 l7_55 l6_55 N55 x58 x61 p0 p1 ha hrm oq10 pd nt0 z0 (xzi hz1) c4 t10 z13 z13a c15 I55_0 I55_1 I55_2 I55_3 I55_4 hm55 z55 t58 t61 c64 c122 t147), (v_X11_number_151_2 (K := K) (F := F) a G G10 G147 r1 l5_55 x10 l7_55 l6_55 N55 x58 x61 p0 p1 ha hrm oq10 pd nt0 z0 (xzi hz1) c4 t10 z13 z13a c15 I55_0 I55_1 I55_2 I55_3 I55_4 hm55 z55 t58 t61 c64 c122 t147 (hF147.1 _ _ (xnj (by decide) (xnj (by decide) xn0))))⟩ hT
            · refine lv_iload hx hb dX11_number_125 (lv_at hl 7 rfl) ?_
              refine lv_iconst (v := 4) hx hb dX11_number_127 (by decide) ?_
              refine xi_cgt (tgt := 144) hx hb (rfl : Int32.toInt l7_55 = l7_55.toInt) ((by decide) : Int32.toInt 4 = (4 : Int)) dX11_number_128 (by decide) (fun c128 => ?_) (fun c128 => ?_)
              · refine lv_aload_n hx hb dX11_number_144 rfl (lv_at hl 1 rfl) ?_
                refine lv_iload hx hb dX11_number_145 (lv_at hl 5 rfl) ?_
                refine x_cv0 (x_runV (b := a) (As := [.int (G10.1 a 37)]) (rest := []) S (c_X11_wrong l E K F G10 a (G10.1 a 37) ha) mv_X11_wrong km_X11_279 rfl rfl ⟨Nat.le_of_ble_eq_true rfl, Nat.le_of_ble_eq_true rfl⟩ (rc_13 hK hT ha) hK (fun _ => XP.blind) (fun U hU hW => XP.at hK hz hS hT hU hW) rfl hl.1 (Nat.le_of_ble_eq_true rfl) dX11_number_147 ⟨Nat.le_of_ble_eq_true rfl, Nat.le_of_ble_eq_true rfl⟩) hS ?_
                rintro G147 H locs ⟨hF147, t147⟩ hT hS
                have t147 : ((G147.1 a 39).toInt) = 0 ∧ (((G.1 a 39).toInt) ≠ 0 → ((G147.1 a 38).toInt) = ((G10.1 a 37).toInt)) ∧ (((G.1 a 39).toInt) = 0 → ((G147.1 a 38).toInt) = ((G.1 a 38).toInt)) := by rw [(show (G10.1 a 39).toInt = ((G.1 a 39).toInt) from (congrArg Int32.toInt (hF10.1 _ _ (xnj (by decide) xn0))).trans (rfl : Int32.toInt (G.1 a 39) = ((G.1 a 39).toInt)))] at t147; rw [(show (G10.1 a 38).toInt = ((G.1 a 38).toInt) from (congrArg Int32.toInt (hF10.1 _ _ (xnj (by decide) xn0))).trans (rfl : Int32.toInt (G.1 a 38) = ((G.1 a 38).toInt)))] at t147; exact t147
                refine lv_iconst (v := 0) hx hb dX11_number_150 (by decide) ?_
                exact x_ri hx hb hr hlk hQ (Nat.le_of_ble_eq_true rfl) (Nat.le_of_ble_eq_true rfl) hS dX11_number_151 G147 ⟨_, rfl, (XFr.call (XFr.call XFr.rf hF10 (xm1 0 rfl xm0) xm0 xm0) hF147 (xm1 1 rfl (xm1 2 rfl xm0)) xm0 xm0), (v_X11_number_151_3 (K := K) (F := F) a G G10 G147 r1 l5_55 x10 l7_55 l6_55 N55 x58 x61 p0 p1 ha hrm oq10 pd nt0 z0 (xzi hz1) c4 t10 z13 z13a c15 I55_0 I55_1 I55_2 I55_3 I55_4 hm55 z55 t58 t61 c64 c122 c128 t147), (v_X11_number_151_4 (K := K) (F := F) a G G10 G147 r1 l5_55 x10 l7_55 l6_55 N55 x58 x61 p0 p1 ha hrm oq10 pd nt0 z0 (xzi hz1) c4 t10 z13 z13a c15 I55_0 I55_1 I55_2 I55_3 I55_4 hm55 z55 t58 t61 c64 c122 c128 t147 (hF147.1 _ _ (xnj (by decide) (xnj (by decide) xn0))))⟩ hT
              · refine lv_iload hx hb dX11_number_131 (lv_at hl 0 rfl) ?_
                refine lv_i2l (v := l6_55.toInt64) hx hb dX11_number_133 rfl ?_
                refine lv_iload_n hx hb dX11_number_134 rfl (lv_at hl 2 rfl) ?_
                refine lv_i2l (v := p0.toInt64) hx hb dX11_number_135 rfl ?_
                refine lv_iload_n hx hb dX11_number_136 rfl (lv_at hl 3 rfl) ?_
                refine lv_i2l (v := p1.toInt64) hx hb dX11_number_137 rfl ?_
                refine x_clp (x_runS (As := [.long l6_55.toInt64, .long p0.toInt64, .long p1.toInt64]) (rest := []) S (c_X11_in l E K F G10 H l6_55.toInt64 l6_55.toInt p0.toInt64 p0.toInt p1.toInt64 p1.toInt (xl_i2l (rfl : Int32.toInt l6_55 = l6_55.toInt)) (xl_i2l (rfl : Int32.toInt p0 = p0.toInt)) (xl_i2l (rfl : Int32.toInt p1 = p1.toInt))) ms_X11_in km_X11_139 rfl rfl ⟨Nat.le_of_ble_eq_true rfl, Nat.le_of_ble_eq_true rfl⟩ hK (fun _ => XPh.blind) (fun U hU hW => XPh.at hK hz hS hT hU hW) rfl hl.1 (Nat.le_of_ble_eq_true rfl) dX11_number_138 ⟨Nat.le_of_ble_eq_true rfl, Nat.le_of_ble_eq_true rfl⟩) hS ?_
                rintro _ _ locs ⟨x138, rfl, b138, t138⟩ hS
                have t138 : (x138.toInt = 1 ∧ p0.toInt ≤ l6_55.toInt ∧ l6_55.toInt ≤ p1.toInt) ∨ (x138.toInt = 0 ∧ (l6_55.toInt < p0.toInt ∨ p1.toInt < l6_55.toInt)) := t138
                refine xi_zne (tgt := 152) hx hb (rfl : Int32.toInt x138 = x138.toInt) dX11_number_141 (by decide) (fun c141 => ?_) (fun c141 => ?_)
                · refine lv_aload_n hx hb dX11_number_152 rfl (lv_at hl 1 rfl) ?_
                  refine lv_iload hx hb dX11_number_153 (lv_at hl 6 rfl) ?_
                  refine pX11_37 (v := l5_55) S hK hT hS ha kf_X11_256 dX11_number_155 (fun H locs hT hS => ?_)
                  obtain ⟨G155, hG155⟩ : ∃ GG : XG, GG = dput G10 a 37 l5_55 := ⟨_, rfl⟩
                  rw [← hG155] at hT
                  refine lv_iload hx hb dX11_number_158 (lv_at hl 0 rfl) ?_
                  exact x_ri hx hb hr hlk hQ (Nat.le_of_ble_eq_true rfl) (Nat.le_of_ble_eq_true rfl) hS dX11_number_160 G155 ⟨_, rfl, (by rw [hG155]; exact XFr.dput (XFr.call XFr.rf hF10 (xm1 0 rfl xm0) xm0 xm0) (List.mem_of_getElem? (i := 0) rfl)), (v_X11_number_160_5 (K := K) (F := F) a G G10 l5_55 r1 x10 l7_55 l6_55 N55 x58 x61 x138 p0 p1 ha hrm oq10 pd nt0 z0 (xzi hz1) c4 t10 z13 z13a c15 I55_0 I55_1 I55_2 I55_3 I55_4 hm55 z55 t58 t61 c64 c122 c128 t138 c141), (v_X11_number_160_6 (K := K) (F := F) a G G10 G155 l5_55 r1 x10 l7_55 l6_55 N55 x58 x61 x138 p0 p1 ha hrm oq10 pd nt0 z0 (xzi hz1) c4 t10 z13 z13a c15 I55_0 I55_1 I55_2 I55_3 I55_4 hm55 z55 t58 t61 c64 c122 c128 t138 c141 (ld_at hG155) ((ld_j hG155 (by decide)).trans (hF10.1 _ _ (xnj (by decide) xn0))))⟩ hT
                · refine lv_aload_n hx hb dX11_number_144 rfl (lv_at hl 1 rfl) ?_
                  refine lv_iload hx hb dX11_number_145 (lv_at hl 5 rfl) ?_
                  refine x_cv0 (x_runV (b := a) (As := [.int (G10.1 a 37)]) (rest := []) S (c_X11_wrong l E K F G10 a (G10.1 a 37) ha) mv_X11_wrong km_X11_279 rfl rfl ⟨Nat.le_of_ble_eq_true rfl, Nat.le_of_ble_eq_true rfl⟩ (rc_13 hK hT ha) hK (fun _ => XP.blind) (fun U hU hW => XP.at hK hz hS hT hU hW) rfl hl.1 (Nat.le_of_ble_eq_true rfl) dX11_number_147 ⟨Nat.le_of_ble_eq_true rfl, Nat.le_of_ble_eq_true rfl⟩) hS ?_
                  rintro G147 H locs ⟨hF147, t147⟩ hT hS
                  have t147 : ((G147.1 a 39).toInt) = 0 ∧ (((G.1 a 39).toInt) ≠ 0 → ((G147.1 a 38).toInt) = ((G10.1 a 37).toInt)) ∧ (((G.1 a 39).toInt) = 0 → ((G147.1 a 38).toInt) = ((G.1 a 38).toInt)) := by rw [(show (G10.1 a 39).toInt = ((G.1 a 39).toInt) from (congrArg Int32.toInt (hF10.1 _ _ (xnj (by decide) xn0))).trans (rfl : Int32.toInt (G.1 a 39) = ((G.1 a 39).toInt)))] at t147; rw [(show (G10.1 a 38).toInt = ((G.1 a 38).toInt) from (congrArg Int32.toInt (hF10.1 _ _ (xnj (by decide) xn0))).trans (rfl : Int32.toInt (G.1 a 38) = ((G.1 a 38).toInt)))] at t147; exact t147
                  refine lv_iconst (v := 0) hx hb dX11_number_150 (by decide) ?_
                  exact x_ri hx hb hr hlk hQ (Nat.le_of_ble_eq_true rfl) (Nat.le_of_ble_eq_true rfl) hS dX11_number_151 G147 ⟨_, rfl, (XFr.call (XFr.call XFr.rf hF10 (xm1 0 rfl xm0) xm0 xm0) hF147 (xm1 1 rfl (xm1 2 rfl xm0)) xm0 xm0), (v_X11_number_151_7 (K := K) (F := F) a G G10 G147 r1 l5_55 x10 l7_55 l6_55 N55 x58 x61 x138 p0 p1 ha hrm oq10 pd nt0 z0 (xzi hz1) c4 t10 z13 z13a c15 I55_0 I55_1 I55_2 I55_3 I55_4 hm55 z55 t58 t61 c64 c122 c128 t138 c141 t147), (v_X11_number_151_8 (K := K) (F := F) a G G10 G147 r1 l5_55 x10 l7_55 l6_55 N55 x58 x61 x138 p0 p1 ha hrm oq10 pd nt0 z0 (xzi hz1) c4 t10 z13 z13a c15 I55_0 I55_1 I55_2 I55_3 I55_4 hm55 z55 t58 t61 c64 c122 c128 t138 c141 t147 (hF147.1 _ _ (xnj (by decide) (xnj (by decide) xn0))))⟩ hT
          · have z67 : (nv (tM (G.2.1 (F a 35)) ((G.1 a 36).toInt)) (nS (tM (G.2.1 (F a 35)) ((G.1 a 36).toInt)) ((G10.1 a 37).toInt)) (l7_55.toInt + 1)) = 10 * (nv (tM (G.2.1 (F a 35)) ((G.1 a 36).toInt)) (nS (tM (G.2.1 (F a 35)) ((G.1 a 36).toInt)) ((G10.1 a 37).toInt)) (l7_55.toInt)) + ((tM (G.2.1 (F a 35)) ((G.1 a 36).toInt) ((nS (tM (G.2.1 (F a 35)) ((G.1 a 36).toInt)) ((G10.1 a 37).toInt)) + l7_55.toInt)) - 48) := nv_s (z_X11_number_6 l5_55.toInt l7_55.toInt ((G.1 a 36).toInt) I55_1)
            have z67a : l5_55.toInt = (nS (tM (G.2.1 (F a 35)) ((G.1 a 36).toInt)) ((G10.1 a 37).toInt)) + l7_55.toInt → (tM (G.2.1 (F a 35)) ((G.1 a 36).toInt) ((nS (tM (G.2.1 (F a 35)) ((G.1 a 36).toInt)) ((G10.1 a 37).toInt)) + l7_55.toInt)) = (tM (G.2.1 (F a 35)) ((G.1 a 36).toInt) (l5_55.toInt)) := fun h9 => by rw [h9]
            refine lv_iload hx hb dX11_number_67 (lv_at hl 6 rfl) ?_
            refine lv_ldcw (v := 99999) hx hb S.2.2.2.1 (S.2.2.2.2 _ (List.mem_cons_of_mem _ kc_X11_278)) dX11_number_69 ?_
            refine xi_cle (tgt := 80) hx hb (rfl : Int32.toInt l6_55 = l6_55.toInt) ((by decide) : Int32.toInt 99999 = (99999 : Int)) dX11_number_72 (by decide) (fun c72 => ?_) (fun c72 => ?_)
            · refine lv_bipush (v := 10) hx hb dX11_number_80 (by decide) ?_
              refine lv_iload hx hb dX11_number_82 (lv_at hl 6 rfl) ?_
              refine xi_imul hx hb ((by decide) : Int32.toInt 10 = (10 : Int)) (rfl : Int32.toInt l6_55 = l6_55.toInt) dX11_number_84 (fun x84 t84 => ?_)
              have e84 : x84.toInt = ((10 : Int) * l6_55.toInt) := (z_X11_number_7 l6_55.toInt l7_55.toInt x84.toInt I55_2 t84)
              refine lv_aload_n hx hb dX11_number_85 rfl (lv_at hl 0 rfl) ?_
              refine lv_iload hx hb dX11_number_86 (lv_at hl 5 rfl) ?_
              refine x_clp (x_runV (b := a) (As := [.int l5_55]) (rest := [.int x84]) S (c_X11_signAt l E K F G10 H a l5_55 ha (by rw [(show (G10.1 a 36).toInt = ((G.1 a 36).toInt) from (congrArg Int32.toInt (hF10.1 _ _ (xnj (by decide) xn0))).trans (rfl : Int32.toInt (G.1 a 36) = ((G.1 a 36).toInt)))] <;> exact (nt0)) (z_X11_number_5 l5_55.toInt l7_55.toInt ((G.1 a 36).toInt) ((G.1 a 37).toInt) ((G10.1 a 37).toInt) (nS (tM (G.2.1 (F a 35)) ((G.1 a 36).toInt)) ((G10.1 a 37).toInt)) (tM (G.2.1 (F a 35)) ((G.1 a 36).toInt) ((G10.1 a 37).toInt)) z0 (t10).2.2.2.1 z13 I55_0 I55_1)) mv_X11_signAt km_X11_259 rfl rfl ⟨Nat.le_of_ble_eq_true rfl, Nat.le_of_ble_eq_true rfl⟩ (rc_13 hK hT ha) hK (fun _ => XPh.blind) (fun U hU hW => XPh.at hK hz hS hT hU hW) rfl hl.1 (Nat.le_of_ble_eq_true rfl) dX11_number_88 ⟨Nat.le_of_ble_eq_true rfl, Nat.le_of_ble_eq_true rfl⟩) hS ?_
              rintro _ _ locs ⟨x88, rfl, t88⟩ hS
              have t88 : -128 ≤ x88.toInt ∧ x88.toInt ≤ 127 ∧ ((0 ≤ x88.toInt ∧ (tM (G.2.1 (F a 35)) ((G.1 a 36).toInt) (l5_55.toInt)) = x88.toInt) ∨ (x88.toInt < 0 ∧ (tM (G.2.1 (F a 35)) ((G.1 a 36).toInt) (l5_55.toInt)) = x88.toInt + 256)) := by rw [(show G10.2.1 (F a 35) = G.2.1 (F a 35) from (hF10.2.1 _ xn0))] at t88; rw [(show (G10.1 a 36).toInt = ((G.1 a 36).toInt) from (congrArg Int32.toInt (hF10.1 _ _ (xnj (by decide) xn0))).trans (rfl : Int32.toInt (G.1 a 36) = ((G.1 a 36).toInt)))] at t88; exact t88
              refine xi_iadd hx hb (e84 : Int32.toInt x84 = ((10 : Int) * l6_55.toInt)) (rfl : Int32.toInt x88 = x88.toInt) dX11_number_91 (fun x91 t91 => ?_)
              have e91 : x91.toInt = (((10 : Int) * l6_55.toInt) + x88.toInt) := (z_X11_number_10 l6_55.toInt l7_55.toInt x88.toInt x91.toInt I55_2 (t88).1 (t88).2.1 t91)
              refine lv_bipush (v := 48) hx hb dX11_number_92 (by decide) ?_
              refine xi_isub hx hb (e91 : Int32.toInt x91 = (((10 : Int) * l6_55.toInt) + x88.toInt)) ((by decide) : Int32.toInt 48 = (48 : Int)) dX11_number_94 (fun x94 t94 => ?_)
              have e94 : x94.toInt = ((((10 : Int) * l6_55.toInt) + x88.toInt) - (48 : Int)) := (z_X11_number_11 l6_55.toInt l7_55.toInt x88.toInt x94.toInt I55_2 (t88).1 (t88).2.1 t94)
              refine lv_istore (lv' := [(6, .int x94), (0, .ref a), (1, .int p0), (2, .int p1), (3, .int 0), (4, .int (G10.1 a 37)), (5, .int l5_55), (7, .int l7_55)]) hx hb dX11_number_95 hl (by decide) rfl (fun ls hl => ?_)
              refine xi_iinc (n := 1) (lv' := fun z9 => [(7, .int z9), (6, .int x94), (0, .ref a), (1, .int p0), (2, .int p1), (3, .int 0), (4, .int (G10.1 a 37)), (5, .int l5_55)]) (k := 7) hx hb (rfl : Int32.toInt l7_55 = l7_55.toInt) (by decide) dX11_number_97 hl rfl (by decide) (fun _ => rfl) (fun x97 ls t97 hl => ?_)
              have e97 : x97.toInt = (l7_55.toInt + 1) := (z_X11_number_12 l5_55.toInt l7_55.toInt x97.toInt ((G.1 a 36).toInt) ((G.1 a 37).toInt) ((G10.1 a 37).toInt) (nS (tM (G.2.1 (F a 35)) ((G.1 a 36).toInt)) ((G10.1 a 37).toInt)) (tM (G.2.1 (F a 35)) ((G.1 a 36).toInt) ((G10.1 a 37).toInt)) nt0 z0 (t10).2.2.2.1 z13 I55_0 I55_1 t97)
              have hl : lv_has ls 8 [(7, .int x97), (6, .int x94), (0, .ref a), (1, .int p0), (2, .int p1), (3, .int 0), (4, .int (G10.1 a 37)), (5, .int l5_55)] := hl
              refine xi_iinc (n := 1) (lv' := fun z9 => [(5, .int z9), (7, .int x97), (6, .int x94), (0, .ref a), (1, .int p0), (2, .int p1), (3, .int 0), (4, .int (G10.1 a 37))]) (k := 7) hx hb (rfl : Int32.toInt l5_55 = l5_55.toInt) (by decide) dX11_number_100 hl rfl (by decide) (fun _ => rfl) (fun x100 ls t100 hl => ?_)
              have e100 : x100.toInt = (l5_55.toInt + 1) := (z_X11_number_13 l5_55.toInt l7_55.toInt x100.toInt ((G.1 a 36).toInt) nt0 I55_1 t100 (xr l5_55))
              have hl : lv_has ls 8 [(5, .int x100), (7, .int x97), (6, .int x94), (0, .ref a), (1, .int p0), (2, .int p1), (3, .int 0), (4, .int (G10.1 a 37))] := hl
              refine lv_goto (tgt := 55) hx hb dX11_number_103 (by decide) ?_
              exact ih55 x100 x94 x97 _ _ _ (by rw [(e100 : Int32.toInt x100 = (l5_55.toInt + 1))] <;> exact (v_X11_number_103_9 (K := K) (F := F) a G G10 l5_55 l6_55 x88 l7_55 x10 N55 x58 x61 ha oq10 pd nt0 z0 (xzi hz1) c4 t10 z13 z13a c15 I55_0 I55_1 I55_2 I55_3 I55_4 hm55 z55 t58 t61 c64 z67 z67a c72 t88)) (by rw [(e100 : Int32.toInt x100 = (l5_55.toInt + 1)), (e97 : Int32.toInt x97 = (l7_55.toInt + 1))] <;> exact (z_X11_number_14 l5_55.toInt l7_55.toInt (nS (tM (G.2.1 (F a 35)) ((G.1 a 36).toInt)) ((G10.1 a 37).toInt)) I55_0)) (by rw [(e97 : Int32.toInt x97 = (l7_55.toInt + 1)), (e100 : Int32.toInt x100 = (l5_55.toInt + 1))] <;> exact (z_X11_number_15 l5_55.toInt l7_55.toInt x10.toInt ((G.1 a 36).toInt) ((G10.1 a 37).toInt) (nS (tM (G.2.1 (F a 35)) ((G.1 a 36).toInt)) ((G10.1 a 37).toInt)) (tM (G.2.1 (F a 35)) ((G.1 a 36).toInt) ((G10.1 a 37).toInt)) (t10).1 (t10).2.2.1 (t10).2.2.2.2 z13 c15 I55_0 I55_1 I55_4)) (by rw [(e97 : Int32.toInt x97 = (l7_55.toInt + 1)), (e94 : Int32.toInt x94 = ((((10 : Int) * l6_55.toInt) + x88.toInt) - (48 : Int)))] <;> exact (z_X11_number_16 l6_55.toInt l7_55.toInt x58.toInt x61.toInt x88.toInt (tM (G.2.1 (F a 35)) ((G.1 a 36).toInt) (l5_55.toInt)) I55_2 (t58).2.2 t61 c64 c72 (t88).1 (t88).2.2)) (by rw [(e97 : Int32.toInt x97 = (l7_55.toInt + 1)), (e94 : Int32.toInt x94 = ((((10 : Int) * l6_55.toInt) + x88.toInt) - (48 : Int)))] <;> exact (z_X11_number_17 l5_55.toInt l6_55.toInt l7_55.toInt x58.toInt x61.toInt x88.toInt (nS (tM (G.2.1 (F a 35)) ((G.1 a 36).toInt)) ((G10.1 a 37).toInt)) (nv (tM (G.2.1 (F a 35)) ((G.1 a 36).toInt)) (nS (tM (G.2.1 (F a 35)) ((G.1 a 36).toInt)) ((G10.1 a 37).toInt)) (l7_55.toInt + 1)) (nv (tM (G.2.1 (F a 35)) ((G.1 a 36).toInt)) (nS (tM (G.2.1 (F a 35)) ((G.1 a 36).toInt)) ((G10.1 a 37).toInt)) (l7_55.toInt)) (tM (G.2.1 (F a 35)) ((G.1 a 36).toInt) ((nS (tM (G.2.1 (F a 35)) ((G.1 a 36).toInt)) ((G10.1 a 37).toInt)) + l7_55.toInt)) (tM (G.2.1 (F a 35)) ((G.1 a 36).toInt) (l5_55.toInt)) I55_0 I55_3 (t58).2.2 t61 c64 z67 z67a (t88).1 (t88).2.2)) (by rw [(e100 : Int32.toInt x100 = (l5_55.toInt + 1)), (e97 : Int32.toInt x97 = (l7_55.toInt + 1))] <;> exact (z_X11_number_18 l5_55.toInt l7_55.toInt x58.toInt x61.toInt ((G.1 a 36).toInt) (tM (G.2.1 (F a 35)) ((G.1 a 36).toInt) (l5_55.toInt)) z55 (t58).2.2 t61 c64)) (by rw [(e100 : Int32.toInt x100 = (l5_55.toInt + 1))] <;> exact (z_X11_number_19 l5_55.toInt N55 hm55)) hT hS (lv_sub hl [3, 4, 5, 6, 7, 0, 2, 1] rfl)
            · refine lv_iload hx hb dX11_number_75 (lv_at hl 6 rfl) ?_
              refine lv_goto (tgt := 95) hx hb dX11_number_77 (by decide) ?_
              refine lv_istore (lv' := [(6, .int l6_55), (0, .ref a), (1, .int p0), (2, .int p1), (3, .int 0), (4, .int (G10.1 a 37)), (5, .int l5_55), (7, .int l7_55)]) hx hb dX11_number_95 hl (by decide) rfl (fun ls hl => ?_)
              refine xi_iinc (n := 1) (lv' := fun z9 => [(7, .int z9), (6, .int l6_55), (0, .ref a), (1, .int p0), (2, .int p1), (3, .int 0), (4, .int (G10.1 a 37)), (5, .int l5_55)]) (k := 7) hx hb (rfl : Int32.toInt l7_55 = l7_55.toInt) (by decide) dX11_number_97 hl rfl (by decide) (fun _ => rfl) (fun x97 ls t97 hl => ?_)
              have e97 : x97.toInt = (l7_55.toInt + 1) := (z_X11_number_20 l5_55.toInt l6_55.toInt l7_55.toInt x97.toInt ((G.1 a 36).toInt) ((G.1 a 37).toInt) ((G10.1 a 37).toInt) (nS (tM (G.2.1 (F a 35)) ((G.1 a 36).toInt)) ((G10.1 a 37).toInt)) (tM (G.2.1 (F a 35)) ((G.1 a 36).toInt) ((G10.1 a 37).toInt)) nt0 z0 (t10).2.2.2.1 z13 I55_0 I55_2 I55_4 t97)
              have hl : lv_has ls 8 [(7, .int x97), (6, .int l6_55), (0, .ref a), (1, .int p0), (2, .int p1), (3, .int 0), (4, .int (G10.1 a 37)), (5, .int l5_55)] := hl
              refine xi_iinc (n := 1) (lv' := fun z9 => [(5, .int z9), (7, .int x97), (6, .int l6_55), (0, .ref a), (1, .int p0), (2, .int p1), (3, .int 0), (4, .int (G10.1 a 37))]) (k := 7) hx hb (rfl : Int32.toInt l5_55 = l5_55.toInt) (by decide) dX11_number_100 hl rfl (by decide) (fun _ => rfl) (fun x100 ls t100 hl => ?_)
              have e100 : x100.toInt = (l5_55.toInt + 1) := (z_X11_number_13 l5_55.toInt l7_55.toInt x100.toInt ((G.1 a 36).toInt) nt0 I55_1 t100 (xr l5_55))
              have hl : lv_has ls 8 [(5, .int x100), (7, .int x97), (6, .int l6_55), (0, .ref a), (1, .int p0), (2, .int p1), (3, .int 0), (4, .int (G10.1 a 37))] := hl
              refine lv_goto (tgt := 55) hx hb dX11_number_103 (by decide) ?_
              exact ih55 x100 l6_55 x97 _ _ _ (by rw [(e100 : Int32.toInt x100 = (l5_55.toInt + 1))] <;> exact (v_X11_number_103_10 (K := K) (F := F) a G G10 l5_55 l7_55 x10 l6_55 N55 x58 x61 ha oq10 pd nt0 z0 (xzi hz1) c4 t10 z13 z13a c15 I55_0 I55_1 I55_2 I55_3 I55_4 hm55 z55 t58 t61 c64 z67 z67a c72)) (by rw [(e100 : Int32.toInt x100 = (l5_55.toInt + 1)), (e97 : Int32.toInt x97 = (l7_55.toInt + 1))] <;> exact (z_X11_number_14 l5_55.toInt l7_55.toInt (nS (tM (G.2.1 (F a 35)) ((G.1 a 36).toInt)) ((G10.1 a 37).toInt)) I55_0)) (by rw [(e97 : Int32.toInt x97 = (l7_55.toInt + 1)), (e100 : Int32.toInt x100 = (l5_55.toInt + 1))] <;> exact (z_X11_number_23 l5_55.toInt l6_55.toInt l7_55.toInt ((G.1 a 36).toInt) I55_2 I55_4 c72)) (by rw [(e97 : Int32.toInt x97 = (l7_55.toInt + 1))] <;> exact (z_X11_number_24 l6_55.toInt l7_55.toInt I55_2)) (by rw [(e97 : Int32.toInt x97 = (l7_55.toInt + 1))] <;> exact (z_X11_number_25 l6_55.toInt l7_55.toInt (nv (tM (G.2.1 (F a 35)) ((G.1 a 36).toInt)) (nS (tM (G.2.1 (F a 35)) ((G.1 a 36).toInt)) ((G10.1 a 37).toInt)) (l7_55.toInt + 1)) I55_2 c72)) (by rw [(e100 : Int32.toInt x100 = (l5_55.toInt + 1)), (e97 : Int32.toInt x97 = (l7_55.toInt + 1))] <;> exact (z_X11_number_18 l5_55.toInt l7_55.toInt x58.toInt x61.toInt ((G.1 a 36).toInt) (tM (G.2.1 (F a 35)) ((G.1 a 36).toInt) (l5_55.toInt)) z55 (t58).2.2 t61 c64)) (by rw [(e100 : Int32.toInt x100 = (l5_55.toInt + 1))] <;> exact (z_X11_number_19 l5_55.toInt N55 hm55)) hT hS (lv_sub hl [3, 4, 5, 6, 7, 0, 2, 1] rfl)
      exact L55 4294967297 (G10.1 a 37) 0 0 _ _ _ (v_X11_number_53_11 (K := K) (F := F) a G G10 x10 ha oq10 nt0 z0 (xzi hz1) c4 t10 z13 z13a c15) (z_X11_number_28 x10.toInt ((G10.1 a 37).toInt) (nS (tM (G.2.1 (F a 35)) ((G.1 a 36).toInt)) ((G10.1 a 37).toInt)) (tM (G.2.1 (F a 35)) ((G.1 a 36).toInt) ((G10.1 a 37).toInt)) (t10).1 (t10).2.2.1 z13 c15) (z_X11_number_29 ((G.1 a 36).toInt) ((G10.1 a 37).toInt) (t10).2.2.2.2) (by decide) (z_X11_number_30 (nv (tM (G.2.1 (F a 35)) ((G.1 a 36).toInt)) (nS (tM (G.2.1 (F a 35)) ((G.1 a 36).toInt)) ((G10.1 a 37).toInt)) 0) z13a) (z_X11_number_31 ((G.1 a 36).toInt) ((G10.1 a 37).toInt)) (z_X11_number_32 ((G10.1 a 37).toInt) (xr (G10.1 a 37))) hT hS (lv_sub hl [5, 6, 7, 4, 3, 2, 1, 0] rfl)
    · refine lv_iconst (v := 1) hx hb dX11_number_18 (by decide) ?_
      refine lv_goto (tgt := 23) hx hb dX11_number_19 (by decide) ?_
      refine lv_istore_n (lv' := [(3, .int 1), (0, .ref a), (1, .int p0), (2, .int p1)]) hx hb dX11_number_23 rfl hl (by decide) rfl (fun ls hl => ?_)
      refine lv_aload_n hx hb dX11_number_24 rfl (lv_at hl 1 rfl) ?_
      refine gX11_37 S hK hT ha kf_X11_256 dX11_number_25 (v := (G10.1 a 37)) rfl (?_)
      refine lv_istore (lv' := [(4, .int (G10.1 a 37)), (3, .int 1), (0, .ref a), (1, .int p0), (2, .int p1)]) hx hb dX11_number_28 hl (by decide) rfl (fun ls hl => ?_)
      refine lv_iload_n hx hb dX11_number_30 rfl (lv_at hl 1 rfl) ?_
      refine xi_zeq (tgt := 43) hx hb ((by decide) : Int32.toInt 1 = (1 : Int)) dX11_number_31 (by decide) (fun c => absurd c (show ¬ ((1 : Int) = 0) by decide)) (fun _ => ?_)
      refine lv_aload_n hx hb dX11_number_34 rfl (lv_at hl 2 rfl) ?_
      refine gX11_37 S hK hT ha kf_X11_256 dX11_number_35 (v := (G10.1 a 37)) rfl (?_)
      refine lv_iconst (v := 1) hx hb dX11_number_38 (by decide) ?_
      refine xi_iadd hx hb (rfl : Int32.toInt (G10.1 a 37) = ((G10.1 a 37).toInt)) ((by decide) : Int32.toInt 1 = (1 : Int)) dX11_number_39 (fun x39 t39 => ?_)
      have e39 : x39.toInt = (((G10.1 a 37).toInt) + (1 : Int)) := (z_X11_number_33 x39.toInt ((G.1 a 36).toInt) ((G10.1 a 37).toInt) nt0 (t10).2.2.2.2 t39 (xr (G10.1 a 37)))
      refine lv_goto (tgt := 47) hx hb dX11_number_40 (by decide) ?_
      refine lv_istore (lv' := [(5, .int x39), (4, .int (G10.1 a 37)), (3, .int 1), (0, .ref a), (1, .int p0), (2, .int p1)]) hx hb dX11_number_47 hl (by decide) rfl (fun ls hl => ?_)
      refine lv_iconst (v := 0) hx hb dX11_number_49 (by decide) ?_
      refine lv_istore (lv' := [(6, .int 0), (5, .int x39), (4, .int (G10.1 a 37)), (3, .int 1), (0, .ref a), (1, .int p0), (2, .int p1)]) hx hb dX11_number_50 hl (by decide) rfl (fun ls hl => ?_)
      refine lv_iconst (v := 0) hx hb dX11_number_52 (by decide) ?_
      refine lv_istore (lv' := [(7, .int 0), (6, .int 0), (5, .int x39), (4, .int (G10.1 a 37)), (3, .int 1), (0, .ref a), (1, .int p0), (2, .int p1)]) hx hb dX11_number_53 hl (by decide) rfl (fun ls hl => ?_)
      have L55 : ∀ (N55 : Nat) (l5_55 : Int32) (l6_55 : Int32) (l7_55 : Int32) (H : Heap) (locs : List Loc) (ls : Array Slot), (∀ j : Int, nS (tM (G.2.1 (F a 35)) ((G.1 a 36).toInt)) ((G10.1 a 37).toInt) ≤ j → j < l5_55.toInt → cDg ((tM (G.2.1 (F a 35)) ((G.1 a 36).toInt)) j)) → l5_55.toInt = (nS (tM (G.2.1 (F a 35)) ((G.1 a 36).toInt)) ((G10.1 a 37).toInt)) + l7_55.toInt → 0 ≤ l7_55.toInt ∧ l5_55.toInt ≤ ((G.1 a 36).toInt) + 1 → (l7_55.toInt = 0 ∧ l6_55.toInt = 0) ∨ (l7_55.toInt = 1 ∧ 0 ≤ l6_55.toInt ∧ l6_55.toInt ≤ 9) ∨ (l7_55.toInt = 2 ∧ 0 ≤ l6_55.toInt ∧ l6_55.toInt ≤ 99) ∨ (l7_55.toInt = 3 ∧ 0 ≤ l6_55.toInt ∧ l6_55.toInt ≤ 999) ∨ (l7_55.toInt = 4 ∧ 0 ≤ l6_55.toInt ∧ l6_55.toInt ≤ 9999) ∨ (5 ≤ l7_55.toInt ∧ 0 ≤ l6_55.toInt ∧ l6_55.toInt ≤ 999999) → (l7_55.toInt ≤ 4 → l6_55.toInt = (nv (tM (G.2.1 (F a 35)) ((G.1 a 36).toInt)) (nS (tM (G.2.1 (F a 35)) ((G.1 a 36).toInt)) ((G10.1 a 37).toInt)) (l7_55.toInt))) → l5_55.toInt ≤ ((G.1 a 36).toInt) ∨ l7_55.toInt = 0 → 200 - l5_55.toInt < ((N55 : Nat) : Int) → TW E K F G10 H → va_S (xA E) s.heap H locs → lv_has ls 8 [(0, .ref a), (1, .int p0), (2, .int p1), (3, .int 1), (4, .int (G10.1 a 37)), (5, .int l5_55), (6, .int l6_55), (7, .int l7_55)] → W p l e rm_X11_number s m args below meth c H locs 0 0 Q (F0 m 55 ls []) := by
        intro N55
        induction N55 with
        | zero =>
          intro l5_55 l6_55 l7_55 H locs ls pd I55_0 I55_1 I55_2 I55_3 I55_4 hm55
          exact absurd hm55 (z_X11_number_3 l5_55.toInt l7_55.toInt ((G.1 a 36).toInt) I55_1 nt0)
        | succ N55 ih55 =>
          intro l5_55 l6_55 l7_55 H locs ls pd I55_0 I55_1 I55_2 I55_3 I55_4 hm55 hT hS hl
          have z55 : ((0 ≤ l5_55.toInt ∧ l5_55.toInt < ((G.1 a 36).toInt)) ∧ True) ∨ (¬ (0 ≤ l5_55.toInt ∧ l5_55.toInt < ((G.1 a 36).toInt)) ∧ (tM (G.2.1 (F a 35)) ((G.1 a 36).toInt) (l5_55.toInt)) = 0) := (tM_f _ _ _).imp (fun h => ⟨h.1, trivial⟩) id
          refine lv_aload_n hx hb dX11_number_55 rfl (lv_at hl 0 rfl) ?_
          refine lv_iload hx hb dX11_number_56 (lv_at hl 5 rfl) ?_
          refine x_clp (x_runV (b := a) (As := [.int l5_55]) (rest := []) S (c_X11_signAt l E K F G10 H a l5_55 ha (by rw [(show (G10.1 a 36).toInt = ((G.1 a 36).toInt) from (congrArg Int32.toInt (hF10.1 _ _ (xnj (by decide) xn0))).trans (rfl : Int32.toInt (G.1 a 36) = ((G.1 a 36).toInt)))] <;> exact (nt0)) (z_X11_number_5 l5_55.toInt l7_55.toInt ((G.1 a 36).toInt) ((G.1 a 37).toInt) ((G10.1 a 37).toInt) (nS (tM (G.2.1 (F a 35)) ((G.1 a 36).toInt)) ((G10.1 a 37).toInt)) (tM (G.2.1 (F a 35)) ((G.1 a 36).toInt) ((G10.1 a 37).toInt)) z0 (t10).2.2.2.1 z13 I55_0 I55_1)) mv_X11_signAt km_X11_259 rfl rfl ⟨Nat.le_of_ble_eq_true rfl, Nat.le_of_ble_eq_true rfl⟩ (rc_13 hK hT ha) hK (fun _ => XPh.blind) (fun U hU hW => XPh.at hK hz hS hT hU hW) rfl hl.1 (Nat.le_of_ble_eq_true rfl) dX11_number_58 ⟨Nat.le_of_ble_eq_true rfl, Nat.le_of_ble_eq_true rfl⟩) hS ?_
          rintro _ _ locs ⟨x58, rfl, t58⟩ hS
          have t58 : -128 ≤ x58.toInt ∧ x58.toInt ≤ 127 ∧ ((0 ≤ x58.toInt ∧ (tM (G.2.1 (F a 35)) ((G.1 a 36).toInt) (l5_55.toInt)) = x58.toInt) ∨ (x58.toInt < 0 ∧ (tM (G.2.1 (F a 35)) ((G.1 a 36).toInt) (l5_55.toInt)) = x58.toInt + 256)) := by rw [(show G10.2.1 (F a 35) = G.2.1 (F a 35) from (hF10.2.1 _ xn0))] at t58; rw [(show (G10.1 a 36).toInt = ((G.1 a 36).toInt) from (congrArg Int32.toInt (hF10.1 _ _ (xnj (by decide) xn0))).trans (rfl : Int32.toInt (G.1 a 36) = ((G.1 a 36).toInt)))] at t58; exact t58
          refine x_clp (x_runS (As := [.int x58]) (rest := []) S (c_X11_isDigit l E K F G10 H x58) ms_X11_isDigit km_X11_275 rfl rfl ⟨Nat.le_of_ble_eq_true rfl, Nat.le_of_ble_eq_true rfl⟩ hK (fun _ => XPh.blind) (fun U hU hW => XPh.at hK hz hS hT hU hW) rfl hl.1 (Nat.le_of_ble_eq_true rfl) dX11_number_61 ⟨Nat.le_of_ble_eq_true rfl, Nat.le_of_ble_eq_true rfl⟩) hS ?_
          rintro _ _ locs ⟨x61, rfl, b61, t61⟩ hS
          have t61 : (x61.toInt = 1 ∧ 48 ≤ x58.toInt ∧ x58.toInt ≤ 57) ∨ (x61.toInt = 0 ∧ (x58.toInt < 48 ∨ 57 < x58.toInt)) := t61
          refine xi_zeq (tgt := 106) hx hb (rfl : Int32.toInt x61 = x61.toInt) dX11_number_64 (by decide) (fun c64 => ?_) (fun c64 => ?_)
          · refine lv_iload_n hx hb dX11_number_106 rfl (lv_at hl 3 rfl) ?_
            refine xi_zeq (tgt := 116) hx hb ((by decide) : Int32.toInt 1 = (1 : Int)) dX11_number_107 (by decide) (fun c => absurd c (show ¬ ((1 : Int) = 0) by decide)) (fun _ => ?_)
            refine lv_iload hx hb dX11_number_110 (lv_at hl 6 rfl) ?_
            refine xi_ineg hx hb (rfl : Int32.toInt l6_55 = l6_55.toInt) dX11_number_112 (fun x112 t112 => ?_)
            refine lv_goto (tgt := 118) hx hb dX11_number_113 (by decide) ?_
            refine lv_istore (lv' := [(6, .int x112), (0, .ref a), (1, .int p0), (2, .int p1), (3, .int 1), (4, .int (G10.1 a 37)), (5, .int l5_55), (7, .int l7_55)]) hx hb dX11_number_118 hl (by decide) rfl (fun ls hl => ?_)
            refine lv_iload hx hb dX11_number_120 (lv_at hl 7 rfl) ?_
            refine xi_zeq (tgt := 144) hx hb (rfl : Int32.toInt l7_55 = l7_55.toInt) dX11_number_122 (by decide) (fun c122 => ?_) (fun c122 => ?_)
            · refine lv_aload_n hx hb dX11_number_144 rfl (lv_at hl 1 rfl) ?_
              refine lv_iload hx hb dX11_number_145 (lv_at hl 5 rfl) ?_
              refine x_cv0 (x_runV (b := a) (As := [.int (G10.1 a 37)]) (rest := []) S (c_X11_wrong l E K F G10 a (G10.1 a 37) ha) mv_X11_wrong km_X11_279 rfl rfl ⟨Nat.le_of_ble_eq_true rfl, Nat.le_of_ble_eq_true rfl⟩ (rc_13 hK hT ha) hK (fun _ => XP.blind) (fun U hU hW => XP.at hK hz hS hT hU hW) rfl hl.1 (Nat.le_of_ble_eq_true rfl) dX11_number_147 ⟨Nat.le_of_ble_eq_true rfl, Nat.le_of_ble_eq_true rfl⟩) hS ?_
              rintro G147 H locs ⟨hF147, t147⟩ hT hS
              have t147 : ((G147.1 a 39).toInt) = 0 ∧ (((G.1 a 39).toInt) ≠ 0 → ((G147.1 a 38).toInt) = ((G10.1 a 37).toInt)) ∧ (((G.1 a 39).toInt) = 0 → ((G147.1 a 38).toInt) = ((G.1 a 38).toInt)) := by rw [(show (G10.1 a 39).toInt = ((G.1 a 39).toInt) from (congrArg Int32.toInt (hF10.1 _ _ (xnj (by decide) xn0))).trans (rfl : Int32.toInt (G.1 a 39) = ((G.1 a 39).toInt)))] at t147; rw [(show (G10.1 a 38).toInt = ((G.1 a 38).toInt) from (congrArg Int32.toInt (hF10.1 _ _ (xnj (by decide) xn0))).trans (rfl : Int32.toInt (G.1 a 38) = ((G.1 a 38).toInt)))] at t147; exact t147
              refine lv_iconst (v := 0) hx hb dX11_number_150 (by decide) ?_
              exact x_ri hx hb hr hlk hQ (Nat.le_of_ble_eq_true rfl) (Nat.le_of_ble_eq_true rfl) hS dX11_number_151 G147 ⟨_, rfl, (XFr.call (XFr.call XFr.rf hF10 (xm1 0 rfl xm0) xm0 xm0) hF147 (xm1 1 rfl (xm1 2 rfl xm0)) xm0 xm0), (v_X11_number_151_12 (K := K) (F := F) a G G10 G147 r1 l5_55 x10 l7_55 l6_55 N55 x58 x61 p0 p1 ha hrm oq10 pd nt0 z0 (xzi hz1) c4 t10 z13 z13a c15 I55_0 I55_1 I55_2 I55_3 I55_4 hm55 z55 t58 t61 c64 c122 t147), (v_X11_number_151_13 (K := K) (F := F) a G G10 G147 r1 l5_55 x10 l7_55 l6_55 N55 x58 x61 p0 p1 ha hrm oq10 pd nt0 z0 (xzi hz1) c4 t10 z13 z13a c15 I55_0 I55_1 I55_2 I55_3 I55_4 hm55 z55 t58 t61 c64 c122 t147 (hF147.1 _ _ (xnj (by decide) (xnj (by decide) xn0))))⟩ hT
            · refine lv_iload hx hb dX11_number_125 (lv_at hl 7 rfl) ?_
              refine lv_iconst (v := 4) hx hb dX11_number_127 (by decide) ?_
              refine xi_cgt (tgt := 144) hx hb (rfl : Int32.toInt l7_55 = l7_55.toInt) ((by decide) : Int32.toInt 4 = (4 : Int)) dX11_number_128 (by decide) (fun c128 => ?_) (fun c128 => ?_)
              · refine lv_aload_n hx hb dX11_number_144 rfl (lv_at hl 1 rfl) ?_
                refine lv_iload hx hb dX11_number_145 (lv_at hl 5 rfl) ?_
                refine x_cv0 (x_runV (b := a) (As := [.int (G10.1 a 37)]) (rest := []) S (c_X11_wrong l E K F G10 a (G10.1 a 37) ha) mv_X11_wrong km_X11_279 rfl rfl ⟨Nat.le_of_ble_eq_true rfl, Nat.le_of_ble_eq_true rfl⟩ (rc_13 hK hT ha) hK (fun _ => XP.blind) (fun U hU hW => XP.at hK hz hS hT hU hW) rfl hl.1 (Nat.le_of_ble_eq_true rfl) dX11_number_147 ⟨Nat.le_of_ble_eq_true rfl, Nat.le_of_ble_eq_true rfl⟩) hS ?_
                rintro G147 H locs ⟨hF147, t147⟩ hT hS
                have t147 : ((G147.1 a 39).toInt) = 0 ∧ (((G.1 a 39).toInt) ≠ 0 → ((G147.1 a 38).toInt) = ((G10.1 a 37).toInt)) ∧ (((G.1 a 39).toInt) = 0 → ((G147.1 a 38).toInt) = ((G.1 a 38).toInt)) := by rw [(show (G10.1 a 39).toInt = ((G.1 a 39).toInt) from (congrArg Int32.toInt (hF10.1 _ _ (xnj (by decide) xn0))).trans (rfl : Int32.toInt (G.1 a 39) = ((G.1 a 39).toInt)))] at t147; rw [(show (G10.1 a 38).toInt = ((G.1 a 38).toInt) from (congrArg Int32.toInt (hF10.1 _ _ (xnj (by decide) xn0))).trans (rfl : Int32.toInt (G.1 a 38) = ((G.1 a 38).toInt)))] at t147; exact t147
                refine lv_iconst (v := 0) hx hb dX11_number_150 (by decide) ?_
                exact x_ri hx hb hr hlk hQ (Nat.le_of_ble_eq_true rfl) (Nat.le_of_ble_eq_true rfl) hS dX11_number_151 G147 ⟨_, rfl, (XFr.call (XFr.call XFr.rf hF10 (xm1 0 rfl xm0) xm0 xm0) hF147 (xm1 1 rfl (xm1 2 rfl xm0)) xm0 xm0), (v_X11_number_151_14 (K := K) (F := F) a G G10 G147 r1 l5_55 x10 l7_55 l6_55 N55 x58 x61 p0 p1 ha hrm oq10 pd nt0 z0 (xzi hz1) c4 t10 z13 z13a c15 I55_0 I55_1 I55_2 I55_3 I55_4 hm55 z55 t58 t61 c64 c122 c128 t147), (v_X11_number_151_15 (K := K) (F := F) a G G10 G147 r1 l5_55 x10 l7_55 l6_55 N55 x58 x61 p0 p1 ha hrm oq10 pd nt0 z0 (xzi hz1) c4 t10 z13 z13a c15 I55_0 I55_1 I55_2 I55_3 I55_4 hm55 z55 t58 t61 c64 c122 c128 t147 (hF147.1 _ _ (xnj (by decide) (xnj (by decide) xn0))))⟩ hT
              · refine lv_iload hx hb dX11_number_131 (lv_at hl 0 rfl) ?_
                refine lv_i2l (v := x112.toInt64) hx hb dX11_number_133 rfl ?_
                refine lv_iload_n hx hb dX11_number_134 rfl (lv_at hl 2 rfl) ?_
                refine lv_i2l (v := p0.toInt64) hx hb dX11_number_135 rfl ?_
                refine lv_iload_n hx hb dX11_number_136 rfl (lv_at hl 3 rfl) ?_
                refine lv_i2l (v := p1.toInt64) hx hb dX11_number_137 rfl ?_
                refine x_clp (x_runS (As := [.long x112.toInt64, .long p0.toInt64, .long p1.toInt64]) (rest := []) S (c_X11_in l E K F G10 H x112.toInt64 x112.toInt p0.toInt64 p0.toInt p1.toInt64 p1.toInt (xl_i2l (rfl : Int32.toInt x112 = x112.toInt)) (xl_i2l (rfl : Int32.toInt p0 = p0.toInt)) (xl_i2l (rfl : Int32.toInt p1 = p1.toInt))) ms_X11_in km_X11_139 rfl rfl ⟨Nat.le_of_ble_eq_true rfl, Nat.le_of_ble_eq_true rfl⟩ hK (fun _ => XPh.blind) (fun U hU hW => XPh.at hK hz hS hT hU hW) rfl hl.1 (Nat.le_of_ble_eq_true rfl) dX11_number_138 ⟨Nat.le_of_ble_eq_true rfl, Nat.le_of_ble_eq_true rfl⟩) hS ?_
                rintro _ _ locs ⟨x138, rfl, b138, t138⟩ hS
                have t138 : (x138.toInt = 1 ∧ p0.toInt ≤ x112.toInt ∧ x112.toInt ≤ p1.toInt) ∨ (x138.toInt = 0 ∧ (x112.toInt < p0.toInt ∨ p1.toInt < x112.toInt)) := t138
                refine xi_zne (tgt := 152) hx hb (rfl : Int32.toInt x138 = x138.toInt) dX11_number_141 (by decide) (fun c141 => ?_) (fun c141 => ?_)
                · refine lv_aload_n hx hb dX11_number_152 rfl (lv_at hl 1 rfl) ?_
                  refine lv_iload hx hb dX11_number_153 (lv_at hl 6 rfl) ?_
                  refine pX11_37 (v := l5_55) S hK hT hS ha kf_X11_256 dX11_number_155 (fun H locs hT hS => ?_)
                  obtain ⟨G155, hG155⟩ : ∃ GG : XG, GG = dput G10 a 37 l5_55 := ⟨_, rfl⟩
                  rw [← hG155] at hT
                  refine lv_iload hx hb dX11_number_158 (lv_at hl 0 rfl) ?_
                  exact x_ri hx hb hr hlk hQ (Nat.le_of_ble_eq_true rfl) (Nat.le_of_ble_eq_true rfl) hS dX11_number_160 G155 ⟨_, rfl, (by rw [hG155]; exact XFr.dput (XFr.call XFr.rf hF10 (xm1 0 rfl xm0) xm0 xm0) (List.mem_of_getElem? (i := 0) rfl)), (v_X11_number_160_16 (K := K) (F := F) a G G10 l5_55 r1 x10 l7_55 l6_55 N55 x58 x61 x112 x138 p0 p1 ha hrm oq10 pd nt0 z0 (xzi hz1) c4 t10 z13 z13a c15 I55_0 I55_1 I55_2 I55_3 I55_4 hm55 z55 t58 t61 c64 t112 c122 c128 t138 c141), (v_X11_number_160_17 (K := K) (F := F) a G G10 G155 l5_55 r1 x10 l7_55 l6_55 N55 x58 x61 x112 x138 p0 p1 ha hrm oq10 pd nt0 z0 (xzi hz1) c4 t10 z13 z13a c15 I55_0 I55_1 I55_2 I55_3 I55_4 hm55 z55 t58 t61 c64 t112 c122 c128 t138 c141 (ld_at hG155) ((ld_j hG155 (by decide)).trans (hF10.1 _ _ (xnj (by decide) xn0))))⟩ hT
                · refine lv_aload_n hx hb dX11_number_144 rfl (lv_at hl 1 rfl) ?_
                  refine lv_iload hx hb dX11_number_145 (lv_at hl 5 rfl) ?_
                  refine x_cv0 (x_runV (b := a) (As := [.int (G10.1 a 37)]) (rest := []) S (c_X11_wrong l E K F G10 a (G10.1 a 37) ha) mv_X11_wrong km_X11_279 rfl rfl ⟨Nat.le_of_ble_eq_true rfl, Nat.le_of_ble_eq_true rfl⟩ (rc_13 hK hT ha) hK (fun _ => XP.blind) (fun U hU hW => XP.at hK hz hS hT hU hW) rfl hl.1 (Nat.le_of_ble_eq_true rfl) dX11_number_147 ⟨Nat.le_of_ble_eq_true rfl, Nat.le_of_ble_eq_true rfl⟩) hS ?_
                  rintro G147 H locs ⟨hF147, t147⟩ hT hS
                  have t147 : ((G147.1 a 39).toInt) = 0 ∧ (((G.1 a 39).toInt) ≠ 0 → ((G147.1 a 38).toInt) = ((G10.1 a 37).toInt)) ∧ (((G.1 a 39).toInt) = 0 → ((G147.1 a 38).toInt) = ((G.1 a 38).toInt)) := by rw [(show (G10.1 a 39).toInt = ((G.1 a 39).toInt) from (congrArg Int32.toInt (hF10.1 _ _ (xnj (by decide) xn0))).trans (rfl : Int32.toInt (G.1 a 39) = ((G.1 a 39).toInt)))] at t147; rw [(show (G10.1 a 38).toInt = ((G.1 a 38).toInt) from (congrArg Int32.toInt (hF10.1 _ _ (xnj (by decide) xn0))).trans (rfl : Int32.toInt (G.1 a 38) = ((G.1 a 38).toInt)))] at t147; exact t147
                  refine lv_iconst (v := 0) hx hb dX11_number_150 (by decide) ?_
                  exact x_ri hx hb hr hlk hQ (Nat.le_of_ble_eq_true rfl) (Nat.le_of_ble_eq_true rfl) hS dX11_number_151 G147 ⟨_, rfl, (XFr.call (XFr.call XFr.rf hF10 (xm1 0 rfl xm0) xm0 xm0) hF147 (xm1 1 rfl (xm1 2 rfl xm0)) xm0 xm0), (v_X11_number_151_18 (K := K) (F := F) a G G10 G147 r1 l5_55 x10 l7_55 l6_55 N55 x58 x61 x112 x138 p0 p1 ha hrm oq10 pd nt0 z0 (xzi hz1) c4 t10 z13 z13a c15 I55_0 I55_1 I55_2 I55_3 I55_4 hm55 z55 t58 t61 c64 t112 c122 c128 t138 c141 t147), (v_X11_number_151_19 (K := K) (F := F) a G G10 G147 r1 l5_55 x10 l7_55 l6_55 N55 x58 x61 x112 x138 p0 p1 ha hrm oq10 pd nt0 z0 (xzi hz1) c4 t10 z13 z13a c15 I55_0 I55_1 I55_2 I55_3 I55_4 hm55 z55 t58 t61 c64 t112 c122 c128 t138 c141 t147 (hF147.1 _ _ (xnj (by decide) (xnj (by decide) xn0))))⟩ hT
          · have z67 : (nv (tM (G.2.1 (F a 35)) ((G.1 a 36).toInt)) (nS (tM (G.2.1 (F a 35)) ((G.1 a 36).toInt)) ((G10.1 a 37).toInt)) (l7_55.toInt + 1)) = 10 * (nv (tM (G.2.1 (F a 35)) ((G.1 a 36).toInt)) (nS (tM (G.2.1 (F a 35)) ((G.1 a 36).toInt)) ((G10.1 a 37).toInt)) (l7_55.toInt)) + ((tM (G.2.1 (F a 35)) ((G.1 a 36).toInt) ((nS (tM (G.2.1 (F a 35)) ((G.1 a 36).toInt)) ((G10.1 a 37).toInt)) + l7_55.toInt)) - 48) := nv_s (z_X11_number_6 l5_55.toInt l7_55.toInt ((G.1 a 36).toInt) I55_1)
            have z67a : l5_55.toInt = (nS (tM (G.2.1 (F a 35)) ((G.1 a 36).toInt)) ((G10.1 a 37).toInt)) + l7_55.toInt → (tM (G.2.1 (F a 35)) ((G.1 a 36).toInt) ((nS (tM (G.2.1 (F a 35)) ((G.1 a 36).toInt)) ((G10.1 a 37).toInt)) + l7_55.toInt)) = (tM (G.2.1 (F a 35)) ((G.1 a 36).toInt) (l5_55.toInt)) := fun h9 => by rw [h9]
            refine lv_iload hx hb dX11_number_67 (lv_at hl 6 rfl) ?_
            refine lv_ldcw (v := 99999) hx hb S.2.2.2.1 (S.2.2.2.2 _ (List.mem_cons_of_mem _ kc_X11_278)) dX11_number_69 ?_
            refine xi_cle (tgt := 80) hx hb (rfl : Int32.toInt l6_55 = l6_55.toInt) ((by decide) : Int32.toInt 99999 = (99999 : Int)) dX11_number_72 (by decide) (fun c72 => ?_) (fun c72 => ?_)
            · refine lv_bipush (v := 10) hx hb dX11_number_80 (by decide) ?_
              refine lv_iload hx hb dX11_number_82 (lv_at hl 6 rfl) ?_
              refine xi_imul hx hb ((by decide) : Int32.toInt 10 = (10 : Int)) (rfl : Int32.toInt l6_55 = l6_55.toInt) dX11_number_84 (fun x84 t84 => ?_)
              have e84 : x84.toInt = ((10 : Int) * l6_55.toInt) := (z_X11_number_7 l6_55.toInt l7_55.toInt x84.toInt I55_2 t84)
              refine lv_aload_n hx hb dX11_number_85 rfl (lv_at hl 0 rfl) ?_
              refine lv_iload hx hb dX11_number_86 (lv_at hl 5 rfl) ?_
              refine x_clp (x_runV (b := a) (As := [.int l5_55]) (rest := [.int x84]) S (c_X11_signAt l E K F G10 H a l5_55 ha (by rw [(show (G10.1 a 36).toInt = ((G.1 a 36).toInt) from (congrArg Int32.toInt (hF10.1 _ _ (xnj (by decide) xn0))).trans (rfl : Int32.toInt (G.1 a 36) = ((G.1 a 36).toInt)))] <;> exact (nt0)) (z_X11_number_5 l5_55.toInt l7_55.toInt ((G.1 a 36).toInt) ((G.1 a 37).toInt) ((G10.1 a 37).toInt) (nS (tM (G.2.1 (F a 35)) ((G.1 a 36).toInt)) ((G10.1 a 37).toInt)) (tM (G.2.1 (F a 35)) ((G.1 a 36).toInt) ((G10.1 a 37).toInt)) z0 (t10).2.2.2.1 z13 I55_0 I55_1)) mv_X11_signAt km_X11_259 rfl rfl ⟨Nat.le_of_ble_eq_true rfl, Nat.le_of_ble_eq_true rfl⟩ (rc_13 hK hT ha) hK (fun _ => XPh.blind) (fun U hU hW => XPh.at hK hz hS hT hU hW) rfl hl.1 (Nat.le_of_ble_eq_true rfl) dX11_number_88 ⟨Nat.le_of_ble_eq_true rfl, Nat.le_of_ble_eq_true rfl⟩) hS ?_
              rintro _ _ locs ⟨x88, rfl, t88⟩ hS
              have t88 : -128 ≤ x88.toInt ∧ x88.toInt ≤ 127 ∧ ((0 ≤ x88.toInt ∧ (tM (G.2.1 (F a 35)) ((G.1 a 36).toInt) (l5_55.toInt)) = x88.toInt) ∨ (x88.toInt < 0 ∧ (tM (G.2.1 (F a 35)) ((G.1 a 36).toInt) (l5_55.toInt)) = x88.toInt + 256)) := by rw [(show G10.2.1 (F a 35) = G.2.1 (F a 35) from (hF10.2.1 _ xn0))] at t88; rw [(show (G10.1 a 36).toInt = ((G.1 a 36).toInt) from (congrArg Int32.toInt (hF10.1 _ _ (xnj (by decide) xn0))).trans (rfl : Int32.toInt (G.1 a 36) = ((G.1 a 36).toInt)))] at t88; exact t88
              refine xi_iadd hx hb (e84 : Int32.toInt x84 = ((10 : Int) * l6_55.toInt)) (rfl : Int32.toInt x88 = x88.toInt) dX11_number_91 (fun x91 t91 => ?_)
              have e91 : x91.toInt = (((10 : Int) * l6_55.toInt) + x88.toInt) := (z_X11_number_10 l6_55.toInt l7_55.toInt x88.toInt x91.toInt I55_2 (t88).1 (t88).2.1 t91)
              refine lv_bipush (v := 48) hx hb dX11_number_92 (by decide) ?_
              refine xi_isub hx hb (e91 : Int32.toInt x91 = (((10 : Int) * l6_55.toInt) + x88.toInt)) ((by decide) : Int32.toInt 48 = (48 : Int)) dX11_number_94 (fun x94 t94 => ?_)
              have e94 : x94.toInt = ((((10 : Int) * l6_55.toInt) + x88.toInt) - (48 : Int)) := (z_X11_number_11 l6_55.toInt l7_55.toInt x88.toInt x94.toInt I55_2 (t88).1 (t88).2.1 t94)
              refine lv_istore (lv' := [(6, .int x94), (0, .ref a), (1, .int p0), (2, .int p1), (3, .int 1), (4, .int (G10.1 a 37)), (5, .int l5_55), (7, .int l7_55)]) hx hb dX11_number_95 hl (by decide) rfl (fun ls hl => ?_)
              refine xi_iinc (n := 1) (lv' := fun z9 => [(7, .int z9), (6, .int x94), (0, .ref a), (1, .int p0), (2, .int p1), (3, .int 1), (4, .int (G10.1 a 37)), (5, .int l5_55)]) (k := 7) hx hb (rfl : Int32.toInt l7_55 = l7_55.toInt) (by decide) dX11_number_97 hl rfl (by decide) (fun _ => rfl) (fun x97 ls t97 hl => ?_)
              have e97 : x97.toInt = (l7_55.toInt + 1) := (z_X11_number_12 l5_55.toInt l7_55.toInt x97.toInt ((G.1 a 36).toInt) ((G.1 a 37).toInt) ((G10.1 a 37).toInt) (nS (tM (G.2.1 (F a 35)) ((G.1 a 36).toInt)) ((G10.1 a 37).toInt)) (tM (G.2.1 (F a 35)) ((G.1 a 36).toInt) ((G10.1 a 37).toInt)) nt0 z0 (t10).2.2.2.1 z13 I55_0 I55_1 t97)
              have hl : lv_has ls 8 [(7, .int x97), (6, .int x94), (0, .ref a), (1, .int p0), (2, .int p1), (3, .int 1), (4, .int (G10.1 a 37)), (5, .int l5_55)] := hl
              refine xi_iinc (n := 1) (lv' := fun z9 => [(5, .int z9), (7, .int x97), (6, .int x94), (0, .ref a), (1, .int p0), (2, .int p1), (3, .int 1), (4, .int (G10.1 a 37))]) (k := 7) hx hb (rfl : Int32.toInt l5_55 = l5_55.toInt) (by decide) dX11_number_100 hl rfl (by decide) (fun _ => rfl) (fun x100 ls t100 hl => ?_)
              have e100 : x100.toInt = (l5_55.toInt + 1) := (z_X11_number_13 l5_55.toInt l7_55.toInt x100.toInt ((G.1 a 36).toInt) nt0 I55_1 t100 (xr l5_55))
              have hl : lv_has ls 8 [(5, .int x100), (7, .int x97), (6, .int x94), (0, .ref a), (1, .int p0), (2, .int p1), (3, .int 1), (4, .int (G10.1 a 37))] := hl
              refine lv_goto (tgt := 55) hx hb dX11_number_103 (by decide) ?_
              exact ih55 x100 x94 x97 _ _ _ (by rw [(e100 : Int32.toInt x100 = (l5_55.toInt + 1))] <;> exact (v_X11_number_103_20 (K := K) (F := F) a G G10 l5_55 l6_55 x88 l7_55 x10 N55 x58 x61 ha oq10 pd nt0 z0 (xzi hz1) c4 t10 z13 z13a c15 I55_0 I55_1 I55_2 I55_3 I55_4 hm55 z55 t58 t61 c64 z67 z67a c72 t88)) (by rw [(e100 : Int32.toInt x100 = (l5_55.toInt + 1)), (e97 : Int32.toInt x97 = (l7_55.toInt + 1))] <;> exact (z_X11_number_14 l5_55.toInt l7_55.toInt (nS (tM (G.2.1 (F a 35)) ((G.1 a 36).toInt)) ((G10.1 a 37).toInt)) I55_0)) (by rw [(e97 : Int32.toInt x97 = (l7_55.toInt + 1)), (e100 : Int32.toInt x100 = (l5_55.toInt + 1))] <;> exact (z_X11_number_46 l5_55.toInt l7_55.toInt x58.toInt x61.toInt ((G.1 a 36).toInt) (tM (G.2.1 (F a 35)) ((G.1 a 36).toInt) (l5_55.toInt)) I55_1 z55 (t58).2.2 t61 c64)) (by rw [(e97 : Int32.toInt x97 = (l7_55.toInt + 1)), (e94 : Int32.toInt x94 = ((((10 : Int) * l6_55.toInt) + x88.toInt) - (48 : Int)))] <;> exact (z_X11_number_16 l6_55.toInt l7_55.toInt x58.toInt x61.toInt x88.toInt (tM (G.2.1 (F a 35)) ((G.1 a 36).toInt) (l5_55.toInt)) I55_2 (t58).2.2 t61 c64 c72 (t88).1 (t88).2.2)) (by rw [(e97 : Int32.toInt x97 = (l7_55.toInt + 1)), (e94 : Int32.toInt x94 = ((((10 : Int) * l6_55.toInt) + x88.toInt) - (48 : Int)))] <;> exact (z_X11_number_17 l5_55.toInt l6_55.toInt l7_55.toInt x58.toInt x61.toInt x88.toInt (nS (tM (G.2.1 (F a 35)) ((G.1 a 36).toInt)) ((G10.1 a 37).toInt)) (nv (tM (G.2.1 (F a 35)) ((G.1 a 36).toInt)) (nS (tM (G.2.1 (F a 35)) ((G.1 a 36).toInt)) ((G10.1 a 37).toInt)) (l7_55.toInt + 1)) (nv (tM (G.2.1 (F a 35)) ((G.1 a 36).toInt)) (nS (tM (G.2.1 (F a 35)) ((G.1 a 36).toInt)) ((G10.1 a 37).toInt)) (l7_55.toInt)) (tM (G.2.1 (F a 35)) ((G.1 a 36).toInt) ((nS (tM (G.2.1 (F a 35)) ((G.1 a 36).toInt)) ((G10.1 a 37).toInt)) + l7_55.toInt)) (tM (G.2.1 (F a 35)) ((G.1 a 36).toInt) (l5_55.toInt)) I55_0 I55_3 (t58).2.2 t61 c64 z67 z67a (t88).1 (t88).2.2)) (by rw [(e100 : Int32.toInt x100 = (l5_55.toInt + 1)), (e97 : Int32.toInt x97 = (l7_55.toInt + 1))] <;> exact (z_X11_number_18 l5_55.toInt l7_55.toInt x58.toInt x61.toInt ((G.1 a 36).toInt) (tM (G.2.1 (F a 35)) ((G.1 a 36).toInt) (l5_55.toInt)) z55 (t58).2.2 t61 c64)) (by rw [(e100 : Int32.toInt x100 = (l5_55.toInt + 1))] <;> exact (z_X11_number_19 l5_55.toInt N55 hm55)) hT hS (lv_sub hl [3, 4, 5, 6, 7, 0, 2, 1] rfl)
            · refine lv_iload hx hb dX11_number_75 (lv_at hl 6 rfl) ?_
              refine lv_goto (tgt := 95) hx hb dX11_number_77 (by decide) ?_
              refine lv_istore (lv' := [(6, .int l6_55), (0, .ref a), (1, .int p0), (2, .int p1), (3, .int 1), (4, .int (G10.1 a 37)), (5, .int l5_55), (7, .int l7_55)]) hx hb dX11_number_95 hl (by decide) rfl (fun ls hl => ?_)
              refine xi_iinc (n := 1) (lv' := fun z9 => [(7, .int z9), (6, .int l6_55), (0, .ref a), (1, .int p0), (2, .int p1), (3, .int 1), (4, .int (G10.1 a 37)), (5, .int l5_55)]) (k := 7) hx hb (rfl : Int32.toInt l7_55 = l7_55.toInt) (by decide) dX11_number_97 hl rfl (by decide) (fun _ => rfl) (fun x97 ls t97 hl => ?_)
              have e97 : x97.toInt = (l7_55.toInt + 1) := (z_X11_number_20 l5_55.toInt l6_55.toInt l7_55.toInt x97.toInt ((G.1 a 36).toInt) ((G.1 a 37).toInt) ((G10.1 a 37).toInt) (nS (tM (G.2.1 (F a 35)) ((G.1 a 36).toInt)) ((G10.1 a 37).toInt)) (tM (G.2.1 (F a 35)) ((G.1 a 36).toInt) ((G10.1 a 37).toInt)) nt0 z0 (t10).2.2.2.1 z13 I55_0 I55_2 I55_4 t97)
              have hl : lv_has ls 8 [(7, .int x97), (6, .int l6_55), (0, .ref a), (1, .int p0), (2, .int p1), (3, .int 1), (4, .int (G10.1 a 37)), (5, .int l5_55)] := hl
              refine xi_iinc (n := 1) (lv' := fun z9 => [(5, .int z9), (7, .int x97), (6, .int l6_55), (0, .ref a), (1, .int p0), (2, .int p1), (3, .int 1), (4, .int (G10.1 a 37))]) (k := 7) hx hb (rfl : Int32.toInt l5_55 = l5_55.toInt) (by decide) dX11_number_100 hl rfl (by decide) (fun _ => rfl) (fun x100 ls t100 hl => ?_)
              have e100 : x100.toInt = (l5_55.toInt + 1) := (z_X11_number_13 l5_55.toInt l7_55.toInt x100.toInt ((G.1 a 36).toInt) nt0 I55_1 t100 (xr l5_55))
              have hl : lv_has ls 8 [(5, .int x100), (7, .int x97), (6, .int l6_55), (0, .ref a), (1, .int p0), (2, .int p1), (3, .int 1), (4, .int (G10.1 a 37))] := hl
              refine lv_goto (tgt := 55) hx hb dX11_number_103 (by decide) ?_
              exact ih55 x100 l6_55 x97 _ _ _ (by rw [(e100 : Int32.toInt x100 = (l5_55.toInt + 1))] <;> exact (v_X11_number_103_21 (K := K) (F := F) a G G10 l5_55 l7_55 x10 l6_55 N55 x58 x61 ha oq10 pd nt0 z0 (xzi hz1) c4 t10 z13 z13a c15 I55_0 I55_1 I55_2 I55_3 I55_4 hm55 z55 t58 t61 c64 z67 z67a c72)) (by rw [(e100 : Int32.toInt x100 = (l5_55.toInt + 1)), (e97 : Int32.toInt x97 = (l7_55.toInt + 1))] <;> exact (z_X11_number_14 l5_55.toInt l7_55.toInt (nS (tM (G.2.1 (F a 35)) ((G.1 a 36).toInt)) ((G10.1 a 37).toInt)) I55_0)) (by rw [(e97 : Int32.toInt x97 = (l7_55.toInt + 1)), (e100 : Int32.toInt x100 = (l5_55.toInt + 1))] <;> exact (z_X11_number_23 l5_55.toInt l6_55.toInt l7_55.toInt ((G.1 a 36).toInt) I55_2 I55_4 c72)) (by rw [(e97 : Int32.toInt x97 = (l7_55.toInt + 1))] <;> exact (z_X11_number_24 l6_55.toInt l7_55.toInt I55_2)) (by rw [(e97 : Int32.toInt x97 = (l7_55.toInt + 1))] <;> exact (z_X11_number_25 l6_55.toInt l7_55.toInt (nv (tM (G.2.1 (F a 35)) ((G.1 a 36).toInt)) (nS (tM (G.2.1 (F a 35)) ((G.1 a 36).toInt)) ((G10.1 a 37).toInt)) (l7_55.toInt + 1)) I55_2 c72)) (by rw [(e100 : Int32.toInt x100 = (l5_55.toInt + 1)), (e97 : Int32.toInt x97 = (l7_55.toInt + 1))] <;> exact (z_X11_number_18 l5_55.toInt l7_55.toInt x58.toInt x61.toInt ((G.1 a 36).toInt) (tM (G.2.1 (F a 35)) ((G.1 a 36).toInt) (l5_55.toInt)) z55 (t58).2.2 t61 c64)) (by rw [(e100 : Int32.toInt x100 = (l5_55.toInt + 1))] <;> exact (z_X11_number_19 l5_55.toInt N55 hm55)) hT hS (lv_sub hl [3, 4, 5, 6, 7, 0, 2, 1] rfl)
      exact L55 4294967297 x39 0 0 _ _ _ (by rw [(e39 : Int32.toInt x39 = (((G10.1 a 37).toInt) + (1 : Int)))] <;> exact (v_X11_number_53_22 (K := K) (F := F) a G G10 x10 ha oq10 nt0 z0 (xzi hz1) c4 t10 z13 z13a c15)) (by rw [(e39 : Int32.toInt x39 = (((G10.1 a 37).toInt) + (1 : Int)))] <;> exact (z_X11_number_59 x10.toInt ((G10.1 a 37).toInt) (nS (tM (G.2.1 (F a 35)) ((G.1 a 36).toInt)) ((G10.1 a 37).toInt)) (tM (G.2.1 (F a 35)) ((G.1 a 36).toInt) ((G10.1 a 37).toInt)) (t10).2.2.1 z13 c15)) (by rw [(e39 : Int32.toInt x39 = (((G10.1 a 37).toInt) + (1 : Int)))] <;> exact (z_X11_number_60 ((G.1 a 36).toInt) ((G10.1 a 37).toInt) (t10).2.2.2.2)) (by decide) (z_X11_number_30 (nv (tM (G.2.1 (F a 35)) ((G.1 a 36).toInt)) (nS (tM (G.2.1 (F a 35)) ((G.1 a 36).toInt)) ((G10.1 a 37).toInt)) 0) z13a) (by rw [(e39 : Int32.toInt x39 = (((G10.1 a 37).toInt) + (1 : Int)))] <;> exact (z_X11_number_62 ((G.1 a 36).toInt) ((G10.1 a 37).toInt))) (by rw [(e39 : Int32.toInt x39 = (((G10.1 a 37).toInt) + (1 : Int)))] <;> exact (z_X11_number_63 ((G10.1 a 37).toInt) (xr (G10.1 a 37)))) hT hS (lv_sub hl [5, 6, 7, 4, 3, 2, 1, 0] rfl)
  · refine lv_iconst (v := 0) hx hb dX11_number_7 (by decide) ?_
    exact x_ri hx hb hr hlk hQ (Nat.le_of_ble_eq_true rfl) (Nat.le_of_ble_eq_true rfl) hS dX11_number_8 G ⟨_, rfl, XFr.rf, (v_X11_number_8_23 (K := K) (F := F) a G r1 p0 p1 ha hrm nt0 z0 (xzi hz1) c4), (v_X11_number_8_24 (K := K) (F := F) a G r1 p0 p1 ha hrm nt0 z0 (xzi hz1) c4)⟩ hT


theorem z_X11_wordOfx_1 (a0 : Int) : (a0 < 0 ∨ 4 < a0) ∨ (a0 = 0) ∨ (a0 = 1) ∨ (a0 = 2) ∨ (a0 = 3) ∨ (a0 = 4) := by omega
theorem z_X11_wordOfx_2 (a0 : Int) (h0 : a0 < 0 ∨ 4 < a0) : ¬ (0 ≤ a0 ∧ a0 ≤ 4) := by omega
theorem z_X11_wordOfx_3 (a0 : Int) (h0 : a0 = 0) : 0 ≤ a0 := by omega
theorem z_X11_wordOfx_4 (a0 : Int) (h0 : a0 = 0) : a0 ≤ 4 := by omega
theorem z_X11_wordOfx_6 (a0 : Int) (h0 : a0 = 1) : 0 ≤ a0 := by omega
theorem z_X11_wordOfx_7 (a0 : Int) (h0 : a0 = 1) : a0 ≤ 4 := by omega
theorem z_X11_wordOfx_9 (a0 : Int) (h0 : a0 = 2) : 0 ≤ a0 := by omega
theorem z_X11_wordOfx_10 (a0 : Int) (h0 : a0 = 2) : a0 ≤ 4 := by omega
theorem z_X11_wordOfx_12 (a0 : Int) (h0 : a0 = 3) : 0 ≤ a0 := by omega
theorem z_X11_wordOfx_13 (a0 : Int) (h0 : a0 = 3) : a0 ≤ 4 := by omega
theorem z_X11_wordOfx_15 (a0 : Int) (h0 : a0 = 4) : 0 ≤ a0 := by omega
theorem z_X11_wordOfx_16 (a0 : Int) (h0 : a0 = 4) : a0 ≤ 4 := by omega
abbrev rm_X11_wordOfx : Room := { frames := 0, cells := 0, slots := 0, locals := 0 }
set_option maxHeartbeats 4000000 in
set_option maxRecDepth 100000 in
theorem c_X11_wordOfx (l : Launch) (E : XE) (K : Nat → Nat) (F : Nat → Nat → Nat) (G : XG) (h0 : Heap) (a : Nat) (p0 : Int32) (ha : K a = 13) : Met l yX11_wordOf (xw yX11_wordOf cX11_wordOf 2 (some (.array .char))) rm_X11_wordOfx (va_Pc [.ref a, .int p0] (XPh E K F G h0)) (XQ E (fun v (u : Unit) => ∃ q n : Nat, v = .ref q ∧ XWd K q n ∧ ((0 ≤ p0.toInt ∧ p0.toInt ≤ 4 ∧ q = F a (25 + p0.toInt.toNat)) ∨ (¬ (0 ≤ p0.toInt ∧ p0.toInt ≤ 4) ∧ q = F a 30))) (fun _ H => H = h0)) 0 0 (xA E) := by
  refine x_enter (by decide) (Nat.le_of_ble_eq_true rfl) ?_
  intro p e s m args below meth c Q S hr hlk hnm hQ hP ls hl
  obtain ⟨⟨hz, hK, hT⟩, hh⟩ := hP
  obtain ⟨hx, hb, -, -, -⟩ := id S
  have hS : va_S (xA E) s.heap s.heap [] := va_S.rf
  have hl : lv_has ls 2 [(0, .ref a), (1, .int p0)] := hl
  refine lv_iload_n hx hb dX11_wordOf_0 rfl (lv_at hl 1 rfl) ?_
  rcases ((z_X11_wordOfx_1 p0.toInt) : (p0.toInt < 0 ∨ 4 < p0.toInt) ∨ (p0.toInt = 0) ∨ (p0.toInt = 1) ∨ (p0.toInt = 2) ∨ (p0.toInt = 3) ∨ (p0.toInt = 4)) with c1 | c1 | c1 | c1 | c1 | c1
  · refine lv_tableOut (tgt := 61) hx hb dX11_wordOf_1 c1 (by decide) ?_
    refine lv_aload_n hx hb dX11_wordOf_61 rfl (lv_at hl 0 rfl) ?_
    obtain ⟨hk62, hj62⟩ := fkX11_30 hT ha
    refine gX11_30 S hK hT ha kf_X11_88 dX11_wordOf_62 (fun _ _ => ?_)
    exact x_ra hx hb hr (by first | exact Or.inl ⟨_, rfl⟩ | exact Or.inr ⟨_, rfl⟩) (by first | exact Or.inl rfl | exact Or.inr ⟨_, rfl⟩) hlk hQ (Nat.le_of_ble_eq_true rfl) (Nat.le_of_ble_eq_true rfl) hS dX11_wordOf_65 () ⟨_, _, rfl, XWd.k47 hk62, Or.inr ⟨(z_X11_wordOfx_2 p0.toInt c1), rfl⟩⟩ hh
  · refine lv_tableIn (off := 35) (tgt := 36) hx hb dX11_wordOf_1 (by rw [c1]; decide) (by rw [c1]; decide) (by rw [c1]; rfl) (by decide) ?_
    refine lv_aload_n hx hb dX11_wordOf_36 rfl (lv_at hl 0 rfl) ?_
    obtain ⟨hk37, hj37⟩ := fkX11_25 hT ha
    refine gX11_25 S hK hT ha kf_X11_73 dX11_wordOf_37 (fun _ _ => ?_)
    exact x_ra hx hb hr (by first | exact Or.inl ⟨_, rfl⟩ | exact Or.inr ⟨_, rfl⟩) (by first | exact Or.inl rfl | exact Or.inr ⟨_, rfl⟩) hlk hQ (Nat.le_of_ble_eq_true rfl) (Nat.le_of_ble_eq_true rfl) hS dX11_wordOf_40 () ⟨_, _, rfl, XWd.k49 hk37, Or.inl ⟨(z_X11_wordOfx_3 p0.toInt c1), (z_X11_wordOfx_4 p0.toInt c1), by rw [show p0.toInt = 0 from (c1)]; rfl⟩⟩ hh
  · refine lv_tableIn (off := 40) (tgt := 41) hx hb dX11_wordOf_1 (by rw [c1]; decide) (by rw [c1]; decide) (by rw [c1]; rfl) (by decide) ?_
    refine lv_aload_n hx hb dX11_wordOf_41 rfl (lv_at hl 0 rfl) ?_
    obtain ⟨hk42, hj42⟩ := fkX11_26 hT ha
    refine gX11_26 S hK hT ha kf_X11_76 dX11_wordOf_42 (fun _ _ => ?_)
    exact x_ra hx hb hr (by first | exact Or.inl ⟨_, rfl⟩ | exact Or.inr ⟨_, rfl⟩) (by first | exact Or.inl rfl | exact Or.inr ⟨_, rfl⟩) hlk hQ (Nat.le_of_ble_eq_true rfl) (Nat.le_of_ble_eq_true rfl) hS dX11_wordOf_45 () ⟨_, _, rfl, XWd.k49 hk42, Or.inl ⟨(z_X11_wordOfx_6 p0.toInt c1), (z_X11_wordOfx_7 p0.toInt c1), by rw [show p0.toInt = 1 from (c1)]; rfl⟩⟩ hh
  · refine lv_tableIn (off := 45) (tgt := 46) hx hb dX11_wordOf_1 (by rw [c1]; decide) (by rw [c1]; decide) (by rw [c1]; rfl) (by decide) ?_
    refine lv_aload_n hx hb dX11_wordOf_46 rfl (lv_at hl 0 rfl) ?_
    obtain ⟨hk47, hj47⟩ := fkX11_27 hT ha
    refine gX11_27 S hK hT ha kf_X11_79 dX11_wordOf_47 (fun _ _ => ?_)
    exact x_ra hx hb hr (by first | exact Or.inl ⟨_, rfl⟩ | exact Or.inr ⟨_, rfl⟩) (by first | exact Or.inl rfl | exact Or.inr ⟨_, rfl⟩) hlk hQ (Nat.le_of_ble_eq_true rfl) (Nat.le_of_ble_eq_true rfl) hS dX11_wordOf_50 () ⟨_, _, rfl, XWd.k48 hk47, Or.inl ⟨(z_X11_wordOfx_9 p0.toInt c1), (z_X11_wordOfx_10 p0.toInt c1), by rw [show p0.toInt = 2 from (c1)]; rfl⟩⟩ hh
  · refine lv_tableIn (off := 50) (tgt := 51) hx hb dX11_wordOf_1 (by rw [c1]; decide) (by rw [c1]; decide) (by rw [c1]; rfl) (by decide) ?_
    refine lv_aload_n hx hb dX11_wordOf_51 rfl (lv_at hl 0 rfl) ?_
    obtain ⟨hk52, hj52⟩ := fkX11_28 hT ha
    refine gX11_28 S hK hT ha kf_X11_82 dX11_wordOf_52 (fun _ _ => ?_)
    exact x_ra hx hb hr (by first | exact Or.inl ⟨_, rfl⟩ | exact Or.inr ⟨_, rfl⟩) (by first | exact Or.inl rfl | exact Or.inr ⟨_, rfl⟩) hlk hQ (Nat.le_of_ble_eq_true rfl) (Nat.le_of_ble_eq_true rfl) hS dX11_wordOf_55 () ⟨_, _, rfl, XWd.k46 hk52, Or.inl ⟨(z_X11_wordOfx_12 p0.toInt c1), (z_X11_wordOfx_13 p0.toInt c1), by rw [show p0.toInt = 3 from (c1)]; rfl⟩⟩ hh
  · refine lv_tableIn (off := 55) (tgt := 56) hx hb dX11_wordOf_1 (by rw [c1]; decide) (by rw [c1]; decide) (by rw [c1]; rfl) (by decide) ?_
    refine lv_aload_n hx hb dX11_wordOf_56 rfl (lv_at hl 0 rfl) ?_
    obtain ⟨hk57, hj57⟩ := fkX11_29 hT ha
    refine gX11_29 S hK hT ha kf_X11_85 dX11_wordOf_57 (fun _ _ => ?_)
    exact x_ra hx hb hr (by first | exact Or.inl ⟨_, rfl⟩ | exact Or.inr ⟨_, rfl⟩) (by first | exact Or.inl rfl | exact Or.inr ⟨_, rfl⟩) hlk hQ (Nat.le_of_ble_eq_true rfl) (Nat.le_of_ble_eq_true rfl) hS dX11_wordOf_60 () ⟨_, _, rfl, XWd.k48 hk57, Or.inl ⟨(z_X11_wordOfx_15 p0.toInt c1), (z_X11_wordOfx_16 p0.toInt c1), by rw [show p0.toInt = 4 from (c1)]; rfl⟩⟩ hh
theorem v_X11_kindHere_41_1 {K : Nat → Nat} {F : Nat → Nat → Nat} (a : Nat) (G : XG) (G_2 : XG) (G28 : XG) (G37 : XG) (r1 : RSt) (l1_2 : Int32) (N2 : Nat) (x28 : Int32)
    (ha : K a = 13)
    (pk : ∀ k : Nat, (k : Int) < l1_2.toInt → (tkW (tM (G.2.1 (F a 35)) ((G.1 a 36).toInt)) (kw k) r1).1 ≠ 1)
    (oq28 : ((G28.1 a 37).toInt) = rn cBl (tM (G.2.1 (F a 35)) ((G.1 a 36).toInt)) ((G_2.1 a 37).toInt))
    (nt0 : 0 ≤ ((G.1 a 36).toInt) ∧ ((G.1 a 36).toInt) ≤ 80)
    (I2_0 : 0 ≤ l1_2.toInt ∧ l1_2.toInt ≤ 6)
    (I2_1 : (0 : Int) ≤ l1_2.toInt)
    (hm2 : 2147483648 - l1_2.toInt < (((N2) + 1 : Nat) : Int))
    (c4 : (5 : Int) < l1_2.toInt)
    (z27 : 0 ≤ ((G_2.1 a 37).toInt) ∧ ((G_2.1 a 37).toInt) ≤ ((G.1 a 36).toInt))
    (t28 : -128 ≤ x28.toInt ∧ x28.toInt ≤ 127 ∧ ((0 ≤ x28.toInt ∧ (tM (G.2.1 (F a 35)) ((G.1 a 36).toInt) ((G28.1 a 37).toInt)) = x28.toInt) ∨ (x28.toInt < 0 ∧ (tM (G.2.1 (F a 35)) ((G.1 a 36).toInt) ((G28.1 a 37).toInt)) = x28.toInt + 256)) ∧ ((G_2.1 a 37).toInt) ≤ ((G28.1 a 37).toInt) ∧ ((G28.1 a 37).toInt) ≤ ((G.1 a 36).toInt))
    (t37 : ((G37.1 a 39).toInt) = 0 ∧ (((G.1 a 39).toInt) ≠ 0 → ((G37.1 a 38).toInt) = ((G28.1 a 37).toInt)) ∧ (((G.1 a 39).toInt) = 0 → ((G37.1 a 38).toInt) = ((G.1 a 38).toInt))) :
    (0 : Int) = (tkK (tM (G.2.1 (F a 35)) ((G.1 a 36).toInt)) r1).1 := by
  rw [tkK_no (fun k hk => pk k (by omega))]
theorem v_X11_kindHere_41_2 {K : Nat → Nat} {F : Nat → Nat → Nat} (a : Nat) (G : XG) (G_2 : XG) (G28 : XG) (G37 : XG) (r1 : RSt) (l1_2 : Int32) (N2 : Nat) (x28 : Int32)
    (ha : K a = 13)
    (pk : ∀ k : Nat, (k : Int) < l1_2.toInt → (tkW (tM (G.2.1 (F a 35)) ((G.1 a 36).toInt)) (kw k) r1).1 ≠ 1)
    (rd : RdM (tM (G.2.1 (F a 35)) ((G.1 a 36).toInt)) (G.1 a 36).toInt r1 ((G.1 a 39).toInt) ((G_2.1 a 37).toInt) ((G.1 a 38).toInt))
    (oq28 : ((G28.1 a 37).toInt) = rn cBl (tM (G.2.1 (F a 35)) ((G.1 a 36).toInt)) ((G_2.1 a 37).toInt))
    (nt0 : 0 ≤ ((G.1 a 36).toInt) ∧ ((G.1 a 36).toInt) ≤ 80)
    (I2_0 : 0 ≤ l1_2.toInt ∧ l1_2.toInt ≤ 6)
    (I2_1 : (0 : Int) ≤ l1_2.toInt)
    (hm2 : 2147483648 - l1_2.toInt < (((N2) + 1 : Nat) : Int))
    (c4 : (5 : Int) < l1_2.toInt)
    (z27 : 0 ≤ ((G_2.1 a 37).toInt) ∧ ((G_2.1 a 37).toInt) ≤ ((G.1 a 36).toInt))
    (t28 : -128 ≤ x28.toInt ∧ x28.toInt ≤ 127 ∧ ((0 ≤ x28.toInt ∧ (tM (G.2.1 (F a 35)) ((G.1 a 36).toInt) ((G28.1 a 37).toInt)) = x28.toInt) ∨ (x28.toInt < 0 ∧ (tM (G.2.1 (F a 35)) ((G.1 a 36).toInt) ((G28.1 a 37).toInt)) = x28.toInt + 256)) ∧ ((G_2.1 a 37).toInt) ≤ ((G28.1 a 37).toInt) ∧ ((G28.1 a 37).toInt) ≤ ((G.1 a 36).toInt))
    (t37 : ((G37.1 a 39).toInt) = 0 ∧ (((G.1 a 39).toInt) ≠ 0 → ((G37.1 a 38).toInt) = ((G28.1 a 37).toInt)) ∧ (((G.1 a 39).toInt) = 0 → ((G37.1 a 38).toInt) = ((G.1 a 38).toInt)))
    (d_G37_a_37 : G37.1 a 37 = G28.1 a 37) :
    RdM (tM (G.2.1 (F a 35)) ((G.1 a 36).toInt)) ((G.1 a 36).toInt) (tkK (tM (G.2.1 (F a 35)) ((G.1 a 36).toInt)) r1).2 ((G37.1 a 39).toInt) ((G37.1 a 37).toInt) ((G37.1 a 38).toInt) := by
  rw [tkK_no (fun k hk => pk k (by omega)), d_G37_a_37]
  have hb := rn_in (P := cBl) (t := (tM (G.2.1 (F a 35)) ((G.1 a 36).toInt))) (n := (G.1 a 36).toInt) (z := (G_2.1 a 37).toInt) (by unfold cBl; decide) (tM_e _ _) (by omega)
  refine rdm_bad (p := r1.2) rfl (by omega) ?_ (by omega) rd.2.2.2.2.2
  by_cases g : (G.1 a 39).toInt = 0
  · have s0 : r1.1 = 0 := rd.1.elim id (fun h => absurd g (rd.2.1.mpr h))
    have := rd.2.2.2.1 s0
    omega
  · have s1 := rd.2.2.1 (rd.2.1.mp g)
    omega
theorem v_X11_kindHere_13_3 {F : Nat → Nat → Nat} (a : Nat) (G : XG) (G_2 : XG) (r1 : RSt)
    (rd : RdM (tM (G.2.1 (F a 35)) ((G.1 a 36).toInt)) (G.1 a 36).toInt r1 ((G.1 a 39).toInt) ((G_2.1 a 37).toInt) ((G.1 a 38).toInt))
    (c_G_2_F_a_35 : G_2.2.1 (F a 35) = G.2.1 (F a 35))
    (d_G_2_a_36 : G_2.1 a 36 = G.1 a 36)
    (d_G_2_a_38 : G_2.1 a 38 = G.1 a 38)
    (d_G_2_a_39 : G_2.1 a 39 = G.1 a 39) :
    RdM (tM (G_2.2.1 (F a 35)) ((G_2.1 a 36).toInt)) ((G_2.1 a 36).toInt) r1 ((G_2.1 a 39).toInt) ((G_2.1 a 37).toInt) ((G_2.1 a 38).toInt) := by
  rw [c_G_2_F_a_35, d_G_2_a_36, d_G_2_a_38, d_G_2_a_39]; exact rd
theorem v_X11_kindHere_13_4 {K : Nat → Nat} {F : Nat → Nat → Nat} (a : Nat) (G : XG) (G_2 : XG) (r1 : RSt) (l1_2 : Int32) (q10 : Nat) (n10 : Nat) (N2 : Nat)
    (ha : K a = 13)
    (hk9999 : K (F a 35) = 51)
    (hj9999 : F (F a 35) 99 = 35)
    (hk9999a : K (F a 25) = 49)
    (hj9999a : F (F a 25) 99 = 25)
    (hk9999b : K (F a 26) = 49)
    (hj9999b : F (F a 26) 99 = 26)
    (hk9999c : K (F a 27) = 48)
    (hj9999c : F (F a 27) 99 = 27)
    (hk9999d : K (F a 28) = 46)
    (hj9999d : F (F a 28) 99 = 28)
    (hk9999e : K (F a 29) = 48)
    (hj9999e : F (F a 29) 99 = 29)
    (hk9999f : K (F a 30) = 47)
    (hj9999f : F (F a 30) 99 = 30)
    (hF_2 : XFr [(a, 37)] [] [] G G_2)
    (hrm : RdM (tM (G.2.1 (F a 35)) ((G.1 a 36).toInt)) ((G.1 a 36).toInt) r1 ((G.1 a 39).toInt) ((G.1 a 37).toInt) ((G.1 a 38).toInt))
    (hwo : WDo G F a)
    (pk : ∀ k : Nat, (k : Int) < l1_2.toInt → (tkW (tM (G.2.1 (F a 35)) ((G.1 a 36).toInt)) (kw k) r1).1 ≠ 1)
    (rd : RdM (tM (G.2.1 (F a 35)) ((G.1 a 36).toInt)) (G.1 a 36).toInt r1 ((G.1 a 39).toInt) ((G_2.1 a 37).toInt) ((G.1 a 38).toInt))
    (hw10 : XWd K q10 n10)
    (hl10 : (0 ≤ l1_2.toInt ∧ l1_2.toInt ≤ 4 ∧ q10 = F a (25 + (l1_2.toInt).toNat)) ∨ (¬ (0 ≤ l1_2.toInt ∧ l1_2.toInt ≤ 4) ∧ q10 = F a 30))
    (nt0 : 0 ≤ ((G.1 a 36).toInt) ∧ ((G.1 a 36).toInt) ≤ 80)
    (I2_0 : 0 ≤ l1_2.toInt ∧ l1_2.toInt ≤ 6)
    (I2_1 : (0 : Int) ≤ l1_2.toInt)
    (hm2 : 2147483648 - l1_2.toInt < (((N2) + 1 : Nat) : Int))
    (c4 : ¬ ((5 : Int) < l1_2.toInt))
    (f27 : 3 ≤ (((n10) : Nat) : Int) ∧ (((n10) : Nat) : Int) ≤ 7)
    (c_G_2_F_a_25 : G_2.2.1 (F a 25) = G.2.1 (F a 25))
    (c_G_2_F_a_26 : G_2.2.1 (F a 26) = G.2.1 (F a 26))
    (c_G_2_F_a_27 : G_2.2.1 (F a 27) = G.2.1 (F a 27))
    (c_G_2_F_a_28 : G_2.2.1 (F a 28) = G.2.1 (F a 28))
    (c_G_2_F_a_29 : G_2.2.1 (F a 29) = G.2.1 (F a 29))
    (c_G_2_F_a_30 : G_2.2.1 (F a 30) = G.2.1 (F a 30))
    (c_G_2_F_a_35 : G_2.2.1 (F a 35) = G.2.1 (F a 35))
    (d_G_2_a_36 : G_2.1 a 36 = G.1 a 36)
    (d_G_2_a_38 : G_2.1 a 38 = G.1 a 38)
    (d_G_2_a_39 : G_2.1 a 39 = G.1 a 39) :
    (kw (Int.toNat (l1_2.toInt))).length = n10 ∧ ∀ i : Nat, i < n10 → aI (G_2.2.1 q10) (i : Int) = (kw (Int.toNat (l1_2.toInt))).getD i 0 ∧ 0 ≤ (kw (Int.toNat (l1_2.toInt))).getD i 0 ∧ (kw (Int.toNat (l1_2.toInt))).getD i 0 ≤ 127 := by
  have hW : (kw (l1_2.toInt).toNat).length = n10 ∧ q10 = F a (25 + (l1_2.toInt).toNat) := by
    rcases (by omega : l1_2.toInt = 0 ∨ l1_2.toInt = 1 ∨ l1_2.toInt = 2 ∨ l1_2.toInt = 3 ∨ l1_2.toInt = 4 ∨ l1_2.toInt = 5) with e | e | e | e | e | e <;> rw [e] at hl10 ⊢
    · have hq : q10 = F a 25 := (by rcases hl10 with h | h; exact h.2.2; exact absurd h.1 (by decide))
      subst hq; exact ⟨(hw10.n (show K (F a 25) = 49 by assumption)).symm, rfl⟩
    · have hq : q10 = F a 26 := (by rcases hl10 with h | h; exact h.2.2; exact absurd h.1 (by decide))
      subst hq; exact ⟨(hw10.n (show K (F a 26) = 49 by assumption)).symm, rfl⟩
    · have hq : q10 = F a 27 := (by rcases hl10 with h | h; exact h.2.2; exact absurd h.1 (by decide))
      subst hq; exact ⟨(hw10.n (show K (F a 27) = 48 by assumption)).symm, rfl⟩
    · have hq : q10 = F a 28 := (by rcases hl10 with h | h; exact h.2.2; exact absurd h.1 (by decide))
      subst hq; exact ⟨(hw10.n (show K (F a 28) = 46 by assumption)).symm, rfl⟩
    · have hq : q10 = F a 29 := (by rcases hl10 with h | h; exact h.2.2; exact absurd h.1 (by decide))
      subst hq; exact ⟨(hw10.n (show K (F a 29) = 48 by assumption)).symm, rfl⟩
    · have hq : q10 = F a 30 := (by rcases hl10 with h | h; exact absurd h.2.1 (by decide); exact h.2)
      subst hq; exact ⟨(hw10.n (show K (F a 30) = 47 by assumption)).symm, rfl⟩
  have hw := hwo.w (i := (l1_2.toInt).toNat) (by omega) hW.1
  refine ⟨hw.1, fun j hj => ?_⟩
  rw [hW.2]
  have h9 : G_2.2.1 (F a (25 + (l1_2.toInt).toNat)) = G.2.1 (F a (25 + (l1_2.toInt).toNat)) := hF_2.2.1 _ xn0
  rw [h9]
  exact hw.2 j hj
theorem v_X11_kindHere_24_5 {K : Nat → Nat} {F : Nat → Nat → Nat} (a : Nat) (G : XG) (r1 : RSt) (l1_2 : Int32) (q10 : Nat) (n10 : Nat) (x13 : Int32) (N2 : Nat)
    (ha : K a = 13)
    (pk : ∀ k : Nat, (k : Int) < l1_2.toInt → (tkW (tM (G.2.1 (F a 35)) ((G.1 a 36).toInt)) (kw k) r1).1 ≠ 1)
    (hw10 : XWd K q10 n10)
    (hl10 : (0 ≤ l1_2.toInt ∧ l1_2.toInt ≤ 4 ∧ q10 = F a (25 + (l1_2.toInt).toNat)) ∨ (¬ (0 ≤ l1_2.toInt ∧ l1_2.toInt ≤ 4) ∧ q10 = F a 30))
    (oq13 : x13.toInt = (tkW (tM (G.2.1 (F a 35)) ((G.1 a 36).toInt)) (kw (Int.toNat (l1_2.toInt))) r1).1)
    (nt0 : 0 ≤ ((G.1 a 36).toInt) ∧ ((G.1 a 36).toInt) ≤ 80)
    (I2_0 : 0 ≤ l1_2.toInt ∧ l1_2.toInt ≤ 6)
    (I2_1 : (0 : Int) ≤ l1_2.toInt)
    (hm2 : 2147483648 - l1_2.toInt < (((N2) + 1 : Nat) : Int))
    (c4 : ¬ ((5 : Int) < l1_2.toInt))
    (f31 : 3 ≤ (((n10) : Nat) : Int) ∧ (((n10) : Nat) : Int) ≤ 7)
    (t13 : 0 ≤ x13.toInt ∧ x13.toInt ≤ 1)
    (f33 : x13.toInt = 0 ∨ x13.toInt = 1)
    (c16 : x13.toInt = 0) :
    ∀ k : Nat, (k : Int) < (l1_2.toInt + 1) → (tkW (tM (G.2.1 (F a 35)) ((G.1 a 36).toInt)) (kw k) r1).1 ≠ 1 := by
  intro k h
  by_cases e : (k : Int) = l1_2.toInt
  · have e2 : (l1_2.toInt).toNat = k := by omega
    rw [← e2, ← oq13]
    omega
  · exact pk k (by omega)
theorem v_X11_kindHere_24_6 {K : Nat → Nat} {F : Nat → Nat → Nat} (a : Nat) (G : XG) (G13 : XG) (r1 : RSt) (l1_2 : Int32) (q10 : Nat) (n10 : Nat) (x13 : Int32) (N2 : Nat)
    (ha : K a = 13)
    (hw10 : XWd K q10 n10)
    (hl10 : (0 ≤ l1_2.toInt ∧ l1_2.toInt ≤ 4 ∧ q10 = F a (25 + (l1_2.toInt).toNat)) ∨ (¬ (0 ≤ l1_2.toInt ∧ l1_2.toInt ≤ 4) ∧ q10 = F a 30))
    (oq13 : x13.toInt = (tkW (tM (G.2.1 (F a 35)) ((G.1 a 36).toInt)) (kw (Int.toNat (l1_2.toInt))) r1).1)
    (oq13a : RdM (tM (G.2.1 (F a 35)) ((G.1 a 36).toInt)) ((G.1 a 36).toInt) (tkW (tM (G.2.1 (F a 35)) ((G.1 a 36).toInt)) (kw (Int.toNat (l1_2.toInt))) r1).2 ((G13.1 a 39).toInt) ((G13.1 a 37).toInt) ((G13.1 a 38).toInt))
    (nt0 : 0 ≤ ((G.1 a 36).toInt) ∧ ((G.1 a 36).toInt) ≤ 80)
    (I2_0 : 0 ≤ l1_2.toInt ∧ l1_2.toInt ≤ 6)
    (I2_1 : (0 : Int) ≤ l1_2.toInt)
    (hm2 : 2147483648 - l1_2.toInt < (((N2) + 1 : Nat) : Int))
    (c4 : ¬ ((5 : Int) < l1_2.toInt))
    (f31 : 3 ≤ (((n10) : Nat) : Int) ∧ (((n10) : Nat) : Int) ≤ 7)
    (t13 : 0 ≤ x13.toInt ∧ x13.toInt ≤ 1)
    (f33 : x13.toInt = 0 ∨ x13.toInt = 1)
    (c16 : x13.toInt = 0)
    (d_G13_a_38 : G13.1 a 38 = G.1 a 38)
    (d_G13_a_39 : G13.1 a 39 = G.1 a 39) :
    RdM (tM (G.2.1 (F a 35)) ((G.1 a 36).toInt)) (G.1 a 36).toInt r1 ((G.1 a 39).toInt) ((G13.1 a 37).toInt) ((G.1 a 38).toInt) := by
  have w1 : (tkW (tM (G.2.1 (F a 35)) ((G.1 a 36).toInt)) (kw (Int.toNat (l1_2.toInt))) r1).1 ≠ 1 := by rw [← oq13]; omega
  rw [tkW_n w1] at oq13a
  (try rw [d_G13_a_38, d_G13_a_39] at oq13a)
  exact oq13a
theorem v_X11_kindHere_20_7 {K : Nat → Nat} {F : Nat → Nat → Nat} (a : Nat) (G : XG) (r1 : RSt) (l1_2 : Int32) (q10 : Nat) (n10 : Nat) (x13 : Int32) (N2 : Nat)
    (ha : K a = 13)
    (pk : ∀ k : Nat, (k : Int) < l1_2.toInt → (tkW (tM (G.2.1 (F a 35)) ((G.1 a 36).toInt)) (kw k) r1).1 ≠ 1)
    (hw10 : XWd K q10 n10)
    (hl10 : (0 ≤ l1_2.toInt ∧ l1_2.toInt ≤ 4 ∧ q10 = F a (25 + (l1_2.toInt).toNat)) ∨ (¬ (0 ≤ l1_2.toInt ∧ l1_2.toInt ≤ 4) ∧ q10 = F a 30))
    (oq13 : x13.toInt = (tkW (tM (G.2.1 (F a 35)) ((G.1 a 36).toInt)) (kw (Int.toNat (l1_2.toInt))) r1).1)
    (nt0 : 0 ≤ ((G.1 a 36).toInt) ∧ ((G.1 a 36).toInt) ≤ 80)
    (I2_0 : 0 ≤ l1_2.toInt ∧ l1_2.toInt ≤ 6)
    (I2_1 : (0 : Int) ≤ l1_2.toInt)
    (hm2 : 2147483648 - l1_2.toInt < (((N2) + 1 : Nat) : Int))
    (c4 : ¬ ((5 : Int) < l1_2.toInt))
    (f30 : 3 ≤ (((n10) : Nat) : Int) ∧ (((n10) : Nat) : Int) ≤ 7)
    (t13 : 0 ≤ x13.toInt ∧ x13.toInt ≤ 1)
    (f32 : x13.toInt = 0 ∨ x13.toInt = 1)
    (c16 : ¬ (x13.toInt = 0)) :
    l1_2.toInt = (tkK (tM (G.2.1 (F a 35)) ((G.1 a 36).toInt)) r1).1 := by
  rw [tkK_at (n := (l1_2.toInt).toNat) (by omega) (fun k hk => pk k (by omega)) (by rw [← oq13]; omega)]
  show l1_2.toInt = (((l1_2.toInt).toNat : Nat) : Int)
  omega
theorem v_X11_kindHere_20_8 {K : Nat → Nat} {F : Nat → Nat → Nat} (a : Nat) (G : XG) (G13 : XG) (r1 : RSt) (l1_2 : Int32) (q10 : Nat) (n10 : Nat) (x13 : Int32) (N2 : Nat)
    (ha : K a = 13)
    (pk : ∀ k : Nat, (k : Int) < l1_2.toInt → (tkW (tM (G.2.1 (F a 35)) ((G.1 a 36).toInt)) (kw k) r1).1 ≠ 1)
    (hw10 : XWd K q10 n10)
    (hl10 : (0 ≤ l1_2.toInt ∧ l1_2.toInt ≤ 4 ∧ q10 = F a (25 + (l1_2.toInt).toNat)) ∨ (¬ (0 ≤ l1_2.toInt ∧ l1_2.toInt ≤ 4) ∧ q10 = F a 30))
    (oq13 : x13.toInt = (tkW (tM (G.2.1 (F a 35)) ((G.1 a 36).toInt)) (kw (Int.toNat (l1_2.toInt))) r1).1)
    (oq13a : RdM (tM (G.2.1 (F a 35)) ((G.1 a 36).toInt)) ((G.1 a 36).toInt) (tkW (tM (G.2.1 (F a 35)) ((G.1 a 36).toInt)) (kw (Int.toNat (l1_2.toInt))) r1).2 ((G13.1 a 39).toInt) ((G13.1 a 37).toInt) ((G13.1 a 38).toInt))
    (nt0 : 0 ≤ ((G.1 a 36).toInt) ∧ ((G.1 a 36).toInt) ≤ 80)
    (I2_0 : 0 ≤ l1_2.toInt ∧ l1_2.toInt ≤ 6)
    (I2_1 : (0 : Int) ≤ l1_2.toInt)
    (hm2 : 2147483648 - l1_2.toInt < (((N2) + 1 : Nat) : Int))
    (c4 : ¬ ((5 : Int) < l1_2.toInt))
    (f30 : 3 ≤ (((n10) : Nat) : Int) ∧ (((n10) : Nat) : Int) ≤ 7)
    (t13 : 0 ≤ x13.toInt ∧ x13.toInt ≤ 1)
    (f32 : x13.toInt = 0 ∨ x13.toInt = 1)
    (c16 : ¬ (x13.toInt = 0))
    (d_G13_a_38 : G13.1 a 38 = G.1 a 38)
    (d_G13_a_39 : G13.1 a 39 = G.1 a 39) :
    RdM (tM (G.2.1 (F a 35)) ((G.1 a 36).toInt)) ((G.1 a 36).toInt) (tkK (tM (G.2.1 (F a 35)) ((G.1 a 36).toInt)) r1).2 ((G13.1 a 39).toInt) ((G13.1 a 37).toInt) ((G13.1 a 38).toInt) := by
  rw [tkK_at (n := (l1_2.toInt).toNat) (by omega) (fun k hk => pk k (by omega)) (by rw [← oq13]; omega)]
  (try rw [d_G13_a_38, d_G13_a_39] at oq13a)
  (try rw [d_G13_a_38, d_G13_a_39])
  exact oq13a
theorem v_X11_kindHere_1_9 {K : Nat → Nat} {F : Nat → Nat → Nat} (a : Nat) (G : XG) (r1 : RSt)
    (ha : K a = 13)
    (nt0 : 0 ≤ ((G.1 a 36).toInt) ∧ ((G.1 a 36).toInt) ≤ 80) :
    ∀ k : Nat, (k : Int) < (0 : Int) → (tkW (tM (G.2.1 (F a 35)) ((G.1 a 36).toInt)) (kw k) r1).1 ≠ 1 := by
  intro k h; omega
theorem v_X11_kindHere_1_10 {F : Nat → Nat → Nat} (a : Nat) (G : XG) (r1 : RSt)
    (hrm : RdM (tM (G.2.1 (F a 35)) ((G.1 a 36).toInt)) ((G.1 a 36).toInt) r1 ((G.1 a 39).toInt) ((G.1 a 37).toInt) ((G.1 a 38).toInt)) :
    RdM (tM (G.2.1 (F a 35)) ((G.1 a 36).toInt)) (G.1 a 36).toInt r1 ((G.1 a 39).toInt) ((G.1 a 37).toInt) ((G.1 a 38).toInt) := by
  exact hrm
theorem z_X11_kindHere_1 (a0 : Int) (h0 : 0 ≤ a0 ∧ a0 ≤ 6) : ¬ (2147483648 - a0 < ((0 : Nat) : Int)) := by omega
theorem z_X11_kindHere_5 (a0 : Int) (a1 : Int) (h0 : 0 ≤ a0 ∧ a0 ≤ 6) (h1 : a1 = (a0 + 1) ∨ (a0 + 1) < -2147483648 ∨ 2147483648 ≤ (a0 + 1)) : a1 = (a0 + 1) := by omega
theorem z_X11_kindHere_6 (a0 : Int) (h0 : 0 ≤ a0 ∧ a0 ≤ 6) (h1 : ¬ ((5 : Int) < a0)) : 0 ≤ (a0 + 1) ∧ (a0 + 1) ≤ 6 := by omega
theorem z_X11_kindHere_7 (a0 : Int) (h0 : 0 ≤ a0 ∧ a0 ≤ 6) : (0 : Int) ≤ (a0 + 1) := by omega
theorem z_X11_kindHere_8 (a0 : Int) (a1 : Nat) (h0 : 2147483648 - a0 < ((a1 + 1 : Nat) : Int)) : 2147483648 - (a0 + 1) < ((a1 : Nat) : Int) := by omega
theorem z_X11_kindHere_9 (a0 : Int) (h0 : 0 ≤ a0 ∧ a0 ≤ 6) (h1 : ¬ ((5 : Int) < a0)) : 0 ≤ a0 ∧ a0 ≤ 5 := by omega
abbrev rm_X11_kindHere : Room := { frames := 3, cells := 0, slots := 0, locals := 69 }
set_option maxHeartbeats 4000000 in
set_option maxRecDepth 100000 in
theorem c_X11_kindHere (l : Launch) (E : XE) (K : Nat → Nat) (F : Nat → Nat → Nat) (G : XG) (a : Nat) (r1 : RSt) (ha : K a = 13) (nt0 : 0 ≤ ((G.1 a 36).toInt) ∧ ((G.1 a 36).toInt) ≤ 80) (hrm : RdM (tM (G.2.1 (F a 35)) ((G.1 a 36).toInt)) ((G.1 a 36).toInt) r1 ((G.1 a 39).toInt) ((G.1 a 37).toInt) ((G.1 a 38).toInt)) (hwo : WDo G F a) : Met l yX11_kindHere (xw yX11_kindHere cX11_kindHere 2 (some .int)) rm_X11_kindHere (va_Pc [.ref a] (XP E K F G)) (XQ E (fun v (u : XG) => ∃ r : Int32, v = .int r ∧ XFr [(a, 37), (a, 38), (a, 39)] [] [] G u ∧ (0 ≤ r.toInt ∧ r.toInt ≤ 5) ∧ (r.toInt = (tkK (tM (G.2.1 (F a 35)) ((G.1 a 36).toInt)) r1).1) ∧ (RdM (tM (G.2.1 (F a 35)) ((G.1 a 36).toInt)) ((G.1 a 36).toInt) (tkK (tM (G.2.1 (F a 35)) ((G.1 a 36).toInt)) r1).2 ((u.1 a 39).toInt) ((u.1 a 37).toInt) ((u.1 a 38).toInt))) (fun u H => TW E K F u H)) 0 0 (xA E) := by
  refine x_enter (by decide) (Nat.le_of_ble_eq_true rfl) ?_
  intro p e s m args below meth c Q S hr hlk hnm hQ hP ls hl
  obtain ⟨hz, hK, hT⟩ := hP
  obtain ⟨hx, hb, -, -, -⟩ := id S
  obtain ⟨H, hT, hS, hgo⟩ : ∃ H : Heap, TW E K F G H ∧ va_S (xA E) s.heap H [] ∧ H = s.heap := ⟨_, hT, va_S.rf, rfl⟩
  rw [← hgo]
  have hl : lv_has ls 2 [(0, .ref a)] := hl
  obtain ⟨hk9999, hj9999⟩ := fkX11_35 hT ha
  obtain ⟨hk9999a, hj9999a⟩ := fkX11_25 hT ha
  obtain ⟨hk9999b, hj9999b⟩ := fkX11_26 hT ha
  obtain ⟨hk9999c, hj9999c⟩ := fkX11_27 hT ha
  obtain ⟨hk9999d, hj9999d⟩ := fkX11_28 hT ha
  obtain ⟨hk9999e, hj9999e⟩ := fkX11_29 hT ha
  obtain ⟨hk9999f, hj9999f⟩ := fkX11_30 hT ha
  refine lv_iconst (v := 0) hx hb dX11_kindHere_0 (by decide) ?_
  refine lv_istore_n (lv' := [(1, .int 0), (0, .ref a)]) hx hb dX11_kindHere_1 rfl hl (by decide) rfl (fun ls hl => ?_)
  have L2 : ∀ (N2 : Nat) (l1_2 : Int32) (G_2 : XG) (H : Heap) (locs : List Loc) (ls : Array Slot), XFr [(a, 37)] [] [] G G_2 → (∀ k : Nat, (k : Int) < l1_2.toInt → (tkW (tM (G.2.1 (F a 35)) ((G.1 a 36).toInt)) (kw k) r1).1 ≠ 1) → RdM (tM (G.2.1 (F a 35)) ((G.1 a 36).toInt)) (G.1 a 36).toInt r1 ((G.1 a 39).toInt) ((G_2.1 a 37).toInt) ((G.1 a 38).toInt) → 0 ≤ l1_2.toInt ∧ l1_2.toInt ≤ 6 → (0 : Int) ≤ l1_2.toInt → 2147483648 - l1_2.toInt < ((N2 : Nat) : Int) → TW E K F G_2 H → va_S (xA E) s.heap H locs → lv_has ls 2 [(0, .ref a), (1, .int l1_2)] → W p l e rm_X11_kindHere s m args below meth c H locs 0 0 Q (F0 m 2 ls []) := by
    intro N2
    induction N2 with
    | zero =>
      intro l1_2 G_2 H locs ls hF_2 pk rd I2_0 I2_1 hm2
      exact absurd hm2 (z_X11_kindHere_1 l1_2.toInt I2_0)
    | succ N2 ih2 =>
      intro l1_2 G_2 H locs ls hF_2 pk rd I2_0 I2_1 hm2 hT hS hl
      refine lv_iload_n hx hb dX11_kindHere_2 rfl (lv_at hl 1 rfl) ?_
      refine lv_iconst (v := 5) hx hb dX11_kindHere_3 (by decide) ?_
      refine xi_cgt (tgt := 27) hx hb (rfl : Int32.toInt l1_2 = l1_2.toInt) ((by decide) : Int32.toInt 5 = (5 : Int)) dX11_kindHere_4 (by decide) (fun c4 => ?_) (fun c4 => ?_)
      · have z27 : 0 ≤ ((G_2.1 a 37).toInt) ∧ ((G_2.1 a 37).toInt) ≤ ((G.1 a 36).toInt) := rd.2.2.2.2.1
        refine lv_aload_n hx hb dX11_kindHere_27 rfl (lv_at hl 0 rfl) ?_
        refine x_cl0 (x_runV (b := a) (As := []) (rest := []) S (c_X11_next l E K F G_2 a ha (by rw [(show (G_2.1 a 36).toInt = ((G.1 a 36).toInt) from (congrArg Int32.toInt (hF_2.1 _ _ (xnj (by decide) xn0))).trans (rfl : Int32.toInt (G.1 a 36) = ((G.1 a 36).toInt)))] <;> exact (nt0)) (by rw [(show (G_2.1 a 36).toInt = ((G.1 a 36).toInt) from (congrArg Int32.toInt (hF_2.1 _ _ (xnj (by decide) xn0))).trans (rfl : Int32.toInt (G.1 a 36) = ((G.1 a 36).toInt)))] <;> exact (z27))) mv_X11_next km_X11_268 rfl rfl ⟨Nat.le_of_ble_eq_true rfl, Nat.le_of_ble_eq_true rfl⟩ (rc_13 hK hT ha) hK (fun _ => XP.blind) (fun U hU hW => XP.at hK hz hS hT hU hW) rfl hl.1 (Nat.le_of_ble_eq_true rfl) dX11_kindHere_28 ⟨Nat.le_of_ble_eq_true rfl, Nat.le_of_ble_eq_true rfl⟩) hS ?_
        rintro _ G28 H locs ⟨x28, rfl, hF28, t28, oq28⟩ hT hS
        have t28 : -128 ≤ x28.toInt ∧ x28.toInt ≤ 127 ∧ ((0 ≤ x28.toInt ∧ (tM (G.2.1 (F a 35)) ((G.1 a 36).toInt) ((G28.1 a 37).toInt)) = x28.toInt) ∨ (x28.toInt < 0 ∧ (tM (G.2.1 (F a 35)) ((G.1 a 36).toInt) ((G28.1 a 37).toInt)) = x28.toInt + 256)) ∧ ((G_2.1 a 37).toInt) ≤ ((G28.1 a 37).toInt) ∧ ((G28.1 a 37).toInt) ≤ ((G.1 a 36).toInt) := by rw [(show G_2.2.1 (F a 35) = G.2.1 (F a 35) from (hF_2.2.1 _ xn0))] at t28; rw [(show (G_2.1 a 36).toInt = ((G.1 a 36).toInt) from (congrArg Int32.toInt (hF_2.1 _ _ (xnj (by decide) xn0))).trans (rfl : Int32.toInt (G.1 a 36) = ((G.1 a 36).toInt)))] at t28; exact t28
        have oq28 : ((G28.1 a 37).toInt) = rn cBl (tM (G.2.1 (F a 35)) ((G.1 a 36).toInt)) ((G_2.1 a 37).toInt) := by simp only [(show G_2.2.1 (F a 35) = G.2.1 (F a 35) from (hF_2.2.1 _ xn0)), (show G_2.1 a 36 = G.1 a 36 from (hF_2.1 _ _ (xnj (by decide) xn0)))] at oq28; exact oq28
        refine lv_pop hx hb dX11_kindHere_31 rfl ?_
        refine lv_aload_n hx hb dX11_kindHere_32 rfl (lv_at hl 0 rfl) ?_
        refine lv_aload_n hx hb dX11_kindHere_33 rfl (lv_at hl 0 rfl) ?_
        refine gX11_37 S hK hT ha kf_X11_256 dX11_kindHere_34 (v := (G28.1 a 37)) rfl (?_)
        refine x_cv0 (x_runV (b := a) (As := [.int (G28.1 a 37)]) (rest := []) S (c_X11_wrong l E K F G28 a (G28.1 a 37) ha) mv_X11_wrong km_X11_279 rfl rfl ⟨Nat.le_of_ble_eq_true rfl, Nat.le_of_ble_eq_true rfl⟩ (rc_13 hK hT ha) hK (fun _ => XP.blind) (fun U hU hW => XP.at hK hz hS hT hU hW) rfl hl.1 (Nat.le_of_ble_eq_true rfl) dX11_kindHere_37 ⟨Nat.le_of_ble_eq_true rfl, Nat.le_of_ble_eq_true rfl⟩) hS ?_
        rintro G37 H locs ⟨hF37, t37⟩ hT hS
        have t37 : ((G37.1 a 39).toInt) = 0 ∧ (((G.1 a 39).toInt) ≠ 0 → ((G37.1 a 38).toInt) = ((G28.1 a 37).toInt)) ∧ (((G.1 a 39).toInt) = 0 → ((G37.1 a 38).toInt) = ((G.1 a 38).toInt)) := by rw [(show (G28.1 a 39).toInt = ((G.1 a 39).toInt) from (congrArg Int32.toInt ((hF28.1 _ _ (xnj (by decide) xn0)).trans (hF_2.1 _ _ (xnj (by decide) xn0)))).trans (rfl : Int32.toInt (G.1 a 39) = ((G.1 a 39).toInt)))] at t37; rw [(show (G28.1 a 38).toInt = ((G.1 a 38).toInt) from (congrArg Int32.toInt ((hF28.1 _ _ (xnj (by decide) xn0)).trans (hF_2.1 _ _ (xnj (by decide) xn0)))).trans (rfl : Int32.toInt (G.1 a 38) = ((G.1 a 38).toInt)))] at t37; exact t37
        refine lv_iconst (v := 0) hx hb dX11_kindHere_40 (by decide) ?_
        exact x_ri hx hb hr hlk hQ (Nat.le_of_ble_eq_true rfl) (Nat.le_of_ble_eq_true rfl) hS dX11_kindHere_41 G37 ⟨_, rfl, (XFr.call (XFr.call (XFr.call XFr.rf hF_2 (xm1 0 rfl xm0) xm0 xm0) hF28 (xm1 0 rfl xm0) xm0 xm0) hF37 (xm1 1 rfl (xm1 2 rfl xm0)) xm0 xm0), (by decide), (v_X11_kindHere_41_1 (K := K) (F := F) a G G_2 G28 G37 r1 l1_2 N2 x28 ha pk oq28 nt0 I2_0 I2_1 hm2 c4 z27 t28 t37), (v_X11_kindHere_41_2 (K := K) (F := F) a G G_2 G28 G37 r1 l1_2 N2 x28 ha pk rd oq28 nt0 I2_0 I2_1 hm2 c4 z27 t28 t37 (hF37.1 _ _ (xnj (by decide) (xnj (by decide) xn0))))⟩ hT
      · refine lv_aload_n hx hb dX11_kindHere_7 rfl (lv_at hl 0 rfl) ?_
        refine lv_aload_n hx hb dX11_kindHere_8 rfl (lv_at hl 0 rfl) ?_
        refine lv_iload_n hx hb dX11_kindHere_9 rfl (lv_at hl 1 rfl) ?_
        refine x_clp (x_runV (b := a) (As := [.int l1_2]) (rest := [.ref a]) S (c_X11_wordOfx l E K F G_2 H a l1_2 ha) mv_X11_wordOf km_X11_241 rfl rfl ⟨Nat.le_of_ble_eq_true rfl, Nat.le_of_ble_eq_true rfl⟩ (rc_13 hK hT ha) hK (fun _ => XPh.blind) (fun U hU hW => XPh.at hK hz hS hT hU hW) rfl hl.1 (Nat.le_of_ble_eq_true rfl) dX11_kindHere_10 ⟨Nat.le_of_ble_eq_true rfl, Nat.le_of_ble_eq_true rfl⟩) hS ?_
        rintro _ _ locs ⟨q10, n10, rfl, hw10, hl10⟩ hS
        refine x_cl0 (x_runV (b := a) (As := [.ref q10]) (rest := []) S (c_X11_isWord l E K F G_2 a q10 n10 r1 (kw (Int.toNat (l1_2.toInt))) ha hw10 (by rw [(show (G_2.1 a 36).toInt = ((G.1 a 36).toInt) from (congrArg Int32.toInt (hF_2.1 _ _ (xnj (by decide) xn0))).trans (rfl : Int32.toInt (G.1 a 36) = ((G.1 a 36).toInt)))] <;> exact (nt0)) (v_X11_kindHere_13_3 (F := F) a G G_2 r1 rd (hF_2.2.1 _ xn0) (hF_2.1 _ _ (xnj (by decide) xn0)) (hF_2.1 _ _ (xnj (by decide) xn0)) (hF_2.1 _ _ (xnj (by decide) xn0))) (v_X11_kindHere_13_4 (K := K) (F := F) a G G_2 r1 l1_2 q10 n10 N2 ha hk9999 hj9999 hk9999a hj9999a hk9999b hj9999b hk9999c hj9999c hk9999d hj9999d hk9999e hj9999e hk9999f hj9999f hF_2 hrm hwo pk rd hw10 hl10 nt0 I2_0 I2_1 hm2 c4 (XWd.lim hw10) (hF_2.2.1 _ xn0) (hF_2.2.1 _ xn0) (hF_2.2.1 _ xn0) (hF_2.2.1 _ xn0) (hF_2.2.1 _ xn0) (hF_2.2.1 _ xn0) (hF_2.2.1 _ xn0) (hF_2.1 _ _ (xnj (by decide) xn0)) (hF_2.1 _ _ (xnj (by decide) xn0)) (hF_2.1 _ _ (xnj (by decide) xn0)))) mv_X11_isWord km_X11_282 rfl rfl ⟨Nat.le_of_ble_eq_true rfl, Nat.le_of_ble_eq_true rfl⟩ (rc_13 hK hT ha) hK (fun _ => XP.blind) (fun U hU hW => XP.at hK hz hS hT hU hW) rfl hl.1 (Nat.le_of_ble_eq_true rfl) dX11_kindHere_13 ⟨Nat.le_of_ble_eq_true rfl, Nat.le_of_ble_eq_true rfl⟩) hS ?_
        rintro _ G13 H locs ⟨x13, rfl, b13, hF13, t13, oq13, oq13a⟩ hT hS
        have t13 : 0 ≤ x13.toInt ∧ x13.toInt ≤ 1 := t13
        have oq13 : x13.toInt = (tkW (tM (G.2.1 (F a 35)) ((G.1 a 36).toInt)) (kw (Int.toNat (l1_2.toInt))) r1).1 := by simp only [(show G_2.2.1 (F a 35) = G.2.1 (F a 35) from (hF_2.2.1 _ xn0)), (show G_2.1 a 36 = G.1 a 36 from (hF_2.1 _ _ (xnj (by decide) xn0)))] at oq13; exact oq13
        have oq13a : RdM (tM (G.2.1 (F a 35)) ((G.1 a 36).toInt)) ((G.1 a 36).toInt) (tkW (tM (G.2.1 (F a 35)) ((G.1 a 36).toInt)) (kw (Int.toNat (l1_2.toInt))) r1).2 ((G13.1 a 39).toInt) ((G13.1 a 37).toInt) ((G13.1 a 38).toInt) := by simp only [(show G_2.2.1 (F a 35) = G.2.1 (F a 35) from (hF_2.2.1 _ xn0)), (show G_2.1 a 36 = G.1 a 36 from (hF_2.1 _ _ (xnj (by decide) xn0)))] at oq13a; exact oq13a
        refine xi_zeq (tgt := 21) hx hb (rfl : Int32.toInt x13 = x13.toInt) dX11_kindHere_16 (by decide) (fun c16 => ?_) (fun c16 => ?_)
        · refine xi_iinc (n := 1) (lv' := fun z9 => [(1, .int z9), (0, .ref a)]) (k := 1) hx hb (rfl : Int32.toInt l1_2 = l1_2.toInt) (by decide) dX11_kindHere_21 hl rfl (by decide) (fun _ => rfl) (fun x21 ls t21 hl => ?_)
          have e21 : x21.toInt = (l1_2.toInt + 1) := (z_X11_kindHere_5 l1_2.toInt x21.toInt I2_0 t21)
          have hl : lv_has ls 2 [(1, .int x21), (0, .ref a)] := hl
          refine lv_goto (tgt := 2) hx hb dX11_kindHere_24 (by decide) ?_
          exact ih2 x21 G13 _ _ _ (XFr.call (XFr.call XFr.rf hF_2 (xm1 0 rfl xm0) xm0 xm0) hF13 (xm1 0 rfl xm0) xm0 xm0) (by rw [(e21 : Int32.toInt x21 = (l1_2.toInt + 1))] <;> exact (v_X11_kindHere_24_5 (K := K) (F := F) a G r1 l1_2 q10 n10 x13 N2 ha pk hw10 hl10 oq13 nt0 I2_0 I2_1 hm2 c4 (XWd.lim hw10) t13 (xzi b13) c16)) (v_X11_kindHere_24_6 (K := K) (F := F) a G G13 r1 l1_2 q10 n10 x13 N2 ha hw10 hl10 oq13 oq13a nt0 I2_0 I2_1 hm2 c4 (XWd.lim hw10) t13 (xzi b13) c16 ((hF13.1 _ _ (xnj (by decide) xn0)).trans (hF_2.1 _ _ (xnj (by decide) xn0))) ((hF13.1 _ _ (xnj (by decide) xn0)).trans (hF_2.1 _ _ (xnj (by decide) xn0)))) (by rw [(e21 : Int32.toInt x21 = (l1_2.toInt + 1))] <;> exact (z_X11_kindHere_6 l1_2.toInt I2_0 c4)) (by rw [(e21 : Int32.toInt x21 = (l1_2.toInt + 1))] <;> exact (z_X11_kindHere_7 l1_2.toInt I2_0)) (by rw [(e21 : Int32.toInt x21 = (l1_2.toInt + 1))] <;> exact (z_X11_kindHere_8 l1_2.toInt N2 hm2)) hT hS (lv_sub hl [1, 0] rfl)
        · refine lv_iload_n hx hb dX11_kindHere_19 rfl (lv_at hl 1 rfl) ?_
          exact x_ri hx hb hr hlk hQ (Nat.le_of_ble_eq_true rfl) (Nat.le_of_ble_eq_true rfl) hS dX11_kindHere_20 G13 ⟨_, rfl, (XFr.call (XFr.call XFr.rf hF_2 (xm1 0 rfl xm0) xm0 xm0) hF13 (xm1 0 rfl xm0) xm0 xm0), (z_X11_kindHere_9 l1_2.toInt I2_0 c4), (v_X11_kindHere_20_7 (K := K) (F := F) a G r1 l1_2 q10 n10 x13 N2 ha pk hw10 hl10 oq13 nt0 I2_0 I2_1 hm2 c4 (XWd.lim hw10) t13 (xzi b13) c16), (v_X11_kindHere_20_8 (K := K) (F := F) a G G13 r1 l1_2 q10 n10 x13 N2 ha pk hw10 hl10 oq13 oq13a nt0 I2_0 I2_1 hm2 c4 (XWd.lim hw10) t13 (xzi b13) c16 ((hF13.1 _ _ (xnj (by decide) xn0)).trans (hF_2.1 _ _ (xnj (by decide) xn0))) ((hF13.1 _ _ (xnj (by decide) xn0)).trans (hF_2.1 _ _ (xnj (by decide) xn0))))⟩ hT
  exact L2 4294967297 0 G _ _ _ XFr.rf (v_X11_kindHere_1_9 (K := K) (F := F) a G r1 ha nt0) (v_X11_kindHere_1_10 (F := F) a G r1 hrm) (by decide) (by decide) (by decide) hT hS (lv_sub hl [1, 0] rfl)
/-- what nine stores leave -/
theorem dr9 {f0 f1 f2 f3 f4 f5 f6 f7 f8 f9 : Nat → Int32} {v0 v1 v2 v3 v4 v5 v6 v7 v8 : Int} (u0 : ∀ z : Int, 0 ≤ z → aI f1 z = if z = 0 then v0 else aI f0 z) (u1 : ∀ z : Int, 0 ≤ z → aI f2 z = if z = 1 then v1 else aI f1 z) (u2 : ∀ z : Int, 0 ≤ z → aI f3 z = if z = 2 then v2 else aI f2 z) (u3 : ∀ z : Int, 0 ≤ z → aI f4 z = if z = 3 then v3 else aI f3 z) (u4 : ∀ z : Int, 0 ≤ z → aI f5 z = if z = 4 then v4 else aI f4 z) (u5 : ∀ z : Int, 0 ≤ z → aI f6 z = if z = 5 then v5 else aI f5 z) (u6 : ∀ z : Int, 0 ≤ z → aI f7 z = if z = 8 then v8 else aI f6 z) (u7 : ∀ z : Int, 0 ≤ z → aI f8 z = if z = 6 then v6 else aI f7 z) (u8 : ∀ z : Int, 0 ≤ z → aI f9 z = if z = 7 then v7 else aI f8 z) : aI f9 0 = v0 ∧ aI f9 1 = v1 ∧ aI f9 2 = v2 ∧ aI f9 3 = v3 ∧ aI f9 4 = v4 ∧ aI f9 5 = v5 ∧ aI f9 6 = v6 ∧ aI f9 7 = v7 ∧ aI f9 8 = v8 := by
  refine ⟨?_, ?_, ?_, ?_, ?_, ?_, ?_, ?_, ?_⟩
  · rw [u8 _ (by decide), if_neg (by decide), u7 _ (by decide), if_neg (by decide), u6 _ (by decide), if_neg (by decide), u5 _ (by decide), if_neg (by decide), u4 _ (by decide), if_neg (by decide), u3 _ (by decide), if_neg (by decide), u2 _ (by decide), if_neg (by decide), u1 _ (by decide), if_neg (by decide), u0 _ (by decide), if_pos rfl]
  · rw [u8 _ (by decide), if_neg (by decide), u7 _ (by decide), if_neg (by decide), u6 _ (by decide), if_neg (by decide), u5 _ (by decide), if_neg (by decide), u4 _ (by decide), if_neg (by decide), u3 _ (by decide), if_neg (by decide), u2 _ (by decide), if_neg (by decide), u1 _ (by decide), if_pos rfl]
  · rw [u8 _ (by decide), if_neg (by decide), u7 _ (by decide), if_neg (by decide), u6 _ (by decide), if_neg (by decide), u5 _ (by decide), if_neg (by decide), u4 _ (by decide), if_neg (by decide), u3 _ (by decide), if_neg (by decide), u2 _ (by decide), if_pos rfl]
  · rw [u8 _ (by decide), if_neg (by decide), u7 _ (by decide), if_neg (by decide), u6 _ (by decide), if_neg (by decide), u5 _ (by decide), if_neg (by decide), u4 _ (by decide), if_neg (by decide), u3 _ (by decide), if_pos rfl]
  · rw [u8 _ (by decide), if_neg (by decide), u7 _ (by decide), if_neg (by decide), u6 _ (by decide), if_neg (by decide), u5 _ (by decide), if_neg (by decide), u4 _ (by decide), if_pos rfl]
  · rw [u8 _ (by decide), if_neg (by decide), u7 _ (by decide), if_neg (by decide), u6 _ (by decide), if_neg (by decide), u5 _ (by decide), if_pos rfl]
  · rw [u8 _ (by decide), if_neg (by decide), u7 _ (by decide), if_pos rfl]
  · rw [u8 _ (by decide), if_pos rfl]
  · rw [u8 _ (by decide), if_neg (by decide), u7 _ (by decide), if_neg (by decide), u6 _ (by decide), if_pos rfl]
theorem v_X11_read_11_1 {F : Nat → Nat → Nat} (G : XG) (a : Nat) (G7 : XG)
    (nt0 : 0 ≤ ((G.1 a 36).toInt) ∧ ((G.1 a 36).toInt) ≤ 80)
    (c_G7_F_a_35 : G7.2.1 (F a 35) = G.2.1 (F a 35))
    (d_G7_a_36 : G7.1 a 36 = G.1 a 36)
    (d_G7_a_37 : G7.1 a 37 = 0)
    (d_G7_a_38 : G7.1 a 38 = G.1 a 38)
    (d_G7_a_39 : G7.1 a 39 = 1) :
    RdM (tM (G7.2.1 (F a 35)) ((G7.1 a 36).toInt)) ((G7.1 a 36).toInt) (1, rn cBl (tM (G.2.1 (F a 35)) ((G.1 a 36).toInt)) 0) ((G7.1 a 39).toInt) ((G7.1 a 37).toInt) ((G7.1 a 38).toInt) := by
  (try rw [c_G7_F_a_35])
  (try rw [d_G7_a_36])
  (try rw [d_G7_a_37])
  (try rw [d_G7_a_38])
  (try rw [d_G7_a_39])
  exact rdm_st (tM_e _ _) rfl (by decide) ⟨by decide, by show (0 : Int) ≤ _; omega⟩
theorem v_X11_read_11_2 {F : Nat → Nat → Nat} (G2 : XG) (G : XG) (a : Nat) (G7 : XG)
    (hG2 : G2 = dput G a 37 0)
    (hG7 : G7 = dput G2 a 39 1)
    (hwo : WDo G F a) :
    WDo G7 F a := by
  intro i hi j hj
  have h9 : G7.2.1 (F a (25 + i)) = G.2.1 (F a (25 + i)) := by rw [hG7, hG2]; rfl
  rw [h9]
  exact hwo i hi j hj
theorem v_X11_read_30_3 {F : Nat → Nat → Nat} (G : XG) (a : Nat) (G11 : XG) (G21 : XG)
    (oq11a : RdM (tM (G.2.1 (F a 35)) ((G.1 a 36).toInt)) ((G.1 a 36).toInt) (tkK (tM (G.2.1 (F a 35)) ((G.1 a 36).toInt)) (1, rn cBl (tM (G.2.1 (F a 35)) ((G.1 a 36).toInt)) 0)).2 ((G11.1 a 39).toInt) ((G11.1 a 37).toInt) ((G11.1 a 38).toInt))
    (c_G21_F_a_35 : G21.2.1 (F a 35) = G.2.1 (F a 35))
    (d_G21_a_36 : G21.1 a 36 = G.1 a 36)
    (d_G21_a_37 : G21.1 a 37 = G11.1 a 37)
    (d_G21_a_38 : G21.1 a 38 = G11.1 a 38)
    (d_G21_a_39 : G21.1 a 39 = G11.1 a 39) :
    RdM (tM (G21.2.1 (F a 35)) ((G21.1 a 36).toInt)) ((G21.1 a 36).toInt) ((rS1 (tM (G.2.1 (F a 35)) ((G.1 a 36).toInt))).2) ((G21.1 a 39).toInt) ((G21.1 a 37).toInt) ((G21.1 a 38).toInt) := by
  (try rw [c_G21_F_a_35])
  (try rw [d_G21_a_36])
  (try rw [d_G21_a_37])
  (try rw [d_G21_a_38])
  (try rw [d_G21_a_39])
  exact oq11a
theorem v_X11_read_42_4 {F : Nat → Nat → Nat} (G : XG) (a : Nat) (G30 : XG) (G33 : XG)
    (oq30a : RdM (tM (G.2.1 (F a 35)) ((G.1 a 36).toInt)) ((G.1 a 36).toInt) (tkN (tM (G.2.1 (F a 35)) ((G.1 a 36).toInt)) (0 : Int) (2 : Int) ((rS1 (tM (G.2.1 (F a 35)) ((G.1 a 36).toInt))).2)).2 ((G30.1 a 39).toInt) ((G30.1 a 37).toInt) ((G30.1 a 38).toInt))
    (c_G33_F_a_35 : G33.2.1 (F a 35) = G.2.1 (F a 35))
    (d_G33_a_36 : G33.1 a 36 = G.1 a 36)
    (d_G33_a_37 : G33.1 a 37 = G30.1 a 37)
    (d_G33_a_38 : G33.1 a 38 = G30.1 a 38)
    (d_G33_a_39 : G33.1 a 39 = G30.1 a 39) :
    RdM (tM (G33.2.1 (F a 35)) ((G33.1 a 36).toInt)) ((G33.1 a 36).toInt) ((rS2 (tM (G.2.1 (F a 35)) ((G.1 a 36).toInt))).2) ((G33.1 a 39).toInt) ((G33.1 a 37).toInt) ((G33.1 a 38).toInt) := by
  (try rw [c_G33_F_a_35])
  (try rw [d_G33_a_36])
  (try rw [d_G33_a_37])
  (try rw [d_G33_a_38])
  (try rw [d_G33_a_39])
  exact oq30a
theorem v_X11_read_207_5 {F : Nat → Nat → Nat} (G : XG) (a : Nat) (G_148 : XG) (G_195 : XG) (G195 : XG)
    (rd7 : RdM (tM (G.2.1 (F a 35)) ((G.1 a 36).toInt)) (G.1 a 36).toInt (rS7 (tM (G.2.1 (F a 35)) ((G.1 a 36).toInt))).2 ((G_148.1 a 39).toInt) ((G_195.1 a 37).toInt) ((G_148.1 a 38).toInt))
    (c_G195_F_a_35 : G195.2.1 (F a 35) = G.2.1 (F a 35))
    (d_G195_a_36 : G195.1 a 36 = G.1 a 36)
    (d_G195_a_37 : G195.1 a 37 = G_195.1 a 37)
    (d_G195_a_38 : G195.1 a 38 = G_148.1 a 38)
    (d_G195_a_39 : G195.1 a 39 = G_148.1 a 39) :
    RdM (tM (G195.2.1 (F a 35)) ((G195.1 a 36).toInt)) ((G195.1 a 36).toInt) ((rS7 (tM (G.2.1 (F a 35)) ((G.1 a 36).toInt))).2) ((G195.1 a 39).toInt) ((G195.1 a 37).toInt) ((G195.1 a 38).toInt) := by
  (try rw [c_G195_F_a_35])
  (try rw [d_G195_a_36])
  (try rw [d_G195_a_37])
  (try rw [d_G195_a_38])
  (try rw [d_G195_a_39])
  exact rd7
theorem v_X11_read_207_6 {F : Nat → Nat → Nat} (G : XG) (a : Nat) (G195 : XG)
    (hwo : WDo G F a)
    (c_G195_F_a_33 : G195.2.1 (F a 33) = G.2.1 (F a 33)) :
    (kw 8).length = 4 ∧ ∀ i : Nat, i < 4 → aI (G195.2.1 (F a 33)) (i : Int) = (kw 8).getD i 0 ∧ 0 ≤ (kw 8).getD i 0 ∧ (kw 8).getD i 0 ≤ 127 := by
  have hw := hwo.w (i := 8) (n := 4) (by decide) (by decide)
  rw [c_G195_F_a_33]
  exact hw
theorem v_X11_read_230_7 {F : Nat → Nat → Nat} (G : XG) (a : Nat) (G207 : XG) (G218 : XG) (G_148 : XG)
    (oq207a : RdM (tM (G.2.1 (F a 35)) ((G.1 a 36).toInt)) ((G.1 a 36).toInt) (tkW (tM (G.2.1 (F a 35)) ((G.1 a 36).toInt)) (kw 8) ((rS7 (tM (G.2.1 (F a 35)) ((G.1 a 36).toInt))).2)).2 ((G207.1 a 39).toInt) ((G207.1 a 37).toInt) ((G207.1 a 38).toInt))
    (c_G218_F_a_35 : G218.2.1 (F a 35) = G.2.1 (F a 35))
    (d_G207_a_38 : G207.1 a 38 = G_148.1 a 38)
    (d_G207_a_39 : G207.1 a 39 = G_148.1 a 39)
    (d_G218_a_36 : G218.1 a 36 = G.1 a 36)
    (d_G218_a_37 : G218.1 a 37 = G207.1 a 37)
    (d_G218_a_38 : G218.1 a 38 = G_148.1 a 38)
    (d_G218_a_39 : G218.1 a 39 = G_148.1 a 39) :
    RdM (tM (G218.2.1 (F a 35)) ((G218.1 a 36).toInt)) ((G218.1 a 36).toInt) ((rS8 (tM (G.2.1 (F a 35)) ((G.1 a 36).toInt))).2) ((G218.1 a 39).toInt) ((G218.1 a 37).toInt) ((G218.1 a 38).toInt) := by
  (try rw [d_G207_a_38] at oq207a)
  (try rw [d_G207_a_39] at oq207a)
  (try rw [c_G218_F_a_35])
  (try rw [d_G218_a_36])
  (try rw [d_G218_a_37])
  (try rw [d_G218_a_38])
  (try rw [d_G218_a_39])
  exact oq207a
theorem v_X11_read_230_8 {F : Nat → Nat → Nat} (G : XG) (a : Nat) (G218 : XG)
    (hwo : WDo G F a)
    (c_G218_F_a_34 : G218.2.1 (F a 34) = G.2.1 (F a 34)) :
    (kw 9).length = 4 ∧ ∀ i : Nat, i < 4 → aI (G218.2.1 (F a 34)) (i : Int) = (kw 9).getD i 0 ∧ 0 ≤ (kw 9).getD i 0 ∧ (kw 9).getD i 0 ≤ 127 := by
  have hw := hwo.w (i := 9) (n := 4) (by decide) (by decide)
  rw [c_G218_F_a_34]
  exact hw
theorem v_X11_read_277_9 {F : Nat → Nat → Nat} (G : XG) (a : Nat) (G_248 : XG) (G250 : XG) (x250 : Int32)
    (rd9 : RdM (tM (G.2.1 (F a 35)) ((G.1 a 36).toInt)) (G.1 a 36).toInt (rS9 (tM (G.2.1 (F a 35)) ((G.1 a 36).toInt))).2 ((G_248.1 a 39).toInt) ((G_248.1 a 37).toInt) ((G_248.1 a 38).toInt))
    (oq250 : ((G250.1 a 37).toInt) = rn cBl (tM (G.2.1 (F a 35)) ((G.1 a 36).toInt)) ((G_248.1 a 37).toInt))
    (nt0 : 0 ≤ ((G.1 a 36).toInt) ∧ ((G.1 a 36).toInt) ≤ 80)
    (t250 : -128 ≤ x250.toInt ∧ x250.toInt ≤ 127 ∧ ((0 ≤ x250.toInt ∧ (tM (G.2.1 (F a 35)) ((G.1 a 36).toInt) ((G250.1 a 37).toInt)) = x250.toInt) ∨ (x250.toInt < 0 ∧ (tM (G.2.1 (F a 35)) ((G.1 a 36).toInt) ((G250.1 a 37).toInt)) = x250.toInt + 256)) ∧ ((G_248.1 a 37).toInt) ≤ ((G250.1 a 37).toInt) ∧ ((G250.1 a 37).toInt) ≤ ((G.1 a 36).toInt))
    (c262 : ((G.1 a 36).toInt) ≤ ((G250.1 a 37).toInt))
    (d_G250_a_39 : G250.1 a 39 = G_248.1 a 39) :
    (((G_248.1 a 39).toInt) ≠ 0 ↔ rOk (tM (G.2.1 (F a 35)) ((G.1 a 36).toInt)) ((G.1 a 36).toInt)) := by
  have s9 := rd9.2.1
  have r0 := rd9.2.2.1
  have p0_ := rd9.2.2.2.1
  have h01 := rd9.1
  unfold rOk
  (try rw [d_G250_a_39])
  constructor
  · intro h
    have h1 : (rS9 (tM (G.2.1 (F a 35)) ((G.1 a 36).toInt))).2.1 = 1 := by
      apply s9.mp
      omega
    have := r0 h1
    exact ⟨h1, by omega⟩
  · rintro ⟨h1, h2⟩
    have g1 := s9.mpr h1
    have := r0 h1
    omega
theorem v_X11_read_277_10 {F : Nat → Nat → Nat} (G : XG) (a : Nat) (G_248 : XG) (G250 : XG) (x250 : Int32)
    (rd9 : RdM (tM (G.2.1 (F a 35)) ((G.1 a 36).toInt)) (G.1 a 36).toInt (rS9 (tM (G.2.1 (F a 35)) ((G.1 a 36).toInt))).2 ((G_248.1 a 39).toInt) ((G_248.1 a 37).toInt) ((G_248.1 a 38).toInt))
    (oq250 : ((G250.1 a 37).toInt) = rn cBl (tM (G.2.1 (F a 35)) ((G.1 a 36).toInt)) ((G_248.1 a 37).toInt))
    (nt0 : 0 ≤ ((G.1 a 36).toInt) ∧ ((G.1 a 36).toInt) ≤ 80)
    (t250 : -128 ≤ x250.toInt ∧ x250.toInt ≤ 127 ∧ ((0 ≤ x250.toInt ∧ (tM (G.2.1 (F a 35)) ((G.1 a 36).toInt) ((G250.1 a 37).toInt)) = x250.toInt) ∨ (x250.toInt < 0 ∧ (tM (G.2.1 (F a 35)) ((G.1 a 36).toInt) ((G250.1 a 37).toInt)) = x250.toInt + 256)) ∧ ((G_248.1 a 37).toInt) ≤ ((G250.1 a 37).toInt) ∧ ((G250.1 a 37).toInt) ≤ ((G.1 a 36).toInt))
    (c262 : ((G.1 a 36).toInt) ≤ ((G250.1 a 37).toInt))
    (d_G250_a_38 : G250.1 a 38 = G_248.1 a 38) :
    (¬ rOk (tM (G.2.1 (F a 35)) ((G.1 a 36).toInt)) ((G.1 a 36).toInt) → ((G250.1 a 38).toInt) = (rS9 (tM (G.2.1 (F a 35)) ((G.1 a 36).toInt))).2.2 ∧ 0 ≤ (rS9 (tM (G.2.1 (F a 35)) ((G.1 a 36).toInt))).2.2 ∧ (rS9 (tM (G.2.1 (F a 35)) ((G.1 a 36).toInt))).2.2 ≤ ((G.1 a 36).toInt)) := by
  have s9 := rd9.2.1
  have r0 := rd9.2.2.1
  have p0_ := rd9.2.2.2.1
  have h01 := rd9.1
  unfold rOk
  intro hn
  refine ⟨?_, rd9.2.2.2.2.2.1, rd9.2.2.2.2.2.2⟩
  (try rw [d_G250_a_38])
  rcases h01 with h | h
  · have := p0_ h
    have g0 : ¬ ((G_248.1 a 39).toInt ≠ 0) := fun q => by have := s9.mp q; omega
    omega
  · have g1 := s9.mpr h
    have := r0 h
    have : ¬ ((G.1 a 36).toInt ≤ (rS9 (tM (G.2.1 (F a 35)) ((G.1 a 36).toInt))).2.2) := fun q => hn ⟨h, q⟩
    omega
theorem v_X11_read_277_11 {F : Nat → Nat → Nat} (G21 : XG) (G11 : XG) (a : Nat) (x11 : Int32) (G33 : XG) (G30 : XG) (x30 : Int32) (G45 : XG) (G42 : XG) (x42 : Int32) (G76 : XG) (G_76 : XG) (k_76 : Int32) (G121 : XG) (G_121 : XG) (k_121 : Int32) (G148 : XG) (G_148 : XG) (k_148 : Int32) (G195 : XG) (G_195 : XG) (k_195 : Int32) (G218 : XG) (G207 : XG) (k_218 : Int32) (G248 : XG) (G_248 : XG) (k_248 : Int32) (G : XG) (x207 : Int32) (G250 : XG)
    (hG21 : G21 = cput G11 (F a 40) (0 : Int32).toNatClampNeg x11)
    (hG33 : G33 = cput G30 (F a 40) (1 : Int32).toNatClampNeg x30)
    (hG45 : G45 = cput G42 (F a 40) (2 : Int32).toNatClampNeg x42)
    (hG76 : G76 = cput G_76 (F a 40) (3 : Int32).toNatClampNeg k_76)
    (hG121 : G121 = cput G_121 (F a 40) (4 : Int32).toNatClampNeg k_121)
    (hG148 : G148 = cput G_148 (F a 40) (5 : Int32).toNatClampNeg k_148)
    (hG195 : G195 = cput G_195 (F a 40) (8 : Int32).toNatClampNeg k_195)
    (hG218 : G218 = cput G207 (F a 40) (6 : Int32).toNatClampNeg k_218)
    (hG248 : G248 = cput G_248 (F a 40) (7 : Int32).toNatClampNeg k_248)
    (oq11 : x11.toInt = (tkK (tM (G.2.1 (F a 35)) ((G.1 a 36).toInt)) (1, rn cBl (tM (G.2.1 (F a 35)) ((G.1 a 36).toInt)) 0)).1)
    (oq30 : x30.toInt = (tkN (tM (G.2.1 (F a 35)) ((G.1 a 36).toInt)) (0 : Int) (2 : Int) ((rS1 (tM (G.2.1 (F a 35)) ((G.1 a 36).toInt))).2)).1)
    (oq42 : x42.toInt = (tkN (tM (G.2.1 (F a 35)) ((G.1 a 36).toInt)) (0 : Int) (2 : Int) ((rS2 (tM (G.2.1 (F a 35)) ((G.1 a 36).toInt))).2)).1)
    (f4 : k_76.toInt = (rS4 (tM (G.2.1 (F a 35)) ((G.1 a 36).toInt))).1)
    (f5 : k_121.toInt = (rS5 (tM (G.2.1 (F a 35)) ((G.1 a 36).toInt))).1)
    (f6 : k_148.toInt = (rS6 (tM (G.2.1 (F a 35)) ((G.1 a 36).toInt))).1)
    (f7 : k_195.toInt = (rS7 (tM (G.2.1 (F a 35)) ((G.1 a 36).toInt))).1)
    (oq207 : x207.toInt = (tkW (tM (G.2.1 (F a 35)) ((G.1 a 36).toInt)) (kw 8) ((rS7 (tM (G.2.1 (F a 35)) ((G.1 a 36).toInt))).2)).1)
    (f9 : k_248.toInt = (rS9 (tM (G.2.1 (F a 35)) ((G.1 a 36).toInt))).1)
    (t207 : 0 ≤ x207.toInt ∧ x207.toInt ≤ 1)
    (I218_0 : (k_218.toInt = 1 ∧ x207.toInt = 1) ∨ (k_218.toInt = 0 ∧ x207.toInt = 0))
    (c_G207_F_a_40 : G207.2.1 (F a 40) = G195.2.1 (F a 40))
    (c_G250_F_a_40 : G250.2.1 (F a 40) = G248.2.1 (F a 40))
    (c_G30_F_a_40 : G30.2.1 (F a 40) = G21.2.1 (F a 40))
    (c_G42_F_a_40 : G42.2.1 (F a 40) = G33.2.1 (F a 40))
    (c_G_121_F_a_40 : G_121.2.1 (F a 40) = G76.2.1 (F a 40))
    (c_G_148_F_a_40 : G_148.2.1 (F a 40) = G121.2.1 (F a 40))
    (c_G_195_F_a_40 : G_195.2.1 (F a 40) = G148.2.1 (F a 40))
    (c_G_248_F_a_40 : G_248.2.1 (F a 40) = G218.2.1 (F a 40))
    (c_G_76_F_a_40 : G_76.2.1 (F a 40) = G45.2.1 (F a 40)) :
    aI (G250.2.1 (F a 40)) 0 = (rS1 (tM (G.2.1 (F a 35)) ((G.1 a 36).toInt))).1 ∧ aI (G250.2.1 (F a 40)) 1 = (rS2 (tM (G.2.1 (F a 35)) ((G.1 a 36).toInt))).1 ∧ aI (G250.2.1 (F a 40)) 2 = (rS3 (tM (G.2.1 (F a 35)) ((G.1 a 36).toInt))).1 ∧ aI (G250.2.1 (F a 40)) 3 = (rS4 (tM (G.2.1 (F a 35)) ((G.1 a 36).toInt))).1 ∧ aI (G250.2.1 (F a 40)) 4 = (rS5 (tM (G.2.1 (F a 35)) ((G.1 a 36).toInt))).1 ∧ aI (G250.2.1 (F a 40)) 5 = (rS6 (tM (G.2.1 (F a 35)) ((G.1 a 36).toInt))).1 ∧ aI (G250.2.1 (F a 40)) 6 = (rS8 (tM (G.2.1 (F a 35)) ((G.1 a 36).toInt))).1 ∧ aI (G250.2.1 (F a 40)) 7 = (rS9 (tM (G.2.1 (F a 35)) ((G.1 a 36).toInt))).1 ∧ aI (G250.2.1 (F a 40)) 8 = (rS7 (tM (G.2.1 (F a 35)) ((G.1 a 36).toInt))).1 := by
  (try rw [c_G250_F_a_40])
  (try rw [c_G270_F_a_40])
  exact dr9 (aI_pu hG21 rfl (show ((0 : Int32)).toInt = 0 from by decide) oq11 (by decide)) (aI_pu hG33 c_G30_F_a_40 (show ((1 : Int32)).toInt = 1 from by decide) oq30 (by decide)) (aI_pu hG45 c_G42_F_a_40 (show ((2 : Int32)).toInt = 2 from by decide) oq42 (by decide)) (aI_pu hG76 c_G_76_F_a_40 (show ((3 : Int32)).toInt = 3 from by decide) f4 (by decide)) (aI_pu hG121 c_G_121_F_a_40 (show ((4 : Int32)).toInt = 4 from by decide) f5 (by decide)) (aI_pu hG148 c_G_148_F_a_40 (show ((5 : Int32)).toInt = 5 from by decide) f6 (by decide)) (aI_pu hG195 c_G_195_F_a_40 (show ((8 : Int32)).toInt = 8 from by decide) f7 (by decide)) (aI_pu hG218 c_G207_F_a_40 (show ((6 : Int32)).toInt = 6 from by decide) (show k_218.toInt = (rS8 (tM (G.2.1 (F a 35)) ((G.1 a 36).toInt))).1 from by have := oq207; show _ = (tkW _ _ _).1; rw [← this]; omega) (by decide)) (aI_pu hG248 c_G_248_F_a_40 (show ((7 : Int32)).toInt = 7 from by decide) f9 (by decide))
theorem v_X11_read_277_12 {F : Nat → Nat → Nat} (G : XG) (a : Nat) (G_248 : XG) (G250 : XG) (x250 : Int32) (G270 : XG)
    (rd9 : RdM (tM (G.2.1 (F a 35)) ((G.1 a 36).toInt)) (G.1 a 36).toInt (rS9 (tM (G.2.1 (F a 35)) ((G.1 a 36).toInt))).2 ((G_248.1 a 39).toInt) ((G_248.1 a 37).toInt) ((G_248.1 a 38).toInt))
    (oq250 : ((G250.1 a 37).toInt) = rn cBl (tM (G.2.1 (F a 35)) ((G.1 a 36).toInt)) ((G_248.1 a 37).toInt))
    (nt0 : 0 ≤ ((G.1 a 36).toInt) ∧ ((G.1 a 36).toInt) ≤ 80)
    (t250 : -128 ≤ x250.toInt ∧ x250.toInt ≤ 127 ∧ ((0 ≤ x250.toInt ∧ (tM (G.2.1 (F a 35)) ((G.1 a 36).toInt) ((G250.1 a 37).toInt)) = x250.toInt) ∨ (x250.toInt < 0 ∧ (tM (G.2.1 (F a 35)) ((G.1 a 36).toInt) ((G250.1 a 37).toInt)) = x250.toInt + 256)) ∧ ((G_248.1 a 37).toInt) ≤ ((G250.1 a 37).toInt) ∧ ((G250.1 a 37).toInt) ≤ ((G.1 a 36).toInt))
    (c262 : ¬ (((G.1 a 36).toInt) ≤ ((G250.1 a 37).toInt)))
    (t270 : ((G270.1 a 39).toInt) = 0 ∧ (((G_248.1 a 39).toInt) ≠ 0 → ((G270.1 a 38).toInt) = ((G250.1 a 37).toInt)) ∧ (((G_248.1 a 39).toInt) = 0 → ((G270.1 a 38).toInt) = ((G_248.1 a 38).toInt)))
    (d_G250_a_39 : G250.1 a 39 = G_248.1 a 39) :
    (((G270.1 a 39).toInt) ≠ 0 ↔ rOk (tM (G.2.1 (F a 35)) ((G.1 a 36).toInt)) ((G.1 a 36).toInt)) := by
  have s9 := rd9.2.1
  have r0 := rd9.2.2.1
  have p0_ := rd9.2.2.2.1
  have h01 := rd9.1
  unfold rOk
  (try rw [d_G250_a_39])
  constructor
  · intro h
    have h1 : (rS9 (tM (G.2.1 (F a 35)) ((G.1 a 36).toInt))).2.1 = 1 := by
      apply s9.mp
      omega
    have := r0 h1
    exact ⟨h1, by omega⟩
  · rintro ⟨h1, h2⟩
    have g1 := s9.mpr h1
    have := r0 h1
    omega
theorem v_X11_read_277_13 {F : Nat → Nat → Nat} (G : XG) (a : Nat) (G_248 : XG) (G250 : XG) (x250 : Int32) (G270 : XG)
    (rd9 : RdM (tM (G.2.1 (F a 35)) ((G.1 a 36).toInt)) (G.1 a 36).toInt (rS9 (tM (G.2.1 (F a 35)) ((G.1 a 36).toInt))).2 ((G_248.1 a 39).toInt) ((G_248.1 a 37).toInt) ((G_248.1 a 38).toInt))
    (oq250 : ((G250.1 a 37).toInt) = rn cBl (tM (G.2.1 (F a 35)) ((G.1 a 36).toInt)) ((G_248.1 a 37).toInt))
    (nt0 : 0 ≤ ((G.1 a 36).toInt) ∧ ((G.1 a 36).toInt) ≤ 80)
    (t250 : -128 ≤ x250.toInt ∧ x250.toInt ≤ 127 ∧ ((0 ≤ x250.toInt ∧ (tM (G.2.1 (F a 35)) ((G.1 a 36).toInt) ((G250.1 a 37).toInt)) = x250.toInt) ∨ (x250.toInt < 0 ∧ (tM (G.2.1 (F a 35)) ((G.1 a 36).toInt) ((G250.1 a 37).toInt)) = x250.toInt + 256)) ∧ ((G_248.1 a 37).toInt) ≤ ((G250.1 a 37).toInt) ∧ ((G250.1 a 37).toInt) ≤ ((G.1 a 36).toInt))
    (c262 : ¬ (((G.1 a 36).toInt) ≤ ((G250.1 a 37).toInt)))
    (t270 : ((G270.1 a 39).toInt) = 0 ∧ (((G_248.1 a 39).toInt) ≠ 0 → ((G270.1 a 38).toInt) = ((G250.1 a 37).toInt)) ∧ (((G_248.1 a 39).toInt) = 0 → ((G270.1 a 38).toInt) = ((G_248.1 a 38).toInt)))
    (d_G250_a_38 : G250.1 a 38 = G_248.1 a 38) :
    (¬ rOk (tM (G.2.1 (F a 35)) ((G.1 a 36).toInt)) ((G.1 a 36).toInt) → ((G270.1 a 38).toInt) = (rS9 (tM (G.2.1 (F a 35)) ((G.1 a 36).toInt))).2.2 ∧ 0 ≤ (rS9 (tM (G.2.1 (F a 35)) ((G.1 a 36).toInt))).2.2 ∧ (rS9 (tM (G.2.1 (F a 35)) ((G.1 a 36).toInt))).2.2 ≤ ((G.1 a 36).toInt)) := by
  have s9 := rd9.2.1
  have r0 := rd9.2.2.1
  have p0_ := rd9.2.2.2.1
  have h01 := rd9.1
  unfold rOk
  intro hn
  refine ⟨?_, rd9.2.2.2.2.2.1, rd9.2.2.2.2.2.2⟩
  (try rw [d_G250_a_38])
  rcases h01 with h | h
  · have := p0_ h
    have g0 : ¬ ((G_248.1 a 39).toInt ≠ 0) := fun q => by have := s9.mp q; omega
    omega
  · have g1 := s9.mpr h
    have := r0 h
    have : ¬ ((G.1 a 36).toInt ≤ (rS9 (tM (G.2.1 (F a 35)) ((G.1 a 36).toInt))).2.2) := fun q => hn ⟨h, q⟩
    omega
theorem v_X11_read_277_14 {F : Nat → Nat → Nat} (G21 : XG) (G11 : XG) (a : Nat) (x11 : Int32) (G33 : XG) (G30 : XG) (x30 : Int32) (G45 : XG) (G42 : XG) (x42 : Int32) (G76 : XG) (G_76 : XG) (k_76 : Int32) (G121 : XG) (G_121 : XG) (k_121 : Int32) (G148 : XG) (G_148 : XG) (k_148 : Int32) (G195 : XG) (G_195 : XG) (k_195 : Int32) (G218 : XG) (G207 : XG) (k_218 : Int32) (G248 : XG) (G_248 : XG) (k_248 : Int32) (G : XG) (x207 : Int32) (G250 : XG) (G270 : XG)
    (hG21 : G21 = cput G11 (F a 40) (0 : Int32).toNatClampNeg x11)
    (hG33 : G33 = cput G30 (F a 40) (1 : Int32).toNatClampNeg x30)
    (hG45 : G45 = cput G42 (F a 40) (2 : Int32).toNatClampNeg x42)
    (hG76 : G76 = cput G_76 (F a 40) (3 : Int32).toNatClampNeg k_76)
    (hG121 : G121 = cput G_121 (F a 40) (4 : Int32).toNatClampNeg k_121)
    (hG148 : G148 = cput G_148 (F a 40) (5 : Int32).toNatClampNeg k_148)
    (hG195 : G195 = cput G_195 (F a 40) (8 : Int32).toNatClampNeg k_195)
    (hG218 : G218 = cput G207 (F a 40) (6 : Int32).toNatClampNeg k_218)
    (hG248 : G248 = cput G_248 (F a 40) (7 : Int32).toNatClampNeg k_248)
    (oq11 : x11.toInt = (tkK (tM (G.2.1 (F a 35)) ((G.1 a 36).toInt)) (1, rn cBl (tM (G.2.1 (F a 35)) ((G.1 a 36).toInt)) 0)).1)
    (oq30 : x30.toInt = (tkN (tM (G.2.1 (F a 35)) ((G.1 a 36).toInt)) (0 : Int) (2 : Int) ((rS1 (tM (G.2.1 (F a 35)) ((G.1 a 36).toInt))).2)).1)
    (oq42 : x42.toInt = (tkN (tM (G.2.1 (F a 35)) ((G.1 a 36).toInt)) (0 : Int) (2 : Int) ((rS2 (tM (G.2.1 (F a 35)) ((G.1 a 36).toInt))).2)).1)
    (f4 : k_76.toInt = (rS4 (tM (G.2.1 (F a 35)) ((G.1 a 36).toInt))).1)
    (f5 : k_121.toInt = (rS5 (tM (G.2.1 (F a 35)) ((G.1 a 36).toInt))).1)
    (f6 : k_148.toInt = (rS6 (tM (G.2.1 (F a 35)) ((G.1 a 36).toInt))).1)
    (f7 : k_195.toInt = (rS7 (tM (G.2.1 (F a 35)) ((G.1 a 36).toInt))).1)
    (oq207 : x207.toInt = (tkW (tM (G.2.1 (F a 35)) ((G.1 a 36).toInt)) (kw 8) ((rS7 (tM (G.2.1 (F a 35)) ((G.1 a 36).toInt))).2)).1)
    (f9 : k_248.toInt = (rS9 (tM (G.2.1 (F a 35)) ((G.1 a 36).toInt))).1)
    (t207 : 0 ≤ x207.toInt ∧ x207.toInt ≤ 1)
    (I218_0 : (k_218.toInt = 1 ∧ x207.toInt = 1) ∨ (k_218.toInt = 0 ∧ x207.toInt = 0))
    (c_G207_F_a_40 : G207.2.1 (F a 40) = G195.2.1 (F a 40))
    (c_G250_F_a_40 : G250.2.1 (F a 40) = G248.2.1 (F a 40))
    (c_G270_F_a_40 : G270.2.1 (F a 40) = G248.2.1 (F a 40))
    (c_G30_F_a_40 : G30.2.1 (F a 40) = G21.2.1 (F a 40))
    (c_G42_F_a_40 : G42.2.1 (F a 40) = G33.2.1 (F a 40))
    (c_G_121_F_a_40 : G_121.2.1 (F a 40) = G76.2.1 (F a 40))
    (c_G_148_F_a_40 : G_148.2.1 (F a 40) = G121.2.1 (F a 40))
    (c_G_195_F_a_40 : G_195.2.1 (F a 40) = G148.2.1 (F a 40))
    (c_G_248_F_a_40 : G_248.2.1 (F a 40) = G218.2.1 (F a 40))
    (c_G_76_F_a_40 : G_76.2.1 (F a 40) = G45.2.1 (F a 40)) :
    aI (G270.2.1 (F a 40)) 0 = (rS1 (tM (G.2.1 (F a 35)) ((G.1 a 36).toInt))).1 ∧ aI (G270.2.1 (F a 40)) 1 = (rS2 (tM (G.2.1 (F a 35)) ((G.1 a 36).toInt))).1 ∧ aI (G270.2.1 (F a 40)) 2 = (rS3 (tM (G.2.1 (F a 35)) ((G.1 a 36).toInt))).1 ∧ aI (G270.2.1 (F a 40)) 3 = (rS4 (tM (G.2.1 (F a 35)) ((G.1 a 36).toInt))).1 ∧ aI (G270.2.1 (F a 40)) 4 = (rS5 (tM (G.2.1 (F a 35)) ((G.1 a 36).toInt))).1 ∧ aI (G270.2.1 (F a 40)) 5 = (rS6 (tM (G.2.1 (F a 35)) ((G.1 a 36).toInt))).1 ∧ aI (G270.2.1 (F a 40)) 6 = (rS8 (tM (G.2.1 (F a 35)) ((G.1 a 36).toInt))).1 ∧ aI (G270.2.1 (F a 40)) 7 = (rS9 (tM (G.2.1 (F a 35)) ((G.1 a 36).toInt))).1 ∧ aI (G270.2.1 (F a 40)) 8 = (rS7 (tM (G.2.1 (F a 35)) ((G.1 a 36).toInt))).1 := by
  (try rw [c_G250_F_a_40])
  (try rw [c_G270_F_a_40])
  exact dr9 (aI_pu hG21 rfl (show ((0 : Int32)).toInt = 0 from by decide) oq11 (by decide)) (aI_pu hG33 c_G30_F_a_40 (show ((1 : Int32)).toInt = 1 from by decide) oq30 (by decide)) (aI_pu hG45 c_G42_F_a_40 (show ((2 : Int32)).toInt = 2 from by decide) oq42 (by decide)) (aI_pu hG76 c_G_76_F_a_40 (show ((3 : Int32)).toInt = 3 from by decide) f4 (by decide)) (aI_pu hG121 c_G_121_F_a_40 (show ((4 : Int32)).toInt = 4 from by decide) f5 (by decide)) (aI_pu hG148 c_G_148_F_a_40 (show ((5 : Int32)).toInt = 5 from by decide) f6 (by decide)) (aI_pu hG195 c_G_195_F_a_40 (show ((8 : Int32)).toInt = 8 from by decide) f7 (by decide)) (aI_pu hG218 c_G207_F_a_40 (show ((6 : Int32)).toInt = 6 from by decide) (show k_218.toInt = (rS8 (tM (G.2.1 (F a 35)) ((G.1 a 36).toInt))).1 from by have := oq207; show _ = (tkW _ _ _).1; rw [← this]; omega) (by decide)) (aI_pu hG248 c_G_248_F_a_40 (show ((7 : Int32)).toInt = 7 from by decide) f9 (by decide))
theorem v_X11_read_246_15 {F : Nat → Nat → Nat} (x230 : Int32) (G : XG) (a : Nat) (G230 : XG) (G_148 : XG)
    (oq230 : x230.toInt = (tkW (tM (G.2.1 (F a 35)) ((G.1 a 36).toInt)) (kw 9) ((rS8 (tM (G.2.1 (F a 35)) ((G.1 a 36).toInt))).2)).1)
    (oq230a : RdM (tM (G.2.1 (F a 35)) ((G.1 a 36).toInt)) ((G.1 a 36).toInt) (tkW (tM (G.2.1 (F a 35)) ((G.1 a 36).toInt)) (kw 9) ((rS8 (tM (G.2.1 (F a 35)) ((G.1 a 36).toInt))).2)).2 ((G230.1 a 39).toInt) ((G230.1 a 37).toInt) ((G230.1 a 38).toInt))
    (t230 : 0 ≤ x230.toInt ∧ x230.toInt ≤ 1)
    (c233 : x230.toInt = 0)
    (d_G230_a_38 : G230.1 a 38 = G_148.1 a 38)
    (d_G230_a_39 : G230.1 a 39 = G_148.1 a 39) :
    RdM (tM (G.2.1 (F a 35)) ((G.1 a 36).toInt)) (G.1 a 36).toInt (rS9 (tM (G.2.1 (F a 35)) ((G.1 a 36).toInt))).2 ((G_148.1 a 39).toInt) ((G230.1 a 37).toInt) ((G_148.1 a 38).toInt) := by
  have e9 : rS9 (tM (G.2.1 (F a 35)) ((G.1 a 36).toInt)) = (50, (tkW (tM (G.2.1 (F a 35)) ((G.1 a 36).toInt)) (kw 9) (rS8 (tM (G.2.1 (F a 35)) ((G.1 a 36).toInt))).2).2) := if_neg (by rw [← oq230]; omega)
  rw [e9]
  (try rw [d_G230_a_38, d_G230_a_39] at oq230a)
  exact oq230a
theorem v_X11_read_246_16 {F : Nat → Nat → Nat} (x230 : Int32) (G : XG) (a : Nat)
    (oq230 : x230.toInt = (tkW (tM (G.2.1 (F a 35)) ((G.1 a 36).toInt)) (kw 9) ((rS8 (tM (G.2.1 (F a 35)) ((G.1 a 36).toInt))).2)).1)
    (t230 : 0 ≤ x230.toInt ∧ x230.toInt ≤ 1)
    (c233 : x230.toInt = 0) :
    (50 : Int) = (rS9 (tM (G.2.1 (F a 35)) ((G.1 a 36).toInt))).1 := by
  have e9 : rS9 (tM (G.2.1 (F a 35)) ((G.1 a 36).toInt)) = (50, (tkW (tM (G.2.1 (F a 35)) ((G.1 a 36).toInt)) (kw 9) (rS8 (tM (G.2.1 (F a 35)) ((G.1 a 36).toInt))).2).2) := if_neg (by rw [← oq230]; omega)
  rw [e9]
theorem v_X11_read_240_17 {F : Nat → Nat → Nat} (G : XG) (a : Nat) (G230 : XG) (G_148 : XG)
    (oq230a : RdM (tM (G.2.1 (F a 35)) ((G.1 a 36).toInt)) ((G.1 a 36).toInt) (tkW (tM (G.2.1 (F a 35)) ((G.1 a 36).toInt)) (kw 9) ((rS8 (tM (G.2.1 (F a 35)) ((G.1 a 36).toInt))).2)).2 ((G230.1 a 39).toInt) ((G230.1 a 37).toInt) ((G230.1 a 38).toInt))
    (c_G230_F_a_35 : G230.2.1 (F a 35) = G.2.1 (F a 35))
    (d_G230_a_36 : G230.1 a 36 = G.1 a 36)
    (d_G230_a_38 : G230.1 a 38 = G_148.1 a 38)
    (d_G230_a_39 : G230.1 a 39 = G_148.1 a 39) :
    RdM (tM (G230.2.1 (F a 35)) ((G230.1 a 36).toInt)) ((G230.1 a 36).toInt) ((tkW (tM (G.2.1 (F a 35)) ((G.1 a 36).toInt)) (kw 9) (rS8 (tM (G.2.1 (F a 35)) ((G.1 a 36).toInt))).2).2) ((G230.1 a 39).toInt) ((G230.1 a 37).toInt) ((G230.1 a 38).toInt) := by
  (try rw [d_G230_a_38] at oq230a)
  (try rw [d_G230_a_39] at oq230a)
  (try rw [c_G230_F_a_35])
  (try rw [d_G230_a_36])
  (try rw [d_G230_a_37])
  (try rw [d_G230_a_38])
  (try rw [d_G230_a_39])
  exact oq230a
theorem v_X11_read_243_18 {F : Nat → Nat → Nat} (x230 : Int32) (G : XG) (a : Nat) (G240 : XG)
    (oq230 : x230.toInt = (tkW (tM (G.2.1 (F a 35)) ((G.1 a 36).toInt)) (kw 9) ((rS8 (tM (G.2.1 (F a 35)) ((G.1 a 36).toInt))).2)).1)
    (oq240a : RdM (tM (G.2.1 (F a 35)) ((G.1 a 36).toInt)) ((G.1 a 36).toInt) (tkN (tM (G.2.1 (F a 35)) ((G.1 a 36).toInt)) (0 : Int) (99 : Int) ((tkW (tM (G.2.1 (F a 35)) ((G.1 a 36).toInt)) (kw 9) (rS8 (tM (G.2.1 (F a 35)) ((G.1 a 36).toInt))).2).2)).2 ((G240.1 a 39).toInt) ((G240.1 a 37).toInt) ((G240.1 a 38).toInt))
    (t230 : 0 ≤ x230.toInt ∧ x230.toInt ≤ 1)
    (c233 : ¬ (x230.toInt = 0)) :
    RdM (tM (G.2.1 (F a 35)) ((G.1 a 36).toInt)) (G.1 a 36).toInt (rS9 (tM (G.2.1 (F a 35)) ((G.1 a 36).toInt))).2 ((G240.1 a 39).toInt) ((G240.1 a 37).toInt) ((G240.1 a 38).toInt) := by
  have e9 : rS9 (tM (G.2.1 (F a 35)) ((G.1 a 36).toInt)) = tkN (tM (G.2.1 (F a 35)) ((G.1 a 36).toInt)) 0 99 (tkW (tM (G.2.1 (F a 35)) ((G.1 a 36).toInt)) (kw 9) (rS8 (tM (G.2.1 (F a 35)) ((G.1 a 36).toInt))).2).2 := if_pos (by rw [← oq230]; omega)
  rw [e9]
  exact oq240a
theorem v_X11_read_243_19 {F : Nat → Nat → Nat} (x230 : Int32) (G : XG) (a : Nat) (x240 : Int32)
    (oq230 : x230.toInt = (tkW (tM (G.2.1 (F a 35)) ((G.1 a 36).toInt)) (kw 9) ((rS8 (tM (G.2.1 (F a 35)) ((G.1 a 36).toInt))).2)).1)
    (oq240 : x240.toInt = (tkN (tM (G.2.1 (F a 35)) ((G.1 a 36).toInt)) (0 : Int) (99 : Int) ((tkW (tM (G.2.1 (F a 35)) ((G.1 a 36).toInt)) (kw 9) (rS8 (tM (G.2.1 (F a 35)) ((G.1 a 36).toInt))).2).2)).1)
    (t230 : 0 ≤ x230.toInt ∧ x230.toInt ≤ 1)
    (c233 : ¬ (x230.toInt = 0)) :
    x240.toInt = (rS9 (tM (G.2.1 (F a 35)) ((G.1 a 36).toInt))).1 := by
  have e9 : rS9 (tM (G.2.1 (F a 35)) ((G.1 a 36).toInt)) = tkN (tM (G.2.1 (F a 35)) ((G.1 a 36).toInt)) 0 99 (tkW (tM (G.2.1 (F a 35)) ((G.1 a 36).toInt)) (kw 9) (rS8 (tM (G.2.1 (F a 35)) ((G.1 a 36).toInt))).2).2 := if_pos (by rw [← oq230]; omega)
  rw [e9]
  exact oq240
theorem v_X11_read_169_20 {F : Nat → Nat → Nat} (G : XG) (a : Nat) (G_148 : XG) (G148 : XG)
    (rd6 : RdM (tM (G.2.1 (F a 35)) ((G.1 a 36).toInt)) (G.1 a 36).toInt (rS6 (tM (G.2.1 (F a 35)) ((G.1 a 36).toInt))).2 ((G_148.1 a 39).toInt) ((G_148.1 a 37).toInt) ((G_148.1 a 38).toInt))
    (c_G148_F_a_35 : G148.2.1 (F a 35) = G.2.1 (F a 35))
    (d_G148_a_36 : G148.1 a 36 = G.1 a 36)
    (d_G148_a_37 : G148.1 a 37 = G_148.1 a 37)
    (d_G148_a_38 : G148.1 a 38 = G_148.1 a 38)
    (d_G148_a_39 : G148.1 a 39 = G_148.1 a 39) :
    RdM (tM (G148.2.1 (F a 35)) ((G148.1 a 36).toInt)) ((G148.1 a 36).toInt) ((rS6 (tM (G.2.1 (F a 35)) ((G.1 a 36).toInt))).2) ((G148.1 a 39).toInt) ((G148.1 a 37).toInt) ((G148.1 a 38).toInt) := by
  (try rw [c_G148_F_a_35])
  (try rw [d_G148_a_36])
  (try rw [d_G148_a_37])
  (try rw [d_G148_a_38])
  (try rw [d_G148_a_39])
  exact rd6
theorem v_X11_read_169_21 {F : Nat → Nat → Nat} (G : XG) (a : Nat) (G148 : XG)
    (hwo : WDo G F a)
    (c_G148_F_a_31 : G148.2.1 (F a 31) = G.2.1 (F a 31)) :
    (kw 6).length = 7 ∧ ∀ i : Nat, i < 7 → aI (G148.2.1 (F a 31)) (i : Int) = (kw 6).getD i 0 ∧ 0 ≤ (kw 6).getD i 0 ∧ (kw 6).getD i 0 ≤ 127 := by
  have hw := hwo.w (i := 6) (n := 7) (by decide) (by decide)
  rw [c_G148_F_a_31]
  exact hw
theorem v_X11_read_184_22 {F : Nat → Nat → Nat} (x169 : Int32) (G : XG) (a : Nat) (G169 : XG) (G_148 : XG)
    (oq169 : x169.toInt = (tkW (tM (G.2.1 (F a 35)) ((G.1 a 36).toInt)) (kw 6) ((rS6 (tM (G.2.1 (F a 35)) ((G.1 a 36).toInt))).2)).1)
    (oq169a : RdM (tM (G.2.1 (F a 35)) ((G.1 a 36).toInt)) ((G.1 a 36).toInt) (tkW (tM (G.2.1 (F a 35)) ((G.1 a 36).toInt)) (kw 6) ((rS6 (tM (G.2.1 (F a 35)) ((G.1 a 36).toInt))).2)).2 ((G169.1 a 39).toInt) ((G169.1 a 37).toInt) ((G169.1 a 38).toInt))
    (t169 : 0 ≤ x169.toInt ∧ x169.toInt ≤ 1)
    (c172 : x169.toInt = 0)
    (c_G169_F_a_35 : G169.2.1 (F a 35) = G.2.1 (F a 35))
    (d_G169_a_36 : G169.1 a 36 = G.1 a 36)
    (d_G169_a_38 : G169.1 a 38 = G_148.1 a 38)
    (d_G169_a_39 : G169.1 a 39 = G_148.1 a 39) :
    RdM (tM (G169.2.1 (F a 35)) ((G169.1 a 36).toInt)) ((G169.1 a 36).toInt) ((rS6 (tM (G.2.1 (F a 35)) ((G.1 a 36).toInt))).2) ((G169.1 a 39).toInt) ((G169.1 a 37).toInt) ((G169.1 a 38).toInt) := by
  have w6 : (tkW (tM (G.2.1 (F a 35)) ((G.1 a 36).toInt)) (kw 6) (rS6 (tM (G.2.1 (F a 35)) ((G.1 a 36).toInt))).2).1 ≠ 1 := by rw [← oq169]; omega
  rw [tkW_n w6] at oq169a
  (try rw [d_G169_a_38] at oq169a)
  (try rw [d_G169_a_39] at oq169a)
  (try rw [c_G169_F_a_35])
  (try rw [d_G169_a_36])
  (try rw [d_G169_a_37])
  (try rw [d_G169_a_38])
  (try rw [d_G169_a_39])
  exact oq169a
theorem v_X11_read_184_23 {F : Nat → Nat → Nat} (G : XG) (a : Nat) (G169 : XG)
    (hwo : WDo G F a)
    (c_G169_F_a_32 : G169.2.1 (F a 32) = G.2.1 (F a 32)) :
    (kw 7).length = 5 ∧ ∀ i : Nat, i < 5 → aI (G169.2.1 (F a 32)) (i : Int) = (kw 7).getD i 0 ∧ 0 ≤ (kw 7).getD i 0 ∧ (kw 7).getD i 0 ≤ 127 := by
  have hw := hwo.w (i := 7) (n := 5) (by decide) (by decide)
  rw [c_G169_F_a_32]
  exact hw
theorem v_X11_read_194_24 {F : Nat → Nat → Nat} (x11 : Int32) (G : XG) (a : Nat) (x169 : Int32) (x184 : Int32) (G184 : XG) (G169 : XG) (G_148 : XG)
    (oq11 : x11.toInt = (tkK (tM (G.2.1 (F a 35)) ((G.1 a 36).toInt)) (1, rn cBl (tM (G.2.1 (F a 35)) ((G.1 a 36).toInt)) 0)).1)
    (oq169 : x169.toInt = (tkW (tM (G.2.1 (F a 35)) ((G.1 a 36).toInt)) (kw 6) ((rS6 (tM (G.2.1 (F a 35)) ((G.1 a 36).toInt))).2)).1)
    (oq184 : x184.toInt = (tkW (tM (G.2.1 (F a 35)) ((G.1 a 36).toInt)) (kw 7) ((rS6 (tM (G.2.1 (F a 35)) ((G.1 a 36).toInt))).2)).1)
    (oq184a : RdM (tM (G.2.1 (F a 35)) ((G.1 a 36).toInt)) ((G.1 a 36).toInt) (tkW (tM (G.2.1 (F a 35)) ((G.1 a 36).toInt)) (kw 7) ((rS6 (tM (G.2.1 (F a 35)) ((G.1 a 36).toInt))).2)).2 ((G184.1 a 39).toInt) ((G184.1 a 37).toInt) ((G184.1 a 38).toInt))
    (t11 : 0 ≤ x11.toInt ∧ x11.toInt ≤ 5)
    (c157 : x11.toInt = (1 : Int))
    (t169 : 0 ≤ x169.toInt ∧ x169.toInt ≤ 1)
    (c172 : x169.toInt = 0)
    (t184 : 0 ≤ x184.toInt ∧ x184.toInt ≤ 1)
    (c187 : x184.toInt = 0)
    (d_G169_a_38 : G169.1 a 38 = G_148.1 a 38)
    (d_G169_a_39 : G169.1 a 39 = G_148.1 a 39)
    (d_G184_a_38 : G184.1 a 38 = G_148.1 a 38)
    (d_G184_a_39 : G184.1 a 39 = G_148.1 a 39) :
    RdM (tM (G.2.1 (F a 35)) ((G.1 a 36).toInt)) (G.1 a 36).toInt (rS7 (tM (G.2.1 (F a 35)) ((G.1 a 36).toInt))).2 ((G_148.1 a 39).toInt) ((G184.1 a 37).toInt) ((G_148.1 a 38).toInt) := by
  have k11 : (rS1 (tM (G.2.1 (F a 35)) ((G.1 a 36).toInt))).1 = x11.toInt := oq11.symm
  have e7 : rS7 (tM (G.2.1 (F a 35)) ((G.1 a 36).toInt)) = tkA (tM (G.2.1 (F a 35)) ((G.1 a 36).toInt)) (rS6 (tM (G.2.1 (F a 35)) ((G.1 a 36).toInt))).2 := if_pos (by rw [k11]; omega)
  (try rw [d_G169_a_38, d_G169_a_39] at oq169a)
  (try rw [d_G184_a_38, d_G184_a_39] at oq184a)
  have w6 : (tkW (tM (G.2.1 (F a 35)) ((G.1 a 36).toInt)) (kw 6) (rS6 (tM (G.2.1 (F a 35)) ((G.1 a 36).toInt))).2).1 ≠ 1 := by rw [← oq169]; omega
  have w7 : (tkW (tM (G.2.1 (F a 35)) ((G.1 a 36).toInt)) (kw 7) (rS6 (tM (G.2.1 (F a 35)) ((G.1 a 36).toInt))).2).1 ≠ 1 := by rw [← oq184]; omega
  rw [e7, tkA_c w6 w7]
  rw [tkW_n w7] at oq184a
  exact oq184a
theorem v_X11_read_194_25 {F : Nat → Nat → Nat} (x11 : Int32) (G : XG) (a : Nat) (x169 : Int32) (x184 : Int32)
    (oq11 : x11.toInt = (tkK (tM (G.2.1 (F a 35)) ((G.1 a 36).toInt)) (1, rn cBl (tM (G.2.1 (F a 35)) ((G.1 a 36).toInt)) 0)).1)
    (oq169 : x169.toInt = (tkW (tM (G.2.1 (F a 35)) ((G.1 a 36).toInt)) (kw 6) ((rS6 (tM (G.2.1 (F a 35)) ((G.1 a 36).toInt))).2)).1)
    (oq184 : x184.toInt = (tkW (tM (G.2.1 (F a 35)) ((G.1 a 36).toInt)) (kw 7) ((rS6 (tM (G.2.1 (F a 35)) ((G.1 a 36).toInt))).2)).1)
    (t11 : 0 ≤ x11.toInt ∧ x11.toInt ≤ 5)
    (c157 : x11.toInt = (1 : Int))
    (t169 : 0 ≤ x169.toInt ∧ x169.toInt ≤ 1)
    (c172 : x169.toInt = 0)
    (t184 : 0 ≤ x184.toInt ∧ x184.toInt ≤ 1)
    (c187 : x184.toInt = 0) :
    (0 : Int) = (rS7 (tM (G.2.1 (F a 35)) ((G.1 a 36).toInt))).1 := by
  have k11 : (rS1 (tM (G.2.1 (F a 35)) ((G.1 a 36).toInt))).1 = x11.toInt := oq11.symm
  have e7 : rS7 (tM (G.2.1 (F a 35)) ((G.1 a 36).toInt)) = tkA (tM (G.2.1 (F a 35)) ((G.1 a 36).toInt)) (rS6 (tM (G.2.1 (F a 35)) ((G.1 a 36).toInt))).2 := if_pos (by rw [k11]; omega)
  have w6 : (tkW (tM (G.2.1 (F a 35)) ((G.1 a 36).toInt)) (kw 6) (rS6 (tM (G.2.1 (F a 35)) ((G.1 a 36).toInt))).2).1 ≠ 1 := by rw [← oq169]; omega
  have w7 : (tkW (tM (G.2.1 (F a 35)) ((G.1 a 36).toInt)) (kw 7) (rS6 (tM (G.2.1 (F a 35)) ((G.1 a 36).toInt))).2).1 ≠ 1 := by rw [← oq184]; omega
  rw [e7, tkA_c w6 w7]
theorem v_X11_read_191_26 {F : Nat → Nat → Nat} (x11 : Int32) (G : XG) (a : Nat) (x169 : Int32) (x184 : Int32) (G184 : XG) (G169 : XG) (G_148 : XG)
    (oq11 : x11.toInt = (tkK (tM (G.2.1 (F a 35)) ((G.1 a 36).toInt)) (1, rn cBl (tM (G.2.1 (F a 35)) ((G.1 a 36).toInt)) 0)).1)
    (oq169 : x169.toInt = (tkW (tM (G.2.1 (F a 35)) ((G.1 a 36).toInt)) (kw 6) ((rS6 (tM (G.2.1 (F a 35)) ((G.1 a 36).toInt))).2)).1)
    (oq184 : x184.toInt = (tkW (tM (G.2.1 (F a 35)) ((G.1 a 36).toInt)) (kw 7) ((rS6 (tM (G.2.1 (F a 35)) ((G.1 a 36).toInt))).2)).1)
    (oq184a : RdM (tM (G.2.1 (F a 35)) ((G.1 a 36).toInt)) ((G.1 a 36).toInt) (tkW (tM (G.2.1 (F a 35)) ((G.1 a 36).toInt)) (kw 7) ((rS6 (tM (G.2.1 (F a 35)) ((G.1 a 36).toInt))).2)).2 ((G184.1 a 39).toInt) ((G184.1 a 37).toInt) ((G184.1 a 38).toInt))
    (t11 : 0 ≤ x11.toInt ∧ x11.toInt ≤ 5)
    (c157 : x11.toInt = (1 : Int))
    (t169 : 0 ≤ x169.toInt ∧ x169.toInt ≤ 1)
    (c172 : x169.toInt = 0)
    (t184 : 0 ≤ x184.toInt ∧ x184.toInt ≤ 1)
    (c187 : ¬ (x184.toInt = 0))
    (d_G169_a_38 : G169.1 a 38 = G_148.1 a 38)
    (d_G169_a_39 : G169.1 a 39 = G_148.1 a 39)
    (d_G184_a_38 : G184.1 a 38 = G_148.1 a 38)
    (d_G184_a_39 : G184.1 a 39 = G_148.1 a 39) :
    RdM (tM (G.2.1 (F a 35)) ((G.1 a 36).toInt)) (G.1 a 36).toInt (rS7 (tM (G.2.1 (F a 35)) ((G.1 a 36).toInt))).2 ((G_148.1 a 39).toInt) ((G184.1 a 37).toInt) ((G_148.1 a 38).toInt) := by
  have k11 : (rS1 (tM (G.2.1 (F a 35)) ((G.1 a 36).toInt))).1 = x11.toInt := oq11.symm
  have e7 : rS7 (tM (G.2.1 (F a 35)) ((G.1 a 36).toInt)) = tkA (tM (G.2.1 (F a 35)) ((G.1 a 36).toInt)) (rS6 (tM (G.2.1 (F a 35)) ((G.1 a 36).toInt))).2 := if_pos (by rw [k11]; omega)
  (try rw [d_G169_a_38, d_G169_a_39] at oq169a)
  (try rw [d_G184_a_38, d_G184_a_39] at oq184a)
  have w6 : (tkW (tM (G.2.1 (F a 35)) ((G.1 a 36).toInt)) (kw 6) (rS6 (tM (G.2.1 (F a 35)) ((G.1 a 36).toInt))).2).1 ≠ 1 := by rw [← oq169]; omega
  rw [e7, tkA_b w6 (by rw [← oq184]; omega)]
  exact oq184a
theorem v_X11_read_191_27 {F : Nat → Nat → Nat} (x11 : Int32) (G : XG) (a : Nat) (x169 : Int32) (x184 : Int32)
    (oq11 : x11.toInt = (tkK (tM (G.2.1 (F a 35)) ((G.1 a 36).toInt)) (1, rn cBl (tM (G.2.1 (F a 35)) ((G.1 a 36).toInt)) 0)).1)
    (oq169 : x169.toInt = (tkW (tM (G.2.1 (F a 35)) ((G.1 a 36).toInt)) (kw 6) ((rS6 (tM (G.2.1 (F a 35)) ((G.1 a 36).toInt))).2)).1)
    (oq184 : x184.toInt = (tkW (tM (G.2.1 (F a 35)) ((G.1 a 36).toInt)) (kw 7) ((rS6 (tM (G.2.1 (F a 35)) ((G.1 a 36).toInt))).2)).1)
    (t11 : 0 ≤ x11.toInt ∧ x11.toInt ≤ 5)
    (c157 : x11.toInt = (1 : Int))
    (t169 : 0 ≤ x169.toInt ∧ x169.toInt ≤ 1)
    (c172 : x169.toInt = 0)
    (t184 : 0 ≤ x184.toInt ∧ x184.toInt ≤ 1)
    (c187 : ¬ (x184.toInt = 0)) :
    (2 : Int) = (rS7 (tM (G.2.1 (F a 35)) ((G.1 a 36).toInt))).1 := by
  have k11 : (rS1 (tM (G.2.1 (F a 35)) ((G.1 a 36).toInt))).1 = x11.toInt := oq11.symm
  have e7 : rS7 (tM (G.2.1 (F a 35)) ((G.1 a 36).toInt)) = tkA (tM (G.2.1 (F a 35)) ((G.1 a 36).toInt)) (rS6 (tM (G.2.1 (F a 35)) ((G.1 a 36).toInt))).2 := if_pos (by rw [k11]; omega)
  have w6 : (tkW (tM (G.2.1 (F a 35)) ((G.1 a 36).toInt)) (kw 6) (rS6 (tM (G.2.1 (F a 35)) ((G.1 a 36).toInt))).2).1 ≠ 1 := by rw [← oq169]; omega
  rw [e7, tkA_b w6 (by rw [← oq184]; omega)]
theorem v_X11_read_176_28 {F : Nat → Nat → Nat} (x11 : Int32) (G : XG) (a : Nat) (x169 : Int32) (G169 : XG) (G_148 : XG)
    (oq11 : x11.toInt = (tkK (tM (G.2.1 (F a 35)) ((G.1 a 36).toInt)) (1, rn cBl (tM (G.2.1 (F a 35)) ((G.1 a 36).toInt)) 0)).1)
    (oq169 : x169.toInt = (tkW (tM (G.2.1 (F a 35)) ((G.1 a 36).toInt)) (kw 6) ((rS6 (tM (G.2.1 (F a 35)) ((G.1 a 36).toInt))).2)).1)
    (oq169a : RdM (tM (G.2.1 (F a 35)) ((G.1 a 36).toInt)) ((G.1 a 36).toInt) (tkW (tM (G.2.1 (F a 35)) ((G.1 a 36).toInt)) (kw 6) ((rS6 (tM (G.2.1 (F a 35)) ((G.1 a 36).toInt))).2)).2 ((G169.1 a 39).toInt) ((G169.1 a 37).toInt) ((G169.1 a 38).toInt))
    (t11 : 0 ≤ x11.toInt ∧ x11.toInt ≤ 5)
    (c157 : x11.toInt = (1 : Int))
    (t169 : 0 ≤ x169.toInt ∧ x169.toInt ≤ 1)
    (c172 : ¬ (x169.toInt = 0))
    (d_G169_a_38 : G169.1 a 38 = G_148.1 a 38)
    (d_G169_a_39 : G169.1 a 39 = G_148.1 a 39) :
    RdM (tM (G.2.1 (F a 35)) ((G.1 a 36).toInt)) (G.1 a 36).toInt (rS7 (tM (G.2.1 (F a 35)) ((G.1 a 36).toInt))).2 ((G_148.1 a 39).toInt) ((G169.1 a 37).toInt) ((G_148.1 a 38).toInt) := by
  have k11 : (rS1 (tM (G.2.1 (F a 35)) ((G.1 a 36).toInt))).1 = x11.toInt := oq11.symm
  have e7 : rS7 (tM (G.2.1 (F a 35)) ((G.1 a 36).toInt)) = tkA (tM (G.2.1 (F a 35)) ((G.1 a 36).toInt)) (rS6 (tM (G.2.1 (F a 35)) ((G.1 a 36).toInt))).2 := if_pos (by rw [k11]; omega)
  (try rw [d_G169_a_38, d_G169_a_39] at oq169a)
  (try rw [d_G184_a_38, d_G184_a_39] at oq184a)
  rw [e7, tkA_a (by rw [← oq169]; omega)]
  exact oq169a
theorem v_X11_read_176_29 {F : Nat → Nat → Nat} (x11 : Int32) (G : XG) (a : Nat) (x169 : Int32)
    (oq11 : x11.toInt = (tkK (tM (G.2.1 (F a 35)) ((G.1 a 36).toInt)) (1, rn cBl (tM (G.2.1 (F a 35)) ((G.1 a 36).toInt)) 0)).1)
    (oq169 : x169.toInt = (tkW (tM (G.2.1 (F a 35)) ((G.1 a 36).toInt)) (kw 6) ((rS6 (tM (G.2.1 (F a 35)) ((G.1 a 36).toInt))).2)).1)
    (t11 : 0 ≤ x11.toInt ∧ x11.toInt ≤ 5)
    (c157 : x11.toInt = (1 : Int))
    (t169 : 0 ≤ x169.toInt ∧ x169.toInt ≤ 1)
    (c172 : ¬ (x169.toInt = 0)) :
    (1 : Int) = (rS7 (tM (G.2.1 (F a 35)) ((G.1 a 36).toInt))).1 := by
  have k11 : (rS1 (tM (G.2.1 (F a 35)) ((G.1 a 36).toInt))).1 = x11.toInt := oq11.symm
  have e7 : rS7 (tM (G.2.1 (F a 35)) ((G.1 a 36).toInt)) = tkA (tM (G.2.1 (F a 35)) ((G.1 a 36).toInt)) (rS6 (tM (G.2.1 (F a 35)) ((G.1 a 36).toInt))).2 := if_pos (by rw [k11]; omega)
  rw [e7, tkA_a (by rw [← oq169]; omega)]
theorem v_X11_read_161_30 {F : Nat → Nat → Nat} (x11 : Int32) (G : XG) (a : Nat) (G_148 : XG)
    (oq11 : x11.toInt = (tkK (tM (G.2.1 (F a 35)) ((G.1 a 36).toInt)) (1, rn cBl (tM (G.2.1 (F a 35)) ((G.1 a 36).toInt)) 0)).1)
    (rd6 : RdM (tM (G.2.1 (F a 35)) ((G.1 a 36).toInt)) (G.1 a 36).toInt (rS6 (tM (G.2.1 (F a 35)) ((G.1 a 36).toInt))).2 ((G_148.1 a 39).toInt) ((G_148.1 a 37).toInt) ((G_148.1 a 38).toInt))
    (t11 : 0 ≤ x11.toInt ∧ x11.toInt ≤ 5)
    (c157 : ¬ (x11.toInt = (1 : Int))) :
    RdM (tM (G.2.1 (F a 35)) ((G.1 a 36).toInt)) (G.1 a 36).toInt (rS7 (tM (G.2.1 (F a 35)) ((G.1 a 36).toInt))).2 ((G_148.1 a 39).toInt) ((G_148.1 a 37).toInt) ((G_148.1 a 38).toInt) := by
  have k11 : (rS1 (tM (G.2.1 (F a 35)) ((G.1 a 36).toInt))).1 = x11.toInt := oq11.symm
  have e7 : rS7 (tM (G.2.1 (F a 35)) ((G.1 a 36).toInt)) = (0, (rS6 (tM (G.2.1 (F a 35)) ((G.1 a 36).toInt))).2) := if_neg (by rw [k11]; omega)
  rw [e7]
  exact rd6
theorem v_X11_read_161_31 {F : Nat → Nat → Nat} (x11 : Int32) (G : XG) (a : Nat)
    (oq11 : x11.toInt = (tkK (tM (G.2.1 (F a 35)) ((G.1 a 36).toInt)) (1, rn cBl (tM (G.2.1 (F a 35)) ((G.1 a 36).toInt)) 0)).1)
    (t11 : 0 ≤ x11.toInt ∧ x11.toInt ≤ 5)
    (c157 : ¬ (x11.toInt = (1 : Int))) :
    (0 : Int) = (rS7 (tM (G.2.1 (F a 35)) ((G.1 a 36).toInt))).1 := by
  have k11 : (rS1 (tM (G.2.1 (F a 35)) ((G.1 a 36).toInt))).1 = x11.toInt := oq11.symm
  have e7 : rS7 (tM (G.2.1 (F a 35)) ((G.1 a 36).toInt)) = (0, (rS6 (tM (G.2.1 (F a 35)) ((G.1 a 36).toInt))).2) := if_neg (by rw [k11]; omega)
  rw [e7]
theorem v_X11_read_147_32 {F : Nat → Nat → Nat} (x11 : Int32) (G : XG) (a : Nat) (G_121 : XG) (k_97 : Int32)
    (oq11 : x11.toInt = (tkK (tM (G.2.1 (F a 35)) ((G.1 a 36).toInt)) (1, rn cBl (tM (G.2.1 (F a 35)) ((G.1 a 36).toInt)) 0)).1)
    (rd5 : RdM (tM (G.2.1 (F a 35)) ((G.1 a 36).toInt)) (G.1 a 36).toInt (rS5 (tM (G.2.1 (F a 35)) ((G.1 a 36).toInt))).2 ((G_121.1 a 39).toInt) ((G_121.1 a 37).toInt) ((G_121.1 a 38).toInt))
    (t11 : 0 ≤ x11.toInt ∧ x11.toInt ≤ 5)
    (I97_0 : (k_97.toInt = 1 ∧ (x11.toInt = 2 ∨ x11.toInt = 3 ∨ x11.toInt = 4)) ∨ (k_97.toInt = 0 ∧ ¬ (x11.toInt = 2 ∨ x11.toInt = 3 ∨ x11.toInt = 4)))
    (c128 : k_97.toInt = 0) :
    RdM (tM (G.2.1 (F a 35)) ((G.1 a 36).toInt)) (G.1 a 36).toInt (rS6 (tM (G.2.1 (F a 35)) ((G.1 a 36).toInt))).2 ((G_121.1 a 39).toInt) ((G_121.1 a 37).toInt) ((G_121.1 a 38).toInt) := by
  have k11 : (rS1 (tM (G.2.1 (F a 35)) ((G.1 a 36).toInt))).1 = x11.toInt := oq11.symm
  have e6 : rS6 (tM (G.2.1 (F a 35)) ((G.1 a 36).toInt)) = (0, (rS5 (tM (G.2.1 (F a 35)) ((G.1 a 36).toInt))).2) := if_neg (by rw [k11]; omega)
  rw [e6]
  exact rd5
theorem v_X11_read_147_33 {F : Nat → Nat → Nat} (x11 : Int32) (G : XG) (a : Nat) (k_97 : Int32)
    (oq11 : x11.toInt = (tkK (tM (G.2.1 (F a 35)) ((G.1 a 36).toInt)) (1, rn cBl (tM (G.2.1 (F a 35)) ((G.1 a 36).toInt)) 0)).1)
    (t11 : 0 ≤ x11.toInt ∧ x11.toInt ≤ 5)
    (I97_0 : (k_97.toInt = 1 ∧ (x11.toInt = 2 ∨ x11.toInt = 3 ∨ x11.toInt = 4)) ∨ (k_97.toInt = 0 ∧ ¬ (x11.toInt = 2 ∨ x11.toInt = 3 ∨ x11.toInt = 4)))
    (c128 : k_97.toInt = 0) :
    (0 : Int) = (rS6 (tM (G.2.1 (F a 35)) ((G.1 a 36).toInt))).1 := by
  have k11 : (rS1 (tM (G.2.1 (F a 35)) ((G.1 a 36).toInt))).1 = x11.toInt := oq11.symm
  have e6 : rS6 (tM (G.2.1 (F a 35)) ((G.1 a 36).toInt)) = (0, (rS5 (tM (G.2.1 (F a 35)) ((G.1 a 36).toInt))).2) := if_neg (by rw [k11]; omega)
  rw [e6]
theorem v_X11_read_141_34 {F : Nat → Nat → Nat} (G : XG) (a : Nat) (G_121 : XG) (G121 : XG)
    (rd5 : RdM (tM (G.2.1 (F a 35)) ((G.1 a 36).toInt)) (G.1 a 36).toInt (rS5 (tM (G.2.1 (F a 35)) ((G.1 a 36).toInt))).2 ((G_121.1 a 39).toInt) ((G_121.1 a 37).toInt) ((G_121.1 a 38).toInt))
    (c_G121_F_a_35 : G121.2.1 (F a 35) = G.2.1 (F a 35))
    (d_G121_a_36 : G121.1 a 36 = G.1 a 36)
    (d_G121_a_37 : G121.1 a 37 = G_121.1 a 37)
    (d_G121_a_38 : G121.1 a 38 = G_121.1 a 38)
    (d_G121_a_39 : G121.1 a 39 = G_121.1 a 39) :
    RdM (tM (G121.2.1 (F a 35)) ((G121.1 a 36).toInt)) ((G121.1 a 36).toInt) ((rS5 (tM (G.2.1 (F a 35)) ((G.1 a 36).toInt))).2) ((G121.1 a 39).toInt) ((G121.1 a 37).toInt) ((G121.1 a 38).toInt) := by
  (try rw [c_G121_F_a_35])
  (try rw [d_G121_a_36])
  (try rw [d_G121_a_37])
  (try rw [d_G121_a_38])
  (try rw [d_G121_a_39])
  exact rd5
theorem v_X11_read_144_35 {F : Nat → Nat → Nat} (G121 : XG) (G_121 : XG) (a : Nat) (k_121 : Int32) (x11 : Int32) (G : XG) (G141 : XG) (k_97 : Int32)
    (hG121 : G121 = cput G_121 (F a 40) (4 : Int32).toNatClampNeg k_121)
    (oq11 : x11.toInt = (tkK (tM (G.2.1 (F a 35)) ((G.1 a 36).toInt)) (1, rn cBl (tM (G.2.1 (F a 35)) ((G.1 a 36).toInt)) 0)).1)
    (f5 : k_121.toInt = (rS5 (tM (G.2.1 (F a 35)) ((G.1 a 36).toInt))).1)
    (oq141a : RdM (tM (G.2.1 (F a 35)) ((G.1 a 36).toInt)) ((G.1 a 36).toInt) (tkN (tM (G.2.1 (F a 35)) ((G.1 a 36).toInt)) (aI (G121.2.1 (F a 40)) 4) (9999 : Int) ((rS5 (tM (G.2.1 (F a 35)) ((G.1 a 36).toInt))).2)).2 ((G141.1 a 39).toInt) ((G141.1 a 37).toInt) ((G141.1 a 38).toInt))
    (t11 : 0 ≤ x11.toInt ∧ x11.toInt ≤ 5)
    (I97_0 : (k_97.toInt = 1 ∧ (x11.toInt = 2 ∨ x11.toInt = 3 ∨ x11.toInt = 4)) ∨ (k_97.toInt = 0 ∧ ¬ (x11.toInt = 2 ∨ x11.toInt = 3 ∨ x11.toInt = 4)))
    (c128 : ¬ (k_97.toInt = 0)) :
    RdM (tM (G.2.1 (F a 35)) ((G.1 a 36).toInt)) (G.1 a 36).toInt (rS6 (tM (G.2.1 (F a 35)) ((G.1 a 36).toInt))).2 ((G141.1 a 39).toInt) ((G141.1 a 37).toInt) ((G141.1 a 38).toInt) := by
  have k11 : (rS1 (tM (G.2.1 (F a 35)) ((G.1 a 36).toInt))).1 = x11.toInt := oq11.symm
  have e6 : rS6 (tM (G.2.1 (F a 35)) ((G.1 a 36).toInt)) = tkN (tM (G.2.1 (F a 35)) ((G.1 a 36).toInt)) (rS5 (tM (G.2.1 (F a 35)) ((G.1 a 36).toInt))).1 9999 (rS5 (tM (G.2.1 (F a 35)) ((G.1 a 36).toInt))).2 := if_pos (by rw [k11]; omega)
  rw [e6]
  rw [show aI (G121.2.1 (F a 40)) 4 = (rS5 (tM (G.2.1 (F a 35)) ((G.1 a 36).toInt))).1 from by rw [← f5]; exact (by have u := aI_pu hG121 rfl (show ((4 : Int32)).toInt = 4 from by decide) rfl (by decide) 4 (by decide); rw [if_pos rfl] at u; exact u)] at oq141a
  exact oq141a
theorem v_X11_read_144_36 {F : Nat → Nat → Nat} (G121 : XG) (G_121 : XG) (a : Nat) (k_121 : Int32) (x11 : Int32) (G : XG) (x141 : Int32) (k_97 : Int32)
    (hG121 : G121 = cput G_121 (F a 40) (4 : Int32).toNatClampNeg k_121)
    (oq11 : x11.toInt = (tkK (tM (G.2.1 (F a 35)) ((G.1 a 36).toInt)) (1, rn cBl (tM (G.2.1 (F a 35)) ((G.1 a 36).toInt)) 0)).1)
    (f5 : k_121.toInt = (rS5 (tM (G.2.1 (F a 35)) ((G.1 a 36).toInt))).1)
    (oq141 : x141.toInt = (tkN (tM (G.2.1 (F a 35)) ((G.1 a 36).toInt)) (aI (G121.2.1 (F a 40)) 4) (9999 : Int) ((rS5 (tM (G.2.1 (F a 35)) ((G.1 a 36).toInt))).2)).1)
    (t11 : 0 ≤ x11.toInt ∧ x11.toInt ≤ 5)
    (I97_0 : (k_97.toInt = 1 ∧ (x11.toInt = 2 ∨ x11.toInt = 3 ∨ x11.toInt = 4)) ∨ (k_97.toInt = 0 ∧ ¬ (x11.toInt = 2 ∨ x11.toInt = 3 ∨ x11.toInt = 4)))
    (c128 : ¬ (k_97.toInt = 0)) :
    x141.toInt = (rS6 (tM (G.2.1 (F a 35)) ((G.1 a 36).toInt))).1 := by
  have k11 : (rS1 (tM (G.2.1 (F a 35)) ((G.1 a 36).toInt))).1 = x11.toInt := oq11.symm
  have e6 : rS6 (tM (G.2.1 (F a 35)) ((G.1 a 36).toInt)) = tkN (tM (G.2.1 (F a 35)) ((G.1 a 36).toInt)) (rS5 (tM (G.2.1 (F a 35)) ((G.1 a 36).toInt))).1 9999 (rS5 (tM (G.2.1 (F a 35)) ((G.1 a 36).toInt))).2 := if_pos (by rw [k11]; omega)
  rw [e6]
  rw [show aI (G121.2.1 (F a 40)) 4 = (rS5 (tM (G.2.1 (F a 35)) ((G.1 a 36).toInt))).1 from by rw [← f5]; exact (by have u := aI_pu hG121 rfl (show ((4 : Int32)).toInt = 4 from by decide) rfl (by decide) 4 (by decide); rw [if_pos rfl] at u; exact u)] at oq141
  exact oq141
theorem v_X11_read_120_37 {F : Nat → Nat → Nat} (x11 : Int32) (G : XG) (a : Nat) (G_76 : XG) (k_97 : Int32)
    (oq11 : x11.toInt = (tkK (tM (G.2.1 (F a 35)) ((G.1 a 36).toInt)) (1, rn cBl (tM (G.2.1 (F a 35)) ((G.1 a 36).toInt)) 0)).1)
    (rd4 : RdM (tM (G.2.1 (F a 35)) ((G.1 a 36).toInt)) (G.1 a 36).toInt (rS4 (tM (G.2.1 (F a 35)) ((G.1 a 36).toInt))).2 ((G_76.1 a 39).toInt) ((G_76.1 a 37).toInt) ((G_76.1 a 38).toInt))
    (t11 : 0 ≤ x11.toInt ∧ x11.toInt ≤ 5)
    (I97_0 : (k_97.toInt = 1 ∧ (x11.toInt = 2 ∨ x11.toInt = 3 ∨ x11.toInt = 4)) ∨ (k_97.toInt = 0 ∧ ¬ (x11.toInt = 2 ∨ x11.toInt = 3 ∨ x11.toInt = 4)))
    (c104 : k_97.toInt = 0) :
    RdM (tM (G.2.1 (F a 35)) ((G.1 a 36).toInt)) (G.1 a 36).toInt (rS5 (tM (G.2.1 (F a 35)) ((G.1 a 36).toInt))).2 ((G_76.1 a 39).toInt) ((G_76.1 a 37).toInt) ((G_76.1 a 38).toInt) := by
  have k11 : (rS1 (tM (G.2.1 (F a 35)) ((G.1 a 36).toInt))).1 = x11.toInt := oq11.symm
  have e5 : rS5 (tM (G.2.1 (F a 35)) ((G.1 a 36).toInt)) = (0, (rS4 (tM (G.2.1 (F a 35)) ((G.1 a 36).toInt))).2) := if_neg (by rw [k11]; omega)
  rw [e5]
  exact rd4
theorem v_X11_read_120_38 {F : Nat → Nat → Nat} (x11 : Int32) (G : XG) (a : Nat) (k_97 : Int32)
    (oq11 : x11.toInt = (tkK (tM (G.2.1 (F a 35)) ((G.1 a 36).toInt)) (1, rn cBl (tM (G.2.1 (F a 35)) ((G.1 a 36).toInt)) 0)).1)
    (t11 : 0 ≤ x11.toInt ∧ x11.toInt ≤ 5)
    (I97_0 : (k_97.toInt = 1 ∧ (x11.toInt = 2 ∨ x11.toInt = 3 ∨ x11.toInt = 4)) ∨ (k_97.toInt = 0 ∧ ¬ (x11.toInt = 2 ∨ x11.toInt = 3 ∨ x11.toInt = 4)))
    (c104 : k_97.toInt = 0) :
    (0 : Int) = (rS5 (tM (G.2.1 (F a 35)) ((G.1 a 36).toInt))).1 := by
  have k11 : (rS1 (tM (G.2.1 (F a 35)) ((G.1 a 36).toInt))).1 = x11.toInt := oq11.symm
  have e5 : rS5 (tM (G.2.1 (F a 35)) ((G.1 a 36).toInt)) = (0, (rS4 (tM (G.2.1 (F a 35)) ((G.1 a 36).toInt))).2) := if_neg (by rw [k11]; omega)
  rw [e5]
theorem v_X11_read_114_39 {F : Nat → Nat → Nat} (G : XG) (a : Nat) (G_76 : XG) (G76 : XG)
    (rd4 : RdM (tM (G.2.1 (F a 35)) ((G.1 a 36).toInt)) (G.1 a 36).toInt (rS4 (tM (G.2.1 (F a 35)) ((G.1 a 36).toInt))).2 ((G_76.1 a 39).toInt) ((G_76.1 a 37).toInt) ((G_76.1 a 38).toInt))
    (c_G76_F_a_35 : G76.2.1 (F a 35) = G.2.1 (F a 35))
    (d_G76_a_36 : G76.1 a 36 = G.1 a 36)
    (d_G76_a_37 : G76.1 a 37 = G_76.1 a 37)
    (d_G76_a_38 : G76.1 a 38 = G_76.1 a 38)
    (d_G76_a_39 : G76.1 a 39 = G_76.1 a 39) :
    RdM (tM (G76.2.1 (F a 35)) ((G76.1 a 36).toInt)) ((G76.1 a 36).toInt) ((rS4 (tM (G.2.1 (F a 35)) ((G.1 a 36).toInt))).2) ((G76.1 a 39).toInt) ((G76.1 a 37).toInt) ((G76.1 a 38).toInt) := by
  (try rw [c_G76_F_a_35])
  (try rw [d_G76_a_36])
  (try rw [d_G76_a_37])
  (try rw [d_G76_a_38])
  (try rw [d_G76_a_39])
  exact rd4
theorem v_X11_read_117_40 {F : Nat → Nat → Nat} (x11 : Int32) (G : XG) (a : Nat) (G114 : XG) (k_97 : Int32)
    (oq11 : x11.toInt = (tkK (tM (G.2.1 (F a 35)) ((G.1 a 36).toInt)) (1, rn cBl (tM (G.2.1 (F a 35)) ((G.1 a 36).toInt)) 0)).1)
    (oq114a : RdM (tM (G.2.1 (F a 35)) ((G.1 a 36).toInt)) ((G.1 a 36).toInt) (tkN (tM (G.2.1 (F a 35)) ((G.1 a 36).toInt)) (-9999 : Int) (9999 : Int) ((rS4 (tM (G.2.1 (F a 35)) ((G.1 a 36).toInt))).2)).2 ((G114.1 a 39).toInt) ((G114.1 a 37).toInt) ((G114.1 a 38).toInt))
    (t11 : 0 ≤ x11.toInt ∧ x11.toInt ≤ 5)
    (I97_0 : (k_97.toInt = 1 ∧ (x11.toInt = 2 ∨ x11.toInt = 3 ∨ x11.toInt = 4)) ∨ (k_97.toInt = 0 ∧ ¬ (x11.toInt = 2 ∨ x11.toInt = 3 ∨ x11.toInt = 4)))
    (c104 : ¬ (k_97.toInt = 0)) :
    RdM (tM (G.2.1 (F a 35)) ((G.1 a 36).toInt)) (G.1 a 36).toInt (rS5 (tM (G.2.1 (F a 35)) ((G.1 a 36).toInt))).2 ((G114.1 a 39).toInt) ((G114.1 a 37).toInt) ((G114.1 a 38).toInt) := by
  have k11 : (rS1 (tM (G.2.1 (F a 35)) ((G.1 a 36).toInt))).1 = x11.toInt := oq11.symm
  have e5 : rS5 (tM (G.2.1 (F a 35)) ((G.1 a 36).toInt)) = tkN (tM (G.2.1 (F a 35)) ((G.1 a 36).toInt)) (-9999) 9999 (rS4 (tM (G.2.1 (F a 35)) ((G.1 a 36).toInt))).2 := if_pos (by rw [k11]; omega)
  rw [e5]
  exact oq114a
theorem v_X11_read_117_41 {F : Nat → Nat → Nat} (x11 : Int32) (G : XG) (a : Nat) (x114 : Int32) (k_97 : Int32)
    (oq11 : x11.toInt = (tkK (tM (G.2.1 (F a 35)) ((G.1 a 36).toInt)) (1, rn cBl (tM (G.2.1 (F a 35)) ((G.1 a 36).toInt)) 0)).1)
    (oq114 : x114.toInt = (tkN (tM (G.2.1 (F a 35)) ((G.1 a 36).toInt)) (-9999 : Int) (9999 : Int) ((rS4 (tM (G.2.1 (F a 35)) ((G.1 a 36).toInt))).2)).1)
    (t11 : 0 ≤ x11.toInt ∧ x11.toInt ≤ 5)
    (I97_0 : (k_97.toInt = 1 ∧ (x11.toInt = 2 ∨ x11.toInt = 3 ∨ x11.toInt = 4)) ∨ (k_97.toInt = 0 ∧ ¬ (x11.toInt = 2 ∨ x11.toInt = 3 ∨ x11.toInt = 4)))
    (c104 : ¬ (k_97.toInt = 0)) :
    x114.toInt = (rS5 (tM (G.2.1 (F a 35)) ((G.1 a 36).toInt))).1 := by
  have k11 : (rS1 (tM (G.2.1 (F a 35)) ((G.1 a 36).toInt))).1 = x11.toInt := oq11.symm
  have e5 : rS5 (tM (G.2.1 (F a 35)) ((G.1 a 36).toInt)) = tkN (tM (G.2.1 (F a 35)) ((G.1 a 36).toInt)) (-9999) 9999 (rS4 (tM (G.2.1 (F a 35)) ((G.1 a 36).toInt))).2 := if_pos (by rw [k11]; omega)
  rw [e5]
  exact oq114
theorem v_X11_read_69_42 {F : Nat → Nat → Nat} (G : XG) (a : Nat) (G42 : XG) (G45 : XG)
    (oq42a : RdM (tM (G.2.1 (F a 35)) ((G.1 a 36).toInt)) ((G.1 a 36).toInt) (tkN (tM (G.2.1 (F a 35)) ((G.1 a 36).toInt)) (0 : Int) (2 : Int) ((rS2 (tM (G.2.1 (F a 35)) ((G.1 a 36).toInt))).2)).2 ((G42.1 a 39).toInt) ((G42.1 a 37).toInt) ((G42.1 a 38).toInt))
    (c_G45_F_a_35 : G45.2.1 (F a 35) = G.2.1 (F a 35))
    (d_G45_a_36 : G45.1 a 36 = G.1 a 36)
    (d_G45_a_37 : G45.1 a 37 = G42.1 a 37)
    (d_G45_a_38 : G45.1 a 38 = G42.1 a 38)
    (d_G45_a_39 : G45.1 a 39 = G42.1 a 39) :
    RdM (tM (G45.2.1 (F a 35)) ((G45.1 a 36).toInt)) ((G45.1 a 36).toInt) ((rS3 (tM (G.2.1 (F a 35)) ((G.1 a 36).toInt))).2) ((G45.1 a 39).toInt) ((G45.1 a 37).toInt) ((G45.1 a 38).toInt) := by
  (try rw [c_G45_F_a_35])
  (try rw [d_G45_a_36])
  (try rw [d_G45_a_37])
  (try rw [d_G45_a_38])
  (try rw [d_G45_a_39])
  exact oq42a
theorem v_X11_read_72_43 {F : Nat → Nat → Nat} (x11 : Int32) (G : XG) (a : Nat) (G69 : XG)
    (oq11 : x11.toInt = (tkK (tM (G.2.1 (F a 35)) ((G.1 a 36).toInt)) (1, rn cBl (tM (G.2.1 (F a 35)) ((G.1 a 36).toInt)) 0)).1)
    (oq69a : RdM (tM (G.2.1 (F a 35)) ((G.1 a 36).toInt)) ((G.1 a 36).toInt) (tkN (tM (G.2.1 (F a 35)) ((G.1 a 36).toInt)) (0 : Int) (2 : Int) ((rS3 (tM (G.2.1 (F a 35)) ((G.1 a 36).toInt))).2)).2 ((G69.1 a 39).toInt) ((G69.1 a 37).toInt) ((G69.1 a 38).toInt))
    (t11 : 0 ≤ x11.toInt ∧ x11.toInt ≤ 5)
    (I66_0 : x11.toInt = 1 ∨ x11.toInt = 3 ∨ x11.toInt = 4) :
    RdM (tM (G.2.1 (F a 35)) ((G.1 a 36).toInt)) (G.1 a 36).toInt (rS4 (tM (G.2.1 (F a 35)) ((G.1 a 36).toInt))).2 ((G69.1 a 39).toInt) ((G69.1 a 37).toInt) ((G69.1 a 38).toInt) := by
  have k11 : (rS1 (tM (G.2.1 (F a 35)) ((G.1 a 36).toInt))).1 = x11.toInt := oq11.symm
  have e4 : rS4 (tM (G.2.1 (F a 35)) ((G.1 a 36).toInt)) = tkN (tM (G.2.1 (F a 35)) ((G.1 a 36).toInt)) 0 2 (rS3 (tM (G.2.1 (F a 35)) ((G.1 a 36).toInt))).2 := if_pos (by rw [k11]; omega)
  rw [e4]
  exact oq69a
theorem v_X11_read_72_44 {F : Nat → Nat → Nat} (x11 : Int32) (G : XG) (a : Nat) (x69 : Int32)
    (oq11 : x11.toInt = (tkK (tM (G.2.1 (F a 35)) ((G.1 a 36).toInt)) (1, rn cBl (tM (G.2.1 (F a 35)) ((G.1 a 36).toInt)) 0)).1)
    (oq69 : x69.toInt = (tkN (tM (G.2.1 (F a 35)) ((G.1 a 36).toInt)) (0 : Int) (2 : Int) ((rS3 (tM (G.2.1 (F a 35)) ((G.1 a 36).toInt))).2)).1)
    (t11 : 0 ≤ x11.toInt ∧ x11.toInt ≤ 5)
    (I66_0 : x11.toInt = 1 ∨ x11.toInt = 3 ∨ x11.toInt = 4) :
    x69.toInt = (rS4 (tM (G.2.1 (F a 35)) ((G.1 a 36).toInt))).1 := by
  have k11 : (rS1 (tM (G.2.1 (F a 35)) ((G.1 a 36).toInt))).1 = x11.toInt := oq11.symm
  have e4 : rS4 (tM (G.2.1 (F a 35)) ((G.1 a 36).toInt)) = tkN (tM (G.2.1 (F a 35)) ((G.1 a 36).toInt)) 0 2 (rS3 (tM (G.2.1 (F a 35)) ((G.1 a 36).toInt))).2 := if_pos (by rw [k11]; omega)
  rw [e4]
  exact oq69
theorem v_X11_read_75_45 {F : Nat → Nat → Nat} (x11 : Int32) (G : XG) (a : Nat) (G42 : XG)
    (oq11 : x11.toInt = (tkK (tM (G.2.1 (F a 35)) ((G.1 a 36).toInt)) (1, rn cBl (tM (G.2.1 (F a 35)) ((G.1 a 36).toInt)) 0)).1)
    (oq42a : RdM (tM (G.2.1 (F a 35)) ((G.1 a 36).toInt)) ((G.1 a 36).toInt) (tkN (tM (G.2.1 (F a 35)) ((G.1 a 36).toInt)) (0 : Int) (2 : Int) ((rS2 (tM (G.2.1 (F a 35)) ((G.1 a 36).toInt))).2)).2 ((G42.1 a 39).toInt) ((G42.1 a 37).toInt) ((G42.1 a 38).toInt))
    (t11 : 0 ≤ x11.toInt ∧ x11.toInt ≤ 5)
    (c53 : ¬ (x11.toInt = (1 : Int)))
    (c58 : ¬ (x11.toInt = (3 : Int)))
    (c63 : x11.toInt ≠ (4 : Int)) :
    RdM (tM (G.2.1 (F a 35)) ((G.1 a 36).toInt)) (G.1 a 36).toInt (rS4 (tM (G.2.1 (F a 35)) ((G.1 a 36).toInt))).2 ((G42.1 a 39).toInt) ((G42.1 a 37).toInt) ((G42.1 a 38).toInt) := by
  have k11 : (rS1 (tM (G.2.1 (F a 35)) ((G.1 a 36).toInt))).1 = x11.toInt := oq11.symm
  have e4 : rS4 (tM (G.2.1 (F a 35)) ((G.1 a 36).toInt)) = (-1, (rS3 (tM (G.2.1 (F a 35)) ((G.1 a 36).toInt))).2) := if_neg (by rw [k11]; omega)
  rw [e4]
  exact oq42a
theorem v_X11_read_75_46 {F : Nat → Nat → Nat} (x11 : Int32) (G : XG) (a : Nat)
    (oq11 : x11.toInt = (tkK (tM (G.2.1 (F a 35)) ((G.1 a 36).toInt)) (1, rn cBl (tM (G.2.1 (F a 35)) ((G.1 a 36).toInt)) 0)).1)
    (t11 : 0 ≤ x11.toInt ∧ x11.toInt ≤ 5)
    (c53 : ¬ (x11.toInt = (1 : Int)))
    (c58 : ¬ (x11.toInt = (3 : Int)))
    (c63 : x11.toInt ≠ (4 : Int)) :
    (-1 : Int) = (rS4 (tM (G.2.1 (F a 35)) ((G.1 a 36).toInt))).1 := by
  have k11 : (rS1 (tM (G.2.1 (F a 35)) ((G.1 a 36).toInt))).1 = x11.toInt := oq11.symm
  have e4 : rS4 (tM (G.2.1 (F a 35)) ((G.1 a 36).toInt)) = (-1, (rS3 (tM (G.2.1 (F a 35)) ((G.1 a 36).toInt))).2) := if_neg (by rw [k11]; omega)
  rw [e4]
