theorem v_X11_number_151_1 {K : Nat → Nat} {F : Nat → Nat → Nat} (a : Nat) (G : XG) (G10 : XG) (G147 : XG) (r1 : RSt) (l5_55 : Int32) (x10 : Int32) (l7_55 : Int32) (l6_55 : Int32) (N55 : Nat) (x58 : Int32) (x61 : Int32) (p0 : Int32) (p1 : Int32)
    (ha : K a = 13)
    (hrm : RdM (tM (G.2.1 (F a 35)) ((G.1 a 36).toInt)) ((G.1 a 36).toInt) r1 ((G.1 a 39).toInt) ((G.1 a 37).toInt) ((G.1 a 38).toInt))
    (oq10 : ((G10.1 a 37).toInt) = rn cBl (tM (G.2.1 (F a 35)) ((G.1 a 36).toInt)) ((G.1 a 37).toInt))
    (pd : ∀ j : Int, nS (tM (G.2.1 (F a 35)) ((G.1 a 36).toInt)) ((G10.1 a 37).toInt) ≤ j → j < l5_55.toInt → cDg ((tM (G.2.1 (F a 35)) ((G.1 a 36).toInt)) j))
    (nt0 : 0 ≤ ((G.1 a 36).toInt) ∧ ((G.1 a 36).toInt) ≤ 80)
    (z0 : 0 ≤ ((G.1 a 37).toInt) ∧ ((G.1 a 37).toInt) ≤ ((G.1 a 36).toInt))
    (f10 : ((G.1 a 39).toInt) = 0 ∨ ((G.1 a 39).toInt) = 1)
    (c4 : ((G.1 a 39).toInt) ≠ 0)
    (t10 : -128 ≤ x10.toInt ∧ x10.toInt ≤ 127 ∧ ((0 ≤ x10.toInt ∧ (tM (G.2.1 (F a 35)) ((G.1 a 36).toInt) ((G10.1 a 37).toInt)) = x10.toInt) ∨ (x10.toInt < 0 ∧ (tM (G.2.1 (F a 35)) ((G.1 a 36).toInt) ((G10.1 a 37).toInt)) = x10.toInt + 256)) ∧ ((G.1 a 37).toInt) ≤ ((G10.1 a 37).toInt) ∧ ((G10.1 a 37).toInt) ≤ ((G.1 a 36).toInt))
    (z13 : ((tM (G.2.1 (F a 35)) ((G.1 a 36).toInt) ((G10.1 a 37).toInt)) = 45 ∧ (nS (tM (G.2.1 (F a 35)) ((G.1 a 36).toInt)) ((G10.1 a 37).toInt)) = ((G10.1 a 37).toInt) + 1) ∨ ((tM (G.2.1 (F a 35)) ((G.1 a 36).toInt) ((G10.1 a 37).toInt)) ≠ 45 ∧ (nS (tM (G.2.1 (F a 35)) ((G.1 a 36).toInt)) ((G10.1 a 37).toInt)) = ((G10.1 a 37).toInt)))
    (z13a : (nv (tM (G.2.1 (F a 35)) ((G.1 a 36).toInt)) (nS (tM (G.2.1 (F a 35)) ((G.1 a 36).toInt)) ((G10.1 a 37).toInt)) 0) = 0)
    (c15 : x10.toInt ≠ (45 : Int))
    (I55_0 : l5_55.toInt = (nS (tM (G.2.1 (F a 35)) ((G.1 a 36).toInt)) ((G10.1 a 37).toInt)) + l7_55.toInt)
    (I55_1 : 0 ≤ l7_55.toInt ∧ l5_55.toInt ≤ ((G.1 a 36).toInt) + 1)
    (I55_2 : (l7_55.toInt = 0 ∧ l6_55.toInt = 0) ∨ (l7_55.toInt = 1 ∧ 0 ≤ l6_55.toInt ∧ l6_55.toInt ≤ 9) ∨ (l7_55.toInt = 2 ∧ 0 ≤ l6_55.toInt ∧ l6_55.toInt ≤ 99) ∨ (l7_55.toInt = 3 ∧ 0 ≤ l6_55.toInt ∧ l6_55.toInt ≤ 999) ∨ (l7_55.toInt = 4 ∧ 0 ≤ l6_55.toInt ∧ l6_55.toInt ≤ 9999) ∨ (5 ≤ l7_55.toInt ∧ 0 ≤ l6_55.toInt ∧ l6_55.toInt ≤ 999999))
    (I55_3 : l7_55.toInt ≤ 4 → l6_55.toInt = (nv (tM (G.2.1 (F a 35)) ((G.1 a 36).toInt)) (nS (tM (G.2.1 (F a 35)) ((G.1 a 36).toInt)) ((G10.1 a 37).toInt)) (l7_55.toInt)))
    (I55_4 : l5_55.toInt ≤ ((G.1 a 36).toInt) ∨ l7_55.toInt = 0)
    (hm55 : 200 - l5_55.toInt < (((N55) + 1 : Nat) : Int))
    (z55 : ((0 ≤ l5_55.toInt ∧ l5_55.toInt < ((G.1 a 36).toInt)) ∧ True) ∨ (¬ (0 ≤ l5_55.toInt ∧ l5_55.toInt < ((G.1 a 36).toInt)) ∧ (tM (G.2.1 (F a 35)) ((G.1 a 36).toInt) (l5_55.toInt)) = 0))
    (t58 : -128 ≤ x58.toInt ∧ x58.toInt ≤ 127 ∧ ((0 ≤ x58.toInt ∧ (tM (G.2.1 (F a 35)) ((G.1 a 36).toInt) (l5_55.toInt)) = x58.toInt) ∨ (x58.toInt < 0 ∧ (tM (G.2.1 (F a 35)) ((G.1 a 36).toInt) (l5_55.toInt)) = x58.toInt + 256)))
    (t61 : (x61.toInt = 1 ∧ 48 ≤ x58.toInt ∧ x58.toInt ≤ 57) ∨ (x61.toInt = 0 ∧ (x58.toInt < 48 ∨ 57 < x58.toInt)))
    (c64 : x61.toInt = 0)
    (c122 : l7_55.toInt = 0)
    (t147 : ((G147.1 a 39).toInt) = 0 ∧ (((G.1 a 39).toInt) ≠ 0 → ((G147.1 a 38).toInt) = ((G10.1 a 37).toInt)) ∧ (((G.1 a 39).toInt) = 0 → ((G147.1 a 38).toInt) = ((G.1 a 38).toInt))) :
    (0 : Int) = (tkN (tM (G.2.1 (F a 35)) ((G.1 a 36).toInt)) p0.toInt p1.toInt r1).1 := by
  have hv6 := num_b I55_2
  clear I55_2 hm55
  have hE : nE (tM (G.2.1 (F a 35)) ((G.1 a 36).toInt)) ((G10.1 a 37).toInt) = l5_55.toInt := by
    unfold nE
    refine rn_eq ⟨by omega, pd, cDg_n ?_⟩
    omega
  have nf := nS_f (tM (G.2.1 (F a 35)) ((G.1 a 36).toInt)) ((G10.1 a 37).toInt)
  have hs2 : r1.1 = 1 ∧ r1.2 = (G10.1 a 37).toInt := by
    have h1 := hrm.2.1.mp (by omega)
    exact ⟨h1, by rw [oq10]; exact hrm.2.2.1 h1⟩
  have hk : l7_55.toInt = nE (tM (G.2.1 (F a 35)) ((G.1 a 36).toInt)) ((G10.1 a 37).toInt) - nS (tM (G.2.1 (F a 35)) ((G.1 a 36).toInt)) ((G10.1 a 37).toInt) := by omega
  have nb : ¬ (r1.1 = 1 ∧ nOk (tM (G.2.1 (F a 35)) ((G.1 a 36).toInt)) r1.2 ∧ p0.toInt ≤ nVl (tM (G.2.1 (F a 35)) ((G.1 a 36).toInt)) r1.2 ∧ nVl (tM (G.2.1 (F a 35)) ((G.1 a 36).toInt)) r1.2 ≤ p1.toInt) := by
    rintro ⟨h1, h2, h3, h4⟩
    rw [hs2.2] at h2 h3 h4
    have h5 := h2.1
    have h6 := h2.2
    rw [hk] at I55_3
    omega
  rw [tkN_f nb]
theorem v_X11_number_151_2 {K : Nat → Nat} {F : Nat → Nat → Nat} (a : Nat) (G : XG) (G10 : XG) (G147 : XG) (r1 : RSt) (l5_55 : Int32) (x10 : Int32) (l7_55 : Int32) (l6_55 : Int32) (N55 : Nat) (x58 : Int32) (x61 : Int32) (p0 : Int32) (p1 : Int32)
    (ha : K a = 13)
    (hrm : RdM (tM (G.2.1 (F a 35)) ((G.1 a 36).toInt)) ((G.1 a 36).toInt) r1 ((G.1 a 39).toInt) ((G.1 a 37).toInt) ((G.1 a 38).toInt))
    (oq10 : ((G10.1 a 37).toInt) = rn cBl (tM (G.2.1 (F a 35)) ((G.1 a 36).toInt)) ((G.1 a 37).toInt))
    (pd : ∀ j : Int, nS (tM (G.2.1 (F a 35)) ((G.1 a 36).toInt)) ((G10.1 a 37).toInt) ≤ j → j < l5_55.toInt → cDg ((tM (G.2.1 (F a 35)) ((G.1 a 36).toInt)) j))
    (nt0 : 0 ≤ ((G.1 a 36).toInt) ∧ ((G.1 a 36).toInt) ≤ 80)
    (z0 : 0 ≤ ((G.1 a 37).toInt) ∧ ((G.1 a 37).toInt) ≤ ((G.1 a 36).toInt))
    (f10 : ((G.1 a 39).toInt) = 0 ∨ ((G.1 a 39).toInt) = 1)
    (c4 : ((G.1 a 39).toInt) ≠ 0)
    (t10 : -128 ≤ x10.toInt ∧ x10.toInt ≤ 127 ∧ ((0 ≤ x10.toInt ∧ (tM (G.2.1 (F a 35)) ((G.1 a 36).toInt) ((G10.1 a 37).toInt)) = x10.toInt) ∨ (x10.toInt < 0 ∧ (tM (G.2.1 (F a 35)) ((G.1 a 36).toInt) ((G10.1 a 37).toInt)) = x10.toInt + 256)) ∧ ((G.1 a 37).toInt) ≤ ((G10.1 a 37).toInt) ∧ ((G10.1 a 37).toInt) ≤ ((G.1 a 36).toInt))
    (z13 : ((tM (G.2.1 (F a 35)) ((G.1 a 36).toInt) ((G10.1 a 37).toInt)) = 45 ∧ (nS (tM (G.2.1 (F a 35)) ((G.1 a 36).toInt)) ((G10.1 a 37).toInt)) = ((G10.1 a 37).toInt) + 1) ∨ ((tM (G.2.1 (F a 35)) ((G.1 a 36).toInt) ((G10.1 a 37).toInt)) ≠ 45 ∧ (nS (tM (G.2.1 (F a 35)) ((G.1 a 36).toInt)) ((G10.1 a 37).toInt)) = ((G10.1 a 37).toInt)))
    (z13a : (nv (tM (G.2.1 (F a 35)) ((G.1 a 36).toInt)) (nS (tM (G.2.1 (F a 35)) ((G.1 a 36).toInt)) ((G10.1 a 37).toInt)) 0) = 0)
    (c15 : x10.toInt ≠ (45 : Int))
    (I55_0 : l5_55.toInt = (nS (tM (G.2.1 (F a 35)) ((G.1 a 36).toInt)) ((G10.1 a 37).toInt)) + l7_55.toInt)
    (I55_1 : 0 ≤ l7_55.toInt ∧ l5_55.toInt ≤ ((G.1 a 36).toInt) + 1)
    (I55_2 : (l7_55.toInt = 0 ∧ l6_55.toInt = 0) ∨ (l7_55.toInt = 1 ∧ 0 ≤ l6_55.toInt ∧ l6_55.toInt ≤ 9) ∨ (l7_55.toInt = 2 ∧ 0 ≤ l6_55.toInt ∧ l6_55.toInt ≤ 99) ∨ (l7_55.toInt = 3 ∧ 0 ≤ l6_55.toInt ∧ l6_55.toInt ≤ 999) ∨ (l7_55.toInt = 4 ∧ 0 ≤ l6_55.toInt ∧ l6_55.toInt ≤ 9999) ∨ (5 ≤ l7_55.toInt ∧ 0 ≤ l6_55.toInt ∧ l6_55.toInt ≤ 999999))
    (I55_3 : l7_55.toInt ≤ 4 → l6_55.toInt = (nv (tM (G.2.1 (F a 35)) ((G.1 a 36).toInt)) (nS (tM (G.2.1 (F a 35)) ((G.1 a 36).toInt)) ((G10.1 a 37).toInt)) (l7_55.toInt)))
    (I55_4 : l5_55.toInt ≤ ((G.1 a 36).toInt) ∨ l7_55.toInt = 0)
    (hm55 : 200 - l5_55.toInt < (((N55) + 1 : Nat) : Int))
    (z55 : ((0 ≤ l5_55.toInt ∧ l5_55.toInt < ((G.1 a 36).toInt)) ∧ True) ∨ (¬ (0 ≤ l5_55.toInt ∧ l5_55.toInt < ((G.1 a 36).toInt)) ∧ (tM (G.2.1 (F a 35)) ((G.1 a 36).toInt) (l5_55.toInt)) = 0))
    (t58 : -128 ≤ x58.toInt ∧ x58.toInt ≤ 127 ∧ ((0 ≤ x58.toInt ∧ (tM (G.2.1 (F a 35)) ((G.1 a 36).toInt) (l5_55.toInt)) = x58.toInt) ∨ (x58.toInt < 0 ∧ (tM (G.2.1 (F a 35)) ((G.1 a 36).toInt) (l5_55.toInt)) = x58.toInt + 256)))
    (t61 : (x61.toInt = 1 ∧ 48 ≤ x58.toInt ∧ x58.toInt ≤ 57) ∨ (x61.toInt = 0 ∧ (x58.toInt < 48 ∨ 57 < x58.toInt)))
    (c64 : x61.toInt = 0)
    (c122 : l7_55.toInt = 0)
    (t147 : ((G147.1 a 39).toInt) = 0 ∧ (((G.1 a 39).toInt) ≠ 0 → ((G147.1 a 38).toInt) = ((G10.1 a 37).toInt)) ∧ (((G.1 a 39).toInt) = 0 → ((G147.1 a 38).toInt) = ((G.1 a 38).toInt)))
    (d_G147_a_37 : G147.1 a 37 = G10.1 a 37) :
    RdM (tM (G.2.1 (F a 35)) ((G.1 a 36).toInt)) ((G.1 a 36).toInt) (tkN (tM (G.2.1 (F a 35)) ((G.1 a 36).toInt)) p0.toInt p1.toInt r1).2 ((G147.1 a 39).toInt) ((G147.1 a 37).toInt) ((G147.1 a 38).toInt) := by
  have hv6 := num_b I55_2
  clear I55_2 hm55
  have hE : nE (tM (G.2.1 (F a 35)) ((G.1 a 36).toInt)) ((G10.1 a 37).toInt) = l5_55.toInt := by
    unfold nE
    refine rn_eq ⟨by omega, pd, cDg_n ?_⟩
    omega
  have nf := nS_f (tM (G.2.1 (F a 35)) ((G.1 a 36).toInt)) ((G10.1 a 37).toInt)
  have hs2 : r1.1 = 1 ∧ r1.2 = (G10.1 a 37).toInt := by
    have h1 := hrm.2.1.mp (by omega)
    exact ⟨h1, by rw [oq10]; exact hrm.2.2.1 h1⟩
  have hk : l7_55.toInt = nE (tM (G.2.1 (F a 35)) ((G.1 a 36).toInt)) ((G10.1 a 37).toInt) - nS (tM (G.2.1 (F a 35)) ((G.1 a 36).toInt)) ((G10.1 a 37).toInt) := by omega
  have nb : ¬ (r1.1 = 1 ∧ nOk (tM (G.2.1 (F a 35)) ((G.1 a 36).toInt)) r1.2 ∧ p0.toInt ≤ nVl (tM (G.2.1 (F a 35)) ((G.1 a 36).toInt)) r1.2 ∧ nVl (tM (G.2.1 (F a 35)) ((G.1 a 36).toInt)) r1.2 ≤ p1.toInt) := by
    rintro ⟨h1, h2, h3, h4⟩
    rw [hs2.2] at h2 h3 h4
    have h5 := h2.1
    have h6 := h2.2
    rw [hk] at I55_3
    omega
  rw [tkN_f nb, hs2.2, d_G147_a_37]
  exact rdm_bad rfl (by omega) (by omega) (by omega) (by omega)
theorem v_X11_number_151_3 {K : Nat → Nat} {F : Nat → Nat → Nat} (a : Nat) (G : XG) (G10 : XG) (G147 : XG) (r1 : RSt) (l5_55 : Int32) (x10 : Int32) (l7_55 : Int32) (l6_55 : Int32) (N55 : Nat) (x58 : Int32) (x61 : Int32) (p0 : Int32) (p1 : Int32)
    (ha : K a = 13)
    (hrm : RdM (tM (G.2.1 (F a 35)) ((G.1 a 36).toInt)) ((G.1 a 36).toInt) r1 ((G.1 a 39).toInt) ((G.1 a 37).toInt) ((G.1 a 38).toInt))
    (oq10 : ((G10.1 a 37).toInt) = rn cBl (tM (G.2.1 (F a 35)) ((G.1 a 36).toInt)) ((G.1 a 37).toInt))
    (pd : ∀ j : Int, nS (tM (G.2.1 (F a 35)) ((G.1 a 36).toInt)) ((G10.1 a 37).toInt) ≤ j → j < l5_55.toInt → cDg ((tM (G.2.1 (F a 35)) ((G.1 a 36).toInt)) j))
    (nt0 : 0 ≤ ((G.1 a 36).toInt) ∧ ((G.1 a 36).toInt) ≤ 80)
    (z0 : 0 ≤ ((G.1 a 37).toInt) ∧ ((G.1 a 37).toInt) ≤ ((G.1 a 36).toInt))
    (f10 : ((G.1 a 39).toInt) = 0 ∨ ((G.1 a 39).toInt) = 1)
    (c4 : ((G.1 a 39).toInt) ≠ 0)
    (t10 : -128 ≤ x10.toInt ∧ x10.toInt ≤ 127 ∧ ((0 ≤ x10.toInt ∧ (tM (G.2.1 (F a 35)) ((G.1 a 36).toInt) ((G10.1 a 37).toInt)) = x10.toInt) ∨ (x10.toInt < 0 ∧ (tM (G.2.1 (F a 35)) ((G.1 a 36).toInt) ((G10.1 a 37).toInt)) = x10.toInt + 256)) ∧ ((G.1 a 37).toInt) ≤ ((G10.1 a 37).toInt) ∧ ((G10.1 a 37).toInt) ≤ ((G.1 a 36).toInt))
    (z13 : ((tM (G.2.1 (F a 35)) ((G.1 a 36).toInt) ((G10.1 a 37).toInt)) = 45 ∧ (nS (tM (G.2.1 (F a 35)) ((G.1 a 36).toInt)) ((G10.1 a 37).toInt)) = ((G10.1 a 37).toInt) + 1) ∨ ((tM (G.2.1 (F a 35)) ((G.1 a 36).toInt) ((G10.1 a 37).toInt)) ≠ 45 ∧ (nS (tM (G.2.1 (F a 35)) ((G.1 a 36).toInt)) ((G10.1 a 37).toInt)) = ((G10.1 a 37).toInt)))
    (z13a : (nv (tM (G.2.1 (F a 35)) ((G.1 a 36).toInt)) (nS (tM (G.2.1 (F a 35)) ((G.1 a 36).toInt)) ((G10.1 a 37).toInt)) 0) = 0)
    (c15 : x10.toInt ≠ (45 : Int))
    (I55_0 : l5_55.toInt = (nS (tM (G.2.1 (F a 35)) ((G.1 a 36).toInt)) ((G10.1 a 37).toInt)) + l7_55.toInt)
    (I55_1 : 0 ≤ l7_55.toInt ∧ l5_55.toInt ≤ ((G.1 a 36).toInt) + 1)
    (I55_2 : (l7_55.toInt = 0 ∧ l6_55.toInt = 0) ∨ (l7_55.toInt = 1 ∧ 0 ≤ l6_55.toInt ∧ l6_55.toInt ≤ 9) ∨ (l7_55.toInt = 2 ∧ 0 ≤ l6_55.toInt ∧ l6_55.toInt ≤ 99) ∨ (l7_55.toInt = 3 ∧ 0 ≤ l6_55.toInt ∧ l6_55.toInt ≤ 999) ∨ (l7_55.toInt = 4 ∧ 0 ≤ l6_55.toInt ∧ l6_55.toInt ≤ 9999) ∨ (5 ≤ l7_55.toInt ∧ 0 ≤ l6_55.toInt ∧ l6_55.toInt ≤ 999999))
    (I55_3 : l7_55.toInt ≤ 4 → l6_55.toInt = (nv (tM (G.2.1 (F a 35)) ((G.1 a 36).toInt)) (nS (tM (G.2.1 (F a 35)) ((G.1 a 36).toInt)) ((G10.1 a 37).toInt)) (l7_55.toInt)))
    (I55_4 : l5_55.toInt ≤ ((G.1 a 36).toInt) ∨ l7_55.toInt = 0)
    (hm55 : 200 - l5_55.toInt < (((N55) + 1 : Nat) : Int))
    (z55 : ((0 ≤ l5_55.toInt ∧ l5_55.toInt < ((G.1 a 36).toInt)) ∧ True) ∨ (¬ (0 ≤ l5_55.toInt ∧ l5_55.toInt < ((G.1 a 36).toInt)) ∧ (tM (G.2.1 (F a 35)) ((G.1 a 36).toInt) (l5_55.toInt)) = 0))
    (t58 : -128 ≤ x58.toInt ∧ x58.toInt ≤ 127 ∧ ((0 ≤ x58.toInt ∧ (tM (G.2.1 (F a 35)) ((G.1 a 36).toInt) (l5_55.toInt)) = x58.toInt) ∨ (x58.toInt < 0 ∧ (tM (G.2.1 (F a 35)) ((G.1 a 36).toInt) (l5_55.toInt)) = x58.toInt + 256)))
    (t61 : (x61.toInt = 1 ∧ 48 ≤ x58.toInt ∧ x58.toInt ≤ 57) ∨ (x61.toInt = 0 ∧ (x58.toInt < 48 ∨ 57 < x58.toInt)))
    (c64 : x61.toInt = 0)
    (c122 : ¬ (l7_55.toInt = 0))
    (c128 : (4 : Int) < l7_55.toInt)
    (t147 : ((G147.1 a 39).toInt) = 0 ∧ (((G.1 a 39).toInt) ≠ 0 → ((G147.1 a 38).toInt) = ((G10.1 a 37).toInt)) ∧ (((G.1 a 39).toInt) = 0 → ((G147.1 a 38).toInt) = ((G.1 a 38).toInt))) :
    (0 : Int) = (tkN (tM (G.2.1 (F a 35)) ((G.1 a 36).toInt)) p0.toInt p1.toInt r1).1 := by
  have hv6 := num_b I55_2
  clear I55_2 hm55
  have hE : nE (tM (G.2.1 (F a 35)) ((G.1 a 36).toInt)) ((G10.1 a 37).toInt) = l5_55.toInt := by
    unfold nE
    refine rn_eq ⟨by omega, pd, cDg_n ?_⟩
    omega
  have nf := nS_f (tM (G.2.1 (F a 35)) ((G.1 a 36).toInt)) ((G10.1 a 37).toInt)
  have hs2 : r1.1 = 1 ∧ r1.2 = (G10.1 a 37).toInt := by
    have h1 := hrm.2.1.mp (by omega)
    exact ⟨h1, by rw [oq10]; exact hrm.2.2.1 h1⟩
  have hk : l7_55.toInt = nE (tM (G.2.1 (F a 35)) ((G.1 a 36).toInt)) ((G10.1 a 37).toInt) - nS (tM (G.2.1 (F a 35)) ((G.1 a 36).toInt)) ((G10.1 a 37).toInt) := by omega
  have nb : ¬ (r1.1 = 1 ∧ nOk (tM (G.2.1 (F a 35)) ((G.1 a 36).toInt)) r1.2 ∧ p0.toInt ≤ nVl (tM (G.2.1 (F a 35)) ((G.1 a 36).toInt)) r1.2 ∧ nVl (tM (G.2.1 (F a 35)) ((G.1 a 36).toInt)) r1.2 ≤ p1.toInt) := by
    rintro ⟨h1, h2, h3, h4⟩
    rw [hs2.2] at h2 h3 h4
    have h5 := h2.1
    have h6 := h2.2
    rw [hk] at I55_3
    omega
  rw [tkN_f nb]
theorem v_X11_number_151_4 {K : Nat → Nat} {F : Nat → Nat → Nat} (a : Nat) (G : XG) (G10 : XG) (G147 : XG) (r1 : RSt) (l5_55 : Int32) (x10 : Int32) (l7_55 : Int32) (l6_55 : Int32) (N55 : Nat) (x58 : Int32) (x61 : Int32) (p0 : Int32) (p1 : Int32)
    (ha : K a = 13)
    (hrm : RdM (tM (G.2.1 (F a 35)) ((G.1 a 36).toInt)) ((G.1 a 36).toInt) r1 ((G.1 a 39).toInt) ((G.1 a 37).toInt) ((G.1 a 38).toInt))
    (oq10 : ((G10.1 a 37).toInt) = rn cBl (tM (G.2.1 (F a 35)) ((G.1 a 36).toInt)) ((G.1 a 37).toInt))
    (pd : ∀ j : Int, nS (tM (G.2.1 (F a 35)) ((G.1 a 36).toInt)) ((G10.1 a 37).toInt) ≤ j → j < l5_55.toInt → cDg ((tM (G.2.1 (F a 35)) ((G.1 a 36).toInt)) j))
    (nt0 : 0 ≤ ((G.1 a 36).toInt) ∧ ((G.1 a 36).toInt) ≤ 80)
    (z0 : 0 ≤ ((G.1 a 37).toInt) ∧ ((G.1 a 37).toInt) ≤ ((G.1 a 36).toInt))
    (f10 : ((G.1 a 39).toInt) = 0 ∨ ((G.1 a 39).toInt) = 1)
    (c4 : ((G.1 a 39).toInt) ≠ 0)
    (t10 : -128 ≤ x10.toInt ∧ x10.toInt ≤ 127 ∧ ((0 ≤ x10.toInt ∧ (tM (G.2.1 (F a 35)) ((G.1 a 36).toInt) ((G10.1 a 37).toInt)) = x10.toInt) ∨ (x10.toInt < 0 ∧ (tM (G.2.1 (F a 35)) ((G.1 a 36).toInt) ((G10.1 a 37).toInt)) = x10.toInt + 256)) ∧ ((G.1 a 37).toInt) ≤ ((G10.1 a 37).toInt) ∧ ((G10.1 a 37).toInt) ≤ ((G.1 a 36).toInt))
    (z13 : ((tM (G.2.1 (F a 35)) ((G.1 a 36).toInt) ((G10.1 a 37).toInt)) = 45 ∧ (nS (tM (G.2.1 (F a 35)) ((G.1 a 36).toInt)) ((G10.1 a 37).toInt)) = ((G10.1 a 37).toInt) + 1) ∨ ((tM (G.2.1 (F a 35)) ((G.1 a 36).toInt) ((G10.1 a 37).toInt)) ≠ 45 ∧ (nS (tM (G.2.1 (F a 35)) ((G.1 a 36).toInt)) ((G10.1 a 37).toInt)) = ((G10.1 a 37).toInt)))
    (z13a : (nv (tM (G.2.1 (F a 35)) ((G.1 a 36).toInt)) (nS (tM (G.2.1 (F a 35)) ((G.1 a 36).toInt)) ((G10.1 a 37).toInt)) 0) = 0)
    (c15 : x10.toInt ≠ (45 : Int))
    (I55_0 : l5_55.toInt = (nS (tM (G.2.1 (F a 35)) ((G.1 a 36).toInt)) ((G10.1 a 37).toInt)) + l7_55.toInt)
    (I55_1 : 0 ≤ l7_55.toInt ∧ l5_55.toInt ≤ ((G.1 a 36).toInt) + 1)
    (I55_2 : (l7_55.toInt = 0 ∧ l6_55.toInt = 0) ∨ (l7_55.toInt = 1 ∧ 0 ≤ l6_55.toInt ∧ l6_55.toInt ≤ 9) ∨ (l7_55.toInt = 2 ∧ 0 ≤ l6_55.toInt ∧ l6_55.toInt ≤ 99) ∨ (l7_55.toInt = 3 ∧ 0 ≤ l6_55.toInt ∧ l6_55.toInt ≤ 999) ∨ (l7_55.toInt = 4 ∧ 0 ≤ l6_55.toInt ∧ l6_55.toInt ≤ 9999) ∨ (5 ≤ l7_55.toInt ∧ 0 ≤ l6_55.toInt ∧ l6_55.toInt ≤ 999999))
    (I55_3 : l7_55.toInt ≤ 4 → l6_55.toInt = (nv (tM (G.2.1 (F a 35)) ((G.1 a 36).toInt)) (nS (tM (G.2.1 (F a 35)) ((G.1 a 36).toInt)) ((G10.1 a 37).toInt)) (l7_55.toInt)))
    (I55_4 : l5_55.toInt ≤ ((G.1 a 36).toInt) ∨ l7_55.toInt = 0)
    (hm55 : 200 - l5_55.toInt < (((N55) + 1 : Nat) : Int))
    (z55 : ((0 ≤ l5_55.toInt ∧ l5_55.toInt < ((G.1 a 36).toInt)) ∧ True) ∨ (¬ (0 ≤ l5_55.toInt ∧ l5_55.toInt < ((G.1 a 36).toInt)) ∧ (tM (G.2.1 (F a 35)) ((G.1 a 36).toInt) (l5_55.toInt)) = 0))
    (t58 : -128 ≤ x58.toInt ∧ x58.toInt ≤ 127 ∧ ((0 ≤ x58.toInt ∧ (tM (G.2.1 (F a 35)) ((G.1 a 36).toInt) (l5_55.toInt)) = x58.toInt) ∨ (x58.toInt < 0 ∧ (tM (G.2.1 (F a 35)) ((G.1 a 36).toInt) (l5_55.toInt)) = x58.toInt + 256)))
    (t61 : (x61.toInt = 1 ∧ 48 ≤ x58.toInt ∧ x58.toInt ≤ 57) ∨ (x61.toInt = 0 ∧ (x58.toInt < 48 ∨ 57 < x58.toInt)))
    (c64 : x61.toInt = 0)
    (c122 : ¬ (l7_55.toInt = 0))
    (c128 : (4 : Int) < l7_55.toInt)
    (t147 : ((G147.1 a 39).toInt) = 0 ∧ (((G.1 a 39).toInt) ≠ 0 → ((G147.1 a 38).toInt) = ((G10.1 a 37).toInt)) ∧ (((G.1 a 39).toInt) = 0 → ((G147.1 a 38).toInt) = ((G.1 a 38).toInt)))
    (d_G147_a_37 : G147.1 a 37 = G10.1 a 37) :
    RdM (tM (G.2.1 (F a 35)) ((G.1 a 36).toInt)) ((G.1 a 36).toInt) (tkN (tM (G.2.1 (F a 35)) ((G.1 a 36).toInt)) p0.toInt p1.toInt r1).2 ((G147.1 a 39).toInt) ((G147.1 a 37).toInt) ((G147.1 a 38).toInt) := by
  have hv6 := num_b I55_2
  clear I55_2 hm55
  have hE : nE (tM (G.2.1 (F a 35)) ((G.1 a 36).toInt)) ((G10.1 a 37).toInt) = l5_55.toInt := by
    unfold nE
    refine rn_eq ⟨by omega, pd, cDg_n ?_⟩
    omega
  have nf := nS_f (tM (G.2.1 (F a 35)) ((G.1 a 36).toInt)) ((G10.1 a 37).toInt)
  have hs2 : r1.1 = 1 ∧ r1.2 = (G10.1 a 37).toInt := by
    have h1 := hrm.2.1.mp (by omega)
    exact ⟨h1, by rw [oq10]; exact hrm.2.2.1 h1⟩
  have hk : l7_55.toInt = nE (tM (G.2.1 (F a 35)) ((G.1 a 36).toInt)) ((G10.1 a 37).toInt) - nS (tM (G.2.1 (F a 35)) ((G.1 a 36).toInt)) ((G10.1 a 37).toInt) := by omega
  have nb : ¬ (r1.1 = 1 ∧ nOk (tM (G.2.1 (F a 35)) ((G.1 a 36).toInt)) r1.2 ∧ p0.toInt ≤ nVl (tM (G.2.1 (F a 35)) ((G.1 a 36).toInt)) r1.2 ∧ nVl (tM (G.2.1 (F a 35)) ((G.1 a 36).toInt)) r1.2 ≤ p1.toInt) := by
    rintro ⟨h1, h2, h3, h4⟩
    rw [hs2.2] at h2 h3 h4
    have h5 := h2.1
    have h6 := h2.2
    rw [hk] at I55_3
    omega
  rw [tkN_f nb, hs2.2, d_G147_a_37]
  exact rdm_bad rfl (by omega) (by omega) (by omega) (by omega)
theorem v_X11_number_160_5 {K : Nat → Nat} {F : Nat → Nat → Nat} (a : Nat) (G : XG) (G10 : XG) (l5_55 : Int32) (r1 : RSt) (x10 : Int32) (l7_55 : Int32) (l6_55 : Int32) (N55 : Nat) (x58 : Int32) (x61 : Int32) (x138 : Int32) (p0 : Int32) (p1 : Int32)
    (ha : K a = 13)
    (hrm : RdM (tM (G.2.1 (F a 35)) ((G.1 a 36).toInt)) ((G.1 a 36).toInt) r1 ((G.1 a 39).toInt) ((G.1 a 37).toInt) ((G.1 a 38).toInt))
    (oq10 : ((G10.1 a 37).toInt) = rn cBl (tM (G.2.1 (F a 35)) ((G.1 a 36).toInt)) ((G.1 a 37).toInt))
    (pd : ∀ j : Int, nS (tM (G.2.1 (F a 35)) ((G.1 a 36).toInt)) ((G10.1 a 37).toInt) ≤ j → j < l5_55.toInt → cDg ((tM (G.2.1 (F a 35)) ((G.1 a 36).toInt)) j))
    (nt0 : 0 ≤ ((G.1 a 36).toInt) ∧ ((G.1 a 36).toInt) ≤ 80)
    (z0 : 0 ≤ ((G.1 a 37).toInt) ∧ ((G.1 a 37).toInt) ≤ ((G.1 a 36).toInt))
    (f10 : ((G.1 a 39).toInt) = 0 ∨ ((G.1 a 39).toInt) = 1)
    (c4 : ((G.1 a 39).toInt) ≠ 0)
    (t10 : -128 ≤ x10.toInt ∧ x10.toInt ≤ 127 ∧ ((0 ≤ x10.toInt ∧ (tM (G.2.1 (F a 35)) ((G.1 a 36).toInt) ((G10.1 a 37).toInt)) = x10.toInt) ∨ (x10.toInt < 0 ∧ (tM (G.2.1 (F a 35)) ((G.1 a 36).toInt) ((G10.1 a 37).toInt)) = x10.toInt + 256)) ∧ ((G.1 a 37).toInt) ≤ ((G10.1 a 37).toInt) ∧ ((G10.1 a 37).toInt) ≤ ((G.1 a 36).toInt))
    (z13 : ((tM (G.2.1 (F a 35)) ((G.1 a 36).toInt) ((G10.1 a 37).toInt)) = 45 ∧ (nS (tM (G.2.1 (F a 35)) ((G.1 a 36).toInt)) ((G10.1 a 37).toInt)) = ((G10.1 a 37).toInt) + 1) ∨ ((tM (G.2.1 (F a 35)) ((G.1 a 36).toInt) ((G10.1 a 37).toInt)) ≠ 45 ∧ (nS (tM (G.2.1 (F a 35)) ((G.1 a 36).toInt)) ((G10.1 a 37).toInt)) = ((G10.1 a 37).toInt)))
    (z13a : (nv (tM (G.2.1 (F a 35)) ((G.1 a 36).toInt)) (nS (tM (G.2.1 (F a 35)) ((G.1 a 36).toInt)) ((G10.1 a 37).toInt)) 0) = 0)
    (c15 : x10.toInt ≠ (45 : Int))
    (I55_0 : l5_55.toInt = (nS (tM (G.2.1 (F a 35)) ((G.1 a 36).toInt)) ((G10.1 a 37).toInt)) + l7_55.toInt)
    (I55_1 : 0 ≤ l7_55.toInt ∧ l5_55.toInt ≤ ((G.1 a 36).toInt) + 1)
    (I55_2 : (l7_55.toInt = 0 ∧ l6_55.toInt = 0) ∨ (l7_55.toInt = 1 ∧ 0 ≤ l6_55.toInt ∧ l6_55.toInt ≤ 9) ∨ (l7_55.toInt = 2 ∧ 0 ≤ l6_55.toInt ∧ l6_55.toInt ≤ 99) ∨ (l7_55.toInt = 3 ∧ 0 ≤ l6_55.toInt ∧ l6_55.toInt ≤ 999) ∨ (l7_55.toInt = 4 ∧ 0 ≤ l6_55.toInt ∧ l6_55.toInt ≤ 9999) ∨ (5 ≤ l7_55.toInt ∧ 0 ≤ l6_55.toInt ∧ l6_55.toInt ≤ 999999))
    (I55_3 : l7_55.toInt ≤ 4 → l6_55.toInt = (nv (tM (G.2.1 (F a 35)) ((G.1 a 36).toInt)) (nS (tM (G.2.1 (F a 35)) ((G.1 a 36).toInt)) ((G10.1 a 37).toInt)) (l7_55.toInt)))
    (I55_4 : l5_55.toInt ≤ ((G.1 a 36).toInt) ∨ l7_55.toInt = 0)
    (hm55 : 200 - l5_55.toInt < (((N55) + 1 : Nat) : Int))
    (z55 : ((0 ≤ l5_55.toInt ∧ l5_55.toInt < ((G.1 a 36).toInt)) ∧ True) ∨ (¬ (0 ≤ l5_55.toInt ∧ l5_55.toInt < ((G.1 a 36).toInt)) ∧ (tM (G.2.1 (F a 35)) ((G.1 a 36).toInt) (l5_55.toInt)) = 0))
    (t58 : -128 ≤ x58.toInt ∧ x58.toInt ≤ 127 ∧ ((0 ≤ x58.toInt ∧ (tM (G.2.1 (F a 35)) ((G.1 a 36).toInt) (l5_55.toInt)) = x58.toInt) ∨ (x58.toInt < 0 ∧ (tM (G.2.1 (F a 35)) ((G.1 a 36).toInt) (l5_55.toInt)) = x58.toInt + 256)))
    (t61 : (x61.toInt = 1 ∧ 48 ≤ x58.toInt ∧ x58.toInt ≤ 57) ∨ (x61.toInt = 0 ∧ (x58.toInt < 48 ∨ 57 < x58.toInt)))
    (c64 : x61.toInt = 0)
    (c122 : ¬ (l7_55.toInt = 0))
    (c128 : ¬ ((4 : Int) < l7_55.toInt))
    (t138 : (x138.toInt = 1 ∧ p0.toInt ≤ l6_55.toInt ∧ l6_55.toInt ≤ p1.toInt) ∨ (x138.toInt = 0 ∧ (l6_55.toInt < p0.toInt ∨ p1.toInt < l6_55.toInt)))
    (c141 : x138.toInt ≠ 0) :
    l6_55.toInt = (tkN (tM (G.2.1 (F a 35)) ((G.1 a 36).toInt)) p0.toInt p1.toInt r1).1 := by
  have hv6 := num_b I55_2
  clear I55_2 hm55
  have hE : nE (tM (G.2.1 (F a 35)) ((G.1 a 36).toInt)) ((G10.1 a 37).toInt) = l5_55.toInt := by
    unfold nE
    refine rn_eq ⟨by omega, pd, cDg_n ?_⟩
    omega
  have nf := nS_f (tM (G.2.1 (F a 35)) ((G.1 a 36).toInt)) ((G10.1 a 37).toInt)
  have hs2 : r1.1 = 1 ∧ r1.2 = (G10.1 a 37).toInt := by
    have h1 := hrm.2.1.mp (by omega)
    exact ⟨h1, by rw [oq10]; exact hrm.2.2.1 h1⟩
  have hk : l7_55.toInt = nE (tM (G.2.1 (F a 35)) ((G.1 a 36).toInt)) ((G10.1 a 37).toInt) - nS (tM (G.2.1 (F a 35)) ((G.1 a 36).toInt)) ((G10.1 a 37).toInt) := by omega
  rw [hk] at I55_3
  have hv : l6_55.toInt = nVl (tM (G.2.1 (F a 35)) ((G.1 a 36).toInt)) ((G10.1 a 37).toInt) := by omega
  have gd : tkN (tM (G.2.1 (F a 35)) ((G.1 a 36).toInt)) p0.toInt p1.toInt r1 = (nVl (tM (G.2.1 (F a 35)) ((G.1 a 36).toInt)) r1.2, (1, rn cBl (tM (G.2.1 (F a 35)) ((G.1 a 36).toInt)) (nE (tM (G.2.1 (F a 35)) ((G.1 a 36).toInt)) r1.2))) := tkN_t hs2.1 (by rw [hs2.2]; exact ⟨by omega, by omega⟩) (by rw [hs2.2, ← hv]; omega) (by rw [hs2.2, ← hv]; omega)
  rw [gd, hs2.2]
  exact hv
theorem v_X11_number_160_6 {K : Nat → Nat} {F : Nat → Nat → Nat} (a : Nat) (G : XG) (G10 : XG) (G155 : XG) (l5_55 : Int32) (r1 : RSt) (x10 : Int32) (l7_55 : Int32) (l6_55 : Int32) (N55 : Nat) (x58 : Int32) (x61 : Int32) (x138 : Int32) (p0 : Int32) (p1 : Int32)
    (ha : K a = 13)
    (hrm : RdM (tM (G.2.1 (F a 35)) ((G.1 a 36).toInt)) ((G.1 a 36).toInt) r1 ((G.1 a 39).toInt) ((G.1 a 37).toInt) ((G.1 a 38).toInt))
    (oq10 : ((G10.1 a 37).toInt) = rn cBl (tM (G.2.1 (F a 35)) ((G.1 a 36).toInt)) ((G.1 a 37).toInt))
    (pd : ∀ j : Int, nS (tM (G.2.1 (F a 35)) ((G.1 a 36).toInt)) ((G10.1 a 37).toInt) ≤ j → j < l5_55.toInt → cDg ((tM (G.2.1 (F a 35)) ((G.1 a 36).toInt)) j))
    (nt0 : 0 ≤ ((G.1 a 36).toInt) ∧ ((G.1 a 36).toInt) ≤ 80)
    (z0 : 0 ≤ ((G.1 a 37).toInt) ∧ ((G.1 a 37).toInt) ≤ ((G.1 a 36).toInt))
    (f10 : ((G.1 a 39).toInt) = 0 ∨ ((G.1 a 39).toInt) = 1)
    (c4 : ((G.1 a 39).toInt) ≠ 0)
    (t10 : -128 ≤ x10.toInt ∧ x10.toInt ≤ 127 ∧ ((0 ≤ x10.toInt ∧ (tM (G.2.1 (F a 35)) ((G.1 a 36).toInt) ((G10.1 a 37).toInt)) = x10.toInt) ∨ (x10.toInt < 0 ∧ (tM (G.2.1 (F a 35)) ((G.1 a 36).toInt) ((G10.1 a 37).toInt)) = x10.toInt + 256)) ∧ ((G.1 a 37).toInt) ≤ ((G10.1 a 37).toInt) ∧ ((G10.1 a 37).toInt) ≤ ((G.1 a 36).toInt))
    (z13 : ((tM (G.2.1 (F a 35)) ((G.1 a 36).toInt) ((G10.1 a 37).toInt)) = 45 ∧ (nS (tM (G.2.1 (F a 35)) ((G.1 a 36).toInt)) ((G10.1 a 37).toInt)) = ((G10.1 a 37).toInt) + 1) ∨ ((tM (G.2.1 (F a 35)) ((G.1 a 36).toInt) ((G10.1 a 37).toInt)) ≠ 45 ∧ (nS (tM (G.2.1 (F a 35)) ((G.1 a 36).toInt)) ((G10.1 a 37).toInt)) = ((G10.1 a 37).toInt)))
    (z13a : (nv (tM (G.2.1 (F a 35)) ((G.1 a 36).toInt)) (nS (tM (G.2.1 (F a 35)) ((G.1 a 36).toInt)) ((G10.1 a 37).toInt)) 0) = 0)
    (c15 : x10.toInt ≠ (45 : Int))
    (I55_0 : l5_55.toInt = (nS (tM (G.2.1 (F a 35)) ((G.1 a 36).toInt)) ((G10.1 a 37).toInt)) + l7_55.toInt)
    (I55_1 : 0 ≤ l7_55.toInt ∧ l5_55.toInt ≤ ((G.1 a 36).toInt) + 1)
    (I55_2 : (l7_55.toInt = 0 ∧ l6_55.toInt = 0) ∨ (l7_55.toInt = 1 ∧ 0 ≤ l6_55.toInt ∧ l6_55.toInt ≤ 9) ∨ (l7_55.toInt = 2 ∧ 0 ≤ l6_55.toInt ∧ l6_55.toInt ≤ 99) ∨ (l7_55.toInt = 3 ∧ 0 ≤ l6_55.toInt ∧ l6_55.toInt ≤ 999) ∨ (l7_55.toInt = 4 ∧ 0 ≤ l6_55.toInt ∧ l6_55.toInt ≤ 9999) ∨ (5 ≤ l7_55.toInt ∧ 0 ≤ l6_55.toInt ∧ l6_55.toInt ≤ 999999))
    (I55_3 : l7_55.toInt ≤ 4 → l6_55.toInt = (nv (tM (G.2.1 (F a 35)) ((G.1 a 36).toInt)) (nS (tM (G.2.1 (F a 35)) ((G.1 a 36).toInt)) ((G10.1 a 37).toInt)) (l7_55.toInt)))
    (I55_4 : l5_55.toInt ≤ ((G.1 a 36).toInt) ∨ l7_55.toInt = 0)
    (hm55 : 200 - l5_55.toInt < (((N55) + 1 : Nat) : Int))
    (z55 : ((0 ≤ l5_55.toInt ∧ l5_55.toInt < ((G.1 a 36).toInt)) ∧ True) ∨ (¬ (0 ≤ l5_55.toInt ∧ l5_55.toInt < ((G.1 a 36).toInt)) ∧ (tM (G.2.1 (F a 35)) ((G.1 a 36).toInt) (l5_55.toInt)) = 0))
    (t58 : -128 ≤ x58.toInt ∧ x58.toInt ≤ 127 ∧ ((0 ≤ x58.toInt ∧ (tM (G.2.1 (F a 35)) ((G.1 a 36).toInt) (l5_55.toInt)) = x58.toInt) ∨ (x58.toInt < 0 ∧ (tM (G.2.1 (F a 35)) ((G.1 a 36).toInt) (l5_55.toInt)) = x58.toInt + 256)))
    (t61 : (x61.toInt = 1 ∧ 48 ≤ x58.toInt ∧ x58.toInt ≤ 57) ∨ (x61.toInt = 0 ∧ (x58.toInt < 48 ∨ 57 < x58.toInt)))
    (c64 : x61.toInt = 0)
    (c122 : ¬ (l7_55.toInt = 0))
    (c128 : ¬ ((4 : Int) < l7_55.toInt))
    (t138 : (x138.toInt = 1 ∧ p0.toInt ≤ l6_55.toInt ∧ l6_55.toInt ≤ p1.toInt) ∨ (x138.toInt = 0 ∧ (l6_55.toInt < p0.toInt ∨ p1.toInt < l6_55.toInt)))
    (c141 : x138.toInt ≠ 0)
    (d_G155_a_37 : G155.1 a 37 = l5_55)
    (d_G155_a_39 : G155.1 a 39 = G.1 a 39) :
    RdM (tM (G.2.1 (F a 35)) ((G.1 a 36).toInt)) ((G.1 a 36).toInt) (tkN (tM (G.2.1 (F a 35)) ((G.1 a 36).toInt)) p0.toInt p1.toInt r1).2 ((G155.1 a 39).toInt) ((G155.1 a 37).toInt) ((G155.1 a 38).toInt) := by
  have hv6 := num_b I55_2
  clear I55_2 hm55
  have hE : nE (tM (G.2.1 (F a 35)) ((G.1 a 36).toInt)) ((G10.1 a 37).toInt) = l5_55.toInt := by
    unfold nE
    refine rn_eq ⟨by omega, pd, cDg_n ?_⟩
    omega
  have nf := nS_f (tM (G.2.1 (F a 35)) ((G.1 a 36).toInt)) ((G10.1 a 37).toInt)
  have hs2 : r1.1 = 1 ∧ r1.2 = (G10.1 a 37).toInt := by
    have h1 := hrm.2.1.mp (by omega)
    exact ⟨h1, by rw [oq10]; exact hrm.2.2.1 h1⟩
  have hk : l7_55.toInt = nE (tM (G.2.1 (F a 35)) ((G.1 a 36).toInt)) ((G10.1 a 37).toInt) - nS (tM (G.2.1 (F a 35)) ((G.1 a 36).toInt)) ((G10.1 a 37).toInt) := by omega
  rw [hk] at I55_3
  have hv : l6_55.toInt = nVl (tM (G.2.1 (F a 35)) ((G.1 a 36).toInt)) ((G10.1 a 37).toInt) := by omega
  have gd : tkN (tM (G.2.1 (F a 35)) ((G.1 a 36).toInt)) p0.toInt p1.toInt r1 = (nVl (tM (G.2.1 (F a 35)) ((G.1 a 36).toInt)) r1.2, (1, rn cBl (tM (G.2.1 (F a 35)) ((G.1 a 36).toInt)) (nE (tM (G.2.1 (F a 35)) ((G.1 a 36).toInt)) r1.2))) := tkN_t hs2.1 (by rw [hs2.2]; exact ⟨by omega, by omega⟩) (by rw [hs2.2, ← hv]; omega) (by rw [hs2.2, ← hv]; omega)
  rw [gd, hs2.2]
  rw [d_G155_a_37, d_G155_a_39]
  exact rdm_st (tM_e _ _) (by rw [hE]) (by omega) (by omega)
