theorem v_X2_goOn_17_1 {K : Nat → Nat} {F : Nat → Nat → Nat} (a : Nat) (p0 : Nat) (p1 : Nat) (G : XG)
    (ha : K a = 4)
    (hp0 : K p0 = 8)
    (hp1 : K p1 = 2)
    (hcz : CZ (clsA G (G.2.2.1 (F p1 0))) (gst (G.2.1 (F a 0)) (G.2.1 (F a 1)) (G.2.1 (F a 2)) (G.2.1 (F a 3)) (Int.toNat (((G.1 a 4).toInt))), (vw (G.2.1 (F p0 0)))).1)
    (e0 : 1 ≤ ((G.1 a 4).toInt) ∧ ((G.1 a 4).toInt) ≤ 90)
    (z0 : ((0 ≤ (aI (G.2.1 (F a 0)) (((G.1 a 4).toInt) - 1)) ∧ (aI (G.2.1 (F a 0)) (((G.1 a 4).toInt) - 1)) < 3) ∧ (0 ≤ (aI (G.2.1 (F a 1)) (((G.1 a 4).toInt) - 1)) ∧ (aI (G.2.1 (F a 1)) (((G.1 a 4).toInt) - 1)) < 30) ∧ (0 ≤ (aI (G.2.1 (F a 2)) (((G.1 a 4).toInt) - 1)) ∧ (aI (G.2.1 (F a 2)) (((G.1 a 4).toInt) - 1)) ≤ 12) ∧ (0 ≤ (aI (G.2.1 (F a 3)) (((G.1 a 4).toInt) - 1)) ∧ (aI (G.2.1 (F a 3)) (((G.1 a 4).toInt) - 1)) ≤ 30)) ∧ ((G.1 a 4).toInt) + (pn (vw (G.2.1 (F p0 0)))) ≤ 90)
    (c8 : (((G.1 a 4).toInt) - (1 : Int)) < 0) :
    CGo (clsA G (G.2.2.1 (F p1 0))) (clsT G (G.2.2.1 (F p1 0))) (clsC G (G.2.2.1 (F p1 0))) (gst (G.2.1 (F a 0)) (G.2.1 (F a 1)) (G.2.1 (F a 2)) (G.2.1 (F a 3)) (Int.toNat (((G.1 a 4).toInt))), (vw (G.2.1 (F p0 0)))) (gst (G.2.1 (F a 0)) (G.2.1 (F a 1)) (G.2.1 (F a 2)) (G.2.1 (F a 3)) (Int.toNat (((G.1 a 4).toInt))), (vw (G.2.1 (F p0 0)))) := by
  exfalso; omega
theorem v_X2_goOn_17_2 {K : Nat → Nat} {F : Nat → Nat → Nat} (a : Nat) (p0 : Nat) (p1 : Nat) (G : XG)
    (ha : K a = 4)
    (hp0 : K p0 = 8)
    (hp1 : K p1 = 2)
    (hcz : CZ (clsA G (G.2.2.1 (F p1 0))) (gst (G.2.1 (F a 0)) (G.2.1 (F a 1)) (G.2.1 (F a 2)) (G.2.1 (F a 3)) (Int.toNat (((G.1 a 4).toInt))), (vw (G.2.1 (F p0 0)))).1)
    (e0 : 1 ≤ ((G.1 a 4).toInt) ∧ ((G.1 a 4).toInt) ≤ 90)
    (z0 : ((0 ≤ (aI (G.2.1 (F a 0)) (((G.1 a 4).toInt) - 1)) ∧ (aI (G.2.1 (F a 0)) (((G.1 a 4).toInt) - 1)) < 3) ∧ (0 ≤ (aI (G.2.1 (F a 1)) (((G.1 a 4).toInt) - 1)) ∧ (aI (G.2.1 (F a 1)) (((G.1 a 4).toInt) - 1)) < 30) ∧ (0 ≤ (aI (G.2.1 (F a 2)) (((G.1 a 4).toInt) - 1)) ∧ (aI (G.2.1 (F a 2)) (((G.1 a 4).toInt) - 1)) ≤ 12) ∧ (0 ≤ (aI (G.2.1 (F a 3)) (((G.1 a 4).toInt) - 1)) ∧ (aI (G.2.1 (F a 3)) (((G.1 a 4).toInt) - 1)) ≤ 30)) ∧ ((G.1 a 4).toInt) + (pn (vw (G.2.1 (F p0 0)))) ≤ 90)
    (c8 : (((G.1 a 4).toInt) - (1 : Int)) < 0) :
    RO (vw (G.2.1 (F p0 0))) (aI (G.2.1 (F p0 1))) := by
  exfalso; omega
theorem v_X2_goOn_164_3 {K : Nat → Nat} {F : Nat → Nat → Nat} (a : Nat) (p0 : Nat) (p1 : Nat) (G156 : XG) (G : XG) (x5 : Int32) (x155 : Int32) (G163 : XG)
    (ha : K a = 4)
    (hp0 : K p0 = 8)
    (hp1 : K p1 = 2)
    (hG156 : G156 = cput G (F a 2) x5.toNatClampNeg x155)
    (hG163 : G163 = cput G156 (F a 3) x5.toNatClampNeg 0)
    (bkn : BKr K G (G.2.2.1 (F p1 0)))
    (hiv : CIv (gst (G.2.1 (F a 0)) (G.2.1 (F a 1)) (G.2.1 (F a 2)) (G.2.1 (F a 3)) (Int.toNat (((G.1 a 4).toInt))), (vw (G.2.1 (F p0 0)))))
    (hcz : CZ (clsA G (G.2.2.1 (F p1 0))) (gst (G.2.1 (F a 0)) (G.2.1 (F a 1)) (G.2.1 (F a 2)) (G.2.1 (F a 3)) (Int.toNat (((G.1 a 4).toInt))), (vw (G.2.1 (F p0 0)))).1)
    (e5 : x5.toInt = (((G.1 a 4).toInt) - (1 : Int)))
    (hn47 : ((aI (G.2.1 (F a 2)) (((G.1 a 4).toInt) - 1)) < 0 ∨ 12 ≤ (aI (G.2.1 (F a 2)) (((G.1 a 4).toInt) - 1))) ∨ G.2.2.1 (F p1 0) ((aI (G.2.1 (F a 2)) (((G.1 a 4).toInt) - 1))).toNat = none)
    (e155 : x155.toInt = ((aI (G.2.1 (F a 2)) (((G.1 a 4).toInt) - 1)) + (1 : Int)))
    (e0 : 1 ≤ ((G.1 a 4).toInt) ∧ ((G.1 a 4).toInt) ≤ 90)
    (z0 : ((0 ≤ (aI (G.2.1 (F a 0)) (((G.1 a 4).toInt) - 1)) ∧ (aI (G.2.1 (F a 0)) (((G.1 a 4).toInt) - 1)) < 3) ∧ (0 ≤ (aI (G.2.1 (F a 1)) (((G.1 a 4).toInt) - 1)) ∧ (aI (G.2.1 (F a 1)) (((G.1 a 4).toInt) - 1)) < 30) ∧ (0 ≤ (aI (G.2.1 (F a 2)) (((G.1 a 4).toInt) - 1)) ∧ (aI (G.2.1 (F a 2)) (((G.1 a 4).toInt) - 1)) ≤ 12) ∧ (0 ≤ (aI (G.2.1 (F a 3)) (((G.1 a 4).toInt) - 1)) ∧ (aI (G.2.1 (F a 3)) (((G.1 a 4).toInt) - 1)) ≤ 30)) ∧ ((G.1 a 4).toInt) + (pn (vw (G.2.1 (F p0 0)))) ≤ 90)
    (c8 : ¬ ((((G.1 a 4).toInt) - (1 : Int)) < 0))
    (c14 : (((G.1 a 4).toInt) - (1 : Int)) < (90 : Int))
    (c26 : (aI (G.2.1 (F a 2)) (((G.1 a 4).toInt) - 1)) < (12 : Int))
    (c_G156_F_a_3 : G156.2.1 (F a 3) = G.2.1 (F a 3))
    (c_G163_F_a_0 : G163.2.1 (F a 0) = G.2.1 (F a 0))
    (c_G163_F_a_1 : G163.2.1 (F a 1) = G.2.1 (F a 1))
    (c_G163_F_a_2 : G163.2.1 (F a 2) = G156.2.1 (F a 2))
    (c_G163_F_p0_0 : G163.2.1 (F p0 0) = G.2.1 (F p0 0))
    (d_G163_a_4 : G163.1 a 4 = G.1 a 4) :
    CGo (clsA G (G.2.2.1 (F p1 0))) (clsT G (G.2.2.1 (F p1 0))) (clsC G (G.2.2.1 (F p1 0))) (gst (G.2.1 (F a 0)) (G.2.1 (F a 1)) (G.2.1 (F a 2)) (G.2.1 (F a 3)) (Int.toNat (((G.1 a 4).toInt))), (vw (G.2.1 (F p0 0)))) (gst (G163.2.1 (F a 0)) (G163.2.1 (F a 1)) (G163.2.1 (F a 2)) (G163.2.1 (F a 3)) (Int.toNat (((G163.1 a 4).toInt))), (vw (G163.2.1 (F p0 0)))) := by
  have t9 := gst_p (a := G.2.1 (F a 0)) (b := G.2.1 (F a 1)) (c := G.2.1 (F a 2)) (d := G.2.1 (F a 3)) (n := (G.1 a 4).toInt) (by omega)
  rw [t9] at hiv hcz ⊢
  have hq : G.2.2.1 (F p1 0) ((aI (G.2.1 (F a 2)) ((G.1 a 4).toInt - 1))).toNat = none := hn47.elim (fun h => absurd h (by omega)) id
  have st := cgo_nx (clsTo bkn) hiv hcz (by omega) (by rw [clsA_n hq]; decide)
  rw [d_G163_a_4, c_G163_F_a_0, c_G163_F_a_1, c_G163_F_a_2, gst_u (n := (G.1 a 4).toInt) (by omega) (aI_pu hG156 rfl e5 e155 (by omega)) (aI_pu hG163 c_G156_F_a_3 e5 (show ((0 : Int32)).toInt = 0 from by decide) (by omega)), c_G163_F_p0_0]
  exact st
theorem v_X2_goOn_164_4 {F : Nat → Nat → Nat} (p0 : Nat) (G : XG) (G163 : XG)
    (hro : RO (vw (G.2.1 (F p0 0))) (aI (G.2.1 (F p0 1))))
    (c_G163_F_p0_0 : G163.2.1 (F p0 0) = G.2.1 (F p0 0))
    (c_G163_F_p0_1 : G163.2.1 (F p0 1) = G.2.1 (F p0 1)) :
    RO (vw (G163.2.1 (F p0 0))) (aI (G163.2.1 (F p0 1))) := by
  rw [c_G163_F_p0_0, c_G163_F_p0_1]
  first | exact oq92a | exact hro
theorem v_X2_goOn_164_5 {K : Nat → Nat} {F : Nat → Nat → Nat} (a : Nat) (p0 : Nat) (p1 : Nat) (q47 : Nat) (G156 : XG) (G : XG) (x5 : Int32) (x155 : Int32) (G163 : XG) (x65 : Int32)
    (ha : K a = 4)
    (hp0 : K p0 = 8)
    (hp1 : K p1 = 2)
    (hG156 : G156 = cput G (F a 2) x5.toNatClampNeg x155)
    (hG163 : G163 = cput G156 (F a 3) x5.toNatClampNeg 0)
    (bkn : BKr K G (G.2.2.1 (F p1 0)))
    (hac : ACo G (G.2.2.1 (F p1 0)))
    (hiv : CIv (gst (G.2.1 (F a 0)) (G.2.1 (F a 1)) (G.2.1 (F a 2)) (G.2.1 (F a 3)) (Int.toNat (((G.1 a 4).toInt))), (vw (G.2.1 (F p0 0)))))
    (hcz : CZ (clsA G (G.2.2.1 (F p1 0))) (gst (G.2.1 (F a 0)) (G.2.1 (F a 1)) (G.2.1 (F a 2)) (G.2.1 (F a 3)) (Int.toNat (((G.1 a 4).toInt))), (vw (G.2.1 (F p0 0)))).1)
    (e5 : x5.toInt = (((G.1 a 4).toInt) - (1 : Int)))
    (hs47 : G.2.2.1 (F p1 0) ((aI (G.2.1 (F a 2)) (((G.1 a 4).toInt) - 1))).toNat = some q47)
    (e155 : x155.toInt = ((aI (G.2.1 (F a 2)) (((G.1 a 4).toInt) - 1)) + (1 : Int)))
    (e0 : 1 ≤ ((G.1 a 4).toInt) ∧ ((G.1 a 4).toInt) ≤ 90)
    (z0 : ((0 ≤ (aI (G.2.1 (F a 0)) (((G.1 a 4).toInt) - 1)) ∧ (aI (G.2.1 (F a 0)) (((G.1 a 4).toInt) - 1)) < 3) ∧ (0 ≤ (aI (G.2.1 (F a 1)) (((G.1 a 4).toInt) - 1)) ∧ (aI (G.2.1 (F a 1)) (((G.1 a 4).toInt) - 1)) < 30) ∧ (0 ≤ (aI (G.2.1 (F a 2)) (((G.1 a 4).toInt) - 1)) ∧ (aI (G.2.1 (F a 2)) (((G.1 a 4).toInt) - 1)) ≤ 12) ∧ (0 ≤ (aI (G.2.1 (F a 3)) (((G.1 a 4).toInt) - 1)) ∧ (aI (G.2.1 (F a 3)) (((G.1 a 4).toInt) - 1)) ≤ 30)) ∧ ((G.1 a 4).toInt) + (pn (vw (G.2.1 (F p0 0)))) ≤ 90)
    (c8 : ¬ ((((G.1 a 4).toInt) - (1 : Int)) < 0))
    (c14 : (((G.1 a 4).toInt) - (1 : Int)) < (90 : Int))
    (c26 : (aI (G.2.1 (F a 2)) (((G.1 a 4).toInt) - 1)) < (12 : Int))
    (ht47 : 0 ≤ (aI (G.2.1 (F a 2)) (((G.1 a 4).toInt) - 1)) ∧ (aI (G.2.1 (F a 2)) (((G.1 a 4).toInt) - 1)) < 12)
    (t65 : ((((G.1 q47 0).toInt) = 1 ∧ ((G.1 q47 4).toInt) = (aI (G.2.1 (F a 0)) (((G.1 a 4).toInt) - 1)) ∧ ((G.1 q47 7).toInt) ≠ 0) ∧ x65.toInt = 1) ∨ (¬ (((G.1 q47 0).toInt) = 1 ∧ ((G.1 q47 4).toInt) = (aI (G.2.1 (F a 0)) (((G.1 a 4).toInt) - 1)) ∧ ((G.1 q47 7).toInt) ≠ 0) ∧ x65.toInt = 0))
    (c68 : x65.toInt = 0)
    (c_G156_F_a_3 : G156.2.1 (F a 3) = G.2.1 (F a 3))
    (c_G163_F_a_0 : G163.2.1 (F a 0) = G.2.1 (F a 0))
    (c_G163_F_a_1 : G163.2.1 (F a 1) = G.2.1 (F a 1))
    (c_G163_F_a_2 : G163.2.1 (F a 2) = G156.2.1 (F a 2))
    (c_G163_F_p0_0 : G163.2.1 (F p0 0) = G.2.1 (F p0 0))
    (d_G163_a_4 : G163.1 a 4 = G.1 a 4) :
    CGo (clsA G (G.2.2.1 (F p1 0))) (clsT G (G.2.2.1 (F p1 0))) (clsC G (G.2.2.1 (F p1 0))) (gst (G.2.1 (F a 0)) (G.2.1 (F a 1)) (G.2.1 (F a 2)) (G.2.1 (F a 3)) (Int.toNat (((G.1 a 4).toInt))), (vw (G.2.1 (F p0 0)))) (gst (G163.2.1 (F a 0)) (G163.2.1 (F a 1)) (G163.2.1 (F a 2)) (G163.2.1 (F a 3)) (Int.toNat (((G163.1 a 4).toInt))), (vw (G163.2.1 (F p0 0)))) := by
  have t9 := gst_p (a := G.2.1 (F a 0)) (b := G.2.1 (F a 1)) (c := G.2.1 (F a 2)) (d := G.2.1 (F a 3)) (n := (G.1 a 4).toInt) (by omega)
  rw [t9] at hiv hcz ⊢
  have hq : G.2.2.1 (F p1 0) ((aI (G.2.1 (F a 2)) ((G.1 a 4).toInt - 1))).toNat = some q47 := hs47
  have as := clsA_s (G := G) (t := (aI (G.2.1 (F a 0)) ((G.1 a 4).toInt - 1))) hq
  have ac := hac ((aI (G.2.1 (F a 2)) ((G.1 a 4).toInt - 1))).toNat q47 (by omega) hq
  have a0 : ¬ (0 < clsA G (G.2.2.1 (F p1 0)) (aI (G.2.1 (F a 2)) ((G.1 a 4).toInt - 1)) (aI (G.2.1 (F a 0)) ((G.1 a 4).toInt - 1))) := by rw [as]; split <;> omega
  have st := cgo_nx (clsTo bkn) hiv hcz (by omega) a0
  rw [d_G163_a_4, c_G163_F_a_0, c_G163_F_a_1, c_G163_F_a_2, gst_u (n := (G.1 a 4).toInt) (by omega) (aI_pu hG156 rfl e5 e155 (by omega)) (aI_pu hG163 c_G156_F_a_3 e5 (show ((0 : Int32)).toInt = 0 from by decide) (by omega)), c_G163_F_p0_0]
  exact st
theorem v_X2_goOn_164_6 {F : Nat → Nat → Nat} (p0 : Nat) (G : XG) (G163 : XG)
    (hro : RO (vw (G.2.1 (F p0 0))) (aI (G.2.1 (F p0 1))))
    (c_G163_F_p0_0 : G163.2.1 (F p0 0) = G.2.1 (F p0 0))
    (c_G163_F_p0_1 : G163.2.1 (F p0 1) = G.2.1 (F p0 1)) :
    RO (vw (G163.2.1 (F p0 0))) (aI (G163.2.1 (F p0 1))) := by
  rw [c_G163_F_p0_0, c_G163_F_p0_1]
  first | exact oq92a | exact hro
theorem v_X2_goOn_113_7 {K : Nat → Nat} {F : Nat → Nat → Nat} (a : Nat) (p0 : Nat) (p1 : Nat) (q47 : Nat) (G : XG) (x65 : Int32)
    (ha : K a = 4)
    (hp0 : K p0 = 8)
    (hp1 : K p1 = 2)
    (bkn : BKr K G (G.2.2.1 (F p1 0)))
    (hcz : CZ (clsA G (G.2.2.1 (F p1 0))) (gst (G.2.1 (F a 0)) (G.2.1 (F a 1)) (G.2.1 (F a 2)) (G.2.1 (F a 3)) (Int.toNat (((G.1 a 4).toInt))), (vw (G.2.1 (F p0 0)))).1)
    (hs47 : G.2.2.1 (F p1 0) ((aI (G.2.1 (F a 2)) (((G.1 a 4).toInt) - 1))).toNat = some q47)
    (e0 : 1 ≤ ((G.1 a 4).toInt) ∧ ((G.1 a 4).toInt) ≤ 90)
    (z0 : ((0 ≤ (aI (G.2.1 (F a 0)) (((G.1 a 4).toInt) - 1)) ∧ (aI (G.2.1 (F a 0)) (((G.1 a 4).toInt) - 1)) < 3) ∧ (0 ≤ (aI (G.2.1 (F a 1)) (((G.1 a 4).toInt) - 1)) ∧ (aI (G.2.1 (F a 1)) (((G.1 a 4).toInt) - 1)) < 30) ∧ (0 ≤ (aI (G.2.1 (F a 2)) (((G.1 a 4).toInt) - 1)) ∧ (aI (G.2.1 (F a 2)) (((G.1 a 4).toInt) - 1)) ≤ 12) ∧ (0 ≤ (aI (G.2.1 (F a 3)) (((G.1 a 4).toInt) - 1)) ∧ (aI (G.2.1 (F a 3)) (((G.1 a 4).toInt) - 1)) ≤ 30)) ∧ ((G.1 a 4).toInt) + (pn (vw (G.2.1 (F p0 0)))) ≤ 90)
    (c8 : ¬ ((((G.1 a 4).toInt) - (1 : Int)) < 0))
    (c14 : (((G.1 a 4).toInt) - (1 : Int)) < (90 : Int))
    (c26 : (aI (G.2.1 (F a 2)) (((G.1 a 4).toInt) - 1)) < (12 : Int))
    (ht47 : 0 ≤ (aI (G.2.1 (F a 2)) (((G.1 a 4).toInt) - 1)) ∧ (aI (G.2.1 (F a 2)) (((G.1 a 4).toInt) - 1)) < 12)
    (t65 : ((((G.1 q47 0).toInt) = 1 ∧ ((G.1 q47 4).toInt) = (aI (G.2.1 (F a 0)) (((G.1 a 4).toInt) - 1)) ∧ ((G.1 q47 7).toInt) ≠ 0) ∧ x65.toInt = 1) ∨ (¬ (((G.1 q47 0).toInt) = 1 ∧ ((G.1 q47 4).toInt) = (aI (G.2.1 (F a 0)) (((G.1 a 4).toInt) - 1)) ∧ ((G.1 q47 7).toInt) ≠ 0) ∧ x65.toInt = 0))
    (c68 : ¬ (x65.toInt = 0))
    (z71 : (0 ≤ ((G.1 q47 2).toInt) ∧ ((G.1 q47 2).toInt) ≤ 2) ∧ (0 ≤ ((G.1 q47 3).toInt) ∧ ((G.1 q47 3).toInt) ≤ 2))
    (c77 : ((G.1 q47 7).toInt) ≠ (2 : Int)) :
    RW (G.1 q47) := by
  exact (bkn _ q47 (by omega) hs47).2
theorem v_X2_goOn_164_8 {K : Nat → Nat} {F : Nat → Nat → Nat} (a : Nat) (p0 : Nat) (p1 : Nat) (q47 : Nat) (G156 : XG) (G : XG) (x5 : Int32) (x155 : Int32) (G163 : XG) (x113 : Int32) (x65 : Int32)
    (ha : K a = 4)
    (hp0 : K p0 = 8)
    (hp1 : K p1 = 2)
    (hG156 : G156 = cput G (F a 2) x5.toNatClampNeg x155)
    (hG163 : G163 = cput G156 (F a 3) x5.toNatClampNeg 0)
    (bkn : BKr K G (G.2.2.1 (F p1 0)))
    (hac : ACo G (G.2.2.1 (F p1 0)))
    (hiv : CIv (gst (G.2.1 (F a 0)) (G.2.1 (F a 1)) (G.2.1 (F a 2)) (G.2.1 (F a 3)) (Int.toNat (((G.1 a 4).toInt))), (vw (G.2.1 (F p0 0)))))
    (hcz : CZ (clsA G (G.2.2.1 (F p1 0))) (gst (G.2.1 (F a 0)) (G.2.1 (F a 1)) (G.2.1 (F a 2)) (G.2.1 (F a 3)) (Int.toNat (((G.1 a 4).toInt))), (vw (G.2.1 (F p0 0)))).1)
    (e5 : x5.toInt = (((G.1 a 4).toInt) - (1 : Int)))
    (hs47 : G.2.2.1 (F p1 0) ((aI (G.2.1 (F a 2)) (((G.1 a 4).toInt) - 1))).toNat = some q47)
    (oq113 : (x113.toInt = -1 ∧ ∀ j : Int, (aI (G.2.1 (F a 3)) (((G.1 a 4).toInt) - 1)) ≤ j → j < 30 → cel (vw (G.2.1 (F p0 0))) ((G.1 q47 2).toInt) j ((G.1 q47 3).toInt) ≠ (aI (G.2.1 (F a 1)) (((G.1 a 4).toInt) - 1))) ∨ (((aI (G.2.1 (F a 3)) (((G.1 a 4).toInt) - 1)) ≤ x113.toInt ∧ x113.toInt < 30) ∧ cel (vw (G.2.1 (F p0 0))) ((G.1 q47 2).toInt) x113.toInt ((G.1 q47 3).toInt) = (aI (G.2.1 (F a 1)) (((G.1 a 4).toInt) - 1)) ∧ ∀ j : Int, (aI (G.2.1 (F a 3)) (((G.1 a 4).toInt) - 1)) ≤ j → j < x113.toInt → cel (vw (G.2.1 (F p0 0))) ((G.1 q47 2).toInt) j ((G.1 q47 3).toInt) ≠ (aI (G.2.1 (F a 1)) (((G.1 a 4).toInt) - 1))))
    (e155 : x155.toInt = ((aI (G.2.1 (F a 2)) (((G.1 a 4).toInt) - 1)) + (1 : Int)))
    (e0 : 1 ≤ ((G.1 a 4).toInt) ∧ ((G.1 a 4).toInt) ≤ 90)
    (z0 : ((0 ≤ (aI (G.2.1 (F a 0)) (((G.1 a 4).toInt) - 1)) ∧ (aI (G.2.1 (F a 0)) (((G.1 a 4).toInt) - 1)) < 3) ∧ (0 ≤ (aI (G.2.1 (F a 1)) (((G.1 a 4).toInt) - 1)) ∧ (aI (G.2.1 (F a 1)) (((G.1 a 4).toInt) - 1)) < 30) ∧ (0 ≤ (aI (G.2.1 (F a 2)) (((G.1 a 4).toInt) - 1)) ∧ (aI (G.2.1 (F a 2)) (((G.1 a 4).toInt) - 1)) ≤ 12) ∧ (0 ≤ (aI (G.2.1 (F a 3)) (((G.1 a 4).toInt) - 1)) ∧ (aI (G.2.1 (F a 3)) (((G.1 a 4).toInt) - 1)) ≤ 30)) ∧ ((G.1 a 4).toInt) + (pn (vw (G.2.1 (F p0 0)))) ≤ 90)
    (c8 : ¬ ((((G.1 a 4).toInt) - (1 : Int)) < 0))
    (c14 : (((G.1 a 4).toInt) - (1 : Int)) < (90 : Int))
    (c26 : (aI (G.2.1 (F a 2)) (((G.1 a 4).toInt) - 1)) < (12 : Int))
    (ht47 : 0 ≤ (aI (G.2.1 (F a 2)) (((G.1 a 4).toInt) - 1)) ∧ (aI (G.2.1 (F a 2)) (((G.1 a 4).toInt) - 1)) < 12)
    (t65 : ((((G.1 q47 0).toInt) = 1 ∧ ((G.1 q47 4).toInt) = (aI (G.2.1 (F a 0)) (((G.1 a 4).toInt) - 1)) ∧ ((G.1 q47 7).toInt) ≠ 0) ∧ x65.toInt = 1) ∨ (¬ (((G.1 q47 0).toInt) = 1 ∧ ((G.1 q47 4).toInt) = (aI (G.2.1 (F a 0)) (((G.1 a 4).toInt) - 1)) ∧ ((G.1 q47 7).toInt) ≠ 0) ∧ x65.toInt = 0))
    (c68 : ¬ (x65.toInt = 0))
    (z71 : (0 ≤ ((G.1 q47 2).toInt) ∧ ((G.1 q47 2).toInt) ≤ 2) ∧ (0 ≤ ((G.1 q47 3).toInt) ∧ ((G.1 q47 3).toInt) ≤ 2))
    (c77 : ((G.1 q47 7).toInt) ≠ (2 : Int))
    (t113 : -1 ≤ x113.toInt ∧ x113.toInt < 30)
    (c121 : x113.toInt = (-1 : Int))
    (c_G156_F_a_3 : G156.2.1 (F a 3) = G.2.1 (F a 3))
    (c_G163_F_a_0 : G163.2.1 (F a 0) = G.2.1 (F a 0))
    (c_G163_F_a_1 : G163.2.1 (F a 1) = G.2.1 (F a 1))
    (c_G163_F_a_2 : G163.2.1 (F a 2) = G156.2.1 (F a 2))
    (c_G163_F_p0_0 : G163.2.1 (F p0 0) = G.2.1 (F p0 0))
    (d_G163_a_4 : G163.1 a 4 = G.1 a 4) :
    CGo (clsA G (G.2.2.1 (F p1 0))) (clsT G (G.2.2.1 (F p1 0))) (clsC G (G.2.2.1 (F p1 0))) (gst (G.2.1 (F a 0)) (G.2.1 (F a 1)) (G.2.1 (F a 2)) (G.2.1 (F a 3)) (Int.toNat (((G.1 a 4).toInt))), (vw (G.2.1 (F p0 0)))) (gst (G163.2.1 (F a 0)) (G163.2.1 (F a 1)) (G163.2.1 (F a 2)) (G163.2.1 (F a 3)) (Int.toNat (((G163.1 a 4).toInt))), (vw (G163.2.1 (F p0 0)))) := by
  have t9 := gst_p (a := G.2.1 (F a 0)) (b := G.2.1 (F a 1)) (c := G.2.1 (F a 2)) (d := G.2.1 (F a 3)) (n := (G.1 a 4).toInt) (by omega)
  rw [t9] at hiv hcz ⊢
  have hq : G.2.2.1 (F p1 0) ((aI (G.2.1 (F a 2)) ((G.1 a 4).toInt - 1))).toNat = some q47 := hs47
  have as := clsA_s (G := G) (t := (aI (G.2.1 (F a 0)) ((G.1 a 4).toInt - 1))) hq
  have ac := hac ((aI (G.2.1 (F a 2)) ((G.1 a 4).toInt - 1))).toNat q47 (by omega) hq
  have ts := clsT_s (G := G) hq ⟨by omega, by omega, by omega⟩
  rw [if_pos (by omega)] at as
  rcases oq113 with ⟨h0, h1⟩ | ⟨h1, -⟩
  · rw [← ts.1, ← ts.2] at h1
    have st := cgo_no (clsTo bkn) hiv hcz (by omega) (by omega) h1
    rw [d_G163_a_4, c_G163_F_a_0, c_G163_F_a_1, c_G163_F_a_2, gst_u (n := (G.1 a 4).toInt) (by omega) (aI_pu hG156 rfl e5 e155 (by omega)) (aI_pu hG163 c_G156_F_a_3 e5 (show ((0 : Int32)).toInt = 0 from by decide) (by omega)), c_G163_F_p0_0]
    exact st
  · exfalso; omega
theorem v_X2_goOn_164_9 {F : Nat → Nat → Nat} (p0 : Nat) (G : XG) (G163 : XG)
    (hro : RO (vw (G.2.1 (F p0 0))) (aI (G.2.1 (F p0 1))))
    (c_G163_F_p0_0 : G163.2.1 (F p0 0) = G.2.1 (F p0 0))
    (c_G163_F_p0_1 : G163.2.1 (F p0 1) = G.2.1 (F p0 1)) :
    RO (vw (G163.2.1 (F p0 0))) (aI (G163.2.1 (F p0 1))) := by
  rw [c_G163_F_p0_0, c_G163_F_p0_1]
  first | exact oq92a | exact hro
theorem v_X2_goOn_124_10 {K : Nat → Nat} {F : Nat → Nat → Nat} (a : Nat) (p0 : Nat) (p1 : Nat) (q47 : Nat) (G : XG) (x113 : Int32) (x65 : Int32)
    (ha : K a = 4)
    (hp0 : K p0 = 8)
    (hp1 : K p1 = 2)
    (hro : RO (vw (G.2.1 (F p0 0))) (aI (G.2.1 (F p0 1))))
    (hcz : CZ (clsA G (G.2.2.1 (F p1 0))) (gst (G.2.1 (F a 0)) (G.2.1 (F a 1)) (G.2.1 (F a 2)) (G.2.1 (F a 3)) (Int.toNat (((G.1 a 4).toInt))), (vw (G.2.1 (F p0 0)))).1)
    (hs47 : G.2.2.1 (F p1 0) ((aI (G.2.1 (F a 2)) (((G.1 a 4).toInt) - 1))).toNat = some q47)
    (oq113 : (x113.toInt = -1 ∧ ∀ j : Int, (aI (G.2.1 (F a 3)) (((G.1 a 4).toInt) - 1)) ≤ j → j < 30 → cel (vw (G.2.1 (F p0 0))) ((G.1 q47 2).toInt) j ((G.1 q47 3).toInt) ≠ (aI (G.2.1 (F a 1)) (((G.1 a 4).toInt) - 1))) ∨ (((aI (G.2.1 (F a 3)) (((G.1 a 4).toInt) - 1)) ≤ x113.toInt ∧ x113.toInt < 30) ∧ cel (vw (G.2.1 (F p0 0))) ((G.1 q47 2).toInt) x113.toInt ((G.1 q47 3).toInt) = (aI (G.2.1 (F a 1)) (((G.1 a 4).toInt) - 1)) ∧ ∀ j : Int, (aI (G.2.1 (F a 3)) (((G.1 a 4).toInt) - 1)) ≤ j → j < x113.toInt → cel (vw (G.2.1 (F p0 0))) ((G.1 q47 2).toInt) j ((G.1 q47 3).toInt) ≠ (aI (G.2.1 (F a 1)) (((G.1 a 4).toInt) - 1))))
    (e0 : 1 ≤ ((G.1 a 4).toInt) ∧ ((G.1 a 4).toInt) ≤ 90)
    (z0 : ((0 ≤ (aI (G.2.1 (F a 0)) (((G.1 a 4).toInt) - 1)) ∧ (aI (G.2.1 (F a 0)) (((G.1 a 4).toInt) - 1)) < 3) ∧ (0 ≤ (aI (G.2.1 (F a 1)) (((G.1 a 4).toInt) - 1)) ∧ (aI (G.2.1 (F a 1)) (((G.1 a 4).toInt) - 1)) < 30) ∧ (0 ≤ (aI (G.2.1 (F a 2)) (((G.1 a 4).toInt) - 1)) ∧ (aI (G.2.1 (F a 2)) (((G.1 a 4).toInt) - 1)) ≤ 12) ∧ (0 ≤ (aI (G.2.1 (F a 3)) (((G.1 a 4).toInt) - 1)) ∧ (aI (G.2.1 (F a 3)) (((G.1 a 4).toInt) - 1)) ≤ 30)) ∧ ((G.1 a 4).toInt) + (pn (vw (G.2.1 (F p0 0)))) ≤ 90)
    (c8 : ¬ ((((G.1 a 4).toInt) - (1 : Int)) < 0))
    (c14 : (((G.1 a 4).toInt) - (1 : Int)) < (90 : Int))
    (c26 : (aI (G.2.1 (F a 2)) (((G.1 a 4).toInt) - 1)) < (12 : Int))
    (ht47 : 0 ≤ (aI (G.2.1 (F a 2)) (((G.1 a 4).toInt) - 1)) ∧ (aI (G.2.1 (F a 2)) (((G.1 a 4).toInt) - 1)) < 12)
    (t65 : ((((G.1 q47 0).toInt) = 1 ∧ ((G.1 q47 4).toInt) = (aI (G.2.1 (F a 0)) (((G.1 a 4).toInt) - 1)) ∧ ((G.1 q47 7).toInt) ≠ 0) ∧ x65.toInt = 1) ∨ (¬ (((G.1 q47 0).toInt) = 1 ∧ ((G.1 q47 4).toInt) = (aI (G.2.1 (F a 0)) (((G.1 a 4).toInt) - 1)) ∧ ((G.1 q47 7).toInt) ≠ 0) ∧ x65.toInt = 0))
    (c68 : ¬ (x65.toInt = 0))
    (z71 : (0 ≤ ((G.1 q47 2).toInt) ∧ ((G.1 q47 2).toInt) ≤ 2) ∧ (0 ≤ ((G.1 q47 3).toInt) ∧ ((G.1 q47 3).toInt) ≤ 2))
    (c77 : ((G.1 q47 7).toInt) ≠ (2 : Int))
    (t113 : -1 ≤ x113.toInt ∧ x113.toInt < 30)
    (c121 : ¬ (x113.toInt = (-1 : Int))) :
    1 ≤ (pn (vw (G.2.1 (F p0 0)))) := by
  rcases oq113 with h | ⟨h1, h2, h3⟩
  · exfalso; omega
  · exact pn_pos hro.rc (by rw [h2]; omega)
theorem v_X2_goOn_143_11 {F : Nat → Nat → Nat} (p0 : Nat) (G133 : XG) (G : XG)
    (hro : RO (vw (G.2.1 (F p0 0))) (aI (G.2.1 (F p0 1))))
    (c_G133_F_p0_0 : G133.2.1 (F p0 0) = G.2.1 (F p0 0))
    (c_G133_F_p0_1 : G133.2.1 (F p0 1) = G.2.1 (F p0 1)) :
    RO (vw (G133.2.1 (F p0 0))) (aI (G133.2.1 (F p0 1))) := by simp only [c_G133_F_p0_0, c_G133_F_p0_1]; assumption
theorem v_X2_goOn_146_12 {K : Nat → Nat} {F : Nat → Nat → Nat} (a : Nat) (p0 : Nat) (p1 : Nat) (q47 : Nat) (G133 : XG) (G : XG) (x5 : Int32) (x132 : Int32) (G143 : XG) (x113 : Int32) (x65 : Int32)
    (ha : K a = 4)
    (hp0 : K p0 = 8)
    (hp1 : K p1 = 2)
    (hG133 : G133 = cput G (F a 3) x5.toNatClampNeg x132)
    (bkn : BKr K G (G.2.2.1 (F p1 0)))
    (hac : ACo G (G.2.2.1 (F p1 0)))
    (hiv : CIv (gst (G.2.1 (F a 0)) (G.2.1 (F a 1)) (G.2.1 (F a 2)) (G.2.1 (F a 3)) (Int.toNat (((G.1 a 4).toInt))), (vw (G.2.1 (F p0 0)))))
    (hcz : CZ (clsA G (G.2.2.1 (F p1 0))) (gst (G.2.1 (F a 0)) (G.2.1 (F a 1)) (G.2.1 (F a 2)) (G.2.1 (F a 3)) (Int.toNat (((G.1 a 4).toInt))), (vw (G.2.1 (F p0 0)))).1)
    (e5 : x5.toInt = (((G.1 a 4).toInt) - (1 : Int)))
    (hs47 : G.2.2.1 (F p1 0) ((aI (G.2.1 (F a 2)) (((G.1 a 4).toInt) - 1))).toNat = some q47)
    (oq113 : (x113.toInt = -1 ∧ ∀ j : Int, (aI (G.2.1 (F a 3)) (((G.1 a 4).toInt) - 1)) ≤ j → j < 30 → cel (vw (G.2.1 (F p0 0))) ((G.1 q47 2).toInt) j ((G.1 q47 3).toInt) ≠ (aI (G.2.1 (F a 1)) (((G.1 a 4).toInt) - 1))) ∨ (((aI (G.2.1 (F a 3)) (((G.1 a 4).toInt) - 1)) ≤ x113.toInt ∧ x113.toInt < 30) ∧ cel (vw (G.2.1 (F p0 0))) ((G.1 q47 2).toInt) x113.toInt ((G.1 q47 3).toInt) = (aI (G.2.1 (F a 1)) (((G.1 a 4).toInt) - 1)) ∧ ∀ j : Int, (aI (G.2.1 (F a 3)) (((G.1 a 4).toInt) - 1)) ≤ j → j < x113.toInt → cel (vw (G.2.1 (F p0 0))) ((G.1 q47 2).toInt) j ((G.1 q47 3).toInt) ≠ (aI (G.2.1 (F a 1)) (((G.1 a 4).toInt) - 1))))
    (e132 : x132.toInt = (x113.toInt + (1 : Int)))
    (oq143 : ∀ z : Int, 0 ≤ z → aI (G143.2.1 (F a 0)) z = if z = ((G.1 a 4).toInt) then ((G.1 q47 2).toInt) else aI (G.2.1 (F a 0)) z)
    (oq143a : ∀ z : Int, 0 ≤ z → aI (G143.2.1 (F a 1)) z = if z = ((G.1 a 4).toInt) then x113.toInt else aI (G.2.1 (F a 1)) z)
    (oq143b : ∀ z : Int, 0 ≤ z → aI (G143.2.1 (F a 2)) z = if z = ((G.1 a 4).toInt) then 0 else aI (G.2.1 (F a 2)) z)
    (oq143c : ∀ z : Int, 0 ≤ z → aI (G143.2.1 (F a 3)) z = if z = ((G.1 a 4).toInt) then 0 else aI (G133.2.1 (F a 3)) z)
    (oq143d : (vw (G143.2.1 (F p0 0))) = rfil (vw (G.2.1 (F p0 0))) ((G.1 q47 2).toInt) x113.toInt (-2000) 3)
    (e0 : 1 ≤ ((G.1 a 4).toInt) ∧ ((G.1 a 4).toInt) ≤ 90)
    (z0 : ((0 ≤ (aI (G.2.1 (F a 0)) (((G.1 a 4).toInt) - 1)) ∧ (aI (G.2.1 (F a 0)) (((G.1 a 4).toInt) - 1)) < 3) ∧ (0 ≤ (aI (G.2.1 (F a 1)) (((G.1 a 4).toInt) - 1)) ∧ (aI (G.2.1 (F a 1)) (((G.1 a 4).toInt) - 1)) < 30) ∧ (0 ≤ (aI (G.2.1 (F a 2)) (((G.1 a 4).toInt) - 1)) ∧ (aI (G.2.1 (F a 2)) (((G.1 a 4).toInt) - 1)) ≤ 12) ∧ (0 ≤ (aI (G.2.1 (F a 3)) (((G.1 a 4).toInt) - 1)) ∧ (aI (G.2.1 (F a 3)) (((G.1 a 4).toInt) - 1)) ≤ 30)) ∧ ((G.1 a 4).toInt) + (pn (vw (G.2.1 (F p0 0)))) ≤ 90)
    (c8 : ¬ ((((G.1 a 4).toInt) - (1 : Int)) < 0))
    (c14 : (((G.1 a 4).toInt) - (1 : Int)) < (90 : Int))
    (c26 : (aI (G.2.1 (F a 2)) (((G.1 a 4).toInt) - 1)) < (12 : Int))
    (ht47 : 0 ≤ (aI (G.2.1 (F a 2)) (((G.1 a 4).toInt) - 1)) ∧ (aI (G.2.1 (F a 2)) (((G.1 a 4).toInt) - 1)) < 12)
    (t65 : ((((G.1 q47 0).toInt) = 1 ∧ ((G.1 q47 4).toInt) = (aI (G.2.1 (F a 0)) (((G.1 a 4).toInt) - 1)) ∧ ((G.1 q47 7).toInt) ≠ 0) ∧ x65.toInt = 1) ∨ (¬ (((G.1 q47 0).toInt) = 1 ∧ ((G.1 q47 4).toInt) = (aI (G.2.1 (F a 0)) (((G.1 a 4).toInt) - 1)) ∧ ((G.1 q47 7).toInt) ≠ 0) ∧ x65.toInt = 0))
    (c68 : ¬ (x65.toInt = 0))
    (z71 : (0 ≤ ((G.1 q47 2).toInt) ∧ ((G.1 q47 2).toInt) ≤ 2) ∧ (0 ≤ ((G.1 q47 3).toInt) ∧ ((G.1 q47 3).toInt) ≤ 2))
    (c77 : ((G.1 q47 7).toInt) ≠ (2 : Int))
    (t113 : -1 ≤ x113.toInt ∧ x113.toInt < 30)
    (c121 : ¬ (x113.toInt = (-1 : Int)))
    (pp124 : 1 ≤ (pn (vw (G.2.1 (F p0 0)))))
    (t143 : ((G143.1 a 4).toInt) = ((G.1 a 4).toInt) + 1) :
    CGo (clsA G (G.2.2.1 (F p1 0))) (clsT G (G.2.2.1 (F p1 0))) (clsC G (G.2.2.1 (F p1 0))) (gst (G.2.1 (F a 0)) (G.2.1 (F a 1)) (G.2.1 (F a 2)) (G.2.1 (F a 3)) (Int.toNat (((G.1 a 4).toInt))), (vw (G.2.1 (F p0 0)))) (gst (G143.2.1 (F a 0)) (G143.2.1 (F a 1)) (G143.2.1 (F a 2)) (G143.2.1 (F a 3)) (Int.toNat (((G143.1 a 4).toInt))), (vw (G143.2.1 (F p0 0)))) := by
  have t9 := gst_p (a := G.2.1 (F a 0)) (b := G.2.1 (F a 1)) (c := G.2.1 (F a 2)) (d := G.2.1 (F a 3)) (n := (G.1 a 4).toInt) (by omega)
  rw [t9] at hiv hcz ⊢
  have hq : G.2.2.1 (F p1 0) ((aI (G.2.1 (F a 2)) ((G.1 a 4).toInt - 1))).toNat = some q47 := hs47
  have as := clsA_s (G := G) (t := (aI (G.2.1 (F a 0)) ((G.1 a 4).toInt - 1))) hq
  have ac := hac ((aI (G.2.1 (F a 2)) ((G.1 a 4).toInt - 1))).toNat q47 (by omega) hq
  have ts := clsT_s (G := G) hq ⟨by omega, by omega, by omega⟩
  rw [if_pos (by omega)] at as
  rcases oq113 with h | ⟨h1, h2, h3⟩
  · exfalso; omega
  · rw [← ts.1, ← ts.2] at h2 h3
    have st := cgo_go (clsTo bkn) hiv hcz (by omega) (by omega) (by omega) h1 h3 h2
    rw [t143, gst_g (n := (G.1 a 4).toInt) (by omega) oq143 oq143a oq143b oq143c, oq143d, gst_n (n := (G.1 a 4).toInt) (by omega) (aI_pu hG133 rfl e5 e132 (by omega)), ← ts.1]
    exact st
theorem v_X2_goOn_146_13 {F : Nat → Nat → Nat} (p0 : Nat) (G143 : XG)
    (oq143e : RO (vw (G143.2.1 (F p0 0))) (aI (G143.2.1 (F p0 1)))) :
    RO (vw (G143.2.1 (F p0 0))) (aI (G143.2.1 (F p0 1))) := by
  exact oq143e
theorem v_X2_goOn_92_14 {F : Nat → Nat → Nat} (p0 : Nat) (G : XG)
    (hro : RO (vw (G.2.1 (F p0 0))) (aI (G.2.1 (F p0 1)))) :
    RO (vw (G.2.1 (F p0 0))) (aI (G.2.1 (F p0 1))) := by exact hro
theorem v_X2_goOn_92_15 {K : Nat → Nat} {F : Nat → Nat → Nat} (a : Nat) (p0 : Nat) (p1 : Nat) (q47 : Nat) (G : XG) (x65 : Int32)
    (ha : K a = 4)
    (hp0 : K p0 = 8)
    (hp1 : K p1 = 2)
    (bkn : BKr K G (G.2.2.1 (F p1 0)))
    (hcz : CZ (clsA G (G.2.2.1 (F p1 0))) (gst (G.2.1 (F a 0)) (G.2.1 (F a 1)) (G.2.1 (F a 2)) (G.2.1 (F a 3)) (Int.toNat (((G.1 a 4).toInt))), (vw (G.2.1 (F p0 0)))).1)
    (hs47 : G.2.2.1 (F p1 0) ((aI (G.2.1 (F a 2)) (((G.1 a 4).toInt) - 1))).toNat = some q47)
    (e0 : 1 ≤ ((G.1 a 4).toInt) ∧ ((G.1 a 4).toInt) ≤ 90)
    (z0 : ((0 ≤ (aI (G.2.1 (F a 0)) (((G.1 a 4).toInt) - 1)) ∧ (aI (G.2.1 (F a 0)) (((G.1 a 4).toInt) - 1)) < 3) ∧ (0 ≤ (aI (G.2.1 (F a 1)) (((G.1 a 4).toInt) - 1)) ∧ (aI (G.2.1 (F a 1)) (((G.1 a 4).toInt) - 1)) < 30) ∧ (0 ≤ (aI (G.2.1 (F a 2)) (((G.1 a 4).toInt) - 1)) ∧ (aI (G.2.1 (F a 2)) (((G.1 a 4).toInt) - 1)) ≤ 12) ∧ (0 ≤ (aI (G.2.1 (F a 3)) (((G.1 a 4).toInt) - 1)) ∧ (aI (G.2.1 (F a 3)) (((G.1 a 4).toInt) - 1)) ≤ 30)) ∧ ((G.1 a 4).toInt) + (pn (vw (G.2.1 (F p0 0)))) ≤ 90)
    (c8 : ¬ ((((G.1 a 4).toInt) - (1 : Int)) < 0))
    (c14 : (((G.1 a 4).toInt) - (1 : Int)) < (90 : Int))
    (c26 : (aI (G.2.1 (F a 2)) (((G.1 a 4).toInt) - 1)) < (12 : Int))
    (ht47 : 0 ≤ (aI (G.2.1 (F a 2)) (((G.1 a 4).toInt) - 1)) ∧ (aI (G.2.1 (F a 2)) (((G.1 a 4).toInt) - 1)) < 12)
    (t65 : ((((G.1 q47 0).toInt) = 1 ∧ ((G.1 q47 4).toInt) = (aI (G.2.1 (F a 0)) (((G.1 a 4).toInt) - 1)) ∧ ((G.1 q47 7).toInt) ≠ 0) ∧ x65.toInt = 1) ∨ (¬ (((G.1 q47 0).toInt) = 1 ∧ ((G.1 q47 4).toInt) = (aI (G.2.1 (F a 0)) (((G.1 a 4).toInt) - 1)) ∧ ((G.1 q47 7).toInt) ≠ 0) ∧ x65.toInt = 0))
    (c68 : ¬ (x65.toInt = 0))
    (z71 : (0 ≤ ((G.1 q47 2).toInt) ∧ ((G.1 q47 2).toInt) ≤ 2) ∧ (0 ≤ ((G.1 q47 3).toInt) ∧ ((G.1 q47 3).toInt) ≤ 2))
    (c77 : ¬ (((G.1 q47 7).toInt) ≠ (2 : Int))) :
    RW (G.1 q47) := by
  exact (bkn _ q47 (by omega) hs47).2
theorem v_X2_goOn_164_16 {K : Nat → Nat} {F : Nat → Nat → Nat} (a : Nat) (p0 : Nat) (p1 : Nat) (q47 : Nat) (G : XG) (G92 : XG) (G156 : XG) (x5 : Int32) (x155 : Int32) (G163 : XG) (x65 : Int32)
    (ha : K a = 4)
    (hp0 : K p0 = 8)
    (hp1 : K p1 = 2)
    (hG156 : G156 = cput G92 (F a 2) x5.toNatClampNeg x155)
    (hG163 : G163 = cput G156 (F a 3) x5.toNatClampNeg 0)
    (bkn : BKr K G (G.2.2.1 (F p1 0)))
    (hac : ACo G (G.2.2.1 (F p1 0)))
    (hiv : CIv (gst (G.2.1 (F a 0)) (G.2.1 (F a 1)) (G.2.1 (F a 2)) (G.2.1 (F a 3)) (Int.toNat (((G.1 a 4).toInt))), (vw (G.2.1 (F p0 0)))))
    (hcz : CZ (clsA G (G.2.2.1 (F p1 0))) (gst (G.2.1 (F a 0)) (G.2.1 (F a 1)) (G.2.1 (F a 2)) (G.2.1 (F a 3)) (Int.toNat (((G.1 a 4).toInt))), (vw (G.2.1 (F p0 0)))).1)
    (e5 : x5.toInt = (((G.1 a 4).toInt) - (1 : Int)))
    (hs47 : G.2.2.1 (F p1 0) ((aI (G.2.1 (F a 2)) (((G.1 a 4).toInt) - 1))).toNat = some q47)
    (oq92 : (vw (G92.2.1 (F p0 0))) = repl (vw (G.2.1 (F p0 0))) ((G.1 q47 2).toInt) ((G.1 q47 3).toInt) (aI (G.2.1 (F a 1)) (((G.1 a 4).toInt) - 1)) (-1000 : Int) 30)
    (e155 : x155.toInt = ((aI (G.2.1 (F a 2)) (((G.1 a 4).toInt) - 1)) + (1 : Int)))
    (e0 : 1 ≤ ((G.1 a 4).toInt) ∧ ((G.1 a 4).toInt) ≤ 90)
    (z0 : ((0 ≤ (aI (G.2.1 (F a 0)) (((G.1 a 4).toInt) - 1)) ∧ (aI (G.2.1 (F a 0)) (((G.1 a 4).toInt) - 1)) < 3) ∧ (0 ≤ (aI (G.2.1 (F a 1)) (((G.1 a 4).toInt) - 1)) ∧ (aI (G.2.1 (F a 1)) (((G.1 a 4).toInt) - 1)) < 30) ∧ (0 ≤ (aI (G.2.1 (F a 2)) (((G.1 a 4).toInt) - 1)) ∧ (aI (G.2.1 (F a 2)) (((G.1 a 4).toInt) - 1)) ≤ 12) ∧ (0 ≤ (aI (G.2.1 (F a 3)) (((G.1 a 4).toInt) - 1)) ∧ (aI (G.2.1 (F a 3)) (((G.1 a 4).toInt) - 1)) ≤ 30)) ∧ ((G.1 a 4).toInt) + (pn (vw (G.2.1 (F p0 0)))) ≤ 90)
    (c8 : ¬ ((((G.1 a 4).toInt) - (1 : Int)) < 0))
    (c14 : (((G.1 a 4).toInt) - (1 : Int)) < (90 : Int))
    (c26 : (aI (G.2.1 (F a 2)) (((G.1 a 4).toInt) - 1)) < (12 : Int))
    (ht47 : 0 ≤ (aI (G.2.1 (F a 2)) (((G.1 a 4).toInt) - 1)) ∧ (aI (G.2.1 (F a 2)) (((G.1 a 4).toInt) - 1)) < 12)
    (t65 : ((((G.1 q47 0).toInt) = 1 ∧ ((G.1 q47 4).toInt) = (aI (G.2.1 (F a 0)) (((G.1 a 4).toInt) - 1)) ∧ ((G.1 q47 7).toInt) ≠ 0) ∧ x65.toInt = 1) ∨ (¬ (((G.1 q47 0).toInt) = 1 ∧ ((G.1 q47 4).toInt) = (aI (G.2.1 (F a 0)) (((G.1 a 4).toInt) - 1)) ∧ ((G.1 q47 7).toInt) ≠ 0) ∧ x65.toInt = 0))
    (c68 : ¬ (x65.toInt = 0))
    (z71 : (0 ≤ ((G.1 q47 2).toInt) ∧ ((G.1 q47 2).toInt) ≤ 2) ∧ (0 ≤ ((G.1 q47 3).toInt) ∧ ((G.1 q47 3).toInt) ≤ 2))
    (c77 : ¬ (((G.1 q47 7).toInt) ≠ (2 : Int)))
    (c_G156_F_a_3 : G156.2.1 (F a 3) = G.2.1 (F a 3))
    (c_G163_F_a_0 : G163.2.1 (F a 0) = G.2.1 (F a 0))
    (c_G163_F_a_1 : G163.2.1 (F a 1) = G.2.1 (F a 1))
    (c_G163_F_a_2 : G163.2.1 (F a 2) = G156.2.1 (F a 2))
    (c_G163_F_p0_0 : G163.2.1 (F p0 0) = G92.2.1 (F p0 0))
    (c_G92_F_a_2 : G92.2.1 (F a 2) = G.2.1 (F a 2))
    (d_G163_a_4 : G163.1 a 4 = G.1 a 4) :
    CGo (clsA G (G.2.2.1 (F p1 0))) (clsT G (G.2.2.1 (F p1 0))) (clsC G (G.2.2.1 (F p1 0))) (gst (G.2.1 (F a 0)) (G.2.1 (F a 1)) (G.2.1 (F a 2)) (G.2.1 (F a 3)) (Int.toNat (((G.1 a 4).toInt))), (vw (G.2.1 (F p0 0)))) (gst (G163.2.1 (F a 0)) (G163.2.1 (F a 1)) (G163.2.1 (F a 2)) (G163.2.1 (F a 3)) (Int.toNat (((G163.1 a 4).toInt))), (vw (G163.2.1 (F p0 0)))) := by
  have t9 := gst_p (a := G.2.1 (F a 0)) (b := G.2.1 (F a 1)) (c := G.2.1 (F a 2)) (d := G.2.1 (F a 3)) (n := (G.1 a 4).toInt) (by omega)
  rw [t9] at hiv hcz ⊢
  have hq : G.2.2.1 (F p1 0) ((aI (G.2.1 (F a 2)) ((G.1 a 4).toInt - 1))).toNat = some q47 := hs47
  have as := clsA_s (G := G) (t := (aI (G.2.1 (F a 0)) ((G.1 a 4).toInt - 1))) hq
  have ac := hac ((aI (G.2.1 (F a 2)) ((G.1 a 4).toInt - 1))).toNat q47 (by omega) hq
  have ts := clsT_s (G := G) hq ⟨by omega, by omega, by omega⟩
  rw [if_pos (by omega)] at as
  have st := cgo_cl (clsTo bkn) hiv hcz (by omega) (by omega)
  rw [ts.1, ts.2, ← oq92] at st
  rw [d_G163_a_4, c_G163_F_a_0, c_G163_F_a_1, c_G163_F_a_2, gst_u (n := (G.1 a 4).toInt) (by omega) (aI_pu hG156 c_G92_F_a_2 e5 e155 (by omega)) (aI_pu hG163 c_G156_F_a_3 e5 (show ((0 : Int32)).toInt = 0 from by decide) (by omega)), c_G163_F_p0_0]
  exact st
theorem v_X2_goOn_164_17 {F : Nat → Nat → Nat} (p0 : Nat) (G : XG) (G92 : XG) (G163 : XG)
    (hro : RO (vw (G.2.1 (F p0 0))) (aI (G.2.1 (F p0 1))))
    (oq92a : RO (vw (G92.2.1 (F p0 0))) (aI (G92.2.1 (F p0 1))))
    (c_G163_F_p0_0 : G163.2.1 (F p0 0) = G92.2.1 (F p0 0))
    (c_G163_F_p0_1 : G163.2.1 (F p0 1) = G92.2.1 (F p0 1)) :
    RO (vw (G163.2.1 (F p0 0))) (aI (G163.2.1 (F p0 1))) := by
  rw [c_G163_F_p0_0, c_G163_F_p0_1]
  first | exact oq92a | exact hro
theorem v_X2_goOn_39_18 {K : Nat → Nat} {F : Nat → Nat → Nat} (a : Nat) (p0 : Nat) (p1 : Nat) (G36 : XG) (G : XG) (x35 : Int32)
    (ha : K a = 4)
    (hp0 : K p0 = 8)
    (hp1 : K p1 = 2)
    (bkn : BKr K G (G.2.2.1 (F p1 0)))
    (hiv : CIv (gst (G.2.1 (F a 0)) (G.2.1 (F a 1)) (G.2.1 (F a 2)) (G.2.1 (F a 3)) (Int.toNat (((G.1 a 4).toInt))), (vw (G.2.1 (F p0 0)))))
    (hcz : CZ (clsA G (G.2.2.1 (F p1 0))) (gst (G.2.1 (F a 0)) (G.2.1 (F a 1)) (G.2.1 (F a 2)) (G.2.1 (F a 3)) (Int.toNat (((G.1 a 4).toInt))), (vw (G.2.1 (F p0 0)))).1)
    (e35 : x35.toInt = (((G.1 a 4).toInt) - (1 : Int)))
    (e0 : 1 ≤ ((G.1 a 4).toInt) ∧ ((G.1 a 4).toInt) ≤ 90)
    (z0 : ((0 ≤ (aI (G.2.1 (F a 0)) (((G.1 a 4).toInt) - 1)) ∧ (aI (G.2.1 (F a 0)) (((G.1 a 4).toInt) - 1)) < 3) ∧ (0 ≤ (aI (G.2.1 (F a 1)) (((G.1 a 4).toInt) - 1)) ∧ (aI (G.2.1 (F a 1)) (((G.1 a 4).toInt) - 1)) < 30) ∧ (0 ≤ (aI (G.2.1 (F a 2)) (((G.1 a 4).toInt) - 1)) ∧ (aI (G.2.1 (F a 2)) (((G.1 a 4).toInt) - 1)) ≤ 12) ∧ (0 ≤ (aI (G.2.1 (F a 3)) (((G.1 a 4).toInt) - 1)) ∧ (aI (G.2.1 (F a 3)) (((G.1 a 4).toInt) - 1)) ≤ 30)) ∧ ((G.1 a 4).toInt) + (pn (vw (G.2.1 (F p0 0)))) ≤ 90)
    (c8 : ¬ ((((G.1 a 4).toInt) - (1 : Int)) < 0))
    (c14 : (((G.1 a 4).toInt) - (1 : Int)) < (90 : Int))
    (c26 : ¬ ((aI (G.2.1 (F a 2)) (((G.1 a 4).toInt) - 1)) < (12 : Int)))
    (c_G36_F_a_0 : G36.2.1 (F a 0) = G.2.1 (F a 0))
    (c_G36_F_a_1 : G36.2.1 (F a 1) = G.2.1 (F a 1))
    (c_G36_F_a_2 : G36.2.1 (F a 2) = G.2.1 (F a 2))
    (c_G36_F_a_3 : G36.2.1 (F a 3) = G.2.1 (F a 3))
    (c_G36_F_p0_0 : G36.2.1 (F p0 0) = G.2.1 (F p0 0))
    (d_G36_a_4 : G36.1 a 4 = x35) :
    CGo (clsA G (G.2.2.1 (F p1 0))) (clsT G (G.2.2.1 (F p1 0))) (clsC G (G.2.2.1 (F p1 0))) (gst (G.2.1 (F a 0)) (G.2.1 (F a 1)) (G.2.1 (F a 2)) (G.2.1 (F a 3)) (Int.toNat (((G.1 a 4).toInt))), (vw (G.2.1 (F p0 0)))) (gst (G36.2.1 (F a 0)) (G36.2.1 (F a 1)) (G36.2.1 (F a 2)) (G36.2.1 (F a 3)) (Int.toNat (((G36.1 a 4).toInt))), (vw (G36.2.1 (F p0 0)))) := by
  have t9 := gst_p (a := G.2.1 (F a 0)) (b := G.2.1 (F a 1)) (c := G.2.1 (F a 2)) (d := G.2.1 (F a 3)) (n := (G.1 a 4).toInt) (by omega)
  rw [t9] at hiv hcz ⊢
  rw [d_G36_a_4, e35, c_G36_F_a_0, c_G36_F_a_1, c_G36_F_a_2, c_G36_F_a_3, c_G36_F_p0_0]
  exact cgo_pop (clsTo bkn) hiv hcz (by omega)
theorem v_X2_goOn_39_19 {F : Nat → Nat → Nat} (p0 : Nat) (G36 : XG) (G : XG)
    (hro : RO (vw (G.2.1 (F p0 0))) (aI (G.2.1 (F p0 1))))
    (c_G36_F_p0_0 : G36.2.1 (F p0 0) = G.2.1 (F p0 0))
    (c_G36_F_p0_1 : G36.2.1 (F p0 1) = G.2.1 (F p0 1)) :
    RO (vw (G36.2.1 (F p0 0))) (aI (G36.2.1 (F p0 1))) := by
  rw [c_G36_F_p0_0, c_G36_F_p0_1]; exact hro
theorem v_X2_goOn_17_20 {K : Nat → Nat} {F : Nat → Nat → Nat} (a : Nat) (p0 : Nat) (p1 : Nat) (G : XG)
    (ha : K a = 4)
    (hp0 : K p0 = 8)
    (hp1 : K p1 = 2)
    (hcz : CZ (clsA G (G.2.2.1 (F p1 0))) (gst (G.2.1 (F a 0)) (G.2.1 (F a 1)) (G.2.1 (F a 2)) (G.2.1 (F a 3)) (Int.toNat (((G.1 a 4).toInt))), (vw (G.2.1 (F p0 0)))).1)
    (e0 : 1 ≤ ((G.1 a 4).toInt) ∧ ((G.1 a 4).toInt) ≤ 90)
    (z0 : ((0 ≤ (aI (G.2.1 (F a 0)) (((G.1 a 4).toInt) - 1)) ∧ (aI (G.2.1 (F a 0)) (((G.1 a 4).toInt) - 1)) < 3) ∧ (0 ≤ (aI (G.2.1 (F a 1)) (((G.1 a 4).toInt) - 1)) ∧ (aI (G.2.1 (F a 1)) (((G.1 a 4).toInt) - 1)) < 30) ∧ (0 ≤ (aI (G.2.1 (F a 2)) (((G.1 a 4).toInt) - 1)) ∧ (aI (G.2.1 (F a 2)) (((G.1 a 4).toInt) - 1)) ≤ 12) ∧ (0 ≤ (aI (G.2.1 (F a 3)) (((G.1 a 4).toInt) - 1)) ∧ (aI (G.2.1 (F a 3)) (((G.1 a 4).toInt) - 1)) ≤ 30)) ∧ ((G.1 a 4).toInt) + (pn (vw (G.2.1 (F p0 0)))) ≤ 90)
    (c8 : ¬ ((((G.1 a 4).toInt) - (1 : Int)) < 0))
    (c14 : ¬ ((((G.1 a 4).toInt) - (1 : Int)) < (90 : Int))) :
    CGo (clsA G (G.2.2.1 (F p1 0))) (clsT G (G.2.2.1 (F p1 0))) (clsC G (G.2.2.1 (F p1 0))) (gst (G.2.1 (F a 0)) (G.2.1 (F a 1)) (G.2.1 (F a 2)) (G.2.1 (F a 3)) (Int.toNat (((G.1 a 4).toInt))), (vw (G.2.1 (F p0 0)))) (gst (G.2.1 (F a 0)) (G.2.1 (F a 1)) (G.2.1 (F a 2)) (G.2.1 (F a 3)) (Int.toNat (((G.1 a 4).toInt))), (vw (G.2.1 (F p0 0)))) := by
  exfalso; omega
theorem v_X2_goOn_17_21 {K : Nat → Nat} {F : Nat → Nat → Nat} (a : Nat) (p0 : Nat) (p1 : Nat) (G : XG)
    (ha : K a = 4)
    (hp0 : K p0 = 8)
    (hp1 : K p1 = 2)
    (hcz : CZ (clsA G (G.2.2.1 (F p1 0))) (gst (G.2.1 (F a 0)) (G.2.1 (F a 1)) (G.2.1 (F a 2)) (G.2.1 (F a 3)) (Int.toNat (((G.1 a 4).toInt))), (vw (G.2.1 (F p0 0)))).1)
    (e0 : 1 ≤ ((G.1 a 4).toInt) ∧ ((G.1 a 4).toInt) ≤ 90)
    (z0 : ((0 ≤ (aI (G.2.1 (F a 0)) (((G.1 a 4).toInt) - 1)) ∧ (aI (G.2.1 (F a 0)) (((G.1 a 4).toInt) - 1)) < 3) ∧ (0 ≤ (aI (G.2.1 (F a 1)) (((G.1 a 4).toInt) - 1)) ∧ (aI (G.2.1 (F a 1)) (((G.1 a 4).toInt) - 1)) < 30) ∧ (0 ≤ (aI (G.2.1 (F a 2)) (((G.1 a 4).toInt) - 1)) ∧ (aI (G.2.1 (F a 2)) (((G.1 a 4).toInt) - 1)) ≤ 12) ∧ (0 ≤ (aI (G.2.1 (F a 3)) (((G.1 a 4).toInt) - 1)) ∧ (aI (G.2.1 (F a 3)) (((G.1 a 4).toInt) - 1)) ≤ 30)) ∧ ((G.1 a 4).toInt) + (pn (vw (G.2.1 (F p0 0)))) ≤ 90)
    (c8 : ¬ ((((G.1 a 4).toInt) - (1 : Int)) < 0))
    (c14 : ¬ ((((G.1 a 4).toInt) - (1 : Int)) < (90 : Int))) :
    RO (vw (G.2.1 (F p0 0))) (aI (G.2.1 (F p0 1))) := by
  exfalso; omega
theorem v_X2_cutRow_10_1 {F : Nat → Nat → Nat} (p0 : Nat) (G : XG) (G2 : XG)
    (hro : RO (vw (G.2.1 (F p0 0))) (aI (G.2.1 (F p0 1))))
    (c_G2_F_p0_0 : G2.2.1 (F p0 0) = G.2.1 (F p0 0))
    (c_G2_F_p0_1 : G2.2.1 (F p0 1) = G.2.1 (F p0 1)) :
    RO (vw (G2.2.1 (F p0 0))) (aI (G2.2.1 (F p0 1))) := by simp only [c_G2_F_p0_0, c_G2_F_p0_1]; assumption
theorem v_X2_cutRow_13_2 {K : Nat → Nat} {F : Nat → Nat → Nat} (a : Nat) (p0 : Nat) (p1 : Nat) (G : XG) (G10 : XG) (G2 : XG) (p2 : Int32) (p3 : Int32)
    (ha : K a = 4)
    (hp0 : K p0 = 8)
    (hp1 : K p1 = 2)
    (hro : RO (vw (G.2.1 (F p0 0))) (aI (G.2.1 (F p0 1))))
    (oq10 : ∀ z : Int, 0 ≤ z → aI (G10.2.1 (F a 0)) z = if z = ((G2.1 a 4).toInt) then p2.toInt else aI (G.2.1 (F a 0)) z)
    (oq10a : ∀ z : Int, 0 ≤ z → aI (G10.2.1 (F a 1)) z = if z = ((G2.1 a 4).toInt) then p3.toInt else aI (G.2.1 (F a 1)) z)
    (oq10b : ∀ z : Int, 0 ≤ z → aI (G10.2.1 (F a 2)) z = if z = ((G2.1 a 4).toInt) then 0 else aI (G.2.1 (F a 2)) z)
    (oq10c : ∀ z : Int, 0 ≤ z → aI (G10.2.1 (F a 3)) z = if z = ((G2.1 a 4).toInt) then 0 else aI (G.2.1 (F a 3)) z)
    (oq10d : (vw (G10.2.1 (F p0 0))) = rfil (vw (G.2.1 (F p0 0))) p2.toInt p3.toInt (-2000) 3)
    (e1 : 0 ≤ p2.toInt ∧ p2.toInt < 3 ∧ 0 ≤ p3.toInt ∧ p3.toInt < 30)
    (e3 : (cel (vw (G.2.1 (F p0 0))) (p2.toInt) (p3.toInt) 0) ≠ -2000)
    (t10 : ((G10.1 a 4).toInt) = (0 : Int) + 1)
    (d_G2_a_4 : G2.1 a 4 = 0) :
    (cnv (gst (G10.2.1 (F a 0)) (G10.2.1 (F a 1)) (G10.2.1 (F a 2)) (G10.2.1 (F a 3)) (Int.toNat ((G10.1 a 4).toInt)), (vw (G10.2.1 (F p0 0))))) ≤ 1259 := by
  have e4 : (G10.1 a 4).toInt = 0 + 1 := by omega
  have z4 : (G2.1 a 4).toInt = 0 := by rw [d_G2_a_4]; decide
  rw [z4] at oq10 oq10a oq10b oq10c
  have e := gst_g (n := 0) (by decide) oq10 oq10a oq10b oq10c
  have hb := (civ_0 hro.rc (t := p2.toInt) (k := p3.toInt) (by omega) e3).2
  rw [← oq10d] at hb
  rw [e4, e]
  show 14 * pn (vw (G10.2.1 (F p0 0))) + (13 - 0 + 0) ≤ 1259
  omega
theorem v_X2_cutRow_43_3 {K : Nat → Nat} {F : Nat → Nat → Nat} (a : Nat) (p0 : Nat) (p1 : Nat) (G : XG) (G_16 : XG) (G10 : XG) (p2 : Int32) (p3 : Int32) (l5_16 : Int32) (N16 : Nat)
    (ha : K a = 4)
    (hp0 : K p0 = 8)
    (hp1 : K p1 = 2)
    (cz : CZ (clsA G (G.2.2.1 (F p1 0))) (gst (G_16.2.1 (F a 0)) (G_16.2.1 (F a 1)) (G_16.2.1 (F a 2)) (G_16.2.1 (F a 3)) (Int.toNat (((G_16.1 a 4).toInt))), (vw (G_16.2.1 (F p0 0)))).1)
    (fi : cfin (clsA G (G.2.2.1 (F p1 0))) (clsT G (G.2.2.1 (F p1 0))) (clsC G (G.2.2.1 (F p1 0))) (gst (G_16.2.1 (F a 0)) (G_16.2.1 (F a 1)) (G_16.2.1 (F a 2)) (G_16.2.1 (F a 3)) (Int.toNat (((G_16.1 a 4).toInt))), (vw (G_16.2.1 (F p0 0)))) = cfin (clsA G (G.2.2.1 (F p1 0))) (clsT G (G.2.2.1 (F p1 0))) (clsC G (G.2.2.1 (F p1 0))) ([(p2.toInt, p3.toInt, 0, 0)], rfil (vw (G.2.1 (F p0 0))) p2.toInt p3.toInt (-2000) 3))
    (e1 : 0 ≤ p2.toInt ∧ p2.toInt < 3 ∧ 0 ≤ p3.toInt ∧ p3.toInt < 30)
    (e3 : (cel (vw (G.2.1 (F p0 0))) (p2.toInt) (p3.toInt) 0) ≠ -2000)
    (t10 : ((G10.1 a 4).toInt) = (0 : Int) + 1)
    (en13 : (cnv (gst (G10.2.1 (F a 0)) (G10.2.1 (F a 1)) (G10.2.1 (F a 2)) (G10.2.1 (F a 3)) (Int.toNat ((G10.1 a 4).toInt)), (vw (G10.2.1 (F p0 0))))) ≤ 1259)
    (I16_0 : 0 ≤ l5_16.toInt ∧ l5_16.toInt ≤ 1260)
    (I16_1 : 0 ≤ ((G_16.1 a 4).toInt) ∧ ((G_16.1 a 4).toInt) ≤ 90)
    (I16_2 : l5_16.toInt + (cnv (gst (G_16.2.1 (F a 0)) (G_16.2.1 (F a 1)) (G_16.2.1 (F a 2)) (G_16.2.1 (F a 3)) (Int.toNat ((G_16.1 a 4).toInt)), (vw (G_16.2.1 (F p0 0))))) ≤ 1259)
    (I16_3 : (0 : Int) ≤ l5_16.toInt)
    (hm16 : 2147483648 - l5_16.toInt < (((N16) + 1 : Nat) : Int))
    (c21 : (1260 : Int) ≤ l5_16.toInt)
    (z43 : 0 ≤ (cnv (gst (G_16.2.1 (F a 0)) (G_16.2.1 (F a 1)) (G_16.2.1 (F a 2)) (G_16.2.1 (F a 3)) (Int.toNat ((G_16.1 a 4).toInt)), (vw (G_16.2.1 (F p0 0)))))) :
    (vw (G_16.2.1 (F p0 0))) = cfin (clsA G (G.2.2.1 (F p1 0))) (clsT G (G.2.2.1 (F p1 0))) (clsC G (G.2.2.1 (F p1 0))) ([(p2.toInt, p3.toInt, 0, 0)], rfil (vw (G.2.1 (F p0 0))) p2.toInt p3.toInt (-2000) 3) := by
  first
    | (exfalso; omega)
    | (rw [show (G_16.1 a 4).toInt = 0 from by omega] at fi
       exact (cfin_e _ _ _ _).symm.trans fi)
theorem v_X2_cutRow_43_4 {F : Nat → Nat → Nat} (p0 : Nat) (G_16 : XG)
    (ro : RO (vw (G_16.2.1 (F p0 0))) (aI (G_16.2.1 (F p0 1)))) :
    RO (vw (G_16.2.1 (F p0 0))) (aI (G_16.2.1 (F p0 1))) := by
  exact ro
theorem v_X2_cutRow_43_5 {K : Nat → Nat} {F : Nat → Nat → Nat} (a : Nat) (p0 : Nat) (p1 : Nat) (G : XG) (G_16 : XG) (G10 : XG) (p2 : Int32) (p3 : Int32) (l5_16 : Int32) (N16 : Nat)
    (ha : K a = 4)
    (hp0 : K p0 = 8)
    (hp1 : K p1 = 2)
    (cz : CZ (clsA G (G.2.2.1 (F p1 0))) (gst (G_16.2.1 (F a 0)) (G_16.2.1 (F a 1)) (G_16.2.1 (F a 2)) (G_16.2.1 (F a 3)) (Int.toNat (((G_16.1 a 4).toInt))), (vw (G_16.2.1 (F p0 0)))).1)
    (fi : cfin (clsA G (G.2.2.1 (F p1 0))) (clsT G (G.2.2.1 (F p1 0))) (clsC G (G.2.2.1 (F p1 0))) (gst (G_16.2.1 (F a 0)) (G_16.2.1 (F a 1)) (G_16.2.1 (F a 2)) (G_16.2.1 (F a 3)) (Int.toNat (((G_16.1 a 4).toInt))), (vw (G_16.2.1 (F p0 0)))) = cfin (clsA G (G.2.2.1 (F p1 0))) (clsT G (G.2.2.1 (F p1 0))) (clsC G (G.2.2.1 (F p1 0))) ([(p2.toInt, p3.toInt, 0, 0)], rfil (vw (G.2.1 (F p0 0))) p2.toInt p3.toInt (-2000) 3))
    (e1 : 0 ≤ p2.toInt ∧ p2.toInt < 3 ∧ 0 ≤ p3.toInt ∧ p3.toInt < 30)
    (e3 : (cel (vw (G.2.1 (F p0 0))) (p2.toInt) (p3.toInt) 0) ≠ -2000)
    (t10 : ((G10.1 a 4).toInt) = (0 : Int) + 1)
    (en13 : (cnv (gst (G10.2.1 (F a 0)) (G10.2.1 (F a 1)) (G10.2.1 (F a 2)) (G10.2.1 (F a 3)) (Int.toNat ((G10.1 a 4).toInt)), (vw (G10.2.1 (F p0 0))))) ≤ 1259)
    (I16_0 : 0 ≤ l5_16.toInt ∧ l5_16.toInt ≤ 1260)
    (I16_1 : 0 ≤ ((G_16.1 a 4).toInt) ∧ ((G_16.1 a 4).toInt) ≤ 90)
    (I16_2 : l5_16.toInt + (cnv (gst (G_16.2.1 (F a 0)) (G_16.2.1 (F a 1)) (G_16.2.1 (F a 2)) (G_16.2.1 (F a 3)) (Int.toNat ((G_16.1 a 4).toInt)), (vw (G_16.2.1 (F p0 0))))) ≤ 1259)
    (I16_3 : (0 : Int) ≤ l5_16.toInt)
    (hm16 : 2147483648 - l5_16.toInt < (((N16) + 1 : Nat) : Int))
    (c21 : ¬ ((1260 : Int) ≤ l5_16.toInt))
    (c28 : ((G_16.1 a 4).toInt) ≤ 0)
    (z43 : 0 ≤ (cnv (gst (G_16.2.1 (F a 0)) (G_16.2.1 (F a 1)) (G_16.2.1 (F a 2)) (G_16.2.1 (F a 3)) (Int.toNat ((G_16.1 a 4).toInt)), (vw (G_16.2.1 (F p0 0)))))) :
    (vw (G_16.2.1 (F p0 0))) = cfin (clsA G (G.2.2.1 (F p1 0))) (clsT G (G.2.2.1 (F p1 0))) (clsC G (G.2.2.1 (F p1 0))) ([(p2.toInt, p3.toInt, 0, 0)], rfil (vw (G.2.1 (F p0 0))) p2.toInt p3.toInt (-2000) 3) := by
  first
    | (exfalso; omega)
    | (rw [show (G_16.1 a 4).toInt = 0 from by omega] at fi
       exact (cfin_e _ _ _ _).symm.trans fi)
theorem v_X2_cutRow_43_6 {F : Nat → Nat → Nat} (p0 : Nat) (G_16 : XG)
    (ro : RO (vw (G_16.2.1 (F p0 0))) (aI (G_16.2.1 (F p0 1)))) :
    RO (vw (G_16.2.1 (F p0 0))) (aI (G_16.2.1 (F p0 1))) := by
  exact ro
theorem v_X2_cutRow_34_7 {F : Nat → Nat → Nat} (p0 : Nat) (G_16 : XG)
    (ro : RO (vw (G_16.2.1 (F p0 0))) (aI (G_16.2.1 (F p0 1)))) :
    RO (vw (G_16.2.1 (F p0 0))) (aI (G_16.2.1 (F p0 1))) := by exact ro
theorem v_X2_cutRow_34_8 {K : Nat → Nat} {F : Nat → Nat → Nat} (a : Nat) (p0 : Nat) (p1 : Nat) (G : XG) (G_16 : XG) (G10 : XG) (p2 : Int32) (p3 : Int32) (l5_16 : Int32) (N16 : Nat)
    (ha : K a = 4)
    (hp0 : K p0 = 8)
    (hp1 : K p1 = 2)
    (hk9999 : K (F a 0) = 24)
    (hj9999 : F (F a 0) 99 = 0)
    (hk9999a : K (F a 1) = 24)
    (hj9999a : F (F a 1) 99 = 1)
    (hk9999b : K (F a 2) = 24)
    (hj9999b : F (F a 2) 99 = 2)
    (hk9999c : K (F a 3) = 24)
    (hj9999c : F (F a 3) 99 = 3)
    (hk9999d : K (F p0 0) = 20)
    (hj9999d : F (F p0 0) 99 = F p0 99)
    (hk9999e : K (F p0 1) = 21)
    (hj9999e : F (F p0 1) 99 = F p0 99)
    (hk9999f : K (F p1 0) = 15)
    (hj9999f : F (F p1 0) 99 = 0)
    (hfr : XFr [(a, 4)] [F a 0, F a 1, F a 2, F a 3, F p0 0, F p0 1] [] G G_16)
    (bkn : BKr K G (G.2.2.1 (F p1 0)))
    (cz : CZ (clsA G (G.2.2.1 (F p1 0))) (gst (G_16.2.1 (F a 0)) (G_16.2.1 (F a 1)) (G_16.2.1 (F a 2)) (G_16.2.1 (F a 3)) (Int.toNat (((G_16.1 a 4).toInt))), (vw (G_16.2.1 (F p0 0)))).1)
    (e1 : 0 ≤ p2.toInt ∧ p2.toInt < 3 ∧ 0 ≤ p3.toInt ∧ p3.toInt < 30)
    (e3 : (cel (vw (G.2.1 (F p0 0))) (p2.toInt) (p3.toInt) 0) ≠ -2000)
    (t10 : ((G10.1 a 4).toInt) = (0 : Int) + 1)
    (en13 : (cnv (gst (G10.2.1 (F a 0)) (G10.2.1 (F a 1)) (G10.2.1 (F a 2)) (G10.2.1 (F a 3)) (Int.toNat ((G10.1 a 4).toInt)), (vw (G10.2.1 (F p0 0))))) ≤ 1259)
    (I16_0 : 0 ≤ l5_16.toInt ∧ l5_16.toInt ≤ 1260)
    (I16_1 : 0 ≤ ((G_16.1 a 4).toInt) ∧ ((G_16.1 a 4).toInt) ≤ 90)
    (I16_2 : l5_16.toInt + (cnv (gst (G_16.2.1 (F a 0)) (G_16.2.1 (F a 1)) (G_16.2.1 (F a 2)) (G_16.2.1 (F a 3)) (Int.toNat ((G_16.1 a 4).toInt)), (vw (G_16.2.1 (F p0 0))))) ≤ 1259)
    (I16_3 : (0 : Int) ≤ l5_16.toInt)
    (hm16 : 2147483648 - l5_16.toInt < (((N16) + 1 : Nat) : Int))
    (c21 : ¬ ((1260 : Int) ≤ l5_16.toInt))
    (c28 : ¬ (((G_16.1 a 4).toInt) ≤ 0))
    (r_G_16_F_p1_0 : G_16.2.2.1 (F p1 0) = G.2.2.1 (F p1 0)) :
    BKr K G_16 (G_16.2.2.1 (F p1 0)) := by
  have hd : ∀ p, p ∈ [(a, 4)] → K p.1 ≠ 9 := (List.forall_mem_cons.mpr ⟨(show K a ≠ 9 by omega), fun _ h => by cases h⟩)
  have hc : ∀ (i q : Nat), i < 12 → G.2.2.1 (F p1 0) i = some q → G_16.1 q = G.1 q := fun i q hi hq => hfr.rule hd (bkn i q hi hq).1
  rw [r_G_16_F_p1_0]
  exact bkn.cg hc
theorem v_X2_cutRow_34_9 {K : Nat → Nat} {F : Nat → Nat → Nat} (a : Nat) (p0 : Nat) (p1 : Nat) (G : XG) (G_16 : XG) (G10 : XG) (p2 : Int32) (p3 : Int32) (l5_16 : Int32) (N16 : Nat)
    (ha : K a = 4)
    (hp0 : K p0 = 8)
    (hp1 : K p1 = 2)
    (hk9999 : K (F a 0) = 24)
    (hj9999 : F (F a 0) 99 = 0)
    (hk9999a : K (F a 1) = 24)
    (hj9999a : F (F a 1) 99 = 1)
    (hk9999b : K (F a 2) = 24)
    (hj9999b : F (F a 2) 99 = 2)
    (hk9999c : K (F a 3) = 24)
    (hj9999c : F (F a 3) 99 = 3)
    (hk9999d : K (F p0 0) = 20)
    (hj9999d : F (F p0 0) 99 = F p0 99)
    (hk9999e : K (F p0 1) = 21)
    (hj9999e : F (F p0 1) 99 = F p0 99)
    (hk9999f : K (F p1 0) = 15)
    (hj9999f : F (F p1 0) 99 = 0)
    (hfr : XFr [(a, 4)] [F a 0, F a 1, F a 2, F a 3, F p0 0, F p0 1] [] G G_16)
    (bkn : BKr K G (G.2.2.1 (F p1 0)))
    (hac : ACo G (G.2.2.1 (F p1 0)))
    (cz : CZ (clsA G (G.2.2.1 (F p1 0))) (gst (G_16.2.1 (F a 0)) (G_16.2.1 (F a 1)) (G_16.2.1 (F a 2)) (G_16.2.1 (F a 3)) (Int.toNat (((G_16.1 a 4).toInt))), (vw (G_16.2.1 (F p0 0)))).1)
    (e1 : 0 ≤ p2.toInt ∧ p2.toInt < 3 ∧ 0 ≤ p3.toInt ∧ p3.toInt < 30)
    (e3 : (cel (vw (G.2.1 (F p0 0))) (p2.toInt) (p3.toInt) 0) ≠ -2000)
    (t10 : ((G10.1 a 4).toInt) = (0 : Int) + 1)
    (en13 : (cnv (gst (G10.2.1 (F a 0)) (G10.2.1 (F a 1)) (G10.2.1 (F a 2)) (G10.2.1 (F a 3)) (Int.toNat ((G10.1 a 4).toInt)), (vw (G10.2.1 (F p0 0))))) ≤ 1259)
    (I16_0 : 0 ≤ l5_16.toInt ∧ l5_16.toInt ≤ 1260)
    (I16_1 : 0 ≤ ((G_16.1 a 4).toInt) ∧ ((G_16.1 a 4).toInt) ≤ 90)
    (I16_2 : l5_16.toInt + (cnv (gst (G_16.2.1 (F a 0)) (G_16.2.1 (F a 1)) (G_16.2.1 (F a 2)) (G_16.2.1 (F a 3)) (Int.toNat ((G_16.1 a 4).toInt)), (vw (G_16.2.1 (F p0 0))))) ≤ 1259)
    (I16_3 : (0 : Int) ≤ l5_16.toInt)
    (hm16 : 2147483648 - l5_16.toInt < (((N16) + 1 : Nat) : Int))
    (c21 : ¬ ((1260 : Int) ≤ l5_16.toInt))
    (c28 : ¬ (((G_16.1 a 4).toInt) ≤ 0))
    (r_G_16_F_p1_0 : G_16.2.2.1 (F p1 0) = G.2.2.1 (F p1 0)) :
    ACo G_16 (G_16.2.2.1 (F p1 0)) := by
  have hd : ∀ p, p ∈ [(a, 4)] → K p.1 ≠ 9 := (List.forall_mem_cons.mpr ⟨(show K a ≠ 9 by omega), fun _ h => by cases h⟩)
  have hc : ∀ (i q : Nat), i < 12 → G.2.2.1 (F p1 0) i = some q → G_16.1 q = G.1 q := fun i q hi hq => hfr.rule hd (bkn i q hi hq).1
  rw [r_G_16_F_p1_0]
  exact hac.cg hc
theorem v_X2_cutRow_34_10 {F : Nat → Nat → Nat} (a : Nat) (p0 : Nat) (G_16 : XG)
    (iv : CIv (gst (G_16.2.1 (F a 0)) (G_16.2.1 (F a 1)) (G_16.2.1 (F a 2)) (G_16.2.1 (F a 3)) (Int.toNat (((G_16.1 a 4).toInt))), (vw (G_16.2.1 (F p0 0))))) :
    CIv (gst (G_16.2.1 (F a 0)) (G_16.2.1 (F a 1)) (G_16.2.1 (F a 2)) (G_16.2.1 (F a 3)) (Int.toNat (((G_16.1 a 4).toInt))), (vw (G_16.2.1 (F p0 0)))) := by
  exact iv
theorem v_X2_cutRow_34_11 {K : Nat → Nat} {F : Nat → Nat → Nat} (a : Nat) (p0 : Nat) (p1 : Nat) (G : XG) (G_16 : XG) (G10 : XG) (p2 : Int32) (p3 : Int32) (l5_16 : Int32) (N16 : Nat)
    (ha : K a = 4)
    (hp0 : K p0 = 8)
    (hp1 : K p1 = 2)
    (hk9999 : K (F a 0) = 24)
    (hj9999 : F (F a 0) 99 = 0)
    (hk9999a : K (F a 1) = 24)
    (hj9999a : F (F a 1) 99 = 1)
    (hk9999b : K (F a 2) = 24)
    (hj9999b : F (F a 2) 99 = 2)
    (hk9999c : K (F a 3) = 24)
    (hj9999c : F (F a 3) 99 = 3)
    (hk9999d : K (F p0 0) = 20)
    (hj9999d : F (F p0 0) 99 = F p0 99)
    (hk9999e : K (F p0 1) = 21)
    (hj9999e : F (F p0 1) 99 = F p0 99)
    (hk9999f : K (F p1 0) = 15)
    (hj9999f : F (F p1 0) 99 = 0)
    (hfr : XFr [(a, 4)] [F a 0, F a 1, F a 2, F a 3, F p0 0, F p0 1] [] G G_16)
    (bkn : BKr K G (G.2.2.1 (F p1 0)))
    (cz : CZ (clsA G (G.2.2.1 (F p1 0))) (gst (G_16.2.1 (F a 0)) (G_16.2.1 (F a 1)) (G_16.2.1 (F a 2)) (G_16.2.1 (F a 3)) (Int.toNat (((G_16.1 a 4).toInt))), (vw (G_16.2.1 (F p0 0)))).1)
    (e1 : 0 ≤ p2.toInt ∧ p2.toInt < 3 ∧ 0 ≤ p3.toInt ∧ p3.toInt < 30)
    (e3 : (cel (vw (G.2.1 (F p0 0))) (p2.toInt) (p3.toInt) 0) ≠ -2000)
    (t10 : ((G10.1 a 4).toInt) = (0 : Int) + 1)
    (en13 : (cnv (gst (G10.2.1 (F a 0)) (G10.2.1 (F a 1)) (G10.2.1 (F a 2)) (G10.2.1 (F a 3)) (Int.toNat ((G10.1 a 4).toInt)), (vw (G10.2.1 (F p0 0))))) ≤ 1259)
    (I16_0 : 0 ≤ l5_16.toInt ∧ l5_16.toInt ≤ 1260)
    (I16_1 : 0 ≤ ((G_16.1 a 4).toInt) ∧ ((G_16.1 a 4).toInt) ≤ 90)
    (I16_2 : l5_16.toInt + (cnv (gst (G_16.2.1 (F a 0)) (G_16.2.1 (F a 1)) (G_16.2.1 (F a 2)) (G_16.2.1 (F a 3)) (Int.toNat ((G_16.1 a 4).toInt)), (vw (G_16.2.1 (F p0 0))))) ≤ 1259)
    (I16_3 : (0 : Int) ≤ l5_16.toInt)
    (hm16 : 2147483648 - l5_16.toInt < (((N16) + 1 : Nat) : Int))
    (c21 : ¬ ((1260 : Int) ≤ l5_16.toInt))
    (c28 : ¬ (((G_16.1 a 4).toInt) ≤ 0))
    (r_G_16_F_p1_0 : G_16.2.2.1 (F p1 0) = G.2.2.1 (F p1 0)) :
    CZ (clsA G_16 (G_16.2.2.1 (F p1 0))) (gst (G_16.2.1 (F a 0)) (G_16.2.1 (F a 1)) (G_16.2.1 (F a 2)) (G_16.2.1 (F a 3)) (Int.toNat (((G_16.1 a 4).toInt))), (vw (G_16.2.1 (F p0 0)))).1 := by
  have hd : ∀ p, p ∈ [(a, 4)] → K p.1 ≠ 9 := (List.forall_mem_cons.mpr ⟨(show K a ≠ 9 by omega), fun _ h => by cases h⟩)
  have hc : ∀ (i q : Nat), i < 12 → G.2.2.1 (F p1 0) i = some q → G_16.1 q = G.1 q := fun i q hi hq => hfr.rule hd (bkn i q hi hq).1
  rw [r_G_16_F_p1_0, (cls_cg hc).1]
  exact cz
theorem v_X2_cutRow_40_12 {F : Nat → Nat → Nat} (a : Nat) (p0 : Nat) (p1 : Nat) (G34 : XG) (G_16 : XG)
    (oq34 : CGo (clsA G_16 (G_16.2.2.1 (F p1 0))) (clsT G_16 (G_16.2.2.1 (F p1 0))) (clsC G_16 (G_16.2.2.1 (F p1 0))) (gst (G_16.2.1 (F a 0)) (G_16.2.1 (F a 1)) (G_16.2.1 (F a 2)) (G_16.2.1 (F a 3)) (Int.toNat (((G_16.1 a 4).toInt))), (vw (G_16.2.1 (F p0 0)))) (gst (G34.2.1 (F a 0)) (G34.2.1 (F a 1)) (G34.2.1 (F a 2)) (G34.2.1 (F a 3)) (Int.toNat (((G34.1 a 4).toInt))), (vw (G34.2.1 (F p0 0))))) :
    CIv (gst (G34.2.1 (F a 0)) (G34.2.1 (F a 1)) (G34.2.1 (F a 2)) (G34.2.1 (F a 3)) (Int.toNat (((G34.1 a 4).toInt))), (vw (G34.2.1 (F p0 0)))) := by
  exact oq34.1
theorem v_X2_cutRow_40_13 {K : Nat → Nat} {F : Nat → Nat → Nat} (a : Nat) (p0 : Nat) (p1 : Nat) (G : XG) (G34 : XG) (G10 : XG) (G_16 : XG) (p2 : Int32) (p3 : Int32) (l5_16 : Int32) (N16 : Nat)
    (ha : K a = 4)
    (hp0 : K p0 = 8)
    (hp1 : K p1 = 2)
    (hk9999 : K (F a 0) = 24)
    (hj9999 : F (F a 0) 99 = 0)
    (hk9999a : K (F a 1) = 24)
    (hj9999a : F (F a 1) 99 = 1)
    (hk9999b : K (F a 2) = 24)
    (hj9999b : F (F a 2) 99 = 2)
    (hk9999c : K (F a 3) = 24)
    (hj9999c : F (F a 3) 99 = 3)
    (hk9999d : K (F p0 0) = 20)
    (hj9999d : F (F p0 0) 99 = F p0 99)
    (hk9999e : K (F p0 1) = 21)
    (hj9999e : F (F p0 1) 99 = F p0 99)
    (hk9999f : K (F p1 0) = 15)
    (hj9999f : F (F p1 0) 99 = 0)
    (hfr : XFr [(a, 4)] [F a 0, F a 1, F a 2, F a 3, F p0 0, F p0 1] [] G G34)
    (hF34 : XFr [(a, 4)] [F a 0, F a 1, F a 2, F a 3, F p0 0, F p0 1] [] G_16 G34)
    (bkn : BKr K G (G.2.2.1 (F p1 0)))
    (cz : CZ (clsA G (G.2.2.1 (F p1 0))) (gst (G_16.2.1 (F a 0)) (G_16.2.1 (F a 1)) (G_16.2.1 (F a 2)) (G_16.2.1 (F a 3)) (Int.toNat (((G_16.1 a 4).toInt))), (vw (G_16.2.1 (F p0 0)))).1)
    (oq34 : CGo (clsA G_16 (G_16.2.2.1 (F p1 0))) (clsT G_16 (G_16.2.2.1 (F p1 0))) (clsC G_16 (G_16.2.2.1 (F p1 0))) (gst (G_16.2.1 (F a 0)) (G_16.2.1 (F a 1)) (G_16.2.1 (F a 2)) (G_16.2.1 (F a 3)) (Int.toNat (((G_16.1 a 4).toInt))), (vw (G_16.2.1 (F p0 0)))) (gst (G34.2.1 (F a 0)) (G34.2.1 (F a 1)) (G34.2.1 (F a 2)) (G34.2.1 (F a 3)) (Int.toNat (((G34.1 a 4).toInt))), (vw (G34.2.1 (F p0 0)))))
    (e1 : 0 ≤ p2.toInt ∧ p2.toInt < 3 ∧ 0 ≤ p3.toInt ∧ p3.toInt < 30)
    (e3 : (cel (vw (G.2.1 (F p0 0))) (p2.toInt) (p3.toInt) 0) ≠ -2000)
    (t10 : ((G10.1 a 4).toInt) = (0 : Int) + 1)
    (en13 : (cnv (gst (G10.2.1 (F a 0)) (G10.2.1 (F a 1)) (G10.2.1 (F a 2)) (G10.2.1 (F a 3)) (Int.toNat ((G10.1 a 4).toInt)), (vw (G10.2.1 (F p0 0))))) ≤ 1259)
    (I16_0 : 0 ≤ l5_16.toInt ∧ l5_16.toInt ≤ 1260)
    (I16_1 : 0 ≤ ((G_16.1 a 4).toInt) ∧ ((G_16.1 a 4).toInt) ≤ 90)
    (I16_2 : l5_16.toInt + (cnv (gst (G_16.2.1 (F a 0)) (G_16.2.1 (F a 1)) (G_16.2.1 (F a 2)) (G_16.2.1 (F a 3)) (Int.toNat ((G_16.1 a 4).toInt)), (vw (G_16.2.1 (F p0 0))))) ≤ 1259)
    (I16_3 : (0 : Int) ≤ l5_16.toInt)
    (hm16 : 2147483648 - l5_16.toInt < (((N16) + 1 : Nat) : Int))
    (c21 : ¬ ((1260 : Int) ≤ l5_16.toInt))
    (c28 : ¬ (((G_16.1 a 4).toInt) ≤ 0))
    (t34 : 0 ≤ ((G34.1 a 4).toInt) ∧ ((G34.1 a 4).toInt) ≤ 90)
    (z37 : (cnv (gst (G34.2.1 (F a 0)) (G34.2.1 (F a 1)) (G34.2.1 (F a 2)) (G34.2.1 (F a 3)) (Int.toNat ((G34.1 a 4).toInt)), (vw (G34.2.1 (F p0 0))))) = (cnv (gst (G_16.2.1 (F a 0)) (G_16.2.1 (F a 1)) (G_16.2.1 (F a 2)) (G_16.2.1 (F a 3)) (Int.toNat ((G_16.1 a 4).toInt)), (vw (G_16.2.1 (F p0 0))))) - 1)
    (r_G_16_F_p1_0 : G_16.2.2.1 (F p1 0) = G.2.2.1 (F p1 0)) :
    CZ (clsA G (G.2.2.1 (F p1 0))) (gst (G34.2.1 (F a 0)) (G34.2.1 (F a 1)) (G34.2.1 (F a 2)) (G34.2.1 (F a 3)) (Int.toNat (((G34.1 a 4).toInt))), (vw (G34.2.1 (F p0 0)))).1 := by
  have hd : ∀ p, p ∈ [(a, 4)] → K p.1 ≠ 9 := (List.forall_mem_cons.mpr ⟨(show K a ≠ 9 by omega), fun _ h => by cases h⟩)
  have hc : ∀ (i q : Nat), i < 12 → G.2.2.1 (F p1 0) i = some q → G_16.1 q = G.1 q := fun i q hi hq => (hF34.rule hd (bkn i q hi hq).1).symm.trans (hfr.rule hd (bkn i q hi hq).1)
  have o := oq34.2.1
  rw [r_G_16_F_p1_0, (cls_cg hc).1] at o
  exact o
theorem v_X2_cutRow_40_14 {K : Nat → Nat} {F : Nat → Nat → Nat} (a : Nat) (p0 : Nat) (p1 : Nat) (G : XG) (G34 : XG) (G10 : XG) (G_16 : XG) (p2 : Int32) (p3 : Int32) (l5_16 : Int32) (N16 : Nat)
    (ha : K a = 4)
    (hp0 : K p0 = 8)
    (hp1 : K p1 = 2)
    (hk9999 : K (F a 0) = 24)
    (hj9999 : F (F a 0) 99 = 0)
    (hk9999a : K (F a 1) = 24)
    (hj9999a : F (F a 1) 99 = 1)
    (hk9999b : K (F a 2) = 24)
    (hj9999b : F (F a 2) 99 = 2)
    (hk9999c : K (F a 3) = 24)
    (hj9999c : F (F a 3) 99 = 3)
    (hk9999d : K (F p0 0) = 20)
    (hj9999d : F (F p0 0) 99 = F p0 99)
    (hk9999e : K (F p0 1) = 21)
    (hj9999e : F (F p0 1) 99 = F p0 99)
    (hk9999f : K (F p1 0) = 15)
    (hj9999f : F (F p1 0) 99 = 0)
    (hfr : XFr [(a, 4)] [F a 0, F a 1, F a 2, F a 3, F p0 0, F p0 1] [] G G34)
    (hF34 : XFr [(a, 4)] [F a 0, F a 1, F a 2, F a 3, F p0 0, F p0 1] [] G_16 G34)
    (bkn : BKr K G (G.2.2.1 (F p1 0)))
    (cz : CZ (clsA G (G.2.2.1 (F p1 0))) (gst (G_16.2.1 (F a 0)) (G_16.2.1 (F a 1)) (G_16.2.1 (F a 2)) (G_16.2.1 (F a 3)) (Int.toNat (((G_16.1 a 4).toInt))), (vw (G_16.2.1 (F p0 0)))).1)
    (fi : cfin (clsA G (G.2.2.1 (F p1 0))) (clsT G (G.2.2.1 (F p1 0))) (clsC G (G.2.2.1 (F p1 0))) (gst (G_16.2.1 (F a 0)) (G_16.2.1 (F a 1)) (G_16.2.1 (F a 2)) (G_16.2.1 (F a 3)) (Int.toNat (((G_16.1 a 4).toInt))), (vw (G_16.2.1 (F p0 0)))) = cfin (clsA G (G.2.2.1 (F p1 0))) (clsT G (G.2.2.1 (F p1 0))) (clsC G (G.2.2.1 (F p1 0))) ([(p2.toInt, p3.toInt, 0, 0)], rfil (vw (G.2.1 (F p0 0))) p2.toInt p3.toInt (-2000) 3))
    (oq34 : CGo (clsA G_16 (G_16.2.2.1 (F p1 0))) (clsT G_16 (G_16.2.2.1 (F p1 0))) (clsC G_16 (G_16.2.2.1 (F p1 0))) (gst (G_16.2.1 (F a 0)) (G_16.2.1 (F a 1)) (G_16.2.1 (F a 2)) (G_16.2.1 (F a 3)) (Int.toNat (((G_16.1 a 4).toInt))), (vw (G_16.2.1 (F p0 0)))) (gst (G34.2.1 (F a 0)) (G34.2.1 (F a 1)) (G34.2.1 (F a 2)) (G34.2.1 (F a 3)) (Int.toNat (((G34.1 a 4).toInt))), (vw (G34.2.1 (F p0 0)))))
    (e1 : 0 ≤ p2.toInt ∧ p2.toInt < 3 ∧ 0 ≤ p3.toInt ∧ p3.toInt < 30)
    (e3 : (cel (vw (G.2.1 (F p0 0))) (p2.toInt) (p3.toInt) 0) ≠ -2000)
    (t10 : ((G10.1 a 4).toInt) = (0 : Int) + 1)
    (en13 : (cnv (gst (G10.2.1 (F a 0)) (G10.2.1 (F a 1)) (G10.2.1 (F a 2)) (G10.2.1 (F a 3)) (Int.toNat ((G10.1 a 4).toInt)), (vw (G10.2.1 (F p0 0))))) ≤ 1259)
    (I16_0 : 0 ≤ l5_16.toInt ∧ l5_16.toInt ≤ 1260)
    (I16_1 : 0 ≤ ((G_16.1 a 4).toInt) ∧ ((G_16.1 a 4).toInt) ≤ 90)
    (I16_2 : l5_16.toInt + (cnv (gst (G_16.2.1 (F a 0)) (G_16.2.1 (F a 1)) (G_16.2.1 (F a 2)) (G_16.2.1 (F a 3)) (Int.toNat ((G_16.1 a 4).toInt)), (vw (G_16.2.1 (F p0 0))))) ≤ 1259)
    (I16_3 : (0 : Int) ≤ l5_16.toInt)
    (hm16 : 2147483648 - l5_16.toInt < (((N16) + 1 : Nat) : Int))
    (c21 : ¬ ((1260 : Int) ≤ l5_16.toInt))
    (c28 : ¬ (((G_16.1 a 4).toInt) ≤ 0))
    (t34 : 0 ≤ ((G34.1 a 4).toInt) ∧ ((G34.1 a 4).toInt) ≤ 90)
    (z37 : (cnv (gst (G34.2.1 (F a 0)) (G34.2.1 (F a 1)) (G34.2.1 (F a 2)) (G34.2.1 (F a 3)) (Int.toNat ((G34.1 a 4).toInt)), (vw (G34.2.1 (F p0 0))))) = (cnv (gst (G_16.2.1 (F a 0)) (G_16.2.1 (F a 1)) (G_16.2.1 (F a 2)) (G_16.2.1 (F a 3)) (Int.toNat ((G_16.1 a 4).toInt)), (vw (G_16.2.1 (F p0 0))))) - 1)
    (r_G_16_F_p1_0 : G_16.2.2.1 (F p1 0) = G.2.2.1 (F p1 0)) :
    cfin (clsA G (G.2.2.1 (F p1 0))) (clsT G (G.2.2.1 (F p1 0))) (clsC G (G.2.2.1 (F p1 0))) (gst (G34.2.1 (F a 0)) (G34.2.1 (F a 1)) (G34.2.1 (F a 2)) (G34.2.1 (F a 3)) (Int.toNat (((G34.1 a 4).toInt))), (vw (G34.2.1 (F p0 0)))) = cfin (clsA G (G.2.2.1 (F p1 0))) (clsT G (G.2.2.1 (F p1 0))) (clsC G (G.2.2.1 (F p1 0))) ([(p2.toInt, p3.toInt, 0, 0)], rfil (vw (G.2.1 (F p0 0))) p2.toInt p3.toInt (-2000) 3) := by
  have hd : ∀ p, p ∈ [(a, 4)] → K p.1 ≠ 9 := (List.forall_mem_cons.mpr ⟨(show K a ≠ 9 by omega), fun _ h => by cases h⟩)
  have hc : ∀ (i q : Nat), i < 12 → G.2.2.1 (F p1 0) i = some q → G_16.1 q = G.1 q := fun i q hi hq => (hF34.rule hd (bkn i q hi hq).1).symm.trans (hfr.rule hd (bkn i q hi hq).1)
  have o := oq34.2.2.1
  rw [r_G_16_F_p1_0, (cls_cg hc).1, (cls_cg hc).2.1, (cls_cg hc).2.2] at o
  exact o.trans fi
theorem v_X2_cutRow_40_15 {F : Nat → Nat → Nat} (p0 : Nat) (G34 : XG)
    (oq34a : RO (vw (G34.2.1 (F p0 0))) (aI (G34.2.1 (F p0 1)))) :
    RO (vw (G34.2.1 (F p0 0))) (aI (G34.2.1 (F p0 1))) := by
  exact oq34a
theorem v_X2_cutRow_14_16 {K : Nat → Nat} {F : Nat → Nat → Nat} (a : Nat) (p0 : Nat) (p1 : Nat) (G : XG) (G10 : XG) (G2 : XG) (p2 : Int32) (p3 : Int32)
    (ha : K a = 4)
    (hp0 : K p0 = 8)
    (hp1 : K p1 = 2)
    (hro : RO (vw (G.2.1 (F p0 0))) (aI (G.2.1 (F p0 1))))
    (oq10 : ∀ z : Int, 0 ≤ z → aI (G10.2.1 (F a 0)) z = if z = ((G2.1 a 4).toInt) then p2.toInt else aI (G.2.1 (F a 0)) z)
    (oq10a : ∀ z : Int, 0 ≤ z → aI (G10.2.1 (F a 1)) z = if z = ((G2.1 a 4).toInt) then p3.toInt else aI (G.2.1 (F a 1)) z)
    (oq10b : ∀ z : Int, 0 ≤ z → aI (G10.2.1 (F a 2)) z = if z = ((G2.1 a 4).toInt) then 0 else aI (G.2.1 (F a 2)) z)
    (oq10c : ∀ z : Int, 0 ≤ z → aI (G10.2.1 (F a 3)) z = if z = ((G2.1 a 4).toInt) then 0 else aI (G.2.1 (F a 3)) z)
    (oq10d : (vw (G10.2.1 (F p0 0))) = rfil (vw (G.2.1 (F p0 0))) p2.toInt p3.toInt (-2000) 3)
    (e1 : 0 ≤ p2.toInt ∧ p2.toInt < 3 ∧ 0 ≤ p3.toInt ∧ p3.toInt < 30)
    (e3 : (cel (vw (G.2.1 (F p0 0))) (p2.toInt) (p3.toInt) 0) ≠ -2000)
    (t10 : ((G10.1 a 4).toInt) = (0 : Int) + 1)
    (en13 : (cnv (gst (G10.2.1 (F a 0)) (G10.2.1 (F a 1)) (G10.2.1 (F a 2)) (G10.2.1 (F a 3)) (Int.toNat ((G10.1 a 4).toInt)), (vw (G10.2.1 (F p0 0))))) ≤ 1259)
    (d_G2_a_4 : G2.1 a 4 = 0) :
    CIv (gst (G10.2.1 (F a 0)) (G10.2.1 (F a 1)) (G10.2.1 (F a 2)) (G10.2.1 (F a 3)) (Int.toNat (((G10.1 a 4).toInt))), (vw (G10.2.1 (F p0 0)))) := by
  have e4 : (G10.1 a 4).toInt = 0 + 1 := by omega
  have z4 : (G2.1 a 4).toInt = 0 := by rw [d_G2_a_4]; decide
  rw [z4] at oq10 oq10a oq10b oq10c
  have e := gst_g (n := 0) (by decide) oq10 oq10a oq10b oq10c
  rw [e4, e, oq10d]
  exact (civ_0 hro.rc (by omega) e3).1
theorem v_X2_cutRow_14_17 {K : Nat → Nat} {F : Nat → Nat → Nat} (a : Nat) (p0 : Nat) (p1 : Nat) (G : XG) (G10 : XG) (G2 : XG) (p2 : Int32) (p3 : Int32)
    (ha : K a = 4)
    (hp0 : K p0 = 8)
    (hp1 : K p1 = 2)
    (oq10 : ∀ z : Int, 0 ≤ z → aI (G10.2.1 (F a 0)) z = if z = ((G2.1 a 4).toInt) then p2.toInt else aI (G.2.1 (F a 0)) z)
    (oq10a : ∀ z : Int, 0 ≤ z → aI (G10.2.1 (F a 1)) z = if z = ((G2.1 a 4).toInt) then p3.toInt else aI (G.2.1 (F a 1)) z)
    (oq10b : ∀ z : Int, 0 ≤ z → aI (G10.2.1 (F a 2)) z = if z = ((G2.1 a 4).toInt) then 0 else aI (G.2.1 (F a 2)) z)
    (oq10c : ∀ z : Int, 0 ≤ z → aI (G10.2.1 (F a 3)) z = if z = ((G2.1 a 4).toInt) then 0 else aI (G.2.1 (F a 3)) z)
    (e1 : 0 ≤ p2.toInt ∧ p2.toInt < 3 ∧ 0 ≤ p3.toInt ∧ p3.toInt < 30)
    (e3 : (cel (vw (G.2.1 (F p0 0))) (p2.toInt) (p3.toInt) 0) ≠ -2000)
    (t10 : ((G10.1 a 4).toInt) = (0 : Int) + 1)
    (en13 : (cnv (gst (G10.2.1 (F a 0)) (G10.2.1 (F a 1)) (G10.2.1 (F a 2)) (G10.2.1 (F a 3)) (Int.toNat ((G10.1 a 4).toInt)), (vw (G10.2.1 (F p0 0))))) ≤ 1259)
    (d_G2_a_4 : G2.1 a 4 = 0) :
    CZ (clsA G (G.2.2.1 (F p1 0))) (gst (G10.2.1 (F a 0)) (G10.2.1 (F a 1)) (G10.2.1 (F a 2)) (G10.2.1 (F a 3)) (Int.toNat (((G10.1 a 4).toInt))), (vw (G10.2.1 (F p0 0)))).1 := by
  have e4 : (G10.1 a 4).toInt = 0 + 1 := by omega
  have z4 : (G2.1 a 4).toInt = 0 := by rw [d_G2_a_4]; decide
  rw [z4] at oq10 oq10a oq10b oq10c
  have e := gst_g (n := 0) (by decide) oq10 oq10a oq10b oq10c
  rw [e4, e]
  exact CZ.cons (fun _ h => by cases h) (fun _ => rfl)
theorem v_X2_cutRow_14_18 {K : Nat → Nat} {F : Nat → Nat → Nat} (a : Nat) (p0 : Nat) (p1 : Nat) (G : XG) (G10 : XG) (G2 : XG) (p2 : Int32) (p3 : Int32)
    (ha : K a = 4)
    (hp0 : K p0 = 8)
    (hp1 : K p1 = 2)
    (oq10 : ∀ z : Int, 0 ≤ z → aI (G10.2.1 (F a 0)) z = if z = ((G2.1 a 4).toInt) then p2.toInt else aI (G.2.1 (F a 0)) z)
    (oq10a : ∀ z : Int, 0 ≤ z → aI (G10.2.1 (F a 1)) z = if z = ((G2.1 a 4).toInt) then p3.toInt else aI (G.2.1 (F a 1)) z)
    (oq10b : ∀ z : Int, 0 ≤ z → aI (G10.2.1 (F a 2)) z = if z = ((G2.1 a 4).toInt) then 0 else aI (G.2.1 (F a 2)) z)
    (oq10c : ∀ z : Int, 0 ≤ z → aI (G10.2.1 (F a 3)) z = if z = ((G2.1 a 4).toInt) then 0 else aI (G.2.1 (F a 3)) z)
    (oq10d : (vw (G10.2.1 (F p0 0))) = rfil (vw (G.2.1 (F p0 0))) p2.toInt p3.toInt (-2000) 3)
    (e1 : 0 ≤ p2.toInt ∧ p2.toInt < 3 ∧ 0 ≤ p3.toInt ∧ p3.toInt < 30)
    (e3 : (cel (vw (G.2.1 (F p0 0))) (p2.toInt) (p3.toInt) 0) ≠ -2000)
    (t10 : ((G10.1 a 4).toInt) = (0 : Int) + 1)
    (en13 : (cnv (gst (G10.2.1 (F a 0)) (G10.2.1 (F a 1)) (G10.2.1 (F a 2)) (G10.2.1 (F a 3)) (Int.toNat ((G10.1 a 4).toInt)), (vw (G10.2.1 (F p0 0))))) ≤ 1259)
    (d_G2_a_4 : G2.1 a 4 = 0) :
    cfin (clsA G (G.2.2.1 (F p1 0))) (clsT G (G.2.2.1 (F p1 0))) (clsC G (G.2.2.1 (F p1 0))) (gst (G10.2.1 (F a 0)) (G10.2.1 (F a 1)) (G10.2.1 (F a 2)) (G10.2.1 (F a 3)) (Int.toNat (((G10.1 a 4).toInt))), (vw (G10.2.1 (F p0 0)))) = cfin (clsA G (G.2.2.1 (F p1 0))) (clsT G (G.2.2.1 (F p1 0))) (clsC G (G.2.2.1 (F p1 0))) ([(p2.toInt, p3.toInt, 0, 0)], rfil (vw (G.2.1 (F p0 0))) p2.toInt p3.toInt (-2000) 3) := by
  have e4 : (G10.1 a 4).toInt = 0 + 1 := by omega
  have z4 : (G2.1 a 4).toInt = 0 := by rw [d_G2_a_4]; decide
  rw [z4] at oq10 oq10a oq10b oq10c
  have e := gst_g (n := 0) (by decide) oq10 oq10a oq10b oq10c
  rw [e4, e, oq10d]
  rfl
theorem v_X2_cutRow_14_19 {F : Nat → Nat → Nat} (p0 : Nat) (G10 : XG)
    (oq10e : RO (vw (G10.2.1 (F p0 0))) (aI (G10.2.1 (F p0 1)))) :
    RO (vw (G10.2.1 (F p0 0))) (aI (G10.2.1 (F p0 1))) := by
  exact oq10e
