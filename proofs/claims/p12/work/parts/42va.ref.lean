theorem v_X11_cutAll_4_1 {K : Nat → Nat} {F : Nat → Nat → Nat} (a : Nat) (G : XG) (p0 : Int32) (p1 : Int32)
    (ha : K a = 13)
    (hk9999 : K (F a 47) = 55)
    (hj9999 : F (F a 47) 99 = 47)
    (hk9999a : K (F a 48) = 56)
    (hj9999a : F (F a 48) 99 = 48)
    (hk9999b : K (F a 49) = 57)
    (hj9999b : F (F a 49) 99 = 49)
    (hk9999c : K (F a 50) = 58)
    (hj9999c : F (F a 50) 99 = 50)
    (hk9999d : K (F a 1) = 30)
    (hj9999d : F (F a 1) 99 = 1)
    (hk9999e : K (F a 10) = 37)
    (hj9999e : F (F a 10) 99 = 10)
    (hR : RV (G.2.1 (F a 10)))
    (hM : RM (G.2.1 (F a 1)) (0))
    (e1 : 0 ≤ p0.toInt ∧ p0.toInt < 3)
    (e2 : 0 ≤ p1.toInt ∧ p1.toInt < 30)
    (e3 : (cel (mw (G.2.1 (F a 1)) 0) (p0.toInt) (p1.toInt) 0) ≠ -2000) :
    RM (G.2.1 (F a 1)) 0 := by
  first | assumption | omega
theorem v_X11_cutAll_8_2 {K : Nat → Nat} {F : Nat → Nat → Nat} (a : Nat) (G : XG) (G4 : XG) (p0 : Int32) (p1 : Int32)
    (ha : K a = 13)
    (oq4 : ∀ z : Int, 0 ≤ z → aI (G4.2.1 (F a 47)) z = if z = (0 : Int) then p0.toInt else aI (G.2.1 (F a 47)) z)
    (oq4a : ∀ z : Int, 0 ≤ z → aI (G4.2.1 (F a 48)) z = if z = (0 : Int) then p1.toInt else aI (G.2.1 (F a 48)) z)
    (oq4b : ∀ z : Int, 0 ≤ z → aI (G4.2.1 (F a 49)) z = if z = (0 : Int) then 0 else aI (G.2.1 (F a 49)) z)
    (oq4c : ∀ z : Int, 0 ≤ z → aI (G4.2.1 (F a 50)) z = if z = (0 : Int) then 0 else aI (G.2.1 (F a 50)) z)
    (e1 : 0 ≤ p0.toInt ∧ p0.toInt < 3)
    (e2 : 0 ≤ p1.toInt ∧ p1.toInt < 30)
    (e3 : (cel (mw (G.2.1 (F a 1)) 0) (p0.toInt) (p1.toInt) 0) ≠ -2000) :
    0 ≤ (cmu (gst (G4.2.1 (F a 47)) (G4.2.1 (F a 48)) (G4.2.1 (F a 49)) (G4.2.1 (F a 50)) (Int.toNat 1), mw (G4.2.1 (F a 1)) 0)) ∧ (cmu (gst (G4.2.1 (F a 47)) (G4.2.1 (F a 48)) (G4.2.1 (F a 49)) (G4.2.1 (F a 50)) (Int.toNat 1), mw (G4.2.1 (F a 1)) 0)) < 40000 := by
  have e := gst_g (n := 0) (by decide) oq4 oq4a oq4b oq4c
  rw [show Int.toNat 1 = ((0 : Int) + 1).toNat from rfl, e]
  have hb := pn_b (mw (G4.2.1 (F a 1)) 0)
  show 0 ≤ 404 * pn (mw (G4.2.1 (F a 1)) 0) + (31 * (12 - 0) + 31 - 0 + 0) ∧ 404 * pn (mw (G4.2.1 (F a 1)) 0) + (31 * (12 - 0) + 31 - 0 + 0) < 40000
  omega
theorem v_X11_cutAll_227_3 {K : Nat → Nat} {F : Nat → Nat → Nat} (a : Nat) (G : XG) (G4 : XG) (G_9 : XG) (p0 : Int32) (p1 : Int32) (l3_9 : Int32) (N9 : Nat)
    (ha : K a = 13)
    (fi : cfin (refA (G.2.1 (F a 10))) (refT (G.2.1 (F a 10))) (refC (G.2.1 (F a 10))) (gst (G_9.2.1 (F a 47)) (G_9.2.1 (F a 48)) (G_9.2.1 (F a 49)) (G_9.2.1 (F a 50)) (Int.toNat (l3_9.toInt)), mw (G_9.2.1 (F a 1)) 0) = cfin (refA (G.2.1 (F a 10))) (refT (G.2.1 (F a 10))) (refC (G.2.1 (F a 10))) ([(p0.toInt, p1.toInt, 0, 0)], rfil (mw (G.2.1 (F a 1)) 0) p0.toInt p1.toInt (-2000) 3))
    (e1 : 0 ≤ p0.toInt ∧ p0.toInt < 3)
    (e2 : 0 ≤ p1.toInt ∧ p1.toInt < 30)
    (e3 : (cel (mw (G.2.1 (F a 1)) 0) (p0.toInt) (p1.toInt) 0) ≠ -2000)
    (en8 : 0 ≤ (cmu (gst (G4.2.1 (F a 47)) (G4.2.1 (F a 48)) (G4.2.1 (F a 49)) (G4.2.1 (F a 50)) (Int.toNat 1), mw (G4.2.1 (F a 1)) 0)) ∧ (cmu (gst (G4.2.1 (F a 47)) (G4.2.1 (F a 48)) (G4.2.1 (F a 49)) (G4.2.1 (F a 50)) (Int.toNat 1), mw (G4.2.1 (F a 1)) 0)) < 40000)
    (I9_0 : 0 ≤ l3_9.toInt ∧ l3_9.toInt ≤ 90)
    (I9_1 : 0 ≤ (cmu (gst (G_9.2.1 (F a 47)) (G_9.2.1 (F a 48)) (G_9.2.1 (F a 49)) (G_9.2.1 (F a 50)) (Int.toNat (l3_9.toInt)), mw (G_9.2.1 (F a 1)) 0)))
    (hm9 : (cmu (gst (G_9.2.1 (F a 47)) (G_9.2.1 (F a 48)) (G_9.2.1 (F a 49)) (G_9.2.1 (F a 50)) (Int.toNat (l3_9.toInt)), mw (G_9.2.1 (F a 1)) 0)) < (((N9) + 1 : Nat) : Int))
    (c10 : l3_9.toInt ≤ 0) :
    mw (G_9.2.1 (F a 1)) 0 = cfin (refA (G.2.1 (F a 10))) (refT (G.2.1 (F a 10))) (refC (G.2.1 (F a 10))) ([(p0.toInt, p1.toInt, 0, 0)], rfil (mw (G.2.1 (F a 1)) 0) p0.toInt p1.toInt (-2000) 3) := by
  rw [show l3_9.toInt = 0 from by omega] at fi
  exact (cfin_e _ _ _ _).symm.trans fi
theorem v_X11_cutAll_227_4 {F : Nat → Nat → Nat} (a : Nat) (G_9 : XG)
    (rm : RM (G_9.2.1 (F a 1)) 0) :
    RM (G_9.2.1 (F a 1)) 0 := by
  exact rm
theorem v_X11_cutAll_224_5 {K : Nat → Nat} {F : Nat → Nat → Nat} (a : Nat) (G : XG) (G4 : XG) (G_9 : XG) (G79 : XG) (x15 : Int32) (x78 : Int32) (G87 : XG) (p0 : Int32) (p1 : Int32) (l3_9 : Int32) (N9 : Nat)
    (ha : K a = 13)
    (hG79 : G79 = cput G_9 (F a 49) x15.toNatClampNeg x78)
    (hG87 : G87 = cput G79 (F a 50) x15.toNatClampNeg 0)
    (e15 : x15.toInt = (l3_9.toInt - (1 : Int)))
    (e78 : x78.toInt = ((aI (G_9.2.1 (F a 49)) (l3_9.toInt - 1)) + (1 : Int)))
    (e1 : 0 ≤ p0.toInt ∧ p0.toInt < 3)
    (e2 : 0 ≤ p1.toInt ∧ p1.toInt < 30)
    (e3 : (cel (mw (G.2.1 (F a 1)) 0) (p0.toInt) (p1.toInt) 0) ≠ -2000)
    (en8 : 0 ≤ (cmu (gst (G4.2.1 (F a 47)) (G4.2.1 (F a 48)) (G4.2.1 (F a 49)) (G4.2.1 (F a 50)) (Int.toNat 1), mw (G4.2.1 (F a 1)) 0)) ∧ (cmu (gst (G4.2.1 (F a 47)) (G4.2.1 (F a 48)) (G4.2.1 (F a 49)) (G4.2.1 (F a 50)) (Int.toNat 1), mw (G4.2.1 (F a 1)) 0)) < 40000)
    (I9_0 : 0 ≤ l3_9.toInt ∧ l3_9.toInt ≤ 90)
    (I9_1 : 0 ≤ (cmu (gst (G_9.2.1 (F a 47)) (G_9.2.1 (F a 48)) (G_9.2.1 (F a 49)) (G_9.2.1 (F a 50)) (Int.toNat (l3_9.toInt)), mw (G_9.2.1 (F a 1)) 0)))
    (hm9 : (cmu (gst (G_9.2.1 (F a 47)) (G_9.2.1 (F a 48)) (G_9.2.1 (F a 49)) (G_9.2.1 (F a 50)) (Int.toNat (l3_9.toInt)), mw (G_9.2.1 (F a 1)) 0)) < (((N9) + 1 : Nat) : Int))
    (c10 : ¬ (l3_9.toInt ≤ 0))
    (z13 : ((0 ≤ (aI (G_9.2.1 (F a 47)) (l3_9.toInt - 1)) ∧ (aI (G_9.2.1 (F a 47)) (l3_9.toInt - 1)) < 3) ∧ (0 ≤ (aI (G_9.2.1 (F a 48)) (l3_9.toInt - 1)) ∧ (aI (G_9.2.1 (F a 48)) (l3_9.toInt - 1)) < 30) ∧ (0 ≤ (aI (G_9.2.1 (F a 49)) (l3_9.toInt - 1)) ∧ (aI (G_9.2.1 (F a 49)) (l3_9.toInt - 1)) ≤ 12) ∧ (0 ≤ (aI (G_9.2.1 (F a 50)) (l3_9.toInt - 1)) ∧ (aI (G_9.2.1 (F a 50)) (l3_9.toInt - 1)) ≤ 30)) ∧ l3_9.toInt + (pn (mw (G_9.2.1 (F a 1)) 0)) ≤ 90)
    (c27 : (aI (G_9.2.1 (F a 49)) (l3_9.toInt - 1)) ≠ (12 : Int))
    (c45 : (aI (G_9.2.1 (F a 50)) (l3_9.toInt - 1)) = (30 : Int))
    (c_G79_F_a_50 : G79.2.1 (F a 50) = G_9.2.1 (F a 50)) :
    cst (refA (G.2.1 (F a 10))) (refT (G.2.1 (F a 10))) (refC (G.2.1 (F a 10))) (gst (G_9.2.1 (F a 47)) (G_9.2.1 (F a 48)) (G_9.2.1 (F a 49)) (G_9.2.1 (F a 50)) (Int.toNat (l3_9.toInt)), mw (G_9.2.1 (F a 1)) 0) = (gst (G_9.2.1 (F a 47)) (G_9.2.1 (F a 48)) (G79.2.1 (F a 49)) (G87.2.1 (F a 50)) (Int.toNat (l3_9.toInt)), mw (G_9.2.1 (F a 1)) 0) := by
  have t9 := gst_p (a := G_9.2.1 (F a 47)) (b := G_9.2.1 (F a 48)) (c := G_9.2.1 (F a 49)) (d := G_9.2.1 (F a 50)) (n := l3_9.toInt) (by omega)
  rw [t9, cst_nx (by omega) (by omega), gst_u (n := l3_9.toInt) (by omega) (aI_pu hG79 rfl e15 e78 (by omega)) (aI_pu hG87 c_G79_F_a_50 e15 (show ((0 : Int32)).toInt = 0 from by decide) (by omega))]
theorem v_X11_cutAll_224_6 {K : Nat → Nat} {F : Nat → Nat → Nat} (a : Nat) (G : XG) (G4 : XG) (G_9 : XG) (G79 : XG) (G87 : XG) (p0 : Int32) (p1 : Int32) (l3_9 : Int32) (N9 : Nat)
    (ha : K a = 13)
    (rm : RM (G_9.2.1 (F a 1)) 0)
    (e1 : 0 ≤ p0.toInt ∧ p0.toInt < 3)
    (e2 : 0 ≤ p1.toInt ∧ p1.toInt < 30)
    (e3 : (cel (mw (G.2.1 (F a 1)) 0) (p0.toInt) (p1.toInt) 0) ≠ -2000)
    (en8 : 0 ≤ (cmu (gst (G4.2.1 (F a 47)) (G4.2.1 (F a 48)) (G4.2.1 (F a 49)) (G4.2.1 (F a 50)) (Int.toNat 1), mw (G4.2.1 (F a 1)) 0)) ∧ (cmu (gst (G4.2.1 (F a 47)) (G4.2.1 (F a 48)) (G4.2.1 (F a 49)) (G4.2.1 (F a 50)) (Int.toNat 1), mw (G4.2.1 (F a 1)) 0)) < 40000)
    (I9_0 : 0 ≤ l3_9.toInt ∧ l3_9.toInt ≤ 90)
    (I9_1 : 0 ≤ (cmu (gst (G_9.2.1 (F a 47)) (G_9.2.1 (F a 48)) (G_9.2.1 (F a 49)) (G_9.2.1 (F a 50)) (Int.toNat (l3_9.toInt)), mw (G_9.2.1 (F a 1)) 0)))
    (hm9 : (cmu (gst (G_9.2.1 (F a 47)) (G_9.2.1 (F a 48)) (G_9.2.1 (F a 49)) (G_9.2.1 (F a 50)) (Int.toNat (l3_9.toInt)), mw (G_9.2.1 (F a 1)) 0)) < (((N9) + 1 : Nat) : Int))
    (c10 : ¬ (l3_9.toInt ≤ 0))
    (z13 : ((0 ≤ (aI (G_9.2.1 (F a 47)) (l3_9.toInt - 1)) ∧ (aI (G_9.2.1 (F a 47)) (l3_9.toInt - 1)) < 3) ∧ (0 ≤ (aI (G_9.2.1 (F a 48)) (l3_9.toInt - 1)) ∧ (aI (G_9.2.1 (F a 48)) (l3_9.toInt - 1)) < 30) ∧ (0 ≤ (aI (G_9.2.1 (F a 49)) (l3_9.toInt - 1)) ∧ (aI (G_9.2.1 (F a 49)) (l3_9.toInt - 1)) ≤ 12) ∧ (0 ≤ (aI (G_9.2.1 (F a 50)) (l3_9.toInt - 1)) ∧ (aI (G_9.2.1 (F a 50)) (l3_9.toInt - 1)) ≤ 30)) ∧ l3_9.toInt + (pn (mw (G_9.2.1 (F a 1)) 0)) ≤ 90)
    (c27 : (aI (G_9.2.1 (F a 49)) (l3_9.toInt - 1)) ≠ (12 : Int))
    (c45 : (aI (G_9.2.1 (F a 50)) (l3_9.toInt - 1)) = (30 : Int))
    (mu224 : (cmu (gst (G_9.2.1 (F a 47)) (G_9.2.1 (F a 48)) (G79.2.1 (F a 49)) (G87.2.1 (F a 50)) (Int.toNat (l3_9.toInt)), mw (G_9.2.1 (F a 1)) 0)) < (cmu (gst (G_9.2.1 (F a 47)) (G_9.2.1 (F a 48)) (G_9.2.1 (F a 49)) (G_9.2.1 (F a 50)) (Int.toNat (l3_9.toInt)), mw (G_9.2.1 (F a 1)) 0)) ∧ 0 ≤ (cmu (gst (G_9.2.1 (F a 47)) (G_9.2.1 (F a 48)) (G79.2.1 (F a 49)) (G87.2.1 (F a 50)) (Int.toNat (l3_9.toInt)), mw (G_9.2.1 (F a 1)) 0))) :
    RM (G_9.2.1 (F a 1)) 0 := by
  first
    | exact rm
    | exact oq218e
    | exact rm.set (t := aI (G.2.1 (F a 10)) (10 * aI (G_9.2.1 (F a 49)) (l3_9.toInt - 1) + 1)) (k := aI (G_9.2.1 (F a 50)) (l3_9.toInt - 1)) (c := aI (G.2.1 (F a 10)) (10 * aI (G_9.2.1 (F a 49)) (l3_9.toInt - 1) + 2)) (by omega) (by decide) (by omega) (aI_pu hG203 c_G119_F_a_1 rfl (show ((-1000 : Int32)).toInt = -1000 from by decide) (by omega)) (Or.inl rfl)
theorem v_X11_cutAll_224_7 {F : Nat → Nat → Nat} (a : Nat) (G : XG) (G_9 : XG) (G79 : XG) (G87 : XG) (l3_9 : Int32)
    (hR : RV (G.2.1 (F a 10)))
    (iv : CIv (gst (G_9.2.1 (F a 47)) (G_9.2.1 (F a 48)) (G_9.2.1 (F a 49)) (G_9.2.1 (F a 50)) (Int.toNat (l3_9.toInt)), mw (G_9.2.1 (F a 1)) 0))
    (cs224 : cst (refA (G.2.1 (F a 10))) (refT (G.2.1 (F a 10))) (refC (G.2.1 (F a 10))) (gst (G_9.2.1 (F a 47)) (G_9.2.1 (F a 48)) (G_9.2.1 (F a 49)) (G_9.2.1 (F a 50)) (Int.toNat (l3_9.toInt)), mw (G_9.2.1 (F a 1)) 0) = (gst (G_9.2.1 (F a 47)) (G_9.2.1 (F a 48)) (G79.2.1 (F a 49)) (G87.2.1 (F a 50)) (Int.toNat (l3_9.toInt)), mw (G_9.2.1 (F a 1)) 0)) :
    CIv (gst (G_9.2.1 (F a 47)) (G_9.2.1 (F a 48)) (G79.2.1 (F a 49)) (G87.2.1 (F a 50)) (Int.toNat (l3_9.toInt)), mw (G_9.2.1 (F a 1)) 0) := by
  exact (cm_st (refTo hR) iv cs224).1
theorem v_X11_cutAll_224_8 {F : Nat → Nat → Nat} (a : Nat) (G : XG) (G_9 : XG) (G79 : XG) (G87 : XG) (p0 : Int32) (p1 : Int32) (l3_9 : Int32)
    (hR : RV (G.2.1 (F a 10)))
    (iv : CIv (gst (G_9.2.1 (F a 47)) (G_9.2.1 (F a 48)) (G_9.2.1 (F a 49)) (G_9.2.1 (F a 50)) (Int.toNat (l3_9.toInt)), mw (G_9.2.1 (F a 1)) 0))
    (fi : cfin (refA (G.2.1 (F a 10))) (refT (G.2.1 (F a 10))) (refC (G.2.1 (F a 10))) (gst (G_9.2.1 (F a 47)) (G_9.2.1 (F a 48)) (G_9.2.1 (F a 49)) (G_9.2.1 (F a 50)) (Int.toNat (l3_9.toInt)), mw (G_9.2.1 (F a 1)) 0) = cfin (refA (G.2.1 (F a 10))) (refT (G.2.1 (F a 10))) (refC (G.2.1 (F a 10))) ([(p0.toInt, p1.toInt, 0, 0)], rfil (mw (G.2.1 (F a 1)) 0) p0.toInt p1.toInt (-2000) 3))
    (cs224 : cst (refA (G.2.1 (F a 10))) (refT (G.2.1 (F a 10))) (refC (G.2.1 (F a 10))) (gst (G_9.2.1 (F a 47)) (G_9.2.1 (F a 48)) (G_9.2.1 (F a 49)) (G_9.2.1 (F a 50)) (Int.toNat (l3_9.toInt)), mw (G_9.2.1 (F a 1)) 0) = (gst (G_9.2.1 (F a 47)) (G_9.2.1 (F a 48)) (G79.2.1 (F a 49)) (G87.2.1 (F a 50)) (Int.toNat (l3_9.toInt)), mw (G_9.2.1 (F a 1)) 0)) :
    cfin (refA (G.2.1 (F a 10))) (refT (G.2.1 (F a 10))) (refC (G.2.1 (F a 10))) (gst (G_9.2.1 (F a 47)) (G_9.2.1 (F a 48)) (G79.2.1 (F a 49)) (G87.2.1 (F a 50)) (Int.toNat (l3_9.toInt)), mw (G_9.2.1 (F a 1)) 0) = cfin (refA (G.2.1 (F a 10))) (refT (G.2.1 (F a 10))) (refC (G.2.1 (F a 10))) ([(p0.toInt, p1.toInt, 0, 0)], rfil (mw (G.2.1 (F a 1)) 0) p0.toInt p1.toInt (-2000) 3) := by
  exact (cm_st (refTo hR) iv cs224).2.trans fi
theorem v_X11_cutAll_224_9 {K : Nat → Nat} {F : Nat → Nat → Nat} (a : Nat) (G : XG) (G4 : XG) (G_9 : XG) (G119 : XG) (x15 : Int32) (x118 : Int32) (p0 : Int32) (p1 : Int32) (l3_9 : Int32) (N9 : Nat) (x63 : Int32) (x129 : Int32)
    (ha : K a = 13)
    (hG119 : G119 = cput G_9 (F a 50) x15.toNatClampNeg x118)
    (e15 : x15.toInt = (l3_9.toInt - (1 : Int)))
    (e118 : x118.toInt = ((aI (G_9.2.1 (F a 50)) (l3_9.toInt - 1)) + (1 : Int)))
    (e1 : 0 ≤ p0.toInt ∧ p0.toInt < 3)
    (e2 : 0 ≤ p1.toInt ∧ p1.toInt < 30)
    (e3 : (cel (mw (G.2.1 (F a 1)) 0) (p0.toInt) (p1.toInt) 0) ≠ -2000)
    (en8 : 0 ≤ (cmu (gst (G4.2.1 (F a 47)) (G4.2.1 (F a 48)) (G4.2.1 (F a 49)) (G4.2.1 (F a 50)) (Int.toNat 1), mw (G4.2.1 (F a 1)) 0)) ∧ (cmu (gst (G4.2.1 (F a 47)) (G4.2.1 (F a 48)) (G4.2.1 (F a 49)) (G4.2.1 (F a 50)) (Int.toNat 1), mw (G4.2.1 (F a 1)) 0)) < 40000)
    (I9_0 : 0 ≤ l3_9.toInt ∧ l3_9.toInt ≤ 90)
    (I9_1 : 0 ≤ (cmu (gst (G_9.2.1 (F a 47)) (G_9.2.1 (F a 48)) (G_9.2.1 (F a 49)) (G_9.2.1 (F a 50)) (Int.toNat (l3_9.toInt)), mw (G_9.2.1 (F a 1)) 0)))
    (hm9 : (cmu (gst (G_9.2.1 (F a 47)) (G_9.2.1 (F a 48)) (G_9.2.1 (F a 49)) (G_9.2.1 (F a 50)) (Int.toNat (l3_9.toInt)), mw (G_9.2.1 (F a 1)) 0)) < (((N9) + 1 : Nat) : Int))
    (c10 : ¬ (l3_9.toInt ≤ 0))
    (z13 : ((0 ≤ (aI (G_9.2.1 (F a 47)) (l3_9.toInt - 1)) ∧ (aI (G_9.2.1 (F a 47)) (l3_9.toInt - 1)) < 3) ∧ (0 ≤ (aI (G_9.2.1 (F a 48)) (l3_9.toInt - 1)) ∧ (aI (G_9.2.1 (F a 48)) (l3_9.toInt - 1)) < 30) ∧ (0 ≤ (aI (G_9.2.1 (F a 49)) (l3_9.toInt - 1)) ∧ (aI (G_9.2.1 (F a 49)) (l3_9.toInt - 1)) ≤ 12) ∧ (0 ≤ (aI (G_9.2.1 (F a 50)) (l3_9.toInt - 1)) ∧ (aI (G_9.2.1 (F a 50)) (l3_9.toInt - 1)) ≤ 30)) ∧ l3_9.toInt + (pn (mw (G_9.2.1 (F a 1)) 0)) ≤ 90)
    (c27 : (aI (G_9.2.1 (F a 49)) (l3_9.toInt - 1)) ≠ (12 : Int))
    (c45 : ¬ ((aI (G_9.2.1 (F a 50)) (l3_9.toInt - 1)) = (30 : Int)))
    (t63 : (x63.toInt = 1 ∧ 0 < (refA (G.2.1 (F a 10)) (aI (G_9.2.1 (F a 49)) (l3_9.toInt - 1)) (aI (G_9.2.1 (F a 47)) (l3_9.toInt - 1)))) ∨ (x63.toInt = 0 ∧ ¬ (0 < (refA (G.2.1 (F a 10)) (aI (G_9.2.1 (F a 49)) (l3_9.toInt - 1)) (aI (G_9.2.1 (F a 47)) (l3_9.toInt - 1))))))
    (c66 : x63.toInt ≠ 0)
    (z91 : ((0 ≤ (aI (G_9.2.1 (F a 49)) (l3_9.toInt - 1)) ∧ (aI (G_9.2.1 (F a 49)) (l3_9.toInt - 1)) < 12 ∧ (aI (G.2.1 (F a 10)) (10 * (aI (G_9.2.1 (F a 49)) (l3_9.toInt - 1)) + 0)) = 1 ∧ (aI (G.2.1 (F a 10)) (10 * (aI (G_9.2.1 (F a 49)) (l3_9.toInt - 1)) + 3)) = (aI (G_9.2.1 (F a 47)) (l3_9.toInt - 1))) ∧ (refA (G.2.1 (F a 10)) (aI (G_9.2.1 (F a 49)) (l3_9.toInt - 1)) (aI (G_9.2.1 (F a 47)) (l3_9.toInt - 1))) = (aI (G.2.1 (F a 10)) (10 * (aI (G_9.2.1 (F a 49)) (l3_9.toInt - 1)) + 8))) ∨ (¬ (0 ≤ (aI (G_9.2.1 (F a 49)) (l3_9.toInt - 1)) ∧ (aI (G_9.2.1 (F a 49)) (l3_9.toInt - 1)) < 12 ∧ (aI (G.2.1 (F a 10)) (10 * (aI (G_9.2.1 (F a 49)) (l3_9.toInt - 1)) + 0)) = 1 ∧ (aI (G.2.1 (F a 10)) (10 * (aI (G_9.2.1 (F a 49)) (l3_9.toInt - 1)) + 3)) = (aI (G_9.2.1 (F a 47)) (l3_9.toInt - 1))) ∧ (refA (G.2.1 (F a 10)) (aI (G_9.2.1 (F a 49)) (l3_9.toInt - 1)) (aI (G_9.2.1 (F a 47)) (l3_9.toInt - 1))) = 0))
    (z91a : (-1 ≤ (aI (G.2.1 (F a 10)) (10 * (aI (G_9.2.1 (F a 49)) (l3_9.toInt - 1)) + 0)) ∧ (aI (G.2.1 (F a 10)) (10 * (aI (G_9.2.1 (F a 49)) (l3_9.toInt - 1)) + 0)) ≤ 5) ∧ (0 ≤ (aI (G.2.1 (F a 10)) (10 * (aI (G_9.2.1 (F a 49)) (l3_9.toInt - 1)) + 1)) ∧ (aI (G.2.1 (F a 10)) (10 * (aI (G_9.2.1 (F a 49)) (l3_9.toInt - 1)) + 1)) ≤ 2) ∧ (0 ≤ (aI (G.2.1 (F a 10)) (10 * (aI (G_9.2.1 (F a 49)) (l3_9.toInt - 1)) + 2)) ∧ (aI (G.2.1 (F a 10)) (10 * (aI (G_9.2.1 (F a 49)) (l3_9.toInt - 1)) + 2)) ≤ 2))
    (t129 : 0 ≤ (aI (G.2.1 (F a 10)) (10 * (aI (G_9.2.1 (F a 49)) (l3_9.toInt - 1)) + 1)) ∧ (aI (G.2.1 (F a 10)) (10 * (aI (G_9.2.1 (F a 49)) (l3_9.toInt - 1)) + 1)) ≤ 2 ∧ 0 ≤ (aI (G_9.2.1 (F a 50)) (l3_9.toInt - 1)) ∧ (aI (G_9.2.1 (F a 50)) (l3_9.toInt - 1)) ≤ 29 → x129.toInt = 4 * (30 * (aI (G.2.1 (F a 10)) (10 * (aI (G_9.2.1 (F a 49)) (l3_9.toInt - 1)) + 1)) + (aI (G_9.2.1 (F a 50)) (l3_9.toInt - 1))))
    (z134 : ((aI (G_9.2.1 (F a 1)) (0 + 4 * (30 * (aI (G.2.1 (F a 10)) (10 * (aI (G_9.2.1 (F a 49)) (l3_9.toInt - 1)) + 1)) + (aI (G_9.2.1 (F a 50)) (l3_9.toInt - 1))))) = 0 ∧ (cel (mw (G_9.2.1 (F a 1)) 0) (aI (G.2.1 (F a 10)) (10 * (aI (G_9.2.1 (F a 49)) (l3_9.toInt - 1)) + 1)) (aI (G_9.2.1 (F a 50)) (l3_9.toInt - 1)) (aI (G.2.1 (F a 10)) (10 * (aI (G_9.2.1 (F a 49)) (l3_9.toInt - 1)) + 2))) = -2000) ∨ ((aI (G_9.2.1 (F a 1)) (0 + 4 * (30 * (aI (G.2.1 (F a 10)) (10 * (aI (G_9.2.1 (F a 49)) (l3_9.toInt - 1)) + 1)) + (aI (G_9.2.1 (F a 50)) (l3_9.toInt - 1))))) = 1 ∧ (cel (mw (G_9.2.1 (F a 1)) 0) (aI (G.2.1 (F a 10)) (10 * (aI (G_9.2.1 (F a 49)) (l3_9.toInt - 1)) + 1)) (aI (G_9.2.1 (F a 50)) (l3_9.toInt - 1)) (aI (G.2.1 (F a 10)) (10 * (aI (G_9.2.1 (F a 49)) (l3_9.toInt - 1)) + 2))) = (aI (G_9.2.1 (F a 1)) (0 + 4 * (30 * (aI (G.2.1 (F a 10)) (10 * (aI (G_9.2.1 (F a 49)) (l3_9.toInt - 1)) + 1)) + (aI (G_9.2.1 (F a 50)) (l3_9.toInt - 1))) + 1 + (aI (G.2.1 (F a 10)) (10 * (aI (G_9.2.1 (F a 49)) (l3_9.toInt - 1)) + 2))))))
    (c142 : (aI (G_9.2.1 (F a 1)) (0 + 4 * (30 * (aI (G.2.1 (F a 10)) (10 * (aI (G_9.2.1 (F a 49)) (l3_9.toInt - 1)) + 1)) + (aI (G_9.2.1 (F a 50)) (l3_9.toInt - 1))))) ≠ (1 : Int)) :
    cst (refA (G.2.1 (F a 10))) (refT (G.2.1 (F a 10))) (refC (G.2.1 (F a 10))) (gst (G_9.2.1 (F a 47)) (G_9.2.1 (F a 48)) (G_9.2.1 (F a 49)) (G_9.2.1 (F a 50)) (Int.toNat (l3_9.toInt)), mw (G_9.2.1 (F a 1)) 0) = (gst (G_9.2.1 (F a 47)) (G_9.2.1 (F a 48)) (G_9.2.1 (F a 49)) (G119.2.1 (F a 50)) (Int.toNat (l3_9.toInt)), mw (G_9.2.1 (F a 1)) 0) := by
  have t9 := gst_p (a := G_9.2.1 (F a 47)) (b := G_9.2.1 (F a 48)) (c := G_9.2.1 (F a 49)) (d := G_9.2.1 (F a 50)) (n := l3_9.toInt) (by omega)
  have rf := refT_f (f := G.2.1 (F a 10)) (r := aI (G_9.2.1 (F a 49)) (l3_9.toInt - 1)) (t := aI (G_9.2.1 (F a 47)) (l3_9.toInt - 1)) (by omega)
  have nk : cel (mw (G_9.2.1 (F a 1)) 0) (refT (G.2.1 (F a 10)) (aI (G_9.2.1 (F a 49)) (l3_9.toInt - 1))) (aI (G_9.2.1 (F a 50)) (l3_9.toInt - 1)) (refC (G.2.1 (F a 10)) (aI (G_9.2.1 (F a 49)) (l3_9.toInt - 1))) ≠ aI (G_9.2.1 (F a 48)) (l3_9.toInt - 1) := by rw [rf.2.1, rf.2.2.1]; omega
  rw [t9, cst_sk (by omega) (by omega) (by omega) nk, gst_n (n := l3_9.toInt) (by omega) (aI_pu hG119 rfl e15 e118 (by omega))]
