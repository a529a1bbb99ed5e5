theorem v_X11_cutAll_4_1 {K : Nat → Nat} {F : Nat → Nat → Nat} (a : Nat) (G : XG) (p0 : Int32) (p1 : Int32)
    (ha : K a = 13)
    (hk9999 : K (F a 47) = 55)
    (hj9999 : F (F a 47) 99 = 47)
    (hk9999a : K (F a 48) = 56)
    (hj9999a : F (F a 48) 99 = 48)
    (hk9999b : K (F a 49) = 57)
    (hj9999b : F (F a 49) 99 = 49)
    (hk9999c : K (F a 50) = 58)
    (hj9999c : F (F a 50) 99 = 50)
    (hk9999d : K (F a 1) = 30)
    (hj9999d : F (F a 1) 99 = 1)
    (hk9999e : K (F a 10) = 37)
    (hj9999e : F (F a 10) 99 = 10)
    (hR : RV (G.2.1 (F a 10)))
    (hM : RM (G.2.1 (F a 1)) (0))
    (e1 : 0 ≤ p0.toInt ∧ p0.toInt < 3)
    (e2 : 0 ≤ p1.toInt ∧ p1.toInt < 30)
    (e3 : (cel (mw (G.2.1 (F a 1)) 0) (p0.toInt) (p1.toInt) 0) ≠ -2000) :
    RM (G.2.1 (F a 1)) 0 := by
  first | assumption | omega
theorem v_X11_cutAll_8_2 {K : Nat → Nat} {F : Nat → Nat → Nat} (a : Nat) (G : XG) (G4 : XG) (p0 : Int32) (p1 : Int32)
    (ha : K a = 13)
    (oq4 : ∀ z : Int, 0 ≤ z → aI (G4.2.1 (F a 47)) z = if z = (0 : Int) then p0.toInt else aI (G.2.1 (F a 47)) z)
    (oq4a : ∀ z : Int, 0 ≤ z → aI (G4.2.1 (F a 48)) z = if z = (0 : Int) then p1.toInt else aI (G.2.1 (F a 48)) z)
    (oq4b : ∀ z : Int, 0 ≤ z → aI (G4.2.1 (F a 49)) z = if z = (0 : Int) then 0 else aI (G.2.1 (F a 49)) z)
    (oq4c : ∀ z : Int, 0 ≤ z → aI (G4.2.1 (F a 50)) z = if z = (0 : Int) then 0 else aI (G.2.1 (F a 50)) z)
    (e1 : 0 ≤ p0.toInt ∧ p0.toInt < 3)
    (e2 : 0 ≤ p1.toInt ∧ p1.toInt < 30)
    (e3 : (cel (mw (G.2.1 (F a 1)) 0) (p0.toInt) (p1.toInt) 0) ≠ -2000) :
    0 ≤ (cmu (gst (G4.2.1 (F a 47)) (G4.2.1 (F a 48)) (G4.2.1 (F a 49)) (G4.2.1 (F a 50)) (Int.toNat 1), mw (G4.2.1 (F a 1)) 0)) ∧ (cmu (gst (G4.2.1 (F a 47)) (G4.2.1 (F a 48)) (G4.2.1 (F a 49)) (G4.2.1 (F a 50)) (Int.toNat 1), mw (G4.2.1 (F a 1)) 0)) < 40000 := by
  have e := gst_g (n := 0) (by decide) oq4 oq4a oq4b oq4c
  rw [show Int.toNat 1 = ((0 : Int) + 1).toNat from rfl, e]
  have hb := pn_b (mw (G4.2.1 (F a 1)) 0)
  show 0 ≤ 404 * pn (mw (G4.2.1 (F a 1)) 0) + (31 * (12 - 0) + 31 - 0 + 0) ∧ 404 * pn (mw (G4.2.1 (F a 1)) 0) + (31 * (12 - 0) + 31 - 0 + 0) < 40000
  omega
theorem v_X11_cutAll_227_3 {K : Nat → Nat} {F : Nat → Nat → Nat} (a : Nat) (G : XG) (G4 : XG) (G_9 : XG) (p0 : Int32) (p1 : Int32) (l3_9 : Int32) (N9 : Nat)
    (ha : K a = 13)
    (fi : cfin (refA (G.2.1 (F a 10))) (refT (G.2.1 (F a 10))) (refC (G.2.1 (F a 10))) (gst (G_9.2.1 (F a 47)) (G_9.2.1 (F a 48)) (G_9.2.1 (F a 49)) (G_9.2.1 (F a 50)) (Int.toNat (l3_9.toInt)), mw (G_9.2.1 (F a 1)) 0) = cfin (refA (G.2.1 (F a 10))) (refT (G.2.1 (F a 10))) (refC (G.2.1 (F a 10))) ([(p0.toInt, p1.toInt, 0, 0)], rfil (mw (G.2.1 (F a 1)) 0) p0.toInt p1.toInt (-2000) 3))
    (e1 : 0 ≤ p0.toInt ∧ p0.toInt < 3)
    (e2 : 0 ≤ p1.toInt ∧ p1.toInt < 30)
    (e3 : (cel (mw (G.2.1 (F a 1)) 0) (p0.toInt) (p1.toInt) 0) ≠ -2000)
    (en8 : 0 ≤ (cmu (gst (G4.2.1 (F a 47)) (G4.2.1 (F a 48)) (G4.2.1 (F a 49)) (G4.2.1 (F a 50)) (Int.toNat 1), mw (G4.2.1 (F a 1)) 0)) ∧ (cmu (gst (G4.2.1 (F a 47)) (G4.2.1 (F a 48)) (G4.2.1 (F a 49)) (G4.2.1 (F a 50)) (Int.toNat 1), mw (G4.2.1 (F a 1)) 0)) < 40000)
    (I9_0 : 0 ≤ l3_9.toInt ∧ l3_9.toInt ≤ 90)
    (I9_1 : 0 ≤ (cmu (gst (G_9.2.1 (F a 47)) (G_9.2.1 (F a 48)) (G_9.2.1 (F a 49)) (G_9.2.1 (F a 50)) (Int.toNat (l3_9.toInt)), mw (G_9.2.1 (F a 1)) 0)))
    (hm9 : (cmu (gst (G_9.2.1 (F a 47)) (G_9.2.1 (F a 48)) (G_9.2.1 (F a 49)) (G_9.2.1 (F a 50)) (Int.toNat (l3_9.toInt)), mw (G_9.2.1 (F a 1)) 0)) < (((N9) + 1 : Nat) : Int))
    (c10 : l3_9.toInt ≤ 0) :
    mw (G_9.2.1 (F a 1)) 0 = cfin (refA (G.2.1 (F a 10))) (refT (G.2.1 (F a 10))) (refC (G.2.1 (F a 10))) ([(p0.toInt, p1.toInt, 0, 0)], rfil (mw (G.2.1 (F a 1)) 0) p0.toInt p1.toInt (-2000) 3) := by
  rw [show l3_9.toInt = 0 from by omega] at fi
  exact (cfin_e _ _ _ _).symm.trans fi
theorem v_X11_cutAll_227_4 {F : Nat → Nat → Nat} (a : Nat) (G_9 : XG)
    (rm : RM (G_9.2.1 (F a 1)) 0) :
    RM (G_9.2.1 (F a 1)) 0 := by
  exact rm
theorem v_X11_cutAll_224_5 {K : Nat → Nat} {F : Nat → Nat → Nat} (a : Nat) (G : XG) (G4 : XG) (G_9 : XG) (G79 : XG) (x15 : Int32) (x78 : Int32) (G87 : XG) (p0 : Int32) (p1 : Int32) (l3_9 : Int32) (x24 : Int32) (x42 : Int32) (x76 : Int32) (N9 : Nat)
    (ha : K a = 13)
    (hG79 : G79 = cput G_9 (F a 49) x15.toNatClampNeg x78)
    (hG87 : G87 = cput G79 (F a 50) x15.toNatClampNeg 0)
    (e15 : x15.toInt = (l3_9.toInt - (1 : Int)))
    (hv24 : x24.toInt = (aI (G_9.2.1 (F a 49)) (l3_9.toInt - 1)))
    (hv42 : x42.toInt = (aI (G_9.2.1 (F a 50)) (l3_9.toInt - 1)))
    (hv76 : x76.toInt = (aI (G_9.2.1 (F a 49)) (l3_9.toInt - 1)))
    (e78 : x78.toInt = ((aI (G_9.2.1 (F a 49)) (l3_9.toInt - 1)) + (1 : Int)))
    (e1 : 0 ≤ p0.toInt ∧ p0.toInt < 3)
    (e2 : 0 ≤ p1.toInt ∧ p1.toInt < 30)
    (e3 : (cel (mw (G.2.1 (F a 1)) 0) (p0.toInt) (p1.toInt) 0) ≠ -2000)
    (en8 : 0 ≤ (cmu (gst (G4.2.1 (F a 47)) (G4.2.1 (F a 48)) (G4.2.1 (F a 49)) (G4.2.1 (F a 50)) (Int.toNat 1), mw (G4.2.1 (F a 1)) 0)) ∧ (cmu (gst (G4.2.1 (F a 47)) (G4.2.1 (F a 48)) (G4.2.1 (F a 49)) (G4.2.1 (F a 50)) (Int.toNat 1), mw (G4.2.1 (F a 1)) 0)) < 40000)
    (I9_0 : 0 ≤ l3_9.toInt ∧ l3_9.toInt ≤ 90)
    (I9_1 : 0 ≤ (cmu (gst (G_9.2.1 (F a 47)) (G_9.2.1 (F a 48)) (G_9.2.1 (F a 49)) (G_9.2.1 (F a 50)) (Int.toNat (l3_9.toInt)), mw (G_9.2.1 (F a 1)) 0)))
    (hm9 : (cmu (gst (G_9.2.1 (F a 47)) (G_9.2.1 (F a 48)) (G_9.2.1 (F a 49)) (G_9.2.1 (F a 50)) (Int.toNat (l3_9.toInt)), mw (G_9.2.1 (F a 1)) 0)) < (((N9) + 1 : Nat) : Int))
    (c10 : ¬ (l3_9.toInt ≤ 0))
    (z13 : ((0 ≤ (aI (G_9.2.1 (F a 47)) (l3_9.toInt - 1)) ∧ (aI (G_9.2.1 (F a 47)) (l3_9.toInt - 1)) < 3) ∧ (0 ≤ (aI (G_9.2.1 (F a 48)) (l3_9.toInt - 1)) ∧ (aI (G_9.2.1 (F a 48)) (l3_9.toInt - 1)) < 30) ∧ (0 ≤ (aI (G_9.2.1 (F a 49)) (l3_9.toInt - 1)) ∧ (aI (G_9.2.1 (F a 49)) (l3_9.toInt - 1)) ≤ 12) ∧ (0 ≤ (aI (G_9.2.1 (F a 50)) (l3_9.toInt - 1)) ∧ (aI (G_9.2.1 (F a 50)) (l3_9.toInt - 1)) ≤ 30)) ∧ l3_9.toInt + (pn (mw (G_9.2.1 (F a 1)) 0)) ≤ 90)
    (c27 : (aI (G_9.2.1 (F a 49)) (l3_9.toInt - 1)) ≠ (12 : Int))
    (c45 : (aI (G_9.2.1 (F a 50)) (l3_9.toInt - 1)) = (30 : Int))
    (c_G79_F_a_50 : G79.2.1 (F a 50) = G_9.2.1 (F a 50)) :
    cst (refA (G.2.1 (F a 10))) (refT (G.2.1 (F a 10))) (refC (G.2.1 (F a 10))) (gst (G_9.2.1 (F a 47)) (G_9.2.1 (F a 48)) (G_9.2.1 (F a 49)) (G_9.2.1 (F a 50)) (Int.toNat (l3_9.toInt)), mw (G_9.2.1 (F a 1)) 0) = (gst (G_9.2.1 (F a 47)) (G_9.2.1 (F a 48)) (G79.2.1 (F a 49)) (G87.2.1 (F a 50)) (Int.toNat (l3_9.toInt)), mw (G_9.2.1 (F a 1)) 0) := by
  have t9 := gst_p (a := G_9.2.1 (F a 47)) (b := G_9.2.1 (F a 48)) (c := G_9.2.1 (F a 49)) (d := G_9.2.1 (F a 50)) (n := l3_9.toInt) (by omega)
  rw [t9, cst_nx (by omega) (by omega), gst_u (n := l3_9.toInt) (by omega) (aI_pu hG79 rfl e15 e78 (by omega)) (aI_pu hG87 c_G79_F_a_50 e15 (show ((0 : Int32)).toInt = 0 from by decide) (by omega))]
theorem v_X11_cutAll_224_6 {K : Nat → Nat} {F : Nat → Nat → Nat} (a : Nat) (G : XG) (G4 : XG) (G_9 : XG) (G79 : XG) (x15 : Int32) (x78 : Int32) (G87 : XG) (p0 : Int32) (p1 : Int32) (l3_9 : Int32) (x24 : Int32) (x42 : Int32) (x76 : Int32) (N9 : Nat)
    (ha : K a = 13)
    (rm : RM (G_9.2.1 (F a 1)) 0)
    (e15 : x15.toInt = (l3_9.toInt - (1 : Int)))
    (hv24 : x24.toInt = (aI (G_9.2.1 (F a 49)) (l3_9.toInt - 1)))
    (hv42 : x42.toInt = (aI (G_9.2.1 (F a 50)) (l3_9.toInt - 1)))
    (hv76 : x76.toInt = (aI (G_9.2.1 (F a 49)) (l3_9.toInt - 1)))
    (e78 : x78.toInt = ((aI (G_9.2.1 (F a 49)) (l3_9.toInt - 1)) + (1 : Int)))
    (e1 : 0 ≤ p0.toInt ∧ p0.toInt < 3)
    (e2 : 0 ≤ p1.toInt ∧ p1.toInt < 30)
    (e3 : (cel (mw (G.2.1 (F a 1)) 0) (p0.toInt) (p1.toInt) 0) ≠ -2000)
    (en8 : 0 ≤ (cmu (gst (G4.2.1 (F a 47)) (G4.2.1 (F a 48)) (G4.2.1 (F a 49)) (G4.2.1 (F a 50)) (Int.toNat 1), mw (G4.2.1 (F a 1)) 0)) ∧ (cmu (gst (G4.2.1 (F a 47)) (G4.2.1 (F a 48)) (G4.2.1 (F a 49)) (G4.2.1 (F a 50)) (Int.toNat 1), mw (G4.2.1 (F a 1)) 0)) < 40000)
    (I9_0 : 0 ≤ l3_9.toInt ∧ l3_9.toInt ≤ 90)
    (I9_1 : 0 ≤ (cmu (gst (G_9.2.1 (F a 47)) (G_9.2.1 (F a 48)) (G_9.2.1 (F a 49)) (G_9.2.1 (F a 50)) (Int.toNat (l3_9.toInt)), mw (G_9.2.1 (F a 1)) 0)))
    (hm9 : (cmu (gst (G_9.2.1 (F a 47)) (G_9.2.1 (F a 48)) (G_9.2.1 (F a 49)) (G_9.2.1 (F a 50)) (Int.toNat (l3_9.toInt)), mw (G_9.2.1 (F a 1)) 0)) < (((N9) + 1 : Nat) : Int))
    (c10 : ¬ (l3_9.toInt ≤ 0))
    (z13 : ((0 ≤ (aI (G_9.2.1 (F a 47)) (l3_9.toInt - 1)) ∧ (aI (G_9.2.1 (F a 47)) (l3_9.toInt - 1)) < 3) ∧ (0 ≤ (aI (G_9.2.1 (F a 48)) (l3_9.toInt - 1)) ∧ (aI (G_9.2.1 (F a 48)) (l3_9.toInt - 1)) < 30) ∧ (0 ≤ (aI (G_9.2.1 (F a 49)) (l3_9.toInt - 1)) ∧ (aI (G_9.2.1 (F a 49)) (l3_9.toInt - 1)) ≤ 12) ∧ (0 ≤ (aI (G_9.2.1 (F a 50)) (l3_9.toInt - 1)) ∧ (aI (G_9.2.1 (F a 50)) (l3_9.toInt - 1)) ≤ 30)) ∧ l3_9.toInt + (pn (mw (G_9.2.1 (F a 1)) 0)) ≤ 90)
    (c27 : (aI (G_9.2.1 (F a 49)) (l3_9.toInt - 1)) ≠ (12 : Int))
    (c45 : (aI (G_9.2.1 (F a 50)) (l3_9.toInt - 1)) = (30 : Int))
    (mu224 : (cmu (gst (G_9.2.1 (F a 47)) (G_9.2.1 (F a 48)) (G79.2.1 (F a 49)) (G87.2.1 (F a 50)) (Int.toNat (l3_9.toInt)), mw (G_9.2.1 (F a 1)) 0)) < (cmu (gst (G_9.2.1 (F a 47)) (G_9.2.1 (F a 48)) (G_9.2.1 (F a 49)) (G_9.2.1 (F a 50)) (Int.toNat (l3_9.toInt)), mw (G_9.2.1 (F a 1)) 0)) ∧ 0 ≤ (cmu (gst (G_9.2.1 (F a 47)) (G_9.2.1 (F a 48)) (G79.2.1 (F a 49)) (G87.2.1 (F a 50)) (Int.toNat (l3_9.toInt)), mw (G_9.2.1 (F a 1)) 0))) :
    RM (G_9.2.1 (F a 1)) 0 := by
  first
    | exact rm
    | exact oq218e
    | exact rm.set (t := aI (G.2.1 (F a 10)) (10 * aI (G_9.2.1 (F a 49)) (l3_9.toInt - 1) + 1)) (k := aI (G_9.2.1 (F a 50)) (l3_9.toInt - 1)) (c := aI (G.2.1 (F a 10)) (10 * aI (G_9.2.1 (F a 49)) (l3_9.toInt - 1) + 2)) (by omega) (by decide) (by omega) (aI_pu hG203 c_G119_F_a_1 rfl (show ((-1000 : Int32)).toInt = -1000 from by decide) (by omega)) (Or.inl rfl)
theorem v_X11_cutAll_224_7 {F : Nat → Nat → Nat} (a : Nat) (G : XG) (G_9 : XG) (G79 : XG) (G87 : XG) (l3_9 : Int32)
    (hR : RV (G.2.1 (F a 10)))
    (iv : CIv (gst (G_9.2.1 (F a 47)) (G_9.2.1 (F a 48)) (G_9.2.1 (F a 49)) (G_9.2.1 (F a 50)) (Int.toNat (l3_9.toInt)), mw (G_9.2.1 (F a 1)) 0))
    (cs224 : cst (refA (G.2.1 (F a 10))) (refT (G.2.1 (F a 10))) (refC (G.2.1 (F a 10))) (gst (G_9.2.1 (F a 47)) (G_9.2.1 (F a 48)) (G_9.2.1 (F a 49)) (G_9.2.1 (F a 50)) (Int.toNat (l3_9.toInt)), mw (G_9.2.1 (F a 1)) 0) = (gst (G_9.2.1 (F a 47)) (G_9.2.1 (F a 48)) (G79.2.1 (F a 49)) (G87.2.1 (F a 50)) (Int.toNat (l3_9.toInt)), mw (G_9.2.1 (F a 1)) 0)) :
    CIv (gst (G_9.2.1 (F a 47)) (G_9.2.1 (F a 48)) (G79.2.1 (F a 49)) (G87.2.1 (F a 50)) (Int.toNat (l3_9.toInt)), mw (G_9.2.1 (F a 1)) 0) := by
  exact (cm_st (refTo hR) iv cs224).1
theorem v_X11_cutAll_224_8 {F : Nat → Nat → Nat} (a : Nat) (G : XG) (G_9 : XG) (G79 : XG) (G87 : XG) (p0 : Int32) (p1 : Int32) (l3_9 : Int32)
    (hR : RV (G.2.1 (F a 10)))
    (iv : CIv (gst (G_9.2.1 (F a 47)) (G_9.2.1 (F a 48)) (G_9.2.1 (F a 49)) (G_9.2.1 (F a 50)) (Int.toNat (l3_9.toInt)), mw (G_9.2.1 (F a 1)) 0))
    (fi : cfin (refA (G.2.1 (F a 10))) (refT (G.2.1 (F a 10))) (refC (G.2.1 (F a 10))) (gst (G_9.2.1 (F a 47)) (G_9.2.1 (F a 48)) (G_9.2.1 (F a 49)) (G_9.2.1 (F a 50)) (Int.toNat (l3_9.toInt)), mw (G_9.2.1 (F a 1)) 0) = cfin (refA (G.2.1 (F a 10))) (refT (G.2.1 (F a 10))) (refC (G.2.1 (F a 10))) ([(p0.toInt, p1.toInt, 0, 0)], rfil (mw (G.2.1 (F a 1)) 0) p0.toInt p1.toInt (-2000) 3))
    (cs224 : cst (refA (G.2.1 (F a 10))) (refT (G.2.1 (F a 10))) (refC (G.2.1 (F a 10))) (gst (G_9.2.1 (F a 47)) (G_9.2.1 (F a 48)) (G_9.2.1 (F a 49)) (G_9.2.1 (F a 50)) (Int.toNat (l3_9.toInt)), mw (G_9.2.1 (F a 1)) 0) = (gst (G_9.2.1 (F a 47)) (G_9.2.1 (F a 48)) (G79.2.1 (F a 49)) (G87.2.1 (F a 50)) (Int.toNat (l3_9.toInt)), mw (G_9.2.1 (F a 1)) 0)) :
    cfin (refA (G.2.1 (F a 10))) (refT (G.2.1 (F a 10))) (refC (G.2.1 (F a 10))) (gst (G_9.2.1 (F a 47)) (G_9.2.1 (F a 48)) (G79.2.1 (F a 49)) (G87.2.1 (F a 50)) (Int.toNat (l3_9.toInt)), mw (G_9.2.1 (F a 1)) 0) = cfin (refA (G.2.1 (F a 10))) (refT (G.2.1 (F a 10))) (refC (G.2.1 (F a 10))) ([(p0.toInt, p1.toInt, 0, 0)], rfil (mw (G.2.1 (F a 1)) 0) p0.toInt p1.toInt (-2000) 3) := by
  exact (cm_st (refTo hR) iv cs224).2.trans fi
theorem v_X11_cutAll_224_9 {K : Nat → Nat} {F : Nat → Nat → Nat} (a : Nat) (G : XG) (G4 : XG) (G_9 : XG) (G119 : XG) (x15 : Int32) (x118 : Int32) (p0 : Int32) (p1 : Int32) (l3_9 : Int32) (x24 : Int32) (x42 : Int32) (x55 : Int32) (x62 : Int32) (x97 : Int32) (x106 : Int32) (x116 : Int32) (x124 : Int32) (x140 : Int32) (N9 : Nat) (x63 : Int32) (x129 : Int32)
    (ha : K a = 13)
    (hG119 : G119 = cput G_9 (F a 50) x15.toNatClampNeg x118)
    (e15 : x15.toInt = (l3_9.toInt - (1 : Int)))
    (hv24 : x24.toInt = (aI (G_9.2.1 (F a 49)) (l3_9.toInt - 1)))
    (hv42 : x42.toInt = (aI (G_9.2.1 (F a 50)) (l3_9.toInt - 1)))
    (hv55 : x55.toInt = (aI (G_9.2.1 (F a 49)) (l3_9.toInt - 1)))
    (hv62 : x62.toInt = (aI (G_9.2.1 (F a 47)) (l3_9.toInt - 1)))
    (hv97 : x97.toInt = (aI (G_9.2.1 (F a 49)) (l3_9.toInt - 1)))
    (hv106 : x106.toInt = (aI (G_9.2.1 (F a 50)) (l3_9.toInt - 1)))
    (hv116 : x116.toInt = (aI (G_9.2.1 (F a 50)) (l3_9.toInt - 1)))
    (e118 : x118.toInt = ((aI (G_9.2.1 (F a 50)) (l3_9.toInt - 1)) + (1 : Int)))
    (t124 : x124.toInt = (aI (G.2.1 (F a 10)) (10 * (aI (G_9.2.1 (F a 49)) (l3_9.toInt - 1)) + 1)))
    (hv140 : x140.toInt = (aI (G_9.2.1 (F a 1)) (0 + 4 * (30 * (aI (G.2.1 (F a 10)) (10 * (aI (G_9.2.1 (F a 49)) (l3_9.toInt - 1)) + 1)) + (aI (G_9.2.1 (F a 50)) (l3_9.toInt - 1))))))
    (e1 : 0 ≤ p0.toInt ∧ p0.toInt < 3)
    (e2 : 0 ≤ p1.toInt ∧ p1.toInt < 30)
    (e3 : (cel (mw (G.2.1 (F a 1)) 0) (p0.toInt) (p1.toInt) 0) ≠ -2000)
    (en8 : 0 ≤ (cmu (gst (G4.2.1 (F a 47)) (G4.2.1 (F a 48)) (G4.2.1 (F a 49)) (G4.2.1 (F a 50)) (Int.toNat 1), mw (G4.2.1 (F a 1)) 0)) ∧ (cmu (gst (G4.2.1 (F a 47)) (G4.2.1 (F a 48)) (G4.2.1 (F a 49)) (G4.2.1 (F a 50)) (Int.toNat 1), mw (G4.2.1 (F a 1)) 0)) < 40000)
    (I9_0 : 0 ≤ l3_9.toInt ∧ l3_9.toInt ≤ 90)
    (I9_1 : 0 ≤ (cmu (gst (G_9.2.1 (F a 47)) (G_9.2.1 (F a 48)) (G_9.2.1 (F a 49)) (G_9.2.1 (F a 50)) (Int.toNat (l3_9.toInt)), mw (G_9.2.1 (F a 1)) 0)))
    (hm9 : (cmu (gst (G_9.2.1 (F a 47)) (G_9.2.1 (F a 48)) (G_9.2.1 (F a 49)) (G_9.2.1 (F a 50)) (Int.toNat (l3_9.toInt)), mw (G_9.2.1 (F a 1)) 0)) < (((N9) + 1 : Nat) : Int))
    (c10 : ¬ (l3_9.toInt ≤ 0))
    (z13 : ((0 ≤ (aI (G_9.2.1 (F a 47)) (l3_9.toInt - 1)) ∧ (aI (G_9.2.1 (F a 47)) (l3_9.toInt - 1)) < 3) ∧ (0 ≤ (aI (G_9.2.1 (F a 48)) (l3_9.toInt - 1)) ∧ (aI (G_9.2.1 (F a 48)) (l3_9.toInt - 1)) < 30) ∧ (0 ≤ (aI (G_9.2.1 (F a 49)) (l3_9.toInt - 1)) ∧ (aI (G_9.2.1 (F a 49)) (l3_9.toInt - 1)) ≤ 12) ∧ (0 ≤ (aI (G_9.2.1 (F a 50)) (l3_9.toInt - 1)) ∧ (aI (G_9.2.1 (F a 50)) (l3_9.toInt - 1)) ≤ 30)) ∧ l3_9.toInt + (pn (mw (G_9.2.1 (F a 1)) 0)) ≤ 90)
    (c27 : (aI (G_9.2.1 (F a 49)) (l3_9.toInt - 1)) ≠ (12 : Int))
    (c45 : ¬ ((aI (G_9.2.1 (F a 50)) (l3_9.toInt - 1)) = (30 : Int)))
    (t63 : (x63.toInt = 1 ∧ 0 < (refA (G.2.1 (F a 10)) (aI (G_9.2.1 (F a 49)) (l3_9.toInt - 1)) (aI (G_9.2.1 (F a 47)) (l3_9.toInt - 1)))) ∨ (x63.toInt = 0 ∧ ¬ (0 < (refA (G.2.1 (F a 10)) (aI (G_9.2.1 (F a 49)) (l3_9.toInt - 1)) (aI (G_9.2.1 (F a 47)) (l3_9.toInt - 1))))))
    (c66 : x63.toInt ≠ 0)
    (z91 : ((0 ≤ (aI (G_9.2.1 (F a 49)) (l3_9.toInt - 1)) ∧ (aI (G_9.2.1 (F a 49)) (l3_9.toInt - 1)) < 12 ∧ (aI (G.2.1 (F a 10)) (10 * (aI (G_9.2.1 (F a 49)) (l3_9.toInt - 1)) + 0)) = 1 ∧ (aI (G.2.1 (F a 10)) (10 * (aI (G_9.2.1 (F a 49)) (l3_9.toInt - 1)) + 3)) = (aI (G_9.2.1 (F a 47)) (l3_9.toInt - 1))) ∧ (refA (G.2.1 (F a 10)) (aI (G_9.2.1 (F a 49)) (l3_9.toInt - 1)) (aI (G_9.2.1 (F a 47)) (l3_9.toInt - 1))) = (aI (G.2.1 (F a 10)) (10 * (aI (G_9.2.1 (F a 49)) (l3_9.toInt - 1)) + 8))) ∨ (¬ (0 ≤ (aI (G_9.2.1 (F a 49)) (l3_9.toInt - 1)) ∧ (aI (G_9.2.1 (F a 49)) (l3_9.toInt - 1)) < 12 ∧ (aI (G.2.1 (F a 10)) (10 * (aI (G_9.2.1 (F a 49)) (l3_9.toInt - 1)) + 0)) = 1 ∧ (aI (G.2.1 (F a 10)) (10 * (aI (G_9.2.1 (F a 49)) (l3_9.toInt - 1)) + 3)) = (aI (G_9.2.1 (F a 47)) (l3_9.toInt - 1))) ∧ (refA (G.2.1 (F a 10)) (aI (G_9.2.1 (F a 49)) (l3_9.toInt - 1)) (aI (G_9.2.1 (F a 47)) (l3_9.toInt - 1))) = 0))
    (z91a : (-1 ≤ (aI (G.2.1 (F a 10)) (10 * (aI (G_9.2.1 (F a 49)) (l3_9.toInt - 1)) + 0)) ∧ (aI (G.2.1 (F a 10)) (10 * (aI (G_9.2.1 (F a 49)) (l3_9.toInt - 1)) + 0)) ≤ 5) ∧ (0 ≤ (aI (G.2.1 (F a 10)) (10 * (aI (G_9.2.1 (F a 49)) (l3_9.toInt - 1)) + 1)) ∧ (aI (G.2.1 (F a 10)) (10 * (aI (G_9.2.1 (F a 49)) (l3_9.toInt - 1)) + 1)) ≤ 2) ∧ (0 ≤ (aI (G.2.1 (F a 10)) (10 * (aI (G_9.2.1 (F a 49)) (l3_9.toInt - 1)) + 2)) ∧ (aI (G.2.1 (F a 10)) (10 * (aI (G_9.2.1 (F a 49)) (l3_9.toInt - 1)) + 2)) ≤ 2))
    (t129 : 0 ≤ (aI (G.2.1 (F a 10)) (10 * (aI (G_9.2.1 (F a 49)) (l3_9.toInt - 1)) + 1)) ∧ (aI (G.2.1 (F a 10)) (10 * (aI (G_9.2.1 (F a 49)) (l3_9.toInt - 1)) + 1)) ≤ 2 ∧ 0 ≤ (aI (G_9.2.1 (F a 50)) (l3_9.toInt - 1)) ∧ (aI (G_9.2.1 (F a 50)) (l3_9.toInt - 1)) ≤ 29 → x129.toInt = 4 * (30 * (aI (G.2.1 (F a 10)) (10 * (aI (G_9.2.1 (F a 49)) (l3_9.toInt - 1)) + 1)) + (aI (G_9.2.1 (F a 50)) (l3_9.toInt - 1))))
    (z134 : ((aI (G_9.2.1 (F a 1)) (0 + 4 * (30 * (aI (G.2.1 (F a 10)) (10 * (aI (G_9.2.1 (F a 49)) (l3_9.toInt - 1)) + 1)) + (aI (G_9.2.1 (F a 50)) (l3_9.toInt - 1))))) = 0 ∧ (cel (mw (G_9.2.1 (F a 1)) 0) (aI (G.2.1 (F a 10)) (10 * (aI (G_9.2.1 (F a 49)) (l3_9.toInt - 1)) + 1)) (aI (G_9.2.1 (F a 50)) (l3_9.toInt - 1)) (aI (G.2.1 (F a 10)) (10 * (aI (G_9.2.1 (F a 49)) (l3_9.toInt - 1)) + 2))) = -2000) ∨ ((aI (G_9.2.1 (F a 1)) (0 + 4 * (30 * (aI (G.2.1 (F a 10)) (10 * (aI (G_9.2.1 (F a 49)) (l3_9.toInt - 1)) + 1)) + (aI (G_9.2.1 (F a 50)) (l3_9.toInt - 1))))) = 1 ∧ (cel (mw (G_9.2.1 (F a 1)) 0) (aI (G.2.1 (F a 10)) (10 * (aI (G_9.2.1 (F a 49)) (l3_9.toInt - 1)) + 1)) (aI (G_9.2.1 (F a 50)) (l3_9.toInt - 1)) (aI (G.2.1 (F a 10)) (10 * (aI (G_9.2.1 (F a 49)) (l3_9.toInt - 1)) + 2))) = (aI (G_9.2.1 (F a 1)) (0 + 4 * (30 * (aI (G.2.1 (F a 10)) (10 * (aI (G_9.2.1 (F a 49)) (l3_9.toInt - 1)) + 1)) + (aI (G_9.2.1 (F a 50)) (l3_9.toInt - 1))) + 1 + (aI (G.2.1 (F a 10)) (10 * (aI (G_9.2.1 (F a 49)) (l3_9.toInt - 1)) + 2))))))
    (c142 : (aI (G_9.2.1 (F a 1)) (0 + 4 * (30 * (aI (G.2.1 (F a 10)) (10 * (aI (G_9.2.1 (F a 49)) (l3_9.toInt - 1)) + 1)) + (aI (G_9.2.1 (F a 50)) (l3_9.toInt - 1))))) ≠ (1 : Int)) :
    cst (refA (G.2.1 (F a 10))) (refT (G.2.1 (F a 10))) (refC (G.2.1 (F a 10))) (gst (G_9.2.1 (F a 47)) (G_9.2.1 (F a 48)) (G_9.2.1 (F a 49)) (G_9.2.1 (F a 50)) (Int.toNat (l3_9.toInt)), mw (G_9.2.1 (F a 1)) 0) = (gst (G_9.2.1 (F a 47)) (G_9.2.1 (F a 48)) (G_9.2.1 (F a 49)) (G119.2.1 (F a 50)) (Int.toNat (l3_9.toInt)), mw (G_9.2.1 (F a 1)) 0) := by
  have t9 := gst_p (a := G_9.2.1 (F a 47)) (b := G_9.2.1 (F a 48)) (c := G_9.2.1 (F a 49)) (d := G_9.2.1 (F a 50)) (n := l3_9.toInt) (by omega)
  have rf := refT_f (f := G.2.1 (F a 10)) (r := aI (G_9.2.1 (F a 49)) (l3_9.toInt - 1)) (t := aI (G_9.2.1 (F a 47)) (l3_9.toInt - 1)) (by omega)
  have nk : cel (mw (G_9.2.1 (F a 1)) 0) (refT (G.2.1 (F a 10)) (aI (G_9.2.1 (F a 49)) (l3_9.toInt - 1))) (aI (G_9.2.1 (F a 50)) (l3_9.toInt - 1)) (refC (G.2.1 (F a 10)) (aI (G_9.2.1 (F a 49)) (l3_9.toInt - 1))) ≠ aI (G_9.2.1 (F a 48)) (l3_9.toInt - 1) := by rw [rf.2.1, rf.2.2.1]; omega
  rw [t9, cst_sk (by omega) (by omega) (by omega) nk, gst_n (n := l3_9.toInt) (by omega) (aI_pu hG119 rfl e15 e118 (by omega))]
theorem v_X11_cutAll_224_10 {K : Nat → Nat} {F : Nat → Nat → Nat} (a : Nat) (G : XG) (G4 : XG) (G_9 : XG) (G119 : XG) (x15 : Int32) (x118 : Int32) (p0 : Int32) (p1 : Int32) (l3_9 : Int32) (x24 : Int32) (x42 : Int32) (x55 : Int32) (x62 : Int32) (x97 : Int32) (x106 : Int32) (x116 : Int32) (x124 : Int32) (x140 : Int32) (N9 : Nat) (x63 : Int32) (x129 : Int32)
    (ha : K a = 13)
    (rm : RM (G_9.2.1 (F a 1)) 0)
    (e15 : x15.toInt = (l3_9.toInt - (1 : Int)))
    (hv24 : x24.toInt = (aI (G_9.2.1 (F a 49)) (l3_9.toInt - 1)))
    (hv42 : x42.toInt = (aI (G_9.2.1 (F a 50)) (l3_9.toInt - 1)))
    (hv55 : x55.toInt = (aI (G_9.2.1 (F a 49)) (l3_9.toInt - 1)))
    (hv62 : x62.toInt = (aI (G_9.2.1 (F a 47)) (l3_9.toInt - 1)))
    (hv97 : x97.toInt = (aI (G_9.2.1 (F a 49)) (l3_9.toInt - 1)))
    (hv106 : x106.toInt = (aI (G_9.2.1 (F a 50)) (l3_9.toInt - 1)))
    (hv116 : x116.toInt = (aI (G_9.2.1 (F a 50)) (l3_9.toInt - 1)))
    (e118 : x118.toInt = ((aI (G_9.2.1 (F a 50)) (l3_9.toInt - 1)) + (1 : Int)))
    (t124 : x124.toInt = (aI (G.2.1 (F a 10)) (10 * (aI (G_9.2.1 (F a 49)) (l3_9.toInt - 1)) + 1)))
    (hv140 : x140.toInt = (aI (G_9.2.1 (F a 1)) (0 + 4 * (30 * (aI (G.2.1 (F a 10)) (10 * (aI (G_9.2.1 (F a 49)) (l3_9.toInt - 1)) + 1)) + (aI (G_9.2.1 (F a 50)) (l3_9.toInt - 1))))))
    (e1 : 0 ≤ p0.toInt ∧ p0.toInt < 3)
    (e2 : 0 ≤ p1.toInt ∧ p1.toInt < 30)
    (e3 : (cel (mw (G.2.1 (F a 1)) 0) (p0.toInt) (p1.toInt) 0) ≠ -2000)
    (en8 : 0 ≤ (cmu (gst (G4.2.1 (F a 47)) (G4.2.1 (F a 48)) (G4.2.1 (F a 49)) (G4.2.1 (F a 50)) (Int.toNat 1), mw (G4.2.1 (F a 1)) 0)) ∧ (cmu (gst (G4.2.1 (F a 47)) (G4.2.1 (F a 48)) (G4.2.1 (F a 49)) (G4.2.1 (F a 50)) (Int.toNat 1), mw (G4.2.1 (F a 1)) 0)) < 40000)
    (I9_0 : 0 ≤ l3_9.toInt ∧ l3_9.toInt ≤ 90)
    (I9_1 : 0 ≤ (cmu (gst (G_9.2.1 (F a 47)) (G_9.2.1 (F a 48)) (G_9.2.1 (F a 49)) (G_9.2.1 (F a 50)) (Int.toNat (l3_9.toInt)), mw (G_9.2.1 (F a 1)) 0)))
    (hm9 : (cmu (gst (G_9.2.1 (F a 47)) (G_9.2.1 (F a 48)) (G_9.2.1 (F a 49)) (G_9.2.1 (F a 50)) (Int.toNat (l3_9.toInt)), mw (G_9.2.1 (F a 1)) 0)) < (((N9) + 1 : Nat) : Int))
    (c10 : ¬ (l3_9.toInt ≤ 0))
    (z13 : ((0 ≤ (aI (G_9.2.1 (F a 47)) (l3_9.toInt - 1)) ∧ (aI (G_9.2.1 (F a 47)) (l3_9.toInt - 1)) < 3) ∧ (0 ≤ (aI (G_9.2.1 (F a 48)) (l3_9.toInt - 1)) ∧ (aI (G_9.2.1 (F a 48)) (l3_9.toInt - 1)) < 30) ∧ (0 ≤ (aI (G_9.2.1 (F a 49)) (l3_9.toInt - 1)) ∧ (aI (G_9.2.1 (F a 49)) (l3_9.toInt - 1)) ≤ 12) ∧ (0 ≤ (aI (G_9.2.1 (F a 50)) (l3_9.toInt - 1)) ∧ (aI (G_9.2.1 (F a 50)) (l3_9.toInt - 1)) ≤ 30)) ∧ l3_9.toInt + (pn (mw (G_9.2.1 (F a 1)) 0)) ≤ 90)
    (c27 : (aI (G_9.2.1 (F a 49)) (l3_9.toInt - 1)) ≠ (12 : Int))
    (c45 : ¬ ((aI (G_9.2.1 (F a 50)) (l3_9.toInt - 1)) = (30 : Int)))
    (t63 : (x63.toInt = 1 ∧ 0 < (refA (G.2.1 (F a 10)) (aI (G_9.2.1 (F a 49)) (l3_9.toInt - 1)) (aI (G_9.2.1 (F a 47)) (l3_9.toInt - 1)))) ∨ (x63.toInt = 0 ∧ ¬ (0 < (refA (G.2.1 (F a 10)) (aI (G_9.2.1 (F a 49)) (l3_9.toInt - 1)) (aI (G_9.2.1 (F a 47)) (l3_9.toInt - 1))))))
    (c66 : x63.toInt ≠ 0)
    (z91 : ((0 ≤ (aI (G_9.2.1 (F a 49)) (l3_9.toInt - 1)) ∧ (aI (G_9.2.1 (F a 49)) (l3_9.toInt - 1)) < 12 ∧ (aI (G.2.1 (F a 10)) (10 * (aI (G_9.2.1 (F a 49)) (l3_9.toInt - 1)) + 0)) = 1 ∧ (aI (G.2.1 (F a 10)) (10 * (aI (G_9.2.1 (F a 49)) (l3_9.toInt - 1)) + 3)) = (aI (G_9.2.1 (F a 47)) (l3_9.toInt - 1))) ∧ (refA (G.2.1 (F a 10)) (aI (G_9.2.1 (F a 49)) (l3_9.toInt - 1)) (aI (G_9.2.1 (F a 47)) (l3_9.toInt - 1))) = (aI (G.2.1 (F a 10)) (10 * (aI (G_9.2.1 (F a 49)) (l3_9.toInt - 1)) + 8))) ∨ (¬ (0 ≤ (aI (G_9.2.1 (F a 49)) (l3_9.toInt - 1)) ∧ (aI (G_9.2.1 (F a 49)) (l3_9.toInt - 1)) < 12 ∧ (aI (G.2.1 (F a 10)) (10 * (aI (G_9.2.1 (F a 49)) (l3_9.toInt - 1)) + 0)) = 1 ∧ (aI (G.2.1 (F a 10)) (10 * (aI (G_9.2.1 (F a 49)) (l3_9.toInt - 1)) + 3)) = (aI (G_9.2.1 (F a 47)) (l3_9.toInt - 1))) ∧ (refA (G.2.1 (F a 10)) (aI (G_9.2.1 (F a 49)) (l3_9.toInt - 1)) (aI (G_9.2.1 (F a 47)) (l3_9.toInt - 1))) = 0))
    (z91a : (-1 ≤ (aI (G.2.1 (F a 10)) (10 * (aI (G_9.2.1 (F a 49)) (l3_9.toInt - 1)) + 0)) ∧ (aI (G.2.1 (F a 10)) (10 * (aI (G_9.2.1 (F a 49)) (l3_9.toInt - 1)) + 0)) ≤ 5) ∧ (0 ≤ (aI (G.2.1 (F a 10)) (10 * (aI (G_9.2.1 (F a 49)) (l3_9.toInt - 1)) + 1)) ∧ (aI (G.2.1 (F a 10)) (10 * (aI (G_9.2.1 (F a 49)) (l3_9.toInt - 1)) + 1)) ≤ 2) ∧ (0 ≤ (aI (G.2.1 (F a 10)) (10 * (aI (G_9.2.1 (F a 49)) (l3_9.toInt - 1)) + 2)) ∧ (aI (G.2.1 (F a 10)) (10 * (aI (G_9.2.1 (F a 49)) (l3_9.toInt - 1)) + 2)) ≤ 2))
    (t129 : 0 ≤ (aI (G.2.1 (F a 10)) (10 * (aI (G_9.2.1 (F a 49)) (l3_9.toInt - 1)) + 1)) ∧ (aI (G.2.1 (F a 10)) (10 * (aI (G_9.2.1 (F a 49)) (l3_9.toInt - 1)) + 1)) ≤ 2 ∧ 0 ≤ (aI (G_9.2.1 (F a 50)) (l3_9.toInt - 1)) ∧ (aI (G_9.2.1 (F a 50)) (l3_9.toInt - 1)) ≤ 29 → x129.toInt = 4 * (30 * (aI (G.2.1 (F a 10)) (10 * (aI (G_9.2.1 (F a 49)) (l3_9.toInt - 1)) + 1)) + (aI (G_9.2.1 (F a 50)) (l3_9.toInt - 1))))
    (z134 : ((aI (G_9.2.1 (F a 1)) (0 + 4 * (30 * (aI (G.2.1 (F a 10)) (10 * (aI (G_9.2.1 (F a 49)) (l3_9.toInt - 1)) + 1)) + (aI (G_9.2.1 (F a 50)) (l3_9.toInt - 1))))) = 0 ∧ (cel (mw (G_9.2.1 (F a 1)) 0) (aI (G.2.1 (F a 10)) (10 * (aI (G_9.2.1 (F a 49)) (l3_9.toInt - 1)) + 1)) (aI (G_9.2.1 (F a 50)) (l3_9.toInt - 1)) (aI (G.2.1 (F a 10)) (10 * (aI (G_9.2.1 (F a 49)) (l3_9.toInt - 1)) + 2))) = -2000) ∨ ((aI (G_9.2.1 (F a 1)) (0 + 4 * (30 * (aI (G.2.1 (F a 10)) (10 * (aI (G_9.2.1 (F a 49)) (l3_9.toInt - 1)) + 1)) + (aI (G_9.2.1 (F a 50)) (l3_9.toInt - 1))))) = 1 ∧ (cel (mw (G_9.2.1 (F a 1)) 0) (aI (G.2.1 (F a 10)) (10 * (aI (G_9.2.1 (F a 49)) (l3_9.toInt - 1)) + 1)) (aI (G_9.2.1 (F a 50)) (l3_9.toInt - 1)) (aI (G.2.1 (F a 10)) (10 * (aI (G_9.2.1 (F a 49)) (l3_9.toInt - 1)) + 2))) = (aI (G_9.2.1 (F a 1)) (0 + 4 * (30 * (aI (G.2.1 (F a 10)) (10 * (aI (G_9.2.1 (F a 49)) (l3_9.toInt - 1)) + 1)) + (aI (G_9.2.1 (F a 50)) (l3_9.toInt - 1))) + 1 + (aI (G.2.1 (F a 10)) (10 * (aI (G_9.2.1 (F a 49)) (l3_9.toInt - 1)) + 2))))))
    (c142 : (aI (G_9.2.1 (F a 1)) (0 + 4 * (30 * (aI (G.2.1 (F a 10)) (10 * (aI (G_9.2.1 (F a 49)) (l3_9.toInt - 1)) + 1)) + (aI (G_9.2.1 (F a 50)) (l3_9.toInt - 1))))) ≠ (1 : Int))
    (mu224 : (cmu (gst (G_9.2.1 (F a 47)) (G_9.2.1 (F a 48)) (G_9.2.1 (F a 49)) (G119.2.1 (F a 50)) (Int.toNat (l3_9.toInt)), mw (G_9.2.1 (F a 1)) 0)) < (cmu (gst (G_9.2.1 (F a 47)) (G_9.2.1 (F a 48)) (G_9.2.1 (F a 49)) (G_9.2.1 (F a 50)) (Int.toNat (l3_9.toInt)), mw (G_9.2.1 (F a 1)) 0)) ∧ 0 ≤ (cmu (gst (G_9.2.1 (F a 47)) (G_9.2.1 (F a 48)) (G_9.2.1 (F a 49)) (G119.2.1 (F a 50)) (Int.toNat (l3_9.toInt)), mw (G_9.2.1 (F a 1)) 0)))
    (c_G119_F_a_1 : G119.2.1 (F a 1) = G_9.2.1 (F a 1)) :
    RM (G_9.2.1 (F a 1)) 0 := by
  first
    | exact rm
    | exact oq218e
    | exact rm.set (t := aI (G.2.1 (F a 10)) (10 * aI (G_9.2.1 (F a 49)) (l3_9.toInt - 1) + 1)) (k := aI (G_9.2.1 (F a 50)) (l3_9.toInt - 1)) (c := aI (G.2.1 (F a 10)) (10 * aI (G_9.2.1 (F a 49)) (l3_9.toInt - 1) + 2)) (by omega) (by decide) (by omega) (aI_pu hG203 c_G119_F_a_1 rfl (show ((-1000 : Int32)).toInt = -1000 from by decide) (by omega)) (Or.inl rfl)
theorem v_X11_cutAll_224_11 {F : Nat → Nat → Nat} (a : Nat) (G : XG) (G_9 : XG) (G119 : XG) (l3_9 : Int32)
    (hR : RV (G.2.1 (F a 10)))
    (iv : CIv (gst (G_9.2.1 (F a 47)) (G_9.2.1 (F a 48)) (G_9.2.1 (F a 49)) (G_9.2.1 (F a 50)) (Int.toNat (l3_9.toInt)), mw (G_9.2.1 (F a 1)) 0))
    (cs224 : cst (refA (G.2.1 (F a 10))) (refT (G.2.1 (F a 10))) (refC (G.2.1 (F a 10))) (gst (G_9.2.1 (F a 47)) (G_9.2.1 (F a 48)) (G_9.2.1 (F a 49)) (G_9.2.1 (F a 50)) (Int.toNat (l3_9.toInt)), mw (G_9.2.1 (F a 1)) 0) = (gst (G_9.2.1 (F a 47)) (G_9.2.1 (F a 48)) (G_9.2.1 (F a 49)) (G119.2.1 (F a 50)) (Int.toNat (l3_9.toInt)), mw (G_9.2.1 (F a 1)) 0)) :
    CIv (gst (G_9.2.1 (F a 47)) (G_9.2.1 (F a 48)) (G_9.2.1 (F a 49)) (G119.2.1 (F a 50)) (Int.toNat (l3_9.toInt)), mw (G_9.2.1 (F a 1)) 0) := by
  exact (cm_st (refTo hR) iv cs224).1
theorem v_X11_cutAll_224_12 {F : Nat → Nat → Nat} (a : Nat) (G : XG) (G_9 : XG) (G119 : XG) (p0 : Int32) (p1 : Int32) (l3_9 : Int32)
    (hR : RV (G.2.1 (F a 10)))
    (iv : CIv (gst (G_9.2.1 (F a 47)) (G_9.2.1 (F a 48)) (G_9.2.1 (F a 49)) (G_9.2.1 (F a 50)) (Int.toNat (l3_9.toInt)), mw (G_9.2.1 (F a 1)) 0))
    (fi : cfin (refA (G.2.1 (F a 10))) (refT (G.2.1 (F a 10))) (refC (G.2.1 (F a 10))) (gst (G_9.2.1 (F a 47)) (G_9.2.1 (F a 48)) (G_9.2.1 (F a 49)) (G_9.2.1 (F a 50)) (Int.toNat (l3_9.toInt)), mw (G_9.2.1 (F a 1)) 0) = cfin (refA (G.2.1 (F a 10))) (refT (G.2.1 (F a 10))) (refC (G.2.1 (F a 10))) ([(p0.toInt, p1.toInt, 0, 0)], rfil (mw (G.2.1 (F a 1)) 0) p0.toInt p1.toInt (-2000) 3))
    (cs224 : cst (refA (G.2.1 (F a 10))) (refT (G.2.1 (F a 10))) (refC (G.2.1 (F a 10))) (gst (G_9.2.1 (F a 47)) (G_9.2.1 (F a 48)) (G_9.2.1 (F a 49)) (G_9.2.1 (F a 50)) (Int.toNat (l3_9.toInt)), mw (G_9.2.1 (F a 1)) 0) = (gst (G_9.2.1 (F a 47)) (G_9.2.1 (F a 48)) (G_9.2.1 (F a 49)) (G119.2.1 (F a 50)) (Int.toNat (l3_9.toInt)), mw (G_9.2.1 (F a 1)) 0)) :
    cfin (refA (G.2.1 (F a 10))) (refT (G.2.1 (F a 10))) (refC (G.2.1 (F a 10))) (gst (G_9.2.1 (F a 47)) (G_9.2.1 (F a 48)) (G_9.2.1 (F a 49)) (G119.2.1 (F a 50)) (Int.toNat (l3_9.toInt)), mw (G_9.2.1 (F a 1)) 0) = cfin (refA (G.2.1 (F a 10))) (refT (G.2.1 (F a 10))) (refC (G.2.1 (F a 10))) ([(p0.toInt, p1.toInt, 0, 0)], rfil (mw (G.2.1 (F a 1)) 0) p0.toInt p1.toInt (-2000) 3) := by
  exact (cm_st (refTo hR) iv cs224).2.trans fi
theorem v_X11_cutAll_224_13 {K : Nat → Nat} {F : Nat → Nat → Nat} (a : Nat) (G : XG) (G4 : XG) (G_9 : XG) (G119 : XG) (x15 : Int32) (x118 : Int32) (p0 : Int32) (p1 : Int32) (l3_9 : Int32) (x24 : Int32) (x42 : Int32) (x55 : Int32) (x62 : Int32) (x97 : Int32) (x106 : Int32) (x116 : Int32) (x124 : Int32) (x140 : Int32) (x157 : Int32) (x161 : Int32) (x168 : Int32) (N9 : Nat) (x63 : Int32) (x129 : Int32) (x152 : Int32) (x160 : Int32)
    (ha : K a = 13)
    (hG119 : G119 = cput G_9 (F a 50) x15.toNatClampNeg x118)
    (e15 : x15.toInt = (l3_9.toInt - (1 : Int)))
    (hv24 : x24.toInt = (aI (G_9.2.1 (F a 49)) (l3_9.toInt - 1)))
    (hv42 : x42.toInt = (aI (G_9.2.1 (F a 50)) (l3_9.toInt - 1)))
    (hv55 : x55.toInt = (aI (G_9.2.1 (F a 49)) (l3_9.toInt - 1)))
    (hv62 : x62.toInt = (aI (G_9.2.1 (F a 47)) (l3_9.toInt - 1)))
    (hv97 : x97.toInt = (aI (G_9.2.1 (F a 49)) (l3_9.toInt - 1)))
    (hv106 : x106.toInt = (aI (G_9.2.1 (F a 50)) (l3_9.toInt - 1)))
    (hv116 : x116.toInt = (aI (G_9.2.1 (F a 50)) (l3_9.toInt - 1)))
    (e118 : x118.toInt = ((aI (G_9.2.1 (F a 50)) (l3_9.toInt - 1)) + (1 : Int)))
    (t124 : x124.toInt = (aI (G.2.1 (F a 10)) (10 * (aI (G_9.2.1 (F a 49)) (l3_9.toInt - 1)) + 1)))
    (hv140 : x140.toInt = (aI (G_9.2.1 (F a 1)) (0 + 4 * (30 * (aI (G.2.1 (F a 10)) (10 * (aI (G_9.2.1 (F a 49)) (l3_9.toInt - 1)) + 1)) + (aI (G_9.2.1 (F a 50)) (l3_9.toInt - 1))))))
    (t157 : x157.toInt = (aI (G.2.1 (F a 10)) (10 * (aI (G_9.2.1 (F a 49)) (l3_9.toInt - 1)) + 2)))
    (hv161 : x161.toInt = (aI (G_9.2.1 (F a 1)) (0 + 4 * (30 * (aI (G.2.1 (F a 10)) (10 * (aI (G_9.2.1 (F a 49)) (l3_9.toInt - 1)) + 1)) + (aI (G_9.2.1 (F a 50)) (l3_9.toInt - 1))) + 1 + (aI (G.2.1 (F a 10)) (10 * (aI (G_9.2.1 (F a 49)) (l3_9.toInt - 1)) + 2)))))
    (hv168 : x168.toInt = (aI (G_9.2.1 (F a 48)) (l3_9.toInt - 1)))
    (e1 : 0 ≤ p0.toInt ∧ p0.toInt < 3)
    (e2 : 0 ≤ p1.toInt ∧ p1.toInt < 30)
    (e3 : (cel (mw (G.2.1 (F a 1)) 0) (p0.toInt) (p1.toInt) 0) ≠ -2000)
    (en8 : 0 ≤ (cmu (gst (G4.2.1 (F a 47)) (G4.2.1 (F a 48)) (G4.2.1 (F a 49)) (G4.2.1 (F a 50)) (Int.toNat 1), mw (G4.2.1 (F a 1)) 0)) ∧ (cmu (gst (G4.2.1 (F a 47)) (G4.2.1 (F a 48)) (G4.2.1 (F a 49)) (G4.2.1 (F a 50)) (Int.toNat 1), mw (G4.2.1 (F a 1)) 0)) < 40000)
    (I9_0 : 0 ≤ l3_9.toInt ∧ l3_9.toInt ≤ 90)
    (I9_1 : 0 ≤ (cmu (gst (G_9.2.1 (F a 47)) (G_9.2.1 (F a 48)) (G_9.2.1 (F a 49)) (G_9.2.1 (F a 50)) (Int.toNat (l3_9.toInt)), mw (G_9.2.1 (F a 1)) 0)))
    (hm9 : (cmu (gst (G_9.2.1 (F a 47)) (G_9.2.1 (F a 48)) (G_9.2.1 (F a 49)) (G_9.2.1 (F a 50)) (Int.toNat (l3_9.toInt)), mw (G_9.2.1 (F a 1)) 0)) < (((N9) + 1 : Nat) : Int))
    (c10 : ¬ (l3_9.toInt ≤ 0))
    (z13 : ((0 ≤ (aI (G_9.2.1 (F a 47)) (l3_9.toInt - 1)) ∧ (aI (G_9.2.1 (F a 47)) (l3_9.toInt - 1)) < 3) ∧ (0 ≤ (aI (G_9.2.1 (F a 48)) (l3_9.toInt - 1)) ∧ (aI (G_9.2.1 (F a 48)) (l3_9.toInt - 1)) < 30) ∧ (0 ≤ (aI (G_9.2.1 (F a 49)) (l3_9.toInt - 1)) ∧ (aI (G_9.2.1 (F a 49)) (l3_9.toInt - 1)) ≤ 12) ∧ (0 ≤ (aI (G_9.2.1 (F a 50)) (l3_9.toInt - 1)) ∧ (aI (G_9.2.1 (F a 50)) (l3_9.toInt - 1)) ≤ 30)) ∧ l3_9.toInt + (pn (mw (G_9.2.1 (F a 1)) 0)) ≤ 90)
    (c27 : (aI (G_9.2.1 (F a 49)) (l3_9.toInt - 1)) ≠ (12 : Int))
    (c45 : ¬ ((aI (G_9.2.1 (F a 50)) (l3_9.toInt - 1)) = (30 : Int)))
    (t63 : (x63.toInt = 1 ∧ 0 < (refA (G.2.1 (F a 10)) (aI (G_9.2.1 (F a 49)) (l3_9.toInt - 1)) (aI (G_9.2.1 (F a 47)) (l3_9.toInt - 1)))) ∨ (x63.toInt = 0 ∧ ¬ (0 < (refA (G.2.1 (F a 10)) (aI (G_9.2.1 (F a 49)) (l3_9.toInt - 1)) (aI (G_9.2.1 (F a 47)) (l3_9.toInt - 1))))))
    (c66 : x63.toInt ≠ 0)
    (z91 : ((0 ≤ (aI (G_9.2.1 (F a 49)) (l3_9.toInt - 1)) ∧ (aI (G_9.2.1 (F a 49)) (l3_9.toInt - 1)) < 12 ∧ (aI (G.2.1 (F a 10)) (10 * (aI (G_9.2.1 (F a 49)) (l3_9.toInt - 1)) + 0)) = 1 ∧ (aI (G.2.1 (F a 10)) (10 * (aI (G_9.2.1 (F a 49)) (l3_9.toInt - 1)) + 3)) = (aI (G_9.2.1 (F a 47)) (l3_9.toInt - 1))) ∧ (refA (G.2.1 (F a 10)) (aI (G_9.2.1 (F a 49)) (l3_9.toInt - 1)) (aI (G_9.2.1 (F a 47)) (l3_9.toInt - 1))) = (aI (G.2.1 (F a 10)) (10 * (aI (G_9.2.1 (F a 49)) (l3_9.toInt - 1)) + 8))) ∨ (¬ (0 ≤ (aI (G_9.2.1 (F a 49)) (l3_9.toInt - 1)) ∧ (aI (G_9.2.1 (F a 49)) (l3_9.toInt - 1)) < 12 ∧ (aI (G.2.1 (F a 10)) (10 * (aI (G_9.2.1 (F a 49)) (l3_9.toInt - 1)) + 0)) = 1 ∧ (aI (G.2.1 (F a 10)) (10 * (aI (G_9.2.1 (F a 49)) (l3_9.toInt - 1)) + 3)) = (aI (G_9.2.1 (F a 47)) (l3_9.toInt - 1))) ∧ (refA (G.2.1 (F a 10)) (aI (G_9.2.1 (F a 49)) (l3_9.toInt - 1)) (aI (G_9.2.1 (F a 47)) (l3_9.toInt - 1))) = 0))
    (z91a : (-1 ≤ (aI (G.2.1 (F a 10)) (10 * (aI (G_9.2.1 (F a 49)) (l3_9.toInt - 1)) + 0)) ∧ (aI (G.2.1 (F a 10)) (10 * (aI (G_9.2.1 (F a 49)) (l3_9.toInt - 1)) + 0)) ≤ 5) ∧ (0 ≤ (aI (G.2.1 (F a 10)) (10 * (aI (G_9.2.1 (F a 49)) (l3_9.toInt - 1)) + 1)) ∧ (aI (G.2.1 (F a 10)) (10 * (aI (G_9.2.1 (F a 49)) (l3_9.toInt - 1)) + 1)) ≤ 2) ∧ (0 ≤ (aI (G.2.1 (F a 10)) (10 * (aI (G_9.2.1 (F a 49)) (l3_9.toInt - 1)) + 2)) ∧ (aI (G.2.1 (F a 10)) (10 * (aI (G_9.2.1 (F a 49)) (l3_9.toInt - 1)) + 2)) ≤ 2))
    (t129 : 0 ≤ (aI (G.2.1 (F a 10)) (10 * (aI (G_9.2.1 (F a 49)) (l3_9.toInt - 1)) + 1)) ∧ (aI (G.2.1 (F a 10)) (10 * (aI (G_9.2.1 (F a 49)) (l3_9.toInt - 1)) + 1)) ≤ 2 ∧ 0 ≤ (aI (G_9.2.1 (F a 50)) (l3_9.toInt - 1)) ∧ (aI (G_9.2.1 (F a 50)) (l3_9.toInt - 1)) ≤ 29 → x129.toInt = 4 * (30 * (aI (G.2.1 (F a 10)) (10 * (aI (G_9.2.1 (F a 49)) (l3_9.toInt - 1)) + 1)) + (aI (G_9.2.1 (F a 50)) (l3_9.toInt - 1))))
    (z134 : ((aI (G_9.2.1 (F a 1)) (0 + 4 * (30 * (aI (G.2.1 (F a 10)) (10 * (aI (G_9.2.1 (F a 49)) (l3_9.toInt - 1)) + 1)) + (aI (G_9.2.1 (F a 50)) (l3_9.toInt - 1))))) = 0 ∧ (cel (mw (G_9.2.1 (F a 1)) 0) (aI (G.2.1 (F a 10)) (10 * (aI (G_9.2.1 (F a 49)) (l3_9.toInt - 1)) + 1)) (aI (G_9.2.1 (F a 50)) (l3_9.toInt - 1)) (aI (G.2.1 (F a 10)) (10 * (aI (G_9.2.1 (F a 49)) (l3_9.toInt - 1)) + 2))) = -2000) ∨ ((aI (G_9.2.1 (F a 1)) (0 + 4 * (30 * (aI (G.2.1 (F a 10)) (10 * (aI (G_9.2.1 (F a 49)) (l3_9.toInt - 1)) + 1)) + (aI (G_9.2.1 (F a 50)) (l3_9.toInt - 1))))) = 1 ∧ (cel (mw (G_9.2.1 (F a 1)) 0) (aI (G.2.1 (F a 10)) (10 * (aI (G_9.2.1 (F a 49)) (l3_9.toInt - 1)) + 1)) (aI (G_9.2.1 (F a 50)) (l3_9.toInt - 1)) (aI (G.2.1 (F a 10)) (10 * (aI (G_9.2.1 (F a 49)) (l3_9.toInt - 1)) + 2))) = (aI (G_9.2.1 (F a 1)) (0 + 4 * (30 * (aI (G.2.1 (F a 10)) (10 * (aI (G_9.2.1 (F a 49)) (l3_9.toInt - 1)) + 1)) + (aI (G_9.2.1 (F a 50)) (l3_9.toInt - 1))) + 1 + (aI (G.2.1 (F a 10)) (10 * (aI (G_9.2.1 (F a 49)) (l3_9.toInt - 1)) + 2))))))
    (c142 : ¬ ((aI (G_9.2.1 (F a 1)) (0 + 4 * (30 * (aI (G.2.1 (F a 10)) (10 * (aI (G_9.2.1 (F a 49)) (l3_9.toInt - 1)) + 1)) + (aI (G_9.2.1 (F a 50)) (l3_9.toInt - 1))))) ≠ (1 : Int)))
    (t152 : x152.toInt = x129.toInt + (1 : Int) ∨ x129.toInt + (1 : Int) < -2147483648 ∨ 2147483648 ≤ x129.toInt + (1 : Int))
    (t160 : x160.toInt = x152.toInt + (aI (G.2.1 (F a 10)) (10 * (aI (G_9.2.1 (F a 49)) (l3_9.toInt - 1)) + 2)) ∨ x152.toInt + (aI (G.2.1 (F a 10)) (10 * (aI (G_9.2.1 (F a 49)) (l3_9.toInt - 1)) + 2)) < -2147483648 ∨ 2147483648 ≤ x152.toInt + (aI (G.2.1 (F a 10)) (10 * (aI (G_9.2.1 (F a 49)) (l3_9.toInt - 1)) + 2)))
    (c169 : (aI (G_9.2.1 (F a 1)) (0 + 4 * (30 * (aI (G.2.1 (F a 10)) (10 * (aI (G_9.2.1 (F a 49)) (l3_9.toInt - 1)) + 1)) + (aI (G_9.2.1 (F a 50)) (l3_9.toInt - 1))) + 1 + (aI (G.2.1 (F a 10)) (10 * (aI (G_9.2.1 (F a 49)) (l3_9.toInt - 1)) + 2)))) ≠ (aI (G_9.2.1 (F a 48)) (l3_9.toInt - 1))) :
    cst (refA (G.2.1 (F a 10))) (refT (G.2.1 (F a 10))) (refC (G.2.1 (F a 10))) (gst (G_9.2.1 (F a 47)) (G_9.2.1 (F a 48)) (G_9.2.1 (F a 49)) (G_9.2.1 (F a 50)) (Int.toNat (l3_9.toInt)), mw (G_9.2.1 (F a 1)) 0) = (gst (G_9.2.1 (F a 47)) (G_9.2.1 (F a 48)) (G_9.2.1 (F a 49)) (G119.2.1 (F a 50)) (Int.toNat (l3_9.toInt)), mw (G_9.2.1 (F a 1)) 0) := by
  have t9 := gst_p (a := G_9.2.1 (F a 47)) (b := G_9.2.1 (F a 48)) (c := G_9.2.1 (F a 49)) (d := G_9.2.1 (F a 50)) (n := l3_9.toInt) (by omega)
  have rf := refT_f (f := G.2.1 (F a 10)) (r := aI (G_9.2.1 (F a 49)) (l3_9.toInt - 1)) (t := aI (G_9.2.1 (F a 47)) (l3_9.toInt - 1)) (by omega)
  have nk : cel (mw (G_9.2.1 (F a 1)) 0) (refT (G.2.1 (F a 10)) (aI (G_9.2.1 (F a 49)) (l3_9.toInt - 1))) (aI (G_9.2.1 (F a 50)) (l3_9.toInt - 1)) (refC (G.2.1 (F a 10)) (aI (G_9.2.1 (F a 49)) (l3_9.toInt - 1))) ≠ aI (G_9.2.1 (F a 48)) (l3_9.toInt - 1) := by rw [rf.2.1, rf.2.2.1]; omega
  rw [t9, cst_sk (by omega) (by omega) (by omega) nk, gst_n (n := l3_9.toInt) (by omega) (aI_pu hG119 rfl e15 e118 (by omega))]
theorem v_X11_cutAll_224_14 {K : Nat → Nat} {F : Nat → Nat → Nat} (a : Nat) (G : XG) (G4 : XG) (G_9 : XG) (G119 : XG) (x15 : Int32) (x118 : Int32) (p0 : Int32) (p1 : Int32) (l3_9 : Int32) (x24 : Int32) (x42 : Int32) (x55 : Int32) (x62 : Int32) (x97 : Int32) (x106 : Int32) (x116 : Int32) (x124 : Int32) (x140 : Int32) (x157 : Int32) (x161 : Int32) (x168 : Int32) (N9 : Nat) (x63 : Int32) (x129 : Int32) (x152 : Int32) (x160 : Int32)
    (ha : K a = 13)
    (rm : RM (G_9.2.1 (F a 1)) 0)
    (e15 : x15.toInt = (l3_9.toInt - (1 : Int)))
    (hv24 : x24.toInt = (aI (G_9.2.1 (F a 49)) (l3_9.toInt - 1)))
    (hv42 : x42.toInt = (aI (G_9.2.1 (F a 50)) (l3_9.toInt - 1)))
    (hv55 : x55.toInt = (aI (G_9.2.1 (F a 49)) (l3_9.toInt - 1)))
    (hv62 : x62.toInt = (aI (G_9.2.1 (F a 47)) (l3_9.toInt - 1)))
    (hv97 : x97.toInt = (aI (G_9.2.1 (F a 49)) (l3_9.toInt - 1)))
    (hv106 : x106.toInt = (aI (G_9.2.1 (F a 50)) (l3_9.toInt - 1)))
    (hv116 : x116.toInt = (aI (G_9.2.1 (F a 50)) (l3_9.toInt - 1)))
    (e118 : x118.toInt = ((aI (G_9.2.1 (F a 50)) (l3_9.toInt - 1)) + (1 : Int)))
    (t124 : x124.toInt = (aI (G.2.1 (F a 10)) (10 * (aI (G_9.2.1 (F a 49)) (l3_9.toInt - 1)) + 1)))
    (hv140 : x140.toInt = (aI (G_9.2.1 (F a 1)) (0 + 4 * (30 * (aI (G.2.1 (F a 10)) (10 * (aI (G_9.2.1 (F a 49)) (l3_9.toInt - 1)) + 1)) + (aI (G_9.2.1 (F a 50)) (l3_9.toInt - 1))))))
    (t157 : x157.toInt = (aI (G.2.1 (F a 10)) (10 * (aI (G_9.2.1 (F a 49)) (l3_9.toInt - 1)) + 2)))
    (hv161 : x161.toInt = (aI (G_9.2.1 (F a 1)) (0 + 4 * (30 * (aI (G.2.1 (F a 10)) (10 * (aI (G_9.2.1 (F a 49)) (l3_9.toInt - 1)) + 1)) + (aI (G_9.2.1 (F a 50)) (l3_9.toInt - 1))) + 1 + (aI (G.2.1 (F a 10)) (10 * (aI (G_9.2.1 (F a 49)) (l3_9.toInt - 1)) + 2)))))
    (hv168 : x168.toInt = (aI (G_9.2.1 (F a 48)) (l3_9.toInt - 1)))
    (e1 : 0 ≤ p0.toInt ∧ p0.toInt < 3)
    (e2 : 0 ≤ p1.toInt ∧ p1.toInt < 30)
    (e3 : (cel (mw (G.2.1 (F a 1)) 0) (p0.toInt) (p1.toInt) 0) ≠ -2000)
    (en8 : 0 ≤ (cmu (gst (G4.2.1 (F a 47)) (G4.2.1 (F a 48)) (G4.2.1 (F a 49)) (G4.2.1 (F a 50)) (Int.toNat 1), mw (G4.2.1 (F a 1)) 0)) ∧ (cmu (gst (G4.2.1 (F a 47)) (G4.2.1 (F a 48)) (G4.2.1 (F a 49)) (G4.2.1 (F a 50)) (Int.toNat 1), mw (G4.2.1 (F a 1)) 0)) < 40000)
    (I9_0 : 0 ≤ l3_9.toInt ∧ l3_9.toInt ≤ 90)
    (I9_1 : 0 ≤ (cmu (gst (G_9.2.1 (F a 47)) (G_9.2.1 (F a 48)) (G_9.2.1 (F a 49)) (G_9.2.1 (F a 50)) (Int.toNat (l3_9.toInt)), mw (G_9.2.1 (F a 1)) 0)))
    (hm9 : (cmu (gst (G_9.2.1 (F a 47)) (G_9.2.1 (F a 48)) (G_9.2.1 (F a 49)) (G_9.2.1 (F a 50)) (Int.toNat (l3_9.toInt)), mw (G_9.2.1 (F a 1)) 0)) < (((N9) + 1 : Nat) : Int))
    (c10 : ¬ (l3_9.toInt ≤ 0))
    (z13 : ((0 ≤ (aI (G_9.2.1 (F a 47)) (l3_9.toInt - 1)) ∧ (aI (G_9.2.1 (F a 47)) (l3_9.toInt - 1)) < 3) ∧ (0 ≤ (aI (G_9.2.1 (F a 48)) (l3_9.toInt - 1)) ∧ (aI (G_9.2.1 (F a 48)) (l3_9.toInt - 1)) < 30) ∧ (0 ≤ (aI (G_9.2.1 (F a 49)) (l3_9.toInt - 1)) ∧ (aI (G_9.2.1 (F a 49)) (l3_9.toInt - 1)) ≤ 12) ∧ (0 ≤ (aI (G_9.2.1 (F a 50)) (l3_9.toInt - 1)) ∧ (aI (G_9.2.1 (F a 50)) (l3_9.toInt - 1)) ≤ 30)) ∧ l3_9.toInt + (pn (mw (G_9.2.1 (F a 1)) 0)) ≤ 90)
    (c27 : (aI (G_9.2.1 (F a 49)) (l3_9.toInt - 1)) ≠ (12 : Int))
    (c45 : ¬ ((aI (G_9.2.1 (F a 50)) (l3_9.toInt - 1)) = (30 : Int)))
    (t63 : (x63.toInt = 1 ∧ 0 < (refA (G.2.1 (F a 10)) (aI (G_9.2.1 (F a 49)) (l3_9.toInt - 1)) (aI (G_9.2.1 (F a 47)) (l3_9.toInt - 1)))) ∨ (x63.toInt = 0 ∧ ¬ (0 < (refA (G.2.1 (F a 10)) (aI (G_9.2.1 (F a 49)) (l3_9.toInt - 1)) (aI (G_9.2.1 (F a 47)) (l3_9.toInt - 1))))))
    (c66 : x63.toInt ≠ 0)
    (z91 : ((0 ≤ (aI (G_9.2.1 (F a 49)) (l3_9.toInt - 1)) ∧ (aI (G_9.2.1 (F a 49)) (l3_9.toInt - 1)) < 12 ∧ (aI (G.2.1 (F a 10)) (10 * (aI (G_9.2.1 (F a 49)) (l3_9.toInt - 1)) + 0)) = 1 ∧ (aI (G.2.1 (F a 10)) (10 * (aI (G_9.2.1 (F a 49)) (l3_9.toInt - 1)) + 3)) = (aI (G_9.2.1 (F a 47)) (l3_9.toInt - 1))) ∧ (refA (G.2.1 (F a 10)) (aI (G_9.2.1 (F a 49)) (l3_9.toInt - 1)) (aI (G_9.2.1 (F a 47)) (l3_9.toInt - 1))) = (aI (G.2.1 (F a 10)) (10 * (aI (G_9.2.1 (F a 49)) (l3_9.toInt - 1)) + 8))) ∨ (¬ (0 ≤ (aI (G_9.2.1 (F a 49)) (l3_9.toInt - 1)) ∧ (aI (G_9.2.1 (F a 49)) (l3_9.toInt - 1)) < 12 ∧ (aI (G.2.1 (F a 10)) (10 * (aI (G_9.2.1 (F a 49)) (l3_9.toInt - 1)) + 0)) = 1 ∧ (aI (G.2.1 (F a 10)) (10 * (aI (G_9.2.1 (F a 49)) (l3_9.toInt - 1)) + 3)) = (aI (G_9.2.1 (F a 47)) (l3_9.toInt - 1))) ∧ (refA (G.2.1 (F a 10)) (aI (G_9.2.1 (F a 49)) (l3_9.toInt - 1)) (aI (G_9.2.1 (F a 47)) (l3_9.toInt - 1))) = 0))
    (z91a : (-1 ≤ (aI (G.2.1 (F a 10)) (10 * (aI (G_9.2.1 (F a 49)) (l3_9.toInt - 1)) + 0)) ∧ (aI (G.2.1 (F a 10)) (10 * (aI (G_9.2.1 (F a 49)) (l3_9.toInt - 1)) + 0)) ≤ 5) ∧ (0 ≤ (aI (G.2.1 (F a 10)) (10 * (aI (G_9.2.1 (F a 49)) (l3_9.toInt - 1)) + 1)) ∧ (aI (G.2.1 (F a 10)) (10 * (aI (G_9.2.1 (F a 49)) (l3_9.toInt - 1)) + 1)) ≤ 2) ∧ (0 ≤ (aI (G.2.1 (F a 10)) (10 * (aI (G_9.2.1 (F a 49)) (l3_9.toInt - 1)) + 2)) ∧ (aI (G.2.1 (F a 10)) (10 * (aI (G_9.2.1 (F a 49)) (l3_9.toInt - 1)) + 2)) ≤ 2))
    (t129 : 0 ≤ (aI (G.2.1 (F a 10)) (10 * (aI (G_9.2.1 (F a 49)) (l3_9.toInt - 1)) + 1)) ∧ (aI (G.2.1 (F a 10)) (10 * (aI (G_9.2.1 (F a 49)) (l3_9.toInt - 1)) + 1)) ≤ 2 ∧ 0 ≤ (aI (G_9.2.1 (F a 50)) (l3_9.toInt - 1)) ∧ (aI (G_9.2.1 (F a 50)) (l3_9.toInt - 1)) ≤ 29 → x129.toInt = 4 * (30 * (aI (G.2.1 (F a 10)) (10 * (aI (G_9.2.1 (F a 49)) (l3_9.toInt - 1)) + 1)) + (aI (G_9.2.1 (F a 50)) (l3_9.toInt - 1))))
    (z134 : ((aI (G_9.2.1 (F a 1)) (0 + 4 * (30 * (aI (G.2.1 (F a 10)) (10 * (aI (G_9.2.1 (F a 49)) (l3_9.toInt - 1)) + 1)) + (aI (G_9.2.1 (F a 50)) (l3_9.toInt - 1))))) = 0 ∧ (cel (mw (G_9.2.1 (F a 1)) 0) (aI (G.2.1 (F a 10)) (10 * (aI (G_9.2.1 (F a 49)) (l3_9.toInt - 1)) + 1)) (aI (G_9.2.1 (F a 50)) (l3_9.toInt - 1)) (aI (G.2.1 (F a 10)) (10 * (aI (G_9.2.1 (F a 49)) (l3_9.toInt - 1)) + 2))) = -2000) ∨ ((aI (G_9.2.1 (F a 1)) (0 + 4 * (30 * (aI (G.2.1 (F a 10)) (10 * (aI (G_9.2.1 (F a 49)) (l3_9.toInt - 1)) + 1)) + (aI (G_9.2.1 (F a 50)) (l3_9.toInt - 1))))) = 1 ∧ (cel (mw (G_9.2.1 (F a 1)) 0) (aI (G.2.1 (F a 10)) (10 * (aI (G_9.2.1 (F a 49)) (l3_9.toInt - 1)) + 1)) (aI (G_9.2.1 (F a 50)) (l3_9.toInt - 1)) (aI (G.2.1 (F a 10)) (10 * (aI (G_9.2.1 (F a 49)) (l3_9.toInt - 1)) + 2))) = (aI (G_9.2.1 (F a 1)) (0 + 4 * (30 * (aI (G.2.1 (F a 10)) (10 * (aI (G_9.2.1 (F a 49)) (l3_9.toInt - 1)) + 1)) + (aI (G_9.2.1 (F a 50)) (l3_9.toInt - 1))) + 1 + (aI (G.2.1 (F a 10)) (10 * (aI (G_9.2.1 (F a 49)) (l3_9.toInt - 1)) + 2))))))
    (c142 : ¬ ((aI (G_9.2.1 (F a 1)) (0 + 4 * (30 * (aI (G.2.1 (F a 10)) (10 * (aI (G_9.2.1 (F a 49)) (l3_9.toInt - 1)) + 1)) + (aI (G_9.2.1 (F a 50)) (l3_9.toInt - 1))))) ≠ (1 : Int)))
    (t152 : x152.toInt = x129.toInt + (1 : Int) ∨ x129.toInt + (1 : Int) < -2147483648 ∨ 2147483648 ≤ x129.toInt + (1 : Int))
    (t160 : x160.toInt = x152.toInt + (aI (G.2.1 (F a 10)) (10 * (aI (G_9.2.1 (F a 49)) (l3_9.toInt - 1)) + 2)) ∨ x152.toInt + (aI (G.2.1 (F a 10)) (10 * (aI (G_9.2.1 (F a 49)) (l3_9.toInt - 1)) + 2)) < -2147483648 ∨ 2147483648 ≤ x152.toInt + (aI (G.2.1 (F a 10)) (10 * (aI (G_9.2.1 (F a 49)) (l3_9.toInt - 1)) + 2)))
    (c169 : (aI (G_9.2.1 (F a 1)) (0 + 4 * (30 * (aI (G.2.1 (F a 10)) (10 * (aI (G_9.2.1 (F a 49)) (l3_9.toInt - 1)) + 1)) + (aI (G_9.2.1 (F a 50)) (l3_9.toInt - 1))) + 1 + (aI (G.2.1 (F a 10)) (10 * (aI (G_9.2.1 (F a 49)) (l3_9.toInt - 1)) + 2)))) ≠ (aI (G_9.2.1 (F a 48)) (l3_9.toInt - 1)))
    (mu224 : (cmu (gst (G_9.2.1 (F a 47)) (G_9.2.1 (F a 48)) (G_9.2.1 (F a 49)) (G119.2.1 (F a 50)) (Int.toNat (l3_9.toInt)), mw (G_9.2.1 (F a 1)) 0)) < (cmu (gst (G_9.2.1 (F a 47)) (G_9.2.1 (F a 48)) (G_9.2.1 (F a 49)) (G_9.2.1 (F a 50)) (Int.toNat (l3_9.toInt)), mw (G_9.2.1 (F a 1)) 0)) ∧ 0 ≤ (cmu (gst (G_9.2.1 (F a 47)) (G_9.2.1 (F a 48)) (G_9.2.1 (F a 49)) (G119.2.1 (F a 50)) (Int.toNat (l3_9.toInt)), mw (G_9.2.1 (F a 1)) 0)))
    (c_G119_F_a_1 : G119.2.1 (F a 1) = G_9.2.1 (F a 1)) :
    RM (G_9.2.1 (F a 1)) 0 := by
  first
    | exact rm
    | exact oq218e
    | exact rm.set (t := aI (G.2.1 (F a 10)) (10 * aI (G_9.2.1 (F a 49)) (l3_9.toInt - 1) + 1)) (k := aI (G_9.2.1 (F a 50)) (l3_9.toInt - 1)) (c := aI (G.2.1 (F a 10)) (10 * aI (G_9.2.1 (F a 49)) (l3_9.toInt - 1) + 2)) (by omega) (by decide) (by omega) (aI_pu hG203 c_G119_F_a_1 rfl (show ((-1000 : Int32)).toInt = -1000 from by decide) (by omega)) (Or.inl rfl)
theorem v_X11_cutAll_224_15 {F : Nat → Nat → Nat} (a : Nat) (G : XG) (G_9 : XG) (G119 : XG) (l3_9 : Int32)
    (hR : RV (G.2.1 (F a 10)))
    (iv : CIv (gst (G_9.2.1 (F a 47)) (G_9.2.1 (F a 48)) (G_9.2.1 (F a 49)) (G_9.2.1 (F a 50)) (Int.toNat (l3_9.toInt)), mw (G_9.2.1 (F a 1)) 0))
    (cs224 : cst (refA (G.2.1 (F a 10))) (refT (G.2.1 (F a 10))) (refC (G.2.1 (F a 10))) (gst (G_9.2.1 (F a 47)) (G_9.2.1 (F a 48)) (G_9.2.1 (F a 49)) (G_9.2.1 (F a 50)) (Int.toNat (l3_9.toInt)), mw (G_9.2.1 (F a 1)) 0) = (gst (G_9.2.1 (F a 47)) (G_9.2.1 (F a 48)) (G_9.2.1 (F a 49)) (G119.2.1 (F a 50)) (Int.toNat (l3_9.toInt)), mw (G_9.2.1 (F a 1)) 0)) :
    CIv (gst (G_9.2.1 (F a 47)) (G_9.2.1 (F a 48)) (G_9.2.1 (F a 49)) (G119.2.1 (F a 50)) (Int.toNat (l3_9.toInt)), mw (G_9.2.1 (F a 1)) 0) := by
  exact (cm_st (refTo hR) iv cs224).1
theorem v_X11_cutAll_224_16 {F : Nat → Nat → Nat} (a : Nat) (G : XG) (G_9 : XG) (G119 : XG) (p0 : Int32) (p1 : Int32) (l3_9 : Int32)
    (hR : RV (G.2.1 (F a 10)))
    (iv : CIv (gst (G_9.2.1 (F a 47)) (G_9.2.1 (F a 48)) (G_9.2.1 (F a 49)) (G_9.2.1 (F a 50)) (Int.toNat (l3_9.toInt)), mw (G_9.2.1 (F a 1)) 0))
    (fi : cfin (refA (G.2.1 (F a 10))) (refT (G.2.1 (F a 10))) (refC (G.2.1 (F a 10))) (gst (G_9.2.1 (F a 47)) (G_9.2.1 (F a 48)) (G_9.2.1 (F a 49)) (G_9.2.1 (F a 50)) (Int.toNat (l3_9.toInt)), mw (G_9.2.1 (F a 1)) 0) = cfin (refA (G.2.1 (F a 10))) (refT (G.2.1 (F a 10))) (refC (G.2.1 (F a 10))) ([(p0.toInt, p1.toInt, 0, 0)], rfil (mw (G.2.1 (F a 1)) 0) p0.toInt p1.toInt (-2000) 3))
    (cs224 : cst (refA (G.2.1 (F a 10))) (refT (G.2.1 (F a 10))) (refC (G.2.1 (F a 10))) (gst (G_9.2.1 (F a 47)) (G_9.2.1 (F a 48)) (G_9.2.1 (F a 49)) (G_9.2.1 (F a 50)) (Int.toNat (l3_9.toInt)), mw (G_9.2.1 (F a 1)) 0) = (gst (G_9.2.1 (F a 47)) (G_9.2.1 (F a 48)) (G_9.2.1 (F a 49)) (G119.2.1 (F a 50)) (Int.toNat (l3_9.toInt)), mw (G_9.2.1 (F a 1)) 0)) :
    cfin (refA (G.2.1 (F a 10))) (refT (G.2.1 (F a 10))) (refC (G.2.1 (F a 10))) (gst (G_9.2.1 (F a 47)) (G_9.2.1 (F a 48)) (G_9.2.1 (F a 49)) (G119.2.1 (F a 50)) (Int.toNat (l3_9.toInt)), mw (G_9.2.1 (F a 1)) 0) = cfin (refA (G.2.1 (F a 10))) (refT (G.2.1 (F a 10))) (refC (G.2.1 (F a 10))) ([(p0.toInt, p1.toInt, 0, 0)], rfil (mw (G.2.1 (F a 1)) 0) p0.toInt p1.toInt (-2000) 3) := by
  exact (cm_st (refTo hR) iv cs224).2.trans fi
theorem v_X11_cutAll_218_17 {F : Nat → Nat → Nat} (a : Nat) (G : XG) (G4 : XG) (G_9 : XG) (G119 : XG)
    (hM : RM (G.2.1 (F a 1)) (0))
    (oq4e : RM (G4.2.1 (F a 1)) 0)
    (rm : RM (G_9.2.1 (F a 1)) 0)
    (c_G119_F_a_1 : G119.2.1 (F a 1) = G_9.2.1 (F a 1)) :
    RM (G119.2.1 (F a 1)) 0 := by simp only [c_G119_F_a_1]; assumption
theorem v_X11_cutAll_224_18 {K : Nat → Nat} {F : Nat → Nat → Nat} (a : Nat) (G : XG) (G4 : XG) (G_9 : XG) (G119 : XG) (x15 : Int32) (x118 : Int32) (G218 : XG) (p0 : Int32) (p1 : Int32) (l3_9 : Int32) (x24 : Int32) (x42 : Int32) (x55 : Int32) (x62 : Int32) (x97 : Int32) (x106 : Int32) (x116 : Int32) (x124 : Int32) (x140 : Int32) (x157 : Int32) (x161 : Int32) (x168 : Int32) (x177 : Int32) (x213 : Int32) (x221 : Int32) (N9 : Nat) (x63 : Int32) (x129 : Int32) (x152 : Int32) (x160 : Int32)
    (ha : K a = 13)
    (hG119 : G119 = cput G_9 (F a 50) x15.toNatClampNeg x118)
    (e15 : x15.toInt = (l3_9.toInt - (1 : Int)))
    (hv24 : x24.toInt = (aI (G_9.2.1 (F a 49)) (l3_9.toInt - 1)))
    (hv42 : x42.toInt = (aI (G_9.2.1 (F a 50)) (l3_9.toInt - 1)))
    (hv55 : x55.toInt = (aI (G_9.2.1 (F a 49)) (l3_9.toInt - 1)))
    (hv62 : x62.toInt = (aI (G_9.2.1 (F a 47)) (l3_9.toInt - 1)))
    (hv97 : x97.toInt = (aI (G_9.2.1 (F a 49)) (l3_9.toInt - 1)))
    (hv106 : x106.toInt = (aI (G_9.2.1 (F a 50)) (l3_9.toInt - 1)))
    (hv116 : x116.toInt = (aI (G_9.2.1 (F a 50)) (l3_9.toInt - 1)))
    (e118 : x118.toInt = ((aI (G_9.2.1 (F a 50)) (l3_9.toInt - 1)) + (1 : Int)))
    (t124 : x124.toInt = (aI (G.2.1 (F a 10)) (10 * (aI (G_9.2.1 (F a 49)) (l3_9.toInt - 1)) + 1)))
    (hv140 : x140.toInt = (aI (G_9.2.1 (F a 1)) (0 + 4 * (30 * (aI (G.2.1 (F a 10)) (10 * (aI (G_9.2.1 (F a 49)) (l3_9.toInt - 1)) + 1)) + (aI (G_9.2.1 (F a 50)) (l3_9.toInt - 1))))))
    (t157 : x157.toInt = (aI (G.2.1 (F a 10)) (10 * (aI (G_9.2.1 (F a 49)) (l3_9.toInt - 1)) + 2)))
    (hv161 : x161.toInt = (aI (G_9.2.1 (F a 1)) (0 + 4 * (30 * (aI (G.2.1 (F a 10)) (10 * (aI (G_9.2.1 (F a 49)) (l3_9.toInt - 1)) + 1)) + (aI (G_9.2.1 (F a 50)) (l3_9.toInt - 1))) + 1 + (aI (G.2.1 (F a 10)) (10 * (aI (G_9.2.1 (F a 49)) (l3_9.toInt - 1)) + 2)))))
    (hv168 : x168.toInt = (aI (G_9.2.1 (F a 48)) (l3_9.toInt - 1)))
    (t177 : x177.toInt = (aI (G.2.1 (F a 10)) (10 * (aI (G_9.2.1 (F a 49)) (l3_9.toInt - 1)) + 8)))
    (t213 : x213.toInt = (aI (G.2.1 (F a 10)) (10 * (aI (G_9.2.1 (F a 49)) (l3_9.toInt - 1)) + 1)))
    (oq218 : ∀ z : Int, 0 ≤ z → aI (G218.2.1 (F a 47)) z = if z = l3_9.toInt then (aI (G.2.1 (F a 10)) (10 * (aI (G_9.2.1 (F a 49)) (l3_9.toInt - 1)) + 1)) else aI (G_9.2.1 (F a 47)) z)
    (oq218a : ∀ z : Int, 0 ≤ z → aI (G218.2.1 (F a 48)) z = if z = l3_9.toInt then (aI (G_9.2.1 (F a 50)) (l3_9.toInt - 1)) else aI (G_9.2.1 (F a 48)) z)
    (oq218b : ∀ z : Int, 0 ≤ z → aI (G218.2.1 (F a 49)) z = if z = l3_9.toInt then 0 else aI (G_9.2.1 (F a 49)) z)
    (oq218c : ∀ z : Int, 0 ≤ z → aI (G218.2.1 (F a 50)) z = if z = l3_9.toInt then 0 else aI (G119.2.1 (F a 50)) z)
    (oq218d : mw (G218.2.1 (F a 1)) 0 = rfil (mw (G_9.2.1 (F a 1)) 0) (aI (G.2.1 (F a 10)) (10 * (aI (G_9.2.1 (F a 49)) (l3_9.toInt - 1)) + 1)) (aI (G_9.2.1 (F a 50)) (l3_9.toInt - 1)) (-2000) 3)
    (e221 : x221.toInt = (l3_9.toInt + 1))
    (e1 : 0 ≤ p0.toInt ∧ p0.toInt < 3)
    (e2 : 0 ≤ p1.toInt ∧ p1.toInt < 30)
    (e3 : (cel (mw (G.2.1 (F a 1)) 0) (p0.toInt) (p1.toInt) 0) ≠ -2000)
    (en8 : 0 ≤ (cmu (gst (G4.2.1 (F a 47)) (G4.2.1 (F a 48)) (G4.2.1 (F a 49)) (G4.2.1 (F a 50)) (Int.toNat 1), mw (G4.2.1 (F a 1)) 0)) ∧ (cmu (gst (G4.2.1 (F a 47)) (G4.2.1 (F a 48)) (G4.2.1 (F a 49)) (G4.2.1 (F a 50)) (Int.toNat 1), mw (G4.2.1 (F a 1)) 0)) < 40000)
    (I9_0 : 0 ≤ l3_9.toInt ∧ l3_9.toInt ≤ 90)
    (I9_1 : 0 ≤ (cmu (gst (G_9.2.1 (F a 47)) (G_9.2.1 (F a 48)) (G_9.2.1 (F a 49)) (G_9.2.1 (F a 50)) (Int.toNat (l3_9.toInt)), mw (G_9.2.1 (F a 1)) 0)))
    (hm9 : (cmu (gst (G_9.2.1 (F a 47)) (G_9.2.1 (F a 48)) (G_9.2.1 (F a 49)) (G_9.2.1 (F a 50)) (Int.toNat (l3_9.toInt)), mw (G_9.2.1 (F a 1)) 0)) < (((N9) + 1 : Nat) : Int))
    (c10 : ¬ (l3_9.toInt ≤ 0))
    (z13 : ((0 ≤ (aI (G_9.2.1 (F a 47)) (l3_9.toInt - 1)) ∧ (aI (G_9.2.1 (F a 47)) (l3_9.toInt - 1)) < 3) ∧ (0 ≤ (aI (G_9.2.1 (F a 48)) (l3_9.toInt - 1)) ∧ (aI (G_9.2.1 (F a 48)) (l3_9.toInt - 1)) < 30) ∧ (0 ≤ (aI (G_9.2.1 (F a 49)) (l3_9.toInt - 1)) ∧ (aI (G_9.2.1 (F a 49)) (l3_9.toInt - 1)) ≤ 12) ∧ (0 ≤ (aI (G_9.2.1 (F a 50)) (l3_9.toInt - 1)) ∧ (aI (G_9.2.1 (F a 50)) (l3_9.toInt - 1)) ≤ 30)) ∧ l3_9.toInt + (pn (mw (G_9.2.1 (F a 1)) 0)) ≤ 90)
    (c27 : (aI (G_9.2.1 (F a 49)) (l3_9.toInt - 1)) ≠ (12 : Int))
    (c45 : ¬ ((aI (G_9.2.1 (F a 50)) (l3_9.toInt - 1)) = (30 : Int)))
    (t63 : (x63.toInt = 1 ∧ 0 < (refA (G.2.1 (F a 10)) (aI (G_9.2.1 (F a 49)) (l3_9.toInt - 1)) (aI (G_9.2.1 (F a 47)) (l3_9.toInt - 1)))) ∨ (x63.toInt = 0 ∧ ¬ (0 < (refA (G.2.1 (F a 10)) (aI (G_9.2.1 (F a 49)) (l3_9.toInt - 1)) (aI (G_9.2.1 (F a 47)) (l3_9.toInt - 1))))))
    (c66 : x63.toInt ≠ 0)
    (z91 : ((0 ≤ (aI (G_9.2.1 (F a 49)) (l3_9.toInt - 1)) ∧ (aI (G_9.2.1 (F a 49)) (l3_9.toInt - 1)) < 12 ∧ (aI (G.2.1 (F a 10)) (10 * (aI (G_9.2.1 (F a 49)) (l3_9.toInt - 1)) + 0)) = 1 ∧ (aI (G.2.1 (F a 10)) (10 * (aI (G_9.2.1 (F a 49)) (l3_9.toInt - 1)) + 3)) = (aI (G_9.2.1 (F a 47)) (l3_9.toInt - 1))) ∧ (refA (G.2.1 (F a 10)) (aI (G_9.2.1 (F a 49)) (l3_9.toInt - 1)) (aI (G_9.2.1 (F a 47)) (l3_9.toInt - 1))) = (aI (G.2.1 (F a 10)) (10 * (aI (G_9.2.1 (F a 49)) (l3_9.toInt - 1)) + 8))) ∨ (¬ (0 ≤ (aI (G_9.2.1 (F a 49)) (l3_9.toInt - 1)) ∧ (aI (G_9.2.1 (F a 49)) (l3_9.toInt - 1)) < 12 ∧ (aI (G.2.1 (F a 10)) (10 * (aI (G_9.2.1 (F a 49)) (l3_9.toInt - 1)) + 0)) = 1 ∧ (aI (G.2.1 (F a 10)) (10 * (aI (G_9.2.1 (F a 49)) (l3_9.toInt - 1)) + 3)) = (aI (G_9.2.1 (F a 47)) (l3_9.toInt - 1))) ∧ (refA (G.2.1 (F a 10)) (aI (G_9.2.1 (F a 49)) (l3_9.toInt - 1)) (aI (G_9.2.1 (F a 47)) (l3_9.toInt - 1))) = 0))
    (z91a : (-1 ≤ (aI (G.2.1 (F a 10)) (10 * (aI (G_9.2.1 (F a 49)) (l3_9.toInt - 1)) + 0)) ∧ (aI (G.2.1 (F a 10)) (10 * (aI (G_9.2.1 (F a 49)) (l3_9.toInt - 1)) + 0)) ≤ 5) ∧ (0 ≤ (aI (G.2.1 (F a 10)) (10 * (aI (G_9.2.1 (F a 49)) (l3_9.toInt - 1)) + 1)) ∧ (aI (G.2.1 (F a 10)) (10 * (aI (G_9.2.1 (F a 49)) (l3_9.toInt - 1)) + 1)) ≤ 2) ∧ (0 ≤ (aI (G.2.1 (F a 10)) (10 * (aI (G_9.2.1 (F a 49)) (l3_9.toInt - 1)) + 2)) ∧ (aI (G.2.1 (F a 10)) (10 * (aI (G_9.2.1 (F a 49)) (l3_9.toInt - 1)) + 2)) ≤ 2))
    (t129 : 0 ≤ (aI (G.2.1 (F a 10)) (10 * (aI (G_9.2.1 (F a 49)) (l3_9.toInt - 1)) + 1)) ∧ (aI (G.2.1 (F a 10)) (10 * (aI (G_9.2.1 (F a 49)) (l3_9.toInt - 1)) + 1)) ≤ 2 ∧ 0 ≤ (aI (G_9.2.1 (F a 50)) (l3_9.toInt - 1)) ∧ (aI (G_9.2.1 (F a 50)) (l3_9.toInt - 1)) ≤ 29 → x129.toInt = 4 * (30 * (aI (G.2.1 (F a 10)) (10 * (aI (G_9.2.1 (F a 49)) (l3_9.toInt - 1)) + 1)) + (aI (G_9.2.1 (F a 50)) (l3_9.toInt - 1))))
    (z134 : ((aI (G_9.2.1 (F a 1)) (0 + 4 * (30 * (aI (G.2.1 (F a 10)) (10 * (aI (G_9.2.1 (F a 49)) (l3_9.toInt - 1)) + 1)) + (aI (G_9.2.1 (F a 50)) (l3_9.toInt - 1))))) = 0 ∧ (cel (mw (G_9.2.1 (F a 1)) 0) (aI (G.2.1 (F a 10)) (10 * (aI (G_9.2.1 (F a 49)) (l3_9.toInt - 1)) + 1)) (aI (G_9.2.1 (F a 50)) (l3_9.toInt - 1)) (aI (G.2.1 (F a 10)) (10 * (aI (G_9.2.1 (F a 49)) (l3_9.toInt - 1)) + 2))) = -2000) ∨ ((aI (G_9.2.1 (F a 1)) (0 + 4 * (30 * (aI (G.2.1 (F a 10)) (10 * (aI (G_9.2.1 (F a 49)) (l3_9.toInt - 1)) + 1)) + (aI (G_9.2.1 (F a 50)) (l3_9.toInt - 1))))) = 1 ∧ (cel (mw (G_9.2.1 (F a 1)) 0) (aI (G.2.1 (F a 10)) (10 * (aI (G_9.2.1 (F a 49)) (l3_9.toInt - 1)) + 1)) (aI (G_9.2.1 (F a 50)) (l3_9.toInt - 1)) (aI (G.2.1 (F a 10)) (10 * (aI (G_9.2.1 (F a 49)) (l3_9.toInt - 1)) + 2))) = (aI (G_9.2.1 (F a 1)) (0 + 4 * (30 * (aI (G.2.1 (F a 10)) (10 * (aI (G_9.2.1 (F a 49)) (l3_9.toInt - 1)) + 1)) + (aI (G_9.2.1 (F a 50)) (l3_9.toInt - 1))) + 1 + (aI (G.2.1 (F a 10)) (10 * (aI (G_9.2.1 (F a 49)) (l3_9.toInt - 1)) + 2))))))
    (c142 : ¬ ((aI (G_9.2.1 (F a 1)) (0 + 4 * (30 * (aI (G.2.1 (F a 10)) (10 * (aI (G_9.2.1 (F a 49)) (l3_9.toInt - 1)) + 1)) + (aI (G_9.2.1 (F a 50)) (l3_9.toInt - 1))))) ≠ (1 : Int)))
    (t152 : x152.toInt = x129.toInt + (1 : Int) ∨ x129.toInt + (1 : Int) < -2147483648 ∨ 2147483648 ≤ x129.toInt + (1 : Int))
    (t160 : x160.toInt = x152.toInt + (aI (G.2.1 (F a 10)) (10 * (aI (G_9.2.1 (F a 49)) (l3_9.toInt - 1)) + 2)) ∨ x152.toInt + (aI (G.2.1 (F a 10)) (10 * (aI (G_9.2.1 (F a 49)) (l3_9.toInt - 1)) + 2)) < -2147483648 ∨ 2147483648 ≤ x152.toInt + (aI (G.2.1 (F a 10)) (10 * (aI (G_9.2.1 (F a 49)) (l3_9.toInt - 1)) + 2)))
    (c169 : ¬ ((aI (G_9.2.1 (F a 1)) (0 + 4 * (30 * (aI (G.2.1 (F a 10)) (10 * (aI (G_9.2.1 (F a 49)) (l3_9.toInt - 1)) + 1)) + (aI (G_9.2.1 (F a 50)) (l3_9.toInt - 1))) + 1 + (aI (G.2.1 (F a 10)) (10 * (aI (G_9.2.1 (F a 49)) (l3_9.toInt - 1)) + 2)))) ≠ (aI (G_9.2.1 (F a 48)) (l3_9.toInt - 1))))
    (c181 : (aI (G.2.1 (F a 10)) (10 * (aI (G_9.2.1 (F a 49)) (l3_9.toInt - 1)) + 8)) ≠ (2 : Int))
    (z207 : 1 ≤ (pn (mw (G_9.2.1 (F a 1)) 0))) :
    cst (refA (G.2.1 (F a 10))) (refT (G.2.1 (F a 10))) (refC (G.2.1 (F a 10))) (gst (G_9.2.1 (F a 47)) (G_9.2.1 (F a 48)) (G_9.2.1 (F a 49)) (G_9.2.1 (F a 50)) (Int.toNat (l3_9.toInt)), mw (G_9.2.1 (F a 1)) 0) = (gst (G218.2.1 (F a 47)) (G218.2.1 (F a 48)) (G218.2.1 (F a 49)) (G218.2.1 (F a 50)) (Int.toNat (l3_9.toInt + 1)), mw (G218.2.1 (F a 1)) 0) := by
  have t9 := gst_p (a := G_9.2.1 (F a 47)) (b := G_9.2.1 (F a 48)) (c := G_9.2.1 (F a 49)) (d := G_9.2.1 (F a 50)) (n := l3_9.toInt) (by omega)
  have rf := refT_f (f := G.2.1 (F a 10)) (r := aI (G_9.2.1 (F a 49)) (l3_9.toInt - 1)) (t := aI (G_9.2.1 (F a 47)) (l3_9.toInt - 1)) (by omega)
  rw [t9, cst_go (by omega) (by omega) (by omega) (by omega) (by rw [rf.2.1, rf.2.2.1]; omega), gst_g (n := l3_9.toInt) (by omega) oq218 oq218a oq218b oq218c, gst_n (n := l3_9.toInt) (by omega) (aI_pu hG119 rfl e15 e118 (by omega)), rf.2.1, oq218d]
theorem v_X11_cutAll_224_19 {K : Nat → Nat} {F : Nat → Nat → Nat} (a : Nat) (G : XG) (G4 : XG) (G_9 : XG) (G119 : XG) (x15 : Int32) (x118 : Int32) (G218 : XG) (p0 : Int32) (p1 : Int32) (l3_9 : Int32) (x24 : Int32) (x42 : Int32) (x55 : Int32) (x62 : Int32) (x97 : Int32) (x106 : Int32) (x116 : Int32) (x124 : Int32) (x140 : Int32) (x157 : Int32) (x161 : Int32) (x168 : Int32) (x177 : Int32) (x213 : Int32) (x221 : Int32) (N9 : Nat) (x63 : Int32) (x129 : Int32) (x152 : Int32) (x160 : Int32)
    (ha : K a = 13)
    (rm : RM (G_9.2.1 (F a 1)) 0)
    (e15 : x15.toInt = (l3_9.toInt - (1 : Int)))
    (hv24 : x24.toInt = (aI (G_9.2.1 (F a 49)) (l3_9.toInt - 1)))
    (hv42 : x42.toInt = (aI (G_9.2.1 (F a 50)) (l3_9.toInt - 1)))
    (hv55 : x55.toInt = (aI (G_9.2.1 (F a 49)) (l3_9.toInt - 1)))
    (hv62 : x62.toInt = (aI (G_9.2.1 (F a 47)) (l3_9.toInt - 1)))
    (hv97 : x97.toInt = (aI (G_9.2.1 (F a 49)) (l3_9.toInt - 1)))
    (hv106 : x106.toInt = (aI (G_9.2.1 (F a 50)) (l3_9.toInt - 1)))
    (hv116 : x116.toInt = (aI (G_9.2.1 (F a 50)) (l3_9.toInt - 1)))
    (e118 : x118.toInt = ((aI (G_9.2.1 (F a 50)) (l3_9.toInt - 1)) + (1 : Int)))
    (t124 : x124.toInt = (aI (G.2.1 (F a 10)) (10 * (aI (G_9.2.1 (F a 49)) (l3_9.toInt - 1)) + 1)))
    (hv140 : x140.toInt = (aI (G_9.2.1 (F a 1)) (0 + 4 * (30 * (aI (G.2.1 (F a 10)) (10 * (aI (G_9.2.1 (F a 49)) (l3_9.toInt - 1)) + 1)) + (aI (G_9.2.1 (F a 50)) (l3_9.toInt - 1))))))
    (t157 : x157.toInt = (aI (G.2.1 (F a 10)) (10 * (aI (G_9.2.1 (F a 49)) (l3_9.toInt - 1)) + 2)))
    (hv161 : x161.toInt = (aI (G_9.2.1 (F a 1)) (0 + 4 * (30 * (aI (G.2.1 (F a 10)) (10 * (aI (G_9.2.1 (F a 49)) (l3_9.toInt - 1)) + 1)) + (aI (G_9.2.1 (F a 50)) (l3_9.toInt - 1))) + 1 + (aI (G.2.1 (F a 10)) (10 * (aI (G_9.2.1 (F a 49)) (l3_9.toInt - 1)) + 2)))))
    (hv168 : x168.toInt = (aI (G_9.2.1 (F a 48)) (l3_9.toInt - 1)))
    (t177 : x177.toInt = (aI (G.2.1 (F a 10)) (10 * (aI (G_9.2.1 (F a 49)) (l3_9.toInt - 1)) + 8)))
    (t213 : x213.toInt = (aI (G.2.1 (F a 10)) (10 * (aI (G_9.2.1 (F a 49)) (l3_9.toInt - 1)) + 1)))
    (oq218e : RM (G218.2.1 (F a 1)) 0)
    (e221 : x221.toInt = (l3_9.toInt + 1))
    (e1 : 0 ≤ p0.toInt ∧ p0.toInt < 3)
    (e2 : 0 ≤ p1.toInt ∧ p1.toInt < 30)
    (e3 : (cel (mw (G.2.1 (F a 1)) 0) (p0.toInt) (p1.toInt) 0) ≠ -2000)
    (en8 : 0 ≤ (cmu (gst (G4.2.1 (F a 47)) (G4.2.1 (F a 48)) (G4.2.1 (F a 49)) (G4.2.1 (F a 50)) (Int.toNat 1), mw (G4.2.1 (F a 1)) 0)) ∧ (cmu (gst (G4.2.1 (F a 47)) (G4.2.1 (F a 48)) (G4.2.1 (F a 49)) (G4.2.1 (F a 50)) (Int.toNat 1), mw (G4.2.1 (F a 1)) 0)) < 40000)
    (I9_0 : 0 ≤ l3_9.toInt ∧ l3_9.toInt ≤ 90)
    (I9_1 : 0 ≤ (cmu (gst (G_9.2.1 (F a 47)) (G_9.2.1 (F a 48)) (G_9.2.1 (F a 49)) (G_9.2.1 (F a 50)) (Int.toNat (l3_9.toInt)), mw (G_9.2.1 (F a 1)) 0)))
    (hm9 : (cmu (gst (G_9.2.1 (F a 47)) (G_9.2.1 (F a 48)) (G_9.2.1 (F a 49)) (G_9.2.1 (F a 50)) (Int.toNat (l3_9.toInt)), mw (G_9.2.1 (F a 1)) 0)) < (((N9) + 1 : Nat) : Int))
    (c10 : ¬ (l3_9.toInt ≤ 0))
    (z13 : ((0 ≤ (aI (G_9.2.1 (F a 47)) (l3_9.toInt - 1)) ∧ (aI (G_9.2.1 (F a 47)) (l3_9.toInt - 1)) < 3) ∧ (0 ≤ (aI (G_9.2.1 (F a 48)) (l3_9.toInt - 1)) ∧ (aI (G_9.2.1 (F a 48)) (l3_9.toInt - 1)) < 30) ∧ (0 ≤ (aI (G_9.2.1 (F a 49)) (l3_9.toInt - 1)) ∧ (aI (G_9.2.1 (F a 49)) (l3_9.toInt - 1)) ≤ 12) ∧ (0 ≤ (aI (G_9.2.1 (F a 50)) (l3_9.toInt - 1)) ∧ (aI (G_9.2.1 (F a 50)) (l3_9.toInt - 1)) ≤ 30)) ∧ l3_9.toInt + (pn (mw (G_9.2.1 (F a 1)) 0)) ≤ 90)
    (c27 : (aI (G_9.2.1 (F a 49)) (l3_9.toInt - 1)) ≠ (12 : Int))
    (c45 : ¬ ((aI (G_9.2.1 (F a 50)) (l3_9.toInt - 1)) = (30 : Int)))
    (t63 : (x63.toInt = 1 ∧ 0 < (refA (G.2.1 (F a 10)) (aI (G_9.2.1 (F a 49)) (l3_9.toInt - 1)) (aI (G_9.2.1 (F a 47)) (l3_9.toInt - 1)))) ∨ (x63.toInt = 0 ∧ ¬ (0 < (refA (G.2.1 (F a 10)) (aI (G_9.2.1 (F a 49)) (l3_9.toInt - 1)) (aI (G_9.2.1 (F a 47)) (l3_9.toInt - 1))))))
    (c66 : x63.toInt ≠ 0)
    (z91 : ((0 ≤ (aI (G_9.2.1 (F a 49)) (l3_9.toInt - 1)) ∧ (aI (G_9.2.1 (F a 49)) (l3_9.toInt - 1)) < 12 ∧ (aI (G.2.1 (F a 10)) (10 * (aI (G_9.2.1 (F a 49)) (l3_9.toInt - 1)) + 0)) = 1 ∧ (aI (G.2.1 (F a 10)) (10 * (aI (G_9.2.1 (F a 49)) (l3_9.toInt - 1)) + 3)) = (aI (G_9.2.1 (F a 47)) (l3_9.toInt - 1))) ∧ (refA (G.2.1 (F a 10)) (aI (G_9.2.1 (F a 49)) (l3_9.toInt - 1)) (aI (G_9.2.1 (F a 47)) (l3_9.toInt - 1))) = (aI (G.2.1 (F a 10)) (10 * (aI (G_9.2.1 (F a 49)) (l3_9.toInt - 1)) + 8))) ∨ (¬ (0 ≤ (aI (G_9.2.1 (F a 49)) (l3_9.toInt - 1)) ∧ (aI (G_9.2.1 (F a 49)) (l3_9.toInt - 1)) < 12 ∧ (aI (G.2.1 (F a 10)) (10 * (aI (G_9.2.1 (F a 49)) (l3_9.toInt - 1)) + 0)) = 1 ∧ (aI (G.2.1 (F a 10)) (10 * (aI (G_9.2.1 (F a 49)) (l3_9.toInt - 1)) + 3)) = (aI (G_9.2.1 (F a 47)) (l3_9.toInt - 1))) ∧ (refA (G.2.1 (F a 10)) (aI (G_9.2.1 (F a 49)) (l3_9.toInt - 1)) (aI (G_9.2.1 (F a 47)) (l3_9.toInt - 1))) = 0))
    (z91a : (-1 ≤ (aI (G.2.1 (F a 10)) (10 * (aI (G_9.2.1 (F a 49)) (l3_9.toInt - 1)) + 0)) ∧ (aI (G.2.1 (F a 10)) (10 * (aI (G_9.2.1 (F a 49)) (l3_9.toInt - 1)) + 0)) ≤ 5) ∧ (0 ≤ (aI (G.2.1 (F a 10)) (10 * (aI (G_9.2.1 (F a 49)) (l3_9.toInt - 1)) + 1)) ∧ (aI (G.2.1 (F a 10)) (10 * (aI (G_9.2.1 (F a 49)) (l3_9.toInt - 1)) + 1)) ≤ 2) ∧ (0 ≤ (aI (G.2.1 (F a 10)) (10 * (aI (G_9.2.1 (F a 49)) (l3_9.toInt - 1)) + 2)) ∧ (aI (G.2.1 (F a 10)) (10 * (aI (G_9.2.1 (F a 49)) (l3_9.toInt - 1)) + 2)) ≤ 2))
    (t129 : 0 ≤ (aI (G.2.1 (F a 10)) (10 * (aI (G_9.2.1 (F a 49)) (l3_9.toInt - 1)) + 1)) ∧ (aI (G.2.1 (F a 10)) (10 * (aI (G_9.2.1 (F a 49)) (l3_9.toInt - 1)) + 1)) ≤ 2 ∧ 0 ≤ (aI (G_9.2.1 (F a 50)) (l3_9.toInt - 1)) ∧ (aI (G_9.2.1 (F a 50)) (l3_9.toInt - 1)) ≤ 29 → x129.toInt = 4 * (30 * (aI (G.2.1 (F a 10)) (10 * (aI (G_9.2.1 (F a 49)) (l3_9.toInt - 1)) + 1)) + (aI (G_9.2.1 (F a 50)) (l3_9.toInt - 1))))
    (z134 : ((aI (G_9.2.1 (F a 1)) (0 + 4 * (30 * (aI (G.2.1 (F a 10)) (10 * (aI (G_9.2.1 (F a 49)) (l3_9.toInt - 1)) + 1)) + (aI (G_9.2.1 (F a 50)) (l3_9.toInt - 1))))) = 0 ∧ (cel (mw (G_9.2.1 (F a 1)) 0) (aI (G.2.1 (F a 10)) (10 * (aI (G_9.2.1 (F a 49)) (l3_9.toInt - 1)) + 1)) (aI (G_9.2.1 (F a 50)) (l3_9.toInt - 1)) (aI (G.2.1 (F a 10)) (10 * (aI (G_9.2.1 (F a 49)) (l3_9.toInt - 1)) + 2))) = -2000) ∨ ((aI (G_9.2.1 (F a 1)) (0 + 4 * (30 * (aI (G.2.1 (F a 10)) (10 * (aI (G_9.2.1 (F a 49)) (l3_9.toInt - 1)) + 1)) + (aI (G_9.2.1 (F a 50)) (l3_9.toInt - 1))))) = 1 ∧ (cel (mw (G_9.2.1 (F a 1)) 0) (aI (G.2.1 (F a 10)) (10 * (aI (G_9.2.1 (F a 49)) (l3_9.toInt - 1)) + 1)) (aI (G_9.2.1 (F a 50)) (l3_9.toInt - 1)) (aI (G.2.1 (F a 10)) (10 * (aI (G_9.2.1 (F a 49)) (l3_9.toInt - 1)) + 2))) = (aI (G_9.2.1 (F a 1)) (0 + 4 * (30 * (aI (G.2.1 (F a 10)) (10 * (aI (G_9.2.1 (F a 49)) (l3_9.toInt - 1)) + 1)) + (aI (G_9.2.1 (F a 50)) (l3_9.toInt - 1))) + 1 + (aI (G.2.1 (F a 10)) (10 * (aI (G_9.2.1 (F a 49)) (l3_9.toInt - 1)) + 2))))))
    (c142 : ¬ ((aI (G_9.2.1 (F a 1)) (0 + 4 * (30 * (aI (G.2.1 (F a 10)) (10 * (aI (G_9.2.1 (F a 49)) (l3_9.toInt - 1)) + 1)) + (aI (G_9.2.1 (F a 50)) (l3_9.toInt - 1))))) ≠ (1 : Int)))
    (t152 : x152.toInt = x129.toInt + (1 : Int) ∨ x129.toInt + (1 : Int) < -2147483648 ∨ 2147483648 ≤ x129.toInt + (1 : Int))
    (t160 : x160.toInt = x152.toInt + (aI (G.2.1 (F a 10)) (10 * (aI (G_9.2.1 (F a 49)) (l3_9.toInt - 1)) + 2)) ∨ x152.toInt + (aI (G.2.1 (F a 10)) (10 * (aI (G_9.2.1 (F a 49)) (l3_9.toInt - 1)) + 2)) < -2147483648 ∨ 2147483648 ≤ x152.toInt + (aI (G.2.1 (F a 10)) (10 * (aI (G_9.2.1 (F a 49)) (l3_9.toInt - 1)) + 2)))
    (c169 : ¬ ((aI (G_9.2.1 (F a 1)) (0 + 4 * (30 * (aI (G.2.1 (F a 10)) (10 * (aI (G_9.2.1 (F a 49)) (l3_9.toInt - 1)) + 1)) + (aI (G_9.2.1 (F a 50)) (l3_9.toInt - 1))) + 1 + (aI (G.2.1 (F a 10)) (10 * (aI (G_9.2.1 (F a 49)) (l3_9.toInt - 1)) + 2)))) ≠ (aI (G_9.2.1 (F a 48)) (l3_9.toInt - 1))))
    (c181 : (aI (G.2.1 (F a 10)) (10 * (aI (G_9.2.1 (F a 49)) (l3_9.toInt - 1)) + 8)) ≠ (2 : Int))
    (z207 : 1 ≤ (pn (mw (G_9.2.1 (F a 1)) 0)))
    (mu224 : (cmu (gst (G218.2.1 (F a 47)) (G218.2.1 (F a 48)) (G218.2.1 (F a 49)) (G218.2.1 (F a 50)) (Int.toNat (l3_9.toInt + 1)), mw (G218.2.1 (F a 1)) 0)) < (cmu (gst (G_9.2.1 (F a 47)) (G_9.2.1 (F a 48)) (G_9.2.1 (F a 49)) (G_9.2.1 (F a 50)) (Int.toNat (l3_9.toInt)), mw (G_9.2.1 (F a 1)) 0)) ∧ 0 ≤ (cmu (gst (G218.2.1 (F a 47)) (G218.2.1 (F a 48)) (G218.2.1 (F a 49)) (G218.2.1 (F a 50)) (Int.toNat (l3_9.toInt + 1)), mw (G218.2.1 (F a 1)) 0)))
    (c_G119_F_a_1 : G119.2.1 (F a 1) = G_9.2.1 (F a 1)) :
    RM (G218.2.1 (F a 1)) 0 := by
  first
    | exact rm
    | exact oq218e
    | exact rm.set (t := aI (G.2.1 (F a 10)) (10 * aI (G_9.2.1 (F a 49)) (l3_9.toInt - 1) + 1)) (k := aI (G_9.2.1 (F a 50)) (l3_9.toInt - 1)) (c := aI (G.2.1 (F a 10)) (10 * aI (G_9.2.1 (F a 49)) (l3_9.toInt - 1) + 2)) (by omega) (by decide) (by omega) (aI_pu hG203 c_G119_F_a_1 rfl (show ((-1000 : Int32)).toInt = -1000 from by decide) (by omega)) (Or.inl rfl)
theorem v_X11_cutAll_224_20 {F : Nat → Nat → Nat} (a : Nat) (G : XG) (G_9 : XG) (G218 : XG) (l3_9 : Int32)
    (hR : RV (G.2.1 (F a 10)))
    (iv : CIv (gst (G_9.2.1 (F a 47)) (G_9.2.1 (F a 48)) (G_9.2.1 (F a 49)) (G_9.2.1 (F a 50)) (Int.toNat (l3_9.toInt)), mw (G_9.2.1 (F a 1)) 0))
    (cs224 : cst (refA (G.2.1 (F a 10))) (refT (G.2.1 (F a 10))) (refC (G.2.1 (F a 10))) (gst (G_9.2.1 (F a 47)) (G_9.2.1 (F a 48)) (G_9.2.1 (F a 49)) (G_9.2.1 (F a 50)) (Int.toNat (l3_9.toInt)), mw (G_9.2.1 (F a 1)) 0) = (gst (G218.2.1 (F a 47)) (G218.2.1 (F a 48)) (G218.2.1 (F a 49)) (G218.2.1 (F a 50)) (Int.toNat (l3_9.toInt + 1)), mw (G218.2.1 (F a 1)) 0)) :
    CIv (gst (G218.2.1 (F a 47)) (G218.2.1 (F a 48)) (G218.2.1 (F a 49)) (G218.2.1 (F a 50)) (Int.toNat (l3_9.toInt + 1)), mw (G218.2.1 (F a 1)) 0) := by
  exact (cm_st (refTo hR) iv cs224).1
theorem v_X11_cutAll_224_21 {F : Nat → Nat → Nat} (a : Nat) (G : XG) (G_9 : XG) (G218 : XG) (p0 : Int32) (p1 : Int32) (l3_9 : Int32)
    (hR : RV (G.2.1 (F a 10)))
    (iv : CIv (gst (G_9.2.1 (F a 47)) (G_9.2.1 (F a 48)) (G_9.2.1 (F a 49)) (G_9.2.1 (F a 50)) (Int.toNat (l3_9.toInt)), mw (G_9.2.1 (F a 1)) 0))
    (fi : cfin (refA (G.2.1 (F a 10))) (refT (G.2.1 (F a 10))) (refC (G.2.1 (F a 10))) (gst (G_9.2.1 (F a 47)) (G_9.2.1 (F a 48)) (G_9.2.1 (F a 49)) (G_9.2.1 (F a 50)) (Int.toNat (l3_9.toInt)), mw (G_9.2.1 (F a 1)) 0) = cfin (refA (G.2.1 (F a 10))) (refT (G.2.1 (F a 10))) (refC (G.2.1 (F a 10))) ([(p0.toInt, p1.toInt, 0, 0)], rfil (mw (G.2.1 (F a 1)) 0) p0.toInt p1.toInt (-2000) 3))
    (cs224 : cst (refA (G.2.1 (F a 10))) (refT (G.2.1 (F a 10))) (refC (G.2.1 (F a 10))) (gst (G_9.2.1 (F a 47)) (G_9.2.1 (F a 48)) (G_9.2.1 (F a 49)) (G_9.2.1 (F a 50)) (Int.toNat (l3_9.toInt)), mw (G_9.2.1 (F a 1)) 0) = (gst (G218.2.1 (F a 47)) (G218.2.1 (F a 48)) (G218.2.1 (F a 49)) (G218.2.1 (F a 50)) (Int.toNat (l3_9.toInt + 1)), mw (G218.2.1 (F a 1)) 0)) :
    cfin (refA (G.2.1 (F a 10))) (refT (G.2.1 (F a 10))) (refC (G.2.1 (F a 10))) (gst (G218.2.1 (F a 47)) (G218.2.1 (F a 48)) (G218.2.1 (F a 49)) (G218.2.1 (F a 50)) (Int.toNat (l3_9.toInt + 1)), mw (G218.2.1 (F a 1)) 0) = cfin (refA (G.2.1 (F a 10))) (refT (G.2.1 (F a 10))) (refC (G.2.1 (F a 10))) ([(p0.toInt, p1.toInt, 0, 0)], rfil (mw (G.2.1 (F a 1)) 0) p0.toInt p1.toInt (-2000) 3) := by
  exact (cm_st (refTo hR) iv cs224).2.trans fi
theorem v_X11_cutAll_224_22 {K : Nat → Nat} {F : Nat → Nat → Nat} (a : Nat) (G : XG) (G4 : XG) (G_9 : XG) (G119 : XG) (x15 : Int32) (x118 : Int32) (G203 : XG) (x199 : Int32) (p0 : Int32) (p1 : Int32) (l3_9 : Int32) (x24 : Int32) (x42 : Int32) (x55 : Int32) (x62 : Int32) (x97 : Int32) (x106 : Int32) (x116 : Int32) (x124 : Int32) (x140 : Int32) (x157 : Int32) (x161 : Int32) (x168 : Int32) (x177 : Int32) (x196 : Int32) (N9 : Nat) (x63 : Int32) (x129 : Int32) (x152 : Int32) (x160 : Int32) (x191 : Int32)
    (ha : K a = 13)
    (hG119 : G119 = cput G_9 (F a 50) x15.toNatClampNeg x118)
    (hG203 : G203 = cput G119 (F a 1) x199.toNatClampNeg (-1000))
    (e15 : x15.toInt = (l3_9.toInt - (1 : Int)))
    (hv24 : x24.toInt = (aI (G_9.2.1 (F a 49)) (l3_9.toInt - 1)))
    (hv42 : x42.toInt = (aI (G_9.2.1 (F a 50)) (l3_9.toInt - 1)))
    (hv55 : x55.toInt = (aI (G_9.2.1 (F a 49)) (l3_9.toInt - 1)))
    (hv62 : x62.toInt = (aI (G_9.2.1 (F a 47)) (l3_9.toInt - 1)))
    (hv97 : x97.toInt = (aI (G_9.2.1 (F a 49)) (l3_9.toInt - 1)))
    (hv106 : x106.toInt = (aI (G_9.2.1 (F a 50)) (l3_9.toInt - 1)))
    (hv116 : x116.toInt = (aI (G_9.2.1 (F a 50)) (l3_9.toInt - 1)))
    (e118 : x118.toInt = ((aI (G_9.2.1 (F a 50)) (l3_9.toInt - 1)) + (1 : Int)))
    (t124 : x124.toInt = (aI (G.2.1 (F a 10)) (10 * (aI (G_9.2.1 (F a 49)) (l3_9.toInt - 1)) + 1)))
    (hv140 : x140.toInt = (aI (G_9.2.1 (F a 1)) (0 + 4 * (30 * (aI (G.2.1 (F a 10)) (10 * (aI (G_9.2.1 (F a 49)) (l3_9.toInt - 1)) + 1)) + (aI (G_9.2.1 (F a 50)) (l3_9.toInt - 1))))))
    (t157 : x157.toInt = (aI (G.2.1 (F a 10)) (10 * (aI (G_9.2.1 (F a 49)) (l3_9.toInt - 1)) + 2)))
    (hv161 : x161.toInt = (aI (G_9.2.1 (F a 1)) (0 + 4 * (30 * (aI (G.2.1 (F a 10)) (10 * (aI (G_9.2.1 (F a 49)) (l3_9.toInt - 1)) + 1)) + (aI (G_9.2.1 (F a 50)) (l3_9.toInt - 1))) + 1 + (aI (G.2.1 (F a 10)) (10 * (aI (G_9.2.1 (F a 49)) (l3_9.toInt - 1)) + 2)))))
    (hv168 : x168.toInt = (aI (G_9.2.1 (F a 48)) (l3_9.toInt - 1)))
    (t177 : x177.toInt = (aI (G.2.1 (F a 10)) (10 * (aI (G_9.2.1 (F a 49)) (l3_9.toInt - 1)) + 8)))
    (t196 : x196.toInt = (aI (G.2.1 (F a 10)) (10 * (aI (G_9.2.1 (F a 49)) (l3_9.toInt - 1)) + 2)))
    (e1 : 0 ≤ p0.toInt ∧ p0.toInt < 3)
    (e2 : 0 ≤ p1.toInt ∧ p1.toInt < 30)
    (e3 : (cel (mw (G.2.1 (F a 1)) 0) (p0.toInt) (p1.toInt) 0) ≠ -2000)
    (en8 : 0 ≤ (cmu (gst (G4.2.1 (F a 47)) (G4.2.1 (F a 48)) (G4.2.1 (F a 49)) (G4.2.1 (F a 50)) (Int.toNat 1), mw (G4.2.1 (F a 1)) 0)) ∧ (cmu (gst (G4.2.1 (F a 47)) (G4.2.1 (F a 48)) (G4.2.1 (F a 49)) (G4.2.1 (F a 50)) (Int.toNat 1), mw (G4.2.1 (F a 1)) 0)) < 40000)
    (I9_0 : 0 ≤ l3_9.toInt ∧ l3_9.toInt ≤ 90)
    (I9_1 : 0 ≤ (cmu (gst (G_9.2.1 (F a 47)) (G_9.2.1 (F a 48)) (G_9.2.1 (F a 49)) (G_9.2.1 (F a 50)) (Int.toNat (l3_9.toInt)), mw (G_9.2.1 (F a 1)) 0)))
    (hm9 : (cmu (gst (G_9.2.1 (F a 47)) (G_9.2.1 (F a 48)) (G_9.2.1 (F a 49)) (G_9.2.1 (F a 50)) (Int.toNat (l3_9.toInt)), mw (G_9.2.1 (F a 1)) 0)) < (((N9) + 1 : Nat) : Int))
    (c10 : ¬ (l3_9.toInt ≤ 0))
    (z13 : ((0 ≤ (aI (G_9.2.1 (F a 47)) (l3_9.toInt - 1)) ∧ (aI (G_9.2.1 (F a 47)) (l3_9.toInt - 1)) < 3) ∧ (0 ≤ (aI (G_9.2.1 (F a 48)) (l3_9.toInt - 1)) ∧ (aI (G_9.2.1 (F a 48)) (l3_9.toInt - 1)) < 30) ∧ (0 ≤ (aI (G_9.2.1 (F a 49)) (l3_9.toInt - 1)) ∧ (aI (G_9.2.1 (F a 49)) (l3_9.toInt - 1)) ≤ 12) ∧ (0 ≤ (aI (G_9.2.1 (F a 50)) (l3_9.toInt - 1)) ∧ (aI (G_9.2.1 (F a 50)) (l3_9.toInt - 1)) ≤ 30)) ∧ l3_9.toInt + (pn (mw (G_9.2.1 (F a 1)) 0)) ≤ 90)
    (c27 : (aI (G_9.2.1 (F a 49)) (l3_9.toInt - 1)) ≠ (12 : Int))
    (c45 : ¬ ((aI (G_9.2.1 (F a 50)) (l3_9.toInt - 1)) = (30 : Int)))
    (t63 : (x63.toInt = 1 ∧ 0 < (refA (G.2.1 (F a 10)) (aI (G_9.2.1 (F a 49)) (l3_9.toInt - 1)) (aI (G_9.2.1 (F a 47)) (l3_9.toInt - 1)))) ∨ (x63.toInt = 0 ∧ ¬ (0 < (refA (G.2.1 (F a 10)) (aI (G_9.2.1 (F a 49)) (l3_9.toInt - 1)) (aI (G_9.2.1 (F a 47)) (l3_9.toInt - 1))))))
    (c66 : x63.toInt ≠ 0)
    (z91 : ((0 ≤ (aI (G_9.2.1 (F a 49)) (l3_9.toInt - 1)) ∧ (aI (G_9.2.1 (F a 49)) (l3_9.toInt - 1)) < 12 ∧ (aI (G.2.1 (F a 10)) (10 * (aI (G_9.2.1 (F a 49)) (l3_9.toInt - 1)) + 0)) = 1 ∧ (aI (G.2.1 (F a 10)) (10 * (aI (G_9.2.1 (F a 49)) (l3_9.toInt - 1)) + 3)) = (aI (G_9.2.1 (F a 47)) (l3_9.toInt - 1))) ∧ (refA (G.2.1 (F a 10)) (aI (G_9.2.1 (F a 49)) (l3_9.toInt - 1)) (aI (G_9.2.1 (F a 47)) (l3_9.toInt - 1))) = (aI (G.2.1 (F a 10)) (10 * (aI (G_9.2.1 (F a 49)) (l3_9.toInt - 1)) + 8))) ∨ (¬ (0 ≤ (aI (G_9.2.1 (F a 49)) (l3_9.toInt - 1)) ∧ (aI (G_9.2.1 (F a 49)) (l3_9.toInt - 1)) < 12 ∧ (aI (G.2.1 (F a 10)) (10 * (aI (G_9.2.1 (F a 49)) (l3_9.toInt - 1)) + 0)) = 1 ∧ (aI (G.2.1 (F a 10)) (10 * (aI (G_9.2.1 (F a 49)) (l3_9.toInt - 1)) + 3)) = (aI (G_9.2.1 (F a 47)) (l3_9.toInt - 1))) ∧ (refA (G.2.1 (F a 10)) (aI (G_9.2.1 (F a 49)) (l3_9.toInt - 1)) (aI (G_9.2.1 (F a 47)) (l3_9.toInt - 1))) = 0))
    (z91a : (-1 ≤ (aI (G.2.1 (F a 10)) (10 * (aI (G_9.2.1 (F a 49)) (l3_9.toInt - 1)) + 0)) ∧ (aI (G.2.1 (F a 10)) (10 * (aI (G_9.2.1 (F a 49)) (l3_9.toInt - 1)) + 0)) ≤ 5) ∧ (0 ≤ (aI (G.2.1 (F a 10)) (10 * (aI (G_9.2.1 (F a 49)) (l3_9.toInt - 1)) + 1)) ∧ (aI (G.2.1 (F a 10)) (10 * (aI (G_9.2.1 (F a 49)) (l3_9.toInt - 1)) + 1)) ≤ 2) ∧ (0 ≤ (aI (G.2.1 (F a 10)) (10 * (aI (G_9.2.1 (F a 49)) (l3_9.toInt - 1)) + 2)) ∧ (aI (G.2.1 (F a 10)) (10 * (aI (G_9.2.1 (F a 49)) (l3_9.toInt - 1)) + 2)) ≤ 2))
    (t129 : 0 ≤ (aI (G.2.1 (F a 10)) (10 * (aI (G_9.2.1 (F a 49)) (l3_9.toInt - 1)) + 1)) ∧ (aI (G.2.1 (F a 10)) (10 * (aI (G_9.2.1 (F a 49)) (l3_9.toInt - 1)) + 1)) ≤ 2 ∧ 0 ≤ (aI (G_9.2.1 (F a 50)) (l3_9.toInt - 1)) ∧ (aI (G_9.2.1 (F a 50)) (l3_9.toInt - 1)) ≤ 29 → x129.toInt = 4 * (30 * (aI (G.2.1 (F a 10)) (10 * (aI (G_9.2.1 (F a 49)) (l3_9.toInt - 1)) + 1)) + (aI (G_9.2.1 (F a 50)) (l3_9.toInt - 1))))
    (z134 : ((aI (G_9.2.1 (F a 1)) (0 + 4 * (30 * (aI (G.2.1 (F a 10)) (10 * (aI (G_9.2.1 (F a 49)) (l3_9.toInt - 1)) + 1)) + (aI (G_9.2.1 (F a 50)) (l3_9.toInt - 1))))) = 0 ∧ (cel (mw (G_9.2.1 (F a 1)) 0) (aI (G.2.1 (F a 10)) (10 * (aI (G_9.2.1 (F a 49)) (l3_9.toInt - 1)) + 1)) (aI (G_9.2.1 (F a 50)) (l3_9.toInt - 1)) (aI (G.2.1 (F a 10)) (10 * (aI (G_9.2.1 (F a 49)) (l3_9.toInt - 1)) + 2))) = -2000) ∨ ((aI (G_9.2.1 (F a 1)) (0 + 4 * (30 * (aI (G.2.1 (F a 10)) (10 * (aI (G_9.2.1 (F a 49)) (l3_9.toInt - 1)) + 1)) + (aI (G_9.2.1 (F a 50)) (l3_9.toInt - 1))))) = 1 ∧ (cel (mw (G_9.2.1 (F a 1)) 0) (aI (G.2.1 (F a 10)) (10 * (aI (G_9.2.1 (F a 49)) (l3_9.toInt - 1)) + 1)) (aI (G_9.2.1 (F a 50)) (l3_9.toInt - 1)) (aI (G.2.1 (F a 10)) (10 * (aI (G_9.2.1 (F a 49)) (l3_9.toInt - 1)) + 2))) = (aI (G_9.2.1 (F a 1)) (0 + 4 * (30 * (aI (G.2.1 (F a 10)) (10 * (aI (G_9.2.1 (F a 49)) (l3_9.toInt - 1)) + 1)) + (aI (G_9.2.1 (F a 50)) (l3_9.toInt - 1))) + 1 + (aI (G.2.1 (F a 10)) (10 * (aI (G_9.2.1 (F a 49)) (l3_9.toInt - 1)) + 2))))))
    (c142 : ¬ ((aI (G_9.2.1 (F a 1)) (0 + 4 * (30 * (aI (G.2.1 (F a 10)) (10 * (aI (G_9.2.1 (F a 49)) (l3_9.toInt - 1)) + 1)) + (aI (G_9.2.1 (F a 50)) (l3_9.toInt - 1))))) ≠ (1 : Int)))
    (t152 : x152.toInt = x129.toInt + (1 : Int) ∨ x129.toInt + (1 : Int) < -2147483648 ∨ 2147483648 ≤ x129.toInt + (1 : Int))
    (t160 : x160.toInt = x152.toInt + (aI (G.2.1 (F a 10)) (10 * (aI (G_9.2.1 (F a 49)) (l3_9.toInt - 1)) + 2)) ∨ x152.toInt + (aI (G.2.1 (F a 10)) (10 * (aI (G_9.2.1 (F a 49)) (l3_9.toInt - 1)) + 2)) < -2147483648 ∨ 2147483648 ≤ x152.toInt + (aI (G.2.1 (F a 10)) (10 * (aI (G_9.2.1 (F a 49)) (l3_9.toInt - 1)) + 2)))
    (c169 : ¬ ((aI (G_9.2.1 (F a 1)) (0 + 4 * (30 * (aI (G.2.1 (F a 10)) (10 * (aI (G_9.2.1 (F a 49)) (l3_9.toInt - 1)) + 1)) + (aI (G_9.2.1 (F a 50)) (l3_9.toInt - 1))) + 1 + (aI (G.2.1 (F a 10)) (10 * (aI (G_9.2.1 (F a 49)) (l3_9.toInt - 1)) + 2)))) ≠ (aI (G_9.2.1 (F a 48)) (l3_9.toInt - 1))))
    (c181 : ¬ ((aI (G.2.1 (F a 10)) (10 * (aI (G_9.2.1 (F a 49)) (l3_9.toInt - 1)) + 8)) ≠ (2 : Int)))
    (t191 : x191.toInt = x129.toInt + (1 : Int) ∨ x129.toInt + (1 : Int) < -2147483648 ∨ 2147483648 ≤ x129.toInt + (1 : Int))
    (t199 : x199.toInt = x191.toInt + (aI (G.2.1 (F a 10)) (10 * (aI (G_9.2.1 (F a 49)) (l3_9.toInt - 1)) + 2)) ∨ x191.toInt + (aI (G.2.1 (F a 10)) (10 * (aI (G_9.2.1 (F a 49)) (l3_9.toInt - 1)) + 2)) < -2147483648 ∨ 2147483648 ≤ x191.toInt + (aI (G.2.1 (F a 10)) (10 * (aI (G_9.2.1 (F a 49)) (l3_9.toInt - 1)) + 2)))
    (c_G119_F_a_1 : G119.2.1 (F a 1) = G_9.2.1 (F a 1)) :
    cst (refA (G.2.1 (F a 10))) (refT (G.2.1 (F a 10))) (refC (G.2.1 (F a 10))) (gst (G_9.2.1 (F a 47)) (G_9.2.1 (F a 48)) (G_9.2.1 (F a 49)) (G_9.2.1 (F a 50)) (Int.toNat (l3_9.toInt)), mw (G_9.2.1 (F a 1)) 0) = (gst (G_9.2.1 (F a 47)) (G_9.2.1 (F a 48)) (G_9.2.1 (F a 49)) (G119.2.1 (F a 50)) (Int.toNat (l3_9.toInt)), mw (G203.2.1 (F a 1)) 0) := by
  have t9 := gst_p (a := G_9.2.1 (F a 47)) (b := G_9.2.1 (F a 48)) (c := G_9.2.1 (F a 49)) (d := G_9.2.1 (F a 50)) (n := l3_9.toInt) (by omega)
  have rf := refT_f (f := G.2.1 (F a 10)) (r := aI (G_9.2.1 (F a 49)) (l3_9.toInt - 1)) (t := aI (G_9.2.1 (F a 47)) (l3_9.toInt - 1)) (by omega)
  rw [t9, cst_cl (by omega) (by omega) (by omega) (by rw [rf.2.1, rf.2.2.1]; omega), gst_n (n := l3_9.toInt) (by omega) (aI_pu hG119 rfl e15 e118 (by omega)), rf.2.1, rf.2.2.1]
  have e1 := mw_set (b := 0) (t := aI (G.2.1 (F a 10)) (10 * aI (G_9.2.1 (F a 49)) (l3_9.toInt - 1) + 1)) (k := aI (G_9.2.1 (F a 50)) (l3_9.toInt - 1)) (c := aI (G.2.1 (F a 10)) (10 * aI (G_9.2.1 (F a 49)) (l3_9.toInt - 1) + 2)) (by omega) (by decide) (by omega) (aI_pu hG203 c_G119_F_a_1 rfl (show ((-1000 : Int32)).toInt = -1000 from by decide) (by omega)) (by omega)
  rw [e1]
theorem v_X11_cutAll_224_23 {K : Nat → Nat} {F : Nat → Nat → Nat} (a : Nat) (G : XG) (G4 : XG) (G_9 : XG) (G119 : XG) (x15 : Int32) (x118 : Int32) (G203 : XG) (x199 : Int32) (p0 : Int32) (p1 : Int32) (l3_9 : Int32) (x24 : Int32) (x42 : Int32) (x55 : Int32) (x62 : Int32) (x97 : Int32) (x106 : Int32) (x116 : Int32) (x124 : Int32) (x140 : Int32) (x157 : Int32) (x161 : Int32) (x168 : Int32) (x177 : Int32) (x196 : Int32) (N9 : Nat) (x63 : Int32) (x129 : Int32) (x152 : Int32) (x160 : Int32) (x191 : Int32)
    (ha : K a = 13)
    (hG203 : G203 = cput G119 (F a 1) x199.toNatClampNeg (-1000))
    (rm : RM (G_9.2.1 (F a 1)) 0)
    (e15 : x15.toInt = (l3_9.toInt - (1 : Int)))
    (hv24 : x24.toInt = (aI (G_9.2.1 (F a 49)) (l3_9.toInt - 1)))
    (hv42 : x42.toInt = (aI (G_9.2.1 (F a 50)) (l3_9.toInt - 1)))
    (hv55 : x55.toInt = (aI (G_9.2.1 (F a 49)) (l3_9.toInt - 1)))
    (hv62 : x62.toInt = (aI (G_9.2.1 (F a 47)) (l3_9.toInt - 1)))
    (hv97 : x97.toInt = (aI (G_9.2.1 (F a 49)) (l3_9.toInt - 1)))
    (hv106 : x106.toInt = (aI (G_9.2.1 (F a 50)) (l3_9.toInt - 1)))
    (hv116 : x116.toInt = (aI (G_9.2.1 (F a 50)) (l3_9.toInt - 1)))
    (e118 : x118.toInt = ((aI (G_9.2.1 (F a 50)) (l3_9.toInt - 1)) + (1 : Int)))
    (t124 : x124.toInt = (aI (G.2.1 (F a 10)) (10 * (aI (G_9.2.1 (F a 49)) (l3_9.toInt - 1)) + 1)))
    (hv140 : x140.toInt = (aI (G_9.2.1 (F a 1)) (0 + 4 * (30 * (aI (G.2.1 (F a 10)) (10 * (aI (G_9.2.1 (F a 49)) (l3_9.toInt - 1)) + 1)) + (aI (G_9.2.1 (F a 50)) (l3_9.toInt - 1))))))
    (t157 : x157.toInt = (aI (G.2.1 (F a 10)) (10 * (aI (G_9.2.1 (F a 49)) (l3_9.toInt - 1)) + 2)))
    (hv161 : x161.toInt = (aI (G_9.2.1 (F a 1)) (0 + 4 * (30 * (aI (G.2.1 (F a 10)) (10 * (aI (G_9.2.1 (F a 49)) (l3_9.toInt - 1)) + 1)) + (aI (G_9.2.1 (F a 50)) (l3_9.toInt - 1))) + 1 + (aI (G.2.1 (F a 10)) (10 * (aI (G_9.2.1 (F a 49)) (l3_9.toInt - 1)) + 2)))))
    (hv168 : x168.toInt = (aI (G_9.2.1 (F a 48)) (l3_9.toInt - 1)))
    (t177 : x177.toInt = (aI (G.2.1 (F a 10)) (10 * (aI (G_9.2.1 (F a 49)) (l3_9.toInt - 1)) + 8)))
    (t196 : x196.toInt = (aI (G.2.1 (F a 10)) (10 * (aI (G_9.2.1 (F a 49)) (l3_9.toInt - 1)) + 2)))
    (e1 : 0 ≤ p0.toInt ∧ p0.toInt < 3)
    (e2 : 0 ≤ p1.toInt ∧ p1.toInt < 30)
    (e3 : (cel (mw (G.2.1 (F a 1)) 0) (p0.toInt) (p1.toInt) 0) ≠ -2000)
    (en8 : 0 ≤ (cmu (gst (G4.2.1 (F a 47)) (G4.2.1 (F a 48)) (G4.2.1 (F a 49)) (G4.2.1 (F a 50)) (Int.toNat 1), mw (G4.2.1 (F a 1)) 0)) ∧ (cmu (gst (G4.2.1 (F a 47)) (G4.2.1 (F a 48)) (G4.2.1 (F a 49)) (G4.2.1 (F a 50)) (Int.toNat 1), mw (G4.2.1 (F a 1)) 0)) < 40000)
    (I9_0 : 0 ≤ l3_9.toInt ∧ l3_9.toInt ≤ 90)
    (I9_1 : 0 ≤ (cmu (gst (G_9.2.1 (F a 47)) (G_9.2.1 (F a 48)) (G_9.2.1 (F a 49)) (G_9.2.1 (F a 50)) (Int.toNat (l3_9.toInt)), mw (G_9.2.1 (F a 1)) 0)))
    (hm9 : (cmu (gst (G_9.2.1 (F a 47)) (G_9.2.1 (F a 48)) (G_9.2.1 (F a 49)) (G_9.2.1 (F a 50)) (Int.toNat (l3_9.toInt)), mw (G_9.2.1 (F a 1)) 0)) < (((N9) + 1 : Nat) : Int))
    (c10 : ¬ (l3_9.toInt ≤ 0))
    (z13 : ((0 ≤ (aI (G_9.2.1 (F a 47)) (l3_9.toInt - 1)) ∧ (aI (G_9.2.1 (F a 47)) (l3_9.toInt - 1)) < 3) ∧ (0 ≤ (aI (G_9.2.1 (F a 48)) (l3_9.toInt - 1)) ∧ (aI (G_9.2.1 (F a 48)) (l3_9.toInt - 1)) < 30) ∧ (0 ≤ (aI (G_9.2.1 (F a 49)) (l3_9.toInt - 1)) ∧ (aI (G_9.2.1 (F a 49)) (l3_9.toInt - 1)) ≤ 12) ∧ (0 ≤ (aI (G_9.2.1 (F a 50)) (l3_9.toInt - 1)) ∧ (aI (G_9.2.1 (F a 50)) (l3_9.toInt - 1)) ≤ 30)) ∧ l3_9.toInt + (pn (mw (G_9.2.1 (F a 1)) 0)) ≤ 90)
    (c27 : (aI (G_9.2.1 (F a 49)) (l3_9.toInt - 1)) ≠ (12 : Int))
    (c45 : ¬ ((aI (G_9.2.1 (F a 50)) (l3_9.toInt - 1)) = (30 : Int)))
    (t63 : (x63.toInt = 1 ∧ 0 < (refA (G.2.1 (F a 10)) (aI (G_9.2.1 (F a 49)) (l3_9.toInt - 1)) (aI (G_9.2.1 (F a 47)) (l3_9.toInt - 1)))) ∨ (x63.toInt = 0 ∧ ¬ (0 < (refA (G.2.1 (F a 10)) (aI (G_9.2.1 (F a 49)) (l3_9.toInt - 1)) (aI (G_9.2.1 (F a 47)) (l3_9.toInt - 1))))))
    (c66 : x63.toInt ≠ 0)
    (z91 : ((0 ≤ (aI (G_9.2.1 (F a 49)) (l3_9.toInt - 1)) ∧ (aI (G_9.2.1 (F a 49)) (l3_9.toInt - 1)) < 12 ∧ (aI (G.2.1 (F a 10)) (10 * (aI (G_9.2.1 (F a 49)) (l3_9.toInt - 1)) + 0)) = 1 ∧ (aI (G.2.1 (F a 10)) (10 * (aI (G_9.2.1 (F a 49)) (l3_9.toInt - 1)) + 3)) = (aI (G_9.2.1 (F a 47)) (l3_9.toInt - 1))) ∧ (refA (G.2.1 (F a 10)) (aI (G_9.2.1 (F a 49)) (l3_9.toInt - 1)) (aI (G_9.2.1 (F a 47)) (l3_9.toInt - 1))) = (aI (G.2.1 (F a 10)) (10 * (aI (G_9.2.1 (F a 49)) (l3_9.toInt - 1)) + 8))) ∨ (¬ (0 ≤ (aI (G_9.2.1 (F a 49)) (l3_9.toInt - 1)) ∧ (aI (G_9.2.1 (F a 49)) (l3_9.toInt - 1)) < 12 ∧ (aI (G.2.1 (F a 10)) (10 * (aI (G_9.2.1 (F a 49)) (l3_9.toInt - 1)) + 0)) = 1 ∧ (aI (G.2.1 (F a 10)) (10 * (aI (G_9.2.1 (F a 49)) (l3_9.toInt - 1)) + 3)) = (aI (G_9.2.1 (F a 47)) (l3_9.toInt - 1))) ∧ (refA (G.2.1 (F a 10)) (aI (G_9.2.1 (F a 49)) (l3_9.toInt - 1)) (aI (G_9.2.1 (F a 47)) (l3_9.toInt - 1))) = 0))
    (z91a : (-1 ≤ (aI (G.2.1 (F a 10)) (10 * (aI (G_9.2.1 (F a 49)) (l3_9.toInt - 1)) + 0)) ∧ (aI (G.2.1 (F a 10)) (10 * (aI (G_9.2.1 (F a 49)) (l3_9.toInt - 1)) + 0)) ≤ 5) ∧ (0 ≤ (aI (G.2.1 (F a 10)) (10 * (aI (G_9.2.1 (F a 49)) (l3_9.toInt - 1)) + 1)) ∧ (aI (G.2.1 (F a 10)) (10 * (aI (G_9.2.1 (F a 49)) (l3_9.toInt - 1)) + 1)) ≤ 2) ∧ (0 ≤ (aI (G.2.1 (F a 10)) (10 * (aI (G_9.2.1 (F a 49)) (l3_9.toInt - 1)) + 2)) ∧ (aI (G.2.1 (F a 10)) (10 * (aI (G_9.2.1 (F a 49)) (l3_9.toInt - 1)) + 2)) ≤ 2))
    (t129 : 0 ≤ (aI (G.2.1 (F a 10)) (10 * (aI (G_9.2.1 (F a 49)) (l3_9.toInt - 1)) + 1)) ∧ (aI (G.2.1 (F a 10)) (10 * (aI (G_9.2.1 (F a 49)) (l3_9.toInt - 1)) + 1)) ≤ 2 ∧ 0 ≤ (aI (G_9.2.1 (F a 50)) (l3_9.toInt - 1)) ∧ (aI (G_9.2.1 (F a 50)) (l3_9.toInt - 1)) ≤ 29 → x129.toInt = 4 * (30 * (aI (G.2.1 (F a 10)) (10 * (aI (G_9.2.1 (F a 49)) (l3_9.toInt - 1)) + 1)) + (aI (G_9.2.1 (F a 50)) (l3_9.toInt - 1))))
    (z134 : ((aI (G_9.2.1 (F a 1)) (0 + 4 * (30 * (aI (G.2.1 (F a 10)) (10 * (aI (G_9.2.1 (F a 49)) (l3_9.toInt - 1)) + 1)) + (aI (G_9.2.1 (F a 50)) (l3_9.toInt - 1))))) = 0 ∧ (cel (mw (G_9.2.1 (F a 1)) 0) (aI (G.2.1 (F a 10)) (10 * (aI (G_9.2.1 (F a 49)) (l3_9.toInt - 1)) + 1)) (aI (G_9.2.1 (F a 50)) (l3_9.toInt - 1)) (aI (G.2.1 (F a 10)) (10 * (aI (G_9.2.1 (F a 49)) (l3_9.toInt - 1)) + 2))) = -2000) ∨ ((aI (G_9.2.1 (F a 1)) (0 + 4 * (30 * (aI (G.2.1 (F a 10)) (10 * (aI (G_9.2.1 (F a 49)) (l3_9.toInt - 1)) + 1)) + (aI (G_9.2.1 (F a 50)) (l3_9.toInt - 1))))) = 1 ∧ (cel (mw (G_9.2.1 (F a 1)) 0) (aI (G.2.1 (F a 10)) (10 * (aI (G_9.2.1 (F a 49)) (l3_9.toInt - 1)) + 1)) (aI (G_9.2.1 (F a 50)) (l3_9.toInt - 1)) (aI (G.2.1 (F a 10)) (10 * (aI (G_9.2.1 (F a 49)) (l3_9.toInt - 1)) + 2))) = (aI (G_9.2.1 (F a 1)) (0 + 4 * (30 * (aI (G.2.1 (F a 10)) (10 * (aI (G_9.2.1 (F a 49)) (l3_9.toInt - 1)) + 1)) + (aI (G_9.2.1 (F a 50)) (l3_9.toInt - 1))) + 1 + (aI (G.2.1 (F a 10)) (10 * (aI (G_9.2.1 (F a 49)) (l3_9.toInt - 1)) + 2))))))
    (c142 : ¬ ((aI (G_9.2.1 (F a 1)) (0 + 4 * (30 * (aI (G.2.1 (F a 10)) (10 * (aI (G_9.2.1 (F a 49)) (l3_9.toInt - 1)) + 1)) + (aI (G_9.2.1 (F a 50)) (l3_9.toInt - 1))))) ≠ (1 : Int)))
    (t152 : x152.toInt = x129.toInt + (1 : Int) ∨ x129.toInt + (1 : Int) < -2147483648 ∨ 2147483648 ≤ x129.toInt + (1 : Int))
    (t160 : x160.toInt = x152.toInt + (aI (G.2.1 (F a 10)) (10 * (aI (G_9.2.1 (F a 49)) (l3_9.toInt - 1)) + 2)) ∨ x152.toInt + (aI (G.2.1 (F a 10)) (10 * (aI (G_9.2.1 (F a 49)) (l3_9.toInt - 1)) + 2)) < -2147483648 ∨ 2147483648 ≤ x152.toInt + (aI (G.2.1 (F a 10)) (10 * (aI (G_9.2.1 (F a 49)) (l3_9.toInt - 1)) + 2)))
    (c169 : ¬ ((aI (G_9.2.1 (F a 1)) (0 + 4 * (30 * (aI (G.2.1 (F a 10)) (10 * (aI (G_9.2.1 (F a 49)) (l3_9.toInt - 1)) + 1)) + (aI (G_9.2.1 (F a 50)) (l3_9.toInt - 1))) + 1 + (aI (G.2.1 (F a 10)) (10 * (aI (G_9.2.1 (F a 49)) (l3_9.toInt - 1)) + 2)))) ≠ (aI (G_9.2.1 (F a 48)) (l3_9.toInt - 1))))
    (c181 : ¬ ((aI (G.2.1 (F a 10)) (10 * (aI (G_9.2.1 (F a 49)) (l3_9.toInt - 1)) + 8)) ≠ (2 : Int)))
    (t191 : x191.toInt = x129.toInt + (1 : Int) ∨ x129.toInt + (1 : Int) < -2147483648 ∨ 2147483648 ≤ x129.toInt + (1 : Int))
    (t199 : x199.toInt = x191.toInt + (aI (G.2.1 (F a 10)) (10 * (aI (G_9.2.1 (F a 49)) (l3_9.toInt - 1)) + 2)) ∨ x191.toInt + (aI (G.2.1 (F a 10)) (10 * (aI (G_9.2.1 (F a 49)) (l3_9.toInt - 1)) + 2)) < -2147483648 ∨ 2147483648 ≤ x191.toInt + (aI (G.2.1 (F a 10)) (10 * (aI (G_9.2.1 (F a 49)) (l3_9.toInt - 1)) + 2)))
    (mu224 : (cmu (gst (G_9.2.1 (F a 47)) (G_9.2.1 (F a 48)) (G_9.2.1 (F a 49)) (G119.2.1 (F a 50)) (Int.toNat (l3_9.toInt)), mw (G203.2.1 (F a 1)) 0)) < (cmu (gst (G_9.2.1 (F a 47)) (G_9.2.1 (F a 48)) (G_9.2.1 (F a 49)) (G_9.2.1 (F a 50)) (Int.toNat (l3_9.toInt)), mw (G_9.2.1 (F a 1)) 0)) ∧ 0 ≤ (cmu (gst (G_9.2.1 (F a 47)) (G_9.2.1 (F a 48)) (G_9.2.1 (F a 49)) (G119.2.1 (F a 50)) (Int.toNat (l3_9.toInt)), mw (G203.2.1 (F a 1)) 0)))
    (c_G119_F_a_1 : G119.2.1 (F a 1) = G_9.2.1 (F a 1)) :
    RM (G203.2.1 (F a 1)) 0 := by
  first
    | exact rm
    | exact oq218e
    | exact rm.set (t := aI (G.2.1 (F a 10)) (10 * aI (G_9.2.1 (F a 49)) (l3_9.toInt - 1) + 1)) (k := aI (G_9.2.1 (F a 50)) (l3_9.toInt - 1)) (c := aI (G.2.1 (F a 10)) (10 * aI (G_9.2.1 (F a 49)) (l3_9.toInt - 1) + 2)) (by omega) (by decide) (by omega) (aI_pu hG203 c_G119_F_a_1 rfl (show ((-1000 : Int32)).toInt = -1000 from by decide) (by omega)) (Or.inl rfl)
theorem v_X11_cutAll_224_24 {F : Nat → Nat → Nat} (a : Nat) (G : XG) (G_9 : XG) (G119 : XG) (G203 : XG) (l3_9 : Int32)
    (hR : RV (G.2.1 (F a 10)))
    (iv : CIv (gst (G_9.2.1 (F a 47)) (G_9.2.1 (F a 48)) (G_9.2.1 (F a 49)) (G_9.2.1 (F a 50)) (Int.toNat (l3_9.toInt)), mw (G_9.2.1 (F a 1)) 0))
    (cs224 : cst (refA (G.2.1 (F a 10))) (refT (G.2.1 (F a 10))) (refC (G.2.1 (F a 10))) (gst (G_9.2.1 (F a 47)) (G_9.2.1 (F a 48)) (G_9.2.1 (F a 49)) (G_9.2.1 (F a 50)) (Int.toNat (l3_9.toInt)), mw (G_9.2.1 (F a 1)) 0) = (gst (G_9.2.1 (F a 47)) (G_9.2.1 (F a 48)) (G_9.2.1 (F a 49)) (G119.2.1 (F a 50)) (Int.toNat (l3_9.toInt)), mw (G203.2.1 (F a 1)) 0)) :
    CIv (gst (G_9.2.1 (F a 47)) (G_9.2.1 (F a 48)) (G_9.2.1 (F a 49)) (G119.2.1 (F a 50)) (Int.toNat (l3_9.toInt)), mw (G203.2.1 (F a 1)) 0) := by
  exact (cm_st (refTo hR) iv cs224).1
theorem v_X11_cutAll_224_25 {F : Nat → Nat → Nat} (a : Nat) (G : XG) (G_9 : XG) (G119 : XG) (G203 : XG) (p0 : Int32) (p1 : Int32) (l3_9 : Int32)
    (hR : RV (G.2.1 (F a 10)))
    (iv : CIv (gst (G_9.2.1 (F a 47)) (G_9.2.1 (F a 48)) (G_9.2.1 (F a 49)) (G_9.2.1 (F a 50)) (Int.toNat (l3_9.toInt)), mw (G_9.2.1 (F a 1)) 0))
    (fi : cfin (refA (G.2.1 (F a 10))) (refT (G.2.1 (F a 10))) (refC (G.2.1 (F a 10))) (gst (G_9.2.1 (F a 47)) (G_9.2.1 (F a 48)) (G_9.2.1 (F a 49)) (G_9.2.1 (F a 50)) (Int.toNat (l3_9.toInt)), mw (G_9.2.1 (F a 1)) 0) = cfin (refA (G.2.1 (F a 10))) (refT (G.2.1 (F a 10))) (refC (G.2.1 (F a 10))) ([(p0.toInt, p1.toInt, 0, 0)], rfil (mw (G.2.1 (F a 1)) 0) p0.toInt p1.toInt (-2000) 3))
    (cs224 : cst (refA (G.2.1 (F a 10))) (refT (G.2.1 (F a 10))) (refC (G.2.1 (F a 10))) (gst (G_9.2.1 (F a 47)) (G_9.2.1 (F a 48)) (G_9.2.1 (F a 49)) (G_9.2.1 (F a 50)) (Int.toNat (l3_9.toInt)), mw (G_9.2.1 (F a 1)) 0) = (gst (G_9.2.1 (F a 47)) (G_9.2.1 (F a 48)) (G_9.2.1 (F a 49)) (G119.2.1 (F a 50)) (Int.toNat (l3_9.toInt)), mw (G203.2.1 (F a 1)) 0)) :
    cfin (refA (G.2.1 (F a 10))) (refT (G.2.1 (F a 10))) (refC (G.2.1 (F a 10))) (gst (G_9.2.1 (F a 47)) (G_9.2.1 (F a 48)) (G_9.2.1 (F a 49)) (G119.2.1 (F a 50)) (Int.toNat (l3_9.toInt)), mw (G203.2.1 (F a 1)) 0) = cfin (refA (G.2.1 (F a 10))) (refT (G.2.1 (F a 10))) (refC (G.2.1 (F a 10))) ([(p0.toInt, p1.toInt, 0, 0)], rfil (mw (G.2.1 (F a 1)) 0) p0.toInt p1.toInt (-2000) 3) := by
  exact (cm_st (refTo hR) iv cs224).2.trans fi
theorem v_X11_cutAll_224_26 {K : Nat → Nat} {F : Nat → Nat → Nat} (a : Nat) (G : XG) (G4 : XG) (G_9 : XG) (G79 : XG) (x15 : Int32) (x78 : Int32) (G87 : XG) (p0 : Int32) (p1 : Int32) (l3_9 : Int32) (x24 : Int32) (x42 : Int32) (x55 : Int32) (x62 : Int32) (x76 : Int32) (N9 : Nat) (x63 : Int32)
    (ha : K a = 13)
    (hG79 : G79 = cput G_9 (F a 49) x15.toNatClampNeg x78)
    (hG87 : G87 = cput G79 (F a 50) x15.toNatClampNeg 0)
    (e15 : x15.toInt = (l3_9.toInt - (1 : Int)))
    (hv24 : x24.toInt = (aI (G_9.2.1 (F a 49)) (l3_9.toInt - 1)))
    (hv42 : x42.toInt = (aI (G_9.2.1 (F a 50)) (l3_9.toInt - 1)))
    (hv55 : x55.toInt = (aI (G_9.2.1 (F a 49)) (l3_9.toInt - 1)))
    (hv62 : x62.toInt = (aI (G_9.2.1 (F a 47)) (l3_9.toInt - 1)))
    (hv76 : x76.toInt = (aI (G_9.2.1 (F a 49)) (l3_9.toInt - 1)))
    (e78 : x78.toInt = ((aI (G_9.2.1 (F a 49)) (l3_9.toInt - 1)) + (1 : Int)))
    (e1 : 0 ≤ p0.toInt ∧ p0.toInt < 3)
    (e2 : 0 ≤ p1.toInt ∧ p1.toInt < 30)
    (e3 : (cel (mw (G.2.1 (F a 1)) 0) (p0.toInt) (p1.toInt) 0) ≠ -2000)
    (en8 : 0 ≤ (cmu (gst (G4.2.1 (F a 47)) (G4.2.1 (F a 48)) (G4.2.1 (F a 49)) (G4.2.1 (F a 50)) (Int.toNat 1), mw (G4.2.1 (F a 1)) 0)) ∧ (cmu (gst (G4.2.1 (F a 47)) (G4.2.1 (F a 48)) (G4.2.1 (F a 49)) (G4.2.1 (F a 50)) (Int.toNat 1), mw (G4.2.1 (F a 1)) 0)) < 40000)
    (I9_0 : 0 ≤ l3_9.toInt ∧ l3_9.toInt ≤ 90)
    (I9_1 : 0 ≤ (cmu (gst (G_9.2.1 (F a 47)) (G_9.2.1 (F a 48)) (G_9.2.1 (F a 49)) (G_9.2.1 (F a 50)) (Int.toNat (l3_9.toInt)), mw (G_9.2.1 (F a 1)) 0)))
    (hm9 : (cmu (gst (G_9.2.1 (F a 47)) (G_9.2.1 (F a 48)) (G_9.2.1 (F a 49)) (G_9.2.1 (F a 50)) (Int.toNat (l3_9.toInt)), mw (G_9.2.1 (F a 1)) 0)) < (((N9) + 1 : Nat) : Int))
    (c10 : ¬ (l3_9.toInt ≤ 0))
    (z13 : ((0 ≤ (aI (G_9.2.1 (F a 47)) (l3_9.toInt - 1)) ∧ (aI (G_9.2.1 (F a 47)) (l3_9.toInt - 1)) < 3) ∧ (0 ≤ (aI (G_9.2.1 (F a 48)) (l3_9.toInt - 1)) ∧ (aI (G_9.2.1 (F a 48)) (l3_9.toInt - 1)) < 30) ∧ (0 ≤ (aI (G_9.2.1 (F a 49)) (l3_9.toInt - 1)) ∧ (aI (G_9.2.1 (F a 49)) (l3_9.toInt - 1)) ≤ 12) ∧ (0 ≤ (aI (G_9.2.1 (F a 50)) (l3_9.toInt - 1)) ∧ (aI (G_9.2.1 (F a 50)) (l3_9.toInt - 1)) ≤ 30)) ∧ l3_9.toInt + (pn (mw (G_9.2.1 (F a 1)) 0)) ≤ 90)
    (c27 : (aI (G_9.2.1 (F a 49)) (l3_9.toInt - 1)) ≠ (12 : Int))
    (c45 : ¬ ((aI (G_9.2.1 (F a 50)) (l3_9.toInt - 1)) = (30 : Int)))
    (t63 : (x63.toInt = 1 ∧ 0 < (refA (G.2.1 (F a 10)) (aI (G_9.2.1 (F a 49)) (l3_9.toInt - 1)) (aI (G_9.2.1 (F a 47)) (l3_9.toInt - 1)))) ∨ (x63.toInt = 0 ∧ ¬ (0 < (refA (G.2.1 (F a 10)) (aI (G_9.2.1 (F a 49)) (l3_9.toInt - 1)) (aI (G_9.2.1 (F a 47)) (l3_9.toInt - 1))))))
    (c66 : ¬ (x63.toInt ≠ 0))
    (c_G79_F_a_50 : G79.2.1 (F a 50) = G_9.2.1 (F a 50)) :
    cst (refA (G.2.1 (F a 10))) (refT (G.2.1 (F a 10))) (refC (G.2.1 (F a 10))) (gst (G_9.2.1 (F a 47)) (G_9.2.1 (F a 48)) (G_9.2.1 (F a 49)) (G_9.2.1 (F a 50)) (Int.toNat (l3_9.toInt)), mw (G_9.2.1 (F a 1)) 0) = (gst (G_9.2.1 (F a 47)) (G_9.2.1 (F a 48)) (G79.2.1 (F a 49)) (G87.2.1 (F a 50)) (Int.toNat (l3_9.toInt)), mw (G_9.2.1 (F a 1)) 0) := by
  have t9 := gst_p (a := G_9.2.1 (F a 47)) (b := G_9.2.1 (F a 48)) (c := G_9.2.1 (F a 49)) (d := G_9.2.1 (F a 50)) (n := l3_9.toInt) (by omega)
  rw [t9, cst_nx (by omega) (by omega), gst_u (n := l3_9.toInt) (by omega) (aI_pu hG79 rfl e15 e78 (by omega)) (aI_pu hG87 c_G79_F_a_50 e15 (show ((0 : Int32)).toInt = 0 from by decide) (by omega))]
theorem v_X11_cutAll_224_27 {K : Nat → Nat} {F : Nat → Nat → Nat} (a : Nat) (G : XG) (G4 : XG) (G_9 : XG) (G79 : XG) (x15 : Int32) (x78 : Int32) (G87 : XG) (p0 : Int32) (p1 : Int32) (l3_9 : Int32) (x24 : Int32) (x42 : Int32) (x55 : Int32) (x62 : Int32) (x76 : Int32) (N9 : Nat) (x63 : Int32)
    (ha : K a = 13)
    (rm : RM (G_9.2.1 (F a 1)) 0)
    (e15 : x15.toInt = (l3_9.toInt - (1 : Int)))
    (hv24 : x24.toInt = (aI (G_9.2.1 (F a 49)) (l3_9.toInt - 1)))
    (hv42 : x42.toInt = (aI (G_9.2.1 (F a 50)) (l3_9.toInt - 1)))
    (hv55 : x55.toInt = (aI (G_9.2.1 (F a 49)) (l3_9.toInt - 1)))
    (hv62 : x62.toInt = (aI (G_9.2.1 (F a 47)) (l3_9.toInt - 1)))
    (hv76 : x76.toInt = (aI (G_9.2.1 (F a 49)) (l3_9.toInt - 1)))
    (e78 : x78.toInt = ((aI (G_9.2.1 (F a 49)) (l3_9.toInt - 1)) + (1 : Int)))
    (e1 : 0 ≤ p0.toInt ∧ p0.toInt < 3)
    (e2 : 0 ≤ p1.toInt ∧ p1.toInt < 30)
    (e3 : (cel (mw (G.2.1 (F a 1)) 0) (p0.toInt) (p1.toInt) 0) ≠ -2000)
    (en8 : 0 ≤ (cmu (gst (G4.2.1 (F a 47)) (G4.2.1 (F a 48)) (G4.2.1 (F a 49)) (G4.2.1 (F a 50)) (Int.toNat 1), mw (G4.2.1 (F a 1)) 0)) ∧ (cmu (gst (G4.2.1 (F a 47)) (G4.2.1 (F a 48)) (G4.2.1 (F a 49)) (G4.2.1 (F a 50)) (Int.toNat 1), mw (G4.2.1 (F a 1)) 0)) < 40000)
    (I9_0 : 0 ≤ l3_9.toInt ∧ l3_9.toInt ≤ 90)
    (I9_1 : 0 ≤ (cmu (gst (G_9.2.1 (F a 47)) (G_9.2.1 (F a 48)) (G_9.2.1 (F a 49)) (G_9.2.1 (F a 50)) (Int.toNat (l3_9.toInt)), mw (G_9.2.1 (F a 1)) 0)))
    (hm9 : (cmu (gst (G_9.2.1 (F a 47)) (G_9.2.1 (F a 48)) (G_9.2.1 (F a 49)) (G_9.2.1 (F a 50)) (Int.toNat (l3_9.toInt)), mw (G_9.2.1 (F a 1)) 0)) < (((N9) + 1 : Nat) : Int))
    (c10 : ¬ (l3_9.toInt ≤ 0))
    (z13 : ((0 ≤ (aI (G_9.2.1 (F a 47)) (l3_9.toInt - 1)) ∧ (aI (G_9.2.1 (F a 47)) (l3_9.toInt - 1)) < 3) ∧ (0 ≤ (aI (G_9.2.1 (F a 48)) (l3_9.toInt - 1)) ∧ (aI (G_9.2.1 (F a 48)) (l3_9.toInt - 1)) < 30) ∧ (0 ≤ (aI (G_9.2.1 (F a 49)) (l3_9.toInt - 1)) ∧ (aI (G_9.2.1 (F a 49)) (l3_9.toInt - 1)) ≤ 12) ∧ (0 ≤ (aI (G_9.2.1 (F a 50)) (l3_9.toInt - 1)) ∧ (aI (G_9.2.1 (F a 50)) (l3_9.toInt - 1)) ≤ 30)) ∧ l3_9.toInt + (pn (mw (G_9.2.1 (F a 1)) 0)) ≤ 90)
    (c27 : (aI (G_9.2.1 (F a 49)) (l3_9.toInt - 1)) ≠ (12 : Int))
    (c45 : ¬ ((aI (G_9.2.1 (F a 50)) (l3_9.toInt - 1)) = (30 : Int)))
    (t63 : (x63.toInt = 1 ∧ 0 < (refA (G.2.1 (F a 10)) (aI (G_9.2.1 (F a 49)) (l3_9.toInt - 1)) (aI (G_9.2.1 (F a 47)) (l3_9.toInt - 1)))) ∨ (x63.toInt = 0 ∧ ¬ (0 < (refA (G.2.1 (F a 10)) (aI (G_9.2.1 (F a 49)) (l3_9.toInt - 1)) (aI (G_9.2.1 (F a 47)) (l3_9.toInt - 1))))))
    (c66 : ¬ (x63.toInt ≠ 0))
    (mu224 : (cmu (gst (G_9.2.1 (F a 47)) (G_9.2.1 (F a 48)) (G79.2.1 (F a 49)) (G87.2.1 (F a 50)) (Int.toNat (l3_9.toInt)), mw (G_9.2.1 (F a 1)) 0)) < (cmu (gst (G_9.2.1 (F a 47)) (G_9.2.1 (F a 48)) (G_9.2.1 (F a 49)) (G_9.2.1 (F a 50)) (Int.toNat (l3_9.toInt)), mw (G_9.2.1 (F a 1)) 0)) ∧ 0 ≤ (cmu (gst (G_9.2.1 (F a 47)) (G_9.2.1 (F a 48)) (G79.2.1 (F a 49)) (G87.2.1 (F a 50)) (Int.toNat (l3_9.toInt)), mw (G_9.2.1 (F a 1)) 0))) :
    RM (G_9.2.1 (F a 1)) 0 := by
  first
    | exact rm
    | exact oq218e
    | exact rm.set (t := aI (G.2.1 (F a 10)) (10 * aI (G_9.2.1 (F a 49)) (l3_9.toInt - 1) + 1)) (k := aI (G_9.2.1 (F a 50)) (l3_9.toInt - 1)) (c := aI (G.2.1 (F a 10)) (10 * aI (G_9.2.1 (F a 49)) (l3_9.toInt - 1) + 2)) (by omega) (by decide) (by omega) (aI_pu hG203 c_G119_F_a_1 rfl (show ((-1000 : Int32)).toInt = -1000 from by decide) (by omega)) (Or.inl rfl)
theorem v_X11_cutAll_224_28 {F : Nat → Nat → Nat} (a : Nat) (G : XG) (G_9 : XG) (G79 : XG) (G87 : XG) (l3_9 : Int32)
    (hR : RV (G.2.1 (F a 10)))
    (iv : CIv (gst (G_9.2.1 (F a 47)) (G_9.2.1 (F a 48)) (G_9.2.1 (F a 49)) (G_9.2.1 (F a 50)) (Int.toNat (l3_9.toInt)), mw (G_9.2.1 (F a 1)) 0))
    (cs224 : cst (refA (G.2.1 (F a 10))) (refT (G.2.1 (F a 10))) (refC (G.2.1 (F a 10))) (gst (G_9.2.1 (F a 47)) (G_9.2.1 (F a 48)) (G_9.2.1 (F a 49)) (G_9.2.1 (F a 50)) (Int.toNat (l3_9.toInt)), mw (G_9.2.1 (F a 1)) 0) = (gst (G_9.2.1 (F a 47)) (G_9.2.1 (F a 48)) (G79.2.1 (F a 49)) (G87.2.1 (F a 50)) (Int.toNat (l3_9.toInt)), mw (G_9.2.1 (F a 1)) 0)) :
    CIv (gst (G_9.2.1 (F a 47)) (G_9.2.1 (F a 48)) (G79.2.1 (F a 49)) (G87.2.1 (F a 50)) (Int.toNat (l3_9.toInt)), mw (G_9.2.1 (F a 1)) 0) := by
  exact (cm_st (refTo hR) iv cs224).1
theorem v_X11_cutAll_224_29 {F : Nat → Nat → Nat} (a : Nat) (G : XG) (G_9 : XG) (G79 : XG) (G87 : XG) (p0 : Int32) (p1 : Int32) (l3_9 : Int32)
    (hR : RV (G.2.1 (F a 10)))
    (iv : CIv (gst (G_9.2.1 (F a 47)) (G_9.2.1 (F a 48)) (G_9.2.1 (F a 49)) (G_9.2.1 (F a 50)) (Int.toNat (l3_9.toInt)), mw (G_9.2.1 (F a 1)) 0))
    (fi : cfin (refA (G.2.1 (F a 10))) (refT (G.2.1 (F a 10))) (refC (G.2.1 (F a 10))) (gst (G_9.2.1 (F a 47)) (G_9.2.1 (F a 48)) (G_9.2.1 (F a 49)) (G_9.2.1 (F a 50)) (Int.toNat (l3_9.toInt)), mw (G_9.2.1 (F a 1)) 0) = cfin (refA (G.2.1 (F a 10))) (refT (G.2.1 (F a 10))) (refC (G.2.1 (F a 10))) ([(p0.toInt, p1.toInt, 0, 0)], rfil (mw (G.2.1 (F a 1)) 0) p0.toInt p1.toInt (-2000) 3))
    (cs224 : cst (refA (G.2.1 (F a 10))) (refT (G.2.1 (F a 10))) (refC (G.2.1 (F a 10))) (gst (G_9.2.1 (F a 47)) (G_9.2.1 (F a 48)) (G_9.2.1 (F a 49)) (G_9.2.1 (F a 50)) (Int.toNat (l3_9.toInt)), mw (G_9.2.1 (F a 1)) 0) = (gst (G_9.2.1 (F a 47)) (G_9.2.1 (F a 48)) (G79.2.1 (F a 49)) (G87.2.1 (F a 50)) (Int.toNat (l3_9.toInt)), mw (G_9.2.1 (F a 1)) 0)) :
    cfin (refA (G.2.1 (F a 10))) (refT (G.2.1 (F a 10))) (refC (G.2.1 (F a 10))) (gst (G_9.2.1 (F a 47)) (G_9.2.1 (F a 48)) (G79.2.1 (F a 49)) (G87.2.1 (F a 50)) (Int.toNat (l3_9.toInt)), mw (G_9.2.1 (F a 1)) 0) = cfin (refA (G.2.1 (F a 10))) (refT (G.2.1 (F a 10))) (refC (G.2.1 (F a 10))) ([(p0.toInt, p1.toInt, 0, 0)], rfil (mw (G.2.1 (F a 1)) 0) p0.toInt p1.toInt (-2000) 3) := by
  exact (cm_st (refTo hR) iv cs224).2.trans fi
theorem v_X11_cutAll_224_30 {K : Nat → Nat} {F : Nat → Nat → Nat} (a : Nat) (G : XG) (G4 : XG) (G_9 : XG) (p0 : Int32) (p1 : Int32) (l3_9 : Int32) (x15 : Int32) (x24 : Int32) (x30 : Int32) (N9 : Nat)
    (ha : K a = 13)
    (e15 : x15.toInt = (l3_9.toInt - (1 : Int)))
    (hv24 : x24.toInt = (aI (G_9.2.1 (F a 49)) (l3_9.toInt - 1)))
    (e30 : x30.toInt = (l3_9.toInt + (-1)))
    (e1 : 0 ≤ p0.toInt ∧ p0.toInt < 3)
    (e2 : 0 ≤ p1.toInt ∧ p1.toInt < 30)
    (e3 : (cel (mw (G.2.1 (F a 1)) 0) (p0.toInt) (p1.toInt) 0) ≠ -2000)
    (en8 : 0 ≤ (cmu (gst (G4.2.1 (F a 47)) (G4.2.1 (F a 48)) (G4.2.1 (F a 49)) (G4.2.1 (F a 50)) (Int.toNat 1), mw (G4.2.1 (F a 1)) 0)) ∧ (cmu (gst (G4.2.1 (F a 47)) (G4.2.1 (F a 48)) (G4.2.1 (F a 49)) (G4.2.1 (F a 50)) (Int.toNat 1), mw (G4.2.1 (F a 1)) 0)) < 40000)
    (I9_0 : 0 ≤ l3_9.toInt ∧ l3_9.toInt ≤ 90)
    (I9_1 : 0 ≤ (cmu (gst (G_9.2.1 (F a 47)) (G_9.2.1 (F a 48)) (G_9.2.1 (F a 49)) (G_9.2.1 (F a 50)) (Int.toNat (l3_9.toInt)), mw (G_9.2.1 (F a 1)) 0)))
    (hm9 : (cmu (gst (G_9.2.1 (F a 47)) (G_9.2.1 (F a 48)) (G_9.2.1 (F a 49)) (G_9.2.1 (F a 50)) (Int.toNat (l3_9.toInt)), mw (G_9.2.1 (F a 1)) 0)) < (((N9) + 1 : Nat) : Int))
    (c10 : ¬ (l3_9.toInt ≤ 0))
    (z13 : ((0 ≤ (aI (G_9.2.1 (F a 47)) (l3_9.toInt - 1)) ∧ (aI (G_9.2.1 (F a 47)) (l3_9.toInt - 1)) < 3) ∧ (0 ≤ (aI (G_9.2.1 (F a 48)) (l3_9.toInt - 1)) ∧ (aI (G_9.2.1 (F a 48)) (l3_9.toInt - 1)) < 30) ∧ (0 ≤ (aI (G_9.2.1 (F a 49)) (l3_9.toInt - 1)) ∧ (aI (G_9.2.1 (F a 49)) (l3_9.toInt - 1)) ≤ 12) ∧ (0 ≤ (aI (G_9.2.1 (F a 50)) (l3_9.toInt - 1)) ∧ (aI (G_9.2.1 (F a 50)) (l3_9.toInt - 1)) ≤ 30)) ∧ l3_9.toInt + (pn (mw (G_9.2.1 (F a 1)) 0)) ≤ 90)
    (c27 : ¬ ((aI (G_9.2.1 (F a 49)) (l3_9.toInt - 1)) ≠ (12 : Int))) :
    cst (refA (G.2.1 (F a 10))) (refT (G.2.1 (F a 10))) (refC (G.2.1 (F a 10))) (gst (G_9.2.1 (F a 47)) (G_9.2.1 (F a 48)) (G_9.2.1 (F a 49)) (G_9.2.1 (F a 50)) (Int.toNat (l3_9.toInt)), mw (G_9.2.1 (F a 1)) 0) = (gst (G_9.2.1 (F a 47)) (G_9.2.1 (F a 48)) (G_9.2.1 (F a 49)) (G_9.2.1 (F a 50)) (Int.toNat (l3_9.toInt + (-1))), mw (G_9.2.1 (F a 1)) 0) := by
  have t9 := gst_p (a := G_9.2.1 (F a 47)) (b := G_9.2.1 (F a 48)) (c := G_9.2.1 (F a 49)) (d := G_9.2.1 (F a 50)) (n := l3_9.toInt) (by omega)
  rw [t9, cst_pop (by omega), show l3_9.toInt + -1 = l3_9.toInt - 1 from by omega]
theorem v_X11_cutAll_224_31 {K : Nat → Nat} {F : Nat → Nat → Nat} (a : Nat) (G : XG) (G4 : XG) (G_9 : XG) (p0 : Int32) (p1 : Int32) (l3_9 : Int32) (x15 : Int32) (x24 : Int32) (x30 : Int32) (N9 : Nat)
    (ha : K a = 13)
    (rm : RM (G_9.2.1 (F a 1)) 0)
    (e15 : x15.toInt = (l3_9.toInt - (1 : Int)))
    (hv24 : x24.toInt = (aI (G_9.2.1 (F a 49)) (l3_9.toInt - 1)))
    (e30 : x30.toInt = (l3_9.toInt + (-1)))
    (e1 : 0 ≤ p0.toInt ∧ p0.toInt < 3)
    (e2 : 0 ≤ p1.toInt ∧ p1.toInt < 30)
    (e3 : (cel (mw (G.2.1 (F a 1)) 0) (p0.toInt) (p1.toInt) 0) ≠ -2000)
    (en8 : 0 ≤ (cmu (gst (G4.2.1 (F a 47)) (G4.2.1 (F a 48)) (G4.2.1 (F a 49)) (G4.2.1 (F a 50)) (Int.toNat 1), mw (G4.2.1 (F a 1)) 0)) ∧ (cmu (gst (G4.2.1 (F a 47)) (G4.2.1 (F a 48)) (G4.2.1 (F a 49)) (G4.2.1 (F a 50)) (Int.toNat 1), mw (G4.2.1 (F a 1)) 0)) < 40000)
    (I9_0 : 0 ≤ l3_9.toInt ∧ l3_9.toInt ≤ 90)
    (I9_1 : 0 ≤ (cmu (gst (G_9.2.1 (F a 47)) (G_9.2.1 (F a 48)) (G_9.2.1 (F a 49)) (G_9.2.1 (F a 50)) (Int.toNat (l3_9.toInt)), mw (G_9.2.1 (F a 1)) 0)))
    (hm9 : (cmu (gst (G_9.2.1 (F a 47)) (G_9.2.1 (F a 48)) (G_9.2.1 (F a 49)) (G_9.2.1 (F a 50)) (Int.toNat (l3_9.toInt)), mw (G_9.2.1 (F a 1)) 0)) < (((N9) + 1 : Nat) : Int))
    (c10 : ¬ (l3_9.toInt ≤ 0))
    (z13 : ((0 ≤ (aI (G_9.2.1 (F a 47)) (l3_9.toInt - 1)) ∧ (aI (G_9.2.1 (F a 47)) (l3_9.toInt - 1)) < 3) ∧ (0 ≤ (aI (G_9.2.1 (F a 48)) (l3_9.toInt - 1)) ∧ (aI (G_9.2.1 (F a 48)) (l3_9.toInt - 1)) < 30) ∧ (0 ≤ (aI (G_9.2.1 (F a 49)) (l3_9.toInt - 1)) ∧ (aI (G_9.2.1 (F a 49)) (l3_9.toInt - 1)) ≤ 12) ∧ (0 ≤ (aI (G_9.2.1 (F a 50)) (l3_9.toInt - 1)) ∧ (aI (G_9.2.1 (F a 50)) (l3_9.toInt - 1)) ≤ 30)) ∧ l3_9.toInt + (pn (mw (G_9.2.1 (F a 1)) 0)) ≤ 90)
    (c27 : ¬ ((aI (G_9.2.1 (F a 49)) (l3_9.toInt - 1)) ≠ (12 : Int)))
    (mu224 : (cmu (gst (G_9.2.1 (F a 47)) (G_9.2.1 (F a 48)) (G_9.2.1 (F a 49)) (G_9.2.1 (F a 50)) (Int.toNat (l3_9.toInt + (-1))), mw (G_9.2.1 (F a 1)) 0)) < (cmu (gst (G_9.2.1 (F a 47)) (G_9.2.1 (F a 48)) (G_9.2.1 (F a 49)) (G_9.2.1 (F a 50)) (Int.toNat (l3_9.toInt)), mw (G_9.2.1 (F a 1)) 0)) ∧ 0 ≤ (cmu (gst (G_9.2.1 (F a 47)) (G_9.2.1 (F a 48)) (G_9.2.1 (F a 49)) (G_9.2.1 (F a 50)) (Int.toNat (l3_9.toInt + (-1))), mw (G_9.2.1 (F a 1)) 0))) :
    RM (G_9.2.1 (F a 1)) 0 := by
  first
    | exact rm
    | exact oq218e
    | exact rm.set (t := aI (G.2.1 (F a 10)) (10 * aI (G_9.2.1 (F a 49)) (l3_9.toInt - 1) + 1)) (k := aI (G_9.2.1 (F a 50)) (l3_9.toInt - 1)) (c := aI (G.2.1 (F a 10)) (10 * aI (G_9.2.1 (F a 49)) (l3_9.toInt - 1) + 2)) (by omega) (by decide) (by omega) (aI_pu hG203 c_G119_F_a_1 rfl (show ((-1000 : Int32)).toInt = -1000 from by decide) (by omega)) (Or.inl rfl)
theorem v_X11_cutAll_224_32 {F : Nat → Nat → Nat} (a : Nat) (G : XG) (G_9 : XG) (l3_9 : Int32)
    (hR : RV (G.2.1 (F a 10)))
    (iv : CIv (gst (G_9.2.1 (F a 47)) (G_9.2.1 (F a 48)) (G_9.2.1 (F a 49)) (G_9.2.1 (F a 50)) (Int.toNat (l3_9.toInt)), mw (G_9.2.1 (F a 1)) 0))
    (cs224 : cst (refA (G.2.1 (F a 10))) (refT (G.2.1 (F a 10))) (refC (G.2.1 (F a 10))) (gst (G_9.2.1 (F a 47)) (G_9.2.1 (F a 48)) (G_9.2.1 (F a 49)) (G_9.2.1 (F a 50)) (Int.toNat (l3_9.toInt)), mw (G_9.2.1 (F a 1)) 0) = (gst (G_9.2.1 (F a 47)) (G_9.2.1 (F a 48)) (G_9.2.1 (F a 49)) (G_9.2.1 (F a 50)) (Int.toNat (l3_9.toInt + (-1))), mw (G_9.2.1 (F a 1)) 0)) :
    CIv (gst (G_9.2.1 (F a 47)) (G_9.2.1 (F a 48)) (G_9.2.1 (F a 49)) (G_9.2.1 (F a 50)) (Int.toNat (l3_9.toInt + (-1))), mw (G_9.2.1 (F a 1)) 0) := by
  exact (cm_st (refTo hR) iv cs224).1
theorem v_X11_cutAll_224_33 {F : Nat → Nat → Nat} (a : Nat) (G : XG) (G_9 : XG) (p0 : Int32) (p1 : Int32) (l3_9 : Int32)
    (hR : RV (G.2.1 (F a 10)))
    (iv : CIv (gst (G_9.2.1 (F a 47)) (G_9.2.1 (F a 48)) (G_9.2.1 (F a 49)) (G_9.2.1 (F a 50)) (Int.toNat (l3_9.toInt)), mw (G_9.2.1 (F a 1)) 0))
    (fi : cfin (refA (G.2.1 (F a 10))) (refT (G.2.1 (F a 10))) (refC (G.2.1 (F a 10))) (gst (G_9.2.1 (F a 47)) (G_9.2.1 (F a 48)) (G_9.2.1 (F a 49)) (G_9.2.1 (F a 50)) (Int.toNat (l3_9.toInt)), mw (G_9.2.1 (F a 1)) 0) = cfin (refA (G.2.1 (F a 10))) (refT (G.2.1 (F a 10))) (refC (G.2.1 (F a 10))) ([(p0.toInt, p1.toInt, 0, 0)], rfil (mw (G.2.1 (F a 1)) 0) p0.toInt p1.toInt (-2000) 3))
    (cs224 : cst (refA (G.2.1 (F a 10))) (refT (G.2.1 (F a 10))) (refC (G.2.1 (F a 10))) (gst (G_9.2.1 (F a 47)) (G_9.2.1 (F a 48)) (G_9.2.1 (F a 49)) (G_9.2.1 (F a 50)) (Int.toNat (l3_9.toInt)), mw (G_9.2.1 (F a 1)) 0) = (gst (G_9.2.1 (F a 47)) (G_9.2.1 (F a 48)) (G_9.2.1 (F a 49)) (G_9.2.1 (F a 50)) (Int.toNat (l3_9.toInt + (-1))), mw (G_9.2.1 (F a 1)) 0)) :
    cfin (refA (G.2.1 (F a 10))) (refT (G.2.1 (F a 10))) (refC (G.2.1 (F a 10))) (gst (G_9.2.1 (F a 47)) (G_9.2.1 (F a 48)) (G_9.2.1 (F a 49)) (G_9.2.1 (F a 50)) (Int.toNat (l3_9.toInt + (-1))), mw (G_9.2.1 (F a 1)) 0) = cfin (refA (G.2.1 (F a 10))) (refT (G.2.1 (F a 10))) (refC (G.2.1 (F a 10))) ([(p0.toInt, p1.toInt, 0, 0)], rfil (mw (G.2.1 (F a 1)) 0) p0.toInt p1.toInt (-2000) 3) := by
  exact (cm_st (refTo hR) iv cs224).2.trans fi
theorem v_X11_cutAll_8_34 {F : Nat → Nat → Nat} (a : Nat) (G4 : XG)
    (oq4e : RM (G4.2.1 (F a 1)) 0) :
    RM (G4.2.1 (F a 1)) 0 := by
  exact oq4e
theorem v_X11_cutAll_8_35 {K : Nat → Nat} {F : Nat → Nat → Nat} (a : Nat) (G : XG) (G4 : XG) (p0 : Int32) (p1 : Int32)
    (ha : K a = 13)
    (hM : RM (G.2.1 (F a 1)) (0))
    (oq4 : ∀ z : Int, 0 ≤ z → aI (G4.2.1 (F a 47)) z = if z = (0 : Int) then p0.toInt else aI (G.2.1 (F a 47)) z)
    (oq4a : ∀ z : Int, 0 ≤ z → aI (G4.2.1 (F a 48)) z = if z = (0 : Int) then p1.toInt else aI (G.2.1 (F a 48)) z)
    (oq4b : ∀ z : Int, 0 ≤ z → aI (G4.2.1 (F a 49)) z = if z = (0 : Int) then 0 else aI (G.2.1 (F a 49)) z)
    (oq4c : ∀ z : Int, 0 ≤ z → aI (G4.2.1 (F a 50)) z = if z = (0 : Int) then 0 else aI (G.2.1 (F a 50)) z)
    (oq4d : mw (G4.2.1 (F a 1)) 0 = rfil (mw (G.2.1 (F a 1)) 0) p0.toInt p1.toInt (-2000) 3)
    (e1 : 0 ≤ p0.toInt ∧ p0.toInt < 3)
    (e2 : 0 ≤ p1.toInt ∧ p1.toInt < 30)
    (e3 : (cel (mw (G.2.1 (F a 1)) 0) (p0.toInt) (p1.toInt) 0) ≠ -2000)
    (en8 : 0 ≤ (cmu (gst (G4.2.1 (F a 47)) (G4.2.1 (F a 48)) (G4.2.1 (F a 49)) (G4.2.1 (F a 50)) (Int.toNat 1), mw (G4.2.1 (F a 1)) 0)) ∧ (cmu (gst (G4.2.1 (F a 47)) (G4.2.1 (F a 48)) (G4.2.1 (F a 49)) (G4.2.1 (F a 50)) (Int.toNat 1), mw (G4.2.1 (F a 1)) 0)) < 40000) :
    CIv (gst (G4.2.1 (F a 47)) (G4.2.1 (F a 48)) (G4.2.1 (F a 49)) (G4.2.1 (F a 50)) (Int.toNat (1 : Int)), mw (G4.2.1 (F a 1)) 0) := by
  have e := gst_g (n := 0) (by decide) oq4 oq4a oq4b oq4c
  rw [show Int.toNat (1 : Int) = ((0 : Int) + 1).toNat from rfl, e, oq4d]
  exact (civ_0 hM.rc (by omega) e3).1
theorem v_X11_cutAll_8_36 {F : Nat → Nat → Nat} (a : Nat) (G : XG) (G4 : XG) (p0 : Int32) (p1 : Int32)
    (oq4 : ∀ z : Int, 0 ≤ z → aI (G4.2.1 (F a 47)) z = if z = (0 : Int) then p0.toInt else aI (G.2.1 (F a 47)) z)
    (oq4a : ∀ z : Int, 0 ≤ z → aI (G4.2.1 (F a 48)) z = if z = (0 : Int) then p1.toInt else aI (G.2.1 (F a 48)) z)
    (oq4b : ∀ z : Int, 0 ≤ z → aI (G4.2.1 (F a 49)) z = if z = (0 : Int) then 0 else aI (G.2.1 (F a 49)) z)
    (oq4c : ∀ z : Int, 0 ≤ z → aI (G4.2.1 (F a 50)) z = if z = (0 : Int) then 0 else aI (G.2.1 (F a 50)) z)
    (oq4d : mw (G4.2.1 (F a 1)) 0 = rfil (mw (G.2.1 (F a 1)) 0) p0.toInt p1.toInt (-2000) 3) :
    cfin (refA (G.2.1 (F a 10))) (refT (G.2.1 (F a 10))) (refC (G.2.1 (F a 10))) (gst (G4.2.1 (F a 47)) (G4.2.1 (F a 48)) (G4.2.1 (F a 49)) (G4.2.1 (F a 50)) (Int.toNat (1 : Int)), mw (G4.2.1 (F a 1)) 0) = cfin (refA (G.2.1 (F a 10))) (refT (G.2.1 (F a 10))) (refC (G.2.1 (F a 10))) ([(p0.toInt, p1.toInt, 0, 0)], rfil (mw (G.2.1 (F a 1)) 0) p0.toInt p1.toInt (-2000) 3) := by
  have e := gst_g (n := 0) (by decide) oq4 oq4a oq4b oq4c
  rw [show Int.toNat (1 : Int) = ((0 : Int) + 1).toNat from rfl, e, oq4d]
  rfl
theorem v_X11_cut_28_1 {F : Nat → Nat → Nat} (x10 : Int32) (p0 : Int32) (G25 : XG) (a : Nat) (G : XG) (p1 : Int32)
    (t10 : (x10.toInt = 1 ∧ 0 ≤ p0.toInt ∧ p0.toInt ≤ 2) ∨ (x10.toInt = 0 ∧ (p0.toInt < 0 ∨ 2 < p0.toInt)))
    (c13 : x10.toInt = 0)
    (c_G25_F_a_1 : G25.2.1 (F a 1) = G.2.1 (F a 1)) :
    (¬ ((0 ≤ p0.toInt ∧ p0.toInt < 3) ∧ (0 ≤ p1.toInt ∧ p1.toInt < 30)) ∧ (-1 : Int) = -1 ∧ mw (G25.2.1 (F a 1)) 0 = (mw (G.2.1 (F a 1)) 0)) ∨ (((0 ≤ p0.toInt ∧ p0.toInt < 3) ∧ (0 ≤ p1.toInt ∧ p1.toInt < 30)) ∧ cel (mw (G.2.1 (F a 1)) 0) p0.toInt p1.toInt 0 = -2000 ∧ (-1 : Int) = -2 ∧ mw (G25.2.1 (F a 1)) 0 = (mw (G.2.1 (F a 1)) 0)) ∨ (((0 ≤ p0.toInt ∧ p0.toInt < 3) ∧ (0 ≤ p1.toInt ∧ p1.toInt < 30)) ∧ cel (mw (G.2.1 (F a 1)) 0) p0.toInt p1.toInt 0 ≠ -2000 ∧ StR ((G.1 a 6).toInt) (-1 : Int) (G.2.1 (F a 10)) (mw (G.2.1 (F a 1)) 0) (cfin (refA (G.2.1 (F a 10))) (refT (G.2.1 (F a 10))) (refC (G.2.1 (F a 10))) ([(p0.toInt, p1.toInt, 0, 0)], rfil (mw (G.2.1 (F a 1)) 0) p0.toInt p1.toInt (-2000) 3)) (mw (G25.2.1 (F a 1)) 0)) := by
  refine Or.inl ⟨fun h => ?_, rfl, by rw [c_G25_F_a_1]⟩
  obtain ⟨h1, h2⟩ := h
  have hk := h1
  clear h1 h2
  omega
theorem v_X11_cut_28_2 {F : Nat → Nat → Nat} (a : Nat) (G : XG) (G25 : XG)
    (hM : RM (G.2.1 (F a 1)) (0))
    (c_G25_F_a_1 : G25.2.1 (F a 1) = G.2.1 (F a 1)) :
    RM (G25.2.1 (F a 1)) 0 := by
  rw [c_G25_F_a_1]; exact hM
theorem v_X11_cut_32_3 {F : Nat → Nat → Nat} (a : Nat) (G : XG) (G6 : XG)
    (hM : RM (G.2.1 (F a 1)) (0))
    (hB : RM (G.2.1 (F a 2)) 0)
    (c_G6_F_a_1 : G6.2.1 (F a 1) = G.2.1 (F a 1)) :
    RM (G6.2.1 (F a 1)) 0 := by simp only [c_G6_F_a_1]; assumption
theorem v_X11_cut_46_4 {F : Nat → Nat → Nat} (a : Nat) (G : XG) (G6 : XG)
    (hR : RV (G.2.1 (F a 10)))
    (c_G6_F_a_10 : G6.2.1 (F a 10) = G.2.1 (F a 10)) :
    RV (G6.2.1 (F a 10)) := by simp only [c_G6_F_a_10]; assumption
theorem v_X11_cut_46_5 {F : Nat → Nat → Nat} (a : Nat) (G : XG) (G6 : XG)
    (hM : RM (G.2.1 (F a 1)) (0))
    (hB : RM (G.2.1 (F a 2)) 0)
    (c_G6_F_a_1 : G6.2.1 (F a 1) = G.2.1 (F a 1)) :
    RM (G6.2.1 (F a 1)) (0) := by simp only [c_G6_F_a_1]; assumption
theorem v_X11_cut_52_6 {F : Nat → Nat → Nat} (a : Nat) (G : XG) (G46 : XG)
    (hR : RV (G.2.1 (F a 10)))
    (c_G46_F_a_10 : G46.2.1 (F a 10) = G.2.1 (F a 10)) :
    RV (G46.2.1 (F a 10)) := by simp only [c_G46_F_a_10]; assumption
theorem v_X11_cut_52_7 {F : Nat → Nat → Nat} (a : Nat) (G : XG) (G46 : XG)
    (hM : RM (G.2.1 (F a 1)) (0))
    (hB : RM (G.2.1 (F a 2)) 0)
    (oq46a : RM (G46.2.1 (F a 4)) 0)
    (c_G46_F_a_1 : G46.2.1 (F a 1) = G.2.1 (F a 1)) :
    RM (G46.2.1 (F a 1)) (0) := by simp only [c_G46_F_a_1]; assumption
theorem v_X11_cut_56_8 {F : Nat → Nat → Nat} (a : Nat) (G : XG) (G52 : XG)
    (hR : RV (G.2.1 (F a 10)))
    (c_G52_F_a_10 : G52.2.1 (F a 10) = G.2.1 (F a 10)) :
    RV (G52.2.1 (F a 10)) := by simp only [c_G52_F_a_10]; assumption
theorem v_X11_cut_56_9 {F : Nat → Nat → Nat} (a : Nat) (G52 : XG)
    (oq52a : RM (G52.2.1 (F a 1)) 0) :
    RM (G52.2.1 (F a 1)) (0) := by
  exact oq52a
theorem v_X11_cut_56_10 {F : Nat → Nat → Nat} (a : Nat) (G : XG) (G46 : XG) (G52 : XG)
    (hM : RM (G.2.1 (F a 1)) (0))
    (hB : RM (G.2.1 (F a 2)) 0)
    (oq46a : RM (G46.2.1 (F a 4)) 0)
    (oq52a : RM (G52.2.1 (F a 1)) 0)
    (c_G52_F_a_4 : G52.2.1 (F a 4) = G46.2.1 (F a 4)) :
    RM (G52.2.1 (F a 4)) 0 := by simp only [c_G52_F_a_4]; assumption
theorem v_X11_cut_56_11 {F : Nat → Nat → Nat} (a : Nat) (G : XG) (G46 : XG) (G52 : XG)
    (hM : RM (G.2.1 (F a 1)) (0))
    (hB : RM (G.2.1 (F a 2)) 0)
    (oq46a : RM (G46.2.1 (F a 4)) 0)
    (oq52a : RM (G52.2.1 (F a 1)) 0)
    (c_G52_F_a_2 : G52.2.1 (F a 2) = G.2.1 (F a 2)) :
    RM (G52.2.1 (F a 2)) 0 := by simp only [c_G52_F_a_2]; assumption
theorem v_X11_cut_56_12 {F : Nat → Nat → Nat} (a : Nat) (G : XG) (G46 : XG) (G52 : XG)
    (oq46b : LSt (G.2.1 (F a 10)) (G46.2.1 (F a 12)) (mw (G.2.1 (F a 1)) 0) 12)
    (c_G52_F_a_10 : G52.2.1 (F a 10) = G.2.1 (F a 10))
    (c_G52_F_a_12 : G52.2.1 (F a 12) = G46.2.1 (F a 12)) :
    LSt (G52.2.1 (F a 10)) (G52.2.1 (F a 12)) (mw (G.2.1 (F a 1)) 0) 12 := by
  rw [c_G52_F_a_10, c_G52_F_a_12]; exact oq46b
theorem v_X11_cut_59_13 {F : Nat → Nat → Nat} (G46 : XG) (a : Nat) (G : XG) (G52 : XG) (p0 : Int32) (p1 : Int32) (x56 : Int32) (G56 : XG) (x32 : Int32)
    (oq46 : mw (G46.2.1 (F a 4)) 0 = mw (G.2.1 (F a 1)) 0)
    (oq52 : mw (G52.2.1 (F a 1)) 0 = cfin (refA (G.2.1 (F a 10))) (refT (G.2.1 (F a 10))) (refC (G.2.1 (F a 10))) ([(p0.toInt, p1.toInt, 0, 0)], rfil (mw (G.2.1 (F a 1)) 0) p0.toInt p1.toInt (-2000) 3))
    (oq56 : ((ffP (G.2.1 (F a 10)) (mw (G52.2.1 (F a 1)) 0) (fuO (G.2.1 (F a 10)) (mw (G.2.1 (F a 1)) 0) (mw (G52.2.1 (F a 1)) 0) 0) ≠ -1 ∨ (((G.1 a 6).toInt) = 0 ∧ ffP (G.2.1 (F a 10)) (mw (G52.2.1 (F a 1)) 0) (fuO (G.2.1 (F a 10)) (mw (G.2.1 (F a 1)) 0) (mw (G52.2.1 (F a 1)) 0) 1) ≠ -1)) ∧ x56.toInt = -5 ∧ mw (G56.2.1 (F a 1)) 0 = mw (G46.2.1 (F a 4)) 0) ∨ (ffP (G.2.1 (F a 10)) (mw (G52.2.1 (F a 1)) 0) (fuO (G.2.1 (F a 10)) (mw (G.2.1 (F a 1)) 0) (mw (G52.2.1 (F a 1)) 0) 0) = -1 ∧ (((G.1 a 6).toInt) = 0 → ffP (G.2.1 (F a 10)) (mw (G52.2.1 (F a 1)) 0) (fuO (G.2.1 (F a 10)) (mw (G.2.1 (F a 1)) 0) (mw (G52.2.1 (F a 1)) 0) 1) = -1) ∧ x56.toInt = (((fuO (G.2.1 (F a 10)) (mw (G.2.1 (F a 1)) 0) (mw (G52.2.1 (F a 1)) 0) 2).length : Nat) : Int) ∧ mw (G56.2.1 (F a 1)) 0 = mw (G52.2.1 (F a 1)) 0))
    (z29 : 0 ≤ p0.toInt ∧ p0.toInt < 3)
    (z29a : 0 ≤ p1.toInt ∧ p1.toInt < 30)
    (t32 : (x32.toInt = 1 ∧ (cel (mw (G.2.1 (F a 1)) 0) (p0.toInt) (p1.toInt) 0) ≠ -2000) ∨ (x32.toInt = 0 ∧ (cel (mw (G.2.1 (F a 1)) 0) (p0.toInt) (p1.toInt) 0) = -2000))
    (c35 : x32.toInt ≠ 0) :
    (¬ ((0 ≤ p0.toInt ∧ p0.toInt < 3) ∧ (0 ≤ p1.toInt ∧ p1.toInt < 30)) ∧ x56.toInt = -1 ∧ mw (G56.2.1 (F a 1)) 0 = (mw (G.2.1 (F a 1)) 0)) ∨ (((0 ≤ p0.toInt ∧ p0.toInt < 3) ∧ (0 ≤ p1.toInt ∧ p1.toInt < 30)) ∧ cel (mw (G.2.1 (F a 1)) 0) p0.toInt p1.toInt 0 = -2000 ∧ x56.toInt = -2 ∧ mw (G56.2.1 (F a 1)) 0 = (mw (G.2.1 (F a 1)) 0)) ∨ (((0 ≤ p0.toInt ∧ p0.toInt < 3) ∧ (0 ≤ p1.toInt ∧ p1.toInt < 30)) ∧ cel (mw (G.2.1 (F a 1)) 0) p0.toInt p1.toInt 0 ≠ -2000 ∧ StR ((G.1 a 6).toInt) x56.toInt (G.2.1 (F a 10)) (mw (G.2.1 (F a 1)) 0) (cfin (refA (G.2.1 (F a 10))) (refT (G.2.1 (F a 10))) (refC (G.2.1 (F a 10))) ([(p0.toInt, p1.toInt, 0, 0)], rfil (mw (G.2.1 (F a 1)) 0) p0.toInt p1.toInt (-2000) 3)) (mw (G56.2.1 (F a 1)) 0)) := by
  rw [oq52, oq46] at oq56
  exact Or.inr (Or.inr ⟨⟨z29, z29a⟩, by omega, oq56⟩)
theorem v_X11_cut_59_14 {F : Nat → Nat → Nat} (a : Nat) (G56 : XG)
    (oq56a : RM (G56.2.1 (F a 1)) 0) :
    RM (G56.2.1 (F a 1)) 0 := by
  exact oq56a
theorem v_X11_cut_44_15 {F : Nat → Nat → Nat} (p0 : Int32) (p1 : Int32) (x32 : Int32) (G : XG) (a : Nat) (G41 : XG)
    (z29 : 0 ≤ p0.toInt ∧ p0.toInt < 3)
    (z29a : 0 ≤ p1.toInt ∧ p1.toInt < 30)
    (t32 : (x32.toInt = 1 ∧ (cel (mw (G.2.1 (F a 1)) 0) (p0.toInt) (p1.toInt) 0) ≠ -2000) ∨ (x32.toInt = 0 ∧ (cel (mw (G.2.1 (F a 1)) 0) (p0.toInt) (p1.toInt) 0) = -2000))
    (c35 : ¬ (x32.toInt ≠ 0))
    (c_G41_F_a_1 : G41.2.1 (F a 1) = G.2.1 (F a 1)) :
    (¬ ((0 ≤ p0.toInt ∧ p0.toInt < 3) ∧ (0 ≤ p1.toInt ∧ p1.toInt < 30)) ∧ (-2 : Int) = -1 ∧ mw (G41.2.1 (F a 1)) 0 = (mw (G.2.1 (F a 1)) 0)) ∨ (((0 ≤ p0.toInt ∧ p0.toInt < 3) ∧ (0 ≤ p1.toInt ∧ p1.toInt < 30)) ∧ cel (mw (G.2.1 (F a 1)) 0) p0.toInt p1.toInt 0 = -2000 ∧ (-2 : Int) = -2 ∧ mw (G41.2.1 (F a 1)) 0 = (mw (G.2.1 (F a 1)) 0)) ∨ (((0 ≤ p0.toInt ∧ p0.toInt < 3) ∧ (0 ≤ p1.toInt ∧ p1.toInt < 30)) ∧ cel (mw (G.2.1 (F a 1)) 0) p0.toInt p1.toInt 0 ≠ -2000 ∧ StR ((G.1 a 6).toInt) (-2 : Int) (G.2.1 (F a 10)) (mw (G.2.1 (F a 1)) 0) (cfin (refA (G.2.1 (F a 10))) (refT (G.2.1 (F a 10))) (refC (G.2.1 (F a 10))) ([(p0.toInt, p1.toInt, 0, 0)], rfil (mw (G.2.1 (F a 1)) 0) p0.toInt p1.toInt (-2000) 3)) (mw (G41.2.1 (F a 1)) 0)) := by
  exact Or.inr (Or.inl ⟨⟨z29, z29a⟩, by omega, rfl, by rw [c_G41_F_a_1]⟩)
theorem v_X11_cut_44_16 {F : Nat → Nat → Nat} (a : Nat) (G : XG) (G41 : XG)
    (hM : RM (G.2.1 (F a 1)) (0))
    (c_G41_F_a_1 : G41.2.1 (F a 1) = G.2.1 (F a 1)) :
    RM (G41.2.1 (F a 1)) 0 := by
  rw [c_G41_F_a_1]; exact hM
theorem v_X11_cut_28_17 {F : Nat → Nat → Nat} (x17 : Int32) (p1 : Int32) (G25 : XG) (a : Nat) (G : XG) (p0 : Int32)
    (t17 : (x17.toInt = 1 ∧ 0 ≤ p1.toInt ∧ p1.toInt ≤ 29) ∨ (x17.toInt = 0 ∧ (p1.toInt < 0 ∨ 29 < p1.toInt)))
    (c20 : ¬ (x17.toInt ≠ 0))
    (c_G25_F_a_1 : G25.2.1 (F a 1) = G.2.1 (F a 1)) :
    (¬ ((0 ≤ p0.toInt ∧ p0.toInt < 3) ∧ (0 ≤ p1.toInt ∧ p1.toInt < 30)) ∧ (-1 : Int) = -1 ∧ mw (G25.2.1 (F a 1)) 0 = (mw (G.2.1 (F a 1)) 0)) ∨ (((0 ≤ p0.toInt ∧ p0.toInt < 3) ∧ (0 ≤ p1.toInt ∧ p1.toInt < 30)) ∧ cel (mw (G.2.1 (F a 1)) 0) p0.toInt p1.toInt 0 = -2000 ∧ (-1 : Int) = -2 ∧ mw (G25.2.1 (F a 1)) 0 = (mw (G.2.1 (F a 1)) 0)) ∨ (((0 ≤ p0.toInt ∧ p0.toInt < 3) ∧ (0 ≤ p1.toInt ∧ p1.toInt < 30)) ∧ cel (mw (G.2.1 (F a 1)) 0) p0.toInt p1.toInt 0 ≠ -2000 ∧ StR ((G.1 a 6).toInt) (-1 : Int) (G.2.1 (F a 10)) (mw (G.2.1 (F a 1)) 0) (cfin (refA (G.2.1 (F a 10))) (refT (G.2.1 (F a 10))) (refC (G.2.1 (F a 10))) ([(p0.toInt, p1.toInt, 0, 0)], rfil (mw (G.2.1 (F a 1)) 0) p0.toInt p1.toInt (-2000) 3)) (mw (G25.2.1 (F a 1)) 0)) := by
  refine Or.inl ⟨fun h => ?_, rfl, by rw [c_G25_F_a_1]⟩
  obtain ⟨h1, h2⟩ := h
  have hk := h2
  clear h1 h2
  omega
theorem v_X11_cut_28_18 {F : Nat → Nat → Nat} (a : Nat) (G : XG) (G25 : XG)
    (hM : RM (G.2.1 (F a 1)) (0))
    (c_G25_F_a_1 : G25.2.1 (F a 1) = G.2.1 (F a 1)) :
    RM (G25.2.1 (F a 1)) 0 := by
  rw [c_G25_F_a_1]; exact hM
