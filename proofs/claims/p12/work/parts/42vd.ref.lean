theorem v_X11_cutAll_224_28 {F : Nat → Nat → Nat} (a : Nat) (G : XG) (G_9 : XG) (G79 : XG) (G87 : XG) (l3_9 : Int32)
    (hR : RV (G.2.1 (F a 10)))
    (iv : CIv (gst (G_9.2.1 (F a 47)) (G_9.2.1 (F a 48)) (G_9.2.1 (F a 49)) (G_9.2.1 (F a 50)) (Int.toNat (l3_9.toInt)), mw (G_9.2.1 (F a 1)) 0))
    (cs224 : cst (refA (G.2.1 (F a 10))) (refT (G.2.1 (F a 10))) (refC (G.2.1 (F a 10))) (gst (G_9.2.1 (F a 47)) (G_9.2.1 (F a 48)) (G_9.2.1 (F a 49)) (G_9.2.1 (F a 50)) (Int.toNat (l3_9.toInt)), mw (G_9.2.1 (F a 1)) 0) = (gst (G_9.2.1 (F a 47)) (G_9.2.1 (F a 48)) (G79.2.1 (F a 49)) (G87.2.1 (F a 50)) (Int.toNat (l3_9.toInt)), mw (G_9.2.1 (F a 1)) 0)) :
    CIv (gst (G_9.2.1 (F a 47)) (G_9.2.1 (F a 48)) (G79.2.1 (F a 49)) (G87.2.1 (F a 50)) (Int.toNat (l3_9.toInt)), mw (G_9.2.1 (F a 1)) 0) := by
  exact (cm_st (refTo hR) iv cs224).1
theorem v_X11_cutAll_224_29 {F : Nat → Nat → Nat} (a : Nat) (G : XG) (G_9 : XG) (G79 : XG) (G87 : XG) (p0 : Int32) (p1 : Int32) (l3_9 : Int32)
    (hR : RV (G.2.1 (F a 10)))
    (iv : CIv (gst (G_9.2.1 (F a 47)) (G_9.2.1 (F a 48)) (G_9.2.1 (F a 49)) (G_9.2.1 (F a 50)) (Int.toNat (l3_9.toInt)), mw (G_9.2.1 (F a 1)) 0))
    (fi : cfin (refA (G.2.1 (F a 10))) (refT (G.2.1 (F a 10))) (refC (G.2.1 (F a 10))) (gst (G_9.2.1 (F a 47)) (G_9.2.1 (F a 48)) (G_9.2.1 (F a 49)) (G_9.2.1 (F a 50)) (Int.toNat (l3_9.toInt)), mw (G_9.2.1 (F a 1)) 0) = cfin (refA (G.2.1 (F a 10))) (refT (G.2.1 (F a 10))) (refC (G.2.1 (F a 10))) ([(p0.toInt, p1.toInt, 0, 0)], rfil (mw (G.2.1 (F a 1)) 0) p0.toInt p1.toInt (-2000) 3))
    (cs224 : cst (refA (G.2.1 (F a 10))) (refT (G.2.1 (F a 10))) (refC (G.2.1 (F a 10))) (gst (G_9.2.1 (F a 47)) (G_9.2.1 (F a 48)) (G_9.2.1 (F a 49)) (G_9.2.1 (F a 50)) (Int.toNat (l3_9.toInt)), mw (G_9.2.1 (F a 1)) 0) = (gst (G_9.2.1 (F a 47)) (G_9.2.1 (F a 48)) (G79.2.1 (F a 49)) (G87.2.1 (F a 50)) (Int.toNat (l3_9.toInt)), mw (G_9.2.1 (F a 1)) 0)) :
    cfin (refA (G.2.1 (F a 10))) (refT (G.2.1 (F a 10))) (refC (G.2.1 (F a 10))) (gst (G_9.2.1 (F a 47)) (G_9.2.1 (F a 48)) (G79.2.1 (F a 49)) (G87.2.1 (F a 50)) (Int.toNat (l3_9.toInt)), mw (G_9.2.1 (F a 1)) 0) = cfin (refA (G.2.1 (F a 10))) (refT (G.2.1 (F a 10))) (refC (G.2.1 (F a 10))) ([(p0.toInt, p1.toInt, 0, 0)], rfil (mw (G.2.1 (F a 1)) 0) p0.toInt p1.toInt (-2000) 3) := by
  exact (cm_st (refTo hR) iv cs224).2.trans fi
theorem v_X11_cutAll_224_30 {K : Nat → Nat} {F : Nat → Nat → Nat} (a : Nat) (G : XG) (G4 : XG) (G_9 : XG) (p0 : Int32) (p1 : Int32) (l3_9 : Int32) (N9 : Nat)
    (ha : K a = 13)
    (e1 : 0 ≤ p0.toInt ∧ p0.toInt < 3)
    (e2 : 0 ≤ p1.toInt ∧ p1.toInt < 30)
    (e3 : (cel (mw (G.2.1 (F a 1)) 0) (p0.toInt) (p1.toInt) 0) ≠ -2000)
    (en8 : 0 ≤ (cmu (gst (G4.2.1 (F a 47)) (G4.2.1 (F a 48)) (G4.2.1 (F a 49)) (G4.2.1 (F a 50)) (Int.toNat 1), mw (G4.2.1 (F a 1)) 0)) ∧ (cmu (gst (G4.2.1 (F a 47)) (G4.2.1 (F a 48)) (G4.2.1 (F a 49)) (G4.2.1 (F a 50)) (Int.toNat 1), mw (G4.2.1 (F a 1)) 0)) < 40000)
    (I9_0 : 0 ≤ l3_9.toInt ∧ l3_9.toInt ≤ 90)
    (I9_1 : 0 ≤ (cmu (gst (G_9.2.1 (F a 47)) (G_9.2.1 (F a 48)) (G_9.2.1 (F a 49)) (G_9.2.1 (F a 50)) (Int.toNat (l3_9.toInt)), mw (G_9.2.1 (F a 1)) 0)))
    (hm9 : (cmu (gst (G_9.2.1 (F a 47)) (G_9.2.1 (F a 48)) (G_9.2.1 (F a 49)) (G_9.2.1 (F a 50)) (Int.toNat (l3_9.toInt)), mw (G_9.2.1 (F a 1)) 0)) < (((N9) + 1 : Nat) : Int))
    (c10 : ¬ (l3_9.toInt ≤ 0))
    (z13 : ((0 ≤ (aI (G_9.2.1 (F a 47)) (l3_9.toInt - 1)) ∧ (aI (G_9.2.1 (F a 47)) (l3_9.toInt - 1)) < 3) ∧ (0 ≤ (aI (G_9.2.1 (F a 48)) (l3_9.toInt - 1)) ∧ (aI (G_9.2.1 (F a 48)) (l3_9.toInt - 1)) < 30) ∧ (0 ≤ (aI (G_9.2.1 (F a 49)) (l3_9.toInt - 1)) ∧ (aI (G_9.2.1 (F a 49)) (l3_9.toInt - 1)) ≤ 12) ∧ (0 ≤ (aI (G_9.2.1 (F a 50)) (l3_9.toInt - 1)) ∧ (aI (G_9.2.1 (F a 50)) (l3_9.toInt - 1)) ≤ 30)) ∧ l3_9.toInt + (pn (mw (G_9.2.1 (F a 1)) 0)) ≤ 90)
    (c27 : ¬ ((aI (G_9.2.1 (F a 49)) (l3_9.toInt - 1)) ≠ (12 : Int))) :
    cst (refA (G.2.1 (F a 10))) (refT (G.2.1 (F a 10))) (refC (G.2.1 (F a 10))) (gst (G_9.2.1 (F a 47)) (G_9.2.1 (F a 48)) (G_9.2.1 (F a 49)) (G_9.2.1 (F a 50)) (Int.toNat (l3_9.toInt)), mw (G_9.2.1 (F a 1)) 0) = (gst (G_9.2.1 (F a 47)) (G_9.2.1 (F a 48)) (G_9.2.1 (F a 49)) (G_9.2.1 (F a 50)) (Int.toNat (l3_9.toInt + (-1))), mw (G_9.2.1 (F a 1)) 0) := by
  have t9 := gst_p (a := G_9.2.1 (F a 47)) (b := G_9.2.1 (F a 48)) (c := G_9.2.1 (F a 49)) (d := G_9.2.1 (F a 50)) (n := l3_9.toInt) (by omega)
  rw [t9, cst_pop (by omega), show l3_9.toInt + -1 = l3_9.toInt - 1 from by omega]
theorem v_X11_cutAll_224_31 {K : Nat → Nat} {F : Nat → Nat → Nat} (a : Nat) (G : XG) (G4 : XG) (G_9 : XG) (p0 : Int32) (p1 : Int32) (l3_9 : Int32) (N9 : Nat)
    (ha : K a = 13)
    (rm : RM (G_9.2.1 (F a 1)) 0)
    (e1 : 0 ≤ p0.toInt ∧ p0.toInt < 3)
    (e2 : 0 ≤ p1.toInt ∧ p1.toInt < 30)
    (e3 : (cel (mw (G.2.1 (F a 1)) 0) (p0.toInt) (p1.toInt) 0) ≠ -2000)
    (en8 : 0 ≤ (cmu (gst (G4.2.1 (F a 47)) (G4.2.1 (F a 48)) (G4.2.1 (F a 49)) (G4.2.1 (F a 50)) (Int.toNat 1), mw (G4.2.1 (F a 1)) 0)) ∧ (cmu (gst (G4.2.1 (F a 47)) (G4.2.1 (F a 48)) (G4.2.1 (F a 49)) (G4.2.1 (F a 50)) (Int.toNat 1), mw (G4.2.1 (F a 1)) 0)) < 40000)
    (I9_0 : 0 ≤ l3_9.toInt ∧ l3_9.toInt ≤ 90)
    (I9_1 : 0 ≤ (cmu (gst (G_9.2.1 (F a 47)) (G_9.2.1 (F a 48)) (G_9.2.1 (F a 49)) (G_9.2.1 (F a 50)) (Int.toNat (l3_9.toInt)), mw (G_9.2.1 (F a 1)) 0)))
    (hm9 : (cmu (gst (G_9.2.1 (F a 47)) (G_9.2.1 (F a 48)) (G_9.2.1 (F a 49)) (G_9.2.1 (F a 50)) (Int.toNat (l3_9.toInt)), mw (G_9.2.1 (F a 1)) 0)) < (((N9) + 1 : Nat) : Int))
    (c10 : ¬ (l3_9.toInt ≤ 0))
    (z13 : ((0 ≤ (aI (G_9.2.1 (F a 47)) (l3_9.toInt - 1)) ∧ (aI (G_9.2.1 (F a 47)) (l3_9.toInt - 1)) < 3) ∧ (0 ≤ (aI (G_9.2.1 (F a 48)) (l3_9.toInt - 1)) ∧ (aI (G_9.2.1 (F a 48)) (l3_9.toInt - 1)) < 30) ∧ (0 ≤ (aI (G_9.2.1 (F a 49)) (l3_9.toInt - 1)) ∧ (aI (G_9.2.1 (F a 49)) (l3_9.toInt - 1)) ≤ 12) ∧ (0 ≤ (aI (G_9.2.1 (F a 50)) (l3_9.toInt - 1)) ∧ (aI (G_9.2.1 (F a 50)) (l3_9.toInt - 1)) ≤ 30)) ∧ l3_9.toInt + (pn (mw (G_9.2.1 (F a 1)) 0)) ≤ 90)
    (c27 : ¬ ((aI (G_9.2.1 (F a 49)) (l3_9.toInt - 1)) ≠ (12 : Int)))
    (mu224 : (cmu (gst (G_9.2.1 (F a 47)) (G_9.2.1 (F a 48)) (G_9.2.1 (F a 49)) (G_9.2.1 (F a 50)) (Int.toNat (l3_9.toInt + (-1))), mw (G_9.2.1 (F a 1)) 0)) < (cmu (gst (G_9.2.1 (F a 47)) (G_9.2.1 (F a 48)) (G_9.2.1 (F a 49)) (G_9.2.1 (F a 50)) (Int.toNat (l3_9.toInt)), mw (G_9.2.1 (F a 1)) 0)) ∧ 0 ≤ (cmu (gst (G_9.2.1 (F a 47)) (G_9.2.1 (F a 48)) (G_9.2.1 (F a 49)) (G_9.2.1 (F a 50)) (Int.toNat (l3_9.toInt + (-1))), mw (G_9.2.1 (F a 1)) 0))) :
    RM (G_9.2.1 (F a 1)) 0 := by
  first
    | exact rm
    | exact oq218e
    | exact rm.set (t := aI (G.2.1 (F a 10)) (10 * aI (G_9.2.1 (F a 49)) (l3_9.toInt - 1) + 1)) (k := aI (G_9.2.1 (F a 50)) (l3_9.toInt - 1)) (c := aI (G.2.1 (F a 10)) (10 * aI (G_9.2.1 (F a 49)) (l3_9.toInt - 1) + 2)) (by omega) (by decide) (by omega) (aI_pu hG203 c_G119_F_a_1 rfl (show ((-1000 : Int32)).toInt = -1000 from by decide) (by omega)) (Or.inl rfl)
theorem v_X11_cutAll_224_32 {F : Nat → Nat → Nat} (a : Nat) (G : XG) (G_9 : XG) (l3_9 : Int32)
    (hR : RV (G.2.1 (F a 10)))
    (iv : CIv (gst (G_9.2.1 (F a 47)) (G_9.2.1 (F a 48)) (G_9.2.1 (F a 49)) (G_9.2.1 (F a 50)) (Int.toNat (l3_9.toInt)), mw (G_9.2.1 (F a 1)) 0))
    (cs224 : cst (refA (G.2.1 (F a 10))) (refT (G.2.1 (F a 10))) (refC (G.2.1 (F a 10))) (gst (G_9.2.1 (F a 47)) (G_9.2.1 (F a 48)) (G_9.2.1 (F a 49)) (G_9.2.1 (F a 50)) (Int.toNat (l3_9.toInt)), mw (G_9.2.1 (F a 1)) 0) = (gst (G_9.2.1 (F a 47)) (G_9.2.1 (F a 48)) (G_9.2.1 (F a 49)) (G_9.2.1 (F a 50)) (Int.toNat (l3_9.toInt + (-1))), mw (G_9.2.1 (F a 1)) 0)) :
    CIv (gst (G_9.2.1 (F a 47)) (G_9.2.1 (F a 48)) (G_9.2.1 (F a 49)) (G_9.2.1 (F a 50)) (Int.toNat (l3_9.toInt + (-1))), mw (G_9.2.1 (F a 1)) 0) := by
  exact (cm_st (refTo hR) iv cs224).1
theorem v_X11_cutAll_224_33 {F : Nat → Nat → Nat} (a : Nat) (G : XG) (G_9 : XG) (p0 : Int32) (p1 : Int32) (l3_9 : Int32)
    (hR : RV (G.2.1 (F a 10)))
    (iv : CIv (gst (G_9.2.1 (F a 47)) (G_9.2.1 (F a 48)) (G_9.2.1 (F a 49)) (G_9.2.1 (F a 50)) (Int.toNat (l3_9.toInt)), mw (G_9.2.1 (F a 1)) 0))
    (fi : cfin (refA (G.2.1 (F a 10))) (refT (G.2.1 (F a 10))) (refC (G.2.1 (F a 10))) (gst (G_9.2.1 (F a 47)) (G_9.2.1 (F a 48)) (G_9.2.1 (F a 49)) (G_9.2.1 (F a 50)) (Int.toNat (l3_9.toInt)), mw (G_9.2.1 (F a 1)) 0) = cfin (refA (G.2.1 (F a 10))) (refT (G.2.1 (F a 10))) (refC (G.2.1 (F a 10))) ([(p0.toInt, p1.toInt, 0, 0)], rfil (mw (G.2.1 (F a 1)) 0) p0.toInt p1.toInt (-2000) 3))
    (cs224 : cst (refA (G.2.1 (F a 10))) (refT (G.2.1 (F a 10))) (refC (G.2.1 (F a 10))) (gst (G_9.2.1 (F a 47)) (G_9.2.1 (F a 48)) (G_9.2.1 (F a 49)) (G_9.2.1 (F a 50)) (Int.toNat (l3_9.toInt)), mw (G_9.2.1 (F a 1)) 0) = (gst (G_9.2.1 (F a 47)) (G_9.2.1 (F a 48)) (G_9.2.1 (F a 49)) (G_9.2.1 (F a 50)) (Int.toNat (l3_9.toInt + (-1))), mw (G_9.2.1 (F a 1)) 0)) :
    cfin (refA (G.2.1 (F a 10))) (refT (G.2.1 (F a 10))) (refC (G.2.1 (F a 10))) (gst (G_9.2.1 (F a 47)) (G_9.2.1 (F a 48)) (G_9.2.1 (F a 49)) (G_9.2.1 (F a 50)) (Int.toNat (l3_9.toInt + (-1))), mw (G_9.2.1 (F a 1)) 0) = cfin (refA (G.2.1 (F a 10))) (refT (G.2.1 (F a 10))) (refC (G.2.1 (F a 10))) ([(p0.toInt, p1.toInt, 0, 0)], rfil (mw (G.2.1 (F a 1)) 0) p0.toInt p1.toInt (-2000) 3) := by
  exact (cm_st (refTo hR) iv cs224).2.trans fi
theorem v_X11_cutAll_8_34 {F : Nat → Nat → Nat} (a : Nat) (G4 : XG)
    (oq4e : RM (G4.2.1 (F a 1)) 0) :
    RM (G4.2.1 (F a 1)) 0 := by
  exact oq4e
theorem v_X11_cutAll_8_35 {K : Nat → Nat} {F : Nat → Nat → Nat} (a : Nat) (G : XG) (G4 : XG) (p0 : Int32) (p1 : Int32)
    (ha : K a = 13)
    (hM : RM (G.2.1 (F a 1)) (0))
    (oq4 : ∀ z : Int, 0 ≤ z → aI (G4.2.1 (F a 47)) z = if z = (0 : Int) then p0.toInt else aI (G.2.1 (F a 47)) z)
    (oq4a : ∀ z : Int, 0 ≤ z → aI (G4.2.1 (F a 48)) z = if z = (0 : Int) then p1.toInt else aI (G.2.1 (F a 48)) z)
    (oq4b : ∀ z : Int, 0 ≤ z → aI (G4.2.1 (F a 49)) z = if z = (0 : Int) then 0 else aI (G.2.1 (F a 49)) z)
    (oq4c : ∀ z : Int, 0 ≤ z → aI (G4.2.1 (F a 50)) z = if z = (0 : Int) then 0 else aI (G.2.1 (F a 50)) z)
    (oq4d : mw (G4.2.1 (F a 1)) 0 = rfil (mw (G.2.1 (F a 1)) 0) p0.toInt p1.toInt (-2000) 3)
    (e1 : 0 ≤ p0.toInt ∧ p0.toInt < 3)
    (e2 : 0 ≤ p1.toInt ∧ p1.toInt < 30)
    (e3 : (cel (mw (G.2.1 (F a 1)) 0) (p0.toInt) (p1.toInt) 0) ≠ -2000)
    (en8 : 0 ≤ (cmu (gst (G4.2.1 (F a 47)) (G4.2.1 (F a 48)) (G4.2.1 (F a 49)) (G4.2.1 (F a 50)) (Int.toNat 1), mw (G4.2.1 (F a 1)) 0)) ∧ (cmu (gst (G4.2.1 (F a 47)) (G4.2.1 (F a 48)) (G4.2.1 (F a 49)) (G4.2.1 (F a 50)) (Int.toNat 1), mw (G4.2.1 (F a 1)) 0)) < 40000) :
    CIv (gst (G4.2.1 (F a 47)) (G4.2.1 (F a 48)) (G4.2.1 (F a 49)) (G4.2.1 (F a 50)) (Int.toNat (1 : Int)), mw (G4.2.1 (F a 1)) 0) := by
  have e := gst_g (n := 0) (by decide) oq4 oq4a oq4b oq4c
  rw [show Int.toNat (1 : Int) = ((0 : Int) + 1).toNat from rfl, e, oq4d]
  exact (civ_0 hM.rc (by omega) e3).1
theorem v_X11_cutAll_8_36 {F : Nat → Nat → Nat} (a : Nat) (G : XG) (G4 : XG) (p0 : Int32) (p1 : Int32)
    (oq4 : ∀ z : Int, 0 ≤ z → aI (G4.2.1 (F a 47)) z = if z = (0 : Int) then p0.toInt else aI (G.2.1 (F a 47)) z)
    (oq4a : ∀ z : Int, 0 ≤ z → aI (G4.2.1 (F a 48)) z = if z = (0 : Int) then p1.toInt else aI (G.2.1 (F a 48)) z)
    (oq4b : ∀ z : Int, 0 ≤ z → aI (G4.2.1 (F a 49)) z = if z = (0 : Int) then 0 else aI (G.2.1 (F a 49)) z)
    (oq4c : ∀ z : Int, 0 ≤ z → aI (G4.2.1 (F a 50)) z = if z = (0 : Int) then 0 else aI (G.2.1 (F a 50)) z)
    (oq4d : mw (G4.2.1 (F a 1)) 0 = rfil (mw (G.2.1 (F a 1)) 0) p0.toInt p1.toInt (-2000) 3) :
    cfin (refA (G.2.1 (F a 10))) (refT (G.2.1 (F a 10))) (refC (G.2.1 (F a 10))) (gst (G4.2.1 (F a 47)) (G4.2.1 (F a 48)) (G4.2.1 (F a 49)) (G4.2.1 (F a 50)) (Int.toNat (1 : Int)), mw (G4.2.1 (F a 1)) 0) = cfin (refA (G.2.1 (F a 10))) (refT (G.2.1 (F a 10))) (refC (G.2.1 (F a 10))) ([(p0.toInt, p1.toInt, 0, 0)], rfil (mw (G.2.1 (F a 1)) 0) p0.toInt p1.toInt (-2000) 3) := by
  have e := gst_g (n := 0) (by decide) oq4 oq4a oq4b oq4c
  rw [show Int.toNat (1 : Int) = ((0 : Int) + 1).toNat from rfl, e, oq4d]
  rfl
