theorem v_X11_cutAll_224_19 {K : Nat → Nat} {F : Nat → Nat → Nat} (a : Nat) (G : XG) (G4 : XG) (G_9 : XG) (G119 : XG) (G218 : XG) (p0 : Int32) (p1 : Int32) (l3_9 : Int32) (N9 : Nat) (x63 : Int32) (x129 : Int32)
    (ha : K a = 13)
    (rm : RM (G_9.2.1 (F a 1)) 0)
    (oq218e : RM (G218.2.1 (F a 1)) 0)
    (e1 : 0 ≤ p0.toInt ∧ p0.toInt < 3)
    (e2 : 0 ≤ p1.toInt ∧ p1.toInt < 30)
    (e3 : (cel (mw (G.2.1 (F a 1)) 0) (p0.toInt) (p1.toInt) 0) ≠ -2000)
    (en8 : 0 ≤ (cmu (gst (G4.2.1 (F a 47)) (G4.2.1 (F a 48)) (G4.2.1 (F a 49)) (G4.2.1 (F a 50)) (Int.toNat 1), mw (G4.2.1 (F a 1)) 0)) ∧ (cmu (gst (G4.2.1 (F a 47)) (G4.2.1 (F a 48)) (G4.2.1 (F a 49)) (G4.2.1 (F a 50)) (Int.toNat 1), mw (G4.2.1 (F a 1)) 0)) < 40000)
    (I9_0 : 0 ≤ l3_9.toInt ∧ l3_9.toInt ≤ 90)
    (I9_1 : 0 ≤ (cmu (gst (G_9.2.1 (F a 47)) (G_9.2.1 (F a 48)) (G_9.2.1 (F a 49)) (G_9.2.1 (F a 50)) (Int.toNat (l3_9.toInt)), mw (G_9.2.1 (F a 1)) 0)))
    (hm9 : (cmu (gst (G_9.2.1 (F a 47)) (G_9.2.1 (F a 48)) (G_9.2.1 (F a 49)) (G_9.2.1 (F a 50)) (Int.toNat (l3_9.toInt)), mw (G_9.2.1 (F a 1)) 0)) < (((N9) + 1 : Nat) : Int))
    (c10 : ¬ (l3_9.toInt ≤ 0))
    (z13 : ((0 ≤ (aI (G_9.2.1 (F a 47)) (l3_9.toInt - 1)) ∧ (aI (G_9.2.1 (F a 47)) (l3_9.toInt - 1)) < 3) ∧ (0 ≤ (aI (G_9.2.1 (F a 48)) (l3_9.toInt - 1)) ∧ (aI (G_9.2.1 (F a 48)) (l3_9.toInt - 1)) < 30) ∧ (0 ≤ (aI (G_9.2.1 (F a 49)) (l3_9.toInt - 1)) ∧ (aI (G_9.2.1 (F a 49)) (l3_9.toInt - 1)) ≤ 12) ∧ (0 ≤ (aI (G_9.2.1 (F a 50)) (l3_9.toInt - 1)) ∧ (aI (G_9.2.1 (F a 50)) (l3_9.toInt - 1)) ≤ 30)) ∧ l3_9.toInt + (pn (mw (G_9.2.1 (F a 1)) 0)) ≤ 90)
    (c27 : (aI (G_9.2.1 (F a 49)) (l3_9.toInt - 1)) ≠ (12 : Int))
    (c45 : ¬ ((aI (G_9.2.1 (F a 50)) (l3_9.toInt - 1)) = (30 : Int)))
    (t63 : (x63.toInt = 1 ∧ 0 < (refA (G.2.1 (F a 10)) (aI (G_9.2.1 (F a 49)) (l3_9.toInt - 1)) (aI (G_9.2.1 (F a 47)) (l3_9.toInt - 1)))) ∨ (x63.toInt = 0 ∧ ¬ (0 < (refA (G.2.1 (F a 10)) (aI (G_9.2.1 (F a 49)) (l3_9.toInt - 1)) (aI (G_9.2.1 (F a 47)) (l3_9.toInt - 1))))))
    (c66 : x63.toInt ≠ 0)
    (z91 : ((0 ≤ (aI (G_9.2.1 (F a 49)) (l3_9.toInt - 1)) ∧ (aI (G_9.2.1 (F a 49)) (l3_9.toInt - 1)) < 12 ∧ (aI (G.2.1 (F a 10)) (10 * (aI (G_9.2.1 (F a 49)) (l3_9.toInt - 1)) + 0)) = 1 ∧ (aI (G.2.1 (F a 10)) (10 * (aI (G_9.2.1 (F a 49)) (l3_9.toInt - 1)) + 3)) = (aI (G_9.2.1 (F a 47)) (l3_9.toInt - 1))) ∧ (refA (G.2.1 (F a 10)) (aI (G_9.2.1 (F a 49)) (l3_9.toInt - 1)) (aI (G_9.2.1 (F a 47)) (l3_9.toInt - 1))) = (aI (G.2.1 (F a 10)) (10 * (aI (G_9.2.1 (F a 49)) (l3_9.toInt - 1)) + 8))) ∨ (¬ (0 ≤ (aI (G_9.2.1 (F a 49)) (l3_9.toInt - 1)) ∧ (aI (G_9.2.1 (F a 49)) (l3_9.toInt - 1)) < 12 ∧ (aI (G.2.1 (F a 10)) (10 * (aI (G_9.2.1 (F a 49)) (l3_9.toInt - 1)) + 0)) = 1 ∧ (aI (G.2.1 (F a 10)) (10 * (aI (G_9.2.1 (F a 49)) (l3_9.toInt - 1)) + 3)) = (aI (G_9.2.1 (F a 47)) (l3_9.toInt - 1))) ∧ (refA (G.2.1 (F a 10)) (aI (G_9.2.1 (F a 49)) (l3_9.toInt - 1)) (aI (G_9.2.1 (F a 47)) (l3_9.toInt - 1))) = 0))
    (z91a : (-1 ≤ (aI (G.2.1 (F a 10)) (10 * (aI (G_9.2.1 (F a 49)) (l3_9.toInt - 1)) + 0)) ∧ (aI (G.2.1 (F a 10)) (10 * (aI (G_9.2.1 (F a 49)) (l3_9.toInt - 1)) + 0)) ≤ 5) ∧ (0 ≤ (aI (G.2.1 (F a 10)) (10 * (aI (G_9.2.1 (F a 49)) (l3_9.toInt - 1)) + 1)) ∧ (aI (G.2.1 (F a 10)) (10 * (aI (G_9.2.1 (F a 49)) (l3_9.toInt - 1)) + 1)) ≤ 2) ∧ (0 ≤ (aI (G.2.1 (F a 10)) (10 * (aI (G_9.2.1 (F a 49)) (l3_9.toInt - 1)) + 2)) ∧ (aI (G.2.1 (F a 10)) (10 * (aI (G_9.2.1 (F a 49)) (l3_9.toInt - 1)) + 2)) ≤ 2))
    (t129 : 0 ≤ (aI (G.2.1 (F a 10)) (10 * (aI (G_9.2.1 (F a 49)) (l3_9.toInt - 1)) + 1)) ∧ (aI (G.2.1 (F a 10)) (10 * (aI (G_9.2.1 (F a 49)) (l3_9.toInt - 1)) + 1)) ≤ 2 ∧ 0 ≤ (aI (G_9.2.1 (F a 50)) (l3_9.toInt - 1)) ∧ (aI (G_9.2.1 (F a 50)) (l3_9.toInt - 1)) ≤ 29 → x129.toInt = 4 * (30 * (aI (G.2.1 (F a 10)) (10 * (aI (G_9.2.1 (F a 49)) (l3_9.toInt - 1)) + 1)) + (aI (G_9.2.1 (F a 50)) (l3_9.toInt - 1))))
    (z134 : ((aI (G_9.2.1 (F a 1)) (0 + 4 * (30 * (aI (G.2.1 (F a 10)) (10 * (aI (G_9.2.1 (F a 49)) (l3_9.toInt - 1)) + 1)) + (aI (G_9.2.1 (F a 50)) (l3_9.toInt - 1))))) = 0 ∧ (cel (mw (G_9.2.1 (F a 1)) 0) (aI (G.2.1 (F a 10)) (10 * (aI (G_9.2.1 (F a 49)) (l3_9.toInt - 1)) + 1)) (aI (G_9.2.1 (F a 50)) (l3_9.toInt - 1)) (aI (G.2.1 (F a 10)) (10 * (aI (G_9.2.1 (F a 49)) (l3_9.toInt - 1)) + 2))) = -2000) ∨ ((aI (G_9.2.1 (F a 1)) (0 + 4 * (30 * (aI (G.2.1 (F a 10)) (10 * (aI (G_9.2.1 (F a 49)) (l3_9.toInt - 1)) + 1)) + (aI (G_9.2.1 (F a 50)) (l3_9.toInt - 1))))) = 1 ∧ (cel (mw (G_9.2.1 (F a 1)) 0) (aI (G.2.1 (F a 10)) (10 * (aI (G_9.2.1 (F a 49)) (l3_9.toInt - 1)) + 1)) (aI (G_9.2.1 (F a 50)) (l3_9.toInt - 1)) (aI (G.2.1 (F a 10)) (10 * (aI (G_9.2.1 (F a 49)) (l3_9.toInt - 1)) + 2))) = (aI (G_9.2.1 (F a 1)) (0 + 4 * (30 * (aI (G.2.1 (F a 10)) (10 * (aI (G_9.2.1 (F a 49)) (l3_9.toInt - 1)) + 1)) + (aI (G_9.2.1 (F a 50)) (l3_9.toInt - 1))) + 1 + (aI (G.2.1 (F a 10)) (10 * (aI (G_9.2.1 (F a 49)) (l3_9.toInt - 1)) + 2))))))
    (c142 : ¬ ((aI (G_9.2.1 (F a 1)) (0 + 4 * (30 * (aI (G.2.1 (F a 10)) (10 * (aI (G_9.2.1 (F a 49)) (l3_9.toInt - 1)) + 1)) + (aI (G_9.2.1 (F a 50)) (l3_9.toInt - 1))))) ≠ (1 : Int)))
    (c169 : ¬ ((aI (G_9.2.1 (F a 1)) (0 + 4 * (30 * (aI (G.2.1 (F a 10)) (10 * (aI (G_9.2.1 (F a 49)) (l3_9.toInt - 1)) + 1)) + (aI (G_9.2.1 (F a 50)) (l3_9.toInt - 1))) + 1 + (aI (G.2.1 (F a 10)) (10 * (aI (G_9.2.1 (F a 49)) (l3_9.toInt - 1)) + 2)))) ≠ (aI (G_9.2.1 (F a 48)) (l3_9.toInt - 1))))
    (c181 : (aI (G.2.1 (F a 10)) (10 * (aI (G_9.2.1 (F a 49)) (l3_9.toInt - 1)) + 8)) ≠ (2 : Int))
    (z207 : 1 ≤ (pn (mw (G_9.2.1 (F a 1)) 0)))
    (mu224 : (cmu (gst (G218.2.1 (F a 47)) (G218.2.1 (F a 48)) (G218.2.1 (F a 49)) (G218.2.1 (F a 50)) (Int.toNat (l3_9.toInt + 1)), mw (G218.2.1 (F a 1)) 0)) < (cmu (gst (G_9.2.1 (F a 47)) (G_9.2.1 (F a 48)) (G_9.2.1 (F a 49)) (G_9.2.1 (F a 50)) (Int.toNat (l3_9.toInt)), mw (G_9.2.1 (F a 1)) 0)) ∧ 0 ≤ (cmu (gst (G218.2.1 (F a 47)) (G218.2.1 (F a 48)) (G218.2.1 (F a 49)) (G218.2.1 (F a 50)) (Int.toNat (l3_9.toInt + 1)), mw (G218.2.1 (F a 1)) 0)))
    (c_G119_F_a_1 : G119.2.1 (F a 1) = G_9.2.1 (F a 1)) :
    RM (G218.2.1 (F a 1)) 0 := by
  first
    | exact rm
    | exact oq218e
    | exact rm.set (t := aI (G.2.1 (F a 10)) (10 * aI (G_9.2.1 (F a 49)) (l3_9.toInt - 1) + 1)) (k := aI (G_9.2.1 (F a 50)) (l3_9.toInt - 1)) (c := aI (G.2.1 (F a 10)) (10 * aI (G_9.2.1 (F a 49)) (l3_9.toInt - 1) + 2)) (by omega) (by decide) (by omega) (aI_pu hG203 c_G119_F_a_1 rfl (show ((-1000 : Int32)).toInt = -1000 from by decide) (by omega)) (Or.inl rfl)
theorem v_X11_cutAll_224_20 {F : Nat → Nat → Nat} (a : Nat) (G : XG) (G_9 : XG) (G218 : XG) (l3_9 : Int32)
    (hR : RV (G.2.1 (F a 10)))
    (iv : CIv (gst (G_9.2.1 (F a 47)) (G_9.2.1 (F a 48)) (G_9.2.1 (F a 49)) (G_9.2.1 (F a 50)) (Int.toNat (l3_9.toInt)), mw (G_9.2.1 (F a 1)) 0))
    (cs224 : cst (refA (G.2.1 (F a 10))) (refT (G.2.1 (F a 10))) (refC (G.2.1 (F a 10))) (gst (G_9.2.1 (F a 47)) (G_9.2.1 (F a 48)) (G_9.2.1 (F a 49)) (G_9.2.1 (F a 50)) (Int.toNat (l3_9.toInt)), mw (G_9.2.1 (F a 1)) 0) = (gst (G218.2.1 (F a 47)) (G218.2.1 (F a 48)) (G218.2.1 (F a 49)) (G218.2.1 (F a 50)) (Int.toNat (l3_9.toInt + 1)), mw (G218.2.1 (F a 1)) 0)) :
    CIv (gst (G218.2.1 (F a 47)) (G218.2.1 (F a 48)) (G218.2.1 (F a 49)) (G218.2.1 (F a 50)) (Int.toNat (l3_9.toInt + 1)), mw (G218.2.1 (F a 1)) 0) := by
  exact (cm_st (refTo hR) iv cs224).1
theorem v_X11_cutAll_224_21 {F : Nat → Nat → Nat} (a : Nat) (G : XG) (G_9 : XG) (G218 : XG) (p0 : Int32) (p1 : Int32) (l3_9 : Int32)
    (hR : RV (G.2.1 (F a 10)))
    (iv : CIv (gst (G_9.2.1 (F a 47)) (G_9.2.1 (F a 48)) (G_9.2.1 (F a 49)) (G_9.2.1 (F a 50)) (Int.toNat (l3_9.toInt)), mw (G_9.2.1 (F a 1)) 0))
    (fi : cfin (refA (G.2.1 (F a 10))) (refT (G.2.1 (F a 10))) (refC (G.2.1 (F a 10))) (gst (G_9.2.1 (F a 47)) (G_9.2.1 (F a 48)) (G_9.2.1 (F a 49)) (G_9.2.1 (F a 50)) (Int.toNat (l3_9.toInt)), mw (G_9.2.1 (F a 1)) 0) = cfin (refA (G.2.1 (F a 10))) (refT (G.2.1 (F a 10))) (refC (G.2.1 (F a 10))) ([(p0.toInt, p1.toInt, 0, 0)], rfil (mw (G.2.1 (F a 1)) 0) p0.toInt p1.toInt (-2000) 3))
    (cs224 : cst (refA (G.2.1 (F a 10))) (refT (G.2.1 (F a 10))) (refC (G.2.1 (F a 10))) (gst (G_9.2.1 (F a 47)) (G_9.2.1 (F a 48)) (G_9.2.1 (F a 49)) (G_9.2.1 (F a 50)) (Int.toNat (l3_9.toInt)), mw (G_9.2.1 (F a 1)) 0) = (gst (G218.2.1 (F a 47)) (G218.2.1 (F a 48)) (G218.2.1 (F a 49)) (G218.2.1 (F a 50)) (Int.toNat (l3_9.toInt + 1)), mw (G218.2.1 (F a 1)) 0)) :
    cfin (refA (G.2.1 (F a 10))) (refT (G.2.1 (F a 10))) (refC (G.2.1 (F a 10))) (gst (G218.2.1 (F a 47)) (G218.2.1 (F a 48)) (G218.2.1 (F a 49)) (G218.2.1 (F a 50)) (Int.toNat (l3_9.toInt + 1)), mw (G218.2.1 (F a 1)) 0) = cfin (refA (G.2.1 (F a 10))) (refT (G.2.1 (F a 10))) (refC (G.2.1 (F a 10))) ([(p0.toInt, p1.toInt, 0, 0)], rfil (mw (G.2.1 (F a 1)) 0) p0.toInt p1.toInt (-2000) 3) := by
  exact (cm_st (refTo hR) iv cs224).2.trans fi
theorem v_X11_cutAll_224_22 {K : Nat → Nat} {F : Nat → Nat → Nat} (a : Nat) (G : XG) (G4 : XG) (G_9 : XG) (G119 : XG) (x15 : Int32) (x118 : Int32) (G203 : XG) (x199 : Int32) (p0 : Int32) (p1 : Int32) (l3_9 : Int32) (N9 : Nat) (x63 : Int32) (x129 : Int32) (x191 : Int32)
    (ha : K a = 13)
    (hG119 : G119 = cput G_9 (F a 50) x15.toNatClampNeg x118)
    (hG203 : G203 = cput G119 (F a 1) x199.toNatClampNeg (-1000))
    (e15 : x15.toInt = (l3_9.toInt - (1 : Int)))
    (e118 : x118.toInt = ((aI (G_9.2.1 (F a 50)) (l3_9.toInt - 1)) + (1 : Int)))
    (e1 : 0 ≤ p0.toInt ∧ p0.toInt < 3)
    (e2 : 0 ≤ p1.toInt ∧ p1.toInt < 30)
    (e3 : (cel (mw (G.2.1 (F a 1)) 0) (p0.toInt) (p1.toInt) 0) ≠ -2000)
    (en8 : 0 ≤ (cmu (gst (G4.2.1 (F a 47)) (G4.2.1 (F a 48)) (G4.2.1 (F a 49)) (G4.2.1 (F a 50)) (Int.toNat 1), mw (G4.2.1 (F a 1)) 0)) ∧ (cmu (gst (G4.2.1 (F a 47)) (G4.2.1 (F a 48)) (G4.2.1 (F a 49)) (G4.2.1 (F a 50)) (Int.toNat 1), mw (G4.2.1 (F a 1)) 0)) < 40000)
    (I9_0 : 0 ≤ l3_9.toInt ∧ l3_9.toInt ≤ 90)
    (I9_1 : 0 ≤ (cmu (gst (G_9.2.1 (F a 47)) (G_9.2.1 (F a 48)) (G_9.2.1 (F a 49)) (G_9.2.1 (F a 50)) (Int.toNat (l3_9.toInt)), mw (G_9.2.1 (F a 1)) 0)))
    (hm9 : (cmu (gst (G_9.2.1 (F a 47)) (G_9.2.1 (F a 48)) (G_9.2.1 (F a 49)) (G_9.2.1 (F a 50)) (Int.toNat (l3_9.toInt)), mw (G_9.2.1 (F a 1)) 0)) < (((N9) + 1 : Nat) : Int))
    (c10 : ¬ (l3_9.toInt ≤ 0))
    (z13 : ((0 ≤ (aI (G_9.2.1 (F a 47)) (l3_9.toInt - 1)) ∧ (aI (G_9.2.1 (F a 47)) (l3_9.toInt - 1)) < 3) ∧ (0 ≤ (aI (G_9.2.1 (F a 48)) (l3_9.toInt - 1)) ∧ (aI (G_9.2.1 (F a 48)) (l3_9.toInt - 1)) < 30) ∧ (0 ≤ (aI (G_9.2.1 (F a 49)) (l3_9.toInt - 1)) ∧ (aI (G_9.2.1 (F a 49)) (l3_9.toInt - 1)) ≤ 12) ∧ (0 ≤ (aI (G_9.2.1 (F a 50)) (l3_9.toInt - 1)) ∧ (aI (G_9.2.1 (F a 50)) (l3_9.toInt - 1)) ≤ 30)) ∧ l3_9.toInt + (pn (mw (G_9.2.1 (F a 1)) 0)) ≤ 90)
    (c27 : (aI (G_9.2.1 (F a 49)) (l3_9.toInt - 1)) ≠ (12 : Int))
    (c45 : ¬ ((aI (G_9.2.1 (F a 50)) (l3_9.toInt - 1)) = (30 : Int)))
    (t63 : (x63.toInt = 1 ∧ 0 < (refA (G.2.1 (F a 10)) (aI (G_9.2.1 (F a 49)) (l3_9.toInt - 1)) (aI (G_9.2.1 (F a 47)) (l3_9.toInt - 1)))) ∨ (x63.toInt = 0 ∧ ¬ (0 < (refA (G.2.1 (F a 10)) (aI (G_9.2.1 (F a 49)) (l3_9.toInt - 1)) (aI (G_9.2.1 (F a 47)) (l3_9.toInt - 1))))))
    (c66 : x63.toInt ≠ 0)
    (z91 : ((0 ≤ (aI (G_9.2.1 (F a 49)) (l3_9.toInt - 1)) ∧ (aI (G_9.2.1 (F a 49)) (l3_9.toInt - 1)) < 12 ∧ (aI (G.2.1 (F a 10)) (10 * (aI (G_9.2.1 (F a 49)) (l3_9.toInt - 1)) + 0)) = 1 ∧ (aI (G.2.1 (F a 10)) (10 * (aI (G_9.2.1 (F a 49)) (l3_9.toInt - 1)) + 3)) = (aI (G_9.2.1 (F a 47)) (l3_9.toInt - 1))) ∧ (refA (G.2.1 (F a 10)) (aI (G_9.2.1 (F a 49)) (l3_9.toInt - 1)) (aI (G_9.2.1 (F a 47)) (l3_9.toInt - 1))) = (aI (G.2.1 (F a 10)) (10 * (aI (G_9.2.1 (F a 49)) (l3_9.toInt - 1)) + 8))) ∨ (¬ (0 ≤ (aI (G_9.2.1 (F a 49)) (l3_9.toInt - 1)) ∧ (aI (G_9.2.1 (F a 49)) (l3_9.toInt - 1)) < 12 ∧ (aI (G.2.1 (F a 10)) (10 * (aI (G_9.2.1 (F a 49)) (l3_9.toInt - 1)) + 0)) = 1 ∧ (aI (G.2.1 (F a 10)) (10 * (aI (G_9.2.1 (F a 49)) (l3_9.toInt - 1)) + 3)) = (aI (G_9.2.1 (F a 47)) (l3_9.toInt - 1))) ∧ (refA (G.2.1 (F a 10)) (aI (G_9.2.1 (F a 49)) (l3_9.toInt - 1)) (aI (G_9.2.1 (F a 47)) (l3_9.toInt - 1))) = 0))
    (z91a : (-1 ≤ (aI (G.2.1 (F a 10)) (10 * (aI (G_9.2.1 (F a 49)) (l3_9.toInt - 1)) + 0)) ∧ (aI (G.2.1 (F a 10)) (10 * (aI (G_9.2.1 (F a 49)) (l3_9.toInt - 1)) + 0)) ≤ 5) ∧ (0 ≤ (aI (G.2.1 (F a 10)) (10 * (aI (G_9.2.1 (F a 49)) (l3_9.toInt - 1)) + 1)) ∧ (aI (G.2.1 (F a 10)) (10 * (aI (G_9.2.1 (F a 49)) (l3_9.toInt - 1)) + 1)) ≤ 2) ∧ (0 ≤ (aI (G.2.1 (F a 10)) (10 * (aI (G_9.2.1 (F a 49)) (l3_9.toInt - 1)) + 2)) ∧ (aI (G.2.1 (F a 10)) (10 * (aI (G_9.2.1 (F a 49)) (l3_9.toInt - 1)) + 2)) ≤ 2))
    (t129 : 0 ≤ (aI (G.2.1 (F a 10)) (10 * (aI (G_9.2.1 (F a 49)) (l3_9.toInt - 1)) + 1)) ∧ (aI (G.2.1 (F a 10)) (10 * (aI (G_9.2.1 (F a 49)) (l3_9.toInt - 1)) + 1)) ≤ 2 ∧ 0 ≤ (aI (G_9.2.1 (F a 50)) (l3_9.toInt - 1)) ∧ (aI (G_9.2.1 (F a 50)) (l3_9.toInt - 1)) ≤ 29 → x129.toInt = 4 * (30 * (aI (G.2.1 (F a 10)) (10 * (aI (G_9.2.1 (F a 49)) (l3_9.toInt - 1)) + 1)) + (aI (G_9.2.1 (F a 50)) (l3_9.toInt - 1))))
    (z134 : ((aI (G_9.2.1 (F a 1)) (0 + 4 * (30 * (aI (G.2.1 (F a 10)) (10 * (aI (G_9.2.1 (F a 49)) (l3_9.toInt - 1)) + 1)) + (aI (G_9.2.1 (F a 50)) (l3_9.toInt - 1))))) = 0 ∧ (cel (mw (G_9.2.1 (F a 1)) 0) (aI (G.2.1 (F a 10)) (10 * (aI (G_9.2.1 (F a 49)) (l3_9.toInt - 1)) + 1)) (aI (G_9.2.1 (F a 50)) (l3_9.toInt - 1)) (aI (G.2.1 (F a 10)) (10 * (aI (G_9.2.1 (F a 49)) (l3_9.toInt - 1)) + 2))) = -2000) ∨ ((aI (G_9.2.1 (F a 1)) (0 + 4 * (30 * (aI (G.2.1 (F a 10)) (10 * (aI (G_9.2.1 (F a 49)) (l3_9.toInt - 1)) + 1)) + (aI (G_9.2.1 (F a 50)) (l3_9.toInt - 1))))) = 1 ∧ (cel (mw (G_9.2.1 (F a 1)) 0) (aI (G.2.1 (F a 10)) (10 * (aI (G_9.2.1 (F a 49)) (l3_9.toInt - 1)) + 1)) (aI (G_9.2.1 (F a 50)) (l3_9.toInt - 1)) (aI (G.2.1 (F a 10)) (10 * (aI (G_9.2.1 (F a 49)) (l3_9.toInt - 1)) + 2))) = (aI (G_9.2.1 (F a 1)) (0 + 4 * (30 * (aI (G.2.1 (F a 10)) (10 * (aI (G_9.2.1 (F a 49)) (l3_9.toInt - 1)) + 1)) + (aI (G_9.2.1 (F a 50)) (l3_9.toInt - 1))) + 1 + (aI (G.2.1 (F a 10)) (10 * (aI (G_9.2.1 (F a 49)) (l3_9.toInt - 1)) + 2))))))
    (c142 : ¬ ((aI (G_9.2.1 (F a 1)) (0 + 4 * (30 * (aI (G.2.1 (F a 10)) (10 * (aI (G_9.2.1 (F a 49)) (l3_9.toInt - 1)) + 1)) + (aI (G_9.2.1 (F a 50)) (l3_9.toInt - 1))))) ≠ (1 : Int)))
    (c169 : ¬ ((aI (G_9.2.1 (F a 1)) (0 + 4 * (30 * (aI (G.2.1 (F a 10)) (10 * (aI (G_9.2.1 (F a 49)) (l3_9.toInt - 1)) + 1)) + (aI (G_9.2.1 (F a 50)) (l3_9.toInt - 1))) + 1 + (aI (G.2.1 (F a 10)) (10 * (aI (G_9.2.1 (F a 49)) (l3_9.toInt - 1)) + 2)))) ≠ (aI (G_9.2.1 (F a 48)) (l3_9.toInt - 1))))
    (c181 : ¬ ((aI (G.2.1 (F a 10)) (10 * (aI (G_9.2.1 (F a 49)) (l3_9.toInt - 1)) + 8)) ≠ (2 : Int)))
    (t191 : x191.toInt = x129.toInt + (1 : Int) ∨ x129.toInt + (1 : Int) < -2147483648 ∨ 2147483648 ≤ x129.toInt + (1 : Int))
    (t199 : x199.toInt = x191.toInt + (aI (G.2.1 (F a 10)) (10 * (aI (G_9.2.1 (F a 49)) (l3_9.toInt - 1)) + 2)) ∨ x191.toInt + (aI (G.2.1 (F a 10)) (10 * (aI (G_9.2.1 (F a 49)) (l3_9.toInt - 1)) + 2)) < -2147483648 ∨ 2147483648 ≤ x191.toInt + (aI (G.2.1 (F a 10)) (10 * (aI (G_9.2.1 (F a 49)) (l3_9.toInt - 1)) + 2)))
    (c_G119_F_a_1 : G119.2.1 (F a 1) = G_9.2.1 (F a 1)) :
    cst (refA (G.2.1 (F a 10))) (refT (G.2.1 (F a 10))) (refC (G.2.1 (F a 10))) (gst (G_9.2.1 (F a 47)) (G_9.2.1 (F a 48)) (G_9.2.1 (F a 49)) (G_9.2.1 (F a 50)) (Int.toNat (l3_9.toInt)), mw (G_9.2.1 (F a 1)) 0) = (gst (G_9.2.1 (F a 47)) (G_9.2.1 (F a 48)) (G_9.2.1 (F a 49)) (G119.2.1 (F a 50)) (Int.toNat (l3_9.toInt)), mw (G203.2.1 (F a 1)) 0) := by
  have t9 := gst_p (a := G_9.2.1 (F a 47)) (b := G_9.2.1 (F a 48)) (c := G_9.2.1 (F a 49)) (d := G_9.2.1 (F a 50)) (n := l3_9.toInt) (by omega)
  have rf := refT_f (f := G.2.1 (F a 10)) (r := aI (G_9.2.1 (F a 49)) (l3_9.toInt - 1)) (t := aI (G_9.2.1 (F a 47)) (l3_9.toInt - 1)) (by omega)
  rw [t9, cst_cl (by omega) (by omega) (by omega) (by rw [rf.2.1, rf.2.2.1]; omega), gst_n (n := l3_9.toInt) (by omega) (aI_pu hG119 rfl e15 e118 (by omega)), rf.2.1, rf.2.2.1]
  have e1 := mw_set (b := 0) (t := aI (G.2.1 (F a 10)) (10 * aI (G_9.2.1 (F a 49)) (l3_9.toInt - 1) + 1)) (k := aI (G_9.2.1 (F a 50)) (l3_9.toInt - 1)) (c := aI (G.2.1 (F a 10)) (10 * aI (G_9.2.1 (F a 49)) (l3_9.toInt - 1) + 2)) (by omega) (by decide) (by omega) (aI_pu hG203 c_G119_F_a_1 rfl (show ((-1000 : Int32)).toInt = -1000 from by decide) (by omega)) (by omega)
  rw [e1]
theorem v_X11_cutAll_224_23 {K : Nat → Nat} {F : Nat → Nat → Nat} (a : Nat) (G : XG) (G4 : XG) (G_9 : XG) (G119 : XG) (G203 : XG) (x199 : Int32) (p0 : Int32) (p1 : Int32) (l3_9 : Int32) (N9 : Nat) (x63 : Int32) (x129 : Int32) (x191 : Int32)
    (ha : K a = 13)
    (hG203 : G203 = cput G119 (F a 1) x199.toNatClampNeg (-1000))
    (rm : RM (G_9.2.1 (F a 1)) 0)
    (e1 : 0 ≤ p0.toInt ∧ p0.toInt < 3)
    (e2 : 0 ≤ p1.toInt ∧ p1.toInt < 30)
    (e3 : (cel (mw (G.2.1 (F a 1)) 0) (p0.toInt) (p1.toInt) 0) ≠ -2000)
    (en8 : 0 ≤ (cmu (gst (G4.2.1 (F a 47)) (G4.2.1 (F a 48)) (G4.2.1 (F a 49)) (G4.2.1 (F a 50)) (Int.toNat 1), mw (G4.2.1 (F a 1)) 0)) ∧ (cmu (gst (G4.2.1 (F a 47)) (G4.2.1 (F a 48)) (G4.2.1 (F a 49)) (G4.2.1 (F a 50)) (Int.toNat 1), mw (G4.2.1 (F a 1)) 0)) < 40000)
    (I9_0 : 0 ≤ l3_9.toInt ∧ l3_9.toInt ≤ 90)
    (I9_1 : 0 ≤ (cmu (gst (G_9.2.1 (F a 47)) (G_9.2.1 (F a 48)) (G_9.2.1 (F a 49)) (G_9.2.1 (F a 50)) (Int.toNat (l3_9.toInt)), mw (G_9.2.1 (F a 1)) 0)))
    (hm9 : (cmu (gst (G_9.2.1 (F a 47)) (G_9.2.1 (F a 48)) (G_9.2.1 (F a 49)) (G_9.2.1 (F a 50)) (Int.toNat (l3_9.toInt)), mw (G_9.2.1 (F a 1)) 0)) < (((N9) + 1 : Nat) : Int))
    (c10 : ¬ (l3_9.toInt ≤ 0))
    (z13 : ((0 ≤ (aI (G_9.2.1 (F a 47)) (l3_9.toInt - 1)) ∧ (aI (G_9.2.1 (F a 47)) (l3_9.toInt - 1)) < 3) ∧ (0 ≤ (aI (G_9.2.1 (F a 48)) (l3_9.toInt - 1)) ∧ (aI (G_9.2.1 (F a 48)) (l3_9.toInt - 1)) < 30) ∧ (0 ≤ (aI (G_9.2.1 (F a 49)) (l3_9.toInt - 1)) ∧ (aI (G_9.2.1 (F a 49)) (l3_9.toInt - 1)) ≤ 12) ∧ (0 ≤ (aI (G_9.2.1 (F a 50)) (l3_9.toInt - 1)) ∧ (aI (G_9.2.1 (F a 50)) (l3_9.toInt - 1)) ≤ 30)) ∧ l3_9.toInt + (pn (mw (G_9.2.1 (F a 1)) 0)) ≤ 90)
    (c27 : (aI (G_9.2.1 (F a 49)) (l3_9.toInt - 1)) ≠ (12 : Int))
    (c45 : ¬ ((aI (G_9.2.1 (F a 50)) (l3_9.toInt - 1)) = (30 : Int)))
    (t63 : (x63.toInt = 1 ∧ 0 < (refA (G.2.1 (F a 10)) (aI (G_9.2.1 (F a 49)) (l3_9.toInt - 1)) (aI (G_9.2.1 (F a 47)) (l3_9.toInt - 1)))) ∨ (x63.toInt = 0 ∧ ¬ (0 < (refA (G.2.1 (F a 10)) (aI (G_9.2.1 (F a 49)) (l3_9.toInt - 1)) (aI (G_9.2.1 (F a 47)) (l3_9.toInt - 1))))))
    (c66 : x63.toInt ≠ 0)
    (z91 : ((0 ≤ (aI (G_9.2.1 (F a 49)) (l3_9.toInt - 1)) ∧ (aI (G_9.2.1 (F a 49)) (l3_9.toInt - 1)) < 12 ∧ (aI (G.2.1 (F a 10)) (10 * (aI (G_9.2.1 (F a 49)) (l3_9.toInt - 1)) + 0)) = 1 ∧ (aI (G.2.1 (F a 10)) (10 * (aI (G_9.2.1 (F a 49)) (l3_9.toInt - 1)) + 3)) = (aI (G_9.2.1 (F a 47)) (l3_9.toInt - 1))) ∧ (refA (G.2.1 (F a 10)) (aI (G_9.2.1 (F a 49)) (l3_9.toInt - 1)) (aI (G_9.2.1 (F a 47)) (l3_9.toInt - 1))) = (aI (G.2.1 (F a 10)) (10 * (aI (G_9.2.1 (F a 49)) (l3_9.toInt - 1)) + 8))) ∨ (¬ (0 ≤ (aI (G_9.2.1 (F a 49)) (l3_9.toInt - 1)) ∧ (aI (G_9.2.1 (F a 49)) (l3_9.toInt - 1)) < 12 ∧ (aI (G.2.1 (F a 10)) (10 * (aI (G_9.2.1 (F a 49)) (l3_9.toInt - 1)) + 0)) = 1 ∧ (aI (G.2.1 (F a 10)) (10 * (aI (G_9.2.1 (F a 49)) (l3_9.toInt - 1)) + 3)) = (aI (G_9.2.1 (F a 47)) (l3_9.toInt - 1))) ∧ (refA (G.2.1 (F a 10)) (aI (G_9.2.1 (F a 49)) (l3_9.toInt - 1)) (aI (G_9.2.1 (F a 47)) (l3_9.toInt - 1))) = 0))
    (z91a : (-1 ≤ (aI (G.2.1 (F a 10)) (10 * (aI (G_9.2.1 (F a 49)) (l3_9.toInt - 1)) + 0)) ∧ (aI (G.2.1 (F a 10)) (10 * (aI (G_9.2.1 (F a 49)) (l3_9.toInt - 1)) + 0)) ≤ 5) ∧ (0 ≤ (aI (G.2.1 (F a 10)) (10 * (aI (G_9.2.1 (F a 49)) (l3_9.toInt - 1)) + 1)) ∧ (aI (G.2.1 (F a 10)) (10 * (aI (G_9.2.1 (F a 49)) (l3_9.toInt - 1)) + 1)) ≤ 2) ∧ (0 ≤ (aI (G.2.1 (F a 10)) (10 * (aI (G_9.2.1 (F a 49)) (l3_9.toInt - 1)) + 2)) ∧ (aI (G.2.1 (F a 10)) (10 * (aI (G_9.2.1 (F a 49)) (l3_9.toInt - 1)) + 2)) ≤ 2))
    (t129 : 0 ≤ (aI (G.2.1 (F a 10)) (10 * (aI (G_9.2.1 (F a 49)) (l3_9.toInt - 1)) + 1)) ∧ (aI (G.2.1 (F a 10)) (10 * (aI (G_9.2.1 (F a 49)) (l3_9.toInt - 1)) + 1)) ≤ 2 ∧ 0 ≤ (aI (G_9.2.1 (F a 50)) (l3_9.toInt - 1)) ∧ (aI (G_9.2.1 (F a 50)) (l3_9.toInt - 1)) ≤ 29 → x129.toInt = 4 * (30 * (aI (G.2.1 (F a 10)) (10 * (aI (G_9.2.1 (F a 49)) (l3_9.toInt - 1)) + 1)) + (aI (G_9.2.1 (F a 50)) (l3_9.toInt - 1))))
    (z134 : ((aI (G_9.2.1 (F a 1)) (0 + 4 * (30 * (aI (G.2.1 (F a 10)) (10 * (aI (G_9.2.1 (F a 49)) (l3_9.toInt - 1)) + 1)) + (aI (G_9.2.1 (F a 50)) (l3_9.toInt - 1))))) = 0 ∧ (cel (mw (G_9.2.1 (F a 1)) 0) (aI (G.2.1 (F a 10)) (10 * (aI (G_9.2.1 (F a 49)) (l3_9.toInt - 1)) + 1)) (aI (G_9.2.1 (F a 50)) (l3_9.toInt - 1)) (aI (G.2.1 (F a 10)) (10 * (aI (G_9.2.1 (F a 49)) (l3_9.toInt - 1)) + 2))) = -2000) ∨ ((aI (G_9.2.1 (F a 1)) (0 + 4 * (30 * (aI (G.2.1 (F a 10)) (10 * (aI (G_9.2.1 (F a 49)) (l3_9.toInt - 1)) + 1)) + (aI (G_9.2.1 (F a 50)) (l3_9.toInt - 1))))) = 1 ∧ (cel (mw (G_9.2.1 (F a 1)) 0) (aI (G.2.1 (F a 10)) (10 * (aI (G_9.2.1 (F a 49)) (l3_9.toInt - 1)) + 1)) (aI (G_9.2.1 (F a 50)) (l3_9.toInt - 1)) (aI (G.2.1 (F a 10)) (10 * (aI (G_9.2.1 (F a 49)) (l3_9.toInt - 1)) + 2))) = (aI (G_9.2.1 (F a 1)) (0 + 4 * (30 * (aI (G.2.1 (F a 10)) (10 * (aI (G_9.2.1 (F a 49)) (l3_9.toInt - 1)) + 1)) + (aI (G_9.2.1 (F a 50)) (l3_9.toInt - 1))) + 1 + (aI (G.2.1 (F a 10)) (10 * (aI (G_9.2.1 (F a 49)) (l3_9.toInt - 1)) + 2))))))
    (c142 : ¬ ((aI (G_9.2.1 (F a 1)) (0 + 4 * (30 * (aI (G.2.1 (F a 10)) (10 * (aI (G_9.2.1 (F a 49)) (l3_9.toInt - 1)) + 1)) + (aI (G_9.2.1 (F a 50)) (l3_9.toInt - 1))))) ≠ (1 : Int)))
    (c169 : ¬ ((aI (G_9.2.1 (F a 1)) (0 + 4 * (30 * (aI (G.2.1 (F a 10)) (10 * (aI (G_9.2.1 (F a 49)) (l3_9.toInt - 1)) + 1)) + (aI (G_9.2.1 (F a 50)) (l3_9.toInt - 1))) + 1 + (aI (G.2.1 (F a 10)) (10 * (aI (G_9.2.1 (F a 49)) (l3_9.toInt - 1)) + 2)))) ≠ (aI (G_9.2.1 (F a 48)) (l3_9.toInt - 1))))
    (c181 : ¬ ((aI (G.2.1 (F a 10)) (10 * (aI (G_9.2.1 (F a 49)) (l3_9.toInt - 1)) + 8)) ≠ (2 : Int)))
    (t191 : x191.toInt = x129.toInt + (1 : Int) ∨ x129.toInt + (1 : Int) < -2147483648 ∨ 2147483648 ≤ x129.toInt + (1 : Int))
    (t199 : x199.toInt = x191.toInt + (aI (G.2.1 (F a 10)) (10 * (aI (G_9.2.1 (F a 49)) (l3_9.toInt - 1)) + 2)) ∨ x191.toInt + (aI (G.2.1 (F a 10)) (10 * (aI (G_9.2.1 (F a 49)) (l3_9.toInt - 1)) + 2)) < -2147483648 ∨ 2147483648 ≤ x191.toInt + (aI (G.2.1 (F a 10)) (10 * (aI (G_9.2.1 (F a 49)) (l3_9.toInt - 1)) + 2)))
    (mu224 : (cmu (gst (G_9.2.1 (F a 47)) (G_9.2.1 (F a 48)) (G_9.2.1 (F a 49)) (G119.2.1 (F a 50)) (Int.toNat (l3_9.toInt)), mw (G203.2.1 (F a 1)) 0)) < (cmu (gst (G_9.2.1 (F a 47)) (G_9.2.1 (F a 48)) (G_9.2.1 (F a 49)) (G_9.2.1 (F a 50)) (Int.toNat (l3_9.toInt)), mw (G_9.2.1 (F a 1)) 0)) ∧ 0 ≤ (cmu (gst (G_9.2.1 (F a 47)) (G_9.2.1 (F a 48)) (G_9.2.1 (F a 49)) (G119.2.1 (F a 50)) (Int.toNat (l3_9.toInt)), mw (G203.2.1 (F a 1)) 0)))
    (c_G119_F_a_1 : G119.2.1 (F a 1) = G_9.2.1 (F a 1)) :
    RM (G203.2.1 (F a 1)) 0 := by
  first
    | exact rm
    | exact oq218e
    | exact rm.set (t := aI (G.2.1 (F a 10)) (10 * aI (G_9.2.1 (F a 49)) (l3_9.toInt - 1) + 1)) (k := aI (G_9.2.1 (F a 50)) (l3_9.toInt - 1)) (c := aI (G.2.1 (F a 10)) (10 * aI (G_9.2.1 (F a 49)) (l3_9.toInt - 1) + 2)) (by omega) (by decide) (by omega) (aI_pu hG203 c_G119_F_a_1 rfl (show ((-1000 : Int32)).toInt = -1000 from by decide) (by omega)) (Or.inl rfl)
theorem v_X11_cutAll_224_24 {F : Nat → Nat → Nat} (a : Nat) (G : XG) (G_9 : XG) (G119 : XG) (G203 : XG) (l3_9 : Int32)
    (hR : RV (G.2.1 (F a 10)))
    (iv : CIv (gst (G_9.2.1 (F a 47)) (G_9.2.1 (F a 48)) (G_9.2.1 (F a 49)) (G_9.2.1 (F a 50)) (Int.toNat (l3_9.toInt)), mw (G_9.2.1 (F a 1)) 0))
    (cs224 : cst (refA (G.2.1 (F a 10))) (refT (G.2.1 (F a 10))) (refC (G.2.1 (F a 10))) (gst (G_9.2.1 (F a 47)) (G_9.2.1 (F a 48)) (G_9.2.1 (F a 49)) (G_9.2.1 (F a 50)) (Int.toNat (l3_9.toInt)), mw (G_9.2.1 (F a 1)) 0) = (gst (G_9.2.1 (F a 47)) (G_9.2.1 (F a 48)) (G_9.2.1 (F a 49)) (G119.2.1 (F a 50)) (Int.toNat (l3_9.toInt)), mw (G203.2.1 (F a 1)) 0)) :
    CIv (gst (G_9.2.1 (F a 47)) (G_9.2.1 (F a 48)) (G_9.2.1 (F a 49)) (G119.2.1 (F a 50)) (Int.toNat (l3_9.toInt)), mw (G203.2.1 (F a 1)) 0) := by
  exact (cm_st (refTo hR) iv cs224).1
theorem v_X11_cutAll_224_25 {F : Nat → Nat → Nat} (a : Nat) (G : XG) (G_9 : XG) (G119 : XG) (G203 : XG) (p0 : Int32) (p1 : Int32) (l3_9 : Int32)
    (hR : RV (G.2.1 (F a 10)))
    (iv : CIv (gst (G_9.2.1 (F a 47)) (G_9.2.1 (F a 48)) (G_9.2.1 (F a 49)) (G_9.2.1 (F a 50)) (Int.toNat (l3_9.toInt)), mw (G_9.2.1 (F a 1)) 0))
    (fi : cfin (refA (G.2.1 (F a 10))) (refT (G.2.1 (F a 10))) (refC (G.2.1 (F a 10))) (gst (G_9.2.1 (F a 47)) (G_9.2.1 (F a 48)) (G_9.2.1 (F a 49)) (G_9.2.1 (F a 50)) (Int.toNat (l3_9.toInt)), mw (G_9.2.1 (F a 1)) 0) = cfin (refA (G.2.1 (F a 10))) (refT (G.2.1 (F a 10))) (refC (G.2.1 (F a 10))) ([(p0.toInt, p1.toInt, 0, 0)], rfil (mw (G.2.1 (F a 1)) 0) p0.toInt p1.toInt (-2000) 3))
    (cs224 : cst (refA (G.2.1 (F a 10))) (refT (G.2.1 (F a 10))) (refC (G.2.1 (F a 10))) (gst (G_9.2.1 (F a 47)) (G_9.2.1 (F a 48)) (G_9.2.1 (F a 49)) (G_9.2.1 (F a 50)) (Int.toNat (l3_9.toInt)), mw (G_9.2.1 (F a 1)) 0) = (gst (G_9.2.1 (F a 47)) (G_9.2.1 (F a 48)) (G_9.2.1 (F a 49)) (G119.2.1 (F a 50)) (Int.toNat (l3_9.toInt)), mw (G203.2.1 (F a 1)) 0)) :
    cfin (refA (G.2.1 (F a 10))) (refT (G.2.1 (F a 10))) (refC (G.2.1 (F a 10))) (gst (G_9.2.1 (F a 47)) (G_9.2.1 (F a 48)) (G_9.2.1 (F a 49)) (G119.2.1 (F a 50)) (Int.toNat (l3_9.toInt)), mw (G203.2.1 (F a 1)) 0) = cfin (refA (G.2.1 (F a 10))) (refT (G.2.1 (F a 10))) (refC (G.2.1 (F a 10))) ([(p0.toInt, p1.toInt, 0, 0)], rfil (mw (G.2.1 (F a 1)) 0) p0.toInt p1.toInt (-2000) 3) := by
  exact (cm_st (refTo hR) iv cs224).2.trans fi
theorem v_X11_cutAll_224_26 {K : Nat → Nat} {F : Nat → Nat → Nat} (a : Nat) (G : XG) (G4 : XG) (G_9 : XG) (G79 : XG) (x15 : Int32) (x78 : Int32) (G87 : XG) (p0 : Int32) (p1 : Int32) (l3_9 : Int32) (N9 : Nat) (x63 : Int32)
    (ha : K a = 13)
    (hG79 : G79 = cput G_9 (F a 49) x15.toNatClampNeg x78)
    (hG87 : G87 = cput G79 (F a 50) x15.toNatClampNeg 0)
    (e15 : x15.toInt = (l3_9.toInt - (1 : Int)))
    (e78 : x78.toInt = ((aI (G_9.2.1 (F a 49)) (l3_9.toInt - 1)) + (1 : Int)))
    (e1 : 0 ≤ p0.toInt ∧ p0.toInt < 3)
    (e2 : 0 ≤ p1.toInt ∧ p1.toInt < 30)
    (e3 : (cel (mw (G.2.1 (F a 1)) 0) (p0.toInt) (p1.toInt) 0) ≠ -2000)
    (en8 : 0 ≤ (cmu (gst (G4.2.1 (F a 47)) (G4.2.1 (F a 48)) (G4.2.1 (F a 49)) (G4.2.1 (F a 50)) (Int.toNat 1), mw (G4.2.1 (F a 1)) 0)) ∧ (cmu (gst (G4.2.1 (F a 47)) (G4.2.1 (F a 48)) (G4.2.1 (F a 49)) (G4.2.1 (F a 50)) (Int.toNat 1), mw (G4.2.1 (F a 1)) 0)) < 40000)
    (I9_0 : 0 ≤ l3_9.toInt ∧ l3_9.toInt ≤ 90)
    (I9_1 : 0 ≤ (cmu (gst (G_9.2.1 (F a 47)) (G_9.2.1 (F a 48)) (G_9.2.1 (F a 49)) (G_9.2.1 (F a 50)) (Int.toNat (l3_9.toInt)), mw (G_9.2.1 (F a 1)) 0)))
    (hm9 : (cmu (gst (G_9.2.1 (F a 47)) (G_9.2.1 (F a 48)) (G_9.2.1 (F a 49)) (G_9.2.1 (F a 50)) (Int.toNat (l3_9.toInt)), mw (G_9.2.1 (F a 1)) 0)) < (((N9) + 1 : Nat) : Int))
    (c10 : ¬ (l3_9.toInt ≤ 0))
    (z13 : ((0 ≤ (aI (G_9.2.1 (F a 47)) (l3_9.toInt - 1)) ∧ (aI (G_9.2.1 (F a 47)) (l3_9.toInt - 1)) < 3) ∧ (0 ≤ (aI (G_9.2.1 (F a 48)) (l3_9.toInt - 1)) ∧ (aI (G_9.2.1 (F a 48)) (l3_9.toInt - 1)) < 30) ∧ (0 ≤ (aI (G_9.2.1 (F a 49)) (l3_9.toInt - 1)) ∧ (aI (G_9.2.1 (F a 49)) (l3_9.toInt - 1)) ≤ 12) ∧ (0 ≤ (aI (G_9.2.1 (F a 50)) (l3_9.toInt - 1)) ∧ (aI (G_9.2.1 (F a 50)) (l3_9.toInt - 1)) ≤ 30)) ∧ l3_9.toInt + (pn (mw (G_9.2.1 (F a 1)) 0)) ≤ 90)
    (c27 : (aI (G_9.2.1 (F a 49)) (l3_9.toInt - 1)) ≠ (12 : Int))
    (c45 : ¬ ((aI (G_9.2.1 (F a 50)) (l3_9.toInt - 1)) = (30 : Int)))
    (t63 : (x63.toInt = 1 ∧ 0 < (refA (G.2.1 (F a 10)) (aI (G_9.2.1 (F a 49)) (l3_9.toInt - 1)) (aI (G_9.2.1 (F a 47)) (l3_9.toInt - 1)))) ∨ (x63.toInt = 0 ∧ ¬ (0 < (refA (G.2.1 (F a 10)) (aI (G_9.2.1 (F a 49)) (l3_9.toInt - 1)) (aI (G_9.2.1 (F a 47)) (l3_9.toInt - 1))))))
    (c66 : ¬ (x63.toInt ≠ 0))
    (c_G79_F_a_50 : G79.2.1 (F a 50) = G_9.2.1 (F a 50)) :
    cst (refA (G.2.1 (F a 10))) (refT (G.2.1 (F a 10))) (refC (G.2.1 (F a 10))) (gst (G_9.2.1 (F a 47)) (G_9.2.1 (F a 48)) (G_9.2.1 (F a 49)) (G_9.2.1 (F a 50)) (Int.toNat (l3_9.toInt)), mw (G_9.2.1 (F a 1)) 0) = (gst (G_9.2.1 (F a 47)) (G_9.2.1 (F a 48)) (G79.2.1 (F a 49)) (G87.2.1 (F a 50)) (Int.toNat (l3_9.toInt)), mw (G_9.2.1 (F a 1)) 0) := by
  have t9 := gst_p (a := G_9.2.1 (F a 47)) (b := G_9.2.1 (F a 48)) (c := G_9.2.1 (F a 49)) (d := G_9.2.1 (F a 50)) (n := l3_9.toInt) (by omega)
  rw [t9, cst_nx (by omega) (by omega), gst_u (n := l3_9.toInt) (by omega) (aI_pu hG79 rfl e15 e78 (by omega)) (aI_pu hG87 c_G79_F_a_50 e15 (show ((0 : Int32)).toInt = 0 from by decide) (by omega))]
theorem v_X11_cutAll_224_27 {K : Nat → Nat} {F : Nat → Nat → Nat} (a : Nat) (G : XG) (G4 : XG) (G_9 : XG) (G79 : XG) (G87 : XG) (p0 : Int32) (p1 : Int32) (l3_9 : Int32) (N9 : Nat) (x63 : Int32)
    (ha : K a = 13)
    (rm : RM (G_9.2.1 (F a 1)) 0)
    (e1 : 0 ≤ p0.toInt ∧ p0.toInt < 3)
    (e2 : 0 ≤ p1.toInt ∧ p1.toInt < 30)
    (e3 : (cel (mw (G.2.1 (F a 1)) 0) (p0.toInt) (p1.toInt) 0) ≠ -2000)
    (en8 : 0 ≤ (cmu (gst (G4.2.1 (F a 47)) (G4.2.1 (F a 48)) (G4.2.1 (F a 49)) (G4.2.1 (F a 50)) (Int.toNat 1), mw (G4.2.1 (F a 1)) 0)) ∧ (cmu (gst (G4.2.1 (F a 47)) (G4.2.1 (F a 48)) (G4.2.1 (F a 49)) (G4.2.1 (F a 50)) (Int.toNat 1), mw (G4.2.1 (F a 1)) 0)) < 40000)
    (I9_0 : 0 ≤ l3_9.toInt ∧ l3_9.toInt ≤ 90)
    (I9_1 : 0 ≤ (cmu (gst (G_9.2.1 (F a 47)) (G_9.2.1 (F a 48)) (G_9.2.1 (F a 49)) (G_9.2.1 (F a 50)) (Int.toNat (l3_9.toInt)), mw (G_9.2.1 (F a 1)) 0)))
    (hm9 : (cmu (gst (G_9.2.1 (F a 47)) (G_9.2.1 (F a 48)) (G_9.2.1 (F a 49)) (G_9.2.1 (F a 50)) (Int.toNat (l3_9.toInt)), mw (G_9.2.1 (F a 1)) 0)) < (((N9) + 1 : Nat) : Int))
    (c10 : ¬ (l3_9.toInt ≤ 0))
    (z13 : ((0 ≤ (aI (G_9.2.1 (F a 47)) (l3_9.toInt - 1)) ∧ (aI (G_9.2.1 (F a 47)) (l3_9.toInt - 1)) < 3) ∧ (0 ≤ (aI (G_9.2.1 (F a 48)) (l3_9.toInt - 1)) ∧ (aI (G_9.2.1 (F a 48)) (l3_9.toInt - 1)) < 30) ∧ (0 ≤ (aI (G_9.2.1 (F a 49)) (l3_9.toInt - 1)) ∧ (aI (G_9.2.1 (F a 49)) (l3_9.toInt - 1)) ≤ 12) ∧ (0 ≤ (aI (G_9.2.1 (F a 50)) (l3_9.toInt - 1)) ∧ (aI (G_9.2.1 (F a 50)) (l3_9.toInt - 1)) ≤ 30)) ∧ l3_9.toInt + (pn (mw (G_9.2.1 (F a 1)) 0)) ≤ 90)
    (c27 : (aI (G_9.2.1 (F a 49)) (l3_9.toInt - 1)) ≠ (12 : Int))
    (c45 : ¬ ((aI (G_9.2.1 (F a 50)) (l3_9.toInt - 1)) = (30 : Int)))
    (t63 : (x63.toInt = 1 ∧ 0 < (refA (G.2.1 (F a 10)) (aI (G_9.2.1 (F a 49)) (l3_9.toInt - 1)) (aI (G_9.2.1 (F a 47)) (l3_9.toInt - 1)))) ∨ (x63.toInt = 0 ∧ ¬ (0 < (refA (G.2.1 (F a 10)) (aI (G_9.2.1 (F a 49)) (l3_9.toInt - 1)) (aI (G_9.2.1 (F a 47)) (l3_9.toInt - 1))))))
    (c66 : ¬ (x63.toInt ≠ 0))
    (mu224 : (cmu (gst (G_9.2.1 (F a 47)) (G_9.2.1 (F a 48)) (G79.2.1 (F a 49)) (G87.2.1 (F a 50)) (Int.toNat (l3_9.toInt)), mw (G_9.2.1 (F a 1)) 0)) < (cmu (gst (G_9.2.1 (F a 47)) (G_9.2.1 (F a 48)) (G_9.2.1 (F a 49)) (G_9.2.1 (F a 50)) (Int.toNat (l3_9.toInt)), mw (G_9.2.1 (F a 1)) 0)) ∧ 0 ≤ (cmu (gst (G_9.2.1 (F a 47)) (G_9.2.1 (F a 48)) (G79.2.1 (F a 49)) (G87.2.1 (F a 50)) (Int.toNat (l3_9.toInt)), mw (G_9.2.1 (F a 1)) 0))) :
    RM (G_9.2.1 (F a 1)) 0 := by
  first
    | exact rm
    | exact oq218e
    | exact rm.set (t := aI (G.2.1 (F a 10)) (10 * aI (G_9.2.1 (F a 49)) (l3_9.toInt - 1) + 1)) (k := aI (G_9.2.1 (F a 50)) (l3_9.toInt - 1)) (c := aI (G.2.1 (F a 10)) (10 * aI (G_9.2.1 (F a 49)) (l3_9.toInt - 1) + 2)) (by omega) (by decide) (by omega) (aI_pu hG203 c_G119_F_a_1 rfl (show ((-1000 : Int32)).toInt = -1000 from by decide) (by omega)) (Or.inl rfl)
theorem v_X11_cutAll_224_28 {F : Nat → Nat → Nat} (a : Nat) (G : XG) (G_9 : XG) (G79 : XG) (G87 : XG) (l3_9 : Int32)
    (hR : RV (G.2.1 (F a 10)))
    (iv : CIv (gst (G_9.2.1 (F a 47)) (G_9.2.1 (F a 48)) (G_9.2.1 (F a 49)) (G_9.2.1 (F a 50)) (Int.toNat (l3_9.toInt)), mw (G_9.2.1 (F a 1)) 0))
    (cs224 : cst (refA (G.2.1 (F a 10))) (refT (G.2.1 (F a 10))) (refC (G.2.1 (F a 10))) (gst (G_9.2.1 (F a 47)) (G_9.2.1 (F a 48)) (G_9.2.1 (F a 49)) (G_9.2.1 (F a 50)) (Int.toNat (l3_9.toInt)), mw (G_9.2.1 (F a 1)) 0) = (gst (G_9.2.1 (F a 47)) (G_9.2.1 (F a 48)) (G79.2.1 (F a 49)) (G87.2.1 (F a 50)) (Int.toNat (l3_9.toInt)), mw (G_9.2.1 (F a 1)) 0)) :
    CIv (gst (G_9.2.1 (F a 47)) (G_9.2.1 (F a 48)) (G79.2.1 (F a 49)) (G87.2.1 (F a 50)) (Int.toNat (l3_9.toInt)), mw (G_9.2.1 (F a 1)) 0) := by
  exact (cm_st (refTo hR) iv cs224).1
theorem v_X11_cutAll_224_29 {F : Nat → Nat → Nat} (a : Nat) (G : XG) (G_9 : XG) (G79 : XG) (G87 : XG) (p0 : Int32) (p1 : Int32) (l3_9 : Int32)
    (hR : RV (G.2.1 (F a 10)))
    (iv : CIv (gst (G_9.2.1 (F a 47)) (G_9.2.1 (F a 48)) (G_9.2.1 (F a 49)) (G_9.2.1 (F a 50)) (Int.toNat (l3_9.toInt)), mw (G_9.2.1 (F a 1)) 0))
    (fi : cfin (refA (G.2.1 (F a 10))) (refT (G.2.1 (F a 10))) (refC (G.2.1 (F a 10))) (gst (G_9.2.1 (F a 47)) (G_9.2.1 (F a 48)) (G_9.2.1 (F a 49)) (G_9.2.1 (F a 50)) (Int.toNat (l3_9.toInt)), mw (G_9.2.1 (F a 1)) 0) = cfin (refA (G.2.1 (F a 10))) (refT (G.2.1 (F a 10))) (refC (G.2.1 (F a 10))) ([(p0.toInt, p1.toInt, 0, 0)], rfil (mw (G.2.1 (F a 1)) 0) p0.toInt p1.toInt (-2000) 3))
    (cs224 : cst (refA (G.2.1 (F a 10))) (refT (G.2.1 (F a 10))) (refC (G.2.1 (F a 10))) (gst (G_9.2.1 (F a 47)) (G_9.2.1 (F a 48)) (G_9.2.1 (F a 49)) (G_9.2.1 (F a 50)) (Int.toNat (l3_9.toInt)), mw (G_9.2.1 (F a 1)) 0) = (gst (G_9.2.1 (F a 47)) (G_9.2.1 (F a 48)) (G79.2.1 (F a 49)) (G87.2.1 (F a 50)) (Int.toNat (l3_9.toInt)), mw (G_9.2.1 (F a 1)) 0)) :
    cfin (refA (G.2.1 (F a 10))) (refT (G.2.1 (F a 10))) (refC (G.2.1 (F a 10))) (gst (G_9.2.1 (F a 47)) (G_9.2.1 (F a 48)) (G79.2.1 (F a 49)) (G87.2.1 (F a 50)) (Int.toNat (l3_9.toInt)), mw (G_9.2.1 (F a 1)) 0) = cfin (refA (G.2.1 (F a 10))) (refT (G.2.1 (F a 10))) (refC (G.2.1 (F a 10))) ([(p0.toInt, p1.toInt, 0, 0)], rfil (mw (G.2.1 (F a 1)) 0) p0.toInt p1.toInt (-2000) 3) := by
  exact (cm_st (refTo hR) iv cs224).2.trans fi
theorem v_X11_cutAll_224_30 {K : Nat → Nat} {F : Nat → Nat → Nat} (a : Nat) (G : XG) (G4 : XG) (G_9 : XG) (p0 : Int32) (p1 : Int32) (l3_9 : Int32) (N9 : Nat)
    (ha : K a = 13)
    (e1 : 0 ≤ p0.toInt ∧ p0.toInt < 3)
    (e2 : 0 ≤ p1.toInt ∧ p1.toInt < 30)
    (e3 : (cel (mw (G.2.1 (F a 1)) 0) (p0.toInt) (p1.toInt) 0) ≠ -2000)
    (en8 : 0 ≤ (cmu (gst (G4.2.1 (F a 47)) (G4.2.1 (F a 48)) (G4.2.1 (F a 49)) (G4.2.1 (F a 50)) (Int.toNat 1), mw (G4.2.1 (F a 1)) 0)) ∧ (cmu (gst (G4.2.1 (F a 47)) (G4.2.1 (F a 48)) (G4.2.1 (F a 49)) (G4.2.1 (F a 50)) (Int.toNat 1), mw (G4.2.1 (F a 1)) 0)) < 40000)
    (I9_0 : 0 ≤ l3_9.toInt ∧ l3_9.toInt ≤ 90)
    (I9_1 : 0 ≤ (cmu (gst (G_9.2.1 (F a 47)) (G_9.2.1 (F a 48)) (G_9.2.1 (F a 49)) (G_9.2.1 (F a 50)) (Int.toNat (l3_9.toInt)), mw (G_9.2.1 (F a 1)) 0)))
    (hm9 : (cmu (gst (G_9.2.1 (F a 47)) (G_9.2.1 (F a 48)) (G_9.2.1 (F a 49)) (G_9.2.1 (F a 50)) (Int.toNat (l3_9.toInt)), mw (G_9.2.1 (F a 1)) 0)) < (((N9) + 1 : Nat) : Int))
    (c10 : ¬ (l3_9.toInt ≤ 0))
    (z13 : ((0 ≤ (aI (G_9.2.1 (F a 47)) (l3_9.toInt - 1)) ∧ (aI (G_9.2.1 (F a 47)) (l3_9.toInt - 1)) < 3) ∧ (0 ≤ (aI (G_9.2.1 (F a 48)) (l3_9.toInt - 1)) ∧ (aI (G_9.2.1 (F a 48)) (l3_9.toInt - 1)) < 30) ∧ (0 ≤ (aI (G_9.2.1 (F a 49)) (l3_9.toInt - 1)) ∧ (aI (G_9.2.1 (F a 49)) (l3_9.toInt - 1)) ≤ 12) ∧ (0 ≤ (aI (G_9.2.1 (F a 50)) (l3_9.toInt - 1)) ∧ (aI (G_9.2.1 (F a 50)) (l3_9.toInt - 1)) ≤ 30)) ∧ l3_9.toInt + (pn (mw (G_9.2.1 (F a 1)) 0)) ≤ 90)
    (c27 : ¬ ((aI (G_9.2.1 (F a 49)) (l3_9.toInt - 1)) ≠ (12 : Int))) :
    cst (refA (G.2.1 (F a 10))) (refT (G.2.1 (F a 10))) (refC (G.2.1 (F a 10))) (gst (G_9.2.1 (F a 47)) (G_9.2.1 (F a 48)) (G_9.2.1 (F a 49)) (G_9.2.1 (F a 50)) (Int.toNat (l3_9.toInt)), mw (G_9.2.1 (F a 1)) 0) = (gst (G_9.2.1 (F a 47)) (G_9.2.1 (F a 48)) (G_9.2.1 (F a 49)) (G_9.2.1 (F a 50)) (Int.toNat (l3_9.toInt + (-1))), mw (G_9.2.1 (F a 1)) 0) := by
  have t9 := gst_p (a := G_9.2.1 (F a 47)) (b := G_9.2.1 (F a 48)) (c := G_9.2.1 (F a 49)) (d := G_9.2.1 (F a 50)) (n := l3_9.toInt) (by omega)
  rw [t9, cst_pop (by omega), show l3_9.toInt + -1 = l3_9.toInt - 1 from by omega]
theorem v_X11_cutAll_224_31 {K : Nat → Nat} {F : Nat → Nat → Nat} (a : Nat) (G : XG) (G4 : XG) (G_9 : XG) (p0 : Int32) (p1 : Int32) (l3_9 : Int32) (N9 : Nat)
    (ha : K a = 13)
    (rm : RM (G_9.2.1 (F a 1)) 0)
    (e1 : 0 ≤ p0.toInt ∧ p0.toInt < 3)
    (e2 : 0 ≤ p1.toInt ∧ p1.toInt < 30)
    (e3 : (cel (mw (G.2.1 (F a 1)) 0) (p0.toInt) (p1.toInt) 0) ≠ -2000)
    (en8 : 0 ≤ (cmu (gst (G4.2.1 (F a 47)) (G4.2.1 (F a 48)) (G4.2.1 (F a 49)) (G4.2.1 (F a 50)) (Int.toNat 1), mw (G4.2.1 (F a 1)) 0)) ∧ (cmu (gst (G4.2.1 (F a 47)) (G4.2.1 (F a 48)) (G4.2.1 (F a 49)) (G4.2.1 (F a 50)) (Int.toNat 1), mw (G4.2.1 (F a 1)) 0)) < 40000)
    (I9_0 : 0 ≤ l3_9.toInt ∧ l3_9.toInt ≤ 90)
    (I9_1 : 0 ≤ (cmu (gst (G_9.2.1 (F a 47)) (G_9.2.1 (F a 48)) (G_9.2.1 (F a 49)) (G_9.2.1 (F a 50)) (Int.toNat (l3_9.toInt)), mw (G_9.2.1 (F a 1)) 0)))
    (hm9 : (cmu (gst (G_9.2.1 (F a 47)) (G_9.2.1 (F a 48)) (G_9.2.1 (F a 49)) (G_9.2.1 (F a 50)) (Int.toNat (l3_9.toInt)), mw (G_9.2.1 (F a 1)) 0)) < (((N9) + 1 : Nat) : Int))
    (c10 : ¬ (l3_9.toInt ≤ 0))
    (z13 : ((0 ≤ (aI (G_9.2.1 (F a 47)) (l3_9.toInt - 1)) ∧ (aI (G_9.2.1 (F a 47)) (l3_9.toInt - 1)) < 3) ∧ (0 ≤ (aI (G_9.2.1 (F a 48)) (l3_9.toInt - 1)) ∧ (aI (G_9.2.1 (F a 48)) (l3_9.toInt - 1)) < 30) ∧ (0 ≤ (aI (G_9.2.1 (F a 49)) (l3_9.toInt - 1)) ∧ (aI (G_9.2.1 (F a 49)) (l3_9.toInt - 1)) ≤ 12) ∧ (0 ≤ (aI (G_9.2.1 (F a 50)) (l3_9.toInt - 1)) ∧ (aI (G_9.2.1 (F a 50)) (l3_9.toInt - 1)) ≤ 30)) ∧ l3_9.toInt + (pn (mw (G_9.2.1 (F a 1)) 0)) ≤ 90)
    (c27 : ¬ ((aI (G_9.2.1 (F a 49)) (l3_9.toInt - 1)) ≠ (12 : Int)))
    (mu224 : (cmu (gst (G_9.2.1 (F a 47)) (G_9.2.1 (F a 48)) (G_9.2.1 (F a 49)) (G_9.2.1 (F a 50)) (Int.toNat (l3_9.toInt + (-1))), mw (G_9.2.1 (F a 1)) 0)) < (cmu (gst (G_9.2.1 (F a 47)) (G_9.2.1 (F a 48)) (G_9.2.1 (F a 49)) (G_9.2.1 (F a 50)) (Int.toNat (l3_9.toInt)), mw (G_9.2.1 (F a 1)) 0)) ∧ 0 ≤ (cmu (gst (G_9.2.1 (F a 47)) (G_9.2.1 (F a 48)) (G_9.2.1 (F a 49)) (G_9.2.1 (F a 50)) (Int.toNat (l3_9.toInt + (-1))), mw (G_9.2.1 (F a 1)) 0))) :
    RM (G_9.2.1 (F a 1)) 0 := by
  first
    | exact rm
    | exact oq218e
    | exact rm.set (t := aI (G.2.1 (F a 10)) (10 * aI (G_9.2.1 (F a 49)) (l3_9.toInt - 1) + 1)) (k := aI (G_9.2.1 (F a 50)) (l3_9.toInt - 1)) (c := aI (G.2.1 (F a 10)) (10 * aI (G_9.2.1 (F a 49)) (l3_9.toInt - 1) + 2)) (by omega) (by decide) (by omega) (aI_pu hG203 c_G119_F_a_1 rfl (show ((-1000 : Int32)).toInt = -1000 from by decide) (by omega)) (Or.inl rfl)
theorem v_X11_cutAll_224_32 {F : Nat → Nat → Nat} (a : Nat) (G : XG) (G_9 : XG) (l3_9 : Int32)
    (hR : RV (G.2.1 (F a 10)))
    (iv : CIv (gst (G_9.2.1 (F a 47)) (G_9.2.1 (F a 48)) (G_9.2.1 (F a 49)) (G_9.2.1 (F a 50)) (Int.toNat (l3_9.toInt)), mw (G_9.2.1 (F a 1)) 0))
    (cs224 : cst (refA (G.2.1 (F a 10))) (refT (G.2.1 (F a 10))) (refC (G.2.1 (F a 10))) (gst (G_9.2.1 (F a 47)) (G_9.2.1 (F a 48)) (G_9.2.1 (F a 49)) (G_9.2.1 (F a 50)) (Int.toNat (l3_9.toInt)), mw (G_9.2.1 (F a 1)) 0) = (gst (G_9.2.1 (F a 47)) (G_9.2.1 (F a 48)) (G_9.2.1 (F a 49)) (G_9.2.1 (F a 50)) (Int.toNat (l3_9.toInt + (-1))), mw (G_9.2.1 (F a 1)) 0)) :
    CIv (gst (G_9.2.1 (F a 47)) (G_9.2.1 (F a 48)) (G_9.2.1 (F a 49)) (G_9.2.1 (F a 50)) (Int.toNat (l3_9.toInt + (-1))), mw (G_9.2.1 (F a 1)) 0) := by
  exact (cm_st (refTo hR) iv cs224).1
theorem v_X11_cutAll_224_33 {F : Nat → Nat → Nat} (a : Nat) (G : XG) (G_9 : XG) (p0 : Int32) (p1 : Int32) (l3_9 : Int32)
    (hR : RV (G.2.1 (F a 10)))
    (iv : CIv (gst (G_9.2.1 (F a 47)) (G_9.2.1 (F a 48)) (G_9.2.1 (F a 49)) (G_9.2.1 (F a 50)) (Int.toNat (l3_9.toInt)), mw (G_9.2.1 (F a 1)) 0))
    (fi : cfin (refA (G.2.1 (F a 10))) (refT (G.2.1 (F a 10))) (refC (G.2.1 (F a 10))) (gst (G_9.2.1 (F a 47)) (G_9.2.1 (F a 48)) (G_9.2.1 (F a 49)) (G_9.2.1 (F a 50)) (Int.toNat (l3_9.toInt)), mw (G_9.2.1 (F a 1)) 0) = cfin (refA (G.2.1 (F a 10))) (refT (G.2.1 (F a 10))) (refC (G.2.1 (F a 10))) ([(p0.toInt, p1.toInt, 0, 0)], rfil (mw (G.2.1 (F a 1)) 0) p0.toInt p1.toInt (-2000) 3))
    (cs224 : cst (refA (G.2.1 (F a 10))) (refT (G.2.1 (F a 10))) (refC (G.2.1 (F a 10))) (gst (G_9.2.1 (F a 47)) (G_9.2.1 (F a 48)) (G_9.2.1 (F a 49)) (G_9.2.1 (F a 50)) (Int.toNat (l3_9.toInt)), mw (G_9.2.1 (F a 1)) 0) = (gst (G_9.2.1 (F a 47)) (G_9.2.1 (F a 48)) (G_9.2.1 (F a 49)) (G_9.2.1 (F a 50)) (Int.toNat (l3_9.toInt + (-1))), mw (G_9.2.1 (F a 1)) 0)) :
    cfin (refA (G.2.1 (F a 10))) (refT (G.2.1 (F a 10))) (refC (G.2.1 (F a 10))) (gst (G_9.2.1 (F a 47)) (G_9.2.1 (F a 48)) (G_9.2.1 (F a 49)) (G_9.2.1 (F a 50)) (Int.toNat (l3_9.toInt + (-1))), mw (G_9.2.1 (F a 1)) 0) = cfin (refA (G.2.1 (F a 10))) (refT (G.2.1 (F a 10))) (refC (G.2.1 (F a 10))) ([(p0.toInt, p1.toInt, 0, 0)], rfil (mw (G.2.1 (F a 1)) 0) p0.toInt p1.toInt (-2000) 3) := by
  exact (cm_st (refTo hR) iv cs224).2.trans fi
theorem v_X11_cutAll_8_34 {F : Nat → Nat → Nat} (a : Nat) (G4 : XG)
    (oq4e : RM (G4.2.1 (F a 1)) 0) :
    RM (G4.2.1 (F a 1)) 0 := by
  exact oq4e
theorem v_X11_cutAll_8_35 {K : Nat → Nat} {F : Nat → Nat → Nat} (a : Nat) (G : XG) (G4 : XG) (p0 : Int32) (p1 : Int32)
    (ha : K a = 13)
    (hM : RM (G.2.1 (F a 1)) (0))
    (oq4 : ∀ z : Int, 0 ≤ z → aI (G4.2.1 (F a 47)) z = if z = (0 : Int) then p0.toInt else aI (G.2.1 (F a 47)) z)
    (oq4a : ∀ z : Int, 0 ≤ z → aI (G4.2.1 (F a 48)) z = if z = (0 : Int) then p1.toInt else aI (G.2.1 (F a 48)) z)
    (oq4b : ∀ z : Int, 0 ≤ z → aI (G4.2.1 (F a 49)) z = if z = (0 : Int) then 0 else aI (G.2.1 (F a 49)) z)
    (oq4c : ∀ z : Int, 0 ≤ z → aI (G4.2.1 (F a 50)) z = if z = (0 : Int) then 0 else aI (G.2.1 (F a 50)) z)
    (oq4d : mw (G4.2.1 (F a 1)) 0 = rfil (mw (G.2.1 (F a 1)) 0) p0.toInt p1.toInt (-2000) 3)
    (e1 : 0 ≤ p0.toInt ∧ p0.toInt < 3)
    (e2 : 0 ≤ p1.toInt ∧ p1.toInt < 30)
    (e3 : (cel (mw (G.2.1 (F a 1)) 0) (p0.toInt) (p1.toInt) 0) ≠ -2000)
    (en8 : 0 ≤ (cmu (gst (G4.2.1 (F a 47)) (G4.2.1 (F a 48)) (G4.2.1 (F a 49)) (G4.2.1 (F a 50)) (Int.toNat 1), mw (G4.2.1 (F a 1)) 0)) ∧ (cmu (gst (G4.2.1 (F a 47)) (G4.2.1 (F a 48)) (G4.2.1 (F a 49)) (G4.2.1 (F a 50)) (Int.toNat 1), mw (G4.2.1 (F a 1)) 0)) < 40000) :
    CIv (gst (G4.2.1 (F a 47)) (G4.2.1 (F a 48)) (G4.2.1 (F a 49)) (G4.2.1 (F a 50)) (Int.toNat (1 : Int)), mw (G4.2.1 (F a 1)) 0) := by
  have e := gst_g (n := 0) (by decide) oq4 oq4a oq4b oq4c
  rw [show Int.toNat (1 : Int) = ((0 : Int) + 1).toNat from rfl, e, oq4d]
  exact (civ_0 hM.rc (by omega) e3).1
theorem v_X11_cutAll_8_36 {F : Nat → Nat → Nat} (a : Nat) (G : XG) (G4 : XG) (p0 : Int32) (p1 : Int32)
    (oq4 : ∀ z : Int, 0 ≤ z → aI (G4.2.1 (F a 47)) z = if z = (0 : Int) then p0.toInt else aI (G.2.1 (F a 47)) z)
    (oq4a : ∀ z : Int, 0 ≤ z → aI (G4.2.1 (F a 48)) z = if z = (0 : Int) then p1.toInt else aI (G.2.1 (F a 48)) z)
    (oq4b : ∀ z : Int, 0 ≤ z → aI (G4.2.1 (F a 49)) z = if z = (0 : Int) then 0 else aI (G.2.1 (F a 49)) z)
    (oq4c : ∀ z : Int, 0 ≤ z → aI (G4.2.1 (F a 50)) z = if z = (0 : Int) then 0 else aI (G.2.1 (F a 50)) z)
    (oq4d : mw (G4.2.1 (F a 1)) 0 = rfil (mw (G.2.1 (F a 1)) 0) p0.toInt p1.toInt (-2000) 3) :
    cfin (refA (G.2.1 (F a 10))) (refT (G.2.1 (F a 10))) (refC (G.2.1 (F a 10))) (gst (G4.2.1 (F a 47)) (G4.2.1 (F a 48)) (G4.2.1 (F a 49)) (G4.2.1 (F a 50)) (Int.toNat (1 : Int)), mw (G4.2.1 (F a 1)) 0) = cfin (refA (G.2.1 (F a 10))) (refT (G.2.1 (F a 10))) (refC (G.2.1 (F a 10))) ([(p0.toInt, p1.toInt, 0, 0)], rfil (mw (G.2.1 (F a 1)) 0) p0.toInt p1.toInt (-2000) 3) := by
  have e := gst_g (n := 0) (by decide) oq4 oq4a oq4b oq4c
  rw [show Int.toNat (1 : Int) = ((0 : Int) + 1).toNat from rfl, e, oq4d]
  rfl
theorem v_X11_cut_28_1 {F : Nat → Nat → Nat} (x10 : Int32) (p0 : Int32) (G25 : XG) (a : Nat) (G : XG) (p1 : Int32)
    (t10 : (x10.toInt = 1 ∧ 0 ≤ p0.toInt ∧ p0.toInt ≤ 2) ∨ (x10.toInt = 0 ∧ (p0.toInt < 0 ∨ 2 < p0.toInt)))
    (c13 : x10.toInt = 0)
    (c_G25_F_a_1 : G25.2.1 (F a 1) = G.2.1 (F a 1)) :
    (¬ ((0 ≤ p0.toInt ∧ p0.toInt < 3) ∧ (0 ≤ p1.toInt ∧ p1.toInt < 30)) ∧ (-1 : Int) = -1 ∧ mw (G25.2.1 (F a 1)) 0 = (mw (G.2.1 (F a 1)) 0)) ∨ (((0 ≤ p0.toInt ∧ p0.toInt < 3) ∧ (0 ≤ p1.toInt ∧ p1.toInt < 30)) ∧ cel (mw (G.2.1 (F a 1)) 0) p0.toInt p1.toInt 0 = -2000 ∧ (-1 : Int) = -2 ∧ mw (G25.2.1 (F a 1)) 0 = (mw (G.2.1 (F a 1)) 0)) ∨ (((0 ≤ p0.toInt ∧ p0.toInt < 3) ∧ (0 ≤ p1.toInt ∧ p1.toInt < 30)) ∧ cel (mw (G.2.1 (F a 1)) 0) p0.toInt p1.toInt 0 ≠ -2000 ∧ StR ((G.1 a 6).toInt) (-1 : Int) (G.2.1 (F a 10)) (mw (G.2.1 (F a 1)) 0) (cfin (refA (G.2.1 (F a 10))) (refT (G.2.1 (F a 10))) (refC (G.2.1 (F a 10))) ([(p0.toInt, p1.toInt, 0, 0)], rfil (mw (G.2.1 (F a 1)) 0) p0.toInt p1.toInt (-2000) 3)) (mw (G25.2.1 (F a 1)) 0)) := by
  refine Or.inl ⟨fun h => ?_, rfl, by rw [c_G25_F_a_1]⟩
  obtain ⟨h1, h2⟩ := h
  have hk := h1
  clear h1 h2
  omega
theorem v_X11_cut_28_2 {F : Nat → Nat → Nat} (a : Nat) (G : XG) (G25 : XG)
    (hM : RM (G.2.1 (F a 1)) (0))
    (c_G25_F_a_1 : G25.2.1 (F a 1) = G.2.1 (F a 1)) :
    RM (G25.2.1 (F a 1)) 0 := by
  rw [c_G25_F_a_1]; exact hM
theorem v_X11_cut_32_3 {F : Nat → Nat → Nat} (a : Nat) (G : XG) (G6 : XG)
    (hM : RM (G.2.1 (F a 1)) (0))
    (hB : RM (G.2.1 (F a 2)) 0)
    (c_G6_F_a_1 : G6.2.1 (F a 1) = G.2.1 (F a 1)) :
    RM (G6.2.1 (F a 1)) 0 := by simp only [c_G6_F_a_1]; assumption
theorem v_X11_cut_46_4 {F : Nat → Nat → Nat} (a : Nat) (G : XG) (G6 : XG)
    (hR : RV (G.2.1 (F a 10)))
    (c_G6_F_a_10 : G6.2.1 (F a 10) = G.2.1 (F a 10)) :
    RV (G6.2.1 (F a 10)) := by simp only [c_G6_F_a_10]; assumption
theorem v_X11_cut_46_5 {F : Nat → Nat → Nat} (a : Nat) (G : XG) (G6 : XG)
    (hM : RM (G.2.1 (F a 1)) (0))
    (hB : RM (G.2.1 (F a 2)) 0)
    (c_G6_F_a_1 : G6.2.1 (F a 1) = G.2.1 (F a 1)) :
    RM (G6.2.1 (F a 1)) (0) := by simp only [c_G6_F_a_1]; assumption
theorem v_X11_cut_52_6 {F : Nat → Nat → Nat} (a : Nat) (G : XG) (G46 : XG)
    (hR : RV (G.2.1 (F a 10)))
    (c_G46_F_a_10 : G46.2.1 (F a 10) = G.2.1 (F a 10)) :
    RV (G46.2.1 (F a 10)) := by simp only [c_G46_F_a_10]; assumption
theorem v_X11_cut_52_7 {F : Nat → Nat → Nat} (a : Nat) (G : XG) (G46 : XG)
    (hM : RM (G.2.1 (F a 1)) (0))
    (hB : RM (G.2.1 (F a 2)) 0)
    (oq46a : RM (G46.2.1 (F a 4)) 0)
    (c_G46_F_a_1 : G46.2.1 (F a 1) = G.2.1 (F a 1)) :
    RM (G46.2.1 (F a 1)) (0) := by simp only [c_G46_F_a_1]; assumption
theorem v_X11_cut_56_8 {F : Nat → Nat → Nat} (a : Nat) (G : XG) (G52 : XG)
    (hR : RV (G.2.1 (F a 10)))
    (c_G52_F_a_10 : G52.2.1 (F a 10) = G.2.1 (F a 10)) :
    RV (G52.2.1 (F a 10)) := by simp only [c_G52_F_a_10]; assumption
theorem v_X11_cut_56_9 {F : Nat → Nat → Nat} (a : Nat) (G52 : XG)
    (oq52a : RM (G52.2.1 (F a 1)) 0) :
    RM (G52.2.1 (F a 1)) (0) := by
  exact oq52a
theorem v_X11_cut_56_10 {F : Nat → Nat → Nat} (a : Nat) (G : XG) (G46 : XG) (G52 : XG)
    (hM : RM (G.2.1 (F a 1)) (0))
    (hB : RM (G.2.1 (F a 2)) 0)
    (oq46a : RM (G46.2.1 (F a 4)) 0)
    (oq52a : RM (G52.2.1 (F a 1)) 0)
    (c_G52_F_a_4 : G52.2.1 (F a 4) = G46.2.1 (F a 4)) :
    RM (G52.2.1 (F a 4)) 0 := by simp only [c_G52_F_a_4]; assumption
theorem v_X11_cut_56_11 {F : Nat → Nat → Nat} (a : Nat) (G : XG) (G46 : XG) (G52 : XG)
    (hM : RM (G.2.1 (F a 1)) (0))
    (hB : RM (G.2.1 (F a 2)) 0)
    (oq46a : RM (G46.2.1 (F a 4)) 0)
    (oq52a : RM (G52.2.1 (F a 1)) 0)
    (c_G52_F_a_2 : G52.2.1 (F a 2) = G.2.1 (F a 2)) :
    RM (G52.2.1 (F a 2)) 0 := by simp only [c_G52_F_a_2]; assumption
theorem v_X11_cut_56_12 {F : Nat → Nat → Nat} (a : Nat) (G : XG) (G46 : XG) (G52 : XG)
    (oq46b : LSt (G.2.1 (F a 10)) (G46.2.1 (F a 12)) (mw (G.2.1 (F a 1)) 0) 12)
    (c_G52_F_a_10 : G52.2.1 (F a 10) = G.2.1 (F a 10))
    (c_G52_F_a_12 : G52.2.1 (F a 12) = G46.2.1 (F a 12)) :
    LSt (G52.2.1 (F a 10)) (G52.2.1 (F a 12)) (mw (G.2.1 (F a 1)) 0) 12 := by
  rw [c_G52_F_a_10, c_G52_F_a_12]; exact oq46b
theorem v_X11_cut_59_13 {F : Nat → Nat → Nat} (G46 : XG) (a : Nat) (G : XG) (G52 : XG) (p0 : Int32) (p1 : Int32) (x56 : Int32) (G56 : XG) (x32 : Int32)
    (oq46 : mw (G46.2.1 (F a 4)) 0 = mw (G.2.1 (F a 1)) 0)
    (oq52 : mw (G52.2.1 (F a 1)) 0 = cfin (refA (G.2.1 (F a 10))) (refT (G.2.1 (F a 10))) (refC (G.2.1 (F a 10))) ([(p0.toInt, p1.toInt, 0, 0)], rfil (mw (G.2.1 (F a 1)) 0) p0.toInt p1.toInt (-2000) 3))
    (oq56 : ((ffP (G.2.1 (F a 10)) (mw (G52.2.1 (F a 1)) 0) (fuO (G.2.1 (F a 10)) (mw (G.2.1 (F a 1)) 0) (mw (G52.2.1 (F a 1)) 0) 0) ≠ -1 ∨ (((G.1 a 6).toInt) = 0 ∧ ffP (G.2.1 (F a 10)) (mw (G52.2.1 (F a 1)) 0) (fuO (G.2.1 (F a 10)) (mw (G.2.1 (F a 1)) 0) (mw (G52.2.1 (F a 1)) 0) 1) ≠ -1)) ∧ x56.toInt = -5 ∧ mw (G56.2.1 (F a 1)) 0 = mw (G46.2.1 (F a 4)) 0) ∨ (ffP (G.2.1 (F a 10)) (mw (G52.2.1 (F a 1)) 0) (fuO (G.2.1 (F a 10)) (mw (G.2.1 (F a 1)) 0) (mw (G52.2.1 (F a 1)) 0) 0) = -1 ∧ (((G.1 a 6).toInt) = 0 → ffP (G.2.1 (F a 10)) (mw (G52.2.1 (F a 1)) 0) (fuO (G.2.1 (F a 10)) (mw (G.2.1 (F a 1)) 0) (mw (G52.2.1 (F a 1)) 0) 1) = -1) ∧ x56.toInt = (((fuO (G.2.1 (F a 10)) (mw (G.2.1 (F a 1)) 0) (mw (G52.2.1 (F a 1)) 0) 2).length : Nat) : Int) ∧ mw (G56.2.1 (F a 1)) 0 = mw (G52.2.1 (F a 1)) 0))
    (z29 : 0 ≤ p0.toInt ∧ p0.toInt < 3)
    (z29a : 0 ≤ p1.toInt ∧ p1.toInt < 30)
    (t32 : (x32.toInt = 1 ∧ (cel (mw (G.2.1 (F a 1)) 0) (p0.toInt) (p1.toInt) 0) ≠ -2000) ∨ (x32.toInt = 0 ∧ (cel (mw (G.2.1 (F a 1)) 0) (p0.toInt) (p1.toInt) 0) = -2000))
    (c35 : x32.toInt ≠ 0) :
    (¬ ((0 ≤ p0.toInt ∧ p0.toInt < 3) ∧ (0 ≤ p1.toInt ∧ p1.toInt < 30)) ∧ x56.toInt = -1 ∧ mw (G56.2.1 (F a 1)) 0 = (mw (G.2.1 (F a 1)) 0)) ∨ (((0 ≤ p0.toInt ∧ p0.toInt < 3) ∧ (0 ≤ p1.toInt ∧ p1.toInt < 30)) ∧ cel (mw (G.2.1 (F a 1)) 0) p0.toInt p1.toInt 0 = -2000 ∧ x56.toInt = -2 ∧ mw (G56.2.1 (F a 1)) 0 = (mw (G.2.1 (F a 1)) 0)) ∨ (((0 ≤ p0.toInt ∧ p0.toInt < 3) ∧ (0 ≤ p1.toInt ∧ p1.toInt < 30)) ∧ cel (mw (G.2.1 (F a 1)) 0) p0.toInt p1.toInt 0 ≠ -2000 ∧ StR ((G.1 a 6).toInt) x56.toInt (G.2.1 (F a 10)) (mw (G.2.1 (F a 1)) 0) (cfin (refA (G.2.1 (F a 10))) (refT (G.2.1 (F a 10))) (refC (G.2.1 (F a 10))) ([(p0.toInt, p1.toInt, 0, 0)], rfil (mw (G.2.1 (F a 1)) 0) p0.toInt p1.toInt (-2000) 3)) (mw (G56.2.1 (F a 1)) 0)) := by
  rw [oq52, oq46] at oq56
  exact Or.inr (Or.inr ⟨⟨z29, z29a⟩, by omega, oq56⟩)
theorem v_X11_cut_59_14 {F : Nat → Nat → Nat} (a : Nat) (G56 : XG)
    (oq56a : RM (G56.2.1 (F a 1)) 0) :
    RM (G56.2.1 (F a 1)) 0 := by
  exact oq56a
theorem v_X11_cut_44_15 {F : Nat → Nat → Nat} (p0 : Int32) (p1 : Int32) (x32 : Int32) (G : XG) (a : Nat) (G41 : XG)
    (z29 : 0 ≤ p0.toInt ∧ p0.toInt < 3)
    (z29a : 0 ≤ p1.toInt ∧ p1.toInt < 30)
    (t32 : (x32.toInt = 1 ∧ (cel (mw (G.2.1 (F a 1)) 0) (p0.toInt) (p1.toInt) 0) ≠ -2000) ∨ (x32.toInt = 0 ∧ (cel (mw (G.2.1 (F a 1)) 0) (p0.toInt) (p1.toInt) 0) = -2000))
    (c35 : ¬ (x32.toInt ≠ 0))
    (c_G41_F_a_1 : G41.2.1 (F a 1) = G.2.1 (F a 1)) :
    (¬ ((0 ≤ p0.toInt ∧ p0.toInt < 3) ∧ (0 ≤ p1.toInt ∧ p1.toInt < 30)) ∧ (-2 : Int) = -1 ∧ mw (G41.2.1 (F a 1)) 0 = (mw (G.2.1 (F a 1)) 0)) ∨ (((0 ≤ p0.toInt ∧ p0.toInt < 3) ∧ (0 ≤ p1.toInt ∧ p1.toInt < 30)) ∧ cel (mw (G.2.1 (F a 1)) 0) p0.toInt p1.toInt 0 = -2000 ∧ (-2 : Int) = -2 ∧ mw (G41.2.1 (F a 1)) 0 = (mw (G.2.1 (F a 1)) 0)) ∨ (((0 ≤ p0.toInt ∧ p0.toInt < 3) ∧ (0 ≤ p1.toInt ∧ p1.toInt < 30)) ∧ cel (mw (G.2.1 (F a 1)) 0) p0.toInt p1.toInt 0 ≠ -2000 ∧ StR ((G.1 a 6).toInt) (-2 : Int) (G.2.1 (F a 10)) (mw (G.2.1 (F a 1)) 0) (cfin (refA (G.2.1 (F a 10))) (refT (G.2.1 (F a 10))) (refC (G.2.1 (F a 10))) ([(p0.toInt, p1.toInt, 0, 0)], rfil (mw (G.2.1 (F a 1)) 0) p0.toInt p1.toInt (-2000) 3)) (mw (G41.2.1 (F a 1)) 0)) := by
  exact Or.inr (Or.inl ⟨⟨z29, z29a⟩, by omega, rfl, by rw [c_G41_F_a_1]⟩)
theorem v_X11_cut_44_16 {F : Nat → Nat → Nat} (a : Nat) (G : XG) (G41 : XG)
    (hM : RM (G.2.1 (F a 1)) (0))
    (c_G41_F_a_1 : G41.2.1 (F a 1) = G.2.1 (F a 1)) :
    RM (G41.2.1 (F a 1)) 0 := by
  rw [c_G41_F_a_1]; exact hM
theorem v_X11_cut_28_17 {F : Nat → Nat → Nat} (x17 : Int32) (p1 : Int32) (G25 : XG) (a : Nat) (G : XG) (p0 : Int32)
    (t17 : (x17.toInt = 1 ∧ 0 ≤ p1.toInt ∧ p1.toInt ≤ 29) ∨ (x17.toInt = 0 ∧ (p1.toInt < 0 ∨ 29 < p1.toInt)))
    (c20 : ¬ (x17.toInt ≠ 0))
    (c_G25_F_a_1 : G25.2.1 (F a 1) = G.2.1 (F a 1)) :
    (¬ ((0 ≤ p0.toInt ∧ p0.toInt < 3) ∧ (0 ≤ p1.toInt ∧ p1.toInt < 30)) ∧ (-1 : Int) = -1 ∧ mw (G25.2.1 (F a 1)) 0 = (mw (G.2.1 (F a 1)) 0)) ∨ (((0 ≤ p0.toInt ∧ p0.toInt < 3) ∧ (0 ≤ p1.toInt ∧ p1.toInt < 30)) ∧ cel (mw (G.2.1 (F a 1)) 0) p0.toInt p1.toInt 0 = -2000 ∧ (-1 : Int) = -2 ∧ mw (G25.2.1 (F a 1)) 0 = (mw (G.2.1 (F a 1)) 0)) ∨ (((0 ≤ p0.toInt ∧ p0.toInt < 3) ∧ (0 ≤ p1.toInt ∧ p1.toInt < 30)) ∧ cel (mw (G.2.1 (F a 1)) 0) p0.toInt p1.toInt 0 ≠ -2000 ∧ StR ((G.1 a 6).toInt) (-1 : Int) (G.2.1 (F a 10)) (mw (G.2.1 (F a 1)) 0) (cfin (refA (G.2.1 (F a 10))) (refT (G.2.1 (F a 10))) (refC (G.2.1 (F a 10))) ([(p0.toInt, p1.toInt, 0, 0)], rfil (mw (G.2.1 (F a 1)) 0) p0.toInt p1.toInt (-2000) 3)) (mw (G25.2.1 (F a 1)) 0)) := by
  refine Or.inl ⟨fun h => ?_, rfl, by rw [c_G25_F_a_1]⟩
  obtain ⟨h1, h2⟩ := h
  have hk := h2
  clear h1 h2
  omega
theorem v_X11_cut_28_18 {F : Nat → Nat → Nat} (a : Nat) (G : XG) (G25 : XG)
    (hM : RM (G.2.1 (F a 1)) (0))
    (c_G25_F_a_1 : G25.2.1 (F a 1) = G.2.1 (F a 1)) :
    RM (G25.2.1 (F a 1)) 0 := by
  rw [c_G25_F_a_1]; exact hM
theorem z_X11_cutAll_3 (a0 : Int) (h0 : 0 ≤ a0) : ¬ (a0 < ((0 : Nat) : Int)) := by omega
theorem z_X11_cutAll_4 (a0 : Int) (h0 : ¬ (a0 ≤ 0)) : 0 < a0 := by omega
theorem z_X11_cutAll_5 (a0 : Int) (a1 : Int) (h0 : 0 ≤ a0 ∧ a0 ≤ 90) (h1 : a1 = (a0 - (1 : Int)) ∨ (a0 - (1 : Int)) < -2147483648 ∨ 2147483648 ≤ (a0 - (1 : Int))) : a1 = (a0 - (1 : Int)) := by omega
theorem z_X11_cutAll_6 (a0 : Int) (h0 : 0 ≤ a0 ∧ a0 ≤ 90) (h1 : ¬ (a0 ≤ 0)) : 0 ≤ (a0 - (1 : Int)) ∧ (a0 - (1 : Int)) < ((90 : Nat) : Int) := by omega
theorem z_X11_cutAll_7 (a0 : Int) : (a0 - (1 : Int)) = a0 - 1 := by omega
theorem z_X11_cutAll_12 (a0 : Int) (a1 : Int) (a2 : Int) (a3 : Int) (a4 : Int) (a5 : Int) (a6 : Int) (h0 : ((0 ≤ a2 ∧ a2 < 3) ∧ (0 ≤ a3 ∧ a3 < 30) ∧ (0 ≤ a4 ∧ a4 ≤ 12) ∧ (0 ≤ a5 ∧ a5 ≤ 30)) ∧ a0 + a6 ≤ 90) (h1 : a1 = (a4 + (1 : Int)) ∨ (a4 + (1 : Int)) < -2147483648 ∨ 2147483648 ≤ (a4 + (1 : Int))) : a1 = (a4 + (1 : Int)) := by omega
theorem z_X11_cutAll_17 (a0 : Int) (a1 : Int) (h0 : a0 < a1 ∧ 0 ≤ a0) : 0 ≤ a0 := by omega
theorem z_X11_cutAll_18 (a0 : Nat) (a1 : Int) (a2 : Int) (h0 : a2 < ((a0 + 1 : Nat) : Int)) (h1 : a1 < a2 ∧ 0 ≤ a1) : a1 < ((a0 : Nat) : Int) := by omega
theorem z_X11_cutAll_23 (a0 : Int) (a1 : Int) (a2 : Int) (a3 : Int) (a4 : Int) (a5 : Int) (h0 : ((0 ≤ a1 ∧ a1 < 3) ∧ (0 ≤ a2 ∧ a2 < 30) ∧ (0 ≤ a3 ∧ a3 ≤ 12) ∧ (0 ≤ a4 ∧ a4 ≤ 30)) ∧ a0 + a5 ≤ 90) (h1 : a3 ≠ (12 : Int)) : 0 ≤ a3 ∧ a3 ≤ 11 := by omega
theorem z_X11_cutAll_30 (a0 : Int) (a1 : Int) (a2 : Int) (a3 : Int) (a4 : Int) (a5 : Int) (a6 : Int) (h0 : ((0 ≤ a2 ∧ a2 < 3) ∧ (0 ≤ a3 ∧ a3 < 30) ∧ (0 ≤ a4 ∧ a4 ≤ 12) ∧ (0 ≤ a5 ∧ a5 ≤ 30)) ∧ a0 + a6 ≤ 90) (h1 : a1 = (a5 + (1 : Int)) ∨ (a5 + (1 : Int)) < -2147483648 ∨ 2147483648 ≤ (a5 + (1 : Int))) : a1 = (a5 + (1 : Int)) := by omega
theorem z_X11_cutAll_33 (a0 : Int) (a1 : Int) (a2 : Int) (a3 : Int) (a4 : Int) (a5 : Int) (a6 : Int) (a7 : Int) (a8 : Int) (h0 : ((0 ≤ a4 ∧ a4 < 3) ∧ (0 ≤ a5 ∧ a5 < 30) ∧ (0 ≤ a6 ∧ a6 ≤ 12) ∧ (0 ≤ a7 ∧ a7 ≤ 30)) ∧ a0 + a8 ≤ 90) (h1 : ¬ (a7 = (30 : Int))) (h2 : (-1 ≤ a1 ∧ a1 ≤ 5) ∧ (0 ≤ a2 ∧ a2 ≤ 2) ∧ (0 ≤ a3 ∧ a3 ≤ 2)) : 0 ≤ a2 ∧ a2 < 3 ∧ 0 ≤ a7 ∧ a7 < 30 ∧ 0 ≤ a3 ∧ a3 < 3 := by omega
theorem z_X11_cutAll_34 (a0 : Int) (a1 : Int) (a2 : Int) (a3 : Int) (a4 : Int) (a5 : Int) (a6 : Int) (a7 : Int) (a8 : Int) (a9 : Int) (h0 : ((0 ≤ a5 ∧ a5 < 3) ∧ (0 ≤ a6 ∧ a6 < 30) ∧ (0 ≤ a7 ∧ a7 ≤ 12) ∧ (0 ≤ a8 ∧ a8 ≤ 30)) ∧ a0 + a9 ≤ 90) (h1 : ¬ (a8 = (30 : Int))) (h2 : (-1 ≤ a2 ∧ a2 ≤ 5) ∧ (0 ≤ a3 ∧ a3 ≤ 2) ∧ (0 ≤ a4 ∧ a4 ≤ 2)) (h3 : 0 ≤ a3 ∧ a3 ≤ 2 ∧ 0 ≤ a8 ∧ a8 ≤ 29 → a1 = 4 * (30 * a3 + a8)) : 0 ≤ a1 ∧ a1 < ((360 : Nat) : Int) := by omega
theorem z_X11_cutAll_35 (a0 : Int) (a1 : Int) (a2 : Int) (a3 : Int) (a4 : Int) (a5 : Int) (a6 : Int) (a7 : Int) (a8 : Int) (a9 : Int) (h0 : ((0 ≤ a5 ∧ a5 < 3) ∧ (0 ≤ a6 ∧ a6 < 30) ∧ (0 ≤ a7 ∧ a7 ≤ 12) ∧ (0 ≤ a8 ∧ a8 ≤ 30)) ∧ a0 + a9 ≤ 90) (h1 : ¬ (a8 = (30 : Int))) (h2 : (-1 ≤ a2 ∧ a2 ≤ 5) ∧ (0 ≤ a3 ∧ a3 ≤ 2) ∧ (0 ≤ a4 ∧ a4 ≤ 2)) (h3 : 0 ≤ a3 ∧ a3 ≤ 2 ∧ 0 ≤ a8 ∧ a8 ≤ 29 → a1 = 4 * (30 * a3 + a8)) : a1 = 0 + 4 * (30 * a3 + a8) := by omega
theorem z_X11_cutAll_41 (a0 : Int) (a1 : Int) (a2 : Int) (a3 : Int) (a4 : Int) (a5 : Int) (a6 : Int) (a7 : Int) (a8 : Int) (a9 : Int) (a10 : Int) (a11 : Int) (h0 : ((0 ≤ a7 ∧ a7 < 3) ∧ (0 ≤ a8 ∧ a8 < 30) ∧ (0 ≤ a9 ∧ a9 ≤ 12) ∧ (0 ≤ a10 ∧ a10 ≤ 30)) ∧ a0 + a11 ≤ 90) (h1 : ¬ (a10 = (30 : Int))) (h2 : (-1 ≤ a4 ∧ a4 ≤ 5) ∧ (0 ≤ a5 ∧ a5 ≤ 2) ∧ (0 ≤ a6 ∧ a6 ≤ 2)) (h3 : 0 ≤ a5 ∧ a5 ≤ 2 ∧ 0 ≤ a10 ∧ a10 ≤ 29 → a1 = 4 * (30 * a5 + a10)) (h4 : a2 = a1 + (1 : Int) ∨ a1 + (1 : Int) < -2147483648 ∨ 2147483648 ≤ a1 + (1 : Int)) (h5 : a3 = a2 + a6 ∨ a2 + a6 < -2147483648 ∨ 2147483648 ≤ a2 + a6) : 0 ≤ a3 ∧ a3 < ((360 : Nat) : Int) := by omega
theorem z_X11_cutAll_42 (a0 : Int) (a1 : Int) (a2 : Int) (a3 : Int) (a4 : Int) (a5 : Int) (a6 : Int) (a7 : Int) (a8 : Int) (a9 : Int) (a10 : Int) (a11 : Int) (h0 : ((0 ≤ a7 ∧ a7 < 3) ∧ (0 ≤ a8 ∧ a8 < 30) ∧ (0 ≤ a9 ∧ a9 ≤ 12) ∧ (0 ≤ a10 ∧ a10 ≤ 30)) ∧ a0 + a11 ≤ 90) (h1 : ¬ (a10 = (30 : Int))) (h2 : (-1 ≤ a4 ∧ a4 ≤ 5) ∧ (0 ≤ a5 ∧ a5 ≤ 2) ∧ (0 ≤ a6 ∧ a6 ≤ 2)) (h3 : 0 ≤ a5 ∧ a5 ≤ 2 ∧ 0 ≤ a10 ∧ a10 ≤ 29 → a1 = 4 * (30 * a5 + a10)) (h4 : a2 = a1 + (1 : Int) ∨ a1 + (1 : Int) < -2147483648 ∨ 2147483648 ≤ a1 + (1 : Int)) (h5 : a3 = a2 + a6 ∨ a2 + a6 < -2147483648 ∨ 2147483648 ≤ a2 + a6) : a3 = 0 + 4 * (30 * a5 + a10) + 1 + a6 := by omega
theorem z_X11_cutAll_50 (a0 : Int) (a1 : Int) (a2 : Int) (a3 : Int) (a4 : Int) (a5 : Int) (a6 : Int) (a7 : Int) (a8 : Int) (h0 : ((0 ≤ a3 ∧ a3 < 3) ∧ (0 ≤ a4 ∧ a4 < 30) ∧ (0 ≤ a5 ∧ a5 ≤ 12) ∧ (0 ≤ a6 ∧ a6 ≤ 30)) ∧ a0 + a8 ≤ 90) (h1 : (a2 = 0 ∧ a7 = -2000) ∨ (a2 = 1 ∧ a7 = a1)) (h2 : ¬ (a2 ≠ (1 : Int))) (h3 : ¬ (a1 ≠ a4)) : a7 ≠ -2000 := by omega
theorem z_X11_cutAll_52 (a0 : Int) (a1 : Int) (a2 : Int) (a3 : Int) (a4 : Int) (a5 : Int) (h0 : ¬ (a0 ≤ 0)) (h1 : ((0 ≤ a1 ∧ a1 < 3) ∧ (0 ≤ a2 ∧ a2 < 30) ∧ (0 ≤ a3 ∧ a3 ≤ 12) ∧ (0 ≤ a4 ∧ a4 ≤ 30)) ∧ a0 + a5 ≤ 90) (h2 : 1 ≤ a5) : 0 ≤ a0 ∧ a0 < 90 := by omega
theorem z_X11_cutAll_53 (a0 : Int) (a1 : Int) (a2 : Int) (h0 : (-1 ≤ a0 ∧ a0 ≤ 5) ∧ (0 ≤ a1 ∧ a1 ≤ 2) ∧ (0 ≤ a2 ∧ a2 ≤ 2)) : 0 ≤ a1 ∧ a1 < 3 := by omega
theorem z_X11_cutAll_54 (a0 : Int) (a1 : Int) (a2 : Int) (a3 : Int) (a4 : Int) (a5 : Int) (h0 : ((0 ≤ a1 ∧ a1 < 3) ∧ (0 ≤ a2 ∧ a2 < 30) ∧ (0 ≤ a3 ∧ a3 ≤ 12) ∧ (0 ≤ a4 ∧ a4 ≤ 30)) ∧ a0 + a5 ≤ 90) (h1 : ¬ (a4 = (30 : Int))) : 0 ≤ a4 ∧ a4 < 30 := by omega
theorem z_X11_cutAll_55 (a0 : Int) (a1 : Int) (h0 : 0 ≤ a0 ∧ a0 ≤ 90) (h1 : a1 = (a0 + 1) ∨ (a0 + 1) < -2147483648 ∨ 2147483648 ≤ (a0 + 1)) : a1 = (a0 + 1) := by omega
theorem z_X11_cutAll_57 (a0 : Int) (a1 : Int) (a2 : Int) (a3 : Int) (a4 : Int) (a5 : Int) (h0 : ¬ (a0 ≤ 0)) (h1 : ((0 ≤ a1 ∧ a1 < 3) ∧ (0 ≤ a2 ∧ a2 < 30) ∧ (0 ≤ a3 ∧ a3 ≤ 12) ∧ (0 ≤ a4 ∧ a4 ≤ 30)) ∧ a0 + a5 ≤ 90) (h2 : 1 ≤ a5) : 0 ≤ (a0 + 1) ∧ (a0 + 1) ≤ 90 := by omega
theorem z_X11_cutAll_75 (a0 : Int) (a1 : Int) (h0 : 0 ≤ a0 ∧ a0 ≤ 90) (h1 : a1 = (a0 + (-1)) ∨ (a0 + (-1)) < -2147483648 ∨ 2147483648 ≤ (a0 + (-1))) : a1 = (a0 + (-1)) := by omega
theorem z_X11_cutAll_77 (a0 : Int) (h0 : 0 ≤ a0 ∧ a0 ≤ 90) (h1 : ¬ (a0 ≤ 0)) : 0 ≤ (a0 + (-1)) ∧ (a0 + (-1)) ≤ 90 := by omega
theorem z_X11_cutAll_80 (a0 : Int) (h0 : 0 ≤ a0 ∧ a0 < 40000) : 0 ≤ a0 := by omega
theorem z_X11_cutAll_81 (a0 : Int) (h0 : 0 ≤ a0 ∧ a0 < 40000) : a0 < ((4294967297 : Nat) : Int) := by omega
abbrev rm_X11_cutAll : Room := { frames := 3, cells := 0, slots := 0, locals := 68 }
set_option maxHeartbeats 4000000 in
set_option maxRecDepth 100000 in
theorem c_X11_cutAll (l : Launch) (E : XE) (K : Nat → Nat) (F : Nat → Nat → Nat) (G : XG) (a : Nat) (p0 : Int32) (p1 : Int32) (ha : K a = 13) (e1 : 0 ≤ p0.toInt ∧ p0.toInt < 3) (e2 : 0 ≤ p1.toInt ∧ p1.toInt < 30) (e3 : (cel (mw (G.2.1 (F a 1)) 0) (p0.toInt) (p1.toInt) 0) ≠ -2000) (hR : RV (G.2.1 (F a 10))) (hM : RM (G.2.1 (F a 1)) (0)) : Met l yX11_cutAll (xw yX11_cutAll cX11_cutAll 8 none) rm_X11_cutAll (va_Pc [.ref a, .int p0, .int p1] (XP E K F G)) (XQv E (fun (u : XG) => XFr [] [F a 47, F a 48, F a 49, F a 50, F a 1] [] G u ∧ (mw (u.2.1 (F a 1)) 0 = cfin (refA (G.2.1 (F a 10))) (refT (G.2.1 (F a 10))) (refC (G.2.1 (F a 10))) ([(p0.toInt, p1.toInt, 0, 0)], rfil (mw (G.2.1 (F a 1)) 0) p0.toInt p1.toInt (-2000) 3)) ∧ (RM (u.2.1 (F a 1)) 0)) (fun u H => TW E K F u H)) 0 0 (xA E) := by
  refine x_enter (by decide) (Nat.le_of_ble_eq_true rfl) ?_
  intro p e s m args below meth c Q S hr hlk hnm hQ hP ls hl
  obtain ⟨hz, hK, hT⟩ := hP
  obtain ⟨hx, hb, -, -, -⟩ := id S
  obtain ⟨H, hT, hS, hgo⟩ : ∃ H : Heap, TW E K F G H ∧ va_S (xA E) s.heap H [] ∧ H = s.heap := ⟨_, hT, va_S.rf, rfl⟩
  rw [← hgo]
  have hl : lv_has ls 8 [(0, .ref a), (1, .int p0), (2, .int p1)] := hl
  obtain ⟨hk9999, hj9999⟩ := fkX11_47 hT ha
  obtain ⟨hk9999a, hj9999a⟩ := fkX11_48 hT ha
  obtain ⟨hk9999b, hj9999b⟩ := fkX11_49 hT ha
  obtain ⟨hk9999c, hj9999c⟩ := fkX11_50 hT ha
  obtain ⟨hk9999d, hj9999d⟩ := fkX11_1 hT ha
  obtain ⟨hk9999e, hj9999e⟩ := fkX11_10 hT ha
  refine lv_aload_n hx hb dX11_cutAll_0 rfl (lv_at hl 0 rfl) ?_
  refine lv_iconst (v := 0) hx hb dX11_cutAll_1 (by decide) ?_
  refine lv_iload_n hx hb dX11_cutAll_2 rfl (lv_at hl 1 rfl) ?_
  refine lv_iload_n hx hb dX11_cutAll_3 rfl (lv_at hl 2 rfl) ?_
  refine x_cv0 (x_runV (b := a) (As := [.int 0, .int p0, .int p1]) (rest := []) S (c_X11_goes l E K F G a 0 p0 p1 ha (by decide) (e1) (e2) (v_X11_cutAll_4_1 (K := K) (F := F) a G p0 p1 ha hk9999 hj9999 hk9999a hj9999a hk9999b hj9999b hk9999c hj9999c hk9999d hj9999d hk9999e hj9999e hR hM e1 e2 e3)) mv_X11_goes km_X11_363 rfl rfl ⟨Nat.le_of_ble_eq_true rfl, Nat.le_of_ble_eq_true rfl⟩ (rc_13 hK hT ha) hK (fun _ => XP.blind) (fun U hU hW => XP.at hK hz hS hT hU hW) rfl hl.1 (Nat.le_of_ble_eq_true rfl) dX11_cutAll_4 ⟨Nat.le_of_ble_eq_true rfl, Nat.le_of_ble_eq_true rfl⟩) hS ?_
  rintro G4 H locs ⟨hF4, oq4, oq4a, oq4b, oq4c, oq4d, oq4e⟩ hT hS
  refine lv_iconst (v := 1) hx hb dX11_cutAll_7 (by decide) ?_
  have en8 : 0 ≤ (cmu (gst (G4.2.1 (F a 47)) (G4.2.1 (F a 48)) (G4.2.1 (F a 49)) (G4.2.1 (F a 50)) (Int.toNat 1), mw (G4.2.1 (F a 1)) 0)) ∧ (cmu (gst (G4.2.1 (F a 47)) (G4.2.1 (F a 48)) (G4.2.1 (F a 49)) (G4.2.1 (F a 50)) (Int.toNat 1), mw (G4.2.1 (F a 1)) 0)) < 40000 := (v_X11_cutAll_8_2 (K := K) (F := F) a G G4 p0 p1 ha oq4 oq4a oq4b oq4c e1 e2 e3)
  refine lv_istore_n (lv' := [(3, .int 1), (0, .ref a), (1, .int p0), (2, .int p1)]) hx hb dX11_cutAll_8 rfl hl (by decide) rfl (fun ls hl => ?_)
  have L9 : ∀ (N9 : Nat) (l3_9 : Int32) (G_9 : XG) (H : Heap) (locs : List Loc) (ls : Array Slot), XFr [] [F a 47, F a 48, F a 49, F a 50, F a 1] [] G4 G_9 → RM (G_9.2.1 (F a 1)) 0 → CIv (gst (G_9.2.1 (F a 47)) (G_9.2.1 (F a 48)) (G_9.2.1 (F a 49)) (G_9.2.1 (F a 50)) (Int.toNat (l3_9.toInt)), mw (G_9.2.1 (F a 1)) 0) → cfin (refA (G.2.1 (F a 10))) (refT (G.2.1 (F a 10))) (refC (G.2.1 (F a 10))) (gst (G_9.2.1 (F a 47)) (G_9.2.1 (F a 48)) (G_9.2.1 (F a 49)) (G_9.2.1 (F a 50)) (Int.toNat (l3_9.toInt)), mw (G_9.2.1 (F a 1)) 0) = cfin (refA (G.2.1 (F a 10))) (refT (G.2.1 (F a 10))) (refC (G.2.1 (F a 10))) ([(p0.toInt, p1.toInt, 0, 0)], rfil (mw (G.2.1 (F a 1)) 0) p0.toInt p1.toInt (-2000) 3) → 0 ≤ l3_9.toInt ∧ l3_9.toInt ≤ 90 → 0 ≤ (cmu (gst (G_9.2.1 (F a 47)) (G_9.2.1 (F a 48)) (G_9.2.1 (F a 49)) (G_9.2.1 (F a 50)) (Int.toNat (l3_9.toInt)), mw (G_9.2.1 (F a 1)) 0)) → (cmu (gst (G_9.2.1 (F a 47)) (G_9.2.1 (F a 48)) (G_9.2.1 (F a 49)) (G_9.2.1 (F a 50)) (Int.toNat (l3_9.toInt)), mw (G_9.2.1 (F a 1)) 0)) < ((N9 : Nat) : Int) → TW E K F G_9 H → va_S (xA E) s.heap H locs → lv_has ls 8 [(0, .ref a), (3, .int l3_9)] → W p l e rm_X11_cutAll s m args below meth c H locs 0 0 Q (F0 m 9 ls []) := by
    intro N9
    induction N9 with
    | zero =>
      intro l3_9 G_9 H locs ls hF_9 rm iv fi I9_0 I9_1 hm9
      exact absurd hm9 (z_X11_cutAll_3 (cmu (gst (G_9.2.1 (F a 47)) (G_9.2.1 (F a 48)) (G_9.2.1 (F a 49)) (G_9.2.1 (F a 50)) (Int.toNat (l3_9.toInt)), mw (G_9.2.1 (F a 1)) 0)) I9_1)
    | succ N9 ih9 =>
      intro l3_9 G_9 H locs ls hF_9 rm iv fi I9_0 I9_1 hm9 hT hS hl
      refine lv_iload_n hx hb dX11_cutAll_9 rfl (lv_at hl 1 rfl) ?_
      refine xi_zle (tgt := 227) hx hb (rfl : Int32.toInt l3_9 = l3_9.toInt) dX11_cutAll_10 (by decide) (fun c10 => ?_) (fun c10 => ?_)
      · exact x_rv hx hb hr hlk hQ (Nat.le_of_ble_eq_true rfl) (Nat.le_of_ble_eq_true rfl) hS dX11_cutAll_227 G_9 ⟨(XFr.call (XFr.call XFr.rf hF4 xm0 (xm1 0 rfl (xm1 1 rfl (xm1 2 rfl (xm1 3 rfl (xm1 4 rfl xm0))))) xm0) hF_9 xm0 (xm1 0 rfl (xm1 1 rfl (xm1 2 rfl (xm1 3 rfl (xm1 4 rfl xm0))))) xm0), (v_X11_cutAll_227_3 (K := K) (F := F) a G G4 G_9 p0 p1 l3_9 N9 ha fi e1 e2 e3 en8 I9_0 I9_1 hm9 c10), (v_X11_cutAll_227_4 (F := F) a G_9 rm)⟩ hT
      · have z13 : ((0 ≤ (aI (G_9.2.1 (F a 47)) (l3_9.toInt - 1)) ∧ (aI (G_9.2.1 (F a 47)) (l3_9.toInt - 1)) < 3) ∧ (0 ≤ (aI (G_9.2.1 (F a 48)) (l3_9.toInt - 1)) ∧ (aI (G_9.2.1 (F a 48)) (l3_9.toInt - 1)) < 30) ∧ (0 ≤ (aI (G_9.2.1 (F a 49)) (l3_9.toInt - 1)) ∧ (aI (G_9.2.1 (F a 49)) (l3_9.toInt - 1)) ≤ 12) ∧ (0 ≤ (aI (G_9.2.1 (F a 50)) (l3_9.toInt - 1)) ∧ (aI (G_9.2.1 (F a 50)) (l3_9.toInt - 1)) ≤ 30)) ∧ l3_9.toInt + (pn (mw (G_9.2.1 (F a 1)) 0)) ≤ 90 := gst_top (z_X11_cutAll_4 l3_9.toInt c10) iv
        refine lv_iload_n hx hb dX11_cutAll_13 rfl (lv_at hl 1 rfl) ?_
        refine lv_iconst (v := 1) hx hb dX11_cutAll_14 (by decide) ?_
        refine xi_isub hx hb (rfl : Int32.toInt l3_9 = l3_9.toInt) ((by decide) : Int32.toInt 1 = (1 : Int)) dX11_cutAll_15 (fun x15 t15 => ?_)
        have e15 : x15.toInt = (l3_9.toInt - (1 : Int)) := (z_X11_cutAll_5 l3_9.toInt x15.toInt I9_0 t15)
        refine lv_istore (lv' := [(4, .int x15), (0, .ref a), (3, .int l3_9)]) hx hb dX11_cutAll_16 hl (by decide) rfl (fun ls hl => ?_)
        refine lv_aload_n hx hb dX11_cutAll_18 rfl (lv_at hl 1 rfl) ?_
        refine gX11_49 S hK hT ha kf_X11_124 dX11_cutAll_19 (fun _ _ => ?_)
        refine lv_iload hx hb dX11_cutAll_22 (lv_at hl 0 rfl) ?_
        refine al_0 S hK hT hk9999b ar_57 (by decide) (by rw [(e15 : Int32.toInt x15 = (l3_9.toInt - (1 : Int)))]; exact (z_X11_cutAll_6 l3_9.toInt I9_0 c10)) dX11_cutAll_24 (fun x24 hv24 o24 => ?_)
        have hv24 : x24.toInt = (aI (G_9.2.1 (F a 49)) (l3_9.toInt - 1)) := hv24.trans (by rw [((e15 : Int32.toInt x15 = (l3_9.toInt - (1 : Int))).trans (z_X11_cutAll_7 l3_9.toInt))])
        refine lv_bipush (v := 12) hx hb dX11_cutAll_25 (by decide) ?_
        refine xi_cne (tgt := 36) hx hb (hv24 : Int32.toInt x24 = (aI (G_9.2.1 (F a 49)) (l3_9.toInt - 1))) ((by decide) : Int32.toInt 12 = (12 : Int)) dX11_cutAll_27 (by decide) (fun c27 => ?_) (fun c27 => ?_)
        · refine lv_aload_n hx hb dX11_cutAll_36 rfl (lv_at hl 1 rfl) ?_
          refine gX11_50 S hK hT ha kf_X11_127 dX11_cutAll_37 (fun _ _ => ?_)
          refine lv_iload hx hb dX11_cutAll_40 (lv_at hl 0 rfl) ?_
          refine al_0 S hK hT hk9999c ar_58 (by decide) (by rw [(e15 : Int32.toInt x15 = (l3_9.toInt - (1 : Int)))]; exact (z_X11_cutAll_6 l3_9.toInt I9_0 c10)) dX11_cutAll_42 (fun x42 hv42 o42 => ?_)
          have hv42 : x42.toInt = (aI (G_9.2.1 (F a 50)) (l3_9.toInt - 1)) := hv42.trans (by rw [((e15 : Int32.toInt x15 = (l3_9.toInt - (1 : Int))).trans (z_X11_cutAll_7 l3_9.toInt))])
          refine lv_bipush (v := 30) hx hb dX11_cutAll_43 (by decide) ?_
          refine xi_ceq (tgt := 69) hx hb (hv42 : Int32.toInt x42 = (aI (G_9.2.1 (F a 50)) (l3_9.toInt - 1))) ((by decide) : Int32.toInt 30 = (30 : Int)) dX11_cutAll_45 (by decide) (fun c45 => ?_) (fun c45 => ?_)
          · refine lv_aload_n hx hb dX11_cutAll_69 rfl (lv_at hl 1 rfl) ?_
            refine gX11_49 S hK hT ha kf_X11_124 dX11_cutAll_70 (fun _ _ => ?_)
            refine lv_iload hx hb dX11_cutAll_73 (lv_at hl 0 rfl) ?_
            refine lv_dup2_11 hx hb dX11_cutAll_75 rfl rfl ?_
            refine al_0 S hK hT hk9999b ar_57 (by decide) (by rw [(e15 : Int32.toInt x15 = (l3_9.toInt - (1 : Int)))]; exact (z_X11_cutAll_6 l3_9.toInt I9_0 c10)) dX11_cutAll_76 (fun x76 hv76 o76 => ?_)
            have hv76 : x76.toInt = (aI (G_9.2.1 (F a 49)) (l3_9.toInt - 1)) := hv76.trans (by rw [((e15 : Int32.toInt x15 = (l3_9.toInt - (1 : Int))).trans (z_X11_cutAll_7 l3_9.toInt))])
            refine lv_iconst (v := 1) hx hb dX11_cutAll_77 (by decide) ?_
            refine xi_iadd hx hb (hv76 : Int32.toInt x76 = (aI (G_9.2.1 (F a 49)) (l3_9.toInt - 1))) ((by decide) : Int32.toInt 1 = (1 : Int)) dX11_cutAll_78 (fun x78 t78 => ?_)
            have e78 : x78.toInt = ((aI (G_9.2.1 (F a 49)) (l3_9.toInt - 1)) + (1 : Int)) := (z_X11_cutAll_12 l3_9.toInt x78.toInt (aI (G_9.2.1 (F a 47)) (l3_9.toInt - 1)) (aI (G_9.2.1 (F a 48)) (l3_9.toInt - 1)) (aI (G_9.2.1 (F a 49)) (l3_9.toInt - 1)) (aI (G_9.2.1 (F a 50)) (l3_9.toInt - 1)) (pn (mw (G_9.2.1 (F a 1)) 0)) z13 t78)
            refine as_0 (x := x78) S hK hT hS hk9999b ar_57 aw_57 (by decide) (by rw [(e15 : Int32.toInt x15 = (l3_9.toInt - (1 : Int)))]; exact (z_X11_cutAll_6 l3_9.toInt I9_0 c10)) dX11_cutAll_79 (fun H locs hT hS => ?_)
            obtain ⟨G79, hG79⟩ : ∃ GG : XG, GG = cput G_9 (F a 49) x15.toNatClampNeg x78 := ⟨_, rfl⟩
            rw [← hG79] at hT
            refine lv_aload_n hx hb dX11_cutAll_80 rfl (lv_at hl 1 rfl) ?_
            refine gX11_50 S hK hT ha kf_X11_127 dX11_cutAll_81 (fun _ _ => ?_)
            refine lv_iload hx hb dX11_cutAll_84 (lv_at hl 0 rfl) ?_
            refine lv_iconst (v := 0) hx hb dX11_cutAll_86 (by decide) ?_
            refine as_0 (x := 0) S hK hT hS hk9999c ar_58 aw_58 (by decide) (by rw [(e15 : Int32.toInt x15 = (l3_9.toInt - (1 : Int)))]; exact (z_X11_cutAll_6 l3_9.toInt I9_0 c10)) dX11_cutAll_87 (fun H locs hT hS => ?_)
            obtain ⟨G87, hG87⟩ : ∃ GG : XG, GG = cput G79 (F a 50) x15.toNatClampNeg 0 := ⟨_, rfl⟩
            rw [← hG87] at hT
            refine lv_goto (tgt := 224) hx hb dX11_cutAll_88 (by decide) ?_
            have cs224 : cst (refA (G.2.1 (F a 10))) (refT (G.2.1 (F a 10))) (refC (G.2.1 (F a 10))) (gst (G_9.2.1 (F a 47)) (G_9.2.1 (F a 48)) (G_9.2.1 (F a 49)) (G_9.2.1 (F a 50)) (Int.toNat (l3_9.toInt)), mw (G_9.2.1 (F a 1)) 0) = (gst (G_9.2.1 (F a 47)) (G_9.2.1 (F a 48)) (G79.2.1 (F a 49)) (G87.2.1 (F a 50)) (Int.toNat (l3_9.toInt)), mw (G_9.2.1 (F a 1)) 0) := (v_X11_cutAll_224_5 (K := K) (F := F) a G G4 G_9 G79 x15 x78 G87 p0 p1 l3_9 N9 ha hG79 hG87 e15 e78 e1 e2 e3 en8 I9_0 I9_1 hm9 c10 z13 c27 c45 (lc_c hG79 (xne_k hk9999c hk9999b (by decide))))
            have mu224 : (cmu (gst (G_9.2.1 (F a 47)) (G_9.2.1 (F a 48)) (G79.2.1 (F a 49)) (G87.2.1 (F a 50)) (Int.toNat (l3_9.toInt)), mw (G_9.2.1 (F a 1)) 0)) < (cmu (gst (G_9.2.1 (F a 47)) (G_9.2.1 (F a 48)) (G_9.2.1 (F a 49)) (G_9.2.1 (F a 50)) (Int.toNat (l3_9.toInt)), mw (G_9.2.1 (F a 1)) 0)) ∧ 0 ≤ (cmu (gst (G_9.2.1 (F a 47)) (G_9.2.1 (F a 48)) (G79.2.1 (F a 49)) (G87.2.1 (F a 50)) (Int.toNat (l3_9.toInt)), mw (G_9.2.1 (F a 1)) 0)) := ⟨cst_dn (refTo hR) iv cs224 (gst_p (z_X11_cutAll_4 l3_9.toInt c10)), cmu_b (cm_st (refTo hR) iv cs224).1⟩
            refine lv_goto (tgt := 9) hx hb dX11_cutAll_224 (by decide) ?_
            exact ih9 l3_9 G87 _ _ _ (by rw [hG87]; exact XFr.cput (by rw [hG79]; exact XFr.cput (XFr.call XFr.rf hF_9 xm0 (xm1 0 rfl (xm1 1 rfl (xm1 2 rfl (xm1 3 rfl (xm1 4 rfl xm0))))) xm0) (List.mem_of_getElem? (i := 2) rfl)) (List.mem_of_getElem? (i := 3) rfl)) (by rw [(show G87.2.1 (F a 1) = G_9.2.1 (F a 1) from ((lc_c hG87 (xne_k hk9999d hk9999c (by decide))).trans (lc_c hG79 (xne_k hk9999d hk9999b (by decide)))))] <;> exact (v_X11_cutAll_224_6 (K := K) (F := F) a G G4 G_9 G79 G87 p0 p1 l3_9 N9 ha rm e1 e2 e3 en8 I9_0 I9_1 hm9 c10 z13 c27 c45 mu224)) (by rw [(show G87.2.1 (F a 47) = G_9.2.1 (F a 47) from ((lc_c hG87 (xne_k hk9999 hk9999c (by decide))).trans (lc_c hG79 (xne_k hk9999 hk9999b (by decide))))), (show G87.2.1 (F a 48) = G_9.2.1 (F a 48) from ((lc_c hG87 (xne_k hk9999a hk9999c (by decide))).trans (lc_c hG79 (xne_k hk9999a hk9999b (by decide))))), (show G87.2.1 (F a 49) = G79.2.1 (F a 49) from (lc_c hG87 (xne_k hk9999b hk9999c (by decide)))), (show G87.2.1 (F a 1) = G_9.2.1 (F a 1) from ((lc_c hG87 (xne_k hk9999d hk9999c (by decide))).trans (lc_c hG79 (xne_k hk9999d hk9999b (by decide)))))] <;> exact (v_X11_cutAll_224_7 (F := F) a G G_9 G79 G87 l3_9 hR iv cs224)) (by rw [(show G87.2.1 (F a 47) = G_9.2.1 (F a 47) from ((lc_c hG87 (xne_k hk9999 hk9999c (by decide))).trans (lc_c hG79 (xne_k hk9999 hk9999b (by decide))))), (show G87.2.1 (F a 48) = G_9.2.1 (F a 48) from ((lc_c hG87 (xne_k hk9999a hk9999c (by decide))).trans (lc_c hG79 (xne_k hk9999a hk9999b (by decide))))), (show G87.2.1 (F a 49) = G79.2.1 (F a 49) from (lc_c hG87 (xne_k hk9999b hk9999c (by decide)))), (show G87.2.1 (F a 1) = G_9.2.1 (F a 1) from ((lc_c hG87 (xne_k hk9999d hk9999c (by decide))).trans (lc_c hG79 (xne_k hk9999d hk9999b (by decide)))))] <;> exact (v_X11_cutAll_224_8 (F := F) a G G_9 G79 G87 p0 p1 l3_9 hR iv fi cs224)) (I9_0) (by rw [(show G87.2.1 (F a 47) = G_9.2.1 (F a 47) from ((lc_c hG87 (xne_k hk9999 hk9999c (by decide))).trans (lc_c hG79 (xne_k hk9999 hk9999b (by decide))))), (show G87.2.1 (F a 48) = G_9.2.1 (F a 48) from ((lc_c hG87 (xne_k hk9999a hk9999c (by decide))).trans (lc_c hG79 (xne_k hk9999a hk9999b (by decide))))), (show G87.2.1 (F a 49) = G79.2.1 (F a 49) from (lc_c hG87 (xne_k hk9999b hk9999c (by decide)))), (show G87.2.1 (F a 1) = G_9.2.1 (F a 1) from ((lc_c hG87 (xne_k hk9999d hk9999c (by decide))).trans (lc_c hG79 (xne_k hk9999d hk9999b (by decide)))))] <;> exact (z_X11_cutAll_17 (cmu (gst (G_9.2.1 (F a 47)) (G_9.2.1 (F a 48)) (G79.2.1 (F a 49)) (G87.2.1 (F a 50)) (Int.toNat (l3_9.toInt)), mw (G_9.2.1 (F a 1)) 0)) (cmu (gst (G_9.2.1 (F a 47)) (G_9.2.1 (F a 48)) (G_9.2.1 (F a 49)) (G_9.2.1 (F a 50)) (Int.toNat (l3_9.toInt)), mw (G_9.2.1 (F a 1)) 0)) mu224)) (by rw [(show G87.2.1 (F a 47) = G_9.2.1 (F a 47) from ((lc_c hG87 (xne_k hk9999 hk9999c (by decide))).trans (lc_c hG79 (xne_k hk9999 hk9999b (by decide))))), (show G87.2.1 (F a 48) = G_9.2.1 (F a 48) from ((lc_c hG87 (xne_k hk9999a hk9999c (by decide))).trans (lc_c hG79 (xne_k hk9999a hk9999b (by decide))))), (show G87.2.1 (F a 49) = G79.2.1 (F a 49) from (lc_c hG87 (xne_k hk9999b hk9999c (by decide)))), (show G87.2.1 (F a 1) = G_9.2.1 (F a 1) from ((lc_c hG87 (xne_k hk9999d hk9999c (by decide))).trans (lc_c hG79 (xne_k hk9999d hk9999b (by decide)))))] <;> exact (z_X11_cutAll_18 N9 (cmu (gst (G_9.2.1 (F a 47)) (G_9.2.1 (F a 48)) (G79.2.1 (F a 49)) (G87.2.1 (F a 50)) (Int.toNat (l3_9.toInt)), mw (G_9.2.1 (F a 1)) 0)) (cmu (gst (G_9.2.1 (F a 47)) (G_9.2.1 (F a 48)) (G_9.2.1 (F a 49)) (G_9.2.1 (F a 50)) (Int.toNat (l3_9.toInt)), mw (G_9.2.1 (F a 1)) 0)) hm9 mu224)) hT hS (lv_sub hl [1, 2] rfl)
          · refine lv_aload_n hx hb dX11_cutAll_48 rfl (lv_at hl 1 rfl) ?_
            refine lv_aload_n hx hb dX11_cutAll_49 rfl (lv_at hl 1 rfl) ?_
            refine gX11_49 S hK hT ha kf_X11_124 dX11_cutAll_50 (fun _ _ => ?_)
            refine lv_iload hx hb dX11_cutAll_53 (lv_at hl 0 rfl) ?_
            refine al_0 S hK hT hk9999b ar_57 (by decide) (by rw [(e15 : Int32.toInt x15 = (l3_9.toInt - (1 : Int)))]; exact (z_X11_cutAll_6 l3_9.toInt I9_0 c10)) dX11_cutAll_55 (fun x55 hv55 o55 => ?_)
            have hv55 : x55.toInt = (aI (G_9.2.1 (F a 49)) (l3_9.toInt - 1)) := hv55.trans (by rw [((e15 : Int32.toInt x15 = (l3_9.toInt - (1 : Int))).trans (z_X11_cutAll_7 l3_9.toInt))])
            refine lv_aload_n hx hb dX11_cutAll_56 rfl (lv_at hl 1 rfl) ?_
            refine gX11_47 S hK hT ha kf_X11_118 dX11_cutAll_57 (fun _ _ => ?_)
            refine lv_iload hx hb dX11_cutAll_60 (lv_at hl 0 rfl) ?_
            refine al_0 S hK hT hk9999 ar_55 (by decide) (by rw [(e15 : Int32.toInt x15 = (l3_9.toInt - (1 : Int)))]; exact (z_X11_cutAll_6 l3_9.toInt I9_0 c10)) dX11_cutAll_62 (fun x62 hv62 o62 => ?_)
            have hv62 : x62.toInt = (aI (G_9.2.1 (F a 47)) (l3_9.toInt - 1)) := hv62.trans (by rw [((e15 : Int32.toInt x15 = (l3_9.toInt - (1 : Int))).trans (z_X11_cutAll_7 l3_9.toInt))])
            refine x_clp (x_runV (b := a) (As := [.int x55, .int x62]) (rest := []) S (c_X11_isFor l E K F G_9 H a x55 x62 ha) mv_X11_isFor km_X11_367 rfl rfl ⟨Nat.le_of_ble_eq_true rfl, Nat.le_of_ble_eq_true rfl⟩ (rc_13 hK hT ha) hK (fun _ => XPh.blind) (fun U hU hW => XPh.at hK hz hS hT hU hW) rfl hl.1 (Nat.le_of_ble_eq_true rfl) dX11_cutAll_63 ⟨Nat.le_of_ble_eq_true rfl, Nat.le_of_ble_eq_true rfl⟩) hS ?_
            rintro _ _ locs ⟨x63, rfl, b63, t63⟩ hS
            have t63 : (x63.toInt = 1 ∧ 0 < (refA (G.2.1 (F a 10)) (aI (G_9.2.1 (F a 49)) (l3_9.toInt - 1)) (aI (G_9.2.1 (F a 47)) (l3_9.toInt - 1)))) ∨ (x63.toInt = 0 ∧ ¬ (0 < (refA (G.2.1 (F a 10)) (aI (G_9.2.1 (F a 49)) (l3_9.toInt - 1)) (aI (G_9.2.1 (F a 47)) (l3_9.toInt - 1))))) := by rw [(hv55 : Int32.toInt x55 = (aI (G_9.2.1 (F a 49)) (l3_9.toInt - 1)))] at t63; rw [(hv62 : Int32.toInt x62 = (aI (G_9.2.1 (F a 47)) (l3_9.toInt - 1)))] at t63; rw [(show G_9.2.1 (F a 10) = G.2.1 (F a 10) from ((hF_9.2.1 _ (xn1 (xne_k hk9999e hk9999 (by decide)) (xn1 (xne_k hk9999e hk9999a (by decide)) (xn1 (xne_k hk9999e hk9999b (by decide)) (xn1 (xne_k hk9999e hk9999c (by decide)) (xn1 (xne_k hk9999e hk9999d (by decide)) xn0)))))).trans (hF4.2.1 _ (xn1 (xne_k hk9999e hk9999 (by decide)) (xn1 (xne_k hk9999e hk9999a (by decide)) (xn1 (xne_k hk9999e hk9999b (by decide)) (xn1 (xne_k hk9999e hk9999c (by decide)) (xn1 (xne_k hk9999e hk9999d (by decide)) xn0))))))))] at t63; exact t63
            refine xi_zne (tgt := 91) hx hb (rfl : Int32.toInt x63 = x63.toInt) dX11_cutAll_66 (by decide) (fun c66 => ?_) (fun c66 => ?_)
            · have z91 : ((0 ≤ (aI (G_9.2.1 (F a 49)) (l3_9.toInt - 1)) ∧ (aI (G_9.2.1 (F a 49)) (l3_9.toInt - 1)) < 12 ∧ (aI (G.2.1 (F a 10)) (10 * (aI (G_9.2.1 (F a 49)) (l3_9.toInt - 1)) + 0)) = 1 ∧ (aI (G.2.1 (F a 10)) (10 * (aI (G_9.2.1 (F a 49)) (l3_9.toInt - 1)) + 3)) = (aI (G_9.2.1 (F a 47)) (l3_9.toInt - 1))) ∧ (refA (G.2.1 (F a 10)) (aI (G_9.2.1 (F a 49)) (l3_9.toInt - 1)) (aI (G_9.2.1 (F a 47)) (l3_9.toInt - 1))) = (aI (G.2.1 (F a 10)) (10 * (aI (G_9.2.1 (F a 49)) (l3_9.toInt - 1)) + 8))) ∨ (¬ (0 ≤ (aI (G_9.2.1 (F a 49)) (l3_9.toInt - 1)) ∧ (aI (G_9.2.1 (F a 49)) (l3_9.toInt - 1)) < 12 ∧ (aI (G.2.1 (F a 10)) (10 * (aI (G_9.2.1 (F a 49)) (l3_9.toInt - 1)) + 0)) = 1 ∧ (aI (G.2.1 (F a 10)) (10 * (aI (G_9.2.1 (F a 49)) (l3_9.toInt - 1)) + 3)) = (aI (G_9.2.1 (F a 47)) (l3_9.toInt - 1))) ∧ (refA (G.2.1 (F a 10)) (aI (G_9.2.1 (F a 49)) (l3_9.toInt - 1)) (aI (G_9.2.1 (F a 47)) (l3_9.toInt - 1))) = 0) := refA_f
              have z91a : (-1 ≤ (aI (G.2.1 (F a 10)) (10 * (aI (G_9.2.1 (F a 49)) (l3_9.toInt - 1)) + 0)) ∧ (aI (G.2.1 (F a 10)) (10 * (aI (G_9.2.1 (F a 49)) (l3_9.toInt - 1)) + 0)) ≤ 5) ∧ (0 ≤ (aI (G.2.1 (F a 10)) (10 * (aI (G_9.2.1 (F a 49)) (l3_9.toInt - 1)) + 1)) ∧ (aI (G.2.1 (F a 10)) (10 * (aI (G_9.2.1 (F a 49)) (l3_9.toInt - 1)) + 1)) ≤ 2) ∧ (0 ≤ (aI (G.2.1 (F a 10)) (10 * (aI (G_9.2.1 (F a 49)) (l3_9.toInt - 1)) + 2)) ∧ (aI (G.2.1 (F a 10)) (10 * (aI (G_9.2.1 (F a 49)) (l3_9.toInt - 1)) + 2)) ≤ 2) := (fun h => ⟨h.1, h.2.1, h.2.2.1⟩) (RV.row hR (z_X11_cutAll_23 l3_9.toInt (aI (G_9.2.1 (F a 47)) (l3_9.toInt - 1)) (aI (G_9.2.1 (F a 48)) (l3_9.toInt - 1)) (aI (G_9.2.1 (F a 49)) (l3_9.toInt - 1)) (aI (G_9.2.1 (F a 50)) (l3_9.toInt - 1)) (pn (mw (G_9.2.1 (F a 1)) 0)) z13 c27))
              refine lv_aload_n hx hb dX11_cutAll_91 rfl (lv_at hl 1 rfl) ?_
              refine gX11_49 S hK hT ha kf_X11_124 dX11_cutAll_92 (fun _ _ => ?_)
              refine lv_iload hx hb dX11_cutAll_95 (lv_at hl 0 rfl) ?_
              refine al_0 S hK hT hk9999b ar_57 (by decide) (by rw [(e15 : Int32.toInt x15 = (l3_9.toInt - (1 : Int)))]; exact (z_X11_cutAll_6 l3_9.toInt I9_0 c10)) dX11_cutAll_97 (fun x97 hv97 o97 => ?_)
              have hv97 : x97.toInt = (aI (G_9.2.1 (F a 49)) (l3_9.toInt - 1)) := hv97.trans (by rw [((e15 : Int32.toInt x15 = (l3_9.toInt - (1 : Int))).trans (z_X11_cutAll_7 l3_9.toInt))])
              refine lv_istore (lv' := [(5, .int x97), (4, .int x15), (0, .ref a), (3, .int l3_9)]) hx hb dX11_cutAll_98 hl (by decide) rfl (fun ls hl => ?_)
              refine lv_aload_n hx hb dX11_cutAll_100 rfl (lv_at hl 2 rfl) ?_
              refine gX11_50 S hK hT ha kf_X11_127 dX11_cutAll_101 (fun _ _ => ?_)
              refine lv_iload hx hb dX11_cutAll_104 (lv_at hl 1 rfl) ?_
              refine al_0 S hK hT hk9999c ar_58 (by decide) (by rw [(e15 : Int32.toInt x15 = (l3_9.toInt - (1 : Int)))]; exact (z_X11_cutAll_6 l3_9.toInt I9_0 c10)) dX11_cutAll_106 (fun x106 hv106 o106 => ?_)
              have hv106 : x106.toInt = (aI (G_9.2.1 (F a 50)) (l3_9.toInt - 1)) := hv106.trans (by rw [((e15 : Int32.toInt x15 = (l3_9.toInt - (1 : Int))).trans (z_X11_cutAll_7 l3_9.toInt))])
              refine lv_istore (lv' := [(6, .int x106), (5, .int x97), (4, .int x15), (0, .ref a), (3, .int l3_9)]) hx hb dX11_cutAll_107 hl (by decide) rfl (fun ls hl => ?_)
              refine lv_aload_n hx hb dX11_cutAll_109 rfl (lv_at hl 3 rfl) ?_
              refine gX11_50 S hK hT ha kf_X11_127 dX11_cutAll_110 (fun _ _ => ?_)
              refine lv_iload hx hb dX11_cutAll_113 (lv_at hl 2 rfl) ?_
              refine lv_dup2_11 hx hb dX11_cutAll_115 rfl rfl ?_
              refine al_0 S hK hT hk9999c ar_58 (by decide) (by rw [(e15 : Int32.toInt x15 = (l3_9.toInt - (1 : Int)))]; exact (z_X11_cutAll_6 l3_9.toInt I9_0 c10)) dX11_cutAll_116 (fun x116 hv116 o116 => ?_)
              have hv116 : x116.toInt = (aI (G_9.2.1 (F a 50)) (l3_9.toInt - 1)) := hv116.trans (by rw [((e15 : Int32.toInt x15 = (l3_9.toInt - (1 : Int))).trans (z_X11_cutAll_7 l3_9.toInt))])
              refine lv_iconst (v := 1) hx hb dX11_cutAll_117 (by decide) ?_
              refine xi_iadd hx hb (hv116 : Int32.toInt x116 = (aI (G_9.2.1 (F a 50)) (l3_9.toInt - 1))) ((by decide) : Int32.toInt 1 = (1 : Int)) dX11_cutAll_118 (fun x118 t118 => ?_)
              have e118 : x118.toInt = ((aI (G_9.2.1 (F a 50)) (l3_9.toInt - 1)) + (1 : Int)) := (z_X11_cutAll_30 l3_9.toInt x118.toInt (aI (G_9.2.1 (F a 47)) (l3_9.toInt - 1)) (aI (G_9.2.1 (F a 48)) (l3_9.toInt - 1)) (aI (G_9.2.1 (F a 49)) (l3_9.toInt - 1)) (aI (G_9.2.1 (F a 50)) (l3_9.toInt - 1)) (pn (mw (G_9.2.1 (F a 1)) 0)) z13 t118)
              refine as_0 (x := x118) S hK hT hS hk9999c ar_58 aw_58 (by decide) (by rw [(e15 : Int32.toInt x15 = (l3_9.toInt - (1 : Int)))]; exact (z_X11_cutAll_6 l3_9.toInt I9_0 c10)) dX11_cutAll_119 (fun H locs hT hS => ?_)
              obtain ⟨G119, hG119⟩ : ∃ GG : XG, GG = cput G_9 (F a 50) x15.toNatClampNeg x118 := ⟨_, rfl⟩
              rw [← hG119] at hT
              refine lv_aload_n hx hb dX11_cutAll_120 rfl (lv_at hl 3 rfl) ?_
              refine lv_iload hx hb dX11_cutAll_121 (lv_at hl 1 rfl) ?_
              refine lv_iconst (v := 1) hx hb dX11_cutAll_123 (by decide) ?_
              refine x_clp (x_runV (b := a) (As := [.int x97, .int 1]) (rest := []) S (c_X11_of l E K F G119 H a x97 1 ha (by rw [(hv97 : Int32.toInt x97 = (aI (G_9.2.1 (F a 49)) (l3_9.toInt - 1)))] <;> exact (z_X11_cutAll_23 l3_9.toInt (aI (G_9.2.1 (F a 47)) (l3_9.toInt - 1)) (aI (G_9.2.1 (F a 48)) (l3_9.toInt - 1)) (aI (G_9.2.1 (F a 49)) (l3_9.toInt - 1)) (aI (G_9.2.1 (F a 50)) (l3_9.toInt - 1)) (pn (mw (G_9.2.1 (F a 1)) 0)) z13 c27)) (by decide)) mv_X11_of km_X11_165 rfl rfl ⟨Nat.le_of_ble_eq_true rfl, Nat.le_of_ble_eq_true rfl⟩ (rc_13 hK hT ha) hK (fun _ => XPh.blind) (fun U hU hW => XPh.at hK hz hS hT hU hW) rfl hl.1 (Nat.le_of_ble_eq_true rfl) dX11_cutAll_124 ⟨Nat.le_of_ble_eq_true rfl, Nat.le_of_ble_eq_true rfl⟩) hS ?_
              rintro _ _ locs ⟨x124, rfl, t124⟩ hS
              have t124 : x124.toInt = (aI (G.2.1 (F a 10)) (10 * (aI (G_9.2.1 (F a 49)) (l3_9.toInt - 1)) + 1)) := by rw [(hv97 : Int32.toInt x97 = (aI (G_9.2.1 (F a 49)) (l3_9.toInt - 1)))] at t124; rw [(show G119.2.1 (F a 10) = G.2.1 (F a 10) from ((lc_c hG119 (xne_k hk9999e hk9999c (by decide))).trans ((hF_9.2.1 _ (xn1 (xne_k hk9999e hk9999 (by decide)) (xn1 (xne_k hk9999e hk9999a (by decide)) (xn1 (xne_k hk9999e hk9999b (by decide)) (xn1 (xne_k hk9999e hk9999c (by decide)) (xn1 (xne_k hk9999e hk9999d (by decide)) xn0)))))).trans (hF4.2.1 _ (xn1 (xne_k hk9999e hk9999 (by decide)) (xn1 (xne_k hk9999e hk9999a (by decide)) (xn1 (xne_k hk9999e hk9999b (by decide)) (xn1 (xne_k hk9999e hk9999c (by decide)) (xn1 (xne_k hk9999e hk9999d (by decide)) xn0)))))))))] at t124; exact t124
              refine lv_iload hx hb dX11_cutAll_127 (lv_at hl 0 rfl) ?_
              refine x_clp (x_runS (As := [.int x124, .int x106]) (rest := []) S (c_X11_at l E K F G119 H x124 x106) ms_X11_at km_X11_156 rfl rfl ⟨Nat.le_of_ble_eq_true rfl, Nat.le_of_ble_eq_true rfl⟩ hK (fun _ => XPh.blind) (fun U hU hW => XPh.at hK hz hS hT hU hW) rfl hl.1 (Nat.le_of_ble_eq_true rfl) dX11_cutAll_129 ⟨Nat.le_of_ble_eq_true rfl, Nat.le_of_ble_eq_true rfl⟩) hS ?_
              rintro _ _ locs ⟨x129, rfl, t129⟩ hS
              have t129 : 0 ≤ (aI (G.2.1 (F a 10)) (10 * (aI (G_9.2.1 (F a 49)) (l3_9.toInt - 1)) + 1)) ∧ (aI (G.2.1 (F a 10)) (10 * (aI (G_9.2.1 (F a 49)) (l3_9.toInt - 1)) + 1)) ≤ 2 ∧ 0 ≤ (aI (G_9.2.1 (F a 50)) (l3_9.toInt - 1)) ∧ (aI (G_9.2.1 (F a 50)) (l3_9.toInt - 1)) ≤ 29 → x129.toInt = 4 * (30 * (aI (G.2.1 (F a 10)) (10 * (aI (G_9.2.1 (F a 49)) (l3_9.toInt - 1)) + 1)) + (aI (G_9.2.1 (F a 50)) (l3_9.toInt - 1))) := by rw [(t124 : Int32.toInt x124 = (aI (G.2.1 (F a 10)) (10 * (aI (G_9.2.1 (F a 49)) (l3_9.toInt - 1)) + 1)))] at t129; rw [(hv106 : Int32.toInt x106 = (aI (G_9.2.1 (F a 50)) (l3_9.toInt - 1)))] at t129; exact t129
              refine lv_istore (lv' := [(7, .int x129), (6, .int x106), (5, .int x97), (4, .int x15), (0, .ref a), (3, .int l3_9)]) hx hb dX11_cutAll_132 hl (by decide) rfl (fun ls hl => ?_)
              have z134 : ((aI (G_9.2.1 (F a 1)) (0 + 4 * (30 * (aI (G.2.1 (F a 10)) (10 * (aI (G_9.2.1 (F a 49)) (l3_9.toInt - 1)) + 1)) + (aI (G_9.2.1 (F a 50)) (l3_9.toInt - 1))))) = 0 ∧ (cel (mw (G_9.2.1 (F a 1)) 0) (aI (G.2.1 (F a 10)) (10 * (aI (G_9.2.1 (F a 49)) (l3_9.toInt - 1)) + 1)) (aI (G_9.2.1 (F a 50)) (l3_9.toInt - 1)) (aI (G.2.1 (F a 10)) (10 * (aI (G_9.2.1 (F a 49)) (l3_9.toInt - 1)) + 2))) = -2000) ∨ ((aI (G_9.2.1 (F a 1)) (0 + 4 * (30 * (aI (G.2.1 (F a 10)) (10 * (aI (G_9.2.1 (F a 49)) (l3_9.toInt - 1)) + 1)) + (aI (G_9.2.1 (F a 50)) (l3_9.toInt - 1))))) = 1 ∧ (cel (mw (G_9.2.1 (F a 1)) 0) (aI (G.2.1 (F a 10)) (10 * (aI (G_9.2.1 (F a 49)) (l3_9.toInt - 1)) + 1)) (aI (G_9.2.1 (F a 50)) (l3_9.toInt - 1)) (aI (G.2.1 (F a 10)) (10 * (aI (G_9.2.1 (F a 49)) (l3_9.toInt - 1)) + 2))) = (aI (G_9.2.1 (F a 1)) (0 + 4 * (30 * (aI (G.2.1 (F a 10)) (10 * (aI (G_9.2.1 (F a 49)) (l3_9.toInt - 1)) + 1)) + (aI (G_9.2.1 (F a 50)) (l3_9.toInt - 1))) + 1 + (aI (G.2.1 (F a 10)) (10 * (aI (G_9.2.1 (F a 49)) (l3_9.toInt - 1)) + 2))))) := (rm.okc (z_X11_cutAll_33 l3_9.toInt (aI (G.2.1 (F a 10)) (10 * (aI (G_9.2.1 (F a 49)) (l3_9.toInt - 1)) + 0)) (aI (G.2.1 (F a 10)) (10 * (aI (G_9.2.1 (F a 49)) (l3_9.toInt - 1)) + 1)) (aI (G.2.1 (F a 10)) (10 * (aI (G_9.2.1 (F a 49)) (l3_9.toInt - 1)) + 2)) (aI (G_9.2.1 (F a 47)) (l3_9.toInt - 1)) (aI (G_9.2.1 (F a 48)) (l3_9.toInt - 1)) (aI (G_9.2.1 (F a 49)) (l3_9.toInt - 1)) (aI (G_9.2.1 (F a 50)) (l3_9.toInt - 1)) (pn (mw (G_9.2.1 (F a 1)) 0)) z13 c45 z91a)).imp id (fun h => ⟨h.1, h.2.1⟩)
              refine lv_aload_n hx hb dX11_cutAll_134 rfl (lv_at hl 4 rfl) ?_
              refine gX11_1 S hK hT ha kf_X11_9 dX11_cutAll_135 (fun _ _ => ?_)
              refine lv_iload hx hb dX11_cutAll_138 (lv_at hl 0 rfl) ?_
              refine al_0 S hK hT hk9999d ar_30 (by decide) (z_X11_cutAll_34 l3_9.toInt x129.toInt (aI (G.2.1 (F a 10)) (10 * (aI (G_9.2.1 (F a 49)) (l3_9.toInt - 1)) + 0)) (aI (G.2.1 (F a 10)) (10 * (aI (G_9.2.1 (F a 49)) (l3_9.toInt - 1)) + 1)) (aI (G.2.1 (F a 10)) (10 * (aI (G_9.2.1 (F a 49)) (l3_9.toInt - 1)) + 2)) (aI (G_9.2.1 (F a 47)) (l3_9.toInt - 1)) (aI (G_9.2.1 (F a 48)) (l3_9.toInt - 1)) (aI (G_9.2.1 (F a 49)) (l3_9.toInt - 1)) (aI (G_9.2.1 (F a 50)) (l3_9.toInt - 1)) (pn (mw (G_9.2.1 (F a 1)) 0)) z13 c45 z91a t129) dX11_cutAll_140 (fun x140 hv140 o140 => ?_)
              have hv140 : x140.toInt = (aI (G_9.2.1 (F a 1)) (0 + 4 * (30 * (aI (G.2.1 (F a 10)) (10 * (aI (G_9.2.1 (F a 49)) (l3_9.toInt - 1)) + 1)) + (aI (G_9.2.1 (F a 50)) (l3_9.toInt - 1))))) := hv140.trans (by rw [((rfl : Int32.toInt x129 = x129.toInt).trans (z_X11_cutAll_35 l3_9.toInt x129.toInt (aI (G.2.1 (F a 10)) (10 * (aI (G_9.2.1 (F a 49)) (l3_9.toInt - 1)) + 0)) (aI (G.2.1 (F a 10)) (10 * (aI (G_9.2.1 (F a 49)) (l3_9.toInt - 1)) + 1)) (aI (G.2.1 (F a 10)) (10 * (aI (G_9.2.1 (F a 49)) (l3_9.toInt - 1)) + 2)) (aI (G_9.2.1 (F a 47)) (l3_9.toInt - 1)) (aI (G_9.2.1 (F a 48)) (l3_9.toInt - 1)) (aI (G_9.2.1 (F a 49)) (l3_9.toInt - 1)) (aI (G_9.2.1 (F a 50)) (l3_9.toInt - 1)) (pn (mw (G_9.2.1 (F a 1)) 0)) z13 c45 z91a t129)), ((lc_c hG119 (xne_k hk9999d hk9999c (by decide))) : G119.2.1 (F a 1) = G_9.2.1 (F a 1))])
              refine lv_iconst (v := 1) hx hb dX11_cutAll_141 (by decide) ?_
              refine xi_cne (tgt := 224) hx hb (hv140 : Int32.toInt x140 = (aI (G_9.2.1 (F a 1)) (0 + 4 * (30 * (aI (G.2.1 (F a 10)) (10 * (aI (G_9.2.1 (F a 49)) (l3_9.toInt - 1)) + 1)) + (aI (G_9.2.1 (F a 50)) (l3_9.toInt - 1)))))) ((by decide) : Int32.toInt 1 = (1 : Int)) dX11_cutAll_142 (by decide) (fun c142 => ?_) (fun c142 => ?_)
              · have cs224 : cst (refA (G.2.1 (F a 10))) (refT (G.2.1 (F a 10))) (refC (G.2.1 (F a 10))) (gst (G_9.2.1 (F a 47)) (G_9.2.1 (F a 48)) (G_9.2.1 (F a 49)) (G_9.2.1 (F a 50)) (Int.toNat (l3_9.toInt)), mw (G_9.2.1 (F a 1)) 0) = (gst (G_9.2.1 (F a 47)) (G_9.2.1 (F a 48)) (G_9.2.1 (F a 49)) (G119.2.1 (F a 50)) (Int.toNat (l3_9.toInt)), mw (G_9.2.1 (F a 1)) 0) := (v_X11_cutAll_224_9 (K := K) (F := F) a G G4 G_9 G119 x15 x118 p0 p1 l3_9 N9 x63 x129 ha hG119 e15 e118 e1 e2 e3 en8 I9_0 I9_1 hm9 c10 z13 c27 c45 t63 c66 z91 z91a t129 z134 c142)
                have mu224 : (cmu (gst (G_9.2.1 (F a 47)) (G_9.2.1 (F a 48)) (G_9.2.1 (F a 49)) (G119.2.1 (F a 50)) (Int.toNat (l3_9.toInt)), mw (G_9.2.1 (F a 1)) 0)) < (cmu (gst (G_9.2.1 (F a 47)) (G_9.2.1 (F a 48)) (G_9.2.1 (F a 49)) (G_9.2.1 (F a 50)) (Int.toNat (l3_9.toInt)), mw (G_9.2.1 (F a 1)) 0)) ∧ 0 ≤ (cmu (gst (G_9.2.1 (F a 47)) (G_9.2.1 (F a 48)) (G_9.2.1 (F a 49)) (G119.2.1 (F a 50)) (Int.toNat (l3_9.toInt)), mw (G_9.2.1 (F a 1)) 0)) := ⟨cst_dn (refTo hR) iv cs224 (gst_p (z_X11_cutAll_4 l3_9.toInt c10)), cmu_b (cm_st (refTo hR) iv cs224).1⟩
                refine lv_goto (tgt := 9) hx hb dX11_cutAll_224 (by decide) ?_
                exact ih9 l3_9 G119 _ _ _ (by rw [hG119]; exact XFr.cput (XFr.call XFr.rf hF_9 xm0 (xm1 0 rfl (xm1 1 rfl (xm1 2 rfl (xm1 3 rfl (xm1 4 rfl xm0))))) xm0) (List.mem_of_getElem? (i := 3) rfl)) (by rw [(show G119.2.1 (F a 1) = G_9.2.1 (F a 1) from (lc_c hG119 (xne_k hk9999d hk9999c (by decide))))] <;> exact (v_X11_cutAll_224_10 (K := K) (F := F) a G G4 G_9 G119 p0 p1 l3_9 N9 x63 x129 ha rm e1 e2 e3 en8 I9_0 I9_1 hm9 c10 z13 c27 c45 t63 c66 z91 z91a t129 z134 c142 mu224 (lc_c hG119 (xne_k hk9999d hk9999c (by decide))))) (by rw [(show G119.2.1 (F a 47) = G_9.2.1 (F a 47) from (lc_c hG119 (xne_k hk9999 hk9999c (by decide)))), (show G119.2.1 (F a 48) = G_9.2.1 (F a 48) from (lc_c hG119 (xne_k hk9999a hk9999c (by decide)))), (show G119.2.1 (F a 49) = G_9.2.1 (F a 49) from (lc_c hG119 (xne_k hk9999b hk9999c (by decide)))), (show G119.2.1 (F a 1) = G_9.2.1 (F a 1) from (lc_c hG119 (xne_k hk9999d hk9999c (by decide))))] <;> exact (v_X11_cutAll_224_11 (F := F) a G G_9 G119 l3_9 hR iv cs224)) (by rw [(show G119.2.1 (F a 47) = G_9.2.1 (F a 47) from (lc_c hG119 (xne_k hk9999 hk9999c (by decide)))), (show G119.2.1 (F a 48) = G_9.2.1 (F a 48) from (lc_c hG119 (xne_k hk9999a hk9999c (by decide)))), (show G119.2.1 (F a 49) = G_9.2.1 (F a 49) from (lc_c hG119 (xne_k hk9999b hk9999c (by decide)))), (show G119.2.1 (F a 1) = G_9.2.1 (F a 1) from (lc_c hG119 (xne_k hk9999d hk9999c (by decide))))] <;> exact (v_X11_cutAll_224_12 (F := F) a G G_9 G119 p0 p1 l3_9 hR iv fi cs224)) (I9_0) (by rw [(show G119.2.1 (F a 47) = G_9.2.1 (F a 47) from (lc_c hG119 (xne_k hk9999 hk9999c (by decide)))), (show G119.2.1 (F a 48) = G_9.2.1 (F a 48) from (lc_c hG119 (xne_k hk9999a hk9999c (by decide)))), (show G119.2.1 (F a 49) = G_9.2.1 (F a 49) from (lc_c hG119 (xne_k hk9999b hk9999c (by decide)))), (show G119.2.1 (F a 1) = G_9.2.1 (F a 1) from (lc_c hG119 (xne_k hk9999d hk9999c (by decide))))] <;> exact (z_X11_cutAll_17 (cmu (gst (G_9.2.1 (F a 47)) (G_9.2.1 (F a 48)) (G_9.2.1 (F a 49)) (G119.2.1 (F a 50)) (Int.toNat (l3_9.toInt)), mw (G_9.2.1 (F a 1)) 0)) (cmu (gst (G_9.2.1 (F a 47)) (G_9.2.1 (F a 48)) (G_9.2.1 (F a 49)) (G_9.2.1 (F a 50)) (Int.toNat (l3_9.toInt)), mw (G_9.2.1 (F a 1)) 0)) mu224)) (by rw [(show G119.2.1 (F a 47) = G_9.2.1 (F a 47) from (lc_c hG119 (xne_k hk9999 hk9999c (by decide)))), (show G119.2.1 (F a 48) = G_9.2.1 (F a 48) from (lc_c hG119 (xne_k hk9999a hk9999c (by decide)))), (show G119.2.1 (F a 49) = G_9.2.1 (F a 49) from (lc_c hG119 (xne_k hk9999b hk9999c (by decide)))), (show G119.2.1 (F a 1) = G_9.2.1 (F a 1) from (lc_c hG119 (xne_k hk9999d hk9999c (by decide))))] <;> exact (z_X11_cutAll_18 N9 (cmu (gst (G_9.2.1 (F a 47)) (G_9.2.1 (F a 48)) (G_9.2.1 (F a 49)) (G119.2.1 (F a 50)) (Int.toNat (l3_9.toInt)), mw (G_9.2.1 (F a 1)) 0)) (cmu (gst (G_9.2.1 (F a 47)) (G_9.2.1 (F a 48)) (G_9.2.1 (F a 49)) (G_9.2.1 (F a 50)) (Int.toNat (l3_9.toInt)), mw (G_9.2.1 (F a 1)) 0)) hm9 mu224)) hT hS (lv_sub hl [4, 5] rfl)
              · refine lv_aload_n hx hb dX11_cutAll_145 rfl (lv_at hl 4 rfl) ?_
                refine gX11_1 S hK hT ha kf_X11_9 dX11_cutAll_146 (fun _ _ => ?_)
                refine lv_iload hx hb dX11_cutAll_149 (lv_at hl 0 rfl) ?_
                refine lv_iconst (v := 1) hx hb dX11_cutAll_151 (by decide) ?_
                refine xi_iadd hx hb (rfl : Int32.toInt x129 = x129.toInt) ((by decide) : Int32.toInt 1 = (1 : Int)) dX11_cutAll_152 (fun x152 t152 => ?_)
                refine lv_aload_n hx hb dX11_cutAll_153 rfl (lv_at hl 4 rfl) ?_
                refine lv_iload hx hb dX11_cutAll_154 (lv_at hl 2 rfl) ?_
                refine lv_iconst (v := 2) hx hb dX11_cutAll_156 (by decide) ?_
                refine x_clp (x_runV (b := a) (As := [.int x97, .int 2]) (rest := [.int x152, .ref (F a 1)]) S (c_X11_of l E K F G119 H a x97 2 ha (by rw [(hv97 : Int32.toInt x97 = (aI (G_9.2.1 (F a 49)) (l3_9.toInt - 1)))] <;> exact (z_X11_cutAll_23 l3_9.toInt (aI (G_9.2.1 (F a 47)) (l3_9.toInt - 1)) (aI (G_9.2.1 (F a 48)) (l3_9.toInt - 1)) (aI (G_9.2.1 (F a 49)) (l3_9.toInt - 1)) (aI (G_9.2.1 (F a 50)) (l3_9.toInt - 1)) (pn (mw (G_9.2.1 (F a 1)) 0)) z13 c27)) (by decide)) mv_X11_of km_X11_165 rfl rfl ⟨Nat.le_of_ble_eq_true rfl, Nat.le_of_ble_eq_true rfl⟩ (rc_13 hK hT ha) hK (fun _ => XPh.blind) (fun U hU hW => XPh.at hK hz hS hT hU hW) rfl hl.1 (Nat.le_of_ble_eq_true rfl) dX11_cutAll_157 ⟨Nat.le_of_ble_eq_true rfl, Nat.le_of_ble_eq_true rfl⟩) hS ?_
                rintro _ _ locs ⟨x157, rfl, t157⟩ hS
                have t157 : x157.toInt = (aI (G.2.1 (F a 10)) (10 * (aI (G_9.2.1 (F a 49)) (l3_9.toInt - 1)) + 2)) := by rw [(hv97 : Int32.toInt x97 = (aI (G_9.2.1 (F a 49)) (l3_9.toInt - 1)))] at t157; rw [(show G119.2.1 (F a 10) = G.2.1 (F a 10) from ((lc_c hG119 (xne_k hk9999e hk9999c (by decide))).trans ((hF_9.2.1 _ (xn1 (xne_k hk9999e hk9999 (by decide)) (xn1 (xne_k hk9999e hk9999a (by decide)) (xn1 (xne_k hk9999e hk9999b (by decide)) (xn1 (xne_k hk9999e hk9999c (by decide)) (xn1 (xne_k hk9999e hk9999d (by decide)) xn0)))))).trans (hF4.2.1 _ (xn1 (xne_k hk9999e hk9999 (by decide)) (xn1 (xne_k hk9999e hk9999a (by decide)) (xn1 (xne_k hk9999e hk9999b (by decide)) (xn1 (xne_k hk9999e hk9999c (by decide)) (xn1 (xne_k hk9999e hk9999d (by decide)) xn0)))))))))] at t157; exact t157
                refine xi_iadd hx hb (rfl : Int32.toInt x152 = x152.toInt) (t157 : Int32.toInt x157 = (aI (G.2.1 (F a 10)) (10 * (aI (G_9.2.1 (F a 49)) (l3_9.toInt - 1)) + 2))) dX11_cutAll_160 (fun x160 t160 => ?_)
                refine al_0 S hK hT hk9999d ar_30 (by decide) (z_X11_cutAll_41 l3_9.toInt x129.toInt x152.toInt x160.toInt (aI (G.2.1 (F a 10)) (10 * (aI (G_9.2.1 (F a 49)) (l3_9.toInt - 1)) + 0)) (aI (G.2.1 (F a 10)) (10 * (aI (G_9.2.1 (F a 49)) (l3_9.toInt - 1)) + 1)) (aI (G.2.1 (F a 10)) (10 * (aI (G_9.2.1 (F a 49)) (l3_9.toInt - 1)) + 2)) (aI (G_9.2.1 (F a 47)) (l3_9.toInt - 1)) (aI (G_9.2.1 (F a 48)) (l3_9.toInt - 1)) (aI (G_9.2.1 (F a 49)) (l3_9.toInt - 1)) (aI (G_9.2.1 (F a 50)) (l3_9.toInt - 1)) (pn (mw (G_9.2.1 (F a 1)) 0)) z13 c45 z91a t129 t152 t160) dX11_cutAll_161 (fun x161 hv161 o161 => ?_)
                have hv161 : x161.toInt = (aI (G_9.2.1 (F a 1)) (0 + 4 * (30 * (aI (G.2.1 (F a 10)) (10 * (aI (G_9.2.1 (F a 49)) (l3_9.toInt - 1)) + 1)) + (aI (G_9.2.1 (F a 50)) (l3_9.toInt - 1))) + 1 + (aI (G.2.1 (F a 10)) (10 * (aI (G_9.2.1 (F a 49)) (l3_9.toInt - 1)) + 2)))) := hv161.trans (by rw [((rfl : Int32.toInt x160 = x160.toInt).trans (z_X11_cutAll_42 l3_9.toInt x129.toInt x152.toInt x160.toInt (aI (G.2.1 (F a 10)) (10 * (aI (G_9.2.1 (F a 49)) (l3_9.toInt - 1)) + 0)) (aI (G.2.1 (F a 10)) (10 * (aI (G_9.2.1 (F a 49)) (l3_9.toInt - 1)) + 1)) (aI (G.2.1 (F a 10)) (10 * (aI (G_9.2.1 (F a 49)) (l3_9.toInt - 1)) + 2)) (aI (G_9.2.1 (F a 47)) (l3_9.toInt - 1)) (aI (G_9.2.1 (F a 48)) (l3_9.toInt - 1)) (aI (G_9.2.1 (F a 49)) (l3_9.toInt - 1)) (aI (G_9.2.1 (F a 50)) (l3_9.toInt - 1)) (pn (mw (G_9.2.1 (F a 1)) 0)) z13 c45 z91a t129 t152 t160)), ((lc_c hG119 (xne_k hk9999d hk9999c (by decide))) : G119.2.1 (F a 1) = G_9.2.1 (F a 1))])
                refine lv_aload_n hx hb dX11_cutAll_162 rfl (lv_at hl 4 rfl) ?_
                refine gX11_48 S hK hT ha kf_X11_121 dX11_cutAll_163 (fun _ _ => ?_)
                refine lv_iload hx hb dX11_cutAll_166 (lv_at hl 3 rfl) ?_
                refine al_0 S hK hT hk9999a ar_56 (by decide) (by rw [(e15 : Int32.toInt x15 = (l3_9.toInt - (1 : Int)))]; exact (z_X11_cutAll_6 l3_9.toInt I9_0 c10)) dX11_cutAll_168 (fun x168 hv168 o168 => ?_)
                have hv168 : x168.toInt = (aI (G_9.2.1 (F a 48)) (l3_9.toInt - 1)) := hv168.trans (by rw [((e15 : Int32.toInt x15 = (l3_9.toInt - (1 : Int))).trans (z_X11_cutAll_7 l3_9.toInt)), ((lc_c hG119 (xne_k hk9999a hk9999c (by decide))) : G119.2.1 (F a 48) = G_9.2.1 (F a 48))])
                refine xi_cne (tgt := 224) hx hb (hv161 : Int32.toInt x161 = (aI (G_9.2.1 (F a 1)) (0 + 4 * (30 * (aI (G.2.1 (F a 10)) (10 * (aI (G_9.2.1 (F a 49)) (l3_9.toInt - 1)) + 1)) + (aI (G_9.2.1 (F a 50)) (l3_9.toInt - 1))) + 1 + (aI (G.2.1 (F a 10)) (10 * (aI (G_9.2.1 (F a 49)) (l3_9.toInt - 1)) + 2))))) (hv168 : Int32.toInt x168 = (aI (G_9.2.1 (F a 48)) (l3_9.toInt - 1))) dX11_cutAll_169 (by decide) (fun c169 => ?_) (fun c169 => ?_)
                · have cs224 : cst (refA (G.2.1 (F a 10))) (refT (G.2.1 (F a 10))) (refC (G.2.1 (F a 10))) (gst (G_9.2.1 (F a 47)) (G_9.2.1 (F a 48)) (G_9.2.1 (F a 49)) (G_9.2.1 (F a 50)) (Int.toNat (l3_9.toInt)), mw (G_9.2.1 (F a 1)) 0) = (gst (G_9.2.1 (F a 47)) (G_9.2.1 (F a 48)) (G_9.2.1 (F a 49)) (G119.2.1 (F a 50)) (Int.toNat (l3_9.toInt)), mw (G_9.2.1 (F a 1)) 0) := (v_X11_cutAll_224_13 (K := K) (F := F) a G G4 G_9 G119 x15 x118 p0 p1 l3_9 N9 x63 x129 ha hG119 e15 e118 e1 e2 e3 en8 I9_0 I9_1 hm9 c10 z13 c27 c45 t63 c66 z91 z91a t129 z134 c142 c169)
                  have mu224 : (cmu (gst (G_9.2.1 (F a 47)) (G_9.2.1 (F a 48)) (G_9.2.1 (F a 49)) (G119.2.1 (F a 50)) (Int.toNat (l3_9.toInt)), mw (G_9.2.1 (F a 1)) 0)) < (cmu (gst (G_9.2.1 (F a 47)) (G_9.2.1 (F a 48)) (G_9.2.1 (F a 49)) (G_9.2.1 (F a 50)) (Int.toNat (l3_9.toInt)), mw (G_9.2.1 (F a 1)) 0)) ∧ 0 ≤ (cmu (gst (G_9.2.1 (F a 47)) (G_9.2.1 (F a 48)) (G_9.2.1 (F a 49)) (G119.2.1 (F a 50)) (Int.toNat (l3_9.toInt)), mw (G_9.2.1 (F a 1)) 0)) := ⟨cst_dn (refTo hR) iv cs224 (gst_p (z_X11_cutAll_4 l3_9.toInt c10)), cmu_b (cm_st (refTo hR) iv cs224).1⟩
                  refine lv_goto (tgt := 9) hx hb dX11_cutAll_224 (by decide) ?_
                  exact ih9 l3_9 G119 _ _ _ (by rw [hG119]; exact XFr.cput (XFr.call XFr.rf hF_9 xm0 (xm1 0 rfl (xm1 1 rfl (xm1 2 rfl (xm1 3 rfl (xm1 4 rfl xm0))))) xm0) (List.mem_of_getElem? (i := 3) rfl)) (by rw [(show G119.2.1 (F a 1) = G_9.2.1 (F a 1) from (lc_c hG119 (xne_k hk9999d hk9999c (by decide))))] <;> exact (v_X11_cutAll_224_14 (K := K) (F := F) a G G4 G_9 G119 p0 p1 l3_9 N9 x63 x129 ha rm e1 e2 e3 en8 I9_0 I9_1 hm9 c10 z13 c27 c45 t63 c66 z91 z91a t129 z134 c142 c169 mu224 (lc_c hG119 (xne_k hk9999d hk9999c (by decide))))) (by rw [(show G119.2.1 (F a 47) = G_9.2.1 (F a 47) from (lc_c hG119 (xne_k hk9999 hk9999c (by decide)))), (show G119.2.1 (F a 48) = G_9.2.1 (F a 48) from (lc_c hG119 (xne_k hk9999a hk9999c (by decide)))), (show G119.2.1 (F a 49) = G_9.2.1 (F a 49) from (lc_c hG119 (xne_k hk9999b hk9999c (by decide)))), (show G119.2.1 (F a 1) = G_9.2.1 (F a 1) from (lc_c hG119 (xne_k hk9999d hk9999c (by decide))))] <;> exact (v_X11_cutAll_224_15 (F := F) a G G_9 G119 l3_9 hR iv cs224)) (by rw [(show G119.2.1 (F a 47) = G_9.2.1 (F a 47) from (lc_c hG119 (xne_k hk9999 hk9999c (by decide)))), (show G119.2.1 (F a 48) = G_9.2.1 (F a 48) from (lc_c hG119 (xne_k hk9999a hk9999c (by decide)))), (show G119.2.1 (F a 49) = G_9.2.1 (F a 49) from (lc_c hG119 (xne_k hk9999b hk9999c (by decide)))), (show G119.2.1 (F a 1) = G_9.2.1 (F a 1) from (lc_c hG119 (xne_k hk9999d hk9999c (by decide))))] <;> exact (v_X11_cutAll_224_16 (F := F) a G G_9 G119 p0 p1 l3_9 hR iv fi cs224)) (I9_0) (by rw [(show G119.2.1 (F a 47) = G_9.2.1 (F a 47) from (lc_c hG119 (xne_k hk9999 hk9999c (by decide)))), (show G119.2.1 (F a 48) = G_9.2.1 (F a 48) from (lc_c hG119 (xne_k hk9999a hk9999c (by decide)))), (show G119.2.1 (F a 49) = G_9.2.1 (F a 49) from (lc_c hG119 (xne_k hk9999b hk9999c (by decide)))), (show G119.2.1 (F a 1) = G_9.2.1 (F a 1) from (lc_c hG119 (xne_k hk9999d hk9999c (by decide))))] <;> exact (z_X11_cutAll_17 (cmu (gst (G_9.2.1 (F a 47)) (G_9.2.1 (F a 48)) (G_9.2.1 (F a 49)) (G119.2.1 (F a 50)) (Int.toNat (l3_9.toInt)), mw (G_9.2.1 (F a 1)) 0)) (cmu (gst (G_9.2.1 (F a 47)) (G_9.2.1 (F a 48)) (G_9.2.1 (F a 49)) (G_9.2.1 (F a 50)) (Int.toNat (l3_9.toInt)), mw (G_9.2.1 (F a 1)) 0)) mu224)) (by rw [(show G119.2.1 (F a 47) = G_9.2.1 (F a 47) from (lc_c hG119 (xne_k hk9999 hk9999c (by decide)))), (show G119.2.1 (F a 48) = G_9.2.1 (F a 48) from (lc_c hG119 (xne_k hk9999a hk9999c (by decide)))), (show G119.2.1 (F a 49) = G_9.2.1 (F a 49) from (lc_c hG119 (xne_k hk9999b hk9999c (by decide)))), (show G119.2.1 (F a 1) = G_9.2.1 (F a 1) from (lc_c hG119 (xne_k hk9999d hk9999c (by decide))))] <;> exact (z_X11_cutAll_18 N9 (cmu (gst (G_9.2.1 (F a 47)) (G_9.2.1 (F a 48)) (G_9.2.1 (F a 49)) (G119.2.1 (F a 50)) (Int.toNat (l3_9.toInt)), mw (G_9.2.1 (F a 1)) 0)) (cmu (gst (G_9.2.1 (F a 47)) (G_9.2.1 (F a 48)) (G_9.2.1 (F a 49)) (G_9.2.1 (F a 50)) (Int.toNat (l3_9.toInt)), mw (G_9.2.1 (F a 1)) 0)) hm9 mu224)) hT hS (lv_sub hl [4, 5] rfl)
                · refine lv_aload_n hx hb dX11_cutAll_172 rfl (lv_at hl 4 rfl) ?_
                  refine lv_iload hx hb dX11_cutAll_173 (lv_at hl 2 rfl) ?_
                  refine lv_bipush (v := 8) hx hb dX11_cutAll_175 (by decide) ?_
                  refine x_clp (x_runV (b := a) (As := [.int x97, .int 8]) (rest := []) S (c_X11_of l E K F G119 H a x97 8 ha (by rw [(hv97 : Int32.toInt x97 = (aI (G_9.2.1 (F a 49)) (l3_9.toInt - 1)))] <;> exact (z_X11_cutAll_23 l3_9.toInt (aI (G_9.2.1 (F a 47)) (l3_9.toInt - 1)) (aI (G_9.2.1 (F a 48)) (l3_9.toInt - 1)) (aI (G_9.2.1 (F a 49)) (l3_9.toInt - 1)) (aI (G_9.2.1 (F a 50)) (l3_9.toInt - 1)) (pn (mw (G_9.2.1 (F a 1)) 0)) z13 c27)) (by decide)) mv_X11_of km_X11_165 rfl rfl ⟨Nat.le_of_ble_eq_true rfl, Nat.le_of_ble_eq_true rfl⟩ (rc_13 hK hT ha) hK (fun _ => XPh.blind) (fun U hU hW => XPh.at hK hz hS hT hU hW) rfl hl.1 (Nat.le_of_ble_eq_true rfl) dX11_cutAll_177 ⟨Nat.le_of_ble_eq_true rfl, Nat.le_of_ble_eq_true rfl⟩) hS ?_
                  rintro _ _ locs ⟨x177, rfl, t177⟩ hS
                  have t177 : x177.toInt = (aI (G.2.1 (F a 10)) (10 * (aI (G_9.2.1 (F a 49)) (l3_9.toInt - 1)) + 8)) := by rw [(hv97 : Int32.toInt x97 = (aI (G_9.2.1 (F a 49)) (l3_9.toInt - 1)))] at t177; rw [(show G119.2.1 (F a 10) = G.2.1 (F a 10) from ((lc_c hG119 (xne_k hk9999e hk9999c (by decide))).trans ((hF_9.2.1 _ (xn1 (xne_k hk9999e hk9999 (by decide)) (xn1 (xne_k hk9999e hk9999a (by decide)) (xn1 (xne_k hk9999e hk9999b (by decide)) (xn1 (xne_k hk9999e hk9999c (by decide)) (xn1 (xne_k hk9999e hk9999d (by decide)) xn0)))))).trans (hF4.2.1 _ (xn1 (xne_k hk9999e hk9999 (by decide)) (xn1 (xne_k hk9999e hk9999a (by decide)) (xn1 (xne_k hk9999e hk9999b (by decide)) (xn1 (xne_k hk9999e hk9999c (by decide)) (xn1 (xne_k hk9999e hk9999d (by decide)) xn0)))))))))] at t177; exact t177
                  refine lv_iconst (v := 2) hx hb dX11_cutAll_180 (by decide) ?_
                  refine xi_cne (tgt := 207) hx hb (t177 : Int32.toInt x177 = (aI (G.2.1 (F a 10)) (10 * (aI (G_9.2.1 (F a 49)) (l3_9.toInt - 1)) + 8))) ((by decide) : Int32.toInt 2 = (2 : Int)) dX11_cutAll_181 (by decide) (fun c181 => ?_) (fun c181 => ?_)
                  · have z207 : 1 ≤ (pn (mw (G_9.2.1 (F a 1)) 0)) := pn_pos (t := aI (G.2.1 (F a 10)) (10 * (aI (G_9.2.1 (F a 49)) (l3_9.toInt - 1)) + 1)) (k := aI (G_9.2.1 (F a 50)) (l3_9.toInt - 1)) (c := aI (G.2.1 (F a 10)) (10 * (aI (G_9.2.1 (F a 49)) (l3_9.toInt - 1)) + 2)) rm.rc (z_X11_cutAll_50 l3_9.toInt (aI (G_9.2.1 (F a 1)) (0 + 4 * (30 * (aI (G.2.1 (F a 10)) (10 * (aI (G_9.2.1 (F a 49)) (l3_9.toInt - 1)) + 1)) + (aI (G_9.2.1 (F a 50)) (l3_9.toInt - 1))) + 1 + (aI (G.2.1 (F a 10)) (10 * (aI (G_9.2.1 (F a 49)) (l3_9.toInt - 1)) + 2)))) (aI (G_9.2.1 (F a 1)) (0 + 4 * (30 * (aI (G.2.1 (F a 10)) (10 * (aI (G_9.2.1 (F a 49)) (l3_9.toInt - 1)) + 1)) + (aI (G_9.2.1 (F a 50)) (l3_9.toInt - 1))))) (aI (G_9.2.1 (F a 47)) (l3_9.toInt - 1)) (aI (G_9.2.1 (F a 48)) (l3_9.toInt - 1)) (aI (G_9.2.1 (F a 49)) (l3_9.toInt - 1)) (aI (G_9.2.1 (F a 50)) (l3_9.toInt - 1)) (cel (mw (G_9.2.1 (F a 1)) 0) (aI (G.2.1 (F a 10)) (10 * (aI (G_9.2.1 (F a 49)) (l3_9.toInt - 1)) + 1)) (aI (G_9.2.1 (F a 50)) (l3_9.toInt - 1)) (aI (G.2.1 (F a 10)) (10 * (aI (G_9.2.1 (F a 49)) (l3_9.toInt - 1)) + 2))) (pn (mw (G_9.2.1 (F a 1)) 0)) z13 z134 c142 c169)
                    refine lv_aload_n hx hb dX11_cutAll_207 rfl (lv_at hl 4 rfl) ?_
                    refine lv_iload_n hx hb dX11_cutAll_208 rfl (lv_at hl 5 rfl) ?_
                    refine lv_aload_n hx hb dX11_cutAll_209 rfl (lv_at hl 4 rfl) ?_
                    refine lv_iload hx hb dX11_cutAll_210 (lv_at hl 2 rfl) ?_
                    refine lv_iconst (v := 1) hx hb dX11_cutAll_212 (by decide) ?_
                    refine x_clp (x_runV (b := a) (As := [.int x97, .int 1]) (rest := [.int l3_9, .ref a]) S (c_X11_of l E K F G119 H a x97 1 ha (by rw [(hv97 : Int32.toInt x97 = (aI (G_9.2.1 (F a 49)) (l3_9.toInt - 1)))] <;> exact (z_X11_cutAll_23 l3_9.toInt (aI (G_9.2.1 (F a 47)) (l3_9.toInt - 1)) (aI (G_9.2.1 (F a 48)) (l3_9.toInt - 1)) (aI (G_9.2.1 (F a 49)) (l3_9.toInt - 1)) (aI (G_9.2.1 (F a 50)) (l3_9.toInt - 1)) (pn (mw (G_9.2.1 (F a 1)) 0)) z13 c27)) (by decide)) mv_X11_of km_X11_165 rfl rfl ⟨Nat.le_of_ble_eq_true rfl, Nat.le_of_ble_eq_true rfl⟩ (rc_13 hK hT ha) hK (fun _ => XPh.blind) (fun U hU hW => XPh.at hK hz hS hT hU hW) rfl hl.1 (Nat.le_of_ble_eq_true rfl) dX11_cutAll_213 ⟨Nat.le_of_ble_eq_true rfl, Nat.le_of_ble_eq_true rfl⟩) hS ?_
                    rintro _ _ locs ⟨x213, rfl, t213⟩ hS
                    have t213 : x213.toInt = (aI (G.2.1 (F a 10)) (10 * (aI (G_9.2.1 (F a 49)) (l3_9.toInt - 1)) + 1)) := by rw [(hv97 : Int32.toInt x97 = (aI (G_9.2.1 (F a 49)) (l3_9.toInt - 1)))] at t213; rw [(show G119.2.1 (F a 10) = G.2.1 (F a 10) from ((lc_c hG119 (xne_k hk9999e hk9999c (by decide))).trans ((hF_9.2.1 _ (xn1 (xne_k hk9999e hk9999 (by decide)) (xn1 (xne_k hk9999e hk9999a (by decide)) (xn1 (xne_k hk9999e hk9999b (by decide)) (xn1 (xne_k hk9999e hk9999c (by decide)) (xn1 (xne_k hk9999e hk9999d (by decide)) xn0)))))).trans (hF4.2.1 _ (xn1 (xne_k hk9999e hk9999 (by decide)) (xn1 (xne_k hk9999e hk9999a (by decide)) (xn1 (xne_k hk9999e hk9999b (by decide)) (xn1 (xne_k hk9999e hk9999c (by decide)) (xn1 (xne_k hk9999e hk9999d (by decide)) xn0)))))))))] at t213; exact t213
                    refine lv_iload hx hb dX11_cutAll_216 (lv_at hl 1 rfl) ?_
                    refine x_cv0 (x_runV (b := a) (As := [.int l3_9, .int x213, .int x106]) (rest := []) S (c_X11_goes l E K F G119 a l3_9 x213 x106 ha (z_X11_cutAll_52 l3_9.toInt (aI (G_9.2.1 (F a 47)) (l3_9.toInt - 1)) (aI (G_9.2.1 (F a 48)) (l3_9.toInt - 1)) (aI (G_9.2.1 (F a 49)) (l3_9.toInt - 1)) (aI (G_9.2.1 (F a 50)) (l3_9.toInt - 1)) (pn (mw (G_9.2.1 (F a 1)) 0)) c10 z13 z207) (by rw [(t213 : Int32.toInt x213 = (aI (G.2.1 (F a 10)) (10 * (aI (G_9.2.1 (F a 49)) (l3_9.toInt - 1)) + 1)))] <;> exact (z_X11_cutAll_53 (aI (G.2.1 (F a 10)) (10 * (aI (G_9.2.1 (F a 49)) (l3_9.toInt - 1)) + 0)) (aI (G.2.1 (F a 10)) (10 * (aI (G_9.2.1 (F a 49)) (l3_9.toInt - 1)) + 1)) (aI (G.2.1 (F a 10)) (10 * (aI (G_9.2.1 (F a 49)) (l3_9.toInt - 1)) + 2)) z91a)) (by rw [(hv106 : Int32.toInt x106 = (aI (G_9.2.1 (F a 50)) (l3_9.toInt - 1)))] <;> exact (z_X11_cutAll_54 l3_9.toInt (aI (G_9.2.1 (F a 47)) (l3_9.toInt - 1)) (aI (G_9.2.1 (F a 48)) (l3_9.toInt - 1)) (aI (G_9.2.1 (F a 49)) (l3_9.toInt - 1)) (aI (G_9.2.1 (F a 50)) (l3_9.toInt - 1)) (pn (mw (G_9.2.1 (F a 1)) 0)) z13 c45)) (v_X11_cutAll_218_17 (F := F) a G G4 G_9 G119 hM oq4e rm (lc_c hG119 (xne_k hk9999d hk9999c (by decide))))) mv_X11_goes km_X11_363 rfl rfl ⟨Nat.le_of_ble_eq_true rfl, Nat.le_of_ble_eq_true rfl⟩ (rc_13 hK hT ha) hK (fun _ => XP.blind) (fun U hU hW => XP.at hK hz hS hT hU hW) rfl hl.1 (Nat.le_of_ble_eq_true rfl) dX11_cutAll_218 ⟨Nat.le_of_ble_eq_true rfl, Nat.le_of_ble_eq_true rfl⟩) hS ?_
                    rintro G218 H locs ⟨hF218, oq218, oq218a, oq218b, oq218c, oq218d, oq218e⟩ hT hS
                    have oq218 : ∀ z : Int, 0 ≤ z → aI (G218.2.1 (F a 47)) z = if z = l3_9.toInt then (aI (G.2.1 (F a 10)) (10 * (aI (G_9.2.1 (F a 49)) (l3_9.toInt - 1)) + 1)) else aI (G_9.2.1 (F a 47)) z := by simp only [(t213 : Int32.toInt x213 = (aI (G.2.1 (F a 10)) (10 * (aI (G_9.2.1 (F a 49)) (l3_9.toInt - 1)) + 1))), (show G119.2.1 (F a 47) = G_9.2.1 (F a 47) from (lc_c hG119 (xne_k hk9999 hk9999c (by decide))))] at oq218; exact oq218
                    have oq218a : ∀ z : Int, 0 ≤ z → aI (G218.2.1 (F a 48)) z = if z = l3_9.toInt then (aI (G_9.2.1 (F a 50)) (l3_9.toInt - 1)) else aI (G_9.2.1 (F a 48)) z := by simp only [(hv106 : Int32.toInt x106 = (aI (G_9.2.1 (F a 50)) (l3_9.toInt - 1))), (show G119.2.1 (F a 48) = G_9.2.1 (F a 48) from (lc_c hG119 (xne_k hk9999a hk9999c (by decide))))] at oq218a; exact oq218a
                    have oq218b : ∀ z : Int, 0 ≤ z → aI (G218.2.1 (F a 49)) z = if z = l3_9.toInt then 0 else aI (G_9.2.1 (F a 49)) z := by simp only [(show G119.2.1 (F a 49) = G_9.2.1 (F a 49) from (lc_c hG119 (xne_k hk9999b hk9999c (by decide))))] at oq218b; exact oq218b
                    have oq218d : mw (G218.2.1 (F a 1)) 0 = rfil (mw (G_9.2.1 (F a 1)) 0) (aI (G.2.1 (F a 10)) (10 * (aI (G_9.2.1 (F a 49)) (l3_9.toInt - 1)) + 1)) (aI (G_9.2.1 (F a 50)) (l3_9.toInt - 1)) (-2000) 3 := by simp only [(t213 : Int32.toInt x213 = (aI (G.2.1 (F a 10)) (10 * (aI (G_9.2.1 (F a 49)) (l3_9.toInt - 1)) + 1))), (hv106 : Int32.toInt x106 = (aI (G_9.2.1 (F a 50)) (l3_9.toInt - 1))), (show G119.2.1 (F a 1) = G_9.2.1 (F a 1) from (lc_c hG119 (xne_k hk9999d hk9999c (by decide))))] at oq218d; exact oq218d
                    refine xi_iinc (n := 1) (lv' := fun z9 => [(3, .int z9), (7, .int x129), (6, .int x106), (5, .int x97), (4, .int x15), (0, .ref a)]) (k := 5) hx hb (rfl : Int32.toInt l3_9 = l3_9.toInt) (by decide) dX11_cutAll_221 hl rfl (by decide) (fun _ => rfl) (fun x221 ls t221 hl => ?_)
                    have e221 : x221.toInt = (l3_9.toInt + 1) := (z_X11_cutAll_55 l3_9.toInt x221.toInt I9_0 t221)
                    have hl : lv_has ls 8 [(3, .int x221), (7, .int x129), (6, .int x106), (5, .int x97), (4, .int x15), (0, .ref a)] := hl
                    have cs224 : cst (refA (G.2.1 (F a 10))) (refT (G.2.1 (F a 10))) (refC (G.2.1 (F a 10))) (gst (G_9.2.1 (F a 47)) (G_9.2.1 (F a 48)) (G_9.2.1 (F a 49)) (G_9.2.1 (F a 50)) (Int.toNat (l3_9.toInt)), mw (G_9.2.1 (F a 1)) 0) = (gst (G218.2.1 (F a 47)) (G218.2.1 (F a 48)) (G218.2.1 (F a 49)) (G218.2.1 (F a 50)) (Int.toNat (l3_9.toInt + 1)), mw (G218.2.1 (F a 1)) 0) := (v_X11_cutAll_224_18 (K := K) (F := F) a G G4 G_9 G119 x15 x118 G218 p0 p1 l3_9 N9 x63 x129 ha hG119 e15 e118 oq218 oq218a oq218b oq218c oq218d e1 e2 e3 en8 I9_0 I9_1 hm9 c10 z13 c27 c45 t63 c66 z91 z91a t129 z134 c142 c169 c181 z207)
                    have mu224 : (cmu (gst (G218.2.1 (F a 47)) (G218.2.1 (F a 48)) (G218.2.1 (F a 49)) (G218.2.1 (F a 50)) (Int.toNat (l3_9.toInt + 1)), mw (G218.2.1 (F a 1)) 0)) < (cmu (gst (G_9.2.1 (F a 47)) (G_9.2.1 (F a 48)) (G_9.2.1 (F a 49)) (G_9.2.1 (F a 50)) (Int.toNat (l3_9.toInt)), mw (G_9.2.1 (F a 1)) 0)) ∧ 0 ≤ (cmu (gst (G218.2.1 (F a 47)) (G218.2.1 (F a 48)) (G218.2.1 (F a 49)) (G218.2.1 (F a 50)) (Int.toNat (l3_9.toInt + 1)), mw (G218.2.1 (F a 1)) 0)) := ⟨cst_dn (refTo hR) iv cs224 (gst_p (z_X11_cutAll_4 l3_9.toInt c10)), cmu_b (cm_st (refTo hR) iv cs224).1⟩
                    refine lv_goto (tgt := 9) hx hb dX11_cutAll_224 (by decide) ?_
                    exact ih9 x221 G218 _ _ _ (XFr.call (by rw [hG119]; exact XFr.cput (XFr.call XFr.rf hF_9 xm0 (xm1 0 rfl (xm1 1 rfl (xm1 2 rfl (xm1 3 rfl (xm1 4 rfl xm0))))) xm0) (List.mem_of_getElem? (i := 3) rfl)) hF218 xm0 (xm1 0 rfl (xm1 1 rfl (xm1 2 rfl (xm1 3 rfl (xm1 4 rfl xm0))))) xm0) (v_X11_cutAll_224_19 (K := K) (F := F) a G G4 G_9 G119 G218 p0 p1 l3_9 N9 x63 x129 ha rm oq218e e1 e2 e3 en8 I9_0 I9_1 hm9 c10 z13 c27 c45 t63 c66 z91 z91a t129 z134 c142 c169 c181 z207 mu224 (lc_c hG119 (xne_k hk9999d hk9999c (by decide)))) (by rw [(e221 : Int32.toInt x221 = (l3_9.toInt + 1))] <;> exact (v_X11_cutAll_224_20 (F := F) a G G_9 G218 l3_9 hR iv cs224)) (by rw [(e221 : Int32.toInt x221 = (l3_9.toInt + 1))] <;> exact (v_X11_cutAll_224_21 (F := F) a G G_9 G218 p0 p1 l3_9 hR iv fi cs224)) (by rw [(e221 : Int32.toInt x221 = (l3_9.toInt + 1))] <;> exact (z_X11_cutAll_57 l3_9.toInt (aI (G_9.2.1 (F a 47)) (l3_9.toInt - 1)) (aI (G_9.2.1 (F a 48)) (l3_9.toInt - 1)) (aI (G_9.2.1 (F a 49)) (l3_9.toInt - 1)) (aI (G_9.2.1 (F a 50)) (l3_9.toInt - 1)) (pn (mw (G_9.2.1 (F a 1)) 0)) c10 z13 z207)) (by rw [(e221 : Int32.toInt x221 = (l3_9.toInt + 1))] <;> exact (z_X11_cutAll_17 (cmu (gst (G218.2.1 (F a 47)) (G218.2.1 (F a 48)) (G218.2.1 (F a 49)) (G218.2.1 (F a 50)) (Int.toNat (l3_9.toInt + 1)), mw (G218.2.1 (F a 1)) 0)) (cmu (gst (G_9.2.1 (F a 47)) (G_9.2.1 (F a 48)) (G_9.2.1 (F a 49)) (G_9.2.1 (F a 50)) (Int.toNat (l3_9.toInt)), mw (G_9.2.1 (F a 1)) 0)) mu224)) (by rw [(e221 : Int32.toInt x221 = (l3_9.toInt + 1))] <;> exact (z_X11_cutAll_18 N9 (cmu (gst (G218.2.1 (F a 47)) (G218.2.1 (F a 48)) (G218.2.1 (F a 49)) (G218.2.1 (F a 50)) (Int.toNat (l3_9.toInt + 1)), mw (G218.2.1 (F a 1)) 0)) (cmu (gst (G_9.2.1 (F a 47)) (G_9.2.1 (F a 48)) (G_9.2.1 (F a 49)) (G_9.2.1 (F a 50)) (Int.toNat (l3_9.toInt)), mw (G_9.2.1 (F a 1)) 0)) hm9 mu224)) hT hS (lv_sub hl [5, 0] rfl)
                  · refine lv_aload_n hx hb dX11_cutAll_184 rfl (lv_at hl 4 rfl) ?_
                    refine gX11_1 S hK hT ha kf_X11_9 dX11_cutAll_185 (fun _ _ => ?_)
                    refine lv_iload hx hb dX11_cutAll_188 (lv_at hl 0 rfl) ?_
                    refine lv_iconst (v := 1) hx hb dX11_cutAll_190 (by decide) ?_
                    refine xi_iadd hx hb (rfl : Int32.toInt x129 = x129.toInt) ((by decide) : Int32.toInt 1 = (1 : Int)) dX11_cutAll_191 (fun x191 t191 => ?_)
                    refine lv_aload_n hx hb dX11_cutAll_192 rfl (lv_at hl 4 rfl) ?_
                    refine lv_iload hx hb dX11_cutAll_193 (lv_at hl 2 rfl) ?_
                    refine lv_iconst (v := 2) hx hb dX11_cutAll_195 (by decide) ?_
                    refine x_clp (x_runV (b := a) (As := [.int x97, .int 2]) (rest := [.int x191, .ref (F a 1)]) S (c_X11_of l E K F G119 H a x97 2 ha (by rw [(hv97 : Int32.toInt x97 = (aI (G_9.2.1 (F a 49)) (l3_9.toInt - 1)))] <;> exact (z_X11_cutAll_23 l3_9.toInt (aI (G_9.2.1 (F a 47)) (l3_9.toInt - 1)) (aI (G_9.2.1 (F a 48)) (l3_9.toInt - 1)) (aI (G_9.2.1 (F a 49)) (l3_9.toInt - 1)) (aI (G_9.2.1 (F a 50)) (l3_9.toInt - 1)) (pn (mw (G_9.2.1 (F a 1)) 0)) z13 c27)) (by decide)) mv_X11_of km_X11_165 rfl rfl ⟨Nat.le_of_ble_eq_true rfl, Nat.le_of_ble_eq_true rfl⟩ (rc_13 hK hT ha) hK (fun _ => XPh.blind) (fun U hU hW => XPh.at hK hz hS hT hU hW) rfl hl.1 (Nat.le_of_ble_eq_true rfl) dX11_cutAll_196 ⟨Nat.le_of_ble_eq_true rfl, Nat.le_of_ble_eq_true rfl⟩) hS ?_
                    rintro _ _ locs ⟨x196, rfl, t196⟩ hS
                    have t196 : x196.toInt = (aI (G.2.1 (F a 10)) (10 * (aI (G_9.2.1 (F a 49)) (l3_9.toInt - 1)) + 2)) := by rw [(hv97 : Int32.toInt x97 = (aI (G_9.2.1 (F a 49)) (l3_9.toInt - 1)))] at t196; rw [(show G119.2.1 (F a 10) = G.2.1 (F a 10) from ((lc_c hG119 (xne_k hk9999e hk9999c (by decide))).trans ((hF_9.2.1 _ (xn1 (xne_k hk9999e hk9999 (by decide)) (xn1 (xne_k hk9999e hk9999a (by decide)) (xn1 (xne_k hk9999e hk9999b (by decide)) (xn1 (xne_k hk9999e hk9999c (by decide)) (xn1 (xne_k hk9999e hk9999d (by decide)) xn0)))))).trans (hF4.2.1 _ (xn1 (xne_k hk9999e hk9999 (by decide)) (xn1 (xne_k hk9999e hk9999a (by decide)) (xn1 (xne_k hk9999e hk9999b (by decide)) (xn1 (xne_k hk9999e hk9999c (by decide)) (xn1 (xne_k hk9999e hk9999d (by decide)) xn0)))))))))] at t196; exact t196
                    refine xi_iadd hx hb (rfl : Int32.toInt x191 = x191.toInt) (t196 : Int32.toInt x196 = (aI (G.2.1 (F a 10)) (10 * (aI (G_9.2.1 (F a 49)) (l3_9.toInt - 1)) + 2))) dX11_cutAll_199 (fun x199 t199 => ?_)
                    refine lv_sipush (v := (-1000)) hx hb dX11_cutAll_200 (by decide) ?_
                    refine as_0 (x := (-1000)) S hK hT hS hk9999d ar_30 aw_30 (by decide) (z_X11_cutAll_41 l3_9.toInt x129.toInt x191.toInt x199.toInt (aI (G.2.1 (F a 10)) (10 * (aI (G_9.2.1 (F a 49)) (l3_9.toInt - 1)) + 0)) (aI (G.2.1 (F a 10)) (10 * (aI (G_9.2.1 (F a 49)) (l3_9.toInt - 1)) + 1)) (aI (G.2.1 (F a 10)) (10 * (aI (G_9.2.1 (F a 49)) (l3_9.toInt - 1)) + 2)) (aI (G_9.2.1 (F a 47)) (l3_9.toInt - 1)) (aI (G_9.2.1 (F a 48)) (l3_9.toInt - 1)) (aI (G_9.2.1 (F a 49)) (l3_9.toInt - 1)) (aI (G_9.2.1 (F a 50)) (l3_9.toInt - 1)) (pn (mw (G_9.2.1 (F a 1)) 0)) z13 c45 z91a t129 t191 t199) dX11_cutAll_203 (fun H locs hT hS => ?_)
                    obtain ⟨G203, hG203⟩ : ∃ GG : XG, GG = cput G119 (F a 1) x199.toNatClampNeg (-1000) := ⟨_, rfl⟩
                    rw [← hG203] at hT
                    refine lv_goto (tgt := 224) hx hb dX11_cutAll_204 (by decide) ?_
                    have cs224 : cst (refA (G.2.1 (F a 10))) (refT (G.2.1 (F a 10))) (refC (G.2.1 (F a 10))) (gst (G_9.2.1 (F a 47)) (G_9.2.1 (F a 48)) (G_9.2.1 (F a 49)) (G_9.2.1 (F a 50)) (Int.toNat (l3_9.toInt)), mw (G_9.2.1 (F a 1)) 0) = (gst (G_9.2.1 (F a 47)) (G_9.2.1 (F a 48)) (G_9.2.1 (F a 49)) (G119.2.1 (F a 50)) (Int.toNat (l3_9.toInt)), mw (G203.2.1 (F a 1)) 0) := (v_X11_cutAll_224_22 (K := K) (F := F) a G G4 G_9 G119 x15 x118 G203 x199 p0 p1 l3_9 N9 x63 x129 x191 ha hG119 hG203 e15 e118 e1 e2 e3 en8 I9_0 I9_1 hm9 c10 z13 c27 c45 t63 c66 z91 z91a t129 z134 c142 c169 c181 t191 t199 (lc_c hG119 (xne_k hk9999d hk9999c (by decide))))
                    have mu224 : (cmu (gst (G_9.2.1 (F a 47)) (G_9.2.1 (F a 48)) (G_9.2.1 (F a 49)) (G119.2.1 (F a 50)) (Int.toNat (l3_9.toInt)), mw (G203.2.1 (F a 1)) 0)) < (cmu (gst (G_9.2.1 (F a 47)) (G_9.2.1 (F a 48)) (G_9.2.1 (F a 49)) (G_9.2.1 (F a 50)) (Int.toNat (l3_9.toInt)), mw (G_9.2.1 (F a 1)) 0)) ∧ 0 ≤ (cmu (gst (G_9.2.1 (F a 47)) (G_9.2.1 (F a 48)) (G_9.2.1 (F a 49)) (G119.2.1 (F a 50)) (Int.toNat (l3_9.toInt)), mw (G203.2.1 (F a 1)) 0)) := ⟨cst_dn (refTo hR) iv cs224 (gst_p (z_X11_cutAll_4 l3_9.toInt c10)), cmu_b (cm_st (refTo hR) iv cs224).1⟩
                    refine lv_goto (tgt := 9) hx hb dX11_cutAll_224 (by decide) ?_
                    exact ih9 l3_9 G203 _ _ _ (by rw [hG203]; exact XFr.cput (by rw [hG119]; exact XFr.cput (XFr.call XFr.rf hF_9 xm0 (xm1 0 rfl (xm1 1 rfl (xm1 2 rfl (xm1 3 rfl (xm1 4 rfl xm0))))) xm0) (List.mem_of_getElem? (i := 3) rfl)) (List.mem_of_getElem? (i := 4) rfl)) (v_X11_cutAll_224_23 (K := K) (F := F) a G G4 G_9 G119 G203 x199 p0 p1 l3_9 N9 x63 x129 x191 ha hG203 rm e1 e2 e3 en8 I9_0 I9_1 hm9 c10 z13 c27 c45 t63 c66 z91 z91a t129 z134 c142 c169 c181 t191 t199 mu224 (lc_c hG119 (xne_k hk9999d hk9999c (by decide)))) (by rw [(show G203.2.1 (F a 47) = G_9.2.1 (F a 47) from ((lc_c hG203 (xne_k hk9999 hk9999d (by decide))).trans (lc_c hG119 (xne_k hk9999 hk9999c (by decide))))), (show G203.2.1 (F a 48) = G_9.2.1 (F a 48) from ((lc_c hG203 (xne_k hk9999a hk9999d (by decide))).trans (lc_c hG119 (xne_k hk9999a hk9999c (by decide))))), (show G203.2.1 (F a 49) = G_9.2.1 (F a 49) from ((lc_c hG203 (xne_k hk9999b hk9999d (by decide))).trans (lc_c hG119 (xne_k hk9999b hk9999c (by decide))))), (show G203.2.1 (F a 50) = G119.2.1 (F a 50) from (lc_c hG203 (xne_k hk9999c hk9999d (by decide))))] <;> exact (v_X11_cutAll_224_24 (F := F) a G G_9 G119 G203 l3_9 hR iv cs224)) (by rw [(show G203.2.1 (F a 47) = G_9.2.1 (F a 47) from ((lc_c hG203 (xne_k hk9999 hk9999d (by decide))).trans (lc_c hG119 (xne_k hk9999 hk9999c (by decide))))), (show G203.2.1 (F a 48) = G_9.2.1 (F a 48) from ((lc_c hG203 (xne_k hk9999a hk9999d (by decide))).trans (lc_c hG119 (xne_k hk9999a hk9999c (by decide))))), (show G203.2.1 (F a 49) = G_9.2.1 (F a 49) from ((lc_c hG203 (xne_k hk9999b hk9999d (by decide))).trans (lc_c hG119 (xne_k hk9999b hk9999c (by decide))))), (show G203.2.1 (F a 50) = G119.2.1 (F a 50) from (lc_c hG203 (xne_k hk9999c hk9999d (by decide))))] <;> exact (v_X11_cutAll_224_25 (F := F) a G G_9 G119 G203 p0 p1 l3_9 hR iv fi cs224)) (I9_0) (by rw [(show G203.2.1 (F a 47) = G_9.2.1 (F a 47) from ((lc_c hG203 (xne_k hk9999 hk9999d (by decide))).trans (lc_c hG119 (xne_k hk9999 hk9999c (by decide))))), (show G203.2.1 (F a 48) = G_9.2.1 (F a 48) from ((lc_c hG203 (xne_k hk9999a hk9999d (by decide))).trans (lc_c hG119 (xne_k hk9999a hk9999c (by decide))))), (show G203.2.1 (F a 49) = G_9.2.1 (F a 49) from ((lc_c hG203 (xne_k hk9999b hk9999d (by decide))).trans (lc_c hG119 (xne_k hk9999b hk9999c (by decide))))), (show G203.2.1 (F a 50) = G119.2.1 (F a 50) from (lc_c hG203 (xne_k hk9999c hk9999d (by decide))))] <;> exact (z_X11_cutAll_17 (cmu (gst (G_9.2.1 (F a 47)) (G_9.2.1 (F a 48)) (G_9.2.1 (F a 49)) (G119.2.1 (F a 50)) (Int.toNat (l3_9.toInt)), mw (G203.2.1 (F a 1)) 0)) (cmu (gst (G_9.2.1 (F a 47)) (G_9.2.1 (F a 48)) (G_9.2.1 (F a 49)) (G_9.2.1 (F a 50)) (Int.toNat (l3_9.toInt)), mw (G_9.2.1 (F a 1)) 0)) mu224)) (by rw [(show G203.2.1 (F a 47) = G_9.2.1 (F a 47) from ((lc_c hG203 (xne_k hk9999 hk9999d (by decide))).trans (lc_c hG119 (xne_k hk9999 hk9999c (by decide))))), (show G203.2.1 (F a 48) = G_9.2.1 (F a 48) from ((lc_c hG203 (xne_k hk9999a hk9999d (by decide))).trans (lc_c hG119 (xne_k hk9999a hk9999c (by decide))))), (show G203.2.1 (F a 49) = G_9.2.1 (F a 49) from ((lc_c hG203 (xne_k hk9999b hk9999d (by decide))).trans (lc_c hG119 (xne_k hk9999b hk9999c (by decide))))), (show G203.2.1 (F a 50) = G119.2.1 (F a 50) from (lc_c hG203 (xne_k hk9999c hk9999d (by decide))))] <;> exact (z_X11_cutAll_18 N9 (cmu (gst (G_9.2.1 (F a 47)) (G_9.2.1 (F a 48)) (G_9.2.1 (F a 49)) (G119.2.1 (F a 50)) (Int.toNat (l3_9.toInt)), mw (G203.2.1 (F a 1)) 0)) (cmu (gst (G_9.2.1 (F a 47)) (G_9.2.1 (F a 48)) (G_9.2.1 (F a 49)) (G_9.2.1 (F a 50)) (Int.toNat (l3_9.toInt)), mw (G_9.2.1 (F a 1)) 0)) hm9 mu224)) hT hS (lv_sub hl [4, 5] rfl)
            · refine lv_aload_n hx hb dX11_cutAll_69 rfl (lv_at hl 1 rfl) ?_
              refine gX11_49 S hK hT ha kf_X11_124 dX11_cutAll_70 (fun _ _ => ?_)
              refine lv_iload hx hb dX11_cutAll_73 (lv_at hl 0 rfl) ?_
              refine lv_dup2_11 hx hb dX11_cutAll_75 rfl rfl ?_
              refine al_0 S hK hT hk9999b ar_57 (by decide) (by rw [(e15 : Int32.toInt x15 = (l3_9.toInt - (1 : Int)))]; exact (z_X11_cutAll_6 l3_9.toInt I9_0 c10)) dX11_cutAll_76 (fun x76 hv76 o76 => ?_)
              have hv76 : x76.toInt = (aI (G_9.2.1 (F a 49)) (l3_9.toInt - 1)) := hv76.trans (by rw [((e15 : Int32.toInt x15 = (l3_9.toInt - (1 : Int))).trans (z_X11_cutAll_7 l3_9.toInt))])
              refine lv_iconst (v := 1) hx hb dX11_cutAll_77 (by decide) ?_
              refine xi_iadd hx hb (hv76 : Int32.toInt x76 = (aI (G_9.2.1 (F a 49)) (l3_9.toInt - 1))) ((by decide) : Int32.toInt 1 = (1 : Int)) dX11_cutAll_78 (fun x78 t78 => ?_)
              have e78 : x78.toInt = ((aI (G_9.2.1 (F a 49)) (l3_9.toInt - 1)) + (1 : Int)) := (z_X11_cutAll_12 l3_9.toInt x78.toInt (aI (G_9.2.1 (F a 47)) (l3_9.toInt - 1)) (aI (G_9.2.1 (F a 48)) (l3_9.toInt - 1)) (aI (G_9.2.1 (F a 49)) (l3_9.toInt - 1)) (aI (G_9.2.1 (F a 50)) (l3_9.toInt - 1)) (pn (mw (G_9.2.1 (F a 1)) 0)) z13 t78)
              refine as_0 (x := x78) S hK hT hS hk9999b ar_57 aw_57 (by decide) (by rw [(e15 : Int32.toInt x15 = (l3_9.toInt - (1 : Int)))]; exact (z_X11_cutAll_6 l3_9.toInt I9_0 c10)) dX11_cutAll_79 (fun H locs hT hS => ?_)
              obtain ⟨G79, hG79⟩ : ∃ GG : XG, GG = cput G_9 (F a 49) x15.toNatClampNeg x78 := ⟨_, rfl⟩
              rw [← hG79] at hT
              refine lv_aload_n hx hb dX11_cutAll_80 rfl (lv_at hl 1 rfl) ?_
              refine gX11_50 S hK hT ha kf_X11_127 dX11_cutAll_81 (fun _ _ => ?_)
              refine lv_iload hx hb dX11_cutAll_84 (lv_at hl 0 rfl) ?_
              refine lv_iconst (v := 0) hx hb dX11_cutAll_86 (by decide) ?_
              refine as_0 (x := 0) S hK hT hS hk9999c ar_58 aw_58 (by decide) (by rw [(e15 : Int32.toInt x15 = (l3_9.toInt - (1 : Int)))]; exact (z_X11_cutAll_6 l3_9.toInt I9_0 c10)) dX11_cutAll_87 (fun H locs hT hS => ?_)
              obtain ⟨G87, hG87⟩ : ∃ GG : XG, GG = cput G79 (F a 50) x15.toNatClampNeg 0 := ⟨_, rfl⟩
              rw [← hG87] at hT
              refine lv_goto (tgt := 224) hx hb dX11_cutAll_88 (by decide) ?_
              have cs224 : cst (refA (G.2.1 (F a 10))) (refT (G.2.1 (F a 10))) (refC (G.2.1 (F a 10))) (gst (G_9.2.1 (F a 47)) (G_9.2.1 (F a 48)) (G_9.2.1 (F a 49)) (G_9.2.1 (F a 50)) (Int.toNat (l3_9.toInt)), mw (G_9.2.1 (F a 1)) 0) = (gst (G_9.2.1 (F a 47)) (G_9.2.1 (F a 48)) (G79.2.1 (F a 49)) (G87.2.1 (F a 50)) (Int.toNat (l3_9.toInt)), mw (G_9.2.1 (F a 1)) 0) := (v_X11_cutAll_224_26 (K := K) (F := F) a G G4 G_9 G79 x15 x78 G87 p0 p1 l3_9 N9 x63 ha hG79 hG87 e15 e78 e1 e2 e3 en8 I9_0 I9_1 hm9 c10 z13 c27 c45 t63 c66 (lc_c hG79 (xne_k hk9999c hk9999b (by decide))))
              have mu224 : (cmu (gst (G_9.2.1 (F a 47)) (G_9.2.1 (F a 48)) (G79.2.1 (F a 49)) (G87.2.1 (F a 50)) (Int.toNat (l3_9.toInt)), mw (G_9.2.1 (F a 1)) 0)) < (cmu (gst (G_9.2.1 (F a 47)) (G_9.2.1 (F a 48)) (G_9.2.1 (F a 49)) (G_9.2.1 (F a 50)) (Int.toNat (l3_9.toInt)), mw (G_9.2.1 (F a 1)) 0)) ∧ 0 ≤ (cmu (gst (G_9.2.1 (F a 47)) (G_9.2.1 (F a 48)) (G79.2.1 (F a 49)) (G87.2.1 (F a 50)) (Int.toNat (l3_9.toInt)), mw (G_9.2.1 (F a 1)) 0)) := ⟨cst_dn (refTo hR) iv cs224 (gst_p (z_X11_cutAll_4 l3_9.toInt c10)), cmu_b (cm_st (refTo hR) iv cs224).1⟩
              refine lv_goto (tgt := 9) hx hb dX11_cutAll_224 (by decide) ?_
              exact ih9 l3_9 G87 _ _ _ (by rw [hG87]; exact XFr.cput (by rw [hG79]; exact XFr.cput (XFr.call XFr.rf hF_9 xm0 (xm1 0 rfl (xm1 1 rfl (xm1 2 rfl (xm1 3 rfl (xm1 4 rfl xm0))))) xm0) (List.mem_of_getElem? (i := 2) rfl)) (List.mem_of_getElem? (i := 3) rfl)) (by rw [(show G87.2.1 (F a 1) = G_9.2.1 (F a 1) from ((lc_c hG87 (xne_k hk9999d hk9999c (by decide))).trans (lc_c hG79 (xne_k hk9999d hk9999b (by decide)))))] <;> exact (v_X11_cutAll_224_27 (K := K) (F := F) a G G4 G_9 G79 G87 p0 p1 l3_9 N9 x63 ha rm e1 e2 e3 en8 I9_0 I9_1 hm9 c10 z13 c27 c45 t63 c66 mu224)) (by rw [(show G87.2.1 (F a 47) = G_9.2.1 (F a 47) from ((lc_c hG87 (xne_k hk9999 hk9999c (by decide))).trans (lc_c hG79 (xne_k hk9999 hk9999b (by decide))))), (show G87.2.1 (F a 48) = G_9.2.1 (F a 48) from ((lc_c hG87 (xne_k hk9999a hk9999c (by decide))).trans (lc_c hG79 (xne_k hk9999a hk9999b (by decide))))), (show G87.2.1 (F a 49) = G79.2.1 (F a 49) from (lc_c hG87 (xne_k hk9999b hk9999c (by decide)))), (show G87.2.1 (F a 1) = G_9.2.1 (F a 1) from ((lc_c hG87 (xne_k hk9999d hk9999c (by decide))).trans (lc_c hG79 (xne_k hk9999d hk9999b (by decide)))))] <;> exact (v_X11_cutAll_224_28 (F := F) a G G_9 G79 G87 l3_9 hR iv cs224)) (by rw [(show G87.2.1 (F a 47) = G_9.2.1 (F a 47) from ((lc_c hG87 (xne_k hk9999 hk9999c (by decide))).trans (lc_c hG79 (xne_k hk9999 hk9999b (by decide))))), (show G87.2.1 (F a 48) = G_9.2.1 (F a 48) from ((lc_c hG87 (xne_k hk9999a hk9999c (by decide))).trans (lc_c hG79 (xne_k hk9999a hk9999b (by decide))))), (show G87.2.1 (F a 49) = G79.2.1 (F a 49) from (lc_c hG87 (xne_k hk9999b hk9999c (by decide)))), (show G87.2.1 (F a 1) = G_9.2.1 (F a 1) from ((lc_c hG87 (xne_k hk9999d hk9999c (by decide))).trans (lc_c hG79 (xne_k hk9999d hk9999b (by decide)))))] <;> exact (v_X11_cutAll_224_29 (F := F) a G G_9 G79 G87 p0 p1 l3_9 hR iv fi cs224)) (I9_0) (by rw [(show G87.2.1 (F a 47) = G_9.2.1 (F a 47) from ((lc_c hG87 (xne_k hk9999 hk9999c (by decide))).trans (lc_c hG79 (xne_k hk9999 hk9999b (by decide))))), (show G87.2.1 (F a 48) = G_9.2.1 (F a 48) from ((lc_c hG87 (xne_k hk9999a hk9999c (by decide))).trans (lc_c hG79 (xne_k hk9999a hk9999b (by decide))))), (show G87.2.1 (F a 49) = G79.2.1 (F a 49) from (lc_c hG87 (xne_k hk9999b hk9999c (by decide)))), (show G87.2.1 (F a 1) = G_9.2.1 (F a 1) from ((lc_c hG87 (xne_k hk9999d hk9999c (by decide))).trans (lc_c hG79 (xne_k hk9999d hk9999b (by decide)))))] <;> exact (z_X11_cutAll_17 (cmu (gst (G_9.2.1 (F a 47)) (G_9.2.1 (F a 48)) (G79.2.1 (F a 49)) (G87.2.1 (F a 50)) (Int.toNat (l3_9.toInt)), mw (G_9.2.1 (F a 1)) 0)) (cmu (gst (G_9.2.1 (F a 47)) (G_9.2.1 (F a 48)) (G_9.2.1 (F a 49)) (G_9.2.1 (F a 50)) (Int.toNat (l3_9.toInt)), mw (G_9.2.1 (F a 1)) 0)) mu224)) (by rw [(show G87.2.1 (F a 47) = G_9.2.1 (F a 47) from ((lc_c hG87 (xne_k hk9999 hk9999c (by decide))).trans (lc_c hG79 (xne_k hk9999 hk9999b (by decide))))), (show G87.2.1 (F a 48) = G_9.2.1 (F a 48) from ((lc_c hG87 (xne_k hk9999a hk9999c (by decide))).trans (lc_c hG79 (xne_k hk9999a hk9999b (by decide))))), (show G87.2.1 (F a 49) = G79.2.1 (F a 49) from (lc_c hG87 (xne_k hk9999b hk9999c (by decide)))), (show G87.2.1 (F a 1) = G_9.2.1 (F a 1) from ((lc_c hG87 (xne_k hk9999d hk9999c (by decide))).trans (lc_c hG79 (xne_k hk9999d hk9999b (by decide)))))] <;> exact (z_X11_cutAll_18 N9 (cmu (gst (G_9.2.1 (F a 47)) (G_9.2.1 (F a 48)) (G79.2.1 (F a 49)) (G87.2.1 (F a 50)) (Int.toNat (l3_9.toInt)), mw (G_9.2.1 (F a 1)) 0)) (cmu (gst (G_9.2.1 (F a 47)) (G_9.2.1 (F a 48)) (G_9.2.1 (F a 49)) (G_9.2.1 (F a 50)) (Int.toNat (l3_9.toInt)), mw (G_9.2.1 (F a 1)) 0)) hm9 mu224)) hT hS (lv_sub hl [1, 2] rfl)
        · refine xi_iinc (n := (-1)) (lv' := fun z9 => [(3, .int z9), (4, .int x15), (0, .ref a)]) (k := 2) hx hb (rfl : Int32.toInt l3_9 = l3_9.toInt) (by decide) dX11_cutAll_30 hl rfl (by decide) (fun _ => rfl) (fun x30 ls t30 hl => ?_)
          have e30 : x30.toInt = (l3_9.toInt + (-1)) := (z_X11_cutAll_75 l3_9.toInt x30.toInt I9_0 t30)
          have hl : lv_has ls 8 [(3, .int x30), (4, .int x15), (0, .ref a)] := hl
          refine lv_goto (tgt := 224) hx hb dX11_cutAll_33 (by decide) ?_
          have cs224 : cst (refA (G.2.1 (F a 10))) (refT (G.2.1 (F a 10))) (refC (G.2.1 (F a 10))) (gst (G_9.2.1 (F a 47)) (G_9.2.1 (F a 48)) (G_9.2.1 (F a 49)) (G_9.2.1 (F a 50)) (Int.toNat (l3_9.toInt)), mw (G_9.2.1 (F a 1)) 0) = (gst (G_9.2.1 (F a 47)) (G_9.2.1 (F a 48)) (G_9.2.1 (F a 49)) (G_9.2.1 (F a 50)) (Int.toNat (l3_9.toInt + (-1))), mw (G_9.2.1 (F a 1)) 0) := (v_X11_cutAll_224_30 (K := K) (F := F) a G G4 G_9 p0 p1 l3_9 N9 ha e1 e2 e3 en8 I9_0 I9_1 hm9 c10 z13 c27)
          have mu224 : (cmu (gst (G_9.2.1 (F a 47)) (G_9.2.1 (F a 48)) (G_9.2.1 (F a 49)) (G_9.2.1 (F a 50)) (Int.toNat (l3_9.toInt + (-1))), mw (G_9.2.1 (F a 1)) 0)) < (cmu (gst (G_9.2.1 (F a 47)) (G_9.2.1 (F a 48)) (G_9.2.1 (F a 49)) (G_9.2.1 (F a 50)) (Int.toNat (l3_9.toInt)), mw (G_9.2.1 (F a 1)) 0)) ∧ 0 ≤ (cmu (gst (G_9.2.1 (F a 47)) (G_9.2.1 (F a 48)) (G_9.2.1 (F a 49)) (G_9.2.1 (F a 50)) (Int.toNat (l3_9.toInt + (-1))), mw (G_9.2.1 (F a 1)) 0)) := ⟨cst_dn (refTo hR) iv cs224 (gst_p (z_X11_cutAll_4 l3_9.toInt c10)), cmu_b (cm_st (refTo hR) iv cs224).1⟩
          refine lv_goto (tgt := 9) hx hb dX11_cutAll_224 (by decide) ?_
          exact ih9 x30 G_9 _ _ _ (XFr.call XFr.rf hF_9 xm0 (xm1 0 rfl (xm1 1 rfl (xm1 2 rfl (xm1 3 rfl (xm1 4 rfl xm0))))) xm0) (v_X11_cutAll_224_31 (K := K) (F := F) a G G4 G_9 p0 p1 l3_9 N9 ha rm e1 e2 e3 en8 I9_0 I9_1 hm9 c10 z13 c27 mu224) (by rw [(e30 : Int32.toInt x30 = (l3_9.toInt + (-1)))] <;> exact (v_X11_cutAll_224_32 (F := F) a G G_9 l3_9 hR iv cs224)) (by rw [(e30 : Int32.toInt x30 = (l3_9.toInt + (-1)))] <;> exact (v_X11_cutAll_224_33 (F := F) a G G_9 p0 p1 l3_9 hR iv fi cs224)) (by rw [(e30 : Int32.toInt x30 = (l3_9.toInt + (-1)))] <;> exact (z_X11_cutAll_77 l3_9.toInt I9_0 c10)) (by rw [(e30 : Int32.toInt x30 = (l3_9.toInt + (-1)))] <;> exact (z_X11_cutAll_17 (cmu (gst (G_9.2.1 (F a 47)) (G_9.2.1 (F a 48)) (G_9.2.1 (F a 49)) (G_9.2.1 (F a 50)) (Int.toNat (l3_9.toInt + (-1))), mw (G_9.2.1 (F a 1)) 0)) (cmu (gst (G_9.2.1 (F a 47)) (G_9.2.1 (F a 48)) (G_9.2.1 (F a 49)) (G_9.2.1 (F a 50)) (Int.toNat (l3_9.toInt)), mw (G_9.2.1 (F a 1)) 0)) mu224)) (by rw [(e30 : Int32.toInt x30 = (l3_9.toInt + (-1)))] <;> exact (z_X11_cutAll_18 N9 (cmu (gst (G_9.2.1 (F a 47)) (G_9.2.1 (F a 48)) (G_9.2.1 (F a 49)) (G_9.2.1 (F a 50)) (Int.toNat (l3_9.toInt + (-1))), mw (G_9.2.1 (F a 1)) 0)) (cmu (gst (G_9.2.1 (F a 47)) (G_9.2.1 (F a 48)) (G_9.2.1 (F a 49)) (G_9.2.1 (F a 50)) (Int.toNat (l3_9.toInt)), mw (G_9.2.1 (F a 1)) 0)) hm9 mu224)) hT hS (lv_sub hl [2, 0] rfl)
  exact L9 4294967297 1 G4 _ _ _ XFr.rf (v_X11_cutAll_8_34 (F := F) a G4 oq4e) (v_X11_cutAll_8_35 (K := K) (F := F) a G G4 p0 p1 ha hM oq4 oq4a oq4b oq4c oq4d e1 e2 e3 en8) (v_X11_cutAll_8_36 (F := F) a G G4 p0 p1 oq4 oq4a oq4b oq4c oq4d) (by decide) (z_X11_cutAll_80 (cmu (gst (G4.2.1 (F a 47)) (G4.2.1 (F a 48)) (G4.2.1 (F a 49)) (G4.2.1 (F a 50)) (Int.toNat 1), mw (G4.2.1 (F a 1)) 0)) en8) (z_X11_cutAll_81 (cmu (gst (G4.2.1 (F a 47)) (G4.2.1 (F a 48)) (G4.2.1 (F a 49)) (G4.2.1 (F a 50)) (Int.toNat 1), mw (G4.2.1 (F a 1)) 0)) en8) hT hS (lv_sub hl [1, 0] rfl)

theorem z_X11_cut_1 (a0 : Int) (a1 : Int) (a2 : Int) (a3 : Int) (h0 : 0 ≤ a0 ∧ a0 ≤ 2388) (h1 : a1 = -2147483648 ∧ a2 = -2147483648 ∧ a3 = 0) : (0 ≤ a3 ∧ a3 ≤ 24) ∧ (0 ≤ a0 ∧ a0 ≤ 2388) := by omega
theorem z_X11_cut_2 (a0 : Int) (a1 : Int) (h0 : (a1 = 1 ∧ 0 ≤ a0 ∧ a0 ≤ 2) ∨ (a1 = 0 ∧ (a0 < 0 ∨ 2 < a0))) (h1 : ¬ (a1 = 0)) : 0 ≤ a0 ∧ a0 < 3 := by omega
theorem z_X11_cut_3 (a0 : Int) (a1 : Int) (h0 : (a1 = 1 ∧ 0 ≤ a0 ∧ a0 ≤ 29) ∨ (a1 = 0 ∧ (a0 < 0 ∨ 29 < a0))) (h1 : a1 ≠ 0) : 0 ≤ a0 ∧ a0 < 30 := by omega
theorem z_X11_cut_6 (a0 : Int) (a1 : Int) (h0 : (a0 = 1 ∧ a1 ≠ -2000) ∨ (a0 = 0 ∧ a1 = -2000)) (h1 : a0 ≠ 0) : a1 ≠ -2000 := by omega
theorem z_X11_cut_7 (a0 : Int) (a1 : Int) (a2 : Int) (h0 : a0 = -2147483648 ∧ a1 = -2147483648 ∧ a2 = 0) : 0 ≤ a2 ∧ a2 ≤ 24 := by omega
abbrev rm_X11_cut : Room := { frames := 8, cells := 0, slots := 0, locals := 186 }
set_option maxHeartbeats 4000000 in
set_option maxRecDepth 100000 in
theorem c_X11_cut (l : Launch) (E : XE) (K : Nat → Nat) (F : Nat → Nat → Nat) (G : XG) (a : Nat) (p0 : Int32) (p1 : Int32) (ha : K a = 13) (am : 0 ≤ ((G.1 a 43).toInt) ∧ ((G.1 a 43).toInt) ≤ 2388) (hR : RV (G.2.1 (F a 10))) (hM : RM (G.2.1 (F a 1)) (0)) (hB : RM (G.2.1 (F a 2)) 0) : Met l yX11_cut (xw yX11_cut cX11_cut 3 (some .int)) rm_X11_cut (va_Pc [.ref a, .int p0, .int p1] (XP E K F G)) (XQ E (fun v (u : XG) => ∃ r : Int32, v = .int r ∧ XFr [(a, 16), (a, 19), (a, 20), (a, 21), (a, 23), (a, 45), (a, 46), (a, 43), (a, 44), (a, 0)] [F a 15, F a 17, F a 18, F a 1, F a 8, F a 22, F a 11, F a 13, F a 9, F a 41, F a 42, F a 4, F a 12, F a 47, F a 48, F a 49, F a 50] [] G u ∧ ((0 ≤ ((u.1 a 23).toInt) ∧ ((u.1 a 23).toInt) ≤ 24) ∧ (0 ≤ ((u.1 a 43).toInt) ∧ ((u.1 a 43).toInt) ≤ 2388)) ∧ ((¬ ((0 ≤ p0.toInt ∧ p0.toInt < 3) ∧ (0 ≤ p1.toInt ∧ p1.toInt < 30)) ∧ r.toInt = -1 ∧ mw (u.2.1 (F a 1)) 0 = (mw (G.2.1 (F a 1)) 0)) ∨ (((0 ≤ p0.toInt ∧ p0.toInt < 3) ∧ (0 ≤ p1.toInt ∧ p1.toInt < 30)) ∧ cel (mw (G.2.1 (F a 1)) 0) p0.toInt p1.toInt 0 = -2000 ∧ r.toInt = -2 ∧ mw (u.2.1 (F a 1)) 0 = (mw (G.2.1 (F a 1)) 0)) ∨ (((0 ≤ p0.toInt ∧ p0.toInt < 3) ∧ (0 ≤ p1.toInt ∧ p1.toInt < 30)) ∧ cel (mw (G.2.1 (F a 1)) 0) p0.toInt p1.toInt 0 ≠ -2000 ∧ StR ((G.1 a 6).toInt) r.toInt (G.2.1 (F a 10)) (mw (G.2.1 (F a 1)) 0) (cfin (refA (G.2.1 (F a 10))) (refT (G.2.1 (F a 10))) (refC (G.2.1 (F a 10))) ([(p0.toInt, p1.toInt, 0, 0)], rfil (mw (G.2.1 (F a 1)) 0) p0.toInt p1.toInt (-2000) 3)) (mw (u.2.1 (F a 1)) 0))) ∧ (RM (u.2.1 (F a 1)) 0)) (fun u H => TW E K F u H)) 0 0 (xA E) := by
  refine x_enter (by decide) (Nat.le_of_ble_eq_true rfl) ?_
  intro p e s m args below meth c Q S hr hlk hnm hQ hP ls hl
  obtain ⟨hz, hK, hT⟩ := hP
  obtain ⟨hx, hb, -, -, -⟩ := id S
  obtain ⟨H, hT, hS, hgo⟩ : ∃ H : Heap, TW E K F G H ∧ va_S (xA E) s.heap H [] ∧ H = s.heap := ⟨_, hT, va_S.rf, rfl⟩
  rw [← hgo]
  have hl : lv_has ls 3 [(0, .ref a), (1, .int p0), (2, .int p1)] := hl
  obtain ⟨hk9999, hj9999⟩ := fkX11_15 hT ha
  obtain ⟨hk9999a, hj9999a⟩ := fkX11_17 hT ha
  obtain ⟨hk9999b, hj9999b⟩ := fkX11_18 hT ha
  obtain ⟨hk9999c, hj9999c⟩ := fkX11_1 hT ha
  obtain ⟨hk9999d, hj9999d⟩ := fkX11_8 hT ha
  obtain ⟨hk9999e, hj9999e⟩ := fkX11_22 hT ha
  obtain ⟨hk9999f, hj9999f⟩ := fkX11_11 hT ha
  obtain ⟨hk9999g, hj9999g⟩ := fkX11_13 hT ha
  obtain ⟨hk9999h, hj9999h⟩ := fkX11_9 hT ha
  obtain ⟨hk9999i, hj9999i⟩ := fkX11_41 hT ha
  obtain ⟨hk9999j, hj9999j⟩ := fkX11_42 hT ha
  obtain ⟨hk9999k, hj9999k⟩ := fkX11_4 hT ha
  obtain ⟨hk9999l, hj9999l⟩ := fkX11_12 hT ha
  obtain ⟨hk9999m, hj9999m⟩ := fkX11_47 hT ha
  obtain ⟨hk9999n, hj9999n⟩ := fkX11_48 hT ha
  obtain ⟨hk9999o, hj9999o⟩ := fkX11_49 hT ha
  obtain ⟨hk9999p, hj9999p⟩ := fkX11_50 hT ha
  obtain ⟨hk9999q, hj9999q⟩ := fkX11_10 hT ha
  obtain ⟨hk9999r, hj9999r⟩ := fkX11_2 hT ha
  refine lv_aload_n hx hb dX11_cut_0 rfl (lv_at hl 0 rfl) ?_
  refine lv_iconst (v := 0) hx hb dX11_cut_1 (by decide) ?_
  refine pX11_0 (v := 0) S hK hT hS ha kf_X11_134 dX11_cut_2 (fun H locs hT hS => ?_)
  obtain ⟨G2, hG2⟩ : ∃ GG : XG, GG = dput G a 0 0 := ⟨_, rfl⟩
  rw [← hG2] at hT
  refine lv_aload_n hx hb dX11_cut_5 rfl (lv_at hl 0 rfl) ?_
  refine x_cv0 (x_runV (b := a) (As := []) (rest := []) S (c_X11_nothing l E K F G2 a ha) mv_X11_nothing km_X11_231 rfl rfl ⟨Nat.le_of_ble_eq_true rfl, Nat.le_of_ble_eq_true rfl⟩ (rc_13 hK hT ha) hK (fun _ => XP.blind) (fun U hU hW => XP.at hK hz hS hT hU hW) rfl hl.1 (Nat.le_of_ble_eq_true rfl) dX11_cut_6 ⟨Nat.le_of_ble_eq_true rfl, Nat.le_of_ble_eq_true rfl⟩) hS ?_
  rintro G6 H locs ⟨hF6, t6⟩ hT hS
  have t6 : ((G6.1 a 20).toInt) = -2147483648 ∧ ((G6.1 a 21).toInt) = -2147483648 ∧ ((G6.1 a 23).toInt) = 0 := t6
  refine lv_iload_n hx hb dX11_cut_9 rfl (lv_at hl 1 rfl) ?_
  refine x_clp (x_runS (As := [.int p0]) (rest := []) S (c_X11_isTable l E K F G6 H p0) ms_X11_isTable km_X11_149 rfl rfl ⟨Nat.le_of_ble_eq_true rfl, Nat.le_of_ble_eq_true rfl⟩ hK (fun _ => XPh.blind) (fun U hU hW => XPh.at hK hz hS hT hU hW) rfl hl.1 (Nat.le_of_ble_eq_true rfl) dX11_cut_10 ⟨Nat.le_of_ble_eq_true rfl, Nat.le_of_ble_eq_true rfl⟩) hS ?_
  rintro _ _ locs ⟨x10, rfl, b10, t10⟩ hS
  have t10 : (x10.toInt = 1 ∧ 0 ≤ p0.toInt ∧ p0.toInt ≤ 2) ∨ (x10.toInt = 0 ∧ (p0.toInt < 0 ∨ 2 < p0.toInt)) := t10
  refine xi_zeq (tgt := 23) hx hb (rfl : Int32.toInt x10 = x10.toInt) dX11_cut_13 (by decide) (fun c13 => ?_) (fun c13 => ?_)
  · refine lv_aload_n hx hb dX11_cut_23 rfl (lv_at hl 0 rfl) ?_
    refine lv_iconst (v := (-1)) hx hb dX11_cut_24 (by decide) ?_
    refine x_cl0 (x_runV (b := a) (As := [.int (-1)]) (rest := []) S (c_X11_refuses l E K F G6 a (-1) ha) mv_X11_refuses km_X11_325 rfl rfl ⟨Nat.le_of_ble_eq_true rfl, Nat.le_of_ble_eq_true rfl⟩ (rc_13 hK hT ha) hK (fun _ => XP.blind) (fun U hU hW => XP.at hK hz hS hT hU hW) rfl hl.1 (Nat.le_of_ble_eq_true rfl) dX11_cut_25 ⟨Nat.le_of_ble_eq_true rfl, Nat.le_of_ble_eq_true rfl⟩) hS ?_
    rintro _ G25 H locs ⟨x25, rfl, hF25, t25⟩ hT hS
    have t25 : x25.toInt = (-1 : Int) := by rw [((by decide) : Int32.toInt (-1) = (-1 : Int))] at t25; exact t25
    exact x_ri hx hb hr hlk hQ (Nat.le_of_ble_eq_true rfl) (Nat.le_of_ble_eq_true rfl) hS dX11_cut_28 G25 ⟨_, rfl, (XFr.call (XFr.call (by rw [hG2]; exact XFr.dput XFr.rf (List.mem_of_getElem? (i := 9) rfl)) hF6 (xm1 2 rfl (xm1 3 rfl (xm1 4 rfl xm0))) xm0 xm0) hF25 xm0 (xm1 4 rfl xm0) xm0), (by rw [(show (G25.1 a 23).toInt = ((G6.1 a 23).toInt) from (congrArg Int32.toInt (hF25.1 _ _ xn0)).trans (rfl : Int32.toInt (G6.1 a 23) = ((G6.1 a 23).toInt))), (show (G25.1 a 43).toInt = ((G.1 a 43).toInt) from (congrArg Int32.toInt ((hF25.1 _ _ xn0).trans ((hF6.1 _ _ (xnj (by decide) (xnj (by decide) (xnj (by decide) xn0)))).trans (ld_j hG2 (by decide))))).trans (rfl : Int32.toInt (G.1 a 43) = ((G.1 a 43).toInt)))] <;> exact (z_X11_cut_1 ((G.1 a 43).toInt) ((G6.1 a 20).toInt) ((G6.1 a 21).toInt) ((G6.1 a 23).toInt) am t6)), (by rw [(t25 : Int32.toInt x25 = (-1 : Int))] <;> exact (v_X11_cut_28_1 (F := F) x10 p0 G25 a G p1 t10 c13 ((hF25.2.1 _ (xn1 (xne_k hk9999c hk9999d (by decide)) xn0)).trans ((hF6.2.1 _ xn0).trans (ld_c hG2))))), (v_X11_cut_28_2 (F := F) a G G25 hM ((hF25.2.1 _ (xn1 (xne_k hk9999c hk9999d (by decide)) xn0)).trans ((hF6.2.1 _ xn0).trans (ld_c hG2))))⟩ hT
  · refine lv_iload_n hx hb dX11_cut_16 rfl (lv_at hl 2 rfl) ?_
    refine x_clp (x_runS (As := [.int p1]) (rest := []) S (c_X11_isKey l E K F G6 H p1) ms_X11_isKey km_X11_153 rfl rfl ⟨Nat.le_of_ble_eq_true rfl, Nat.le_of_ble_eq_true rfl⟩ hK (fun _ => XPh.blind) (fun U hU hW => XPh.at hK hz hS hT hU hW) rfl hl.1 (Nat.le_of_ble_eq_true rfl) dX11_cut_17 ⟨Nat.le_of_ble_eq_true rfl, Nat.le_of_ble_eq_true rfl⟩) hS ?_
    rintro _ _ locs ⟨x17, rfl, b17, t17⟩ hS
    have t17 : (x17.toInt = 1 ∧ 0 ≤ p1.toInt ∧ p1.toInt ≤ 29) ∨ (x17.toInt = 0 ∧ (p1.toInt < 0 ∨ 29 < p1.toInt)) := t17
    refine xi_zne (tgt := 29) hx hb (rfl : Int32.toInt x17 = x17.toInt) dX11_cut_20 (by decide) (fun c20 => ?_) (fun c20 => ?_)
    · have z29 : 0 ≤ p0.toInt ∧ p0.toInt < 3 := (z_X11_cut_2 p0.toInt x10.toInt t10 c13)
      have z29a : 0 ≤ p1.toInt ∧ p1.toInt < 30 := (z_X11_cut_3 p1.toInt x17.toInt t17 c20)
      refine lv_aload_n hx hb dX11_cut_29 rfl (lv_at hl 0 rfl) ?_
      refine lv_iload_n hx hb dX11_cut_30 rfl (lv_at hl 1 rfl) ?_
      refine lv_iload_n hx hb dX11_cut_31 rfl (lv_at hl 2 rfl) ?_
      refine x_clp (x_runV (b := a) (As := [.int p0, .int p1]) (rest := []) S (c_X11_isRow l E K F G6 H a p0 p1 ha (v_X11_cut_32_3 (F := F) a G G6 hM hB ((hF6.2.1 _ xn0).trans (ld_c hG2)))) mv_X11_isRow km_X11_346 rfl rfl ⟨Nat.le_of_ble_eq_true rfl, Nat.le_of_ble_eq_true rfl⟩ (rc_13 hK hT ha) hK (fun _ => XPh.blind) (fun U hU hW => XPh.at hK hz hS hT hU hW) rfl hl.1 (Nat.le_of_ble_eq_true rfl) dX11_cut_32 ⟨Nat.le_of_ble_eq_true rfl, Nat.le_of_ble_eq_true rfl⟩) hS ?_
      rintro _ _ locs ⟨x32, rfl, b32, t32⟩ hS
      have t32 : (x32.toInt = 1 ∧ (cel (mw (G.2.1 (F a 1)) 0) (p0.toInt) (p1.toInt) 0) ≠ -2000) ∨ (x32.toInt = 0 ∧ (cel (mw (G.2.1 (F a 1)) 0) (p0.toInt) (p1.toInt) 0) = -2000) := by rw [(show G6.2.1 (F a 1) = G.2.1 (F a 1) from ((hF6.2.1 _ xn0).trans (ld_c hG2)))] at t32; exact t32
      refine xi_zne (tgt := 45) hx hb (rfl : Int32.toInt x32 = x32.toInt) dX11_cut_35 (by decide) (fun c35 => ?_) (fun c35 => ?_)
      · refine lv_aload_n hx hb dX11_cut_45 rfl (lv_at hl 0 rfl) ?_
        refine x_cv0 (x_runV (b := a) (As := []) (rest := []) S (c_X11_start l E K F G6 a ha (v_X11_cut_46_4 (F := F) a G G6 hR ((hF6.2.1 _ xn0).trans (ld_c hG2))) (v_X11_cut_46_5 (F := F) a G G6 hM hB ((hF6.2.1 _ xn0).trans (ld_c hG2)))) mv_X11_start km_X11_350 rfl rfl ⟨Nat.le_of_ble_eq_true rfl, Nat.le_of_ble_eq_true rfl⟩ (rc_13 hK hT ha) hK (fun _ => XP.blind) (fun U hU hW => XP.at hK hz hS hT hU hW) rfl hl.1 (Nat.le_of_ble_eq_true rfl) dX11_cut_46 ⟨Nat.le_of_ble_eq_true rfl, Nat.le_of_ble_eq_true rfl⟩) hS ?_
        rintro G46 H locs ⟨hF46, oq46, oq46a, oq46b⟩ hT hS
        have oq46 : mw (G46.2.1 (F a 4)) 0 = mw (G.2.1 (F a 1)) 0 := by simp only [(show G6.2.1 (F a 1) = G.2.1 (F a 1) from ((hF6.2.1 _ xn0).trans (ld_c hG2)))] at oq46; exact oq46
        have oq46b : LSt (G.2.1 (F a 10)) (G46.2.1 (F a 12)) (mw (G.2.1 (F a 1)) 0) 12 := by simp only [(show G6.2.1 (F a 10) = G.2.1 (F a 10) from ((hF6.2.1 _ xn0).trans (ld_c hG2))), (show G6.2.1 (F a 1) = G.2.1 (F a 1) from ((hF6.2.1 _ xn0).trans (ld_c hG2)))] at oq46b; exact oq46b
        refine lv_aload_n hx hb dX11_cut_49 rfl (lv_at hl 0 rfl) ?_
        refine lv_iload_n hx hb dX11_cut_50 rfl (lv_at hl 1 rfl) ?_
        refine lv_iload_n hx hb dX11_cut_51 rfl (lv_at hl 2 rfl) ?_
        refine x_cv0 (x_runV (b := a) (As := [.int p0, .int p1]) (rest := []) S (c_X11_cutAll l E K F G46 a p0 p1 ha (z29) (z29a) (by rw [(show G46.2.1 (F a 1) = G.2.1 (F a 1) from ((hF46.2.1 _ (xn1 (xne_k hk9999c hk9999k (by decide)) (xn1 (xne_k hk9999c hk9999l (by decide)) xn0))).trans ((hF6.2.1 _ xn0).trans (ld_c hG2))))] <;> exact (z_X11_cut_6 x32.toInt (cel (mw (G.2.1 (F a 1)) 0) (p0.toInt) (p1.toInt) 0) t32 c35)) (v_X11_cut_52_6 (F := F) a G G46 hR ((hF46.2.1 _ (xn1 (xne_k hk9999q hk9999k (by decide)) (xn1 (xne_k hk9999q hk9999l (by decide)) xn0))).trans ((hF6.2.1 _ xn0).trans (ld_c hG2)))) (v_X11_cut_52_7 (F := F) a G G46 hM hB oq46a ((hF46.2.1 _ (xn1 (xne_k hk9999c hk9999k (by decide)) (xn1 (xne_k hk9999c hk9999l (by decide)) xn0))).trans ((hF6.2.1 _ xn0).trans (ld_c hG2))))) mv_X11_cutAll km_X11_370 rfl rfl ⟨Nat.le_of_ble_eq_true rfl, Nat.le_of_ble_eq_true rfl⟩ (rc_13 hK hT ha) hK (fun _ => XP.blind) (fun U hU hW => XP.at hK hz hS hT hU hW) rfl hl.1 (Nat.le_of_ble_eq_true rfl) dX11_cut_52 ⟨Nat.le_of_ble_eq_true rfl, Nat.le_of_ble_eq_true rfl⟩) hS ?_
        rintro G52 H locs ⟨hF52, oq52, oq52a⟩ hT hS
        have oq52 : mw (G52.2.1 (F a 1)) 0 = cfin (refA (G.2.1 (F a 10))) (refT (G.2.1 (F a 10))) (refC (G.2.1 (F a 10))) ([(p0.toInt, p1.toInt, 0, 0)], rfil (mw (G.2.1 (F a 1)) 0) p0.toInt p1.toInt (-2000) 3) := by simp only [(show G46.2.1 (F a 10) = G.2.1 (F a 10) from ((hF46.2.1 _ (xn1 (xne_k hk9999q hk9999k (by decide)) (xn1 (xne_k hk9999q hk9999l (by decide)) xn0))).trans ((hF6.2.1 _ xn0).trans (ld_c hG2)))), (show G46.2.1 (F a 1) = G.2.1 (F a 1) from ((hF46.2.1 _ (xn1 (xne_k hk9999c hk9999k (by decide)) (xn1 (xne_k hk9999c hk9999l (by decide)) xn0))).trans ((hF6.2.1 _ xn0).trans (ld_c hG2))))] at oq52; exact oq52
        refine lv_aload_n hx hb dX11_cut_55 rfl (lv_at hl 0 rfl) ?_
        refine x_cl0 (x_runV (b := a) (As := []) (rest := []) S (c_X11_settles l E K F G52 a (mw (G.2.1 (F a 1)) 0) ha (by rw [(show (G52.1 a 23).toInt = ((G6.1 a 23).toInt) from (congrArg Int32.toInt ((hF52.1 _ _ xn0).trans (hF46.1 _ _ xn0))).trans (rfl : Int32.toInt (G6.1 a 23) = ((G6.1 a 23).toInt)))] <;> exact (z_X11_cut_7 ((G6.1 a 20).toInt) ((G6.1 a 21).toInt) ((G6.1 a 23).toInt) t6)) (by rw [(show (G52.1 a 43).toInt = ((G.1 a 43).toInt) from (congrArg Int32.toInt ((hF52.1 _ _ xn0).trans ((hF46.1 _ _ xn0).trans ((hF6.1 _ _ (xnj (by decide) (xnj (by decide) (xnj (by decide) xn0)))).trans (ld_j hG2 (by decide)))))).trans (rfl : Int32.toInt (G.1 a 43) = ((G.1 a 43).toInt)))] <;> exact (am)) (v_X11_cut_56_8 (F := F) a G G52 hR ((hF52.2.1 _ (xn1 (xne_k hk9999q hk9999m (by decide)) (xn1 (xne_k hk9999q hk9999n (by decide)) (xn1 (xne_k hk9999q hk9999o (by decide)) (xn1 (xne_k hk9999q hk9999p (by decide)) (xn1 (xne_k hk9999q hk9999c (by decide)) xn0)))))).trans ((hF46.2.1 _ (xn1 (xne_k hk9999q hk9999k (by decide)) (xn1 (xne_k hk9999q hk9999l (by decide)) xn0))).trans ((hF6.2.1 _ xn0).trans (ld_c hG2))))) (v_X11_cut_56_9 (F := F) a G52 oq52a) (v_X11_cut_56_10 (F := F) a G G46 G52 hM hB oq46a oq52a (hF52.2.1 _ (xn1 (xne_k hk9999k hk9999m (by decide)) (xn1 (xne_k hk9999k hk9999n (by decide)) (xn1 (xne_k hk9999k hk9999o (by decide)) (xn1 (xne_k hk9999k hk9999p (by decide)) (xn1 (xne_k hk9999k hk9999c (by decide)) xn0))))))) (v_X11_cut_56_11 (F := F) a G G46 G52 hM hB oq46a oq52a ((hF52.2.1 _ (xn1 (xne_k hk9999r hk9999m (by decide)) (xn1 (xne_k hk9999r hk9999n (by decide)) (xn1 (xne_k hk9999r hk9999o (by decide)) (xn1 (xne_k hk9999r hk9999p (by decide)) (xn1 (xne_k hk9999r hk9999c (by decide)) xn0)))))).trans ((hF46.2.1 _ (xn1 (xne_j hj9999r hj9999k (by first | decide | omega)) (xn1 (xne_k hk9999r hk9999l (by decide)) xn0))).trans ((hF6.2.1 _ xn0).trans (ld_c hG2))))) (v_X11_cut_56_12 (F := F) a G G46 G52 oq46b ((hF52.2.1 _ (xn1 (xne_k hk9999q hk9999m (by decide)) (xn1 (xne_k hk9999q hk9999n (by decide)) (xn1 (xne_k hk9999q hk9999o (by decide)) (xn1 (xne_k hk9999q hk9999p (by decide)) (xn1 (xne_k hk9999q hk9999c (by decide)) xn0)))))).trans ((hF46.2.1 _ (xn1 (xne_k hk9999q hk9999k (by decide)) (xn1 (xne_k hk9999q hk9999l (by decide)) xn0))).trans ((hF6.2.1 _ xn0).trans (ld_c hG2)))) (hF52.2.1 _ (xn1 (xne_k hk9999l hk9999m (by decide)) (xn1 (xne_k hk9999l hk9999n (by decide)) (xn1 (xne_k hk9999l hk9999o (by decide)) (xn1 (xne_k hk9999l hk9999p (by decide)) (xn1 (xne_k hk9999l hk9999c (by decide)) xn0)))))))) mv_X11_settles km_X11_353 rfl rfl ⟨Nat.le_of_ble_eq_true rfl, Nat.le_of_ble_eq_true rfl⟩ (rc_13 hK hT ha) hK (fun _ => XP.blind) (fun U hU hW => XP.at hK hz hS hT hU hW) rfl hl.1 (Nat.le_of_ble_eq_true rfl) dX11_cut_56 ⟨Nat.le_of_ble_eq_true rfl, Nat.le_of_ble_eq_true rfl⟩) hS ?_
        rintro _ G56 H locs ⟨x56, rfl, hF56, t56, oq56, oq56a⟩ hT hS
        have t56 : (0 ≤ ((G56.1 a 23).toInt) ∧ ((G56.1 a 23).toInt) ≤ 24) ∧ (0 ≤ ((G56.1 a 43).toInt) ∧ ((G56.1 a 43).toInt) ≤ 2388) := t56
        have oq56 : ((ffP (G.2.1 (F a 10)) (mw (G52.2.1 (F a 1)) 0) (fuO (G.2.1 (F a 10)) (mw (G.2.1 (F a 1)) 0) (mw (G52.2.1 (F a 1)) 0) 0) ≠ -1 ∨ (((G.1 a 6).toInt) = 0 ∧ ffP (G.2.1 (F a 10)) (mw (G52.2.1 (F a 1)) 0) (fuO (G.2.1 (F a 10)) (mw (G.2.1 (F a 1)) 0) (mw (G52.2.1 (F a 1)) 0) 1) ≠ -1)) ∧ x56.toInt = -5 ∧ mw (G56.2.1 (F a 1)) 0 = mw (G46.2.1 (F a 4)) 0) ∨ (ffP (G.2.1 (F a 10)) (mw (G52.2.1 (F a 1)) 0) (fuO (G.2.1 (F a 10)) (mw (G.2.1 (F a 1)) 0) (mw (G52.2.1 (F a 1)) 0) 0) = -1 ∧ (((G.1 a 6).toInt) = 0 → ffP (G.2.1 (F a 10)) (mw (G52.2.1 (F a 1)) 0) (fuO (G.2.1 (F a 10)) (mw (G.2.1 (F a 1)) 0) (mw (G52.2.1 (F a 1)) 0) 1) = -1) ∧ x56.toInt = (((fuO (G.2.1 (F a 10)) (mw (G.2.1 (F a 1)) 0) (mw (G52.2.1 (F a 1)) 0) 2).length : Nat) : Int) ∧ mw (G56.2.1 (F a 1)) 0 = mw (G52.2.1 (F a 1)) 0) := by simp only [(show G52.2.1 (F a 10) = G.2.1 (F a 10) from ((hF52.2.1 _ (xn1 (xne_k hk9999q hk9999m (by decide)) (xn1 (xne_k hk9999q hk9999n (by decide)) (xn1 (xne_k hk9999q hk9999o (by decide)) (xn1 (xne_k hk9999q hk9999p (by decide)) (xn1 (xne_k hk9999q hk9999c (by decide)) xn0)))))).trans ((hF46.2.1 _ (xn1 (xne_k hk9999q hk9999k (by decide)) (xn1 (xne_k hk9999q hk9999l (by decide)) xn0))).trans ((hF6.2.1 _ xn0).trans (ld_c hG2))))), (show G52.1 a 6 = G.1 a 6 from ((hF52.1 _ _ xn0).trans ((hF46.1 _ _ xn0).trans ((hF6.1 _ _ (xnj (by decide) (xnj (by decide) (xnj (by decide) xn0)))).trans (ld_j hG2 (by decide)))))), (show G52.2.1 (F a 4) = G46.2.1 (F a 4) from (hF52.2.1 _ (xn1 (xne_k hk9999k hk9999m (by decide)) (xn1 (xne_k hk9999k hk9999n (by decide)) (xn1 (xne_k hk9999k hk9999o (by decide)) (xn1 (xne_k hk9999k hk9999p (by decide)) (xn1 (xne_k hk9999k hk9999c (by decide)) xn0)))))))] at oq56; exact oq56
        exact x_ri hx hb hr hlk hQ (Nat.le_of_ble_eq_true rfl) (Nat.le_of_ble_eq_true rfl) hS dX11_cut_59 G56 ⟨_, rfl, (XFr.call (XFr.call (XFr.call (XFr.call (by rw [hG2]; exact XFr.dput XFr.rf (List.mem_of_getElem? (i := 9) rfl)) hF6 (xm1 2 rfl (xm1 3 rfl (xm1 4 rfl xm0))) xm0 xm0) hF46 xm0 (xm1 11 rfl (xm1 12 rfl xm0)) xm0) hF52 xm0 (xm1 13 rfl (xm1 14 rfl (xm1 15 rfl (xm1 16 rfl (xm1 3 rfl xm0))))) xm0) hF56 (xm1 0 rfl (xm1 1 rfl (xm1 2 rfl (xm1 3 rfl (xm1 4 rfl (xm1 5 rfl (xm1 6 rfl (xm1 7 rfl (xm1 8 rfl xm0))))))))) (xm1 0 rfl (xm1 1 rfl (xm1 2 rfl (xm1 3 rfl (xm1 4 rfl (xm1 5 rfl (xm1 6 rfl (xm1 7 rfl (xm1 8 rfl (xm1 9 rfl (xm1 10 rfl xm0))))))))))) xm0), (t56), (v_X11_cut_59_13 (F := F) G46 a G G52 p0 p1 x56 G56 x32 oq46 oq52 oq56 z29 z29a t32 c35), (v_X11_cut_59_14 (F := F) a G56 oq56a)⟩ hT
      · refine lv_aload_n hx hb dX11_cut_38 rfl (lv_at hl 0 rfl) ?_
        refine lv_bipush (v := (-2)) hx hb dX11_cut_39 (by decide) ?_
        refine x_cl0 (x_runV (b := a) (As := [.int (-2)]) (rest := []) S (c_X11_refuses l E K F G6 a (-2) ha) mv_X11_refuses km_X11_325 rfl rfl ⟨Nat.le_of_ble_eq_true rfl, Nat.le_of_ble_eq_true rfl⟩ (rc_13 hK hT ha) hK (fun _ => XP.blind) (fun U hU hW => XP.at hK hz hS hT hU hW) rfl hl.1 (Nat.le_of_ble_eq_true rfl) dX11_cut_41 ⟨Nat.le_of_ble_eq_true rfl, Nat.le_of_ble_eq_true rfl⟩) hS ?_
        rintro _ G41 H locs ⟨x41, rfl, hF41, t41⟩ hT hS
        have t41 : x41.toInt = (-2 : Int) := by rw [((by decide) : Int32.toInt (-2) = (-2 : Int))] at t41; exact t41
        exact x_ri hx hb hr hlk hQ (Nat.le_of_ble_eq_true rfl) (Nat.le_of_ble_eq_true rfl) hS dX11_cut_44 G41 ⟨_, rfl, (XFr.call (XFr.call (by rw [hG2]; exact XFr.dput XFr.rf (List.mem_of_getElem? (i := 9) rfl)) hF6 (xm1 2 rfl (xm1 3 rfl (xm1 4 rfl xm0))) xm0 xm0) hF41 xm0 (xm1 4 rfl xm0) xm0), (by rw [(show (G41.1 a 23).toInt = ((G6.1 a 23).toInt) from (congrArg Int32.toInt (hF41.1 _ _ xn0)).trans (rfl : Int32.toInt (G6.1 a 23) = ((G6.1 a 23).toInt))), (show (G41.1 a 43).toInt = ((G.1 a 43).toInt) from (congrArg Int32.toInt ((hF41.1 _ _ xn0).trans ((hF6.1 _ _ (xnj (by decide) (xnj (by decide) (xnj (by decide) xn0)))).trans (ld_j hG2 (by decide))))).trans (rfl : Int32.toInt (G.1 a 43) = ((G.1 a 43).toInt)))] <;> exact (z_X11_cut_1 ((G.1 a 43).toInt) ((G6.1 a 20).toInt) ((G6.1 a 21).toInt) ((G6.1 a 23).toInt) am t6)), (by rw [(t41 : Int32.toInt x41 = (-2 : Int))] <;> exact (v_X11_cut_44_15 (F := F) p0 p1 x32 G a G41 z29 z29a t32 c35 ((hF41.2.1 _ (xn1 (xne_k hk9999c hk9999d (by decide)) xn0)).trans ((hF6.2.1 _ xn0).trans (ld_c hG2))))), (v_X11_cut_44_16 (F := F) a G G41 hM ((hF41.2.1 _ (xn1 (xne_k hk9999c hk9999d (by decide)) xn0)).trans ((hF6.2.1 _ xn0).trans (ld_c hG2))))⟩ hT
    · refine lv_aload_n hx hb dX11_cut_23 rfl (lv_at hl 0 rfl) ?_
      refine lv_iconst (v := (-1)) hx hb dX11_cut_24 (by decide) ?_
      refine x_cl0 (x_runV (b := a) (As := [.int (-1)]) (rest := []) S (c_X11_refuses l E K F G6 a (-1) ha) mv_X11_refuses km_X11_325 rfl rfl ⟨Nat.le_of_ble_eq_true rfl, Nat.le_of_ble_eq_true rfl⟩ (rc_13 hK hT ha) hK (fun _ => XP.blind) (fun U hU hW => XP.at hK hz hS hT hU hW) rfl hl.1 (Nat.le_of_ble_eq_true rfl) dX11_cut_25 ⟨Nat.le_of_ble_eq_true rfl, Nat.le_of_ble_eq_true rfl⟩) hS ?_
      rintro _ G25 H locs ⟨x25, rfl, hF25, t25⟩ hT hS
      have t25 : x25.toInt = (-1 : Int) := by rw [((by decide) : Int32.toInt (-1) = (-1 : Int))] at t25; exact t25
      exact x_ri hx hb hr hlk hQ (Nat.le_of_ble_eq_true rfl) (Nat.le_of_ble_eq_true rfl) hS dX11_cut_28 G25 ⟨_, rfl, (XFr.call (XFr.call (by rw [hG2]; exact XFr.dput XFr.rf (List.mem_of_getElem? (i := 9) rfl)) hF6 (xm1 2 rfl (xm1 3 rfl (xm1 4 rfl xm0))) xm0 xm0) hF25 xm0 (xm1 4 rfl xm0) xm0), (by rw [(show (G25.1 a 23).toInt = ((G6.1 a 23).toInt) from (congrArg Int32.toInt (hF25.1 _ _ xn0)).trans (rfl : Int32.toInt (G6.1 a 23) = ((G6.1 a 23).toInt))), (show (G25.1 a 43).toInt = ((G.1 a 43).toInt) from (congrArg Int32.toInt ((hF25.1 _ _ xn0).trans ((hF6.1 _ _ (xnj (by decide) (xnj (by decide) (xnj (by decide) xn0)))).trans (ld_j hG2 (by decide))))).trans (rfl : Int32.toInt (G.1 a 43) = ((G.1 a 43).toInt)))] <;> exact (z_X11_cut_1 ((G.1 a 43).toInt) ((G6.1 a 20).toInt) ((G6.1 a 21).toInt) ((G6.1 a 23).toInt) am t6)), (by rw [(t25 : Int32.toInt x25 = (-1 : Int))] <;> exact (v_X11_cut_28_17 (F := F) x17 p1 G25 a G p0 t17 c20 ((hF25.2.1 _ (xn1 (xne_k hk9999c hk9999d (by decide)) xn0)).trans ((hF6.2.1 _ xn0).trans (ld_c hG2))))), (v_X11_cut_28_18 (F := F) a G G25 hM ((hF25.2.1 _ (xn1 (xne_k hk9999c hk9999d (by decide)) xn0)).trans ((hF6.2.1 _ xn0).trans (ld_c hG2))))⟩ hT
section
/-! the rules that rows follow, as the class has them -/
def clsA (G : XG) (b : Nat → Option Nat) (r t : Int) : Int := match b r.toNat with
  | none => 0
  | some q => if 0 ≤ r ∧ r < 12 ∧ (G.1 q 0).toInt = 1 ∧ (G.1 q 4).toInt = t then (G.1 q 7).toInt else 0
def clsT (G : XG) (b : Nat → Option Nat) (r : Int) : Int := match b r.toNat with
  | none => 0
  | some q => if 0 ≤ r ∧ r < 12 ∧ (G.1 q 0).toInt = 1 then (G.1 q 2).toInt else 0
def clsC (G : XG) (b : Nat → Option Nat) (r : Int) : Int := match b r.toNat with
  | none => 0
  | some q => if 0 ≤ r ∧ r < 12 ∧ (G.1 q 0).toInt = 1 then (G.1 q 3).toInt else 0
theorem clsA_n {G : XG} {b : Nat → Option Nat} {r t : Int} (h : b r.toNat = none) : clsA G b r t = 0 := by unfold clsA; rw [h]
theorem clsA_s {G : XG} {b : Nat → Option Nat} {r t : Int} {q : Nat} (h : b r.toNat = some q) : clsA G b r t = if 0 ≤ r ∧ r < 12 ∧ (G.1 q 0).toInt = 1 ∧ (G.1 q 4).toInt = t then (G.1 q 7).toInt else 0 := by unfold clsA; rw [h]
theorem clsT_s {G : XG} {b : Nat → Option Nat} {r : Int} {q : Nat} (h : b r.toNat = some q) (h0 : 0 ≤ r ∧ r < 12 ∧ (G.1 q 0).toInt = 1) : clsT G b r = (G.1 q 2).toInt ∧ clsC G b r = (G.1 q 3).toInt := by
  unfold clsT clsC
  rw [h]
  exact ⟨if_pos h0, if_pos h0⟩
/-- what a rule has its rows do is 0, 1 or 2 -/
def ACo (G : XG) (b : Nat → Option Nat) : Prop := ∀ (i q : Nat), i < 12 → b i = some q → 0 ≤ (G.1 q 7).toInt ∧ (G.1 q 7).toInt ≤ 2
theorem clsA_f {G : XG} {b : Nat → Option Nat} {r t : Int} (h : 0 < clsA G b r t) : (0 ≤ r ∧ r < 12) ∧ ∃ q, b r.toNat = some q ∧ (G.1 q 0).toInt = 1 ∧ (G.1 q 4).toInt = t ∧ clsA G b r t = (G.1 q 7).toInt ∧ clsT G b r = (G.1 q 2).toInt ∧ clsC G b r = (G.1 q 3).toInt := by
  cases hb : b r.toNat with
  | none => rw [clsA_n hb] at h; exact absurd h (by decide)
  | some q =>
    have e := clsA_s (G := G) (t := t) hb
    by_cases g : 0 ≤ r ∧ r < 12 ∧ (G.1 q 0).toInt = 1 ∧ (G.1 q 4).toInt = t
    · rw [if_pos g] at e
      have e2 := clsT_s (G := G) hb ⟨g.1, g.2.1, g.2.2.1⟩
      exact ⟨⟨g.1, g.2.1⟩, q, rfl, g.2.2.1, g.2.2.2, e, e2.1, e2.2⟩
    · rw [if_neg g] at e
      omega
theorem clsTo {K : Nat → Nat} {G : XG} {b : Nat → Option Nat} (h : BKr K G b) : CTo (clsA G b) (clsT G b) (clsC G b) := by
  intro r t ha
  obtain ⟨h1, q, h2, -, -, -, h3, h4⟩ := clsA_f ha
  have h5 := (h r.toNat q (by omega) h2).2.f
  rw [h3, h4]
  omega
theorem cls_cg {G u : XG} {b : Nat → Option Nat} (h : ∀ (i q : Nat), i < 12 → b i = some q → u.1 q = G.1 q) : clsA u b = clsA G b ∧ clsT u b = clsT G b ∧ clsC u b = clsC G b := by
  refine ⟨funext (fun r => funext (fun t => ?_)), funext (fun r => ?_), funext (fun r => ?_)⟩
  · unfold clsA
    cases hb : b r.toNat with
    | none => rfl
    | some q =>
      simp only
      by_cases g : 0 ≤ r ∧ r < 12
      · rw [h _ q (by omega) hb]
      · rw [if_neg (fun x => g ⟨x.1, x.2.1⟩), if_neg (fun x => g ⟨x.1, x.2.1⟩)]
  · unfold clsT
    cases hb : b r.toNat with
    | none => rfl
    | some q =>
      simp only
      by_cases g : 0 ≤ r ∧ r < 12
      · rw [h _ q (by omega) hb]
      · rw [if_neg (fun x => g ⟨x.1, x.2.1⟩), if_neg (fun x => g ⟨x.1, x.2.1⟩)]
  · unfold clsC
    cases hb : b r.toNat with
    | none => rfl
    | some q =>
      simp only
      by_cases g : 0 ≤ r ∧ r < 12
      · rw [h _ q (by omega) hb]
      · rw [if_neg (fun x => g ⟨x.1, x.2.1⟩), if_neg (fun x => g ⟨x.1, x.2.1⟩)]
theorem ACo.cg {G u : XG} {b : Nat → Option Nat} (h0 : ACo G b) (h : ∀ (i q : Nat), i < 12 → b i = some q → u.1 q = G.1 q) : ACo u b := fun i q hi hq => by rw [h i q hi hq]; exact h0 i q hi hq
theorem BKr.cg {K : Nat → Nat} {G u : XG} {b : Nat → Option Nat} (h0 : BKr K G b) (h : ∀ (i q : Nat), i < 12 → b i = some q → u.1 q = G.1 q) : BKr K u b := fun i q hi hq => ⟨(h0 i q hi hq).1, by rw [h i q hi hq]; exact (h0 i q hi hq).2⟩
/-- a rule with clear is looked at from its first key on -/
def CZ (A : Int → Int → Int) (s : List CFr) : Prop := ∀ x, x ∈ s → A x.2.2.1 x.1 = 2 → x.2.2.2 = 0
theorem CZ.cons {A : Int → Int → Int} {s : List CFr} {t k r n : Int} (h : CZ A s) (h1 : A r t = 2 → n = 0) : CZ A ((t, k, r, n) :: s) := fun x hx => (List.mem_cons.mp hx).elim (fun e => by rw [e]; exact h1) (h x)
theorem CZ.tl {A : Int → Int → Int} {s : List CFr} {y : CFr} (h : CZ A (y :: s)) : CZ A s := fun x hx => h x (List.mem_cons_of_mem _ hx)
def cnv (S : CSt) : Int := 14 * pn S.2 + cnu S.1
theorem cnv_b {S : CSt} (h : CIv S) : 0 ≤ cnv S ∧ (S.1 ≠ [] → 1 ≤ cnv S) := by
  have h1 := cnu_b h.1
  have h2 := pn_b S.2
  unfold cnv
  exact ⟨by omega, fun q => by have := h1.2 q; omega⟩
/-- what one step of the class keeps -/
def CGo (A : Int → Int → Int) (T C : Int → Int) (S S2 : CSt) : Prop := CIv S2 ∧ CZ A S2.1 ∧ cfin A T C S2 = cfin A T C S ∧ cnv S2 = cnv S - 1
section CGO
variable {A : Int → Int → Int} {T C : Int → Int} {t k r n : Int} {s : List CFr} {v : Int → Int}
theorem cnv_c : cnv ((t, k, r, n) :: s, v) = 14 * pn v + (13 - r + cnu s) := rfl
theorem cgo_pop (hT : CTo A T C) (h : CIv ((t, k, r, n) :: s, v)) (hz : CZ A ((t, k, r, n) :: s)) (hr : r = 12) : CGo A T C ((t, k, r, n) :: s, v) (s, v) := by
  obtain ⟨h1, h2⟩ := cm_st hT h (cst_pop (A := A) (T := T) (C := C) hr)
  refine ⟨h1, hz.tl, h2, ?_⟩
  show 14 * pn v + cnu s = 14 * pn v + (13 - r + cnu s) - 1
  omega
theorem cgo_nx (hT : CTo A T C) (h : CIv ((t, k, r, n) :: s, v)) (hz : CZ A ((t, k, r, n) :: s)) (hr : r ≠ 12) (ha : ¬ (0 < A r t)) : CGo A T C ((t, k, r, n) :: s, v) ((t, k, r + 1, 0) :: s, v) := by
  obtain ⟨h1, h2⟩ := cm_st hT h (cst_nx (A := A) (T := T) (C := C) hr (Or.inr ha))
  refine ⟨h1, hz.tl.cons (fun _ => rfl), h2, ?_⟩
  show 14 * pn v + (13 - (r + 1) + cnu s) = 14 * pn v + (13 - r + cnu s) - 1
  omega
theorem cgo_cl (hT : CTo A T C) (h : CIv ((t, k, r, n) :: s, v)) (hz : CZ A ((t, k, r, n) :: s)) (hr : r ≠ 12) (ha : A r t = 2) : CGo A T C ((t, k, r, n) :: s, v) ((t, k, r + 1, 0) :: s, repl v (T r) (C r) k (-1000) 30) := by
  have n0 : n = 0 := hz _ List.mem_cons_self ha
  subst n0
  obtain ⟨h1, h2, h3⟩ := cm_clr hT hr ha h
  refine ⟨h1, hz.tl.cons (fun _ => rfl), h2, ?_⟩
  show 14 * pn (repl v (T r) (C r) k (-1000) 30) + (13 - (r + 1) + cnu s) = 14 * pn v + (13 - r + cnu s) - 1
  rw [h3]
  omega
theorem cgo_no (hT : CTo A T C) (h : CIv ((t, k, r, n) :: s, v)) (hz : CZ A ((t, k, r, n) :: s)) (hr : r ≠ 12) (ha : 0 < A r t) (hk : ∀ j : Int, n ≤ j → j < 30 → cel v (T r) j (C r) ≠ k) : CGo A T C ((t, k, r, n) :: s, v) ((t, k, r + 1, 0) :: s, v) := by
  have h0 := (h.1 (t, k, r, n) List.mem_cons_self).2.2.2
  simp only at h0
  obtain ⟨g1, g2⟩ := cm_sk hT hr ha h (m := 30) (by omega) hk
  obtain ⟨h1, h2⟩ := cm_st hT g1 (cst_nx (A := A) (T := T) (C := C) hr (Or.inl rfl))
  refine ⟨h1, hz.tl.cons (fun _ => rfl), h2.trans g2, ?_⟩
  show 14 * pn v + (13 - (r + 1) + cnu s) = 14 * pn v + (13 - r + cnu s) - 1
  omega
theorem cgo_go (hT : CTo A T C) (h : CIv ((t, k, r, n) :: s, v)) (hz : CZ A ((t, k, r, n) :: s)) (hr : r ≠ 12) (ha : 0 < A r t) (ha2 : A r t ≠ 2) {j : Int} (hj : n ≤ j ∧ j < 30) (hk : ∀ i : Int, n ≤ i → i < j → cel v (T r) i (C r) ≠ k) (he : cel v (T r) j (C r) = k) : CGo A T C ((t, k, r, n) :: s, v) ((T r, j, 0, 0) :: (t, k, r, j + 1) :: s, rfil v (T r) j (-2000) 3) := by
  obtain ⟨g1, g2⟩ := cm_sk hT hr ha h (m := j) (by omega) hk
  obtain ⟨h1, h2⟩ := cm_st hT g1 (cst_go (A := A) (T := T) (C := C) hr (by omega) ha ha2 he)
  refine ⟨h1, (hz.tl.cons (fun q => absurd q ha2)).cons (fun _ => rfl), h2.trans g2, ?_⟩
  have h0 := h.1 (t, k, r, n) List.mem_cons_self
  have tt := hT r t ha
  have h3 : RC v := h.2.2
  have h4 := h0.2.1
  have h5 := h0.2.2.2
  simp only at h4 h5
  have hin : 0 ≤ T r ∧ T r < 3 ∧ 0 ≤ j ∧ j < 30 ∧ 0 ≤ C r ∧ C r < 3 := by omega
  rw [cel_in hin] at he
  have hp : v (90 * T r + j) ≠ -2000 := fun q => by
    have := (h3 (T r) j (C r) hin.1 hin.2.1 hin.2.2.1 hin.2.2.2.1 hin.2.2.2.2.1 hin.2.2.2.2.2).mpr q
    omega
  have e2 := (h3.cut (t := T r) (k := j) (by omega) hp).2
  show 14 * pn (rfil v (T r) j (-2000) 3) + (13 - 0 + (13 - r + cnu s)) = 14 * pn v + (13 - r + cnu s) - 1
  rw [e2]
  omega
end CGO
theorem RO.rc {r b : Int → Int} (h : RO r b) : RC r := fun t k c a1 a2 a3 a4 a5 a6 => (h.1 t k a1 a2 a3 a4).2 c a5 a6
/-! a row under another key, and those that refer to it -/
def mvR (A : Int → Int → Int) (T C : Int → Int) (t key to : Int) (v : Int → Int) : Nat → (Int → Int)
  | 0 => v
  | n + 1 => if 0 < A n t then repl (mvR A T C t key to v n) (T n) (C n) key (if A n t = 1 then to else -1000) 30 else mvR A T C t key to v n
theorem mvR_s {A : Int → Int → Int} {T C : Int → Int} {t key to n : Int} {v : Int → Int} (h : 0 ≤ n) : mvR A T C t key to v (n + 1).toNat = if 0 < A n t then repl (mvR A T C t key to v n.toNat) (T n) (C n) key (if A n t = 1 then to else -1000) 30 else mvR A T C t key to v n.toNat := by
  have e : (n + 1).toNat = n.toNat + 1 := by omega
  have e2 : ((n.toNat : Nat) : Int) = n := by omega
  rw [e]
  show (if 0 < A (n.toNat : Int) t then repl (mvR A T C t key to v n.toNat) (T (n.toNat : Int)) (C (n.toNat : Int)) key (if A (n.toNat : Int) t = 1 then to else -1000) 30 else mvR A T C t key to v n.toNat) = _
  rw [e2]
theorem toNat_lt12 {z : Int} (h : 0 ≤ z ∧ z < 12) : z.toNat < 12 := by omega
end
theorem v_X2_replace_49_1 {K : Nat → Nat} {F : Nat → Nat → Nat} (p0 : Nat) (p1 : Nat) (G : XG) (G_3 : XG) (p2 : Int32) (p3 : Int32) (l4_3 : Int32) (N3 : Nat)
    (hp0 : K p0 = 8)
    (hp1 : K p1 = 9)
    (rp : (vw (G_3.2.1 (F p0 0))) = repl (vw (G.2.1 (F p0 0))) ((G.1 p1 2).toInt) ((G.1 p1 3).toInt) p2.toInt p3.toInt (l4_3.toInt))
    (e0 : 0 ≤ p2.toInt ∧ p2.toInt < 30)
    (e1 : p3.toInt = -1000 ∨ (-99 ≤ p3.toInt ∧ p3.toInt ≤ 99))
    (z0 : (0 ≤ ((G.1 p1 2).toInt) ∧ ((G.1 p1 2).toInt) ≤ 2) ∧ (0 ≤ ((G.1 p1 3).toInt) ∧ ((G.1 p1 3).toInt) ≤ 2))
    (I3_0 : 0 ≤ l4_3.toInt ∧ l4_3.toInt ≤ 30)
    (I3_1 : (0 : Int) ≤ l4_3.toInt)
    (hm3 : 2147483648 - l4_3.toInt < (((N3) + 1 : Nat) : Int))
    (c7 : (30 : Int) ≤ l4_3.toInt) :
    (vw (G_3.2.1 (F p0 0))) = repl (vw (G.2.1 (F p0 0))) ((G.1 p1 2).toInt) ((G.1 p1 3).toInt) p2.toInt p3.toInt 30 := by
  rw [rp, show l4_3.toInt = 30 from by omega]
theorem v_X2_replace_49_2 {F : Nat → Nat → Nat} (p0 : Nat) (G_3 : XG)
    (ro : RO (vw (G_3.2.1 (F p0 0))) (aI (G_3.2.1 (F p0 1)))) :
    RO (vw (G_3.2.1 (F p0 0))) (aI (G_3.2.1 (F p0 1))) := by
  exact ro
theorem v_X2_replace_46_3 {K : Nat → Nat} {F : Nat → Nat → Nat} (p0 : Nat) (p1 : Nat) (G : XG) (G_3 : XG) (p2 : Int32) (p3 : Int32) (l4_3 : Int32) (N3 : Nat)
    (hp0 : K p0 = 8)
    (hp1 : K p1 = 9)
    (rp : (vw (G_3.2.1 (F p0 0))) = repl (vw (G.2.1 (F p0 0))) ((G.1 p1 2).toInt) ((G.1 p1 3).toInt) p2.toInt p3.toInt (l4_3.toInt))
    (ro : RO (vw (G_3.2.1 (F p0 0))) (aI (G_3.2.1 (F p0 1))))
    (e0 : 0 ≤ p2.toInt ∧ p2.toInt < 30)
    (e1 : p3.toInt = -1000 ∨ (-99 ≤ p3.toInt ∧ p3.toInt ≤ 99))
    (z0 : (0 ≤ ((G.1 p1 2).toInt) ∧ ((G.1 p1 2).toInt) ≤ 2) ∧ (0 ≤ ((G.1 p1 3).toInt) ∧ ((G.1 p1 3).toInt) ≤ 2))
    (I3_0 : 0 ≤ l4_3.toInt ∧ l4_3.toInt ≤ 30)
    (I3_1 : (0 : Int) ≤ l4_3.toInt)
    (hm3 : 2147483648 - l4_3.toInt < (((N3) + 1 : Nat) : Int))
    (c7 : ¬ ((30 : Int) ≤ l4_3.toInt))
    (c25 : (cel (vw (G_3.2.1 (F p0 0))) ((G.1 p1 2).toInt) (l4_3.toInt) ((G.1 p1 3).toInt)) ≠ p2.toInt) :
    (vw (G_3.2.1 (F p0 0))) = repl (vw (G.2.1 (F p0 0))) ((G.1 p1 2).toInt) ((G.1 p1 3).toInt) p2.toInt p3.toInt (l4_3.toInt + 1) := by
  have ec : cel (vw (G_3.2.1 (F p0 0))) ((G.1 p1 2).toInt) (l4_3.toInt) ((G.1 p1 3).toInt) = vw (G.2.1 (F p0 0)) (90 * (G.1 p1 2).toInt + 30 * (G.1 p1 3).toInt + l4_3.toInt) := by
    rw [rp, cel_in (by omega), repl_at (Int.le_refl _)]
  have ab := ro.absent ((G.1 p1 2).toInt) (l4_3.toInt) ((G.1 p1 3).toInt) (by omega)
  first
    | (rw [repl_2 (by omega)]; exact rp)
    | (rw [oq40, if_pos (by omega), rp, repl_1 (by omega) (by omega)])
theorem v_X2_replace_46_4 {F : Nat → Nat → Nat} (p0 : Nat) (G_3 : XG)
    (ro : RO (vw (G_3.2.1 (F p0 0))) (aI (G_3.2.1 (F p0 1)))) :
    RO (vw (G_3.2.1 (F p0 0))) (aI (G_3.2.1 (F p0 1))) := by
  first
    | exact ro
    | (rw [← c_G40_F_p0_1]; exact oq40a)
theorem v_X2_replace_40_5 {F : Nat → Nat → Nat} (p0 : Nat) (G_3 : XG)
    (ro : RO (vw (G_3.2.1 (F p0 0))) (aI (G_3.2.1 (F p0 1)))) :
    RO (vw (G_3.2.1 (F p0 0))) (aI (G_3.2.1 (F p0 1))) := by exact ro
theorem v_X2_replace_46_6 {K : Nat → Nat} {F : Nat → Nat → Nat} (p0 : Nat) (p1 : Nat) (G : XG) (G_3 : XG) (G40 : XG) (p2 : Int32) (p3 : Int32) (l4_3 : Int32) (N3 : Nat)
    (hp0 : K p0 = 8)
    (hp1 : K p1 = 9)
    (rp : (vw (G_3.2.1 (F p0 0))) = repl (vw (G.2.1 (F p0 0))) ((G.1 p1 2).toInt) ((G.1 p1 3).toInt) p2.toInt p3.toInt (l4_3.toInt))
    (ro : RO (vw (G_3.2.1 (F p0 0))) (aI (G_3.2.1 (F p0 1))))
    (oq40 : (vw (G40.2.1 (F p0 0))) = if cel (vw (G_3.2.1 (F p0 0))) (((G.1 p1 2).toInt)) (l4_3.toInt) 0 ≠ -2000 then rset (vw (G_3.2.1 (F p0 0))) (90 * (((G.1 p1 2).toInt)) + 30 * (((G.1 p1 3).toInt)) + (l4_3.toInt)) (p3.toInt) else (vw (G_3.2.1 (F p0 0))))
    (e0 : 0 ≤ p2.toInt ∧ p2.toInt < 30)
    (e1 : p3.toInt = -1000 ∨ (-99 ≤ p3.toInt ∧ p3.toInt ≤ 99))
    (z0 : (0 ≤ ((G.1 p1 2).toInt) ∧ ((G.1 p1 2).toInt) ≤ 2) ∧ (0 ≤ ((G.1 p1 3).toInt) ∧ ((G.1 p1 3).toInt) ≤ 2))
    (I3_0 : 0 ≤ l4_3.toInt ∧ l4_3.toInt ≤ 30)
    (I3_1 : (0 : Int) ≤ l4_3.toInt)
    (hm3 : 2147483648 - l4_3.toInt < (((N3) + 1 : Nat) : Int))
    (c7 : ¬ ((30 : Int) ≤ l4_3.toInt))
    (c25 : ¬ ((cel (vw (G_3.2.1 (F p0 0))) ((G.1 p1 2).toInt) (l4_3.toInt) ((G.1 p1 3).toInt)) ≠ p2.toInt)) :
    (vw (G40.2.1 (F p0 0))) = repl (vw (G.2.1 (F p0 0))) ((G.1 p1 2).toInt) ((G.1 p1 3).toInt) p2.toInt p3.toInt (l4_3.toInt + 1) := by
  have ec : cel (vw (G_3.2.1 (F p0 0))) ((G.1 p1 2).toInt) (l4_3.toInt) ((G.1 p1 3).toInt) = vw (G.2.1 (F p0 0)) (90 * (G.1 p1 2).toInt + 30 * (G.1 p1 3).toInt + l4_3.toInt) := by
    rw [rp, cel_in (by omega), repl_at (Int.le_refl _)]
  have ab := ro.absent ((G.1 p1 2).toInt) (l4_3.toInt) ((G.1 p1 3).toInt) (by omega)
  first
    | (rw [repl_2 (by omega)]; exact rp)
    | (rw [oq40, if_pos (by omega), rp, repl_1 (by omega) (by omega)])
theorem v_X2_replace_46_7 {F : Nat → Nat → Nat} (p0 : Nat) (G_3 : XG) (G40 : XG)
    (ro : RO (vw (G_3.2.1 (F p0 0))) (aI (G_3.2.1 (F p0 1))))
    (oq40a : RO (vw (G40.2.1 (F p0 0))) (aI (G40.2.1 (F p0 1))))
    (c_G40_F_p0_1 : G40.2.1 (F p0 1) = G_3.2.1 (F p0 1)) :
    RO (vw (G40.2.1 (F p0 0))) (aI (G_3.2.1 (F p0 1))) := by
  first
    | exact ro
    | (rw [← c_G40_F_p0_1]; exact oq40a)
theorem v_X2_replace_1_8 {F : Nat → Nat → Nat} (p0 : Nat) (p1 : Nat) (G : XG) (p2 : Int32) (p3 : Int32) :
    (vw (G.2.1 (F p0 0))) = repl (vw (G.2.1 (F p0 0))) ((G.1 p1 2).toInt) ((G.1 p1 3).toInt) p2.toInt p3.toInt (0 : Int) := by
  rw [repl_0]
theorem v_X2_replace_1_9 {F : Nat → Nat → Nat} (p0 : Nat) (G : XG)
    (hro : RO (vw (G.2.1 (F p0 0))) (aI (G.2.1 (F p0 1)))) :
    RO (vw (G.2.1 (F p0 0))) (aI (G.2.1 (F p0 1))) := by
  exact hro
theorem v_X2_nextWith_38_1 {K : Nat → Nat} {F : Nat → Nat → Nat} (p0 : Nat) (p1 : Nat) (G : XG) (p2 : Int32) (l4_3 : Int32) (p3 : Int32) (N3 : Nat)
    (hp0 : K p0 = 8)
    (hp1 : K p1 = 9)
    (pn : ∀ j : Int, p2.toInt ≤ j → j < l4_3.toInt → cel (vw (G.2.1 (F p0 0))) ((G.1 p1 2).toInt) j ((G.1 p1 3).toInt) ≠ p3.toInt)
    (e0 : 0 ≤ p2.toInt ∧ p2.toInt ≤ 30)
    (z0 : (0 ≤ ((G.1 p1 2).toInt) ∧ ((G.1 p1 2).toInt) ≤ 2) ∧ (0 ≤ ((G.1 p1 3).toInt) ∧ ((G.1 p1 3).toInt) ≤ 2))
    (I3_0 : p2.toInt ≤ l4_3.toInt ∧ l4_3.toInt ≤ 30)
    (hm3 : 2147483648 - l4_3.toInt < (((N3) + 1 : Nat) : Int))
    (c7 : (30 : Int) ≤ l4_3.toInt) :
    ((-1 : Int) = -1 ∧ ∀ j : Int, p2.toInt ≤ j → j < 30 → cel (vw (G.2.1 (F p0 0))) ((G.1 p1 2).toInt) j ((G.1 p1 3).toInt) ≠ p3.toInt) ∨ ((p2.toInt ≤ (-1 : Int) ∧ (-1 : Int) < 30) ∧ cel (vw (G.2.1 (F p0 0))) ((G.1 p1 2).toInt) (-1 : Int) ((G.1 p1 3).toInt) = p3.toInt ∧ ∀ j : Int, p2.toInt ≤ j → j < (-1 : Int) → cel (vw (G.2.1 (F p0 0))) ((G.1 p1 2).toInt) j ((G.1 p1 3).toInt) ≠ p3.toInt) := by
  exact Or.inl ⟨rfl, fun j h1 h2 => pn j h1 (by omega)⟩
theorem v_X2_nextWith_34_2 {K : Nat → Nat} {F : Nat → Nat → Nat} (p0 : Nat) (p1 : Nat) (G : XG) (p2 : Int32) (l4_3 : Int32) (p3 : Int32) (N3 : Nat)
    (hp0 : K p0 = 8)
    (hp1 : K p1 = 9)
    (pn : ∀ j : Int, p2.toInt ≤ j → j < l4_3.toInt → cel (vw (G.2.1 (F p0 0))) ((G.1 p1 2).toInt) j ((G.1 p1 3).toInt) ≠ p3.toInt)
    (e0 : 0 ≤ p2.toInt ∧ p2.toInt ≤ 30)
    (z0 : (0 ≤ ((G.1 p1 2).toInt) ∧ ((G.1 p1 2).toInt) ≤ 2) ∧ (0 ≤ ((G.1 p1 3).toInt) ∧ ((G.1 p1 3).toInt) ≤ 2))
    (I3_0 : p2.toInt ≤ l4_3.toInt ∧ l4_3.toInt ≤ 30)
    (hm3 : 2147483648 - l4_3.toInt < (((N3) + 1 : Nat) : Int))
    (c7 : ¬ ((30 : Int) ≤ l4_3.toInt))
    (c25 : (cel (vw (G.2.1 (F p0 0))) ((G.1 p1 2).toInt) (l4_3.toInt) ((G.1 p1 3).toInt)) ≠ p3.toInt) :
    ∀ j : Int, p2.toInt ≤ j → j < (l4_3.toInt + 1) → cel (vw (G.2.1 (F p0 0))) ((G.1 p1 2).toInt) j ((G.1 p1 3).toInt) ≠ p3.toInt := by
  intro j h1 h2
  by_cases e : j = l4_3.toInt
  · subst e; omega
  · exact pn j h1 (by omega)
theorem v_X2_nextWith_30_3 {K : Nat → Nat} {F : Nat → Nat → Nat} (p0 : Nat) (p1 : Nat) (G : XG) (p2 : Int32) (l4_3 : Int32) (p3 : Int32) (N3 : Nat)
    (hp0 : K p0 = 8)
    (hp1 : K p1 = 9)
    (pn : ∀ j : Int, p2.toInt ≤ j → j < l4_3.toInt → cel (vw (G.2.1 (F p0 0))) ((G.1 p1 2).toInt) j ((G.1 p1 3).toInt) ≠ p3.toInt)
    (e0 : 0 ≤ p2.toInt ∧ p2.toInt ≤ 30)
    (z0 : (0 ≤ ((G.1 p1 2).toInt) ∧ ((G.1 p1 2).toInt) ≤ 2) ∧ (0 ≤ ((G.1 p1 3).toInt) ∧ ((G.1 p1 3).toInt) ≤ 2))
    (I3_0 : p2.toInt ≤ l4_3.toInt ∧ l4_3.toInt ≤ 30)
    (hm3 : 2147483648 - l4_3.toInt < (((N3) + 1 : Nat) : Int))
    (c7 : ¬ ((30 : Int) ≤ l4_3.toInt))
    (c25 : ¬ ((cel (vw (G.2.1 (F p0 0))) ((G.1 p1 2).toInt) (l4_3.toInt) ((G.1 p1 3).toInt)) ≠ p3.toInt)) :
    (l4_3.toInt = -1 ∧ ∀ j : Int, p2.toInt ≤ j → j < 30 → cel (vw (G.2.1 (F p0 0))) ((G.1 p1 2).toInt) j ((G.1 p1 3).toInt) ≠ p3.toInt) ∨ ((p2.toInt ≤ l4_3.toInt ∧ l4_3.toInt < 30) ∧ cel (vw (G.2.1 (F p0 0))) ((G.1 p1 2).toInt) l4_3.toInt ((G.1 p1 3).toInt) = p3.toInt ∧ ∀ j : Int, p2.toInt ≤ j → j < l4_3.toInt → cel (vw (G.2.1 (F p0 0))) ((G.1 p1 2).toInt) j ((G.1 p1 3).toInt) ≠ p3.toInt) := by
  exact Or.inr ⟨by omega, by omega, pn⟩
theorem v_X2_nextWith_1_4 {K : Nat → Nat} {F : Nat → Nat → Nat} (p0 : Nat) (p1 : Nat) (G : XG) (p2 : Int32) (p3 : Int32)
    (hp0 : K p0 = 8)
    (hp1 : K p1 = 9)
    (e0 : 0 ≤ p2.toInt ∧ p2.toInt ≤ 30)
    (z0 : (0 ≤ ((G.1 p1 2).toInt) ∧ ((G.1 p1 2).toInt) ≤ 2) ∧ (0 ≤ ((G.1 p1 3).toInt) ∧ ((G.1 p1 3).toInt) ≤ 2)) :
    ∀ j : Int, p2.toInt ≤ j → j < p2.toInt → cel (vw (G.2.1 (F p0 0))) ((G.1 p1 2).toInt) j ((G.1 p1 3).toInt) ≠ p3.toInt := by
  intro j h1 h2; omega
theorem v_X2_descend_3_1 {F : Nat → Nat → Nat} (p0 : Nat) (G : XG)
    (hro : RO (vw (G.2.1 (F p0 0))) (aI (G.2.1 (F p0 1)))) :
    RO (vw (G.2.1 (F p0 0))) (aI (G.2.1 (F p0 1))) := by exact hro
theorem v_X2_descend_72_2 {K : Nat → Nat} {F : Nat → Nat → Nat} (a : Nat) (p0 : Nat) (G : XG) (G3 : XG) (p1 : Int32) (p2 : Int32)
    (ha : K a = 4)
    (hp0 : K p0 = 8)
    (e0 : 0 ≤ p1.toInt ∧ p1.toInt < 3 ∧ 0 ≤ p2.toInt ∧ p2.toInt < 30)
    (e1 : 0 ≤ ((G.1 a 4).toInt) ∧ ((G.1 a 4).toInt) < 90)
    (c10 : ((G.1 a 4).toInt) < 0)
    (c_G3_F_a_0 : G3.2.1 (F a 0) = G.2.1 (F a 0)) :
    ∀ z : Int, 0 ≤ z → aI (G3.2.1 (F a 0)) z = if z = ((G.1 a 4).toInt) then p1.toInt else aI (G.2.1 (F a 0)) z := by
  first | (exfalso; omega) | (rw [c_G69_F_a_0]; exact aI_pu hG31 c_G3_F_a_0 (by omega) rfl (by omega))
theorem v_X2_descend_72_3 {K : Nat → Nat} {F : Nat → Nat → Nat} (a : Nat) (p0 : Nat) (G : XG) (G3 : XG) (p1 : Int32) (p2 : Int32)
    (ha : K a = 4)
    (hp0 : K p0 = 8)
    (e0 : 0 ≤ p1.toInt ∧ p1.toInt < 3 ∧ 0 ≤ p2.toInt ∧ p2.toInt < 30)
    (e1 : 0 ≤ ((G.1 a 4).toInt) ∧ ((G.1 a 4).toInt) < 90)
    (c10 : ((G.1 a 4).toInt) < 0) :
    ∀ z : Int, 0 ≤ z → aI (G3.2.1 (F a 1)) z = if z = ((G.1 a 4).toInt) then p2.toInt else aI (G.2.1 (F a 1)) z := by
  first | (exfalso; omega) | (rw [c_G69_F_a_1]; exact aI_pu hG41 c_G31_F_a_1 (by omega) rfl (by omega))
theorem v_X2_descend_72_4 {K : Nat → Nat} {F : Nat → Nat → Nat} (a : Nat) (p0 : Nat) (G : XG) (G3 : XG) (p1 : Int32) (p2 : Int32)
    (ha : K a = 4)
    (hp0 : K p0 = 8)
    (e0 : 0 ≤ p1.toInt ∧ p1.toInt < 3 ∧ 0 ≤ p2.toInt ∧ p2.toInt < 30)
    (e1 : 0 ≤ ((G.1 a 4).toInt) ∧ ((G.1 a 4).toInt) < 90)
    (c10 : ((G.1 a 4).toInt) < 0) :
    ∀ z : Int, 0 ≤ z → aI (G3.2.1 (F a 2)) z = if z = ((G.1 a 4).toInt) then 0 else aI (G.2.1 (F a 2)) z := by
  first | (exfalso; omega) | (rw [c_G69_F_a_2]; exact aI_pu hG51 c_G41_F_a_2 (by omega) (show ((0 : Int32)).toInt = 0 from by decide) (by omega))
theorem v_X2_descend_72_5 {K : Nat → Nat} {F : Nat → Nat → Nat} (a : Nat) (p0 : Nat) (G : XG) (G3 : XG) (p1 : Int32) (p2 : Int32)
    (ha : K a = 4)
    (hp0 : K p0 = 8)
    (e0 : 0 ≤ p1.toInt ∧ p1.toInt < 3 ∧ 0 ≤ p2.toInt ∧ p2.toInt < 30)
    (e1 : 0 ≤ ((G.1 a 4).toInt) ∧ ((G.1 a 4).toInt) < 90)
    (c10 : ((G.1 a 4).toInt) < 0) :
    ∀ z : Int, 0 ≤ z → aI (G3.2.1 (F a 3)) z = if z = ((G.1 a 4).toInt) then 0 else aI (G.2.1 (F a 3)) z := by
  first | (exfalso; omega) | (rw [c_G69_F_a_3]; exact aI_pu hG61 c_G51_F_a_3 (by omega) (show ((0 : Int32)).toInt = 0 from by decide) (by omega))
theorem v_X2_descend_72_6 {K : Nat → Nat} {F : Nat → Nat → Nat} (a : Nat) (p0 : Nat) (G : XG) (G3 : XG) (p1 : Int32) (p2 : Int32)
    (ha : K a = 4)
    (hp0 : K p0 = 8)
    (oq3 : (vw (G3.2.1 (F p0 0))) = rfil (vw (G.2.1 (F p0 0))) (p1.toInt) (p2.toInt) (-2000) 3)
    (e0 : 0 ≤ p1.toInt ∧ p1.toInt < 3 ∧ 0 ≤ p2.toInt ∧ p2.toInt < 30)
    (e1 : 0 ≤ ((G.1 a 4).toInt) ∧ ((G.1 a 4).toInt) < 90)
    (c10 : ((G.1 a 4).toInt) < 0) :
    (vw (G3.2.1 (F p0 0))) = rfil (vw (G.2.1 (F p0 0))) p1.toInt p2.toInt (-2000) 3 := by
  first | (exfalso; omega) | (rw [c_G69_F_p0_0]; exact oq3)
theorem v_X2_descend_72_7 {K : Nat → Nat} {F : Nat → Nat → Nat} (a : Nat) (p0 : Nat) (G : XG) (G3 : XG) (p1 : Int32) (p2 : Int32)
    (ha : K a = 4)
    (hp0 : K p0 = 8)
    (oq3a : RO (vw (G3.2.1 (F p0 0))) (aI (G3.2.1 (F p0 1))))
    (e0 : 0 ≤ p1.toInt ∧ p1.toInt < 3 ∧ 0 ≤ p2.toInt ∧ p2.toInt < 30)
    (e1 : 0 ≤ ((G.1 a 4).toInt) ∧ ((G.1 a 4).toInt) < 90)
    (c10 : ((G.1 a 4).toInt) < 0) :
    RO (vw (G3.2.1 (F p0 0))) (aI (G3.2.1 (F p0 1))) := by
  first | (exfalso; omega) | (rw [c_G69_F_p0_0, c_G69_F_p0_1]; exact oq3a)
theorem v_X2_descend_72_8 {K : Nat → Nat} {F : Nat → Nat → Nat} (a : Nat) (p0 : Nat) (G : XG) (G3 : XG) (p1 : Int32) (p2 : Int32)
    (ha : K a = 4)
    (hp0 : K p0 = 8)
    (e0 : 0 ≤ p1.toInt ∧ p1.toInt < 3 ∧ 0 ≤ p2.toInt ∧ p2.toInt < 30)
    (e1 : 0 ≤ ((G.1 a 4).toInt) ∧ ((G.1 a 4).toInt) < 90)
    (c10 : ¬ (((G.1 a 4).toInt) < 0))
    (c19 : (90 : Int) ≤ ((G.1 a 4).toInt))
    (c_G3_F_a_0 : G3.2.1 (F a 0) = G.2.1 (F a 0)) :
    ∀ z : Int, 0 ≤ z → aI (G3.2.1 (F a 0)) z = if z = ((G.1 a 4).toInt) then p1.toInt else aI (G.2.1 (F a 0)) z := by
  first | (exfalso; omega) | (rw [c_G69_F_a_0]; exact aI_pu hG31 c_G3_F_a_0 (by omega) rfl (by omega))
theorem v_X2_descend_72_9 {K : Nat → Nat} {F : Nat → Nat → Nat} (a : Nat) (p0 : Nat) (G : XG) (G3 : XG) (p1 : Int32) (p2 : Int32)
    (ha : K a = 4)
    (hp0 : K p0 = 8)
    (e0 : 0 ≤ p1.toInt ∧ p1.toInt < 3 ∧ 0 ≤ p2.toInt ∧ p2.toInt < 30)
    (e1 : 0 ≤ ((G.1 a 4).toInt) ∧ ((G.1 a 4).toInt) < 90)
    (c10 : ¬ (((G.1 a 4).toInt) < 0))
    (c19 : (90 : Int) ≤ ((G.1 a 4).toInt)) :
    ∀ z : Int, 0 ≤ z → aI (G3.2.1 (F a 1)) z = if z = ((G.1 a 4).toInt) then p2.toInt else aI (G.2.1 (F a 1)) z := by
  first | (exfalso; omega) | (rw [c_G69_F_a_1]; exact aI_pu hG41 c_G31_F_a_1 (by omega) rfl (by omega))
theorem v_X2_descend_72_10 {K : Nat → Nat} {F : Nat → Nat → Nat} (a : Nat) (p0 : Nat) (G : XG) (G3 : XG) (p1 : Int32) (p2 : Int32)
    (ha : K a = 4)
    (hp0 : K p0 = 8)
    (e0 : 0 ≤ p1.toInt ∧ p1.toInt < 3 ∧ 0 ≤ p2.toInt ∧ p2.toInt < 30)
    (e1 : 0 ≤ ((G.1 a 4).toInt) ∧ ((G.1 a 4).toInt) < 90)
    (c10 : ¬ (((G.1 a 4).toInt) < 0))
    (c19 : (90 : Int) ≤ ((G.1 a 4).toInt)) :
    ∀ z : Int, 0 ≤ z → aI (G3.2.1 (F a 2)) z = if z = ((G.1 a 4).toInt) then 0 else aI (G.2.1 (F a 2)) z := by
  first | (exfalso; omega) | (rw [c_G69_F_a_2]; exact aI_pu hG51 c_G41_F_a_2 (by omega) (show ((0 : Int32)).toInt = 0 from by decide) (by omega))
theorem v_X2_descend_72_11 {K : Nat → Nat} {F : Nat → Nat → Nat} (a : Nat) (p0 : Nat) (G : XG) (G3 : XG) (p1 : Int32) (p2 : Int32)
    (ha : K a = 4)
    (hp0 : K p0 = 8)
    (e0 : 0 ≤ p1.toInt ∧ p1.toInt < 3 ∧ 0 ≤ p2.toInt ∧ p2.toInt < 30)
    (e1 : 0 ≤ ((G.1 a 4).toInt) ∧ ((G.1 a 4).toInt) < 90)
    (c10 : ¬ (((G.1 a 4).toInt) < 0))
    (c19 : (90 : Int) ≤ ((G.1 a 4).toInt)) :
    ∀ z : Int, 0 ≤ z → aI (G3.2.1 (F a 3)) z = if z = ((G.1 a 4).toInt) then 0 else aI (G.2.1 (F a 3)) z := by
  first | (exfalso; omega) | (rw [c_G69_F_a_3]; exact aI_pu hG61 c_G51_F_a_3 (by omega) (show ((0 : Int32)).toInt = 0 from by decide) (by omega))
theorem v_X2_descend_72_12 {K : Nat → Nat} {F : Nat → Nat → Nat} (a : Nat) (p0 : Nat) (G : XG) (G3 : XG) (p1 : Int32) (p2 : Int32)
    (ha : K a = 4)
    (hp0 : K p0 = 8)
    (oq3 : (vw (G3.2.1 (F p0 0))) = rfil (vw (G.2.1 (F p0 0))) (p1.toInt) (p2.toInt) (-2000) 3)
    (e0 : 0 ≤ p1.toInt ∧ p1.toInt < 3 ∧ 0 ≤ p2.toInt ∧ p2.toInt < 30)
    (e1 : 0 ≤ ((G.1 a 4).toInt) ∧ ((G.1 a 4).toInt) < 90)
    (c10 : ¬ (((G.1 a 4).toInt) < 0))
    (c19 : (90 : Int) ≤ ((G.1 a 4).toInt)) :
    (vw (G3.2.1 (F p0 0))) = rfil (vw (G.2.1 (F p0 0))) p1.toInt p2.toInt (-2000) 3 := by
  first | (exfalso; omega) | (rw [c_G69_F_p0_0]; exact oq3)
theorem v_X2_descend_72_13 {K : Nat → Nat} {F : Nat → Nat → Nat} (a : Nat) (p0 : Nat) (G : XG) (G3 : XG) (p1 : Int32) (p2 : Int32)
    (ha : K a = 4)
    (hp0 : K p0 = 8)
    (oq3a : RO (vw (G3.2.1 (F p0 0))) (aI (G3.2.1 (F p0 1))))
    (e0 : 0 ≤ p1.toInt ∧ p1.toInt < 3 ∧ 0 ≤ p2.toInt ∧ p2.toInt < 30)
    (e1 : 0 ≤ ((G.1 a 4).toInt) ∧ ((G.1 a 4).toInt) < 90)
    (c10 : ¬ (((G.1 a 4).toInt) < 0))
    (c19 : (90 : Int) ≤ ((G.1 a 4).toInt)) :
    RO (vw (G3.2.1 (F p0 0))) (aI (G3.2.1 (F p0 1))) := by
  first | (exfalso; omega) | (rw [c_G69_F_p0_0, c_G69_F_p0_1]; exact oq3a)
theorem v_X2_descend_72_14 {K : Nat → Nat} {F : Nat → Nat → Nat} (a : Nat) (p0 : Nat) (G : XG) (G3 : XG) (G31 : XG) (p1 : Int32) (p2 : Int32) (G69 : XG)
    (ha : K a = 4)
    (hp0 : K p0 = 8)
    (hG31 : G31 = cput G3 (F a 0) (G.1 a 4).toNatClampNeg p1)
    (e0 : 0 ≤ p1.toInt ∧ p1.toInt < 3 ∧ 0 ≤ p2.toInt ∧ p2.toInt < 30)
    (e1 : 0 ≤ ((G.1 a 4).toInt) ∧ ((G.1 a 4).toInt) < 90)
    (c10 : ¬ (((G.1 a 4).toInt) < 0))
    (c19 : ¬ ((90 : Int) ≤ ((G.1 a 4).toInt)))
    (c_G3_F_a_0 : G3.2.1 (F a 0) = G.2.1 (F a 0))
    (c_G69_F_a_0 : G69.2.1 (F a 0) = G31.2.1 (F a 0)) :
    ∀ z : Int, 0 ≤ z → aI (G69.2.1 (F a 0)) z = if z = ((G.1 a 4).toInt) then p1.toInt else aI (G.2.1 (F a 0)) z := by
  first | (exfalso; omega) | (rw [c_G69_F_a_0]; exact aI_pu hG31 c_G3_F_a_0 (by omega) rfl (by omega))
theorem v_X2_descend_72_15 {K : Nat → Nat} {F : Nat → Nat → Nat} (a : Nat) (p0 : Nat) (G : XG) (G31 : XG) (p1 : Int32) (G41 : XG) (p2 : Int32) (G69 : XG)
    (ha : K a = 4)
    (hp0 : K p0 = 8)
    (hG41 : G41 = cput G31 (F a 1) (G.1 a 4).toNatClampNeg p2)
    (e0 : 0 ≤ p1.toInt ∧ p1.toInt < 3 ∧ 0 ≤ p2.toInt ∧ p2.toInt < 30)
    (e1 : 0 ≤ ((G.1 a 4).toInt) ∧ ((G.1 a 4).toInt) < 90)
    (c10 : ¬ (((G.1 a 4).toInt) < 0))
    (c19 : ¬ ((90 : Int) ≤ ((G.1 a 4).toInt)))
    (c_G31_F_a_1 : G31.2.1 (F a 1) = G.2.1 (F a 1))
    (c_G69_F_a_1 : G69.2.1 (F a 1) = G41.2.1 (F a 1)) :
    ∀ z : Int, 0 ≤ z → aI (G69.2.1 (F a 1)) z = if z = ((G.1 a 4).toInt) then p2.toInt else aI (G.2.1 (F a 1)) z := by
  first | (exfalso; omega) | (rw [c_G69_F_a_1]; exact aI_pu hG41 c_G31_F_a_1 (by omega) rfl (by omega))
theorem v_X2_descend_72_16 {K : Nat → Nat} {F : Nat → Nat → Nat} (a : Nat) (p0 : Nat) (G : XG) (p1 : Int32) (G41 : XG) (p2 : Int32) (G51 : XG) (G69 : XG)
    (ha : K a = 4)
    (hp0 : K p0 = 8)
    (hG51 : G51 = cput G41 (F a 2) (G.1 a 4).toNatClampNeg 0)
    (e0 : 0 ≤ p1.toInt ∧ p1.toInt < 3 ∧ 0 ≤ p2.toInt ∧ p2.toInt < 30)
    (e1 : 0 ≤ ((G.1 a 4).toInt) ∧ ((G.1 a 4).toInt) < 90)
    (c10 : ¬ (((G.1 a 4).toInt) < 0))
    (c19 : ¬ ((90 : Int) ≤ ((G.1 a 4).toInt)))
    (c_G41_F_a_2 : G41.2.1 (F a 2) = G.2.1 (F a 2))
    (c_G69_F_a_2 : G69.2.1 (F a 2) = G51.2.1 (F a 2)) :
    ∀ z : Int, 0 ≤ z → aI (G69.2.1 (F a 2)) z = if z = ((G.1 a 4).toInt) then 0 else aI (G.2.1 (F a 2)) z := by
  first | (exfalso; omega) | (rw [c_G69_F_a_2]; exact aI_pu hG51 c_G41_F_a_2 (by omega) (show ((0 : Int32)).toInt = 0 from by decide) (by omega))
theorem v_X2_descend_72_17 {K : Nat → Nat} {F : Nat → Nat → Nat} (a : Nat) (p0 : Nat) (G : XG) (p1 : Int32) (p2 : Int32) (G51 : XG) (G61 : XG) (G69 : XG)
    (ha : K a = 4)
    (hp0 : K p0 = 8)
    (hG61 : G61 = cput G51 (F a 3) (G.1 a 4).toNatClampNeg 0)
    (e0 : 0 ≤ p1.toInt ∧ p1.toInt < 3 ∧ 0 ≤ p2.toInt ∧ p2.toInt < 30)
    (e1 : 0 ≤ ((G.1 a 4).toInt) ∧ ((G.1 a 4).toInt) < 90)
    (c10 : ¬ (((G.1 a 4).toInt) < 0))
    (c19 : ¬ ((90 : Int) ≤ ((G.1 a 4).toInt)))
    (c_G51_F_a_3 : G51.2.1 (F a 3) = G.2.1 (F a 3))
    (c_G69_F_a_3 : G69.2.1 (F a 3) = G61.2.1 (F a 3)) :
    ∀ z : Int, 0 ≤ z → aI (G69.2.1 (F a 3)) z = if z = ((G.1 a 4).toInt) then 0 else aI (G.2.1 (F a 3)) z := by
  first | (exfalso; omega) | (rw [c_G69_F_a_3]; exact aI_pu hG61 c_G51_F_a_3 (by omega) (show ((0 : Int32)).toInt = 0 from by decide) (by omega))
theorem v_X2_descend_72_18 {K : Nat → Nat} {F : Nat → Nat → Nat} (a : Nat) (p0 : Nat) (G : XG) (G3 : XG) (p1 : Int32) (p2 : Int32) (G69 : XG)
    (ha : K a = 4)
    (hp0 : K p0 = 8)
    (oq3 : (vw (G3.2.1 (F p0 0))) = rfil (vw (G.2.1 (F p0 0))) (p1.toInt) (p2.toInt) (-2000) 3)
    (e0 : 0 ≤ p1.toInt ∧ p1.toInt < 3 ∧ 0 ≤ p2.toInt ∧ p2.toInt < 30)
    (e1 : 0 ≤ ((G.1 a 4).toInt) ∧ ((G.1 a 4).toInt) < 90)
    (c10 : ¬ (((G.1 a 4).toInt) < 0))
    (c19 : ¬ ((90 : Int) ≤ ((G.1 a 4).toInt)))
    (c_G69_F_p0_0 : G69.2.1 (F p0 0) = G3.2.1 (F p0 0)) :
    (vw (G69.2.1 (F p0 0))) = rfil (vw (G.2.1 (F p0 0))) p1.toInt p2.toInt (-2000) 3 := by
  first | (exfalso; omega) | (rw [c_G69_F_p0_0]; exact oq3)
theorem v_X2_descend_72_19 {K : Nat → Nat} {F : Nat → Nat → Nat} (a : Nat) (p0 : Nat) (G : XG) (G3 : XG) (p1 : Int32) (p2 : Int32) (G69 : XG)
    (ha : K a = 4)
    (hp0 : K p0 = 8)
    (oq3a : RO (vw (G3.2.1 (F p0 0))) (aI (G3.2.1 (F p0 1))))
    (e0 : 0 ≤ p1.toInt ∧ p1.toInt < 3 ∧ 0 ≤ p2.toInt ∧ p2.toInt < 30)
    (e1 : 0 ≤ ((G.1 a 4).toInt) ∧ ((G.1 a 4).toInt) < 90)
    (c10 : ¬ (((G.1 a 4).toInt) < 0))
    (c19 : ¬ ((90 : Int) ≤ ((G.1 a 4).toInt)))
    (c_G69_F_p0_0 : G69.2.1 (F p0 0) = G3.2.1 (F p0 0))
    (c_G69_F_p0_1 : G69.2.1 (F p0 1) = G3.2.1 (F p0 1)) :
    RO (vw (G69.2.1 (F p0 0))) (aI (G69.2.1 (F p0 1))) := by
  first | (exfalso; omega) | (rw [c_G69_F_p0_0, c_G69_F_p0_1]; exact oq3a)
