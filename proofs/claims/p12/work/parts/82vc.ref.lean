theorem v_X11_leans_174_17 {F : Nat → Nat → Nat} (G173 : XG) (G_112 : XG) (a : Nat) (l6_102 : Int32)
    (hG173 : G173 = cput G_112 (F a 51) l6_102.toNatClampNeg 1)
    (I102_0 : 0 ≤ l6_102.toInt ∧ l6_102.toInt ≤ 90)
    (c106 : ¬ ((90 : Int) ≤ l6_102.toInt))
    (c126 : ¬ ((aI (G_112.2.1 (F a 51)) (l6_102.toInt)) ≠ 0)) :
    (czI (G173.2.1 (F a 51))) + 1 = (czI (G_112.2.1 (F a 51))) := by
  refine czI_set (i := l6_102.toInt.toNat) (by omega) ?_ ?_ ?_
  · have h9 : aI (G_112.2.1 (F a 51)) l6_102.toInt = 0 := by omega
    exact h9
  · rw [cput_j hG173]
    show (if l6_102.toInt.toNat = l6_102.toInt.toNat then (1 : Int32) else _).toInt ≠ 0
    rw [if_pos rfl]; decide
  · intro j hj
    rw [cput_j hG173]
    exact if_neg hj
theorem v_X11_leans_180_18 {K : Nat → Nat} {F : Nat → Nat → Nat} (a : Nat) (G : XG) (G_32 : XG) (G_91 : XG) (G_102 : XG) (G_112 : XG) (G173 : XG) (l6_102 : Int32) (l5_32 : Int32) (p0 : Int32) (p1 : Int32) (l5_112 : Int32) (l7_112 : Int32) (x160 : Int32) (x144 : Int32) (x149 : Int32) (x154 : Int32) (x159 : Int32) (x8 : Int32) (x18 : Int32) (p2 : Int32) (l4_32 : Int32) (N32 : Nat) (l5_91 : Int32) (N91 : Nat) (l5_102 : Int32) (N102 : Nat) (N112 : Nat)
    (ha : K a = 13)
    (hG173 : G173 = cput G_112 (F a 51) l6_102.toNatClampNeg 1)
    (lq : LQ (G.2.1 (F a 10)) (mw (G.2.1 (F a 1)) 0) p0.toInt p1.toInt (aI (G_112.2.1 (F a 51))))
    (lz : l5_112.toInt = 0 → LZ (G.2.1 (F a 10)) (mw (G.2.1 (F a 1)) 0) (aI (G_112.2.1 (F a 51))) l6_102.toInt l7_112.toInt)
    (oq160 : (x160.toInt = 1 ∧ lnM (G.2.1 (F a 10)) (mw (G.2.1 (F a 1)) 0) 12 x144.toInt x149.toInt x154.toInt x159.toInt) ∨ (x160.toInt = 0 ∧ ¬ lnM (G.2.1 (F a 10)) (mw (G.2.1 (F a 1)) 0) 12 x144.toInt x149.toInt x154.toInt x159.toInt))
    (z5 : ¬ (0 ≤ p0.toInt ∧ p0.toInt < 3 ∧ 0 ≤ p1.toInt ∧ p1.toInt < 30) → (cel (mw (G.2.1 (F a 1)) 0) (p0.toInt) (p1.toInt) 0) = -2000)
    (t8 : (x8.toInt = 1 ∧ (cel (mw (G.2.1 (F a 1)) 0) (p0.toInt) (p1.toInt) 0) ≠ -2000) ∨ (x8.toInt = 0 ∧ (cel (mw (G.2.1 (F a 1)) 0) (p0.toInt) (p1.toInt) 0) = -2000))
    (c11 : ¬ (x8.toInt = 0))
    (t18 : (x18.toInt = 1 ∧ (0 : Int) ≤ p2.toInt ∧ p2.toInt ≤ (1 : Int)) ∨ (x18.toInt = 0 ∧ (p2.toInt < (0 : Int) ∨ (1 : Int) < p2.toInt)))
    (c21 : x18.toInt ≠ 0)
    (z29 : (bsI (lnI (G.2.1 (F a 10)) (mw (G.2.1 (F a 1)) 0) p0.toInt p1.toInt) 0) = 0)
    (I32_0 : 0 ≤ l5_32.toInt ∧ l5_32.toInt ≤ 90)
    (I32_1 : l4_32.toInt = (bsI (lnI (G.2.1 (F a 10)) (mw (G.2.1 (F a 1)) 0) p0.toInt p1.toInt) (l5_32.toInt)))
    (I32_2 : 0 ≤ l4_32.toInt ∧ l4_32.toInt ≤ l5_32.toInt)
    (hm32 : 2147483648 - l5_32.toInt < (((N32) + 1 : Nat) : Int))
    (c36 : (90 : Int) ≤ l5_32.toInt)
    (z88 : 0 ≤ (czI (G_32.2.1 (F a 51))) ∧ (czI (G_32.2.1 (F a 51))) ≤ 90)
    (z88a : l5_32.toInt = 90 → (bsI (lnI (G.2.1 (F a 10)) (mw (G.2.1 (F a 1)) 0) p0.toInt p1.toInt) (l5_32.toInt)) = (bsI (lnI (G.2.1 (F a 10)) (mw (G.2.1 (F a 1)) 0) p0.toInt p1.toInt) 90))
    (I91_0 : (l5_91.toInt = 0 ∨ l5_91.toInt = 1))
    (I91_1 : 0 ≤ (czI (G_91.2.1 (F a 51))) ∧ (czI (G_91.2.1 (F a 51))) ≤ 90)
    (hm91 : 2 * (czI (G_91.2.1 (F a 51))) + l5_91.toInt < (((N91) + 1 : Nat) : Int))
    (c93 : ¬ (l5_91.toInt = 0))
    (I102_0 : 0 ≤ l6_102.toInt ∧ l6_102.toInt ≤ 90)
    (I102_1 : (l5_102.toInt = 0 ∨ l5_102.toInt = 1) ∧ (czI (G_102.2.1 (F a 51))) ≤ (czI (G_91.2.1 (F a 51))) ∧ (l5_102.toInt = 1 → (czI (G_102.2.1 (F a 51))) + 1 ≤ (czI (G_91.2.1 (F a 51)))))
    (hm102 : 100 - l6_102.toInt < (((N102) + 1 : Nat) : Int))
    (c106 : ¬ ((90 : Int) ≤ l6_102.toInt))
    (I112_0 : 0 ≤ l7_112.toInt ∧ l7_112.toInt ≤ 90)
    (I112_1 : (l5_112.toInt = 0 ∨ l5_112.toInt = 1) ∧ (czI (G_112.2.1 (F a 51))) ≤ (czI (G_91.2.1 (F a 51))) ∧ (l5_112.toInt = 1 → (czI (G_112.2.1 (F a 51))) + 1 ≤ (czI (G_91.2.1 (F a 51)))))
    (hm112 : 100 - l7_112.toInt < (((N112) + 1 : Nat) : Int))
    (c116 : ¬ ((90 : Int) ≤ l7_112.toInt))
    (f47 : (aI (G_112.2.1 (F a 51)) (l6_102.toInt)) = 0 ∨ (aI (G_112.2.1 (F a 51)) (l6_102.toInt)) = 1)
    (c126 : ¬ ((aI (G_112.2.1 (F a 51)) (l6_102.toInt)) ≠ 0))
    (f49 : (aI (G_112.2.1 (F a 51)) (l7_112.toInt)) = 0 ∨ (aI (G_112.2.1 (F a 51)) (l7_112.toInt)) = 1)
    (c136 : ¬ ((aI (G_112.2.1 (F a 51)) (l7_112.toInt)) = 0))
    (t144 : 0 ≤ l6_102.toInt → x144.toInt = l6_102.toInt / (30 : Int))
    (t149 : 0 ≤ l6_102.toInt → x149.toInt = l6_102.toInt % (30 : Int))
    (t154 : 0 ≤ l7_112.toInt → x154.toInt = l7_112.toInt / (30 : Int))
    (t159 : 0 ≤ l7_112.toInt → x159.toInt = l7_112.toInt % (30 : Int))
    (c163 : ¬ (x160.toInt = 0))
    (cz173 : (czI (G173.2.1 (F a 51))) + 1 = (czI (G_112.2.1 (F a 51)))) :
    LQ (G.2.1 (F a 10)) (mw (G.2.1 (F a 1)) 0) p0.toInt p1.toInt (aI (G173.2.1 (F a 51))) := by
  first
    | exact lq
    | (have e144 : x144.toInt = l6_102.toInt / 30 := by omega
       have e149 : x149.toInt = l6_102.toInt % 30 := by omega
       have e154 : x154.toInt = l7_112.toInt / 30 := by omega
       have e159 : x159.toInt = l7_112.toInt % 30 := by omega
       rw [e144, e149, e154, e159] at oq160
       exact LQ_set lq ⟨by omega, by omega⟩ ⟨by omega, by omega⟩ (oq160.resolve_right (fun h => by omega)).2 (by omega) (aI_pu hG173 rfl rfl (show Int32.toInt 1 = 1 by decide) (by omega)))
theorem v_X11_leans_180_19 {K : Nat → Nat} {F : Nat → Nat → Nat} (a : Nat) (G : XG) (G_32 : XG) (G_91 : XG) (G_102 : XG) (G_112 : XG) (G173 : XG) (l6_102 : Int32) (l5_32 : Int32) (p0 : Int32) (p1 : Int32) (l5_112 : Int32) (l7_112 : Int32) (x160 : Int32) (x144 : Int32) (x149 : Int32) (x154 : Int32) (x159 : Int32) (x8 : Int32) (x18 : Int32) (p2 : Int32) (l4_32 : Int32) (N32 : Nat) (l5_91 : Int32) (N91 : Nat) (l5_102 : Int32) (N102 : Nat) (N112 : Nat)
    (ha : K a = 13)
    (lq : LQ (G.2.1 (F a 10)) (mw (G.2.1 (F a 1)) 0) p0.toInt p1.toInt (aI (G_112.2.1 (F a 51))))
    (lz : l5_112.toInt = 0 → LZ (G.2.1 (F a 10)) (mw (G.2.1 (F a 1)) 0) (aI (G_112.2.1 (F a 51))) l6_102.toInt l7_112.toInt)
    (oq160 : (x160.toInt = 1 ∧ lnM (G.2.1 (F a 10)) (mw (G.2.1 (F a 1)) 0) 12 x144.toInt x149.toInt x154.toInt x159.toInt) ∨ (x160.toInt = 0 ∧ ¬ lnM (G.2.1 (F a 10)) (mw (G.2.1 (F a 1)) 0) 12 x144.toInt x149.toInt x154.toInt x159.toInt))
    (z5 : ¬ (0 ≤ p0.toInt ∧ p0.toInt < 3 ∧ 0 ≤ p1.toInt ∧ p1.toInt < 30) → (cel (mw (G.2.1 (F a 1)) 0) (p0.toInt) (p1.toInt) 0) = -2000)
    (t8 : (x8.toInt = 1 ∧ (cel (mw (G.2.1 (F a 1)) 0) (p0.toInt) (p1.toInt) 0) ≠ -2000) ∨ (x8.toInt = 0 ∧ (cel (mw (G.2.1 (F a 1)) 0) (p0.toInt) (p1.toInt) 0) = -2000))
    (c11 : ¬ (x8.toInt = 0))
    (t18 : (x18.toInt = 1 ∧ (0 : Int) ≤ p2.toInt ∧ p2.toInt ≤ (1 : Int)) ∨ (x18.toInt = 0 ∧ (p2.toInt < (0 : Int) ∨ (1 : Int) < p2.toInt)))
    (c21 : x18.toInt ≠ 0)
    (z29 : (bsI (lnI (G.2.1 (F a 10)) (mw (G.2.1 (F a 1)) 0) p0.toInt p1.toInt) 0) = 0)
    (I32_0 : 0 ≤ l5_32.toInt ∧ l5_32.toInt ≤ 90)
    (I32_1 : l4_32.toInt = (bsI (lnI (G.2.1 (F a 10)) (mw (G.2.1 (F a 1)) 0) p0.toInt p1.toInt) (l5_32.toInt)))
    (I32_2 : 0 ≤ l4_32.toInt ∧ l4_32.toInt ≤ l5_32.toInt)
    (hm32 : 2147483648 - l5_32.toInt < (((N32) + 1 : Nat) : Int))
    (c36 : (90 : Int) ≤ l5_32.toInt)
    (z88 : 0 ≤ (czI (G_32.2.1 (F a 51))) ∧ (czI (G_32.2.1 (F a 51))) ≤ 90)
    (z88a : l5_32.toInt = 90 → (bsI (lnI (G.2.1 (F a 10)) (mw (G.2.1 (F a 1)) 0) p0.toInt p1.toInt) (l5_32.toInt)) = (bsI (lnI (G.2.1 (F a 10)) (mw (G.2.1 (F a 1)) 0) p0.toInt p1.toInt) 90))
    (I91_0 : (l5_91.toInt = 0 ∨ l5_91.toInt = 1))
    (I91_1 : 0 ≤ (czI (G_91.2.1 (F a 51))) ∧ (czI (G_91.2.1 (F a 51))) ≤ 90)
    (hm91 : 2 * (czI (G_91.2.1 (F a 51))) + l5_91.toInt < (((N91) + 1 : Nat) : Int))
    (c93 : ¬ (l5_91.toInt = 0))
    (I102_0 : 0 ≤ l6_102.toInt ∧ l6_102.toInt ≤ 90)
    (I102_1 : (l5_102.toInt = 0 ∨ l5_102.toInt = 1) ∧ (czI (G_102.2.1 (F a 51))) ≤ (czI (G_91.2.1 (F a 51))) ∧ (l5_102.toInt = 1 → (czI (G_102.2.1 (F a 51))) + 1 ≤ (czI (G_91.2.1 (F a 51)))))
    (hm102 : 100 - l6_102.toInt < (((N102) + 1 : Nat) : Int))
    (c106 : ¬ ((90 : Int) ≤ l6_102.toInt))
    (I112_0 : 0 ≤ l7_112.toInt ∧ l7_112.toInt ≤ 90)
    (I112_1 : (l5_112.toInt = 0 ∨ l5_112.toInt = 1) ∧ (czI (G_112.2.1 (F a 51))) ≤ (czI (G_91.2.1 (F a 51))) ∧ (l5_112.toInt = 1 → (czI (G_112.2.1 (F a 51))) + 1 ≤ (czI (G_91.2.1 (F a 51)))))
    (hm112 : 100 - l7_112.toInt < (((N112) + 1 : Nat) : Int))
    (c116 : ¬ ((90 : Int) ≤ l7_112.toInt))
    (f47 : (aI (G_112.2.1 (F a 51)) (l6_102.toInt)) = 0 ∨ (aI (G_112.2.1 (F a 51)) (l6_102.toInt)) = 1)
    (c126 : ¬ ((aI (G_112.2.1 (F a 51)) (l6_102.toInt)) ≠ 0))
    (f49 : (aI (G_112.2.1 (F a 51)) (l7_112.toInt)) = 0 ∨ (aI (G_112.2.1 (F a 51)) (l7_112.toInt)) = 1)
    (c136 : ¬ ((aI (G_112.2.1 (F a 51)) (l7_112.toInt)) = 0))
    (t144 : 0 ≤ l6_102.toInt → x144.toInt = l6_102.toInt / (30 : Int))
    (t149 : 0 ≤ l6_102.toInt → x149.toInt = l6_102.toInt % (30 : Int))
    (t154 : 0 ≤ l7_112.toInt → x154.toInt = l7_112.toInt / (30 : Int))
    (t159 : 0 ≤ l7_112.toInt → x159.toInt = l7_112.toInt % (30 : Int))
    (c163 : ¬ (x160.toInt = 0))
    (cz173 : (czI (G173.2.1 (F a 51))) + 1 = (czI (G_112.2.1 (F a 51)))) :
    (1 : Int) = 0 → LZ (G.2.1 (F a 10)) (mw (G.2.1 (F a 1)) 0) (aI (G173.2.1 (F a 51))) l6_102.toInt (l7_112.toInt + 1) := by
  intro h
  first
    | exact absurd h (by decide)
    | exact LZ_skip (lz (by omega)) (Or.inl (by omega))
    | (have e144 : x144.toInt = l6_102.toInt / 30 := by omega
       have e149 : x149.toInt = l6_102.toInt % 30 := by omega
       have e154 : x154.toInt = l7_112.toInt / 30 := by omega
       have e159 : x159.toInt = l7_112.toInt % 30 := by omega
       rw [e144, e149, e154, e159] at oq160
       exact LZ_skip (lz (by omega)) (Or.inr (oq160.resolve_left (fun h => by omega)).2))
theorem v_X11_leans_110_20 {F : Nat → Nat → Nat} (a : Nat) (G : XG) (G_102 : XG) (p0 : Int32) (p1 : Int32)
    (lq : LQ (G.2.1 (F a 10)) (mw (G.2.1 (F a 1)) 0) p0.toInt p1.toInt (aI (G_102.2.1 (F a 51)))) :
    LQ (G.2.1 (F a 10)) (mw (G.2.1 (F a 1)) 0) p0.toInt p1.toInt (aI (G_102.2.1 (F a 51))) := by
  exact lq
theorem v_X11_leans_110_21 {K : Nat → Nat} {F : Nat → Nat → Nat} (a : Nat) (G : XG) (G_32 : XG) (G_91 : XG) (G_102 : XG) (l5_32 : Int32) (p0 : Int32) (p1 : Int32) (l5_102 : Int32) (l6_102 : Int32) (x8 : Int32) (x18 : Int32) (p2 : Int32) (l4_32 : Int32) (N32 : Nat) (l5_91 : Int32) (N91 : Nat) (N102 : Nat)
    (ha : K a = 13)
    (lq : LQ (G.2.1 (F a 10)) (mw (G.2.1 (F a 1)) 0) p0.toInt p1.toInt (aI (G_102.2.1 (F a 51))))
    (lz : l5_102.toInt = 0 → LZ (G.2.1 (F a 10)) (mw (G.2.1 (F a 1)) 0) (aI (G_102.2.1 (F a 51))) l6_102.toInt 0)
    (z5 : ¬ (0 ≤ p0.toInt ∧ p0.toInt < 3 ∧ 0 ≤ p1.toInt ∧ p1.toInt < 30) → (cel (mw (G.2.1 (F a 1)) 0) (p0.toInt) (p1.toInt) 0) = -2000)
    (t8 : (x8.toInt = 1 ∧ (cel (mw (G.2.1 (F a 1)) 0) (p0.toInt) (p1.toInt) 0) ≠ -2000) ∨ (x8.toInt = 0 ∧ (cel (mw (G.2.1 (F a 1)) 0) (p0.toInt) (p1.toInt) 0) = -2000))
    (c11 : ¬ (x8.toInt = 0))
    (t18 : (x18.toInt = 1 ∧ (0 : Int) ≤ p2.toInt ∧ p2.toInt ≤ (1 : Int)) ∨ (x18.toInt = 0 ∧ (p2.toInt < (0 : Int) ∨ (1 : Int) < p2.toInt)))
    (c21 : x18.toInt ≠ 0)
    (z29 : (bsI (lnI (G.2.1 (F a 10)) (mw (G.2.1 (F a 1)) 0) p0.toInt p1.toInt) 0) = 0)
    (I32_0 : 0 ≤ l5_32.toInt ∧ l5_32.toInt ≤ 90)
    (I32_1 : l4_32.toInt = (bsI (lnI (G.2.1 (F a 10)) (mw (G.2.1 (F a 1)) 0) p0.toInt p1.toInt) (l5_32.toInt)))
    (I32_2 : 0 ≤ l4_32.toInt ∧ l4_32.toInt ≤ l5_32.toInt)
    (hm32 : 2147483648 - l5_32.toInt < (((N32) + 1 : Nat) : Int))
    (c36 : (90 : Int) ≤ l5_32.toInt)
    (z88 : 0 ≤ (czI (G_32.2.1 (F a 51))) ∧ (czI (G_32.2.1 (F a 51))) ≤ 90)
    (z88a : l5_32.toInt = 90 → (bsI (lnI (G.2.1 (F a 10)) (mw (G.2.1 (F a 1)) 0) p0.toInt p1.toInt) (l5_32.toInt)) = (bsI (lnI (G.2.1 (F a 10)) (mw (G.2.1 (F a 1)) 0) p0.toInt p1.toInt) 90))
    (I91_0 : (l5_91.toInt = 0 ∨ l5_91.toInt = 1))
    (I91_1 : 0 ≤ (czI (G_91.2.1 (F a 51))) ∧ (czI (G_91.2.1 (F a 51))) ≤ 90)
    (hm91 : 2 * (czI (G_91.2.1 (F a 51))) + l5_91.toInt < (((N91) + 1 : Nat) : Int))
    (c93 : ¬ (l5_91.toInt = 0))
    (I102_0 : 0 ≤ l6_102.toInt ∧ l6_102.toInt ≤ 90)
    (I102_1 : (l5_102.toInt = 0 ∨ l5_102.toInt = 1) ∧ (czI (G_102.2.1 (F a 51))) ≤ (czI (G_91.2.1 (F a 51))) ∧ (l5_102.toInt = 1 → (czI (G_102.2.1 (F a 51))) + 1 ≤ (czI (G_91.2.1 (F a 51)))))
    (hm102 : 100 - l6_102.toInt < (((N102) + 1 : Nat) : Int))
    (c106 : ¬ ((90 : Int) ≤ l6_102.toInt)) :
    l5_102.toInt = 0 → LZ (G.2.1 (F a 10)) (mw (G.2.1 (F a 1)) 0) (aI (G_102.2.1 (F a 51))) l6_102.toInt (0 : Int) := by
  intro h
  exact LZ_new (lz (by omega)).1
theorem v_X11_leans_100_22 {F : Nat → Nat → Nat} (a : Nat) (G : XG) (G_91 : XG) (p0 : Int32) (p1 : Int32)
    (lq : LQ (G.2.1 (F a 10)) (mw (G.2.1 (F a 1)) 0) p0.toInt p1.toInt (aI (G_91.2.1 (F a 51)))) :
    LQ (G.2.1 (F a 10)) (mw (G.2.1 (F a 1)) 0) p0.toInt p1.toInt (aI (G_91.2.1 (F a 51))) := by
  exact lq
theorem v_X11_leans_100_23 {F : Nat → Nat → Nat} (a : Nat) (G : XG) (G_91 : XG) :
    (0 : Int) = 0 → LZ (G.2.1 (F a 10)) (mw (G.2.1 (F a 1)) 0) (aI (G_91.2.1 (F a 51))) (0 : Int) 0 := by
  intro _
  exact LZ_0
theorem v_X11_leans_89_24 {K : Nat → Nat} {F : Nat → Nat → Nat} (a : Nat) (G : XG) (G_32 : XG) (l5_32 : Int32) (p0 : Int32) (p1 : Int32) (x8 : Int32) (x18 : Int32) (p2 : Int32) (l4_32 : Int32) (N32 : Nat)
    (ha : K a = 13)
    (ps : ∀ z : Int, 0 ≤ z → z < l5_32.toInt → ((aI (G_32.2.1 (F a 51))) z = 1 ∧ lnM (G.2.1 (F a 10)) (mw (G.2.1 (F a 1)) 0) 12 (z / 30) (z % 30) p0.toInt p1.toInt) ∨ ((aI (G_32.2.1 (F a 51))) z = 0 ∧ ¬ lnM (G.2.1 (F a 10)) (mw (G.2.1 (F a 1)) 0) 12 (z / 30) (z % 30) p0.toInt p1.toInt))
    (z5 : ¬ (0 ≤ p0.toInt ∧ p0.toInt < 3 ∧ 0 ≤ p1.toInt ∧ p1.toInt < 30) → (cel (mw (G.2.1 (F a 1)) 0) (p0.toInt) (p1.toInt) 0) = -2000)
    (t8 : (x8.toInt = 1 ∧ (cel (mw (G.2.1 (F a 1)) 0) (p0.toInt) (p1.toInt) 0) ≠ -2000) ∨ (x8.toInt = 0 ∧ (cel (mw (G.2.1 (F a 1)) 0) (p0.toInt) (p1.toInt) 0) = -2000))
    (c11 : ¬ (x8.toInt = 0))
    (t18 : (x18.toInt = 1 ∧ (0 : Int) ≤ p2.toInt ∧ p2.toInt ≤ (1 : Int)) ∨ (x18.toInt = 0 ∧ (p2.toInt < (0 : Int) ∨ (1 : Int) < p2.toInt)))
    (c21 : x18.toInt ≠ 0)
    (z29 : (bsI (lnI (G.2.1 (F a 10)) (mw (G.2.1 (F a 1)) 0) p0.toInt p1.toInt) 0) = 0)
    (I32_0 : 0 ≤ l5_32.toInt ∧ l5_32.toInt ≤ 90)
    (I32_1 : l4_32.toInt = (bsI (lnI (G.2.1 (F a 10)) (mw (G.2.1 (F a 1)) 0) p0.toInt p1.toInt) (l5_32.toInt)))
    (I32_2 : 0 ≤ l4_32.toInt ∧ l4_32.toInt ≤ l5_32.toInt)
    (hm32 : 2147483648 - l5_32.toInt < (((N32) + 1 : Nat) : Int))
    (c36 : (90 : Int) ≤ l5_32.toInt)
    (z88 : 0 ≤ (czI (G_32.2.1 (F a 51))) ∧ (czI (G_32.2.1 (F a 51))) ≤ 90)
    (z88a : l5_32.toInt = 90 → (bsI (lnI (G.2.1 (F a 10)) (mw (G.2.1 (F a 1)) 0) p0.toInt p1.toInt) (l5_32.toInt)) = (bsI (lnI (G.2.1 (F a 10)) (mw (G.2.1 (F a 1)) 0) p0.toInt p1.toInt) 90)) :
    LQ (G.2.1 (F a 10)) (mw (G.2.1 (F a 1)) 0) p0.toInt p1.toInt (aI (G_32.2.1 (F a 51))) := by
  exact LQ_0 ps (by omega)
