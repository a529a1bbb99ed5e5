theorem v_X11_leans_186_9 {F : Nat → Nat → Nat} (a : Nat) (G : XG) (G_112 : XG) (p0 : Int32) (p1 : Int32)
    (lq : LQ (G.2.1 (F a 10)) (mw (G.2.1 (F a 1)) 0) p0.toInt p1.toInt (aI (G_112.2.1 (F a 51)))) :
    LQ (G.2.1 (F a 10)) (mw (G.2.1 (F a 1)) 0) p0.toInt p1.toInt (aI (G_112.2.1 (F a 51))) := by
  exact lq
theorem v_X11_leans_186_10 {K : Nat → Nat} {F : Nat → Nat → Nat} (a : Nat) (G : XG) (G_32 : XG) (G_91 : XG) (G_102 : XG) (G_112 : XG) (l5_32 : Int32) (p0 : Int32) (p1 : Int32) (l5_112 : Int32) (l6_102 : Int32) (l7_112 : Int32) (x8 : Int32) (x18 : Int32) (p2 : Int32) (l4_32 : Int32) (N32 : Nat) (l5_91 : Int32) (N91 : Nat) (l5_102 : Int32) (N102 : Nat) (N112 : Nat)
    (ha : K a = 13)
    (lq : LQ (G.2.1 (F a 10)) (mw (G.2.1 (F a 1)) 0) p0.toInt p1.toInt (aI (G_112.2.1 (F a 51))))
    (lz : l5_112.toInt = 0 → LZ (G.2.1 (F a 10)) (mw (G.2.1 (F a 1)) 0) (aI (G_112.2.1 (F a 51))) l6_102.toInt l7_112.toInt)
    (z5 : ¬ (0 ≤ p0.toInt ∧ p0.toInt < 3 ∧ 0 ≤ p1.toInt ∧ p1.toInt < 30) → (cel (mw (G.2.1 (F a 1)) 0) (p0.toInt) (p1.toInt) 0) = -2000)
    (t8 : (x8.toInt = 1 ∧ (cel (mw (G.2.1 (F a 1)) 0) (p0.toInt) (p1.toInt) 0) ≠ -2000) ∨ (x8.toInt = 0 ∧ (cel (mw (G.2.1 (F a 1)) 0) (p0.toInt) (p1.toInt) 0) = -2000))
    (c11 : ¬ (x8.toInt = 0))
    (t18 : (x18.toInt = 1 ∧ (0 : Int) ≤ p2.toInt ∧ p2.toInt ≤ (1 : Int)) ∨ (x18.toInt = 0 ∧ (p2.toInt < (0 : Int) ∨ (1 : Int) < p2.toInt)))
    (c21 : x18.toInt ≠ 0)
    (z29 : (bsI (lnI (G.2.1 (F a 10)) (mw (G.2.1 (F a 1)) 0) p0.toInt p1.toInt) 0) = 0)
    (I32_0 : 0 ≤ l5_32.toInt ∧ l5_32.toInt ≤ 90)
    (I32_1 : l4_32.toInt = (bsI (lnI (G.2.1 (F a 10)) (mw (G.2.1 (F a 1)) 0) p0.toInt p1.toInt) (l5_32.toInt)))
    (I32_2 : 0 ≤ l4_32.toInt ∧ l4_32.toInt ≤ l5_32.toInt)
    (hm32 : 2147483648 - l5_32.toInt < (((N32) + 1 : Nat) : Int))
    (c36 : (90 : Int) ≤ l5_32.toInt)
    (z88 : 0 ≤ (czI (G_32.2.1 (F a 51))) ∧ (czI (G_32.2.1 (F a 51))) ≤ 90)
    (z88a : l5_32.toInt = 90 → (bsI (lnI (G.2.1 (F a 10)) (mw (G.2.1 (F a 1)) 0) p0.toInt p1.toInt) (l5_32.toInt)) = (bsI (lnI (G.2.1 (F a 10)) (mw (G.2.1 (F a 1)) 0) p0.toInt p1.toInt) 90))
    (I91_0 : (l5_91.toInt = 0 ∨ l5_91.toInt = 1))
    (I91_1 : 0 ≤ (czI (G_91.2.1 (F a 51))) ∧ (czI (G_91.2.1 (F a 51))) ≤ 90)
    (hm91 : 2 * (czI (G_91.2.1 (F a 51))) + l5_91.toInt < (((N91) + 1 : Nat) : Int))
    (c93 : ¬ (l5_91.toInt = 0))
    (I102_0 : 0 ≤ l6_102.toInt ∧ l6_102.toInt ≤ 90)
    (I102_1 : (l5_102.toInt = 0 ∨ l5_102.toInt = 1) ∧ (czI (G_102.2.1 (F a 51))) ≤ (czI (G_91.2.1 (F a 51))) ∧ (l5_102.toInt = 1 → (czI (G_102.2.1 (F a 51))) + 1 ≤ (czI (G_91.2.1 (F a 51)))))
    (hm102 : 100 - l6_102.toInt < (((N102) + 1 : Nat) : Int))
    (c106 : ¬ ((90 : Int) ≤ l6_102.toInt))
    (I112_0 : 0 ≤ l7_112.toInt ∧ l7_112.toInt ≤ 90)
    (I112_1 : (l5_112.toInt = 0 ∨ l5_112.toInt = 1) ∧ (czI (G_112.2.1 (F a 51))) ≤ (czI (G_91.2.1 (F a 51))) ∧ (l5_112.toInt = 1 → (czI (G_112.2.1 (F a 51))) + 1 ≤ (czI (G_91.2.1 (F a 51)))))
    (hm112 : 100 - l7_112.toInt < (((N112) + 1 : Nat) : Int))
    (c116 : ¬ ((90 : Int) ≤ l7_112.toInt))
    (f44 : (aI (G_112.2.1 (F a 51)) (l6_102.toInt)) = 0 ∨ (aI (G_112.2.1 (F a 51)) (l6_102.toInt)) = 1)
    (c126 : (aI (G_112.2.1 (F a 51)) (l6_102.toInt)) ≠ 0) :
    l5_112.toInt = 0 → LZ (G.2.1 (F a 10)) (mw (G.2.1 (F a 1)) 0) (aI (G_112.2.1 (F a 51))) (l6_102.toInt + 1) 0 := by
  intro h
  first
    | exact LZ_row (lz (by omega)) (by omega)
    | exact LZ_one (lz (by omega)).1 (by omega)
theorem v_X11_leans_180_11 {K : Nat → Nat} {F : Nat → Nat → Nat} (a : Nat) (G : XG) (G_32 : XG) (G_91 : XG) (G_102 : XG) (G_112 : XG) (l5_32 : Int32) (p0 : Int32) (p1 : Int32) (l5_112 : Int32) (l6_102 : Int32) (l7_112 : Int32) (x8 : Int32) (x18 : Int32) (p2 : Int32) (l4_32 : Int32) (N32 : Nat) (l5_91 : Int32) (N91 : Nat) (l5_102 : Int32) (N102 : Nat) (N112 : Nat)
    (ha : K a = 13)
    (lq : LQ (G.2.1 (F a 10)) (mw (G.2.1 (F a 1)) 0) p0.toInt p1.toInt (aI (G_112.2.1 (F a 51))))
    (lz : l5_112.toInt = 0 → LZ (G.2.1 (F a 10)) (mw (G.2.1 (F a 1)) 0) (aI (G_112.2.1 (F a 51))) l6_102.toInt l7_112.toInt)
    (z5 : ¬ (0 ≤ p0.toInt ∧ p0.toInt < 3 ∧ 0 ≤ p1.toInt ∧ p1.toInt < 30) → (cel (mw (G.2.1 (F a 1)) 0) (p0.toInt) (p1.toInt) 0) = -2000)
    (t8 : (x8.toInt = 1 ∧ (cel (mw (G.2.1 (F a 1)) 0) (p0.toInt) (p1.toInt) 0) ≠ -2000) ∨ (x8.toInt = 0 ∧ (cel (mw (G.2.1 (F a 1)) 0) (p0.toInt) (p1.toInt) 0) = -2000))
    (c11 : ¬ (x8.toInt = 0))
    (t18 : (x18.toInt = 1 ∧ (0 : Int) ≤ p2.toInt ∧ p2.toInt ≤ (1 : Int)) ∨ (x18.toInt = 0 ∧ (p2.toInt < (0 : Int) ∨ (1 : Int) < p2.toInt)))
    (c21 : x18.toInt ≠ 0)
    (z29 : (bsI (lnI (G.2.1 (F a 10)) (mw (G.2.1 (F a 1)) 0) p0.toInt p1.toInt) 0) = 0)
    (I32_0 : 0 ≤ l5_32.toInt ∧ l5_32.toInt ≤ 90)
    (I32_1 : l4_32.toInt = (bsI (lnI (G.2.1 (F a 10)) (mw (G.2.1 (F a 1)) 0) p0.toInt p1.toInt) (l5_32.toInt)))
    (I32_2 : 0 ≤ l4_32.toInt ∧ l4_32.toInt ≤ l5_32.toInt)
    (hm32 : 2147483648 - l5_32.toInt < (((N32) + 1 : Nat) : Int))
    (c36 : (90 : Int) ≤ l5_32.toInt)
    (z88 : 0 ≤ (czI (G_32.2.1 (F a 51))) ∧ (czI (G_32.2.1 (F a 51))) ≤ 90)
    (z88a : l5_32.toInt = 90 → (bsI (lnI (G.2.1 (F a 10)) (mw (G.2.1 (F a 1)) 0) p0.toInt p1.toInt) (l5_32.toInt)) = (bsI (lnI (G.2.1 (F a 10)) (mw (G.2.1 (F a 1)) 0) p0.toInt p1.toInt) 90))
    (I91_0 : (l5_91.toInt = 0 ∨ l5_91.toInt = 1))
    (I91_1 : 0 ≤ (czI (G_91.2.1 (F a 51))) ∧ (czI (G_91.2.1 (F a 51))) ≤ 90)
    (hm91 : 2 * (czI (G_91.2.1 (F a 51))) + l5_91.toInt < (((N91) + 1 : Nat) : Int))
    (c93 : ¬ (l5_91.toInt = 0))
    (I102_0 : 0 ≤ l6_102.toInt ∧ l6_102.toInt ≤ 90)
    (I102_1 : (l5_102.toInt = 0 ∨ l5_102.toInt = 1) ∧ (czI (G_102.2.1 (F a 51))) ≤ (czI (G_91.2.1 (F a 51))) ∧ (l5_102.toInt = 1 → (czI (G_102.2.1 (F a 51))) + 1 ≤ (czI (G_91.2.1 (F a 51)))))
    (hm102 : 100 - l6_102.toInt < (((N102) + 1 : Nat) : Int))
    (c106 : ¬ ((90 : Int) ≤ l6_102.toInt))
    (I112_0 : 0 ≤ l7_112.toInt ∧ l7_112.toInt ≤ 90)
    (I112_1 : (l5_112.toInt = 0 ∨ l5_112.toInt = 1) ∧ (czI (G_112.2.1 (F a 51))) ≤ (czI (G_91.2.1 (F a 51))) ∧ (l5_112.toInt = 1 → (czI (G_112.2.1 (F a 51))) + 1 ≤ (czI (G_91.2.1 (F a 51)))))
    (hm112 : 100 - l7_112.toInt < (((N112) + 1 : Nat) : Int))
    (c116 : ¬ ((90 : Int) ≤ l7_112.toInt))
    (f45 : (aI (G_112.2.1 (F a 51)) (l6_102.toInt)) = 0 ∨ (aI (G_112.2.1 (F a 51)) (l6_102.toInt)) = 1)
    (c126 : ¬ ((aI (G_112.2.1 (F a 51)) (l6_102.toInt)) ≠ 0))
    (f47 : (aI (G_112.2.1 (F a 51)) (l7_112.toInt)) = 0 ∨ (aI (G_112.2.1 (F a 51)) (l7_112.toInt)) = 1)
    (c136 : (aI (G_112.2.1 (F a 51)) (l7_112.toInt)) = 0) :
    LQ (G.2.1 (F a 10)) (mw (G.2.1 (F a 1)) 0) p0.toInt p1.toInt (aI (G_112.2.1 (F a 51))) := by
  first
    | exact lq
    | (have e144 : x144.toInt = l6_102.toInt / 30 := by omega
       have e149 : x149.toInt = l6_102.toInt % 30 := by omega
       have e154 : x154.toInt = l7_112.toInt / 30 := by omega
       have e159 : x159.toInt = l7_112.toInt % 30 := by omega
       rw [e144, e149, e154, e159] at oq160
       exact LQ_set lq ⟨by omega, by omega⟩ ⟨by omega, by omega⟩ (oq160.resolve_right (fun h => by omega)).2 (by omega) (aI_pu hG173 rfl rfl (show Int32.toInt 1 = 1 by decide) (by omega)))
theorem v_X11_leans_180_12 {K : Nat → Nat} {F : Nat → Nat → Nat} (a : Nat) (G : XG) (G_32 : XG) (G_91 : XG) (G_102 : XG) (G_112 : XG) (l5_32 : Int32) (p0 : Int32) (p1 : Int32) (l5_112 : Int32) (l6_102 : Int32) (l7_112 : Int32) (x8 : Int32) (x18 : Int32) (p2 : Int32) (l4_32 : Int32) (N32 : Nat) (l5_91 : Int32) (N91 : Nat) (l5_102 : Int32) (N102 : Nat) (N112 : Nat)
    (ha : K a = 13)
    (lq : LQ (G.2.1 (F a 10)) (mw (G.2.1 (F a 1)) 0) p0.toInt p1.toInt (aI (G_112.2.1 (F a 51))))
    (lz : l5_112.toInt = 0 → LZ (G.2.1 (F a 10)) (mw (G.2.1 (F a 1)) 0) (aI (G_112.2.1 (F a 51))) l6_102.toInt l7_112.toInt)
    (z5 : ¬ (0 ≤ p0.toInt ∧ p0.toInt < 3 ∧ 0 ≤ p1.toInt ∧ p1.toInt < 30) → (cel (mw (G.2.1 (F a 1)) 0) (p0.toInt) (p1.toInt) 0) = -2000)
    (t8 : (x8.toInt = 1 ∧ (cel (mw (G.2.1 (F a 1)) 0) (p0.toInt) (p1.toInt) 0) ≠ -2000) ∨ (x8.toInt = 0 ∧ (cel (mw (G.2.1 (F a 1)) 0) (p0.toInt) (p1.toInt) 0) = -2000))
    (c11 : ¬ (x8.toInt = 0))
    (t18 : (x18.toInt = 1 ∧ (0 : Int) ≤ p2.toInt ∧ p2.toInt ≤ (1 : Int)) ∨ (x18.toInt = 0 ∧ (p2.toInt < (0 : Int) ∨ (1 : Int) < p2.toInt)))
    (c21 : x18.toInt ≠ 0)
    (z29 : (bsI (lnI (G.2.1 (F a 10)) (mw (G.2.1 (F a 1)) 0) p0.toInt p1.toInt) 0) = 0)
    (I32_0 : 0 ≤ l5_32.toInt ∧ l5_32.toInt ≤ 90)
    (I32_1 : l4_32.toInt = (bsI (lnI (G.2.1 (F a 10)) (mw (G.2.1 (F a 1)) 0) p0.toInt p1.toInt) (l5_32.toInt)))
    (I32_2 : 0 ≤ l4_32.toInt ∧ l4_32.toInt ≤ l5_32.toInt)
    (hm32 : 2147483648 - l5_32.toInt < (((N32) + 1 : Nat) : Int))
    (c36 : (90 : Int) ≤ l5_32.toInt)
    (z88 : 0 ≤ (czI (G_32.2.1 (F a 51))) ∧ (czI (G_32.2.1 (F a 51))) ≤ 90)
    (z88a : l5_32.toInt = 90 → (bsI (lnI (G.2.1 (F a 10)) (mw (G.2.1 (F a 1)) 0) p0.toInt p1.toInt) (l5_32.toInt)) = (bsI (lnI (G.2.1 (F a 10)) (mw (G.2.1 (F a 1)) 0) p0.toInt p1.toInt) 90))
    (I91_0 : (l5_91.toInt = 0 ∨ l5_91.toInt = 1))
    (I91_1 : 0 ≤ (czI (G_91.2.1 (F a 51))) ∧ (czI (G_91.2.1 (F a 51))) ≤ 90)
    (hm91 : 2 * (czI (G_91.2.1 (F a 51))) + l5_91.toInt < (((N91) + 1 : Nat) : Int))
    (c93 : ¬ (l5_91.toInt = 0))
    (I102_0 : 0 ≤ l6_102.toInt ∧ l6_102.toInt ≤ 90)
    (I102_1 : (l5_102.toInt = 0 ∨ l5_102.toInt = 1) ∧ (czI (G_102.2.1 (F a 51))) ≤ (czI (G_91.2.1 (F a 51))) ∧ (l5_102.toInt = 1 → (czI (G_102.2.1 (F a 51))) + 1 ≤ (czI (G_91.2.1 (F a 51)))))
    (hm102 : 100 - l6_102.toInt < (((N102) + 1 : Nat) : Int))
    (c106 : ¬ ((90 : Int) ≤ l6_102.toInt))
    (I112_0 : 0 ≤ l7_112.toInt ∧ l7_112.toInt ≤ 90)
    (I112_1 : (l5_112.toInt = 0 ∨ l5_112.toInt = 1) ∧ (czI (G_112.2.1 (F a 51))) ≤ (czI (G_91.2.1 (F a 51))) ∧ (l5_112.toInt = 1 → (czI (G_112.2.1 (F a 51))) + 1 ≤ (czI (G_91.2.1 (F a 51)))))
    (hm112 : 100 - l7_112.toInt < (((N112) + 1 : Nat) : Int))
    (c116 : ¬ ((90 : Int) ≤ l7_112.toInt))
    (f45 : (aI (G_112.2.1 (F a 51)) (l6_102.toInt)) = 0 ∨ (aI (G_112.2.1 (F a 51)) (l6_102.toInt)) = 1)
    (c126 : ¬ ((aI (G_112.2.1 (F a 51)) (l6_102.toInt)) ≠ 0))
    (f47 : (aI (G_112.2.1 (F a 51)) (l7_112.toInt)) = 0 ∨ (aI (G_112.2.1 (F a 51)) (l7_112.toInt)) = 1)
    (c136 : (aI (G_112.2.1 (F a 51)) (l7_112.toInt)) = 0) :
    l5_112.toInt = 0 → LZ (G.2.1 (F a 10)) (mw (G.2.1 (F a 1)) 0) (aI (G_112.2.1 (F a 51))) l6_102.toInt (l7_112.toInt + 1) := by
  intro h
  first
    | exact absurd h (by decide)
    | exact LZ_skip (lz (by omega)) (Or.inl (by omega))
    | (have e144 : x144.toInt = l6_102.toInt / 30 := by omega
       have e149 : x149.toInt = l6_102.toInt % 30 := by omega
       have e154 : x154.toInt = l7_112.toInt / 30 := by omega
       have e159 : x159.toInt = l7_112.toInt % 30 := by omega
       rw [e144, e149, e154, e159] at oq160
       exact LZ_skip (lz (by omega)) (Or.inr (oq160.resolve_left (fun h => by omega)).2))
theorem v_X11_leans_160_13 {F : Nat → Nat → Nat} (a : Nat) (G : XG) (G_112 : XG)
    (hR : RV (G.2.1 (F a 10)))
    (c_G_112_F_a_10 : G_112.2.1 (F a 10) = G.2.1 (F a 10)) :
    RV (G_112.2.1 (F a 10)) := by simp only [c_G_112_F_a_10]; assumption
theorem v_X11_leans_160_14 {F : Nat → Nat → Nat} (a : Nat) (G : XG) (G_112 : XG)
    (hM : RM (G.2.1 (F a 1)) (0))
    (c_G_112_F_a_1 : G_112.2.1 (F a 1) = G.2.1 (F a 1)) :
    RM (G_112.2.1 (F a 1)) (0) := by simp only [c_G_112_F_a_1]; assumption
theorem v_X11_leans_180_15 {K : Nat → Nat} {F : Nat → Nat → Nat} (a : Nat) (G : XG) (G_32 : XG) (G_91 : XG) (G_102 : XG) (G_112 : XG) (l5_32 : Int32) (p0 : Int32) (p1 : Int32) (l5_112 : Int32) (l6_102 : Int32) (l7_112 : Int32) (x160 : Int32) (x144 : Int32) (x149 : Int32) (x154 : Int32) (x159 : Int32) (x8 : Int32) (x18 : Int32) (p2 : Int32) (l4_32 : Int32) (N32 : Nat) (l5_91 : Int32) (N91 : Nat) (l5_102 : Int32) (N102 : Nat) (N112 : Nat)
    (ha : K a = 13)
    (lq : LQ (G.2.1 (F a 10)) (mw (G.2.1 (F a 1)) 0) p0.toInt p1.toInt (aI (G_112.2.1 (F a 51))))
    (lz : l5_112.toInt = 0 → LZ (G.2.1 (F a 10)) (mw (G.2.1 (F a 1)) 0) (aI (G_112.2.1 (F a 51))) l6_102.toInt l7_112.toInt)
    (oq160 : (x160.toInt = 1 ∧ lnM (G.2.1 (F a 10)) (mw (G.2.1 (F a 1)) 0) 12 x144.toInt x149.toInt x154.toInt x159.toInt) ∨ (x160.toInt = 0 ∧ ¬ lnM (G.2.1 (F a 10)) (mw (G.2.1 (F a 1)) 0) 12 x144.toInt x149.toInt x154.toInt x159.toInt))
    (z5 : ¬ (0 ≤ p0.toInt ∧ p0.toInt < 3 ∧ 0 ≤ p1.toInt ∧ p1.toInt < 30) → (cel (mw (G.2.1 (F a 1)) 0) (p0.toInt) (p1.toInt) 0) = -2000)
    (t8 : (x8.toInt = 1 ∧ (cel (mw (G.2.1 (F a 1)) 0) (p0.toInt) (p1.toInt) 0) ≠ -2000) ∨ (x8.toInt = 0 ∧ (cel (mw (G.2.1 (F a 1)) 0) (p0.toInt) (p1.toInt) 0) = -2000))
    (c11 : ¬ (x8.toInt = 0))
    (t18 : (x18.toInt = 1 ∧ (0 : Int) ≤ p2.toInt ∧ p2.toInt ≤ (1 : Int)) ∨ (x18.toInt = 0 ∧ (p2.toInt < (0 : Int) ∨ (1 : Int) < p2.toInt)))
    (c21 : x18.toInt ≠ 0)
    (z29 : (bsI (lnI (G.2.1 (F a 10)) (mw (G.2.1 (F a 1)) 0) p0.toInt p1.toInt) 0) = 0)
    (I32_0 : 0 ≤ l5_32.toInt ∧ l5_32.toInt ≤ 90)
    (I32_1 : l4_32.toInt = (bsI (lnI (G.2.1 (F a 10)) (mw (G.2.1 (F a 1)) 0) p0.toInt p1.toInt) (l5_32.toInt)))
    (I32_2 : 0 ≤ l4_32.toInt ∧ l4_32.toInt ≤ l5_32.toInt)
    (hm32 : 2147483648 - l5_32.toInt < (((N32) + 1 : Nat) : Int))
    (c36 : (90 : Int) ≤ l5_32.toInt)
    (z88 : 0 ≤ (czI (G_32.2.1 (F a 51))) ∧ (czI (G_32.2.1 (F a 51))) ≤ 90)
    (z88a : l5_32.toInt = 90 → (bsI (lnI (G.2.1 (F a 10)) (mw (G.2.1 (F a 1)) 0) p0.toInt p1.toInt) (l5_32.toInt)) = (bsI (lnI (G.2.1 (F a 10)) (mw (G.2.1 (F a 1)) 0) p0.toInt p1.toInt) 90))
    (I91_0 : (l5_91.toInt = 0 ∨ l5_91.toInt = 1))
    (I91_1 : 0 ≤ (czI (G_91.2.1 (F a 51))) ∧ (czI (G_91.2.1 (F a 51))) ≤ 90)
    (hm91 : 2 * (czI (G_91.2.1 (F a 51))) + l5_91.toInt < (((N91) + 1 : Nat) : Int))
    (c93 : ¬ (l5_91.toInt = 0))
    (I102_0 : 0 ≤ l6_102.toInt ∧ l6_102.toInt ≤ 90)
    (I102_1 : (l5_102.toInt = 0 ∨ l5_102.toInt = 1) ∧ (czI (G_102.2.1 (F a 51))) ≤ (czI (G_91.2.1 (F a 51))) ∧ (l5_102.toInt = 1 → (czI (G_102.2.1 (F a 51))) + 1 ≤ (czI (G_91.2.1 (F a 51)))))
    (hm102 : 100 - l6_102.toInt < (((N102) + 1 : Nat) : Int))
    (c106 : ¬ ((90 : Int) ≤ l6_102.toInt))
    (I112_0 : 0 ≤ l7_112.toInt ∧ l7_112.toInt ≤ 90)
    (I112_1 : (l5_112.toInt = 0 ∨ l5_112.toInt = 1) ∧ (czI (G_112.2.1 (F a 51))) ≤ (czI (G_91.2.1 (F a 51))) ∧ (l5_112.toInt = 1 → (czI (G_112.2.1 (F a 51))) + 1 ≤ (czI (G_91.2.1 (F a 51)))))
    (hm112 : 100 - l7_112.toInt < (((N112) + 1 : Nat) : Int))
    (c116 : ¬ ((90 : Int) ≤ l7_112.toInt))
    (f46 : (aI (G_112.2.1 (F a 51)) (l6_102.toInt)) = 0 ∨ (aI (G_112.2.1 (F a 51)) (l6_102.toInt)) = 1)
    (c126 : ¬ ((aI (G_112.2.1 (F a 51)) (l6_102.toInt)) ≠ 0))
    (f48 : (aI (G_112.2.1 (F a 51)) (l7_112.toInt)) = 0 ∨ (aI (G_112.2.1 (F a 51)) (l7_112.toInt)) = 1)
    (c136 : ¬ ((aI (G_112.2.1 (F a 51)) (l7_112.toInt)) = 0))
    (t144 : 0 ≤ l6_102.toInt → x144.toInt = l6_102.toInt / (30 : Int))
    (t149 : 0 ≤ l6_102.toInt → x149.toInt = l6_102.toInt % (30 : Int))
    (t154 : 0 ≤ l7_112.toInt → x154.toInt = l7_112.toInt / (30 : Int))
    (t159 : 0 ≤ l7_112.toInt → x159.toInt = l7_112.toInt % (30 : Int))
    (c163 : x160.toInt = 0) :
    LQ (G.2.1 (F a 10)) (mw (G.2.1 (F a 1)) 0) p0.toInt p1.toInt (aI (G_112.2.1 (F a 51))) := by
  first
    | exact lq
    | (have e144 : x144.toInt = l6_102.toInt / 30 := by omega
       have e149 : x149.toInt = l6_102.toInt % 30 := by omega
       have e154 : x154.toInt = l7_112.toInt / 30 := by omega
       have e159 : x159.toInt = l7_112.toInt % 30 := by omega
       rw [e144, e149, e154, e159] at oq160
       exact LQ_set lq ⟨by omega, by omega⟩ ⟨by omega, by omega⟩ (oq160.resolve_right (fun h => by omega)).2 (by omega) (aI_pu hG173 rfl rfl (show Int32.toInt 1 = 1 by decide) (by omega)))
theorem v_X11_leans_180_16 {K : Nat → Nat} {F : Nat → Nat → Nat} (a : Nat) (G : XG) (G_32 : XG) (G_91 : XG) (G_102 : XG) (G_112 : XG) (l5_32 : Int32) (p0 : Int32) (p1 : Int32) (l5_112 : Int32) (l6_102 : Int32) (l7_112 : Int32) (x160 : Int32) (x144 : Int32) (x149 : Int32) (x154 : Int32) (x159 : Int32) (x8 : Int32) (x18 : Int32) (p2 : Int32) (l4_32 : Int32) (N32 : Nat) (l5_91 : Int32) (N91 : Nat) (l5_102 : Int32) (N102 : Nat) (N112 : Nat)
    (ha : K a = 13)
    (lq : LQ (G.2.1 (F a 10)) (mw (G.2.1 (F a 1)) 0) p0.toInt p1.toInt (aI (G_112.2.1 (F a 51))))
    (lz : l5_112.toInt = 0 → LZ (G.2.1 (F a 10)) (mw (G.2.1 (F a 1)) 0) (aI (G_112.2.1 (F a 51))) l6_102.toInt l7_112.toInt)
    (oq160 : (x160.toInt = 1 ∧ lnM (G.2.1 (F a 10)) (mw (G.2.1 (F a 1)) 0) 12 x144.toInt x149.toInt x154.toInt x159.toInt) ∨ (x160.toInt = 0 ∧ ¬ lnM (G.2.1 (F a 10)) (mw (G.2.1 (F a 1)) 0) 12 x144.toInt x149.toInt x154.toInt x159.toInt))
    (z5 : ¬ (0 ≤ p0.toInt ∧ p0.toInt < 3 ∧ 0 ≤ p1.toInt ∧ p1.toInt < 30) → (cel (mw (G.2.1 (F a 1)) 0) (p0.toInt) (p1.toInt) 0) = -2000)
    (t8 : (x8.toInt = 1 ∧ (cel (mw (G.2.1 (F a 1)) 0) (p0.toInt) (p1.toInt) 0) ≠ -2000) ∨ (x8.toInt = 0 ∧ (cel (mw (G.2.1 (F a 1)) 0) (p0.toInt) (p1.toInt) 0) = -2000))
    (c11 : ¬ (x8.toInt = 0))
    (t18 : (x18.toInt = 1 ∧ (0 : Int) ≤ p2.toInt ∧ p2.toInt ≤ (1 : Int)) ∨ (x18.toInt = 0 ∧ (p2.toInt < (0 : Int) ∨ (1 : Int) < p2.toInt)))
    (c21 : x18.toInt ≠ 0)
    (z29 : (bsI (lnI (G.2.1 (F a 10)) (mw (G.2.1 (F a 1)) 0) p0.toInt p1.toInt) 0) = 0)
    (I32_0 : 0 ≤ l5_32.toInt ∧ l5_32.toInt ≤ 90)
    (I32_1 : l4_32.toInt = (bsI (lnI (G.2.1 (F a 10)) (mw (G.2.1 (F a 1)) 0) p0.toInt p1.toInt) (l5_32.toInt)))
    (I32_2 : 0 ≤ l4_32.toInt ∧ l4_32.toInt ≤ l5_32.toInt)
    (hm32 : 2147483648 - l5_32.toInt < (((N32) + 1 : Nat) : Int))
    (c36 : (90 : Int) ≤ l5_32.toInt)
    (z88 : 0 ≤ (czI (G_32.2.1 (F a 51))) ∧ (czI (G_32.2.1 (F a 51))) ≤ 90)
    (z88a : l5_32.toInt = 90 → (bsI (lnI (G.2.1 (F a 10)) (mw (G.2.1 (F a 1)) 0) p0.toInt p1.toInt) (l5_32.toInt)) = (bsI (lnI (G.2.1 (F a 10)) (mw (G.2.1 (F a 1)) 0) p0.toInt p1.toInt) 90))
    (I91_0 : (l5_91.toInt = 0 ∨ l5_91.toInt = 1))
    (I91_1 : 0 ≤ (czI (G_91.2.1 (F a 51))) ∧ (czI (G_91.2.1 (F a 51))) ≤ 90)
    (hm91 : 2 * (czI (G_91.2.1 (F a 51))) + l5_91.toInt < (((N91) + 1 : Nat) : Int))
    (c93 : ¬ (l5_91.toInt = 0))
    (I102_0 : 0 ≤ l6_102.toInt ∧ l6_102.toInt ≤ 90)
    (I102_1 : (l5_102.toInt = 0 ∨ l5_102.toInt = 1) ∧ (czI (G_102.2.1 (F a 51))) ≤ (czI (G_91.2.1 (F a 51))) ∧ (l5_102.toInt = 1 → (czI (G_102.2.1 (F a 51))) + 1 ≤ (czI (G_91.2.1 (F a 51)))))
    (hm102 : 100 - l6_102.toInt < (((N102) + 1 : Nat) : Int))
    (c106 : ¬ ((90 : Int) ≤ l6_102.toInt))
    (I112_0 : 0 ≤ l7_112.toInt ∧ l7_112.toInt ≤ 90)
    (I112_1 : (l5_112.toInt = 0 ∨ l5_112.toInt = 1) ∧ (czI (G_112.2.1 (F a 51))) ≤ (czI (G_91.2.1 (F a 51))) ∧ (l5_112.toInt = 1 → (czI (G_112.2.1 (F a 51))) + 1 ≤ (czI (G_91.2.1 (F a 51)))))
    (hm112 : 100 - l7_112.toInt < (((N112) + 1 : Nat) : Int))
    (c116 : ¬ ((90 : Int) ≤ l7_112.toInt))
    (f46 : (aI (G_112.2.1 (F a 51)) (l6_102.toInt)) = 0 ∨ (aI (G_112.2.1 (F a 51)) (l6_102.toInt)) = 1)
    (c126 : ¬ ((aI (G_112.2.1 (F a 51)) (l6_102.toInt)) ≠ 0))
    (f48 : (aI (G_112.2.1 (F a 51)) (l7_112.toInt)) = 0 ∨ (aI (G_112.2.1 (F a 51)) (l7_112.toInt)) = 1)
    (c136 : ¬ ((aI (G_112.2.1 (F a 51)) (l7_112.toInt)) = 0))
    (t144 : 0 ≤ l6_102.toInt → x144.toInt = l6_102.toInt / (30 : Int))
    (t149 : 0 ≤ l6_102.toInt → x149.toInt = l6_102.toInt % (30 : Int))
    (t154 : 0 ≤ l7_112.toInt → x154.toInt = l7_112.toInt / (30 : Int))
    (t159 : 0 ≤ l7_112.toInt → x159.toInt = l7_112.toInt % (30 : Int))
    (c163 : x160.toInt = 0) :
    l5_112.toInt = 0 → LZ (G.2.1 (F a 10)) (mw (G.2.1 (F a 1)) 0) (aI (G_112.2.1 (F a 51))) l6_102.toInt (l7_112.toInt + 1) := by
  intro h
  first
    | exact absurd h (by decide)
    | exact LZ_skip (lz (by omega)) (Or.inl (by omega))
    | (have e144 : x144.toInt = l6_102.toInt / 30 := by omega
       have e149 : x149.toInt = l6_102.toInt % 30 := by omega
       have e154 : x154.toInt = l7_112.toInt / 30 := by omega
       have e159 : x159.toInt = l7_112.toInt % 30 := by omega
       rw [e144, e149, e154, e159] at oq160
       exact LZ_skip (lz (by omega)) (Or.inr (oq160.resolve_left (fun h => by omega)).2))
