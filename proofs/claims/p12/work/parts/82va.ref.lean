theorem v_X11_leans_8_1 {F : Nat → Nat → Nat} (a : Nat) (G2 : XG) (G : XG)
    (hM : RM (G.2.1 (F a 1)) (0))
    (c_G2_F_a_1 : G2.2.1 (F a 1) = G.2.1 (F a 1)) :
    RM (G2.2.1 (F a 1)) 0 := by simp only [c_G2_F_a_1]; assumption
theorem v_X11_leans_25_2 {K : Nat → Nat} {F : Nat → Nat → Nat} (a : Nat) (G : XG) (p0 : Int32) (p1 : Int32) (x8 : Int32) (p2 : Int32)
    (ha : K a = 13)
    (z5 : ¬ (0 ≤ p0.toInt ∧ p0.toInt < 3 ∧ 0 ≤ p1.toInt ∧ p1.toInt < 30) → (cel (mw (G.2.1 (F a 1)) 0) (p0.toInt) (p1.toInt) 0) = -2000)
    (t8 : (x8.toInt = 1 ∧ (cel (mw (G.2.1 (F a 1)) 0) (p0.toInt) (p1.toInt) 0) ≠ -2000) ∨ (x8.toInt = 0 ∧ (cel (mw (G.2.1 (F a 1)) 0) (p0.toInt) (p1.toInt) 0) = -2000))
    (c11 : x8.toInt = 0) :
    (¬ (cel (mw (G.2.1 (F a 1)) 0) p0.toInt p1.toInt 0 ≠ -2000 ∧ 0 ≤ p2.toInt ∧ p2.toInt ≤ 1) ∧ (-1 : Int) = -1) ∨ ((cel (mw (G.2.1 (F a 1)) 0) p0.toInt p1.toInt 0 ≠ -2000 ∧ 0 ≤ p2.toInt ∧ p2.toInt ≤ 1) ∧ ((p2.toInt = 0 ∧ (-1 : Int) = bsI (lnI (G.2.1 (F a 10)) (mw (G.2.1 (F a 1)) 0) p0.toInt p1.toInt) 90) ∨ (p2.toInt = 1 ∧ ∃ g : Int → Int, (-1 : Int) = bsI (lnK g (30 * p0.toInt + p1.toInt)) 90 ∧ ∀ z : Int, 0 ≤ z → z < 90 → (g z = 1 ↔ RC1 (lnM (G.2.1 (F a 10)) (mw (G.2.1 (F a 1)) 0) 12) p0.toInt p1.toInt (z / 30) (z % 30))))) := by
  exact Or.inl ⟨by omega, rfl⟩
theorem v_X11_leans_253_3 {K : Nat → Nat} {F : Nat → Nat → Nat} (a : Nat) (G : XG) (G_32 : XG) (G_91 : XG) (l5_32 : Int32) (p0 : Int32) (p1 : Int32) (l5_91 : Int32) (x8 : Int32) (x18 : Int32) (p2 : Int32) (l4_32 : Int32) (N32 : Nat) (N91 : Nat) (l7_198 : Int32) (l6_198 : Int32) (N198 : Nat)
    (ha : K a = 13)
    (lq : LQ (G.2.1 (F a 10)) (mw (G.2.1 (F a 1)) 0) p0.toInt p1.toInt (aI (G_91.2.1 (F a 51))))
    (lz : l5_91.toInt = 0 → LZ (G.2.1 (F a 10)) (mw (G.2.1 (F a 1)) 0) (aI (G_91.2.1 (F a 51))) 90 0)
    (z5 : ¬ (0 ≤ p0.toInt ∧ p0.toInt < 3 ∧ 0 ≤ p1.toInt ∧ p1.toInt < 30) → (cel (mw (G.2.1 (F a 1)) 0) (p0.toInt) (p1.toInt) 0) = -2000)
    (t8 : (x8.toInt = 1 ∧ (cel (mw (G.2.1 (F a 1)) 0) (p0.toInt) (p1.toInt) 0) ≠ -2000) ∨ (x8.toInt = 0 ∧ (cel (mw (G.2.1 (F a 1)) 0) (p0.toInt) (p1.toInt) 0) = -2000))
    (c11 : ¬ (x8.toInt = 0))
    (t18 : (x18.toInt = 1 ∧ (0 : Int) ≤ p2.toInt ∧ p2.toInt ≤ (1 : Int)) ∨ (x18.toInt = 0 ∧ (p2.toInt < (0 : Int) ∨ (1 : Int) < p2.toInt)))
    (c21 : x18.toInt ≠ 0)
    (z29 : (bsI (lnI (G.2.1 (F a 10)) (mw (G.2.1 (F a 1)) 0) p0.toInt p1.toInt) 0) = 0)
    (I32_0 : 0 ≤ l5_32.toInt ∧ l5_32.toInt ≤ 90)
    (I32_1 : l4_32.toInt = (bsI (lnI (G.2.1 (F a 10)) (mw (G.2.1 (F a 1)) 0) p0.toInt p1.toInt) (l5_32.toInt)))
    (I32_2 : 0 ≤ l4_32.toInt ∧ l4_32.toInt ≤ l5_32.toInt)
    (hm32 : 2147483648 - l5_32.toInt < (((N32) + 1 : Nat) : Int))
    (c36 : (90 : Int) ≤ l5_32.toInt)
    (z88 : 0 ≤ (czI (G_32.2.1 (F a 51))) ∧ (czI (G_32.2.1 (F a 51))) ≤ 90)
    (z88a : l5_32.toInt = 90 → (bsI (lnI (G.2.1 (F a 10)) (mw (G.2.1 (F a 1)) 0) p0.toInt p1.toInt) (l5_32.toInt)) = (bsI (lnI (G.2.1 (F a 10)) (mw (G.2.1 (F a 1)) 0) p0.toInt p1.toInt) 90))
    (I91_0 : (l5_91.toInt = 0 ∨ l5_91.toInt = 1))
    (I91_1 : 0 ≤ (czI (G_91.2.1 (F a 51))) ∧ (czI (G_91.2.1 (F a 51))) ≤ 90)
    (hm91 : 2 * (czI (G_91.2.1 (F a 51))) + l5_91.toInt < (((N91) + 1 : Nat) : Int))
    (c93 : l5_91.toInt = 0)
    (z195 : (bsI (lnK (aI (G_91.2.1 (F a 51))) (30 * p0.toInt + p1.toInt)) 0) = 0)
    (I198_0 : 0 ≤ l7_198.toInt ∧ l7_198.toInt ≤ 90)
    (I198_1 : l6_198.toInt = (bsI (lnK (aI (G_91.2.1 (F a 51))) (30 * p0.toInt + p1.toInt)) (l7_198.toInt)))
    (I198_2 : 0 ≤ l6_198.toInt ∧ l6_198.toInt ≤ l7_198.toInt)
    (hm198 : 2147483648 - l7_198.toInt < (((N198) + 1 : Nat) : Int))
    (c202 : (90 : Int) ≤ l7_198.toInt)
    (z242 : l7_198.toInt = 90 → (bsI (lnK (aI (G_91.2.1 (F a 51))) (30 * p0.toInt + p1.toInt)) (l7_198.toInt)) = (bsI (lnK (aI (G_91.2.1 (F a 51))) (30 * p0.toInt + p1.toInt)) 90))
    (c243 : p2.toInt ≠ 0) :
    (¬ (cel (mw (G.2.1 (F a 1)) 0) p0.toInt p1.toInt 0 ≠ -2000 ∧ 0 ≤ p2.toInt ∧ p2.toInt ≤ 1) ∧ l6_198.toInt = -1) ∨ ((cel (mw (G.2.1 (F a 1)) 0) p0.toInt p1.toInt 0 ≠ -2000 ∧ 0 ≤ p2.toInt ∧ p2.toInt ≤ 1) ∧ ((p2.toInt = 0 ∧ l6_198.toInt = bsI (lnI (G.2.1 (F a 10)) (mw (G.2.1 (F a 1)) 0) p0.toInt p1.toInt) 90) ∨ (p2.toInt = 1 ∧ ∃ g : Int → Int, l6_198.toInt = bsI (lnK g (30 * p0.toInt + p1.toInt)) 90 ∧ ∀ z : Int, 0 ≤ z → z < 90 → (g z = 1 ↔ RC1 (lnM (G.2.1 (F a 10)) (mw (G.2.1 (F a 1)) 0) 12) p0.toInt p1.toInt (z / 30) (z % 30))))) := by
  first
    | exact Or.inr ⟨by omega, Or.inl ⟨by omega, by omega⟩⟩
    | exact Or.inr ⟨by omega, Or.inr ⟨by omega, aI (G_91.2.1 (F a 51)), by omega, LQ_end lq (lz (by omega))⟩⟩
theorem v_X11_leans_253_4 {K : Nat → Nat} {F : Nat → Nat → Nat} (a : Nat) (G : XG) (G_32 : XG) (G_91 : XG) (l5_32 : Int32) (p0 : Int32) (p1 : Int32) (l5_91 : Int32) (x8 : Int32) (x18 : Int32) (p2 : Int32) (l4_32 : Int32) (N32 : Nat) (N91 : Nat) (l7_198 : Int32) (l6_198 : Int32) (N198 : Nat)
    (ha : K a = 13)
    (lq : LQ (G.2.1 (F a 10)) (mw (G.2.1 (F a 1)) 0) p0.toInt p1.toInt (aI (G_91.2.1 (F a 51))))
    (lz : l5_91.toInt = 0 → LZ (G.2.1 (F a 10)) (mw (G.2.1 (F a 1)) 0) (aI (G_91.2.1 (F a 51))) 90 0)
    (z5 : ¬ (0 ≤ p0.toInt ∧ p0.toInt < 3 ∧ 0 ≤ p1.toInt ∧ p1.toInt < 30) → (cel (mw (G.2.1 (F a 1)) 0) (p0.toInt) (p1.toInt) 0) = -2000)
    (t8 : (x8.toInt = 1 ∧ (cel (mw (G.2.1 (F a 1)) 0) (p0.toInt) (p1.toInt) 0) ≠ -2000) ∨ (x8.toInt = 0 ∧ (cel (mw (G.2.1 (F a 1)) 0) (p0.toInt) (p1.toInt) 0) = -2000))
    (c11 : ¬ (x8.toInt = 0))
    (t18 : (x18.toInt = 1 ∧ (0 : Int) ≤ p2.toInt ∧ p2.toInt ≤ (1 : Int)) ∨ (x18.toInt = 0 ∧ (p2.toInt < (0 : Int) ∨ (1 : Int) < p2.toInt)))
    (c21 : x18.toInt ≠ 0)
    (z29 : (bsI (lnI (G.2.1 (F a 10)) (mw (G.2.1 (F a 1)) 0) p0.toInt p1.toInt) 0) = 0)
    (I32_0 : 0 ≤ l5_32.toInt ∧ l5_32.toInt ≤ 90)
    (I32_1 : l4_32.toInt = (bsI (lnI (G.2.1 (F a 10)) (mw (G.2.1 (F a 1)) 0) p0.toInt p1.toInt) (l5_32.toInt)))
    (I32_2 : 0 ≤ l4_32.toInt ∧ l4_32.toInt ≤ l5_32.toInt)
    (hm32 : 2147483648 - l5_32.toInt < (((N32) + 1 : Nat) : Int))
    (c36 : (90 : Int) ≤ l5_32.toInt)
    (z88 : 0 ≤ (czI (G_32.2.1 (F a 51))) ∧ (czI (G_32.2.1 (F a 51))) ≤ 90)
    (z88a : l5_32.toInt = 90 → (bsI (lnI (G.2.1 (F a 10)) (mw (G.2.1 (F a 1)) 0) p0.toInt p1.toInt) (l5_32.toInt)) = (bsI (lnI (G.2.1 (F a 10)) (mw (G.2.1 (F a 1)) 0) p0.toInt p1.toInt) 90))
    (I91_0 : (l5_91.toInt = 0 ∨ l5_91.toInt = 1))
    (I91_1 : 0 ≤ (czI (G_91.2.1 (F a 51))) ∧ (czI (G_91.2.1 (F a 51))) ≤ 90)
    (hm91 : 2 * (czI (G_91.2.1 (F a 51))) + l5_91.toInt < (((N91) + 1 : Nat) : Int))
    (c93 : l5_91.toInt = 0)
    (z195 : (bsI (lnK (aI (G_91.2.1 (F a 51))) (30 * p0.toInt + p1.toInt)) 0) = 0)
    (I198_0 : 0 ≤ l7_198.toInt ∧ l7_198.toInt ≤ 90)
    (I198_1 : l6_198.toInt = (bsI (lnK (aI (G_91.2.1 (F a 51))) (30 * p0.toInt + p1.toInt)) (l7_198.toInt)))
    (I198_2 : 0 ≤ l6_198.toInt ∧ l6_198.toInt ≤ l7_198.toInt)
    (hm198 : 2147483648 - l7_198.toInt < (((N198) + 1 : Nat) : Int))
    (c202 : (90 : Int) ≤ l7_198.toInt)
    (z242 : l7_198.toInt = 90 → (bsI (lnK (aI (G_91.2.1 (F a 51))) (30 * p0.toInt + p1.toInt)) (l7_198.toInt)) = (bsI (lnK (aI (G_91.2.1 (F a 51))) (30 * p0.toInt + p1.toInt)) 90))
    (c243 : ¬ (p2.toInt ≠ 0)) :
    (¬ (cel (mw (G.2.1 (F a 1)) 0) p0.toInt p1.toInt 0 ≠ -2000 ∧ 0 ≤ p2.toInt ∧ p2.toInt ≤ 1) ∧ l4_32.toInt = -1) ∨ ((cel (mw (G.2.1 (F a 1)) 0) p0.toInt p1.toInt 0 ≠ -2000 ∧ 0 ≤ p2.toInt ∧ p2.toInt ≤ 1) ∧ ((p2.toInt = 0 ∧ l4_32.toInt = bsI (lnI (G.2.1 (F a 10)) (mw (G.2.1 (F a 1)) 0) p0.toInt p1.toInt) 90) ∨ (p2.toInt = 1 ∧ ∃ g : Int → Int, l4_32.toInt = bsI (lnK g (30 * p0.toInt + p1.toInt)) 90 ∧ ∀ z : Int, 0 ≤ z → z < 90 → (g z = 1 ↔ RC1 (lnM (G.2.1 (F a 10)) (mw (G.2.1 (F a 1)) 0) 12) p0.toInt p1.toInt (z / 30) (z % 30))))) := by
  first
    | exact Or.inr ⟨by omega, Or.inl ⟨by omega, by omega⟩⟩
    | exact Or.inr ⟨by omega, Or.inr ⟨by omega, aI (G_91.2.1 (F a 51)), by omega, LQ_end lq (lz (by omega))⟩⟩
theorem v_X11_leans_189_5 {F : Nat → Nat → Nat} (a : Nat) (G : XG) (G_102 : XG) (p0 : Int32) (p1 : Int32)
    (lq : LQ (G.2.1 (F a 10)) (mw (G.2.1 (F a 1)) 0) p0.toInt p1.toInt (aI (G_102.2.1 (F a 51)))) :
    LQ (G.2.1 (F a 10)) (mw (G.2.1 (F a 1)) 0) p0.toInt p1.toInt (aI (G_102.2.1 (F a 51))) := by
  exact lq
theorem v_X11_leans_189_6 {K : Nat → Nat} {F : Nat → Nat → Nat} (a : Nat) (G : XG) (G_32 : XG) (G_91 : XG) (G_102 : XG) (l5_32 : Int32) (p0 : Int32) (p1 : Int32) (l5_102 : Int32) (l6_102 : Int32) (x8 : Int32) (x18 : Int32) (p2 : Int32) (l4_32 : Int32) (N32 : Nat) (l5_91 : Int32) (N91 : Nat) (N102 : Nat)
    (ha : K a = 13)
    (lq : LQ (G.2.1 (F a 10)) (mw (G.2.1 (F a 1)) 0) p0.toInt p1.toInt (aI (G_102.2.1 (F a 51))))
    (lz : l5_102.toInt = 0 → LZ (G.2.1 (F a 10)) (mw (G.2.1 (F a 1)) 0) (aI (G_102.2.1 (F a 51))) l6_102.toInt 0)
    (z5 : ¬ (0 ≤ p0.toInt ∧ p0.toInt < 3 ∧ 0 ≤ p1.toInt ∧ p1.toInt < 30) → (cel (mw (G.2.1 (F a 1)) 0) (p0.toInt) (p1.toInt) 0) = -2000)
    (t8 : (x8.toInt = 1 ∧ (cel (mw (G.2.1 (F a 1)) 0) (p0.toInt) (p1.toInt) 0) ≠ -2000) ∨ (x8.toInt = 0 ∧ (cel (mw (G.2.1 (F a 1)) 0) (p0.toInt) (p1.toInt) 0) = -2000))
    (c11 : ¬ (x8.toInt = 0))
    (t18 : (x18.toInt = 1 ∧ (0 : Int) ≤ p2.toInt ∧ p2.toInt ≤ (1 : Int)) ∨ (x18.toInt = 0 ∧ (p2.toInt < (0 : Int) ∨ (1 : Int) < p2.toInt)))
    (c21 : x18.toInt ≠ 0)
    (z29 : (bsI (lnI (G.2.1 (F a 10)) (mw (G.2.1 (F a 1)) 0) p0.toInt p1.toInt) 0) = 0)
    (I32_0 : 0 ≤ l5_32.toInt ∧ l5_32.toInt ≤ 90)
    (I32_1 : l4_32.toInt = (bsI (lnI (G.2.1 (F a 10)) (mw (G.2.1 (F a 1)) 0) p0.toInt p1.toInt) (l5_32.toInt)))
    (I32_2 : 0 ≤ l4_32.toInt ∧ l4_32.toInt ≤ l5_32.toInt)
    (hm32 : 2147483648 - l5_32.toInt < (((N32) + 1 : Nat) : Int))
    (c36 : (90 : Int) ≤ l5_32.toInt)
    (z88 : 0 ≤ (czI (G_32.2.1 (F a 51))) ∧ (czI (G_32.2.1 (F a 51))) ≤ 90)
    (z88a : l5_32.toInt = 90 → (bsI (lnI (G.2.1 (F a 10)) (mw (G.2.1 (F a 1)) 0) p0.toInt p1.toInt) (l5_32.toInt)) = (bsI (lnI (G.2.1 (F a 10)) (mw (G.2.1 (F a 1)) 0) p0.toInt p1.toInt) 90))
    (I91_0 : (l5_91.toInt = 0 ∨ l5_91.toInt = 1))
    (I91_1 : 0 ≤ (czI (G_91.2.1 (F a 51))) ∧ (czI (G_91.2.1 (F a 51))) ≤ 90)
    (hm91 : 2 * (czI (G_91.2.1 (F a 51))) + l5_91.toInt < (((N91) + 1 : Nat) : Int))
    (c93 : ¬ (l5_91.toInt = 0))
    (I102_0 : 0 ≤ l6_102.toInt ∧ l6_102.toInt ≤ 90)
    (I102_1 : (l5_102.toInt = 0 ∨ l5_102.toInt = 1) ∧ (czI (G_102.2.1 (F a 51))) ≤ (czI (G_91.2.1 (F a 51))) ∧ (l5_102.toInt = 1 → (czI (G_102.2.1 (F a 51))) + 1 ≤ (czI (G_91.2.1 (F a 51)))))
    (hm102 : 100 - l6_102.toInt < (((N102) + 1 : Nat) : Int))
    (c106 : (90 : Int) ≤ l6_102.toInt)
    (z189 : 0 ≤ (czI (G_102.2.1 (F a 51))) ∧ (czI (G_102.2.1 (F a 51))) ≤ 90) :
    l5_102.toInt = 0 → LZ (G.2.1 (F a 10)) (mw (G.2.1 (F a 1)) 0) (aI (G_102.2.1 (F a 51))) 90 0 := by
  intro h
  have e : l6_102.toInt = 90 := by omega
  have h2 := lz (by omega)
  rw [e] at h2
  exact h2
theorem v_X11_leans_186_7 {F : Nat → Nat → Nat} (a : Nat) (G : XG) (G_112 : XG) (p0 : Int32) (p1 : Int32)
    (lq : LQ (G.2.1 (F a 10)) (mw (G.2.1 (F a 1)) 0) p0.toInt p1.toInt (aI (G_112.2.1 (F a 51)))) :
    LQ (G.2.1 (F a 10)) (mw (G.2.1 (F a 1)) 0) p0.toInt p1.toInt (aI (G_112.2.1 (F a 51))) := by
  exact lq
theorem v_X11_leans_186_8 {K : Nat → Nat} {F : Nat → Nat → Nat} (a : Nat) (G : XG) (G_32 : XG) (G_91 : XG) (G_102 : XG) (G_112 : XG) (l5_32 : Int32) (p0 : Int32) (p1 : Int32) (l5_112 : Int32) (l6_102 : Int32) (l7_112 : Int32) (x8 : Int32) (x18 : Int32) (p2 : Int32) (l4_32 : Int32) (N32 : Nat) (l5_91 : Int32) (N91 : Nat) (l5_102 : Int32) (N102 : Nat) (N112 : Nat)
    (ha : K a = 13)
    (lq : LQ (G.2.1 (F a 10)) (mw (G.2.1 (F a 1)) 0) p0.toInt p1.toInt (aI (G_112.2.1 (F a 51))))
    (lz : l5_112.toInt = 0 → LZ (G.2.1 (F a 10)) (mw (G.2.1 (F a 1)) 0) (aI (G_112.2.1 (F a 51))) l6_102.toInt l7_112.toInt)
    (z5 : ¬ (0 ≤ p0.toInt ∧ p0.toInt < 3 ∧ 0 ≤ p1.toInt ∧ p1.toInt < 30) → (cel (mw (G.2.1 (F a 1)) 0) (p0.toInt) (p1.toInt) 0) = -2000)
    (t8 : (x8.toInt = 1 ∧ (cel (mw (G.2.1 (F a 1)) 0) (p0.toInt) (p1.toInt) 0) ≠ -2000) ∨ (x8.toInt = 0 ∧ (cel (mw (G.2.1 (F a 1)) 0) (p0.toInt) (p1.toInt) 0) = -2000))
    (c11 : ¬ (x8.toInt = 0))
    (t18 : (x18.toInt = 1 ∧ (0 : Int) ≤ p2.toInt ∧ p2.toInt ≤ (1 : Int)) ∨ (x18.toInt = 0 ∧ (p2.toInt < (0 : Int) ∨ (1 : Int) < p2.toInt)))
    (c21 : x18.toInt ≠ 0)
    (z29 : (bsI (lnI (G.2.1 (F a 10)) (mw (G.2.1 (F a 1)) 0) p0.toInt p1.toInt) 0) = 0)
    (I32_0 : 0 ≤ l5_32.toInt ∧ l5_32.toInt ≤ 90)
    (I32_1 : l4_32.toInt = (bsI (lnI (G.2.1 (F a 10)) (mw (G.2.1 (F a 1)) 0) p0.toInt p1.toInt) (l5_32.toInt)))
    (I32_2 : 0 ≤ l4_32.toInt ∧ l4_32.toInt ≤ l5_32.toInt)
    (hm32 : 2147483648 - l5_32.toInt < (((N32) + 1 : Nat) : Int))
    (c36 : (90 : Int) ≤ l5_32.toInt)
    (z88 : 0 ≤ (czI (G_32.2.1 (F a 51))) ∧ (czI (G_32.2.1 (F a 51))) ≤ 90)
    (z88a : l5_32.toInt = 90 → (bsI (lnI (G.2.1 (F a 10)) (mw (G.2.1 (F a 1)) 0) p0.toInt p1.toInt) (l5_32.toInt)) = (bsI (lnI (G.2.1 (F a 10)) (mw (G.2.1 (F a 1)) 0) p0.toInt p1.toInt) 90))
    (I91_0 : (l5_91.toInt = 0 ∨ l5_91.toInt = 1))
    (I91_1 : 0 ≤ (czI (G_91.2.1 (F a 51))) ∧ (czI (G_91.2.1 (F a 51))) ≤ 90)
    (hm91 : 2 * (czI (G_91.2.1 (F a 51))) + l5_91.toInt < (((N91) + 1 : Nat) : Int))
    (c93 : ¬ (l5_91.toInt = 0))
    (I102_0 : 0 ≤ l6_102.toInt ∧ l6_102.toInt ≤ 90)
    (I102_1 : (l5_102.toInt = 0 ∨ l5_102.toInt = 1) ∧ (czI (G_102.2.1 (F a 51))) ≤ (czI (G_91.2.1 (F a 51))) ∧ (l5_102.toInt = 1 → (czI (G_102.2.1 (F a 51))) + 1 ≤ (czI (G_91.2.1 (F a 51)))))
    (hm102 : 100 - l6_102.toInt < (((N102) + 1 : Nat) : Int))
    (c106 : ¬ ((90 : Int) ≤ l6_102.toInt))
    (I112_0 : 0 ≤ l7_112.toInt ∧ l7_112.toInt ≤ 90)
    (I112_1 : (l5_112.toInt = 0 ∨ l5_112.toInt = 1) ∧ (czI (G_112.2.1 (F a 51))) ≤ (czI (G_91.2.1 (F a 51))) ∧ (l5_112.toInt = 1 → (czI (G_112.2.1 (F a 51))) + 1 ≤ (czI (G_91.2.1 (F a 51)))))
    (hm112 : 100 - l7_112.toInt < (((N112) + 1 : Nat) : Int))
    (c116 : (90 : Int) ≤ l7_112.toInt) :
    l5_112.toInt = 0 → LZ (G.2.1 (F a 10)) (mw (G.2.1 (F a 1)) 0) (aI (G_112.2.1 (F a 51))) (l6_102.toInt + 1) 0 := by
  intro h
  first
    | exact LZ_row (lz (by omega)) (by omega)
    | exact LZ_one (lz (by omega)).1 (by omega)
