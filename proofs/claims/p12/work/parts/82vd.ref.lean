theorem v_X11_leans_89_25 {F : Nat → Nat → Nat} (a : Nat) (G : XG) (G_32 : XG) :
    (1 : Int) = 0 → LZ (G.2.1 (F a 10)) (mw (G.2.1 (F a 1)) 0) (aI (G_32.2.1 (F a 51))) 90 0 := by
  intro h
  exact absurd h (by decide)
theorem v_X11_leans_58_26 {F : Nat → Nat → Nat} (a : Nat) (G : XG) (G_32 : XG)
    (hR : RV (G.2.1 (F a 10)))
    (c_G_32_F_a_10 : G_32.2.1 (F a 10) = G.2.1 (F a 10)) :
    RV (G_32.2.1 (F a 10)) := by simp only [c_G_32_F_a_10]; assumption
theorem v_X11_leans_58_27 {F : Nat → Nat → Nat} (a : Nat) (G : XG) (G_32 : XG)
    (hM : RM (G.2.1 (F a 1)) (0))
    (c_G_32_F_a_1 : G_32.2.1 (F a 1) = G.2.1 (F a 1)) :
    RM (G_32.2.1 (F a 1)) (0) := by simp only [c_G_32_F_a_1]; assumption
theorem v_X11_leans_62_28 {K : Nat → Nat} {F : Nat → Nat → Nat} (a : Nat) (G : XG) (l5_32 : Int32) (x58 : Int32) (p0 : Int32) (p1 : Int32) (x50 : Int32) (x55 : Int32) (x8 : Int32) (x18 : Int32) (p2 : Int32) (l4_32 : Int32) (N32 : Nat)
    (ha : K a = 13)
    (oq58 : (x58.toInt = 1 ∧ lnM (G.2.1 (F a 10)) (mw (G.2.1 (F a 1)) 0) 12 x50.toInt x55.toInt p0.toInt p1.toInt) ∨ (x58.toInt = 0 ∧ ¬ lnM (G.2.1 (F a 10)) (mw (G.2.1 (F a 1)) 0) 12 x50.toInt x55.toInt p0.toInt p1.toInt))
    (z5 : ¬ (0 ≤ p0.toInt ∧ p0.toInt < 3 ∧ 0 ≤ p1.toInt ∧ p1.toInt < 30) → (cel (mw (G.2.1 (F a 1)) 0) (p0.toInt) (p1.toInt) 0) = -2000)
    (t8 : (x8.toInt = 1 ∧ (cel (mw (G.2.1 (F a 1)) 0) (p0.toInt) (p1.toInt) 0) ≠ -2000) ∨ (x8.toInt = 0 ∧ (cel (mw (G.2.1 (F a 1)) 0) (p0.toInt) (p1.toInt) 0) = -2000))
    (c11 : ¬ (x8.toInt = 0))
    (t18 : (x18.toInt = 1 ∧ (0 : Int) ≤ p2.toInt ∧ p2.toInt ≤ (1 : Int)) ∨ (x18.toInt = 0 ∧ (p2.toInt < (0 : Int) ∨ (1 : Int) < p2.toInt)))
    (c21 : x18.toInt ≠ 0)
    (z29 : (bsI (lnI (G.2.1 (F a 10)) (mw (G.2.1 (F a 1)) 0) p0.toInt p1.toInt) 0) = 0)
    (I32_0 : 0 ≤ l5_32.toInt ∧ l5_32.toInt ≤ 90)
    (I32_1 : l4_32.toInt = (bsI (lnI (G.2.1 (F a 10)) (mw (G.2.1 (F a 1)) 0) p0.toInt p1.toInt) (l5_32.toInt)))
    (I32_2 : 0 ≤ l4_32.toInt ∧ l4_32.toInt ≤ l5_32.toInt)
    (hm32 : 2147483648 - l5_32.toInt < (((N32) + 1 : Nat) : Int))
    (c36 : ¬ ((90 : Int) ≤ l5_32.toInt))
    (t50 : 0 ≤ l5_32.toInt → x50.toInt = l5_32.toInt / (30 : Int))
    (t55 : 0 ≤ l5_32.toInt → x55.toInt = l5_32.toInt % (30 : Int)) :
    (x58.toInt = 1 → (lnI (G.2.1 (F a 10)) (mw (G.2.1 (F a 1)) 0) p0.toInt p1.toInt (l5_32.toInt)) = 1) ∧ (x58.toInt = 0 → (lnI (G.2.1 (F a 10)) (mw (G.2.1 (F a 1)) 0) p0.toInt p1.toInt (l5_32.toInt)) = 0) := by
  have e50 : x50.toInt = l5_32.toInt / 30 := by omega
  have e55 : x55.toInt = l5_32.toInt % 30 := by omega
  rw [e50, e55] at oq58
  rcases oq58 with ⟨a1, a2⟩ | ⟨a1, a2⟩
  · exact ⟨fun _ => lnI_y a2, fun h => absurd (a1.symm.trans h) (by decide)⟩
  · exact ⟨fun h => absurd (a1.symm.trans h) (by decide), fun _ => lnI_n a2⟩
theorem v_X11_leans_85_29 {K : Nat → Nat} {F : Nat → Nat → Nat} (a : Nat) (G : XG) (G_32 : XG) (G61 : XG) (l5_32 : Int32) (x58 : Int32) (p0 : Int32) (p1 : Int32) (x50 : Int32) (x55 : Int32) (l4_32 : Int32) (x8 : Int32) (x18 : Int32) (p2 : Int32) (N32 : Nat)
    (ha : K a = 13)
    (hG61 : G61 = cput G_32 (F a 51) l5_32.toNatClampNeg x58)
    (ps : ∀ z : Int, 0 ≤ z → z < l5_32.toInt → ((aI (G_32.2.1 (F a 51))) z = 1 ∧ lnM (G.2.1 (F a 10)) (mw (G.2.1 (F a 1)) 0) 12 (z / 30) (z % 30) p0.toInt p1.toInt) ∨ ((aI (G_32.2.1 (F a 51))) z = 0 ∧ ¬ lnM (G.2.1 (F a 10)) (mw (G.2.1 (F a 1)) 0) 12 (z / 30) (z % 30) p0.toInt p1.toInt))
    (oq58 : (x58.toInt = 1 ∧ lnM (G.2.1 (F a 10)) (mw (G.2.1 (F a 1)) 0) 12 x50.toInt x55.toInt p0.toInt p1.toInt) ∨ (x58.toInt = 0 ∧ ¬ lnM (G.2.1 (F a 10)) (mw (G.2.1 (F a 1)) 0) 12 x50.toInt x55.toInt p0.toInt p1.toInt))
    (z5 : ¬ (0 ≤ p0.toInt ∧ p0.toInt < 3 ∧ 0 ≤ p1.toInt ∧ p1.toInt < 30) → (cel (mw (G.2.1 (F a 1)) 0) (p0.toInt) (p1.toInt) 0) = -2000)
    (t8 : (x8.toInt = 1 ∧ (cel (mw (G.2.1 (F a 1)) 0) (p0.toInt) (p1.toInt) 0) ≠ -2000) ∨ (x8.toInt = 0 ∧ (cel (mw (G.2.1 (F a 1)) 0) (p0.toInt) (p1.toInt) 0) = -2000))
    (c11 : ¬ (x8.toInt = 0))
    (t18 : (x18.toInt = 1 ∧ (0 : Int) ≤ p2.toInt ∧ p2.toInt ≤ (1 : Int)) ∨ (x18.toInt = 0 ∧ (p2.toInt < (0 : Int) ∨ (1 : Int) < p2.toInt)))
    (c21 : x18.toInt ≠ 0)
    (z29 : (bsI (lnI (G.2.1 (F a 10)) (mw (G.2.1 (F a 1)) 0) p0.toInt p1.toInt) 0) = 0)
    (I32_0 : 0 ≤ l5_32.toInt ∧ l5_32.toInt ≤ 90)
    (I32_1 : l4_32.toInt = (bsI (lnI (G.2.1 (F a 10)) (mw (G.2.1 (F a 1)) 0) p0.toInt p1.toInt) (l5_32.toInt)))
    (I32_2 : 0 ≤ l4_32.toInt ∧ l4_32.toInt ≤ l5_32.toInt)
    (hm32 : 2147483648 - l5_32.toInt < (((N32) + 1 : Nat) : Int))
    (c36 : ¬ ((90 : Int) ≤ l5_32.toInt))
    (t50 : 0 ≤ l5_32.toInt → x50.toInt = l5_32.toInt / (30 : Int))
    (t55 : 0 ≤ l5_32.toInt → x55.toInt = l5_32.toInt % (30 : Int))
    (lni62 : (x58.toInt = 1 → (lnI (G.2.1 (F a 10)) (mw (G.2.1 (F a 1)) 0) p0.toInt p1.toInt (l5_32.toInt)) = 1) ∧ (x58.toInt = 0 → (lnI (G.2.1 (F a 10)) (mw (G.2.1 (F a 1)) 0) p0.toInt p1.toInt (l5_32.toInt)) = 0))
    (z62 : (bsI (lnI (G.2.1 (F a 10)) (mw (G.2.1 (F a 1)) 0) p0.toInt p1.toInt) (l5_32.toInt + 1)) = (bsI (lnI (G.2.1 (F a 10)) (mw (G.2.1 (F a 1)) 0) p0.toInt p1.toInt) (l5_32.toInt)) + (lnI (G.2.1 (F a 10)) (mw (G.2.1 (F a 1)) 0) p0.toInt p1.toInt (l5_32.toInt)))
    (hc70 : (l5_32.toInt = l5_32.toInt → (aI (G61.2.1 (F a 51)) (l5_32.toInt)) = x58.toInt) ∧ (l5_32.toInt ≠ l5_32.toInt → (aI (G61.2.1 (F a 51)) (l5_32.toInt)) = (aI (G_32.2.1 (F a 51)) (l5_32.toInt))))
    (f33 : (aI (G61.2.1 (F a 51)) (l5_32.toInt)) = 0 ∨ (aI (G61.2.1 (F a 51)) (l5_32.toInt)) = 1)
    (c71 : (aI (G61.2.1 (F a 51)) (l5_32.toInt)) = 0) :
    ∀ z : Int, 0 ≤ z → z < (l5_32.toInt + 1) → ((aI (G61.2.1 (F a 51))) z = 1 ∧ lnM (G.2.1 (F a 10)) (mw (G.2.1 (F a 1)) 0) 12 (z / 30) (z % 30) p0.toInt p1.toInt) ∨ ((aI (G61.2.1 (F a 51))) z = 0 ∧ ¬ lnM (G.2.1 (F a 10)) (mw (G.2.1 (F a 1)) 0) 12 (z / 30) (z % 30) p0.toInt p1.toInt) := by
  have e50 : x50.toInt = l5_32.toInt / 30 := by omega
  have e55 : x55.toInt = l5_32.toInt % 30 := by omega
  rw [e50, e55] at oq58
  intro z z0 z1
  rw [aI_pu hG61 rfl rfl rfl (by omega) z z0]
  by_cases e : z = l5_32.toInt
  · rw [if_pos e, e]; exact oq58
  · rw [if_neg e]; exact ps z z0 (by omega)
theorem v_X11_leans_85_30 {K : Nat → Nat} {F : Nat → Nat → Nat} (a : Nat) (G : XG) (G_32 : XG) (G61 : XG) (l5_32 : Int32) (x58 : Int32) (p0 : Int32) (p1 : Int32) (x50 : Int32) (x55 : Int32) (l4_32 : Int32) (x8 : Int32) (x18 : Int32) (p2 : Int32) (N32 : Nat)
    (ha : K a = 13)
    (hG61 : G61 = cput G_32 (F a 51) l5_32.toNatClampNeg x58)
    (ps : ∀ z : Int, 0 ≤ z → z < l5_32.toInt → ((aI (G_32.2.1 (F a 51))) z = 1 ∧ lnM (G.2.1 (F a 10)) (mw (G.2.1 (F a 1)) 0) 12 (z / 30) (z % 30) p0.toInt p1.toInt) ∨ ((aI (G_32.2.1 (F a 51))) z = 0 ∧ ¬ lnM (G.2.1 (F a 10)) (mw (G.2.1 (F a 1)) 0) 12 (z / 30) (z % 30) p0.toInt p1.toInt))
    (oq58 : (x58.toInt = 1 ∧ lnM (G.2.1 (F a 10)) (mw (G.2.1 (F a 1)) 0) 12 x50.toInt x55.toInt p0.toInt p1.toInt) ∨ (x58.toInt = 0 ∧ ¬ lnM (G.2.1 (F a 10)) (mw (G.2.1 (F a 1)) 0) 12 x50.toInt x55.toInt p0.toInt p1.toInt))
    (z5 : ¬ (0 ≤ p0.toInt ∧ p0.toInt < 3 ∧ 0 ≤ p1.toInt ∧ p1.toInt < 30) → (cel (mw (G.2.1 (F a 1)) 0) (p0.toInt) (p1.toInt) 0) = -2000)
    (t8 : (x8.toInt = 1 ∧ (cel (mw (G.2.1 (F a 1)) 0) (p0.toInt) (p1.toInt) 0) ≠ -2000) ∨ (x8.toInt = 0 ∧ (cel (mw (G.2.1 (F a 1)) 0) (p0.toInt) (p1.toInt) 0) = -2000))
    (c11 : ¬ (x8.toInt = 0))
    (t18 : (x18.toInt = 1 ∧ (0 : Int) ≤ p2.toInt ∧ p2.toInt ≤ (1 : Int)) ∨ (x18.toInt = 0 ∧ (p2.toInt < (0 : Int) ∨ (1 : Int) < p2.toInt)))
    (c21 : x18.toInt ≠ 0)
    (z29 : (bsI (lnI (G.2.1 (F a 10)) (mw (G.2.1 (F a 1)) 0) p0.toInt p1.toInt) 0) = 0)
    (I32_0 : 0 ≤ l5_32.toInt ∧ l5_32.toInt ≤ 90)
    (I32_1 : l4_32.toInt = (bsI (lnI (G.2.1 (F a 10)) (mw (G.2.1 (F a 1)) 0) p0.toInt p1.toInt) (l5_32.toInt)))
    (I32_2 : 0 ≤ l4_32.toInt ∧ l4_32.toInt ≤ l5_32.toInt)
    (hm32 : 2147483648 - l5_32.toInt < (((N32) + 1 : Nat) : Int))
    (c36 : ¬ ((90 : Int) ≤ l5_32.toInt))
    (t50 : 0 ≤ l5_32.toInt → x50.toInt = l5_32.toInt / (30 : Int))
    (t55 : 0 ≤ l5_32.toInt → x55.toInt = l5_32.toInt % (30 : Int))
    (lni62 : (x58.toInt = 1 → (lnI (G.2.1 (F a 10)) (mw (G.2.1 (F a 1)) 0) p0.toInt p1.toInt (l5_32.toInt)) = 1) ∧ (x58.toInt = 0 → (lnI (G.2.1 (F a 10)) (mw (G.2.1 (F a 1)) 0) p0.toInt p1.toInt (l5_32.toInt)) = 0))
    (z62 : (bsI (lnI (G.2.1 (F a 10)) (mw (G.2.1 (F a 1)) 0) p0.toInt p1.toInt) (l5_32.toInt + 1)) = (bsI (lnI (G.2.1 (F a 10)) (mw (G.2.1 (F a 1)) 0) p0.toInt p1.toInt) (l5_32.toInt)) + (lnI (G.2.1 (F a 10)) (mw (G.2.1 (F a 1)) 0) p0.toInt p1.toInt (l5_32.toInt)))
    (hc70 : (l5_32.toInt = l5_32.toInt → (aI (G61.2.1 (F a 51)) (l5_32.toInt)) = x58.toInt) ∧ (l5_32.toInt ≠ l5_32.toInt → (aI (G61.2.1 (F a 51)) (l5_32.toInt)) = (aI (G_32.2.1 (F a 51)) (l5_32.toInt))))
    (f33 : (aI (G61.2.1 (F a 51)) (l5_32.toInt)) = 0 ∨ (aI (G61.2.1 (F a 51)) (l5_32.toInt)) = 1)
    (c71 : ¬ ((aI (G61.2.1 (F a 51)) (l5_32.toInt)) = 0)) :
    ∀ z : Int, 0 ≤ z → z < (l5_32.toInt + 1) → ((aI (G61.2.1 (F a 51))) z = 1 ∧ lnM (G.2.1 (F a 10)) (mw (G.2.1 (F a 1)) 0) 12 (z / 30) (z % 30) p0.toInt p1.toInt) ∨ ((aI (G61.2.1 (F a 51))) z = 0 ∧ ¬ lnM (G.2.1 (F a 10)) (mw (G.2.1 (F a 1)) 0) 12 (z / 30) (z % 30) p0.toInt p1.toInt) := by
  have e50 : x50.toInt = l5_32.toInt / 30 := by omega
  have e55 : x55.toInt = l5_32.toInt % 30 := by omega
  rw [e50, e55] at oq58
  intro z z0 z1
  rw [aI_pu hG61 rfl rfl rfl (by omega) z z0]
  by_cases e : z = l5_32.toInt
  · rw [if_pos e, e]; exact oq58
  · rw [if_neg e]; exact ps z z0 (by omega)
theorem v_X11_leans_30_31 {K : Nat → Nat} {F : Nat → Nat → Nat} (a : Nat) (G : XG) (p0 : Int32) (p1 : Int32) (x8 : Int32) (x18 : Int32) (p2 : Int32)
    (ha : K a = 13)
    (z5 : ¬ (0 ≤ p0.toInt ∧ p0.toInt < 3 ∧ 0 ≤ p1.toInt ∧ p1.toInt < 30) → (cel (mw (G.2.1 (F a 1)) 0) (p0.toInt) (p1.toInt) 0) = -2000)
    (t8 : (x8.toInt = 1 ∧ (cel (mw (G.2.1 (F a 1)) 0) (p0.toInt) (p1.toInt) 0) ≠ -2000) ∨ (x8.toInt = 0 ∧ (cel (mw (G.2.1 (F a 1)) 0) (p0.toInt) (p1.toInt) 0) = -2000))
    (c11 : ¬ (x8.toInt = 0))
    (t18 : (x18.toInt = 1 ∧ (0 : Int) ≤ p2.toInt ∧ p2.toInt ≤ (1 : Int)) ∨ (x18.toInt = 0 ∧ (p2.toInt < (0 : Int) ∨ (1 : Int) < p2.toInt)))
    (c21 : x18.toInt ≠ 0)
    (z29 : (bsI (lnI (G.2.1 (F a 10)) (mw (G.2.1 (F a 1)) 0) p0.toInt p1.toInt) 0) = 0) :
    ∀ z : Int, 0 ≤ z → z < (0 : Int) → ((aI (G.2.1 (F a 51))) z = 1 ∧ lnM (G.2.1 (F a 10)) (mw (G.2.1 (F a 1)) 0) 12 (z / 30) (z % 30) p0.toInt p1.toInt) ∨ ((aI (G.2.1 (F a 51))) z = 0 ∧ ¬ lnM (G.2.1 (F a 10)) (mw (G.2.1 (F a 1)) 0) 12 (z / 30) (z % 30) p0.toInt p1.toInt) := by
  intro z z0 z1
  exact absurd z0 (by omega)
theorem v_X11_leans_25_32 {K : Nat → Nat} {F : Nat → Nat → Nat} (a : Nat) (G : XG) (p0 : Int32) (p1 : Int32) (x8 : Int32) (x18 : Int32) (p2 : Int32)
    (ha : K a = 13)
    (z5 : ¬ (0 ≤ p0.toInt ∧ p0.toInt < 3 ∧ 0 ≤ p1.toInt ∧ p1.toInt < 30) → (cel (mw (G.2.1 (F a 1)) 0) (p0.toInt) (p1.toInt) 0) = -2000)
    (t8 : (x8.toInt = 1 ∧ (cel (mw (G.2.1 (F a 1)) 0) (p0.toInt) (p1.toInt) 0) ≠ -2000) ∨ (x8.toInt = 0 ∧ (cel (mw (G.2.1 (F a 1)) 0) (p0.toInt) (p1.toInt) 0) = -2000))
    (c11 : ¬ (x8.toInt = 0))
    (t18 : (x18.toInt = 1 ∧ (0 : Int) ≤ p2.toInt ∧ p2.toInt ≤ (1 : Int)) ∨ (x18.toInt = 0 ∧ (p2.toInt < (0 : Int) ∨ (1 : Int) < p2.toInt)))
    (c21 : ¬ (x18.toInt ≠ 0)) :
    (¬ (cel (mw (G.2.1 (F a 1)) 0) p0.toInt p1.toInt 0 ≠ -2000 ∧ 0 ≤ p2.toInt ∧ p2.toInt ≤ 1) ∧ (-1 : Int) = -1) ∨ ((cel (mw (G.2.1 (F a 1)) 0) p0.toInt p1.toInt 0 ≠ -2000 ∧ 0 ≤ p2.toInt ∧ p2.toInt ≤ 1) ∧ ((p2.toInt = 0 ∧ (-1 : Int) = bsI (lnI (G.2.1 (F a 10)) (mw (G.2.1 (F a 1)) 0) p0.toInt p1.toInt) 90) ∨ (p2.toInt = 1 ∧ ∃ g : Int → Int, (-1 : Int) = bsI (lnK g (30 * p0.toInt + p1.toInt)) 90 ∧ ∀ z : Int, 0 ≤ z → z < 90 → (g z = 1 ↔ RC1 (lnM (G.2.1 (F a 10)) (mw (G.2.1 (F a 1)) 0) 12) p0.toInt p1.toInt (z / 30) (z % 30))))) := by
  exact Or.inl ⟨by omega, rfl⟩
