theorem v_X10_sign_22_1 {K : Nat → Nat} {F : Nat → Nat → Nat} (a : Nat) (G : XG) (G5 : XG) (x5 : Int32) (p0 : Int32)
    (ha : K a = 12)
    (oq5 : (x5.toInt = 0 ∧ G5.2.1 (F (F a 0) 0) = (G.2.1 (F (F a 0) 0))) ∨ (x5.toInt = 1 ∧ ∀ z : Int, 0 ≤ z → aI (G5.2.1 (F (F a 0) 0)) z = if ((G.1 (F a 0) 1).toInt) ≤ z ∧ z < ((G.1 (F a 0) 1).toInt) + 4 then bqI p0 (24 - 8 * (z - ((G.1 (F a 0) 1).toInt))) else aI (G.2.1 (F (F a 0) 0)) z))
    (n0 : 0 ≤ ((G.1 (F a 0) 1).toInt) ∧ ((G.1 (F a 0) 1).toInt) ≤ 80)
    (t5 : (76 < ((G.1 (F a 0) 1).toInt) ∧ x5.toInt = 0 ∧ ((G5.1 (F a 0) 1).toInt) = ((G.1 (F a 0) 1).toInt)) ∨ (((G.1 (F a 0) 1).toInt) ≤ 76 ∧ x5.toInt = 1 ∧ ((G5.1 (F a 0) 1).toInt) = ((G.1 (F a 0) 1).toInt) + 4))
    (c8 : x5.toInt = 0) :
    ((-1 : Int) = -1 ∧ G5.2.1 (F (F a 0) 0) = (G.2.1 (F (F a 0) 0))) ∨ ((-1 : Int) ≠ -1 ∧ ∀ z : Int, 0 ≤ z → aI (G5.2.1 (F (F a 0) 0)) z = if ((G.1 (F a 0) 1).toInt) ≤ z ∧ z < ((G.1 (F a 0) 1).toInt) + 4 then bqI p0 (24 - 8 * (z - ((G.1 (F a 0) 1).toInt))) else aI (G.2.1 (F (F a 0) 0)) z) := by
  rcases oq5 with ⟨h1, h2⟩ | ⟨h1, h2⟩
  · first
      | (exfalso; omega)
      | exact Or.inl ⟨by omega, h2⟩
  · first
      | (exfalso; omega)
      | exact Or.inr ⟨by omega, h2⟩
theorem v_X10_sign_22_2 {K : Nat → Nat} {F : Nat → Nat → Nat} (a : Nat) (G : XG) (G5 : XG) (x5 : Int32) (p0 : Int32)
    (ha : K a = 12)
    (oq5 : (x5.toInt = 0 ∧ G5.2.1 (F (F a 0) 0) = (G.2.1 (F (F a 0) 0))) ∨ (x5.toInt = 1 ∧ ∀ z : Int, 0 ≤ z → aI (G5.2.1 (F (F a 0) 0)) z = if ((G.1 (F a 0) 1).toInt) ≤ z ∧ z < ((G.1 (F a 0) 1).toInt) + 4 then bqI p0 (24 - 8 * (z - ((G.1 (F a 0) 1).toInt))) else aI (G.2.1 (F (F a 0) 0)) z))
    (n0 : 0 ≤ ((G.1 (F a 0) 1).toInt) ∧ ((G.1 (F a 0) 1).toInt) ≤ 80)
    (t5 : (76 < ((G.1 (F a 0) 1).toInt) ∧ x5.toInt = 0 ∧ ((G5.1 (F a 0) 1).toInt) = ((G.1 (F a 0) 1).toInt)) ∨ (((G.1 (F a 0) 1).toInt) ≤ 76 ∧ x5.toInt = 1 ∧ ((G5.1 (F a 0) 1).toInt) = ((G.1 (F a 0) 1).toInt) + 4))
    (c8 : ¬ (x5.toInt = 0)) :
    (((G5.1 (F a 0) 1).toInt) = -1 ∧ G5.2.1 (F (F a 0) 0) = (G.2.1 (F (F a 0) 0))) ∨ (((G5.1 (F a 0) 1).toInt) ≠ -1 ∧ ∀ z : Int, 0 ≤ z → aI (G5.2.1 (F (F a 0) 0)) z = if ((G.1 (F a 0) 1).toInt) ≤ z ∧ z < ((G.1 (F a 0) 1).toInt) + 4 then bqI p0 (24 - 8 * (z - ((G.1 (F a 0) 1).toInt))) else aI (G.2.1 (F (F a 0) 0)) z) := by
  rcases oq5 with ⟨h1, h2⟩ | ⟨h1, h2⟩
  · first
      | (exfalso; omega)
      | exact Or.inl ⟨by omega, h2⟩
  · first
      | (exfalso; omega)
      | exact Or.inr ⟨by omega, h2⟩
