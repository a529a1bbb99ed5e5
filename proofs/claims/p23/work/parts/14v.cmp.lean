theorem v_X1_offerValues_78_1 {F : Nat → Nat → Nat} (a : Nat) (G : XG)
    (so : SO (G.2.1 (F a 2)) ((G.1 a 3).toInt)) :
    SO (G.2.1 (F a 2)) ((G.1 a 3).toInt) := by
  first | exact oq75 | exact oq60 | exact so
theorem v_X1_offerValues_78_2 {K : Nat → Nat} {F : Nat → Nat → Nat} (a : Nat) (p0 : Nat) (p1 : Nat) (p2 : Nat) (G : XG) (p3 : Int32) (x51 : Int32) (x66 : Int32)
    (ha : K a = 3)
    (hp0 : K p0 = 9)
    (hp1 : K p1 = 8)
    (hp2 : K p2 = 8)
    (so : SO (G.2.1 (F a 2)) ((G.1 a 3).toInt))
    (s0 : 0 ≤ ((G.1 a 3).toInt) ∧ ((G.1 a 3).toInt) ≤ 88)
    (c36 : (cel (vw (G.2.1 (F p1 0))) ((G.1 p0 2).toInt) (p3.toInt) ((G.1 p0 3).toInt)) ≠ (cel (vw (G.2.1 (F p2 0))) ((G.1 p0 2).toInt) (p3.toInt) ((G.1 p0 3).toInt)))
    (t51 : ((((((G.1 p0 0).toInt) = 2 ∨ ((G.1 p0 0).toInt) = 4 ∨ ((G.1 p0 0).toInt) = 5) ∧ 0 ≤ (cel (vw (G.2.1 (F p1 0))) ((G.1 p0 2).toInt) (p3.toInt) ((G.1 p0 3).toInt)) ∧ (cel (vw (G.2.1 (F p1 0))) ((G.1 p0 2).toInt) (p3.toInt) ((G.1 p0 3).toInt)) < 30) ∨ (¬ (((G.1 p0 0).toInt) = 2 ∨ ((G.1 p0 0).toInt) = 4 ∨ ((G.1 p0 0).toInt) = 5) ∧ -99 ≤ (cel (vw (G.2.1 (F p1 0))) ((G.1 p0 2).toInt) (p3.toInt) ((G.1 p0 3).toInt)) ∧ (cel (vw (G.2.1 (F p1 0))) ((G.1 p0 2).toInt) (p3.toInt) ((G.1 p0 3).toInt)) ≤ 99)) ∧ x51.toInt = 1) ∨ (¬ (((((G.1 p0 0).toInt) = 2 ∨ ((G.1 p0 0).toInt) = 4 ∨ ((G.1 p0 0).toInt) = 5) ∧ 0 ≤ (cel (vw (G.2.1 (F p1 0))) ((G.1 p0 2).toInt) (p3.toInt) ((G.1 p0 3).toInt)) ∧ (cel (vw (G.2.1 (F p1 0))) ((G.1 p0 2).toInt) (p3.toInt) ((G.1 p0 3).toInt)) < 30) ∨ (¬ (((G.1 p0 0).toInt) = 2 ∨ ((G.1 p0 0).toInt) = 4 ∨ ((G.1 p0 0).toInt) = 5) ∧ -99 ≤ (cel (vw (G.2.1 (F p1 0))) ((G.1 p0 2).toInt) (p3.toInt) ((G.1 p0 3).toInt)) ∧ (cel (vw (G.2.1 (F p1 0))) ((G.1 p0 2).toInt) (p3.toInt) ((G.1 p0 3).toInt)) ≤ 99)) ∧ x51.toInt = 0))
    (c54 : x51.toInt = 0)
    (t66 : ((((((G.1 p0 0).toInt) = 2 ∨ ((G.1 p0 0).toInt) = 4 ∨ ((G.1 p0 0).toInt) = 5) ∧ 0 ≤ (cel (vw (G.2.1 (F p2 0))) ((G.1 p0 2).toInt) (p3.toInt) ((G.1 p0 3).toInt)) ∧ (cel (vw (G.2.1 (F p2 0))) ((G.1 p0 2).toInt) (p3.toInt) ((G.1 p0 3).toInt)) < 30) ∨ (¬ (((G.1 p0 0).toInt) = 2 ∨ ((G.1 p0 0).toInt) = 4 ∨ ((G.1 p0 0).toInt) = 5) ∧ -99 ≤ (cel (vw (G.2.1 (F p2 0))) ((G.1 p0 2).toInt) (p3.toInt) ((G.1 p0 3).toInt)) ∧ (cel (vw (G.2.1 (F p2 0))) ((G.1 p0 2).toInt) (p3.toInt) ((G.1 p0 3).toInt)) ≤ 99)) ∧ x66.toInt = 1) ∨ (¬ (((((G.1 p0 0).toInt) = 2 ∨ ((G.1 p0 0).toInt) = 4 ∨ ((G.1 p0 0).toInt) = 5) ∧ 0 ≤ (cel (vw (G.2.1 (F p2 0))) ((G.1 p0 2).toInt) (p3.toInt) ((G.1 p0 3).toInt)) ∧ (cel (vw (G.2.1 (F p2 0))) ((G.1 p0 2).toInt) (p3.toInt) ((G.1 p0 3).toInt)) < 30) ∨ (¬ (((G.1 p0 0).toInt) = 2 ∨ ((G.1 p0 0).toInt) = 4 ∨ ((G.1 p0 0).toInt) = 5) ∧ -99 ≤ (cel (vw (G.2.1 (F p2 0))) ((G.1 p0 2).toInt) (p3.toInt) ((G.1 p0 3).toInt)) ∧ (cel (vw (G.2.1 (F p2 0))) ((G.1 p0 2).toInt) (p3.toInt) ((G.1 p0 3).toInt)) ≤ 99)) ∧ x66.toInt = 0))
    (c69 : x66.toInt = 0) :
    ∀ y : Int, MB (G.2.1 (F a 2)) ((G.1 a 3).toInt) y ↔ MB (G.2.1 (F a 2)) ((G.1 a 3).toInt) y ∨ OV ((G.1 p0 0).toInt) (cel (vw (G.2.1 (F p1 0))) ((G.1 p0 2).toInt) (p3.toInt) ((G.1 p0 3).toInt)) (cel (vw (G.2.1 (F p2 0))) ((G.1 p0 2).toInt) (p3.toInt) ((G.1 p0 3).toInt)) y := by
  intro y
  first | rw [oq75a y, oq60a y] | rw [oq75a y] | rw [oq60a y] | skip
  unfold OV sbj
  by_cases M : MB (G.2.1 (F a 2)) ((G.1 a 3).toInt) y
  · simp only [M, true_or]
  · simp only [M, false_or]
    constructor <;> intro hh <;> first | exact hh.elim | omega
theorem v_X1_offerValues_75_3 {F : Nat → Nat → Nat} (a : Nat) (G : XG)
    (so : SO (G.2.1 (F a 2)) ((G.1 a 3).toInt)) :
    SO (G.2.1 (F a 2)) ((G.1 a 3).toInt) := by
  first | exact oq60 | exact so
theorem v_X1_offerValues_78_4 {F : Nat → Nat → Nat} (a : Nat) (G : XG) (G75 : XG)
    (so : SO (G.2.1 (F a 2)) ((G.1 a 3).toInt))
    (oq75 : SO (G75.2.1 (F a 2)) ((G75.1 a 3).toInt)) :
    SO (G75.2.1 (F a 2)) ((G75.1 a 3).toInt) := by
  first | exact oq75 | exact oq60 | exact so
theorem v_X1_offerValues_78_5 {K : Nat → Nat} {F : Nat → Nat → Nat} (a : Nat) (p0 : Nat) (p1 : Nat) (p2 : Nat) (G : XG) (G75 : XG) (p3 : Int32) (x51 : Int32) (x66 : Int32)
    (ha : K a = 3)
    (hp0 : K p0 = 9)
    (hp1 : K p1 = 8)
    (hp2 : K p2 = 8)
    (so : SO (G.2.1 (F a 2)) ((G.1 a 3).toInt))
    (oq75 : SO (G75.2.1 (F a 2)) ((G75.1 a 3).toInt))
    (oq75a : ∀ y : Int, MB (G75.2.1 (F a 2)) ((G75.1 a 3).toInt) y ↔ MB (G.2.1 (F a 2)) ((G.1 a 3).toInt) y ∨ y = (cel (vw (G.2.1 (F p2 0))) ((G.1 p0 2).toInt) (p3.toInt) ((G.1 p0 3).toInt)))
    (s0 : 0 ≤ ((G.1 a 3).toInt) ∧ ((G.1 a 3).toInt) ≤ 88)
    (c36 : (cel (vw (G.2.1 (F p1 0))) ((G.1 p0 2).toInt) (p3.toInt) ((G.1 p0 3).toInt)) ≠ (cel (vw (G.2.1 (F p2 0))) ((G.1 p0 2).toInt) (p3.toInt) ((G.1 p0 3).toInt)))
    (t51 : ((((((G.1 p0 0).toInt) = 2 ∨ ((G.1 p0 0).toInt) = 4 ∨ ((G.1 p0 0).toInt) = 5) ∧ 0 ≤ (cel (vw (G.2.1 (F p1 0))) ((G.1 p0 2).toInt) (p3.toInt) ((G.1 p0 3).toInt)) ∧ (cel (vw (G.2.1 (F p1 0))) ((G.1 p0 2).toInt) (p3.toInt) ((G.1 p0 3).toInt)) < 30) ∨ (¬ (((G.1 p0 0).toInt) = 2 ∨ ((G.1 p0 0).toInt) = 4 ∨ ((G.1 p0 0).toInt) = 5) ∧ -99 ≤ (cel (vw (G.2.1 (F p1 0))) ((G.1 p0 2).toInt) (p3.toInt) ((G.1 p0 3).toInt)) ∧ (cel (vw (G.2.1 (F p1 0))) ((G.1 p0 2).toInt) (p3.toInt) ((G.1 p0 3).toInt)) ≤ 99)) ∧ x51.toInt = 1) ∨ (¬ (((((G.1 p0 0).toInt) = 2 ∨ ((G.1 p0 0).toInt) = 4 ∨ ((G.1 p0 0).toInt) = 5) ∧ 0 ≤ (cel (vw (G.2.1 (F p1 0))) ((G.1 p0 2).toInt) (p3.toInt) ((G.1 p0 3).toInt)) ∧ (cel (vw (G.2.1 (F p1 0))) ((G.1 p0 2).toInt) (p3.toInt) ((G.1 p0 3).toInt)) < 30) ∨ (¬ (((G.1 p0 0).toInt) = 2 ∨ ((G.1 p0 0).toInt) = 4 ∨ ((G.1 p0 0).toInt) = 5) ∧ -99 ≤ (cel (vw (G.2.1 (F p1 0))) ((G.1 p0 2).toInt) (p3.toInt) ((G.1 p0 3).toInt)) ∧ (cel (vw (G.2.1 (F p1 0))) ((G.1 p0 2).toInt) (p3.toInt) ((G.1 p0 3).toInt)) ≤ 99)) ∧ x51.toInt = 0))
    (c54 : x51.toInt = 0)
    (t66 : ((((((G.1 p0 0).toInt) = 2 ∨ ((G.1 p0 0).toInt) = 4 ∨ ((G.1 p0 0).toInt) = 5) ∧ 0 ≤ (cel (vw (G.2.1 (F p2 0))) ((G.1 p0 2).toInt) (p3.toInt) ((G.1 p0 3).toInt)) ∧ (cel (vw (G.2.1 (F p2 0))) ((G.1 p0 2).toInt) (p3.toInt) ((G.1 p0 3).toInt)) < 30) ∨ (¬ (((G.1 p0 0).toInt) = 2 ∨ ((G.1 p0 0).toInt) = 4 ∨ ((G.1 p0 0).toInt) = 5) ∧ -99 ≤ (cel (vw (G.2.1 (F p2 0))) ((G.1 p0 2).toInt) (p3.toInt) ((G.1 p0 3).toInt)) ∧ (cel (vw (G.2.1 (F p2 0))) ((G.1 p0 2).toInt) (p3.toInt) ((G.1 p0 3).toInt)) ≤ 99)) ∧ x66.toInt = 1) ∨ (¬ (((((G.1 p0 0).toInt) = 2 ∨ ((G.1 p0 0).toInt) = 4 ∨ ((G.1 p0 0).toInt) = 5) ∧ 0 ≤ (cel (vw (G.2.1 (F p2 0))) ((G.1 p0 2).toInt) (p3.toInt) ((G.1 p0 3).toInt)) ∧ (cel (vw (G.2.1 (F p2 0))) ((G.1 p0 2).toInt) (p3.toInt) ((G.1 p0 3).toInt)) < 30) ∨ (¬ (((G.1 p0 0).toInt) = 2 ∨ ((G.1 p0 0).toInt) = 4 ∨ ((G.1 p0 0).toInt) = 5) ∧ -99 ≤ (cel (vw (G.2.1 (F p2 0))) ((G.1 p0 2).toInt) (p3.toInt) ((G.1 p0 3).toInt)) ∧ (cel (vw (G.2.1 (F p2 0))) ((G.1 p0 2).toInt) (p3.toInt) ((G.1 p0 3).toInt)) ≤ 99)) ∧ x66.toInt = 0))
    (c69 : ¬ (x66.toInt = 0))
    (t75 : ((G.1 a 3).toInt) ≤ ((G75.1 a 3).toInt) ∧ ((G75.1 a 3).toInt) ≤ ((G.1 a 3).toInt) + 1) :
    ∀ y : Int, MB (G75.2.1 (F a 2)) ((G75.1 a 3).toInt) y ↔ MB (G.2.1 (F a 2)) ((G.1 a 3).toInt) y ∨ OV ((G.1 p0 0).toInt) (cel (vw (G.2.1 (F p1 0))) ((G.1 p0 2).toInt) (p3.toInt) ((G.1 p0 3).toInt)) (cel (vw (G.2.1 (F p2 0))) ((G.1 p0 2).toInt) (p3.toInt) ((G.1 p0 3).toInt)) y := by
  intro y
  first | rw [oq75a y, oq60a y] | rw [oq75a y] | rw [oq60a y] | skip
  unfold OV sbj
  by_cases M : MB (G.2.1 (F a 2)) ((G.1 a 3).toInt) y
  · simp only [M, true_or]
  · simp only [M, false_or]
    constructor <;> intro hh <;> first | exact hh.elim | omega
theorem v_X1_offerValues_60_6 {F : Nat → Nat → Nat} (a : Nat) (G : XG)
    (so : SO (G.2.1 (F a 2)) ((G.1 a 3).toInt)) :
    SO (G.2.1 (F a 2)) ((G.1 a 3).toInt) := by
  exact so
theorem v_X1_offerValues_78_7 {F : Nat → Nat → Nat} (a : Nat) (G : XG) (G60 : XG)
    (so : SO (G.2.1 (F a 2)) ((G.1 a 3).toInt))
    (oq60 : SO (G60.2.1 (F a 2)) ((G60.1 a 3).toInt)) :
    SO (G60.2.1 (F a 2)) ((G60.1 a 3).toInt) := by
  first | exact oq75 | exact oq60 | exact so
theorem v_X1_offerValues_78_8 {K : Nat → Nat} {F : Nat → Nat → Nat} (a : Nat) (p0 : Nat) (p1 : Nat) (p2 : Nat) (G : XG) (G60 : XG) (p3 : Int32) (x51 : Int32) (x66 : Int32)
    (ha : K a = 3)
    (hp0 : K p0 = 9)
    (hp1 : K p1 = 8)
    (hp2 : K p2 = 8)
    (so : SO (G.2.1 (F a 2)) ((G.1 a 3).toInt))
    (oq60 : SO (G60.2.1 (F a 2)) ((G60.1 a 3).toInt))
    (oq60a : ∀ y : Int, MB (G60.2.1 (F a 2)) ((G60.1 a 3).toInt) y ↔ MB (G.2.1 (F a 2)) ((G.1 a 3).toInt) y ∨ y = (cel (vw (G.2.1 (F p1 0))) ((G.1 p0 2).toInt) (p3.toInt) ((G.1 p0 3).toInt)))
    (s0 : 0 ≤ ((G.1 a 3).toInt) ∧ ((G.1 a 3).toInt) ≤ 88)
    (c36 : (cel (vw (G.2.1 (F p1 0))) ((G.1 p0 2).toInt) (p3.toInt) ((G.1 p0 3).toInt)) ≠ (cel (vw (G.2.1 (F p2 0))) ((G.1 p0 2).toInt) (p3.toInt) ((G.1 p0 3).toInt)))
    (t51 : ((((((G.1 p0 0).toInt) = 2 ∨ ((G.1 p0 0).toInt) = 4 ∨ ((G.1 p0 0).toInt) = 5) ∧ 0 ≤ (cel (vw (G.2.1 (F p1 0))) ((G.1 p0 2).toInt) (p3.toInt) ((G.1 p0 3).toInt)) ∧ (cel (vw (G.2.1 (F p1 0))) ((G.1 p0 2).toInt) (p3.toInt) ((G.1 p0 3).toInt)) < 30) ∨ (¬ (((G.1 p0 0).toInt) = 2 ∨ ((G.1 p0 0).toInt) = 4 ∨ ((G.1 p0 0).toInt) = 5) ∧ -99 ≤ (cel (vw (G.2.1 (F p1 0))) ((G.1 p0 2).toInt) (p3.toInt) ((G.1 p0 3).toInt)) ∧ (cel (vw (G.2.1 (F p1 0))) ((G.1 p0 2).toInt) (p3.toInt) ((G.1 p0 3).toInt)) ≤ 99)) ∧ x51.toInt = 1) ∨ (¬ (((((G.1 p0 0).toInt) = 2 ∨ ((G.1 p0 0).toInt) = 4 ∨ ((G.1 p0 0).toInt) = 5) ∧ 0 ≤ (cel (vw (G.2.1 (F p1 0))) ((G.1 p0 2).toInt) (p3.toInt) ((G.1 p0 3).toInt)) ∧ (cel (vw (G.2.1 (F p1 0))) ((G.1 p0 2).toInt) (p3.toInt) ((G.1 p0 3).toInt)) < 30) ∨ (¬ (((G.1 p0 0).toInt) = 2 ∨ ((G.1 p0 0).toInt) = 4 ∨ ((G.1 p0 0).toInt) = 5) ∧ -99 ≤ (cel (vw (G.2.1 (F p1 0))) ((G.1 p0 2).toInt) (p3.toInt) ((G.1 p0 3).toInt)) ∧ (cel (vw (G.2.1 (F p1 0))) ((G.1 p0 2).toInt) (p3.toInt) ((G.1 p0 3).toInt)) ≤ 99)) ∧ x51.toInt = 0))
    (c54 : ¬ (x51.toInt = 0))
    (t60 : ((G.1 a 3).toInt) ≤ ((G60.1 a 3).toInt) ∧ ((G60.1 a 3).toInt) ≤ ((G.1 a 3).toInt) + 1)
    (t66 : ((((((G.1 p0 0).toInt) = 2 ∨ ((G.1 p0 0).toInt) = 4 ∨ ((G.1 p0 0).toInt) = 5) ∧ 0 ≤ (cel (vw (G.2.1 (F p2 0))) ((G.1 p0 2).toInt) (p3.toInt) ((G.1 p0 3).toInt)) ∧ (cel (vw (G.2.1 (F p2 0))) ((G.1 p0 2).toInt) (p3.toInt) ((G.1 p0 3).toInt)) < 30) ∨ (¬ (((G.1 p0 0).toInt) = 2 ∨ ((G.1 p0 0).toInt) = 4 ∨ ((G.1 p0 0).toInt) = 5) ∧ -99 ≤ (cel (vw (G.2.1 (F p2 0))) ((G.1 p0 2).toInt) (p3.toInt) ((G.1 p0 3).toInt)) ∧ (cel (vw (G.2.1 (F p2 0))) ((G.1 p0 2).toInt) (p3.toInt) ((G.1 p0 3).toInt)) ≤ 99)) ∧ x66.toInt = 1) ∨ (¬ (((((G.1 p0 0).toInt) = 2 ∨ ((G.1 p0 0).toInt) = 4 ∨ ((G.1 p0 0).toInt) = 5) ∧ 0 ≤ (cel (vw (G.2.1 (F p2 0))) ((G.1 p0 2).toInt) (p3.toInt) ((G.1 p0 3).toInt)) ∧ (cel (vw (G.2.1 (F p2 0))) ((G.1 p0 2).toInt) (p3.toInt) ((G.1 p0 3).toInt)) < 30) ∨ (¬ (((G.1 p0 0).toInt) = 2 ∨ ((G.1 p0 0).toInt) = 4 ∨ ((G.1 p0 0).toInt) = 5) ∧ -99 ≤ (cel (vw (G.2.1 (F p2 0))) ((G.1 p0 2).toInt) (p3.toInt) ((G.1 p0 3).toInt)) ∧ (cel (vw (G.2.1 (F p2 0))) ((G.1 p0 2).toInt) (p3.toInt) ((G.1 p0 3).toInt)) ≤ 99)) ∧ x66.toInt = 0))
    (c69 : x66.toInt = 0) :
    ∀ y : Int, MB (G60.2.1 (F a 2)) ((G60.1 a 3).toInt) y ↔ MB (G.2.1 (F a 2)) ((G.1 a 3).toInt) y ∨ OV ((G.1 p0 0).toInt) (cel (vw (G.2.1 (F p1 0))) ((G.1 p0 2).toInt) (p3.toInt) ((G.1 p0 3).toInt)) (cel (vw (G.2.1 (F p2 0))) ((G.1 p0 2).toInt) (p3.toInt) ((G.1 p0 3).toInt)) y := by
  intro y
  first | rw [oq75a y, oq60a y] | rw [oq75a y] | rw [oq60a y] | skip
  unfold OV sbj
  by_cases M : MB (G.2.1 (F a 2)) ((G.1 a 3).toInt) y
  · simp only [M, true_or]
  · simp only [M, false_or]
    constructor <;> intro hh <;> first | exact hh.elim | omega
theorem v_X1_offerValues_75_9 {F : Nat → Nat → Nat} (a : Nat) (G : XG) (G60 : XG)
    (so : SO (G.2.1 (F a 2)) ((G.1 a 3).toInt))
    (oq60 : SO (G60.2.1 (F a 2)) ((G60.1 a 3).toInt)) :
    SO (G60.2.1 (F a 2)) ((G60.1 a 3).toInt) := by
  first | exact oq60 | exact so
theorem v_X1_offerValues_78_10 {F : Nat → Nat → Nat} (a : Nat) (G : XG) (G60 : XG) (G75 : XG)
    (so : SO (G.2.1 (F a 2)) ((G.1 a 3).toInt))
    (oq60 : SO (G60.2.1 (F a 2)) ((G60.1 a 3).toInt))
    (oq75 : SO (G75.2.1 (F a 2)) ((G75.1 a 3).toInt)) :
    SO (G75.2.1 (F a 2)) ((G75.1 a 3).toInt) := by
  first | exact oq75 | exact oq60 | exact so
theorem v_X1_offerValues_78_11 {K : Nat → Nat} {F : Nat → Nat → Nat} (a : Nat) (p0 : Nat) (p1 : Nat) (p2 : Nat) (G : XG) (G60 : XG) (G75 : XG) (p3 : Int32) (x51 : Int32) (x66 : Int32)
    (ha : K a = 3)
    (hp0 : K p0 = 9)
    (hp1 : K p1 = 8)
    (hp2 : K p2 = 8)
    (so : SO (G.2.1 (F a 2)) ((G.1 a 3).toInt))
    (oq60 : SO (G60.2.1 (F a 2)) ((G60.1 a 3).toInt))
    (oq60a : ∀ y : Int, MB (G60.2.1 (F a 2)) ((G60.1 a 3).toInt) y ↔ MB (G.2.1 (F a 2)) ((G.1 a 3).toInt) y ∨ y = (cel (vw (G.2.1 (F p1 0))) ((G.1 p0 2).toInt) (p3.toInt) ((G.1 p0 3).toInt)))
    (oq75 : SO (G75.2.1 (F a 2)) ((G75.1 a 3).toInt))
    (oq75a : ∀ y : Int, MB (G75.2.1 (F a 2)) ((G75.1 a 3).toInt) y ↔ MB (G60.2.1 (F a 2)) ((G60.1 a 3).toInt) y ∨ y = (cel (vw (G.2.1 (F p2 0))) ((G.1 p0 2).toInt) (p3.toInt) ((G.1 p0 3).toInt)))
    (s0 : 0 ≤ ((G.1 a 3).toInt) ∧ ((G.1 a 3).toInt) ≤ 88)
    (c36 : (cel (vw (G.2.1 (F p1 0))) ((G.1 p0 2).toInt) (p3.toInt) ((G.1 p0 3).toInt)) ≠ (cel (vw (G.2.1 (F p2 0))) ((G.1 p0 2).toInt) (p3.toInt) ((G.1 p0 3).toInt)))
    (t51 : ((((((G.1 p0 0).toInt) = 2 ∨ ((G.1 p0 0).toInt) = 4 ∨ ((G.1 p0 0).toInt) = 5) ∧ 0 ≤ (cel (vw (G.2.1 (F p1 0))) ((G.1 p0 2).toInt) (p3.toInt) ((G.1 p0 3).toInt)) ∧ (cel (vw (G.2.1 (F p1 0))) ((G.1 p0 2).toInt) (p3.toInt) ((G.1 p0 3).toInt)) < 30) ∨ (¬ (((G.1 p0 0).toInt) = 2 ∨ ((G.1 p0 0).toInt) = 4 ∨ ((G.1 p0 0).toInt) = 5) ∧ -99 ≤ (cel (vw (G.2.1 (F p1 0))) ((G.1 p0 2).toInt) (p3.toInt) ((G.1 p0 3).toInt)) ∧ (cel (vw (G.2.1 (F p1 0))) ((G.1 p0 2).toInt) (p3.toInt) ((G.1 p0 3).toInt)) ≤ 99)) ∧ x51.toInt = 1) ∨ (¬ (((((G.1 p0 0).toInt) = 2 ∨ ((G.1 p0 0).toInt) = 4 ∨ ((G.1 p0 0).toInt) = 5) ∧ 0 ≤ (cel (vw (G.2.1 (F p1 0))) ((G.1 p0 2).toInt) (p3.toInt) ((G.1 p0 3).toInt)) ∧ (cel (vw (G.2.1 (F p1 0))) ((G.1 p0 2).toInt) (p3.toInt) ((G.1 p0 3).toInt)) < 30) ∨ (¬ (((G.1 p0 0).toInt) = 2 ∨ ((G.1 p0 0).toInt) = 4 ∨ ((G.1 p0 0).toInt) = 5) ∧ -99 ≤ (cel (vw (G.2.1 (F p1 0))) ((G.1 p0 2).toInt) (p3.toInt) ((G.1 p0 3).toInt)) ∧ (cel (vw (G.2.1 (F p1 0))) ((G.1 p0 2).toInt) (p3.toInt) ((G.1 p0 3).toInt)) ≤ 99)) ∧ x51.toInt = 0))
    (c54 : ¬ (x51.toInt = 0))
    (t60 : ((G.1 a 3).toInt) ≤ ((G60.1 a 3).toInt) ∧ ((G60.1 a 3).toInt) ≤ ((G.1 a 3).toInt) + 1)
    (t66 : ((((((G.1 p0 0).toInt) = 2 ∨ ((G.1 p0 0).toInt) = 4 ∨ ((G.1 p0 0).toInt) = 5) ∧ 0 ≤ (cel (vw (G.2.1 (F p2 0))) ((G.1 p0 2).toInt) (p3.toInt) ((G.1 p0 3).toInt)) ∧ (cel (vw (G.2.1 (F p2 0))) ((G.1 p0 2).toInt) (p3.toInt) ((G.1 p0 3).toInt)) < 30) ∨ (¬ (((G.1 p0 0).toInt) = 2 ∨ ((G.1 p0 0).toInt) = 4 ∨ ((G.1 p0 0).toInt) = 5) ∧ -99 ≤ (cel (vw (G.2.1 (F p2 0))) ((G.1 p0 2).toInt) (p3.toInt) ((G.1 p0 3).toInt)) ∧ (cel (vw (G.2.1 (F p2 0))) ((G.1 p0 2).toInt) (p3.toInt) ((G.1 p0 3).toInt)) ≤ 99)) ∧ x66.toInt = 1) ∨ (¬ (((((G.1 p0 0).toInt) = 2 ∨ ((G.1 p0 0).toInt) = 4 ∨ ((G.1 p0 0).toInt) = 5) ∧ 0 ≤ (cel (vw (G.2.1 (F p2 0))) ((G.1 p0 2).toInt) (p3.toInt) ((G.1 p0 3).toInt)) ∧ (cel (vw (G.2.1 (F p2 0))) ((G.1 p0 2).toInt) (p3.toInt) ((G.1 p0 3).toInt)) < 30) ∨ (¬ (((G.1 p0 0).toInt) = 2 ∨ ((G.1 p0 0).toInt) = 4 ∨ ((G.1 p0 0).toInt) = 5) ∧ -99 ≤ (cel (vw (G.2.1 (F p2 0))) ((G.1 p0 2).toInt) (p3.toInt) ((G.1 p0 3).toInt)) ∧ (cel (vw (G.2.1 (F p2 0))) ((G.1 p0 2).toInt) (p3.toInt) ((G.1 p0 3).toInt)) ≤ 99)) ∧ x66.toInt = 0))
    (c69 : ¬ (x66.toInt = 0))
    (t75 : ((G60.1 a 3).toInt) ≤ ((G75.1 a 3).toInt) ∧ ((G75.1 a 3).toInt) ≤ ((G60.1 a 3).toInt) + 1) :
    ∀ y : Int, MB (G75.2.1 (F a 2)) ((G75.1 a 3).toInt) y ↔ MB (G.2.1 (F a 2)) ((G.1 a 3).toInt) y ∨ OV ((G.1 p0 0).toInt) (cel (vw (G.2.1 (F p1 0))) ((G.1 p0 2).toInt) (p3.toInt) ((G.1 p0 3).toInt)) (cel (vw (G.2.1 (F p2 0))) ((G.1 p0 2).toInt) (p3.toInt) ((G.1 p0 3).toInt)) y := by
  intro y
  first | rw [oq75a y, oq60a y] | rw [oq75a y] | rw [oq60a y] | skip
  unfold OV sbj
  by_cases M : MB (G.2.1 (F a 2)) ((G.1 a 3).toInt) y
  · simp only [M, true_or]
  · simp only [M, false_or]
    constructor <;> intro hh <;> first | exact hh.elim | omega
theorem v_X1_offerValues_78_12 {F : Nat → Nat → Nat} (a : Nat) (G : XG)
    (so : SO (G.2.1 (F a 2)) ((G.1 a 3).toInt)) :
    SO (G.2.1 (F a 2)) ((G.1 a 3).toInt) := by
  first | exact oq75 | exact oq60 | exact so
theorem v_X1_offerValues_78_13 {K : Nat → Nat} {F : Nat → Nat → Nat} (a : Nat) (p0 : Nat) (p1 : Nat) (p2 : Nat) (G : XG) (p3 : Int32) (x51 : Int32) (x66 : Int32)
    (ha : K a = 3)
    (hp0 : K p0 = 9)
    (hp1 : K p1 = 8)
    (hp2 : K p2 = 8)
    (so : SO (G.2.1 (F a 2)) ((G.1 a 3).toInt))
    (s0 : 0 ≤ ((G.1 a 3).toInt) ∧ ((G.1 a 3).toInt) ≤ 88)
    (c36 : ¬ ((cel (vw (G.2.1 (F p1 0))) ((G.1 p0 2).toInt) (p3.toInt) ((G.1 p0 3).toInt)) ≠ (cel (vw (G.2.1 (F p2 0))) ((G.1 p0 2).toInt) (p3.toInt) ((G.1 p0 3).toInt))))
    (c44 : ((G.1 p0 0).toInt) = (3 : Int))
    (t51 : ((((((G.1 p0 0).toInt) = 2 ∨ ((G.1 p0 0).toInt) = 4 ∨ ((G.1 p0 0).toInt) = 5) ∧ 0 ≤ (cel (vw (G.2.1 (F p1 0))) ((G.1 p0 2).toInt) (p3.toInt) ((G.1 p0 3).toInt)) ∧ (cel (vw (G.2.1 (F p1 0))) ((G.1 p0 2).toInt) (p3.toInt) ((G.1 p0 3).toInt)) < 30) ∨ (¬ (((G.1 p0 0).toInt) = 2 ∨ ((G.1 p0 0).toInt) = 4 ∨ ((G.1 p0 0).toInt) = 5) ∧ -99 ≤ (cel (vw (G.2.1 (F p1 0))) ((G.1 p0 2).toInt) (p3.toInt) ((G.1 p0 3).toInt)) ∧ (cel (vw (G.2.1 (F p1 0))) ((G.1 p0 2).toInt) (p3.toInt) ((G.1 p0 3).toInt)) ≤ 99)) ∧ x51.toInt = 1) ∨ (¬ (((((G.1 p0 0).toInt) = 2 ∨ ((G.1 p0 0).toInt) = 4 ∨ ((G.1 p0 0).toInt) = 5) ∧ 0 ≤ (cel (vw (G.2.1 (F p1 0))) ((G.1 p0 2).toInt) (p3.toInt) ((G.1 p0 3).toInt)) ∧ (cel (vw (G.2.1 (F p1 0))) ((G.1 p0 2).toInt) (p3.toInt) ((G.1 p0 3).toInt)) < 30) ∨ (¬ (((G.1 p0 0).toInt) = 2 ∨ ((G.1 p0 0).toInt) = 4 ∨ ((G.1 p0 0).toInt) = 5) ∧ -99 ≤ (cel (vw (G.2.1 (F p1 0))) ((G.1 p0 2).toInt) (p3.toInt) ((G.1 p0 3).toInt)) ∧ (cel (vw (G.2.1 (F p1 0))) ((G.1 p0 2).toInt) (p3.toInt) ((G.1 p0 3).toInt)) ≤ 99)) ∧ x51.toInt = 0))
    (c54 : x51.toInt = 0)
    (t66 : ((((((G.1 p0 0).toInt) = 2 ∨ ((G.1 p0 0).toInt) = 4 ∨ ((G.1 p0 0).toInt) = 5) ∧ 0 ≤ (cel (vw (G.2.1 (F p2 0))) ((G.1 p0 2).toInt) (p3.toInt) ((G.1 p0 3).toInt)) ∧ (cel (vw (G.2.1 (F p2 0))) ((G.1 p0 2).toInt) (p3.toInt) ((G.1 p0 3).toInt)) < 30) ∨ (¬ (((G.1 p0 0).toInt) = 2 ∨ ((G.1 p0 0).toInt) = 4 ∨ ((G.1 p0 0).toInt) = 5) ∧ -99 ≤ (cel (vw (G.2.1 (F p2 0))) ((G.1 p0 2).toInt) (p3.toInt) ((G.1 p0 3).toInt)) ∧ (cel (vw (G.2.1 (F p2 0))) ((G.1 p0 2).toInt) (p3.toInt) ((G.1 p0 3).toInt)) ≤ 99)) ∧ x66.toInt = 1) ∨ (¬ (((((G.1 p0 0).toInt) = 2 ∨ ((G.1 p0 0).toInt) = 4 ∨ ((G.1 p0 0).toInt) = 5) ∧ 0 ≤ (cel (vw (G.2.1 (F p2 0))) ((G.1 p0 2).toInt) (p3.toInt) ((G.1 p0 3).toInt)) ∧ (cel (vw (G.2.1 (F p2 0))) ((G.1 p0 2).toInt) (p3.toInt) ((G.1 p0 3).toInt)) < 30) ∨ (¬ (((G.1 p0 0).toInt) = 2 ∨ ((G.1 p0 0).toInt) = 4 ∨ ((G.1 p0 0).toInt) = 5) ∧ -99 ≤ (cel (vw (G.2.1 (F p2 0))) ((G.1 p0 2).toInt) (p3.toInt) ((G.1 p0 3).toInt)) ∧ (cel (vw (G.2.1 (F p2 0))) ((G.1 p0 2).toInt) (p3.toInt) ((G.1 p0 3).toInt)) ≤ 99)) ∧ x66.toInt = 0))
    (c69 : x66.toInt = 0) :
    ∀ y : Int, MB (G.2.1 (F a 2)) ((G.1 a 3).toInt) y ↔ MB (G.2.1 (F a 2)) ((G.1 a 3).toInt) y ∨ OV ((G.1 p0 0).toInt) (cel (vw (G.2.1 (F p1 0))) ((G.1 p0 2).toInt) (p3.toInt) ((G.1 p0 3).toInt)) (cel (vw (G.2.1 (F p2 0))) ((G.1 p0 2).toInt) (p3.toInt) ((G.1 p0 3).toInt)) y := by
  intro y
  first | rw [oq75a y, oq60a y] | rw [oq75a y] | rw [oq60a y] | skip
  unfold OV sbj
  by_cases M : MB (G.2.1 (F a 2)) ((G.1 a 3).toInt) y
  · simp only [M, true_or]
  · simp only [M, false_or]
    constructor <;> intro hh <;> first | exact hh.elim | omega
theorem v_X1_offerValues_75_14 {F : Nat → Nat → Nat} (a : Nat) (G : XG)
    (so : SO (G.2.1 (F a 2)) ((G.1 a 3).toInt)) :
    SO (G.2.1 (F a 2)) ((G.1 a 3).toInt) := by
  first | exact oq60 | exact so
theorem v_X1_offerValues_78_15 {F : Nat → Nat → Nat} (a : Nat) (G : XG) (G75 : XG)
    (so : SO (G.2.1 (F a 2)) ((G.1 a 3).toInt))
    (oq75 : SO (G75.2.1 (F a 2)) ((G75.1 a 3).toInt)) :
    SO (G75.2.1 (F a 2)) ((G75.1 a 3).toInt) := by
  first | exact oq75 | exact oq60 | exact so
theorem v_X1_offerValues_78_16 {K : Nat → Nat} {F : Nat → Nat → Nat} (a : Nat) (p0 : Nat) (p1 : Nat) (p2 : Nat) (G : XG) (G75 : XG) (p3 : Int32) (x51 : Int32) (x66 : Int32)
    (ha : K a = 3)
    (hp0 : K p0 = 9)
    (hp1 : K p1 = 8)
    (hp2 : K p2 = 8)
    (so : SO (G.2.1 (F a 2)) ((G.1 a 3).toInt))
    (oq75 : SO (G75.2.1 (F a 2)) ((G75.1 a 3).toInt))
    (oq75a : ∀ y : Int, MB (G75.2.1 (F a 2)) ((G75.1 a 3).toInt) y ↔ MB (G.2.1 (F a 2)) ((G.1 a 3).toInt) y ∨ y = (cel (vw (G.2.1 (F p2 0))) ((G.1 p0 2).toInt) (p3.toInt) ((G.1 p0 3).toInt)))
    (s0 : 0 ≤ ((G.1 a 3).toInt) ∧ ((G.1 a 3).toInt) ≤ 88)
    (c36 : ¬ ((cel (vw (G.2.1 (F p1 0))) ((G.1 p0 2).toInt) (p3.toInt) ((G.1 p0 3).toInt)) ≠ (cel (vw (G.2.1 (F p2 0))) ((G.1 p0 2).toInt) (p3.toInt) ((G.1 p0 3).toInt))))
    (c44 : ((G.1 p0 0).toInt) = (3 : Int))
    (t51 : ((((((G.1 p0 0).toInt) = 2 ∨ ((G.1 p0 0).toInt) = 4 ∨ ((G.1 p0 0).toInt) = 5) ∧ 0 ≤ (cel (vw (G.2.1 (F p1 0))) ((G.1 p0 2).toInt) (p3.toInt) ((G.1 p0 3).toInt)) ∧ (cel (vw (G.2.1 (F p1 0))) ((G.1 p0 2).toInt) (p3.toInt) ((G.1 p0 3).toInt)) < 30) ∨ (¬ (((G.1 p0 0).toInt) = 2 ∨ ((G.1 p0 0).toInt) = 4 ∨ ((G.1 p0 0).toInt) = 5) ∧ -99 ≤ (cel (vw (G.2.1 (F p1 0))) ((G.1 p0 2).toInt) (p3.toInt) ((G.1 p0 3).toInt)) ∧ (cel (vw (G.2.1 (F p1 0))) ((G.1 p0 2).toInt) (p3.toInt) ((G.1 p0 3).toInt)) ≤ 99)) ∧ x51.toInt = 1) ∨ (¬ (((((G.1 p0 0).toInt) = 2 ∨ ((G.1 p0 0).toInt) = 4 ∨ ((G.1 p0 0).toInt) = 5) ∧ 0 ≤ (cel (vw (G.2.1 (F p1 0))) ((G.1 p0 2).toInt) (p3.toInt) ((G.1 p0 3).toInt)) ∧ (cel (vw (G.2.1 (F p1 0))) ((G.1 p0 2).toInt) (p3.toInt) ((G.1 p0 3).toInt)) < 30) ∨ (¬ (((G.1 p0 0).toInt) = 2 ∨ ((G.1 p0 0).toInt) = 4 ∨ ((G.1 p0 0).toInt) = 5) ∧ -99 ≤ (cel (vw (G.2.1 (F p1 0))) ((G.1 p0 2).toInt) (p3.toInt) ((G.1 p0 3).toInt)) ∧ (cel (vw (G.2.1 (F p1 0))) ((G.1 p0 2).toInt) (p3.toInt) ((G.1 p0 3).toInt)) ≤ 99)) ∧ x51.toInt = 0))
    (c54 : x51.toInt = 0)
    (t66 : ((((((G.1 p0 0).toInt) = 2 ∨ ((G.1 p0 0).toInt) = 4 ∨ ((G.1 p0 0).toInt) = 5) ∧ 0 ≤ (cel (vw (G.2.1 (F p2 0))) ((G.1 p0 2).toInt) (p3.toInt) ((G.1 p0 3).toInt)) ∧ (cel (vw (G.2.1 (F p2 0))) ((G.1 p0 2).toInt) (p3.toInt) ((G.1 p0 3).toInt)) < 30) ∨ (¬ (((G.1 p0 0).toInt) = 2 ∨ ((G.1 p0 0).toInt) = 4 ∨ ((G.1 p0 0).toInt) = 5) ∧ -99 ≤ (cel (vw (G.2.1 (F p2 0))) ((G.1 p0 2).toInt) (p3.toInt) ((G.1 p0 3).toInt)) ∧ (cel (vw (G.2.1 (F p2 0))) ((G.1 p0 2).toInt) (p3.toInt) ((G.1 p0 3).toInt)) ≤ 99)) ∧ x66.toInt = 1) ∨ (¬ (((((G.1 p0 0).toInt) = 2 ∨ ((G.1 p0 0).toInt) = 4 ∨ ((G.1 p0 0).toInt) = 5) ∧ 0 ≤ (cel (vw (G.2.1 (F p2 0))) ((G.1 p0 2).toInt) (p3.toInt) ((G.1 p0 3).toInt)) ∧ (cel (vw (G.2.1 (F p2 0))) ((G.1 p0 2).toInt) (p3.toInt) ((G.1 p0 3).toInt)) < 30) ∨ (¬ (((G.1 p0 0).toInt) = 2 ∨ ((G.1 p0 0).toInt) = 4 ∨ ((G.1 p0 0).toInt) = 5) ∧ -99 ≤ (cel (vw (G.2.1 (F p2 0))) ((G.1 p0 2).toInt) (p3.toInt) ((G.1 p0 3).toInt)) ∧ (cel (vw (G.2.1 (F p2 0))) ((G.1 p0 2).toInt) (p3.toInt) ((G.1 p0 3).toInt)) ≤ 99)) ∧ x66.toInt = 0))
    (c69 : ¬ (x66.toInt = 0))
    (t75 : ((G.1 a 3).toInt) ≤ ((G75.1 a 3).toInt) ∧ ((G75.1 a 3).toInt) ≤ ((G.1 a 3).toInt) + 1) :
    ∀ y : Int, MB (G75.2.1 (F a 2)) ((G75.1 a 3).toInt) y ↔ MB (G.2.1 (F a 2)) ((G.1 a 3).toInt) y ∨ OV ((G.1 p0 0).toInt) (cel (vw (G.2.1 (F p1 0))) ((G.1 p0 2).toInt) (p3.toInt) ((G.1 p0 3).toInt)) (cel (vw (G.2.1 (F p2 0))) ((G.1 p0 2).toInt) (p3.toInt) ((G.1 p0 3).toInt)) y := by
  intro y
  first | rw [oq75a y, oq60a y] | rw [oq75a y] | rw [oq60a y] | skip
  unfold OV sbj
  by_cases M : MB (G.2.1 (F a 2)) ((G.1 a 3).toInt) y
  · simp only [M, true_or]
  · simp only [M, false_or]
    constructor <;> intro hh <;> first | exact hh.elim | omega
theorem v_X1_offerValues_60_17 {F : Nat → Nat → Nat} (a : Nat) (G : XG)
    (so : SO (G.2.1 (F a 2)) ((G.1 a 3).toInt)) :
    SO (G.2.1 (F a 2)) ((G.1 a 3).toInt) := by
  exact so
theorem v_X1_offerValues_78_18 {F : Nat → Nat → Nat} (a : Nat) (G : XG) (G60 : XG)
    (so : SO (G.2.1 (F a 2)) ((G.1 a 3).toInt))
    (oq60 : SO (G60.2.1 (F a 2)) ((G60.1 a 3).toInt)) :
    SO (G60.2.1 (F a 2)) ((G60.1 a 3).toInt) := by
  first | exact oq75 | exact oq60 | exact so
theorem v_X1_offerValues_78_19 {K : Nat → Nat} {F : Nat → Nat → Nat} (a : Nat) (p0 : Nat) (p1 : Nat) (p2 : Nat) (G : XG) (G60 : XG) (p3 : Int32) (x51 : Int32) (x66 : Int32)
    (ha : K a = 3)
    (hp0 : K p0 = 9)
    (hp1 : K p1 = 8)
    (hp2 : K p2 = 8)
    (so : SO (G.2.1 (F a 2)) ((G.1 a 3).toInt))
    (oq60 : SO (G60.2.1 (F a 2)) ((G60.1 a 3).toInt))
    (oq60a : ∀ y : Int, MB (G60.2.1 (F a 2)) ((G60.1 a 3).toInt) y ↔ MB (G.2.1 (F a 2)) ((G.1 a 3).toInt) y ∨ y = (cel (vw (G.2.1 (F p1 0))) ((G.1 p0 2).toInt) (p3.toInt) ((G.1 p0 3).toInt)))
    (s0 : 0 ≤ ((G.1 a 3).toInt) ∧ ((G.1 a 3).toInt) ≤ 88)
    (c36 : ¬ ((cel (vw (G.2.1 (F p1 0))) ((G.1 p0 2).toInt) (p3.toInt) ((G.1 p0 3).toInt)) ≠ (cel (vw (G.2.1 (F p2 0))) ((G.1 p0 2).toInt) (p3.toInt) ((G.1 p0 3).toInt))))
    (c44 : ((G.1 p0 0).toInt) = (3 : Int))
    (t51 : ((((((G.1 p0 0).toInt) = 2 ∨ ((G.1 p0 0).toInt) = 4 ∨ ((G.1 p0 0).toInt) = 5) ∧ 0 ≤ (cel (vw (G.2.1 (F p1 0))) ((G.1 p0 2).toInt) (p3.toInt) ((G.1 p0 3).toInt)) ∧ (cel (vw (G.2.1 (F p1 0))) ((G.1 p0 2).toInt) (p3.toInt) ((G.1 p0 3).toInt)) < 30) ∨ (¬ (((G.1 p0 0).toInt) = 2 ∨ ((G.1 p0 0).toInt) = 4 ∨ ((G.1 p0 0).toInt) = 5) ∧ -99 ≤ (cel (vw (G.2.1 (F p1 0))) ((G.1 p0 2).toInt) (p3.toInt) ((G.1 p0 3).toInt)) ∧ (cel (vw (G.2.1 (F p1 0))) ((G.1 p0 2).toInt) (p3.toInt) ((G.1 p0 3).toInt)) ≤ 99)) ∧ x51.toInt = 1) ∨ (¬ (((((G.1 p0 0).toInt) = 2 ∨ ((G.1 p0 0).toInt) = 4 ∨ ((G.1 p0 0).toInt) = 5) ∧ 0 ≤ (cel (vw (G.2.1 (F p1 0))) ((G.1 p0 2).toInt) (p3.toInt) ((G.1 p0 3).toInt)) ∧ (cel (vw (G.2.1 (F p1 0))) ((G.1 p0 2).toInt) (p3.toInt) ((G.1 p0 3).toInt)) < 30) ∨ (¬ (((G.1 p0 0).toInt) = 2 ∨ ((G.1 p0 0).toInt) = 4 ∨ ((G.1 p0 0).toInt) = 5) ∧ -99 ≤ (cel (vw (G.2.1 (F p1 0))) ((G.1 p0 2).toInt) (p3.toInt) ((G.1 p0 3).toInt)) ∧ (cel (vw (G.2.1 (F p1 0))) ((G.1 p0 2).toInt) (p3.toInt) ((G.1 p0 3).toInt)) ≤ 99)) ∧ x51.toInt = 0))
    (c54 : ¬ (x51.toInt = 0))
    (t60 : ((G.1 a 3).toInt) ≤ ((G60.1 a 3).toInt) ∧ ((G60.1 a 3).toInt) ≤ ((G.1 a 3).toInt) + 1)
    (t66 : ((((((G.1 p0 0).toInt) = 2 ∨ ((G.1 p0 0).toInt) = 4 ∨ ((G.1 p0 0).toInt) = 5) ∧ 0 ≤ (cel (vw (G.2.1 (F p2 0))) ((G.1 p0 2).toInt) (p3.toInt) ((G.1 p0 3).toInt)) ∧ (cel (vw (G.2.1 (F p2 0))) ((G.1 p0 2).toInt) (p3.toInt) ((G.1 p0 3).toInt)) < 30) ∨ (¬ (((G.1 p0 0).toInt) = 2 ∨ ((G.1 p0 0).toInt) = 4 ∨ ((G.1 p0 0).toInt) = 5) ∧ -99 ≤ (cel (vw (G.2.1 (F p2 0))) ((G.1 p0 2).toInt) (p3.toInt) ((G.1 p0 3).toInt)) ∧ (cel (vw (G.2.1 (F p2 0))) ((G.1 p0 2).toInt) (p3.toInt) ((G.1 p0 3).toInt)) ≤ 99)) ∧ x66.toInt = 1) ∨ (¬ (((((G.1 p0 0).toInt) = 2 ∨ ((G.1 p0 0).toInt) = 4 ∨ ((G.1 p0 0).toInt) = 5) ∧ 0 ≤ (cel (vw (G.2.1 (F p2 0))) ((G.1 p0 2).toInt) (p3.toInt) ((G.1 p0 3).toInt)) ∧ (cel (vw (G.2.1 (F p2 0))) ((G.1 p0 2).toInt) (p3.toInt) ((G.1 p0 3).toInt)) < 30) ∨ (¬ (((G.1 p0 0).toInt) = 2 ∨ ((G.1 p0 0).toInt) = 4 ∨ ((G.1 p0 0).toInt) = 5) ∧ -99 ≤ (cel (vw (G.2.1 (F p2 0))) ((G.1 p0 2).toInt) (p3.toInt) ((G.1 p0 3).toInt)) ∧ (cel (vw (G.2.1 (F p2 0))) ((G.1 p0 2).toInt) (p3.toInt) ((G.1 p0 3).toInt)) ≤ 99)) ∧ x66.toInt = 0))
    (c69 : x66.toInt = 0) :
    ∀ y : Int, MB (G60.2.1 (F a 2)) ((G60.1 a 3).toInt) y ↔ MB (G.2.1 (F a 2)) ((G.1 a 3).toInt) y ∨ OV ((G.1 p0 0).toInt) (cel (vw (G.2.1 (F p1 0))) ((G.1 p0 2).toInt) (p3.toInt) ((G.1 p0 3).toInt)) (cel (vw (G.2.1 (F p2 0))) ((G.1 p0 2).toInt) (p3.toInt) ((G.1 p0 3).toInt)) y := by
  intro y
  first | rw [oq75a y, oq60a y] | rw [oq75a y] | rw [oq60a y] | skip
  unfold OV sbj
  by_cases M : MB (G.2.1 (F a 2)) ((G.1 a 3).toInt) y
  · simp only [M, true_or]
  · simp only [M, false_or]
    constructor <;> intro hh <;> first | exact hh.elim | omega
theorem v_X1_offerValues_75_20 {F : Nat → Nat → Nat} (a : Nat) (G : XG) (G60 : XG)
    (so : SO (G.2.1 (F a 2)) ((G.1 a 3).toInt))
    (oq60 : SO (G60.2.1 (F a 2)) ((G60.1 a 3).toInt)) :
    SO (G60.2.1 (F a 2)) ((G60.1 a 3).toInt) := by
  first | exact oq60 | exact so
theorem v_X1_offerValues_78_21 {F : Nat → Nat → Nat} (a : Nat) (G : XG) (G60 : XG) (G75 : XG)
    (so : SO (G.2.1 (F a 2)) ((G.1 a 3).toInt))
    (oq60 : SO (G60.2.1 (F a 2)) ((G60.1 a 3).toInt))
    (oq75 : SO (G75.2.1 (F a 2)) ((G75.1 a 3).toInt)) :
    SO (G75.2.1 (F a 2)) ((G75.1 a 3).toInt) := by
  first | exact oq75 | exact oq60 | exact so
theorem v_X1_offerValues_78_22 {K : Nat → Nat} {F : Nat → Nat → Nat} (a : Nat) (p0 : Nat) (p1 : Nat) (p2 : Nat) (G : XG) (G60 : XG) (G75 : XG) (p3 : Int32) (x51 : Int32) (x66 : Int32)
    (ha : K a = 3)
    (hp0 : K p0 = 9)
    (hp1 : K p1 = 8)
    (hp2 : K p2 = 8)
    (so : SO (G.2.1 (F a 2)) ((G.1 a 3).toInt))
    (oq60 : SO (G60.2.1 (F a 2)) ((G60.1 a 3).toInt))
    (oq60a : ∀ y : Int, MB (G60.2.1 (F a 2)) ((G60.1 a 3).toInt) y ↔ MB (G.2.1 (F a 2)) ((G.1 a 3).toInt) y ∨ y = (cel (vw (G.2.1 (F p1 0))) ((G.1 p0 2).toInt) (p3.toInt) ((G.1 p0 3).toInt)))
    (oq75 : SO (G75.2.1 (F a 2)) ((G75.1 a 3).toInt))
    (oq75a : ∀ y : Int, MB (G75.2.1 (F a 2)) ((G75.1 a 3).toInt) y ↔ MB (G60.2.1 (F a 2)) ((G60.1 a 3).toInt) y ∨ y = (cel (vw (G.2.1 (F p2 0))) ((G.1 p0 2).toInt) (p3.toInt) ((G.1 p0 3).toInt)))
    (s0 : 0 ≤ ((G.1 a 3).toInt) ∧ ((G.1 a 3).toInt) ≤ 88)
    (c36 : ¬ ((cel (vw (G.2.1 (F p1 0))) ((G.1 p0 2).toInt) (p3.toInt) ((G.1 p0 3).toInt)) ≠ (cel (vw (G.2.1 (F p2 0))) ((G.1 p0 2).toInt) (p3.toInt) ((G.1 p0 3).toInt))))
    (c44 : ((G.1 p0 0).toInt) = (3 : Int))
    (t51 : ((((((G.1 p0 0).toInt) = 2 ∨ ((G.1 p0 0).toInt) = 4 ∨ ((G.1 p0 0).toInt) = 5) ∧ 0 ≤ (cel (vw (G.2.1 (F p1 0))) ((G.1 p0 2).toInt) (p3.toInt) ((G.1 p0 3).toInt)) ∧ (cel (vw (G.2.1 (F p1 0))) ((G.1 p0 2).toInt) (p3.toInt) ((G.1 p0 3).toInt)) < 30) ∨ (¬ (((G.1 p0 0).toInt) = 2 ∨ ((G.1 p0 0).toInt) = 4 ∨ ((G.1 p0 0).toInt) = 5) ∧ -99 ≤ (cel (vw (G.2.1 (F p1 0))) ((G.1 p0 2).toInt) (p3.toInt) ((G.1 p0 3).toInt)) ∧ (cel (vw (G.2.1 (F p1 0))) ((G.1 p0 2).toInt) (p3.toInt) ((G.1 p0 3).toInt)) ≤ 99)) ∧ x51.toInt = 1) ∨ (¬ (((((G.1 p0 0).toInt) = 2 ∨ ((G.1 p0 0).toInt) = 4 ∨ ((G.1 p0 0).toInt) = 5) ∧ 0 ≤ (cel (vw (G.2.1 (F p1 0))) ((G.1 p0 2).toInt) (p3.toInt) ((G.1 p0 3).toInt)) ∧ (cel (vw (G.2.1 (F p1 0))) ((G.1 p0 2).toInt) (p3.toInt) ((G.1 p0 3).toInt)) < 30) ∨ (¬ (((G.1 p0 0).toInt) = 2 ∨ ((G.1 p0 0).toInt) = 4 ∨ ((G.1 p0 0).toInt) = 5) ∧ -99 ≤ (cel (vw (G.2.1 (F p1 0))) ((G.1 p0 2).toInt) (p3.toInt) ((G.1 p0 3).toInt)) ∧ (cel (vw (G.2.1 (F p1 0))) ((G.1 p0 2).toInt) (p3.toInt) ((G.1 p0 3).toInt)) ≤ 99)) ∧ x51.toInt = 0))
    (c54 : ¬ (x51.toInt = 0))
    (t60 : ((G.1 a 3).toInt) ≤ ((G60.1 a 3).toInt) ∧ ((G60.1 a 3).toInt) ≤ ((G.1 a 3).toInt) + 1)
    (t66 : ((((((G.1 p0 0).toInt) = 2 ∨ ((G.1 p0 0).toInt) = 4 ∨ ((G.1 p0 0).toInt) = 5) ∧ 0 ≤ (cel (vw (G.2.1 (F p2 0))) ((G.1 p0 2).toInt) (p3.toInt) ((G.1 p0 3).toInt)) ∧ (cel (vw (G.2.1 (F p2 0))) ((G.1 p0 2).toInt) (p3.toInt) ((G.1 p0 3).toInt)) < 30) ∨ (¬ (((G.1 p0 0).toInt) = 2 ∨ ((G.1 p0 0).toInt) = 4 ∨ ((G.1 p0 0).toInt) = 5) ∧ -99 ≤ (cel (vw (G.2.1 (F p2 0))) ((G.1 p0 2).toInt) (p3.toInt) ((G.1 p0 3).toInt)) ∧ (cel (vw (G.2.1 (F p2 0))) ((G.1 p0 2).toInt) (p3.toInt) ((G.1 p0 3).toInt)) ≤ 99)) ∧ x66.toInt = 1) ∨ (¬ (((((G.1 p0 0).toInt) = 2 ∨ ((G.1 p0 0).toInt) = 4 ∨ ((G.1 p0 0).toInt) = 5) ∧ 0 ≤ (cel (vw (G.2.1 (F p2 0))) ((G.1 p0 2).toInt) (p3.toInt) ((G.1 p0 3).toInt)) ∧ (cel (vw (G.2.1 (F p2 0))) ((G.1 p0 2).toInt) (p3.toInt) ((G.1 p0 3).toInt)) < 30) ∨ (¬ (((G.1 p0 0).toInt) = 2 ∨ ((G.1 p0 0).toInt) = 4 ∨ ((G.1 p0 0).toInt) = 5) ∧ -99 ≤ (cel (vw (G.2.1 (F p2 0))) ((G.1 p0 2).toInt) (p3.toInt) ((G.1 p0 3).toInt)) ∧ (cel (vw (G.2.1 (F p2 0))) ((G.1 p0 2).toInt) (p3.toInt) ((G.1 p0 3).toInt)) ≤ 99)) ∧ x66.toInt = 0))
    (c69 : ¬ (x66.toInt = 0))
    (t75 : ((G60.1 a 3).toInt) ≤ ((G75.1 a 3).toInt) ∧ ((G75.1 a 3).toInt) ≤ ((G60.1 a 3).toInt) + 1) :
    ∀ y : Int, MB (G75.2.1 (F a 2)) ((G75.1 a 3).toInt) y ↔ MB (G.2.1 (F a 2)) ((G.1 a 3).toInt) y ∨ OV ((G.1 p0 0).toInt) (cel (vw (G.2.1 (F p1 0))) ((G.1 p0 2).toInt) (p3.toInt) ((G.1 p0 3).toInt)) (cel (vw (G.2.1 (F p2 0))) ((G.1 p0 2).toInt) (p3.toInt) ((G.1 p0 3).toInt)) y := by
  intro y
  first | rw [oq75a y, oq60a y] | rw [oq75a y] | rw [oq60a y] | skip
  unfold OV sbj
  by_cases M : MB (G.2.1 (F a 2)) ((G.1 a 3).toInt) y
  · simp only [M, true_or]
  · simp only [M, false_or]
    constructor <;> intro hh <;> first | exact hh.elim | omega
theorem v_X1_offerValues_47_23 {F : Nat → Nat → Nat} (a : Nat) (G : XG)
    (so : SO (G.2.1 (F a 2)) ((G.1 a 3).toInt)) :
    SO (G.2.1 (F a 2)) ((G.1 a 3).toInt) := by
  first | exact oq75 | exact oq60 | exact so
theorem v_X1_offerValues_47_24 {K : Nat → Nat} {F : Nat → Nat → Nat} (a : Nat) (p0 : Nat) (p1 : Nat) (p2 : Nat) (G : XG) (p3 : Int32)
    (ha : K a = 3)
    (hp0 : K p0 = 9)
    (hp1 : K p1 = 8)
    (hp2 : K p2 = 8)
    (so : SO (G.2.1 (F a 2)) ((G.1 a 3).toInt))
    (s0 : 0 ≤ ((G.1 a 3).toInt) ∧ ((G.1 a 3).toInt) ≤ 88)
    (c36 : ¬ ((cel (vw (G.2.1 (F p1 0))) ((G.1 p0 2).toInt) (p3.toInt) ((G.1 p0 3).toInt)) ≠ (cel (vw (G.2.1 (F p2 0))) ((G.1 p0 2).toInt) (p3.toInt) ((G.1 p0 3).toInt))))
    (c44 : ¬ (((G.1 p0 0).toInt) = (3 : Int))) :
    ∀ y : Int, MB (G.2.1 (F a 2)) ((G.1 a 3).toInt) y ↔ MB (G.2.1 (F a 2)) ((G.1 a 3).toInt) y ∨ OV ((G.1 p0 0).toInt) (cel (vw (G.2.1 (F p1 0))) ((G.1 p0 2).toInt) (p3.toInt) ((G.1 p0 3).toInt)) (cel (vw (G.2.1 (F p2 0))) ((G.1 p0 2).toInt) (p3.toInt) ((G.1 p0 3).toInt)) y := by
  intro y
  first | rw [oq75a y, oq60a y] | rw [oq75a y] | rw [oq60a y] | skip
  unfold OV sbj
  by_cases M : MB (G.2.1 (F a 2)) ((G.1 a 3).toInt) y
  · simp only [M, true_or]
  · simp only [M, false_or]
    constructor <;> intro hh <;> first | exact hh.elim | omega
theorem v_X1_offerByRows_44_1 {K : Nat → Nat} {F : Nat → Nat → Nat} (a : Nat) (p0 : Nat) (p1 : Nat) (p2 : Nat) (G : XG) (x4 : Int32)
    (ha : K a = 3)
    (hp0 : K p0 = 9)
    (hp1 : K p1 = 8)
    (hp2 : K p2 = 8)
    (s0 : ((G.1 a 3).toInt) = 0)
    (z0 : (0 ≤ ((G.1 p0 0).toInt) ∧ ((G.1 p0 0).toInt) ≤ 5) ∧ (0 ≤ ((G.1 p0 2).toInt) ∧ ((G.1 p0 2).toInt) ≤ 2) ∧ (0 ≤ ((G.1 p0 3).toInt) ∧ ((G.1 p0 3).toInt) ≤ 2) ∧ (-1 ≤ ((G.1 p0 4).toInt) ∧ ((G.1 p0 4).toInt) ≤ 2) ∧ (((G.1 p0 0).toInt) = 1 ∨ ((G.1 p0 0).toInt) = 3 ∨ ((G.1 p0 0).toInt) = 4 → 0 ≤ ((G.1 p0 4).toInt)))
    (t4 : (x4.toInt = 1 ∧ 0 ≤ ((G.1 p0 2).toInt) ∧ ((G.1 p0 2).toInt) < 3) ∨ (x4.toInt = 0 ∧ (((G.1 p0 2).toInt) < 0 ∨ 3 ≤ ((G.1 p0 2).toInt))))
    (c7 : ¬ (x4.toInt = 0))
    (c30 : ((G.1 p0 0).toInt) = (2 : Int)) :
    SO (G.2.1 (F a 2)) ((G.1 a 3).toInt) := by
  exact SO_0 (by omega)
theorem v_X1_offerByRows_47_2 {F : Nat → Nat → Nat} (a : Nat) (G44 : XG)
    (oq44 : SO (G44.2.1 (F a 2)) ((G44.1 a 3).toInt)) :
    SO (G44.2.1 (F a 2)) ((G44.1 a 3).toInt) := by
  first | exact oq44 | exact ps
theorem v_X1_offerByRows_47_3 {K : Nat → Nat} {F : Nat → Nat → Nat} (a : Nat) (p0 : Nat) (p1 : Nat) (p2 : Nat) (G : XG) (G44 : XG) (x18 : Int32) (x4 : Int32)
    (ha : K a = 3)
    (hp0 : K p0 = 9)
    (hp1 : K p1 = 8)
    (hp2 : K p2 = 8)
    (hv18 : x18.toInt = (aI (G.2.1 (F a 0)) ((G.1 p0 2).toInt)))
    (oq44 : SO (G44.2.1 (F a 2)) ((G44.1 a 3).toInt))
    (oq44a : ∀ y : Int, MB (G44.2.1 (F a 2)) ((G44.1 a 3).toInt) y ↔ MB (G.2.1 (F a 2)) ((G.1 a 3).toInt) y ∨ (0 ≤ y ∧ y < 30 ∧ bI (aI (G.2.1 (F a 0)) ((G.1 p0 2).toInt)) y = 1))
    (s0 : ((G.1 a 3).toInt) = 0)
    (z0 : (0 ≤ ((G.1 p0 0).toInt) ∧ ((G.1 p0 0).toInt) ≤ 5) ∧ (0 ≤ ((G.1 p0 2).toInt) ∧ ((G.1 p0 2).toInt) ≤ 2) ∧ (0 ≤ ((G.1 p0 3).toInt) ∧ ((G.1 p0 3).toInt) ≤ 2) ∧ (-1 ≤ ((G.1 p0 4).toInt) ∧ ((G.1 p0 4).toInt) ≤ 2) ∧ (((G.1 p0 0).toInt) = 1 ∨ ((G.1 p0 0).toInt) = 3 ∨ ((G.1 p0 0).toInt) = 4 → 0 ≤ ((G.1 p0 4).toInt)))
    (t4 : (x4.toInt = 1 ∧ 0 ≤ ((G.1 p0 2).toInt) ∧ ((G.1 p0 2).toInt) < 3) ∨ (x4.toInt = 0 ∧ (((G.1 p0 2).toInt) < 0 ∨ 3 ≤ ((G.1 p0 2).toInt))))
    (c7 : ¬ (x4.toInt = 0))
    (c30 : ((G.1 p0 0).toInt) = (2 : Int))
    (t44 : ((G.1 a 3).toInt) ≤ ((G44.1 a 3).toInt) ∧ ((G44.1 a 3).toInt) ≤ ((G.1 a 3).toInt) + 30) :
    ∀ y : Int, MB (G44.2.1 (F a 2)) ((G44.1 a 3).toInt) y ↔ ((((G.1 p0 0).toInt) = 2 ∨ ((G.1 p0 0).toInt) = 5) ∧ 0 ≤ y ∧ y < 30 ∧ bI (aI (G.2.1 (F a 0)) ((G.1 p0 2).toInt)) y = 1) ∨ (¬ (((G.1 p0 0).toInt) = 2 ∨ ((G.1 p0 0).toInt) = 5) ∧ ∃ k : Int, 0 ≤ k ∧ k < 30 ∧ bI (aI (G.2.1 (F a 0)) ((G.1 p0 2).toInt)) k = 1 ∧ OV ((G.1 p0 0).toInt) (cel (vw (G.2.1 (F p1 0))) ((G.1 p0 2).toInt) k ((G.1 p0 3).toInt)) (cel (vw (G.2.1 (F p2 0))) ((G.1 p0 2).toInt) k ((G.1 p0 3).toInt)) y) := by
  intro y
  first
    | (rw [oq44a y]
       constructor
       · rintro (h | h)
         · exact absurd h (MB_0 (by omega))
         · exact Or.inl ⟨by omega, h⟩
       · rintro (h | h)
         · exact Or.inr h.2
         · exact absurd h.1 (by omega))
    | (rw [pm y]
       constructor
       · rintro ⟨k, h1, h2, h3⟩
         exact Or.inr ⟨by omega, k, h1, by omega, h3⟩
       · rintro (h | ⟨_, k, h1, h2, h3, h4⟩)
         · exact absurd h.1 (by omega)
         · by_cases e : k < l5_51.toInt
           · exact ⟨k, h1, e, h3, h4⟩
           · first | (exfalso; omega) | exact absurd h3 (by rw [bI_sh0 he62 hv18 rfl (by omega) c63 k (by omega) (by omega)]; decide))
theorem v_X1_offerByRows_91_4 {F : Nat → Nat → Nat} (a : Nat) (G_51 : XG)
    (ps : SO (G_51.2.1 (F a 2)) ((G_51.1 a 3).toInt)) :
    SO (G_51.2.1 (F a 2)) ((G_51.1 a 3).toInt) := by
  first | exact oq44 | exact ps
theorem v_X1_offerByRows_91_5 {K : Nat → Nat} {F : Nat → Nat → Nat} (a : Nat) (p0 : Nat) (p1 : Nat) (p2 : Nat) (G : XG) (G_51 : XG) (x18 : Int32) (l5_51 : Int32) (x4 : Int32) (N51 : Nat)
    (ha : K a = 3)
    (hp0 : K p0 = 9)
    (hp1 : K p1 = 8)
    (hp2 : K p2 = 8)
    (hv18 : x18.toInt = (aI (G.2.1 (F a 0)) ((G.1 p0 2).toInt)))
    (ps : SO (G_51.2.1 (F a 2)) ((G_51.1 a 3).toInt))
    (pm : ∀ y : Int, MB (G_51.2.1 (F a 2)) ((G_51.1 a 3).toInt) y ↔ ∃ k : Int, 0 ≤ k ∧ k < l5_51.toInt ∧ bI (aI (G.2.1 (F a 0)) ((G.1 p0 2).toInt)) k = 1 ∧ OV ((G.1 p0 0).toInt) (cel (vw (G.2.1 (F p1 0))) ((G.1 p0 2).toInt) k ((G.1 p0 3).toInt)) (cel (vw (G.2.1 (F p2 0))) ((G.1 p0 2).toInt) k ((G.1 p0 3).toInt)) y)
    (s0 : ((G.1 a 3).toInt) = 0)
    (z0 : (0 ≤ ((G.1 p0 0).toInt) ∧ ((G.1 p0 0).toInt) ≤ 5) ∧ (0 ≤ ((G.1 p0 2).toInt) ∧ ((G.1 p0 2).toInt) ≤ 2) ∧ (0 ≤ ((G.1 p0 3).toInt) ∧ ((G.1 p0 3).toInt) ≤ 2) ∧ (-1 ≤ ((G.1 p0 4).toInt) ∧ ((G.1 p0 4).toInt) ≤ 2) ∧ (((G.1 p0 0).toInt) = 1 ∨ ((G.1 p0 0).toInt) = 3 ∨ ((G.1 p0 0).toInt) = 4 → 0 ≤ ((G.1 p0 4).toInt)))
    (t4 : (x4.toInt = 1 ∧ 0 ≤ ((G.1 p0 2).toInt) ∧ ((G.1 p0 2).toInt) < 3) ∨ (x4.toInt = 0 ∧ (((G.1 p0 2).toInt) < 0 ∨ 3 ≤ ((G.1 p0 2).toInt))))
    (c7 : ¬ (x4.toInt = 0))
    (c30 : ¬ (((G.1 p0 0).toInt) = (2 : Int)))
    (c38 : ((G.1 p0 0).toInt) ≠ (5 : Int))
    (I51_0 : 0 ≤ l5_51.toInt ∧ l5_51.toInt ≤ 30)
    (I51_1 : 0 ≤ ((G_51.1 a 3).toInt) ∧ ((G_51.1 a 3).toInt) ≤ 2 * l5_51.toInt)
    (I51_2 : (0 : Int) ≤ l5_51.toInt)
    (hm51 : 2147483648 - l5_51.toInt < (((N51) + 1 : Nat) : Int))
    (c55 : (30 : Int) ≤ l5_51.toInt) :
    ∀ y : Int, MB (G_51.2.1 (F a 2)) ((G_51.1 a 3).toInt) y ↔ ((((G.1 p0 0).toInt) = 2 ∨ ((G.1 p0 0).toInt) = 5) ∧ 0 ≤ y ∧ y < 30 ∧ bI (aI (G.2.1 (F a 0)) ((G.1 p0 2).toInt)) y = 1) ∨ (¬ (((G.1 p0 0).toInt) = 2 ∨ ((G.1 p0 0).toInt) = 5) ∧ ∃ k : Int, 0 ≤ k ∧ k < 30 ∧ bI (aI (G.2.1 (F a 0)) ((G.1 p0 2).toInt)) k = 1 ∧ OV ((G.1 p0 0).toInt) (cel (vw (G.2.1 (F p1 0))) ((G.1 p0 2).toInt) k ((G.1 p0 3).toInt)) (cel (vw (G.2.1 (F p2 0))) ((G.1 p0 2).toInt) k ((G.1 p0 3).toInt)) y) := by
  intro y
  first
    | (rw [oq44a y]
       constructor
       · rintro (h | h)
         · exact absurd h (MB_0 (by omega))
         · exact Or.inl ⟨by omega, h⟩
       · rintro (h | h)
         · exact Or.inr h.2
         · exact absurd h.1 (by omega))
    | (rw [pm y]
       constructor
       · rintro ⟨k, h1, h2, h3⟩
         exact Or.inr ⟨by omega, k, h1, by omega, h3⟩
       · rintro (h | ⟨_, k, h1, h2, h3, h4⟩)
         · exact absurd h.1 (by omega)
         · by_cases e : k < l5_51.toInt
           · exact ⟨k, h1, e, h3, h4⟩
           · first | (exfalso; omega) | exact absurd h3 (by rw [bI_sh0 he62 hv18 rfl (by omega) c63 k (by omega) (by omega)]; decide))
theorem v_X1_offerByRows_91_6 {F : Nat → Nat → Nat} (a : Nat) (G_51 : XG)
    (ps : SO (G_51.2.1 (F a 2)) ((G_51.1 a 3).toInt)) :
    SO (G_51.2.1 (F a 2)) ((G_51.1 a 3).toInt) := by
  first | exact oq44 | exact ps
theorem v_X1_offerByRows_91_7 {K : Nat → Nat} {F : Nat → Nat → Nat} (a : Nat) (p0 : Nat) (p1 : Nat) (p2 : Nat) (G : XG) (G_51 : XG) (x18 : Int32) (l5_51 : Int32) (x62 : Int32) (x4 : Int32) (N51 : Nat)
    (ha : K a = 3)
    (hp0 : K p0 = 9)
    (hp1 : K p1 = 8)
    (hp2 : K p2 = 8)
    (hv18 : x18.toInt = (aI (G.2.1 (F a 0)) ((G.1 p0 2).toInt)))
    (ps : SO (G_51.2.1 (F a 2)) ((G_51.1 a 3).toInt))
    (pm : ∀ y : Int, MB (G_51.2.1 (F a 2)) ((G_51.1 a 3).toInt) y ↔ ∃ k : Int, 0 ≤ k ∧ k < l5_51.toInt ∧ bI (aI (G.2.1 (F a 0)) ((G.1 p0 2).toInt)) k = 1 ∧ OV ((G.1 p0 0).toInt) (cel (vw (G.2.1 (F p1 0))) ((G.1 p0 2).toInt) k ((G.1 p0 3).toInt)) (cel (vw (G.2.1 (F p2 0))) ((G.1 p0 2).toInt) k ((G.1 p0 3).toInt)) y)
    (he62 : x62 = (x18 : Int32) >>> (l5_51 &&& 31))
    (s0 : ((G.1 a 3).toInt) = 0)
    (z0 : (0 ≤ ((G.1 p0 0).toInt) ∧ ((G.1 p0 0).toInt) ≤ 5) ∧ (0 ≤ ((G.1 p0 2).toInt) ∧ ((G.1 p0 2).toInt) ≤ 2) ∧ (0 ≤ ((G.1 p0 3).toInt) ∧ ((G.1 p0 3).toInt) ≤ 2) ∧ (-1 ≤ ((G.1 p0 4).toInt) ∧ ((G.1 p0 4).toInt) ≤ 2) ∧ (((G.1 p0 0).toInt) = 1 ∨ ((G.1 p0 0).toInt) = 3 ∨ ((G.1 p0 0).toInt) = 4 → 0 ≤ ((G.1 p0 4).toInt)))
    (t4 : (x4.toInt = 1 ∧ 0 ≤ ((G.1 p0 2).toInt) ∧ ((G.1 p0 2).toInt) < 3) ∨ (x4.toInt = 0 ∧ (((G.1 p0 2).toInt) < 0 ∨ 3 ≤ ((G.1 p0 2).toInt))))
    (c7 : ¬ (x4.toInt = 0))
    (c30 : ¬ (((G.1 p0 0).toInt) = (2 : Int)))
    (c38 : ((G.1 p0 0).toInt) ≠ (5 : Int))
    (I51_0 : 0 ≤ l5_51.toInt ∧ l5_51.toInt ≤ 30)
    (I51_1 : 0 ≤ ((G_51.1 a 3).toInt) ∧ ((G_51.1 a 3).toInt) ≤ 2 * l5_51.toInt)
    (I51_2 : (0 : Int) ≤ l5_51.toInt)
    (hm51 : 2147483648 - l5_51.toInt < (((N51) + 1 : Nat) : Int))
    (c55 : ¬ ((30 : Int) ≤ l5_51.toInt))
    (c63 : x62.toInt = 0) :
    ∀ y : Int, MB (G_51.2.1 (F a 2)) ((G_51.1 a 3).toInt) y ↔ ((((G.1 p0 0).toInt) = 2 ∨ ((G.1 p0 0).toInt) = 5) ∧ 0 ≤ y ∧ y < 30 ∧ bI (aI (G.2.1 (F a 0)) ((G.1 p0 2).toInt)) y = 1) ∨ (¬ (((G.1 p0 0).toInt) = 2 ∨ ((G.1 p0 0).toInt) = 5) ∧ ∃ k : Int, 0 ≤ k ∧ k < 30 ∧ bI (aI (G.2.1 (F a 0)) ((G.1 p0 2).toInt)) k = 1 ∧ OV ((G.1 p0 0).toInt) (cel (vw (G.2.1 (F p1 0))) ((G.1 p0 2).toInt) k ((G.1 p0 3).toInt)) (cel (vw (G.2.1 (F p2 0))) ((G.1 p0 2).toInt) k ((G.1 p0 3).toInt)) y) := by
  intro y
  first
    | (rw [oq44a y]
       constructor
       · rintro (h | h)
         · exact absurd h (MB_0 (by omega))
         · exact Or.inl ⟨by omega, h⟩
       · rintro (h | h)
         · exact Or.inr h.2
         · exact absurd h.1 (by omega))
    | (rw [pm y]
       constructor
       · rintro ⟨k, h1, h2, h3⟩
         exact Or.inr ⟨by omega, k, h1, by omega, h3⟩
       · rintro (h | ⟨_, k, h1, h2, h3, h4⟩)
         · exact absurd h.1 (by omega)
         · by_cases e : k < l5_51.toInt
           · exact ⟨k, h1, e, h3, h4⟩
           · first | (exfalso; omega) | exact absurd h3 (by rw [bI_sh0 he62 hv18 rfl (by omega) c63 k (by omega) (by omega)]; decide))
theorem v_X1_offerByRows_88_8 {F : Nat → Nat → Nat} (a : Nat) (G_51 : XG)
    (ps : SO (G_51.2.1 (F a 2)) ((G_51.1 a 3).toInt)) :
    SO (G_51.2.1 (F a 2)) ((G_51.1 a 3).toInt) := by
  first | exact oq82 | exact ps
theorem v_X1_offerByRows_88_9 {K : Nat → Nat} {F : Nat → Nat → Nat} (a : Nat) (p0 : Nat) (p1 : Nat) (p2 : Nat) (G : XG) (G_51 : XG) (x18 : Int32) (l5_51 : Int32) (x62 : Int32) (x70 : Int32) (x72 : Int32) (x4 : Int32) (N51 : Nat)
    (ha : K a = 3)
    (hp0 : K p0 = 9)
    (hp1 : K p1 = 8)
    (hp2 : K p2 = 8)
    (hv18 : x18.toInt = (aI (G.2.1 (F a 0)) ((G.1 p0 2).toInt)))
    (ps : SO (G_51.2.1 (F a 2)) ((G_51.1 a 3).toInt))
    (pm : ∀ y : Int, MB (G_51.2.1 (F a 2)) ((G_51.1 a 3).toInt) y ↔ ∃ k : Int, 0 ≤ k ∧ k < l5_51.toInt ∧ bI (aI (G.2.1 (F a 0)) ((G.1 p0 2).toInt)) k = 1 ∧ OV ((G.1 p0 0).toInt) (cel (vw (G.2.1 (F p1 0))) ((G.1 p0 2).toInt) k ((G.1 p0 3).toInt)) (cel (vw (G.2.1 (F p2 0))) ((G.1 p0 2).toInt) k ((G.1 p0 3).toInt)) y)
    (he62 : x62 = (x18 : Int32) >>> (l5_51 &&& 31))
    (he70 : x70 = (x18 : Int32) >>> (l5_51 &&& 31))
    (he72 : x72 = x70 &&& 1)
    (s0 : ((G.1 a 3).toInt) = 0)
    (z0 : (0 ≤ ((G.1 p0 0).toInt) ∧ ((G.1 p0 0).toInt) ≤ 5) ∧ (0 ≤ ((G.1 p0 2).toInt) ∧ ((G.1 p0 2).toInt) ≤ 2) ∧ (0 ≤ ((G.1 p0 3).toInt) ∧ ((G.1 p0 3).toInt) ≤ 2) ∧ (-1 ≤ ((G.1 p0 4).toInt) ∧ ((G.1 p0 4).toInt) ≤ 2) ∧ (((G.1 p0 0).toInt) = 1 ∨ ((G.1 p0 0).toInt) = 3 ∨ ((G.1 p0 0).toInt) = 4 → 0 ≤ ((G.1 p0 4).toInt)))
    (t4 : (x4.toInt = 1 ∧ 0 ≤ ((G.1 p0 2).toInt) ∧ ((G.1 p0 2).toInt) < 3) ∨ (x4.toInt = 0 ∧ (((G.1 p0 2).toInt) < 0 ∨ 3 ≤ ((G.1 p0 2).toInt))))
    (c7 : ¬ (x4.toInt = 0))
    (c30 : ¬ (((G.1 p0 0).toInt) = (2 : Int)))
    (c38 : ((G.1 p0 0).toInt) ≠ (5 : Int))
    (I51_0 : 0 ≤ l5_51.toInt ∧ l5_51.toInt ≤ 30)
    (I51_1 : 0 ≤ ((G_51.1 a 3).toInt) ∧ ((G_51.1 a 3).toInt) ≤ 2 * l5_51.toInt)
    (I51_2 : (0 : Int) ≤ l5_51.toInt)
    (hm51 : 2147483648 - l5_51.toInt < (((N51) + 1 : Nat) : Int))
    (c55 : ¬ ((30 : Int) ≤ l5_51.toInt))
    (c63 : ¬ (x62.toInt = 0))
    (hb72 : x72.toInt = (bI (aI (G.2.1 (F a 0)) ((G.1 p0 2).toInt)) (l5_51.toInt)))
    (hb72a : x72.toInt = 0 ∨ x72.toInt = 1)
    (c73 : x72.toInt = 0) :
    ∀ y : Int, MB (G_51.2.1 (F a 2)) ((G_51.1 a 3).toInt) y ↔ ∃ k : Int, 0 ≤ k ∧ k < (l5_51.toInt + 1) ∧ bI (aI (G.2.1 (F a 0)) ((G.1 p0 2).toInt)) k = 1 ∧ OV ((G.1 p0 0).toInt) (cel (vw (G.2.1 (F p1 0))) ((G.1 p0 2).toInt) k ((G.1 p0 3).toInt)) (cel (vw (G.2.1 (F p2 0))) ((G.1 p0 2).toInt) k ((G.1 p0 3).toInt)) y := by
  intro y
  first
    | (rw [oq82a y, pm y]
       constructor
       · rintro (⟨k, h1, h2, h3⟩ | h)
         · exact ⟨k, h1, by omega, h3⟩
         · exact ⟨l5_51.toInt, by omega, by omega, by omega, h⟩
       · rintro ⟨k, h1, h2, h3, h4⟩
         by_cases e : k = l5_51.toInt
         · subst e; exact Or.inr h4
         · exact Or.inl ⟨k, h1, by omega, h3, h4⟩)
    | (rw [pm y]
       constructor
       · rintro ⟨k, h1, h2, h3⟩
         exact ⟨k, h1, by omega, h3⟩
       · rintro ⟨k, h1, h2, h3, h4⟩
         by_cases e : k = l5_51.toInt
         · subst e; exact absurd h3 (by omega)
         · exact ⟨k, h1, by omega, h3, h4⟩)
theorem v_X1_offerByRows_82_10 {F : Nat → Nat → Nat} (a : Nat) (G_51 : XG)
    (ps : SO (G_51.2.1 (F a 2)) ((G_51.1 a 3).toInt)) :
    SO (G_51.2.1 (F a 2)) ((G_51.1 a 3).toInt) := by
  exact ps
theorem v_X1_offerByRows_88_11 {F : Nat → Nat → Nat} (a : Nat) (G_51 : XG) (G82 : XG)
    (ps : SO (G_51.2.1 (F a 2)) ((G_51.1 a 3).toInt))
    (oq82 : SO (G82.2.1 (F a 2)) ((G82.1 a 3).toInt)) :
    SO (G82.2.1 (F a 2)) ((G82.1 a 3).toInt) := by
  first | exact oq82 | exact ps
theorem v_X1_offerByRows_88_12 {K : Nat → Nat} {F : Nat → Nat → Nat} (a : Nat) (p0 : Nat) (p1 : Nat) (p2 : Nat) (G : XG) (G_51 : XG) (G82 : XG) (x18 : Int32) (l5_51 : Int32) (x62 : Int32) (x70 : Int32) (x72 : Int32) (x4 : Int32) (N51 : Nat)
    (ha : K a = 3)
    (hp0 : K p0 = 9)
    (hp1 : K p1 = 8)
    (hp2 : K p2 = 8)
    (hv18 : x18.toInt = (aI (G.2.1 (F a 0)) ((G.1 p0 2).toInt)))
    (ps : SO (G_51.2.1 (F a 2)) ((G_51.1 a 3).toInt))
    (pm : ∀ y : Int, MB (G_51.2.1 (F a 2)) ((G_51.1 a 3).toInt) y ↔ ∃ k : Int, 0 ≤ k ∧ k < l5_51.toInt ∧ bI (aI (G.2.1 (F a 0)) ((G.1 p0 2).toInt)) k = 1 ∧ OV ((G.1 p0 0).toInt) (cel (vw (G.2.1 (F p1 0))) ((G.1 p0 2).toInt) k ((G.1 p0 3).toInt)) (cel (vw (G.2.1 (F p2 0))) ((G.1 p0 2).toInt) k ((G.1 p0 3).toInt)) y)
    (he62 : x62 = (x18 : Int32) >>> (l5_51 &&& 31))
    (he70 : x70 = (x18 : Int32) >>> (l5_51 &&& 31))
    (he72 : x72 = x70 &&& 1)
    (oq82 : SO (G82.2.1 (F a 2)) ((G82.1 a 3).toInt))
    (oq82a : ∀ y : Int, MB (G82.2.1 (F a 2)) ((G82.1 a 3).toInt) y ↔ MB (G_51.2.1 (F a 2)) ((G_51.1 a 3).toInt) y ∨ OV ((G.1 p0 0).toInt) (cel (vw (G.2.1 (F p1 0))) ((G.1 p0 2).toInt) (l5_51.toInt) ((G.1 p0 3).toInt)) (cel (vw (G.2.1 (F p2 0))) ((G.1 p0 2).toInt) (l5_51.toInt) ((G.1 p0 3).toInt)) y)
    (s0 : ((G.1 a 3).toInt) = 0)
    (z0 : (0 ≤ ((G.1 p0 0).toInt) ∧ ((G.1 p0 0).toInt) ≤ 5) ∧ (0 ≤ ((G.1 p0 2).toInt) ∧ ((G.1 p0 2).toInt) ≤ 2) ∧ (0 ≤ ((G.1 p0 3).toInt) ∧ ((G.1 p0 3).toInt) ≤ 2) ∧ (-1 ≤ ((G.1 p0 4).toInt) ∧ ((G.1 p0 4).toInt) ≤ 2) ∧ (((G.1 p0 0).toInt) = 1 ∨ ((G.1 p0 0).toInt) = 3 ∨ ((G.1 p0 0).toInt) = 4 → 0 ≤ ((G.1 p0 4).toInt)))
    (t4 : (x4.toInt = 1 ∧ 0 ≤ ((G.1 p0 2).toInt) ∧ ((G.1 p0 2).toInt) < 3) ∨ (x4.toInt = 0 ∧ (((G.1 p0 2).toInt) < 0 ∨ 3 ≤ ((G.1 p0 2).toInt))))
    (c7 : ¬ (x4.toInt = 0))
    (c30 : ¬ (((G.1 p0 0).toInt) = (2 : Int)))
    (c38 : ((G.1 p0 0).toInt) ≠ (5 : Int))
    (I51_0 : 0 ≤ l5_51.toInt ∧ l5_51.toInt ≤ 30)
    (I51_1 : 0 ≤ ((G_51.1 a 3).toInt) ∧ ((G_51.1 a 3).toInt) ≤ 2 * l5_51.toInt)
    (I51_2 : (0 : Int) ≤ l5_51.toInt)
    (hm51 : 2147483648 - l5_51.toInt < (((N51) + 1 : Nat) : Int))
    (c55 : ¬ ((30 : Int) ≤ l5_51.toInt))
    (c63 : ¬ (x62.toInt = 0))
    (hb72 : x72.toInt = (bI (aI (G.2.1 (F a 0)) ((G.1 p0 2).toInt)) (l5_51.toInt)))
    (hb72a : x72.toInt = 0 ∨ x72.toInt = 1)
    (c73 : ¬ (x72.toInt = 0))
    (t82 : ((G_51.1 a 3).toInt) ≤ ((G82.1 a 3).toInt) ∧ ((G82.1 a 3).toInt) ≤ ((G_51.1 a 3).toInt) + 2) :
    ∀ y : Int, MB (G82.2.1 (F a 2)) ((G82.1 a 3).toInt) y ↔ ∃ k : Int, 0 ≤ k ∧ k < (l5_51.toInt + 1) ∧ bI (aI (G.2.1 (F a 0)) ((G.1 p0 2).toInt)) k = 1 ∧ OV ((G.1 p0 0).toInt) (cel (vw (G.2.1 (F p1 0))) ((G.1 p0 2).toInt) k ((G.1 p0 3).toInt)) (cel (vw (G.2.1 (F p2 0))) ((G.1 p0 2).toInt) k ((G.1 p0 3).toInt)) y := by
  intro y
  first
    | (rw [oq82a y, pm y]
       constructor
       · rintro (⟨k, h1, h2, h3⟩ | h)
         · exact ⟨k, h1, by omega, h3⟩
         · exact ⟨l5_51.toInt, by omega, by omega, by omega, h⟩
       · rintro ⟨k, h1, h2, h3, h4⟩
         by_cases e : k = l5_51.toInt
         · subst e; exact Or.inr h4
         · exact Or.inl ⟨k, h1, by omega, h3, h4⟩)
    | (rw [pm y]
       constructor
       · rintro ⟨k, h1, h2, h3⟩
         exact ⟨k, h1, by omega, h3⟩
       · rintro ⟨k, h1, h2, h3, h4⟩
         by_cases e : k = l5_51.toInt
         · subst e; exact absurd h3 (by omega)
         · exact ⟨k, h1, by omega, h3, h4⟩)
theorem v_X1_offerByRows_49_13 {K : Nat → Nat} {F : Nat → Nat → Nat} (a : Nat) (p0 : Nat) (p1 : Nat) (p2 : Nat) (G : XG) (x4 : Int32)
    (ha : K a = 3)
    (hp0 : K p0 = 9)
    (hp1 : K p1 = 8)
    (hp2 : K p2 = 8)
    (s0 : ((G.1 a 3).toInt) = 0)
    (z0 : (0 ≤ ((G.1 p0 0).toInt) ∧ ((G.1 p0 0).toInt) ≤ 5) ∧ (0 ≤ ((G.1 p0 2).toInt) ∧ ((G.1 p0 2).toInt) ≤ 2) ∧ (0 ≤ ((G.1 p0 3).toInt) ∧ ((G.1 p0 3).toInt) ≤ 2) ∧ (-1 ≤ ((G.1 p0 4).toInt) ∧ ((G.1 p0 4).toInt) ≤ 2) ∧ (((G.1 p0 0).toInt) = 1 ∨ ((G.1 p0 0).toInt) = 3 ∨ ((G.1 p0 0).toInt) = 4 → 0 ≤ ((G.1 p0 4).toInt)))
    (t4 : (x4.toInt = 1 ∧ 0 ≤ ((G.1 p0 2).toInt) ∧ ((G.1 p0 2).toInt) < 3) ∨ (x4.toInt = 0 ∧ (((G.1 p0 2).toInt) < 0 ∨ 3 ≤ ((G.1 p0 2).toInt))))
    (c7 : ¬ (x4.toInt = 0))
    (c30 : ¬ (((G.1 p0 0).toInt) = (2 : Int)))
    (c38 : ((G.1 p0 0).toInt) ≠ (5 : Int)) :
    SO (G.2.1 (F a 2)) ((G.1 a 3).toInt) := by
  exact SO_0 (by omega)
theorem v_X1_offerByRows_49_14 {K : Nat → Nat} {F : Nat → Nat → Nat} (a : Nat) (p0 : Nat) (p1 : Nat) (p2 : Nat) (G : XG) (x4 : Int32)
    (ha : K a = 3)
    (hp0 : K p0 = 9)
    (hp1 : K p1 = 8)
    (hp2 : K p2 = 8)
    (s0 : ((G.1 a 3).toInt) = 0)
    (z0 : (0 ≤ ((G.1 p0 0).toInt) ∧ ((G.1 p0 0).toInt) ≤ 5) ∧ (0 ≤ ((G.1 p0 2).toInt) ∧ ((G.1 p0 2).toInt) ≤ 2) ∧ (0 ≤ ((G.1 p0 3).toInt) ∧ ((G.1 p0 3).toInt) ≤ 2) ∧ (-1 ≤ ((G.1 p0 4).toInt) ∧ ((G.1 p0 4).toInt) ≤ 2) ∧ (((G.1 p0 0).toInt) = 1 ∨ ((G.1 p0 0).toInt) = 3 ∨ ((G.1 p0 0).toInt) = 4 → 0 ≤ ((G.1 p0 4).toInt)))
    (t4 : (x4.toInt = 1 ∧ 0 ≤ ((G.1 p0 2).toInt) ∧ ((G.1 p0 2).toInt) < 3) ∨ (x4.toInt = 0 ∧ (((G.1 p0 2).toInt) < 0 ∨ 3 ≤ ((G.1 p0 2).toInt))))
    (c7 : ¬ (x4.toInt = 0))
    (c30 : ¬ (((G.1 p0 0).toInt) = (2 : Int)))
    (c38 : ((G.1 p0 0).toInt) ≠ (5 : Int)) :
    ∀ y : Int, MB (G.2.1 (F a 2)) ((G.1 a 3).toInt) y ↔ ∃ k : Int, 0 ≤ k ∧ k < (0 : Int) ∧ bI (aI (G.2.1 (F a 0)) ((G.1 p0 2).toInt)) k = 1 ∧ OV ((G.1 p0 0).toInt) (cel (vw (G.2.1 (F p1 0))) ((G.1 p0 2).toInt) k ((G.1 p0 3).toInt)) (cel (vw (G.2.1 (F p2 0))) ((G.1 p0 2).toInt) k ((G.1 p0 3).toInt)) y := by
  intro y; exact ⟨fun h => absurd h (MB_0 (by omega)), fun ⟨k, h1, h2, _⟩ => absurd h2 (by omega)⟩
theorem v_X1_offerByRows_44_15 {K : Nat → Nat} {F : Nat → Nat → Nat} (a : Nat) (p0 : Nat) (p1 : Nat) (p2 : Nat) (G : XG) (x4 : Int32)
    (ha : K a = 3)
    (hp0 : K p0 = 9)
    (hp1 : K p1 = 8)
    (hp2 : K p2 = 8)
    (s0 : ((G.1 a 3).toInt) = 0)
    (z0 : (0 ≤ ((G.1 p0 0).toInt) ∧ ((G.1 p0 0).toInt) ≤ 5) ∧ (0 ≤ ((G.1 p0 2).toInt) ∧ ((G.1 p0 2).toInt) ≤ 2) ∧ (0 ≤ ((G.1 p0 3).toInt) ∧ ((G.1 p0 3).toInt) ≤ 2) ∧ (-1 ≤ ((G.1 p0 4).toInt) ∧ ((G.1 p0 4).toInt) ≤ 2) ∧ (((G.1 p0 0).toInt) = 1 ∨ ((G.1 p0 0).toInt) = 3 ∨ ((G.1 p0 0).toInt) = 4 → 0 ≤ ((G.1 p0 4).toInt)))
    (t4 : (x4.toInt = 1 ∧ 0 ≤ ((G.1 p0 2).toInt) ∧ ((G.1 p0 2).toInt) < 3) ∨ (x4.toInt = 0 ∧ (((G.1 p0 2).toInt) < 0 ∨ 3 ≤ ((G.1 p0 2).toInt))))
    (c7 : ¬ (x4.toInt = 0))
    (c30 : ¬ (((G.1 p0 0).toInt) = (2 : Int)))
    (c38 : ¬ (((G.1 p0 0).toInt) ≠ (5 : Int))) :
    SO (G.2.1 (F a 2)) ((G.1 a 3).toInt) := by
  exact SO_0 (by omega)
theorem v_X1_offerByRows_47_16 {F : Nat → Nat → Nat} (a : Nat) (G44 : XG)
    (oq44 : SO (G44.2.1 (F a 2)) ((G44.1 a 3).toInt)) :
    SO (G44.2.1 (F a 2)) ((G44.1 a 3).toInt) := by
  first | exact oq44 | exact ps
theorem v_X1_offerByRows_47_17 {K : Nat → Nat} {F : Nat → Nat → Nat} (a : Nat) (p0 : Nat) (p1 : Nat) (p2 : Nat) (G : XG) (G44 : XG) (x18 : Int32) (x4 : Int32)
    (ha : K a = 3)
    (hp0 : K p0 = 9)
    (hp1 : K p1 = 8)
    (hp2 : K p2 = 8)
    (hv18 : x18.toInt = (aI (G.2.1 (F a 0)) ((G.1 p0 2).toInt)))
    (oq44 : SO (G44.2.1 (F a 2)) ((G44.1 a 3).toInt))
    (oq44a : ∀ y : Int, MB (G44.2.1 (F a 2)) ((G44.1 a 3).toInt) y ↔ MB (G.2.1 (F a 2)) ((G.1 a 3).toInt) y ∨ (0 ≤ y ∧ y < 30 ∧ bI (aI (G.2.1 (F a 0)) ((G.1 p0 2).toInt)) y = 1))
    (s0 : ((G.1 a 3).toInt) = 0)
    (z0 : (0 ≤ ((G.1 p0 0).toInt) ∧ ((G.1 p0 0).toInt) ≤ 5) ∧ (0 ≤ ((G.1 p0 2).toInt) ∧ ((G.1 p0 2).toInt) ≤ 2) ∧ (0 ≤ ((G.1 p0 3).toInt) ∧ ((G.1 p0 3).toInt) ≤ 2) ∧ (-1 ≤ ((G.1 p0 4).toInt) ∧ ((G.1 p0 4).toInt) ≤ 2) ∧ (((G.1 p0 0).toInt) = 1 ∨ ((G.1 p0 0).toInt) = 3 ∨ ((G.1 p0 0).toInt) = 4 → 0 ≤ ((G.1 p0 4).toInt)))
    (t4 : (x4.toInt = 1 ∧ 0 ≤ ((G.1 p0 2).toInt) ∧ ((G.1 p0 2).toInt) < 3) ∨ (x4.toInt = 0 ∧ (((G.1 p0 2).toInt) < 0 ∨ 3 ≤ ((G.1 p0 2).toInt))))
    (c7 : ¬ (x4.toInt = 0))
    (c30 : ¬ (((G.1 p0 0).toInt) = (2 : Int)))
    (c38 : ¬ (((G.1 p0 0).toInt) ≠ (5 : Int)))
    (t44 : ((G.1 a 3).toInt) ≤ ((G44.1 a 3).toInt) ∧ ((G44.1 a 3).toInt) ≤ ((G.1 a 3).toInt) + 30) :
    ∀ y : Int, MB (G44.2.1 (F a 2)) ((G44.1 a 3).toInt) y ↔ ((((G.1 p0 0).toInt) = 2 ∨ ((G.1 p0 0).toInt) = 5) ∧ 0 ≤ y ∧ y < 30 ∧ bI (aI (G.2.1 (F a 0)) ((G.1 p0 2).toInt)) y = 1) ∨ (¬ (((G.1 p0 0).toInt) = 2 ∨ ((G.1 p0 0).toInt) = 5) ∧ ∃ k : Int, 0 ≤ k ∧ k < 30 ∧ bI (aI (G.2.1 (F a 0)) ((G.1 p0 2).toInt)) k = 1 ∧ OV ((G.1 p0 0).toInt) (cel (vw (G.2.1 (F p1 0))) ((G.1 p0 2).toInt) k ((G.1 p0 3).toInt)) (cel (vw (G.2.1 (F p2 0))) ((G.1 p0 2).toInt) k ((G.1 p0 3).toInt)) y) := by
  intro y
  first
    | (rw [oq44a y]
       constructor
       · rintro (h | h)
         · exact absurd h (MB_0 (by omega))
         · exact Or.inl ⟨by omega, h⟩
       · rintro (h | h)
         · exact Or.inr h.2
         · exact absurd h.1 (by omega))
    | (rw [pm y]
       constructor
       · rintro ⟨k, h1, h2, h3⟩
         exact Or.inr ⟨by omega, k, h1, by omega, h3⟩
       · rintro (h | ⟨_, k, h1, h2, h3, h4⟩)
         · exact absurd h.1 (by omega)
         · by_cases e : k < l5_51.toInt
           · exact ⟨k, h1, e, h3, h4⟩
           · first | (exfalso; omega) | exact absurd h3 (by rw [bI_sh0 he62 hv18 rfl (by omega) c63 k (by omega) (by omega)]; decide))
theorem v_X1_ofAllRows_105_1 {K : Nat → Nat} {F : Nat → Nat → Nat} (a : Nat) (p0 : Nat) (p1 : Nat) (G : XG) (G_2 : XG) (l3_2 : Int32) (N2 : Nat)
    (ha : K a = 3)
    (hp0 : K p0 = 8)
    (hp1 : K p1 = 8)
    (j0 : F p0 99 < 12)
    (j1 : F p1 99 < 12)
    (pc : ∀ t : Int, 0 ≤ t → t < l3_2.toInt → CHt (vw (G.2.1 (F p0 0))) (vw (G.2.1 (F p1 0))) (aI (G_2.2.1 (F a 1))) (aI (G_2.2.1 (F a 0))) t)
    (I2_0 : 0 ≤ l3_2.toInt ∧ l3_2.toInt ≤ 3)
    (I2_1 : (0 : Int) ≤ l3_2.toInt)
    (hm2 : 2147483648 - l3_2.toInt < (((N2) + 1 : Nat) : Int))
    (c4 : (3 : Int) ≤ l3_2.toInt) :
    CH (vw (G.2.1 (F p0 0))) (vw (G.2.1 (F p1 0))) (aI (G_2.2.1 (F a 1))) (aI (G_2.2.1 (F a 0))) := by
  intro t h1 h2; exact pc t h1 (by omega)
theorem v_X1_ofAllRows_102_2 {K : Nat → Nat} {F : Nat → Nat → Nat} (a : Nat) (p0 : Nat) (p1 : Nat) (G : XG) (G_2 : XG) (G23 : XG) (l3_2 : Int32) (x22 : Int32) (G35 : XG) (x34 : Int32) (G_52 : XG) (x14 : Int32) (x19 : Int32) (x46 : Int32) (x38 : Int32) (x43 : Int32) (l5_52 : Int32) (N2 : Nat) (N52 : Nat)
    (ha : K a = 3)
    (hp0 : K p0 = 8)
    (hp1 : K p1 = 8)
    (hG23 : G23 = cput G_2 (F a 1) l3_2.toNatClampNeg x22)
    (hG35 : G35 = cput G23 (F a 0) l3_2.toNatClampNeg x34)
    (ro1 : RO (vw (G.2.1 (F p0 0))) (aI (G.2.1 (F p0 1))))
    (ro2 : RO (vw (G.2.1 (F p1 0))) (aI (G.2.1 (F p1 1))))
    (j0 : F p0 99 < 12)
    (j1 : F p1 99 < 12)
    (pc : ∀ t : Int, 0 ≤ t → t < l3_2.toInt → CHt (vw (G.2.1 (F p0 0))) (vw (G.2.1 (F p1 0))) (aI (G_2.2.1 (F a 1))) (aI (G_2.2.1 (F a 0))) t)
    (he22 : x22 = x14 ^^^ x19)
    (hv34 : x34.toInt = (aI (G23.2.1 (F a 1)) (l3_2.toInt)))
    (he46 : x46 = x38 &&& x43)
    (pd : CHk (vw (G.2.1 (F p0 0))) (vw (G.2.1 (F p1 0))) (aI (G_52.2.1 (F a 0)) l3_2.toInt) l3_2.toInt l5_52.toInt)
    (po : ∀ t : Int, 0 ≤ t → t ≠ l3_2.toInt → aI (G_52.2.1 (F a 0)) t = aI (G35.2.1 (F a 0)) t)
    (I2_0 : 0 ≤ l3_2.toInt ∧ l3_2.toInt ≤ 3)
    (I2_1 : (0 : Int) ≤ l3_2.toInt)
    (hm2 : 2147483648 - l3_2.toInt < (((N2) + 1 : Nat) : Int))
    (c4 : ¬ ((3 : Int) ≤ l3_2.toInt))
    (t14 : (0 ≤ l3_2.toInt ∧ l3_2.toInt < 3 ∧ x14.toInt = (aI (G.2.1 (F p0 1)) (l3_2.toInt))) ∨ ((l3_2.toInt < 0 ∨ 3 ≤ l3_2.toInt) ∧ x14.toInt = 0))
    (t19 : (0 ≤ l3_2.toInt ∧ l3_2.toInt < 3 ∧ x19.toInt = (aI (G.2.1 (F p1 1)) (l3_2.toInt))) ∨ ((l3_2.toInt < 0 ∨ 3 ≤ l3_2.toInt) ∧ x19.toInt = 0))
    (hc34 : (l3_2.toInt = l3_2.toInt → (aI (G23.2.1 (F a 1)) (l3_2.toInt)) = x22.toInt) ∧ (l3_2.toInt ≠ l3_2.toInt → (aI (G23.2.1 (F a 1)) (l3_2.toInt)) = (aI (G_2.2.1 (F a 1)) (l3_2.toInt))))
    (t38 : (0 ≤ l3_2.toInt ∧ l3_2.toInt < 3 ∧ x38.toInt = (aI (G.2.1 (F p0 1)) (l3_2.toInt))) ∨ ((l3_2.toInt < 0 ∨ 3 ≤ l3_2.toInt) ∧ x38.toInt = 0))
    (t43 : (0 ≤ l3_2.toInt ∧ l3_2.toInt < 3 ∧ x43.toInt = (aI (G.2.1 (F p1 1)) (l3_2.toInt))) ∨ ((l3_2.toInt < 0 ∨ 3 ≤ l3_2.toInt) ∧ x43.toInt = 0))
    (I52_0 : 0 ≤ l5_52.toInt ∧ l5_52.toInt ≤ 30)
    (I52_1 : (0 : Int) ≤ l5_52.toInt)
    (hm52 : 2147483648 - l5_52.toInt < (((N52) + 1 : Nat) : Int))
    (c56 : (30 : Int) ≤ l5_52.toInt)
    (c_G23_F_a_0 : G23.2.1 (F a 0) = G_2.2.1 (F a 0))
    (c_G_52_F_a_1 : G_52.2.1 (F a 1) = G23.2.1 (F a 1)) :
    ∀ t : Int, 0 ≤ t → t < (l3_2.toInt + 1) → CHt (vw (G.2.1 (F p0 0))) (vw (G.2.1 (F p1 0))) (aI (G_52.2.1 (F a 1))) (aI (G_52.2.1 (F a 0))) t := by
  intro t h1 h2
  by_cases e : t = l3_2.toInt
  · subst e
    have hx := bI_xor he22 (X := aI (G.2.1 (F p0 1)) l3_2.toInt) (Y := aI (G.2.1 (F p1 1)) l3_2.toInt) (by omega) (by omega)
    have e1 : aI (G23.2.1 (F a 1)) l3_2.toInt = x22.toInt := by rw [hG23, aI_put (by omega) _ (by omega), if_pos rfl]
    intro k k0 k1
    rw [c_G_52_F_a_1, e1]
    refine ⟨(CHk_0 ro1 ro2 (by omega) hx).1 k k0 k1, (pd k k0 k1).trans ⟨fun h => h.elim (fun w => w.2) (fun w => absurd w.1 (by omega)), fun h => Or.inl ⟨by omega, h⟩⟩⟩
  · intro k k0 k1
    have q := pc t h1 (by omega) k k0 k1
    rw [c_G_52_F_a_1, hG23, aI_put (by omega) _ h1, if_neg e, po t h1 e, hG35, aI_put (by omega) _ h1, if_neg e]
    rw [c_G23_F_a_0]
    exact q
theorem v_X1_ofAllRows_96_3 {K : Nat → Nat} {F : Nat → Nat → Nat} (a : Nat) (p0 : Nat) (p1 : Nat) (G : XG) (G_2 : XG) (G23 : XG) (l3_2 : Int32) (x22 : Int32) (G_52 : XG) (x14 : Int32) (x19 : Int32) (x46 : Int32) (x38 : Int32) (x43 : Int32) (l5_52 : Int32) (x63 : Int32) (x65 : Int32) (N2 : Nat) (N52 : Nat)
    (ha : K a = 3)
    (hp0 : K p0 = 8)
    (hp1 : K p1 = 8)
    (ro1 : RO (vw (G.2.1 (F p0 0))) (aI (G.2.1 (F p0 1))))
    (ro2 : RO (vw (G.2.1 (F p1 0))) (aI (G.2.1 (F p1 1))))
    (j0 : F p0 99 < 12)
    (j1 : F p1 99 < 12)
    (he22 : x22 = x14 ^^^ x19)
    (he46 : x46 = x38 &&& x43)
    (pd : CHk (vw (G.2.1 (F p0 0))) (vw (G.2.1 (F p1 0))) (aI (G_52.2.1 (F a 0)) l3_2.toInt) l3_2.toInt l5_52.toInt)
    (he63 : x63 = (x46 : Int32) >>> (l5_52 &&& 31))
    (he65 : x65 = x63 &&& 1)
    (I2_0 : 0 ≤ l3_2.toInt ∧ l3_2.toInt ≤ 3)
    (I2_1 : (0 : Int) ≤ l3_2.toInt)
    (hm2 : 2147483648 - l3_2.toInt < (((N2) + 1 : Nat) : Int))
    (c4 : ¬ ((3 : Int) ≤ l3_2.toInt))
    (t14 : (0 ≤ l3_2.toInt ∧ l3_2.toInt < 3 ∧ x14.toInt = (aI (G.2.1 (F p0 1)) (l3_2.toInt))) ∨ ((l3_2.toInt < 0 ∨ 3 ≤ l3_2.toInt) ∧ x14.toInt = 0))
    (t19 : (0 ≤ l3_2.toInt ∧ l3_2.toInt < 3 ∧ x19.toInt = (aI (G.2.1 (F p1 1)) (l3_2.toInt))) ∨ ((l3_2.toInt < 0 ∨ 3 ≤ l3_2.toInt) ∧ x19.toInt = 0))
    (hc34 : (l3_2.toInt = l3_2.toInt → (aI (G23.2.1 (F a 1)) (l3_2.toInt)) = x22.toInt) ∧ (l3_2.toInt ≠ l3_2.toInt → (aI (G23.2.1 (F a 1)) (l3_2.toInt)) = (aI (G_2.2.1 (F a 1)) (l3_2.toInt))))
    (t38 : (0 ≤ l3_2.toInt ∧ l3_2.toInt < 3 ∧ x38.toInt = (aI (G.2.1 (F p0 1)) (l3_2.toInt))) ∨ ((l3_2.toInt < 0 ∨ 3 ≤ l3_2.toInt) ∧ x38.toInt = 0))
    (t43 : (0 ≤ l3_2.toInt ∧ l3_2.toInt < 3 ∧ x43.toInt = (aI (G.2.1 (F p1 1)) (l3_2.toInt))) ∨ ((l3_2.toInt < 0 ∨ 3 ≤ l3_2.toInt) ∧ x43.toInt = 0))
    (I52_0 : 0 ≤ l5_52.toInt ∧ l5_52.toInt ≤ 30)
    (I52_1 : (0 : Int) ≤ l5_52.toInt)
    (hm52 : 2147483648 - l5_52.toInt < (((N52) + 1 : Nat) : Int))
    (c56 : ¬ ((30 : Int) ≤ l5_52.toInt))
    (hb65 : x65.toInt = (bI (x46.toInt) (l5_52.toInt)))
    (hb65a : x65.toInt = 0 ∨ x65.toInt = 1)
    (c66 : x65.toInt = 0) :
    CHk (vw (G.2.1 (F p0 0))) (vw (G.2.1 (F p1 0))) (aI (G_52.2.1 (F a 0)) l3_2.toInt) l3_2.toInt (l5_52.toInt + 1) := by
  have hb := bI_band he46 (X := aI (G.2.1 (F p0 1)) l3_2.toInt) (Y := aI (G.2.1 (F p1 1)) l3_2.toInt) (by omega) (by omega) l5_52.toInt
  refine pd.nxt ro1 ro2 (by omega) ?_
  first
    | (refine Or.inl ⟨rfl, ?_⟩
       first
         | (left; intro h; have := hb.mpr h; omega)
         | (right; unfold DFF; omega))
    | (refine Or.inr ⟨?_, by unfold DFF; omega⟩
       rw [hG92, aI_put (by omega) _ (by omega), if_pos rfl]
       exact bI_set he90 he91 hv86 rfl (by omega))
theorem v_X1_ofAllRows_96_4 {K : Nat → Nat} {F : Nat → Nat → Nat} (a : Nat) (p0 : Nat) (p1 : Nat) (G : XG) (G_2 : XG) (G23 : XG) (l3_2 : Int32) (x22 : Int32) (G35 : XG) (G_52 : XG) (x14 : Int32) (x19 : Int32) (x46 : Int32) (x38 : Int32) (x43 : Int32) (l5_52 : Int32) (x63 : Int32) (x65 : Int32) (N2 : Nat) (N52 : Nat)
    (ha : K a = 3)
    (hp0 : K p0 = 8)
    (hp1 : K p1 = 8)
    (j0 : F p0 99 < 12)
    (j1 : F p1 99 < 12)
    (he22 : x22 = x14 ^^^ x19)
    (he46 : x46 = x38 &&& x43)
    (pd : CHk (vw (G.2.1 (F p0 0))) (vw (G.2.1 (F p1 0))) (aI (G_52.2.1 (F a 0)) l3_2.toInt) l3_2.toInt l5_52.toInt)
    (po : ∀ t : Int, 0 ≤ t → t ≠ l3_2.toInt → aI (G_52.2.1 (F a 0)) t = aI (G35.2.1 (F a 0)) t)
    (he63 : x63 = (x46 : Int32) >>> (l5_52 &&& 31))
    (he65 : x65 = x63 &&& 1)
    (I2_0 : 0 ≤ l3_2.toInt ∧ l3_2.toInt ≤ 3)
    (I2_1 : (0 : Int) ≤ l3_2.toInt)
    (hm2 : 2147483648 - l3_2.toInt < (((N2) + 1 : Nat) : Int))
    (c4 : ¬ ((3 : Int) ≤ l3_2.toInt))
    (t14 : (0 ≤ l3_2.toInt ∧ l3_2.toInt < 3 ∧ x14.toInt = (aI (G.2.1 (F p0 1)) (l3_2.toInt))) ∨ ((l3_2.toInt < 0 ∨ 3 ≤ l3_2.toInt) ∧ x14.toInt = 0))
    (t19 : (0 ≤ l3_2.toInt ∧ l3_2.toInt < 3 ∧ x19.toInt = (aI (G.2.1 (F p1 1)) (l3_2.toInt))) ∨ ((l3_2.toInt < 0 ∨ 3 ≤ l3_2.toInt) ∧ x19.toInt = 0))
    (hc34 : (l3_2.toInt = l3_2.toInt → (aI (G23.2.1 (F a 1)) (l3_2.toInt)) = x22.toInt) ∧ (l3_2.toInt ≠ l3_2.toInt → (aI (G23.2.1 (F a 1)) (l3_2.toInt)) = (aI (G_2.2.1 (F a 1)) (l3_2.toInt))))
    (t38 : (0 ≤ l3_2.toInt ∧ l3_2.toInt < 3 ∧ x38.toInt = (aI (G.2.1 (F p0 1)) (l3_2.toInt))) ∨ ((l3_2.toInt < 0 ∨ 3 ≤ l3_2.toInt) ∧ x38.toInt = 0))
    (t43 : (0 ≤ l3_2.toInt ∧ l3_2.toInt < 3 ∧ x43.toInt = (aI (G.2.1 (F p1 1)) (l3_2.toInt))) ∨ ((l3_2.toInt < 0 ∨ 3 ≤ l3_2.toInt) ∧ x43.toInt = 0))
    (I52_0 : 0 ≤ l5_52.toInt ∧ l5_52.toInt ≤ 30)
    (I52_1 : (0 : Int) ≤ l5_52.toInt)
    (hm52 : 2147483648 - l5_52.toInt < (((N52) + 1 : Nat) : Int))
    (c56 : ¬ ((30 : Int) ≤ l5_52.toInt))
    (hb65 : x65.toInt = (bI (x46.toInt) (l5_52.toInt)))
    (hb65a : x65.toInt = 0 ∨ x65.toInt = 1)
    (c66 : x65.toInt = 0) :
    ∀ t : Int, 0 ≤ t → t ≠ l3_2.toInt → aI (G_52.2.1 (F a 0)) t = aI (G35.2.1 (F a 0)) t := by
  intro t h1 h2
  first
    | exact po t h1 h2
    | (rw [hG92, aI_put (by omega) _ h1, if_neg h2]; exact po t h1 h2)
theorem v_X1_ofAllRows_96_5 {K : Nat → Nat} {F : Nat → Nat → Nat} (a : Nat) (p0 : Nat) (p1 : Nat) (G : XG) (G_2 : XG) (G23 : XG) (l3_2 : Int32) (x22 : Int32) (G_52 : XG) (x14 : Int32) (x19 : Int32) (x46 : Int32) (x38 : Int32) (x43 : Int32) (l5_52 : Int32) (x63 : Int32) (x65 : Int32) (N2 : Nat) (N52 : Nat) (x74 : Int32)
    (ha : K a = 3)
    (hp0 : K p0 = 8)
    (hp1 : K p1 = 8)
    (ro1 : RO (vw (G.2.1 (F p0 0))) (aI (G.2.1 (F p0 1))))
    (ro2 : RO (vw (G.2.1 (F p1 0))) (aI (G.2.1 (F p1 1))))
    (j0 : F p0 99 < 12)
    (j1 : F p1 99 < 12)
    (he22 : x22 = x14 ^^^ x19)
    (he46 : x46 = x38 &&& x43)
    (pd : CHk (vw (G.2.1 (F p0 0))) (vw (G.2.1 (F p1 0))) (aI (G_52.2.1 (F a 0)) l3_2.toInt) l3_2.toInt l5_52.toInt)
    (he63 : x63 = (x46 : Int32) >>> (l5_52 &&& 31))
    (he65 : x65 = x63 &&& 1)
    (I2_0 : 0 ≤ l3_2.toInt ∧ l3_2.toInt ≤ 3)
    (I2_1 : (0 : Int) ≤ l3_2.toInt)
    (hm2 : 2147483648 - l3_2.toInt < (((N2) + 1 : Nat) : Int))
    (c4 : ¬ ((3 : Int) ≤ l3_2.toInt))
    (t14 : (0 ≤ l3_2.toInt ∧ l3_2.toInt < 3 ∧ x14.toInt = (aI (G.2.1 (F p0 1)) (l3_2.toInt))) ∨ ((l3_2.toInt < 0 ∨ 3 ≤ l3_2.toInt) ∧ x14.toInt = 0))
    (t19 : (0 ≤ l3_2.toInt ∧ l3_2.toInt < 3 ∧ x19.toInt = (aI (G.2.1 (F p1 1)) (l3_2.toInt))) ∨ ((l3_2.toInt < 0 ∨ 3 ≤ l3_2.toInt) ∧ x19.toInt = 0))
    (hc34 : (l3_2.toInt = l3_2.toInt → (aI (G23.2.1 (F a 1)) (l3_2.toInt)) = x22.toInt) ∧ (l3_2.toInt ≠ l3_2.toInt → (aI (G23.2.1 (F a 1)) (l3_2.toInt)) = (aI (G_2.2.1 (F a 1)) (l3_2.toInt))))
    (t38 : (0 ≤ l3_2.toInt ∧ l3_2.toInt < 3 ∧ x38.toInt = (aI (G.2.1 (F p0 1)) (l3_2.toInt))) ∨ ((l3_2.toInt < 0 ∨ 3 ≤ l3_2.toInt) ∧ x38.toInt = 0))
    (t43 : (0 ≤ l3_2.toInt ∧ l3_2.toInt < 3 ∧ x43.toInt = (aI (G.2.1 (F p1 1)) (l3_2.toInt))) ∨ ((l3_2.toInt < 0 ∨ 3 ≤ l3_2.toInt) ∧ x43.toInt = 0))
    (I52_0 : 0 ≤ l5_52.toInt ∧ l5_52.toInt ≤ 30)
    (I52_1 : (0 : Int) ≤ l5_52.toInt)
    (hm52 : 2147483648 - l5_52.toInt < (((N52) + 1 : Nat) : Int))
    (c56 : ¬ ((30 : Int) ≤ l5_52.toInt))
    (hb65 : x65.toInt = (bI (x46.toInt) (l5_52.toInt)))
    (hb65a : x65.toInt = 0 ∨ x65.toInt = 1)
    (c66 : ¬ (x65.toInt = 0))
    (t74 : (((cel (vw (G.2.1 (F p0 0))) (l3_2.toInt) (l5_52.toInt) 0) ≠ (cel (vw (G.2.1 (F p1 0))) (l3_2.toInt) (l5_52.toInt) 0) ∨ (cel (vw (G.2.1 (F p0 0))) (l3_2.toInt) (l5_52.toInt) 1) ≠ (cel (vw (G.2.1 (F p1 0))) (l3_2.toInt) (l5_52.toInt) 1) ∨ (cel (vw (G.2.1 (F p0 0))) (l3_2.toInt) (l5_52.toInt) 2) ≠ (cel (vw (G.2.1 (F p1 0))) (l3_2.toInt) (l5_52.toInt) 2)) ∧ x74.toInt = 1) ∨ (¬ ((cel (vw (G.2.1 (F p0 0))) (l3_2.toInt) (l5_52.toInt) 0) ≠ (cel (vw (G.2.1 (F p1 0))) (l3_2.toInt) (l5_52.toInt) 0) ∨ (cel (vw (G.2.1 (F p0 0))) (l3_2.toInt) (l5_52.toInt) 1) ≠ (cel (vw (G.2.1 (F p1 0))) (l3_2.toInt) (l5_52.toInt) 1) ∨ (cel (vw (G.2.1 (F p0 0))) (l3_2.toInt) (l5_52.toInt) 2) ≠ (cel (vw (G.2.1 (F p1 0))) (l3_2.toInt) (l5_52.toInt) 2)) ∧ x74.toInt = 0))
    (c77 : x74.toInt = 0) :
    CHk (vw (G.2.1 (F p0 0))) (vw (G.2.1 (F p1 0))) (aI (G_52.2.1 (F a 0)) l3_2.toInt) l3_2.toInt (l5_52.toInt + 1) := by
  have hb := bI_band he46 (X := aI (G.2.1 (F p0 1)) l3_2.toInt) (Y := aI (G.2.1 (F p1 1)) l3_2.toInt) (by omega) (by omega) l5_52.toInt
  refine pd.nxt ro1 ro2 (by omega) ?_
  first
    | (refine Or.inl ⟨rfl, ?_⟩
       first
         | (left; intro h; have := hb.mpr h; omega)
         | (right; unfold DFF; omega))
    | (refine Or.inr ⟨?_, by unfold DFF; omega⟩
       rw [hG92, aI_put (by omega) _ (by omega), if_pos rfl]
       exact bI_set he90 he91 hv86 rfl (by omega))
theorem v_X1_ofAllRows_96_6 {K : Nat → Nat} {F : Nat → Nat → Nat} (a : Nat) (p0 : Nat) (p1 : Nat) (G : XG) (G_2 : XG) (G23 : XG) (l3_2 : Int32) (x22 : Int32) (G35 : XG) (G_52 : XG) (x14 : Int32) (x19 : Int32) (x46 : Int32) (x38 : Int32) (x43 : Int32) (l5_52 : Int32) (x63 : Int32) (x65 : Int32) (N2 : Nat) (N52 : Nat) (x74 : Int32)
    (ha : K a = 3)
    (hp0 : K p0 = 8)
    (hp1 : K p1 = 8)
    (j0 : F p0 99 < 12)
    (j1 : F p1 99 < 12)
    (he22 : x22 = x14 ^^^ x19)
    (he46 : x46 = x38 &&& x43)
    (pd : CHk (vw (G.2.1 (F p0 0))) (vw (G.2.1 (F p1 0))) (aI (G_52.2.1 (F a 0)) l3_2.toInt) l3_2.toInt l5_52.toInt)
    (po : ∀ t : Int, 0 ≤ t → t ≠ l3_2.toInt → aI (G_52.2.1 (F a 0)) t = aI (G35.2.1 (F a 0)) t)
    (he63 : x63 = (x46 : Int32) >>> (l5_52 &&& 31))
    (he65 : x65 = x63 &&& 1)
    (I2_0 : 0 ≤ l3_2.toInt ∧ l3_2.toInt ≤ 3)
    (I2_1 : (0 : Int) ≤ l3_2.toInt)
    (hm2 : 2147483648 - l3_2.toInt < (((N2) + 1 : Nat) : Int))
    (c4 : ¬ ((3 : Int) ≤ l3_2.toInt))
    (t14 : (0 ≤ l3_2.toInt ∧ l3_2.toInt < 3 ∧ x14.toInt = (aI (G.2.1 (F p0 1)) (l3_2.toInt))) ∨ ((l3_2.toInt < 0 ∨ 3 ≤ l3_2.toInt) ∧ x14.toInt = 0))
    (t19 : (0 ≤ l3_2.toInt ∧ l3_2.toInt < 3 ∧ x19.toInt = (aI (G.2.1 (F p1 1)) (l3_2.toInt))) ∨ ((l3_2.toInt < 0 ∨ 3 ≤ l3_2.toInt) ∧ x19.toInt = 0))
    (hc34 : (l3_2.toInt = l3_2.toInt → (aI (G23.2.1 (F a 1)) (l3_2.toInt)) = x22.toInt) ∧ (l3_2.toInt ≠ l3_2.toInt → (aI (G23.2.1 (F a 1)) (l3_2.toInt)) = (aI (G_2.2.1 (F a 1)) (l3_2.toInt))))
    (t38 : (0 ≤ l3_2.toInt ∧ l3_2.toInt < 3 ∧ x38.toInt = (aI (G.2.1 (F p0 1)) (l3_2.toInt))) ∨ ((l3_2.toInt < 0 ∨ 3 ≤ l3_2.toInt) ∧ x38.toInt = 0))
    (t43 : (0 ≤ l3_2.toInt ∧ l3_2.toInt < 3 ∧ x43.toInt = (aI (G.2.1 (F p1 1)) (l3_2.toInt))) ∨ ((l3_2.toInt < 0 ∨ 3 ≤ l3_2.toInt) ∧ x43.toInt = 0))
    (I52_0 : 0 ≤ l5_52.toInt ∧ l5_52.toInt ≤ 30)
    (I52_1 : (0 : Int) ≤ l5_52.toInt)
    (hm52 : 2147483648 - l5_52.toInt < (((N52) + 1 : Nat) : Int))
    (c56 : ¬ ((30 : Int) ≤ l5_52.toInt))
    (hb65 : x65.toInt = (bI (x46.toInt) (l5_52.toInt)))
    (hb65a : x65.toInt = 0 ∨ x65.toInt = 1)
    (c66 : ¬ (x65.toInt = 0))
    (t74 : (((cel (vw (G.2.1 (F p0 0))) (l3_2.toInt) (l5_52.toInt) 0) ≠ (cel (vw (G.2.1 (F p1 0))) (l3_2.toInt) (l5_52.toInt) 0) ∨ (cel (vw (G.2.1 (F p0 0))) (l3_2.toInt) (l5_52.toInt) 1) ≠ (cel (vw (G.2.1 (F p1 0))) (l3_2.toInt) (l5_52.toInt) 1) ∨ (cel (vw (G.2.1 (F p0 0))) (l3_2.toInt) (l5_52.toInt) 2) ≠ (cel (vw (G.2.1 (F p1 0))) (l3_2.toInt) (l5_52.toInt) 2)) ∧ x74.toInt = 1) ∨ (¬ ((cel (vw (G.2.1 (F p0 0))) (l3_2.toInt) (l5_52.toInt) 0) ≠ (cel (vw (G.2.1 (F p1 0))) (l3_2.toInt) (l5_52.toInt) 0) ∨ (cel (vw (G.2.1 (F p0 0))) (l3_2.toInt) (l5_52.toInt) 1) ≠ (cel (vw (G.2.1 (F p1 0))) (l3_2.toInt) (l5_52.toInt) 1) ∨ (cel (vw (G.2.1 (F p0 0))) (l3_2.toInt) (l5_52.toInt) 2) ≠ (cel (vw (G.2.1 (F p1 0))) (l3_2.toInt) (l5_52.toInt) 2)) ∧ x74.toInt = 0))
    (c77 : x74.toInt = 0) :
    ∀ t : Int, 0 ≤ t → t ≠ l3_2.toInt → aI (G_52.2.1 (F a 0)) t = aI (G35.2.1 (F a 0)) t := by
  intro t h1 h2
  first
    | exact po t h1 h2
    | (rw [hG92, aI_put (by omega) _ h1, if_neg h2]; exact po t h1 h2)
theorem v_X1_ofAllRows_96_7 {K : Nat → Nat} {F : Nat → Nat → Nat} (a : Nat) (p0 : Nat) (p1 : Nat) (G : XG) (G_2 : XG) (G23 : XG) (l3_2 : Int32) (x22 : Int32) (G_52 : XG) (G92 : XG) (x91 : Int32) (x14 : Int32) (x19 : Int32) (x46 : Int32) (x38 : Int32) (x43 : Int32) (l5_52 : Int32) (x63 : Int32) (x65 : Int32) (x86 : Int32) (x90 : Int32) (N2 : Nat) (N52 : Nat) (x74 : Int32)
    (ha : K a = 3)
    (hp0 : K p0 = 8)
    (hp1 : K p1 = 8)
    (hG92 : G92 = cput G_52 (F a 0) l3_2.toNatClampNeg x91)
    (ro1 : RO (vw (G.2.1 (F p0 0))) (aI (G.2.1 (F p0 1))))
    (ro2 : RO (vw (G.2.1 (F p1 0))) (aI (G.2.1 (F p1 1))))
    (j0 : F p0 99 < 12)
    (j1 : F p1 99 < 12)
    (he22 : x22 = x14 ^^^ x19)
    (he46 : x46 = x38 &&& x43)
    (pd : CHk (vw (G.2.1 (F p0 0))) (vw (G.2.1 (F p1 0))) (aI (G_52.2.1 (F a 0)) l3_2.toInt) l3_2.toInt l5_52.toInt)
    (he63 : x63 = (x46 : Int32) >>> (l5_52 &&& 31))
    (he65 : x65 = x63 &&& 1)
    (hv86 : x86.toInt = (aI (G_52.2.1 (F a 0)) (l3_2.toInt)))
    (he90 : x90 = (1 : Int32) <<< (l5_52 &&& 31))
    (he91 : x91 = x86 ||| x90)
    (I2_0 : 0 ≤ l3_2.toInt ∧ l3_2.toInt ≤ 3)
    (I2_1 : (0 : Int) ≤ l3_2.toInt)
    (hm2 : 2147483648 - l3_2.toInt < (((N2) + 1 : Nat) : Int))
    (c4 : ¬ ((3 : Int) ≤ l3_2.toInt))
    (t14 : (0 ≤ l3_2.toInt ∧ l3_2.toInt < 3 ∧ x14.toInt = (aI (G.2.1 (F p0 1)) (l3_2.toInt))) ∨ ((l3_2.toInt < 0 ∨ 3 ≤ l3_2.toInt) ∧ x14.toInt = 0))
    (t19 : (0 ≤ l3_2.toInt ∧ l3_2.toInt < 3 ∧ x19.toInt = (aI (G.2.1 (F p1 1)) (l3_2.toInt))) ∨ ((l3_2.toInt < 0 ∨ 3 ≤ l3_2.toInt) ∧ x19.toInt = 0))
    (hc34 : (l3_2.toInt = l3_2.toInt → (aI (G23.2.1 (F a 1)) (l3_2.toInt)) = x22.toInt) ∧ (l3_2.toInt ≠ l3_2.toInt → (aI (G23.2.1 (F a 1)) (l3_2.toInt)) = (aI (G_2.2.1 (F a 1)) (l3_2.toInt))))
    (t38 : (0 ≤ l3_2.toInt ∧ l3_2.toInt < 3 ∧ x38.toInt = (aI (G.2.1 (F p0 1)) (l3_2.toInt))) ∨ ((l3_2.toInt < 0 ∨ 3 ≤ l3_2.toInt) ∧ x38.toInt = 0))
    (t43 : (0 ≤ l3_2.toInt ∧ l3_2.toInt < 3 ∧ x43.toInt = (aI (G.2.1 (F p1 1)) (l3_2.toInt))) ∨ ((l3_2.toInt < 0 ∨ 3 ≤ l3_2.toInt) ∧ x43.toInt = 0))
    (I52_0 : 0 ≤ l5_52.toInt ∧ l5_52.toInt ≤ 30)
    (I52_1 : (0 : Int) ≤ l5_52.toInt)
    (hm52 : 2147483648 - l5_52.toInt < (((N52) + 1 : Nat) : Int))
    (c56 : ¬ ((30 : Int) ≤ l5_52.toInt))
    (hb65 : x65.toInt = (bI (x46.toInt) (l5_52.toInt)))
    (hb65a : x65.toInt = 0 ∨ x65.toInt = 1)
    (c66 : ¬ (x65.toInt = 0))
    (t74 : (((cel (vw (G.2.1 (F p0 0))) (l3_2.toInt) (l5_52.toInt) 0) ≠ (cel (vw (G.2.1 (F p1 0))) (l3_2.toInt) (l5_52.toInt) 0) ∨ (cel (vw (G.2.1 (F p0 0))) (l3_2.toInt) (l5_52.toInt) 1) ≠ (cel (vw (G.2.1 (F p1 0))) (l3_2.toInt) (l5_52.toInt) 1) ∨ (cel (vw (G.2.1 (F p0 0))) (l3_2.toInt) (l5_52.toInt) 2) ≠ (cel (vw (G.2.1 (F p1 0))) (l3_2.toInt) (l5_52.toInt) 2)) ∧ x74.toInt = 1) ∨ (¬ ((cel (vw (G.2.1 (F p0 0))) (l3_2.toInt) (l5_52.toInt) 0) ≠ (cel (vw (G.2.1 (F p1 0))) (l3_2.toInt) (l5_52.toInt) 0) ∨ (cel (vw (G.2.1 (F p0 0))) (l3_2.toInt) (l5_52.toInt) 1) ≠ (cel (vw (G.2.1 (F p1 0))) (l3_2.toInt) (l5_52.toInt) 1) ∨ (cel (vw (G.2.1 (F p0 0))) (l3_2.toInt) (l5_52.toInt) 2) ≠ (cel (vw (G.2.1 (F p1 0))) (l3_2.toInt) (l5_52.toInt) 2)) ∧ x74.toInt = 0))
    (c77 : ¬ (x74.toInt = 0)) :
    CHk (vw (G.2.1 (F p0 0))) (vw (G.2.1 (F p1 0))) (aI (G92.2.1 (F a 0)) l3_2.toInt) l3_2.toInt (l5_52.toInt + 1) := by
  have hb := bI_band he46 (X := aI (G.2.1 (F p0 1)) l3_2.toInt) (Y := aI (G.2.1 (F p1 1)) l3_2.toInt) (by omega) (by omega) l5_52.toInt
  refine pd.nxt ro1 ro2 (by omega) ?_
  first
    | (refine Or.inl ⟨rfl, ?_⟩
       first
         | (left; intro h; have := hb.mpr h; omega)
         | (right; unfold DFF; omega))
    | (refine Or.inr ⟨?_, by unfold DFF; omega⟩
       rw [hG92, aI_put (by omega) _ (by omega), if_pos rfl]
       exact bI_set he90 he91 hv86 rfl (by omega))
theorem v_X1_ofAllRows_96_8 {K : Nat → Nat} {F : Nat → Nat → Nat} (a : Nat) (p0 : Nat) (p1 : Nat) (G : XG) (G_2 : XG) (G23 : XG) (l3_2 : Int32) (x22 : Int32) (G35 : XG) (G_52 : XG) (G92 : XG) (x91 : Int32) (x14 : Int32) (x19 : Int32) (x46 : Int32) (x38 : Int32) (x43 : Int32) (l5_52 : Int32) (x63 : Int32) (x65 : Int32) (x86 : Int32) (x90 : Int32) (N2 : Nat) (N52 : Nat) (x74 : Int32)
    (ha : K a = 3)
    (hp0 : K p0 = 8)
    (hp1 : K p1 = 8)
    (hG92 : G92 = cput G_52 (F a 0) l3_2.toNatClampNeg x91)
    (j0 : F p0 99 < 12)
    (j1 : F p1 99 < 12)
    (he22 : x22 = x14 ^^^ x19)
    (he46 : x46 = x38 &&& x43)
    (pd : CHk (vw (G.2.1 (F p0 0))) (vw (G.2.1 (F p1 0))) (aI (G_52.2.1 (F a 0)) l3_2.toInt) l3_2.toInt l5_52.toInt)
    (po : ∀ t : Int, 0 ≤ t → t ≠ l3_2.toInt → aI (G_52.2.1 (F a 0)) t = aI (G35.2.1 (F a 0)) t)
    (he63 : x63 = (x46 : Int32) >>> (l5_52 &&& 31))
    (he65 : x65 = x63 &&& 1)
    (hv86 : x86.toInt = (aI (G_52.2.1 (F a 0)) (l3_2.toInt)))
    (he90 : x90 = (1 : Int32) <<< (l5_52 &&& 31))
    (he91 : x91 = x86 ||| x90)
    (I2_0 : 0 ≤ l3_2.toInt ∧ l3_2.toInt ≤ 3)
    (I2_1 : (0 : Int) ≤ l3_2.toInt)
    (hm2 : 2147483648 - l3_2.toInt < (((N2) + 1 : Nat) : Int))
    (c4 : ¬ ((3 : Int) ≤ l3_2.toInt))
    (t14 : (0 ≤ l3_2.toInt ∧ l3_2.toInt < 3 ∧ x14.toInt = (aI (G.2.1 (F p0 1)) (l3_2.toInt))) ∨ ((l3_2.toInt < 0 ∨ 3 ≤ l3_2.toInt) ∧ x14.toInt = 0))
    (t19 : (0 ≤ l3_2.toInt ∧ l3_2.toInt < 3 ∧ x19.toInt = (aI (G.2.1 (F p1 1)) (l3_2.toInt))) ∨ ((l3_2.toInt < 0 ∨ 3 ≤ l3_2.toInt) ∧ x19.toInt = 0))
    (hc34 : (l3_2.toInt = l3_2.toInt → (aI (G23.2.1 (F a 1)) (l3_2.toInt)) = x22.toInt) ∧ (l3_2.toInt ≠ l3_2.toInt → (aI (G23.2.1 (F a 1)) (l3_2.toInt)) = (aI (G_2.2.1 (F a 1)) (l3_2.toInt))))
    (t38 : (0 ≤ l3_2.toInt ∧ l3_2.toInt < 3 ∧ x38.toInt = (aI (G.2.1 (F p0 1)) (l3_2.toInt))) ∨ ((l3_2.toInt < 0 ∨ 3 ≤ l3_2.toInt) ∧ x38.toInt = 0))
    (t43 : (0 ≤ l3_2.toInt ∧ l3_2.toInt < 3 ∧ x43.toInt = (aI (G.2.1 (F p1 1)) (l3_2.toInt))) ∨ ((l3_2.toInt < 0 ∨ 3 ≤ l3_2.toInt) ∧ x43.toInt = 0))
    (I52_0 : 0 ≤ l5_52.toInt ∧ l5_52.toInt ≤ 30)
    (I52_1 : (0 : Int) ≤ l5_52.toInt)
    (hm52 : 2147483648 - l5_52.toInt < (((N52) + 1 : Nat) : Int))
    (c56 : ¬ ((30 : Int) ≤ l5_52.toInt))
    (hb65 : x65.toInt = (bI (x46.toInt) (l5_52.toInt)))
    (hb65a : x65.toInt = 0 ∨ x65.toInt = 1)
    (c66 : ¬ (x65.toInt = 0))
    (t74 : (((cel (vw (G.2.1 (F p0 0))) (l3_2.toInt) (l5_52.toInt) 0) ≠ (cel (vw (G.2.1 (F p1 0))) (l3_2.toInt) (l5_52.toInt) 0) ∨ (cel (vw (G.2.1 (F p0 0))) (l3_2.toInt) (l5_52.toInt) 1) ≠ (cel (vw (G.2.1 (F p1 0))) (l3_2.toInt) (l5_52.toInt) 1) ∨ (cel (vw (G.2.1 (F p0 0))) (l3_2.toInt) (l5_52.toInt) 2) ≠ (cel (vw (G.2.1 (F p1 0))) (l3_2.toInt) (l5_52.toInt) 2)) ∧ x74.toInt = 1) ∨ (¬ ((cel (vw (G.2.1 (F p0 0))) (l3_2.toInt) (l5_52.toInt) 0) ≠ (cel (vw (G.2.1 (F p1 0))) (l3_2.toInt) (l5_52.toInt) 0) ∨ (cel (vw (G.2.1 (F p0 0))) (l3_2.toInt) (l5_52.toInt) 1) ≠ (cel (vw (G.2.1 (F p1 0))) (l3_2.toInt) (l5_52.toInt) 1) ∨ (cel (vw (G.2.1 (F p0 0))) (l3_2.toInt) (l5_52.toInt) 2) ≠ (cel (vw (G.2.1 (F p1 0))) (l3_2.toInt) (l5_52.toInt) 2)) ∧ x74.toInt = 0))
    (c77 : ¬ (x74.toInt = 0)) :
    ∀ t : Int, 0 ≤ t → t ≠ l3_2.toInt → aI (G92.2.1 (F a 0)) t = aI (G35.2.1 (F a 0)) t := by
  intro t h1 h2
  first
    | exact po t h1 h2
    | (rw [hG92, aI_put (by omega) _ h1, if_neg h2]; exact po t h1 h2)
theorem v_X1_ofAllRows_50_9 {K : Nat → Nat} {F : Nat → Nat → Nat} (a : Nat) (p0 : Nat) (p1 : Nat) (G : XG) (G_2 : XG) (G23 : XG) (l3_2 : Int32) (x22 : Int32) (G35 : XG) (x34 : Int32) (x14 : Int32) (x19 : Int32) (x46 : Int32) (x38 : Int32) (x43 : Int32) (N2 : Nat)
    (ha : K a = 3)
    (hp0 : K p0 = 8)
    (hp1 : K p1 = 8)
    (hG35 : G35 = cput G23 (F a 0) l3_2.toNatClampNeg x34)
    (ro1 : RO (vw (G.2.1 (F p0 0))) (aI (G.2.1 (F p0 1))))
    (ro2 : RO (vw (G.2.1 (F p1 0))) (aI (G.2.1 (F p1 1))))
    (j0 : F p0 99 < 12)
    (j1 : F p1 99 < 12)
    (he22 : x22 = x14 ^^^ x19)
    (hv34 : x34.toInt = (aI (G23.2.1 (F a 1)) (l3_2.toInt)))
    (he46 : x46 = x38 &&& x43)
    (I2_0 : 0 ≤ l3_2.toInt ∧ l3_2.toInt ≤ 3)
    (I2_1 : (0 : Int) ≤ l3_2.toInt)
    (hm2 : 2147483648 - l3_2.toInt < (((N2) + 1 : Nat) : Int))
    (c4 : ¬ ((3 : Int) ≤ l3_2.toInt))
    (t14 : (0 ≤ l3_2.toInt ∧ l3_2.toInt < 3 ∧ x14.toInt = (aI (G.2.1 (F p0 1)) (l3_2.toInt))) ∨ ((l3_2.toInt < 0 ∨ 3 ≤ l3_2.toInt) ∧ x14.toInt = 0))
    (t19 : (0 ≤ l3_2.toInt ∧ l3_2.toInt < 3 ∧ x19.toInt = (aI (G.2.1 (F p1 1)) (l3_2.toInt))) ∨ ((l3_2.toInt < 0 ∨ 3 ≤ l3_2.toInt) ∧ x19.toInt = 0))
    (hc34 : (l3_2.toInt = l3_2.toInt → (aI (G23.2.1 (F a 1)) (l3_2.toInt)) = x22.toInt) ∧ (l3_2.toInt ≠ l3_2.toInt → (aI (G23.2.1 (F a 1)) (l3_2.toInt)) = (aI (G_2.2.1 (F a 1)) (l3_2.toInt))))
    (t38 : (0 ≤ l3_2.toInt ∧ l3_2.toInt < 3 ∧ x38.toInt = (aI (G.2.1 (F p0 1)) (l3_2.toInt))) ∨ ((l3_2.toInt < 0 ∨ 3 ≤ l3_2.toInt) ∧ x38.toInt = 0))
    (t43 : (0 ≤ l3_2.toInt ∧ l3_2.toInt < 3 ∧ x43.toInt = (aI (G.2.1 (F p1 1)) (l3_2.toInt))) ∨ ((l3_2.toInt < 0 ∨ 3 ≤ l3_2.toInt) ∧ x43.toInt = 0)) :
    CHk (vw (G.2.1 (F p0 0))) (vw (G.2.1 (F p1 0))) (aI (G35.2.1 (F a 0)) l3_2.toInt) l3_2.toInt (0 : Int) := by
  have hx := bI_xor he22 (X := aI (G.2.1 (F p0 1)) l3_2.toInt) (Y := aI (G.2.1 (F p1 1)) l3_2.toInt) (by omega) (by omega)
  have e1 : aI (G35.2.1 (F a 0)) l3_2.toInt = x22.toInt := by rw [hG35, aI_put (by omega) _ (by omega), if_pos rfl]; omega
  rw [e1]
  exact (CHk_0 ro1 ro2 (by omega) hx).2
theorem v_X1_ofAllRows_50_10 {F : Nat → Nat → Nat} (a : Nat) (l3_2 : Int32) (G35 : XG) :
    ∀ t : Int, 0 ≤ t → t ≠ l3_2.toInt → aI (G35.2.1 (F a 0)) t = aI (G35.2.1 (F a 0)) t := by
  intro t h1 h2; rfl
theorem v_X1_ofAllRows_1_11 {K : Nat → Nat} {F : Nat → Nat → Nat} (a : Nat) (p0 : Nat) (p1 : Nat) (G : XG)
    (ha : K a = 3)
    (hp0 : K p0 = 8)
    (hp1 : K p1 = 8)
    (j0 : F p0 99 < 12)
    (j1 : F p1 99 < 12) :
    ∀ t : Int, 0 ≤ t → t < (0 : Int) → CHt (vw (G.2.1 (F p0 0))) (vw (G.2.1 (F p1 0))) (aI (G.2.1 (F a 1))) (aI (G.2.1 (F a 0))) t := by
  intro t h1 h2; exact absurd h1 (by omega)
