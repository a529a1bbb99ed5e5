theorem v_X10_askAtOnce_66_1 {K : Nat → Nat} {F : Nat → Nat → Nat} (a : Nat) (G : XG) (l1_2 : Int32) (N2 : Nat)
    (ha : K a = 12)
    (pa : ∀ j : Int, 0 ≤ j → j < l1_2.toInt → aI (G.2.1 (F (F a 9) 4)) j = 0 → aI (G.2.1 (F (F a 9) 5)) j = 0)
    (s0 : 0 ≤ ((G.1 (F a 9) 6).toInt) ∧ ((G.1 (F a 9) 6).toInt) ≤ 1080)
    (I2_0 : 0 ≤ l1_2.toInt ∧ l1_2.toInt ≤ ((G.1 (F a 9) 6).toInt))
    (I2_1 : (0 : Int) ≤ l1_2.toInt)
    (hm2 : 2147483648 - l1_2.toInt < (((N2) + 1 : Nat) : Int))
    (c10 : ((G.1 (F a 9) 6).toInt) ≤ l1_2.toInt) :
    ((1 : Int) = 1 ∧ ∀ x, x ∈ qL G F (F a 9) → x.2.2.2.2.1 = 0 → x.2.2.2.2.2 = 0) ∨ ((1 : Int) = 0 ∧ ∃ x, x ∈ qL G F (F a 9) ∧ x.2.2.2.2.1 = 0 ∧ x.2.2.2.2.2 ≠ 0) := by
  first
    | exact Or.inl ⟨rfl, ql_all (P := fun x => x.2.2.2.2.1 = 0 → x.2.2.2.2.2 = 0) (fun j h1 h2 => pa j h1 (by omega))⟩
    | exact Or.inr ⟨rfl, _, List.mem_of_getElem? (qL_at (z := l1_2.toInt) (by omega)), show aI (G.2.1 (F (F a 9) 4)) l1_2.toInt = 0 by omega, show aI (G.2.1 (F (F a 9) 5)) l1_2.toInt ≠ 0 by omega⟩
theorem v_X10_askAtOnce_62_2 {K : Nat → Nat} {F : Nat → Nat → Nat} (a : Nat) (G : XG) (l1_2 : Int32) (N2 : Nat) (x18 : Int32) (x42 : Int32)
    (ha : K a = 12)
    (pa : ∀ j : Int, 0 ≤ j → j < l1_2.toInt → aI (G.2.1 (F (F a 9) 4)) j = 0 → aI (G.2.1 (F (F a 9) 5)) j = 0)
    (s0 : 0 ≤ ((G.1 (F a 9) 6).toInt) ∧ ((G.1 (F a 9) 6).toInt) ≤ 1080)
    (I2_0 : 0 ≤ l1_2.toInt ∧ l1_2.toInt ≤ ((G.1 (F a 9) 6).toInt))
    (I2_1 : (0 : Int) ≤ l1_2.toInt)
    (hm2 : 2147483648 - l1_2.toInt < (((N2) + 1 : Nat) : Int))
    (c10 : ¬ (((G.1 (F a 9) 6).toInt) ≤ l1_2.toInt))
    (t18 : ((0 ≤ l1_2.toInt ∧ l1_2.toInt < ((G.1 (F a 9) 6).toInt) ∧ l1_2.toInt < 1080) ∧ x18.toInt = (aI (G.2.1 (F (F a 9) 4)) (l1_2.toInt))) ∨ (¬ (0 ≤ l1_2.toInt ∧ l1_2.toInt < ((G.1 (F a 9) 6).toInt) ∧ l1_2.toInt < 1080) ∧ x18.toInt = 0))
    (f23 : x18.toInt = 0 ∨ x18.toInt = 1)
    (c21 : x18.toInt = 0)
    (t42 : ((0 ≤ l1_2.toInt ∧ l1_2.toInt < ((G.1 (F a 9) 6).toInt) ∧ l1_2.toInt < 1080) ∧ x42.toInt = (aI (G.2.1 (F (F a 9) 5)) (l1_2.toInt))) ∨ (¬ (0 ≤ l1_2.toInt ∧ l1_2.toInt < ((G.1 (F a 9) 6).toInt) ∧ l1_2.toInt < 1080) ∧ x42.toInt = 0))
    (f27 : x42.toInt = 0 ∨ x42.toInt = 1)
    (c45 : x42.toInt = 0) :
    ∀ j : Int, 0 ≤ j → j < (l1_2.toInt + 1) → aI (G.2.1 (F (F a 9) 4)) j = 0 → aI (G.2.1 (F (F a 9) 5)) j = 0 := by
  intro j h1 h2 h3
  by_cases e : j = l1_2.toInt
  · subst e; omega
  · exact pa j h1 (by omega) h3
theorem v_X10_askAtOnce_58_3 {K : Nat → Nat} {F : Nat → Nat → Nat} (a : Nat) (G : XG) (l1_2 : Int32) (N2 : Nat) (x18 : Int32) (x42 : Int32)
    (ha : K a = 12)
    (pa : ∀ j : Int, 0 ≤ j → j < l1_2.toInt → aI (G.2.1 (F (F a 9) 4)) j = 0 → aI (G.2.1 (F (F a 9) 5)) j = 0)
    (s0 : 0 ≤ ((G.1 (F a 9) 6).toInt) ∧ ((G.1 (F a 9) 6).toInt) ≤ 1080)
    (I2_0 : 0 ≤ l1_2.toInt ∧ l1_2.toInt ≤ ((G.1 (F a 9) 6).toInt))
    (I2_1 : (0 : Int) ≤ l1_2.toInt)
    (hm2 : 2147483648 - l1_2.toInt < (((N2) + 1 : Nat) : Int))
    (c10 : ¬ (((G.1 (F a 9) 6).toInt) ≤ l1_2.toInt))
    (t18 : ((0 ≤ l1_2.toInt ∧ l1_2.toInt < ((G.1 (F a 9) 6).toInt) ∧ l1_2.toInt < 1080) ∧ x18.toInt = (aI (G.2.1 (F (F a 9) 4)) (l1_2.toInt))) ∨ (¬ (0 ≤ l1_2.toInt ∧ l1_2.toInt < ((G.1 (F a 9) 6).toInt) ∧ l1_2.toInt < 1080) ∧ x18.toInt = 0))
    (f23 : x18.toInt = 0 ∨ x18.toInt = 1)
    (c21 : x18.toInt = 0)
    (t42 : ((0 ≤ l1_2.toInt ∧ l1_2.toInt < ((G.1 (F a 9) 6).toInt) ∧ l1_2.toInt < 1080) ∧ x42.toInt = (aI (G.2.1 (F (F a 9) 5)) (l1_2.toInt))) ∨ (¬ (0 ≤ l1_2.toInt ∧ l1_2.toInt < ((G.1 (F a 9) 6).toInt) ∧ l1_2.toInt < 1080) ∧ x42.toInt = 0))
    (f27 : x42.toInt = 0 ∨ x42.toInt = 1)
    (c45 : ¬ (x42.toInt = 0)) :
    ((0 : Int) = 1 ∧ ∀ x, x ∈ qL G F (F a 9) → x.2.2.2.2.1 = 0 → x.2.2.2.2.2 = 0) ∨ ((0 : Int) = 0 ∧ ∃ x, x ∈ qL G F (F a 9) ∧ x.2.2.2.2.1 = 0 ∧ x.2.2.2.2.2 ≠ 0) := by
  first
    | exact Or.inl ⟨rfl, ql_all (P := fun x => x.2.2.2.2.1 = 0 → x.2.2.2.2.2 = 0) (fun j h1 h2 => pa j h1 (by omega))⟩
    | exact Or.inr ⟨rfl, _, List.mem_of_getElem? (qL_at (z := l1_2.toInt) (by omega)), show aI (G.2.1 (F (F a 9) 4)) l1_2.toInt = 0 by omega, show aI (G.2.1 (F (F a 9) 5)) l1_2.toInt ≠ 0 by omega⟩
theorem v_X10_askAtOnce_62_4 {K : Nat → Nat} {F : Nat → Nat → Nat} (a : Nat) (G : XG) (l1_2 : Int32) (N2 : Nat) (x18 : Int32)
    (ha : K a = 12)
    (pa : ∀ j : Int, 0 ≤ j → j < l1_2.toInt → aI (G.2.1 (F (F a 9) 4)) j = 0 → aI (G.2.1 (F (F a 9) 5)) j = 0)
    (s0 : 0 ≤ ((G.1 (F a 9) 6).toInt) ∧ ((G.1 (F a 9) 6).toInt) ≤ 1080)
    (I2_0 : 0 ≤ l1_2.toInt ∧ l1_2.toInt ≤ ((G.1 (F a 9) 6).toInt))
    (I2_1 : (0 : Int) ≤ l1_2.toInt)
    (hm2 : 2147483648 - l1_2.toInt < (((N2) + 1 : Nat) : Int))
    (c10 : ¬ (((G.1 (F a 9) 6).toInt) ≤ l1_2.toInt))
    (t18 : ((0 ≤ l1_2.toInt ∧ l1_2.toInt < ((G.1 (F a 9) 6).toInt) ∧ l1_2.toInt < 1080) ∧ x18.toInt = (aI (G.2.1 (F (F a 9) 4)) (l1_2.toInt))) ∨ (¬ (0 ≤ l1_2.toInt ∧ l1_2.toInt < ((G.1 (F a 9) 6).toInt) ∧ l1_2.toInt < 1080) ∧ x18.toInt = 0))
    (f21 : x18.toInt = 0 ∨ x18.toInt = 1)
    (c21 : ¬ (x18.toInt = 0)) :
    ∀ j : Int, 0 ≤ j → j < (l1_2.toInt + 1) → aI (G.2.1 (F (F a 9) 4)) j = 0 → aI (G.2.1 (F (F a 9) 5)) j = 0 := by
  intro j h1 h2 h3
  by_cases e : j = l1_2.toInt
  · subst e; omega
  · exact pa j h1 (by omega) h3
theorem v_X10_askAtOnce_1_5 {K : Nat → Nat} {F : Nat → Nat → Nat} (a : Nat) (G : XG)
    (ha : K a = 12)
    (s0 : 0 ≤ ((G.1 (F a 9) 6).toInt) ∧ ((G.1 (F a 9) 6).toInt) ≤ 1080) :
    ∀ j : Int, 0 ≤ j → j < (0 : Int) → aI (G.2.1 (F (F a 9) 4)) j = 0 → aI (G.2.1 (F (F a 9) 5)) j = 0 := by
  intro j h1 h2; exact absurd h1 (by omega)
theorem v_X10_askToCommit_90_1 {K : Nat → Nat} {F : Nat → Nat → Nat} (a : Nat) (p0 : Nat) (G : XG) (G4 : XG) (G_9 : XG) (l2_9 : Int32) (N9 : Nat)
    (ha : K a = 12)
    (hp0 : K p0 = 6)
    (hn : F p0 99 ≠ 2)
    (pa : ∀ j : Int, 0 ≤ j → j < l2_9.toInt → aI (G.2.1 (F p0 4)) j ≠ 0 → aI (G.2.1 (F p0 5)) j = 0)
    (s0 : 0 ≤ ((G.1 p0 6).toInt) ∧ ((G.1 p0 6).toInt) ≤ 1080)
    (t4 : ((G4.1 (F a 10) 6).toInt) = 0)
    (I9_0 : 0 ≤ l2_9.toInt ∧ l2_9.toInt ≤ ((G.1 p0 6).toInt))
    (I9_1 : 0 ≤ ((G_9.1 (F a 10) 6).toInt) ∧ ((G_9.1 (F a 10) 6).toInt) ≤ l2_9.toInt)
    (I9_2 : (0 : Int) ≤ l2_9.toInt)
    (hm9 : 2147483648 - l2_9.toInt < (((N9) + 1 : Nat) : Int))
    (c14 : ((G.1 p0 6).toInt) ≤ l2_9.toInt) :
    ((1 : Int) = 1 ∧ ∀ x, x ∈ qL G F p0 → x.2.2.2.2.1 ≠ 0 → x.2.2.2.2.2 = 0) ∨ ((1 : Int) = 0 ∧ ∃ x, x ∈ qL G F p0 ∧ x.2.2.2.2.1 ≠ 0 ∧ x.2.2.2.2.2 ≠ 0) := by
  first
    | exact Or.inl ⟨rfl, ql_all (P := fun x => x.2.2.2.2.1 ≠ 0 → x.2.2.2.2.2 = 0) (fun j h1 h2 => pa j h1 (by omega))⟩
    | exact Or.inr ⟨rfl, _, List.mem_of_getElem? (qL_at (z := l2_9.toInt) (by omega)), show aI (G.2.1 (F p0 4)) l2_9.toInt ≠ 0 by omega, show aI (G.2.1 (F p0 5)) l2_9.toInt ≠ 0 by omega⟩
theorem v_X10_askToCommit_90_2 {K : Nat → Nat} {F : Nat → Nat → Nat} (a : Nat) (p0 : Nat) (G : XG) (G4 : XG) (G_9 : XG) (G88 : XG) (l2_9 : Int32) (N9 : Nat)
    (ha : K a = 12)
    (hp0 : K p0 = 6)
    (hn : F p0 99 ≠ 2)
    (pl : qL G_9 F (F a 10) = ltF (qP G F p0 (l2_9.toInt).toNat))
    (s0 : 0 ≤ ((G.1 p0 6).toInt) ∧ ((G.1 p0 6).toInt) ≤ 1080)
    (t4 : ((G4.1 (F a 10) 6).toInt) = 0)
    (I9_0 : 0 ≤ l2_9.toInt ∧ l2_9.toInt ≤ ((G.1 p0 6).toInt))
    (I9_1 : 0 ≤ ((G_9.1 (F a 10) 6).toInt) ∧ ((G_9.1 (F a 10) 6).toInt) ≤ l2_9.toInt)
    (I9_2 : (0 : Int) ≤ l2_9.toInt)
    (hm9 : 2147483648 - l2_9.toInt < (((N9) + 1 : Nat) : Int))
    (c14 : ((G.1 p0 6).toInt) ≤ l2_9.toInt)
    (c_G88_F_F_a_10_0 : G88.2.1 (F (F a 10) 0) = G_9.2.1 (F (F a 10) 0))
    (c_G88_F_F_a_10_1 : G88.2.1 (F (F a 10) 1) = G_9.2.1 (F (F a 10) 1))
    (c_G88_F_F_a_10_2 : G88.2.1 (F (F a 10) 2) = G_9.2.1 (F (F a 10) 2))
    (c_G88_F_F_a_10_3 : G88.2.1 (F (F a 10) 3) = G_9.2.1 (F (F a 10) 3))
    (c_G88_F_F_a_10_4 : G88.2.1 (F (F a 10) 4) = G_9.2.1 (F (F a 10) 4))
    (c_G88_F_F_a_10_5 : G88.2.1 (F (F a 10) 5) = G_9.2.1 (F (F a 10) 5))
    (d_G88_F_a_10_6 : G88.1 (F a 10) 6 = G_9.1 (F a 10) 6) :
    AskR (qL G F p0) (qL G88 F (F a 10)) (1 : Int) := by
  unfold AskR
  refine Or.inl ⟨rfl, ?_⟩
  have e8 : qL G88 F (F a 10) = qL G_9 F (F a 10) := qL_cg d_G88_F_a_10_6 c_G88_F_F_a_10_0 c_G88_F_F_a_10_1 c_G88_F_F_a_10_2 c_G88_F_F_a_10_3 c_G88_F_F_a_10_4 c_G88_F_F_a_10_5
  rw [e8, pl, show (l2_9.toInt).toNat = (G.1 p0 6).toInt.toNat by omega]
  exact congrArg ltF (qP_L G F p0)
theorem v_X10_askToCommit_44_3 {K : Nat → Nat} {F : Nat → Nat → Nat} (a : Nat) (p0 : Nat) (G : XG) (G4 : XG) (G_9 : XG) (l2_9 : Int32) (N9 : Nat) (x19 : Int32)
    (ha : K a = 12)
    (hp0 : K p0 = 6)
    (hk9999 : K (F a 14) = 11)
    (hj9999 : F (F a 14) 99 = 0)
    (hk9999a : K (F a 10) = 6)
    (hj9999a : F (F a 10) 99 = 2)
    (hk9999b : K (F a 16) = 27)
    (hj9999b : F (F a 16) 99 = 0)
    (hk9999c : K (F (F a 10) 0) = 22)
    (hj9999d : F (F (F a 10) 0) 99 = 10 * 2 + 0)
    (hk9999d : K (F (F a 10) 1) = 22)
    (hj9999f : F (F (F a 10) 1) 99 = 10 * 2 + 1)
    (hk9999e : K (F (F a 10) 2) = 22)
    (hj9999h : F (F (F a 10) 2) 99 = 10 * 2 + 2)
    (hk9999f : K (F (F a 10) 3) = 22)
    (hj9999j : F (F (F a 10) 3) 99 = 10 * 2 + 3)
    (hk9999g : K (F (F a 10) 4) = 23)
    (hj9999l : F (F (F a 10) 4) 99 = 10 * 2 + 4)
    (hk9999h : K (F (F a 10) 5) = 23)
    (hj9999n : F (F (F a 10) 5) 99 = 10 * 2 + 5)
    (hk9999i : K (F p0 0) = 22)
    (hj9999o : F (F p0 0) 99 = 10 * F p0 99 + 0)
    (hk9999j : K (F p0 1) = 22)
    (hj9999p : F (F p0 1) 99 = 10 * F p0 99 + 1)
    (hk9999k : K (F p0 2) = 22)
    (hj9999q : F (F p0 2) 99 = 10 * F p0 99 + 2)
    (hk9999l : K (F p0 3) = 22)
    (hj9999r : F (F p0 3) 99 = 10 * F p0 99 + 3)
    (hk9999m : K (F p0 4) = 23)
    (hj9999s : F (F p0 4) 99 = 10 * F p0 99 + 4)
    (hk9999n : K (F p0 5) = 23)
    (hj9999t : F (F p0 5) 99 = 10 * F p0 99 + 5)
    (hn : F p0 99 ≠ 2)
    (s0 : 0 ≤ ((G.1 p0 6).toInt) ∧ ((G.1 p0 6).toInt) ≤ 1080)
    (t4 : ((G4.1 (F a 10) 6).toInt) = 0)
    (I9_0 : 0 ≤ l2_9.toInt ∧ l2_9.toInt ≤ ((G.1 p0 6).toInt))
    (I9_1 : 0 ≤ ((G_9.1 (F a 10) 6).toInt) ∧ ((G_9.1 (F a 10) 6).toInt) ≤ l2_9.toInt)
    (I9_2 : (0 : Int) ≤ l2_9.toInt)
    (hm9 : 2147483648 - l2_9.toInt < (((N9) + 1 : Nat) : Int))
    (c14 : ¬ (((G.1 p0 6).toInt) ≤ l2_9.toInt))
    (t19 : ((0 ≤ l2_9.toInt ∧ l2_9.toInt < ((G.1 p0 6).toInt) ∧ l2_9.toInt < 1080) ∧ x19.toInt = (aI (G.2.1 (F p0 4)) (l2_9.toInt))) ∨ (¬ (0 ≤ l2_9.toInt ∧ l2_9.toInt < ((G.1 p0 6).toInt) ∧ l2_9.toInt < 1080) ∧ x19.toInt = 0))
    (f48 : x19.toInt = 0 ∨ x19.toInt = 1)
    (c22 : x19.toInt ≠ 0) :
    F (F a 10) 99 ≠ F p0 99 := by
  omega
theorem v_X10_askToCommit_76_4 {K : Nat → Nat} {F : Nat → Nat → Nat} (a : Nat) (p0 : Nat) (G : XG) (G4 : XG) (G_9 : XG) (G44 : XG) (l2_9 : Int32) (N9 : Nat) (x19 : Int32) (x49 : Int32)
    (ha : K a = 12)
    (hp0 : K p0 = 6)
    (hn : F p0 99 ≠ 2)
    (pa : ∀ j : Int, 0 ≤ j → j < l2_9.toInt → aI (G.2.1 (F p0 4)) j ≠ 0 → aI (G.2.1 (F p0 5)) j = 0)
    (s0 : 0 ≤ ((G.1 p0 6).toInt) ∧ ((G.1 p0 6).toInt) ≤ 1080)
    (t4 : ((G4.1 (F a 10) 6).toInt) = 0)
    (I9_0 : 0 ≤ l2_9.toInt ∧ l2_9.toInt ≤ ((G.1 p0 6).toInt))
    (I9_1 : 0 ≤ ((G_9.1 (F a 10) 6).toInt) ∧ ((G_9.1 (F a 10) 6).toInt) ≤ l2_9.toInt)
    (I9_2 : (0 : Int) ≤ l2_9.toInt)
    (hm9 : 2147483648 - l2_9.toInt < (((N9) + 1 : Nat) : Int))
    (c14 : ¬ (((G.1 p0 6).toInt) ≤ l2_9.toInt))
    (t19 : ((0 ≤ l2_9.toInt ∧ l2_9.toInt < ((G.1 p0 6).toInt) ∧ l2_9.toInt < 1080) ∧ x19.toInt = (aI (G.2.1 (F p0 4)) (l2_9.toInt))) ∨ (¬ (0 ≤ l2_9.toInt ∧ l2_9.toInt < ((G.1 p0 6).toInt) ∧ l2_9.toInt < 1080) ∧ x19.toInt = 0))
    (f51 : x19.toInt = 0 ∨ x19.toInt = 1)
    (c22 : x19.toInt ≠ 0)
    (t44 : ((G44.1 (F a 10) 6).toInt) = ((G_9.1 (F a 10) 6).toInt) + 1)
    (t49 : ((0 ≤ l2_9.toInt ∧ l2_9.toInt < ((G.1 p0 6).toInt) ∧ l2_9.toInt < 1080) ∧ x49.toInt = (aI (G.2.1 (F p0 5)) (l2_9.toInt))) ∨ (¬ (0 ≤ l2_9.toInt ∧ l2_9.toInt < ((G.1 p0 6).toInt) ∧ l2_9.toInt < 1080) ∧ x49.toInt = 0))
    (f56 : x49.toInt = 0 ∨ x49.toInt = 1)
    (c52 : x49.toInt = 0) :
    ∀ j : Int, 0 ≤ j → j < (l2_9.toInt + 1) → aI (G.2.1 (F p0 4)) j ≠ 0 → aI (G.2.1 (F p0 5)) j = 0 := by
  intro j h1 h2 h3
  by_cases e : j = l2_9.toInt
  · subst e; omega
  · exact pa j h1 (by omega) h3
theorem v_X10_askToCommit_76_5 {K : Nat → Nat} {F : Nat → Nat → Nat} (a : Nat) (p0 : Nat) (G : XG) (G4 : XG) (G_9 : XG) (G37 : XG) (G44 : XG) (l2_9 : Int32) (N9 : Nat) (x19 : Int32) (x49 : Int32)
    (ha : K a = 12)
    (hp0 : K p0 = 6)
    (hn : F p0 99 ≠ 2)
    (pl : qL G_9 F (F a 10) = ltF (qP G F p0 (l2_9.toInt).toNat))
    (oq44 : qL G44 F (F a 10) = qL G37 F (F a 10) ++ [((aI (G37.2.1 (F p0 0)) (l2_9.toInt)), (aI (G37.2.1 (F p0 1)) (l2_9.toInt)), (aI (G37.2.1 (F p0 2)) (l2_9.toInt)), (aI (G37.2.1 (F p0 3)) (l2_9.toInt)), (aI (G37.2.1 (F p0 4)) (l2_9.toInt)), (aI (G37.2.1 (F p0 5)) (l2_9.toInt)))])
    (s0 : 0 ≤ ((G.1 p0 6).toInt) ∧ ((G.1 p0 6).toInt) ≤ 1080)
    (t4 : ((G4.1 (F a 10) 6).toInt) = 0)
    (I9_0 : 0 ≤ l2_9.toInt ∧ l2_9.toInt ≤ ((G.1 p0 6).toInt))
    (I9_1 : 0 ≤ ((G_9.1 (F a 10) 6).toInt) ∧ ((G_9.1 (F a 10) 6).toInt) ≤ l2_9.toInt)
    (I9_2 : (0 : Int) ≤ l2_9.toInt)
    (hm9 : 2147483648 - l2_9.toInt < (((N9) + 1 : Nat) : Int))
    (c14 : ¬ (((G.1 p0 6).toInt) ≤ l2_9.toInt))
    (t19 : ((0 ≤ l2_9.toInt ∧ l2_9.toInt < ((G.1 p0 6).toInt) ∧ l2_9.toInt < 1080) ∧ x19.toInt = (aI (G.2.1 (F p0 4)) (l2_9.toInt))) ∨ (¬ (0 ≤ l2_9.toInt ∧ l2_9.toInt < ((G.1 p0 6).toInt) ∧ l2_9.toInt < 1080) ∧ x19.toInt = 0))
    (f51 : x19.toInt = 0 ∨ x19.toInt = 1)
    (c22 : x19.toInt ≠ 0)
    (t44 : ((G44.1 (F a 10) 6).toInt) = ((G_9.1 (F a 10) 6).toInt) + 1)
    (t49 : ((0 ≤ l2_9.toInt ∧ l2_9.toInt < ((G.1 p0 6).toInt) ∧ l2_9.toInt < 1080) ∧ x49.toInt = (aI (G.2.1 (F p0 5)) (l2_9.toInt))) ∨ (¬ (0 ≤ l2_9.toInt ∧ l2_9.toInt < ((G.1 p0 6).toInt) ∧ l2_9.toInt < 1080) ∧ x49.toInt = 0))
    (f56 : x49.toInt = 0 ∨ x49.toInt = 1)
    (c52 : x49.toInt = 0)
    (c_G37_F_F_a_10_0 : G37.2.1 (F (F a 10) 0) = G_9.2.1 (F (F a 10) 0))
    (c_G37_F_F_a_10_1 : G37.2.1 (F (F a 10) 1) = G_9.2.1 (F (F a 10) 1))
    (c_G37_F_F_a_10_2 : G37.2.1 (F (F a 10) 2) = G_9.2.1 (F (F a 10) 2))
    (c_G37_F_F_a_10_3 : G37.2.1 (F (F a 10) 3) = G_9.2.1 (F (F a 10) 3))
    (c_G37_F_F_a_10_4 : G37.2.1 (F (F a 10) 4) = G_9.2.1 (F (F a 10) 4))
    (c_G37_F_F_a_10_5 : G37.2.1 (F (F a 10) 5) = G_9.2.1 (F (F a 10) 5))
    (c_G37_F_p0_0 : G37.2.1 (F p0 0) = G.2.1 (F p0 0))
    (c_G37_F_p0_1 : G37.2.1 (F p0 1) = G.2.1 (F p0 1))
    (c_G37_F_p0_2 : G37.2.1 (F p0 2) = G.2.1 (F p0 2))
    (c_G37_F_p0_3 : G37.2.1 (F p0 3) = G.2.1 (F p0 3))
    (c_G37_F_p0_4 : G37.2.1 (F p0 4) = G.2.1 (F p0 4))
    (c_G37_F_p0_5 : G37.2.1 (F p0 5) = G.2.1 (F p0 5))
    (d_G37_F_a_10_6 : G37.1 (F a 10) 6 = G_9.1 (F a 10) 6) :
    qL G44 F (F a 10) = ltF (qP G F p0 (l2_9.toInt + 1).toNat) := by
  have e1 : (l2_9.toInt + 1).toNat = (l2_9.toInt).toNat + 1 := by omega
  first
    | (have e3 : qL G37 F (F a 10) = qL G_9 F (F a 10) := qL_cg d_G37_F_a_10_6 c_G37_F_F_a_10_0 c_G37_F_F_a_10_1 c_G37_F_F_a_10_2 c_G37_F_F_a_10_3 c_G37_F_F_a_10_4 c_G37_F_F_a_10_5
       rw [oq44, e3, pl, e1, qP_s, ltF_y (x := qt (G.2.1 (F p0 0)) (G.2.1 (F p0 1)) (G.2.1 (F p0 2)) (G.2.1 (F p0 3)) (G.2.1 (F p0 4)) (G.2.1 (F p0 5)) (l2_9.toInt).toNat) (show aI (G.2.1 (F p0 4)) l2_9.toInt ≠ 0 by omega)]
       rw [c_G37_F_p0_0, c_G37_F_p0_1, c_G37_F_p0_2, c_G37_F_p0_3, c_G37_F_p0_4, c_G37_F_p0_5]
       try rfl)
    | (rw [pl, e1, qP_s, ltF_n (x := qt (G.2.1 (F p0 0)) (G.2.1 (F p0 1)) (G.2.1 (F p0 2)) (G.2.1 (F p0 3)) (G.2.1 (F p0 4)) (G.2.1 (F p0 5)) (l2_9.toInt).toNat) (show aI (G.2.1 (F p0 4)) l2_9.toInt = 0 by omega)])
theorem v_X10_askToCommit_72_6 {K : Nat → Nat} {F : Nat → Nat → Nat} (a : Nat) (p0 : Nat) (G : XG) (G4 : XG) (G_9 : XG) (G37 : XG) (x36 : Int32) (G44 : XG) (l2_9 : Int32) (N9 : Nat) (x19 : Int32) (x49 : Int32)
    (ha : K a = 12)
    (hp0 : K p0 = 6)
    (hn : F p0 99 ≠ 2)
    (pa : ∀ j : Int, 0 ≤ j → j < l2_9.toInt → aI (G.2.1 (F p0 4)) j ≠ 0 → aI (G.2.1 (F p0 5)) j = 0)
    (s0 : 0 ≤ ((G.1 p0 6).toInt) ∧ ((G.1 p0 6).toInt) ≤ 1080)
    (t4 : ((G4.1 (F a 10) 6).toInt) = 0)
    (I9_0 : 0 ≤ l2_9.toInt ∧ l2_9.toInt ≤ ((G.1 p0 6).toInt))
    (I9_1 : 0 ≤ ((G_9.1 (F a 10) 6).toInt) ∧ ((G_9.1 (F a 10) 6).toInt) ≤ l2_9.toInt)
    (I9_2 : (0 : Int) ≤ l2_9.toInt)
    (hm9 : 2147483648 - l2_9.toInt < (((N9) + 1 : Nat) : Int))
    (c14 : ¬ (((G.1 p0 6).toInt) ≤ l2_9.toInt))
    (t19 : ((0 ≤ l2_9.toInt ∧ l2_9.toInt < ((G.1 p0 6).toInt) ∧ l2_9.toInt < 1080) ∧ x19.toInt = (aI (G.2.1 (F p0 4)) (l2_9.toInt))) ∨ (¬ (0 ≤ l2_9.toInt ∧ l2_9.toInt < ((G.1 p0 6).toInt) ∧ l2_9.toInt < 1080) ∧ x19.toInt = 0))
    (f53 : x19.toInt = 0 ∨ x19.toInt = 1)
    (c22 : x19.toInt ≠ 0)
    (t36 : x36.toInt = (aI (G_9.2.1 (F a 16)) 0) + (1 : Int) ∨ (aI (G_9.2.1 (F a 16)) 0) + (1 : Int) < -2147483648 ∨ 2147483648 ≤ (aI (G_9.2.1 (F a 16)) 0) + (1 : Int))
    (t44 : ((G44.1 (F a 10) 6).toInt) = ((G_9.1 (F a 10) 6).toInt) + 1)
    (t49 : ((0 ≤ l2_9.toInt ∧ l2_9.toInt < ((G.1 p0 6).toInt) ∧ l2_9.toInt < 1080) ∧ x49.toInt = (aI (G.2.1 (F p0 5)) (l2_9.toInt))) ∨ (¬ (0 ≤ l2_9.toInt ∧ l2_9.toInt < ((G.1 p0 6).toInt) ∧ l2_9.toInt < 1080) ∧ x49.toInt = 0))
    (f58 : x49.toInt = 0 ∨ x49.toInt = 1)
    (c52 : ¬ (x49.toInt = 0))
    (hc67 : ((2 : Int) = (0 : Int) → (aI (G37.2.1 (F a 16)) ((2 : Int))) = x36.toInt) ∧ ((2 : Int) ≠ (0 : Int) → (aI (G37.2.1 (F a 16)) ((2 : Int))) = (aI (G_9.2.1 (F a 16)) ((2 : Int))))) :
    ((0 : Int) = 1 ∧ ∀ x, x ∈ qL G F p0 → x.2.2.2.2.1 ≠ 0 → x.2.2.2.2.2 = 0) ∨ ((0 : Int) = 0 ∧ ∃ x, x ∈ qL G F p0 ∧ x.2.2.2.2.1 ≠ 0 ∧ x.2.2.2.2.2 ≠ 0) := by
  first
    | exact Or.inl ⟨rfl, ql_all (P := fun x => x.2.2.2.2.1 ≠ 0 → x.2.2.2.2.2 = 0) (fun j h1 h2 => pa j h1 (by omega))⟩
    | exact Or.inr ⟨rfl, _, List.mem_of_getElem? (qL_at (z := l2_9.toInt) (by omega)), show aI (G.2.1 (F p0 4)) l2_9.toInt ≠ 0 by omega, show aI (G.2.1 (F p0 5)) l2_9.toInt ≠ 0 by omega⟩
theorem v_X10_askToCommit_72_7 {K : Nat → Nat} {F : Nat → Nat → Nat} (a : Nat) (p0 : Nat) (G : XG) (G4 : XG) (G_9 : XG) (G37 : XG) (x36 : Int32) (G44 : XG) (G70 : XG) (l2_9 : Int32) (N9 : Nat) (x19 : Int32) (x49 : Int32)
    (ha : K a = 12)
    (hp0 : K p0 = 6)
    (hn : F p0 99 ≠ 2)
    (pa : ∀ j : Int, 0 ≤ j → j < l2_9.toInt → aI (G.2.1 (F p0 4)) j ≠ 0 → aI (G.2.1 (F p0 5)) j = 0)
    (pl : qL G_9 F (F a 10) = ltF (qP G F p0 (l2_9.toInt).toNat))
    (oq44 : qL G44 F (F a 10) = qL G37 F (F a 10) ++ [((aI (G37.2.1 (F p0 0)) (l2_9.toInt)), (aI (G37.2.1 (F p0 1)) (l2_9.toInt)), (aI (G37.2.1 (F p0 2)) (l2_9.toInt)), (aI (G37.2.1 (F p0 3)) (l2_9.toInt)), (aI (G37.2.1 (F p0 4)) (l2_9.toInt)), (aI (G37.2.1 (F p0 5)) (l2_9.toInt)))])
    (s0 : 0 ≤ ((G.1 p0 6).toInt) ∧ ((G.1 p0 6).toInt) ≤ 1080)
    (t4 : ((G4.1 (F a 10) 6).toInt) = 0)
    (I9_0 : 0 ≤ l2_9.toInt ∧ l2_9.toInt ≤ ((G.1 p0 6).toInt))
    (I9_1 : 0 ≤ ((G_9.1 (F a 10) 6).toInt) ∧ ((G_9.1 (F a 10) 6).toInt) ≤ l2_9.toInt)
    (I9_2 : (0 : Int) ≤ l2_9.toInt)
    (hm9 : 2147483648 - l2_9.toInt < (((N9) + 1 : Nat) : Int))
    (c14 : ¬ (((G.1 p0 6).toInt) ≤ l2_9.toInt))
    (t19 : ((0 ≤ l2_9.toInt ∧ l2_9.toInt < ((G.1 p0 6).toInt) ∧ l2_9.toInt < 1080) ∧ x19.toInt = (aI (G.2.1 (F p0 4)) (l2_9.toInt))) ∨ (¬ (0 ≤ l2_9.toInt ∧ l2_9.toInt < ((G.1 p0 6).toInt) ∧ l2_9.toInt < 1080) ∧ x19.toInt = 0))
    (f53 : x19.toInt = 0 ∨ x19.toInt = 1)
    (c22 : x19.toInt ≠ 0)
    (t36 : x36.toInt = (aI (G_9.2.1 (F a 16)) 0) + (1 : Int) ∨ (aI (G_9.2.1 (F a 16)) 0) + (1 : Int) < -2147483648 ∨ 2147483648 ≤ (aI (G_9.2.1 (F a 16)) 0) + (1 : Int))
    (t44 : ((G44.1 (F a 10) 6).toInt) = ((G_9.1 (F a 10) 6).toInt) + 1)
    (t49 : ((0 ≤ l2_9.toInt ∧ l2_9.toInt < ((G.1 p0 6).toInt) ∧ l2_9.toInt < 1080) ∧ x49.toInt = (aI (G.2.1 (F p0 5)) (l2_9.toInt))) ∨ (¬ (0 ≤ l2_9.toInt ∧ l2_9.toInt < ((G.1 p0 6).toInt) ∧ l2_9.toInt < 1080) ∧ x49.toInt = 0))
    (f58 : x49.toInt = 0 ∨ x49.toInt = 1)
    (c52 : ¬ (x49.toInt = 0))
    (hc67 : ((2 : Int) = (0 : Int) → (aI (G37.2.1 (F a 16)) ((2 : Int))) = x36.toInt) ∧ ((2 : Int) ≠ (0 : Int) → (aI (G37.2.1 (F a 16)) ((2 : Int))) = (aI (G_9.2.1 (F a 16)) ((2 : Int)))))
    (c_G37_F_F_a_10_0 : G37.2.1 (F (F a 10) 0) = G_9.2.1 (F (F a 10) 0))
    (c_G37_F_F_a_10_1 : G37.2.1 (F (F a 10) 1) = G_9.2.1 (F (F a 10) 1))
    (c_G37_F_F_a_10_2 : G37.2.1 (F (F a 10) 2) = G_9.2.1 (F (F a 10) 2))
    (c_G37_F_F_a_10_3 : G37.2.1 (F (F a 10) 3) = G_9.2.1 (F (F a 10) 3))
    (c_G37_F_F_a_10_4 : G37.2.1 (F (F a 10) 4) = G_9.2.1 (F (F a 10) 4))
    (c_G37_F_F_a_10_5 : G37.2.1 (F (F a 10) 5) = G_9.2.1 (F (F a 10) 5))
    (c_G37_F_p0_0 : G37.2.1 (F p0 0) = G.2.1 (F p0 0))
    (c_G37_F_p0_1 : G37.2.1 (F p0 1) = G.2.1 (F p0 1))
    (c_G37_F_p0_2 : G37.2.1 (F p0 2) = G.2.1 (F p0 2))
    (c_G37_F_p0_3 : G37.2.1 (F p0 3) = G.2.1 (F p0 3))
    (c_G37_F_p0_4 : G37.2.1 (F p0 4) = G.2.1 (F p0 4))
    (c_G37_F_p0_5 : G37.2.1 (F p0 5) = G.2.1 (F p0 5))
    (c_G70_F_F_a_10_0 : G70.2.1 (F (F a 10) 0) = G44.2.1 (F (F a 10) 0))
    (c_G70_F_F_a_10_1 : G70.2.1 (F (F a 10) 1) = G44.2.1 (F (F a 10) 1))
    (c_G70_F_F_a_10_2 : G70.2.1 (F (F a 10) 2) = G44.2.1 (F (F a 10) 2))
    (c_G70_F_F_a_10_3 : G70.2.1 (F (F a 10) 3) = G44.2.1 (F (F a 10) 3))
    (c_G70_F_F_a_10_4 : G70.2.1 (F (F a 10) 4) = G44.2.1 (F (F a 10) 4))
    (c_G70_F_F_a_10_5 : G70.2.1 (F (F a 10) 5) = G44.2.1 (F (F a 10) 5))
    (d_G37_F_a_10_6 : G37.1 (F a 10) 6 = G_9.1 (F a 10) 6)
    (d_G70_F_a_10_6 : G70.1 (F a 10) 6 = G44.1 (F a 10) 6) :
    AskR (qL G F p0) (qL G70 F (F a 10)) (0 : Int) := by
  have e : (((l2_9.toInt).toNat : Nat) : Int) = l2_9.toInt := by omega
  have e7 : qL G70 F (F a 10) = qL G44 F (F a 10) := qL_cg d_G70_F_a_10_6 c_G70_F_F_a_10_0 c_G70_F_F_a_10_1 c_G70_F_F_a_10_2 c_G70_F_F_a_10_3 c_G70_F_F_a_10_4 c_G70_F_F_a_10_5
  refine AskR_n (n := (l2_9.toInt).toNat) (by rw [e]; omega) (by rw [e]; omega) (by rw [e]; omega) (fun j h1 h2 h3 => pa j h1 (by omega) h3) ?_
  have e3 : qL G37 F (F a 10) = qL G_9 F (F a 10) := qL_cg d_G37_F_a_10_6 c_G37_F_F_a_10_0 c_G37_F_F_a_10_1 c_G37_F_F_a_10_2 c_G37_F_F_a_10_3 c_G37_F_F_a_10_4 c_G37_F_F_a_10_5
  rw [e7, oq44, e3, pl, qP_s, ltF_y (x := qt (G.2.1 (F p0 0)) (G.2.1 (F p0 1)) (G.2.1 (F p0 2)) (G.2.1 (F p0 3)) (G.2.1 (F p0 4)) (G.2.1 (F p0 5)) (l2_9.toInt).toNat) (show aI (G.2.1 (F p0 4)) l2_9.toInt ≠ 0 by omega)]
  rw [c_G37_F_p0_0, c_G37_F_p0_1, c_G37_F_p0_2, c_G37_F_p0_3, c_G37_F_p0_4, c_G37_F_p0_5]
  try rfl
theorem v_X10_askToCommit_76_8 {K : Nat → Nat} {F : Nat → Nat → Nat} (a : Nat) (p0 : Nat) (G : XG) (G4 : XG) (G_9 : XG) (l2_9 : Int32) (N9 : Nat) (x19 : Int32)
    (ha : K a = 12)
    (hp0 : K p0 = 6)
    (hn : F p0 99 ≠ 2)
    (pa : ∀ j : Int, 0 ≤ j → j < l2_9.toInt → aI (G.2.1 (F p0 4)) j ≠ 0 → aI (G.2.1 (F p0 5)) j = 0)
    (s0 : 0 ≤ ((G.1 p0 6).toInt) ∧ ((G.1 p0 6).toInt) ≤ 1080)
    (t4 : ((G4.1 (F a 10) 6).toInt) = 0)
    (I9_0 : 0 ≤ l2_9.toInt ∧ l2_9.toInt ≤ ((G.1 p0 6).toInt))
    (I9_1 : 0 ≤ ((G_9.1 (F a 10) 6).toInt) ∧ ((G_9.1 (F a 10) 6).toInt) ≤ l2_9.toInt)
    (I9_2 : (0 : Int) ≤ l2_9.toInt)
    (hm9 : 2147483648 - l2_9.toInt < (((N9) + 1 : Nat) : Int))
    (c14 : ¬ (((G.1 p0 6).toInt) ≤ l2_9.toInt))
    (t19 : ((0 ≤ l2_9.toInt ∧ l2_9.toInt < ((G.1 p0 6).toInt) ∧ l2_9.toInt < 1080) ∧ x19.toInt = (aI (G.2.1 (F p0 4)) (l2_9.toInt))) ∨ (¬ (0 ≤ l2_9.toInt ∧ l2_9.toInt < ((G.1 p0 6).toInt) ∧ l2_9.toInt < 1080) ∧ x19.toInt = 0))
    (f47 : x19.toInt = 0 ∨ x19.toInt = 1)
    (c22 : ¬ (x19.toInt ≠ 0)) :
    ∀ j : Int, 0 ≤ j → j < (l2_9.toInt + 1) → aI (G.2.1 (F p0 4)) j ≠ 0 → aI (G.2.1 (F p0 5)) j = 0 := by
  intro j h1 h2 h3
  by_cases e : j = l2_9.toInt
  · subst e; omega
  · exact pa j h1 (by omega) h3
theorem v_X10_askToCommit_76_9 {K : Nat → Nat} {F : Nat → Nat → Nat} (a : Nat) (p0 : Nat) (G : XG) (G4 : XG) (G_9 : XG) (l2_9 : Int32) (N9 : Nat) (x19 : Int32)
    (ha : K a = 12)
    (hp0 : K p0 = 6)
    (hn : F p0 99 ≠ 2)
    (pl : qL G_9 F (F a 10) = ltF (qP G F p0 (l2_9.toInt).toNat))
    (s0 : 0 ≤ ((G.1 p0 6).toInt) ∧ ((G.1 p0 6).toInt) ≤ 1080)
    (t4 : ((G4.1 (F a 10) 6).toInt) = 0)
    (I9_0 : 0 ≤ l2_9.toInt ∧ l2_9.toInt ≤ ((G.1 p0 6).toInt))
    (I9_1 : 0 ≤ ((G_9.1 (F a 10) 6).toInt) ∧ ((G_9.1 (F a 10) 6).toInt) ≤ l2_9.toInt)
    (I9_2 : (0 : Int) ≤ l2_9.toInt)
    (hm9 : 2147483648 - l2_9.toInt < (((N9) + 1 : Nat) : Int))
    (c14 : ¬ (((G.1 p0 6).toInt) ≤ l2_9.toInt))
    (t19 : ((0 ≤ l2_9.toInt ∧ l2_9.toInt < ((G.1 p0 6).toInt) ∧ l2_9.toInt < 1080) ∧ x19.toInt = (aI (G.2.1 (F p0 4)) (l2_9.toInt))) ∨ (¬ (0 ≤ l2_9.toInt ∧ l2_9.toInt < ((G.1 p0 6).toInt) ∧ l2_9.toInt < 1080) ∧ x19.toInt = 0))
    (f47 : x19.toInt = 0 ∨ x19.toInt = 1)
    (c22 : ¬ (x19.toInt ≠ 0)) :
    qL G_9 F (F a 10) = ltF (qP G F p0 (l2_9.toInt + 1).toNat) := by
  have e1 : (l2_9.toInt + 1).toNat = (l2_9.toInt).toNat + 1 := by omega
  first
    | (have e3 : qL G37 F (F a 10) = qL G_9 F (F a 10) := qL_cg d_G37_F_a_10_6 c_G37_F_F_a_10_0 c_G37_F_F_a_10_1 c_G37_F_F_a_10_2 c_G37_F_F_a_10_3 c_G37_F_F_a_10_4 c_G37_F_F_a_10_5
       rw [oq44, e3, pl, e1, qP_s, ltF_y (x := qt (G.2.1 (F p0 0)) (G.2.1 (F p0 1)) (G.2.1 (F p0 2)) (G.2.1 (F p0 3)) (G.2.1 (F p0 4)) (G.2.1 (F p0 5)) (l2_9.toInt).toNat) (show aI (G.2.1 (F p0 4)) l2_9.toInt ≠ 0 by omega)]
       rw [c_G37_F_p0_0, c_G37_F_p0_1, c_G37_F_p0_2, c_G37_F_p0_3, c_G37_F_p0_4, c_G37_F_p0_5]
       try rfl)
    | (rw [pl, e1, qP_s, ltF_n (x := qt (G.2.1 (F p0 0)) (G.2.1 (F p0 1)) (G.2.1 (F p0 2)) (G.2.1 (F p0 3)) (G.2.1 (F p0 4)) (G.2.1 (F p0 5)) (l2_9.toInt).toNat) (show aI (G.2.1 (F p0 4)) l2_9.toInt = 0 by omega)])
theorem v_X10_askToCommit_8_10 {K : Nat → Nat} {F : Nat → Nat → Nat} (a : Nat) (p0 : Nat) (G : XG) (G4 : XG)
    (ha : K a = 12)
    (hp0 : K p0 = 6)
    (hn : F p0 99 ≠ 2)
    (s0 : 0 ≤ ((G.1 p0 6).toInt) ∧ ((G.1 p0 6).toInt) ≤ 1080)
    (t4 : ((G4.1 (F a 10) 6).toInt) = 0) :
    ∀ j : Int, 0 ≤ j → j < (0 : Int) → aI (G.2.1 (F p0 4)) j ≠ 0 → aI (G.2.1 (F p0 5)) j = 0 := by
  intro j h1 h2; exact absurd h1 (by omega)
theorem v_X10_askToCommit_8_11 {F : Nat → Nat → Nat} (a : Nat) (p0 : Nat) (G : XG) (G4 : XG)
    (t4 : ((G4.1 (F a 10) 6).toInt) = 0) :
    qL G4 F (F a 10) = ltF (qP G F p0 (0 : Int).toNat) := by
  show lst _ (G4.1 (F a 10) 6).toInt.toNat = _
  rw [t4]
  rfl
