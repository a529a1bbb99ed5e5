theorem v_X0_get_20_1 {K : Nat → Nat} {F : Nat → Nat → Nat} (a : Nat) (p0 : Int32) (G : XG)
    (ha : K a = 2)
    (hk9999 : K (F a 0) = 15)
    (hj9999 : F (F a 0) 99 = 0)
    (c1 : p0.toInt < 0) :
    (p0.toInt < 0 ∨ 12 ≤ p0.toInt) ∨ G.2.2.1 (F a 0) (p0.toInt).toNat = none := by
  first | (left; omega) | (right; assumption)
theorem v_X0_get_20_2 {K : Nat → Nat} {F : Nat → Nat → Nat} (a : Nat) (p0 : Int32) (G : XG)
    (ha : K a = 2)
    (hk9999 : K (F a 0) = 15)
    (hj9999 : F (F a 0) 99 = 0)
    (c1 : ¬ (p0.toInt < 0))
    (c7 : (12 : Int) ≤ p0.toInt) :
    (p0.toInt < 0 ∨ 12 ≤ p0.toInt) ∨ G.2.2.1 (F a 0) (p0.toInt).toNat = none := by
  first | (left; omega) | (right; assumption)
theorem v_X0_get_20_3 {K : Nat → Nat} {F : Nat → Nat → Nat} (a : Nat) (G : XG) (p0 : Int32)
    (ha : K a = 2)
    (hk9999 : K (F a 0) = 15)
    (hj9999 : F (F a 0) 99 = 0)
    (hR15 : G.2.2.1 (F a 0) (p0.toInt).toNat = none)
    (c1 : ¬ (p0.toInt < 0))
    (c7 : ¬ ((12 : Int) ≤ p0.toInt)) :
    (p0.toInt < 0 ∨ 12 ≤ p0.toInt) ∨ G.2.2.1 (F a 0) (p0.toInt).toNat = none := by
  first | (left; omega) | (right; assumption)
theorem v_X0_get_20_4 {K : Nat → Nat} {F : Nat → Nat → Nat} (a : Nat) (q15 : Nat) (G : XG) (p0 : Int32)
    (ha : K a = 2)
    (hk9999 : K (F a 0) = 15)
    (hj9999 : F (F a 0) 99 = 0)
    (hk15 : K q15 = 9)
    (hR15 : G.2.2.1 (F a 0) (p0.toInt).toNat = some q15)
    (c1 : ¬ (p0.toInt < 0))
    (c7 : ¬ ((12 : Int) ≤ p0.toInt)) :
    G.2.2.1 (F a 0) (p0.toInt).toNat = some q15 := by
  assumption
theorem v_X0_inOrder_28_1 {K : Nat → Nat} {F : Nat → Nat → Nat} (a : Nat) (p0 : Int32) (G : XG)
    (ha : K a = 2)
    (hk9999 : K (F a 1) = 15)
    (hj9999 : F (F a 1) 99 = 1)
    (c1 : p0.toInt < 0) :
    (p0.toInt < 0 ∨ ((G.1 a 2).toInt) ≤ p0.toInt ∨ 12 ≤ p0.toInt) ∨ G.2.2.1 (F a 1) (p0.toInt).toNat = none := by
  first | (left; omega) | (right; assumption)
theorem v_X0_inOrder_28_2 {K : Nat → Nat} {F : Nat → Nat → Nat} (a : Nat) (p0 : Int32) (G : XG)
    (ha : K a = 2)
    (hk9999 : K (F a 1) = 15)
    (hj9999 : F (F a 1) 99 = 1)
    (c1 : ¬ (p0.toInt < 0))
    (c9 : ((G.1 a 2).toInt) ≤ p0.toInt) :
    (p0.toInt < 0 ∨ ((G.1 a 2).toInt) ≤ p0.toInt ∨ 12 ≤ p0.toInt) ∨ G.2.2.1 (F a 1) (p0.toInt).toNat = none := by
  first | (left; omega) | (right; assumption)
theorem v_X0_inOrder_28_3 {K : Nat → Nat} {F : Nat → Nat → Nat} (a : Nat) (p0 : Int32) (G : XG)
    (ha : K a = 2)
    (hk9999 : K (F a 1) = 15)
    (hj9999 : F (F a 1) 99 = 1)
    (c1 : ¬ (p0.toInt < 0))
    (c9 : ¬ (((G.1 a 2).toInt) ≤ p0.toInt))
    (c15 : (12 : Int) ≤ p0.toInt) :
    (p0.toInt < 0 ∨ ((G.1 a 2).toInt) ≤ p0.toInt ∨ 12 ≤ p0.toInt) ∨ G.2.2.1 (F a 1) (p0.toInt).toNat = none := by
  first | (left; omega) | (right; assumption)
theorem v_X0_inOrder_28_4 {K : Nat → Nat} {F : Nat → Nat → Nat} (a : Nat) (G : XG) (p0 : Int32)
    (ha : K a = 2)
    (hk9999 : K (F a 1) = 15)
    (hj9999 : F (F a 1) 99 = 1)
    (hR23 : G.2.2.1 (F a 1) (p0.toInt).toNat = none)
    (c1 : ¬ (p0.toInt < 0))
    (c9 : ¬ (((G.1 a 2).toInt) ≤ p0.toInt))
    (c15 : ¬ ((12 : Int) ≤ p0.toInt)) :
    (p0.toInt < 0 ∨ ((G.1 a 2).toInt) ≤ p0.toInt ∨ 12 ≤ p0.toInt) ∨ G.2.2.1 (F a 1) (p0.toInt).toNat = none := by
  first | (left; omega) | (right; assumption)
theorem v_X0_inOrder_28_5 {K : Nat → Nat} {F : Nat → Nat → Nat} (a : Nat) (q23 : Nat) (G : XG) (p0 : Int32)
    (ha : K a = 2)
    (hk9999 : K (F a 1) = 15)
    (hj9999 : F (F a 1) 99 = 1)
    (hk23 : K q23 = 9)
    (hR23 : G.2.2.1 (F a 1) (p0.toInt).toNat = some q23)
    (c1 : ¬ (p0.toInt < 0))
    (c9 : ¬ (((G.1 a 2).toInt) ≤ p0.toInt))
    (c15 : ¬ ((12 : Int) ≤ p0.toInt)) :
    G.2.2.1 (F a 1) (p0.toInt).toNat = some q23 := by
  assumption
theorem v_X0_leastFree_26_1 {K : Nat → Nat} {F : Nat → Nat → Nat} (a : Nat) (l1_2 : Int32) (G : XG) (N2 : Nat)
    (ha : K a = 2)
    (pl : ∀ i : Nat, (i : Int) < l1_2.toInt → G.2.2.1 (F a 0) i ≠ none)
    (I2_0 : 0 ≤ l1_2.toInt ∧ l1_2.toInt ≤ 12)
    (I2_1 : (0 : Int) ≤ l1_2.toInt)
    (hm2 : 2147483648 - l1_2.toInt < (((N2) + 1 : Nat) : Int))
    (c5 : (12 : Int) ≤ l1_2.toInt) :
    ((-1 : Int) = -1 ∧ ∀ i : Nat, i < 12 → G.2.2.1 (F a 0) i ≠ none) ∨ (0 ≤ (-1 : Int) ∧ G.2.2.1 (F a 0) (-1 : Int).toNat = none ∧ ∀ i : Nat, (i : Int) < (-1 : Int) → G.2.2.1 (F a 0) i ≠ none) := by
  first
    | exact Or.inr ⟨by omega, hR13, pl⟩
    | exact Or.inl ⟨rfl, fun i hi => pl i (by omega)⟩
theorem v_X0_leastFree_18_2 {K : Nat → Nat} {F : Nat → Nat → Nat} (a : Nat) (l1_2 : Int32) (G : XG) (N2 : Nat)
    (ha : K a = 2)
    (pl : ∀ i : Nat, (i : Int) < l1_2.toInt → G.2.2.1 (F a 0) i ≠ none)
    (hR13 : G.2.2.1 (F a 0) (l1_2.toInt).toNat = none)
    (I2_0 : 0 ≤ l1_2.toInt ∧ l1_2.toInt ≤ 12)
    (I2_1 : (0 : Int) ≤ l1_2.toInt)
    (hm2 : 2147483648 - l1_2.toInt < (((N2) + 1 : Nat) : Int))
    (c5 : ¬ ((12 : Int) ≤ l1_2.toInt)) :
    (l1_2.toInt = -1 ∧ ∀ i : Nat, i < 12 → G.2.2.1 (F a 0) i ≠ none) ∨ (0 ≤ l1_2.toInt ∧ G.2.2.1 (F a 0) (l1_2.toInt).toNat = none ∧ ∀ i : Nat, (i : Int) < l1_2.toInt → G.2.2.1 (F a 0) i ≠ none) := by
  first
    | exact Or.inr ⟨by omega, hR13, pl⟩
    | exact Or.inl ⟨rfl, fun i hi => pl i (by omega)⟩
theorem v_X0_leastFree_22_3 {K : Nat → Nat} {F : Nat → Nat → Nat} (a : Nat) (q13 : Nat) (l1_2 : Int32) (G : XG) (N2 : Nat)
    (ha : K a = 2)
    (pl : ∀ i : Nat, (i : Int) < l1_2.toInt → G.2.2.1 (F a 0) i ≠ none)
    (hR13 : G.2.2.1 (F a 0) (l1_2.toInt).toNat = some q13)
    (I2_0 : 0 ≤ l1_2.toInt ∧ l1_2.toInt ≤ 12)
    (I2_1 : (0 : Int) ≤ l1_2.toInt)
    (hm2 : 2147483648 - l1_2.toInt < (((N2) + 1 : Nat) : Int))
    (c5 : ¬ ((12 : Int) ≤ l1_2.toInt)) :
    ∀ i : Nat, (i : Int) < (l1_2.toInt + 1) → G.2.2.1 (F a 0) i ≠ none := by
  intro i hi
  by_cases e : (i : Int) < l1_2.toInt
  · exact pl i e
  · have e2 : i = l1_2.toInt.toNat := by omega
    rw [e2, hR13]
    exact fun h => by cases h
theorem v_X0_leastFree_1_4 {K : Nat → Nat} {F : Nat → Nat → Nat} (a : Nat) (G : XG)
    (ha : K a = 2) :
    ∀ i : Nat, (i : Int) < (0 : Int) → G.2.2.1 (F a 0) i ≠ none := by
  intro i hi; exact absurd hi (by omega)
theorem v_X0_insert_82_1 {K : Nat → Nat} {F : Nat → Nat → Nat} (a : Nat) (p0 : Nat) (G : XG) (G_5 : XG) (l2_5 : Int32) (N5 : Nat)
    (ha : K a = 2)
    (hp0 : K p0 = 9)
    (hf : ∀ i : Nat, (i : Int) < ((G.1 a 2).toInt) → G.2.2.1 (F a 1) i ≠ none)
    (ps : shf (G.2.2.1 (F a 1)) (G_5.2.2.1 (F a 1)) (l2_5.toInt).toNat ((G.1 a 2).toInt).toNat)
    (pp : posR (fun j => rkO G (G.2.2.1 (F a 1) j)) ((G.1 p0 8).toInt) (l2_5.toInt).toNat = posR (fun j => rkO G (G.2.2.1 (F a 1) j)) ((G.1 p0 8).toInt) ((G.1 a 2).toInt).toNat)
    (s0 : 0 ≤ ((G.1 a 2).toInt) ∧ ((G.1 a 2).toInt) ≤ 11)
    (I5_0 : 0 ≤ l2_5.toInt ∧ l2_5.toInt ≤ ((G.1 a 2).toInt))
    (I5_1 : ((G_5.1 a 2).toInt) = ((G.1 a 2).toInt))
    (hm5 : l2_5.toInt + 1 < (((N5) + 1 : Nat) : Int))
    (c6 : l2_5.toInt ≤ 0)
    (c56 : l2_5.toInt < 0) :
    ∀ i : Nat, (i : Int) ≤ ((G.1 a 2).toInt) → G_5.2.2.1 (F a 1) i = insF (G.2.2.1 (F a 1)) (posR (fun j => rkO G (G.2.2.1 (F a 1) j)) ((G.1 p0 8).toInt) (((G.1 a 2).toInt)).toNat) (some p0) i := by
  first | (exfalso; omega) | skip
  all_goals (
    first
      | (exfalso
         have e3 : G.2.2.1 (F a 1) (l2_5.toInt - 1).toNat = none := by rw [← ps.1 _ (by omega)]; exact hR22
         exact hf _ (by omega) e3)
      | (have key : posR (fun j => rkO G (G.2.2.1 (F a 1) j)) ((G.1 p0 8).toInt) (l2_5.toInt).toNat = l2_5.toInt.toNat := by
           first
             | (have e : l2_5.toInt.toNat = 0 := by omega
                rw [e]; rfl)
             | (have e : l2_5.toInt.toNat = (l2_5.toInt - 1).toNat + 1 := by omega
                have e3 : G.2.2.1 (F a 1) (l2_5.toInt - 1).toNat = some q22 := by rw [← ps.1 _ (by omega)]; exact hR22
                rw [e, posR_here]
                show ¬ (_ < rkO G (G.2.2.1 (F a 1) (l2_5.toInt - 1).toNat))
                rw [e3]
                show ¬ (_ < (G.1 q22 8).toInt)
                omega)
         intro i hi
         rw [r_G79_F_a_1, ← pp, key]
         exact shf_ins ps (by rw [rput_j hG71, if_pos rfl]) (fun j hj => by rw [rput_j hG71, if_neg hj]) i (by omega)))
theorem v_X0_insert_82_2 {K : Nat → Nat} {F : Nat → Nat → Nat} (a : Nat) (p0 : Nat) (G : XG) (G_5 : XG) (l2_5 : Int32) (N5 : Nat)
    (ha : K a = 2)
    (hp0 : K p0 = 9)
    (ps : shf (G.2.2.1 (F a 1)) (G_5.2.2.1 (F a 1)) (l2_5.toInt).toNat ((G.1 a 2).toInt).toNat)
    (pp : posR (fun j => rkO G (G.2.2.1 (F a 1) j)) ((G.1 p0 8).toInt) (l2_5.toInt).toNat = posR (fun j => rkO G (G.2.2.1 (F a 1) j)) ((G.1 p0 8).toInt) ((G.1 a 2).toInt).toNat)
    (pf : ∀ (i q : Nat), G_5.2.2.1 (F a 1) i = some q → ∃ j : Nat, G.2.2.1 (F a 1) j = some q)
    (s0 : 0 ≤ ((G.1 a 2).toInt) ∧ ((G.1 a 2).toInt) ≤ 11)
    (I5_0 : 0 ≤ l2_5.toInt ∧ l2_5.toInt ≤ ((G.1 a 2).toInt))
    (I5_1 : ((G_5.1 a 2).toInt) = ((G.1 a 2).toInt))
    (hm5 : l2_5.toInt + 1 < (((N5) + 1 : Nat) : Int))
    (c6 : l2_5.toInt ≤ 0)
    (c56 : l2_5.toInt < 0) :
    ∀ (i q : Nat), G_5.2.2.1 (F a 1) i = some q → q = p0 ∨ ∃ j : Nat, G.2.2.1 (F a 1) j = some q := by
  first | (exfalso; omega) | skip
  all_goals (
    intro i q h
    first
      | (rw [r_G79_F_a_1, rput_j hG71] at h
         split at h
         · cases h; exact Or.inl rfl
         · exact Or.inr (pf i q h))
      | exact Or.inr (pf i q h))
theorem v_X0_insert_82_3 {K : Nat → Nat} {F : Nat → Nat → Nat} (a : Nat) (p0 : Nat) (G : XG) (G_5 : XG) (l2_5 : Int32) (N5 : Nat)
    (ha : K a = 2)
    (hp0 : K p0 = 9)
    (hf : ∀ i : Nat, (i : Int) < ((G.1 a 2).toInt) → G.2.2.1 (F a 1) i ≠ none)
    (ps : shf (G.2.2.1 (F a 1)) (G_5.2.2.1 (F a 1)) (l2_5.toInt).toNat ((G.1 a 2).toInt).toNat)
    (pp : posR (fun j => rkO G (G.2.2.1 (F a 1) j)) ((G.1 p0 8).toInt) (l2_5.toInt).toNat = posR (fun j => rkO G (G.2.2.1 (F a 1) j)) ((G.1 p0 8).toInt) ((G.1 a 2).toInt).toNat)
    (s0 : 0 ≤ ((G.1 a 2).toInt) ∧ ((G.1 a 2).toInt) ≤ 11)
    (I5_0 : 0 ≤ l2_5.toInt ∧ l2_5.toInt ≤ ((G.1 a 2).toInt))
    (I5_1 : ((G_5.1 a 2).toInt) = ((G.1 a 2).toInt))
    (hm5 : l2_5.toInt + 1 < (((N5) + 1 : Nat) : Int))
    (c6 : l2_5.toInt ≤ 0)
    (c56 : ¬ (l2_5.toInt < 0))
    (c62 : (12 : Int) ≤ l2_5.toInt) :
    ∀ i : Nat, (i : Int) ≤ ((G.1 a 2).toInt) → G_5.2.2.1 (F a 1) i = insF (G.2.2.1 (F a 1)) (posR (fun j => rkO G (G.2.2.1 (F a 1) j)) ((G.1 p0 8).toInt) (((G.1 a 2).toInt)).toNat) (some p0) i := by
  first | (exfalso; omega) | skip
  all_goals (
    first
      | (exfalso
         have e3 : G.2.2.1 (F a 1) (l2_5.toInt - 1).toNat = none := by rw [← ps.1 _ (by omega)]; exact hR22
         exact hf _ (by omega) e3)
      | (have key : posR (fun j => rkO G (G.2.2.1 (F a 1) j)) ((G.1 p0 8).toInt) (l2_5.toInt).toNat = l2_5.toInt.toNat := by
           first
             | (have e : l2_5.toInt.toNat = 0 := by omega
                rw [e]; rfl)
             | (have e : l2_5.toInt.toNat = (l2_5.toInt - 1).toNat + 1 := by omega
                have e3 : G.2.2.1 (F a 1) (l2_5.toInt - 1).toNat = some q22 := by rw [← ps.1 _ (by omega)]; exact hR22
                rw [e, posR_here]
                show ¬ (_ < rkO G (G.2.2.1 (F a 1) (l2_5.toInt - 1).toNat))
                rw [e3]
                show ¬ (_ < (G.1 q22 8).toInt)
                omega)
         intro i hi
         rw [r_G79_F_a_1, ← pp, key]
         exact shf_ins ps (by rw [rput_j hG71, if_pos rfl]) (fun j hj => by rw [rput_j hG71, if_neg hj]) i (by omega)))
theorem v_X0_insert_82_4 {K : Nat → Nat} {F : Nat → Nat → Nat} (a : Nat) (p0 : Nat) (G : XG) (G_5 : XG) (l2_5 : Int32) (N5 : Nat)
    (ha : K a = 2)
    (hp0 : K p0 = 9)
    (ps : shf (G.2.2.1 (F a 1)) (G_5.2.2.1 (F a 1)) (l2_5.toInt).toNat ((G.1 a 2).toInt).toNat)
    (pp : posR (fun j => rkO G (G.2.2.1 (F a 1) j)) ((G.1 p0 8).toInt) (l2_5.toInt).toNat = posR (fun j => rkO G (G.2.2.1 (F a 1) j)) ((G.1 p0 8).toInt) ((G.1 a 2).toInt).toNat)
    (pf : ∀ (i q : Nat), G_5.2.2.1 (F a 1) i = some q → ∃ j : Nat, G.2.2.1 (F a 1) j = some q)
    (s0 : 0 ≤ ((G.1 a 2).toInt) ∧ ((G.1 a 2).toInt) ≤ 11)
    (I5_0 : 0 ≤ l2_5.toInt ∧ l2_5.toInt ≤ ((G.1 a 2).toInt))
    (I5_1 : ((G_5.1 a 2).toInt) = ((G.1 a 2).toInt))
    (hm5 : l2_5.toInt + 1 < (((N5) + 1 : Nat) : Int))
    (c6 : l2_5.toInt ≤ 0)
    (c56 : ¬ (l2_5.toInt < 0))
    (c62 : (12 : Int) ≤ l2_5.toInt) :
    ∀ (i q : Nat), G_5.2.2.1 (F a 1) i = some q → q = p0 ∨ ∃ j : Nat, G.2.2.1 (F a 1) j = some q := by
  first | (exfalso; omega) | skip
  all_goals (
    intro i q h
    first
      | (rw [r_G79_F_a_1, rput_j hG71] at h
         split at h
         · cases h; exact Or.inl rfl
         · exact Or.inr (pf i q h))
      | exact Or.inr (pf i q h))
theorem v_X0_insert_82_5 {K : Nat → Nat} {F : Nat → Nat → Nat} (a : Nat) (p0 : Nat) (G : XG) (G_5 : XG) (G71 : XG) (l2_5 : Int32) (G79 : XG) (N5 : Nat)
    (ha : K a = 2)
    (hp0 : K p0 = 9)
    (hG71 : G71 = rput G_5 (F a 1) l2_5.toInt.toNat (some p0))
    (hf : ∀ i : Nat, (i : Int) < ((G.1 a 2).toInt) → G.2.2.1 (F a 1) i ≠ none)
    (ps : shf (G.2.2.1 (F a 1)) (G_5.2.2.1 (F a 1)) (l2_5.toInt).toNat ((G.1 a 2).toInt).toNat)
    (pp : posR (fun j => rkO G (G.2.2.1 (F a 1) j)) ((G.1 p0 8).toInt) (l2_5.toInt).toNat = posR (fun j => rkO G (G.2.2.1 (F a 1) j)) ((G.1 p0 8).toInt) ((G.1 a 2).toInt).toNat)
    (s0 : 0 ≤ ((G.1 a 2).toInt) ∧ ((G.1 a 2).toInt) ≤ 11)
    (I5_0 : 0 ≤ l2_5.toInt ∧ l2_5.toInt ≤ ((G.1 a 2).toInt))
    (I5_1 : ((G_5.1 a 2).toInt) = ((G.1 a 2).toInt))
    (hm5 : l2_5.toInt + 1 < (((N5) + 1 : Nat) : Int))
    (c6 : l2_5.toInt ≤ 0)
    (c56 : ¬ (l2_5.toInt < 0))
    (c62 : ¬ ((12 : Int) ≤ l2_5.toInt))
    (r_G79_F_a_1 : G79.2.2.1 (F a 1) = G71.2.2.1 (F a 1)) :
    ∀ i : Nat, (i : Int) ≤ ((G.1 a 2).toInt) → G79.2.2.1 (F a 1) i = insF (G.2.2.1 (F a 1)) (posR (fun j => rkO G (G.2.2.1 (F a 1) j)) ((G.1 p0 8).toInt) (((G.1 a 2).toInt)).toNat) (some p0) i := by
  first | (exfalso; omega) | skip
  all_goals (
    first
      | (exfalso
         have e3 : G.2.2.1 (F a 1) (l2_5.toInt - 1).toNat = none := by rw [← ps.1 _ (by omega)]; exact hR22
         exact hf _ (by omega) e3)
      | (have key : posR (fun j => rkO G (G.2.2.1 (F a 1) j)) ((G.1 p0 8).toInt) (l2_5.toInt).toNat = l2_5.toInt.toNat := by
           first
             | (have e : l2_5.toInt.toNat = 0 := by omega
                rw [e]; rfl)
             | (have e : l2_5.toInt.toNat = (l2_5.toInt - 1).toNat + 1 := by omega
                have e3 : G.2.2.1 (F a 1) (l2_5.toInt - 1).toNat = some q22 := by rw [← ps.1 _ (by omega)]; exact hR22
                rw [e, posR_here]
                show ¬ (_ < rkO G (G.2.2.1 (F a 1) (l2_5.toInt - 1).toNat))
                rw [e3]
                show ¬ (_ < (G.1 q22 8).toInt)
                omega)
         intro i hi
         rw [r_G79_F_a_1, ← pp, key]
         exact shf_ins ps (by rw [rput_j hG71, if_pos rfl]) (fun j hj => by rw [rput_j hG71, if_neg hj]) i (by omega)))
theorem v_X0_insert_82_6 {K : Nat → Nat} {F : Nat → Nat → Nat} (a : Nat) (p0 : Nat) (G : XG) (G_5 : XG) (G71 : XG) (l2_5 : Int32) (G79 : XG) (N5 : Nat)
    (ha : K a = 2)
    (hp0 : K p0 = 9)
    (hG71 : G71 = rput G_5 (F a 1) l2_5.toInt.toNat (some p0))
    (ps : shf (G.2.2.1 (F a 1)) (G_5.2.2.1 (F a 1)) (l2_5.toInt).toNat ((G.1 a 2).toInt).toNat)
    (pp : posR (fun j => rkO G (G.2.2.1 (F a 1) j)) ((G.1 p0 8).toInt) (l2_5.toInt).toNat = posR (fun j => rkO G (G.2.2.1 (F a 1) j)) ((G.1 p0 8).toInt) ((G.1 a 2).toInt).toNat)
    (pf : ∀ (i q : Nat), G_5.2.2.1 (F a 1) i = some q → ∃ j : Nat, G.2.2.1 (F a 1) j = some q)
    (s0 : 0 ≤ ((G.1 a 2).toInt) ∧ ((G.1 a 2).toInt) ≤ 11)
    (I5_0 : 0 ≤ l2_5.toInt ∧ l2_5.toInt ≤ ((G.1 a 2).toInt))
    (I5_1 : ((G_5.1 a 2).toInt) = ((G.1 a 2).toInt))
    (hm5 : l2_5.toInt + 1 < (((N5) + 1 : Nat) : Int))
    (c6 : l2_5.toInt ≤ 0)
    (c56 : ¬ (l2_5.toInt < 0))
    (c62 : ¬ ((12 : Int) ≤ l2_5.toInt))
    (r_G79_F_a_1 : G79.2.2.1 (F a 1) = G71.2.2.1 (F a 1)) :
    ∀ (i q : Nat), G79.2.2.1 (F a 1) i = some q → q = p0 ∨ ∃ j : Nat, G.2.2.1 (F a 1) j = some q := by
  first | (exfalso; omega) | skip
  all_goals (
    intro i q h
    first
      | (rw [r_G79_F_a_1, rput_j hG71] at h
         split at h
         · cases h; exact Or.inl rfl
         · exact Or.inr (pf i q h))
      | exact Or.inr (pf i q h))
theorem v_X0_insert_82_7 {K : Nat → Nat} {F : Nat → Nat → Nat} (a : Nat) (p0 : Nat) (G : XG) (G_5 : XG) (l2_5 : Int32) (N5 : Nat)
    (ha : K a = 2)
    (hp0 : K p0 = 9)
    (hf : ∀ i : Nat, (i : Int) < ((G.1 a 2).toInt) → G.2.2.1 (F a 1) i ≠ none)
    (ps : shf (G.2.2.1 (F a 1)) (G_5.2.2.1 (F a 1)) (l2_5.toInt).toNat ((G.1 a 2).toInt).toNat)
    (pp : posR (fun j => rkO G (G.2.2.1 (F a 1) j)) ((G.1 p0 8).toInt) (l2_5.toInt).toNat = posR (fun j => rkO G (G.2.2.1 (F a 1) j)) ((G.1 p0 8).toInt) ((G.1 a 2).toInt).toNat)
    (s0 : 0 ≤ ((G.1 a 2).toInt) ∧ ((G.1 a 2).toInt) ≤ 11)
    (I5_0 : 0 ≤ l2_5.toInt ∧ l2_5.toInt ≤ ((G.1 a 2).toInt))
    (I5_1 : ((G_5.1 a 2).toInt) = ((G.1 a 2).toInt))
    (hm5 : l2_5.toInt + 1 < (((N5) + 1 : Nat) : Int))
    (c6 : ¬ (l2_5.toInt ≤ 0))
    (c12 : (12 : Int) ≤ l2_5.toInt)
    (c56 : l2_5.toInt < 0) :
    ∀ i : Nat, (i : Int) ≤ ((G.1 a 2).toInt) → G_5.2.2.1 (F a 1) i = insF (G.2.2.1 (F a 1)) (posR (fun j => rkO G (G.2.2.1 (F a 1) j)) ((G.1 p0 8).toInt) (((G.1 a 2).toInt)).toNat) (some p0) i := by
  first | (exfalso; omega) | skip
  all_goals (
    first
      | (exfalso
         have e3 : G.2.2.1 (F a 1) (l2_5.toInt - 1).toNat = none := by rw [← ps.1 _ (by omega)]; exact hR22
         exact hf _ (by omega) e3)
      | (have key : posR (fun j => rkO G (G.2.2.1 (F a 1) j)) ((G.1 p0 8).toInt) (l2_5.toInt).toNat = l2_5.toInt.toNat := by
           first
             | (have e : l2_5.toInt.toNat = 0 := by omega
                rw [e]; rfl)
             | (have e : l2_5.toInt.toNat = (l2_5.toInt - 1).toNat + 1 := by omega
                have e3 : G.2.2.1 (F a 1) (l2_5.toInt - 1).toNat = some q22 := by rw [← ps.1 _ (by omega)]; exact hR22
                rw [e, posR_here]
                show ¬ (_ < rkO G (G.2.2.1 (F a 1) (l2_5.toInt - 1).toNat))
                rw [e3]
                show ¬ (_ < (G.1 q22 8).toInt)
                omega)
         intro i hi
         rw [r_G79_F_a_1, ← pp, key]
         exact shf_ins ps (by rw [rput_j hG71, if_pos rfl]) (fun j hj => by rw [rput_j hG71, if_neg hj]) i (by omega)))
theorem v_X0_insert_82_8 {K : Nat → Nat} {F : Nat → Nat → Nat} (a : Nat) (p0 : Nat) (G : XG) (G_5 : XG) (l2_5 : Int32) (N5 : Nat)
    (ha : K a = 2)
    (hp0 : K p0 = 9)
    (ps : shf (G.2.2.1 (F a 1)) (G_5.2.2.1 (F a 1)) (l2_5.toInt).toNat ((G.1 a 2).toInt).toNat)
    (pp : posR (fun j => rkO G (G.2.2.1 (F a 1) j)) ((G.1 p0 8).toInt) (l2_5.toInt).toNat = posR (fun j => rkO G (G.2.2.1 (F a 1) j)) ((G.1 p0 8).toInt) ((G.1 a 2).toInt).toNat)
    (pf : ∀ (i q : Nat), G_5.2.2.1 (F a 1) i = some q → ∃ j : Nat, G.2.2.1 (F a 1) j = some q)
    (s0 : 0 ≤ ((G.1 a 2).toInt) ∧ ((G.1 a 2).toInt) ≤ 11)
    (I5_0 : 0 ≤ l2_5.toInt ∧ l2_5.toInt ≤ ((G.1 a 2).toInt))
    (I5_1 : ((G_5.1 a 2).toInt) = ((G.1 a 2).toInt))
    (hm5 : l2_5.toInt + 1 < (((N5) + 1 : Nat) : Int))
    (c6 : ¬ (l2_5.toInt ≤ 0))
    (c12 : (12 : Int) ≤ l2_5.toInt)
    (c56 : l2_5.toInt < 0) :
    ∀ (i q : Nat), G_5.2.2.1 (F a 1) i = some q → q = p0 ∨ ∃ j : Nat, G.2.2.1 (F a 1) j = some q := by
  first | (exfalso; omega) | skip
  all_goals (
    intro i q h
    first
      | (rw [r_G79_F_a_1, rput_j hG71] at h
         split at h
         · cases h; exact Or.inl rfl
         · exact Or.inr (pf i q h))
      | exact Or.inr (pf i q h))
theorem v_X0_insert_82_9 {K : Nat → Nat} {F : Nat → Nat → Nat} (a : Nat) (p0 : Nat) (G : XG) (G_5 : XG) (l2_5 : Int32) (N5 : Nat)
    (ha : K a = 2)
    (hp0 : K p0 = 9)
    (hf : ∀ i : Nat, (i : Int) < ((G.1 a 2).toInt) → G.2.2.1 (F a 1) i ≠ none)
    (ps : shf (G.2.2.1 (F a 1)) (G_5.2.2.1 (F a 1)) (l2_5.toInt).toNat ((G.1 a 2).toInt).toNat)
    (pp : posR (fun j => rkO G (G.2.2.1 (F a 1) j)) ((G.1 p0 8).toInt) (l2_5.toInt).toNat = posR (fun j => rkO G (G.2.2.1 (F a 1) j)) ((G.1 p0 8).toInt) ((G.1 a 2).toInt).toNat)
    (s0 : 0 ≤ ((G.1 a 2).toInt) ∧ ((G.1 a 2).toInt) ≤ 11)
    (I5_0 : 0 ≤ l2_5.toInt ∧ l2_5.toInt ≤ ((G.1 a 2).toInt))
    (I5_1 : ((G_5.1 a 2).toInt) = ((G.1 a 2).toInt))
    (hm5 : l2_5.toInt + 1 < (((N5) + 1 : Nat) : Int))
    (c6 : ¬ (l2_5.toInt ≤ 0))
    (c12 : (12 : Int) ≤ l2_5.toInt)
    (c56 : ¬ (l2_5.toInt < 0)) :
    ∀ i : Nat, (i : Int) ≤ ((G.1 a 2).toInt) → G_5.2.2.1 (F a 1) i = insF (G.2.2.1 (F a 1)) (posR (fun j => rkO G (G.2.2.1 (F a 1) j)) ((G.1 p0 8).toInt) (((G.1 a 2).toInt)).toNat) (some p0) i := by
  first | (exfalso; omega) | skip
  all_goals (
    first
      | (exfalso
         have e3 : G.2.2.1 (F a 1) (l2_5.toInt - 1).toNat = none := by rw [← ps.1 _ (by omega)]; exact hR22
         exact hf _ (by omega) e3)
      | (have key : posR (fun j => rkO G (G.2.2.1 (F a 1) j)) ((G.1 p0 8).toInt) (l2_5.toInt).toNat = l2_5.toInt.toNat := by
           first
             | (have e : l2_5.toInt.toNat = 0 := by omega
                rw [e]; rfl)
             | (have e : l2_5.toInt.toNat = (l2_5.toInt - 1).toNat + 1 := by omega
                have e3 : G.2.2.1 (F a 1) (l2_5.toInt - 1).toNat = some q22 := by rw [← ps.1 _ (by omega)]; exact hR22
                rw [e, posR_here]
                show ¬ (_ < rkO G (G.2.2.1 (F a 1) (l2_5.toInt - 1).toNat))
                rw [e3]
                show ¬ (_ < (G.1 q22 8).toInt)
                omega)
         intro i hi
         rw [r_G79_F_a_1, ← pp, key]
         exact shf_ins ps (by rw [rput_j hG71, if_pos rfl]) (fun j hj => by rw [rput_j hG71, if_neg hj]) i (by omega)))
theorem v_X0_insert_82_10 {K : Nat → Nat} {F : Nat → Nat → Nat} (a : Nat) (p0 : Nat) (G : XG) (G_5 : XG) (l2_5 : Int32) (N5 : Nat)
    (ha : K a = 2)
    (hp0 : K p0 = 9)
    (ps : shf (G.2.2.1 (F a 1)) (G_5.2.2.1 (F a 1)) (l2_5.toInt).toNat ((G.1 a 2).toInt).toNat)
    (pp : posR (fun j => rkO G (G.2.2.1 (F a 1) j)) ((G.1 p0 8).toInt) (l2_5.toInt).toNat = posR (fun j => rkO G (G.2.2.1 (F a 1) j)) ((G.1 p0 8).toInt) ((G.1 a 2).toInt).toNat)
    (pf : ∀ (i q : Nat), G_5.2.2.1 (F a 1) i = some q → ∃ j : Nat, G.2.2.1 (F a 1) j = some q)
    (s0 : 0 ≤ ((G.1 a 2).toInt) ∧ ((G.1 a 2).toInt) ≤ 11)
    (I5_0 : 0 ≤ l2_5.toInt ∧ l2_5.toInt ≤ ((G.1 a 2).toInt))
    (I5_1 : ((G_5.1 a 2).toInt) = ((G.1 a 2).toInt))
    (hm5 : l2_5.toInt + 1 < (((N5) + 1 : Nat) : Int))
    (c6 : ¬ (l2_5.toInt ≤ 0))
    (c12 : (12 : Int) ≤ l2_5.toInt)
    (c56 : ¬ (l2_5.toInt < 0)) :
    ∀ (i q : Nat), G_5.2.2.1 (F a 1) i = some q → q = p0 ∨ ∃ j : Nat, G.2.2.1 (F a 1) j = some q := by
  first | (exfalso; omega) | skip
  all_goals (
    intro i q h
    first
      | (rw [r_G79_F_a_1, rput_j hG71] at h
         split at h
         · cases h; exact Or.inl rfl
         · exact Or.inr (pf i q h))
      | exact Or.inr (pf i q h))
theorem v_X0_insert_82_11 {K : Nat → Nat} {F : Nat → Nat → Nat} (a : Nat) (p0 : Nat) (G : XG) (G_5 : XG) (G71 : XG) (l2_5 : Int32) (G79 : XG) (N5 : Nat)
    (ha : K a = 2)
    (hp0 : K p0 = 9)
    (hG71 : G71 = rput G_5 (F a 1) l2_5.toInt.toNat (some p0))
    (hf : ∀ i : Nat, (i : Int) < ((G.1 a 2).toInt) → G.2.2.1 (F a 1) i ≠ none)
    (ps : shf (G.2.2.1 (F a 1)) (G_5.2.2.1 (F a 1)) (l2_5.toInt).toNat ((G.1 a 2).toInt).toNat)
    (pp : posR (fun j => rkO G (G.2.2.1 (F a 1) j)) ((G.1 p0 8).toInt) (l2_5.toInt).toNat = posR (fun j => rkO G (G.2.2.1 (F a 1) j)) ((G.1 p0 8).toInt) ((G.1 a 2).toInt).toNat)
    (s0 : 0 ≤ ((G.1 a 2).toInt) ∧ ((G.1 a 2).toInt) ≤ 11)
    (I5_0 : 0 ≤ l2_5.toInt ∧ l2_5.toInt ≤ ((G.1 a 2).toInt))
    (I5_1 : ((G_5.1 a 2).toInt) = ((G.1 a 2).toInt))
    (hm5 : l2_5.toInt + 1 < (((N5) + 1 : Nat) : Int))
    (c6 : ¬ (l2_5.toInt ≤ 0))
    (c12 : (12 : Int) ≤ l2_5.toInt)
    (c56 : ¬ (l2_5.toInt < 0))
    (c62 : ¬ ((12 : Int) ≤ l2_5.toInt))
    (r_G79_F_a_1 : G79.2.2.1 (F a 1) = G71.2.2.1 (F a 1)) :
    ∀ i : Nat, (i : Int) ≤ ((G.1 a 2).toInt) → G79.2.2.1 (F a 1) i = insF (G.2.2.1 (F a 1)) (posR (fun j => rkO G (G.2.2.1 (F a 1) j)) ((G.1 p0 8).toInt) (((G.1 a 2).toInt)).toNat) (some p0) i := by
  first | (exfalso; omega) | skip
  all_goals (
    first
      | (exfalso
         have e3 : G.2.2.1 (F a 1) (l2_5.toInt - 1).toNat = none := by rw [← ps.1 _ (by omega)]; exact hR22
         exact hf _ (by omega) e3)
      | (have key : posR (fun j => rkO G (G.2.2.1 (F a 1) j)) ((G.1 p0 8).toInt) (l2_5.toInt).toNat = l2_5.toInt.toNat := by
           first
             | (have e : l2_5.toInt.toNat = 0 := by omega
                rw [e]; rfl)
             | (have e : l2_5.toInt.toNat = (l2_5.toInt - 1).toNat + 1 := by omega
                have e3 : G.2.2.1 (F a 1) (l2_5.toInt - 1).toNat = some q22 := by rw [← ps.1 _ (by omega)]; exact hR22
                rw [e, posR_here]
                show ¬ (_ < rkO G (G.2.2.1 (F a 1) (l2_5.toInt - 1).toNat))
                rw [e3]
                show ¬ (_ < (G.1 q22 8).toInt)
                omega)
         intro i hi
         rw [r_G79_F_a_1, ← pp, key]
         exact shf_ins ps (by rw [rput_j hG71, if_pos rfl]) (fun j hj => by rw [rput_j hG71, if_neg hj]) i (by omega)))
theorem v_X0_insert_82_12 {K : Nat → Nat} {F : Nat → Nat → Nat} (a : Nat) (p0 : Nat) (G : XG) (G_5 : XG) (G71 : XG) (l2_5 : Int32) (G79 : XG) (N5 : Nat)
    (ha : K a = 2)
    (hp0 : K p0 = 9)
    (hG71 : G71 = rput G_5 (F a 1) l2_5.toInt.toNat (some p0))
    (ps : shf (G.2.2.1 (F a 1)) (G_5.2.2.1 (F a 1)) (l2_5.toInt).toNat ((G.1 a 2).toInt).toNat)
    (pp : posR (fun j => rkO G (G.2.2.1 (F a 1) j)) ((G.1 p0 8).toInt) (l2_5.toInt).toNat = posR (fun j => rkO G (G.2.2.1 (F a 1) j)) ((G.1 p0 8).toInt) ((G.1 a 2).toInt).toNat)
    (pf : ∀ (i q : Nat), G_5.2.2.1 (F a 1) i = some q → ∃ j : Nat, G.2.2.1 (F a 1) j = some q)
    (s0 : 0 ≤ ((G.1 a 2).toInt) ∧ ((G.1 a 2).toInt) ≤ 11)
    (I5_0 : 0 ≤ l2_5.toInt ∧ l2_5.toInt ≤ ((G.1 a 2).toInt))
    (I5_1 : ((G_5.1 a 2).toInt) = ((G.1 a 2).toInt))
    (hm5 : l2_5.toInt + 1 < (((N5) + 1 : Nat) : Int))
    (c6 : ¬ (l2_5.toInt ≤ 0))
    (c12 : (12 : Int) ≤ l2_5.toInt)
    (c56 : ¬ (l2_5.toInt < 0))
    (c62 : ¬ ((12 : Int) ≤ l2_5.toInt))
    (r_G79_F_a_1 : G79.2.2.1 (F a 1) = G71.2.2.1 (F a 1)) :
    ∀ (i q : Nat), G79.2.2.1 (F a 1) i = some q → q = p0 ∨ ∃ j : Nat, G.2.2.1 (F a 1) j = some q := by
  first | (exfalso; omega) | skip
  all_goals (
    intro i q h
    first
      | (rw [r_G79_F_a_1, rput_j hG71] at h
         split at h
         · cases h; exact Or.inl rfl
         · exact Or.inr (pf i q h))
      | exact Or.inr (pf i q h))
theorem v_X0_insert_82_13 {K : Nat → Nat} {F : Nat → Nat → Nat} (a : Nat) (p0 : Nat) (G : XG) (G_5 : XG) (l2_5 : Int32) (N5 : Nat)
    (ha : K a = 2)
    (hp0 : K p0 = 9)
    (hf : ∀ i : Nat, (i : Int) < ((G.1 a 2).toInt) → G.2.2.1 (F a 1) i ≠ none)
    (ps : shf (G.2.2.1 (F a 1)) (G_5.2.2.1 (F a 1)) (l2_5.toInt).toNat ((G.1 a 2).toInt).toNat)
    (pp : posR (fun j => rkO G (G.2.2.1 (F a 1) j)) ((G.1 p0 8).toInt) (l2_5.toInt).toNat = posR (fun j => rkO G (G.2.2.1 (F a 1) j)) ((G.1 p0 8).toInt) ((G.1 a 2).toInt).toNat)
    (hR22 : G_5.2.2.1 (F a 1) ((l2_5.toInt - (1 : Int))).toNat = none)
    (s0 : 0 ≤ ((G.1 a 2).toInt) ∧ ((G.1 a 2).toInt) ≤ 11)
    (I5_0 : 0 ≤ l2_5.toInt ∧ l2_5.toInt ≤ ((G.1 a 2).toInt))
    (I5_1 : ((G_5.1 a 2).toInt) = ((G.1 a 2).toInt))
    (hm5 : l2_5.toInt + 1 < (((N5) + 1 : Nat) : Int))
    (c6 : ¬ (l2_5.toInt ≤ 0))
    (c12 : ¬ ((12 : Int) ≤ l2_5.toInt))
    (c56 : l2_5.toInt < 0) :
    ∀ i : Nat, (i : Int) ≤ ((G.1 a 2).toInt) → G_5.2.2.1 (F a 1) i = insF (G.2.2.1 (F a 1)) (posR (fun j => rkO G (G.2.2.1 (F a 1) j)) ((G.1 p0 8).toInt) (((G.1 a 2).toInt)).toNat) (some p0) i := by
  first | (exfalso; omega) | skip
  all_goals (
    first
      | (exfalso
         have e3 : G.2.2.1 (F a 1) (l2_5.toInt - 1).toNat = none := by rw [← ps.1 _ (by omega)]; exact hR22
         exact hf _ (by omega) e3)
      | (have key : posR (fun j => rkO G (G.2.2.1 (F a 1) j)) ((G.1 p0 8).toInt) (l2_5.toInt).toNat = l2_5.toInt.toNat := by
           first
             | (have e : l2_5.toInt.toNat = 0 := by omega
                rw [e]; rfl)
             | (have e : l2_5.toInt.toNat = (l2_5.toInt - 1).toNat + 1 := by omega
                have e3 : G.2.2.1 (F a 1) (l2_5.toInt - 1).toNat = some q22 := by rw [← ps.1 _ (by omega)]; exact hR22
                rw [e, posR_here]
                show ¬ (_ < rkO G (G.2.2.1 (F a 1) (l2_5.toInt - 1).toNat))
                rw [e3]
                show ¬ (_ < (G.1 q22 8).toInt)
                omega)
         intro i hi
         rw [r_G79_F_a_1, ← pp, key]
         exact shf_ins ps (by rw [rput_j hG71, if_pos rfl]) (fun j hj => by rw [rput_j hG71, if_neg hj]) i (by omega)))
theorem v_X0_insert_82_14 {K : Nat → Nat} {F : Nat → Nat → Nat} (a : Nat) (p0 : Nat) (G : XG) (G_5 : XG) (l2_5 : Int32) (N5 : Nat)
    (ha : K a = 2)
    (hp0 : K p0 = 9)
    (ps : shf (G.2.2.1 (F a 1)) (G_5.2.2.1 (F a 1)) (l2_5.toInt).toNat ((G.1 a 2).toInt).toNat)
    (pp : posR (fun j => rkO G (G.2.2.1 (F a 1) j)) ((G.1 p0 8).toInt) (l2_5.toInt).toNat = posR (fun j => rkO G (G.2.2.1 (F a 1) j)) ((G.1 p0 8).toInt) ((G.1 a 2).toInt).toNat)
    (pf : ∀ (i q : Nat), G_5.2.2.1 (F a 1) i = some q → ∃ j : Nat, G.2.2.1 (F a 1) j = some q)
    (hR22 : G_5.2.2.1 (F a 1) ((l2_5.toInt - (1 : Int))).toNat = none)
    (s0 : 0 ≤ ((G.1 a 2).toInt) ∧ ((G.1 a 2).toInt) ≤ 11)
    (I5_0 : 0 ≤ l2_5.toInt ∧ l2_5.toInt ≤ ((G.1 a 2).toInt))
    (I5_1 : ((G_5.1 a 2).toInt) = ((G.1 a 2).toInt))
    (hm5 : l2_5.toInt + 1 < (((N5) + 1 : Nat) : Int))
    (c6 : ¬ (l2_5.toInt ≤ 0))
    (c12 : ¬ ((12 : Int) ≤ l2_5.toInt))
    (c56 : l2_5.toInt < 0) :
    ∀ (i q : Nat), G_5.2.2.1 (F a 1) i = some q → q = p0 ∨ ∃ j : Nat, G.2.2.1 (F a 1) j = some q := by
  first | (exfalso; omega) | skip
  all_goals (
    intro i q h
    first
      | (rw [r_G79_F_a_1, rput_j hG71] at h
         split at h
         · cases h; exact Or.inl rfl
         · exact Or.inr (pf i q h))
      | exact Or.inr (pf i q h))
theorem v_X0_insert_82_15 {K : Nat → Nat} {F : Nat → Nat → Nat} (a : Nat) (p0 : Nat) (G : XG) (G_5 : XG) (l2_5 : Int32) (N5 : Nat)
    (ha : K a = 2)
    (hp0 : K p0 = 9)
    (hf : ∀ i : Nat, (i : Int) < ((G.1 a 2).toInt) → G.2.2.1 (F a 1) i ≠ none)
    (ps : shf (G.2.2.1 (F a 1)) (G_5.2.2.1 (F a 1)) (l2_5.toInt).toNat ((G.1 a 2).toInt).toNat)
    (pp : posR (fun j => rkO G (G.2.2.1 (F a 1) j)) ((G.1 p0 8).toInt) (l2_5.toInt).toNat = posR (fun j => rkO G (G.2.2.1 (F a 1) j)) ((G.1 p0 8).toInt) ((G.1 a 2).toInt).toNat)
    (hR22 : G_5.2.2.1 (F a 1) ((l2_5.toInt - (1 : Int))).toNat = none)
    (s0 : 0 ≤ ((G.1 a 2).toInt) ∧ ((G.1 a 2).toInt) ≤ 11)
    (I5_0 : 0 ≤ l2_5.toInt ∧ l2_5.toInt ≤ ((G.1 a 2).toInt))
    (I5_1 : ((G_5.1 a 2).toInt) = ((G.1 a 2).toInt))
    (hm5 : l2_5.toInt + 1 < (((N5) + 1 : Nat) : Int))
    (c6 : ¬ (l2_5.toInt ≤ 0))
    (c12 : ¬ ((12 : Int) ≤ l2_5.toInt))
    (c56 : ¬ (l2_5.toInt < 0))
    (c62 : (12 : Int) ≤ l2_5.toInt) :
    ∀ i : Nat, (i : Int) ≤ ((G.1 a 2).toInt) → G_5.2.2.1 (F a 1) i = insF (G.2.2.1 (F a 1)) (posR (fun j => rkO G (G.2.2.1 (F a 1) j)) ((G.1 p0 8).toInt) (((G.1 a 2).toInt)).toNat) (some p0) i := by
  first | (exfalso; omega) | skip
  all_goals (
    first
      | (exfalso
         have e3 : G.2.2.1 (F a 1) (l2_5.toInt - 1).toNat = none := by rw [← ps.1 _ (by omega)]; exact hR22
         exact hf _ (by omega) e3)
      | (have key : posR (fun j => rkO G (G.2.2.1 (F a 1) j)) ((G.1 p0 8).toInt) (l2_5.toInt).toNat = l2_5.toInt.toNat := by
           first
             | (have e : l2_5.toInt.toNat = 0 := by omega
                rw [e]; rfl)
             | (have e : l2_5.toInt.toNat = (l2_5.toInt - 1).toNat + 1 := by omega
                have e3 : G.2.2.1 (F a 1) (l2_5.toInt - 1).toNat = some q22 := by rw [← ps.1 _ (by omega)]; exact hR22
                rw [e, posR_here]
                show ¬ (_ < rkO G (G.2.2.1 (F a 1) (l2_5.toInt - 1).toNat))
                rw [e3]
                show ¬ (_ < (G.1 q22 8).toInt)
                omega)
         intro i hi
         rw [r_G79_F_a_1, ← pp, key]
         exact shf_ins ps (by rw [rput_j hG71, if_pos rfl]) (fun j hj => by rw [rput_j hG71, if_neg hj]) i (by omega)))
theorem v_X0_insert_82_16 {K : Nat → Nat} {F : Nat → Nat → Nat} (a : Nat) (p0 : Nat) (G : XG) (G_5 : XG) (l2_5 : Int32) (N5 : Nat)
    (ha : K a = 2)
    (hp0 : K p0 = 9)
    (ps : shf (G.2.2.1 (F a 1)) (G_5.2.2.1 (F a 1)) (l2_5.toInt).toNat ((G.1 a 2).toInt).toNat)
    (pp : posR (fun j => rkO G (G.2.2.1 (F a 1) j)) ((G.1 p0 8).toInt) (l2_5.toInt).toNat = posR (fun j => rkO G (G.2.2.1 (F a 1) j)) ((G.1 p0 8).toInt) ((G.1 a 2).toInt).toNat)
    (pf : ∀ (i q : Nat), G_5.2.2.1 (F a 1) i = some q → ∃ j : Nat, G.2.2.1 (F a 1) j = some q)
    (hR22 : G_5.2.2.1 (F a 1) ((l2_5.toInt - (1 : Int))).toNat = none)
    (s0 : 0 ≤ ((G.1 a 2).toInt) ∧ ((G.1 a 2).toInt) ≤ 11)
    (I5_0 : 0 ≤ l2_5.toInt ∧ l2_5.toInt ≤ ((G.1 a 2).toInt))
    (I5_1 : ((G_5.1 a 2).toInt) = ((G.1 a 2).toInt))
    (hm5 : l2_5.toInt + 1 < (((N5) + 1 : Nat) : Int))
    (c6 : ¬ (l2_5.toInt ≤ 0))
    (c12 : ¬ ((12 : Int) ≤ l2_5.toInt))
    (c56 : ¬ (l2_5.toInt < 0))
    (c62 : (12 : Int) ≤ l2_5.toInt) :
    ∀ (i q : Nat), G_5.2.2.1 (F a 1) i = some q → q = p0 ∨ ∃ j : Nat, G.2.2.1 (F a 1) j = some q := by
  first | (exfalso; omega) | skip
  all_goals (
    intro i q h
    first
      | (rw [r_G79_F_a_1, rput_j hG71] at h
         split at h
         · cases h; exact Or.inl rfl
         · exact Or.inr (pf i q h))
      | exact Or.inr (pf i q h))
theorem v_X0_insert_82_17 {K : Nat → Nat} {F : Nat → Nat → Nat} (a : Nat) (p0 : Nat) (G : XG) (G_5 : XG) (G71 : XG) (l2_5 : Int32) (G79 : XG) (N5 : Nat)
    (ha : K a = 2)
    (hp0 : K p0 = 9)
    (hG71 : G71 = rput G_5 (F a 1) l2_5.toInt.toNat (some p0))
    (hf : ∀ i : Nat, (i : Int) < ((G.1 a 2).toInt) → G.2.2.1 (F a 1) i ≠ none)
    (ps : shf (G.2.2.1 (F a 1)) (G_5.2.2.1 (F a 1)) (l2_5.toInt).toNat ((G.1 a 2).toInt).toNat)
    (pp : posR (fun j => rkO G (G.2.2.1 (F a 1) j)) ((G.1 p0 8).toInt) (l2_5.toInt).toNat = posR (fun j => rkO G (G.2.2.1 (F a 1) j)) ((G.1 p0 8).toInt) ((G.1 a 2).toInt).toNat)
    (hR22 : G_5.2.2.1 (F a 1) ((l2_5.toInt - (1 : Int))).toNat = none)
    (s0 : 0 ≤ ((G.1 a 2).toInt) ∧ ((G.1 a 2).toInt) ≤ 11)
    (I5_0 : 0 ≤ l2_5.toInt ∧ l2_5.toInt ≤ ((G.1 a 2).toInt))
    (I5_1 : ((G_5.1 a 2).toInt) = ((G.1 a 2).toInt))
    (hm5 : l2_5.toInt + 1 < (((N5) + 1 : Nat) : Int))
    (c6 : ¬ (l2_5.toInt ≤ 0))
    (c12 : ¬ ((12 : Int) ≤ l2_5.toInt))
    (c56 : ¬ (l2_5.toInt < 0))
    (r_G79_F_a_1 : G79.2.2.1 (F a 1) = G71.2.2.1 (F a 1)) :
    ∀ i : Nat, (i : Int) ≤ ((G.1 a 2).toInt) → G79.2.2.1 (F a 1) i = insF (G.2.2.1 (F a 1)) (posR (fun j => rkO G (G.2.2.1 (F a 1) j)) ((G.1 p0 8).toInt) (((G.1 a 2).toInt)).toNat) (some p0) i := by
  first | (exfalso; omega) | skip
  all_goals (
    first
      | (exfalso
         have e3 : G.2.2.1 (F a 1) (l2_5.toInt - 1).toNat = none := by rw [← ps.1 _ (by omega)]; exact hR22
         exact hf _ (by omega) e3)
      | (have key : posR (fun j => rkO G (G.2.2.1 (F a 1) j)) ((G.1 p0 8).toInt) (l2_5.toInt).toNat = l2_5.toInt.toNat := by
           first
             | (have e : l2_5.toInt.toNat = 0 := by omega
                rw [e]; rfl)
             | (have e : l2_5.toInt.toNat = (l2_5.toInt - 1).toNat + 1 := by omega
                have e3 : G.2.2.1 (F a 1) (l2_5.toInt - 1).toNat = some q22 := by rw [← ps.1 _ (by omega)]; exact hR22
                rw [e, posR_here]
                show ¬ (_ < rkO G (G.2.2.1 (F a 1) (l2_5.toInt - 1).toNat))
                rw [e3]
                show ¬ (_ < (G.1 q22 8).toInt)
                omega)
         intro i hi
         rw [r_G79_F_a_1, ← pp, key]
         exact shf_ins ps (by rw [rput_j hG71, if_pos rfl]) (fun j hj => by rw [rput_j hG71, if_neg hj]) i (by omega)))
theorem v_X0_insert_82_18 {K : Nat → Nat} {F : Nat → Nat → Nat} (a : Nat) (p0 : Nat) (G : XG) (G_5 : XG) (G71 : XG) (l2_5 : Int32) (G79 : XG) (N5 : Nat)
    (ha : K a = 2)
    (hp0 : K p0 = 9)
    (hG71 : G71 = rput G_5 (F a 1) l2_5.toInt.toNat (some p0))
    (ps : shf (G.2.2.1 (F a 1)) (G_5.2.2.1 (F a 1)) (l2_5.toInt).toNat ((G.1 a 2).toInt).toNat)
    (pp : posR (fun j => rkO G (G.2.2.1 (F a 1) j)) ((G.1 p0 8).toInt) (l2_5.toInt).toNat = posR (fun j => rkO G (G.2.2.1 (F a 1) j)) ((G.1 p0 8).toInt) ((G.1 a 2).toInt).toNat)
    (pf : ∀ (i q : Nat), G_5.2.2.1 (F a 1) i = some q → ∃ j : Nat, G.2.2.1 (F a 1) j = some q)
    (hR22 : G_5.2.2.1 (F a 1) ((l2_5.toInt - (1 : Int))).toNat = none)
    (s0 : 0 ≤ ((G.1 a 2).toInt) ∧ ((G.1 a 2).toInt) ≤ 11)
    (I5_0 : 0 ≤ l2_5.toInt ∧ l2_5.toInt ≤ ((G.1 a 2).toInt))
    (I5_1 : ((G_5.1 a 2).toInt) = ((G.1 a 2).toInt))
    (hm5 : l2_5.toInt + 1 < (((N5) + 1 : Nat) : Int))
    (c6 : ¬ (l2_5.toInt ≤ 0))
    (c12 : ¬ ((12 : Int) ≤ l2_5.toInt))
    (c56 : ¬ (l2_5.toInt < 0))
    (r_G79_F_a_1 : G79.2.2.1 (F a 1) = G71.2.2.1 (F a 1)) :
    ∀ (i q : Nat), G79.2.2.1 (F a 1) i = some q → q = p0 ∨ ∃ j : Nat, G.2.2.1 (F a 1) j = some q := by
  first | (exfalso; omega) | skip
  all_goals (
    intro i q h
    first
      | (rw [r_G79_F_a_1, rput_j hG71] at h
         split at h
         · cases h; exact Or.inl rfl
         · exact Or.inr (pf i q h))
      | exact Or.inr (pf i q h))
theorem v_X0_insert_52_19 {K : Nat → Nat} {F : Nat → Nat → Nat} (a : Nat) (p0 : Nat) (q22 : Nat) (G : XG) (G_5 : XG) (G48 : XG) (l2_5 : Int32) (N5 : Nat)
    (ha : K a = 2)
    (hp0 : K p0 = 9)
    (hG48 : G48 = rput G_5 (F a 1) l2_5.toInt.toNat (some q22))
    (ps : shf (G.2.2.1 (F a 1)) (G_5.2.2.1 (F a 1)) (l2_5.toInt).toNat ((G.1 a 2).toInt).toNat)
    (pp : posR (fun j => rkO G (G.2.2.1 (F a 1) j)) ((G.1 p0 8).toInt) (l2_5.toInt).toNat = posR (fun j => rkO G (G.2.2.1 (F a 1) j)) ((G.1 p0 8).toInt) ((G.1 a 2).toInt).toNat)
    (hR22 : G_5.2.2.1 (F a 1) ((l2_5.toInt - (1 : Int))).toNat = some q22)
    (s0 : 0 ≤ ((G.1 a 2).toInt) ∧ ((G.1 a 2).toInt) ≤ 11)
    (I5_0 : 0 ≤ l2_5.toInt ∧ l2_5.toInt ≤ ((G.1 a 2).toInt))
    (I5_1 : ((G_5.1 a 2).toInt) = ((G.1 a 2).toInt))
    (hm5 : l2_5.toInt + 1 < (((N5) + 1 : Nat) : Int))
    (c6 : ¬ (l2_5.toInt ≤ 0))
    (c12 : ¬ ((12 : Int) ≤ l2_5.toInt))
    (c36 : ((G.1 p0 8).toInt) < ((G.1 q22 8).toInt)) :
    shf (G.2.2.1 (F a 1)) (G48.2.2.1 (F a 1)) (l2_5.toInt + (-1)).toNat ((G.1 a 2).toInt).toNat := by
  have e : l2_5.toInt.toNat = (l2_5.toInt + -1).toNat + 1 := by omega
  have e2 : (l2_5.toInt + -1).toNat = (l2_5.toInt - 1).toNat := by omega
  refine shf_s (g := G_5.2.2.1 (F a 1)) (by rw [← e]; exact ps) ?_ (fun i hi => ?_)
  · rw [rput_j hG48, if_pos e.symm, e2]
    exact hR22.symm
  · rw [rput_j hG48, if_neg (by omega)]
theorem v_X0_insert_52_20 {K : Nat → Nat} {F : Nat → Nat → Nat} (a : Nat) (p0 : Nat) (q22 : Nat) (G : XG) (G_5 : XG) (l2_5 : Int32) (N5 : Nat)
    (ha : K a = 2)
    (hp0 : K p0 = 9)
    (ps : shf (G.2.2.1 (F a 1)) (G_5.2.2.1 (F a 1)) (l2_5.toInt).toNat ((G.1 a 2).toInt).toNat)
    (pp : posR (fun j => rkO G (G.2.2.1 (F a 1) j)) ((G.1 p0 8).toInt) (l2_5.toInt).toNat = posR (fun j => rkO G (G.2.2.1 (F a 1) j)) ((G.1 p0 8).toInt) ((G.1 a 2).toInt).toNat)
    (hR22 : G_5.2.2.1 (F a 1) ((l2_5.toInt - (1 : Int))).toNat = some q22)
    (s0 : 0 ≤ ((G.1 a 2).toInt) ∧ ((G.1 a 2).toInt) ≤ 11)
    (I5_0 : 0 ≤ l2_5.toInt ∧ l2_5.toInt ≤ ((G.1 a 2).toInt))
    (I5_1 : ((G_5.1 a 2).toInt) = ((G.1 a 2).toInt))
    (hm5 : l2_5.toInt + 1 < (((N5) + 1 : Nat) : Int))
    (c6 : ¬ (l2_5.toInt ≤ 0))
    (c12 : ¬ ((12 : Int) ≤ l2_5.toInt))
    (c36 : ((G.1 p0 8).toInt) < ((G.1 q22 8).toInt)) :
    posR (fun j => rkO G (G.2.2.1 (F a 1) j)) ((G.1 p0 8).toInt) (l2_5.toInt + (-1)).toNat = posR (fun j => rkO G (G.2.2.1 (F a 1) j)) ((G.1 p0 8).toInt) ((G.1 a 2).toInt).toNat := by
  have e : l2_5.toInt.toNat = (l2_5.toInt + -1).toNat + 1 := by omega
  have e2 : (l2_5.toInt + -1).toNat = (l2_5.toInt - 1).toNat := by omega
  have e3 : G.2.2.1 (F a 1) (l2_5.toInt - 1).toNat = some q22 := by rw [← ps.1 _ (by omega)]; exact hR22
  rw [← pp, e, posR_up]
  rw [e2, e3]
  show _ < (G.1 q22 8).toInt
  omega
theorem v_X0_insert_52_21 {F : Nat → Nat → Nat} (a : Nat) (q22 : Nat) (G : XG) (G_5 : XG) (G48 : XG) (l2_5 : Int32)
    (hG48 : G48 = rput G_5 (F a 1) l2_5.toInt.toNat (some q22))
    (pf : ∀ (i q : Nat), G_5.2.2.1 (F a 1) i = some q → ∃ j : Nat, G.2.2.1 (F a 1) j = some q)
    (hR22 : G_5.2.2.1 (F a 1) ((l2_5.toInt - (1 : Int))).toNat = some q22) :
    ∀ (i q : Nat), G48.2.2.1 (F a 1) i = some q → ∃ j : Nat, G.2.2.1 (F a 1) j = some q := by
  intro i q h
  rw [rput_j hG48] at h
  split at h
  · cases h; exact pf _ _ hR22
  · exact pf i q h
theorem v_X0_insert_82_22 {K : Nat → Nat} {F : Nat → Nat → Nat} (a : Nat) (p0 : Nat) (q22 : Nat) (G : XG) (G_5 : XG) (l2_5 : Int32) (N5 : Nat)
    (ha : K a = 2)
    (hp0 : K p0 = 9)
    (hf : ∀ i : Nat, (i : Int) < ((G.1 a 2).toInt) → G.2.2.1 (F a 1) i ≠ none)
    (ps : shf (G.2.2.1 (F a 1)) (G_5.2.2.1 (F a 1)) (l2_5.toInt).toNat ((G.1 a 2).toInt).toNat)
    (pp : posR (fun j => rkO G (G.2.2.1 (F a 1) j)) ((G.1 p0 8).toInt) (l2_5.toInt).toNat = posR (fun j => rkO G (G.2.2.1 (F a 1) j)) ((G.1 p0 8).toInt) ((G.1 a 2).toInt).toNat)
    (hR22 : G_5.2.2.1 (F a 1) ((l2_5.toInt - (1 : Int))).toNat = some q22)
    (s0 : 0 ≤ ((G.1 a 2).toInt) ∧ ((G.1 a 2).toInt) ≤ 11)
    (I5_0 : 0 ≤ l2_5.toInt ∧ l2_5.toInt ≤ ((G.1 a 2).toInt))
    (I5_1 : ((G_5.1 a 2).toInt) = ((G.1 a 2).toInt))
    (hm5 : l2_5.toInt + 1 < (((N5) + 1 : Nat) : Int))
    (c6 : ¬ (l2_5.toInt ≤ 0))
    (c12 : ¬ ((12 : Int) ≤ l2_5.toInt))
    (c36 : ¬ (((G.1 p0 8).toInt) < ((G.1 q22 8).toInt)))
    (c56 : l2_5.toInt < 0) :
    ∀ i : Nat, (i : Int) ≤ ((G.1 a 2).toInt) → G_5.2.2.1 (F a 1) i = insF (G.2.2.1 (F a 1)) (posR (fun j => rkO G (G.2.2.1 (F a 1) j)) ((G.1 p0 8).toInt) (((G.1 a 2).toInt)).toNat) (some p0) i := by
  first | (exfalso; omega) | skip
  all_goals (
    first
      | (exfalso
         have e3 : G.2.2.1 (F a 1) (l2_5.toInt - 1).toNat = none := by rw [← ps.1 _ (by omega)]; exact hR22
         exact hf _ (by omega) e3)
      | (have key : posR (fun j => rkO G (G.2.2.1 (F a 1) j)) ((G.1 p0 8).toInt) (l2_5.toInt).toNat = l2_5.toInt.toNat := by
           first
             | (have e : l2_5.toInt.toNat = 0 := by omega
                rw [e]; rfl)
             | (have e : l2_5.toInt.toNat = (l2_5.toInt - 1).toNat + 1 := by omega
                have e3 : G.2.2.1 (F a 1) (l2_5.toInt - 1).toNat = some q22 := by rw [← ps.1 _ (by omega)]; exact hR22
                rw [e, posR_here]
                show ¬ (_ < rkO G (G.2.2.1 (F a 1) (l2_5.toInt - 1).toNat))
                rw [e3]
                show ¬ (_ < (G.1 q22 8).toInt)
                omega)
         intro i hi
         rw [r_G79_F_a_1, ← pp, key]
         exact shf_ins ps (by rw [rput_j hG71, if_pos rfl]) (fun j hj => by rw [rput_j hG71, if_neg hj]) i (by omega)))
theorem v_X0_insert_82_23 {K : Nat → Nat} {F : Nat → Nat → Nat} (a : Nat) (p0 : Nat) (q22 : Nat) (G : XG) (G_5 : XG) (l2_5 : Int32) (N5 : Nat)
    (ha : K a = 2)
    (hp0 : K p0 = 9)
    (ps : shf (G.2.2.1 (F a 1)) (G_5.2.2.1 (F a 1)) (l2_5.toInt).toNat ((G.1 a 2).toInt).toNat)
    (pp : posR (fun j => rkO G (G.2.2.1 (F a 1) j)) ((G.1 p0 8).toInt) (l2_5.toInt).toNat = posR (fun j => rkO G (G.2.2.1 (F a 1) j)) ((G.1 p0 8).toInt) ((G.1 a 2).toInt).toNat)
    (pf : ∀ (i q : Nat), G_5.2.2.1 (F a 1) i = some q → ∃ j : Nat, G.2.2.1 (F a 1) j = some q)
    (hR22 : G_5.2.2.1 (F a 1) ((l2_5.toInt - (1 : Int))).toNat = some q22)
    (s0 : 0 ≤ ((G.1 a 2).toInt) ∧ ((G.1 a 2).toInt) ≤ 11)
    (I5_0 : 0 ≤ l2_5.toInt ∧ l2_5.toInt ≤ ((G.1 a 2).toInt))
    (I5_1 : ((G_5.1 a 2).toInt) = ((G.1 a 2).toInt))
    (hm5 : l2_5.toInt + 1 < (((N5) + 1 : Nat) : Int))
    (c6 : ¬ (l2_5.toInt ≤ 0))
    (c12 : ¬ ((12 : Int) ≤ l2_5.toInt))
    (c36 : ¬ (((G.1 p0 8).toInt) < ((G.1 q22 8).toInt)))
    (c56 : l2_5.toInt < 0) :
    ∀ (i q : Nat), G_5.2.2.1 (F a 1) i = some q → q = p0 ∨ ∃ j : Nat, G.2.2.1 (F a 1) j = some q := by
  first | (exfalso; omega) | skip
  all_goals (
    intro i q h
    first
      | (rw [r_G79_F_a_1, rput_j hG71] at h
         split at h
         · cases h; exact Or.inl rfl
         · exact Or.inr (pf i q h))
      | exact Or.inr (pf i q h))
theorem v_X0_insert_82_24 {K : Nat → Nat} {F : Nat → Nat → Nat} (a : Nat) (p0 : Nat) (q22 : Nat) (G : XG) (G_5 : XG) (l2_5 : Int32) (N5 : Nat)
    (ha : K a = 2)
    (hp0 : K p0 = 9)
    (hf : ∀ i : Nat, (i : Int) < ((G.1 a 2).toInt) → G.2.2.1 (F a 1) i ≠ none)
    (ps : shf (G.2.2.1 (F a 1)) (G_5.2.2.1 (F a 1)) (l2_5.toInt).toNat ((G.1 a 2).toInt).toNat)
    (pp : posR (fun j => rkO G (G.2.2.1 (F a 1) j)) ((G.1 p0 8).toInt) (l2_5.toInt).toNat = posR (fun j => rkO G (G.2.2.1 (F a 1) j)) ((G.1 p0 8).toInt) ((G.1 a 2).toInt).toNat)
    (hR22 : G_5.2.2.1 (F a 1) ((l2_5.toInt - (1 : Int))).toNat = some q22)
    (s0 : 0 ≤ ((G.1 a 2).toInt) ∧ ((G.1 a 2).toInt) ≤ 11)
    (I5_0 : 0 ≤ l2_5.toInt ∧ l2_5.toInt ≤ ((G.1 a 2).toInt))
    (I5_1 : ((G_5.1 a 2).toInt) = ((G.1 a 2).toInt))
    (hm5 : l2_5.toInt + 1 < (((N5) + 1 : Nat) : Int))
    (c6 : ¬ (l2_5.toInt ≤ 0))
    (c12 : ¬ ((12 : Int) ≤ l2_5.toInt))
    (c36 : ¬ (((G.1 p0 8).toInt) < ((G.1 q22 8).toInt)))
    (c56 : ¬ (l2_5.toInt < 0))
    (c62 : (12 : Int) ≤ l2_5.toInt) :
    ∀ i : Nat, (i : Int) ≤ ((G.1 a 2).toInt) → G_5.2.2.1 (F a 1) i = insF (G.2.2.1 (F a 1)) (posR (fun j => rkO G (G.2.2.1 (F a 1) j)) ((G.1 p0 8).toInt) (((G.1 a 2).toInt)).toNat) (some p0) i := by
  first | (exfalso; omega) | skip
  all_goals (
    first
      | (exfalso
         have e3 : G.2.2.1 (F a 1) (l2_5.toInt - 1).toNat = none := by rw [← ps.1 _ (by omega)]; exact hR22
         exact hf _ (by omega) e3)
      | (have key : posR (fun j => rkO G (G.2.2.1 (F a 1) j)) ((G.1 p0 8).toInt) (l2_5.toInt).toNat = l2_5.toInt.toNat := by
           first
             | (have e : l2_5.toInt.toNat = 0 := by omega
                rw [e]; rfl)
             | (have e : l2_5.toInt.toNat = (l2_5.toInt - 1).toNat + 1 := by omega
                have e3 : G.2.2.1 (F a 1) (l2_5.toInt - 1).toNat = some q22 := by rw [← ps.1 _ (by omega)]; exact hR22
                rw [e, posR_here]
                show ¬ (_ < rkO G (G.2.2.1 (F a 1) (l2_5.toInt - 1).toNat))
                rw [e3]
                show ¬ (_ < (G.1 q22 8).toInt)
                omega)
         intro i hi
         rw [r_G79_F_a_1, ← pp, key]
         exact shf_ins ps (by rw [rput_j hG71, if_pos rfl]) (fun j hj => by rw [rput_j hG71, if_neg hj]) i (by omega)))
theorem v_X0_insert_82_25 {K : Nat → Nat} {F : Nat → Nat → Nat} (a : Nat) (p0 : Nat) (q22 : Nat) (G : XG) (G_5 : XG) (l2_5 : Int32) (N5 : Nat)
    (ha : K a = 2)
    (hp0 : K p0 = 9)
    (ps : shf (G.2.2.1 (F a 1)) (G_5.2.2.1 (F a 1)) (l2_5.toInt).toNat ((G.1 a 2).toInt).toNat)
    (pp : posR (fun j => rkO G (G.2.2.1 (F a 1) j)) ((G.1 p0 8).toInt) (l2_5.toInt).toNat = posR (fun j => rkO G (G.2.2.1 (F a 1) j)) ((G.1 p0 8).toInt) ((G.1 a 2).toInt).toNat)
    (pf : ∀ (i q : Nat), G_5.2.2.1 (F a 1) i = some q → ∃ j : Nat, G.2.2.1 (F a 1) j = some q)
    (hR22 : G_5.2.2.1 (F a 1) ((l2_5.toInt - (1 : Int))).toNat = some q22)
    (s0 : 0 ≤ ((G.1 a 2).toInt) ∧ ((G.1 a 2).toInt) ≤ 11)
    (I5_0 : 0 ≤ l2_5.toInt ∧ l2_5.toInt ≤ ((G.1 a 2).toInt))
    (I5_1 : ((G_5.1 a 2).toInt) = ((G.1 a 2).toInt))
    (hm5 : l2_5.toInt + 1 < (((N5) + 1 : Nat) : Int))
    (c6 : ¬ (l2_5.toInt ≤ 0))
    (c12 : ¬ ((12 : Int) ≤ l2_5.toInt))
    (c36 : ¬ (((G.1 p0 8).toInt) < ((G.1 q22 8).toInt)))
    (c56 : ¬ (l2_5.toInt < 0))
    (c62 : (12 : Int) ≤ l2_5.toInt) :
    ∀ (i q : Nat), G_5.2.2.1 (F a 1) i = some q → q = p0 ∨ ∃ j : Nat, G.2.2.1 (F a 1) j = some q := by
  first | (exfalso; omega) | skip
  all_goals (
    intro i q h
    first
      | (rw [r_G79_F_a_1, rput_j hG71] at h
         split at h
         · cases h; exact Or.inl rfl
         · exact Or.inr (pf i q h))
      | exact Or.inr (pf i q h))
theorem v_X0_insert_82_26 {K : Nat → Nat} {F : Nat → Nat → Nat} (a : Nat) (p0 : Nat) (q22 : Nat) (G : XG) (G_5 : XG) (G71 : XG) (l2_5 : Int32) (G79 : XG) (N5 : Nat)
    (ha : K a = 2)
    (hp0 : K p0 = 9)
    (hG71 : G71 = rput G_5 (F a 1) l2_5.toInt.toNat (some p0))
    (hf : ∀ i : Nat, (i : Int) < ((G.1 a 2).toInt) → G.2.2.1 (F a 1) i ≠ none)
    (ps : shf (G.2.2.1 (F a 1)) (G_5.2.2.1 (F a 1)) (l2_5.toInt).toNat ((G.1 a 2).toInt).toNat)
    (pp : posR (fun j => rkO G (G.2.2.1 (F a 1) j)) ((G.1 p0 8).toInt) (l2_5.toInt).toNat = posR (fun j => rkO G (G.2.2.1 (F a 1) j)) ((G.1 p0 8).toInt) ((G.1 a 2).toInt).toNat)
    (hR22 : G_5.2.2.1 (F a 1) ((l2_5.toInt - (1 : Int))).toNat = some q22)
    (s0 : 0 ≤ ((G.1 a 2).toInt) ∧ ((G.1 a 2).toInt) ≤ 11)
    (I5_0 : 0 ≤ l2_5.toInt ∧ l2_5.toInt ≤ ((G.1 a 2).toInt))
    (I5_1 : ((G_5.1 a 2).toInt) = ((G.1 a 2).toInt))
    (hm5 : l2_5.toInt + 1 < (((N5) + 1 : Nat) : Int))
    (c6 : ¬ (l2_5.toInt ≤ 0))
    (c12 : ¬ ((12 : Int) ≤ l2_5.toInt))
    (c36 : ¬ (((G.1 p0 8).toInt) < ((G.1 q22 8).toInt)))
    (c56 : ¬ (l2_5.toInt < 0))
    (r_G79_F_a_1 : G79.2.2.1 (F a 1) = G71.2.2.1 (F a 1)) :
    ∀ i : Nat, (i : Int) ≤ ((G.1 a 2).toInt) → G79.2.2.1 (F a 1) i = insF (G.2.2.1 (F a 1)) (posR (fun j => rkO G (G.2.2.1 (F a 1) j)) ((G.1 p0 8).toInt) (((G.1 a 2).toInt)).toNat) (some p0) i := by
  first | (exfalso; omega) | skip
  all_goals (
    first
      | (exfalso
         have e3 : G.2.2.1 (F a 1) (l2_5.toInt - 1).toNat = none := by rw [← ps.1 _ (by omega)]; exact hR22
         exact hf _ (by omega) e3)
      | (have key : posR (fun j => rkO G (G.2.2.1 (F a 1) j)) ((G.1 p0 8).toInt) (l2_5.toInt).toNat = l2_5.toInt.toNat := by
           first
             | (have e : l2_5.toInt.toNat = 0 := by omega
                rw [e]; rfl)
             | (have e : l2_5.toInt.toNat = (l2_5.toInt - 1).toNat + 1 := by omega
                have e3 : G.2.2.1 (F a 1) (l2_5.toInt - 1).toNat = some q22 := by rw [← ps.1 _ (by omega)]; exact hR22
                rw [e, posR_here]
                show ¬ (_ < rkO G (G.2.2.1 (F a 1) (l2_5.toInt - 1).toNat))
                rw [e3]
                show ¬ (_ < (G.1 q22 8).toInt)
                omega)
         intro i hi
         rw [r_G79_F_a_1, ← pp, key]
         exact shf_ins ps (by rw [rput_j hG71, if_pos rfl]) (fun j hj => by rw [rput_j hG71, if_neg hj]) i (by omega)))
theorem v_X0_insert_82_27 {K : Nat → Nat} {F : Nat → Nat → Nat} (a : Nat) (p0 : Nat) (q22 : Nat) (G : XG) (G_5 : XG) (G71 : XG) (l2_5 : Int32) (G79 : XG) (N5 : Nat)
    (ha : K a = 2)
    (hp0 : K p0 = 9)
    (hG71 : G71 = rput G_5 (F a 1) l2_5.toInt.toNat (some p0))
    (ps : shf (G.2.2.1 (F a 1)) (G_5.2.2.1 (F a 1)) (l2_5.toInt).toNat ((G.1 a 2).toInt).toNat)
    (pp : posR (fun j => rkO G (G.2.2.1 (F a 1) j)) ((G.1 p0 8).toInt) (l2_5.toInt).toNat = posR (fun j => rkO G (G.2.2.1 (F a 1) j)) ((G.1 p0 8).toInt) ((G.1 a 2).toInt).toNat)
    (pf : ∀ (i q : Nat), G_5.2.2.1 (F a 1) i = some q → ∃ j : Nat, G.2.2.1 (F a 1) j = some q)
    (hR22 : G_5.2.2.1 (F a 1) ((l2_5.toInt - (1 : Int))).toNat = some q22)
    (s0 : 0 ≤ ((G.1 a 2).toInt) ∧ ((G.1 a 2).toInt) ≤ 11)
    (I5_0 : 0 ≤ l2_5.toInt ∧ l2_5.toInt ≤ ((G.1 a 2).toInt))
    (I5_1 : ((G_5.1 a 2).toInt) = ((G.1 a 2).toInt))
    (hm5 : l2_5.toInt + 1 < (((N5) + 1 : Nat) : Int))
    (c6 : ¬ (l2_5.toInt ≤ 0))
    (c12 : ¬ ((12 : Int) ≤ l2_5.toInt))
    (c36 : ¬ (((G.1 p0 8).toInt) < ((G.1 q22 8).toInt)))
    (c56 : ¬ (l2_5.toInt < 0))
    (r_G79_F_a_1 : G79.2.2.1 (F a 1) = G71.2.2.1 (F a 1)) :
    ∀ (i q : Nat), G79.2.2.1 (F a 1) i = some q → q = p0 ∨ ∃ j : Nat, G.2.2.1 (F a 1) j = some q := by
  first | (exfalso; omega) | skip
  all_goals (
    intro i q h
    first
      | (rw [r_G79_F_a_1, rput_j hG71] at h
         split at h
         · cases h; exact Or.inl rfl
         · exact Or.inr (pf i q h))
      | exact Or.inr (pf i q h))
theorem v_X0_insert_4_28 {F : Nat → Nat → Nat} (a : Nat) (G : XG) :
    shf (G.2.2.1 (F a 1)) (G.2.2.1 (F a 1)) (((G.1 a 2).toInt)).toNat ((G.1 a 2).toInt).toNat := by
  exact shf_0 _ _
theorem v_X0_insert_4_29 {F : Nat → Nat → Nat} (a : Nat) (p0 : Nat) (G : XG) :
    posR (fun j => rkO G (G.2.2.1 (F a 1) j)) ((G.1 p0 8).toInt) (((G.1 a 2).toInt)).toNat = posR (fun j => rkO G (G.2.2.1 (F a 1) j)) ((G.1 p0 8).toInt) ((G.1 a 2).toInt).toNat := by
  rfl
theorem v_X0_insert_4_30 {F : Nat → Nat → Nat} (a : Nat) (G : XG) :
    ∀ (i q : Nat), G.2.2.1 (F a 1) i = some q → ∃ j : Nat, G.2.2.1 (F a 1) j = some q := by
  exact fun i q h => ⟨i, h⟩
theorem v_X0_arrange_35_1 {K : Nat → Nat} {F : Nat → Nat → Nat} (a : Nat) (G : XG) (G_7 : XG) (l1_7 : Int32) (N7 : Nat)
    (ha : K a = 2)
    (po : ORn (G.2.2.1 (F a 0)) (G_7.2.2.1 (F a 1)) ((G_7.1 a 2).toInt) (fun i => rkO G (G.2.2.1 (F a 0) i)) (l1_7.toInt).toNat)
    (I7_0 : 0 ≤ l1_7.toInt ∧ l1_7.toInt ≤ 12)
    (I7_1 : 0 ≤ ((G_7.1 a 2).toInt) ∧ ((G_7.1 a 2).toInt) ≤ l1_7.toInt)
    (I7_2 : (0 : Int) ≤ l1_7.toInt)
    (hm7 : 2147483648 - l1_7.toInt < (((N7) + 1 : Nat) : Int))
    (c10 : (12 : Int) ≤ l1_7.toInt) :
    ORn (G.2.2.1 (F a 0)) (G_7.2.2.1 (F a 1)) ((G_7.1 a 2).toInt) (fun i => rkO G (G.2.2.1 (F a 0) i)) 12 := by
  have e : l1_7.toInt.toNat = 12 := by omega
  rw [e] at po
  exact po
theorem v_X0_arrange_35_2 {F : Nat → Nat → Nat} (a : Nat) (G : XG) (G_7 : XG)
    (pf : ∀ (i q : Nat), G_7.2.2.1 (F a 1) i = some q → (∃ j : Nat, G.2.2.1 (F a 1) j = some q) ∨ ∃ j : Nat, G.2.2.1 (F a 0) j = some q) :
    ∀ (i q : Nat), G_7.2.2.1 (F a 1) i = some q → (∃ j : Nat, G.2.2.1 (F a 1) j = some q) ∨ ∃ j : Nat, G.2.2.1 (F a 0) j = some q := by
  exact pf
theorem v_X0_arrange_32_3 {K : Nat → Nat} {F : Nat → Nat → Nat} (a : Nat) (G2 : XG) (G : XG) (G_7 : XG) (l1_7 : Int32) (N7 : Nat)
    (ha : K a = 2)
    (hG2 : G2 = dput G a 2 0)
    (hF_7 : XFr [(a, 2)] [] [F a 1] G2 G_7)
    (po : ORn (G.2.2.1 (F a 0)) (G_7.2.2.1 (F a 1)) ((G_7.1 a 2).toInt) (fun i => rkO G (G.2.2.1 (F a 0) i)) (l1_7.toInt).toNat)
    (hR18 : G.2.2.1 (F a 0) (l1_7.toInt).toNat = none)
    (I7_0 : 0 ≤ l1_7.toInt ∧ l1_7.toInt ≤ 12)
    (I7_1 : 0 ≤ ((G_7.1 a 2).toInt) ∧ ((G_7.1 a 2).toInt) ≤ l1_7.toInt)
    (I7_2 : (0 : Int) ≤ l1_7.toInt)
    (hm7 : 2147483648 - l1_7.toInt < (((N7) + 1 : Nat) : Int))
    (c10 : ¬ ((12 : Int) ≤ l1_7.toInt)) :
    ORn (G.2.2.1 (F a 0)) (G_7.2.2.1 (F a 1)) ((G_7.1 a 2).toInt) (fun i => rkO G (G.2.2.1 (F a 0) i)) (l1_7.toInt + 1).toNat := by
  have e : (l1_7.toInt + 1).toNat = l1_7.toInt.toNat + 1 := by omega
  rw [e]
  first
    | exact po.skip hR18
    | (refine po.step hR18 (v := (G.1 q18 8).toInt) (by show rkO G (G.2.2.1 (F a 0) _) = _; rw [hR18]; rfl) (fun j hj => ?_) t26 oq26
       show rkO G_7 (G_7.2.2.1 (F a 1) j) = rkO G (G.2.2.1 (F a 0) _)
       rw [po.2 j (by have := po.1; omega)]
       exact (rkO_fr hF_7 (fun b => by simp) _).trans (rkO_d hG2 _))
theorem v_X0_arrange_32_4 {F : Nat → Nat → Nat} (a : Nat) (G : XG) (G_7 : XG) (l1_7 : Int32)
    (pf : ∀ (i q : Nat), G_7.2.2.1 (F a 1) i = some q → (∃ j : Nat, G.2.2.1 (F a 1) j = some q) ∨ ∃ j : Nat, G.2.2.1 (F a 0) j = some q)
    (hR18 : G.2.2.1 (F a 0) (l1_7.toInt).toNat = none) :
    ∀ (i q : Nat), G_7.2.2.1 (F a 1) i = some q → (∃ j : Nat, G.2.2.1 (F a 1) j = some q) ∨ ∃ j : Nat, G.2.2.1 (F a 0) j = some q := by
  first
    | exact pf
    | (intro i q h
       rcases oq26a i q h with e | ⟨j, e⟩
       · subst e; exact Or.inr ⟨_, hR18⟩
       · exact pf j q e)
theorem v_X0_arrange_26_5 {F : Nat → Nat → Nat} (a : Nat) (G : XG) (G_7 : XG) (l1_7 : Int32)
    (po : ORn (G.2.2.1 (F a 0)) (G_7.2.2.1 (F a 1)) ((G_7.1 a 2).toInt) (fun i => rkO G (G.2.2.1 (F a 0) i)) (l1_7.toInt).toNat) :
    ∀ i : Nat, (i : Int) < ((G_7.1 a 2).toInt) → G_7.2.2.1 (F a 1) i ≠ none := by
  exact fun i hi => po.sm i hi
theorem v_X0_arrange_32_6 {K : Nat → Nat} {F : Nat → Nat → Nat} (a : Nat) (q18 : Nat) (G2 : XG) (G : XG) (G_7 : XG) (G26 : XG) (l1_7 : Int32) (N7 : Nat)
    (ha : K a = 2)
    (hG2 : G2 = dput G a 2 0)
    (hF_7 : XFr [(a, 2)] [] [F a 1] G2 G_7)
    (po : ORn (G.2.2.1 (F a 0)) (G_7.2.2.1 (F a 1)) ((G_7.1 a 2).toInt) (fun i => rkO G (G.2.2.1 (F a 0) i)) (l1_7.toInt).toNat)
    (hR18 : G.2.2.1 (F a 0) (l1_7.toInt).toNat = some q18)
    (oq26 : ∀ i : Nat, (i : Int) ≤ ((G_7.1 a 2).toInt) → G26.2.2.1 (F a 1) i = insF (G_7.2.2.1 (F a 1)) (posR (fun j => rkO G_7 (G_7.2.2.1 (F a 1) j)) ((G.1 q18 8).toInt) (((G_7.1 a 2).toInt)).toNat) (some q18) i)
    (I7_0 : 0 ≤ l1_7.toInt ∧ l1_7.toInt ≤ 12)
    (I7_1 : 0 ≤ ((G_7.1 a 2).toInt) ∧ ((G_7.1 a 2).toInt) ≤ l1_7.toInt)
    (I7_2 : (0 : Int) ≤ l1_7.toInt)
    (hm7 : 2147483648 - l1_7.toInt < (((N7) + 1 : Nat) : Int))
    (c10 : ¬ ((12 : Int) ≤ l1_7.toInt))
    (t26 : ((G26.1 a 2).toInt) = ((G_7.1 a 2).toInt) + 1) :
    ORn (G.2.2.1 (F a 0)) (G26.2.2.1 (F a 1)) ((G26.1 a 2).toInt) (fun i => rkO G (G.2.2.1 (F a 0) i)) (l1_7.toInt + 1).toNat := by
  have e : (l1_7.toInt + 1).toNat = l1_7.toInt.toNat + 1 := by omega
  rw [e]
  first
    | exact po.skip hR18
    | (refine po.step hR18 (v := (G.1 q18 8).toInt) (by show rkO G (G.2.2.1 (F a 0) _) = _; rw [hR18]; rfl) (fun j hj => ?_) t26 oq26
       show rkO G_7 (G_7.2.2.1 (F a 1) j) = rkO G (G.2.2.1 (F a 0) _)
       rw [po.2 j (by have := po.1; omega)]
       exact (rkO_fr hF_7 (fun b => by simp) _).trans (rkO_d hG2 _))
theorem v_X0_arrange_32_7 {F : Nat → Nat → Nat} (a : Nat) (q18 : Nat) (G : XG) (G_7 : XG) (G26 : XG) (l1_7 : Int32)
    (pf : ∀ (i q : Nat), G_7.2.2.1 (F a 1) i = some q → (∃ j : Nat, G.2.2.1 (F a 1) j = some q) ∨ ∃ j : Nat, G.2.2.1 (F a 0) j = some q)
    (hR18 : G.2.2.1 (F a 0) (l1_7.toInt).toNat = some q18)
    (oq26a : ∀ (i q : Nat), G26.2.2.1 (F a 1) i = some q → q = q18 ∨ ∃ j : Nat, G_7.2.2.1 (F a 1) j = some q) :
    ∀ (i q : Nat), G26.2.2.1 (F a 1) i = some q → (∃ j : Nat, G.2.2.1 (F a 1) j = some q) ∨ ∃ j : Nat, G.2.2.1 (F a 0) j = some q := by
  first
    | exact pf
    | (intro i q h
       rcases oq26a i q h with e | ⟨j, e⟩
       · subst e; exact Or.inr ⟨_, hR18⟩
       · exact pf j q e)
theorem v_X0_arrange_6_8 {F : Nat → Nat → Nat} (a : Nat) (G2 : XG) (G : XG) :
    ORn (G.2.2.1 (F a 0)) (G2.2.2.1 (F a 1)) (0 : Int) (fun i => rkO G (G.2.2.1 (F a 0) i)) (0 : Int).toNat := by
  exact ⟨rfl, fun i hi => absurd hi (Nat.not_lt_zero i)⟩
theorem v_X0_arrange_6_9 {F : Nat → Nat → Nat} (a : Nat) (G2 : XG) (G : XG)
    (r_G2_F_a_1 : G2.2.2.1 (F a 1) = G.2.2.1 (F a 1)) :
    ∀ (i q : Nat), G2.2.2.1 (F a 1) i = some q → (∃ j : Nat, G.2.2.1 (F a 1) j = some q) ∨ ∃ j : Nat, G.2.2.1 (F a 0) j = some q := by
  intro i q h
  (try rw [r_G2_F_a_1] at h)
  exact Or.inl ⟨i, h⟩
