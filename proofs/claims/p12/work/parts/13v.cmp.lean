theorem v_X1_insert_81_1 {K : Nat → Nat} {F : Nat → Nat → Nat} (a : Nat) (G : XG) (l2_5 : Int32) (p0 : Int32) (N5 : Nat) (k_60 : Int32)
    (ha : K a = 3)
    (so : SO (G.2.1 (F a 2)) ((G.1 a 3).toInt))
    (pa : ∀ i : Nat, l2_5.toInt ≤ (i : Int) → (i : Int) < (G.1 a 3).toInt → p0.toInt < (G.2.1 (F a 2) i).toInt)
    (s0 : 0 ≤ ((G.1 a 3).toInt) ∧ ((G.1 a 3).toInt) ≤ 89)
    (I5_0 : 0 ≤ l2_5.toInt ∧ l2_5.toInt ≤ ((G.1 a 3).toInt))
    (hm5 : l2_5.toInt + 1 < (((N5) + 1 : Nat) : Int))
    (I33_1 : l2_5.toInt = 0 ∨ (aI (G.2.1 (F a 2)) (l2_5.toInt - 1)) ≤ p0.toInt)
    (I60_0 : (k_60.toInt = 1 ∧ 1 ≤ l2_5.toInt ∧ (aI (G.2.1 (F a 2)) (l2_5.toInt - 1)) = p0.toInt) ∨ (k_60.toInt = 0 ∧ (l2_5.toInt = 0 ∨ (aI (G.2.1 (F a 2)) (l2_5.toInt - 1)) < p0.toInt)))
    (c62 : k_60.toInt ≠ 0) :
    SO (G.2.1 (F a 2)) ((G.1 a 3).toInt) := by
  first | (exfalso; omega) | skip
  all_goals (
    first
      | exact so
      | (rw [d_G147_a_3, e146, I88_1]
         have e4 : l2_5.toNatClampNeg = l2_5.toInt.toNat := rfl
         have e5 : l4_88.toInt.toNat = l2_5.toInt.toNat := by omega
         rw [e5] at ps
         have hg := shf_ins (g2 := G147.2.1 (F a 2)) (x := p0) ps (by rw [c_G147_F_a_2, cput_j hG139, e4, if_pos rfl]) (fun j hj => by rw [c_G147_F_a_2, cput_j hG139, e4, if_neg hj])
         exact (SO_ins rfl so (by omega) (by omega) (fun i hi => by
           have e3 : aI (G.2.1 (F a 2)) (l2_5.toInt - 1) = (G.2.1 (F a 2) (l2_5.toInt - 1).toNat).toInt := rfl
           by_cases q : i = (l2_5.toInt - 1).toNat
           · rw [q, ← e3]; omega
           · have := so i (l2_5.toInt - 1).toNat (by omega) (by omega)
             rw [← e3] at this
             omega) (fun i h1 h2 => pa i (by omega) h2) (fun i hi => hg i (by omega))).1))
theorem v_X1_insert_81_2 {K : Nat → Nat} {F : Nat → Nat → Nat} (a : Nat) (G : XG) (l2_5 : Int32) (p0 : Int32) (N5 : Nat) (k_60 : Int32)
    (ha : K a = 3)
    (so : SO (G.2.1 (F a 2)) ((G.1 a 3).toInt))
    (pa : ∀ i : Nat, l2_5.toInt ≤ (i : Int) → (i : Int) < (G.1 a 3).toInt → p0.toInt < (G.2.1 (F a 2) i).toInt)
    (s0 : 0 ≤ ((G.1 a 3).toInt) ∧ ((G.1 a 3).toInt) ≤ 89)
    (I5_0 : 0 ≤ l2_5.toInt ∧ l2_5.toInt ≤ ((G.1 a 3).toInt))
    (hm5 : l2_5.toInt + 1 < (((N5) + 1 : Nat) : Int))
    (I33_1 : l2_5.toInt = 0 ∨ (aI (G.2.1 (F a 2)) (l2_5.toInt - 1)) ≤ p0.toInt)
    (I60_0 : (k_60.toInt = 1 ∧ 1 ≤ l2_5.toInt ∧ (aI (G.2.1 (F a 2)) (l2_5.toInt - 1)) = p0.toInt) ∨ (k_60.toInt = 0 ∧ (l2_5.toInt = 0 ∨ (aI (G.2.1 (F a 2)) (l2_5.toInt - 1)) < p0.toInt)))
    (c62 : k_60.toInt ≠ 0) :
    ∀ y : Int, MB (G.2.1 (F a 2)) ((G.1 a 3).toInt) y ↔ MB (G.2.1 (F a 2)) ((G.1 a 3).toInt) y ∨ y = p0.toInt := by
  first | (exfalso; omega) | skip
  all_goals (
    first
      | (intro y
         have e3 : aI (G.2.1 (F a 2)) (l2_5.toInt - 1) = (G.2.1 (F a 2) (l2_5.toInt - 1).toNat).toInt := rfl
         exact ⟨Or.inl, fun h => h.elim id (fun q => ⟨(l2_5.toInt - 1).toNat, by omega, by rw [← e3]; omega⟩)⟩)
      | (rw [d_G147_a_3, e146, I88_1]
         have e4 : l2_5.toNatClampNeg = l2_5.toInt.toNat := rfl
         have e5 : l4_88.toInt.toNat = l2_5.toInt.toNat := by omega
         rw [e5] at ps
         have hg := shf_ins (g2 := G147.2.1 (F a 2)) (x := p0) ps (by rw [c_G147_F_a_2, cput_j hG139, e4, if_pos rfl]) (fun j hj => by rw [c_G147_F_a_2, cput_j hG139, e4, if_neg hj])
         exact (SO_ins rfl so (by omega) (by omega) (fun i hi => by
           have e3 : aI (G.2.1 (F a 2)) (l2_5.toInt - 1) = (G.2.1 (F a 2) (l2_5.toInt - 1).toNat).toInt := rfl
           by_cases q : i = (l2_5.toInt - 1).toNat
           · rw [q, ← e3]; omega
           · have := so i (l2_5.toInt - 1).toNat (by omega) (by omega)
             rw [← e3] at this
             omega) (fun i h1 h2 => pa i (by omega) h2) (fun i hi => hg i (by omega))).2))
theorem v_X1_insert_81_3 {K : Nat → Nat} {F : Nat → Nat → Nat} (a : Nat) (G : XG) (l2_5 : Int32) (p0 : Int32) (N5 : Nat) (k_60 : Int32)
    (ha : K a = 3)
    (so : SO (G.2.1 (F a 2)) ((G.1 a 3).toInt))
    (pa : ∀ i : Nat, l2_5.toInt ≤ (i : Int) → (i : Int) < (G.1 a 3).toInt → p0.toInt < (G.2.1 (F a 2) i).toInt)
    (s0 : 0 ≤ ((G.1 a 3).toInt) ∧ ((G.1 a 3).toInt) ≤ 89)
    (I5_0 : 0 ≤ l2_5.toInt ∧ l2_5.toInt ≤ ((G.1 a 3).toInt))
    (hm5 : l2_5.toInt + 1 < (((N5) + 1 : Nat) : Int))
    (I33_1 : l2_5.toInt = 0 ∨ (aI (G.2.1 (F a 2)) (l2_5.toInt - 1)) ≤ p0.toInt)
    (I60_0 : (k_60.toInt = 1 ∧ 1 ≤ l2_5.toInt ∧ (aI (G.2.1 (F a 2)) (l2_5.toInt - 1)) = p0.toInt) ∨ (k_60.toInt = 0 ∧ (l2_5.toInt = 0 ∨ (aI (G.2.1 (F a 2)) (l2_5.toInt - 1)) < p0.toInt)))
    (c62 : ¬ (k_60.toInt ≠ 0))
    (c69 : ((G.1 a 3).toInt) < 0) :
    SO (G.2.1 (F a 2)) ((G.1 a 3).toInt) := by
  first | (exfalso; omega) | skip
  all_goals (
    first
      | exact so
      | (rw [d_G147_a_3, e146, I88_1]
         have e4 : l2_5.toNatClampNeg = l2_5.toInt.toNat := rfl
         have e5 : l4_88.toInt.toNat = l2_5.toInt.toNat := by omega
         rw [e5] at ps
         have hg := shf_ins (g2 := G147.2.1 (F a 2)) (x := p0) ps (by rw [c_G147_F_a_2, cput_j hG139, e4, if_pos rfl]) (fun j hj => by rw [c_G147_F_a_2, cput_j hG139, e4, if_neg hj])
         exact (SO_ins rfl so (by omega) (by omega) (fun i hi => by
           have e3 : aI (G.2.1 (F a 2)) (l2_5.toInt - 1) = (G.2.1 (F a 2) (l2_5.toInt - 1).toNat).toInt := rfl
           by_cases q : i = (l2_5.toInt - 1).toNat
           · rw [q, ← e3]; omega
           · have := so i (l2_5.toInt - 1).toNat (by omega) (by omega)
             rw [← e3] at this
             omega) (fun i h1 h2 => pa i (by omega) h2) (fun i hi => hg i (by omega))).1))
theorem v_X1_insert_81_4 {K : Nat → Nat} {F : Nat → Nat → Nat} (a : Nat) (G : XG) (l2_5 : Int32) (p0 : Int32) (N5 : Nat) (k_60 : Int32)
    (ha : K a = 3)
    (so : SO (G.2.1 (F a 2)) ((G.1 a 3).toInt))
    (pa : ∀ i : Nat, l2_5.toInt ≤ (i : Int) → (i : Int) < (G.1 a 3).toInt → p0.toInt < (G.2.1 (F a 2) i).toInt)
    (s0 : 0 ≤ ((G.1 a 3).toInt) ∧ ((G.1 a 3).toInt) ≤ 89)
    (I5_0 : 0 ≤ l2_5.toInt ∧ l2_5.toInt ≤ ((G.1 a 3).toInt))
    (hm5 : l2_5.toInt + 1 < (((N5) + 1 : Nat) : Int))
    (I33_1 : l2_5.toInt = 0 ∨ (aI (G.2.1 (F a 2)) (l2_5.toInt - 1)) ≤ p0.toInt)
    (I60_0 : (k_60.toInt = 1 ∧ 1 ≤ l2_5.toInt ∧ (aI (G.2.1 (F a 2)) (l2_5.toInt - 1)) = p0.toInt) ∨ (k_60.toInt = 0 ∧ (l2_5.toInt = 0 ∨ (aI (G.2.1 (F a 2)) (l2_5.toInt - 1)) < p0.toInt)))
    (c62 : ¬ (k_60.toInt ≠ 0))
    (c69 : ((G.1 a 3).toInt) < 0) :
    ∀ y : Int, MB (G.2.1 (F a 2)) ((G.1 a 3).toInt) y ↔ MB (G.2.1 (F a 2)) ((G.1 a 3).toInt) y ∨ y = p0.toInt := by
  first | (exfalso; omega) | skip
  all_goals (
    first
      | (intro y
         have e3 : aI (G.2.1 (F a 2)) (l2_5.toInt - 1) = (G.2.1 (F a 2) (l2_5.toInt - 1).toNat).toInt := rfl
         exact ⟨Or.inl, fun h => h.elim id (fun q => ⟨(l2_5.toInt - 1).toNat, by omega, by rw [← e3]; omega⟩)⟩)
      | (rw [d_G147_a_3, e146, I88_1]
         have e4 : l2_5.toNatClampNeg = l2_5.toInt.toNat := rfl
         have e5 : l4_88.toInt.toNat = l2_5.toInt.toNat := by omega
         rw [e5] at ps
         have hg := shf_ins (g2 := G147.2.1 (F a 2)) (x := p0) ps (by rw [c_G147_F_a_2, cput_j hG139, e4, if_pos rfl]) (fun j hj => by rw [c_G147_F_a_2, cput_j hG139, e4, if_neg hj])
         exact (SO_ins rfl so (by omega) (by omega) (fun i hi => by
           have e3 : aI (G.2.1 (F a 2)) (l2_5.toInt - 1) = (G.2.1 (F a 2) (l2_5.toInt - 1).toNat).toInt := rfl
           by_cases q : i = (l2_5.toInt - 1).toNat
           · rw [q, ← e3]; omega
           · have := so i (l2_5.toInt - 1).toNat (by omega) (by omega)
             rw [← e3] at this
             omega) (fun i h1 h2 => pa i (by omega) h2) (fun i hi => hg i (by omega))).2))
theorem v_X1_insert_150_5 {K : Nat → Nat} {F : Nat → Nat → Nat} (a : Nat) (G : XG) (G_88 : XG) (l2_5 : Int32) (p0 : Int32) (l4_88 : Int32) (N5 : Nat) (k_60 : Int32) (N88 : Nat)
    (ha : K a = 3)
    (so : SO (G.2.1 (F a 2)) ((G.1 a 3).toInt))
    (pa : ∀ i : Nat, l2_5.toInt ≤ (i : Int) → (i : Int) < (G.1 a 3).toInt → p0.toInt < (G.2.1 (F a 2) i).toInt)
    (ps : shf (G.2.1 (F a 2)) (G_88.2.1 (F a 2)) (l4_88.toInt).toNat ((G.1 a 3).toInt).toNat)
    (s0 : 0 ≤ ((G.1 a 3).toInt) ∧ ((G.1 a 3).toInt) ≤ 89)
    (I5_0 : 0 ≤ l2_5.toInt ∧ l2_5.toInt ≤ ((G.1 a 3).toInt))
    (hm5 : l2_5.toInt + 1 < (((N5) + 1 : Nat) : Int))
    (I33_1 : l2_5.toInt = 0 ∨ (aI (G.2.1 (F a 2)) (l2_5.toInt - 1)) ≤ p0.toInt)
    (I60_0 : (k_60.toInt = 1 ∧ 1 ≤ l2_5.toInt ∧ (aI (G.2.1 (F a 2)) (l2_5.toInt - 1)) = p0.toInt) ∨ (k_60.toInt = 0 ∧ (l2_5.toInt = 0 ∨ (aI (G.2.1 (F a 2)) (l2_5.toInt - 1)) < p0.toInt)))
    (c62 : ¬ (k_60.toInt ≠ 0))
    (c69 : ¬ (((G.1 a 3).toInt) < 0))
    (c78 : ((G.1 a 3).toInt) < (90 : Int))
    (I88_0 : l2_5.toInt ≤ l4_88.toInt ∧ l4_88.toInt ≤ ((G.1 a 3).toInt))
    (I88_1 : ((G_88.1 a 3).toInt) = ((G.1 a 3).toInt))
    (hm88 : l4_88.toInt + 1 < (((N88) + 1 : Nat) : Int))
    (c91 : l4_88.toInt ≤ l2_5.toInt)
    (c124 : l2_5.toInt < 0) :
    SO (G_88.2.1 (F a 2)) ((G_88.1 a 3).toInt) := by
  first | (exfalso; omega) | skip
  all_goals (
    first
      | exact so
      | (rw [d_G147_a_3, e146, I88_1]
         have e4 : l2_5.toNatClampNeg = l2_5.toInt.toNat := rfl
         have e5 : l4_88.toInt.toNat = l2_5.toInt.toNat := by omega
         rw [e5] at ps
         have hg := shf_ins (g2 := G147.2.1 (F a 2)) (x := p0) ps (by rw [c_G147_F_a_2, cput_j hG139, e4, if_pos rfl]) (fun j hj => by rw [c_G147_F_a_2, cput_j hG139, e4, if_neg hj])
         exact (SO_ins rfl so (by omega) (by omega) (fun i hi => by
           have e3 : aI (G.2.1 (F a 2)) (l2_5.toInt - 1) = (G.2.1 (F a 2) (l2_5.toInt - 1).toNat).toInt := rfl
           by_cases q : i = (l2_5.toInt - 1).toNat
           · rw [q, ← e3]; omega
           · have := so i (l2_5.toInt - 1).toNat (by omega) (by omega)
             rw [← e3] at this
             omega) (fun i h1 h2 => pa i (by omega) h2) (fun i hi => hg i (by omega))).1))
theorem v_X1_insert_150_6 {K : Nat → Nat} {F : Nat → Nat → Nat} (a : Nat) (G : XG) (G_88 : XG) (l2_5 : Int32) (p0 : Int32) (l4_88 : Int32) (N5 : Nat) (k_60 : Int32) (N88 : Nat)
    (ha : K a = 3)
    (so : SO (G.2.1 (F a 2)) ((G.1 a 3).toInt))
    (pa : ∀ i : Nat, l2_5.toInt ≤ (i : Int) → (i : Int) < (G.1 a 3).toInt → p0.toInt < (G.2.1 (F a 2) i).toInt)
    (ps : shf (G.2.1 (F a 2)) (G_88.2.1 (F a 2)) (l4_88.toInt).toNat ((G.1 a 3).toInt).toNat)
    (s0 : 0 ≤ ((G.1 a 3).toInt) ∧ ((G.1 a 3).toInt) ≤ 89)
    (I5_0 : 0 ≤ l2_5.toInt ∧ l2_5.toInt ≤ ((G.1 a 3).toInt))
    (hm5 : l2_5.toInt + 1 < (((N5) + 1 : Nat) : Int))
    (I33_1 : l2_5.toInt = 0 ∨ (aI (G.2.1 (F a 2)) (l2_5.toInt - 1)) ≤ p0.toInt)
    (I60_0 : (k_60.toInt = 1 ∧ 1 ≤ l2_5.toInt ∧ (aI (G.2.1 (F a 2)) (l2_5.toInt - 1)) = p0.toInt) ∨ (k_60.toInt = 0 ∧ (l2_5.toInt = 0 ∨ (aI (G.2.1 (F a 2)) (l2_5.toInt - 1)) < p0.toInt)))
    (c62 : ¬ (k_60.toInt ≠ 0))
    (c69 : ¬ (((G.1 a 3).toInt) < 0))
    (c78 : ((G.1 a 3).toInt) < (90 : Int))
    (I88_0 : l2_5.toInt ≤ l4_88.toInt ∧ l4_88.toInt ≤ ((G.1 a 3).toInt))
    (I88_1 : ((G_88.1 a 3).toInt) = ((G.1 a 3).toInt))
    (hm88 : l4_88.toInt + 1 < (((N88) + 1 : Nat) : Int))
    (c91 : l4_88.toInt ≤ l2_5.toInt)
    (c124 : l2_5.toInt < 0) :
    ∀ y : Int, MB (G_88.2.1 (F a 2)) ((G_88.1 a 3).toInt) y ↔ MB (G.2.1 (F a 2)) ((G.1 a 3).toInt) y ∨ y = p0.toInt := by
  first | (exfalso; omega) | skip
  all_goals (
    first
      | (intro y
         have e3 : aI (G.2.1 (F a 2)) (l2_5.toInt - 1) = (G.2.1 (F a 2) (l2_5.toInt - 1).toNat).toInt := rfl
         exact ⟨Or.inl, fun h => h.elim id (fun q => ⟨(l2_5.toInt - 1).toNat, by omega, by rw [← e3]; omega⟩)⟩)
      | (rw [d_G147_a_3, e146, I88_1]
         have e4 : l2_5.toNatClampNeg = l2_5.toInt.toNat := rfl
         have e5 : l4_88.toInt.toNat = l2_5.toInt.toNat := by omega
         rw [e5] at ps
         have hg := shf_ins (g2 := G147.2.1 (F a 2)) (x := p0) ps (by rw [c_G147_F_a_2, cput_j hG139, e4, if_pos rfl]) (fun j hj => by rw [c_G147_F_a_2, cput_j hG139, e4, if_neg hj])
         exact (SO_ins rfl so (by omega) (by omega) (fun i hi => by
           have e3 : aI (G.2.1 (F a 2)) (l2_5.toInt - 1) = (G.2.1 (F a 2) (l2_5.toInt - 1).toNat).toInt := rfl
           by_cases q : i = (l2_5.toInt - 1).toNat
           · rw [q, ← e3]; omega
           · have := so i (l2_5.toInt - 1).toNat (by omega) (by omega)
             rw [← e3] at this
             omega) (fun i h1 h2 => pa i (by omega) h2) (fun i hi => hg i (by omega))).2))
theorem v_X1_insert_150_7 {K : Nat → Nat} {F : Nat → Nat → Nat} (a : Nat) (G : XG) (G_88 : XG) (l2_5 : Int32) (p0 : Int32) (l4_88 : Int32) (N5 : Nat) (k_60 : Int32) (N88 : Nat)
    (ha : K a = 3)
    (so : SO (G.2.1 (F a 2)) ((G.1 a 3).toInt))
    (pa : ∀ i : Nat, l2_5.toInt ≤ (i : Int) → (i : Int) < (G.1 a 3).toInt → p0.toInt < (G.2.1 (F a 2) i).toInt)
    (ps : shf (G.2.1 (F a 2)) (G_88.2.1 (F a 2)) (l4_88.toInt).toNat ((G.1 a 3).toInt).toNat)
    (s0 : 0 ≤ ((G.1 a 3).toInt) ∧ ((G.1 a 3).toInt) ≤ 89)
    (I5_0 : 0 ≤ l2_5.toInt ∧ l2_5.toInt ≤ ((G.1 a 3).toInt))
    (hm5 : l2_5.toInt + 1 < (((N5) + 1 : Nat) : Int))
    (I33_1 : l2_5.toInt = 0 ∨ (aI (G.2.1 (F a 2)) (l2_5.toInt - 1)) ≤ p0.toInt)
    (I60_0 : (k_60.toInt = 1 ∧ 1 ≤ l2_5.toInt ∧ (aI (G.2.1 (F a 2)) (l2_5.toInt - 1)) = p0.toInt) ∨ (k_60.toInt = 0 ∧ (l2_5.toInt = 0 ∨ (aI (G.2.1 (F a 2)) (l2_5.toInt - 1)) < p0.toInt)))
    (c62 : ¬ (k_60.toInt ≠ 0))
    (c69 : ¬ (((G.1 a 3).toInt) < 0))
    (c78 : ((G.1 a 3).toInt) < (90 : Int))
    (I88_0 : l2_5.toInt ≤ l4_88.toInt ∧ l4_88.toInt ≤ ((G.1 a 3).toInt))
    (I88_1 : ((G_88.1 a 3).toInt) = ((G.1 a 3).toInt))
    (hm88 : l4_88.toInt + 1 < (((N88) + 1 : Nat) : Int))
    (c91 : l4_88.toInt ≤ l2_5.toInt)
    (c124 : ¬ (l2_5.toInt < 0))
    (c130 : (90 : Int) ≤ l2_5.toInt) :
    SO (G_88.2.1 (F a 2)) ((G_88.1 a 3).toInt) := by
  first | (exfalso; omega) | skip
  all_goals (
    first
      | exact so
      | (rw [d_G147_a_3, e146, I88_1]
         have e4 : l2_5.toNatClampNeg = l2_5.toInt.toNat := rfl
         have e5 : l4_88.toInt.toNat = l2_5.toInt.toNat := by omega
         rw [e5] at ps
         have hg := shf_ins (g2 := G147.2.1 (F a 2)) (x := p0) ps (by rw [c_G147_F_a_2, cput_j hG139, e4, if_pos rfl]) (fun j hj => by rw [c_G147_F_a_2, cput_j hG139, e4, if_neg hj])
         exact (SO_ins rfl so (by omega) (by omega) (fun i hi => by
           have e3 : aI (G.2.1 (F a 2)) (l2_5.toInt - 1) = (G.2.1 (F a 2) (l2_5.toInt - 1).toNat).toInt := rfl
           by_cases q : i = (l2_5.toInt - 1).toNat
           · rw [q, ← e3]; omega
           · have := so i (l2_5.toInt - 1).toNat (by omega) (by omega)
             rw [← e3] at this
             omega) (fun i h1 h2 => pa i (by omega) h2) (fun i hi => hg i (by omega))).1))
theorem v_X1_insert_150_8 {K : Nat → Nat} {F : Nat → Nat → Nat} (a : Nat) (G : XG) (G_88 : XG) (l2_5 : Int32) (p0 : Int32) (l4_88 : Int32) (N5 : Nat) (k_60 : Int32) (N88 : Nat)
    (ha : K a = 3)
    (so : SO (G.2.1 (F a 2)) ((G.1 a 3).toInt))
    (pa : ∀ i : Nat, l2_5.toInt ≤ (i : Int) → (i : Int) < (G.1 a 3).toInt → p0.toInt < (G.2.1 (F a 2) i).toInt)
    (ps : shf (G.2.1 (F a 2)) (G_88.2.1 (F a 2)) (l4_88.toInt).toNat ((G.1 a 3).toInt).toNat)
    (s0 : 0 ≤ ((G.1 a 3).toInt) ∧ ((G.1 a 3).toInt) ≤ 89)
    (I5_0 : 0 ≤ l2_5.toInt ∧ l2_5.toInt ≤ ((G.1 a 3).toInt))
    (hm5 : l2_5.toInt + 1 < (((N5) + 1 : Nat) : Int))
    (I33_1 : l2_5.toInt = 0 ∨ (aI (G.2.1 (F a 2)) (l2_5.toInt - 1)) ≤ p0.toInt)
    (I60_0 : (k_60.toInt = 1 ∧ 1 ≤ l2_5.toInt ∧ (aI (G.2.1 (F a 2)) (l2_5.toInt - 1)) = p0.toInt) ∨ (k_60.toInt = 0 ∧ (l2_5.toInt = 0 ∨ (aI (G.2.1 (F a 2)) (l2_5.toInt - 1)) < p0.toInt)))
    (c62 : ¬ (k_60.toInt ≠ 0))
    (c69 : ¬ (((G.1 a 3).toInt) < 0))
    (c78 : ((G.1 a 3).toInt) < (90 : Int))
    (I88_0 : l2_5.toInt ≤ l4_88.toInt ∧ l4_88.toInt ≤ ((G.1 a 3).toInt))
    (I88_1 : ((G_88.1 a 3).toInt) = ((G.1 a 3).toInt))
    (hm88 : l4_88.toInt + 1 < (((N88) + 1 : Nat) : Int))
    (c91 : l4_88.toInt ≤ l2_5.toInt)
    (c124 : ¬ (l2_5.toInt < 0))
    (c130 : (90 : Int) ≤ l2_5.toInt) :
    ∀ y : Int, MB (G_88.2.1 (F a 2)) ((G_88.1 a 3).toInt) y ↔ MB (G.2.1 (F a 2)) ((G.1 a 3).toInt) y ∨ y = p0.toInt := by
  first | (exfalso; omega) | skip
  all_goals (
    first
      | (intro y
         have e3 : aI (G.2.1 (F a 2)) (l2_5.toInt - 1) = (G.2.1 (F a 2) (l2_5.toInt - 1).toNat).toInt := rfl
         exact ⟨Or.inl, fun h => h.elim id (fun q => ⟨(l2_5.toInt - 1).toNat, by omega, by rw [← e3]; omega⟩)⟩)
      | (rw [d_G147_a_3, e146, I88_1]
         have e4 : l2_5.toNatClampNeg = l2_5.toInt.toNat := rfl
         have e5 : l4_88.toInt.toNat = l2_5.toInt.toNat := by omega
         rw [e5] at ps
         have hg := shf_ins (g2 := G147.2.1 (F a 2)) (x := p0) ps (by rw [c_G147_F_a_2, cput_j hG139, e4, if_pos rfl]) (fun j hj => by rw [c_G147_F_a_2, cput_j hG139, e4, if_neg hj])
         exact (SO_ins rfl so (by omega) (by omega) (fun i hi => by
           have e3 : aI (G.2.1 (F a 2)) (l2_5.toInt - 1) = (G.2.1 (F a 2) (l2_5.toInt - 1).toNat).toInt := rfl
           by_cases q : i = (l2_5.toInt - 1).toNat
           · rw [q, ← e3]; omega
           · have := so i (l2_5.toInt - 1).toNat (by omega) (by omega)
             rw [← e3] at this
             omega) (fun i h1 h2 => pa i (by omega) h2) (fun i hi => hg i (by omega))).2))
theorem v_X1_insert_150_9 {K : Nat → Nat} {F : Nat → Nat → Nat} (a : Nat) (G : XG) (G_88 : XG) (G139 : XG) (l2_5 : Int32) (p0 : Int32) (G147 : XG) (x146 : Int32) (l4_88 : Int32) (N5 : Nat) (k_60 : Int32) (N88 : Nat)
    (ha : K a = 3)
    (hG139 : G139 = cput G_88 (F a 2) l2_5.toNatClampNeg p0)
    (so : SO (G.2.1 (F a 2)) ((G.1 a 3).toInt))
    (pa : ∀ i : Nat, l2_5.toInt ≤ (i : Int) → (i : Int) < (G.1 a 3).toInt → p0.toInt < (G.2.1 (F a 2) i).toInt)
    (ps : shf (G.2.1 (F a 2)) (G_88.2.1 (F a 2)) (l4_88.toInt).toNat ((G.1 a 3).toInt).toNat)
    (e146 : x146.toInt = (((G_88.1 a 3).toInt) + (1 : Int)))
    (s0 : 0 ≤ ((G.1 a 3).toInt) ∧ ((G.1 a 3).toInt) ≤ 89)
    (I5_0 : 0 ≤ l2_5.toInt ∧ l2_5.toInt ≤ ((G.1 a 3).toInt))
    (hm5 : l2_5.toInt + 1 < (((N5) + 1 : Nat) : Int))
    (I33_1 : l2_5.toInt = 0 ∨ (aI (G.2.1 (F a 2)) (l2_5.toInt - 1)) ≤ p0.toInt)
    (I60_0 : (k_60.toInt = 1 ∧ 1 ≤ l2_5.toInt ∧ (aI (G.2.1 (F a 2)) (l2_5.toInt - 1)) = p0.toInt) ∨ (k_60.toInt = 0 ∧ (l2_5.toInt = 0 ∨ (aI (G.2.1 (F a 2)) (l2_5.toInt - 1)) < p0.toInt)))
    (c62 : ¬ (k_60.toInt ≠ 0))
    (c69 : ¬ (((G.1 a 3).toInt) < 0))
    (c78 : ((G.1 a 3).toInt) < (90 : Int))
    (I88_0 : l2_5.toInt ≤ l4_88.toInt ∧ l4_88.toInt ≤ ((G.1 a 3).toInt))
    (I88_1 : ((G_88.1 a 3).toInt) = ((G.1 a 3).toInt))
    (hm88 : l4_88.toInt + 1 < (((N88) + 1 : Nat) : Int))
    (c91 : l4_88.toInt ≤ l2_5.toInt)
    (c124 : ¬ (l2_5.toInt < 0))
    (c130 : ¬ ((90 : Int) ≤ l2_5.toInt))
    (c_G147_F_a_2 : G147.2.1 (F a 2) = G139.2.1 (F a 2))
    (d_G147_a_3 : G147.1 a 3 = x146) :
    SO (G147.2.1 (F a 2)) ((G147.1 a 3).toInt) := by
  first | (exfalso; omega) | skip
  all_goals (
    first
      | exact so
      | (rw [d_G147_a_3, e146, I88_1]
         have e4 : l2_5.toNatClampNeg = l2_5.toInt.toNat := rfl
         have e5 : l4_88.toInt.toNat = l2_5.toInt.toNat := by omega
         rw [e5] at ps
         have hg := shf_ins (g2 := G147.2.1 (F a 2)) (x := p0) ps (by rw [c_G147_F_a_2, cput_j hG139, e4, if_pos rfl]) (fun j hj => by rw [c_G147_F_a_2, cput_j hG139, e4, if_neg hj])
         exact (SO_ins rfl so (by omega) (by omega) (fun i hi => by
           have e3 : aI (G.2.1 (F a 2)) (l2_5.toInt - 1) = (G.2.1 (F a 2) (l2_5.toInt - 1).toNat).toInt := rfl
           by_cases q : i = (l2_5.toInt - 1).toNat
           · rw [q, ← e3]; omega
           · have := so i (l2_5.toInt - 1).toNat (by omega) (by omega)
             rw [← e3] at this
             omega) (fun i h1 h2 => pa i (by omega) h2) (fun i hi => hg i (by omega))).1))
theorem v_X1_insert_150_10 {K : Nat → Nat} {F : Nat → Nat → Nat} (a : Nat) (G : XG) (G_88 : XG) (G139 : XG) (l2_5 : Int32) (p0 : Int32) (G147 : XG) (x146 : Int32) (l4_88 : Int32) (N5 : Nat) (k_60 : Int32) (N88 : Nat)
    (ha : K a = 3)
    (hG139 : G139 = cput G_88 (F a 2) l2_5.toNatClampNeg p0)
    (so : SO (G.2.1 (F a 2)) ((G.1 a 3).toInt))
    (pa : ∀ i : Nat, l2_5.toInt ≤ (i : Int) → (i : Int) < (G.1 a 3).toInt → p0.toInt < (G.2.1 (F a 2) i).toInt)
    (ps : shf (G.2.1 (F a 2)) (G_88.2.1 (F a 2)) (l4_88.toInt).toNat ((G.1 a 3).toInt).toNat)
    (e146 : x146.toInt = (((G_88.1 a 3).toInt) + (1 : Int)))
    (s0 : 0 ≤ ((G.1 a 3).toInt) ∧ ((G.1 a 3).toInt) ≤ 89)
    (I5_0 : 0 ≤ l2_5.toInt ∧ l2_5.toInt ≤ ((G.1 a 3).toInt))
    (hm5 : l2_5.toInt + 1 < (((N5) + 1 : Nat) : Int))
    (I33_1 : l2_5.toInt = 0 ∨ (aI (G.2.1 (F a 2)) (l2_5.toInt - 1)) ≤ p0.toInt)
    (I60_0 : (k_60.toInt = 1 ∧ 1 ≤ l2_5.toInt ∧ (aI (G.2.1 (F a 2)) (l2_5.toInt - 1)) = p0.toInt) ∨ (k_60.toInt = 0 ∧ (l2_5.toInt = 0 ∨ (aI (G.2.1 (F a 2)) (l2_5.toInt - 1)) < p0.toInt)))
    (c62 : ¬ (k_60.toInt ≠ 0))
    (c69 : ¬ (((G.1 a 3).toInt) < 0))
    (c78 : ((G.1 a 3).toInt) < (90 : Int))
    (I88_0 : l2_5.toInt ≤ l4_88.toInt ∧ l4_88.toInt ≤ ((G.1 a 3).toInt))
    (I88_1 : ((G_88.1 a 3).toInt) = ((G.1 a 3).toInt))
    (hm88 : l4_88.toInt + 1 < (((N88) + 1 : Nat) : Int))
    (c91 : l4_88.toInt ≤ l2_5.toInt)
    (c124 : ¬ (l2_5.toInt < 0))
    (c130 : ¬ ((90 : Int) ≤ l2_5.toInt))
    (c_G147_F_a_2 : G147.2.1 (F a 2) = G139.2.1 (F a 2))
    (d_G147_a_3 : G147.1 a 3 = x146) :
    ∀ y : Int, MB (G147.2.1 (F a 2)) ((G147.1 a 3).toInt) y ↔ MB (G.2.1 (F a 2)) ((G.1 a 3).toInt) y ∨ y = p0.toInt := by
  first | (exfalso; omega) | skip
  all_goals (
    first
      | (intro y
         have e3 : aI (G.2.1 (F a 2)) (l2_5.toInt - 1) = (G.2.1 (F a 2) (l2_5.toInt - 1).toNat).toInt := rfl
         exact ⟨Or.inl, fun h => h.elim id (fun q => ⟨(l2_5.toInt - 1).toNat, by omega, by rw [← e3]; omega⟩)⟩)
      | (rw [d_G147_a_3, e146, I88_1]
         have e4 : l2_5.toNatClampNeg = l2_5.toInt.toNat := rfl
         have e5 : l4_88.toInt.toNat = l2_5.toInt.toNat := by omega
         rw [e5] at ps
         have hg := shf_ins (g2 := G147.2.1 (F a 2)) (x := p0) ps (by rw [c_G147_F_a_2, cput_j hG139, e4, if_pos rfl]) (fun j hj => by rw [c_G147_F_a_2, cput_j hG139, e4, if_neg hj])
         exact (SO_ins rfl so (by omega) (by omega) (fun i hi => by
           have e3 : aI (G.2.1 (F a 2)) (l2_5.toInt - 1) = (G.2.1 (F a 2) (l2_5.toInt - 1).toNat).toInt := rfl
           by_cases q : i = (l2_5.toInt - 1).toNat
           · rw [q, ← e3]; omega
           · have := so i (l2_5.toInt - 1).toNat (by omega) (by omega)
             rw [← e3] at this
             omega) (fun i h1 h2 => pa i (by omega) h2) (fun i hi => hg i (by omega))).2))
theorem v_X1_insert_150_11 {K : Nat → Nat} {F : Nat → Nat → Nat} (a : Nat) (G : XG) (G_88 : XG) (l2_5 : Int32) (p0 : Int32) (l4_88 : Int32) (N5 : Nat) (k_60 : Int32) (N88 : Nat)
    (ha : K a = 3)
    (so : SO (G.2.1 (F a 2)) ((G.1 a 3).toInt))
    (pa : ∀ i : Nat, l2_5.toInt ≤ (i : Int) → (i : Int) < (G.1 a 3).toInt → p0.toInt < (G.2.1 (F a 2) i).toInt)
    (ps : shf (G.2.1 (F a 2)) (G_88.2.1 (F a 2)) (l4_88.toInt).toNat ((G.1 a 3).toInt).toNat)
    (s0 : 0 ≤ ((G.1 a 3).toInt) ∧ ((G.1 a 3).toInt) ≤ 89)
    (I5_0 : 0 ≤ l2_5.toInt ∧ l2_5.toInt ≤ ((G.1 a 3).toInt))
    (hm5 : l2_5.toInt + 1 < (((N5) + 1 : Nat) : Int))
    (I33_1 : l2_5.toInt = 0 ∨ (aI (G.2.1 (F a 2)) (l2_5.toInt - 1)) ≤ p0.toInt)
    (I60_0 : (k_60.toInt = 1 ∧ 1 ≤ l2_5.toInt ∧ (aI (G.2.1 (F a 2)) (l2_5.toInt - 1)) = p0.toInt) ∨ (k_60.toInt = 0 ∧ (l2_5.toInt = 0 ∨ (aI (G.2.1 (F a 2)) (l2_5.toInt - 1)) < p0.toInt)))
    (c62 : ¬ (k_60.toInt ≠ 0))
    (c69 : ¬ (((G.1 a 3).toInt) < 0))
    (c78 : ((G.1 a 3).toInt) < (90 : Int))
    (I88_0 : l2_5.toInt ≤ l4_88.toInt ∧ l4_88.toInt ≤ ((G.1 a 3).toInt))
    (I88_1 : ((G_88.1 a 3).toInt) = ((G.1 a 3).toInt))
    (hm88 : l4_88.toInt + 1 < (((N88) + 1 : Nat) : Int))
    (c91 : ¬ (l4_88.toInt ≤ l2_5.toInt))
    (c98 : (90 : Int) ≤ l4_88.toInt)
    (c124 : l2_5.toInt < 0) :
    SO (G_88.2.1 (F a 2)) ((G_88.1 a 3).toInt) := by
  first | (exfalso; omega) | skip
  all_goals (
    first
      | exact so
      | (rw [d_G147_a_3, e146, I88_1]
         have e4 : l2_5.toNatClampNeg = l2_5.toInt.toNat := rfl
         have e5 : l4_88.toInt.toNat = l2_5.toInt.toNat := by omega
         rw [e5] at ps
         have hg := shf_ins (g2 := G147.2.1 (F a 2)) (x := p0) ps (by rw [c_G147_F_a_2, cput_j hG139, e4, if_pos rfl]) (fun j hj => by rw [c_G147_F_a_2, cput_j hG139, e4, if_neg hj])
         exact (SO_ins rfl so (by omega) (by omega) (fun i hi => by
           have e3 : aI (G.2.1 (F a 2)) (l2_5.toInt - 1) = (G.2.1 (F a 2) (l2_5.toInt - 1).toNat).toInt := rfl
           by_cases q : i = (l2_5.toInt - 1).toNat
           · rw [q, ← e3]; omega
           · have := so i (l2_5.toInt - 1).toNat (by omega) (by omega)
             rw [← e3] at this
             omega) (fun i h1 h2 => pa i (by omega) h2) (fun i hi => hg i (by omega))).1))
theorem v_X1_insert_150_12 {K : Nat → Nat} {F : Nat → Nat → Nat} (a : Nat) (G : XG) (G_88 : XG) (l2_5 : Int32) (p0 : Int32) (l4_88 : Int32) (N5 : Nat) (k_60 : Int32) (N88 : Nat)
    (ha : K a = 3)
    (so : SO (G.2.1 (F a 2)) ((G.1 a 3).toInt))
    (pa : ∀ i : Nat, l2_5.toInt ≤ (i : Int) → (i : Int) < (G.1 a 3).toInt → p0.toInt < (G.2.1 (F a 2) i).toInt)
    (ps : shf (G.2.1 (F a 2)) (G_88.2.1 (F a 2)) (l4_88.toInt).toNat ((G.1 a 3).toInt).toNat)
    (s0 : 0 ≤ ((G.1 a 3).toInt) ∧ ((G.1 a 3).toInt) ≤ 89)
    (I5_0 : 0 ≤ l2_5.toInt ∧ l2_5.toInt ≤ ((G.1 a 3).toInt))
    (hm5 : l2_5.toInt + 1 < (((N5) + 1 : Nat) : Int))
    (I33_1 : l2_5.toInt = 0 ∨ (aI (G.2.1 (F a 2)) (l2_5.toInt - 1)) ≤ p0.toInt)
    (I60_0 : (k_60.toInt = 1 ∧ 1 ≤ l2_5.toInt ∧ (aI (G.2.1 (F a 2)) (l2_5.toInt - 1)) = p0.toInt) ∨ (k_60.toInt = 0 ∧ (l2_5.toInt = 0 ∨ (aI (G.2.1 (F a 2)) (l2_5.toInt - 1)) < p0.toInt)))
    (c62 : ¬ (k_60.toInt ≠ 0))
    (c69 : ¬ (((G.1 a 3).toInt) < 0))
    (c78 : ((G.1 a 3).toInt) < (90 : Int))
    (I88_0 : l2_5.toInt ≤ l4_88.toInt ∧ l4_88.toInt ≤ ((G.1 a 3).toInt))
    (I88_1 : ((G_88.1 a 3).toInt) = ((G.1 a 3).toInt))
    (hm88 : l4_88.toInt + 1 < (((N88) + 1 : Nat) : Int))
    (c91 : ¬ (l4_88.toInt ≤ l2_5.toInt))
    (c98 : (90 : Int) ≤ l4_88.toInt)
    (c124 : l2_5.toInt < 0) :
    ∀ y : Int, MB (G_88.2.1 (F a 2)) ((G_88.1 a 3).toInt) y ↔ MB (G.2.1 (F a 2)) ((G.1 a 3).toInt) y ∨ y = p0.toInt := by
  first | (exfalso; omega) | skip
  all_goals (
    first
      | (intro y
         have e3 : aI (G.2.1 (F a 2)) (l2_5.toInt - 1) = (G.2.1 (F a 2) (l2_5.toInt - 1).toNat).toInt := rfl
         exact ⟨Or.inl, fun h => h.elim id (fun q => ⟨(l2_5.toInt - 1).toNat, by omega, by rw [← e3]; omega⟩)⟩)
      | (rw [d_G147_a_3, e146, I88_1]
         have e4 : l2_5.toNatClampNeg = l2_5.toInt.toNat := rfl
         have e5 : l4_88.toInt.toNat = l2_5.toInt.toNat := by omega
         rw [e5] at ps
         have hg := shf_ins (g2 := G147.2.1 (F a 2)) (x := p0) ps (by rw [c_G147_F_a_2, cput_j hG139, e4, if_pos rfl]) (fun j hj => by rw [c_G147_F_a_2, cput_j hG139, e4, if_neg hj])
         exact (SO_ins rfl so (by omega) (by omega) (fun i hi => by
           have e3 : aI (G.2.1 (F a 2)) (l2_5.toInt - 1) = (G.2.1 (F a 2) (l2_5.toInt - 1).toNat).toInt := rfl
           by_cases q : i = (l2_5.toInt - 1).toNat
           · rw [q, ← e3]; omega
           · have := so i (l2_5.toInt - 1).toNat (by omega) (by omega)
             rw [← e3] at this
             omega) (fun i h1 h2 => pa i (by omega) h2) (fun i hi => hg i (by omega))).2))
theorem v_X1_insert_150_13 {K : Nat → Nat} {F : Nat → Nat → Nat} (a : Nat) (G : XG) (G_88 : XG) (l2_5 : Int32) (p0 : Int32) (l4_88 : Int32) (N5 : Nat) (k_60 : Int32) (N88 : Nat)
    (ha : K a = 3)
    (so : SO (G.2.1 (F a 2)) ((G.1 a 3).toInt))
    (pa : ∀ i : Nat, l2_5.toInt ≤ (i : Int) → (i : Int) < (G.1 a 3).toInt → p0.toInt < (G.2.1 (F a 2) i).toInt)
    (ps : shf (G.2.1 (F a 2)) (G_88.2.1 (F a 2)) (l4_88.toInt).toNat ((G.1 a 3).toInt).toNat)
    (s0 : 0 ≤ ((G.1 a 3).toInt) ∧ ((G.1 a 3).toInt) ≤ 89)
    (I5_0 : 0 ≤ l2_5.toInt ∧ l2_5.toInt ≤ ((G.1 a 3).toInt))
    (hm5 : l2_5.toInt + 1 < (((N5) + 1 : Nat) : Int))
    (I33_1 : l2_5.toInt = 0 ∨ (aI (G.2.1 (F a 2)) (l2_5.toInt - 1)) ≤ p0.toInt)
    (I60_0 : (k_60.toInt = 1 ∧ 1 ≤ l2_5.toInt ∧ (aI (G.2.1 (F a 2)) (l2_5.toInt - 1)) = p0.toInt) ∨ (k_60.toInt = 0 ∧ (l2_5.toInt = 0 ∨ (aI (G.2.1 (F a 2)) (l2_5.toInt - 1)) < p0.toInt)))
    (c62 : ¬ (k_60.toInt ≠ 0))
    (c69 : ¬ (((G.1 a 3).toInt) < 0))
    (c78 : ((G.1 a 3).toInt) < (90 : Int))
    (I88_0 : l2_5.toInt ≤ l4_88.toInt ∧ l4_88.toInt ≤ ((G.1 a 3).toInt))
    (I88_1 : ((G_88.1 a 3).toInt) = ((G.1 a 3).toInt))
    (hm88 : l4_88.toInt + 1 < (((N88) + 1 : Nat) : Int))
    (c91 : ¬ (l4_88.toInt ≤ l2_5.toInt))
    (c98 : (90 : Int) ≤ l4_88.toInt)
    (c124 : ¬ (l2_5.toInt < 0))
    (c130 : (90 : Int) ≤ l2_5.toInt) :
    SO (G_88.2.1 (F a 2)) ((G_88.1 a 3).toInt) := by
  first | (exfalso; omega) | skip
  all_goals (
    first
      | exact so
      | (rw [d_G147_a_3, e146, I88_1]
         have e4 : l2_5.toNatClampNeg = l2_5.toInt.toNat := rfl
         have e5 : l4_88.toInt.toNat = l2_5.toInt.toNat := by omega
         rw [e5] at ps
         have hg := shf_ins (g2 := G147.2.1 (F a 2)) (x := p0) ps (by rw [c_G147_F_a_2, cput_j hG139, e4, if_pos rfl]) (fun j hj => by rw [c_G147_F_a_2, cput_j hG139, e4, if_neg hj])
         exact (SO_ins rfl so (by omega) (by omega) (fun i hi => by
           have e3 : aI (G.2.1 (F a 2)) (l2_5.toInt - 1) = (G.2.1 (F a 2) (l2_5.toInt - 1).toNat).toInt := rfl
           by_cases q : i = (l2_5.toInt - 1).toNat
           · rw [q, ← e3]; omega
           · have := so i (l2_5.toInt - 1).toNat (by omega) (by omega)
             rw [← e3] at this
             omega) (fun i h1 h2 => pa i (by omega) h2) (fun i hi => hg i (by omega))).1))
theorem v_X1_insert_150_14 {K : Nat → Nat} {F : Nat → Nat → Nat} (a : Nat) (G : XG) (G_88 : XG) (l2_5 : Int32) (p0 : Int32) (l4_88 : Int32) (N5 : Nat) (k_60 : Int32) (N88 : Nat)
    (ha : K a = 3)
    (so : SO (G.2.1 (F a 2)) ((G.1 a 3).toInt))
    (pa : ∀ i : Nat, l2_5.toInt ≤ (i : Int) → (i : Int) < (G.1 a 3).toInt → p0.toInt < (G.2.1 (F a 2) i).toInt)
    (ps : shf (G.2.1 (F a 2)) (G_88.2.1 (F a 2)) (l4_88.toInt).toNat ((G.1 a 3).toInt).toNat)
    (s0 : 0 ≤ ((G.1 a 3).toInt) ∧ ((G.1 a 3).toInt) ≤ 89)
    (I5_0 : 0 ≤ l2_5.toInt ∧ l2_5.toInt ≤ ((G.1 a 3).toInt))
    (hm5 : l2_5.toInt + 1 < (((N5) + 1 : Nat) : Int))
    (I33_1 : l2_5.toInt = 0 ∨ (aI (G.2.1 (F a 2)) (l2_5.toInt - 1)) ≤ p0.toInt)
    (I60_0 : (k_60.toInt = 1 ∧ 1 ≤ l2_5.toInt ∧ (aI (G.2.1 (F a 2)) (l2_5.toInt - 1)) = p0.toInt) ∨ (k_60.toInt = 0 ∧ (l2_5.toInt = 0 ∨ (aI (G.2.1 (F a 2)) (l2_5.toInt - 1)) < p0.toInt)))
    (c62 : ¬ (k_60.toInt ≠ 0))
    (c69 : ¬ (((G.1 a 3).toInt) < 0))
    (c78 : ((G.1 a 3).toInt) < (90 : Int))
    (I88_0 : l2_5.toInt ≤ l4_88.toInt ∧ l4_88.toInt ≤ ((G.1 a 3).toInt))
    (I88_1 : ((G_88.1 a 3).toInt) = ((G.1 a 3).toInt))
    (hm88 : l4_88.toInt + 1 < (((N88) + 1 : Nat) : Int))
    (c91 : ¬ (l4_88.toInt ≤ l2_5.toInt))
    (c98 : (90 : Int) ≤ l4_88.toInt)
    (c124 : ¬ (l2_5.toInt < 0))
    (c130 : (90 : Int) ≤ l2_5.toInt) :
    ∀ y : Int, MB (G_88.2.1 (F a 2)) ((G_88.1 a 3).toInt) y ↔ MB (G.2.1 (F a 2)) ((G.1 a 3).toInt) y ∨ y = p0.toInt := by
  first | (exfalso; omega) | skip
  all_goals (
    first
      | (intro y
         have e3 : aI (G.2.1 (F a 2)) (l2_5.toInt - 1) = (G.2.1 (F a 2) (l2_5.toInt - 1).toNat).toInt := rfl
         exact ⟨Or.inl, fun h => h.elim id (fun q => ⟨(l2_5.toInt - 1).toNat, by omega, by rw [← e3]; omega⟩)⟩)
      | (rw [d_G147_a_3, e146, I88_1]
         have e4 : l2_5.toNatClampNeg = l2_5.toInt.toNat := rfl
         have e5 : l4_88.toInt.toNat = l2_5.toInt.toNat := by omega
         rw [e5] at ps
         have hg := shf_ins (g2 := G147.2.1 (F a 2)) (x := p0) ps (by rw [c_G147_F_a_2, cput_j hG139, e4, if_pos rfl]) (fun j hj => by rw [c_G147_F_a_2, cput_j hG139, e4, if_neg hj])
         exact (SO_ins rfl so (by omega) (by omega) (fun i hi => by
           have e3 : aI (G.2.1 (F a 2)) (l2_5.toInt - 1) = (G.2.1 (F a 2) (l2_5.toInt - 1).toNat).toInt := rfl
           by_cases q : i = (l2_5.toInt - 1).toNat
           · rw [q, ← e3]; omega
           · have := so i (l2_5.toInt - 1).toNat (by omega) (by omega)
             rw [← e3] at this
             omega) (fun i h1 h2 => pa i (by omega) h2) (fun i hi => hg i (by omega))).2))
theorem v_X1_insert_150_15 {K : Nat → Nat} {F : Nat → Nat → Nat} (a : Nat) (G : XG) (G_88 : XG) (G139 : XG) (l2_5 : Int32) (p0 : Int32) (G147 : XG) (x146 : Int32) (l4_88 : Int32) (N5 : Nat) (k_60 : Int32) (N88 : Nat)
    (ha : K a = 3)
    (hG139 : G139 = cput G_88 (F a 2) l2_5.toNatClampNeg p0)
    (so : SO (G.2.1 (F a 2)) ((G.1 a 3).toInt))
    (pa : ∀ i : Nat, l2_5.toInt ≤ (i : Int) → (i : Int) < (G.1 a 3).toInt → p0.toInt < (G.2.1 (F a 2) i).toInt)
    (ps : shf (G.2.1 (F a 2)) (G_88.2.1 (F a 2)) (l4_88.toInt).toNat ((G.1 a 3).toInt).toNat)
    (e146 : x146.toInt = (((G_88.1 a 3).toInt) + (1 : Int)))
    (s0 : 0 ≤ ((G.1 a 3).toInt) ∧ ((G.1 a 3).toInt) ≤ 89)
    (I5_0 : 0 ≤ l2_5.toInt ∧ l2_5.toInt ≤ ((G.1 a 3).toInt))
    (hm5 : l2_5.toInt + 1 < (((N5) + 1 : Nat) : Int))
    (I33_1 : l2_5.toInt = 0 ∨ (aI (G.2.1 (F a 2)) (l2_5.toInt - 1)) ≤ p0.toInt)
    (I60_0 : (k_60.toInt = 1 ∧ 1 ≤ l2_5.toInt ∧ (aI (G.2.1 (F a 2)) (l2_5.toInt - 1)) = p0.toInt) ∨ (k_60.toInt = 0 ∧ (l2_5.toInt = 0 ∨ (aI (G.2.1 (F a 2)) (l2_5.toInt - 1)) < p0.toInt)))
    (c62 : ¬ (k_60.toInt ≠ 0))
    (c69 : ¬ (((G.1 a 3).toInt) < 0))
    (c78 : ((G.1 a 3).toInt) < (90 : Int))
    (I88_0 : l2_5.toInt ≤ l4_88.toInt ∧ l4_88.toInt ≤ ((G.1 a 3).toInt))
    (I88_1 : ((G_88.1 a 3).toInt) = ((G.1 a 3).toInt))
    (hm88 : l4_88.toInt + 1 < (((N88) + 1 : Nat) : Int))
    (c91 : ¬ (l4_88.toInt ≤ l2_5.toInt))
    (c98 : (90 : Int) ≤ l4_88.toInt)
    (c124 : ¬ (l2_5.toInt < 0))
    (c130 : ¬ ((90 : Int) ≤ l2_5.toInt))
    (c_G147_F_a_2 : G147.2.1 (F a 2) = G139.2.1 (F a 2))
    (d_G147_a_3 : G147.1 a 3 = x146) :
    SO (G147.2.1 (F a 2)) ((G147.1 a 3).toInt) := by
  first | (exfalso; omega) | skip
  all_goals (
    first
      | exact so
      | (rw [d_G147_a_3, e146, I88_1]
         have e4 : l2_5.toNatClampNeg = l2_5.toInt.toNat := rfl
         have e5 : l4_88.toInt.toNat = l2_5.toInt.toNat := by omega
         rw [e5] at ps
         have hg := shf_ins (g2 := G147.2.1 (F a 2)) (x := p0) ps (by rw [c_G147_F_a_2, cput_j hG139, e4, if_pos rfl]) (fun j hj => by rw [c_G147_F_a_2, cput_j hG139, e4, if_neg hj])
         exact (SO_ins rfl so (by omega) (by omega) (fun i hi => by
           have e3 : aI (G.2.1 (F a 2)) (l2_5.toInt - 1) = (G.2.1 (F a 2) (l2_5.toInt - 1).toNat).toInt := rfl
           by_cases q : i = (l2_5.toInt - 1).toNat
           · rw [q, ← e3]; omega
           · have := so i (l2_5.toInt - 1).toNat (by omega) (by omega)
             rw [← e3] at this
             omega) (fun i h1 h2 => pa i (by omega) h2) (fun i hi => hg i (by omega))).1))
theorem v_X1_insert_150_16 {K : Nat → Nat} {F : Nat → Nat → Nat} (a : Nat) (G : XG) (G_88 : XG) (G139 : XG) (l2_5 : Int32) (p0 : Int32) (G147 : XG) (x146 : Int32) (l4_88 : Int32) (N5 : Nat) (k_60 : Int32) (N88 : Nat)
    (ha : K a = 3)
    (hG139 : G139 = cput G_88 (F a 2) l2_5.toNatClampNeg p0)
    (so : SO (G.2.1 (F a 2)) ((G.1 a 3).toInt))
    (pa : ∀ i : Nat, l2_5.toInt ≤ (i : Int) → (i : Int) < (G.1 a 3).toInt → p0.toInt < (G.2.1 (F a 2) i).toInt)
    (ps : shf (G.2.1 (F a 2)) (G_88.2.1 (F a 2)) (l4_88.toInt).toNat ((G.1 a 3).toInt).toNat)
    (e146 : x146.toInt = (((G_88.1 a 3).toInt) + (1 : Int)))
    (s0 : 0 ≤ ((G.1 a 3).toInt) ∧ ((G.1 a 3).toInt) ≤ 89)
    (I5_0 : 0 ≤ l2_5.toInt ∧ l2_5.toInt ≤ ((G.1 a 3).toInt))
    (hm5 : l2_5.toInt + 1 < (((N5) + 1 : Nat) : Int))
    (I33_1 : l2_5.toInt = 0 ∨ (aI (G.2.1 (F a 2)) (l2_5.toInt - 1)) ≤ p0.toInt)
    (I60_0 : (k_60.toInt = 1 ∧ 1 ≤ l2_5.toInt ∧ (aI (G.2.1 (F a 2)) (l2_5.toInt - 1)) = p0.toInt) ∨ (k_60.toInt = 0 ∧ (l2_5.toInt = 0 ∨ (aI (G.2.1 (F a 2)) (l2_5.toInt - 1)) < p0.toInt)))
    (c62 : ¬ (k_60.toInt ≠ 0))
    (c69 : ¬ (((G.1 a 3).toInt) < 0))
    (c78 : ((G.1 a 3).toInt) < (90 : Int))
    (I88_0 : l2_5.toInt ≤ l4_88.toInt ∧ l4_88.toInt ≤ ((G.1 a 3).toInt))
    (I88_1 : ((G_88.1 a 3).toInt) = ((G.1 a 3).toInt))
    (hm88 : l4_88.toInt + 1 < (((N88) + 1 : Nat) : Int))
    (c91 : ¬ (l4_88.toInt ≤ l2_5.toInt))
    (c98 : (90 : Int) ≤ l4_88.toInt)
    (c124 : ¬ (l2_5.toInt < 0))
    (c130 : ¬ ((90 : Int) ≤ l2_5.toInt))
    (c_G147_F_a_2 : G147.2.1 (F a 2) = G139.2.1 (F a 2))
    (d_G147_a_3 : G147.1 a 3 = x146) :
    ∀ y : Int, MB (G147.2.1 (F a 2)) ((G147.1 a 3).toInt) y ↔ MB (G.2.1 (F a 2)) ((G.1 a 3).toInt) y ∨ y = p0.toInt := by
  first | (exfalso; omega) | skip
  all_goals (
    first
      | (intro y
         have e3 : aI (G.2.1 (F a 2)) (l2_5.toInt - 1) = (G.2.1 (F a 2) (l2_5.toInt - 1).toNat).toInt := rfl
         exact ⟨Or.inl, fun h => h.elim id (fun q => ⟨(l2_5.toInt - 1).toNat, by omega, by rw [← e3]; omega⟩)⟩)
      | (rw [d_G147_a_3, e146, I88_1]
         have e4 : l2_5.toNatClampNeg = l2_5.toInt.toNat := rfl
         have e5 : l4_88.toInt.toNat = l2_5.toInt.toNat := by omega
         rw [e5] at ps
         have hg := shf_ins (g2 := G147.2.1 (F a 2)) (x := p0) ps (by rw [c_G147_F_a_2, cput_j hG139, e4, if_pos rfl]) (fun j hj => by rw [c_G147_F_a_2, cput_j hG139, e4, if_neg hj])
         exact (SO_ins rfl so (by omega) (by omega) (fun i hi => by
           have e3 : aI (G.2.1 (F a 2)) (l2_5.toInt - 1) = (G.2.1 (F a 2) (l2_5.toInt - 1).toNat).toInt := rfl
           by_cases q : i = (l2_5.toInt - 1).toNat
           · rw [q, ← e3]; omega
           · have := so i (l2_5.toInt - 1).toNat (by omega) (by omega)
             rw [← e3] at this
             omega) (fun i h1 h2 => pa i (by omega) h2) (fun i hi => hg i (by omega))).2))
theorem v_X1_insert_120_17 {K : Nat → Nat} {F : Nat → Nat → Nat} (a : Nat) (G : XG) (G_88 : XG) (G116 : XG) (l4_88 : Int32) (x115 : Int32) (l2_5 : Int32) (p0 : Int32) (N5 : Nat) (k_60 : Int32) (N88 : Nat)
    (ha : K a = 3)
    (hG116 : G116 = cput G_88 (F a 2) l4_88.toNatClampNeg x115)
    (so : SO (G.2.1 (F a 2)) ((G.1 a 3).toInt))
    (ps : shf (G.2.1 (F a 2)) (G_88.2.1 (F a 2)) (l4_88.toInt).toNat ((G.1 a 3).toInt).toNat)
    (hv115 : x115.toInt = (aI (G_88.2.1 (F a 2)) (l4_88.toInt - 1)))
    (s0 : 0 ≤ ((G.1 a 3).toInt) ∧ ((G.1 a 3).toInt) ≤ 89)
    (I5_0 : 0 ≤ l2_5.toInt ∧ l2_5.toInt ≤ ((G.1 a 3).toInt))
    (hm5 : l2_5.toInt + 1 < (((N5) + 1 : Nat) : Int))
    (I33_1 : l2_5.toInt = 0 ∨ (aI (G.2.1 (F a 2)) (l2_5.toInt - 1)) ≤ p0.toInt)
    (I60_0 : (k_60.toInt = 1 ∧ 1 ≤ l2_5.toInt ∧ (aI (G.2.1 (F a 2)) (l2_5.toInt - 1)) = p0.toInt) ∨ (k_60.toInt = 0 ∧ (l2_5.toInt = 0 ∨ (aI (G.2.1 (F a 2)) (l2_5.toInt - 1)) < p0.toInt)))
    (c62 : ¬ (k_60.toInt ≠ 0))
    (c69 : ¬ (((G.1 a 3).toInt) < 0))
    (c78 : ((G.1 a 3).toInt) < (90 : Int))
    (I88_0 : l2_5.toInt ≤ l4_88.toInt ∧ l4_88.toInt ≤ ((G.1 a 3).toInt))
    (I88_1 : ((G_88.1 a 3).toInt) = ((G.1 a 3).toInt))
    (hm88 : l4_88.toInt + 1 < (((N88) + 1 : Nat) : Int))
    (c91 : ¬ (l4_88.toInt ≤ l2_5.toInt))
    (c98 : ¬ ((90 : Int) ≤ l4_88.toInt)) :
    shf (G.2.1 (F a 2)) (G116.2.1 (F a 2)) (l4_88.toInt + (-1)).toNat ((G.1 a 3).toInt).toNat := by
  have e : l4_88.toInt.toNat = (l4_88.toInt + -1).toNat + 1 := by omega
  have e4 : l4_88.toNatClampNeg = l4_88.toInt.toNat := rfl
  refine shf_s (g := G_88.2.1 (F a 2)) (by rw [← e]; exact ps) ?_ (fun i hi => ?_)
  · rw [cput_j hG116, e4, if_pos e.symm]
    apply Int32.toInt_inj.mp
    rw [hv115]
    show (G_88.2.1 (F a 2) (l4_88.toInt - 1).toNat).toInt = _
    rw [show (l4_88.toInt - 1).toNat = (l4_88.toInt + -1).toNat from by omega]
  · rw [cput_j hG116, e4, if_neg (by omega)]
theorem v_X1_insert_86_18 {F : Nat → Nat → Nat} (a : Nat) (G : XG) :
    shf (G.2.1 (F a 2)) (G.2.1 (F a 2)) (((G.1 a 3).toInt)).toNat ((G.1 a 3).toInt).toNat := by
  exact shf_0 _ _
theorem v_X1_insert_81_19 {K : Nat → Nat} {F : Nat → Nat → Nat} (a : Nat) (G : XG) (l2_5 : Int32) (p0 : Int32) (N5 : Nat) (k_60 : Int32)
    (ha : K a = 3)
    (so : SO (G.2.1 (F a 2)) ((G.1 a 3).toInt))
    (pa : ∀ i : Nat, l2_5.toInt ≤ (i : Int) → (i : Int) < (G.1 a 3).toInt → p0.toInt < (G.2.1 (F a 2) i).toInt)
    (s0 : 0 ≤ ((G.1 a 3).toInt) ∧ ((G.1 a 3).toInt) ≤ 89)
    (I5_0 : 0 ≤ l2_5.toInt ∧ l2_5.toInt ≤ ((G.1 a 3).toInt))
    (hm5 : l2_5.toInt + 1 < (((N5) + 1 : Nat) : Int))
    (I33_1 : l2_5.toInt = 0 ∨ (aI (G.2.1 (F a 2)) (l2_5.toInt - 1)) ≤ p0.toInt)
    (I60_0 : (k_60.toInt = 1 ∧ 1 ≤ l2_5.toInt ∧ (aI (G.2.1 (F a 2)) (l2_5.toInt - 1)) = p0.toInt) ∨ (k_60.toInt = 0 ∧ (l2_5.toInt = 0 ∨ (aI (G.2.1 (F a 2)) (l2_5.toInt - 1)) < p0.toInt)))
    (c62 : ¬ (k_60.toInt ≠ 0))
    (c69 : ¬ (((G.1 a 3).toInt) < 0))
    (c78 : ¬ (((G.1 a 3).toInt) < (90 : Int))) :
    SO (G.2.1 (F a 2)) ((G.1 a 3).toInt) := by
  first | (exfalso; omega) | skip
  all_goals (
    first
      | exact so
      | (rw [d_G147_a_3, e146, I88_1]
         have e4 : l2_5.toNatClampNeg = l2_5.toInt.toNat := rfl
         have e5 : l4_88.toInt.toNat = l2_5.toInt.toNat := by omega
         rw [e5] at ps
         have hg := shf_ins (g2 := G147.2.1 (F a 2)) (x := p0) ps (by rw [c_G147_F_a_2, cput_j hG139, e4, if_pos rfl]) (fun j hj => by rw [c_G147_F_a_2, cput_j hG139, e4, if_neg hj])
         exact (SO_ins rfl so (by omega) (by omega) (fun i hi => by
           have e3 : aI (G.2.1 (F a 2)) (l2_5.toInt - 1) = (G.2.1 (F a 2) (l2_5.toInt - 1).toNat).toInt := rfl
           by_cases q : i = (l2_5.toInt - 1).toNat
           · rw [q, ← e3]; omega
           · have := so i (l2_5.toInt - 1).toNat (by omega) (by omega)
             rw [← e3] at this
             omega) (fun i h1 h2 => pa i (by omega) h2) (fun i hi => hg i (by omega))).1))
theorem v_X1_insert_81_20 {K : Nat → Nat} {F : Nat → Nat → Nat} (a : Nat) (G : XG) (l2_5 : Int32) (p0 : Int32) (N5 : Nat) (k_60 : Int32)
    (ha : K a = 3)
    (so : SO (G.2.1 (F a 2)) ((G.1 a 3).toInt))
    (pa : ∀ i : Nat, l2_5.toInt ≤ (i : Int) → (i : Int) < (G.1 a 3).toInt → p0.toInt < (G.2.1 (F a 2) i).toInt)
    (s0 : 0 ≤ ((G.1 a 3).toInt) ∧ ((G.1 a 3).toInt) ≤ 89)
    (I5_0 : 0 ≤ l2_5.toInt ∧ l2_5.toInt ≤ ((G.1 a 3).toInt))
    (hm5 : l2_5.toInt + 1 < (((N5) + 1 : Nat) : Int))
    (I33_1 : l2_5.toInt = 0 ∨ (aI (G.2.1 (F a 2)) (l2_5.toInt - 1)) ≤ p0.toInt)
    (I60_0 : (k_60.toInt = 1 ∧ 1 ≤ l2_5.toInt ∧ (aI (G.2.1 (F a 2)) (l2_5.toInt - 1)) = p0.toInt) ∨ (k_60.toInt = 0 ∧ (l2_5.toInt = 0 ∨ (aI (G.2.1 (F a 2)) (l2_5.toInt - 1)) < p0.toInt)))
    (c62 : ¬ (k_60.toInt ≠ 0))
    (c69 : ¬ (((G.1 a 3).toInt) < 0))
    (c78 : ¬ (((G.1 a 3).toInt) < (90 : Int))) :
    ∀ y : Int, MB (G.2.1 (F a 2)) ((G.1 a 3).toInt) y ↔ MB (G.2.1 (F a 2)) ((G.1 a 3).toInt) y ∨ y = p0.toInt := by
  first | (exfalso; omega) | skip
  all_goals (
    first
      | (intro y
         have e3 : aI (G.2.1 (F a 2)) (l2_5.toInt - 1) = (G.2.1 (F a 2) (l2_5.toInt - 1).toNat).toInt := rfl
         exact ⟨Or.inl, fun h => h.elim id (fun q => ⟨(l2_5.toInt - 1).toNat, by omega, by rw [← e3]; omega⟩)⟩)
      | (rw [d_G147_a_3, e146, I88_1]
         have e4 : l2_5.toNatClampNeg = l2_5.toInt.toNat := rfl
         have e5 : l4_88.toInt.toNat = l2_5.toInt.toNat := by omega
         rw [e5] at ps
         have hg := shf_ins (g2 := G147.2.1 (F a 2)) (x := p0) ps (by rw [c_G147_F_a_2, cput_j hG139, e4, if_pos rfl]) (fun j hj => by rw [c_G147_F_a_2, cput_j hG139, e4, if_neg hj])
         exact (SO_ins rfl so (by omega) (by omega) (fun i hi => by
           have e3 : aI (G.2.1 (F a 2)) (l2_5.toInt - 1) = (G.2.1 (F a 2) (l2_5.toInt - 1).toNat).toInt := rfl
           by_cases q : i = (l2_5.toInt - 1).toNat
           · rw [q, ← e3]; omega
           · have := so i (l2_5.toInt - 1).toNat (by omega) (by omega)
             rw [← e3] at this
             omega) (fun i h1 h2 => pa i (by omega) h2) (fun i hi => hg i (by omega))).2))
theorem v_X1_insert_6_21 {F : Nat → Nat → Nat} (a : Nat) (G : XG) (l2_5 : Int32) (p0 : Int32)
    (pa : ∀ i : Nat, l2_5.toInt ≤ (i : Int) → (i : Int) < (G.1 a 3).toInt → p0.toInt < (G.2.1 (F a 2) i).toInt) :
    ∀ i : Nat, l2_5.toInt ≤ (i : Int) → (i : Int) < (G.1 a 3).toInt → p0.toInt < (G.2.1 (F a 2) i).toInt := by
  exact pa
theorem v_X1_insert_12_22 {F : Nat → Nat → Nat} (a : Nat) (G : XG) (l2_5 : Int32) (p0 : Int32)
    (pa : ∀ i : Nat, l2_5.toInt ≤ (i : Int) → (i : Int) < (G.1 a 3).toInt → p0.toInt < (G.2.1 (F a 2) i).toInt) :
    ∀ i : Nat, l2_5.toInt ≤ (i : Int) → (i : Int) < (G.1 a 3).toInt → p0.toInt < (G.2.1 (F a 2) i).toInt := by
  exact pa
theorem v_X1_insert_24_23 {F : Nat → Nat → Nat} (a : Nat) (G : XG) (l2_5 : Int32) (p0 : Int32)
    (pa : ∀ i : Nat, l2_5.toInt ≤ (i : Int) → (i : Int) < (G.1 a 3).toInt → p0.toInt < (G.2.1 (F a 2) i).toInt) :
    ∀ i : Nat, l2_5.toInt ≤ (i : Int) → (i : Int) < (G.1 a 3).toInt → p0.toInt < (G.2.1 (F a 2) i).toInt := by
  exact pa
theorem v_X1_insert_30_24 {K : Nat → Nat} {F : Nat → Nat → Nat} (a : Nat) (G : XG) (l2_5 : Int32) (p0 : Int32) (N5 : Nat)
    (ha : K a = 3)
    (so : SO (G.2.1 (F a 2)) ((G.1 a 3).toInt))
    (pa : ∀ i : Nat, l2_5.toInt ≤ (i : Int) → (i : Int) < (G.1 a 3).toInt → p0.toInt < (G.2.1 (F a 2) i).toInt)
    (s0 : 0 ≤ ((G.1 a 3).toInt) ∧ ((G.1 a 3).toInt) ≤ 89)
    (I5_0 : 0 ≤ l2_5.toInt ∧ l2_5.toInt ≤ ((G.1 a 3).toInt))
    (hm5 : l2_5.toInt + 1 < (((N5) + 1 : Nat) : Int))
    (c6 : ¬ (l2_5.toInt ≤ 0))
    (c12 : ¬ ((90 : Int) < l2_5.toInt))
    (c24 : ¬ ((aI (G.2.1 (F a 2)) (l2_5.toInt - 1)) ≤ p0.toInt)) :
    ∀ i : Nat, (l2_5.toInt + (-1)) ≤ (i : Int) → (i : Int) < (G.1 a 3).toInt → p0.toInt < (G.2.1 (F a 2) i).toInt := by
  intro i h1 h2
  by_cases e : l2_5.toInt ≤ (i : Int)
  · exact pa i e h2
  · have e2 : i = (l2_5.toInt - 1).toNat := by omega
    have e3 : aI (G.2.1 (F a 2)) (l2_5.toInt - 1) = (G.2.1 (F a 2) (l2_5.toInt - 1).toNat).toInt := rfl
    rw [e2, ← e3]
    omega
theorem v_X1_insert_4_25 {K : Nat → Nat} {F : Nat → Nat → Nat} (a : Nat) (G : XG) (p0 : Int32)
    (ha : K a = 3)
    (so : SO (G.2.1 (F a 2)) ((G.1 a 3).toInt))
    (s0 : 0 ≤ ((G.1 a 3).toInt) ∧ ((G.1 a 3).toInt) ≤ 89) :
    ∀ i : Nat, ((G.1 a 3).toInt) ≤ (i : Int) → (i : Int) < (G.1 a 3).toInt → p0.toInt < (G.2.1 (F a 2) i).toInt := by
  intro i h1 h2; exact absurd h1 (by omega)
theorem v_X1_offerKeys_33_1 {F : Nat → Nat → Nat} (a : Nat) (G_2 : XG)
    (ps : SO (G_2.2.1 (F a 2)) ((G_2.1 a 3).toInt)) :
    SO (G_2.2.1 (F a 2)) ((G_2.1 a 3).toInt) := by
  exact ps
theorem v_X1_offerKeys_33_2 {K : Nat → Nat} {F : Nat → Nat → Nat} (a : Nat) (G : XG) (G_2 : XG) (l2_2 : Int32) (p0 : Int32) (N2 : Nat)
    (ha : K a = 3)
    (so : SO (G.2.1 (F a 2)) ((G.1 a 3).toInt))
    (ps : SO (G_2.2.1 (F a 2)) ((G_2.1 a 3).toInt))
    (pm : ∀ y : Int, MB (G_2.2.1 (F a 2)) ((G_2.1 a 3).toInt) y ↔ MB (G.2.1 (F a 2)) ((G.1 a 3).toInt) y ∨ (0 ≤ y ∧ y < l2_2.toInt ∧ bI (p0.toInt) y = 1))
    (s0 : 0 ≤ ((G.1 a 3).toInt) ∧ ((G.1 a 3).toInt) ≤ 60)
    (I2_0 : 0 ≤ l2_2.toInt ∧ l2_2.toInt ≤ 30)
    (I2_1 : ((G.1 a 3).toInt) ≤ ((G_2.1 a 3).toInt) ∧ ((G_2.1 a 3).toInt) ≤ ((G.1 a 3).toInt) + l2_2.toInt)
    (I2_2 : (0 : Int) ≤ l2_2.toInt)
    (hm2 : 2147483648 - l2_2.toInt < (((N2) + 1 : Nat) : Int))
    (c5 : (30 : Int) ≤ l2_2.toInt) :
    ∀ y : Int, MB (G_2.2.1 (F a 2)) ((G_2.1 a 3).toInt) y ↔ MB (G.2.1 (F a 2)) ((G.1 a 3).toInt) y ∨ (0 ≤ y ∧ y < 30 ∧ bI p0.toInt y = 1) := by
  intro y
  rw [pm y]
  first
    | (have e : l2_2.toInt = 30 := by omega
       rw [e])
    | (constructor
       · rintro (h | h)
         · exact Or.inl h
         · exact Or.inr ⟨h.1, by omega, h.2.2⟩
       · rintro (h | ⟨h1, h2, h3⟩)
         · exact Or.inl h
         · by_cases e : y < l2_2.toInt
           · exact Or.inr ⟨h1, e, h3⟩
           · exact absurd h3 (by rw [bI_sh0 he10 rfl rfl (by omega) c11 y (by omega) (by omega)]; decide))
theorem v_X1_offerKeys_33_3 {F : Nat → Nat → Nat} (a : Nat) (G_2 : XG)
    (ps : SO (G_2.2.1 (F a 2)) ((G_2.1 a 3).toInt)) :
    SO (G_2.2.1 (F a 2)) ((G_2.1 a 3).toInt) := by
  exact ps
theorem v_X1_offerKeys_33_4 {K : Nat → Nat} {F : Nat → Nat → Nat} (a : Nat) (G : XG) (G_2 : XG) (l2_2 : Int32) (p0 : Int32) (x10 : Int32) (N2 : Nat)
    (ha : K a = 3)
    (so : SO (G.2.1 (F a 2)) ((G.1 a 3).toInt))
    (ps : SO (G_2.2.1 (F a 2)) ((G_2.1 a 3).toInt))
    (pm : ∀ y : Int, MB (G_2.2.1 (F a 2)) ((G_2.1 a 3).toInt) y ↔ MB (G.2.1 (F a 2)) ((G.1 a 3).toInt) y ∨ (0 ≤ y ∧ y < l2_2.toInt ∧ bI (p0.toInt) y = 1))
    (he10 : x10 = (p0 : Int32) >>> (l2_2 &&& 31))
    (s0 : 0 ≤ ((G.1 a 3).toInt) ∧ ((G.1 a 3).toInt) ≤ 60)
    (I2_0 : 0 ≤ l2_2.toInt ∧ l2_2.toInt ≤ 30)
    (I2_1 : ((G.1 a 3).toInt) ≤ ((G_2.1 a 3).toInt) ∧ ((G_2.1 a 3).toInt) ≤ ((G.1 a 3).toInt) + l2_2.toInt)
    (I2_2 : (0 : Int) ≤ l2_2.toInt)
    (hm2 : 2147483648 - l2_2.toInt < (((N2) + 1 : Nat) : Int))
    (c5 : ¬ ((30 : Int) ≤ l2_2.toInt))
    (c11 : x10.toInt = 0) :
    ∀ y : Int, MB (G_2.2.1 (F a 2)) ((G_2.1 a 3).toInt) y ↔ MB (G.2.1 (F a 2)) ((G.1 a 3).toInt) y ∨ (0 ≤ y ∧ y < 30 ∧ bI p0.toInt y = 1) := by
  intro y
  rw [pm y]
  first
    | (have e : l2_2.toInt = 30 := by omega
       rw [e])
    | (constructor
       · rintro (h | h)
         · exact Or.inl h
         · exact Or.inr ⟨h.1, by omega, h.2.2⟩
       · rintro (h | ⟨h1, h2, h3⟩)
         · exact Or.inl h
         · by_cases e : y < l2_2.toInt
           · exact Or.inr ⟨h1, e, h3⟩
           · exact absurd h3 (by rw [bI_sh0 he10 rfl rfl (by omega) c11 y (by omega) (by omega)]; decide))
theorem v_X1_offerKeys_30_5 {F : Nat → Nat → Nat} (a : Nat) (G_2 : XG)
    (ps : SO (G_2.2.1 (F a 2)) ((G_2.1 a 3).toInt)) :
    SO (G_2.2.1 (F a 2)) ((G_2.1 a 3).toInt) := by
  first | exact oq24 | exact ps
theorem v_X1_offerKeys_30_6 {K : Nat → Nat} {F : Nat → Nat → Nat} (a : Nat) (G : XG) (G_2 : XG) (l2_2 : Int32) (p0 : Int32) (x10 : Int32) (x16 : Int32) (x18 : Int32) (N2 : Nat)
    (ha : K a = 3)
    (so : SO (G.2.1 (F a 2)) ((G.1 a 3).toInt))
    (ps : SO (G_2.2.1 (F a 2)) ((G_2.1 a 3).toInt))
    (pm : ∀ y : Int, MB (G_2.2.1 (F a 2)) ((G_2.1 a 3).toInt) y ↔ MB (G.2.1 (F a 2)) ((G.1 a 3).toInt) y ∨ (0 ≤ y ∧ y < l2_2.toInt ∧ bI (p0.toInt) y = 1))
    (he10 : x10 = (p0 : Int32) >>> (l2_2 &&& 31))
    (he16 : x16 = (p0 : Int32) >>> (l2_2 &&& 31))
    (he18 : x18 = x16 &&& 1)
    (s0 : 0 ≤ ((G.1 a 3).toInt) ∧ ((G.1 a 3).toInt) ≤ 60)
    (I2_0 : 0 ≤ l2_2.toInt ∧ l2_2.toInt ≤ 30)
    (I2_1 : ((G.1 a 3).toInt) ≤ ((G_2.1 a 3).toInt) ∧ ((G_2.1 a 3).toInt) ≤ ((G.1 a 3).toInt) + l2_2.toInt)
    (I2_2 : (0 : Int) ≤ l2_2.toInt)
    (hm2 : 2147483648 - l2_2.toInt < (((N2) + 1 : Nat) : Int))
    (c5 : ¬ ((30 : Int) ≤ l2_2.toInt))
    (c11 : ¬ (x10.toInt = 0))
    (hb18 : x18.toInt = (bI (p0.toInt) (l2_2.toInt)))
    (hb18a : x18.toInt = 0 ∨ x18.toInt = 1)
    (c19 : x18.toInt = 0) :
    ∀ y : Int, MB (G_2.2.1 (F a 2)) ((G_2.1 a 3).toInt) y ↔ MB (G.2.1 (F a 2)) ((G.1 a 3).toInt) y ∨ (0 ≤ y ∧ y < (l2_2.toInt + 1) ∧ bI (p0.toInt) y = 1) := by
  intro y
  first
    | (rw [oq24a y, pm y]
       constructor
       · rintro ((h | h) | h)
         · exact Or.inl h
         · exact Or.inr ⟨h.1, by omega, h.2.2⟩
         · exact Or.inr ⟨by omega, by omega, by rw [h]; omega⟩
       · rintro (h | ⟨h1, h2, h3⟩)
         · exact Or.inl (Or.inl h)
         · by_cases e : y = l2_2.toInt
           · exact Or.inr e
           · exact Or.inl (Or.inr ⟨h1, by omega, h3⟩))
    | (rw [pm y]
       constructor
       · rintro (h | h)
         · exact Or.inl h
         · exact Or.inr ⟨h.1, by omega, h.2.2⟩
       · rintro (h | ⟨h1, h2, h3⟩)
         · exact Or.inl h
         · by_cases e : y = l2_2.toInt
           · subst e; exact absurd h3 (by omega)
           · exact Or.inr ⟨h1, by omega, h3⟩)
theorem v_X1_offerKeys_24_7 {F : Nat → Nat → Nat} (a : Nat) (G_2 : XG)
    (ps : SO (G_2.2.1 (F a 2)) ((G_2.1 a 3).toInt)) :
    SO (G_2.2.1 (F a 2)) ((G_2.1 a 3).toInt) := by
  exact ps
theorem v_X1_offerKeys_30_8 {F : Nat → Nat → Nat} (a : Nat) (G_2 : XG) (G24 : XG)
    (ps : SO (G_2.2.1 (F a 2)) ((G_2.1 a 3).toInt))
    (oq24 : SO (G24.2.1 (F a 2)) ((G24.1 a 3).toInt)) :
    SO (G24.2.1 (F a 2)) ((G24.1 a 3).toInt) := by
  first | exact oq24 | exact ps
theorem v_X1_offerKeys_30_9 {K : Nat → Nat} {F : Nat → Nat → Nat} (a : Nat) (G : XG) (G_2 : XG) (G24 : XG) (l2_2 : Int32) (p0 : Int32) (x10 : Int32) (x16 : Int32) (x18 : Int32) (N2 : Nat)
    (ha : K a = 3)
    (so : SO (G.2.1 (F a 2)) ((G.1 a 3).toInt))
    (ps : SO (G_2.2.1 (F a 2)) ((G_2.1 a 3).toInt))
    (pm : ∀ y : Int, MB (G_2.2.1 (F a 2)) ((G_2.1 a 3).toInt) y ↔ MB (G.2.1 (F a 2)) ((G.1 a 3).toInt) y ∨ (0 ≤ y ∧ y < l2_2.toInt ∧ bI (p0.toInt) y = 1))
    (he10 : x10 = (p0 : Int32) >>> (l2_2 &&& 31))
    (he16 : x16 = (p0 : Int32) >>> (l2_2 &&& 31))
    (he18 : x18 = x16 &&& 1)
    (oq24 : SO (G24.2.1 (F a 2)) ((G24.1 a 3).toInt))
    (oq24a : ∀ y : Int, MB (G24.2.1 (F a 2)) ((G24.1 a 3).toInt) y ↔ MB (G_2.2.1 (F a 2)) ((G_2.1 a 3).toInt) y ∨ y = l2_2.toInt)
    (s0 : 0 ≤ ((G.1 a 3).toInt) ∧ ((G.1 a 3).toInt) ≤ 60)
    (I2_0 : 0 ≤ l2_2.toInt ∧ l2_2.toInt ≤ 30)
    (I2_1 : ((G.1 a 3).toInt) ≤ ((G_2.1 a 3).toInt) ∧ ((G_2.1 a 3).toInt) ≤ ((G.1 a 3).toInt) + l2_2.toInt)
    (I2_2 : (0 : Int) ≤ l2_2.toInt)
    (hm2 : 2147483648 - l2_2.toInt < (((N2) + 1 : Nat) : Int))
    (c5 : ¬ ((30 : Int) ≤ l2_2.toInt))
    (c11 : ¬ (x10.toInt = 0))
    (hb18 : x18.toInt = (bI (p0.toInt) (l2_2.toInt)))
    (hb18a : x18.toInt = 0 ∨ x18.toInt = 1)
    (c19 : ¬ (x18.toInt = 0))
    (t24 : ((G_2.1 a 3).toInt) ≤ ((G24.1 a 3).toInt) ∧ ((G24.1 a 3).toInt) ≤ ((G_2.1 a 3).toInt) + 1) :
    ∀ y : Int, MB (G24.2.1 (F a 2)) ((G24.1 a 3).toInt) y ↔ MB (G.2.1 (F a 2)) ((G.1 a 3).toInt) y ∨ (0 ≤ y ∧ y < (l2_2.toInt + 1) ∧ bI (p0.toInt) y = 1) := by
  intro y
  first
    | (rw [oq24a y, pm y]
       constructor
       · rintro ((h | h) | h)
         · exact Or.inl h
         · exact Or.inr ⟨h.1, by omega, h.2.2⟩
         · exact Or.inr ⟨by omega, by omega, by rw [h]; omega⟩
       · rintro (h | ⟨h1, h2, h3⟩)
         · exact Or.inl (Or.inl h)
         · by_cases e : y = l2_2.toInt
           · exact Or.inr e
           · exact Or.inl (Or.inr ⟨h1, by omega, h3⟩))
    | (rw [pm y]
       constructor
       · rintro (h | h)
         · exact Or.inl h
         · exact Or.inr ⟨h.1, by omega, h.2.2⟩
       · rintro (h | ⟨h1, h2, h3⟩)
         · exact Or.inl h
         · by_cases e : y = l2_2.toInt
           · subst e; exact absurd h3 (by omega)
           · exact Or.inr ⟨h1, by omega, h3⟩)
theorem v_X1_offerKeys_1_10 {F : Nat → Nat → Nat} (a : Nat) (G : XG)
    (so : SO (G.2.1 (F a 2)) ((G.1 a 3).toInt)) :
    SO (G.2.1 (F a 2)) ((G.1 a 3).toInt) := by
  exact so
theorem v_X1_offerKeys_1_11 {K : Nat → Nat} {F : Nat → Nat → Nat} (a : Nat) (G : XG) (p0 : Int32)
    (ha : K a = 3)
    (so : SO (G.2.1 (F a 2)) ((G.1 a 3).toInt))
    (s0 : 0 ≤ ((G.1 a 3).toInt) ∧ ((G.1 a 3).toInt) ≤ 60) :
    ∀ y : Int, MB (G.2.1 (F a 2)) ((G.1 a 3).toInt) y ↔ MB (G.2.1 (F a 2)) ((G.1 a 3).toInt) y ∨ (0 ≤ y ∧ y < (0 : Int) ∧ bI (p0.toInt) y = 1) := by
  intro y; exact ⟨Or.inl, fun h => h.elim id (fun q => absurd q.2.1 (by omega))⟩
