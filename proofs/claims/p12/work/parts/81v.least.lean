theorem v_X1_ofOneRow_50_1 {K : Nat → Nat} {F : Nat → Nat → Nat} (a : Nat) (G_2 : XG) (l3_2 : Int32) (p0 : Int32) (p1 : Int32) (N2 : Nat) (x28 : Int32)
    (ha : K a = 3)
    (pz : ∀ t : Int, 0 ≤ t → t < l3_2.toInt → aI (G_2.2.1 (F a 1)) t = 0 ∧ aI (G_2.2.1 (F a 0)) t = 0)
    (e0 : 0 ≤ p0.toInt ∧ p0.toInt < 3 ∧ 0 ≤ p1.toInt ∧ p1.toInt < 30)
    (I2_0 : 0 ≤ l3_2.toInt ∧ l3_2.toInt ≤ 3)
    (I2_1 : (0 : Int) ≤ l3_2.toInt)
    (hm2 : 2147483648 - l3_2.toInt < (((N2) + 1 : Nat) : Int))
    (c4 : (3 : Int) ≤ l3_2.toInt)
    (t28 : (x28.toInt = 1 ∧ 0 ≤ p0.toInt ∧ p0.toInt < 3) ∨ (x28.toInt = 0 ∧ (p0.toInt < 0 ∨ 3 ≤ p0.toInt)))
    (c31 : x28.toInt = 0) :
    ONb (aI (G_2.2.1 (F a 1))) (aI (G_2.2.1 (F a 0))) p0.toInt p1.toInt := by
  first | (exfalso; omega) | skip
  all_goals (
    intro t a1 a2 k b1 b2
    have u0 := aI_pu hG49 rfl rfl rfl (by omega) t a1
    obtain ⟨z1, z2⟩ := pz t a1 (by omega)
    have c1 := bI_one he48 rfl (by omega) k b1 (by omega)
    rw [c_G49_F_a_1, z1, u0, bI_0]
    refine ⟨rfl, ?_⟩
    by_cases e : t = p0.toInt
    · rw [if_pos e, c1]
      by_cases q : k = p1.toInt
      · rw [if_pos q]; exact ⟨fun _ => ⟨e, q⟩, fun _ => rfl⟩
      · rw [if_neg q]; exact ⟨fun h => absurd h (by decide), fun h => absurd h.2 q⟩
    · rw [if_neg e, z2, bI_0]; exact ⟨fun h => absurd h (by decide), fun h => absurd h.1 e⟩)
theorem v_X1_ofOneRow_50_2 {K : Nat → Nat} {F : Nat → Nat → Nat} (a : Nat) (G_2 : XG) (l3_2 : Int32) (p0 : Int32) (p1 : Int32) (N2 : Nat) (x28 : Int32) (x35 : Int32)
    (ha : K a = 3)
    (pz : ∀ t : Int, 0 ≤ t → t < l3_2.toInt → aI (G_2.2.1 (F a 1)) t = 0 ∧ aI (G_2.2.1 (F a 0)) t = 0)
    (e0 : 0 ≤ p0.toInt ∧ p0.toInt < 3 ∧ 0 ≤ p1.toInt ∧ p1.toInt < 30)
    (I2_0 : 0 ≤ l3_2.toInt ∧ l3_2.toInt ≤ 3)
    (I2_1 : (0 : Int) ≤ l3_2.toInt)
    (hm2 : 2147483648 - l3_2.toInt < (((N2) + 1 : Nat) : Int))
    (c4 : (3 : Int) ≤ l3_2.toInt)
    (t28 : (x28.toInt = 1 ∧ 0 ≤ p0.toInt ∧ p0.toInt < 3) ∨ (x28.toInt = 0 ∧ (p0.toInt < 0 ∨ 3 ≤ p0.toInt)))
    (c31 : ¬ (x28.toInt = 0))
    (t35 : (x35.toInt = 1 ∧ 0 ≤ p1.toInt ∧ p1.toInt < 30) ∨ (x35.toInt = 0 ∧ (p1.toInt < 0 ∨ 30 ≤ p1.toInt)))
    (c38 : x35.toInt = 0) :
    ONb (aI (G_2.2.1 (F a 1))) (aI (G_2.2.1 (F a 0))) p0.toInt p1.toInt := by
  first | (exfalso; omega) | skip
  all_goals (
    intro t a1 a2 k b1 b2
    have u0 := aI_pu hG49 rfl rfl rfl (by omega) t a1
    obtain ⟨z1, z2⟩ := pz t a1 (by omega)
    have c1 := bI_one he48 rfl (by omega) k b1 (by omega)
    rw [c_G49_F_a_1, z1, u0, bI_0]
    refine ⟨rfl, ?_⟩
    by_cases e : t = p0.toInt
    · rw [if_pos e, c1]
      by_cases q : k = p1.toInt
      · rw [if_pos q]; exact ⟨fun _ => ⟨e, q⟩, fun _ => rfl⟩
      · rw [if_neg q]; exact ⟨fun h => absurd h (by decide), fun h => absurd h.2 q⟩
    · rw [if_neg e, z2, bI_0]; exact ⟨fun h => absurd h (by decide), fun h => absurd h.1 e⟩)
theorem v_X1_ofOneRow_50_3 {K : Nat → Nat} {F : Nat → Nat → Nat} (a : Nat) (G_2 : XG) (G49 : XG) (p0 : Int32) (x48 : Int32) (l3_2 : Int32) (p1 : Int32) (N2 : Nat) (x28 : Int32) (x35 : Int32)
    (ha : K a = 3)
    (hG49 : G49 = cput G_2 (F a 0) p0.toNatClampNeg x48)
    (pz : ∀ t : Int, 0 ≤ t → t < l3_2.toInt → aI (G_2.2.1 (F a 1)) t = 0 ∧ aI (G_2.2.1 (F a 0)) t = 0)
    (he48 : x48 = (1 : Int32) <<< (p1 &&& 31))
    (e0 : 0 ≤ p0.toInt ∧ p0.toInt < 3 ∧ 0 ≤ p1.toInt ∧ p1.toInt < 30)
    (I2_0 : 0 ≤ l3_2.toInt ∧ l3_2.toInt ≤ 3)
    (I2_1 : (0 : Int) ≤ l3_2.toInt)
    (hm2 : 2147483648 - l3_2.toInt < (((N2) + 1 : Nat) : Int))
    (c4 : (3 : Int) ≤ l3_2.toInt)
    (t28 : (x28.toInt = 1 ∧ 0 ≤ p0.toInt ∧ p0.toInt < 3) ∨ (x28.toInt = 0 ∧ (p0.toInt < 0 ∨ 3 ≤ p0.toInt)))
    (c31 : ¬ (x28.toInt = 0))
    (t35 : (x35.toInt = 1 ∧ 0 ≤ p1.toInt ∧ p1.toInt < 30) ∨ (x35.toInt = 0 ∧ (p1.toInt < 0 ∨ 30 ≤ p1.toInt)))
    (c38 : ¬ (x35.toInt = 0))
    (c_G49_F_a_1 : G49.2.1 (F a 1) = G_2.2.1 (F a 1)) :
    ONb (aI (G49.2.1 (F a 1))) (aI (G49.2.1 (F a 0))) p0.toInt p1.toInt := by
  first | (exfalso; omega) | skip
  all_goals (
    intro t a1 a2 k b1 b2
    have u0 := aI_pu hG49 rfl rfl rfl (by omega) t a1
    obtain ⟨z1, z2⟩ := pz t a1 (by omega)
    have c1 := bI_one he48 rfl (by omega) k b1 (by omega)
    rw [c_G49_F_a_1, z1, u0, bI_0]
    refine ⟨rfl, ?_⟩
    by_cases e : t = p0.toInt
    · rw [if_pos e, c1]
      by_cases q : k = p1.toInt
      · rw [if_pos q]; exact ⟨fun _ => ⟨e, q⟩, fun _ => rfl⟩
      · rw [if_neg q]; exact ⟨fun h => absurd h (by decide), fun h => absurd h.2 q⟩
    · rw [if_neg e, z2, bI_0]; exact ⟨fun h => absurd h (by decide), fun h => absurd h.1 e⟩)
theorem v_X1_ofOneRow_24_4 {K : Nat → Nat} {F : Nat → Nat → Nat} (a : Nat) (G_2 : XG) (G13 : XG) (l3_2 : Int32) (G20 : XG) (p0 : Int32) (p1 : Int32) (N2 : Nat)
    (ha : K a = 3)
    (hG13 : G13 = cput G_2 (F a 1) l3_2.toNatClampNeg 0)
    (hG20 : G20 = cput G13 (F a 0) l3_2.toNatClampNeg 0)
    (pz : ∀ t : Int, 0 ≤ t → t < l3_2.toInt → aI (G_2.2.1 (F a 1)) t = 0 ∧ aI (G_2.2.1 (F a 0)) t = 0)
    (e0 : 0 ≤ p0.toInt ∧ p0.toInt < 3 ∧ 0 ≤ p1.toInt ∧ p1.toInt < 30)
    (I2_0 : 0 ≤ l3_2.toInt ∧ l3_2.toInt ≤ 3)
    (I2_1 : (0 : Int) ≤ l3_2.toInt)
    (hm2 : 2147483648 - l3_2.toInt < (((N2) + 1 : Nat) : Int))
    (c4 : ¬ ((3 : Int) ≤ l3_2.toInt))
    (c_G13_F_a_0 : G13.2.1 (F a 0) = G_2.2.1 (F a 0))
    (c_G20_F_a_1 : G20.2.1 (F a 1) = G13.2.1 (F a 1)) :
    ∀ t : Int, 0 ≤ t → t < (l3_2.toInt + 1) → aI (G20.2.1 (F a 1)) t = 0 ∧ aI (G20.2.1 (F a 0)) t = 0 := by
  intro t h1 h2
  have u1 := aI_pu hG13 rfl rfl (show ((0 : Int32)).toInt = 0 from by decide) (by omega) t h1
  have u0 := aI_pu hG20 c_G13_F_a_0 rfl (show ((0 : Int32)).toInt = 0 from by decide) (by omega) t h1
  rw [c_G20_F_a_1, u1, u0]
  by_cases e : t = l3_2.toInt
  · rw [if_pos e, if_pos e]; exact ⟨rfl, rfl⟩
  · rw [if_neg e, if_neg e]; exact pz t h1 (by omega)
theorem v_X1_ofOneRow_1_5 {K : Nat → Nat} {F : Nat → Nat → Nat} (a : Nat) (p0 : Int32) (p1 : Int32) (G : XG)
    (ha : K a = 3)
    (e0 : 0 ≤ p0.toInt ∧ p0.toInt < 3 ∧ 0 ≤ p1.toInt ∧ p1.toInt < 30) :
    ∀ t : Int, 0 ≤ t → t < (0 : Int) → aI (G.2.1 (F a 1)) t = 0 ∧ aI (G.2.1 (F a 0)) t = 0 := by
  intro t h1 h2; exact absurd h1 (by omega)
theorem v_X10_holdsOnPaper_85_1 {K : Nat → Nat} {F : Nat → Nat → Nat} (a : Nat) (G : XG) (G4 : XG) (G13 : XG) (G_18 : XG) (p0 : Int32) (p1 : Int32) (l3_18 : Int32) (N18 : Nat)
    (ha : K a = 12)
    (oq13 : ONb (aI (G13.2.1 (F (F a 11) 1))) (aI (G13.2.1 (F (F a 11) 0))) p0.toInt p1.toInt)
    (gp : qL G_18 F (F a 9) = gaL G (G.2.2.1 (F (F a 2) 1)) (vw (G.2.1 (F (F a 3) 0))) (vw (G.2.1 (F (F a 5) 0))) 0 (l3_18.toInt).toNat)
    (gn : ffL (qL G_18 F (F a 9)) = -1)
    (sb : 0 ≤ ((G.1 (F a 2) 2).toInt) ∧ ((G.1 (F a 2) 2).toInt) ≤ 12)
    (e0 : 0 ≤ p0.toInt ∧ p0.toInt < 3 ∧ 0 ≤ p1.toInt ∧ p1.toInt < 30)
    (t4 : ((G4.1 (F a 9) 6).toInt) = 0)
    (I18_0 : 0 ≤ l3_18.toInt ∧ l3_18.toInt ≤ ((G.1 (F a 2) 2).toInt))
    (I18_1 : 0 ≤ ((G_18.1 (F a 9) 6).toInt) ∧ ((G_18.1 (F a 9) 6).toInt) ≤ 90 * l3_18.toInt)
    (hm18 : 100 - l3_18.toInt < (((N18) + 1 : Nat) : Int))
    (c26 : ((G.1 (F a 2) 2).toInt) ≤ l3_18.toInt) :
    ((1 : Int) = 1 ∧ ffL (gaL G (G.2.2.1 (F (F a 2) 1)) (vw (G.2.1 (F (F a 3) 0))) (vw (G.2.1 (F (F a 5) 0))) 0 (((G.1 (F a 2) 2).toInt)).toNat) = -1) ∨ ((1 : Int) = 0 ∧ ffL (gaL G (G.2.2.1 (F (F a 2) 1)) (vw (G.2.1 (F (F a 3) 0))) (vw (G.2.1 (F (F a 5) 0))) 0 (((G.1 (F a 2) 2).toInt)).toNat) ≠ -1) := by
  exact Or.inl ⟨rfl, by rw [← show l3_18.toInt.toNat = ((G.1 (F a 2) 2).toInt).toNat from by omega, ← gp]; exact gn⟩
theorem v_X10_holdsOnPaper_81_2 {K : Nat → Nat} {F : Nat → Nat → Nat} (a : Nat) (G : XG) (G4 : XG) (G13 : XG) (G_18 : XG) (p0 : Int32) (p1 : Int32) (l3_18 : Int32) (x69 : Int32) (N18 : Nat)
    (ha : K a = 12)
    (oq13 : ONb (aI (G13.2.1 (F (F a 11) 1))) (aI (G13.2.1 (F (F a 11) 0))) p0.toInt p1.toInt)
    (gp : qL G_18 F (F a 9) = gaL G (G.2.2.1 (F (F a 2) 1)) (vw (G.2.1 (F (F a 3) 0))) (vw (G.2.1 (F (F a 5) 0))) 0 (l3_18.toInt).toNat)
    (gn : ffL (qL G_18 F (F a 9)) = -1)
    (hn34 : (l3_18.toInt < 0 ∨ ((G_18.1 (F a 2) 2).toInt) ≤ l3_18.toInt ∨ 12 ≤ l3_18.toInt) ∨ G_18.2.2.1 (F (F a 2) 1) (l3_18.toInt).toNat = none)
    (sb : 0 ≤ ((G.1 (F a 2) 2).toInt) ∧ ((G.1 (F a 2) 2).toInt) ≤ 12)
    (e0 : 0 ≤ p0.toInt ∧ p0.toInt < 3 ∧ 0 ≤ p1.toInt ∧ p1.toInt < 30)
    (t4 : ((G4.1 (F a 9) 6).toInt) = 0)
    (I18_0 : 0 ≤ l3_18.toInt ∧ l3_18.toInt ≤ ((G.1 (F a 2) 2).toInt))
    (I18_1 : 0 ≤ ((G_18.1 (F a 9) 6).toInt) ∧ ((G_18.1 (F a 9) 6).toInt) ≤ 90 * l3_18.toInt)
    (hm18 : 100 - l3_18.toInt < (((N18) + 1 : Nat) : Int))
    (c26 : ¬ (((G.1 (F a 2) 2).toInt) ≤ l3_18.toInt))
    (t69 : x69.toInt = -1 ∨ (0 ≤ x69.toInt ∧ x69.toInt < ((G_18.1 (F a 9) 6).toInt) ∧ (aI (G_18.2.1 (F (F a 9) 5)) (x69.toInt)) = 1))
    (c73 : x69.toInt = (-1 : Int))
    (r_G_18_F_F_a_2_1 : G_18.2.2.1 (F (F a 2) 1) = G.2.2.1 (F (F a 2) 1))
    (d_G_18_F_a_2_2 : G_18.1 (F a 2) 2 = G.1 (F a 2) 2) :
    qL G_18 F (F a 9) = gaL G (G.2.2.1 (F (F a 2) 1)) (vw (G.2.1 (F (F a 3) 0))) (vw (G.2.1 (F (F a 5) 0))) 0 (l3_18.toInt + 1).toNat := by
  have e : (l3_18.toInt + 1).toNat = l3_18.toInt.toNat + 1 := by omega
  rw [e, gaL_s, ← gp]
  first
    | (rw [r_G_18_F_F_a_2_1] at hs34
       rw [hs34, gaq_t (Or.inl rfl), oq62, D_G_18_q34])
    | (rw [d_G_18_F_a_2_2] at hn34
       rcases hn34 with h | h
       · exfalso; omega
       · rw [r_G_18_F_F_a_2_1] at h
         rw [h]
         exact (List.append_nil _).symm)
theorem v_X10_holdsOnPaper_81_3 {F : Nat → Nat → Nat} (a : Nat) (G_18 : XG) (x69 : Int32)
    (oq69 : ∀ j : Int, 0 ≤ j → j < ((G_18.1 (F a 9) 6).toInt) → (x69.toInt = -1 ∨ j < x69.toInt) → aI (G_18.2.1 (F (F a 9) 5)) j = 0)
    (t69 : x69.toInt = -1 ∨ (0 ≤ x69.toInt ∧ x69.toInt < ((G_18.1 (F a 9) 6).toInt) ∧ (aI (G_18.2.1 (F (F a 9) 5)) (x69.toInt)) = 1))
    (c73 : x69.toInt = (-1 : Int)) :
    ffL (qL G_18 F (F a 9)) = -1 := by
  exact (ff_list t69 oq69).symm.trans c73
theorem v_X10_holdsOnPaper_77_4 {K : Nat → Nat} {F : Nat → Nat → Nat} (a : Nat) (G : XG) (G4 : XG) (G13 : XG) (G_18 : XG) (p0 : Int32) (p1 : Int32) (l3_18 : Int32) (x69 : Int32) (N18 : Nat)
    (ha : K a = 12)
    (oq13 : ONb (aI (G13.2.1 (F (F a 11) 1))) (aI (G13.2.1 (F (F a 11) 0))) p0.toInt p1.toInt)
    (gp : qL G_18 F (F a 9) = gaL G (G.2.2.1 (F (F a 2) 1)) (vw (G.2.1 (F (F a 3) 0))) (vw (G.2.1 (F (F a 5) 0))) 0 (l3_18.toInt).toNat)
    (gn : ffL (qL G_18 F (F a 9)) = -1)
    (hn34 : (l3_18.toInt < 0 ∨ ((G_18.1 (F a 2) 2).toInt) ≤ l3_18.toInt ∨ 12 ≤ l3_18.toInt) ∨ G_18.2.2.1 (F (F a 2) 1) (l3_18.toInt).toNat = none)
    (oq69 : ∀ j : Int, 0 ≤ j → j < ((G_18.1 (F a 9) 6).toInt) → (x69.toInt = -1 ∨ j < x69.toInt) → aI (G_18.2.1 (F (F a 9) 5)) j = 0)
    (sb : 0 ≤ ((G.1 (F a 2) 2).toInt) ∧ ((G.1 (F a 2) 2).toInt) ≤ 12)
    (e0 : 0 ≤ p0.toInt ∧ p0.toInt < 3 ∧ 0 ≤ p1.toInt ∧ p1.toInt < 30)
    (t4 : ((G4.1 (F a 9) 6).toInt) = 0)
    (I18_0 : 0 ≤ l3_18.toInt ∧ l3_18.toInt ≤ ((G.1 (F a 2) 2).toInt))
    (I18_1 : 0 ≤ ((G_18.1 (F a 9) 6).toInt) ∧ ((G_18.1 (F a 9) 6).toInt) ≤ 90 * l3_18.toInt)
    (hm18 : 100 - l3_18.toInt < (((N18) + 1 : Nat) : Int))
    (c26 : ¬ (((G.1 (F a 2) 2).toInt) ≤ l3_18.toInt))
    (t69 : x69.toInt = -1 ∨ (0 ≤ x69.toInt ∧ x69.toInt < ((G_18.1 (F a 9) 6).toInt) ∧ (aI (G_18.2.1 (F (F a 9) 5)) (x69.toInt)) = 1))
    (c73 : ¬ (x69.toInt = (-1 : Int)))
    (r_G_18_F_F_a_2_1 : G_18.2.2.1 (F (F a 2) 1) = G.2.2.1 (F (F a 2) 1)) :
    ((0 : Int) = 1 ∧ ffL (gaL G (G.2.2.1 (F (F a 2) 1)) (vw (G.2.1 (F (F a 3) 0))) (vw (G.2.1 (F (F a 5) 0))) 0 (((G.1 (F a 2) 2).toInt)).toNat) = -1) ∨ ((0 : Int) = 0 ∧ ffL (gaL G (G.2.2.1 (F (F a 2) 1)) (vw (G.2.1 (F (F a 3) 0))) (vw (G.2.1 (F (F a 5) 0))) 0 (((G.1 (F a 2) 2).toInt)).toNat) ≠ -1) := by
  first
    | (have k : ffL (qL G62 F (F a 9)) ≠ -1 := fun h => c73 ((ff_list t69 oq69).trans h)
       rw [show qL G62 F (F a 9) = gaL G (G.2.2.1 (F (F a 2) 1)) (vw (G.2.1 (F (F a 3) 0))) (vw (G.2.1 (F (F a 5) 0))) 0 (l3_18.toInt.toNat + 1) from (by rw [gaL_s, ← gp]; rw [r_G_18_F_F_a_2_1] at hs34; rw [hs34, gaq_t (Or.inl rfl), oq62, D_G_18_q34])] at k
       exact Or.inr ⟨rfl, gaL_ff k (by omega)⟩)
    | exact absurd ((ff_list t69 oq69).trans gn) c73
theorem v_X10_holdsOnPaper_62_5 {F : Nat → Nat → Nat} (a : Nat) (G : XG) (G_18 : XG)
    (ron : RO (vw (G.2.1 (F (F a 3) 0))) (aI (G.2.1 (F (F a 3) 1))))
    (rop : RO (vw (G.2.1 (F (F a 5) 0))) (aI (G.2.1 (F (F a 5) 1))))
    (c_G_18_F_F_a_3_0 : G_18.2.1 (F (F a 3) 0) = G.2.1 (F (F a 3) 0))
    (c_G_18_F_F_a_3_1 : G_18.2.1 (F (F a 3) 1) = G.2.1 (F (F a 3) 1)) :
    RO (vw (G_18.2.1 (F (F a 3) 0))) (aI (G_18.2.1 (F (F a 3) 1))) := by simp only [c_G_18_F_F_a_3_0, c_G_18_F_F_a_3_1]; assumption
theorem v_X10_holdsOnPaper_62_6 {F : Nat → Nat → Nat} (a : Nat) (G : XG) (G_18 : XG)
    (ron : RO (vw (G.2.1 (F (F a 3) 0))) (aI (G.2.1 (F (F a 3) 1))))
    (rop : RO (vw (G.2.1 (F (F a 5) 0))) (aI (G.2.1 (F (F a 5) 1))))
    (c_G_18_F_F_a_5_0 : G_18.2.1 (F (F a 5) 0) = G.2.1 (F (F a 5) 0))
    (c_G_18_F_F_a_5_1 : G_18.2.1 (F (F a 5) 1) = G.2.1 (F (F a 5) 1)) :
    RO (vw (G_18.2.1 (F (F a 5) 0))) (aI (G_18.2.1 (F (F a 5) 1))) := by simp only [c_G_18_F_F_a_5_0, c_G_18_F_F_a_5_1]; assumption
theorem v_X10_holdsOnPaper_62_7 {K : Nat → Nat} {F : Nat → Nat → Nat} (G : XG) (a : Nat) (G_18 : XG) (l3_18 : Int32) (q34 : Nat)
    (bko : BKr K G (G.2.2.1 (F (F a 2) 1)))
    (hs34 : G_18.2.2.1 (F (F a 2) 1) (l3_18.toInt).toNat = some q34)
    (ht34 : 0 ≤ l3_18.toInt ∧ l3_18.toInt < ((G.1 (F a 2) 2).toInt) ∧ l3_18.toInt < 12)
    (r_G_18_F_F_a_2_1 : G_18.2.2.1 (F (F a 2) 1) = G.2.2.1 (F (F a 2) 1))
    (D_G_18_q34 : G_18.1 q34 = G.1 q34) :
    RW (G_18.1 q34) := by
  rw [D_G_18_q34]
  exact (bko l3_18.toInt.toNat q34 (by omega) (by rw [← r_G_18_F_F_a_2_1]; exact hs34)).2
theorem v_X10_holdsOnPaper_62_8 {F : Nat → Nat → Nat} (p0 : Int32) (p1 : Int32) (G : XG) (a : Nat) (G13 : XG) (G_18 : XG)
    (h1 : ∀ cg ch : Int → Int, ONb cg ch p0.toInt p1.toInt → CH (vw (G.2.1 (F (F a 3) 0))) (vw (G.2.1 (F (F a 5) 0))) cg ch)
    (oq13 : ONb (aI (G13.2.1 (F (F a 11) 1))) (aI (G13.2.1 (F (F a 11) 0))) p0.toInt p1.toInt)
    (c_G_18_F_F_a_11_0 : G_18.2.1 (F (F a 11) 0) = G13.2.1 (F (F a 11) 0))
    (c_G_18_F_F_a_11_1 : G_18.2.1 (F (F a 11) 1) = G13.2.1 (F (F a 11) 1))
    (c_G_18_F_F_a_3_0 : G_18.2.1 (F (F a 3) 0) = G.2.1 (F (F a 3) 0))
    (c_G_18_F_F_a_5_0 : G_18.2.1 (F (F a 5) 0) = G.2.1 (F (F a 5) 0)) :
    CH (vw (G_18.2.1 (F (F a 3) 0))) (vw (G_18.2.1 (F (F a 5) 0))) (aI (G_18.2.1 (F (F a 11) 1))) (aI (G_18.2.1 (F (F a 11) 0))) := by
  rw [c_G_18_F_F_a_3_0, c_G_18_F_F_a_5_0, c_G_18_F_F_a_11_1, c_G_18_F_F_a_11_0]
  exact h1 _ _ oq13
theorem v_X10_holdsOnPaper_81_9 {K : Nat → Nat} {F : Nat → Nat → Nat} (a : Nat) (q34 : Nat) (G : XG) (G4 : XG) (G13 : XG) (G_18 : XG) (G62 : XG) (p0 : Int32) (p1 : Int32) (l3_18 : Int32) (x69 : Int32) (N18 : Nat)
    (ha : K a = 12)
    (oq13 : ONb (aI (G13.2.1 (F (F a 11) 1))) (aI (G13.2.1 (F (F a 11) 0))) p0.toInt p1.toInt)
    (gp : qL G_18 F (F a 9) = gaL G (G.2.2.1 (F (F a 2) 1)) (vw (G.2.1 (F (F a 3) 0))) (vw (G.2.1 (F (F a 5) 0))) 0 (l3_18.toInt).toNat)
    (gn : ffL (qL G_18 F (F a 9)) = -1)
    (hs34 : G_18.2.2.1 (F (F a 2) 1) (l3_18.toInt).toNat = some q34)
    (oq62 : qL G62 F (F a 9) = qL G_18 F (F a 9) ++ uqs (vw (G.2.1 (F (F a 3) 0))) (vw (G.2.1 (F (F a 5) 0))) (G_18.1 q34))
    (sb : 0 ≤ ((G.1 (F a 2) 2).toInt) ∧ ((G.1 (F a 2) 2).toInt) ≤ 12)
    (e0 : 0 ≤ p0.toInt ∧ p0.toInt < 3 ∧ 0 ≤ p1.toInt ∧ p1.toInt < 30)
    (t4 : ((G4.1 (F a 9) 6).toInt) = 0)
    (I18_0 : 0 ≤ l3_18.toInt ∧ l3_18.toInt ≤ ((G.1 (F a 2) 2).toInt))
    (I18_1 : 0 ≤ ((G_18.1 (F a 9) 6).toInt) ∧ ((G_18.1 (F a 9) 6).toInt) ≤ 90 * l3_18.toInt)
    (hm18 : 100 - l3_18.toInt < (((N18) + 1 : Nat) : Int))
    (c26 : ¬ (((G.1 (F a 2) 2).toInt) ≤ l3_18.toInt))
    (ht34 : 0 ≤ l3_18.toInt ∧ l3_18.toInt < ((G.1 (F a 2) 2).toInt) ∧ l3_18.toInt < 12)
    (t62 : ((G_18.1 (F a 9) 6).toInt) ≤ ((G62.1 (F a 9) 6).toInt) ∧ ((G62.1 (F a 9) 6).toInt) ≤ ((G_18.1 (F a 9) 6).toInt) + 90)
    (t69 : x69.toInt = -1 ∨ (0 ≤ x69.toInt ∧ x69.toInt < ((G62.1 (F a 9) 6).toInt) ∧ (aI (G62.2.1 (F (F a 9) 5)) (x69.toInt)) = 1))
    (c73 : x69.toInt = (-1 : Int))
    (r_G_18_F_F_a_2_1 : G_18.2.2.1 (F (F a 2) 1) = G.2.2.1 (F (F a 2) 1))
    (D_G_18_q34 : G_18.1 q34 = G.1 q34) :
    qL G62 F (F a 9) = gaL G (G.2.2.1 (F (F a 2) 1)) (vw (G.2.1 (F (F a 3) 0))) (vw (G.2.1 (F (F a 5) 0))) 0 (l3_18.toInt + 1).toNat := by
  have e : (l3_18.toInt + 1).toNat = l3_18.toInt.toNat + 1 := by omega
  rw [e, gaL_s, ← gp]
  first
    | (rw [r_G_18_F_F_a_2_1] at hs34
       rw [hs34, gaq_t (Or.inl rfl), oq62, D_G_18_q34])
    | (rw [d_G_18_F_a_2_2] at hn34
       rcases hn34 with h | h
       · exfalso; omega
       · rw [r_G_18_F_F_a_2_1] at h
         rw [h]
         exact (List.append_nil _).symm)
theorem v_X10_holdsOnPaper_81_10 {F : Nat → Nat → Nat} (a : Nat) (G62 : XG) (x69 : Int32)
    (oq69 : ∀ j : Int, 0 ≤ j → j < ((G62.1 (F a 9) 6).toInt) → (x69.toInt = -1 ∨ j < x69.toInt) → aI (G62.2.1 (F (F a 9) 5)) j = 0)
    (t69 : x69.toInt = -1 ∨ (0 ≤ x69.toInt ∧ x69.toInt < ((G62.1 (F a 9) 6).toInt) ∧ (aI (G62.2.1 (F (F a 9) 5)) (x69.toInt)) = 1))
    (c73 : x69.toInt = (-1 : Int)) :
    ffL (qL G62 F (F a 9)) = -1 := by
  exact (ff_list t69 oq69).symm.trans c73
theorem v_X10_holdsOnPaper_77_11 {K : Nat → Nat} {F : Nat → Nat → Nat} (a : Nat) (q34 : Nat) (G : XG) (G4 : XG) (G13 : XG) (G_18 : XG) (G62 : XG) (p0 : Int32) (p1 : Int32) (l3_18 : Int32) (x69 : Int32) (N18 : Nat)
    (ha : K a = 12)
    (oq13 : ONb (aI (G13.2.1 (F (F a 11) 1))) (aI (G13.2.1 (F (F a 11) 0))) p0.toInt p1.toInt)
    (gp : qL G_18 F (F a 9) = gaL G (G.2.2.1 (F (F a 2) 1)) (vw (G.2.1 (F (F a 3) 0))) (vw (G.2.1 (F (F a 5) 0))) 0 (l3_18.toInt).toNat)
    (gn : ffL (qL G_18 F (F a 9)) = -1)
    (hs34 : G_18.2.2.1 (F (F a 2) 1) (l3_18.toInt).toNat = some q34)
    (oq62 : qL G62 F (F a 9) = qL G_18 F (F a 9) ++ uqs (vw (G.2.1 (F (F a 3) 0))) (vw (G.2.1 (F (F a 5) 0))) (G_18.1 q34))
    (oq69 : ∀ j : Int, 0 ≤ j → j < ((G62.1 (F a 9) 6).toInt) → (x69.toInt = -1 ∨ j < x69.toInt) → aI (G62.2.1 (F (F a 9) 5)) j = 0)
    (sb : 0 ≤ ((G.1 (F a 2) 2).toInt) ∧ ((G.1 (F a 2) 2).toInt) ≤ 12)
    (e0 : 0 ≤ p0.toInt ∧ p0.toInt < 3 ∧ 0 ≤ p1.toInt ∧ p1.toInt < 30)
    (t4 : ((G4.1 (F a 9) 6).toInt) = 0)
    (I18_0 : 0 ≤ l3_18.toInt ∧ l3_18.toInt ≤ ((G.1 (F a 2) 2).toInt))
    (I18_1 : 0 ≤ ((G_18.1 (F a 9) 6).toInt) ∧ ((G_18.1 (F a 9) 6).toInt) ≤ 90 * l3_18.toInt)
    (hm18 : 100 - l3_18.toInt < (((N18) + 1 : Nat) : Int))
    (c26 : ¬ (((G.1 (F a 2) 2).toInt) ≤ l3_18.toInt))
    (ht34 : 0 ≤ l3_18.toInt ∧ l3_18.toInt < ((G.1 (F a 2) 2).toInt) ∧ l3_18.toInt < 12)
    (t62 : ((G_18.1 (F a 9) 6).toInt) ≤ ((G62.1 (F a 9) 6).toInt) ∧ ((G62.1 (F a 9) 6).toInt) ≤ ((G_18.1 (F a 9) 6).toInt) + 90)
    (t69 : x69.toInt = -1 ∨ (0 ≤ x69.toInt ∧ x69.toInt < ((G62.1 (F a 9) 6).toInt) ∧ (aI (G62.2.1 (F (F a 9) 5)) (x69.toInt)) = 1))
    (c73 : ¬ (x69.toInt = (-1 : Int)))
    (r_G_18_F_F_a_2_1 : G_18.2.2.1 (F (F a 2) 1) = G.2.2.1 (F (F a 2) 1))
    (D_G_18_q34 : G_18.1 q34 = G.1 q34) :
    ((0 : Int) = 1 ∧ ffL (gaL G (G.2.2.1 (F (F a 2) 1)) (vw (G.2.1 (F (F a 3) 0))) (vw (G.2.1 (F (F a 5) 0))) 0 (((G.1 (F a 2) 2).toInt)).toNat) = -1) ∨ ((0 : Int) = 0 ∧ ffL (gaL G (G.2.2.1 (F (F a 2) 1)) (vw (G.2.1 (F (F a 3) 0))) (vw (G.2.1 (F (F a 5) 0))) 0 (((G.1 (F a 2) 2).toInt)).toNat) ≠ -1) := by
  first
    | (have k : ffL (qL G62 F (F a 9)) ≠ -1 := fun h => c73 ((ff_list t69 oq69).trans h)
       rw [show qL G62 F (F a 9) = gaL G (G.2.2.1 (F (F a 2) 1)) (vw (G.2.1 (F (F a 3) 0))) (vw (G.2.1 (F (F a 5) 0))) 0 (l3_18.toInt.toNat + 1) from (by rw [gaL_s, ← gp]; rw [r_G_18_F_F_a_2_1] at hs34; rw [hs34, gaq_t (Or.inl rfl), oq62, D_G_18_q34])] at k
       exact Or.inr ⟨rfl, gaL_ff k (by omega)⟩)
    | exact absurd ((ff_list t69 oq69).trans gn) c73
theorem v_X10_holdsOnPaper_17_12 {F : Nat → Nat → Nat} (a : Nat) (G : XG) (G4 : XG) (G13 : XG)
    (t4 : ((G4.1 (F a 9) 6).toInt) = 0)
    (d_G13_F_a_9_6 : G13.1 (F a 9) 6 = G4.1 (F a 9) 6) :
    qL G13 F (F a 9) = gaL G (G.2.2.1 (F (F a 2) 1)) (vw (G.2.1 (F (F a 3) 0))) (vw (G.2.1 (F (F a 5) 0))) 0 (0 : Int).toNat := by
  show lst _ (G13.1 (F a 9) 6).toInt.toNat = []
  rw [d_G13_F_a_9_6, t4]
  rfl
theorem v_X10_holdsOnPaper_17_13 {F : Nat → Nat → Nat} (a : Nat) (G4 : XG) (G13 : XG)
    (t4 : ((G4.1 (F a 9) 6).toInt) = 0)
    (d_G13_F_a_9_6 : G13.1 (F a 9) 6 = G4.1 (F a 9) 6) :
    ffL (qL G13 F (F a 9)) = -1 := by
  have e : qL G13 F (F a 9) = [] := by
    show lst _ (G13.1 (F a 9) 6).toInt.toNat = []
    rw [d_G13_F_a_9_6, t4]
    rfl
  rw [e]
  rfl
theorem v_X10_least_6_1 {F : Nat → Nat → Nat} (a : Nat) (G : XG)
    (ron : RO (vw (G.2.1 (F (F a 3) 0))) (aI (G.2.1 (F (F a 3) 1)))) :
    RO (vw (G.2.1 (F (F a 3) 0))) (aI (G.2.1 (F (F a 3) 1))) := by exact ron
theorem v_X10_least_22_2 {K : Nat → Nat} {F : Nat → Nat → Nat} (a : Nat) (G : XG) (p0 : Int32) (p1 : Int32) (x6 : Int32) (p2 : Int32)
    (ha : K a = 12)
    (sb : 0 ≤ ((G.1 (F a 2) 2).toInt) ∧ ((G.1 (F a 2) 2).toInt) ≤ 12)
    (z5 : ¬ (0 ≤ p0.toInt ∧ p0.toInt < 3 ∧ 0 ≤ p1.toInt ∧ p1.toInt < 30) → (cel (vw (G.2.1 (F (F a 3) 0))) (p0.toInt) (p1.toInt) 0) = -2000)
    (t6 : (x6.toInt = 1 ∧ (cel (vw (G.2.1 (F (F a 3) 0))) (p0.toInt) (p1.toInt) 0) ≠ -2000) ∨ (x6.toInt = 0 ∧ (cel (vw (G.2.1 (F (F a 3) 0))) (p0.toInt) (p1.toInt) 0) = -2000))
    (c9 : x6.toInt = 0) :
    (¬ (cel (vw (G.2.1 (F (F a 3) 0))) p0.toInt p1.toInt 0 ≠ -2000 ∧ 0 ≤ p2.toInt ∧ p2.toInt < 3) ∧ (-2147483648 : Int) = -2147483648) ∨ ((cel (vw (G.2.1 (F (F a 3) 0))) p0.toInt p1.toInt 0 ≠ -2000 ∧ 0 ≤ p2.toInt ∧ p2.toInt < 3) ∧ LsS (fun v => ffL (gaL G (G.2.2.1 (F (F a 2) 1)) (vw (G.2.1 (F (F a 3) 0))) (rset (vw (G.2.1 (F (F a 3) 0))) (90 * p0.toInt + 30 * p2.toInt + p1.toInt) v) 0 (((G.1 (F a 2) 2).toInt)).toNat) = -1) (cel (vw (G.2.1 (F (F a 3) 0))) p0.toInt p1.toInt p2.toInt) (-2147483648 : Int)) := by
  exact Or.inl ⟨by omega, rfl⟩
theorem v_X10_least_43_3 {F : Nat → Nat → Nat} (a : Nat) (G : XG)
    (ron : RO (vw (G.2.1 (F (F a 3) 0))) (aI (G.2.1 (F (F a 3) 1)))) :
    RO (vw (G.2.1 (F (F a 3) 0))) (aI (G.2.1 (F (F a 3) 1))) := by exact ron
theorem v_X10_least_97_4 {K : Nat → Nat} {F : Nat → Nat → Nat} (a : Nat) (G : XG) (G_50 : XG) (p0 : Int32) (p1 : Int32) (p2 : Int32) (l5_50 : Int32) (x6 : Int32) (x13 : Int32) (N50 : Nat)
    (ha : K a = 12)
    (ph : cel (vw (G_50.2.1 (F (F a 5) 0))) p0.toInt p1.toInt 0 ≠ -2000)
    (lp : ∀ v : Int, -99 ≤ v → v < l5_50.toInt → v ≠ cel (vw (G.2.1 (F (F a 3) 0))) p0.toInt p1.toInt p2.toInt → ffL (gaL G (G.2.2.1 (F (F a 2) 1)) (vw (G.2.1 (F (F a 3) 0))) (rset (vw (G.2.1 (F (F a 3) 0))) (90 * p0.toInt + 30 * p2.toInt + p1.toInt) v) 0 ((G.1 (F a 2) 2).toInt).toNat) ≠ -1)
    (sb : 0 ≤ ((G.1 (F a 2) 2).toInt) ∧ ((G.1 (F a 2) 2).toInt) ≤ 12)
    (z5 : ¬ (0 ≤ p0.toInt ∧ p0.toInt < 3 ∧ 0 ≤ p1.toInt ∧ p1.toInt < 30) → (cel (vw (G.2.1 (F (F a 3) 0))) (p0.toInt) (p1.toInt) 0) = -2000)
    (t6 : (x6.toInt = 1 ∧ (cel (vw (G.2.1 (F (F a 3) 0))) (p0.toInt) (p1.toInt) 0) ≠ -2000) ∨ (x6.toInt = 0 ∧ (cel (vw (G.2.1 (F (F a 3) 0))) (p0.toInt) (p1.toInt) 0) = -2000))
    (c9 : ¬ (x6.toInt = 0))
    (t13 : (x13.toInt = 1 ∧ 0 ≤ p2.toInt ∧ p2.toInt < 3) ∨ (x13.toInt = 0 ∧ (p2.toInt < 0 ∨ 3 ≤ p2.toInt)))
    (c16 : x13.toInt ≠ 0)
    (I50_0 : -99 ≤ l5_50.toInt ∧ l5_50.toInt ≤ 100)
    (hm50 : 200 - l5_50.toInt < (((N50) + 1 : Nat) : Int))
    (c54 : (99 : Int) < l5_50.toInt) :
    (¬ (cel (vw (G.2.1 (F (F a 3) 0))) p0.toInt p1.toInt 0 ≠ -2000 ∧ 0 ≤ p2.toInt ∧ p2.toInt < 3) ∧ (-2147483648 : Int) = -2147483648) ∨ ((cel (vw (G.2.1 (F (F a 3) 0))) p0.toInt p1.toInt 0 ≠ -2000 ∧ 0 ≤ p2.toInt ∧ p2.toInt < 3) ∧ LsS (fun v => ffL (gaL G (G.2.2.1 (F (F a 2) 1)) (vw (G.2.1 (F (F a 3) 0))) (rset (vw (G.2.1 (F (F a 3) 0))) (90 * p0.toInt + 30 * p2.toInt + p1.toInt) v) 0 (((G.1 (F a 2) 2).toInt)).toNat) = -1) (cel (vw (G.2.1 (F (F a 3) 0))) p0.toInt p1.toInt p2.toInt) (-2147483648 : Int)) := by
  exact Or.inr ⟨by omega, LsS_no (fun v a1 a2 a3 => lp v a1 (by omega) a3)⟩
theorem v_X10_least_66_5 {F : Nat → Nat → Nat} (a : Nat) (G_50 : XG)
    (ro : RO (vw (G_50.2.1 (F (F a 5) 0))) (aI (G_50.2.1 (F (F a 5) 1)))) :
    RO (vw (G_50.2.1 (F (F a 5) 0))) (aI (G_50.2.1 (F (F a 5) 1))) := by exact ro
theorem v_X10_least_91_6 {F : Nat → Nat → Nat} (G_50 : XG) (a : Nat) (p0 : Int32) (p2 : Int32) (p1 : Int32) (G : XG) (G66 : XG) (l5_50 : Int32)
    (pp : ∀ v : Int, rset (vw (G_50.2.1 (F (F a 5) 0))) (90 * p0.toInt + 30 * p2.toInt + p1.toInt) v = rset (vw (G.2.1 (F (F a 3) 0))) (90 * p0.toInt + 30 * p2.toInt + p1.toInt) v)
    (ph : cel (vw (G_50.2.1 (F (F a 5) 0))) p0.toInt p1.toInt 0 ≠ -2000)
    (oq66 : (vw (G66.2.1 (F (F a 5) 0))) = if cel (vw (G_50.2.1 (F (F a 5) 0))) (p0.toInt) (p1.toInt) 0 ≠ -2000 then rset (vw (G_50.2.1 (F (F a 5) 0))) (90 * (p0.toInt) + 30 * (p2.toInt) + (p1.toInt)) (l5_50.toInt) else (vw (G_50.2.1 (F (F a 5) 0)))) :
    ∀ v : Int, rset (vw (G66.2.1 (F (F a 5) 0))) (90 * p0.toInt + 30 * p2.toInt + p1.toInt) v = rset (vw (G.2.1 (F (F a 3) 0))) (90 * p0.toInt + 30 * p2.toInt + p1.toInt) v := by
  intro v
  (try rw [c_G79_F_F_a_5_0])
  rw [oq66, if_pos ph, rset_rset]
  exact pp v
theorem v_X10_least_91_7 {F : Nat → Nat → Nat} (G66 : XG) (a : Nat) (G_50 : XG)
    (oq66a : RO (vw (G66.2.1 (F (F a 5) 0))) (aI (G66.2.1 (F (F a 5) 1))))
    (c_G66_F_F_a_5_1 : G66.2.1 (F (F a 5) 1) = G_50.2.1 (F (F a 5) 1)) :
    RO (vw (G66.2.1 (F (F a 5) 0))) (aI (G_50.2.1 (F (F a 5) 1))) := by
  (try rw [c_G79_F_F_a_5_0])
  (try rw [c_G79_F_F_a_5_1])
  (try rw [c_G66_F_F_a_5_1] at oq66a)
  exact oq66a
theorem v_X10_least_91_8 {F : Nat → Nat → Nat} (G_50 : XG) (a : Nat) (p0 : Int32) (p1 : Int32) (G66 : XG) (p2 : Int32) (l5_50 : Int32) (G : XG) (x6 : Int32) (x13 : Int32)
    (ph : cel (vw (G_50.2.1 (F (F a 5) 0))) p0.toInt p1.toInt 0 ≠ -2000)
    (oq66 : (vw (G66.2.1 (F (F a 5) 0))) = if cel (vw (G_50.2.1 (F (F a 5) 0))) (p0.toInt) (p1.toInt) 0 ≠ -2000 then rset (vw (G_50.2.1 (F (F a 5) 0))) (90 * (p0.toInt) + 30 * (p2.toInt) + (p1.toInt)) (l5_50.toInt) else (vw (G_50.2.1 (F (F a 5) 0))))
    (z5 : ¬ (0 ≤ p0.toInt ∧ p0.toInt < 3 ∧ 0 ≤ p1.toInt ∧ p1.toInt < 30) → (cel (vw (G.2.1 (F (F a 3) 0))) (p0.toInt) (p1.toInt) 0) = -2000)
    (t6 : (x6.toInt = 1 ∧ (cel (vw (G.2.1 (F (F a 3) 0))) (p0.toInt) (p1.toInt) 0) ≠ -2000) ∨ (x6.toInt = 0 ∧ (cel (vw (G.2.1 (F (F a 3) 0))) (p0.toInt) (p1.toInt) 0) = -2000))
    (c9 : ¬ (x6.toInt = 0))
    (t13 : (x13.toInt = 1 ∧ 0 ≤ p2.toInt ∧ p2.toInt < 3) ∨ (x13.toInt = 0 ∧ (p2.toInt < 0 ∨ 3 ≤ p2.toInt)))
    (c16 : x13.toInt ≠ 0)
    (I50_0 : -99 ≤ l5_50.toInt ∧ l5_50.toInt ≤ 100)
    (c54 : ¬ ((99 : Int) < l5_50.toInt)) :
    cel (vw (G66.2.1 (F (F a 5) 0))) p0.toInt p1.toInt 0 ≠ -2000 := by
  (try rw [c_G79_F_F_a_5_0])
  rw [oq66, if_pos ph]
  exact cel_rset_ne (by omega) ph (by omega)
theorem v_X10_least_91_9 {K : Nat → Nat} {F : Nat → Nat → Nat} (a : Nat) (G : XG) (G66 : XG) (G_50 : XG) (p0 : Int32) (p1 : Int32) (p2 : Int32) (l5_50 : Int32) (x6 : Int32) (x13 : Int32) (N50 : Nat)
    (ha : K a = 12)
    (hk9999 : K (F a 11) = 3)
    (hj9999 : F (F a 11) 99 = 0)
    (hk9999a : K (F a 9) = 6)
    (hj9999a : F (F a 9) 99 = 1)
    (hk9999b : K (F (F a 11) 0) = 21)
    (hj9999b : F (F (F a 11) 0) 99 = 100)
    (hk9999c : K (F (F a 11) 1) = 21)
    (hj9999c : F (F (F a 11) 1) 99 = 101)
    (hk9999d : K (F (F a 11) 2) = 24)
    (hj9999d : F (F (F a 11) 2) 99 = 4)
    (hk9999e : K (F (F a 9) 0) = 22)
    (hj9999f : F (F (F a 9) 0) 99 = 10 * 1 + 0)
    (hk9999f : K (F (F a 9) 1) = 22)
    (hj9999h : F (F (F a 9) 1) 99 = 10 * 1 + 1)
    (hk9999g : K (F (F a 9) 2) = 22)
    (hj9999j : F (F (F a 9) 2) 99 = 10 * 1 + 2)
    (hk9999h : K (F (F a 9) 3) = 22)
    (hj9999l : F (F (F a 9) 3) 99 = 10 * 1 + 3)
    (hk9999i : K (F (F a 9) 4) = 23)
    (hj9999n : F (F (F a 9) 4) 99 = 10 * 1 + 4)
    (hk9999j : K (F (F a 9) 5) = 23)
    (hj9999p : F (F (F a 9) 5) 99 = 10 * 1 + 5)
    (hk9999k : K (F a 5) = 8)
    (hj9999q : F (F a 5) 99 = 2)
    (hk9999l : K (F (F a 5) 0) = 20)
    (hj9999s : F (F (F a 5) 0) 99 = 2)
    (hk9999m : K (F (F a 5) 1) = 21)
    (hj9999u : F (F (F a 5) 1) 99 = 2)
    (hk9999n : K (F a 2) = 2)
    (hj9999v : F (F a 2) 99 = 0)
    (hk9999o : K (F (F a 2) 1) = 15)
    (hj9999w : F (F (F a 2) 1) 99 = 1)
    (hk9999p : K (F a 3) = 8)
    (hj9999y : F (F a 3) 99 = 0)
    (hk9999q : K (F (F a 3) 0) = 20)
    (hj9999z26 : F (F (F a 3) 0) 99 = 0)
    (hk9999r : K (F (F a 3) 1) = 21)
    (hj9999z28 : F (F (F a 3) 1) 99 = 0)
    (hfr : XFr [(F a 11, 3), (F a 9, 6)] [F (F a 11) 0, F (F a 11) 1, F (F a 11) 2, F (F a 9) 0, F (F a 9) 1, F (F a 9) 2, F (F a 9) 3, F (F a 9) 4, F (F a 9) 5, F (F a 5) 0, F (F a 5) 1] [] G G66)
    (bko : BKr K G (G.2.2.1 (F (F a 2) 1)))
    (pp : ∀ v : Int, rset (vw (G_50.2.1 (F (F a 5) 0))) (90 * p0.toInt + 30 * p2.toInt + p1.toInt) v = rset (vw (G.2.1 (F (F a 3) 0))) (90 * p0.toInt + 30 * p2.toInt + p1.toInt) v)
    (ph : cel (vw (G_50.2.1 (F (F a 5) 0))) p0.toInt p1.toInt 0 ≠ -2000)
    (lp : ∀ v : Int, -99 ≤ v → v < l5_50.toInt → v ≠ cel (vw (G.2.1 (F (F a 3) 0))) p0.toInt p1.toInt p2.toInt → ffL (gaL G (G.2.2.1 (F (F a 2) 1)) (vw (G.2.1 (F (F a 3) 0))) (rset (vw (G.2.1 (F (F a 3) 0))) (90 * p0.toInt + 30 * p2.toInt + p1.toInt) v) 0 ((G.1 (F a 2) 2).toInt).toNat) ≠ -1)
    (oq66 : (vw (G66.2.1 (F (F a 5) 0))) = if cel (vw (G_50.2.1 (F (F a 5) 0))) (p0.toInt) (p1.toInt) 0 ≠ -2000 then rset (vw (G_50.2.1 (F (F a 5) 0))) (90 * (p0.toInt) + 30 * (p2.toInt) + (p1.toInt)) (l5_50.toInt) else (vw (G_50.2.1 (F (F a 5) 0))))
    (sb : 0 ≤ ((G.1 (F a 2) 2).toInt) ∧ ((G.1 (F a 2) 2).toInt) ≤ 12)
    (z5 : ¬ (0 ≤ p0.toInt ∧ p0.toInt < 3 ∧ 0 ≤ p1.toInt ∧ p1.toInt < 30) → (cel (vw (G.2.1 (F (F a 3) 0))) (p0.toInt) (p1.toInt) 0) = -2000)
    (t6 : (x6.toInt = 1 ∧ (cel (vw (G.2.1 (F (F a 3) 0))) (p0.toInt) (p1.toInt) 0) ≠ -2000) ∨ (x6.toInt = 0 ∧ (cel (vw (G.2.1 (F (F a 3) 0))) (p0.toInt) (p1.toInt) 0) = -2000))
    (c9 : ¬ (x6.toInt = 0))
    (t13 : (x13.toInt = 1 ∧ 0 ≤ p2.toInt ∧ p2.toInt < 3) ∨ (x13.toInt = 0 ∧ (p2.toInt < 0 ∨ 3 ≤ p2.toInt)))
    (c16 : x13.toInt ≠ 0)
    (I50_0 : -99 ≤ l5_50.toInt ∧ l5_50.toInt ≤ 100)
    (hm50 : 200 - l5_50.toInt < (((N50) + 1 : Nat) : Int))
    (c54 : ¬ ((99 : Int) < l5_50.toInt))
    (c73 : l5_50.toInt = (cel (vw (G.2.1 (F (F a 3) 0))) (p0.toInt) (p1.toInt) (p2.toInt)))
    (r_G66_F_F_a_2_1 : G66.2.2.1 (F (F a 2) 1) = G.2.2.1 (F (F a 2) 1)) :
    ∀ v : Int, -99 ≤ v → v < (l5_50.toInt + 1) → v ≠ cel (vw (G.2.1 (F (F a 3) 0))) p0.toInt p1.toInt p2.toInt → ffL (gaL G (G.2.2.1 (F (F a 2) 1)) (vw (G.2.1 (F (F a 3) 0))) (rset (vw (G.2.1 (F (F a 3) 0))) (90 * p0.toInt + 30 * p2.toInt + p1.toInt) v) 0 ((G.1 (F a 2) 2).toInt).toNat) ≠ -1 := by
  first
    | (intro v a1 a2 a3
       exact lp v a1 (by omega) a3)
    | (have hd : ∀ p, p ∈ [(F a 11, 3), (F a 9, 6)] → K p.1 ≠ 9 := (List.forall_mem_cons.mpr ⟨(show K (F a 11) ≠ 9 by omega), List.forall_mem_cons.mpr ⟨(show K (F a 9) ≠ 9 by omega), fun _ h => by cases h⟩⟩)
       have hq : ∀ q : Nat, K q = 9 → G66.1 q = G.1 q := fun q hk => (hF79.rule hd hk).symm.trans (hfr.rule hd hk)
       have hc : ∀ (i q : Nat), i < ((G.1 (F a 2) 2).toInt).toNat → G.2.2.1 (F (F a 2) 1) i = some q → G66.1 q = G.1 q := fun i q hi hq9 => hq q (bko i q (by omega) hq9).1
       rw [oq66, if_pos ph, pp, r_G66_F_F_a_2_1, gaL_cg hc] at oq79
       intro v a1 a2 a3
       by_cases e : v = l5_50.toInt
       · rw [e]; exact (oq79.resolve_left (fun h => absurd h.1 (by omega))).2
       · exact lp v a1 (by omega) a3)
theorem v_X10_least_79_10 {F : Nat → Nat → Nat} (a : Nat) (G : XG) (G66 : XG) (G43 : XG) (G_50 : XG)
    (ron : RO (vw (G.2.1 (F (F a 3) 0))) (aI (G.2.1 (F (F a 3) 1))))
    (oq43a : RO (vw (G43.2.1 (F (F a 5) 0))) (aI (G43.2.1 (F (F a 5) 1))))
    (ro : RO (vw (G_50.2.1 (F (F a 5) 0))) (aI (G_50.2.1 (F (F a 5) 1))))
    (oq66a : RO (vw (G66.2.1 (F (F a 5) 0))) (aI (G66.2.1 (F (F a 5) 1))))
    (c_G66_F_F_a_3_0 : G66.2.1 (F (F a 3) 0) = G.2.1 (F (F a 3) 0))
    (c_G66_F_F_a_3_1 : G66.2.1 (F (F a 3) 1) = G.2.1 (F (F a 3) 1)) :
    RO (vw (G66.2.1 (F (F a 3) 0))) (aI (G66.2.1 (F (F a 3) 1))) := by simp only [c_G66_F_F_a_3_0, c_G66_F_F_a_3_1]; assumption
theorem v_X10_least_79_11 {F : Nat → Nat → Nat} (G66 : XG) (a : Nat)
    (oq66a : RO (vw (G66.2.1 (F (F a 5) 0))) (aI (G66.2.1 (F (F a 5) 1)))) :
    RO (vw (G66.2.1 (F (F a 5) 0))) (aI (G66.2.1 (F (F a 5) 1))) := by
  exact oq66a
theorem v_X10_least_79_12 {K : Nat → Nat} {F : Nat → Nat → Nat} (a : Nat) (G : XG) (G66 : XG) (G43 : XG) (G_50 : XG) (x30 : Int32) (p0 : Int32) (p1 : Int32) (p2 : Int32) (l5_50 : Int32) (x6 : Int32) (x13 : Int32) (N50 : Nat)
    (ha : K a = 12)
    (hk9999 : K (F a 11) = 3)
    (hj9999 : F (F a 11) 99 = 0)
    (hk9999a : K (F a 9) = 6)
    (hj9999a : F (F a 9) 99 = 1)
    (hk9999b : K (F (F a 11) 0) = 21)
    (hj9999b : F (F (F a 11) 0) 99 = 100)
    (hk9999c : K (F (F a 11) 1) = 21)
    (hj9999c : F (F (F a 11) 1) 99 = 101)
    (hk9999d : K (F (F a 11) 2) = 24)
    (hj9999d : F (F (F a 11) 2) 99 = 4)
    (hk9999e : K (F (F a 9) 0) = 22)
    (hj9999f : F (F (F a 9) 0) 99 = 10 * 1 + 0)
    (hk9999f : K (F (F a 9) 1) = 22)
    (hj9999h : F (F (F a 9) 1) 99 = 10 * 1 + 1)
    (hk9999g : K (F (F a 9) 2) = 22)
    (hj9999j : F (F (F a 9) 2) 99 = 10 * 1 + 2)
    (hk9999h : K (F (F a 9) 3) = 22)
    (hj9999l : F (F (F a 9) 3) 99 = 10 * 1 + 3)
    (hk9999i : K (F (F a 9) 4) = 23)
    (hj9999n : F (F (F a 9) 4) 99 = 10 * 1 + 4)
    (hk9999j : K (F (F a 9) 5) = 23)
    (hj9999p : F (F (F a 9) 5) 99 = 10 * 1 + 5)
    (hk9999k : K (F a 5) = 8)
    (hj9999q : F (F a 5) 99 = 2)
    (hk9999l : K (F (F a 5) 0) = 20)
    (hj9999s : F (F (F a 5) 0) 99 = 2)
    (hk9999m : K (F (F a 5) 1) = 21)
    (hj9999u : F (F (F a 5) 1) 99 = 2)
    (hk9999n : K (F a 2) = 2)
    (hj9999v : F (F a 2) 99 = 0)
    (hk9999o : K (F (F a 2) 1) = 15)
    (hj9999w : F (F (F a 2) 1) 99 = 1)
    (hk9999p : K (F a 3) = 8)
    (hj9999y : F (F a 3) 99 = 0)
    (hk9999q : K (F (F a 3) 0) = 20)
    (hj9999z26 : F (F (F a 3) 0) 99 = 0)
    (hk9999r : K (F (F a 3) 1) = 21)
    (hj9999z28 : F (F (F a 3) 1) 99 = 0)
    (hfr : XFr [(F a 11, 3), (F a 9, 6)] [F (F a 11) 0, F (F a 11) 1, F (F a 11) 2, F (F a 9) 0, F (F a 9) 1, F (F a 9) 2, F (F a 9) 3, F (F a 9) 4, F (F a 9) 5, F (F a 5) 0, F (F a 5) 1] [] G G66)
    (hF43 : XFr [] [F (F a 5) 0, F (F a 5) 1] [] G G43)
    (hF_50 : XFr [(F a 11, 3), (F a 9, 6)] [F (F a 11) 0, F (F a 11) 1, F (F a 11) 2, F (F a 9) 0, F (F a 9) 1, F (F a 9) 2, F (F a 9) 3, F (F a 9) 4, F (F a 9) 5, F (F a 5) 0, F (F a 5) 1] [] G43 G_50)
    (hF66 : XFr [] [F (F a 5) 0] [] G_50 G66)
    (ron : RO (vw (G.2.1 (F (F a 3) 0))) (aI (G.2.1 (F (F a 3) 1))))
    (bko : BKr K G (G.2.2.1 (F (F a 2) 1)))
    (t30 : x30.toInt = (cel (vw (G.2.1 (F (F a 3) 0))) (p0.toInt) (p1.toInt) (p2.toInt)))
    (oq43 : (vw (G43.2.1 (F (F a 5) 0))) = (vw (G.2.1 (F (F a 3) 0))))
    (oq43a : RO (vw (G43.2.1 (F (F a 5) 0))) (aI (G43.2.1 (F (F a 5) 1))))
    (pp : ∀ v : Int, rset (vw (G_50.2.1 (F (F a 5) 0))) (90 * p0.toInt + 30 * p2.toInt + p1.toInt) v = rset (vw (G.2.1 (F (F a 3) 0))) (90 * p0.toInt + 30 * p2.toInt + p1.toInt) v)
    (ro : RO (vw (G_50.2.1 (F (F a 5) 0))) (aI (G_50.2.1 (F (F a 5) 1))))
    (ph : cel (vw (G_50.2.1 (F (F a 5) 0))) p0.toInt p1.toInt 0 ≠ -2000)
    (lp : ∀ v : Int, -99 ≤ v → v < l5_50.toInt → v ≠ cel (vw (G.2.1 (F (F a 3) 0))) p0.toInt p1.toInt p2.toInt → ffL (gaL G (G.2.2.1 (F (F a 2) 1)) (vw (G.2.1 (F (F a 3) 0))) (rset (vw (G.2.1 (F (F a 3) 0))) (90 * p0.toInt + 30 * p2.toInt + p1.toInt) v) 0 ((G.1 (F a 2) 2).toInt).toNat) ≠ -1)
    (oq66 : (vw (G66.2.1 (F (F a 5) 0))) = if cel (vw (G_50.2.1 (F (F a 5) 0))) (p0.toInt) (p1.toInt) 0 ≠ -2000 then rset (vw (G_50.2.1 (F (F a 5) 0))) (90 * (p0.toInt) + 30 * (p2.toInt) + (p1.toInt)) (l5_50.toInt) else (vw (G_50.2.1 (F (F a 5) 0))))
    (oq66a : RO (vw (G66.2.1 (F (F a 5) 0))) (aI (G66.2.1 (F (F a 5) 1))))
    (sb : 0 ≤ ((G.1 (F a 2) 2).toInt) ∧ ((G.1 (F a 2) 2).toInt) ≤ 12)
    (z5 : ¬ (0 ≤ p0.toInt ∧ p0.toInt < 3 ∧ 0 ≤ p1.toInt ∧ p1.toInt < 30) → (cel (vw (G.2.1 (F (F a 3) 0))) (p0.toInt) (p1.toInt) 0) = -2000)
    (t6 : (x6.toInt = 1 ∧ (cel (vw (G.2.1 (F (F a 3) 0))) (p0.toInt) (p1.toInt) 0) ≠ -2000) ∨ (x6.toInt = 0 ∧ (cel (vw (G.2.1 (F (F a 3) 0))) (p0.toInt) (p1.toInt) 0) = -2000))
    (c9 : ¬ (x6.toInt = 0))
    (t13 : (x13.toInt = 1 ∧ 0 ≤ p2.toInt ∧ p2.toInt < 3) ∨ (x13.toInt = 0 ∧ (p2.toInt < 0 ∨ 3 ≤ p2.toInt)))
    (c16 : x13.toInt ≠ 0)
    (I50_0 : -99 ≤ l5_50.toInt ∧ l5_50.toInt ≤ 100)
    (hm50 : 200 - l5_50.toInt < (((N50) + 1 : Nat) : Int))
    (c54 : ¬ ((99 : Int) < l5_50.toInt))
    (c73 : ¬ (l5_50.toInt = (cel (vw (G.2.1 (F (F a 3) 0))) (p0.toInt) (p1.toInt) (p2.toInt))))
    (c_G66_F_F_a_11_0 : G66.2.1 (F (F a 11) 0) = G_50.2.1 (F (F a 11) 0))
    (c_G66_F_F_a_11_1 : G66.2.1 (F (F a 11) 1) = G_50.2.1 (F (F a 11) 1))
    (c_G66_F_F_a_11_2 : G66.2.1 (F (F a 11) 2) = G_50.2.1 (F (F a 11) 2))
    (c_G66_F_F_a_3_0 : G66.2.1 (F (F a 3) 0) = G.2.1 (F (F a 3) 0))
    (c_G66_F_F_a_5_1 : G66.2.1 (F (F a 5) 1) = G_50.2.1 (F (F a 5) 1))
    (c_G66_F_F_a_9_0 : G66.2.1 (F (F a 9) 0) = G_50.2.1 (F (F a 9) 0))
    (c_G66_F_F_a_9_1 : G66.2.1 (F (F a 9) 1) = G_50.2.1 (F (F a 9) 1))
    (c_G66_F_F_a_9_2 : G66.2.1 (F (F a 9) 2) = G_50.2.1 (F (F a 9) 2))
    (c_G66_F_F_a_9_3 : G66.2.1 (F (F a 9) 3) = G_50.2.1 (F (F a 9) 3))
    (c_G66_F_F_a_9_4 : G66.2.1 (F (F a 9) 4) = G_50.2.1 (F (F a 9) 4))
    (c_G66_F_F_a_9_5 : G66.2.1 (F (F a 9) 5) = G_50.2.1 (F (F a 9) 5))
    (r_G66_F_F_a_2_1 : G66.2.2.1 (F (F a 2) 1) = G.2.2.1 (F (F a 2) 1))
    (d_G66_F_a_11_3 : G66.1 (F a 11) 3 = G_50.1 (F a 11) 3)
    (d_G66_F_a_9_6 : G66.1 (F a 9) 6 = G_50.1 (F a 9) 6) :
    BKr K G66 (G66.2.2.1 (F (F a 2) 1)) := by
  have hd : ∀ p, p ∈ [(F a 11, 3), (F a 9, 6)] → K p.1 ≠ 9 := (List.forall_mem_cons.mpr ⟨(show K (F a 11) ≠ 9 by omega), List.forall_mem_cons.mpr ⟨(show K (F a 9) ≠ 9 by omega), fun _ h => by cases h⟩⟩)
  rw [show G66.2.2.1 (F (F a 2) 1) = G.2.2.1 (F (F a 2) 1) by assumption]
  exact bko.fr hfr hd
theorem v_X10_least_79_13 {F : Nat → Nat → Nat} (G : XG) (a : Nat) (p0 : Int32) (p1 : Int32) (p2 : Int32) (G_50 : XG) (G66 : XG) (l5_50 : Int32) (x6 : Int32) (x13 : Int32)
    (ron : RO (vw (G.2.1 (F (F a 3) 0))) (aI (G.2.1 (F (F a 3) 1))))
    (pp : ∀ v : Int, rset (vw (G_50.2.1 (F (F a 5) 0))) (90 * p0.toInt + 30 * p2.toInt + p1.toInt) v = rset (vw (G.2.1 (F (F a 3) 0))) (90 * p0.toInt + 30 * p2.toInt + p1.toInt) v)
    (ph : cel (vw (G_50.2.1 (F (F a 5) 0))) p0.toInt p1.toInt 0 ≠ -2000)
    (oq66 : (vw (G66.2.1 (F (F a 5) 0))) = if cel (vw (G_50.2.1 (F (F a 5) 0))) (p0.toInt) (p1.toInt) 0 ≠ -2000 then rset (vw (G_50.2.1 (F (F a 5) 0))) (90 * (p0.toInt) + 30 * (p2.toInt) + (p1.toInt)) (l5_50.toInt) else (vw (G_50.2.1 (F (F a 5) 0))))
    (z5 : ¬ (0 ≤ p0.toInt ∧ p0.toInt < 3 ∧ 0 ≤ p1.toInt ∧ p1.toInt < 30) → (cel (vw (G.2.1 (F (F a 3) 0))) (p0.toInt) (p1.toInt) 0) = -2000)
    (t6 : (x6.toInt = 1 ∧ (cel (vw (G.2.1 (F (F a 3) 0))) (p0.toInt) (p1.toInt) 0) ≠ -2000) ∨ (x6.toInt = 0 ∧ (cel (vw (G.2.1 (F (F a 3) 0))) (p0.toInt) (p1.toInt) 0) = -2000))
    (c9 : ¬ (x6.toInt = 0))
    (t13 : (x13.toInt = 1 ∧ 0 ≤ p2.toInt ∧ p2.toInt < 3) ∨ (x13.toInt = 0 ∧ (p2.toInt < 0 ∨ 3 ≤ p2.toInt)))
    (c16 : x13.toInt ≠ 0)
    (I50_0 : -99 ≤ l5_50.toInt ∧ l5_50.toInt ≤ 100)
    (c54 : ¬ ((99 : Int) < l5_50.toInt))
    (c73 : ¬ (l5_50.toInt = (cel (vw (G.2.1 (F (F a 3) 0))) (p0.toInt) (p1.toInt) (p2.toInt))))
    (c_G66_F_F_a_3_0 : G66.2.1 (F (F a 3) 0) = G.2.1 (F (F a 3) 0)) :
    ∀ cg ch : Int → Int, ONb cg ch p0.toInt p1.toInt → CH (vw (G66.2.1 (F (F a 3) 0))) (vw (G66.2.1 (F (F a 5) 0))) cg ch := by
  intro cg ch h
  rw [c_G66_F_F_a_3_0, oq66, if_pos ph, pp]
  exact h.ch ron (by omega) (by omega) (by omega) (by omega)
theorem v_X10_least_91_14 {F : Nat → Nat → Nat} (G_50 : XG) (a : Nat) (p0 : Int32) (p2 : Int32) (p1 : Int32) (G : XG) (G66 : XG) (l5_50 : Int32) (G79 : XG)
    (pp : ∀ v : Int, rset (vw (G_50.2.1 (F (F a 5) 0))) (90 * p0.toInt + 30 * p2.toInt + p1.toInt) v = rset (vw (G.2.1 (F (F a 3) 0))) (90 * p0.toInt + 30 * p2.toInt + p1.toInt) v)
    (ph : cel (vw (G_50.2.1 (F (F a 5) 0))) p0.toInt p1.toInt 0 ≠ -2000)
    (oq66 : (vw (G66.2.1 (F (F a 5) 0))) = if cel (vw (G_50.2.1 (F (F a 5) 0))) (p0.toInt) (p1.toInt) 0 ≠ -2000 then rset (vw (G_50.2.1 (F (F a 5) 0))) (90 * (p0.toInt) + 30 * (p2.toInt) + (p1.toInt)) (l5_50.toInt) else (vw (G_50.2.1 (F (F a 5) 0))))
    (c_G79_F_F_a_5_0 : G79.2.1 (F (F a 5) 0) = G66.2.1 (F (F a 5) 0)) :
    ∀ v : Int, rset (vw (G66.2.1 (F (F a 5) 0))) (90 * p0.toInt + 30 * p2.toInt + p1.toInt) v = rset (vw (G.2.1 (F (F a 3) 0))) (90 * p0.toInt + 30 * p2.toInt + p1.toInt) v := by
  intro v
  (try rw [c_G79_F_F_a_5_0])
  rw [oq66, if_pos ph, rset_rset]
  exact pp v
theorem v_X10_least_91_15 {F : Nat → Nat → Nat} (G66 : XG) (a : Nat) (G_50 : XG) (G79 : XG)
    (oq66a : RO (vw (G66.2.1 (F (F a 5) 0))) (aI (G66.2.1 (F (F a 5) 1))))
    (c_G66_F_F_a_5_1 : G66.2.1 (F (F a 5) 1) = G_50.2.1 (F (F a 5) 1))
    (c_G79_F_F_a_5_0 : G79.2.1 (F (F a 5) 0) = G66.2.1 (F (F a 5) 0))
    (c_G79_F_F_a_5_1 : G79.2.1 (F (F a 5) 1) = G_50.2.1 (F (F a 5) 1)) :
    RO (vw (G66.2.1 (F (F a 5) 0))) (aI (G_50.2.1 (F (F a 5) 1))) := by
  (try rw [c_G79_F_F_a_5_0])
  (try rw [c_G79_F_F_a_5_1])
  (try rw [c_G66_F_F_a_5_1] at oq66a)
  exact oq66a
theorem v_X10_least_91_16 {F : Nat → Nat → Nat} (G_50 : XG) (a : Nat) (p0 : Int32) (p1 : Int32) (G66 : XG) (p2 : Int32) (l5_50 : Int32) (G : XG) (x6 : Int32) (x13 : Int32) (G79 : XG)
    (ph : cel (vw (G_50.2.1 (F (F a 5) 0))) p0.toInt p1.toInt 0 ≠ -2000)
    (oq66 : (vw (G66.2.1 (F (F a 5) 0))) = if cel (vw (G_50.2.1 (F (F a 5) 0))) (p0.toInt) (p1.toInt) 0 ≠ -2000 then rset (vw (G_50.2.1 (F (F a 5) 0))) (90 * (p0.toInt) + 30 * (p2.toInt) + (p1.toInt)) (l5_50.toInt) else (vw (G_50.2.1 (F (F a 5) 0))))
    (z5 : ¬ (0 ≤ p0.toInt ∧ p0.toInt < 3 ∧ 0 ≤ p1.toInt ∧ p1.toInt < 30) → (cel (vw (G.2.1 (F (F a 3) 0))) (p0.toInt) (p1.toInt) 0) = -2000)
    (t6 : (x6.toInt = 1 ∧ (cel (vw (G.2.1 (F (F a 3) 0))) (p0.toInt) (p1.toInt) 0) ≠ -2000) ∨ (x6.toInt = 0 ∧ (cel (vw (G.2.1 (F (F a 3) 0))) (p0.toInt) (p1.toInt) 0) = -2000))
    (c9 : ¬ (x6.toInt = 0))
    (t13 : (x13.toInt = 1 ∧ 0 ≤ p2.toInt ∧ p2.toInt < 3) ∨ (x13.toInt = 0 ∧ (p2.toInt < 0 ∨ 3 ≤ p2.toInt)))
    (c16 : x13.toInt ≠ 0)
    (I50_0 : -99 ≤ l5_50.toInt ∧ l5_50.toInt ≤ 100)
    (c54 : ¬ ((99 : Int) < l5_50.toInt))
    (c_G79_F_F_a_5_0 : G79.2.1 (F (F a 5) 0) = G66.2.1 (F (F a 5) 0)) :
    cel (vw (G66.2.1 (F (F a 5) 0))) p0.toInt p1.toInt 0 ≠ -2000 := by
  (try rw [c_G79_F_F_a_5_0])
  rw [oq66, if_pos ph]
  exact cel_rset_ne (by omega) ph (by omega)
theorem v_X10_least_91_17 {K : Nat → Nat} {F : Nat → Nat → Nat} (a : Nat) (G : XG) (G79 : XG) (G_50 : XG) (G66 : XG) (p0 : Int32) (p1 : Int32) (p2 : Int32) (l5_50 : Int32) (x79 : Int32) (x6 : Int32) (x13 : Int32) (N50 : Nat)
    (ha : K a = 12)
    (hk9999 : K (F a 11) = 3)
    (hj9999 : F (F a 11) 99 = 0)
    (hk9999a : K (F a 9) = 6)
    (hj9999a : F (F a 9) 99 = 1)
    (hk9999b : K (F (F a 11) 0) = 21)
    (hj9999b : F (F (F a 11) 0) 99 = 100)
    (hk9999c : K (F (F a 11) 1) = 21)
    (hj9999c : F (F (F a 11) 1) 99 = 101)
    (hk9999d : K (F (F a 11) 2) = 24)
    (hj9999d : F (F (F a 11) 2) 99 = 4)
    (hk9999e : K (F (F a 9) 0) = 22)
    (hj9999f : F (F (F a 9) 0) 99 = 10 * 1 + 0)
    (hk9999f : K (F (F a 9) 1) = 22)
    (hj9999h : F (F (F a 9) 1) 99 = 10 * 1 + 1)
    (hk9999g : K (F (F a 9) 2) = 22)
    (hj9999j : F (F (F a 9) 2) 99 = 10 * 1 + 2)
    (hk9999h : K (F (F a 9) 3) = 22)
    (hj9999l : F (F (F a 9) 3) 99 = 10 * 1 + 3)
    (hk9999i : K (F (F a 9) 4) = 23)
    (hj9999n : F (F (F a 9) 4) 99 = 10 * 1 + 4)
    (hk9999j : K (F (F a 9) 5) = 23)
    (hj9999p : F (F (F a 9) 5) 99 = 10 * 1 + 5)
    (hk9999k : K (F a 5) = 8)
    (hj9999q : F (F a 5) 99 = 2)
    (hk9999l : K (F (F a 5) 0) = 20)
    (hj9999s : F (F (F a 5) 0) 99 = 2)
    (hk9999m : K (F (F a 5) 1) = 21)
    (hj9999u : F (F (F a 5) 1) 99 = 2)
    (hk9999n : K (F a 2) = 2)
    (hj9999v : F (F a 2) 99 = 0)
    (hk9999o : K (F (F a 2) 1) = 15)
    (hj9999w : F (F (F a 2) 1) 99 = 1)
    (hk9999p : K (F a 3) = 8)
    (hj9999y : F (F a 3) 99 = 0)
    (hk9999q : K (F (F a 3) 0) = 20)
    (hj9999z26 : F (F (F a 3) 0) 99 = 0)
    (hk9999r : K (F (F a 3) 1) = 21)
    (hj9999z28 : F (F (F a 3) 1) 99 = 0)
    (hfr : XFr [(F a 11, 3), (F a 9, 6)] [F (F a 11) 0, F (F a 11) 1, F (F a 11) 2, F (F a 9) 0, F (F a 9) 1, F (F a 9) 2, F (F a 9) 3, F (F a 9) 4, F (F a 9) 5, F (F a 5) 0, F (F a 5) 1] [] G G79)
    (hF79 : XFr [(F a 11, 3), (F a 9, 6)] [F (F a 11) 0, F (F a 11) 1, F (F a 11) 2, F (F a 9) 0, F (F a 9) 1, F (F a 9) 2, F (F a 9) 3, F (F a 9) 4, F (F a 9) 5] [] G66 G79)
    (bko : BKr K G (G.2.2.1 (F (F a 2) 1)))
    (pp : ∀ v : Int, rset (vw (G_50.2.1 (F (F a 5) 0))) (90 * p0.toInt + 30 * p2.toInt + p1.toInt) v = rset (vw (G.2.1 (F (F a 3) 0))) (90 * p0.toInt + 30 * p2.toInt + p1.toInt) v)
    (ph : cel (vw (G_50.2.1 (F (F a 5) 0))) p0.toInt p1.toInt 0 ≠ -2000)
    (lp : ∀ v : Int, -99 ≤ v → v < l5_50.toInt → v ≠ cel (vw (G.2.1 (F (F a 3) 0))) p0.toInt p1.toInt p2.toInt → ffL (gaL G (G.2.2.1 (F (F a 2) 1)) (vw (G.2.1 (F (F a 3) 0))) (rset (vw (G.2.1 (F (F a 3) 0))) (90 * p0.toInt + 30 * p2.toInt + p1.toInt) v) 0 ((G.1 (F a 2) 2).toInt).toNat) ≠ -1)
    (oq66 : (vw (G66.2.1 (F (F a 5) 0))) = if cel (vw (G_50.2.1 (F (F a 5) 0))) (p0.toInt) (p1.toInt) 0 ≠ -2000 then rset (vw (G_50.2.1 (F (F a 5) 0))) (90 * (p0.toInt) + 30 * (p2.toInt) + (p1.toInt)) (l5_50.toInt) else (vw (G_50.2.1 (F (F a 5) 0))))
    (oq79 : (x79.toInt = 1 ∧ ffL (gaL G66 (G66.2.2.1 (F (F a 2) 1)) (vw (G.2.1 (F (F a 3) 0))) (vw (G66.2.1 (F (F a 5) 0))) 0 (((G.1 (F a 2) 2).toInt)).toNat) = -1) ∨ (x79.toInt = 0 ∧ ffL (gaL G66 (G66.2.2.1 (F (F a 2) 1)) (vw (G.2.1 (F (F a 3) 0))) (vw (G66.2.1 (F (F a 5) 0))) 0 (((G.1 (F a 2) 2).toInt)).toNat) ≠ -1))
    (sb : 0 ≤ ((G.1 (F a 2) 2).toInt) ∧ ((G.1 (F a 2) 2).toInt) ≤ 12)
    (z5 : ¬ (0 ≤ p0.toInt ∧ p0.toInt < 3 ∧ 0 ≤ p1.toInt ∧ p1.toInt < 30) → (cel (vw (G.2.1 (F (F a 3) 0))) (p0.toInt) (p1.toInt) 0) = -2000)
    (t6 : (x6.toInt = 1 ∧ (cel (vw (G.2.1 (F (F a 3) 0))) (p0.toInt) (p1.toInt) 0) ≠ -2000) ∨ (x6.toInt = 0 ∧ (cel (vw (G.2.1 (F (F a 3) 0))) (p0.toInt) (p1.toInt) 0) = -2000))
    (c9 : ¬ (x6.toInt = 0))
    (t13 : (x13.toInt = 1 ∧ 0 ≤ p2.toInt ∧ p2.toInt < 3) ∨ (x13.toInt = 0 ∧ (p2.toInt < 0 ∨ 3 ≤ p2.toInt)))
    (c16 : x13.toInt ≠ 0)
    (I50_0 : -99 ≤ l5_50.toInt ∧ l5_50.toInt ≤ 100)
    (hm50 : 200 - l5_50.toInt < (((N50) + 1 : Nat) : Int))
    (c54 : ¬ ((99 : Int) < l5_50.toInt))
    (c73 : ¬ (l5_50.toInt = (cel (vw (G.2.1 (F (F a 3) 0))) (p0.toInt) (p1.toInt) (p2.toInt))))
    (c82 : x79.toInt = 0)
    (r_G66_F_F_a_2_1 : G66.2.2.1 (F (F a 2) 1) = G.2.2.1 (F (F a 2) 1)) :
    ∀ v : Int, -99 ≤ v → v < (l5_50.toInt + 1) → v ≠ cel (vw (G.2.1 (F (F a 3) 0))) p0.toInt p1.toInt p2.toInt → ffL (gaL G (G.2.2.1 (F (F a 2) 1)) (vw (G.2.1 (F (F a 3) 0))) (rset (vw (G.2.1 (F (F a 3) 0))) (90 * p0.toInt + 30 * p2.toInt + p1.toInt) v) 0 ((G.1 (F a 2) 2).toInt).toNat) ≠ -1 := by
  first
    | (intro v a1 a2 a3
       exact lp v a1 (by omega) a3)
    | (have hd : ∀ p, p ∈ [(F a 11, 3), (F a 9, 6)] → K p.1 ≠ 9 := (List.forall_mem_cons.mpr ⟨(show K (F a 11) ≠ 9 by omega), List.forall_mem_cons.mpr ⟨(show K (F a 9) ≠ 9 by omega), fun _ h => by cases h⟩⟩)
       have hq : ∀ q : Nat, K q = 9 → G66.1 q = G.1 q := fun q hk => (hF79.rule hd hk).symm.trans (hfr.rule hd hk)
       have hc : ∀ (i q : Nat), i < ((G.1 (F a 2) 2).toInt).toNat → G.2.2.1 (F (F a 2) 1) i = some q → G66.1 q = G.1 q := fun i q hi hq9 => hq q (bko i q (by omega) hq9).1
       rw [oq66, if_pos ph, pp, r_G66_F_F_a_2_1, gaL_cg hc] at oq79
       intro v a1 a2 a3
       by_cases e : v = l5_50.toInt
       · rw [e]; exact (oq79.resolve_left (fun h => absurd h.1 (by omega))).2
       · exact lp v a1 (by omega) a3)
theorem v_X10_least_87_18 {K : Nat → Nat} {F : Nat → Nat → Nat} (a : Nat) (G : XG) (G79 : XG) (G_50 : XG) (G66 : XG) (p0 : Int32) (p1 : Int32) (p2 : Int32) (l5_50 : Int32) (x79 : Int32) (x6 : Int32) (x13 : Int32) (N50 : Nat)
    (ha : K a = 12)
    (hk9999 : K (F a 11) = 3)
    (hj9999 : F (F a 11) 99 = 0)
    (hk9999a : K (F a 9) = 6)
    (hj9999a : F (F a 9) 99 = 1)
    (hk9999b : K (F (F a 11) 0) = 21)
    (hj9999b : F (F (F a 11) 0) 99 = 100)
    (hk9999c : K (F (F a 11) 1) = 21)
    (hj9999c : F (F (F a 11) 1) 99 = 101)
    (hk9999d : K (F (F a 11) 2) = 24)
    (hj9999d : F (F (F a 11) 2) 99 = 4)
    (hk9999e : K (F (F a 9) 0) = 22)
    (hj9999f : F (F (F a 9) 0) 99 = 10 * 1 + 0)
    (hk9999f : K (F (F a 9) 1) = 22)
    (hj9999h : F (F (F a 9) 1) 99 = 10 * 1 + 1)
    (hk9999g : K (F (F a 9) 2) = 22)
    (hj9999j : F (F (F a 9) 2) 99 = 10 * 1 + 2)
    (hk9999h : K (F (F a 9) 3) = 22)
    (hj9999l : F (F (F a 9) 3) 99 = 10 * 1 + 3)
    (hk9999i : K (F (F a 9) 4) = 23)
    (hj9999n : F (F (F a 9) 4) 99 = 10 * 1 + 4)
    (hk9999j : K (F (F a 9) 5) = 23)
    (hj9999p : F (F (F a 9) 5) 99 = 10 * 1 + 5)
    (hk9999k : K (F a 5) = 8)
    (hj9999q : F (F a 5) 99 = 2)
    (hk9999l : K (F (F a 5) 0) = 20)
    (hj9999s : F (F (F a 5) 0) 99 = 2)
    (hk9999m : K (F (F a 5) 1) = 21)
    (hj9999u : F (F (F a 5) 1) 99 = 2)
    (hk9999n : K (F a 2) = 2)
    (hj9999v : F (F a 2) 99 = 0)
    (hk9999o : K (F (F a 2) 1) = 15)
    (hj9999w : F (F (F a 2) 1) 99 = 1)
    (hk9999p : K (F a 3) = 8)
    (hj9999y : F (F a 3) 99 = 0)
    (hk9999q : K (F (F a 3) 0) = 20)
    (hj9999z26 : F (F (F a 3) 0) 99 = 0)
    (hk9999r : K (F (F a 3) 1) = 21)
    (hj9999z28 : F (F (F a 3) 1) 99 = 0)
    (hfr : XFr [(F a 11, 3), (F a 9, 6)] [F (F a 11) 0, F (F a 11) 1, F (F a 11) 2, F (F a 9) 0, F (F a 9) 1, F (F a 9) 2, F (F a 9) 3, F (F a 9) 4, F (F a 9) 5, F (F a 5) 0, F (F a 5) 1] [] G G79)
    (hF79 : XFr [(F a 11, 3), (F a 9, 6)] [F (F a 11) 0, F (F a 11) 1, F (F a 11) 2, F (F a 9) 0, F (F a 9) 1, F (F a 9) 2, F (F a 9) 3, F (F a 9) 4, F (F a 9) 5] [] G66 G79)
    (bko : BKr K G (G.2.2.1 (F (F a 2) 1)))
    (pp : ∀ v : Int, rset (vw (G_50.2.1 (F (F a 5) 0))) (90 * p0.toInt + 30 * p2.toInt + p1.toInt) v = rset (vw (G.2.1 (F (F a 3) 0))) (90 * p0.toInt + 30 * p2.toInt + p1.toInt) v)
    (ph : cel (vw (G_50.2.1 (F (F a 5) 0))) p0.toInt p1.toInt 0 ≠ -2000)
    (lp : ∀ v : Int, -99 ≤ v → v < l5_50.toInt → v ≠ cel (vw (G.2.1 (F (F a 3) 0))) p0.toInt p1.toInt p2.toInt → ffL (gaL G (G.2.2.1 (F (F a 2) 1)) (vw (G.2.1 (F (F a 3) 0))) (rset (vw (G.2.1 (F (F a 3) 0))) (90 * p0.toInt + 30 * p2.toInt + p1.toInt) v) 0 ((G.1 (F a 2) 2).toInt).toNat) ≠ -1)
    (oq66 : (vw (G66.2.1 (F (F a 5) 0))) = if cel (vw (G_50.2.1 (F (F a 5) 0))) (p0.toInt) (p1.toInt) 0 ≠ -2000 then rset (vw (G_50.2.1 (F (F a 5) 0))) (90 * (p0.toInt) + 30 * (p2.toInt) + (p1.toInt)) (l5_50.toInt) else (vw (G_50.2.1 (F (F a 5) 0))))
    (oq79 : (x79.toInt = 1 ∧ ffL (gaL G66 (G66.2.2.1 (F (F a 2) 1)) (vw (G.2.1 (F (F a 3) 0))) (vw (G66.2.1 (F (F a 5) 0))) 0 (((G.1 (F a 2) 2).toInt)).toNat) = -1) ∨ (x79.toInt = 0 ∧ ffL (gaL G66 (G66.2.2.1 (F (F a 2) 1)) (vw (G.2.1 (F (F a 3) 0))) (vw (G66.2.1 (F (F a 5) 0))) 0 (((G.1 (F a 2) 2).toInt)).toNat) ≠ -1))
    (sb : 0 ≤ ((G.1 (F a 2) 2).toInt) ∧ ((G.1 (F a 2) 2).toInt) ≤ 12)
    (z5 : ¬ (0 ≤ p0.toInt ∧ p0.toInt < 3 ∧ 0 ≤ p1.toInt ∧ p1.toInt < 30) → (cel (vw (G.2.1 (F (F a 3) 0))) (p0.toInt) (p1.toInt) 0) = -2000)
    (t6 : (x6.toInt = 1 ∧ (cel (vw (G.2.1 (F (F a 3) 0))) (p0.toInt) (p1.toInt) 0) ≠ -2000) ∨ (x6.toInt = 0 ∧ (cel (vw (G.2.1 (F (F a 3) 0))) (p0.toInt) (p1.toInt) 0) = -2000))
    (c9 : ¬ (x6.toInt = 0))
    (t13 : (x13.toInt = 1 ∧ 0 ≤ p2.toInt ∧ p2.toInt < 3) ∨ (x13.toInt = 0 ∧ (p2.toInt < 0 ∨ 3 ≤ p2.toInt)))
    (c16 : x13.toInt ≠ 0)
    (I50_0 : -99 ≤ l5_50.toInt ∧ l5_50.toInt ≤ 100)
    (hm50 : 200 - l5_50.toInt < (((N50) + 1 : Nat) : Int))
    (c54 : ¬ ((99 : Int) < l5_50.toInt))
    (c73 : ¬ (l5_50.toInt = (cel (vw (G.2.1 (F (F a 3) 0))) (p0.toInt) (p1.toInt) (p2.toInt))))
    (c82 : ¬ (x79.toInt = 0))
    (r_G66_F_F_a_2_1 : G66.2.2.1 (F (F a 2) 1) = G.2.2.1 (F (F a 2) 1)) :
    (¬ (cel (vw (G.2.1 (F (F a 3) 0))) p0.toInt p1.toInt 0 ≠ -2000 ∧ 0 ≤ p2.toInt ∧ p2.toInt < 3) ∧ l5_50.toInt = -2147483648) ∨ ((cel (vw (G.2.1 (F (F a 3) 0))) p0.toInt p1.toInt 0 ≠ -2000 ∧ 0 ≤ p2.toInt ∧ p2.toInt < 3) ∧ LsS (fun v => ffL (gaL G (G.2.2.1 (F (F a 2) 1)) (vw (G.2.1 (F (F a 3) 0))) (rset (vw (G.2.1 (F (F a 3) 0))) (90 * p0.toInt + 30 * p2.toInt + p1.toInt) v) 0 (((G.1 (F a 2) 2).toInt)).toNat) = -1) (cel (vw (G.2.1 (F (F a 3) 0))) p0.toInt p1.toInt p2.toInt) l5_50.toInt) := by
  have hd : ∀ p, p ∈ [(F a 11, 3), (F a 9, 6)] → K p.1 ≠ 9 := (List.forall_mem_cons.mpr ⟨(show K (F a 11) ≠ 9 by omega), List.forall_mem_cons.mpr ⟨(show K (F a 9) ≠ 9 by omega), fun _ h => by cases h⟩⟩)
  have hq : ∀ q : Nat, K q = 9 → G66.1 q = G.1 q := fun q hk => (hF79.rule hd hk).symm.trans (hfr.rule hd hk)
  have hc : ∀ (i q : Nat), i < ((G.1 (F a 2) 2).toInt).toNat → G.2.2.1 (F (F a 2) 1) i = some q → G66.1 q = G.1 q := fun i q hi hq9 => hq q (bko i q (by omega) hq9).1
  rw [oq66, if_pos ph, pp, r_G66_F_F_a_2_1, gaL_cg hc] at oq79
  exact Or.inr ⟨by omega, LsS_yes (by omega) (oq79.resolve_right (fun h => absurd h.1 (by omega))).2 lp⟩
theorem v_X10_least_48_19 {F : Nat → Nat → Nat} (G43 : XG) (a : Nat) (G : XG) (p0 : Int32) (p2 : Int32) (p1 : Int32)
    (oq43 : (vw (G43.2.1 (F (F a 5) 0))) = (vw (G.2.1 (F (F a 3) 0)))) :
    ∀ v : Int, rset (vw (G43.2.1 (F (F a 5) 0))) (90 * p0.toInt + 30 * p2.toInt + p1.toInt) v = rset (vw (G.2.1 (F (F a 3) 0))) (90 * p0.toInt + 30 * p2.toInt + p1.toInt) v := by
  intro v; rw [oq43]
theorem v_X10_least_48_20 {F : Nat → Nat → Nat} (G43 : XG) (a : Nat)
    (oq43a : RO (vw (G43.2.1 (F (F a 5) 0))) (aI (G43.2.1 (F (F a 5) 1)))) :
    RO (vw (G43.2.1 (F (F a 5) 0))) (aI (G43.2.1 (F (F a 5) 1))) := by
  exact oq43a
theorem v_X10_least_48_21 {F : Nat → Nat → Nat} (G43 : XG) (a : Nat) (G : XG) (x6 : Int32) (p0 : Int32) (p1 : Int32)
    (oq43 : (vw (G43.2.1 (F (F a 5) 0))) = (vw (G.2.1 (F (F a 3) 0))))
    (t6 : (x6.toInt = 1 ∧ (cel (vw (G.2.1 (F (F a 3) 0))) (p0.toInt) (p1.toInt) 0) ≠ -2000) ∨ (x6.toInt = 0 ∧ (cel (vw (G.2.1 (F (F a 3) 0))) (p0.toInt) (p1.toInt) 0) = -2000))
    (c9 : ¬ (x6.toInt = 0)) :
    cel (vw (G43.2.1 (F (F a 5) 0))) p0.toInt p1.toInt 0 ≠ -2000 := by
  rw [oq43]; omega
theorem v_X10_least_48_22 {K : Nat → Nat} {F : Nat → Nat → Nat} (a : Nat) (G : XG) (p0 : Int32) (p1 : Int32) (p2 : Int32) (x6 : Int32) (x13 : Int32)
    (ha : K a = 12)
    (sb : 0 ≤ ((G.1 (F a 2) 2).toInt) ∧ ((G.1 (F a 2) 2).toInt) ≤ 12)
    (z5 : ¬ (0 ≤ p0.toInt ∧ p0.toInt < 3 ∧ 0 ≤ p1.toInt ∧ p1.toInt < 30) → (cel (vw (G.2.1 (F (F a 3) 0))) (p0.toInt) (p1.toInt) 0) = -2000)
    (t6 : (x6.toInt = 1 ∧ (cel (vw (G.2.1 (F (F a 3) 0))) (p0.toInt) (p1.toInt) 0) ≠ -2000) ∨ (x6.toInt = 0 ∧ (cel (vw (G.2.1 (F (F a 3) 0))) (p0.toInt) (p1.toInt) 0) = -2000))
    (c9 : ¬ (x6.toInt = 0))
    (t13 : (x13.toInt = 1 ∧ 0 ≤ p2.toInt ∧ p2.toInt < 3) ∨ (x13.toInt = 0 ∧ (p2.toInt < 0 ∨ 3 ≤ p2.toInt)))
    (c16 : x13.toInt ≠ 0) :
    ∀ v : Int, -99 ≤ v → v < (-99 : Int) → v ≠ cel (vw (G.2.1 (F (F a 3) 0))) p0.toInt p1.toInt p2.toInt → ffL (gaL G (G.2.2.1 (F (F a 2) 1)) (vw (G.2.1 (F (F a 3) 0))) (rset (vw (G.2.1 (F (F a 3) 0))) (90 * p0.toInt + 30 * p2.toInt + p1.toInt) v) 0 ((G.1 (F a 2) 2).toInt).toNat) ≠ -1 := by
  intro v a1 a2
  exact absurd a2 (by omega)
theorem v_X10_least_22_23 {K : Nat → Nat} {F : Nat → Nat → Nat} (a : Nat) (G : XG) (p0 : Int32) (p1 : Int32) (x6 : Int32) (x13 : Int32) (p2 : Int32)
    (ha : K a = 12)
    (sb : 0 ≤ ((G.1 (F a 2) 2).toInt) ∧ ((G.1 (F a 2) 2).toInt) ≤ 12)
    (z5 : ¬ (0 ≤ p0.toInt ∧ p0.toInt < 3 ∧ 0 ≤ p1.toInt ∧ p1.toInt < 30) → (cel (vw (G.2.1 (F (F a 3) 0))) (p0.toInt) (p1.toInt) 0) = -2000)
    (t6 : (x6.toInt = 1 ∧ (cel (vw (G.2.1 (F (F a 3) 0))) (p0.toInt) (p1.toInt) 0) ≠ -2000) ∨ (x6.toInt = 0 ∧ (cel (vw (G.2.1 (F (F a 3) 0))) (p0.toInt) (p1.toInt) 0) = -2000))
    (c9 : ¬ (x6.toInt = 0))
    (t13 : (x13.toInt = 1 ∧ 0 ≤ p2.toInt ∧ p2.toInt < 3) ∨ (x13.toInt = 0 ∧ (p2.toInt < 0 ∨ 3 ≤ p2.toInt)))
    (c16 : ¬ (x13.toInt ≠ 0)) :
    (¬ (cel (vw (G.2.1 (F (F a 3) 0))) p0.toInt p1.toInt 0 ≠ -2000 ∧ 0 ≤ p2.toInt ∧ p2.toInt < 3) ∧ (-2147483648 : Int) = -2147483648) ∨ ((cel (vw (G.2.1 (F (F a 3) 0))) p0.toInt p1.toInt 0 ≠ -2000 ∧ 0 ≤ p2.toInt ∧ p2.toInt < 3) ∧ LsS (fun v => ffL (gaL G (G.2.2.1 (F (F a 2) 1)) (vw (G.2.1 (F (F a 3) 0))) (rset (vw (G.2.1 (F (F a 3) 0))) (90 * p0.toInt + 30 * p2.toInt + p1.toInt) v) 0 (((G.1 (F a 2) 2).toInt)).toNat) = -1) (cel (vw (G.2.1 (F (F a 3) 0))) p0.toInt p1.toInt p2.toInt) (-2147483648 : Int)) := by
  exact Or.inl ⟨by omega, rfl⟩
