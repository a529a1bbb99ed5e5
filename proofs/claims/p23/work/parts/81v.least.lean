theorem v_X1_ofOneRow_50_1 {K : Nat → Nat} {F : Nat → Nat → Nat} (a : Nat) (G_2 : XG) (l3_2 : Int32) (p0 : Int32) (p1 : Int32) (N2 : Nat) (x28 : Int32)
    (ha : K a = 3)
    (pz : ∀ t : Int, 0 ≤ t → t < l3_2.toInt → aI (G_2.2.1 (F a 1)) t = 0 ∧ aI (G_2.2.1 (F a 0)) t = 0)
    (e0 : 0 ≤ p0.toInt ∧ p0.toInt < 3 ∧ 0 ≤ p1.toInt ∧ p1.toInt < 30)
    (I2_0 : 0 ≤ l3_2.toInt ∧ l3_2.toInt ≤ 3)
    (I2_1 : (0 : Int) ≤ l3_2.toInt)
    (hm2 : 2147483648 - l3_2.toInt < (((N2) + 1 : Nat) : Int))
    (c4 : (3 : Int) ≤ l3_2.toInt)
    (t28 : (x28.toInt = 1 ∧ 0 ≤ p0.toInt ∧ p0.toInt < 3) ∨ (x28.toInt = 0 ∧ (p0.toInt < 0 ∨ 3 ≤ p0.toInt)))
    (c31 : x28.toInt = 0) :
    ONb (aI (G_2.2.1 (F a 1))) (aI (G_2.2.1 (F a 0))) p0.toInt p1.toInt := by
  first | (exfalso; omega) | skip
  all_goals (
    intro t a1 a2 k b1 b2
    have u0 := aI_pu hG49 rfl rfl rfl (by omega) t a1
    obtain ⟨z1, z2⟩ := pz t a1 (by omega)
    have c1 := bI_one he48 rfl (by omega) k b1 (by omega)
    rw [c_G49_F_a_1, z1, u0, bI_0]
    refine ⟨rfl, ?_⟩
    by_cases e : t = p0.toInt
    · rw [if_pos e, c1]
      by_cases q : k = p1.toInt
      · rw [if_pos q]; exact ⟨fun _ => ⟨e, q⟩, fun _ => rfl⟩
      · rw [if_neg q]; exact ⟨fun h => absurd h (by decide), fun h => absurd h.2 q⟩
    · rw [if_neg e, z2, bI_0]; exact ⟨fun h => absurd h (by decide), fun h => absurd h.1 e⟩)
theorem v_X1_ofOneRow_50_2 {K : Nat → Nat} {F : Nat → Nat → Nat} (a : Nat) (G_2 : XG) (l3_2 : Int32) (p0 : Int32) (p1 : Int32) (N2 : Nat) (x28 : Int32) (x35 : Int32)
    (ha : K a = 3)
    (pz : ∀ t : Int, 0 ≤ t → t < l3_2.toInt → aI (G_2.2.1 (F a 1)) t = 0 ∧ aI (G_2.2.1 (F a 0)) t = 0)
    (e0 : 0 ≤ p0.toInt ∧ p0.toInt < 3 ∧ 0 ≤ p1.toInt ∧ p1.toInt < 30)
    (I2_0 : 0 ≤ l3_2.toInt ∧ l3_2.toInt ≤ 3)
    (I2_1 : (0 : Int) ≤ l3_2.toInt)
    (hm2 : 2147483648 - l3_2.toInt < (((N2) + 1 : Nat) : Int))
    (c4 : (3 : Int) ≤ l3_2.toInt)
    (t28 : (x28.toInt = 1 ∧ 0 ≤ p0.toInt ∧ p0.toInt < 3) ∨ (x28.toInt = 0 ∧ (p0.toInt < 0 ∨ 3 ≤ p0.toInt)))
    (c31 : ¬ (x28.toInt = 0))
    (t35 : (x35.toInt = 1 ∧ 0 ≤ p1.toInt ∧ p1.toInt < 30) ∨ (x35.toInt = 0 ∧ (p1.toInt < 0 ∨ 30 ≤ p1.toInt)))
    (c38 : x35.toInt = 0) :
    ONb (aI (G_2.2.1 (F a 1))) (aI (G_2.2.1 (F a 0))) p0.toInt p1.toInt := by
  first | (exfalso; omega) | skip
  all_goals (
    intro t a1 a2 k b1 b2
    have u0 := aI_pu hG49 rfl rfl rfl (by omega) t a1
    obtain ⟨z1, z2⟩ := pz t a1 (by omega)
    have c1 := bI_one he48 rfl (by omega) k b1 (by omega)
    rw [c_G49_F_a_1, z1, u0, bI_0]
    refine ⟨rfl, ?_⟩
    by_cases e : t = p0.toInt
    · rw [if_pos e, c1]
      by_cases q : k = p1.toInt
      · rw [if_pos q]; exact ⟨fun _ => ⟨e, q⟩, fun _ => rfl⟩
      · rw [if_neg q]; exact ⟨fun h => absurd h (by decide), fun h => absurd h.2 q⟩
    · rw [if_neg e, z2, bI_0]; exact ⟨fun h => absurd h (by decide), fun h => absurd h.1 e⟩)
theorem v_X1_ofOneRow_50_3 {K : Nat → Nat} {F : Nat → Nat → Nat} (a : Nat) (G_2 : XG) (G49 : XG) (p0 : Int32) (x48 : Int32) (l3_2 : Int32) (p1 : Int32) (N2 : Nat) (x28 : Int32) (x35 : Int32)
    (ha : K a = 3)
    (hG49 : G49 = cput G_2 (F a 0) p0.toNatClampNeg x48)
    (pz : ∀ t : Int, 0 ≤ t → t < l3_2.toInt → aI (G_2.2.1 (F a 1)) t = 0 ∧ aI (G_2.2.1 (F a 0)) t = 0)
    (he48 : x48 = (1 : Int32) <<< (p1 &&& 31))
    (e0 : 0 ≤ p0.toInt ∧ p0.toInt < 3 ∧ 0 ≤ p1.toInt ∧ p1.toInt < 30)
    (I2_0 : 0 ≤ l3_2.toInt ∧ l3_2.toInt ≤ 3)
    (I2_1 : (0 : Int) ≤ l3_2.toInt)
    (hm2 : 2147483648 - l3_2.toInt < (((N2) + 1 : Nat) : Int))
    (c4 : (3 : Int) ≤ l3_2.toInt)
    (t28 : (x28.toInt = 1 ∧ 0 ≤ p0.toInt ∧ p0.toInt < 3) ∨ (x28.toInt = 0 ∧ (p0.toInt < 0 ∨ 3 ≤ p0.toInt)))
    (c31 : ¬ (x28.toInt = 0))
    (t35 : (x35.toInt = 1 ∧ 0 ≤ p1.toInt ∧ p1.toInt < 30) ∨ (x35.toInt = 0 ∧ (p1.toInt < 0 ∨ 30 ≤ p1.toInt)))
    (c38 : ¬ (x35.toInt = 0))
    (c_G49_F_a_1 : G49.2.1 (F a 1) = G_2.2.1 (F a 1)) :
    ONb (aI (G49.2.1 (F a 1))) (aI (G49.2.1 (F a 0))) p0.toInt p1.toInt := by
  first | (exfalso; omega) | skip
  all_goals (
    intro t a1 a2 k b1 b2
    have u0 := aI_pu hG49 rfl rfl rfl (by omega) t a1
    obtain ⟨z1, z2⟩ := pz t a1 (by omega)
    have c1 := bI_one he48 rfl (by omega) k b1 (by omega)
    rw [c_G49_F_a_1, z1, u0, bI_0]
    refine ⟨rfl, ?_⟩
    by_cases e : t = p0.toInt
    · rw [if_pos e, c1]
      by_cases q : k = p1.toInt
      · rw [if_pos q]; exact ⟨fun _ => ⟨e, q⟩, fun _ => rfl⟩
      · rw [if_neg q]; exact ⟨fun h => absurd h (by decide), fun h => absurd h.2 q⟩
    · rw [if_neg e, z2, bI_0]; exact ⟨fun h => absurd h (by decide), fun h => absurd h.1 e⟩)
theorem v_X1_ofOneRow_24_4 {K : Nat → Nat} {F : Nat → Nat → Nat} (a : Nat) (G_2 : XG) (G13 : XG) (l3_2 : Int32) (G20 : XG) (p0 : Int32) (p1 : Int32) (N2 : Nat)
    (ha : K a = 3)
    (hG13 : G13 = cput G_2 (F a 1) l3_2.toNatClampNeg 0)
    (hG20 : G20 = cput G13 (F a 0) l3_2.toNatClampNeg 0)
    (pz : ∀ t : Int, 0 ≤ t → t < l3_2.toInt → aI (G_2.2.1 (F a 1)) t = 0 ∧ aI (G_2.2.1 (F a 0)) t = 0)
    (e0 : 0 ≤ p0.toInt ∧ p0.toInt < 3 ∧ 0 ≤ p1.toInt ∧ p1.toInt < 30)
    (I2_0 : 0 ≤ l3_2.toInt ∧ l3_2.toInt ≤ 3)
    (I2_1 : (0 : Int) ≤ l3_2.toInt)
    (hm2 : 2147483648 - l3_2.toInt < (((N2) + 1 : Nat) : Int))
    (c4 : ¬ ((3 : Int) ≤ l3_2.toInt))
    (c_G13_F_a_0 : G13.2.1 (F a 0) = G_2.2.1 (F a 0))
    (c_G20_F_a_1 : G20.2.1 (F a 1) = G13.2.1 (F a 1)) :
    ∀ t : Int, 0 ≤ t → t < (l3_2.toInt + 1) → aI (G20.2.1 (F a 1)) t = 0 ∧ aI (G20.2.1 (F a 0)) t = 0 := by
  intro t h1 h2
  have u1 := aI_pu hG13 rfl rfl (show ((0 : Int32)).toInt = 0 from by decide) (by omega) t h1
  have u0 := aI_pu hG20 c_G13_F_a_0 rfl (show ((0 : Int32)).toInt = 0 from by decide) (by omega) t h1
  rw [c_G20_F_a_1, u1, u0]
  by_cases e : t = l3_2.toInt
  · rw [if_pos e, if_pos e]; exact ⟨rfl, rfl⟩
  · rw [if_neg e, if_neg e]; exact pz t h1 (by omega)
theorem v_X1_ofOneRow_1_5 {K : Nat → Nat} {F : Nat → Nat → Nat} (a : Nat) (p0 : Int32) (p1 : Int32) (G : XG)
    (ha : K a = 3)
    (e0 : 0 ≤ p0.toInt ∧ p0.toInt < 3 ∧ 0 ≤ p1.toInt ∧ p1.toInt < 30) :
    ∀ t : Int, 0 ≤ t → t < (0 : Int) → aI (G.2.1 (F a 1)) t = 0 ∧ aI (G.2.1 (F a 0)) t = 0 := by
  intro t h1 h2; exact absurd h1 (by omega)
theorem v_X10_holdsOnPaper_85_1 {K : Nat → Nat} {F : Nat → Nat → Nat} (a : Nat) (G : XG) (G4 : XG) (G13 : XG) (G_18 : XG) (p0 : Int32) (p1 : Int32) (l3_18 : Int32) (N18 : Nat)
    (ha : K a = 12)
    (oq13 : ONb (aI (G13.2.1 (F (F a 11) 1))) (aI (G13.2.1 (F (F a 11) 0))) p0.toInt p1.toInt)
    (gp : qL G_18 F (F a 9) = gaL G (G.2.2.1 (F (F a 2) 1)) (vw (G.2.1 (F (F a 3) 0))) (vw (G.2.1 (F (F a 5) 0))) 0 (l3_18.toInt).toNat)
    (gn : ffL (qL G_18 F (F a 9)) = -1)
    (sb : 0 ≤ ((G.1 (F a 2) 2).toInt) ∧ ((G.1 (F a 2) 2).toInt) ≤ 12)
    (e0 : 0 ≤ p0.toInt ∧ p0.toInt < 3 ∧ 0 ≤ p1.toInt ∧ p1.toInt < 30)
    (t4 : ((G4.1 (F a 9) 6).toInt) = 0)
    (I18_0 : 0 ≤ l3_18.toInt ∧ l3_18.toInt ≤ ((G.1 (F a 2) 2).toInt))
    (I18_1 : 0 ≤ ((G_18.1 (F a 9) 6).toInt) ∧ ((G_18.1 (F a 9) 6).toInt) ≤ 90 * l3_18.toInt)
    (hm18 : 100 - l3_18.toInt < (((N18) + 1 : Nat) : Int))
    (c26 : ((G.1 (F a 2) 2).toInt) ≤ l3_18.toInt) :
    ((1 : Int) = 1 ∧ ffL (gaL G (G.2.2.1 (F (F a 2) 1)) (vw (G.2.1 (F (F a 3) 0))) (vw (G.2.1 (F (F a 5) 0))) 0 (((G.1 (F a 2) 2).toInt)).toNat) = -1) ∨ ((1 : Int) = 0 ∧ ffL (gaL G (G.2.2.1 (F (F a 2) 1)) (vw (G.2.1 (F (F a 3) 0))) (vw (G.2.1 (F (F a 5) 0))) 0 (((G.1 (F a 2) 2).toInt)).toNat) ≠ -1) := by
  exact Or.inl ⟨rfl, by rw [← show l3_18.toInt.toNat = ((G.1 (F a 2) 2).toInt).toNat from by omega, ← gp]; exact gn⟩
theorem v_X10_holdsOnPaper_81_2 {K : Nat → Nat} {F : Nat → Nat → Nat} (a : Nat) (G : XG) (G4 : XG) (G13 : XG) (G_18 : XG) (p0 : Int32) (p1 : Int32) (l3_18 : Int32) (x69 : Int32) (N18 : Nat)
    (ha : K a = 12)
    (oq13 : ONb (aI (G13.2.1 (F (F a 11) 1))) (aI (G13.2.1 (F (F a 11) 0))) p0.toInt p1.toInt)
    (gp : qL G_18 F (F a 9) = gaL G (G.2.2.1 (F (F a 2) 1)) (vw (G.2.1 (F (F a 3) 0))) (vw (G.2.1 (F (F a 5) 0))) 0 (l3_18.toInt).toNat)
    (gn : ffL (qL G_18 F (F a 9)) = -1)
    (hn34 : (l3_18.toInt < 0 ∨ ((G_18.1 (F a 2) 2).toInt) ≤ l3_18.toInt ∨ 12 ≤ l3_18.toInt) ∨ G_18.2.2.1 (F (F a 2) 1) (l3_18.toInt).toNat = none)
    (sb : 0 ≤ ((G.1 (F a 2) 2).toInt) ∧ ((G.1 (F a 2) 2).toInt) ≤ 12)
    (e0 : 0 ≤ p0.toInt ∧ p0.toInt < 3 ∧ 0 ≤ p1.toInt ∧ p1.toInt < 30)
    (t4 : ((G4.1 (F a 9) 6).toInt) = 0)
    (I18_0 : 0 ≤ l3_18.toInt ∧ l3_18.toInt ≤ ((G.1 (F a 2) 2).toInt))
    (I18_1 : 0 ≤ ((G_18.1 (F a 9) 6).toInt) ∧ ((G_18.1 (F a 9) 6).toInt) ≤ 90 * l3_18.toInt)
    (hm18 : 100 - l3_18.toInt < (((N18) + 1 : Nat) : Int))
    (c26 : ¬ (((G.1 (F a 2) 2).toInt) ≤ l3_18.toInt))
    (t69 : x69.toInt = -1 ∨ (0 ≤ x69.toInt ∧ x69.toInt < ((G_18.1 (F a 9) 6).toInt) ∧ (aI (G_18.2.1 (F (F a 9) 5)) (x69.toInt)) = 1))
    (c73 : x69.toInt = (-1 : Int))
    (r_G_18_F_F_a_2_1 : G_18.2.2.1 (F (F a 2) 1) = G.2.2.1 (F (F a 2) 1))
    (d_G_18_F_a_2_2 : G_18.1 (F a 2) 2 = G.1 (F a 2) 2) :
    qL G_18 F (F a 9) = gaL G (G.2.2.1 (F (F a 2) 1)) (vw (G.2.1 (F (F a 3) 0))) (vw (G.2.1 (F (F a 5) 0))) 0 (l3_18.toInt + 1).toNat := by
  have e : (l3_18.toInt + 1).toNat = l3_18.toInt.toNat + 1 := by omega
  rw [e, gaL_s, ← gp]
  first
    | (rw [r_G_18_F_F_a_2_1] at hs34
       rw [hs34, gaq_t (Or.inl rfl), oq62, D_G_18_q34])
    | (rw [d_G_18_F_a_2_2] at hn34
       rcases hn34 with h | h
       · exfalso; omega
       · rw [r_G_18_F_F_a_2_1] at h
         rw [h]
         exact (List.append_nil _).symm)
theorem v_X10_holdsOnPaper_81_3 {F : Nat → Nat → Nat} (a : Nat) (G_18 : XG) (x69 : Int32)
    (oq69 : ∀ j : Int, 0 ≤ j → j < ((G_18.1 (F a 9) 6).toInt) → (x69.toInt = -1 ∨ j < x69.toInt) → aI (G_18.2.1 (F (F a 9) 5)) j = 0)
    (t69 : x69.toInt = -1 ∨ (0 ≤ x69.toInt ∧ x69.toInt < ((G_18.1 (F a 9) 6).toInt) ∧ (aI (G_18.2.1 (F (F a 9) 5)) (x69.toInt)) = 1))
    (c73 : x69.toInt = (-1 : Int)) :
    ffL (qL G_18 F (F a 9)) = -1 := by
  exact (ff_list t69 oq69).symm.trans c73
theorem v_X10_holdsOnPaper_77_4 {K : Nat → Nat} {F : Nat → Nat → Nat} (a : Nat) (G : XG) (G4 : XG) (G13 : XG) (G_18 : XG) (p0 : Int32) (p1 : Int32) (l3_18 : Int32) (x69 : Int32) (N18 : Nat)
    (ha : K a = 12)
    (oq13 : ONb (aI (G13.2.1 (F (F a 11) 1))) (aI (G13.2.1 (F (F a 11) 0))) p0.toInt p1.toInt)
    (gp : qL G_18 F (F a 9) = gaL G (G.2.2.1 (F (F a 2) 1)) (vw (G.2.1 (F (F a 3) 0))) (vw (G.2.1 (F (F a 5) 0))) 0 (l3_18.toInt).toNat)
    (gn : ffL (qL G_18 F (F a 9)) = -1)
    (hn34 : (l3_18.toInt < 0 ∨ ((G_18.1 (F a 2) 2).toInt) ≤ l3_18.toInt ∨ 12 ≤ l3_18.toInt) ∨ G_18.2.2.1 (F (F a 2) 1) (l3_18.toInt).toNat = none)
    (oq69 : ∀ j : Int, 0 ≤ j → j < ((G_18.1 (F a 9) 6).toInt) → (x69.toInt = -1 ∨ j < x69.toInt) → aI (G_18.2.1 (F (F a 9) 5)) j = 0)
    (sb : 0 ≤ ((G.1 (F a 2) 2).toInt) ∧ ((G.1 (F a 2) 2).toInt) ≤ 12)
    (e0 : 0 ≤ p0.toInt ∧ p0.toInt < 3 ∧ 0 ≤ p1.toInt ∧ p1.toInt < 30)
    (t4 : ((G4.1 (F a 9) 6).toInt) = 0)
    (I18_0 : 0 ≤ l3_18.toInt ∧ l3_18.toInt ≤ ((G.1 (F a 2) 2).toInt))
    (I18_1 : 0 ≤ ((G_18.1 (F a 9) 6).toInt) ∧ ((G_18.1 (F a 9) 6).toInt) ≤ 90 * l3_18.toInt)
    (hm18 : 100 - l3_18.toInt < (((N18) + 1 : Nat) : Int))
    (c26 : ¬ (((G.1 (F a 2) 2).toInt) ≤ l3_18.toInt))
    (t69 : x69.toInt = -1 ∨ (0 ≤ x69.toInt ∧ x69.toInt < ((G_18.1 (F a 9) 6).toInt) ∧ (aI (G_18.2.1 (F (F a 9) 5)) (x69.toInt)) = 1))
    (c73 : ¬ (x69.toInt = (-1 : Int)))
    (r_G_18_F_F_a_2_1 : G_18.2.2.1 (F (F a 2) 1) = G.2.2.1 (F (F a 2) 1)) :
    ((0 : Int) = 1 ∧ ffL (gaL G (G.2.2.1 (F (F a 2) 1)) (vw (G.2.1 (F (F a 3) 0))) (vw (G.2.1 (F (F a 5) 0))) 0 (((G.1 (F a 2) 2).toInt)).toNat) = -1) ∨ ((0 : Int) = 0 ∧ ffL (gaL G (G.2.2.1 (F (F a 2) 1)) (vw (G.2.1 (F (F a 3) 0))) (vw (G.2.1 (F (F a 5) 0))) 0 (((G.1 (F a 2) 2).toInt)).toNat) ≠ -1) := by
  first
    | (have k : ffL (qL G62 F (F a 9)) ≠ -1 := fun h => c73 ((ff_list t69 oq69).trans h)
       rw [show qL G62 F (F a 9) = gaL G (G.2.2.1 (F (F a 2) 1)) (vw (G.2.1 (F (F a 3) 0))) (vw (G.2.1 (F (F a 5) 0))) 0 (l3_18.toInt.toNat + 1) from (by rw [gaL_s, ← gp]; rw [r_G_18_F_F_a_2_1] at hs34; rw [hs34, gaq_t (Or.inl rfl), oq62, D_G_18_q34])] at k
       exact Or.inr ⟨rfl, gaL_ff k (by omega)⟩)
    | exact absurd ((ff_list t69 oq69).trans gn) c73
theorem v_X10_holdsOnPaper_62_5 {F : Nat → Nat → Nat} (a : Nat) (G : XG) (G_18 : XG)
    (ron : RO (vw (G.2.1 (F (F a 3) 0))) (aI (G.2.1 (F (F a 3) 1))))
    (rop : RO (vw (G.2.1 (F (F a 5) 0))) (aI (G.2.1 (F (F a 5) 1))))
    (c_G_18_F_F_a_3_0 : G_18.2.1 (F (F a 3) 0) = G.2.1 (F (F a 3) 0))
    (c_G_18_F_F_a_3_1 : G_18.2.1 (F (F a 3) 1) = G.2.1 (F (F a 3) 1)) :
    RO (vw (G_18.2.1 (F (F a 3) 0))) (aI (G_18.2.1 (F (F a 3) 1))) := by simp only [c_G_18_F_F_a_3_0, c_G_18_F_F_a_3_1]; assumption
theorem v_X10_holdsOnPaper_62_6 {F : Nat → Nat → Nat} (a : Nat) (G : XG) (G_18 : XG)
    (ron : RO (vw (G.2.1 (F (F a 3) 0))) (aI (G.2.1 (F (F a 3) 1))))
    (rop : RO (vw (G.2.1 (F (F a 5) 0))) (aI (G.2.1 (F (F a 5) 1))))
    (c_G_18_F_F_a_5_0 : G_18.2.1 (F (F a 5) 0) = G.2.1 (F (F a 5) 0))
    (c_G_18_F_F_a_5_1 : G_18.2.1 (F (F a 5) 1) = G.2.1 (F (F a 5) 1)) :
    RO (vw (G_18.2.1 (F (F a 5) 0))) (aI (G_18.2.1 (F (F a 5) 1))) := by simp only [c_G_18_F_F_a_5_0, c_G_18_F_F_a_5_1]; assumption
theorem v_X10_holdsOnPaper_62_7 {K : Nat → Nat} {F : Nat → Nat → Nat} (G : XG) (a : Nat) (G_18 : XG) (l3_18 : Int32) (q34 : Nat)
    (bko : BKr K G (G.2.2.1 (F (F a 2) 1)))
    (hs34 : G_18.2.2.1 (F (F a 2) 1) (l3_18.toInt).toNat = some q34)
    (ht34 : 0 ≤ l3_18.toInt ∧ l3_18.toInt < ((G.1 (F a 2) 2).toInt) ∧ l3_18.toInt < 12)
    (r_G_18_F_F_a_2_1 : G_18.2.2.1 (F (F a 2) 1) = G.2.2.1 (F (F a 2) 1))
    (D_G_18_q34 : G_18.1 q34 = G.1 q34) :
    RW (G_18.1 q34) := by
  rw [D_G_18_q34]
  exact (bko l3_18.toInt.toNat q34 (by omega) (by rw [← r_G_18_F_F_a_2_1]; exact hs34)).2
theorem v_X10_holdsOnPaper_62_8 {F : Nat → Nat → Nat} (p0 : Int32) (p1 : Int32) (G : XG) (a : Nat) (G13 : XG) (G_18 : XG)
    (h1 : ∀ cg ch : Int → Int, ONb cg ch p0.toInt p1.toInt → CH (vw (G.2.1 (F (F a 3) 0))) (vw (G.2.1 (F (F a 5) 0))) cg ch)
    (oq13 : ONb (aI (G13.2.1 (F (F a 11) 1))) (aI (G13.2.1 (F (F a 11) 0))) p0.toInt p1.toInt)
    (c_G_18_F_F_a_11_0 : G_18.2.1 (F (F a 11) 0) = G13.2.1 (F (F a 11) 0))
    (c_G_18_F_F_a_11_1 : G_18.2.1 (F (F a 11) 1) = G13.2.1 (F (F a 11) 1))
    (c_G_18_F_F_a_3_0 : G_18.2.1 (F (F a 3) 0) = G.2.1 (F (F a 3) 0))
    (c_G_18_F_F_a_5_0 : G_18.2.1 (F (F a 5) 0) = G.2.1 (F (F a 5) 0)) :
    CH (vw (G_18.2.1 (F (F a 3) 0))) (vw (G_18.2.1 (F (F a 5) 0))) (aI (G_18.2.1 (F (F a 11) 1))) (aI (G_18.2.1 (F (F a 11) 0))) := by
  rw [c_G_18_F_F_a_3_0, c_G_18_F_F_a_5_0, c_G_18_F_F_a_11_1, c_G_18_F_F_a_11_0]
  exact h1 _ _ oq13
theorem v_X10_holdsOnPaper_81_9 {K : Nat → Nat} {F : Nat → Nat → Nat} (a : Nat) (q34 : Nat) (G : XG) (G4 : XG) (G13 : XG) (G_18 : XG) (G62 : XG) (p0 : Int32) (p1 : Int32) (l3_18 : Int32) (x69 : Int32) (N18 : Nat)
    (ha : K a = 12)
    (oq13 : ONb (aI (G13.2.1 (F (F a 11) 1))) (aI (G13.2.1 (F (F a 11) 0))) p0.toInt p1.toInt)
    (gp : qL G_18 F (F a 9) = gaL G (G.2.2.1 (F (F a 2) 1)) (vw (G.2.1 (F (F a 3) 0))) (vw (G.2.1 (F (F a 5) 0))) 0 (l3_18.toInt).toNat)
    (gn : ffL (qL G_18 F (F a 9)) = -1)
    (hs34 : G_18.2.2.1 (F (F a 2) 1) (l3_18.toInt).toNat = some q34)
    (oq62 : qL G62 F (F a 9) = qL G_18 F (F a 9) ++ uqs (vw (G.2.1 (F (F a 3) 0))) (vw (G.2.1 (F (F a 5) 0))) (G_18.1 q34))
    (sb : 0 ≤ ((G.1 (F a 2) 2).toInt) ∧ ((G.1 (F a 2) 2).toInt) ≤ 12)
    (e0 : 0 ≤ p0.toInt ∧ p0.toInt < 3 ∧ 0 ≤ p1.toInt ∧ p1.toInt < 30)
    (t4 : ((G4.1 (F a 9) 6).toInt) = 0)
    (I18_0 : 0 ≤ l3_18.toInt ∧ l3_18.toInt ≤ ((G.1 (F a 2) 2).toInt))
    (I18_1 : 0 ≤ ((G_18.1 (F a 9) 6).toInt) ∧ ((G_18.1 (F a 9) 6).toInt) ≤ 90 * l3_18.toInt)
    (hm18 : 100 - l3_18.toInt < (((N18) + 1 : Nat) : Int))
    (c26 : ¬ (((G.1 (F a 2) 2).toInt) ≤ l3_18.toInt))
    (ht34 : 0 ≤ l3_18.toInt ∧ l3_18.toInt < ((G.1 (F a 2) 2).toInt) ∧ l3_18.toInt < 12)
    (t62 : ((G_18.1 (F a 9) 6).toInt) ≤ ((G62.1 (F a 9) 6).toInt) ∧ ((G62.1 (F a 9) 6).toInt) ≤ ((G_18.1 (F a 9) 6).toInt) + 90)
    (t69 : x69.toInt = -1 ∨ (0 ≤ x69.toInt ∧ x69.toInt < ((G62.1 (F a 9) 6).toInt) ∧ (aI (G62.2.1 (F (F a 9) 5)) (x69.toInt)) = 1))
    (c73 : x69.toInt = (-1 : Int))
    (r_G_18_F_F_a_2_1 : G_18.2.2.1 (F (F a 2) 1) = G.2.2.1 (F (F a 2) 1))
    (D_G_18_q34 : G_18.1 q34 = G.1 q34) :
    qL G62 F (F a 9) = gaL G (G.2.2.1 (F (F a 2) 1)) (vw (G.2.1 (F (F a 3) 0))) (vw (G.2.1 (F (F a 5) 0))) 0 (l3_18.toInt + 1).toNat := by
  have e : (l3_18.toInt + 1).toNat = l3_18.toInt.toNat + 1 := by omega
  rw [e, gaL_s, ← gp]
  first
    | (rw [r_G_18_F_F_a_2_1] at hs34
       rw [hs34, gaq_t (Or.inl rfl), oq62, D_G_18_q34])
    | (rw [d_G_18_F_a_2_2] at hn34
       rcases hn34 with h | h
       · exfalso; omega
       · rw [r_G_18_F_F_a_2_1] at h
         rw [h]
         exact (List.append_nil _).symm)
theorem v_X10_holdsOnPaper_81_10 {F : Nat → Nat → Nat} (a : Nat) (G62 : XG) (x69 : Int32)
    (oq69 : ∀ j : Int, 0 ≤ j → j < ((G62.1 (F a 9) 6).toInt) → (x69.toInt = -1 ∨ j < x69.toInt) → aI (G62.2.1 (F (F a 9) 5)) j = 0)
    (t69 : x69.toInt = -1 ∨ (0 ≤ x69.toInt ∧ x69.toInt < ((G62.1 (F a 9) 6).toInt) ∧ (aI (G62.2.1 (F (F a 9) 5)) (x69.toInt)) = 1))
    (c73 : x69.toInt = (-1 : Int)) :
    ffL (qL G62 F (F a 9)) = -1 := by
  exact (ff_list t69 oq69).symm.trans c73
theorem v_X10_holdsOnPaper_77_11 {K : Nat → Nat} {F : Nat → Nat → Nat} (a : Nat) (q34 : Nat) (G : XG) (G4 : XG) (G13 : XG) (G_18 : XG) (G62 : XG) (p0 : Int32) (p1 : Int32) (l3_18 : Int32) (x69 : Int32) (N18 : Nat)
    (ha : K a = 12)
    (oq13 : ONb (aI (G13.2.1 (F (F a 11) 1))) (aI (G13.2.1 (F (F a 11) 0))) p0.toInt p1.toInt)
    (gp : qL G_18 F (F a 9) = gaL G (G.2.2.1 (F (F a 2) 1)) (vw (G.2.1 (F (F a 3) 0))) (vw (G.2.1 (F (F a 5) 0))) 0 (l3_18.toInt).toNat)
    (gn : ffL (qL G_18 F (F a 9)) = -1)
    (hs34 : G_18.2.2.1 (F (F a 2) 1) (l3_18.toInt).toNat = some q34)
    (oq62 : qL G62 F (F a 9) = qL G_18 F (F a 9) ++ uqs (vw (G.2.1 (F (F a 3) 0))) (vw (G.2.1 (F (F a 5) 0))) (G_18.1 q34))
    (oq69 : ∀ j : Int, 0 ≤ j → j < ((G62.1 (F a 9) 6).toInt) → (x69.toInt = -1 ∨ j < x69.toInt) → aI (G62.2.1 (F (F a 9) 5)) j = 0)
    (sb : 0 ≤ ((G.1 (F a 2) 2).toInt) ∧ ((G.1 (F a 2) 2).toInt) ≤ 12)
    (e0 : 0 ≤ p0.toInt ∧ p0.toInt < 3 ∧ 0 ≤ p1.toInt ∧ p1.toInt < 30)
    (t4 : ((G4.1 (F a 9) 6).toInt) = 0)
    (I18_0 : 0 ≤ l3_18.toInt ∧ l3_18.toInt ≤ ((G.1 (F a 2) 2).toInt))
    (I18_1 : 0 ≤ ((G_18.1 (F a 9) 6).toInt) ∧ ((G_18.1 (F a 9) 6).toInt) ≤ 90 * l3_18.toInt)
    (hm18 : 100 - l3_18.toInt < (((N18) + 1 : Nat) : Int))
    (c26 : ¬ (((G.1 (F a 2) 2).toInt) ≤ l3_18.toInt))
    (ht34 : 0 ≤ l3_18.toInt ∧ l3_18.toInt < ((G.1 (F a 2) 2).toInt) ∧ l3_18.toInt < 12)
    (t62 : ((G_18.1 (F a 9) 6).toInt) ≤ ((G62.1 (F a 9) 6).toInt) ∧ ((G62.1 (F a 9) 6).toInt) ≤ ((G_18.1 (F a 9) 6).toInt) + 90)
    (t69 : x69.toInt = -1 ∨ (0 ≤ x69.toInt ∧ x69.toInt < ((G62.1 (F a 9) 6).toInt) ∧ (aI (G62.2.1 (F (F a 9) 5)) (x69.toInt)) = 1))
    (c73 : ¬ (x69.toInt = (-1 : Int)))
    (r_G_18_F_F_a_2_1 : G_18.2.2.1 (F (F a 2) 1) = G.2.2.1 (F (F a 2) 1))
    (D_G_18_q34 : G_18.1 q34 = G.1 q34) :
    ((0 : Int) = 1 ∧ ffL (gaL G (G.2.2.1 (F (F a 2) 1)) (vw (G.2.1 (F (F a 3) 0))) (vw (G.2.1 (F (F a 5) 0))) 0 (((G.1 (F a 2) 2).toInt)).toNat) = -1) ∨ ((0 : Int) = 0 ∧ ffL (gaL G (G.2.2.1 (F (F a 2) 1)) (vw (G.2.1 (F (F a 3) 0))) (vw (G.2.1 (F (F a 5) 0))) 0 (((G.1 (F a 2) 2).toInt)).toNat) ≠ -1) := by
  first
    | (have k : ffL (qL G62 F (F a 9)) ≠ -1 := fun h => c73 ((ff_list t69 oq69).trans h)
       rw [show qL G62 F (F a 9) = gaL G (G.2.2.1 (F (F a 2) 1)) (vw (G.2.1 (F (F a 3) 0))) (vw (G.2.1 (F (F a 5) 0))) 0 (l3_18.toInt.toNat + 1) from (by rw [gaL_s, ← gp]; rw [r_G_18_F_F_a_2_1] at hs34; rw [hs34, gaq_t (Or.inl rfl), oq62, D_G_18_q34])] at k
       exact Or.inr ⟨rfl, gaL_ff k (by omega)⟩)
    | exact absurd ((ff_list t69 oq69).trans gn) c73
theorem v_X10_holdsOnPaper_17_12 {F : Nat → Nat → Nat} (a : Nat) (G : XG) (G4 : XG) (G13 : XG)
    (t4 : ((G4.1 (F a 9) 6).toInt) = 0)
    (d_G13_F_a_9_6 : G13.1 (F a 9) 6 = G4.1 (F a 9) 6) :
    qL G13 F (F a 9) = gaL G (G.2.2.1 (F (F a 2) 1)) (vw (G.2.1 (F (F a 3) 0))) (vw (G.2.1 (F (F a 5) 0))) 0 (0 : Int).toNat := by
  show lst _ (G13.1 (F a 9) 6).toInt.toNat = []
  rw [d_G13_F_a_9_6, t4]
  rfl
theorem v_X10_holdsOnPaper_17_13 {F : Nat → Nat → Nat} (a : Nat) (G4 : XG) (G13 : XG)
    (t4 : ((G4.1 (F a 9) 6).toInt) = 0)
    (d_G13_F_a_9_6 : G13.1 (F a 9) 6 = G4.1 (F a 9) 6) :
    ffL (qL G13 F (F a 9)) = -1 := by
  have e : qL G13 F (F a 9) = [] := by
    show lst _ (G13.1 (F a 9) 6).toInt.toNat = []
    rw [d_G13_F_a_9_6, t4]
    rfl
  rw [e]
  rfl
theorem v_X10_least_6_1 {F : Nat → Nat → Nat} (a : Nat) (G : XG)
    (ron : RO (vw (G.2.1 (F (F a 3) 0))) (aI (G.2.1 (F (F a 3) 1)))) :
    RO (vw (G.2.1 (F (F a 3) 0))) (aI (G.2.1 (F (F a 3) 1))) := by exact ron
theorem v_X10_least_22_2 {K : Nat → Nat} {F : Nat → Nat → Nat} (a : Nat) (G : XG) (p0 : Int32) (p1 : Int32) (x6 : Int32) (p2 : Int32)
    (ha : K a = 12)
    (sb : 0 ≤ ((G.1 (F a 2) 2).toInt) ∧ ((G.1 (F a 2) 2).toInt) ≤ 12)
    (z5 : ¬ (0 ≤ p0.toInt ∧ p0.toInt < 3 ∧ 0 ≤ p1.toInt ∧ p1.toInt < 30) → (cel (vw (G.2.1 (F (F a 3) 0))) (p0.toInt) (p1.toInt) 0) = -2000)
    (t6 : (x6.toInt = 1 ∧ (cel (vw (G.2.1 (F (F a 3) 0))) (p0.toInt) (p1.toInt) 0) ≠ -2000) ∨ (x6.toInt = 0 ∧ (cel (vw (G.2.1 (F (F a 3) 0))) (p0.toInt) (p1.toInt) 0) = -2000))
    (c9 : x6.toInt = 0) :
    (¬ (cel (vw (G.2.1 (F (F a 3) 0))) p0.toInt p1.toInt 0 ≠ -2000 ∧ 0 ≤ p2.toInt ∧ p2.toInt < 3) ∧ (-2147483648 : Int) = -2147483648) ∨ ((cel (vw (G.2.1 (F (F a 3) 0))) p0.toInt p1.toInt 0 ≠ -2000 ∧ 0 ≤ p2.toInt ∧ p2.toInt < 3) ∧ LsS (fun v => ffL (gaL G (G.2.2.1 (F (F a 2) 1)) (vw (G.2.1 (F (F a 3) 0))) (rset (vw (G.2.1 (F (F a 3) 0))) (90 * p0.toInt + 30 * p2.toInt + p1.toInt) v) 0 (((G.1 (F a 2) 2).toInt)).toNat) = -1) (cel (vw (G.2.1 (F (F a 3) 0))) p0.toInt p1.toInt p2.toInt) (-2147483648 : Int)) := by
  exact Or.inl ⟨by omega, rfl⟩
theorem v_X10_least_43_3 {F : Nat → Nat → Nat} (a : Nat) (G : XG)
    (ron : RO (vw (G.2.1 (F (F a 3) 0))) (aI (G.2.1 (F (F a 3) 1)))) :
    RO (vw (G.2.1 (F (F a 3) 0))) (aI (G.2.1 (F (F a 3) 1))) := by exact ron
theorem v_X10_least_97_4 {K : Nat → Nat} {F : Nat → Nat → Nat} (a : Nat) (G : XG) (G_50 : XG) (p0 : Int32) (p1 : Int32) (p2 : Int32) (l5_50 : Int32) (x6 : Int32) (x13 : Int32) (N50 : Nat)
    (ha : K a = 12)
    (ph : cel (vw (G_50.2.1 (F (F a 5) 0))) p0.toInt p1.toInt 0 ≠ -2000)
    (lp : ∀ v : Int, -99 ≤ v → v < l5_50.toInt → v ≠ cel (vw (G.2.1 (F (F a 3) 0))) p0.toInt p1.toInt p2.toInt → ffL (gaL G (G.2.2.1 (F (F a 2) 1)) (vw (G.2.1 (F (F a 3) 0))) (rset (vw (G.2.1 (F (F a 3) 0))) (90 * p0.toInt + 30 * p2.toInt + p1.toInt) v) 0 ((G.1 (F a 2) 2).toInt).toNat) ≠ -1)
    (sb : 0 ≤ ((G.1 (F a 2) 2).toInt) ∧ ((G.1 (F a 2) 2).toInt) ≤ 12)
    (z5 : ¬ (0 ≤ p0.toInt ∧ p0.toInt < 3 ∧ 0 ≤ p1.toInt ∧ p1.toInt < 30) → (cel (vw (G.2.1 (F (F a 3) 0))) (p0.toInt) (p1.toInt) 0) = -2000)
    (t6 : (x6.toInt = 1 ∧ (cel (vw (G.2.1 (F (F a 3) 0))) (p0.toInt) (p1.toInt) 0) ≠ -2000) ∨ (x6.toInt = 0 ∧ (cel (vw (G.2.1 (F (F a 3) 0))) (p0.toInt) (p1.toInt) 0) = -2000))
    (c9 : ¬ (x6.toInt = 0))
    (t13 : (x13.toInt = 1 ∧ 0 ≤ p2.toInt ∧ p2.toInt < 3) ∨ (x13.toInt = 0 ∧ (p2.toInt < 0 ∨ 3 ≤ p2.toInt)))
    (c16 : x13.toInt ≠ 0)
    (I50_0 : -99 ≤ l5_50.toInt ∧ l5_50.toInt ≤ 100)
    (hm50 : 200 - l5_50.toInt < (((N50) + 1 : Nat) : Int))
    (c54 : (99 : Int) < l5_50.toInt) :
    (¬ (cel (vw (G.2.1 (F (F a 3) 0))) p0.toInt p1.toInt 0 ≠ -2000 ∧ 0 ≤ p2.toInt ∧ p2.toInt < 3) ∧ (-2147483648 : Int) = -2147483648) ∨ ((cel (vw (G.2.1 (F (F a 3) 0))) p0.toInt p1.toInt 0 ≠ -2000 ∧ 0 ≤ p2.toInt ∧ p2.toInt < 3) ∧ LsS (fun v => ffL (gaL G (G.2.2.1 (F (F a 2) 1)) (vw (G.2.1 (F (F a 3) 0))) (rset (vw (G.2.1 (F (F a 3) 0))) (90 * p0.toInt + 30 * p2.toInt + p1.toInt) v) 0 (((G.1 (F a 2) 2).toInt)).toNat) = -1) (cel (vw (G.2.1 (F (F a 3) 0))) p0.toInt p1.toInt p2.toInt) (-2147483648 : Int)) := by
  exact Or.inr ⟨by omega, LsS_no (fun v a1 a2 a3 => lp v a1 (by omega) a3)⟩
theorem v_X10_least_66_5 {F : Nat → Nat → Nat} (a : Nat) (G_50 : XG)
    (ro : RO (vw (G_50.2.1 (F (F a 5) 0))) (aI (G_50.2.1 (F (F a 5) 1)))) :
    RO (vw (G_50.2.1 (F (F a 5) 0))) (aI (G_50.2.1 (F (F a 5) 1))) := by exact ro
theorem v_X10_least_91_6 {F : Nat → Nat → Nat} (G_50 : XG) (a : Nat) (p0 : Int32) (p2 : Int32) (p1 : Int32) (G : XG) (G66 : XG) (l5_50 : Int32)
    (pp : ∀ v : Int, rset (vw (G_50.2.1 (F (F a 5) 0))) (90 * p0.toInt + 30 * p2.toInt + p1.toInt) v = rset (vw (G.2.1 (F (F a 3) 0))) (90 * p0.toInt + 30 * p2.toInt + p1.toInt) v)
    (ph : cel (vw (G_50.2.1 (F (F a 5) 0))) p0.toInt p1.toInt 0 ≠ -2000)
    (oq66 : (vw (G66.2.1 (F (F a 5) 0))) = if cel (vw (G_50.2.1 (F (F a 5) 0))) (p0.toInt) (p1.toInt) 0 ≠ -2000 then rset (vw (G_50.2.1 (F (F a 5) 0))) (90 * (p0.toInt) + 30 * (p2.toInt) + (p1.toInt)) (l5_50.toInt) else (vw (G_50.2.1 (F (F a 5) 0)))) :
    ∀ v : Int, rset (vw (G66.2.1 (F (F a 5) 0))) (90 * p0.toInt + 30 * p2.toInt + p1.toInt) v = rset (vw (G.2.1 (F (F a 3) 0))) (90 * p0.toInt + 30 * p2.toInt + p1.toInt) v := by
  intro v
  (try rw [c_G79_F_F_a_5_0])
  rw [oq66, if_pos ph, rset_rset]
  exact pp v
theorem v_X10_least_91_7 {F : Nat → Nat → Nat} (G66 : XG) (a : Nat) (G_50 : XG)
    (oq66a : RO (vw (G66.2.1 (F (F a 5) 0))) (aI (G66.2.1 (F (F a 5) 1))))
    (c_G66_F_F_a_5_1 : G66.2.1 (F (F a 5) 1) = G_50.2.1 (F (F a 5) 1)) :
    RO (vw (G66.2.1 (F (F a 5) 0))) (aI (G_50.2.1 (F (F a 5) 1))) := by
  (try rw [c_G79_F_F_a_5_0])
  (try rw [c_G79_F_F_a_5_1])
  (try rw [c_G66_F_F_a_5_1] at oq66a)
  exact oq66a
theorem v_X10_least_91_8 {F : Nat → Nat → Nat} (G_50 : XG) (a : Nat) (p0 : Int32) (p1 : Int32) (G66 : XG) (p2 : Int32) (l5_50 : Int32) (G : XG) (x6 : Int32) (x13 : Int32)
    (ph : cel (vw (G_50.2.1 (F (F a 5) 0))) p0.toInt p1.toInt 0 ≠ -2000)
    (oq66 : (vw (G66.2.1 (F (F a 5) 0))) = if cel (vw (G_50.2.1 (F (F a 5) 0))) (p0.toInt) (p1.toInt) 0 ≠ -2000 then rset (vw (G_50.2.1 (F (F a 5) 0))) (90 * (p0.toInt) + 30 * (p2.toInt) + (p1.toInt)) (l5_50.toInt) else (vw (G_50.2.1 (F (F a 5) 0))))
    (z5 : ¬ (0 ≤ p0.toInt ∧ p0.toInt < 3 ∧ 0 ≤ p1.toInt ∧ p1.toInt < 30) → (cel (vw (G.2.1 (F (F a 3) 0))) (p0.toInt) (p1.toInt) 0) = -2000)
    (t6 : (x6.toInt = 1 ∧ (cel (vw (G.2.1 (F (F a 3) 0))) (p0.toInt) (p1.toInt) 0) ≠ -2000) ∨ (x6.toInt = 0 ∧ (cel (vw (G.2.1 (F (F a 3) 0))) (p0.toInt) (p1.toInt) 0) = -2000))
    (c9 : ¬ (x6.toInt = 0))
    (t13 : (x13.toInt = 1 ∧ 0 ≤ p2.toInt ∧ p2.toInt < 3) ∨ (x13.toInt = 0 ∧ (p2.toInt < 0 ∨ 3 ≤ p2.toInt)))
    (c16 : x13.toInt ≠ 0)
    (I50_0 : -99 ≤ l5_50.toInt ∧ l5_50.toInt ≤ 100)
    (c54 : ¬ ((99 : Int) < l5_50.toInt)) :
    cel (vw (G66.2.1 (F (F a 5) 0))) p0.toInt p1.toInt 0 ≠ -2000 := by
  (try rw [c_G79_F_F_a_5_0])
  rw [oq66, if_pos ph]
  exact cel_rset_ne (by omega) ph (by omega)
theorem v_X10_least_91_9 {K : Nat → Nat} {F : Nat → Nat → Nat} (a : Nat) (G : XG) (G66 : XG) (G_50 : XG) (p0 : Int32) (p1 : Int32) (p2 : Int32) (l5_50 : Int32) (x6 : Int32) (x13 : Int32) (N50 : Nat)
    (ha : K a = 12)
    (hk9999 : K (F a 11) = 3)
    (hj9999 : F (F a 11) 99 = 0)
    (hk9999a : K (F a 9) = 6)
    (hj9999a : F (F a 9) 99 = 1)
    (hk9999b : K (F (F a 11) 0) = 21)
    (hj9999b : F (F (F a 11) 0) 99 = 100)
    (hk9999c : K (F (F a 11) 1) = 21)
    (hj9999c : F (F (F a 11) 1) 99 = 101)
    (hk9999d : K (F (F a 11) 2) = 24)
    (hj9999d : F (F (F a 11) 2) 99 = 4)
    (hk9999e : K (F (F a 9) 0) = 22)
    (hj9999f : F (F (F a 9) 0) 99 = 10 * 1 + 0)
    (hk9999f : K (F (F a 9) 1) = 22)
    (hj9999h : F (F (F a 9) 1) 99 = 10 * 1 + 1)
    (hk9999g : K (F (F a 9) 2) = 22)
    (hj9999j : F (F (F a 9) 2) 99 = 10 * 1 + 2)
    (hk9999h : K (F (F a 9) 3) = 22)
    (hj9999l : F (F (F a 9) 3) 99 = 10 * 1 + 3)
    (hk9999i : K (F (F a 9) 4) = 23)
    (hj9999n : F (F (F a 9) 4) 99 = 10 * 1 + 4)
    (hk9999j : K (F (F a 9) 5) = 23)
    (hj9999p : F (F (F a 9) 5) 99 = 10 * 1 + 5)
    (hk9999k : K (F a 5) = 8)
    (hj9999q : F (F a 5) 99 = 2)
    (hk9999l : K (F (F a 5) 0) = 20)
    (hj9999s : F (F (F a 5) 0) 99 = 2)
    (hk9999m : K (F (F a 5) 1) = 21)
    (hj9999u : F (F (F a 5) 1) 99 = 2)
    (hk9999n : K (F a 2) = 2)
    (hj9999v : F (F a 2) 99 = 0)
    (hk9999o : K (F (F a 2) 1) = 15)
    (hj9999w : F (F (F a 2) 1) 99 = 1)
    (hk9999p : K (F a 3) = 8)
    (hj9999y : F (F a 3) 99 = 0)
    (hk9999q : K (F (F a 3) 0) = 20)
    (hj9999z26 : F (F (F a 3) 0) 99 = 0)
    (hk9999r : K (F (F a 3) 1) = 21)
    (hj9999z28 : F (F (F a 3) 1) 99 = 0)
    (hfr : XFr [(F a 11, 3), (F a 9, 6)] [F (F a 11) 0, F (F a 11) 1, F (F a 11) 2, F (F a 9) 0, F (F a 9) 1, F (F a 9) 2, F (F a 9) 3, F (F a 9) 4, F (F a 9) 5, F (F a 5) 0, F (F a 5) 1] [] G G66)
    (bko : BKr K G (G.2.2.1 (F (F a 2) 1)))
    (pp : ∀ v : Int, rset (vw (G_50.2.1 (F (F a 5) 0))) (90 * p0.toInt + 30 * p2.toInt + p1.toInt) v = rset (vw (G.2.1 (F (F a 3) 0))) (90 * p0.toInt + 30 * p2.toInt + p1.toInt) v)
    (ph : cel (vw (G_50.2.1 (F (F a 5) 0))) p0.toInt p1.toInt 0 ≠ -2000)
    (lp : ∀ v : Int, -99 ≤ v → v < l5_50.toInt → v ≠ cel (vw (G.2.1 (F (F a 3) 0))) p0.toInt p1.toInt p2.toInt → ffL (gaL G (G.2.2.1 (F (F a 2) 1)) (vw (G.2.1 (F (F a 3) 0))) (rset (vw (G.2.1 (F (F a 3) 0))) (90 * p0.toInt + 30 * p2.toInt + p1.toInt) v) 0 ((G.1 (F a 2) 2).toInt).toNat) ≠ -1)
    (oq66 : (vw (G66.2.1 (F (F a 5) 0))) = if cel (vw (G_50.2.1 (F (F a 5) 0))) (p0.toInt) (p1.toInt) 0 ≠ -2000 then rset (vw (G_50.2.1 (F (F a 5) 0))) (90 * (p0.toInt) + 30 * (p2.toInt) + (p1.toInt)) (l5_50.toInt) else (vw (G_50.2.1 (F (F a 5) 0))))
    (sb : 0 ≤ ((G.1 (F a 2) 2).toInt) ∧ ((G.1 (F a 2) 2).toInt) ≤ 12)
    (z5 : ¬ (0 ≤ p0.toInt ∧ p0.toInt < 3 ∧ 0 ≤ p1.toInt ∧ p1.toInt < 30) → (cel (vw (G.2.1 (F (F a 3) 0))) (p0.toInt) (p1.toInt) 0) = -2000)
    (t6 : (x6.toInt = 1 ∧ (cel (vw (G.2.1 (F (F a 3) 0))) (p0.toInt) (p1.toInt) 0) ≠ -2000) ∨ (x6.toInt = 0 ∧ (cel (vw (G.2.1 (F (F a 3) 0))) (p0.toInt) (p1.toInt) 0) = -2000))
    (c9 : ¬ (x6.toInt = 0))
    (t13 : (x13.toInt = 1 ∧ 0 ≤ p2.toInt ∧ p2.toInt < 3) ∨ (x13.toInt = 0 ∧ (p2.toInt < 0 ∨ 3 ≤ p2.toInt)))
    (c16 : x13.toInt ≠ 0)
    (I50_0 : -99 ≤ l5_50.toInt ∧ l5_50.toInt ≤ 100)
    (hm50 : 200 - l5_50.toInt < (((N50) + 1 : Nat) : Int))
    (c54 : ¬ ((99 : Int) < l5_50.toInt))
    (c73 : l5_50.toInt = (cel (vw (G.2.1 (F (F a 3) 0))) (p0.toInt) (p1.toInt) (p2.toInt)))
    (r_G66_F_F_a_2_1 : G66.2.2.1 (F (F a 2) 1) = G.2.2.1 (F (F a 2) 1)) :
    ∀ v : Int, -99 ≤ v → v < (l5_50.toInt + 1) → v ≠ cel (vw (G.2.1 (F (F a 3) 0))) p0.toInt p1.toInt p2.toInt → ffL (gaL G (G.2.2.1 (F (F a 2) 1)) (vw (G.2.1 (F (F a 3) 0))) (rset (vw (G.2.1 (F (F a 3) 0))) (90 * p0.toInt + 30 * p2.toInt + p1.toInt) v) 0 ((G.1 (F a 2) 2).toInt).toNat) ≠ -1 := by
  first
    | (intro v a1 a2 a3
       exact lp v a1 (by omega) a3)
    | (have hd : ∀ p, p ∈ [(F a 11, 3), (F a 9, 6)] → K p.1 ≠ 9 := (List.forall_mem_cons.mpr ⟨(show K (F a 11) ≠ 9 by omega), List.forall_mem_cons.mpr ⟨(show K (F a 9) ≠ 9 by omega), fun _ h => by cases h⟩⟩)
       have hq : ∀ q : Nat, K q = 9 → G66.1 q = G.1 q := fun q hk => (hF79.rule hd hk).symm.trans (hfr.rule hd hk)
       have hc : ∀ (i q : Nat), i < ((G.1 (F a 2) 2).toInt).toNat → G.2.2.1 (F (F a 2) 1) i = some q → G66.1 q = G.1 q := fun i q hi hq9 => hq q (bko i q (by omega) hq9).1
       rw [oq66, if_pos ph, pp, r_G66_F_F_a_2_1, gaL_cg hc] at oq79
       intro v a1 a2 a3
       by_cases e : v = l5_50.toInt
       · rw [e]; exact (oq79.resolve_left (fun h => absurd h.1 (by omega))).2
       · exact lp v a1 (by omega) a3)
theorem v_X10_least_79_10 {F : Nat → Nat → Nat} (a : Nat) (G : XG) (G66 : XG) (G43 : XG) (G_50 : XG)
    (ron : RO (vw (G.2.1 (F (F a 3) 0))) (aI (G.2.1 (F (F a 3) 1))))
    (oq43a : RO (vw (G43.2.1 (F (F a 5) 0))) (aI (G43.2.1 (F (F a 5) 1))))
    (ro : RO (vw (G_50.2.1 (F (F a 5) 0))) (aI (G_50.2.1 (F (F a 5) 1))))
    (oq66a : RO (vw (G66.2.1 (F (F a 5) 0))) (aI (G66.2.1 (F (F a 5) 1))))
    (c_G66_F_F_a_3_0 : G66.2.1 (F (F a 3) 0) = G.2.1 (F (F a 3) 0))
    (c_G66_F_F_a_3_1 : G66.2.1 (F (F a 3) 1) = G.2.1 (F (F a 3) 1)) :
    RO (vw (G66.2.1 (F (F a 3) 0))) (aI (G66.2.1 (F (F a 3) 1))) := by simp only [c_G66_F_F_a_3_0, c_G66_F_F_a_3_1]; assumption
theorem v_X10_least_79_11 {F : Nat → Nat → Nat} (G66 : XG) (a : Nat)
    (oq66a : RO (vw (G66.2.1 (F (F a 5) 0))) (aI (G66.2.1 (F (F a 5) 1)))) :
    RO (vw (G66.2.1 (F (F a 5) 0))) (aI (G66.2.1 (F (F a 5) 1))) := by
  exact oq66a
theorem v_X10_least_79_12 {K : Nat → Nat} {F : Nat → Nat → Nat} (a : Nat) (G : XG) (G66 : XG) (G43 : XG) (G_50 : XG) (x30 : Int32) (p0 : Int32) (p1 : Int32) (p2 : Int32) (l5_50 : Int32) (x6 : Int32) (x13 : Int32) (N50 : Nat)
    (ha : K a = 12)
    (hk9999 : K (F a 11) = 3)
    (hj9999 : F (F a 11) 99 = 0)
    (hk9999a : K (F a 9) = 6)
    (hj9999a : F (F a 9) 99 = 1)
    (hk9999b : K (F (F a 11) 0) = 21)
    (hj9999b : F (F (F a 11) 0) 99 = 100)
    (hk9999c : K (F (F a 11) 1) = 21)
    (hj9999c : F (F (F a 11) 1) 99 = 101)
    (hk9999d : K (F (F a 11) 2) = 24)
    (hj9999d : F (F (F a 11) 2) 99 = 4)
    (hk9999e : K (F (F a 9) 0) = 22)
    (hj9999f : F (F (F a 9) 0) 99 = 10 * 1 + 0)
    (hk9999f : K (F (F a 9) 1) = 22)
    (hj9999h : F (F (F a 9) 1) 99 = 10 * 1 + 1)
    (hk9999g : K (F (F a 9) 2) = 22)
    (hj9999j : F (F (F a 9) 2) 99 = 10 * 1 + 2)
    (hk9999h : K (F (F a 9) 3) = 22)
    (hj9999l : F (F (F a 9) 3) 99 = 10 * 1 + 3)
    (hk9999i : K (F (F a 9) 4) = 23)
    (hj9999n : F (F (F a 9) 4) 99 = 10 * 1 + 4)
    (hk9999j : K (F (F a 9) 5) = 23)
    (hj9999p : F (F (F a 9) 5) 99 = 10 * 1 + 5)
    (hk9999k : K (F a 5) = 8)
    (hj9999q : F (F a 5) 99 = 2)
    (hk9999l : K (F (F a 5) 0) = 20)
    (hj9999s : F (F (F a 5) 0) 99 = 2)
    (hk9999m : K (F (F a 5) 1) = 21)
    (hj9999u : F (F (F a 5) 1) 99 = 2)
    (hk9999n : K (F a 2) = 2)
    (hj9999v : F (F a 2) 99 = 0)
    (hk9999o : K (F (F a 2) 1) = 15)
    (hj9999w : F (F (F a 2) 1) 99 = 1)
    (hk9999p : K (F a 3) = 8)
    (hj9999y : F (F a 3) 99 = 0)
    (hk9999q : K (F (F a 3) 0) = 20)
    (hj9999z26 : F (F (F a 3) 0) 99 = 0)
    (hk9999r : K (F (F a 3) 1) = 21)
    (hj9999z28 : F (F (F a 3) 1) 99 = 0)
    (hfr : XFr [(F a 11, 3), (F a 9, 6)] [F (F a 11) 0, F (F a 11) 1, F (F a 11) 2, F (F a 9) 0, F (F a 9) 1, F (F a 9) 2, F (F a 9) 3, F (F a 9) 4, F (F a 9) 5, F (F a 5) 0, F (F a 5) 1] [] G G66)
    (hF43 : XFr [] [F (F a 5) 0, F (F a 5) 1] [] G G43)
    (hF_50 : XFr [(F a 11, 3), (F a 9, 6)] [F (F a 11) 0, F (F a 11) 1, F (F a 11) 2, F (F a 9) 0, F (F a 9) 1, F (F a 9) 2, F (F a 9) 3, F (F a 9) 4, F (F a 9) 5, F (F a 5) 0, F (F a 5) 1] [] G43 G_50)
    (hF66 : XFr [] [F (F a 5) 0] [] G_50 G66)
    (ron : RO (vw (G.2.1 (F (F a 3) 0))) (aI (G.2.1 (F (F a 3) 1))))
    (bko : BKr K G (G.2.2.1 (F (F a 2) 1)))
    (t30 : x30.toInt = (cel (vw (G.2.1 (F (F a 3) 0))) (p0.toInt) (p1.toInt) (p2.toInt)))
    (oq43 : (vw (G43.2.1 (F (F a 5) 0))) = (vw (G.2.1 (F (F a 3) 0))))
    (oq43a : RO (vw (G43.2.1 (F (F a 5) 0))) (aI (G43.2.1 (F (F a 5) 1))))
    (pp : ∀ v : Int, rset (vw (G_50.2.1 (F (F a 5) 0))) (90 * p0.toInt + 30 * p2.toInt + p1.toInt) v = rset (vw (G.2.1 (F (F a 3) 0))) (90 * p0.toInt + 30 * p2.toInt + p1.toInt) v)
    (ro : RO (vw (G_50.2.1 (F (F a 5) 0))) (aI (G_50.2.1 (F (F a 5) 1))))
    (ph : cel (vw (G_50.2.1 (F (F a 5) 0))) p0.toInt p1.toInt 0 ≠ -2000)
    (lp : ∀ v : Int, -99 ≤ v → v < l5_50.toInt → v ≠ cel (vw (G.2.1 (F (F a 3) 0))) p0.toInt p1.toInt p2.toInt → ffL (gaL G (G.2.2.1 (F (F a 2) 1)) (vw (G.2.1 (F (F a 3) 0))) (rset (vw (G.2.1 (F (F a 3) 0))) (90 * p0.toInt + 30 * p2.toInt + p1.toInt) v) 0 ((G.1 (F a 2) 2).toInt).toNat) ≠ -1)
    (oq66 : (vw (G66.2.1 (F (F a 5) 0))) = if cel (vw (G_50.2.1 (F (F a 5) 0))) (p0.toInt) (p1.toInt) 0 ≠ -2000 then rset (vw (G_50.2.1 (F (F a 5) 0))) (90 * (p0.toInt) + 30 * (p2.toInt) + (p1.toInt)) (l5_50.toInt) else (vw (G_50.2.1 (F (F a 5) 0))))
    (oq66a : RO (vw (G66.2.1 (F (F a 5) 0))) (aI (G66.2.1 (F (F a 5) 1))))
    (sb : 0 ≤ ((G.1 (F a 2) 2).toInt) ∧ ((G.1 (F a 2) 2).toInt) ≤ 12)
    (z5 : ¬ (0 ≤ p0.toInt ∧ p0.toInt < 3 ∧ 0 ≤ p1.toInt ∧ p1.toInt < 30) → (cel (vw (G.2.1 (F (F a 3) 0))) (p0.toInt) (p1.toInt) 0) = -2000)
    (t6 : (x6.toInt = 1 ∧ (cel (vw (G.2.1 (F (F a 3) 0))) (p0.toInt) (p1.toInt) 0) ≠ -2000) ∨ (x6.toInt = 0 ∧ (cel (vw (G.2.1 (F (F a 3) 0))) (p0.toInt) (p1.toInt) 0) = -2000))
    (c9 : ¬ (x6.toInt = 0))
    (t13 : (x13.toInt = 1 ∧ 0 ≤ p2.toInt ∧ p2.toInt < 3) ∨ (x13.toInt = 0 ∧ (p2.toInt < 0 ∨ 3 ≤ p2.toInt)))
    (c16 : x13.toInt ≠ 0)
    (I50_0 : -99 ≤ l5_50.toInt ∧ l5_50.toInt ≤ 100)
    (hm50 : 200 - l5_50.toInt < (((N50) + 1 : Nat) : Int))
    (c54 : ¬ ((99 : Int) < l5_50.toInt))
    (c73 : ¬ (l5_50.toInt = (cel (vw (G.2.1 (F (F a 3) 0))) (p0.toInt) (p1.toInt) (p2.toInt))))
    (c_G66_F_F_a_11_0 : G66.2.1 (F (F a 11) 0) = G_50.2.1 (F (F a 11) 0))
    (c_G66_F_F_a_11_1 : G66.2.1 (F (F a 11) 1) = G_50.2.1 (F (F a 11) 1))
    (c_G66_F_F_a_11_2 : G66.2.1 (F (F a 11) 2) = G_50.2.1 (F (F a 11) 2))
    (c_G66_F_F_a_3_0 : G66.2.1 (F (F a 3) 0) = G.2.1 (F (F a 3) 0))
    (c_G66_F_F_a_5_1 : G66.2.1 (F (F a 5) 1) = G_50.2.1 (F (F a 5) 1))
    (c_G66_F_F_a_9_0 : G66.2.1 (F (F a 9) 0) = G_50.2.1 (F (F a 9) 0))
    (c_G66_F_F_a_9_1 : G66.2.1 (F (F a 9) 1) = G_50.2.1 (F (F a 9) 1))
    (c_G66_F_F_a_9_2 : G66.2.1 (F (F a 9) 2) = G_50.2.1 (F (F a 9) 2))
    (c_G66_F_F_a_9_3 : G66.2.1 (F (F a 9) 3) = G_50.2.1 (F (F a 9) 3))
    (c_G66_F_F_a_9_4 : G66.2.1 (F (F a 9) 4) = G_50.2.1 (F (F a 9) 4))
    (c_G66_F_F_a_9_5 : G66.2.1 (F (F a 9) 5) = G_50.2.1 (F (F a 9) 5))
    (r_G66_F_F_a_2_1 : G66.2.2.1 (F (F a 2) 1) = G.2.2.1 (F (F a 2) 1))
    (d_G66_F_a_11_3 : G66.1 (F a 11) 3 = G_50.1 (F a 11) 3)
    (d_G66_F_a_9_6 : G66.1 (F a 9) 6 = G_50.1 (F a 9) 6) :
    BKr K G66 (G66.2.2.1 (F (F a 2) 1)) := by
  have hd : ∀ p, p ∈ [(F a 11, 3), (F a 9, 6)] → K p.1 ≠ 9 := (List.forall_mem_cons.mpr ⟨(show K (F a 11) ≠ 9 by omega), List.forall_mem_cons.mpr ⟨(show K (F a 9) ≠ 9 by omega), fun _ h => by cases h⟩⟩)
  rw [show G66.2.2.1 (F (F a 2) 1) = G.2.2.1 (F (F a 2) 1) by assumption]
  exact bko.fr hfr hd
theorem v_X10_least_79_13 {F : Nat → Nat → Nat} (G : XG) (a : Nat) (p0 : Int32) (p1 : Int32) (p2 : Int32) (G_50 : XG) (G66 : XG) (l5_50 : Int32) (x6 : Int32) (x13 : Int32)
    (ron : RO (vw (G.2.1 (F (F a 3) 0))) (aI (G.2.1 (F (F a 3) 1))))
    (pp : ∀ v : Int, rset (vw (G_50.2.1 (F (F a 5) 0))) (90 * p0.toInt + 30 * p2.toInt + p1.toInt) v = rset (vw (G.2.1 (F (F a 3) 0))) (90 * p0.toInt + 30 * p2.toInt + p1.toInt) v)
    (ph : cel (vw (G_50.2.1 (F (F a 5) 0))) p0.toInt p1.toInt 0 ≠ -2000)
    (oq66 : (vw (G66.2.1 (F (F a 5) 0))) = if cel (vw (G_50.2.1 (F (F a 5) 0))) (p0.toInt) (p1.toInt) 0 ≠ -2000 then rset (vw (G_50.2.1 (F (F a 5) 0))) (90 * (p0.toInt) + 30 * (p2.toInt) + (p1.toInt)) (l5_50.toInt) else (vw (G_50.2.1 (F (F a 5) 0))))
    (z5 : ¬ (0 ≤ p0.toInt ∧ p0.toInt < 3 ∧ 0 ≤ p1.toInt ∧ p1.toInt < 30) → (cel (vw (G.2.1 (F (F a 3) 0))) (p0.toInt) (p1.toInt) 0) = -2000)
    (t6 : (x6.toInt = 1 ∧ (cel (vw (G.2.1 (F (F a 3) 0))) (p0.toInt) (p1.toInt) 0) ≠ -2000) ∨ (x6.toInt = 0 ∧ (cel (vw (G.2.1 (F (F a 3) 0))) (p0.toInt) (p1.toInt) 0) = -2000))
    (c9 : ¬ (x6.toInt = 0))
    (t13 : (x13.toInt = 1 ∧ 0 ≤ p2.toInt ∧ p2.toInt < 3) ∨ (x13.toInt = 0 ∧ (p2.toInt < 0 ∨ 3 ≤ p2.toInt)))
    (c16 : x13.toInt ≠ 0)
    (I50_0 : -99 ≤ l5_50.toInt ∧ l5_50.toInt ≤ 100)
    (c54 : ¬ ((99 : Int) < l5_50.toInt))
    (c73 : ¬ (l5_50.toInt = (cel (vw (G.2.1 (F (F a 3) 0))) (p0.toInt) (p1.toInt) (p2.toInt))))
    (c_G66_F_F_a_3_0 : G66.2.1 (F (F a 3) 0) = G.2.1 (F (F a 3) 0)) :
    ∀ cg ch : Int → Int, ONb cg ch p0.toInt p1.toInt → CH (vw (G66.2.1 (F (F a 3) 0))) (vw (G66.2.1 (F (F a 5) 0))) cg ch := by
  intro cg ch h
  rw [c_G66_F_F_a_3_0, oq66, if_pos ph, pp]
  exact h.ch ron (by omega) (by omega) (by omega) (by omega)
theorem v_X10_least_91_14 {F : Nat → Nat → Nat} (G_50 : XG) (a : Nat) (p0 : Int32) (p2 : Int32) (p1 : Int32) (G : XG) (G66 : XG) (l5_50 : Int32) (G79 : XG)
    (pp : ∀ v : Int, rset (vw (G_50.2.1 (F (F a 5) 0))) (90 * p0.toInt + 30 * p2.toInt + p1.toInt) v = rset (vw (G.2.1 (F (F a 3) 0))) (90 * p0.toInt + 30 * p2.toInt + p1.toInt) v)
    (ph : cel (vw (G_50.2.1 (F (F a 5) 0))) p0.toInt p1.toInt 0 ≠ -2000)
    (oq66 : (vw (G66.2.1 (F (F a 5) 0))) = if cel (vw (G_50.2.1 (F (F a 5) 0))) (p0.toInt) (p1.toInt) 0 ≠ -2000 then rset (vw (G_50.2.1 (F (F a 5) 0))) (90 * (p0.toInt) + 30 * (p2.toInt) + (p1.toInt)) (l5_50.toInt) else (vw (G_50.2.1 (F (F a 5) 0))))
    (c_G79_F_F_a_5_0 : G79.2.1 (F (F a 5) 0) = G66.2.1 (F (F a 5) 0)) :
    ∀ v : Int, rset (vw (G66.2.1 (F (F a 5) 0))) (90 * p0.toInt + 30 * p2.toInt + p1.toInt) v = rset (vw (G.2.1 (F (F a 3) 0))) (90 * p0.toInt + 30 * p2.toInt + p1.toInt) v := by
  intro v
  (try rw [c_G79_F_F_a_5_0])
  rw [oq66, if_pos ph, rset_rset]
  exact pp v
theorem v_X10_least_91_15 {F : Nat → Nat → Nat} (G66 : XG) (a : Nat) (G_50 : XG) (G79 : XG)
    (oq66a : RO (vw (G66.2.1 (F (F a 5) 0))) (aI (G66.2.1 (F (F a 5) 1))))
    (c_G66_F_F_a_5_1 : G66.2.1 (F (F a 5) 1) = G_50.2.1 (F (F a 5) 1))
    (c_G79_F_F_a_5_0 : G79.2.1 (F (F a 5) 0) = G66.2.1 (F (F a 5) 0))
    (c_G79_F_F_a_5_1 : G79.2.1 (F (F a 5) 1) = G_50.2.1 (F (F a 5) 1)) :
    RO (vw (G66.2.1 (F (F a 5) 0))) (aI (G_50.2.1 (F (F a 5) 1))) := by
  (try rw [c_G79_F_F_a_5_0])
  (try rw [c_G79_F_F_a_5_1])
  (try rw [c_G66_F_F_a_5_1] at oq66a)
  exact oq66a
theorem v_X10_least_91_16 {F : Nat → Nat → Nat} (G_50 : XG) (a : Nat) (p0 : Int32) (p1 : Int32) (G66 : XG) (p2 : Int32) (l5_50 : Int32) (G : XG) (x6 : Int32) (x13 : Int32) (G79 : XG)
    (ph : cel (vw (G_50.2.1 (F (F a 5) 0))) p0.toInt p1.toInt 0 ≠ -2000)
    (oq66 : (vw (G66.2.1 (F (F a 5) 0))) = if cel (vw (G_50.2.1 (F (F a 5) 0))) (p0.toInt) (p1.toInt) 0 ≠ -2000 then rset (vw (G_50.2.1 (F (F a 5) 0))) (90 * (p0.toInt) + 30 * (p2.toInt) + (p1.toInt)) (l5_50.toInt) else (vw (G_50.2.1 (F (F a 5) 0))))
    (z5 : ¬ (0 ≤ p0.toInt ∧ p0.toInt < 3 ∧ 0 ≤ p1.toInt ∧ p1.toInt < 30) → (cel (vw (G.2.1 (F (F a 3) 0))) (p0.toInt) (p1.toInt) 0) = -2000)
    (t6 : (x6.toInt = 1 ∧ (cel (vw (G.2.1 (F (F a 3) 0))) (p0.toInt) (p1.toInt) 0) ≠ -2000) ∨ (x6.toInt = 0 ∧ (cel (vw (G.2.1 (F (F a 3) 0))) (p0.toInt) (p1.toInt) 0) = -2000))
    (c9 : ¬ (x6.toInt = 0))
    (t13 : (x13.toInt = 1 ∧ 0 ≤ p2.toInt ∧ p2.toInt < 3) ∨ (x13.toInt = 0 ∧ (p2.toInt < 0 ∨ 3 ≤ p2.toInt)))
    (c16 : x13.toInt ≠ 0)
    (I50_0 : -99 ≤ l5_50.toInt ∧ l5_50.toInt ≤ 100)
    (c54 : ¬ ((99 : Int) < l5_50.toInt))
    (c_G79_F_F_a_5_0 : G79.2.1 (F (F a 5) 0) = G66.2.1 (F (F a 5) 0)) :
    cel (vw (G66.2.1 (F (F a 5) 0))) p0.toInt p1.toInt 0 ≠ -2000 := by
  (try rw [c_G79_F_F_a_5_0])
  rw [oq66, if_pos ph]
  exact cel_rset_ne (by omega) ph (by omega)
theorem v_X10_least_91_17 {K : Nat → Nat} {F : Nat → Nat → Nat} (a : Nat) (G : XG) (G79 : XG) (G_50 : XG) (G66 : XG) (p0 : Int32) (p1 : Int32) (p2 : Int32) (l5_50 : Int32) (x79 : Int32) (x6 : Int32) (x13 : Int32) (N50 : Nat)
    (ha : K a = 12)
    (hk9999 : K (F a 11) = 3)
    (hj9999 : F (F a 11) 99 = 0)
    (hk9999a : K (F a 9) = 6)
    (hj9999a : F (F a 9) 99 = 1)
    (hk9999b : K (F (F a 11) 0) = 21)
    (hj9999b : F (F (F a 11) 0) 99 = 100)
    (hk9999c : K (F (F a 11) 1) = 21)
    (hj9999c : F (F (F a 11) 1) 99 = 101)
    (hk9999d : K (F (F a 11) 2) = 24)
    (hj9999d : F (F (F a 11) 2) 99 = 4)
    (hk9999e : K (F (F a 9) 0) = 22)
    (hj9999f : F (F (F a 9) 0) 99 = 10 * 1 + 0)
    (hk9999f : K (F (F a 9) 1) = 22)
    (hj9999h : F (F (F a 9) 1) 99 = 10 * 1 + 1)
    (hk9999g : K (F (F a 9) 2) = 22)
    (hj9999j : F (F (F a 9) 2) 99 = 10 * 1 + 2)
    (hk9999h : K (F (F a 9) 3) = 22)
    (hj9999l : F (F (F a 9) 3) 99 = 10 * 1 + 3)
    (hk9999i : K (F (F a 9) 4) = 23)
    (hj9999n : F (F (F a 9) 4) 99 = 10 * 1 + 4)
    (hk9999j : K (F (F a 9) 5) = 23)
    (hj9999p : F (F (F a 9) 5) 99 = 10 * 1 + 5)
    (hk9999k : K (F a 5) = 8)
    (hj9999q : F (F a 5) 99 = 2)
    (hk9999l : K (F (F a 5) 0) = 20)
    (hj9999s : F (F (F a 5) 0) 99 = 2)
    (hk9999m : K (F (F a 5) 1) = 21)
    (hj9999u : F (F (F a 5) 1) 99 = 2)
    (hk9999n : K (F a 2) = 2)
    (hj9999v : F (F a 2) 99 = 0)
    (hk9999o : K (F (F a 2) 1) = 15)
    (hj9999w : F (F (F a 2) 1) 99 = 1)
    (hk9999p : K (F a 3) = 8)
    (hj9999y : F (F a 3) 99 = 0)
    (hk9999q : K (F (F a 3) 0) = 20)
    (hj9999z26 : F (F (F a 3) 0) 99 = 0)
    (hk9999r : K (F (F a 3) 1) = 21)
    (hj9999z28 : F (F (F a 3) 1) 99 = 0)
    (hfr : XFr [(F a 11, 3), (F a 9, 6)] [F (F a 11) 0, F (F a 11) 1, F (F a 11) 2, F (F a 9) 0, F (F a 9) 1, F (F a 9) 2, F (F a 9) 3, F (F a 9) 4, F (F a 9) 5, F (F a 5) 0, F (F a 5) 1] [] G G79)
    (hF79 : XFr [(F a 11, 3), (F a 9, 6)] [F (F a 11) 0, F (F a 11) 1, F (F a 11) 2, F (F a 9) 0, F (F a 9) 1, F (F a 9) 2, F (F a 9) 3, F (F a 9) 4, F (F a 9) 5] [] G66 G79)
    (bko : BKr K G (G.2.2.1 (F (F a 2) 1)))
    (pp : ∀ v : Int, rset (vw (G_50.2.1 (F (F a 5) 0))) (90 * p0.toInt + 30 * p2.toInt + p1.toInt) v = rset (vw (G.2.1 (F (F a 3) 0))) (90 * p0.toInt + 30 * p2.toInt + p1.toInt) v)
    (ph : cel (vw (G_50.2.1 (F (F a 5) 0))) p0.toInt p1.toInt 0 ≠ -2000)
    (lp : ∀ v : Int, -99 ≤ v → v < l5_50.toInt → v ≠ cel (vw (G.2.1 (F (F a 3) 0))) p0.toInt p1.toInt p2.toInt → ffL (gaL G (G.2.2.1 (F (F a 2) 1)) (vw (G.2.1 (F (F a 3) 0))) (rset (vw (G.2.1 (F (F a 3) 0))) (90 * p0.toInt + 30 * p2.toInt + p1.toInt) v) 0 ((G.1 (F a 2) 2).toInt).toNat) ≠ -1)
    (oq66 : (vw (G66.2.1 (F (F a 5) 0))) = if cel (vw (G_50.2.1 (F (F a 5) 0))) (p0.toInt) (p1.toInt) 0 ≠ -2000 then rset (vw (G_50.2.1 (F (F a 5) 0))) (90 * (p0.toInt) + 30 * (p2.toInt) + (p1.toInt)) (l5_50.toInt) else (vw (G_50.2.1 (F (F a 5) 0))))
    (oq79 : (x79.toInt = 1 ∧ ffL (gaL G66 (G66.2.2.1 (F (F a 2) 1)) (vw (G.2.1 (F (F a 3) 0))) (vw (G66.2.1 (F (F a 5) 0))) 0 (((G.1 (F a 2) 2).toInt)).toNat) = -1) ∨ (x79.toInt = 0 ∧ ffL (gaL G66 (G66.2.2.1 (F (F a 2) 1)) (vw (G.2.1 (F (F a 3) 0))) (vw (G66.2.1 (F (F a 5) 0))) 0 (((G.1 (F a 2) 2).toInt)).toNat) ≠ -1))
    (sb : 0 ≤ ((G.1 (F a 2) 2).toInt) ∧ ((G.1 (F a 2) 2).toInt) ≤ 12)
    (z5 : ¬ (0 ≤ p0.toInt ∧ p0.toInt < 3 ∧ 0 ≤ p1.toInt ∧ p1.toInt < 30) → (cel (vw (G.2.1 (F (F a 3) 0))) (p0.toInt) (p1.toInt) 0) = -2000)
    (t6 : (x6.toInt = 1 ∧ (cel (vw (G.2.1 (F (F a 3) 0))) (p0.toInt) (p1.toInt) 0) ≠ -2000) ∨ (x6.toInt = 0 ∧ (cel (vw (G.2.1 (F (F a 3) 0))) (p0.toInt) (p1.toInt) 0) = -2000))
    (c9 : ¬ (x6.toInt = 0))
    (t13 : (x13.toInt = 1 ∧ 0 ≤ p2.toInt ∧ p2.toInt < 3) ∨ (x13.toInt = 0 ∧ (p2.toInt < 0 ∨ 3 ≤ p2.toInt)))
    (c16 : x13.toInt ≠ 0)
    (I50_0 : -99 ≤ l5_50.toInt ∧ l5_50.toInt ≤ 100)
    (hm50 : 200 - l5_50.toInt < (((N50) + 1 : Nat) : Int))
    (c54 : ¬ ((99 : Int) < l5_50.toInt))
    (c73 : ¬ (l5_50.toInt = (cel (vw (G.2.1 (F (F a 3) 0))) (p0.toInt) (p1.toInt) (p2.toInt))))
    (c82 : x79.toInt = 0)
    (r_G66_F_F_a_2_1 : G66.2.2.1 (F (F a 2) 1) = G.2.2.1 (F (F a 2) 1)) :
    ∀ v : Int, -99 ≤ v → v < (l5_50.toInt + 1) → v ≠ cel (vw (G.2.1 (F (F a 3) 0))) p0.toInt p1.toInt p2.toInt → ffL (gaL G (G.2.2.1 (F (F a 2) 1)) (vw (G.2.1 (F (F a 3) 0))) (rset (vw (G.2.1 (F (F a 3) 0))) (90 * p0.toInt + 30 * p2.toInt + p1.toInt) v) 0 ((G.1 (F a 2) 2).toInt).toNat) ≠ -1 := by
  first
    | (intro v a1 a2 a3
       exact lp v a1 (by omega) a3)
    | (have hd : ∀ p, p ∈ [(F a 11, 3), (F a 9, 6)] → K p.1 ≠ 9 := (List.forall_mem_cons.mpr ⟨(show K (F a 11) ≠ 9 by omega), List.forall_mem_cons.mpr ⟨(show K (F a 9) ≠ 9 by omega), fun _ h => by cases h⟩⟩)
       have hq : ∀ q : Nat, K q = 9 → G66.1 q = G.1 q := fun q hk => (hF79.rule hd hk).symm.trans (hfr.rule hd hk)
       have hc : ∀ (i q : Nat), i < ((G.1 (F a 2) 2).toInt).toNat → G.2.2.1 (F (F a 2) 1) i = some q → G66.1 q = G.1 q := fun i q hi hq9 => hq q (bko i q (by omega) hq9).1
       rw [oq66, if_pos ph, pp, r_G66_F_F_a_2_1, gaL_cg hc] at oq79
       intro v a1 a2 a3
       by_cases e : v = l5_50.toInt
       · rw [e]; exact (oq79.resolve_left (fun h => absurd h.1 (by omega))).2
       · exact lp v a1 (by omega) a3)
theorem v_X10_least_87_18 {K : Nat → Nat} {F : Nat → Nat → Nat} (a : Nat) (G : XG) (G79 : XG) (G_50 : XG) (G66 : XG) (p0 : Int32) (p1 : Int32) (p2 : Int32) (l5_50 : Int32) (x79 : Int32) (x6 : Int32) (x13 : Int32) (N50 : Nat)
    (ha : K a = 12)
    (hk9999 : K (F a 11) = 3)
    (hj9999 : F (F a 11) 99 = 0)
    (hk9999a : K (F a 9) = 6)
    (hj9999a : F (F a 9) 99 = 1)
    (hk9999b : K (F (F a 11) 0) = 21)
    (hj9999b : F (F (F a 11) 0) 99 = 100)
    (hk9999c : K (F (F a 11) 1) = 21)
    (hj9999c : F (F (F a 11) 1) 99 = 101)
    (hk9999d : K (F (F a 11) 2) = 24)
    (hj9999d : F (F (F a 11) 2) 99 = 4)
    (hk9999e : K (F (F a 9) 0) = 22)
    (hj9999f : F (F (F a 9) 0) 99 = 10 * 1 + 0)
    (hk9999f : K (F (F a 9) 1) = 22)
    (hj9999h : F (F (F a 9) 1) 99 = 10 * 1 + 1)
    (hk9999g : K (F (F a 9) 2) = 22)
    (hj9999j : F (F (F a 9) 2) 99 = 10 * 1 + 2)
    (hk9999h : K (F (F a 9) 3) = 22)
    (hj9999l : F (F (F a 9) 3) 99 = 10 * 1 + 3)
    (hk9999i : K (F (F a 9) 4) = 23)
    (hj9999n : F (F (F a 9) 4) 99 = 10 * 1 + 4)
    (hk9999j : K (F (F a 9) 5) = 23)
    (hj9999p : F (F (F a 9) 5) 99 = 10 * 1 + 5)
    (hk9999k : K (F a 5) = 8)
    (hj9999q : F (F a 5) 99 = 2)
    (hk9999l : K (F (F a 5) 0) = 20)
    (hj9999s : F (F (F a 5) 0) 99 = 2)
    (hk9999m : K (F (F a 5) 1) = 21)
    (hj9999u : F (F (F a 5) 1) 99 = 2)
    (hk9999n : K (F a 2) = 2)
    (hj9999v : F (F a 2) 99 = 0)
    (hk9999o : K (F (F a 2) 1) = 15)
    (hj9999w : F (F (F a 2) 1) 99 = 1)
    (hk9999p : K (F a 3) = 8)
    (hj9999y : F (F a 3) 99 = 0)
    (hk9999q : K (F (F a 3) 0) = 20)
    (hj9999z26 : F (F (F a 3) 0) 99 = 0)
    (hk9999r : K (F (F a 3) 1) = 21)
    (hj9999z28 : F (F (F a 3) 1) 99 = 0)
    (hfr : XFr [(F a 11, 3), (F a 9, 6)] [F (F a 11) 0, F (F a 11) 1, F (F a 11) 2, F (F a 9) 0, F (F a 9) 1, F (F a 9) 2, F (F a 9) 3, F (F a 9) 4, F (F a 9) 5, F (F a 5) 0, F (F a 5) 1] [] G G79)
    (hF79 : XFr [(F a 11, 3), (F a 9, 6)] [F (F a 11) 0, F (F a 11) 1, F (F a 11) 2, F (F a 9) 0, F (F a 9) 1, F (F a 9) 2, F (F a 9) 3, F (F a 9) 4, F (F a 9) 5] [] G66 G79)
    (bko : BKr K G (G.2.2.1 (F (F a 2) 1)))
    (pp : ∀ v : Int, rset (vw (G_50.2.1 (F (F a 5) 0))) (90 * p0.toInt + 30 * p2.toInt + p1.toInt) v = rset (vw (G.2.1 (F (F a 3) 0))) (90 * p0.toInt + 30 * p2.toInt + p1.toInt) v)
    (ph : cel (vw (G_50.2.1 (F (F a 5) 0))) p0.toInt p1.toInt 0 ≠ -2000)
    (lp : ∀ v : Int, -99 ≤ v → v < l5_50.toInt → v ≠ cel (vw (G.2.1 (F (F a 3) 0))) p0.toInt p1.toInt p2.toInt → ffL (gaL G (G.2.2.1 (F (F a 2) 1)) (vw (G.2.1 (F (F a 3) 0))) (rset (vw (G.2.1 (F (F a 3) 0))) (90 * p0.toInt + 30 * p2.toInt + p1.toInt) v) 0 ((G.1 (F a 2) 2).toInt).toNat) ≠ -1)
    (oq66 : (vw (G66.2.1 (F (F a 5) 0))) = if cel (vw (G_50.2.1 (F (F a 5) 0))) (p0.toInt) (p1.toInt) 0 ≠ -2000 then rset (vw (G_50.2.1 (F (F a 5) 0))) (90 * (p0.toInt) + 30 * (p2.toInt) + (p1.toInt)) (l5_50.toInt) else (vw (G_50.2.1 (F (F a 5) 0))))
    (oq79 : (x79.toInt = 1 ∧ ffL (gaL G66 (G66.2.2.1 (F (F a 2) 1)) (vw (G.2.1 (F (F a 3) 0))) (vw (G66.2.1 (F (F a 5) 0))) 0 (((G.1 (F a 2) 2).toInt)).toNat) = -1) ∨ (x79.toInt = 0 ∧ ffL (gaL G66 (G66.2.2.1 (F (F a 2) 1)) (vw (G.2.1 (F (F a 3) 0))) (vw (G66.2.1 (F (F a 5) 0))) 0 (((G.1 (F a 2) 2).toInt)).toNat) ≠ -1))
    (sb : 0 ≤ ((G.1 (F a 2) 2).toInt) ∧ ((G.1 (F a 2) 2).toInt) ≤ 12)
    (z5 : ¬ (0 ≤ p0.toInt ∧ p0.toInt < 3 ∧ 0 ≤ p1.toInt ∧ p1.toInt < 30) → (cel (vw (G.2.1 (F (F a 3) 0))) (p0.toInt) (p1.toInt) 0) = -2000)
    (t6 : (x6.toInt = 1 ∧ (cel (vw (G.2.1 (F (F a 3) 0))) (p0.toInt) (p1.toInt) 0) ≠ -2000) ∨ (x6.toInt = 0 ∧ (cel (vw (G.2.1 (F (F a 3) 0))) (p0.toInt) (p1.toInt) 0) = -2000))
    (c9 : ¬ (x6.toInt = 0))
    (t13 : (x13.toInt = 1 ∧ 0 ≤ p2.toInt ∧ p2.toInt < 3) ∨ (x13.toInt = 0 ∧ (p2.toInt < 0 ∨ 3 ≤ p2.toInt)))
    (c16 : x13.toInt ≠ 0)
    (I50_0 : -99 ≤ l5_50.toInt ∧ l5_50.toInt ≤ 100)
    (hm50 : 200 - l5_50.toInt < (((N50) + 1 : Nat) : Int))
    (c54 : ¬ ((99 : Int) < l5_50.toInt))
    (c73 : ¬ (l5_50.toInt = (cel (vw (G.2.1 (F (F a 3) 0))) (p0.toInt) (p1.toInt) (p2.toInt))))
    (c82 : ¬ (x79.toInt = 0))
    (r_G66_F_F_a_2_1 : G66.2.2.1 (F (F a 2) 1) = G.2.2.1 (F (F a 2) 1)) :
    (¬ (cel (vw (G.2.1 (F (F a 3) 0))) p0.toInt p1.toInt 0 ≠ -2000 ∧ 0 ≤ p2.toInt ∧ p2.toInt < 3) ∧ l5_50.toInt = -2147483648) ∨ ((cel (vw (G.2.1 (F (F a 3) 0))) p0.toInt p1.toInt 0 ≠ -2000 ∧ 0 ≤ p2.toInt ∧ p2.toInt < 3) ∧ LsS (fun v => ffL (gaL G (G.2.2.1 (F (F a 2) 1)) (vw (G.2.1 (F (F a 3) 0))) (rset (vw (G.2.1 (F (F a 3) 0))) (90 * p0.toInt + 30 * p2.toInt + p1.toInt) v) 0 (((G.1 (F a 2) 2).toInt)).toNat) = -1) (cel (vw (G.2.1 (F (F a 3) 0))) p0.toInt p1.toInt p2.toInt) l5_50.toInt) := by
  have hd : ∀ p, p ∈ [(F a 11, 3), (F a 9, 6)] → K p.1 ≠ 9 := (List.forall_mem_cons.mpr ⟨(show K (F a 11) ≠ 9 by omega), List.forall_mem_cons.mpr ⟨(show K (F a 9) ≠ 9 by omega), fun _ h => by cases h⟩⟩)
  have hq : ∀ q : Nat, K q = 9 → G66.1 q = G.1 q := fun q hk => (hF79.rule hd hk).symm.trans (hfr.rule hd hk)
  have hc : ∀ (i q : Nat), i < ((G.1 (F a 2) 2).toInt).toNat → G.2.2.1 (F (F a 2) 1) i = some q → G66.1 q = G.1 q := fun i q hi hq9 => hq q (bko i q (by omega) hq9).1
  rw [oq66, if_pos ph, pp, r_G66_F_F_a_2_1, gaL_cg hc] at oq79
  exact Or.inr ⟨by omega, LsS_yes (by omega) (oq79.resolve_right (fun h => absurd h.1 (by omega))).2 lp⟩
theorem v_X10_least_48_19 {F : Nat → Nat → Nat} (G43 : XG) (a : Nat) (G : XG) (p0 : Int32) (p2 : Int32) (p1 : Int32)
    (oq43 : (vw (G43.2.1 (F (F a 5) 0))) = (vw (G.2.1 (F (F a 3) 0)))) :
    ∀ v : Int, rset (vw (G43.2.1 (F (F a 5) 0))) (90 * p0.toInt + 30 * p2.toInt + p1.toInt) v = rset (vw (G.2.1 (F (F a 3) 0))) (90 * p0.toInt + 30 * p2.toInt + p1.toInt) v := by
  intro v; rw [oq43]
theorem v_X10_least_48_20 {F : Nat → Nat → Nat} (G43 : XG) (a : Nat)
    (oq43a : RO (vw (G43.2.1 (F (F a 5) 0))) (aI (G43.2.1 (F (F a 5) 1)))) :
    RO (vw (G43.2.1 (F (F a 5) 0))) (aI (G43.2.1 (F (F a 5) 1))) := by
  exact oq43a
theorem v_X10_least_48_21 {F : Nat → Nat → Nat} (G43 : XG) (a : Nat) (G : XG) (x6 : Int32) (p0 : Int32) (p1 : Int32)
    (oq43 : (vw (G43.2.1 (F (F a 5) 0))) = (vw (G.2.1 (F (F a 3) 0))))
    (t6 : (x6.toInt = 1 ∧ (cel (vw (G.2.1 (F (F a 3) 0))) (p0.toInt) (p1.toInt) 0) ≠ -2000) ∨ (x6.toInt = 0 ∧ (cel (vw (G.2.1 (F (F a 3) 0))) (p0.toInt) (p1.toInt) 0) = -2000))
    (c9 : ¬ (x6.toInt = 0)) :
    cel (vw (G43.2.1 (F (F a 5) 0))) p0.toInt p1.toInt 0 ≠ -2000 := by
  rw [oq43]; omega
theorem v_X10_least_48_22 {K : Nat → Nat} {F : Nat → Nat → Nat} (a : Nat) (G : XG) (p0 : Int32) (p1 : Int32) (p2 : Int32) (x6 : Int32) (x13 : Int32)
    (ha : K a = 12)
    (sb : 0 ≤ ((G.1 (F a 2) 2).toInt) ∧ ((G.1 (F a 2) 2).toInt) ≤ 12)
    (z5 : ¬ (0 ≤ p0.toInt ∧ p0.toInt < 3 ∧ 0 ≤ p1.toInt ∧ p1.toInt < 30) → (cel (vw (G.2.1 (F (F a 3) 0))) (p0.toInt) (p1.toInt) 0) = -2000)
    (t6 : (x6.toInt = 1 ∧ (cel (vw (G.2.1 (F (F a 3) 0))) (p0.toInt) (p1.toInt) 0) ≠ -2000) ∨ (x6.toInt = 0 ∧ (cel (vw (G.2.1 (F (F a 3) 0))) (p0.toInt) (p1.toInt) 0) = -2000))
    (c9 : ¬ (x6.toInt = 0))
    (t13 : (x13.toInt = 1 ∧ 0 ≤ p2.toInt ∧ p2.toInt < 3) ∨ (x13.toInt = 0 ∧ (p2.toInt < 0 ∨ 3 ≤ p2.toInt)))
    (c16 : x13.toInt ≠ 0) :
    ∀ v : Int, -99 ≤ v → v < (-99 : Int) → v ≠ cel (vw (G.2.1 (F (F a 3) 0))) p0.toInt p1.toInt p2.toInt → ffL (gaL G (G.2.2.1 (F (F a 2) 1)) (vw (G.2.1 (F (F a 3) 0))) (rset (vw (G.2.1 (F (F a 3) 0))) (90 * p0.toInt + 30 * p2.toInt + p1.toInt) v) 0 ((G.1 (F a 2) 2).toInt).toNat) ≠ -1 := by
  intro v a1 a2
  exact absurd a2 (by omega)
theorem v_X10_least_22_23 {K : Nat → Nat} {F : Nat → Nat → Nat} (a : Nat) (G : XG) (p0 : Int32) (p1 : Int32) (x6 : Int32) (x13 : Int32) (p2 : Int32)
    (ha : K a = 12)
    (sb : 0 ≤ ((G.1 (F a 2) 2).toInt) ∧ ((G.1 (F a 2) 2).toInt) ≤ 12)
    (z5 : ¬ (0 ≤ p0.toInt ∧ p0.toInt < 3 ∧ 0 ≤ p1.toInt ∧ p1.toInt < 30) → (cel (vw (G.2.1 (F (F a 3) 0))) (p0.toInt) (p1.toInt) 0) = -2000)
    (t6 : (x6.toInt = 1 ∧ (cel (vw (G.2.1 (F (F a 3) 0))) (p0.toInt) (p1.toInt) 0) ≠ -2000) ∨ (x6.toInt = 0 ∧ (cel (vw (G.2.1 (F (F a 3) 0))) (p0.toInt) (p1.toInt) 0) = -2000))
    (c9 : ¬ (x6.toInt = 0))
    (t13 : (x13.toInt = 1 ∧ 0 ≤ p2.toInt ∧ p2.toInt < 3) ∨ (x13.toInt = 0 ∧ (p2.toInt < 0 ∨ 3 ≤ p2.toInt)))
    (c16 : ¬ (x13.toInt ≠ 0)) :
    (¬ (cel (vw (G.2.1 (F (F a 3) 0))) p0.toInt p1.toInt 0 ≠ -2000 ∧ 0 ≤ p2.toInt ∧ p2.toInt < 3) ∧ (-2147483648 : Int) = -2147483648) ∨ ((cel (vw (G.2.1 (F (F a 3) 0))) p0.toInt p1.toInt 0 ≠ -2000 ∧ 0 ≤ p2.toInt ∧ p2.toInt < 3) ∧ LsS (fun v => ffL (gaL G (G.2.2.1 (F (F a 2) 1)) (vw (G.2.1 (F (F a 3) 0))) (rset (vw (G.2.1 (F (F a 3) 0))) (90 * p0.toInt + 30 * p2.toInt + p1.toInt) v) 0 (((G.1 (F a 2) 2).toInt)).toNat) = -1) (cel (vw (G.2.1 (F (F a 3) 0))) p0.toInt p1.toInt p2.toInt) (-2147483648 : Int)) := by
  exact Or.inl ⟨by omega, rfl⟩
theorem z_X1_ofOneRow_1 (a0 : Int) (h0 : 0 ≤ a0 ∧ a0 ≤ 3) : ¬ (2147483648 - a0 < ((0 : Nat) : Int)) := by omega
theorem z_X1_ofOneRow_2 (a0 : Int) (a1 : Int) (h0 : 0 ≤ a0 ∧ a0 < 3 ∧ 0 ≤ a1 ∧ a1 < 30) : 0 ≤ a0 ∧ a0 < ((3 : Nat) : Int) := by omega
theorem z_X1_ofOneRow_3 (a0 : Int) (h0 : 0 ≤ a0 ∧ a0 ≤ 3) (h1 : ¬ ((3 : Int) ≤ a0)) : 0 ≤ a0 ∧ a0 < ((3 : Nat) : Int) := by omega
theorem z_X1_ofOneRow_5 (a0 : Int) (a1 : Int) (h0 : 0 ≤ a0 ∧ a0 ≤ 3) (h1 : a1 = (a0 + 1) ∨ (a0 + 1) < -2147483648 ∨ 2147483648 ≤ (a0 + 1)) : a1 = (a0 + 1) := by omega
theorem z_X1_ofOneRow_6 (a0 : Int) (h0 : 0 ≤ a0 ∧ a0 ≤ 3) (h1 : ¬ ((3 : Int) ≤ a0)) : 0 ≤ (a0 + 1) ∧ (a0 + 1) ≤ 3 := by omega
theorem z_X1_ofOneRow_7 (a0 : Int) (h0 : 0 ≤ a0 ∧ a0 ≤ 3) : (0 : Int) ≤ (a0 + 1) := by omega
theorem z_X1_ofOneRow_8 (a0 : Int) (a1 : Nat) (h0 : 2147483648 - a0 < ((a1 + 1 : Nat) : Int)) : 2147483648 - (a0 + 1) < ((a1 : Nat) : Int) := by omega
abbrev rm_X1_ofOneRow : Room := { frames := 1, cells := 0, slots := 0, locals := 20 }
set_option maxHeartbeats 4000000 in
set_option maxRecDepth 100000 in
theorem c_X1_ofOneRow (l : Launch) (E : XE) (K : Nat → Nat) (F : Nat → Nat → Nat) (G : XG) (a : Nat) (p0 : Int32) (p1 : Int32) (ha : K a = 3) (e0 : 0 ≤ p0.toInt ∧ p0.toInt < 3 ∧ 0 ≤ p1.toInt ∧ p1.toInt < 30) : Met l yX1_ofOneRow (xw yX1_ofOneRow cX1_ofOneRow 4 none) rm_X1_ofOneRow (va_Pc [.ref a, .int p0, .int p1] (XP E K F G)) (XQv E (fun (u : XG) => XFr [] [F a 0, F a 1] [] G u ∧ (ONb (aI (u.2.1 (F a 1))) (aI (u.2.1 (F a 0))) p0.toInt p1.toInt)) (fun u H => TW E K F u H)) 0 0 (xA E) := by
  refine x_enter (by decide) (Nat.le_of_ble_eq_true rfl) ?_
  intro p e s m args below meth c Q S hr hlk hnm hQ hP ls hl
  obtain ⟨hz, hK, hT⟩ := hP
  obtain ⟨hx, hb, -, -, -⟩ := id S
  obtain ⟨H, hT, hS, hgo⟩ : ∃ H : Heap, TW E K F G H ∧ va_S (xA E) s.heap H [] ∧ H = s.heap := ⟨_, hT, va_S.rf, rfl⟩
  rw [← hgo]
  have hl : lv_has ls 4 [(0, .ref a), (1, .int p0), (2, .int p1)] := hl
  obtain ⟨hk9999, hj9999⟩ := fkX1_0 hT ha
  obtain ⟨hk9999a, hj9999a⟩ := fkX1_1 hT ha
  refine lv_iconst (v := 0) hx hb dX1_ofOneRow_0 (by decide) ?_
  refine lv_istore_n (lv' := [(3, .int 0), (0, .ref a), (1, .int p0), (2, .int p1)]) hx hb dX1_ofOneRow_1 rfl hl (by decide) rfl (fun ls hl => ?_)
  have L2 : ∀ (N2 : Nat) (l3_2 : Int32) (G_2 : XG) (H : Heap) (locs : List Loc) (ls : Array Slot), XFr [] [F a 0, F a 1] [] G G_2 → (∀ t : Int, 0 ≤ t → t < l3_2.toInt → aI (G_2.2.1 (F a 1)) t = 0 ∧ aI (G_2.2.1 (F a 0)) t = 0) → 0 ≤ l3_2.toInt ∧ l3_2.toInt ≤ 3 → (0 : Int) ≤ l3_2.toInt → 2147483648 - l3_2.toInt < ((N2 : Nat) : Int) → TW E K F G_2 H → va_S (xA E) s.heap H locs → lv_has ls 4 [(0, .ref a), (1, .int p0), (2, .int p1), (3, .int l3_2)] → W p l e rm_X1_ofOneRow s m args below meth c H locs 0 0 Q (F0 m 2 ls []) := by
    intro N2
    induction N2 with
    | zero =>
      intro l3_2 G_2 H locs ls hF_2 pz I2_0 I2_1 hm2
      exact absurd hm2 (z_X1_ofOneRow_1 l3_2.toInt I2_0)
    | succ N2 ih2 =>
      intro l3_2 G_2 H locs ls hF_2 pz I2_0 I2_1 hm2 hT hS hl
      refine lv_iload_n hx hb dX1_ofOneRow_2 rfl (lv_at hl 3 rfl) ?_
      refine lv_iconst (v := 3) hx hb dX1_ofOneRow_3 (by decide) ?_
      refine xi_cge (tgt := 27) hx hb (rfl : Int32.toInt l3_2 = l3_2.toInt) ((by decide) : Int32.toInt 3 = (3 : Int)) dX1_ofOneRow_4 (by decide) (fun c4 => ?_) (fun c4 => ?_)
      · refine lv_iload_n hx hb dX1_ofOneRow_27 rfl (lv_at hl 1 rfl) ?_
        refine x_clp (x_runSN (As := [.int p0]) (rest := []) S (c_X10_isTable l E K F G_2 H p0) ms_X10_isTable (by decide +kernel) rfl rfl ⟨Nat.le_of_ble_eq_true rfl, Nat.le_of_ble_eq_true rfl⟩ hK (fun _ => XPh.blind) (fun U hU hW => XPh.at hK hz hS hT hU hW) rfl hl.1 (Nat.le_of_ble_eq_true rfl) dX1_ofOneRow_28 ⟨Nat.le_of_ble_eq_true rfl, Nat.le_of_ble_eq_true rfl⟩) hS ?_
        rintro _ _ locs ⟨x28, rfl, b28, t28⟩ hS
        have t28 : (x28.toInt = 1 ∧ 0 ≤ p0.toInt ∧ p0.toInt < 3) ∨ (x28.toInt = 0 ∧ (p0.toInt < 0 ∨ 3 ≤ p0.toInt)) := t28
        refine xi_zeq (tgt := 50) hx hb (rfl : Int32.toInt x28 = x28.toInt) dX1_ofOneRow_31 (by decide) (fun c31 => ?_) (fun c31 => ?_)
        · exact x_rv hx hb hr hlk hQ (Nat.le_of_ble_eq_true rfl) (Nat.le_of_ble_eq_true rfl) hS dX1_ofOneRow_50 G_2 ⟨(XFr.call XFr.rf hF_2 xm0 (xm1 0 rfl (xm1 1 rfl xm0)) xm0), (v_X1_ofOneRow_50_1 (K := K) (F := F) a G_2 l3_2 p0 p1 N2 x28 ha pz e0 I2_0 I2_1 hm2 c4 t28 c31)⟩ hT
        · refine lv_iload_n hx hb dX1_ofOneRow_34 rfl (lv_at hl 2 rfl) ?_
          refine x_clp (x_runSN (As := [.int p1]) (rest := []) S (c_X10_isKey l E K F G_2 H p1) ms_X10_isKey (by decide +kernel) rfl rfl ⟨Nat.le_of_ble_eq_true rfl, Nat.le_of_ble_eq_true rfl⟩ hK (fun _ => XPh.blind) (fun U hU hW => XPh.at hK hz hS hT hU hW) rfl hl.1 (Nat.le_of_ble_eq_true rfl) dX1_ofOneRow_35 ⟨Nat.le_of_ble_eq_true rfl, Nat.le_of_ble_eq_true rfl⟩) hS ?_
          rintro _ _ locs ⟨x35, rfl, b35, t35⟩ hS
          have t35 : (x35.toInt = 1 ∧ 0 ≤ p1.toInt ∧ p1.toInt < 30) ∨ (x35.toInt = 0 ∧ (p1.toInt < 0 ∨ 30 ≤ p1.toInt)) := t35
          refine xi_zeq (tgt := 50) hx hb (rfl : Int32.toInt x35 = x35.toInt) dX1_ofOneRow_38 (by decide) (fun c38 => ?_) (fun c38 => ?_)
          · exact x_rv hx hb hr hlk hQ (Nat.le_of_ble_eq_true rfl) (Nat.le_of_ble_eq_true rfl) hS dX1_ofOneRow_50 G_2 ⟨(XFr.call XFr.rf hF_2 xm0 (xm1 0 rfl (xm1 1 rfl xm0)) xm0), (v_X1_ofOneRow_50_2 (K := K) (F := F) a G_2 l3_2 p0 p1 N2 x28 x35 ha pz e0 I2_0 I2_1 hm2 c4 t28 c31 t35 c38)⟩ hT
          · refine lv_aload_n hx hb dX1_ofOneRow_41 rfl (lv_at hl 0 rfl) ?_
            refine gX1_0 S hK hT ha kf_X1_9 dX1_ofOneRow_42 (fun _ _ => ?_)
            refine lv_iload_n hx hb dX1_ofOneRow_45 rfl (lv_at hl 1 rfl) ?_
            refine lv_iconst (v := 1) hx hb dX1_ofOneRow_46 (by decide) ?_
            refine lv_iload_n hx hb dX1_ofOneRow_47 rfl (lv_at hl 2 rfl) ?_
            refine lv_ishl hx hb dX1_ofOneRow_48 (lv_topi (fun x48 he48 => ?_))
            refine as_0 (x := x48) S hK hT hS hk9999 ar_21 aw_21 (by decide) (z_X1_ofOneRow_2 p0.toInt p1.toInt e0) dX1_ofOneRow_49 (fun H locs hT hS => ?_)
            obtain ⟨G49, hG49⟩ : ∃ GG : XG, GG = cput G_2 (F a 0) p0.toNatClampNeg x48 := ⟨_, rfl⟩
            rw [← hG49] at hT
            exact x_rv hx hb hr hlk hQ (Nat.le_of_ble_eq_true rfl) (Nat.le_of_ble_eq_true rfl) hS dX1_ofOneRow_50 G49 ⟨(by rw [hG49]; exact XFr.cput (XFr.call XFr.rf hF_2 xm0 (xm1 0 rfl (xm1 1 rfl xm0)) xm0) (List.mem_of_getElem? (i := 0) rfl)), (v_X1_ofOneRow_50_3 (K := K) (F := F) a G_2 G49 p0 x48 l3_2 p1 N2 x28 x35 ha hG49 pz he48 e0 I2_0 I2_1 hm2 c4 t28 c31 t35 c38 (lc_c hG49 (xne_j hj9999a hj9999 (by first | decide | omega))))⟩ hT
      · refine lv_aload_n hx hb dX1_ofOneRow_7 rfl (lv_at hl 0 rfl) ?_
        refine gX1_1 S hK hT ha kf_X1_15 dX1_ofOneRow_8 (fun _ _ => ?_)
        refine lv_iload_n hx hb dX1_ofOneRow_11 rfl (lv_at hl 3 rfl) ?_
        refine lv_iconst (v := 0) hx hb dX1_ofOneRow_12 (by decide) ?_
        refine as_0 (x := 0) S hK hT hS hk9999a ar_21 aw_21 (by decide) (z_X1_ofOneRow_3 l3_2.toInt I2_0 c4) dX1_ofOneRow_13 (fun H locs hT hS => ?_)
        obtain ⟨G13, hG13⟩ : ∃ GG : XG, GG = cput G_2 (F a 1) l3_2.toNatClampNeg 0 := ⟨_, rfl⟩
        rw [← hG13] at hT
        refine lv_aload_n hx hb dX1_ofOneRow_14 rfl (lv_at hl 0 rfl) ?_
        refine gX1_0 S hK hT ha kf_X1_9 dX1_ofOneRow_15 (fun _ _ => ?_)
        refine lv_iload_n hx hb dX1_ofOneRow_18 rfl (lv_at hl 3 rfl) ?_
        refine lv_iconst (v := 0) hx hb dX1_ofOneRow_19 (by decide) ?_
        refine as_0 (x := 0) S hK hT hS hk9999 ar_21 aw_21 (by decide) (z_X1_ofOneRow_3 l3_2.toInt I2_0 c4) dX1_ofOneRow_20 (fun H locs hT hS => ?_)
        obtain ⟨G20, hG20⟩ : ∃ GG : XG, GG = cput G13 (F a 0) l3_2.toNatClampNeg 0 := ⟨_, rfl⟩
        rw [← hG20] at hT
        refine xi_iinc (n := 1) (lv' := fun z9 => [(3, .int z9), (0, .ref a), (1, .int p0), (2, .int p1)]) (k := 3) hx hb (rfl : Int32.toInt l3_2 = l3_2.toInt) (by decide) dX1_ofOneRow_21 hl rfl (by decide) (fun _ => rfl) (fun x21 ls t21 hl => ?_)
        have e21 : x21.toInt = (l3_2.toInt + 1) := (z_X1_ofOneRow_5 l3_2.toInt x21.toInt I2_0 t21)
        have hl : lv_has ls 4 [(3, .int x21), (0, .ref a), (1, .int p0), (2, .int p1)] := hl
        refine lv_goto (tgt := 2) hx hb dX1_ofOneRow_24 (by decide) ?_
        exact ih2 x21 G20 _ _ _ (by rw [hG20]; exact XFr.cput (by rw [hG13]; exact XFr.cput (XFr.call XFr.rf hF_2 xm0 (xm1 0 rfl (xm1 1 rfl xm0)) xm0) (List.mem_of_getElem? (i := 1) rfl)) (List.mem_of_getElem? (i := 0) rfl)) (by rw [(e21 : Int32.toInt x21 = (l3_2.toInt + 1))] <;> exact (v_X1_ofOneRow_24_4 (K := K) (F := F) a G_2 G13 l3_2 G20 p0 p1 N2 ha hG13 hG20 pz e0 I2_0 I2_1 hm2 c4 (lc_c hG13 (xne_j hj9999 hj9999a (by first | decide | omega))) (lc_c hG20 (xne_j hj9999a hj9999 (by first | decide | omega))))) (by rw [(e21 : Int32.toInt x21 = (l3_2.toInt + 1))] <;> exact (z_X1_ofOneRow_6 l3_2.toInt I2_0 c4)) (by rw [(e21 : Int32.toInt x21 = (l3_2.toInt + 1))] <;> exact (z_X1_ofOneRow_7 l3_2.toInt I2_0)) (by rw [(e21 : Int32.toInt x21 = (l3_2.toInt + 1))] <;> exact (z_X1_ofOneRow_8 l3_2.toInt N2 hm2)) hT hS (lv_sub hl [1, 2, 3, 0] rfl)
  exact L2 4294967297 0 G _ _ _ XFr.rf (v_X1_ofOneRow_1_5 (K := K) (F := F) a p0 p1 G ha e0) (by decide) (by decide) (by decide) hT hS (lv_sub hl [1, 2, 3, 0] rfl)

theorem z_X10_holdsOnPaper_2 (a0 : Int) (a1 : Int) (h0 : 0 ≤ a0 ∧ a0 ≤ a1) (h1 : 0 ≤ a1 ∧ a1 ≤ 12) : ¬ (100 - a0 < ((0 : Nat) : Int)) := by omega
theorem z_X10_holdsOnPaper_3 (a0 : Int) (a1 : Int) (a2 : Int) (h0 : 0 ≤ a1 ∧ a1 ≤ 12) (h1 : 0 ≤ a2 ∧ a2 ≤ 90 * a0) (h2 : ¬ (a1 ≤ a0)) : 0 ≤ a2 ∧ a2 ≤ 1080 := by omega
theorem z_X10_holdsOnPaper_4 (a0 : Int) (a1 : Int) (a2 : Int) (h0 : 0 ≤ a2 ∧ a2 ≤ 12) (h1 : 0 ≤ a0 ∧ a0 ≤ a2) (h2 : a1 = (a0 + 1) ∨ (a0 + 1) < -2147483648 ∨ 2147483648 ≤ (a0 + 1)) : a1 = (a0 + 1) := by omega
theorem z_X10_holdsOnPaper_5 (a0 : Int) (a1 : Int) (h0 : 0 ≤ a0 ∧ a0 ≤ a1) (h1 : ¬ (a1 ≤ a0)) : 0 ≤ (a0 + 1) ∧ (a0 + 1) ≤ a1 := by omega
theorem z_X10_holdsOnPaper_6 (a0 : Int) (a1 : Int) (h0 : 0 ≤ a1 ∧ a1 ≤ 90 * a0) : 0 ≤ a1 ∧ a1 ≤ 90 * (a0 + 1) := by omega
theorem z_X10_holdsOnPaper_7 (a0 : Int) (a1 : Nat) (h0 : 100 - a0 < ((a1 + 1 : Nat) : Int)) : 100 - (a0 + 1) < ((a1 : Nat) : Int) := by omega
theorem z_X10_holdsOnPaper_8 (a0 : Int) (a1 : Int) (a2 : Int) (h0 : 0 ≤ a2 ∧ a2 ≤ 90 * a0) (h1 : 0 ≤ a0 ∧ a0 < a1 ∧ a0 < 12) : 0 ≤ a2 ∧ a2 ≤ 990 := by omega
theorem z_X10_holdsOnPaper_9 (a0 : Int) (a1 : Int) (a2 : Int) (a3 : Int) (h0 : 0 ≤ a3 ∧ a3 ≤ 90 * a0) (h1 : 0 ≤ a0 ∧ a0 < a1 ∧ a0 < 12) (h2 : a3 ≤ a2 ∧ a2 ≤ a3 + 90) : 0 ≤ a2 ∧ a2 ≤ 1080 := by omega
theorem z_X10_holdsOnPaper_10 (a0 : Int) (a1 : Int) (a2 : Int) (h0 : 0 ≤ a0 ∧ a0 < a2 ∧ a0 < 12) (h1 : a1 = (a0 + 1) ∨ (a0 + 1) < -2147483648 ∨ 2147483648 ≤ (a0 + 1)) : a1 = (a0 + 1) := by omega
theorem z_X10_holdsOnPaper_12 (a0 : Int) (a1 : Int) (a2 : Int) (h0 : 0 ≤ a2 ∧ a2 ≤ 90 * a0) (h1 : a2 ≤ a1 ∧ a1 ≤ a2 + 90) : 0 ≤ a1 ∧ a1 ≤ 90 * (a0 + 1) := by omega
theorem z_X10_holdsOnPaper_14 (a0 : Int) (h0 : 0 ≤ a0 ∧ a0 ≤ 12) : 0 ≤ (0 : Int) ∧ (0 : Int) ≤ a0 := by omega
theorem z_X10_holdsOnPaper_15 (a0 : Int) (h0 : a0 = 0) : 0 ≤ a0 ∧ a0 ≤ 90 * (0 : Int) := by omega
abbrev rm_X10_holdsOnPaper : Room := { frames := 5, cells := 0, slots := 0, locals := 123 }
set_option maxHeartbeats 4000000 in
set_option maxRecDepth 100000 in
theorem c_X10_holdsOnPaper (l : Launch) (E : XE) (K : Nat → Nat) (F : Nat → Nat → Nat) (G : XG) (a : Nat) (p0 : Int32) (p1 : Int32) (ha : K a = 12) (sb : 0 ≤ ((G.1 (F a 2) 2).toInt) ∧ ((G.1 (F a 2) 2).toInt) ≤ 12) (e0 : 0 ≤ p0.toInt ∧ p0.toInt < 3 ∧ 0 ≤ p1.toInt ∧ p1.toInt < 30) (ron : RO (vw (G.2.1 (F (F a 3) 0))) (aI (G.2.1 (F (F a 3) 1)))) (rop : RO (vw (G.2.1 (F (F a 5) 0))) (aI (G.2.1 (F (F a 5) 1)))) (bko : BKr K G (G.2.2.1 (F (F a 2) 1))) (h1 : ∀ cg ch : Int → Int, ONb cg ch p0.toInt p1.toInt → CH (vw (G.2.1 (F (F a 3) 0))) (vw (G.2.1 (F (F a 5) 0))) cg ch) : Met l yX10_holdsOnPaper (xw yX10_holdsOnPaper cX10_holdsOnPaper 5 (some .boolean)) rm_X10_holdsOnPaper (va_Pc [.ref a, .int p0, .int p1] (XP E K F G)) (XQ E (fun v (u : XG) => ∃ r : Int32, v = .int r ∧ (r = 0 ∨ r = 1) ∧ XFr [(F a 11, 3), (F a 9, 6)] [F (F a 11) 0, F (F a 11) 1, F (F a 11) 2, F (F a 9) 0, F (F a 9) 1, F (F a 9) 2, F (F a 9) 3, F (F a 9) 4, F (F a 9) 5] [] G u ∧ ((r.toInt = 1 ∧ ffL (gaL G (G.2.2.1 (F (F a 2) 1)) (vw (G.2.1 (F (F a 3) 0))) (vw (G.2.1 (F (F a 5) 0))) 0 (((G.1 (F a 2) 2).toInt)).toNat) = -1) ∨ (r.toInt = 0 ∧ ffL (gaL G (G.2.2.1 (F (F a 2) 1)) (vw (G.2.1 (F (F a 3) 0))) (vw (G.2.1 (F (F a 5) 0))) 0 (((G.1 (F a 2) 2).toInt)).toNat) ≠ -1))) (fun u H => TW E K F u H)) 0 0 (xA E) := by
  refine x_enter (by decide) (Nat.le_of_ble_eq_true rfl) ?_
  intro p e s m args below meth c Q S hr hlk hnm hQ hP ls hl
  obtain ⟨hz, hK, hT⟩ := hP
  obtain ⟨hx, hb, -, -, -⟩ := id S
  obtain ⟨H, hT, hS, hgo⟩ : ∃ H : Heap, TW E K F G H ∧ va_S (xA E) s.heap H [] ∧ H = s.heap := ⟨_, hT, va_S.rf, rfl⟩
  rw [← hgo]
  have hl : lv_has ls 5 [(0, .ref a), (1, .int p0), (2, .int p1)] := hl
  obtain ⟨hk9999, hj9999⟩ := fkX10_11 hT ha
  obtain ⟨hk9999a, hj9999a⟩ := fkX10_9 hT ha
  obtain ⟨hk9999b, hj9999b⟩ := fkX1_0 hT hk9999
  obtain ⟨hk9999c, hj9999c⟩ := fkX1_1 hT hk9999
  obtain ⟨hk9999d, hj9999d⟩ := fkX1_2 hT hk9999
  obtain ⟨hk9999e, hj9999e⟩ := fkX4_0 hT hk9999a
  have hj9999f : F (F (F a 9) 0) 99 = 10 * 1 + 0 := by rw [hj9999e, hj9999a]
  obtain ⟨hk9999f, hj9999g⟩ := fkX4_1 hT hk9999a
  have hj9999h : F (F (F a 9) 1) 99 = 10 * 1 + 1 := by rw [hj9999g, hj9999a]
  obtain ⟨hk9999g, hj9999i⟩ := fkX4_2 hT hk9999a
  have hj9999j : F (F (F a 9) 2) 99 = 10 * 1 + 2 := by rw [hj9999i, hj9999a]
  obtain ⟨hk9999h, hj9999k⟩ := fkX4_3 hT hk9999a
  have hj9999l : F (F (F a 9) 3) 99 = 10 * 1 + 3 := by rw [hj9999k, hj9999a]
  obtain ⟨hk9999i, hj9999m⟩ := fkX4_4 hT hk9999a
  have hj9999n : F (F (F a 9) 4) 99 = 10 * 1 + 4 := by rw [hj9999m, hj9999a]
  obtain ⟨hk9999j, hj9999o⟩ := fkX4_5 hT hk9999a
  have hj9999p : F (F (F a 9) 5) 99 = 10 * 1 + 5 := by rw [hj9999o, hj9999a]
  obtain ⟨hk9999k, hj9999q⟩ := fkX10_2 hT ha
  obtain ⟨hk9999l, hj9999r⟩ := fkX0_1 hT hk9999k
  obtain ⟨hk9999m, hj9999s⟩ := fkX10_3 hT ha
  obtain ⟨hk9999n, hj9999t⟩ := fkX6_0 hT hk9999m
  have hj9999u : F (F (F a 3) 0) 99 = 0 := by rw [hj9999t, hj9999s]
  obtain ⟨hk9999o, hj9999v⟩ := fkX6_1 hT hk9999m
  have hj9999w : F (F (F a 3) 1) 99 = 0 := by rw [hj9999v, hj9999s]
  obtain ⟨hk9999p, hj9999y⟩ := fkX10_5 hT ha
  obtain ⟨hk9999q, hj9999z25⟩ := fkX6_0 hT hk9999p
  have hj9999z26 : F (F (F a 5) 0) 99 = 2 := by rw [hj9999z25, hj9999y]
  obtain ⟨hk9999r, hj9999z27⟩ := fkX6_1 hT hk9999p
  have hj9999z28 : F (F (F a 5) 1) 99 = 2 := by rw [hj9999z27, hj9999y]
  refine lv_aload_n hx hb dX10_holdsOnPaper_0 rfl (lv_at hl 0 rfl) ?_
  refine gX10_9 S hK hT ha kf_X10_61 dX10_holdsOnPaper_1 (fun _ _ => ?_)
  refine x_cv0 (x_runV (b := (F a 9)) (As := []) (rest := []) S (c_X4_clear l E K F G (F a 9) hk9999a) mv_X4_clear km_X10_386 rfl rfl ⟨Nat.le_of_ble_eq_true rfl, Nat.le_of_ble_eq_true rfl⟩ (rc_6 hK hT hk9999a) hK (fun _ => XP.blind) (fun U hU hW => XP.at hK hz hS hT hU hW) rfl hl.1 (Nat.le_of_ble_eq_true rfl) dX10_holdsOnPaper_4 ⟨Nat.le_of_ble_eq_true rfl, Nat.le_of_ble_eq_true rfl⟩) hS ?_
  rintro G4 H locs ⟨hF4, t4⟩ hT hS
  have t4 : ((G4.1 (F a 9) 6).toInt) = 0 := t4
  refine lv_aload_n hx hb dX10_holdsOnPaper_7 rfl (lv_at hl 0 rfl) ?_
  refine gX10_11 S hK hT ha kf_X10_70 dX10_holdsOnPaper_8 (fun _ _ => ?_)
  refine lv_iload_n hx hb dX10_holdsOnPaper_11 rfl (lv_at hl 1 rfl) ?_
  refine lv_iload_n hx hb dX10_holdsOnPaper_12 rfl (lv_at hl 2 rfl) ?_
  refine x_cv0 (x_runV (b := (F a 11)) (As := [.int p0, .int p1]) (rest := []) S (c_X1_ofOneRow l E K F G4 (F a 11) p0 p1 hk9999 (e0)) mv_X1_ofOneRow km_X10_410 rfl rfl ⟨Nat.le_of_ble_eq_true rfl, Nat.le_of_ble_eq_true rfl⟩ (rc_3 hK hT hk9999) hK (fun _ => XP.blind) (fun U hU hW => XP.at hK hz hS hT hU hW) rfl hl.1 (Nat.le_of_ble_eq_true rfl) dX10_holdsOnPaper_13 ⟨Nat.le_of_ble_eq_true rfl, Nat.le_of_ble_eq_true rfl⟩) hS ?_
  rintro G13 H locs ⟨hF13, oq13⟩ hT hS
  refine lv_iconst (v := 0) hx hb dX10_holdsOnPaper_16 (by decide) ?_
  refine lv_istore_n (lv' := [(3, .int 0), (0, .ref a), (1, .int p0), (2, .int p1)]) hx hb dX10_holdsOnPaper_17 rfl hl (by decide) rfl (fun ls hl => ?_)
  have L18 : ∀ (N18 : Nat) (l3_18 : Int32) (G_18 : XG) (H : Heap) (locs : List Loc) (ls : Array Slot), XFr [(F a 11, 3), (F a 9, 6)] [F (F a 11) 2, F (F a 9) 0, F (F a 9) 1, F (F a 9) 2, F (F a 9) 3, F (F a 9) 4, F (F a 9) 5] [] G13 G_18 → qL G_18 F (F a 9) = gaL G (G.2.2.1 (F (F a 2) 1)) (vw (G.2.1 (F (F a 3) 0))) (vw (G.2.1 (F (F a 5) 0))) 0 (l3_18.toInt).toNat → ffL (qL G_18 F (F a 9)) = -1 → 0 ≤ l3_18.toInt ∧ l3_18.toInt ≤ ((G.1 (F a 2) 2).toInt) → 0 ≤ ((G_18.1 (F a 9) 6).toInt) ∧ ((G_18.1 (F a 9) 6).toInt) ≤ 90 * l3_18.toInt → 100 - l3_18.toInt < ((N18 : Nat) : Int) → TW E K F G_18 H → va_S (xA E) s.heap H locs → lv_has ls 5 [(0, .ref a), (3, .int l3_18)] → W p l e rm_X10_holdsOnPaper s m args below meth c H locs 0 0 Q (F0 m 18 ls []) := by
    intro N18
    induction N18 with
    | zero =>
      intro l3_18 G_18 H locs ls hF_18 gp gn I18_0 I18_1 hm18
      exact absurd hm18 (z_X10_holdsOnPaper_2 l3_18.toInt ((G.1 (F a 2) 2).toInt) I18_0 sb)
    | succ N18 ih18 =>
      intro l3_18 G_18 H locs ls hF_18 gp gn I18_0 I18_1 hm18 hT hS hl
      refine lv_iload_n hx hb dX10_holdsOnPaper_18 rfl (lv_at hl 1 rfl) ?_
      refine lv_aload_n hx hb dX10_holdsOnPaper_19 rfl (lv_at hl 0 rfl) ?_
      refine gX10_2 S hK hT ha kf_X10_30 dX10_holdsOnPaper_20 (fun _ _ => ?_)
      refine x_clp (x_runV (b := (F a 2)) (As := []) (rest := [.int l3_18]) S (c_X0_size l E K F G_18 H (F a 2) hk9999k) mv_X0_size km_X10_167 rfl rfl ⟨Nat.le_of_ble_eq_true rfl, Nat.le_of_ble_eq_true rfl⟩ (rc_2 hK hT hk9999k) hK (fun _ => XPh.blind) (fun U hU hW => XPh.at hK hz hS hT hU hW) rfl hl.1 (Nat.le_of_ble_eq_true rfl) dX10_holdsOnPaper_23 ⟨Nat.le_of_ble_eq_true rfl, Nat.le_of_ble_eq_true rfl⟩) hS ?_
      rintro _ _ locs ⟨x23, rfl, t23⟩ hS
      have t23 : x23.toInt = ((G.1 (F a 2) 2).toInt) := by rw [(show (G_18.1 (F a 2) 2).toInt = ((G.1 (F a 2) 2).toInt) from (congrArg Int32.toInt ((hF_18.1 _ _ (xnj (by decide) (xnj (by decide) xn0))).trans ((hF13.1 _ _ xn0).trans (hF4.1 _ _ (xnj (by decide) xn0))))).trans (rfl : Int32.toInt (G.1 (F a 2) 2) = ((G.1 (F a 2) 2).toInt)))] at t23; exact t23
      refine xi_cge (tgt := 84) hx hb (rfl : Int32.toInt l3_18 = l3_18.toInt) (t23 : Int32.toInt x23 = ((G.1 (F a 2) 2).toInt)) dX10_holdsOnPaper_26 (by decide) (fun c26 => ?_) (fun c26 => ?_)
      · refine lv_iconst (v := 1) hx hb dX10_holdsOnPaper_84 (by decide) ?_
        exact x_rz hx hb hr (xnz (Or.inr rfl)) hlk hQ (Nat.le_of_ble_eq_true rfl) (Nat.le_of_ble_eq_true rfl) hS dX10_holdsOnPaper_85 G_18 ⟨_, rfl, (Or.inr rfl), (XFr.call (XFr.call (XFr.call XFr.rf hF4 (xm1 1 rfl xm0) xm0 xm0) hF13 xm0 (xm1 0 rfl (xm1 1 rfl xm0)) xm0) hF_18 (xm1 0 rfl (xm1 1 rfl xm0)) (xm1 2 rfl (xm1 3 rfl (xm1 4 rfl (xm1 5 rfl (xm1 6 rfl (xm1 7 rfl (xm1 8 rfl xm0))))))) xm0), (v_X10_holdsOnPaper_85_1 (K := K) (F := F) a G G4 G13 G_18 p0 p1 l3_18 N18 ha oq13 gp gn sb e0 t4 I18_0 I18_1 hm18 c26)⟩ hT
      · refine lv_aload_n hx hb dX10_holdsOnPaper_29 rfl (lv_at hl 0 rfl) ?_
        refine gX10_2 S hK hT ha kf_X10_30 dX10_holdsOnPaper_30 (fun _ _ => ?_)
        refine lv_iload_n hx hb dX10_holdsOnPaper_33 rfl (lv_at hl 1 rfl) ?_
        refine x_clp (x_runV (b := (F a 2)) (As := [.int l3_18]) (rest := []) S (c_X0_inOrder l E K F G_18 H (F a 2) l3_18 hk9999k) mv_X0_inOrder km_X10_391 rfl rfl ⟨Nat.le_of_ble_eq_true rfl, Nat.le_of_ble_eq_true rfl⟩ (rc_2 hK hT hk9999k) hK (fun _ => XPh.blind) (fun U hU hW => XPh.at hK hz hS hT hU hW) rfl hl.1 (Nat.le_of_ble_eq_true rfl) dX10_holdsOnPaper_34 ⟨Nat.le_of_ble_eq_true rfl, Nat.le_of_ble_eq_true rfl⟩) hS ?_
        rintro _ _ locs (⟨rfl, hn34⟩ | ⟨q34, rfl, hk34, ht34, hs34⟩) hS
        · refine lv_astoreN (lv' := [(4, .null), (0, .ref a), (3, .int l3_18)]) hx hb dX10_holdsOnPaper_37 hl (by decide) rfl (fun ls hl => ?_)
          refine lv_aloadN hx hb dX10_holdsOnPaper_39 (lv_at hl 0 rfl) ?_
          refine lv_ifnullN (tgt := 65) hx hb dX10_holdsOnPaper_41 (by decide) ?_
          refine lv_aload_n hx hb dX10_holdsOnPaper_65 rfl (lv_at hl 1 rfl) ?_
          refine gX10_9 S hK hT ha kf_X10_61 dX10_holdsOnPaper_66 (fun _ _ => ?_)
          refine x_clp (x_runV (b := (F a 9)) (As := []) (rest := []) S (c_X4_firstFailing l E K F G_18 H (F a 9) hk9999a (z_X10_holdsOnPaper_3 l3_18.toInt ((G.1 (F a 2) 2).toInt) ((G_18.1 (F a 9) 6).toInt) sb I18_1 c26)) mv_X4_firstFailing km_X10_244 rfl rfl ⟨Nat.le_of_ble_eq_true rfl, Nat.le_of_ble_eq_true rfl⟩ (rc_6 hK hT hk9999a) hK (fun _ => XPh.blind) (fun U hU hW => XPh.at hK hz hS hT hU hW) rfl hl.1 (Nat.le_of_ble_eq_true rfl) dX10_holdsOnPaper_69 ⟨Nat.le_of_ble_eq_true rfl, Nat.le_of_ble_eq_true rfl⟩) hS ?_
          rintro _ _ locs ⟨x69, rfl, t69, oq69⟩ hS
          have t69 : x69.toInt = -1 ∨ (0 ≤ x69.toInt ∧ x69.toInt < ((G_18.1 (F a 9) 6).toInt) ∧ (aI (G_18.2.1 (F (F a 9) 5)) (x69.toInt)) = 1) := t69
          refine lv_iconst (v := (-1)) hx hb dX10_holdsOnPaper_72 (by decide) ?_
          refine xi_ceq (tgt := 78) hx hb (rfl : Int32.toInt x69 = x69.toInt) ((by decide) : Int32.toInt (-1) = (-1 : Int)) dX10_holdsOnPaper_73 (by decide) (fun c73 => ?_) (fun c73 => ?_)
          · refine xi_iinc (n := 1) (lv' := fun z9 => [(3, .int z9), (4, .null), (0, .ref a)]) (k := 2) hx hb (rfl : Int32.toInt l3_18 = l3_18.toInt) (by decide) dX10_holdsOnPaper_78 hl rfl (by decide) (fun _ => rfl) (fun x78 ls t78 hl => ?_)
            have e78 : x78.toInt = (l3_18.toInt + 1) := (z_X10_holdsOnPaper_4 l3_18.toInt x78.toInt ((G.1 (F a 2) 2).toInt) sb I18_0 t78)
            have hl : lv_has ls 5 [(3, .int x78), (4, .null), (0, .ref a)] := hl
            refine lv_goto (tgt := 18) hx hb dX10_holdsOnPaper_81 (by decide) ?_
            exact ih18 x78 G_18 _ _ _ (XFr.call XFr.rf hF_18 (xm1 0 rfl (xm1 1 rfl xm0)) (xm1 0 rfl (xm1 1 rfl (xm1 2 rfl (xm1 3 rfl (xm1 4 rfl (xm1 5 rfl (xm1 6 rfl xm0))))))) xm0) (by rw [(e78 : Int32.toInt x78 = (l3_18.toInt + 1))] <;> exact (v_X10_holdsOnPaper_81_2 (K := K) (F := F) a G G4 G13 G_18 p0 p1 l3_18 x69 N18 ha oq13 gp gn hn34 sb e0 t4 I18_0 I18_1 hm18 c26 t69 c73 ((hF_18.2.2 _ xn0).trans ((hF13.2.2 _ xn0).trans (hF4.2.2 _ xn0))) ((hF_18.1 _ _ (xnj (by decide) (xnj (by decide) xn0))).trans ((hF13.1 _ _ xn0).trans (hF4.1 _ _ (xnj (by decide) xn0)))))) (v_X10_holdsOnPaper_81_3 (F := F) a G_18 x69 oq69 t69 c73) (by rw [(e78 : Int32.toInt x78 = (l3_18.toInt + 1))] <;> exact (z_X10_holdsOnPaper_5 l3_18.toInt ((G.1 (F a 2) 2).toInt) I18_0 c26)) (by rw [(e78 : Int32.toInt x78 = (l3_18.toInt + 1))] <;> exact (z_X10_holdsOnPaper_6 l3_18.toInt ((G_18.1 (F a 9) 6).toInt) I18_1)) (by rw [(e78 : Int32.toInt x78 = (l3_18.toInt + 1))] <;> exact (z_X10_holdsOnPaper_7 l3_18.toInt N18 hm18)) hT hS (lv_sub hl [2, 0] rfl)
          · refine lv_iconst (v := 0) hx hb dX10_holdsOnPaper_76 (by decide) ?_
            exact x_rz hx hb hr (xnz (Or.inl rfl)) hlk hQ (Nat.le_of_ble_eq_true rfl) (Nat.le_of_ble_eq_true rfl) hS dX10_holdsOnPaper_77 G_18 ⟨_, rfl, (Or.inl rfl), (XFr.call (XFr.call (XFr.call XFr.rf hF4 (xm1 1 rfl xm0) xm0 xm0) hF13 xm0 (xm1 0 rfl (xm1 1 rfl xm0)) xm0) hF_18 (xm1 0 rfl (xm1 1 rfl xm0)) (xm1 2 rfl (xm1 3 rfl (xm1 4 rfl (xm1 5 rfl (xm1 6 rfl (xm1 7 rfl (xm1 8 rfl xm0))))))) xm0), (v_X10_holdsOnPaper_77_4 (K := K) (F := F) a G G4 G13 G_18 p0 p1 l3_18 x69 N18 ha oq13 gp gn hn34 oq69 sb e0 t4 I18_0 I18_1 hm18 c26 t69 c73 ((hF_18.2.2 _ xn0).trans ((hF13.2.2 _ xn0).trans (hF4.2.2 _ xn0))))⟩ hT
        · have ht34 : 0 ≤ l3_18.toInt ∧ l3_18.toInt < ((G.1 (F a 2) 2).toInt) ∧ l3_18.toInt < 12 := by rw [(show (G_18.1 (F a 2) 2).toInt = ((G.1 (F a 2) 2).toInt) from (congrArg Int32.toInt ((hF_18.1 _ _ (xnj (by decide) (xnj (by decide) xn0))).trans ((hF13.1 _ _ xn0).trans (hF4.1 _ _ (xnj (by decide) xn0))))).trans (rfl : Int32.toInt (G.1 (F a 2) 2) = ((G.1 (F a 2) 2).toInt)))] at ht34; exact ht34
          refine lv_astore (lv' := [(4, .ref q34), (0, .ref a), (3, .int l3_18)]) hx hb dX10_holdsOnPaper_37 hl (by decide) rfl (fun ls hl => ?_)
          refine lv_aload hx hb dX10_holdsOnPaper_39 (lv_at hl 0 rfl) ?_
          refine lv_ifnull hx hb dX10_holdsOnPaper_41 ?_
          refine lv_aload_n hx hb dX10_holdsOnPaper_44 rfl (lv_at hl 1 rfl) ?_
          refine gX10_11 S hK hT ha kf_X10_70 dX10_holdsOnPaper_45 (fun _ _ => ?_)
          refine lv_aload hx hb dX10_holdsOnPaper_48 (lv_at hl 0 rfl) ?_
          refine lv_aload_n hx hb dX10_holdsOnPaper_50 rfl (lv_at hl 1 rfl) ?_
          refine gX10_3 S hK hT ha kf_X10_37 dX10_holdsOnPaper_51 (fun _ _ => ?_)
          refine lv_aload_n hx hb dX10_holdsOnPaper_54 rfl (lv_at hl 1 rfl) ?_
          refine gX10_5 S hK hT ha kf_X10_44 dX10_holdsOnPaper_55 (fun _ _ => ?_)
          refine lv_aload_n hx hb dX10_holdsOnPaper_58 rfl (lv_at hl 1 rfl) ?_
          refine gX10_9 S hK hT ha kf_X10_61 dX10_holdsOnPaper_59 (fun _ _ => ?_)
          refine x_cv0 (x_runV (b := (F a 11)) (As := [.ref q34, .ref (F a 3), .ref (F a 5), .ref (F a 9)]) (rest := []) S (c_X1_addQuestions l E K F G_18 (F a 11) q34 (F a 3) (F a 5) (F a 9) hk9999 hk34 hk9999m hk9999p hk9999a (z_X10_holdsOnPaper_8 l3_18.toInt ((G.1 (F a 2) 2).toInt) ((G_18.1 (F a 9) 6).toInt) I18_1 ht34) (v_X10_holdsOnPaper_62_5 (F := F) a G G_18 ron rop ((hF_18.2.1 _ (xn1 (xne_k hk9999n hk9999d (by decide)) (xn1 (xne_k hk9999n hk9999e (by decide)) (xn1 (xne_k hk9999n hk9999f (by decide)) (xn1 (xne_k hk9999n hk9999g (by decide)) (xn1 (xne_k hk9999n hk9999h (by decide)) (xn1 (xne_k hk9999n hk9999i (by decide)) (xn1 (xne_k hk9999n hk9999j (by decide)) xn0)))))))).trans ((hF13.2.1 _ (xn1 (xne_k hk9999n hk9999b (by decide)) (xn1 (xne_k hk9999n hk9999c (by decide)) xn0))).trans (hF4.2.1 _ xn0))) ((hF_18.2.1 _ (xn1 (xne_k hk9999o hk9999d (by decide)) (xn1 (xne_k hk9999o hk9999e (by decide)) (xn1 (xne_k hk9999o hk9999f (by decide)) (xn1 (xne_k hk9999o hk9999g (by decide)) (xn1 (xne_k hk9999o hk9999h (by decide)) (xn1 (xne_k hk9999o hk9999i (by decide)) (xn1 (xne_k hk9999o hk9999j (by decide)) xn0)))))))).trans ((hF13.2.1 _ (xn1 (xne_j hj9999w hj9999b (by first | decide | omega)) (xn1 (xne_j hj9999w hj9999c (by first | decide | omega)) xn0))).trans (hF4.2.1 _ xn0)))) (v_X10_holdsOnPaper_62_6 (F := F) a G G_18 ron rop ((hF_18.2.1 _ (xn1 (xne_k hk9999q hk9999d (by decide)) (xn1 (xne_k hk9999q hk9999e (by decide)) (xn1 (xne_k hk9999q hk9999f (by decide)) (xn1 (xne_k hk9999q hk9999g (by decide)) (xn1 (xne_k hk9999q hk9999h (by decide)) (xn1 (xne_k hk9999q hk9999i (by decide)) (xn1 (xne_k hk9999q hk9999j (by decide)) xn0)))))))).trans ((hF13.2.1 _ (xn1 (xne_k hk9999q hk9999b (by decide)) (xn1 (xne_k hk9999q hk9999c (by decide)) xn0))).trans (hF4.2.1 _ xn0))) ((hF_18.2.1 _ (xn1 (xne_k hk9999r hk9999d (by decide)) (xn1 (xne_k hk9999r hk9999e (by decide)) (xn1 (xne_k hk9999r hk9999f (by decide)) (xn1 (xne_k hk9999r hk9999g (by decide)) (xn1 (xne_k hk9999r hk9999h (by decide)) (xn1 (xne_k hk9999r hk9999i (by decide)) (xn1 (xne_k hk9999r hk9999j (by decide)) xn0)))))))).trans ((hF13.2.1 _ (xn1 (xne_j hj9999z28 hj9999b (by first | decide | omega)) (xn1 (xne_j hj9999z28 hj9999c (by first | decide | omega)) xn0))).trans (hF4.2.1 _ xn0)))) (v_X10_holdsOnPaper_62_7 (K := K) (F := F) G a G_18 l3_18 q34 bko hs34 ht34 ((hF_18.2.2 _ xn0).trans ((hF13.2.2 _ xn0).trans (hF4.2.2 _ xn0))) ((fr_A hF_18 (fun _ => (xna (xne_k hk34 hk9999 (by decide)) (xna (xne_k hk34 hk9999a (by decide)) xn0)))).trans ((fr_A hF13 (fun _ => xn0)).trans (fr_A hF4 (fun _ => (xna (xne_k hk34 hk9999a (by decide)) xn0)))))) (v_X10_holdsOnPaper_62_8 (F := F) p0 p1 G a G13 G_18 h1 oq13 (hF_18.2.1 _ (xn1 (xne_k hk9999b hk9999d (by decide)) (xn1 (xne_k hk9999b hk9999e (by decide)) (xn1 (xne_k hk9999b hk9999f (by decide)) (xn1 (xne_k hk9999b hk9999g (by decide)) (xn1 (xne_k hk9999b hk9999h (by decide)) (xn1 (xne_k hk9999b hk9999i (by decide)) (xn1 (xne_k hk9999b hk9999j (by decide)) xn0)))))))) (hF_18.2.1 _ (xn1 (xne_k hk9999c hk9999d (by decide)) (xn1 (xne_k hk9999c hk9999e (by decide)) (xn1 (xne_k hk9999c hk9999f (by decide)) (xn1 (xne_k hk9999c hk9999g (by decide)) (xn1 (xne_k hk9999c hk9999h (by decide)) (xn1 (xne_k hk9999c hk9999i (by decide)) (xn1 (xne_k hk9999c hk9999j (by decide)) xn0)))))))) ((hF_18.2.1 _ (xn1 (xne_k hk9999n hk9999d (by decide)) (xn1 (xne_k hk9999n hk9999e (by decide)) (xn1 (xne_k hk9999n hk9999f (by decide)) (xn1 (xne_k hk9999n hk9999g (by decide)) (xn1 (xne_k hk9999n hk9999h (by decide)) (xn1 (xne_k hk9999n hk9999i (by decide)) (xn1 (xne_k hk9999n hk9999j (by decide)) xn0)))))))).trans ((hF13.2.1 _ (xn1 (xne_k hk9999n hk9999b (by decide)) (xn1 (xne_k hk9999n hk9999c (by decide)) xn0))).trans (hF4.2.1 _ xn0))) ((hF_18.2.1 _ (xn1 (xne_k hk9999q hk9999d (by decide)) (xn1 (xne_k hk9999q hk9999e (by decide)) (xn1 (xne_k hk9999q hk9999f (by decide)) (xn1 (xne_k hk9999q hk9999g (by decide)) (xn1 (xne_k hk9999q hk9999h (by decide)) (xn1 (xne_k hk9999q hk9999i (by decide)) (xn1 (xne_k hk9999q hk9999j (by decide)) xn0)))))))).trans ((hF13.2.1 _ (xn1 (xne_k hk9999q hk9999b (by decide)) (xn1 (xne_k hk9999q hk9999c (by decide)) xn0))).trans (hF4.2.1 _ xn0))))) mv_X1_addQuestions km_X10_397 rfl rfl ⟨Nat.le_of_ble_eq_true rfl, Nat.le_of_ble_eq_true rfl⟩ (rc_3 hK hT hk9999) hK (fun _ => XP.blind) (fun U hU hW => XP.at hK hz hS hT hU hW) rfl hl.1 (Nat.le_of_ble_eq_true rfl) dX10_holdsOnPaper_62 ⟨Nat.le_of_ble_eq_true rfl, Nat.le_of_ble_eq_true rfl⟩) hS ?_
          rintro G62 H locs ⟨hF62, t62, oq62⟩ hT hS
          have t62 : ((G_18.1 (F a 9) 6).toInt) ≤ ((G62.1 (F a 9) 6).toInt) ∧ ((G62.1 (F a 9) 6).toInt) ≤ ((G_18.1 (F a 9) 6).toInt) + 90 := t62
          have oq62 : qL G62 F (F a 9) = qL G_18 F (F a 9) ++ uqs (vw (G.2.1 (F (F a 3) 0))) (vw (G.2.1 (F (F a 5) 0))) (G_18.1 q34) := by simp only [(show G_18.2.1 (F (F a 3) 0) = G.2.1 (F (F a 3) 0) from ((hF_18.2.1 _ (xn1 (xne_k hk9999n hk9999d (by decide)) (xn1 (xne_k hk9999n hk9999e (by decide)) (xn1 (xne_k hk9999n hk9999f (by decide)) (xn1 (xne_k hk9999n hk9999g (by decide)) (xn1 (xne_k hk9999n hk9999h (by decide)) (xn1 (xne_k hk9999n hk9999i (by decide)) (xn1 (xne_k hk9999n hk9999j (by decide)) xn0)))))))).trans ((hF13.2.1 _ (xn1 (xne_k hk9999n hk9999b (by decide)) (xn1 (xne_k hk9999n hk9999c (by decide)) xn0))).trans (hF4.2.1 _ xn0)))), (show G_18.2.1 (F (F a 5) 0) = G.2.1 (F (F a 5) 0) from ((hF_18.2.1 _ (xn1 (xne_k hk9999q hk9999d (by decide)) (xn1 (xne_k hk9999q hk9999e (by decide)) (xn1 (xne_k hk9999q hk9999f (by decide)) (xn1 (xne_k hk9999q hk9999g (by decide)) (xn1 (xne_k hk9999q hk9999h (by decide)) (xn1 (xne_k hk9999q hk9999i (by decide)) (xn1 (xne_k hk9999q hk9999j (by decide)) xn0)))))))).trans ((hF13.2.1 _ (xn1 (xne_k hk9999q hk9999b (by decide)) (xn1 (xne_k hk9999q hk9999c (by decide)) xn0))).trans (hF4.2.1 _ xn0))))] at oq62; exact oq62
          refine lv_aload_n hx hb dX10_holdsOnPaper_65 rfl (lv_at hl 1 rfl) ?_
          refine gX10_9 S hK hT ha kf_X10_61 dX10_holdsOnPaper_66 (fun _ _ => ?_)
          refine x_clp (x_runV (b := (F a 9)) (As := []) (rest := []) S (c_X4_firstFailing l E K F G62 H (F a 9) hk9999a (z_X10_holdsOnPaper_9 l3_18.toInt ((G.1 (F a 2) 2).toInt) ((G62.1 (F a 9) 6).toInt) ((G_18.1 (F a 9) 6).toInt) I18_1 ht34 t62)) mv_X4_firstFailing km_X10_244 rfl rfl ⟨Nat.le_of_ble_eq_true rfl, Nat.le_of_ble_eq_true rfl⟩ (rc_6 hK hT hk9999a) hK (fun _ => XPh.blind) (fun U hU hW => XPh.at hK hz hS hT hU hW) rfl hl.1 (Nat.le_of_ble_eq_true rfl) dX10_holdsOnPaper_69 ⟨Nat.le_of_ble_eq_true rfl, Nat.le_of_ble_eq_true rfl⟩) hS ?_
          rintro _ _ locs ⟨x69, rfl, t69, oq69⟩ hS
          have t69 : x69.toInt = -1 ∨ (0 ≤ x69.toInt ∧ x69.toInt < ((G62.1 (F a 9) 6).toInt) ∧ (aI (G62.2.1 (F (F a 9) 5)) (x69.toInt)) = 1) := t69
          refine lv_iconst (v := (-1)) hx hb dX10_holdsOnPaper_72 (by decide) ?_
          refine xi_ceq (tgt := 78) hx hb (rfl : Int32.toInt x69 = x69.toInt) ((by decide) : Int32.toInt (-1) = (-1 : Int)) dX10_holdsOnPaper_73 (by decide) (fun c73 => ?_) (fun c73 => ?_)
          · refine xi_iinc (n := 1) (lv' := fun z9 => [(3, .int z9), (4, .ref q34), (0, .ref a)]) (k := 2) hx hb (rfl : Int32.toInt l3_18 = l3_18.toInt) (by decide) dX10_holdsOnPaper_78 hl rfl (by decide) (fun _ => rfl) (fun x78 ls t78 hl => ?_)
            have e78 : x78.toInt = (l3_18.toInt + 1) := (z_X10_holdsOnPaper_10 l3_18.toInt x78.toInt ((G.1 (F a 2) 2).toInt) ht34 t78)
            have hl : lv_has ls 5 [(3, .int x78), (4, .ref q34), (0, .ref a)] := hl
            refine lv_goto (tgt := 18) hx hb dX10_holdsOnPaper_81 (by decide) ?_
            exact ih18 x78 G62 _ _ _ (XFr.call (XFr.call XFr.rf hF_18 (xm1 0 rfl (xm1 1 rfl xm0)) (xm1 0 rfl (xm1 1 rfl (xm1 2 rfl (xm1 3 rfl (xm1 4 rfl (xm1 5 rfl (xm1 6 rfl xm0))))))) xm0) hF62 (xm1 0 rfl (xm1 1 rfl xm0)) (xm1 0 rfl (xm1 1 rfl (xm1 2 rfl (xm1 3 rfl (xm1 4 rfl (xm1 5 rfl (xm1 6 rfl xm0))))))) xm0) (by rw [(e78 : Int32.toInt x78 = (l3_18.toInt + 1))] <;> exact (v_X10_holdsOnPaper_81_9 (K := K) (F := F) a q34 G G4 G13 G_18 G62 p0 p1 l3_18 x69 N18 ha oq13 gp gn hs34 oq62 sb e0 t4 I18_0 I18_1 hm18 c26 ht34 t62 t69 c73 ((hF_18.2.2 _ xn0).trans ((hF13.2.2 _ xn0).trans (hF4.2.2 _ xn0))) ((fr_A hF_18 (fun _ => (xna (xne_k hk34 hk9999 (by decide)) (xna (xne_k hk34 hk9999a (by decide)) xn0)))).trans ((fr_A hF13 (fun _ => xn0)).trans (fr_A hF4 (fun _ => (xna (xne_k hk34 hk9999a (by decide)) xn0))))))) (v_X10_holdsOnPaper_81_10 (F := F) a G62 x69 oq69 t69 c73) (by rw [(e78 : Int32.toInt x78 = (l3_18.toInt + 1))] <;> exact (z_X10_holdsOnPaper_5 l3_18.toInt ((G.1 (F a 2) 2).toInt) I18_0 c26)) (by rw [(e78 : Int32.toInt x78 = (l3_18.toInt + 1))] <;> exact (z_X10_holdsOnPaper_12 l3_18.toInt ((G62.1 (F a 9) 6).toInt) ((G_18.1 (F a 9) 6).toInt) I18_1 t62)) (by rw [(e78 : Int32.toInt x78 = (l3_18.toInt + 1))] <;> exact (z_X10_holdsOnPaper_7 l3_18.toInt N18 hm18)) hT hS (lv_sub hl [2, 0] rfl)
          · refine lv_iconst (v := 0) hx hb dX10_holdsOnPaper_76 (by decide) ?_
            exact x_rz hx hb hr (xnz (Or.inl rfl)) hlk hQ (Nat.le_of_ble_eq_true rfl) (Nat.le_of_ble_eq_true rfl) hS dX10_holdsOnPaper_77 G62 ⟨_, rfl, (Or.inl rfl), (XFr.call (XFr.call (XFr.call (XFr.call XFr.rf hF4 (xm1 1 rfl xm0) xm0 xm0) hF13 xm0 (xm1 0 rfl (xm1 1 rfl xm0)) xm0) hF_18 (xm1 0 rfl (xm1 1 rfl xm0)) (xm1 2 rfl (xm1 3 rfl (xm1 4 rfl (xm1 5 rfl (xm1 6 rfl (xm1 7 rfl (xm1 8 rfl xm0))))))) xm0) hF62 (xm1 0 rfl (xm1 1 rfl xm0)) (xm1 2 rfl (xm1 3 rfl (xm1 4 rfl (xm1 5 rfl (xm1 6 rfl (xm1 7 rfl (xm1 8 rfl xm0))))))) xm0), (v_X10_holdsOnPaper_77_11 (K := K) (F := F) a q34 G G4 G13 G_18 G62 p0 p1 l3_18 x69 N18 ha oq13 gp gn hs34 oq62 oq69 sb e0 t4 I18_0 I18_1 hm18 c26 ht34 t62 t69 c73 ((hF_18.2.2 _ xn0).trans ((hF13.2.2 _ xn0).trans (hF4.2.2 _ xn0))) ((fr_A hF_18 (fun _ => (xna (xne_k hk34 hk9999 (by decide)) (xna (xne_k hk34 hk9999a (by decide)) xn0)))).trans ((fr_A hF13 (fun _ => xn0)).trans (fr_A hF4 (fun _ => (xna (xne_k hk34 hk9999a (by decide)) xn0))))))⟩ hT
  exact L18 4294967297 0 G13 _ _ _ XFr.rf (v_X10_holdsOnPaper_17_12 (F := F) a G G4 G13 t4 (hF13.1 _ _ xn0)) (v_X10_holdsOnPaper_17_13 (F := F) a G4 G13 t4 (hF13.1 _ _ xn0)) (z_X10_holdsOnPaper_14 ((G.1 (F a 2) 2).toInt) sb) (by rw [(show (G13.1 (F a 9) 6).toInt = ((G4.1 (F a 9) 6).toInt) from (congrArg Int32.toInt (hF13.1 _ _ xn0)).trans (rfl : Int32.toInt (G4.1 (F a 9) 6) = ((G4.1 (F a 9) 6).toInt)))] <;> exact (z_X10_holdsOnPaper_15 ((G4.1 (F a 9) 6).toInt) t4)) (by decide) hT hS (lv_sub hl [1, 0] rfl)

theorem z_X10_least_1 (a0 : Int) (h0 : -99 ≤ a0 ∧ a0 ≤ 100) : ¬ (200 - a0 < ((0 : Nat) : Int)) := by omega
theorem z_X10_least_2 (a0 : Int) (a1 : Int) (h0 : (a1 = 1 ∧ 0 ≤ a0 ∧ a0 < 3) ∨ (a1 = 0 ∧ (a0 < 0 ∨ 3 ≤ a0))) (h1 : a1 ≠ 0) : 0 ≤ a0 ∧ a0 < 3 := by omega
theorem z_X10_least_3 (a0 : Int) (h0 : -99 ≤ a0 ∧ a0 ≤ 100) (h1 : ¬ ((99 : Int) < a0)) : a0 = -1000 ∨ (-99 ≤ a0 ∧ a0 ≤ 99) := by omega
theorem z_X10_least_4 (a0 : Int) (a1 : Int) (h0 : -99 ≤ a0 ∧ a0 ≤ 100) (h1 : a1 = (a0 + 1) ∨ (a0 + 1) < -2147483648 ∨ 2147483648 ≤ (a0 + 1)) : a1 = (a0 + 1) := by omega
theorem z_X10_least_5 (a0 : Int) (h0 : -99 ≤ a0 ∧ a0 ≤ 100) (h1 : ¬ ((99 : Int) < a0)) : -99 ≤ (a0 + 1) ∧ (a0 + 1) ≤ 100 := by omega
theorem z_X10_least_6 (a0 : Int) (a1 : Nat) (h0 : 200 - a0 < ((a1 + 1 : Nat) : Int)) : 200 - (a0 + 1) < ((a1 : Nat) : Int) := by omega
theorem z_X10_least_8 (a0 : Int) (a1 : Int) (a2 : Int) (a3 : Int) (h0 : ¬ (0 ≤ a0 ∧ a0 < 3 ∧ 0 ≤ a1 ∧ a1 < 30) → a3 = -2000) (h1 : (a2 = 1 ∧ a3 ≠ -2000) ∨ (a2 = 0 ∧ a3 = -2000)) (h2 : ¬ (a2 = 0)) : 0 ≤ a0 ∧ a0 < 3 ∧ 0 ≤ a1 ∧ a1 < 30 := by omega
abbrev rm_X10_least : Room := { frames := 6, cells := 0, slots := 0, locals := 147 }
set_option maxHeartbeats 4000000 in
set_option maxRecDepth 100000 in
theorem c_X10_least (l : Launch) (E : XE) (K : Nat → Nat) (F : Nat → Nat → Nat) (G : XG) (a : Nat) (p0 : Int32) (p1 : Int32) (p2 : Int32) (ha : K a = 12) (sb : 0 ≤ ((G.1 (F a 2) 2).toInt) ∧ ((G.1 (F a 2) 2).toInt) ≤ 12) (ron : RO (vw (G.2.1 (F (F a 3) 0))) (aI (G.2.1 (F (F a 3) 1)))) (bko : BKr K G (G.2.2.1 (F (F a 2) 1))) : Met l yX10_least (xw yX10_least cX10_least 6 (some .int)) rm_X10_least (va_Pc [.ref a, .int p0, .int p1, .int p2] (XP E K F G)) (XQ E (fun v (u : XG) => ∃ r : Int32, v = .int r ∧ XFr [(F a 11, 3), (F a 9, 6)] [F (F a 11) 0, F (F a 11) 1, F (F a 11) 2, F (F a 9) 0, F (F a 9) 1, F (F a 9) 2, F (F a 9) 3, F (F a 9) 4, F (F a 9) 5, F (F a 5) 0, F (F a 5) 1] [] G u ∧ ((¬ (cel (vw (G.2.1 (F (F a 3) 0))) p0.toInt p1.toInt 0 ≠ -2000 ∧ 0 ≤ p2.toInt ∧ p2.toInt < 3) ∧ r.toInt = -2147483648) ∨ ((cel (vw (G.2.1 (F (F a 3) 0))) p0.toInt p1.toInt 0 ≠ -2000 ∧ 0 ≤ p2.toInt ∧ p2.toInt < 3) ∧ LsS (fun v => ffL (gaL G (G.2.2.1 (F (F a 2) 1)) (vw (G.2.1 (F (F a 3) 0))) (rset (vw (G.2.1 (F (F a 3) 0))) (90 * p0.toInt + 30 * p2.toInt + p1.toInt) v) 0 (((G.1 (F a 2) 2).toInt)).toNat) = -1) (cel (vw (G.2.1 (F (F a 3) 0))) p0.toInt p1.toInt p2.toInt) r.toInt))) (fun u H => TW E K F u H)) 0 0 (xA E) := by
  refine x_enter (by decide) (Nat.le_of_ble_eq_true rfl) ?_
  intro p e s m args below meth c Q S hr hlk hnm hQ hP ls hl
  obtain ⟨hz, hK, hT⟩ := hP
  obtain ⟨hx, hb, -, -, -⟩ := id S
  obtain ⟨H, hT, hS, hgo⟩ : ∃ H : Heap, TW E K F G H ∧ va_S (xA E) s.heap H [] ∧ H = s.heap := ⟨_, hT, va_S.rf, rfl⟩
  rw [← hgo]
  have hl : lv_has ls 6 [(0, .ref a), (1, .int p0), (2, .int p1), (3, .int p2)] := hl
  obtain ⟨hk9999, hj9999⟩ := fkX10_11 hT ha
  obtain ⟨hk9999a, hj9999a⟩ := fkX10_9 hT ha
  obtain ⟨hk9999b, hj9999b⟩ := fkX1_0 hT hk9999
  obtain ⟨hk9999c, hj9999c⟩ := fkX1_1 hT hk9999
  obtain ⟨hk9999d, hj9999d⟩ := fkX1_2 hT hk9999
  obtain ⟨hk9999e, hj9999e⟩ := fkX4_0 hT hk9999a
  have hj9999f : F (F (F a 9) 0) 99 = 10 * 1 + 0 := by rw [hj9999e, hj9999a]
  obtain ⟨hk9999f, hj9999g⟩ := fkX4_1 hT hk9999a
  have hj9999h : F (F (F a 9) 1) 99 = 10 * 1 + 1 := by rw [hj9999g, hj9999a]
  obtain ⟨hk9999g, hj9999i⟩ := fkX4_2 hT hk9999a
  have hj9999j : F (F (F a 9) 2) 99 = 10 * 1 + 2 := by rw [hj9999i, hj9999a]
  obtain ⟨hk9999h, hj9999k⟩ := fkX4_3 hT hk9999a
  have hj9999l : F (F (F a 9) 3) 99 = 10 * 1 + 3 := by rw [hj9999k, hj9999a]
  obtain ⟨hk9999i, hj9999m⟩ := fkX4_4 hT hk9999a
  have hj9999n : F (F (F a 9) 4) 99 = 10 * 1 + 4 := by rw [hj9999m, hj9999a]
  obtain ⟨hk9999j, hj9999o⟩ := fkX4_5 hT hk9999a
  have hj9999p : F (F (F a 9) 5) 99 = 10 * 1 + 5 := by rw [hj9999o, hj9999a]
  obtain ⟨hk9999k, hj9999q⟩ := fkX10_5 hT ha
  obtain ⟨hk9999l, hj9999r⟩ := fkX6_0 hT hk9999k
  have hj9999s : F (F (F a 5) 0) 99 = 2 := by rw [hj9999r, hj9999q]
  obtain ⟨hk9999m, hj9999t⟩ := fkX6_1 hT hk9999k
  have hj9999u : F (F (F a 5) 1) 99 = 2 := by rw [hj9999t, hj9999q]
  obtain ⟨hk9999n, hj9999v⟩ := fkX10_2 hT ha
  obtain ⟨hk9999o, hj9999w⟩ := fkX0_1 hT hk9999n
  obtain ⟨hk9999p, hj9999y⟩ := fkX10_3 hT ha
  obtain ⟨hk9999q, hj9999z25⟩ := fkX6_0 hT hk9999p
  have hj9999z26 : F (F (F a 3) 0) 99 = 0 := by rw [hj9999z25, hj9999y]
  obtain ⟨hk9999r, hj9999z27⟩ := fkX6_1 hT hk9999p
  have hj9999z28 : F (F (F a 3) 1) 99 = 0 := by rw [hj9999z27, hj9999y]
  refine lv_aload_n hx hb dX10_least_0 rfl (lv_at hl 0 rfl) ?_
  refine gX10_3 S hK hT ha kf_X10_37 dX10_least_1 (fun _ _ => ?_)
  refine lv_iload_n hx hb dX10_least_4 rfl (lv_at hl 1 rfl) ?_
  have z5 : ¬ (0 ≤ p0.toInt ∧ p0.toInt < 3 ∧ 0 ≤ p1.toInt ∧ p1.toInt < 30) → (cel (vw (G.2.1 (F (F a 3) 0))) (p0.toInt) (p1.toInt) 0) = -2000 := fun h9 => cel_out (by omega)
  refine lv_iload_n hx hb dX10_least_5 rfl (lv_at hl 2 rfl) ?_
  refine x_clp (x_runV (b := (F a 3)) (As := [.int p0, .int p1]) (rest := []) S (c_X6_has l E K F G H (F a 3) p0 p1 hk9999p (v_X10_least_6_1 (F := F) a G ron)) mv_X6_has km_X10_191 rfl rfl ⟨Nat.le_of_ble_eq_true rfl, Nat.le_of_ble_eq_true rfl⟩ (rc_8 hK hT hk9999p) hK (fun _ => XPh.blind) (fun U hU hW => XPh.at hK hz hS hT hU hW) rfl hl.1 (Nat.le_of_ble_eq_true rfl) dX10_least_6 ⟨Nat.le_of_ble_eq_true rfl, Nat.le_of_ble_eq_true rfl⟩) hS ?_
  rintro _ _ locs ⟨x6, rfl, b6, t6⟩ hS
  have t6 : (x6.toInt = 1 ∧ (cel (vw (G.2.1 (F (F a 3) 0))) (p0.toInt) (p1.toInt) 0) ≠ -2000) ∨ (x6.toInt = 0 ∧ (cel (vw (G.2.1 (F (F a 3) 0))) (p0.toInt) (p1.toInt) 0) = -2000) := t6
  refine xi_zeq (tgt := 19) hx hb (rfl : Int32.toInt x6 = x6.toInt) dX10_least_9 (by decide) (fun c9 => ?_) (fun c9 => ?_)
  · refine lv_ldcw (v := (-2147483648)) hx hb S.2.2.2.1 (S.2.2.2.2 _ (List.mem_cons_of_mem _ kc_X10_274)) dX10_least_19 ?_
    exact x_ri hx hb hr hlk hQ (Nat.le_of_ble_eq_true rfl) (Nat.le_of_ble_eq_true rfl) hS dX10_least_22 G ⟨_, rfl, XFr.rf, (by rw [((by decide) : Int32.toInt (-2147483648) = (-2147483648 : Int))] <;> exact (v_X10_least_22_2 (K := K) (F := F) a G p0 p1 x6 p2 ha sb z5 t6 c9))⟩ hT
  · refine lv_iload_n hx hb dX10_least_12 rfl (lv_at hl 3 rfl) ?_
    refine x_clp (x_runS (As := [.int p2]) (rest := []) S (c_X10_isColumn l E K F G H p2) ms_X10_isColumn km_X10_255 rfl rfl ⟨Nat.le_of_ble_eq_true rfl, Nat.le_of_ble_eq_true rfl⟩ hK (fun _ => XPh.blind) (fun U hU hW => XPh.at hK hz hS hT hU hW) rfl hl.1 (Nat.le_of_ble_eq_true rfl) dX10_least_13 ⟨Nat.le_of_ble_eq_true rfl, Nat.le_of_ble_eq_true rfl⟩) hS ?_
    rintro _ _ locs ⟨x13, rfl, b13, t13⟩ hS
    have t13 : (x13.toInt = 1 ∧ 0 ≤ p2.toInt ∧ p2.toInt < 3) ∨ (x13.toInt = 0 ∧ (p2.toInt < 0 ∨ 3 ≤ p2.toInt)) := t13
    refine xi_zne (tgt := 23) hx hb (rfl : Int32.toInt x13 = x13.toInt) dX10_least_16 (by decide) (fun c16 => ?_) (fun c16 => ?_)
    · refine lv_aload_n hx hb dX10_least_23 rfl (lv_at hl 0 rfl) ?_
      refine gX10_3 S hK hT ha kf_X10_37 dX10_least_24 (fun _ _ => ?_)
      refine lv_iload_n hx hb dX10_least_27 rfl (lv_at hl 1 rfl) ?_
      refine lv_iload_n hx hb dX10_least_28 rfl (lv_at hl 2 rfl) ?_
      refine lv_iload_n hx hb dX10_least_29 rfl (lv_at hl 3 rfl) ?_
      refine x_clp (x_runV (b := (F a 3)) (As := [.int p0, .int p1, .int p2]) (rest := []) S (c_X6_cell l E K F G H (F a 3) p0 p1 p2 hk9999p) mv_X6_cell km_X10_265 rfl rfl ⟨Nat.le_of_ble_eq_true rfl, Nat.le_of_ble_eq_true rfl⟩ (rc_8 hK hT hk9999p) hK (fun _ => XPh.blind) (fun U hU hW => XPh.at hK hz hS hT hU hW) rfl hl.1 (Nat.le_of_ble_eq_true rfl) dX10_least_30 ⟨Nat.le_of_ble_eq_true rfl, Nat.le_of_ble_eq_true rfl⟩) hS ?_
      rintro _ _ locs ⟨x30, rfl, t30⟩ hS
      have t30 : x30.toInt = (cel (vw (G.2.1 (F (F a 3) 0))) (p0.toInt) (p1.toInt) (p2.toInt)) := t30
      refine lv_istore (lv' := [(4, .int x30), (0, .ref a), (1, .int p0), (2, .int p1), (3, .int p2)]) hx hb dX10_least_33 hl (by decide) rfl (fun ls hl => ?_)
      refine lv_aload_n hx hb dX10_least_35 rfl (lv_at hl 1 rfl) ?_
      refine gX10_5 S hK hT ha kf_X10_44 dX10_least_36 (fun _ _ => ?_)
      refine lv_aload_n hx hb dX10_least_39 rfl (lv_at hl 1 rfl) ?_
      refine gX10_3 S hK hT ha kf_X10_37 dX10_least_40 (fun _ _ => ?_)
      refine x_cv0 (x_runV (b := (F a 5)) (As := [.ref (F a 3)]) (rest := []) S (c_X6_copy l E K F G (F a 5) (F a 3) hk9999k hk9999p (v_X10_least_43_3 (F := F) a G ron)) mv_X6_copy km_X10_195 rfl rfl ⟨Nat.le_of_ble_eq_true rfl, Nat.le_of_ble_eq_true rfl⟩ (rc_8 hK hT hk9999k) hK (fun _ => XP.blind) (fun U hU hW => XP.at hK hz hS hT hU hW) rfl hl.1 (Nat.le_of_ble_eq_true rfl) dX10_least_43 ⟨Nat.le_of_ble_eq_true rfl, Nat.le_of_ble_eq_true rfl⟩) hS ?_
      rintro G43 H locs ⟨hF43, oq43, oq43a⟩ hT hS
      refine lv_bipush (v := (-99)) hx hb dX10_least_46 (by decide) ?_
      refine lv_istore (lv' := [(5, .int (-99)), (4, .int x30), (0, .ref a), (1, .int p0), (2, .int p1), (3, .int p2)]) hx hb dX10_least_48 hl (by decide) rfl (fun ls hl => ?_)
      have L50 : ∀ (N50 : Nat) (l5_50 : Int32) (G_50 : XG) (H : Heap) (locs : List Loc) (ls : Array Slot), XFr [(F a 11, 3), (F a 9, 6)] [F (F a 11) 0, F (F a 11) 1, F (F a 11) 2, F (F a 9) 0, F (F a 9) 1, F (F a 9) 2, F (F a 9) 3, F (F a 9) 4, F (F a 9) 5, F (F a 5) 0, F (F a 5) 1] [] G43 G_50 → (∀ v : Int, rset (vw (G_50.2.1 (F (F a 5) 0))) (90 * p0.toInt + 30 * p2.toInt + p1.toInt) v = rset (vw (G.2.1 (F (F a 3) 0))) (90 * p0.toInt + 30 * p2.toInt + p1.toInt) v) → RO (vw (G_50.2.1 (F (F a 5) 0))) (aI (G_50.2.1 (F (F a 5) 1))) → cel (vw (G_50.2.1 (F (F a 5) 0))) p0.toInt p1.toInt 0 ≠ -2000 → (∀ v : Int, -99 ≤ v → v < l5_50.toInt → v ≠ cel (vw (G.2.1 (F (F a 3) 0))) p0.toInt p1.toInt p2.toInt → ffL (gaL G (G.2.2.1 (F (F a 2) 1)) (vw (G.2.1 (F (F a 3) 0))) (rset (vw (G.2.1 (F (F a 3) 0))) (90 * p0.toInt + 30 * p2.toInt + p1.toInt) v) 0 ((G.1 (F a 2) 2).toInt).toNat) ≠ -1) → -99 ≤ l5_50.toInt ∧ l5_50.toInt ≤ 100 → 200 - l5_50.toInt < ((N50 : Nat) : Int) → TW E K F G_50 H → va_S (xA E) s.heap H locs → lv_has ls 6 [(0, .ref a), (1, .int p0), (2, .int p1), (3, .int p2), (4, .int x30), (5, .int l5_50)] → W p l e rm_X10_least s m args below meth c H locs 0 0 Q (F0 m 50 ls []) := by
        intro N50
        induction N50 with
        | zero =>
          intro l5_50 G_50 H locs ls hF_50 pp ro ph lp I50_0 hm50
          exact absurd hm50 (z_X10_least_1 l5_50.toInt I50_0)
        | succ N50 ih50 =>
          intro l5_50 G_50 H locs ls hF_50 pp ro ph lp I50_0 hm50 hT hS hl
          refine lv_iload hx hb dX10_least_50 (lv_at hl 5 rfl) ?_
          refine lv_bipush (v := 99) hx hb dX10_least_52 (by decide) ?_
          refine xi_cgt (tgt := 94) hx hb (rfl : Int32.toInt l5_50 = l5_50.toInt) ((by decide) : Int32.toInt 99 = (99 : Int)) dX10_least_54 (by decide) (fun c54 => ?_) (fun c54 => ?_)
          · refine lv_ldcw (v := (-2147483648)) hx hb S.2.2.2.1 (S.2.2.2.2 _ (List.mem_cons_of_mem _ kc_X10_274)) dX10_least_94 ?_
            exact x_ri hx hb hr hlk hQ (Nat.le_of_ble_eq_true rfl) (Nat.le_of_ble_eq_true rfl) hS dX10_least_97 G_50 ⟨_, rfl, (XFr.call (XFr.call XFr.rf hF43 xm0 (xm1 9 rfl (xm1 10 rfl xm0)) xm0) hF_50 (xm1 0 rfl (xm1 1 rfl xm0)) (xm1 0 rfl (xm1 1 rfl (xm1 2 rfl (xm1 3 rfl (xm1 4 rfl (xm1 5 rfl (xm1 6 rfl (xm1 7 rfl (xm1 8 rfl (xm1 9 rfl (xm1 10 rfl xm0))))))))))) xm0), (by rw [((by decide) : Int32.toInt (-2147483648) = (-2147483648 : Int))] <;> exact (v_X10_least_97_4 (K := K) (F := F) a G G_50 p0 p1 p2 l5_50 x6 x13 N50 ha ph lp sb z5 t6 c9 t13 c16 I50_0 hm50 c54))⟩ hT
          · refine lv_aload_n hx hb dX10_least_57 rfl (lv_at hl 0 rfl) ?_
            refine gX10_5 S hK hT ha kf_X10_44 dX10_least_58 (fun _ _ => ?_)
            refine lv_iload_n hx hb dX10_least_61 rfl (lv_at hl 1 rfl) ?_
            refine lv_iload_n hx hb dX10_least_62 rfl (lv_at hl 2 rfl) ?_
            refine lv_iload_n hx hb dX10_least_63 rfl (lv_at hl 3 rfl) ?_
            refine lv_iload hx hb dX10_least_64 (lv_at hl 5 rfl) ?_
            refine x_cv0 (x_runV (b := (F a 5)) (As := [.int p0, .int p1, .int p2, .int l5_50]) (rest := []) S (c_X6_change l E K F G_50 (F a 5) p0 p1 p2 l5_50 hk9999k (z_X10_least_2 p2.toInt x13.toInt t13 c16) (z_X10_least_3 l5_50.toInt I50_0 c54) (v_X10_least_66_5 (F := F) a G_50 ro)) mv_X6_change km_X10_203 rfl rfl ⟨Nat.le_of_ble_eq_true rfl, Nat.le_of_ble_eq_true rfl⟩ (rc_8 hK hT hk9999k) hK (fun _ => XP.blind) (fun U hU hW => XP.at hK hz hS hT hU hW) rfl hl.1 (Nat.le_of_ble_eq_true rfl) dX10_least_66 ⟨Nat.le_of_ble_eq_true rfl, Nat.le_of_ble_eq_true rfl⟩) hS ?_
            rintro G66 H locs ⟨hF66, oq66, oq66a⟩ hT hS
            refine lv_iload hx hb dX10_least_69 (lv_at hl 5 rfl) ?_
            refine lv_iload hx hb dX10_least_71 (lv_at hl 4 rfl) ?_
            refine xi_ceq (tgt := 88) hx hb (rfl : Int32.toInt l5_50 = l5_50.toInt) (t30 : Int32.toInt x30 = (cel (vw (G.2.1 (F (F a 3) 0))) (p0.toInt) (p1.toInt) (p2.toInt))) dX10_least_73 (by decide) (fun c73 => ?_) (fun c73 => ?_)
            · refine xi_iinc (n := 1) (lv' := fun z9 => [(5, .int z9), (0, .ref a), (1, .int p0), (2, .int p1), (3, .int p2), (4, .int x30)]) (k := 5) hx hb (rfl : Int32.toInt l5_50 = l5_50.toInt) (by decide) dX10_least_88 hl rfl (by decide) (fun _ => rfl) (fun x88 ls t88 hl => ?_)
              have e88 : x88.toInt = (l5_50.toInt + 1) := (z_X10_least_4 l5_50.toInt x88.toInt I50_0 t88)
              have hl : lv_has ls 6 [(5, .int x88), (0, .ref a), (1, .int p0), (2, .int p1), (3, .int p2), (4, .int x30)] := hl
              refine lv_goto (tgt := 50) hx hb dX10_least_91 (by decide) ?_
              exact ih50 x88 G66 _ _ _ (XFr.call (XFr.call XFr.rf hF_50 (xm1 0 rfl (xm1 1 rfl xm0)) (xm1 0 rfl (xm1 1 rfl (xm1 2 rfl (xm1 3 rfl (xm1 4 rfl (xm1 5 rfl (xm1 6 rfl (xm1 7 rfl (xm1 8 rfl (xm1 9 rfl (xm1 10 rfl xm0))))))))))) xm0) hF66 xm0 (xm1 9 rfl xm0) xm0) (v_X10_least_91_6 (F := F) G_50 a p0 p2 p1 G G66 l5_50 pp ph oq66) (by rw [(show G66.2.1 (F (F a 5) 1) = G_50.2.1 (F (F a 5) 1) from (hF66.2.1 _ (xn1 (xne_k hk9999m hk9999l (by decide)) xn0)))] <;> exact (v_X10_least_91_7 (F := F) G66 a G_50 oq66a (hF66.2.1 _ (xn1 (xne_k hk9999m hk9999l (by decide)) xn0)))) (v_X10_least_91_8 (F := F) G_50 a p0 p1 G66 p2 l5_50 G x6 x13 ph oq66 z5 t6 c9 t13 c16 I50_0 c54) (by rw [(e88 : Int32.toInt x88 = (l5_50.toInt + 1))] <;> exact (v_X10_least_91_9 (K := K) (F := F) a G G66 G_50 p0 p1 p2 l5_50 x6 x13 N50 ha hk9999 hj9999 hk9999a hj9999a hk9999b hj9999b hk9999c hj9999c hk9999d hj9999d hk9999e hj9999f hk9999f hj9999h hk9999g hj9999j hk9999h hj9999l hk9999i hj9999n hk9999j hj9999p hk9999k hj9999q hk9999l hj9999s hk9999m hj9999u hk9999n hj9999v hk9999o hj9999w hk9999p hj9999y hk9999q hj9999z26 hk9999r hj9999z28 (XFr.call (XFr.call (XFr.call XFr.rf hF43 xm0 (xm1 9 rfl (xm1 10 rfl xm0)) xm0) hF_50 (xm1 0 rfl (xm1 1 rfl xm0)) (xm1 0 rfl (xm1 1 rfl (xm1 2 rfl (xm1 3 rfl (xm1 4 rfl (xm1 5 rfl (xm1 6 rfl (xm1 7 rfl (xm1 8 rfl (xm1 9 rfl (xm1 10 rfl xm0))))))))))) xm0) hF66 xm0 (xm1 9 rfl xm0) xm0) bko pp ph lp oq66 sb z5 t6 c9 t13 c16 I50_0 hm50 c54 c73 ((hF66.2.2 _ xn0).trans ((hF_50.2.2 _ xn0).trans (hF43.2.2 _ xn0))))) (by rw [(e88 : Int32.toInt x88 = (l5_50.toInt + 1))] <;> exact (z_X10_least_5 l5_50.toInt I50_0 c54)) (by rw [(e88 : Int32.toInt x88 = (l5_50.toInt + 1))] <;> exact (z_X10_least_6 l5_50.toInt N50 hm50)) hT hS (lv_sub hl [1, 2, 3, 4, 5, 0] rfl)
            · refine lv_aload_n hx hb dX10_least_76 rfl (lv_at hl 0 rfl) ?_
              refine lv_iload_n hx hb dX10_least_77 rfl (lv_at hl 1 rfl) ?_
              refine lv_iload_n hx hb dX10_least_78 rfl (lv_at hl 2 rfl) ?_
              refine x_cl0 (x_runV (b := a) (As := [.int p0, .int p1]) (rest := []) S (c_X10_holdsOnPaper l E K F G66 a p0 p1 ha (by rw [(show (G66.1 (F a 2) 2).toInt = ((G.1 (F a 2) 2).toInt) from (congrArg Int32.toInt ((hF66.1 _ _ xn0).trans ((hF_50.1 _ _ (xnj (by decide) (xnj (by decide) xn0))).trans (hF43.1 _ _ xn0)))).trans (rfl : Int32.toInt (G.1 (F a 2) 2) = ((G.1 (F a 2) 2).toInt)))] <;> exact (sb)) (z_X10_least_8 p0.toInt p1.toInt x6.toInt (cel (vw (G.2.1 (F (F a 3) 0))) (p0.toInt) (p1.toInt) 0) z5 t6 c9) (v_X10_least_79_10 (F := F) a G G66 G43 G_50 ron oq43a ro oq66a ((hF66.2.1 _ (xn1 (xne_j hj9999z26 hj9999s (by first | decide | omega)) xn0)).trans ((hF_50.2.1 _ (xn1 (xne_k hk9999q hk9999b (by decide)) (xn1 (xne_k hk9999q hk9999c (by decide)) (xn1 (xne_k hk9999q hk9999d (by decide)) (xn1 (xne_k hk9999q hk9999e (by decide)) (xn1 (xne_k hk9999q hk9999f (by decide)) (xn1 (xne_k hk9999q hk9999g (by decide)) (xn1 (xne_k hk9999q hk9999h (by decide)) (xn1 (xne_k hk9999q hk9999i (by decide)) (xn1 (xne_k hk9999q hk9999j (by decide)) (xn1 (xne_j hj9999z26 hj9999s (by first | decide | omega)) (xn1 (xne_k hk9999q hk9999m (by decide)) xn0)))))))))))).trans (hF43.2.1 _ (xn1 (xne_j hj9999z26 hj9999s (by first | decide | omega)) (xn1 (xne_k hk9999q hk9999m (by decide)) xn0))))) ((hF66.2.1 _ (xn1 (xne_k hk9999r hk9999l (by decide)) xn0)).trans ((hF_50.2.1 _ (xn1 (xne_j hj9999z28 hj9999b (by first | decide | omega)) (xn1 (xne_j hj9999z28 hj9999c (by first | decide | omega)) (xn1 (xne_k hk9999r hk9999d (by decide)) (xn1 (xne_k hk9999r hk9999e (by decide)) (xn1 (xne_k hk9999r hk9999f (by decide)) (xn1 (xne_k hk9999r hk9999g (by decide)) (xn1 (xne_k hk9999r hk9999h (by decide)) (xn1 (xne_k hk9999r hk9999i (by decide)) (xn1 (xne_k hk9999r hk9999j (by decide)) (xn1 (xne_k hk9999r hk9999l (by decide)) (xn1 (xne_j hj9999z28 hj9999u (by first | decide | omega)) xn0)))))))))))).trans (hF43.2.1 _ (xn1 (xne_k hk9999r hk9999l (by decide)) (xn1 (xne_j hj9999z28 hj9999u (by first | decide | omega)) xn0)))))) (v_X10_least_79_11 (F := F) G66 a oq66a) (v_X10_least_79_12 (K := K) (F := F) a G G66 G43 G_50 x30 p0 p1 p2 l5_50 x6 x13 N50 ha hk9999 hj9999 hk9999a hj9999a hk9999b hj9999b hk9999c hj9999c hk9999d hj9999d hk9999e hj9999f hk9999f hj9999h hk9999g hj9999j hk9999h hj9999l hk9999i hj9999n hk9999j hj9999p hk9999k hj9999q hk9999l hj9999s hk9999m hj9999u hk9999n hj9999v hk9999o hj9999w hk9999p hj9999y hk9999q hj9999z26 hk9999r hj9999z28 (XFr.call (XFr.call (XFr.call XFr.rf hF43 xm0 (xm1 9 rfl (xm1 10 rfl xm0)) xm0) hF_50 (xm1 0 rfl (xm1 1 rfl xm0)) (xm1 0 rfl (xm1 1 rfl (xm1 2 rfl (xm1 3 rfl (xm1 4 rfl (xm1 5 rfl (xm1 6 rfl (xm1 7 rfl (xm1 8 rfl (xm1 9 rfl (xm1 10 rfl xm0))))))))))) xm0) hF66 xm0 (xm1 9 rfl xm0) xm0) hF43 hF_50 hF66 ron bko t30 oq43 oq43a pp ro ph lp oq66 oq66a sb z5 t6 c9 t13 c16 I50_0 hm50 c54 c73 (hF66.2.1 _ (xn1 (xne_k hk9999b hk9999l (by decide)) xn0)) (hF66.2.1 _ (xn1 (xne_k hk9999c hk9999l (by decide)) xn0)) (hF66.2.1 _ (xn1 (xne_k hk9999d hk9999l (by decide)) xn0)) ((hF66.2.1 _ (xn1 (xne_j hj9999z26 hj9999s (by first | decide | omega)) xn0)).trans ((hF_50.2.1 _ (xn1 (xne_k hk9999q hk9999b (by decide)) (xn1 (xne_k hk9999q hk9999c (by decide)) (xn1 (xne_k hk9999q hk9999d (by decide)) (xn1 (xne_k hk9999q hk9999e (by decide)) (xn1 (xne_k hk9999q hk9999f (by decide)) (xn1 (xne_k hk9999q hk9999g (by decide)) (xn1 (xne_k hk9999q hk9999h (by decide)) (xn1 (xne_k hk9999q hk9999i (by decide)) (xn1 (xne_k hk9999q hk9999j (by decide)) (xn1 (xne_j hj9999z26 hj9999s (by first | decide | omega)) (xn1 (xne_k hk9999q hk9999m (by decide)) xn0)))))))))))).trans (hF43.2.1 _ (xn1 (xne_j hj9999z26 hj9999s (by first | decide | omega)) (xn1 (xne_k hk9999q hk9999m (by decide)) xn0))))) (hF66.2.1 _ (xn1 (xne_k hk9999m hk9999l (by decide)) xn0)) (hF66.2.1 _ (xn1 (xne_k hk9999e hk9999l (by decide)) xn0)) (hF66.2.1 _ (xn1 (xne_k hk9999f hk9999l (by decide)) xn0)) (hF66.2.1 _ (xn1 (xne_k hk9999g hk9999l (by decide)) xn0)) (hF66.2.1 _ (xn1 (xne_k hk9999h hk9999l (by decide)) xn0)) (hF66.2.1 _ (xn1 (xne_k hk9999i hk9999l (by decide)) xn0)) (hF66.2.1 _ (xn1 (xne_k hk9999j hk9999l (by decide)) xn0)) ((hF66.2.2 _ xn0).trans ((hF_50.2.2 _ xn0).trans (hF43.2.2 _ xn0))) (hF66.1 _ _ xn0) (hF66.1 _ _ xn0)) (v_X10_least_79_13 (F := F) G a p0 p1 p2 G_50 G66 l5_50 x6 x13 ron pp ph oq66 z5 t6 c9 t13 c16 I50_0 c54 c73 ((hF66.2.1 _ (xn1 (xne_j hj9999z26 hj9999s (by first | decide | omega)) xn0)).trans ((hF_50.2.1 _ (xn1 (xne_k hk9999q hk9999b (by decide)) (xn1 (xne_k hk9999q hk9999c (by decide)) (xn1 (xne_k hk9999q hk9999d (by decide)) (xn1 (xne_k hk9999q hk9999e (by decide)) (xn1 (xne_k hk9999q hk9999f (by decide)) (xn1 (xne_k hk9999q hk9999g (by decide)) (xn1 (xne_k hk9999q hk9999h (by decide)) (xn1 (xne_k hk9999q hk9999i (by decide)) (xn1 (xne_k hk9999q hk9999j (by decide)) (xn1 (xne_j hj9999z26 hj9999s (by first | decide | omega)) (xn1 (xne_k hk9999q hk9999m (by decide)) xn0)))))))))))).trans (hF43.2.1 _ (xn1 (xne_j hj9999z26 hj9999s (by first | decide | omega)) (xn1 (xne_k hk9999q hk9999m (by decide)) xn0))))))) mv_X10_holdsOnPaper km_X10_365 rfl rfl ⟨Nat.le_of_ble_eq_true rfl, Nat.le_of_ble_eq_true rfl⟩ (rc_12 hK hT ha) hK (fun _ => XP.blind) (fun U hU hW => XP.at hK hz hS hT hU hW) rfl hl.1 (Nat.le_of_ble_eq_true rfl) dX10_least_79 ⟨Nat.le_of_ble_eq_true rfl, Nat.le_of_ble_eq_true rfl⟩) hS ?_
              rintro _ G79 H locs ⟨x79, rfl, b79, hF79, oq79⟩ hT hS
              have oq79 : (x79.toInt = 1 ∧ ffL (gaL G66 (G66.2.2.1 (F (F a 2) 1)) (vw (G.2.1 (F (F a 3) 0))) (vw (G66.2.1 (F (F a 5) 0))) 0 (((G.1 (F a 2) 2).toInt)).toNat) = -1) ∨ (x79.toInt = 0 ∧ ffL (gaL G66 (G66.2.2.1 (F (F a 2) 1)) (vw (G.2.1 (F (F a 3) 0))) (vw (G66.2.1 (F (F a 5) 0))) 0 (((G.1 (F a 2) 2).toInt)).toNat) ≠ -1) := by simp only [(show G66.2.1 (F (F a 3) 0) = G.2.1 (F (F a 3) 0) from ((hF66.2.1 _ (xn1 (xne_j hj9999z26 hj9999s (by first | decide | omega)) xn0)).trans ((hF_50.2.1 _ (xn1 (xne_k hk9999q hk9999b (by decide)) (xn1 (xne_k hk9999q hk9999c (by decide)) (xn1 (xne_k hk9999q hk9999d (by decide)) (xn1 (xne_k hk9999q hk9999e (by decide)) (xn1 (xne_k hk9999q hk9999f (by decide)) (xn1 (xne_k hk9999q hk9999g (by decide)) (xn1 (xne_k hk9999q hk9999h (by decide)) (xn1 (xne_k hk9999q hk9999i (by decide)) (xn1 (xne_k hk9999q hk9999j (by decide)) (xn1 (xne_j hj9999z26 hj9999s (by first | decide | omega)) (xn1 (xne_k hk9999q hk9999m (by decide)) xn0)))))))))))).trans (hF43.2.1 _ (xn1 (xne_j hj9999z26 hj9999s (by first | decide | omega)) (xn1 (xne_k hk9999q hk9999m (by decide)) xn0)))))), (show G66.1 (F a 2) 2 = G.1 (F a 2) 2 from ((hF66.1 _ _ xn0).trans ((hF_50.1 _ _ (xnj (by decide) (xnj (by decide) xn0))).trans (hF43.1 _ _ xn0))))] at oq79; exact oq79
              refine xi_zeq (tgt := 88) hx hb (rfl : Int32.toInt x79 = x79.toInt) dX10_least_82 (by decide) (fun c82 => ?_) (fun c82 => ?_)
              · refine xi_iinc (n := 1) (lv' := fun z9 => [(5, .int z9), (0, .ref a), (1, .int p0), (2, .int p1), (3, .int p2), (4, .int x30)]) (k := 5) hx hb (rfl : Int32.toInt l5_50 = l5_50.toInt) (by decide) dX10_least_88 hl rfl (by decide) (fun _ => rfl) (fun x88 ls t88 hl => ?_)
                have e88 : x88.toInt = (l5_50.toInt + 1) := (z_X10_least_4 l5_50.toInt x88.toInt I50_0 t88)
                have hl : lv_has ls 6 [(5, .int x88), (0, .ref a), (1, .int p0), (2, .int p1), (3, .int p2), (4, .int x30)] := hl
                refine lv_goto (tgt := 50) hx hb dX10_least_91 (by decide) ?_
                exact ih50 x88 G79 _ _ _ (XFr.call (XFr.call (XFr.call XFr.rf hF_50 (xm1 0 rfl (xm1 1 rfl xm0)) (xm1 0 rfl (xm1 1 rfl (xm1 2 rfl (xm1 3 rfl (xm1 4 rfl (xm1 5 rfl (xm1 6 rfl (xm1 7 rfl (xm1 8 rfl (xm1 9 rfl (xm1 10 rfl xm0))))))))))) xm0) hF66 xm0 (xm1 9 rfl xm0) xm0) hF79 (xm1 0 rfl (xm1 1 rfl xm0)) (xm1 0 rfl (xm1 1 rfl (xm1 2 rfl (xm1 3 rfl (xm1 4 rfl (xm1 5 rfl (xm1 6 rfl (xm1 7 rfl (xm1 8 rfl xm0))))))))) xm0) (by rw [(show G79.2.1 (F (F a 5) 0) = G66.2.1 (F (F a 5) 0) from (hF79.2.1 _ (xn1 (xne_k hk9999l hk9999b (by decide)) (xn1 (xne_k hk9999l hk9999c (by decide)) (xn1 (xne_k hk9999l hk9999d (by decide)) (xn1 (xne_k hk9999l hk9999e (by decide)) (xn1 (xne_k hk9999l hk9999f (by decide)) (xn1 (xne_k hk9999l hk9999g (by decide)) (xn1 (xne_k hk9999l hk9999h (by decide)) (xn1 (xne_k hk9999l hk9999i (by decide)) (xn1 (xne_k hk9999l hk9999j (by decide)) xn0)))))))))))] <;> exact (v_X10_least_91_14 (F := F) G_50 a p0 p2 p1 G G66 l5_50 G79 pp ph oq66 (hF79.2.1 _ (xn1 (xne_k hk9999l hk9999b (by decide)) (xn1 (xne_k hk9999l hk9999c (by decide)) (xn1 (xne_k hk9999l hk9999d (by decide)) (xn1 (xne_k hk9999l hk9999e (by decide)) (xn1 (xne_k hk9999l hk9999f (by decide)) (xn1 (xne_k hk9999l hk9999g (by decide)) (xn1 (xne_k hk9999l hk9999h (by decide)) (xn1 (xne_k hk9999l hk9999i (by decide)) (xn1 (xne_k hk9999l hk9999j (by decide)) xn0)))))))))))) (by rw [(show G79.2.1 (F (F a 5) 0) = G66.2.1 (F (F a 5) 0) from (hF79.2.1 _ (xn1 (xne_k hk9999l hk9999b (by decide)) (xn1 (xne_k hk9999l hk9999c (by decide)) (xn1 (xne_k hk9999l hk9999d (by decide)) (xn1 (xne_k hk9999l hk9999e (by decide)) (xn1 (xne_k hk9999l hk9999f (by decide)) (xn1 (xne_k hk9999l hk9999g (by decide)) (xn1 (xne_k hk9999l hk9999h (by decide)) (xn1 (xne_k hk9999l hk9999i (by decide)) (xn1 (xne_k hk9999l hk9999j (by decide)) xn0))))))))))), (show G79.2.1 (F (F a 5) 1) = G_50.2.1 (F (F a 5) 1) from ((hF79.2.1 _ (xn1 (xne_j hj9999u hj9999b (by first | decide | omega)) (xn1 (xne_j hj9999u hj9999c (by first | decide | omega)) (xn1 (xne_k hk9999m hk9999d (by decide)) (xn1 (xne_k hk9999m hk9999e (by decide)) (xn1 (xne_k hk9999m hk9999f (by decide)) (xn1 (xne_k hk9999m hk9999g (by decide)) (xn1 (xne_k hk9999m hk9999h (by decide)) (xn1 (xne_k hk9999m hk9999i (by decide)) (xn1 (xne_k hk9999m hk9999j (by decide)) xn0)))))))))).trans (hF66.2.1 _ (xn1 (xne_k hk9999m hk9999l (by decide)) xn0))))] <;> exact (v_X10_least_91_15 (F := F) G66 a G_50 G79 oq66a (hF66.2.1 _ (xn1 (xne_k hk9999m hk9999l (by decide)) xn0)) (hF79.2.1 _ (xn1 (xne_k hk9999l hk9999b (by decide)) (xn1 (xne_k hk9999l hk9999c (by decide)) (xn1 (xne_k hk9999l hk9999d (by decide)) (xn1 (xne_k hk9999l hk9999e (by decide)) (xn1 (xne_k hk9999l hk9999f (by decide)) (xn1 (xne_k hk9999l hk9999g (by decide)) (xn1 (xne_k hk9999l hk9999h (by decide)) (xn1 (xne_k hk9999l hk9999i (by decide)) (xn1 (xne_k hk9999l hk9999j (by decide)) xn0)))))))))) ((hF79.2.1 _ (xn1 (xne_j hj9999u hj9999b (by first | decide | omega)) (xn1 (xne_j hj9999u hj9999c (by first | decide | omega)) (xn1 (xne_k hk9999m hk9999d (by decide)) (xn1 (xne_k hk9999m hk9999e (by decide)) (xn1 (xne_k hk9999m hk9999f (by decide)) (xn1 (xne_k hk9999m hk9999g (by decide)) (xn1 (xne_k hk9999m hk9999h (by decide)) (xn1 (xne_k hk9999m hk9999i (by decide)) (xn1 (xne_k hk9999m hk9999j (by decide)) xn0)))))))))).trans (hF66.2.1 _ (xn1 (xne_k hk9999m hk9999l (by decide)) xn0))))) (by rw [(show G79.2.1 (F (F a 5) 0) = G66.2.1 (F (F a 5) 0) from (hF79.2.1 _ (xn1 (xne_k hk9999l hk9999b (by decide)) (xn1 (xne_k hk9999l hk9999c (by decide)) (xn1 (xne_k hk9999l hk9999d (by decide)) (xn1 (xne_k hk9999l hk9999e (by decide)) (xn1 (xne_k hk9999l hk9999f (by decide)) (xn1 (xne_k hk9999l hk9999g (by decide)) (xn1 (xne_k hk9999l hk9999h (by decide)) (xn1 (xne_k hk9999l hk9999i (by decide)) (xn1 (xne_k hk9999l hk9999j (by decide)) xn0)))))))))))] <;> exact (v_X10_least_91_16 (F := F) G_50 a p0 p1 G66 p2 l5_50 G x6 x13 G79 ph oq66 z5 t6 c9 t13 c16 I50_0 c54 (hF79.2.1 _ (xn1 (xne_k hk9999l hk9999b (by decide)) (xn1 (xne_k hk9999l hk9999c (by decide)) (xn1 (xne_k hk9999l hk9999d (by decide)) (xn1 (xne_k hk9999l hk9999e (by decide)) (xn1 (xne_k hk9999l hk9999f (by decide)) (xn1 (xne_k hk9999l hk9999g (by decide)) (xn1 (xne_k hk9999l hk9999h (by decide)) (xn1 (xne_k hk9999l hk9999i (by decide)) (xn1 (xne_k hk9999l hk9999j (by decide)) xn0)))))))))))) (by rw [(e88 : Int32.toInt x88 = (l5_50.toInt + 1))] <;> exact (v_X10_least_91_17 (K := K) (F := F) a G G79 G_50 G66 p0 p1 p2 l5_50 x79 x6 x13 N50 ha hk9999 hj9999 hk9999a hj9999a hk9999b hj9999b hk9999c hj9999c hk9999d hj9999d hk9999e hj9999f hk9999f hj9999h hk9999g hj9999j hk9999h hj9999l hk9999i hj9999n hk9999j hj9999p hk9999k hj9999q hk9999l hj9999s hk9999m hj9999u hk9999n hj9999v hk9999o hj9999w hk9999p hj9999y hk9999q hj9999z26 hk9999r hj9999z28 (XFr.call (XFr.call (XFr.call (XFr.call XFr.rf hF43 xm0 (xm1 9 rfl (xm1 10 rfl xm0)) xm0) hF_50 (xm1 0 rfl (xm1 1 rfl xm0)) (xm1 0 rfl (xm1 1 rfl (xm1 2 rfl (xm1 3 rfl (xm1 4 rfl (xm1 5 rfl (xm1 6 rfl (xm1 7 rfl (xm1 8 rfl (xm1 9 rfl (xm1 10 rfl xm0))))))))))) xm0) hF66 xm0 (xm1 9 rfl xm0) xm0) hF79 (xm1 0 rfl (xm1 1 rfl xm0)) (xm1 0 rfl (xm1 1 rfl (xm1 2 rfl (xm1 3 rfl (xm1 4 rfl (xm1 5 rfl (xm1 6 rfl (xm1 7 rfl (xm1 8 rfl xm0))))))))) xm0) hF79 bko pp ph lp oq66 oq79 sb z5 t6 c9 t13 c16 I50_0 hm50 c54 c73 c82 ((hF66.2.2 _ xn0).trans ((hF_50.2.2 _ xn0).trans (hF43.2.2 _ xn0))))) (by rw [(e88 : Int32.toInt x88 = (l5_50.toInt + 1))] <;> exact (z_X10_least_5 l5_50.toInt I50_0 c54)) (by rw [(e88 : Int32.toInt x88 = (l5_50.toInt + 1))] <;> exact (z_X10_least_6 l5_50.toInt N50 hm50)) hT hS (lv_sub hl [1, 2, 3, 4, 5, 0] rfl)
              · refine lv_iload hx hb dX10_least_85 (lv_at hl 5 rfl) ?_
                exact x_ri hx hb hr hlk hQ (Nat.le_of_ble_eq_true rfl) (Nat.le_of_ble_eq_true rfl) hS dX10_least_87 G79 ⟨_, rfl, (XFr.call (XFr.call (XFr.call (XFr.call XFr.rf hF43 xm0 (xm1 9 rfl (xm1 10 rfl xm0)) xm0) hF_50 (xm1 0 rfl (xm1 1 rfl xm0)) (xm1 0 rfl (xm1 1 rfl (xm1 2 rfl (xm1 3 rfl (xm1 4 rfl (xm1 5 rfl (xm1 6 rfl (xm1 7 rfl (xm1 8 rfl (xm1 9 rfl (xm1 10 rfl xm0))))))))))) xm0) hF66 xm0 (xm1 9 rfl xm0) xm0) hF79 (xm1 0 rfl (xm1 1 rfl xm0)) (xm1 0 rfl (xm1 1 rfl (xm1 2 rfl (xm1 3 rfl (xm1 4 rfl (xm1 5 rfl (xm1 6 rfl (xm1 7 rfl (xm1 8 rfl xm0))))))))) xm0), (v_X10_least_87_18 (K := K) (F := F) a G G79 G_50 G66 p0 p1 p2 l5_50 x79 x6 x13 N50 ha hk9999 hj9999 hk9999a hj9999a hk9999b hj9999b hk9999c hj9999c hk9999d hj9999d hk9999e hj9999f hk9999f hj9999h hk9999g hj9999j hk9999h hj9999l hk9999i hj9999n hk9999j hj9999p hk9999k hj9999q hk9999l hj9999s hk9999m hj9999u hk9999n hj9999v hk9999o hj9999w hk9999p hj9999y hk9999q hj9999z26 hk9999r hj9999z28 (XFr.call (XFr.call (XFr.call (XFr.call XFr.rf hF43 xm0 (xm1 9 rfl (xm1 10 rfl xm0)) xm0) hF_50 (xm1 0 rfl (xm1 1 rfl xm0)) (xm1 0 rfl (xm1 1 rfl (xm1 2 rfl (xm1 3 rfl (xm1 4 rfl (xm1 5 rfl (xm1 6 rfl (xm1 7 rfl (xm1 8 rfl (xm1 9 rfl (xm1 10 rfl xm0))))))))))) xm0) hF66 xm0 (xm1 9 rfl xm0) xm0) hF79 (xm1 0 rfl (xm1 1 rfl xm0)) (xm1 0 rfl (xm1 1 rfl (xm1 2 rfl (xm1 3 rfl (xm1 4 rfl (xm1 5 rfl (xm1 6 rfl (xm1 7 rfl (xm1 8 rfl xm0))))))))) xm0) hF79 bko pp ph lp oq66 oq79 sb z5 t6 c9 t13 c16 I50_0 hm50 c54 c73 c82 ((hF66.2.2 _ xn0).trans ((hF_50.2.2 _ xn0).trans (hF43.2.2 _ xn0))))⟩ hT
      exact L50 4294967297 (-99) G43 _ _ _ XFr.rf (v_X10_least_48_19 (F := F) G43 a G p0 p2 p1 oq43) (v_X10_least_48_20 (F := F) G43 a oq43a) (v_X10_least_48_21 (F := F) G43 a G x6 p0 p1 oq43 t6 c9) (by rw [((by decide) : Int32.toInt (-99) = (-99 : Int))] <;> exact (v_X10_least_48_22 (K := K) (F := F) a G p0 p1 p2 x6 x13 ha sb z5 t6 c9 t13 c16)) (by rw [((by decide) : Int32.toInt (-99) = (-99 : Int))] <;> exact (by decide)) (by rw [((by decide) : Int32.toInt (-99) = (-99 : Int))] <;> exact (by decide)) hT hS (lv_sub hl [2, 3, 4, 5, 1, 0] rfl)
    · refine lv_ldcw (v := (-2147483648)) hx hb S.2.2.2.1 (S.2.2.2.2 _ (List.mem_cons_of_mem _ kc_X10_274)) dX10_least_19 ?_
      exact x_ri hx hb hr hlk hQ (Nat.le_of_ble_eq_true rfl) (Nat.le_of_ble_eq_true rfl) hS dX10_least_22 G ⟨_, rfl, XFr.rf, (by rw [((by decide) : Int32.toInt (-2147483648) = (-2147483648 : Int))] <;> exact (v_X10_least_22_23 (K := K) (F := F) a G p0 p1 x6 x13 p2 ha sb z5 t6 c9 t13 c16))⟩ hT
theorem v_X11_leans_8_1 {F : Nat → Nat → Nat} (a : Nat) (G2 : XG) (G : XG)
    (hM : RM (G.2.1 (F a 1)) (0))
    (c_G2_F_a_1 : G2.2.1 (F a 1) = G.2.1 (F a 1)) :
    RM (G2.2.1 (F a 1)) 0 := by simp only [c_G2_F_a_1]; assumption
theorem v_X11_leans_25_2 {K : Nat → Nat} {F : Nat → Nat → Nat} (a : Nat) (G : XG) (p0 : Int32) (p1 : Int32) (x8 : Int32) (p2 : Int32)
    (ha : K a = 13)
    (z5 : ¬ (0 ≤ p0.toInt ∧ p0.toInt < 3 ∧ 0 ≤ p1.toInt ∧ p1.toInt < 30) → (cel (mw (G.2.1 (F a 1)) 0) (p0.toInt) (p1.toInt) 0) = -2000)
    (t8 : (x8.toInt = 1 ∧ (cel (mw (G.2.1 (F a 1)) 0) (p0.toInt) (p1.toInt) 0) ≠ -2000) ∨ (x8.toInt = 0 ∧ (cel (mw (G.2.1 (F a 1)) 0) (p0.toInt) (p1.toInt) 0) = -2000))
    (c11 : x8.toInt = 0) :
    (¬ (cel (mw (G.2.1 (F a 1)) 0) p0.toInt p1.toInt 0 ≠ -2000 ∧ 0 ≤ p2.toInt ∧ p2.toInt ≤ 1) ∧ (-1 : Int) = -1) ∨ ((cel (mw (G.2.1 (F a 1)) 0) p0.toInt p1.toInt 0 ≠ -2000 ∧ 0 ≤ p2.toInt ∧ p2.toInt ≤ 1) ∧ ((p2.toInt = 0 ∧ (-1 : Int) = bsI (lnI (G.2.1 (F a 10)) (mw (G.2.1 (F a 1)) 0) p0.toInt p1.toInt) 90) ∨ (p2.toInt = 1 ∧ ∃ g : Int → Int, (-1 : Int) = bsI (lnK g (30 * p0.toInt + p1.toInt)) 90 ∧ ∀ z : Int, 0 ≤ z → z < 90 → (g z = 1 ↔ RC1 (lnM (G.2.1 (F a 10)) (mw (G.2.1 (F a 1)) 0) 12) p0.toInt p1.toInt (z / 30) (z % 30))))) := by
  exact Or.inl ⟨by omega, rfl⟩
theorem v_X11_leans_253_3 {K : Nat → Nat} {F : Nat → Nat → Nat} (a : Nat) (G : XG) (G_32 : XG) (G_91 : XG) (l5_32 : Int32) (p0 : Int32) (p1 : Int32) (l5_91 : Int32) (x8 : Int32) (x18 : Int32) (p2 : Int32) (l4_32 : Int32) (N32 : Nat) (N91 : Nat) (l7_198 : Int32) (l6_198 : Int32) (N198 : Nat)
    (ha : K a = 13)
    (lq : LQ (G.2.1 (F a 10)) (mw (G.2.1 (F a 1)) 0) p0.toInt p1.toInt (aI (G_91.2.1 (F a 51))))
    (lz : l5_91.toInt = 0 → LZ (G.2.1 (F a 10)) (mw (G.2.1 (F a 1)) 0) (aI (G_91.2.1 (F a 51))) 90 0)
    (z5 : ¬ (0 ≤ p0.toInt ∧ p0.toInt < 3 ∧ 0 ≤ p1.toInt ∧ p1.toInt < 30) → (cel (mw (G.2.1 (F a 1)) 0) (p0.toInt) (p1.toInt) 0) = -2000)
    (t8 : (x8.toInt = 1 ∧ (cel (mw (G.2.1 (F a 1)) 0) (p0.toInt) (p1.toInt) 0) ≠ -2000) ∨ (x8.toInt = 0 ∧ (cel (mw (G.2.1 (F a 1)) 0) (p0.toInt) (p1.toInt) 0) = -2000))
    (c11 : ¬ (x8.toInt = 0))
    (t18 : (x18.toInt = 1 ∧ (0 : Int) ≤ p2.toInt ∧ p2.toInt ≤ (1 : Int)) ∨ (x18.toInt = 0 ∧ (p2.toInt < (0 : Int) ∨ (1 : Int) < p2.toInt)))
    (c21 : x18.toInt ≠ 0)
    (z29 : (bsI (lnI (G.2.1 (F a 10)) (mw (G.2.1 (F a 1)) 0) p0.toInt p1.toInt) 0) = 0)
    (I32_0 : 0 ≤ l5_32.toInt ∧ l5_32.toInt ≤ 90)
    (I32_1 : l4_32.toInt = (bsI (lnI (G.2.1 (F a 10)) (mw (G.2.1 (F a 1)) 0) p0.toInt p1.toInt) (l5_32.toInt)))
    (I32_2 : 0 ≤ l4_32.toInt ∧ l4_32.toInt ≤ l5_32.toInt)
    (hm32 : 2147483648 - l5_32.toInt < (((N32) + 1 : Nat) : Int))
    (c36 : (90 : Int) ≤ l5_32.toInt)
    (z88 : 0 ≤ (czI (G_32.2.1 (F a 51))) ∧ (czI (G_32.2.1 (F a 51))) ≤ 90)
    (z88a : l5_32.toInt = 90 → (bsI (lnI (G.2.1 (F a 10)) (mw (G.2.1 (F a 1)) 0) p0.toInt p1.toInt) (l5_32.toInt)) = (bsI (lnI (G.2.1 (F a 10)) (mw (G.2.1 (F a 1)) 0) p0.toInt p1.toInt) 90))
    (I91_0 : (l5_91.toInt = 0 ∨ l5_91.toInt = 1))
    (I91_1 : 0 ≤ (czI (G_91.2.1 (F a 51))) ∧ (czI (G_91.2.1 (F a 51))) ≤ 90)
    (hm91 : 2 * (czI (G_91.2.1 (F a 51))) + l5_91.toInt < (((N91) + 1 : Nat) : Int))
    (c93 : l5_91.toInt = 0)
    (z195 : (bsI (lnK (aI (G_91.2.1 (F a 51))) (30 * p0.toInt + p1.toInt)) 0) = 0)
    (I198_0 : 0 ≤ l7_198.toInt ∧ l7_198.toInt ≤ 90)
    (I198_1 : l6_198.toInt = (bsI (lnK (aI (G_91.2.1 (F a 51))) (30 * p0.toInt + p1.toInt)) (l7_198.toInt)))
    (I198_2 : 0 ≤ l6_198.toInt ∧ l6_198.toInt ≤ l7_198.toInt)
    (hm198 : 2147483648 - l7_198.toInt < (((N198) + 1 : Nat) : Int))
    (c202 : (90 : Int) ≤ l7_198.toInt)
    (z242 : l7_198.toInt = 90 → (bsI (lnK (aI (G_91.2.1 (F a 51))) (30 * p0.toInt + p1.toInt)) (l7_198.toInt)) = (bsI (lnK (aI (G_91.2.1 (F a 51))) (30 * p0.toInt + p1.toInt)) 90))
    (c243 : p2.toInt ≠ 0) :
    (¬ (cel (mw (G.2.1 (F a 1)) 0) p0.toInt p1.toInt 0 ≠ -2000 ∧ 0 ≤ p2.toInt ∧ p2.toInt ≤ 1) ∧ l6_198.toInt = -1) ∨ ((cel (mw (G.2.1 (F a 1)) 0) p0.toInt p1.toInt 0 ≠ -2000 ∧ 0 ≤ p2.toInt ∧ p2.toInt ≤ 1) ∧ ((p2.toInt = 0 ∧ l6_198.toInt = bsI (lnI (G.2.1 (F a 10)) (mw (G.2.1 (F a 1)) 0) p0.toInt p1.toInt) 90) ∨ (p2.toInt = 1 ∧ ∃ g : Int → Int, l6_198.toInt = bsI (lnK g (30 * p0.toInt + p1.toInt)) 90 ∧ ∀ z : Int, 0 ≤ z → z < 90 → (g z = 1 ↔ RC1 (lnM (G.2.1 (F a 10)) (mw (G.2.1 (F a 1)) 0) 12) p0.toInt p1.toInt (z / 30) (z % 30))))) := by
  first
    | exact Or.inr ⟨by omega, Or.inl ⟨by omega, by omega⟩⟩
    | exact Or.inr ⟨by omega, Or.inr ⟨by omega, aI (G_91.2.1 (F a 51)), by omega, LQ_end lq (lz (by omega))⟩⟩
theorem v_X11_leans_253_4 {K : Nat → Nat} {F : Nat → Nat → Nat} (a : Nat) (G : XG) (G_32 : XG) (G_91 : XG) (l5_32 : Int32) (p0 : Int32) (p1 : Int32) (l5_91 : Int32) (x8 : Int32) (x18 : Int32) (p2 : Int32) (l4_32 : Int32) (N32 : Nat) (N91 : Nat) (l7_198 : Int32) (l6_198 : Int32) (N198 : Nat)
    (ha : K a = 13)
    (lq : LQ (G.2.1 (F a 10)) (mw (G.2.1 (F a 1)) 0) p0.toInt p1.toInt (aI (G_91.2.1 (F a 51))))
    (lz : l5_91.toInt = 0 → LZ (G.2.1 (F a 10)) (mw (G.2.1 (F a 1)) 0) (aI (G_91.2.1 (F a 51))) 90 0)
    (z5 : ¬ (0 ≤ p0.toInt ∧ p0.toInt < 3 ∧ 0 ≤ p1.toInt ∧ p1.toInt < 30) → (cel (mw (G.2.1 (F a 1)) 0) (p0.toInt) (p1.toInt) 0) = -2000)
    (t8 : (x8.toInt = 1 ∧ (cel (mw (G.2.1 (F a 1)) 0) (p0.toInt) (p1.toInt) 0) ≠ -2000) ∨ (x8.toInt = 0 ∧ (cel (mw (G.2.1 (F a 1)) 0) (p0.toInt) (p1.toInt) 0) = -2000))
    (c11 : ¬ (x8.toInt = 0))
    (t18 : (x18.toInt = 1 ∧ (0 : Int) ≤ p2.toInt ∧ p2.toInt ≤ (1 : Int)) ∨ (x18.toInt = 0 ∧ (p2.toInt < (0 : Int) ∨ (1 : Int) < p2.toInt)))
    (c21 : x18.toInt ≠ 0)
    (z29 : (bsI (lnI (G.2.1 (F a 10)) (mw (G.2.1 (F a 1)) 0) p0.toInt p1.toInt) 0) = 0)
    (I32_0 : 0 ≤ l5_32.toInt ∧ l5_32.toInt ≤ 90)
    (I32_1 : l4_32.toInt = (bsI (lnI (G.2.1 (F a 10)) (mw (G.2.1 (F a 1)) 0) p0.toInt p1.toInt) (l5_32.toInt)))
    (I32_2 : 0 ≤ l4_32.toInt ∧ l4_32.toInt ≤ l5_32.toInt)
    (hm32 : 2147483648 - l5_32.toInt < (((N32) + 1 : Nat) : Int))
    (c36 : (90 : Int) ≤ l5_32.toInt)
    (z88 : 0 ≤ (czI (G_32.2.1 (F a 51))) ∧ (czI (G_32.2.1 (F a 51))) ≤ 90)
    (z88a : l5_32.toInt = 90 → (bsI (lnI (G.2.1 (F a 10)) (mw (G.2.1 (F a 1)) 0) p0.toInt p1.toInt) (l5_32.toInt)) = (bsI (lnI (G.2.1 (F a 10)) (mw (G.2.1 (F a 1)) 0) p0.toInt p1.toInt) 90))
    (I91_0 : (l5_91.toInt = 0 ∨ l5_91.toInt = 1))
    (I91_1 : 0 ≤ (czI (G_91.2.1 (F a 51))) ∧ (czI (G_91.2.1 (F a 51))) ≤ 90)
    (hm91 : 2 * (czI (G_91.2.1 (F a 51))) + l5_91.toInt < (((N91) + 1 : Nat) : Int))
    (c93 : l5_91.toInt = 0)
    (z195 : (bsI (lnK (aI (G_91.2.1 (F a 51))) (30 * p0.toInt + p1.toInt)) 0) = 0)
    (I198_0 : 0 ≤ l7_198.toInt ∧ l7_198.toInt ≤ 90)
    (I198_1 : l6_198.toInt = (bsI (lnK (aI (G_91.2.1 (F a 51))) (30 * p0.toInt + p1.toInt)) (l7_198.toInt)))
    (I198_2 : 0 ≤ l6_198.toInt ∧ l6_198.toInt ≤ l7_198.toInt)
    (hm198 : 2147483648 - l7_198.toInt < (((N198) + 1 : Nat) : Int))
    (c202 : (90 : Int) ≤ l7_198.toInt)
    (z242 : l7_198.toInt = 90 → (bsI (lnK (aI (G_91.2.1 (F a 51))) (30 * p0.toInt + p1.toInt)) (l7_198.toInt)) = (bsI (lnK (aI (G_91.2.1 (F a 51))) (30 * p0.toInt + p1.toInt)) 90))
    (c243 : ¬ (p2.toInt ≠ 0)) :
    (¬ (cel (mw (G.2.1 (F a 1)) 0) p0.toInt p1.toInt 0 ≠ -2000 ∧ 0 ≤ p2.toInt ∧ p2.toInt ≤ 1) ∧ l4_32.toInt = -1) ∨ ((cel (mw (G.2.1 (F a 1)) 0) p0.toInt p1.toInt 0 ≠ -2000 ∧ 0 ≤ p2.toInt ∧ p2.toInt ≤ 1) ∧ ((p2.toInt = 0 ∧ l4_32.toInt = bsI (lnI (G.2.1 (F a 10)) (mw (G.2.1 (F a 1)) 0) p0.toInt p1.toInt) 90) ∨ (p2.toInt = 1 ∧ ∃ g : Int → Int, l4_32.toInt = bsI (lnK g (30 * p0.toInt + p1.toInt)) 90 ∧ ∀ z : Int, 0 ≤ z → z < 90 → (g z = 1 ↔ RC1 (lnM (G.2.1 (F a 10)) (mw (G.2.1 (F a 1)) 0) 12) p0.toInt p1.toInt (z / 30) (z % 30))))) := by
  first
    | exact Or.inr ⟨by omega, Or.inl ⟨by omega, by omega⟩⟩
    | exact Or.inr ⟨by omega, Or.inr ⟨by omega, aI (G_91.2.1 (F a 51)), by omega, LQ_end lq (lz (by omega))⟩⟩
theorem v_X11_leans_189_5 {F : Nat → Nat → Nat} (a : Nat) (G : XG) (G_102 : XG) (p0 : Int32) (p1 : Int32)
    (lq : LQ (G.2.1 (F a 10)) (mw (G.2.1 (F a 1)) 0) p0.toInt p1.toInt (aI (G_102.2.1 (F a 51)))) :
    LQ (G.2.1 (F a 10)) (mw (G.2.1 (F a 1)) 0) p0.toInt p1.toInt (aI (G_102.2.1 (F a 51))) := by
  exact lq
theorem v_X11_leans_189_6 {K : Nat → Nat} {F : Nat → Nat → Nat} (a : Nat) (G : XG) (G_32 : XG) (G_91 : XG) (G_102 : XG) (l5_32 : Int32) (p0 : Int32) (p1 : Int32) (l5_102 : Int32) (l6_102 : Int32) (x8 : Int32) (x18 : Int32) (p2 : Int32) (l4_32 : Int32) (N32 : Nat) (l5_91 : Int32) (N91 : Nat) (N102 : Nat)
    (ha : K a = 13)
    (lq : LQ (G.2.1 (F a 10)) (mw (G.2.1 (F a 1)) 0) p0.toInt p1.toInt (aI (G_102.2.1 (F a 51))))
    (lz : l5_102.toInt = 0 → LZ (G.2.1 (F a 10)) (mw (G.2.1 (F a 1)) 0) (aI (G_102.2.1 (F a 51))) l6_102.toInt 0)
    (z5 : ¬ (0 ≤ p0.toInt ∧ p0.toInt < 3 ∧ 0 ≤ p1.toInt ∧ p1.toInt < 30) → (cel (mw (G.2.1 (F a 1)) 0) (p0.toInt) (p1.toInt) 0) = -2000)
    (t8 : (x8.toInt = 1 ∧ (cel (mw (G.2.1 (F a 1)) 0) (p0.toInt) (p1.toInt) 0) ≠ -2000) ∨ (x8.toInt = 0 ∧ (cel (mw (G.2.1 (F a 1)) 0) (p0.toInt) (p1.toInt) 0) = -2000))
    (c11 : ¬ (x8.toInt = 0))
    (t18 : (x18.toInt = 1 ∧ (0 : Int) ≤ p2.toInt ∧ p2.toInt ≤ (1 : Int)) ∨ (x18.toInt = 0 ∧ (p2.toInt < (0 : Int) ∨ (1 : Int) < p2.toInt)))
    (c21 : x18.toInt ≠ 0)
    (z29 : (bsI (lnI (G.2.1 (F a 10)) (mw (G.2.1 (F a 1)) 0) p0.toInt p1.toInt) 0) = 0)
    (I32_0 : 0 ≤ l5_32.toInt ∧ l5_32.toInt ≤ 90)
    (I32_1 : l4_32.toInt = (bsI (lnI (G.2.1 (F a 10)) (mw (G.2.1 (F a 1)) 0) p0.toInt p1.toInt) (l5_32.toInt)))
    (I32_2 : 0 ≤ l4_32.toInt ∧ l4_32.toInt ≤ l5_32.toInt)
    (hm32 : 2147483648 - l5_32.toInt < (((N32) + 1 : Nat) : Int))
    (c36 : (90 : Int) ≤ l5_32.toInt)
    (z88 : 0 ≤ (czI (G_32.2.1 (F a 51))) ∧ (czI (G_32.2.1 (F a 51))) ≤ 90)
    (z88a : l5_32.toInt = 90 → (bsI (lnI (G.2.1 (F a 10)) (mw (G.2.1 (F a 1)) 0) p0.toInt p1.toInt) (l5_32.toInt)) = (bsI (lnI (G.2.1 (F a 10)) (mw (G.2.1 (F a 1)) 0) p0.toInt p1.toInt) 90))
    (I91_0 : (l5_91.toInt = 0 ∨ l5_91.toInt = 1))
    (I91_1 : 0 ≤ (czI (G_91.2.1 (F a 51))) ∧ (czI (G_91.2.1 (F a 51))) ≤ 90)
    (hm91 : 2 * (czI (G_91.2.1 (F a 51))) + l5_91.toInt < (((N91) + 1 : Nat) : Int))
    (c93 : ¬ (l5_91.toInt = 0))
    (I102_0 : 0 ≤ l6_102.toInt ∧ l6_102.toInt ≤ 90)
    (I102_1 : (l5_102.toInt = 0 ∨ l5_102.toInt = 1) ∧ (czI (G_102.2.1 (F a 51))) ≤ (czI (G_91.2.1 (F a 51))) ∧ (l5_102.toInt = 1 → (czI (G_102.2.1 (F a 51))) + 1 ≤ (czI (G_91.2.1 (F a 51)))))
    (hm102 : 100 - l6_102.toInt < (((N102) + 1 : Nat) : Int))
    (c106 : (90 : Int) ≤ l6_102.toInt)
    (z189 : 0 ≤ (czI (G_102.2.1 (F a 51))) ∧ (czI (G_102.2.1 (F a 51))) ≤ 90) :
    l5_102.toInt = 0 → LZ (G.2.1 (F a 10)) (mw (G.2.1 (F a 1)) 0) (aI (G_102.2.1 (F a 51))) 90 0 := by
  intro h
  have e : l6_102.toInt = 90 := by omega
  have h2 := lz (by omega)
  rw [e] at h2
  exact h2
theorem v_X11_leans_186_7 {F : Nat → Nat → Nat} (a : Nat) (G : XG) (G_112 : XG) (p0 : Int32) (p1 : Int32)
    (lq : LQ (G.2.1 (F a 10)) (mw (G.2.1 (F a 1)) 0) p0.toInt p1.toInt (aI (G_112.2.1 (F a 51)))) :
    LQ (G.2.1 (F a 10)) (mw (G.2.1 (F a 1)) 0) p0.toInt p1.toInt (aI (G_112.2.1 (F a 51))) := by
  exact lq
theorem v_X11_leans_186_8 {K : Nat → Nat} {F : Nat → Nat → Nat} (a : Nat) (G : XG) (G_32 : XG) (G_91 : XG) (G_102 : XG) (G_112 : XG) (l5_32 : Int32) (p0 : Int32) (p1 : Int32) (l5_112 : Int32) (l6_102 : Int32) (l7_112 : Int32) (x8 : Int32) (x18 : Int32) (p2 : Int32) (l4_32 : Int32) (N32 : Nat) (l5_91 : Int32) (N91 : Nat) (l5_102 : Int32) (N102 : Nat) (N112 : Nat)
    (ha : K a = 13)
    (lq : LQ (G.2.1 (F a 10)) (mw (G.2.1 (F a 1)) 0) p0.toInt p1.toInt (aI (G_112.2.1 (F a 51))))
    (lz : l5_112.toInt = 0 → LZ (G.2.1 (F a 10)) (mw (G.2.1 (F a 1)) 0) (aI (G_112.2.1 (F a 51))) l6_102.toInt l7_112.toInt)
    (z5 : ¬ (0 ≤ p0.toInt ∧ p0.toInt < 3 ∧ 0 ≤ p1.toInt ∧ p1.toInt < 30) → (cel (mw (G.2.1 (F a 1)) 0) (p0.toInt) (p1.toInt) 0) = -2000)
    (t8 : (x8.toInt = 1 ∧ (cel (mw (G.2.1 (F a 1)) 0) (p0.toInt) (p1.toInt) 0) ≠ -2000) ∨ (x8.toInt = 0 ∧ (cel (mw (G.2.1 (F a 1)) 0) (p0.toInt) (p1.toInt) 0) = -2000))
    (c11 : ¬ (x8.toInt = 0))
    (t18 : (x18.toInt = 1 ∧ (0 : Int) ≤ p2.toInt ∧ p2.toInt ≤ (1 : Int)) ∨ (x18.toInt = 0 ∧ (p2.toInt < (0 : Int) ∨ (1 : Int) < p2.toInt)))
    (c21 : x18.toInt ≠ 0)
    (z29 : (bsI (lnI (G.2.1 (F a 10)) (mw (G.2.1 (F a 1)) 0) p0.toInt p1.toInt) 0) = 0)
    (I32_0 : 0 ≤ l5_32.toInt ∧ l5_32.toInt ≤ 90)
    (I32_1 : l4_32.toInt = (bsI (lnI (G.2.1 (F a 10)) (mw (G.2.1 (F a 1)) 0) p0.toInt p1.toInt) (l5_32.toInt)))
    (I32_2 : 0 ≤ l4_32.toInt ∧ l4_32.toInt ≤ l5_32.toInt)
    (hm32 : 2147483648 - l5_32.toInt < (((N32) + 1 : Nat) : Int))
    (c36 : (90 : Int) ≤ l5_32.toInt)
    (z88 : 0 ≤ (czI (G_32.2.1 (F a 51))) ∧ (czI (G_32.2.1 (F a 51))) ≤ 90)
    (z88a : l5_32.toInt = 90 → (bsI (lnI (G.2.1 (F a 10)) (mw (G.2.1 (F a 1)) 0) p0.toInt p1.toInt) (l5_32.toInt)) = (bsI (lnI (G.2.1 (F a 10)) (mw (G.2.1 (F a 1)) 0) p0.toInt p1.toInt) 90))
    (I91_0 : (l5_91.toInt = 0 ∨ l5_91.toInt = 1))
    (I91_1 : 0 ≤ (czI (G_91.2.1 (F a 51))) ∧ (czI (G_91.2.1 (F a 51))) ≤ 90)
    (hm91 : 2 * (czI (G_91.2.1 (F a 51))) + l5_91.toInt < (((N91) + 1 : Nat) : Int))
    (c93 : ¬ (l5_91.toInt = 0))
    (I102_0 : 0 ≤ l6_102.toInt ∧ l6_102.toInt ≤ 90)
    (I102_1 : (l5_102.toInt = 0 ∨ l5_102.toInt = 1) ∧ (czI (G_102.2.1 (F a 51))) ≤ (czI (G_91.2.1 (F a 51))) ∧ (l5_102.toInt = 1 → (czI (G_102.2.1 (F a 51))) + 1 ≤ (czI (G_91.2.1 (F a 51)))))
    (hm102 : 100 - l6_102.toInt < (((N102) + 1 : Nat) : Int))
    (c106 : ¬ ((90 : Int) ≤ l6_102.toInt))
    (I112_0 : 0 ≤ l7_112.toInt ∧ l7_112.toInt ≤ 90)
    (I112_1 : (l5_112.toInt = 0 ∨ l5_112.toInt = 1) ∧ (czI (G_112.2.1 (F a 51))) ≤ (czI (G_91.2.1 (F a 51))) ∧ (l5_112.toInt = 1 → (czI (G_112.2.1 (F a 51))) + 1 ≤ (czI (G_91.2.1 (F a 51)))))
    (hm112 : 100 - l7_112.toInt < (((N112) + 1 : Nat) : Int))
    (c116 : (90 : Int) ≤ l7_112.toInt) :
    l5_112.toInt = 0 → LZ (G.2.1 (F a 10)) (mw (G.2.1 (F a 1)) 0) (aI (G_112.2.1 (F a 51))) (l6_102.toInt + 1) 0 := by
  intro h
  first
    | exact LZ_row (lz (by omega)) (by omega)
    | exact LZ_one (lz (by omega)).1 (by omega)
theorem v_X11_leans_186_9 {F : Nat → Nat → Nat} (a : Nat) (G : XG) (G_112 : XG) (p0 : Int32) (p1 : Int32)
    (lq : LQ (G.2.1 (F a 10)) (mw (G.2.1 (F a 1)) 0) p0.toInt p1.toInt (aI (G_112.2.1 (F a 51)))) :
    LQ (G.2.1 (F a 10)) (mw (G.2.1 (F a 1)) 0) p0.toInt p1.toInt (aI (G_112.2.1 (F a 51))) := by
  exact lq
theorem v_X11_leans_186_10 {K : Nat → Nat} {F : Nat → Nat → Nat} (a : Nat) (G : XG) (G_32 : XG) (G_91 : XG) (G_102 : XG) (G_112 : XG) (l5_32 : Int32) (p0 : Int32) (p1 : Int32) (l5_112 : Int32) (l6_102 : Int32) (l7_112 : Int32) (x8 : Int32) (x18 : Int32) (p2 : Int32) (l4_32 : Int32) (N32 : Nat) (l5_91 : Int32) (N91 : Nat) (l5_102 : Int32) (N102 : Nat) (N112 : Nat)
    (ha : K a = 13)
    (lq : LQ (G.2.1 (F a 10)) (mw (G.2.1 (F a 1)) 0) p0.toInt p1.toInt (aI (G_112.2.1 (F a 51))))
    (lz : l5_112.toInt = 0 → LZ (G.2.1 (F a 10)) (mw (G.2.1 (F a 1)) 0) (aI (G_112.2.1 (F a 51))) l6_102.toInt l7_112.toInt)
    (z5 : ¬ (0 ≤ p0.toInt ∧ p0.toInt < 3 ∧ 0 ≤ p1.toInt ∧ p1.toInt < 30) → (cel (mw (G.2.1 (F a 1)) 0) (p0.toInt) (p1.toInt) 0) = -2000)
    (t8 : (x8.toInt = 1 ∧ (cel (mw (G.2.1 (F a 1)) 0) (p0.toInt) (p1.toInt) 0) ≠ -2000) ∨ (x8.toInt = 0 ∧ (cel (mw (G.2.1 (F a 1)) 0) (p0.toInt) (p1.toInt) 0) = -2000))
    (c11 : ¬ (x8.toInt = 0))
    (t18 : (x18.toInt = 1 ∧ (0 : Int) ≤ p2.toInt ∧ p2.toInt ≤ (1 : Int)) ∨ (x18.toInt = 0 ∧ (p2.toInt < (0 : Int) ∨ (1 : Int) < p2.toInt)))
    (c21 : x18.toInt ≠ 0)
    (z29 : (bsI (lnI (G.2.1 (F a 10)) (mw (G.2.1 (F a 1)) 0) p0.toInt p1.toInt) 0) = 0)
    (I32_0 : 0 ≤ l5_32.toInt ∧ l5_32.toInt ≤ 90)
    (I32_1 : l4_32.toInt = (bsI (lnI (G.2.1 (F a 10)) (mw (G.2.1 (F a 1)) 0) p0.toInt p1.toInt) (l5_32.toInt)))
    (I32_2 : 0 ≤ l4_32.toInt ∧ l4_32.toInt ≤ l5_32.toInt)
    (hm32 : 2147483648 - l5_32.toInt < (((N32) + 1 : Nat) : Int))
    (c36 : (90 : Int) ≤ l5_32.toInt)
    (z88 : 0 ≤ (czI (G_32.2.1 (F a 51))) ∧ (czI (G_32.2.1 (F a 51))) ≤ 90)
    (z88a : l5_32.toInt = 90 → (bsI (lnI (G.2.1 (F a 10)) (mw (G.2.1 (F a 1)) 0) p0.toInt p1.toInt) (l5_32.toInt)) = (bsI (lnI (G.2.1 (F a 10)) (mw (G.2.1 (F a 1)) 0) p0.toInt p1.toInt) 90))
    (I91_0 : (l5_91.toInt = 0 ∨ l5_91.toInt = 1))
    (I91_1 : 0 ≤ (czI (G_91.2.1 (F a 51))) ∧ (czI (G_91.2.1 (F a 51))) ≤ 90)
    (hm91 : 2 * (czI (G_91.2.1 (F a 51))) + l5_91.toInt < (((N91) + 1 : Nat) : Int))
    (c93 : ¬ (l5_91.toInt = 0))
    (I102_0 : 0 ≤ l6_102.toInt ∧ l6_102.toInt ≤ 90)
    (I102_1 : (l5_102.toInt = 0 ∨ l5_102.toInt = 1) ∧ (czI (G_102.2.1 (F a 51))) ≤ (czI (G_91.2.1 (F a 51))) ∧ (l5_102.toInt = 1 → (czI (G_102.2.1 (F a 51))) + 1 ≤ (czI (G_91.2.1 (F a 51)))))
    (hm102 : 100 - l6_102.toInt < (((N102) + 1 : Nat) : Int))
    (c106 : ¬ ((90 : Int) ≤ l6_102.toInt))
    (I112_0 : 0 ≤ l7_112.toInt ∧ l7_112.toInt ≤ 90)
    (I112_1 : (l5_112.toInt = 0 ∨ l5_112.toInt = 1) ∧ (czI (G_112.2.1 (F a 51))) ≤ (czI (G_91.2.1 (F a 51))) ∧ (l5_112.toInt = 1 → (czI (G_112.2.1 (F a 51))) + 1 ≤ (czI (G_91.2.1 (F a 51)))))
    (hm112 : 100 - l7_112.toInt < (((N112) + 1 : Nat) : Int))
    (c116 : ¬ ((90 : Int) ≤ l7_112.toInt))
    (f44 : (aI (G_112.2.1 (F a 51)) (l6_102.toInt)) = 0 ∨ (aI (G_112.2.1 (F a 51)) (l6_102.toInt)) = 1)
    (c126 : (aI (G_112.2.1 (F a 51)) (l6_102.toInt)) ≠ 0) :
    l5_112.toInt = 0 → LZ (G.2.1 (F a 10)) (mw (G.2.1 (F a 1)) 0) (aI (G_112.2.1 (F a 51))) (l6_102.toInt + 1) 0 := by
  intro h
  first
    | exact LZ_row (lz (by omega)) (by omega)
    | exact LZ_one (lz (by omega)).1 (by omega)
theorem v_X11_leans_180_11 {K : Nat → Nat} {F : Nat → Nat → Nat} (a : Nat) (G : XG) (G_32 : XG) (G_91 : XG) (G_102 : XG) (G_112 : XG) (l5_32 : Int32) (p0 : Int32) (p1 : Int32) (l5_112 : Int32) (l6_102 : Int32) (l7_112 : Int32) (x8 : Int32) (x18 : Int32) (p2 : Int32) (l4_32 : Int32) (N32 : Nat) (l5_91 : Int32) (N91 : Nat) (l5_102 : Int32) (N102 : Nat) (N112 : Nat)
    (ha : K a = 13)
    (lq : LQ (G.2.1 (F a 10)) (mw (G.2.1 (F a 1)) 0) p0.toInt p1.toInt (aI (G_112.2.1 (F a 51))))
    (lz : l5_112.toInt = 0 → LZ (G.2.1 (F a 10)) (mw (G.2.1 (F a 1)) 0) (aI (G_112.2.1 (F a 51))) l6_102.toInt l7_112.toInt)
    (z5 : ¬ (0 ≤ p0.toInt ∧ p0.toInt < 3 ∧ 0 ≤ p1.toInt ∧ p1.toInt < 30) → (cel (mw (G.2.1 (F a 1)) 0) (p0.toInt) (p1.toInt) 0) = -2000)
    (t8 : (x8.toInt = 1 ∧ (cel (mw (G.2.1 (F a 1)) 0) (p0.toInt) (p1.toInt) 0) ≠ -2000) ∨ (x8.toInt = 0 ∧ (cel (mw (G.2.1 (F a 1)) 0) (p0.toInt) (p1.toInt) 0) = -2000))
    (c11 : ¬ (x8.toInt = 0))
    (t18 : (x18.toInt = 1 ∧ (0 : Int) ≤ p2.toInt ∧ p2.toInt ≤ (1 : Int)) ∨ (x18.toInt = 0 ∧ (p2.toInt < (0 : Int) ∨ (1 : Int) < p2.toInt)))
    (c21 : x18.toInt ≠ 0)
    (z29 : (bsI (lnI (G.2.1 (F a 10)) (mw (G.2.1 (F a 1)) 0) p0.toInt p1.toInt) 0) = 0)
    (I32_0 : 0 ≤ l5_32.toInt ∧ l5_32.toInt ≤ 90)
    (I32_1 : l4_32.toInt = (bsI (lnI (G.2.1 (F a 10)) (mw (G.2.1 (F a 1)) 0) p0.toInt p1.toInt) (l5_32.toInt)))
    (I32_2 : 0 ≤ l4_32.toInt ∧ l4_32.toInt ≤ l5_32.toInt)
    (hm32 : 2147483648 - l5_32.toInt < (((N32) + 1 : Nat) : Int))
    (c36 : (90 : Int) ≤ l5_32.toInt)
    (z88 : 0 ≤ (czI (G_32.2.1 (F a 51))) ∧ (czI (G_32.2.1 (F a 51))) ≤ 90)
    (z88a : l5_32.toInt = 90 → (bsI (lnI (G.2.1 (F a 10)) (mw (G.2.1 (F a 1)) 0) p0.toInt p1.toInt) (l5_32.toInt)) = (bsI (lnI (G.2.1 (F a 10)) (mw (G.2.1 (F a 1)) 0) p0.toInt p1.toInt) 90))
    (I91_0 : (l5_91.toInt = 0 ∨ l5_91.toInt = 1))
    (I91_1 : 0 ≤ (czI (G_91.2.1 (F a 51))) ∧ (czI (G_91.2.1 (F a 51))) ≤ 90)
    (hm91 : 2 * (czI (G_91.2.1 (F a 51))) + l5_91.toInt < (((N91) + 1 : Nat) : Int))
    (c93 : ¬ (l5_91.toInt = 0))
    (I102_0 : 0 ≤ l6_102.toInt ∧ l6_102.toInt ≤ 90)
    (I102_1 : (l5_102.toInt = 0 ∨ l5_102.toInt = 1) ∧ (czI (G_102.2.1 (F a 51))) ≤ (czI (G_91.2.1 (F a 51))) ∧ (l5_102.toInt = 1 → (czI (G_102.2.1 (F a 51))) + 1 ≤ (czI (G_91.2.1 (F a 51)))))
    (hm102 : 100 - l6_102.toInt < (((N102) + 1 : Nat) : Int))
    (c106 : ¬ ((90 : Int) ≤ l6_102.toInt))
    (I112_0 : 0 ≤ l7_112.toInt ∧ l7_112.toInt ≤ 90)
    (I112_1 : (l5_112.toInt = 0 ∨ l5_112.toInt = 1) ∧ (czI (G_112.2.1 (F a 51))) ≤ (czI (G_91.2.1 (F a 51))) ∧ (l5_112.toInt = 1 → (czI (G_112.2.1 (F a 51))) + 1 ≤ (czI (G_91.2.1 (F a 51)))))
    (hm112 : 100 - l7_112.toInt < (((N112) + 1 : Nat) : Int))
    (c116 : ¬ ((90 : Int) ≤ l7_112.toInt))
    (f45 : (aI (G_112.2.1 (F a 51)) (l6_102.toInt)) = 0 ∨ (aI (G_112.2.1 (F a 51)) (l6_102.toInt)) = 1)
    (c126 : ¬ ((aI (G_112.2.1 (F a 51)) (l6_102.toInt)) ≠ 0))
    (f47 : (aI (G_112.2.1 (F a 51)) (l7_112.toInt)) = 0 ∨ (aI (G_112.2.1 (F a 51)) (l7_112.toInt)) = 1)
    (c136 : (aI (G_112.2.1 (F a 51)) (l7_112.toInt)) = 0) :
    LQ (G.2.1 (F a 10)) (mw (G.2.1 (F a 1)) 0) p0.toInt p1.toInt (aI (G_112.2.1 (F a 51))) := by
  first
    | exact lq
    | (have e144 : x144.toInt = l6_102.toInt / 30 := by omega
       have e149 : x149.toInt = l6_102.toInt % 30 := by omega
       have e154 : x154.toInt = l7_112.toInt / 30 := by omega
       have e159 : x159.toInt = l7_112.toInt % 30 := by omega
       rw [e144, e149, e154, e159] at oq160
       exact LQ_set lq ⟨by omega, by omega⟩ ⟨by omega, by omega⟩ (oq160.resolve_right (fun h => by omega)).2 (by omega) (aI_pu hG173 rfl rfl (show Int32.toInt 1 = 1 by decide) (by omega)))
theorem v_X11_leans_180_12 {K : Nat → Nat} {F : Nat → Nat → Nat} (a : Nat) (G : XG) (G_32 : XG) (G_91 : XG) (G_102 : XG) (G_112 : XG) (l5_32 : Int32) (p0 : Int32) (p1 : Int32) (l5_112 : Int32) (l6_102 : Int32) (l7_112 : Int32) (x8 : Int32) (x18 : Int32) (p2 : Int32) (l4_32 : Int32) (N32 : Nat) (l5_91 : Int32) (N91 : Nat) (l5_102 : Int32) (N102 : Nat) (N112 : Nat)
    (ha : K a = 13)
    (lq : LQ (G.2.1 (F a 10)) (mw (G.2.1 (F a 1)) 0) p0.toInt p1.toInt (aI (G_112.2.1 (F a 51))))
    (lz : l5_112.toInt = 0 → LZ (G.2.1 (F a 10)) (mw (G.2.1 (F a 1)) 0) (aI (G_112.2.1 (F a 51))) l6_102.toInt l7_112.toInt)
    (z5 : ¬ (0 ≤ p0.toInt ∧ p0.toInt < 3 ∧ 0 ≤ p1.toInt ∧ p1.toInt < 30) → (cel (mw (G.2.1 (F a 1)) 0) (p0.toInt) (p1.toInt) 0) = -2000)
    (t8 : (x8.toInt = 1 ∧ (cel (mw (G.2.1 (F a 1)) 0) (p0.toInt) (p1.toInt) 0) ≠ -2000) ∨ (x8.toInt = 0 ∧ (cel (mw (G.2.1 (F a 1)) 0) (p0.toInt) (p1.toInt) 0) = -2000))
    (c11 : ¬ (x8.toInt = 0))
    (t18 : (x18.toInt = 1 ∧ (0 : Int) ≤ p2.toInt ∧ p2.toInt ≤ (1 : Int)) ∨ (x18.toInt = 0 ∧ (p2.toInt < (0 : Int) ∨ (1 : Int) < p2.toInt)))
    (c21 : x18.toInt ≠ 0)
    (z29 : (bsI (lnI (G.2.1 (F a 10)) (mw (G.2.1 (F a 1)) 0) p0.toInt p1.toInt) 0) = 0)
    (I32_0 : 0 ≤ l5_32.toInt ∧ l5_32.toInt ≤ 90)
    (I32_1 : l4_32.toInt = (bsI (lnI (G.2.1 (F a 10)) (mw (G.2.1 (F a 1)) 0) p0.toInt p1.toInt) (l5_32.toInt)))
    (I32_2 : 0 ≤ l4_32.toInt ∧ l4_32.toInt ≤ l5_32.toInt)
    (hm32 : 2147483648 - l5_32.toInt < (((N32) + 1 : Nat) : Int))
    (c36 : (90 : Int) ≤ l5_32.toInt)
    (z88 : 0 ≤ (czI (G_32.2.1 (F a 51))) ∧ (czI (G_32.2.1 (F a 51))) ≤ 90)
    (z88a : l5_32.toInt = 90 → (bsI (lnI (G.2.1 (F a 10)) (mw (G.2.1 (F a 1)) 0) p0.toInt p1.toInt) (l5_32.toInt)) = (bsI (lnI (G.2.1 (F a 10)) (mw (G.2.1 (F a 1)) 0) p0.toInt p1.toInt) 90))
    (I91_0 : (l5_91.toInt = 0 ∨ l5_91.toInt = 1))
    (I91_1 : 0 ≤ (czI (G_91.2.1 (F a 51))) ∧ (czI (G_91.2.1 (F a 51))) ≤ 90)
    (hm91 : 2 * (czI (G_91.2.1 (F a 51))) + l5_91.toInt < (((N91) + 1 : Nat) : Int))
    (c93 : ¬ (l5_91.toInt = 0))
    (I102_0 : 0 ≤ l6_102.toInt ∧ l6_102.toInt ≤ 90)
    (I102_1 : (l5_102.toInt = 0 ∨ l5_102.toInt = 1) ∧ (czI (G_102.2.1 (F a 51))) ≤ (czI (G_91.2.1 (F a 51))) ∧ (l5_102.toInt = 1 → (czI (G_102.2.1 (F a 51))) + 1 ≤ (czI (G_91.2.1 (F a 51)))))
    (hm102 : 100 - l6_102.toInt < (((N102) + 1 : Nat) : Int))
    (c106 : ¬ ((90 : Int) ≤ l6_102.toInt))
    (I112_0 : 0 ≤ l7_112.toInt ∧ l7_112.toInt ≤ 90)
    (I112_1 : (l5_112.toInt = 0 ∨ l5_112.toInt = 1) ∧ (czI (G_112.2.1 (F a 51))) ≤ (czI (G_91.2.1 (F a 51))) ∧ (l5_112.toInt = 1 → (czI (G_112.2.1 (F a 51))) + 1 ≤ (czI (G_91.2.1 (F a 51)))))
    (hm112 : 100 - l7_112.toInt < (((N112) + 1 : Nat) : Int))
    (c116 : ¬ ((90 : Int) ≤ l7_112.toInt))
    (f45 : (aI (G_112.2.1 (F a 51)) (l6_102.toInt)) = 0 ∨ (aI (G_112.2.1 (F a 51)) (l6_102.toInt)) = 1)
    (c126 : ¬ ((aI (G_112.2.1 (F a 51)) (l6_102.toInt)) ≠ 0))
    (f47 : (aI (G_112.2.1 (F a 51)) (l7_112.toInt)) = 0 ∨ (aI (G_112.2.1 (F a 51)) (l7_112.toInt)) = 1)
    (c136 : (aI (G_112.2.1 (F a 51)) (l7_112.toInt)) = 0) :
    l5_112.toInt = 0 → LZ (G.2.1 (F a 10)) (mw (G.2.1 (F a 1)) 0) (aI (G_112.2.1 (F a 51))) l6_102.toInt (l7_112.toInt + 1) := by
  intro h
  first
    | exact absurd h (by decide)
    | exact LZ_skip (lz (by omega)) (Or.inl (by omega))
    | (have e144 : x144.toInt = l6_102.toInt / 30 := by omega
       have e149 : x149.toInt = l6_102.toInt % 30 := by omega
       have e154 : x154.toInt = l7_112.toInt / 30 := by omega
       have e159 : x159.toInt = l7_112.toInt % 30 := by omega
       rw [e144, e149, e154, e159] at oq160
       exact LZ_skip (lz (by omega)) (Or.inr (oq160.resolve_left (fun h => by omega)).2))
theorem v_X11_leans_160_13 {F : Nat → Nat → Nat} (a : Nat) (G : XG) (G_112 : XG)
    (hR : RV (G.2.1 (F a 10)))
    (c_G_112_F_a_10 : G_112.2.1 (F a 10) = G.2.1 (F a 10)) :
    RV (G_112.2.1 (F a 10)) := by simp only [c_G_112_F_a_10]; assumption
theorem v_X11_leans_160_14 {F : Nat → Nat → Nat} (a : Nat) (G : XG) (G_112 : XG)
    (hM : RM (G.2.1 (F a 1)) (0))
    (c_G_112_F_a_1 : G_112.2.1 (F a 1) = G.2.1 (F a 1)) :
    RM (G_112.2.1 (F a 1)) (0) := by simp only [c_G_112_F_a_1]; assumption
theorem v_X11_leans_180_15 {K : Nat → Nat} {F : Nat → Nat → Nat} (a : Nat) (G : XG) (G_32 : XG) (G_91 : XG) (G_102 : XG) (G_112 : XG) (l5_32 : Int32) (p0 : Int32) (p1 : Int32) (l5_112 : Int32) (l6_102 : Int32) (l7_112 : Int32) (x160 : Int32) (x144 : Int32) (x149 : Int32) (x154 : Int32) (x159 : Int32) (x8 : Int32) (x18 : Int32) (p2 : Int32) (l4_32 : Int32) (N32 : Nat) (l5_91 : Int32) (N91 : Nat) (l5_102 : Int32) (N102 : Nat) (N112 : Nat)
    (ha : K a = 13)
    (lq : LQ (G.2.1 (F a 10)) (mw (G.2.1 (F a 1)) 0) p0.toInt p1.toInt (aI (G_112.2.1 (F a 51))))
    (lz : l5_112.toInt = 0 → LZ (G.2.1 (F a 10)) (mw (G.2.1 (F a 1)) 0) (aI (G_112.2.1 (F a 51))) l6_102.toInt l7_112.toInt)
    (oq160 : (x160.toInt = 1 ∧ lnM (G.2.1 (F a 10)) (mw (G.2.1 (F a 1)) 0) 12 x144.toInt x149.toInt x154.toInt x159.toInt) ∨ (x160.toInt = 0 ∧ ¬ lnM (G.2.1 (F a 10)) (mw (G.2.1 (F a 1)) 0) 12 x144.toInt x149.toInt x154.toInt x159.toInt))
    (z5 : ¬ (0 ≤ p0.toInt ∧ p0.toInt < 3 ∧ 0 ≤ p1.toInt ∧ p1.toInt < 30) → (cel (mw (G.2.1 (F a 1)) 0) (p0.toInt) (p1.toInt) 0) = -2000)
    (t8 : (x8.toInt = 1 ∧ (cel (mw (G.2.1 (F a 1)) 0) (p0.toInt) (p1.toInt) 0) ≠ -2000) ∨ (x8.toInt = 0 ∧ (cel (mw (G.2.1 (F a 1)) 0) (p0.toInt) (p1.toInt) 0) = -2000))
    (c11 : ¬ (x8.toInt = 0))
    (t18 : (x18.toInt = 1 ∧ (0 : Int) ≤ p2.toInt ∧ p2.toInt ≤ (1 : Int)) ∨ (x18.toInt = 0 ∧ (p2.toInt < (0 : Int) ∨ (1 : Int) < p2.toInt)))
    (c21 : x18.toInt ≠ 0)
    (z29 : (bsI (lnI (G.2.1 (F a 10)) (mw (G.2.1 (F a 1)) 0) p0.toInt p1.toInt) 0) = 0)
    (I32_0 : 0 ≤ l5_32.toInt ∧ l5_32.toInt ≤ 90)
    (I32_1 : l4_32.toInt = (bsI (lnI (G.2.1 (F a 10)) (mw (G.2.1 (F a 1)) 0) p0.toInt p1.toInt) (l5_32.toInt)))
    (I32_2 : 0 ≤ l4_32.toInt ∧ l4_32.toInt ≤ l5_32.toInt)
    (hm32 : 2147483648 - l5_32.toInt < (((N32) + 1 : Nat) : Int))
    (c36 : (90 : Int) ≤ l5_32.toInt)
    (z88 : 0 ≤ (czI (G_32.2.1 (F a 51))) ∧ (czI (G_32.2.1 (F a 51))) ≤ 90)
    (z88a : l5_32.toInt = 90 → (bsI (lnI (G.2.1 (F a 10)) (mw (G.2.1 (F a 1)) 0) p0.toInt p1.toInt) (l5_32.toInt)) = (bsI (lnI (G.2.1 (F a 10)) (mw (G.2.1 (F a 1)) 0) p0.toInt p1.toInt) 90))
    (I91_0 : (l5_91.toInt = 0 ∨ l5_91.toInt = 1))
    (I91_1 : 0 ≤ (czI (G_91.2.1 (F a 51))) ∧ (czI (G_91.2.1 (F a 51))) ≤ 90)
    (hm91 : 2 * (czI (G_91.2.1 (F a 51))) + l5_91.toInt < (((N91) + 1 : Nat) : Int))
    (c93 : ¬ (l5_91.toInt = 0))
    (I102_0 : 0 ≤ l6_102.toInt ∧ l6_102.toInt ≤ 90)
    (I102_1 : (l5_102.toInt = 0 ∨ l5_102.toInt = 1) ∧ (czI (G_102.2.1 (F a 51))) ≤ (czI (G_91.2.1 (F a 51))) ∧ (l5_102.toInt = 1 → (czI (G_102.2.1 (F a 51))) + 1 ≤ (czI (G_91.2.1 (F a 51)))))
    (hm102 : 100 - l6_102.toInt < (((N102) + 1 : Nat) : Int))
    (c106 : ¬ ((90 : Int) ≤ l6_102.toInt))
    (I112_0 : 0 ≤ l7_112.toInt ∧ l7_112.toInt ≤ 90)
    (I112_1 : (l5_112.toInt = 0 ∨ l5_112.toInt = 1) ∧ (czI (G_112.2.1 (F a 51))) ≤ (czI (G_91.2.1 (F a 51))) ∧ (l5_112.toInt = 1 → (czI (G_112.2.1 (F a 51))) + 1 ≤ (czI (G_91.2.1 (F a 51)))))
    (hm112 : 100 - l7_112.toInt < (((N112) + 1 : Nat) : Int))
    (c116 : ¬ ((90 : Int) ≤ l7_112.toInt))
    (f46 : (aI (G_112.2.1 (F a 51)) (l6_102.toInt)) = 0 ∨ (aI (G_112.2.1 (F a 51)) (l6_102.toInt)) = 1)
    (c126 : ¬ ((aI (G_112.2.1 (F a 51)) (l6_102.toInt)) ≠ 0))
    (f48 : (aI (G_112.2.1 (F a 51)) (l7_112.toInt)) = 0 ∨ (aI (G_112.2.1 (F a 51)) (l7_112.toInt)) = 1)
    (c136 : ¬ ((aI (G_112.2.1 (F a 51)) (l7_112.toInt)) = 0))
    (t144 : 0 ≤ l6_102.toInt → x144.toInt = l6_102.toInt / (30 : Int))
    (t149 : 0 ≤ l6_102.toInt → x149.toInt = l6_102.toInt % (30 : Int))
    (t154 : 0 ≤ l7_112.toInt → x154.toInt = l7_112.toInt / (30 : Int))
    (t159 : 0 ≤ l7_112.toInt → x159.toInt = l7_112.toInt % (30 : Int))
    (c163 : x160.toInt = 0) :
    LQ (G.2.1 (F a 10)) (mw (G.2.1 (F a 1)) 0) p0.toInt p1.toInt (aI (G_112.2.1 (F a 51))) := by
  first
    | exact lq
    | (have e144 : x144.toInt = l6_102.toInt / 30 := by omega
       have e149 : x149.toInt = l6_102.toInt % 30 := by omega
       have e154 : x154.toInt = l7_112.toInt / 30 := by omega
       have e159 : x159.toInt = l7_112.toInt % 30 := by omega
       rw [e144, e149, e154, e159] at oq160
       exact LQ_set lq ⟨by omega, by omega⟩ ⟨by omega, by omega⟩ (oq160.resolve_right (fun h => by omega)).2 (by omega) (aI_pu hG173 rfl rfl (show Int32.toInt 1 = 1 by decide) (by omega)))
theorem v_X11_leans_180_16 {K : Nat → Nat} {F : Nat → Nat → Nat} (a : Nat) (G : XG) (G_32 : XG) (G_91 : XG) (G_102 : XG) (G_112 : XG) (l5_32 : Int32) (p0 : Int32) (p1 : Int32) (l5_112 : Int32) (l6_102 : Int32) (l7_112 : Int32) (x160 : Int32) (x144 : Int32) (x149 : Int32) (x154 : Int32) (x159 : Int32) (x8 : Int32) (x18 : Int32) (p2 : Int32) (l4_32 : Int32) (N32 : Nat) (l5_91 : Int32) (N91 : Nat) (l5_102 : Int32) (N102 : Nat) (N112 : Nat)
    (ha : K a = 13)
    (lq : LQ (G.2.1 (F a 10)) (mw (G.2.1 (F a 1)) 0) p0.toInt p1.toInt (aI (G_112.2.1 (F a 51))))
    (lz : l5_112.toInt = 0 → LZ (G.2.1 (F a 10)) (mw (G.2.1 (F a 1)) 0) (aI (G_112.2.1 (F a 51))) l6_102.toInt l7_112.toInt)
    (oq160 : (x160.toInt = 1 ∧ lnM (G.2.1 (F a 10)) (mw (G.2.1 (F a 1)) 0) 12 x144.toInt x149.toInt x154.toInt x159.toInt) ∨ (x160.toInt = 0 ∧ ¬ lnM (G.2.1 (F a 10)) (mw (G.2.1 (F a 1)) 0) 12 x144.toInt x149.toInt x154.toInt x159.toInt))
    (z5 : ¬ (0 ≤ p0.toInt ∧ p0.toInt < 3 ∧ 0 ≤ p1.toInt ∧ p1.toInt < 30) → (cel (mw (G.2.1 (F a 1)) 0) (p0.toInt) (p1.toInt) 0) = -2000)
    (t8 : (x8.toInt = 1 ∧ (cel (mw (G.2.1 (F a 1)) 0) (p0.toInt) (p1.toInt) 0) ≠ -2000) ∨ (x8.toInt = 0 ∧ (cel (mw (G.2.1 (F a 1)) 0) (p0.toInt) (p1.toInt) 0) = -2000))
    (c11 : ¬ (x8.toInt = 0))
    (t18 : (x18.toInt = 1 ∧ (0 : Int) ≤ p2.toInt ∧ p2.toInt ≤ (1 : Int)) ∨ (x18.toInt = 0 ∧ (p2.toInt < (0 : Int) ∨ (1 : Int) < p2.toInt)))
    (c21 : x18.toInt ≠ 0)
    (z29 : (bsI (lnI (G.2.1 (F a 10)) (mw (G.2.1 (F a 1)) 0) p0.toInt p1.toInt) 0) = 0)
    (I32_0 : 0 ≤ l5_32.toInt ∧ l5_32.toInt ≤ 90)
    (I32_1 : l4_32.toInt = (bsI (lnI (G.2.1 (F a 10)) (mw (G.2.1 (F a 1)) 0) p0.toInt p1.toInt) (l5_32.toInt)))
    (I32_2 : 0 ≤ l4_32.toInt ∧ l4_32.toInt ≤ l5_32.toInt)
    (hm32 : 2147483648 - l5_32.toInt < (((N32) + 1 : Nat) : Int))
    (c36 : (90 : Int) ≤ l5_32.toInt)
    (z88 : 0 ≤ (czI (G_32.2.1 (F a 51))) ∧ (czI (G_32.2.1 (F a 51))) ≤ 90)
    (z88a : l5_32.toInt = 90 → (bsI (lnI (G.2.1 (F a 10)) (mw (G.2.1 (F a 1)) 0) p0.toInt p1.toInt) (l5_32.toInt)) = (bsI (lnI (G.2.1 (F a 10)) (mw (G.2.1 (F a 1)) 0) p0.toInt p1.toInt) 90))
    (I91_0 : (l5_91.toInt = 0 ∨ l5_91.toInt = 1))
    (I91_1 : 0 ≤ (czI (G_91.2.1 (F a 51))) ∧ (czI (G_91.2.1 (F a 51))) ≤ 90)
    (hm91 : 2 * (czI (G_91.2.1 (F a 51))) + l5_91.toInt < (((N91) + 1 : Nat) : Int))
    (c93 : ¬ (l5_91.toInt = 0))
    (I102_0 : 0 ≤ l6_102.toInt ∧ l6_102.toInt ≤ 90)
    (I102_1 : (l5_102.toInt = 0 ∨ l5_102.toInt = 1) ∧ (czI (G_102.2.1 (F a 51))) ≤ (czI (G_91.2.1 (F a 51))) ∧ (l5_102.toInt = 1 → (czI (G_102.2.1 (F a 51))) + 1 ≤ (czI (G_91.2.1 (F a 51)))))
    (hm102 : 100 - l6_102.toInt < (((N102) + 1 : Nat) : Int))
    (c106 : ¬ ((90 : Int) ≤ l6_102.toInt))
    (I112_0 : 0 ≤ l7_112.toInt ∧ l7_112.toInt ≤ 90)
    (I112_1 : (l5_112.toInt = 0 ∨ l5_112.toInt = 1) ∧ (czI (G_112.2.1 (F a 51))) ≤ (czI (G_91.2.1 (F a 51))) ∧ (l5_112.toInt = 1 → (czI (G_112.2.1 (F a 51))) + 1 ≤ (czI (G_91.2.1 (F a 51)))))
    (hm112 : 100 - l7_112.toInt < (((N112) + 1 : Nat) : Int))
    (c116 : ¬ ((90 : Int) ≤ l7_112.toInt))
    (f46 : (aI (G_112.2.1 (F a 51)) (l6_102.toInt)) = 0 ∨ (aI (G_112.2.1 (F a 51)) (l6_102.toInt)) = 1)
    (c126 : ¬ ((aI (G_112.2.1 (F a 51)) (l6_102.toInt)) ≠ 0))
    (f48 : (aI (G_112.2.1 (F a 51)) (l7_112.toInt)) = 0 ∨ (aI (G_112.2.1 (F a 51)) (l7_112.toInt)) = 1)
    (c136 : ¬ ((aI (G_112.2.1 (F a 51)) (l7_112.toInt)) = 0))
    (t144 : 0 ≤ l6_102.toInt → x144.toInt = l6_102.toInt / (30 : Int))
    (t149 : 0 ≤ l6_102.toInt → x149.toInt = l6_102.toInt % (30 : Int))
    (t154 : 0 ≤ l7_112.toInt → x154.toInt = l7_112.toInt / (30 : Int))
    (t159 : 0 ≤ l7_112.toInt → x159.toInt = l7_112.toInt % (30 : Int))
    (c163 : x160.toInt = 0) :
    l5_112.toInt = 0 → LZ (G.2.1 (F a 10)) (mw (G.2.1 (F a 1)) 0) (aI (G_112.2.1 (F a 51))) l6_102.toInt (l7_112.toInt + 1) := by
  intro h
  first
    | exact absurd h (by decide)
    | exact LZ_skip (lz (by omega)) (Or.inl (by omega))
    | (have e144 : x144.toInt = l6_102.toInt / 30 := by omega
       have e149 : x149.toInt = l6_102.toInt % 30 := by omega
       have e154 : x154.toInt = l7_112.toInt / 30 := by omega
       have e159 : x159.toInt = l7_112.toInt % 30 := by omega
       rw [e144, e149, e154, e159] at oq160
       exact LZ_skip (lz (by omega)) (Or.inr (oq160.resolve_left (fun h => by omega)).2))
theorem v_X11_leans_174_17 {F : Nat → Nat → Nat} (G173 : XG) (G_112 : XG) (a : Nat) (l6_102 : Int32)
    (hG173 : G173 = cput G_112 (F a 51) l6_102.toNatClampNeg 1)
    (I102_0 : 0 ≤ l6_102.toInt ∧ l6_102.toInt ≤ 90)
    (c106 : ¬ ((90 : Int) ≤ l6_102.toInt))
    (c126 : ¬ ((aI (G_112.2.1 (F a 51)) (l6_102.toInt)) ≠ 0)) :
    (czI (G173.2.1 (F a 51))) + 1 = (czI (G_112.2.1 (F a 51))) := by
  refine czI_set (i := l6_102.toInt.toNat) (by omega) ?_ ?_ ?_
  · have h9 : aI (G_112.2.1 (F a 51)) l6_102.toInt = 0 := by omega
    exact h9
  · rw [cput_j hG173]
    show (if l6_102.toInt.toNat = l6_102.toInt.toNat then (1 : Int32) else _).toInt ≠ 0
    rw [if_pos rfl]; decide
  · intro j hj
    rw [cput_j hG173]
    exact if_neg hj
theorem v_X11_leans_180_18 {K : Nat → Nat} {F : Nat → Nat → Nat} (a : Nat) (G : XG) (G_32 : XG) (G_91 : XG) (G_102 : XG) (G_112 : XG) (G173 : XG) (l6_102 : Int32) (l5_32 : Int32) (p0 : Int32) (p1 : Int32) (l5_112 : Int32) (l7_112 : Int32) (x160 : Int32) (x144 : Int32) (x149 : Int32) (x154 : Int32) (x159 : Int32) (x8 : Int32) (x18 : Int32) (p2 : Int32) (l4_32 : Int32) (N32 : Nat) (l5_91 : Int32) (N91 : Nat) (l5_102 : Int32) (N102 : Nat) (N112 : Nat)
    (ha : K a = 13)
    (hG173 : G173 = cput G_112 (F a 51) l6_102.toNatClampNeg 1)
    (lq : LQ (G.2.1 (F a 10)) (mw (G.2.1 (F a 1)) 0) p0.toInt p1.toInt (aI (G_112.2.1 (F a 51))))
    (lz : l5_112.toInt = 0 → LZ (G.2.1 (F a 10)) (mw (G.2.1 (F a 1)) 0) (aI (G_112.2.1 (F a 51))) l6_102.toInt l7_112.toInt)
    (oq160 : (x160.toInt = 1 ∧ lnM (G.2.1 (F a 10)) (mw (G.2.1 (F a 1)) 0) 12 x144.toInt x149.toInt x154.toInt x159.toInt) ∨ (x160.toInt = 0 ∧ ¬ lnM (G.2.1 (F a 10)) (mw (G.2.1 (F a 1)) 0) 12 x144.toInt x149.toInt x154.toInt x159.toInt))
    (z5 : ¬ (0 ≤ p0.toInt ∧ p0.toInt < 3 ∧ 0 ≤ p1.toInt ∧ p1.toInt < 30) → (cel (mw (G.2.1 (F a 1)) 0) (p0.toInt) (p1.toInt) 0) = -2000)
    (t8 : (x8.toInt = 1 ∧ (cel (mw (G.2.1 (F a 1)) 0) (p0.toInt) (p1.toInt) 0) ≠ -2000) ∨ (x8.toInt = 0 ∧ (cel (mw (G.2.1 (F a 1)) 0) (p0.toInt) (p1.toInt) 0) = -2000))
    (c11 : ¬ (x8.toInt = 0))
    (t18 : (x18.toInt = 1 ∧ (0 : Int) ≤ p2.toInt ∧ p2.toInt ≤ (1 : Int)) ∨ (x18.toInt = 0 ∧ (p2.toInt < (0 : Int) ∨ (1 : Int) < p2.toInt)))
    (c21 : x18.toInt ≠ 0)
    (z29 : (bsI (lnI (G.2.1 (F a 10)) (mw (G.2.1 (F a 1)) 0) p0.toInt p1.toInt) 0) = 0)
    (I32_0 : 0 ≤ l5_32.toInt ∧ l5_32.toInt ≤ 90)
    (I32_1 : l4_32.toInt = (bsI (lnI (G.2.1 (F a 10)) (mw (G.2.1 (F a 1)) 0) p0.toInt p1.toInt) (l5_32.toInt)))
    (I32_2 : 0 ≤ l4_32.toInt ∧ l4_32.toInt ≤ l5_32.toInt)
    (hm32 : 2147483648 - l5_32.toInt < (((N32) + 1 : Nat) : Int))
    (c36 : (90 : Int) ≤ l5_32.toInt)
    (z88 : 0 ≤ (czI (G_32.2.1 (F a 51))) ∧ (czI (G_32.2.1 (F a 51))) ≤ 90)
    (z88a : l5_32.toInt = 90 → (bsI (lnI (G.2.1 (F a 10)) (mw (G.2.1 (F a 1)) 0) p0.toInt p1.toInt) (l5_32.toInt)) = (bsI (lnI (G.2.1 (F a 10)) (mw (G.2.1 (F a 1)) 0) p0.toInt p1.toInt) 90))
    (I91_0 : (l5_91.toInt = 0 ∨ l5_91.toInt = 1))
    (I91_1 : 0 ≤ (czI (G_91.2.1 (F a 51))) ∧ (czI (G_91.2.1 (F a 51))) ≤ 90)
    (hm91 : 2 * (czI (G_91.2.1 (F a 51))) + l5_91.toInt < (((N91) + 1 : Nat) : Int))
    (c93 : ¬ (l5_91.toInt = 0))
    (I102_0 : 0 ≤ l6_102.toInt ∧ l6_102.toInt ≤ 90)
    (I102_1 : (l5_102.toInt = 0 ∨ l5_102.toInt = 1) ∧ (czI (G_102.2.1 (F a 51))) ≤ (czI (G_91.2.1 (F a 51))) ∧ (l5_102.toInt = 1 → (czI (G_102.2.1 (F a 51))) + 1 ≤ (czI (G_91.2.1 (F a 51)))))
    (hm102 : 100 - l6_102.toInt < (((N102) + 1 : Nat) : Int))
    (c106 : ¬ ((90 : Int) ≤ l6_102.toInt))
    (I112_0 : 0 ≤ l7_112.toInt ∧ l7_112.toInt ≤ 90)
    (I112_1 : (l5_112.toInt = 0 ∨ l5_112.toInt = 1) ∧ (czI (G_112.2.1 (F a 51))) ≤ (czI (G_91.2.1 (F a 51))) ∧ (l5_112.toInt = 1 → (czI (G_112.2.1 (F a 51))) + 1 ≤ (czI (G_91.2.1 (F a 51)))))
    (hm112 : 100 - l7_112.toInt < (((N112) + 1 : Nat) : Int))
    (c116 : ¬ ((90 : Int) ≤ l7_112.toInt))
    (f47 : (aI (G_112.2.1 (F a 51)) (l6_102.toInt)) = 0 ∨ (aI (G_112.2.1 (F a 51)) (l6_102.toInt)) = 1)
    (c126 : ¬ ((aI (G_112.2.1 (F a 51)) (l6_102.toInt)) ≠ 0))
    (f49 : (aI (G_112.2.1 (F a 51)) (l7_112.toInt)) = 0 ∨ (aI (G_112.2.1 (F a 51)) (l7_112.toInt)) = 1)
    (c136 : ¬ ((aI (G_112.2.1 (F a 51)) (l7_112.toInt)) = 0))
    (t144 : 0 ≤ l6_102.toInt → x144.toInt = l6_102.toInt / (30 : Int))
    (t149 : 0 ≤ l6_102.toInt → x149.toInt = l6_102.toInt % (30 : Int))
    (t154 : 0 ≤ l7_112.toInt → x154.toInt = l7_112.toInt / (30 : Int))
    (t159 : 0 ≤ l7_112.toInt → x159.toInt = l7_112.toInt % (30 : Int))
    (c163 : ¬ (x160.toInt = 0))
    (cz173 : (czI (G173.2.1 (F a 51))) + 1 = (czI (G_112.2.1 (F a 51)))) :
    LQ (G.2.1 (F a 10)) (mw (G.2.1 (F a 1)) 0) p0.toInt p1.toInt (aI (G173.2.1 (F a 51))) := by
  first
    | exact lq
    | (have e144 : x144.toInt = l6_102.toInt / 30 := by omega
       have e149 : x149.toInt = l6_102.toInt % 30 := by omega
       have e154 : x154.toInt = l7_112.toInt / 30 := by omega
       have e159 : x159.toInt = l7_112.toInt % 30 := by omega
       rw [e144, e149, e154, e159] at oq160
       exact LQ_set lq ⟨by omega, by omega⟩ ⟨by omega, by omega⟩ (oq160.resolve_right (fun h => by omega)).2 (by omega) (aI_pu hG173 rfl rfl (show Int32.toInt 1 = 1 by decide) (by omega)))
theorem v_X11_leans_180_19 {K : Nat → Nat} {F : Nat → Nat → Nat} (a : Nat) (G : XG) (G_32 : XG) (G_91 : XG) (G_102 : XG) (G_112 : XG) (G173 : XG) (l6_102 : Int32) (l5_32 : Int32) (p0 : Int32) (p1 : Int32) (l5_112 : Int32) (l7_112 : Int32) (x160 : Int32) (x144 : Int32) (x149 : Int32) (x154 : Int32) (x159 : Int32) (x8 : Int32) (x18 : Int32) (p2 : Int32) (l4_32 : Int32) (N32 : Nat) (l5_91 : Int32) (N91 : Nat) (l5_102 : Int32) (N102 : Nat) (N112 : Nat)
    (ha : K a = 13)
    (lq : LQ (G.2.1 (F a 10)) (mw (G.2.1 (F a 1)) 0) p0.toInt p1.toInt (aI (G_112.2.1 (F a 51))))
    (lz : l5_112.toInt = 0 → LZ (G.2.1 (F a 10)) (mw (G.2.1 (F a 1)) 0) (aI (G_112.2.1 (F a 51))) l6_102.toInt l7_112.toInt)
    (oq160 : (x160.toInt = 1 ∧ lnM (G.2.1 (F a 10)) (mw (G.2.1 (F a 1)) 0) 12 x144.toInt x149.toInt x154.toInt x159.toInt) ∨ (x160.toInt = 0 ∧ ¬ lnM (G.2.1 (F a 10)) (mw (G.2.1 (F a 1)) 0) 12 x144.toInt x149.toInt x154.toInt x159.toInt))
    (z5 : ¬ (0 ≤ p0.toInt ∧ p0.toInt < 3 ∧ 0 ≤ p1.toInt ∧ p1.toInt < 30) → (cel (mw (G.2.1 (F a 1)) 0) (p0.toInt) (p1.toInt) 0) = -2000)
    (t8 : (x8.toInt = 1 ∧ (cel (mw (G.2.1 (F a 1)) 0) (p0.toInt) (p1.toInt) 0) ≠ -2000) ∨ (x8.toInt = 0 ∧ (cel (mw (G.2.1 (F a 1)) 0) (p0.toInt) (p1.toInt) 0) = -2000))
    (c11 : ¬ (x8.toInt = 0))
    (t18 : (x18.toInt = 1 ∧ (0 : Int) ≤ p2.toInt ∧ p2.toInt ≤ (1 : Int)) ∨ (x18.toInt = 0 ∧ (p2.toInt < (0 : Int) ∨ (1 : Int) < p2.toInt)))
    (c21 : x18.toInt ≠ 0)
    (z29 : (bsI (lnI (G.2.1 (F a 10)) (mw (G.2.1 (F a 1)) 0) p0.toInt p1.toInt) 0) = 0)
    (I32_0 : 0 ≤ l5_32.toInt ∧ l5_32.toInt ≤ 90)
    (I32_1 : l4_32.toInt = (bsI (lnI (G.2.1 (F a 10)) (mw (G.2.1 (F a 1)) 0) p0.toInt p1.toInt) (l5_32.toInt)))
    (I32_2 : 0 ≤ l4_32.toInt ∧ l4_32.toInt ≤ l5_32.toInt)
    (hm32 : 2147483648 - l5_32.toInt < (((N32) + 1 : Nat) : Int))
    (c36 : (90 : Int) ≤ l5_32.toInt)
    (z88 : 0 ≤ (czI (G_32.2.1 (F a 51))) ∧ (czI (G_32.2.1 (F a 51))) ≤ 90)
    (z88a : l5_32.toInt = 90 → (bsI (lnI (G.2.1 (F a 10)) (mw (G.2.1 (F a 1)) 0) p0.toInt p1.toInt) (l5_32.toInt)) = (bsI (lnI (G.2.1 (F a 10)) (mw (G.2.1 (F a 1)) 0) p0.toInt p1.toInt) 90))
    (I91_0 : (l5_91.toInt = 0 ∨ l5_91.toInt = 1))
    (I91_1 : 0 ≤ (czI (G_91.2.1 (F a 51))) ∧ (czI (G_91.2.1 (F a 51))) ≤ 90)
    (hm91 : 2 * (czI (G_91.2.1 (F a 51))) + l5_91.toInt < (((N91) + 1 : Nat) : Int))
    (c93 : ¬ (l5_91.toInt = 0))
    (I102_0 : 0 ≤ l6_102.toInt ∧ l6_102.toInt ≤ 90)
    (I102_1 : (l5_102.toInt = 0 ∨ l5_102.toInt = 1) ∧ (czI (G_102.2.1 (F a 51))) ≤ (czI (G_91.2.1 (F a 51))) ∧ (l5_102.toInt = 1 → (czI (G_102.2.1 (F a 51))) + 1 ≤ (czI (G_91.2.1 (F a 51)))))
    (hm102 : 100 - l6_102.toInt < (((N102) + 1 : Nat) : Int))
    (c106 : ¬ ((90 : Int) ≤ l6_102.toInt))
    (I112_0 : 0 ≤ l7_112.toInt ∧ l7_112.toInt ≤ 90)
    (I112_1 : (l5_112.toInt = 0 ∨ l5_112.toInt = 1) ∧ (czI (G_112.2.1 (F a 51))) ≤ (czI (G_91.2.1 (F a 51))) ∧ (l5_112.toInt = 1 → (czI (G_112.2.1 (F a 51))) + 1 ≤ (czI (G_91.2.1 (F a 51)))))
    (hm112 : 100 - l7_112.toInt < (((N112) + 1 : Nat) : Int))
    (c116 : ¬ ((90 : Int) ≤ l7_112.toInt))
    (f47 : (aI (G_112.2.1 (F a 51)) (l6_102.toInt)) = 0 ∨ (aI (G_112.2.1 (F a 51)) (l6_102.toInt)) = 1)
    (c126 : ¬ ((aI (G_112.2.1 (F a 51)) (l6_102.toInt)) ≠ 0))
    (f49 : (aI (G_112.2.1 (F a 51)) (l7_112.toInt)) = 0 ∨ (aI (G_112.2.1 (F a 51)) (l7_112.toInt)) = 1)
    (c136 : ¬ ((aI (G_112.2.1 (F a 51)) (l7_112.toInt)) = 0))
    (t144 : 0 ≤ l6_102.toInt → x144.toInt = l6_102.toInt / (30 : Int))
    (t149 : 0 ≤ l6_102.toInt → x149.toInt = l6_102.toInt % (30 : Int))
    (t154 : 0 ≤ l7_112.toInt → x154.toInt = l7_112.toInt / (30 : Int))
    (t159 : 0 ≤ l7_112.toInt → x159.toInt = l7_112.toInt % (30 : Int))
    (c163 : ¬ (x160.toInt = 0))
    (cz173 : (czI (G173.2.1 (F a 51))) + 1 = (czI (G_112.2.1 (F a 51)))) :
    (1 : Int) = 0 → LZ (G.2.1 (F a 10)) (mw (G.2.1 (F a 1)) 0) (aI (G173.2.1 (F a 51))) l6_102.toInt (l7_112.toInt + 1) := by
  intro h
  first
    | exact absurd h (by decide)
    | exact LZ_skip (lz (by omega)) (Or.inl (by omega))
    | (have e144 : x144.toInt = l6_102.toInt / 30 := by omega
       have e149 : x149.toInt = l6_102.toInt % 30 := by omega
       have e154 : x154.toInt = l7_112.toInt / 30 := by omega
       have e159 : x159.toInt = l7_112.toInt % 30 := by omega
       rw [e144, e149, e154, e159] at oq160
       exact LZ_skip (lz (by omega)) (Or.inr (oq160.resolve_left (fun h => by omega)).2))
theorem v_X11_leans_110_20 {F : Nat → Nat → Nat} (a : Nat) (G : XG) (G_102 : XG) (p0 : Int32) (p1 : Int32)
    (lq : LQ (G.2.1 (F a 10)) (mw (G.2.1 (F a 1)) 0) p0.toInt p1.toInt (aI (G_102.2.1 (F a 51)))) :
    LQ (G.2.1 (F a 10)) (mw (G.2.1 (F a 1)) 0) p0.toInt p1.toInt (aI (G_102.2.1 (F a 51))) := by
  exact lq
theorem v_X11_leans_110_21 {K : Nat → Nat} {F : Nat → Nat → Nat} (a : Nat) (G : XG) (G_32 : XG) (G_91 : XG) (G_102 : XG) (l5_32 : Int32) (p0 : Int32) (p1 : Int32) (l5_102 : Int32) (l6_102 : Int32) (x8 : Int32) (x18 : Int32) (p2 : Int32) (l4_32 : Int32) (N32 : Nat) (l5_91 : Int32) (N91 : Nat) (N102 : Nat)
    (ha : K a = 13)
    (lq : LQ (G.2.1 (F a 10)) (mw (G.2.1 (F a 1)) 0) p0.toInt p1.toInt (aI (G_102.2.1 (F a 51))))
    (lz : l5_102.toInt = 0 → LZ (G.2.1 (F a 10)) (mw (G.2.1 (F a 1)) 0) (aI (G_102.2.1 (F a 51))) l6_102.toInt 0)
    (z5 : ¬ (0 ≤ p0.toInt ∧ p0.toInt < 3 ∧ 0 ≤ p1.toInt ∧ p1.toInt < 30) → (cel (mw (G.2.1 (F a 1)) 0) (p0.toInt) (p1.toInt) 0) = -2000)
    (t8 : (x8.toInt = 1 ∧ (cel (mw (G.2.1 (F a 1)) 0) (p0.toInt) (p1.toInt) 0) ≠ -2000) ∨ (x8.toInt = 0 ∧ (cel (mw (G.2.1 (F a 1)) 0) (p0.toInt) (p1.toInt) 0) = -2000))
    (c11 : ¬ (x8.toInt = 0))
    (t18 : (x18.toInt = 1 ∧ (0 : Int) ≤ p2.toInt ∧ p2.toInt ≤ (1 : Int)) ∨ (x18.toInt = 0 ∧ (p2.toInt < (0 : Int) ∨ (1 : Int) < p2.toInt)))
    (c21 : x18.toInt ≠ 0)
    (z29 : (bsI (lnI (G.2.1 (F a 10)) (mw (G.2.1 (F a 1)) 0) p0.toInt p1.toInt) 0) = 0)
    (I32_0 : 0 ≤ l5_32.toInt ∧ l5_32.toInt ≤ 90)
    (I32_1 : l4_32.toInt = (bsI (lnI (G.2.1 (F a 10)) (mw (G.2.1 (F a 1)) 0) p0.toInt p1.toInt) (l5_32.toInt)))
    (I32_2 : 0 ≤ l4_32.toInt ∧ l4_32.toInt ≤ l5_32.toInt)
    (hm32 : 2147483648 - l5_32.toInt < (((N32) + 1 : Nat) : Int))
    (c36 : (90 : Int) ≤ l5_32.toInt)
    (z88 : 0 ≤ (czI (G_32.2.1 (F a 51))) ∧ (czI (G_32.2.1 (F a 51))) ≤ 90)
    (z88a : l5_32.toInt = 90 → (bsI (lnI (G.2.1 (F a 10)) (mw (G.2.1 (F a 1)) 0) p0.toInt p1.toInt) (l5_32.toInt)) = (bsI (lnI (G.2.1 (F a 10)) (mw (G.2.1 (F a 1)) 0) p0.toInt p1.toInt) 90))
    (I91_0 : (l5_91.toInt = 0 ∨ l5_91.toInt = 1))
    (I91_1 : 0 ≤ (czI (G_91.2.1 (F a 51))) ∧ (czI (G_91.2.1 (F a 51))) ≤ 90)
    (hm91 : 2 * (czI (G_91.2.1 (F a 51))) + l5_91.toInt < (((N91) + 1 : Nat) : Int))
    (c93 : ¬ (l5_91.toInt = 0))
    (I102_0 : 0 ≤ l6_102.toInt ∧ l6_102.toInt ≤ 90)
    (I102_1 : (l5_102.toInt = 0 ∨ l5_102.toInt = 1) ∧ (czI (G_102.2.1 (F a 51))) ≤ (czI (G_91.2.1 (F a 51))) ∧ (l5_102.toInt = 1 → (czI (G_102.2.1 (F a 51))) + 1 ≤ (czI (G_91.2.1 (F a 51)))))
    (hm102 : 100 - l6_102.toInt < (((N102) + 1 : Nat) : Int))
    (c106 : ¬ ((90 : Int) ≤ l6_102.toInt)) :
    l5_102.toInt = 0 → LZ (G.2.1 (F a 10)) (mw (G.2.1 (F a 1)) 0) (aI (G_102.2.1 (F a 51))) l6_102.toInt (0 : Int) := by
  intro h
  exact LZ_new (lz (by omega)).1
theorem v_X11_leans_100_22 {F : Nat → Nat → Nat} (a : Nat) (G : XG) (G_91 : XG) (p0 : Int32) (p1 : Int32)
    (lq : LQ (G.2.1 (F a 10)) (mw (G.2.1 (F a 1)) 0) p0.toInt p1.toInt (aI (G_91.2.1 (F a 51)))) :
    LQ (G.2.1 (F a 10)) (mw (G.2.1 (F a 1)) 0) p0.toInt p1.toInt (aI (G_91.2.1 (F a 51))) := by
  exact lq
theorem v_X11_leans_100_23 {F : Nat → Nat → Nat} (a : Nat) (G : XG) (G_91 : XG) :
    (0 : Int) = 0 → LZ (G.2.1 (F a 10)) (mw (G.2.1 (F a 1)) 0) (aI (G_91.2.1 (F a 51))) (0 : Int) 0 := by
  intro _
  exact LZ_0
theorem v_X11_leans_89_24 {K : Nat → Nat} {F : Nat → Nat → Nat} (a : Nat) (G : XG) (G_32 : XG) (l5_32 : Int32) (p0 : Int32) (p1 : Int32) (x8 : Int32) (x18 : Int32) (p2 : Int32) (l4_32 : Int32) (N32 : Nat)
    (ha : K a = 13)
    (ps : ∀ z : Int, 0 ≤ z → z < l5_32.toInt → ((aI (G_32.2.1 (F a 51))) z = 1 ∧ lnM (G.2.1 (F a 10)) (mw (G.2.1 (F a 1)) 0) 12 (z / 30) (z % 30) p0.toInt p1.toInt) ∨ ((aI (G_32.2.1 (F a 51))) z = 0 ∧ ¬ lnM (G.2.1 (F a 10)) (mw (G.2.1 (F a 1)) 0) 12 (z / 30) (z % 30) p0.toInt p1.toInt))
    (z5 : ¬ (0 ≤ p0.toInt ∧ p0.toInt < 3 ∧ 0 ≤ p1.toInt ∧ p1.toInt < 30) → (cel (mw (G.2.1 (F a 1)) 0) (p0.toInt) (p1.toInt) 0) = -2000)
    (t8 : (x8.toInt = 1 ∧ (cel (mw (G.2.1 (F a 1)) 0) (p0.toInt) (p1.toInt) 0) ≠ -2000) ∨ (x8.toInt = 0 ∧ (cel (mw (G.2.1 (F a 1)) 0) (p0.toInt) (p1.toInt) 0) = -2000))
    (c11 : ¬ (x8.toInt = 0))
    (t18 : (x18.toInt = 1 ∧ (0 : Int) ≤ p2.toInt ∧ p2.toInt ≤ (1 : Int)) ∨ (x18.toInt = 0 ∧ (p2.toInt < (0 : Int) ∨ (1 : Int) < p2.toInt)))
    (c21 : x18.toInt ≠ 0)
    (z29 : (bsI (lnI (G.2.1 (F a 10)) (mw (G.2.1 (F a 1)) 0) p0.toInt p1.toInt) 0) = 0)
    (I32_0 : 0 ≤ l5_32.toInt ∧ l5_32.toInt ≤ 90)
    (I32_1 : l4_32.toInt = (bsI (lnI (G.2.1 (F a 10)) (mw (G.2.1 (F a 1)) 0) p0.toInt p1.toInt) (l5_32.toInt)))
    (I32_2 : 0 ≤ l4_32.toInt ∧ l4_32.toInt ≤ l5_32.toInt)
    (hm32 : 2147483648 - l5_32.toInt < (((N32) + 1 : Nat) : Int))
    (c36 : (90 : Int) ≤ l5_32.toInt)
    (z88 : 0 ≤ (czI (G_32.2.1 (F a 51))) ∧ (czI (G_32.2.1 (F a 51))) ≤ 90)
    (z88a : l5_32.toInt = 90 → (bsI (lnI (G.2.1 (F a 10)) (mw (G.2.1 (F a 1)) 0) p0.toInt p1.toInt) (l5_32.toInt)) = (bsI (lnI (G.2.1 (F a 10)) (mw (G.2.1 (F a 1)) 0) p0.toInt p1.toInt) 90)) :
    LQ (G.2.1 (F a 10)) (mw (G.2.1 (F a 1)) 0) p0.toInt p1.toInt (aI (G_32.2.1 (F a 51))) := by
  exact LQ_0 ps (by omega)
theorem v_X11_leans_89_25 {F : Nat → Nat → Nat} (a : Nat) (G : XG) (G_32 : XG) :
    (1 : Int) = 0 → LZ (G.2.1 (F a 10)) (mw (G.2.1 (F a 1)) 0) (aI (G_32.2.1 (F a 51))) 90 0 := by
  intro h
  exact absurd h (by decide)
theorem v_X11_leans_58_26 {F : Nat → Nat → Nat} (a : Nat) (G : XG) (G_32 : XG)
    (hR : RV (G.2.1 (F a 10)))
    (c_G_32_F_a_10 : G_32.2.1 (F a 10) = G.2.1 (F a 10)) :
    RV (G_32.2.1 (F a 10)) := by simp only [c_G_32_F_a_10]; assumption
theorem v_X11_leans_58_27 {F : Nat → Nat → Nat} (a : Nat) (G : XG) (G_32 : XG)
    (hM : RM (G.2.1 (F a 1)) (0))
    (c_G_32_F_a_1 : G_32.2.1 (F a 1) = G.2.1 (F a 1)) :
    RM (G_32.2.1 (F a 1)) (0) := by simp only [c_G_32_F_a_1]; assumption
theorem v_X11_leans_62_28 {K : Nat → Nat} {F : Nat → Nat → Nat} (a : Nat) (G : XG) (l5_32 : Int32) (x58 : Int32) (p0 : Int32) (p1 : Int32) (x50 : Int32) (x55 : Int32) (x8 : Int32) (x18 : Int32) (p2 : Int32) (l4_32 : Int32) (N32 : Nat)
    (ha : K a = 13)
    (oq58 : (x58.toInt = 1 ∧ lnM (G.2.1 (F a 10)) (mw (G.2.1 (F a 1)) 0) 12 x50.toInt x55.toInt p0.toInt p1.toInt) ∨ (x58.toInt = 0 ∧ ¬ lnM (G.2.1 (F a 10)) (mw (G.2.1 (F a 1)) 0) 12 x50.toInt x55.toInt p0.toInt p1.toInt))
    (z5 : ¬ (0 ≤ p0.toInt ∧ p0.toInt < 3 ∧ 0 ≤ p1.toInt ∧ p1.toInt < 30) → (cel (mw (G.2.1 (F a 1)) 0) (p0.toInt) (p1.toInt) 0) = -2000)
    (t8 : (x8.toInt = 1 ∧ (cel (mw (G.2.1 (F a 1)) 0) (p0.toInt) (p1.toInt) 0) ≠ -2000) ∨ (x8.toInt = 0 ∧ (cel (mw (G.2.1 (F a 1)) 0) (p0.toInt) (p1.toInt) 0) = -2000))
    (c11 : ¬ (x8.toInt = 0))
    (t18 : (x18.toInt = 1 ∧ (0 : Int) ≤ p2.toInt ∧ p2.toInt ≤ (1 : Int)) ∨ (x18.toInt = 0 ∧ (p2.toInt < (0 : Int) ∨ (1 : Int) < p2.toInt)))
    (c21 : x18.toInt ≠ 0)
    (z29 : (bsI (lnI (G.2.1 (F a 10)) (mw (G.2.1 (F a 1)) 0) p0.toInt p1.toInt) 0) = 0)
    (I32_0 : 0 ≤ l5_32.toInt ∧ l5_32.toInt ≤ 90)
    (I32_1 : l4_32.toInt = (bsI (lnI (G.2.1 (F a 10)) (mw (G.2.1 (F a 1)) 0) p0.toInt p1.toInt) (l5_32.toInt)))
    (I32_2 : 0 ≤ l4_32.toInt ∧ l4_32.toInt ≤ l5_32.toInt)
    (hm32 : 2147483648 - l5_32.toInt < (((N32) + 1 : Nat) : Int))
    (c36 : ¬ ((90 : Int) ≤ l5_32.toInt))
    (t50 : 0 ≤ l5_32.toInt → x50.toInt = l5_32.toInt / (30 : Int))
    (t55 : 0 ≤ l5_32.toInt → x55.toInt = l5_32.toInt % (30 : Int)) :
    (x58.toInt = 1 → (lnI (G.2.1 (F a 10)) (mw (G.2.1 (F a 1)) 0) p0.toInt p1.toInt (l5_32.toInt)) = 1) ∧ (x58.toInt = 0 → (lnI (G.2.1 (F a 10)) (mw (G.2.1 (F a 1)) 0) p0.toInt p1.toInt (l5_32.toInt)) = 0) := by
  have e50 : x50.toInt = l5_32.toInt / 30 := by omega
  have e55 : x55.toInt = l5_32.toInt % 30 := by omega
  rw [e50, e55] at oq58
  rcases oq58 with ⟨a1, a2⟩ | ⟨a1, a2⟩
  · exact ⟨fun _ => lnI_y a2, fun h => absurd (a1.symm.trans h) (by decide)⟩
  · exact ⟨fun h => absurd (a1.symm.trans h) (by decide), fun _ => lnI_n a2⟩
theorem v_X11_leans_85_29 {K : Nat → Nat} {F : Nat → Nat → Nat} (a : Nat) (G : XG) (G_32 : XG) (G61 : XG) (l5_32 : Int32) (x58 : Int32) (p0 : Int32) (p1 : Int32) (x50 : Int32) (x55 : Int32) (l4_32 : Int32) (x8 : Int32) (x18 : Int32) (p2 : Int32) (N32 : Nat)
    (ha : K a = 13)
    (hG61 : G61 = cput G_32 (F a 51) l5_32.toNatClampNeg x58)
    (ps : ∀ z : Int, 0 ≤ z → z < l5_32.toInt → ((aI (G_32.2.1 (F a 51))) z = 1 ∧ lnM (G.2.1 (F a 10)) (mw (G.2.1 (F a 1)) 0) 12 (z / 30) (z % 30) p0.toInt p1.toInt) ∨ ((aI (G_32.2.1 (F a 51))) z = 0 ∧ ¬ lnM (G.2.1 (F a 10)) (mw (G.2.1 (F a 1)) 0) 12 (z / 30) (z % 30) p0.toInt p1.toInt))
    (oq58 : (x58.toInt = 1 ∧ lnM (G.2.1 (F a 10)) (mw (G.2.1 (F a 1)) 0) 12 x50.toInt x55.toInt p0.toInt p1.toInt) ∨ (x58.toInt = 0 ∧ ¬ lnM (G.2.1 (F a 10)) (mw (G.2.1 (F a 1)) 0) 12 x50.toInt x55.toInt p0.toInt p1.toInt))
    (z5 : ¬ (0 ≤ p0.toInt ∧ p0.toInt < 3 ∧ 0 ≤ p1.toInt ∧ p1.toInt < 30) → (cel (mw (G.2.1 (F a 1)) 0) (p0.toInt) (p1.toInt) 0) = -2000)
    (t8 : (x8.toInt = 1 ∧ (cel (mw (G.2.1 (F a 1)) 0) (p0.toInt) (p1.toInt) 0) ≠ -2000) ∨ (x8.toInt = 0 ∧ (cel (mw (G.2.1 (F a 1)) 0) (p0.toInt) (p1.toInt) 0) = -2000))
    (c11 : ¬ (x8.toInt = 0))
    (t18 : (x18.toInt = 1 ∧ (0 : Int) ≤ p2.toInt ∧ p2.toInt ≤ (1 : Int)) ∨ (x18.toInt = 0 ∧ (p2.toInt < (0 : Int) ∨ (1 : Int) < p2.toInt)))
    (c21 : x18.toInt ≠ 0)
    (z29 : (bsI (lnI (G.2.1 (F a 10)) (mw (G.2.1 (F a 1)) 0) p0.toInt p1.toInt) 0) = 0)
    (I32_0 : 0 ≤ l5_32.toInt ∧ l5_32.toInt ≤ 90)
    (I32_1 : l4_32.toInt = (bsI (lnI (G.2.1 (F a 10)) (mw (G.2.1 (F a 1)) 0) p0.toInt p1.toInt) (l5_32.toInt)))
    (I32_2 : 0 ≤ l4_32.toInt ∧ l4_32.toInt ≤ l5_32.toInt)
    (hm32 : 2147483648 - l5_32.toInt < (((N32) + 1 : Nat) : Int))
    (c36 : ¬ ((90 : Int) ≤ l5_32.toInt))
    (t50 : 0 ≤ l5_32.toInt → x50.toInt = l5_32.toInt / (30 : Int))
    (t55 : 0 ≤ l5_32.toInt → x55.toInt = l5_32.toInt % (30 : Int))
    (lni62 : (x58.toInt = 1 → (lnI (G.2.1 (F a 10)) (mw (G.2.1 (F a 1)) 0) p0.toInt p1.toInt (l5_32.toInt)) = 1) ∧ (x58.toInt = 0 → (lnI (G.2.1 (F a 10)) (mw (G.2.1 (F a 1)) 0) p0.toInt p1.toInt (l5_32.toInt)) = 0))
    (z62 : (bsI (lnI (G.2.1 (F a 10)) (mw (G.2.1 (F a 1)) 0) p0.toInt p1.toInt) (l5_32.toInt + 1)) = (bsI (lnI (G.2.1 (F a 10)) (mw (G.2.1 (F a 1)) 0) p0.toInt p1.toInt) (l5_32.toInt)) + (lnI (G.2.1 (F a 10)) (mw (G.2.1 (F a 1)) 0) p0.toInt p1.toInt (l5_32.toInt)))
    (hc70 : (l5_32.toInt = l5_32.toInt → (aI (G61.2.1 (F a 51)) (l5_32.toInt)) = x58.toInt) ∧ (l5_32.toInt ≠ l5_32.toInt → (aI (G61.2.1 (F a 51)) (l5_32.toInt)) = (aI (G_32.2.1 (F a 51)) (l5_32.toInt))))
    (f33 : (aI (G61.2.1 (F a 51)) (l5_32.toInt)) = 0 ∨ (aI (G61.2.1 (F a 51)) (l5_32.toInt)) = 1)
    (c71 : (aI (G61.2.1 (F a 51)) (l5_32.toInt)) = 0) :
    ∀ z : Int, 0 ≤ z → z < (l5_32.toInt + 1) → ((aI (G61.2.1 (F a 51))) z = 1 ∧ lnM (G.2.1 (F a 10)) (mw (G.2.1 (F a 1)) 0) 12 (z / 30) (z % 30) p0.toInt p1.toInt) ∨ ((aI (G61.2.1 (F a 51))) z = 0 ∧ ¬ lnM (G.2.1 (F a 10)) (mw (G.2.1 (F a 1)) 0) 12 (z / 30) (z % 30) p0.toInt p1.toInt) := by
  have e50 : x50.toInt = l5_32.toInt / 30 := by omega
  have e55 : x55.toInt = l5_32.toInt % 30 := by omega
  rw [e50, e55] at oq58
  intro z z0 z1
  rw [aI_pu hG61 rfl rfl rfl (by omega) z z0]
  by_cases e : z = l5_32.toInt
  · rw [if_pos e, e]; exact oq58
  · rw [if_neg e]; exact ps z z0 (by omega)
theorem v_X11_leans_85_30 {K : Nat → Nat} {F : Nat → Nat → Nat} (a : Nat) (G : XG) (G_32 : XG) (G61 : XG) (l5_32 : Int32) (x58 : Int32) (p0 : Int32) (p1 : Int32) (x50 : Int32) (x55 : Int32) (l4_32 : Int32) (x8 : Int32) (x18 : Int32) (p2 : Int32) (N32 : Nat)
    (ha : K a = 13)
    (hG61 : G61 = cput G_32 (F a 51) l5_32.toNatClampNeg x58)
    (ps : ∀ z : Int, 0 ≤ z → z < l5_32.toInt → ((aI (G_32.2.1 (F a 51))) z = 1 ∧ lnM (G.2.1 (F a 10)) (mw (G.2.1 (F a 1)) 0) 12 (z / 30) (z % 30) p0.toInt p1.toInt) ∨ ((aI (G_32.2.1 (F a 51))) z = 0 ∧ ¬ lnM (G.2.1 (F a 10)) (mw (G.2.1 (F a 1)) 0) 12 (z / 30) (z % 30) p0.toInt p1.toInt))
    (oq58 : (x58.toInt = 1 ∧ lnM (G.2.1 (F a 10)) (mw (G.2.1 (F a 1)) 0) 12 x50.toInt x55.toInt p0.toInt p1.toInt) ∨ (x58.toInt = 0 ∧ ¬ lnM (G.2.1 (F a 10)) (mw (G.2.1 (F a 1)) 0) 12 x50.toInt x55.toInt p0.toInt p1.toInt))
    (z5 : ¬ (0 ≤ p0.toInt ∧ p0.toInt < 3 ∧ 0 ≤ p1.toInt ∧ p1.toInt < 30) → (cel (mw (G.2.1 (F a 1)) 0) (p0.toInt) (p1.toInt) 0) = -2000)
    (t8 : (x8.toInt = 1 ∧ (cel (mw (G.2.1 (F a 1)) 0) (p0.toInt) (p1.toInt) 0) ≠ -2000) ∨ (x8.toInt = 0 ∧ (cel (mw (G.2.1 (F a 1)) 0) (p0.toInt) (p1.toInt) 0) = -2000))
    (c11 : ¬ (x8.toInt = 0))
    (t18 : (x18.toInt = 1 ∧ (0 : Int) ≤ p2.toInt ∧ p2.toInt ≤ (1 : Int)) ∨ (x18.toInt = 0 ∧ (p2.toInt < (0 : Int) ∨ (1 : Int) < p2.toInt)))
    (c21 : x18.toInt ≠ 0)
    (z29 : (bsI (lnI (G.2.1 (F a 10)) (mw (G.2.1 (F a 1)) 0) p0.toInt p1.toInt) 0) = 0)
    (I32_0 : 0 ≤ l5_32.toInt ∧ l5_32.toInt ≤ 90)
    (I32_1 : l4_32.toInt = (bsI (lnI (G.2.1 (F a 10)) (mw (G.2.1 (F a 1)) 0) p0.toInt p1.toInt) (l5_32.toInt)))
    (I32_2 : 0 ≤ l4_32.toInt ∧ l4_32.toInt ≤ l5_32.toInt)
    (hm32 : 2147483648 - l5_32.toInt < (((N32) + 1 : Nat) : Int))
    (c36 : ¬ ((90 : Int) ≤ l5_32.toInt))
    (t50 : 0 ≤ l5_32.toInt → x50.toInt = l5_32.toInt / (30 : Int))
    (t55 : 0 ≤ l5_32.toInt → x55.toInt = l5_32.toInt % (30 : Int))
    (lni62 : (x58.toInt = 1 → (lnI (G.2.1 (F a 10)) (mw (G.2.1 (F a 1)) 0) p0.toInt p1.toInt (l5_32.toInt)) = 1) ∧ (x58.toInt = 0 → (lnI (G.2.1 (F a 10)) (mw (G.2.1 (F a 1)) 0) p0.toInt p1.toInt (l5_32.toInt)) = 0))
    (z62 : (bsI (lnI (G.2.1 (F a 10)) (mw (G.2.1 (F a 1)) 0) p0.toInt p1.toInt) (l5_32.toInt + 1)) = (bsI (lnI (G.2.1 (F a 10)) (mw (G.2.1 (F a 1)) 0) p0.toInt p1.toInt) (l5_32.toInt)) + (lnI (G.2.1 (F a 10)) (mw (G.2.1 (F a 1)) 0) p0.toInt p1.toInt (l5_32.toInt)))
    (hc70 : (l5_32.toInt = l5_32.toInt → (aI (G61.2.1 (F a 51)) (l5_32.toInt)) = x58.toInt) ∧ (l5_32.toInt ≠ l5_32.toInt → (aI (G61.2.1 (F a 51)) (l5_32.toInt)) = (aI (G_32.2.1 (F a 51)) (l5_32.toInt))))
    (f33 : (aI (G61.2.1 (F a 51)) (l5_32.toInt)) = 0 ∨ (aI (G61.2.1 (F a 51)) (l5_32.toInt)) = 1)
    (c71 : ¬ ((aI (G61.2.1 (F a 51)) (l5_32.toInt)) = 0)) :
    ∀ z : Int, 0 ≤ z → z < (l5_32.toInt + 1) → ((aI (G61.2.1 (F a 51))) z = 1 ∧ lnM (G.2.1 (F a 10)) (mw (G.2.1 (F a 1)) 0) 12 (z / 30) (z % 30) p0.toInt p1.toInt) ∨ ((aI (G61.2.1 (F a 51))) z = 0 ∧ ¬ lnM (G.2.1 (F a 10)) (mw (G.2.1 (F a 1)) 0) 12 (z / 30) (z % 30) p0.toInt p1.toInt) := by
  have e50 : x50.toInt = l5_32.toInt / 30 := by omega
  have e55 : x55.toInt = l5_32.toInt % 30 := by omega
  rw [e50, e55] at oq58
  intro z z0 z1
  rw [aI_pu hG61 rfl rfl rfl (by omega) z z0]
  by_cases e : z = l5_32.toInt
  · rw [if_pos e, e]; exact oq58
  · rw [if_neg e]; exact ps z z0 (by omega)
theorem v_X11_leans_30_31 {K : Nat → Nat} {F : Nat → Nat → Nat} (a : Nat) (G : XG) (p0 : Int32) (p1 : Int32) (x8 : Int32) (x18 : Int32) (p2 : Int32)
    (ha : K a = 13)
    (z5 : ¬ (0 ≤ p0.toInt ∧ p0.toInt < 3 ∧ 0 ≤ p1.toInt ∧ p1.toInt < 30) → (cel (mw (G.2.1 (F a 1)) 0) (p0.toInt) (p1.toInt) 0) = -2000)
    (t8 : (x8.toInt = 1 ∧ (cel (mw (G.2.1 (F a 1)) 0) (p0.toInt) (p1.toInt) 0) ≠ -2000) ∨ (x8.toInt = 0 ∧ (cel (mw (G.2.1 (F a 1)) 0) (p0.toInt) (p1.toInt) 0) = -2000))
    (c11 : ¬ (x8.toInt = 0))
    (t18 : (x18.toInt = 1 ∧ (0 : Int) ≤ p2.toInt ∧ p2.toInt ≤ (1 : Int)) ∨ (x18.toInt = 0 ∧ (p2.toInt < (0 : Int) ∨ (1 : Int) < p2.toInt)))
    (c21 : x18.toInt ≠ 0)
    (z29 : (bsI (lnI (G.2.1 (F a 10)) (mw (G.2.1 (F a 1)) 0) p0.toInt p1.toInt) 0) = 0) :
    ∀ z : Int, 0 ≤ z → z < (0 : Int) → ((aI (G.2.1 (F a 51))) z = 1 ∧ lnM (G.2.1 (F a 10)) (mw (G.2.1 (F a 1)) 0) 12 (z / 30) (z % 30) p0.toInt p1.toInt) ∨ ((aI (G.2.1 (F a 51))) z = 0 ∧ ¬ lnM (G.2.1 (F a 10)) (mw (G.2.1 (F a 1)) 0) 12 (z / 30) (z % 30) p0.toInt p1.toInt) := by
  intro z z0 z1
  exact absurd z0 (by omega)
theorem v_X11_leans_25_32 {K : Nat → Nat} {F : Nat → Nat → Nat} (a : Nat) (G : XG) (p0 : Int32) (p1 : Int32) (x8 : Int32) (x18 : Int32) (p2 : Int32)
    (ha : K a = 13)
    (z5 : ¬ (0 ≤ p0.toInt ∧ p0.toInt < 3 ∧ 0 ≤ p1.toInt ∧ p1.toInt < 30) → (cel (mw (G.2.1 (F a 1)) 0) (p0.toInt) (p1.toInt) 0) = -2000)
    (t8 : (x8.toInt = 1 ∧ (cel (mw (G.2.1 (F a 1)) 0) (p0.toInt) (p1.toInt) 0) ≠ -2000) ∨ (x8.toInt = 0 ∧ (cel (mw (G.2.1 (F a 1)) 0) (p0.toInt) (p1.toInt) 0) = -2000))
    (c11 : ¬ (x8.toInt = 0))
    (t18 : (x18.toInt = 1 ∧ (0 : Int) ≤ p2.toInt ∧ p2.toInt ≤ (1 : Int)) ∨ (x18.toInt = 0 ∧ (p2.toInt < (0 : Int) ∨ (1 : Int) < p2.toInt)))
    (c21 : ¬ (x18.toInt ≠ 0)) :
    (¬ (cel (mw (G.2.1 (F a 1)) 0) p0.toInt p1.toInt 0 ≠ -2000 ∧ 0 ≤ p2.toInt ∧ p2.toInt ≤ 1) ∧ (-1 : Int) = -1) ∨ ((cel (mw (G.2.1 (F a 1)) 0) p0.toInt p1.toInt 0 ≠ -2000 ∧ 0 ≤ p2.toInt ∧ p2.toInt ≤ 1) ∧ ((p2.toInt = 0 ∧ (-1 : Int) = bsI (lnI (G.2.1 (F a 10)) (mw (G.2.1 (F a 1)) 0) p0.toInt p1.toInt) 90) ∨ (p2.toInt = 1 ∧ ∃ g : Int → Int, (-1 : Int) = bsI (lnK g (30 * p0.toInt + p1.toInt)) 90 ∧ ∀ z : Int, 0 ≤ z → z < 90 → (g z = 1 ↔ RC1 (lnM (G.2.1 (F a 10)) (mw (G.2.1 (F a 1)) 0) 12) p0.toInt p1.toInt (z / 30) (z % 30))))) := by
  exact Or.inl ⟨by omega, rfl⟩
