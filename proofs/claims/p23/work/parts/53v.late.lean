theorem v_X10_mark_56_1 {K : Nat → Nat} {F : Nat → Nat → Nat} (a : Nat) (xq : Nat) (xj : Nat) (G34 : XG) (G : XG) (x33 : Int32)
    (ha : K a = 12)
    (hxk : K xq = 8)
    (hxj : F xq 99 = 4 + xj)
    (hxs : ((G.1 a 17).toInt) < 8 → G.2.2.1 (F a 7) (((G.1 a 17).toInt)).toNat = some xq)
    (e33 : x33.toInt = (((G.1 a 17).toInt) + (1 : Int)))
    (hn39 : ((G.1 a 17).toInt) < 0 ∨ ((G34.1 a 17).toInt) ≤ ((G.1 a 17).toInt) ∨ 8 ≤ ((G.1 a 17).toInt))
    (m0 : 0 ≤ ((G.1 a 17).toInt) ∧ ((G.1 a 17).toInt) ≤ 8)
    (f22 : ((G.1 a 18).toInt) = 0 ∨ ((G.1 a 18).toInt) = 1)
    (c4 : ((G.1 a 18).toInt) ≠ 0)
    (c16 : ((G.1 a 17).toInt) < (8 : Int))
    (d_G34_a_17 : G34.1 a 17 = x33) :
    ((((G.1 a 18).toInt) = 0 ∨ 8 ≤ ((G.1 a 17).toInt)) ∧ G34.2.1 (F xq 0) = (G.2.1 (F xq 0)) ∧ G34.2.1 (F xq 1) = (G.2.1 (F xq 1))) ∨ ((((G.1 a 18).toInt) ≠ 0 ∧ ((G.1 a 17).toInt) < 8) ∧ (vw (G34.2.1 (F xq 0))) = (vw (G.2.1 (F (F a 3) 0)))) := by
  first
    | (exfalso; rw [d_G34_a_17, e33] at hn39; omega)
    | exact Or.inr ⟨by omega, oq52⟩
theorem v_X10_mark_56_2 {K : Nat → Nat} {F : Nat → Nat → Nat} (a : Nat) (xq : Nat) (xj : Nat) (G34 : XG) (G : XG) (x33 : Int32)
    (ha : K a = 12)
    (hxk : K xq = 8)
    (hxj : F xq 99 = 4 + xj)
    (hxs : ((G.1 a 17).toInt) < 8 → G.2.2.1 (F a 7) (((G.1 a 17).toInt)).toNat = some xq)
    (e33 : x33.toInt = (((G.1 a 17).toInt) + (1 : Int)))
    (hn39 : ((G.1 a 17).toInt) < 0 ∨ ((G34.1 a 17).toInt) ≤ ((G.1 a 17).toInt) ∨ 8 ≤ ((G.1 a 17).toInt))
    (m0 : 0 ≤ ((G.1 a 17).toInt) ∧ ((G.1 a 17).toInt) ≤ 8)
    (f22 : ((G.1 a 18).toInt) = 0 ∨ ((G.1 a 18).toInt) = 1)
    (c4 : ((G.1 a 18).toInt) ≠ 0)
    (c16 : ((G.1 a 17).toInt) < (8 : Int))
    (d_G34_a_17 : G34.1 a 17 = x33) :
    RO (vw (G34.2.1 (F xq 0))) (aI (G34.2.1 (F xq 1))) := by
  first
    | (exfalso; rw [d_G34_a_17, e33] at hn39; omega)
    | exact oq52a
theorem v_X10_mark_42_3 {K : Nat → Nat} {F : Nat → Nat → Nat} (a : Nat) (xq : Nat) (xj : Nat) (q39 : Nat) (G : XG) (G34 : XG)
    (ha : K a = 12)
    (hxk : K xq = 8)
    (hxj : F xq 99 = 4 + xj)
    (f16 : F q39 99 = 4 + (((G.1 a 17).toInt)).toNat)
    (hxs : ((G.1 a 17).toInt) < 8 → G.2.2.1 (F a 7) (((G.1 a 17).toInt)).toNat = some xq)
    (hs39 : F q39 99 = 4 + (((G.1 a 17).toInt)).toNat ∧ G34.2.2.1 (F a 7) (((G.1 a 17).toInt)).toNat = some q39)
    (m0 : 0 ≤ ((G.1 a 17).toInt) ∧ ((G.1 a 17).toInt) ≤ 8)
    (f24 : ((G.1 a 18).toInt) = 0 ∨ ((G.1 a 18).toInt) = 1)
    (c4 : ((G.1 a 18).toInt) ≠ 0)
    (c16 : ((G.1 a 17).toInt) < (8 : Int))
    (ht39 : 0 ≤ ((G.1 a 17).toInt) ∧ ((G.1 a 17).toInt) < (((G.1 a 17).toInt) + (1 : Int)) ∧ ((G.1 a 17).toInt) < 8)
    (r_G34_F_a_7 : G34.2.2.1 (F a 7) = G.2.2.1 (F a 7)) :
    xq = q39 := by
  exact Option.some.inj ((hxs (by omega)).symm.trans (by rw [← r_G34_F_a_7]; exact hs39.2))
theorem v_X10_mark_52_4 {F : Nat → Nat → Nat} (a : Nat) (xq : Nat) (G34 : XG) (G : XG)
    (ron : RO (vw (G.2.1 (F (F a 3) 0))) (aI (G.2.1 (F (F a 3) 1))))
    (rox : RO (vw (G.2.1 (F xq 0))) (aI (G.2.1 (F xq 1))))
    (c_G34_F_F_a_3_0 : G34.2.1 (F (F a 3) 0) = G.2.1 (F (F a 3) 0))
    (c_G34_F_F_a_3_1 : G34.2.1 (F (F a 3) 1) = G.2.1 (F (F a 3) 1)) :
    RO (vw (G34.2.1 (F (F a 3) 0))) (aI (G34.2.1 (F (F a 3) 1))) := by simp only [c_G34_F_F_a_3_0, c_G34_F_F_a_3_1]; assumption
theorem v_X10_mark_56_5 {K : Nat → Nat} {F : Nat → Nat → Nat} (a : Nat) (xq : Nat) (xj : Nat) (G34 : XG) (G : XG) (x33 : Int32) (G52 : XG)
    (ha : K a = 12)
    (hxk : K xq = 8)
    (hxj : F xq 99 = 4 + xj)
    (hxs : ((G.1 a 17).toInt) < 8 → G.2.2.1 (F a 7) (((G.1 a 17).toInt)).toNat = some xq)
    (e33 : x33.toInt = (((G.1 a 17).toInt) + (1 : Int)))
    (hs39 : F xq 99 = 4 + (((G.1 a 17).toInt)).toNat ∧ G34.2.2.1 (F a 7) (((G.1 a 17).toInt)).toNat = some xq)
    (oq52 : (vw (G52.2.1 (F xq 0))) = (vw (G.2.1 (F (F a 3) 0))))
    (m0 : 0 ≤ ((G.1 a 17).toInt) ∧ ((G.1 a 17).toInt) ≤ 8)
    (f25 : ((G.1 a 18).toInt) = 0 ∨ ((G.1 a 18).toInt) = 1)
    (c4 : ((G.1 a 18).toInt) ≠ 0)
    (c16 : ((G.1 a 17).toInt) < (8 : Int))
    (ht39 : 0 ≤ ((G.1 a 17).toInt) ∧ ((G.1 a 17).toInt) < (((G.1 a 17).toInt) + (1 : Int)) ∧ ((G.1 a 17).toInt) < 8)
    (d_G34_a_17 : G34.1 a 17 = x33) :
    ((((G.1 a 18).toInt) = 0 ∨ 8 ≤ ((G.1 a 17).toInt)) ∧ G52.2.1 (F xq 0) = (G.2.1 (F xq 0)) ∧ G52.2.1 (F xq 1) = (G.2.1 (F xq 1))) ∨ ((((G.1 a 18).toInt) ≠ 0 ∧ ((G.1 a 17).toInt) < 8) ∧ (vw (G52.2.1 (F xq 0))) = (vw (G.2.1 (F (F a 3) 0)))) := by
  first
    | (exfalso; rw [d_G34_a_17, e33] at hn39; omega)
    | exact Or.inr ⟨by omega, oq52⟩
theorem v_X10_mark_56_6 {K : Nat → Nat} {F : Nat → Nat → Nat} (a : Nat) (xq : Nat) (xj : Nat) (G34 : XG) (G : XG) (x33 : Int32) (G52 : XG)
    (ha : K a = 12)
    (hxk : K xq = 8)
    (hxj : F xq 99 = 4 + xj)
    (hxs : ((G.1 a 17).toInt) < 8 → G.2.2.1 (F a 7) (((G.1 a 17).toInt)).toNat = some xq)
    (e33 : x33.toInt = (((G.1 a 17).toInt) + (1 : Int)))
    (hs39 : F xq 99 = 4 + (((G.1 a 17).toInt)).toNat ∧ G34.2.2.1 (F a 7) (((G.1 a 17).toInt)).toNat = some xq)
    (oq52a : RO (vw (G52.2.1 (F xq 0))) (aI (G52.2.1 (F xq 1))))
    (m0 : 0 ≤ ((G.1 a 17).toInt) ∧ ((G.1 a 17).toInt) ≤ 8)
    (f25 : ((G.1 a 18).toInt) = 0 ∨ ((G.1 a 18).toInt) = 1)
    (c4 : ((G.1 a 18).toInt) ≠ 0)
    (c16 : ((G.1 a 17).toInt) < (8 : Int))
    (ht39 : 0 ≤ ((G.1 a 17).toInt) ∧ ((G.1 a 17).toInt) < (((G.1 a 17).toInt) + (1 : Int)) ∧ ((G.1 a 17).toInt) < 8)
    (d_G34_a_17 : G34.1 a 17 = x33) :
    RO (vw (G52.2.1 (F xq 0))) (aI (G52.2.1 (F xq 1))) := by
  first
    | (exfalso; rw [d_G34_a_17, e33] at hn39; omega)
    | exact oq52a
theorem v_X10_mark_21_7 {K : Nat → Nat} {F : Nat → Nat → Nat} (a : Nat) (xq : Nat) (xj : Nat) (G : XG)
    (ha : K a = 12)
    (hxk : K xq = 8)
    (hxj : F xq 99 = 4 + xj)
    (hxs : ((G.1 a 17).toInt) < 8 → G.2.2.1 (F a 7) (((G.1 a 17).toInt)).toNat = some xq)
    (m0 : 0 ≤ ((G.1 a 17).toInt) ∧ ((G.1 a 17).toInt) ≤ 8)
    (f19 : ((G.1 a 18).toInt) = 0 ∨ ((G.1 a 18).toInt) = 1)
    (c4 : ((G.1 a 18).toInt) ≠ 0)
    (c16 : ¬ (((G.1 a 17).toInt) < (8 : Int))) :
    ((((G.1 a 18).toInt) = 0 ∨ 8 ≤ ((G.1 a 17).toInt)) ∧ G.2.1 (F xq 0) = (G.2.1 (F xq 0)) ∧ G.2.1 (F xq 1) = (G.2.1 (F xq 1))) ∨ ((((G.1 a 18).toInt) ≠ 0 ∧ ((G.1 a 17).toInt) < 8) ∧ (vw (G.2.1 (F xq 0))) = (vw (G.2.1 (F (F a 3) 0)))) := by
  exact Or.inl ⟨by omega, rfl, rfl⟩
theorem v_X10_mark_21_8 {F : Nat → Nat → Nat} (xq : Nat) (G : XG)
    (rox : RO (vw (G.2.1 (F xq 0))) (aI (G.2.1 (F xq 1)))) :
    RO (vw (G.2.1 (F xq 0))) (aI (G.2.1 (F xq 1))) := by
  exact rox
theorem v_X10_mark_9_9 {K : Nat → Nat} {F : Nat → Nat → Nat} (a : Nat) (xq : Nat) (xj : Nat) (G : XG)
    (ha : K a = 12)
    (hxk : K xq = 8)
    (hxj : F xq 99 = 4 + xj)
    (hxs : ((G.1 a 17).toInt) < 8 → G.2.2.1 (F a 7) (((G.1 a 17).toInt)).toNat = some xq)
    (m0 : 0 ≤ ((G.1 a 17).toInt) ∧ ((G.1 a 17).toInt) ≤ 8)
    (f19 : ((G.1 a 18).toInt) = 0 ∨ ((G.1 a 18).toInt) = 1)
    (c4 : ¬ (((G.1 a 18).toInt) ≠ 0)) :
    ((((G.1 a 18).toInt) = 0 ∨ 8 ≤ ((G.1 a 17).toInt)) ∧ G.2.1 (F xq 0) = (G.2.1 (F xq 0)) ∧ G.2.1 (F xq 1) = (G.2.1 (F xq 1))) ∨ ((((G.1 a 18).toInt) ≠ 0 ∧ ((G.1 a 17).toInt) < 8) ∧ (vw (G.2.1 (F xq 0))) = (vw (G.2.1 (F (F a 3) 0)))) := by
  exact Or.inl ⟨by omega, rfl, rfl⟩
theorem v_X10_mark_9_10 {F : Nat → Nat → Nat} (xq : Nat) (G : XG)
    (rox : RO (vw (G.2.1 (F xq 0))) (aI (G.2.1 (F xq 1)))) :
    RO (vw (G.2.1 (F xq 0))) (aI (G.2.1 (F xq 1))) := by
  exact rox
theorem v_X10_later_22_1 {F : Nat → Nat → Nat} (a : Nat) (G : XG) (G4 : XG) (p0 : Int32) (xq : Nat) (p1 : Int32)
    (hn12 : (p0.toInt < 0 ∨ 12 ≤ p0.toInt) ∨ G4.2.2.1 (F (F a 2) 0) (p0.toInt).toNat = none)
    (c_G4_F_F_a_8_0 : G4.2.1 (F (F a 8) 0) = G.2.1 (F (F a 8) 0))
    (c_G4_F_F_a_8_1 : G4.2.1 (F (F a 8) 1) = G.2.1 (F (F a 8) 1))
    (c_G4_F_F_a_8_2 : G4.2.1 (F (F a 8) 2) = G.2.1 (F (F a 8) 2))
    (c_G4_F_F_a_8_3 : G4.2.1 (F (F a 8) 3) = G.2.1 (F (F a 8) 3))
    (c_G4_F_F_a_8_4 : G4.2.1 (F (F a 8) 4) = G.2.1 (F (F a 8) 4))
    (c_G4_F_F_a_8_5 : G4.2.1 (F (F a 8) 5) = G.2.1 (F (F a 8) 5))
    (r_G4_F_F_a_2_0 : G4.2.2.1 (F (F a 2) 0) = G.2.2.1 (F (F a 2) 0))
    (d_G4_F_a_8_6 : G4.1 (F a 8) 6 = G.1 (F a 8) 6) :
    (((p0.toInt < 0 ∨ 12 ≤ p0.toInt) ∨ G.2.2.1 (F (F a 2) 0) (p0.toInt).toNat = none) ∧ (-2 : Int) = -2 ∧ qL G4 F (F a 8) = qL G F (F a 8)) ∨ (((0 ≤ p0.toInt ∧ p0.toInt < 12) ∧ G.2.2.1 (F (F a 2) 0) (p0.toInt).toNat = some xq) ∧ ((G.1 xq 9).toInt) = p1.toInt ∧ (-2 : Int) = -4 ∧ (((G4.1 xq 9).toInt) = ((G.1 xq 9).toInt) ∧ qL G4 F (F a 8) = qL G F (F a 8))) ∨ (((0 ≤ p0.toInt ∧ p0.toInt < 12) ∧ G.2.2.1 (F (F a 2) 0) (p0.toInt).toNat = some xq) ∧ ((G.1 xq 9).toInt) ≠ p1.toInt ∧ p1.toInt ≠ 0 ∧ ((G4.1 xq 9).toInt) = 1 ∧ ((((G.1 a 18).toInt) = 0 ∧ qL G4 F (F a 8) = qL G F (F a 8) ∧ (-2 : Int) = 0) ∨ (((G.1 a 18).toInt) ≠ 0 ∧ qL G4 F (F a 8) = (gaL (dput G xq 9 1) (G.2.2.1 (F (F a 2) 1)) (vw (G.2.1 (F (F a 4) 0))) (vw (G.2.1 (F (F a 3) 0))) 1 (((G.1 (F a 2) 2).toInt)).toNat) ∧ (-2 : Int) = cnQ (qL G4 F (F a 8)) ((G.1 xq 1).toInt)))) ∨ (((0 ≤ p0.toInt ∧ p0.toInt < 12) ∧ G.2.2.1 (F (F a 2) 0) (p0.toInt).toNat = some xq) ∧ ((G.1 xq 9).toInt) ≠ p1.toInt ∧ p1.toInt = 0 ∧ (((∃ x, x ∈ qL G F (F a 8) ∧ x.1 = ((G.1 xq 1).toInt) ∧ x.2.2.2.2.2 ≠ 0) ∧ (-2 : Int) = -5 ∧ (((G4.1 xq 9).toInt) = ((G.1 xq 9).toInt) ∧ qL G4 F (F a 8) = qL G F (F a 8))) ∨ ((∀ x, x ∈ qL G F (F a 8) → x.1 = ((G.1 xq 1).toInt) → x.2.2.2.2.2 = 0) ∧ ((G4.1 xq 9).toInt) = 0 ∧ ((((G.1 a 18).toInt) = 0 ∧ qL G4 F (F a 8) = qL G F (F a 8) ∧ (-2 : Int) = 0) ∨ (((G.1 a 18).toInt) ≠ 0 ∧ qL G4 F (F a 8) = (gaL (dput G xq 9 0) (G.2.2.1 (F (F a 2) 1)) (vw (G.2.1 (F (F a 4) 0))) (vw (G.2.1 (F (F a 3) 0))) 1 (((G.1 (F a 2) 2).toInt)).toNat) ∧ (-2 : Int) = cnQ (qL G F (F a 8)) ((G.1 xq 1).toInt)))))) := by
  exact Or.inl ⟨by rw [← r_G4_F_F_a_2_0]; exact hn12, rfl, qL_cg d_G4_F_a_8_6 c_G4_F_F_a_8_0 c_G4_F_F_a_8_1 c_G4_F_F_a_8_2 c_G4_F_F_a_8_3 c_G4_F_F_a_8_4 c_G4_F_F_a_8_5⟩
theorem v_X10_later_15_2 {K : Nat → Nat} {F : Nat → Nat → Nat} (a : Nat) (q12 : Nat) (G : XG) (G4 : XG) (p0 : Int32) (xq : Nat)
    (ha : K a = 12)
    (hxs : 0 ≤ p0.toInt → p0.toInt < 12 → ∀ q : Nat, G.2.2.1 (F (F a 2) 0) (p0.toInt).toNat = some q → q = xq)
    (hs12 : G4.2.2.1 (F (F a 2) 0) (p0.toInt).toNat = some q12)
    (sb : 0 ≤ ((G.1 (F a 2) 2).toInt) ∧ ((G.1 (F a 2) 2).toInt) ≤ 12)
    (sw : 0 ≤ ((G.1 (F a 8) 6).toInt) ∧ ((G.1 (F a 8) 6).toInt) ≤ 1080)
    (t4 : ((G4.1 (F a 14) 1).toInt) = 0)
    (ht12 : 0 ≤ p0.toInt ∧ p0.toInt < 12)
    (r_G4_F_F_a_2_0 : G4.2.2.1 (F (F a 2) 0) = G.2.2.1 (F (F a 2) 0)) :
    xq = q12 := by
  exact (hxs (by omega) (by omega) q12 (by rw [← r_G4_F_F_a_2_0]; exact hs12)).symm
theorem v_X10_later_46_3 {F : Nat → Nat → Nat} (a : Nat) (G : XG) (G4 : XG)
    (ron : RO (vw (G.2.1 (F (F a 3) 0))) (aI (G.2.1 (F (F a 3) 1))))
    (rob : RO (vw (G.2.1 (F (F a 4) 0))) (aI (G.2.1 (F (F a 4) 1))))
    (c_G4_F_F_a_3_0 : G4.2.1 (F (F a 3) 0) = G.2.1 (F (F a 3) 0))
    (c_G4_F_F_a_3_1 : G4.2.1 (F (F a 3) 1) = G.2.1 (F (F a 3) 1)) :
    RO (vw (G4.2.1 (F (F a 3) 0))) (aI (G4.2.1 (F (F a 3) 1))) := by simp only [c_G4_F_F_a_3_0, c_G4_F_F_a_3_1]; assumption
theorem v_X10_later_46_4 {F : Nat → Nat → Nat} (a : Nat) (G : XG) (G4 : XG)
    (ron : RO (vw (G.2.1 (F (F a 3) 0))) (aI (G.2.1 (F (F a 3) 1))))
    (rob : RO (vw (G.2.1 (F (F a 4) 0))) (aI (G.2.1 (F (F a 4) 1))))
    (c_G4_F_F_a_4_0 : G4.2.1 (F (F a 4) 0) = G.2.1 (F (F a 4) 0))
    (c_G4_F_F_a_4_1 : G4.2.1 (F (F a 4) 1) = G.2.1 (F (F a 4) 1)) :
    RO (vw (G4.2.1 (F (F a 4) 0))) (aI (G4.2.1 (F (F a 4) 1))) := by simp only [c_G4_F_F_a_4_0, c_G4_F_F_a_4_1]; assumption
theorem v_X10_later_46_5 {K : Nat → Nat} {F : Nat → Nat → Nat} (a : Nat) (xq : Nat) (G : XG) (G4 : XG) (p0 : Int32) (p1 : Int32)
    (ha : K a = 12)
    (hk9999 : K (F a 14) = 11)
    (hj9999 : F (F a 14) 99 = 0)
    (hk9999a : K (F a 11) = 3)
    (hj9999a : F (F a 11) 99 = 0)
    (hk9999b : K (F a 8) = 6)
    (hj9999b : F (F a 8) 99 = 0)
    (hk9999c : K (F a 16) = 27)
    (hj9999c : F (F a 16) 99 = 0)
    (hk9999d : K (F a 15) = 26)
    (hj9999d : F (F a 15) 99 = 0)
    (hk9999e : K (F (F a 11) 0) = 21)
    (hj9999e : F (F (F a 11) 0) 99 = 100)
    (hk9999f : K (F (F a 11) 1) = 21)
    (hj9999f : F (F (F a 11) 1) 99 = 101)
    (hk9999g : K (F (F a 11) 2) = 24)
    (hj9999g : F (F (F a 11) 2) 99 = 4)
    (hk9999h : K (F (F a 8) 0) = 22)
    (hj9999i : F (F (F a 8) 0) 99 = 10 * 0 + 0)
    (hk9999i : K (F (F a 8) 1) = 22)
    (hj9999k : F (F (F a 8) 1) 99 = 10 * 0 + 1)
    (hk9999j : K (F (F a 8) 2) = 22)
    (hj9999m : F (F (F a 8) 2) 99 = 10 * 0 + 2)
    (hk9999k : K (F (F a 8) 3) = 22)
    (hj9999o : F (F (F a 8) 3) 99 = 10 * 0 + 3)
    (hk9999l : K (F (F a 8) 4) = 23)
    (hj9999q : F (F (F a 8) 4) 99 = 10 * 0 + 4)
    (hk9999m : K (F (F a 8) 5) = 23)
    (hj9999s : F (F (F a 8) 5) 99 = 10 * 0 + 5)
    (hk9999n : K (F a 2) = 2)
    (hj9999t : F (F a 2) 99 = 0)
    (hk9999o : K (F (F a 2) 0) = 15)
    (hj9999u : F (F (F a 2) 0) 99 = 0)
    (hk9999p : K (F (F a 2) 1) = 15)
    (hj9999v : F (F (F a 2) 1) 99 = 1)
    (hk9999q : K (F a 4) = 8)
    (hj9999w : F (F a 4) 99 = 1)
    (hk9999r : K (F (F a 4) 0) = 20)
    (hj9999z25 : F (F (F a 4) 0) 99 = 1)
    (hk9999s : K (F (F a 4) 1) = 21)
    (hj9999z27 : F (F (F a 4) 1) 99 = 1)
    (hk9999t : K (F a 3) = 8)
    (hj9999z28 : F (F a 3) 99 = 0)
    (hk9999u : K (F (F a 3) 0) = 20)
    (hj9999z30 : F (F (F a 3) 0) 99 = 0)
    (hk9999v : K (F (F a 3) 1) = 21)
    (hj9999z32 : F (F (F a 3) 1) 99 = 0)
    (hk12 : K xq = 9)
    (hF4 : XFr [(F a 14, 1)] [] [] G G4)
    (hxs : 0 ≤ p0.toInt → p0.toInt < 12 → ∀ q : Nat, G.2.2.1 (F (F a 2) 0) (p0.toInt).toNat = some q → q = xq)
    (bko : BKr K G (G.2.2.1 (F (F a 2) 1)))
    (hs12 : G4.2.2.1 (F (F a 2) 0) (p0.toInt).toNat = some xq)
    (sb : 0 ≤ ((G.1 (F a 2) 2).toInt) ∧ ((G.1 (F a 2) 2).toInt) ≤ 12)
    (sw : 0 ≤ ((G.1 (F a 8) 6).toInt) ∧ ((G.1 (F a 8) 6).toInt) ≤ 1080)
    (t4 : ((G4.1 (F a 14) 1).toInt) = 0)
    (ht12 : 0 ≤ p0.toInt ∧ p0.toInt < 12)
    (f58 : ((G.1 xq 9).toInt) = 0 ∨ ((G.1 xq 9).toInt) = 1)
    (c28 : ((G.1 xq 9).toInt) ≠ p1.toInt)
    (c35 : p1.toInt = 0)
    (r_G4_F_F_a_2_1 : G4.2.2.1 (F (F a 2) 1) = G.2.2.1 (F (F a 2) 1)) :
    BKr K G4 (G4.2.2.1 (F (F a 2) 1)) := by
  rw [r_G4_F_F_a_2_1]
  exact bko.fr hF4 (List.forall_mem_cons.mpr ⟨(show K (F a 14) ≠ 9 by omega), fun _ h => by cases h⟩)
theorem v_X10_later_49_6 {K : Nat → Nat} {F : Nat → Nat → Nat} (a : Nat) (xq : Nat) (G : XG) (G4 : XG) (G46 : XG) (p0 : Int32) (x46 : Int32) (p1 : Int32)
    (ha : K a = 12)
    (hk9999 : K (F a 14) = 11)
    (hj9999 : F (F a 14) 99 = 0)
    (hk9999a : K (F a 11) = 3)
    (hj9999a : F (F a 11) 99 = 0)
    (hk9999b : K (F a 8) = 6)
    (hj9999b : F (F a 8) 99 = 0)
    (hk9999c : K (F a 16) = 27)
    (hj9999c : F (F a 16) 99 = 0)
    (hk9999d : K (F a 15) = 26)
    (hj9999d : F (F a 15) 99 = 0)
    (hk9999e : K (F (F a 11) 0) = 21)
    (hj9999e : F (F (F a 11) 0) 99 = 100)
    (hk9999f : K (F (F a 11) 1) = 21)
    (hj9999f : F (F (F a 11) 1) 99 = 101)
    (hk9999g : K (F (F a 11) 2) = 24)
    (hj9999g : F (F (F a 11) 2) 99 = 4)
    (hk9999h : K (F (F a 8) 0) = 22)
    (hj9999i : F (F (F a 8) 0) 99 = 10 * 0 + 0)
    (hk9999i : K (F (F a 8) 1) = 22)
    (hj9999k : F (F (F a 8) 1) 99 = 10 * 0 + 1)
    (hk9999j : K (F (F a 8) 2) = 22)
    (hj9999m : F (F (F a 8) 2) 99 = 10 * 0 + 2)
    (hk9999k : K (F (F a 8) 3) = 22)
    (hj9999o : F (F (F a 8) 3) 99 = 10 * 0 + 3)
    (hk9999l : K (F (F a 8) 4) = 23)
    (hj9999q : F (F (F a 8) 4) 99 = 10 * 0 + 4)
    (hk9999m : K (F (F a 8) 5) = 23)
    (hj9999s : F (F (F a 8) 5) 99 = 10 * 0 + 5)
    (hk9999n : K (F a 2) = 2)
    (hj9999t : F (F a 2) 99 = 0)
    (hk9999o : K (F (F a 2) 0) = 15)
    (hj9999u : F (F (F a 2) 0) 99 = 0)
    (hk9999p : K (F (F a 2) 1) = 15)
    (hj9999v : F (F (F a 2) 1) 99 = 1)
    (hk9999q : K (F a 4) = 8)
    (hj9999w : F (F a 4) 99 = 1)
    (hk9999r : K (F (F a 4) 0) = 20)
    (hj9999z25 : F (F (F a 4) 0) 99 = 1)
    (hk9999s : K (F (F a 4) 1) = 21)
    (hj9999z27 : F (F (F a 4) 1) 99 = 1)
    (hk9999t : K (F a 3) = 8)
    (hj9999z28 : F (F a 3) 99 = 0)
    (hk9999u : K (F (F a 3) 0) = 20)
    (hj9999z30 : F (F (F a 3) 0) 99 = 0)
    (hk9999v : K (F (F a 3) 1) = 21)
    (hj9999z32 : F (F (F a 3) 1) 99 = 0)
    (hk12 : K xq = 9)
    (hF4 : XFr [(F a 14, 1)] [] [] G G4)
    (hxs : 0 ≤ p0.toInt → p0.toInt < 12 → ∀ q : Nat, G.2.2.1 (F (F a 2) 0) (p0.toInt).toNat = some q → q = xq)
    (bko : BKr K G (G.2.2.1 (F (F a 2) 1)))
    (hs12 : G4.2.2.1 (F (F a 2) 0) (p0.toInt).toNat = some xq)
    (oq46 : ((∃ x, x ∈ qL G4 F (F a 8) ∧ x.1 = ((G.1 xq 1).toInt) ∧ x.2.2.2.2.2 ≠ 0) ∧ x46.toInt = -5 ∧ ((G46.1 xq 9).toInt) = ((G.1 xq 9).toInt) ∧ qL G46 F (F a 8) = qL G4 F (F a 8)) ∨ ((∀ x, x ∈ qL G4 F (F a 8) → x.1 = ((G.1 xq 1).toInt) → x.2.2.2.2.2 = 0) ∧ ((G46.1 xq 9).toInt) = 0 ∧ ((((G.1 a 18).toInt) = 0 ∧ qL G46 F (F a 8) = qL G4 F (F a 8) ∧ x46.toInt = 0) ∨ (((G.1 a 18).toInt) ≠ 0 ∧ qL G46 F (F a 8) = (gaL (dput G4 xq 9 0) (G4.2.2.1 (F (F a 2) 1)) (vw (G.2.1 (F (F a 4) 0))) (vw (G.2.1 (F (F a 3) 0))) 1 (((G.1 (F a 2) 2).toInt)).toNat) ∧ x46.toInt = cnQ (qL G4 F (F a 8)) ((G.1 xq 1).toInt)))))
    (sb : 0 ≤ ((G.1 (F a 2) 2).toInt) ∧ ((G.1 (F a 2) 2).toInt) ≤ 12)
    (sw : 0 ≤ ((G.1 (F a 8) 6).toInt) ∧ ((G.1 (F a 8) 6).toInt) ≤ 1080)
    (t4 : ((G4.1 (F a 14) 1).toInt) = 0)
    (ht12 : 0 ≤ p0.toInt ∧ p0.toInt < 12)
    (f60 : ((G.1 xq 9).toInt) = 0 ∨ ((G.1 xq 9).toInt) = 1)
    (c28 : ((G.1 xq 9).toInt) ≠ p1.toInt)
    (c35 : p1.toInt = 0)
    (t46 : 0 ≤ ((G46.1 (F a 8) 6).toInt) ∧ ((G46.1 (F a 8) 6).toInt) ≤ 1080)
    (c_G4_F_F_a_8_0 : G4.2.1 (F (F a 8) 0) = G.2.1 (F (F a 8) 0))
    (c_G4_F_F_a_8_1 : G4.2.1 (F (F a 8) 1) = G.2.1 (F (F a 8) 1))
    (c_G4_F_F_a_8_2 : G4.2.1 (F (F a 8) 2) = G.2.1 (F (F a 8) 2))
    (c_G4_F_F_a_8_3 : G4.2.1 (F (F a 8) 3) = G.2.1 (F (F a 8) 3))
    (c_G4_F_F_a_8_4 : G4.2.1 (F (F a 8) 4) = G.2.1 (F (F a 8) 4))
    (c_G4_F_F_a_8_5 : G4.2.1 (F (F a 8) 5) = G.2.1 (F (F a 8) 5))
    (r_G4_F_F_a_2_0 : G4.2.2.1 (F (F a 2) 0) = G.2.2.1 (F (F a 2) 0))
    (r_G4_F_F_a_2_1 : G4.2.2.1 (F (F a 2) 1) = G.2.2.1 (F (F a 2) 1))
    (d_G4_F_a_8_6 : G4.1 (F a 8) 6 = G.1 (F a 8) 6) :
    (((p0.toInt < 0 ∨ 12 ≤ p0.toInt) ∨ G.2.2.1 (F (F a 2) 0) (p0.toInt).toNat = none) ∧ x46.toInt = -2 ∧ qL G46 F (F a 8) = qL G F (F a 8)) ∨ (((0 ≤ p0.toInt ∧ p0.toInt < 12) ∧ G.2.2.1 (F (F a 2) 0) (p0.toInt).toNat = some xq) ∧ ((G.1 xq 9).toInt) = p1.toInt ∧ x46.toInt = -4 ∧ (((G46.1 xq 9).toInt) = ((G.1 xq 9).toInt) ∧ qL G46 F (F a 8) = qL G F (F a 8))) ∨ (((0 ≤ p0.toInt ∧ p0.toInt < 12) ∧ G.2.2.1 (F (F a 2) 0) (p0.toInt).toNat = some xq) ∧ ((G.1 xq 9).toInt) ≠ p1.toInt ∧ p1.toInt ≠ 0 ∧ ((G46.1 xq 9).toInt) = 1 ∧ ((((G.1 a 18).toInt) = 0 ∧ qL G46 F (F a 8) = qL G F (F a 8) ∧ x46.toInt = 0) ∨ (((G.1 a 18).toInt) ≠ 0 ∧ qL G46 F (F a 8) = (gaL (dput G xq 9 1) (G.2.2.1 (F (F a 2) 1)) (vw (G.2.1 (F (F a 4) 0))) (vw (G.2.1 (F (F a 3) 0))) 1 (((G.1 (F a 2) 2).toInt)).toNat) ∧ x46.toInt = cnQ (qL G46 F (F a 8)) ((G.1 xq 1).toInt)))) ∨ (((0 ≤ p0.toInt ∧ p0.toInt < 12) ∧ G.2.2.1 (F (F a 2) 0) (p0.toInt).toNat = some xq) ∧ ((G.1 xq 9).toInt) ≠ p1.toInt ∧ p1.toInt = 0 ∧ (((∃ x, x ∈ qL G F (F a 8) ∧ x.1 = ((G.1 xq 1).toInt) ∧ x.2.2.2.2.2 ≠ 0) ∧ x46.toInt = -5 ∧ (((G46.1 xq 9).toInt) = ((G.1 xq 9).toInt) ∧ qL G46 F (F a 8) = qL G F (F a 8))) ∨ ((∀ x, x ∈ qL G F (F a 8) → x.1 = ((G.1 xq 1).toInt) → x.2.2.2.2.2 = 0) ∧ ((G46.1 xq 9).toInt) = 0 ∧ ((((G.1 a 18).toInt) = 0 ∧ qL G46 F (F a 8) = qL G F (F a 8) ∧ x46.toInt = 0) ∨ (((G.1 a 18).toInt) ≠ 0 ∧ qL G46 F (F a 8) = (gaL (dput G xq 9 0) (G.2.2.1 (F (F a 2) 1)) (vw (G.2.1 (F (F a 4) 0))) (vw (G.2.1 (F (F a 3) 0))) 1 (((G.1 (F a 2) 2).toInt)).toNat) ∧ x46.toInt = cnQ (qL G F (F a 8)) ((G.1 xq 1).toInt)))))) := by
  have hq : G.2.2.1 (F (F a 2) 0) (p0.toInt).toNat = some xq := by rw [← r_G4_F_F_a_2_0]; exact hs12
  have e4 : qL G4 F (F a 8) = qL G F (F a 8) := qL_cg d_G4_F_a_8_6 c_G4_F_F_a_8_0 c_G4_F_F_a_8_1 c_G4_F_F_a_8_2 c_G4_F_F_a_8_3 c_G4_F_F_a_8_4 c_G4_F_F_a_8_5
  have h4 : ∀ q : Nat, K q = 9 → G4.1 q = G.1 q := fun q hk => hF4.rule (List.forall_mem_cons.mpr ⟨(show K (F a 14) ≠ 9 by omega), fun _ h => by cases h⟩) hk
  have g4 : ∀ v : Int32, gaL (dput G4 xq 9 v) (G4.2.2.1 (F (F a 2) 1)) (vw (G.2.1 (F (F a 4) 0))) (vw (G.2.1 (F (F a 3) 0))) 1 ((G.1 (F a 2) 2).toInt).toNat = gaL (dput G xq 9 v) (G.2.2.1 (F (F a 2) 1)) (vw (G.2.1 (F (F a 4) 0))) (vw (G.2.1 (F (F a 3) 0))) 1 ((G.1 (F a 2) 2).toInt).toNat := fun v => by
    rw [r_G4_F_F_a_2_1]
    refine gaL_cg (fun i q hi hq => ?_)
    have hk := (bko i q (by omega) hq).1
    funext j
    show up2 G4.1 xq 9 v q j = up2 G.1 xq 9 v q j
    unfold up2
    rw [h4 q hk]
  refine Or.inr (Or.inr (Or.inr ⟨⟨by omega, hq⟩, by omega, by omega, ?_⟩))
  rw [e4] at oq46
  rcases oq46 with ⟨a1, a2, a3, a4⟩ | ⟨a1, a2, a3⟩
  · exact Or.inl ⟨a1, a2, a3, a4⟩
  · refine Or.inr ⟨a1, a2, ?_⟩
    rcases a3 with ⟨b1, b2, b3⟩ | ⟨b1, b2, b3⟩
    · exact Or.inl ⟨by omega, b2, b3⟩
    · exact Or.inr ⟨by omega, b2.trans (g4 0), b3⟩
theorem v_X10_later_40_7 {F : Nat → Nat → Nat} (a : Nat) (G : XG) (G4 : XG)
    (ron : RO (vw (G.2.1 (F (F a 3) 0))) (aI (G.2.1 (F (F a 3) 1))))
    (rob : RO (vw (G.2.1 (F (F a 4) 0))) (aI (G.2.1 (F (F a 4) 1))))
    (c_G4_F_F_a_3_0 : G4.2.1 (F (F a 3) 0) = G.2.1 (F (F a 3) 0))
    (c_G4_F_F_a_3_1 : G4.2.1 (F (F a 3) 1) = G.2.1 (F (F a 3) 1)) :
    RO (vw (G4.2.1 (F (F a 3) 0))) (aI (G4.2.1 (F (F a 3) 1))) := by simp only [c_G4_F_F_a_3_0, c_G4_F_F_a_3_1]; assumption
theorem v_X10_later_40_8 {F : Nat → Nat → Nat} (a : Nat) (G : XG) (G4 : XG)
    (ron : RO (vw (G.2.1 (F (F a 3) 0))) (aI (G.2.1 (F (F a 3) 1))))
    (rob : RO (vw (G.2.1 (F (F a 4) 0))) (aI (G.2.1 (F (F a 4) 1))))
    (c_G4_F_F_a_4_0 : G4.2.1 (F (F a 4) 0) = G.2.1 (F (F a 4) 0))
    (c_G4_F_F_a_4_1 : G4.2.1 (F (F a 4) 1) = G.2.1 (F (F a 4) 1)) :
    RO (vw (G4.2.1 (F (F a 4) 0))) (aI (G4.2.1 (F (F a 4) 1))) := by simp only [c_G4_F_F_a_4_0, c_G4_F_F_a_4_1]; assumption
theorem v_X10_later_40_9 {K : Nat → Nat} {F : Nat → Nat → Nat} (a : Nat) (xq : Nat) (G : XG) (G4 : XG) (p0 : Int32) (p1 : Int32)
    (ha : K a = 12)
    (hk9999 : K (F a 14) = 11)
    (hj9999 : F (F a 14) 99 = 0)
    (hk9999a : K (F a 11) = 3)
    (hj9999a : F (F a 11) 99 = 0)
    (hk9999b : K (F a 8) = 6)
    (hj9999b : F (F a 8) 99 = 0)
    (hk9999c : K (F a 16) = 27)
    (hj9999c : F (F a 16) 99 = 0)
    (hk9999d : K (F a 15) = 26)
    (hj9999d : F (F a 15) 99 = 0)
    (hk9999e : K (F (F a 11) 0) = 21)
    (hj9999e : F (F (F a 11) 0) 99 = 100)
    (hk9999f : K (F (F a 11) 1) = 21)
    (hj9999f : F (F (F a 11) 1) 99 = 101)
    (hk9999g : K (F (F a 11) 2) = 24)
    (hj9999g : F (F (F a 11) 2) 99 = 4)
    (hk9999h : K (F (F a 8) 0) = 22)
    (hj9999i : F (F (F a 8) 0) 99 = 10 * 0 + 0)
    (hk9999i : K (F (F a 8) 1) = 22)
    (hj9999k : F (F (F a 8) 1) 99 = 10 * 0 + 1)
    (hk9999j : K (F (F a 8) 2) = 22)
    (hj9999m : F (F (F a 8) 2) 99 = 10 * 0 + 2)
    (hk9999k : K (F (F a 8) 3) = 22)
    (hj9999o : F (F (F a 8) 3) 99 = 10 * 0 + 3)
    (hk9999l : K (F (F a 8) 4) = 23)
    (hj9999q : F (F (F a 8) 4) 99 = 10 * 0 + 4)
    (hk9999m : K (F (F a 8) 5) = 23)
    (hj9999s : F (F (F a 8) 5) 99 = 10 * 0 + 5)
    (hk9999n : K (F a 2) = 2)
    (hj9999t : F (F a 2) 99 = 0)
    (hk9999o : K (F (F a 2) 0) = 15)
    (hj9999u : F (F (F a 2) 0) 99 = 0)
    (hk9999p : K (F (F a 2) 1) = 15)
    (hj9999v : F (F (F a 2) 1) 99 = 1)
    (hk9999q : K (F a 4) = 8)
    (hj9999w : F (F a 4) 99 = 1)
    (hk9999r : K (F (F a 4) 0) = 20)
    (hj9999z25 : F (F (F a 4) 0) 99 = 1)
    (hk9999s : K (F (F a 4) 1) = 21)
    (hj9999z27 : F (F (F a 4) 1) 99 = 1)
    (hk9999t : K (F a 3) = 8)
    (hj9999z28 : F (F a 3) 99 = 0)
    (hk9999u : K (F (F a 3) 0) = 20)
    (hj9999z30 : F (F (F a 3) 0) 99 = 0)
    (hk9999v : K (F (F a 3) 1) = 21)
    (hj9999z32 : F (F (F a 3) 1) 99 = 0)
    (hk12 : K xq = 9)
    (hF4 : XFr [(F a 14, 1)] [] [] G G4)
    (hxs : 0 ≤ p0.toInt → p0.toInt < 12 → ∀ q : Nat, G.2.2.1 (F (F a 2) 0) (p0.toInt).toNat = some q → q = xq)
    (bko : BKr K G (G.2.2.1 (F (F a 2) 1)))
    (hs12 : G4.2.2.1 (F (F a 2) 0) (p0.toInt).toNat = some xq)
    (sb : 0 ≤ ((G.1 (F a 2) 2).toInt) ∧ ((G.1 (F a 2) 2).toInt) ≤ 12)
    (sw : 0 ≤ ((G.1 (F a 8) 6).toInt) ∧ ((G.1 (F a 8) 6).toInt) ≤ 1080)
    (t4 : ((G4.1 (F a 14) 1).toInt) = 0)
    (ht12 : 0 ≤ p0.toInt ∧ p0.toInt < 12)
    (f58 : ((G.1 xq 9).toInt) = 0 ∨ ((G.1 xq 9).toInt) = 1)
    (c28 : ((G.1 xq 9).toInt) ≠ p1.toInt)
    (c35 : ¬ (p1.toInt = 0))
    (r_G4_F_F_a_2_1 : G4.2.2.1 (F (F a 2) 1) = G.2.2.1 (F (F a 2) 1)) :
    BKr K G4 (G4.2.2.1 (F (F a 2) 1)) := by
  rw [r_G4_F_F_a_2_1]
  exact bko.fr hF4 (List.forall_mem_cons.mpr ⟨(show K (F a 14) ≠ 9 by omega), fun _ h => by cases h⟩)
theorem v_X10_later_43_10 {K : Nat → Nat} {F : Nat → Nat → Nat} (a : Nat) (xq : Nat) (G : XG) (G4 : XG) (G40 : XG) (p0 : Int32) (x40 : Int32) (p1 : Int32)
    (ha : K a = 12)
    (hk9999 : K (F a 14) = 11)
    (hj9999 : F (F a 14) 99 = 0)
    (hk9999a : K (F a 11) = 3)
    (hj9999a : F (F a 11) 99 = 0)
    (hk9999b : K (F a 8) = 6)
    (hj9999b : F (F a 8) 99 = 0)
    (hk9999c : K (F a 16) = 27)
    (hj9999c : F (F a 16) 99 = 0)
    (hk9999d : K (F a 15) = 26)
    (hj9999d : F (F a 15) 99 = 0)
    (hk9999e : K (F (F a 11) 0) = 21)
    (hj9999e : F (F (F a 11) 0) 99 = 100)
    (hk9999f : K (F (F a 11) 1) = 21)
    (hj9999f : F (F (F a 11) 1) 99 = 101)
    (hk9999g : K (F (F a 11) 2) = 24)
    (hj9999g : F (F (F a 11) 2) 99 = 4)
    (hk9999h : K (F (F a 8) 0) = 22)
    (hj9999i : F (F (F a 8) 0) 99 = 10 * 0 + 0)
    (hk9999i : K (F (F a 8) 1) = 22)
    (hj9999k : F (F (F a 8) 1) 99 = 10 * 0 + 1)
    (hk9999j : K (F (F a 8) 2) = 22)
    (hj9999m : F (F (F a 8) 2) 99 = 10 * 0 + 2)
    (hk9999k : K (F (F a 8) 3) = 22)
    (hj9999o : F (F (F a 8) 3) 99 = 10 * 0 + 3)
    (hk9999l : K (F (F a 8) 4) = 23)
    (hj9999q : F (F (F a 8) 4) 99 = 10 * 0 + 4)
    (hk9999m : K (F (F a 8) 5) = 23)
    (hj9999s : F (F (F a 8) 5) 99 = 10 * 0 + 5)
    (hk9999n : K (F a 2) = 2)
    (hj9999t : F (F a 2) 99 = 0)
    (hk9999o : K (F (F a 2) 0) = 15)
    (hj9999u : F (F (F a 2) 0) 99 = 0)
    (hk9999p : K (F (F a 2) 1) = 15)
    (hj9999v : F (F (F a 2) 1) 99 = 1)
    (hk9999q : K (F a 4) = 8)
    (hj9999w : F (F a 4) 99 = 1)
    (hk9999r : K (F (F a 4) 0) = 20)
    (hj9999z25 : F (F (F a 4) 0) 99 = 1)
    (hk9999s : K (F (F a 4) 1) = 21)
    (hj9999z27 : F (F (F a 4) 1) 99 = 1)
    (hk9999t : K (F a 3) = 8)
    (hj9999z28 : F (F a 3) 99 = 0)
    (hk9999u : K (F (F a 3) 0) = 20)
    (hj9999z30 : F (F (F a 3) 0) 99 = 0)
    (hk9999v : K (F (F a 3) 1) = 21)
    (hj9999z32 : F (F (F a 3) 1) 99 = 0)
    (hk12 : K xq = 9)
    (hF4 : XFr [(F a 14, 1)] [] [] G G4)
    (hxs : 0 ≤ p0.toInt → p0.toInt < 12 → ∀ q : Nat, G.2.2.1 (F (F a 2) 0) (p0.toInt).toNat = some q → q = xq)
    (bko : BKr K G (G.2.2.1 (F (F a 2) 1)))
    (hs12 : G4.2.2.1 (F (F a 2) 0) (p0.toInt).toNat = some xq)
    (oq40 : (((G.1 a 18).toInt) = 0 ∧ qL G40 F (F a 8) = qL G4 F (F a 8) ∧ x40.toInt = 0) ∨ (((G.1 a 18).toInt) ≠ 0 ∧ qL G40 F (F a 8) = (gaL (dput G4 xq 9 1) (G4.2.2.1 (F (F a 2) 1)) (vw (G.2.1 (F (F a 4) 0))) (vw (G.2.1 (F (F a 3) 0))) 1 (((G.1 (F a 2) 2).toInt)).toNat) ∧ x40.toInt = cnQ (qL G40 F (F a 8)) ((G.1 xq 1).toInt)))
    (sb : 0 ≤ ((G.1 (F a 2) 2).toInt) ∧ ((G.1 (F a 2) 2).toInt) ≤ 12)
    (sw : 0 ≤ ((G.1 (F a 8) 6).toInt) ∧ ((G.1 (F a 8) 6).toInt) ≤ 1080)
    (t4 : ((G4.1 (F a 14) 1).toInt) = 0)
    (ht12 : 0 ≤ p0.toInt ∧ p0.toInt < 12)
    (f60 : ((G.1 xq 9).toInt) = 0 ∨ ((G.1 xq 9).toInt) = 1)
    (c28 : ((G.1 xq 9).toInt) ≠ p1.toInt)
    (c35 : ¬ (p1.toInt = 0))
    (t40 : ((G40.1 xq 9).toInt) = 1 ∧ 0 ≤ ((G40.1 (F a 8) 6).toInt) ∧ ((G40.1 (F a 8) 6).toInt) ≤ 1080)
    (c_G4_F_F_a_8_0 : G4.2.1 (F (F a 8) 0) = G.2.1 (F (F a 8) 0))
    (c_G4_F_F_a_8_1 : G4.2.1 (F (F a 8) 1) = G.2.1 (F (F a 8) 1))
    (c_G4_F_F_a_8_2 : G4.2.1 (F (F a 8) 2) = G.2.1 (F (F a 8) 2))
    (c_G4_F_F_a_8_3 : G4.2.1 (F (F a 8) 3) = G.2.1 (F (F a 8) 3))
    (c_G4_F_F_a_8_4 : G4.2.1 (F (F a 8) 4) = G.2.1 (F (F a 8) 4))
    (c_G4_F_F_a_8_5 : G4.2.1 (F (F a 8) 5) = G.2.1 (F (F a 8) 5))
    (r_G4_F_F_a_2_0 : G4.2.2.1 (F (F a 2) 0) = G.2.2.1 (F (F a 2) 0))
    (r_G4_F_F_a_2_1 : G4.2.2.1 (F (F a 2) 1) = G.2.2.1 (F (F a 2) 1))
    (d_G4_F_a_8_6 : G4.1 (F a 8) 6 = G.1 (F a 8) 6) :
    (((p0.toInt < 0 ∨ 12 ≤ p0.toInt) ∨ G.2.2.1 (F (F a 2) 0) (p0.toInt).toNat = none) ∧ x40.toInt = -2 ∧ qL G40 F (F a 8) = qL G F (F a 8)) ∨ (((0 ≤ p0.toInt ∧ p0.toInt < 12) ∧ G.2.2.1 (F (F a 2) 0) (p0.toInt).toNat = some xq) ∧ ((G.1 xq 9).toInt) = p1.toInt ∧ x40.toInt = -4 ∧ (((G40.1 xq 9).toInt) = ((G.1 xq 9).toInt) ∧ qL G40 F (F a 8) = qL G F (F a 8))) ∨ (((0 ≤ p0.toInt ∧ p0.toInt < 12) ∧ G.2.2.1 (F (F a 2) 0) (p0.toInt).toNat = some xq) ∧ ((G.1 xq 9).toInt) ≠ p1.toInt ∧ p1.toInt ≠ 0 ∧ ((G40.1 xq 9).toInt) = 1 ∧ ((((G.1 a 18).toInt) = 0 ∧ qL G40 F (F a 8) = qL G F (F a 8) ∧ x40.toInt = 0) ∨ (((G.1 a 18).toInt) ≠ 0 ∧ qL G40 F (F a 8) = (gaL (dput G xq 9 1) (G.2.2.1 (F (F a 2) 1)) (vw (G.2.1 (F (F a 4) 0))) (vw (G.2.1 (F (F a 3) 0))) 1 (((G.1 (F a 2) 2).toInt)).toNat) ∧ x40.toInt = cnQ (qL G40 F (F a 8)) ((G.1 xq 1).toInt)))) ∨ (((0 ≤ p0.toInt ∧ p0.toInt < 12) ∧ G.2.2.1 (F (F a 2) 0) (p0.toInt).toNat = some xq) ∧ ((G.1 xq 9).toInt) ≠ p1.toInt ∧ p1.toInt = 0 ∧ (((∃ x, x ∈ qL G F (F a 8) ∧ x.1 = ((G.1 xq 1).toInt) ∧ x.2.2.2.2.2 ≠ 0) ∧ x40.toInt = -5 ∧ (((G40.1 xq 9).toInt) = ((G.1 xq 9).toInt) ∧ qL G40 F (F a 8) = qL G F (F a 8))) ∨ ((∀ x, x ∈ qL G F (F a 8) → x.1 = ((G.1 xq 1).toInt) → x.2.2.2.2.2 = 0) ∧ ((G40.1 xq 9).toInt) = 0 ∧ ((((G.1 a 18).toInt) = 0 ∧ qL G40 F (F a 8) = qL G F (F a 8) ∧ x40.toInt = 0) ∨ (((G.1 a 18).toInt) ≠ 0 ∧ qL G40 F (F a 8) = (gaL (dput G xq 9 0) (G.2.2.1 (F (F a 2) 1)) (vw (G.2.1 (F (F a 4) 0))) (vw (G.2.1 (F (F a 3) 0))) 1 (((G.1 (F a 2) 2).toInt)).toNat) ∧ x40.toInt = cnQ (qL G F (F a 8)) ((G.1 xq 1).toInt)))))) := by
  have hq : G.2.2.1 (F (F a 2) 0) (p0.toInt).toNat = some xq := by rw [← r_G4_F_F_a_2_0]; exact hs12
  have e4 : qL G4 F (F a 8) = qL G F (F a 8) := qL_cg d_G4_F_a_8_6 c_G4_F_F_a_8_0 c_G4_F_F_a_8_1 c_G4_F_F_a_8_2 c_G4_F_F_a_8_3 c_G4_F_F_a_8_4 c_G4_F_F_a_8_5
  have h4 : ∀ q : Nat, K q = 9 → G4.1 q = G.1 q := fun q hk => hF4.rule (List.forall_mem_cons.mpr ⟨(show K (F a 14) ≠ 9 by omega), fun _ h => by cases h⟩) hk
  have g4 : ∀ v : Int32, gaL (dput G4 xq 9 v) (G4.2.2.1 (F (F a 2) 1)) (vw (G.2.1 (F (F a 4) 0))) (vw (G.2.1 (F (F a 3) 0))) 1 ((G.1 (F a 2) 2).toInt).toNat = gaL (dput G xq 9 v) (G.2.2.1 (F (F a 2) 1)) (vw (G.2.1 (F (F a 4) 0))) (vw (G.2.1 (F (F a 3) 0))) 1 ((G.1 (F a 2) 2).toInt).toNat := fun v => by
    rw [r_G4_F_F_a_2_1]
    refine gaL_cg (fun i q hi hq => ?_)
    have hk := (bko i q (by omega) hq).1
    funext j
    show up2 G4.1 xq 9 v q j = up2 G.1 xq 9 v q j
    unfold up2
    rw [h4 q hk]
  refine Or.inr (Or.inr (Or.inl ⟨⟨by omega, hq⟩, by omega, by omega, by omega, ?_⟩))
  rcases oq40 with ⟨a1, a2, a3⟩ | ⟨a1, a2, a3⟩
  · exact Or.inl ⟨by omega, a2.trans e4, a3⟩
  · exact Or.inr ⟨by omega, a2.trans (g4 1), a3⟩
theorem v_X10_later_33_11 {K : Nat → Nat} {F : Nat → Nat → Nat} (a : Nat) (xq : Nat) (G : XG) (G4 : XG) (p0 : Int32) (p1 : Int32)
    (ha : K a = 12)
    (hxs : 0 ≤ p0.toInt → p0.toInt < 12 → ∀ q : Nat, G.2.2.1 (F (F a 2) 0) (p0.toInt).toNat = some q → q = xq)
    (hs12 : G4.2.2.1 (F (F a 2) 0) (p0.toInt).toNat = some xq)
    (sb : 0 ≤ ((G.1 (F a 2) 2).toInt) ∧ ((G.1 (F a 2) 2).toInt) ≤ 12)
    (sw : 0 ≤ ((G.1 (F a 8) 6).toInt) ∧ ((G.1 (F a 8) 6).toInt) ≤ 1080)
    (t4 : ((G4.1 (F a 14) 1).toInt) = 0)
    (ht12 : 0 ≤ p0.toInt ∧ p0.toInt < 12)
    (f58 : ((G.1 xq 9).toInt) = 0 ∨ ((G.1 xq 9).toInt) = 1)
    (c28 : ¬ (((G.1 xq 9).toInt) ≠ p1.toInt))
    (c_G4_F_F_a_8_0 : G4.2.1 (F (F a 8) 0) = G.2.1 (F (F a 8) 0))
    (c_G4_F_F_a_8_1 : G4.2.1 (F (F a 8) 1) = G.2.1 (F (F a 8) 1))
    (c_G4_F_F_a_8_2 : G4.2.1 (F (F a 8) 2) = G.2.1 (F (F a 8) 2))
    (c_G4_F_F_a_8_3 : G4.2.1 (F (F a 8) 3) = G.2.1 (F (F a 8) 3))
    (c_G4_F_F_a_8_4 : G4.2.1 (F (F a 8) 4) = G.2.1 (F (F a 8) 4))
    (c_G4_F_F_a_8_5 : G4.2.1 (F (F a 8) 5) = G.2.1 (F (F a 8) 5))
    (r_G4_F_F_a_2_0 : G4.2.2.1 (F (F a 2) 0) = G.2.2.1 (F (F a 2) 0))
    (d_G4_F_a_8_6 : G4.1 (F a 8) 6 = G.1 (F a 8) 6)
    (d_G4_xq_9 : G4.1 xq 9 = G.1 xq 9) :
    (((p0.toInt < 0 ∨ 12 ≤ p0.toInt) ∨ G.2.2.1 (F (F a 2) 0) (p0.toInt).toNat = none) ∧ (-4 : Int) = -2 ∧ qL G4 F (F a 8) = qL G F (F a 8)) ∨ (((0 ≤ p0.toInt ∧ p0.toInt < 12) ∧ G.2.2.1 (F (F a 2) 0) (p0.toInt).toNat = some xq) ∧ ((G.1 xq 9).toInt) = p1.toInt ∧ (-4 : Int) = -4 ∧ (((G4.1 xq 9).toInt) = ((G.1 xq 9).toInt) ∧ qL G4 F (F a 8) = qL G F (F a 8))) ∨ (((0 ≤ p0.toInt ∧ p0.toInt < 12) ∧ G.2.2.1 (F (F a 2) 0) (p0.toInt).toNat = some xq) ∧ ((G.1 xq 9).toInt) ≠ p1.toInt ∧ p1.toInt ≠ 0 ∧ ((G4.1 xq 9).toInt) = 1 ∧ ((((G.1 a 18).toInt) = 0 ∧ qL G4 F (F a 8) = qL G F (F a 8) ∧ (-4 : Int) = 0) ∨ (((G.1 a 18).toInt) ≠ 0 ∧ qL G4 F (F a 8) = (gaL (dput G xq 9 1) (G.2.2.1 (F (F a 2) 1)) (vw (G.2.1 (F (F a 4) 0))) (vw (G.2.1 (F (F a 3) 0))) 1 (((G.1 (F a 2) 2).toInt)).toNat) ∧ (-4 : Int) = cnQ (qL G4 F (F a 8)) ((G.1 xq 1).toInt)))) ∨ (((0 ≤ p0.toInt ∧ p0.toInt < 12) ∧ G.2.2.1 (F (F a 2) 0) (p0.toInt).toNat = some xq) ∧ ((G.1 xq 9).toInt) ≠ p1.toInt ∧ p1.toInt = 0 ∧ (((∃ x, x ∈ qL G F (F a 8) ∧ x.1 = ((G.1 xq 1).toInt) ∧ x.2.2.2.2.2 ≠ 0) ∧ (-4 : Int) = -5 ∧ (((G4.1 xq 9).toInt) = ((G.1 xq 9).toInt) ∧ qL G4 F (F a 8) = qL G F (F a 8))) ∨ ((∀ x, x ∈ qL G F (F a 8) → x.1 = ((G.1 xq 1).toInt) → x.2.2.2.2.2 = 0) ∧ ((G4.1 xq 9).toInt) = 0 ∧ ((((G.1 a 18).toInt) = 0 ∧ qL G4 F (F a 8) = qL G F (F a 8) ∧ (-4 : Int) = 0) ∨ (((G.1 a 18).toInt) ≠ 0 ∧ qL G4 F (F a 8) = (gaL (dput G xq 9 0) (G.2.2.1 (F (F a 2) 1)) (vw (G.2.1 (F (F a 4) 0))) (vw (G.2.1 (F (F a 3) 0))) 1 (((G.1 (F a 2) 2).toInt)).toNat) ∧ (-4 : Int) = cnQ (qL G F (F a 8)) ((G.1 xq 1).toInt)))))) := by
  have hq : G.2.2.1 (F (F a 2) 0) (p0.toInt).toNat = some xq := by rw [← r_G4_F_F_a_2_0]; exact hs12
  exact Or.inr (Or.inl ⟨⟨by omega, hq⟩, by omega, rfl, by rw [d_G4_xq_9], qL_cg d_G4_F_a_8_6 c_G4_F_F_a_8_0 c_G4_F_F_a_8_1 c_G4_F_F_a_8_2 c_G4_F_F_a_8_3 c_G4_F_F_a_8_4 c_G4_F_F_a_8_5⟩)
theorem z_X10_mark_1 (a0 : Int) (a1 : Int) (h0 : 0 ≤ a1 ∧ a1 ≤ 8) (h1 : a0 = (a1 + (1 : Int)) ∨ (a1 + (1 : Int)) < -2147483648 ∨ 2147483648 ≤ (a1 + (1 : Int))) : a0 = (a1 + (1 : Int)) := by omega
theorem z_X10_mark_2 (a0 : Int) (a1 : Int) (h0 : a1 ≠ 0) (h1 : a0 < (8 : Int)) : (a1 = 0 ∧ a0 = -3 ∧ (a0 + (1 : Int)) = a0) ∨ (a1 ≠ 0 ∧ 8 ≤ a0 ∧ a0 = -4 ∧ (a0 + (1 : Int)) = a0) ∨ (a1 ≠ 0 ∧ a0 < 8 ∧ a0 = a0 ∧ (a0 + (1 : Int)) = a0 + 1) := by omega
theorem z_X10_mark_4 (a0 : Int) (a1 : Int) (h0 : a1 ≠ 0) (h1 : ¬ (a0 < (8 : Int))) : (a1 = 0 ∧ (-4 : Int) = -3 ∧ a0 = a0) ∨ (a1 ≠ 0 ∧ 8 ≤ a0 ∧ (-4 : Int) = -4 ∧ a0 = a0) ∨ (a1 ≠ 0 ∧ a0 < 8 ∧ (-4 : Int) = a0 ∧ a0 = a0 + 1) := by omega
theorem z_X10_mark_5 (a0 : Int) (a1 : Int) (h0 : ¬ (a1 ≠ 0)) : (a1 = 0 ∧ (-3 : Int) = -3 ∧ a0 = a0) ∨ (a1 ≠ 0 ∧ 8 ≤ a0 ∧ (-3 : Int) = -4 ∧ a0 = a0) ∨ (a1 ≠ 0 ∧ a0 < 8 ∧ (-3 : Int) = a0 ∧ a0 = a0 + 1) := by omega
abbrev rm_X10_mark : Room := { frames := 2, cells := 0, slots := 0, locals := 81 }
set_option maxHeartbeats 4000000 in
set_option maxRecDepth 100000 in
theorem c_X10_mark (l : Launch) (E : XE) (K : Nat → Nat) (F : Nat → Nat → Nat) (G : XG) (a : Nat) (xq : Nat) (xj : Nat) (ha : K a = 12) (m0 : 0 ≤ ((G.1 a 17).toInt) ∧ ((G.1 a 17).toInt) ≤ 8) (hxk : K xq = 8) (hxj : F xq 99 = 4 + xj) (hxs : ((G.1 a 17).toInt) < 8 → G.2.2.1 (F a 7) (((G.1 a 17).toInt)).toNat = some xq) (ron : RO (vw (G.2.1 (F (F a 3) 0))) (aI (G.2.1 (F (F a 3) 1)))) (rox : RO (vw (G.2.1 (F xq 0))) (aI (G.2.1 (F xq 1)))) : Met l yX10_mark (xw yX10_mark cX10_mark 3 (some .int)) rm_X10_mark (va_Pc [.ref a] (XP E K F G)) (XQ E (fun v (u : XG) => ∃ r : Int32, v = .int r ∧ XFr [(a, 17)] [F xq 0, F xq 1] [] G u ∧ ((((G.1 a 18).toInt) = 0 ∧ r.toInt = -3 ∧ ((u.1 a 17).toInt) = ((G.1 a 17).toInt)) ∨ (((G.1 a 18).toInt) ≠ 0 ∧ 8 ≤ ((G.1 a 17).toInt) ∧ r.toInt = -4 ∧ ((u.1 a 17).toInt) = ((G.1 a 17).toInt)) ∨ (((G.1 a 18).toInt) ≠ 0 ∧ ((G.1 a 17).toInt) < 8 ∧ r.toInt = ((G.1 a 17).toInt) ∧ ((u.1 a 17).toInt) = ((G.1 a 17).toInt) + 1)) ∧ (((((G.1 a 18).toInt) = 0 ∨ 8 ≤ ((G.1 a 17).toInt)) ∧ u.2.1 (F xq 0) = (G.2.1 (F xq 0)) ∧ u.2.1 (F xq 1) = (G.2.1 (F xq 1))) ∨ ((((G.1 a 18).toInt) ≠ 0 ∧ ((G.1 a 17).toInt) < 8) ∧ (vw (u.2.1 (F xq 0))) = (vw (G.2.1 (F (F a 3) 0))))) ∧ (RO (vw (u.2.1 (F xq 0))) (aI (u.2.1 (F xq 1))))) (fun u H => TW E K F u H)) 0 0 (xA E) := by
  refine x_enter (by decide) (Nat.le_of_ble_eq_true rfl) ?_
  intro p e s m args below meth c Q S hr hlk hnm hQ hP ls hl
  obtain ⟨hz, hK, hT⟩ := hP
  obtain ⟨hx, hb, -, -, -⟩ := id S
  obtain ⟨H, hT, hS, hgo⟩ : ∃ H : Heap, TW E K F G H ∧ va_S (xA E) s.heap H [] ∧ H = s.heap := ⟨_, hT, va_S.rf, rfl⟩
  rw [← hgo]
  have hl : lv_has ls 3 [(0, .ref a)] := hl
  obtain ⟨hk9999, hj9999⟩ := fkX6_0 hT hxk
  have hj9999a : F (F xq 0) 99 = 4 + xj := by rw [hj9999, hxj]
  obtain ⟨hk9999a, hj9999b⟩ := fkX6_1 hT hxk
  have hj9999c : F (F xq 1) 99 = 4 + xj := by rw [hj9999b, hxj]
  obtain ⟨hk9999b, hj9999d⟩ := fkX10_7 hT ha
  obtain ⟨hk9999c, hj9999e⟩ := fkX10_3 hT ha
  obtain ⟨hk9999d, hj9999f⟩ := fkX6_0 hT hk9999c
  have hj9999g : F (F (F a 3) 0) 99 = 0 := by rw [hj9999f, hj9999e]
  obtain ⟨hk9999e, hj9999h⟩ := fkX6_1 hT hk9999c
  have hj9999i : F (F (F a 3) 1) 99 = 0 := by rw [hj9999h, hj9999e]
  refine lv_aload_n hx hb dX10_mark_0 rfl (lv_at hl 0 rfl) ?_
  refine gX10_18 S hK hT ha kf_X10_123 dX10_mark_1 (v := (G.1 a 18)) rfl (fun hz1 => ?_)
  refine xi_zne (tgt := 10) hx hb (rfl : Int32.toInt (G.1 a 18) = ((G.1 a 18).toInt)) dX10_mark_4 (by decide) (fun c4 => ?_) (fun c4 => ?_)
  · refine lv_aload_n hx hb dX10_mark_10 rfl (lv_at hl 0 rfl) ?_
    refine gX10_17 S hK hT ha kf_X10_233 dX10_mark_11 (v := (G.1 a 17)) rfl (?_)
    refine lv_bipush (v := 8) hx hb dX10_mark_14 (by decide) ?_
    refine xi_clt (tgt := 22) hx hb (rfl : Int32.toInt (G.1 a 17) = ((G.1 a 17).toInt)) ((by decide) : Int32.toInt 8 = (8 : Int)) dX10_mark_16 (by decide) (fun c16 => ?_) (fun c16 => ?_)
    · refine lv_aload_n hx hb dX10_mark_22 rfl (lv_at hl 0 rfl) ?_
      refine gX10_17 S hK hT ha kf_X10_233 dX10_mark_23 (v := (G.1 a 17)) rfl (?_)
      refine lv_istore_n (lv' := [(1, .int (G.1 a 17)), (0, .ref a)]) hx hb dX10_mark_26 rfl hl (by decide) rfl (fun ls hl => ?_)
      refine lv_aload_n hx hb dX10_mark_27 rfl (lv_at hl 1 rfl) ?_
      refine lv_dup hx hb dX10_mark_28 rfl ?_
      refine gX10_17 S hK hT ha kf_X10_233 dX10_mark_29 (v := (G.1 a 17)) rfl (?_)
      refine lv_iconst (v := 1) hx hb dX10_mark_32 (by decide) ?_
      refine xi_iadd hx hb (rfl : Int32.toInt (G.1 a 17) = ((G.1 a 17).toInt)) ((by decide) : Int32.toInt 1 = (1 : Int)) dX10_mark_33 (fun x33 t33 => ?_)
      have e33 : x33.toInt = (((G.1 a 17).toInt) + (1 : Int)) := (z_X10_mark_1 x33.toInt ((G.1 a 17).toInt) m0 t33)
      refine pX10_17 (v := x33) S hK hT hS ha kf_X10_233 dX10_mark_34 (fun H locs hT hS => ?_)
      obtain ⟨G34, hG34⟩ : ∃ GG : XG, GG = dput G a 17 x33 := ⟨_, rfl⟩
      rw [← hG34] at hT
      refine lv_aload_n hx hb dX10_mark_37 rfl (lv_at hl 1 rfl) ?_
      refine lv_iload_n hx hb dX10_mark_38 rfl (lv_at hl 0 rfl) ?_
      refine x_clp (x_runV (b := a) (As := [.int (G.1 a 17)]) (rest := []) S (c_X10_rowsAtMark l E K F G34 H a (G.1 a 17) ha) mv_X10_rowsAtMark km_X10_236 rfl rfl ⟨Nat.le_of_ble_eq_true rfl, Nat.le_of_ble_eq_true rfl⟩ (rc_12 hK hT ha) hK (fun _ => XPh.blind) (fun U hU hW => XPh.at hK hz hS hT hU hW) rfl hl.1 (Nat.le_of_ble_eq_true rfl) dX10_mark_39 ⟨Nat.le_of_ble_eq_true rfl, Nat.le_of_ble_eq_true rfl⟩) hS ?_
      rintro _ _ locs (⟨rfl, hn39⟩ | ⟨q39, rfl, hk39, ht39, hs39⟩) hS
      · refine lv_astore_nN (lv' := [(2, .null), (1, .int (G.1 a 17)), (0, .ref a)]) hx hb dX10_mark_42 rfl hl (by decide) rfl (fun ls hl => ?_)
        refine lv_aload_nN hx hb dX10_mark_43 rfl (lv_at hl 0 rfl) ?_
        refine lv_ifnullN (tgt := 55) hx hb dX10_mark_44 (by decide) ?_
        refine lv_iload_n hx hb dX10_mark_55 rfl (lv_at hl 1 rfl) ?_
        exact x_ri hx hb hr hlk hQ (Nat.le_of_ble_eq_true rfl) (Nat.le_of_ble_eq_true rfl) hS dX10_mark_56 G34 ⟨_, rfl, (by rw [hG34]; exact XFr.dput XFr.rf (List.mem_of_getElem? (i := 0) rfl)), (by rw [(show (G34.1 a 17).toInt = (((G.1 a 17).toInt) + (1 : Int)) from (congrArg Int32.toInt (ld_at hG34)).trans (e33 : Int32.toInt x33 = (((G.1 a 17).toInt) + (1 : Int))))] <;> exact (z_X10_mark_2 ((G.1 a 17).toInt) ((G.1 a 18).toInt) c4 c16)), (v_X10_mark_56_1 (K := K) (F := F) a xq xj G34 G x33 ha hxk hxj hxs e33 hn39 m0 (xzi hz1) c4 c16 (ld_at hG34)), (v_X10_mark_56_2 (K := K) (F := F) a xq xj G34 G x33 ha hxk hxj hxs e33 hn39 m0 (xzi hz1) c4 c16 (ld_at hG34))⟩ hT
      · have ht39 : 0 ≤ ((G.1 a 17).toInt) ∧ ((G.1 a 17).toInt) < (((G.1 a 17).toInt) + (1 : Int)) ∧ ((G.1 a 17).toInt) < 8 := by rw [(show (G34.1 a 17).toInt = (((G.1 a 17).toInt) + (1 : Int)) from (congrArg Int32.toInt (ld_at hG34)).trans (e33 : Int32.toInt x33 = (((G.1 a 17).toInt) + (1 : Int))))] at ht39; exact ht39
        obtain rfl : xq = q39 := (v_X10_mark_42_3 (K := K) (F := F) a xq xj q39 G G34 ha hxk hxj ((hs39).1) hxs hs39 m0 (xzi hz1) c4 c16 ht39 (ld_r hG34))
        refine lv_astore_n (lv' := [(2, .ref xq), (1, .int (G.1 a 17)), (0, .ref a)]) hx hb dX10_mark_42 rfl hl (by decide) rfl (fun ls hl => ?_)
        refine lv_aload_n hx hb dX10_mark_43 rfl (lv_at hl 0 rfl) ?_
        refine lv_ifnull hx hb dX10_mark_44 ?_
        refine lv_aload_n hx hb dX10_mark_47 rfl (lv_at hl 0 rfl) ?_
        refine lv_aload_n hx hb dX10_mark_48 rfl (lv_at hl 2 rfl) ?_
        refine gX10_3 S hK hT ha kf_X10_37 dX10_mark_49 (fun _ _ => ?_)
        refine x_cv0 (x_runV (b := xq) (As := [.ref (F a 3)]) (rest := []) S (c_X6_copy l E K F G34 xq (F a 3) hk39 hk9999c (v_X10_mark_52_4 (F := F) a xq G34 G ron rox (ld_c hG34) (ld_c hG34))) mv_X6_copy km_X10_195 rfl rfl ⟨Nat.le_of_ble_eq_true rfl, Nat.le_of_ble_eq_true rfl⟩ (rc_8 hK hT hk39) hK (fun _ => XP.blind) (fun U hU hW => XP.at hK hz hS hT hU hW) rfl hl.1 (Nat.le_of_ble_eq_true rfl) dX10_mark_52 ⟨Nat.le_of_ble_eq_true rfl, Nat.le_of_ble_eq_true rfl⟩) hS ?_
        rintro G52 H locs ⟨hF52, oq52, oq52a⟩ hT hS
        have oq52 : (vw (G52.2.1 (F xq 0))) = (vw (G.2.1 (F (F a 3) 0))) := by simp only [(show G34.2.1 (F (F a 3) 0) = G.2.1 (F (F a 3) 0) from (ld_c hG34))] at oq52; exact oq52
        refine lv_iload_n hx hb dX10_mark_55 rfl (lv_at hl 1 rfl) ?_
        exact x_ri hx hb hr hlk hQ (Nat.le_of_ble_eq_true rfl) (Nat.le_of_ble_eq_true rfl) hS dX10_mark_56 G52 ⟨_, rfl, (XFr.call (by rw [hG34]; exact XFr.dput XFr.rf (List.mem_of_getElem? (i := 0) rfl)) hF52 xm0 (xm1 0 rfl (xm1 1 rfl xm0)) xm0), (by rw [(show (G52.1 a 17).toInt = (((G.1 a 17).toInt) + (1 : Int)) from (congrArg Int32.toInt ((hF52.1 _ _ xn0).trans (ld_at hG34))).trans (e33 : Int32.toInt x33 = (((G.1 a 17).toInt) + (1 : Int))))] <;> exact (z_X10_mark_2 ((G.1 a 17).toInt) ((G.1 a 18).toInt) c4 c16)), (v_X10_mark_56_5 (K := K) (F := F) a xq xj G34 G x33 G52 ha hxk hxj hxs e33 hs39 oq52 m0 (xzi hz1) c4 c16 ht39 (ld_at hG34)), (v_X10_mark_56_6 (K := K) (F := F) a xq xj G34 G x33 G52 ha hxk hxj hxs e33 hs39 oq52a m0 (xzi hz1) c4 c16 ht39 (ld_at hG34))⟩ hT
    · refine lv_bipush (v := (-4)) hx hb dX10_mark_19 (by decide) ?_
      exact x_ri hx hb hr hlk hQ (Nat.le_of_ble_eq_true rfl) (Nat.le_of_ble_eq_true rfl) hS dX10_mark_21 G ⟨_, rfl, XFr.rf, (by rw [((by decide) : Int32.toInt (-4) = (-4 : Int))] <;> exact (z_X10_mark_4 ((G.1 a 17).toInt) ((G.1 a 18).toInt) c4 c16)), (v_X10_mark_21_7 (K := K) (F := F) a xq xj G ha hxk hxj hxs m0 (xzi hz1) c4 c16), (v_X10_mark_21_8 (F := F) xq G rox)⟩ hT
  · refine lv_bipush (v := (-3)) hx hb dX10_mark_7 (by decide) ?_
    exact x_ri hx hb hr hlk hQ (Nat.le_of_ble_eq_true rfl) (Nat.le_of_ble_eq_true rfl) hS dX10_mark_9 G ⟨_, rfl, XFr.rf, (by rw [((by decide) : Int32.toInt (-3) = (-3 : Int))] <;> exact (z_X10_mark_5 ((G.1 a 17).toInt) ((G.1 a 18).toInt) c4)), (v_X10_mark_9_9 (K := K) (F := F) a xq xj G ha hxk hxj hxs m0 (xzi hz1) c4), (v_X10_mark_9_10 (F := F) xq G rox)⟩ hT

theorem z_X10_later_7 (a0 : Int) (a1 : Int) (h0 : a1 = 1 ∧ 0 ≤ a0 ∧ a0 ≤ 1080) : 0 ≤ a0 ∧ a0 ≤ 1080 := by omega
abbrev rm_X10_later : Room := { frames := 9, cells := 8, slots := 800, locals := 216 }
set_option maxHeartbeats 4000000 in
set_option maxRecDepth 100000 in
theorem c_X10_later (l : Launch) (E : XE) (K : Nat → Nat) (F : Nat → Nat → Nat) (G : XG) (a : Nat) (p0 : Int32) (p1 : Int32) (xq : Nat) (ha : K a = 12) (b1 : p1 = 0 ∨ p1 = 1) (sb : 0 ≤ ((G.1 (F a 2) 2).toInt) ∧ ((G.1 (F a 2) 2).toInt) ≤ 12) (sw : 0 ≤ ((G.1 (F a 8) 6).toInt) ∧ ((G.1 (F a 8) 6).toInt) ≤ 1080) (hxs : 0 ≤ p0.toInt → p0.toInt < 12 → ∀ q : Nat, G.2.2.1 (F (F a 2) 0) (p0.toInt).toNat = some q → q = xq) (ron : RO (vw (G.2.1 (F (F a 3) 0))) (aI (G.2.1 (F (F a 3) 1)))) (rob : RO (vw (G.2.1 (F (F a 4) 0))) (aI (G.2.1 (F (F a 4) 1)))) (bko : BKr K G (G.2.2.1 (F (F a 2) 1))) : Met l yX10_later (xw yX10_later cX10_later 4 (some .int)) rm_X10_later (va_Pc [.ref a, .int p0, .int p1] (XP E K F G)) (XQ E (fun v (u : XG) => ∃ r : Int32, v = .int r ∧ XFr [(F a 14, 1), (F a 14, 2), (F a 14, 3), (xq, 9), (F a 11, 3), (F a 8, 6)] [F a 16, F a 15, F (F a 11) 0, F (F a 11) 1, F (F a 11) 2, F (F a 8) 0, F (F a 8) 1, F (F a 8) 2, F (F a 8) 3, F (F a 8) 4, F (F a 8) 5] [] G u ∧ (0 ≤ ((u.1 (F a 8) 6).toInt) ∧ ((u.1 (F a 8) 6).toInt) ≤ 1080) ∧ ((((p0.toInt < 0 ∨ 12 ≤ p0.toInt) ∨ G.2.2.1 (F (F a 2) 0) (p0.toInt).toNat = none) ∧ r.toInt = -2 ∧ qL u F (F a 8) = qL G F (F a 8)) ∨ (((0 ≤ p0.toInt ∧ p0.toInt < 12) ∧ G.2.2.1 (F (F a 2) 0) (p0.toInt).toNat = some xq) ∧ ((G.1 xq 9).toInt) = p1.toInt ∧ r.toInt = -4 ∧ (((u.1 xq 9).toInt) = ((G.1 xq 9).toInt) ∧ qL u F (F a 8) = qL G F (F a 8))) ∨ (((0 ≤ p0.toInt ∧ p0.toInt < 12) ∧ G.2.2.1 (F (F a 2) 0) (p0.toInt).toNat = some xq) ∧ ((G.1 xq 9).toInt) ≠ p1.toInt ∧ p1.toInt ≠ 0 ∧ ((u.1 xq 9).toInt) = 1 ∧ ((((G.1 a 18).toInt) = 0 ∧ qL u F (F a 8) = qL G F (F a 8) ∧ r.toInt = 0) ∨ (((G.1 a 18).toInt) ≠ 0 ∧ qL u F (F a 8) = (gaL (dput G xq 9 1) (G.2.2.1 (F (F a 2) 1)) (vw (G.2.1 (F (F a 4) 0))) (vw (G.2.1 (F (F a 3) 0))) 1 (((G.1 (F a 2) 2).toInt)).toNat) ∧ r.toInt = cnQ (qL u F (F a 8)) ((G.1 xq 1).toInt)))) ∨ (((0 ≤ p0.toInt ∧ p0.toInt < 12) ∧ G.2.2.1 (F (F a 2) 0) (p0.toInt).toNat = some xq) ∧ ((G.1 xq 9).toInt) ≠ p1.toInt ∧ p1.toInt = 0 ∧ (((∃ x, x ∈ qL G F (F a 8) ∧ x.1 = ((G.1 xq 1).toInt) ∧ x.2.2.2.2.2 ≠ 0) ∧ r.toInt = -5 ∧ (((u.1 xq 9).toInt) = ((G.1 xq 9).toInt) ∧ qL u F (F a 8) = qL G F (F a 8))) ∨ ((∀ x, x ∈ qL G F (F a 8) → x.1 = ((G.1 xq 1).toInt) → x.2.2.2.2.2 = 0) ∧ ((u.1 xq 9).toInt) = 0 ∧ ((((G.1 a 18).toInt) = 0 ∧ qL u F (F a 8) = qL G F (F a 8) ∧ r.toInt = 0) ∨ (((G.1 a 18).toInt) ≠ 0 ∧ qL u F (F a 8) = (gaL (dput G xq 9 0) (G.2.2.1 (F (F a 2) 1)) (vw (G.2.1 (F (F a 4) 0))) (vw (G.2.1 (F (F a 3) 0))) 1 (((G.1 (F a 2) 2).toInt)).toNat) ∧ r.toInt = cnQ (qL G F (F a 8)) ((G.1 xq 1).toInt)))))))) (fun u H => TW E K F u H)) 8 800 (xA E) := by
  refine x_enter (by decide) (Nat.le_of_ble_eq_true rfl) ?_
  intro p e s m args below meth c Q S hr hlk hnm hQ hP ls hl
  obtain ⟨hz, hK, hT⟩ := hP
  obtain ⟨hx, hb, -, -, -⟩ := id S
  obtain ⟨H, hT, hS, hgo⟩ : ∃ H : Heap, TW E K F G H ∧ va_S (xA E) s.heap H [] ∧ H = s.heap := ⟨_, hT, va_S.rf, rfl⟩
  rw [← hgo]
  have hl : lv_has ls 4 [(0, .ref a), (1, .int p0), (2, .int p1)] := hl
  obtain ⟨hk9999, hj9999⟩ := fkX10_14 hT ha
  obtain ⟨hk9999a, hj9999a⟩ := fkX10_11 hT ha
  obtain ⟨hk9999b, hj9999b⟩ := fkX10_8 hT ha
  obtain ⟨hk9999c, hj9999c⟩ := fkX10_16 hT ha
  obtain ⟨hk9999d, hj9999d⟩ := fkX10_15 hT ha
  obtain ⟨hk9999e, hj9999e⟩ := fkX1_0 hT hk9999a
  obtain ⟨hk9999f, hj9999f⟩ := fkX1_1 hT hk9999a
  obtain ⟨hk9999g, hj9999g⟩ := fkX1_2 hT hk9999a
  obtain ⟨hk9999h, hj9999h⟩ := fkX4_0 hT hk9999b
  have hj9999i : F (F (F a 8) 0) 99 = 10 * 0 + 0 := by rw [hj9999h, hj9999b]
  obtain ⟨hk9999i, hj9999j⟩ := fkX4_1 hT hk9999b
  have hj9999k : F (F (F a 8) 1) 99 = 10 * 0 + 1 := by rw [hj9999j, hj9999b]
  obtain ⟨hk9999j, hj9999l⟩ := fkX4_2 hT hk9999b
  have hj9999m : F (F (F a 8) 2) 99 = 10 * 0 + 2 := by rw [hj9999l, hj9999b]
  obtain ⟨hk9999k, hj9999n⟩ := fkX4_3 hT hk9999b
  have hj9999o : F (F (F a 8) 3) 99 = 10 * 0 + 3 := by rw [hj9999n, hj9999b]
  obtain ⟨hk9999l, hj9999p⟩ := fkX4_4 hT hk9999b
  have hj9999q : F (F (F a 8) 4) 99 = 10 * 0 + 4 := by rw [hj9999p, hj9999b]
  obtain ⟨hk9999m, hj9999r⟩ := fkX4_5 hT hk9999b
  have hj9999s : F (F (F a 8) 5) 99 = 10 * 0 + 5 := by rw [hj9999r, hj9999b]
  obtain ⟨hk9999n, hj9999t⟩ := fkX10_2 hT ha
  obtain ⟨hk9999o, hj9999u⟩ := fkX0_0 hT hk9999n
  obtain ⟨hk9999p, hj9999v⟩ := fkX0_1 hT hk9999n
  obtain ⟨hk9999q, hj9999w⟩ := fkX10_4 hT ha
  obtain ⟨hk9999r, hj9999y⟩ := fkX6_0 hT hk9999q
  have hj9999z25 : F (F (F a 4) 0) 99 = 1 := by rw [hj9999y, hj9999w]
  obtain ⟨hk9999s, hj9999z26⟩ := fkX6_1 hT hk9999q
  have hj9999z27 : F (F (F a 4) 1) 99 = 1 := by rw [hj9999z26, hj9999w]
  obtain ⟨hk9999t, hj9999z28⟩ := fkX10_3 hT ha
  obtain ⟨hk9999u, hj9999z29⟩ := fkX6_0 hT hk9999t
  have hj9999z30 : F (F (F a 3) 0) 99 = 0 := by rw [hj9999z29, hj9999z28]
  obtain ⟨hk9999v, hj9999z31⟩ := fkX6_1 hT hk9999t
  have hj9999z32 : F (F (F a 3) 1) 99 = 0 := by rw [hj9999z31, hj9999z28]
  refine lv_aload_n hx hb dX10_later_0 rfl (lv_at hl 0 rfl) ?_
  refine gX10_14 S hK hT ha kf_X10_91 dX10_later_1 (fun _ _ => ?_)
  refine x_cv (x_runV (b := (F a 14)) (As := []) (rest := []) S (c_X9_clear l E K F G (F a 14) hk9999) mv_X9_clear km_X10_113 rfl rfl ⟨Nat.le_of_ble_eq_true rfl, Nat.le_of_ble_eq_true rfl⟩ (rc_11 hK hT hk9999) hK (fun _ => XP.blind) (fun U hU hW => XP.at hK hz hS hT hU hW) rfl hl.1 (Nat.le_of_ble_eq_true rfl) dX10_later_4 ⟨Nat.le_of_ble_eq_true rfl, Nat.le_of_ble_eq_true rfl⟩) hS ?_
  rintro G4 H locs ⟨hF4, t4⟩ hT hS
  have t4 : ((G4.1 (F a 14) 1).toInt) = 0 := t4
  refine lv_aload_n hx hb dX10_later_7 rfl (lv_at hl 0 rfl) ?_
  refine gX10_2 S hK hT ha kf_X10_30 dX10_later_8 (fun _ _ => ?_)
  refine lv_iload_n hx hb dX10_later_11 rfl (lv_at hl 1 rfl) ?_
  refine x_clp (x_runV (b := (F a 2)) (As := [.int p0]) (rest := []) S (c_X0_get l E K F G4 H (F a 2) p0 hk9999n) mv_X0_get km_X10_159 rfl rfl ⟨Nat.le_of_ble_eq_true rfl, Nat.le_of_ble_eq_true rfl⟩ (rc_2 hK hT hk9999n) hK (fun _ => XPh.blind) (fun U hU hW => XPh.at hK hz hS hT hU hW) rfl hl.1 (Nat.le_of_ble_eq_true rfl) dX10_later_12 ⟨Nat.le_of_ble_eq_true rfl, Nat.le_of_ble_eq_true rfl⟩) hS ?_
  rintro _ _ locs (⟨rfl, hn12⟩ | ⟨q12, rfl, hk12, ht12, hs12⟩) hS
  · refine lv_astore_nN (lv' := [(3, .null), (0, .ref a), (1, .int p0), (2, .int p1)]) hx hb dX10_later_15 rfl hl (by decide) rfl (fun ls hl => ?_)
    refine lv_aload_nN hx hb dX10_later_16 rfl (lv_at hl 0 rfl) ?_
    refine lv_ifnonnullN hx hb dX10_later_17 ?_
    refine lv_bipush (v := (-2)) hx hb dX10_later_20 (by decide) ?_
    exact x_ri hx hb hr hlk hQ (Nat.le_of_ble_eq_true rfl) (Nat.le_of_ble_eq_true rfl) hS dX10_later_22 G4 ⟨_, rfl, (XFr.call XFr.rf hF4 (xm1 0 rfl xm0) xm0 xm0), (by rw [(show (G4.1 (F a 8) 6).toInt = ((G.1 (F a 8) 6).toInt) from (congrArg Int32.toInt (hF4.1 _ _ (xnj (by decide) xn0))).trans (rfl : Int32.toInt (G.1 (F a 8) 6) = ((G.1 (F a 8) 6).toInt)))] <;> exact (sw)), (by rw [((by decide) : Int32.toInt (-2) = (-2 : Int))] <;> exact (v_X10_later_22_1 (F := F) a G G4 p0 xq p1 hn12 (hF4.2.1 _ xn0) (hF4.2.1 _ xn0) (hF4.2.1 _ xn0) (hF4.2.1 _ xn0) (hF4.2.1 _ xn0) (hF4.2.1 _ xn0) (hF4.2.2 _ xn0) (hF4.1 _ _ (xnj (by decide) xn0))))⟩ hT
  · have ht12 : 0 ≤ p0.toInt ∧ p0.toInt < 12 := ht12
    obtain rfl : xq = q12 := (v_X10_later_15_2 (K := K) (F := F) a q12 G G4 p0 xq ha hxs hs12 sb sw t4 ht12 (hF4.2.2 _ xn0))
    refine lv_astore_n (lv' := [(3, .ref xq), (0, .ref a), (1, .int p0), (2, .int p1)]) hx hb dX10_later_15 rfl hl (by decide) rfl (fun ls hl => ?_)
    refine lv_aload_n hx hb dX10_later_16 rfl (lv_at hl 0 rfl) ?_
    refine lv_ifnonnull (tgt := 23) hx hb dX10_later_17 (by decide) ?_
    refine lv_aload_n hx hb dX10_later_23 rfl (lv_at hl 0 rfl) ?_
    refine gX7_9 S hK hT hk12 kf_X10_170 dX10_later_24 (v := (G.1 xq 9)) (hF4.1 _ _ (xnj (by decide) xn0)) (fun hz24 => ?_)
    refine lv_iload_n hx hb dX10_later_27 rfl (lv_at hl 3 rfl) ?_
    refine xi_cne (tgt := 34) hx hb (rfl : Int32.toInt (G.1 xq 9) = ((G.1 xq 9).toInt)) (rfl : Int32.toInt p1 = p1.toInt) dX10_later_28 (by decide) (fun c28 => ?_) (fun c28 => ?_)
    · refine lv_iload_n hx hb dX10_later_34 rfl (lv_at hl 3 rfl) ?_
      refine xi_zeq (tgt := 44) hx hb (rfl : Int32.toInt p1 = p1.toInt) dX10_later_35 (by decide) (fun c35 => ?_) (fun c35 => ?_)
      · refine lv_aload_n hx hb dX10_later_44 rfl (lv_at hl 1 rfl) ?_
        refine lv_aload_n hx hb dX10_later_45 rfl (lv_at hl 0 rfl) ?_
        refine x_cl (x_runV (b := a) (As := [.ref xq]) (rest := []) S (c_X10_becomePrompt l E K F G4 a xq ha hk12 (by rw [(show (G4.1 (F a 2) 2).toInt = ((G.1 (F a 2) 2).toInt) from (congrArg Int32.toInt (hF4.1 _ _ (xnj (by decide) xn0))).trans (rfl : Int32.toInt (G.1 (F a 2) 2) = ((G.1 (F a 2) 2).toInt)))] <;> exact (sb)) (by rw [(show (G4.1 (F a 8) 6).toInt = ((G.1 (F a 8) 6).toInt) from (congrArg Int32.toInt (hF4.1 _ _ (xnj (by decide) xn0))).trans (rfl : Int32.toInt (G.1 (F a 8) 6) = ((G.1 (F a 8) 6).toInt)))] <;> exact (sw)) (v_X10_later_46_3 (F := F) a G G4 ron rob (hF4.2.1 _ xn0) (hF4.2.1 _ xn0)) (v_X10_later_46_4 (F := F) a G G4 ron rob (hF4.2.1 _ xn0) (hF4.2.1 _ xn0)) (v_X10_later_46_5 (K := K) (F := F) a xq G G4 p0 p1 ha hk9999 hj9999 hk9999a hj9999a hk9999b hj9999b hk9999c hj9999c hk9999d hj9999d hk9999e hj9999e hk9999f hj9999f hk9999g hj9999g hk9999h hj9999i hk9999i hj9999k hk9999j hj9999m hk9999k hj9999o hk9999l hj9999q hk9999m hj9999s hk9999n hj9999t hk9999o hj9999u hk9999p hj9999v hk9999q hj9999w hk9999r hj9999z25 hk9999s hj9999z27 hk9999t hj9999z28 hk9999u hj9999z30 hk9999v hj9999z32 hk12 hF4 hxs bko hs12 sb sw t4 ht12 (xzi hz24) c28 c35 (hF4.2.2 _ xn0))) mv_X10_becomePrompt km_X10_176 rfl rfl ⟨Nat.le_of_ble_eq_true rfl, Nat.le_of_ble_eq_true rfl⟩ (rc_12 hK hT ha) hK (fun _ => XP.blind) (fun U hU hW => XP.at hK hz hS hT hU hW) rfl hl.1 (Nat.le_of_ble_eq_true rfl) dX10_later_46 ⟨Nat.le_of_ble_eq_true rfl, Nat.le_of_ble_eq_true rfl⟩) hS ?_
        rintro _ G46 H locs ⟨x46, rfl, hF46, t46, oq46⟩ hT hS
        have t46 : 0 ≤ ((G46.1 (F a 8) 6).toInt) ∧ ((G46.1 (F a 8) 6).toInt) ≤ 1080 := t46
        have oq46 : ((∃ x, x ∈ qL G4 F (F a 8) ∧ x.1 = ((G.1 xq 1).toInt) ∧ x.2.2.2.2.2 ≠ 0) ∧ x46.toInt = -5 ∧ ((G46.1 xq 9).toInt) = ((G.1 xq 9).toInt) ∧ qL G46 F (F a 8) = qL G4 F (F a 8)) ∨ ((∀ x, x ∈ qL G4 F (F a 8) → x.1 = ((G.1 xq 1).toInt) → x.2.2.2.2.2 = 0) ∧ ((G46.1 xq 9).toInt) = 0 ∧ ((((G.1 a 18).toInt) = 0 ∧ qL G46 F (F a 8) = qL G4 F (F a 8) ∧ x46.toInt = 0) ∨ (((G.1 a 18).toInt) ≠ 0 ∧ qL G46 F (F a 8) = (gaL (dput G4 xq 9 0) (G4.2.2.1 (F (F a 2) 1)) (vw (G.2.1 (F (F a 4) 0))) (vw (G.2.1 (F (F a 3) 0))) 1 (((G.1 (F a 2) 2).toInt)).toNat) ∧ x46.toInt = cnQ (qL G4 F (F a 8)) ((G.1 xq 1).toInt)))) := by simp only [(show G4.1 xq 1 = G.1 xq 1 from (hF4.1 _ _ (xna (xne_k hk12 hk9999 (by decide)) xn0))), (show G4.1 xq 9 = G.1 xq 9 from (hF4.1 _ _ (xnj (by decide) xn0))), (show G4.1 a 18 = G.1 a 18 from (hF4.1 _ _ (xnj (by decide) xn0))), (show G4.2.1 (F (F a 4) 0) = G.2.1 (F (F a 4) 0) from (hF4.2.1 _ xn0)), (show G4.2.1 (F (F a 3) 0) = G.2.1 (F (F a 3) 0) from (hF4.2.1 _ xn0)), (show G4.1 (F a 2) 2 = G.1 (F a 2) 2 from (hF4.1 _ _ (xnj (by decide) xn0)))] at oq46; exact oq46
        exact x_ri hx hb hr hlk hQ (Nat.le_of_ble_eq_true rfl) (Nat.le_of_ble_eq_true rfl) hS dX10_later_49 G46 ⟨_, rfl, (XFr.call (XFr.call XFr.rf hF4 (xm1 0 rfl xm0) xm0 xm0) hF46 (xm1 0 rfl (xm1 1 rfl (xm1 2 rfl (xm1 3 rfl (xm1 4 rfl (xm1 5 rfl xm0)))))) (xm1 0 rfl (xm1 2 rfl (xm1 3 rfl (xm1 4 rfl (xm1 5 rfl (xm1 6 rfl (xm1 7 rfl (xm1 8 rfl (xm1 9 rfl (xm1 10 rfl xm0)))))))))) xm0), (t46), (v_X10_later_49_6 (K := K) (F := F) a xq G G4 G46 p0 x46 p1 ha hk9999 hj9999 hk9999a hj9999a hk9999b hj9999b hk9999c hj9999c hk9999d hj9999d hk9999e hj9999e hk9999f hj9999f hk9999g hj9999g hk9999h hj9999i hk9999i hj9999k hk9999j hj9999m hk9999k hj9999o hk9999l hj9999q hk9999m hj9999s hk9999n hj9999t hk9999o hj9999u hk9999p hj9999v hk9999q hj9999w hk9999r hj9999z25 hk9999s hj9999z27 hk9999t hj9999z28 hk9999u hj9999z30 hk9999v hj9999z32 hk12 hF4 hxs bko hs12 oq46 sb sw t4 ht12 (xzi hz24) c28 c35 t46 (hF4.2.1 _ xn0) (hF4.2.1 _ xn0) (hF4.2.1 _ xn0) (hF4.2.1 _ xn0) (hF4.2.1 _ xn0) (hF4.2.1 _ xn0) (hF4.2.2 _ xn0) (hF4.2.2 _ xn0) (hF4.1 _ _ (xnj (by decide) xn0)))⟩ hT
      · refine lv_aload_n hx hb dX10_later_38 rfl (lv_at hl 1 rfl) ?_
        refine lv_aload_n hx hb dX10_later_39 rfl (lv_at hl 0 rfl) ?_
        refine x_cl0 (x_runV (b := a) (As := [.ref xq]) (rest := []) S (c_X10_becomeLate l E K F G4 a xq ha hk12 (by rw [(show (G4.1 (F a 2) 2).toInt = ((G.1 (F a 2) 2).toInt) from (congrArg Int32.toInt (hF4.1 _ _ (xnj (by decide) xn0))).trans (rfl : Int32.toInt (G.1 (F a 2) 2) = ((G.1 (F a 2) 2).toInt)))] <;> exact (sb)) (by rw [(show (G4.1 (F a 8) 6).toInt = ((G.1 (F a 8) 6).toInt) from (congrArg Int32.toInt (hF4.1 _ _ (xnj (by decide) xn0))).trans (rfl : Int32.toInt (G.1 (F a 8) 6) = ((G.1 (F a 8) 6).toInt)))] <;> exact (sw)) (v_X10_later_40_7 (F := F) a G G4 ron rob (hF4.2.1 _ xn0) (hF4.2.1 _ xn0)) (v_X10_later_40_8 (F := F) a G G4 ron rob (hF4.2.1 _ xn0) (hF4.2.1 _ xn0)) (v_X10_later_40_9 (K := K) (F := F) a xq G G4 p0 p1 ha hk9999 hj9999 hk9999a hj9999a hk9999b hj9999b hk9999c hj9999c hk9999d hj9999d hk9999e hj9999e hk9999f hj9999f hk9999g hj9999g hk9999h hj9999i hk9999i hj9999k hk9999j hj9999m hk9999k hj9999o hk9999l hj9999q hk9999m hj9999s hk9999n hj9999t hk9999o hj9999u hk9999p hj9999v hk9999q hj9999w hk9999r hj9999z25 hk9999s hj9999z27 hk9999t hj9999z28 hk9999u hj9999z30 hk9999v hj9999z32 hk12 hF4 hxs bko hs12 sb sw t4 ht12 (xzi hz24) c28 c35 (hF4.2.2 _ xn0))) mv_X10_becomeLate km_X10_173 rfl rfl ⟨Nat.le_of_ble_eq_true rfl, Nat.le_of_ble_eq_true rfl⟩ (rc_12 hK hT ha) hK (fun _ => XP.blind) (fun U hU hW => XP.at hK hz hS hT hU hW) rfl hl.1 (Nat.le_of_ble_eq_true rfl) dX10_later_40 ⟨Nat.le_of_ble_eq_true rfl, Nat.le_of_ble_eq_true rfl⟩) hS ?_
        rintro _ G40 H locs ⟨x40, rfl, hF40, t40, oq40⟩ hT hS
        have t40 : ((G40.1 xq 9).toInt) = 1 ∧ 0 ≤ ((G40.1 (F a 8) 6).toInt) ∧ ((G40.1 (F a 8) 6).toInt) ≤ 1080 := t40
        have oq40 : (((G.1 a 18).toInt) = 0 ∧ qL G40 F (F a 8) = qL G4 F (F a 8) ∧ x40.toInt = 0) ∨ (((G.1 a 18).toInt) ≠ 0 ∧ qL G40 F (F a 8) = (gaL (dput G4 xq 9 1) (G4.2.2.1 (F (F a 2) 1)) (vw (G.2.1 (F (F a 4) 0))) (vw (G.2.1 (F (F a 3) 0))) 1 (((G.1 (F a 2) 2).toInt)).toNat) ∧ x40.toInt = cnQ (qL G40 F (F a 8)) ((G.1 xq 1).toInt)) := by simp only [(show G4.1 a 18 = G.1 a 18 from (hF4.1 _ _ (xnj (by decide) xn0))), (show G4.2.1 (F (F a 4) 0) = G.2.1 (F (F a 4) 0) from (hF4.2.1 _ xn0)), (show G4.2.1 (F (F a 3) 0) = G.2.1 (F (F a 3) 0) from (hF4.2.1 _ xn0)), (show G4.1 (F a 2) 2 = G.1 (F a 2) 2 from (hF4.1 _ _ (xnj (by decide) xn0))), (show G4.1 xq 1 = G.1 xq 1 from (hF4.1 _ _ (xna (xne_k hk12 hk9999 (by decide)) xn0)))] at oq40; exact oq40
        exact x_ri hx hb hr hlk hQ (Nat.le_of_ble_eq_true rfl) (Nat.le_of_ble_eq_true rfl) hS dX10_later_43 G40 ⟨_, rfl, (XFr.call (XFr.call XFr.rf hF4 (xm1 0 rfl xm0) xm0 xm0) hF40 (xm1 3 rfl (xm1 4 rfl (xm1 5 rfl xm0))) (xm1 1 rfl (xm1 2 rfl (xm1 3 rfl (xm1 4 rfl (xm1 5 rfl (xm1 6 rfl (xm1 7 rfl (xm1 8 rfl (xm1 9 rfl (xm1 10 rfl xm0)))))))))) xm0), (z_X10_later_7 ((G40.1 (F a 8) 6).toInt) ((G40.1 xq 9).toInt) t40), (v_X10_later_43_10 (K := K) (F := F) a xq G G4 G40 p0 x40 p1 ha hk9999 hj9999 hk9999a hj9999a hk9999b hj9999b hk9999c hj9999c hk9999d hj9999d hk9999e hj9999e hk9999f hj9999f hk9999g hj9999g hk9999h hj9999i hk9999i hj9999k hk9999j hj9999m hk9999k hj9999o hk9999l hj9999q hk9999m hj9999s hk9999n hj9999t hk9999o hj9999u hk9999p hj9999v hk9999q hj9999w hk9999r hj9999z25 hk9999s hj9999z27 hk9999t hj9999z28 hk9999u hj9999z30 hk9999v hj9999z32 hk12 hF4 hxs bko hs12 oq40 sb sw t4 ht12 (xzi hz24) c28 c35 t40 (hF4.2.1 _ xn0) (hF4.2.1 _ xn0) (hF4.2.1 _ xn0) (hF4.2.1 _ xn0) (hF4.2.1 _ xn0) (hF4.2.1 _ xn0) (hF4.2.2 _ xn0) (hF4.2.2 _ xn0) (hF4.1 _ _ (xnj (by decide) xn0)))⟩ hT
    · refine lv_bipush (v := (-4)) hx hb dX10_later_31 (by decide) ?_
      exact x_ri hx hb hr hlk hQ (Nat.le_of_ble_eq_true rfl) (Nat.le_of_ble_eq_true rfl) hS dX10_later_33 G4 ⟨_, rfl, (XFr.call XFr.rf hF4 (xm1 0 rfl xm0) xm0 xm0), (by rw [(show (G4.1 (F a 8) 6).toInt = ((G.1 (F a 8) 6).toInt) from (congrArg Int32.toInt (hF4.1 _ _ (xnj (by decide) xn0))).trans (rfl : Int32.toInt (G.1 (F a 8) 6) = ((G.1 (F a 8) 6).toInt)))] <;> exact (sw)), (by rw [((by decide) : Int32.toInt (-4) = (-4 : Int))] <;> exact (v_X10_later_33_11 (K := K) (F := F) a xq G G4 p0 p1 ha hxs hs12 sb sw t4 ht12 (xzi hz24) c28 (hF4.2.1 _ xn0) (hF4.2.1 _ xn0) (hF4.2.1 _ xn0) (hF4.2.1 _ xn0) (hF4.2.1 _ xn0) (hF4.2.1 _ xn0) (hF4.2.2 _ xn0) (hF4.1 _ _ (xnj (by decide) xn0)) (hF4.1 _ _ (xnj (by decide) xn0))))⟩ hT
/-! ===== how many bits: as Integer.bitCount counts them ===== -/
theorem and_sp (h k : Nat) {c m : Nat} (hc : c < 256) (hm : m < 256) : (256 * h + c) &&& (256 * k + m) = 256 * (h &&& k) + (c &&& m) := by
  have hc2 : c < 2 ^ 8 := hc
  have hm2 : m < 2 ^ 8 := hm
  have hcm : (c &&& m) < 2 ^ 8 := Nat.and_lt_two_pow c hm2
  apply Nat.eq_of_testBit_eq
  intro j
  show Nat.testBit ((2 ^ 8 * h + c) &&& (2 ^ 8 * k + m)) j = Nat.testBit (2 ^ 8 * (h &&& k) + (c &&& m)) j
  rw [Nat.testBit_and, Nat.testBit_two_pow_mul_add h hc2, Nat.testBit_two_pow_mul_add k hm2, Nat.testBit_two_pow_mul_add (h &&& k) hcm]
  by_cases g : j < 8
  · rw [if_pos g, if_pos g, if_pos g, Nat.testBit_and]
  · rw [if_neg g, if_neg g, if_neg g, Nat.testBit_and]
def pf1 (b : Nat) : Nat := b - ((b / 2) &&& 85)
def pf2 (c : Nat) : Nat := (c &&& 51) + ((c / 4) &&& 51)
def pf3 (d : Nat) : Nat := (d + d / 16) &&& 15
def p8 (b : Nat) : Nat := b % 2 + b / 2 % 2 + b / 4 % 2 + b / 8 % 2 + b / 16 % 2 + b / 32 % 2 + b / 64 % 2 + b / 128 % 2
theorem pf_a : ∀ b : Nat, b < 256 → ((b / 2) &&& 85) ≤ b ∧ pf1 b < 256 := by decide +kernel
theorem pf_b : ∀ b : Nat, b < 256 → (pf1 b &&& 51) + ((pf1 b / 4) &&& 51) ≤ 68 ∧ pf2 (pf1 b) ≤ 68 ∧ pf2 (pf1 b) % 16 ≤ 4 := by decide +kernel
theorem pf_c : ∀ b : Nat, b < 256 → pf3 (pf2 (pf1 b)) = p8 b ∧ pf3 (pf2 (pf1 b)) ≤ 8 := by decide +kernel
theorem pm1 : ∀ b : Nat, b < 256 → ∀ e : Nat, e < 2 → (b / 2 + 128 * e) &&& 85 = (b / 2) &&& 85 := by decide +kernel
theorem pm2 : ∀ c : Nat, c < 256 → ∀ e : Nat, e < 4 → (c / 4 + 64 * e) &&& 51 = (c / 4) &&& 51 := by decide +kernel
theorem pm3 : ∀ d : Nat, d < 69 → ∀ e : Nat, e < 16 → (d + d / 16 + 16 * e) &&& 15 = (d + d / 16) &&& 15 := by decide +kernel
theorem n4_and (b0 b1 b2 b3 m : Nat) (h0 : b0 < 256) (h1 : b1 < 256) (h2 : b2 < 256) (hm : m < 256) : (256 * (256 * (256 * b3 + b2) + b1) + b0) &&& (256 * (256 * (256 * m + m) + m) + m) = 256 * (256 * (256 * (b3 &&& m) + (b2 &&& m)) + (b1 &&& m)) + (b0 &&& m) := by
  rw [and_sp _ _ h0 hm, and_sp _ _ h1 hm, and_sp _ _ h2 hm]
theorem ps1 (b0 b1 b2 b3 : Nat) (h0 : b0 < 256) (h1 : b1 < 256) (h2 : b2 < 256) : ((256 * (256 * (256 * b3 + b2) + b1) + b0) / 2) &&& 1431655765 = 256 * (256 * (256 * ((b3 / 2) &&& 85) + ((b2 / 2) &&& 85)) + ((b1 / 2) &&& 85)) + ((b0 / 2) &&& 85) := by
  have e : (256 * (256 * (256 * b3 + b2) + b1) + b0) / 2 = 256 * (256 * (256 * (b3 / 2) + (b2 / 2 + 128 * (b3 % 2))) + (b1 / 2 + 128 * (b2 % 2))) + (b0 / 2 + 128 * (b1 % 2)) := by omega
  have em : (1431655765 : Nat) = 256 * (256 * (256 * 85 + 85) + 85) + 85 := by decide
  rw [e, em, n4_and _ _ _ _ _ (by omega) (by omega) (by omega) (by decide), pm1 b0 h0 _ (by omega), pm1 b1 h1 _ (by omega), pm1 b2 h2 _ (by omega)]
theorem ps2 (b0 b1 b2 b3 : Nat) (h0 : b0 < 256) (h1 : b1 < 256) (h2 : b2 < 256) : ((256 * (256 * (256 * b3 + b2) + b1) + b0) / 4) &&& 858993459 = 256 * (256 * (256 * ((b3 / 4) &&& 51) + ((b2 / 4) &&& 51)) + ((b1 / 4) &&& 51)) + ((b0 / 4) &&& 51) := by
  have e : (256 * (256 * (256 * b3 + b2) + b1) + b0) / 4 = 256 * (256 * (256 * (b3 / 4) + (b2 / 4 + 64 * (b3 % 4))) + (b1 / 4 + 64 * (b2 % 4))) + (b0 / 4 + 64 * (b1 % 4)) := by omega
  have em : (858993459 : Nat) = 256 * (256 * (256 * 51 + 51) + 51) + 51 := by decide
  rw [e, em, n4_and _ _ _ _ _ (by omega) (by omega) (by omega) (by decide), pm2 b0 h0 _ (by omega), pm2 b1 h1 _ (by omega), pm2 b2 h2 _ (by omega)]
theorem ps2b (b0 b1 b2 b3 : Nat) (h0 : b0 < 256) (h1 : b1 < 256) (h2 : b2 < 256) : (256 * (256 * (256 * b3 + b2) + b1) + b0) &&& 858993459 = 256 * (256 * (256 * (b3 &&& 51) + (b2 &&& 51)) + (b1 &&& 51)) + (b0 &&& 51) := by
  have em : (858993459 : Nat) = 256 * (256 * (256 * 51 + 51) + 51) + 51 := by decide
  rw [em, n4_and _ _ _ _ _ h0 h1 h2 (by decide)]
theorem ps3 (d0 d1 d2 d3 : Nat) (h0 : d0 ≤ 68) (h1 : d1 ≤ 68) (h2 : d2 ≤ 68) (h3 : d3 ≤ 68) (g1 : d1 % 16 ≤ 4) (g2 : d2 % 16 ≤ 4) (g3 : d3 % 16 ≤ 4) : (256 * (256 * (256 * d3 + d2) + d1) + d0 + (256 * (256 * (256 * d3 + d2) + d1) + d0) / 16) &&& 252645135 = 256 * (256 * (256 * pf3 d3 + pf3 d2) + pf3 d1) + pf3 d0 := by
  have e : 256 * (256 * (256 * d3 + d2) + d1) + d0 + (256 * (256 * (256 * d3 + d2) + d1) + d0) / 16 = 256 * (256 * (256 * (d3 + d3 / 16) + (d2 + d2 / 16 + 16 * (d3 % 16))) + (d1 + d1 / 16 + 16 * (d2 % 16))) + (d0 + d0 / 16 + 16 * (d1 % 16)) := by omega
  have em : (252645135 : Nat) = 256 * (256 * (256 * 15 + 15) + 15) + 15 := by decide
  rw [e, em, n4_and _ _ _ _ _ (by omega) (by omega) (by omega) (by decide), pm3 d0 (by omega) _ (by omega), pm3 d1 (by omega) _ (by omega), pm3 d2 (by omega) _ (by omega)]
  rfl
def p32 (n : Nat) : Nat := p8 (n % 256) + p8 (n / 256 % 256) + p8 (n / 65536 % 256) + p8 (n / 16777216 % 256)
/-- the whole count, step by step -/
theorem pop_all {n a1 y1 a2 a3 y2 y3 y4 y5 r : Nat} (hn : n < 4294967296) (e1 : a1 = (n / 2) &&& 1431655765) (e2 : y1 = n - a1) (e3 : a2 = y1 &&& 858993459) (e4 : a3 = (y1 / 4) &&& 858993459) (e5 : y2 = a2 + a3) (e6 : y3 = (y2 + y2 / 16) &&& 252645135) (e7 : y4 = y3 + y3 / 256) (e8 : y5 = y4 + y4 / 65536) (e9 : r = y5 &&& 63) : r = p32 n := by
  obtain ⟨b0, eb0⟩ : ∃ b, b = n % 256 := ⟨_, rfl⟩
  obtain ⟨b1, eb1⟩ : ∃ b, b = n / 256 % 256 := ⟨_, rfl⟩
  obtain ⟨b2, eb2⟩ : ∃ b, b = n / 65536 % 256 := ⟨_, rfl⟩
  obtain ⟨b3, eb3⟩ : ∃ b, b = n / 16777216 % 256 := ⟨_, rfl⟩
  have h0 : b0 < 256 := by omega
  have h1 : b1 < 256 := by omega
  have h2 : b2 < 256 := by omega
  have h3 : b3 < 256 := by omega
  have en : n = 256 * (256 * (256 * b3 + b2) + b1) + b0 := by omega
  unfold p32
  rw [← eb0, ← eb1, ← eb2, ← eb3]
  clear eb0 eb1 eb2 eb3 hn
  rw [en, ps1 b0 b1 b2 b3 h0 h1 h2] at e1
  obtain ⟨A0, B0⟩ := pf_a b0 h0
  obtain ⟨A1, B1⟩ := pf_a b1 h1
  obtain ⟨A2, B2⟩ := pf_a b2 h2
  obtain ⟨A3, B3⟩ := pf_a b3 h3
  have f : ∀ b, pf1 b = b - ((b / 2) &&& 85) := fun _ => rfl
  have ey1 : y1 = 256 * (256 * (256 * pf1 b3 + pf1 b2) + pf1 b1) + pf1 b0 := by
    rw [e2, en, e1, f b0, f b1, f b2, f b3]
    generalize (b0 / 2) &&& 85 = t0 at *
    generalize (b1 / 2) &&& 85 = t1 at *
    generalize (b2 / 2) &&& 85 = t2 at *
    generalize (b3 / 2) &&& 85 = t3 at *
    clear f
    omega
  rw [ey1, ps2b _ _ _ _ B0 B1 B2] at e3
  rw [ey1, ps2 _ _ _ _ B0 B1 B2] at e4
  obtain ⟨-, C0, D0⟩ := pf_b b0 h0
  obtain ⟨-, C1, D1⟩ := pf_b b1 h1
  obtain ⟨-, C2, D2⟩ := pf_b b2 h2
  obtain ⟨-, C3, D3⟩ := pf_b b3 h3
  have g : ∀ c, pf2 c = (c &&& 51) + ((c / 4) &&& 51) := fun _ => rfl
  have ey2 : y2 = 256 * (256 * (256 * pf2 (pf1 b3) + pf2 (pf1 b2)) + pf2 (pf1 b1)) + pf2 (pf1 b0) := by
    rw [e5, e3, e4, g (pf1 b0), g (pf1 b1), g (pf1 b2), g (pf1 b3)]
    omega
  rw [ey2, ps3 _ _ _ _ C0 C1 C2 C3 D1 D2 D3] at e6
  obtain ⟨E0, F0⟩ := pf_c b0 h0
  obtain ⟨E1, F1⟩ := pf_c b1 h1
  obtain ⟨E2, F2⟩ := pf_c b2 h2
  obtain ⟨E3, F3⟩ := pf_c b3 h3
  rw [E0, E1, E2, E3] at e6
  rw [E0] at F0
  rw [E1] at F1
  rw [E2] at F2
  rw [E3] at F3
  have e9 : r = y5 % 64 := by rw [e9]; exact Nat.and_two_pow_sub_one_eq_mod y5 6
  generalize p8 b0 = q0 at *
  generalize p8 b1 = q1 at *
  generalize p8 b2 = q2 at *
  generalize p8 b3 = q3 at *
  clear e1 e2 e3 e4 e5 ey1 ey2 en A0 A1 A2 A3 B0 B1 B2 B3 C0 C1 C2 C3 D0 D1 D2 D3 E0 E1 E2 E3 f g h0 h1 h2 h3
  have k1 : y3 / 256 = 65536 * q3 + 256 * q2 + q1 := by clear e7 e8 e9; omega
  rw [k1] at e7
  have k2 : y4 = 16777216 * q3 + 65536 * (q2 + q3) + 256 * (q1 + q2) + (q0 + q1) := by clear e8 e9 k1; omega
  have k3 : y4 / 65536 = 256 * q3 + (q2 + q3) := by clear e6 e7 e8 e9 k1; omega
  rw [k3, k2] at e8
  clear e6 e7 k1 k2 k3
  have k4 : y5 = 64 * (262144 * q3 + 1024 * (q2 + q3) + 4 * (q1 + q2) + 4 * q3) + (q0 + q1 + q2 + q3) := by clear e9; omega
  rw [e9, k4, Nat.mul_add_mod, Nat.mod_eq_of_lt (by clear e8 e9 k4; omega)]
/-! the shifts, the masks -/
theorem u_nat {x : Int32} (h : 0 ≤ x.toInt) : (Int32.toUInt32 x).toNat = x.toInt.toNat := by
  show x.toBitVec.toNat = x.toBitVec.toInt.toNat
  have h2 : 0 ≤ x.toBitVec.toInt := h
  rw [BitVec.toInt_eq_toNat_cond] at h2 ⊢
  split at h2
  · rw [if_pos (by assumption)]; omega
  · exfalso
    have := x.toBitVec.isLt
    omega
theorem ushr_n {x y k : Int32} {s : Nat} (hy : y = (Int32.toUInt32 x >>> (Int32.toUInt32 k &&& Int32.toUInt32 31)).toInt32) (hk : (Int32.toUInt32 k &&& Int32.toUInt32 31).toNat % 32 = s) (h : 0 ≤ x.toInt) : y.toInt = ((x.toInt.toNat / 2 ^ s : Nat) : Int) := by
  have e2 : (Int32.toUInt32 x >>> (Int32.toUInt32 k &&& Int32.toUInt32 31)).toNat = x.toInt.toNat / 2 ^ s := by
    rw [UInt32.toNat_shiftRight, hk, u_nat h, Nat.shiftRight_eq_div_pow]
  have lt : x.toInt.toNat / 2 ^ s ≤ x.toInt.toNat := Nat.div_le_self _ _
  have hx := Int32.toInt_lt x
  subst hy
  show BitVec.toInt (Int32.toUInt32 x >>> (Int32.toUInt32 k &&& Int32.toUInt32 31)).toBitVec = _
  rw [BitVec.toInt_eq_toNat_of_lt]
  · exact congrArg Int.ofNat e2
  · have e3 : (Int32.toUInt32 x >>> (Int32.toUInt32 k &&& Int32.toUInt32 31)).toBitVec.toNat = x.toInt.toNat / 2 ^ s := e2
    rw [e3]
    omega
theorem and_n {x m w : Int32} (hw : w = x &&& m) (hx : 0 ≤ x.toInt) (hm : 0 ≤ m.toInt) : w.toInt = ((x.toInt.toNat &&& m.toInt.toNat : Nat) : Int) := by
  have ex : x.toBitVec.toNat = x.toInt.toNat := u_nat hx
  have em : m.toBitVec.toNat = m.toInt.toNat := u_nat hm
  have e2 : w.toBitVec.toNat = x.toInt.toNat &&& m.toInt.toNat := by
    rw [hw, Int32.toBitVec_and, BitVec.toNat_and, ex, em]
  have le : (x.toInt.toNat &&& m.toInt.toNat) ≤ x.toInt.toNat := Nat.and_le_left
  have hl := Int32.toInt_lt x
  show w.toBitVec.toInt = _
  rw [BitVec.toInt_eq_toNat_of_lt (by rw [e2]; omega), e2]
/-! the bits of a number -/
theorem p8_bits (b : Nat) : p8 b = (b.testBit 0).toNat + (b.testBit 1).toNat + (b.testBit 2).toNat + (b.testBit 3).toNat + (b.testBit 4).toNat + (b.testBit 5).toNat + (b.testBit 6).toNat + (b.testBit 7).toNat := by
  have key : ∀ z : Nat, z % 2 = (decide (z % 2 = 1)).toNat := fun z => by
    rcases Nat.mod_two_eq_zero_or_one z with h | h <;> rw [h] <;> rfl
  have q : ∀ j : Nat, b / 2 ^ j % 2 = (b.testBit j).toNat := fun j => by
    rw [Nat.testBit_eq_decide_div_mod_eq]; exact key _
  have q0 : b % 2 = (b.testBit 0).toNat := by rw [← q 0, Nat.pow_zero, Nat.div_one]
  have q1 : b / 2 % 2 = (b.testBit 1).toNat := q 1
  have q2 : b / 4 % 2 = (b.testBit 2).toNat := q 2
  have q3 : b / 8 % 2 = (b.testBit 3).toNat := q 3
  have q4 : b / 16 % 2 = (b.testBit 4).toNat := q 4
  have q5 : b / 32 % 2 = (b.testBit 5).toNat := q 5
  have q6 : b / 64 % 2 = (b.testBit 6).toNat := q 6
  have q7 : b / 128 % 2 = (b.testBit 7).toNat := q 7
  unfold p8
  rw [q0, q1, q2, q3, q4, q5, q6, q7]
theorem bI_tb {x : Int32} {X : Int} (h : x.toInt = X) (h0 : 0 ≤ X) (k : Nat) : bI X (k : Int) = (((X.toNat.testBit k).toNat : Nat) : Int) := by
  rw [bI_of h]
  have e : bt x ((k : Int)).toNat = X.toNat.testBit k := by
    unfold bt
    show x.toBitVec.toNat.testBit k = _
    rw [show x.toBitVec.toNat = x.toInt.toNat from u_nat (by omega), h]
  rw [e]
  cases X.toNat.testBit k <;> rfl
theorem tb_byte (n i j : Nat) (hj : j < 8) : (n / 2 ^ i % 2 ^ 8).testBit j = n.testBit (j + i) := by
  rw [Nat.testBit_mod_two_pow, Nat.testBit_div_two_pow, decide_eq_true hj, Bool.true_and]
theorem p8_at (n i : Nat) : p8 (n / 2 ^ i % 2 ^ 8) = (n.testBit (0 + i)).toNat + (n.testBit (1 + i)).toNat + (n.testBit (2 + i)).toNat + (n.testBit (3 + i)).toNat + (n.testBit (4 + i)).toNat + (n.testBit (5 + i)).toNat + (n.testBit (6 + i)).toNat + (n.testBit (7 + i)).toNat := by
  rw [p8_bits, tb_byte n i 0 (by decide), tb_byte n i 1 (by decide), tb_byte n i 2 (by decide), tb_byte n i 3 (by decide), tb_byte n i 4 (by decide), tb_byte n i 5 (by decide), tb_byte n i 6 (by decide), tb_byte n i 7 (by decide)]
theorem p32_at (n : Nat) : p32 n = ((n.testBit (0 + 0)).toNat + (n.testBit (1 + 0)).toNat + (n.testBit (2 + 0)).toNat + (n.testBit (3 + 0)).toNat + (n.testBit (4 + 0)).toNat + (n.testBit (5 + 0)).toNat + (n.testBit (6 + 0)).toNat + (n.testBit (7 + 0)).toNat) + ((n.testBit (0 + 8)).toNat + (n.testBit (1 + 8)).toNat + (n.testBit (2 + 8)).toNat + (n.testBit (3 + 8)).toNat + (n.testBit (4 + 8)).toNat + (n.testBit (5 + 8)).toNat + (n.testBit (6 + 8)).toNat + (n.testBit (7 + 8)).toNat) + ((n.testBit (0 + 16)).toNat + (n.testBit (1 + 16)).toNat + (n.testBit (2 + 16)).toNat + (n.testBit (3 + 16)).toNat + (n.testBit (4 + 16)).toNat + (n.testBit (5 + 16)).toNat + (n.testBit (6 + 16)).toNat + (n.testBit (7 + 16)).toNat) + ((n.testBit (0 + 24)).toNat + (n.testBit (1 + 24)).toNat + (n.testBit (2 + 24)).toNat + (n.testBit (3 + 24)).toNat + (n.testBit (4 + 24)).toNat + (n.testBit (5 + 24)).toNat + (n.testBit (6 + 24)).toNat + (n.testBit (7 + 24)).toNat) := by
  have e0 : n % 256 = n / 2 ^ 0 % 2 ^ 8 := by rw [Nat.pow_zero, Nat.div_one]
  unfold p32
  rw [e0, show n / 256 % 256 = n / 2 ^ 8 % 2 ^ 8 from rfl, show n / 65536 % 256 = n / 2 ^ 16 % 2 ^ 8 from rfl, show n / 16777216 % 256 = n / 2 ^ 24 % 2 ^ 8 from rfl, p8_at, p8_at, p8_at, p8_at]
theorem pop_bsm {x : Int32} {X : Int} (h : x.toInt = X) (h0 : 0 ≤ X) (z0 : bI X 30 = 0) (z1 : bI X 31 = 0) : ((p32 X.toNat : Nat) : Int) = bsm (bI X) 30 := by
  have e : bsm (bI X) 30 = 0 + bI X ((0 : Nat) : Int) + bI X ((1 : Nat) : Int) + bI X ((2 : Nat) : Int) + bI X ((3 : Nat) : Int) + bI X ((4 : Nat) : Int) + bI X ((5 : Nat) : Int) + bI X ((6 : Nat) : Int) + bI X ((7 : Nat) : Int) + bI X ((8 : Nat) : Int) + bI X ((9 : Nat) : Int) + bI X ((10 : Nat) : Int) + bI X ((11 : Nat) : Int) + bI X ((12 : Nat) : Int) + bI X ((13 : Nat) : Int) + bI X ((14 : Nat) : Int) + bI X ((15 : Nat) : Int) + bI X ((16 : Nat) : Int) + bI X ((17 : Nat) : Int) + bI X ((18 : Nat) : Int) + bI X ((19 : Nat) : Int) + bI X ((20 : Nat) : Int) + bI X ((21 : Nat) : Int) + bI X ((22 : Nat) : Int) + bI X ((23 : Nat) : Int) + bI X ((24 : Nat) : Int) + bI X ((25 : Nat) : Int) + bI X ((26 : Nat) : Int) + bI X ((27 : Nat) : Int) + bI X ((28 : Nat) : Int) + bI X ((29 : Nat) : Int) := rfl
  have z0 : bI X ((30 : Nat) : Int) = 0 := z0
  have z1 : bI X ((31 : Nat) : Int) = 0 := z1
  rw [bI_tb h h0] at z0 z1
  rw [e, bI_tb h h0 0, bI_tb h h0 1, bI_tb h h0 2, bI_tb h h0 3, bI_tb h h0 4, bI_tb h h0 5, bI_tb h h0 6, bI_tb h h0 7, bI_tb h h0 8, bI_tb h h0 9, bI_tb h h0 10, bI_tb h h0 11, bI_tb h h0 12, bI_tb h h0 13, bI_tb h h0 14, bI_tb h h0 15, bI_tb h h0 16, bI_tb h h0 17, bI_tb h h0 18, bI_tb h h0 19, bI_tb h h0 20, bI_tb h h0 21, bI_tb h h0 22, bI_tb h h0 23, bI_tb h h0 24, bI_tb h h0 25, bI_tb h h0 26, bI_tb h h0 27, bI_tb h h0 28, bI_tb h h0 29, p32_at]
  show ((((X.toNat.testBit 0).toNat + (X.toNat.testBit 1).toNat + (X.toNat.testBit 2).toNat + (X.toNat.testBit 3).toNat + (X.toNat.testBit 4).toNat + (X.toNat.testBit 5).toNat + (X.toNat.testBit 6).toNat + (X.toNat.testBit 7).toNat) + ((X.toNat.testBit 8).toNat + (X.toNat.testBit 9).toNat + (X.toNat.testBit 10).toNat + (X.toNat.testBit 11).toNat + (X.toNat.testBit 12).toNat + (X.toNat.testBit 13).toNat + (X.toNat.testBit 14).toNat + (X.toNat.testBit 15).toNat) + ((X.toNat.testBit 16).toNat + (X.toNat.testBit 17).toNat + (X.toNat.testBit 18).toNat + (X.toNat.testBit 19).toNat + (X.toNat.testBit 20).toNat + (X.toNat.testBit 21).toNat + (X.toNat.testBit 22).toNat + (X.toNat.testBit 23).toNat) + ((X.toNat.testBit 24).toNat + (X.toNat.testBit 25).toNat + (X.toNat.testBit 26).toNat + (X.toNat.testBit 27).toNat + (X.toNat.testBit 28).toNat + (X.toNat.testBit 29).toNat + (X.toNat.testBit 30).toNat + (X.toNat.testBit 31).toNat) : Nat) : Int) = _
  omega
/-- a number of bits below 31 is none below 0 -/
theorem bI_pos {x : Int32} {X : Int} (h : x.toInt = X) (z1 : bI X 31 = 0) : 0 ≤ X := by
  apply Classical.byContradiction
  intro g
  have e : bt x 31 = true := by
    unfold bt
    show x.toBitVec.toNat.testBit 31 = true
    have e2 : x.toInt = x.toBitVec.toInt := rfl
    rw [BitVec.toInt_eq_toNat_cond] at e2
    have hl := x.toBitVec.isLt
    split at e2
    · exfalso; omega
    · rw [Nat.testBit_eq_decide_div_mod_eq]
      exact decide_eq_true (by omega)
  rw [bI_of h] at z1
  have e3 : bt x ((31 : Int)).toNat = true := e
  rw [e3] at z1
  exact absurd z1 (by decide)
theorem add_n {x y z : Int32} {a b : Nat} (t : z.toInt = x.toInt + y.toInt ∨ x.toInt + y.toInt < -2147483648 ∨ 2147483648 ≤ x.toInt + y.toInt) (hx : x.toInt = (a : Int)) (hy : y.toInt = (b : Int)) (h : a + b < 2147483648) : z.toInt = ((a + b : Nat) : Int) := by omega
theorem sub_n {x y z : Int32} {a b : Nat} (t : z.toInt = x.toInt - y.toInt ∨ x.toInt - y.toInt < -2147483648 ∨ 2147483648 ≤ x.toInt - y.toInt) (hx : x.toInt = (a : Int)) (hy : y.toInt = (b : Int)) (h : b ≤ a) (ha : a < 2147483648) : z.toInt = ((a - b : Nat) : Int) := by omega
theorem ushr_m {x y k : Int32} {s a : Nat} (hy : y = (Int32.toUInt32 x >>> (Int32.toUInt32 k &&& Int32.toUInt32 31)).toInt32) (hk : (Int32.toUInt32 k &&& Int32.toUInt32 31).toNat % 32 = s) (hx : x.toInt = (a : Int)) : y.toInt = ((a / 2 ^ s : Nat) : Int) := by
  have e := ushr_n hy hk (by omega)
  rw [hx] at e
  exact e
theorem and_m {x m w : Int32} {a c : Nat} (hw : w = x &&& m) (hx : x.toInt = (a : Int)) (hm : m.toInt = (c : Int)) : w.toInt = ((a &&& c : Nat) : Int) := by
  have e := and_n hw (by omega) (by omega)
  rw [hx, hm] at e
  exact e
theorem bc_all {p x3 x7 x8 x14 x17 x21 x22 x27 x28 x32 x38 x39 x45 x46 x50 : Int32} (h0 : 0 ≤ p.toInt) (eb3 : x3 = (Int32.toUInt32 p >>> (Int32.toUInt32 1 &&& Int32.toUInt32 31)).toInt32) (he7 : x7 = x3 &&& 1431655765) (t8 : x8.toInt = p.toInt - x7.toInt ∨ p.toInt - x7.toInt < -2147483648 ∨ 2147483648 ≤ p.toInt - x7.toInt) (he14 : x14 = x8 &&& 858993459) (eb17 : x17 = (Int32.toUInt32 x8 >>> (Int32.toUInt32 2 &&& Int32.toUInt32 31)).toInt32) (he21 : x21 = x17 &&& 858993459) (t22 : x22.toInt = x14.toInt + x21.toInt ∨ x14.toInt + x21.toInt < -2147483648 ∨ 2147483648 ≤ x14.toInt + x21.toInt) (eb27 : x27 = (Int32.toUInt32 x22 >>> (Int32.toUInt32 4 &&& Int32.toUInt32 31)).toInt32) (t28 : x28.toInt = x22.toInt + x27.toInt ∨ x22.toInt + x27.toInt < -2147483648 ∨ 2147483648 ≤ x22.toInt + x27.toInt) (he32 : x32 = x28 &&& 252645135) (eb38 : x38 = (Int32.toUInt32 x32 >>> (Int32.toUInt32 8 &&& Int32.toUInt32 31)).toInt32) (t39 : x39.toInt = x32.toInt + x38.toInt ∨ x32.toInt + x38.toInt < -2147483648 ∨ 2147483648 ≤ x32.toInt + x38.toInt) (eb45 : x45 = (Int32.toUInt32 x39 >>> (Int32.toUInt32 16 &&& Int32.toUInt32 31)).toInt32) (t46 : x46.toInt = x39.toInt + x45.toInt ∨ x39.toInt + x45.toInt < -2147483648 ∨ 2147483648 ≤ x39.toInt + x45.toInt) (he50 : x50 = x46 &&& 63) : x50.toInt = ((p32 p.toInt.toNat : Nat) : Int) := by
  obtain ⟨n, en⟩ : ∃ n : Nat, p.toInt = (n : Int) := ⟨p.toInt.toNat, by clear eb3 he7 t8 he14 eb17 he21 t22 eb27 t28 he32 eb38 t39 eb45 t46 he50; omega⟩
  have hn : n < 2147483648 := by
    have hp := Int32.toInt_lt p
    clear eb3 he7 t8 he14 eb17 he21 t22 eb27 t28 he32 eb38 t39 eb45 t46 he50
    omega
  have s3 : x3.toInt = ((n / 2 : Nat) : Int) := ushr_m (s := 1) eb3 (by decide) en
  have s7 : x7.toInt = ((n / 2 &&& 1431655765 : Nat) : Int) := and_m he7 s3 (by decide)
  have b7 : (n / 2 &&& 1431655765) ≤ n := Nat.le_trans Nat.and_le_left (Nat.div_le_self _ _)
  obtain ⟨a1, ea1⟩ : ∃ a, a = (n / 2) &&& 1431655765 := ⟨_, rfl⟩
  rw [← ea1] at s7 b7
  have s8 := sub_n t8 en s7 b7 hn
  have b8 : n - a1 < 2147483648 := Nat.lt_of_le_of_lt (Nat.sub_le _ _) hn
  obtain ⟨y1, ey1⟩ : ∃ a, a = n - a1 := ⟨_, rfl⟩
  rw [← ey1] at s8 b8
  have s14 : x14.toInt = ((y1 &&& 858993459 : Nat) : Int) := and_m he14 s8 (by decide)
  have b14 : (y1 &&& 858993459) ≤ 858993459 := Nat.and_le_right
  have s17 : x17.toInt = ((y1 / 4 : Nat) : Int) := ushr_m (s := 2) eb17 (by decide) s8
  have s21 : x21.toInt = ((y1 / 4 &&& 858993459 : Nat) : Int) := and_m he21 s17 (by decide)
  have b21 : (y1 / 4 &&& 858993459) ≤ 858993459 := Nat.and_le_right
  obtain ⟨a2, ea2⟩ : ∃ a, a = y1 &&& 858993459 := ⟨_, rfl⟩
  obtain ⟨a3, ea3⟩ : ∃ a, a = (y1 / 4) &&& 858993459 := ⟨_, rfl⟩
  rw [← ea2] at s14 b14
  rw [← ea3] at s21 b21
  have b22 : a2 + a3 ≤ 1717986918 := Nat.add_le_add b14 b21
  have s22 := add_n t22 s14 s21 (Nat.lt_of_le_of_lt b22 (by decide))
  obtain ⟨y2, ey2⟩ : ∃ a, a = a2 + a3 := ⟨_, rfl⟩
  rw [← ey2] at s22 b22
  have s27 : x27.toInt = ((y2 / 16 : Nat) : Int) := ushr_m (s := 4) eb27 (by decide) s22
  have b27 : y2 / 16 ≤ 107374182 := Nat.div_le_div_right (c := 16) b22
  have s28 := add_n t28 s22 s27 (Nat.lt_of_le_of_lt (Nat.add_le_add b22 b27) (by decide))
  have s32 : x32.toInt = (((y2 + y2 / 16) &&& 252645135 : Nat) : Int) := and_m he32 s28 (by decide)
  have b32 : ((y2 + y2 / 16) &&& 252645135) ≤ 252645135 := Nat.and_le_right
  obtain ⟨y3, ey3⟩ : ∃ a, a = (y2 + y2 / 16) &&& 252645135 := ⟨_, rfl⟩
  rw [← ey3] at s32 b32
  have s38 : x38.toInt = ((y3 / 256 : Nat) : Int) := ushr_m (s := 8) eb38 (by decide) s32
  have b38 : y3 / 256 ≤ 986895 := Nat.div_le_div_right (c := 256) b32
  have b39 : y3 + y3 / 256 ≤ 253632030 := Nat.add_le_add b32 b38
  have s39 := add_n t39 s32 s38 (Nat.lt_of_le_of_lt b39 (by decide))
  obtain ⟨y4, ey4⟩ : ∃ a, a = y3 + y3 / 256 := ⟨_, rfl⟩
  rw [← ey4] at s39 b39
  have s45 : x45.toInt = ((y4 / 65536 : Nat) : Int) := ushr_m (s := 16) eb45 (by decide) s39
  have b45 : y4 / 65536 ≤ 3870 := Nat.div_le_div_right (c := 65536) b39
  have s46 := add_n t46 s39 s45 (Nat.lt_of_le_of_lt (Nat.add_le_add b39 b45) (by decide))
  obtain ⟨y5, ey5⟩ : ∃ a, a = y4 + y4 / 65536 := ⟨_, rfl⟩
  rw [← ey5] at s46
  have s50 : x50.toInt = ((y5 &&& 63 : Nat) : Int) := and_m he50 s46 (by decide)
  obtain ⟨r, er⟩ : ∃ a, a = y5 &&& 63 := ⟨_, rfl⟩
  rw [← er] at s50
  have f := pop_all (n := n) (Nat.lt_trans hn (by decide)) ea1 ey1 ea2 ea3 ey2 ey3 ey4 ey5 er
  rw [s50, en, f]
  rfl
theorem bsm_b {f : Int → Int} : ∀ n : Nat, (∀ k : Nat, k < n → f k = 0 ∨ f k = 1) → 0 ≤ bsm f n ∧ bsm f n ≤ (n : Int)
  | 0, _ => ⟨Int.le_refl _, Int.le_refl _⟩
  | n + 1, h => by
    have ih := bsm_b n (fun k hk => h k (by omega))
    have hn := h n (by omega)
    show 0 ≤ bsm f n + f n ∧ bsm f n + f n ≤ ((n + 1 : Nat) : Int)
    omega
def szB (b : Int → Int) (t : Int) : Int := bsm (bI (b t)) 30
theorem szB_b (b : Int → Int) (t : Int) : 0 ≤ szB b t ∧ szB b t ≤ 30 := bsm_b 30 (fun k _ => bI01 (b t) k)
theorem sz_p {r b : Int → Int} {p x : Int} {z : Int32} (hro : RO r b) (hz : z.toInt = b p) (t2 : (0 ≤ p ∧ p < 3 ∧ x = b p) ∨ ((p < 0 ∨ 3 ≤ p) ∧ x = 0)) : 0 ≤ x := by
  rcases t2 with ⟨h1, h3, h2⟩ | ⟨-, h2⟩
  · rw [h2]; exact bI_pos hz (hro.2.2 p 31 h1 h3 (by decide) (by decide))
  · omega
theorem sz_bd {r b : Int → Int} {p x y : Int} {z : Int32} (hro : RO r b) (hz : z.toInt = b p) (t2 : (0 ≤ p ∧ p < 3 ∧ x = b p) ∨ ((p < 0 ∨ 3 ≤ p) ∧ x = 0)) (h : y = ((p32 x.toNat : Nat) : Int)) : (((0 ≤ p ∧ p < 3) ∧ y = szB b p) ∨ (¬ (0 ≤ p ∧ p < 3) ∧ y = 0)) ∧ (0 ≤ y ∧ y ≤ 30) := by
  have h0 := sz_p hro hz t2
  rcases t2 with ⟨h1, h3, h2⟩ | ⟨h1, h2⟩
  · have e : y = szB b p := by
      rw [h, h2]
      exact pop_bsm hz (by omega) (hro.2.2 p 30 h1 h3 (by decide) (by decide)) (hro.2.2 p 31 h1 h3 (by decide) (by decide))
    exact ⟨Or.inl ⟨⟨h1, h3⟩, e⟩, by rw [e]; exact szB_b b p⟩
  · have e : y = 0 := by rw [h, h2]; rfl
    exact ⟨Or.inr ⟨by omega, e⟩, by omega⟩
def toB (b : Int → Int) (n : Int) : Int := bsm (szB b) n.toNat
theorem toB_0 (b : Int → Int) : toB b 0 = 0 := rfl
theorem toB_s (b : Int → Int) {n : Int} (h : 0 ≤ n) : toB b (n + 1) = toB b n + szB b n := by
  have e : (n + 1).toNat = n.toNat + 1 := by omega
  have e2 : ((n.toNat : Nat) : Int) = n := by omega
  unfold toB
  rw [e]
  show bsm (szB b) n.toNat + szB b ((n.toNat : Nat) : Int) = _
  rw [e2]
theorem v_J6_bitCount_0f7a4_52_1 (x3 : Int32) (p0 : Int32) (x7 : Int32) (x14 : Int32) (x8 : Int32) (x17 : Int32) (x21 : Int32) (x27 : Int32) (x22 : Int32) (x32 : Int32) (x28 : Int32) (x38 : Int32) (x45 : Int32) (x39 : Int32) (x51 : Int32) (x46 : Int32)
    (eb3 : x3 = (Int32.toUInt32 p0 >>> (Int32.toUInt32 1 &&& Int32.toUInt32 31)).toInt32)
    (he7 : x7 = x3 &&& 1431655765)
    (he14 : x14 = x8 &&& 858993459)
    (eb17 : x17 = (Int32.toUInt32 x8 >>> (Int32.toUInt32 2 &&& Int32.toUInt32 31)).toInt32)
    (he21 : x21 = x17 &&& 858993459)
    (eb27 : x27 = (Int32.toUInt32 x22 >>> (Int32.toUInt32 4 &&& Int32.toUInt32 31)).toInt32)
    (he32 : x32 = x28 &&& 252645135)
    (eb38 : x38 = (Int32.toUInt32 x32 >>> (Int32.toUInt32 8 &&& Int32.toUInt32 31)).toInt32)
    (eb45 : x45 = (Int32.toUInt32 x39 >>> (Int32.toUInt32 16 &&& Int32.toUInt32 31)).toInt32)
    (he51 : x51 = x46 &&& 63)
    (n0 : 0 ≤ p0.toInt)
    (t8 : x8.toInt = p0.toInt - x7.toInt ∨ p0.toInt - x7.toInt < -2147483648 ∨ 2147483648 ≤ p0.toInt - x7.toInt)
    (t22 : x22.toInt = x14.toInt + x21.toInt ∨ x14.toInt + x21.toInt < -2147483648 ∨ 2147483648 ≤ x14.toInt + x21.toInt)
    (t28 : x28.toInt = x22.toInt + x27.toInt ∨ x22.toInt + x27.toInt < -2147483648 ∨ 2147483648 ≤ x22.toInt + x27.toInt)
    (t39 : x39.toInt = x32.toInt + x38.toInt ∨ x32.toInt + x38.toInt < -2147483648 ∨ 2147483648 ≤ x32.toInt + x38.toInt)
    (t46 : x46.toInt = x39.toInt + x45.toInt ∨ x39.toInt + x45.toInt < -2147483648 ∨ 2147483648 ≤ x39.toInt + x45.toInt) :
    x51.toInt = ((p32 (p0.toInt).toNat : Nat) : Int) := by
  exact bc_all n0 eb3 he7 t8 he14 eb17 he21 t22 eb27 t28 he32 eb38 t39 eb45 t46 he51
theorem v_X6_total_12_1 {F : Nat → Nat → Nat} (a : Nat) (G : XG)
    (hro : RO (vw (G.2.1 (F a 0))) (aI (G.2.1 (F a 1)))) :
    RO (vw (G.2.1 (F a 0))) (aI (G.2.1 (F a 1))) := by
  exact hro
theorem v_X10_begin_23_1 {F : Nat → Nat → Nat} (a : Nat) (G12 : XG) (G : XG)
    (ron : RO (vw (G.2.1 (F (F a 3) 0))) (aI (G.2.1 (F (F a 3) 1))))
    (rob : RO (vw (G.2.1 (F (F a 4) 0))) (aI (G.2.1 (F (F a 4) 1))))
    (c_G12_F_F_a_3_0 : G12.2.1 (F (F a 3) 0) = G.2.1 (F (F a 3) 0))
    (c_G12_F_F_a_3_1 : G12.2.1 (F (F a 3) 1) = G.2.1 (F (F a 3) 1)) :
    RO (vw (G12.2.1 (F (F a 3) 0))) (aI (G12.2.1 (F (F a 3) 1))) := by simp only [c_G12_F_F_a_3_0, c_G12_F_F_a_3_1]; assumption
theorem v_X10_begin_51_2 {F : Nat → Nat → Nat} (a : Nat) (G : XG) (G_28 : XG)
    (ron : RO (vw (G.2.1 (F (F a 3) 0))) (aI (G.2.1 (F (F a 3) 1))))
    (c_G_28_F_F_a_3_0 : G_28.2.1 (F (F a 3) 0) = G.2.1 (F (F a 3) 0))
    (c_G_28_F_F_a_3_1 : G_28.2.1 (F (F a 3) 1) = G.2.1 (F (F a 3) 1)) :
    RO (vw (G_28.2.1 (F (F a 3) 0))) (aI (G_28.2.1 (F (F a 3) 1))) := by
  first | exact ron | (rw [c_G_28_F_F_a_3_0, c_G_28_F_F_a_3_1]; exact ron) | (simp only [c_G_28_F_F_a_3_0, c_G_28_F_F_a_3_1]; exact ron)
theorem v_X10_begin_54_3 {K : Nat → Nat} {F : Nat → Nat → Nat} (a : Nat) (G : XG) (G23 : XG) (G_28 : XG) (l1_28 : Int32) (N28 : Nat) (x51 : Int32)
    (ha : K a = 12)
    (oq23 : (vw (G23.2.1 (F (F a 4) 0))) = (vw (G.2.1 (F (F a 3) 0))))
    (f22 : ((G.1 a 18).toInt) = 0 ∨ ((G.1 a 18).toInt) = 1)
    (c4 : ((G.1 a 18).toInt) = 0)
    (I28_0 : (0 : Int) ≤ l1_28.toInt)
    (hm28 : 2147483648 - l1_28.toInt < (((N28) + 1 : Nat) : Int))
    (c31 : (6 : Int) ≤ l1_28.toInt)
    (t51 : x51.toInt = (toB (aI (G.2.1 (F (F a 3) 1))) 3) ∧ (0 ≤ x51.toInt ∧ x51.toInt ≤ 90))
    (c_G_28_F_F_a_4_0 : G_28.2.1 (F (F a 4) 0) = G23.2.1 (F (F a 4) 0)) :
    (((G.1 a 18).toInt) ≠ 0 ∧ (vw (G_28.2.1 (F (F a 4) 0))) = (vw (G.2.1 (F (F a 4) 0)))) ∨ (((G.1 a 18).toInt) = 0 ∧ (vw (G_28.2.1 (F (F a 4) 0))) = (vw (G.2.1 (F (F a 3) 0)))) := by
  exact Or.inr ⟨by omega, by rw [c_G_28_F_F_a_4_0]; exact oq23⟩
theorem v_X10_begin_54_4 {F : Nat → Nat → Nat} (a : Nat) (G23 : XG) (G_28 : XG)
    (oq23a : RO (vw (G23.2.1 (F (F a 4) 0))) (aI (G23.2.1 (F (F a 4) 1))))
    (c_G_28_F_F_a_4_0 : G_28.2.1 (F (F a 4) 0) = G23.2.1 (F (F a 4) 0))
    (c_G_28_F_F_a_4_1 : G_28.2.1 (F (F a 4) 1) = G23.2.1 (F (F a 4) 1)) :
    RO (vw (G_28.2.1 (F (F a 4) 0))) (aI (G_28.2.1 (F (F a 4) 1))) := by
  rw [c_G_28_F_F_a_4_0, c_G_28_F_F_a_4_1]; exact oq23a
theorem v_X10_begin_9_5 {K : Nat → Nat} {F : Nat → Nat → Nat} (a : Nat) (G : XG)
    (ha : K a = 12)
    (f17 : ((G.1 a 18).toInt) = 0 ∨ ((G.1 a 18).toInt) = 1)
    (c4 : ¬ (((G.1 a 18).toInt) = 0)) :
    (((G.1 a 18).toInt) ≠ 0 ∧ (vw (G.2.1 (F (F a 4) 0))) = (vw (G.2.1 (F (F a 4) 0)))) ∨ (((G.1 a 18).toInt) = 0 ∧ (vw (G.2.1 (F (F a 4) 0))) = (vw (G.2.1 (F (F a 3) 0)))) := by
  exact Or.inl ⟨by omega, rfl⟩
theorem v_X10_begin_9_6 {F : Nat → Nat → Nat} (a : Nat) (G : XG)
    (rob : RO (vw (G.2.1 (F (F a 4) 0))) (aI (G.2.1 (F (F a 4) 1)))) :
    RO (vw (G.2.1 (F (F a 4) 0))) (aI (G.2.1 (F (F a 4) 1))) := by
  exact rob
abbrev rm_J6_bitCount_0f7a4 : Room := { frames := 0, cells := 0, slots := 0, locals := 0 }
set_option maxHeartbeats 4000000 in
set_option maxRecDepth 100000 in
theorem c_J6_bitCount_0f7a4 (l : Launch) (E : XE) (K : Nat → Nat) (F : Nat → Nat → Nat) (G : XG) (h0 : Heap) (p0 : Int32) (n0 : 0 ≤ p0.toInt) : Met l yJ6_bitCount_0f7a4 (xw yJ6_bitCount_0f7a4 cJ6_bitCount_0f7a4 1 (some .int)) rm_J6_bitCount_0f7a4 (va_Pc [.int p0] (XPh E K F G h0)) (XQ E (fun v (u : Unit) => ∃ r : Int32, v = .int r ∧ (r.toInt = ((p32 (p0.toInt).toNat : Nat) : Int))) (fun _ H => H = h0)) 0 0 (xA E) := by
  refine x_enter (by decide) (Nat.le_of_ble_eq_true rfl) ?_
  intro p e s m args below meth c Q S hr hlk hnm hQ hP ls hl
  obtain ⟨⟨hz, hK, hT⟩, hh⟩ := hP
  obtain ⟨hx, hb, -, -, -⟩ := id S
  have hS : va_S (xA E) s.heap s.heap [] := va_S.rf
  have hl : lv_has ls 1 [(0, .int p0)] := hl
  refine lv_iload_n hx hb dJ6_bitCount_0f7a4_0 rfl (lv_at hl 0 rfl) ?_
  refine lv_iload_n hx hb dJ6_bitCount_0f7a4_1 rfl (lv_at hl 0 rfl) ?_
  refine lv_iconst (v := 1) hx hb dJ6_bitCount_0f7a4_2 (by decide) ?_
  refine lv_iushr hx hb dJ6_bitCount_0f7a4_3 rfl (lv_topi (fun x3 eb3 => ?_))
  refine lv_ldcw (v := 1431655765) hx hb S.2.2.2.1 (S.2.2.2.2 _ (List.mem_cons_of_mem _ kc_J6_265)) dJ6_bitCount_0f7a4_4 ?_
  refine lv_iand hx hb dJ6_bitCount_0f7a4_7 (lv_topi (fun x7 he7 => ?_))
  refine xi_isub hx hb (rfl : Int32.toInt p0 = p0.toInt) (rfl : Int32.toInt x7 = x7.toInt) dJ6_bitCount_0f7a4_8 (fun x8 t8 => ?_)
  refine lv_istore_n (lv' := [(0, .int x8)]) hx hb dJ6_bitCount_0f7a4_9 rfl hl (by decide) rfl (fun ls hl => ?_)
  refine lv_iload_n hx hb dJ6_bitCount_0f7a4_10 rfl (lv_at hl 0 rfl) ?_
  refine lv_ldcw (v := 858993459) hx hb S.2.2.2.1 (S.2.2.2.2 _ (List.mem_cons_of_mem _ kc_J6_266)) dJ6_bitCount_0f7a4_11 ?_
  refine lv_iand hx hb dJ6_bitCount_0f7a4_14 (lv_topi (fun x14 he14 => ?_))
  refine lv_iload_n hx hb dJ6_bitCount_0f7a4_15 rfl (lv_at hl 0 rfl) ?_
  refine lv_iconst (v := 2) hx hb dJ6_bitCount_0f7a4_16 (by decide) ?_
  refine lv_iushr hx hb dJ6_bitCount_0f7a4_17 rfl (lv_topi (fun x17 eb17 => ?_))
  refine lv_ldcw (v := 858993459) hx hb S.2.2.2.1 (S.2.2.2.2 _ (List.mem_cons_of_mem _ kc_J6_266)) dJ6_bitCount_0f7a4_18 ?_
  refine lv_iand hx hb dJ6_bitCount_0f7a4_21 (lv_topi (fun x21 he21 => ?_))
  refine xi_iadd hx hb (rfl : Int32.toInt x14 = x14.toInt) (rfl : Int32.toInt x21 = x21.toInt) dJ6_bitCount_0f7a4_22 (fun x22 t22 => ?_)
  refine lv_istore_n (lv' := [(0, .int x22)]) hx hb dJ6_bitCount_0f7a4_23 rfl hl (by decide) rfl (fun ls hl => ?_)
  refine lv_iload_n hx hb dJ6_bitCount_0f7a4_24 rfl (lv_at hl 0 rfl) ?_
  refine lv_iload_n hx hb dJ6_bitCount_0f7a4_25 rfl (lv_at hl 0 rfl) ?_
  refine lv_iconst (v := 4) hx hb dJ6_bitCount_0f7a4_26 (by decide) ?_
  refine lv_iushr hx hb dJ6_bitCount_0f7a4_27 rfl (lv_topi (fun x27 eb27 => ?_))
  refine xi_iadd hx hb (rfl : Int32.toInt x22 = x22.toInt) (rfl : Int32.toInt x27 = x27.toInt) dJ6_bitCount_0f7a4_28 (fun x28 t28 => ?_)
  refine lv_ldcw (v := 252645135) hx hb S.2.2.2.1 (S.2.2.2.2 _ (List.mem_cons_of_mem _ kc_J6_267)) dJ6_bitCount_0f7a4_29 ?_
  refine lv_iand hx hb dJ6_bitCount_0f7a4_32 (lv_topi (fun x32 he32 => ?_))
  refine lv_istore_n (lv' := [(0, .int x32)]) hx hb dJ6_bitCount_0f7a4_33 rfl hl (by decide) rfl (fun ls hl => ?_)
  refine lv_iload_n hx hb dJ6_bitCount_0f7a4_34 rfl (lv_at hl 0 rfl) ?_
  refine lv_iload_n hx hb dJ6_bitCount_0f7a4_35 rfl (lv_at hl 0 rfl) ?_
  refine lv_bipush (v := 8) hx hb dJ6_bitCount_0f7a4_36 (by decide) ?_
  refine lv_iushr hx hb dJ6_bitCount_0f7a4_38 rfl (lv_topi (fun x38 eb38 => ?_))
  refine xi_iadd hx hb (rfl : Int32.toInt x32 = x32.toInt) (rfl : Int32.toInt x38 = x38.toInt) dJ6_bitCount_0f7a4_39 (fun x39 t39 => ?_)
  refine lv_istore_n (lv' := [(0, .int x39)]) hx hb dJ6_bitCount_0f7a4_40 rfl hl (by decide) rfl (fun ls hl => ?_)
  refine lv_iload_n hx hb dJ6_bitCount_0f7a4_41 rfl (lv_at hl 0 rfl) ?_
  refine lv_iload_n hx hb dJ6_bitCount_0f7a4_42 rfl (lv_at hl 0 rfl) ?_
  refine lv_bipush (v := 16) hx hb dJ6_bitCount_0f7a4_43 (by decide) ?_
  refine lv_iushr hx hb dJ6_bitCount_0f7a4_45 rfl (lv_topi (fun x45 eb45 => ?_))
  refine xi_iadd hx hb (rfl : Int32.toInt x39 = x39.toInt) (rfl : Int32.toInt x45 = x45.toInt) dJ6_bitCount_0f7a4_46 (fun x46 t46 => ?_)
  refine lv_istore_n (lv' := [(0, .int x46)]) hx hb dJ6_bitCount_0f7a4_47 rfl hl (by decide) rfl (fun ls hl => ?_)
  refine lv_iload_n hx hb dJ6_bitCount_0f7a4_48 rfl (lv_at hl 0 rfl) ?_
  refine lv_bipush (v := 63) hx hb dJ6_bitCount_0f7a4_49 (by decide) ?_
  refine lv_iand hx hb dJ6_bitCount_0f7a4_51 (lv_topi (fun x51 he51 => ?_))
  exact x_ri hx hb hr hlk hQ (Nat.le_of_ble_eq_true rfl) (Nat.le_of_ble_eq_true rfl) hS dJ6_bitCount_0f7a4_52 () ⟨_, rfl, (v_J6_bitCount_0f7a4_52_1 x3 p0 x7 x14 x8 x17 x21 x27 x22 x32 x28 x38 x45 x39 x51 x46 eb3 he7 he14 eb17 he21 eb27 he32 eb38 eb45 he51 n0 t8 t22 t28 t39 t46)⟩ hh

theorem z_X6_size_2 (a0 : Int) (a1 : Int) (a2 : Int) (h0 : ((0 ≤ a0 ∧ a0 < 3) ∧ a1 = a2) ∨ (¬ (0 ≤ a0 ∧ a0 < 3) ∧ a1 = 0)) (h1 : 0 ≤ a1 ∧ a1 ≤ 30) : (((0 ≤ a0 ∧ a0 < 3) ∧ a1 = a2) ∨ (¬ (0 ≤ a0 ∧ a0 < 3) ∧ a1 = 0)) ∧ (0 ≤ a1 ∧ a1 ≤ 30) := by omega
abbrev rm_X6_size : Room := { frames := 2, cells := 0, slots := 0, locals := 41 }
set_option maxHeartbeats 4000000 in
set_option maxRecDepth 100000 in
theorem c_X6_size (l : Launch) (E : XE) (K : Nat → Nat) (F : Nat → Nat → Nat) (G : XG) (h0 : Heap) (a : Nat) (p0 : Int32) (ha : K a = 8) (hro : RO (vw (G.2.1 (F a 0))) (aI (G.2.1 (F a 1)))) : Met l yX6_size (xw yX6_size cX6_size 2 (some .int)) rm_X6_size (va_Pc [.ref a, .int p0] (XPh E K F G h0)) (XQ E (fun v (u : Unit) => ∃ r : Int32, v = .int r ∧ ((((0 ≤ p0.toInt ∧ p0.toInt < 3) ∧ r.toInt = (szB (aI (G.2.1 (F a 1))) (p0.toInt))) ∨ (¬ (0 ≤ p0.toInt ∧ p0.toInt < 3) ∧ r.toInt = 0)) ∧ (0 ≤ r.toInt ∧ r.toInt ≤ 30))) (fun _ H => H = h0)) 0 0 (xA E) := by
  refine x_enter (by decide) (Nat.le_of_ble_eq_true rfl) ?_
  intro p e s m args below meth c Q S hr hlk hnm hQ hP ls hl
  obtain ⟨⟨hz, hK, hT⟩, hh⟩ := hP
  obtain ⟨hx, hb, -, -, -⟩ := id S
  have hS : va_S (xA E) s.heap s.heap [] := va_S.rf
  have hl : lv_has ls 2 [(0, .ref a), (1, .int p0)] := hl
  obtain ⟨hk9999, hj9999⟩ := fkX6_0 hT ha
  obtain ⟨hk9999a, hj9999a⟩ := fkX6_1 hT ha
  refine lv_aload_n hx hb dX6_size_0 rfl (lv_at hl 0 rfl) ?_
  refine lv_iload_n hx hb dX6_size_1 rfl (lv_at hl 1 rfl) ?_
  refine x_clp (x_runV (b := a) (As := [.int p0]) (rest := []) S (c_X6_keyBits l E K F G s.heap a p0 ha) mv_X6_keyBits km_X6_38 rfl rfl ⟨Nat.le_of_ble_eq_true rfl, Nat.le_of_ble_eq_true rfl⟩ (rc_8 hK hT ha) hK (fun _ => XPh.blind) (fun U hU hW => XPh.at hK hz hS hT hU hW) rfl hl.1 (Nat.le_of_ble_eq_true rfl) dX6_size_2 ⟨Nat.le_of_ble_eq_true rfl, Nat.le_of_ble_eq_true rfl⟩) hS ?_
  rintro _ _ locs ⟨x2, rfl, t2⟩ hS
  have t2 : (0 ≤ p0.toInt ∧ p0.toInt < 3 ∧ x2.toInt = (aI (G.2.1 (F a 1)) (p0.toInt))) ∨ ((p0.toInt < 0 ∨ 3 ≤ p0.toInt) ∧ x2.toInt = 0) := t2
  have z5 : 0 ≤ x2.toInt := sz_p (z := G.2.1 (F a 1) (p0.toInt).toNat) hro rfl t2
  refine x_clp (x_runS (As := [.int x2]) (rest := []) S (c_J6_bitCount_0f7a4 l E K F G s.heap x2 (z5)) ms_J6_bitCount_0f7a4 km_X6_42 rfl rfl ⟨Nat.le_of_ble_eq_true rfl, Nat.le_of_ble_eq_true rfl⟩ hK (fun _ => XPh.blind) (fun U hU hW => XPh.at hK hz hS hT hU hW) rfl hl.1 (Nat.le_of_ble_eq_true rfl) dX6_size_5 ⟨Nat.le_of_ble_eq_true rfl, Nat.le_of_ble_eq_true rfl⟩) hS ?_
  rintro _ _ locs ⟨x5, rfl, oq5⟩ hS
  have z8 : ((0 ≤ p0.toInt ∧ p0.toInt < 3) ∧ x5.toInt = (szB (aI (G.2.1 (F a 1))) (p0.toInt))) ∨ (¬ (0 ≤ p0.toInt ∧ p0.toInt < 3) ∧ x5.toInt = 0) := (sz_bd (z := G.2.1 (F a 1) (p0.toInt).toNat) hro rfl t2 oq5).1
  have z8a : 0 ≤ x5.toInt ∧ x5.toInt ≤ 30 := (sz_bd (z := G.2.1 (F a 1) (p0.toInt).toNat) hro rfl t2 oq5).2
  exact x_ri hx hb hr hlk hQ (Nat.le_of_ble_eq_true rfl) (Nat.le_of_ble_eq_true rfl) hS dX6_size_8 () ⟨_, rfl, (z_X6_size_2 p0.toInt x5.toInt (szB (aI (G.2.1 (F a 1))) (p0.toInt)) z8 z8a)⟩ hh

theorem z_X6_total_1 (a0 : Int) (h0 : 0 ≤ a0 ∧ a0 ≤ 3) : ¬ (100 - a0 < ((0 : Nat) : Int)) := by omega
theorem z_X6_total_2 (a0 : Int) (a1 : Int) (a2 : Int) (a3 : Int) (h0 : 0 ≤ a1 ∧ a1 ≤ 3) (h1 : a0 = a2) (h2 : 0 ≤ a0 ∧ a0 ≤ 30 * a1) (h3 : (3 : Int) ≤ a1) (h4 : a1 = 3 → a2 = a3) : a0 = a3 ∧ (0 ≤ a0 ∧ a0 ≤ 90) := by omega
theorem z_X6_total_3 (a0 : Int) (h0 : 0 ≤ a0 ∧ a0 ≤ 3) : 0 ≤ a0 := by omega
theorem z_X6_total_4 (a0 : Int) (a1 : Int) (h0 : 0 ≤ a0 ∧ a0 ≤ 3) (h1 : a1 = (a0 + 1) ∨ (a0 + 1) < -2147483648 ∨ 2147483648 ≤ (a0 + 1)) : a1 = (a0 + 1) := by omega
theorem z_X6_total_5 (a0 : Int) (h0 : 0 ≤ a0 ∧ a0 ≤ 3) (h1 : ¬ ((3 : Int) ≤ a0)) : 0 ≤ (a0 + 1) ∧ (a0 + 1) ≤ 3 := by omega
theorem z_X6_total_6 (a0 : Int) (a1 : Int) (a2 : Int) (a3 : Int) (a4 : Int) (a5 : Int) (a6 : Int) (h0 : a0 = a6) (h1 : 0 ≤ a0 ∧ a0 ≤ 30 * a1) (h2 : ¬ ((3 : Int) ≤ a1)) (h3 : a5 = a6 + a4) (h4 : ((0 ≤ a1 ∧ a1 < 3) ∧ a2 = a4) ∨ (¬ (0 ≤ a1 ∧ a1 < 3) ∧ a2 = 0)) (h5 : 0 ≤ a2 ∧ a2 ≤ 30) (h6 : a3 = a0 + a2 ∨ a0 + a2 < -2147483648 ∨ 2147483648 ≤ a0 + a2) : a3 = a5 := by omega
theorem z_X6_total_7 (a0 : Int) (a1 : Int) (a2 : Int) (a3 : Int) (h0 : 0 ≤ a0 ∧ a0 ≤ 30 * a1) (h1 : ¬ ((3 : Int) ≤ a1)) (h2 : 0 ≤ a2 ∧ a2 ≤ 30) (h3 : a3 = a0 + a2 ∨ a0 + a2 < -2147483648 ∨ 2147483648 ≤ a0 + a2) : 0 ≤ a3 ∧ a3 ≤ 30 * (a1 + 1) := by omega
theorem z_X6_total_8 (a0 : Int) (a1 : Nat) (h0 : 100 - a0 < ((a1 + 1 : Nat) : Int)) : 100 - (a0 + 1) < ((a1 : Nat) : Int) := by omega
theorem z_X6_total_9 (a0 : Int) (h0 : a0 = 0) : (0 : Int) = a0 := by omega
abbrev rm_X6_total : Room := { frames := 3, cells := 0, slots := 0, locals := 62 }
set_option maxHeartbeats 4000000 in
set_option maxRecDepth 100000 in
theorem c_X6_total (l : Launch) (E : XE) (K : Nat → Nat) (F : Nat → Nat → Nat) (G : XG) (h0 : Heap) (a : Nat) (ha : K a = 8) (hro : RO (vw (G.2.1 (F a 0))) (aI (G.2.1 (F a 1)))) : Met l yX6_total (xw yX6_total cX6_total 3 (some .int)) rm_X6_total (va_Pc [.ref a] (XPh E K F G h0)) (XQ E (fun v (u : Unit) => ∃ r : Int32, v = .int r ∧ (r.toInt = (toB (aI (G.2.1 (F a 1))) 3) ∧ (0 ≤ r.toInt ∧ r.toInt ≤ 90))) (fun _ H => H = h0)) 0 0 (xA E) := by
  refine x_enter (by decide) (Nat.le_of_ble_eq_true rfl) ?_
  intro p e s m args below meth c Q S hr hlk hnm hQ hP ls hl
  obtain ⟨⟨hz, hK, hT⟩, hh⟩ := hP
  obtain ⟨hx, hb, -, -, -⟩ := id S
  have hS : va_S (xA E) s.heap s.heap [] := va_S.rf
  have hl : lv_has ls 3 [(0, .ref a)] := hl
  obtain ⟨hk9999, hj9999⟩ := fkX6_0 hT ha
  obtain ⟨hk9999a, hj9999a⟩ := fkX6_1 hT ha
  have z0 : (toB (aI (G.2.1 (F a 1))) 0) = 0 := toB_0 _
  refine lv_iconst (v := 0) hx hb dX6_total_0 (by decide) ?_
  refine lv_istore_n (lv' := [(1, .int 0), (0, .ref a)]) hx hb dX6_total_1 rfl hl (by decide) rfl (fun ls hl => ?_)
  refine lv_iconst (v := 0) hx hb dX6_total_2 (by decide) ?_
  refine lv_istore_n (lv' := [(2, .int 0), (1, .int 0), (0, .ref a)]) hx hb dX6_total_3 rfl hl (by decide) rfl (fun ls hl => ?_)
  have L4 : ∀ (N4 : Nat) (l1_4 : Int32) (l2_4 : Int32) (locs : List Loc) (ls : Array Slot), 0 ≤ l2_4.toInt ∧ l2_4.toInt ≤ 3 → l1_4.toInt = (toB (aI (G.2.1 (F a 1))) (l2_4.toInt)) → 0 ≤ l1_4.toInt ∧ l1_4.toInt ≤ 30 * l2_4.toInt → 100 - l2_4.toInt < ((N4 : Nat) : Int) → TW E K F G s.heap → va_S (xA E) s.heap s.heap locs → lv_has ls 3 [(0, .ref a), (1, .int l1_4), (2, .int l2_4)] → W p l e rm_X6_total s m args below meth c s.heap locs 0 0 Q (F0 m 4 ls []) := by
    intro N4
    induction N4 with
    | zero =>
      intro l1_4 l2_4 locs ls I4_0 I4_1 I4_2 hm4
      exact absurd hm4 (z_X6_total_1 l2_4.toInt I4_0)
    | succ N4 ih4 =>
      intro l1_4 l2_4 locs ls I4_0 I4_1 I4_2 hm4 hT hS hl
      refine lv_iload_n hx hb dX6_total_4 rfl (lv_at hl 2 rfl) ?_
      refine lv_iconst (v := 3) hx hb dX6_total_5 (by decide) ?_
      refine xi_cge (tgt := 23) hx hb (rfl : Int32.toInt l2_4 = l2_4.toInt) ((by decide) : Int32.toInt 3 = (3 : Int)) dX6_total_6 (by decide) (fun c6 => ?_) (fun c6 => ?_)
      · have z23 : l2_4.toInt = 3 → (toB (aI (G.2.1 (F a 1))) (l2_4.toInt)) = (toB (aI (G.2.1 (F a 1))) 3) := fun h9 => by rw [h9]
        refine lv_iload_n hx hb dX6_total_23 rfl (lv_at hl 1 rfl) ?_
        exact x_ri hx hb hr hlk hQ (Nat.le_of_ble_eq_true rfl) (Nat.le_of_ble_eq_true rfl) hS dX6_total_24 () ⟨_, rfl, (z_X6_total_2 l1_4.toInt l2_4.toInt (toB (aI (G.2.1 (F a 1))) (l2_4.toInt)) (toB (aI (G.2.1 (F a 1))) 3) I4_0 I4_1 I4_2 c6 z23)⟩ hh
      · have z9 : (toB (aI (G.2.1 (F a 1))) (l2_4.toInt + 1)) = (toB (aI (G.2.1 (F a 1))) (l2_4.toInt)) + (szB (aI (G.2.1 (F a 1))) (l2_4.toInt)) := toB_s _ (z_X6_total_3 l2_4.toInt I4_0)
        refine lv_iload_n hx hb dX6_total_9 rfl (lv_at hl 1 rfl) ?_
        refine lv_aload_n hx hb dX6_total_10 rfl (lv_at hl 0 rfl) ?_
        refine lv_iload_n hx hb dX6_total_11 rfl (lv_at hl 2 rfl) ?_
        refine x_clp (x_runV (b := a) (As := [.int l2_4]) (rest := [.int l1_4]) S (c_X6_size l E K F G s.heap a l2_4 ha (v_X6_total_12_1 (F := F) a G hro)) mv_X6_size km_X6_47 rfl rfl ⟨Nat.le_of_ble_eq_true rfl, Nat.le_of_ble_eq_true rfl⟩ (rc_8 hK hT ha) hK (fun _ => XPh.blind) (fun U hU hW => XPh.at hK hz hS hT hU hW) rfl hl.1 (Nat.le_of_ble_eq_true rfl) dX6_total_12 ⟨Nat.le_of_ble_eq_true rfl, Nat.le_of_ble_eq_true rfl⟩) hS ?_
        rintro _ _ locs ⟨x12, rfl, t12⟩ hS
        have t12 : (((0 ≤ l2_4.toInt ∧ l2_4.toInt < 3) ∧ x12.toInt = (szB (aI (G.2.1 (F a 1))) (l2_4.toInt))) ∨ (¬ (0 ≤ l2_4.toInt ∧ l2_4.toInt < 3) ∧ x12.toInt = 0)) ∧ (0 ≤ x12.toInt ∧ x12.toInt ≤ 30) := t12
        refine xi_iadd hx hb (rfl : Int32.toInt l1_4 = l1_4.toInt) (rfl : Int32.toInt x12 = x12.toInt) dX6_total_15 (fun x15 t15 => ?_)
        refine lv_istore_n (lv' := [(1, .int x15), (0, .ref a), (2, .int l2_4)]) hx hb dX6_total_16 rfl hl (by decide) rfl (fun ls hl => ?_)
        refine xi_iinc (n := 1) (lv' := fun z9 => [(2, .int z9), (1, .int x15), (0, .ref a)]) (k := 2) hx hb (rfl : Int32.toInt l2_4 = l2_4.toInt) (by decide) dX6_total_17 hl rfl (by decide) (fun _ => rfl) (fun x17 ls t17 hl => ?_)
        have e17 : x17.toInt = (l2_4.toInt + 1) := (z_X6_total_4 l2_4.toInt x17.toInt I4_0 t17)
        have hl : lv_has ls 3 [(2, .int x17), (1, .int x15), (0, .ref a)] := hl
        refine lv_goto (tgt := 4) hx hb dX6_total_20 (by decide) ?_
        exact ih4 x15 x17 _ _ (by rw [(e17 : Int32.toInt x17 = (l2_4.toInt + 1))] <;> exact (z_X6_total_5 l2_4.toInt I4_0 c6)) (by rw [(e17 : Int32.toInt x17 = (l2_4.toInt + 1))] <;> exact (z_X6_total_6 l1_4.toInt l2_4.toInt x12.toInt x15.toInt (szB (aI (G.2.1 (F a 1))) (l2_4.toInt)) (toB (aI (G.2.1 (F a 1))) (l2_4.toInt + 1)) (toB (aI (G.2.1 (F a 1))) (l2_4.toInt)) I4_1 I4_2 c6 z9 (t12).1 (t12).2 t15)) (by rw [(e17 : Int32.toInt x17 = (l2_4.toInt + 1))] <;> exact (z_X6_total_7 l1_4.toInt l2_4.toInt x12.toInt x15.toInt I4_2 c6 (t12).2 t15)) (by rw [(e17 : Int32.toInt x17 = (l2_4.toInt + 1))] <;> exact (z_X6_total_8 l2_4.toInt N4 hm4)) hT hS (lv_sub hl [2, 1, 0] rfl)
  exact L4 4294967297 0 0 _ _ (by decide) (z_X6_total_9 (toB (aI (G.2.1 (F a 1))) 0) z0) (by decide) (by decide) hT hS (lv_sub hl [2, 1, 0] rfl)

theorem z_X10_begin_1 (a0 : Int) (h0 : -2147483648 ≤ a0 ∧ a0 < 2147483648) : ¬ (2147483648 - a0 < ((0 : Nat) : Int)) := by omega
theorem z_X10_begin_2 (a0 : Int) (a1 : Int) (a2 : Int) (h0 : a1 = 0) (h1 : a0 = a2 ∧ (0 ≤ a0 ∧ a0 ≤ 90)) : (a1 ≠ 0 ∧ a0 = -3 ∧ (1 : Int) = a1) ∨ (a1 = 0 ∧ (1 : Int) = 1 ∧ a0 = a2) := by omega
theorem z_X10_begin_3 (a0 : Int) (h0 : (0 : Int) ≤ a0) (h1 : ¬ ((6 : Int) ≤ a0)) : 0 ≤ a0 ∧ a0 < ((6 : Nat) : Int) := by omega
theorem z_X10_begin_4 (a0 : Int) (a1 : Int) (h0 : (0 : Int) ≤ a0) (h1 : ¬ ((6 : Int) ≤ a0)) (h2 : a1 = (a0 + 1) ∨ (a0 + 1) < -2147483648 ∨ 2147483648 ≤ (a0 + 1)) : a1 = (a0 + 1) := by omega
theorem z_X10_begin_5 (a0 : Int) (h0 : (0 : Int) ≤ a0) : (0 : Int) ≤ (a0 + 1) := by omega
theorem z_X10_begin_6 (a0 : Int) (a1 : Nat) (h0 : 2147483648 - a0 < ((a1 + 1 : Nat) : Int)) : 2147483648 - (a0 + 1) < ((a1 : Nat) : Int) := by omega
theorem z_X10_begin_7 (a0 : Int) (a1 : Int) (h0 : ¬ (a0 = 0)) : (a0 ≠ 0 ∧ (-3 : Int) = -3 ∧ a0 = a0) ∨ (a0 = 0 ∧ a0 = 1 ∧ (-3 : Int) = a1) := by omega
abbrev rm_X10_begin : Room := { frames := 4, cells := 0, slots := 0, locals := 84 }
set_option maxHeartbeats 4000000 in
set_option maxRecDepth 100000 in
theorem c_X10_begin (l : Launch) (E : XE) (K : Nat → Nat) (F : Nat → Nat → Nat) (G : XG) (a : Nat) (ha : K a = 12) (ron : RO (vw (G.2.1 (F (F a 3) 0))) (aI (G.2.1 (F (F a 3) 1)))) (rob : RO (vw (G.2.1 (F (F a 4) 0))) (aI (G.2.1 (F (F a 4) 1)))) : Met l yX10_begin (xw yX10_begin cX10_begin 2 (some .int)) rm_X10_begin (va_Pc [.ref a] (XP E K F G)) (XQ E (fun v (u : XG) => ∃ r : Int32, v = .int r ∧ XFr [(a, 18)] [F (F a 4) 0, F (F a 4) 1, F a 15] [] G u ∧ ((((G.1 a 18).toInt) ≠ 0 ∧ r.toInt = -3 ∧ ((u.1 a 18).toInt) = ((G.1 a 18).toInt)) ∨ (((G.1 a 18).toInt) = 0 ∧ ((u.1 a 18).toInt) = 1 ∧ r.toInt = (toB (aI (G.2.1 (F (F a 3) 1))) 3))) ∧ ((((G.1 a 18).toInt) ≠ 0 ∧ (vw (u.2.1 (F (F a 4) 0))) = (vw (G.2.1 (F (F a 4) 0)))) ∨ (((G.1 a 18).toInt) = 0 ∧ (vw (u.2.1 (F (F a 4) 0))) = (vw (G.2.1 (F (F a 3) 0))))) ∧ (RO (vw (u.2.1 (F (F a 4) 0))) (aI (u.2.1 (F (F a 4) 1))))) (fun u H => TW E K F u H)) 0 0 (xA E) := by
  refine x_enter (by decide) (Nat.le_of_ble_eq_true rfl) ?_
  intro p e s m args below meth c Q S hr hlk hnm hQ hP ls hl
  obtain ⟨hz, hK, hT⟩ := hP
  obtain ⟨hx, hb, -, -, -⟩ := id S
  obtain ⟨H, hT, hS, hgo⟩ : ∃ H : Heap, TW E K F G H ∧ va_S (xA E) s.heap H [] ∧ H = s.heap := ⟨_, hT, va_S.rf, rfl⟩
  rw [← hgo]
  have hl : lv_has ls 2 [(0, .ref a)] := hl
  obtain ⟨hk9999, hj9999⟩ := fkX10_4 hT ha
  obtain ⟨hk9999a, hj9999a⟩ := fkX6_0 hT hk9999
  have hj9999b : F (F (F a 4) 0) 99 = 1 := by rw [hj9999a, hj9999]
  obtain ⟨hk9999b, hj9999c⟩ := fkX6_1 hT hk9999
  have hj9999d : F (F (F a 4) 1) 99 = 1 := by rw [hj9999c, hj9999]
  obtain ⟨hk9999c, hj9999e⟩ := fkX10_15 hT ha
  obtain ⟨hk9999d, hj9999f⟩ := fkX10_3 hT ha
  obtain ⟨hk9999e, hj9999g⟩ := fkX6_0 hT hk9999d
  have hj9999h : F (F (F a 3) 0) 99 = 0 := by rw [hj9999g, hj9999f]
  obtain ⟨hk9999f, hj9999i⟩ := fkX6_1 hT hk9999d
  have hj9999j : F (F (F a 3) 1) 99 = 0 := by rw [hj9999i, hj9999f]
  refine lv_aload_n hx hb dX10_begin_0 rfl (lv_at hl 0 rfl) ?_
  refine gX10_18 S hK hT ha kf_X10_123 dX10_begin_1 (v := (G.1 a 18)) rfl (fun hz1 => ?_)
  refine xi_zeq (tgt := 10) hx hb (rfl : Int32.toInt (G.1 a 18) = ((G.1 a 18).toInt)) dX10_begin_4 (by decide) (fun c4 => ?_) (fun c4 => ?_)
  · refine lv_aload_n hx hb dX10_begin_10 rfl (lv_at hl 0 rfl) ?_
    refine lv_iconst (v := 1) hx hb dX10_begin_11 (by decide) ?_
    refine pX10_18 (v := 1) S hK hT hS ha kf_X10_123 (Or.inr rfl) dX10_begin_12 (fun H locs hT hS => ?_)
    obtain ⟨G12, hG12⟩ : ∃ GG : XG, GG = dput G a 18 1 := ⟨_, rfl⟩
    rw [← hG12] at hT
    refine lv_aload_n hx hb dX10_begin_15 rfl (lv_at hl 0 rfl) ?_
    refine gX10_4 S hK hT ha kf_X10_41 dX10_begin_16 (fun _ _ => ?_)
    refine lv_aload_n hx hb dX10_begin_19 rfl (lv_at hl 0 rfl) ?_
    refine gX10_3 S hK hT ha kf_X10_37 dX10_begin_20 (fun _ _ => ?_)
    refine x_cv0 (x_runV (b := (F a 4)) (As := [.ref (F a 3)]) (rest := []) S (c_X6_copy l E K F G12 (F a 4) (F a 3) hk9999 hk9999d (v_X10_begin_23_1 (F := F) a G12 G ron rob (ld_c hG12) (ld_c hG12))) mv_X6_copy km_X10_195 rfl rfl ⟨Nat.le_of_ble_eq_true rfl, Nat.le_of_ble_eq_true rfl⟩ (rc_8 hK hT hk9999) hK (fun _ => XP.blind) (fun U hU hW => XP.at hK hz hS hT hU hW) rfl hl.1 (Nat.le_of_ble_eq_true rfl) dX10_begin_23 ⟨Nat.le_of_ble_eq_true rfl, Nat.le_of_ble_eq_true rfl⟩) hS ?_
    rintro G23 H locs ⟨hF23, oq23, oq23a⟩ hT hS
    have oq23 : (vw (G23.2.1 (F (F a 4) 0))) = (vw (G.2.1 (F (F a 3) 0))) := by simp only [(show G12.2.1 (F (F a 3) 0) = G.2.1 (F (F a 3) 0) from (ld_c hG12))] at oq23; exact oq23
    refine lv_iconst (v := 0) hx hb dX10_begin_26 (by decide) ?_
    refine lv_istore_n (lv' := [(1, .int 0), (0, .ref a)]) hx hb dX10_begin_27 rfl hl (by decide) rfl (fun ls hl => ?_)
    have L28 : ∀ (N28 : Nat) (l1_28 : Int32) (G_28 : XG) (H : Heap) (locs : List Loc) (ls : Array Slot), XFr [] [F a 15] [] G23 G_28 → (0 : Int) ≤ l1_28.toInt → 2147483648 - l1_28.toInt < ((N28 : Nat) : Int) → TW E K F G_28 H → va_S (xA E) s.heap H locs → lv_has ls 2 [(0, .ref a), (1, .int l1_28)] → W p l e rm_X10_begin s m args below meth c H locs 0 0 Q (F0 m 28 ls []) := by
      intro N28
      induction N28 with
      | zero =>
        intro l1_28 G_28 H locs ls hF_28 I28_0 hm28
        exact absurd hm28 (z_X10_begin_1 l1_28.toInt (xr l1_28))
      | succ N28 ih28 =>
        intro l1_28 G_28 H locs ls hF_28 I28_0 hm28 hT hS hl
        refine lv_iload_n hx hb dX10_begin_28 rfl (lv_at hl 1 rfl) ?_
        refine lv_bipush (v := 6) hx hb dX10_begin_29 (by decide) ?_
        refine xi_cge (tgt := 47) hx hb (rfl : Int32.toInt l1_28 = l1_28.toInt) ((by decide) : Int32.toInt 6 = (6 : Int)) dX10_begin_31 (by decide) (fun c31 => ?_) (fun c31 => ?_)
        · refine lv_aload_n hx hb dX10_begin_47 rfl (lv_at hl 0 rfl) ?_
          refine gX10_3 S hK hT ha kf_X10_37 dX10_begin_48 (fun _ _ => ?_)
          refine x_clp (x_runV (b := (F a 3)) (As := []) (rest := []) S (c_X6_total l E K F G_28 H (F a 3) hk9999d (v_X10_begin_51_2 (F := F) a G G_28 ron ((hF_28.2.1 _ (xn1 (xne_k hk9999e hk9999c (by decide)) xn0)).trans ((hF23.2.1 _ (xn1 (xne_j hj9999h hj9999b (by first | decide | omega)) (xn1 (xne_k hk9999e hk9999b (by decide)) xn0))).trans (ld_c hG12))) ((hF_28.2.1 _ (xn1 (xne_k hk9999f hk9999c (by decide)) xn0)).trans ((hF23.2.1 _ (xn1 (xne_k hk9999f hk9999a (by decide)) (xn1 (xne_j hj9999j hj9999d (by first | decide | omega)) xn0))).trans (ld_c hG12))))) mv_X6_total km_X10_222 rfl rfl ⟨Nat.le_of_ble_eq_true rfl, Nat.le_of_ble_eq_true rfl⟩ (rc_8 hK hT hk9999d) hK (fun _ => XPh.blind) (fun U hU hW => XPh.at hK hz hS hT hU hW) rfl hl.1 (Nat.le_of_ble_eq_true rfl) dX10_begin_51 ⟨Nat.le_of_ble_eq_true rfl, Nat.le_of_ble_eq_true rfl⟩) hS ?_
          rintro _ _ locs ⟨x51, rfl, t51⟩ hS
          have t51 : x51.toInt = (toB (aI (G.2.1 (F (F a 3) 1))) 3) ∧ (0 ≤ x51.toInt ∧ x51.toInt ≤ 90) := by rw [(show G_28.2.1 (F (F a 3) 1) = G.2.1 (F (F a 3) 1) from ((hF_28.2.1 _ (xn1 (xne_k hk9999f hk9999c (by decide)) xn0)).trans ((hF23.2.1 _ (xn1 (xne_k hk9999f hk9999a (by decide)) (xn1 (xne_j hj9999j hj9999d (by first | decide | omega)) xn0))).trans (ld_c hG12))))] at t51; exact t51
          exact x_ri hx hb hr hlk hQ (Nat.le_of_ble_eq_true rfl) (Nat.le_of_ble_eq_true rfl) hS dX10_begin_54 G_28 ⟨_, rfl, (XFr.call (XFr.call (by rw [hG12]; exact XFr.dput XFr.rf (List.mem_of_getElem? (i := 0) rfl)) hF23 xm0 (xm1 0 rfl (xm1 1 rfl xm0)) xm0) hF_28 xm0 (xm1 2 rfl xm0) xm0), (by rw [(show (G_28.1 a 18).toInt = (1 : Int) from (congrArg Int32.toInt ((hF_28.1 _ _ xn0).trans ((hF23.1 _ _ xn0).trans (ld_at hG12)))).trans ((by decide) : Int32.toInt 1 = (1 : Int)))] <;> exact (z_X10_begin_2 x51.toInt ((G.1 a 18).toInt) (toB (aI (G.2.1 (F (F a 3) 1))) 3) c4 t51)), (v_X10_begin_54_3 (K := K) (F := F) a G G23 G_28 l1_28 N28 x51 ha oq23 (xzi hz1) c4 I28_0 hm28 c31 t51 (hF_28.2.1 _ (xn1 (xne_k hk9999a hk9999c (by decide)) xn0))), (v_X10_begin_54_4 (F := F) a G23 G_28 oq23a (hF_28.2.1 _ (xn1 (xne_k hk9999a hk9999c (by decide)) xn0)) (hF_28.2.1 _ (xn1 (xne_k hk9999b hk9999c (by decide)) xn0)))⟩ hT
        · refine lv_aload_n hx hb dX10_begin_34 rfl (lv_at hl 0 rfl) ?_
          refine gX10_15 S hK hT ha kf_X10_95 dX10_begin_35 (fun _ _ => ?_)
          refine lv_iload_n hx hb dX10_begin_38 rfl (lv_at hl 1 rfl) ?_
          refine lv_iconst (v := 0) hx hb dX10_begin_39 (by decide) ?_
          refine as_0 (x := 0) S hK hT hS hk9999c ar_26 aw_26 (by decide) (z_X10_begin_3 l1_28.toInt I28_0 c31) dX10_begin_40 (fun H locs hT hS => ?_)
          obtain ⟨G40, hG40⟩ : ∃ GG : XG, GG = cput G_28 (F a 15) l1_28.toNatClampNeg 0 := ⟨_, rfl⟩
          rw [← hG40] at hT
          refine xi_iinc (n := 1) (lv' := fun z9 => [(1, .int z9), (0, .ref a)]) (k := 1) hx hb (rfl : Int32.toInt l1_28 = l1_28.toInt) (by decide) dX10_begin_41 hl rfl (by decide) (fun _ => rfl) (fun x41 ls t41 hl => ?_)
          have e41 : x41.toInt = (l1_28.toInt + 1) := (z_X10_begin_4 l1_28.toInt x41.toInt I28_0 c31 t41)
          have hl : lv_has ls 2 [(1, .int x41), (0, .ref a)] := hl
          refine lv_goto (tgt := 28) hx hb dX10_begin_44 (by decide) ?_
          exact ih28 x41 G40 _ _ _ (by rw [hG40]; exact XFr.cput (XFr.call XFr.rf hF_28 xm0 (xm1 0 rfl xm0) xm0) (List.mem_of_getElem? (i := 0) rfl)) (by rw [(e41 : Int32.toInt x41 = (l1_28.toInt + 1))] <;> exact (z_X10_begin_5 l1_28.toInt I28_0)) (by rw [(e41 : Int32.toInt x41 = (l1_28.toInt + 1))] <;> exact (z_X10_begin_6 l1_28.toInt N28 hm28)) hT hS (lv_sub hl [1, 0] rfl)
    exact L28 4294967297 0 G23 _ _ _ XFr.rf (by decide) (by decide) hT hS (lv_sub hl [1, 0] rfl)
  · refine lv_bipush (v := (-3)) hx hb dX10_begin_7 (by decide) ?_
    exact x_ri hx hb hr hlk hQ (Nat.le_of_ble_eq_true rfl) (Nat.le_of_ble_eq_true rfl) hS dX10_begin_9 G ⟨_, rfl, XFr.rf, (by rw [((by decide) : Int32.toInt (-3) = (-3 : Int))] <;> exact (z_X10_begin_7 ((G.1 a 18).toInt) (toB (aI (G.2.1 (F (F a 3) 1))) 3) c4)), (v_X10_begin_9_5 (K := K) (F := F) a G ha (xzi hz1) c4), (v_X10_begin_9_6 (F := F) a G rob)⟩ hT
/-! ===== the text: signs 0 .. 255, 0 behind its end ===== -/
def tC (f : Nat → Int32) (n z : Int) : Int := if 0 ≤ z ∧ z < n then aI f z else 0
theorem tC_f (f : Nat → Int32) (n z : Int) : ((0 ≤ z ∧ z < n) ∧ tC f n z = aI f z) ∨ (¬ (0 ≤ z ∧ z < n) ∧ tC f n z = 0) := by
  unfold tC
  split
  · exact Or.inl ⟨by assumption, rfl⟩
  · exact Or.inr ⟨by assumption, rfl⟩
def tM (f : Nat → Int32) (n z : Int) : Int := if 0 ≤ z ∧ z < n then aI f z % 256 else 0
theorem tM_f (f : Nat → Int32) (n z : Int) : ((0 ≤ z ∧ z < n) ∧ tM f n z = aI f z % 256) ∨ (¬ (0 ≤ z ∧ z < n) ∧ tM f n z = 0) := by
  unfold tM
  split
  · exact Or.inl ⟨by assumption, rfl⟩
  · exact Or.inr ⟨by assumption, rfl⟩
/-- from z to m all are so, and that at m is not -/
def isRn (P : Int → Prop) (t : Int → Int) (z m : Int) : Prop := z ≤ m ∧ (∀ j : Int, z ≤ j → j < m → P (t j)) ∧ ¬ P (t m)
theorem isRn_u {P : Int → Prop} {t : Int → Int} {z m n : Int} (h1 : isRn P t z m) (h2 : isRn P t z n) : m = n := by
  rcases Int.lt_trichotomy m n with h | h | h
  · exact absurd (h2.2.1 m h1.1 h) h1.2.2
  · exact h
  · exact absurd (h1.2.1 n h2.1 h) h2.2.2
theorem rn_ex : ∃ g : (Int → Prop) → (Int → Int) → Int → Int, ∀ P t z m, isRn P t z m → g P t z = m := by
  classical
  refine ⟨fun P t z => if h : ∃ m, isRn P t z m then Classical.choose h else z, fun P t z m hm => ?_⟩
  have h : ∃ m, isRn P t z m := ⟨m, hm⟩
  show (if h : ∃ m, isRn P t z m then Classical.choose h else z) = m
  rw [dif_pos h]
  exact isRn_u (Classical.choose_spec h) hm
noncomputable def rn (P : Int → Prop) (t : Int → Int) (z : Int) : Int := Classical.choose rn_ex P t z
theorem rn_eq {P : Int → Prop} {t : Int → Int} {z m : Int} (h : isRn P t z m) : rn P t z = m := Classical.choose_spec rn_ex P t z m h
theorem rn_id {P : Int → Prop} {t : Int → Int} {z : Int} (h : ¬ P (t z)) : rn P t z = z := rn_eq ⟨Int.le_refl _, fun j h1 h2 => by omega, h⟩
def cBl (c : Int) : Prop := c = 32
def cLt (c : Int) : Prop := 97 ≤ c ∧ c ≤ 122
def cDg (c : Int) : Prop := 48 ≤ c ∧ c ≤ 57
def nvR (t : Int → Int) (z : Int) : Nat → Int
  | 0 => 0
  | k + 1 => 10 * nvR t z k + (t (z + k) - 48)
theorem nv_ex : ∃ g : (Int → Int) → Int → Int → Int, ∀ t z k, g t z k = nvR t z k.toNat := ⟨fun t z k => nvR t z k.toNat, fun _ _ _ => rfl⟩
noncomputable def nv (t : Int → Int) (z k : Int) : Int := Classical.choose nv_ex t z k
theorem nv_eq (t : Int → Int) (z k : Int) : nv t z k = nvR t z k.toNat := Classical.choose_spec nv_ex t z k
theorem nv_0 (t : Int → Int) (z : Int) : nv t z 0 = 0 := by rw [nv_eq]; rfl
theorem nv_s {t : Int → Int} {z k : Int} (h : 0 ≤ k) : nv t z (k + 1) = 10 * nv t z k + (t (z + k) - 48) := by
  have e : (k + 1).toNat = k.toNat + 1 := by omega
  have e2 : ((k.toNat : Nat) : Int) = k := by omega
  rw [nv_eq, nv_eq, e]
  show 10 * nvR t z k.toNat + (t (z + (k.toNat : Nat)) - 48) = _
  rw [e2]
/-- a number at p: where its digits begin and end, whether it is one, which -/
def nS (t : Int → Int) (p : Int) : Int := if t p = 45 then p + 1 else p
noncomputable def nE (t : Int → Int) (p : Int) : Int := rn cDg t (nS t p)
def nOk (t : Int → Int) (p : Int) : Prop := 1 ≤ nE t p - nS t p ∧ nE t p - nS t p ≤ 4
noncomputable def nVl (t : Int → Int) (p : Int) : Int := if t p = 45 then - nv t (nS t p) (nE t p - nS t p) else nv t (nS t p) (nE t p - nS t p)
theorem nS_f (t : Int → Int) (p : Int) : (t p = 45 ∧ nS t p = p + 1 ∧ nVl t p = - nv t (nS t p) (nE t p - nS t p)) ∨ (t p ≠ 45 ∧ nS t p = p ∧ nVl t p = nv t (nS t p) (nE t p - nS t p)) := by
  by_cases h : t p = 45
  · exact Or.inl ⟨h, if_pos h, if_pos h⟩
  · exact Or.inr ⟨h, if_neg h, if_neg h⟩
/-- the word w stands at p, and no letter behind it -/
def wOk (t : Int → Int) (p : Int) (w : List Int) : Prop := rn cLt t p = p + (w.length : Int) ∧ ∀ i : Nat, i < w.length → t (p + (i : Int)) = w.getD i 0
abbrev RSt := Int × Int
/-- a word is taken, if it stands there -/
noncomputable def tkW (t : Int → Int) (w : List Int) (S : RSt) : Int × RSt := by
  classical
  exact if S.1 = 1 ∧ wOk t S.2 w then (1, (1, rn cBl t (S.2 + (w.length : Int)))) else (0, S)
noncomputable def tkN (t : Int → Int) (lo hi : Int) (S : RSt) : Int × RSt := by
  classical
  exact if S.1 = 1 ∧ nOk t S.2 ∧ lo ≤ nVl t S.2 ∧ nVl t S.2 ≤ hi then (nVl t S.2, (1, rn cBl t (nE t S.2))) else (0, (0, S.2))
theorem tkW_t {t : Int → Int} {w : List Int} {S : RSt} (h : S.1 = 1) (h2 : wOk t S.2 w) : tkW t w S = (1, (1, rn cBl t (S.2 + (w.length : Int)))) := by
  unfold tkW
  exact if_pos ⟨h, h2⟩
theorem tkW_f {t : Int → Int} {w : List Int} {S : RSt} (h : ¬ (S.1 = 1 ∧ wOk t S.2 w)) : tkW t w S = (0, S) := by
  unfold tkW
  exact if_neg h
theorem tkN_t {t : Int → Int} {lo hi : Int} {S : RSt} (h : S.1 = 1) (h2 : nOk t S.2) (h3 : lo ≤ nVl t S.2) (h4 : nVl t S.2 ≤ hi) : tkN t lo hi S = (nVl t S.2, (1, rn cBl t (nE t S.2))) := by
  unfold tkN
  exact if_pos ⟨h, h2, h3, h4⟩
theorem tkN_f {t : Int → Int} {lo hi : Int} {S : RSt} (h : ¬ (S.1 = 1 ∧ nOk t S.2 ∧ lo ≤ nVl t S.2 ∧ nVl t S.2 ≤ hi)) : tkN t lo hi S = (0, (0, S.2)) := by
  unfold tkN
  exact if_neg h
/-- the words of kinds: unique, refers, range, sum, count, tree; cascade, clear, late, rank -/
def kwd : List (List Int) := [[117, 110, 105, 113, 117, 101], [114, 101, 102, 101, 114, 115], [114, 97, 110, 103, 101], [115, 117, 109], [99, 111, 117, 110, 116], [116, 114, 101, 101], [99, 97, 115, 99, 97, 100, 101], [99, 108, 101, 97, 114], [108, 97, 116, 101], [114, 97, 110, 107]]
def kw (i : Nat) : List Int := kwd.getD i []
/-- from the n-th kind on: the first that stands there -/
noncomputable def tkKf (t : Int → Int) (S : RSt) : Nat → Nat → Int × RSt
  | 0, _ => (0, (0, S.2))
  | f + 1, n => if (tkW t (kw n) S).1 = 1 then ((n : Int), (tkW t (kw n) S).2) else tkKf t S f (n + 1)
noncomputable def tkK (t : Int → Int) (S : RSt) : Int × RSt := tkKf t S 6 0
/-- what a rule does with rows that refer -/
noncomputable def tkA (t : Int → Int) (S : RSt) : Int × RSt := if (tkW t (kw 6) S).1 = 1 then (1, (tkW t (kw 6) S).2) else if (tkW t (kw 7) S).1 = 1 then (2, (tkW t (kw 7) S).2) else (0, S)
theorem tkW_01 (t : Int → Int) (w : List Int) (S : RSt) : (tkW t w S).1 = 1 ∨ ((tkW t w S).1 = 0 ∧ (tkW t w S).2 = S) := by
  by_cases h : S.1 = 1 ∧ wOk t S.2 w
  · exact Or.inl (by rw [tkW_t h.1 h.2])
  · exact Or.inr (by rw [tkW_f h]; exact ⟨rfl, rfl⟩)
/-- where and what is read: kind, table, column, other, low, high, action, late, rank; at last whether it is well, and the place -/
noncomputable def rS1 (t : Int → Int) : Int × RSt := tkK t (1, rn cBl t 0)
noncomputable def rS2 (t : Int → Int) : Int × RSt := tkN t 0 2 (rS1 t).2
noncomputable def rS3 (t : Int → Int) : Int × RSt := tkN t 0 2 (rS2 t).2
noncomputable def rS4 (t : Int → Int) : Int × RSt := if (rS1 t).1 = 1 ∨ (rS1 t).1 = 3 ∨ (rS1 t).1 = 4 then tkN t 0 2 (rS3 t).2 else (-1, (rS3 t).2)
noncomputable def rS5 (t : Int → Int) : Int × RSt := if (rS1 t).1 = 2 ∨ (rS1 t).1 = 3 ∨ (rS1 t).1 = 4 then tkN t (-9999) 9999 (rS4 t).2 else (0, (rS4 t).2)
noncomputable def rS6 (t : Int → Int) : Int × RSt := if (rS1 t).1 = 2 ∨ (rS1 t).1 = 3 ∨ (rS1 t).1 = 4 then tkN t (rS5 t).1 9999 (rS5 t).2 else (0, (rS5 t).2)
noncomputable def rS7 (t : Int → Int) : Int × RSt := if (rS1 t).1 = 1 then tkA t (rS6 t).2 else (0, (rS6 t).2)
noncomputable def rS8 (t : Int → Int) : Int × RSt := tkW t (kw 8) (rS7 t).2
noncomputable def rS9 (t : Int → Int) : Int × RSt := if (tkW t (kw 9) (rS8 t).2).1 = 1 then tkN t 0 99 (tkW t (kw 9) (rS8 t).2).2 else (50, (tkW t (kw 9) (rS8 t).2).2)
/-- it is a rule: nothing is wrong, and nothing is left -/
def rOk (t : Int → Int) (n : Int) : Prop := (rS9 t).2.1 = 1 ∧ n ≤ (rS9 t).2.2
/-! what the class's reader knows of the token at p: sort, start, stop, number -/
def TokI (t : Int → Int) (n so p e v : Int) : Prop := ¬ cBl (t p) ∧ (n ≤ p → so = 0) ∧ (p < n → cLt (t p) → so = 1 ∧ e = rn cLt t p) ∧ (p < n → ¬ cLt (t p) → e = nE t p ∧ ((nOk t p ∧ so = 2 ∧ v = nVl t p) ∨ (¬ nOk t p ∧ so = 3)))
/-- and of the whole: (g, p) as told above -/
def RdI (t : Int → Int) (n : Int) (S : RSt) (so p e v br : Int) : Prop := (S.1 = 0 ∨ S.1 = 1) ∧ S.2 = p ∧ (br = 0 ↔ S.1 = 1) ∧ (0 ≤ p ∧ p ≤ n) ∧ (S.1 = 1 → TokI t n so p e v)
/-! what holds of the text that the class has -/
def TXe (t : Int → Int) (n : Int) : Prop := ∀ z : Int, n ≤ z → t z = 0
theorem tC_e (f : Nat → Int32) (n : Int) : TXe (tC f n) n := fun z h => if_neg (by omega)
theorem tM_e (f : Nat → Int32) (n : Int) : TXe (tM f n) n := fun z h => if_neg (by omega)
theorem cLt_n {c : Int} (h : c = 0 ∨ c < 97 ∨ 122 < c) : ¬ cLt c := by unfold cLt; omega
theorem cDg_n {c : Int} (h : c = 0 ∨ c < 48 ∨ 57 < c) : ¬ cDg c := by unfold cDg; omega
theorem cBl_n {c : Int} (h : c ≠ 32) : ¬ cBl c := h
/-- a run within the text: it ends there -/
theorem rn_in {P : Int → Prop} {t : Int → Int} {n z : Int} (h0 : ¬ P 0) (hx : TXe t n) (hz : z ≤ n) : isRn P t z (rn P t z) ∧ z ≤ rn P t z ∧ rn P t z ≤ n := by
  have key : ∀ d : Nat, ∀ z : Int, n - z ≤ d → z ≤ n → ∃ m, isRn P t z m ∧ m ≤ n := by
    intro d
    induction d with
    | zero =>
      intro z h1 h2
      exact ⟨z, ⟨Int.le_refl _, fun j a b => by omega, by rw [hx z (by omega)]; exact h0⟩, h2⟩
    | succ d ih =>
      intro z h1 h2
      by_cases e : z = n
      · exact ⟨z, ⟨Int.le_refl _, fun j a b => by omega, by rw [hx z (by omega)]; exact h0⟩, h2⟩
      · by_cases p : P (t z)
        · obtain ⟨m, hm, hn⟩ := ih (z + 1) (by omega) (by omega)
          refine ⟨m, ⟨by have := hm.1; omega, fun j a b => ?_, hm.2.2⟩, hn⟩
          by_cases q : j = z
          · rw [q]; exact p
          · exact hm.2.1 j (by omega) b
        · exact ⟨z, ⟨Int.le_refl _, fun j a b => by omega, p⟩, h2⟩
  obtain ⟨m, hm, hn⟩ := key (n - z).toNat z (by omega) hz
  rw [rn_eq hm]
  exact ⟨hm, hm.1, hn⟩
/-- no word where no letter is -/
theorem wOk_l {t : Int → Int} {p : Int} {w : List Int} (h : ¬ cLt (t p)) (hw : 1 ≤ (w.length : Int)) : ¬ wOk t p w := fun x => by
  have := x.1
  rw [rn_id h] at this
  omega
theorem nOk_l {t : Int → Int} {p : Int} (h : cLt (t p)) : ¬ nOk t p := by
  unfold cLt at h
  have e : nS t p = p := if_neg (by omega)
  have e2 : nE t p = p := by
    unfold nE
    rw [e]
    exact rn_id (cDg_n (by omega))
  unfold nOk
  omega
theorem nOk_0 {t : Int → Int} {p : Int} (h : t p = 0) : ¬ nOk t p := by
  have e : nS t p = p := if_neg (by omega)
  have e2 : nE t p = p := by
    unfold nE
    rw [e]
    exact rn_id (cDg_n (Or.inl h))
  unfold nOk
  omega
/-- the class's reader refuses a word -/
theorem rd_w0 {t : Int → Int} {n : Int} {S : RSt} {so p e v br : Int} {w : List Int} (hx : TXe t n) (h : RdI t n S so p e v br) (hw : 1 ≤ (w.length : Int)) (hr : br ≠ 0 ∨ so ≠ 1 ∨ e - p ≠ (w.length : Int)) : ¬ (S.1 = 1 ∧ wOk t S.2 w) := by
  rintro ⟨h1, h2⟩
  obtain ⟨a1, a2, a3, a4, a5⟩ := h
  obtain ⟨b1, b2, b3, b4⟩ := a5 h1
  rw [a2] at h2
  have hb : br = 0 := a3.mpr h1
  by_cases hp : p < n
  · by_cases hl : cLt (t p)
    · obtain ⟨c1, c2⟩ := b3 hp hl
      have := h2.1
      omega
    · exact wOk_l hl hw h2
  · exact wOk_l (cLt_n (Or.inl (hx p (by omega)))) hw h2
theorem rd_w1 {t : Int → Int} {n : Int} {S : RSt} {so p e v br : Int} {w : List Int} (h : RdI t n S so p e v br) (hb : br = 0) (hs : so = 1) (he : e - p = (w.length : Int)) (hc : ∀ i : Nat, i < w.length → t (p + (i : Int)) = w.getD i 0) : S.1 = 1 ∧ wOk t S.2 w := by
  obtain ⟨a1, a2, a3, a4, a5⟩ := h
  have h1 := a3.mp hb
  obtain ⟨b1, b2, b3, b4⟩ := a5 h1
  have hp : p < n := by
    apply Classical.byContradiction
    intro q
    have := b2 (by omega)
    omega
  have hl : cLt (t p) := by
    apply Classical.byContradiction
    intro q
    rcases (b4 hp q).2 with ⟨-, x, -⟩ | ⟨-, x⟩ <;> omega
  refine ⟨h1, ?_, by rw [a2]; exact hc⟩
  rw [a2]
  have := (b3 hp hl).2
  omega
/-- and behind it -/
theorem rd_st {t : Int → Int} {n so p e v : Int} {S : RSt} {br : Int} (hS : S = (1, p)) (hb : br = 0) (hp : 0 ≤ p ∧ p ≤ n) (h : TokI t n so p e v) : RdI t n S so p e v br := by
  subst hS
  exact ⟨Or.inr rfl, rfl, ⟨fun _ => rfl, fun _ => hb⟩, hp, fun _ => h⟩
theorem rd_n0 {t : Int → Int} {n : Int} {S : RSt} {so p e v br lo hi : Int} (hx : TXe t n) (h : RdI t n S so p e v br) (hr : br ≠ 0 ∨ so ≠ 2 ∨ v < lo ∨ hi < v) : ¬ (S.1 = 1 ∧ nOk t S.2 ∧ lo ≤ nVl t S.2 ∧ nVl t S.2 ≤ hi) := by
  rintro ⟨h1, h2, h3, h4⟩
  obtain ⟨a1, a2, a3, a4, a5⟩ := h
  obtain ⟨b1, b2, b3, b4⟩ := a5 h1
  rw [a2] at h2 h3 h4
  have hb : br = 0 := a3.mpr h1
  by_cases hp : p < n
  · by_cases hl : cLt (t p)
    · exact nOk_l hl h2
    · rcases (b4 hp hl).2 with ⟨-, x, y⟩ | ⟨x, -⟩
      · omega
      · exact x h2
  · exact nOk_0 (hx p (by omega)) h2
theorem rd_n1 {t : Int → Int} {n : Int} {S : RSt} {so p e v br : Int} (h : RdI t n S so p e v br) (hb : br = 0) (hs : so = 2) : S.1 = 1 ∧ S.2 = p ∧ nOk t p ∧ v = nVl t p ∧ e = nE t p := by
  obtain ⟨a1, a2, a3, a4, a5⟩ := h
  have h1 := a3.mp hb
  obtain ⟨b1, b2, b3, b4⟩ := a5 h1
  have hp : p < n := by
    apply Classical.byContradiction
    intro q
    have := b2 (by omega)
    omega
  have hl : ¬ cLt (t p) := fun q => by
    have := (b3 hp q).1
    omega
  rcases b4 hp hl with ⟨x, ⟨y, -, z⟩ | ⟨-, z⟩⟩
  · exact ⟨h1, a2, y, z, x⟩
  · omega
theorem rd_bad {t : Int → Int} {n : Int} {S : RSt} {so p e v br : Int} (h : RdI t n S so p e v br) {br2 : Int} (hb : br2 ≠ 0) : RdI t n (0, S.2) so p e v br2 := ⟨Or.inl rfl, h.2.1, ⟨fun q => absurd q hb, fun q => absurd (show (0 : Int) = 1 from q) (by decide)⟩, h.2.2.2.1, fun q => absurd (show (0 : Int) = 1 from q) (by decide)⟩
theorem tkK_at {t : Int → Int} {S : RSt} {n : Nat} (hn : n < 6) (h : ∀ k : Nat, k < n → (tkW t (kw k) S).1 ≠ 1) (h1 : (tkW t (kw n) S).1 = 1) : tkK t S = ((n : Int), (tkW t (kw n) S).2) := by
  have key : ∀ f m : Nat, m ≤ n → n < m + f → tkKf t S f m = ((n : Int), (tkW t (kw n) S).2) := by
    intro f
    induction f with
    | zero => intro m a b; omega
    | succ f ih =>
      intro m a b
      show (if (tkW t (kw m) S).1 = 1 then ((m : Int), (tkW t (kw m) S).2) else tkKf t S f (m + 1)) = _
      by_cases e : m = n
      · rw [e, if_pos h1]
      · rw [if_neg (h m (by omega))]
        exact ih (m + 1) (by omega) (by omega)
  exact key 6 0 (by omega) (by omega)
theorem tkK_no {t : Int → Int} {S : RSt} (h : ∀ k : Nat, k < 6 → (tkW t (kw k) S).1 ≠ 1) : tkK t S = (0, (0, S.2)) := by
  have key : ∀ f m : Nat, m + f ≤ 6 → tkKf t S f m = (0, (0, S.2)) := by
    intro f
    induction f with
    | zero => intro m a; rfl
    | succ f ih =>
      intro m a
      show (if (tkW t (kw m) S).1 = 1 then ((m : Int), (tkW t (kw m) S).2) else tkKf t S f (m + 1)) = _
      rw [if_neg (h m (by omega))]
      exact ih (m + 1) (by omega)
  exact key 6 0 (by omega)
theorem kw_len : ∀ i : Nat, i < 10 → (kw i).length = [6, 6, 5, 3, 5, 4, 7, 5, 4, 4].getD i 0 := by decide
theorem kw_b : ∀ i : Nat, i < 10 → 3 ≤ (kw i).length ∧ (kw i).length ≤ 7 := by decide
/-! the reference's reader: whether it is well so far, where it reads, the place of the fault -/
def RdM (t : Int → Int) (n : Int) (S : RSt) (g rd pl : Int) : Prop := (S.1 = 0 ∨ S.1 = 1) ∧ (g ≠ 0 ↔ S.1 = 1) ∧ (S.1 = 1 → S.2 = rn cBl t rd) ∧ (S.1 = 0 → S.2 = pl) ∧ (0 ≤ rd ∧ rd ≤ n) ∧ (0 ≤ S.2 ∧ S.2 ≤ n)
theorem rn_idem {t : Int → Int} {n z : Int} (hx : TXe t n) (hz : z ≤ n) : rn cBl t (rn cBl t z) = rn cBl t z := rn_id (rn_in (P := cBl) (by unfold cBl; decide) hx hz).1.2.2
theorem RdM.sk {t : Int → Int} {n : Int} {S : RSt} {g rd rd2 pl : Int} (hx : TXe t n) (h : RdM t n S g rd pl) (e : rd2 = rn cBl t rd) : RdM t n S g rd2 pl := by
  obtain ⟨a1, a2, a3, a4, a5, a6⟩ := h
  have hb := rn_in (P := cBl) (t := t) (n := n) (z := rd) (by unfold cBl; decide) hx a5.2
  exact ⟨a1, a2, fun q => by rw [e, rn_idem hx a5.2]; exact a3 q, a4, by rw [e]; omega, a6⟩
theorem rd_eb {t : Int → Int} {n : Int} {S : RSt} {so p e v br : Int} (hx : TXe t n) (h : RdI t n S so p e v br) (hb : br = 0) (hs : so = 1 ∨ so = 2) : 0 ≤ e ∧ e ≤ n := by
  obtain ⟨a1, a2, a3, a4, a5⟩ := h
  obtain ⟨b1, b2, b3, b4⟩ := a5 (a3.mp hb)
  have hp : p < n := by
    apply Classical.byContradiction
    intro q
    have := b2 (by omega)
    omega
  by_cases hl : cLt (t p)
  · have := rn_in (P := cLt) (t := t) (n := n) (z := p) (by unfold cLt; omega) hx (by omega)
    rw [(b3 hp hl).2]
    omega
  · have hS := nS_f t p
    have hz : nS t p ≤ n ∧ 0 ≤ nS t p := by omega
    have := rn_in (P := cDg) (t := t) (n := n) (z := nS t p) (by unfold cDg; omega) hx hz.1
    rw [(b4 hp hl).1]
    show 0 ≤ rn cDg t (nS t p) ∧ rn cDg t (nS t p) ≤ n
    omega
theorem tkN_b (t : Int → Int) {lo hi : Int} (S : RSt) (h : lo ≤ 0 ∧ 0 ≤ hi) : lo ≤ (tkN t lo hi S).1 ∧ (tkN t lo hi S).1 ≤ hi := by
  by_cases q : S.1 = 1 ∧ nOk t S.2 ∧ lo ≤ nVl t S.2 ∧ nVl t S.2 ≤ hi
  · rw [tkN_t q.1 q.2.1 q.2.2.1 q.2.2.2]; exact q.2.2
  · rw [tkN_f q]; exact h
theorem tkA_a {t : Int → Int} {S : RSt} (h : (tkW t (kw 6) S).1 = 1) : tkA t S = (1, (tkW t (kw 6) S).2) := if_pos h
theorem tkA_b {t : Int → Int} {S : RSt} (h : (tkW t (kw 6) S).1 ≠ 1) (h2 : (tkW t (kw 7) S).1 = 1) : tkA t S = (2, (tkW t (kw 7) S).2) := by
  unfold tkA
  rw [if_neg h, if_pos h2]
theorem tkA_c {t : Int → Int} {S : RSt} (h : (tkW t (kw 6) S).1 ≠ 1) (h2 : (tkW t (kw 7) S).1 ≠ 1) : tkA t S = (0, S) := by
  unfold tkA
  rw [if_neg h, if_neg h2]
theorem tkW_n {t : Int → Int} {w : List Int} {S : RSt} (h : (tkW t w S).1 ≠ 1) : (tkW t w S).2 = S := by
  rcases tkW_01 t w S with q | q
  · exact absurd q h
  · exact q.2
/-- the sign at a place of a string -/
def xch (i : Nat) (z : Int) : Int := (((xbyt.getD i []).getD z.toNat 0)).toInt
theorem xch_b : ∀ i : Nat, i < 13 → ∀ b ∈ xbyt.getD i [], ((b &&& 255).toUInt32 % 65536).toInt32.toInt = b.toInt := by decide +kernel
theorem xch_0 : (((0 : Int32) &&& 255).toUInt32 % 65536).toInt32.toInt = (0 : Int32).toInt := by decide +kernel
theorem xch_n (i : Nat) {n9 : Nat} : ((((xbyt.getD i []).getD n9 0) &&& 255).toUInt32 % 65536).toInt32.toInt = ((xbyt.getD i []).getD n9 0).toInt := by
  by_cases h : i < 13
  · by_cases q : n9 < (xbyt.getD i []).length
    · have e : (xbyt.getD i []).getD n9 0 = (xbyt.getD i [])[n9] := by rw [List.getD_eq_getElem?_getD, List.getElem?_eq_getElem q]; rfl
      rw [e]
      exact xch_b i h _ (List.getElem_mem q)
    · have e : (xbyt.getD i []).getD n9 0 = 0 := by rw [List.getD_eq_getElem?_getD, List.getElem?_eq_none (by omega)]; rfl
      rw [e]
      exact xch_0
  · have e : xbyt.getD i [] = [] := by
      rw [List.getD_eq_getElem?_getD, List.getElem?_eq_none (by have : xbyt.length = 13 := by decide
                                                                omega)]
      rfl
    rw [e]
    exact xch_0
theorem xch_c {i : Nat} {p x3 x4 x5 : Int32} (h3 : x3 = (xbyt.getD i []).getD p.toNatClampNeg 0) (h4 : x4 = x3 &&& 255) (h5 : x5 = (x4.toUInt32 % 65536).toInt32) : x5.toInt = xch i p.toInt := by
  subst h3 h4 h5
  exact xch_n i
theorem xch_kw : ∀ i : Nat, i < 10 → ∀ j : Nat, j < 8 → (((xbyt.getD i []).getD j 0)).toInt = (kw i).getD j 0 := by decide +kernel
theorem xch_k {i : Nat} {z : Int} (h : i < 10) (h0 : 0 ≤ z ∧ z < 8) : xch i z = (kw i).getD z.toNat 0 := xch_kw i h z.toNat (by omega)
theorem xlen_k : ∀ i : Nat, i < 10 → xlen.getD i 0 = (kw i).length := by decide
theorem z_J1_charAt_3b067c_1 (a0 : Int) (a1 : Int) (a2 : Nat) (h0 : 0 ≤ a0 ∧ a0 < ((a2 : Nat) : Int)) (h1 : a1 = ((a2 : Nat) : Int)) : 0 ≤ a0 ∧ a0 < a1 := by omega
abbrev rm_J1_charAtc : Room := { frames := 2, cells := 0, slots := 0, locals := 43 }
set_option maxHeartbeats 4000000 in
set_option maxRecDepth 100000 in
theorem c_J1_charAtc (l : Launch) (E : XE) (K : Nat → Nat) (F : Nat → Nat → Nat) (G : XG) (h0 : Heap) (i : Nat) (p1 : Int32) (hi : i < 13) (e0 : 0 ≤ p1.toInt ∧ p1.toInt < ((xlen.getD i 0 : Nat) : Int)) : Met l yJ1_charAt_3b067 (xw yJ1_charAt_3b067 cJ1_charAt_3b067 2 (some .char)) rm_J1_charAtc (va_Pc [.ref (E.2.2.2.2.2 i), .int p1] (XPh E K F G h0)) (XQ E (fun v (u : Unit) => ∃ r : Int32, v = .int r ∧ xok 1 r ∧ r.toInt = xch i p1.toInt) (fun _ H => H = h0)) 0 0 (xA E) := by
  refine x_enter (by decide) (Nat.le_of_ble_eq_true rfl) ?_
  intro p e s m args below meth c Q S hr hlk hnm hQ hP ls hl
  obtain ⟨⟨hz, hK, hT⟩, hh⟩ := hP
  obtain ⟨hx, hb, -, -, -⟩ := id S
  have hS : va_S (xA E) s.heap s.heap [] := va_S.rf
  have hl : lv_has ls 2 [(0, .ref (E.2.2.2.2.2 i)), (1, .int p1)] := hl
  refine lv_iload_n hx hb dJ1_charAt_3b067_0 rfl (lv_at hl 1 rfl) ?_
  refine lv_aload_n hx hb dJ1_charAt_3b067_1 rfl (lv_at hl 0 rfl) ?_
  refine va_tlen hx hb (hK.2.2.2.1.1 i hi).2.2.2 hS rfl dJ1_charAt_3b067_2 (lv_topi (fun x1 t2 => ?_))
  have t2 : x1.toInt = ((xlen.getD i 0 : Nat) : Int) := by rw [t2]; exact nI_toInt (xlen_lt hi)
  refine x_cvp (x_runS (As := [.int p1, .int x1]) (rest := []) S (c_J0_checkIndex_df160 l E K F G s.heap p1 x1 (z_J1_charAt_3b067c_1 p1.toInt x1.toInt (xlen.getD i 0) e0 t2)) ms_J0_checkIndex_df160 km_J1_9 rfl rfl ⟨Nat.le_of_ble_eq_true rfl, Nat.le_of_ble_eq_true rfl⟩ hK (fun _ => XPh.blind) (fun U hU hW => XPh.at hK hz hS hT hU hW) rfl hl.1 (Nat.le_of_ble_eq_true rfl) dJ1_charAt_3b067_3 ⟨Nat.le_of_ble_eq_true rfl, Nat.le_of_ble_eq_true rfl⟩) hS ?_
  rintro _ locs - hS
  refine lv_aload_n hx hb dJ1_charAt_3b067_6 rfl (lv_at hl 0 rfl) ?_
  refine lv_iload_n hx hb dJ1_charAt_3b067_7 rfl (lv_at hl 1 rfl) ?_
  refine va_tb hx hb (hK.2.2.2.1.1 i hi).2.2.2 hS (vp_in_iff.mpr (e0)) rfl dJ1_charAt_3b067_8 (lv_topi (fun x3 hx3 => ?_))
  refine lv_sipush (v := 255) hx hb dJ1_charAt_3b067_9 (by decide) ?_
  refine lv_iand hx hb dJ1_charAt_3b067_12 (lv_topi (fun x4 hx4 => ?_))
  refine lv_i2c hx hb dJ1_charAt_3b067_13 rfl (lv_topi (fun x5 ec6 => ?_))
  exact x_rz hx hb hr (by rw [ec6]; exact pk_nc _) hlk hQ (Nat.le_of_ble_eq_true rfl) (Nat.le_of_ble_eq_true rfl) hS dJ1_charAt_3b067_14 () ⟨_, rfl, (by rw [ec6]; exact pk_nc _), xch_c hx3 hx4 ec6⟩ hh

abbrev rm_J0_charAtc : Room := { frames := 3, cells := 0, slots := 0, locals := 64 }
set_option maxHeartbeats 4000000 in
set_option maxRecDepth 100000 in
theorem c_J0_charAtc (l : Launch) (E : XE) (K : Nat → Nat) (F : Nat → Nat → Nat) (G : XG) (h0 : Heap) (i : Nat) (p0 : Int32) (hi : i < 13) (e0 : 0 ≤ p0.toInt ∧ p0.toInt < ((xlen.getD i 0 : Nat) : Int)) : Met l yJ0_charAt_5068e (xw yJ0_charAt_5068e cJ0_charAt_5068e 2 (some .char)) rm_J0_charAtc (va_Pc [.ref (E.2.2.2.2.1 i), .int p0] (XPh E K F G h0)) (XQ E (fun v (u : Unit) => ∃ r : Int32, v = .int r ∧ xok 1 r ∧ r.toInt = xch i p0.toInt) (fun _ H => H = h0)) 0 0 (xA E) := by
  refine x_enter (by decide) (Nat.le_of_ble_eq_true rfl) ?_
  intro p e s m args below meth c Q S hr hlk hnm hQ hP ls hl
  obtain ⟨⟨hz, hK, hT⟩, hh⟩ := hP
  obtain ⟨hx, hb, -, -, -⟩ := id S
  have hS : va_S (xA E) s.heap s.heap [] := va_S.rf
  have hl : lv_has ls 2 [(0, .ref (E.2.2.2.2.1 i)), (1, .int p0)] := hl
  refine lv_aload_n hx hb dJ0_charAt_5068e_0 rfl (lv_at hl 0 rfl) ?_
  refine x_clp (x_runV (b := (E.2.2.2.2.1 i)) (As := []) (rest := []) S (c_J0_isLatin1_aae02 l E K F G s.heap i hi) mv_J0_isLatin1_aae02 km_J0_492 rfl rfl ⟨Nat.le_of_ble_eq_true rfl, Nat.le_of_ble_eq_true rfl⟩ (vk_recv hK.2.2.2.1 hi hS) hK (fun _ => XPh.blind) (fun U hU hW => XPh.at hK hz hS hT hU hW) rfl hl.1 (Nat.le_of_ble_eq_true rfl) dJ0_charAt_5068e_1 ⟨Nat.le_of_ble_eq_true rfl, Nat.le_of_ble_eq_true rfl⟩) hS ?_
  rintro _ _ locs ⟨_, rfl, rfl⟩ hS
  refine xi_zeq (tgt := 16) hx hb ((by decide) : Int32.toInt 1 = (1 : Int)) dJ0_charAt_5068e_4 (by decide) (fun c => absurd c (show ¬ ((1 : Int) = 0) by decide)) (fun _ => ?_)
  refine lv_aload_n hx hb dJ0_charAt_5068e_7 rfl (lv_at hl 0 rfl) ?_
  refine vk_getf hx hb (hK.2.2.2.1.1 i hi).2.2.1 hS S.2.2.2.1 (S.2.2.2.2 _ (List.mem_cons_of_mem _ kf_J0_9)) (fun _ h => h) dJ0_charAt_5068e_8 ?_
  refine lv_iload_n hx hb dJ0_charAt_5068e_11 rfl (lv_at hl 1 rfl) ?_
  refine x_clp (x_runS (As := [.ref (E.2.2.2.2.2 i), .int p0]) (rest := []) S (c_J1_charAtc l E K F G s.heap i p0 hi (e0)) ms_J1_charAt_3b067 km_J0_495 rfl rfl ⟨Nat.le_of_ble_eq_true rfl, Nat.le_of_ble_eq_true rfl⟩ hK (fun _ => XPh.blind) (fun U hU hW => XPh.at hK hz hS hT hU hW) rfl hl.1 (Nat.le_of_ble_eq_true rfl) dJ0_charAt_5068e_12 ⟨Nat.le_of_ble_eq_true rfl, Nat.le_of_ble_eq_true rfl⟩) hS ?_
  rintro _ _ locs ⟨x1, rfl, o2, o3⟩ hS
  exact x_rz hx hb hr o2 hlk hQ (Nat.le_of_ble_eq_true rfl) (Nat.le_of_ble_eq_true rfl) hS dJ0_charAt_5068e_15 () ⟨_, rfl, o2, o3⟩ hh
theorem xlen_b {i : Nat} (h : i < 10) : 3 ≤ ((xlen.getD i 0 : Nat) : Int) ∧ ((xlen.getD i 0 : Nat) : Int) ≤ 7 := by
  have h1 := kw_b i h
  rw [xlen_k i h]
  omega
theorem xok2b {x : Int32} {z : Int} (h : xok 2 x) (e : x.toInt = z) : -128 ≤ z ∧ z ≤ 127 := by
  have h2 : narrow .byte (.int x) = .int x := h
  have h3 : x.toInt8.toInt32 = x := by
    have h4 : (Value.int x.toInt8.toInt32) = Value.int x := by
      have h5 : narrow .byte (.int x) = .int x.toInt8.toInt32 := by simp [narrow]
      rw [← h5]; exact h2
    exact Value.int.inj h4
  subst e
  rw [← h3, Int8.toInt_toInt32]
  have h6 := Int8.minValue_le_toInt x.toInt8
  have h7 := Int8.toInt_le x.toInt8
  exact ⟨h6, by
    have : Int8.maxValue.toInt = 127 := by decide
    omega⟩
/-- eight bits of v, from bit z on -/
def bqI (v : Int32) (z : Int) : Int := ((v.toUInt32 >>> ((Int32.ofInt z).toUInt32 &&& Int32.toUInt32 31)).toInt32).toInt % 256
theorem bm256 (x : Int) : Int.bmod x 256 % 256 = x % 256 := by
  have := Int.bmod_emod (x := x) (m := 256)
  exact this
theorem bq_b {v s x y : Int32} {z : Int} (hx : x = (Int32.toUInt32 v >>> (Int32.toUInt32 s &&& Int32.toUInt32 31)).toInt32) (hy : y = (Int32.toInt8 x).toInt32) (hs : s.toInt = z) : y.toInt % 256 = bqI v z := by
  subst hs hy
  unfold bqI
  rw [ofI, ← hx, Int8.toInt_toInt32, Int32.toInt_toInt8]
  exact bm256 _
theorem and255 (x : Int32) : (x &&& 255).toInt = x.toInt % 256 := by
  have e2 : x.toInt = x.toBitVec.toInt := rfl
  have h1 : (x &&& 255).toBitVec.toNat = x.toBitVec.toNat % 256 := by
    rw [Int32.toBitVec_and]
    show (x.toBitVec &&& (255#32)).toNat = _
    rw [BitVec.toNat_and]
    exact Nat.and_two_pow_sub_one_eq_mod x.toBitVec.toNat 8
  have h2 : (x &&& 255).toInt = ((x &&& 255).toBitVec.toNat : Int) := by
    show (x &&& 255).toBitVec.toInt = _
    rw [BitVec.toInt_eq_toNat_of_lt (by rw [h1]; have := Nat.mod_lt x.toBitVec.toNat (show 256 > 0 by decide); omega)]
  rw [h2, h1, e2, BitVec.toInt_eq_toNat_cond]
  have hlt := x.toBitVec.isLt
  split <;> omega
theorem i2c_s {x : Int32} (h : 0 ≤ x.toInt ∧ x.toInt < 65536) : ((Int32.toUInt32 x) % 65536).toInt32.toInt = x.toInt := by
  have e : (Int32.toUInt32 x).toNat = x.toInt.toNat := by
    show x.toBitVec.toNat = x.toBitVec.toInt.toNat
    have h2 : 0 ≤ x.toBitVec.toInt := h.1
    rw [BitVec.toInt_eq_toNat_cond] at h2 ⊢
    split at h2
    · rw [if_pos (by assumption)]; omega
    · exfalso
      have := x.toBitVec.isLt
      omega
  have e2 : (Int32.toUInt32 x) % 65536 = Int32.toUInt32 x := by
    apply UInt32.toNat_inj.mp
    rw [UInt32.toNat_mod, e]
    show x.toInt.toNat % 65536 = _
    omega
  rw [e2]
  rfl
theorem bq_c {v s x y w : Int32} {z : Int} (hx : x = (Int32.toUInt32 v >>> (Int32.toUInt32 s &&& Int32.toUInt32 31)).toInt32) (hy : y = x &&& 255) (hw : w = (Int32.toUInt32 y % 65536).toInt32) (hs : s.toInt = z) : w.toInt = bqI v z := by
  subst hs hw
  have h0 : y.toInt = x.toInt % 256 := by rw [hy]; exact and255 x
  rw [i2c_s (by omega), h0]
  unfold bqI
  rw [ofI, ← hx]
