theorem v_X10_drop_20_1 {F : Nat → Nat → Nat} (a : Nat) (G : XG) (G4 : XG) (p0 : Int32)
    (hn12 : (p0.toInt < 0 ∨ 12 ≤ p0.toInt) ∨ G4.2.2.1 (F (F a 2) 0) (p0.toInt).toNat = none)
    (r_G4_F_F_a_2_0 : G4.2.2.1 (F (F a 2) 0) = G.2.2.1 (F (F a 2) 0))
    (r_G4_F_F_a_2_1 : G4.2.2.1 (F (F a 2) 1) = G.2.2.1 (F (F a 2) 1))
    (d_G4_F_a_2_2 : G4.1 (F a 2) 2 = G.1 (F a 2) 2) :
    ((-2 : Int) = -2 ∧ ((p0.toInt < 0 ∨ 12 ≤ p0.toInt) ∨ G.2.2.1 (F (F a 2) 0) (p0.toInt).toNat = none) ∧ G4.2.2.1 (F (F a 2) 0) = G.2.2.1 (F (F a 2) 0) ∧ G4.2.2.1 (F (F a 2) 1) = G.2.2.1 (F (F a 2) 1) ∧ ((G4.1 (F a 2) 2).toInt) = ((G.1 (F a 2) 2).toInt)) ∨ ((0 ≤ p0.toInt ∧ p0.toInt < 12) ∧ (∃ q : Nat, G.2.2.1 (F (F a 2) 0) (p0.toInt).toNat = some q) ∧ ((((G.1 a 18).toInt) ≠ 0 ∧ (-2 : Int) = -3 ∧ G4.2.2.1 (F (F a 2) 0) = G.2.2.1 (F (F a 2) 0) ∧ G4.2.2.1 (F (F a 2) 1) = G.2.2.1 (F (F a 2) 1) ∧ ((G4.1 (F a 2) 2).toInt) = ((G.1 (F a 2) 2).toInt)) ∨ (((G.1 a 18).toInt) = 0 ∧ (∀ i : Nat, G4.2.2.1 (F (F a 2) 0) i = if i = (p0.toInt).toNat then none else G.2.2.1 (F (F a 2) 0) i) ∧ BO G4 F (F a 2) ∧ (-2 : Int) = ((G4.1 (F a 2) 2).toInt)))) := by
  refine Or.inl ⟨rfl, ?_, r_G4_F_F_a_2_0, r_G4_F_F_a_2_1, by rw [d_G4_F_a_2_2]⟩
  rw [← r_G4_F_F_a_2_0]; exact hn12
theorem v_X10_drop_20_2 {F : Nat → Nat → Nat} (a : Nat) (G : XG) (G4 : XG)
    (r_G4_F_F_a_2_1 : G4.2.2.1 (F (F a 2) 1) = G.2.2.1 (F (F a 2) 1)) :
    ∀ (i q : Nat), G4.2.2.1 (F (F a 2) 1) i = some q → (∃ j : Nat, G.2.2.1 (F (F a 2) 1) j = some q) ∨ ∃ j : Nat, G4.2.2.1 (F (F a 2) 0) j = some q := by
  intro i q h
  first
    | (rcases oq36b i q h with ⟨j, e⟩ | ⟨j, e⟩
       · exact Or.inl ⟨j, by rw [← r_G4_F_F_a_2_1]; exact e⟩
       · exact Or.inr ⟨j, e⟩)
    | exact Or.inl ⟨i, by rw [← r_G4_F_F_a_2_1]; exact h⟩
theorem v_X10_drop_46_3 {K : Nat → Nat} {F : Nat → Nat → Nat} (a : Nat) (q12 : Nat) (G : XG) (G4 : XG) (G36 : XG) (p0 : Int32)
    (ha : K a = 12)
    (hs12 : G4.2.2.1 (F (F a 2) 0) (p0.toInt).toNat = some q12)
    (oq36 : ∀ i : Nat, G36.2.2.1 (F (F a 2) 0) i = if i = (p0.toInt).toNat then none else G4.2.2.1 (F (F a 2) 0) i)
    (oq36a : BO G36 F (F a 2))
    (t4 : ((G4.1 (F a 14) 1).toInt) = 0)
    (ht12 : 0 ≤ p0.toInt ∧ p0.toInt < 12)
    (f19 : ((G.1 a 18).toInt) = 0 ∨ ((G.1 a 18).toInt) = 1)
    (c25 : ((G.1 a 18).toInt) = 0)
    (r_G4_F_F_a_2_0 : G4.2.2.1 (F (F a 2) 0) = G.2.2.1 (F (F a 2) 0)) :
    (((G36.1 (F a 2) 2).toInt) = -2 ∧ ((p0.toInt < 0 ∨ 12 ≤ p0.toInt) ∨ G.2.2.1 (F (F a 2) 0) (p0.toInt).toNat = none) ∧ G36.2.2.1 (F (F a 2) 0) = G.2.2.1 (F (F a 2) 0) ∧ G36.2.2.1 (F (F a 2) 1) = G.2.2.1 (F (F a 2) 1) ∧ ((G36.1 (F a 2) 2).toInt) = ((G.1 (F a 2) 2).toInt)) ∨ ((0 ≤ p0.toInt ∧ p0.toInt < 12) ∧ (∃ q : Nat, G.2.2.1 (F (F a 2) 0) (p0.toInt).toNat = some q) ∧ ((((G.1 a 18).toInt) ≠ 0 ∧ ((G36.1 (F a 2) 2).toInt) = -3 ∧ G36.2.2.1 (F (F a 2) 0) = G.2.2.1 (F (F a 2) 0) ∧ G36.2.2.1 (F (F a 2) 1) = G.2.2.1 (F (F a 2) 1) ∧ ((G36.1 (F a 2) 2).toInt) = ((G.1 (F a 2) 2).toInt)) ∨ (((G.1 a 18).toInt) = 0 ∧ (∀ i : Nat, G36.2.2.1 (F (F a 2) 0) i = if i = (p0.toInt).toNat then none else G.2.2.1 (F (F a 2) 0) i) ∧ BO G36 F (F a 2) ∧ ((G36.1 (F a 2) 2).toInt) = ((G36.1 (F a 2) 2).toInt)))) := by
  refine Or.inr ⟨by omega, ⟨q12, by rw [← r_G4_F_F_a_2_0]; exact hs12⟩, Or.inr ⟨by omega, ?_, oq36a, rfl⟩⟩
  rw [← r_G4_F_F_a_2_0]
  exact oq36
theorem v_X10_drop_46_4 {F : Nat → Nat → Nat} (a : Nat) (G : XG) (G4 : XG) (G36 : XG)
    (oq36b : ∀ (i q : Nat), G36.2.2.1 (F (F a 2) 1) i = some q → (∃ j : Nat, G4.2.2.1 (F (F a 2) 1) j = some q) ∨ ∃ j : Nat, G36.2.2.1 (F (F a 2) 0) j = some q)
    (r_G4_F_F_a_2_1 : G4.2.2.1 (F (F a 2) 1) = G.2.2.1 (F (F a 2) 1)) :
    ∀ (i q : Nat), G36.2.2.1 (F (F a 2) 1) i = some q → (∃ j : Nat, G.2.2.1 (F (F a 2) 1) j = some q) ∨ ∃ j : Nat, G36.2.2.1 (F (F a 2) 0) j = some q := by
  intro i q h
  first
    | (rcases oq36b i q h with ⟨j, e⟩ | ⟨j, e⟩
       · exact Or.inl ⟨j, by rw [← r_G4_F_F_a_2_1]; exact e⟩
       · exact Or.inr ⟨j, e⟩)
    | exact Or.inl ⟨i, by rw [← r_G4_F_F_a_2_1]; exact h⟩
theorem v_X10_drop_30_5 {K : Nat → Nat} {F : Nat → Nat → Nat} (a : Nat) (q12 : Nat) (G : XG) (G4 : XG) (p0 : Int32)
    (ha : K a = 12)
    (hs12 : G4.2.2.1 (F (F a 2) 0) (p0.toInt).toNat = some q12)
    (t4 : ((G4.1 (F a 14) 1).toInt) = 0)
    (ht12 : 0 ≤ p0.toInt ∧ p0.toInt < 12)
    (f14 : ((G.1 a 18).toInt) = 0 ∨ ((G.1 a 18).toInt) = 1)
    (c25 : ¬ (((G.1 a 18).toInt) = 0))
    (r_G4_F_F_a_2_0 : G4.2.2.1 (F (F a 2) 0) = G.2.2.1 (F (F a 2) 0))
    (r_G4_F_F_a_2_1 : G4.2.2.1 (F (F a 2) 1) = G.2.2.1 (F (F a 2) 1))
    (d_G4_F_a_2_2 : G4.1 (F a 2) 2 = G.1 (F a 2) 2) :
    ((-3 : Int) = -2 ∧ ((p0.toInt < 0 ∨ 12 ≤ p0.toInt) ∨ G.2.2.1 (F (F a 2) 0) (p0.toInt).toNat = none) ∧ G4.2.2.1 (F (F a 2) 0) = G.2.2.1 (F (F a 2) 0) ∧ G4.2.2.1 (F (F a 2) 1) = G.2.2.1 (F (F a 2) 1) ∧ ((G4.1 (F a 2) 2).toInt) = ((G.1 (F a 2) 2).toInt)) ∨ ((0 ≤ p0.toInt ∧ p0.toInt < 12) ∧ (∃ q : Nat, G.2.2.1 (F (F a 2) 0) (p0.toInt).toNat = some q) ∧ ((((G.1 a 18).toInt) ≠ 0 ∧ (-3 : Int) = -3 ∧ G4.2.2.1 (F (F a 2) 0) = G.2.2.1 (F (F a 2) 0) ∧ G4.2.2.1 (F (F a 2) 1) = G.2.2.1 (F (F a 2) 1) ∧ ((G4.1 (F a 2) 2).toInt) = ((G.1 (F a 2) 2).toInt)) ∨ (((G.1 a 18).toInt) = 0 ∧ (∀ i : Nat, G4.2.2.1 (F (F a 2) 0) i = if i = (p0.toInt).toNat then none else G.2.2.1 (F (F a 2) 0) i) ∧ BO G4 F (F a 2) ∧ (-3 : Int) = ((G4.1 (F a 2) 2).toInt)))) := by
  exact Or.inr ⟨by omega, ⟨q12, by rw [← r_G4_F_F_a_2_0]; exact hs12⟩, Or.inl ⟨by omega, rfl, r_G4_F_F_a_2_0, r_G4_F_F_a_2_1, by rw [d_G4_F_a_2_2]⟩⟩
theorem v_X10_drop_30_6 {F : Nat → Nat → Nat} (a : Nat) (G : XG) (G4 : XG)
    (r_G4_F_F_a_2_1 : G4.2.2.1 (F (F a 2) 1) = G.2.2.1 (F (F a 2) 1)) :
    ∀ (i q : Nat), G4.2.2.1 (F (F a 2) 1) i = some q → (∃ j : Nat, G.2.2.1 (F (F a 2) 1) j = some q) ∨ ∃ j : Nat, G4.2.2.1 (F (F a 2) 0) j = some q := by
  intro i q h
  first
    | (rcases oq36b i q h with ⟨j, e⟩ | ⟨j, e⟩
       · exact Or.inl ⟨j, by rw [← r_G4_F_F_a_2_1]; exact e⟩
       · exact Or.inr ⟨j, e⟩)
    | exact Or.inl ⟨i, by rw [← r_G4_F_F_a_2_1]; exact h⟩
theorem v_X10_commit_22_1 {K : Nat → Nat} {F : Nat → Nat → Nat} (a : Nat) (G : XG) (G4 : XG)
    (ha : K a = 12)
    (hk9999 : K (F a 14) = 11)
    (hj9999 : F (F a 14) 99 = 0)
    (hk9999a : K (F a 8) = 6)
    (hj9999a : F (F a 8) 99 = 0)
    (hk9999b : K (F a 10) = 6)
    (hj9999b : F (F a 10) 99 = 2)
    (hk9999c : K (F a 16) = 27)
    (hj9999c : F (F a 16) 99 = 0)
    (hk9999d : K (F (F a 10) 0) = 22)
    (hj9999e : F (F (F a 10) 0) 99 = 10 * 2 + 0)
    (hk9999e : K (F (F a 10) 1) = 22)
    (hj9999g : F (F (F a 10) 1) 99 = 10 * 2 + 1)
    (hk9999f : K (F (F a 10) 2) = 22)
    (hj9999i : F (F (F a 10) 2) 99 = 10 * 2 + 2)
    (hk9999g : K (F (F a 10) 3) = 22)
    (hj9999k : F (F (F a 10) 3) 99 = 10 * 2 + 3)
    (hk9999h : K (F (F a 10) 4) = 23)
    (hj9999m : F (F (F a 10) 4) 99 = 10 * 2 + 4)
    (hk9999i : K (F (F a 10) 5) = 23)
    (hj9999o : F (F (F a 10) 5) 99 = 10 * 2 + 5)
    (hk9999j : K (F a 3) = 8)
    (hj9999p : F (F a 3) 99 = 0)
    (hk9999k : K (F (F a 3) 0) = 20)
    (hj9999r : F (F (F a 3) 0) 99 = 0)
    (hk9999l : K (F (F a 3) 1) = 21)
    (hj9999t : F (F (F a 3) 1) 99 = 0)
    (hk9999m : K (F a 4) = 8)
    (hj9999u : F (F a 4) 99 = 1)
    (hk9999n : K (F (F a 4) 0) = 20)
    (hj9999w : F (F (F a 4) 0) 99 = 1)
    (hk9999o : K (F (F a 4) 1) = 21)
    (hj9999z25 : F (F (F a 4) 1) 99 = 1)
    (hk9999p : K (F (F a 8) 0) = 22)
    (hj9999z27 : F (F (F a 8) 0) 99 = 10 * 0 + 0)
    (hk9999q : K (F (F a 8) 1) = 22)
    (hj9999z29 : F (F (F a 8) 1) 99 = 10 * 0 + 1)
    (hk9999r : K (F (F a 8) 2) = 22)
    (hj9999z31 : F (F (F a 8) 2) 99 = 10 * 0 + 2)
    (hk9999s : K (F (F a 8) 3) = 22)
    (hj9999z33 : F (F (F a 8) 3) 99 = 10 * 0 + 3)
    (hk9999t : K (F (F a 8) 4) = 23)
    (hj9999z35 : F (F (F a 8) 4) 99 = 10 * 0 + 4)
    (hk9999u : K (F (F a 8) 5) = 23)
    (hj9999z37 : F (F (F a 8) 5) 99 = 10 * 0 + 5)
    (sw : 0 ≤ ((G.1 (F a 8) 6).toInt) ∧ ((G.1 (F a 8) 6).toInt) ≤ 1080)
    (t4 : ((G4.1 (F a 14) 1).toInt) = 0)
    (f50 : ((G.1 a 18).toInt) = 0 ∨ ((G.1 a 18).toInt) = 1)
    (c11 : ((G.1 a 18).toInt) ≠ 0) :
    F (F a 8) 99 ≠ 2 := by
  omega
theorem v_X10_commit_61_2 {K : Nat → Nat} {F : Nat → Nat → Nat} (a : Nat) (G : XG) (G4 : XG) (G22 : XG) (G42 : XG) (x22 : Int32)
    (ha : K a = 12)
    (oq22 : (x22.toInt = 1 ∧ ∀ x, x ∈ qL G4 F (F a 8) → x.2.2.2.2.1 ≠ 0 → x.2.2.2.2.2 = 0) ∨ (x22.toInt = 0 ∧ ∃ x, x ∈ qL G4 F (F a 8) ∧ x.2.2.2.2.1 ≠ 0 ∧ x.2.2.2.2.2 ≠ 0))
    (oq22a : AskR (qL G4 F (F a 8)) (qL G22 F (F a 10)) x22.toInt)
    (sw : 0 ≤ ((G.1 (F a 8) 6).toInt) ∧ ((G.1 (F a 8) 6).toInt) ≤ 1080)
    (t4 : ((G4.1 (F a 14) 1).toInt) = 0)
    (f54 : ((G.1 a 18).toInt) = 0 ∨ ((G.1 a 18).toInt) = 1)
    (c11 : ((G.1 a 18).toInt) ≠ 0)
    (t22 : 0 ≤ ((G22.1 (F a 10) 6).toInt) ∧ ((G22.1 (F a 10) 6).toInt) ≤ 1080)
    (f57 : x22.toInt = 0 ∨ x22.toInt = 1)
    (c27 : x22.toInt ≠ 0)
    (t42 : ((G42.1 a 18).toInt) = 0 ∧ ((G42.1 a 17).toInt) = 0 ∧ ((G42.1 (F a 8) 6).toInt) = 0)
    (c46 : x22.toInt = 0)
    (c_G4_F_F_a_8_0 : G4.2.1 (F (F a 8) 0) = G.2.1 (F (F a 8) 0))
    (c_G4_F_F_a_8_1 : G4.2.1 (F (F a 8) 1) = G.2.1 (F (F a 8) 1))
    (c_G4_F_F_a_8_2 : G4.2.1 (F (F a 8) 2) = G.2.1 (F (F a 8) 2))
    (c_G4_F_F_a_8_3 : G4.2.1 (F (F a 8) 3) = G.2.1 (F (F a 8) 3))
    (c_G4_F_F_a_8_4 : G4.2.1 (F (F a 8) 4) = G.2.1 (F (F a 8) 4))
    (c_G4_F_F_a_8_5 : G4.2.1 (F (F a 8) 5) = G.2.1 (F (F a 8) 5))
    (c_G42_F_F_a_3_0 : G42.2.1 (F (F a 3) 0) = G.2.1 (F (F a 3) 0))
    (d_G4_F_a_8_6 : G4.1 (F a 8) 6 = G.1 (F a 8) 6) :
    (((G.1 a 18).toInt) = 0 ∧ (-5 : Int) = -3 ∧ (vw (G42.2.1 (F (F a 3) 0))) = (vw (G.2.1 (F (F a 3) 0)))) ∨ (((G.1 a 18).toInt) ≠ 0 ∧ (((∃ x, x ∈ qL G F (F a 8) ∧ x.2.2.2.2.1 ≠ 0 ∧ x.2.2.2.2.2 ≠ 0) ∧ (-5 : Int) = -5 ∧ (vw (G42.2.1 (F (F a 3) 0))) = (vw (G.2.1 (F (F a 4) 0)))) ∨ ((∀ x, x ∈ qL G F (F a 8) → x.2.2.2.2.1 ≠ 0 → x.2.2.2.2.2 = 0) ∧ (vw (G42.2.1 (F (F a 3) 0))) = (vw (G.2.1 (F (F a 3) 0))) ∧ (-5 : Int) = (((ltF (qL G F (F a 8))).length : Nat) : Int)))) := by
  have e : qL G4 F (F a 8) = qL G F (F a 8) := qL_cg d_G4_F_a_8_6 c_G4_F_F_a_8_0 c_G4_F_F_a_8_1 c_G4_F_F_a_8_2 c_G4_F_F_a_8_3 c_G4_F_F_a_8_4 c_G4_F_F_a_8_5
  rcases oq22 with h | h
  · first
      | (exfalso; omega)
      | (refine Or.inr ⟨by omega, Or.inr ⟨by rw [← e]; exact h.2, by rw [c_G42_F_F_a_3_0], ?_⟩⟩
         have q := qL_len G22 F (F a 10)
         rcases oq22a with ⟨-, g⟩ | ⟨g, -⟩
         · rw [g, e] at q; omega
         · exfalso; omega)
  · first
      | (exfalso; omega)
      | (refine Or.inr ⟨by omega, Or.inl ⟨?_, rfl, by rw [c_G42_F_F_a_3_0]; exact oq38⟩⟩
         rw [← e]; exact h.2)
theorem v_X10_commit_61_3 {F : Nat → Nat → Nat} (a : Nat) (G : XG) (G42 : XG)
    (ron : RO (vw (G.2.1 (F (F a 3) 0))) (aI (G.2.1 (F (F a 3) 1))))
    (c_G42_F_F_a_3_0 : G42.2.1 (F (F a 3) 0) = G.2.1 (F (F a 3) 0))
    (c_G42_F_F_a_3_1 : G42.2.1 (F (F a 3) 1) = G.2.1 (F (F a 3) 1)) :
    RO (vw (G42.2.1 (F (F a 3) 0))) (aI (G42.2.1 (F (F a 3) 1))) := by
  rw [c_G42_F_F_a_3_0, c_G42_F_F_a_3_1]
  first | exact oq38a | exact ron
theorem v_X10_commit_61_4 {K : Nat → Nat} {F : Nat → Nat → Nat} (a : Nat) (G : XG) (G4 : XG) (G22 : XG) (G42 : XG) (x22 : Int32)
    (ha : K a = 12)
    (oq22 : (x22.toInt = 1 ∧ ∀ x, x ∈ qL G4 F (F a 8) → x.2.2.2.2.1 ≠ 0 → x.2.2.2.2.2 = 0) ∨ (x22.toInt = 0 ∧ ∃ x, x ∈ qL G4 F (F a 8) ∧ x.2.2.2.2.1 ≠ 0 ∧ x.2.2.2.2.2 ≠ 0))
    (oq22a : AskR (qL G4 F (F a 8)) (qL G22 F (F a 10)) x22.toInt)
    (sw : 0 ≤ ((G.1 (F a 8) 6).toInt) ∧ ((G.1 (F a 8) 6).toInt) ≤ 1080)
    (t4 : ((G4.1 (F a 14) 1).toInt) = 0)
    (f54 : ((G.1 a 18).toInt) = 0 ∨ ((G.1 a 18).toInt) = 1)
    (c11 : ((G.1 a 18).toInt) ≠ 0)
    (t22 : 0 ≤ ((G22.1 (F a 10) 6).toInt) ∧ ((G22.1 (F a 10) 6).toInt) ≤ 1080)
    (f57 : x22.toInt = 0 ∨ x22.toInt = 1)
    (c27 : x22.toInt ≠ 0)
    (t42 : ((G42.1 a 18).toInt) = 0 ∧ ((G42.1 a 17).toInt) = 0 ∧ ((G42.1 (F a 8) 6).toInt) = 0)
    (c46 : x22.toInt = 0)
    (c_G4_F_F_a_8_0 : G4.2.1 (F (F a 8) 0) = G.2.1 (F (F a 8) 0))
    (c_G4_F_F_a_8_1 : G4.2.1 (F (F a 8) 1) = G.2.1 (F (F a 8) 1))
    (c_G4_F_F_a_8_2 : G4.2.1 (F (F a 8) 2) = G.2.1 (F (F a 8) 2))
    (c_G4_F_F_a_8_3 : G4.2.1 (F (F a 8) 3) = G.2.1 (F (F a 8) 3))
    (c_G4_F_F_a_8_4 : G4.2.1 (F (F a 8) 4) = G.2.1 (F (F a 8) 4))
    (c_G4_F_F_a_8_5 : G4.2.1 (F (F a 8) 5) = G.2.1 (F (F a 8) 5))
    (c_G42_F_F_a_10_0 : G42.2.1 (F (F a 10) 0) = G22.2.1 (F (F a 10) 0))
    (c_G42_F_F_a_10_1 : G42.2.1 (F (F a 10) 1) = G22.2.1 (F (F a 10) 1))
    (c_G42_F_F_a_10_2 : G42.2.1 (F (F a 10) 2) = G22.2.1 (F (F a 10) 2))
    (c_G42_F_F_a_10_3 : G42.2.1 (F (F a 10) 3) = G22.2.1 (F (F a 10) 3))
    (c_G42_F_F_a_10_4 : G42.2.1 (F (F a 10) 4) = G22.2.1 (F (F a 10) 4))
    (c_G42_F_F_a_10_5 : G42.2.1 (F (F a 10) 5) = G22.2.1 (F (F a 10) 5))
    (d_G4_F_a_8_6 : G4.1 (F a 8) 6 = G.1 (F a 8) 6)
    (d_G42_F_a_10_6 : G42.1 (F a 10) 6 = G22.1 (F a 10) 6) :
    (((G.1 a 18).toInt) = 0 ∧ qL G42 F (F a 10) = qL G F (F a 10)) ∨ (((G.1 a 18).toInt) ≠ 0 ∧ ∃ ok : Int, AskR (qL G F (F a 8)) (qL G42 F (F a 10)) ok) := by
  have e : qL G4 F (F a 8) = qL G F (F a 8) := qL_cg d_G4_F_a_8_6 c_G4_F_F_a_8_0 c_G4_F_F_a_8_1 c_G4_F_F_a_8_2 c_G4_F_F_a_8_3 c_G4_F_F_a_8_4 c_G4_F_F_a_8_5
  have e9 : qL G42 F (F a 10) = qL G22 F (F a 10) := qL_cg d_G42_F_a_10_6 c_G42_F_F_a_10_0 c_G42_F_F_a_10_1 c_G42_F_F_a_10_2 c_G42_F_F_a_10_3 c_G42_F_F_a_10_4 c_G42_F_F_a_10_5
  exact Or.inr ⟨by omega, x22.toInt, by rw [← e, e9]; exact oq22a⟩
theorem v_X10_commit_61_5 {K : Nat → Nat} {F : Nat → Nat → Nat} (a : Nat) (G : XG) (G4 : XG) (G22 : XG) (G42 : XG) (x22 : Int32)
    (ha : K a = 12)
    (oq22 : (x22.toInt = 1 ∧ ∀ x, x ∈ qL G4 F (F a 8) → x.2.2.2.2.1 ≠ 0 → x.2.2.2.2.2 = 0) ∨ (x22.toInt = 0 ∧ ∃ x, x ∈ qL G4 F (F a 8) ∧ x.2.2.2.2.1 ≠ 0 ∧ x.2.2.2.2.2 ≠ 0))
    (oq22a : AskR (qL G4 F (F a 8)) (qL G22 F (F a 10)) x22.toInt)
    (sw : 0 ≤ ((G.1 (F a 8) 6).toInt) ∧ ((G.1 (F a 8) 6).toInt) ≤ 1080)
    (t4 : ((G4.1 (F a 14) 1).toInt) = 0)
    (f55 : ((G.1 a 18).toInt) = 0 ∨ ((G.1 a 18).toInt) = 1)
    (c11 : ((G.1 a 18).toInt) ≠ 0)
    (t22 : 0 ≤ ((G22.1 (F a 10) 6).toInt) ∧ ((G22.1 (F a 10) 6).toInt) ≤ 1080)
    (f58 : x22.toInt = 0 ∨ x22.toInt = 1)
    (c27 : x22.toInt ≠ 0)
    (t42 : ((G42.1 a 18).toInt) = 0 ∧ ((G42.1 a 17).toInt) = 0 ∧ ((G42.1 (F a 8) 6).toInt) = 0)
    (c46 : ¬ (x22.toInt = 0))
    (c_G4_F_F_a_8_0 : G4.2.1 (F (F a 8) 0) = G.2.1 (F (F a 8) 0))
    (c_G4_F_F_a_8_1 : G4.2.1 (F (F a 8) 1) = G.2.1 (F (F a 8) 1))
    (c_G4_F_F_a_8_2 : G4.2.1 (F (F a 8) 2) = G.2.1 (F (F a 8) 2))
    (c_G4_F_F_a_8_3 : G4.2.1 (F (F a 8) 3) = G.2.1 (F (F a 8) 3))
    (c_G4_F_F_a_8_4 : G4.2.1 (F (F a 8) 4) = G.2.1 (F (F a 8) 4))
    (c_G4_F_F_a_8_5 : G4.2.1 (F (F a 8) 5) = G.2.1 (F (F a 8) 5))
    (c_G42_F_F_a_3_0 : G42.2.1 (F (F a 3) 0) = G.2.1 (F (F a 3) 0))
    (d_G4_F_a_8_6 : G4.1 (F a 8) 6 = G.1 (F a 8) 6) :
    (((G.1 a 18).toInt) = 0 ∧ ((G22.1 (F a 10) 6).toInt) = -3 ∧ (vw (G42.2.1 (F (F a 3) 0))) = (vw (G.2.1 (F (F a 3) 0)))) ∨ (((G.1 a 18).toInt) ≠ 0 ∧ (((∃ x, x ∈ qL G F (F a 8) ∧ x.2.2.2.2.1 ≠ 0 ∧ x.2.2.2.2.2 ≠ 0) ∧ ((G22.1 (F a 10) 6).toInt) = -5 ∧ (vw (G42.2.1 (F (F a 3) 0))) = (vw (G.2.1 (F (F a 4) 0)))) ∨ ((∀ x, x ∈ qL G F (F a 8) → x.2.2.2.2.1 ≠ 0 → x.2.2.2.2.2 = 0) ∧ (vw (G42.2.1 (F (F a 3) 0))) = (vw (G.2.1 (F (F a 3) 0))) ∧ ((G22.1 (F a 10) 6).toInt) = (((ltF (qL G F (F a 8))).length : Nat) : Int)))) := by
  have e : qL G4 F (F a 8) = qL G F (F a 8) := qL_cg d_G4_F_a_8_6 c_G4_F_F_a_8_0 c_G4_F_F_a_8_1 c_G4_F_F_a_8_2 c_G4_F_F_a_8_3 c_G4_F_F_a_8_4 c_G4_F_F_a_8_5
  rcases oq22 with h | h
  · first
      | (exfalso; omega)
      | (refine Or.inr ⟨by omega, Or.inr ⟨by rw [← e]; exact h.2, by rw [c_G42_F_F_a_3_0], ?_⟩⟩
         have q := qL_len G22 F (F a 10)
         rcases oq22a with ⟨-, g⟩ | ⟨g, -⟩
         · rw [g, e] at q; omega
         · exfalso; omega)
  · first
      | (exfalso; omega)
      | (refine Or.inr ⟨by omega, Or.inl ⟨?_, rfl, by rw [c_G42_F_F_a_3_0]; exact oq38⟩⟩
         rw [← e]; exact h.2)
theorem v_X10_commit_61_6 {F : Nat → Nat → Nat} (a : Nat) (G : XG) (G42 : XG)
    (ron : RO (vw (G.2.1 (F (F a 3) 0))) (aI (G.2.1 (F (F a 3) 1))))
    (c_G42_F_F_a_3_0 : G42.2.1 (F (F a 3) 0) = G.2.1 (F (F a 3) 0))
    (c_G42_F_F_a_3_1 : G42.2.1 (F (F a 3) 1) = G.2.1 (F (F a 3) 1)) :
    RO (vw (G42.2.1 (F (F a 3) 0))) (aI (G42.2.1 (F (F a 3) 1))) := by
  rw [c_G42_F_F_a_3_0, c_G42_F_F_a_3_1]
  first | exact oq38a | exact ron
theorem v_X10_commit_61_7 {K : Nat → Nat} {F : Nat → Nat → Nat} (a : Nat) (G : XG) (G4 : XG) (G22 : XG) (G42 : XG) (x22 : Int32)
    (ha : K a = 12)
    (oq22 : (x22.toInt = 1 ∧ ∀ x, x ∈ qL G4 F (F a 8) → x.2.2.2.2.1 ≠ 0 → x.2.2.2.2.2 = 0) ∨ (x22.toInt = 0 ∧ ∃ x, x ∈ qL G4 F (F a 8) ∧ x.2.2.2.2.1 ≠ 0 ∧ x.2.2.2.2.2 ≠ 0))
    (oq22a : AskR (qL G4 F (F a 8)) (qL G22 F (F a 10)) x22.toInt)
    (sw : 0 ≤ ((G.1 (F a 8) 6).toInt) ∧ ((G.1 (F a 8) 6).toInt) ≤ 1080)
    (t4 : ((G4.1 (F a 14) 1).toInt) = 0)
    (f55 : ((G.1 a 18).toInt) = 0 ∨ ((G.1 a 18).toInt) = 1)
    (c11 : ((G.1 a 18).toInt) ≠ 0)
    (t22 : 0 ≤ ((G22.1 (F a 10) 6).toInt) ∧ ((G22.1 (F a 10) 6).toInt) ≤ 1080)
    (f58 : x22.toInt = 0 ∨ x22.toInt = 1)
    (c27 : x22.toInt ≠ 0)
    (t42 : ((G42.1 a 18).toInt) = 0 ∧ ((G42.1 a 17).toInt) = 0 ∧ ((G42.1 (F a 8) 6).toInt) = 0)
    (c46 : ¬ (x22.toInt = 0))
    (c_G4_F_F_a_8_0 : G4.2.1 (F (F a 8) 0) = G.2.1 (F (F a 8) 0))
    (c_G4_F_F_a_8_1 : G4.2.1 (F (F a 8) 1) = G.2.1 (F (F a 8) 1))
    (c_G4_F_F_a_8_2 : G4.2.1 (F (F a 8) 2) = G.2.1 (F (F a 8) 2))
    (c_G4_F_F_a_8_3 : G4.2.1 (F (F a 8) 3) = G.2.1 (F (F a 8) 3))
    (c_G4_F_F_a_8_4 : G4.2.1 (F (F a 8) 4) = G.2.1 (F (F a 8) 4))
    (c_G4_F_F_a_8_5 : G4.2.1 (F (F a 8) 5) = G.2.1 (F (F a 8) 5))
    (c_G42_F_F_a_10_0 : G42.2.1 (F (F a 10) 0) = G22.2.1 (F (F a 10) 0))
    (c_G42_F_F_a_10_1 : G42.2.1 (F (F a 10) 1) = G22.2.1 (F (F a 10) 1))
    (c_G42_F_F_a_10_2 : G42.2.1 (F (F a 10) 2) = G22.2.1 (F (F a 10) 2))
    (c_G42_F_F_a_10_3 : G42.2.1 (F (F a 10) 3) = G22.2.1 (F (F a 10) 3))
    (c_G42_F_F_a_10_4 : G42.2.1 (F (F a 10) 4) = G22.2.1 (F (F a 10) 4))
    (c_G42_F_F_a_10_5 : G42.2.1 (F (F a 10) 5) = G22.2.1 (F (F a 10) 5))
    (d_G4_F_a_8_6 : G4.1 (F a 8) 6 = G.1 (F a 8) 6)
    (d_G42_F_a_10_6 : G42.1 (F a 10) 6 = G22.1 (F a 10) 6) :
    (((G.1 a 18).toInt) = 0 ∧ qL G42 F (F a 10) = qL G F (F a 10)) ∨ (((G.1 a 18).toInt) ≠ 0 ∧ ∃ ok : Int, AskR (qL G F (F a 8)) (qL G42 F (F a 10)) ok) := by
  have e : qL G4 F (F a 8) = qL G F (F a 8) := qL_cg d_G4_F_a_8_6 c_G4_F_F_a_8_0 c_G4_F_F_a_8_1 c_G4_F_F_a_8_2 c_G4_F_F_a_8_3 c_G4_F_F_a_8_4 c_G4_F_F_a_8_5
  have e9 : qL G42 F (F a 10) = qL G22 F (F a 10) := qL_cg d_G42_F_a_10_6 c_G42_F_F_a_10_0 c_G42_F_F_a_10_1 c_G42_F_F_a_10_2 c_G42_F_F_a_10_3 c_G42_F_F_a_10_4 c_G42_F_F_a_10_5
  exact Or.inr ⟨by omega, x22.toInt, by rw [← e, e9]; exact oq22a⟩
theorem v_X10_commit_38_8 {F : Nat → Nat → Nat} (a : Nat) (G : XG) (G22 : XG)
    (ron : RO (vw (G.2.1 (F (F a 3) 0))) (aI (G.2.1 (F (F a 3) 1))))
    (rob : RO (vw (G.2.1 (F (F a 4) 0))) (aI (G.2.1 (F (F a 4) 1))))
    (c_G22_F_F_a_4_0 : G22.2.1 (F (F a 4) 0) = G.2.1 (F (F a 4) 0))
    (c_G22_F_F_a_4_1 : G22.2.1 (F (F a 4) 1) = G.2.1 (F (F a 4) 1)) :
    RO (vw (G22.2.1 (F (F a 4) 0))) (aI (G22.2.1 (F (F a 4) 1))) := by simp only [c_G22_F_F_a_4_0, c_G22_F_F_a_4_1]; assumption
theorem v_X10_commit_61_9 {K : Nat → Nat} {F : Nat → Nat → Nat} (a : Nat) (G : XG) (G4 : XG) (G22 : XG) (G38 : XG) (G42 : XG) (x22 : Int32)
    (ha : K a = 12)
    (oq22 : (x22.toInt = 1 ∧ ∀ x, x ∈ qL G4 F (F a 8) → x.2.2.2.2.1 ≠ 0 → x.2.2.2.2.2 = 0) ∨ (x22.toInt = 0 ∧ ∃ x, x ∈ qL G4 F (F a 8) ∧ x.2.2.2.2.1 ≠ 0 ∧ x.2.2.2.2.2 ≠ 0))
    (oq22a : AskR (qL G4 F (F a 8)) (qL G22 F (F a 10)) x22.toInt)
    (oq38 : (vw (G38.2.1 (F (F a 3) 0))) = (vw (G.2.1 (F (F a 4) 0))))
    (sw : 0 ≤ ((G.1 (F a 8) 6).toInt) ∧ ((G.1 (F a 8) 6).toInt) ≤ 1080)
    (t4 : ((G4.1 (F a 14) 1).toInt) = 0)
    (f57 : ((G.1 a 18).toInt) = 0 ∨ ((G.1 a 18).toInt) = 1)
    (c11 : ((G.1 a 18).toInt) ≠ 0)
    (t22 : 0 ≤ ((G22.1 (F a 10) 6).toInt) ∧ ((G22.1 (F a 10) 6).toInt) ≤ 1080)
    (f60 : x22.toInt = 0 ∨ x22.toInt = 1)
    (c27 : ¬ (x22.toInt ≠ 0))
    (t42 : ((G42.1 a 18).toInt) = 0 ∧ ((G42.1 a 17).toInt) = 0 ∧ ((G42.1 (F a 8) 6).toInt) = 0)
    (c46 : x22.toInt = 0)
    (c_G4_F_F_a_8_0 : G4.2.1 (F (F a 8) 0) = G.2.1 (F (F a 8) 0))
    (c_G4_F_F_a_8_1 : G4.2.1 (F (F a 8) 1) = G.2.1 (F (F a 8) 1))
    (c_G4_F_F_a_8_2 : G4.2.1 (F (F a 8) 2) = G.2.1 (F (F a 8) 2))
    (c_G4_F_F_a_8_3 : G4.2.1 (F (F a 8) 3) = G.2.1 (F (F a 8) 3))
    (c_G4_F_F_a_8_4 : G4.2.1 (F (F a 8) 4) = G.2.1 (F (F a 8) 4))
    (c_G4_F_F_a_8_5 : G4.2.1 (F (F a 8) 5) = G.2.1 (F (F a 8) 5))
    (c_G42_F_F_a_3_0 : G42.2.1 (F (F a 3) 0) = G38.2.1 (F (F a 3) 0))
    (d_G4_F_a_8_6 : G4.1 (F a 8) 6 = G.1 (F a 8) 6) :
    (((G.1 a 18).toInt) = 0 ∧ (-5 : Int) = -3 ∧ (vw (G42.2.1 (F (F a 3) 0))) = (vw (G.2.1 (F (F a 3) 0)))) ∨ (((G.1 a 18).toInt) ≠ 0 ∧ (((∃ x, x ∈ qL G F (F a 8) ∧ x.2.2.2.2.1 ≠ 0 ∧ x.2.2.2.2.2 ≠ 0) ∧ (-5 : Int) = -5 ∧ (vw (G42.2.1 (F (F a 3) 0))) = (vw (G.2.1 (F (F a 4) 0)))) ∨ ((∀ x, x ∈ qL G F (F a 8) → x.2.2.2.2.1 ≠ 0 → x.2.2.2.2.2 = 0) ∧ (vw (G42.2.1 (F (F a 3) 0))) = (vw (G.2.1 (F (F a 3) 0))) ∧ (-5 : Int) = (((ltF (qL G F (F a 8))).length : Nat) : Int)))) := by
  have e : qL G4 F (F a 8) = qL G F (F a 8) := qL_cg d_G4_F_a_8_6 c_G4_F_F_a_8_0 c_G4_F_F_a_8_1 c_G4_F_F_a_8_2 c_G4_F_F_a_8_3 c_G4_F_F_a_8_4 c_G4_F_F_a_8_5
  rcases oq22 with h | h
  · first
      | (exfalso; omega)
      | (refine Or.inr ⟨by omega, Or.inr ⟨by rw [← e]; exact h.2, by rw [c_G42_F_F_a_3_0], ?_⟩⟩
         have q := qL_len G22 F (F a 10)
         rcases oq22a with ⟨-, g⟩ | ⟨g, -⟩
         · rw [g, e] at q; omega
         · exfalso; omega)
  · first
      | (exfalso; omega)
      | (refine Or.inr ⟨by omega, Or.inl ⟨?_, rfl, by rw [c_G42_F_F_a_3_0]; exact oq38⟩⟩
         rw [← e]; exact h.2)
theorem v_X10_commit_61_10 {F : Nat → Nat → Nat} (a : Nat) (G : XG) (G38 : XG) (G42 : XG)
    (ron : RO (vw (G.2.1 (F (F a 3) 0))) (aI (G.2.1 (F (F a 3) 1))))
    (oq38a : RO (vw (G38.2.1 (F (F a 3) 0))) (aI (G38.2.1 (F (F a 3) 1))))
    (c_G42_F_F_a_3_0 : G42.2.1 (F (F a 3) 0) = G38.2.1 (F (F a 3) 0))
    (c_G42_F_F_a_3_1 : G42.2.1 (F (F a 3) 1) = G38.2.1 (F (F a 3) 1)) :
    RO (vw (G42.2.1 (F (F a 3) 0))) (aI (G42.2.1 (F (F a 3) 1))) := by
  rw [c_G42_F_F_a_3_0, c_G42_F_F_a_3_1]
  first | exact oq38a | exact ron
theorem v_X10_commit_61_11 {K : Nat → Nat} {F : Nat → Nat → Nat} (a : Nat) (G : XG) (G4 : XG) (G22 : XG) (G42 : XG) (x22 : Int32)
    (ha : K a = 12)
    (oq22 : (x22.toInt = 1 ∧ ∀ x, x ∈ qL G4 F (F a 8) → x.2.2.2.2.1 ≠ 0 → x.2.2.2.2.2 = 0) ∨ (x22.toInt = 0 ∧ ∃ x, x ∈ qL G4 F (F a 8) ∧ x.2.2.2.2.1 ≠ 0 ∧ x.2.2.2.2.2 ≠ 0))
    (oq22a : AskR (qL G4 F (F a 8)) (qL G22 F (F a 10)) x22.toInt)
    (sw : 0 ≤ ((G.1 (F a 8) 6).toInt) ∧ ((G.1 (F a 8) 6).toInt) ≤ 1080)
    (t4 : ((G4.1 (F a 14) 1).toInt) = 0)
    (f57 : ((G.1 a 18).toInt) = 0 ∨ ((G.1 a 18).toInt) = 1)
    (c11 : ((G.1 a 18).toInt) ≠ 0)
    (t22 : 0 ≤ ((G22.1 (F a 10) 6).toInt) ∧ ((G22.1 (F a 10) 6).toInt) ≤ 1080)
    (f60 : x22.toInt = 0 ∨ x22.toInt = 1)
    (c27 : ¬ (x22.toInt ≠ 0))
    (t42 : ((G42.1 a 18).toInt) = 0 ∧ ((G42.1 a 17).toInt) = 0 ∧ ((G42.1 (F a 8) 6).toInt) = 0)
    (c46 : x22.toInt = 0)
    (c_G4_F_F_a_8_0 : G4.2.1 (F (F a 8) 0) = G.2.1 (F (F a 8) 0))
    (c_G4_F_F_a_8_1 : G4.2.1 (F (F a 8) 1) = G.2.1 (F (F a 8) 1))
    (c_G4_F_F_a_8_2 : G4.2.1 (F (F a 8) 2) = G.2.1 (F (F a 8) 2))
    (c_G4_F_F_a_8_3 : G4.2.1 (F (F a 8) 3) = G.2.1 (F (F a 8) 3))
    (c_G4_F_F_a_8_4 : G4.2.1 (F (F a 8) 4) = G.2.1 (F (F a 8) 4))
    (c_G4_F_F_a_8_5 : G4.2.1 (F (F a 8) 5) = G.2.1 (F (F a 8) 5))
    (c_G42_F_F_a_10_0 : G42.2.1 (F (F a 10) 0) = G22.2.1 (F (F a 10) 0))
    (c_G42_F_F_a_10_1 : G42.2.1 (F (F a 10) 1) = G22.2.1 (F (F a 10) 1))
    (c_G42_F_F_a_10_2 : G42.2.1 (F (F a 10) 2) = G22.2.1 (F (F a 10) 2))
    (c_G42_F_F_a_10_3 : G42.2.1 (F (F a 10) 3) = G22.2.1 (F (F a 10) 3))
    (c_G42_F_F_a_10_4 : G42.2.1 (F (F a 10) 4) = G22.2.1 (F (F a 10) 4))
    (c_G42_F_F_a_10_5 : G42.2.1 (F (F a 10) 5) = G22.2.1 (F (F a 10) 5))
    (d_G4_F_a_8_6 : G4.1 (F a 8) 6 = G.1 (F a 8) 6)
    (d_G42_F_a_10_6 : G42.1 (F a 10) 6 = G22.1 (F a 10) 6) :
    (((G.1 a 18).toInt) = 0 ∧ qL G42 F (F a 10) = qL G F (F a 10)) ∨ (((G.1 a 18).toInt) ≠ 0 ∧ ∃ ok : Int, AskR (qL G F (F a 8)) (qL G42 F (F a 10)) ok) := by
  have e : qL G4 F (F a 8) = qL G F (F a 8) := qL_cg d_G4_F_a_8_6 c_G4_F_F_a_8_0 c_G4_F_F_a_8_1 c_G4_F_F_a_8_2 c_G4_F_F_a_8_3 c_G4_F_F_a_8_4 c_G4_F_F_a_8_5
  have e9 : qL G42 F (F a 10) = qL G22 F (F a 10) := qL_cg d_G42_F_a_10_6 c_G42_F_F_a_10_0 c_G42_F_F_a_10_1 c_G42_F_F_a_10_2 c_G42_F_F_a_10_3 c_G42_F_F_a_10_4 c_G42_F_F_a_10_5
  exact Or.inr ⟨by omega, x22.toInt, by rw [← e, e9]; exact oq22a⟩
theorem v_X10_commit_61_12 {K : Nat → Nat} {F : Nat → Nat → Nat} (a : Nat) (G : XG) (G4 : XG) (G22 : XG) (G38 : XG) (G42 : XG) (x22 : Int32)
    (ha : K a = 12)
    (oq22 : (x22.toInt = 1 ∧ ∀ x, x ∈ qL G4 F (F a 8) → x.2.2.2.2.1 ≠ 0 → x.2.2.2.2.2 = 0) ∨ (x22.toInt = 0 ∧ ∃ x, x ∈ qL G4 F (F a 8) ∧ x.2.2.2.2.1 ≠ 0 ∧ x.2.2.2.2.2 ≠ 0))
    (oq22a : AskR (qL G4 F (F a 8)) (qL G22 F (F a 10)) x22.toInt)
    (oq38 : (vw (G38.2.1 (F (F a 3) 0))) = (vw (G.2.1 (F (F a 4) 0))))
    (sw : 0 ≤ ((G.1 (F a 8) 6).toInt) ∧ ((G.1 (F a 8) 6).toInt) ≤ 1080)
    (t4 : ((G4.1 (F a 14) 1).toInt) = 0)
    (f58 : ((G.1 a 18).toInt) = 0 ∨ ((G.1 a 18).toInt) = 1)
    (c11 : ((G.1 a 18).toInt) ≠ 0)
    (t22 : 0 ≤ ((G22.1 (F a 10) 6).toInt) ∧ ((G22.1 (F a 10) 6).toInt) ≤ 1080)
    (f61 : x22.toInt = 0 ∨ x22.toInt = 1)
    (c27 : ¬ (x22.toInt ≠ 0))
    (t42 : ((G42.1 a 18).toInt) = 0 ∧ ((G42.1 a 17).toInt) = 0 ∧ ((G42.1 (F a 8) 6).toInt) = 0)
    (c46 : ¬ (x22.toInt = 0))
    (c_G4_F_F_a_8_0 : G4.2.1 (F (F a 8) 0) = G.2.1 (F (F a 8) 0))
    (c_G4_F_F_a_8_1 : G4.2.1 (F (F a 8) 1) = G.2.1 (F (F a 8) 1))
    (c_G4_F_F_a_8_2 : G4.2.1 (F (F a 8) 2) = G.2.1 (F (F a 8) 2))
    (c_G4_F_F_a_8_3 : G4.2.1 (F (F a 8) 3) = G.2.1 (F (F a 8) 3))
    (c_G4_F_F_a_8_4 : G4.2.1 (F (F a 8) 4) = G.2.1 (F (F a 8) 4))
    (c_G4_F_F_a_8_5 : G4.2.1 (F (F a 8) 5) = G.2.1 (F (F a 8) 5))
    (c_G42_F_F_a_3_0 : G42.2.1 (F (F a 3) 0) = G38.2.1 (F (F a 3) 0))
    (d_G4_F_a_8_6 : G4.1 (F a 8) 6 = G.1 (F a 8) 6) :
    (((G.1 a 18).toInt) = 0 ∧ ((G22.1 (F a 10) 6).toInt) = -3 ∧ (vw (G42.2.1 (F (F a 3) 0))) = (vw (G.2.1 (F (F a 3) 0)))) ∨ (((G.1 a 18).toInt) ≠ 0 ∧ (((∃ x, x ∈ qL G F (F a 8) ∧ x.2.2.2.2.1 ≠ 0 ∧ x.2.2.2.2.2 ≠ 0) ∧ ((G22.1 (F a 10) 6).toInt) = -5 ∧ (vw (G42.2.1 (F (F a 3) 0))) = (vw (G.2.1 (F (F a 4) 0)))) ∨ ((∀ x, x ∈ qL G F (F a 8) → x.2.2.2.2.1 ≠ 0 → x.2.2.2.2.2 = 0) ∧ (vw (G42.2.1 (F (F a 3) 0))) = (vw (G.2.1 (F (F a 3) 0))) ∧ ((G22.1 (F a 10) 6).toInt) = (((ltF (qL G F (F a 8))).length : Nat) : Int)))) := by
  have e : qL G4 F (F a 8) = qL G F (F a 8) := qL_cg d_G4_F_a_8_6 c_G4_F_F_a_8_0 c_G4_F_F_a_8_1 c_G4_F_F_a_8_2 c_G4_F_F_a_8_3 c_G4_F_F_a_8_4 c_G4_F_F_a_8_5
  rcases oq22 with h | h
  · first
      | (exfalso; omega)
      | (refine Or.inr ⟨by omega, Or.inr ⟨by rw [← e]; exact h.2, by rw [c_G42_F_F_a_3_0], ?_⟩⟩
         have q := qL_len G22 F (F a 10)
         rcases oq22a with ⟨-, g⟩ | ⟨g, -⟩
         · rw [g, e] at q; omega
         · exfalso; omega)
  · first
      | (exfalso; omega)
      | (refine Or.inr ⟨by omega, Or.inl ⟨?_, rfl, by rw [c_G42_F_F_a_3_0]; exact oq38⟩⟩
         rw [← e]; exact h.2)
theorem v_X10_commit_61_13 {F : Nat → Nat → Nat} (a : Nat) (G : XG) (G38 : XG) (G42 : XG)
    (ron : RO (vw (G.2.1 (F (F a 3) 0))) (aI (G.2.1 (F (F a 3) 1))))
    (oq38a : RO (vw (G38.2.1 (F (F a 3) 0))) (aI (G38.2.1 (F (F a 3) 1))))
    (c_G42_F_F_a_3_0 : G42.2.1 (F (F a 3) 0) = G38.2.1 (F (F a 3) 0))
    (c_G42_F_F_a_3_1 : G42.2.1 (F (F a 3) 1) = G38.2.1 (F (F a 3) 1)) :
    RO (vw (G42.2.1 (F (F a 3) 0))) (aI (G42.2.1 (F (F a 3) 1))) := by
  rw [c_G42_F_F_a_3_0, c_G42_F_F_a_3_1]
  first | exact oq38a | exact ron
theorem v_X10_commit_61_14 {K : Nat → Nat} {F : Nat → Nat → Nat} (a : Nat) (G : XG) (G4 : XG) (G22 : XG) (G42 : XG) (x22 : Int32)
    (ha : K a = 12)
    (oq22 : (x22.toInt = 1 ∧ ∀ x, x ∈ qL G4 F (F a 8) → x.2.2.2.2.1 ≠ 0 → x.2.2.2.2.2 = 0) ∨ (x22.toInt = 0 ∧ ∃ x, x ∈ qL G4 F (F a 8) ∧ x.2.2.2.2.1 ≠ 0 ∧ x.2.2.2.2.2 ≠ 0))
    (oq22a : AskR (qL G4 F (F a 8)) (qL G22 F (F a 10)) x22.toInt)
    (sw : 0 ≤ ((G.1 (F a 8) 6).toInt) ∧ ((G.1 (F a 8) 6).toInt) ≤ 1080)
    (t4 : ((G4.1 (F a 14) 1).toInt) = 0)
    (f58 : ((G.1 a 18).toInt) = 0 ∨ ((G.1 a 18).toInt) = 1)
    (c11 : ((G.1 a 18).toInt) ≠ 0)
    (t22 : 0 ≤ ((G22.1 (F a 10) 6).toInt) ∧ ((G22.1 (F a 10) 6).toInt) ≤ 1080)
    (f61 : x22.toInt = 0 ∨ x22.toInt = 1)
    (c27 : ¬ (x22.toInt ≠ 0))
    (t42 : ((G42.1 a 18).toInt) = 0 ∧ ((G42.1 a 17).toInt) = 0 ∧ ((G42.1 (F a 8) 6).toInt) = 0)
    (c46 : ¬ (x22.toInt = 0))
    (c_G4_F_F_a_8_0 : G4.2.1 (F (F a 8) 0) = G.2.1 (F (F a 8) 0))
    (c_G4_F_F_a_8_1 : G4.2.1 (F (F a 8) 1) = G.2.1 (F (F a 8) 1))
    (c_G4_F_F_a_8_2 : G4.2.1 (F (F a 8) 2) = G.2.1 (F (F a 8) 2))
    (c_G4_F_F_a_8_3 : G4.2.1 (F (F a 8) 3) = G.2.1 (F (F a 8) 3))
    (c_G4_F_F_a_8_4 : G4.2.1 (F (F a 8) 4) = G.2.1 (F (F a 8) 4))
    (c_G4_F_F_a_8_5 : G4.2.1 (F (F a 8) 5) = G.2.1 (F (F a 8) 5))
    (c_G42_F_F_a_10_0 : G42.2.1 (F (F a 10) 0) = G22.2.1 (F (F a 10) 0))
    (c_G42_F_F_a_10_1 : G42.2.1 (F (F a 10) 1) = G22.2.1 (F (F a 10) 1))
    (c_G42_F_F_a_10_2 : G42.2.1 (F (F a 10) 2) = G22.2.1 (F (F a 10) 2))
    (c_G42_F_F_a_10_3 : G42.2.1 (F (F a 10) 3) = G22.2.1 (F (F a 10) 3))
    (c_G42_F_F_a_10_4 : G42.2.1 (F (F a 10) 4) = G22.2.1 (F (F a 10) 4))
    (c_G42_F_F_a_10_5 : G42.2.1 (F (F a 10) 5) = G22.2.1 (F (F a 10) 5))
    (d_G4_F_a_8_6 : G4.1 (F a 8) 6 = G.1 (F a 8) 6)
    (d_G42_F_a_10_6 : G42.1 (F a 10) 6 = G22.1 (F a 10) 6) :
    (((G.1 a 18).toInt) = 0 ∧ qL G42 F (F a 10) = qL G F (F a 10)) ∨ (((G.1 a 18).toInt) ≠ 0 ∧ ∃ ok : Int, AskR (qL G F (F a 8)) (qL G42 F (F a 10)) ok) := by
  have e : qL G4 F (F a 8) = qL G F (F a 8) := qL_cg d_G4_F_a_8_6 c_G4_F_F_a_8_0 c_G4_F_F_a_8_1 c_G4_F_F_a_8_2 c_G4_F_F_a_8_3 c_G4_F_F_a_8_4 c_G4_F_F_a_8_5
  have e9 : qL G42 F (F a 10) = qL G22 F (F a 10) := qL_cg d_G42_F_a_10_6 c_G42_F_F_a_10_0 c_G42_F_F_a_10_1 c_G42_F_F_a_10_2 c_G42_F_F_a_10_3 c_G42_F_F_a_10_4 c_G42_F_F_a_10_5
  exact Or.inr ⟨by omega, x22.toInt, by rw [← e, e9]; exact oq22a⟩
theorem v_X10_commit_16_15 {K : Nat → Nat} {F : Nat → Nat → Nat} (a : Nat) (G : XG) (G4 : XG)
    (ha : K a = 12)
    (sw : 0 ≤ ((G.1 (F a 8) 6).toInt) ∧ ((G.1 (F a 8) 6).toInt) ≤ 1080)
    (t4 : ((G4.1 (F a 14) 1).toInt) = 0)
    (f50 : ((G.1 a 18).toInt) = 0 ∨ ((G.1 a 18).toInt) = 1)
    (c11 : ¬ (((G.1 a 18).toInt) ≠ 0))
    (c_G4_F_F_a_3_0 : G4.2.1 (F (F a 3) 0) = G.2.1 (F (F a 3) 0)) :
    (((G.1 a 18).toInt) = 0 ∧ (-3 : Int) = -3 ∧ (vw (G4.2.1 (F (F a 3) 0))) = (vw (G.2.1 (F (F a 3) 0)))) ∨ (((G.1 a 18).toInt) ≠ 0 ∧ (((∃ x, x ∈ qL G F (F a 8) ∧ x.2.2.2.2.1 ≠ 0 ∧ x.2.2.2.2.2 ≠ 0) ∧ (-3 : Int) = -5 ∧ (vw (G4.2.1 (F (F a 3) 0))) = (vw (G.2.1 (F (F a 4) 0)))) ∨ ((∀ x, x ∈ qL G F (F a 8) → x.2.2.2.2.1 ≠ 0 → x.2.2.2.2.2 = 0) ∧ (vw (G4.2.1 (F (F a 3) 0))) = (vw (G.2.1 (F (F a 3) 0))) ∧ (-3 : Int) = (((ltF (qL G F (F a 8))).length : Nat) : Int)))) := by
  exact Or.inl ⟨by omega, rfl, by rw [c_G4_F_F_a_3_0]⟩
theorem v_X10_commit_16_16 {F : Nat → Nat → Nat} (a : Nat) (G : XG) (G4 : XG)
    (ron : RO (vw (G.2.1 (F (F a 3) 0))) (aI (G.2.1 (F (F a 3) 1))))
    (c_G4_F_F_a_3_0 : G4.2.1 (F (F a 3) 0) = G.2.1 (F (F a 3) 0))
    (c_G4_F_F_a_3_1 : G4.2.1 (F (F a 3) 1) = G.2.1 (F (F a 3) 1)) :
    RO (vw (G4.2.1 (F (F a 3) 0))) (aI (G4.2.1 (F (F a 3) 1))) := by
  rw [c_G4_F_F_a_3_0, c_G4_F_F_a_3_1]; exact ron
theorem v_X10_commit_16_17 {K : Nat → Nat} {F : Nat → Nat → Nat} (a : Nat) (G : XG) (G4 : XG)
    (ha : K a = 12)
    (sw : 0 ≤ ((G.1 (F a 8) 6).toInt) ∧ ((G.1 (F a 8) 6).toInt) ≤ 1080)
    (t4 : ((G4.1 (F a 14) 1).toInt) = 0)
    (f50 : ((G.1 a 18).toInt) = 0 ∨ ((G.1 a 18).toInt) = 1)
    (c11 : ¬ (((G.1 a 18).toInt) ≠ 0))
    (c_G4_F_F_a_10_0 : G4.2.1 (F (F a 10) 0) = G.2.1 (F (F a 10) 0))
    (c_G4_F_F_a_10_1 : G4.2.1 (F (F a 10) 1) = G.2.1 (F (F a 10) 1))
    (c_G4_F_F_a_10_2 : G4.2.1 (F (F a 10) 2) = G.2.1 (F (F a 10) 2))
    (c_G4_F_F_a_10_3 : G4.2.1 (F (F a 10) 3) = G.2.1 (F (F a 10) 3))
    (c_G4_F_F_a_10_4 : G4.2.1 (F (F a 10) 4) = G.2.1 (F (F a 10) 4))
    (c_G4_F_F_a_10_5 : G4.2.1 (F (F a 10) 5) = G.2.1 (F (F a 10) 5))
    (d_G4_F_a_10_6 : G4.1 (F a 10) 6 = G.1 (F a 10) 6) :
    (((G.1 a 18).toInt) = 0 ∧ qL G4 F (F a 10) = qL G F (F a 10)) ∨ (((G.1 a 18).toInt) ≠ 0 ∧ ∃ ok : Int, AskR (qL G F (F a 8)) (qL G4 F (F a 10)) ok) := by
  exact Or.inl ⟨by omega, qL_cg d_G4_F_a_10_6 c_G4_F_F_a_10_0 c_G4_F_F_a_10_1 c_G4_F_F_a_10_2 c_G4_F_F_a_10_3 c_G4_F_F_a_10_4 c_G4_F_F_a_10_5⟩
