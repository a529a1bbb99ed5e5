theorem v_X11_read_11_1 {F : Nat → Nat → Nat} (G : XG) (a : Nat) (G7 : XG)
    (nt0 : 0 ≤ ((G.1 a 36).toInt) ∧ ((G.1 a 36).toInt) ≤ 80)
    (c_G7_F_a_35 : G7.2.1 (F a 35) = G.2.1 (F a 35))
    (d_G7_a_36 : G7.1 a 36 = G.1 a 36)
    (d_G7_a_37 : G7.1 a 37 = 0)
    (d_G7_a_38 : G7.1 a 38 = G.1 a 38)
    (d_G7_a_39 : G7.1 a 39 = 1) :
    RdM (tM (G7.2.1 (F a 35)) ((G7.1 a 36).toInt)) ((G7.1 a 36).toInt) (1, rn cBl (tM (G.2.1 (F a 35)) ((G.1 a 36).toInt)) 0) ((G7.1 a 39).toInt) ((G7.1 a 37).toInt) ((G7.1 a 38).toInt) := by
  (try rw [c_G7_F_a_35])
  (try rw [d_G7_a_36])
  (try rw [d_G7_a_37])
  (try rw [d_G7_a_38])
  (try rw [d_G7_a_39])
  exact rdm_st (tM_e _ _) rfl (by decide) ⟨by decide, by show (0 : Int) ≤ _; omega⟩
theorem v_X11_read_11_2 {F : Nat → Nat → Nat} (G2 : XG) (G : XG) (a : Nat) (G7 : XG)
    (hG2 : G2 = dput G a 37 0)
    (hG7 : G7 = dput G2 a 39 1)
    (hwo : WDo G F a) :
    WDo G7 F a := by
  intro i hi j hj
  have h9 : G7.2.1 (F a (25 + i)) = G.2.1 (F a (25 + i)) := by rw [hG7, hG2]; rfl
  rw [h9]
  exact hwo i hi j hj
theorem v_X11_read_30_3 {F : Nat → Nat → Nat} (G : XG) (a : Nat) (G11 : XG) (G21 : XG)
    (oq11a : RdM (tM (G.2.1 (F a 35)) ((G.1 a 36).toInt)) ((G.1 a 36).toInt) (tkK (tM (G.2.1 (F a 35)) ((G.1 a 36).toInt)) (1, rn cBl (tM (G.2.1 (F a 35)) ((G.1 a 36).toInt)) 0)).2 ((G11.1 a 39).toInt) ((G11.1 a 37).toInt) ((G11.1 a 38).toInt))
    (c_G21_F_a_35 : G21.2.1 (F a 35) = G.2.1 (F a 35))
    (d_G21_a_36 : G21.1 a 36 = G.1 a 36)
    (d_G21_a_37 : G21.1 a 37 = G11.1 a 37)
    (d_G21_a_38 : G21.1 a 38 = G11.1 a 38)
    (d_G21_a_39 : G21.1 a 39 = G11.1 a 39) :
    RdM (tM (G21.2.1 (F a 35)) ((G21.1 a 36).toInt)) ((G21.1 a 36).toInt) ((rS1 (tM (G.2.1 (F a 35)) ((G.1 a 36).toInt))).2) ((G21.1 a 39).toInt) ((G21.1 a 37).toInt) ((G21.1 a 38).toInt) := by
  (try rw [c_G21_F_a_35])
  (try rw [d_G21_a_36])
  (try rw [d_G21_a_37])
  (try rw [d_G21_a_38])
  (try rw [d_G21_a_39])
  exact oq11a
theorem v_X11_read_42_4 {F : Nat → Nat → Nat} (G : XG) (a : Nat) (G30 : XG) (G33 : XG)
    (oq30a : RdM (tM (G.2.1 (F a 35)) ((G.1 a 36).toInt)) ((G.1 a 36).toInt) (tkN (tM (G.2.1 (F a 35)) ((G.1 a 36).toInt)) (0 : Int) (2 : Int) ((rS1 (tM (G.2.1 (F a 35)) ((G.1 a 36).toInt))).2)).2 ((G30.1 a 39).toInt) ((G30.1 a 37).toInt) ((G30.1 a 38).toInt))
    (c_G33_F_a_35 : G33.2.1 (F a 35) = G.2.1 (F a 35))
    (d_G33_a_36 : G33.1 a 36 = G.1 a 36)
    (d_G33_a_37 : G33.1 a 37 = G30.1 a 37)
    (d_G33_a_38 : G33.1 a 38 = G30.1 a 38)
    (d_G33_a_39 : G33.1 a 39 = G30.1 a 39) :
    RdM (tM (G33.2.1 (F a 35)) ((G33.1 a 36).toInt)) ((G33.1 a 36).toInt) ((rS2 (tM (G.2.1 (F a 35)) ((G.1 a 36).toInt))).2) ((G33.1 a 39).toInt) ((G33.1 a 37).toInt) ((G33.1 a 38).toInt) := by
  (try rw [c_G33_F_a_35])
  (try rw [d_G33_a_36])
  (try rw [d_G33_a_37])
  (try rw [d_G33_a_38])
  (try rw [d_G33_a_39])
  exact oq30a
theorem v_X11_read_207_5 {F : Nat → Nat → Nat} (G : XG) (a : Nat) (G_148 : XG) (G_195 : XG) (G195 : XG)
    (rd7 : RdM (tM (G.2.1 (F a 35)) ((G.1 a 36).toInt)) (G.1 a 36).toInt (rS7 (tM (G.2.1 (F a 35)) ((G.1 a 36).toInt))).2 ((G_148.1 a 39).toInt) ((G_195.1 a 37).toInt) ((G_148.1 a 38).toInt))
    (c_G195_F_a_35 : G195.2.1 (F a 35) = G.2.1 (F a 35))
    (d_G195_a_36 : G195.1 a 36 = G.1 a 36)
    (d_G195_a_37 : G195.1 a 37 = G_195.1 a 37)
    (d_G195_a_38 : G195.1 a 38 = G_148.1 a 38)
    (d_G195_a_39 : G195.1 a 39 = G_148.1 a 39) :
    RdM (tM (G195.2.1 (F a 35)) ((G195.1 a 36).toInt)) ((G195.1 a 36).toInt) ((rS7 (tM (G.2.1 (F a 35)) ((G.1 a 36).toInt))).2) ((G195.1 a 39).toInt) ((G195.1 a 37).toInt) ((G195.1 a 38).toInt) := by
  (try rw [c_G195_F_a_35])
  (try rw [d_G195_a_36])
  (try rw [d_G195_a_37])
  (try rw [d_G195_a_38])
  (try rw [d_G195_a_39])
  exact rd7
theorem v_X11_read_207_6 {F : Nat → Nat → Nat} (G : XG) (a : Nat) (G195 : XG)
    (hwo : WDo G F a)
    (c_G195_F_a_33 : G195.2.1 (F a 33) = G.2.1 (F a 33)) :
    (kw 8).length = 4 ∧ ∀ i : Nat, i < 4 → aI (G195.2.1 (F a 33)) (i : Int) = (kw 8).getD i 0 ∧ 0 ≤ (kw 8).getD i 0 ∧ (kw 8).getD i 0 ≤ 127 := by
  have hw := hwo.w (i := 8) (n := 4) (by decide) (by decide)
  rw [c_G195_F_a_33]
  exact hw
theorem v_X11_read_230_7 {F : Nat → Nat → Nat} (G : XG) (a : Nat) (G207 : XG) (G218 : XG) (G_148 : XG)
    (oq207a : RdM (tM (G.2.1 (F a 35)) ((G.1 a 36).toInt)) ((G.1 a 36).toInt) (tkW (tM (G.2.1 (F a 35)) ((G.1 a 36).toInt)) (kw 8) ((rS7 (tM (G.2.1 (F a 35)) ((G.1 a 36).toInt))).2)).2 ((G207.1 a 39).toInt) ((G207.1 a 37).toInt) ((G207.1 a 38).toInt))
    (c_G218_F_a_35 : G218.2.1 (F a 35) = G.2.1 (F a 35))
    (d_G207_a_38 : G207.1 a 38 = G_148.1 a 38)
    (d_G207_a_39 : G207.1 a 39 = G_148.1 a 39)
    (d_G218_a_36 : G218.1 a 36 = G.1 a 36)
    (d_G218_a_37 : G218.1 a 37 = G207.1 a 37)
    (d_G218_a_38 : G218.1 a 38 = G_148.1 a 38)
    (d_G218_a_39 : G218.1 a 39 = G_148.1 a 39) :
    RdM (tM (G218.2.1 (F a 35)) ((G218.1 a 36).toInt)) ((G218.1 a 36).toInt) ((rS8 (tM (G.2.1 (F a 35)) ((G.1 a 36).toInt))).2) ((G218.1 a 39).toInt) ((G218.1 a 37).toInt) ((G218.1 a 38).toInt) := by
  (try rw [d_G207_a_38] at oq207a)
  (try rw [d_G207_a_39] at oq207a)
  (try rw [c_G218_F_a_35])
  (try rw [d_G218_a_36])
  (try rw [d_G218_a_37])
  (try rw [d_G218_a_38])
  (try rw [d_G218_a_39])
  exact oq207a
theorem v_X11_read_230_8 {F : Nat → Nat → Nat} (G : XG) (a : Nat) (G218 : XG)
    (hwo : WDo G F a)
    (c_G218_F_a_34 : G218.2.1 (F a 34) = G.2.1 (F a 34)) :
    (kw 9).length = 4 ∧ ∀ i : Nat, i < 4 → aI (G218.2.1 (F a 34)) (i : Int) = (kw 9).getD i 0 ∧ 0 ≤ (kw 9).getD i 0 ∧ (kw 9).getD i 0 ≤ 127 := by
  have hw := hwo.w (i := 9) (n := 4) (by decide) (by decide)
  rw [c_G218_F_a_34]
  exact hw
theorem v_X11_read_277_9 {F : Nat → Nat → Nat} (G : XG) (a : Nat) (G_248 : XG) (G250 : XG) (x250 : Int32)
    (rd9 : RdM (tM (G.2.1 (F a 35)) ((G.1 a 36).toInt)) (G.1 a 36).toInt (rS9 (tM (G.2.1 (F a 35)) ((G.1 a 36).toInt))).2 ((G_248.1 a 39).toInt) ((G_248.1 a 37).toInt) ((G_248.1 a 38).toInt))
    (oq250 : ((G250.1 a 37).toInt) = rn cBl (tM (G.2.1 (F a 35)) ((G.1 a 36).toInt)) ((G_248.1 a 37).toInt))
    (nt0 : 0 ≤ ((G.1 a 36).toInt) ∧ ((G.1 a 36).toInt) ≤ 80)
    (t250 : -128 ≤ x250.toInt ∧ x250.toInt ≤ 127 ∧ ((0 ≤ x250.toInt ∧ (tM (G.2.1 (F a 35)) ((G.1 a 36).toInt) ((G250.1 a 37).toInt)) = x250.toInt) ∨ (x250.toInt < 0 ∧ (tM (G.2.1 (F a 35)) ((G.1 a 36).toInt) ((G250.1 a 37).toInt)) = x250.toInt + 256)) ∧ ((G_248.1 a 37).toInt) ≤ ((G250.1 a 37).toInt) ∧ ((G250.1 a 37).toInt) ≤ ((G.1 a 36).toInt))
    (c262 : ((G.1 a 36).toInt) ≤ ((G250.1 a 37).toInt))
    (d_G250_a_39 : G250.1 a 39 = G_248.1 a 39) :
    (((G_248.1 a 39).toInt) ≠ 0 ↔ rOk (tM (G.2.1 (F a 35)) ((G.1 a 36).toInt)) ((G.1 a 36).toInt)) := by
  have s9 := rd9.2.1
  have r0 := rd9.2.2.1
  have p0_ := rd9.2.2.2.1
  have h01 := rd9.1
  unfold rOk
  (try rw [d_G250_a_39])
  constructor
  · intro h
    have h1 : (rS9 (tM (G.2.1 (F a 35)) ((G.1 a 36).toInt))).2.1 = 1 := by
      apply s9.mp
      omega
    have := r0 h1
    exact ⟨h1, by omega⟩
  · rintro ⟨h1, h2⟩
    have g1 := s9.mpr h1
    have := r0 h1
    omega
theorem v_X11_read_277_10 {F : Nat → Nat → Nat} (G : XG) (a : Nat) (G_248 : XG) (G250 : XG) (x250 : Int32)
    (rd9 : RdM (tM (G.2.1 (F a 35)) ((G.1 a 36).toInt)) (G.1 a 36).toInt (rS9 (tM (G.2.1 (F a 35)) ((G.1 a 36).toInt))).2 ((G_248.1 a 39).toInt) ((G_248.1 a 37).toInt) ((G_248.1 a 38).toInt))
    (oq250 : ((G250.1 a 37).toInt) = rn cBl (tM (G.2.1 (F a 35)) ((G.1 a 36).toInt)) ((G_248.1 a 37).toInt))
    (nt0 : 0 ≤ ((G.1 a 36).toInt) ∧ ((G.1 a 36).toInt) ≤ 80)
    (t250 : -128 ≤ x250.toInt ∧ x250.toInt ≤ 127 ∧ ((0 ≤ x250.toInt ∧ (tM (G.2.1 (F a 35)) ((G.1 a 36).toInt) ((G250.1 a 37).toInt)) = x250.toInt) ∨ (x250.toInt < 0 ∧ (tM (G.2.1 (F a 35)) ((G.1 a 36).toInt) ((G250.1 a 37).toInt)) = x250.toInt + 256)) ∧ ((G_248.1 a 37).toInt) ≤ ((G250.1 a 37).toInt) ∧ ((G250.1 a 37).toInt) ≤ ((G.1 a 36).toInt))
    (c262 : ((G.1 a 36).toInt) ≤ ((G250.1 a 37).toInt))
    (d_G250_a_38 : G250.1 a 38 = G_248.1 a 38) :
    (¬ rOk (tM (G.2.1 (F a 35)) ((G.1 a 36).toInt)) ((G.1 a 36).toInt) → ((G250.1 a 38).toInt) = (rS9 (tM (G.2.1 (F a 35)) ((G.1 a 36).toInt))).2.2 ∧ 0 ≤ (rS9 (tM (G.2.1 (F a 35)) ((G.1 a 36).toInt))).2.2 ∧ (rS9 (tM (G.2.1 (F a 35)) ((G.1 a 36).toInt))).2.2 ≤ ((G.1 a 36).toInt)) := by
  have s9 := rd9.2.1
  have r0 := rd9.2.2.1
  have p0_ := rd9.2.2.2.1
  have h01 := rd9.1
  unfold rOk
  intro hn
  refine ⟨?_, rd9.2.2.2.2.2.1, rd9.2.2.2.2.2.2⟩
  (try rw [d_G250_a_38])
  rcases h01 with h | h
  · have := p0_ h
    have g0 : ¬ ((G_248.1 a 39).toInt ≠ 0) := fun q => by have := s9.mp q; omega
    omega
  · have g1 := s9.mpr h
    have := r0 h
    have : ¬ ((G.1 a 36).toInt ≤ (rS9 (tM (G.2.1 (F a 35)) ((G.1 a 36).toInt))).2.2) := fun q => hn ⟨h, q⟩
    omega
theorem v_X11_read_277_11 {F : Nat → Nat → Nat} (G21 : XG) (G11 : XG) (a : Nat) (x11 : Int32) (G33 : XG) (G30 : XG) (x30 : Int32) (G45 : XG) (G42 : XG) (x42 : Int32) (G76 : XG) (G_76 : XG) (k_76 : Int32) (G121 : XG) (G_121 : XG) (k_121 : Int32) (G148 : XG) (G_148 : XG) (k_148 : Int32) (G195 : XG) (G_195 : XG) (k_195 : Int32) (G218 : XG) (G207 : XG) (k_218 : Int32) (G248 : XG) (G_248 : XG) (k_248 : Int32) (G : XG) (x207 : Int32) (G250 : XG)
    (hG21 : G21 = cput G11 (F a 40) (0 : Int32).toNatClampNeg x11)
    (hG33 : G33 = cput G30 (F a 40) (1 : Int32).toNatClampNeg x30)
    (hG45 : G45 = cput G42 (F a 40) (2 : Int32).toNatClampNeg x42)
    (hG76 : G76 = cput G_76 (F a 40) (3 : Int32).toNatClampNeg k_76)
    (hG121 : G121 = cput G_121 (F a 40) (4 : Int32).toNatClampNeg k_121)
    (hG148 : G148 = cput G_148 (F a 40) (5 : Int32).toNatClampNeg k_148)
    (hG195 : G195 = cput G_195 (F a 40) (8 : Int32).toNatClampNeg k_195)
    (hG218 : G218 = cput G207 (F a 40) (6 : Int32).toNatClampNeg k_218)
    (hG248 : G248 = cput G_248 (F a 40) (7 : Int32).toNatClampNeg k_248)
    (oq11 : x11.toInt = (tkK (tM (G.2.1 (F a 35)) ((G.1 a 36).toInt)) (1, rn cBl (tM (G.2.1 (F a 35)) ((G.1 a 36).toInt)) 0)).1)
    (oq30 : x30.toInt = (tkN (tM (G.2.1 (F a 35)) ((G.1 a 36).toInt)) (0 : Int) (2 : Int) ((rS1 (tM (G.2.1 (F a 35)) ((G.1 a 36).toInt))).2)).1)
    (oq42 : x42.toInt = (tkN (tM (G.2.1 (F a 35)) ((G.1 a 36).toInt)) (0 : Int) (2 : Int) ((rS2 (tM (G.2.1 (F a 35)) ((G.1 a 36).toInt))).2)).1)
    (f4 : k_76.toInt = (rS4 (tM (G.2.1 (F a 35)) ((G.1 a 36).toInt))).1)
    (f5 : k_121.toInt = (rS5 (tM (G.2.1 (F a 35)) ((G.1 a 36).toInt))).1)
    (f6 : k_148.toInt = (rS6 (tM (G.2.1 (F a 35)) ((G.1 a 36).toInt))).1)
    (f7 : k_195.toInt = (rS7 (tM (G.2.1 (F a 35)) ((G.1 a 36).toInt))).1)
    (oq207 : x207.toInt = (tkW (tM (G.2.1 (F a 35)) ((G.1 a 36).toInt)) (kw 8) ((rS7 (tM (G.2.1 (F a 35)) ((G.1 a 36).toInt))).2)).1)
    (f9 : k_248.toInt = (rS9 (tM (G.2.1 (F a 35)) ((G.1 a 36).toInt))).1)
    (t207 : 0 ≤ x207.toInt ∧ x207.toInt ≤ 1)
    (I218_0 : (k_218.toInt = 1 ∧ x207.toInt = 1) ∨ (k_218.toInt = 0 ∧ x207.toInt = 0))
    (c_G207_F_a_40 : G207.2.1 (F a 40) = G195.2.1 (F a 40))
    (c_G250_F_a_40 : G250.2.1 (F a 40) = G248.2.1 (F a 40))
    (c_G30_F_a_40 : G30.2.1 (F a 40) = G21.2.1 (F a 40))
    (c_G42_F_a_40 : G42.2.1 (F a 40) = G33.2.1 (F a 40))
    (c_G_121_F_a_40 : G_121.2.1 (F a 40) = G76.2.1 (F a 40))
    (c_G_148_F_a_40 : G_148.2.1 (F a 40) = G121.2.1 (F a 40))
    (c_G_195_F_a_40 : G_195.2.1 (F a 40) = G148.2.1 (F a 40))
    (c_G_248_F_a_40 : G_248.2.1 (F a 40) = G218.2.1 (F a 40))
    (c_G_76_F_a_40 : G_76.2.1 (F a 40) = G45.2.1 (F a 40)) :
    aI (G250.2.1 (F a 40)) 0 = (rS1 (tM (G.2.1 (F a 35)) ((G.1 a 36).toInt))).1 ∧ aI (G250.2.1 (F a 40)) 1 = (rS2 (tM (G.2.1 (F a 35)) ((G.1 a 36).toInt))).1 ∧ aI (G250.2.1 (F a 40)) 2 = (rS3 (tM (G.2.1 (F a 35)) ((G.1 a 36).toInt))).1 ∧ aI (G250.2.1 (F a 40)) 3 = (rS4 (tM (G.2.1 (F a 35)) ((G.1 a 36).toInt))).1 ∧ aI (G250.2.1 (F a 40)) 4 = (rS5 (tM (G.2.1 (F a 35)) ((G.1 a 36).toInt))).1 ∧ aI (G250.2.1 (F a 40)) 5 = (rS6 (tM (G.2.1 (F a 35)) ((G.1 a 36).toInt))).1 ∧ aI (G250.2.1 (F a 40)) 6 = (rS8 (tM (G.2.1 (F a 35)) ((G.1 a 36).toInt))).1 ∧ aI (G250.2.1 (F a 40)) 7 = (rS9 (tM (G.2.1 (F a 35)) ((G.1 a 36).toInt))).1 ∧ aI (G250.2.1 (F a 40)) 8 = (rS7 (tM (G.2.1 (F a 35)) ((G.1 a 36).toInt))).1 := by
  (try rw [c_G250_F_a_40])
  (try rw [c_G270_F_a_40])
  exact dr9 (aI_pu hG21 rfl (show ((0 : Int32)).toInt = 0 from by decide) oq11 (by decide)) (aI_pu hG33 c_G30_F_a_40 (show ((1 : Int32)).toInt = 1 from by decide) oq30 (by decide)) (aI_pu hG45 c_G42_F_a_40 (show ((2 : Int32)).toInt = 2 from by decide) oq42 (by decide)) (aI_pu hG76 c_G_76_F_a_40 (show ((3 : Int32)).toInt = 3 from by decide) f4 (by decide)) (aI_pu hG121 c_G_121_F_a_40 (show ((4 : Int32)).toInt = 4 from by decide) f5 (by decide)) (aI_pu hG148 c_G_148_F_a_40 (show ((5 : Int32)).toInt = 5 from by decide) f6 (by decide)) (aI_pu hG195 c_G_195_F_a_40 (show ((8 : Int32)).toInt = 8 from by decide) f7 (by decide)) (aI_pu hG218 c_G207_F_a_40 (show ((6 : Int32)).toInt = 6 from by decide) (show k_218.toInt = (rS8 (tM (G.2.1 (F a 35)) ((G.1 a 36).toInt))).1 from by have := oq207; show _ = (tkW _ _ _).1; rw [← this]; omega) (by decide)) (aI_pu hG248 c_G_248_F_a_40 (show ((7 : Int32)).toInt = 7 from by decide) f9 (by decide))
theorem v_X11_read_277_12 {F : Nat → Nat → Nat} (G : XG) (a : Nat) (G_248 : XG) (G250 : XG) (x250 : Int32) (G270 : XG)
    (rd9 : RdM (tM (G.2.1 (F a 35)) ((G.1 a 36).toInt)) (G.1 a 36).toInt (rS9 (tM (G.2.1 (F a 35)) ((G.1 a 36).toInt))).2 ((G_248.1 a 39).toInt) ((G_248.1 a 37).toInt) ((G_248.1 a 38).toInt))
    (oq250 : ((G250.1 a 37).toInt) = rn cBl (tM (G.2.1 (F a 35)) ((G.1 a 36).toInt)) ((G_248.1 a 37).toInt))
    (nt0 : 0 ≤ ((G.1 a 36).toInt) ∧ ((G.1 a 36).toInt) ≤ 80)
    (t250 : -128 ≤ x250.toInt ∧ x250.toInt ≤ 127 ∧ ((0 ≤ x250.toInt ∧ (tM (G.2.1 (F a 35)) ((G.1 a 36).toInt) ((G250.1 a 37).toInt)) = x250.toInt) ∨ (x250.toInt < 0 ∧ (tM (G.2.1 (F a 35)) ((G.1 a 36).toInt) ((G250.1 a 37).toInt)) = x250.toInt + 256)) ∧ ((G_248.1 a 37).toInt) ≤ ((G250.1 a 37).toInt) ∧ ((G250.1 a 37).toInt) ≤ ((G.1 a 36).toInt))
    (c262 : ¬ (((G.1 a 36).toInt) ≤ ((G250.1 a 37).toInt)))
    (t270 : ((G270.1 a 39).toInt) = 0 ∧ (((G_248.1 a 39).toInt) ≠ 0 → ((G270.1 a 38).toInt) = ((G250.1 a 37).toInt)) ∧ (((G_248.1 a 39).toInt) = 0 → ((G270.1 a 38).toInt) = ((G_248.1 a 38).toInt)))
    (d_G250_a_39 : G250.1 a 39 = G_248.1 a 39) :
    (((G270.1 a 39).toInt) ≠ 0 ↔ rOk (tM (G.2.1 (F a 35)) ((G.1 a 36).toInt)) ((G.1 a 36).toInt)) := by
  have s9 := rd9.2.1
  have r0 := rd9.2.2.1
  have p0_ := rd9.2.2.2.1
  have h01 := rd9.1
  unfold rOk
  (try rw [d_G250_a_39])
  constructor
  · intro h
    have h1 : (rS9 (tM (G.2.1 (F a 35)) ((G.1 a 36).toInt))).2.1 = 1 := by
      apply s9.mp
      omega
    have := r0 h1
    exact ⟨h1, by omega⟩
  · rintro ⟨h1, h2⟩
    have g1 := s9.mpr h1
    have := r0 h1
    omega
theorem v_X11_read_277_13 {F : Nat → Nat → Nat} (G : XG) (a : Nat) (G_248 : XG) (G250 : XG) (x250 : Int32) (G270 : XG)
    (rd9 : RdM (tM (G.2.1 (F a 35)) ((G.1 a 36).toInt)) (G.1 a 36).toInt (rS9 (tM (G.2.1 (F a 35)) ((G.1 a 36).toInt))).2 ((G_248.1 a 39).toInt) ((G_248.1 a 37).toInt) ((G_248.1 a 38).toInt))
    (oq250 : ((G250.1 a 37).toInt) = rn cBl (tM (G.2.1 (F a 35)) ((G.1 a 36).toInt)) ((G_248.1 a 37).toInt))
    (nt0 : 0 ≤ ((G.1 a 36).toInt) ∧ ((G.1 a 36).toInt) ≤ 80)
    (t250 : -128 ≤ x250.toInt ∧ x250.toInt ≤ 127 ∧ ((0 ≤ x250.toInt ∧ (tM (G.2.1 (F a 35)) ((G.1 a 36).toInt) ((G250.1 a 37).toInt)) = x250.toInt) ∨ (x250.toInt < 0 ∧ (tM (G.2.1 (F a 35)) ((G.1 a 36).toInt) ((G250.1 a 37).toInt)) = x250.toInt + 256)) ∧ ((G_248.1 a 37).toInt) ≤ ((G250.1 a 37).toInt) ∧ ((G250.1 a 37).toInt) ≤ ((G.1 a 36).toInt))
    (c262 : ¬ (((G.1 a 36).toInt) ≤ ((G250.1 a 37).toInt)))
    (t270 : ((G270.1 a 39).toInt) = 0 ∧ (((G_248.1 a 39).toInt) ≠ 0 → ((G270.1 a 38).toInt) = ((G250.1 a 37).toInt)) ∧ (((G_248.1 a 39).toInt) = 0 → ((G270.1 a 38).toInt) = ((G_248.1 a 38).toInt)))
    (d_G250_a_38 : G250.1 a 38 = G_248.1 a 38) :
    (¬ rOk (tM (G.2.1 (F a 35)) ((G.1 a 36).toInt)) ((G.1 a 36).toInt) → ((G270.1 a 38).toInt) = (rS9 (tM (G.2.1 (F a 35)) ((G.1 a 36).toInt))).2.2 ∧ 0 ≤ (rS9 (tM (G.2.1 (F a 35)) ((G.1 a 36).toInt))).2.2 ∧ (rS9 (tM (G.2.1 (F a 35)) ((G.1 a 36).toInt))).2.2 ≤ ((G.1 a 36).toInt)) := by
  have s9 := rd9.2.1
  have r0 := rd9.2.2.1
  have p0_ := rd9.2.2.2.1
  have h01 := rd9.1
  unfold rOk
  intro hn
  refine ⟨?_, rd9.2.2.2.2.2.1, rd9.2.2.2.2.2.2⟩
  (try rw [d_G250_a_38])
  rcases h01 with h | h
  · have := p0_ h
    have g0 : ¬ ((G_248.1 a 39).toInt ≠ 0) := fun q => by have := s9.mp q; omega
    omega
  · have g1 := s9.mpr h
    have := r0 h
    have : ¬ ((G.1 a 36).toInt ≤ (rS9 (tM (G.2.1 (F a 35)) ((G.1 a 36).toInt))).2.2) := fun q => hn ⟨h, q⟩
    omega
theorem v_X11_read_277_14 {F : Nat → Nat → Nat} (G21 : XG) (G11 : XG) (a : Nat) (x11 : Int32) (G33 : XG) (G30 : XG) (x30 : Int32) (G45 : XG) (G42 : XG) (x42 : Int32) (G76 : XG) (G_76 : XG) (k_76 : Int32) (G121 : XG) (G_121 : XG) (k_121 : Int32) (G148 : XG) (G_148 : XG) (k_148 : Int32) (G195 : XG) (G_195 : XG) (k_195 : Int32) (G218 : XG) (G207 : XG) (k_218 : Int32) (G248 : XG) (G_248 : XG) (k_248 : Int32) (G : XG) (x207 : Int32) (G250 : XG) (G270 : XG)
    (hG21 : G21 = cput G11 (F a 40) (0 : Int32).toNatClampNeg x11)
    (hG33 : G33 = cput G30 (F a 40) (1 : Int32).toNatClampNeg x30)
    (hG45 : G45 = cput G42 (F a 40) (2 : Int32).toNatClampNeg x42)
    (hG76 : G76 = cput G_76 (F a 40) (3 : Int32).toNatClampNeg k_76)
    (hG121 : G121 = cput G_121 (F a 40) (4 : Int32).toNatClampNeg k_121)
    (hG148 : G148 = cput G_148 (F a 40) (5 : Int32).toNatClampNeg k_148)
    (hG195 : G195 = cput G_195 (F a 40) (8 : Int32).toNatClampNeg k_195)
    (hG218 : G218 = cput G207 (F a 40) (6 : Int32).toNatClampNeg k_218)
    (hG248 : G248 = cput G_248 (F a 40) (7 : Int32).toNatClampNeg k_248)
    (oq11 : x11.toInt = (tkK (tM (G.2.1 (F a 35)) ((G.1 a 36).toInt)) (1, rn cBl (tM (G.2.1 (F a 35)) ((G.1 a 36).toInt)) 0)).1)
    (oq30 : x30.toInt = (tkN (tM (G.2.1 (F a 35)) ((G.1 a 36).toInt)) (0 : Int) (2 : Int) ((rS1 (tM (G.2.1 (F a 35)) ((G.1 a 36).toInt))).2)).1)
    (oq42 : x42.toInt = (tkN (tM (G.2.1 (F a 35)) ((G.1 a 36).toInt)) (0 : Int) (2 : Int) ((rS2 (tM (G.2.1 (F a 35)) ((G.1 a 36).toInt))).2)).1)
    (f4 : k_76.toInt = (rS4 (tM (G.2.1 (F a 35)) ((G.1 a 36).toInt))).1)
    (f5 : k_121.toInt = (rS5 (tM (G.2.1 (F a 35)) ((G.1 a 36).toInt))).1)
    (f6 : k_148.toInt = (rS6 (tM (G.2.1 (F a 35)) ((G.1 a 36).toInt))).1)
    (f7 : k_195.toInt = (rS7 (tM (G.2.1 (F a 35)) ((G.1 a 36).toInt))).1)
    (oq207 : x207.toInt = (tkW (tM (G.2.1 (F a 35)) ((G.1 a 36).toInt)) (kw 8) ((rS7 (tM (G.2.1 (F a 35)) ((G.1 a 36).toInt))).2)).1)
    (f9 : k_248.toInt = (rS9 (tM (G.2.1 (F a 35)) ((G.1 a 36).toInt))).1)
    (t207 : 0 ≤ x207.toInt ∧ x207.toInt ≤ 1)
    (I218_0 : (k_218.toInt = 1 ∧ x207.toInt = 1) ∨ (k_218.toInt = 0 ∧ x207.toInt = 0))
    (c_G207_F_a_40 : G207.2.1 (F a 40) = G195.2.1 (F a 40))
    (c_G250_F_a_40 : G250.2.1 (F a 40) = G248.2.1 (F a 40))
    (c_G270_F_a_40 : G270.2.1 (F a 40) = G248.2.1 (F a 40))
    (c_G30_F_a_40 : G30.2.1 (F a 40) = G21.2.1 (F a 40))
    (c_G42_F_a_40 : G42.2.1 (F a 40) = G33.2.1 (F a 40))
    (c_G_121_F_a_40 : G_121.2.1 (F a 40) = G76.2.1 (F a 40))
    (c_G_148_F_a_40 : G_148.2.1 (F a 40) = G121.2.1 (F a 40))
    (c_G_195_F_a_40 : G_195.2.1 (F a 40) = G148.2.1 (F a 40))
    (c_G_248_F_a_40 : G_248.2.1 (F a 40) = G218.2.1 (F a 40))
    (c_G_76_F_a_40 : G_76.2.1 (F a 40) = G45.2.1 (F a 40)) :
    aI (G270.2.1 (F a 40)) 0 = (rS1 (tM (G.2.1 (F a 35)) ((G.1 a 36).toInt))).1 ∧ aI (G270.2.1 (F a 40)) 1 = (rS2 (tM (G.2.1 (F a 35)) ((G.1 a 36).toInt))).1 ∧ aI (G270.2.1 (F a 40)) 2 = (rS3 (tM (G.2.1 (F a 35)) ((G.1 a 36).toInt))).1 ∧ aI (G270.2.1 (F a 40)) 3 = (rS4 (tM (G.2.1 (F a 35)) ((G.1 a 36).toInt))).1 ∧ aI (G270.2.1 (F a 40)) 4 = (rS5 (tM (G.2.1 (F a 35)) ((G.1 a 36).toInt))).1 ∧ aI (G270.2.1 (F a 40)) 5 = (rS6 (tM (G.2.1 (F a 35)) ((G.1 a 36).toInt))).1 ∧ aI (G270.2.1 (F a 40)) 6 = (rS8 (tM (G.2.1 (F a 35)) ((G.1 a 36).toInt))).1 ∧ aI (G270.2.1 (F a 40)) 7 = (rS9 (tM (G.2.1 (F a 35)) ((G.1 a 36).toInt))).1 ∧ aI (G270.2.1 (F a 40)) 8 = (rS7 (tM (G.2.1 (F a 35)) ((G.1 a 36).toInt))).1 := by
  (try rw [c_G250_F_a_40])
  (try rw [c_G270_F_a_40])
  exact dr9 (aI_pu hG21 rfl (show ((0 : Int32)).toInt = 0 from by decide) oq11 (by decide)) (aI_pu hG33 c_G30_F_a_40 (show ((1 : Int32)).toInt = 1 from by decide) oq30 (by decide)) (aI_pu hG45 c_G42_F_a_40 (show ((2 : Int32)).toInt = 2 from by decide) oq42 (by decide)) (aI_pu hG76 c_G_76_F_a_40 (show ((3 : Int32)).toInt = 3 from by decide) f4 (by decide)) (aI_pu hG121 c_G_121_F_a_40 (show ((4 : Int32)).toInt = 4 from by decide) f5 (by decide)) (aI_pu hG148 c_G_148_F_a_40 (show ((5 : Int32)).toInt = 5 from by decide) f6 (by decide)) (aI_pu hG195 c_G_195_F_a_40 (show ((8 : Int32)).toInt = 8 from by decide) f7 (by decide)) (aI_pu hG218 c_G207_F_a_40 (show ((6 : Int32)).toInt = 6 from by decide) (show k_218.toInt = (rS8 (tM (G.2.1 (F a 35)) ((G.1 a 36).toInt))).1 from by have := oq207; show _ = (tkW _ _ _).1; rw [← this]; omega) (by decide)) (aI_pu hG248 c_G_248_F_a_40 (show ((7 : Int32)).toInt = 7 from by decide) f9 (by decide))
theorem v_X11_read_246_15 {F : Nat → Nat → Nat} (x230 : Int32) (G : XG) (a : Nat) (G230 : XG) (G_148 : XG)
    (oq230 : x230.toInt = (tkW (tM (G.2.1 (F a 35)) ((G.1 a 36).toInt)) (kw 9) ((rS8 (tM (G.2.1 (F a 35)) ((G.1 a 36).toInt))).2)).1)
    (oq230a : RdM (tM (G.2.1 (F a 35)) ((G.1 a 36).toInt)) ((G.1 a 36).toInt) (tkW (tM (G.2.1 (F a 35)) ((G.1 a 36).toInt)) (kw 9) ((rS8 (tM (G.2.1 (F a 35)) ((G.1 a 36).toInt))).2)).2 ((G230.1 a 39).toInt) ((G230.1 a 37).toInt) ((G230.1 a 38).toInt))
    (t230 : 0 ≤ x230.toInt ∧ x230.toInt ≤ 1)
    (c233 : x230.toInt = 0)
    (d_G230_a_38 : G230.1 a 38 = G_148.1 a 38)
    (d_G230_a_39 : G230.1 a 39 = G_148.1 a 39) :
    RdM (tM (G.2.1 (F a 35)) ((G.1 a 36).toInt)) (G.1 a 36).toInt (rS9 (tM (G.2.1 (F a 35)) ((G.1 a 36).toInt))).2 ((G_148.1 a 39).toInt) ((G230.1 a 37).toInt) ((G_148.1 a 38).toInt) := by
  have e9 : rS9 (tM (G.2.1 (F a 35)) ((G.1 a 36).toInt)) = (50, (tkW (tM (G.2.1 (F a 35)) ((G.1 a 36).toInt)) (kw 9) (rS8 (tM (G.2.1 (F a 35)) ((G.1 a 36).toInt))).2).2) := if_neg (by rw [← oq230]; omega)
  rw [e9]
  (try rw [d_G230_a_38, d_G230_a_39] at oq230a)
  exact oq230a
theorem v_X11_read_246_16 {F : Nat → Nat → Nat} (x230 : Int32) (G : XG) (a : Nat)
    (oq230 : x230.toInt = (tkW (tM (G.2.1 (F a 35)) ((G.1 a 36).toInt)) (kw 9) ((rS8 (tM (G.2.1 (F a 35)) ((G.1 a 36).toInt))).2)).1)
    (t230 : 0 ≤ x230.toInt ∧ x230.toInt ≤ 1)
    (c233 : x230.toInt = 0) :
    (50 : Int) = (rS9 (tM (G.2.1 (F a 35)) ((G.1 a 36).toInt))).1 := by
  have e9 : rS9 (tM (G.2.1 (F a 35)) ((G.1 a 36).toInt)) = (50, (tkW (tM (G.2.1 (F a 35)) ((G.1 a 36).toInt)) (kw 9) (rS8 (tM (G.2.1 (F a 35)) ((G.1 a 36).toInt))).2).2) := if_neg (by rw [← oq230]; omega)
  rw [e9]
theorem v_X11_read_240_17 {F : Nat → Nat → Nat} (G : XG) (a : Nat) (G230 : XG) (G_148 : XG)
    (oq230a : RdM (tM (G.2.1 (F a 35)) ((G.1 a 36).toInt)) ((G.1 a 36).toInt) (tkW (tM (G.2.1 (F a 35)) ((G.1 a 36).toInt)) (kw 9) ((rS8 (tM (G.2.1 (F a 35)) ((G.1 a 36).toInt))).2)).2 ((G230.1 a 39).toInt) ((G230.1 a 37).toInt) ((G230.1 a 38).toInt))
    (c_G230_F_a_35 : G230.2.1 (F a 35) = G.2.1 (F a 35))
    (d_G230_a_36 : G230.1 a 36 = G.1 a 36)
    (d_G230_a_38 : G230.1 a 38 = G_148.1 a 38)
    (d_G230_a_39 : G230.1 a 39 = G_148.1 a 39) :
    RdM (tM (G230.2.1 (F a 35)) ((G230.1 a 36).toInt)) ((G230.1 a 36).toInt) ((tkW (tM (G.2.1 (F a 35)) ((G.1 a 36).toInt)) (kw 9) (rS8 (tM (G.2.1 (F a 35)) ((G.1 a 36).toInt))).2).2) ((G230.1 a 39).toInt) ((G230.1 a 37).toInt) ((G230.1 a 38).toInt) := by
  (try rw [d_G230_a_38] at oq230a)
  (try rw [d_G230_a_39] at oq230a)
  (try rw [c_G230_F_a_35])
  (try rw [d_G230_a_36])
  (try rw [d_G230_a_37])
  (try rw [d_G230_a_38])
  (try rw [d_G230_a_39])
  exact oq230a
theorem v_X11_read_243_18 {F : Nat → Nat → Nat} (x230 : Int32) (G : XG) (a : Nat) (G240 : XG)
    (oq230 : x230.toInt = (tkW (tM (G.2.1 (F a 35)) ((G.1 a 36).toInt)) (kw 9) ((rS8 (tM (G.2.1 (F a 35)) ((G.1 a 36).toInt))).2)).1)
    (oq240a : RdM (tM (G.2.1 (F a 35)) ((G.1 a 36).toInt)) ((G.1 a 36).toInt) (tkN (tM (G.2.1 (F a 35)) ((G.1 a 36).toInt)) (0 : Int) (99 : Int) ((tkW (tM (G.2.1 (F a 35)) ((G.1 a 36).toInt)) (kw 9) (rS8 (tM (G.2.1 (F a 35)) ((G.1 a 36).toInt))).2).2)).2 ((G240.1 a 39).toInt) ((G240.1 a 37).toInt) ((G240.1 a 38).toInt))
    (t230 : 0 ≤ x230.toInt ∧ x230.toInt ≤ 1)
    (c233 : ¬ (x230.toInt = 0)) :
    RdM (tM (G.2.1 (F a 35)) ((G.1 a 36).toInt)) (G.1 a 36).toInt (rS9 (tM (G.2.1 (F a 35)) ((G.1 a 36).toInt))).2 ((G240.1 a 39).toInt) ((G240.1 a 37).toInt) ((G240.1 a 38).toInt) := by
  have e9 : rS9 (tM (G.2.1 (F a 35)) ((G.1 a 36).toInt)) = tkN (tM (G.2.1 (F a 35)) ((G.1 a 36).toInt)) 0 99 (tkW (tM (G.2.1 (F a 35)) ((G.1 a 36).toInt)) (kw 9) (rS8 (tM (G.2.1 (F a 35)) ((G.1 a 36).toInt))).2).2 := if_pos (by rw [← oq230]; omega)
  rw [e9]
  exact oq240a
theorem v_X11_read_243_19 {F : Nat → Nat → Nat} (x230 : Int32) (G : XG) (a : Nat) (x240 : Int32)
    (oq230 : x230.toInt = (tkW (tM (G.2.1 (F a 35)) ((G.1 a 36).toInt)) (kw 9) ((rS8 (tM (G.2.1 (F a 35)) ((G.1 a 36).toInt))).2)).1)
    (oq240 : x240.toInt = (tkN (tM (G.2.1 (F a 35)) ((G.1 a 36).toInt)) (0 : Int) (99 : Int) ((tkW (tM (G.2.1 (F a 35)) ((G.1 a 36).toInt)) (kw 9) (rS8 (tM (G.2.1 (F a 35)) ((G.1 a 36).toInt))).2).2)).1)
    (t230 : 0 ≤ x230.toInt ∧ x230.toInt ≤ 1)
    (c233 : ¬ (x230.toInt = 0)) :
    x240.toInt = (rS9 (tM (G.2.1 (F a 35)) ((G.1 a 36).toInt))).1 := by
  have e9 : rS9 (tM (G.2.1 (F a 35)) ((G.1 a 36).toInt)) = tkN (tM (G.2.1 (F a 35)) ((G.1 a 36).toInt)) 0 99 (tkW (tM (G.2.1 (F a 35)) ((G.1 a 36).toInt)) (kw 9) (rS8 (tM (G.2.1 (F a 35)) ((G.1 a 36).toInt))).2).2 := if_pos (by rw [← oq230]; omega)
  rw [e9]
  exact oq240
theorem v_X11_read_169_20 {F : Nat → Nat → Nat} (G : XG) (a : Nat) (G_148 : XG) (G148 : XG)
    (rd6 : RdM (tM (G.2.1 (F a 35)) ((G.1 a 36).toInt)) (G.1 a 36).toInt (rS6 (tM (G.2.1 (F a 35)) ((G.1 a 36).toInt))).2 ((G_148.1 a 39).toInt) ((G_148.1 a 37).toInt) ((G_148.1 a 38).toInt))
    (c_G148_F_a_35 : G148.2.1 (F a 35) = G.2.1 (F a 35))
    (d_G148_a_36 : G148.1 a 36 = G.1 a 36)
    (d_G148_a_37 : G148.1 a 37 = G_148.1 a 37)
    (d_G148_a_38 : G148.1 a 38 = G_148.1 a 38)
    (d_G148_a_39 : G148.1 a 39 = G_148.1 a 39) :
    RdM (tM (G148.2.1 (F a 35)) ((G148.1 a 36).toInt)) ((G148.1 a 36).toInt) ((rS6 (tM (G.2.1 (F a 35)) ((G.1 a 36).toInt))).2) ((G148.1 a 39).toInt) ((G148.1 a 37).toInt) ((G148.1 a 38).toInt) := by
  (try rw [c_G148_F_a_35])
  (try rw [d_G148_a_36])
  (try rw [d_G148_a_37])
  (try rw [d_G148_a_38])
  (try rw [d_G148_a_39])
  exact rd6
theorem v_X11_read_169_21 {F : Nat → Nat → Nat} (G : XG) (a : Nat) (G148 : XG)
    (hwo : WDo G F a)
    (c_G148_F_a_31 : G148.2.1 (F a 31) = G.2.1 (F a 31)) :
    (kw 6).length = 7 ∧ ∀ i : Nat, i < 7 → aI (G148.2.1 (F a 31)) (i : Int) = (kw 6).getD i 0 ∧ 0 ≤ (kw 6).getD i 0 ∧ (kw 6).getD i 0 ≤ 127 := by
  have hw := hwo.w (i := 6) (n := 7) (by decide) (by decide)
  rw [c_G148_F_a_31]
  exact hw
theorem v_X11_read_184_22 {F : Nat → Nat → Nat} (x169 : Int32) (G : XG) (a : Nat) (G169 : XG) (G_148 : XG)
    (oq169 : x169.toInt = (tkW (tM (G.2.1 (F a 35)) ((G.1 a 36).toInt)) (kw 6) ((rS6 (tM (G.2.1 (F a 35)) ((G.1 a 36).toInt))).2)).1)
    (oq169a : RdM (tM (G.2.1 (F a 35)) ((G.1 a 36).toInt)) ((G.1 a 36).toInt) (tkW (tM (G.2.1 (F a 35)) ((G.1 a 36).toInt)) (kw 6) ((rS6 (tM (G.2.1 (F a 35)) ((G.1 a 36).toInt))).2)).2 ((G169.1 a 39).toInt) ((G169.1 a 37).toInt) ((G169.1 a 38).toInt))
    (t169 : 0 ≤ x169.toInt ∧ x169.toInt ≤ 1)
    (c172 : x169.toInt = 0)
    (c_G169_F_a_35 : G169.2.1 (F a 35) = G.2.1 (F a 35))
    (d_G169_a_36 : G169.1 a 36 = G.1 a 36)
    (d_G169_a_38 : G169.1 a 38 = G_148.1 a 38)
    (d_G169_a_39 : G169.1 a 39 = G_148.1 a 39) :
    RdM (tM (G169.2.1 (F a 35)) ((G169.1 a 36).toInt)) ((G169.1 a 36).toInt) ((rS6 (tM (G.2.1 (F a 35)) ((G.1 a 36).toInt))).2) ((G169.1 a 39).toInt) ((G169.1 a 37).toInt) ((G169.1 a 38).toInt) := by
  have w6 : (tkW (tM (G.2.1 (F a 35)) ((G.1 a 36).toInt)) (kw 6) (rS6 (tM (G.2.1 (F a 35)) ((G.1 a 36).toInt))).2).1 ≠ 1 := by rw [← oq169]; omega
  rw [tkW_n w6] at oq169a
  (try rw [d_G169_a_38] at oq169a)
  (try rw [d_G169_a_39] at oq169a)
  (try rw [c_G169_F_a_35])
  (try rw [d_G169_a_36])
  (try rw [d_G169_a_37])
  (try rw [d_G169_a_38])
  (try rw [d_G169_a_39])
  exact oq169a
theorem v_X11_read_184_23 {F : Nat → Nat → Nat} (G : XG) (a : Nat) (G169 : XG)
    (hwo : WDo G F a)
    (c_G169_F_a_32 : G169.2.1 (F a 32) = G.2.1 (F a 32)) :
    (kw 7).length = 5 ∧ ∀ i : Nat, i < 5 → aI (G169.2.1 (F a 32)) (i : Int) = (kw 7).getD i 0 ∧ 0 ≤ (kw 7).getD i 0 ∧ (kw 7).getD i 0 ≤ 127 := by
  have hw := hwo.w (i := 7) (n := 5) (by decide) (by decide)
  rw [c_G169_F_a_32]
  exact hw
theorem v_X11_read_194_24 {F : Nat → Nat → Nat} (x11 : Int32) (G : XG) (a : Nat) (x169 : Int32) (x184 : Int32) (G184 : XG) (G169 : XG) (G_148 : XG)
    (oq11 : x11.toInt = (tkK (tM (G.2.1 (F a 35)) ((G.1 a 36).toInt)) (1, rn cBl (tM (G.2.1 (F a 35)) ((G.1 a 36).toInt)) 0)).1)
    (oq169 : x169.toInt = (tkW (tM (G.2.1 (F a 35)) ((G.1 a 36).toInt)) (kw 6) ((rS6 (tM (G.2.1 (F a 35)) ((G.1 a 36).toInt))).2)).1)
    (oq184 : x184.toInt = (tkW (tM (G.2.1 (F a 35)) ((G.1 a 36).toInt)) (kw 7) ((rS6 (tM (G.2.1 (F a 35)) ((G.1 a 36).toInt))).2)).1)
    (oq184a : RdM (tM (G.2.1 (F a 35)) ((G.1 a 36).toInt)) ((G.1 a 36).toInt) (tkW (tM (G.2.1 (F a 35)) ((G.1 a 36).toInt)) (kw 7) ((rS6 (tM (G.2.1 (F a 35)) ((G.1 a 36).toInt))).2)).2 ((G184.1 a 39).toInt) ((G184.1 a 37).toInt) ((G184.1 a 38).toInt))
    (t11 : 0 ≤ x11.toInt ∧ x11.toInt ≤ 5)
    (c157 : x11.toInt = (1 : Int))
    (t169 : 0 ≤ x169.toInt ∧ x169.toInt ≤ 1)
    (c172 : x169.toInt = 0)
    (t184 : 0 ≤ x184.toInt ∧ x184.toInt ≤ 1)
    (c187 : x184.toInt = 0)
    (d_G169_a_38 : G169.1 a 38 = G_148.1 a 38)
    (d_G169_a_39 : G169.1 a 39 = G_148.1 a 39)
    (d_G184_a_38 : G184.1 a 38 = G_148.1 a 38)
    (d_G184_a_39 : G184.1 a 39 = G_148.1 a 39) :
    RdM (tM (G.2.1 (F a 35)) ((G.1 a 36).toInt)) (G.1 a 36).toInt (rS7 (tM (G.2.1 (F a 35)) ((G.1 a 36).toInt))).2 ((G_148.1 a 39).toInt) ((G184.1 a 37).toInt) ((G_148.1 a 38).toInt) := by
  have k11 : (rS1 (tM (G.2.1 (F a 35)) ((G.1 a 36).toInt))).1 = x11.toInt := oq11.symm
  have e7 : rS7 (tM (G.2.1 (F a 35)) ((G.1 a 36).toInt)) = tkA (tM (G.2.1 (F a 35)) ((G.1 a 36).toInt)) (rS6 (tM (G.2.1 (F a 35)) ((G.1 a 36).toInt))).2 := if_pos (by rw [k11]; omega)
  (try rw [d_G169_a_38, d_G169_a_39] at oq169a)
  (try rw [d_G184_a_38, d_G184_a_39] at oq184a)
  have w6 : (tkW (tM (G.2.1 (F a 35)) ((G.1 a 36).toInt)) (kw 6) (rS6 (tM (G.2.1 (F a 35)) ((G.1 a 36).toInt))).2).1 ≠ 1 := by rw [← oq169]; omega
  have w7 : (tkW (tM (G.2.1 (F a 35)) ((G.1 a 36).toInt)) (kw 7) (rS6 (tM (G.2.1 (F a 35)) ((G.1 a 36).toInt))).2).1 ≠ 1 := by rw [← oq184]; omega
  rw [e7, tkA_c w6 w7]
  rw [tkW_n w7] at oq184a
  exact oq184a
theorem v_X11_read_194_25 {F : Nat → Nat → Nat} (x11 : Int32) (G : XG) (a : Nat) (x169 : Int32) (x184 : Int32)
    (oq11 : x11.toInt = (tkK (tM (G.2.1 (F a 35)) ((G.1 a 36).toInt)) (1, rn cBl (tM (G.2.1 (F a 35)) ((G.1 a 36).toInt)) 0)).1)
    (oq169 : x169.toInt = (tkW (tM (G.2.1 (F a 35)) ((G.1 a 36).toInt)) (kw 6) ((rS6 (tM (G.2.1 (F a 35)) ((G.1 a 36).toInt))).2)).1)
    (oq184 : x184.toInt = (tkW (tM (G.2.1 (F a 35)) ((G.1 a 36).toInt)) (kw 7) ((rS6 (tM (G.2.1 (F a 35)) ((G.1 a 36).toInt))).2)).1)
    (t11 : 0 ≤ x11.toInt ∧ x11.toInt ≤ 5)
    (c157 : x11.toInt = (1 : Int))
    (t169 : 0 ≤ x169.toInt ∧ x169.toInt ≤ 1)
    (c172 : x169.toInt = 0)
    (t184 : 0 ≤ x184.toInt ∧ x184.toInt ≤ 1)
    (c187 : x184.toInt = 0) :
    (0 : Int) = (rS7 (tM (G.2.1 (F a 35)) ((G.1 a 36).toInt))).1 := by
  have k11 : (rS1 (tM (G.2.1 (F a 35)) ((G.1 a 36).toInt))).1 = x11.toInt := oq11.symm
  have e7 : rS7 (tM (G.2.1 (F a 35)) ((G.1 a 36).toInt)) = tkA (tM (G.2.1 (F a 35)) ((G.1 a 36).toInt)) (rS6 (tM (G.2.1 (F a 35)) ((G.1 a 36).toInt))).2 := if_pos (by rw [k11]; omega)
  have w6 : (tkW (tM (G.2.1 (F a 35)) ((G.1 a 36).toInt)) (kw 6) (rS6 (tM (G.2.1 (F a 35)) ((G.1 a 36).toInt))).2).1 ≠ 1 := by rw [← oq169]; omega
  have w7 : (tkW (tM (G.2.1 (F a 35)) ((G.1 a 36).toInt)) (kw 7) (rS6 (tM (G.2.1 (F a 35)) ((G.1 a 36).toInt))).2).1 ≠ 1 := by rw [← oq184]; omega
  rw [e7, tkA_c w6 w7]
theorem v_X11_read_191_26 {F : Nat → Nat → Nat} (x11 : Int32) (G : XG) (a : Nat) (x169 : Int32) (x184 : Int32) (G184 : XG) (G169 : XG) (G_148 : XG)
    (oq11 : x11.toInt = (tkK (tM (G.2.1 (F a 35)) ((G.1 a 36).toInt)) (1, rn cBl (tM (G.2.1 (F a 35)) ((G.1 a 36).toInt)) 0)).1)
    (oq169 : x169.toInt = (tkW (tM (G.2.1 (F a 35)) ((G.1 a 36).toInt)) (kw 6) ((rS6 (tM (G.2.1 (F a 35)) ((G.1 a 36).toInt))).2)).1)
    (oq184 : x184.toInt = (tkW (tM (G.2.1 (F a 35)) ((G.1 a 36).toInt)) (kw 7) ((rS6 (tM (G.2.1 (F a 35)) ((G.1 a 36).toInt))).2)).1)
    (oq184a : RdM (tM (G.2.1 (F a 35)) ((G.1 a 36).toInt)) ((G.1 a 36).toInt) (tkW (tM (G.2.1 (F a 35)) ((G.1 a 36).toInt)) (kw 7) ((rS6 (tM (G.2.1 (F a 35)) ((G.1 a 36).toInt))).2)).2 ((G184.1 a 39).toInt) ((G184.1 a 37).toInt) ((G184.1 a 38).toInt))
    (t11 : 0 ≤ x11.toInt ∧ x11.toInt ≤ 5)
    (c157 : x11.toInt = (1 : Int))
    (t169 : 0 ≤ x169.toInt ∧ x169.toInt ≤ 1)
    (c172 : x169.toInt = 0)
    (t184 : 0 ≤ x184.toInt ∧ x184.toInt ≤ 1)
    (c187 : ¬ (x184.toInt = 0))
    (d_G169_a_38 : G169.1 a 38 = G_148.1 a 38)
    (d_G169_a_39 : G169.1 a 39 = G_148.1 a 39)
    (d_G184_a_38 : G184.1 a 38 = G_148.1 a 38)
    (d_G184_a_39 : G184.1 a 39 = G_148.1 a 39) :
    RdM (tM (G.2.1 (F a 35)) ((G.1 a 36).toInt)) (G.1 a 36).toInt (rS7 (tM (G.2.1 (F a 35)) ((G.1 a 36).toInt))).2 ((G_148.1 a 39).toInt) ((G184.1 a 37).toInt) ((G_148.1 a 38).toInt) := by
  have k11 : (rS1 (tM (G.2.1 (F a 35)) ((G.1 a 36).toInt))).1 = x11.toInt := oq11.symm
  have e7 : rS7 (tM (G.2.1 (F a 35)) ((G.1 a 36).toInt)) = tkA (tM (G.2.1 (F a 35)) ((G.1 a 36).toInt)) (rS6 (tM (G.2.1 (F a 35)) ((G.1 a 36).toInt))).2 := if_pos (by rw [k11]; omega)
  (try rw [d_G169_a_38, d_G169_a_39] at oq169a)
  (try rw [d_G184_a_38, d_G184_a_39] at oq184a)
  have w6 : (tkW (tM (G.2.1 (F a 35)) ((G.1 a 36).toInt)) (kw 6) (rS6 (tM (G.2.1 (F a 35)) ((G.1 a 36).toInt))).2).1 ≠ 1 := by rw [← oq169]; omega
  rw [e7, tkA_b w6 (by rw [← oq184]; omega)]
  exact oq184a
theorem v_X11_read_191_27 {F : Nat → Nat → Nat} (x11 : Int32) (G : XG) (a : Nat) (x169 : Int32) (x184 : Int32)
    (oq11 : x11.toInt = (tkK (tM (G.2.1 (F a 35)) ((G.1 a 36).toInt)) (1, rn cBl (tM (G.2.1 (F a 35)) ((G.1 a 36).toInt)) 0)).1)
    (oq169 : x169.toInt = (tkW (tM (G.2.1 (F a 35)) ((G.1 a 36).toInt)) (kw 6) ((rS6 (tM (G.2.1 (F a 35)) ((G.1 a 36).toInt))).2)).1)
    (oq184 : x184.toInt = (tkW (tM (G.2.1 (F a 35)) ((G.1 a 36).toInt)) (kw 7) ((rS6 (tM (G.2.1 (F a 35)) ((G.1 a 36).toInt))).2)).1)
    (t11 : 0 ≤ x11.toInt ∧ x11.toInt ≤ 5)
    (c157 : x11.toInt = (1 : Int))
    (t169 : 0 ≤ x169.toInt ∧ x169.toInt ≤ 1)
    (c172 : x169.toInt = 0)
    (t184 : 0 ≤ x184.toInt ∧ x184.toInt ≤ 1)
    (c187 : ¬ (x184.toInt = 0)) :
    (2 : Int) = (rS7 (tM (G.2.1 (F a 35)) ((G.1 a 36).toInt))).1 := by
  have k11 : (rS1 (tM (G.2.1 (F a 35)) ((G.1 a 36).toInt))).1 = x11.toInt := oq11.symm
  have e7 : rS7 (tM (G.2.1 (F a 35)) ((G.1 a 36).toInt)) = tkA (tM (G.2.1 (F a 35)) ((G.1 a 36).toInt)) (rS6 (tM (G.2.1 (F a 35)) ((G.1 a 36).toInt))).2 := if_pos (by rw [k11]; omega)
  have w6 : (tkW (tM (G.2.1 (F a 35)) ((G.1 a 36).toInt)) (kw 6) (rS6 (tM (G.2.1 (F a 35)) ((G.1 a 36).toInt))).2).1 ≠ 1 := by rw [← oq169]; omega
  rw [e7, tkA_b w6 (by rw [← oq184]; omega)]
theorem v_X11_read_176_28 {F : Nat → Nat → Nat} (x11 : Int32) (G : XG) (a : Nat) (x169 : Int32) (G169 : XG) (G_148 : XG)
    (oq11 : x11.toInt = (tkK (tM (G.2.1 (F a 35)) ((G.1 a 36).toInt)) (1, rn cBl (tM (G.2.1 (F a 35)) ((G.1 a 36).toInt)) 0)).1)
    (oq169 : x169.toInt = (tkW (tM (G.2.1 (F a 35)) ((G.1 a 36).toInt)) (kw 6) ((rS6 (tM (G.2.1 (F a 35)) ((G.1 a 36).toInt))).2)).1)
    (oq169a : RdM (tM (G.2.1 (F a 35)) ((G.1 a 36).toInt)) ((G.1 a 36).toInt) (tkW (tM (G.2.1 (F a 35)) ((G.1 a 36).toInt)) (kw 6) ((rS6 (tM (G.2.1 (F a 35)) ((G.1 a 36).toInt))).2)).2 ((G169.1 a 39).toInt) ((G169.1 a 37).toInt) ((G169.1 a 38).toInt))
    (t11 : 0 ≤ x11.toInt ∧ x11.toInt ≤ 5)
    (c157 : x11.toInt = (1 : Int))
    (t169 : 0 ≤ x169.toInt ∧ x169.toInt ≤ 1)
    (c172 : ¬ (x169.toInt = 0))
    (d_G169_a_38 : G169.1 a 38 = G_148.1 a 38)
    (d_G169_a_39 : G169.1 a 39 = G_148.1 a 39) :
    RdM (tM (G.2.1 (F a 35)) ((G.1 a 36).toInt)) (G.1 a 36).toInt (rS7 (tM (G.2.1 (F a 35)) ((G.1 a 36).toInt))).2 ((G_148.1 a 39).toInt) ((G169.1 a 37).toInt) ((G_148.1 a 38).toInt) := by
  have k11 : (rS1 (tM (G.2.1 (F a 35)) ((G.1 a 36).toInt))).1 = x11.toInt := oq11.symm
  have e7 : rS7 (tM (G.2.1 (F a 35)) ((G.1 a 36).toInt)) = tkA (tM (G.2.1 (F a 35)) ((G.1 a 36).toInt)) (rS6 (tM (G.2.1 (F a 35)) ((G.1 a 36).toInt))).2 := if_pos (by rw [k11]; omega)
  (try rw [d_G169_a_38, d_G169_a_39] at oq169a)
  (try rw [d_G184_a_38, d_G184_a_39] at oq184a)
  rw [e7, tkA_a (by rw [← oq169]; omega)]
  exact oq169a
theorem v_X11_read_176_29 {F : Nat → Nat → Nat} (x11 : Int32) (G : XG) (a : Nat) (x169 : Int32)
    (oq11 : x11.toInt = (tkK (tM (G.2.1 (F a 35)) ((G.1 a 36).toInt)) (1, rn cBl (tM (G.2.1 (F a 35)) ((G.1 a 36).toInt)) 0)).1)
    (oq169 : x169.toInt = (tkW (tM (G.2.1 (F a 35)) ((G.1 a 36).toInt)) (kw 6) ((rS6 (tM (G.2.1 (F a 35)) ((G.1 a 36).toInt))).2)).1)
    (t11 : 0 ≤ x11.toInt ∧ x11.toInt ≤ 5)
    (c157 : x11.toInt = (1 : Int))
    (t169 : 0 ≤ x169.toInt ∧ x169.toInt ≤ 1)
    (c172 : ¬ (x169.toInt = 0)) :
    (1 : Int) = (rS7 (tM (G.2.1 (F a 35)) ((G.1 a 36).toInt))).1 := by
  have k11 : (rS1 (tM (G.2.1 (F a 35)) ((G.1 a 36).toInt))).1 = x11.toInt := oq11.symm
  have e7 : rS7 (tM (G.2.1 (F a 35)) ((G.1 a 36).toInt)) = tkA (tM (G.2.1 (F a 35)) ((G.1 a 36).toInt)) (rS6 (tM (G.2.1 (F a 35)) ((G.1 a 36).toInt))).2 := if_pos (by rw [k11]; omega)
  rw [e7, tkA_a (by rw [← oq169]; omega)]
theorem v_X11_read_161_30 {F : Nat → Nat → Nat} (x11 : Int32) (G : XG) (a : Nat) (G_148 : XG)
    (oq11 : x11.toInt = (tkK (tM (G.2.1 (F a 35)) ((G.1 a 36).toInt)) (1, rn cBl (tM (G.2.1 (F a 35)) ((G.1 a 36).toInt)) 0)).1)
    (rd6 : RdM (tM (G.2.1 (F a 35)) ((G.1 a 36).toInt)) (G.1 a 36).toInt (rS6 (tM (G.2.1 (F a 35)) ((G.1 a 36).toInt))).2 ((G_148.1 a 39).toInt) ((G_148.1 a 37).toInt) ((G_148.1 a 38).toInt))
    (t11 : 0 ≤ x11.toInt ∧ x11.toInt ≤ 5)
    (c157 : ¬ (x11.toInt = (1 : Int))) :
    RdM (tM (G.2.1 (F a 35)) ((G.1 a 36).toInt)) (G.1 a 36).toInt (rS7 (tM (G.2.1 (F a 35)) ((G.1 a 36).toInt))).2 ((G_148.1 a 39).toInt) ((G_148.1 a 37).toInt) ((G_148.1 a 38).toInt) := by
  have k11 : (rS1 (tM (G.2.1 (F a 35)) ((G.1 a 36).toInt))).1 = x11.toInt := oq11.symm
  have e7 : rS7 (tM (G.2.1 (F a 35)) ((G.1 a 36).toInt)) = (0, (rS6 (tM (G.2.1 (F a 35)) ((G.1 a 36).toInt))).2) := if_neg (by rw [k11]; omega)
  rw [e7]
  exact rd6
theorem v_X11_read_161_31 {F : Nat → Nat → Nat} (x11 : Int32) (G : XG) (a : Nat)
    (oq11 : x11.toInt = (tkK (tM (G.2.1 (F a 35)) ((G.1 a 36).toInt)) (1, rn cBl (tM (G.2.1 (F a 35)) ((G.1 a 36).toInt)) 0)).1)
    (t11 : 0 ≤ x11.toInt ∧ x11.toInt ≤ 5)
    (c157 : ¬ (x11.toInt = (1 : Int))) :
    (0 : Int) = (rS7 (tM (G.2.1 (F a 35)) ((G.1 a 36).toInt))).1 := by
  have k11 : (rS1 (tM (G.2.1 (F a 35)) ((G.1 a 36).toInt))).1 = x11.toInt := oq11.symm
  have e7 : rS7 (tM (G.2.1 (F a 35)) ((G.1 a 36).toInt)) = (0, (rS6 (tM (G.2.1 (F a 35)) ((G.1 a 36).toInt))).2) := if_neg (by rw [k11]; omega)
  rw [e7]
theorem v_X11_read_147_32 {F : Nat → Nat → Nat} (x11 : Int32) (G : XG) (a : Nat) (G_121 : XG) (k_97 : Int32)
    (oq11 : x11.toInt = (tkK (tM (G.2.1 (F a 35)) ((G.1 a 36).toInt)) (1, rn cBl (tM (G.2.1 (F a 35)) ((G.1 a 36).toInt)) 0)).1)
    (rd5 : RdM (tM (G.2.1 (F a 35)) ((G.1 a 36).toInt)) (G.1 a 36).toInt (rS5 (tM (G.2.1 (F a 35)) ((G.1 a 36).toInt))).2 ((G_121.1 a 39).toInt) ((G_121.1 a 37).toInt) ((G_121.1 a 38).toInt))
    (t11 : 0 ≤ x11.toInt ∧ x11.toInt ≤ 5)
    (I97_0 : (k_97.toInt = 1 ∧ (x11.toInt = 2 ∨ x11.toInt = 3 ∨ x11.toInt = 4)) ∨ (k_97.toInt = 0 ∧ ¬ (x11.toInt = 2 ∨ x11.toInt = 3 ∨ x11.toInt = 4)))
    (c128 : k_97.toInt = 0) :
    RdM (tM (G.2.1 (F a 35)) ((G.1 a 36).toInt)) (G.1 a 36).toInt (rS6 (tM (G.2.1 (F a 35)) ((G.1 a 36).toInt))).2 ((G_121.1 a 39).toInt) ((G_121.1 a 37).toInt) ((G_121.1 a 38).toInt) := by
  have k11 : (rS1 (tM (G.2.1 (F a 35)) ((G.1 a 36).toInt))).1 = x11.toInt := oq11.symm
  have e6 : rS6 (tM (G.2.1 (F a 35)) ((G.1 a 36).toInt)) = (0, (rS5 (tM (G.2.1 (F a 35)) ((G.1 a 36).toInt))).2) := if_neg (by rw [k11]; omega)
  rw [e6]
  exact rd5
theorem v_X11_read_147_33 {F : Nat → Nat → Nat} (x11 : Int32) (G : XG) (a : Nat) (k_97 : Int32)
    (oq11 : x11.toInt = (tkK (tM (G.2.1 (F a 35)) ((G.1 a 36).toInt)) (1, rn cBl (tM (G.2.1 (F a 35)) ((G.1 a 36).toInt)) 0)).1)
    (t11 : 0 ≤ x11.toInt ∧ x11.toInt ≤ 5)
    (I97_0 : (k_97.toInt = 1 ∧ (x11.toInt = 2 ∨ x11.toInt = 3 ∨ x11.toInt = 4)) ∨ (k_97.toInt = 0 ∧ ¬ (x11.toInt = 2 ∨ x11.toInt = 3 ∨ x11.toInt = 4)))
    (c128 : k_97.toInt = 0) :
    (0 : Int) = (rS6 (tM (G.2.1 (F a 35)) ((G.1 a 36).toInt))).1 := by
  have k11 : (rS1 (tM (G.2.1 (F a 35)) ((G.1 a 36).toInt))).1 = x11.toInt := oq11.symm
  have e6 : rS6 (tM (G.2.1 (F a 35)) ((G.1 a 36).toInt)) = (0, (rS5 (tM (G.2.1 (F a 35)) ((G.1 a 36).toInt))).2) := if_neg (by rw [k11]; omega)
  rw [e6]
theorem v_X11_read_141_34 {F : Nat → Nat → Nat} (G : XG) (a : Nat) (G_121 : XG) (G121 : XG)
    (rd5 : RdM (tM (G.2.1 (F a 35)) ((G.1 a 36).toInt)) (G.1 a 36).toInt (rS5 (tM (G.2.1 (F a 35)) ((G.1 a 36).toInt))).2 ((G_121.1 a 39).toInt) ((G_121.1 a 37).toInt) ((G_121.1 a 38).toInt))
    (c_G121_F_a_35 : G121.2.1 (F a 35) = G.2.1 (F a 35))
    (d_G121_a_36 : G121.1 a 36 = G.1 a 36)
    (d_G121_a_37 : G121.1 a 37 = G_121.1 a 37)
    (d_G121_a_38 : G121.1 a 38 = G_121.1 a 38)
    (d_G121_a_39 : G121.1 a 39 = G_121.1 a 39) :
    RdM (tM (G121.2.1 (F a 35)) ((G121.1 a 36).toInt)) ((G121.1 a 36).toInt) ((rS5 (tM (G.2.1 (F a 35)) ((G.1 a 36).toInt))).2) ((G121.1 a 39).toInt) ((G121.1 a 37).toInt) ((G121.1 a 38).toInt) := by
  (try rw [c_G121_F_a_35])
  (try rw [d_G121_a_36])
  (try rw [d_G121_a_37])
  (try rw [d_G121_a_38])
  (try rw [d_G121_a_39])
  exact rd5
theorem v_X11_read_144_35 {F : Nat → Nat → Nat} (G121 : XG) (G_121 : XG) (a : Nat) (k_121 : Int32) (x11 : Int32) (G : XG) (G141 : XG) (k_97 : Int32)
    (hG121 : G121 = cput G_121 (F a 40) (4 : Int32).toNatClampNeg k_121)
    (oq11 : x11.toInt = (tkK (tM (G.2.1 (F a 35)) ((G.1 a 36).toInt)) (1, rn cBl (tM (G.2.1 (F a 35)) ((G.1 a 36).toInt)) 0)).1)
    (f5 : k_121.toInt = (rS5 (tM (G.2.1 (F a 35)) ((G.1 a 36).toInt))).1)
    (oq141a : RdM (tM (G.2.1 (F a 35)) ((G.1 a 36).toInt)) ((G.1 a 36).toInt) (tkN (tM (G.2.1 (F a 35)) ((G.1 a 36).toInt)) (aI (G121.2.1 (F a 40)) 4) (9999 : Int) ((rS5 (tM (G.2.1 (F a 35)) ((G.1 a 36).toInt))).2)).2 ((G141.1 a 39).toInt) ((G141.1 a 37).toInt) ((G141.1 a 38).toInt))
    (t11 : 0 ≤ x11.toInt ∧ x11.toInt ≤ 5)
    (I97_0 : (k_97.toInt = 1 ∧ (x11.toInt = 2 ∨ x11.toInt = 3 ∨ x11.toInt = 4)) ∨ (k_97.toInt = 0 ∧ ¬ (x11.toInt = 2 ∨ x11.toInt = 3 ∨ x11.toInt = 4)))
    (c128 : ¬ (k_97.toInt = 0)) :
    RdM (tM (G.2.1 (F a 35)) ((G.1 a 36).toInt)) (G.1 a 36).toInt (rS6 (tM (G.2.1 (F a 35)) ((G.1 a 36).toInt))).2 ((G141.1 a 39).toInt) ((G141.1 a 37).toInt) ((G141.1 a 38).toInt) := by
  have k11 : (rS1 (tM (G.2.1 (F a 35)) ((G.1 a 36).toInt))).1 = x11.toInt := oq11.symm
  have e6 : rS6 (tM (G.2.1 (F a 35)) ((G.1 a 36).toInt)) = tkN (tM (G.2.1 (F a 35)) ((G.1 a 36).toInt)) (rS5 (tM (G.2.1 (F a 35)) ((G.1 a 36).toInt))).1 9999 (rS5 (tM (G.2.1 (F a 35)) ((G.1 a 36).toInt))).2 := if_pos (by rw [k11]; omega)
  rw [e6]
  rw [show aI (G121.2.1 (F a 40)) 4 = (rS5 (tM (G.2.1 (F a 35)) ((G.1 a 36).toInt))).1 from by rw [← f5]; exact (by have u := aI_pu hG121 rfl (show ((4 : Int32)).toInt = 4 from by decide) rfl (by decide) 4 (by decide); rw [if_pos rfl] at u; exact u)] at oq141a
  exact oq141a
theorem v_X11_read_144_36 {F : Nat → Nat → Nat} (G121 : XG) (G_121 : XG) (a : Nat) (k_121 : Int32) (x11 : Int32) (G : XG) (x141 : Int32) (k_97 : Int32)
    (hG121 : G121 = cput G_121 (F a 40) (4 : Int32).toNatClampNeg k_121)
    (oq11 : x11.toInt = (tkK (tM (G.2.1 (F a 35)) ((G.1 a 36).toInt)) (1, rn cBl (tM (G.2.1 (F a 35)) ((G.1 a 36).toInt)) 0)).1)
    (f5 : k_121.toInt = (rS5 (tM (G.2.1 (F a 35)) ((G.1 a 36).toInt))).1)
    (oq141 : x141.toInt = (tkN (tM (G.2.1 (F a 35)) ((G.1 a 36).toInt)) (aI (G121.2.1 (F a 40)) 4) (9999 : Int) ((rS5 (tM (G.2.1 (F a 35)) ((G.1 a 36).toInt))).2)).1)
    (t11 : 0 ≤ x11.toInt ∧ x11.toInt ≤ 5)
    (I97_0 : (k_97.toInt = 1 ∧ (x11.toInt = 2 ∨ x11.toInt = 3 ∨ x11.toInt = 4)) ∨ (k_97.toInt = 0 ∧ ¬ (x11.toInt = 2 ∨ x11.toInt = 3 ∨ x11.toInt = 4)))
    (c128 : ¬ (k_97.toInt = 0)) :
    x141.toInt = (rS6 (tM (G.2.1 (F a 35)) ((G.1 a 36).toInt))).1 := by
  have k11 : (rS1 (tM (G.2.1 (F a 35)) ((G.1 a 36).toInt))).1 = x11.toInt := oq11.symm
  have e6 : rS6 (tM (G.2.1 (F a 35)) ((G.1 a 36).toInt)) = tkN (tM (G.2.1 (F a 35)) ((G.1 a 36).toInt)) (rS5 (tM (G.2.1 (F a 35)) ((G.1 a 36).toInt))).1 9999 (rS5 (tM (G.2.1 (F a 35)) ((G.1 a 36).toInt))).2 := if_pos (by rw [k11]; omega)
  rw [e6]
  rw [show aI (G121.2.1 (F a 40)) 4 = (rS5 (tM (G.2.1 (F a 35)) ((G.1 a 36).toInt))).1 from by rw [← f5]; exact (by have u := aI_pu hG121 rfl (show ((4 : Int32)).toInt = 4 from by decide) rfl (by decide) 4 (by decide); rw [if_pos rfl] at u; exact u)] at oq141
  exact oq141
theorem v_X11_read_120_37 {F : Nat → Nat → Nat} (x11 : Int32) (G : XG) (a : Nat) (G_76 : XG) (k_97 : Int32)
    (oq11 : x11.toInt = (tkK (tM (G.2.1 (F a 35)) ((G.1 a 36).toInt)) (1, rn cBl (tM (G.2.1 (F a 35)) ((G.1 a 36).toInt)) 0)).1)
    (rd4 : RdM (tM (G.2.1 (F a 35)) ((G.1 a 36).toInt)) (G.1 a 36).toInt (rS4 (tM (G.2.1 (F a 35)) ((G.1 a 36).toInt))).2 ((G_76.1 a 39).toInt) ((G_76.1 a 37).toInt) ((G_76.1 a 38).toInt))
    (t11 : 0 ≤ x11.toInt ∧ x11.toInt ≤ 5)
    (I97_0 : (k_97.toInt = 1 ∧ (x11.toInt = 2 ∨ x11.toInt = 3 ∨ x11.toInt = 4)) ∨ (k_97.toInt = 0 ∧ ¬ (x11.toInt = 2 ∨ x11.toInt = 3 ∨ x11.toInt = 4)))
    (c104 : k_97.toInt = 0) :
    RdM (tM (G.2.1 (F a 35)) ((G.1 a 36).toInt)) (G.1 a 36).toInt (rS5 (tM (G.2.1 (F a 35)) ((G.1 a 36).toInt))).2 ((G_76.1 a 39).toInt) ((G_76.1 a 37).toInt) ((G_76.1 a 38).toInt) := by
  have k11 : (rS1 (tM (G.2.1 (F a 35)) ((G.1 a 36).toInt))).1 = x11.toInt := oq11.symm
  have e5 : rS5 (tM (G.2.1 (F a 35)) ((G.1 a 36).toInt)) = (0, (rS4 (tM (G.2.1 (F a 35)) ((G.1 a 36).toInt))).2) := if_neg (by rw [k11]; omega)
  rw [e5]
  exact rd4
theorem v_X11_read_120_38 {F : Nat → Nat → Nat} (x11 : Int32) (G : XG) (a : Nat) (k_97 : Int32)
    (oq11 : x11.toInt = (tkK (tM (G.2.1 (F a 35)) ((G.1 a 36).toInt)) (1, rn cBl (tM (G.2.1 (F a 35)) ((G.1 a 36).toInt)) 0)).1)
    (t11 : 0 ≤ x11.toInt ∧ x11.toInt ≤ 5)
    (I97_0 : (k_97.toInt = 1 ∧ (x11.toInt = 2 ∨ x11.toInt = 3 ∨ x11.toInt = 4)) ∨ (k_97.toInt = 0 ∧ ¬ (x11.toInt = 2 ∨ x11.toInt = 3 ∨ x11.toInt = 4)))
    (c104 : k_97.toInt = 0) :
    (0 : Int) = (rS5 (tM (G.2.1 (F a 35)) ((G.1 a 36).toInt))).1 := by
  have k11 : (rS1 (tM (G.2.1 (F a 35)) ((G.1 a 36).toInt))).1 = x11.toInt := oq11.symm
  have e5 : rS5 (tM (G.2.1 (F a 35)) ((G.1 a 36).toInt)) = (0, (rS4 (tM (G.2.1 (F a 35)) ((G.1 a 36).toInt))).2) := if_neg (by rw [k11]; omega)
  rw [e5]
theorem v_X11_read_114_39 {F : Nat → Nat → Nat} (G : XG) (a : Nat) (G_76 : XG) (G76 : XG)
    (rd4 : RdM (tM (G.2.1 (F a 35)) ((G.1 a 36).toInt)) (G.1 a 36).toInt (rS4 (tM (G.2.1 (F a 35)) ((G.1 a 36).toInt))).2 ((G_76.1 a 39).toInt) ((G_76.1 a 37).toInt) ((G_76.1 a 38).toInt))
    (c_G76_F_a_35 : G76.2.1 (F a 35) = G.2.1 (F a 35))
    (d_G76_a_36 : G76.1 a 36 = G.1 a 36)
    (d_G76_a_37 : G76.1 a 37 = G_76.1 a 37)
    (d_G76_a_38 : G76.1 a 38 = G_76.1 a 38)
    (d_G76_a_39 : G76.1 a 39 = G_76.1 a 39) :
    RdM (tM (G76.2.1 (F a 35)) ((G76.1 a 36).toInt)) ((G76.1 a 36).toInt) ((rS4 (tM (G.2.1 (F a 35)) ((G.1 a 36).toInt))).2) ((G76.1 a 39).toInt) ((G76.1 a 37).toInt) ((G76.1 a 38).toInt) := by
  (try rw [c_G76_F_a_35])
  (try rw [d_G76_a_36])
  (try rw [d_G76_a_37])
  (try rw [d_G76_a_38])
  (try rw [d_G76_a_39])
  exact rd4
theorem v_X11_read_117_40 {F : Nat → Nat → Nat} (x11 : Int32) (G : XG) (a : Nat) (G114 : XG) (k_97 : Int32)
    (oq11 : x11.toInt = (tkK (tM (G.2.1 (F a 35)) ((G.1 a 36).toInt)) (1, rn cBl (tM (G.2.1 (F a 35)) ((G.1 a 36).toInt)) 0)).1)
    (oq114a : RdM (tM (G.2.1 (F a 35)) ((G.1 a 36).toInt)) ((G.1 a 36).toInt) (tkN (tM (G.2.1 (F a 35)) ((G.1 a 36).toInt)) (-9999 : Int) (9999 : Int) ((rS4 (tM (G.2.1 (F a 35)) ((G.1 a 36).toInt))).2)).2 ((G114.1 a 39).toInt) ((G114.1 a 37).toInt) ((G114.1 a 38).toInt))
    (t11 : 0 ≤ x11.toInt ∧ x11.toInt ≤ 5)
    (I97_0 : (k_97.toInt = 1 ∧ (x11.toInt = 2 ∨ x11.toInt = 3 ∨ x11.toInt = 4)) ∨ (k_97.toInt = 0 ∧ ¬ (x11.toInt = 2 ∨ x11.toInt = 3 ∨ x11.toInt = 4)))
    (c104 : ¬ (k_97.toInt = 0)) :
    RdM (tM (G.2.1 (F a 35)) ((G.1 a 36).toInt)) (G.1 a 36).toInt (rS5 (tM (G.2.1 (F a 35)) ((G.1 a 36).toInt))).2 ((G114.1 a 39).toInt) ((G114.1 a 37).toInt) ((G114.1 a 38).toInt) := by
  have k11 : (rS1 (tM (G.2.1 (F a 35)) ((G.1 a 36).toInt))).1 = x11.toInt := oq11.symm
  have e5 : rS5 (tM (G.2.1 (F a 35)) ((G.1 a 36).toInt)) = tkN (tM (G.2.1 (F a 35)) ((G.1 a 36).toInt)) (-9999) 9999 (rS4 (tM (G.2.1 (F a 35)) ((G.1 a 36).toInt))).2 := if_pos (by rw [k11]; omega)
  rw [e5]
  exact oq114a
theorem v_X11_read_117_41 {F : Nat → Nat → Nat} (x11 : Int32) (G : XG) (a : Nat) (x114 : Int32) (k_97 : Int32)
    (oq11 : x11.toInt = (tkK (tM (G.2.1 (F a 35)) ((G.1 a 36).toInt)) (1, rn cBl (tM (G.2.1 (F a 35)) ((G.1 a 36).toInt)) 0)).1)
    (oq114 : x114.toInt = (tkN (tM (G.2.1 (F a 35)) ((G.1 a 36).toInt)) (-9999 : Int) (9999 : Int) ((rS4 (tM (G.2.1 (F a 35)) ((G.1 a 36).toInt))).2)).1)
    (t11 : 0 ≤ x11.toInt ∧ x11.toInt ≤ 5)
    (I97_0 : (k_97.toInt = 1 ∧ (x11.toInt = 2 ∨ x11.toInt = 3 ∨ x11.toInt = 4)) ∨ (k_97.toInt = 0 ∧ ¬ (x11.toInt = 2 ∨ x11.toInt = 3 ∨ x11.toInt = 4)))
    (c104 : ¬ (k_97.toInt = 0)) :
    x114.toInt = (rS5 (tM (G.2.1 (F a 35)) ((G.1 a 36).toInt))).1 := by
  have k11 : (rS1 (tM (G.2.1 (F a 35)) ((G.1 a 36).toInt))).1 = x11.toInt := oq11.symm
  have e5 : rS5 (tM (G.2.1 (F a 35)) ((G.1 a 36).toInt)) = tkN (tM (G.2.1 (F a 35)) ((G.1 a 36).toInt)) (-9999) 9999 (rS4 (tM (G.2.1 (F a 35)) ((G.1 a 36).toInt))).2 := if_pos (by rw [k11]; omega)
  rw [e5]
  exact oq114
theorem v_X11_read_69_42 {F : Nat → Nat → Nat} (G : XG) (a : Nat) (G42 : XG) (G45 : XG)
    (oq42a : RdM (tM (G.2.1 (F a 35)) ((G.1 a 36).toInt)) ((G.1 a 36).toInt) (tkN (tM (G.2.1 (F a 35)) ((G.1 a 36).toInt)) (0 : Int) (2 : Int) ((rS2 (tM (G.2.1 (F a 35)) ((G.1 a 36).toInt))).2)).2 ((G42.1 a 39).toInt) ((G42.1 a 37).toInt) ((G42.1 a 38).toInt))
    (c_G45_F_a_35 : G45.2.1 (F a 35) = G.2.1 (F a 35))
    (d_G45_a_36 : G45.1 a 36 = G.1 a 36)
    (d_G45_a_37 : G45.1 a 37 = G42.1 a 37)
    (d_G45_a_38 : G45.1 a 38 = G42.1 a 38)
    (d_G45_a_39 : G45.1 a 39 = G42.1 a 39) :
    RdM (tM (G45.2.1 (F a 35)) ((G45.1 a 36).toInt)) ((G45.1 a 36).toInt) ((rS3 (tM (G.2.1 (F a 35)) ((G.1 a 36).toInt))).2) ((G45.1 a 39).toInt) ((G45.1 a 37).toInt) ((G45.1 a 38).toInt) := by
  (try rw [c_G45_F_a_35])
  (try rw [d_G45_a_36])
  (try rw [d_G45_a_37])
  (try rw [d_G45_a_38])
  (try rw [d_G45_a_39])
  exact oq42a
theorem v_X11_read_72_43 {F : Nat → Nat → Nat} (x11 : Int32) (G : XG) (a : Nat) (G69 : XG)
    (oq11 : x11.toInt = (tkK (tM (G.2.1 (F a 35)) ((G.1 a 36).toInt)) (1, rn cBl (tM (G.2.1 (F a 35)) ((G.1 a 36).toInt)) 0)).1)
    (oq69a : RdM (tM (G.2.1 (F a 35)) ((G.1 a 36).toInt)) ((G.1 a 36).toInt) (tkN (tM (G.2.1 (F a 35)) ((G.1 a 36).toInt)) (0 : Int) (2 : Int) ((rS3 (tM (G.2.1 (F a 35)) ((G.1 a 36).toInt))).2)).2 ((G69.1 a 39).toInt) ((G69.1 a 37).toInt) ((G69.1 a 38).toInt))
    (t11 : 0 ≤ x11.toInt ∧ x11.toInt ≤ 5)
    (I66_0 : x11.toInt = 1 ∨ x11.toInt = 3 ∨ x11.toInt = 4) :
    RdM (tM (G.2.1 (F a 35)) ((G.1 a 36).toInt)) (G.1 a 36).toInt (rS4 (tM (G.2.1 (F a 35)) ((G.1 a 36).toInt))).2 ((G69.1 a 39).toInt) ((G69.1 a 37).toInt) ((G69.1 a 38).toInt) := by
  have k11 : (rS1 (tM (G.2.1 (F a 35)) ((G.1 a 36).toInt))).1 = x11.toInt := oq11.symm
  have e4 : rS4 (tM (G.2.1 (F a 35)) ((G.1 a 36).toInt)) = tkN (tM (G.2.1 (F a 35)) ((G.1 a 36).toInt)) 0 2 (rS3 (tM (G.2.1 (F a 35)) ((G.1 a 36).toInt))).2 := if_pos (by rw [k11]; omega)
  rw [e4]
  exact oq69a
theorem v_X11_read_72_44 {F : Nat → Nat → Nat} (x11 : Int32) (G : XG) (a : Nat) (x69 : Int32)
    (oq11 : x11.toInt = (tkK (tM (G.2.1 (F a 35)) ((G.1 a 36).toInt)) (1, rn cBl (tM (G.2.1 (F a 35)) ((G.1 a 36).toInt)) 0)).1)
    (oq69 : x69.toInt = (tkN (tM (G.2.1 (F a 35)) ((G.1 a 36).toInt)) (0 : Int) (2 : Int) ((rS3 (tM (G.2.1 (F a 35)) ((G.1 a 36).toInt))).2)).1)
    (t11 : 0 ≤ x11.toInt ∧ x11.toInt ≤ 5)
    (I66_0 : x11.toInt = 1 ∨ x11.toInt = 3 ∨ x11.toInt = 4) :
    x69.toInt = (rS4 (tM (G.2.1 (F a 35)) ((G.1 a 36).toInt))).1 := by
  have k11 : (rS1 (tM (G.2.1 (F a 35)) ((G.1 a 36).toInt))).1 = x11.toInt := oq11.symm
  have e4 : rS4 (tM (G.2.1 (F a 35)) ((G.1 a 36).toInt)) = tkN (tM (G.2.1 (F a 35)) ((G.1 a 36).toInt)) 0 2 (rS3 (tM (G.2.1 (F a 35)) ((G.1 a 36).toInt))).2 := if_pos (by rw [k11]; omega)
  rw [e4]
  exact oq69
theorem v_X11_read_75_45 {F : Nat → Nat → Nat} (x11 : Int32) (G : XG) (a : Nat) (G42 : XG)
    (oq11 : x11.toInt = (tkK (tM (G.2.1 (F a 35)) ((G.1 a 36).toInt)) (1, rn cBl (tM (G.2.1 (F a 35)) ((G.1 a 36).toInt)) 0)).1)
    (oq42a : RdM (tM (G.2.1 (F a 35)) ((G.1 a 36).toInt)) ((G.1 a 36).toInt) (tkN (tM (G.2.1 (F a 35)) ((G.1 a 36).toInt)) (0 : Int) (2 : Int) ((rS2 (tM (G.2.1 (F a 35)) ((G.1 a 36).toInt))).2)).2 ((G42.1 a 39).toInt) ((G42.1 a 37).toInt) ((G42.1 a 38).toInt))
    (t11 : 0 ≤ x11.toInt ∧ x11.toInt ≤ 5)
    (c53 : ¬ (x11.toInt = (1 : Int)))
    (c58 : ¬ (x11.toInt = (3 : Int)))
    (c63 : x11.toInt ≠ (4 : Int)) :
    RdM (tM (G.2.1 (F a 35)) ((G.1 a 36).toInt)) (G.1 a 36).toInt (rS4 (tM (G.2.1 (F a 35)) ((G.1 a 36).toInt))).2 ((G42.1 a 39).toInt) ((G42.1 a 37).toInt) ((G42.1 a 38).toInt) := by
  have k11 : (rS1 (tM (G.2.1 (F a 35)) ((G.1 a 36).toInt))).1 = x11.toInt := oq11.symm
  have e4 : rS4 (tM (G.2.1 (F a 35)) ((G.1 a 36).toInt)) = (-1, (rS3 (tM (G.2.1 (F a 35)) ((G.1 a 36).toInt))).2) := if_neg (by rw [k11]; omega)
  rw [e4]
  exact oq42a
theorem v_X11_read_75_46 {F : Nat → Nat → Nat} (x11 : Int32) (G : XG) (a : Nat)
    (oq11 : x11.toInt = (tkK (tM (G.2.1 (F a 35)) ((G.1 a 36).toInt)) (1, rn cBl (tM (G.2.1 (F a 35)) ((G.1 a 36).toInt)) 0)).1)
    (t11 : 0 ≤ x11.toInt ∧ x11.toInt ≤ 5)
    (c53 : ¬ (x11.toInt = (1 : Int)))
    (c58 : ¬ (x11.toInt = (3 : Int)))
    (c63 : x11.toInt ≠ (4 : Int)) :
    (-1 : Int) = (rS4 (tM (G.2.1 (F a 35)) ((G.1 a 36).toInt))).1 := by
  have k11 : (rS1 (tM (G.2.1 (F a 35)) ((G.1 a 36).toInt))).1 = x11.toInt := oq11.symm
  have e4 : rS4 (tM (G.2.1 (F a 35)) ((G.1 a 36).toInt)) = (-1, (rS3 (tM (G.2.1 (F a 35)) ((G.1 a 36).toInt))).2) := if_neg (by rw [k11]; omega)
  rw [e4]
