theorem v_X11_kindHere_41_1 {K : Nat → Nat} {F : Nat → Nat → Nat} (a : Nat) (G : XG) (G_2 : XG) (G28 : XG) (G37 : XG) (r1 : RSt) (l1_2 : Int32) (N2 : Nat) (x28 : Int32)
    (ha : K a = 13)
    (pk : ∀ k : Nat, (k : Int) < l1_2.toInt → (tkW (tM (G.2.1 (F a 35)) ((G.1 a 36).toInt)) (kw k) r1).1 ≠ 1)
    (oq28 : ((G28.1 a 37).toInt) = rn cBl (tM (G.2.1 (F a 35)) ((G.1 a 36).toInt)) ((G_2.1 a 37).toInt))
    (nt0 : 0 ≤ ((G.1 a 36).toInt) ∧ ((G.1 a 36).toInt) ≤ 80)
    (I2_0 : 0 ≤ l1_2.toInt ∧ l1_2.toInt ≤ 6)
    (I2_1 : (0 : Int) ≤ l1_2.toInt)
    (hm2 : 2147483648 - l1_2.toInt < (((N2) + 1 : Nat) : Int))
    (c4 : (5 : Int) < l1_2.toInt)
    (z27 : 0 ≤ ((G_2.1 a 37).toInt) ∧ ((G_2.1 a 37).toInt) ≤ ((G.1 a 36).toInt))
    (t28 : -128 ≤ x28.toInt ∧ x28.toInt ≤ 127 ∧ ((0 ≤ x28.toInt ∧ (tM (G.2.1 (F a 35)) ((G.1 a 36).toInt) ((G28.1 a 37).toInt)) = x28.toInt) ∨ (x28.toInt < 0 ∧ (tM (G.2.1 (F a 35)) ((G.1 a 36).toInt) ((G28.1 a 37).toInt)) = x28.toInt + 256)) ∧ ((G_2.1 a 37).toInt) ≤ ((G28.1 a 37).toInt) ∧ ((G28.1 a 37).toInt) ≤ ((G.1 a 36).toInt))
    (t37 : ((G37.1 a 39).toInt) = 0 ∧ (((G.1 a 39).toInt) ≠ 0 → ((G37.1 a 38).toInt) = ((G28.1 a 37).toInt)) ∧ (((G.1 a 39).toInt) = 0 → ((G37.1 a 38).toInt) = ((G.1 a 38).toInt))) :
    (0 : Int) = (tkK (tM (G.2.1 (F a 35)) ((G.1 a 36).toInt)) r1).1 := by
  rw [tkK_no (fun k hk => pk k (by omega))]
theorem v_X11_kindHere_41_2 {K : Nat → Nat} {F : Nat → Nat → Nat} (a : Nat) (G : XG) (G_2 : XG) (G28 : XG) (G37 : XG) (r1 : RSt) (l1_2 : Int32) (N2 : Nat) (x28 : Int32)
    (ha : K a = 13)
    (pk : ∀ k : Nat, (k : Int) < l1_2.toInt → (tkW (tM (G.2.1 (F a 35)) ((G.1 a 36).toInt)) (kw k) r1).1 ≠ 1)
    (rd : RdM (tM (G.2.1 (F a 35)) ((G.1 a 36).toInt)) (G.1 a 36).toInt r1 ((G.1 a 39).toInt) ((G_2.1 a 37).toInt) ((G.1 a 38).toInt))
    (oq28 : ((G28.1 a 37).toInt) = rn cBl (tM (G.2.1 (F a 35)) ((G.1 a 36).toInt)) ((G_2.1 a 37).toInt))
    (nt0 : 0 ≤ ((G.1 a 36).toInt) ∧ ((G.1 a 36).toInt) ≤ 80)
    (I2_0 : 0 ≤ l1_2.toInt ∧ l1_2.toInt ≤ 6)
    (I2_1 : (0 : Int) ≤ l1_2.toInt)
    (hm2 : 2147483648 - l1_2.toInt < (((N2) + 1 : Nat) : Int))
    (c4 : (5 : Int) < l1_2.toInt)
    (z27 : 0 ≤ ((G_2.1 a 37).toInt) ∧ ((G_2.1 a 37).toInt) ≤ ((G.1 a 36).toInt))
    (t28 : -128 ≤ x28.toInt ∧ x28.toInt ≤ 127 ∧ ((0 ≤ x28.toInt ∧ (tM (G.2.1 (F a 35)) ((G.1 a 36).toInt) ((G28.1 a 37).toInt)) = x28.toInt) ∨ (x28.toInt < 0 ∧ (tM (G.2.1 (F a 35)) ((G.1 a 36).toInt) ((G28.1 a 37).toInt)) = x28.toInt + 256)) ∧ ((G_2.1 a 37).toInt) ≤ ((G28.1 a 37).toInt) ∧ ((G28.1 a 37).toInt) ≤ ((G.1 a 36).toInt))
    (t37 : ((G37.1 a 39).toInt) = 0 ∧ (((G.1 a 39).toInt) ≠ 0 → ((G37.1 a 38).toInt) = ((G28.1 a 37).toInt)) ∧ (((G.1 a 39).toInt) = 0 → ((G37.1 a 38).toInt) = ((G.1 a 38).toInt)))
    (d_G37_a_37 : G37.1 a 37 = G28.1 a 37) :
    RdM (tM (G.2.1 (F a 35)) ((G.1 a 36).toInt)) ((G.1 a 36).toInt) (tkK (tM (G.2.1 (F a 35)) ((G.1 a 36).toInt)) r1).2 ((G37.1 a 39).toInt) ((G37.1 a 37).toInt) ((G37.1 a 38).toInt) := by
  rw [tkK_no (fun k hk => pk k (by omega)), d_G37_a_37]
  have hb := rn_in (P := cBl) (t := (tM (G.2.1 (F a 35)) ((G.1 a 36).toInt))) (n := (G.1 a 36).toInt) (z := (G_2.1 a 37).toInt) (by unfold cBl; decide) (tM_e _ _) (by omega)
  refine rdm_bad (p := r1.2) rfl (by omega) ?_ (by omega) rd.2.2.2.2.2
  by_cases g : (G.1 a 39).toInt = 0
  · have s0 : r1.1 = 0 := rd.1.elim id (fun h => absurd g (rd.2.1.mpr h))
    have := rd.2.2.2.1 s0
    omega
  · have s1 := rd.2.2.1 (rd.2.1.mp g)
    omega
theorem v_X11_kindHere_13_3 {F : Nat → Nat → Nat} (a : Nat) (G : XG) (G_2 : XG) (r1 : RSt)
    (rd : RdM (tM (G.2.1 (F a 35)) ((G.1 a 36).toInt)) (G.1 a 36).toInt r1 ((G.1 a 39).toInt) ((G_2.1 a 37).toInt) ((G.1 a 38).toInt))
    (c_G_2_F_a_35 : G_2.2.1 (F a 35) = G.2.1 (F a 35))
    (d_G_2_a_36 : G_2.1 a 36 = G.1 a 36)
    (d_G_2_a_38 : G_2.1 a 38 = G.1 a 38)
    (d_G_2_a_39 : G_2.1 a 39 = G.1 a 39) :
    RdM (tM (G_2.2.1 (F a 35)) ((G_2.1 a 36).toInt)) ((G_2.1 a 36).toInt) r1 ((G_2.1 a 39).toInt) ((G_2.1 a 37).toInt) ((G_2.1 a 38).toInt) := by
  rw [c_G_2_F_a_35, d_G_2_a_36, d_G_2_a_38, d_G_2_a_39]; exact rd
theorem v_X11_kindHere_13_4 {K : Nat → Nat} {F : Nat → Nat → Nat} (a : Nat) (G : XG) (G_2 : XG) (r1 : RSt) (l1_2 : Int32) (q10 : Nat) (n10 : Nat) (N2 : Nat)
    (ha : K a = 13)
    (hk9999 : K (F a 35) = 51)
    (hj9999 : F (F a 35) 99 = 35)
    (hk9999a : K (F a 25) = 49)
    (hj9999a : F (F a 25) 99 = 25)
    (hk9999b : K (F a 26) = 49)
    (hj9999b : F (F a 26) 99 = 26)
    (hk9999c : K (F a 27) = 48)
    (hj9999c : F (F a 27) 99 = 27)
    (hk9999d : K (F a 28) = 46)
    (hj9999d : F (F a 28) 99 = 28)
    (hk9999e : K (F a 29) = 48)
    (hj9999e : F (F a 29) 99 = 29)
    (hk9999f : K (F a 30) = 47)
    (hj9999f : F (F a 30) 99 = 30)
    (hF_2 : XFr [(a, 37)] [] [] G G_2)
    (hrm : RdM (tM (G.2.1 (F a 35)) ((G.1 a 36).toInt)) ((G.1 a 36).toInt) r1 ((G.1 a 39).toInt) ((G.1 a 37).toInt) ((G.1 a 38).toInt))
    (hwo : WDo G F a)
    (pk : ∀ k : Nat, (k : Int) < l1_2.toInt → (tkW (tM (G.2.1 (F a 35)) ((G.1 a 36).toInt)) (kw k) r1).1 ≠ 1)
    (rd : RdM (tM (G.2.1 (F a 35)) ((G.1 a 36).toInt)) (G.1 a 36).toInt r1 ((G.1 a 39).toInt) ((G_2.1 a 37).toInt) ((G.1 a 38).toInt))
    (hw10 : XWd K q10 n10)
    (hl10 : (0 ≤ l1_2.toInt ∧ l1_2.toInt ≤ 4 ∧ q10 = F a (25 + (l1_2.toInt).toNat)) ∨ (¬ (0 ≤ l1_2.toInt ∧ l1_2.toInt ≤ 4) ∧ q10 = F a 30))
    (nt0 : 0 ≤ ((G.1 a 36).toInt) ∧ ((G.1 a 36).toInt) ≤ 80)
    (I2_0 : 0 ≤ l1_2.toInt ∧ l1_2.toInt ≤ 6)
    (I2_1 : (0 : Int) ≤ l1_2.toInt)
    (hm2 : 2147483648 - l1_2.toInt < (((N2) + 1 : Nat) : Int))
    (c4 : ¬ ((5 : Int) < l1_2.toInt))
    (f27 : 3 ≤ (((n10) : Nat) : Int) ∧ (((n10) : Nat) : Int) ≤ 7)
    (c_G_2_F_a_25 : G_2.2.1 (F a 25) = G.2.1 (F a 25))
    (c_G_2_F_a_26 : G_2.2.1 (F a 26) = G.2.1 (F a 26))
    (c_G_2_F_a_27 : G_2.2.1 (F a 27) = G.2.1 (F a 27))
    (c_G_2_F_a_28 : G_2.2.1 (F a 28) = G.2.1 (F a 28))
    (c_G_2_F_a_29 : G_2.2.1 (F a 29) = G.2.1 (F a 29))
    (c_G_2_F_a_30 : G_2.2.1 (F a 30) = G.2.1 (F a 30))
    (c_G_2_F_a_35 : G_2.2.1 (F a 35) = G.2.1 (F a 35))
    (d_G_2_a_36 : G_2.1 a 36 = G.1 a 36)
    (d_G_2_a_38 : G_2.1 a 38 = G.1 a 38)
    (d_G_2_a_39 : G_2.1 a 39 = G.1 a 39) :
    (kw (Int.toNat (l1_2.toInt))).length = n10 ∧ ∀ i : Nat, i < n10 → aI (G_2.2.1 q10) (i : Int) = (kw (Int.toNat (l1_2.toInt))).getD i 0 ∧ 0 ≤ (kw (Int.toNat (l1_2.toInt))).getD i 0 ∧ (kw (Int.toNat (l1_2.toInt))).getD i 0 ≤ 127 := by
  have hW : (kw (l1_2.toInt).toNat).length = n10 ∧ q10 = F a (25 + (l1_2.toInt).toNat) := by
    rcases (by omega : l1_2.toInt = 0 ∨ l1_2.toInt = 1 ∨ l1_2.toInt = 2 ∨ l1_2.toInt = 3 ∨ l1_2.toInt = 4 ∨ l1_2.toInt = 5) with e | e | e | e | e | e <;> rw [e] at hl10 ⊢
    · have hq : q10 = F a 25 := (by rcases hl10 with h | h; exact h.2.2; exact absurd h.1 (by decide))
      subst hq; exact ⟨(hw10.n (show K (F a 25) = 49 by assumption)).symm, rfl⟩
    · have hq : q10 = F a 26 := (by rcases hl10 with h | h; exact h.2.2; exact absurd h.1 (by decide))
      subst hq; exact ⟨(hw10.n (show K (F a 26) = 49 by assumption)).symm, rfl⟩
    · have hq : q10 = F a 27 := (by rcases hl10 with h | h; exact h.2.2; exact absurd h.1 (by decide))
      subst hq; exact ⟨(hw10.n (show K (F a 27) = 48 by assumption)).symm, rfl⟩
    · have hq : q10 = F a 28 := (by rcases hl10 with h | h; exact h.2.2; exact absurd h.1 (by decide))
      subst hq; exact ⟨(hw10.n (show K (F a 28) = 46 by assumption)).symm, rfl⟩
    · have hq : q10 = F a 29 := (by rcases hl10 with h | h; exact h.2.2; exact absurd h.1 (by decide))
      subst hq; exact ⟨(hw10.n (show K (F a 29) = 48 by assumption)).symm, rfl⟩
    · have hq : q10 = F a 30 := (by rcases hl10 with h | h; exact absurd h.2.1 (by decide); exact h.2)
      subst hq; exact ⟨(hw10.n (show K (F a 30) = 47 by assumption)).symm, rfl⟩
  have hw := hwo.w (i := (l1_2.toInt).toNat) (by omega) hW.1
  refine ⟨hw.1, fun j hj => ?_⟩
  rw [hW.2]
  have h9 : G_2.2.1 (F a (25 + (l1_2.toInt).toNat)) = G.2.1 (F a (25 + (l1_2.toInt).toNat)) := hF_2.2.1 _ xn0
  rw [h9]
  exact hw.2 j hj
theorem v_X11_kindHere_24_5 {K : Nat → Nat} {F : Nat → Nat → Nat} (a : Nat) (G : XG) (r1 : RSt) (l1_2 : Int32) (q10 : Nat) (n10 : Nat) (x13 : Int32) (N2 : Nat)
    (ha : K a = 13)
    (pk : ∀ k : Nat, (k : Int) < l1_2.toInt → (tkW (tM (G.2.1 (F a 35)) ((G.1 a 36).toInt)) (kw k) r1).1 ≠ 1)
    (hw10 : XWd K q10 n10)
    (hl10 : (0 ≤ l1_2.toInt ∧ l1_2.toInt ≤ 4 ∧ q10 = F a (25 + (l1_2.toInt).toNat)) ∨ (¬ (0 ≤ l1_2.toInt ∧ l1_2.toInt ≤ 4) ∧ q10 = F a 30))
    (oq13 : x13.toInt = (tkW (tM (G.2.1 (F a 35)) ((G.1 a 36).toInt)) (kw (Int.toNat (l1_2.toInt))) r1).1)
    (nt0 : 0 ≤ ((G.1 a 36).toInt) ∧ ((G.1 a 36).toInt) ≤ 80)
    (I2_0 : 0 ≤ l1_2.toInt ∧ l1_2.toInt ≤ 6)
    (I2_1 : (0 : Int) ≤ l1_2.toInt)
    (hm2 : 2147483648 - l1_2.toInt < (((N2) + 1 : Nat) : Int))
    (c4 : ¬ ((5 : Int) < l1_2.toInt))
    (f31 : 3 ≤ (((n10) : Nat) : Int) ∧ (((n10) : Nat) : Int) ≤ 7)
    (t13 : 0 ≤ x13.toInt ∧ x13.toInt ≤ 1)
    (f33 : x13.toInt = 0 ∨ x13.toInt = 1)
    (c16 : x13.toInt = 0) :
    ∀ k : Nat, (k : Int) < (l1_2.toInt + 1) → (tkW (tM (G.2.1 (F a 35)) ((G.1 a 36).toInt)) (kw k) r1).1 ≠ 1 := by
  intro k h
  by_cases e : (k : Int) = l1_2.toInt
  · have e2 : (l1_2.toInt).toNat = k := by omega
    rw [← e2, ← oq13]
    omega
  · exact pk k (by omega)
theorem v_X11_kindHere_24_6 {K : Nat → Nat} {F : Nat → Nat → Nat} (a : Nat) (G : XG) (G13 : XG) (r1 : RSt) (l1_2 : Int32) (q10 : Nat) (n10 : Nat) (x13 : Int32) (N2 : Nat)
    (ha : K a = 13)
    (hw10 : XWd K q10 n10)
    (hl10 : (0 ≤ l1_2.toInt ∧ l1_2.toInt ≤ 4 ∧ q10 = F a (25 + (l1_2.toInt).toNat)) ∨ (¬ (0 ≤ l1_2.toInt ∧ l1_2.toInt ≤ 4) ∧ q10 = F a 30))
    (oq13 : x13.toInt = (tkW (tM (G.2.1 (F a 35)) ((G.1 a 36).toInt)) (kw (Int.toNat (l1_2.toInt))) r1).1)
    (oq13a : RdM (tM (G.2.1 (F a 35)) ((G.1 a 36).toInt)) ((G.1 a 36).toInt) (tkW (tM (G.2.1 (F a 35)) ((G.1 a 36).toInt)) (kw (Int.toNat (l1_2.toInt))) r1).2 ((G13.1 a 39).toInt) ((G13.1 a 37).toInt) ((G13.1 a 38).toInt))
    (nt0 : 0 ≤ ((G.1 a 36).toInt) ∧ ((G.1 a 36).toInt) ≤ 80)
    (I2_0 : 0 ≤ l1_2.toInt ∧ l1_2.toInt ≤ 6)
    (I2_1 : (0 : Int) ≤ l1_2.toInt)
    (hm2 : 2147483648 - l1_2.toInt < (((N2) + 1 : Nat) : Int))
    (c4 : ¬ ((5 : Int) < l1_2.toInt))
    (f31 : 3 ≤ (((n10) : Nat) : Int) ∧ (((n10) : Nat) : Int) ≤ 7)
    (t13 : 0 ≤ x13.toInt ∧ x13.toInt ≤ 1)
    (f33 : x13.toInt = 0 ∨ x13.toInt = 1)
    (c16 : x13.toInt = 0)
    (d_G13_a_38 : G13.1 a 38 = G.1 a 38)
    (d_G13_a_39 : G13.1 a 39 = G.1 a 39) :
    RdM (tM (G.2.1 (F a 35)) ((G.1 a 36).toInt)) (G.1 a 36).toInt r1 ((G.1 a 39).toInt) ((G13.1 a 37).toInt) ((G.1 a 38).toInt) := by
  have w1 : (tkW (tM (G.2.1 (F a 35)) ((G.1 a 36).toInt)) (kw (Int.toNat (l1_2.toInt))) r1).1 ≠ 1 := by rw [← oq13]; omega
  rw [tkW_n w1] at oq13a
  (try rw [d_G13_a_38, d_G13_a_39] at oq13a)
  exact oq13a
theorem v_X11_kindHere_20_7 {K : Nat → Nat} {F : Nat → Nat → Nat} (a : Nat) (G : XG) (r1 : RSt) (l1_2 : Int32) (q10 : Nat) (n10 : Nat) (x13 : Int32) (N2 : Nat)
    (ha : K a = 13)
    (pk : ∀ k : Nat, (k : Int) < l1_2.toInt → (tkW (tM (G.2.1 (F a 35)) ((G.1 a 36).toInt)) (kw k) r1).1 ≠ 1)
    (hw10 : XWd K q10 n10)
    (hl10 : (0 ≤ l1_2.toInt ∧ l1_2.toInt ≤ 4 ∧ q10 = F a (25 + (l1_2.toInt).toNat)) ∨ (¬ (0 ≤ l1_2.toInt ∧ l1_2.toInt ≤ 4) ∧ q10 = F a 30))
    (oq13 : x13.toInt = (tkW (tM (G.2.1 (F a 35)) ((G.1 a 36).toInt)) (kw (Int.toNat (l1_2.toInt))) r1).1)
    (nt0 : 0 ≤ ((G.1 a 36).toInt) ∧ ((G.1 a 36).toInt) ≤ 80)
    (I2_0 : 0 ≤ l1_2.toInt ∧ l1_2.toInt ≤ 6)
    (I2_1 : (0 : Int) ≤ l1_2.toInt)
    (hm2 : 2147483648 - l1_2.toInt < (((N2) + 1 : Nat) : Int))
    (c4 : ¬ ((5 : Int) < l1_2.toInt))
    (f30 : 3 ≤ (((n10) : Nat) : Int) ∧ (((n10) : Nat) : Int) ≤ 7)
    (t13 : 0 ≤ x13.toInt ∧ x13.toInt ≤ 1)
    (f32 : x13.toInt = 0 ∨ x13.toInt = 1)
    (c16 : ¬ (x13.toInt = 0)) :
    l1_2.toInt = (tkK (tM (G.2.1 (F a 35)) ((G.1 a 36).toInt)) r1).1 := by
  rw [tkK_at (n := (l1_2.toInt).toNat) (by omega) (fun k hk => pk k (by omega)) (by rw [← oq13]; omega)]
  show l1_2.toInt = (((l1_2.toInt).toNat : Nat) : Int)
  omega
theorem v_X11_kindHere_20_8 {K : Nat → Nat} {F : Nat → Nat → Nat} (a : Nat) (G : XG) (G13 : XG) (r1 : RSt) (l1_2 : Int32) (q10 : Nat) (n10 : Nat) (x13 : Int32) (N2 : Nat)
    (ha : K a = 13)
    (pk : ∀ k : Nat, (k : Int) < l1_2.toInt → (tkW (tM (G.2.1 (F a 35)) ((G.1 a 36).toInt)) (kw k) r1).1 ≠ 1)
    (hw10 : XWd K q10 n10)
    (hl10 : (0 ≤ l1_2.toInt ∧ l1_2.toInt ≤ 4 ∧ q10 = F a (25 + (l1_2.toInt).toNat)) ∨ (¬ (0 ≤ l1_2.toInt ∧ l1_2.toInt ≤ 4) ∧ q10 = F a 30))
    (oq13 : x13.toInt = (tkW (tM (G.2.1 (F a 35)) ((G.1 a 36).toInt)) (kw (Int.toNat (l1_2.toInt))) r1).1)
    (oq13a : RdM (tM (G.2.1 (F a 35)) ((G.1 a 36).toInt)) ((G.1 a 36).toInt) (tkW (tM (G.2.1 (F a 35)) ((G.1 a 36).toInt)) (kw (Int.toNat (l1_2.toInt))) r1).2 ((G13.1 a 39).toInt) ((G13.1 a 37).toInt) ((G13.1 a 38).toInt))
    (nt0 : 0 ≤ ((G.1 a 36).toInt) ∧ ((G.1 a 36).toInt) ≤ 80)
    (I2_0 : 0 ≤ l1_2.toInt ∧ l1_2.toInt ≤ 6)
    (I2_1 : (0 : Int) ≤ l1_2.toInt)
    (hm2 : 2147483648 - l1_2.toInt < (((N2) + 1 : Nat) : Int))
    (c4 : ¬ ((5 : Int) < l1_2.toInt))
    (f30 : 3 ≤ (((n10) : Nat) : Int) ∧ (((n10) : Nat) : Int) ≤ 7)
    (t13 : 0 ≤ x13.toInt ∧ x13.toInt ≤ 1)
    (f32 : x13.toInt = 0 ∨ x13.toInt = 1)
    (c16 : ¬ (x13.toInt = 0))
    (d_G13_a_38 : G13.1 a 38 = G.1 a 38)
    (d_G13_a_39 : G13.1 a 39 = G.1 a 39) :
    RdM (tM (G.2.1 (F a 35)) ((G.1 a 36).toInt)) ((G.1 a 36).toInt) (tkK (tM (G.2.1 (F a 35)) ((G.1 a 36).toInt)) r1).2 ((G13.1 a 39).toInt) ((G13.1 a 37).toInt) ((G13.1 a 38).toInt) := by
  rw [tkK_at (n := (l1_2.toInt).toNat) (by omega) (fun k hk => pk k (by omega)) (by rw [← oq13]; omega)]
  (try rw [d_G13_a_38, d_G13_a_39] at oq13a)
  (try rw [d_G13_a_38, d_G13_a_39])
  exact oq13a
theorem v_X11_kindHere_1_9 {K : Nat → Nat} {F : Nat → Nat → Nat} (a : Nat) (G : XG) (r1 : RSt)
    (ha : K a = 13)
    (nt0 : 0 ≤ ((G.1 a 36).toInt) ∧ ((G.1 a 36).toInt) ≤ 80) :
    ∀ k : Nat, (k : Int) < (0 : Int) → (tkW (tM (G.2.1 (F a 35)) ((G.1 a 36).toInt)) (kw k) r1).1 ≠ 1 := by
  intro k h; omega
theorem v_X11_kindHere_1_10 {F : Nat → Nat → Nat} (a : Nat) (G : XG) (r1 : RSt)
    (hrm : RdM (tM (G.2.1 (F a 35)) ((G.1 a 36).toInt)) ((G.1 a 36).toInt) r1 ((G.1 a 39).toInt) ((G.1 a 37).toInt) ((G.1 a 38).toInt)) :
    RdM (tM (G.2.1 (F a 35)) ((G.1 a 36).toInt)) (G.1 a 36).toInt r1 ((G.1 a 39).toInt) ((G.1 a 37).toInt) ((G.1 a 38).toInt) := by
  exact hrm
