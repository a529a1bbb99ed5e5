/-! what is read is within bounds -/
theorem tkK_b (t : Int → Int) (S : RSt) : 0 ≤ (tkK t S).1 ∧ (tkK t S).1 ≤ 5 := by
  have key : ∀ f n : Nat, n + f ≤ 6 → 0 ≤ (tkKf t S f n).1 ∧ (tkKf t S f n).1 ≤ 5 := by
    intro f
    induction f with
    | zero => intro n _; exact ⟨Int.le_refl _, by show (0 : Int) ≤ 5; decide⟩
    | succ f ih =>
      intro n hn
      show 0 ≤ (if (tkW t (kw n) S).1 = 1 then ((n : Int), (tkW t (kw n) S).2) else tkKf t S f (n + 1)).1 ∧ (if (tkW t (kw n) S).1 = 1 then ((n : Int), (tkW t (kw n) S).2) else tkKf t S f (n + 1)).1 ≤ 5
      split
      · exact ⟨by show 0 ≤ (n : Int); omega, by show (n : Int) ≤ 5; omega⟩
      · exact ih (n + 1) (by omega)
  exact key 6 0 (by omega)
theorem tkA_r (t : Int → Int) (S : RSt) : 0 ≤ (tkA t S).1 ∧ (tkA t S).1 ≤ 2 := by
  by_cases h : (tkW t (kw 6) S).1 = 1
  · rw [tkA_a h]; exact ⟨by show (0 : Int) ≤ 1; decide, by show (1 : Int) ≤ 2; decide⟩
  · by_cases h2 : (tkW t (kw 7) S).1 = 1
    · rw [tkA_b h h2]; exact ⟨by show (0 : Int) ≤ 2; decide, by show (2 : Int) ≤ 2; decide⟩
    · rw [tkA_c h h2]; exact ⟨by show (0 : Int) ≤ 0; decide, by show (0 : Int) ≤ 2; decide⟩
theorem rS_b (t : Int → Int) : (0 ≤ (rS1 t).1 ∧ (rS1 t).1 ≤ 5) ∧ (0 ≤ (rS2 t).1 ∧ (rS2 t).1 ≤ 2) ∧ (0 ≤ (rS3 t).1 ∧ (rS3 t).1 ≤ 2) ∧ (-1 ≤ (rS4 t).1 ∧ (rS4 t).1 ≤ 2) ∧ ((rS1 t).1 = 1 ∨ (rS1 t).1 = 3 ∨ (rS1 t).1 = 4 → 0 ≤ (rS4 t).1) ∧ (0 ≤ (rS7 t).1 ∧ (rS7 t).1 ≤ 2) ∧ ((rS8 t).1 = 0 ∨ (rS8 t).1 = 1) := by
  have h4 : (((rS1 t).1 = 1 ∨ (rS1 t).1 = 3 ∨ (rS1 t).1 = 4) ∧ 0 ≤ (rS4 t).1 ∧ (rS4 t).1 ≤ 2) ∨ (¬ ((rS1 t).1 = 1 ∨ (rS1 t).1 = 3 ∨ (rS1 t).1 = 4) ∧ (rS4 t).1 = -1) := by
    by_cases h : (rS1 t).1 = 1 ∨ (rS1 t).1 = 3 ∨ (rS1 t).1 = 4
    · have e : rS4 t = tkN t 0 2 (rS3 t).2 := if_pos h
      rw [e]
      exact Or.inl ⟨h, tkN_b t _ (by decide)⟩
    · have e : rS4 t = (-1, (rS3 t).2) := if_neg h
      rw [e]
      exact Or.inr ⟨h, rfl⟩
  refine ⟨tkK_b t _, tkN_b t _ (by decide), tkN_b t _ (by decide), by omega, by omega, ?_, ?_⟩
  · by_cases h : (rS1 t).1 = 1
    · have e : rS7 t = tkA t (rS6 t).2 := if_pos h
      rw [e]
      exact tkA_r t _
    · have e : rS7 t = (0, (rS6 t).2) := if_neg h
      rw [e]
      exact ⟨by show (0 : Int) ≤ 0; decide, by show (0 : Int) ≤ 2; decide⟩
  · rcases tkW_01 t (kw 8) (rS7 t).2 with h | h
    · exact Or.inr h
    · exact Or.inl h.1
/-- nine numbers are copied behind one another -/
theorem CPd.s {f g h h2 : Nat → Int32} {b n x X : Int} (hc : CPd f g h 0 b n) (hn : 0 ≤ n) (hb : 0 ≤ b) (hu : ∀ z : Int, 0 ≤ z → aI h2 z = if z = x then X else aI h z) (hx : x = b + n) (hX : X = aI f n) : CPd f g h2 0 b (n + 1) := by
  intro z hz
  rw [hu z hz]
  by_cases e : z = x
  · rw [if_pos e, if_pos (by omega), hX]
    congr 1
    omega
  · rw [if_neg e, hc z hz]
    by_cases q : b ≤ z ∧ z < b + n
    · rw [if_pos q, if_pos (by omega)]
    · rw [if_neg q, if_neg (by omega)]
theorem CPd.z (f g : Nat → Int32) (b : Int) : CPd f g g 0 b 0 := fun z _ => by rw [if_neg (by omega)]
theorem CPd.at {f g h : Nat → Int32} {b n j : Int} (hc : CPd f g h 0 b n) (hb : 0 ≤ b) (hj : 0 ≤ j ∧ j < n) : aI h (b + j) = aI f j := by
  rw [hc (b + j) (by omega), if_pos (by omega)]
  congr 1
  omega
/-- a rule's numbers, as they are read -/
def DFo (d : Nat → Int32) (t : Int → Int) : Prop := aI d 0 = (rS1 t).1 ∧ aI d 1 = (rS2 t).1 ∧ aI d 2 = (rS3 t).1 ∧ aI d 3 = (rS4 t).1 ∧ aI d 4 = (rS5 t).1 ∧ aI d 5 = (rS6 t).1 ∧ aI d 6 = (rS8 t).1 ∧ aI d 7 = (rS9 t).1 ∧ aI d 8 = (rS7 t).1
theorem RV.cpd {f g d : Nat → Int32} {k : Int} {t : Int → Int} (h : RV f) (hk : 0 ≤ k ∧ k ≤ 11) (hc : CPd d f g 0 (10 * k) 9) (hd : DFo d t) : RV g := by
  intro r h0 h1
  by_cases e : r = k
  · subst e
    have b := rS_b t
    obtain ⟨d0, d1, d2, d3, -⟩ := hd
    unfold RVr
    rw [hc.at (by omega) (j := 0) (by omega), hc.at (by omega) (j := 1) (by omega), hc.at (by omega) (j := 2) (by omega), hc.at (by omega) (j := 3) (by omega), d0, d1, d2, d3]
    omega
  · have h3 := h r h0 h1
    unfold RVr at h3 ⊢
    rw [hc (10 * r + 0) (by omega), hc (10 * r + 1) (by omega), hc (10 * r + 2) (by omega), hc (10 * r + 3) (by omega), if_neg (by omega), if_neg (by omega), if_neg (by omega), if_neg (by omega)]
    exact h3
theorem v_X11_rule_10_1 {F : Nat → Nat → Nat} (G2 : XG) (G : XG) (a : Nat) (G6 : XG)
    (hG2 : G2 = dput G a 0 0)
    (hF6 : XFr [(a, 20), (a, 21), (a, 23)] [] [] G2 G6)
    (hwo : WDo G F a) :
    WDo G6 F a := by
  intro i hi j hj
  have h9 : G6.2.1 (F a (25 + i)) = G.2.1 (F a (25 + i)) := (hF6.2.1 _ xn0).trans (by rw [hG2]; rfl)
  rw [h9]
  exact hwo i hi j hj
theorem v_X11_rule_87_2 {F : Nat → Nat → Nat} (G10 : XG) (a : Nat) (G : XG) (G_58 : XG) (x43 : Int32) (l3_58 : Int32)
    (cp : CPd (G10.2.1 (F a 40)) (G.2.1 (F a 10)) (G_58.2.1 (F a 10)) 0 (10 * x43.toInt) (l3_58.toInt))
    (I58_0 : 0 ≤ l3_58.toInt ∧ l3_58.toInt ≤ 9)
    (c61 : (9 : Int) ≤ l3_58.toInt) :
    CPd (G10.2.1 (F a 40)) (G.2.1 (F a 10)) (G_58.2.1 (F a 10)) 0 (10 * x43.toInt) 9 := by
  rw [show l3_58.toInt = 9 from by omega] at cp
  exact cp
theorem v_X11_rule_87_3 {F : Nat → Nat → Nat} (G10 : XG) (a : Nat) (G : XG) (x43 : Int32) (G_58 : XG)
    (dfo10 : DFo (G10.2.1 (F a 40)) (tM (G.2.1 (F a 35)) ((G.1 a 36).toInt)))
    (oq43 : (x43.toInt = 12 ∨ aI (G.2.1 (F a 10)) (10 * x43.toInt + 0) = -1) ∧ ∀ i : Int, 0 ≤ i → i < x43.toInt → aI (G.2.1 (F a 10)) (10 * i + 0) ≠ -1)
    (cp87 : CPd (G10.2.1 (F a 40)) (G.2.1 (F a 10)) (G_58.2.1 (F a 10)) 0 (10 * x43.toInt) 9)
    (t43 : 0 ≤ x43.toInt ∧ x43.toInt ≤ 12)
    (c50 : x43.toInt ≠ (12 : Int)) :
    (0 ≤ (aI (G_58.2.1 (F a 10)) (10 * x43.toInt + 0)) ∧ (aI (G_58.2.1 (F a 10)) (10 * x43.toInt + 0)) ≤ 5) := by
  have b := (rS_b (tM (G.2.1 (F a 35)) ((G.1 a 36).toInt))).1
  have e := cp87.at (j := 0) (by omega) (by decide)
  rw [dfo10.1] at e
  omega
theorem v_X11_rule_142_4 (G_58 : XG) (a : Nat)
    (d_G_58_a_36 : G_58.1 a 36 = 0) :
    ((G_58.1 a 36).toInt) = 0 := by
  rw [d_G_58_a_36]; rfl
theorem v_X11_rule_142_5 {F : Nat → Nat → Nat} (G : XG) (a : Nat) (x10 : Int32) (G10 : XG) (x43 : Int32) (G_58 : XG) (l3_93 : Int32)
    (oq10 : (x10.toInt ≠ 0 ↔ rOk (tM (G.2.1 (F a 35)) ((G.1 a 36).toInt)) ((G.1 a 36).toInt)))
    (oq10a : (¬ rOk (tM (G.2.1 (F a 35)) ((G.1 a 36).toInt)) ((G.1 a 36).toInt) → ((G10.1 a 38).toInt) = (rS9 (tM (G.2.1 (F a 35)) ((G.1 a 36).toInt))).2.2 ∧ 0 ≤ (rS9 (tM (G.2.1 (F a 35)) ((G.1 a 36).toInt))).2.2 ∧ (rS9 (tM (G.2.1 (F a 35)) ((G.1 a 36).toInt))).2.2 ≤ ((G.1 a 36).toInt)))
    (dfo10 : DFo (G10.2.1 (F a 40)) (tM (G.2.1 (F a 35)) ((G.1 a 36).toInt)))
    (oq43 : (x43.toInt = 12 ∨ aI (G.2.1 (F a 10)) (10 * x43.toInt + 0) = -1) ∧ ∀ i : Int, 0 ≤ i → i < x43.toInt → aI (G.2.1 (F a 10)) (10 * i + 0) ≠ -1)
    (cp87 : CPd (G10.2.1 (F a 40)) (G.2.1 (F a 10)) (G_58.2.1 (F a 10)) 0 (10 * x43.toInt) 9)
    (pz : ∀ s : Int, sF (aI (G_58.2.1 (F a 10)) (10 * x43.toInt + 0)) ≤ s → s < l3_93.toInt → fzq (G_58.2.1 (F a 10)) (mw (G.2.1 (F a 1)) 0) (x43.toInt) s = 0)
    (nt0 : 0 ≤ ((G.1 a 36).toInt) ∧ ((G.1 a 36).toInt) ≤ 80)
    (c20 : x10.toInt ≠ 0)
    (c36 : ((G.1 a 6).toInt) = 0)
    (t43 : 0 ≤ x43.toInt ∧ x43.toInt ≤ 12)
    (c50 : x43.toInt ≠ (12 : Int))
    (kd87 : (0 ≤ (aI (G_58.2.1 (F a 10)) (10 * x43.toInt + 0)) ∧ (aI (G_58.2.1 (F a 10)) (10 * x43.toInt + 0)) ≤ 5))
    (sf87 : (((aI (G_58.2.1 (F a 10)) (10 * x43.toInt + 0)) = 2 ∨ (aI (G_58.2.1 (F a 10)) (10 * x43.toInt + 0)) = 4 ∨ (aI (G_58.2.1 (F a 10)) (10 * x43.toInt + 0)) = 5) ∧ (sF (aI (G_58.2.1 (F a 10)) (10 * x43.toInt + 0))) = 0 ∧ (sL (aI (G_58.2.1 (F a 10)) (10 * x43.toInt + 0))) = 29) ∨ (¬ ((aI (G_58.2.1 (F a 10)) (10 * x43.toInt + 0)) = 2 ∨ (aI (G_58.2.1 (F a 10)) (10 * x43.toInt + 0)) = 4 ∨ (aI (G_58.2.1 (F a 10)) (10 * x43.toInt + 0)) = 5) ∧ (sF (aI (G_58.2.1 (F a 10)) (10 * x43.toInt + 0))) = -99 ∧ (sL (aI (G_58.2.1 (F a 10)) (10 * x43.toInt + 0))) = 99))
    (I93_0 : (sF (aI (G_58.2.1 (F a 10)) (10 * x43.toInt + 0))) ≤ l3_93.toInt ∧ l3_93.toInt ≤ (sL (aI (G_58.2.1 (F a 10)) (10 * x43.toInt + 0))) + 1)
    (c99 : (sL (aI (G_58.2.1 (F a 10)) (10 * x43.toInt + 0))) < l3_93.toInt) :
    (¬ rOk (tM (G.2.1 (F a 35)) ((G.1 a 36).toInt)) ((G.1 a 36).toInt) ∧ x43.toInt = -1000 - (rS9 (tM (G.2.1 (F a 35)) ((G.1 a 36).toInt))).2.2 ∧ G_58.2.1 (F a 10) = (G.2.1 (F a 10))) ∨ (rOk (tM (G.2.1 (F a 35)) ((G.1 a 36).toInt)) ((G.1 a 36).toInt) ∧ ((G.1 a 6).toInt) ≠ 0 ∧ x43.toInt = -3 ∧ G_58.2.1 (F a 10) = (G.2.1 (F a 10))) ∨ (rOk (tM (G.2.1 (F a 35)) ((G.1 a 36).toInt)) ((G.1 a 36).toInt) ∧ ((G.1 a 6).toInt) = 0 ∧ (∀ i : Int, 0 ≤ i → i < 12 → aI (G.2.1 (F a 10)) (10 * i + 0) ≠ -1) ∧ x43.toInt = -4 ∧ G_58.2.1 (F a 10) = (G.2.1 (F a 10))) ∨ (rOk (tM (G.2.1 (F a 35)) ((G.1 a 36).toInt)) ((G.1 a 36).toInt) ∧ ((G.1 a 6).toInt) = 0 ∧ ∃ (k : Int) (d g : Nat → Int32), ((0 ≤ k ∧ k ≤ 11) ∧ aI (G.2.1 (F a 10)) (10 * k + 0) = -1 ∧ ∀ i : Int, 0 ≤ i → i < k → aI (G.2.1 (F a 10)) (10 * i + 0) ≠ -1) ∧ DFo d (tM (G.2.1 (F a 35)) ((G.1 a 36).toInt)) ∧ CPd d (G.2.1 (F a 10)) g 0 (10 * k) 9 ∧ (((∃ s : Int, sbj (aI g (10 * k + 0)) s ∧ fzq g (mw (G.2.1 (F a 1)) 0) k s = 1) ∧ x43.toInt = -5 ∧ ∀ z : Int, 0 ≤ z → aI (G_58.2.1 (F a 10)) z = if z = 10 * k then -1 else aI g z) ∨ ((∀ s : Int, sbj (aI g (10 * k + 0)) s → fzq g (mw (G.2.1 (F a 1)) 0) k s = 0) ∧ x43.toInt = k ∧ G_58.2.1 (F a 10) = g))) := by
  have ok : rOk (tM (G.2.1 (F a 35)) ((G.1 a 36).toInt)) ((G.1 a 36).toInt) := oq10.mp (by omega)
  refine Or.inr (Or.inr (Or.inr ⟨ok, by omega, x43.toInt, _, _, ⟨by omega, (by rcases oq43.1 with h | h; exact absurd h (by omega); exact h), fun i h1 h2 => oq43.2 i h1 h2⟩, dfo10, cp87, Or.inr ⟨fun s hs => ?_, rfl, rfl⟩⟩))
  have := sbj_FL.mp hs
  exact pz s this.1 (by omega)
theorem v_X11_rule_142_6 {F : Nat → Nat → Nat} (G : XG) (a : Nat) (G10 : XG) (G_58 : XG) (x43 : Int32)
    (hR : RV (G.2.1 (F a 10)))
    (dfo10 : DFo (G10.2.1 (F a 40)) (tM (G.2.1 (F a 35)) ((G.1 a 36).toInt)))
    (cp87 : CPd (G10.2.1 (F a 40)) (G.2.1 (F a 10)) (G_58.2.1 (F a 10)) 0 (10 * x43.toInt) 9)
    (t43 : 0 ≤ x43.toInt ∧ x43.toInt ≤ 12)
    (c50 : x43.toInt ≠ (12 : Int)) :
    RV (G_58.2.1 (F a 10)) := by
  exact hR.cpd (by omega) cp87 dfo10
theorem v_X11_rule_110_7 {F : Nat → Nat → Nat} (G : XG) (a : Nat) (G10 : XG) (G_58 : XG) (x43 : Int32)
    (hR : RV (G.2.1 (F a 10)))
    (dfo10 : DFo (G10.2.1 (F a 40)) (tM (G.2.1 (F a 35)) ((G.1 a 36).toInt)))
    (cp87 : CPd (G10.2.1 (F a 40)) (G.2.1 (F a 10)) (G_58.2.1 (F a 10)) 0 (10 * x43.toInt) 9)
    (t43 : 0 ≤ x43.toInt ∧ x43.toInt ≤ 12)
    (c50 : x43.toInt ≠ (12 : Int)) :
    RV (G_58.2.1 (F a 10)) := by
  exact hR.cpd (by omega) cp87 dfo10
theorem v_X11_rule_110_8 {F : Nat → Nat → Nat} (a : Nat) (G : XG) (G_58 : XG)
    (hM : RM (G.2.1 (F a 1)) (0))
    (c_G_58_F_a_1 : G_58.2.1 (F a 1) = G.2.1 (F a 1)) :
    RM (G_58.2.1 (F a 1)) (0 : Int) := by simp only [c_G_58_F_a_1]; assumption
theorem v_X11_rule_138_9 {F : Nat → Nat → Nat} (G_58 : XG) (a : Nat) (x43 : Int32) (l3_93 : Int32) (G : XG) (x110 : Int32)
    (pz : ∀ s : Int, sF (aI (G_58.2.1 (F a 10)) (10 * x43.toInt + 0)) ≤ s → s < l3_93.toInt → fzq (G_58.2.1 (F a 10)) (mw (G.2.1 (F a 1)) 0) (x43.toInt) s = 0)
    (t110 : x110.toInt = (flq (mw (G.2.1 (F a 1)) 0) (aI (G_58.2.1 (F a 10)) (10 * x43.toInt + 0)) (aI (G_58.2.1 (F a 10)) (10 * x43.toInt + 1)) (aI (G_58.2.1 (F a 10)) (10 * x43.toInt + 2)) (aI (G_58.2.1 (F a 10)) (10 * x43.toInt + 4)) (aI (G_58.2.1 (F a 10)) (10 * x43.toInt + 5)) (l3_93.toInt) (stt (mw (G.2.1 (F a 1)) 0) (aI (G_58.2.1 (F a 10)) (10 * x43.toInt + 0)) (aI (G_58.2.1 (F a 10)) (10 * x43.toInt + 1)) (aI (G_58.2.1 (F a 10)) (10 * x43.toInt + 2)) (aI (G_58.2.1 (F a 10)) (10 * x43.toInt + 3)) (l3_93.toInt))))
    (c113 : x110.toInt = 0) :
    ∀ s : Int, sF (aI (G_58.2.1 (F a 10)) (10 * x43.toInt + 0)) ≤ s → s < (l3_93.toInt + 1) → fzq (G_58.2.1 (F a 10)) (mw (G.2.1 (F a 1)) 0) (x43.toInt) s = 0 := by
  intro s h1 h2
  by_cases e : s = l3_93.toInt
  · subst e
    have t9 : flq _ _ _ _ _ _ _ _ = 0 := t110.symm.trans c113
    exact t9
  · exact pz s h1 (by omega)
theorem v_X11_rule_134_10 (G131 : XG) (a : Nat)
    (d_G131_a_36 : G131.1 a 36 = 0) :
    ((G131.1 a 36).toInt) = 0 := by
  rw [d_G131_a_36]; rfl
theorem v_X11_rule_134_11 {F : Nat → Nat → Nat} (G131 : XG) (G119 : XG) (a : Nat) (x129 : Int32) (G : XG) (x10 : Int32) (G10 : XG) (x43 : Int32) (G_58 : XG) (l3_93 : Int32) (x110 : Int32)
    (hG131 : G131 = cput G119 (F a 10) x129.toNatClampNeg (-1))
    (oq10 : (x10.toInt ≠ 0 ↔ rOk (tM (G.2.1 (F a 35)) ((G.1 a 36).toInt)) ((G.1 a 36).toInt)))
    (oq10a : (¬ rOk (tM (G.2.1 (F a 35)) ((G.1 a 36).toInt)) ((G.1 a 36).toInt) → ((G10.1 a 38).toInt) = (rS9 (tM (G.2.1 (F a 35)) ((G.1 a 36).toInt))).2.2 ∧ 0 ≤ (rS9 (tM (G.2.1 (F a 35)) ((G.1 a 36).toInt))).2.2 ∧ (rS9 (tM (G.2.1 (F a 35)) ((G.1 a 36).toInt))).2.2 ≤ ((G.1 a 36).toInt)))
    (dfo10 : DFo (G10.2.1 (F a 40)) (tM (G.2.1 (F a 35)) ((G.1 a 36).toInt)))
    (oq43 : (x43.toInt = 12 ∨ aI (G.2.1 (F a 10)) (10 * x43.toInt + 0) = -1) ∧ ∀ i : Int, 0 ≤ i → i < x43.toInt → aI (G.2.1 (F a 10)) (10 * i + 0) ≠ -1)
    (cp87 : CPd (G10.2.1 (F a 40)) (G.2.1 (F a 10)) (G_58.2.1 (F a 10)) 0 (10 * x43.toInt) 9)
    (e129 : x129.toInt = ((10 : Int) * x43.toInt))
    (nt0 : 0 ≤ ((G.1 a 36).toInt) ∧ ((G.1 a 36).toInt) ≤ 80)
    (c20 : x10.toInt ≠ 0)
    (c36 : ((G.1 a 6).toInt) = 0)
    (t43 : 0 ≤ x43.toInt ∧ x43.toInt ≤ 12)
    (c50 : x43.toInt ≠ (12 : Int))
    (kd87 : (0 ≤ (aI (G_58.2.1 (F a 10)) (10 * x43.toInt + 0)) ∧ (aI (G_58.2.1 (F a 10)) (10 * x43.toInt + 0)) ≤ 5))
    (sf87 : (((aI (G_58.2.1 (F a 10)) (10 * x43.toInt + 0)) = 2 ∨ (aI (G_58.2.1 (F a 10)) (10 * x43.toInt + 0)) = 4 ∨ (aI (G_58.2.1 (F a 10)) (10 * x43.toInt + 0)) = 5) ∧ (sF (aI (G_58.2.1 (F a 10)) (10 * x43.toInt + 0))) = 0 ∧ (sL (aI (G_58.2.1 (F a 10)) (10 * x43.toInt + 0))) = 29) ∨ (¬ ((aI (G_58.2.1 (F a 10)) (10 * x43.toInt + 0)) = 2 ∨ (aI (G_58.2.1 (F a 10)) (10 * x43.toInt + 0)) = 4 ∨ (aI (G_58.2.1 (F a 10)) (10 * x43.toInt + 0)) = 5) ∧ (sF (aI (G_58.2.1 (F a 10)) (10 * x43.toInt + 0))) = -99 ∧ (sL (aI (G_58.2.1 (F a 10)) (10 * x43.toInt + 0))) = 99))
    (I93_0 : (sF (aI (G_58.2.1 (F a 10)) (10 * x43.toInt + 0))) ≤ l3_93.toInt ∧ l3_93.toInt ≤ (sL (aI (G_58.2.1 (F a 10)) (10 * x43.toInt + 0))) + 1)
    (c99 : ¬ ((sL (aI (G_58.2.1 (F a 10)) (10 * x43.toInt + 0))) < l3_93.toInt))
    (t110 : x110.toInt = (flq (mw (G.2.1 (F a 1)) 0) (aI (G_58.2.1 (F a 10)) (10 * x43.toInt + 0)) (aI (G_58.2.1 (F a 10)) (10 * x43.toInt + 1)) (aI (G_58.2.1 (F a 10)) (10 * x43.toInt + 2)) (aI (G_58.2.1 (F a 10)) (10 * x43.toInt + 4)) (aI (G_58.2.1 (F a 10)) (10 * x43.toInt + 5)) (l3_93.toInt) (stt (mw (G.2.1 (F a 1)) 0) (aI (G_58.2.1 (F a 10)) (10 * x43.toInt + 0)) (aI (G_58.2.1 (F a 10)) (10 * x43.toInt + 1)) (aI (G_58.2.1 (F a 10)) (10 * x43.toInt + 2)) (aI (G_58.2.1 (F a 10)) (10 * x43.toInt + 3)) (l3_93.toInt))))
    (c113 : ¬ (x110.toInt = 0))
    (c_G119_F_a_10 : G119.2.1 (F a 10) = G_58.2.1 (F a 10)) :
    (¬ rOk (tM (G.2.1 (F a 35)) ((G.1 a 36).toInt)) ((G.1 a 36).toInt) ∧ (-5 : Int) = -1000 - (rS9 (tM (G.2.1 (F a 35)) ((G.1 a 36).toInt))).2.2 ∧ G131.2.1 (F a 10) = (G.2.1 (F a 10))) ∨ (rOk (tM (G.2.1 (F a 35)) ((G.1 a 36).toInt)) ((G.1 a 36).toInt) ∧ ((G.1 a 6).toInt) ≠ 0 ∧ (-5 : Int) = -3 ∧ G131.2.1 (F a 10) = (G.2.1 (F a 10))) ∨ (rOk (tM (G.2.1 (F a 35)) ((G.1 a 36).toInt)) ((G.1 a 36).toInt) ∧ ((G.1 a 6).toInt) = 0 ∧ (∀ i : Int, 0 ≤ i → i < 12 → aI (G.2.1 (F a 10)) (10 * i + 0) ≠ -1) ∧ (-5 : Int) = -4 ∧ G131.2.1 (F a 10) = (G.2.1 (F a 10))) ∨ (rOk (tM (G.2.1 (F a 35)) ((G.1 a 36).toInt)) ((G.1 a 36).toInt) ∧ ((G.1 a 6).toInt) = 0 ∧ ∃ (k : Int) (d g : Nat → Int32), ((0 ≤ k ∧ k ≤ 11) ∧ aI (G.2.1 (F a 10)) (10 * k + 0) = -1 ∧ ∀ i : Int, 0 ≤ i → i < k → aI (G.2.1 (F a 10)) (10 * i + 0) ≠ -1) ∧ DFo d (tM (G.2.1 (F a 35)) ((G.1 a 36).toInt)) ∧ CPd d (G.2.1 (F a 10)) g 0 (10 * k) 9 ∧ (((∃ s : Int, sbj (aI g (10 * k + 0)) s ∧ fzq g (mw (G.2.1 (F a 1)) 0) k s = 1) ∧ (-5 : Int) = -5 ∧ ∀ z : Int, 0 ≤ z → aI (G131.2.1 (F a 10)) z = if z = 10 * k then -1 else aI g z) ∨ ((∀ s : Int, sbj (aI g (10 * k + 0)) s → fzq g (mw (G.2.1 (F a 1)) 0) k s = 0) ∧ (-5 : Int) = k ∧ G131.2.1 (F a 10) = g))) := by
  have ok : rOk (tM (G.2.1 (F a 35)) ((G.1 a 36).toInt)) ((G.1 a 36).toInt) := oq10.mp (by omega)
  refine Or.inr (Or.inr (Or.inr ⟨ok, by omega, x43.toInt, _, _, ⟨by omega, (by rcases oq43.1 with h | h; exact absurd h (by omega); exact h), fun i h1 h2 => oq43.2 i h1 h2⟩, dfo10, cp87, Or.inl ⟨⟨l3_93.toInt, sbj_FL.mpr (by omega), ?_⟩, rfl, aI_pu hG131 c_G119_F_a_10 (by omega) (by decide) (by omega)⟩⟩))
  have h01 := flq01 (mw (G.2.1 (F a 1)) 0) (aI (G_58.2.1 (F a 10)) (10 * x43.toInt + 0)) (aI (G_58.2.1 (F a 10)) (10 * x43.toInt + 1)) (aI (G_58.2.1 (F a 10)) (10 * x43.toInt + 2)) (aI (G_58.2.1 (F a 10)) (10 * x43.toInt + 4)) (aI (G_58.2.1 (F a 10)) (10 * x43.toInt + 5)) l3_93.toInt (stt (mw (G.2.1 (F a 1)) 0) (aI (G_58.2.1 (F a 10)) (10 * x43.toInt + 0)) (aI (G_58.2.1 (F a 10)) (10 * x43.toInt + 1)) (aI (G_58.2.1 (F a 10)) (10 * x43.toInt + 2)) (aI (G_58.2.1 (F a 10)) (10 * x43.toInt + 3)) l3_93.toInt)
  show flq _ _ _ _ _ _ _ _ = 1
  omega
theorem v_X11_rule_134_12 {F : Nat → Nat → Nat} (G131 : XG) (G119 : XG) (a : Nat) (x129 : Int32) (G : XG) (G10 : XG) (G_58 : XG) (x43 : Int32)
    (hG131 : G131 = cput G119 (F a 10) x129.toNatClampNeg (-1))
    (hR : RV (G.2.1 (F a 10)))
    (dfo10 : DFo (G10.2.1 (F a 40)) (tM (G.2.1 (F a 35)) ((G.1 a 36).toInt)))
    (cp87 : CPd (G10.2.1 (F a 40)) (G.2.1 (F a 10)) (G_58.2.1 (F a 10)) 0 (10 * x43.toInt) 9)
    (e129 : x129.toInt = ((10 : Int) * x43.toInt))
    (t43 : 0 ≤ x43.toInt ∧ x43.toInt ≤ 12)
    (c50 : x43.toInt ≠ (12 : Int))
    (c_G119_F_a_10 : G119.2.1 (F a 10) = G_58.2.1 (F a 10)) :
    RV (G131.2.1 (F a 10)) := by
  exact (hR.cpd (by omega) cp87 dfo10).drop (aI_pu hG131 c_G119_F_a_10 (by omega) (by decide) (by omega))
theorem v_X11_rule_92_13 {F : Nat → Nat → Nat} (G_58 : XG) (a : Nat) (x43 : Int32) (G : XG) :
    ∀ s : Int, sF (aI (G_58.2.1 (F a 10)) (10 * x43.toInt + 0)) ≤ s → s < (sF (aI (G_58.2.1 (F a 10)) (10 * x43.toInt + 0))) → fzq (G_58.2.1 (F a 10)) (mw (G.2.1 (F a 1)) 0) (x43.toInt) s = 0 := by
  intro s h1 h2; exact absurd h1 (by omega)
theorem v_X11_rule_84_14 {F : Nat → Nat → Nat} (G80 : XG) (G_58 : XG) (a : Nat) (x73 : Int32) (x79 : Int32) (G10 : XG) (G : XG) (x43 : Int32) (l3_58 : Int32)
    (hG80 : G80 = cput G_58 (F a 10) x73.toNatClampNeg x79)
    (cp : CPd (G10.2.1 (F a 40)) (G.2.1 (F a 10)) (G_58.2.1 (F a 10)) 0 (10 * x43.toInt) (l3_58.toInt))
    (e73 : x73.toInt = (((10 : Int) * x43.toInt) + l3_58.toInt))
    (hv79 : x79.toInt = (aI (G10.2.1 (F a 40)) (l3_58.toInt)))
    (t43 : 0 ≤ x43.toInt ∧ x43.toInt ≤ 12)
    (c50 : x43.toInt ≠ (12 : Int))
    (I58_0 : 0 ≤ l3_58.toInt ∧ l3_58.toInt ≤ 9)
    (c61 : ¬ ((9 : Int) ≤ l3_58.toInt)) :
    CPd (G10.2.1 (F a 40)) (G.2.1 (F a 10)) (G80.2.1 (F a 10)) 0 (10 * x43.toInt) (l3_58.toInt + 1) := by
  exact cp.s (by omega) (by omega) (aI_pu hG80 rfl rfl hv79 (by omega)) (by omega) rfl
theorem v_X11_rule_57_15 {F : Nat → Nat → Nat} (x43 : Int32) (G10 : XG) (a : Nat) (G : XG) :
    CPd (G10.2.1 (F a 40)) (G.2.1 (F a 10)) (G.2.1 (F a 10)) 0 (10 * x43.toInt) (0 : Int) := by
  exact CPd.z _ _ _
theorem v_X11_rule_55_16 (G16 : XG) (a : Nat)
    (d_G16_a_36 : G16.1 a 36 = 0) :
    ((G16.1 a 36).toInt) = 0 := by
  rw [d_G16_a_36]; rfl
theorem v_X11_rule_55_17 {F : Nat → Nat → Nat} (G : XG) (a : Nat) (x10 : Int32) (G10 : XG) (x43 : Int32) (G16 : XG)
    (oq10 : (x10.toInt ≠ 0 ↔ rOk (tM (G.2.1 (F a 35)) ((G.1 a 36).toInt)) ((G.1 a 36).toInt)))
    (oq10a : (¬ rOk (tM (G.2.1 (F a 35)) ((G.1 a 36).toInt)) ((G.1 a 36).toInt) → ((G10.1 a 38).toInt) = (rS9 (tM (G.2.1 (F a 35)) ((G.1 a 36).toInt))).2.2 ∧ 0 ≤ (rS9 (tM (G.2.1 (F a 35)) ((G.1 a 36).toInt))).2.2 ∧ (rS9 (tM (G.2.1 (F a 35)) ((G.1 a 36).toInt))).2.2 ≤ ((G.1 a 36).toInt)))
    (oq43 : (x43.toInt = 12 ∨ aI (G.2.1 (F a 10)) (10 * x43.toInt + 0) = -1) ∧ ∀ i : Int, 0 ≤ i → i < x43.toInt → aI (G.2.1 (F a 10)) (10 * i + 0) ≠ -1)
    (nt0 : 0 ≤ ((G.1 a 36).toInt) ∧ ((G.1 a 36).toInt) ≤ 80)
    (c20 : x10.toInt ≠ 0)
    (c36 : ((G.1 a 6).toInt) = 0)
    (t43 : 0 ≤ x43.toInt ∧ x43.toInt ≤ 12)
    (c50 : ¬ (x43.toInt ≠ (12 : Int)))
    (c_G16_F_a_10 : G16.2.1 (F a 10) = G.2.1 (F a 10)) :
    (¬ rOk (tM (G.2.1 (F a 35)) ((G.1 a 36).toInt)) ((G.1 a 36).toInt) ∧ (-4 : Int) = -1000 - (rS9 (tM (G.2.1 (F a 35)) ((G.1 a 36).toInt))).2.2 ∧ G16.2.1 (F a 10) = (G.2.1 (F a 10))) ∨ (rOk (tM (G.2.1 (F a 35)) ((G.1 a 36).toInt)) ((G.1 a 36).toInt) ∧ ((G.1 a 6).toInt) ≠ 0 ∧ (-4 : Int) = -3 ∧ G16.2.1 (F a 10) = (G.2.1 (F a 10))) ∨ (rOk (tM (G.2.1 (F a 35)) ((G.1 a 36).toInt)) ((G.1 a 36).toInt) ∧ ((G.1 a 6).toInt) = 0 ∧ (∀ i : Int, 0 ≤ i → i < 12 → aI (G.2.1 (F a 10)) (10 * i + 0) ≠ -1) ∧ (-4 : Int) = -4 ∧ G16.2.1 (F a 10) = (G.2.1 (F a 10))) ∨ (rOk (tM (G.2.1 (F a 35)) ((G.1 a 36).toInt)) ((G.1 a 36).toInt) ∧ ((G.1 a 6).toInt) = 0 ∧ ∃ (k : Int) (d g : Nat → Int32), ((0 ≤ k ∧ k ≤ 11) ∧ aI (G.2.1 (F a 10)) (10 * k + 0) = -1 ∧ ∀ i : Int, 0 ≤ i → i < k → aI (G.2.1 (F a 10)) (10 * i + 0) ≠ -1) ∧ DFo d (tM (G.2.1 (F a 35)) ((G.1 a 36).toInt)) ∧ CPd d (G.2.1 (F a 10)) g 0 (10 * k) 9 ∧ (((∃ s : Int, sbj (aI g (10 * k + 0)) s ∧ fzq g (mw (G.2.1 (F a 1)) 0) k s = 1) ∧ (-4 : Int) = -5 ∧ ∀ z : Int, 0 ≤ z → aI (G16.2.1 (F a 10)) z = if z = 10 * k then -1 else aI g z) ∨ ((∀ s : Int, sbj (aI g (10 * k + 0)) s → fzq g (mw (G.2.1 (F a 1)) 0) k s = 0) ∧ (-4 : Int) = k ∧ G16.2.1 (F a 10) = g))) := by
  have ok : rOk (tM (G.2.1 (F a 35)) ((G.1 a 36).toInt)) ((G.1 a 36).toInt) := oq10.mp (by omega)
  exact Or.inr (Or.inr (Or.inl ⟨ok, by omega, fun i h1 h2 => oq43.2 i h1 (by omega), rfl, c_G16_F_a_10⟩))
theorem v_X11_rule_55_18 {F : Nat → Nat → Nat} (G : XG) (a : Nat) (G16 : XG)
    (hR : RV (G.2.1 (F a 10)))
    (c_G16_F_a_10 : G16.2.1 (F a 10) = G.2.1 (F a 10)) :
    RV (G16.2.1 (F a 10)) := by
  rw [c_G16_F_a_10]; exact hR
theorem v_X11_rule_41_19 (G16 : XG) (a : Nat)
    (d_G16_a_36 : G16.1 a 36 = 0) :
    ((G16.1 a 36).toInt) = 0 := by
  rw [d_G16_a_36]; rfl
theorem v_X11_rule_41_20 {F : Nat → Nat → Nat} (G : XG) (a : Nat) (x10 : Int32) (G10 : XG) (G16 : XG)
    (oq10 : (x10.toInt ≠ 0 ↔ rOk (tM (G.2.1 (F a 35)) ((G.1 a 36).toInt)) ((G.1 a 36).toInt)))
    (oq10a : (¬ rOk (tM (G.2.1 (F a 35)) ((G.1 a 36).toInt)) ((G.1 a 36).toInt) → ((G10.1 a 38).toInt) = (rS9 (tM (G.2.1 (F a 35)) ((G.1 a 36).toInt))).2.2 ∧ 0 ≤ (rS9 (tM (G.2.1 (F a 35)) ((G.1 a 36).toInt))).2.2 ∧ (rS9 (tM (G.2.1 (F a 35)) ((G.1 a 36).toInt))).2.2 ≤ ((G.1 a 36).toInt)))
    (nt0 : 0 ≤ ((G.1 a 36).toInt) ∧ ((G.1 a 36).toInt) ≤ 80)
    (c20 : x10.toInt ≠ 0)
    (c36 : ¬ (((G.1 a 6).toInt) = 0))
    (c_G16_F_a_10 : G16.2.1 (F a 10) = G.2.1 (F a 10)) :
    (¬ rOk (tM (G.2.1 (F a 35)) ((G.1 a 36).toInt)) ((G.1 a 36).toInt) ∧ (-3 : Int) = -1000 - (rS9 (tM (G.2.1 (F a 35)) ((G.1 a 36).toInt))).2.2 ∧ G16.2.1 (F a 10) = (G.2.1 (F a 10))) ∨ (rOk (tM (G.2.1 (F a 35)) ((G.1 a 36).toInt)) ((G.1 a 36).toInt) ∧ ((G.1 a 6).toInt) ≠ 0 ∧ (-3 : Int) = -3 ∧ G16.2.1 (F a 10) = (G.2.1 (F a 10))) ∨ (rOk (tM (G.2.1 (F a 35)) ((G.1 a 36).toInt)) ((G.1 a 36).toInt) ∧ ((G.1 a 6).toInt) = 0 ∧ (∀ i : Int, 0 ≤ i → i < 12 → aI (G.2.1 (F a 10)) (10 * i + 0) ≠ -1) ∧ (-3 : Int) = -4 ∧ G16.2.1 (F a 10) = (G.2.1 (F a 10))) ∨ (rOk (tM (G.2.1 (F a 35)) ((G.1 a 36).toInt)) ((G.1 a 36).toInt) ∧ ((G.1 a 6).toInt) = 0 ∧ ∃ (k : Int) (d g : Nat → Int32), ((0 ≤ k ∧ k ≤ 11) ∧ aI (G.2.1 (F a 10)) (10 * k + 0) = -1 ∧ ∀ i : Int, 0 ≤ i → i < k → aI (G.2.1 (F a 10)) (10 * i + 0) ≠ -1) ∧ DFo d (tM (G.2.1 (F a 35)) ((G.1 a 36).toInt)) ∧ CPd d (G.2.1 (F a 10)) g 0 (10 * k) 9 ∧ (((∃ s : Int, sbj (aI g (10 * k + 0)) s ∧ fzq g (mw (G.2.1 (F a 1)) 0) k s = 1) ∧ (-3 : Int) = -5 ∧ ∀ z : Int, 0 ≤ z → aI (G16.2.1 (F a 10)) z = if z = 10 * k then -1 else aI g z) ∨ ((∀ s : Int, sbj (aI g (10 * k + 0)) s → fzq g (mw (G.2.1 (F a 1)) 0) k s = 0) ∧ (-3 : Int) = k ∧ G16.2.1 (F a 10) = g))) := by
  have ok : rOk (tM (G.2.1 (F a 35)) ((G.1 a 36).toInt)) ((G.1 a 36).toInt) := oq10.mp (by omega)
  exact Or.inr (Or.inl ⟨ok, by omega, rfl, c_G16_F_a_10⟩)
theorem v_X11_rule_41_21 {F : Nat → Nat → Nat} (G : XG) (a : Nat) (G16 : XG)
    (hR : RV (G.2.1 (F a 10)))
    (c_G16_F_a_10 : G16.2.1 (F a 10) = G.2.1 (F a 10)) :
    RV (G16.2.1 (F a 10)) := by
  rw [c_G16_F_a_10]; exact hR
theorem v_X11_rule_23_22 {F : Nat → Nat → Nat} (x10 : Int32) (G : XG) (a : Nat) (G10 : XG)
    (oq10 : (x10.toInt ≠ 0 ↔ rOk (tM (G.2.1 (F a 35)) ((G.1 a 36).toInt)) ((G.1 a 36).toInt)))
    (oq10a : (¬ rOk (tM (G.2.1 (F a 35)) ((G.1 a 36).toInt)) ((G.1 a 36).toInt) → ((G10.1 a 38).toInt) = (rS9 (tM (G.2.1 (F a 35)) ((G.1 a 36).toInt))).2.2 ∧ 0 ≤ (rS9 (tM (G.2.1 (F a 35)) ((G.1 a 36).toInt))).2.2 ∧ (rS9 (tM (G.2.1 (F a 35)) ((G.1 a 36).toInt))).2.2 ≤ ((G.1 a 36).toInt)))
    (nt0 : 0 ≤ ((G.1 a 36).toInt) ∧ ((G.1 a 36).toInt) ≤ 80)
    (c20 : ¬ (x10.toInt ≠ 0)) :
    0 ≤ ((G10.1 a 38).toInt) ∧ ((G10.1 a 38).toInt) ≤ 80 := by
  have nk : ¬ rOk (tM (G.2.1 (F a 35)) ((G.1 a 36).toInt)) ((G.1 a 36).toInt) := fun h => oq10.mpr h (by omega)
  have pl := oq10a nk
  omega
theorem v_X11_rule_31_23 (G16 : XG) (a : Nat)
    (d_G16_a_36 : G16.1 a 36 = 0) :
    ((G16.1 a 36).toInt) = 0 := by
  rw [d_G16_a_36]; rfl
theorem v_X11_rule_31_24 {F : Nat → Nat → Nat} (G : XG) (a : Nat) (x10 : Int32) (G10 : XG) (G16 : XG)
    (oq10 : (x10.toInt ≠ 0 ↔ rOk (tM (G.2.1 (F a 35)) ((G.1 a 36).toInt)) ((G.1 a 36).toInt)))
    (oq10a : (¬ rOk (tM (G.2.1 (F a 35)) ((G.1 a 36).toInt)) ((G.1 a 36).toInt) → ((G10.1 a 38).toInt) = (rS9 (tM (G.2.1 (F a 35)) ((G.1 a 36).toInt))).2.2 ∧ 0 ≤ (rS9 (tM (G.2.1 (F a 35)) ((G.1 a 36).toInt))).2.2 ∧ (rS9 (tM (G.2.1 (F a 35)) ((G.1 a 36).toInt))).2.2 ≤ ((G.1 a 36).toInt)))
    (nt0 : 0 ≤ ((G.1 a 36).toInt) ∧ ((G.1 a 36).toInt) ≤ 80)
    (c20 : ¬ (x10.toInt ≠ 0))
    (c_G16_F_a_10 : G16.2.1 (F a 10) = G.2.1 (F a 10)) :
    (¬ rOk (tM (G.2.1 (F a 35)) ((G.1 a 36).toInt)) ((G.1 a 36).toInt) ∧ ((-1000 : Int) - ((G10.1 a 38).toInt)) = -1000 - (rS9 (tM (G.2.1 (F a 35)) ((G.1 a 36).toInt))).2.2 ∧ G16.2.1 (F a 10) = (G.2.1 (F a 10))) ∨ (rOk (tM (G.2.1 (F a 35)) ((G.1 a 36).toInt)) ((G.1 a 36).toInt) ∧ ((G.1 a 6).toInt) ≠ 0 ∧ ((-1000 : Int) - ((G10.1 a 38).toInt)) = -3 ∧ G16.2.1 (F a 10) = (G.2.1 (F a 10))) ∨ (rOk (tM (G.2.1 (F a 35)) ((G.1 a 36).toInt)) ((G.1 a 36).toInt) ∧ ((G.1 a 6).toInt) = 0 ∧ (∀ i : Int, 0 ≤ i → i < 12 → aI (G.2.1 (F a 10)) (10 * i + 0) ≠ -1) ∧ ((-1000 : Int) - ((G10.1 a 38).toInt)) = -4 ∧ G16.2.1 (F a 10) = (G.2.1 (F a 10))) ∨ (rOk (tM (G.2.1 (F a 35)) ((G.1 a 36).toInt)) ((G.1 a 36).toInt) ∧ ((G.1 a 6).toInt) = 0 ∧ ∃ (k : Int) (d g : Nat → Int32), ((0 ≤ k ∧ k ≤ 11) ∧ aI (G.2.1 (F a 10)) (10 * k + 0) = -1 ∧ ∀ i : Int, 0 ≤ i → i < k → aI (G.2.1 (F a 10)) (10 * i + 0) ≠ -1) ∧ DFo d (tM (G.2.1 (F a 35)) ((G.1 a 36).toInt)) ∧ CPd d (G.2.1 (F a 10)) g 0 (10 * k) 9 ∧ (((∃ s : Int, sbj (aI g (10 * k + 0)) s ∧ fzq g (mw (G.2.1 (F a 1)) 0) k s = 1) ∧ ((-1000 : Int) - ((G10.1 a 38).toInt)) = -5 ∧ ∀ z : Int, 0 ≤ z → aI (G16.2.1 (F a 10)) z = if z = 10 * k then -1 else aI g z) ∨ ((∀ s : Int, sbj (aI g (10 * k + 0)) s → fzq g (mw (G.2.1 (F a 1)) 0) k s = 0) ∧ ((-1000 : Int) - ((G10.1 a 38).toInt)) = k ∧ G16.2.1 (F a 10) = g))) := by
  have nk : ¬ rOk (tM (G.2.1 (F a 35)) ((G.1 a 36).toInt)) ((G.1 a 36).toInt) := fun h => oq10.mpr h (by omega)
  have pl := oq10a nk
  exact Or.inl ⟨nk, by omega, c_G16_F_a_10⟩
theorem v_X11_rule_31_25 {F : Nat → Nat → Nat} (G : XG) (a : Nat) (G16 : XG)
    (hR : RV (G.2.1 (F a 10)))
    (c_G16_F_a_10 : G16.2.1 (F a 10) = G.2.1 (F a 10)) :
    RV (G16.2.1 (F a 10)) := by
  rw [c_G16_F_a_10]; exact hR
theorem z_X11_rule_2 (a0 : Int) (h0 : 0 ≤ a0 ∧ a0 ≤ 9) : ¬ (2147483648 - a0 < ((0 : Nat) : Int)) := by omega
theorem z_X11_rule_3 (a0 : Int) (h0 : 0 ≤ a0 ∧ a0 ≤ 12) (h1 : a0 ≠ (12 : Int)) : 0 ≤ a0 ∧ a0 ≤ 11 := by omega
theorem z_X11_rule_4 (a0 : Int) (h0 : -2147483648 ≤ a0 ∧ a0 < 2147483648) : ¬ (2147483648 - a0 < ((0 : Nat) : Int)) := by omega
theorem z_X11_rule_6 (a0 : Int) (a1 : Int) (a2 : Int) (h0 : a0 = -2147483648 ∧ a1 = -2147483648 ∧ a2 = 0) : (0 ≤ a2 ∧ a2 ≤ 24) := by omega
theorem z_X11_rule_8 (a0 : Int) (h0 : (0 ≤ a0 ∧ a0 ≤ 5)) : a0 ≠ -1 := by omega
theorem z_X11_rule_9 (a0 : Int) (a1 : Int) (a2 : Int) (h0 : a1 ≤ a0 ∧ a0 ≤ a2 + 1) (h1 : ¬ (a2 < a0)) : a1 ≤ a0 ∧ a0 ≤ a2 := by omega
theorem z_X11_rule_10 (a0 : Int) (a1 : Int) (a2 : Int) (a3 : Int) (a4 : Int) (h0 : ((a2 = 2 ∨ a2 = 4 ∨ a2 = 5) ∧ a3 = 0 ∧ a4 = 29) ∨ (¬ (a2 = 2 ∨ a2 = 4 ∨ a2 = 5) ∧ a3 = -99 ∧ a4 = 99)) (h1 : ¬ (a4 < a0)) (h2 : a1 = (a0 + 1) ∨ (a0 + 1) < -2147483648 ∨ 2147483648 ≤ (a0 + 1)) (h3 : -2147483648 ≤ a0 ∧ a0 < 2147483648) : a1 = (a0 + 1) := by omega
theorem z_X11_rule_11 (a0 : Int) (a1 : Int) (a2 : Int) (h0 : a1 ≤ a0 ∧ a0 ≤ a2 + 1) (h1 : ¬ (a2 < a0)) : a1 ≤ (a0 + 1) ∧ (a0 + 1) ≤ a2 + 1 := by omega
theorem z_X11_rule_12 (a0 : Int) (a1 : Nat) (h0 : 2147483648 - a0 < ((a1 + 1 : Nat) : Int)) : 2147483648 - (a0 + 1) < ((a1 : Nat) : Int) := by omega
theorem z_X11_rule_14 (a0 : Int) (a1 : Int) (a2 : Int) (a3 : Int) (h0 : ((a1 = 2 ∨ a1 = 4 ∨ a1 = 5) ∧ a2 = 0 ∧ a3 = 29) ∨ (¬ (a1 = 2 ∨ a1 = 4 ∨ a1 = 5) ∧ a2 = -99 ∧ a3 = 99)) (h1 : a2 ≤ a0 ∧ a0 ≤ a3 + 1) (h2 : ¬ (a3 < a0)) : -99 ≤ a0 ∧ a0 ≤ 99 := by omega
theorem z_X11_rule_15 (a0 : Int) (a1 : Int) (h0 : 0 ≤ a1 ∧ a1 ≤ 12) (h1 : a0 = ((10 : Int) * a1) ∨ ((10 : Int) * a1) < -2147483648 ∨ 2147483648 ≤ ((10 : Int) * a1)) : a0 = ((10 : Int) * a1) := by omega
theorem z_X11_rule_16 (a0 : Int) (h0 : 0 ≤ a0 ∧ a0 ≤ 12) (h1 : a0 ≠ (12 : Int)) : 0 ≤ ((10 : Int) * a0) ∧ ((10 : Int) * a0) < ((120 : Nat) : Int) := by omega
theorem z_X11_rule_17 (a0 : Int) (a1 : Int) (a2 : Int) (a3 : Int) (a4 : Int) (h0 : a2 = a1 ∧ a3 = a0 ∧ 0 ≤ a4 ∧ a4 ≤ 24) : (0 ≤ a4 ∧ a4 ≤ 24) := by omega
theorem z_X11_rule_18 (a0 : Int) (a1 : Int) (a2 : Int) (h0 : ((a0 = 2 ∨ a0 = 4 ∨ a0 = 5) ∧ a1 = 0 ∧ a2 = 29) ∨ (¬ (a0 = 2 ∨ a0 = 4 ∨ a0 = 5) ∧ a1 = -99 ∧ a2 = 99)) : a1 ≤ a1 ∧ a1 ≤ a2 + 1 := by omega
theorem z_X11_rule_19 (a0 : Int) (a1 : Int) (a2 : Int) (h0 : ((a0 = 2 ∨ a0 = 4 ∨ a0 = 5) ∧ a1 = 0 ∧ a2 = 29) ∨ (¬ (a0 = 2 ∨ a0 = 4 ∨ a0 = 5) ∧ a1 = -99 ∧ a2 = 99)) : 2147483648 - a1 < ((4294967297 : Nat) : Int) := by omega
theorem z_X11_rule_20 (a0 : Int) (a1 : Int) (h0 : 0 ≤ a0 ∧ a0 ≤ 12) (h1 : a1 = ((10 : Int) * a0) ∨ ((10 : Int) * a0) < -2147483648 ∨ 2147483648 ≤ ((10 : Int) * a0)) : a1 = ((10 : Int) * a0) := by omega
theorem z_X11_rule_21 (a0 : Int) (a1 : Int) (a2 : Int) (h0 : 0 ≤ a1 ∧ a1 ≤ 12) (h1 : 0 ≤ a0 ∧ a0 ≤ 9) (h2 : a2 = (((10 : Int) * a1) + a0) ∨ (((10 : Int) * a1) + a0) < -2147483648 ∨ 2147483648 ≤ (((10 : Int) * a1) + a0)) : a2 = (((10 : Int) * a1) + a0) := by omega
theorem z_X11_rule_22 (a0 : Int) (h0 : 0 ≤ a0 ∧ a0 ≤ 9) : 0 ≤ a0 ∧ a0 < ((10 : Nat) : Int) := by omega
theorem z_X11_rule_23 (a0 : Int) (a1 : Int) (h0 : 0 ≤ a1 ∧ a1 ≤ 12) (h1 : a1 ≠ (12 : Int)) (h2 : 0 ≤ a0 ∧ a0 ≤ 9) : 0 ≤ (((10 : Int) * a1) + a0) ∧ (((10 : Int) * a1) + a0) < ((120 : Nat) : Int) := by omega
theorem z_X11_rule_24 (a0 : Int) (a1 : Int) (h0 : 0 ≤ a0 ∧ a0 ≤ 9) (h1 : a1 = (a0 + 1) ∨ (a0 + 1) < -2147483648 ∨ 2147483648 ≤ (a0 + 1)) : a1 = (a0 + 1) := by omega
theorem z_X11_rule_25 (a0 : Int) (h0 : 0 ≤ a0 ∧ a0 ≤ 9) (h1 : ¬ ((9 : Int) ≤ a0)) : 0 ≤ (a0 + 1) ∧ (a0 + 1) ≤ 9 := by omega
theorem z_X11_rule_26 (a0 : Int) (h0 : 0 ≤ a0 ∧ a0 ≤ 9) : (0 : Int) ≤ (a0 + 1) := by omega
theorem z_X11_rule_30 (a0 : Int) (a1 : Int) (h0 : 0 ≤ a1 ∧ a1 ≤ 80) (h1 : a0 = ((-1000 : Int) - a1) ∨ ((-1000 : Int) - a1) < -2147483648 ∨ 2147483648 ≤ ((-1000 : Int) - a1)) : a0 = ((-1000 : Int) - a1) := by omega
abbrev rm_X11_rule : Room := { frames := 5, cells := 0, slots := 0, locals := 112 }
set_option maxHeartbeats 4000000 in
set_option maxRecDepth 100000 in
theorem c_X11_rule (l : Launch) (E : XE) (K : Nat → Nat) (F : Nat → Nat → Nat) (G : XG) (a : Nat) (ha : K a = 13) (nt0 : 0 ≤ ((G.1 a 36).toInt) ∧ ((G.1 a 36).toInt) ≤ 80) (hR : RV (G.2.1 (F a 10))) (hM : RM (G.2.1 (F a 1)) (0)) (hwo : WDo G F a) : Met l yX11_rule (xw yX11_rule cX11_rule 4 (some .int)) rm_X11_rule (va_Pc [.ref a] (XP E K F G)) (XQ E (fun v (u : XG) => ∃ r : Int32, v = .int r ∧ XFr [(a, 0), (a, 20), (a, 21), (a, 23), (a, 36), (a, 37), (a, 38), (a, 39)] [F a 40, F a 10, F a 22] [] G u ∧ ((0 ≤ ((u.1 a 23).toInt) ∧ ((u.1 a 23).toInt) ≤ 24)) ∧ (((u.1 a 36).toInt) = 0) ∧ ((¬ rOk (tM (G.2.1 (F a 35)) ((G.1 a 36).toInt)) ((G.1 a 36).toInt) ∧ r.toInt = -1000 - (rS9 (tM (G.2.1 (F a 35)) ((G.1 a 36).toInt))).2.2 ∧ u.2.1 (F a 10) = (G.2.1 (F a 10))) ∨ (rOk (tM (G.2.1 (F a 35)) ((G.1 a 36).toInt)) ((G.1 a 36).toInt) ∧ ((G.1 a 6).toInt) ≠ 0 ∧ r.toInt = -3 ∧ u.2.1 (F a 10) = (G.2.1 (F a 10))) ∨ (rOk (tM (G.2.1 (F a 35)) ((G.1 a 36).toInt)) ((G.1 a 36).toInt) ∧ ((G.1 a 6).toInt) = 0 ∧ (∀ i : Int, 0 ≤ i → i < 12 → aI (G.2.1 (F a 10)) (10 * i + 0) ≠ -1) ∧ r.toInt = -4 ∧ u.2.1 (F a 10) = (G.2.1 (F a 10))) ∨ (rOk (tM (G.2.1 (F a 35)) ((G.1 a 36).toInt)) ((G.1 a 36).toInt) ∧ ((G.1 a 6).toInt) = 0 ∧ ∃ (k : Int) (d g : Nat → Int32), ((0 ≤ k ∧ k ≤ 11) ∧ aI (G.2.1 (F a 10)) (10 * k + 0) = -1 ∧ ∀ i : Int, 0 ≤ i → i < k → aI (G.2.1 (F a 10)) (10 * i + 0) ≠ -1) ∧ DFo d (tM (G.2.1 (F a 35)) ((G.1 a 36).toInt)) ∧ CPd d (G.2.1 (F a 10)) g 0 (10 * k) 9 ∧ (((∃ s : Int, sbj (aI g (10 * k + 0)) s ∧ fzq g (mw (G.2.1 (F a 1)) 0) k s = 1) ∧ r.toInt = -5 ∧ ∀ z : Int, 0 ≤ z → aI (u.2.1 (F a 10)) z = if z = 10 * k then -1 else aI g z) ∨ ((∀ s : Int, sbj (aI g (10 * k + 0)) s → fzq g (mw (G.2.1 (F a 1)) 0) k s = 0) ∧ r.toInt = k ∧ u.2.1 (F a 10) = g)))) ∧ (RV (u.2.1 (F a 10)))) (fun u H => TW E K F u H)) 0 0 (xA E) := by
  refine x_enter (by decide) (Nat.le_of_ble_eq_true rfl) ?_
  intro p e s m args below meth c Q S hr hlk hnm hQ hP ls hl
  obtain ⟨hz, hK, hT⟩ := hP
  obtain ⟨hx, hb, -, -, -⟩ := id S
  obtain ⟨H, hT, hS, hgo⟩ : ∃ H : Heap, TW E K F G H ∧ va_S (xA E) s.heap H [] ∧ H = s.heap := ⟨_, hT, va_S.rf, rfl⟩
  rw [← hgo]
  have hl : lv_has ls 4 [(0, .ref a)] := hl
  obtain ⟨hk9999, hj9999⟩ := fkX11_40 hT ha
  obtain ⟨hk9999a, hj9999a⟩ := fkX11_10 hT ha
  obtain ⟨hk9999b, hj9999b⟩ := fkX11_22 hT ha
  obtain ⟨hk9999c, hj9999c⟩ := fkX11_35 hT ha
  obtain ⟨hk9999d, hj9999d⟩ := fkX11_25 hT ha
  obtain ⟨hk9999e, hj9999e⟩ := fkX11_26 hT ha
  obtain ⟨hk9999f, hj9999f⟩ := fkX11_27 hT ha
  obtain ⟨hk9999g, hj9999g⟩ := fkX11_28 hT ha
  obtain ⟨hk9999h, hj9999h⟩ := fkX11_29 hT ha
  obtain ⟨hk9999i, hj9999i⟩ := fkX11_30 hT ha
  obtain ⟨hk9999j, hj9999j⟩ := fkX11_1 hT ha
  refine lv_aload_n hx hb dX11_rule_0 rfl (lv_at hl 0 rfl) ?_
  refine lv_iconst (v := 0) hx hb dX11_rule_1 (by decide) ?_
  refine pX11_0 (v := 0) S hK hT hS ha kf_X11_134 dX11_rule_2 (fun H locs hT hS => ?_)
  obtain ⟨G2, hG2⟩ : ∃ GG : XG, GG = dput G a 0 0 := ⟨_, rfl⟩
  rw [← hG2] at hT
  refine lv_aload_n hx hb dX11_rule_5 rfl (lv_at hl 0 rfl) ?_
  refine x_cv0 (x_runV (b := a) (As := []) (rest := []) S (c_X11_nothing l E K F G2 a ha) mv_X11_nothing km_X11_231 rfl rfl ⟨Nat.le_of_ble_eq_true rfl, Nat.le_of_ble_eq_true rfl⟩ (rc_13 hK hT ha) hK (fun _ => XP.blind) (fun U hU hW => XP.at hK hz hS hT hU hW) rfl hl.1 (Nat.le_of_ble_eq_true rfl) dX11_rule_6 ⟨Nat.le_of_ble_eq_true rfl, Nat.le_of_ble_eq_true rfl⟩) hS ?_
  rintro G6 H locs ⟨hF6, t6⟩ hT hS
  have t6 : ((G6.1 a 20).toInt) = -2147483648 ∧ ((G6.1 a 21).toInt) = -2147483648 ∧ ((G6.1 a 23).toInt) = 0 := t6
  refine lv_aload_n hx hb dX11_rule_9 rfl (lv_at hl 0 rfl) ?_
  refine x_cl0 (x_runV (b := a) (As := []) (rest := []) S (c_X11_read l E K F G6 a ha (by rw [(show (G6.1 a 36).toInt = ((G.1 a 36).toInt) from (congrArg Int32.toInt ((hF6.1 _ _ (xnj (by decide) (xnj (by decide) (xnj (by decide) xn0)))).trans (ld_j hG2 (by decide)))).trans (rfl : Int32.toInt (G.1 a 36) = ((G.1 a 36).toInt)))] <;> exact (nt0)) (v_X11_rule_10_1 (F := F) G2 G a G6 hG2 hF6 hwo)) mv_X11_read km_X11_292 rfl rfl ⟨Nat.le_of_ble_eq_true rfl, Nat.le_of_ble_eq_true rfl⟩ (rc_13 hK hT ha) hK (fun _ => XP.blind) (fun U hU hW => XP.at hK hz hS hT hU hW) rfl hl.1 (Nat.le_of_ble_eq_true rfl) dX11_rule_10 ⟨Nat.le_of_ble_eq_true rfl, Nat.le_of_ble_eq_true rfl⟩) hS ?_
  rintro _ G10 H locs ⟨x10, rfl, b10, hF10, oq10, oq10a, oq10b⟩ hT hS
  have oq10 : (x10.toInt ≠ 0 ↔ rOk (tM (G.2.1 (F a 35)) ((G.1 a 36).toInt)) ((G.1 a 36).toInt)) := by simp only [(show G6.2.1 (F a 35) = G.2.1 (F a 35) from ((hF6.2.1 _ xn0).trans (ld_c hG2))), (show G6.1 a 36 = G.1 a 36 from ((hF6.1 _ _ (xnj (by decide) (xnj (by decide) (xnj (by decide) xn0)))).trans (ld_j hG2 (by decide))))] at oq10; exact oq10
  have oq10a : (¬ rOk (tM (G.2.1 (F a 35)) ((G.1 a 36).toInt)) ((G.1 a 36).toInt) → ((G10.1 a 38).toInt) = (rS9 (tM (G.2.1 (F a 35)) ((G.1 a 36).toInt))).2.2 ∧ 0 ≤ (rS9 (tM (G.2.1 (F a 35)) ((G.1 a 36).toInt))).2.2 ∧ (rS9 (tM (G.2.1 (F a 35)) ((G.1 a 36).toInt))).2.2 ≤ ((G.1 a 36).toInt)) := by simp only [(show G6.2.1 (F a 35) = G.2.1 (F a 35) from ((hF6.2.1 _ xn0).trans (ld_c hG2))), (show G6.1 a 36 = G.1 a 36 from ((hF6.1 _ _ (xnj (by decide) (xnj (by decide) (xnj (by decide) xn0)))).trans (ld_j hG2 (by decide))))] at oq10a; exact oq10a
  have oq10b : aI (G10.2.1 (F a 40)) 0 = (rS1 (tM (G.2.1 (F a 35)) ((G.1 a 36).toInt))).1 ∧ aI (G10.2.1 (F a 40)) 1 = (rS2 (tM (G.2.1 (F a 35)) ((G.1 a 36).toInt))).1 ∧ aI (G10.2.1 (F a 40)) 2 = (rS3 (tM (G.2.1 (F a 35)) ((G.1 a 36).toInt))).1 ∧ aI (G10.2.1 (F a 40)) 3 = (rS4 (tM (G.2.1 (F a 35)) ((G.1 a 36).toInt))).1 ∧ aI (G10.2.1 (F a 40)) 4 = (rS5 (tM (G.2.1 (F a 35)) ((G.1 a 36).toInt))).1 ∧ aI (G10.2.1 (F a 40)) 5 = (rS6 (tM (G.2.1 (F a 35)) ((G.1 a 36).toInt))).1 ∧ aI (G10.2.1 (F a 40)) 6 = (rS8 (tM (G.2.1 (F a 35)) ((G.1 a 36).toInt))).1 ∧ aI (G10.2.1 (F a 40)) 7 = (rS9 (tM (G.2.1 (F a 35)) ((G.1 a 36).toInt))).1 ∧ aI (G10.2.1 (F a 40)) 8 = (rS7 (tM (G.2.1 (F a 35)) ((G.1 a 36).toInt))).1 := by simp only [(show G6.2.1 (F a 35) = G.2.1 (F a 35) from ((hF6.2.1 _ xn0).trans (ld_c hG2))), (show G6.1 a 36 = G.1 a 36 from ((hF6.1 _ _ (xnj (by decide) (xnj (by decide) (xnj (by decide) xn0)))).trans (ld_j hG2 (by decide))))] at oq10b; exact oq10b
  have dfo10 : DFo (G10.2.1 (F a 40)) (tM (G.2.1 (F a 35)) ((G.1 a 36).toInt)) := oq10b
  refine lv_istore_n (lv' := [(1, .int x10), (0, .ref a)]) hx hb dX11_rule_13 rfl hl (by decide) rfl (fun ls hl => ?_)
  refine lv_aload_n hx hb dX11_rule_14 rfl (lv_at hl 1 rfl) ?_
  refine lv_iconst (v := 0) hx hb dX11_rule_15 (by decide) ?_
  refine pX11_36 (v := 0) S hK hT hS ha kf_X11_245 dX11_rule_16 (fun H locs hT hS => ?_)
  obtain ⟨G16, hG16⟩ : ∃ GG : XG, GG = dput G10 a 36 0 := ⟨_, rfl⟩
  rw [← hG16] at hT
  refine lv_iload_n hx hb dX11_rule_19 rfl (lv_at hl 0 rfl) ?_
  refine xi_zne (tgt := 32) hx hb (rfl : Int32.toInt x10 = x10.toInt) dX11_rule_20 (by decide) (fun c20 => ?_) (fun c20 => ?_)
  · refine lv_aload_n hx hb dX11_rule_32 rfl (lv_at hl 1 rfl) ?_
    refine gX11_6 S hK hT ha kf_X11_206 dX11_rule_33 (v := (G.1 a 6)) ((ld_j hG16 (by decide)).trans ((hF10.1 _ _ (xnj (by decide) (xnj (by decide) (xnj (by decide) xn0)))).trans ((hF6.1 _ _ (xnj (by decide) (xnj (by decide) (xnj (by decide) xn0)))).trans (ld_j hG2 (by decide))))) (fun hz33 => ?_)
    refine xi_zeq (tgt := 42) hx hb (rfl : Int32.toInt (G.1 a 6) = ((G.1 a 6).toInt)) dX11_rule_36 (by decide) (fun c36 => ?_) (fun c36 => ?_)
    · refine lv_aload_n hx hb dX11_rule_42 rfl (lv_at hl 1 rfl) ?_
      refine x_clp (x_runV (b := a) (As := []) (rest := []) S (c_X11_freeRule l E K F G16 H a ha) mv_X11_freeRule km_X11_296 rfl rfl ⟨Nat.le_of_ble_eq_true rfl, Nat.le_of_ble_eq_true rfl⟩ (rc_13 hK hT ha) hK (fun _ => XPh.blind) (fun U hU hW => XPh.at hK hz hS hT hU hW) rfl hl.1 (Nat.le_of_ble_eq_true rfl) dX11_rule_43 ⟨Nat.le_of_ble_eq_true rfl, Nat.le_of_ble_eq_true rfl⟩) hS ?_
      rintro _ _ locs ⟨x43, rfl, t43, oq43⟩ hS
      have t43 : 0 ≤ x43.toInt ∧ x43.toInt ≤ 12 := t43
      have oq43 : (x43.toInt = 12 ∨ aI (G.2.1 (F a 10)) (10 * x43.toInt + 0) = -1) ∧ ∀ i : Int, 0 ≤ i → i < x43.toInt → aI (G.2.1 (F a 10)) (10 * i + 0) ≠ -1 := by simp only [(show G16.2.1 (F a 10) = G.2.1 (F a 10) from ((ld_c hG16).trans ((hF10.2.1 _ (xn1 (xne_k hk9999a hk9999 (by decide)) xn0)).trans ((hF6.2.1 _ xn0).trans (ld_c hG2)))))] at oq43; exact oq43
      refine lv_istore_n (lv' := [(2, .int x43), (1, .int x10), (0, .ref a)]) hx hb dX11_rule_46 rfl hl (by decide) rfl (fun ls hl => ?_)
      refine lv_iload_n hx hb dX11_rule_47 rfl (lv_at hl 0 rfl) ?_
      refine lv_bipush (v := 12) hx hb dX11_rule_48 (by decide) ?_
      refine xi_cne (tgt := 56) hx hb (rfl : Int32.toInt x43 = x43.toInt) ((by decide) : Int32.toInt 12 = (12 : Int)) dX11_rule_50 (by decide) (fun c50 => ?_) (fun c50 => ?_)
      · refine lv_iconst (v := 0) hx hb dX11_rule_56 (by decide) ?_
        refine lv_istore_n (lv' := [(3, .int 0), (2, .int x43), (1, .int x10), (0, .ref a)]) hx hb dX11_rule_57 rfl hl (by decide) rfl (fun ls hl => ?_)
        have L58 : ∀ (N58 : Nat) (l3_58 : Int32) (G_58 : XG) (H : Heap) (locs : List Loc) (ls : Array Slot), XFr [] [F a 10] [] G16 G_58 → CPd (G10.2.1 (F a 40)) (G.2.1 (F a 10)) (G_58.2.1 (F a 10)) 0 (10 * x43.toInt) (l3_58.toInt) → 0 ≤ l3_58.toInt ∧ l3_58.toInt ≤ 9 → (0 : Int) ≤ l3_58.toInt → 2147483648 - l3_58.toInt < ((N58 : Nat) : Int) → TW E K F G_58 H → va_S (xA E) s.heap H locs → lv_has ls 4 [(0, .ref a), (2, .int x43), (3, .int l3_58)] → W p l e rm_X11_rule s m args below meth c H locs 0 0 Q (F0 m 58 ls []) := by
          intro N58
          induction N58 with
          | zero =>
            intro l3_58 G_58 H locs ls hF_58 cp I58_0 I58_1 hm58
            exact absurd hm58 (z_X11_rule_2 l3_58.toInt I58_0)
          | succ N58 ih58 =>
            intro l3_58 G_58 H locs ls hF_58 cp I58_0 I58_1 hm58 hT hS hl
            refine lv_iload_n hx hb dX11_rule_58 rfl (lv_at hl 2 rfl) ?_
            refine lv_bipush (v := 9) hx hb dX11_rule_59 (by decide) ?_
            refine xi_cge (tgt := 87) hx hb (rfl : Int32.toInt l3_58 = l3_58.toInt) ((by decide) : Int32.toInt 9 = (9 : Int)) dX11_rule_61 (by decide) (fun c61 => ?_) (fun c61 => ?_)
            · have cp87 : CPd (G10.2.1 (F a 40)) (G.2.1 (F a 10)) (G_58.2.1 (F a 10)) 0 (10 * x43.toInt) 9 := (v_X11_rule_87_2 (F := F) G10 a G G_58 x43 l3_58 cp I58_0 c61)
              have kd87 : (0 ≤ (aI (G_58.2.1 (F a 10)) (10 * x43.toInt + 0)) ∧ (aI (G_58.2.1 (F a 10)) (10 * x43.toInt + 0)) ≤ 5) := (v_X11_rule_87_3 (F := F) G10 a G x43 G_58 dfo10 oq43 cp87 t43 c50)
              have sf87 : (((aI (G_58.2.1 (F a 10)) (10 * x43.toInt + 0)) = 2 ∨ (aI (G_58.2.1 (F a 10)) (10 * x43.toInt + 0)) = 4 ∨ (aI (G_58.2.1 (F a 10)) (10 * x43.toInt + 0)) = 5) ∧ (sF (aI (G_58.2.1 (F a 10)) (10 * x43.toInt + 0))) = 0 ∧ (sL (aI (G_58.2.1 (F a 10)) (10 * x43.toInt + 0))) = 29) ∨ (¬ ((aI (G_58.2.1 (F a 10)) (10 * x43.toInt + 0)) = 2 ∨ (aI (G_58.2.1 (F a 10)) (10 * x43.toInt + 0)) = 4 ∨ (aI (G_58.2.1 (F a 10)) (10 * x43.toInt + 0)) = 5) ∧ (sF (aI (G_58.2.1 (F a 10)) (10 * x43.toInt + 0))) = -99 ∧ (sL (aI (G_58.2.1 (F a 10)) (10 * x43.toInt + 0))) = 99) := sFL _
              refine lv_aload_n hx hb dX11_rule_87 rfl (lv_at hl 0 rfl) ?_
              refine lv_iload_n hx hb dX11_rule_88 rfl (lv_at hl 1 rfl) ?_
              refine x_clp (x_runV (b := a) (As := [.int x43]) (rest := []) S (c_X11_firstSubject l E K F G_58 H a x43 ha (z_X11_rule_3 x43.toInt t43 c50)) mv_X11_firstSubject km_X11_179 rfl rfl ⟨Nat.le_of_ble_eq_true rfl, Nat.le_of_ble_eq_true rfl⟩ (rc_13 hK hT ha) hK (fun _ => XPh.blind) (fun U hU hW => XPh.at hK hz hS hT hU hW) rfl hl.1 (Nat.le_of_ble_eq_true rfl) dX11_rule_89 ⟨Nat.le_of_ble_eq_true rfl, Nat.le_of_ble_eq_true rfl⟩) hS ?_
              rintro _ _ locs ⟨x89, rfl, t89⟩ hS
              have t89 : x89.toInt = (sF (aI (G_58.2.1 (F a 10)) (10 * x43.toInt + 0))) := t89
              refine lv_istore_n (lv' := [(3, .int x89), (0, .ref a), (2, .int x43)]) hx hb dX11_rule_92 rfl hl (by decide) rfl (fun ls hl => ?_)
              have L93 : ∀ (N93 : Nat) (l3_93 : Int32) (H : Heap) (locs : List Loc) (ls : Array Slot), (∀ s : Int, sF (aI (G_58.2.1 (F a 10)) (10 * x43.toInt + 0)) ≤ s → s < l3_93.toInt → fzq (G_58.2.1 (F a 10)) (mw (G.2.1 (F a 1)) 0) (x43.toInt) s = 0) → (sF (aI (G_58.2.1 (F a 10)) (10 * x43.toInt + 0))) ≤ l3_93.toInt ∧ l3_93.toInt ≤ (sL (aI (G_58.2.1 (F a 10)) (10 * x43.toInt + 0))) + 1 → 2147483648 - l3_93.toInt < ((N93 : Nat) : Int) → TW E K F G_58 H → va_S (xA E) s.heap H locs → lv_has ls 4 [(0, .ref a), (2, .int x43), (3, .int l3_93)] → W p l e rm_X11_rule s m args below meth c H locs 0 0 Q (F0 m 93 ls []) := by
                intro N93
                induction N93 with
                | zero =>
                  intro l3_93 H locs ls pz I93_0 hm93
                  exact absurd hm93 (z_X11_rule_4 l3_93.toInt (xr l3_93))
                | succ N93 ih93 =>
                  intro l3_93 H locs ls pz I93_0 hm93 hT hS hl
                  refine lv_iload_n hx hb dX11_rule_93 rfl (lv_at hl 2 rfl) ?_
                  refine lv_aload_n hx hb dX11_rule_94 rfl (lv_at hl 0 rfl) ?_
                  refine lv_iload_n hx hb dX11_rule_95 rfl (lv_at hl 1 rfl) ?_
                  refine x_clp (x_runV (b := a) (As := [.int x43]) (rest := [.int l3_93]) S (c_X11_lastSubject l E K F G_58 H a x43 ha (z_X11_rule_3 x43.toInt t43 c50)) mv_X11_lastSubject km_X11_183 rfl rfl ⟨Nat.le_of_ble_eq_true rfl, Nat.le_of_ble_eq_true rfl⟩ (rc_13 hK hT ha) hK (fun _ => XPh.blind) (fun U hU hW => XPh.at hK hz hS hT hU hW) rfl hl.1 (Nat.le_of_ble_eq_true rfl) dX11_rule_96 ⟨Nat.le_of_ble_eq_true rfl, Nat.le_of_ble_eq_true rfl⟩) hS ?_
                  rintro _ _ locs ⟨x96, rfl, t96⟩ hS
                  have t96 : x96.toInt = (sL (aI (G_58.2.1 (F a 10)) (10 * x43.toInt + 0))) := t96
                  refine xi_cgt (tgt := 141) hx hb (rfl : Int32.toInt l3_93 = l3_93.toInt) (t96 : Int32.toInt x96 = (sL (aI (G_58.2.1 (F a 10)) (10 * x43.toInt + 0)))) dX11_rule_99 (by decide) (fun c99 => ?_) (fun c99 => ?_)
                  · refine lv_iload_n hx hb dX11_rule_141 rfl (lv_at hl 1 rfl) ?_
                    exact x_ri hx hb hr hlk hQ (Nat.le_of_ble_eq_true rfl) (Nat.le_of_ble_eq_true rfl) hS dX11_rule_142 G_58 ⟨_, rfl, (XFr.call (by rw [hG16]; exact XFr.dput (XFr.call (XFr.call (by rw [hG2]; exact XFr.dput XFr.rf (List.mem_of_getElem? (i := 0) rfl)) hF6 (xm1 1 rfl (xm1 2 rfl (xm1 3 rfl xm0))) xm0 xm0) hF10 (xm1 5 rfl (xm1 6 rfl (xm1 7 rfl xm0))) (xm1 0 rfl xm0) xm0) (List.mem_of_getElem? (i := 4) rfl)) hF_58 xm0 (xm1 1 rfl xm0) xm0), (by rw [(show (G_58.1 a 23).toInt = ((G6.1 a 23).toInt) from (congrArg Int32.toInt ((hF_58.1 _ _ xn0).trans ((ld_j hG16 (by decide)).trans (hF10.1 _ _ (xnj (by decide) (xnj (by decide) (xnj (by decide) xn0))))))).trans (rfl : Int32.toInt (G6.1 a 23) = ((G6.1 a 23).toInt)))] <;> exact (z_X11_rule_6 ((G6.1 a 20).toInt) ((G6.1 a 21).toInt) ((G6.1 a 23).toInt) t6)), (v_X11_rule_142_4 G_58 a ((hF_58.1 _ _ xn0).trans (ld_at hG16))), (v_X11_rule_142_5 (F := F) G a x10 G10 x43 G_58 l3_93 oq10 oq10a dfo10 oq43 cp87 pz nt0 c20 c36 t43 c50 kd87 sf87 I93_0 c99), (v_X11_rule_142_6 (F := F) G a G10 G_58 x43 hR dfo10 cp87 t43 c50)⟩ hT
                  · refine lv_aload_n hx hb dX11_rule_102 rfl (lv_at hl 0 rfl) ?_
                    refine lv_iload_n hx hb dX11_rule_103 rfl (lv_at hl 1 rfl) ?_
                    refine lv_iload_n hx hb dX11_rule_104 rfl (lv_at hl 2 rfl) ?_
                    refine lv_aload_n hx hb dX11_rule_105 rfl (lv_at hl 0 rfl) ?_
                    refine gX11_1 S hK hT ha kf_X11_9 dX11_rule_106 (fun _ _ => ?_)
                    refine lv_iconst (v := 0) hx hb dX11_rule_109 (by decide) ?_
                    refine x_clp (x_runV (b := a) (As := [.int x43, .int l3_93, .ref (F a 1), .int 0]) (rest := []) S (c_X11_fails l E K F G_58 H a x43 l3_93 (F a 1) 0 ha (XO.a hk9999j (by decide)) (z_X11_rule_3 x43.toInt t43 c50) (z_X11_rule_8 (aI (G_58.2.1 (F a 10)) (10 * x43.toInt + 0)) kd87) (z_X11_rule_9 l3_93.toInt (sF (aI (G_58.2.1 (F a 10)) (10 * x43.toInt + 0))) (sL (aI (G_58.2.1 (F a 10)) (10 * x43.toInt + 0))) I93_0 c99) (v_X11_rule_110_7 (F := F) G a G10 G_58 x43 hR dfo10 cp87 t43 c50) (v_X11_rule_110_8 (F := F) a G G_58 hM ((hF_58.2.1 _ (xn1 (xne_k hk9999j hk9999a (by decide)) xn0)).trans ((ld_c hG16).trans ((hF10.2.1 _ (xn1 (xne_k hk9999j hk9999 (by decide)) xn0)).trans ((hF6.2.1 _ xn0).trans (ld_c hG2))))))) mv_X11_fails km_X11_221 rfl rfl ⟨Nat.le_of_ble_eq_true rfl, Nat.le_of_ble_eq_true rfl⟩ (rc_13 hK hT ha) hK (fun _ => XPh.blind) (fun U hU hW => XPh.at hK hz hS hT hU hW) rfl hl.1 (Nat.le_of_ble_eq_true rfl) dX11_rule_110 ⟨Nat.le_of_ble_eq_true rfl, Nat.le_of_ble_eq_true rfl⟩) hS ?_
                    rintro _ _ locs ⟨x110, rfl, b110, t110⟩ hS
                    have t110 : x110.toInt = (flq (mw (G.2.1 (F a 1)) 0) (aI (G_58.2.1 (F a 10)) (10 * x43.toInt + 0)) (aI (G_58.2.1 (F a 10)) (10 * x43.toInt + 1)) (aI (G_58.2.1 (F a 10)) (10 * x43.toInt + 2)) (aI (G_58.2.1 (F a 10)) (10 * x43.toInt + 4)) (aI (G_58.2.1 (F a 10)) (10 * x43.toInt + 5)) (l3_93.toInt) (stt (mw (G.2.1 (F a 1)) 0) (aI (G_58.2.1 (F a 10)) (10 * x43.toInt + 0)) (aI (G_58.2.1 (F a 10)) (10 * x43.toInt + 1)) (aI (G_58.2.1 (F a 10)) (10 * x43.toInt + 2)) (aI (G_58.2.1 (F a 10)) (10 * x43.toInt + 3)) (l3_93.toInt))) := by rw [(show G_58.2.1 (F a 1) = G.2.1 (F a 1) from ((hF_58.2.1 _ (xn1 (xne_k hk9999j hk9999a (by decide)) xn0)).trans ((ld_c hG16).trans ((hF10.2.1 _ (xn1 (xne_k hk9999j hk9999 (by decide)) xn0)).trans ((hF6.2.1 _ xn0).trans (ld_c hG2))))))] at t110; exact t110
                    refine xi_zeq (tgt := 135) hx hb (rfl : Int32.toInt x110 = x110.toInt) dX11_rule_113 (by decide) (fun c113 => ?_) (fun c113 => ?_)
                    · refine xi_iinc (n := 1) (lv' := fun z9 => [(3, .int z9), (0, .ref a), (2, .int x43)]) (k := 2) hx hb (rfl : Int32.toInt l3_93 = l3_93.toInt) (by decide) dX11_rule_135 hl rfl (by decide) (fun _ => rfl) (fun x135 ls t135 hl => ?_)
                      have e135 : x135.toInt = (l3_93.toInt + 1) := (z_X11_rule_10 l3_93.toInt x135.toInt (aI (G_58.2.1 (F a 10)) (10 * x43.toInt + 0)) (sF (aI (G_58.2.1 (F a 10)) (10 * x43.toInt + 0))) (sL (aI (G_58.2.1 (F a 10)) (10 * x43.toInt + 0))) sf87 c99 t135 (xr l3_93))
                      have hl : lv_has ls 4 [(3, .int x135), (0, .ref a), (2, .int x43)] := hl
                      refine lv_goto (tgt := 93) hx hb dX11_rule_138 (by decide) ?_
                      exact ih93 x135 _ _ _ (by rw [(e135 : Int32.toInt x135 = (l3_93.toInt + 1))] <;> exact (v_X11_rule_138_9 (F := F) G_58 a x43 l3_93 G x110 pz t110 c113)) (by rw [(e135 : Int32.toInt x135 = (l3_93.toInt + 1))] <;> exact (z_X11_rule_11 l3_93.toInt (sF (aI (G_58.2.1 (F a 10)) (10 * x43.toInt + 0))) (sL (aI (G_58.2.1 (F a 10)) (10 * x43.toInt + 0))) I93_0 c99)) (by rw [(e135 : Int32.toInt x135 = (l3_93.toInt + 1))] <;> exact (z_X11_rule_12 l3_93.toInt N93 hm93)) hT hS (lv_sub hl [1, 2, 0] rfl)
                    · refine lv_aload_n hx hb dX11_rule_116 rfl (lv_at hl 0 rfl) ?_
                      refine lv_iload_n hx hb dX11_rule_117 rfl (lv_at hl 1 rfl) ?_
                      refine lv_iload_n hx hb dX11_rule_118 rfl (lv_at hl 2 rfl) ?_
                      refine x_cv0 (x_runV (b := a) (As := [.int x43, .int l3_93]) (rest := []) S (c_X11_failed l E K F G_58 a x43 l3_93 ha (z_X11_rule_3 x43.toInt t43 c50) (z_X11_rule_14 l3_93.toInt (aI (G_58.2.1 (F a 10)) (10 * x43.toInt + 0)) (sF (aI (G_58.2.1 (F a 10)) (10 * x43.toInt + 0))) (sL (aI (G_58.2.1 (F a 10)) (10 * x43.toInt + 0))) sf87 I93_0 c99)) mv_X11_failed km_X11_299 rfl rfl ⟨Nat.le_of_ble_eq_true rfl, Nat.le_of_ble_eq_true rfl⟩ (rc_13 hK hT ha) hK (fun _ => XP.blind) (fun U hU hW => XP.at hK hz hS hT hU hW) rfl hl.1 (Nat.le_of_ble_eq_true rfl) dX11_rule_119 ⟨Nat.le_of_ble_eq_true rfl, Nat.le_of_ble_eq_true rfl⟩) hS ?_
                      rintro G119 H locs ⟨hF119, t119⟩ hT hS
                      have t119 : ((G119.1 a 20).toInt) = x43.toInt ∧ ((G119.1 a 21).toInt) = l3_93.toInt ∧ 0 ≤ ((G119.1 a 23).toInt) ∧ ((G119.1 a 23).toInt) ≤ 24 := t119
                      refine lv_aload_n hx hb dX11_rule_122 rfl (lv_at hl 0 rfl) ?_
                      refine gX11_10 S hK hT ha kf_X11_33 dX11_rule_123 (fun _ _ => ?_)
                      refine lv_bipush (v := 10) hx hb dX11_rule_126 (by decide) ?_
                      refine lv_iload_n hx hb dX11_rule_128 rfl (lv_at hl 1 rfl) ?_
                      refine xi_imul hx hb ((by decide) : Int32.toInt 10 = (10 : Int)) (rfl : Int32.toInt x43 = x43.toInt) dX11_rule_129 (fun x129 t129 => ?_)
                      have e129 : x129.toInt = ((10 : Int) * x43.toInt) := (z_X11_rule_15 x129.toInt x43.toInt t43 t129)
                      refine lv_iconst (v := (-1)) hx hb dX11_rule_130 (by decide) ?_
                      refine as_0 (x := (-1)) S hK hT hS hk9999a ar_37 aw_37 (by decide) (by rw [(e129 : Int32.toInt x129 = ((10 : Int) * x43.toInt))]; exact (z_X11_rule_16 x43.toInt t43 c50)) dX11_rule_131 (fun H locs hT hS => ?_)
                      obtain ⟨G131, hG131⟩ : ∃ GG : XG, GG = cput G119 (F a 10) x129.toNatClampNeg (-1) := ⟨_, rfl⟩
                      rw [← hG131] at hT
                      refine lv_bipush (v := (-5)) hx hb dX11_rule_132 (by decide) ?_
                      exact x_ri hx hb hr hlk hQ (Nat.le_of_ble_eq_true rfl) (Nat.le_of_ble_eq_true rfl) hS dX11_rule_134 G131 ⟨_, rfl, (by rw [hG131]; exact XFr.cput (XFr.call (XFr.call (by rw [hG16]; exact XFr.dput (XFr.call (XFr.call (by rw [hG2]; exact XFr.dput XFr.rf (List.mem_of_getElem? (i := 0) rfl)) hF6 (xm1 1 rfl (xm1 2 rfl (xm1 3 rfl xm0))) xm0 xm0) hF10 (xm1 5 rfl (xm1 6 rfl (xm1 7 rfl xm0))) (xm1 0 rfl xm0) xm0) (List.mem_of_getElem? (i := 4) rfl)) hF_58 xm0 (xm1 1 rfl xm0) xm0) hF119 (xm1 1 rfl (xm1 2 rfl (xm1 3 rfl xm0))) (xm1 2 rfl xm0) xm0) (List.mem_of_getElem? (i := 1) rfl)), (by rw [(show (G131.1 a 23).toInt = ((G119.1 a 23).toInt) from (congrArg Int32.toInt (lc_d hG131)).trans (rfl : Int32.toInt (G119.1 a 23) = ((G119.1 a 23).toInt)))] <;> exact (z_X11_rule_17 l3_93.toInt x43.toInt ((G119.1 a 20).toInt) ((G119.1 a 21).toInt) ((G119.1 a 23).toInt) t119)), (v_X11_rule_134_10 G131 a ((lc_d hG131).trans ((hF119.1 _ _ (xnj (by decide) (xnj (by decide) (xnj (by decide) xn0)))).trans ((hF_58.1 _ _ xn0).trans (ld_at hG16))))), (by rw [((by decide) : Int32.toInt (-5) = (-5 : Int))] <;> exact (v_X11_rule_134_11 (F := F) G131 G119 a x129 G x10 G10 x43 G_58 l3_93 x110 hG131 oq10 oq10a dfo10 oq43 cp87 e129 nt0 c20 c36 t43 c50 kd87 sf87 I93_0 c99 t110 c113 (hF119.2.1 _ (xn1 (xne_k hk9999a hk9999b (by decide)) xn0)))), (v_X11_rule_134_12 (F := F) G131 G119 a x129 G G10 G_58 x43 hG131 hR dfo10 cp87 e129 t43 c50 (hF119.2.1 _ (xn1 (xne_k hk9999a hk9999b (by decide)) xn0)))⟩ hT
              exact L93 4294967297 x89 _ _ _ (by rw [(t89 : Int32.toInt x89 = (sF (aI (G_58.2.1 (F a 10)) (10 * x43.toInt + 0))))] <;> exact (v_X11_rule_92_13 (F := F) G_58 a x43 G)) (by rw [(t89 : Int32.toInt x89 = (sF (aI (G_58.2.1 (F a 10)) (10 * x43.toInt + 0))))] <;> exact (z_X11_rule_18 (aI (G_58.2.1 (F a 10)) (10 * x43.toInt + 0)) (sF (aI (G_58.2.1 (F a 10)) (10 * x43.toInt + 0))) (sL (aI (G_58.2.1 (F a 10)) (10 * x43.toInt + 0))) sf87)) (by rw [(t89 : Int32.toInt x89 = (sF (aI (G_58.2.1 (F a 10)) (10 * x43.toInt + 0))))] <;> exact (z_X11_rule_19 (aI (G_58.2.1 (F a 10)) (10 * x43.toInt + 0)) (sF (aI (G_58.2.1 (F a 10)) (10 * x43.toInt + 0))) (sL (aI (G_58.2.1 (F a 10)) (10 * x43.toInt + 0))) sf87)) hT hS (lv_sub hl [1, 2, 0] rfl)
            · refine lv_aload_n hx hb dX11_rule_64 rfl (lv_at hl 0 rfl) ?_
              refine gX11_10 S hK hT ha kf_X11_33 dX11_rule_65 (fun _ _ => ?_)
              refine lv_bipush (v := 10) hx hb dX11_rule_68 (by decide) ?_
              refine lv_iload_n hx hb dX11_rule_70 rfl (lv_at hl 1 rfl) ?_
              refine xi_imul hx hb ((by decide) : Int32.toInt 10 = (10 : Int)) (rfl : Int32.toInt x43 = x43.toInt) dX11_rule_71 (fun x71 t71 => ?_)
              have e71 : x71.toInt = ((10 : Int) * x43.toInt) := (z_X11_rule_20 x43.toInt x71.toInt t43 t71)
              refine lv_iload_n hx hb dX11_rule_72 rfl (lv_at hl 2 rfl) ?_
              refine xi_iadd hx hb (e71 : Int32.toInt x71 = ((10 : Int) * x43.toInt)) (rfl : Int32.toInt l3_58 = l3_58.toInt) dX11_rule_73 (fun x73 t73 => ?_)
              have e73 : x73.toInt = (((10 : Int) * x43.toInt) + l3_58.toInt) := (z_X11_rule_21 l3_58.toInt x43.toInt x73.toInt t43 I58_0 t73)
              refine lv_aload_n hx hb dX11_rule_74 rfl (lv_at hl 0 rfl) ?_
              refine gX11_40 S hK hT ha kf_X11_106 dX11_rule_75 (fun _ _ => ?_)
              refine lv_iload_n hx hb dX11_rule_78 rfl (lv_at hl 2 rfl) ?_
              refine al_0 S hK hT hk9999 ar_52 (by decide) (z_X11_rule_22 l3_58.toInt I58_0) dX11_rule_79 (fun x79 hv79 o79 => ?_)
              have hv79 : x79.toInt = (aI (G10.2.1 (F a 40)) (l3_58.toInt)) := hv79.trans (by rw [(rfl : Int32.toInt l3_58 = l3_58.toInt), (((hF_58.2.1 _ (xn1 (xne_k hk9999 hk9999a (by decide)) xn0)).trans (ld_c hG16)) : G_58.2.1 (F a 40) = G10.2.1 (F a 40))])
              refine as_0 (x := x79) S hK hT hS hk9999a ar_37 aw_37 (by decide) (by rw [(e73 : Int32.toInt x73 = (((10 : Int) * x43.toInt) + l3_58.toInt))]; exact (z_X11_rule_23 l3_58.toInt x43.toInt t43 c50 I58_0)) dX11_rule_80 (fun H locs hT hS => ?_)
              obtain ⟨G80, hG80⟩ : ∃ GG : XG, GG = cput G_58 (F a 10) x73.toNatClampNeg x79 := ⟨_, rfl⟩
              rw [← hG80] at hT
              refine xi_iinc (n := 1) (lv' := fun z9 => [(3, .int z9), (0, .ref a), (2, .int x43)]) (k := 2) hx hb (rfl : Int32.toInt l3_58 = l3_58.toInt) (by decide) dX11_rule_81 hl rfl (by decide) (fun _ => rfl) (fun x81 ls t81 hl => ?_)
              have e81 : x81.toInt = (l3_58.toInt + 1) := (z_X11_rule_24 l3_58.toInt x81.toInt I58_0 t81)
              have hl : lv_has ls 4 [(3, .int x81), (0, .ref a), (2, .int x43)] := hl
              refine lv_goto (tgt := 58) hx hb dX11_rule_84 (by decide) ?_
              exact ih58 x81 G80 _ _ _ (by rw [hG80]; exact XFr.cput (XFr.call XFr.rf hF_58 xm0 (xm1 0 rfl xm0) xm0) (List.mem_of_getElem? (i := 0) rfl)) (by rw [(e81 : Int32.toInt x81 = (l3_58.toInt + 1))] <;> exact (v_X11_rule_84_14 (F := F) G80 G_58 a x73 x79 G10 G x43 l3_58 hG80 cp e73 hv79 t43 c50 I58_0 c61)) (by rw [(e81 : Int32.toInt x81 = (l3_58.toInt + 1))] <;> exact (z_X11_rule_25 l3_58.toInt I58_0 c61)) (by rw [(e81 : Int32.toInt x81 = (l3_58.toInt + 1))] <;> exact (z_X11_rule_26 l3_58.toInt I58_0)) (by rw [(e81 : Int32.toInt x81 = (l3_58.toInt + 1))] <;> exact (z_X11_rule_12 l3_58.toInt N58 hm58)) hT hS (lv_sub hl [1, 2, 0] rfl)
        exact L58 4294967297 0 G16 _ _ _ XFr.rf (by rw [(show G16.2.1 (F a 10) = G.2.1 (F a 10) from ((ld_c hG16).trans ((hF10.2.1 _ (xn1 (xne_k hk9999a hk9999 (by decide)) xn0)).trans ((hF6.2.1 _ xn0).trans (ld_c hG2)))))] <;> exact (v_X11_rule_57_15 (F := F) x43 G10 a G)) (by decide) (by decide) (by decide) hT hS (lv_sub hl [3, 1, 0] rfl)
      · refine lv_bipush (v := (-4)) hx hb dX11_rule_53 (by decide) ?_
        exact x_ri hx hb hr hlk hQ (Nat.le_of_ble_eq_true rfl) (Nat.le_of_ble_eq_true rfl) hS dX11_rule_55 G16 ⟨_, rfl, (by rw [hG16]; exact XFr.dput (XFr.call (XFr.call (by rw [hG2]; exact XFr.dput XFr.rf (List.mem_of_getElem? (i := 0) rfl)) hF6 (xm1 1 rfl (xm1 2 rfl (xm1 3 rfl xm0))) xm0 xm0) hF10 (xm1 5 rfl (xm1 6 rfl (xm1 7 rfl xm0))) (xm1 0 rfl xm0) xm0) (List.mem_of_getElem? (i := 4) rfl)), (by rw [(show (G16.1 a 23).toInt = ((G6.1 a 23).toInt) from (congrArg Int32.toInt ((ld_j hG16 (by decide)).trans (hF10.1 _ _ (xnj (by decide) (xnj (by decide) (xnj (by decide) xn0)))))).trans (rfl : Int32.toInt (G6.1 a 23) = ((G6.1 a 23).toInt)))] <;> exact (z_X11_rule_6 ((G6.1 a 20).toInt) ((G6.1 a 21).toInt) ((G6.1 a 23).toInt) t6)), (v_X11_rule_55_16 G16 a (ld_at hG16)), (by rw [((by decide) : Int32.toInt (-4) = (-4 : Int))] <;> exact (v_X11_rule_55_17 (F := F) G a x10 G10 x43 G16 oq10 oq10a oq43 nt0 c20 c36 t43 c50 ((ld_c hG16).trans ((hF10.2.1 _ (xn1 (xne_k hk9999a hk9999 (by decide)) xn0)).trans ((hF6.2.1 _ xn0).trans (ld_c hG2)))))), (v_X11_rule_55_18 (F := F) G a G16 hR ((ld_c hG16).trans ((hF10.2.1 _ (xn1 (xne_k hk9999a hk9999 (by decide)) xn0)).trans ((hF6.2.1 _ xn0).trans (ld_c hG2)))))⟩ hT
    · refine lv_bipush (v := (-3)) hx hb dX11_rule_39 (by decide) ?_
      exact x_ri hx hb hr hlk hQ (Nat.le_of_ble_eq_true rfl) (Nat.le_of_ble_eq_true rfl) hS dX11_rule_41 G16 ⟨_, rfl, (by rw [hG16]; exact XFr.dput (XFr.call (XFr.call (by rw [hG2]; exact XFr.dput XFr.rf (List.mem_of_getElem? (i := 0) rfl)) hF6 (xm1 1 rfl (xm1 2 rfl (xm1 3 rfl xm0))) xm0 xm0) hF10 (xm1 5 rfl (xm1 6 rfl (xm1 7 rfl xm0))) (xm1 0 rfl xm0) xm0) (List.mem_of_getElem? (i := 4) rfl)), (by rw [(show (G16.1 a 23).toInt = ((G6.1 a 23).toInt) from (congrArg Int32.toInt ((ld_j hG16 (by decide)).trans (hF10.1 _ _ (xnj (by decide) (xnj (by decide) (xnj (by decide) xn0)))))).trans (rfl : Int32.toInt (G6.1 a 23) = ((G6.1 a 23).toInt)))] <;> exact (z_X11_rule_6 ((G6.1 a 20).toInt) ((G6.1 a 21).toInt) ((G6.1 a 23).toInt) t6)), (v_X11_rule_41_19 G16 a (ld_at hG16)), (by rw [((by decide) : Int32.toInt (-3) = (-3 : Int))] <;> exact (v_X11_rule_41_20 (F := F) G a x10 G10 G16 oq10 oq10a nt0 c20 c36 ((ld_c hG16).trans ((hF10.2.1 _ (xn1 (xne_k hk9999a hk9999 (by decide)) xn0)).trans ((hF6.2.1 _ xn0).trans (ld_c hG2)))))), (v_X11_rule_41_21 (F := F) G a G16 hR ((ld_c hG16).trans ((hF10.2.1 _ (xn1 (xne_k hk9999a hk9999 (by decide)) xn0)).trans ((hF6.2.1 _ xn0).trans (ld_c hG2)))))⟩ hT
  · have pb23 : 0 ≤ ((G10.1 a 38).toInt) ∧ ((G10.1 a 38).toInt) ≤ 80 := (v_X11_rule_23_22 (F := F) x10 G a G10 oq10 oq10a nt0 c20)
    refine lv_sipush (v := (-1000)) hx hb dX11_rule_23 (by decide) ?_
    refine lv_aload_n hx hb dX11_rule_26 rfl (lv_at hl 1 rfl) ?_
    refine gX11_38 S hK hT ha kf_X11_265 dX11_rule_27 (v := (G10.1 a 38)) (ld_j hG16 (by decide)) (?_)
    refine xi_isub hx hb ((by decide) : Int32.toInt (-1000) = (-1000 : Int)) (rfl : Int32.toInt (G10.1 a 38) = ((G10.1 a 38).toInt)) dX11_rule_30 (fun x30 t30 => ?_)
    have e30 : x30.toInt = ((-1000 : Int) - ((G10.1 a 38).toInt)) := (z_X11_rule_30 x30.toInt ((G10.1 a 38).toInt) pb23 t30)
    exact x_ri hx hb hr hlk hQ (Nat.le_of_ble_eq_true rfl) (Nat.le_of_ble_eq_true rfl) hS dX11_rule_31 G16 ⟨_, rfl, (by rw [hG16]; exact XFr.dput (XFr.call (XFr.call (by rw [hG2]; exact XFr.dput XFr.rf (List.mem_of_getElem? (i := 0) rfl)) hF6 (xm1 1 rfl (xm1 2 rfl (xm1 3 rfl xm0))) xm0 xm0) hF10 (xm1 5 rfl (xm1 6 rfl (xm1 7 rfl xm0))) (xm1 0 rfl xm0) xm0) (List.mem_of_getElem? (i := 4) rfl)), (by rw [(show (G16.1 a 23).toInt = ((G6.1 a 23).toInt) from (congrArg Int32.toInt ((ld_j hG16 (by decide)).trans (hF10.1 _ _ (xnj (by decide) (xnj (by decide) (xnj (by decide) xn0)))))).trans (rfl : Int32.toInt (G6.1 a 23) = ((G6.1 a 23).toInt)))] <;> exact (z_X11_rule_6 ((G6.1 a 20).toInt) ((G6.1 a 21).toInt) ((G6.1 a 23).toInt) t6)), (v_X11_rule_31_23 G16 a (ld_at hG16)), (by rw [(e30 : Int32.toInt x30 = ((-1000 : Int) - ((G10.1 a 38).toInt)))] <;> exact (v_X11_rule_31_24 (F := F) G a x10 G10 G16 oq10 oq10a nt0 c20 ((ld_c hG16).trans ((hF10.2.1 _ (xn1 (xne_k hk9999a hk9999 (by decide)) xn0)).trans ((hF6.2.1 _ xn0).trans (ld_c hG2)))))), (v_X11_rule_31_25 (F := F) G a G16 hR ((ld_c hG16).trans ((hF10.2.1 _ (xn1 (xne_k hk9999a hk9999 (by decide)) xn0)).trans ((hF6.2.1 _ xn0).trans (ld_c hG2)))))⟩ hT
theorem v_X11_sign_58_1 {K : Nat → Nat} {F : Nat → Nat → Nat} (a : Nat) (G : XG) (G_21 : XG) (p0 : Int32) (x10 : Int32) (l2_21 : Int32) (N21 : Nat)
    (ha : K a = 13)
    (pf : ∀ z : Int, 0 ≤ z → aI (G_21.2.1 (F a 35)) z % 256 = if (G.1 a 36).toInt ≤ z ∧ z < ((G_21.1 a 36).toInt) then bqI p0 (24 - 8 * (z - (G.1 a 36).toInt)) else aI (G.2.1 (F a 35)) z % 256)
    (nt0 : 0 ≤ ((G.1 a 36).toInt) ∧ ((G.1 a 36).toInt) ≤ 80)
    (t10 : x10.toInt = ((G.1 a 36).toInt) + (4 : Int) ∨ ((G.1 a 36).toInt) + (4 : Int) < -2147483648 ∨ 2147483648 ≤ ((G.1 a 36).toInt) + (4 : Int))
    (c13 : x10.toInt ≤ (80 : Int))
    (I21_0 : -8 ≤ l2_21.toInt ∧ l2_21.toInt ≤ 24)
    (I21_1 : 8 * (((G_21.1 a 36).toInt) - ((G.1 a 36).toInt)) = 24 - l2_21.toInt)
    (hm21 : 100 + l2_21.toInt < (((N21) + 1 : Nat) : Int))
    (c22 : l2_21.toInt < 0) :
    (((G_21.1 a 36).toInt) = -1 ∧ G_21.2.1 (F a 35) = (G.2.1 (F a 35))) ∨ (((G_21.1 a 36).toInt) ≠ -1 ∧ ∀ z : Int, 0 ≤ z → aI (G_21.2.1 (F a 35)) z % 256 = if ((G.1 a 36).toInt) ≤ z ∧ z < ((G.1 a 36).toInt) + 4 then bqI p0 (24 - 8 * (z - ((G.1 a 36).toInt))) else aI (G.2.1 (F a 35)) z % 256) := by
  refine Or.inr ⟨by omega, fun z hz => ?_⟩
  rw [pf z hz, show (G_21.1 a 36).toInt = (G.1 a 36).toInt + 4 from by omega]
theorem v_X11_sign_51_2 {K : Nat → Nat} {F : Nat → Nat → Nat} (a : Nat) (G : XG) (G_21 : XG) (G37 : XG) (x36 : Int32) (p0 : Int32) (x35 : Int32) (l2_21 : Int32) (x10 : Int32) (N21 : Nat)
    (ha : K a = 13)
    (hG37 : G37 = cput G_21 (F a 35) (G_21.1 a 36).toNatClampNeg x36)
    (pf : ∀ z : Int, 0 ≤ z → aI (G_21.2.1 (F a 35)) z % 256 = if (G.1 a 36).toInt ≤ z ∧ z < ((G_21.1 a 36).toInt) then bqI p0 (24 - 8 * (z - (G.1 a 36).toInt)) else aI (G.2.1 (F a 35)) z % 256)
    (eb35 : x35 = (Int32.toUInt32 p0 >>> (Int32.toUInt32 l2_21 &&& Int32.toUInt32 31)).toInt32)
    (eb36 : x36 = (Int32.toInt8 x35).toInt32)
    (nt0 : 0 ≤ ((G.1 a 36).toInt) ∧ ((G.1 a 36).toInt) ≤ 80)
    (t10 : x10.toInt = ((G.1 a 36).toInt) + (4 : Int) ∨ ((G.1 a 36).toInt) + (4 : Int) < -2147483648 ∨ 2147483648 ≤ ((G.1 a 36).toInt) + (4 : Int))
    (c13 : x10.toInt ≤ (80 : Int))
    (I21_0 : -8 ≤ l2_21.toInt ∧ l2_21.toInt ≤ 24)
    (I21_1 : 8 * (((G_21.1 a 36).toInt) - ((G.1 a 36).toInt)) = 24 - l2_21.toInt)
    (hm21 : 100 + l2_21.toInt < (((N21) + 1 : Nat) : Int))
    (c22 : ¬ (l2_21.toInt < 0)) :
    ∀ z : Int, 0 ≤ z → aI (G37.2.1 (F a 35)) z % 256 = if (G.1 a 36).toInt ≤ z ∧ z < (((G_21.1 a 36).toInt) + (1 : Int)) then bqI p0 (24 - 8 * (z - (G.1 a 36).toInt)) else aI (G.2.1 (F a 35)) z % 256 := by
  intro z hz
  have u := aI_pu hG37 rfl (rfl : (G_21.1 a 36).toInt = (G_21.1 a 36).toInt) (rfl : x36.toInt = x36.toInt) (by omega) z hz
  have b := bq_b eb35 eb36 (rfl : l2_21.toInt = l2_21.toInt)
  rw [u]
  by_cases e : z = (G_21.1 a 36).toInt
  · rw [if_pos e, if_pos (by omega), b]
    congr 1
    omega
  · rw [if_neg e, pf z hz]
    by_cases q : (G.1 a 36).toInt ≤ z ∧ z < (G_21.1 a 36).toInt
    · rw [if_pos q, if_pos (by omega)]
    · rw [if_neg q, if_neg (by omega)]
theorem v_X11_sign_20_3 {K : Nat → Nat} {F : Nat → Nat → Nat} (a : Nat) (G : XG) (x10 : Int32) (p0 : Int32)
    (ha : K a = 13)
    (nt0 : 0 ≤ ((G.1 a 36).toInt) ∧ ((G.1 a 36).toInt) ≤ 80)
    (t10 : x10.toInt = ((G.1 a 36).toInt) + (4 : Int) ∨ ((G.1 a 36).toInt) + (4 : Int) < -2147483648 ∨ 2147483648 ≤ ((G.1 a 36).toInt) + (4 : Int))
    (c13 : x10.toInt ≤ (80 : Int)) :
    ∀ z : Int, 0 ≤ z → aI (G.2.1 (F a 35)) z % 256 = if (G.1 a 36).toInt ≤ z ∧ z < ((G.1 a 36).toInt) then bqI p0 (24 - 8 * (z - (G.1 a 36).toInt)) else aI (G.2.1 (F a 35)) z % 256 := by
  intro z hz; rw [if_neg (by omega)]
theorem v_X11_sign_17_4 {F : Nat → Nat → Nat} (a : Nat) (G2 : XG) (G : XG) (p0 : Int32)
    (c_G2_F_a_35 : G2.2.1 (F a 35) = G.2.1 (F a 35)) :
    ((-1 : Int) = -1 ∧ G2.2.1 (F a 35) = (G.2.1 (F a 35))) ∨ ((-1 : Int) ≠ -1 ∧ ∀ z : Int, 0 ≤ z → aI (G2.2.1 (F a 35)) z % 256 = if ((G.1 a 36).toInt) ≤ z ∧ z < ((G.1 a 36).toInt) + 4 then bqI p0 (24 - 8 * (z - ((G.1 a 36).toInt))) else aI (G.2.1 (F a 35)) z % 256) := by
  exact Or.inl ⟨rfl, c_G2_F_a_35⟩
theorem z_X11_sign_1 (a0 : Int) (h0 : -8 ≤ a0 ∧ a0 ≤ 24) : ¬ (100 + a0 < ((0 : Nat) : Int)) := by omega
theorem z_X11_sign_2 (a0 : Int) (a1 : Int) (a2 : Int) (a3 : Int) (h0 : 0 ≤ a2 ∧ a2 ≤ 80) (h1 : a1 = a2 + (4 : Int) ∨ a2 + (4 : Int) < -2147483648 ∨ 2147483648 ≤ a2 + (4 : Int)) (h2 : a1 ≤ (80 : Int)) (h3 : -8 ≤ a0 ∧ a0 ≤ 24) (h4 : 8 * (a3 - a2) = 24 - a0) (h5 : a0 < 0) : (76 < a2 ∧ a3 = -1 ∧ a3 = a2) ∨ (a2 ≤ 76 ∧ a3 = a2 + 4 ∧ a3 = a2 + 4) := by omega
theorem z_X11_sign_3 (a0 : Int) (a1 : Int) (a2 : Int) (a3 : Int) (h0 : 0 ≤ a2 ∧ a2 ≤ 80) (h1 : a1 = a2 + (4 : Int) ∨ a2 + (4 : Int) < -2147483648 ∨ 2147483648 ≤ a2 + (4 : Int)) (h2 : a1 ≤ (80 : Int)) (h3 : -8 ≤ a0 ∧ a0 ≤ 24) (h4 : 8 * (a3 - a2) = 24 - a0) (h5 : ¬ (a0 < 0)) : 0 ≤ a3 ∧ a3 < ((80 : Nat) : Int) := by omega
theorem z_X11_sign_4 (a0 : Int) (a1 : Int) (a2 : Int) (a3 : Int) (h0 : 0 ≤ a2 ∧ a2 ≤ 80) (h1 : 8 * (a3 - a2) = 24 - a0) (h2 : ¬ (a0 < 0)) (h3 : a1 = (a3 + (1 : Int)) ∨ (a3 + (1 : Int)) < -2147483648 ∨ 2147483648 ≤ (a3 + (1 : Int))) (h4 : -2147483648 ≤ a3 ∧ a3 < 2147483648) : a1 = (a3 + (1 : Int)) := by omega
theorem z_X11_sign_5 (a0 : Int) (a1 : Int) (h0 : -8 ≤ a0 ∧ a0 ≤ 24) (h1 : a1 = (a0 + (-8)) ∨ (a0 + (-8)) < -2147483648 ∨ 2147483648 ≤ (a0 + (-8))) : a1 = (a0 + (-8)) := by omega
theorem z_X11_sign_6 (a0 : Int) (h0 : -8 ≤ a0 ∧ a0 ≤ 24) (h1 : ¬ (a0 < 0)) : -8 ≤ (a0 + (-8)) ∧ (a0 + (-8)) ≤ 24 := by omega
theorem z_X11_sign_7 (a0 : Int) (a1 : Int) (a2 : Int) (h0 : 8 * (a2 - a1) = 24 - a0) : 8 * ((a2 + (1 : Int)) - a1) = 24 - (a0 + (-8)) := by omega
theorem z_X11_sign_8 (a0 : Int) (a1 : Nat) (h0 : 100 + a0 < ((a1 + 1 : Nat) : Int)) : 100 + (a0 + (-8)) < ((a1 : Nat) : Int) := by omega
theorem z_X11_sign_9 (a0 : Int) : 8 * (a0 - a0) = 24 - (24 : Int) := by omega
theorem z_X11_sign_10 (a0 : Int) (a1 : Int) (h0 : 0 ≤ a1 ∧ a1 ≤ 80) (h1 : a0 = a1 + (4 : Int) ∨ a1 + (4 : Int) < -2147483648 ∨ 2147483648 ≤ a1 + (4 : Int)) (h2 : ¬ (a0 ≤ (80 : Int))) : (76 < a1 ∧ (-1 : Int) = -1 ∧ a1 = a1) ∨ (a1 ≤ 76 ∧ (-1 : Int) = a1 + 4 ∧ a1 = a1 + 4) := by omega
abbrev rm_X11_sign : Room := { frames := 0, cells := 0, slots := 0, locals := 0 }
set_option maxHeartbeats 4000000 in
set_option maxRecDepth 100000 in
theorem c_X11_sign (l : Launch) (E : XE) (K : Nat → Nat) (F : Nat → Nat → Nat) (G : XG) (a : Nat) (p0 : Int32) (ha : K a = 13) (nt0 : 0 ≤ ((G.1 a 36).toInt) ∧ ((G.1 a 36).toInt) ≤ 80) : Met l yX11_sign (xw yX11_sign cX11_sign 3 (some .int)) rm_X11_sign (va_Pc [.ref a, .int p0] (XP E K F G)) (XQ E (fun v (u : XG) => ∃ r : Int32, v = .int r ∧ XFr [(a, 0), (a, 36)] [F a 35] [] G u ∧ ((76 < ((G.1 a 36).toInt) ∧ r.toInt = -1 ∧ ((u.1 a 36).toInt) = ((G.1 a 36).toInt)) ∨ (((G.1 a 36).toInt) ≤ 76 ∧ r.toInt = ((G.1 a 36).toInt) + 4 ∧ ((u.1 a 36).toInt) = ((G.1 a 36).toInt) + 4)) ∧ ((r.toInt = -1 ∧ u.2.1 (F a 35) = (G.2.1 (F a 35))) ∨ (r.toInt ≠ -1 ∧ ∀ z : Int, 0 ≤ z → aI (u.2.1 (F a 35)) z % 256 = if ((G.1 a 36).toInt) ≤ z ∧ z < ((G.1 a 36).toInt) + 4 then bqI p0 (24 - 8 * (z - ((G.1 a 36).toInt))) else aI (G.2.1 (F a 35)) z % 256))) (fun u H => TW E K F u H)) 0 0 (xA E) := by
  refine x_enter (by decide) (Nat.le_of_ble_eq_true rfl) ?_
  intro p e s m args below meth c Q S hr hlk hnm hQ hP ls hl
  obtain ⟨hz, hK, hT⟩ := hP
  obtain ⟨hx, hb, -, -, -⟩ := id S
  obtain ⟨H, hT, hS, hgo⟩ : ∃ H : Heap, TW E K F G H ∧ va_S (xA E) s.heap H [] ∧ H = s.heap := ⟨_, hT, va_S.rf, rfl⟩
  rw [← hgo]
  have hl : lv_has ls 3 [(0, .ref a), (1, .int p0)] := hl
  obtain ⟨hk9999, hj9999⟩ := fkX11_35 hT ha
  refine lv_aload_n hx hb dX11_sign_0 rfl (lv_at hl 0 rfl) ?_
  refine lv_iconst (v := 0) hx hb dX11_sign_1 (by decide) ?_
  refine pX11_0 (v := 0) S hK hT hS ha kf_X11_134 dX11_sign_2 (fun H locs hT hS => ?_)
  obtain ⟨G2, hG2⟩ : ∃ GG : XG, GG = dput G a 0 0 := ⟨_, rfl⟩
  rw [← hG2] at hT
  refine lv_aload_n hx hb dX11_sign_5 rfl (lv_at hl 0 rfl) ?_
  refine gX11_36 S hK hT ha kf_X11_245 dX11_sign_6 (v := (G.1 a 36)) (ld_j hG2 (by decide)) (?_)
  refine lv_iconst (v := 4) hx hb dX11_sign_9 (by decide) ?_
  refine xi_iadd hx hb (rfl : Int32.toInt (G.1 a 36) = ((G.1 a 36).toInt)) ((by decide) : Int32.toInt 4 = (4 : Int)) dX11_sign_10 (fun x10 t10 => ?_)
  refine lv_bipush (v := 80) hx hb dX11_sign_11 (by decide) ?_
  refine xi_cle (tgt := 18) hx hb (rfl : Int32.toInt x10 = x10.toInt) ((by decide) : Int32.toInt 80 = (80 : Int)) dX11_sign_13 (by decide) (fun c13 => ?_) (fun c13 => ?_)
  · refine lv_bipush (v := 24) hx hb dX11_sign_18 (by decide) ?_
    refine lv_istore_n (lv' := [(2, .int 24), (0, .ref a), (1, .int p0)]) hx hb dX11_sign_20 rfl hl (by decide) rfl (fun ls hl => ?_)
    have L21 : ∀ (N21 : Nat) (l2_21 : Int32) (G_21 : XG) (H : Heap) (locs : List Loc) (ls : Array Slot), XFr [(a, 36)] [F a 35] [] G2 G_21 → (∀ z : Int, 0 ≤ z → aI (G_21.2.1 (F a 35)) z % 256 = if (G.1 a 36).toInt ≤ z ∧ z < ((G_21.1 a 36).toInt) then bqI p0 (24 - 8 * (z - (G.1 a 36).toInt)) else aI (G.2.1 (F a 35)) z % 256) → -8 ≤ l2_21.toInt ∧ l2_21.toInt ≤ 24 → 8 * (((G_21.1 a 36).toInt) - ((G.1 a 36).toInt)) = 24 - l2_21.toInt → 100 + l2_21.toInt < ((N21 : Nat) : Int) → TW E K F G_21 H → va_S (xA E) s.heap H locs → lv_has ls 3 [(0, .ref a), (1, .int p0), (2, .int l2_21)] → W p l e rm_X11_sign s m args below meth c H locs 0 0 Q (F0 m 21 ls []) := by
      intro N21
      induction N21 with
      | zero =>
        intro l2_21 G_21 H locs ls hF_21 pf I21_0 I21_1 hm21
        exact absurd hm21 (z_X11_sign_1 l2_21.toInt I21_0)
      | succ N21 ih21 =>
        intro l2_21 G_21 H locs ls hF_21 pf I21_0 I21_1 hm21 hT hS hl
        refine lv_iload_n hx hb dX11_sign_21 rfl (lv_at hl 2 rfl) ?_
        refine xi_zlt (tgt := 54) hx hb (rfl : Int32.toInt l2_21 = l2_21.toInt) dX11_sign_22 (by decide) (fun c22 => ?_) (fun c22 => ?_)
        · refine lv_aload_n hx hb dX11_sign_54 rfl (lv_at hl 0 rfl) ?_
          refine gX11_36 S hK hT ha kf_X11_245 dX11_sign_55 (v := (G_21.1 a 36)) rfl (?_)
          exact x_ri hx hb hr hlk hQ (Nat.le_of_ble_eq_true rfl) (Nat.le_of_ble_eq_true rfl) hS dX11_sign_58 G_21 ⟨_, rfl, (XFr.call (by rw [hG2]; exact XFr.dput XFr.rf (List.mem_of_getElem? (i := 0) rfl)) hF_21 (xm1 1 rfl xm0) (xm1 0 rfl xm0) xm0), (z_X11_sign_2 l2_21.toInt x10.toInt ((G.1 a 36).toInt) ((G_21.1 a 36).toInt) nt0 t10 c13 I21_0 I21_1 c22), (v_X11_sign_58_1 (K := K) (F := F) a G G_21 p0 x10 l2_21 N21 ha pf nt0 t10 c13 I21_0 I21_1 hm21 c22)⟩ hT
        · refine lv_aload_n hx hb dX11_sign_25 rfl (lv_at hl 0 rfl) ?_
          refine gX11_35 S hK hT ha kf_X11_103 dX11_sign_26 (fun _ _ => ?_)
          refine lv_aload_n hx hb dX11_sign_29 rfl (lv_at hl 0 rfl) ?_
          refine gX11_36 S hK hT ha kf_X11_245 dX11_sign_30 (v := (G_21.1 a 36)) rfl (?_)
          refine lv_iload_n hx hb dX11_sign_33 rfl (lv_at hl 1 rfl) ?_
          refine lv_iload_n hx hb dX11_sign_34 rfl (lv_at hl 2 rfl) ?_
          refine lv_iushr hx hb dX11_sign_35 rfl (lv_topi (fun x35 eb35 => ?_))
          refine lv_i2b hx hb dX11_sign_36 rfl (lv_topi (fun x36 eb36 => ?_))
          refine as_2 (x := x36) S hK hT hS hk9999 ar_51 aw_51 (by decide) (z_X11_sign_3 l2_21.toInt x10.toInt ((G.1 a 36).toInt) ((G_21.1 a 36).toInt) nt0 t10 c13 I21_0 I21_1 c22) dX11_sign_37 (fun H locs hT hS => ?_)
          rw [(xnar2 (xok_i2b eb36))] at hT
          obtain ⟨G37, hG37⟩ : ∃ GG : XG, GG = cput G_21 (F a 35) (G_21.1 a 36).toNatClampNeg x36 := ⟨_, rfl⟩
          rw [← hG37] at hT
          refine lv_aload_n hx hb dX11_sign_38 rfl (lv_at hl 0 rfl) ?_
          refine lv_dup hx hb dX11_sign_39 rfl ?_
          refine gX11_36 S hK hT ha kf_X11_245 dX11_sign_40 (v := (G_21.1 a 36)) (lc_d hG37) (?_)
          refine lv_iconst (v := 1) hx hb dX11_sign_43 (by decide) ?_
          refine xi_iadd hx hb (rfl : Int32.toInt (G_21.1 a 36) = ((G_21.1 a 36).toInt)) ((by decide) : Int32.toInt 1 = (1 : Int)) dX11_sign_44 (fun x44 t44 => ?_)
          have e44 : x44.toInt = (((G_21.1 a 36).toInt) + (1 : Int)) := (z_X11_sign_4 l2_21.toInt x44.toInt ((G.1 a 36).toInt) ((G_21.1 a 36).toInt) nt0 I21_1 c22 t44 (xr (G_21.1 a 36)))
          refine pX11_36 (v := x44) S hK hT hS ha kf_X11_245 dX11_sign_45 (fun H locs hT hS => ?_)
          obtain ⟨G45, hG45⟩ : ∃ GG : XG, GG = dput G37 a 36 x44 := ⟨_, rfl⟩
          rw [← hG45] at hT
          refine xi_iinc (n := (-8)) (lv' := fun z9 => [(2, .int z9), (0, .ref a), (1, .int p0)]) (k := 2) hx hb (rfl : Int32.toInt l2_21 = l2_21.toInt) (by decide) dX11_sign_48 hl rfl (by decide) (fun _ => rfl) (fun x48 ls t48 hl => ?_)
          have e48 : x48.toInt = (l2_21.toInt + (-8)) := (z_X11_sign_5 l2_21.toInt x48.toInt I21_0 t48)
          have hl : lv_has ls 3 [(2, .int x48), (0, .ref a), (1, .int p0)] := hl
          refine lv_goto (tgt := 21) hx hb dX11_sign_51 (by decide) ?_
          exact ih21 x48 G45 _ _ _ (by rw [hG45]; exact XFr.dput (by rw [hG37]; exact XFr.cput (XFr.call XFr.rf hF_21 (xm1 0 rfl xm0) (xm1 0 rfl xm0) xm0) (List.mem_of_getElem? (i := 0) rfl)) (List.mem_of_getElem? (i := 0) rfl)) (by rw [(show (G45.1 a 36).toInt = (((G_21.1 a 36).toInt) + (1 : Int)) from (congrArg Int32.toInt (ld_at hG45)).trans (e44 : Int32.toInt x44 = (((G_21.1 a 36).toInt) + (1 : Int)))), (show G45.2.1 (F a 35) = G37.2.1 (F a 35) from (ld_c hG45))] <;> exact (v_X11_sign_51_2 (K := K) (F := F) a G G_21 G37 x36 p0 x35 l2_21 x10 N21 ha hG37 pf eb35 eb36 nt0 t10 c13 I21_0 I21_1 hm21 c22)) (by rw [(e48 : Int32.toInt x48 = (l2_21.toInt + (-8)))] <;> exact (z_X11_sign_6 l2_21.toInt I21_0 c22)) (by rw [(e48 : Int32.toInt x48 = (l2_21.toInt + (-8))), (show (G45.1 a 36).toInt = (((G_21.1 a 36).toInt) + (1 : Int)) from (congrArg Int32.toInt (ld_at hG45)).trans (e44 : Int32.toInt x44 = (((G_21.1 a 36).toInt) + (1 : Int))))] <;> exact (z_X11_sign_7 l2_21.toInt ((G.1 a 36).toInt) ((G_21.1 a 36).toInt) I21_1)) (by rw [(e48 : Int32.toInt x48 = (l2_21.toInt + (-8)))] <;> exact (z_X11_sign_8 l2_21.toInt N21 hm21)) hT hS (lv_sub hl [1, 2, 0] rfl)
    exact L21 4294967297 24 G2 _ _ _ XFr.rf (by rw [(show (G2.1 a 36).toInt = ((G.1 a 36).toInt) from (congrArg Int32.toInt (ld_j hG2 (by decide))).trans (rfl : Int32.toInt (G.1 a 36) = ((G.1 a 36).toInt))), (show G2.2.1 (F a 35) = G.2.1 (F a 35) from (ld_c hG2))] <;> exact (v_X11_sign_20_3 (K := K) (F := F) a G x10 p0 ha nt0 t10 c13)) (by decide) (by rw [(show (G2.1 a 36).toInt = ((G.1 a 36).toInt) from (congrArg Int32.toInt (ld_j hG2 (by decide))).trans (rfl : Int32.toInt (G.1 a 36) = ((G.1 a 36).toInt)))] <;> exact (z_X11_sign_9 ((G.1 a 36).toInt))) (by decide) hT hS (lv_sub hl [1, 2, 0] rfl)
  · refine lv_iconst (v := (-1)) hx hb dX11_sign_16 (by decide) ?_
    exact x_ri hx hb hr hlk hQ (Nat.le_of_ble_eq_true rfl) (Nat.le_of_ble_eq_true rfl) hS dX11_sign_17 G2 ⟨_, rfl, (by rw [hG2]; exact XFr.dput XFr.rf (List.mem_of_getElem? (i := 0) rfl)), (by rw [((by decide) : Int32.toInt (-1) = (-1 : Int)), (show (G2.1 a 36).toInt = ((G.1 a 36).toInt) from (congrArg Int32.toInt (ld_j hG2 (by decide))).trans (rfl : Int32.toInt (G.1 a 36) = ((G.1 a 36).toInt)))] <;> exact (z_X11_sign_10 x10.toInt ((G.1 a 36).toInt) nt0 t10 c13)), (by rw [((by decide) : Int32.toInt (-1) = (-1 : Int))] <;> exact (v_X11_sign_17_4 (F := F) a G2 G p0 (ld_c hG2)))⟩ hT

theorem z_X11_end_1 (a0 : Int) (a1 : Int) (a2 : Int) (h0 : (a1 = 1 ∧ (0 : Int) ≤ a0 ∧ a0 ≤ a2) ∨ (a1 = 0 ∧ (a0 < (0 : Int) ∨ a2 < a0))) (h1 : a1 ≠ 0) : ((a0 < 0 ∨ a2 < a0) ∧ (1 : Int) = 0 ∧ a0 = a2) ∨ ((0 ≤ a0 ∧ a0 ≤ a2) ∧ (1 : Int) = 1 ∧ a0 = a0) := by omega
theorem z_X11_end_2 (a0 : Int) (a1 : Int) (a2 : Int) (h0 : (a1 = 1 ∧ (0 : Int) ≤ a0 ∧ a0 ≤ a2) ∨ (a1 = 0 ∧ (a0 < (0 : Int) ∨ a2 < a0))) (h1 : ¬ (a1 ≠ 0)) : ((a0 < 0 ∨ a2 < a0) ∧ (0 : Int) = 0 ∧ a2 = a2) ∨ ((0 ≤ a0 ∧ a0 ≤ a2) ∧ (0 : Int) = 1 ∧ a2 = a0) := by omega
abbrev rm_X11_end : Room := { frames := 1, cells := 0, slots := 0, locals := 25 }
set_option maxHeartbeats 4000000 in
set_option maxRecDepth 100000 in
theorem c_X11_end (l : Launch) (E : XE) (K : Nat → Nat) (F : Nat → Nat → Nat) (G : XG) (a : Nat) (p0 : Int32) (ha : K a = 13) : Met l yX11_end (xw yX11_end cX11_end 2 (some .boolean)) rm_X11_end (va_Pc [.ref a, .int p0] (XP E K F G)) (XQ E (fun v (u : XG) => ∃ r : Int32, v = .int r ∧ (r = 0 ∨ r = 1) ∧ XFr [(a, 0), (a, 36)] [] [] G u ∧ (((p0.toInt < 0 ∨ ((G.1 a 36).toInt) < p0.toInt) ∧ r.toInt = 0 ∧ ((u.1 a 36).toInt) = ((G.1 a 36).toInt)) ∨ ((0 ≤ p0.toInt ∧ p0.toInt ≤ ((G.1 a 36).toInt)) ∧ r.toInt = 1 ∧ ((u.1 a 36).toInt) = p0.toInt))) (fun u H => TW E K F u H)) 0 0 (xA E) := by
  refine x_enter (by decide) (Nat.le_of_ble_eq_true rfl) ?_
  intro p e s m args below meth c Q S hr hlk hnm hQ hP ls hl
  obtain ⟨hz, hK, hT⟩ := hP
  obtain ⟨hx, hb, -, -, -⟩ := id S
  obtain ⟨H, hT, hS, hgo⟩ : ∃ H : Heap, TW E K F G H ∧ va_S (xA E) s.heap H [] ∧ H = s.heap := ⟨_, hT, va_S.rf, rfl⟩
  rw [← hgo]
  have hl : lv_has ls 2 [(0, .ref a), (1, .int p0)] := hl
  refine lv_aload_n hx hb dX11_end_0 rfl (lv_at hl 0 rfl) ?_
  refine lv_iconst (v := 0) hx hb dX11_end_1 (by decide) ?_
  refine pX11_0 (v := 0) S hK hT hS ha kf_X11_134 dX11_end_2 (fun H locs hT hS => ?_)
  obtain ⟨G2, hG2⟩ : ∃ GG : XG, GG = dput G a 0 0 := ⟨_, rfl⟩
  rw [← hG2] at hT
  refine lv_iload_n hx hb dX11_end_5 rfl (lv_at hl 1 rfl) ?_
  refine lv_i2l (v := p0.toInt64) hx hb dX11_end_6 rfl ?_
  refine lv_lconst (v := (0 : Int64)) hx hb dX11_end_7 (by decide) ?_
  refine lv_aload_n hx hb dX11_end_8 rfl (lv_at hl 0 rfl) ?_
  refine gX11_36 S hK hT ha kf_X11_245 dX11_end_9 (v := (G.1 a 36)) (ld_j hG2 (by decide)) (?_)
  refine lv_i2l (v := ((G.1 a 36) : Int32).toInt64) hx hb dX11_end_12 rfl ?_
  refine x_clp (x_runS (As := [.long p0.toInt64, .long (0 : Int64), .long (((G.1 a 36) : Int32).toInt64)]) (rest := []) S (c_X11_in l E K F G2 H p0.toInt64 p0.toInt (0 : Int64) (0 : Int) (((G.1 a 36) : Int32).toInt64) (((G.1 a 36).toInt)) (xl_i2l (rfl : Int32.toInt p0 = p0.toInt)) (by decide) (xl_i2l (rfl : Int32.toInt (G.1 a 36) = ((G.1 a 36).toInt)))) ms_X11_in km_X11_139 rfl rfl ⟨Nat.le_of_ble_eq_true rfl, Nat.le_of_ble_eq_true rfl⟩ hK (fun _ => XPh.blind) (fun U hU hW => XPh.at hK hz hS hT hU hW) rfl hl.1 (Nat.le_of_ble_eq_true rfl) dX11_end_13 ⟨Nat.le_of_ble_eq_true rfl, Nat.le_of_ble_eq_true rfl⟩) hS ?_
  rintro _ _ locs ⟨x13, rfl, b13, t13⟩ hS
  have t13 : (x13.toInt = 1 ∧ (0 : Int) ≤ p0.toInt ∧ p0.toInt ≤ ((G.1 a 36).toInt)) ∨ (x13.toInt = 0 ∧ (p0.toInt < (0 : Int) ∨ ((G.1 a 36).toInt) < p0.toInt)) := t13
  refine xi_zne (tgt := 21) hx hb (rfl : Int32.toInt x13 = x13.toInt) dX11_end_16 (by decide) (fun c16 => ?_) (fun c16 => ?_)
  · refine lv_aload_n hx hb dX11_end_21 rfl (lv_at hl 0 rfl) ?_
    refine lv_iload_n hx hb dX11_end_22 rfl (lv_at hl 1 rfl) ?_
    refine pX11_36 (v := p0) S hK hT hS ha kf_X11_245 dX11_end_23 (fun H locs hT hS => ?_)
    obtain ⟨G23, hG23⟩ : ∃ GG : XG, GG = dput G2 a 36 p0 := ⟨_, rfl⟩
    rw [← hG23] at hT
    refine lv_iconst (v := 1) hx hb dX11_end_26 (by decide) ?_
    exact x_rz hx hb hr (xnz (Or.inr rfl)) hlk hQ (Nat.le_of_ble_eq_true rfl) (Nat.le_of_ble_eq_true rfl) hS dX11_end_27 G23 ⟨_, rfl, (Or.inr rfl), (by rw [hG23]; exact XFr.dput (by rw [hG2]; exact XFr.dput XFr.rf (List.mem_of_getElem? (i := 0) rfl)) (List.mem_of_getElem? (i := 1) rfl)), (by rw [(show (G23.1 a 36).toInt = p0.toInt from (congrArg Int32.toInt (ld_at hG23)).trans (rfl : Int32.toInt p0 = p0.toInt))] <;> exact (z_X11_end_1 p0.toInt x13.toInt ((G.1 a 36).toInt) t13 c16))⟩ hT
  · refine lv_iconst (v := 0) hx hb dX11_end_19 (by decide) ?_
    exact x_rz hx hb hr (xnz (Or.inl rfl)) hlk hQ (Nat.le_of_ble_eq_true rfl) (Nat.le_of_ble_eq_true rfl) hS dX11_end_20 G2 ⟨_, rfl, (Or.inl rfl), (by rw [hG2]; exact XFr.dput XFr.rf (List.mem_of_getElem? (i := 0) rfl)), (by rw [(show (G2.1 a 36).toInt = ((G.1 a 36).toInt) from (congrArg Int32.toInt (ld_j hG2 (by decide))).trans (rfl : Int32.toInt (G.1 a 36) = ((G.1 a 36).toInt)))] <;> exact (z_X11_end_2 p0.toInt x13.toInt ((G.1 a 36).toInt) t13 c16))⟩ hT
theorem v_X10_sign_22_1 {K : Nat → Nat} {F : Nat → Nat → Nat} (a : Nat) (G : XG) (G5 : XG) (x5 : Int32) (p0 : Int32)
    (ha : K a = 12)
    (oq5 : (x5.toInt = 0 ∧ G5.2.1 (F (F a 0) 0) = (G.2.1 (F (F a 0) 0))) ∨ (x5.toInt = 1 ∧ ∀ z : Int, 0 ≤ z → aI (G5.2.1 (F (F a 0) 0)) z = if ((G.1 (F a 0) 1).toInt) ≤ z ∧ z < ((G.1 (F a 0) 1).toInt) + 4 then bqI p0 (24 - 8 * (z - ((G.1 (F a 0) 1).toInt))) else aI (G.2.1 (F (F a 0) 0)) z))
    (n0 : 0 ≤ ((G.1 (F a 0) 1).toInt) ∧ ((G.1 (F a 0) 1).toInt) ≤ 80)
    (t5 : (76 < ((G.1 (F a 0) 1).toInt) ∧ x5.toInt = 0 ∧ ((G5.1 (F a 0) 1).toInt) = ((G.1 (F a 0) 1).toInt)) ∨ (((G.1 (F a 0) 1).toInt) ≤ 76 ∧ x5.toInt = 1 ∧ ((G5.1 (F a 0) 1).toInt) = ((G.1 (F a 0) 1).toInt) + 4))
    (c8 : x5.toInt = 0) :
    ((-1 : Int) = -1 ∧ G5.2.1 (F (F a 0) 0) = (G.2.1 (F (F a 0) 0))) ∨ ((-1 : Int) ≠ -1 ∧ ∀ z : Int, 0 ≤ z → aI (G5.2.1 (F (F a 0) 0)) z = if ((G.1 (F a 0) 1).toInt) ≤ z ∧ z < ((G.1 (F a 0) 1).toInt) + 4 then bqI p0 (24 - 8 * (z - ((G.1 (F a 0) 1).toInt))) else aI (G.2.1 (F (F a 0) 0)) z) := by
  rcases oq5 with ⟨h1, h2⟩ | ⟨h1, h2⟩
  · first
      | (exfalso; omega)
      | exact Or.inl ⟨by omega, h2⟩
  · first
      | (exfalso; omega)
      | exact Or.inr ⟨by omega, h2⟩
theorem v_X10_sign_22_2 {K : Nat → Nat} {F : Nat → Nat → Nat} (a : Nat) (G : XG) (G5 : XG) (x5 : Int32) (p0 : Int32)
    (ha : K a = 12)
    (oq5 : (x5.toInt = 0 ∧ G5.2.1 (F (F a 0) 0) = (G.2.1 (F (F a 0) 0))) ∨ (x5.toInt = 1 ∧ ∀ z : Int, 0 ≤ z → aI (G5.2.1 (F (F a 0) 0)) z = if ((G.1 (F a 0) 1).toInt) ≤ z ∧ z < ((G.1 (F a 0) 1).toInt) + 4 then bqI p0 (24 - 8 * (z - ((G.1 (F a 0) 1).toInt))) else aI (G.2.1 (F (F a 0) 0)) z))
    (n0 : 0 ≤ ((G.1 (F a 0) 1).toInt) ∧ ((G.1 (F a 0) 1).toInt) ≤ 80)
    (t5 : (76 < ((G.1 (F a 0) 1).toInt) ∧ x5.toInt = 0 ∧ ((G5.1 (F a 0) 1).toInt) = ((G.1 (F a 0) 1).toInt)) ∨ (((G.1 (F a 0) 1).toInt) ≤ 76 ∧ x5.toInt = 1 ∧ ((G5.1 (F a 0) 1).toInt) = ((G.1 (F a 0) 1).toInt) + 4))
    (c8 : ¬ (x5.toInt = 0)) :
    (((G5.1 (F a 0) 1).toInt) = -1 ∧ G5.2.1 (F (F a 0) 0) = (G.2.1 (F (F a 0) 0))) ∨ (((G5.1 (F a 0) 1).toInt) ≠ -1 ∧ ∀ z : Int, 0 ≤ z → aI (G5.2.1 (F (F a 0) 0)) z = if ((G.1 (F a 0) 1).toInt) ≤ z ∧ z < ((G.1 (F a 0) 1).toInt) + 4 then bqI p0 (24 - 8 * (z - ((G.1 (F a 0) 1).toInt))) else aI (G.2.1 (F (F a 0) 0)) z) := by
  rcases oq5 with ⟨h1, h2⟩ | ⟨h1, h2⟩
  · first
      | (exfalso; omega)
      | exact Or.inl ⟨by omega, h2⟩
  · first
      | (exfalso; omega)
      | exact Or.inr ⟨by omega, h2⟩
theorem z_X10_sign_2 (a0 : Int) (a1 : Int) (a2 : Int) (h0 : (76 < a1 ∧ a0 = 0 ∧ a2 = a1) ∨ (a1 ≤ 76 ∧ a0 = 1 ∧ a2 = a1 + 4)) (h1 : a0 = 0) : (76 < a1 ∧ (-1 : Int) = -1 ∧ a2 = a1) ∨ (a1 ≤ 76 ∧ (-1 : Int) = a1 + 4 ∧ a2 = a1 + 4) := by omega
theorem z_X10_sign_3 (a0 : Int) (a1 : Int) (a2 : Int) (h0 : (76 < a1 ∧ a0 = 0 ∧ a2 = a1) ∨ (a1 ≤ 76 ∧ a0 = 1 ∧ a2 = a1 + 4)) (h1 : ¬ (a0 = 0)) : (76 < a1 ∧ a2 = -1 ∧ a2 = a1) ∨ (a1 ≤ 76 ∧ a2 = a1 + 4 ∧ a2 = a1 + 4) := by omega
abbrev rm_X10_sign : Room := { frames := 1, cells := 0, slots := 0, locals := 22 }
set_option maxHeartbeats 4000000 in
set_option maxRecDepth 100000 in
theorem c_X10_sign (l : Launch) (E : XE) (K : Nat → Nat) (F : Nat → Nat → Nat) (G : XG) (a : Nat) (p0 : Int32) (ha : K a = 12) (n0 : 0 ≤ ((G.1 (F a 0) 1).toInt) ∧ ((G.1 (F a 0) 1).toInt) ≤ 80) : Met l yX10_sign (xw yX10_sign cX10_sign 2 (some .int)) rm_X10_sign (va_Pc [.ref a, .int p0] (XP E K F G)) (XQ E (fun v (u : XG) => ∃ r : Int32, v = .int r ∧ XFr [(F a 0, 1)] [F (F a 0) 0] [] G u ∧ ((76 < ((G.1 (F a 0) 1).toInt) ∧ r.toInt = -1 ∧ ((u.1 (F a 0) 1).toInt) = ((G.1 (F a 0) 1).toInt)) ∨ (((G.1 (F a 0) 1).toInt) ≤ 76 ∧ r.toInt = ((G.1 (F a 0) 1).toInt) + 4 ∧ ((u.1 (F a 0) 1).toInt) = ((G.1 (F a 0) 1).toInt) + 4)) ∧ ((r.toInt = -1 ∧ u.2.1 (F (F a 0) 0) = (G.2.1 (F (F a 0) 0))) ∨ (r.toInt ≠ -1 ∧ ∀ z : Int, 0 ≤ z → aI (u.2.1 (F (F a 0) 0)) z = if ((G.1 (F a 0) 1).toInt) ≤ z ∧ z < ((G.1 (F a 0) 1).toInt) + 4 then bqI p0 (24 - 8 * (z - ((G.1 (F a 0) 1).toInt))) else aI (G.2.1 (F (F a 0) 0)) z))) (fun u H => TW E K F u H)) 0 0 (xA E) := by
  refine x_enter (by decide) (Nat.le_of_ble_eq_true rfl) ?_
  intro p e s m args below meth c Q S hr hlk hnm hQ hP ls hl
  obtain ⟨hz, hK, hT⟩ := hP
  obtain ⟨hx, hb, -, -, -⟩ := id S
  obtain ⟨H, hT, hS, hgo⟩ : ∃ H : Heap, TW E K F G H ∧ va_S (xA E) s.heap H [] ∧ H = s.heap := ⟨_, hT, va_S.rf, rfl⟩
  rw [← hgo]
  have hl : lv_has ls 2 [(0, .ref a), (1, .int p0)] := hl
  obtain ⟨hk9999, hj9999⟩ := fkX10_0 hT ha
  obtain ⟨hk9999a, hj9999a⟩ := fkX8_0 hT hk9999
  refine lv_aload_n hx hb dX10_sign_0 rfl (lv_at hl 0 rfl) ?_
  refine gX10_0 S hK hT ha kf_X10_12 dX10_sign_1 (fun _ _ => ?_)
  refine lv_iload_n hx hb dX10_sign_4 rfl (lv_at hl 1 rfl) ?_
  refine x_cl0 (x_runV (b := (F a 0)) (As := [.int p0]) (rest := []) S (c_X8_addFour l E K F G (F a 0) p0 hk9999 (n0)) mv_X8_addFour km_X10_102 rfl rfl ⟨Nat.le_of_ble_eq_true rfl, Nat.le_of_ble_eq_true rfl⟩ (rc_10 hK hT hk9999) hK (fun _ => XP.blind) (fun U hU hW => XP.at hK hz hS hT hU hW) rfl hl.1 (Nat.le_of_ble_eq_true rfl) dX10_sign_5 ⟨Nat.le_of_ble_eq_true rfl, Nat.le_of_ble_eq_true rfl⟩) hS ?_
  rintro _ G5 H locs ⟨x5, rfl, b5, hF5, t5, oq5⟩ hT hS
  have t5 : (76 < ((G.1 (F a 0) 1).toInt) ∧ x5.toInt = 0 ∧ ((G5.1 (F a 0) 1).toInt) = ((G.1 (F a 0) 1).toInt)) ∨ (((G.1 (F a 0) 1).toInt) ≤ 76 ∧ x5.toInt = 1 ∧ ((G5.1 (F a 0) 1).toInt) = ((G.1 (F a 0) 1).toInt) + 4) := t5
  refine xi_zeq (tgt := 21) hx hb (rfl : Int32.toInt x5 = x5.toInt) dX10_sign_8 (by decide) (fun c8 => ?_) (fun c8 => ?_)
  · refine lv_iconst (v := (-1)) hx hb dX10_sign_21 (by decide) ?_
    exact x_ri hx hb hr hlk hQ (Nat.le_of_ble_eq_true rfl) (Nat.le_of_ble_eq_true rfl) hS dX10_sign_22 G5 ⟨_, rfl, (XFr.call XFr.rf hF5 (xm1 0 rfl xm0) (xm1 0 rfl xm0) xm0), (by rw [((by decide) : Int32.toInt (-1) = (-1 : Int))] <;> exact (z_X10_sign_2 x5.toInt ((G.1 (F a 0) 1).toInt) ((G5.1 (F a 0) 1).toInt) t5 c8)), (by rw [((by decide) : Int32.toInt (-1) = (-1 : Int))] <;> exact (v_X10_sign_22_1 (K := K) (F := F) a G G5 x5 p0 ha oq5 n0 t5 c8))⟩ hT
  · refine lv_aload_n hx hb dX10_sign_11 rfl (lv_at hl 0 rfl) ?_
    refine gX10_0 S hK hT ha kf_X10_12 dX10_sign_12 (fun _ _ => ?_)
    refine x_clp (x_runV (b := (F a 0)) (As := []) (rest := []) S (c_X8_length l E K F G5 H (F a 0) hk9999) mv_X8_length km_X10_106 rfl rfl ⟨Nat.le_of_ble_eq_true rfl, Nat.le_of_ble_eq_true rfl⟩ (rc_10 hK hT hk9999) hK (fun _ => XPh.blind) (fun U hU hW => XPh.at hK hz hS hT hU hW) rfl hl.1 (Nat.le_of_ble_eq_true rfl) dX10_sign_15 ⟨Nat.le_of_ble_eq_true rfl, Nat.le_of_ble_eq_true rfl⟩) hS ?_
    rintro _ _ locs ⟨x15, rfl, t15⟩ hS
    have t15 : x15.toInt = ((G5.1 (F a 0) 1).toInt) := t15
    refine lv_goto (tgt := 22) hx hb dX10_sign_18 (by decide) ?_
    exact x_ri hx hb hr hlk hQ (Nat.le_of_ble_eq_true rfl) (Nat.le_of_ble_eq_true rfl) hS dX10_sign_22 G5 ⟨_, rfl, (XFr.call XFr.rf hF5 (xm1 0 rfl xm0) (xm1 0 rfl xm0) xm0), (by rw [(t15 : Int32.toInt x15 = ((G5.1 (F a 0) 1).toInt))] <;> exact (z_X10_sign_3 x5.toInt ((G.1 (F a 0) 1).toInt) ((G5.1 (F a 0) 1).toInt) t5 c8)), (by rw [(t15 : Int32.toInt x15 = ((G5.1 (F a 0) 1).toInt))] <;> exact (v_X10_sign_22_2 (K := K) (F := F) a G G5 x5 p0 ha oq5 n0 t5 c8))⟩ hT

abbrev rm_X10_end : Room := { frames := 1, cells := 0, slots := 0, locals := 21 }
set_option maxHeartbeats 4000000 in
set_option maxRecDepth 100000 in
theorem c_X10_end (l : Launch) (E : XE) (K : Nat → Nat) (F : Nat → Nat → Nat) (G : XG) (a : Nat) (p0 : Int32) (ha : K a = 12) : Met l yX10_end (xw yX10_end cX10_end 2 (some .boolean)) rm_X10_end (va_Pc [.ref a, .int p0] (XP E K F G)) (XQ E (fun v (u : XG) => ∃ r : Int32, v = .int r ∧ (r = 0 ∨ r = 1) ∧ XFr [(F a 0, 1)] [] [] G u ∧ (((p0.toInt < 0 ∨ ((G.1 (F a 0) 1).toInt) < p0.toInt) ∧ r.toInt = 0 ∧ ((u.1 (F a 0) 1).toInt) = ((G.1 (F a 0) 1).toInt)) ∨ ((0 ≤ p0.toInt ∧ p0.toInt ≤ ((G.1 (F a 0) 1).toInt)) ∧ r.toInt = 1 ∧ ((u.1 (F a 0) 1).toInt) = p0.toInt))) (fun u H => TW E K F u H)) 0 0 (xA E) := by
  refine x_enter (by decide) (Nat.le_of_ble_eq_true rfl) ?_
  intro p e s m args below meth c Q S hr hlk hnm hQ hP ls hl
  obtain ⟨hz, hK, hT⟩ := hP
  obtain ⟨hx, hb, -, -, -⟩ := id S
  obtain ⟨H, hT, hS, hgo⟩ : ∃ H : Heap, TW E K F G H ∧ va_S (xA E) s.heap H [] ∧ H = s.heap := ⟨_, hT, va_S.rf, rfl⟩
  rw [← hgo]
  have hl : lv_has ls 2 [(0, .ref a), (1, .int p0)] := hl
  obtain ⟨hk9999, hj9999⟩ := fkX10_0 hT ha
  refine lv_aload_n hx hb dX10_end_0 rfl (lv_at hl 0 rfl) ?_
  refine gX10_0 S hK hT ha kf_X10_12 dX10_end_1 (fun _ _ => ?_)
  refine lv_iload_n hx hb dX10_end_4 rfl (lv_at hl 1 rfl) ?_
  refine x_cl0 (x_runV (b := (F a 0)) (As := [.int p0]) (rest := []) S (c_X8_shorten l E K F G (F a 0) p0 hk9999) mv_X8_shorten km_X10_110 rfl rfl ⟨Nat.le_of_ble_eq_true rfl, Nat.le_of_ble_eq_true rfl⟩ (rc_10 hK hT hk9999) hK (fun _ => XP.blind) (fun U hU hW => XP.at hK hz hS hT hU hW) rfl hl.1 (Nat.le_of_ble_eq_true rfl) dX10_end_5 ⟨Nat.le_of_ble_eq_true rfl, Nat.le_of_ble_eq_true rfl⟩) hS ?_
  rintro _ G5 H locs ⟨x5, rfl, b5, hF5, t5⟩ hT hS
  have t5 : ((p0.toInt < 0 ∨ ((G.1 (F a 0) 1).toInt) < p0.toInt) ∧ x5.toInt = 0 ∧ ((G5.1 (F a 0) 1).toInt) = ((G.1 (F a 0) 1).toInt)) ∨ ((0 ≤ p0.toInt ∧ p0.toInt ≤ ((G.1 (F a 0) 1).toInt)) ∧ x5.toInt = 1 ∧ ((G5.1 (F a 0) 1).toInt) = p0.toInt) := t5
  exact x_rz hx hb hr (xnz b5) hlk hQ (Nat.le_of_ble_eq_true rfl) (Nat.le_of_ble_eq_true rfl) hS dX10_end_8 G5 ⟨_, rfl, b5, (XFr.call XFr.rf hF5 (xm1 0 rfl xm0) xm0 xm0), (t5)⟩ hT
/-! ===== what a question tells ===== -/
noncomputable def quS (r : Int → Int) (k t c o lo hi s w : Int) : Int := by
  classical
  exact if sbj k s then (if w = 0 then stt r k t c o s else if w = 1 then flq r k t c lo hi s (stt r k t c o s) else -2147483648) else -2147483648
theorem quS_n {r : Int → Int} {k t c o lo hi s w : Int} (h : ¬ sbj k s) : quS r k t c o lo hi s w = -2147483648 := by
  unfold quS
  exact if_neg h
theorem quS_0 {r : Int → Int} {k t c o lo hi s w : Int} (h : sbj k s) (hw : w = 0) : quS r k t c o lo hi s w = stt r k t c o s := by
  unfold quS
  rw [if_pos h, if_pos hw]
theorem quS_1 {r : Int → Int} {k t c o lo hi s w : Int} (h : sbj k s) (hw : w = 1) : quS r k t c o lo hi s w = flq r k t c lo hi s (stt r k t c o s) := by
  unfold quS
  rw [if_pos h, if_neg (by omega), if_pos hw]
theorem quS_o {r : Int → Int} {k t c o lo hi s w : Int} (h0 : ¬ w = 0) (h1 : ¬ w = 1) : quS r k t c o lo hi s w = -2147483648 := by
  unfold quS
  by_cases h : sbj k s
  · rw [if_pos h, if_neg h0, if_neg h1]
  · rw [if_neg h]
/-! ===== what is told of a rule ===== -/
def tdC (q : Nat → Int32) (n w : Int) : Int := if w = 0 then (q 0).toInt else if w = 1 then (q 2).toInt else if w = 2 then (q 3).toInt else if w = 3 then (q 4).toInt else if w = 4 then (q 5).toInt else if w = 5 then (q 6).toInt else if w = 6 then (q 9).toInt else if w = 7 then (q 8).toInt else if w = 8 then (q 7).toInt else if w = 9 then n else -2147483648
theorem tdC_0 {q : Nat → Int32} {n w : Int} (h : w = 0) : tdC q n w = (q 0).toInt := by subst h; rfl
theorem tdC_1 {q : Nat → Int32} {n w : Int} (h : w = 1) : tdC q n w = (q 2).toInt := by subst h; rfl
theorem tdC_2 {q : Nat → Int32} {n w : Int} (h : w = 2) : tdC q n w = (q 3).toInt := by subst h; rfl
theorem tdC_3 {q : Nat → Int32} {n w : Int} (h : w = 3) : tdC q n w = (q 4).toInt := by subst h; rfl
theorem tdC_4 {q : Nat → Int32} {n w : Int} (h : w = 4) : tdC q n w = (q 5).toInt := by subst h; rfl
theorem tdC_5 {q : Nat → Int32} {n w : Int} (h : w = 5) : tdC q n w = (q 6).toInt := by subst h; rfl
theorem tdC_6 {q : Nat → Int32} {n w : Int} (h : w = 6) : tdC q n w = (q 9).toInt := by subst h; rfl
theorem tdC_7 {q : Nat → Int32} {n w : Int} (h : w = 7) : tdC q n w = (q 8).toInt := by subst h; rfl
theorem tdC_8 {q : Nat → Int32} {n w : Int} (h : w = 8) : tdC q n w = (q 7).toInt := by subst h; rfl
theorem tdC_9 {q : Nat → Int32} {n w : Int} (h : w = 9) : tdC q n w = n := by subst h; rfl
theorem tdC_o {q : Nat → Int32} {n w : Int} (h : w < 0 ∨ 9 < w) : tdC q n w = -2147483648 := by
  unfold tdC
  rw [if_neg (by omega), if_neg (by omega), if_neg (by omega), if_neg (by omega), if_neg (by omega), if_neg (by omega), if_neg (by omega), if_neg (by omega), if_neg (by omega), if_neg (by omega)]
noncomputable def tdM (f : Nat → Int32) (p n w : Int) : Int := if 0 ≤ w ∧ w ≤ 8 then aI f (10 * p + w) else if w = 9 then n else -2147483648
theorem tdM_i {f : Nat → Int32} {p n w : Int} (h : 0 ≤ w ∧ w ≤ 8) : tdM f p n w = aI f (10 * p + w) := if_pos h
theorem tdM_9 {f : Nat → Int32} {p n w : Int} (h : w = 9) : tdM f p n w = n := by
  unfold tdM
  rw [if_neg (by omega), if_pos h]
theorem tdM_o {f : Nat → Int32} {p n w : Int} (h : w < 0 ∨ 9 < w) : tdM f p n w = -2147483648 := by
  unfold tdM
  rw [if_neg (by omega), if_neg (by omega)]
/-! ===== how many rows a table has, and which ===== -/
def rmR (f : Nat → Int32) (t z : Int) : Int := bsm (fun k => aI f (4 * (30 * t + k))) z.toNat
theorem rmR_0 (f : Nat → Int32) (t : Int) : rmR f t 0 = 0 := rfl
theorem rmR_s (f : Nat → Int32) (t : Int) {z : Int} (h : 0 ≤ z) : rmR f t (z + 1) = rmR f t z + aI f (4 * (30 * t + z)) := by
  have e : (z + 1).toNat = z.toNat + 1 := by omega
  have e2 : ((z.toNat : Nat) : Int) = z := by omega
  unfold rmR
  rw [e]
  show bsm (fun k => aI f (4 * (30 * t + k))) z.toNat + aI f (4 * (30 * t + ((z.toNat : Nat) : Int))) = _
  rw [e2]
theorem RM.is2 {f : Nat → Int32} (h : RM f 0) {t k : Int} (ht : 0 ≤ t ∧ t < 3) (hk : 0 ≤ k ∧ k < 30) : aI f (4 * (30 * t + k)) = 0 ∨ aI f (4 * (30 * t + k)) = 1 := by
  have q := h.flag (t := t) (k := k) ⟨ht.1, ht.2, hk.1, hk.2⟩
  rw [show 0 + 4 * (30 * t + k) = 4 * (30 * t + k) by omega] at q
  exact q.imp (fun x => x.1) (fun x => x.1)
/-- a bit more -/
theorem bI_or01 {x v k y w : Int32} {X Z V : Int} (hv : v.toInt = V) (h01 : V = 0 ∨ V = 1) (hy : y = v <<< (k &&& 31)) (hw : w = x ||| y) (hX : x.toInt = X) (hk : k.toInt = Z) (h0 : 0 ≤ Z ∧ Z < 32) (hz : bI X Z = 0) : ∀ j : Int, 0 ≤ j → j < 32 → bI w.toInt j = if j = Z then V else bI X j := by
  rcases h01 with e | e
  · have ev : v = 0 := Int32.toInt_inj.mp (by rw [hv, e]; rfl)
    have ey : y = 0 := by
      rw [hy, ev]
      apply Int32.toBitVec_inj.mp
      simp
    have ew : w = x := by
      rw [hw, ey]
      simp
    intro j h1 h2
    rw [ew, hX, e]
    by_cases g : j = Z
    · rw [if_pos g, g]; exact hz
    · rw [if_neg g]
  · have ev : v = 1 := Int32.toInt_inj.mp (by rw [hv, e]; rfl)
    rw [ev] at hy
    intro j h1 h2
    rw [e]
    exact bI_set hy hw hX hk h0 j h1 h2
theorem bI_ext {x y : Int32} (h : ∀ j : Int, 0 ≤ j → j < 32 → bI x.toInt j = bI y.toInt j) : x = y := by
  apply Int32.toBitVec_inj.mp
  apply BitVec.eq_of_getLsbD_eq
  intro i hi
  have q := h (i : Int) (by omega) (by omega)
  rw [bI_of rfl, bI_of rfl] at q
  have q : (if bt x i then (1 : Int) else 0) = if bt y i then 1 else 0 := q
  show bt x i = bt y i
  cases hx : bt x i <;> cases hy : bt y i
  · rfl
  · rw [hx, hy] at q; exact absurd q (by decide)
  · rw [hx, hy] at q; exact absurd q (by decide)
  · rfl
/-! how deep a row lies under its tree -/
def dpF (v : Int → Int) (T C : Int) : Nat → Int → Int → Int
  | 0, _, _ => -2
  | m + 1, n, k => if cel v T (cel v T k C) 0 = -2000 then n else dpF v T C m (n + 1) (cel v T k C)
theorem dpF_o {v : Int → Int} {T C : Int} {m : Nat} {n k : Int} (h : cel v T (cel v T k C) 0 = -2000) : dpF v T C (m + 1) n k = n := if_pos h
theorem dpF_s {v : Int → Int} {T C : Int} {m : Nat} {n k : Int} (h : cel v T (cel v T k C) 0 ≠ -2000) : dpF v T C (m + 1) n k = dpF v T C m (n + 1) (cel v T k C) := if_neg h
def dpS (v : Int → Int) (kd T C key : Int) : Int := if kd = 5 ∧ cel v T key 0 ≠ -2000 then dpF v T C 31 0 key else -1
theorem dpS_i {v : Int → Int} {kd T C key : Int} (h : kd = 5 ∧ cel v T key 0 ≠ -2000) : dpS v kd T C key = dpF v T C 31 0 key := if_pos h
theorem dpS_n {v : Int → Int} {kd T C key : Int} (h : kd ≠ 5 ∨ cel v T key 0 = -2000) : dpS v kd T C key = -1 := if_neg (fun q => h.elim (fun g => g q.1) q.2)
theorem RM.cel0 {f : Nat → Int32} {t k c : Int} (h : RM f 0) (h0 : (0 ≤ t ∧ t < 3) ∧ (0 ≤ k ∧ k < 30) ∧ (0 ≤ c ∧ c < 3)) (hr : cel (mw f 0) t k 0 ≠ -2000) : aI f (4 * (30 * t + k) + 1 + c) = cel (mw f 0) t k c := by
  have k1 := h.okc (t := t) (k := k) (c := 0) ⟨h0.1.1, h0.1.2, h0.2.1.1, h0.2.1.2, by decide, by decide⟩
  have k2 := h.okc (t := t) (k := k) (c := c) ⟨h0.1.1, h0.1.2, h0.2.1.1, h0.2.1.2, h0.2.2.1, h0.2.2.2⟩
  rw [Int.zero_add] at k1 k2
  rcases k2 with ⟨e, -⟩ | ⟨-, e2, -⟩
  · rcases k1 with ⟨-, e3⟩ | ⟨e3, -⟩
    · exact absurd e3 hr
    · rw [e] at e3; exact absurd e3 (by decide)
  · exact e2.symm
/-! all that fail, in order -/
noncomputable def fa1 (f : Nat → Int32) (r : Int → Int) (q s : Int) : Option (Int × Int) := if fzq f r q s = 1 then some (q, s) else none
noncomputable def fas (f : Nat → Int32) (r : Int → Int) (q : Int) : List (Int × Int) := (subs (aI f (10 * q + 0))).filterMap (fa1 f r q)
noncomputable def faL (f : Nat → Int32) (r : Int → Int) (o : Nat → Nat) : Nat → List (Int × Int)
  | 0 => []
  | n + 1 => faL f r o n ++ fas f r ((o n : Nat) : Int)
theorem faL_s (f : Nat → Int32) (r : Int → Int) (o : Nat → Nat) (n : Nat) : faL f r o (n + 1) = faL f r o n ++ fas f r ((o n : Nat) : Int) := rfl
noncomputable def faO (f : Nat → Int32) (r : Int → Int) : List (Int × Int) := faL f r (ordN (prM f) (rkM f) 12).2 (ordN (prM f) (rkM f) 12).1
noncomputable def fap (f : Nat → Int32) (r : Int → Int) (q s : Int) : List (Int × Int) := (lst (fun i : Nat => (i : Int) + sF (aI f (10 * q + 0))) (s - sF (aI f (10 * q + 0))).toNat).filterMap (fa1 f r q)
theorem fap_0 {f : Nat → Int32} {r : Int → Int} {q s : Int} (h : s = sF (aI f (10 * q + 0))) : fap f r q s = [] := by
  unfold fap
  rw [h, Int.sub_self]
  rfl
theorem fap_s {f : Nat → Int32} {r : Int → Int} {q s : Int} (h : sF (aI f (10 * q + 0)) ≤ s) : fap f r q (s + 1) = fap f r q s ++ [s].filterMap (fa1 f r q) := by
  unfold fap
  rw [show (s + 1 - sF (aI f (10 * q + 0))).toNat = (s - sF (aI f (10 * q + 0))).toNat + 1 from by omega, lst_s, List.filterMap_append]
  congr 2
  congr 1
  omega
theorem fap_y {f : Nat → Int32} {r : Int → Int} {q s : Int} (h : sF (aI f (10 * q + 0)) ≤ s) (hz : fzq f r q s = 1) : fap f r q (s + 1) = fap f r q s ++ [(q, s)] := by
  rw [fap_s h, filterMap_1s (show fa1 f r q s = some (q, s) from if_pos hz)]
theorem fap_n {f : Nat → Int32} {r : Int → Int} {q s : Int} (h : sF (aI f (10 * q + 0)) ≤ s) (hz : fzq f r q s ≠ 1) : fap f r q (s + 1) = fap f r q s := by
  rw [fap_s h, filterMap_1n2 (show fa1 f r q s = none from if_neg hz), List.append_nil]
theorem fap_l {f : Nat → Int32} {r : Int → Int} {q s : Int} (h : s = sL (aI f (10 * q + 0)) + 1) : fap f r q s = fas f r q := by
  unfold fap fas
  rw [subs_lst, h]
  congr 3
  omega
def alS (p : Int) (l : List (Int × Int)) : Int := if p = 0 then ((l.length : Nat) : Int) else match l with
  | [] => -1
  | y :: _ => if p = 1 then y.1 else y.2
def TrA (n i s : Int) (l : List (Int × Int)) : Prop := n = ((l.length : Nat) : Int) ∧ ((l = [] ∧ i = -2147483648 ∧ s = -2147483648) ∨ ∃ (y : Int × Int) (t : List (Int × Int)), l = y :: t ∧ i = y.1 ∧ s = y.2)
theorem TrA_0 : TrA 0 (-2147483648) (-2147483648) [] := ⟨rfl, Or.inl ⟨rfl, rfl, rfl⟩⟩
theorem TrA_n {n i s q u : Int} {l : List (Int × Int)} (h : TrA n i s l) (hn : n = 0) : TrA (n + 1) q u (l ++ [(q, u)]) := by
  obtain ⟨h1, -⟩ := h
  have e : l = [] := List.eq_nil_of_length_eq_zero (by omega)
  subst e
  rw [hn]
  exact ⟨rfl, Or.inr ⟨(q, u), [], rfl, rfl, rfl⟩⟩
theorem TrA_s {n i s : Int} {l : List (Int × Int)} (h : TrA n i s l) (hn : n ≠ 0) (x : Int × Int) : TrA (n + 1) i s (l ++ [x]) := by
  obtain ⟨h1, ⟨e, -⟩ | ⟨y, t, e, a, b⟩⟩ := h
  · rw [e] at h1; exact absurd h1 hn
  · refine ⟨?_, Or.inr ⟨y, t ++ [x], by rw [e]; rfl, a, b⟩⟩
    rw [List.length_append, List.length_singleton]
    omega
theorem alS_0 {n i s p : Int} {l : List (Int × Int)} (h : TrA n i s l) (hp : p = 0) : alS p l = n := (if_pos hp).trans h.1.symm
theorem alS_e {n i s p : Int} {l : List (Int × Int)} (h : TrA n i s l) (hp : p ≠ 0) (hn : n = 0) : alS p l = -1 := by
  obtain ⟨h1, -⟩ := h
  have e : l = [] := List.eq_nil_of_length_eq_zero (by omega)
  subst e
  exact if_neg hp
theorem alS_1 {n i s p : Int} {l : List (Int × Int)} (h : TrA n i s l) (hp : p = 1) (hn : n ≠ 0) : alS p l = i := by
  obtain ⟨h1, ⟨e, -⟩ | ⟨y, t, e, a, b⟩⟩ := h
  · rw [e] at h1; exact absurd h1 hn
  · rw [e, a]
    show (if p = 0 then _ else if p = 1 then y.1 else y.2) = _
    rw [if_neg (by omega), if_pos hp]
theorem alS_2 {n i s p : Int} {l : List (Int × Int)} (h : TrA n i s l) (hp : p = 2) (hn : n ≠ 0) : alS p l = s := by
  obtain ⟨h1, ⟨e, -⟩ | ⟨y, t, e, a, b⟩⟩ := h
  · rw [e] at h1; exact absurd h1 hn
  · rw [e, b]
    show (if p = 0 then _ else if p = 1 then y.1 else y.2) = _
    rw [if_neg (by omega), if_neg (by omega)]
/-- of the class's list -/
def fqL (l : List Qt) : List (Int × Int) := (l.filter (fun x => decide (x.2.2.2.2.2 = 1))).map (fun x => (x.1, x.2.1))
theorem fqL_cnt (l : List Qt) : (fqL l).length = l.countP (fun x => decide (x.2.2.2.2.2 = 1)) := by
  unfold fqL
  rw [List.length_map, List.countP_eq_length_filter]
theorem hv_qL5 (G : XG) (F : Nat → Nat → Nat) (a : Nat) : hv (aI (G.2.1 (F a 5))) 0 1 ((G.1 a 6).toInt) = (((fqL (qL G F a)).length : Nat) : Int) := by
  rw [hv_eq, fqL_cnt]
  exact hvR_cnt _ _ _ 1 _ (fun i _ => by
    show decide ((G.2.1 (F a 5) i).toInt = 1) = true ↔ _
    exact decide_eq_true_iff)
theorem fil_nil {α : Type} {p : α → Bool} : ∀ {l : List α}, (∀ (j : Nat) (x : α), l[j]? = some x → p x = false) → l.filter p = []
  | [], _ => rfl
  | y :: l, h => by
    have h0 := h 0 y rfl
    rw [List.filter_cons_of_neg (by rw [h0]; decide)]
    exact fil_nil (fun j x hj => h (j + 1) x hj)
theorem fil_hd {α : Type} {p : α → Bool} : ∀ {l : List α} {n : Nat} {y : α}, l[n]? = some y → p y = true → (∀ (j : Nat) (x : α), j < n → l[j]? = some x → p x = false) → ∃ t, l.filter p = y :: t
  | [], n, y, h, _, _ => by cases n <;> cases h
  | z :: l, 0, y, h, hy, _ => by
    have e : z = y := Option.some.inj h
    subst e
    exact ⟨_, List.filter_cons_of_pos hy⟩
  | z :: l, n + 1, y, h, hy, hj => by
    have h0 := hj 0 z (by omega) rfl
    rw [List.filter_cons_of_neg (by rw [h0]; decide)]
    exact fil_hd (l := l) (n := n) h hy (fun j x a b => hj (j + 1) x (by omega) b)
theorem ff_none {G : XG} {F : Nat → Nat → Nat} {a : Nat} {r : Int} (hr : r = -1) (h2 : ∀ j : Int, 0 ≤ j → j < (G.1 a 6).toInt → (r = -1 ∨ j < r) → aI (G.2.1 (F a 5)) j = 0) : fqL (qL G F a) = [] := by
  unfold fqL
  rw [fil_nil (fun j x hj => by
    obtain ⟨hl, rfl⟩ := qL_get hj
    have := h2 (j : Int) (by omega) hl (Or.inl hr)
    have e : (G.2.1 (F a 5) j).toInt = 0 := this
    show decide ((G.2.1 (F a 5) j).toInt = 1) = false
    rw [e]; rfl)]
  rfl
theorem ff_some {G : XG} {F : Nat → Nat → Nat} {a : Nat} {r : Int} (hr : r ≠ -1) (h1 : r = -1 ∨ (0 ≤ r ∧ r < (G.1 a 6).toInt ∧ aI (G.2.1 (F a 5)) r = 1)) (h2 : ∀ j : Int, 0 ≤ j → j < (G.1 a 6).toInt → (r = -1 ∨ j < r) → aI (G.2.1 (F a 5)) j = 0) : ∃ t, fqL (qL G F a) = (aI (G.2.1 (F a 0)) r, aI (G.2.1 (F a 1)) r) :: t := by
  obtain ⟨a0, a1, a2⟩ := h1.resolve_left hr
  have hg := qL_at (G := G) (F := F) (a := a) (z := r) ⟨a0, a1⟩
  obtain ⟨t, ht⟩ := fil_hd (p := fun x : Qt => decide (x.2.2.2.2.2 = 1)) hg (decide_eq_true a2) (fun j x hj hx => by
    obtain ⟨hl, rfl⟩ := qL_get hx
    have := h2 (j : Int) (by omega) hl (Or.inr (by omega))
    have e : (G.2.1 (F a 5) j).toInt = 0 := this
    show decide ((G.2.1 (F a 5) j).toInt = 1) = false
    rw [e]; rfl)
  refine ⟨t.map (fun x => (x.1, x.2.1)), ?_⟩
  unfold fqL
  rw [ht]
  rfl
theorem alS_len {p : Int} {l : List (Int × Int)} (hp : p = 0) : alS p l = ((l.length : Nat) : Int) := if_pos hp
theorem alS_nil {p : Int} {l : List (Int × Int)} (hp : p ≠ 0) (h : l = []) : alS p l = -1 := by
  subst h
  exact if_neg hp
theorem alS_c1 {p q u : Int} {l t : List (Int × Int)} (hp : p = 1) (h : l = (q, u) :: t) : alS p l = q := by
  subst h
  show (if p = 0 then _ else if p = 1 then q else u) = _
  rw [if_neg (by omega), if_pos hp]
theorem alS_c2 {p q u : Int} {l t : List (Int × Int)} (hp : p = 2) (h : l = (q, u) :: t) : alS p l = u := by
  subst h
  show (if p = 0 then _ else if p = 1 then q else u) = _
  rw [if_neg (by omega), if_neg (by omega)]
/-! what the queue tells -/
noncomputable def quM (f : Nat → Int32) (mn mb : Int → Int) (y : Int × Int) (w : Int) : Int := if w = 0 then y.1 else if w = 1 then y.2 else if w = 2 then stt mb (aI f (10 * y.1 + 0)) (aI f (10 * y.1 + 1)) (aI f (10 * y.1 + 2)) (aI f (10 * y.1 + 3)) y.2 else if w = 3 then stt mn (aI f (10 * y.1 + 0)) (aI f (10 * y.1 + 1)) (aI f (10 * y.1 + 2)) (aI f (10 * y.1 + 3)) y.2 else if w = 4 then fzq f mn y.1 y.2 else -2147483648
theorem quM_0 {f : Nat → Int32} {mn mb : Int → Int} {y : Int × Int} {w : Int} (h : w = 0) : quM f mn mb y w = y.1 := if_pos h
theorem quM_1 {f : Nat → Int32} {mn mb : Int → Int} {y : Int × Int} {w : Int} (h : w = 1) : quM f mn mb y w = y.2 := by
  subst h; rfl
theorem quM_2 {f : Nat → Int32} {mn mb : Int → Int} {y : Int × Int} {w : Int} (h : w = 2) : quM f mn mb y w = stt mb (aI f (10 * y.1 + 0)) (aI f (10 * y.1 + 1)) (aI f (10 * y.1 + 2)) (aI f (10 * y.1 + 3)) y.2 := by
  subst h; rfl
theorem quM_3 {f : Nat → Int32} {mn mb : Int → Int} {y : Int × Int} {w : Int} (h : w = 3) : quM f mn mb y w = stt mn (aI f (10 * y.1 + 0)) (aI f (10 * y.1 + 1)) (aI f (10 * y.1 + 2)) (aI f (10 * y.1 + 3)) y.2 := by
  subst h; rfl
theorem quM_4 {f : Nat → Int32} {mn mb : Int → Int} {y : Int × Int} {w : Int} (h : w = 4) : quM f mn mb y w = fzq f mn y.1 y.2 := by
  subst h; rfl
theorem quM_o {f : Nat → Int32} {mn mb : Int → Int} {y : Int × Int} {w : Int} (h : w < 0 ∨ 4 < w) : quM f mn mb y w = -2147483648 := by
  unfold quM
  rw [if_neg (by omega), if_neg (by omega), if_neg (by omega), if_neg (by omega), if_neg (by omega)]
/-! where rules begin in a list that keeps those of a rule together -/
def stN (g : Int → Int) : Nat → Int
  | 0 => 0
  | n + 1 => stN g n + (if n = 0 ∨ g (n : Int) ≠ g ((n : Int) - 1) then 1 else 0)
def stF (g : Int → Int) (z : Int) : Int := stN g z.toNat
theorem stF_0 (g : Int → Int) : stF g 0 = 0 := rfl
theorem stF_s {g : Int → Int} {z : Int} (h : 0 ≤ z) : (z = 0 ∨ g z ≠ g (z - 1) → stF g (z + 1) = stF g z + 1) ∧ (¬ (z = 0 ∨ g z ≠ g (z - 1)) → stF g (z + 1) = stF g z) := by
  obtain ⟨n, rfl⟩ : ∃ n : Nat, z = (n : Int) := ⟨z.toNat, by omega⟩
  have e : stF g ((n : Int) + 1) = stF g (n : Int) + (if n = 0 ∨ g (n : Int) ≠ g ((n : Int) - 1) then 1 else 0) := by
    unfold stF
    rw [show ((n : Int) + 1).toNat = n + 1 from by omega, show ((n : Int)).toNat = n from by omega]
    rfl
  rw [e]
  constructor
  · intro q
    rw [if_pos (q.imp (fun a => by omega) id)]
  · intro q
    rw [if_neg (fun a => q (a.imp (fun b => by omega) id))]
    omega
theorem stF_run {g : Int → Int} {s e : Int} (h : 0 ≤ s ∧ s < e) (hs : s = 0 ∨ g s ≠ g (s - 1)) (hr : ∀ j : Int, s ≤ j → j < e → g j = g s) : stF g e = stF g s + 1 := by
  obtain ⟨n, hn⟩ : ∃ n : Nat, e = s + 1 + (n : Int) := ⟨(e - s - 1).toNat, by omega⟩
  have h0 : 0 ≤ s := h.1
  clear h
  induction n generalizing e with
  | zero =>
    rw [hn, show s + 1 + ((0 : Nat) : Int) = s + 1 from by omega]
    exact (stF_s h0).1 hs
  | succ n ih =>
    have e1 : e = (s + 1 + (n : Int)) + 1 := by omega
    have i1 := ih (e := s + 1 + (n : Int)) (fun j a b => hr j a (by omega)) rfl
    have e2 := hr (s + 1 + (n : Int)) (by omega) (by omega)
    have e3 := hr (s + 1 + (n : Int) - 1) (by omega) (by omega)
    rw [e1, ← i1]
    exact (stF_s (by omega)).2 (fun q => q.elim (fun a => by omega) (fun a => a (e2.trans e3.symm)))
def GrC (g : Int → Int) (n i w r : Int) : Prop := (i = -1 ∧ r = stF g n) ∨ (i ≠ -1 ∧ (i < 0 ∨ stF g n ≤ i) ∧ r = -1) ∨ (∃ s : Int, (0 ≤ s ∧ s < n) ∧ (s = 0 ∨ g s ≠ g (s - 1)) ∧ stF g s = i ∧ ((w = 0 ∧ r = g s) ∨ (w ≠ 0 ∧ r = hv g 0 (g s) n)))
def GrM (g : Int → Int) (n i w r : Int) : Prop := (i = -1 ∧ r = stF g n) ∨ (i ≠ -1 ∧ (i < 0 ∨ stF g n ≤ i) ∧ r = -1) ∨ (∃ s e : Int, (0 ≤ s ∧ s < e ∧ e ≤ n) ∧ (s = 0 ∨ g s ≠ g (s - 1)) ∧ stF g s = i ∧ (∀ j : Int, s ≤ j → j < e → g j = g s) ∧ (e = n ∨ g e ≠ g s) ∧ ((w = 0 ∧ r = g s) ∨ (w ≠ 0 ∧ r = e - s)))
def nth1 (l : List (Int × Int)) (j : Int) : Int := ((l[j.toNat]?).map Prod.fst).getD 0
theorem nth1_some {l : List (Int × Int)} {j : Int} {y : Int × Int} (h : l[j.toNat]? = some y) : nth1 l j = y.1 := congrArg (fun o : Option (Int × Int) => (o.map Prod.fst).getD 0) h
theorem nth1_pL {G : XG} {F : Nat → Nat → Nat} {a : Nat} {j : Int} (h : 0 ≤ j ∧ j < (G.1 a 19).toInt) : nth1 (pL G F a) j = aI (G.2.1 (F a 17)) j := nth1_some (pL_at h)
theorem stN_congr {g h : Int → Int} : ∀ n : Nat, (∀ j : Int, 0 ≤ j → j < (n : Int) → g j = h j) → stN g n = stN h n
  | 0, _ => rfl
  | n + 1, q => by
    show stN g n + (if n = 0 ∨ g (n : Int) ≠ g ((n : Int) - 1) then 1 else 0) = stN h n + (if n = 0 ∨ h (n : Int) ≠ h ((n : Int) - 1) then 1 else 0)
    rw [stN_congr n (fun j a b => q j a (by omega)), q (n : Int) (by omega) (by omega)]
    by_cases z : n = 0
    · rw [if_pos (Or.inl z), if_pos (Or.inl z)]
    · rw [q ((n : Int) - 1) (by omega) (by omega)]
theorem stF_congr {g h : Int → Int} {n : Int} (q : ∀ j : Int, 0 ≤ j → j < n → g j = h j) : stF g n = stF h n := stN_congr n.toNat (fun j a b => q j a (by omega))
theorem GrM_congr {g h : Int → Int} {n i w r : Int} (q : ∀ j : Int, 0 ≤ j → j < n → g j = h j) (x : GrM g n i w r) : GrM h n i w r := by
  rcases x with ⟨a, b⟩ | ⟨a, b, c⟩ | ⟨s, e, ⟨s0, s1, s2⟩, b, c, d, e1, f⟩
  · exact Or.inl ⟨a, by rw [b, stF_congr q]⟩
  · exact Or.inr (Or.inl ⟨a, by rw [← stF_congr q]; exact b, c⟩)
  · refine Or.inr (Or.inr ⟨s, e, ⟨s0, s1, s2⟩, ?_, ?_, ?_, ?_, ?_⟩)
    · by_cases z : s = 0
      · exact Or.inl z
      · rw [← q s s0 (by omega), ← q (s - 1) (by omega) (by omega)]; exact b
    · rw [← stF_congr (g := g) (h := h) (n := s) (fun j a1 a2 => q j a1 (by omega))]; exact c
    · intro j a1 a2
      rw [← q j (by omega) (by omega), ← q s s0 (by omega)]
      exact d j a1 a2
    · by_cases z : e = n
      · exact Or.inl z
      · rw [← q e (by omega) (by omega), ← q s s0 (by omega)]; exact e1
    · rw [← q s s0 (by omega)]; exact f
theorem v_X11_value_4_1 {K : Nat → Nat} {F : Nat → Nat → Nat} (a : Nat) (G : XG) (p0 : Int32) (p1 : Int32)
    (ha : K a = 13)
    (hk9999 : K (F a 1) = 30)
    (hj9999 : F (F a 1) 99 = 1)
    (hM : RM (G.2.1 (F a 1)) (0))
    (z0 : ¬ (0 ≤ p0.toInt ∧ p0.toInt < 3 ∧ 0 ≤ p1.toInt ∧ p1.toInt < 30) → (cel (mw (G.2.1 (F a 1)) 0) (p0.toInt) (p1.toInt) 0) = -2000) :
    RM (G.2.1 (F a 1)) 0 := by
  first | assumption | omega
theorem v_X11_value_50_2 (a : Nat) (G22 : XG) (G : XG)
    (hG22 : G22 = dput G a 0 1) :
    G22.2.2.2 = G.2.2.2 := by
  rw [hG22]; rfl
theorem v_X11_value_50_3 (a : Nat) (G22 : XG) (G : XG)
    (hG22 : G22 = dput G a 0 1) :
    G22.2.2.2 = G.2.2.2 := by
  rw [hG22]; rfl
theorem v_X11_value_50_4 (a : Nat) (G22 : XG) (G : XG)
    (hG22 : G22 = dput G a 0 0) :
    G22.2.2.2 = G.2.2.2 := by
  rw [hG22]; rfl
theorem v_X11_told_50_1 {K : Nat → Nat} {F : Nat → Nat → Nat} (a : Nat) (G : XG) (x7 : Int32) (p0 : Int32) (p1 : Int32)
    (ha : K a = 13)
    (t7 : (x7.toInt = 1 ∧ 0 ≤ p0.toInt ∧ p0.toInt ≤ 11 ∧ (aI (G.2.1 (F a 10)) (10 * p0.toInt + 0)) ≠ -1) ∨ (x7.toInt = 0 ∧ (¬ (0 ≤ p0.toInt ∧ p0.toInt ≤ 11) ∨ (aI (G.2.1 (F a 10)) (10 * p0.toInt + 0)) = -1)))
    (c10 : x7.toInt = 0) :
    (¬ (0 ≤ p0.toInt ∧ p0.toInt ≤ 11 ∧ aI (G.2.1 (F a 10)) (10 * p0.toInt + 0) ≠ -1) ∧ (-2147483648 : Int) = -2147483648) ∨ ((0 ≤ p0.toInt ∧ p0.toInt ≤ 11 ∧ aI (G.2.1 (F a 10)) (10 * p0.toInt + 0) ≠ -1) ∧ (-2147483648 : Int) = tdM (G.2.1 (F a 10)) p0.toInt (cnP (if ((G.1 a 6).toInt) = 0 then [] else fuO (G.2.1 (F a 10)) (mw (G.2.1 (F a 1)) 0) (mw (G.2.1 (F a 2)) 0) 1) p0.toInt) p1.toInt) := by
  first
    | exact Or.inl ⟨by omega, rfl⟩
    | exact Or.inr ⟨by omega, (tdM_o (by omega)).symm⟩
    | exact Or.inr ⟨by omega, (tdM_i (by omega)).symm⟩
    | exact Or.inr ⟨by omega, (by rw [tdM_9 (by omega), ← oq38]; exact oq38a)⟩
theorem v_X11_told_50_2 {K : Nat → Nat} {F : Nat → Nat → Nat} (a : Nat) (G : XG) (p0 : Int32) (p1 : Int32) (x7 : Int32) (x19 : Int32)
    (ha : K a = 13)
    (t7 : (x7.toInt = 1 ∧ 0 ≤ p0.toInt ∧ p0.toInt ≤ 11 ∧ (aI (G.2.1 (F a 10)) (10 * p0.toInt + 0)) ≠ -1) ∨ (x7.toInt = 0 ∧ (¬ (0 ≤ p0.toInt ∧ p0.toInt ≤ 11) ∨ (aI (G.2.1 (F a 10)) (10 * p0.toInt + 0)) = -1)))
    (c10 : ¬ (x7.toInt = 0))
    (t19 : (x19.toInt = 1 ∧ (0 : Int) ≤ p1.toInt ∧ p1.toInt ≤ (9 : Int)) ∨ (x19.toInt = 0 ∧ (p1.toInt < (0 : Int) ∨ (9 : Int) < p1.toInt)))
    (c22 : x19.toInt ≠ 0)
    (c33 : p1.toInt ≠ (9 : Int)) :
    (¬ (0 ≤ p0.toInt ∧ p0.toInt ≤ 11 ∧ aI (G.2.1 (F a 10)) (10 * p0.toInt + 0) ≠ -1) ∧ (aI (G.2.1 (F a 10)) (10 * p0.toInt + p1.toInt)) = -2147483648) ∨ ((0 ≤ p0.toInt ∧ p0.toInt ≤ 11 ∧ aI (G.2.1 (F a 10)) (10 * p0.toInt + 0) ≠ -1) ∧ (aI (G.2.1 (F a 10)) (10 * p0.toInt + p1.toInt)) = tdM (G.2.1 (F a 10)) p0.toInt (cnP (if ((G.1 a 6).toInt) = 0 then [] else fuO (G.2.1 (F a 10)) (mw (G.2.1 (F a 1)) 0) (mw (G.2.1 (F a 2)) 0) 1) p0.toInt) p1.toInt) := by
  first
    | exact Or.inl ⟨by omega, rfl⟩
    | exact Or.inr ⟨by omega, (tdM_o (by omega)).symm⟩
    | exact Or.inr ⟨by omega, (tdM_i (by omega)).symm⟩
    | exact Or.inr ⟨by omega, (by rw [tdM_9 (by omega), ← oq38]; exact oq38a)⟩
theorem v_X11_told_38_3 {F : Nat → Nat → Nat} (a : Nat) (G2 : XG) (G : XG)
    (hR : RV (G.2.1 (F a 10)))
    (c_G2_F_a_10 : G2.2.1 (F a 10) = G.2.1 (F a 10)) :
    RV (G2.2.1 (F a 10)) := by simp only [c_G2_F_a_10]; assumption
theorem v_X11_told_38_4 {F : Nat → Nat → Nat} (a : Nat) (G2 : XG) (G : XG)
    (hM : RM (G.2.1 (F a 1)) (0))
    (hB : RM (G.2.1 (F a 2)) 0)
    (c_G2_F_a_1 : G2.2.1 (F a 1) = G.2.1 (F a 1)) :
    RM (G2.2.1 (F a 1)) (0) := by simp only [c_G2_F_a_1]; assumption
theorem v_X11_told_38_5 {F : Nat → Nat → Nat} (a : Nat) (G2 : XG) (G : XG)
    (hM : RM (G.2.1 (F a 1)) (0))
    (hB : RM (G.2.1 (F a 2)) 0)
    (c_G2_F_a_2 : G2.2.1 (F a 2) = G.2.1 (F a 2)) :
    RM (G2.2.1 (F a 2)) 0 := by simp only [c_G2_F_a_2]; assumption
theorem v_X11_told_50_6 {K : Nat → Nat} {F : Nat → Nat → Nat} (a : Nat) (G : XG) (G38 : XG) (x38 : Int32) (p0 : Int32) (x7 : Int32) (x19 : Int32) (p1 : Int32)
    (ha : K a = 13)
    (oq38 : pL G38 F a = if ((G.1 a 6).toInt) = 0 then [] else fuO (G.2.1 (F a 10)) (mw (G.2.1 (F a 1)) 0) (mw (G.2.1 (F a 2)) 0) 1)
    (oq38a : x38.toInt = cnP (pL G38 F a) p0.toInt)
    (t7 : (x7.toInt = 1 ∧ 0 ≤ p0.toInt ∧ p0.toInt ≤ 11 ∧ (aI (G.2.1 (F a 10)) (10 * p0.toInt + 0)) ≠ -1) ∨ (x7.toInt = 0 ∧ (¬ (0 ≤ p0.toInt ∧ p0.toInt ≤ 11) ∨ (aI (G.2.1 (F a 10)) (10 * p0.toInt + 0)) = -1)))
    (c10 : ¬ (x7.toInt = 0))
    (t19 : (x19.toInt = 1 ∧ (0 : Int) ≤ p1.toInt ∧ p1.toInt ≤ (9 : Int)) ∨ (x19.toInt = 0 ∧ (p1.toInt < (0 : Int) ∨ (9 : Int) < p1.toInt)))
    (c22 : x19.toInt ≠ 0)
    (c33 : ¬ (p1.toInt ≠ (9 : Int)))
    (t38 : 0 ≤ x38.toInt ∧ x38.toInt ≤ 2388 ∧ 0 ≤ ((G38.1 a 19).toInt) ∧ ((G38.1 a 19).toInt) ≤ 2388) :
    (¬ (0 ≤ p0.toInt ∧ p0.toInt ≤ 11 ∧ aI (G.2.1 (F a 10)) (10 * p0.toInt + 0) ≠ -1) ∧ x38.toInt = -2147483648) ∨ ((0 ≤ p0.toInt ∧ p0.toInt ≤ 11 ∧ aI (G.2.1 (F a 10)) (10 * p0.toInt + 0) ≠ -1) ∧ x38.toInt = tdM (G.2.1 (F a 10)) p0.toInt (cnP (if ((G.1 a 6).toInt) = 0 then [] else fuO (G.2.1 (F a 10)) (mw (G.2.1 (F a 1)) 0) (mw (G.2.1 (F a 2)) 0) 1) p0.toInt) p1.toInt) := by
  first
    | exact Or.inl ⟨by omega, rfl⟩
    | exact Or.inr ⟨by omega, (tdM_o (by omega)).symm⟩
    | exact Or.inr ⟨by omega, (tdM_i (by omega)).symm⟩
    | exact Or.inr ⟨by omega, (by rw [tdM_9 (by omega), ← oq38]; exact oq38a)⟩
theorem v_X11_told_50_7 {K : Nat → Nat} {F : Nat → Nat → Nat} (a : Nat) (G : XG) (x7 : Int32) (p0 : Int32) (x19 : Int32) (p1 : Int32)
    (ha : K a = 13)
    (t7 : (x7.toInt = 1 ∧ 0 ≤ p0.toInt ∧ p0.toInt ≤ 11 ∧ (aI (G.2.1 (F a 10)) (10 * p0.toInt + 0)) ≠ -1) ∨ (x7.toInt = 0 ∧ (¬ (0 ≤ p0.toInt ∧ p0.toInt ≤ 11) ∨ (aI (G.2.1 (F a 10)) (10 * p0.toInt + 0)) = -1)))
    (c10 : ¬ (x7.toInt = 0))
    (t19 : (x19.toInt = 1 ∧ (0 : Int) ≤ p1.toInt ∧ p1.toInt ≤ (9 : Int)) ∨ (x19.toInt = 0 ∧ (p1.toInt < (0 : Int) ∨ (9 : Int) < p1.toInt)))
    (c22 : ¬ (x19.toInt ≠ 0)) :
    (¬ (0 ≤ p0.toInt ∧ p0.toInt ≤ 11 ∧ aI (G.2.1 (F a 10)) (10 * p0.toInt + 0) ≠ -1) ∧ (-2147483648 : Int) = -2147483648) ∨ ((0 ≤ p0.toInt ∧ p0.toInt ≤ 11 ∧ aI (G.2.1 (F a 10)) (10 * p0.toInt + 0) ≠ -1) ∧ (-2147483648 : Int) = tdM (G.2.1 (F a 10)) p0.toInt (cnP (if ((G.1 a 6).toInt) = 0 then [] else fuO (G.2.1 (F a 10)) (mw (G.2.1 (F a 1)) 0) (mw (G.2.1 (F a 2)) 0) 1) p0.toInt) p1.toInt) := by
  first
    | exact Or.inl ⟨by omega, rfl⟩
    | exact Or.inr ⟨by omega, (tdM_o (by omega)).symm⟩
    | exact Or.inr ⟨by omega, (tdM_i (by omega)).symm⟩
    | exact Or.inr ⟨by omega, (by rw [tdM_9 (by omega), ← oq38]; exact oq38a)⟩
theorem v_X11_question_45_1 {K : Nat → Nat} {F : Nat → Nat → Nat} (a : Nat) (G : XG) (x7 : Int32) (p0 : Int32) (p1 : Int32) (p2 : Int32)
    (ha : K a = 13)
    (t7 : (x7.toInt = 1 ∧ 0 ≤ p0.toInt ∧ p0.toInt ≤ 11 ∧ (aI (G.2.1 (F a 10)) (10 * p0.toInt + 0)) ≠ -1) ∨ (x7.toInt = 0 ∧ (¬ (0 ≤ p0.toInt ∧ p0.toInt ≤ 11) ∨ (aI (G.2.1 (F a 10)) (10 * p0.toInt + 0)) = -1)))
    (c10 : x7.toInt = 0) :
    (¬ (0 ≤ p0.toInt ∧ p0.toInt ≤ 11 ∧ aI (G.2.1 (F a 10)) (10 * p0.toInt + 0) ≠ -1) ∧ (-2147483648 : Int) = -2147483648) ∨ ((0 ≤ p0.toInt ∧ p0.toInt ≤ 11 ∧ aI (G.2.1 (F a 10)) (10 * p0.toInt + 0) ≠ -1) ∧ (-2147483648 : Int) = quS (mw (G.2.1 (F a 1)) 0) (aI (G.2.1 (F a 10)) (10 * p0.toInt + 0)) (aI (G.2.1 (F a 10)) (10 * p0.toInt + 1)) (aI (G.2.1 (F a 10)) (10 * p0.toInt + 2)) (aI (G.2.1 (F a 10)) (10 * p0.toInt + 3)) (aI (G.2.1 (F a 10)) (10 * p0.toInt + 4)) (aI (G.2.1 (F a 10)) (10 * p0.toInt + 5)) p1.toInt p2.toInt) := by
  first
    | exact Or.inl ⟨by omega, rfl⟩
    | exact Or.inr ⟨by omega, (quS_n (fun h => absurd (sbj_FL.mp h) (by omega))).symm⟩
    | exact Or.inr ⟨by omega, (quS_o (by omega) (by omega)).symm⟩
theorem v_X11_question_45_2 {K : Nat → Nat} {F : Nat → Nat → Nat} (a : Nat) (G : XG) (p0 : Int32) (x7 : Int32) (x27 : Int32) (p1 : Int32) (p2 : Int32)
    (ha : K a = 13)
    (t7 : (x7.toInt = 1 ∧ 0 ≤ p0.toInt ∧ p0.toInt ≤ 11 ∧ (aI (G.2.1 (F a 10)) (10 * p0.toInt + 0)) ≠ -1) ∨ (x7.toInt = 0 ∧ (¬ (0 ≤ p0.toInt ∧ p0.toInt ≤ 11) ∨ (aI (G.2.1 (F a 10)) (10 * p0.toInt + 0)) = -1)))
    (c10 : ¬ (x7.toInt = 0))
    (t27 : (x27.toInt = 1 ∧ (sF (aI (G.2.1 (F a 10)) (10 * p0.toInt + 0))) ≤ p1.toInt ∧ p1.toInt ≤ (sL (aI (G.2.1 (F a 10)) (10 * p0.toInt + 0)))) ∨ (x27.toInt = 0 ∧ (p1.toInt < (sF (aI (G.2.1 (F a 10)) (10 * p0.toInt + 0))) ∨ (sL (aI (G.2.1 (F a 10)) (10 * p0.toInt + 0))) < p1.toInt)))
    (c30 : x27.toInt = 0) :
    (¬ (0 ≤ p0.toInt ∧ p0.toInt ≤ 11 ∧ aI (G.2.1 (F a 10)) (10 * p0.toInt + 0) ≠ -1) ∧ (-2147483648 : Int) = -2147483648) ∨ ((0 ≤ p0.toInt ∧ p0.toInt ≤ 11 ∧ aI (G.2.1 (F a 10)) (10 * p0.toInt + 0) ≠ -1) ∧ (-2147483648 : Int) = quS (mw (G.2.1 (F a 1)) 0) (aI (G.2.1 (F a 10)) (10 * p0.toInt + 0)) (aI (G.2.1 (F a 10)) (10 * p0.toInt + 1)) (aI (G.2.1 (F a 10)) (10 * p0.toInt + 2)) (aI (G.2.1 (F a 10)) (10 * p0.toInt + 3)) (aI (G.2.1 (F a 10)) (10 * p0.toInt + 4)) (aI (G.2.1 (F a 10)) (10 * p0.toInt + 5)) p1.toInt p2.toInt) := by
  first
    | exact Or.inl ⟨by omega, rfl⟩
    | exact Or.inr ⟨by omega, (quS_n (fun h => absurd (sbj_FL.mp h) (by omega))).symm⟩
    | exact Or.inr ⟨by omega, (quS_o (by omega) (by omega)).symm⟩
theorem v_X11_question_72_3 {F : Nat → Nat → Nat} (a : Nat) (G2 : XG) (G : XG)
    (hR : RV (G.2.1 (F a 10)))
    (c_G2_F_a_10 : G2.2.1 (F a 10) = G.2.1 (F a 10)) :
    RV (G2.2.1 (F a 10)) := by simp only [c_G2_F_a_10]; assumption
theorem v_X11_question_72_4 {F : Nat → Nat → Nat} (a : Nat) (G2 : XG) (G : XG)
    (hM : RM (G.2.1 (F a 1)) (0))
    (c_G2_F_a_1 : G2.2.1 (F a 1) = G.2.1 (F a 1)) :
    RM (G2.2.1 (F a 1)) (0 : Int) := by simp only [c_G2_F_a_1]; assumption
theorem v_X11_question_83_5 {K : Nat → Nat} {F : Nat → Nat → Nat} (a : Nat) (G : XG) (p0 : Int32) (x7 : Int32) (x27 : Int32) (p1 : Int32) (x37 : Int32) (p2 : Int32) (x72 : Int32)
    (ha : K a = 13)
    (t7 : (x7.toInt = 1 ∧ 0 ≤ p0.toInt ∧ p0.toInt ≤ 11 ∧ (aI (G.2.1 (F a 10)) (10 * p0.toInt + 0)) ≠ -1) ∨ (x7.toInt = 0 ∧ (¬ (0 ≤ p0.toInt ∧ p0.toInt ≤ 11) ∨ (aI (G.2.1 (F a 10)) (10 * p0.toInt + 0)) = -1)))
    (c10 : ¬ (x7.toInt = 0))
    (t27 : (x27.toInt = 1 ∧ (sF (aI (G.2.1 (F a 10)) (10 * p0.toInt + 0))) ≤ p1.toInt ∧ p1.toInt ≤ (sL (aI (G.2.1 (F a 10)) (10 * p0.toInt + 0)))) ∨ (x27.toInt = 0 ∧ (p1.toInt < (sF (aI (G.2.1 (F a 10)) (10 * p0.toInt + 0))) ∨ (sL (aI (G.2.1 (F a 10)) (10 * p0.toInt + 0))) < p1.toInt)))
    (c30 : ¬ (x27.toInt = 0))
    (t37 : (x37.toInt = 1 ∧ (0 : Int) ≤ p2.toInt ∧ p2.toInt ≤ (1 : Int)) ∨ (x37.toInt = 0 ∧ (p2.toInt < (0 : Int) ∨ (1 : Int) < p2.toInt)))
    (c40 : x37.toInt ≠ 0)
    (c47 : p2.toInt ≠ 0)
    (t72 : x72.toInt = (flq (mw (G.2.1 (F a 1)) 0) (aI (G.2.1 (F a 10)) (10 * p0.toInt + 0)) (aI (G.2.1 (F a 10)) (10 * p0.toInt + 1)) (aI (G.2.1 (F a 10)) (10 * p0.toInt + 2)) (aI (G.2.1 (F a 10)) (10 * p0.toInt + 4)) (aI (G.2.1 (F a 10)) (10 * p0.toInt + 5)) (p1.toInt) (stt (mw (G.2.1 (F a 1)) 0) (aI (G.2.1 (F a 10)) (10 * p0.toInt + 0)) (aI (G.2.1 (F a 10)) (10 * p0.toInt + 1)) (aI (G.2.1 (F a 10)) (10 * p0.toInt + 2)) (aI (G.2.1 (F a 10)) (10 * p0.toInt + 3)) (p1.toInt))))
    (f18 : x72.toInt = 0 ∨ x72.toInt = 1)
    (c75 : x72.toInt = 0) :
    (¬ (0 ≤ p0.toInt ∧ p0.toInt ≤ 11 ∧ aI (G.2.1 (F a 10)) (10 * p0.toInt + 0) ≠ -1) ∧ (0 : Int) = -2147483648) ∨ ((0 ≤ p0.toInt ∧ p0.toInt ≤ 11 ∧ aI (G.2.1 (F a 10)) (10 * p0.toInt + 0) ≠ -1) ∧ (0 : Int) = quS (mw (G.2.1 (F a 1)) 0) (aI (G.2.1 (F a 10)) (10 * p0.toInt + 0)) (aI (G.2.1 (F a 10)) (10 * p0.toInt + 1)) (aI (G.2.1 (F a 10)) (10 * p0.toInt + 2)) (aI (G.2.1 (F a 10)) (10 * p0.toInt + 3)) (aI (G.2.1 (F a 10)) (10 * p0.toInt + 4)) (aI (G.2.1 (F a 10)) (10 * p0.toInt + 5)) p1.toInt p2.toInt) := by
  first
    | exact Or.inr ⟨by omega, (quS_0 (sbj_FL.mpr (by omega)) (by omega)).symm⟩
    | exact Or.inr ⟨by omega, (by rw [quS_1 (sbj_FL.mpr (by omega)) (by omega), ← t72]; omega)⟩
theorem v_X11_question_83_6 {K : Nat → Nat} {F : Nat → Nat → Nat} (a : Nat) (G : XG) (p0 : Int32) (x7 : Int32) (x27 : Int32) (p1 : Int32) (x37 : Int32) (p2 : Int32) (x72 : Int32)
    (ha : K a = 13)
    (t7 : (x7.toInt = 1 ∧ 0 ≤ p0.toInt ∧ p0.toInt ≤ 11 ∧ (aI (G.2.1 (F a 10)) (10 * p0.toInt + 0)) ≠ -1) ∨ (x7.toInt = 0 ∧ (¬ (0 ≤ p0.toInt ∧ p0.toInt ≤ 11) ∨ (aI (G.2.1 (F a 10)) (10 * p0.toInt + 0)) = -1)))
    (c10 : ¬ (x7.toInt = 0))
    (t27 : (x27.toInt = 1 ∧ (sF (aI (G.2.1 (F a 10)) (10 * p0.toInt + 0))) ≤ p1.toInt ∧ p1.toInt ≤ (sL (aI (G.2.1 (F a 10)) (10 * p0.toInt + 0)))) ∨ (x27.toInt = 0 ∧ (p1.toInt < (sF (aI (G.2.1 (F a 10)) (10 * p0.toInt + 0))) ∨ (sL (aI (G.2.1 (F a 10)) (10 * p0.toInt + 0))) < p1.toInt)))
    (c30 : ¬ (x27.toInt = 0))
    (t37 : (x37.toInt = 1 ∧ (0 : Int) ≤ p2.toInt ∧ p2.toInt ≤ (1 : Int)) ∨ (x37.toInt = 0 ∧ (p2.toInt < (0 : Int) ∨ (1 : Int) < p2.toInt)))
    (c40 : x37.toInt ≠ 0)
    (c47 : p2.toInt ≠ 0)
    (t72 : x72.toInt = (flq (mw (G.2.1 (F a 1)) 0) (aI (G.2.1 (F a 10)) (10 * p0.toInt + 0)) (aI (G.2.1 (F a 10)) (10 * p0.toInt + 1)) (aI (G.2.1 (F a 10)) (10 * p0.toInt + 2)) (aI (G.2.1 (F a 10)) (10 * p0.toInt + 4)) (aI (G.2.1 (F a 10)) (10 * p0.toInt + 5)) (p1.toInt) (stt (mw (G.2.1 (F a 1)) 0) (aI (G.2.1 (F a 10)) (10 * p0.toInt + 0)) (aI (G.2.1 (F a 10)) (10 * p0.toInt + 1)) (aI (G.2.1 (F a 10)) (10 * p0.toInt + 2)) (aI (G.2.1 (F a 10)) (10 * p0.toInt + 3)) (p1.toInt))))
    (f18 : x72.toInt = 0 ∨ x72.toInt = 1)
    (c75 : ¬ (x72.toInt = 0)) :
    (¬ (0 ≤ p0.toInt ∧ p0.toInt ≤ 11 ∧ aI (G.2.1 (F a 10)) (10 * p0.toInt + 0) ≠ -1) ∧ (1 : Int) = -2147483648) ∨ ((0 ≤ p0.toInt ∧ p0.toInt ≤ 11 ∧ aI (G.2.1 (F a 10)) (10 * p0.toInt + 0) ≠ -1) ∧ (1 : Int) = quS (mw (G.2.1 (F a 1)) 0) (aI (G.2.1 (F a 10)) (10 * p0.toInt + 0)) (aI (G.2.1 (F a 10)) (10 * p0.toInt + 1)) (aI (G.2.1 (F a 10)) (10 * p0.toInt + 2)) (aI (G.2.1 (F a 10)) (10 * p0.toInt + 3)) (aI (G.2.1 (F a 10)) (10 * p0.toInt + 4)) (aI (G.2.1 (F a 10)) (10 * p0.toInt + 5)) p1.toInt p2.toInt) := by
  first
    | exact Or.inr ⟨by omega, (quS_0 (sbj_FL.mpr (by omega)) (by omega)).symm⟩
    | exact Or.inr ⟨by omega, (by rw [quS_1 (sbj_FL.mpr (by omega)) (by omega), ← t72]; omega)⟩
theorem v_X11_question_58_7 {F : Nat → Nat → Nat} (a : Nat) (G2 : XG) (G : XG)
    (hR : RV (G.2.1 (F a 10)))
    (c_G2_F_a_10 : G2.2.1 (F a 10) = G.2.1 (F a 10)) :
    RV (G2.2.1 (F a 10)) := by simp only [c_G2_F_a_10]; assumption
theorem v_X11_question_58_8 {F : Nat → Nat → Nat} (a : Nat) (G2 : XG) (G : XG)
    (hM : RM (G.2.1 (F a 1)) (0))
    (c_G2_F_a_1 : G2.2.1 (F a 1) = G.2.1 (F a 1)) :
    RM (G2.2.1 (F a 1)) (0 : Int) := by simp only [c_G2_F_a_1]; assumption
theorem v_X11_question_83_9 {K : Nat → Nat} {F : Nat → Nat → Nat} (a : Nat) (G : XG) (p0 : Int32) (p1 : Int32) (x7 : Int32) (x27 : Int32) (x37 : Int32) (p2 : Int32)
    (ha : K a = 13)
    (t7 : (x7.toInt = 1 ∧ 0 ≤ p0.toInt ∧ p0.toInt ≤ 11 ∧ (aI (G.2.1 (F a 10)) (10 * p0.toInt + 0)) ≠ -1) ∨ (x7.toInt = 0 ∧ (¬ (0 ≤ p0.toInt ∧ p0.toInt ≤ 11) ∨ (aI (G.2.1 (F a 10)) (10 * p0.toInt + 0)) = -1)))
    (c10 : ¬ (x7.toInt = 0))
    (t27 : (x27.toInt = 1 ∧ (sF (aI (G.2.1 (F a 10)) (10 * p0.toInt + 0))) ≤ p1.toInt ∧ p1.toInt ≤ (sL (aI (G.2.1 (F a 10)) (10 * p0.toInt + 0)))) ∨ (x27.toInt = 0 ∧ (p1.toInt < (sF (aI (G.2.1 (F a 10)) (10 * p0.toInt + 0))) ∨ (sL (aI (G.2.1 (F a 10)) (10 * p0.toInt + 0))) < p1.toInt)))
    (c30 : ¬ (x27.toInt = 0))
    (t37 : (x37.toInt = 1 ∧ (0 : Int) ≤ p2.toInt ∧ p2.toInt ≤ (1 : Int)) ∨ (x37.toInt = 0 ∧ (p2.toInt < (0 : Int) ∨ (1 : Int) < p2.toInt)))
    (c40 : x37.toInt ≠ 0)
    (c47 : ¬ (p2.toInt ≠ 0)) :
    (¬ (0 ≤ p0.toInt ∧ p0.toInt ≤ 11 ∧ aI (G.2.1 (F a 10)) (10 * p0.toInt + 0) ≠ -1) ∧ (stt (mw (G.2.1 (F a 1)) 0) (aI (G.2.1 (F a 10)) (10 * p0.toInt + 0)) (aI (G.2.1 (F a 10)) (10 * p0.toInt + 1)) (aI (G.2.1 (F a 10)) (10 * p0.toInt + 2)) (aI (G.2.1 (F a 10)) (10 * p0.toInt + 3)) (p1.toInt)) = -2147483648) ∨ ((0 ≤ p0.toInt ∧ p0.toInt ≤ 11 ∧ aI (G.2.1 (F a 10)) (10 * p0.toInt + 0) ≠ -1) ∧ (stt (mw (G.2.1 (F a 1)) 0) (aI (G.2.1 (F a 10)) (10 * p0.toInt + 0)) (aI (G.2.1 (F a 10)) (10 * p0.toInt + 1)) (aI (G.2.1 (F a 10)) (10 * p0.toInt + 2)) (aI (G.2.1 (F a 10)) (10 * p0.toInt + 3)) (p1.toInt)) = quS (mw (G.2.1 (F a 1)) 0) (aI (G.2.1 (F a 10)) (10 * p0.toInt + 0)) (aI (G.2.1 (F a 10)) (10 * p0.toInt + 1)) (aI (G.2.1 (F a 10)) (10 * p0.toInt + 2)) (aI (G.2.1 (F a 10)) (10 * p0.toInt + 3)) (aI (G.2.1 (F a 10)) (10 * p0.toInt + 4)) (aI (G.2.1 (F a 10)) (10 * p0.toInt + 5)) p1.toInt p2.toInt) := by
  first
    | exact Or.inr ⟨by omega, (quS_0 (sbj_FL.mpr (by omega)) (by omega)).symm⟩
    | exact Or.inr ⟨by omega, (by rw [quS_1 (sbj_FL.mpr (by omega)) (by omega), ← t72]; omega)⟩
theorem v_X11_question_45_10 {K : Nat → Nat} {F : Nat → Nat → Nat} (a : Nat) (G : XG) (p0 : Int32) (x7 : Int32) (x27 : Int32) (p1 : Int32) (x37 : Int32) (p2 : Int32)
    (ha : K a = 13)
    (t7 : (x7.toInt = 1 ∧ 0 ≤ p0.toInt ∧ p0.toInt ≤ 11 ∧ (aI (G.2.1 (F a 10)) (10 * p0.toInt + 0)) ≠ -1) ∨ (x7.toInt = 0 ∧ (¬ (0 ≤ p0.toInt ∧ p0.toInt ≤ 11) ∨ (aI (G.2.1 (F a 10)) (10 * p0.toInt + 0)) = -1)))
    (c10 : ¬ (x7.toInt = 0))
    (t27 : (x27.toInt = 1 ∧ (sF (aI (G.2.1 (F a 10)) (10 * p0.toInt + 0))) ≤ p1.toInt ∧ p1.toInt ≤ (sL (aI (G.2.1 (F a 10)) (10 * p0.toInt + 0)))) ∨ (x27.toInt = 0 ∧ (p1.toInt < (sF (aI (G.2.1 (F a 10)) (10 * p0.toInt + 0))) ∨ (sL (aI (G.2.1 (F a 10)) (10 * p0.toInt + 0))) < p1.toInt)))
    (c30 : ¬ (x27.toInt = 0))
    (t37 : (x37.toInt = 1 ∧ (0 : Int) ≤ p2.toInt ∧ p2.toInt ≤ (1 : Int)) ∨ (x37.toInt = 0 ∧ (p2.toInt < (0 : Int) ∨ (1 : Int) < p2.toInt)))
    (c40 : ¬ (x37.toInt ≠ 0)) :
    (¬ (0 ≤ p0.toInt ∧ p0.toInt ≤ 11 ∧ aI (G.2.1 (F a 10)) (10 * p0.toInt + 0) ≠ -1) ∧ (-2147483648 : Int) = -2147483648) ∨ ((0 ≤ p0.toInt ∧ p0.toInt ≤ 11 ∧ aI (G.2.1 (F a 10)) (10 * p0.toInt + 0) ≠ -1) ∧ (-2147483648 : Int) = quS (mw (G.2.1 (F a 1)) 0) (aI (G.2.1 (F a 10)) (10 * p0.toInt + 0)) (aI (G.2.1 (F a 10)) (10 * p0.toInt + 1)) (aI (G.2.1 (F a 10)) (10 * p0.toInt + 2)) (aI (G.2.1 (F a 10)) (10 * p0.toInt + 3)) (aI (G.2.1 (F a 10)) (10 * p0.toInt + 4)) (aI (G.2.1 (F a 10)) (10 * p0.toInt + 5)) p1.toInt p2.toInt) := by
  first
    | exact Or.inl ⟨by omega, rfl⟩
    | exact Or.inr ⟨by omega, (quS_n (fun h => absurd (sbj_FL.mp h) (by omega))).symm⟩
    | exact Or.inr ⟨by omega, (quS_o (by omega) (by omega)).symm⟩
theorem v_X11_count_66_1 {F : Nat → Nat → Nat} (a : Nat) (G2 : XG) (G : XG)
    (hM : RM (G.2.1 (F a 1)) (0))
    (hB : RM (G.2.1 (F a 2)) 0)
    (c_G2_F_a_1 : G2.2.1 (F a 1) = G.2.1 (F a 1)) :
    RM (G2.2.1 (F a 1)) (0) := by simp only [c_G2_F_a_1]; assumption
theorem v_X11_count_71_2 {F : Nat → Nat → Nat} (a : Nat) (G2 : XG) (G : XG)
    (hR : RV (G.2.1 (F a 10)))
    (c_G2_F_a_10 : G2.2.1 (F a 10) = G.2.1 (F a 10)) :
    RV (G2.2.1 (F a 10)) := by simp only [c_G2_F_a_10]; assumption
theorem v_X11_count_71_3 {F : Nat → Nat → Nat} (a : Nat) (G2 : XG) (G : XG)
    (hM : RM (G.2.1 (F a 1)) (0))
    (hB : RM (G.2.1 (F a 2)) 0)
    (c_G2_F_a_1 : G2.2.1 (F a 1) = G.2.1 (F a 1)) :
    RM (G2.2.1 (F a 1)) (0) := by simp only [c_G2_F_a_1]; assumption
theorem v_X11_count_71_4 {F : Nat → Nat → Nat} (a : Nat) (G2 : XG) (G : XG)
    (hM : RM (G.2.1 (F a 1)) (0))
    (hB : RM (G.2.1 (F a 2)) 0)
    (c_G2_F_a_2 : G2.2.1 (F a 2) = G.2.1 (F a 2)) :
    RM (G2.2.1 (F a 2)) 0 := by simp only [c_G2_F_a_2]; assumption
theorem v_X11_rows_23_1 {K : Nat → Nat} {F : Nat → Nat → Nat} (a : Nat) (G : XG) (x6 : Int32) (p0 : Int32) (p1 : Int32)
    (ha : K a = 13)
    (t6 : (x6.toInt = 1 ∧ 0 ≤ p0.toInt ∧ p0.toInt ≤ 2) ∨ (x6.toInt = 0 ∧ (p0.toInt < 0 ∨ 2 < p0.toInt)))
    (c9 : x6.toInt = 0) :
    (¬ ((0 ≤ p0.toInt ∧ p0.toInt ≤ 2) ∧ (p1.toInt = 0 ∨ p1.toInt = 1)) ∧ (-1 : Int) = -1) ∨ ((0 ≤ p0.toInt ∧ p0.toInt ≤ 2) ∧ p1.toInt = 0 ∧ (-1 : Int) = rmR (G.2.1 (F a 1)) p0.toInt 30) ∨ ((0 ≤ p0.toInt ∧ p0.toInt ≤ 2) ∧ p1.toInt = 1 ∧ ∀ j : Int, 0 ≤ j → j < 32 → bI (-1 : Int) j = if j < 30 then aI (G.2.1 (F a 1)) (4 * (30 * p0.toInt + j)) else 0) := by
  exact Or.inl ⟨by omega, rfl⟩
theorem v_X11_rows_88_2 {K : Nat → Nat} {F : Nat → Nat → Nat} (a : Nat) (G : XG) (l4_32 : Int32) (l5_32 : Int32) (p0 : Int32) (x6 : Int32) (x16 : Int32) (p1 : Int32) (l3_32 : Int32) (N32 : Nat)
    (ha : K a = 13)
    (pb : ∀ j : Int, 0 ≤ j → j < 32 → bI l4_32.toInt j = if j < l5_32.toInt then aI (G.2.1 (F a 1)) (4 * (30 * p0.toInt + j)) else 0)
    (t6 : (x6.toInt = 1 ∧ 0 ≤ p0.toInt ∧ p0.toInt ≤ 2) ∨ (x6.toInt = 0 ∧ (p0.toInt < 0 ∨ 2 < p0.toInt)))
    (c9 : ¬ (x6.toInt = 0))
    (t16 : (x16.toInt = 1 ∧ (0 : Int) ≤ p1.toInt ∧ p1.toInt ≤ (1 : Int)) ∨ (x16.toInt = 0 ∧ (p1.toInt < (0 : Int) ∨ (1 : Int) < p1.toInt)))
    (c19 : x16.toInt ≠ 0)
    (z24 : (rmR (G.2.1 (F a 1)) (p0.toInt) 0) = 0)
    (I32_0 : 0 ≤ l5_32.toInt ∧ l5_32.toInt ≤ 30)
    (I32_1 : l3_32.toInt = (rmR (G.2.1 (F a 1)) (p0.toInt) (l5_32.toInt)))
    (I32_2 : 0 ≤ l3_32.toInt ∧ l3_32.toInt ≤ l5_32.toInt)
    (I32_3 : (0 : Int) ≤ l5_32.toInt)
    (hm32 : 2147483648 - l5_32.toInt < (((N32) + 1 : Nat) : Int))
    (c36 : (30 : Int) ≤ l5_32.toInt)
    (z78 : l5_32.toInt = 30 → (rmR (G.2.1 (F a 1)) (p0.toInt) (l5_32.toInt)) = (rmR (G.2.1 (F a 1)) (p0.toInt) 30))
    (c79 : p1.toInt ≠ 0) :
    (¬ ((0 ≤ p0.toInt ∧ p0.toInt ≤ 2) ∧ (p1.toInt = 0 ∨ p1.toInt = 1)) ∧ l4_32.toInt = -1) ∨ ((0 ≤ p0.toInt ∧ p0.toInt ≤ 2) ∧ p1.toInt = 0 ∧ l4_32.toInt = rmR (G.2.1 (F a 1)) p0.toInt 30) ∨ ((0 ≤ p0.toInt ∧ p0.toInt ≤ 2) ∧ p1.toInt = 1 ∧ ∀ j : Int, 0 ≤ j → j < 32 → bI l4_32.toInt j = if j < 30 then aI (G.2.1 (F a 1)) (4 * (30 * p0.toInt + j)) else 0) := by
  first
    | exact Or.inr (Or.inl ⟨by omega, by omega, by omega⟩)
    | exact Or.inr (Or.inr ⟨by omega, by omega, fun j h1 h2 => by rw [pb j h1 h2, show l5_32.toInt = 30 by omega]⟩)
theorem v_X11_rows_88_3 {K : Nat → Nat} {F : Nat → Nat → Nat} (a : Nat) (G : XG) (l4_32 : Int32) (l5_32 : Int32) (p0 : Int32) (x6 : Int32) (x16 : Int32) (p1 : Int32) (l3_32 : Int32) (N32 : Nat)
    (ha : K a = 13)
    (pb : ∀ j : Int, 0 ≤ j → j < 32 → bI l4_32.toInt j = if j < l5_32.toInt then aI (G.2.1 (F a 1)) (4 * (30 * p0.toInt + j)) else 0)
    (t6 : (x6.toInt = 1 ∧ 0 ≤ p0.toInt ∧ p0.toInt ≤ 2) ∨ (x6.toInt = 0 ∧ (p0.toInt < 0 ∨ 2 < p0.toInt)))
    (c9 : ¬ (x6.toInt = 0))
    (t16 : (x16.toInt = 1 ∧ (0 : Int) ≤ p1.toInt ∧ p1.toInt ≤ (1 : Int)) ∨ (x16.toInt = 0 ∧ (p1.toInt < (0 : Int) ∨ (1 : Int) < p1.toInt)))
    (c19 : x16.toInt ≠ 0)
    (z24 : (rmR (G.2.1 (F a 1)) (p0.toInt) 0) = 0)
    (I32_0 : 0 ≤ l5_32.toInt ∧ l5_32.toInt ≤ 30)
    (I32_1 : l3_32.toInt = (rmR (G.2.1 (F a 1)) (p0.toInt) (l5_32.toInt)))
    (I32_2 : 0 ≤ l3_32.toInt ∧ l3_32.toInt ≤ l5_32.toInt)
    (I32_3 : (0 : Int) ≤ l5_32.toInt)
    (hm32 : 2147483648 - l5_32.toInt < (((N32) + 1 : Nat) : Int))
    (c36 : (30 : Int) ≤ l5_32.toInt)
    (z78 : l5_32.toInt = 30 → (rmR (G.2.1 (F a 1)) (p0.toInt) (l5_32.toInt)) = (rmR (G.2.1 (F a 1)) (p0.toInt) 30))
    (c79 : ¬ (p1.toInt ≠ 0)) :
    (¬ ((0 ≤ p0.toInt ∧ p0.toInt ≤ 2) ∧ (p1.toInt = 0 ∨ p1.toInt = 1)) ∧ l3_32.toInt = -1) ∨ ((0 ≤ p0.toInt ∧ p0.toInt ≤ 2) ∧ p1.toInt = 0 ∧ l3_32.toInt = rmR (G.2.1 (F a 1)) p0.toInt 30) ∨ ((0 ≤ p0.toInt ∧ p0.toInt ≤ 2) ∧ p1.toInt = 1 ∧ ∀ j : Int, 0 ≤ j → j < 32 → bI l3_32.toInt j = if j < 30 then aI (G.2.1 (F a 1)) (4 * (30 * p0.toInt + j)) else 0) := by
  first
    | exact Or.inr (Or.inl ⟨by omega, by omega, by omega⟩)
    | exact Or.inr (Or.inr ⟨by omega, by omega, fun j h1 h2 => by rw [pb j h1 h2, show l5_32.toInt = 30 by omega]⟩)
theorem v_X11_rows_75_4 {K : Nat → Nat} {F : Nat → Nat → Nat} (a : Nat) (G : XG) (l4_32 : Int32) (l5_32 : Int32) (p0 : Int32) (x65 : Int32) (x68 : Int32) (x69 : Int32) (x6 : Int32) (x16 : Int32) (p1 : Int32) (l3_32 : Int32) (N32 : Nat) (x47 : Int32) (x62 : Int32)
    (ha : K a = 13)
    (hM : RM (G.2.1 (F a 1)) (0))
    (pb : ∀ j : Int, 0 ≤ j → j < 32 → bI l4_32.toInt j = if j < l5_32.toInt then aI (G.2.1 (F a 1)) (4 * (30 * p0.toInt + j)) else 0)
    (hv65 : x65.toInt = (aI (G.2.1 (F a 1)) (4 * (30 * p0.toInt + l5_32.toInt))))
    (he68 : x68 = (x65 : Int32) <<< (l5_32 &&& 31))
    (he69 : x69 = l4_32 ||| x68)
    (t6 : (x6.toInt = 1 ∧ 0 ≤ p0.toInt ∧ p0.toInt ≤ 2) ∨ (x6.toInt = 0 ∧ (p0.toInt < 0 ∨ 2 < p0.toInt)))
    (c9 : ¬ (x6.toInt = 0))
    (t16 : (x16.toInt = 1 ∧ (0 : Int) ≤ p1.toInt ∧ p1.toInt ≤ (1 : Int)) ∨ (x16.toInt = 0 ∧ (p1.toInt < (0 : Int) ∨ (1 : Int) < p1.toInt)))
    (c19 : x16.toInt ≠ 0)
    (z24 : (rmR (G.2.1 (F a 1)) (p0.toInt) 0) = 0)
    (I32_0 : 0 ≤ l5_32.toInt ∧ l5_32.toInt ≤ 30)
    (I32_1 : l3_32.toInt = (rmR (G.2.1 (F a 1)) (p0.toInt) (l5_32.toInt)))
    (I32_2 : 0 ≤ l3_32.toInt ∧ l3_32.toInt ≤ l5_32.toInt)
    (I32_3 : (0 : Int) ≤ l5_32.toInt)
    (hm32 : 2147483648 - l5_32.toInt < (((N32) + 1 : Nat) : Int))
    (c36 : ¬ ((30 : Int) ≤ l5_32.toInt))
    (z39 : (aI (G.2.1 (F a 1)) (4 * (30 * p0.toInt + l5_32.toInt))) = 0 ∨ (aI (G.2.1 (F a 1)) (4 * (30 * p0.toInt + l5_32.toInt))) = 1)
    (z39a : (rmR (G.2.1 (F a 1)) (p0.toInt) (l5_32.toInt + 1)) = (rmR (G.2.1 (F a 1)) (p0.toInt) (l5_32.toInt)) + (aI (G.2.1 (F a 1)) (4 * (30 * p0.toInt + l5_32.toInt))))
    (t47 : 0 ≤ p0.toInt ∧ p0.toInt ≤ 2 ∧ 0 ≤ l5_32.toInt ∧ l5_32.toInt ≤ 29 → x47.toInt = 4 * (30 * p0.toInt + l5_32.toInt))
    (t62 : 0 ≤ p0.toInt ∧ p0.toInt ≤ 2 ∧ 0 ≤ l5_32.toInt ∧ l5_32.toInt ≤ 29 → x62.toInt = 4 * (30 * p0.toInt + l5_32.toInt)) :
    ∀ j : Int, 0 ≤ j → j < 32 → bI x69.toInt j = if j < (l5_32.toInt + 1) then aI (G.2.1 (F a 1)) (4 * (30 * p0.toInt + j)) else 0 := by
  have h01 := hM.is2 (t := p0.toInt) (k := l5_32.toInt) (by omega) (by omega)
  have hz : bI l4_32.toInt l5_32.toInt = 0 := by rw [pb l5_32.toInt (by omega) (by omega), if_neg (by omega)]
  intro j h1 h2
  rw [bI_or01 hv65 h01 he68 he69 rfl rfl (by omega) hz j h1 h2, pb j h1 h2]
  by_cases e : j = l5_32.toInt
  · rw [if_pos e, if_pos (by omega), e]
  · rw [if_neg e]
    by_cases g : j < l5_32.toInt
    · rw [if_pos g, if_pos (by omega)]
    · rw [if_neg g, if_neg (by omega)]
theorem v_X11_rows_30_5 {K : Nat → Nat} {F : Nat → Nat → Nat} (a : Nat) (G : XG) (x6 : Int32) (p0 : Int32) (x16 : Int32) (p1 : Int32)
    (ha : K a = 13)
    (t6 : (x6.toInt = 1 ∧ 0 ≤ p0.toInt ∧ p0.toInt ≤ 2) ∨ (x6.toInt = 0 ∧ (p0.toInt < 0 ∨ 2 < p0.toInt)))
    (c9 : ¬ (x6.toInt = 0))
    (t16 : (x16.toInt = 1 ∧ (0 : Int) ≤ p1.toInt ∧ p1.toInt ≤ (1 : Int)) ∨ (x16.toInt = 0 ∧ (p1.toInt < (0 : Int) ∨ (1 : Int) < p1.toInt)))
    (c19 : x16.toInt ≠ 0)
    (z24 : (rmR (G.2.1 (F a 1)) (p0.toInt) 0) = 0) :
    ∀ j : Int, 0 ≤ j → j < 32 → bI (0 : Int) j = if j < (0 : Int) then aI (G.2.1 (F a 1)) (4 * (30 * p0.toInt + j)) else 0 := by
  intro j h1 h2
  rw [if_neg (by omega)]
  exact bI_0 j
theorem v_X11_rows_23_6 {K : Nat → Nat} {F : Nat → Nat → Nat} (a : Nat) (G : XG) (x6 : Int32) (p0 : Int32) (x16 : Int32) (p1 : Int32)
    (ha : K a = 13)
    (t6 : (x6.toInt = 1 ∧ 0 ≤ p0.toInt ∧ p0.toInt ≤ 2) ∨ (x6.toInt = 0 ∧ (p0.toInt < 0 ∨ 2 < p0.toInt)))
    (c9 : ¬ (x6.toInt = 0))
    (t16 : (x16.toInt = 1 ∧ (0 : Int) ≤ p1.toInt ∧ p1.toInt ≤ (1 : Int)) ∨ (x16.toInt = 0 ∧ (p1.toInt < (0 : Int) ∨ (1 : Int) < p1.toInt)))
    (c19 : ¬ (x16.toInt ≠ 0)) :
    (¬ ((0 ≤ p0.toInt ∧ p0.toInt ≤ 2) ∧ (p1.toInt = 0 ∨ p1.toInt = 1)) ∧ (-1 : Int) = -1) ∨ ((0 ≤ p0.toInt ∧ p0.toInt ≤ 2) ∧ p1.toInt = 0 ∧ (-1 : Int) = rmR (G.2.1 (F a 1)) p0.toInt 30) ∨ ((0 ≤ p0.toInt ∧ p0.toInt ≤ 2) ∧ p1.toInt = 1 ∧ ∀ j : Int, 0 ≤ j → j < 32 → bI (-1 : Int) j = if j < 30 then aI (G.2.1 (F a 1)) (4 * (30 * p0.toInt + j)) else 0) := by
  exact Or.inl ⟨by omega, rfl⟩
abbrev rm_X11_verdict : Room := { frames := 0, cells := 0, slots := 0, locals := 0 }
set_option maxHeartbeats 4000000 in
set_option maxRecDepth 100000 in
theorem c_X11_verdict (l : Launch) (E : XE) (K : Nat → Nat) (F : Nat → Nat → Nat) (G : XG) (a : Nat) (p0 : Int32) (ha : K a = 13) : Met l yX11_verdict (xw yX11_verdict cX11_verdict 2 (some .int)) rm_X11_verdict (va_Pc [.ref a, .int p0] (XP E K F G)) (XQ E (fun v (u : XG) => ∃ r : Int32, v = .int r ∧ XFr [(a, 0)] [] [] G u) (fun u H => TW E K F u H)) 0 0 (xA E) := by
  refine x_enter (by decide) (Nat.le_of_ble_eq_true rfl) ?_
  intro p e s m args below meth c Q S hr hlk hnm hQ hP ls hl
  obtain ⟨hz, hK, hT⟩ := hP
  obtain ⟨hx, hb, -, -, -⟩ := id S
  obtain ⟨H, hT, hS, hgo⟩ : ∃ H : Heap, TW E K F G H ∧ va_S (xA E) s.heap H [] ∧ H = s.heap := ⟨_, hT, va_S.rf, rfl⟩
  rw [← hgo]
  have hl : lv_has ls 2 [(0, .ref a), (1, .int p0)] := hl
  refine lv_aload_n hx hb dX11_verdict_0 rfl (lv_at hl 0 rfl) ?_
  refine lv_iconst (v := 0) hx hb dX11_verdict_1 (by decide) ?_
  refine pX11_0 (v := 0) S hK hT hS ha kf_X11_134 dX11_verdict_2 (fun H locs hT hS => ?_)
  obtain ⟨G2, hG2⟩ : ∃ GG : XG, GG = dput G a 0 0 := ⟨_, rfl⟩
  rw [← hG2] at hT
  refine lv_iload_n hx hb dX11_verdict_5 rfl (lv_at hl 1 rfl) ?_
  refine xi_zne (tgt := 16) hx hb (rfl : Int32.toInt p0 = p0.toInt) dX11_verdict_6 (by decide) (fun c6 => ?_) (fun c6 => ?_)
  · refine lv_iload_n hx hb dX11_verdict_16 rfl (lv_at hl 1 rfl) ?_
    refine lv_iconst (v := 1) hx hb dX11_verdict_17 (by decide) ?_
    refine xi_cne (tgt := 28) hx hb (rfl : Int32.toInt p0 = p0.toInt) ((by decide) : Int32.toInt 1 = (1 : Int)) dX11_verdict_18 (by decide) (fun c18 => ?_) (fun c18 => ?_)
    · refine lv_iload_n hx hb dX11_verdict_28 rfl (lv_at hl 1 rfl) ?_
      refine lv_iconst (v := 2) hx hb dX11_verdict_29 (by decide) ?_
      refine xi_cne (tgt := 40) hx hb (rfl : Int32.toInt p0 = p0.toInt) ((by decide) : Int32.toInt 2 = (2 : Int)) dX11_verdict_30 (by decide) (fun c30 => ?_) (fun c30 => ?_)
      · refine lv_ldc (v := (-2147483648)) hx hb S.2.2.2.1 (S.2.2.2.2 _ (List.mem_cons_of_mem _ kc_X11_57)) dX11_verdict_40 ?_
        exact x_ri hx hb hr hlk hQ (Nat.le_of_ble_eq_true rfl) (Nat.le_of_ble_eq_true rfl) hS dX11_verdict_42 G2 ⟨_, rfl, (by rw [hG2]; exact XFr.dput XFr.rf (List.mem_of_getElem? (i := 0) rfl))⟩ hT
      · refine lv_aload_n hx hb dX11_verdict_33 rfl (lv_at hl 0 rfl) ?_
        refine gX11_23 S hK hT ha kf_X11_224 dX11_verdict_34 (v := (G.1 a 23)) (ld_j hG2 (by decide)) (?_)
        refine lv_goto (tgt := 42) hx hb dX11_verdict_37 (by decide) ?_
        exact x_ri hx hb hr hlk hQ (Nat.le_of_ble_eq_true rfl) (Nat.le_of_ble_eq_true rfl) hS dX11_verdict_42 G2 ⟨_, rfl, (by rw [hG2]; exact XFr.dput XFr.rf (List.mem_of_getElem? (i := 0) rfl))⟩ hT
    · refine lv_aload_n hx hb dX11_verdict_21 rfl (lv_at hl 0 rfl) ?_
      refine gX11_21 S hK hT ha kf_X11_62 dX11_verdict_22 (v := (G.1 a 21)) (ld_j hG2 (by decide)) (?_)
      refine lv_goto (tgt := 42) hx hb dX11_verdict_25 (by decide) ?_
      exact x_ri hx hb hr hlk hQ (Nat.le_of_ble_eq_true rfl) (Nat.le_of_ble_eq_true rfl) hS dX11_verdict_42 G2 ⟨_, rfl, (by rw [hG2]; exact XFr.dput XFr.rf (List.mem_of_getElem? (i := 0) rfl))⟩ hT
  · refine lv_aload_n hx hb dX11_verdict_9 rfl (lv_at hl 0 rfl) ?_
    refine gX11_20 S hK hT ha kf_X11_58 dX11_verdict_10 (v := (G.1 a 20)) (ld_j hG2 (by decide)) (?_)
    refine lv_goto (tgt := 42) hx hb dX11_verdict_13 (by decide) ?_
    exact x_ri hx hb hr hlk hQ (Nat.le_of_ble_eq_true rfl) (Nat.le_of_ble_eq_true rfl) hS dX11_verdict_42 G2 ⟨_, rfl, (by rw [hG2]; exact XFr.dput XFr.rf (List.mem_of_getElem? (i := 0) rfl))⟩ hT

theorem z_X11_letter_1 (a0 : Int) (h0 : 0 ≤ a0 ∧ a0 ≤ 24) : -2147483648 ≤ a0 ∧ a0 < 2147483648 := by omega
theorem z_X11_letter_2 (a0 : Int) (a1 : Int) (a2 : Int) (h0 : 0 ≤ a2 ∧ a2 ≤ 24) (h1 : (a1 = 1 ∧ (0 : Int) ≤ a0 ∧ a0 ≤ (a2 - (1 : Int))) ∨ (a1 = 0 ∧ (a0 < (0 : Int) ∨ (a2 - (1 : Int)) < a0))) (h2 : ¬ (a1 = 0)) : 0 ≤ a0 ∧ a0 < ((24 : Nat) : Int) := by omega
abbrev rm_X11_letter : Room := { frames := 1, cells := 0, slots := 0, locals := 25 }
set_option maxHeartbeats 4000000 in
set_option maxRecDepth 100000 in
theorem c_X11_letter (l : Launch) (E : XE) (K : Nat → Nat) (F : Nat → Nat → Nat) (G : XG) (a : Nat) (p0 : Int32) (ha : K a = 13) (w0 : 0 ≤ ((G.1 a 23).toInt) ∧ ((G.1 a 23).toInt) ≤ 24) : Met l yX11_letter (xw yX11_letter cX11_letter 2 (some .int)) rm_X11_letter (va_Pc [.ref a, .int p0] (XP E K F G)) (XQ E (fun v (u : XG) => ∃ r : Int32, v = .int r ∧ XFr [(a, 0)] [] [] G u) (fun u H => TW E K F u H)) 0 0 (xA E) := by
  refine x_enter (by decide) (Nat.le_of_ble_eq_true rfl) ?_
  intro p e s m args below meth c Q S hr hlk hnm hQ hP ls hl
  obtain ⟨hz, hK, hT⟩ := hP
  obtain ⟨hx, hb, -, -, -⟩ := id S
  obtain ⟨H, hT, hS, hgo⟩ : ∃ H : Heap, TW E K F G H ∧ va_S (xA E) s.heap H [] ∧ H = s.heap := ⟨_, hT, va_S.rf, rfl⟩
  rw [← hgo]
  have hl : lv_has ls 2 [(0, .ref a), (1, .int p0)] := hl
  refine lv_aload_n hx hb dX11_letter_0 rfl (lv_at hl 0 rfl) ?_
  refine lv_iconst (v := 0) hx hb dX11_letter_1 (by decide) ?_
  refine pX11_0 (v := 0) S hK hT hS ha kf_X11_134 dX11_letter_2 (fun H locs hT hS => ?_)
  obtain ⟨G2, hG2⟩ : ∃ GG : XG, GG = dput G a 0 0 := ⟨_, rfl⟩
  rw [← hG2] at hT
  refine lv_iload_n hx hb dX11_letter_5 rfl (lv_at hl 1 rfl) ?_
  refine lv_i2l (v := p0.toInt64) hx hb dX11_letter_6 rfl ?_
  refine lv_lconst (v := (0 : Int64)) hx hb dX11_letter_7 (by decide) ?_
  refine lv_aload_n hx hb dX11_letter_8 rfl (lv_at hl 0 rfl) ?_
  refine gX11_23 S hK hT ha kf_X11_224 dX11_letter_9 (v := (G.1 a 23)) (ld_j hG2 (by decide)) (?_)
  refine lv_i2l (v := ((G.1 a 23) : Int32).toInt64) hx hb dX11_letter_12 rfl ?_
  refine lv_lconst (v := (1 : Int64)) hx hb dX11_letter_13 (by decide) ?_
  refine lv_lsub hx hb dX11_letter_14 (lv_topl (fun y14 hy14 => ?_))
  have hy14 : y14.toInt = ((G.1 a 23).toInt) - (1 : Int) := xl_sub (xl_i2l (rfl : Int32.toInt (G.1 a 23) = ((G.1 a 23).toInt))) (by decide) (z_X11_letter_1 ((G.1 a 23).toInt) w0) (by decide) hy14
  refine x_clp (x_runS (As := [.long p0.toInt64, .long (0 : Int64), .long y14]) (rest := []) S (c_X11_in l E K F G2 H p0.toInt64 p0.toInt (0 : Int64) (0 : Int) y14 (((G.1 a 23).toInt) - (1 : Int)) (xl_i2l (rfl : Int32.toInt p0 = p0.toInt)) (by decide) hy14) ms_X11_in km_X11_139 rfl rfl ⟨Nat.le_of_ble_eq_true rfl, Nat.le_of_ble_eq_true rfl⟩ hK (fun _ => XPh.blind) (fun U hU hW => XPh.at hK hz hS hT hU hW) rfl hl.1 (Nat.le_of_ble_eq_true rfl) dX11_letter_15 ⟨Nat.le_of_ble_eq_true rfl, Nat.le_of_ble_eq_true rfl⟩) hS ?_
  rintro _ _ locs ⟨x15, rfl, b15, t15⟩ hS
  have t15 : (x15.toInt = 1 ∧ (0 : Int) ≤ p0.toInt ∧ p0.toInt ≤ (((G.1 a 23).toInt) - (1 : Int))) ∨ (x15.toInt = 0 ∧ (p0.toInt < (0 : Int) ∨ (((G.1 a 23).toInt) - (1 : Int)) < p0.toInt)) := t15
  refine xi_zeq (tgt := 30) hx hb (rfl : Int32.toInt x15 = x15.toInt) dX11_letter_18 (by decide) (fun c18 => ?_) (fun c18 => ?_)
  · refine lv_iconst (v := (-1)) hx hb dX11_letter_30 (by decide) ?_
    exact x_ri hx hb hr hlk hQ (Nat.le_of_ble_eq_true rfl) (Nat.le_of_ble_eq_true rfl) hS dX11_letter_31 G2 ⟨_, rfl, (by rw [hG2]; exact XFr.dput XFr.rf (List.mem_of_getElem? (i := 0) rfl))⟩ hT
  · refine lv_aload_n hx hb dX11_letter_21 rfl (lv_at hl 0 rfl) ?_
    obtain ⟨hk22, hj22⟩ := fkX11_22 hT ha
    refine gX11_22 S hK hT ha kf_X11_65 dX11_letter_22 (fun _ _ => ?_)
    refine lv_iload_n hx hb dX11_letter_25 rfl (lv_at hl 1 rfl) ?_
    refine al_2 S hK hT hk22 ar_45 (by decide) (z_X11_letter_2 p0.toInt x15.toInt ((G.1 a 23).toInt) w0 t15 c18) dX11_letter_26 (fun x26 hv26 o26 => ?_)
    have hv26 : x26.toInt = (aI (G.2.1 (F a 22)) (p0.toInt)) := hv26.trans (by rw [(rfl : Int32.toInt p0 = p0.toInt), ((ld_c hG2) : G2.2.1 (F a 22) = G.2.1 (F a 22))])
    refine lv_goto (tgt := 31) hx hb dX11_letter_27 (by decide) ?_
    exact x_ri hx hb hr hlk hQ (Nat.le_of_ble_eq_true rfl) (Nat.le_of_ble_eq_true rfl) hS dX11_letter_31 G2 ⟨_, rfl, (by rw [hG2]; exact XFr.dput XFr.rf (List.mem_of_getElem? (i := 0) rfl))⟩ hT

theorem z_X11_value_1 (a0 : Int) (a1 : Int) (a2 : Int) (a3 : Int) (h0 : (a1 = 1 ∧ a3 ≠ -2000) ∨ (a1 = 0 ∧ a3 = -2000)) (h1 : a1 = 0) : (a3 ≠ -2000 ∧ 0 ≤ a0 ∧ a0 < 3 ∧ (1 : Int) = 0 ∧ (0 : Int) = a2) ∨ ((a3 = -2000 ∨ a0 < 0 ∨ 3 ≤ a0) ∧ (1 : Int) = 1 ∧ (0 : Int) = 0) := by omega
theorem z_X11_value_2 (a0 : Int) (a1 : Int) (a2 : Int) (a3 : Int) (h0 : (a1 = 1 ∧ 0 ≤ a0 ∧ a0 ≤ 2) ∨ (a1 = 0 ∧ (a0 < 0 ∨ 2 < a0))) (h1 : a1 = 0) : (a3 ≠ -2000 ∧ 0 ≤ a0 ∧ a0 < 3 ∧ (1 : Int) = 0 ∧ (0 : Int) = a2) ∨ ((a3 = -2000 ∨ a0 < 0 ∨ 3 ≤ a0) ∧ (1 : Int) = 1 ∧ (0 : Int) = 0) := by omega
theorem z_X11_value_3 (a0 : Int) (a1 : Int) (a2 : Int) (a3 : Int) (a4 : Int) (a5 : Int) (a6 : Int) (a7 : Int) (a8 : Int) (h0 : ¬ (0 ≤ a0 ∧ a0 < 3 ∧ 0 ≤ a1 ∧ a1 < 30) → a8 = -2000) (h1 : (a5 = 1 ∧ a8 ≠ -2000) ∨ (a5 = 0 ∧ a8 = -2000)) (h2 : ¬ (a5 = 0)) (h3 : (a3 = 1 ∧ 0 ≤ a2 ∧ a2 ≤ 2) ∨ (a3 = 0 ∧ (a2 < 0 ∨ 2 < a2))) (h4 : ¬ (a3 = 0)) (h5 : 0 ≤ a0 ∧ a0 ≤ 2 ∧ 0 ≤ a1 ∧ a1 ≤ 29 → a4 = 4 * (30 * a0 + a1)) (h6 : a6 = a4 + (1 : Int) ∨ a4 + (1 : Int) < -2147483648 ∨ 2147483648 ≤ a4 + (1 : Int)) (h7 : a7 = a6 + a2 ∨ a6 + a2 < -2147483648 ∨ 2147483648 ≤ a6 + a2) : 0 ≤ a7 ∧ a7 < ((360 : Nat) : Int) := by omega
theorem z_X11_value_4 (a0 : Int) (a1 : Int) (a2 : Int) (a3 : Int) (a4 : Int) (a5 : Int) (a6 : Int) (a7 : Int) (a8 : Int) (h0 : ¬ (0 ≤ a0 ∧ a0 < 3 ∧ 0 ≤ a1 ∧ a1 < 30) → a8 = -2000) (h1 : (a5 = 1 ∧ a8 ≠ -2000) ∨ (a5 = 0 ∧ a8 = -2000)) (h2 : ¬ (a5 = 0)) (h3 : (a3 = 1 ∧ 0 ≤ a2 ∧ a2 ≤ 2) ∨ (a3 = 0 ∧ (a2 < 0 ∨ 2 < a2))) (h4 : ¬ (a3 = 0)) (h5 : 0 ≤ a0 ∧ a0 ≤ 2 ∧ 0 ≤ a1 ∧ a1 ≤ 29 → a4 = 4 * (30 * a0 + a1)) (h6 : a6 = a4 + (1 : Int) ∨ a4 + (1 : Int) < -2147483648 ∨ 2147483648 ≤ a4 + (1 : Int)) (h7 : a7 = a6 + a2 ∨ a6 + a2 < -2147483648 ∨ 2147483648 ≤ a6 + a2) : a7 = 4 * (30 * a0 + a1) + 1 + a2 := by omega
theorem z_X11_value_5 (a0 : Int) (a1 : Int) (a2 : Int) (a3 : Int) (a4 : Int) (a5 : Int) (h0 : ¬ (0 ≤ a0 ∧ a0 < 3 ∧ 0 ≤ a1 ∧ a1 < 30) → a5 = -2000) (h1 : (a4 = 1 ∧ a5 ≠ -2000) ∨ (a4 = 0 ∧ a5 = -2000)) (h2 : ¬ (a4 = 0)) (h3 : (a3 = 1 ∧ 0 ≤ a2 ∧ a2 ≤ 2) ∨ (a3 = 0 ∧ (a2 < 0 ∨ 2 < a2))) (h4 : ¬ (a3 = 0)) : (0 ≤ a0 ∧ a0 < 3) ∧ (0 ≤ a1 ∧ a1 < 30) ∧ (0 ≤ a2 ∧ a2 < 3) := by omega
theorem z_X11_value_6 (a0 : Int) (a1 : Int) (h0 : (a0 = 1 ∧ a1 ≠ -2000) ∨ (a0 = 0 ∧ a1 = -2000)) (h1 : ¬ (a0 = 0)) : a1 ≠ -2000 := by omega
theorem z_X11_value_7 (a0 : Int) (a1 : Int) (a2 : Int) (a3 : Int) (a4 : Int) (a5 : Int) (h0 : (a2 = 1 ∧ a5 ≠ -2000) ∨ (a2 = 0 ∧ a5 = -2000)) (h1 : ¬ (a2 = 0)) (h2 : (a1 = 1 ∧ 0 ≤ a0 ∧ a0 ≤ 2) ∨ (a1 = 0 ∧ (a0 < 0 ∨ 2 < a0))) (h3 : ¬ (a1 = 0)) (h4 : a3 = a4) : (a5 ≠ -2000 ∧ 0 ≤ a0 ∧ a0 < 3 ∧ (0 : Int) = 0 ∧ a3 = a4) ∨ ((a5 = -2000 ∨ a0 < 0 ∨ 3 ≤ a0) ∧ (0 : Int) = 1 ∧ a3 = 0) := by omega
abbrev rm_X11_value : Room := { frames := 3, cells := 0, slots := 0, locals := 67 }
set_option maxHeartbeats 4000000 in
set_option maxRecDepth 100000 in
theorem c_X11_value (l : Launch) (E : XE) (K : Nat → Nat) (F : Nat → Nat → Nat) (G : XG) (a : Nat) (p0 : Int32) (p1 : Int32) (p2 : Int32) (ha : K a = 13) (hM : RM (G.2.1 (F a 1)) (0)) : Met l yX11_value (xw yX11_value cX11_value 4 (some .int)) rm_X11_value (va_Pc [.ref a, .int p0, .int p1, .int p2] (XP E K F G)) (XQ E (fun v (u : XG) => ∃ r : Int32, v = .int r ∧ XFr [(a, 0)] [] [] G u ∧ (((cel (mw (G.2.1 (F a 1)) 0) (p0.toInt) (p1.toInt) 0) ≠ -2000 ∧ 0 ≤ p2.toInt ∧ p2.toInt < 3 ∧ ((u.1 a 0).toInt) = 0 ∧ r.toInt = (cel (mw (G.2.1 (F a 1)) 0) (p0.toInt) (p1.toInt) (p2.toInt))) ∨ (((cel (mw (G.2.1 (F a 1)) 0) (p0.toInt) (p1.toInt) 0) = -2000 ∨ p2.toInt < 0 ∨ 3 ≤ p2.toInt) ∧ ((u.1 a 0).toInt) = 1 ∧ r.toInt = 0)) ∧ (u.2.2.2 = G.2.2.2)) (fun u H => TW E K F u H)) 0 0 (xA E) := by
  refine x_enter (by decide) (Nat.le_of_ble_eq_true rfl) ?_
  intro p e s m args below meth c Q S hr hlk hnm hQ hP ls hl
  obtain ⟨hz, hK, hT⟩ := hP
  obtain ⟨hx, hb, -, -, -⟩ := id S
  obtain ⟨H, hT, hS, hgo⟩ : ∃ H : Heap, TW E K F G H ∧ va_S (xA E) s.heap H [] ∧ H = s.heap := ⟨_, hT, va_S.rf, rfl⟩
  rw [← hgo]
  have hl : lv_has ls 4 [(0, .ref a), (1, .int p0), (2, .int p1), (3, .int p2)] := hl
  obtain ⟨hk9999, hj9999⟩ := fkX11_1 hT ha
  have z0 : ¬ (0 ≤ p0.toInt ∧ p0.toInt < 3 ∧ 0 ≤ p1.toInt ∧ p1.toInt < 30) → (cel (mw (G.2.1 (F a 1)) 0) (p0.toInt) (p1.toInt) 0) = -2000 := fun h9 => cel_out (by omega)
  refine lv_aload_n hx hb dX11_value_0 rfl (lv_at hl 0 rfl) ?_
  refine lv_aload_n hx hb dX11_value_1 rfl (lv_at hl 0 rfl) ?_
  refine lv_iload_n hx hb dX11_value_2 rfl (lv_at hl 1 rfl) ?_
  refine lv_iload_n hx hb dX11_value_3 rfl (lv_at hl 2 rfl) ?_
  refine x_clp (x_runV (b := a) (As := [.int p0, .int p1]) (rest := [.ref a]) S (c_X11_isRow l E K F G H a p0 p1 ha (v_X11_value_4_1 (K := K) (F := F) a G p0 p1 ha hk9999 hj9999 hM z0)) mv_X11_isRow km_X11_346 rfl rfl ⟨Nat.le_of_ble_eq_true rfl, Nat.le_of_ble_eq_true rfl⟩ (rc_13 hK hT ha) hK (fun _ => XPh.blind) (fun U hU hW => XPh.at hK hz hS hT hU hW) rfl hl.1 (Nat.le_of_ble_eq_true rfl) dX11_value_4 ⟨Nat.le_of_ble_eq_true rfl, Nat.le_of_ble_eq_true rfl⟩) hS ?_
  rintro _ _ locs ⟨x4, rfl, b4, t4⟩ hS
  have t4 : (x4.toInt = 1 ∧ (cel (mw (G.2.1 (F a 1)) 0) (p0.toInt) (p1.toInt) 0) ≠ -2000) ∨ (x4.toInt = 0 ∧ (cel (mw (G.2.1 (F a 1)) 0) (p0.toInt) (p1.toInt) 0) = -2000) := t4
  refine xi_zeq (tgt := 21) hx hb (rfl : Int32.toInt x4 = x4.toInt) dX11_value_7 (by decide) (fun c7 => ?_) (fun c7 => ?_)
  · refine lv_iconst (v := 1) hx hb dX11_value_21 (by decide) ?_
    refine pX11_0 (v := 1) S hK hT hS ha kf_X11_134 dX11_value_22 (fun H locs hT hS => ?_)
    obtain ⟨G22, hG22⟩ : ∃ GG : XG, GG = dput G a 0 1 := ⟨_, rfl⟩
    rw [← hG22] at hT
    refine lv_aload_n hx hb dX11_value_25 rfl (lv_at hl 0 rfl) ?_
    refine gX11_0 S hK hT ha kf_X11_134 dX11_value_26 (v := 1) (ld_at hG22) (?_)
    refine xi_zne (tgt := 49) hx hb ((by decide) : Int32.toInt 1 = (1 : Int)) dX11_value_29 (by decide) (fun _ => ?_) (fun c => absurd (show (1 : Int) ≠ 0 by decide) c)
    refine lv_iconst (v := 0) hx hb dX11_value_49 (by decide) ?_
    exact x_ri hx hb hr hlk hQ (Nat.le_of_ble_eq_true rfl) (Nat.le_of_ble_eq_true rfl) hS dX11_value_50 G22 ⟨_, rfl, (by rw [hG22]; exact XFr.dput XFr.rf (List.mem_of_getElem? (i := 0) rfl)), (by rw [(show (G22.1 a 0).toInt = (1 : Int) from (congrArg Int32.toInt (ld_at hG22)).trans ((by decide) : Int32.toInt 1 = (1 : Int)))] <;> exact (z_X11_value_1 p2.toInt x4.toInt (cel (mw (G.2.1 (F a 1)) 0) (p0.toInt) (p1.toInt) (p2.toInt)) (cel (mw (G.2.1 (F a 1)) 0) (p0.toInt) (p1.toInt) 0) t4 c7)), (v_X11_value_50_2 a G22 G hG22)⟩ hT
  · refine lv_iload_n hx hb dX11_value_10 rfl (lv_at hl 3 rfl) ?_
    refine x_clp (x_runS (As := [.int p2]) (rest := [.ref a]) S (c_X11_isColumn l E K F G H p2) ms_X11_isColumn km_X11_356 rfl rfl ⟨Nat.le_of_ble_eq_true rfl, Nat.le_of_ble_eq_true rfl⟩ hK (fun _ => XPh.blind) (fun U hU hW => XPh.at hK hz hS hT hU hW) rfl hl.1 (Nat.le_of_ble_eq_true rfl) dX11_value_11 ⟨Nat.le_of_ble_eq_true rfl, Nat.le_of_ble_eq_true rfl⟩) hS ?_
    rintro _ _ locs ⟨x11, rfl, b11, t11⟩ hS
    have t11 : (x11.toInt = 1 ∧ 0 ≤ p2.toInt ∧ p2.toInt ≤ 2) ∨ (x11.toInt = 0 ∧ (p2.toInt < 0 ∨ 2 < p2.toInt)) := t11
    refine xi_zeq (tgt := 21) hx hb (rfl : Int32.toInt x11 = x11.toInt) dX11_value_14 (by decide) (fun c14 => ?_) (fun c14 => ?_)
    · refine lv_iconst (v := 1) hx hb dX11_value_21 (by decide) ?_
      refine pX11_0 (v := 1) S hK hT hS ha kf_X11_134 dX11_value_22 (fun H locs hT hS => ?_)
      obtain ⟨G22, hG22⟩ : ∃ GG : XG, GG = dput G a 0 1 := ⟨_, rfl⟩
      rw [← hG22] at hT
      refine lv_aload_n hx hb dX11_value_25 rfl (lv_at hl 0 rfl) ?_
      refine gX11_0 S hK hT ha kf_X11_134 dX11_value_26 (v := 1) (ld_at hG22) (?_)
      refine xi_zne (tgt := 49) hx hb ((by decide) : Int32.toInt 1 = (1 : Int)) dX11_value_29 (by decide) (fun _ => ?_) (fun c => absurd (show (1 : Int) ≠ 0 by decide) c)
      refine lv_iconst (v := 0) hx hb dX11_value_49 (by decide) ?_
      exact x_ri hx hb hr hlk hQ (Nat.le_of_ble_eq_true rfl) (Nat.le_of_ble_eq_true rfl) hS dX11_value_50 G22 ⟨_, rfl, (by rw [hG22]; exact XFr.dput XFr.rf (List.mem_of_getElem? (i := 0) rfl)), (by rw [(show (G22.1 a 0).toInt = (1 : Int) from (congrArg Int32.toInt (ld_at hG22)).trans ((by decide) : Int32.toInt 1 = (1 : Int)))] <;> exact (z_X11_value_2 p2.toInt x11.toInt (cel (mw (G.2.1 (F a 1)) 0) (p0.toInt) (p1.toInt) (p2.toInt)) (cel (mw (G.2.1 (F a 1)) 0) (p0.toInt) (p1.toInt) 0) t11 c14)), (v_X11_value_50_3 a G22 G hG22)⟩ hT
    · refine lv_iconst (v := 0) hx hb dX11_value_17 (by decide) ?_
      refine lv_goto (tgt := 22) hx hb dX11_value_18 (by decide) ?_
      refine pX11_0 (v := 0) S hK hT hS ha kf_X11_134 dX11_value_22 (fun H locs hT hS => ?_)
      obtain ⟨G22, hG22⟩ : ∃ GG : XG, GG = dput G a 0 0 := ⟨_, rfl⟩
      rw [← hG22] at hT
      refine lv_aload_n hx hb dX11_value_25 rfl (lv_at hl 0 rfl) ?_
      refine gX11_0 S hK hT ha kf_X11_134 dX11_value_26 (v := 0) (ld_at hG22) (?_)
      refine xi_zne (tgt := 49) hx hb ((by decide) : Int32.toInt 0 = (0 : Int)) dX11_value_29 (by decide) (fun c => absurd c (show ¬ ((0 : Int) ≠ 0) by decide)) (fun _ => ?_)
      refine lv_aload_n hx hb dX11_value_32 rfl (lv_at hl 0 rfl) ?_
      refine gX11_1 S hK hT ha kf_X11_9 dX11_value_33 (fun _ _ => ?_)
      refine lv_iload_n hx hb dX11_value_36 rfl (lv_at hl 1 rfl) ?_
      refine lv_iload_n hx hb dX11_value_37 rfl (lv_at hl 2 rfl) ?_
      refine x_clp (x_runS (As := [.int p0, .int p1]) (rest := [.ref (F a 1)]) S (c_X11_at l E K F G22 H p0 p1) ms_X11_at km_X11_156 rfl rfl ⟨Nat.le_of_ble_eq_true rfl, Nat.le_of_ble_eq_true rfl⟩ hK (fun _ => XPh.blind) (fun U hU hW => XPh.at hK hz hS hT hU hW) rfl hl.1 (Nat.le_of_ble_eq_true rfl) dX11_value_38 ⟨Nat.le_of_ble_eq_true rfl, Nat.le_of_ble_eq_true rfl⟩) hS ?_
      rintro _ _ locs ⟨x38, rfl, t38⟩ hS
      have t38 : 0 ≤ p0.toInt ∧ p0.toInt ≤ 2 ∧ 0 ≤ p1.toInt ∧ p1.toInt ≤ 29 → x38.toInt = 4 * (30 * p0.toInt + p1.toInt) := t38
      refine lv_iconst (v := 1) hx hb dX11_value_41 (by decide) ?_
      refine xi_iadd hx hb (rfl : Int32.toInt x38 = x38.toInt) ((by decide) : Int32.toInt 1 = (1 : Int)) dX11_value_42 (fun x42 t42 => ?_)
      refine lv_iload_n hx hb dX11_value_43 rfl (lv_at hl 3 rfl) ?_
      refine xi_iadd hx hb (rfl : Int32.toInt x42 = x42.toInt) (rfl : Int32.toInt p2 = p2.toInt) dX11_value_44 (fun x44 t44 => ?_)
      refine al_0 S hK hT hk9999 ar_30 (by decide) (z_X11_value_3 p0.toInt p1.toInt p2.toInt x11.toInt x38.toInt x4.toInt x42.toInt x44.toInt (cel (mw (G.2.1 (F a 1)) 0) (p0.toInt) (p1.toInt) 0) z0 t4 c7 t11 c14 t38 t42 t44) dX11_value_45 (fun x45 hv45 o45 => ?_)
      have hv45 : x45.toInt = (aI (G.2.1 (F a 1)) (4 * (30 * p0.toInt + p1.toInt) + 1 + p2.toInt)) := hv45.trans (by rw [((rfl : Int32.toInt x44 = x44.toInt).trans (z_X11_value_4 p0.toInt p1.toInt p2.toInt x11.toInt x38.toInt x4.toInt x42.toInt x44.toInt (cel (mw (G.2.1 (F a 1)) 0) (p0.toInt) (p1.toInt) 0) z0 t4 c7 t11 c14 t38 t42 t44)), ((ld_c hG22) : G22.2.1 (F a 1) = G.2.1 (F a 1))])
      have z46 : (aI (G.2.1 (F a 1)) (4 * (30 * p0.toInt + p1.toInt) + 1 + p2.toInt)) = (cel (mw (G.2.1 (F a 1)) 0) (p0.toInt) (p1.toInt) (p2.toInt)) := hM.cel0 (z_X11_value_5 p0.toInt p1.toInt p2.toInt x11.toInt x4.toInt (cel (mw (G.2.1 (F a 1)) 0) (p0.toInt) (p1.toInt) 0) z0 t4 c7 t11 c14) (z_X11_value_6 x4.toInt (cel (mw (G.2.1 (F a 1)) 0) (p0.toInt) (p1.toInt) 0) t4 c7)
      refine lv_goto (tgt := 50) hx hb dX11_value_46 (by decide) ?_
      exact x_ri hx hb hr hlk hQ (Nat.le_of_ble_eq_true rfl) (Nat.le_of_ble_eq_true rfl) hS dX11_value_50 G22 ⟨_, rfl, (by rw [hG22]; exact XFr.dput XFr.rf (List.mem_of_getElem? (i := 0) rfl)), (by rw [(hv45 : Int32.toInt x45 = (aI (G.2.1 (F a 1)) (4 * (30 * p0.toInt + p1.toInt) + 1 + p2.toInt))), (show (G22.1 a 0).toInt = (0 : Int) from (congrArg Int32.toInt (ld_at hG22)).trans ((by decide) : Int32.toInt 0 = (0 : Int)))] <;> exact (z_X11_value_7 p2.toInt x11.toInt x4.toInt (aI (G.2.1 (F a 1)) (4 * (30 * p0.toInt + p1.toInt) + 1 + p2.toInt)) (cel (mw (G.2.1 (F a 1)) 0) (p0.toInt) (p1.toInt) (p2.toInt)) (cel (mw (G.2.1 (F a 1)) 0) (p0.toInt) (p1.toInt) 0) t4 c7 t11 c14 z46)), (v_X11_value_50_4 a G22 G hG22)⟩ hT

theorem z_X11_asked_1 (a0 : Int) (h0 : a0 = -1 ∨ (0 ≤ a0 ∧ a0 ≤ 2388)) (h1 : a0 ≠ (-1 : Int)) : 0 ≤ a0 ∧ a0 < ((2400 : Nat) : Int) := by omega
theorem z_X11_asked_3 (a0 : Int) (h0 : a0 = (-1 : Int)) : a0 = -1 ∨ (0 ≤ a0 ∧ a0 ≤ 2388) := by omega
theorem z_X11_asked_4 (a0 : Int) (h0 : 0 ≤ a0 ∧ a0 ≤ 2388) : -2147483648 ≤ a0 ∧ a0 < 2147483648 := by omega
theorem z_X11_asked_5 (a0 : Int) (a1 : Int) (a2 : Int) (h0 : 0 ≤ a2 ∧ a2 ≤ 2388) (h1 : (a1 = 1 ∧ (0 : Int) ≤ a0 ∧ a0 ≤ (a2 - (1 : Int))) ∨ (a1 = 0 ∧ (a0 < (0 : Int) ∨ (a2 - (1 : Int)) < a0))) (h2 : a1 ≠ 0) : a0 = -1 ∨ (0 ≤ a0 ∧ a0 ≤ 2388) := by omega
abbrev rm_X11_asked : Room := { frames := 1, cells := 0, slots := 0, locals := 25 }
set_option maxHeartbeats 4000000 in
set_option maxRecDepth 100000 in
theorem c_X11_asked (l : Launch) (E : XE) (K : Nat → Nat) (F : Nat → Nat → Nat) (G : XG) (a : Nat) (p0 : Int32) (p1 : Int32) (ha : K a = 13) (k0 : 0 ≤ ((G.1 a 43).toInt) ∧ ((G.1 a 43).toInt) ≤ 2388) : Met l yX11_asked (xw yX11_asked cX11_asked 3 (some .int)) rm_X11_asked (va_Pc [.ref a, .int p0, .int p1] (XP E K F G)) (XQ E (fun v (u : XG) => ∃ r : Int32, v = .int r ∧ XFr [(a, 0)] [] [] G u) (fun u H => TW E K F u H)) 0 0 (xA E) := by
  refine x_enter (by decide) (Nat.le_of_ble_eq_true rfl) ?_
  intro p e s m args below meth c Q S hr hlk hnm hQ hP ls hl
  obtain ⟨hz, hK, hT⟩ := hP
  obtain ⟨hx, hb, -, -, -⟩ := id S
  obtain ⟨H, hT, hS, hgo⟩ : ∃ H : Heap, TW E K F G H ∧ va_S (xA E) s.heap H [] ∧ H = s.heap := ⟨_, hT, va_S.rf, rfl⟩
  rw [← hgo]
  have hl : lv_has ls 3 [(0, .ref a), (1, .int p0), (2, .int p1)] := hl
  refine lv_aload_n hx hb dX11_asked_0 rfl (lv_at hl 0 rfl) ?_
  refine lv_iconst (v := 0) hx hb dX11_asked_1 (by decide) ?_
  refine pX11_0 (v := 0) S hK hT hS ha kf_X11_134 dX11_asked_2 (fun H locs hT hS => ?_)
  obtain ⟨G2, hG2⟩ : ∃ GG : XG, GG = dput G a 0 0 := ⟨_, rfl⟩
  rw [← hG2] at hT
  refine lv_iload_n hx hb dX11_asked_5 rfl (lv_at hl 2 rfl) ?_
  refine lv_i2l (v := p1.toInt64) hx hb dX11_asked_6 rfl ?_
  refine lv_lconst (v := (0 : Int64)) hx hb dX11_asked_7 (by decide) ?_
  refine lv_ldc2 (v := 2) hx hb S.2.2.2.1 (S.2.2.2.2 _ (List.mem_cons_of_mem _ kc_X11_137)) dX11_asked_8 ?_
  refine x_clp (x_runS (As := [.long p1.toInt64, .long (0 : Int64), .long (2 : Int64)]) (rest := []) S (c_X11_in l E K F G2 H p1.toInt64 p1.toInt (0 : Int64) (0 : Int) (2 : Int64) (2 : Int) (xl_i2l (rfl : Int32.toInt p1 = p1.toInt)) (by decide) (by decide)) ms_X11_in km_X11_139 rfl rfl ⟨Nat.le_of_ble_eq_true rfl, Nat.le_of_ble_eq_true rfl⟩ hK (fun _ => XPh.blind) (fun U hU hW => XPh.at hK hz hS hT hU hW) rfl hl.1 (Nat.le_of_ble_eq_true rfl) dX11_asked_11 ⟨Nat.le_of_ble_eq_true rfl, Nat.le_of_ble_eq_true rfl⟩) hS ?_
  rintro _ _ locs ⟨x11, rfl, b11, t11⟩ hS
  have t11 : (x11.toInt = 1 ∧ (0 : Int) ≤ p1.toInt ∧ p1.toInt ≤ (2 : Int)) ∨ (x11.toInt = 0 ∧ (p1.toInt < (0 : Int) ∨ (2 : Int) < p1.toInt)) := t11
  refine xi_zeq (tgt := 38) hx hb (rfl : Int32.toInt x11 = x11.toInt) dX11_asked_14 (by decide) (fun c14 => ?_) (fun c14 => ?_)
  · refine lv_iconst (v := (-1)) hx hb dX11_asked_38 (by decide) ?_
    exact x_ri hx hb hr hlk hQ (Nat.le_of_ble_eq_true rfl) (Nat.le_of_ble_eq_true rfl) hS dX11_asked_39 G2 ⟨_, rfl, (by rw [hG2]; exact XFr.dput XFr.rf (List.mem_of_getElem? (i := 0) rfl))⟩ hT
  · refine lv_iload_n hx hb dX11_asked_17 rfl (lv_at hl 1 rfl) ?_
    refine lv_iconst (v := (-1)) hx hb dX11_asked_18 (by decide) ?_
    have J40 : ∀ (H : Heap) (locs : List Loc) (ls : Array Slot), p0.toInt = -1 ∨ (0 ≤ p0.toInt ∧ p0.toInt ≤ 2388) → TW E K F G2 H → va_S (xA E) s.heap H locs → lv_has ls 3 [(0, .ref a), (1, .int p0), (2, .int p1)] → W p l e rm_X11_asked s m args below meth c H locs 0 0 Q (F0 m 40 ls []) := by
      intro H locs ls I40_0 hT hS hl
      refine lv_iload_n hx hb dX11_asked_40 rfl (lv_at hl 1 rfl) ?_
      refine lv_iconst (v := (-1)) hx hb dX11_asked_41 (by decide) ?_
      refine xi_cne (tgt := 52) hx hb (rfl : Int32.toInt p0 = p0.toInt) ((by decide) : Int32.toInt (-1) = (-1 : Int)) dX11_asked_42 (by decide) (fun c42 => ?_) (fun c42 => ?_)
      · refine lv_iload_n hx hb dX11_asked_52 rfl (lv_at hl 2 rfl) ?_
        refine xi_zne (tgt := 65) hx hb (rfl : Int32.toInt p1 = p1.toInt) dX11_asked_53 (by decide) (fun c53 => ?_) (fun c53 => ?_)
        · refine lv_iload_n hx hb dX11_asked_65 rfl (lv_at hl 2 rfl) ?_
          refine lv_iconst (v := 1) hx hb dX11_asked_66 (by decide) ?_
          refine xi_cne (tgt := 79) hx hb (rfl : Int32.toInt p1 = p1.toInt) ((by decide) : Int32.toInt 1 = (1 : Int)) dX11_asked_67 (by decide) (fun c67 => ?_) (fun c67 => ?_)
          · refine lv_iload_n hx hb dX11_asked_79 rfl (lv_at hl 1 rfl) ?_
            refine lv_aload_n hx hb dX11_asked_80 rfl (lv_at hl 0 rfl) ?_
            refine gX11_44 S hK hT ha kf_X11_115 dX11_asked_81 (v := (G.1 a 44)) (ld_j hG2 (by decide)) (?_)
            refine xi_cne (tgt := 91) hx hb (rfl : Int32.toInt p0 = p0.toInt) (rfl : Int32.toInt (G.1 a 44) = ((G.1 a 44).toInt)) dX11_asked_84 (by decide) (fun c84 => ?_) (fun c84 => ?_)
            · refine lv_iconst (v := 0) hx hb dX11_asked_91 (by decide) ?_
              exact x_ri hx hb hr hlk hQ (Nat.le_of_ble_eq_true rfl) (Nat.le_of_ble_eq_true rfl) hS dX11_asked_92 G2 ⟨_, rfl, (by rw [hG2]; exact XFr.dput XFr.rf (List.mem_of_getElem? (i := 0) rfl))⟩ hT
            · refine lv_iconst (v := 1) hx hb dX11_asked_87 (by decide) ?_
              refine lv_goto (tgt := 92) hx hb dX11_asked_88 (by decide) ?_
              exact x_ri hx hb hr hlk hQ (Nat.le_of_ble_eq_true rfl) (Nat.le_of_ble_eq_true rfl) hS dX11_asked_92 G2 ⟨_, rfl, (by rw [hG2]; exact XFr.dput XFr.rf (List.mem_of_getElem? (i := 0) rfl))⟩ hT
          · refine lv_aload_n hx hb dX11_asked_70 rfl (lv_at hl 0 rfl) ?_
            obtain ⟨hk71, hj71⟩ := fkX11_42 hT ha
            refine gX11_42 S hK hT ha kf_X11_112 dX11_asked_71 (fun _ _ => ?_)
            refine lv_iload_n hx hb dX11_asked_74 rfl (lv_at hl 1 rfl) ?_
            refine al_0 S hK hT hk71 ar_54 (by decide) (z_X11_asked_1 p0.toInt I40_0 c42) dX11_asked_75 (fun x75 hv75 o75 => ?_)
            have hv75 : x75.toInt = (aI (G.2.1 (F a 42)) (p0.toInt)) := hv75.trans (by rw [(rfl : Int32.toInt p0 = p0.toInt), ((ld_c hG2) : G2.2.1 (F a 42) = G.2.1 (F a 42))])
            refine lv_goto (tgt := 92) hx hb dX11_asked_76 (by decide) ?_
            exact x_ri hx hb hr hlk hQ (Nat.le_of_ble_eq_true rfl) (Nat.le_of_ble_eq_true rfl) hS dX11_asked_92 G2 ⟨_, rfl, (by rw [hG2]; exact XFr.dput XFr.rf (List.mem_of_getElem? (i := 0) rfl))⟩ hT
        · refine lv_aload_n hx hb dX11_asked_56 rfl (lv_at hl 0 rfl) ?_
          obtain ⟨hk57, hj57⟩ := fkX11_41 hT ha
          refine gX11_41 S hK hT ha kf_X11_109 dX11_asked_57 (fun _ _ => ?_)
          refine lv_iload_n hx hb dX11_asked_60 rfl (lv_at hl 1 rfl) ?_
          refine al_0 S hK hT hk57 ar_53 (by decide) (z_X11_asked_1 p0.toInt I40_0 c42) dX11_asked_61 (fun x61 hv61 o61 => ?_)
          have hv61 : x61.toInt = (aI (G.2.1 (F a 41)) (p0.toInt)) := hv61.trans (by rw [(rfl : Int32.toInt p0 = p0.toInt), ((ld_c hG2) : G2.2.1 (F a 41) = G.2.1 (F a 41))])
          refine lv_goto (tgt := 92) hx hb dX11_asked_62 (by decide) ?_
          exact x_ri hx hb hr hlk hQ (Nat.le_of_ble_eq_true rfl) (Nat.le_of_ble_eq_true rfl) hS dX11_asked_92 G2 ⟨_, rfl, (by rw [hG2]; exact XFr.dput XFr.rf (List.mem_of_getElem? (i := 0) rfl))⟩ hT
      · refine lv_aload_n hx hb dX11_asked_45 rfl (lv_at hl 0 rfl) ?_
        refine gX11_43 S hK hT ha kf_X11_340 dX11_asked_46 (v := (G.1 a 43)) (ld_j hG2 (by decide)) (?_)
        refine lv_goto (tgt := 92) hx hb dX11_asked_49 (by decide) ?_
        exact x_ri hx hb hr hlk hQ (Nat.le_of_ble_eq_true rfl) (Nat.le_of_ble_eq_true rfl) hS dX11_asked_92 G2 ⟨_, rfl, (by rw [hG2]; exact XFr.dput XFr.rf (List.mem_of_getElem? (i := 0) rfl))⟩ hT
    refine xi_ceq (tgt := 40) hx hb (rfl : Int32.toInt p0 = p0.toInt) ((by decide) : Int32.toInt (-1) = (-1 : Int)) dX11_asked_19 (by decide) (fun c19 => ?_) (fun c19 => ?_)
    · exact J40 _ _ _ (z_X11_asked_3 p0.toInt c19) hT hS (lv_sub hl [0, 1, 2] rfl)
    · refine lv_iload_n hx hb dX11_asked_22 rfl (lv_at hl 1 rfl) ?_
      refine lv_i2l (v := p0.toInt64) hx hb dX11_asked_23 rfl ?_
      refine lv_lconst (v := (0 : Int64)) hx hb dX11_asked_24 (by decide) ?_
      refine lv_aload_n hx hb dX11_asked_25 rfl (lv_at hl 0 rfl) ?_
      refine gX11_43 S hK hT ha kf_X11_340 dX11_asked_26 (v := (G.1 a 43)) (ld_j hG2 (by decide)) (?_)
      refine lv_i2l (v := ((G.1 a 43) : Int32).toInt64) hx hb dX11_asked_29 rfl ?_
      refine lv_lconst (v := (1 : Int64)) hx hb dX11_asked_30 (by decide) ?_
      refine lv_lsub hx hb dX11_asked_31 (lv_topl (fun y31 hy31 => ?_))
      have hy31 : y31.toInt = ((G.1 a 43).toInt) - (1 : Int) := xl_sub (xl_i2l (rfl : Int32.toInt (G.1 a 43) = ((G.1 a 43).toInt))) (by decide) (z_X11_asked_4 ((G.1 a 43).toInt) k0) (by decide) hy31
      refine x_clp (x_runS (As := [.long p0.toInt64, .long (0 : Int64), .long y31]) (rest := []) S (c_X11_in l E K F G2 H p0.toInt64 p0.toInt (0 : Int64) (0 : Int) y31 (((G.1 a 43).toInt) - (1 : Int)) (xl_i2l (rfl : Int32.toInt p0 = p0.toInt)) (by decide) hy31) ms_X11_in km_X11_139 rfl rfl ⟨Nat.le_of_ble_eq_true rfl, Nat.le_of_ble_eq_true rfl⟩ hK (fun _ => XPh.blind) (fun U hU hW => XPh.at hK hz hS hT hU hW) rfl hl.1 (Nat.le_of_ble_eq_true rfl) dX11_asked_32 ⟨Nat.le_of_ble_eq_true rfl, Nat.le_of_ble_eq_true rfl⟩) hS ?_
      rintro _ _ locs ⟨x32, rfl, b32, t32⟩ hS
      have t32 : (x32.toInt = 1 ∧ (0 : Int) ≤ p0.toInt ∧ p0.toInt ≤ (((G.1 a 43).toInt) - (1 : Int))) ∨ (x32.toInt = 0 ∧ (p0.toInt < (0 : Int) ∨ (((G.1 a 43).toInt) - (1 : Int)) < p0.toInt)) := t32
      refine xi_zne (tgt := 40) hx hb (rfl : Int32.toInt x32 = x32.toInt) dX11_asked_35 (by decide) (fun c35 => ?_) (fun c35 => ?_)
      · exact J40 _ _ _ (z_X11_asked_5 p0.toInt x32.toInt ((G.1 a 43).toInt) k0 t32 c35) hT hS (lv_sub hl [0, 1, 2] rfl)
      · refine lv_iconst (v := (-1)) hx hb dX11_asked_38 (by decide) ?_
        exact x_ri hx hb hr hlk hQ (Nat.le_of_ble_eq_true rfl) (Nat.le_of_ble_eq_true rfl) hS dX11_asked_39 G2 ⟨_, rfl, (by rw [hG2]; exact XFr.dput XFr.rf (List.mem_of_getElem? (i := 0) rfl))⟩ hT

theorem z_X11_since_1 (a0 : Int) (a1 : Int) (h0 : (a1 = 1 ∧ (0 : Int) ≤ a0 ∧ a0 ≤ (6 : Int)) ∨ (a1 = 0 ∧ (a0 < (0 : Int) ∨ (6 : Int) < a0))) (h1 : a1 ≠ 0) (h2 : a0 ≠ (6 : Int)) : 0 ≤ a0 ∧ a0 < ((6 : Nat) : Int) := by omega
abbrev rm_X11_since : Room := { frames := 1, cells := 0, slots := 0, locals := 25 }
set_option maxHeartbeats 4000000 in
set_option maxRecDepth 100000 in
theorem c_X11_since (l : Launch) (E : XE) (K : Nat → Nat) (F : Nat → Nat → Nat) (G : XG) (a : Nat) (p0 : Int32) (ha : K a = 13) : Met l yX11_since (xw yX11_since cX11_since 2 (some .int)) rm_X11_since (va_Pc [.ref a, .int p0] (XP E K F G)) (XQ E (fun v (u : XG) => ∃ r : Int32, v = .int r ∧ XFr [(a, 0)] [] [] G u) (fun u H => TW E K F u H)) 0 0 (xA E) := by
  refine x_enter (by decide) (Nat.le_of_ble_eq_true rfl) ?_
  intro p e s m args below meth c Q S hr hlk hnm hQ hP ls hl
  obtain ⟨hz, hK, hT⟩ := hP
  obtain ⟨hx, hb, -, -, -⟩ := id S
  obtain ⟨H, hT, hS, hgo⟩ : ∃ H : Heap, TW E K F G H ∧ va_S (xA E) s.heap H [] ∧ H = s.heap := ⟨_, hT, va_S.rf, rfl⟩
  rw [← hgo]
  have hl : lv_has ls 2 [(0, .ref a), (1, .int p0)] := hl
  refine lv_aload_n hx hb dX11_since_0 rfl (lv_at hl 0 rfl) ?_
  refine lv_iconst (v := 0) hx hb dX11_since_1 (by decide) ?_
  refine pX11_0 (v := 0) S hK hT hS ha kf_X11_134 dX11_since_2 (fun H locs hT hS => ?_)
  obtain ⟨G2, hG2⟩ : ∃ GG : XG, GG = dput G a 0 0 := ⟨_, rfl⟩
  rw [← hG2] at hT
  refine lv_aload_n hx hb dX11_since_5 rfl (lv_at hl 0 rfl) ?_
  refine gX11_6 S hK hT ha kf_X11_206 dX11_since_6 (v := (G.1 a 6)) (ld_j hG2 (by decide)) (fun hz6 => ?_)
  refine xi_zeq (tgt := 24) hx hb (rfl : Int32.toInt (G.1 a 6) = ((G.1 a 6).toInt)) dX11_since_9 (by decide) (fun c9 => ?_) (fun c9 => ?_)
  · refine lv_iconst (v := (-1)) hx hb dX11_since_24 (by decide) ?_
    refine lv_goto (tgt := 47) hx hb dX11_since_25 (by decide) ?_
    exact x_ri hx hb hr hlk hQ (Nat.le_of_ble_eq_true rfl) (Nat.le_of_ble_eq_true rfl) hS dX11_since_47 G2 ⟨_, rfl, (by rw [hG2]; exact XFr.dput XFr.rf (List.mem_of_getElem? (i := 0) rfl))⟩ hT
  · refine lv_iload_n hx hb dX11_since_12 rfl (lv_at hl 1 rfl) ?_
    refine lv_i2l (v := p0.toInt64) hx hb dX11_since_13 rfl ?_
    refine lv_lconst (v := (0 : Int64)) hx hb dX11_since_14 (by decide) ?_
    refine lv_ldc2 (v := 6) hx hb S.2.2.2.1 (S.2.2.2.2 _ (List.mem_cons_of_mem _ kc_X11_396)) dX11_since_15 ?_
    refine x_clp (x_runS (As := [.long p0.toInt64, .long (0 : Int64), .long (6 : Int64)]) (rest := []) S (c_X11_in l E K F G2 H p0.toInt64 p0.toInt (0 : Int64) (0 : Int) (6 : Int64) (6 : Int) (xl_i2l (rfl : Int32.toInt p0 = p0.toInt)) (by decide) (by decide)) ms_X11_in km_X11_139 rfl rfl ⟨Nat.le_of_ble_eq_true rfl, Nat.le_of_ble_eq_true rfl⟩ hK (fun _ => XPh.blind) (fun U hU hW => XPh.at hK hz hS hT hU hW) rfl hl.1 (Nat.le_of_ble_eq_true rfl) dX11_since_18 ⟨Nat.le_of_ble_eq_true rfl, Nat.le_of_ble_eq_true rfl⟩) hS ?_
    rintro _ _ locs ⟨x18, rfl, b18, t18⟩ hS
    have t18 : (x18.toInt = 1 ∧ (0 : Int) ≤ p0.toInt ∧ p0.toInt ≤ (6 : Int)) ∨ (x18.toInt = 0 ∧ (p0.toInt < (0 : Int) ∨ (6 : Int) < p0.toInt)) := t18
    refine xi_zne (tgt := 28) hx hb (rfl : Int32.toInt x18 = x18.toInt) dX11_since_21 (by decide) (fun c21 => ?_) (fun c21 => ?_)
    · refine lv_iload_n hx hb dX11_since_28 rfl (lv_at hl 1 rfl) ?_
      refine lv_bipush (v := 6) hx hb dX11_since_29 (by decide) ?_
      refine xi_cne (tgt := 41) hx hb (rfl : Int32.toInt p0 = p0.toInt) ((by decide) : Int32.toInt 6 = (6 : Int)) dX11_since_31 (by decide) (fun c31 => ?_) (fun c31 => ?_)
      · refine lv_aload_n hx hb dX11_since_41 rfl (lv_at hl 0 rfl) ?_
        obtain ⟨hk42, hj42⟩ := fkX11_8 hT ha
        refine gX11_8 S hK hT ha kf_X11_27 dX11_since_42 (fun _ _ => ?_)
        refine lv_iload_n hx hb dX11_since_45 rfl (lv_at hl 1 rfl) ?_
        refine al_0 S hK hT hk42 ar_35 (by decide) (z_X11_since_1 p0.toInt x18.toInt t18 c21 c31) dX11_since_46 (fun x46 hv46 o46 => ?_)
        have hv46 : x46.toInt = (aI (G.2.1 (F a 8)) (p0.toInt)) := hv46.trans (by rw [(rfl : Int32.toInt p0 = p0.toInt), ((ld_c hG2) : G2.2.1 (F a 8) = G.2.1 (F a 8))])
        exact x_ri hx hb hr hlk hQ (Nat.le_of_ble_eq_true rfl) (Nat.le_of_ble_eq_true rfl) hS dX11_since_47 G2 ⟨_, rfl, (by rw [hG2]; exact XFr.dput XFr.rf (List.mem_of_getElem? (i := 0) rfl))⟩ hT
      · refine lv_aload_n hx hb dX11_since_34 rfl (lv_at hl 0 rfl) ?_
        refine gX11_7 S hK hT ha kf_X11_373 dX11_since_35 (v := (G.1 a 7)) (ld_j hG2 (by decide)) (?_)
        refine lv_goto (tgt := 47) hx hb dX11_since_38 (by decide) ?_
        exact x_ri hx hb hr hlk hQ (Nat.le_of_ble_eq_true rfl) (Nat.le_of_ble_eq_true rfl) hS dX11_since_47 G2 ⟨_, rfl, (by rw [hG2]; exact XFr.dput XFr.rf (List.mem_of_getElem? (i := 0) rfl))⟩ hT
    · refine lv_iconst (v := (-1)) hx hb dX11_since_24 (by decide) ?_
      refine lv_goto (tgt := 47) hx hb dX11_since_25 (by decide) ?_
      exact x_ri hx hb hr hlk hQ (Nat.le_of_ble_eq_true rfl) (Nat.le_of_ble_eq_true rfl) hS dX11_since_47 G2 ⟨_, rfl, (by rw [hG2]; exact XFr.dput XFr.rf (List.mem_of_getElem? (i := 0) rfl))⟩ hT

theorem z_X11_told_1 (a0 : Int) (a1 : Int) (a2 : Int) (h0 : (a1 = 1 ∧ 0 ≤ a0 ∧ a0 ≤ 11 ∧ a2 ≠ -1) ∨ (a1 = 0 ∧ (¬ (0 ≤ a0 ∧ a0 ≤ 11) ∨ a2 = -1))) (h1 : ¬ (a1 = 0)) : 0 ≤ a0 ∧ a0 ≤ 11 := by omega
theorem z_X11_told_2 (a0 : Int) (a1 : Int) (h0 : (a1 = 1 ∧ (0 : Int) ≤ a0 ∧ a0 ≤ (9 : Int)) ∨ (a1 = 0 ∧ (a0 < (0 : Int) ∨ (9 : Int) < a0))) (h1 : a1 ≠ 0) : 0 ≤ a0 ∧ a0 ≤ 9 := by omega
abbrev rm_X11_told : Room := { frames := 6, cells := 0, slots := 0, locals := 145 }
set_option maxHeartbeats 4000000 in
set_option maxRecDepth 100000 in
theorem c_X11_told (l : Launch) (E : XE) (K : Nat → Nat) (F : Nat → Nat → Nat) (G : XG) (a : Nat) (p0 : Int32) (p1 : Int32) (ha : K a = 13) (hR : RV (G.2.1 (F a 10))) (hM : RM (G.2.1 (F a 1)) (0)) (hB : RM (G.2.1 (F a 2)) 0) : Met l yX11_told (xw yX11_told cX11_told 3 (some .int)) rm_X11_told (va_Pc [.ref a, .int p0, .int p1] (XP E K F G)) (XQ E (fun v (u : XG) => ∃ r : Int32, v = .int r ∧ XFr [(a, 0), (a, 16), (a, 19)] [F a 15, F a 17, F a 18, F a 11, F a 13] [] G u ∧ ((¬ (0 ≤ p0.toInt ∧ p0.toInt ≤ 11 ∧ aI (G.2.1 (F a 10)) (10 * p0.toInt + 0) ≠ -1) ∧ r.toInt = -2147483648) ∨ ((0 ≤ p0.toInt ∧ p0.toInt ≤ 11 ∧ aI (G.2.1 (F a 10)) (10 * p0.toInt + 0) ≠ -1) ∧ r.toInt = tdM (G.2.1 (F a 10)) p0.toInt (cnP (if ((G.1 a 6).toInt) = 0 then [] else fuO (G.2.1 (F a 10)) (mw (G.2.1 (F a 1)) 0) (mw (G.2.1 (F a 2)) 0) 1) p0.toInt) p1.toInt))) (fun u H => TW E K F u H)) 0 0 (xA E) := by
  refine x_enter (by decide) (Nat.le_of_ble_eq_true rfl) ?_
  intro p e s m args below meth c Q S hr hlk hnm hQ hP ls hl
  obtain ⟨hz, hK, hT⟩ := hP
  obtain ⟨hx, hb, -, -, -⟩ := id S
  obtain ⟨H, hT, hS, hgo⟩ : ∃ H : Heap, TW E K F G H ∧ va_S (xA E) s.heap H [] ∧ H = s.heap := ⟨_, hT, va_S.rf, rfl⟩
  rw [← hgo]
  have hl : lv_has ls 3 [(0, .ref a), (1, .int p0), (2, .int p1)] := hl
  obtain ⟨hk9999, hj9999⟩ := fkX11_15 hT ha
  obtain ⟨hk9999a, hj9999a⟩ := fkX11_17 hT ha
  obtain ⟨hk9999b, hj9999b⟩ := fkX11_18 hT ha
  obtain ⟨hk9999c, hj9999c⟩ := fkX11_11 hT ha
  obtain ⟨hk9999d, hj9999d⟩ := fkX11_13 hT ha
  obtain ⟨hk9999e, hj9999e⟩ := fkX11_10 hT ha
  obtain ⟨hk9999f, hj9999f⟩ := fkX11_1 hT ha
  obtain ⟨hk9999g, hj9999g⟩ := fkX11_2 hT ha
  refine lv_aload_n hx hb dX11_told_0 rfl (lv_at hl 0 rfl) ?_
  refine lv_iconst (v := 0) hx hb dX11_told_1 (by decide) ?_
  refine pX11_0 (v := 0) S hK hT hS ha kf_X11_134 dX11_told_2 (fun H locs hT hS => ?_)
  obtain ⟨G2, hG2⟩ : ∃ GG : XG, GG = dput G a 0 0 := ⟨_, rfl⟩
  rw [← hG2] at hT
  refine lv_aload_n hx hb dX11_told_5 rfl (lv_at hl 0 rfl) ?_
  refine lv_iload_n hx hb dX11_told_6 rfl (lv_at hl 1 rfl) ?_
  refine x_clp (x_runV (b := a) (As := [.int p0]) (rest := []) S (c_X11_isRule l E K F G2 H a p0 ha) mv_X11_isRule km_X11_162 rfl rfl ⟨Nat.le_of_ble_eq_true rfl, Nat.le_of_ble_eq_true rfl⟩ (rc_13 hK hT ha) hK (fun _ => XPh.blind) (fun U hU hW => XPh.at hK hz hS hT hU hW) rfl hl.1 (Nat.le_of_ble_eq_true rfl) dX11_told_7 ⟨Nat.le_of_ble_eq_true rfl, Nat.le_of_ble_eq_true rfl⟩) hS ?_
  rintro _ _ locs ⟨x7, rfl, b7, t7⟩ hS
  have t7 : (x7.toInt = 1 ∧ 0 ≤ p0.toInt ∧ p0.toInt ≤ 11 ∧ (aI (G.2.1 (F a 10)) (10 * p0.toInt + 0)) ≠ -1) ∨ (x7.toInt = 0 ∧ (¬ (0 ≤ p0.toInt ∧ p0.toInt ≤ 11) ∨ (aI (G.2.1 (F a 10)) (10 * p0.toInt + 0)) = -1)) := by rw [(show G2.2.1 (F a 10) = G.2.1 (F a 10) from (ld_c hG2))] at t7; exact t7
  refine xi_zeq (tgt := 25) hx hb (rfl : Int32.toInt x7 = x7.toInt) dX11_told_10 (by decide) (fun c10 => ?_) (fun c10 => ?_)
  · refine lv_ldc (v := (-2147483648)) hx hb S.2.2.2.1 (S.2.2.2.2 _ (List.mem_cons_of_mem _ kc_X11_57)) dX11_told_25 ?_
    refine lv_goto (tgt := 50) hx hb dX11_told_27 (by decide) ?_
    exact x_ri hx hb hr hlk hQ (Nat.le_of_ble_eq_true rfl) (Nat.le_of_ble_eq_true rfl) hS dX11_told_50 G2 ⟨_, rfl, (by rw [hG2]; exact XFr.dput XFr.rf (List.mem_of_getElem? (i := 0) rfl)), (by rw [((by decide) : Int32.toInt (-2147483648) = (-2147483648 : Int))] <;> exact (v_X11_told_50_1 (K := K) (F := F) a G x7 p0 p1 ha t7 c10))⟩ hT
  · refine lv_iload_n hx hb dX11_told_13 rfl (lv_at hl 2 rfl) ?_
    refine lv_i2l (v := p1.toInt64) hx hb dX11_told_14 rfl ?_
    refine lv_lconst (v := (0 : Int64)) hx hb dX11_told_15 (by decide) ?_
    refine lv_ldc2 (v := 9) hx hb S.2.2.2.1 (S.2.2.2.2 _ (List.mem_cons_of_mem _ kc_X11_385)) dX11_told_16 ?_
    refine x_clp (x_runS (As := [.long p1.toInt64, .long (0 : Int64), .long (9 : Int64)]) (rest := []) S (c_X11_in l E K F G2 H p1.toInt64 p1.toInt (0 : Int64) (0 : Int) (9 : Int64) (9 : Int) (xl_i2l (rfl : Int32.toInt p1 = p1.toInt)) (by decide) (by decide)) ms_X11_in km_X11_139 rfl rfl ⟨Nat.le_of_ble_eq_true rfl, Nat.le_of_ble_eq_true rfl⟩ hK (fun _ => XPh.blind) (fun U hU hW => XPh.at hK hz hS hT hU hW) rfl hl.1 (Nat.le_of_ble_eq_true rfl) dX11_told_19 ⟨Nat.le_of_ble_eq_true rfl, Nat.le_of_ble_eq_true rfl⟩) hS ?_
    rintro _ _ locs ⟨x19, rfl, b19, t19⟩ hS
    have t19 : (x19.toInt = 1 ∧ (0 : Int) ≤ p1.toInt ∧ p1.toInt ≤ (9 : Int)) ∨ (x19.toInt = 0 ∧ (p1.toInt < (0 : Int) ∨ (9 : Int) < p1.toInt)) := t19
    refine xi_zne (tgt := 30) hx hb (rfl : Int32.toInt x19 = x19.toInt) dX11_told_22 (by decide) (fun c22 => ?_) (fun c22 => ?_)
    · refine lv_iload_n hx hb dX11_told_30 rfl (lv_at hl 2 rfl) ?_
      refine lv_bipush (v := 9) hx hb dX11_told_31 (by decide) ?_
      refine xi_cne (tgt := 44) hx hb (rfl : Int32.toInt p1 = p1.toInt) ((by decide) : Int32.toInt 9 = (9 : Int)) dX11_told_33 (by decide) (fun c33 => ?_) (fun c33 => ?_)
      · refine lv_aload_n hx hb dX11_told_44 rfl (lv_at hl 0 rfl) ?_
        refine lv_iload_n hx hb dX11_told_45 rfl (lv_at hl 1 rfl) ?_
        refine lv_iload_n hx hb dX11_told_46 rfl (lv_at hl 2 rfl) ?_
        refine x_clp (x_runV (b := a) (As := [.int p0, .int p1]) (rest := []) S (c_X11_of l E K F G2 H a p0 p1 ha (z_X11_told_1 p0.toInt x7.toInt (aI (G.2.1 (F a 10)) (10 * p0.toInt + 0)) t7 c10) (z_X11_told_2 p1.toInt x19.toInt t19 c22)) mv_X11_of km_X11_165 rfl rfl ⟨Nat.le_of_ble_eq_true rfl, Nat.le_of_ble_eq_true rfl⟩ (rc_13 hK hT ha) hK (fun _ => XPh.blind) (fun U hU hW => XPh.at hK hz hS hT hU hW) rfl hl.1 (Nat.le_of_ble_eq_true rfl) dX11_told_47 ⟨Nat.le_of_ble_eq_true rfl, Nat.le_of_ble_eq_true rfl⟩) hS ?_
        rintro _ _ locs ⟨x47, rfl, t47⟩ hS
        have t47 : x47.toInt = (aI (G.2.1 (F a 10)) (10 * p0.toInt + p1.toInt)) := by rw [(show G2.2.1 (F a 10) = G.2.1 (F a 10) from (ld_c hG2))] at t47; exact t47
        exact x_ri hx hb hr hlk hQ (Nat.le_of_ble_eq_true rfl) (Nat.le_of_ble_eq_true rfl) hS dX11_told_50 G2 ⟨_, rfl, (by rw [hG2]; exact XFr.dput XFr.rf (List.mem_of_getElem? (i := 0) rfl)), (by rw [(t47 : Int32.toInt x47 = (aI (G.2.1 (F a 10)) (10 * p0.toInt + p1.toInt)))] <;> exact (v_X11_told_50_2 (K := K) (F := F) a G p0 p1 x7 x19 ha t7 c10 t19 c22 c33))⟩ hT
      · refine lv_aload_n hx hb dX11_told_36 rfl (lv_at hl 0 rfl) ?_
        refine lv_iload_n hx hb dX11_told_37 rfl (lv_at hl 1 rfl) ?_
        refine x_cl0 (x_runV (b := a) (As := [.int p0]) (rest := []) S (c_X11_inQueue l E K F G2 a p0 ha (v_X11_told_38_3 (F := F) a G2 G hR (ld_c hG2)) (v_X11_told_38_4 (F := F) a G2 G hM hB (ld_c hG2)) (v_X11_told_38_5 (F := F) a G2 G hM hB (ld_c hG2))) mv_X11_inQueue km_X11_306 rfl rfl ⟨Nat.le_of_ble_eq_true rfl, Nat.le_of_ble_eq_true rfl⟩ (rc_13 hK hT ha) hK (fun _ => XP.blind) (fun U hU hW => XP.at hK hz hS hT hU hW) rfl hl.1 (Nat.le_of_ble_eq_true rfl) dX11_told_38 ⟨Nat.le_of_ble_eq_true rfl, Nat.le_of_ble_eq_true rfl⟩) hS ?_
        rintro _ G38 H locs ⟨x38, rfl, hF38, t38, oq38, oq38a⟩ hT hS
        have t38 : 0 ≤ x38.toInt ∧ x38.toInt ≤ 2388 ∧ 0 ≤ ((G38.1 a 19).toInt) ∧ ((G38.1 a 19).toInt) ≤ 2388 := t38
        have oq38 : pL G38 F a = if ((G.1 a 6).toInt) = 0 then [] else fuO (G.2.1 (F a 10)) (mw (G.2.1 (F a 1)) 0) (mw (G.2.1 (F a 2)) 0) 1 := by simp only [(show G2.1 a 6 = G.1 a 6 from (ld_j hG2 (by decide))), (show G2.2.1 (F a 10) = G.2.1 (F a 10) from (ld_c hG2)), (show G2.2.1 (F a 1) = G.2.1 (F a 1) from (ld_c hG2)), (show G2.2.1 (F a 2) = G.2.1 (F a 2) from (ld_c hG2))] at oq38; exact oq38
        refine lv_goto (tgt := 50) hx hb dX11_told_41 (by decide) ?_
        exact x_ri hx hb hr hlk hQ (Nat.le_of_ble_eq_true rfl) (Nat.le_of_ble_eq_true rfl) hS dX11_told_50 G38 ⟨_, rfl, (XFr.call (by rw [hG2]; exact XFr.dput XFr.rf (List.mem_of_getElem? (i := 0) rfl)) hF38 (xm1 1 rfl (xm1 2 rfl xm0)) (xm1 0 rfl (xm1 1 rfl (xm1 2 rfl (xm1 3 rfl (xm1 4 rfl xm0))))) xm0), (v_X11_told_50_6 (K := K) (F := F) a G G38 x38 p0 x7 x19 p1 ha oq38 oq38a t7 c10 t19 c22 c33 t38)⟩ hT
    · refine lv_ldc (v := (-2147483648)) hx hb S.2.2.2.1 (S.2.2.2.2 _ (List.mem_cons_of_mem _ kc_X11_57)) dX11_told_25 ?_
      refine lv_goto (tgt := 50) hx hb dX11_told_27 (by decide) ?_
      exact x_ri hx hb hr hlk hQ (Nat.le_of_ble_eq_true rfl) (Nat.le_of_ble_eq_true rfl) hS dX11_told_50 G2 ⟨_, rfl, (by rw [hG2]; exact XFr.dput XFr.rf (List.mem_of_getElem? (i := 0) rfl)), (by rw [((by decide) : Int32.toInt (-2147483648) = (-2147483648 : Int))] <;> exact (v_X11_told_50_7 (K := K) (F := F) a G x7 p0 x19 p1 ha t7 c10 t19 c22))⟩ hT

theorem z_X11_question_4 (a0 : Int) (a1 : Int) (a2 : Int) (h0 : (a1 = 1 ∧ 0 ≤ a0 ∧ a0 ≤ 11 ∧ a2 ≠ -1) ∨ (a1 = 0 ∧ (¬ (0 ≤ a0 ∧ a0 ≤ 11) ∨ a2 = -1))) (h1 : ¬ (a1 = 0)) : a2 ≠ -1 := by omega
theorem z_X11_question_5 (a0 : Int) (a1 : Int) (a2 : Int) (a3 : Int) (h0 : (a1 = 1 ∧ a2 ≤ a0 ∧ a0 ≤ a3) ∨ (a1 = 0 ∧ (a0 < a2 ∨ a3 < a0))) (h1 : ¬ (a1 = 0)) : a2 ≤ a0 ∧ a0 ≤ a3 := by omega
abbrev rm_X11_question : Room := { frames := 4, cells := 0, slots := 0, locals := 104 }
set_option maxHeartbeats 4000000 in
set_option maxRecDepth 100000 in
theorem c_X11_question (l : Launch) (E : XE) (K : Nat → Nat) (F : Nat → Nat → Nat) (G : XG) (a : Nat) (p0 : Int32) (p1 : Int32) (p2 : Int32) (ha : K a = 13) (hR : RV (G.2.1 (F a 10))) (hM : RM (G.2.1 (F a 1)) (0)) : Met l yX11_question (xw yX11_question cX11_question 4 (some .int)) rm_X11_question (va_Pc [.ref a, .int p0, .int p1, .int p2] (XP E K F G)) (XQ E (fun v (u : XG) => ∃ r : Int32, v = .int r ∧ XFr [(a, 0)] [] [] G u ∧ ((¬ (0 ≤ p0.toInt ∧ p0.toInt ≤ 11 ∧ aI (G.2.1 (F a 10)) (10 * p0.toInt + 0) ≠ -1) ∧ r.toInt = -2147483648) ∨ ((0 ≤ p0.toInt ∧ p0.toInt ≤ 11 ∧ aI (G.2.1 (F a 10)) (10 * p0.toInt + 0) ≠ -1) ∧ r.toInt = quS (mw (G.2.1 (F a 1)) 0) (aI (G.2.1 (F a 10)) (10 * p0.toInt + 0)) (aI (G.2.1 (F a 10)) (10 * p0.toInt + 1)) (aI (G.2.1 (F a 10)) (10 * p0.toInt + 2)) (aI (G.2.1 (F a 10)) (10 * p0.toInt + 3)) (aI (G.2.1 (F a 10)) (10 * p0.toInt + 4)) (aI (G.2.1 (F a 10)) (10 * p0.toInt + 5)) p1.toInt p2.toInt))) (fun u H => TW E K F u H)) 0 0 (xA E) := by
  refine x_enter (by decide) (Nat.le_of_ble_eq_true rfl) ?_
  intro p e s m args below meth c Q S hr hlk hnm hQ hP ls hl
  obtain ⟨hz, hK, hT⟩ := hP
  obtain ⟨hx, hb, -, -, -⟩ := id S
  obtain ⟨H, hT, hS, hgo⟩ : ∃ H : Heap, TW E K F G H ∧ va_S (xA E) s.heap H [] ∧ H = s.heap := ⟨_, hT, va_S.rf, rfl⟩
  rw [← hgo]
  have hl : lv_has ls 4 [(0, .ref a), (1, .int p0), (2, .int p1), (3, .int p2)] := hl
  obtain ⟨hk9999, hj9999⟩ := fkX11_10 hT ha
  obtain ⟨hk9999a, hj9999a⟩ := fkX11_1 hT ha
  refine lv_aload_n hx hb dX11_question_0 rfl (lv_at hl 0 rfl) ?_
  refine lv_iconst (v := 0) hx hb dX11_question_1 (by decide) ?_
  refine pX11_0 (v := 0) S hK hT hS ha kf_X11_134 dX11_question_2 (fun H locs hT hS => ?_)
  obtain ⟨G2, hG2⟩ : ∃ GG : XG, GG = dput G a 0 0 := ⟨_, rfl⟩
  rw [← hG2] at hT
  refine lv_aload_n hx hb dX11_question_5 rfl (lv_at hl 0 rfl) ?_
  refine lv_iload_n hx hb dX11_question_6 rfl (lv_at hl 1 rfl) ?_
  refine x_clp (x_runV (b := a) (As := [.int p0]) (rest := []) S (c_X11_isRule l E K F G2 H a p0 ha) mv_X11_isRule km_X11_162 rfl rfl ⟨Nat.le_of_ble_eq_true rfl, Nat.le_of_ble_eq_true rfl⟩ (rc_13 hK hT ha) hK (fun _ => XPh.blind) (fun U hU hW => XPh.at hK hz hS hT hU hW) rfl hl.1 (Nat.le_of_ble_eq_true rfl) dX11_question_7 ⟨Nat.le_of_ble_eq_true rfl, Nat.le_of_ble_eq_true rfl⟩) hS ?_
  rintro _ _ locs ⟨x7, rfl, b7, t7⟩ hS
  have t7 : (x7.toInt = 1 ∧ 0 ≤ p0.toInt ∧ p0.toInt ≤ 11 ∧ (aI (G.2.1 (F a 10)) (10 * p0.toInt + 0)) ≠ -1) ∨ (x7.toInt = 0 ∧ (¬ (0 ≤ p0.toInt ∧ p0.toInt ≤ 11) ∨ (aI (G.2.1 (F a 10)) (10 * p0.toInt + 0)) = -1)) := by rw [(show G2.2.1 (F a 10) = G.2.1 (F a 10) from (ld_c hG2))] at t7; exact t7
  refine xi_zeq (tgt := 43) hx hb (rfl : Int32.toInt x7 = x7.toInt) dX11_question_10 (by decide) (fun c10 => ?_) (fun c10 => ?_)
  · refine lv_ldc (v := (-2147483648)) hx hb S.2.2.2.1 (S.2.2.2.2 _ (List.mem_cons_of_mem _ kc_X11_57)) dX11_question_43 ?_
    exact x_ri hx hb hr hlk hQ (Nat.le_of_ble_eq_true rfl) (Nat.le_of_ble_eq_true rfl) hS dX11_question_45 G2 ⟨_, rfl, (by rw [hG2]; exact XFr.dput XFr.rf (List.mem_of_getElem? (i := 0) rfl)), (by rw [((by decide) : Int32.toInt (-2147483648) = (-2147483648 : Int))] <;> exact (v_X11_question_45_1 (K := K) (F := F) a G x7 p0 p1 p2 ha t7 c10))⟩ hT
  · refine lv_iload_n hx hb dX11_question_13 rfl (lv_at hl 2 rfl) ?_
    refine lv_i2l (v := p1.toInt64) hx hb dX11_question_14 rfl ?_
    refine lv_aload_n hx hb dX11_question_15 rfl (lv_at hl 0 rfl) ?_
    refine lv_iload_n hx hb dX11_question_16 rfl (lv_at hl 1 rfl) ?_
    refine x_clp (x_runV (b := a) (As := [.int p0]) (rest := [.long p1.toInt64]) S (c_X11_firstSubject l E K F G2 H a p0 ha (z_X11_told_1 p0.toInt x7.toInt (aI (G.2.1 (F a 10)) (10 * p0.toInt + 0)) t7 c10)) mv_X11_firstSubject km_X11_179 rfl rfl ⟨Nat.le_of_ble_eq_true rfl, Nat.le_of_ble_eq_true rfl⟩ (rc_13 hK hT ha) hK (fun _ => XPh.blind) (fun U hU hW => XPh.at hK hz hS hT hU hW) rfl hl.1 (Nat.le_of_ble_eq_true rfl) dX11_question_17 ⟨Nat.le_of_ble_eq_true rfl, Nat.le_of_ble_eq_true rfl⟩) hS ?_
    rintro _ _ locs ⟨x17, rfl, t17⟩ hS
    have t17 : x17.toInt = (sF (aI (G.2.1 (F a 10)) (10 * p0.toInt + 0))) := by rw [(show G2.2.1 (F a 10) = G.2.1 (F a 10) from (ld_c hG2))] at t17; exact t17
    refine lv_i2l (v := x17.toInt64) hx hb dX11_question_20 rfl ?_
    refine lv_aload_n hx hb dX11_question_21 rfl (lv_at hl 0 rfl) ?_
    refine lv_iload_n hx hb dX11_question_22 rfl (lv_at hl 1 rfl) ?_
    refine x_clp (x_runV (b := a) (As := [.int p0]) (rest := [.long x17.toInt64, .long p1.toInt64]) S (c_X11_lastSubject l E K F G2 H a p0 ha (z_X11_told_1 p0.toInt x7.toInt (aI (G.2.1 (F a 10)) (10 * p0.toInt + 0)) t7 c10)) mv_X11_lastSubject km_X11_183 rfl rfl ⟨Nat.le_of_ble_eq_true rfl, Nat.le_of_ble_eq_true rfl⟩ (rc_13 hK hT ha) hK (fun _ => XPh.blind) (fun U hU hW => XPh.at hK hz hS hT hU hW) rfl hl.1 (Nat.le_of_ble_eq_true rfl) dX11_question_23 ⟨Nat.le_of_ble_eq_true rfl, Nat.le_of_ble_eq_true rfl⟩) hS ?_
    rintro _ _ locs ⟨x23, rfl, t23⟩ hS
    have t23 : x23.toInt = (sL (aI (G.2.1 (F a 10)) (10 * p0.toInt + 0))) := by rw [(show G2.2.1 (F a 10) = G.2.1 (F a 10) from (ld_c hG2))] at t23; exact t23
    refine lv_i2l (v := x23.toInt64) hx hb dX11_question_26 rfl ?_
    refine x_clp (x_runS (As := [.long p1.toInt64, .long x17.toInt64, .long x23.toInt64]) (rest := []) S (c_X11_in l E K F G2 H p1.toInt64 p1.toInt x17.toInt64 ((sF (aI (G.2.1 (F a 10)) (10 * p0.toInt + 0)))) x23.toInt64 ((sL (aI (G.2.1 (F a 10)) (10 * p0.toInt + 0)))) (xl_i2l (rfl : Int32.toInt p1 = p1.toInt)) (xl_i2l (t17 : Int32.toInt x17 = (sF (aI (G.2.1 (F a 10)) (10 * p0.toInt + 0))))) (xl_i2l (t23 : Int32.toInt x23 = (sL (aI (G.2.1 (F a 10)) (10 * p0.toInt + 0)))))) ms_X11_in km_X11_139 rfl rfl ⟨Nat.le_of_ble_eq_true rfl, Nat.le_of_ble_eq_true rfl⟩ hK (fun _ => XPh.blind) (fun U hU hW => XPh.at hK hz hS hT hU hW) rfl hl.1 (Nat.le_of_ble_eq_true rfl) dX11_question_27 ⟨Nat.le_of_ble_eq_true rfl, Nat.le_of_ble_eq_true rfl⟩) hS ?_
    rintro _ _ locs ⟨x27, rfl, b27, t27⟩ hS
    have t27 : (x27.toInt = 1 ∧ (sF (aI (G.2.1 (F a 10)) (10 * p0.toInt + 0))) ≤ p1.toInt ∧ p1.toInt ≤ (sL (aI (G.2.1 (F a 10)) (10 * p0.toInt + 0)))) ∨ (x27.toInt = 0 ∧ (p1.toInt < (sF (aI (G.2.1 (F a 10)) (10 * p0.toInt + 0))) ∨ (sL (aI (G.2.1 (F a 10)) (10 * p0.toInt + 0))) < p1.toInt)) := t27
    refine xi_zeq (tgt := 43) hx hb (rfl : Int32.toInt x27 = x27.toInt) dX11_question_30 (by decide) (fun c30 => ?_) (fun c30 => ?_)
    · refine lv_ldc (v := (-2147483648)) hx hb S.2.2.2.1 (S.2.2.2.2 _ (List.mem_cons_of_mem _ kc_X11_57)) dX11_question_43 ?_
      exact x_ri hx hb hr hlk hQ (Nat.le_of_ble_eq_true rfl) (Nat.le_of_ble_eq_true rfl) hS dX11_question_45 G2 ⟨_, rfl, (by rw [hG2]; exact XFr.dput XFr.rf (List.mem_of_getElem? (i := 0) rfl)), (by rw [((by decide) : Int32.toInt (-2147483648) = (-2147483648 : Int))] <;> exact (v_X11_question_45_2 (K := K) (F := F) a G p0 x7 x27 p1 p2 ha t7 c10 t27 c30))⟩ hT
    · refine lv_iload_n hx hb dX11_question_33 rfl (lv_at hl 3 rfl) ?_
      refine lv_i2l (v := p2.toInt64) hx hb dX11_question_34 rfl ?_
      refine lv_lconst (v := (0 : Int64)) hx hb dX11_question_35 (by decide) ?_
      refine lv_lconst (v := (1 : Int64)) hx hb dX11_question_36 (by decide) ?_
      refine x_clp (x_runS (As := [.long p2.toInt64, .long (0 : Int64), .long (1 : Int64)]) (rest := []) S (c_X11_in l E K F G2 H p2.toInt64 p2.toInt (0 : Int64) (0 : Int) (1 : Int64) (1 : Int) (xl_i2l (rfl : Int32.toInt p2 = p2.toInt)) (by decide) (by decide)) ms_X11_in km_X11_139 rfl rfl ⟨Nat.le_of_ble_eq_true rfl, Nat.le_of_ble_eq_true rfl⟩ hK (fun _ => XPh.blind) (fun U hU hW => XPh.at hK hz hS hT hU hW) rfl hl.1 (Nat.le_of_ble_eq_true rfl) dX11_question_37 ⟨Nat.le_of_ble_eq_true rfl, Nat.le_of_ble_eq_true rfl⟩) hS ?_
      rintro _ _ locs ⟨x37, rfl, b37, t37⟩ hS
      have t37 : (x37.toInt = 1 ∧ (0 : Int) ≤ p2.toInt ∧ p2.toInt ≤ (1 : Int)) ∨ (x37.toInt = 0 ∧ (p2.toInt < (0 : Int) ∨ (1 : Int) < p2.toInt)) := t37
      refine xi_zne (tgt := 46) hx hb (rfl : Int32.toInt x37 = x37.toInt) dX11_question_40 (by decide) (fun c40 => ?_) (fun c40 => ?_)
      · refine lv_iload_n hx hb dX11_question_46 rfl (lv_at hl 3 rfl) ?_
        refine xi_zne (tgt := 64) hx hb (rfl : Int32.toInt p2 = p2.toInt) dX11_question_47 (by decide) (fun c47 => ?_) (fun c47 => ?_)
        · refine lv_aload_n hx hb dX11_question_64 rfl (lv_at hl 0 rfl) ?_
          refine lv_iload_n hx hb dX11_question_65 rfl (lv_at hl 1 rfl) ?_
          refine lv_iload_n hx hb dX11_question_66 rfl (lv_at hl 2 rfl) ?_
          refine lv_aload_n hx hb dX11_question_67 rfl (lv_at hl 0 rfl) ?_
          refine gX11_1 S hK hT ha kf_X11_9 dX11_question_68 (fun _ _ => ?_)
          refine lv_iconst (v := 0) hx hb dX11_question_71 (by decide) ?_
          refine x_clp (x_runV (b := a) (As := [.int p0, .int p1, .ref (F a 1), .int 0]) (rest := []) S (c_X11_fails l E K F G2 H a p0 p1 (F a 1) 0 ha (XO.a hk9999a (by decide)) (z_X11_told_1 p0.toInt x7.toInt (aI (G.2.1 (F a 10)) (10 * p0.toInt + 0)) t7 c10) (by rw [(show G2.2.1 (F a 10) = G.2.1 (F a 10) from (ld_c hG2))] <;> exact (z_X11_question_4 p0.toInt x7.toInt (aI (G.2.1 (F a 10)) (10 * p0.toInt + 0)) t7 c10)) (by rw [(show G2.2.1 (F a 10) = G.2.1 (F a 10) from (ld_c hG2))] <;> exact (z_X11_question_5 p1.toInt x27.toInt (sF (aI (G.2.1 (F a 10)) (10 * p0.toInt + 0))) (sL (aI (G.2.1 (F a 10)) (10 * p0.toInt + 0))) t27 c30)) (v_X11_question_72_3 (F := F) a G2 G hR (ld_c hG2)) (v_X11_question_72_4 (F := F) a G2 G hM (ld_c hG2))) mv_X11_fails km_X11_221 rfl rfl ⟨Nat.le_of_ble_eq_true rfl, Nat.le_of_ble_eq_true rfl⟩ (rc_13 hK hT ha) hK (fun _ => XPh.blind) (fun U hU hW => XPh.at hK hz hS hT hU hW) rfl hl.1 (Nat.le_of_ble_eq_true rfl) dX11_question_72 ⟨Nat.le_of_ble_eq_true rfl, Nat.le_of_ble_eq_true rfl⟩) hS ?_
          rintro _ _ locs ⟨x72, rfl, b72, t72⟩ hS
          have t72 : x72.toInt = (flq (mw (G.2.1 (F a 1)) 0) (aI (G.2.1 (F a 10)) (10 * p0.toInt + 0)) (aI (G.2.1 (F a 10)) (10 * p0.toInt + 1)) (aI (G.2.1 (F a 10)) (10 * p0.toInt + 2)) (aI (G.2.1 (F a 10)) (10 * p0.toInt + 4)) (aI (G.2.1 (F a 10)) (10 * p0.toInt + 5)) (p1.toInt) (stt (mw (G.2.1 (F a 1)) 0) (aI (G.2.1 (F a 10)) (10 * p0.toInt + 0)) (aI (G.2.1 (F a 10)) (10 * p0.toInt + 1)) (aI (G.2.1 (F a 10)) (10 * p0.toInt + 2)) (aI (G.2.1 (F a 10)) (10 * p0.toInt + 3)) (p1.toInt))) := by rw [(show G2.2.1 (F a 1) = G.2.1 (F a 1) from (ld_c hG2))] at t72; rw [(show G2.2.1 (F a 10) = G.2.1 (F a 10) from (ld_c hG2))] at t72; exact t72
          refine xi_zeq (tgt := 82) hx hb (rfl : Int32.toInt x72 = x72.toInt) dX11_question_75 (by decide) (fun c75 => ?_) (fun c75 => ?_)
          · refine lv_iconst (v := 0) hx hb dX11_question_82 (by decide) ?_
            exact x_ri hx hb hr hlk hQ (Nat.le_of_ble_eq_true rfl) (Nat.le_of_ble_eq_true rfl) hS dX11_question_83 G2 ⟨_, rfl, (by rw [hG2]; exact XFr.dput XFr.rf (List.mem_of_getElem? (i := 0) rfl)), (v_X11_question_83_5 (K := K) (F := F) a G p0 x7 x27 p1 x37 p2 x72 ha t7 c10 t27 c30 t37 c40 c47 t72 (xzi b72) c75)⟩ hT
          · refine lv_iconst (v := 1) hx hb dX11_question_78 (by decide) ?_
            refine lv_goto (tgt := 83) hx hb dX11_question_79 (by decide) ?_
            exact x_ri hx hb hr hlk hQ (Nat.le_of_ble_eq_true rfl) (Nat.le_of_ble_eq_true rfl) hS dX11_question_83 G2 ⟨_, rfl, (by rw [hG2]; exact XFr.dput XFr.rf (List.mem_of_getElem? (i := 0) rfl)), (v_X11_question_83_6 (K := K) (F := F) a G p0 x7 x27 p1 x37 p2 x72 ha t7 c10 t27 c30 t37 c40 c47 t72 (xzi b72) c75)⟩ hT
        · refine lv_aload_n hx hb dX11_question_50 rfl (lv_at hl 0 rfl) ?_
          refine lv_iload_n hx hb dX11_question_51 rfl (lv_at hl 1 rfl) ?_
          refine lv_iload_n hx hb dX11_question_52 rfl (lv_at hl 2 rfl) ?_
          refine lv_aload_n hx hb dX11_question_53 rfl (lv_at hl 0 rfl) ?_
          refine gX11_1 S hK hT ha kf_X11_9 dX11_question_54 (fun _ _ => ?_)
          refine lv_iconst (v := 0) hx hb dX11_question_57 (by decide) ?_
          refine x_clp (x_runV (b := a) (As := [.int p0, .int p1, .ref (F a 1), .int 0]) (rest := []) S (c_X11_stateOf l E K F G2 H a p0 p1 (F a 1) 0 ha (XO.a hk9999a (by decide)) (z_X11_told_1 p0.toInt x7.toInt (aI (G.2.1 (F a 10)) (10 * p0.toInt + 0)) t7 c10) (by rw [(show G2.2.1 (F a 10) = G.2.1 (F a 10) from (ld_c hG2))] <;> exact (z_X11_question_4 p0.toInt x7.toInt (aI (G.2.1 (F a 10)) (10 * p0.toInt + 0)) t7 c10)) (by rw [(show G2.2.1 (F a 10) = G.2.1 (F a 10) from (ld_c hG2))] <;> exact (z_X11_question_5 p1.toInt x27.toInt (sF (aI (G.2.1 (F a 10)) (10 * p0.toInt + 0))) (sL (aI (G.2.1 (F a 10)) (10 * p0.toInt + 0))) t27 c30)) (v_X11_question_58_7 (F := F) a G2 G hR (ld_c hG2)) (v_X11_question_58_8 (F := F) a G2 G hM (ld_c hG2))) mv_X11_stateOf km_X11_189 rfl rfl ⟨Nat.le_of_ble_eq_true rfl, Nat.le_of_ble_eq_true rfl⟩ (rc_13 hK hT ha) hK (fun _ => XPh.blind) (fun U hU hW => XPh.at hK hz hS hT hU hW) rfl hl.1 (Nat.le_of_ble_eq_true rfl) dX11_question_58 ⟨Nat.le_of_ble_eq_true rfl, Nat.le_of_ble_eq_true rfl⟩) hS ?_
          rintro _ _ locs ⟨x58, rfl, t58⟩ hS
          have t58 : x58.toInt = (stt (mw (G.2.1 (F a 1)) 0) (aI (G.2.1 (F a 10)) (10 * p0.toInt + 0)) (aI (G.2.1 (F a 10)) (10 * p0.toInt + 1)) (aI (G.2.1 (F a 10)) (10 * p0.toInt + 2)) (aI (G.2.1 (F a 10)) (10 * p0.toInt + 3)) (p1.toInt)) := by rw [(show G2.2.1 (F a 1) = G.2.1 (F a 1) from (ld_c hG2))] at t58; rw [(show G2.2.1 (F a 10) = G.2.1 (F a 10) from (ld_c hG2))] at t58; exact t58
          refine lv_goto (tgt := 83) hx hb dX11_question_61 (by decide) ?_
          exact x_ri hx hb hr hlk hQ (Nat.le_of_ble_eq_true rfl) (Nat.le_of_ble_eq_true rfl) hS dX11_question_83 G2 ⟨_, rfl, (by rw [hG2]; exact XFr.dput XFr.rf (List.mem_of_getElem? (i := 0) rfl)), (by rw [(t58 : Int32.toInt x58 = (stt (mw (G.2.1 (F a 1)) 0) (aI (G.2.1 (F a 10)) (10 * p0.toInt + 0)) (aI (G.2.1 (F a 10)) (10 * p0.toInt + 1)) (aI (G.2.1 (F a 10)) (10 * p0.toInt + 2)) (aI (G.2.1 (F a 10)) (10 * p0.toInt + 3)) (p1.toInt)))] <;> exact (v_X11_question_83_9 (K := K) (F := F) a G p0 p1 x7 x27 x37 p2 ha t7 c10 t27 c30 t37 c40 c47))⟩ hT
      · refine lv_ldc (v := (-2147483648)) hx hb S.2.2.2.1 (S.2.2.2.2 _ (List.mem_cons_of_mem _ kc_X11_57)) dX11_question_43 ?_
        exact x_ri hx hb hr hlk hQ (Nat.le_of_ble_eq_true rfl) (Nat.le_of_ble_eq_true rfl) hS dX11_question_45 G2 ⟨_, rfl, (by rw [hG2]; exact XFr.dput XFr.rf (List.mem_of_getElem? (i := 0) rfl)), (by rw [((by decide) : Int32.toInt (-2147483648) = (-2147483648 : Int))] <;> exact (v_X11_question_45_10 (K := K) (F := F) a G p0 x7 x27 p1 x37 p2 ha t7 c10 t27 c30 t37 c40))⟩ hT

theorem z_X11_lateMany_1 (a0 : Int) (h0 : 0 ≤ a0 ∧ a0 ≤ 12) : ¬ (2147483648 - a0 < ((0 : Nat) : Int)) := by omega
theorem z_X11_lateMany_2 (a0 : Int) (a1 : Int) (h0 : 0 ≤ a0 ∧ a0 ≤ 12) (h1 : a1 = (a0 + 1) ∨ (a0 + 1) < -2147483648 ∨ 2147483648 ≤ (a0 + 1)) : a1 = (a0 + 1) := by omega
theorem z_X11_lateMany_3 (a0 : Int) (h0 : 0 ≤ a0 ∧ a0 ≤ 12) (h1 : ¬ ((12 : Int) ≤ a0)) : 0 ≤ (a0 + 1) ∧ (a0 + 1) ≤ 12 := by omega
theorem z_X11_lateMany_4 (a0 : Int) (h0 : 0 ≤ a0 ∧ a0 ≤ 12) : (0 : Int) ≤ (a0 + 1) := by omega
theorem z_X11_lateMany_5 (a0 : Int) (a1 : Nat) (h0 : 2147483648 - a0 < ((a1 + 1 : Nat) : Int)) : 2147483648 - (a0 + 1) < ((a1 : Nat) : Int) := by omega
theorem z_X11_lateMany_6 (a0 : Int) (h0 : 0 ≤ a0 ∧ a0 ≤ 12) (h1 : ¬ ((12 : Int) ≤ a0)) : 0 ≤ a0 ∧ a0 ≤ 11 := by omega
abbrev rm_X11_lateMany : Room := { frames := 2, cells := 0, slots := 0, locals := 46 }
set_option maxHeartbeats 4000000 in
set_option maxRecDepth 100000 in
theorem c_X11_lateMany (l : Launch) (E : XE) (K : Nat → Nat) (F : Nat → Nat → Nat) (G : XG) (h0 : Heap) (a : Nat) (ha : K a = 13) : Met l yX11_lateMany (xw yX11_lateMany cX11_lateMany 3 (some .int)) rm_X11_lateMany (va_Pc [.ref a] (XPh E K F G h0)) (XQ E (fun v (u : Unit) => ∃ r : Int32, v = .int r) (fun _ H => H = h0)) 0 0 (xA E) := by
  refine x_enter (by decide) (Nat.le_of_ble_eq_true rfl) ?_
  intro p e s m args below meth c Q S hr hlk hnm hQ hP ls hl
  obtain ⟨⟨hz, hK, hT⟩, hh⟩ := hP
  obtain ⟨hx, hb, -, -, -⟩ := id S
  have hS : va_S (xA E) s.heap s.heap [] := va_S.rf
  have hl : lv_has ls 3 [(0, .ref a)] := hl
  refine lv_iconst (v := 0) hx hb dX11_lateMany_0 (by decide) ?_
  refine lv_istore_n (lv' := [(1, .int 0), (0, .ref a)]) hx hb dX11_lateMany_1 rfl hl (by decide) rfl (fun ls hl => ?_)
  refine lv_iconst (v := 0) hx hb dX11_lateMany_2 (by decide) ?_
  refine lv_istore_n (lv' := [(2, .int 0), (1, .int 0), (0, .ref a)]) hx hb dX11_lateMany_3 rfl hl (by decide) rfl (fun ls hl => ?_)
  have L4 : ∀ (N4 : Nat) (l1_4 : Int32) (l2_4 : Int32) (locs : List Loc) (ls : Array Slot), 0 ≤ l2_4.toInt ∧ l2_4.toInt ≤ 12 → (0 : Int) ≤ l2_4.toInt → 2147483648 - l2_4.toInt < ((N4 : Nat) : Int) → TW E K F G s.heap → va_S (xA E) s.heap s.heap locs → lv_has ls 3 [(0, .ref a), (1, .int l1_4), (2, .int l2_4)] → W p l e rm_X11_lateMany s m args below meth c s.heap locs 0 0 Q (F0 m 4 ls []) := by
    intro N4
    induction N4 with
    | zero =>
      intro l1_4 l2_4 locs ls I4_0 I4_1 hm4
      exact absurd hm4 (z_X11_lateMany_1 l2_4.toInt I4_0)
    | succ N4 ih4 =>
      intro l1_4 l2_4 locs ls I4_0 I4_1 hm4 hT hS hl
      refine lv_iload_n hx hb dX11_lateMany_4 rfl (lv_at hl 2 rfl) ?_
      refine lv_bipush (v := 12) hx hb dX11_lateMany_5 (by decide) ?_
      refine xi_cge (tgt := 38) hx hb (rfl : Int32.toInt l2_4 = l2_4.toInt) ((by decide) : Int32.toInt 12 = (12 : Int)) dX11_lateMany_7 (by decide) (fun c7 => ?_) (fun c7 => ?_)
      · refine lv_iload_n hx hb dX11_lateMany_38 rfl (lv_at hl 1 rfl) ?_
        exact x_ri hx hb hr hlk hQ (Nat.le_of_ble_eq_true rfl) (Nat.le_of_ble_eq_true rfl) hS dX11_lateMany_39 () ⟨_, rfl⟩ hh
      · refine lv_iload_n hx hb dX11_lateMany_10 rfl (lv_at hl 1 rfl) ?_
        refine lv_aload_n hx hb dX11_lateMany_11 rfl (lv_at hl 0 rfl) ?_
        refine lv_iload_n hx hb dX11_lateMany_12 rfl (lv_at hl 2 rfl) ?_
        refine x_clp (x_runV (b := a) (As := [.int l2_4]) (rest := [.int l1_4]) S (c_X11_isRule l E K F G s.heap a l2_4 ha) mv_X11_isRule km_X11_162 rfl rfl ⟨Nat.le_of_ble_eq_true rfl, Nat.le_of_ble_eq_true rfl⟩ (rc_13 hK hT ha) hK (fun _ => XPh.blind) (fun U hU hW => XPh.at hK hz hS hT hU hW) rfl hl.1 (Nat.le_of_ble_eq_true rfl) dX11_lateMany_13 ⟨Nat.le_of_ble_eq_true rfl, Nat.le_of_ble_eq_true rfl⟩) hS ?_
        rintro _ _ locs ⟨x13, rfl, b13, t13⟩ hS
        obtain ⟨hk13, hj13⟩ := fkX11_10 hT ha
        have t13 : (x13.toInt = 1 ∧ 0 ≤ l2_4.toInt ∧ l2_4.toInt ≤ 11 ∧ (aI (G.2.1 (F a 10)) (10 * l2_4.toInt + 0)) ≠ -1) ∨ (x13.toInt = 0 ∧ (¬ (0 ≤ l2_4.toInt ∧ l2_4.toInt ≤ 11) ∨ (aI (G.2.1 (F a 10)) (10 * l2_4.toInt + 0)) = -1)) := t13
        have J30 : ∀ (k_30 : Int32) (locs : List Loc) (ls : Array Slot), TW E K F G s.heap → va_S (xA E) s.heap s.heap locs → lv_has ls 3 [(0, .ref a), (2, .int l2_4)] → W p l e rm_X11_lateMany s m args below meth c s.heap locs 0 0 Q (F0 m 30 ls [.int k_30, .int l1_4]) := by
          intro k_30 locs ls hT hS hl
          refine xi_iadd hx hb (rfl : Int32.toInt l1_4 = l1_4.toInt) (rfl : Int32.toInt k_30 = k_30.toInt) dX11_lateMany_30 (fun x30 t30 => ?_)
          refine lv_istore_n (lv' := [(1, .int x30), (0, .ref a), (2, .int l2_4)]) hx hb dX11_lateMany_31 rfl hl (by decide) rfl (fun ls hl => ?_)
          refine xi_iinc (n := 1) (lv' := fun z9 => [(2, .int z9), (1, .int x30), (0, .ref a)]) (k := 2) hx hb (rfl : Int32.toInt l2_4 = l2_4.toInt) (by decide) dX11_lateMany_32 hl rfl (by decide) (fun _ => rfl) (fun x32 ls t32 hl => ?_)
          have e32 : x32.toInt = (l2_4.toInt + 1) := (z_X11_lateMany_2 l2_4.toInt x32.toInt I4_0 t32)
          have hl : lv_has ls 3 [(2, .int x32), (1, .int x30), (0, .ref a)] := hl
          refine lv_goto (tgt := 4) hx hb dX11_lateMany_35 (by decide) ?_
          exact ih4 x30 x32 _ _ (by rw [(e32 : Int32.toInt x32 = (l2_4.toInt + 1))] <;> exact (z_X11_lateMany_3 l2_4.toInt I4_0 c7)) (by rw [(e32 : Int32.toInt x32 = (l2_4.toInt + 1))] <;> exact (z_X11_lateMany_4 l2_4.toInt I4_0)) (by rw [(e32 : Int32.toInt x32 = (l2_4.toInt + 1))] <;> exact (z_X11_lateMany_5 l2_4.toInt N4 hm4)) hT hS (lv_sub hl [2, 1, 0] rfl)
        refine xi_zeq (tgt := 29) hx hb (rfl : Int32.toInt x13 = x13.toInt) dX11_lateMany_16 (by decide) (fun c16 => ?_) (fun c16 => ?_)
        · refine lv_iconst (v := 0) hx hb dX11_lateMany_29 (by decide) ?_
          exact J30 0 _ _ hT hS (lv_sub hl [0, 2] rfl)
        · refine lv_aload_n hx hb dX11_lateMany_19 rfl (lv_at hl 0 rfl) ?_
          refine lv_iload_n hx hb dX11_lateMany_20 rfl (lv_at hl 2 rfl) ?_
          refine lv_bipush (v := 6) hx hb dX11_lateMany_21 (by decide) ?_
          refine x_clp (x_runV (b := a) (As := [.int l2_4, .int 6]) (rest := [.int l1_4]) S (c_X11_of l E K F G s.heap a l2_4 6 ha (z_X11_lateMany_6 l2_4.toInt I4_0 c7) (by decide)) mv_X11_of km_X11_165 rfl rfl ⟨Nat.le_of_ble_eq_true rfl, Nat.le_of_ble_eq_true rfl⟩ (rc_13 hK hT ha) hK (fun _ => XPh.blind) (fun U hU hW => XPh.at hK hz hS hT hU hW) rfl hl.1 (Nat.le_of_ble_eq_true rfl) dX11_lateMany_23 ⟨Nat.le_of_ble_eq_true rfl, Nat.le_of_ble_eq_true rfl⟩) hS ?_
          rintro _ _ locs ⟨x23, rfl, t23⟩ hS
          obtain ⟨hk23, hj23⟩ := fkX11_10 hT ha
          have t23 : x23.toInt = (aI (G.2.1 (F a 10)) (10 * l2_4.toInt + 6)) := t23
          refine lv_goto (tgt := 30) hx hb dX11_lateMany_26 (by decide) ?_
          exact J30 x23 _ _ hT hS (lv_sub hl [0, 2] rfl)
  exact L4 4294967297 0 0 _ _ (by decide) (by decide) (by decide) hT hS (lv_sub hl [2, 1, 0] rfl)

theorem z_X11_count_1 (a0 : Int) : (a0 < 0 ∨ 9 < a0) ∨ (a0 = 0) ∨ (a0 = 1) ∨ (a0 = 2) ∨ (a0 = 3) ∨ (a0 = 4) ∨ (a0 = 5) ∨ (a0 = 6) ∨ (a0 = 7) ∨ (a0 = 8) ∨ (a0 = 9) := by omega
theorem z_X11_count_2 (a0 : Int) (a1 : Int) (a2 : Int) (h0 : a0 < 0 ∨ 9 < a0) (h1 : (a1 = 1 ∧ (4 : Int) ≤ a0 ∧ a0 ≤ (7 : Int)) ∨ (a1 = 0 ∧ (a0 < (4 : Int) ∨ (7 : Int) < a0))) (h2 : ¬ (a1 = 0)) : 0 ≤ a2 ∧ a2 < ((4 : Nat) : Int) := by omega
theorem z_X11_count_3 (a0 : Int) (a1 : Int) (h0 : a0 = 4) (h1 : a1 = a0 - (4 : Int) ∨ a0 - (4 : Int) < -2147483648 ∨ 2147483648 ≤ a0 - (4 : Int)) : 0 ≤ a1 ∧ a1 < ((4 : Nat) : Int) := by omega
theorem z_X11_count_4 (a0 : Int) (a1 : Int) (h0 : a0 = 5) (h1 : a1 = a0 - (4 : Int) ∨ a0 - (4 : Int) < -2147483648 ∨ 2147483648 ≤ a0 - (4 : Int)) : 0 ≤ a1 ∧ a1 < ((4 : Nat) : Int) := by omega
theorem z_X11_count_5 (a0 : Int) (a1 : Int) (h0 : a0 = 6) (h1 : a1 = a0 - (4 : Int) ∨ a0 - (4 : Int) < -2147483648 ∨ 2147483648 ≤ a0 - (4 : Int)) : 0 ≤ a1 ∧ a1 < ((4 : Nat) : Int) := by omega
theorem z_X11_count_6 (a0 : Int) (a1 : Int) (h0 : a0 = 7) (h1 : a1 = a0 - (4 : Int) ∨ a0 - (4 : Int) < -2147483648 ∨ 2147483648 ≤ a0 - (4 : Int)) : 0 ≤ a1 ∧ a1 < ((4 : Nat) : Int) := by omega
abbrev rm_X11_count : Room := { frames := 6, cells := 0, slots := 0, locals := 142 }
set_option maxHeartbeats 4000000 in
set_option maxRecDepth 100000 in
theorem c_X11_count (l : Launch) (E : XE) (K : Nat → Nat) (F : Nat → Nat → Nat) (G : XG) (a : Nat) (p0 : Int32) (ha : K a = 13) (hR : RV (G.2.1 (F a 10))) (hM : RM (G.2.1 (F a 1)) (0)) (hB : RM (G.2.1 (F a 2)) 0) : Met l yX11_count (xw yX11_count cX11_count 2 (some .int)) rm_X11_count (va_Pc [.ref a, .int p0] (XP E K F G)) (XQ E (fun v (u : XG) => ∃ r : Int32, v = .int r ∧ XFr [(a, 0), (a, 16), (a, 19)] [F a 15, F a 17, F a 18, F a 11, F a 13] [] G u) (fun u H => TW E K F u H)) 0 0 (xA E) := by
  refine x_enter (by decide) (Nat.le_of_ble_eq_true rfl) ?_
  intro p e s m args below meth c Q S hr hlk hnm hQ hP ls hl
  obtain ⟨hz, hK, hT⟩ := hP
  obtain ⟨hx, hb, -, -, -⟩ := id S
  obtain ⟨H, hT, hS, hgo⟩ : ∃ H : Heap, TW E K F G H ∧ va_S (xA E) s.heap H [] ∧ H = s.heap := ⟨_, hT, va_S.rf, rfl⟩
  rw [← hgo]
  have hl : lv_has ls 2 [(0, .ref a), (1, .int p0)] := hl
  obtain ⟨hk9999, hj9999⟩ := fkX11_15 hT ha
  obtain ⟨hk9999a, hj9999a⟩ := fkX11_17 hT ha
  obtain ⟨hk9999b, hj9999b⟩ := fkX11_18 hT ha
  obtain ⟨hk9999c, hj9999c⟩ := fkX11_11 hT ha
  obtain ⟨hk9999d, hj9999d⟩ := fkX11_13 hT ha
  obtain ⟨hk9999e, hj9999e⟩ := fkX11_10 hT ha
  obtain ⟨hk9999f, hj9999f⟩ := fkX11_1 hT ha
  obtain ⟨hk9999g, hj9999g⟩ := fkX11_2 hT ha
  refine lv_aload_n hx hb dX11_count_0 rfl (lv_at hl 0 rfl) ?_
  refine lv_iconst (v := 0) hx hb dX11_count_1 (by decide) ?_
  refine pX11_0 (v := 0) S hK hT hS ha kf_X11_134 dX11_count_2 (fun H locs hT hS => ?_)
  obtain ⟨G2, hG2⟩ : ∃ GG : XG, GG = dput G a 0 0 := ⟨_, rfl⟩
  rw [← hG2] at hT
  refine lv_iload_n hx hb dX11_count_5 rfl (lv_at hl 1 rfl) ?_
  rcases ((z_X11_count_1 p0.toInt) : (p0.toInt < 0 ∨ 9 < p0.toInt) ∨ (p0.toInt = 0) ∨ (p0.toInt = 1) ∨ (p0.toInt = 2) ∨ (p0.toInt = 3) ∨ (p0.toInt = 4) ∨ (p0.toInt = 5) ∨ (p0.toInt = 6) ∨ (p0.toInt = 7) ∨ (p0.toInt = 8) ∨ (p0.toInt = 9)) with c6 | c6 | c6 | c6 | c6 | c6 | c6 | c6 | c6 | c6 | c6
  · refine lv_tableOut (tgt := 98) hx hb dX11_count_6 c6 (by decide) ?_
    refine lv_iload_n hx hb dX11_count_98 rfl (lv_at hl 1 rfl) ?_
    refine lv_i2l (v := p0.toInt64) hx hb dX11_count_99 rfl ?_
    refine lv_ldc2 (v := 4) hx hb S.2.2.2.1 (S.2.2.2.2 _ (List.mem_cons_of_mem _ kc_X11_401)) dX11_count_100 ?_
    refine lv_ldc2 (v := 7) hx hb S.2.2.2.1 (S.2.2.2.2 _ (List.mem_cons_of_mem _ kc_X11_403)) dX11_count_103 ?_
    refine x_clp (x_runS (As := [.long p0.toInt64, .long (4 : Int64), .long (7 : Int64)]) (rest := []) S (c_X11_in l E K F G2 H p0.toInt64 p0.toInt (4 : Int64) (4 : Int) (7 : Int64) (7 : Int) (xl_i2l (rfl : Int32.toInt p0 = p0.toInt)) (by decide) (by decide)) ms_X11_in km_X11_139 rfl rfl ⟨Nat.le_of_ble_eq_true rfl, Nat.le_of_ble_eq_true rfl⟩ hK (fun _ => XPh.blind) (fun U hU hW => XPh.at hK hz hS hT hU hW) rfl hl.1 (Nat.le_of_ble_eq_true rfl) dX11_count_106 ⟨Nat.le_of_ble_eq_true rfl, Nat.le_of_ble_eq_true rfl⟩) hS ?_
    rintro _ _ locs ⟨x106, rfl, b106, t106⟩ hS
    have t106 : (x106.toInt = 1 ∧ (4 : Int) ≤ p0.toInt ∧ p0.toInt ≤ (7 : Int)) ∨ (x106.toInt = 0 ∧ (p0.toInt < (4 : Int) ∨ (7 : Int) < p0.toInt)) := t106
    refine xi_zeq (tgt := 123) hx hb (rfl : Int32.toInt x106 = x106.toInt) dX11_count_109 (by decide) (fun c109 => ?_) (fun c109 => ?_)
    · refine lv_iconst (v := (-1)) hx hb dX11_count_123 (by decide) ?_
      exact x_ri hx hb hr hlk hQ (Nat.le_of_ble_eq_true rfl) (Nat.le_of_ble_eq_true rfl) hS dX11_count_124 G2 ⟨_, rfl, (by rw [hG2]; exact XFr.dput XFr.rf (List.mem_of_getElem? (i := 0) rfl))⟩ hT
    · refine lv_aload_n hx hb dX11_count_112 rfl (lv_at hl 0 rfl) ?_
      obtain ⟨hk113, hj113⟩ := fkX11_9 hT ha
      refine gX11_9 S hK hT ha kf_X11_30 dX11_count_113 (fun _ _ => ?_)
      refine lv_iload_n hx hb dX11_count_116 rfl (lv_at hl 1 rfl) ?_
      refine lv_iconst (v := 4) hx hb dX11_count_117 (by decide) ?_
      refine xi_isub hx hb (rfl : Int32.toInt p0 = p0.toInt) ((by decide) : Int32.toInt 4 = (4 : Int)) dX11_count_118 (fun x118 t118 => ?_)
      refine al_0 S hK hT hk113 ar_36 (by decide) (z_X11_count_2 p0.toInt x106.toInt x118.toInt c6 t106 c109) dX11_count_119 (fun x119 hv119 o119 => ?_)
      have hv119 : x119.toInt = (aI (G.2.1 (F a 9)) (x118.toInt)) := hv119.trans (by rw [(rfl : Int32.toInt x118 = x118.toInt), ((ld_c hG2) : G2.2.1 (F a 9) = G.2.1 (F a 9))])
      refine lv_goto (tgt := 124) hx hb dX11_count_120 (by decide) ?_
      exact x_ri hx hb hr hlk hQ (Nat.le_of_ble_eq_true rfl) (Nat.le_of_ble_eq_true rfl) hS dX11_count_124 G2 ⟨_, rfl, (by rw [hG2]; exact XFr.dput XFr.rf (List.mem_of_getElem? (i := 0) rfl))⟩ hT
  · refine lv_tableIn (off := 54) (tgt := 60) hx hb dX11_count_6 (by rw [c6]; decide) (by rw [c6]; decide) (by rw [c6]; rfl) (by decide) ?_
    refine lv_aload_n hx hb dX11_count_60 rfl (lv_at hl 0 rfl) ?_
    refine x_clp (x_runV (b := a) (As := []) (rest := []) S (c_X11_ruleMany l E K F G2 H a ha) mv_X11_ruleMany km_X11_303 rfl rfl ⟨Nat.le_of_ble_eq_true rfl, Nat.le_of_ble_eq_true rfl⟩ (rc_13 hK hT ha) hK (fun _ => XPh.blind) (fun U hU hW => XPh.at hK hz hS hT hU hW) rfl hl.1 (Nat.le_of_ble_eq_true rfl) dX11_count_61 ⟨Nat.le_of_ble_eq_true rfl, Nat.le_of_ble_eq_true rfl⟩) hS ?_
    rintro _ _ locs ⟨x61, rfl, t61⟩ hS
    have t61 : x61.toInt = (nRl (G.2.1 (F a 10)) 12) := by rw [(show G2.2.1 (F a 10) = G.2.1 (F a 10) from (ld_c hG2))] at t61; exact t61
    exact x_ri hx hb hr hlk hQ (Nat.le_of_ble_eq_true rfl) (Nat.le_of_ble_eq_true rfl) hS dX11_count_64 G2 ⟨_, rfl, (by rw [hG2]; exact XFr.dput XFr.rf (List.mem_of_getElem? (i := 0) rfl))⟩ hT
  · refine lv_tableIn (off := 59) (tgt := 65) hx hb dX11_count_6 (by rw [c6]; decide) (by rw [c6]; decide) (by rw [c6]; rfl) (by decide) ?_
    refine lv_aload_n hx hb dX11_count_65 rfl (lv_at hl 0 rfl) ?_
    refine x_clp (x_runV (b := a) (As := []) (rest := []) S (c_X11_rowMany l E K F G2 H a ha (v_X11_count_66_1 (F := F) a G2 G hM hB (ld_c hG2))) mv_X11_rowMany km_X11_376 rfl rfl ⟨Nat.le_of_ble_eq_true rfl, Nat.le_of_ble_eq_true rfl⟩ (rc_13 hK hT ha) hK (fun _ => XPh.blind) (fun U hU hW => XPh.at hK hz hS hT hU hW) rfl hl.1 (Nat.le_of_ble_eq_true rfl) dX11_count_66 ⟨Nat.le_of_ble_eq_true rfl, Nat.le_of_ble_eq_true rfl⟩) hS ?_
    rintro _ _ locs ⟨x66, rfl, t66⟩ hS
    have t66 : x66.toInt = (rmT (G.2.1 (F a 1)) 360) ∧ (0 ≤ x66.toInt ∧ x66.toInt ≤ 90) := by rw [(show G2.2.1 (F a 1) = G.2.1 (F a 1) from (ld_c hG2))] at t66; exact t66
    exact x_ri hx hb hr hlk hQ (Nat.le_of_ble_eq_true rfl) (Nat.le_of_ble_eq_true rfl) hS dX11_count_69 G2 ⟨_, rfl, (by rw [hG2]; exact XFr.dput XFr.rf (List.mem_of_getElem? (i := 0) rfl))⟩ hT
  · refine lv_tableIn (off := 64) (tgt := 70) hx hb dX11_count_6 (by rw [c6]; decide) (by rw [c6]; decide) (by rw [c6]; rfl) (by decide) ?_
    refine lv_aload_n hx hb dX11_count_70 rfl (lv_at hl 0 rfl) ?_
    refine x_cl0 (x_runV (b := a) (As := []) (rest := []) S (c_X11_queueMany l E K F G2 a ha (v_X11_count_71_2 (F := F) a G2 G hR (ld_c hG2)) (v_X11_count_71_3 (F := F) a G2 G hM hB (ld_c hG2)) (v_X11_count_71_4 (F := F) a G2 G hM hB (ld_c hG2))) mv_X11_queueMany km_X11_379 rfl rfl ⟨Nat.le_of_ble_eq_true rfl, Nat.le_of_ble_eq_true rfl⟩ (rc_13 hK hT ha) hK (fun _ => XP.blind) (fun U hU hW => XP.at hK hz hS hT hU hW) rfl hl.1 (Nat.le_of_ble_eq_true rfl) dX11_count_71 ⟨Nat.le_of_ble_eq_true rfl, Nat.le_of_ble_eq_true rfl⟩) hS ?_
    rintro _ G71 H locs ⟨x71, rfl, hF71, t71, oq71, oq71a⟩ hT hS
    have t71 : 0 ≤ x71.toInt ∧ x71.toInt ≤ 2388 := t71
    have oq71 : pL G71 F a = if ((G.1 a 6).toInt) = 0 then [] else fuO (G.2.1 (F a 10)) (mw (G.2.1 (F a 1)) 0) (mw (G.2.1 (F a 2)) 0) 1 := by simp only [(show G2.1 a 6 = G.1 a 6 from (ld_j hG2 (by decide))), (show G2.2.1 (F a 10) = G.2.1 (F a 10) from (ld_c hG2)), (show G2.2.1 (F a 1) = G.2.1 (F a 1) from (ld_c hG2)), (show G2.2.1 (F a 2) = G.2.1 (F a 2) from (ld_c hG2))] at oq71; exact oq71
    exact x_ri hx hb hr hlk hQ (Nat.le_of_ble_eq_true rfl) (Nat.le_of_ble_eq_true rfl) hS dX11_count_74 G71 ⟨_, rfl, (XFr.call (by rw [hG2]; exact XFr.dput XFr.rf (List.mem_of_getElem? (i := 0) rfl)) hF71 (xm1 1 rfl (xm1 2 rfl xm0)) (xm1 0 rfl (xm1 1 rfl (xm1 2 rfl (xm1 3 rfl (xm1 4 rfl xm0))))) xm0)⟩ hT
  · refine lv_tableIn (off := 69) (tgt := 75) hx hb dX11_count_6 (by rw [c6]; decide) (by rw [c6]; decide) (by rw [c6]; rfl) (by decide) ?_
    refine lv_aload_n hx hb dX11_count_75 rfl (lv_at hl 0 rfl) ?_
    refine gX11_6 S hK hT ha kf_X11_206 dX11_count_76 (v := (G.1 a 6)) (ld_j hG2 (by decide)) (fun hz76 => ?_)
    refine xi_zeq (tgt := 86) hx hb (rfl : Int32.toInt (G.1 a 6) = ((G.1 a 6).toInt)) dX11_count_79 (by decide) (fun c79 => ?_) (fun c79 => ?_)
    · refine lv_iconst (v := 0) hx hb dX11_count_86 (by decide) ?_
      exact x_ri hx hb hr hlk hQ (Nat.le_of_ble_eq_true rfl) (Nat.le_of_ble_eq_true rfl) hS dX11_count_87 G2 ⟨_, rfl, (by rw [hG2]; exact XFr.dput XFr.rf (List.mem_of_getElem? (i := 0) rfl))⟩ hT
    · refine lv_iconst (v := 1) hx hb dX11_count_82 (by decide) ?_
      refine lv_goto (tgt := 87) hx hb dX11_count_83 (by decide) ?_
      exact x_ri hx hb hr hlk hQ (Nat.le_of_ble_eq_true rfl) (Nat.le_of_ble_eq_true rfl) hS dX11_count_87 G2 ⟨_, rfl, (by rw [hG2]; exact XFr.dput XFr.rf (List.mem_of_getElem? (i := 0) rfl))⟩ hT
  · refine lv_tableIn (off := 92) (tgt := 98) hx hb dX11_count_6 (by rw [c6]; decide) (by rw [c6]; decide) (by rw [c6]; rfl) (by decide) ?_
    refine lv_iload_n hx hb dX11_count_98 rfl (lv_at hl 1 rfl) ?_
    refine lv_i2l (v := p0.toInt64) hx hb dX11_count_99 rfl ?_
    refine lv_ldc2 (v := 4) hx hb S.2.2.2.1 (S.2.2.2.2 _ (List.mem_cons_of_mem _ kc_X11_401)) dX11_count_100 ?_
    refine lv_ldc2 (v := 7) hx hb S.2.2.2.1 (S.2.2.2.2 _ (List.mem_cons_of_mem _ kc_X11_403)) dX11_count_103 ?_
    refine x_clp (x_runS (As := [.long p0.toInt64, .long (4 : Int64), .long (7 : Int64)]) (rest := []) S (c_X11_in l E K F G2 H p0.toInt64 p0.toInt (4 : Int64) (4 : Int) (7 : Int64) (7 : Int) (xl_i2l (rfl : Int32.toInt p0 = p0.toInt)) (by decide) (by decide)) ms_X11_in km_X11_139 rfl rfl ⟨Nat.le_of_ble_eq_true rfl, Nat.le_of_ble_eq_true rfl⟩ hK (fun _ => XPh.blind) (fun U hU hW => XPh.at hK hz hS hT hU hW) rfl hl.1 (Nat.le_of_ble_eq_true rfl) dX11_count_106 ⟨Nat.le_of_ble_eq_true rfl, Nat.le_of_ble_eq_true rfl⟩) hS ?_
    rintro _ _ locs ⟨x106, rfl, b106, t106⟩ hS
    have t106 : (x106.toInt = 1 ∧ (4 : Int) ≤ p0.toInt ∧ p0.toInt ≤ (7 : Int)) ∨ (x106.toInt = 0 ∧ (p0.toInt < (4 : Int) ∨ (7 : Int) < p0.toInt)) := t106
    refine xi_zeq (tgt := 123) hx hb (rfl : Int32.toInt x106 = x106.toInt) dX11_count_109 (by decide) (fun c109 => ?_) (fun c109 => ?_)
    · refine lv_iconst (v := (-1)) hx hb dX11_count_123 (by decide) ?_
      exact x_ri hx hb hr hlk hQ (Nat.le_of_ble_eq_true rfl) (Nat.le_of_ble_eq_true rfl) hS dX11_count_124 G2 ⟨_, rfl, (by rw [hG2]; exact XFr.dput XFr.rf (List.mem_of_getElem? (i := 0) rfl))⟩ hT
    · refine lv_aload_n hx hb dX11_count_112 rfl (lv_at hl 0 rfl) ?_
      obtain ⟨hk113, hj113⟩ := fkX11_9 hT ha
      refine gX11_9 S hK hT ha kf_X11_30 dX11_count_113 (fun _ _ => ?_)
      refine lv_iload_n hx hb dX11_count_116 rfl (lv_at hl 1 rfl) ?_
      refine lv_iconst (v := 4) hx hb dX11_count_117 (by decide) ?_
      refine xi_isub hx hb (rfl : Int32.toInt p0 = p0.toInt) ((by decide) : Int32.toInt 4 = (4 : Int)) dX11_count_118 (fun x118 t118 => ?_)
      refine al_0 S hK hT hk113 ar_36 (by decide) (z_X11_count_3 p0.toInt x118.toInt c6 t118) dX11_count_119 (fun x119 hv119 o119 => ?_)
      have hv119 : x119.toInt = (aI (G.2.1 (F a 9)) (x118.toInt)) := hv119.trans (by rw [(rfl : Int32.toInt x118 = x118.toInt), ((ld_c hG2) : G2.2.1 (F a 9) = G.2.1 (F a 9))])
      refine lv_goto (tgt := 124) hx hb dX11_count_120 (by decide) ?_
      exact x_ri hx hb hr hlk hQ (Nat.le_of_ble_eq_true rfl) (Nat.le_of_ble_eq_true rfl) hS dX11_count_124 G2 ⟨_, rfl, (by rw [hG2]; exact XFr.dput XFr.rf (List.mem_of_getElem? (i := 0) rfl))⟩ hT
  · refine lv_tableIn (off := 92) (tgt := 98) hx hb dX11_count_6 (by rw [c6]; decide) (by rw [c6]; decide) (by rw [c6]; rfl) (by decide) ?_
    refine lv_iload_n hx hb dX11_count_98 rfl (lv_at hl 1 rfl) ?_
    refine lv_i2l (v := p0.toInt64) hx hb dX11_count_99 rfl ?_
    refine lv_ldc2 (v := 4) hx hb S.2.2.2.1 (S.2.2.2.2 _ (List.mem_cons_of_mem _ kc_X11_401)) dX11_count_100 ?_
    refine lv_ldc2 (v := 7) hx hb S.2.2.2.1 (S.2.2.2.2 _ (List.mem_cons_of_mem _ kc_X11_403)) dX11_count_103 ?_
    refine x_clp (x_runS (As := [.long p0.toInt64, .long (4 : Int64), .long (7 : Int64)]) (rest := []) S (c_X11_in l E K F G2 H p0.toInt64 p0.toInt (4 : Int64) (4 : Int) (7 : Int64) (7 : Int) (xl_i2l (rfl : Int32.toInt p0 = p0.toInt)) (by decide) (by decide)) ms_X11_in km_X11_139 rfl rfl ⟨Nat.le_of_ble_eq_true rfl, Nat.le_of_ble_eq_true rfl⟩ hK (fun _ => XPh.blind) (fun U hU hW => XPh.at hK hz hS hT hU hW) rfl hl.1 (Nat.le_of_ble_eq_true rfl) dX11_count_106 ⟨Nat.le_of_ble_eq_true rfl, Nat.le_of_ble_eq_true rfl⟩) hS ?_
    rintro _ _ locs ⟨x106, rfl, b106, t106⟩ hS
    have t106 : (x106.toInt = 1 ∧ (4 : Int) ≤ p0.toInt ∧ p0.toInt ≤ (7 : Int)) ∨ (x106.toInt = 0 ∧ (p0.toInt < (4 : Int) ∨ (7 : Int) < p0.toInt)) := t106
    refine xi_zeq (tgt := 123) hx hb (rfl : Int32.toInt x106 = x106.toInt) dX11_count_109 (by decide) (fun c109 => ?_) (fun c109 => ?_)
    · refine lv_iconst (v := (-1)) hx hb dX11_count_123 (by decide) ?_
      exact x_ri hx hb hr hlk hQ (Nat.le_of_ble_eq_true rfl) (Nat.le_of_ble_eq_true rfl) hS dX11_count_124 G2 ⟨_, rfl, (by rw [hG2]; exact XFr.dput XFr.rf (List.mem_of_getElem? (i := 0) rfl))⟩ hT
    · refine lv_aload_n hx hb dX11_count_112 rfl (lv_at hl 0 rfl) ?_
      obtain ⟨hk113, hj113⟩ := fkX11_9 hT ha
      refine gX11_9 S hK hT ha kf_X11_30 dX11_count_113 (fun _ _ => ?_)
      refine lv_iload_n hx hb dX11_count_116 rfl (lv_at hl 1 rfl) ?_
      refine lv_iconst (v := 4) hx hb dX11_count_117 (by decide) ?_
      refine xi_isub hx hb (rfl : Int32.toInt p0 = p0.toInt) ((by decide) : Int32.toInt 4 = (4 : Int)) dX11_count_118 (fun x118 t118 => ?_)
      refine al_0 S hK hT hk113 ar_36 (by decide) (z_X11_count_4 p0.toInt x118.toInt c6 t118) dX11_count_119 (fun x119 hv119 o119 => ?_)
      have hv119 : x119.toInt = (aI (G.2.1 (F a 9)) (x118.toInt)) := hv119.trans (by rw [(rfl : Int32.toInt x118 = x118.toInt), ((ld_c hG2) : G2.2.1 (F a 9) = G.2.1 (F a 9))])
      refine lv_goto (tgt := 124) hx hb dX11_count_120 (by decide) ?_
      exact x_ri hx hb hr hlk hQ (Nat.le_of_ble_eq_true rfl) (Nat.le_of_ble_eq_true rfl) hS dX11_count_124 G2 ⟨_, rfl, (by rw [hG2]; exact XFr.dput XFr.rf (List.mem_of_getElem? (i := 0) rfl))⟩ hT
  · refine lv_tableIn (off := 92) (tgt := 98) hx hb dX11_count_6 (by rw [c6]; decide) (by rw [c6]; decide) (by rw [c6]; rfl) (by decide) ?_
    refine lv_iload_n hx hb dX11_count_98 rfl (lv_at hl 1 rfl) ?_
    refine lv_i2l (v := p0.toInt64) hx hb dX11_count_99 rfl ?_
    refine lv_ldc2 (v := 4) hx hb S.2.2.2.1 (S.2.2.2.2 _ (List.mem_cons_of_mem _ kc_X11_401)) dX11_count_100 ?_
    refine lv_ldc2 (v := 7) hx hb S.2.2.2.1 (S.2.2.2.2 _ (List.mem_cons_of_mem _ kc_X11_403)) dX11_count_103 ?_
    refine x_clp (x_runS (As := [.long p0.toInt64, .long (4 : Int64), .long (7 : Int64)]) (rest := []) S (c_X11_in l E K F G2 H p0.toInt64 p0.toInt (4 : Int64) (4 : Int) (7 : Int64) (7 : Int) (xl_i2l (rfl : Int32.toInt p0 = p0.toInt)) (by decide) (by decide)) ms_X11_in km_X11_139 rfl rfl ⟨Nat.le_of_ble_eq_true rfl, Nat.le_of_ble_eq_true rfl⟩ hK (fun _ => XPh.blind) (fun U hU hW => XPh.at hK hz hS hT hU hW) rfl hl.1 (Nat.le_of_ble_eq_true rfl) dX11_count_106 ⟨Nat.le_of_ble_eq_true rfl, Nat.le_of_ble_eq_true rfl⟩) hS ?_
    rintro _ _ locs ⟨x106, rfl, b106, t106⟩ hS
    have t106 : (x106.toInt = 1 ∧ (4 : Int) ≤ p0.toInt ∧ p0.toInt ≤ (7 : Int)) ∨ (x106.toInt = 0 ∧ (p0.toInt < (4 : Int) ∨ (7 : Int) < p0.toInt)) := t106
    refine xi_zeq (tgt := 123) hx hb (rfl : Int32.toInt x106 = x106.toInt) dX11_count_109 (by decide) (fun c109 => ?_) (fun c109 => ?_)
    · refine lv_iconst (v := (-1)) hx hb dX11_count_123 (by decide) ?_
      exact x_ri hx hb hr hlk hQ (Nat.le_of_ble_eq_true rfl) (Nat.le_of_ble_eq_true rfl) hS dX11_count_124 G2 ⟨_, rfl, (by rw [hG2]; exact XFr.dput XFr.rf (List.mem_of_getElem? (i := 0) rfl))⟩ hT
    · refine lv_aload_n hx hb dX11_count_112 rfl (lv_at hl 0 rfl) ?_
      obtain ⟨hk113, hj113⟩ := fkX11_9 hT ha
      refine gX11_9 S hK hT ha kf_X11_30 dX11_count_113 (fun _ _ => ?_)
      refine lv_iload_n hx hb dX11_count_116 rfl (lv_at hl 1 rfl) ?_
      refine lv_iconst (v := 4) hx hb dX11_count_117 (by decide) ?_
      refine xi_isub hx hb (rfl : Int32.toInt p0 = p0.toInt) ((by decide) : Int32.toInt 4 = (4 : Int)) dX11_count_118 (fun x118 t118 => ?_)
      refine al_0 S hK hT hk113 ar_36 (by decide) (z_X11_count_5 p0.toInt x118.toInt c6 t118) dX11_count_119 (fun x119 hv119 o119 => ?_)
      have hv119 : x119.toInt = (aI (G.2.1 (F a 9)) (x118.toInt)) := hv119.trans (by rw [(rfl : Int32.toInt x118 = x118.toInt), ((ld_c hG2) : G2.2.1 (F a 9) = G.2.1 (F a 9))])
      refine lv_goto (tgt := 124) hx hb dX11_count_120 (by decide) ?_
      exact x_ri hx hb hr hlk hQ (Nat.le_of_ble_eq_true rfl) (Nat.le_of_ble_eq_true rfl) hS dX11_count_124 G2 ⟨_, rfl, (by rw [hG2]; exact XFr.dput XFr.rf (List.mem_of_getElem? (i := 0) rfl))⟩ hT
  · refine lv_tableIn (off := 92) (tgt := 98) hx hb dX11_count_6 (by rw [c6]; decide) (by rw [c6]; decide) (by rw [c6]; rfl) (by decide) ?_
    refine lv_iload_n hx hb dX11_count_98 rfl (lv_at hl 1 rfl) ?_
    refine lv_i2l (v := p0.toInt64) hx hb dX11_count_99 rfl ?_
    refine lv_ldc2 (v := 4) hx hb S.2.2.2.1 (S.2.2.2.2 _ (List.mem_cons_of_mem _ kc_X11_401)) dX11_count_100 ?_
    refine lv_ldc2 (v := 7) hx hb S.2.2.2.1 (S.2.2.2.2 _ (List.mem_cons_of_mem _ kc_X11_403)) dX11_count_103 ?_
    refine x_clp (x_runS (As := [.long p0.toInt64, .long (4 : Int64), .long (7 : Int64)]) (rest := []) S (c_X11_in l E K F G2 H p0.toInt64 p0.toInt (4 : Int64) (4 : Int) (7 : Int64) (7 : Int) (xl_i2l (rfl : Int32.toInt p0 = p0.toInt)) (by decide) (by decide)) ms_X11_in km_X11_139 rfl rfl ⟨Nat.le_of_ble_eq_true rfl, Nat.le_of_ble_eq_true rfl⟩ hK (fun _ => XPh.blind) (fun U hU hW => XPh.at hK hz hS hT hU hW) rfl hl.1 (Nat.le_of_ble_eq_true rfl) dX11_count_106 ⟨Nat.le_of_ble_eq_true rfl, Nat.le_of_ble_eq_true rfl⟩) hS ?_
    rintro _ _ locs ⟨x106, rfl, b106, t106⟩ hS
    have t106 : (x106.toInt = 1 ∧ (4 : Int) ≤ p0.toInt ∧ p0.toInt ≤ (7 : Int)) ∨ (x106.toInt = 0 ∧ (p0.toInt < (4 : Int) ∨ (7 : Int) < p0.toInt)) := t106
    refine xi_zeq (tgt := 123) hx hb (rfl : Int32.toInt x106 = x106.toInt) dX11_count_109 (by decide) (fun c109 => ?_) (fun c109 => ?_)
    · refine lv_iconst (v := (-1)) hx hb dX11_count_123 (by decide) ?_
      exact x_ri hx hb hr hlk hQ (Nat.le_of_ble_eq_true rfl) (Nat.le_of_ble_eq_true rfl) hS dX11_count_124 G2 ⟨_, rfl, (by rw [hG2]; exact XFr.dput XFr.rf (List.mem_of_getElem? (i := 0) rfl))⟩ hT
    · refine lv_aload_n hx hb dX11_count_112 rfl (lv_at hl 0 rfl) ?_
      obtain ⟨hk113, hj113⟩ := fkX11_9 hT ha
      refine gX11_9 S hK hT ha kf_X11_30 dX11_count_113 (fun _ _ => ?_)
      refine lv_iload_n hx hb dX11_count_116 rfl (lv_at hl 1 rfl) ?_
      refine lv_iconst (v := 4) hx hb dX11_count_117 (by decide) ?_
      refine xi_isub hx hb (rfl : Int32.toInt p0 = p0.toInt) ((by decide) : Int32.toInt 4 = (4 : Int)) dX11_count_118 (fun x118 t118 => ?_)
      refine al_0 S hK hT hk113 ar_36 (by decide) (z_X11_count_6 p0.toInt x118.toInt c6 t118) dX11_count_119 (fun x119 hv119 o119 => ?_)
      have hv119 : x119.toInt = (aI (G.2.1 (F a 9)) (x118.toInt)) := hv119.trans (by rw [(rfl : Int32.toInt x118 = x118.toInt), ((ld_c hG2) : G2.2.1 (F a 9) = G.2.1 (F a 9))])
      refine lv_goto (tgt := 124) hx hb dX11_count_120 (by decide) ?_
      exact x_ri hx hb hr hlk hQ (Nat.le_of_ble_eq_true rfl) (Nat.le_of_ble_eq_true rfl) hS dX11_count_124 G2 ⟨_, rfl, (by rw [hG2]; exact XFr.dput XFr.rf (List.mem_of_getElem? (i := 0) rfl))⟩ hT
  · refine lv_tableIn (off := 82) (tgt := 88) hx hb dX11_count_6 (by rw [c6]; decide) (by rw [c6]; decide) (by rw [c6]; rfl) (by decide) ?_
    refine lv_aload_n hx hb dX11_count_88 rfl (lv_at hl 0 rfl) ?_
    refine gX11_36 S hK hT ha kf_X11_245 dX11_count_89 (v := (G.1 a 36)) (ld_j hG2 (by decide)) (?_)
    exact x_ri hx hb hr hlk hQ (Nat.le_of_ble_eq_true rfl) (Nat.le_of_ble_eq_true rfl) hS dX11_count_92 G2 ⟨_, rfl, (by rw [hG2]; exact XFr.dput XFr.rf (List.mem_of_getElem? (i := 0) rfl))⟩ hT
  · refine lv_tableIn (off := 87) (tgt := 93) hx hb dX11_count_6 (by rw [c6]; decide) (by rw [c6]; decide) (by rw [c6]; rfl) (by decide) ?_
    refine lv_aload_n hx hb dX11_count_93 rfl (lv_at hl 0 rfl) ?_
    refine x_clp (x_runV (b := a) (As := []) (rest := []) S (c_X11_lateMany l E K F G2 H a ha) mv_X11_lateMany km_X11_398 rfl rfl ⟨Nat.le_of_ble_eq_true rfl, Nat.le_of_ble_eq_true rfl⟩ (rc_13 hK hT ha) hK (fun _ => XPh.blind) (fun U hU hW => XPh.at hK hz hS hT hU hW) rfl hl.1 (Nat.le_of_ble_eq_true rfl) dX11_count_94 ⟨Nat.le_of_ble_eq_true rfl, Nat.le_of_ble_eq_true rfl⟩) hS ?_
    rintro _ _ locs ⟨x94, rfl⟩ hS
    exact x_ri hx hb hr hlk hQ (Nat.le_of_ble_eq_true rfl) (Nat.le_of_ble_eq_true rfl) hS dX11_count_97 G2 ⟨_, rfl, (by rw [hG2]; exact XFr.dput XFr.rf (List.mem_of_getElem? (i := 0) rfl))⟩ hT

theorem z_X11_rows_1 (a0 : Int) (h0 : 0 ≤ a0 ∧ a0 ≤ 30) : ¬ (2147483648 - a0 < ((0 : Nat) : Int)) := by omega
theorem z_X11_rows_2 (a0 : Int) (a1 : Int) (h0 : (a1 = 1 ∧ 0 ≤ a0 ∧ a0 ≤ 2) ∨ (a1 = 0 ∧ (a0 < 0 ∨ 2 < a0))) (h1 : ¬ (a1 = 0)) : 0 ≤ a0 ∧ a0 < 3 := by omega
theorem z_X11_rows_3 (a0 : Int) (h0 : 0 ≤ a0 ∧ a0 ≤ 30) (h1 : ¬ ((30 : Int) ≤ a0)) : 0 ≤ a0 ∧ a0 < 30 := by omega
theorem z_X11_rows_4 (a0 : Int) (h0 : 0 ≤ a0 ∧ a0 ≤ 30) : 0 ≤ a0 := by omega
theorem z_X11_rows_5 (a0 : Int) (a1 : Int) (a2 : Int) (a3 : Int) (h0 : (a3 = 1 ∧ 0 ≤ a1 ∧ a1 ≤ 2) ∨ (a3 = 0 ∧ (a1 < 0 ∨ 2 < a1))) (h1 : ¬ (a3 = 0)) (h2 : 0 ≤ a0 ∧ a0 ≤ 30) (h3 : ¬ ((30 : Int) ≤ a0)) (h4 : 0 ≤ a1 ∧ a1 ≤ 2 ∧ 0 ≤ a0 ∧ a0 ≤ 29 → a2 = 4 * (30 * a1 + a0)) : 0 ≤ a2 ∧ a2 < ((360 : Nat) : Int) := by omega
theorem z_X11_rows_6 (a0 : Int) (a1 : Int) (a2 : Int) (a3 : Int) (h0 : (a3 = 1 ∧ 0 ≤ a1 ∧ a1 ≤ 2) ∨ (a3 = 0 ∧ (a1 < 0 ∨ 2 < a1))) (h1 : ¬ (a3 = 0)) (h2 : 0 ≤ a0 ∧ a0 ≤ 30) (h3 : ¬ ((30 : Int) ≤ a0)) (h4 : 0 ≤ a1 ∧ a1 ≤ 2 ∧ 0 ≤ a0 ∧ a0 ≤ 29 → a2 = 4 * (30 * a1 + a0)) : a2 = 4 * (30 * a1 + a0) := by omega
theorem z_X11_rows_7 (a0 : Int) (a1 : Int) (a2 : Int) (a3 : Int) (h0 : (a2 = 1 ∧ 0 ≤ a1 ∧ a1 ≤ 2) ∨ (a2 = 0 ∧ (a1 < 0 ∨ 2 < a1))) (h1 : ¬ (a2 = 0)) (h2 : 0 ≤ a0 ∧ a0 ≤ 30) (h3 : ¬ ((30 : Int) ≤ a0)) (h4 : 0 ≤ a1 ∧ a1 ≤ 2 ∧ 0 ≤ a0 ∧ a0 ≤ 29 → a3 = 4 * (30 * a1 + a0)) : 0 ≤ a3 ∧ a3 < ((360 : Nat) : Int) := by omega
theorem z_X11_rows_8 (a0 : Int) (a1 : Int) (a2 : Int) (a3 : Int) (h0 : (a2 = 1 ∧ 0 ≤ a1 ∧ a1 ≤ 2) ∨ (a2 = 0 ∧ (a1 < 0 ∨ 2 < a1))) (h1 : ¬ (a2 = 0)) (h2 : 0 ≤ a0 ∧ a0 ≤ 30) (h3 : ¬ ((30 : Int) ≤ a0)) (h4 : 0 ≤ a1 ∧ a1 ≤ 2 ∧ 0 ≤ a0 ∧ a0 ≤ 29 → a3 = 4 * (30 * a1 + a0)) : a3 = 4 * (30 * a1 + a0) := by omega
theorem z_X11_rows_9 (a0 : Int) (a1 : Int) (h0 : 0 ≤ a0 ∧ a0 ≤ 30) (h1 : a1 = (a0 + 1) ∨ (a0 + 1) < -2147483648 ∨ 2147483648 ≤ (a0 + 1)) : a1 = (a0 + 1) := by omega
theorem z_X11_rows_10 (a0 : Int) (h0 : 0 ≤ a0 ∧ a0 ≤ 30) (h1 : ¬ ((30 : Int) ≤ a0)) : 0 ≤ (a0 + 1) ∧ (a0 + 1) ≤ 30 := by omega
theorem z_X11_rows_11 (a0 : Int) (a1 : Int) (a2 : Int) (a3 : Int) (a4 : Int) (a5 : Int) (h0 : a0 = a5) (h1 : 0 ≤ a0 ∧ a0 ≤ a1) (h2 : ¬ ((30 : Int) ≤ a1)) (h3 : a3 = 0 ∨ a3 = 1) (h4 : a4 = a5 + a3) (h5 : a2 = a0 + a3 ∨ a0 + a3 < -2147483648 ∨ 2147483648 ≤ a0 + a3) : a2 = a4 := by omega
theorem z_X11_rows_12 (a0 : Int) (a1 : Int) (a2 : Int) (a3 : Int) (h0 : 0 ≤ a0 ∧ a0 ≤ a1) (h1 : ¬ ((30 : Int) ≤ a1)) (h2 : a3 = 0 ∨ a3 = 1) (h3 : a2 = a0 + a3 ∨ a0 + a3 < -2147483648 ∨ 2147483648 ≤ a0 + a3) : 0 ≤ a2 ∧ a2 ≤ (a1 + 1) := by omega
theorem z_X11_rows_13 (a0 : Int) (h0 : 0 ≤ a0 ∧ a0 ≤ 30) : (0 : Int) ≤ (a0 + 1) := by omega
theorem z_X11_rows_15 (a0 : Int) (h0 : a0 = 0) : (0 : Int) = a0 := by omega
abbrev rm_X11_rows : Room := { frames := 2, cells := 0, slots := 0, locals := 45 }
set_option maxHeartbeats 4000000 in
set_option maxRecDepth 100000 in
theorem c_X11_rows (l : Launch) (E : XE) (K : Nat → Nat) (F : Nat → Nat → Nat) (G : XG) (a : Nat) (p0 : Int32) (p1 : Int32) (ha : K a = 13) (hM : RM (G.2.1 (F a 1)) (0)) : Met l yX11_rows (xw yX11_rows cX11_rows 6 (some .int)) rm_X11_rows (va_Pc [.ref a, .int p0, .int p1] (XP E K F G)) (XQ E (fun v (u : XG) => ∃ r : Int32, v = .int r ∧ XFr [(a, 0)] [] [] G u ∧ ((¬ ((0 ≤ p0.toInt ∧ p0.toInt ≤ 2) ∧ (p1.toInt = 0 ∨ p1.toInt = 1)) ∧ r.toInt = -1) ∨ ((0 ≤ p0.toInt ∧ p0.toInt ≤ 2) ∧ p1.toInt = 0 ∧ r.toInt = rmR (G.2.1 (F a 1)) p0.toInt 30) ∨ ((0 ≤ p0.toInt ∧ p0.toInt ≤ 2) ∧ p1.toInt = 1 ∧ ∀ j : Int, 0 ≤ j → j < 32 → bI r.toInt j = if j < 30 then aI (G.2.1 (F a 1)) (4 * (30 * p0.toInt + j)) else 0))) (fun u H => TW E K F u H)) 0 0 (xA E) := by
  refine x_enter (by decide) (Nat.le_of_ble_eq_true rfl) ?_
  intro p e s m args below meth c Q S hr hlk hnm hQ hP ls hl
  obtain ⟨hz, hK, hT⟩ := hP
  obtain ⟨hx, hb, -, -, -⟩ := id S
  obtain ⟨H, hT, hS, hgo⟩ : ∃ H : Heap, TW E K F G H ∧ va_S (xA E) s.heap H [] ∧ H = s.heap := ⟨_, hT, va_S.rf, rfl⟩
  rw [← hgo]
  have hl : lv_has ls 6 [(0, .ref a), (1, .int p0), (2, .int p1)] := hl
  obtain ⟨hk9999, hj9999⟩ := fkX11_1 hT ha
  refine lv_aload_n hx hb dX11_rows_0 rfl (lv_at hl 0 rfl) ?_
  refine lv_iconst (v := 0) hx hb dX11_rows_1 (by decide) ?_
  refine pX11_0 (v := 0) S hK hT hS ha kf_X11_134 dX11_rows_2 (fun H locs hT hS => ?_)
  obtain ⟨G2, hG2⟩ : ∃ GG : XG, GG = dput G a 0 0 := ⟨_, rfl⟩
  rw [← hG2] at hT
  refine lv_iload_n hx hb dX11_rows_5 rfl (lv_at hl 1 rfl) ?_
  refine x_clp (x_runS (As := [.int p0]) (rest := []) S (c_X11_isTable l E K F G2 H p0) ms_X11_isTable km_X11_149 rfl rfl ⟨Nat.le_of_ble_eq_true rfl, Nat.le_of_ble_eq_true rfl⟩ hK (fun _ => XPh.blind) (fun U hU hW => XPh.at hK hz hS hT hU hW) rfl hl.1 (Nat.le_of_ble_eq_true rfl) dX11_rows_6 ⟨Nat.le_of_ble_eq_true rfl, Nat.le_of_ble_eq_true rfl⟩) hS ?_
  rintro _ _ locs ⟨x6, rfl, b6, t6⟩ hS
  have t6 : (x6.toInt = 1 ∧ 0 ≤ p0.toInt ∧ p0.toInt ≤ 2) ∨ (x6.toInt = 0 ∧ (p0.toInt < 0 ∨ 2 < p0.toInt)) := t6
  refine xi_zeq (tgt := 22) hx hb (rfl : Int32.toInt x6 = x6.toInt) dX11_rows_9 (by decide) (fun c9 => ?_) (fun c9 => ?_)
  · refine lv_iconst (v := (-1)) hx hb dX11_rows_22 (by decide) ?_
    exact x_ri hx hb hr hlk hQ (Nat.le_of_ble_eq_true rfl) (Nat.le_of_ble_eq_true rfl) hS dX11_rows_23 G2 ⟨_, rfl, (by rw [hG2]; exact XFr.dput XFr.rf (List.mem_of_getElem? (i := 0) rfl)), (by rw [((by decide) : Int32.toInt (-1) = (-1 : Int))] <;> exact (v_X11_rows_23_1 (K := K) (F := F) a G x6 p0 p1 ha t6 c9))⟩ hT
  · refine lv_iload_n hx hb dX11_rows_12 rfl (lv_at hl 2 rfl) ?_
    refine lv_i2l (v := p1.toInt64) hx hb dX11_rows_13 rfl ?_
    refine lv_lconst (v := (0 : Int64)) hx hb dX11_rows_14 (by decide) ?_
    refine lv_lconst (v := (1 : Int64)) hx hb dX11_rows_15 (by decide) ?_
    refine x_clp (x_runS (As := [.long p1.toInt64, .long (0 : Int64), .long (1 : Int64)]) (rest := []) S (c_X11_in l E K F G2 H p1.toInt64 p1.toInt (0 : Int64) (0 : Int) (1 : Int64) (1 : Int) (xl_i2l (rfl : Int32.toInt p1 = p1.toInt)) (by decide) (by decide)) ms_X11_in km_X11_139 rfl rfl ⟨Nat.le_of_ble_eq_true rfl, Nat.le_of_ble_eq_true rfl⟩ hK (fun _ => XPh.blind) (fun U hU hW => XPh.at hK hz hS hT hU hW) rfl hl.1 (Nat.le_of_ble_eq_true rfl) dX11_rows_16 ⟨Nat.le_of_ble_eq_true rfl, Nat.le_of_ble_eq_true rfl⟩) hS ?_
    rintro _ _ locs ⟨x16, rfl, b16, t16⟩ hS
    have t16 : (x16.toInt = 1 ∧ (0 : Int) ≤ p1.toInt ∧ p1.toInt ≤ (1 : Int)) ∨ (x16.toInt = 0 ∧ (p1.toInt < (0 : Int) ∨ (1 : Int) < p1.toInt)) := t16
    refine xi_zne (tgt := 24) hx hb (rfl : Int32.toInt x16 = x16.toInt) dX11_rows_19 (by decide) (fun c19 => ?_) (fun c19 => ?_)
    · have z24 : (rmR (G.2.1 (F a 1)) (p0.toInt) 0) = 0 := rmR_0 _ _
      refine lv_iconst (v := 0) hx hb dX11_rows_24 (by decide) ?_
      refine lv_istore_n (lv' := [(3, .int 0), (0, .ref a), (1, .int p0), (2, .int p1)]) hx hb dX11_rows_25 rfl hl (by decide) rfl (fun ls hl => ?_)
      refine lv_iconst (v := 0) hx hb dX11_rows_26 (by decide) ?_
      refine lv_istore (lv' := [(4, .int 0), (3, .int 0), (0, .ref a), (1, .int p0), (2, .int p1)]) hx hb dX11_rows_27 hl (by decide) rfl (fun ls hl => ?_)
      refine lv_iconst (v := 0) hx hb dX11_rows_29 (by decide) ?_
      refine lv_istore (lv' := [(5, .int 0), (4, .int 0), (3, .int 0), (0, .ref a), (1, .int p0), (2, .int p1)]) hx hb dX11_rows_30 hl (by decide) rfl (fun ls hl => ?_)
      have L32 : ∀ (N32 : Nat) (l3_32 : Int32) (l4_32 : Int32) (l5_32 : Int32) (H : Heap) (locs : List Loc) (ls : Array Slot), (∀ j : Int, 0 ≤ j → j < 32 → bI l4_32.toInt j = if j < l5_32.toInt then aI (G.2.1 (F a 1)) (4 * (30 * p0.toInt + j)) else 0) → 0 ≤ l5_32.toInt ∧ l5_32.toInt ≤ 30 → l3_32.toInt = (rmR (G.2.1 (F a 1)) (p0.toInt) (l5_32.toInt)) → 0 ≤ l3_32.toInt ∧ l3_32.toInt ≤ l5_32.toInt → (0 : Int) ≤ l5_32.toInt → 2147483648 - l5_32.toInt < ((N32 : Nat) : Int) → TW E K F G2 H → va_S (xA E) s.heap H locs → lv_has ls 6 [(0, .ref a), (1, .int p0), (2, .int p1), (3, .int l3_32), (4, .int l4_32), (5, .int l5_32)] → W p l e rm_X11_rows s m args below meth c H locs 0 0 Q (F0 m 32 ls []) := by
        intro N32
        induction N32 with
        | zero =>
          intro l3_32 l4_32 l5_32 H locs ls pb I32_0 I32_1 I32_2 I32_3 hm32
          exact absurd hm32 (z_X11_rows_1 l5_32.toInt I32_0)
        | succ N32 ih32 =>
          intro l3_32 l4_32 l5_32 H locs ls pb I32_0 I32_1 I32_2 I32_3 hm32 hT hS hl
          refine lv_iload hx hb dX11_rows_32 (lv_at hl 5 rfl) ?_
          refine lv_bipush (v := 30) hx hb dX11_rows_34 (by decide) ?_
          refine xi_cge (tgt := 78) hx hb (rfl : Int32.toInt l5_32 = l5_32.toInt) ((by decide) : Int32.toInt 30 = (30 : Int)) dX11_rows_36 (by decide) (fun c36 => ?_) (fun c36 => ?_)
          · have z78 : l5_32.toInt = 30 → (rmR (G.2.1 (F a 1)) (p0.toInt) (l5_32.toInt)) = (rmR (G.2.1 (F a 1)) (p0.toInt) 30) := fun h9 => by rw [h9]
            refine lv_iload_n hx hb dX11_rows_78 rfl (lv_at hl 2 rfl) ?_
            refine xi_zne (tgt := 86) hx hb (rfl : Int32.toInt p1 = p1.toInt) dX11_rows_79 (by decide) (fun c79 => ?_) (fun c79 => ?_)
            · refine lv_iload hx hb dX11_rows_86 (lv_at hl 4 rfl) ?_
              exact x_ri hx hb hr hlk hQ (Nat.le_of_ble_eq_true rfl) (Nat.le_of_ble_eq_true rfl) hS dX11_rows_88 G2 ⟨_, rfl, (by rw [hG2]; exact XFr.dput XFr.rf (List.mem_of_getElem? (i := 0) rfl)), (v_X11_rows_88_2 (K := K) (F := F) a G l4_32 l5_32 p0 x6 x16 p1 l3_32 N32 ha pb t6 c9 t16 c19 z24 I32_0 I32_1 I32_2 I32_3 hm32 c36 z78 c79)⟩ hT
            · refine lv_iload_n hx hb dX11_rows_82 rfl (lv_at hl 3 rfl) ?_
              refine lv_goto (tgt := 88) hx hb dX11_rows_83 (by decide) ?_
              exact x_ri hx hb hr hlk hQ (Nat.le_of_ble_eq_true rfl) (Nat.le_of_ble_eq_true rfl) hS dX11_rows_88 G2 ⟨_, rfl, (by rw [hG2]; exact XFr.dput XFr.rf (List.mem_of_getElem? (i := 0) rfl)), (v_X11_rows_88_3 (K := K) (F := F) a G l4_32 l5_32 p0 x6 x16 p1 l3_32 N32 ha pb t6 c9 t16 c19 z24 I32_0 I32_1 I32_2 I32_3 hm32 c36 z78 c79)⟩ hT
          · have z39 : (aI (G.2.1 (F a 1)) (4 * (30 * p0.toInt + l5_32.toInt))) = 0 ∨ (aI (G.2.1 (F a 1)) (4 * (30 * p0.toInt + l5_32.toInt))) = 1 := hM.is2 (z_X11_rows_2 p0.toInt x6.toInt t6 c9) (z_X11_rows_3 l5_32.toInt I32_0 c36)
            have z39a : (rmR (G.2.1 (F a 1)) (p0.toInt) (l5_32.toInt + 1)) = (rmR (G.2.1 (F a 1)) (p0.toInt) (l5_32.toInt)) + (aI (G.2.1 (F a 1)) (4 * (30 * p0.toInt + l5_32.toInt))) := rmR_s _ _ (z_X11_rows_4 l5_32.toInt I32_0)
            refine lv_iload_n hx hb dX11_rows_39 rfl (lv_at hl 3 rfl) ?_
            refine lv_aload_n hx hb dX11_rows_40 rfl (lv_at hl 0 rfl) ?_
            refine gX11_1 S hK hT ha kf_X11_9 dX11_rows_41 (fun _ _ => ?_)
            refine lv_iload_n hx hb dX11_rows_44 rfl (lv_at hl 1 rfl) ?_
            refine lv_iload hx hb dX11_rows_45 (lv_at hl 5 rfl) ?_
            refine x_clp (x_runS (As := [.int p0, .int l5_32]) (rest := [.ref (F a 1), .int l3_32]) S (c_X11_at l E K F G2 H p0 l5_32) ms_X11_at km_X11_156 rfl rfl ⟨Nat.le_of_ble_eq_true rfl, Nat.le_of_ble_eq_true rfl⟩ hK (fun _ => XPh.blind) (fun U hU hW => XPh.at hK hz hS hT hU hW) rfl hl.1 (Nat.le_of_ble_eq_true rfl) dX11_rows_47 ⟨Nat.le_of_ble_eq_true rfl, Nat.le_of_ble_eq_true rfl⟩) hS ?_
            rintro _ _ locs ⟨x47, rfl, t47⟩ hS
            have t47 : 0 ≤ p0.toInt ∧ p0.toInt ≤ 2 ∧ 0 ≤ l5_32.toInt ∧ l5_32.toInt ≤ 29 → x47.toInt = 4 * (30 * p0.toInt + l5_32.toInt) := t47
            refine al_0 S hK hT hk9999 ar_30 (by decide) (z_X11_rows_5 l5_32.toInt p0.toInt x47.toInt x6.toInt t6 c9 I32_0 c36 t47) dX11_rows_50 (fun x50 hv50 o50 => ?_)
            have hv50 : x50.toInt = (aI (G.2.1 (F a 1)) (4 * (30 * p0.toInt + l5_32.toInt))) := hv50.trans (by rw [((rfl : Int32.toInt x47 = x47.toInt).trans (z_X11_rows_6 l5_32.toInt p0.toInt x47.toInt x6.toInt t6 c9 I32_0 c36 t47)), ((ld_c hG2) : G2.2.1 (F a 1) = G.2.1 (F a 1))])
            refine xi_iadd hx hb (rfl : Int32.toInt l3_32 = l3_32.toInt) (hv50 : Int32.toInt x50 = (aI (G.2.1 (F a 1)) (4 * (30 * p0.toInt + l5_32.toInt)))) dX11_rows_51 (fun x51 t51 => ?_)
            refine lv_istore_n (lv' := [(3, .int x51), (0, .ref a), (1, .int p0), (2, .int p1), (4, .int l4_32), (5, .int l5_32)]) hx hb dX11_rows_52 rfl hl (by decide) rfl (fun ls hl => ?_)
            refine lv_iload hx hb dX11_rows_53 (lv_at hl 4 rfl) ?_
            refine lv_aload_n hx hb dX11_rows_55 rfl (lv_at hl 1 rfl) ?_
            refine gX11_1 S hK hT ha kf_X11_9 dX11_rows_56 (fun _ _ => ?_)
            refine lv_iload_n hx hb dX11_rows_59 rfl (lv_at hl 2 rfl) ?_
            refine lv_iload hx hb dX11_rows_60 (lv_at hl 5 rfl) ?_
            refine x_clp (x_runS (As := [.int p0, .int l5_32]) (rest := [.ref (F a 1), .int l4_32]) S (c_X11_at l E K F G2 H p0 l5_32) ms_X11_at km_X11_156 rfl rfl ⟨Nat.le_of_ble_eq_true rfl, Nat.le_of_ble_eq_true rfl⟩ hK (fun _ => XPh.blind) (fun U hU hW => XPh.at hK hz hS hT hU hW) rfl hl.1 (Nat.le_of_ble_eq_true rfl) dX11_rows_62 ⟨Nat.le_of_ble_eq_true rfl, Nat.le_of_ble_eq_true rfl⟩) hS ?_
            rintro _ _ locs ⟨x62, rfl, t62⟩ hS
            have t62 : 0 ≤ p0.toInt ∧ p0.toInt ≤ 2 ∧ 0 ≤ l5_32.toInt ∧ l5_32.toInt ≤ 29 → x62.toInt = 4 * (30 * p0.toInt + l5_32.toInt) := t62
            refine al_0 S hK hT hk9999 ar_30 (by decide) (z_X11_rows_7 l5_32.toInt p0.toInt x6.toInt x62.toInt t6 c9 I32_0 c36 t62) dX11_rows_65 (fun x65 hv65 o65 => ?_)
            have hv65 : x65.toInt = (aI (G.2.1 (F a 1)) (4 * (30 * p0.toInt + l5_32.toInt))) := hv65.trans (by rw [((rfl : Int32.toInt x62 = x62.toInt).trans (z_X11_rows_8 l5_32.toInt p0.toInt x6.toInt x62.toInt t6 c9 I32_0 c36 t62)), ((ld_c hG2) : G2.2.1 (F a 1) = G.2.1 (F a 1))])
            refine lv_iload hx hb dX11_rows_66 (lv_at hl 5 rfl) ?_
            refine lv_ishl hx hb dX11_rows_68 (lv_topi (fun x68 he68 => ?_))
            refine lv_ior hx hb dX11_rows_69 (lv_topi (fun x69 he69 => ?_))
            refine lv_istore (lv' := [(4, .int x69), (3, .int x51), (0, .ref a), (1, .int p0), (2, .int p1), (5, .int l5_32)]) hx hb dX11_rows_70 hl (by decide) rfl (fun ls hl => ?_)
            refine xi_iinc (n := 1) (lv' := fun z9 => [(5, .int z9), (4, .int x69), (3, .int x51), (0, .ref a), (1, .int p0), (2, .int p1)]) (k := 5) hx hb (rfl : Int32.toInt l5_32 = l5_32.toInt) (by decide) dX11_rows_72 hl rfl (by decide) (fun _ => rfl) (fun x72 ls t72 hl => ?_)
            have e72 : x72.toInt = (l5_32.toInt + 1) := (z_X11_rows_9 l5_32.toInt x72.toInt I32_0 t72)
            have hl : lv_has ls 6 [(5, .int x72), (4, .int x69), (3, .int x51), (0, .ref a), (1, .int p0), (2, .int p1)] := hl
            refine lv_goto (tgt := 32) hx hb dX11_rows_75 (by decide) ?_
            exact ih32 x51 x69 x72 _ _ _ (by rw [(e72 : Int32.toInt x72 = (l5_32.toInt + 1))] <;> exact (v_X11_rows_75_4 (K := K) (F := F) a G l4_32 l5_32 p0 x65 x68 x69 x6 x16 p1 l3_32 N32 x47 x62 ha hM pb hv65 he68 he69 t6 c9 t16 c19 z24 I32_0 I32_1 I32_2 I32_3 hm32 c36 z39 z39a t47 t62)) (by rw [(e72 : Int32.toInt x72 = (l5_32.toInt + 1))] <;> exact (z_X11_rows_10 l5_32.toInt I32_0 c36)) (by rw [(e72 : Int32.toInt x72 = (l5_32.toInt + 1))] <;> exact (z_X11_rows_11 l3_32.toInt l5_32.toInt x51.toInt (aI (G.2.1 (F a 1)) (4 * (30 * p0.toInt + l5_32.toInt))) (rmR (G.2.1 (F a 1)) (p0.toInt) (l5_32.toInt + 1)) (rmR (G.2.1 (F a 1)) (p0.toInt) (l5_32.toInt)) I32_1 I32_2 c36 z39 z39a t51)) (by rw [(e72 : Int32.toInt x72 = (l5_32.toInt + 1))] <;> exact (z_X11_rows_12 l3_32.toInt l5_32.toInt x51.toInt (aI (G.2.1 (F a 1)) (4 * (30 * p0.toInt + l5_32.toInt))) I32_2 c36 z39 t51)) (by rw [(e72 : Int32.toInt x72 = (l5_32.toInt + 1))] <;> exact (z_X11_rows_13 l5_32.toInt I32_0)) (by rw [(e72 : Int32.toInt x72 = (l5_32.toInt + 1))] <;> exact (z_X11_lateMany_5 l5_32.toInt N32 hm32)) hT hS (lv_sub hl [3, 4, 5, 2, 1, 0] rfl)
      exact L32 4294967297 0 0 0 _ _ _ (v_X11_rows_30_5 (K := K) (F := F) a G x6 p0 x16 p1 ha t6 c9 t16 c19 z24) (by decide) (z_X11_rows_15 (rmR (G.2.1 (F a 1)) (p0.toInt) 0) z24) (by decide) (by decide) (by decide) hT hS (lv_sub hl [3, 4, 5, 2, 1, 0] rfl)
    · refine lv_iconst (v := (-1)) hx hb dX11_rows_22 (by decide) ?_
      exact x_ri hx hb hr hlk hQ (Nat.le_of_ble_eq_true rfl) (Nat.le_of_ble_eq_true rfl) hS dX11_rows_23 G2 ⟨_, rfl, (by rw [hG2]; exact XFr.dput XFr.rf (List.mem_of_getElem? (i := 0) rfl)), (by rw [((by decide) : Int32.toInt (-1) = (-1 : Int))] <;> exact (v_X11_rows_23_6 (K := K) (F := F) a G x6 p0 x16 p1 ha t6 c9 t16 c19))⟩ hT
theorem v_X11_queue_1_1 {F : Nat → Nat → Nat} (a : Nat) (G : XG)
    (hR : RV (G.2.1 (F a 10))) :
    RV (G.2.1 (F a 10)) := by exact hR
theorem v_X11_queue_1_2 {F : Nat → Nat → Nat} (a : Nat) (G : XG)
    (hM : RM (G.2.1 (F a 1)) (0)) :
    RM (G.2.1 (F a 1)) (0) := by exact hM
theorem v_X11_queue_1_3 {F : Nat → Nat → Nat} (a : Nat) (G : XG)
    (hB : RM (G.2.1 (F a 2)) 0) :
    RM (G.2.1 (F a 2)) 0 := by exact hB
theorem v_X11_queue_4_4 {F : Nat → Nat → Nat} (G1 : XG) (a : Nat) (G : XG)
    (oq1 : pL G1 F a = if ((G.1 a 6).toInt) = 0 then [] else fuO (G.2.1 (F a 10)) (mw (G.2.1 (F a 1)) 0) (mw (G.2.1 (F a 2)) 0) 1) :
    PV (G.2.1 (F a 10)) (pL G1 F a) := by
  rw [oq1]
  split
  · intro x hx; cases hx
  · exact fuO_pv _ _ _ _
theorem v_X11_queue_38_5 {K : Nat → Nat} {F : Nat → Nat → Nat} (a : Nat) (G : XG) (G1 : XG) (G26 : XG) (x15 : Int32) (p0 : Int32) (p1 : Int32)
    (ha : K a = 13)
    (oq1 : pL G1 F a = if ((G.1 a 6).toInt) = 0 then [] else fuO (G.2.1 (F a 10)) (mw (G.2.1 (F a 1)) 0) (mw (G.2.1 (F a 2)) 0) 1)
    (oq1a : ((G.1 a 6).toInt) ≠ 0 → LSt (G.2.1 (F a 10)) (G1.2.1 (F a 11)) (mw (G.2.1 (F a 1)) 0) 12 ∧ LSt (G.2.1 (F a 10)) (G1.2.1 (F a 13)) (mw (G.2.1 (F a 2)) 0) 12)
    (oq1b : G1.2.2.2 = G.2.2.2)
    (t1 : 0 ≤ ((G1.1 a 19).toInt) ∧ ((G1.1 a 19).toInt) ≤ 2388)
    (t15 : (x15.toInt = 1 ∧ (0 : Int) ≤ p0.toInt ∧ p0.toInt ≤ (((G1.1 a 19).toInt) - (1 : Int))) ∨ (x15.toInt = 0 ∧ (p0.toInt < (0 : Int) ∨ (((G1.1 a 19).toInt) - (1 : Int)) < p0.toInt)))
    (c18 : x15.toInt = 0)
    (d_G26_a_0 : G26.1 a 0 = 1) :
    (¬ (0 ≤ p0.toInt ∧ p0.toInt < (((if ((G.1 a 6).toInt) = 0 then [] else fuO (G.2.1 (F a 10)) (mw (G.2.1 (F a 1)) 0) (mw (G.2.1 (F a 2)) 0) 1).length : Nat) : Int)) ∧ ((G26.1 a 0).toInt) = 1 ∧ (0 : Int) = 0) ∨ (∃ y : Int × Int, 0 ≤ p0.toInt ∧ (if ((G.1 a 6).toInt) = 0 then [] else fuO (G.2.1 (F a 10)) (mw (G.2.1 (F a 1)) 0) (mw (G.2.1 (F a 2)) 0) 1)[(p0.toInt).toNat]? = some y ∧ ((G26.1 a 0).toInt) = 0 ∧ (0 : Int) = quM (G.2.1 (F a 10)) (mw (G.2.1 (F a 1)) 0) (mw (G.2.1 (F a 2)) 0) y p1.toInt) := by
  rw [← oq1, pL_len]
  exact Or.inl ⟨by omega, (congrArg Int32.toInt d_G26_a_0).trans (by decide), rfl⟩
theorem v_X11_queue_38_6 (a : Nat) (G : XG) (G1 : XG) (G26 : XG)
    (hG26 : G26 = dput G1 a 0 1)
    (oq1b : G1.2.2.2 = G.2.2.2) :
    G26.2.2.2 = G.2.2.2 := by
  rw [hG26]; exact oq1b
theorem v_X11_queue_152_7 {K : Nat → Nat} {F : Nat → Nat → Nat} (a : Nat) (G : XG) (G1 : XG) (G26 : XG) (p0 : Int32) (x15 : Int32) (p1 : Int32)
    (ha : K a = 13)
    (oq1 : pL G1 F a = if ((G.1 a 6).toInt) = 0 then [] else fuO (G.2.1 (F a 10)) (mw (G.2.1 (F a 1)) 0) (mw (G.2.1 (F a 2)) 0) 1)
    (oq1a : ((G.1 a 6).toInt) ≠ 0 → LSt (G.2.1 (F a 10)) (G1.2.1 (F a 11)) (mw (G.2.1 (F a 1)) 0) 12 ∧ LSt (G.2.1 (F a 10)) (G1.2.1 (F a 13)) (mw (G.2.1 (F a 2)) 0) 12)
    (oq1b : G1.2.2.2 = G.2.2.2)
    (t1 : 0 ≤ ((G1.1 a 19).toInt) ∧ ((G1.1 a 19).toInt) ≤ 2388)
    (t15 : (x15.toInt = 1 ∧ (0 : Int) ≤ p0.toInt ∧ p0.toInt ≤ (((G1.1 a 19).toInt) - (1 : Int))) ∨ (x15.toInt = 0 ∧ (p0.toInt < (0 : Int) ∨ (((G1.1 a 19).toInt) - (1 : Int)) < p0.toInt)))
    (c18 : ¬ (x15.toInt = 0))
    (z39 : (0 ≤ (aI (G1.2.1 (F a 17)) (p0.toInt)) ∧ (aI (G1.2.1 (F a 17)) (p0.toInt)) ≤ 11) ∧ (aI (G.2.1 (F a 10)) (10 * (aI (G1.2.1 (F a 17)) (p0.toInt)) + 0)) ≠ -1 ∧ ((sF (aI (G.2.1 (F a 10)) (10 * (aI (G1.2.1 (F a 17)) (p0.toInt)) + 0))) ≤ (aI (G1.2.1 (F a 18)) (p0.toInt)) ∧ (aI (G1.2.1 (F a 18)) (p0.toInt)) ≤ (sL (aI (G.2.1 (F a 10)) (10 * (aI (G1.2.1 (F a 17)) (p0.toInt)) + 0)))))
    (z39a : ((sF (aI (G.2.1 (F a 10)) (10 * (aI (G1.2.1 (F a 17)) (p0.toInt)) + 0))) = 0 ∨ (sF (aI (G.2.1 (F a 10)) (10 * (aI (G1.2.1 (F a 17)) (p0.toInt)) + 0))) = -99) ∧ ((sL (aI (G.2.1 (F a 10)) (10 * (aI (G1.2.1 (F a 17)) (p0.toInt)) + 0))) = 29 ∨ (sL (aI (G.2.1 (F a 10)) (10 * (aI (G1.2.1 (F a 17)) (p0.toInt)) + 0))) = 99))
    (c56 : p1.toInt < 0 ∨ 4 < p1.toInt)
    (d_G26_a_0 : G26.1 a 0 = 0) :
    (¬ (0 ≤ p0.toInt ∧ p0.toInt < (((if ((G.1 a 6).toInt) = 0 then [] else fuO (G.2.1 (F a 10)) (mw (G.2.1 (F a 1)) 0) (mw (G.2.1 (F a 2)) 0) 1).length : Nat) : Int)) ∧ ((G26.1 a 0).toInt) = 1 ∧ (-2147483648 : Int) = 0) ∨ (∃ y : Int × Int, 0 ≤ p0.toInt ∧ (if ((G.1 a 6).toInt) = 0 then [] else fuO (G.2.1 (F a 10)) (mw (G.2.1 (F a 1)) 0) (mw (G.2.1 (F a 2)) 0) 1)[(p0.toInt).toNat]? = some y ∧ ((G26.1 a 0).toInt) = 0 ∧ (-2147483648 : Int) = quM (G.2.1 (F a 10)) (mw (G.2.1 (F a 1)) 0) (mw (G.2.1 (F a 2)) 0) y p1.toInt) := by
  have hy := pL_at (G := G1) (F := F) (a := a) (z := p0.toInt) (by omega)
  rw [oq1] at hy
  have hw : (G.1 a 6).toInt ≠ 0 := fun h => by rw [if_pos h, List.getElem?_nil] at hy; cases hy
  refine Or.inr ⟨_, by omega, hy, (congrArg Int32.toInt d_G26_a_0).trans (by decide), ?_⟩
  exact (quM_o (by omega)).symm
theorem v_X11_queue_152_8 (a : Nat) (G : XG) (G1 : XG) (G26 : XG)
    (hG26 : G26 = dput G1 a 0 0)
    (oq1b : G1.2.2.2 = G.2.2.2) :
    G26.2.2.2 = G.2.2.2 := by
  rw [hG26]; exact oq1b
theorem v_X11_queue_98_9 {K : Nat → Nat} {F : Nat → Nat → Nat} (a : Nat) (G : XG) (G1 : XG) (G26 : XG) (p0 : Int32) (x15 : Int32) (p1 : Int32)
    (ha : K a = 13)
    (oq1 : pL G1 F a = if ((G.1 a 6).toInt) = 0 then [] else fuO (G.2.1 (F a 10)) (mw (G.2.1 (F a 1)) 0) (mw (G.2.1 (F a 2)) 0) 1)
    (oq1a : ((G.1 a 6).toInt) ≠ 0 → LSt (G.2.1 (F a 10)) (G1.2.1 (F a 11)) (mw (G.2.1 (F a 1)) 0) 12 ∧ LSt (G.2.1 (F a 10)) (G1.2.1 (F a 13)) (mw (G.2.1 (F a 2)) 0) 12)
    (oq1b : G1.2.2.2 = G.2.2.2)
    (t1 : 0 ≤ ((G1.1 a 19).toInt) ∧ ((G1.1 a 19).toInt) ≤ 2388)
    (t15 : (x15.toInt = 1 ∧ (0 : Int) ≤ p0.toInt ∧ p0.toInt ≤ (((G1.1 a 19).toInt) - (1 : Int))) ∨ (x15.toInt = 0 ∧ (p0.toInt < (0 : Int) ∨ (((G1.1 a 19).toInt) - (1 : Int)) < p0.toInt)))
    (c18 : ¬ (x15.toInt = 0))
    (z39 : (0 ≤ (aI (G1.2.1 (F a 17)) (p0.toInt)) ∧ (aI (G1.2.1 (F a 17)) (p0.toInt)) ≤ 11) ∧ (aI (G.2.1 (F a 10)) (10 * (aI (G1.2.1 (F a 17)) (p0.toInt)) + 0)) ≠ -1 ∧ ((sF (aI (G.2.1 (F a 10)) (10 * (aI (G1.2.1 (F a 17)) (p0.toInt)) + 0))) ≤ (aI (G1.2.1 (F a 18)) (p0.toInt)) ∧ (aI (G1.2.1 (F a 18)) (p0.toInt)) ≤ (sL (aI (G.2.1 (F a 10)) (10 * (aI (G1.2.1 (F a 17)) (p0.toInt)) + 0)))))
    (z39a : ((sF (aI (G.2.1 (F a 10)) (10 * (aI (G1.2.1 (F a 17)) (p0.toInt)) + 0))) = 0 ∨ (sF (aI (G.2.1 (F a 10)) (10 * (aI (G1.2.1 (F a 17)) (p0.toInt)) + 0))) = -99) ∧ ((sL (aI (G.2.1 (F a 10)) (10 * (aI (G1.2.1 (F a 17)) (p0.toInt)) + 0))) = 29 ∨ (sL (aI (G.2.1 (F a 10)) (10 * (aI (G1.2.1 (F a 17)) (p0.toInt)) + 0))) = 99))
    (c56 : p1.toInt = 0)
    (d_G26_a_0 : G26.1 a 0 = 0) :
    (¬ (0 ≤ p0.toInt ∧ p0.toInt < (((if ((G.1 a 6).toInt) = 0 then [] else fuO (G.2.1 (F a 10)) (mw (G.2.1 (F a 1)) 0) (mw (G.2.1 (F a 2)) 0) 1).length : Nat) : Int)) ∧ ((G26.1 a 0).toInt) = 1 ∧ (aI (G1.2.1 (F a 17)) (p0.toInt)) = 0) ∨ (∃ y : Int × Int, 0 ≤ p0.toInt ∧ (if ((G.1 a 6).toInt) = 0 then [] else fuO (G.2.1 (F a 10)) (mw (G.2.1 (F a 1)) 0) (mw (G.2.1 (F a 2)) 0) 1)[(p0.toInt).toNat]? = some y ∧ ((G26.1 a 0).toInt) = 0 ∧ (aI (G1.2.1 (F a 17)) (p0.toInt)) = quM (G.2.1 (F a 10)) (mw (G.2.1 (F a 1)) 0) (mw (G.2.1 (F a 2)) 0) y p1.toInt) := by
  have hy := pL_at (G := G1) (F := F) (a := a) (z := p0.toInt) (by omega)
  rw [oq1] at hy
  have hw : (G.1 a 6).toInt ≠ 0 := fun h => by rw [if_pos h, List.getElem?_nil] at hy; cases hy
  refine Or.inr ⟨_, by omega, hy, (congrArg Int32.toInt d_G26_a_0).trans (by decide), ?_⟩
  rw [quM_0 (by omega)]
theorem v_X11_queue_98_10 (a : Nat) (G : XG) (G1 : XG) (G26 : XG)
    (hG26 : G26 = dput G1 a 0 0)
    (oq1b : G1.2.2.2 = G.2.2.2) :
    G26.2.2.2 = G.2.2.2 := by
  rw [hG26]; exact oq1b
theorem v_X11_queue_105_11 {K : Nat → Nat} {F : Nat → Nat → Nat} (a : Nat) (G : XG) (G1 : XG) (G26 : XG) (p0 : Int32) (x15 : Int32) (p1 : Int32)
    (ha : K a = 13)
    (oq1 : pL G1 F a = if ((G.1 a 6).toInt) = 0 then [] else fuO (G.2.1 (F a 10)) (mw (G.2.1 (F a 1)) 0) (mw (G.2.1 (F a 2)) 0) 1)
    (oq1a : ((G.1 a 6).toInt) ≠ 0 → LSt (G.2.1 (F a 10)) (G1.2.1 (F a 11)) (mw (G.2.1 (F a 1)) 0) 12 ∧ LSt (G.2.1 (F a 10)) (G1.2.1 (F a 13)) (mw (G.2.1 (F a 2)) 0) 12)
    (oq1b : G1.2.2.2 = G.2.2.2)
    (t1 : 0 ≤ ((G1.1 a 19).toInt) ∧ ((G1.1 a 19).toInt) ≤ 2388)
    (t15 : (x15.toInt = 1 ∧ (0 : Int) ≤ p0.toInt ∧ p0.toInt ≤ (((G1.1 a 19).toInt) - (1 : Int))) ∨ (x15.toInt = 0 ∧ (p0.toInt < (0 : Int) ∨ (((G1.1 a 19).toInt) - (1 : Int)) < p0.toInt)))
    (c18 : ¬ (x15.toInt = 0))
    (z39 : (0 ≤ (aI (G1.2.1 (F a 17)) (p0.toInt)) ∧ (aI (G1.2.1 (F a 17)) (p0.toInt)) ≤ 11) ∧ (aI (G.2.1 (F a 10)) (10 * (aI (G1.2.1 (F a 17)) (p0.toInt)) + 0)) ≠ -1 ∧ ((sF (aI (G.2.1 (F a 10)) (10 * (aI (G1.2.1 (F a 17)) (p0.toInt)) + 0))) ≤ (aI (G1.2.1 (F a 18)) (p0.toInt)) ∧ (aI (G1.2.1 (F a 18)) (p0.toInt)) ≤ (sL (aI (G.2.1 (F a 10)) (10 * (aI (G1.2.1 (F a 17)) (p0.toInt)) + 0)))))
    (z39a : ((sF (aI (G.2.1 (F a 10)) (10 * (aI (G1.2.1 (F a 17)) (p0.toInt)) + 0))) = 0 ∨ (sF (aI (G.2.1 (F a 10)) (10 * (aI (G1.2.1 (F a 17)) (p0.toInt)) + 0))) = -99) ∧ ((sL (aI (G.2.1 (F a 10)) (10 * (aI (G1.2.1 (F a 17)) (p0.toInt)) + 0))) = 29 ∨ (sL (aI (G.2.1 (F a 10)) (10 * (aI (G1.2.1 (F a 17)) (p0.toInt)) + 0))) = 99))
    (c56 : p1.toInt = 1)
    (d_G26_a_0 : G26.1 a 0 = 0) :
    (¬ (0 ≤ p0.toInt ∧ p0.toInt < (((if ((G.1 a 6).toInt) = 0 then [] else fuO (G.2.1 (F a 10)) (mw (G.2.1 (F a 1)) 0) (mw (G.2.1 (F a 2)) 0) 1).length : Nat) : Int)) ∧ ((G26.1 a 0).toInt) = 1 ∧ (aI (G1.2.1 (F a 18)) (p0.toInt)) = 0) ∨ (∃ y : Int × Int, 0 ≤ p0.toInt ∧ (if ((G.1 a 6).toInt) = 0 then [] else fuO (G.2.1 (F a 10)) (mw (G.2.1 (F a 1)) 0) (mw (G.2.1 (F a 2)) 0) 1)[(p0.toInt).toNat]? = some y ∧ ((G26.1 a 0).toInt) = 0 ∧ (aI (G1.2.1 (F a 18)) (p0.toInt)) = quM (G.2.1 (F a 10)) (mw (G.2.1 (F a 1)) 0) (mw (G.2.1 (F a 2)) 0) y p1.toInt) := by
  have hy := pL_at (G := G1) (F := F) (a := a) (z := p0.toInt) (by omega)
  rw [oq1] at hy
  have hw : (G.1 a 6).toInt ≠ 0 := fun h => by rw [if_pos h, List.getElem?_nil] at hy; cases hy
  refine Or.inr ⟨_, by omega, hy, (congrArg Int32.toInt d_G26_a_0).trans (by decide), ?_⟩
  rw [quM_1 (by omega)]
theorem v_X11_queue_105_12 (a : Nat) (G : XG) (G1 : XG) (G26 : XG)
    (hG26 : G26 = dput G1 a 0 0)
    (oq1b : G1.2.2.2 = G.2.2.2) :
    G26.2.2.2 = G.2.2.2 := by
  rw [hG26]; exact oq1b
theorem v_X11_queue_112_13 {K : Nat → Nat} {F : Nat → Nat → Nat} (a : Nat) (G : XG) (G1 : XG) (G26 : XG) (p0 : Int32) (x15 : Int32) (p1 : Int32)
    (ha : K a = 13)
    (hk9999 : K (F a 15) = 42)
    (hj9999 : F (F a 15) 99 = 15)
    (hk9999a : K (F a 17) = 43)
    (hj9999a : F (F a 17) 99 = 17)
    (hk9999b : K (F a 18) = 44)
    (hj9999b : F (F a 18) 99 = 18)
    (hk9999c : K (F a 11) = 38)
    (hj9999c : F (F a 11) 99 = 11)
    (hk9999d : K (F a 13) = 38)
    (hj9999d : F (F a 13) 99 = 13)
    (hk9999e : K (F a 10) = 37)
    (hj9999e : F (F a 10) 99 = 10)
    (hk9999f : K (F a 1) = 30)
    (hj9999f : F (F a 1) 99 = 1)
    (hk9999g : K (F a 2) = 31)
    (hj9999g : F (F a 2) 99 = 2)
    (oq1 : pL G1 F a = if ((G.1 a 6).toInt) = 0 then [] else fuO (G.2.1 (F a 10)) (mw (G.2.1 (F a 1)) 0) (mw (G.2.1 (F a 2)) 0) 1)
    (oq1a : ((G.1 a 6).toInt) ≠ 0 → LSt (G.2.1 (F a 10)) (G1.2.1 (F a 11)) (mw (G.2.1 (F a 1)) 0) 12 ∧ LSt (G.2.1 (F a 10)) (G1.2.1 (F a 13)) (mw (G.2.1 (F a 2)) 0) 12)
    (oq1b : G1.2.2.2 = G.2.2.2)
    (t1 : 0 ≤ ((G1.1 a 19).toInt) ∧ ((G1.1 a 19).toInt) ≤ 2388)
    (t15 : (x15.toInt = 1 ∧ (0 : Int) ≤ p0.toInt ∧ p0.toInt ≤ (((G1.1 a 19).toInt) - (1 : Int))) ∨ (x15.toInt = 0 ∧ (p0.toInt < (0 : Int) ∨ (((G1.1 a 19).toInt) - (1 : Int)) < p0.toInt)))
    (c18 : ¬ (x15.toInt = 0))
    (z39 : (0 ≤ (aI (G1.2.1 (F a 17)) (p0.toInt)) ∧ (aI (G1.2.1 (F a 17)) (p0.toInt)) ≤ 11) ∧ (aI (G.2.1 (F a 10)) (10 * (aI (G1.2.1 (F a 17)) (p0.toInt)) + 0)) ≠ -1 ∧ ((sF (aI (G.2.1 (F a 10)) (10 * (aI (G1.2.1 (F a 17)) (p0.toInt)) + 0))) ≤ (aI (G1.2.1 (F a 18)) (p0.toInt)) ∧ (aI (G1.2.1 (F a 18)) (p0.toInt)) ≤ (sL (aI (G.2.1 (F a 10)) (10 * (aI (G1.2.1 (F a 17)) (p0.toInt)) + 0)))))
    (z39a : ((sF (aI (G.2.1 (F a 10)) (10 * (aI (G1.2.1 (F a 17)) (p0.toInt)) + 0))) = 0 ∨ (sF (aI (G.2.1 (F a 10)) (10 * (aI (G1.2.1 (F a 17)) (p0.toInt)) + 0))) = -99) ∧ ((sL (aI (G.2.1 (F a 10)) (10 * (aI (G1.2.1 (F a 17)) (p0.toInt)) + 0))) = 29 ∨ (sL (aI (G.2.1 (F a 10)) (10 * (aI (G1.2.1 (F a 17)) (p0.toInt)) + 0))) = 99))
    (c56 : p1.toInt = 2)
    (d_G26_a_0 : G26.1 a 0 = 0) :
    (¬ (0 ≤ p0.toInt ∧ p0.toInt < (((if ((G.1 a 6).toInt) = 0 then [] else fuO (G.2.1 (F a 10)) (mw (G.2.1 (F a 1)) 0) (mw (G.2.1 (F a 2)) 0) 1).length : Nat) : Int)) ∧ ((G26.1 a 0).toInt) = 1 ∧ (aI (G1.2.1 (F a 13)) (199 * (aI (G1.2.1 (F a 17)) (p0.toInt)) + (aI (G1.2.1 (F a 18)) (p0.toInt)) + 99)) = 0) ∨ (∃ y : Int × Int, 0 ≤ p0.toInt ∧ (if ((G.1 a 6).toInt) = 0 then [] else fuO (G.2.1 (F a 10)) (mw (G.2.1 (F a 1)) 0) (mw (G.2.1 (F a 2)) 0) 1)[(p0.toInt).toNat]? = some y ∧ ((G26.1 a 0).toInt) = 0 ∧ (aI (G1.2.1 (F a 13)) (199 * (aI (G1.2.1 (F a 17)) (p0.toInt)) + (aI (G1.2.1 (F a 18)) (p0.toInt)) + 99)) = quM (G.2.1 (F a 10)) (mw (G.2.1 (F a 1)) 0) (mw (G.2.1 (F a 2)) 0) y p1.toInt) := by
  have hy := pL_at (G := G1) (F := F) (a := a) (z := p0.toInt) (by omega)
  rw [oq1] at hy
  have hw : (G.1 a 6).toInt ≠ 0 := fun h => by rw [if_pos h, List.getElem?_nil] at hy; cases hy
  refine Or.inr ⟨_, by omega, hy, (congrArg Int32.toInt d_G26_a_0).trans (by decide), ?_⟩
  rw [quM_2 (by omega)]
  exact (oq1a hw).2 _ _ z39.1.1 (by omega) z39.2.1 (sbj_FL.mpr z39.2.2)
theorem v_X11_queue_112_14 (a : Nat) (G : XG) (G1 : XG) (G26 : XG)
    (hG26 : G26 = dput G1 a 0 0)
    (oq1b : G1.2.2.2 = G.2.2.2) :
    G26.2.2.2 = G.2.2.2 := by
  rw [hG26]; exact oq1b
theorem v_X11_queue_119_15 {K : Nat → Nat} {F : Nat → Nat → Nat} (a : Nat) (G : XG) (G1 : XG) (G26 : XG) (p0 : Int32) (x15 : Int32) (p1 : Int32)
    (ha : K a = 13)
    (hk9999 : K (F a 15) = 42)
    (hj9999 : F (F a 15) 99 = 15)
    (hk9999a : K (F a 17) = 43)
    (hj9999a : F (F a 17) 99 = 17)
    (hk9999b : K (F a 18) = 44)
    (hj9999b : F (F a 18) 99 = 18)
    (hk9999c : K (F a 11) = 38)
    (hj9999c : F (F a 11) 99 = 11)
    (hk9999d : K (F a 13) = 38)
    (hj9999d : F (F a 13) 99 = 13)
    (hk9999e : K (F a 10) = 37)
    (hj9999e : F (F a 10) 99 = 10)
    (hk9999f : K (F a 1) = 30)
    (hj9999f : F (F a 1) 99 = 1)
    (hk9999g : K (F a 2) = 31)
    (hj9999g : F (F a 2) 99 = 2)
    (oq1 : pL G1 F a = if ((G.1 a 6).toInt) = 0 then [] else fuO (G.2.1 (F a 10)) (mw (G.2.1 (F a 1)) 0) (mw (G.2.1 (F a 2)) 0) 1)
    (oq1a : ((G.1 a 6).toInt) ≠ 0 → LSt (G.2.1 (F a 10)) (G1.2.1 (F a 11)) (mw (G.2.1 (F a 1)) 0) 12 ∧ LSt (G.2.1 (F a 10)) (G1.2.1 (F a 13)) (mw (G.2.1 (F a 2)) 0) 12)
    (oq1b : G1.2.2.2 = G.2.2.2)
    (t1 : 0 ≤ ((G1.1 a 19).toInt) ∧ ((G1.1 a 19).toInt) ≤ 2388)
    (t15 : (x15.toInt = 1 ∧ (0 : Int) ≤ p0.toInt ∧ p0.toInt ≤ (((G1.1 a 19).toInt) - (1 : Int))) ∨ (x15.toInt = 0 ∧ (p0.toInt < (0 : Int) ∨ (((G1.1 a 19).toInt) - (1 : Int)) < p0.toInt)))
    (c18 : ¬ (x15.toInt = 0))
    (z39 : (0 ≤ (aI (G1.2.1 (F a 17)) (p0.toInt)) ∧ (aI (G1.2.1 (F a 17)) (p0.toInt)) ≤ 11) ∧ (aI (G.2.1 (F a 10)) (10 * (aI (G1.2.1 (F a 17)) (p0.toInt)) + 0)) ≠ -1 ∧ ((sF (aI (G.2.1 (F a 10)) (10 * (aI (G1.2.1 (F a 17)) (p0.toInt)) + 0))) ≤ (aI (G1.2.1 (F a 18)) (p0.toInt)) ∧ (aI (G1.2.1 (F a 18)) (p0.toInt)) ≤ (sL (aI (G.2.1 (F a 10)) (10 * (aI (G1.2.1 (F a 17)) (p0.toInt)) + 0)))))
    (z39a : ((sF (aI (G.2.1 (F a 10)) (10 * (aI (G1.2.1 (F a 17)) (p0.toInt)) + 0))) = 0 ∨ (sF (aI (G.2.1 (F a 10)) (10 * (aI (G1.2.1 (F a 17)) (p0.toInt)) + 0))) = -99) ∧ ((sL (aI (G.2.1 (F a 10)) (10 * (aI (G1.2.1 (F a 17)) (p0.toInt)) + 0))) = 29 ∨ (sL (aI (G.2.1 (F a 10)) (10 * (aI (G1.2.1 (F a 17)) (p0.toInt)) + 0))) = 99))
    (c56 : p1.toInt = 3)
    (d_G26_a_0 : G26.1 a 0 = 0) :
    (¬ (0 ≤ p0.toInt ∧ p0.toInt < (((if ((G.1 a 6).toInt) = 0 then [] else fuO (G.2.1 (F a 10)) (mw (G.2.1 (F a 1)) 0) (mw (G.2.1 (F a 2)) 0) 1).length : Nat) : Int)) ∧ ((G26.1 a 0).toInt) = 1 ∧ (aI (G1.2.1 (F a 11)) (199 * (aI (G1.2.1 (F a 17)) (p0.toInt)) + (aI (G1.2.1 (F a 18)) (p0.toInt)) + 99)) = 0) ∨ (∃ y : Int × Int, 0 ≤ p0.toInt ∧ (if ((G.1 a 6).toInt) = 0 then [] else fuO (G.2.1 (F a 10)) (mw (G.2.1 (F a 1)) 0) (mw (G.2.1 (F a 2)) 0) 1)[(p0.toInt).toNat]? = some y ∧ ((G26.1 a 0).toInt) = 0 ∧ (aI (G1.2.1 (F a 11)) (199 * (aI (G1.2.1 (F a 17)) (p0.toInt)) + (aI (G1.2.1 (F a 18)) (p0.toInt)) + 99)) = quM (G.2.1 (F a 10)) (mw (G.2.1 (F a 1)) 0) (mw (G.2.1 (F a 2)) 0) y p1.toInt) := by
  have hy := pL_at (G := G1) (F := F) (a := a) (z := p0.toInt) (by omega)
  rw [oq1] at hy
  have hw : (G.1 a 6).toInt ≠ 0 := fun h => by rw [if_pos h, List.getElem?_nil] at hy; cases hy
  refine Or.inr ⟨_, by omega, hy, (congrArg Int32.toInt d_G26_a_0).trans (by decide), ?_⟩
  rw [quM_3 (by omega)]
  exact (oq1a hw).1 _ _ z39.1.1 (by omega) z39.2.1 (sbj_FL.mpr z39.2.2)
theorem v_X11_queue_119_16 (a : Nat) (G : XG) (G1 : XG) (G26 : XG)
    (hG26 : G26 = dput G1 a 0 0)
    (oq1b : G1.2.2.2 = G.2.2.2) :
    G26.2.2.2 = G.2.2.2 := by
  rw [hG26]; exact oq1b
theorem v_X11_queue_138_17 {F : Nat → Nat → Nat} (a : Nat) (G : XG) (G26 : XG)
    (hR : RV (G.2.1 (F a 10)))
    (c_G26_F_a_10 : G26.2.1 (F a 10) = G.2.1 (F a 10)) :
    RV (G26.2.1 (F a 10)) := by simp only [c_G26_F_a_10]; assumption
theorem v_X11_queue_138_18 {F : Nat → Nat → Nat} (a : Nat) (G : XG) (G26 : XG)
    (hM : RM (G.2.1 (F a 1)) (0))
    (hB : RM (G.2.1 (F a 2)) 0)
    (c_G26_F_a_1 : G26.2.1 (F a 1) = G.2.1 (F a 1)) :
    RM (G26.2.1 (F a 1)) (0 : Int) := by simp only [c_G26_F_a_1]; assumption
theorem v_X11_queue_149_19 {K : Nat → Nat} {F : Nat → Nat → Nat} (a : Nat) (G : XG) (G1 : XG) (G26 : XG) (p0 : Int32) (x15 : Int32) (p1 : Int32) (x138 : Int32)
    (ha : K a = 13)
    (oq1 : pL G1 F a = if ((G.1 a 6).toInt) = 0 then [] else fuO (G.2.1 (F a 10)) (mw (G.2.1 (F a 1)) 0) (mw (G.2.1 (F a 2)) 0) 1)
    (oq1a : ((G.1 a 6).toInt) ≠ 0 → LSt (G.2.1 (F a 10)) (G1.2.1 (F a 11)) (mw (G.2.1 (F a 1)) 0) 12 ∧ LSt (G.2.1 (F a 10)) (G1.2.1 (F a 13)) (mw (G.2.1 (F a 2)) 0) 12)
    (oq1b : G1.2.2.2 = G.2.2.2)
    (t1 : 0 ≤ ((G1.1 a 19).toInt) ∧ ((G1.1 a 19).toInt) ≤ 2388)
    (t15 : (x15.toInt = 1 ∧ (0 : Int) ≤ p0.toInt ∧ p0.toInt ≤ (((G1.1 a 19).toInt) - (1 : Int))) ∨ (x15.toInt = 0 ∧ (p0.toInt < (0 : Int) ∨ (((G1.1 a 19).toInt) - (1 : Int)) < p0.toInt)))
    (c18 : ¬ (x15.toInt = 0))
    (z39 : (0 ≤ (aI (G1.2.1 (F a 17)) (p0.toInt)) ∧ (aI (G1.2.1 (F a 17)) (p0.toInt)) ≤ 11) ∧ (aI (G.2.1 (F a 10)) (10 * (aI (G1.2.1 (F a 17)) (p0.toInt)) + 0)) ≠ -1 ∧ ((sF (aI (G.2.1 (F a 10)) (10 * (aI (G1.2.1 (F a 17)) (p0.toInt)) + 0))) ≤ (aI (G1.2.1 (F a 18)) (p0.toInt)) ∧ (aI (G1.2.1 (F a 18)) (p0.toInt)) ≤ (sL (aI (G.2.1 (F a 10)) (10 * (aI (G1.2.1 (F a 17)) (p0.toInt)) + 0)))))
    (z39a : ((sF (aI (G.2.1 (F a 10)) (10 * (aI (G1.2.1 (F a 17)) (p0.toInt)) + 0))) = 0 ∨ (sF (aI (G.2.1 (F a 10)) (10 * (aI (G1.2.1 (F a 17)) (p0.toInt)) + 0))) = -99) ∧ ((sL (aI (G.2.1 (F a 10)) (10 * (aI (G1.2.1 (F a 17)) (p0.toInt)) + 0))) = 29 ∨ (sL (aI (G.2.1 (F a 10)) (10 * (aI (G1.2.1 (F a 17)) (p0.toInt)) + 0))) = 99))
    (c56 : p1.toInt = 4)
    (t138 : x138.toInt = (flq (mw (G.2.1 (F a 1)) 0) (aI (G.2.1 (F a 10)) (10 * (aI (G1.2.1 (F a 17)) (p0.toInt)) + 0)) (aI (G.2.1 (F a 10)) (10 * (aI (G1.2.1 (F a 17)) (p0.toInt)) + 1)) (aI (G.2.1 (F a 10)) (10 * (aI (G1.2.1 (F a 17)) (p0.toInt)) + 2)) (aI (G.2.1 (F a 10)) (10 * (aI (G1.2.1 (F a 17)) (p0.toInt)) + 4)) (aI (G.2.1 (F a 10)) (10 * (aI (G1.2.1 (F a 17)) (p0.toInt)) + 5)) (aI (G1.2.1 (F a 18)) (p0.toInt)) (stt (mw (G.2.1 (F a 1)) 0) (aI (G.2.1 (F a 10)) (10 * (aI (G1.2.1 (F a 17)) (p0.toInt)) + 0)) (aI (G.2.1 (F a 10)) (10 * (aI (G1.2.1 (F a 17)) (p0.toInt)) + 1)) (aI (G.2.1 (F a 10)) (10 * (aI (G1.2.1 (F a 17)) (p0.toInt)) + 2)) (aI (G.2.1 (F a 10)) (10 * (aI (G1.2.1 (F a 17)) (p0.toInt)) + 3)) (aI (G1.2.1 (F a 18)) (p0.toInt)))))
    (f38 : x138.toInt = 0 ∨ x138.toInt = 1)
    (c141 : x138.toInt = 0)
    (d_G26_a_0 : G26.1 a 0 = 0) :
    (¬ (0 ≤ p0.toInt ∧ p0.toInt < (((if ((G.1 a 6).toInt) = 0 then [] else fuO (G.2.1 (F a 10)) (mw (G.2.1 (F a 1)) 0) (mw (G.2.1 (F a 2)) 0) 1).length : Nat) : Int)) ∧ ((G26.1 a 0).toInt) = 1 ∧ (0 : Int) = 0) ∨ (∃ y : Int × Int, 0 ≤ p0.toInt ∧ (if ((G.1 a 6).toInt) = 0 then [] else fuO (G.2.1 (F a 10)) (mw (G.2.1 (F a 1)) 0) (mw (G.2.1 (F a 2)) 0) 1)[(p0.toInt).toNat]? = some y ∧ ((G26.1 a 0).toInt) = 0 ∧ (0 : Int) = quM (G.2.1 (F a 10)) (mw (G.2.1 (F a 1)) 0) (mw (G.2.1 (F a 2)) 0) y p1.toInt) := by
  have hy := pL_at (G := G1) (F := F) (a := a) (z := p0.toInt) (by omega)
  rw [oq1] at hy
  have hw : (G.1 a 6).toInt ≠ 0 := fun h => by rw [if_pos h, List.getElem?_nil] at hy; cases hy
  refine Or.inr ⟨_, by omega, hy, (congrArg Int32.toInt d_G26_a_0).trans (by decide), ?_⟩
  rw [quM_4 (by omega)]
  first
    | exact (show (0 : Int) = x138.toInt by omega).trans t138
    | exact (show (1 : Int) = x138.toInt by omega).trans t138
theorem v_X11_queue_149_20 (a : Nat) (G : XG) (G1 : XG) (G26 : XG)
    (hG26 : G26 = dput G1 a 0 0)
    (oq1b : G1.2.2.2 = G.2.2.2) :
    G26.2.2.2 = G.2.2.2 := by
  rw [hG26]; exact oq1b
theorem v_X11_queue_149_21 {K : Nat → Nat} {F : Nat → Nat → Nat} (a : Nat) (G : XG) (G1 : XG) (G26 : XG) (p0 : Int32) (x15 : Int32) (p1 : Int32) (x138 : Int32)
    (ha : K a = 13)
    (oq1 : pL G1 F a = if ((G.1 a 6).toInt) = 0 then [] else fuO (G.2.1 (F a 10)) (mw (G.2.1 (F a 1)) 0) (mw (G.2.1 (F a 2)) 0) 1)
    (oq1a : ((G.1 a 6).toInt) ≠ 0 → LSt (G.2.1 (F a 10)) (G1.2.1 (F a 11)) (mw (G.2.1 (F a 1)) 0) 12 ∧ LSt (G.2.1 (F a 10)) (G1.2.1 (F a 13)) (mw (G.2.1 (F a 2)) 0) 12)
    (oq1b : G1.2.2.2 = G.2.2.2)
    (t1 : 0 ≤ ((G1.1 a 19).toInt) ∧ ((G1.1 a 19).toInt) ≤ 2388)
    (t15 : (x15.toInt = 1 ∧ (0 : Int) ≤ p0.toInt ∧ p0.toInt ≤ (((G1.1 a 19).toInt) - (1 : Int))) ∨ (x15.toInt = 0 ∧ (p0.toInt < (0 : Int) ∨ (((G1.1 a 19).toInt) - (1 : Int)) < p0.toInt)))
    (c18 : ¬ (x15.toInt = 0))
    (z39 : (0 ≤ (aI (G1.2.1 (F a 17)) (p0.toInt)) ∧ (aI (G1.2.1 (F a 17)) (p0.toInt)) ≤ 11) ∧ (aI (G.2.1 (F a 10)) (10 * (aI (G1.2.1 (F a 17)) (p0.toInt)) + 0)) ≠ -1 ∧ ((sF (aI (G.2.1 (F a 10)) (10 * (aI (G1.2.1 (F a 17)) (p0.toInt)) + 0))) ≤ (aI (G1.2.1 (F a 18)) (p0.toInt)) ∧ (aI (G1.2.1 (F a 18)) (p0.toInt)) ≤ (sL (aI (G.2.1 (F a 10)) (10 * (aI (G1.2.1 (F a 17)) (p0.toInt)) + 0)))))
    (z39a : ((sF (aI (G.2.1 (F a 10)) (10 * (aI (G1.2.1 (F a 17)) (p0.toInt)) + 0))) = 0 ∨ (sF (aI (G.2.1 (F a 10)) (10 * (aI (G1.2.1 (F a 17)) (p0.toInt)) + 0))) = -99) ∧ ((sL (aI (G.2.1 (F a 10)) (10 * (aI (G1.2.1 (F a 17)) (p0.toInt)) + 0))) = 29 ∨ (sL (aI (G.2.1 (F a 10)) (10 * (aI (G1.2.1 (F a 17)) (p0.toInt)) + 0))) = 99))
    (c56 : p1.toInt = 4)
    (t138 : x138.toInt = (flq (mw (G.2.1 (F a 1)) 0) (aI (G.2.1 (F a 10)) (10 * (aI (G1.2.1 (F a 17)) (p0.toInt)) + 0)) (aI (G.2.1 (F a 10)) (10 * (aI (G1.2.1 (F a 17)) (p0.toInt)) + 1)) (aI (G.2.1 (F a 10)) (10 * (aI (G1.2.1 (F a 17)) (p0.toInt)) + 2)) (aI (G.2.1 (F a 10)) (10 * (aI (G1.2.1 (F a 17)) (p0.toInt)) + 4)) (aI (G.2.1 (F a 10)) (10 * (aI (G1.2.1 (F a 17)) (p0.toInt)) + 5)) (aI (G1.2.1 (F a 18)) (p0.toInt)) (stt (mw (G.2.1 (F a 1)) 0) (aI (G.2.1 (F a 10)) (10 * (aI (G1.2.1 (F a 17)) (p0.toInt)) + 0)) (aI (G.2.1 (F a 10)) (10 * (aI (G1.2.1 (F a 17)) (p0.toInt)) + 1)) (aI (G.2.1 (F a 10)) (10 * (aI (G1.2.1 (F a 17)) (p0.toInt)) + 2)) (aI (G.2.1 (F a 10)) (10 * (aI (G1.2.1 (F a 17)) (p0.toInt)) + 3)) (aI (G1.2.1 (F a 18)) (p0.toInt)))))
    (f38 : x138.toInt = 0 ∨ x138.toInt = 1)
    (c141 : ¬ (x138.toInt = 0))
    (d_G26_a_0 : G26.1 a 0 = 0) :
    (¬ (0 ≤ p0.toInt ∧ p0.toInt < (((if ((G.1 a 6).toInt) = 0 then [] else fuO (G.2.1 (F a 10)) (mw (G.2.1 (F a 1)) 0) (mw (G.2.1 (F a 2)) 0) 1).length : Nat) : Int)) ∧ ((G26.1 a 0).toInt) = 1 ∧ (1 : Int) = 0) ∨ (∃ y : Int × Int, 0 ≤ p0.toInt ∧ (if ((G.1 a 6).toInt) = 0 then [] else fuO (G.2.1 (F a 10)) (mw (G.2.1 (F a 1)) 0) (mw (G.2.1 (F a 2)) 0) 1)[(p0.toInt).toNat]? = some y ∧ ((G26.1 a 0).toInt) = 0 ∧ (1 : Int) = quM (G.2.1 (F a 10)) (mw (G.2.1 (F a 1)) 0) (mw (G.2.1 (F a 2)) 0) y p1.toInt) := by
  have hy := pL_at (G := G1) (F := F) (a := a) (z := p0.toInt) (by omega)
  rw [oq1] at hy
  have hw : (G.1 a 6).toInt ≠ 0 := fun h => by rw [if_pos h, List.getElem?_nil] at hy; cases hy
  refine Or.inr ⟨_, by omega, hy, (congrArg Int32.toInt d_G26_a_0).trans (by decide), ?_⟩
  rw [quM_4 (by omega)]
  first
    | exact (show (0 : Int) = x138.toInt by omega).trans t138
    | exact (show (1 : Int) = x138.toInt by omega).trans t138
theorem v_X11_queue_149_22 (a : Nat) (G : XG) (G1 : XG) (G26 : XG)
    (hG26 : G26 = dput G1 a 0 0)
    (oq1b : G1.2.2.2 = G.2.2.2) :
    G26.2.2.2 = G.2.2.2 := by
  rw [hG26]; exact oq1b
theorem v_X11_first_30_1 {F : Nat → Nat → Nat} (a : Nat) (G2 : XG) (G : XG)
    (hR : RV (G.2.1 (F a 10)))
    (c_G2_F_a_10 : G2.2.1 (F a 10) = G.2.1 (F a 10)) :
    RV (G2.2.1 (F a 10)) := by simp only [c_G2_F_a_10]; assumption
theorem v_X11_first_30_2 {F : Nat → Nat → Nat} (a : Nat) (G2 : XG) (G : XG)
    (hM : RM (G.2.1 (F a 1)) (0))
    (hB : RM (G.2.1 (F a 2)) 0)
    (c_G2_F_a_1 : G2.2.1 (F a 1) = G.2.1 (F a 1)) :
    RM (G2.2.1 (F a 1)) (0) := by simp only [c_G2_F_a_1]; assumption
theorem v_X11_first_30_3 {F : Nat → Nat → Nat} (a : Nat) (G2 : XG) (G : XG)
    (hM : RM (G.2.1 (F a 1)) (0))
    (hB : RM (G.2.1 (F a 2)) 0)
    (c_G2_F_a_2 : G2.2.1 (F a 2) = G.2.1 (F a 2)) :
    RM (G2.2.1 (F a 2)) 0 := by simp only [c_G2_F_a_2]; assumption
theorem v_X11_first_33_4 {F : Nat → Nat → Nat} (G30 : XG) (a : Nat) (G : XG)
    (oq30 : pL G30 F a = if ((G.1 a 6).toInt) = 0 then [] else fuO (G.2.1 (F a 10)) (mw (G.2.1 (F a 1)) 0) (mw (G.2.1 (F a 2)) 0) 1) :
    PV (G.2.1 (F a 10)) (pL G30 F a) := by
  rw [oq30]
  split
  · intro x hx; cases hx
  · exact fuO_pv _ _ _ _
theorem v_X11_first_84_5 {F : Nat → Nat → Nat} (a : Nat) (G : XG) (G30 : XG)
    (hR : RV (G.2.1 (F a 10)))
    (c_G30_F_a_10 : G30.2.1 (F a 10) = G.2.1 (F a 10)) :
    RV (G30.2.1 (F a 10)) := by simp only [c_G30_F_a_10]; assumption
theorem v_X11_first_84_6 {F : Nat → Nat → Nat} (a : Nat) (G : XG) (G30 : XG)
    (hM : RM (G.2.1 (F a 1)) (0))
    (hB : RM (G.2.1 (F a 2)) 0)
    (c_G30_F_a_1 : G30.2.1 (F a 1) = G.2.1 (F a 1)) :
    RM (G30.2.1 (F a 1)) (0) := by simp only [c_G30_F_a_1]; assumption
theorem v_X11_first_84_7 {F : Nat → Nat → Nat} (G : XG) (a : Nat) (G30 : XG)
    (hvq : PV (G.2.1 (F a 10)) (pL G30 F a))
    (c_G30_F_a_10 : G30.2.1 (F a 10) = G.2.1 (F a 10)) :
    PV (G30.2.1 (F a 10)) (pL G30 F a) := by
  first | exact hvq | (simp only [c_G30_F_a_10]; exact hvq)
theorem v_X11_first_64_8 {F : Nat → Nat → Nat} (a : Nat) (G : XG) (G30 : XG)
    (hR : RV (G.2.1 (F a 10)))
    (c_G30_F_a_10 : G30.2.1 (F a 10) = G.2.1 (F a 10)) :
    RV (G30.2.1 (F a 10)) := by simp only [c_G30_F_a_10]; assumption
theorem v_X11_first_64_9 {F : Nat → Nat → Nat} (a : Nat) (G : XG) (G30 : XG)
    (hM : RM (G.2.1 (F a 1)) (0))
    (hB : RM (G.2.1 (F a 2)) 0)
    (c_G30_F_a_1 : G30.2.1 (F a 1) = G.2.1 (F a 1)) :
    RM (G30.2.1 (F a 1)) (0 : Int) := by simp only [c_G30_F_a_1]; assumption
theorem v_X11_group_21_1 {K : Nat → Nat} {F : Nat → Nat → Nat} (a : Nat) (G : XG) (p0 : Int32) (p1 : Int32)
    (ha : K a = 13)
    (c7 : p0.toInt < (-1 : Int)) :
    ((p1.toInt < 0 ∨ 1 < p1.toInt) ∧ (-1 : Int) = -1) ∨ ((0 ≤ p1.toInt ∧ p1.toInt ≤ 1) ∧ GrM (nth1 (if ((G.1 a 6).toInt) = 0 then [] else fuO (G.2.1 (F a 10)) (mw (G.2.1 (F a 1)) 0) (mw (G.2.1 (F a 2)) 0) 1)) (((if ((G.1 a 6).toInt) = 0 then [] else fuO (G.2.1 (F a 10)) (mw (G.2.1 (F a 1)) 0) (mw (G.2.1 (F a 2)) 0) 1).length : Nat) : Int) p0.toInt p1.toInt (-1 : Int)) := by
  first
    | exact Or.inl ⟨by omega, rfl⟩
    | (by_cases h9 : 0 ≤ p1.toInt ∧ p1.toInt ≤ 1
       · exact Or.inr ⟨h9, Or.inr (Or.inl ⟨by omega, Or.inl (by omega), rfl⟩)⟩
       · exact Or.inl ⟨by omega, rfl⟩)
theorem v_X11_group_23_2 {F : Nat → Nat → Nat} (a : Nat) (G2 : XG) (G : XG)
    (hR : RV (G.2.1 (F a 10)))
    (c_G2_F_a_10 : G2.2.1 (F a 10) = G.2.1 (F a 10)) :
    RV (G2.2.1 (F a 10)) := by simp only [c_G2_F_a_10]; assumption
theorem v_X11_group_23_3 {F : Nat → Nat → Nat} (a : Nat) (G2 : XG) (G : XG)
    (hM : RM (G.2.1 (F a 1)) (0))
    (hB : RM (G.2.1 (F a 2)) 0)
    (c_G2_F_a_1 : G2.2.1 (F a 1) = G.2.1 (F a 1)) :
    RM (G2.2.1 (F a 1)) (0) := by simp only [c_G2_F_a_1]; assumption
theorem v_X11_group_23_4 {F : Nat → Nat → Nat} (a : Nat) (G2 : XG) (G : XG)
    (hM : RM (G.2.1 (F a 1)) (0))
    (hB : RM (G.2.1 (F a 2)) 0)
    (c_G2_F_a_2 : G2.2.1 (F a 2) = G.2.1 (F a 2)) :
    RM (G2.2.1 (F a 2)) 0 := by simp only [c_G2_F_a_2]; assumption
theorem v_X11_group_117_5 {K : Nat → Nat} {F : Nat → Nat → Nat} (a : Nat) (G2 : XG) (G : XG) (G23 : XG) (l4_34 : Int32) (l5_34 : Int32) (p0 : Int32) (x14 : Int32) (p1 : Int32) (l3_34 : Int32) (N34 : Nat)
    (ha : K a = 13)
    (oq23 : pL G23 F a = if ((G.1 a 6).toInt) = 0 then [] else fuO (G.2.1 (F a 10)) (mw (G.2.1 (F a 1)) 0) (mw (G.2.1 (F a 2)) 0) 1)
    (oq23a : ((G.1 a 6).toInt) ≠ 0 → LSt (G.2.1 (F a 10)) (G23.2.1 (F a 11)) (mw (G.2.1 (F a 1)) 0) 12 ∧ LSt (G.2.1 (F a 10)) (G23.2.1 (F a 13)) (mw (G.2.1 (F a 2)) 0) 12)
    (oq23b : G23.2.2.2 = G2.2.2.2)
    (c7 : ¬ (p0.toInt < (-1 : Int)))
    (t14 : (x14.toInt = 1 ∧ (0 : Int) ≤ p1.toInt ∧ p1.toInt ≤ (1 : Int)) ∨ (x14.toInt = 0 ∧ (p1.toInt < (0 : Int) ∨ (1 : Int) < p1.toInt)))
    (c17 : x14.toInt ≠ 0)
    (t23 : 0 ≤ ((G23.1 a 19).toInt) ∧ ((G23.1 a 19).toInt) ≤ 2388)
    (z26 : (stF (aI (G23.2.1 (F a 17))) 0) = 0)
    (I34_0 : 1 ≤ l5_34.toInt ∧ l5_34.toInt ≤ ((G23.1 a 19).toInt) + 1)
    (I34_1 : 0 ≤ l4_34.toInt ∧ l4_34.toInt < l5_34.toInt)
    (I34_2 : 0 ≤ l3_34.toInt ∧ l3_34.toInt ≤ l5_34.toInt)
    (I34_3 : ((G23.1 a 19).toInt) ≤ 2388)
    (I34_4 : l3_34.toInt = (stF (aI (G23.2.1 (F a 17))) (l4_34.toInt)))
    (I34_5 : l4_34.toInt = ((G23.1 a 19).toInt) ∨ l4_34.toInt = 0 ∨ (aI (G23.2.1 (F a 17)) (l4_34.toInt)) ≠ (aI (G23.2.1 (F a 17)) (l4_34.toInt - 1)))
    (I34_6 : p0.toInt < 0 ∨ l3_34.toInt ≤ p0.toInt)
    (I34_7 : l5_34.toInt ≤ ((G23.1 a 19).toInt) ∨ l4_34.toInt = ((G23.1 a 19).toInt))
    (I34_8 : l4_34.toInt ≤ ((G23.1 a 19).toInt))
    (hm34 : 5000 - l5_34.toInt < (((N34) + 1 : Nat) : Int))
    (c40 : ((G23.1 a 19).toInt) < l5_34.toInt)
    (z107 : l4_34.toInt = ((G23.1 a 19).toInt) → (stF (aI (G23.2.1 (F a 17))) (l4_34.toInt)) = (stF (aI (G23.2.1 (F a 17))) ((G23.1 a 19).toInt)))
    (c109 : p0.toInt ≠ (-1 : Int)) :
    ((p1.toInt < 0 ∨ 1 < p1.toInt) ∧ (-1 : Int) = -1) ∨ ((0 ≤ p1.toInt ∧ p1.toInt ≤ 1) ∧ GrM (nth1 (if ((G.1 a 6).toInt) = 0 then [] else fuO (G.2.1 (F a 10)) (mw (G.2.1 (F a 1)) 0) (mw (G.2.1 (F a 2)) 0) 1)) (((if ((G.1 a 6).toInt) = 0 then [] else fuO (G.2.1 (F a 10)) (mw (G.2.1 (F a 1)) 0) (mw (G.2.1 (F a 2)) 0) 1).length : Nat) : Int) p0.toInt p1.toInt (-1 : Int)) := by
  rw [← oq23, pL_len]
  refine Or.inr ⟨by omega, GrM_congr (g := aI (G23.2.1 (F a 17))) (fun j a1 a2 => (nth1_pL ⟨a1, by omega⟩).symm) ?_⟩
  rw [show (((G23.1 a 19).toInt.toNat : Nat) : Int) = (G23.1 a 19).toInt from by omega]
  first
    | exact Or.inl ⟨by omega, by omega⟩
    | exact Or.inr (Or.inl ⟨by omega, by omega, rfl⟩)
theorem v_X11_group_117_6 {K : Nat → Nat} {F : Nat → Nat → Nat} (a : Nat) (G2 : XG) (G : XG) (G23 : XG) (l4_34 : Int32) (l5_34 : Int32) (p0 : Int32) (x14 : Int32) (p1 : Int32) (l3_34 : Int32) (N34 : Nat)
    (ha : K a = 13)
    (oq23 : pL G23 F a = if ((G.1 a 6).toInt) = 0 then [] else fuO (G.2.1 (F a 10)) (mw (G.2.1 (F a 1)) 0) (mw (G.2.1 (F a 2)) 0) 1)
    (oq23a : ((G.1 a 6).toInt) ≠ 0 → LSt (G.2.1 (F a 10)) (G23.2.1 (F a 11)) (mw (G.2.1 (F a 1)) 0) 12 ∧ LSt (G.2.1 (F a 10)) (G23.2.1 (F a 13)) (mw (G.2.1 (F a 2)) 0) 12)
    (oq23b : G23.2.2.2 = G2.2.2.2)
    (c7 : ¬ (p0.toInt < (-1 : Int)))
    (t14 : (x14.toInt = 1 ∧ (0 : Int) ≤ p1.toInt ∧ p1.toInt ≤ (1 : Int)) ∨ (x14.toInt = 0 ∧ (p1.toInt < (0 : Int) ∨ (1 : Int) < p1.toInt)))
    (c17 : x14.toInt ≠ 0)
    (t23 : 0 ≤ ((G23.1 a 19).toInt) ∧ ((G23.1 a 19).toInt) ≤ 2388)
    (z26 : (stF (aI (G23.2.1 (F a 17))) 0) = 0)
    (I34_0 : 1 ≤ l5_34.toInt ∧ l5_34.toInt ≤ ((G23.1 a 19).toInt) + 1)
    (I34_1 : 0 ≤ l4_34.toInt ∧ l4_34.toInt < l5_34.toInt)
    (I34_2 : 0 ≤ l3_34.toInt ∧ l3_34.toInt ≤ l5_34.toInt)
    (I34_3 : ((G23.1 a 19).toInt) ≤ 2388)
    (I34_4 : l3_34.toInt = (stF (aI (G23.2.1 (F a 17))) (l4_34.toInt)))
    (I34_5 : l4_34.toInt = ((G23.1 a 19).toInt) ∨ l4_34.toInt = 0 ∨ (aI (G23.2.1 (F a 17)) (l4_34.toInt)) ≠ (aI (G23.2.1 (F a 17)) (l4_34.toInt - 1)))
    (I34_6 : p0.toInt < 0 ∨ l3_34.toInt ≤ p0.toInt)
    (I34_7 : l5_34.toInt ≤ ((G23.1 a 19).toInt) ∨ l4_34.toInt = ((G23.1 a 19).toInt))
    (I34_8 : l4_34.toInt ≤ ((G23.1 a 19).toInt))
    (hm34 : 5000 - l5_34.toInt < (((N34) + 1 : Nat) : Int))
    (c40 : ((G23.1 a 19).toInt) < l5_34.toInt)
    (z107 : l4_34.toInt = ((G23.1 a 19).toInt) → (stF (aI (G23.2.1 (F a 17))) (l4_34.toInt)) = (stF (aI (G23.2.1 (F a 17))) ((G23.1 a 19).toInt)))
    (c109 : ¬ (p0.toInt ≠ (-1 : Int))) :
    ((p1.toInt < 0 ∨ 1 < p1.toInt) ∧ l3_34.toInt = -1) ∨ ((0 ≤ p1.toInt ∧ p1.toInt ≤ 1) ∧ GrM (nth1 (if ((G.1 a 6).toInt) = 0 then [] else fuO (G.2.1 (F a 10)) (mw (G.2.1 (F a 1)) 0) (mw (G.2.1 (F a 2)) 0) 1)) (((if ((G.1 a 6).toInt) = 0 then [] else fuO (G.2.1 (F a 10)) (mw (G.2.1 (F a 1)) 0) (mw (G.2.1 (F a 2)) 0) 1).length : Nat) : Int) p0.toInt p1.toInt l3_34.toInt) := by
  rw [← oq23, pL_len]
  refine Or.inr ⟨by omega, GrM_congr (g := aI (G23.2.1 (F a 17))) (fun j a1 a2 => (nth1_pL ⟨a1, by omega⟩).symm) ?_⟩
  rw [show (((G23.1 a 19).toInt.toNat : Nat) : Int) = (G23.1 a 19).toInt from by omega]
  first
    | exact Or.inl ⟨by omega, by omega⟩
    | exact Or.inr (Or.inl ⟨by omega, by omega, rfl⟩)
theorem v_X11_group_104_7 {K : Nat → Nat} {F : Nat → Nat → Nat} (a : Nat) (G2 : XG) (G : XG) (G23 : XG) (l4_34 : Int32) (l5_34 : Int32) (l3_34 : Int32) (p0 : Int32) (x14 : Int32) (p1 : Int32) (N34 : Nat)
    (ha : K a = 13)
    (oq23a : ((G.1 a 6).toInt) ≠ 0 → LSt (G.2.1 (F a 10)) (G23.2.1 (F a 11)) (mw (G.2.1 (F a 1)) 0) 12 ∧ LSt (G.2.1 (F a 10)) (G23.2.1 (F a 13)) (mw (G.2.1 (F a 2)) 0) 12)
    (oq23b : G23.2.2.2 = G2.2.2.2)
    (rn : ∀ j : Int, l4_34.toInt ≤ j → j < l5_34.toInt → j < (G23.1 a 19).toInt → aI (G23.2.1 (F a 17)) j = aI (G23.2.1 (F a 17)) l4_34.toInt)
    (c7 : ¬ (p0.toInt < (-1 : Int)))
    (t14 : (x14.toInt = 1 ∧ (0 : Int) ≤ p1.toInt ∧ p1.toInt ≤ (1 : Int)) ∨ (x14.toInt = 0 ∧ (p1.toInt < (0 : Int) ∨ (1 : Int) < p1.toInt)))
    (c17 : x14.toInt ≠ 0)
    (t23 : 0 ≤ ((G23.1 a 19).toInt) ∧ ((G23.1 a 19).toInt) ≤ 2388)
    (z26 : (stF (aI (G23.2.1 (F a 17))) 0) = 0)
    (I34_0 : 1 ≤ l5_34.toInt ∧ l5_34.toInt ≤ ((G23.1 a 19).toInt) + 1)
    (I34_1 : 0 ≤ l4_34.toInt ∧ l4_34.toInt < l5_34.toInt)
    (I34_2 : 0 ≤ l3_34.toInt ∧ l3_34.toInt ≤ l5_34.toInt)
    (I34_3 : ((G23.1 a 19).toInt) ≤ 2388)
    (I34_4 : l3_34.toInt = (stF (aI (G23.2.1 (F a 17))) (l4_34.toInt)))
    (I34_5 : l4_34.toInt = ((G23.1 a 19).toInt) ∨ l4_34.toInt = 0 ∨ (aI (G23.2.1 (F a 17)) (l4_34.toInt)) ≠ (aI (G23.2.1 (F a 17)) (l4_34.toInt - 1)))
    (I34_6 : p0.toInt < 0 ∨ l3_34.toInt ≤ p0.toInt)
    (I34_7 : l5_34.toInt ≤ ((G23.1 a 19).toInt) ∨ l4_34.toInt = ((G23.1 a 19).toInt))
    (I34_8 : l4_34.toInt ≤ ((G23.1 a 19).toInt))
    (hm34 : 5000 - l5_34.toInt < (((N34) + 1 : Nat) : Int))
    (c40 : ¬ (((G23.1 a 19).toInt) < l5_34.toInt))
    (c49 : l5_34.toInt = ((G23.1 a 19).toInt))
    (z69 : (stF (aI (G23.2.1 (F a 17))) (l5_34.toInt)) = (stF (aI (G23.2.1 (F a 17))) (l4_34.toInt)) + 1)
    (z69a : (aI (G23.2.1 (F a 17)) (l5_34.toInt - 1)) = (aI (G23.2.1 (F a 17)) (l4_34.toInt)))
    (c71 : l3_34.toInt ≠ p0.toInt) :
    ∀ j : Int, l5_34.toInt ≤ j → j < (l5_34.toInt + 1) → j < (G23.1 a 19).toInt → aI (G23.2.1 (F a 17)) j = aI (G23.2.1 (F a 17)) l5_34.toInt := by
  first
    | (intro j a1 a2 a3
       rw [show j = l5_34.toInt from by omega])
    | (intro j a1 a2 a3
       by_cases e : j = l5_34.toInt
       · rw [e]; omega
       · exact rn j a1 (by omega) a3)
theorem v_X11_group_93_8 {K : Nat → Nat} {F : Nat → Nat → Nat} (a : Nat) (G2 : XG) (G : XG) (G23 : XG) (l4_34 : Int32) (l5_34 : Int32) (p0 : Int32) (x14 : Int32) (p1 : Int32) (l3_34 : Int32) (N34 : Nat) (x92 : Int32)
    (ha : K a = 13)
    (oq23 : pL G23 F a = if ((G.1 a 6).toInt) = 0 then [] else fuO (G.2.1 (F a 10)) (mw (G.2.1 (F a 1)) 0) (mw (G.2.1 (F a 2)) 0) 1)
    (oq23a : ((G.1 a 6).toInt) ≠ 0 → LSt (G.2.1 (F a 10)) (G23.2.1 (F a 11)) (mw (G.2.1 (F a 1)) 0) 12 ∧ LSt (G.2.1 (F a 10)) (G23.2.1 (F a 13)) (mw (G.2.1 (F a 2)) 0) 12)
    (oq23b : G23.2.2.2 = G2.2.2.2)
    (rn : ∀ j : Int, l4_34.toInt ≤ j → j < l5_34.toInt → j < (G23.1 a 19).toInt → aI (G23.2.1 (F a 17)) j = aI (G23.2.1 (F a 17)) l4_34.toInt)
    (c7 : ¬ (p0.toInt < (-1 : Int)))
    (t14 : (x14.toInt = 1 ∧ (0 : Int) ≤ p1.toInt ∧ p1.toInt ≤ (1 : Int)) ∨ (x14.toInt = 0 ∧ (p1.toInt < (0 : Int) ∨ (1 : Int) < p1.toInt)))
    (c17 : x14.toInt ≠ 0)
    (t23 : 0 ≤ ((G23.1 a 19).toInt) ∧ ((G23.1 a 19).toInt) ≤ 2388)
    (z26 : (stF (aI (G23.2.1 (F a 17))) 0) = 0)
    (I34_0 : 1 ≤ l5_34.toInt ∧ l5_34.toInt ≤ ((G23.1 a 19).toInt) + 1)
    (I34_1 : 0 ≤ l4_34.toInt ∧ l4_34.toInt < l5_34.toInt)
    (I34_2 : 0 ≤ l3_34.toInt ∧ l3_34.toInt ≤ l5_34.toInt)
    (I34_3 : ((G23.1 a 19).toInt) ≤ 2388)
    (I34_4 : l3_34.toInt = (stF (aI (G23.2.1 (F a 17))) (l4_34.toInt)))
    (I34_5 : l4_34.toInt = ((G23.1 a 19).toInt) ∨ l4_34.toInt = 0 ∨ (aI (G23.2.1 (F a 17)) (l4_34.toInt)) ≠ (aI (G23.2.1 (F a 17)) (l4_34.toInt - 1)))
    (I34_6 : p0.toInt < 0 ∨ l3_34.toInt ≤ p0.toInt)
    (I34_7 : l5_34.toInt ≤ ((G23.1 a 19).toInt) ∨ l4_34.toInt = ((G23.1 a 19).toInt))
    (I34_8 : l4_34.toInt ≤ ((G23.1 a 19).toInt))
    (hm34 : 5000 - l5_34.toInt < (((N34) + 1 : Nat) : Int))
    (c40 : ¬ (((G23.1 a 19).toInt) < l5_34.toInt))
    (c49 : l5_34.toInt = ((G23.1 a 19).toInt))
    (z69 : (stF (aI (G23.2.1 (F a 17))) (l5_34.toInt)) = (stF (aI (G23.2.1 (F a 17))) (l4_34.toInt)) + 1)
    (z69a : (aI (G23.2.1 (F a 17)) (l5_34.toInt - 1)) = (aI (G23.2.1 (F a 17)) (l4_34.toInt)))
    (c71 : ¬ (l3_34.toInt ≠ p0.toInt))
    (c75 : p1.toInt ≠ 0)
    (t92 : x92.toInt = l5_34.toInt - l4_34.toInt ∨ l5_34.toInt - l4_34.toInt < -2147483648 ∨ 2147483648 ≤ l5_34.toInt - l4_34.toInt) :
    ((p1.toInt < 0 ∨ 1 < p1.toInt) ∧ x92.toInt = -1) ∨ ((0 ≤ p1.toInt ∧ p1.toInt ≤ 1) ∧ GrM (nth1 (if ((G.1 a 6).toInt) = 0 then [] else fuO (G.2.1 (F a 10)) (mw (G.2.1 (F a 1)) 0) (mw (G.2.1 (F a 2)) 0) 1)) (((if ((G.1 a 6).toInt) = 0 then [] else fuO (G.2.1 (F a 10)) (mw (G.2.1 (F a 1)) 0) (mw (G.2.1 (F a 2)) 0) 1).length : Nat) : Int) p0.toInt p1.toInt x92.toInt) := by
  rw [← oq23, pL_len]
  refine Or.inr ⟨by omega, GrM_congr (g := aI (G23.2.1 (F a 17))) (fun j a1 a2 => (nth1_pL ⟨a1, by omega⟩).symm) ?_⟩
  rw [show (((G23.1 a 19).toInt.toNat : Nat) : Int) = (G23.1 a 19).toInt from by omega]
  refine Or.inr (Or.inr ⟨l4_34.toInt, l5_34.toInt, ⟨by omega, by omega, by omega⟩, by omega, by omega, fun j a1 a2 => rn j a1 a2 (by omega), by omega, ?_⟩)
  first
    | exact Or.inr ⟨by omega, by omega⟩
    | exact Or.inl ⟨by omega, rfl⟩
theorem v_X11_group_93_9 {K : Nat → Nat} {F : Nat → Nat → Nat} (a : Nat) (G2 : XG) (G : XG) (G23 : XG) (l4_34 : Int32) (l5_34 : Int32) (p0 : Int32) (x14 : Int32) (p1 : Int32) (l3_34 : Int32) (N34 : Nat)
    (ha : K a = 13)
    (oq23 : pL G23 F a = if ((G.1 a 6).toInt) = 0 then [] else fuO (G.2.1 (F a 10)) (mw (G.2.1 (F a 1)) 0) (mw (G.2.1 (F a 2)) 0) 1)
    (oq23a : ((G.1 a 6).toInt) ≠ 0 → LSt (G.2.1 (F a 10)) (G23.2.1 (F a 11)) (mw (G.2.1 (F a 1)) 0) 12 ∧ LSt (G.2.1 (F a 10)) (G23.2.1 (F a 13)) (mw (G.2.1 (F a 2)) 0) 12)
    (oq23b : G23.2.2.2 = G2.2.2.2)
    (rn : ∀ j : Int, l4_34.toInt ≤ j → j < l5_34.toInt → j < (G23.1 a 19).toInt → aI (G23.2.1 (F a 17)) j = aI (G23.2.1 (F a 17)) l4_34.toInt)
    (c7 : ¬ (p0.toInt < (-1 : Int)))
    (t14 : (x14.toInt = 1 ∧ (0 : Int) ≤ p1.toInt ∧ p1.toInt ≤ (1 : Int)) ∨ (x14.toInt = 0 ∧ (p1.toInt < (0 : Int) ∨ (1 : Int) < p1.toInt)))
    (c17 : x14.toInt ≠ 0)
    (t23 : 0 ≤ ((G23.1 a 19).toInt) ∧ ((G23.1 a 19).toInt) ≤ 2388)
    (z26 : (stF (aI (G23.2.1 (F a 17))) 0) = 0)
    (I34_0 : 1 ≤ l5_34.toInt ∧ l5_34.toInt ≤ ((G23.1 a 19).toInt) + 1)
    (I34_1 : 0 ≤ l4_34.toInt ∧ l4_34.toInt < l5_34.toInt)
    (I34_2 : 0 ≤ l3_34.toInt ∧ l3_34.toInt ≤ l5_34.toInt)
    (I34_3 : ((G23.1 a 19).toInt) ≤ 2388)
    (I34_4 : l3_34.toInt = (stF (aI (G23.2.1 (F a 17))) (l4_34.toInt)))
    (I34_5 : l4_34.toInt = ((G23.1 a 19).toInt) ∨ l4_34.toInt = 0 ∨ (aI (G23.2.1 (F a 17)) (l4_34.toInt)) ≠ (aI (G23.2.1 (F a 17)) (l4_34.toInt - 1)))
    (I34_6 : p0.toInt < 0 ∨ l3_34.toInt ≤ p0.toInt)
    (I34_7 : l5_34.toInt ≤ ((G23.1 a 19).toInt) ∨ l4_34.toInt = ((G23.1 a 19).toInt))
    (I34_8 : l4_34.toInt ≤ ((G23.1 a 19).toInt))
    (hm34 : 5000 - l5_34.toInt < (((N34) + 1 : Nat) : Int))
    (c40 : ¬ (((G23.1 a 19).toInt) < l5_34.toInt))
    (c49 : l5_34.toInt = ((G23.1 a 19).toInt))
    (z69 : (stF (aI (G23.2.1 (F a 17))) (l5_34.toInt)) = (stF (aI (G23.2.1 (F a 17))) (l4_34.toInt)) + 1)
    (z69a : (aI (G23.2.1 (F a 17)) (l5_34.toInt - 1)) = (aI (G23.2.1 (F a 17)) (l4_34.toInt)))
    (c71 : ¬ (l3_34.toInt ≠ p0.toInt))
    (c75 : ¬ (p1.toInt ≠ 0)) :
    ((p1.toInt < 0 ∨ 1 < p1.toInt) ∧ (aI (G23.2.1 (F a 17)) (l4_34.toInt)) = -1) ∨ ((0 ≤ p1.toInt ∧ p1.toInt ≤ 1) ∧ GrM (nth1 (if ((G.1 a 6).toInt) = 0 then [] else fuO (G.2.1 (F a 10)) (mw (G.2.1 (F a 1)) 0) (mw (G.2.1 (F a 2)) 0) 1)) (((if ((G.1 a 6).toInt) = 0 then [] else fuO (G.2.1 (F a 10)) (mw (G.2.1 (F a 1)) 0) (mw (G.2.1 (F a 2)) 0) 1).length : Nat) : Int) p0.toInt p1.toInt (aI (G23.2.1 (F a 17)) (l4_34.toInt))) := by
  rw [← oq23, pL_len]
  refine Or.inr ⟨by omega, GrM_congr (g := aI (G23.2.1 (F a 17))) (fun j a1 a2 => (nth1_pL ⟨a1, by omega⟩).symm) ?_⟩
  rw [show (((G23.1 a 19).toInt.toNat : Nat) : Int) = (G23.1 a 19).toInt from by omega]
  refine Or.inr (Or.inr ⟨l4_34.toInt, l5_34.toInt, ⟨by omega, by omega, by omega⟩, by omega, by omega, fun j a1 a2 => rn j a1 a2 (by omega), by omega, ?_⟩)
  first
    | exact Or.inr ⟨by omega, by omega⟩
    | exact Or.inl ⟨by omega, rfl⟩
theorem v_X11_group_104_10 {K : Nat → Nat} {F : Nat → Nat → Nat} (a : Nat) (G2 : XG) (G : XG) (G23 : XG) (l4_34 : Int32) (l5_34 : Int32) (p0 : Int32) (x14 : Int32) (p1 : Int32) (l3_34 : Int32) (N34 : Nat)
    (ha : K a = 13)
    (oq23a : ((G.1 a 6).toInt) ≠ 0 → LSt (G.2.1 (F a 10)) (G23.2.1 (F a 11)) (mw (G.2.1 (F a 1)) 0) 12 ∧ LSt (G.2.1 (F a 10)) (G23.2.1 (F a 13)) (mw (G.2.1 (F a 2)) 0) 12)
    (oq23b : G23.2.2.2 = G2.2.2.2)
    (rn : ∀ j : Int, l4_34.toInt ≤ j → j < l5_34.toInt → j < (G23.1 a 19).toInt → aI (G23.2.1 (F a 17)) j = aI (G23.2.1 (F a 17)) l4_34.toInt)
    (c7 : ¬ (p0.toInt < (-1 : Int)))
    (t14 : (x14.toInt = 1 ∧ (0 : Int) ≤ p1.toInt ∧ p1.toInt ≤ (1 : Int)) ∨ (x14.toInt = 0 ∧ (p1.toInt < (0 : Int) ∨ (1 : Int) < p1.toInt)))
    (c17 : x14.toInt ≠ 0)
    (t23 : 0 ≤ ((G23.1 a 19).toInt) ∧ ((G23.1 a 19).toInt) ≤ 2388)
    (z26 : (stF (aI (G23.2.1 (F a 17))) 0) = 0)
    (I34_0 : 1 ≤ l5_34.toInt ∧ l5_34.toInt ≤ ((G23.1 a 19).toInt) + 1)
    (I34_1 : 0 ≤ l4_34.toInt ∧ l4_34.toInt < l5_34.toInt)
    (I34_2 : 0 ≤ l3_34.toInt ∧ l3_34.toInt ≤ l5_34.toInt)
    (I34_3 : ((G23.1 a 19).toInt) ≤ 2388)
    (I34_4 : l3_34.toInt = (stF (aI (G23.2.1 (F a 17))) (l4_34.toInt)))
    (I34_5 : l4_34.toInt = ((G23.1 a 19).toInt) ∨ l4_34.toInt = 0 ∨ (aI (G23.2.1 (F a 17)) (l4_34.toInt)) ≠ (aI (G23.2.1 (F a 17)) (l4_34.toInt - 1)))
    (I34_6 : p0.toInt < 0 ∨ l3_34.toInt ≤ p0.toInt)
    (I34_7 : l5_34.toInt ≤ ((G23.1 a 19).toInt) ∨ l4_34.toInt = ((G23.1 a 19).toInt))
    (I34_8 : l4_34.toInt ≤ ((G23.1 a 19).toInt))
    (hm34 : 5000 - l5_34.toInt < (((N34) + 1 : Nat) : Int))
    (c40 : ¬ (((G23.1 a 19).toInt) < l5_34.toInt))
    (c49 : ¬ (l5_34.toInt = ((G23.1 a 19).toInt)))
    (c66 : (aI (G23.2.1 (F a 17)) (l5_34.toInt)) = (aI (G23.2.1 (F a 17)) (l4_34.toInt))) :
    ∀ j : Int, l4_34.toInt ≤ j → j < (l5_34.toInt + 1) → j < (G23.1 a 19).toInt → aI (G23.2.1 (F a 17)) j = aI (G23.2.1 (F a 17)) l4_34.toInt := by
  first
    | (intro j a1 a2 a3
       rw [show j = l5_34.toInt from by omega])
    | (intro j a1 a2 a3
       by_cases e : j = l5_34.toInt
       · rw [e]; omega
       · exact rn j a1 (by omega) a3)
theorem v_X11_group_104_11 {K : Nat → Nat} {F : Nat → Nat → Nat} (a : Nat) (G2 : XG) (G : XG) (G23 : XG) (l4_34 : Int32) (l5_34 : Int32) (l3_34 : Int32) (p0 : Int32) (x14 : Int32) (p1 : Int32) (N34 : Nat)
    (ha : K a = 13)
    (oq23a : ((G.1 a 6).toInt) ≠ 0 → LSt (G.2.1 (F a 10)) (G23.2.1 (F a 11)) (mw (G.2.1 (F a 1)) 0) 12 ∧ LSt (G.2.1 (F a 10)) (G23.2.1 (F a 13)) (mw (G.2.1 (F a 2)) 0) 12)
    (oq23b : G23.2.2.2 = G2.2.2.2)
    (rn : ∀ j : Int, l4_34.toInt ≤ j → j < l5_34.toInt → j < (G23.1 a 19).toInt → aI (G23.2.1 (F a 17)) j = aI (G23.2.1 (F a 17)) l4_34.toInt)
    (c7 : ¬ (p0.toInt < (-1 : Int)))
    (t14 : (x14.toInt = 1 ∧ (0 : Int) ≤ p1.toInt ∧ p1.toInt ≤ (1 : Int)) ∨ (x14.toInt = 0 ∧ (p1.toInt < (0 : Int) ∨ (1 : Int) < p1.toInt)))
    (c17 : x14.toInt ≠ 0)
    (t23 : 0 ≤ ((G23.1 a 19).toInt) ∧ ((G23.1 a 19).toInt) ≤ 2388)
    (z26 : (stF (aI (G23.2.1 (F a 17))) 0) = 0)
    (I34_0 : 1 ≤ l5_34.toInt ∧ l5_34.toInt ≤ ((G23.1 a 19).toInt) + 1)
    (I34_1 : 0 ≤ l4_34.toInt ∧ l4_34.toInt < l5_34.toInt)
    (I34_2 : 0 ≤ l3_34.toInt ∧ l3_34.toInt ≤ l5_34.toInt)
    (I34_3 : ((G23.1 a 19).toInt) ≤ 2388)
    (I34_4 : l3_34.toInt = (stF (aI (G23.2.1 (F a 17))) (l4_34.toInt)))
    (I34_5 : l4_34.toInt = ((G23.1 a 19).toInt) ∨ l4_34.toInt = 0 ∨ (aI (G23.2.1 (F a 17)) (l4_34.toInt)) ≠ (aI (G23.2.1 (F a 17)) (l4_34.toInt - 1)))
    (I34_6 : p0.toInt < 0 ∨ l3_34.toInt ≤ p0.toInt)
    (I34_7 : l5_34.toInt ≤ ((G23.1 a 19).toInt) ∨ l4_34.toInt = ((G23.1 a 19).toInt))
    (I34_8 : l4_34.toInt ≤ ((G23.1 a 19).toInt))
    (hm34 : 5000 - l5_34.toInt < (((N34) + 1 : Nat) : Int))
    (c40 : ¬ (((G23.1 a 19).toInt) < l5_34.toInt))
    (c49 : ¬ (l5_34.toInt = ((G23.1 a 19).toInt)))
    (c66 : ¬ ((aI (G23.2.1 (F a 17)) (l5_34.toInt)) = (aI (G23.2.1 (F a 17)) (l4_34.toInt))))
    (z69 : (stF (aI (G23.2.1 (F a 17))) (l5_34.toInt)) = (stF (aI (G23.2.1 (F a 17))) (l4_34.toInt)) + 1)
    (z69a : (aI (G23.2.1 (F a 17)) (l5_34.toInt - 1)) = (aI (G23.2.1 (F a 17)) (l4_34.toInt)))
    (c71 : l3_34.toInt ≠ p0.toInt) :
    ∀ j : Int, l5_34.toInt ≤ j → j < (l5_34.toInt + 1) → j < (G23.1 a 19).toInt → aI (G23.2.1 (F a 17)) j = aI (G23.2.1 (F a 17)) l5_34.toInt := by
  first
    | (intro j a1 a2 a3
       rw [show j = l5_34.toInt from by omega])
    | (intro j a1 a2 a3
       by_cases e : j = l5_34.toInt
       · rw [e]; omega
       · exact rn j a1 (by omega) a3)
theorem v_X11_group_93_12 {K : Nat → Nat} {F : Nat → Nat → Nat} (a : Nat) (G2 : XG) (G : XG) (G23 : XG) (l4_34 : Int32) (l5_34 : Int32) (p0 : Int32) (x14 : Int32) (p1 : Int32) (l3_34 : Int32) (N34 : Nat) (x92 : Int32)
    (ha : K a = 13)
    (oq23 : pL G23 F a = if ((G.1 a 6).toInt) = 0 then [] else fuO (G.2.1 (F a 10)) (mw (G.2.1 (F a 1)) 0) (mw (G.2.1 (F a 2)) 0) 1)
    (oq23a : ((G.1 a 6).toInt) ≠ 0 → LSt (G.2.1 (F a 10)) (G23.2.1 (F a 11)) (mw (G.2.1 (F a 1)) 0) 12 ∧ LSt (G.2.1 (F a 10)) (G23.2.1 (F a 13)) (mw (G.2.1 (F a 2)) 0) 12)
    (oq23b : G23.2.2.2 = G2.2.2.2)
    (rn : ∀ j : Int, l4_34.toInt ≤ j → j < l5_34.toInt → j < (G23.1 a 19).toInt → aI (G23.2.1 (F a 17)) j = aI (G23.2.1 (F a 17)) l4_34.toInt)
    (c7 : ¬ (p0.toInt < (-1 : Int)))
    (t14 : (x14.toInt = 1 ∧ (0 : Int) ≤ p1.toInt ∧ p1.toInt ≤ (1 : Int)) ∨ (x14.toInt = 0 ∧ (p1.toInt < (0 : Int) ∨ (1 : Int) < p1.toInt)))
    (c17 : x14.toInt ≠ 0)
    (t23 : 0 ≤ ((G23.1 a 19).toInt) ∧ ((G23.1 a 19).toInt) ≤ 2388)
    (z26 : (stF (aI (G23.2.1 (F a 17))) 0) = 0)
    (I34_0 : 1 ≤ l5_34.toInt ∧ l5_34.toInt ≤ ((G23.1 a 19).toInt) + 1)
    (I34_1 : 0 ≤ l4_34.toInt ∧ l4_34.toInt < l5_34.toInt)
    (I34_2 : 0 ≤ l3_34.toInt ∧ l3_34.toInt ≤ l5_34.toInt)
    (I34_3 : ((G23.1 a 19).toInt) ≤ 2388)
    (I34_4 : l3_34.toInt = (stF (aI (G23.2.1 (F a 17))) (l4_34.toInt)))
    (I34_5 : l4_34.toInt = ((G23.1 a 19).toInt) ∨ l4_34.toInt = 0 ∨ (aI (G23.2.1 (F a 17)) (l4_34.toInt)) ≠ (aI (G23.2.1 (F a 17)) (l4_34.toInt - 1)))
    (I34_6 : p0.toInt < 0 ∨ l3_34.toInt ≤ p0.toInt)
    (I34_7 : l5_34.toInt ≤ ((G23.1 a 19).toInt) ∨ l4_34.toInt = ((G23.1 a 19).toInt))
    (I34_8 : l4_34.toInt ≤ ((G23.1 a 19).toInt))
    (hm34 : 5000 - l5_34.toInt < (((N34) + 1 : Nat) : Int))
    (c40 : ¬ (((G23.1 a 19).toInt) < l5_34.toInt))
    (c49 : ¬ (l5_34.toInt = ((G23.1 a 19).toInt)))
    (c66 : ¬ ((aI (G23.2.1 (F a 17)) (l5_34.toInt)) = (aI (G23.2.1 (F a 17)) (l4_34.toInt))))
    (z69 : (stF (aI (G23.2.1 (F a 17))) (l5_34.toInt)) = (stF (aI (G23.2.1 (F a 17))) (l4_34.toInt)) + 1)
    (z69a : (aI (G23.2.1 (F a 17)) (l5_34.toInt - 1)) = (aI (G23.2.1 (F a 17)) (l4_34.toInt)))
    (c71 : ¬ (l3_34.toInt ≠ p0.toInt))
    (c75 : p1.toInt ≠ 0)
    (t92 : x92.toInt = l5_34.toInt - l4_34.toInt ∨ l5_34.toInt - l4_34.toInt < -2147483648 ∨ 2147483648 ≤ l5_34.toInt - l4_34.toInt) :
    ((p1.toInt < 0 ∨ 1 < p1.toInt) ∧ x92.toInt = -1) ∨ ((0 ≤ p1.toInt ∧ p1.toInt ≤ 1) ∧ GrM (nth1 (if ((G.1 a 6).toInt) = 0 then [] else fuO (G.2.1 (F a 10)) (mw (G.2.1 (F a 1)) 0) (mw (G.2.1 (F a 2)) 0) 1)) (((if ((G.1 a 6).toInt) = 0 then [] else fuO (G.2.1 (F a 10)) (mw (G.2.1 (F a 1)) 0) (mw (G.2.1 (F a 2)) 0) 1).length : Nat) : Int) p0.toInt p1.toInt x92.toInt) := by
  rw [← oq23, pL_len]
  refine Or.inr ⟨by omega, GrM_congr (g := aI (G23.2.1 (F a 17))) (fun j a1 a2 => (nth1_pL ⟨a1, by omega⟩).symm) ?_⟩
  rw [show (((G23.1 a 19).toInt.toNat : Nat) : Int) = (G23.1 a 19).toInt from by omega]
  refine Or.inr (Or.inr ⟨l4_34.toInt, l5_34.toInt, ⟨by omega, by omega, by omega⟩, by omega, by omega, fun j a1 a2 => rn j a1 a2 (by omega), by omega, ?_⟩)
  first
    | exact Or.inr ⟨by omega, by omega⟩
    | exact Or.inl ⟨by omega, rfl⟩
theorem v_X11_group_93_13 {K : Nat → Nat} {F : Nat → Nat → Nat} (a : Nat) (G2 : XG) (G : XG) (G23 : XG) (l4_34 : Int32) (l5_34 : Int32) (p0 : Int32) (x14 : Int32) (p1 : Int32) (l3_34 : Int32) (N34 : Nat)
    (ha : K a = 13)
    (oq23 : pL G23 F a = if ((G.1 a 6).toInt) = 0 then [] else fuO (G.2.1 (F a 10)) (mw (G.2.1 (F a 1)) 0) (mw (G.2.1 (F a 2)) 0) 1)
    (oq23a : ((G.1 a 6).toInt) ≠ 0 → LSt (G.2.1 (F a 10)) (G23.2.1 (F a 11)) (mw (G.2.1 (F a 1)) 0) 12 ∧ LSt (G.2.1 (F a 10)) (G23.2.1 (F a 13)) (mw (G.2.1 (F a 2)) 0) 12)
    (oq23b : G23.2.2.2 = G2.2.2.2)
    (rn : ∀ j : Int, l4_34.toInt ≤ j → j < l5_34.toInt → j < (G23.1 a 19).toInt → aI (G23.2.1 (F a 17)) j = aI (G23.2.1 (F a 17)) l4_34.toInt)
    (c7 : ¬ (p0.toInt < (-1 : Int)))
    (t14 : (x14.toInt = 1 ∧ (0 : Int) ≤ p1.toInt ∧ p1.toInt ≤ (1 : Int)) ∨ (x14.toInt = 0 ∧ (p1.toInt < (0 : Int) ∨ (1 : Int) < p1.toInt)))
    (c17 : x14.toInt ≠ 0)
    (t23 : 0 ≤ ((G23.1 a 19).toInt) ∧ ((G23.1 a 19).toInt) ≤ 2388)
    (z26 : (stF (aI (G23.2.1 (F a 17))) 0) = 0)
    (I34_0 : 1 ≤ l5_34.toInt ∧ l5_34.toInt ≤ ((G23.1 a 19).toInt) + 1)
    (I34_1 : 0 ≤ l4_34.toInt ∧ l4_34.toInt < l5_34.toInt)
    (I34_2 : 0 ≤ l3_34.toInt ∧ l3_34.toInt ≤ l5_34.toInt)
    (I34_3 : ((G23.1 a 19).toInt) ≤ 2388)
    (I34_4 : l3_34.toInt = (stF (aI (G23.2.1 (F a 17))) (l4_34.toInt)))
    (I34_5 : l4_34.toInt = ((G23.1 a 19).toInt) ∨ l4_34.toInt = 0 ∨ (aI (G23.2.1 (F a 17)) (l4_34.toInt)) ≠ (aI (G23.2.1 (F a 17)) (l4_34.toInt - 1)))
    (I34_6 : p0.toInt < 0 ∨ l3_34.toInt ≤ p0.toInt)
    (I34_7 : l5_34.toInt ≤ ((G23.1 a 19).toInt) ∨ l4_34.toInt = ((G23.1 a 19).toInt))
    (I34_8 : l4_34.toInt ≤ ((G23.1 a 19).toInt))
    (hm34 : 5000 - l5_34.toInt < (((N34) + 1 : Nat) : Int))
    (c40 : ¬ (((G23.1 a 19).toInt) < l5_34.toInt))
    (c49 : ¬ (l5_34.toInt = ((G23.1 a 19).toInt)))
    (c66 : ¬ ((aI (G23.2.1 (F a 17)) (l5_34.toInt)) = (aI (G23.2.1 (F a 17)) (l4_34.toInt))))
    (z69 : (stF (aI (G23.2.1 (F a 17))) (l5_34.toInt)) = (stF (aI (G23.2.1 (F a 17))) (l4_34.toInt)) + 1)
    (z69a : (aI (G23.2.1 (F a 17)) (l5_34.toInt - 1)) = (aI (G23.2.1 (F a 17)) (l4_34.toInt)))
    (c71 : ¬ (l3_34.toInt ≠ p0.toInt))
    (c75 : ¬ (p1.toInt ≠ 0)) :
    ((p1.toInt < 0 ∨ 1 < p1.toInt) ∧ (aI (G23.2.1 (F a 17)) (l4_34.toInt)) = -1) ∨ ((0 ≤ p1.toInt ∧ p1.toInt ≤ 1) ∧ GrM (nth1 (if ((G.1 a 6).toInt) = 0 then [] else fuO (G.2.1 (F a 10)) (mw (G.2.1 (F a 1)) 0) (mw (G.2.1 (F a 2)) 0) 1)) (((if ((G.1 a 6).toInt) = 0 then [] else fuO (G.2.1 (F a 10)) (mw (G.2.1 (F a 1)) 0) (mw (G.2.1 (F a 2)) 0) 1).length : Nat) : Int) p0.toInt p1.toInt (aI (G23.2.1 (F a 17)) (l4_34.toInt))) := by
  rw [← oq23, pL_len]
  refine Or.inr ⟨by omega, GrM_congr (g := aI (G23.2.1 (F a 17))) (fun j a1 a2 => (nth1_pL ⟨a1, by omega⟩).symm) ?_⟩
  rw [show (((G23.1 a 19).toInt.toNat : Nat) : Int) = (G23.1 a 19).toInt from by omega]
  refine Or.inr (Or.inr ⟨l4_34.toInt, l5_34.toInt, ⟨by omega, by omega, by omega⟩, by omega, by omega, fun j a1 a2 => rn j a1 a2 (by omega), by omega, ?_⟩)
  first
    | exact Or.inr ⟨by omega, by omega⟩
    | exact Or.inl ⟨by omega, rfl⟩
theorem v_X11_group_32_14 {K : Nat → Nat} {F : Nat → Nat → Nat} (a : Nat) (G2 : XG) (G : XG) (G23 : XG) (p0 : Int32) (x14 : Int32) (p1 : Int32)
    (ha : K a = 13)
    (oq23a : ((G.1 a 6).toInt) ≠ 0 → LSt (G.2.1 (F a 10)) (G23.2.1 (F a 11)) (mw (G.2.1 (F a 1)) 0) 12 ∧ LSt (G.2.1 (F a 10)) (G23.2.1 (F a 13)) (mw (G.2.1 (F a 2)) 0) 12)
    (oq23b : G23.2.2.2 = G2.2.2.2)
    (c7 : ¬ (p0.toInt < (-1 : Int)))
    (t14 : (x14.toInt = 1 ∧ (0 : Int) ≤ p1.toInt ∧ p1.toInt ≤ (1 : Int)) ∨ (x14.toInt = 0 ∧ (p1.toInt < (0 : Int) ∨ (1 : Int) < p1.toInt)))
    (c17 : x14.toInt ≠ 0)
    (t23 : 0 ≤ ((G23.1 a 19).toInt) ∧ ((G23.1 a 19).toInt) ≤ 2388)
    (z26 : (stF (aI (G23.2.1 (F a 17))) 0) = 0) :
    ∀ j : Int, (0 : Int) ≤ j → j < (1 : Int) → j < (G23.1 a 19).toInt → aI (G23.2.1 (F a 17)) j = aI (G23.2.1 (F a 17)) (0 : Int) := by
  intro j a1 a2 _
  rw [show j = 0 from by omega]
theorem v_X11_group_21_15 {K : Nat → Nat} {F : Nat → Nat → Nat} (a : Nat) (G : XG) (p0 : Int32) (x14 : Int32) (p1 : Int32)
    (ha : K a = 13)
    (c7 : ¬ (p0.toInt < (-1 : Int)))
    (t14 : (x14.toInt = 1 ∧ (0 : Int) ≤ p1.toInt ∧ p1.toInt ≤ (1 : Int)) ∨ (x14.toInt = 0 ∧ (p1.toInt < (0 : Int) ∨ (1 : Int) < p1.toInt)))
    (c17 : ¬ (x14.toInt ≠ 0)) :
    ((p1.toInt < 0 ∨ 1 < p1.toInt) ∧ (-1 : Int) = -1) ∨ ((0 ≤ p1.toInt ∧ p1.toInt ≤ 1) ∧ GrM (nth1 (if ((G.1 a 6).toInt) = 0 then [] else fuO (G.2.1 (F a 10)) (mw (G.2.1 (F a 1)) 0) (mw (G.2.1 (F a 2)) 0) 1)) (((if ((G.1 a 6).toInt) = 0 then [] else fuO (G.2.1 (F a 10)) (mw (G.2.1 (F a 1)) 0) (mw (G.2.1 (F a 2)) 0) 1).length : Nat) : Int) p0.toInt p1.toInt (-1 : Int)) := by
  first
    | exact Or.inl ⟨by omega, rfl⟩
    | (by_cases h9 : 0 ≤ p1.toInt ∧ p1.toInt ≤ 1
       · exact Or.inr ⟨h9, Or.inr (Or.inl ⟨by omega, Or.inl (by omega), rfl⟩)⟩
       · exact Or.inl ⟨by omega, rfl⟩)
theorem v_X11_all_21_1 {F : Nat → Nat → Nat} (a : Nat) (G2 : XG) (G : XG)
    (hR : RV (G.2.1 (F a 10)))
    (c_G2_F_a_10 : G2.2.1 (F a 10) = G.2.1 (F a 10)) :
    RV (G2.2.1 (F a 10)) := by simp only [c_G2_F_a_10]; assumption
theorem v_X11_all_166_2 {K : Nat → Nat} {F : Nat → Nat → Nat} (a : Nat) (G2 : XG) (G : XG) (G21 : XG) (l2_36 : Int32) (l3_36 : Int32) (l4_36 : Int32) (l5_36 : Int32) (x11 : Int32) (p0 : Int32) (N36 : Nat)
    (ha : K a = 13)
    (oq21 : ORm (G.2.1 (F a 10)) (G21.2.1 (F a 15)) ((G21.1 a 16).toInt) 12)
    (oq21a : G21.2.2.2 = G2.2.2.2)
    (pa : TrA l2_36.toInt l3_36.toInt l4_36.toInt (faL (G.2.1 (F a 10)) (mw (G.2.1 (F a 1)) 0) (ordN (prM (G.2.1 (F a 10))) (rkM (G.2.1 (F a 10))) 12).2 (l5_36.toInt).toNat))
    (t11 : (x11.toInt = 1 ∧ (0 : Int) ≤ p0.toInt ∧ p0.toInt ≤ (2 : Int)) ∨ (x11.toInt = 0 ∧ (p0.toInt < (0 : Int) ∨ (2 : Int) < p0.toInt)))
    (c14 : x11.toInt ≠ 0)
    (z24 : 0 ≤ ((G21.1 a 16).toInt) ∧ ((G21.1 a 16).toInt) ≤ 12)
    (I36_0 : 0 ≤ l5_36.toInt ∧ l5_36.toInt ≤ ((G21.1 a 16).toInt))
    (I36_1 : 0 ≤ l2_36.toInt ∧ l2_36.toInt ≤ 199 * l5_36.toInt)
    (hm36 : 100 - l5_36.toInt < (((N36) + 1 : Nat) : Int))
    (c42 : ((G21.1 a 16).toInt) ≤ l5_36.toInt)
    (c140 : p0.toInt ≠ 0)
    (c148 : l2_36.toInt ≠ 0)
    (c157 : p0.toInt ≠ (1 : Int)) :
    (¬ (0 ≤ p0.toInt ∧ p0.toInt ≤ 2) ∧ l4_36.toInt = -2147483648) ∨ ((0 ≤ p0.toInt ∧ p0.toInt ≤ 2) ∧ l4_36.toInt = alS p0.toInt (faO (G.2.1 (F a 10)) (mw (G.2.1 (F a 1)) 0))) := by
  have e : l5_36.toInt.toNat = (ordN (prM (G.2.1 (F a 10))) (rkM (G.2.1 (F a 10))) 12).1 := by
    have h9 := oq21.1
    omega
  rw [e] at pa
  refine Or.inr ⟨by omega, ?_⟩
  first
    | exact (alS_0 pa (by omega)).symm
    | exact (alS_e pa (by omega) (by omega)).symm
    | exact (alS_1 pa (by omega) (by omega)).symm
    | exact (alS_2 pa (by omega) (by omega)).symm
theorem v_X11_all_166_3 {K : Nat → Nat} {F : Nat → Nat → Nat} (a : Nat) (G2 : XG) (G : XG) (G21 : XG) (l2_36 : Int32) (l3_36 : Int32) (l4_36 : Int32) (l5_36 : Int32) (x11 : Int32) (p0 : Int32) (N36 : Nat)
    (ha : K a = 13)
    (oq21 : ORm (G.2.1 (F a 10)) (G21.2.1 (F a 15)) ((G21.1 a 16).toInt) 12)
    (oq21a : G21.2.2.2 = G2.2.2.2)
    (pa : TrA l2_36.toInt l3_36.toInt l4_36.toInt (faL (G.2.1 (F a 10)) (mw (G.2.1 (F a 1)) 0) (ordN (prM (G.2.1 (F a 10))) (rkM (G.2.1 (F a 10))) 12).2 (l5_36.toInt).toNat))
    (t11 : (x11.toInt = 1 ∧ (0 : Int) ≤ p0.toInt ∧ p0.toInt ≤ (2 : Int)) ∨ (x11.toInt = 0 ∧ (p0.toInt < (0 : Int) ∨ (2 : Int) < p0.toInt)))
    (c14 : x11.toInt ≠ 0)
    (z24 : 0 ≤ ((G21.1 a 16).toInt) ∧ ((G21.1 a 16).toInt) ≤ 12)
    (I36_0 : 0 ≤ l5_36.toInt ∧ l5_36.toInt ≤ ((G21.1 a 16).toInt))
    (I36_1 : 0 ≤ l2_36.toInt ∧ l2_36.toInt ≤ 199 * l5_36.toInt)
    (hm36 : 100 - l5_36.toInt < (((N36) + 1 : Nat) : Int))
    (c42 : ((G21.1 a 16).toInt) ≤ l5_36.toInt)
    (c140 : p0.toInt ≠ 0)
    (c148 : l2_36.toInt ≠ 0)
    (c157 : ¬ (p0.toInt ≠ (1 : Int))) :
    (¬ (0 ≤ p0.toInt ∧ p0.toInt ≤ 2) ∧ l3_36.toInt = -2147483648) ∨ ((0 ≤ p0.toInt ∧ p0.toInt ≤ 2) ∧ l3_36.toInt = alS p0.toInt (faO (G.2.1 (F a 10)) (mw (G.2.1 (F a 1)) 0))) := by
  have e : l5_36.toInt.toNat = (ordN (prM (G.2.1 (F a 10))) (rkM (G.2.1 (F a 10))) 12).1 := by
    have h9 := oq21.1
    omega
  rw [e] at pa
  refine Or.inr ⟨by omega, ?_⟩
  first
    | exact (alS_0 pa (by omega)).symm
    | exact (alS_e pa (by omega) (by omega)).symm
    | exact (alS_1 pa (by omega) (by omega)).symm
    | exact (alS_2 pa (by omega) (by omega)).symm
theorem v_X11_all_166_4 {K : Nat → Nat} {F : Nat → Nat → Nat} (a : Nat) (G2 : XG) (G : XG) (G21 : XG) (l2_36 : Int32) (l3_36 : Int32) (l4_36 : Int32) (l5_36 : Int32) (x11 : Int32) (p0 : Int32) (N36 : Nat)
    (ha : K a = 13)
    (oq21 : ORm (G.2.1 (F a 10)) (G21.2.1 (F a 15)) ((G21.1 a 16).toInt) 12)
    (oq21a : G21.2.2.2 = G2.2.2.2)
    (pa : TrA l2_36.toInt l3_36.toInt l4_36.toInt (faL (G.2.1 (F a 10)) (mw (G.2.1 (F a 1)) 0) (ordN (prM (G.2.1 (F a 10))) (rkM (G.2.1 (F a 10))) 12).2 (l5_36.toInt).toNat))
    (t11 : (x11.toInt = 1 ∧ (0 : Int) ≤ p0.toInt ∧ p0.toInt ≤ (2 : Int)) ∨ (x11.toInt = 0 ∧ (p0.toInt < (0 : Int) ∨ (2 : Int) < p0.toInt)))
    (c14 : x11.toInt ≠ 0)
    (z24 : 0 ≤ ((G21.1 a 16).toInt) ∧ ((G21.1 a 16).toInt) ≤ 12)
    (I36_0 : 0 ≤ l5_36.toInt ∧ l5_36.toInt ≤ ((G21.1 a 16).toInt))
    (I36_1 : 0 ≤ l2_36.toInt ∧ l2_36.toInt ≤ 199 * l5_36.toInt)
    (hm36 : 100 - l5_36.toInt < (((N36) + 1 : Nat) : Int))
    (c42 : ((G21.1 a 16).toInt) ≤ l5_36.toInt)
    (c140 : p0.toInt ≠ 0)
    (c148 : ¬ (l2_36.toInt ≠ 0)) :
    (¬ (0 ≤ p0.toInt ∧ p0.toInt ≤ 2) ∧ (-1 : Int) = -2147483648) ∨ ((0 ≤ p0.toInt ∧ p0.toInt ≤ 2) ∧ (-1 : Int) = alS p0.toInt (faO (G.2.1 (F a 10)) (mw (G.2.1 (F a 1)) 0))) := by
  have e : l5_36.toInt.toNat = (ordN (prM (G.2.1 (F a 10))) (rkM (G.2.1 (F a 10))) 12).1 := by
    have h9 := oq21.1
    omega
  rw [e] at pa
  refine Or.inr ⟨by omega, ?_⟩
  first
    | exact (alS_0 pa (by omega)).symm
    | exact (alS_e pa (by omega) (by omega)).symm
    | exact (alS_1 pa (by omega) (by omega)).symm
    | exact (alS_2 pa (by omega) (by omega)).symm
theorem v_X11_all_166_5 {K : Nat → Nat} {F : Nat → Nat → Nat} (a : Nat) (G2 : XG) (G : XG) (G21 : XG) (l2_36 : Int32) (l3_36 : Int32) (l4_36 : Int32) (l5_36 : Int32) (x11 : Int32) (p0 : Int32) (N36 : Nat)
    (ha : K a = 13)
    (oq21 : ORm (G.2.1 (F a 10)) (G21.2.1 (F a 15)) ((G21.1 a 16).toInt) 12)
    (oq21a : G21.2.2.2 = G2.2.2.2)
    (pa : TrA l2_36.toInt l3_36.toInt l4_36.toInt (faL (G.2.1 (F a 10)) (mw (G.2.1 (F a 1)) 0) (ordN (prM (G.2.1 (F a 10))) (rkM (G.2.1 (F a 10))) 12).2 (l5_36.toInt).toNat))
    (t11 : (x11.toInt = 1 ∧ (0 : Int) ≤ p0.toInt ∧ p0.toInt ≤ (2 : Int)) ∨ (x11.toInt = 0 ∧ (p0.toInt < (0 : Int) ∨ (2 : Int) < p0.toInt)))
    (c14 : x11.toInt ≠ 0)
    (z24 : 0 ≤ ((G21.1 a 16).toInt) ∧ ((G21.1 a 16).toInt) ≤ 12)
    (I36_0 : 0 ≤ l5_36.toInt ∧ l5_36.toInt ≤ ((G21.1 a 16).toInt))
    (I36_1 : 0 ≤ l2_36.toInt ∧ l2_36.toInt ≤ 199 * l5_36.toInt)
    (hm36 : 100 - l5_36.toInt < (((N36) + 1 : Nat) : Int))
    (c42 : ((G21.1 a 16).toInt) ≤ l5_36.toInt)
    (c140 : ¬ (p0.toInt ≠ 0)) :
    (¬ (0 ≤ p0.toInt ∧ p0.toInt ≤ 2) ∧ l2_36.toInt = -2147483648) ∨ ((0 ≤ p0.toInt ∧ p0.toInt ≤ 2) ∧ l2_36.toInt = alS p0.toInt (faO (G.2.1 (F a 10)) (mw (G.2.1 (F a 1)) 0))) := by
  have e : l5_36.toInt.toNat = (ordN (prM (G.2.1 (F a 10))) (rkM (G.2.1 (F a 10))) 12).1 := by
    have h9 := oq21.1
    omega
  rw [e] at pa
  refine Or.inr ⟨by omega, ?_⟩
  first
    | exact (alS_0 pa (by omega)).symm
    | exact (alS_e pa (by omega) (by omega)).symm
    | exact (alS_1 pa (by omega) (by omega)).symm
    | exact (alS_2 pa (by omega) (by omega)).symm
theorem v_X11_all_136_6 {K : Nat → Nat} {F : Nat → Nat → Nat} (a : Nat) (G2 : XG) (G : XG) (G21 : XG) (l2_36 : Int32) (l3_36 : Int32) (l4_36 : Int32) (l5_36 : Int32) (l2_58 : Int32) (l3_58 : Int32) (l4_58 : Int32) (l6_58 : Int32) (x11 : Int32) (p0 : Int32) (N36 : Nat) (N58 : Nat)
    (ha : K a = 13)
    (oq21 : ORm (G.2.1 (F a 10)) (G21.2.1 (F a 15)) ((G21.1 a 16).toInt) 12)
    (oq21a : G21.2.2.2 = G2.2.2.2)
    (pa : TrA l2_36.toInt l3_36.toInt l4_36.toInt (faL (G.2.1 (F a 10)) (mw (G.2.1 (F a 1)) 0) (ordN (prM (G.2.1 (F a 10))) (rkM (G.2.1 (F a 10))) 12).2 (l5_36.toInt).toNat))
    (pi : TrA l2_58.toInt l3_58.toInt l4_58.toInt (faL (G.2.1 (F a 10)) (mw (G.2.1 (F a 1)) 0) (ordN (prM (G.2.1 (F a 10))) (rkM (G.2.1 (F a 10))) 12).2 (l5_36.toInt).toNat ++ fap (G.2.1 (F a 10)) (mw (G.2.1 (F a 1)) 0) (aI (G21.2.1 (F a 15)) (l5_36.toInt)) l6_58.toInt))
    (t11 : (x11.toInt = 1 ∧ (0 : Int) ≤ p0.toInt ∧ p0.toInt ≤ (2 : Int)) ∨ (x11.toInt = 0 ∧ (p0.toInt < (0 : Int) ∨ (2 : Int) < p0.toInt)))
    (c14 : x11.toInt ≠ 0)
    (z24 : 0 ≤ ((G21.1 a 16).toInt) ∧ ((G21.1 a 16).toInt) ≤ 12)
    (I36_0 : 0 ≤ l5_36.toInt ∧ l5_36.toInt ≤ ((G21.1 a 16).toInt))
    (I36_1 : 0 ≤ l2_36.toInt ∧ l2_36.toInt ≤ 199 * l5_36.toInt)
    (hm36 : 100 - l5_36.toInt < (((N36) + 1 : Nat) : Int))
    (c42 : ¬ (((G21.1 a 16).toInt) ≤ l5_36.toInt))
    (z45 : 0 ≤ (aI (G21.2.1 (F a 15)) (l5_36.toInt)) ∧ (aI (G21.2.1 (F a 15)) (l5_36.toInt)) ≤ 11 ∧ (aI (G.2.1 (F a 10)) (10 * (aI (G21.2.1 (F a 15)) (l5_36.toInt)) + 0)) ≠ -1)
    (z45a : (((aI (G.2.1 (F a 10)) (10 * (aI (G21.2.1 (F a 15)) (l5_36.toInt)) + 0)) = 2 ∨ (aI (G.2.1 (F a 10)) (10 * (aI (G21.2.1 (F a 15)) (l5_36.toInt)) + 0)) = 4 ∨ (aI (G.2.1 (F a 10)) (10 * (aI (G21.2.1 (F a 15)) (l5_36.toInt)) + 0)) = 5) ∧ (sF (aI (G.2.1 (F a 10)) (10 * (aI (G21.2.1 (F a 15)) (l5_36.toInt)) + 0))) = 0 ∧ (sL (aI (G.2.1 (F a 10)) (10 * (aI (G21.2.1 (F a 15)) (l5_36.toInt)) + 0))) = 29) ∨ (¬ ((aI (G.2.1 (F a 10)) (10 * (aI (G21.2.1 (F a 15)) (l5_36.toInt)) + 0)) = 2 ∨ (aI (G.2.1 (F a 10)) (10 * (aI (G21.2.1 (F a 15)) (l5_36.toInt)) + 0)) = 4 ∨ (aI (G.2.1 (F a 10)) (10 * (aI (G21.2.1 (F a 15)) (l5_36.toInt)) + 0)) = 5) ∧ (sF (aI (G.2.1 (F a 10)) (10 * (aI (G21.2.1 (F a 15)) (l5_36.toInt)) + 0))) = -99 ∧ (sL (aI (G.2.1 (F a 10)) (10 * (aI (G21.2.1 (F a 15)) (l5_36.toInt)) + 0))) = 99))
    (I58_0 : (sF (aI (G.2.1 (F a 10)) (10 * (aI (G21.2.1 (F a 15)) (l5_36.toInt)) + 0))) ≤ l6_58.toInt ∧ l6_58.toInt ≤ (sL (aI (G.2.1 (F a 10)) (10 * (aI (G21.2.1 (F a 15)) (l5_36.toInt)) + 0))) + 1)
    (I58_1 : 0 ≤ l2_58.toInt ∧ l2_58.toInt ≤ 199 * l5_36.toInt + (l6_58.toInt - (sF (aI (G.2.1 (F a 10)) (10 * (aI (G21.2.1 (F a 15)) (l5_36.toInt)) + 0)))))
    (hm58 : 2147483648 - l6_58.toInt < (((N58) + 1 : Nat) : Int))
    (c71 : (sL (aI (G.2.1 (F a 10)) (10 * (aI (G21.2.1 (F a 15)) (l5_36.toInt)) + 0))) < l6_58.toInt) :
    TrA l2_58.toInt l3_58.toInt l4_58.toInt (faL (G.2.1 (F a 10)) (mw (G.2.1 (F a 1)) 0) (ordN (prM (G.2.1 (F a 10))) (rkM (G.2.1 (F a 10))) 12).2 (l5_36.toInt + 1).toNat) := by
  rw [show (l5_36.toInt + 1).toNat = l5_36.toInt.toNat + 1 from by omega, faL_s, or_nth oq21 (by omega), ← fap_l (s := l6_58.toInt) (by omega)]
  exact pi
theorem v_X11_all_89_7 {F : Nat → Nat → Nat} (a : Nat) (G : XG) (G21 : XG)
    (hR : RV (G.2.1 (F a 10)))
    (c_G21_F_a_10 : G21.2.1 (F a 10) = G.2.1 (F a 10)) :
    RV (G21.2.1 (F a 10)) := by simp only [c_G21_F_a_10]; assumption
theorem v_X11_all_89_8 {F : Nat → Nat → Nat} (a : Nat) (G : XG) (G21 : XG)
    (hM : RM (G.2.1 (F a 1)) (0))
    (c_G21_F_a_1 : G21.2.1 (F a 1) = G.2.1 (F a 1)) :
    RM (G21.2.1 (F a 1)) (0 : Int) := by simp only [c_G21_F_a_1]; assumption
theorem v_X11_all_130_9 {K : Nat → Nat} {F : Nat → Nat → Nat} (a : Nat) (G2 : XG) (G : XG) (G21 : XG) (l2_36 : Int32) (l3_36 : Int32) (l4_36 : Int32) (l5_36 : Int32) (l2_58 : Int32) (l3_58 : Int32) (l4_58 : Int32) (l6_58 : Int32) (x11 : Int32) (p0 : Int32) (N36 : Nat) (N58 : Nat) (x89 : Int32)
    (ha : K a = 13)
    (oq21a : G21.2.2.2 = G2.2.2.2)
    (pa : TrA l2_36.toInt l3_36.toInt l4_36.toInt (faL (G.2.1 (F a 10)) (mw (G.2.1 (F a 1)) 0) (ordN (prM (G.2.1 (F a 10))) (rkM (G.2.1 (F a 10))) 12).2 (l5_36.toInt).toNat))
    (pi : TrA l2_58.toInt l3_58.toInt l4_58.toInt (faL (G.2.1 (F a 10)) (mw (G.2.1 (F a 1)) 0) (ordN (prM (G.2.1 (F a 10))) (rkM (G.2.1 (F a 10))) 12).2 (l5_36.toInt).toNat ++ fap (G.2.1 (F a 10)) (mw (G.2.1 (F a 1)) 0) (aI (G21.2.1 (F a 15)) (l5_36.toInt)) l6_58.toInt))
    (t11 : (x11.toInt = 1 ∧ (0 : Int) ≤ p0.toInt ∧ p0.toInt ≤ (2 : Int)) ∨ (x11.toInt = 0 ∧ (p0.toInt < (0 : Int) ∨ (2 : Int) < p0.toInt)))
    (c14 : x11.toInt ≠ 0)
    (z24 : 0 ≤ ((G21.1 a 16).toInt) ∧ ((G21.1 a 16).toInt) ≤ 12)
    (I36_0 : 0 ≤ l5_36.toInt ∧ l5_36.toInt ≤ ((G21.1 a 16).toInt))
    (I36_1 : 0 ≤ l2_36.toInt ∧ l2_36.toInt ≤ 199 * l5_36.toInt)
    (hm36 : 100 - l5_36.toInt < (((N36) + 1 : Nat) : Int))
    (c42 : ¬ (((G21.1 a 16).toInt) ≤ l5_36.toInt))
    (z45 : 0 ≤ (aI (G21.2.1 (F a 15)) (l5_36.toInt)) ∧ (aI (G21.2.1 (F a 15)) (l5_36.toInt)) ≤ 11 ∧ (aI (G.2.1 (F a 10)) (10 * (aI (G21.2.1 (F a 15)) (l5_36.toInt)) + 0)) ≠ -1)
    (z45a : (((aI (G.2.1 (F a 10)) (10 * (aI (G21.2.1 (F a 15)) (l5_36.toInt)) + 0)) = 2 ∨ (aI (G.2.1 (F a 10)) (10 * (aI (G21.2.1 (F a 15)) (l5_36.toInt)) + 0)) = 4 ∨ (aI (G.2.1 (F a 10)) (10 * (aI (G21.2.1 (F a 15)) (l5_36.toInt)) + 0)) = 5) ∧ (sF (aI (G.2.1 (F a 10)) (10 * (aI (G21.2.1 (F a 15)) (l5_36.toInt)) + 0))) = 0 ∧ (sL (aI (G.2.1 (F a 10)) (10 * (aI (G21.2.1 (F a 15)) (l5_36.toInt)) + 0))) = 29) ∨ (¬ ((aI (G.2.1 (F a 10)) (10 * (aI (G21.2.1 (F a 15)) (l5_36.toInt)) + 0)) = 2 ∨ (aI (G.2.1 (F a 10)) (10 * (aI (G21.2.1 (F a 15)) (l5_36.toInt)) + 0)) = 4 ∨ (aI (G.2.1 (F a 10)) (10 * (aI (G21.2.1 (F a 15)) (l5_36.toInt)) + 0)) = 5) ∧ (sF (aI (G.2.1 (F a 10)) (10 * (aI (G21.2.1 (F a 15)) (l5_36.toInt)) + 0))) = -99 ∧ (sL (aI (G.2.1 (F a 10)) (10 * (aI (G21.2.1 (F a 15)) (l5_36.toInt)) + 0))) = 99))
    (I58_0 : (sF (aI (G.2.1 (F a 10)) (10 * (aI (G21.2.1 (F a 15)) (l5_36.toInt)) + 0))) ≤ l6_58.toInt ∧ l6_58.toInt ≤ (sL (aI (G.2.1 (F a 10)) (10 * (aI (G21.2.1 (F a 15)) (l5_36.toInt)) + 0))) + 1)
    (I58_1 : 0 ≤ l2_58.toInt ∧ l2_58.toInt ≤ 199 * l5_36.toInt + (l6_58.toInt - (sF (aI (G.2.1 (F a 10)) (10 * (aI (G21.2.1 (F a 15)) (l5_36.toInt)) + 0)))))
    (hm58 : 2147483648 - l6_58.toInt < (((N58) + 1 : Nat) : Int))
    (c71 : ¬ ((sL (aI (G.2.1 (F a 10)) (10 * (aI (G21.2.1 (F a 15)) (l5_36.toInt)) + 0))) < l6_58.toInt))
    (t89 : x89.toInt = (flq (mw (G.2.1 (F a 1)) 0) (aI (G.2.1 (F a 10)) (10 * (aI (G21.2.1 (F a 15)) (l5_36.toInt)) + 0)) (aI (G.2.1 (F a 10)) (10 * (aI (G21.2.1 (F a 15)) (l5_36.toInt)) + 1)) (aI (G.2.1 (F a 10)) (10 * (aI (G21.2.1 (F a 15)) (l5_36.toInt)) + 2)) (aI (G.2.1 (F a 10)) (10 * (aI (G21.2.1 (F a 15)) (l5_36.toInt)) + 4)) (aI (G.2.1 (F a 10)) (10 * (aI (G21.2.1 (F a 15)) (l5_36.toInt)) + 5)) (l6_58.toInt) (stt (mw (G.2.1 (F a 1)) 0) (aI (G.2.1 (F a 10)) (10 * (aI (G21.2.1 (F a 15)) (l5_36.toInt)) + 0)) (aI (G.2.1 (F a 10)) (10 * (aI (G21.2.1 (F a 15)) (l5_36.toInt)) + 1)) (aI (G.2.1 (F a 10)) (10 * (aI (G21.2.1 (F a 15)) (l5_36.toInt)) + 2)) (aI (G.2.1 (F a 10)) (10 * (aI (G21.2.1 (F a 15)) (l5_36.toInt)) + 3)) (l6_58.toInt))))
    (f35 : x89.toInt = 0 ∨ x89.toInt = 1)
    (c92 : x89.toInt = 0) :
    TrA l2_58.toInt l3_58.toInt l4_58.toInt (faL (G.2.1 (F a 10)) (mw (G.2.1 (F a 1)) 0) (ordN (prM (G.2.1 (F a 10))) (rkM (G.2.1 (F a 10))) 12).2 (l5_36.toInt).toNat ++ fap (G.2.1 (F a 10)) (mw (G.2.1 (F a 1)) 0) (aI (G21.2.1 (F a 15)) (l5_36.toInt)) (l6_58.toInt + 1)) := by
  have hz : fzq (G.2.1 (F a 10)) (mw (G.2.1 (F a 1)) 0) (aI (G21.2.1 (F a 15)) l5_36.toInt) l6_58.toInt = x89.toInt := t89.symm
  first
    | (rw [fap_n (by omega) (by omega)]
       exact pi)
    | (rw [fap_y (by omega) (by omega), ← List.append_assoc]
       first
         | (exfalso; omega)
         | exact TrA_n pi (by omega)
         | exact TrA_s pi (by omega) _)
theorem v_X11_all_130_10 {K : Nat → Nat} {F : Nat → Nat → Nat} (a : Nat) (G2 : XG) (G : XG) (G21 : XG) (l2_36 : Int32) (l3_36 : Int32) (l4_36 : Int32) (l5_36 : Int32) (l2_58 : Int32) (l3_58 : Int32) (l4_58 : Int32) (l6_58 : Int32) (x11 : Int32) (p0 : Int32) (N36 : Nat) (N58 : Nat) (x89 : Int32)
    (ha : K a = 13)
    (oq21a : G21.2.2.2 = G2.2.2.2)
    (pa : TrA l2_36.toInt l3_36.toInt l4_36.toInt (faL (G.2.1 (F a 10)) (mw (G.2.1 (F a 1)) 0) (ordN (prM (G.2.1 (F a 10))) (rkM (G.2.1 (F a 10))) 12).2 (l5_36.toInt).toNat))
    (pi : TrA l2_58.toInt l3_58.toInt l4_58.toInt (faL (G.2.1 (F a 10)) (mw (G.2.1 (F a 1)) 0) (ordN (prM (G.2.1 (F a 10))) (rkM (G.2.1 (F a 10))) 12).2 (l5_36.toInt).toNat ++ fap (G.2.1 (F a 10)) (mw (G.2.1 (F a 1)) 0) (aI (G21.2.1 (F a 15)) (l5_36.toInt)) l6_58.toInt))
    (t11 : (x11.toInt = 1 ∧ (0 : Int) ≤ p0.toInt ∧ p0.toInt ≤ (2 : Int)) ∨ (x11.toInt = 0 ∧ (p0.toInt < (0 : Int) ∨ (2 : Int) < p0.toInt)))
    (c14 : x11.toInt ≠ 0)
    (z24 : 0 ≤ ((G21.1 a 16).toInt) ∧ ((G21.1 a 16).toInt) ≤ 12)
    (I36_0 : 0 ≤ l5_36.toInt ∧ l5_36.toInt ≤ ((G21.1 a 16).toInt))
    (I36_1 : 0 ≤ l2_36.toInt ∧ l2_36.toInt ≤ 199 * l5_36.toInt)
    (hm36 : 100 - l5_36.toInt < (((N36) + 1 : Nat) : Int))
    (c42 : ¬ (((G21.1 a 16).toInt) ≤ l5_36.toInt))
    (z45 : 0 ≤ (aI (G21.2.1 (F a 15)) (l5_36.toInt)) ∧ (aI (G21.2.1 (F a 15)) (l5_36.toInt)) ≤ 11 ∧ (aI (G.2.1 (F a 10)) (10 * (aI (G21.2.1 (F a 15)) (l5_36.toInt)) + 0)) ≠ -1)
    (z45a : (((aI (G.2.1 (F a 10)) (10 * (aI (G21.2.1 (F a 15)) (l5_36.toInt)) + 0)) = 2 ∨ (aI (G.2.1 (F a 10)) (10 * (aI (G21.2.1 (F a 15)) (l5_36.toInt)) + 0)) = 4 ∨ (aI (G.2.1 (F a 10)) (10 * (aI (G21.2.1 (F a 15)) (l5_36.toInt)) + 0)) = 5) ∧ (sF (aI (G.2.1 (F a 10)) (10 * (aI (G21.2.1 (F a 15)) (l5_36.toInt)) + 0))) = 0 ∧ (sL (aI (G.2.1 (F a 10)) (10 * (aI (G21.2.1 (F a 15)) (l5_36.toInt)) + 0))) = 29) ∨ (¬ ((aI (G.2.1 (F a 10)) (10 * (aI (G21.2.1 (F a 15)) (l5_36.toInt)) + 0)) = 2 ∨ (aI (G.2.1 (F a 10)) (10 * (aI (G21.2.1 (F a 15)) (l5_36.toInt)) + 0)) = 4 ∨ (aI (G.2.1 (F a 10)) (10 * (aI (G21.2.1 (F a 15)) (l5_36.toInt)) + 0)) = 5) ∧ (sF (aI (G.2.1 (F a 10)) (10 * (aI (G21.2.1 (F a 15)) (l5_36.toInt)) + 0))) = -99 ∧ (sL (aI (G.2.1 (F a 10)) (10 * (aI (G21.2.1 (F a 15)) (l5_36.toInt)) + 0))) = 99))
    (I58_0 : (sF (aI (G.2.1 (F a 10)) (10 * (aI (G21.2.1 (F a 15)) (l5_36.toInt)) + 0))) ≤ l6_58.toInt ∧ l6_58.toInt ≤ (sL (aI (G.2.1 (F a 10)) (10 * (aI (G21.2.1 (F a 15)) (l5_36.toInt)) + 0))) + 1)
    (I58_1 : 0 ≤ l2_58.toInt ∧ l2_58.toInt ≤ 199 * l5_36.toInt + (l6_58.toInt - (sF (aI (G.2.1 (F a 10)) (10 * (aI (G21.2.1 (F a 15)) (l5_36.toInt)) + 0)))))
    (hm58 : 2147483648 - l6_58.toInt < (((N58) + 1 : Nat) : Int))
    (c71 : ¬ ((sL (aI (G.2.1 (F a 10)) (10 * (aI (G21.2.1 (F a 15)) (l5_36.toInt)) + 0))) < l6_58.toInt))
    (t89 : x89.toInt = (flq (mw (G.2.1 (F a 1)) 0) (aI (G.2.1 (F a 10)) (10 * (aI (G21.2.1 (F a 15)) (l5_36.toInt)) + 0)) (aI (G.2.1 (F a 10)) (10 * (aI (G21.2.1 (F a 15)) (l5_36.toInt)) + 1)) (aI (G.2.1 (F a 10)) (10 * (aI (G21.2.1 (F a 15)) (l5_36.toInt)) + 2)) (aI (G.2.1 (F a 10)) (10 * (aI (G21.2.1 (F a 15)) (l5_36.toInt)) + 4)) (aI (G.2.1 (F a 10)) (10 * (aI (G21.2.1 (F a 15)) (l5_36.toInt)) + 5)) (l6_58.toInt) (stt (mw (G.2.1 (F a 1)) 0) (aI (G.2.1 (F a 10)) (10 * (aI (G21.2.1 (F a 15)) (l5_36.toInt)) + 0)) (aI (G.2.1 (F a 10)) (10 * (aI (G21.2.1 (F a 15)) (l5_36.toInt)) + 1)) (aI (G.2.1 (F a 10)) (10 * (aI (G21.2.1 (F a 15)) (l5_36.toInt)) + 2)) (aI (G.2.1 (F a 10)) (10 * (aI (G21.2.1 (F a 15)) (l5_36.toInt)) + 3)) (l6_58.toInt))))
    (f36 : x89.toInt = 0 ∨ x89.toInt = 1)
    (c92 : ¬ (x89.toInt = 0))
    (c96 : l2_58.toInt ≠ 0) :
    TrA (l2_58.toInt + 1) l3_58.toInt l4_58.toInt (faL (G.2.1 (F a 10)) (mw (G.2.1 (F a 1)) 0) (ordN (prM (G.2.1 (F a 10))) (rkM (G.2.1 (F a 10))) 12).2 (l5_36.toInt).toNat ++ fap (G.2.1 (F a 10)) (mw (G.2.1 (F a 1)) 0) (aI (G21.2.1 (F a 15)) (l5_36.toInt)) (l6_58.toInt + 1)) := by
  have hz : fzq (G.2.1 (F a 10)) (mw (G.2.1 (F a 1)) 0) (aI (G21.2.1 (F a 15)) l5_36.toInt) l6_58.toInt = x89.toInt := t89.symm
  first
    | (rw [fap_n (by omega) (by omega)]
       exact pi)
    | (rw [fap_y (by omega) (by omega), ← List.append_assoc]
       first
         | (exfalso; omega)
         | exact TrA_n pi (by omega)
         | exact TrA_s pi (by omega) _)
theorem v_X11_all_130_11 {K : Nat → Nat} {F : Nat → Nat → Nat} (a : Nat) (G2 : XG) (G : XG) (G21 : XG) (l2_36 : Int32) (l3_36 : Int32) (l4_36 : Int32) (l5_36 : Int32) (l2_58 : Int32) (l3_58 : Int32) (l4_58 : Int32) (l6_58 : Int32) (x11 : Int32) (p0 : Int32) (N36 : Nat) (N58 : Nat) (x89 : Int32)
    (ha : K a = 13)
    (oq21a : G21.2.2.2 = G2.2.2.2)
    (pa : TrA l2_36.toInt l3_36.toInt l4_36.toInt (faL (G.2.1 (F a 10)) (mw (G.2.1 (F a 1)) 0) (ordN (prM (G.2.1 (F a 10))) (rkM (G.2.1 (F a 10))) 12).2 (l5_36.toInt).toNat))
    (pi : TrA l2_58.toInt l3_58.toInt l4_58.toInt (faL (G.2.1 (F a 10)) (mw (G.2.1 (F a 1)) 0) (ordN (prM (G.2.1 (F a 10))) (rkM (G.2.1 (F a 10))) 12).2 (l5_36.toInt).toNat ++ fap (G.2.1 (F a 10)) (mw (G.2.1 (F a 1)) 0) (aI (G21.2.1 (F a 15)) (l5_36.toInt)) l6_58.toInt))
    (t11 : (x11.toInt = 1 ∧ (0 : Int) ≤ p0.toInt ∧ p0.toInt ≤ (2 : Int)) ∨ (x11.toInt = 0 ∧ (p0.toInt < (0 : Int) ∨ (2 : Int) < p0.toInt)))
    (c14 : x11.toInt ≠ 0)
    (z24 : 0 ≤ ((G21.1 a 16).toInt) ∧ ((G21.1 a 16).toInt) ≤ 12)
    (I36_0 : 0 ≤ l5_36.toInt ∧ l5_36.toInt ≤ ((G21.1 a 16).toInt))
    (I36_1 : 0 ≤ l2_36.toInt ∧ l2_36.toInt ≤ 199 * l5_36.toInt)
    (hm36 : 100 - l5_36.toInt < (((N36) + 1 : Nat) : Int))
    (c42 : ¬ (((G21.1 a 16).toInt) ≤ l5_36.toInt))
    (z45 : 0 ≤ (aI (G21.2.1 (F a 15)) (l5_36.toInt)) ∧ (aI (G21.2.1 (F a 15)) (l5_36.toInt)) ≤ 11 ∧ (aI (G.2.1 (F a 10)) (10 * (aI (G21.2.1 (F a 15)) (l5_36.toInt)) + 0)) ≠ -1)
    (z45a : (((aI (G.2.1 (F a 10)) (10 * (aI (G21.2.1 (F a 15)) (l5_36.toInt)) + 0)) = 2 ∨ (aI (G.2.1 (F a 10)) (10 * (aI (G21.2.1 (F a 15)) (l5_36.toInt)) + 0)) = 4 ∨ (aI (G.2.1 (F a 10)) (10 * (aI (G21.2.1 (F a 15)) (l5_36.toInt)) + 0)) = 5) ∧ (sF (aI (G.2.1 (F a 10)) (10 * (aI (G21.2.1 (F a 15)) (l5_36.toInt)) + 0))) = 0 ∧ (sL (aI (G.2.1 (F a 10)) (10 * (aI (G21.2.1 (F a 15)) (l5_36.toInt)) + 0))) = 29) ∨ (¬ ((aI (G.2.1 (F a 10)) (10 * (aI (G21.2.1 (F a 15)) (l5_36.toInt)) + 0)) = 2 ∨ (aI (G.2.1 (F a 10)) (10 * (aI (G21.2.1 (F a 15)) (l5_36.toInt)) + 0)) = 4 ∨ (aI (G.2.1 (F a 10)) (10 * (aI (G21.2.1 (F a 15)) (l5_36.toInt)) + 0)) = 5) ∧ (sF (aI (G.2.1 (F a 10)) (10 * (aI (G21.2.1 (F a 15)) (l5_36.toInt)) + 0))) = -99 ∧ (sL (aI (G.2.1 (F a 10)) (10 * (aI (G21.2.1 (F a 15)) (l5_36.toInt)) + 0))) = 99))
    (I58_0 : (sF (aI (G.2.1 (F a 10)) (10 * (aI (G21.2.1 (F a 15)) (l5_36.toInt)) + 0))) ≤ l6_58.toInt ∧ l6_58.toInt ≤ (sL (aI (G.2.1 (F a 10)) (10 * (aI (G21.2.1 (F a 15)) (l5_36.toInt)) + 0))) + 1)
    (I58_1 : 0 ≤ l2_58.toInt ∧ l2_58.toInt ≤ 199 * l5_36.toInt + (l6_58.toInt - (sF (aI (G.2.1 (F a 10)) (10 * (aI (G21.2.1 (F a 15)) (l5_36.toInt)) + 0)))))
    (hm58 : 2147483648 - l6_58.toInt < (((N58) + 1 : Nat) : Int))
    (c71 : ¬ ((sL (aI (G.2.1 (F a 10)) (10 * (aI (G21.2.1 (F a 15)) (l5_36.toInt)) + 0))) < l6_58.toInt))
    (t89 : x89.toInt = (flq (mw (G.2.1 (F a 1)) 0) (aI (G.2.1 (F a 10)) (10 * (aI (G21.2.1 (F a 15)) (l5_36.toInt)) + 0)) (aI (G.2.1 (F a 10)) (10 * (aI (G21.2.1 (F a 15)) (l5_36.toInt)) + 1)) (aI (G.2.1 (F a 10)) (10 * (aI (G21.2.1 (F a 15)) (l5_36.toInt)) + 2)) (aI (G.2.1 (F a 10)) (10 * (aI (G21.2.1 (F a 15)) (l5_36.toInt)) + 4)) (aI (G.2.1 (F a 10)) (10 * (aI (G21.2.1 (F a 15)) (l5_36.toInt)) + 5)) (l6_58.toInt) (stt (mw (G.2.1 (F a 1)) 0) (aI (G.2.1 (F a 10)) (10 * (aI (G21.2.1 (F a 15)) (l5_36.toInt)) + 0)) (aI (G.2.1 (F a 10)) (10 * (aI (G21.2.1 (F a 15)) (l5_36.toInt)) + 1)) (aI (G.2.1 (F a 10)) (10 * (aI (G21.2.1 (F a 15)) (l5_36.toInt)) + 2)) (aI (G.2.1 (F a 10)) (10 * (aI (G21.2.1 (F a 15)) (l5_36.toInt)) + 3)) (l6_58.toInt))))
    (f36 : x89.toInt = 0 ∨ x89.toInt = 1)
    (c92 : ¬ (x89.toInt = 0))
    (c96 : l2_58.toInt ≠ 0)
    (c112 : ¬ (l2_58.toInt ≠ 0)) :
    TrA (l2_58.toInt + 1) l3_58.toInt l6_58.toInt (faL (G.2.1 (F a 10)) (mw (G.2.1 (F a 1)) 0) (ordN (prM (G.2.1 (F a 10))) (rkM (G.2.1 (F a 10))) 12).2 (l5_36.toInt).toNat ++ fap (G.2.1 (F a 10)) (mw (G.2.1 (F a 1)) 0) (aI (G21.2.1 (F a 15)) (l5_36.toInt)) (l6_58.toInt + 1)) := by
  have hz : fzq (G.2.1 (F a 10)) (mw (G.2.1 (F a 1)) 0) (aI (G21.2.1 (F a 15)) l5_36.toInt) l6_58.toInt = x89.toInt := t89.symm
  first
    | (rw [fap_n (by omega) (by omega)]
       exact pi)
    | (rw [fap_y (by omega) (by omega), ← List.append_assoc]
       first
         | (exfalso; omega)
         | exact TrA_n pi (by omega)
         | exact TrA_s pi (by omega) _)
theorem v_X11_all_130_12 {K : Nat → Nat} {F : Nat → Nat → Nat} (a : Nat) (G2 : XG) (G : XG) (G21 : XG) (l2_36 : Int32) (l3_36 : Int32) (l4_36 : Int32) (l5_36 : Int32) (l2_58 : Int32) (l3_58 : Int32) (l4_58 : Int32) (l6_58 : Int32) (x11 : Int32) (p0 : Int32) (N36 : Nat) (N58 : Nat) (x89 : Int32)
    (ha : K a = 13)
    (oq21a : G21.2.2.2 = G2.2.2.2)
    (pa : TrA l2_36.toInt l3_36.toInt l4_36.toInt (faL (G.2.1 (F a 10)) (mw (G.2.1 (F a 1)) 0) (ordN (prM (G.2.1 (F a 10))) (rkM (G.2.1 (F a 10))) 12).2 (l5_36.toInt).toNat))
    (pi : TrA l2_58.toInt l3_58.toInt l4_58.toInt (faL (G.2.1 (F a 10)) (mw (G.2.1 (F a 1)) 0) (ordN (prM (G.2.1 (F a 10))) (rkM (G.2.1 (F a 10))) 12).2 (l5_36.toInt).toNat ++ fap (G.2.1 (F a 10)) (mw (G.2.1 (F a 1)) 0) (aI (G21.2.1 (F a 15)) (l5_36.toInt)) l6_58.toInt))
    (t11 : (x11.toInt = 1 ∧ (0 : Int) ≤ p0.toInt ∧ p0.toInt ≤ (2 : Int)) ∨ (x11.toInt = 0 ∧ (p0.toInt < (0 : Int) ∨ (2 : Int) < p0.toInt)))
    (c14 : x11.toInt ≠ 0)
    (z24 : 0 ≤ ((G21.1 a 16).toInt) ∧ ((G21.1 a 16).toInt) ≤ 12)
    (I36_0 : 0 ≤ l5_36.toInt ∧ l5_36.toInt ≤ ((G21.1 a 16).toInt))
    (I36_1 : 0 ≤ l2_36.toInt ∧ l2_36.toInt ≤ 199 * l5_36.toInt)
    (hm36 : 100 - l5_36.toInt < (((N36) + 1 : Nat) : Int))
    (c42 : ¬ (((G21.1 a 16).toInt) ≤ l5_36.toInt))
    (z45 : 0 ≤ (aI (G21.2.1 (F a 15)) (l5_36.toInt)) ∧ (aI (G21.2.1 (F a 15)) (l5_36.toInt)) ≤ 11 ∧ (aI (G.2.1 (F a 10)) (10 * (aI (G21.2.1 (F a 15)) (l5_36.toInt)) + 0)) ≠ -1)
    (z45a : (((aI (G.2.1 (F a 10)) (10 * (aI (G21.2.1 (F a 15)) (l5_36.toInt)) + 0)) = 2 ∨ (aI (G.2.1 (F a 10)) (10 * (aI (G21.2.1 (F a 15)) (l5_36.toInt)) + 0)) = 4 ∨ (aI (G.2.1 (F a 10)) (10 * (aI (G21.2.1 (F a 15)) (l5_36.toInt)) + 0)) = 5) ∧ (sF (aI (G.2.1 (F a 10)) (10 * (aI (G21.2.1 (F a 15)) (l5_36.toInt)) + 0))) = 0 ∧ (sL (aI (G.2.1 (F a 10)) (10 * (aI (G21.2.1 (F a 15)) (l5_36.toInt)) + 0))) = 29) ∨ (¬ ((aI (G.2.1 (F a 10)) (10 * (aI (G21.2.1 (F a 15)) (l5_36.toInt)) + 0)) = 2 ∨ (aI (G.2.1 (F a 10)) (10 * (aI (G21.2.1 (F a 15)) (l5_36.toInt)) + 0)) = 4 ∨ (aI (G.2.1 (F a 10)) (10 * (aI (G21.2.1 (F a 15)) (l5_36.toInt)) + 0)) = 5) ∧ (sF (aI (G.2.1 (F a 10)) (10 * (aI (G21.2.1 (F a 15)) (l5_36.toInt)) + 0))) = -99 ∧ (sL (aI (G.2.1 (F a 10)) (10 * (aI (G21.2.1 (F a 15)) (l5_36.toInt)) + 0))) = 99))
    (I58_0 : (sF (aI (G.2.1 (F a 10)) (10 * (aI (G21.2.1 (F a 15)) (l5_36.toInt)) + 0))) ≤ l6_58.toInt ∧ l6_58.toInt ≤ (sL (aI (G.2.1 (F a 10)) (10 * (aI (G21.2.1 (F a 15)) (l5_36.toInt)) + 0))) + 1)
    (I58_1 : 0 ≤ l2_58.toInt ∧ l2_58.toInt ≤ 199 * l5_36.toInt + (l6_58.toInt - (sF (aI (G.2.1 (F a 10)) (10 * (aI (G21.2.1 (F a 15)) (l5_36.toInt)) + 0)))))
    (hm58 : 2147483648 - l6_58.toInt < (((N58) + 1 : Nat) : Int))
    (c71 : ¬ ((sL (aI (G.2.1 (F a 10)) (10 * (aI (G21.2.1 (F a 15)) (l5_36.toInt)) + 0))) < l6_58.toInt))
    (t89 : x89.toInt = (flq (mw (G.2.1 (F a 1)) 0) (aI (G.2.1 (F a 10)) (10 * (aI (G21.2.1 (F a 15)) (l5_36.toInt)) + 0)) (aI (G.2.1 (F a 10)) (10 * (aI (G21.2.1 (F a 15)) (l5_36.toInt)) + 1)) (aI (G.2.1 (F a 10)) (10 * (aI (G21.2.1 (F a 15)) (l5_36.toInt)) + 2)) (aI (G.2.1 (F a 10)) (10 * (aI (G21.2.1 (F a 15)) (l5_36.toInt)) + 4)) (aI (G.2.1 (F a 10)) (10 * (aI (G21.2.1 (F a 15)) (l5_36.toInt)) + 5)) (l6_58.toInt) (stt (mw (G.2.1 (F a 1)) 0) (aI (G.2.1 (F a 10)) (10 * (aI (G21.2.1 (F a 15)) (l5_36.toInt)) + 0)) (aI (G.2.1 (F a 10)) (10 * (aI (G21.2.1 (F a 15)) (l5_36.toInt)) + 1)) (aI (G.2.1 (F a 10)) (10 * (aI (G21.2.1 (F a 15)) (l5_36.toInt)) + 2)) (aI (G.2.1 (F a 10)) (10 * (aI (G21.2.1 (F a 15)) (l5_36.toInt)) + 3)) (l6_58.toInt))))
    (f37 : x89.toInt = 0 ∨ x89.toInt = 1)
    (c92 : ¬ (x89.toInt = 0))
    (c96 : ¬ (l2_58.toInt ≠ 0))
    (c112 : l2_58.toInt ≠ 0) :
    TrA (l2_58.toInt + 1) (aI (G21.2.1 (F a 15)) (l5_36.toInt)) l4_58.toInt (faL (G.2.1 (F a 10)) (mw (G.2.1 (F a 1)) 0) (ordN (prM (G.2.1 (F a 10))) (rkM (G.2.1 (F a 10))) 12).2 (l5_36.toInt).toNat ++ fap (G.2.1 (F a 10)) (mw (G.2.1 (F a 1)) 0) (aI (G21.2.1 (F a 15)) (l5_36.toInt)) (l6_58.toInt + 1)) := by
  have hz : fzq (G.2.1 (F a 10)) (mw (G.2.1 (F a 1)) 0) (aI (G21.2.1 (F a 15)) l5_36.toInt) l6_58.toInt = x89.toInt := t89.symm
  first
    | (rw [fap_n (by omega) (by omega)]
       exact pi)
    | (rw [fap_y (by omega) (by omega), ← List.append_assoc]
       first
         | (exfalso; omega)
         | exact TrA_n pi (by omega)
         | exact TrA_s pi (by omega) _)
theorem v_X11_all_130_13 {K : Nat → Nat} {F : Nat → Nat → Nat} (a : Nat) (G2 : XG) (G : XG) (G21 : XG) (l2_36 : Int32) (l3_36 : Int32) (l4_36 : Int32) (l5_36 : Int32) (l2_58 : Int32) (l3_58 : Int32) (l4_58 : Int32) (l6_58 : Int32) (x11 : Int32) (p0 : Int32) (N36 : Nat) (N58 : Nat) (x89 : Int32)
    (ha : K a = 13)
    (oq21a : G21.2.2.2 = G2.2.2.2)
    (pa : TrA l2_36.toInt l3_36.toInt l4_36.toInt (faL (G.2.1 (F a 10)) (mw (G.2.1 (F a 1)) 0) (ordN (prM (G.2.1 (F a 10))) (rkM (G.2.1 (F a 10))) 12).2 (l5_36.toInt).toNat))
    (pi : TrA l2_58.toInt l3_58.toInt l4_58.toInt (faL (G.2.1 (F a 10)) (mw (G.2.1 (F a 1)) 0) (ordN (prM (G.2.1 (F a 10))) (rkM (G.2.1 (F a 10))) 12).2 (l5_36.toInt).toNat ++ fap (G.2.1 (F a 10)) (mw (G.2.1 (F a 1)) 0) (aI (G21.2.1 (F a 15)) (l5_36.toInt)) l6_58.toInt))
    (t11 : (x11.toInt = 1 ∧ (0 : Int) ≤ p0.toInt ∧ p0.toInt ≤ (2 : Int)) ∨ (x11.toInt = 0 ∧ (p0.toInt < (0 : Int) ∨ (2 : Int) < p0.toInt)))
    (c14 : x11.toInt ≠ 0)
    (z24 : 0 ≤ ((G21.1 a 16).toInt) ∧ ((G21.1 a 16).toInt) ≤ 12)
    (I36_0 : 0 ≤ l5_36.toInt ∧ l5_36.toInt ≤ ((G21.1 a 16).toInt))
    (I36_1 : 0 ≤ l2_36.toInt ∧ l2_36.toInt ≤ 199 * l5_36.toInt)
    (hm36 : 100 - l5_36.toInt < (((N36) + 1 : Nat) : Int))
    (c42 : ¬ (((G21.1 a 16).toInt) ≤ l5_36.toInt))
    (z45 : 0 ≤ (aI (G21.2.1 (F a 15)) (l5_36.toInt)) ∧ (aI (G21.2.1 (F a 15)) (l5_36.toInt)) ≤ 11 ∧ (aI (G.2.1 (F a 10)) (10 * (aI (G21.2.1 (F a 15)) (l5_36.toInt)) + 0)) ≠ -1)
    (z45a : (((aI (G.2.1 (F a 10)) (10 * (aI (G21.2.1 (F a 15)) (l5_36.toInt)) + 0)) = 2 ∨ (aI (G.2.1 (F a 10)) (10 * (aI (G21.2.1 (F a 15)) (l5_36.toInt)) + 0)) = 4 ∨ (aI (G.2.1 (F a 10)) (10 * (aI (G21.2.1 (F a 15)) (l5_36.toInt)) + 0)) = 5) ∧ (sF (aI (G.2.1 (F a 10)) (10 * (aI (G21.2.1 (F a 15)) (l5_36.toInt)) + 0))) = 0 ∧ (sL (aI (G.2.1 (F a 10)) (10 * (aI (G21.2.1 (F a 15)) (l5_36.toInt)) + 0))) = 29) ∨ (¬ ((aI (G.2.1 (F a 10)) (10 * (aI (G21.2.1 (F a 15)) (l5_36.toInt)) + 0)) = 2 ∨ (aI (G.2.1 (F a 10)) (10 * (aI (G21.2.1 (F a 15)) (l5_36.toInt)) + 0)) = 4 ∨ (aI (G.2.1 (F a 10)) (10 * (aI (G21.2.1 (F a 15)) (l5_36.toInt)) + 0)) = 5) ∧ (sF (aI (G.2.1 (F a 10)) (10 * (aI (G21.2.1 (F a 15)) (l5_36.toInt)) + 0))) = -99 ∧ (sL (aI (G.2.1 (F a 10)) (10 * (aI (G21.2.1 (F a 15)) (l5_36.toInt)) + 0))) = 99))
    (I58_0 : (sF (aI (G.2.1 (F a 10)) (10 * (aI (G21.2.1 (F a 15)) (l5_36.toInt)) + 0))) ≤ l6_58.toInt ∧ l6_58.toInt ≤ (sL (aI (G.2.1 (F a 10)) (10 * (aI (G21.2.1 (F a 15)) (l5_36.toInt)) + 0))) + 1)
    (I58_1 : 0 ≤ l2_58.toInt ∧ l2_58.toInt ≤ 199 * l5_36.toInt + (l6_58.toInt - (sF (aI (G.2.1 (F a 10)) (10 * (aI (G21.2.1 (F a 15)) (l5_36.toInt)) + 0)))))
    (hm58 : 2147483648 - l6_58.toInt < (((N58) + 1 : Nat) : Int))
    (c71 : ¬ ((sL (aI (G.2.1 (F a 10)) (10 * (aI (G21.2.1 (F a 15)) (l5_36.toInt)) + 0))) < l6_58.toInt))
    (t89 : x89.toInt = (flq (mw (G.2.1 (F a 1)) 0) (aI (G.2.1 (F a 10)) (10 * (aI (G21.2.1 (F a 15)) (l5_36.toInt)) + 0)) (aI (G.2.1 (F a 10)) (10 * (aI (G21.2.1 (F a 15)) (l5_36.toInt)) + 1)) (aI (G.2.1 (F a 10)) (10 * (aI (G21.2.1 (F a 15)) (l5_36.toInt)) + 2)) (aI (G.2.1 (F a 10)) (10 * (aI (G21.2.1 (F a 15)) (l5_36.toInt)) + 4)) (aI (G.2.1 (F a 10)) (10 * (aI (G21.2.1 (F a 15)) (l5_36.toInt)) + 5)) (l6_58.toInt) (stt (mw (G.2.1 (F a 1)) 0) (aI (G.2.1 (F a 10)) (10 * (aI (G21.2.1 (F a 15)) (l5_36.toInt)) + 0)) (aI (G.2.1 (F a 10)) (10 * (aI (G21.2.1 (F a 15)) (l5_36.toInt)) + 1)) (aI (G.2.1 (F a 10)) (10 * (aI (G21.2.1 (F a 15)) (l5_36.toInt)) + 2)) (aI (G.2.1 (F a 10)) (10 * (aI (G21.2.1 (F a 15)) (l5_36.toInt)) + 3)) (l6_58.toInt))))
    (f37 : x89.toInt = 0 ∨ x89.toInt = 1)
    (c92 : ¬ (x89.toInt = 0))
    (c96 : ¬ (l2_58.toInt ≠ 0)) :
    TrA (l2_58.toInt + 1) (aI (G21.2.1 (F a 15)) (l5_36.toInt)) l6_58.toInt (faL (G.2.1 (F a 10)) (mw (G.2.1 (F a 1)) 0) (ordN (prM (G.2.1 (F a 10))) (rkM (G.2.1 (F a 10))) 12).2 (l5_36.toInt).toNat ++ fap (G.2.1 (F a 10)) (mw (G.2.1 (F a 1)) 0) (aI (G21.2.1 (F a 15)) (l5_36.toInt)) (l6_58.toInt + 1)) := by
  have hz : fzq (G.2.1 (F a 10)) (mw (G.2.1 (F a 1)) 0) (aI (G21.2.1 (F a 15)) l5_36.toInt) l6_58.toInt = x89.toInt := t89.symm
  first
    | (rw [fap_n (by omega) (by omega)]
       exact pi)
    | (rw [fap_y (by omega) (by omega), ← List.append_assoc]
       first
         | (exfalso; omega)
         | exact TrA_n pi (by omega)
         | exact TrA_s pi (by omega) _)
theorem v_X11_all_56_14 {F : Nat → Nat → Nat} (a : Nat) (G : XG) (G21 : XG) (l2_36 : Int32) (l3_36 : Int32) (l4_36 : Int32) (l5_36 : Int32)
    (pa : TrA l2_36.toInt l3_36.toInt l4_36.toInt (faL (G.2.1 (F a 10)) (mw (G.2.1 (F a 1)) 0) (ordN (prM (G.2.1 (F a 10))) (rkM (G.2.1 (F a 10))) 12).2 (l5_36.toInt).toNat)) :
    TrA l2_36.toInt l3_36.toInt l4_36.toInt (faL (G.2.1 (F a 10)) (mw (G.2.1 (F a 1)) 0) (ordN (prM (G.2.1 (F a 10))) (rkM (G.2.1 (F a 10))) 12).2 (l5_36.toInt).toNat ++ fap (G.2.1 (F a 10)) (mw (G.2.1 (F a 1)) 0) (aI (G21.2.1 (F a 15)) (l5_36.toInt)) (sF (aI (G.2.1 (F a 10)) (10 * (aI (G21.2.1 (F a 15)) (l5_36.toInt)) + 0)))) := by
  rw [fap_0 rfl, List.append_nil]
  exact pa
theorem v_X11_all_34_15 {F : Nat → Nat → Nat} (a : Nat) (G : XG) :
    TrA (0 : Int) (-2147483648 : Int) (-2147483648 : Int) (faL (G.2.1 (F a 10)) (mw (G.2.1 (F a 1)) 0) (ordN (prM (G.2.1 (F a 10))) (rkM (G.2.1 (F a 10))) 12).2 (0 : Int).toNat) := by
  show TrA 0 (-2147483648) (-2147483648) (faL _ _ _ 0)
  exact TrA_0
theorem v_X11_all_19_16 {K : Nat → Nat} {F : Nat → Nat → Nat} (a : Nat) (G : XG) (x11 : Int32) (p0 : Int32)
    (ha : K a = 13)
    (t11 : (x11.toInt = 1 ∧ (0 : Int) ≤ p0.toInt ∧ p0.toInt ≤ (2 : Int)) ∨ (x11.toInt = 0 ∧ (p0.toInt < (0 : Int) ∨ (2 : Int) < p0.toInt)))
    (c14 : ¬ (x11.toInt ≠ 0)) :
    (¬ (0 ≤ p0.toInt ∧ p0.toInt ≤ 2) ∧ (-2147483648 : Int) = -2147483648) ∨ ((0 ≤ p0.toInt ∧ p0.toInt ≤ 2) ∧ (-2147483648 : Int) = alS p0.toInt (faO (G.2.1 (F a 10)) (mw (G.2.1 (F a 1)) 0))) := by
  exact Or.inl ⟨by omega, rfl⟩
