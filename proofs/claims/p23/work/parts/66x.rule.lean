/-! what is read is within bounds -/
theorem tkK_b (t : Int → Int) (S : RSt) : 0 ≤ (tkK t S).1 ∧ (tkK t S).1 ≤ 5 := by
  have key : ∀ f n : Nat, n + f ≤ 6 → 0 ≤ (tkKf t S f n).1 ∧ (tkKf t S f n).1 ≤ 5 := by
    intro f
    induction f with
    | zero => intro n _; exact ⟨Int.le_refl _, by show (0 : Int) ≤ 5; decide⟩
    | succ f ih =>
      intro n hn
      show 0 ≤ (if (tkW t (kw n) S).1 = 1 then ((n : Int), (tkW t (kw n) S).2) else tkKf t S f (n + 1)).1 ∧ (if (tkW t (kw n) S).1 = 1 then ((n : Int), (tkW t (kw n) S).2) else tkKf t S f (n + 1)).1 ≤ 5
      split
      · exact ⟨by show 0 ≤ (n : Int); omega, by show (n : Int) ≤ 5; omega⟩
      · exact ih (n + 1) (by omega)
  exact key 6 0 (by omega)
theorem tkA_r (t : Int → Int) (S : RSt) : 0 ≤ (tkA t S).1 ∧ (tkA t S).1 ≤ 2 := by
  by_cases h : (tkW t (kw 6) S).1 = 1
  · rw [tkA_a h]; exact ⟨by show (0 : Int) ≤ 1; decide, by show (1 : Int) ≤ 2; decide⟩
  · by_cases h2 : (tkW t (kw 7) S).1 = 1
    · rw [tkA_b h h2]; exact ⟨by show (0 : Int) ≤ 2; decide, by show (2 : Int) ≤ 2; decide⟩
    · rw [tkA_c h h2]; exact ⟨by show (0 : Int) ≤ 0; decide, by show (0 : Int) ≤ 2; decide⟩
theorem rS_b (t : Int → Int) : (0 ≤ (rS1 t).1 ∧ (rS1 t).1 ≤ 5) ∧ (0 ≤ (rS2 t).1 ∧ (rS2 t).1 ≤ 2) ∧ (0 ≤ (rS3 t).1 ∧ (rS3 t).1 ≤ 2) ∧ (-1 ≤ (rS4 t).1 ∧ (rS4 t).1 ≤ 2) ∧ ((rS1 t).1 = 1 ∨ (rS1 t).1 = 3 ∨ (rS1 t).1 = 4 → 0 ≤ (rS4 t).1) ∧ (0 ≤ (rS7 t).1 ∧ (rS7 t).1 ≤ 2) ∧ ((rS8 t).1 = 0 ∨ (rS8 t).1 = 1) := by
  have h4 : (((rS1 t).1 = 1 ∨ (rS1 t).1 = 3 ∨ (rS1 t).1 = 4) ∧ 0 ≤ (rS4 t).1 ∧ (rS4 t).1 ≤ 2) ∨ (¬ ((rS1 t).1 = 1 ∨ (rS1 t).1 = 3 ∨ (rS1 t).1 = 4) ∧ (rS4 t).1 = -1) := by
    by_cases h : (rS1 t).1 = 1 ∨ (rS1 t).1 = 3 ∨ (rS1 t).1 = 4
    · have e : rS4 t = tkN t 0 2 (rS3 t).2 := if_pos h
      rw [e]
      exact Or.inl ⟨h, tkN_b t _ (by decide)⟩
    · have e : rS4 t = (-1, (rS3 t).2) := if_neg h
      rw [e]
      exact Or.inr ⟨h, rfl⟩
  refine ⟨tkK_b t _, tkN_b t _ (by decide), tkN_b t _ (by decide), by omega, by omega, ?_, ?_⟩
  · by_cases h : (rS1 t).1 = 1
    · have e : rS7 t = tkA t (rS6 t).2 := if_pos h
      rw [e]
      exact tkA_r t _
    · have e : rS7 t = (0, (rS6 t).2) := if_neg h
      rw [e]
      exact ⟨by show (0 : Int) ≤ 0; decide, by show (0 : Int) ≤ 2; decide⟩
  · rcases tkW_01 t (kw 8) (rS7 t).2 with h | h
    · exact Or.inr h
    · exact Or.inl h.1
/-- nine numbers are copied behind one another -/
theorem CPd.s {f g h h2 : Nat → Int32} {b n x X : Int} (hc : CPd f g h 0 b n) (hn : 0 ≤ n) (hb : 0 ≤ b) (hu : ∀ z : Int, 0 ≤ z → aI h2 z = if z = x then X else aI h z) (hx : x = b + n) (hX : X = aI f n) : CPd f g h2 0 b (n + 1) := by
  intro z hz
  rw [hu z hz]
  by_cases e : z = x
  · rw [if_pos e, if_pos (by omega), hX]
    congr 1
    omega
  · rw [if_neg e, hc z hz]
    by_cases q : b ≤ z ∧ z < b + n
    · rw [if_pos q, if_pos (by omega)]
    · rw [if_neg q, if_neg (by omega)]
theorem CPd.z (f g : Nat → Int32) (b : Int) : CPd f g g 0 b 0 := fun z _ => by rw [if_neg (by omega)]
theorem CPd.at {f g h : Nat → Int32} {b n j : Int} (hc : CPd f g h 0 b n) (hb : 0 ≤ b) (hj : 0 ≤ j ∧ j < n) : aI h (b + j) = aI f j := by
  rw [hc (b + j) (by omega), if_pos (by omega)]
  congr 1
  omega
/-- a rule's numbers, as they are read -/
def DFo (d : Nat → Int32) (t : Int → Int) : Prop := aI d 0 = (rS1 t).1 ∧ aI d 1 = (rS2 t).1 ∧ aI d 2 = (rS3 t).1 ∧ aI d 3 = (rS4 t).1 ∧ aI d 4 = (rS5 t).1 ∧ aI d 5 = (rS6 t).1 ∧ aI d 6 = (rS8 t).1 ∧ aI d 7 = (rS9 t).1 ∧ aI d 8 = (rS7 t).1
theorem RV.cpd {f g d : Nat → Int32} {k : Int} {t : Int → Int} (h : RV f) (hk : 0 ≤ k ∧ k ≤ 11) (hc : CPd d f g 0 (10 * k) 9) (hd : DFo d t) : RV g := by
  intro r h0 h1
  by_cases e : r = k
  · subst e
    have b := rS_b t
    obtain ⟨d0, d1, d2, d3, -⟩ := hd
    unfold RVr
    rw [hc.at (by omega) (j := 0) (by omega), hc.at (by omega) (j := 1) (by omega), hc.at (by omega) (j := 2) (by omega), hc.at (by omega) (j := 3) (by omega), d0, d1, d2, d3]
    omega
  · have h3 := h r h0 h1
    unfold RVr at h3 ⊢
    rw [hc (10 * r + 0) (by omega), hc (10 * r + 1) (by omega), hc (10 * r + 2) (by omega), hc (10 * r + 3) (by omega), if_neg (by omega), if_neg (by omega), if_neg (by omega), if_neg (by omega)]
    exact h3
theorem v_X11_rule_10_1 {F : Nat → Nat → Nat} (G2 : XG) (G : XG) (a : Nat) (G6 : XG)
    (hG2 : G2 = dput G a 0 0)
    (hF6 : XFr [(a, 20), (a, 21), (a, 23)] [] [] G2 G6)
    (hwo : WDo G F a) :
    WDo G6 F a := by
  intro i hi j hj
  have h9 : G6.2.1 (F a (25 + i)) = G.2.1 (F a (25 + i)) := (hF6.2.1 _ xn0).trans (by rw [hG2]; rfl)
  rw [h9]
  exact hwo i hi j hj
theorem v_X11_rule_87_2 {F : Nat → Nat → Nat} (G10 : XG) (a : Nat) (G : XG) (G_58 : XG) (x43 : Int32) (l3_58 : Int32)
    (cp : CPd (G10.2.1 (F a 40)) (G.2.1 (F a 10)) (G_58.2.1 (F a 10)) 0 (10 * x43.toInt) (l3_58.toInt))
    (I58_0 : 0 ≤ l3_58.toInt ∧ l3_58.toInt ≤ 9)
    (c61 : (9 : Int) ≤ l3_58.toInt) :
    CPd (G10.2.1 (F a 40)) (G.2.1 (F a 10)) (G_58.2.1 (F a 10)) 0 (10 * x43.toInt) 9 := by
  rw [show l3_58.toInt = 9 from by omega] at cp
  exact cp
theorem v_X11_rule_87_3 {F : Nat → Nat → Nat} (G10 : XG) (a : Nat) (G : XG) (x43 : Int32) (G_58 : XG)
    (dfo10 : DFo (G10.2.1 (F a 40)) (tM (G.2.1 (F a 35)) ((G.1 a 36).toInt)))
    (oq43 : (x43.toInt = 12 ∨ aI (G.2.1 (F a 10)) (10 * x43.toInt + 0) = -1) ∧ ∀ i : Int, 0 ≤ i → i < x43.toInt → aI (G.2.1 (F a 10)) (10 * i + 0) ≠ -1)
    (cp87 : CPd (G10.2.1 (F a 40)) (G.2.1 (F a 10)) (G_58.2.1 (F a 10)) 0 (10 * x43.toInt) 9)
    (t43 : 0 ≤ x43.toInt ∧ x43.toInt ≤ 12)
    (c50 : x43.toInt ≠ (12 : Int)) :
    (0 ≤ (aI (G_58.2.1 (F a 10)) (10 * x43.toInt + 0)) ∧ (aI (G_58.2.1 (F a 10)) (10 * x43.toInt + 0)) ≤ 5) := by
  have b := (rS_b (tM (G.2.1 (F a 35)) ((G.1 a 36).toInt))).1
  have e := cp87.at (j := 0) (by omega) (by decide)
  rw [dfo10.1] at e
  omega
theorem v_X11_rule_142_4 (G_58 : XG) (a : Nat)
    (d_G_58_a_36 : G_58.1 a 36 = 0) :
    ((G_58.1 a 36).toInt) = 0 := by
  rw [d_G_58_a_36]; rfl
theorem v_X11_rule_142_5 {F : Nat → Nat → Nat} (G : XG) (a : Nat) (x10 : Int32) (G10 : XG) (x43 : Int32) (G_58 : XG) (l3_93 : Int32)
    (oq10 : (x10.toInt ≠ 0 ↔ rOk (tM (G.2.1 (F a 35)) ((G.1 a 36).toInt)) ((G.1 a 36).toInt)))
    (oq10a : (¬ rOk (tM (G.2.1 (F a 35)) ((G.1 a 36).toInt)) ((G.1 a 36).toInt) → ((G10.1 a 38).toInt) = (rS9 (tM (G.2.1 (F a 35)) ((G.1 a 36).toInt))).2.2 ∧ 0 ≤ (rS9 (tM (G.2.1 (F a 35)) ((G.1 a 36).toInt))).2.2 ∧ (rS9 (tM (G.2.1 (F a 35)) ((G.1 a 36).toInt))).2.2 ≤ ((G.1 a 36).toInt)))
    (dfo10 : DFo (G10.2.1 (F a 40)) (tM (G.2.1 (F a 35)) ((G.1 a 36).toInt)))
    (oq43 : (x43.toInt = 12 ∨ aI (G.2.1 (F a 10)) (10 * x43.toInt + 0) = -1) ∧ ∀ i : Int, 0 ≤ i → i < x43.toInt → aI (G.2.1 (F a 10)) (10 * i + 0) ≠ -1)
    (cp87 : CPd (G10.2.1 (F a 40)) (G.2.1 (F a 10)) (G_58.2.1 (F a 10)) 0 (10 * x43.toInt) 9)
    (pz : ∀ s : Int, sF (aI (G_58.2.1 (F a 10)) (10 * x43.toInt + 0)) ≤ s → s < l3_93.toInt → fzq (G_58.2.1 (F a 10)) (mw (G.2.1 (F a 1)) 0) (x43.toInt) s = 0)
    (nt0 : 0 ≤ ((G.1 a 36).toInt) ∧ ((G.1 a 36).toInt) ≤ 80)
    (c20 : x10.toInt ≠ 0)
    (c36 : ((G.1 a 6).toInt) = 0)
    (t43 : 0 ≤ x43.toInt ∧ x43.toInt ≤ 12)
    (c50 : x43.toInt ≠ (12 : Int))
    (kd87 : (0 ≤ (aI (G_58.2.1 (F a 10)) (10 * x43.toInt + 0)) ∧ (aI (G_58.2.1 (F a 10)) (10 * x43.toInt + 0)) ≤ 5))
    (sf87 : (((aI (G_58.2.1 (F a 10)) (10 * x43.toInt + 0)) = 2 ∨ (aI (G_58.2.1 (F a 10)) (10 * x43.toInt + 0)) = 4 ∨ (aI (G_58.2.1 (F a 10)) (10 * x43.toInt + 0)) = 5) ∧ (sF (aI (G_58.2.1 (F a 10)) (10 * x43.toInt + 0))) = 0 ∧ (sL (aI (G_58.2.1 (F a 10)) (10 * x43.toInt + 0))) = 29) ∨ (¬ ((aI (G_58.2.1 (F a 10)) (10 * x43.toInt + 0)) = 2 ∨ (aI (G_58.2.1 (F a 10)) (10 * x43.toInt + 0)) = 4 ∨ (aI (G_58.2.1 (F a 10)) (10 * x43.toInt + 0)) = 5) ∧ (sF (aI (G_58.2.1 (F a 10)) (10 * x43.toInt + 0))) = -99 ∧ (sL (aI (G_58.2.1 (F a 10)) (10 * x43.toInt + 0))) = 99))
    (I93_0 : (sF (aI (G_58.2.1 (F a 10)) (10 * x43.toInt + 0))) ≤ l3_93.toInt ∧ l3_93.toInt ≤ (sL (aI (G_58.2.1 (F a 10)) (10 * x43.toInt + 0))) + 1)
    (c99 : (sL (aI (G_58.2.1 (F a 10)) (10 * x43.toInt + 0))) < l3_93.toInt) :
    (¬ rOk (tM (G.2.1 (F a 35)) ((G.1 a 36).toInt)) ((G.1 a 36).toInt) ∧ x43.toInt = -1000 - (rS9 (tM (G.2.1 (F a 35)) ((G.1 a 36).toInt))).2.2 ∧ G_58.2.1 (F a 10) = (G.2.1 (F a 10))) ∨ (rOk (tM (G.2.1 (F a 35)) ((G.1 a 36).toInt)) ((G.1 a 36).toInt) ∧ ((G.1 a 6).toInt) ≠ 0 ∧ x43.toInt = -3 ∧ G_58.2.1 (F a 10) = (G.2.1 (F a 10))) ∨ (rOk (tM (G.2.1 (F a 35)) ((G.1 a 36).toInt)) ((G.1 a 36).toInt) ∧ ((G.1 a 6).toInt) = 0 ∧ (∀ i : Int, 0 ≤ i → i < 12 → aI (G.2.1 (F a 10)) (10 * i + 0) ≠ -1) ∧ x43.toInt = -4 ∧ G_58.2.1 (F a 10) = (G.2.1 (F a 10))) ∨ (rOk (tM (G.2.1 (F a 35)) ((G.1 a 36).toInt)) ((G.1 a 36).toInt) ∧ ((G.1 a 6).toInt) = 0 ∧ ∃ (k : Int) (d g : Nat → Int32), ((0 ≤ k ∧ k ≤ 11) ∧ aI (G.2.1 (F a 10)) (10 * k + 0) = -1 ∧ ∀ i : Int, 0 ≤ i → i < k → aI (G.2.1 (F a 10)) (10 * i + 0) ≠ -1) ∧ DFo d (tM (G.2.1 (F a 35)) ((G.1 a 36).toInt)) ∧ CPd d (G.2.1 (F a 10)) g 0 (10 * k) 9 ∧ (((∃ s : Int, sbj (aI g (10 * k + 0)) s ∧ fzq g (mw (G.2.1 (F a 1)) 0) k s = 1) ∧ x43.toInt = -5 ∧ ∀ z : Int, 0 ≤ z → aI (G_58.2.1 (F a 10)) z = if z = 10 * k then -1 else aI g z) ∨ ((∀ s : Int, sbj (aI g (10 * k + 0)) s → fzq g (mw (G.2.1 (F a 1)) 0) k s = 0) ∧ x43.toInt = k ∧ G_58.2.1 (F a 10) = g))) := by
  have ok : rOk (tM (G.2.1 (F a 35)) ((G.1 a 36).toInt)) ((G.1 a 36).toInt) := oq10.mp (by omega)
  refine Or.inr (Or.inr (Or.inr ⟨ok, by omega, x43.toInt, _, _, ⟨by omega, (by rcases oq43.1 with h | h; exact absurd h (by omega); exact h), fun i h1 h2 => oq43.2 i h1 h2⟩, dfo10, cp87, Or.inr ⟨fun s hs => ?_, rfl, rfl⟩⟩))
  have := sbj_FL.mp hs
  exact pz s this.1 (by omega)
theorem v_X11_rule_142_6 {F : Nat → Nat → Nat} (G : XG) (a : Nat) (G10 : XG) (G_58 : XG) (x43 : Int32)
    (hR : RV (G.2.1 (F a 10)))
    (dfo10 : DFo (G10.2.1 (F a 40)) (tM (G.2.1 (F a 35)) ((G.1 a 36).toInt)))
    (cp87 : CPd (G10.2.1 (F a 40)) (G.2.1 (F a 10)) (G_58.2.1 (F a 10)) 0 (10 * x43.toInt) 9)
    (t43 : 0 ≤ x43.toInt ∧ x43.toInt ≤ 12)
    (c50 : x43.toInt ≠ (12 : Int)) :
    RV (G_58.2.1 (F a 10)) := by
  exact hR.cpd (by omega) cp87 dfo10
theorem v_X11_rule_110_7 {F : Nat → Nat → Nat} (G : XG) (a : Nat) (G10 : XG) (G_58 : XG) (x43 : Int32)
    (hR : RV (G.2.1 (F a 10)))
    (dfo10 : DFo (G10.2.1 (F a 40)) (tM (G.2.1 (F a 35)) ((G.1 a 36).toInt)))
    (cp87 : CPd (G10.2.1 (F a 40)) (G.2.1 (F a 10)) (G_58.2.1 (F a 10)) 0 (10 * x43.toInt) 9)
    (t43 : 0 ≤ x43.toInt ∧ x43.toInt ≤ 12)
    (c50 : x43.toInt ≠ (12 : Int)) :
    RV (G_58.2.1 (F a 10)) := by
  exact hR.cpd (by omega) cp87 dfo10
theorem v_X11_rule_110_8 {F : Nat → Nat → Nat} (a : Nat) (G : XG) (G_58 : XG)
    (hM : RM (G.2.1 (F a 1)) (0))
    (c_G_58_F_a_1 : G_58.2.1 (F a 1) = G.2.1 (F a 1)) :
    RM (G_58.2.1 (F a 1)) (0 : Int) := by simp only [c_G_58_F_a_1]; assumption
theorem v_X11_rule_138_9 {F : Nat → Nat → Nat} (G_58 : XG) (a : Nat) (x43 : Int32) (l3_93 : Int32) (G : XG) (x110 : Int32)
    (pz : ∀ s : Int, sF (aI (G_58.2.1 (F a 10)) (10 * x43.toInt + 0)) ≤ s → s < l3_93.toInt → fzq (G_58.2.1 (F a 10)) (mw (G.2.1 (F a 1)) 0) (x43.toInt) s = 0)
    (t110 : x110.toInt = (flq (mw (G.2.1 (F a 1)) 0) (aI (G_58.2.1 (F a 10)) (10 * x43.toInt + 0)) (aI (G_58.2.1 (F a 10)) (10 * x43.toInt + 1)) (aI (G_58.2.1 (F a 10)) (10 * x43.toInt + 2)) (aI (G_58.2.1 (F a 10)) (10 * x43.toInt + 4)) (aI (G_58.2.1 (F a 10)) (10 * x43.toInt + 5)) (l3_93.toInt) (stt (mw (G.2.1 (F a 1)) 0) (aI (G_58.2.1 (F a 10)) (10 * x43.toInt + 0)) (aI (G_58.2.1 (F a 10)) (10 * x43.toInt + 1)) (aI (G_58.2.1 (F a 10)) (10 * x43.toInt + 2)) (aI (G_58.2.1 (F a 10)) (10 * x43.toInt + 3)) (l3_93.toInt))))
    (c113 : x110.toInt = 0) :
    ∀ s : Int, sF (aI (G_58.2.1 (F a 10)) (10 * x43.toInt + 0)) ≤ s → s < (l3_93.toInt + 1) → fzq (G_58.2.1 (F a 10)) (mw (G.2.1 (F a 1)) 0) (x43.toInt) s = 0 := by
  intro s h1 h2
  by_cases e : s = l3_93.toInt
  · subst e
    have t9 : flq _ _ _ _ _ _ _ _ = 0 := t110.symm.trans c113
    exact t9
  · exact pz s h1 (by omega)
theorem v_X11_rule_134_10 (G131 : XG) (a : Nat)
    (d_G131_a_36 : G131.1 a 36 = 0) :
    ((G131.1 a 36).toInt) = 0 := by
  rw [d_G131_a_36]; rfl
theorem v_X11_rule_134_11 {F : Nat → Nat → Nat} (G131 : XG) (G119 : XG) (a : Nat) (x129 : Int32) (G : XG) (x10 : Int32) (G10 : XG) (x43 : Int32) (G_58 : XG) (l3_93 : Int32) (x110 : Int32)
    (hG131 : G131 = cput G119 (F a 10) x129.toNatClampNeg (-1))
    (oq10 : (x10.toInt ≠ 0 ↔ rOk (tM (G.2.1 (F a 35)) ((G.1 a 36).toInt)) ((G.1 a 36).toInt)))
    (oq10a : (¬ rOk (tM (G.2.1 (F a 35)) ((G.1 a 36).toInt)) ((G.1 a 36).toInt) → ((G10.1 a 38).toInt) = (rS9 (tM (G.2.1 (F a 35)) ((G.1 a 36).toInt))).2.2 ∧ 0 ≤ (rS9 (tM (G.2.1 (F a 35)) ((G.1 a 36).toInt))).2.2 ∧ (rS9 (tM (G.2.1 (F a 35)) ((G.1 a 36).toInt))).2.2 ≤ ((G.1 a 36).toInt)))
    (dfo10 : DFo (G10.2.1 (F a 40)) (tM (G.2.1 (F a 35)) ((G.1 a 36).toInt)))
    (oq43 : (x43.toInt = 12 ∨ aI (G.2.1 (F a 10)) (10 * x43.toInt + 0) = -1) ∧ ∀ i : Int, 0 ≤ i → i < x43.toInt → aI (G.2.1 (F a 10)) (10 * i + 0) ≠ -1)
    (cp87 : CPd (G10.2.1 (F a 40)) (G.2.1 (F a 10)) (G_58.2.1 (F a 10)) 0 (10 * x43.toInt) 9)
    (e129 : x129.toInt = ((10 : Int) * x43.toInt))
    (nt0 : 0 ≤ ((G.1 a 36).toInt) ∧ ((G.1 a 36).toInt) ≤ 80)
    (c20 : x10.toInt ≠ 0)
    (c36 : ((G.1 a 6).toInt) = 0)
    (t43 : 0 ≤ x43.toInt ∧ x43.toInt ≤ 12)
    (c50 : x43.toInt ≠ (12 : Int))
    (kd87 : (0 ≤ (aI (G_58.2.1 (F a 10)) (10 * x43.toInt + 0)) ∧ (aI (G_58.2.1 (F a 10)) (10 * x43.toInt + 0)) ≤ 5))
    (sf87 : (((aI (G_58.2.1 (F a 10)) (10 * x43.toInt + 0)) = 2 ∨ (aI (G_58.2.1 (F a 10)) (10 * x43.toInt + 0)) = 4 ∨ (aI (G_58.2.1 (F a 10)) (10 * x43.toInt + 0)) = 5) ∧ (sF (aI (G_58.2.1 (F a 10)) (10 * x43.toInt + 0))) = 0 ∧ (sL (aI (G_58.2.1 (F a 10)) (10 * x43.toInt + 0))) = 29) ∨ (¬ ((aI (G_58.2.1 (F a 10)) (10 * x43.toInt + 0)) = 2 ∨ (aI (G_58.2.1 (F a 10)) (10 * x43.toInt + 0)) = 4 ∨ (aI (G_58.2.1 (F a 10)) (10 * x43.toInt + 0)) = 5) ∧ (sF (aI (G_58.2.1 (F a 10)) (10 * x43.toInt + 0))) = -99 ∧ (sL (aI (G_58.2.1 (F a 10)) (10 * x43.toInt + 0))) = 99))
    (I93_0 : (sF (aI (G_58.2.1 (F a 10)) (10 * x43.toInt + 0))) ≤ l3_93.toInt ∧ l3_93.toInt ≤ (sL (aI (G_58.2.1 (F a 10)) (10 * x43.toInt + 0))) + 1)
    (c99 : ¬ ((sL (aI (G_58.2.1 (F a 10)) (10 * x43.toInt + 0))) < l3_93.toInt))
    (t110 : x110.toInt = (flq (mw (G.2.1 (F a 1)) 0) (aI (G_58.2.1 (F a 10)) (10 * x43.toInt + 0)) (aI (G_58.2.1 (F a 10)) (10 * x43.toInt + 1)) (aI (G_58.2.1 (F a 10)) (10 * x43.toInt + 2)) (aI (G_58.2.1 (F a 10)) (10 * x43.toInt + 4)) (aI (G_58.2.1 (F a 10)) (10 * x43.toInt + 5)) (l3_93.toInt) (stt (mw (G.2.1 (F a 1)) 0) (aI (G_58.2.1 (F a 10)) (10 * x43.toInt + 0)) (aI (G_58.2.1 (F a 10)) (10 * x43.toInt + 1)) (aI (G_58.2.1 (F a 10)) (10 * x43.toInt + 2)) (aI (G_58.2.1 (F a 10)) (10 * x43.toInt + 3)) (l3_93.toInt))))
    (c113 : ¬ (x110.toInt = 0))
    (c_G119_F_a_10 : G119.2.1 (F a 10) = G_58.2.1 (F a 10)) :
    (¬ rOk (tM (G.2.1 (F a 35)) ((G.1 a 36).toInt)) ((G.1 a 36).toInt) ∧ (-5 : Int) = -1000 - (rS9 (tM (G.2.1 (F a 35)) ((G.1 a 36).toInt))).2.2 ∧ G131.2.1 (F a 10) = (G.2.1 (F a 10))) ∨ (rOk (tM (G.2.1 (F a 35)) ((G.1 a 36).toInt)) ((G.1 a 36).toInt) ∧ ((G.1 a 6).toInt) ≠ 0 ∧ (-5 : Int) = -3 ∧ G131.2.1 (F a 10) = (G.2.1 (F a 10))) ∨ (rOk (tM (G.2.1 (F a 35)) ((G.1 a 36).toInt)) ((G.1 a 36).toInt) ∧ ((G.1 a 6).toInt) = 0 ∧ (∀ i : Int, 0 ≤ i → i < 12 → aI (G.2.1 (F a 10)) (10 * i + 0) ≠ -1) ∧ (-5 : Int) = -4 ∧ G131.2.1 (F a 10) = (G.2.1 (F a 10))) ∨ (rOk (tM (G.2.1 (F a 35)) ((G.1 a 36).toInt)) ((G.1 a 36).toInt) ∧ ((G.1 a 6).toInt) = 0 ∧ ∃ (k : Int) (d g : Nat → Int32), ((0 ≤ k ∧ k ≤ 11) ∧ aI (G.2.1 (F a 10)) (10 * k + 0) = -1 ∧ ∀ i : Int, 0 ≤ i → i < k → aI (G.2.1 (F a 10)) (10 * i + 0) ≠ -1) ∧ DFo d (tM (G.2.1 (F a 35)) ((G.1 a 36).toInt)) ∧ CPd d (G.2.1 (F a 10)) g 0 (10 * k) 9 ∧ (((∃ s : Int, sbj (aI g (10 * k + 0)) s ∧ fzq g (mw (G.2.1 (F a 1)) 0) k s = 1) ∧ (-5 : Int) = -5 ∧ ∀ z : Int, 0 ≤ z → aI (G131.2.1 (F a 10)) z = if z = 10 * k then -1 else aI g z) ∨ ((∀ s : Int, sbj (aI g (10 * k + 0)) s → fzq g (mw (G.2.1 (F a 1)) 0) k s = 0) ∧ (-5 : Int) = k ∧ G131.2.1 (F a 10) = g))) := by
  have ok : rOk (tM (G.2.1 (F a 35)) ((G.1 a 36).toInt)) ((G.1 a 36).toInt) := oq10.mp (by omega)
  refine Or.inr (Or.inr (Or.inr ⟨ok, by omega, x43.toInt, _, _, ⟨by omega, (by rcases oq43.1 with h | h; exact absurd h (by omega); exact h), fun i h1 h2 => oq43.2 i h1 h2⟩, dfo10, cp87, Or.inl ⟨⟨l3_93.toInt, sbj_FL.mpr (by omega), ?_⟩, rfl, aI_pu hG131 c_G119_F_a_10 (by omega) (by decide) (by omega)⟩⟩))
  have h01 := flq01 (mw (G.2.1 (F a 1)) 0) (aI (G_58.2.1 (F a 10)) (10 * x43.toInt + 0)) (aI (G_58.2.1 (F a 10)) (10 * x43.toInt + 1)) (aI (G_58.2.1 (F a 10)) (10 * x43.toInt + 2)) (aI (G_58.2.1 (F a 10)) (10 * x43.toInt + 4)) (aI (G_58.2.1 (F a 10)) (10 * x43.toInt + 5)) l3_93.toInt (stt (mw (G.2.1 (F a 1)) 0) (aI (G_58.2.1 (F a 10)) (10 * x43.toInt + 0)) (aI (G_58.2.1 (F a 10)) (10 * x43.toInt + 1)) (aI (G_58.2.1 (F a 10)) (10 * x43.toInt + 2)) (aI (G_58.2.1 (F a 10)) (10 * x43.toInt + 3)) l3_93.toInt)
  show flq _ _ _ _ _ _ _ _ = 1
  omega
theorem v_X11_rule_134_12 {F : Nat → Nat → Nat} (G131 : XG) (G119 : XG) (a : Nat) (x129 : Int32) (G : XG) (G10 : XG) (G_58 : XG) (x43 : Int32)
    (hG131 : G131 = cput G119 (F a 10) x129.toNatClampNeg (-1))
    (hR : RV (G.2.1 (F a 10)))
    (dfo10 : DFo (G10.2.1 (F a 40)) (tM (G.2.1 (F a 35)) ((G.1 a 36).toInt)))
    (cp87 : CPd (G10.2.1 (F a 40)) (G.2.1 (F a 10)) (G_58.2.1 (F a 10)) 0 (10 * x43.toInt) 9)
    (e129 : x129.toInt = ((10 : Int) * x43.toInt))
    (t43 : 0 ≤ x43.toInt ∧ x43.toInt ≤ 12)
    (c50 : x43.toInt ≠ (12 : Int))
    (c_G119_F_a_10 : G119.2.1 (F a 10) = G_58.2.1 (F a 10)) :
    RV (G131.2.1 (F a 10)) := by
  exact (hR.cpd (by omega) cp87 dfo10).drop (aI_pu hG131 c_G119_F_a_10 (by omega) (by decide) (by omega))
theorem v_X11_rule_92_13 {F : Nat → Nat → Nat} (G_58 : XG) (a : Nat) (x43 : Int32) (G : XG) :
    ∀ s : Int, sF (aI (G_58.2.1 (F a 10)) (10 * x43.toInt + 0)) ≤ s → s < (sF (aI (G_58.2.1 (F a 10)) (10 * x43.toInt + 0))) → fzq (G_58.2.1 (F a 10)) (mw (G.2.1 (F a 1)) 0) (x43.toInt) s = 0 := by
  intro s h1 h2; exact absurd h1 (by omega)
theorem v_X11_rule_84_14 {F : Nat → Nat → Nat} (G80 : XG) (G_58 : XG) (a : Nat) (x73 : Int32) (x79 : Int32) (G10 : XG) (G : XG) (x43 : Int32) (l3_58 : Int32)
    (hG80 : G80 = cput G_58 (F a 10) x73.toNatClampNeg x79)
    (cp : CPd (G10.2.1 (F a 40)) (G.2.1 (F a 10)) (G_58.2.1 (F a 10)) 0 (10 * x43.toInt) (l3_58.toInt))
    (e73 : x73.toInt = (((10 : Int) * x43.toInt) + l3_58.toInt))
    (hv79 : x79.toInt = (aI (G10.2.1 (F a 40)) (l3_58.toInt)))
    (t43 : 0 ≤ x43.toInt ∧ x43.toInt ≤ 12)
    (c50 : x43.toInt ≠ (12 : Int))
    (I58_0 : 0 ≤ l3_58.toInt ∧ l3_58.toInt ≤ 9)
    (c61 : ¬ ((9 : Int) ≤ l3_58.toInt)) :
    CPd (G10.2.1 (F a 40)) (G.2.1 (F a 10)) (G80.2.1 (F a 10)) 0 (10 * x43.toInt) (l3_58.toInt + 1) := by
  exact cp.s (by omega) (by omega) (aI_pu hG80 rfl rfl hv79 (by omega)) (by omega) rfl
theorem v_X11_rule_57_15 {F : Nat → Nat → Nat} (x43 : Int32) (G10 : XG) (a : Nat) (G : XG) :
    CPd (G10.2.1 (F a 40)) (G.2.1 (F a 10)) (G.2.1 (F a 10)) 0 (10 * x43.toInt) (0 : Int) := by
  exact CPd.z _ _ _
theorem v_X11_rule_55_16 (G16 : XG) (a : Nat)
    (d_G16_a_36 : G16.1 a 36 = 0) :
    ((G16.1 a 36).toInt) = 0 := by
  rw [d_G16_a_36]; rfl
theorem v_X11_rule_55_17 {F : Nat → Nat → Nat} (G : XG) (a : Nat) (x10 : Int32) (G10 : XG) (x43 : Int32) (G16 : XG)
    (oq10 : (x10.toInt ≠ 0 ↔ rOk (tM (G.2.1 (F a 35)) ((G.1 a 36).toInt)) ((G.1 a 36).toInt)))
    (oq10a : (¬ rOk (tM (G.2.1 (F a 35)) ((G.1 a 36).toInt)) ((G.1 a 36).toInt) → ((G10.1 a 38).toInt) = (rS9 (tM (G.2.1 (F a 35)) ((G.1 a 36).toInt))).2.2 ∧ 0 ≤ (rS9 (tM (G.2.1 (F a 35)) ((G.1 a 36).toInt))).2.2 ∧ (rS9 (tM (G.2.1 (F a 35)) ((G.1 a 36).toInt))).2.2 ≤ ((G.1 a 36).toInt)))
    (oq43 : (x43.toInt = 12 ∨ aI (G.2.1 (F a 10)) (10 * x43.toInt + 0) = -1) ∧ ∀ i : Int, 0 ≤ i → i < x43.toInt → aI (G.2.1 (F a 10)) (10 * i + 0) ≠ -1)
    (nt0 : 0 ≤ ((G.1 a 36).toInt) ∧ ((G.1 a 36).toInt) ≤ 80)
    (c20 : x10.toInt ≠ 0)
    (c36 : ((G.1 a 6).toInt) = 0)
    (t43 : 0 ≤ x43.toInt ∧ x43.toInt ≤ 12)
    (c50 : ¬ (x43.toInt ≠ (12 : Int)))
    (c_G16_F_a_10 : G16.2.1 (F a 10) = G.2.1 (F a 10)) :
    (¬ rOk (tM (G.2.1 (F a 35)) ((G.1 a 36).toInt)) ((G.1 a 36).toInt) ∧ (-4 : Int) = -1000 - (rS9 (tM (G.2.1 (F a 35)) ((G.1 a 36).toInt))).2.2 ∧ G16.2.1 (F a 10) = (G.2.1 (F a 10))) ∨ (rOk (tM (G.2.1 (F a 35)) ((G.1 a 36).toInt)) ((G.1 a 36).toInt) ∧ ((G.1 a 6).toInt) ≠ 0 ∧ (-4 : Int) = -3 ∧ G16.2.1 (F a 10) = (G.2.1 (F a 10))) ∨ (rOk (tM (G.2.1 (F a 35)) ((G.1 a 36).toInt)) ((G.1 a 36).toInt) ∧ ((G.1 a 6).toInt) = 0 ∧ (∀ i : Int, 0 ≤ i → i < 12 → aI (G.2.1 (F a 10)) (10 * i + 0) ≠ -1) ∧ (-4 : Int) = -4 ∧ G16.2.1 (F a 10) = (G.2.1 (F a 10))) ∨ (rOk (tM (G.2.1 (F a 35)) ((G.1 a 36).toInt)) ((G.1 a 36).toInt) ∧ ((G.1 a 6).toInt) = 0 ∧ ∃ (k : Int) (d g : Nat → Int32), ((0 ≤ k ∧ k ≤ 11) ∧ aI (G.2.1 (F a 10)) (10 * k + 0) = -1 ∧ ∀ i : Int, 0 ≤ i → i < k → aI (G.2.1 (F a 10)) (10 * i + 0) ≠ -1) ∧ DFo d (tM (G.2.1 (F a 35)) ((G.1 a 36).toInt)) ∧ CPd d (G.2.1 (F a 10)) g 0 (10 * k) 9 ∧ (((∃ s : Int, sbj (aI g (10 * k + 0)) s ∧ fzq g (mw (G.2.1 (F a 1)) 0) k s = 1) ∧ (-4 : Int) = -5 ∧ ∀ z : Int, 0 ≤ z → aI (G16.2.1 (F a 10)) z = if z = 10 * k then -1 else aI g z) ∨ ((∀ s : Int, sbj (aI g (10 * k + 0)) s → fzq g (mw (G.2.1 (F a 1)) 0) k s = 0) ∧ (-4 : Int) = k ∧ G16.2.1 (F a 10) = g))) := by
  have ok : rOk (tM (G.2.1 (F a 35)) ((G.1 a 36).toInt)) ((G.1 a 36).toInt) := oq10.mp (by omega)
  exact Or.inr (Or.inr (Or.inl ⟨ok, by omega, fun i h1 h2 => oq43.2 i h1 (by omega), rfl, c_G16_F_a_10⟩))
theorem v_X11_rule_55_18 {F : Nat → Nat → Nat} (G : XG) (a : Nat) (G16 : XG)
    (hR : RV (G.2.1 (F a 10)))
    (c_G16_F_a_10 : G16.2.1 (F a 10) = G.2.1 (F a 10)) :
    RV (G16.2.1 (F a 10)) := by
  rw [c_G16_F_a_10]; exact hR
theorem v_X11_rule_41_19 (G16 : XG) (a : Nat)
    (d_G16_a_36 : G16.1 a 36 = 0) :
    ((G16.1 a 36).toInt) = 0 := by
  rw [d_G16_a_36]; rfl
theorem v_X11_rule_41_20 {F : Nat → Nat → Nat} (G : XG) (a : Nat) (x10 : Int32) (G10 : XG) (G16 : XG)
    (oq10 : (x10.toInt ≠ 0 ↔ rOk (tM (G.2.1 (F a 35)) ((G.1 a 36).toInt)) ((G.1 a 36).toInt)))
    (oq10a : (¬ rOk (tM (G.2.1 (F a 35)) ((G.1 a 36).toInt)) ((G.1 a 36).toInt) → ((G10.1 a 38).toInt) = (rS9 (tM (G.2.1 (F a 35)) ((G.1 a 36).toInt))).2.2 ∧ 0 ≤ (rS9 (tM (G.2.1 (F a 35)) ((G.1 a 36).toInt))).2.2 ∧ (rS9 (tM (G.2.1 (F a 35)) ((G.1 a 36).toInt))).2.2 ≤ ((G.1 a 36).toInt)))
    (nt0 : 0 ≤ ((G.1 a 36).toInt) ∧ ((G.1 a 36).toInt) ≤ 80)
    (c20 : x10.toInt ≠ 0)
    (c36 : ¬ (((G.1 a 6).toInt) = 0))
    (c_G16_F_a_10 : G16.2.1 (F a 10) = G.2.1 (F a 10)) :
    (¬ rOk (tM (G.2.1 (F a 35)) ((G.1 a 36).toInt)) ((G.1 a 36).toInt) ∧ (-3 : Int) = -1000 - (rS9 (tM (G.2.1 (F a 35)) ((G.1 a 36).toInt))).2.2 ∧ G16.2.1 (F a 10) = (G.2.1 (F a 10))) ∨ (rOk (tM (G.2.1 (F a 35)) ((G.1 a 36).toInt)) ((G.1 a 36).toInt) ∧ ((G.1 a 6).toInt) ≠ 0 ∧ (-3 : Int) = -3 ∧ G16.2.1 (F a 10) = (G.2.1 (F a 10))) ∨ (rOk (tM (G.2.1 (F a 35)) ((G.1 a 36).toInt)) ((G.1 a 36).toInt) ∧ ((G.1 a 6).toInt) = 0 ∧ (∀ i : Int, 0 ≤ i → i < 12 → aI (G.2.1 (F a 10)) (10 * i + 0) ≠ -1) ∧ (-3 : Int) = -4 ∧ G16.2.1 (F a 10) = (G.2.1 (F a 10))) ∨ (rOk (tM (G.2.1 (F a 35)) ((G.1 a 36).toInt)) ((G.1 a 36).toInt) ∧ ((G.1 a 6).toInt) = 0 ∧ ∃ (k : Int) (d g : Nat → Int32), ((0 ≤ k ∧ k ≤ 11) ∧ aI (G.2.1 (F a 10)) (10 * k + 0) = -1 ∧ ∀ i : Int, 0 ≤ i → i < k → aI (G.2.1 (F a 10)) (10 * i + 0) ≠ -1) ∧ DFo d (tM (G.2.1 (F a 35)) ((G.1 a 36).toInt)) ∧ CPd d (G.2.1 (F a 10)) g 0 (10 * k) 9 ∧ (((∃ s : Int, sbj (aI g (10 * k + 0)) s ∧ fzq g (mw (G.2.1 (F a 1)) 0) k s = 1) ∧ (-3 : Int) = -5 ∧ ∀ z : Int, 0 ≤ z → aI (G16.2.1 (F a 10)) z = if z = 10 * k then -1 else aI g z) ∨ ((∀ s : Int, sbj (aI g (10 * k + 0)) s → fzq g (mw (G.2.1 (F a 1)) 0) k s = 0) ∧ (-3 : Int) = k ∧ G16.2.1 (F a 10) = g))) := by
  have ok : rOk (tM (G.2.1 (F a 35)) ((G.1 a 36).toInt)) ((G.1 a 36).toInt) := oq10.mp (by omega)
  exact Or.inr (Or.inl ⟨ok, by omega, rfl, c_G16_F_a_10⟩)
theorem v_X11_rule_41_21 {F : Nat → Nat → Nat} (G : XG) (a : Nat) (G16 : XG)
    (hR : RV (G.2.1 (F a 10)))
    (c_G16_F_a_10 : G16.2.1 (F a 10) = G.2.1 (F a 10)) :
    RV (G16.2.1 (F a 10)) := by
  rw [c_G16_F_a_10]; exact hR
theorem v_X11_rule_23_22 {F : Nat → Nat → Nat} (x10 : Int32) (G : XG) (a : Nat) (G10 : XG)
    (oq10 : (x10.toInt ≠ 0 ↔ rOk (tM (G.2.1 (F a 35)) ((G.1 a 36).toInt)) ((G.1 a 36).toInt)))
    (oq10a : (¬ rOk (tM (G.2.1 (F a 35)) ((G.1 a 36).toInt)) ((G.1 a 36).toInt) → ((G10.1 a 38).toInt) = (rS9 (tM (G.2.1 (F a 35)) ((G.1 a 36).toInt))).2.2 ∧ 0 ≤ (rS9 (tM (G.2.1 (F a 35)) ((G.1 a 36).toInt))).2.2 ∧ (rS9 (tM (G.2.1 (F a 35)) ((G.1 a 36).toInt))).2.2 ≤ ((G.1 a 36).toInt)))
    (nt0 : 0 ≤ ((G.1 a 36).toInt) ∧ ((G.1 a 36).toInt) ≤ 80)
    (c20 : ¬ (x10.toInt ≠ 0)) :
    0 ≤ ((G10.1 a 38).toInt) ∧ ((G10.1 a 38).toInt) ≤ 80 := by
  have nk : ¬ rOk (tM (G.2.1 (F a 35)) ((G.1 a 36).toInt)) ((G.1 a 36).toInt) := fun h => oq10.mpr h (by omega)
  have pl := oq10a nk
  omega
theorem v_X11_rule_31_23 (G16 : XG) (a : Nat)
    (d_G16_a_36 : G16.1 a 36 = 0) :
    ((G16.1 a 36).toInt) = 0 := by
  rw [d_G16_a_36]; rfl
theorem v_X11_rule_31_24 {F : Nat → Nat → Nat} (G : XG) (a : Nat) (x10 : Int32) (G10 : XG) (G16 : XG)
    (oq10 : (x10.toInt ≠ 0 ↔ rOk (tM (G.2.1 (F a 35)) ((G.1 a 36).toInt)) ((G.1 a 36).toInt)))
    (oq10a : (¬ rOk (tM (G.2.1 (F a 35)) ((G.1 a 36).toInt)) ((G.1 a 36).toInt) → ((G10.1 a 38).toInt) = (rS9 (tM (G.2.1 (F a 35)) ((G.1 a 36).toInt))).2.2 ∧ 0 ≤ (rS9 (tM (G.2.1 (F a 35)) ((G.1 a 36).toInt))).2.2 ∧ (rS9 (tM (G.2.1 (F a 35)) ((G.1 a 36).toInt))).2.2 ≤ ((G.1 a 36).toInt)))
    (nt0 : 0 ≤ ((G.1 a 36).toInt) ∧ ((G.1 a 36).toInt) ≤ 80)
    (c20 : ¬ (x10.toInt ≠ 0))
    (c_G16_F_a_10 : G16.2.1 (F a 10) = G.2.1 (F a 10)) :
    (¬ rOk (tM (G.2.1 (F a 35)) ((G.1 a 36).toInt)) ((G.1 a 36).toInt) ∧ ((-1000 : Int) - ((G10.1 a 38).toInt)) = -1000 - (rS9 (tM (G.2.1 (F a 35)) ((G.1 a 36).toInt))).2.2 ∧ G16.2.1 (F a 10) = (G.2.1 (F a 10))) ∨ (rOk (tM (G.2.1 (F a 35)) ((G.1 a 36).toInt)) ((G.1 a 36).toInt) ∧ ((G.1 a 6).toInt) ≠ 0 ∧ ((-1000 : Int) - ((G10.1 a 38).toInt)) = -3 ∧ G16.2.1 (F a 10) = (G.2.1 (F a 10))) ∨ (rOk (tM (G.2.1 (F a 35)) ((G.1 a 36).toInt)) ((G.1 a 36).toInt) ∧ ((G.1 a 6).toInt) = 0 ∧ (∀ i : Int, 0 ≤ i → i < 12 → aI (G.2.1 (F a 10)) (10 * i + 0) ≠ -1) ∧ ((-1000 : Int) - ((G10.1 a 38).toInt)) = -4 ∧ G16.2.1 (F a 10) = (G.2.1 (F a 10))) ∨ (rOk (tM (G.2.1 (F a 35)) ((G.1 a 36).toInt)) ((G.1 a 36).toInt) ∧ ((G.1 a 6).toInt) = 0 ∧ ∃ (k : Int) (d g : Nat → Int32), ((0 ≤ k ∧ k ≤ 11) ∧ aI (G.2.1 (F a 10)) (10 * k + 0) = -1 ∧ ∀ i : Int, 0 ≤ i → i < k → aI (G.2.1 (F a 10)) (10 * i + 0) ≠ -1) ∧ DFo d (tM (G.2.1 (F a 35)) ((G.1 a 36).toInt)) ∧ CPd d (G.2.1 (F a 10)) g 0 (10 * k) 9 ∧ (((∃ s : Int, sbj (aI g (10 * k + 0)) s ∧ fzq g (mw (G.2.1 (F a 1)) 0) k s = 1) ∧ ((-1000 : Int) - ((G10.1 a 38).toInt)) = -5 ∧ ∀ z : Int, 0 ≤ z → aI (G16.2.1 (F a 10)) z = if z = 10 * k then -1 else aI g z) ∨ ((∀ s : Int, sbj (aI g (10 * k + 0)) s → fzq g (mw (G.2.1 (F a 1)) 0) k s = 0) ∧ ((-1000 : Int) - ((G10.1 a 38).toInt)) = k ∧ G16.2.1 (F a 10) = g))) := by
  have nk : ¬ rOk (tM (G.2.1 (F a 35)) ((G.1 a 36).toInt)) ((G.1 a 36).toInt) := fun h => oq10.mpr h (by omega)
  have pl := oq10a nk
  exact Or.inl ⟨nk, by omega, c_G16_F_a_10⟩
theorem v_X11_rule_31_25 {F : Nat → Nat → Nat} (G : XG) (a : Nat) (G16 : XG)
    (hR : RV (G.2.1 (F a 10)))
    (c_G16_F_a_10 : G16.2.1 (F a 10) = G.2.1 (F a 10)) :
    RV (G16.2.1 (F a 10)) := by
  rw [c_G16_F_a_10]; exact hR
theorem z_X11_rule_2 (a0 : Int) (h0 : 0 ≤ a0 ∧ a0 ≤ 9) : ¬ (2147483648 - a0 < ((0 : Nat) : Int)) := by omega
theorem z_X11_rule_3 (a0 : Int) (h0 : 0 ≤ a0 ∧ a0 ≤ 12) (h1 : a0 ≠ (12 : Int)) : 0 ≤ a0 ∧ a0 ≤ 11 := by omega
theorem z_X11_rule_4 (a0 : Int) (h0 : -2147483648 ≤ a0 ∧ a0 < 2147483648) : ¬ (2147483648 - a0 < ((0 : Nat) : Int)) := by omega
theorem z_X11_rule_6 (a0 : Int) (a1 : Int) (a2 : Int) (h0 : a0 = -2147483648 ∧ a1 = -2147483648 ∧ a2 = 0) : (0 ≤ a2 ∧ a2 ≤ 24) := by omega
theorem z_X11_rule_8 (a0 : Int) (h0 : (0 ≤ a0 ∧ a0 ≤ 5)) : a0 ≠ -1 := by omega
theorem z_X11_rule_9 (a0 : Int) (a1 : Int) (a2 : Int) (h0 : a1 ≤ a0 ∧ a0 ≤ a2 + 1) (h1 : ¬ (a2 < a0)) : a1 ≤ a0 ∧ a0 ≤ a2 := by omega
theorem z_X11_rule_10 (a0 : Int) (a1 : Int) (a2 : Int) (a3 : Int) (a4 : Int) (h0 : ((a2 = 2 ∨ a2 = 4 ∨ a2 = 5) ∧ a3 = 0 ∧ a4 = 29) ∨ (¬ (a2 = 2 ∨ a2 = 4 ∨ a2 = 5) ∧ a3 = -99 ∧ a4 = 99)) (h1 : ¬ (a4 < a0)) (h2 : a1 = (a0 + 1) ∨ (a0 + 1) < -2147483648 ∨ 2147483648 ≤ (a0 + 1)) (h3 : -2147483648 ≤ a0 ∧ a0 < 2147483648) : a1 = (a0 + 1) := by omega
theorem z_X11_rule_11 (a0 : Int) (a1 : Int) (a2 : Int) (h0 : a1 ≤ a0 ∧ a0 ≤ a2 + 1) (h1 : ¬ (a2 < a0)) : a1 ≤ (a0 + 1) ∧ (a0 + 1) ≤ a2 + 1 := by omega
theorem z_X11_rule_12 (a0 : Int) (a1 : Nat) (h0 : 2147483648 - a0 < ((a1 + 1 : Nat) : Int)) : 2147483648 - (a0 + 1) < ((a1 : Nat) : Int) := by omega
theorem z_X11_rule_14 (a0 : Int) (a1 : Int) (a2 : Int) (a3 : Int) (h0 : ((a1 = 2 ∨ a1 = 4 ∨ a1 = 5) ∧ a2 = 0 ∧ a3 = 29) ∨ (¬ (a1 = 2 ∨ a1 = 4 ∨ a1 = 5) ∧ a2 = -99 ∧ a3 = 99)) (h1 : a2 ≤ a0 ∧ a0 ≤ a3 + 1) (h2 : ¬ (a3 < a0)) : -99 ≤ a0 ∧ a0 ≤ 99 := by omega
theorem z_X11_rule_15 (a0 : Int) (a1 : Int) (h0 : 0 ≤ a1 ∧ a1 ≤ 12) (h1 : a0 = ((10 : Int) * a1) ∨ ((10 : Int) * a1) < -2147483648 ∨ 2147483648 ≤ ((10 : Int) * a1)) : a0 = ((10 : Int) * a1) := by omega
theorem z_X11_rule_16 (a0 : Int) (h0 : 0 ≤ a0 ∧ a0 ≤ 12) (h1 : a0 ≠ (12 : Int)) : 0 ≤ ((10 : Int) * a0) ∧ ((10 : Int) * a0) < ((120 : Nat) : Int) := by omega
theorem z_X11_rule_17 (a0 : Int) (a1 : Int) (a2 : Int) (a3 : Int) (a4 : Int) (h0 : a2 = a1 ∧ a3 = a0 ∧ 0 ≤ a4 ∧ a4 ≤ 24) : (0 ≤ a4 ∧ a4 ≤ 24) := by omega
theorem z_X11_rule_18 (a0 : Int) (a1 : Int) (a2 : Int) (h0 : ((a0 = 2 ∨ a0 = 4 ∨ a0 = 5) ∧ a1 = 0 ∧ a2 = 29) ∨ (¬ (a0 = 2 ∨ a0 = 4 ∨ a0 = 5) ∧ a1 = -99 ∧ a2 = 99)) : a1 ≤ a1 ∧ a1 ≤ a2 + 1 := by omega
theorem z_X11_rule_19 (a0 : Int) (a1 : Int) (a2 : Int) (h0 : ((a0 = 2 ∨ a0 = 4 ∨ a0 = 5) ∧ a1 = 0 ∧ a2 = 29) ∨ (¬ (a0 = 2 ∨ a0 = 4 ∨ a0 = 5) ∧ a1 = -99 ∧ a2 = 99)) : 2147483648 - a1 < ((4294967297 : Nat) : Int) := by omega
theorem z_X11_rule_20 (a0 : Int) (a1 : Int) (h0 : 0 ≤ a0 ∧ a0 ≤ 12) (h1 : a1 = ((10 : Int) * a0) ∨ ((10 : Int) * a0) < -2147483648 ∨ 2147483648 ≤ ((10 : Int) * a0)) : a1 = ((10 : Int) * a0) := by omega
theorem z_X11_rule_21 (a0 : Int) (a1 : Int) (a2 : Int) (h0 : 0 ≤ a1 ∧ a1 ≤ 12) (h1 : 0 ≤ a0 ∧ a0 ≤ 9) (h2 : a2 = (((10 : Int) * a1) + a0) ∨ (((10 : Int) * a1) + a0) < -2147483648 ∨ 2147483648 ≤ (((10 : Int) * a1) + a0)) : a2 = (((10 : Int) * a1) + a0) := by omega
theorem z_X11_rule_22 (a0 : Int) (h0 : 0 ≤ a0 ∧ a0 ≤ 9) : 0 ≤ a0 ∧ a0 < ((10 : Nat) : Int) := by omega
theorem z_X11_rule_23 (a0 : Int) (a1 : Int) (h0 : 0 ≤ a1 ∧ a1 ≤ 12) (h1 : a1 ≠ (12 : Int)) (h2 : 0 ≤ a0 ∧ a0 ≤ 9) : 0 ≤ (((10 : Int) * a1) + a0) ∧ (((10 : Int) * a1) + a0) < ((120 : Nat) : Int) := by omega
theorem z_X11_rule_24 (a0 : Int) (a1 : Int) (h0 : 0 ≤ a0 ∧ a0 ≤ 9) (h1 : a1 = (a0 + 1) ∨ (a0 + 1) < -2147483648 ∨ 2147483648 ≤ (a0 + 1)) : a1 = (a0 + 1) := by omega
theorem z_X11_rule_25 (a0 : Int) (h0 : 0 ≤ a0 ∧ a0 ≤ 9) (h1 : ¬ ((9 : Int) ≤ a0)) : 0 ≤ (a0 + 1) ∧ (a0 + 1) ≤ 9 := by omega
theorem z_X11_rule_26 (a0 : Int) (h0 : 0 ≤ a0 ∧ a0 ≤ 9) : (0 : Int) ≤ (a0 + 1) := by omega
theorem z_X11_rule_30 (a0 : Int) (a1 : Int) (h0 : 0 ≤ a1 ∧ a1 ≤ 80) (h1 : a0 = ((-1000 : Int) - a1) ∨ ((-1000 : Int) - a1) < -2147483648 ∨ 2147483648 ≤ ((-1000 : Int) - a1)) : a0 = ((-1000 : Int) - a1) := by omega
abbrev rm_X11_rule : Room := { frames := 5, cells := 0, slots := 0, locals := 112 }
set_option maxHeartbeats 4000000 in
set_option maxRecDepth 100000 in
theorem c_X11_rule (l : Launch) (E : XE) (K : Nat → Nat) (F : Nat → Nat → Nat) (G : XG) (a : Nat) (ha : K a = 13) (nt0 : 0 ≤ ((G.1 a 36).toInt) ∧ ((G.1 a 36).toInt) ≤ 80) (hR : RV (G.2.1 (F a 10))) (hM : RM (G.2.1 (F a 1)) (0)) (hwo : WDo G F a) : Met l yX11_rule (xw yX11_rule cX11_rule 4 (some .int)) rm_X11_rule (va_Pc [.ref a] (XP E K F G)) (XQ E (fun v (u : XG) => ∃ r : Int32, v = .int r ∧ XFr [(a, 0), (a, 20), (a, 21), (a, 23), (a, 36), (a, 37), (a, 38), (a, 39)] [F a 40, F a 10, F a 22] [] G u ∧ ((0 ≤ ((u.1 a 23).toInt) ∧ ((u.1 a 23).toInt) ≤ 24)) ∧ (((u.1 a 36).toInt) = 0) ∧ ((¬ rOk (tM (G.2.1 (F a 35)) ((G.1 a 36).toInt)) ((G.1 a 36).toInt) ∧ r.toInt = -1000 - (rS9 (tM (G.2.1 (F a 35)) ((G.1 a 36).toInt))).2.2 ∧ u.2.1 (F a 10) = (G.2.1 (F a 10))) ∨ (rOk (tM (G.2.1 (F a 35)) ((G.1 a 36).toInt)) ((G.1 a 36).toInt) ∧ ((G.1 a 6).toInt) ≠ 0 ∧ r.toInt = -3 ∧ u.2.1 (F a 10) = (G.2.1 (F a 10))) ∨ (rOk (tM (G.2.1 (F a 35)) ((G.1 a 36).toInt)) ((G.1 a 36).toInt) ∧ ((G.1 a 6).toInt) = 0 ∧ (∀ i : Int, 0 ≤ i → i < 12 → aI (G.2.1 (F a 10)) (10 * i + 0) ≠ -1) ∧ r.toInt = -4 ∧ u.2.1 (F a 10) = (G.2.1 (F a 10))) ∨ (rOk (tM (G.2.1 (F a 35)) ((G.1 a 36).toInt)) ((G.1 a 36).toInt) ∧ ((G.1 a 6).toInt) = 0 ∧ ∃ (k : Int) (d g : Nat → Int32), ((0 ≤ k ∧ k ≤ 11) ∧ aI (G.2.1 (F a 10)) (10 * k + 0) = -1 ∧ ∀ i : Int, 0 ≤ i → i < k → aI (G.2.1 (F a 10)) (10 * i + 0) ≠ -1) ∧ DFo d (tM (G.2.1 (F a 35)) ((G.1 a 36).toInt)) ∧ CPd d (G.2.1 (F a 10)) g 0 (10 * k) 9 ∧ (((∃ s : Int, sbj (aI g (10 * k + 0)) s ∧ fzq g (mw (G.2.1 (F a 1)) 0) k s = 1) ∧ r.toInt = -5 ∧ ∀ z : Int, 0 ≤ z → aI (u.2.1 (F a 10)) z = if z = 10 * k then -1 else aI g z) ∨ ((∀ s : Int, sbj (aI g (10 * k + 0)) s → fzq g (mw (G.2.1 (F a 1)) 0) k s = 0) ∧ r.toInt = k ∧ u.2.1 (F a 10) = g)))) ∧ (RV (u.2.1 (F a 10)))) (fun u H => TW E K F u H)) 0 0 (xA E) := by
  refine x_enter (by decide) (Nat.le_of_ble_eq_true rfl) ?_
  intro p e s m args below meth c Q S hr hlk hnm hQ hP ls hl
  obtain ⟨hz, hK, hT⟩ := hP
  obtain ⟨hx, hb, -, -, -⟩ := id S
  obtain ⟨H, hT, hS, hgo⟩ : ∃ H : Heap, TW E K F G H ∧ va_S (xA E) s.heap H [] ∧ H = s.heap := ⟨_, hT, va_S.rf, rfl⟩
  rw [← hgo]
  have hl : lv_has ls 4 [(0, .ref a)] := hl
  obtain ⟨hk9999, hj9999⟩ := fkX11_40 hT ha
  obtain ⟨hk9999a, hj9999a⟩ := fkX11_10 hT ha
  obtain ⟨hk9999b, hj9999b⟩ := fkX11_22 hT ha
  obtain ⟨hk9999c, hj9999c⟩ := fkX11_35 hT ha
  obtain ⟨hk9999d, hj9999d⟩ := fkX11_25 hT ha
  obtain ⟨hk9999e, hj9999e⟩ := fkX11_26 hT ha
  obtain ⟨hk9999f, hj9999f⟩ := fkX11_27 hT ha
  obtain ⟨hk9999g, hj9999g⟩ := fkX11_28 hT ha
  obtain ⟨hk9999h, hj9999h⟩ := fkX11_29 hT ha
  obtain ⟨hk9999i, hj9999i⟩ := fkX11_30 hT ha
  obtain ⟨hk9999j, hj9999j⟩ := fkX11_1 hT ha
  refine lv_aload_n hx hb dX11_rule_0 rfl (lv_at hl 0 rfl) ?_
  refine lv_iconst (v := 0) hx hb dX11_rule_1 (by decide) ?_
  refine pX11_0 (v := 0) S hK hT hS ha kf_X11_134 dX11_rule_2 (fun H locs hT hS => ?_)
  obtain ⟨G2, hG2⟩ : ∃ GG : XG, GG = dput G a 0 0 := ⟨_, rfl⟩
  rw [← hG2] at hT
  refine lv_aload_n hx hb dX11_rule_5 rfl (lv_at hl 0 rfl) ?_
  refine x_cv0 (x_runV (b := a) (As := []) (rest := []) S (c_X11_nothing l E K F G2 a ha) mv_X11_nothing km_X11_231 rfl rfl ⟨Nat.le_of_ble_eq_true rfl, Nat.le_of_ble_eq_true rfl⟩ (rc_13 hK hT ha) hK (fun _ => XP.blind) (fun U hU hW => XP.at hK hz hS hT hU hW) rfl hl.1 (Nat.le_of_ble_eq_true rfl) dX11_rule_6 ⟨Nat.le_of_ble_eq_true rfl, Nat.le_of_ble_eq_true rfl⟩) hS ?_
  rintro G6 H locs ⟨hF6, t6⟩ hT hS
  have t6 : ((G6.1 a 20).toInt) = -2147483648 ∧ ((G6.1 a 21).toInt) = -2147483648 ∧ ((G6.1 a 23).toInt) = 0 := t6
  refine lv_aload_n hx hb dX11_rule_9 rfl (lv_at hl 0 rfl) ?_
  refine x_cl0 (x_runV (b := a) (As := []) (rest := []) S (c_X11_read l E K F G6 a ha (by rw [(show (G6.1 a 36).toInt = ((G.1 a 36).toInt) from (congrArg Int32.toInt ((hF6.1 _ _ (xnj (by decide) (xnj (by decide) (xnj (by decide) xn0)))).trans (ld_j hG2 (by decide)))).trans (rfl : Int32.toInt (G.1 a 36) = ((G.1 a 36).toInt)))] <;> exact (nt0)) (v_X11_rule_10_1 (F := F) G2 G a G6 hG2 hF6 hwo)) mv_X11_read km_X11_292 rfl rfl ⟨Nat.le_of_ble_eq_true rfl, Nat.le_of_ble_eq_true rfl⟩ (rc_13 hK hT ha) hK (fun _ => XP.blind) (fun U hU hW => XP.at hK hz hS hT hU hW) rfl hl.1 (Nat.le_of_ble_eq_true rfl) dX11_rule_10 ⟨Nat.le_of_ble_eq_true rfl, Nat.le_of_ble_eq_true rfl⟩) hS ?_
  rintro _ G10 H locs ⟨x10, rfl, b10, hF10, oq10, oq10a, oq10b⟩ hT hS
  have oq10 : (x10.toInt ≠ 0 ↔ rOk (tM (G.2.1 (F a 35)) ((G.1 a 36).toInt)) ((G.1 a 36).toInt)) := by simp only [(show G6.2.1 (F a 35) = G.2.1 (F a 35) from ((hF6.2.1 _ xn0).trans (ld_c hG2))), (show G6.1 a 36 = G.1 a 36 from ((hF6.1 _ _ (xnj (by decide) (xnj (by decide) (xnj (by decide) xn0)))).trans (ld_j hG2 (by decide))))] at oq10; exact oq10
  have oq10a : (¬ rOk (tM (G.2.1 (F a 35)) ((G.1 a 36).toInt)) ((G.1 a 36).toInt) → ((G10.1 a 38).toInt) = (rS9 (tM (G.2.1 (F a 35)) ((G.1 a 36).toInt))).2.2 ∧ 0 ≤ (rS9 (tM (G.2.1 (F a 35)) ((G.1 a 36).toInt))).2.2 ∧ (rS9 (tM (G.2.1 (F a 35)) ((G.1 a 36).toInt))).2.2 ≤ ((G.1 a 36).toInt)) := by simp only [(show G6.2.1 (F a 35) = G.2.1 (F a 35) from ((hF6.2.1 _ xn0).trans (ld_c hG2))), (show G6.1 a 36 = G.1 a 36 from ((hF6.1 _ _ (xnj (by decide) (xnj (by decide) (xnj (by decide) xn0)))).trans (ld_j hG2 (by decide))))] at oq10a; exact oq10a
  have oq10b : aI (G10.2.1 (F a 40)) 0 = (rS1 (tM (G.2.1 (F a 35)) ((G.1 a 36).toInt))).1 ∧ aI (G10.2.1 (F a 40)) 1 = (rS2 (tM (G.2.1 (F a 35)) ((G.1 a 36).toInt))).1 ∧ aI (G10.2.1 (F a 40)) 2 = (rS3 (tM (G.2.1 (F a 35)) ((G.1 a 36).toInt))).1 ∧ aI (G10.2.1 (F a 40)) 3 = (rS4 (tM (G.2.1 (F a 35)) ((G.1 a 36).toInt))).1 ∧ aI (G10.2.1 (F a 40)) 4 = (rS5 (tM (G.2.1 (F a 35)) ((G.1 a 36).toInt))).1 ∧ aI (G10.2.1 (F a 40)) 5 = (rS6 (tM (G.2.1 (F a 35)) ((G.1 a 36).toInt))).1 ∧ aI (G10.2.1 (F a 40)) 6 = (rS8 (tM (G.2.1 (F a 35)) ((G.1 a 36).toInt))).1 ∧ aI (G10.2.1 (F a 40)) 7 = (rS9 (tM (G.2.1 (F a 35)) ((G.1 a 36).toInt))).1 ∧ aI (G10.2.1 (F a 40)) 8 = (rS7 (tM (G.2.1 (F a 35)) ((G.1 a 36).toInt))).1 := by simp only [(show G6.2.1 (F a 35) = G.2.1 (F a 35) from ((hF6.2.1 _ xn0).trans (ld_c hG2))), (show G6.1 a 36 = G.1 a 36 from ((hF6.1 _ _ (xnj (by decide) (xnj (by decide) (xnj (by decide) xn0)))).trans (ld_j hG2 (by decide))))] at oq10b; exact oq10b
  have dfo10 : DFo (G10.2.1 (F a 40)) (tM (G.2.1 (F a 35)) ((G.1 a 36).toInt)) := oq10b
  refine lv_istore_n (lv' := [(1, .int x10), (0, .ref a)]) hx hb dX11_rule_13 rfl hl (by decide) rfl (fun ls hl => ?_)
  refine lv_aload_n hx hb dX11_rule_14 rfl (lv_at hl 1 rfl) ?_
  refine lv_iconst (v := 0) hx hb dX11_rule_15 (by decide) ?_
  refine pX11_36 (v := 0) S hK hT hS ha kf_X11_245 dX11_rule_16 (fun H locs hT hS => ?_)
  obtain ⟨G16, hG16⟩ : ∃ GG : XG, GG = dput G10 a 36 0 := ⟨_, rfl⟩
  rw [← hG16] at hT
  refine lv_iload_n hx hb dX11_rule_19 rfl (lv_at hl 0 rfl) ?_
  refine xi_zne (tgt := 32) hx hb (rfl : Int32.toInt x10 = x10.toInt) dX11_rule_20 (by decide) (fun c20 => ?_) (fun c20 => ?_)
  · refine lv_aload_n hx hb dX11_rule_32 rfl (lv_at hl 1 rfl) ?_
    refine gX11_6 S hK hT ha kf_X11_206 dX11_rule_33 (v := (G.1 a 6)) ((ld_j hG16 (by decide)).trans ((hF10.1 _ _ (xnj (by decide) (xnj (by decide) (xnj (by decide) xn0)))).trans ((hF6.1 _ _ (xnj (by decide) (xnj (by decide) (xnj (by decide) xn0)))).trans (ld_j hG2 (by decide))))) (fun hz33 => ?_)
    refine xi_zeq (tgt := 42) hx hb (rfl : Int32.toInt (G.1 a 6) = ((G.1 a 6).toInt)) dX11_rule_36 (by decide) (fun c36 => ?_) (fun c36 => ?_)
    · refine lv_aload_n hx hb dX11_rule_42 rfl (lv_at hl 1 rfl) ?_
      refine x_clp (x_runV (b := a) (As := []) (rest := []) S (c_X11_freeRule l E K F G16 H a ha) mv_X11_freeRule km_X11_296 rfl rfl ⟨Nat.le_of_ble_eq_true rfl, Nat.le_of_ble_eq_true rfl⟩ (rc_13 hK hT ha) hK (fun _ => XPh.blind) (fun U hU hW => XPh.at hK hz hS hT hU hW) rfl hl.1 (Nat.le_of_ble_eq_true rfl) dX11_rule_43 ⟨Nat.le_of_ble_eq_true rfl, Nat.le_of_ble_eq_true rfl⟩) hS ?_
      rintro _ _ locs ⟨x43, rfl, t43, oq43⟩ hS
      have t43 : 0 ≤ x43.toInt ∧ x43.toInt ≤ 12 := t43
      have oq43 : (x43.toInt = 12 ∨ aI (G.2.1 (F a 10)) (10 * x43.toInt + 0) = -1) ∧ ∀ i : Int, 0 ≤ i → i < x43.toInt → aI (G.2.1 (F a 10)) (10 * i + 0) ≠ -1 := by simp only [(show G16.2.1 (F a 10) = G.2.1 (F a 10) from ((ld_c hG16).trans ((hF10.2.1 _ (xn1 (xne_k hk9999a hk9999 (by decide)) xn0)).trans ((hF6.2.1 _ xn0).trans (ld_c hG2)))))] at oq43; exact oq43
      refine lv_istore_n (lv' := [(2, .int x43), (1, .int x10), (0, .ref a)]) hx hb dX11_rule_46 rfl hl (by decide) rfl (fun ls hl => ?_)
      refine lv_iload_n hx hb dX11_rule_47 rfl (lv_at hl 0 rfl) ?_
      refine lv_bipush (v := 12) hx hb dX11_rule_48 (by decide) ?_
      refine xi_cne (tgt := 56) hx hb (rfl : Int32.toInt x43 = x43.toInt) ((by decide) : Int32.toInt 12 = (12 : Int)) dX11_rule_50 (by decide) (fun c50 => ?_) (fun c50 => ?_)
      · refine lv_iconst (v := 0) hx hb dX11_rule_56 (by decide) ?_
        refine lv_istore_n (lv' := [(3, .int 0), (2, .int x43), (1, .int x10), (0, .ref a)]) hx hb dX11_rule_57 rfl hl (by decide) rfl (fun ls hl => ?_)
        have L58 : ∀ (N58 : Nat) (l3_58 : Int32) (G_58 : XG) (H : Heap) (locs : List Loc) (ls : Array Slot), XFr [] [F a 10] [] G16 G_58 → CPd (G10.2.1 (F a 40)) (G.2.1 (F a 10)) (G_58.2.1 (F a 10)) 0 (10 * x43.toInt) (l3_58.toInt) → 0 ≤ l3_58.toInt ∧ l3_58.toInt ≤ 9 → (0 : Int) ≤ l3_58.toInt → 2147483648 - l3_58.toInt < ((N58 : Nat) : Int) → TW E K F G_58 H → va_S (xA E) s.heap H locs → lv_has ls 4 [(0, .ref a), (2, .int x43), (3, .int l3_58)] → W p l e rm_X11_rule s m args below meth c H locs 0 0 Q (F0 m 58 ls []) := by
          intro N58
          induction N58 with
          | zero =>
            intro l3_58 G_58 H locs ls hF_58 cp I58_0 I58_1 hm58
            exact absurd hm58 (z_X11_rule_2 l3_58.toInt I58_0)
          | succ N58 ih58 =>
            intro l3_58 G_58 H locs ls hF_58 cp I58_0 I58_1 hm58 hT hS hl
            refine lv_iload_n hx hb dX11_rule_58 rfl (lv_at hl 2 rfl) ?_
            refine lv_bipush (v := 9) hx hb dX11_rule_59 (by decide) ?_
            refine xi_cge (tgt := 87) hx hb (rfl : Int32.toInt l3_58 = l3_58.toInt) ((by decide) : Int32.toInt 9 = (9 : Int)) dX11_rule_61 (by decide) (fun c61 => ?_) (fun c61 => ?_)
            · have cp87 : CPd (G10.2.1 (F a 40)) (G.2.1 (F a 10)) (G_58.2.1 (F a 10)) 0 (10 * x43.toInt) 9 := (v_X11_rule_87_2 (F := F) G10 a G G_58 x43 l3_58 cp I58_0 c61)
              have kd87 : (0 ≤ (aI (G_58.2.1 (F a 10)) (10 * x43.toInt + 0)) ∧ (aI (G_58.2.1 (F a 10)) (10 * x43.toInt + 0)) ≤ 5) := (v_X11_rule_87_3 (F := F) G10 a G x43 G_58 dfo10 oq43 cp87 t43 c50)
              have sf87 : (((aI (G_58.2.1 (F a 10)) (10 * x43.toInt + 0)) = 2 ∨ (aI (G_58.2.1 (F a 10)) (10 * x43.toInt + 0)) = 4 ∨ (aI (G_58.2.1 (F a 10)) (10 * x43.toInt + 0)) = 5) ∧ (sF (aI (G_58.2.1 (F a 10)) (10 * x43.toInt + 0))) = 0 ∧ (sL (aI (G_58.2.1 (F a 10)) (10 * x43.toInt + 0))) = 29) ∨ (¬ ((aI (G_58.2.1 (F a 10)) (10 * x43.toInt + 0)) = 2 ∨ (aI (G_58.2.1 (F a 10)) (10 * x43.toInt + 0)) = 4 ∨ (aI (G_58.2.1 (F a 10)) (10 * x43.toInt + 0)) = 5) ∧ (sF (aI (G_58.2.1 (F a 10)) (10 * x43.toInt + 0))) = -99 ∧ (sL (aI (G_58.2.1 (F a 10)) (10 * x43.toInt + 0))) = 99) := sFL _
              refine lv_aload_n hx hb dX11_rule_87 rfl (lv_at hl 0 rfl) ?_
              refine lv_iload_n hx hb dX11_rule_88 rfl (lv_at hl 1 rfl) ?_
              refine x_clp (x_runV (b := a) (As := [.int x43]) (rest := []) S (c_X11_firstSubject l E K F G_58 H a x43 ha (z_X11_rule_3 x43.toInt t43 c50)) mv_X11_firstSubject km_X11_179 rfl rfl ⟨Nat.le_of_ble_eq_true rfl, Nat.le_of_ble_eq_true rfl⟩ (rc_13 hK hT ha) hK (fun _ => XPh.blind) (fun U hU hW => XPh.at hK hz hS hT hU hW) rfl hl.1 (Nat.le_of_ble_eq_true rfl) dX11_rule_89 ⟨Nat.le_of_ble_eq_true rfl, Nat.le_of_ble_eq_true rfl⟩) hS ?_
              rintro _ _ locs ⟨x89, rfl, t89⟩ hS
              have t89 : x89.toInt = (sF (aI (G_58.2.1 (F a 10)) (10 * x43.toInt + 0))) := t89
              refine lv_istore_n (lv' := [(3, .int x89), (0, .ref a), (2, .int x43)]) hx hb dX11_rule_92 rfl hl (by decide) rfl (fun ls hl => ?_)
              have L93 : ∀ (N93 : Nat) (l3_93 : Int32) (H : Heap) (locs : List Loc) (ls : Array Slot), (∀ s : Int, sF (aI (G_58.2.1 (F a 10)) (10 * x43.toInt + 0)) ≤ s → s < l3_93.toInt → fzq (G_58.2.1 (F a 10)) (mw (G.2.1 (F a 1)) 0) (x43.toInt) s = 0) → (sF (aI (G_58.2.1 (F a 10)) (10 * x43.toInt + 0))) ≤ l3_93.toInt ∧ l3_93.toInt ≤ (sL (aI (G_58.2.1 (F a 10)) (10 * x43.toInt + 0))) + 1 → 2147483648 - l3_93.toInt < ((N93 : Nat) : Int) → TW E K F G_58 H → va_S (xA E) s.heap H locs → lv_has ls 4 [(0, .ref a), (2, .int x43), (3, .int l3_93)] → W p l e rm_X11_rule s m args below meth c H locs 0 0 Q (F0 m 93 ls []) := by
                intro N93
                induction N93 with
                | zero =>
                  intro l3_93 H locs ls pz I93_0 hm93
                  exact absurd hm93 (z_X11_rule_4 l3_93.toInt (xr l3_93))
                | succ N93 ih93 =>
                  intro l3_93 H locs ls pz I93_0 hm93 hT hS hl
                  refine lv_iload_n hx hb dX11_rule_93 rfl (lv_at hl 2 rfl) ?_
                  refine lv_aload_n hx hb dX11_rule_94 rfl (lv_at hl 0 rfl) ?_
                  refine lv_iload_n hx hb dX11_rule_95 rfl (lv_at hl 1 rfl) ?_
                  refine x_clp (x_runV (b := a) (As := [.int x43]) (rest := [.int l3_93]) S (c_X11_lastSubject l E K F G_58 H a x43 ha (z_X11_rule_3 x43.toInt t43 c50)) mv_X11_lastSubject km_X11_183 rfl rfl ⟨Nat.le_of_ble_eq_true rfl, Nat.le_of_ble_eq_true rfl⟩ (rc_13 hK hT ha) hK (fun _ => XPh.blind) (fun U hU hW => XPh.at hK hz hS hT hU hW) rfl hl.1 (Nat.le_of_ble_eq_true rfl) dX11_rule_96 ⟨Nat.le_of_ble_eq_true rfl, Nat.le_of_ble_eq_true rfl⟩) hS ?_
                  rintro _ _ locs ⟨x96, rfl, t96⟩ hS
                  have t96 : x96.toInt = (sL (aI (G_58.2.1 (F a 10)) (10 * x43.toInt + 0))) := t96
                  refine xi_cgt (tgt := 141) hx hb (rfl : Int32.toInt l3_93 = l3_93.toInt) (t96 : Int32.toInt x96 = (sL (aI (G_58.2.1 (F a 10)) (10 * x43.toInt + 0)))) dX11_rule_99 (by decide) (fun c99 => ?_) (fun c99 => ?_)
                  · refine lv_iload_n hx hb dX11_rule_141 rfl (lv_at hl 1 rfl) ?_
                    exact x_ri hx hb hr hlk hQ (Nat.le_of_ble_eq_true rfl) (Nat.le_of_ble_eq_true rfl) hS dX11_rule_142 G_58 ⟨_, rfl, (XFr.call (by rw [hG16]; exact XFr.dput (XFr.call (XFr.call (by rw [hG2]; exact XFr.dput XFr.rf (List.mem_of_getElem? (i := 0) rfl)) hF6 (xm1 1 rfl (xm1 2 rfl (xm1 3 rfl xm0))) xm0 xm0) hF10 (xm1 5 rfl (xm1 6 rfl (xm1 7 rfl xm0))) (xm1 0 rfl xm0) xm0) (List.mem_of_getElem? (i := 4) rfl)) hF_58 xm0 (xm1 1 rfl xm0) xm0), (by rw [(show (G_58.1 a 23).toInt = ((G6.1 a 23).toInt) from (congrArg Int32.toInt ((hF_58.1 _ _ xn0).trans ((ld_j hG16 (by decide)).trans (hF10.1 _ _ (xnj (by decide) (xnj (by decide) (xnj (by decide) xn0))))))).trans (rfl : Int32.toInt (G6.1 a 23) = ((G6.1 a 23).toInt)))] <;> exact (z_X11_rule_6 ((G6.1 a 20).toInt) ((G6.1 a 21).toInt) ((G6.1 a 23).toInt) t6)), (v_X11_rule_142_4 G_58 a ((hF_58.1 _ _ xn0).trans (ld_at hG16))), (v_X11_rule_142_5 (F := F) G a x10 G10 x43 G_58 l3_93 oq10 oq10a dfo10 oq43 cp87 pz nt0 c20 c36 t43 c50 kd87 sf87 I93_0 c99), (v_X11_rule_142_6 (F := F) G a G10 G_58 x43 hR dfo10 cp87 t43 c50)⟩ hT
                  · refine lv_aload_n hx hb dX11_rule_102 rfl (lv_at hl 0 rfl) ?_
                    refine lv_iload_n hx hb dX11_rule_103 rfl (lv_at hl 1 rfl) ?_
                    refine lv_iload_n hx hb dX11_rule_104 rfl (lv_at hl 2 rfl) ?_
                    refine lv_aload_n hx hb dX11_rule_105 rfl (lv_at hl 0 rfl) ?_
                    refine gX11_1 S hK hT ha kf_X11_9 dX11_rule_106 (fun _ _ => ?_)
                    refine lv_iconst (v := 0) hx hb dX11_rule_109 (by decide) ?_
                    refine x_clp (x_runV (b := a) (As := [.int x43, .int l3_93, .ref (F a 1), .int 0]) (rest := []) S (c_X11_fails l E K F G_58 H a x43 l3_93 (F a 1) 0 ha (XO.a hk9999j (by decide)) (z_X11_rule_3 x43.toInt t43 c50) (z_X11_rule_8 (aI (G_58.2.1 (F a 10)) (10 * x43.toInt + 0)) kd87) (z_X11_rule_9 l3_93.toInt (sF (aI (G_58.2.1 (F a 10)) (10 * x43.toInt + 0))) (sL (aI (G_58.2.1 (F a 10)) (10 * x43.toInt + 0))) I93_0 c99) (v_X11_rule_110_7 (F := F) G a G10 G_58 x43 hR dfo10 cp87 t43 c50) (v_X11_rule_110_8 (F := F) a G G_58 hM ((hF_58.2.1 _ (xn1 (xne_k hk9999j hk9999a (by decide)) xn0)).trans ((ld_c hG16).trans ((hF10.2.1 _ (xn1 (xne_k hk9999j hk9999 (by decide)) xn0)).trans ((hF6.2.1 _ xn0).trans (ld_c hG2))))))) mv_X11_fails km_X11_221 rfl rfl ⟨Nat.le_of_ble_eq_true rfl, Nat.le_of_ble_eq_true rfl⟩ (rc_13 hK hT ha) hK (fun _ => XPh.blind) (fun U hU hW => XPh.at hK hz hS hT hU hW) rfl hl.1 (Nat.le_of_ble_eq_true rfl) dX11_rule_110 ⟨Nat.le_of_ble_eq_true rfl, Nat.le_of_ble_eq_true rfl⟩) hS ?_
                    rintro _ _ locs ⟨x110, rfl, b110, t110⟩ hS
                    have t110 : x110.toInt = (flq (mw (G.2.1 (F a 1)) 0) (aI (G_58.2.1 (F a 10)) (10 * x43.toInt + 0)) (aI (G_58.2.1 (F a 10)) (10 * x43.toInt + 1)) (aI (G_58.2.1 (F a 10)) (10 * x43.toInt + 2)) (aI (G_58.2.1 (F a 10)) (10 * x43.toInt + 4)) (aI (G_58.2.1 (F a 10)) (10 * x43.toInt + 5)) (l3_93.toInt) (stt (mw (G.2.1 (F a 1)) 0) (aI (G_58.2.1 (F a 10)) (10 * x43.toInt + 0)) (aI (G_58.2.1 (F a 10)) (10 * x43.toInt + 1)) (aI (G_58.2.1 (F a 10)) (10 * x43.toInt + 2)) (aI (G_58.2.1 (F a 10)) (10 * x43.toInt + 3)) (l3_93.toInt))) := by rw [(show G_58.2.1 (F a 1) = G.2.1 (F a 1) from ((hF_58.2.1 _ (xn1 (xne_k hk9999j hk9999a (by decide)) xn0)).trans ((ld_c hG16).trans ((hF10.2.1 _ (xn1 (xne_k hk9999j hk9999 (by decide)) xn0)).trans ((hF6.2.1 _ xn0).trans (ld_c hG2))))))] at t110; exact t110
                    refine xi_zeq (tgt := 135) hx hb (rfl : Int32.toInt x110 = x110.toInt) dX11_rule_113 (by decide) (fun c113 => ?_) (fun c113 => ?_)
                    · refine xi_iinc (n := 1) (lv' := fun z9 => [(3, .int z9), (0, .ref a), (2, .int x43)]) (k := 2) hx hb (rfl : Int32.toInt l3_93 = l3_93.toInt) (by decide) dX11_rule_135 hl rfl (by decide) (fun _ => rfl) (fun x135 ls t135 hl => ?_)
                      have e135 : x135.toInt = (l3_93.toInt + 1) := (z_X11_rule_10 l3_93.toInt x135.toInt (aI (G_58.2.1 (F a 10)) (10 * x43.toInt + 0)) (sF (aI (G_58.2.1 (F a 10)) (10 * x43.toInt + 0))) (sL (aI (G_58.2.1 (F a 10)) (10 * x43.toInt + 0))) sf87 c99 t135 (xr l3_93))
                      have hl : lv_has ls 4 [(3, .int x135), (0, .ref a), (2, .int x43)] := hl
                      refine lv_goto (tgt := 93) hx hb dX11_rule_138 (by decide) ?_
                      exact ih93 x135 _ _ _ (by rw [(e135 : Int32.toInt x135 = (l3_93.toInt + 1))] <;> exact (v_X11_rule_138_9 (F := F) G_58 a x43 l3_93 G x110 pz t110 c113)) (by rw [(e135 : Int32.toInt x135 = (l3_93.toInt + 1))] <;> exact (z_X11_rule_11 l3_93.toInt (sF (aI (G_58.2.1 (F a 10)) (10 * x43.toInt + 0))) (sL (aI (G_58.2.1 (F a 10)) (10 * x43.toInt + 0))) I93_0 c99)) (by rw [(e135 : Int32.toInt x135 = (l3_93.toInt + 1))] <;> exact (z_X11_rule_12 l3_93.toInt N93 hm93)) hT hS (lv_sub hl [1, 2, 0] rfl)
                    · refine lv_aload_n hx hb dX11_rule_116 rfl (lv_at hl 0 rfl) ?_
                      refine lv_iload_n hx hb dX11_rule_117 rfl (lv_at hl 1 rfl) ?_
                      refine lv_iload_n hx hb dX11_rule_118 rfl (lv_at hl 2 rfl) ?_
                      refine x_cv0 (x_runV (b := a) (As := [.int x43, .int l3_93]) (rest := []) S (c_X11_failed l E K F G_58 a x43 l3_93 ha (z_X11_rule_3 x43.toInt t43 c50) (z_X11_rule_14 l3_93.toInt (aI (G_58.2.1 (F a 10)) (10 * x43.toInt + 0)) (sF (aI (G_58.2.1 (F a 10)) (10 * x43.toInt + 0))) (sL (aI (G_58.2.1 (F a 10)) (10 * x43.toInt + 0))) sf87 I93_0 c99)) mv_X11_failed km_X11_299 rfl rfl ⟨Nat.le_of_ble_eq_true rfl, Nat.le_of_ble_eq_true rfl⟩ (rc_13 hK hT ha) hK (fun _ => XP.blind) (fun U hU hW => XP.at hK hz hS hT hU hW) rfl hl.1 (Nat.le_of_ble_eq_true rfl) dX11_rule_119 ⟨Nat.le_of_ble_eq_true rfl, Nat.le_of_ble_eq_true rfl⟩) hS ?_
                      rintro G119 H locs ⟨hF119, t119⟩ hT hS
                      have t119 : ((G119.1 a 20).toInt) = x43.toInt ∧ ((G119.1 a 21).toInt) = l3_93.toInt ∧ 0 ≤ ((G119.1 a 23).toInt) ∧ ((G119.1 a 23).toInt) ≤ 24 := t119
                      refine lv_aload_n hx hb dX11_rule_122 rfl (lv_at hl 0 rfl) ?_
                      refine gX11_10 S hK hT ha kf_X11_33 dX11_rule_123 (fun _ _ => ?_)
                      refine lv_bipush (v := 10) hx hb dX11_rule_126 (by decide) ?_
                      refine lv_iload_n hx hb dX11_rule_128 rfl (lv_at hl 1 rfl) ?_
                      refine xi_imul hx hb ((by decide) : Int32.toInt 10 = (10 : Int)) (rfl : Int32.toInt x43 = x43.toInt) dX11_rule_129 (fun x129 t129 => ?_)
                      have e129 : x129.toInt = ((10 : Int) * x43.toInt) := (z_X11_rule_15 x129.toInt x43.toInt t43 t129)
                      refine lv_iconst (v := (-1)) hx hb dX11_rule_130 (by decide) ?_
                      refine as_0 (x := (-1)) S hK hT hS hk9999a ar_37 aw_37 (by decide) (by rw [(e129 : Int32.toInt x129 = ((10 : Int) * x43.toInt))]; exact (z_X11_rule_16 x43.toInt t43 c50)) dX11_rule_131 (fun H locs hT hS => ?_)
                      obtain ⟨G131, hG131⟩ : ∃ GG : XG, GG = cput G119 (F a 10) x129.toNatClampNeg (-1) := ⟨_, rfl⟩
                      rw [← hG131] at hT
                      refine lv_bipush (v := (-5)) hx hb dX11_rule_132 (by decide) ?_
                      exact x_ri hx hb hr hlk hQ (Nat.le_of_ble_eq_true rfl) (Nat.le_of_ble_eq_true rfl) hS dX11_rule_134 G131 ⟨_, rfl, (by rw [hG131]; exact XFr.cput (XFr.call (XFr.call (by rw [hG16]; exact XFr.dput (XFr.call (XFr.call (by rw [hG2]; exact XFr.dput XFr.rf (List.mem_of_getElem? (i := 0) rfl)) hF6 (xm1 1 rfl (xm1 2 rfl (xm1 3 rfl xm0))) xm0 xm0) hF10 (xm1 5 rfl (xm1 6 rfl (xm1 7 rfl xm0))) (xm1 0 rfl xm0) xm0) (List.mem_of_getElem? (i := 4) rfl)) hF_58 xm0 (xm1 1 rfl xm0) xm0) hF119 (xm1 1 rfl (xm1 2 rfl (xm1 3 rfl xm0))) (xm1 2 rfl xm0) xm0) (List.mem_of_getElem? (i := 1) rfl)), (by rw [(show (G131.1 a 23).toInt = ((G119.1 a 23).toInt) from (congrArg Int32.toInt (lc_d hG131)).trans (rfl : Int32.toInt (G119.1 a 23) = ((G119.1 a 23).toInt)))] <;> exact (z_X11_rule_17 l3_93.toInt x43.toInt ((G119.1 a 20).toInt) ((G119.1 a 21).toInt) ((G119.1 a 23).toInt) t119)), (v_X11_rule_134_10 G131 a ((lc_d hG131).trans ((hF119.1 _ _ (xnj (by decide) (xnj (by decide) (xnj (by decide) xn0)))).trans ((hF_58.1 _ _ xn0).trans (ld_at hG16))))), (by rw [((by decide) : Int32.toInt (-5) = (-5 : Int))] <;> exact (v_X11_rule_134_11 (F := F) G131 G119 a x129 G x10 G10 x43 G_58 l3_93 x110 hG131 oq10 oq10a dfo10 oq43 cp87 e129 nt0 c20 c36 t43 c50 kd87 sf87 I93_0 c99 t110 c113 (hF119.2.1 _ (xn1 (xne_k hk9999a hk9999b (by decide)) xn0)))), (v_X11_rule_134_12 (F := F) G131 G119 a x129 G G10 G_58 x43 hG131 hR dfo10 cp87 e129 t43 c50 (hF119.2.1 _ (xn1 (xne_k hk9999a hk9999b (by decide)) xn0)))⟩ hT
              exact L93 4294967297 x89 _ _ _ (by rw [(t89 : Int32.toInt x89 = (sF (aI (G_58.2.1 (F a 10)) (10 * x43.toInt + 0))))] <;> exact (v_X11_rule_92_13 (F := F) G_58 a x43 G)) (by rw [(t89 : Int32.toInt x89 = (sF (aI (G_58.2.1 (F a 10)) (10 * x43.toInt + 0))))] <;> exact (z_X11_rule_18 (aI (G_58.2.1 (F a 10)) (10 * x43.toInt + 0)) (sF (aI (G_58.2.1 (F a 10)) (10 * x43.toInt + 0))) (sL (aI (G_58.2.1 (F a 10)) (10 * x43.toInt + 0))) sf87)) (by rw [(t89 : Int32.toInt x89 = (sF (aI (G_58.2.1 (F a 10)) (10 * x43.toInt + 0))))] <;> exact (z_X11_rule_19 (aI (G_58.2.1 (F a 10)) (10 * x43.toInt + 0)) (sF (aI (G_58.2.1 (F a 10)) (10 * x43.toInt + 0))) (sL (aI (G_58.2.1 (F a 10)) (10 * x43.toInt + 0))) sf87)) hT hS (lv_sub hl [1, 2, 0] rfl)
            · refine lv_aload_n hx hb dX11_rule_64 rfl (lv_at hl 0 rfl) ?_
              refine gX11_10 S hK hT ha kf_X11_33 dX11_rule_65 (fun _ _ => ?_)
              refine lv_bipush (v := 10) hx hb dX11_rule_68 (by decide) ?_
              refine lv_iload_n hx hb dX11_rule_70 rfl (lv_at hl 1 rfl) ?_
              refine xi_imul hx hb ((by decide) : Int32.toInt 10 = (10 : Int)) (rfl : Int32.toInt x43 = x43.toInt) dX11_rule_71 (fun x71 t71 => ?_)
              have e71 : x71.toInt = ((10 : Int) * x43.toInt) := (z_X11_rule_20 x43.toInt x71.toInt t43 t71)
              refine lv_iload_n hx hb dX11_rule_72 rfl (lv_at hl 2 rfl) ?_
              refine xi_iadd hx hb (e71 : Int32.toInt x71 = ((10 : Int) * x43.toInt)) (rfl : Int32.toInt l3_58 = l3_58.toInt) dX11_rule_73 (fun x73 t73 => ?_)
              have e73 : x73.toInt = (((10 : Int) * x43.toInt) + l3_58.toInt) := (z_X11_rule_21 l3_58.toInt x43.toInt x73.toInt t43 I58_0 t73)
              refine lv_aload_n hx hb dX11_rule_74 rfl (lv_at hl 0 rfl) ?_
              refine gX11_40 S hK hT ha kf_X11_106 dX11_rule_75 (fun _ _ => ?_)
              refine lv_iload_n hx hb dX11_rule_78 rfl (lv_at hl 2 rfl) ?_
              refine al_0 S hK hT hk9999 ar_52 (by decide) (z_X11_rule_22 l3_58.toInt I58_0) dX11_rule_79 (fun x79 hv79 o79 => ?_)
              have hv79 : x79.toInt = (aI (G10.2.1 (F a 40)) (l3_58.toInt)) := hv79.trans (by rw [(rfl : Int32.toInt l3_58 = l3_58.toInt), (((hF_58.2.1 _ (xn1 (xne_k hk9999 hk9999a (by decide)) xn0)).trans (ld_c hG16)) : G_58.2.1 (F a 40) = G10.2.1 (F a 40))])
              refine as_0 (x := x79) S hK hT hS hk9999a ar_37 aw_37 (by decide) (by rw [(e73 : Int32.toInt x73 = (((10 : Int) * x43.toInt) + l3_58.toInt))]; exact (z_X11_rule_23 l3_58.toInt x43.toInt t43 c50 I58_0)) dX11_rule_80 (fun H locs hT hS => ?_)
              obtain ⟨G80, hG80⟩ : ∃ GG : XG, GG = cput G_58 (F a 10) x73.toNatClampNeg x79 := ⟨_, rfl⟩
              rw [← hG80] at hT
              refine xi_iinc (n := 1) (lv' := fun z9 => [(3, .int z9), (0, .ref a), (2, .int x43)]) (k := 2) hx hb (rfl : Int32.toInt l3_58 = l3_58.toInt) (by decide) dX11_rule_81 hl rfl (by decide) (fun _ => rfl) (fun x81 ls t81 hl => ?_)
              have e81 : x81.toInt = (l3_58.toInt + 1) := (z_X11_rule_24 l3_58.toInt x81.toInt I58_0 t81)
              have hl : lv_has ls 4 [(3, .int x81), (0, .ref a), (2, .int x43)] := hl
              refine lv_goto (tgt := 58) hx hb dX11_rule_84 (by decide) ?_
              exact ih58 x81 G80 _ _ _ (by rw [hG80]; exact XFr.cput (XFr.call XFr.rf hF_58 xm0 (xm1 0 rfl xm0) xm0) (List.mem_of_getElem? (i := 0) rfl)) (by rw [(e81 : Int32.toInt x81 = (l3_58.toInt + 1))] <;> exact (v_X11_rule_84_14 (F := F) G80 G_58 a x73 x79 G10 G x43 l3_58 hG80 cp e73 hv79 t43 c50 I58_0 c61)) (by rw [(e81 : Int32.toInt x81 = (l3_58.toInt + 1))] <;> exact (z_X11_rule_25 l3_58.toInt I58_0 c61)) (by rw [(e81 : Int32.toInt x81 = (l3_58.toInt + 1))] <;> exact (z_X11_rule_26 l3_58.toInt I58_0)) (by rw [(e81 : Int32.toInt x81 = (l3_58.toInt + 1))] <;> exact (z_X11_rule_12 l3_58.toInt N58 hm58)) hT hS (lv_sub hl [1, 2, 0] rfl)
        exact L58 4294967297 0 G16 _ _ _ XFr.rf (by rw [(show G16.2.1 (F a 10) = G.2.1 (F a 10) from ((ld_c hG16).trans ((hF10.2.1 _ (xn1 (xne_k hk9999a hk9999 (by decide)) xn0)).trans ((hF6.2.1 _ xn0).trans (ld_c hG2)))))] <;> exact (v_X11_rule_57_15 (F := F) x43 G10 a G)) (by decide) (by decide) (by decide) hT hS (lv_sub hl [3, 1, 0] rfl)
      · refine lv_bipush (v := (-4)) hx hb dX11_rule_53 (by decide) ?_
        exact x_ri hx hb hr hlk hQ (Nat.le_of_ble_eq_true rfl) (Nat.le_of_ble_eq_true rfl) hS dX11_rule_55 G16 ⟨_, rfl, (by rw [hG16]; exact XFr.dput (XFr.call (XFr.call (by rw [hG2]; exact XFr.dput XFr.rf (List.mem_of_getElem? (i := 0) rfl)) hF6 (xm1 1 rfl (xm1 2 rfl (xm1 3 rfl xm0))) xm0 xm0) hF10 (xm1 5 rfl (xm1 6 rfl (xm1 7 rfl xm0))) (xm1 0 rfl xm0) xm0) (List.mem_of_getElem? (i := 4) rfl)), (by rw [(show (G16.1 a 23).toInt = ((G6.1 a 23).toInt) from (congrArg Int32.toInt ((ld_j hG16 (by decide)).trans (hF10.1 _ _ (xnj (by decide) (xnj (by decide) (xnj (by decide) xn0)))))).trans (rfl : Int32.toInt (G6.1 a 23) = ((G6.1 a 23).toInt)))] <;> exact (z_X11_rule_6 ((G6.1 a 20).toInt) ((G6.1 a 21).toInt) ((G6.1 a 23).toInt) t6)), (v_X11_rule_55_16 G16 a (ld_at hG16)), (by rw [((by decide) : Int32.toInt (-4) = (-4 : Int))] <;> exact (v_X11_rule_55_17 (F := F) G a x10 G10 x43 G16 oq10 oq10a oq43 nt0 c20 c36 t43 c50 ((ld_c hG16).trans ((hF10.2.1 _ (xn1 (xne_k hk9999a hk9999 (by decide)) xn0)).trans ((hF6.2.1 _ xn0).trans (ld_c hG2)))))), (v_X11_rule_55_18 (F := F) G a G16 hR ((ld_c hG16).trans ((hF10.2.1 _ (xn1 (xne_k hk9999a hk9999 (by decide)) xn0)).trans ((hF6.2.1 _ xn0).trans (ld_c hG2)))))⟩ hT
    · refine lv_bipush (v := (-3)) hx hb dX11_rule_39 (by decide) ?_
      exact x_ri hx hb hr hlk hQ (Nat.le_of_ble_eq_true rfl) (Nat.le_of_ble_eq_true rfl) hS dX11_rule_41 G16 ⟨_, rfl, (by rw [hG16]; exact XFr.dput (XFr.call (XFr.call (by rw [hG2]; exact XFr.dput XFr.rf (List.mem_of_getElem? (i := 0) rfl)) hF6 (xm1 1 rfl (xm1 2 rfl (xm1 3 rfl xm0))) xm0 xm0) hF10 (xm1 5 rfl (xm1 6 rfl (xm1 7 rfl xm0))) (xm1 0 rfl xm0) xm0) (List.mem_of_getElem? (i := 4) rfl)), (by rw [(show (G16.1 a 23).toInt = ((G6.1 a 23).toInt) from (congrArg Int32.toInt ((ld_j hG16 (by decide)).trans (hF10.1 _ _ (xnj (by decide) (xnj (by decide) (xnj (by decide) xn0)))))).trans (rfl : Int32.toInt (G6.1 a 23) = ((G6.1 a 23).toInt)))] <;> exact (z_X11_rule_6 ((G6.1 a 20).toInt) ((G6.1 a 21).toInt) ((G6.1 a 23).toInt) t6)), (v_X11_rule_41_19 G16 a (ld_at hG16)), (by rw [((by decide) : Int32.toInt (-3) = (-3 : Int))] <;> exact (v_X11_rule_41_20 (F := F) G a x10 G10 G16 oq10 oq10a nt0 c20 c36 ((ld_c hG16).trans ((hF10.2.1 _ (xn1 (xne_k hk9999a hk9999 (by decide)) xn0)).trans ((hF6.2.1 _ xn0).trans (ld_c hG2)))))), (v_X11_rule_41_21 (F := F) G a G16 hR ((ld_c hG16).trans ((hF10.2.1 _ (xn1 (xne_k hk9999a hk9999 (by decide)) xn0)).trans ((hF6.2.1 _ xn0).trans (ld_c hG2)))))⟩ hT
  · have pb23 : 0 ≤ ((G10.1 a 38).toInt) ∧ ((G10.1 a 38).toInt) ≤ 80 := (v_X11_rule_23_22 (F := F) x10 G a G10 oq10 oq10a nt0 c20)
    refine lv_sipush (v := (-1000)) hx hb dX11_rule_23 (by decide) ?_
    refine lv_aload_n hx hb dX11_rule_26 rfl (lv_at hl 1 rfl) ?_
    refine gX11_38 S hK hT ha kf_X11_265 dX11_rule_27 (v := (G10.1 a 38)) (ld_j hG16 (by decide)) (?_)
    refine xi_isub hx hb ((by decide) : Int32.toInt (-1000) = (-1000 : Int)) (rfl : Int32.toInt (G10.1 a 38) = ((G10.1 a 38).toInt)) dX11_rule_30 (fun x30 t30 => ?_)
    have e30 : x30.toInt = ((-1000 : Int) - ((G10.1 a 38).toInt)) := (z_X11_rule_30 x30.toInt ((G10.1 a 38).toInt) pb23 t30)
    exact x_ri hx hb hr hlk hQ (Nat.le_of_ble_eq_true rfl) (Nat.le_of_ble_eq_true rfl) hS dX11_rule_31 G16 ⟨_, rfl, (by rw [hG16]; exact XFr.dput (XFr.call (XFr.call (by rw [hG2]; exact XFr.dput XFr.rf (List.mem_of_getElem? (i := 0) rfl)) hF6 (xm1 1 rfl (xm1 2 rfl (xm1 3 rfl xm0))) xm0 xm0) hF10 (xm1 5 rfl (xm1 6 rfl (xm1 7 rfl xm0))) (xm1 0 rfl xm0) xm0) (List.mem_of_getElem? (i := 4) rfl)), (by rw [(show (G16.1 a 23).toInt = ((G6.1 a 23).toInt) from (congrArg Int32.toInt ((ld_j hG16 (by decide)).trans (hF10.1 _ _ (xnj (by decide) (xnj (by decide) (xnj (by decide) xn0)))))).trans (rfl : Int32.toInt (G6.1 a 23) = ((G6.1 a 23).toInt)))] <;> exact (z_X11_rule_6 ((G6.1 a 20).toInt) ((G6.1 a 21).toInt) ((G6.1 a 23).toInt) t6)), (v_X11_rule_31_23 G16 a (ld_at hG16)), (by rw [(e30 : Int32.toInt x30 = ((-1000 : Int) - ((G10.1 a 38).toInt)))] <;> exact (v_X11_rule_31_24 (F := F) G a x10 G10 G16 oq10 oq10a nt0 c20 ((ld_c hG16).trans ((hF10.2.1 _ (xn1 (xne_k hk9999a hk9999 (by decide)) xn0)).trans ((hF6.2.1 _ xn0).trans (ld_c hG2)))))), (v_X11_rule_31_25 (F := F) G a G16 hR ((ld_c hG16).trans ((hF10.2.1 _ (xn1 (xne_k hk9999a hk9999 (by decide)) xn0)).trans ((hF6.2.1 _ xn0).trans (ld_c hG2)))))⟩ hT
theorem v_X11_sign_58_1 {K : Nat → Nat} {F : Nat → Nat → Nat} (a : Nat) (G : XG) (G_21 : XG) (p0 : Int32) (x10 : Int32) (l2_21 : Int32) (N21 : Nat)
    (ha : K a = 13)
    (pf : ∀ z : Int, 0 ≤ z → aI (G_21.2.1 (F a 35)) z % 256 = if (G.1 a 36).toInt ≤ z ∧ z < ((G_21.1 a 36).toInt) then bqI p0 (24 - 8 * (z - (G.1 a 36).toInt)) else aI (G.2.1 (F a 35)) z % 256)
    (nt0 : 0 ≤ ((G.1 a 36).toInt) ∧ ((G.1 a 36).toInt) ≤ 80)
    (t10 : x10.toInt = ((G.1 a 36).toInt) + (4 : Int) ∨ ((G.1 a 36).toInt) + (4 : Int) < -2147483648 ∨ 2147483648 ≤ ((G.1 a 36).toInt) + (4 : Int))
    (c13 : x10.toInt ≤ (80 : Int))
    (I21_0 : -8 ≤ l2_21.toInt ∧ l2_21.toInt ≤ 24)
    (I21_1 : 8 * (((G_21.1 a 36).toInt) - ((G.1 a 36).toInt)) = 24 - l2_21.toInt)
    (hm21 : 100 + l2_21.toInt < (((N21) + 1 : Nat) : Int))
    (c22 : l2_21.toInt < 0) :
    (((G_21.1 a 36).toInt) = -1 ∧ G_21.2.1 (F a 35) = (G.2.1 (F a 35))) ∨ (((G_21.1 a 36).toInt) ≠ -1 ∧ ∀ z : Int, 0 ≤ z → aI (G_21.2.1 (F a 35)) z % 256 = if ((G.1 a 36).toInt) ≤ z ∧ z < ((G.1 a 36).toInt) + 4 then bqI p0 (24 - 8 * (z - ((G.1 a 36).toInt))) else aI (G.2.1 (F a 35)) z % 256) := by
  refine Or.inr ⟨by omega, fun z hz => ?_⟩
  rw [pf z hz, show (G_21.1 a 36).toInt = (G.1 a 36).toInt + 4 from by omega]
theorem v_X11_sign_51_2 {K : Nat → Nat} {F : Nat → Nat → Nat} (a : Nat) (G : XG) (G_21 : XG) (G37 : XG) (x36 : Int32) (p0 : Int32) (x35 : Int32) (l2_21 : Int32) (x10 : Int32) (N21 : Nat)
    (ha : K a = 13)
    (hG37 : G37 = cput G_21 (F a 35) (G_21.1 a 36).toNatClampNeg x36)
    (pf : ∀ z : Int, 0 ≤ z → aI (G_21.2.1 (F a 35)) z % 256 = if (G.1 a 36).toInt ≤ z ∧ z < ((G_21.1 a 36).toInt) then bqI p0 (24 - 8 * (z - (G.1 a 36).toInt)) else aI (G.2.1 (F a 35)) z % 256)
    (eb35 : x35 = (Int32.toUInt32 p0 >>> (Int32.toUInt32 l2_21 &&& Int32.toUInt32 31)).toInt32)
    (eb36 : x36 = (Int32.toInt8 x35).toInt32)
    (nt0 : 0 ≤ ((G.1 a 36).toInt) ∧ ((G.1 a 36).toInt) ≤ 80)
    (t10 : x10.toInt = ((G.1 a 36).toInt) + (4 : Int) ∨ ((G.1 a 36).toInt) + (4 : Int) < -2147483648 ∨ 2147483648 ≤ ((G.1 a 36).toInt) + (4 : Int))
    (c13 : x10.toInt ≤ (80 : Int))
    (I21_0 : -8 ≤ l2_21.toInt ∧ l2_21.toInt ≤ 24)
    (I21_1 : 8 * (((G_21.1 a 36).toInt) - ((G.1 a 36).toInt)) = 24 - l2_21.toInt)
    (hm21 : 100 + l2_21.toInt < (((N21) + 1 : Nat) : Int))
    (c22 : ¬ (l2_21.toInt < 0)) :
    ∀ z : Int, 0 ≤ z → aI (G37.2.1 (F a 35)) z % 256 = if (G.1 a 36).toInt ≤ z ∧ z < (((G_21.1 a 36).toInt) + (1 : Int)) then bqI p0 (24 - 8 * (z - (G.1 a 36).toInt)) else aI (G.2.1 (F a 35)) z % 256 := by
  intro z hz
  have u := aI_pu hG37 rfl (rfl : (G_21.1 a 36).toInt = (G_21.1 a 36).toInt) (rfl : x36.toInt = x36.toInt) (by omega) z hz
  have b := bq_b eb35 eb36 (rfl : l2_21.toInt = l2_21.toInt)
  rw [u]
  by_cases e : z = (G_21.1 a 36).toInt
  · rw [if_pos e, if_pos (by omega), b]
    congr 1
    omega
  · rw [if_neg e, pf z hz]
    by_cases q : (G.1 a 36).toInt ≤ z ∧ z < (G_21.1 a 36).toInt
    · rw [if_pos q, if_pos (by omega)]
    · rw [if_neg q, if_neg (by omega)]
theorem v_X11_sign_20_3 {K : Nat → Nat} {F : Nat → Nat → Nat} (a : Nat) (G : XG) (x10 : Int32) (p0 : Int32)
    (ha : K a = 13)
    (nt0 : 0 ≤ ((G.1 a 36).toInt) ∧ ((G.1 a 36).toInt) ≤ 80)
    (t10 : x10.toInt = ((G.1 a 36).toInt) + (4 : Int) ∨ ((G.1 a 36).toInt) + (4 : Int) < -2147483648 ∨ 2147483648 ≤ ((G.1 a 36).toInt) + (4 : Int))
    (c13 : x10.toInt ≤ (80 : Int)) :
    ∀ z : Int, 0 ≤ z → aI (G.2.1 (F a 35)) z % 256 = if (G.1 a 36).toInt ≤ z ∧ z < ((G.1 a 36).toInt) then bqI p0 (24 - 8 * (z - (G.1 a 36).toInt)) else aI (G.2.1 (F a 35)) z % 256 := by
  intro z hz; rw [if_neg (by omega)]
theorem v_X11_sign_17_4 {F : Nat → Nat → Nat} (a : Nat) (G2 : XG) (G : XG) (p0 : Int32)
    (c_G2_F_a_35 : G2.2.1 (F a 35) = G.2.1 (F a 35)) :
    ((-1 : Int) = -1 ∧ G2.2.1 (F a 35) = (G.2.1 (F a 35))) ∨ ((-1 : Int) ≠ -1 ∧ ∀ z : Int, 0 ≤ z → aI (G2.2.1 (F a 35)) z % 256 = if ((G.1 a 36).toInt) ≤ z ∧ z < ((G.1 a 36).toInt) + 4 then bqI p0 (24 - 8 * (z - ((G.1 a 36).toInt))) else aI (G.2.1 (F a 35)) z % 256) := by
  exact Or.inl ⟨rfl, c_G2_F_a_35⟩
theorem z_X11_sign_1 (a0 : Int) (h0 : -8 ≤ a0 ∧ a0 ≤ 24) : ¬ (100 + a0 < ((0 : Nat) : Int)) := by omega
theorem z_X11_sign_2 (a0 : Int) (a1 : Int) (a2 : Int) (a3 : Int) (h0 : 0 ≤ a2 ∧ a2 ≤ 80) (h1 : a1 = a2 + (4 : Int) ∨ a2 + (4 : Int) < -2147483648 ∨ 2147483648 ≤ a2 + (4 : Int)) (h2 : a1 ≤ (80 : Int)) (h3 : -8 ≤ a0 ∧ a0 ≤ 24) (h4 : 8 * (a3 - a2) = 24 - a0) (h5 : a0 < 0) : (76 < a2 ∧ a3 = -1 ∧ a3 = a2) ∨ (a2 ≤ 76 ∧ a3 = a2 + 4 ∧ a3 = a2 + 4) := by omega
theorem z_X11_sign_3 (a0 : Int) (a1 : Int) (a2 : Int) (a3 : Int) (h0 : 0 ≤ a2 ∧ a2 ≤ 80) (h1 : a1 = a2 + (4 : Int) ∨ a2 + (4 : Int) < -2147483648 ∨ 2147483648 ≤ a2 + (4 : Int)) (h2 : a1 ≤ (80 : Int)) (h3 : -8 ≤ a0 ∧ a0 ≤ 24) (h4 : 8 * (a3 - a2) = 24 - a0) (h5 : ¬ (a0 < 0)) : 0 ≤ a3 ∧ a3 < ((80 : Nat) : Int) := by omega
theorem z_X11_sign_4 (a0 : Int) (a1 : Int) (a2 : Int) (a3 : Int) (h0 : 0 ≤ a2 ∧ a2 ≤ 80) (h1 : 8 * (a3 - a2) = 24 - a0) (h2 : ¬ (a0 < 0)) (h3 : a1 = (a3 + (1 : Int)) ∨ (a3 + (1 : Int)) < -2147483648 ∨ 2147483648 ≤ (a3 + (1 : Int))) (h4 : -2147483648 ≤ a3 ∧ a3 < 2147483648) : a1 = (a3 + (1 : Int)) := by omega
theorem z_X11_sign_5 (a0 : Int) (a1 : Int) (h0 : -8 ≤ a0 ∧ a0 ≤ 24) (h1 : a1 = (a0 + (-8)) ∨ (a0 + (-8)) < -2147483648 ∨ 2147483648 ≤ (a0 + (-8))) : a1 = (a0 + (-8)) := by omega
theorem z_X11_sign_6 (a0 : Int) (h0 : -8 ≤ a0 ∧ a0 ≤ 24) (h1 : ¬ (a0 < 0)) : -8 ≤ (a0 + (-8)) ∧ (a0 + (-8)) ≤ 24 := by omega
theorem z_X11_sign_7 (a0 : Int) (a1 : Int) (a2 : Int) (h0 : 8 * (a2 - a1) = 24 - a0) : 8 * ((a2 + (1 : Int)) - a1) = 24 - (a0 + (-8)) := by omega
theorem z_X11_sign_8 (a0 : Int) (a1 : Nat) (h0 : 100 + a0 < ((a1 + 1 : Nat) : Int)) : 100 + (a0 + (-8)) < ((a1 : Nat) : Int) := by omega
theorem z_X11_sign_9 (a0 : Int) : 8 * (a0 - a0) = 24 - (24 : Int) := by omega
theorem z_X11_sign_10 (a0 : Int) (a1 : Int) (h0 : 0 ≤ a1 ∧ a1 ≤ 80) (h1 : a0 = a1 + (4 : Int) ∨ a1 + (4 : Int) < -2147483648 ∨ 2147483648 ≤ a1 + (4 : Int)) (h2 : ¬ (a0 ≤ (80 : Int))) : (76 < a1 ∧ (-1 : Int) = -1 ∧ a1 = a1) ∨ (a1 ≤ 76 ∧ (-1 : Int) = a1 + 4 ∧ a1 = a1 + 4) := by omega
abbrev rm_X11_sign : Room := { frames := 0, cells := 0, slots := 0, locals := 0 }
set_option maxHeartbeats 4000000 in
set_option maxRecDepth 100000 in
theorem c_X11_sign (l : Launch) (E : XE) (K : Nat → Nat) (F : Nat → Nat → Nat) (G : XG) (a : Nat) (p0 : Int32) (ha : K a = 13) (nt0 : 0 ≤ ((G.1 a 36).toInt) ∧ ((G.1 a 36).toInt) ≤ 80) : Met l yX11_sign (xw yX11_sign cX11_sign 3 (some .int)) rm_X11_sign (va_Pc [.ref a, .int p0] (XP E K F G)) (XQ E (fun v (u : XG) => ∃ r : Int32, v = .int r ∧ XFr [(a, 0), (a, 36)] [F a 35] [] G u ∧ ((76 < ((G.1 a 36).toInt) ∧ r.toInt = -1 ∧ ((u.1 a 36).toInt) = ((G.1 a 36).toInt)) ∨ (((G.1 a 36).toInt) ≤ 76 ∧ r.toInt = ((G.1 a 36).toInt) + 4 ∧ ((u.1 a 36).toInt) = ((G.1 a 36).toInt) + 4)) ∧ ((r.toInt = -1 ∧ u.2.1 (F a 35) = (G.2.1 (F a 35))) ∨ (r.toInt ≠ -1 ∧ ∀ z : Int, 0 ≤ z → aI (u.2.1 (F a 35)) z % 256 = if ((G.1 a 36).toInt) ≤ z ∧ z < ((G.1 a 36).toInt) + 4 then bqI p0 (24 - 8 * (z - ((G.1 a 36).toInt))) else aI (G.2.1 (F a 35)) z % 256))) (fun u H => TW E K F u H)) 0 0 (xA E) := by
  refine x_enter (by decide) (Nat.le_of_ble_eq_true rfl) ?_
  intro p e s m args below meth c Q S hr hlk hnm hQ hP ls hl
  obtain ⟨hz, hK, hT⟩ := hP
  obtain ⟨hx, hb, -, -, -⟩ := id S
  obtain ⟨H, hT, hS, hgo⟩ : ∃ H : Heap, TW E K F G H ∧ va_S (xA E) s.heap H [] ∧ H = s.heap := ⟨_, hT, va_S.rf, rfl⟩
  rw [← hgo]
  have hl : lv_has ls 3 [(0, .ref a), (1, .int p0)] := hl
  obtain ⟨hk9999, hj9999⟩ := fkX11_35 hT ha
  refine lv_aload_n hx hb dX11_sign_0 rfl (lv_at hl 0 rfl) ?_
  refine lv_iconst (v := 0) hx hb dX11_sign_1 (by decide) ?_
  refine pX11_0 (v := 0) S hK hT hS ha kf_X11_134 dX11_sign_2 (fun H locs hT hS => ?_)
  obtain ⟨G2, hG2⟩ : ∃ GG : XG, GG = dput G a 0 0 := ⟨_, rfl⟩
  rw [← hG2] at hT
  refine lv_aload_n hx hb dX11_sign_5 rfl (lv_at hl 0 rfl) ?_
  refine gX11_36 S hK hT ha kf_X11_245 dX11_sign_6 (v := (G.1 a 36)) (ld_j hG2 (by decide)) (?_)
  refine lv_iconst (v := 4) hx hb dX11_sign_9 (by decide) ?_
  refine xi_iadd hx hb (rfl : Int32.toInt (G.1 a 36) = ((G.1 a 36).toInt)) ((by decide) : Int32.toInt 4 = (4 : Int)) dX11_sign_10 (fun x10 t10 => ?_)
  refine lv_bipush (v := 80) hx hb dX11_sign_11 (by decide) ?_
  refine xi_cle (tgt := 18) hx hb (rfl : Int32.toInt x10 = x10.toInt) ((by decide) : Int32.toInt 80 = (80 : Int)) dX11_sign_13 (by decide) (fun c13 => ?_) (fun c13 => ?_)
  · refine lv_bipush (v := 24) hx hb dX11_sign_18 (by decide) ?_
    refine lv_istore_n (lv' := [(2, .int 24), (0, .ref a), (1, .int p0)]) hx hb dX11_sign_20 rfl hl (by decide) rfl (fun ls hl => ?_)
    have L21 : ∀ (N21 : Nat) (l2_21 : Int32) (G_21 : XG) (H : Heap) (locs : List Loc) (ls : Array Slot), XFr [(a, 36)] [F a 35] [] G2 G_21 → (∀ z : Int, 0 ≤ z → aI (G_21.2.1 (F a 35)) z % 256 = if (G.1 a 36).toInt ≤ z ∧ z < ((G_21.1 a 36).toInt) then bqI p0 (24 - 8 * (z - (G.1 a 36).toInt)) else aI (G.2.1 (F a 35)) z % 256) → -8 ≤ l2_21.toInt ∧ l2_21.toInt ≤ 24 → 8 * (((G_21.1 a 36).toInt) - ((G.1 a 36).toInt)) = 24 - l2_21.toInt → 100 + l2_21.toInt < ((N21 : Nat) : Int) → TW E K F G_21 H → va_S (xA E) s.heap H locs → lv_has ls 3 [(0, .ref a), (1, .int p0), (2, .int l2_21)] → W p l e rm_X11_sign s m args below meth c H locs 0 0 Q (F0 m 21 ls []) := by
      intro N21
      induction N21 with
      | zero =>
        intro l2_21 G_21 H locs ls hF_21 pf I21_0 I21_1 hm21
        exact absurd hm21 (z_X11_sign_1 l2_21.toInt I21_0)
      | succ N21 ih21 =>
        intro l2_21 G_21 H locs ls hF_21 pf I21_0 I21_1 hm21 hT hS hl
        refine lv_iload_n hx hb dX11_sign_21 rfl (lv_at hl 2 rfl) ?_
        refine xi_zlt (tgt := 54) hx hb (rfl : Int32.toInt l2_21 = l2_21.toInt) dX11_sign_22 (by decide) (fun c22 => ?_) (fun c22 => ?_)
        · refine lv_aload_n hx hb dX11_sign_54 rfl (lv_at hl 0 rfl) ?_
          refine gX11_36 S hK hT ha kf_X11_245 dX11_sign_55 (v := (G_21.1 a 36)) rfl (?_)
          exact x_ri hx hb hr hlk hQ (Nat.le_of_ble_eq_true rfl) (Nat.le_of_ble_eq_true rfl) hS dX11_sign_58 G_21 ⟨_, rfl, (XFr.call (by rw [hG2]; exact XFr.dput XFr.rf (List.mem_of_getElem? (i := 0) rfl)) hF_21 (xm1 1 rfl xm0) (xm1 0 rfl xm0) xm0), (z_X11_sign_2 l2_21.toInt x10.toInt ((G.1 a 36).toInt) ((G_21.1 a 36).toInt) nt0 t10 c13 I21_0 I21_1 c22), (v_X11_sign_58_1 (K := K) (F := F) a G G_21 p0 x10 l2_21 N21 ha pf nt0 t10 c13 I21_0 I21_1 hm21 c22)⟩ hT
        · refine lv_aload_n hx hb dX11_sign_25 rfl (lv_at hl 0 rfl) ?_
          refine gX11_35 S hK hT ha kf_X11_103 dX11_sign_26 (fun _ _ => ?_)
          refine lv_aload_n hx hb dX11_sign_29 rfl (lv_at hl 0 rfl) ?_
          refine gX11_36 S hK hT ha kf_X11_245 dX11_sign_30 (v := (G_21.1 a 36)) rfl (?_)
          refine lv_iload_n hx hb dX11_sign_33 rfl (lv_at hl 1 rfl) ?_
          refine lv_iload_n hx hb dX11_sign_34 rfl (lv_at hl 2 rfl) ?_
          refine lv_iushr hx hb dX11_sign_35 rfl (lv_topi (fun x35 eb35 => ?_))
          refine lv_i2b hx hb dX11_sign_36 rfl (lv_topi (fun x36 eb36 => ?_))
          refine as_2 (x := x36) S hK hT hS hk9999 ar_51 aw_51 (by decide) (z_X11_sign_3 l2_21.toInt x10.toInt ((G.1 a 36).toInt) ((G_21.1 a 36).toInt) nt0 t10 c13 I21_0 I21_1 c22) dX11_sign_37 (fun H locs hT hS => ?_)
          rw [(xnar2 (xok_i2b eb36))] at hT
          obtain ⟨G37, hG37⟩ : ∃ GG : XG, GG = cput G_21 (F a 35) (G_21.1 a 36).toNatClampNeg x36 := ⟨_, rfl⟩
          rw [← hG37] at hT
          refine lv_aload_n hx hb dX11_sign_38 rfl (lv_at hl 0 rfl) ?_
          refine lv_dup hx hb dX11_sign_39 rfl ?_
          refine gX11_36 S hK hT ha kf_X11_245 dX11_sign_40 (v := (G_21.1 a 36)) (lc_d hG37) (?_)
          refine lv_iconst (v := 1) hx hb dX11_sign_43 (by decide) ?_
          refine xi_iadd hx hb (rfl : Int32.toInt (G_21.1 a 36) = ((G_21.1 a 36).toInt)) ((by decide) : Int32.toInt 1 = (1 : Int)) dX11_sign_44 (fun x44 t44 => ?_)
          have e44 : x44.toInt = (((G_21.1 a 36).toInt) + (1 : Int)) := (z_X11_sign_4 l2_21.toInt x44.toInt ((G.1 a 36).toInt) ((G_21.1 a 36).toInt) nt0 I21_1 c22 t44 (xr (G_21.1 a 36)))
          refine pX11_36 (v := x44) S hK hT hS ha kf_X11_245 dX11_sign_45 (fun H locs hT hS => ?_)
          obtain ⟨G45, hG45⟩ : ∃ GG : XG, GG = dput G37 a 36 x44 := ⟨_, rfl⟩
          rw [← hG45] at hT
          refine xi_iinc (n := (-8)) (lv' := fun z9 => [(2, .int z9), (0, .ref a), (1, .int p0)]) (k := 2) hx hb (rfl : Int32.toInt l2_21 = l2_21.toInt) (by decide) dX11_sign_48 hl rfl (by decide) (fun _ => rfl) (fun x48 ls t48 hl => ?_)
          have e48 : x48.toInt = (l2_21.toInt + (-8)) := (z_X11_sign_5 l2_21.toInt x48.toInt I21_0 t48)
          have hl : lv_has ls 3 [(2, .int x48), (0, .ref a), (1, .int p0)] := hl
          refine lv_goto (tgt := 21) hx hb dX11_sign_51 (by decide) ?_
          exact ih21 x48 G45 _ _ _ (by rw [hG45]; exact XFr.dput (by rw [hG37]; exact XFr.cput (XFr.call XFr.rf hF_21 (xm1 0 rfl xm0) (xm1 0 rfl xm0) xm0) (List.mem_of_getElem? (i := 0) rfl)) (List.mem_of_getElem? (i := 0) rfl)) (by rw [(show (G45.1 a 36).toInt = (((G_21.1 a 36).toInt) + (1 : Int)) from (congrArg Int32.toInt (ld_at hG45)).trans (e44 : Int32.toInt x44 = (((G_21.1 a 36).toInt) + (1 : Int)))), (show G45.2.1 (F a 35) = G37.2.1 (F a 35) from (ld_c hG45))] <;> exact (v_X11_sign_51_2 (K := K) (F := F) a G G_21 G37 x36 p0 x35 l2_21 x10 N21 ha hG37 pf eb35 eb36 nt0 t10 c13 I21_0 I21_1 hm21 c22)) (by rw [(e48 : Int32.toInt x48 = (l2_21.toInt + (-8)))] <;> exact (z_X11_sign_6 l2_21.toInt I21_0 c22)) (by rw [(e48 : Int32.toInt x48 = (l2_21.toInt + (-8))), (show (G45.1 a 36).toInt = (((G_21.1 a 36).toInt) + (1 : Int)) from (congrArg Int32.toInt (ld_at hG45)).trans (e44 : Int32.toInt x44 = (((G_21.1 a 36).toInt) + (1 : Int))))] <;> exact (z_X11_sign_7 l2_21.toInt ((G.1 a 36).toInt) ((G_21.1 a 36).toInt) I21_1)) (by rw [(e48 : Int32.toInt x48 = (l2_21.toInt + (-8)))] <;> exact (z_X11_sign_8 l2_21.toInt N21 hm21)) hT hS (lv_sub hl [1, 2, 0] rfl)
    exact L21 4294967297 24 G2 _ _ _ XFr.rf (by rw [(show (G2.1 a 36).toInt = ((G.1 a 36).toInt) from (congrArg Int32.toInt (ld_j hG2 (by decide))).trans (rfl : Int32.toInt (G.1 a 36) = ((G.1 a 36).toInt))), (show G2.2.1 (F a 35) = G.2.1 (F a 35) from (ld_c hG2))] <;> exact (v_X11_sign_20_3 (K := K) (F := F) a G x10 p0 ha nt0 t10 c13)) (by decide) (by rw [(show (G2.1 a 36).toInt = ((G.1 a 36).toInt) from (congrArg Int32.toInt (ld_j hG2 (by decide))).trans (rfl : Int32.toInt (G.1 a 36) = ((G.1 a 36).toInt)))] <;> exact (z_X11_sign_9 ((G.1 a 36).toInt))) (by decide) hT hS (lv_sub hl [1, 2, 0] rfl)
  · refine lv_iconst (v := (-1)) hx hb dX11_sign_16 (by decide) ?_
    exact x_ri hx hb hr hlk hQ (Nat.le_of_ble_eq_true rfl) (Nat.le_of_ble_eq_true rfl) hS dX11_sign_17 G2 ⟨_, rfl, (by rw [hG2]; exact XFr.dput XFr.rf (List.mem_of_getElem? (i := 0) rfl)), (by rw [((by decide) : Int32.toInt (-1) = (-1 : Int)), (show (G2.1 a 36).toInt = ((G.1 a 36).toInt) from (congrArg Int32.toInt (ld_j hG2 (by decide))).trans (rfl : Int32.toInt (G.1 a 36) = ((G.1 a 36).toInt)))] <;> exact (z_X11_sign_10 x10.toInt ((G.1 a 36).toInt) nt0 t10 c13)), (by rw [((by decide) : Int32.toInt (-1) = (-1 : Int))] <;> exact (v_X11_sign_17_4 (F := F) a G2 G p0 (ld_c hG2)))⟩ hT

theorem z_X11_end_1 (a0 : Int) (a1 : Int) (a2 : Int) (h0 : (a1 = 1 ∧ (0 : Int) ≤ a0 ∧ a0 ≤ a2) ∨ (a1 = 0 ∧ (a0 < (0 : Int) ∨ a2 < a0))) (h1 : a1 ≠ 0) : ((a0 < 0 ∨ a2 < a0) ∧ (1 : Int) = 0 ∧ a0 = a2) ∨ ((0 ≤ a0 ∧ a0 ≤ a2) ∧ (1 : Int) = 1 ∧ a0 = a0) := by omega
theorem z_X11_end_2 (a0 : Int) (a1 : Int) (a2 : Int) (h0 : (a1 = 1 ∧ (0 : Int) ≤ a0 ∧ a0 ≤ a2) ∨ (a1 = 0 ∧ (a0 < (0 : Int) ∨ a2 < a0))) (h1 : ¬ (a1 ≠ 0)) : ((a0 < 0 ∨ a2 < a0) ∧ (0 : Int) = 0 ∧ a2 = a2) ∨ ((0 ≤ a0 ∧ a0 ≤ a2) ∧ (0 : Int) = 1 ∧ a2 = a0) := by omega
abbrev rm_X11_end : Room := { frames := 1, cells := 0, slots := 0, locals := 25 }
set_option maxHeartbeats 4000000 in
set_option maxRecDepth 100000 in
theorem c_X11_end (l : Launch) (E : XE) (K : Nat → Nat) (F : Nat → Nat → Nat) (G : XG) (a : Nat) (p0 : Int32) (ha : K a = 13) : Met l yX11_end (xw yX11_end cX11_end 2 (some .boolean)) rm_X11_end (va_Pc [.ref a, .int p0] (XP E K F G)) (XQ E (fun v (u : XG) => ∃ r : Int32, v = .int r ∧ (r = 0 ∨ r = 1) ∧ XFr [(a, 0), (a, 36)] [] [] G u ∧ (((p0.toInt < 0 ∨ ((G.1 a 36).toInt) < p0.toInt) ∧ r.toInt = 0 ∧ ((u.1 a 36).toInt) = ((G.1 a 36).toInt)) ∨ ((0 ≤ p0.toInt ∧ p0.toInt ≤ ((G.1 a 36).toInt)) ∧ r.toInt = 1 ∧ ((u.1 a 36).toInt) = p0.toInt))) (fun u H => TW E K F u H)) 0 0 (xA E) := by
  refine x_enter (by decide) (Nat.le_of_ble_eq_true rfl) ?_
  intro p e s m args below meth c Q S hr hlk hnm hQ hP ls hl
  obtain ⟨hz, hK, hT⟩ := hP
  obtain ⟨hx, hb, -, -, -⟩ := id S
  obtain ⟨H, hT, hS, hgo⟩ : ∃ H : Heap, TW E K F G H ∧ va_S (xA E) s.heap H [] ∧ H = s.heap := ⟨_, hT, va_S.rf, rfl⟩
  rw [← hgo]
  have hl : lv_has ls 2 [(0, .ref a), (1, .int p0)] := hl
  refine lv_aload_n hx hb dX11_end_0 rfl (lv_at hl 0 rfl) ?_
  refine lv_iconst (v := 0) hx hb dX11_end_1 (by decide) ?_
  refine pX11_0 (v := 0) S hK hT hS ha kf_X11_134 dX11_end_2 (fun H locs hT hS => ?_)
  obtain ⟨G2, hG2⟩ : ∃ GG : XG, GG = dput G a 0 0 := ⟨_, rfl⟩
  rw [← hG2] at hT
  refine lv_iload_n hx hb dX11_end_5 rfl (lv_at hl 1 rfl) ?_
  refine lv_i2l (v := p0.toInt64) hx hb dX11_end_6 rfl ?_
  refine lv_lconst (v := (0 : Int64)) hx hb dX11_end_7 (by decide) ?_
  refine lv_aload_n hx hb dX11_end_8 rfl (lv_at hl 0 rfl) ?_
  refine gX11_36 S hK hT ha kf_X11_245 dX11_end_9 (v := (G.1 a 36)) (ld_j hG2 (by decide)) (?_)
  refine lv_i2l (v := ((G.1 a 36) : Int32).toInt64) hx hb dX11_end_12 rfl ?_
  refine x_clp (x_runS (As := [.long p0.toInt64, .long (0 : Int64), .long (((G.1 a 36) : Int32).toInt64)]) (rest := []) S (c_X11_in l E K F G2 H p0.toInt64 p0.toInt (0 : Int64) (0 : Int) (((G.1 a 36) : Int32).toInt64) (((G.1 a 36).toInt)) (xl_i2l (rfl : Int32.toInt p0 = p0.toInt)) (by decide) (xl_i2l (rfl : Int32.toInt (G.1 a 36) = ((G.1 a 36).toInt)))) ms_X11_in km_X11_139 rfl rfl ⟨Nat.le_of_ble_eq_true rfl, Nat.le_of_ble_eq_true rfl⟩ hK (fun _ => XPh.blind) (fun U hU hW => XPh.at hK hz hS hT hU hW) rfl hl.1 (Nat.le_of_ble_eq_true rfl) dX11_end_13 ⟨Nat.le_of_ble_eq_true rfl, Nat.le_of_ble_eq_true rfl⟩) hS ?_
  rintro _ _ locs ⟨x13, rfl, b13, t13⟩ hS
  have t13 : (x13.toInt = 1 ∧ (0 : Int) ≤ p0.toInt ∧ p0.toInt ≤ ((G.1 a 36).toInt)) ∨ (x13.toInt = 0 ∧ (p0.toInt < (0 : Int) ∨ ((G.1 a 36).toInt) < p0.toInt)) := t13
  refine xi_zne (tgt := 21) hx hb (rfl : Int32.toInt x13 = x13.toInt) dX11_end_16 (by decide) (fun c16 => ?_) (fun c16 => ?_)
  · refine lv_aload_n hx hb dX11_end_21 rfl (lv_at hl 0 rfl) ?_
    refine lv_iload_n hx hb dX11_end_22 rfl (lv_at hl 1 rfl) ?_
    refine pX11_36 (v := p0) S hK hT hS ha kf_X11_245 dX11_end_23 (fun H locs hT hS => ?_)
    obtain ⟨G23, hG23⟩ : ∃ GG : XG, GG = dput G2 a 36 p0 := ⟨_, rfl⟩
    rw [← hG23] at hT
    refine lv_iconst (v := 1) hx hb dX11_end_26 (by decide) ?_
    exact x_rz hx hb hr (xnz (Or.inr rfl)) hlk hQ (Nat.le_of_ble_eq_true rfl) (Nat.le_of_ble_eq_true rfl) hS dX11_end_27 G23 ⟨_, rfl, (Or.inr rfl), (by rw [hG23]; exact XFr.dput (by rw [hG2]; exact XFr.dput XFr.rf (List.mem_of_getElem? (i := 0) rfl)) (List.mem_of_getElem? (i := 1) rfl)), (by rw [(show (G23.1 a 36).toInt = p0.toInt from (congrArg Int32.toInt (ld_at hG23)).trans (rfl : Int32.toInt p0 = p0.toInt))] <;> exact (z_X11_end_1 p0.toInt x13.toInt ((G.1 a 36).toInt) t13 c16))⟩ hT
  · refine lv_iconst (v := 0) hx hb dX11_end_19 (by decide) ?_
    exact x_rz hx hb hr (xnz (Or.inl rfl)) hlk hQ (Nat.le_of_ble_eq_true rfl) (Nat.le_of_ble_eq_true rfl) hS dX11_end_20 G2 ⟨_, rfl, (Or.inl rfl), (by rw [hG2]; exact XFr.dput XFr.rf (List.mem_of_getElem? (i := 0) rfl)), (by rw [(show (G2.1 a 36).toInt = ((G.1 a 36).toInt) from (congrArg Int32.toInt (ld_j hG2 (by decide))).trans (rfl : Int32.toInt (G.1 a 36) = ((G.1 a 36).toInt)))] <;> exact (z_X11_end_2 p0.toInt x13.toInt ((G.1 a 36).toInt) t13 c16))⟩ hT
theorem v_X10_sign_22_1 {K : Nat → Nat} {F : Nat → Nat → Nat} (a : Nat) (G : XG) (G5 : XG) (x5 : Int32) (p0 : Int32)
    (ha : K a = 12)
    (oq5 : (x5.toInt = 0 ∧ G5.2.1 (F (F a 0) 0) = (G.2.1 (F (F a 0) 0))) ∨ (x5.toInt = 1 ∧ ∀ z : Int, 0 ≤ z → aI (G5.2.1 (F (F a 0) 0)) z = if ((G.1 (F a 0) 1).toInt) ≤ z ∧ z < ((G.1 (F a 0) 1).toInt) + 4 then bqI p0 (24 - 8 * (z - ((G.1 (F a 0) 1).toInt))) else aI (G.2.1 (F (F a 0) 0)) z))
    (n0 : 0 ≤ ((G.1 (F a 0) 1).toInt) ∧ ((G.1 (F a 0) 1).toInt) ≤ 80)
    (t5 : (76 < ((G.1 (F a 0) 1).toInt) ∧ x5.toInt = 0 ∧ ((G5.1 (F a 0) 1).toInt) = ((G.1 (F a 0) 1).toInt)) ∨ (((G.1 (F a 0) 1).toInt) ≤ 76 ∧ x5.toInt = 1 ∧ ((G5.1 (F a 0) 1).toInt) = ((G.1 (F a 0) 1).toInt) + 4))
    (c8 : x5.toInt = 0) :
    ((-1 : Int) = -1 ∧ G5.2.1 (F (F a 0) 0) = (G.2.1 (F (F a 0) 0))) ∨ ((-1 : Int) ≠ -1 ∧ ∀ z : Int, 0 ≤ z → aI (G5.2.1 (F (F a 0) 0)) z = if ((G.1 (F a 0) 1).toInt) ≤ z ∧ z < ((G.1 (F a 0) 1).toInt) + 4 then bqI p0 (24 - 8 * (z - ((G.1 (F a 0) 1).toInt))) else aI (G.2.1 (F (F a 0) 0)) z) := by
  rcases oq5 with ⟨h1, h2⟩ | ⟨h1, h2⟩
  · first
      | (exfalso; omega)
      | exact Or.inl ⟨by omega, h2⟩
  · first
      | (exfalso; omega)
      | exact Or.inr ⟨by omega, h2⟩
theorem v_X10_sign_22_2 {K : Nat → Nat} {F : Nat → Nat → Nat} (a : Nat) (G : XG) (G5 : XG) (x5 : Int32) (p0 : Int32)
    (ha : K a = 12)
    (oq5 : (x5.toInt = 0 ∧ G5.2.1 (F (F a 0) 0) = (G.2.1 (F (F a 0) 0))) ∨ (x5.toInt = 1 ∧ ∀ z : Int, 0 ≤ z → aI (G5.2.1 (F (F a 0) 0)) z = if ((G.1 (F a 0) 1).toInt) ≤ z ∧ z < ((G.1 (F a 0) 1).toInt) + 4 then bqI p0 (24 - 8 * (z - ((G.1 (F a 0) 1).toInt))) else aI (G.2.1 (F (F a 0) 0)) z))
    (n0 : 0 ≤ ((G.1 (F a 0) 1).toInt) ∧ ((G.1 (F a 0) 1).toInt) ≤ 80)
    (t5 : (76 < ((G.1 (F a 0) 1).toInt) ∧ x5.toInt = 0 ∧ ((G5.1 (F a 0) 1).toInt) = ((G.1 (F a 0) 1).toInt)) ∨ (((G.1 (F a 0) 1).toInt) ≤ 76 ∧ x5.toInt = 1 ∧ ((G5.1 (F a 0) 1).toInt) = ((G.1 (F a 0) 1).toInt) + 4))
    (c8 : ¬ (x5.toInt = 0)) :
    (((G5.1 (F a 0) 1).toInt) = -1 ∧ G5.2.1 (F (F a 0) 0) = (G.2.1 (F (F a 0) 0))) ∨ (((G5.1 (F a 0) 1).toInt) ≠ -1 ∧ ∀ z : Int, 0 ≤ z → aI (G5.2.1 (F (F a 0) 0)) z = if ((G.1 (F a 0) 1).toInt) ≤ z ∧ z < ((G.1 (F a 0) 1).toInt) + 4 then bqI p0 (24 - 8 * (z - ((G.1 (F a 0) 1).toInt))) else aI (G.2.1 (F (F a 0) 0)) z) := by
  rcases oq5 with ⟨h1, h2⟩ | ⟨h1, h2⟩
  · first
      | (exfalso; omega)
      | exact Or.inl ⟨by omega, h2⟩
  · first
      | (exfalso; omega)
      | exact Or.inr ⟨by omega, h2⟩
theorem z_X10_sign_2 (a0 : Int) (a1 : Int) (a2 : Int) (h0 : (76 < a1 ∧ a0 = 0 ∧ a2 = a1) ∨ (a1 ≤ 76 ∧ a0 = 1 ∧ a2 = a1 + 4)) (h1 : a0 = 0) : (76 < a1 ∧ (-1 : Int) = -1 ∧ a2 = a1) ∨ (a1 ≤ 76 ∧ (-1 : Int) = a1 + 4 ∧ a2 = a1 + 4) := by omega
theorem z_X10_sign_3 (a0 : Int) (a1 : Int) (a2 : Int) (h0 : (76 < a1 ∧ a0 = 0 ∧ a2 = a1) ∨ (a1 ≤ 76 ∧ a0 = 1 ∧ a2 = a1 + 4)) (h1 : ¬ (a0 = 0)) : (76 < a1 ∧ a2 = -1 ∧ a2 = a1) ∨ (a1 ≤ 76 ∧ a2 = a1 + 4 ∧ a2 = a1 + 4) := by omega
abbrev rm_X10_sign : Room := { frames := 1, cells := 0, slots := 0, locals := 22 }
set_option maxHeartbeats 4000000 in
set_option maxRecDepth 100000 in
theorem c_X10_sign (l : Launch) (E : XE) (K : Nat → Nat) (F : Nat → Nat → Nat) (G : XG) (a : Nat) (p0 : Int32) (ha : K a = 12) (n0 : 0 ≤ ((G.1 (F a 0) 1).toInt) ∧ ((G.1 (F a 0) 1).toInt) ≤ 80) : Met l yX10_sign (xw yX10_sign cX10_sign 2 (some .int)) rm_X10_sign (va_Pc [.ref a, .int p0] (XP E K F G)) (XQ E (fun v (u : XG) => ∃ r : Int32, v = .int r ∧ XFr [(F a 0, 1)] [F (F a 0) 0] [] G u ∧ ((76 < ((G.1 (F a 0) 1).toInt) ∧ r.toInt = -1 ∧ ((u.1 (F a 0) 1).toInt) = ((G.1 (F a 0) 1).toInt)) ∨ (((G.1 (F a 0) 1).toInt) ≤ 76 ∧ r.toInt = ((G.1 (F a 0) 1).toInt) + 4 ∧ ((u.1 (F a 0) 1).toInt) = ((G.1 (F a 0) 1).toInt) + 4)) ∧ ((r.toInt = -1 ∧ u.2.1 (F (F a 0) 0) = (G.2.1 (F (F a 0) 0))) ∨ (r.toInt ≠ -1 ∧ ∀ z : Int, 0 ≤ z → aI (u.2.1 (F (F a 0) 0)) z = if ((G.1 (F a 0) 1).toInt) ≤ z ∧ z < ((G.1 (F a 0) 1).toInt) + 4 then bqI p0 (24 - 8 * (z - ((G.1 (F a 0) 1).toInt))) else aI (G.2.1 (F (F a 0) 0)) z))) (fun u H => TW E K F u H)) 0 0 (xA E) := by
  refine x_enter (by decide) (Nat.le_of_ble_eq_true rfl) ?_
  intro p e s m args below meth c Q S hr hlk hnm hQ hP ls hl
  obtain ⟨hz, hK, hT⟩ := hP
  obtain ⟨hx, hb, -, -, -⟩ := id S
  obtain ⟨H, hT, hS, hgo⟩ : ∃ H : Heap, TW E K F G H ∧ va_S (xA E) s.heap H [] ∧ H = s.heap := ⟨_, hT, va_S.rf, rfl⟩
  rw [← hgo]
  have hl : lv_has ls 2 [(0, .ref a), (1, .int p0)] := hl
  obtain ⟨hk9999, hj9999⟩ := fkX10_0 hT ha
  obtain ⟨hk9999a, hj9999a⟩ := fkX8_0 hT hk9999
  refine lv_aload_n hx hb dX10_sign_0 rfl (lv_at hl 0 rfl) ?_
  refine gX10_0 S hK hT ha kf_X10_12 dX10_sign_1 (fun _ _ => ?_)
  refine lv_iload_n hx hb dX10_sign_4 rfl (lv_at hl 1 rfl) ?_
  refine x_cl0 (x_runV (b := (F a 0)) (As := [.int p0]) (rest := []) S (c_X8_addFour l E K F G (F a 0) p0 hk9999 (n0)) mv_X8_addFour km_X10_102 rfl rfl ⟨Nat.le_of_ble_eq_true rfl, Nat.le_of_ble_eq_true rfl⟩ (rc_10 hK hT hk9999) hK (fun _ => XP.blind) (fun U hU hW => XP.at hK hz hS hT hU hW) rfl hl.1 (Nat.le_of_ble_eq_true rfl) dX10_sign_5 ⟨Nat.le_of_ble_eq_true rfl, Nat.le_of_ble_eq_true rfl⟩) hS ?_
  rintro _ G5 H locs ⟨x5, rfl, b5, hF5, t5, oq5⟩ hT hS
  have t5 : (76 < ((G.1 (F a 0) 1).toInt) ∧ x5.toInt = 0 ∧ ((G5.1 (F a 0) 1).toInt) = ((G.1 (F a 0) 1).toInt)) ∨ (((G.1 (F a 0) 1).toInt) ≤ 76 ∧ x5.toInt = 1 ∧ ((G5.1 (F a 0) 1).toInt) = ((G.1 (F a 0) 1).toInt) + 4) := t5
  refine xi_zeq (tgt := 21) hx hb (rfl : Int32.toInt x5 = x5.toInt) dX10_sign_8 (by decide) (fun c8 => ?_) (fun c8 => ?_)
  · refine lv_iconst (v := (-1)) hx hb dX10_sign_21 (by decide) ?_
    exact x_ri hx hb hr hlk hQ (Nat.le_of_ble_eq_true rfl) (Nat.le_of_ble_eq_true rfl) hS dX10_sign_22 G5 ⟨_, rfl, (XFr.call XFr.rf hF5 (xm1 0 rfl xm0) (xm1 0 rfl xm0) xm0), (by rw [((by decide) : Int32.toInt (-1) = (-1 : Int))] <;> exact (z_X10_sign_2 x5.toInt ((G.1 (F a 0) 1).toInt) ((G5.1 (F a 0) 1).toInt) t5 c8)), (by rw [((by decide) : Int32.toInt (-1) = (-1 : Int))] <;> exact (v_X10_sign_22_1 (K := K) (F := F) a G G5 x5 p0 ha oq5 n0 t5 c8))⟩ hT
  · refine lv_aload_n hx hb dX10_sign_11 rfl (lv_at hl 0 rfl) ?_
    refine gX10_0 S hK hT ha kf_X10_12 dX10_sign_12 (fun _ _ => ?_)
    refine x_clp (x_runV (b := (F a 0)) (As := []) (rest := []) S (c_X8_length l E K F G5 H (F a 0) hk9999) mv_X8_length km_X10_106 rfl rfl ⟨Nat.le_of_ble_eq_true rfl, Nat.le_of_ble_eq_true rfl⟩ (rc_10 hK hT hk9999) hK (fun _ => XPh.blind) (fun U hU hW => XPh.at hK hz hS hT hU hW) rfl hl.1 (Nat.le_of_ble_eq_true rfl) dX10_sign_15 ⟨Nat.le_of_ble_eq_true rfl, Nat.le_of_ble_eq_true rfl⟩) hS ?_
    rintro _ _ locs ⟨x15, rfl, t15⟩ hS
    have t15 : x15.toInt = ((G5.1 (F a 0) 1).toInt) := t15
    refine lv_goto (tgt := 22) hx hb dX10_sign_18 (by decide) ?_
    exact x_ri hx hb hr hlk hQ (Nat.le_of_ble_eq_true rfl) (Nat.le_of_ble_eq_true rfl) hS dX10_sign_22 G5 ⟨_, rfl, (XFr.call XFr.rf hF5 (xm1 0 rfl xm0) (xm1 0 rfl xm0) xm0), (by rw [(t15 : Int32.toInt x15 = ((G5.1 (F a 0) 1).toInt))] <;> exact (z_X10_sign_3 x5.toInt ((G.1 (F a 0) 1).toInt) ((G5.1 (F a 0) 1).toInt) t5 c8)), (by rw [(t15 : Int32.toInt x15 = ((G5.1 (F a 0) 1).toInt))] <;> exact (v_X10_sign_22_2 (K := K) (F := F) a G G5 x5 p0 ha oq5 n0 t5 c8))⟩ hT

abbrev rm_X10_end : Room := { frames := 1, cells := 0, slots := 0, locals := 21 }
set_option maxHeartbeats 4000000 in
set_option maxRecDepth 100000 in
theorem c_X10_end (l : Launch) (E : XE) (K : Nat → Nat) (F : Nat → Nat → Nat) (G : XG) (a : Nat) (p0 : Int32) (ha : K a = 12) : Met l yX10_end (xw yX10_end cX10_end 2 (some .boolean)) rm_X10_end (va_Pc [.ref a, .int p0] (XP E K F G)) (XQ E (fun v (u : XG) => ∃ r : Int32, v = .int r ∧ (r = 0 ∨ r = 1) ∧ XFr [(F a 0, 1)] [] [] G u ∧ (((p0.toInt < 0 ∨ ((G.1 (F a 0) 1).toInt) < p0.toInt) ∧ r.toInt = 0 ∧ ((u.1 (F a 0) 1).toInt) = ((G.1 (F a 0) 1).toInt)) ∨ ((0 ≤ p0.toInt ∧ p0.toInt ≤ ((G.1 (F a 0) 1).toInt)) ∧ r.toInt = 1 ∧ ((u.1 (F a 0) 1).toInt) = p0.toInt))) (fun u H => TW E K F u H)) 0 0 (xA E) := by
  refine x_enter (by decide) (Nat.le_of_ble_eq_true rfl) ?_
  intro p e s m args below meth c Q S hr hlk hnm hQ hP ls hl
  obtain ⟨hz, hK, hT⟩ := hP
  obtain ⟨hx, hb, -, -, -⟩ := id S
  obtain ⟨H, hT, hS, hgo⟩ : ∃ H : Heap, TW E K F G H ∧ va_S (xA E) s.heap H [] ∧ H = s.heap := ⟨_, hT, va_S.rf, rfl⟩
  rw [← hgo]
  have hl : lv_has ls 2 [(0, .ref a), (1, .int p0)] := hl
  obtain ⟨hk9999, hj9999⟩ := fkX10_0 hT ha
  refine lv_aload_n hx hb dX10_end_0 rfl (lv_at hl 0 rfl) ?_
  refine gX10_0 S hK hT ha kf_X10_12 dX10_end_1 (fun _ _ => ?_)
  refine lv_iload_n hx hb dX10_end_4 rfl (lv_at hl 1 rfl) ?_
  refine x_cl0 (x_runV (b := (F a 0)) (As := [.int p0]) (rest := []) S (c_X8_shorten l E K F G (F a 0) p0 hk9999) mv_X8_shorten km_X10_110 rfl rfl ⟨Nat.le_of_ble_eq_true rfl, Nat.le_of_ble_eq_true rfl⟩ (rc_10 hK hT hk9999) hK (fun _ => XP.blind) (fun U hU hW => XP.at hK hz hS hT hU hW) rfl hl.1 (Nat.le_of_ble_eq_true rfl) dX10_end_5 ⟨Nat.le_of_ble_eq_true rfl, Nat.le_of_ble_eq_true rfl⟩) hS ?_
  rintro _ G5 H locs ⟨x5, rfl, b5, hF5, t5⟩ hT hS
  have t5 : ((p0.toInt < 0 ∨ ((G.1 (F a 0) 1).toInt) < p0.toInt) ∧ x5.toInt = 0 ∧ ((G5.1 (F a 0) 1).toInt) = ((G.1 (F a 0) 1).toInt)) ∨ ((0 ≤ p0.toInt ∧ p0.toInt ≤ ((G.1 (F a 0) 1).toInt)) ∧ x5.toInt = 1 ∧ ((G5.1 (F a 0) 1).toInt) = p0.toInt) := t5
  exact x_rz hx hb hr (xnz b5) hlk hQ (Nat.le_of_ble_eq_true rfl) (Nat.le_of_ble_eq_true rfl) hS dX10_end_8 G5 ⟨_, rfl, b5, (XFr.call XFr.rf hF5 (xm1 0 rfl xm0) xm0 xm0), (t5)⟩ hT
/-! ===== what a question tells ===== -/
noncomputable def quS (r : Int → Int) (k t c o lo hi s w : Int) : Int := by
  classical
  exact if sbj k s then (if w = 0 then stt r k t c o s else if w = 1 then flq r k t c lo hi s (stt r k t c o s) else -2147483648) else -2147483648
theorem quS_n {r : Int → Int} {k t c o lo hi s w : Int} (h : ¬ sbj k s) : quS r k t c o lo hi s w = -2147483648 := by
  unfold quS
  exact if_neg h
theorem quS_0 {r : Int → Int} {k t c o lo hi s w : Int} (h : sbj k s) (hw : w = 0) : quS r k t c o lo hi s w = stt r k t c o s := by
  unfold quS
  rw [if_pos h, if_pos hw]
theorem quS_1 {r : Int → Int} {k t c o lo hi s w : Int} (h : sbj k s) (hw : w = 1) : quS r k t c o lo hi s w = flq r k t c lo hi s (stt r k t c o s) := by
  unfold quS
  rw [if_pos h, if_neg (by omega), if_pos hw]
theorem quS_o {r : Int → Int} {k t c o lo hi s w : Int} (h0 : ¬ w = 0) (h1 : ¬ w = 1) : quS r k t c o lo hi s w = -2147483648 := by
  unfold quS
  by_cases h : sbj k s
  · rw [if_pos h, if_neg h0, if_neg h1]
  · rw [if_neg h]
/-! ===== what is told of a rule ===== -/
def tdC (q : Nat → Int32) (n w : Int) : Int := if w = 0 then (q 0).toInt else if w = 1 then (q 2).toInt else if w = 2 then (q 3).toInt else if w = 3 then (q 4).toInt else if w = 4 then (q 5).toInt else if w = 5 then (q 6).toInt else if w = 6 then (q 9).toInt else if w = 7 then (q 8).toInt else if w = 8 then (q 7).toInt else if w = 9 then n else -2147483648
theorem tdC_0 {q : Nat → Int32} {n w : Int} (h : w = 0) : tdC q n w = (q 0).toInt := by subst h; rfl
theorem tdC_1 {q : Nat → Int32} {n w : Int} (h : w = 1) : tdC q n w = (q 2).toInt := by subst h; rfl
theorem tdC_2 {q : Nat → Int32} {n w : Int} (h : w = 2) : tdC q n w = (q 3).toInt := by subst h; rfl
theorem tdC_3 {q : Nat → Int32} {n w : Int} (h : w = 3) : tdC q n w = (q 4).toInt := by subst h; rfl
theorem tdC_4 {q : Nat → Int32} {n w : Int} (h : w = 4) : tdC q n w = (q 5).toInt := by subst h; rfl
theorem tdC_5 {q : Nat → Int32} {n w : Int} (h : w = 5) : tdC q n w = (q 6).toInt := by subst h; rfl
theorem tdC_6 {q : Nat → Int32} {n w : Int} (h : w = 6) : tdC q n w = (q 9).toInt := by subst h; rfl
theorem tdC_7 {q : Nat → Int32} {n w : Int} (h : w = 7) : tdC q n w = (q 8).toInt := by subst h; rfl
theorem tdC_8 {q : Nat → Int32} {n w : Int} (h : w = 8) : tdC q n w = (q 7).toInt := by subst h; rfl
theorem tdC_9 {q : Nat → Int32} {n w : Int} (h : w = 9) : tdC q n w = n := by subst h; rfl
theorem tdC_o {q : Nat → Int32} {n w : Int} (h : w < 0 ∨ 9 < w) : tdC q n w = -2147483648 := by
  unfold tdC
  rw [if_neg (by omega), if_neg (by omega), if_neg (by omega), if_neg (by omega), if_neg (by omega), if_neg (by omega), if_neg (by omega), if_neg (by omega), if_neg (by omega), if_neg (by omega)]
noncomputable def tdM (f : Nat → Int32) (p n w : Int) : Int := if 0 ≤ w ∧ w ≤ 8 then aI f (10 * p + w) else if w = 9 then n else -2147483648
theorem tdM_i {f : Nat → Int32} {p n w : Int} (h : 0 ≤ w ∧ w ≤ 8) : tdM f p n w = aI f (10 * p + w) := if_pos h
theorem tdM_9 {f : Nat → Int32} {p n w : Int} (h : w = 9) : tdM f p n w = n := by
  unfold tdM
  rw [if_neg (by omega), if_pos h]
theorem tdM_o {f : Nat → Int32} {p n w : Int} (h : w < 0 ∨ 9 < w) : tdM f p n w = -2147483648 := by
  unfold tdM
  rw [if_neg (by omega), if_neg (by omega)]
/-! ===== how many rows a table has, and which ===== -/
def rmR (f : Nat → Int32) (t z : Int) : Int := bsm (fun k => aI f (4 * (30 * t + k))) z.toNat
theorem rmR_0 (f : Nat → Int32) (t : Int) : rmR f t 0 = 0 := rfl
theorem rmR_s (f : Nat → Int32) (t : Int) {z : Int} (h : 0 ≤ z) : rmR f t (z + 1) = rmR f t z + aI f (4 * (30 * t + z)) := by
  have e : (z + 1).toNat = z.toNat + 1 := by omega
  have e2 : ((z.toNat : Nat) : Int) = z := by omega
  unfold rmR
  rw [e]
  show bsm (fun k => aI f (4 * (30 * t + k))) z.toNat + aI f (4 * (30 * t + ((z.toNat : Nat) : Int))) = _
  rw [e2]
theorem RM.is2 {f : Nat → Int32} (h : RM f 0) {t k : Int} (ht : 0 ≤ t ∧ t < 3) (hk : 0 ≤ k ∧ k < 30) : aI f (4 * (30 * t + k)) = 0 ∨ aI f (4 * (30 * t + k)) = 1 := by
  have q := h.flag (t := t) (k := k) ⟨ht.1, ht.2, hk.1, hk.2⟩
  rw [show 0 + 4 * (30 * t + k) = 4 * (30 * t + k) by omega] at q
  exact q.imp (fun x => x.1) (fun x => x.1)
/-- a bit more -/
theorem bI_or01 {x v k y w : Int32} {X Z V : Int} (hv : v.toInt = V) (h01 : V = 0 ∨ V = 1) (hy : y = v <<< (k &&& 31)) (hw : w = x ||| y) (hX : x.toInt = X) (hk : k.toInt = Z) (h0 : 0 ≤ Z ∧ Z < 32) (hz : bI X Z = 0) : ∀ j : Int, 0 ≤ j → j < 32 → bI w.toInt j = if j = Z then V else bI X j := by
  rcases h01 with e | e
  · have ev : v = 0 := Int32.toInt_inj.mp (by rw [hv, e]; rfl)
    have ey : y = 0 := by
      rw [hy, ev]
      apply Int32.toBitVec_inj.mp
      simp
    have ew : w = x := by
      rw [hw, ey]
      simp
    intro j h1 h2
    rw [ew, hX, e]
    by_cases g : j = Z
    · rw [if_pos g, g]; exact hz
    · rw [if_neg g]
  · have ev : v = 1 := Int32.toInt_inj.mp (by rw [hv, e]; rfl)
    rw [ev] at hy
    intro j h1 h2
    rw [e]
    exact bI_set hy hw hX hk h0 j h1 h2
theorem bI_ext {x y : Int32} (h : ∀ j : Int, 0 ≤ j → j < 32 → bI x.toInt j = bI y.toInt j) : x = y := by
  apply Int32.toBitVec_inj.mp
  apply BitVec.eq_of_getLsbD_eq
  intro i hi
  have q := h (i : Int) (by omega) (by omega)
  rw [bI_of rfl, bI_of rfl] at q
  have q : (if bt x i then (1 : Int) else 0) = if bt y i then 1 else 0 := q
  show bt x i = bt y i
  cases hx : bt x i <;> cases hy : bt y i
  · rfl
  · rw [hx, hy] at q; exact absurd q (by decide)
  · rw [hx, hy] at q; exact absurd q (by decide)
  · rfl
/-! how deep a row lies under its tree -/
def dpF (v : Int → Int) (T C : Int) : Nat → Int → Int → Int
  | 0, _, _ => -2
  | m + 1, n, k => if cel v T (cel v T k C) 0 = -2000 then n else dpF v T C m (n + 1) (cel v T k C)
theorem dpF_o {v : Int → Int} {T C : Int} {m : Nat} {n k : Int} (h : cel v T (cel v T k C) 0 = -2000) : dpF v T C (m + 1) n k = n := if_pos h
theorem dpF_s {v : Int → Int} {T C : Int} {m : Nat} {n k : Int} (h : cel v T (cel v T k C) 0 ≠ -2000) : dpF v T C (m + 1) n k = dpF v T C m (n + 1) (cel v T k C) := if_neg h
def dpS (v : Int → Int) (kd T C key : Int) : Int := if kd = 5 ∧ cel v T key 0 ≠ -2000 then dpF v T C 31 0 key else -1
theorem dpS_i {v : Int → Int} {kd T C key : Int} (h : kd = 5 ∧ cel v T key 0 ≠ -2000) : dpS v kd T C key = dpF v T C 31 0 key := if_pos h
theorem dpS_n {v : Int → Int} {kd T C key : Int} (h : kd ≠ 5 ∨ cel v T key 0 = -2000) : dpS v kd T C key = -1 := if_neg (fun q => h.elim (fun g => g q.1) q.2)
theorem RM.cel0 {f : Nat → Int32} {t k c : Int} (h : RM f 0) (h0 : (0 ≤ t ∧ t < 3) ∧ (0 ≤ k ∧ k < 30) ∧ (0 ≤ c ∧ c < 3)) (hr : cel (mw f 0) t k 0 ≠ -2000) : aI f (4 * (30 * t + k) + 1 + c) = cel (mw f 0) t k c := by
  have k1 := h.okc (t := t) (k := k) (c := 0) ⟨h0.1.1, h0.1.2, h0.2.1.1, h0.2.1.2, by decide, by decide⟩
  have k2 := h.okc (t := t) (k := k) (c := c) ⟨h0.1.1, h0.1.2, h0.2.1.1, h0.2.1.2, h0.2.2.1, h0.2.2.2⟩
  rw [Int.zero_add] at k1 k2
  rcases k2 with ⟨e, -⟩ | ⟨-, e2, -⟩
  · rcases k1 with ⟨-, e3⟩ | ⟨e3, -⟩
    · exact absurd e3 hr
    · rw [e] at e3; exact absurd e3 (by decide)
  · exact e2.symm
/-! all that fail, in order -/
noncomputable def fa1 (f : Nat → Int32) (r : Int → Int) (q s : Int) : Option (Int × Int) := if fzq f r q s = 1 then some (q, s) else none
noncomputable def fas (f : Nat → Int32) (r : Int → Int) (q : Int) : List (Int × Int) := (subs (aI f (10 * q + 0))).filterMap (fa1 f r q)
noncomputable def faL (f : Nat → Int32) (r : Int → Int) (o : Nat → Nat) : Nat → List (Int × Int)
  | 0 => []
  | n + 1 => faL f r o n ++ fas f r ((o n : Nat) : Int)
theorem faL_s (f : Nat → Int32) (r : Int → Int) (o : Nat → Nat) (n : Nat) : faL f r o (n + 1) = faL f r o n ++ fas f r ((o n : Nat) : Int) := rfl
noncomputable def faO (f : Nat → Int32) (r : Int → Int) : List (Int × Int) := faL f r (ordN (prM f) (rkM f) 12).2 (ordN (prM f) (rkM f) 12).1
noncomputable def fap (f : Nat → Int32) (r : Int → Int) (q s : Int) : List (Int × Int) := (lst (fun i : Nat => (i : Int) + sF (aI f (10 * q + 0))) (s - sF (aI f (10 * q + 0))).toNat).filterMap (fa1 f r q)
theorem fap_0 {f : Nat → Int32} {r : Int → Int} {q s : Int} (h : s = sF (aI f (10 * q + 0))) : fap f r q s = [] := by
  unfold fap
  rw [h, Int.sub_self]
  rfl
theorem fap_s {f : Nat → Int32} {r : Int → Int} {q s : Int} (h : sF (aI f (10 * q + 0)) ≤ s) : fap f r q (s + 1) = fap f r q s ++ [s].filterMap (fa1 f r q) := by
  unfold fap
  rw [show (s + 1 - sF (aI f (10 * q + 0))).toNat = (s - sF (aI f (10 * q + 0))).toNat + 1 from by omega, lst_s, List.filterMap_append]
  congr 2
  congr 1
  omega
theorem fap_y {f : Nat → Int32} {r : Int → Int} {q s : Int} (h : sF (aI f (10 * q + 0)) ≤ s) (hz : fzq f r q s = 1) : fap f r q (s + 1) = fap f r q s ++ [(q, s)] := by
  rw [fap_s h, filterMap_1s (show fa1 f r q s = some (q, s) from if_pos hz)]
theorem fap_n {f : Nat → Int32} {r : Int → Int} {q s : Int} (h : sF (aI f (10 * q + 0)) ≤ s) (hz : fzq f r q s ≠ 1) : fap f r q (s + 1) = fap f r q s := by
  rw [fap_s h, filterMap_1n2 (show fa1 f r q s = none from if_neg hz), List.append_nil]
theorem fap_l {f : Nat → Int32} {r : Int → Int} {q s : Int} (h : s = sL (aI f (10 * q + 0)) + 1) : fap f r q s = fas f r q := by
  unfold fap fas
  rw [subs_lst, h]
  congr 3
  omega
def alS (p : Int) (l : List (Int × Int)) : Int := if p = 0 then ((l.length : Nat) : Int) else match l with
  | [] => -1
  | y :: _ => if p = 1 then y.1 else y.2
def TrA (n i s : Int) (l : List (Int × Int)) : Prop := n = ((l.length : Nat) : Int) ∧ ((l = [] ∧ i = -2147483648 ∧ s = -2147483648) ∨ ∃ (y : Int × Int) (t : List (Int × Int)), l = y :: t ∧ i = y.1 ∧ s = y.2)
theorem TrA_0 : TrA 0 (-2147483648) (-2147483648) [] := ⟨rfl, Or.inl ⟨rfl, rfl, rfl⟩⟩
theorem TrA_n {n i s q u : Int} {l : List (Int × Int)} (h : TrA n i s l) (hn : n = 0) : TrA (n + 1) q u (l ++ [(q, u)]) := by
  obtain ⟨h1, -⟩ := h
  have e : l = [] := List.eq_nil_of_length_eq_zero (by omega)
  subst e
  rw [hn]
  exact ⟨rfl, Or.inr ⟨(q, u), [], rfl, rfl, rfl⟩⟩
theorem TrA_s {n i s : Int} {l : List (Int × Int)} (h : TrA n i s l) (hn : n ≠ 0) (x : Int × Int) : TrA (n + 1) i s (l ++ [x]) := by
  obtain ⟨h1, ⟨e, -⟩ | ⟨y, t, e, a, b⟩⟩ := h
  · rw [e] at h1; exact absurd h1 hn
  · refine ⟨?_, Or.inr ⟨y, t ++ [x], by rw [e]; rfl, a, b⟩⟩
    rw [List.length_append, List.length_singleton]
    omega
theorem alS_0 {n i s p : Int} {l : List (Int × Int)} (h : TrA n i s l) (hp : p = 0) : alS p l = n := (if_pos hp).trans h.1.symm
theorem alS_e {n i s p : Int} {l : List (Int × Int)} (h : TrA n i s l) (hp : p ≠ 0) (hn : n = 0) : alS p l = -1 := by
  obtain ⟨h1, -⟩ := h
  have e : l = [] := List.eq_nil_of_length_eq_zero (by omega)
  subst e
  exact if_neg hp
theorem alS_1 {n i s p : Int} {l : List (Int × Int)} (h : TrA n i s l) (hp : p = 1) (hn : n ≠ 0) : alS p l = i := by
  obtain ⟨h1, ⟨e, -⟩ | ⟨y, t, e, a, b⟩⟩ := h
  · rw [e] at h1; exact absurd h1 hn
  · rw [e, a]
    show (if p = 0 then _ else if p = 1 then y.1 else y.2) = _
    rw [if_neg (by omega), if_pos hp]
theorem alS_2 {n i s p : Int} {l : List (Int × Int)} (h : TrA n i s l) (hp : p = 2) (hn : n ≠ 0) : alS p l = s := by
  obtain ⟨h1, ⟨e, -⟩ | ⟨y, t, e, a, b⟩⟩ := h
  · rw [e] at h1; exact absurd h1 hn
  · rw [e, b]
    show (if p = 0 then _ else if p = 1 then y.1 else y.2) = _
    rw [if_neg (by omega), if_neg (by omega)]
/-- of the class's list -/
def fqL (l : List Qt) : List (Int × Int) := (l.filter (fun x => decide (x.2.2.2.2.2 = 1))).map (fun x => (x.1, x.2.1))
theorem fqL_cnt (l : List Qt) : (fqL l).length = l.countP (fun x => decide (x.2.2.2.2.2 = 1)) := by
  unfold fqL
  rw [List.length_map, List.countP_eq_length_filter]
theorem hv_qL5 (G : XG) (F : Nat → Nat → Nat) (a : Nat) : hv (aI (G.2.1 (F a 5))) 0 1 ((G.1 a 6).toInt) = (((fqL (qL G F a)).length : Nat) : Int) := by
  rw [hv_eq, fqL_cnt]
  exact hvR_cnt _ _ _ 1 _ (fun i _ => by
    show decide ((G.2.1 (F a 5) i).toInt = 1) = true ↔ _
    exact decide_eq_true_iff)
theorem fil_nil {α : Type} {p : α → Bool} : ∀ {l : List α}, (∀ (j : Nat) (x : α), l[j]? = some x → p x = false) → l.filter p = []
  | [], _ => rfl
  | y :: l, h => by
    have h0 := h 0 y rfl
    rw [List.filter_cons_of_neg (by rw [h0]; decide)]
    exact fil_nil (fun j x hj => h (j + 1) x hj)
theorem fil_hd {α : Type} {p : α → Bool} : ∀ {l : List α} {n : Nat} {y : α}, l[n]? = some y → p y = true → (∀ (j : Nat) (x : α), j < n → l[j]? = some x → p x = false) → ∃ t, l.filter p = y :: t
  | [], n, y, h, _, _ => by cases n <;> cases h
  | z :: l, 0, y, h, hy, _ => by
    have e : z = y := Option.some.inj h
    subst e
    exact ⟨_, List.filter_cons_of_pos hy⟩
  | z :: l, n + 1, y, h, hy, hj => by
    have h0 := hj 0 z (by omega) rfl
    rw [List.filter_cons_of_neg (by rw [h0]; decide)]
    exact fil_hd (l := l) (n := n) h hy (fun j x a b => hj (j + 1) x (by omega) b)
theorem ff_none {G : XG} {F : Nat → Nat → Nat} {a : Nat} {r : Int} (hr : r = -1) (h2 : ∀ j : Int, 0 ≤ j → j < (G.1 a 6).toInt → (r = -1 ∨ j < r) → aI (G.2.1 (F a 5)) j = 0) : fqL (qL G F a) = [] := by
  unfold fqL
  rw [fil_nil (fun j x hj => by
    obtain ⟨hl, rfl⟩ := qL_get hj
    have := h2 (j : Int) (by omega) hl (Or.inl hr)
    have e : (G.2.1 (F a 5) j).toInt = 0 := this
    show decide ((G.2.1 (F a 5) j).toInt = 1) = false
    rw [e]; rfl)]
  rfl
theorem ff_some {G : XG} {F : Nat → Nat → Nat} {a : Nat} {r : Int} (hr : r ≠ -1) (h1 : r = -1 ∨ (0 ≤ r ∧ r < (G.1 a 6).toInt ∧ aI (G.2.1 (F a 5)) r = 1)) (h2 : ∀ j : Int, 0 ≤ j → j < (G.1 a 6).toInt → (r = -1 ∨ j < r) → aI (G.2.1 (F a 5)) j = 0) : ∃ t, fqL (qL G F a) = (aI (G.2.1 (F a 0)) r, aI (G.2.1 (F a 1)) r) :: t := by
  obtain ⟨a0, a1, a2⟩ := h1.resolve_left hr
  have hg := qL_at (G := G) (F := F) (a := a) (z := r) ⟨a0, a1⟩
  obtain ⟨t, ht⟩ := fil_hd (p := fun x : Qt => decide (x.2.2.2.2.2 = 1)) hg (decide_eq_true a2) (fun j x hj hx => by
    obtain ⟨hl, rfl⟩ := qL_get hx
    have := h2 (j : Int) (by omega) hl (Or.inr (by omega))
    have e : (G.2.1 (F a 5) j).toInt = 0 := this
    show decide ((G.2.1 (F a 5) j).toInt = 1) = false
    rw [e]; rfl)
  refine ⟨t.map (fun x => (x.1, x.2.1)), ?_⟩
  unfold fqL
  rw [ht]
  rfl
theorem alS_len {p : Int} {l : List (Int × Int)} (hp : p = 0) : alS p l = ((l.length : Nat) : Int) := if_pos hp
theorem alS_nil {p : Int} {l : List (Int × Int)} (hp : p ≠ 0) (h : l = []) : alS p l = -1 := by
  subst h
  exact if_neg hp
theorem alS_c1 {p q u : Int} {l t : List (Int × Int)} (hp : p = 1) (h : l = (q, u) :: t) : alS p l = q := by
  subst h
  show (if p = 0 then _ else if p = 1 then q else u) = _
  rw [if_neg (by omega), if_pos hp]
theorem alS_c2 {p q u : Int} {l t : List (Int × Int)} (hp : p = 2) (h : l = (q, u) :: t) : alS p l = u := by
  subst h
  show (if p = 0 then _ else if p = 1 then q else u) = _
  rw [if_neg (by omega), if_neg (by omega)]
/-! what the queue tells -/
noncomputable def quM (f : Nat → Int32) (mn mb : Int → Int) (y : Int × Int) (w : Int) : Int := if w = 0 then y.1 else if w = 1 then y.2 else if w = 2 then stt mb (aI f (10 * y.1 + 0)) (aI f (10 * y.1 + 1)) (aI f (10 * y.1 + 2)) (aI f (10 * y.1 + 3)) y.2 else if w = 3 then stt mn (aI f (10 * y.1 + 0)) (aI f (10 * y.1 + 1)) (aI f (10 * y.1 + 2)) (aI f (10 * y.1 + 3)) y.2 else if w = 4 then fzq f mn y.1 y.2 else -2147483648
theorem quM_0 {f : Nat → Int32} {mn mb : Int → Int} {y : Int × Int} {w : Int} (h : w = 0) : quM f mn mb y w = y.1 := if_pos h
theorem quM_1 {f : Nat → Int32} {mn mb : Int → Int} {y : Int × Int} {w : Int} (h : w = 1) : quM f mn mb y w = y.2 := by
  subst h; rfl
theorem quM_2 {f : Nat → Int32} {mn mb : Int → Int} {y : Int × Int} {w : Int} (h : w = 2) : quM f mn mb y w = stt mb (aI f (10 * y.1 + 0)) (aI f (10 * y.1 + 1)) (aI f (10 * y.1 + 2)) (aI f (10 * y.1 + 3)) y.2 := by
  subst h; rfl
theorem quM_3 {f : Nat → Int32} {mn mb : Int → Int} {y : Int × Int} {w : Int} (h : w = 3) : quM f mn mb y w = stt mn (aI f (10 * y.1 + 0)) (aI f (10 * y.1 + 1)) (aI f (10 * y.1 + 2)) (aI f (10 * y.1 + 3)) y.2 := by
  subst h; rfl
theorem quM_4 {f : Nat → Int32} {mn mb : Int → Int} {y : Int × Int} {w : Int} (h : w = 4) : quM f mn mb y w = fzq f mn y.1 y.2 := by
  subst h; rfl
theorem quM_o {f : Nat → Int32} {mn mb : Int → Int} {y : Int × Int} {w : Int} (h : w < 0 ∨ 4 < w) : quM f mn mb y w = -2147483648 := by
  unfold quM
  rw [if_neg (by omega), if_neg (by omega), if_neg (by omega), if_neg (by omega), if_neg (by omega)]
/-! where rules begin in a list that keeps those of a rule together -/
def stN (g : Int → Int) : Nat → Int
  | 0 => 0
  | n + 1 => stN g n + (if n = 0 ∨ g (n : Int) ≠ g ((n : Int) - 1) then 1 else 0)
def stF (g : Int → Int) (z : Int) : Int := stN g z.toNat
theorem stF_0 (g : Int → Int) : stF g 0 = 0 := rfl
theorem stF_s {g : Int → Int} {z : Int} (h : 0 ≤ z) : (z = 0 ∨ g z ≠ g (z - 1) → stF g (z + 1) = stF g z + 1) ∧ (¬ (z = 0 ∨ g z ≠ g (z - 1)) → stF g (z + 1) = stF g z) := by
  obtain ⟨n, rfl⟩ : ∃ n : Nat, z = (n : Int) := ⟨z.toNat, by omega⟩
  have e : stF g ((n : Int) + 1) = stF g (n : Int) + (if n = 0 ∨ g (n : Int) ≠ g ((n : Int) - 1) then 1 else 0) := by
    unfold stF
    rw [show ((n : Int) + 1).toNat = n + 1 from by omega, show ((n : Int)).toNat = n from by omega]
    rfl
  rw [e]
  constructor
  · intro q
    rw [if_pos (q.imp (fun a => by omega) id)]
  · intro q
    rw [if_neg (fun a => q (a.imp (fun b => by omega) id))]
    omega
theorem stF_run {g : Int → Int} {s e : Int} (h : 0 ≤ s ∧ s < e) (hs : s = 0 ∨ g s ≠ g (s - 1)) (hr : ∀ j : Int, s ≤ j → j < e → g j = g s) : stF g e = stF g s + 1 := by
  obtain ⟨n, hn⟩ : ∃ n : Nat, e = s + 1 + (n : Int) := ⟨(e - s - 1).toNat, by omega⟩
  have h0 : 0 ≤ s := h.1
  clear h
  induction n generalizing e with
  | zero =>
    rw [hn, show s + 1 + ((0 : Nat) : Int) = s + 1 from by omega]
    exact (stF_s h0).1 hs
  | succ n ih =>
    have e1 : e = (s + 1 + (n : Int)) + 1 := by omega
    have i1 := ih (e := s + 1 + (n : Int)) (fun j a b => hr j a (by omega)) rfl
    have e2 := hr (s + 1 + (n : Int)) (by omega) (by omega)
    have e3 := hr (s + 1 + (n : Int) - 1) (by omega) (by omega)
    rw [e1, ← i1]
    exact (stF_s (by omega)).2 (fun q => q.elim (fun a => by omega) (fun a => a (e2.trans e3.symm)))
def GrC (g : Int → Int) (n i w r : Int) : Prop := (i = -1 ∧ r = stF g n) ∨ (i ≠ -1 ∧ (i < 0 ∨ stF g n ≤ i) ∧ r = -1) ∨ (∃ s : Int, (0 ≤ s ∧ s < n) ∧ (s = 0 ∨ g s ≠ g (s - 1)) ∧ stF g s = i ∧ ((w = 0 ∧ r = g s) ∨ (w ≠ 0 ∧ r = hv g 0 (g s) n)))
def GrM (g : Int → Int) (n i w r : Int) : Prop := (i = -1 ∧ r = stF g n) ∨ (i ≠ -1 ∧ (i < 0 ∨ stF g n ≤ i) ∧ r = -1) ∨ (∃ s e : Int, (0 ≤ s ∧ s < e ∧ e ≤ n) ∧ (s = 0 ∨ g s ≠ g (s - 1)) ∧ stF g s = i ∧ (∀ j : Int, s ≤ j → j < e → g j = g s) ∧ (e = n ∨ g e ≠ g s) ∧ ((w = 0 ∧ r = g s) ∨ (w ≠ 0 ∧ r = e - s)))
def nth1 (l : List (Int × Int)) (j : Int) : Int := ((l[j.toNat]?).map Prod.fst).getD 0
theorem nth1_some {l : List (Int × Int)} {j : Int} {y : Int × Int} (h : l[j.toNat]? = some y) : nth1 l j = y.1 := congrArg (fun o : Option (Int × Int) => (o.map Prod.fst).getD 0) h
theorem nth1_pL {G : XG} {F : Nat → Nat → Nat} {a : Nat} {j : Int} (h : 0 ≤ j ∧ j < (G.1 a 19).toInt) : nth1 (pL G F a) j = aI (G.2.1 (F a 17)) j := nth1_some (pL_at h)
theorem stN_congr {g h : Int → Int} : ∀ n : Nat, (∀ j : Int, 0 ≤ j → j < (n : Int) → g j = h j) → stN g n = stN h n
  | 0, _ => rfl
  | n + 1, q => by
    show stN g n + (if n = 0 ∨ g (n : Int) ≠ g ((n : Int) - 1) then 1 else 0) = stN h n + (if n = 0 ∨ h (n : Int) ≠ h ((n : Int) - 1) then 1 else 0)
    rw [stN_congr n (fun j a b => q j a (by omega)), q (n : Int) (by omega) (by omega)]
    by_cases z : n = 0
    · rw [if_pos (Or.inl z), if_pos (Or.inl z)]
    · rw [q ((n : Int) - 1) (by omega) (by omega)]
theorem stF_congr {g h : Int → Int} {n : Int} (q : ∀ j : Int, 0 ≤ j → j < n → g j = h j) : stF g n = stF h n := stN_congr n.toNat (fun j a b => q j a (by omega))
theorem GrM_congr {g h : Int → Int} {n i w r : Int} (q : ∀ j : Int, 0 ≤ j → j < n → g j = h j) (x : GrM g n i w r) : GrM h n i w r := by
  rcases x with ⟨a, b⟩ | ⟨a, b, c⟩ | ⟨s, e, ⟨s0, s1, s2⟩, b, c, d, e1, f⟩
  · exact Or.inl ⟨a, by rw [b, stF_congr q]⟩
  · exact Or.inr (Or.inl ⟨a, by rw [← stF_congr q]; exact b, c⟩)
  · refine Or.inr (Or.inr ⟨s, e, ⟨s0, s1, s2⟩, ?_, ?_, ?_, ?_, ?_⟩)
    · by_cases z : s = 0
      · exact Or.inl z
      · rw [← q s s0 (by omega), ← q (s - 1) (by omega) (by omega)]; exact b
    · rw [← stF_congr (g := g) (h := h) (n := s) (fun j a1 a2 => q j a1 (by omega))]; exact c
    · intro j a1 a2
      rw [← q j (by omega) (by omega), ← q s s0 (by omega)]
      exact d j a1 a2
    · by_cases z : e = n
      · exact Or.inl z
      · rw [← q e (by omega) (by omega), ← q s s0 (by omega)]; exact e1
    · rw [← q s s0 (by omega)]; exact f
