/-! what is read is within bounds -/
theorem tkK_b (t : Int → Int) (S : RSt) : 0 ≤ (tkK t S).1 ∧ (tkK t S).1 ≤ 5 := by
  have key : ∀ f n : Nat, n + f ≤ 6 → 0 ≤ (tkKf t S f n).1 ∧ (tkKf t S f n).1 ≤ 5 := by
    intro f
    induction f with
    | zero => intro n _; exact ⟨Int.le_refl _, by show (0 : Int) ≤ 5; decide⟩
    | succ f ih =>
      intro n hn
      show 0 ≤ (if (tkW t (kw n) S).1 = 1 then ((n : Int), (tkW t (kw n) S).2) else tkKf t S f (n + 1)).1 ∧ (if (tkW t (kw n) S).1 = 1 then ((n : Int), (tkW t (kw n) S).2) else tkKf t S f (n + 1)).1 ≤ 5
      split
      · exact ⟨by show 0 ≤ (n : Int); omega, by show (n : Int) ≤ 5; omega⟩
      · exact ih (n + 1) (by omega)
  exact key 6 0 (by omega)
theorem tkA_r (t : Int → Int) (S : RSt) : 0 ≤ (tkA t S).1 ∧ (tkA t S).1 ≤ 2 := by
  by_cases h : (tkW t (kw 6) S).1 = 1
  · rw [tkA_a h]; exact ⟨by show (0 : Int) ≤ 1; decide, by show (1 : Int) ≤ 2; decide⟩
  · by_cases h2 : (tkW t (kw 7) S).1 = 1
    · rw [tkA_b h h2]; exact ⟨by show (0 : Int) ≤ 2; decide, by show (2 : Int) ≤ 2; decide⟩
    · rw [tkA_c h h2]; exact ⟨by show (0 : Int) ≤ 0; decide, by show (0 : Int) ≤ 2; decide⟩
theorem rS_b (t : Int → Int) : (0 ≤ (rS1 t).1 ∧ (rS1 t).1 ≤ 5) ∧ (0 ≤ (rS2 t).1 ∧ (rS2 t).1 ≤ 2) ∧ (0 ≤ (rS3 t).1 ∧ (rS3 t).1 ≤ 2) ∧ (-1 ≤ (rS4 t).1 ∧ (rS4 t).1 ≤ 2) ∧ ((rS1 t).1 = 1 ∨ (rS1 t).1 = 3 ∨ (rS1 t).1 = 4 → 0 ≤ (rS4 t).1) ∧ (0 ≤ (rS7 t).1 ∧ (rS7 t).1 ≤ 2) ∧ ((rS8 t).1 = 0 ∨ (rS8 t).1 = 1) := by
  have h4 : (((rS1 t).1 = 1 ∨ (rS1 t).1 = 3 ∨ (rS1 t).1 = 4) ∧ 0 ≤ (rS4 t).1 ∧ (rS4 t).1 ≤ 2) ∨ (¬ ((rS1 t).1 = 1 ∨ (rS1 t).1 = 3 ∨ (rS1 t).1 = 4) ∧ (rS4 t).1 = -1) := by
    by_cases h : (rS1 t).1 = 1 ∨ (rS1 t).1 = 3 ∨ (rS1 t).1 = 4
    · have e : rS4 t = tkN t 0 2 (rS3 t).2 := if_pos h
      rw [e]
      exact Or.inl ⟨h, tkN_b t _ (by decide)⟩
    · have e : rS4 t = (-1, (rS3 t).2) := if_neg h
      rw [e]
      exact Or.inr ⟨h, rfl⟩
  refine ⟨tkK_b t _, tkN_b t _ (by decide), tkN_b t _ (by decide), by omega, by omega, ?_, ?_⟩
  · by_cases h : (rS1 t).1 = 1
    · have e : rS7 t = tkA t (rS6 t).2 := if_pos h
      rw [e]
      exact tkA_r t _
    · have e : rS7 t = (0, (rS6 t).2) := if_neg h
      rw [e]
      exact ⟨by show (0 : Int) ≤ 0; decide, by show (0 : Int) ≤ 2; decide⟩
  · rcases tkW_01 t (kw 8) (rS7 t).2 with h | h
    · exact Or.inr h
    · exact Or.inl h.1
/-- nine numbers are copied behind one another -/
theorem CPd.s {f g h h2 : Nat → Int32} {b n x X : Int} (hc : CPd f g h 0 b n) (hn : 0 ≤ n) (hb : 0 ≤ b) (hu : ∀ z : Int, 0 ≤ z → aI h2 z = if z = x then X else aI h z) (hx : x = b + n) (hX : X = aI f n) : CPd f g h2 0 b (n + 1) := by
  intro z hz
  rw [hu z hz]
  by_cases e : z = x
  · rw [if_pos e, if_pos (by omega), hX]
    congr 1
    omega
  · rw [if_neg e, hc z hz]
    by_cases q : b ≤ z ∧ z < b + n
    · rw [if_pos q, if_pos (by omega)]
    · rw [if_neg q, if_neg (by omega)]
theorem CPd.z (f g : Nat → Int32) (b : Int) : CPd f g g 0 b 0 := fun z _ => by rw [if_neg (by omega)]
theorem CPd.at {f g h : Nat → Int32} {b n j : Int} (hc : CPd f g h 0 b n) (hb : 0 ≤ b) (hj : 0 ≤ j ∧ j < n) : aI h (b + j) = aI f j := by
  rw [hc (b + j) (by omega), if_pos (by omega)]
  congr 1
  omega
/-- a rule's numbers, as they are read -/
def DFo (d : Nat → Int32) (t : Int → Int) : Prop := aI d 0 = (rS1 t).1 ∧ aI d 1 = (rS2 t).1 ∧ aI d 2 = (rS3 t).1 ∧ aI d 3 = (rS4 t).1 ∧ aI d 4 = (rS5 t).1 ∧ aI d 5 = (rS6 t).1 ∧ aI d 6 = (rS8 t).1 ∧ aI d 7 = (rS9 t).1 ∧ aI d 8 = (rS7 t).1
theorem RV.cpd {f g d : Nat → Int32} {k : Int} {t : Int → Int} (h : RV f) (hk : 0 ≤ k ∧ k ≤ 11) (hc : CPd d f g 0 (10 * k) 9) (hd : DFo d t) : RV g := by
  intro r h0 h1
  by_cases e : r = k
  · subst e
    have b := rS_b t
    obtain ⟨d0, d1, d2, d3, -⟩ := hd
    unfold RVr
    rw [hc.at (by omega) (j := 0) (by omega), hc.at (by omega) (j := 1) (by omega), hc.at (by omega) (j := 2) (by omega), hc.at (by omega) (j := 3) (by omega), d0, d1, d2, d3]
    omega
  · have h3 := h r h0 h1
    unfold RVr at h3 ⊢
    rw [hc (10 * r + 0) (by omega), hc (10 * r + 1) (by omega), hc (10 * r + 2) (by omega), hc (10 * r + 3) (by omega), if_neg (by omega), if_neg (by omega), if_neg (by omega), if_neg (by omega)]
    exact h3
