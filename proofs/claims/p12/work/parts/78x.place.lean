/-! ===== the reader's place: within the text ===== -/
theorem bl_p9 {t : Int → Int} {n z : Int} (hx : TXe t n) (h : 0 ≤ z ∧ z ≤ n) : 0 ≤ rn cBl t z ∧ rn cBl t z ≤ n := by
  obtain ⟨-, r1, r2⟩ := rn_in (P := cBl) (by unfold cBl; decide) hx h.2
  omega
theorem tkW_b {t : Int → Int} {n : Int} {w : List Int} {S : RSt} (hx : TXe t n) (h : 0 ≤ S.2 ∧ S.2 ≤ n) : 0 ≤ (tkW t w S).2.2 ∧ (tkW t w S).2.2 ≤ n := by
  by_cases c : S.1 = 1 ∧ wOk t S.2 w
  · rw [tkW_t c.1 c.2]
    obtain ⟨-, r1, r2⟩ := rn_in (P := cLt) (by unfold cLt; decide) hx h.2
    have e := c.2.1
    exact bl_p9 hx (by omega)
  · rw [tkW_f c]; exact h
theorem tkN_p {t : Int → Int} {n lo hi : Int} {S : RSt} (hx : TXe t n) (h : 0 ≤ S.2 ∧ S.2 ≤ n) : 0 ≤ (tkN t lo hi S).2.2 ∧ (tkN t lo hi S).2.2 ≤ n := by
  by_cases c : S.1 = 1 ∧ nOk t S.2 ∧ lo ≤ nVl t S.2 ∧ nVl t S.2 ≤ hi
  · rw [tkN_t c.1 c.2.1 c.2.2.1 c.2.2.2]
    have hs : 0 ≤ nS t S.2 ∧ nS t S.2 ≤ n := by
      unfold nS
      split
      · rename_i e
        by_cases g : n ≤ S.2
        · have := hx S.2 g
          omega
        · omega
      · exact h
    obtain ⟨-, r1, r2⟩ := rn_in (P := cDg) (by unfold cDg; decide) hx hs.2
    have e : nE t S.2 = rn cDg t (nS t S.2) := rfl
    exact bl_p9 hx (by omega)
  · rw [tkN_f c]; exact h
theorem tkK_p {t : Int → Int} {n : Int} {S : RSt} (hx : TXe t n) (h : 0 ≤ S.2 ∧ S.2 ≤ n) : 0 ≤ (tkK t S).2.2 ∧ (tkK t S).2.2 ≤ n := by
  have key : ∀ f k : Nat, 0 ≤ (tkKf t S f k).2.2 ∧ (tkKf t S f k).2.2 ≤ n := by
    intro f
    induction f with
    | zero => intro k; exact h
    | succ f ih =>
      intro k
      show 0 ≤ (if (tkW t (kw k) S).1 = 1 then ((k : Int), (tkW t (kw k) S).2) else tkKf t S f (k + 1)).2.2 ∧ (if (tkW t (kw k) S).1 = 1 then ((k : Int), (tkW t (kw k) S).2) else tkKf t S f (k + 1)).2.2 ≤ n
      split
      · exact tkW_b hx h
      · exact ih _
  exact key 6 0
theorem tkA_p {t : Int → Int} {n : Int} {S : RSt} (hx : TXe t n) (h : 0 ≤ S.2 ∧ S.2 ≤ n) : 0 ≤ (tkA t S).2.2 ∧ (tkA t S).2.2 ≤ n := by
  unfold tkA
  split
  · exact tkW_b hx h
  · split
    · exact tkW_b hx h
    · exact h
theorem rS9_b {t : Int → Int} {n : Int} (hx : TXe t n) (hn : 0 ≤ n) : 0 ≤ (rS9 t).2.2 ∧ (rS9 t).2.2 ≤ n := by
  have b1 : 0 ≤ (rS1 t).2.2 ∧ (rS1 t).2.2 ≤ n := tkK_p hx (bl_p9 hx ⟨by omega, hn⟩)
  have b2 : 0 ≤ (rS2 t).2.2 ∧ (rS2 t).2.2 ≤ n := tkN_p hx b1
  have b3 : 0 ≤ (rS3 t).2.2 ∧ (rS3 t).2.2 ≤ n := tkN_p hx b2
  have b4 : 0 ≤ (rS4 t).2.2 ∧ (rS4 t).2.2 ≤ n := by
    unfold rS4
    split
    · exact tkN_p hx b3
    · exact b3
  have b5 : 0 ≤ (rS5 t).2.2 ∧ (rS5 t).2.2 ≤ n := by
    unfold rS5
    split
    · exact tkN_p hx b4
    · exact b4
  have b6 : 0 ≤ (rS6 t).2.2 ∧ (rS6 t).2.2 ≤ n := by
    unfold rS6
    split
    · exact tkN_p hx b5
    · exact b5
  have b7 : 0 ≤ (rS7 t).2.2 ∧ (rS7 t).2.2 ≤ n := by
    unfold rS7
    split
    · exact tkA_p hx b6
    · exact b6
  have b8 : 0 ≤ (rS8 t).2.2 ∧ (rS8 t).2.2 ≤ n := tkW_b hx b7
  unfold rS9
  split
  · exact tkN_p hx (tkW_b hx b8)
  · exact tkW_b hx b8
