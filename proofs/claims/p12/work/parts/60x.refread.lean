/-! the reference's reader -/
theorem rdm_w0 {t : Int → Int} {n : Int} {S : RSt} {g rd pl p e : Int} {w : List Int} (h : RdM t n S g rd pl) (hp : p = rn cBl t rd) (he : e = rn cLt t p) (hr : g = 0 ∨ e - p ≠ (w.length : Int) ∨ ∃ i : Nat, i < w.length ∧ t (p + (i : Int)) ≠ w.getD i 0) : ¬ (S.1 = 1 ∧ wOk t S.2 w) := by
  rintro ⟨h1, h2⟩
  have s2 := h.2.2.1 h1
  rw [← hp] at s2
  rw [s2] at h2
  have hg := h.2.1.mpr h1
  rcases hr with q | q | ⟨i, hi, q⟩
  · exact hg q
  · have := h2.1
    omega
  · exact q (h2.2 i hi)
theorem rdm_w1 {t : Int → Int} {n : Int} {S : RSt} {g rd pl p e : Int} {w : List Int} (h : RdM t n S g rd pl) (hp : p = rn cBl t rd) (he : e = rn cLt t p) (hg : g ≠ 0) (hl : e - p = (w.length : Int)) (hc : ∀ i : Nat, i < w.length → t (p + (i : Int)) = w.getD i 0) : S.1 = 1 ∧ wOk t S.2 w := by
  have h1 := h.2.1.mp hg
  have s2 := h.2.2.1 h1
  rw [← hp] at s2
  refine ⟨h1, ?_, by rw [s2]; exact hc⟩
  rw [s2]
  omega
/-- it is well, and reads at rd -/
theorem rdm_st {t : Int → Int} {n : Int} {S : RSt} {g rd pl : Int} (hx : TXe t n) (hS : S = (1, rn cBl t rd)) (hg : g ≠ 0) (hr : 0 ≤ rd ∧ rd ≤ n) : RdM t n S g rd pl := by
  subst hS
  have hb := rn_in (P := cBl) (t := t) (n := n) (z := rd) (by unfold cBl; decide) hx hr.2
  exact ⟨Or.inr rfl, ⟨fun _ => rfl, fun _ => hg⟩, fun _ => rfl, fun q => absurd (show (1 : Int) = 0 from q) (by decide), hr, by show 0 ≤ rn cBl t rd ∧ rn cBl t rd ≤ n; omega⟩
theorem rdm_bad {t : Int → Int} {n : Int} {S : RSt} {g rd pl : Int} {p : Int} (hS : S = (0, p)) (hg : g = 0) (hp : pl = p) (hr : 0 ≤ rd ∧ rd ≤ n) (hb : 0 ≤ p ∧ p ≤ n) : RdM t n S g rd pl := by
  subst hS
  exact ⟨Or.inl rfl, ⟨fun q => absurd hg q, fun q => absurd (show (0 : Int) = 1 from q) (by decide)⟩, fun q => absurd (show (0 : Int) = 1 from q) (by decide), fun _ => hp.symm, hr, hb⟩
/-- the words that the reference has -/
def WDo (G : XG) (F : Nat → Nat → Nat) (a : Nat) : Prop := ∀ i : Nat, i < 10 → ∀ j : Nat, j < (kw i).length → aI (G.2.1 (F a (25 + i))) (j : Int) = (kw i).getD j 0
theorem kw_r : ∀ i : Nat, i < 10 → ∀ j : Nat, j < 8 → 0 ≤ (kw i).getD j 0 ∧ (kw i).getD j 0 ≤ 127 := by decide
theorem WDo.w {G : XG} {F : Nat → Nat → Nat} {a : Nat} (h : WDo G F a) {i n : Nat} (hi : i < 10) (hn : (kw i).length = n) : (kw i).length = n ∧ ∀ j : Nat, j < n → aI (G.2.1 (F a (25 + i))) (j : Int) = (kw i).getD j 0 ∧ 0 ≤ (kw i).getD j 0 ∧ (kw i).getD j 0 ≤ 127 := by
  refine ⟨hn, fun j hj => ⟨h i hi j (by omega), kw_r i hi j ?_⟩⟩
  have := (kw_b i hi).2
  omega
theorem XWd.n {K : Nat → Nat} {a n k : Nat} (h : XWd K a n) (hk : K a = k) : n = k - 43 := by
  rcases h with ⟨h1, h2⟩ | ⟨h1, h2⟩ | ⟨h1, h2⟩ | ⟨h1, h2⟩ | ⟨h1, h2⟩ <;> omega
theorem num_b {x y : Int} (h : (x = 0 ∧ y = 0) ∨ (x = 1 ∧ 0 ≤ y ∧ y ≤ 9) ∨ (x = 2 ∧ 0 ≤ y ∧ y ≤ 99) ∨ (x = 3 ∧ 0 ≤ y ∧ y ≤ 999) ∨ (x = 4 ∧ 0 ≤ y ∧ y ≤ 9999) ∨ (5 ≤ x ∧ 0 ≤ y ∧ y ≤ 999999)) : 0 ≤ y ∧ y ≤ 999999 := by omega
