/-! ===== the book as the acts want it ===== -/
theorem A_book.bkx {K : Nat → Nat} {F : Nat → Nat → Nat} {G : XG} {b : Nat} {f : Nat → Int32} (h : A_book K F G b f) : BKx G (G.2.2.1 (F b 0)) (G.2.2.1 (F b 1)) ((G.1 b 2).toInt).toNat := by
  have hs := h.1.sz h.2.2.2.2.2
  obtain ⟨⟨-, b2⟩, -, -, -, -, hL⟩ := h
  rw [hL.ord] at b2
  intro i q hi hq
  have hi2 : i < (ordN (prM f) (rkM f) 12).1 := by omega
  have hin := ordN_in (prM f) (rkM f) 12 i hi2
  have e := b2 i hi2
  rw [hq] at e
  rcases hL _ hin.1 with ⟨a, -⟩ | ⟨y, a, -, c⟩
  · rw [a] at e; cases e
  · rw [a] at e
    have e := Option.some.inj e
    subst e
    obtain ⟨-, c1, -⟩ := c
    exact ⟨by omega, by rw [c1]; exact a⟩
theorem A_book.hib {K : Nat → Nat} {F : Nat → Nat → Nat} {G : XG} {b : Nat} {f : Nat → Int32} {op : Int} {vb vn : Int → Int} {W : List Qt} (h : A_book K F G b f) (hw : A_wait op f vb vn W) : ∀ x, x ∈ W → inBk G (G.2.2.1 (F b 0)) x.1 := by
  intro x hx
  by_cases o : op = 0
  · rw [hw.1 o] at hx
    exact absurd hx List.not_mem_nil
  · have e := hw.2 o
    rw [← lw_1, ← gaL_fuO h.2.2.2.2.2 h.1 (Or.inr (Or.inl rfl))] at e
    rw [e] at hx
    exact h.bkx.ga x hx
