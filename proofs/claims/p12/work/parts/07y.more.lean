theorem xrA (f : Nat → Int32) (z : Int) : -2147483648 ≤ aI f z ∧ aI f z < 2147483648 := xr (f z.toNat)
theorem xz01 {x : Int32} {z : Int} (h : xok 3 x) (e : x.toInt = z) : z = 0 ∨ z = 1 := by
  have h2 : narrow .boolean (.int x) = .int x := h
  have h3 : x &&& 1 = x := by
    have h4 : (Value.int (x &&& 1)) = Value.int x := h2
    exact Value.int.inj h4
  subst e
  have key : ∀ i, i < 32 → bt x i = (bt x i && decide (i = 0)) := fun i hi => by
    have q := congrArg (fun y => bt y i) h3
    simp only [b_and, b_1 i hi] at q
    exact q.symm
  rw [bt01 (fun i h1 h2 => by rw [key i h2, decide_eq_false (by omega)]; simp)]
  split
  · exact Or.inr rfl
  · exact Or.inl rfl
theorem RO.has {r b : Int → Int} (h : RO r b) {t k x : Int} (hx : x = bI (b t) k) (h0 : 0 ≤ t ∧ t < 3 ∧ 0 ≤ k ∧ k < 30) : (x = 1 ∧ cel r t k 0 ≠ -2000) ∨ (x = 0 ∧ cel r t k 0 = -2000) := by
  obtain ⟨h1, -⟩ := h.1 t k h0.1 h0.2.1 h0.2.2.1 h0.2.2.2
  rw [cel_in (by omega), Int.mul_zero, Int.add_zero]
  rcases bI01 (b t) k with e | e
  · rw [e] at hx h1
    refine Or.inr ⟨hx, ?_⟩
    by_cases q : r (90 * t + k) = -2000
    · exact q
    · exact absurd (h1.mpr q) (by decide)
  · rw [e] at hx h1
    exact Or.inl ⟨hx, h1.mp rfl⟩
theorem RO.okc {r b : Int → Int} (h : RO r b) (t k c : Int) : okv (cel r t k c) := by
  unfold cel
  split
  · exact h.2.1 _ (by omega) (by omega)
  · exact Or.inl rfl
theorem RO.absent {r b : Int → Int} (h : RO r b) (t k c : Int) (hc : 0 ≤ c ∧ c < 3) : cel r t k c = -2000 ↔ cel r t k 0 = -2000 := by
  by_cases g : 0 ≤ t ∧ t < 3 ∧ 0 ≤ k ∧ k < 30
  · rw [cel_in (by omega), cel_in (by omega), Int.mul_zero, Int.add_zero]
    exact (h.1 t k g.1 g.2.1 g.2.2.1 g.2.2.2).2 c hc.1 hc.2
  · rw [cel_out (by omega), cel_out (by omega)]
