/-! a row of the reference under another key -/
theorem mw_mov {f g : Nat → Int32} {b t k k2 I J : Int} (h0 : 0 ≤ t ∧ t < 3 ∧ 0 ≤ k ∧ k < 30 ∧ 0 ≤ k2 ∧ k2 < 30) (hb : 0 ≤ b) (hI : I = b + 4 * (30 * t + k)) (hJ : J = b + 4 * (30 * t + k2)) (hu : ∀ z : Int, 0 ≤ z → aI g z = if z = I then 0 else if J ≤ z ∧ z < J + 4 then aI f (z - J + I) else aI f z) : mw g b = rmv (mw f b) t k k2 := by
  funext z
  show mw g b z = if 0 ≤ z - (90 * t + k) ∧ (z - (90 * t + k)) % 30 = 0 ∧ (z - (90 * t + k)) / 30 < 3 then -2000 else if 0 ≤ z - (90 * t + k2) ∧ (z - (90 * t + k2)) % 30 = 0 ∧ (z - (90 * t + k2)) / 30 < 3 then mw f b (z - k2 + k) else mw f b z
  rw [mw_z g, mw_z f b z, mw_z f b (z - k2 + k)]
  by_cases hz : 0 ≤ z ∧ z < 270
  · rw [if_pos hz, if_pos hz, hu (b + 4 * (30 * (z / 90) + z % 30)) (by omega), hu (b + 4 * (30 * (z / 90) + z % 30) + 1 + z / 30 % 3) (by omega)]
    by_cases e : z / 90 = t ∧ z % 30 = k
    · rw [if_pos (c := b + 4 * (30 * (z / 90) + z % 30) = I) (by omega), if_neg (by decide), if_pos (by omega)]
    · rw [if_neg (c := b + 4 * (30 * (z / 90) + z % 30) = I) (by omega), if_neg (c := 0 ≤ z - (90 * t + k) ∧ (z - (90 * t + k)) % 30 = 0 ∧ (z - (90 * t + k)) / 30 < 3) (by omega), if_neg (c := b + 4 * (30 * (z / 90) + z % 30) + 1 + z / 30 % 3 = I) (by omega)]
      by_cases e2 : z / 90 = t ∧ z % 30 = k2
      · have q1 : (z - k2 + k) / 90 = t := by omega
        have q2 : (z - k2 + k) % 30 = k := by omega
        have q3 : (z - k2 + k) / 30 % 3 = z / 30 % 3 := by omega
        rw [if_pos (c := J ≤ b + 4 * (30 * (z / 90) + z % 30) ∧ b + 4 * (30 * (z / 90) + z % 30) < J + 4) (by omega), if_pos (c := J ≤ b + 4 * (30 * (z / 90) + z % 30) + 1 + z / 30 % 3 ∧ b + 4 * (30 * (z / 90) + z % 30) + 1 + z / 30 % 3 < J + 4) (by omega), if_pos (c := 0 ≤ z - (90 * t + k2) ∧ (z - (90 * t + k2)) % 30 = 0 ∧ (z - (90 * t + k2)) / 30 < 3) (by omega), if_pos (c := 0 ≤ z - k2 + k ∧ z - k2 + k < 270) (by omega), q1, q2, q3]
        have w1 : b + 4 * (30 * (z / 90) + z % 30) - J + I = b + 4 * (30 * t + k) := by omega
        have w2 : b + 4 * (30 * (z / 90) + z % 30) + 1 + z / 30 % 3 - J + I = b + 4 * (30 * t + k) + 1 + z / 30 % 3 := by omega
        rw [w1, w2]
      · rw [if_neg (c := J ≤ b + 4 * (30 * (z / 90) + z % 30) ∧ b + 4 * (30 * (z / 90) + z % 30) < J + 4) (by omega), if_neg (c := J ≤ b + 4 * (30 * (z / 90) + z % 30) + 1 + z / 30 % 3 ∧ b + 4 * (30 * (z / 90) + z % 30) + 1 + z / 30 % 3 < J + 4) (by rcases (by omega : z / 30 % 3 = 0 ∨ z / 30 % 3 = 1 ∨ z / 30 % 3 = 2) with w | w | w <;> rw [w] <;> omega), if_neg (c := 0 ≤ z - (90 * t + k2) ∧ (z - (90 * t + k2)) % 30 = 0 ∧ (z - (90 * t + k2)) / 30 < 3) (by omega)]
  · rw [if_neg hz, if_neg (c := 0 ≤ z - (90 * t + k) ∧ (z - (90 * t + k)) % 30 = 0 ∧ (z - (90 * t + k)) / 30 < 3) (by omega), if_neg (c := 0 ≤ z - (90 * t + k2) ∧ (z - (90 * t + k2)) % 30 = 0 ∧ (z - (90 * t + k2)) / 30 < 3) (by omega), if_neg hz]
theorem RM.mov {f g : Nat → Int32} {b t k k2 I J : Int} (h : RM f b) (h0 : 0 ≤ t ∧ t < 3 ∧ 0 ≤ k ∧ k < 30 ∧ 0 ≤ k2 ∧ k2 < 30) (hb : 0 ≤ b) (hI : I = b + 4 * (30 * t + k)) (hJ : J = b + 4 * (30 * t + k2)) (hu : ∀ z : Int, 0 ≤ z → aI g z = if z = I then 0 else if J ≤ z ∧ z < J + 4 then aI f (z - J + I) else aI f z) : RM g b := by
  intro t2 q a1 a2 a3 a4
  rw [hu (b + 4 * (30 * t2 + q)) (by omega)]
  by_cases e : b + 4 * (30 * t2 + q) = I
  · rw [if_pos e]; exact Or.inl rfl
  · rw [if_neg e]
    by_cases e2 : J ≤ b + 4 * (30 * t2 + q) ∧ b + 4 * (30 * t2 + q) < J + 4
    · rw [if_pos e2, show b + 4 * (30 * t2 + q) - J + I = b + 4 * (30 * t + k) from by omega]
      rcases h t k h0.1 h0.2.1 h0.2.2.1 h0.2.2.2.1 with w | ⟨w, w2⟩
      · exact Or.inl w
      · refine Or.inr ⟨w, fun c c0 c1 => ?_⟩
        rw [hu _ (by omega), if_neg (by omega), if_pos (by omega), show b + 4 * (30 * t2 + q) + 1 + c - J + I = b + 4 * (30 * t + k) + 1 + c from by omega]
        exact w2 c c0 c1
    · rw [if_neg e2]
      rcases h t2 q a1 a2 a3 a4 with w | ⟨w, w2⟩
      · exact Or.inl w
      · refine Or.inr ⟨w, fun c c0 c1 => ?_⟩
        rw [hu _ (by omega), if_neg (by omega), if_neg (by omega)]
        exact w2 c c0 c1
/-- the first n of four numbers are moved -/
def MVp (f g : Nat → Int32) (I J n : Int) : Prop := ∀ z : Int, 0 ≤ z → aI g z = if J ≤ z ∧ z < J + n then aI f (z - J + I) else aI f z
theorem MVp.s {f g g2 : Nat → Int32} {I J n x y X : Int} (h : MVp f g I J n) (hn : 0 ≤ n ∧ n < 4) (hIJ : I + 4 ≤ J ∨ J + 4 ≤ I) (hI : 0 ≤ I) (hu : ∀ z : Int, 0 ≤ z → aI g2 z = if z = x then X else aI g z) (hx : x = J + n) (hX : X = aI g y) (hy : y = I + n) : MVp f g2 I J (n + 1) := by
  intro z hz
  have hX2 : X = aI f (I + n) := by
    rw [hX, hy, h (I + n) (by omega), if_neg (by omega)]
  rw [hu z hz, h z hz]
  by_cases e : z = x
  · rw [if_pos e, if_pos (by omega), hX2, show z - J + I = I + n from by omega]
  · rw [if_neg e]
    by_cases g : J ≤ z ∧ z < J + n
    · rw [if_pos g, if_pos (by omega)]
    · rw [if_neg g, if_neg (by omega)]
theorem MVp.all {f g g2 : Nat → Int32} {I J x : Int} (h : MVp f g I J 4) (hu : ∀ z : Int, 0 ≤ z → aI g2 z = if z = x then 0 else aI g z) (hx : x = I) : ∀ z : Int, 0 ≤ z → aI g2 z = if z = I then 0 else if J ≤ z ∧ z < J + 4 then aI f (z - J + I) else aI f z := by
  intro z hz
  rw [hu z hz, hx, h z hz]
