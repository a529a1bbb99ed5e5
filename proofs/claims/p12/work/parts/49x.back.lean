/-! a question of a rule that is not late fails -/
def PFl (f : Nat → Int32) (r : Int → Int) : Prop := ∃ q s : Int, (0 ≤ q ∧ q ≤ 11) ∧ aI f (10 * q + 0) ≠ -1 ∧ aI f (10 * q + 6) = 0 ∧ sbj (aI f (10 * q + 0)) s ∧ fzq f r q s = 1
theorem ordN_all {pr : Nat → Bool} {rk : Nat → Int} {n q : Nat} (hq : q < n) (hp : pr q = true) : ∃ i, i < (ordN pr rk n).1 ∧ (ordN pr rk n).2 i = q := by
  induction n with
  | zero => omega
  | succ n ih =>
    cases hn : pr n with
    | false =>
      rw [ordN_f hn]
      exact ih (by
        have : q ≠ n := fun e => by rw [e, hn] at hp; cases hp
        omega)
    | true =>
      rw [ordN_t hn]
      have hpos : posR (fun i => rk ((ordN pr rk n).2 i)) (rk n) (ordN pr rk n).1 ≤ (ordN pr rk n).1 := posR_le _ _ _
      by_cases e : q = n
      · subst e
        refine ⟨posR (fun i => rk ((ordN pr rk q).2 i)) (rk q) (ordN pr rk q).1, Nat.lt_succ_of_le hpos, ?_⟩
        show insF _ _ _ _ = q
        unfold insF
        simp
      · obtain ⟨i, h1, h2⟩ := ih (by omega)
        by_cases g : i < posR (fun i => rk ((ordN pr rk n).2 i)) (rk n) (ordN pr rk n).1
        · refine ⟨i, Nat.lt_succ_of_lt h1, ?_⟩
          show insF _ _ _ _ = q
          unfold insF
          rw [if_pos g]
          exact h2
        · refine ⟨i + 1, Nat.succ_lt_succ h1, ?_⟩
          show insF _ _ _ _ = q
          unfold insF
          rw [if_neg (by omega), if_neg (by omega)]
          exact h2
