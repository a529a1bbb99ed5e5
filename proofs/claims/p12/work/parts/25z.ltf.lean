/-! ===== the late ones of a list, in order ===== -/
def qP (G : XG) (F : Nat → Nat → Nat) (a n : Nat) : List Qt := lst (qt (G.2.1 (F a 0)) (G.2.1 (F a 1)) (G.2.1 (F a 2)) (G.2.1 (F a 3)) (G.2.1 (F a 4)) (G.2.1 (F a 5))) n
theorem qP_s (G : XG) (F : Nat → Nat → Nat) (a n : Nat) : qP G F a (n + 1) = qP G F a n ++ [qt (G.2.1 (F a 0)) (G.2.1 (F a 1)) (G.2.1 (F a 2)) (G.2.1 (F a 3)) (G.2.1 (F a 4)) (G.2.1 (F a 5)) n] := lst_s _ _
theorem qP_L (G : XG) (F : Nat → Nat → Nat) (a : Nat) : qP G F a (G.1 a 6).toInt.toNat = qL G F a := rfl
theorem qP_take (G : XG) (F : Nat → Nat → Nat) (a : Nat) {n : Nat} (h : (n : Int) ≤ (G.1 a 6).toInt) : qP G F a n = (qL G F a).take n := by
  refine List.ext_getElem? (fun i => ?_)
  rw [List.getElem?_take]
  by_cases g : i < n
  · rw [if_pos g]
    exact (lst_get _ g).trans (lst_get _ (show i < (G.1 a 6).toInt.toNat by omega)).symm
  · rw [if_neg g]
    refine List.getElem?_eq_none ?_
    have e : (qP G F a n).length = n := lst_len _ _
    omega
def ltF (l : List Qt) : List Qt := l.filter (fun x => decide (x.2.2.2.2.1 ≠ 0))
theorem ltF_y {l : List Qt} {x : Qt} (h : x.2.2.2.2.1 ≠ 0) : ltF (l ++ [x]) = ltF l ++ [x] := by
  unfold ltF
  rw [List.filter_append, List.filter_cons_of_pos (by exact decide_eq_true h), List.filter_nil]
theorem ltF_n {l : List Qt} {x : Qt} (h : x.2.2.2.2.1 = 0) : ltF (l ++ [x]) = ltF l := by
  unfold ltF
  rw [List.filter_append, List.filter_cons_of_neg (by intro q; exact of_decide_eq_true q h), List.filter_nil, List.append_nil]
/-- what of w was asked, and whether all of it held -/
def AskR (w l : List Qt) (ok : Int) : Prop := (ok = 1 ∧ l = ltF w) ∨ (ok = 0 ∧ ∃ (n : Nat) (x : Qt), w[n]? = some x ∧ x.2.2.2.2.1 ≠ 0 ∧ x.2.2.2.2.2 ≠ 0 ∧ (∀ (j : Nat) (y : Qt), j < n → w[j]? = some y → y.2.2.2.2.1 ≠ 0 → y.2.2.2.2.2 = 0) ∧ l = ltF (w.take (n + 1)))
theorem AskR_n {G : XG} {F : Nat → Nat → Nat} {p : Nat} {l : List Qt} {n : Nat} (h0 : (n : Int) < (G.1 p 6).toInt) (h1 : aI (G.2.1 (F p 4)) (n : Int) ≠ 0) (h2 : aI (G.2.1 (F p 5)) (n : Int) ≠ 0) (h3 : ∀ j : Int, 0 ≤ j → j < (n : Int) → aI (G.2.1 (F p 4)) j ≠ 0 → aI (G.2.1 (F p 5)) j = 0) (h4 : l = ltF (qP G F p (n + 1))) : AskR (qL G F p) l 0 := by
  refine Or.inr ⟨rfl, n, _, lst_get _ (show n < (G.1 p 6).toInt.toNat by omega), h1, h2, fun j y hj hy a => ?_, ?_⟩
  · obtain ⟨_, rfl⟩ := qL_get hy
    exact h3 (j : Int) (by omega) (by omega) a
  · rw [h4, qP_take G F p (by omega)]
