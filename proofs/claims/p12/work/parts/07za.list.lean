/-! ===== lists out of rows; the order of the rules ===== -/
def lst {α : Type} (f : Nat → α) (n : Nat) : List α := (List.range n).map f
theorem lst_0 {α : Type} (f : Nat → α) : lst f 0 = [] := rfl
theorem lst_s {α : Type} (f : Nat → α) (n : Nat) : lst f (n + 1) = lst f n ++ [f n] := by
  unfold lst
  rw [List.range_succ, List.map_append]
  rfl
theorem lst_len {α : Type} (f : Nat → α) (n : Nat) : (lst f n).length = n := by
  unfold lst
  rw [List.length_map, List.length_range]
theorem lst_get {α : Type} (f : Nat → α) {n i : Nat} (h : i < n) : (lst f n)[i]? = some (f i) := by
  unfold lst
  rw [List.getElem?_map, List.getElem?_range h]
  rfl
theorem lst_congr {α : Type} {f g : Nat → α} {n : Nat} (h : ∀ i, i < n → f i = g i) : lst f n = lst g n := by
  unfold lst
  exact List.map_congr_left (fun i hi => h i (List.mem_range.mp hi))
theorem lst_push {α : Type} {f g : Nat → α} {n : Nat} {x : α} (h : ∀ i, i < n → g i = f i) (hx : g n = x) : lst g (n + 1) = lst f n ++ [x] := by
  rw [lst_s, lst_congr h, hx]
/-- number, subject, before, after, late, fails -/
abbrev Qt : Type := Int × Int × Int × Int × Int × Int
def qt (f0 f1 f2 f3 f4 f5 : Nat → Int32) (i : Nat) : Qt := ((f0 i).toInt, (f1 i).toInt, (f2 i).toInt, (f3 i).toInt, (f4 i).toInt, (f5 i).toInt)
/-- the place behind the last of the first n that is not above v -/
def posR (rk : Nat → Int) (v : Int) : Nat → Nat
  | 0 => 0
  | n + 1 => if v < rk n then posR rk v n else n + 1
theorem posR_le (rk : Nat → Int) (v : Int) (n : Nat) : posR rk v n ≤ n := by
  induction n with
  | zero => exact Nat.le_refl _
  | succ n ih =>
    unfold posR
    split <;> omega
theorem posR_congr {rk rk2 : Nat → Int} {v : Int} {n : Nat} (h : ∀ i, i < n → rk i = rk2 i) : posR rk v n = posR rk2 v n := by
  induction n with
  | zero => rfl
  | succ n ih =>
    unfold posR
    rw [h n (by omega), ih (fun i hi => h i (by omega))]
def insF {α : Type} (f : Nat → α) (p : Nat) (x : α) : Nat → α := fun i => if i < p then f i else if i = p then x else f (i - 1)
/-- of the numbers below n those that are, by rank: how many, and which -/
def ordN (pr : Nat → Bool) (rk : Nat → Int) : Nat → Nat × (Nat → Nat)
  | 0 => (0, fun _ => 0)
  | n + 1 => if pr n then ((ordN pr rk n).1 + 1, insF (ordN pr rk n).2 (posR (fun i => rk ((ordN pr rk n).2 i)) (rk n) (ordN pr rk n).1) n) else ordN pr rk n
theorem ordN_le (pr : Nat → Bool) (rk : Nat → Int) (n : Nat) : (ordN pr rk n).1 ≤ n := by
  induction n with
  | zero => exact Nat.le_refl _
  | succ n ih =>
    unfold ordN
    split
    · show (ordN pr rk n).1 + 1 ≤ n + 1
      omega
    · omega
theorem ordN_in (pr : Nat → Bool) (rk : Nat → Int) (n : Nat) : ∀ i, i < (ordN pr rk n).1 → (ordN pr rk n).2 i < n ∧ pr ((ordN pr rk n).2 i) = true := by
  induction n with
  | zero => intro i hi; exact absurd hi (Nat.not_lt_zero i)
  | succ n ih =>
    intro i hi
    unfold ordN at hi ⊢
    split at hi
    · rename_i hp
      rw [if_pos hp]
      have hl := posR_le (fun i => rk ((ordN pr rk n).2 i)) (rk n) (ordN pr rk n).1
      generalize posR (fun i => rk ((ordN pr rk n).2 i)) (rk n) (ordN pr rk n).1 = p at *
      have hi2 : i < (ordN pr rk n).1 + 1 := hi
      show insF _ _ _ _ < n + 1 ∧ pr (insF _ _ _ _) = true
      unfold insF
      by_cases h1 : i < p
      · rw [if_pos h1]
        have := ih i (by omega)
        exact ⟨by omega, this.2⟩
      · rw [if_neg h1]
        by_cases h2 : i = p
        · rw [if_pos h2]
          exact ⟨by omega, hp⟩
        · rw [if_neg h2]
          have := ih (i - 1) (by omega)
          exact ⟨by omega, this.2⟩
    · rename_i hp
      rw [if_neg hp]
      have := ih i hi
      exact ⟨by omega, this.2⟩
/-- the entries behind a place are one up, those ahead of it as they were -/
def shf {α : Type} (f g : Nat → α) (p n : Nat) : Prop := (∀ i, i < p → g i = f i) ∧ ∀ i, p < i → i ≤ n → g i = f (i - 1)
theorem shf_0 {α : Type} (f : Nat → α) (n : Nat) : shf f f n n := ⟨fun _ _ => rfl, fun i h1 h2 => absurd h1 (by omega)⟩
theorem shf_s {α : Type} {f g g2 : Nat → α} {p n : Nat} (h : shf f g (p + 1) n) (h0 : g2 (p + 1) = g p) (h1 : ∀ i, i ≠ p + 1 → g2 i = g i) : shf f g2 p n := by
  refine ⟨fun i hi => ?_, fun i h2 h3 => ?_⟩
  · rw [h1 i (by omega)]
    exact h.1 i (by omega)
  · by_cases e : i = p + 1
    · subst e
      rw [h0]
      exact h.1 p (by omega)
    · rw [h1 i e]
      exact h.2 i (by omega) h3
theorem shf_ins {α : Type} {f g g2 : Nat → α} {p n : Nat} {x : α} (h : shf f g p n) (h0 : g2 p = x) (h1 : ∀ i, i ≠ p → g2 i = g i) : ∀ i, i ≤ n → g2 i = insF f p x i := by
  intro i hi
  unfold insF
  by_cases e1 : i < p
  · rw [if_pos e1, h1 i (by omega)]
    exact h.1 i e1
  · rw [if_neg e1]
    by_cases e2 : i = p
    · rw [if_pos e2, e2, h0]
    · rw [if_neg e2, h1 i e2]
      exact h.2 i (by omega) hi
theorem posR_up {rk : Nat → Int} {v : Int} {n : Nat} (h : v < rk n) : posR rk v (n + 1) = posR rk v n := by
  rw [show posR rk v (n + 1) = if v < rk n then posR rk v n else n + 1 from rfl, if_pos h]
theorem posR_here {rk : Nat → Int} {v : Int} {n : Nat} (h : ¬ (v < rk n)) : posR rk v (n + 1) = n + 1 := by
  rw [show posR rk v (n + 1) = if v < rk n then posR rk v n else n + 1 from rfl, if_neg h]
theorem ordN_t {pr : Nat → Bool} {rk : Nat → Int} {n : Nat} (h : pr n = true) : ordN pr rk (n + 1) = ((ordN pr rk n).1 + 1, insF (ordN pr rk n).2 (posR (fun i => rk ((ordN pr rk n).2 i)) (rk n) (ordN pr rk n).1) n) := by
  rw [show ordN pr rk (n + 1) = if pr n then ((ordN pr rk n).1 + 1, insF (ordN pr rk n).2 (posR (fun i => rk ((ordN pr rk n).2 i)) (rk n) (ordN pr rk n).1) n) else ordN pr rk n from rfl, if_pos h]
theorem ordN_f {pr : Nat → Bool} {rk : Nat → Int} {n : Nat} (h : pr n = false) : ordN pr rk (n + 1) = ordN pr rk n := by
  rw [show ordN pr rk (n + 1) = if pr n then ((ordN pr rk n).1 + 1, insF (ordN pr rk n).2 (posR (fun i => rk ((ordN pr rk n).2 i)) (rk n) (ordN pr rk n).1) n) else ordN pr rk n from rfl, h, if_neg Bool.false_ne_true]
/-- f1 has those of f0 below n in order -/
def ORn (f0 f1 : Nat → Option Nat) (sz : Int) (rk : Nat → Int) (n : Nat) : Prop := sz = ((ordN (fun i => (f0 i).isSome) rk n).1 : Int) ∧ ∀ i, i < (ordN (fun i => (f0 i).isSome) rk n).1 → f1 i = f0 ((ordN (fun i => (f0 i).isSome) rk n).2 i)
theorem ORn.sm {f0 f1 : Nat → Option Nat} {sz : Int} {rk : Nat → Int} {n : Nat} (h : ORn f0 f1 sz rk n) (i : Nat) (hi : (i : Int) < sz) : f1 i ≠ none := by
  have h1 := h.1
  rw [h.2 i (by omega)]
  have := (ordN_in (fun i => (f0 i).isSome) rk n i (by omega)).2
  intro e
  rw [e] at this
  cases this
theorem ORn.skip {f0 f1 : Nat → Option Nat} {sz : Int} {rk : Nat → Int} {n : Nat} (h : ORn f0 f1 sz rk n) (hn : f0 n = none) : ORn f0 f1 sz rk (n + 1) := by
  unfold ORn at h ⊢
  rw [ordN_f (by rw [hn]; rfl)]
  exact h
theorem ORn.step {f0 f1 g1 : Nat → Option Nat} {sz sz2 v : Int} {rk rk2 : Nat → Int} {n q : Nat} (h : ORn f0 f1 sz rk n) (hn : f0 n = some q) (hr : rk n = v) (hk : ∀ j : Nat, (j : Int) < sz → rk2 j = rk ((ordN (fun i => (f0 i).isSome) rk n).2 j)) (hs : sz2 = sz + 1) (hg : ∀ i : Nat, (i : Int) ≤ sz → g1 i = insF f1 (posR rk2 v sz.toNat) (some q) i) : ORn f0 g1 sz2 rk (n + 1) := by
  obtain ⟨h1, h2⟩ := h
  unfold ORn
  rw [ordN_t (by rw [hn]; rfl)]
  have hp : posR rk2 v sz.toNat = posR (fun i => rk ((ordN (fun i => (f0 i).isSome) rk n).2 i)) (rk n) (ordN (fun i => (f0 i).isSome) rk n).1 := by
    rw [hr, show sz.toNat = (ordN (fun i => (f0 i).isSome) rk n).1 from by omega]
    exact posR_congr (fun i hi => hk i (by omega))
  rw [hp] at hg
  refine ⟨by rw [hs, h1]; rfl, fun i hi => ?_⟩
  have hi2 : i < (ordN (fun i => (f0 i).isSome) rk n).1 + 1 := hi
  have hl := posR_le (fun i => rk ((ordN (fun i => (f0 i).isSome) rk n).2 i)) (rk n) (ordN (fun i => (f0 i).isSome) rk n).1
  rw [hg i (by omega)]
  show insF f1 _ _ i = f0 (insF _ _ _ i)
  unfold insF
  generalize posR (fun i => rk ((ordN (fun i => (f0 i).isSome) rk n).2 i)) (rk n) (ordN (fun i => (f0 i).isSome) rk n).1 = p at *
  by_cases e1 : i < p
  · rw [if_pos e1, if_pos e1]
    exact h2 i (by omega)
  · rw [if_neg e1, if_neg e1]
    by_cases e2 : i = p
    · rw [if_pos e2, if_pos e2, hn]
    · rw [if_neg e2, if_neg e2]
      exact h2 (i - 1) (by omega)
