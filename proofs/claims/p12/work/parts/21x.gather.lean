/-! ===== lists of questions: what is gathered, which fails first ===== -/
/-- of one rule, if it is among those that are wanted (0: all, 1: late ones, else prompt ones) -/
noncomputable def gaq (G : XG) (r1 r2 : Int → Int) (w : Int) (o : Option Nat) : List Qt := match o with
  | none => []
  | some q => if w = 0 ∨ ((G.1 q 9).toInt = 1 ∧ w = 1) ∨ ((G.1 q 9).toInt = 0 ∧ w ≠ 1) then uqs r1 r2 (G.1 q) else []
noncomputable def gaL (G : XG) (f : Nat → Option Nat) (r1 r2 : Int → Int) (w : Int) : Nat → List Qt
  | 0 => []
  | n + 1 => gaL G f r1 r2 w n ++ gaq G r1 r2 w (f n)
theorem gaL_s (G : XG) (f : Nat → Option Nat) (r1 r2 : Int → Int) (w : Int) (n : Nat) : gaL G f r1 r2 w (n + 1) = gaL G f r1 r2 w n ++ gaq G r1 r2 w (f n) := rfl
theorem gaq_t {G : XG} {r1 r2 : Int → Int} {w : Int} {q : Nat} (h : w = 0 ∨ ((G.1 q 9).toInt = 1 ∧ w = 1) ∨ ((G.1 q 9).toInt = 0 ∧ w ≠ 1)) : gaq G r1 r2 w (some q) = uqs r1 r2 (G.1 q) := if_pos h
theorem gaq_f {G : XG} {r1 r2 : Int → Int} {w : Int} {q : Nat} (h : ¬ (w = 0 ∨ ((G.1 q 9).toInt = 1 ∧ w = 1) ∨ ((G.1 q 9).toInt = 0 ∧ w ≠ 1))) : gaq G r1 r2 w (some q) = [] := if_neg h
/-- the place of the first that fails, -1: none -/
def ffL : List Qt → Int
  | [] => -1
  | x :: l => if x.2.2.2.2.2 ≠ 0 then 0 else if ffL l = -1 then -1 else ffL l + 1
theorem ffL_ge : ∀ l : List Qt, -1 ≤ ffL l
  | [] => Int.le_refl _
  | x :: l => by
    have := ffL_ge l
    unfold ffL
    split
    · decide
    · split
      · decide
      · omega
theorem ffL_eq : ∀ (l : List Qt) (r : Int), (r = -1 ∨ (0 ≤ r ∧ ∃ x, l[r.toNat]? = some x ∧ x.2.2.2.2.2 ≠ 0)) → (∀ (j : Nat) (x : Qt), l[j]? = some x → (r = -1 ∨ (j : Int) < r) → x.2.2.2.2.2 = 0) → ffL l = r
  | [], r, h1, _ => by
    rcases h1 with h | ⟨_, x, h, _⟩
    · rw [h]; rfl
    · cases h
  | y :: l, r, h1, h2 => by
    unfold ffL
    rcases h1 with h | ⟨h0, x, hx, hf⟩
    · subst h
      have hy := h2 0 y rfl (Or.inl rfl)
      rw [if_neg (fun z => z hy), ffL_eq l (-1) (Or.inl rfl) (fun j x hj _ => h2 (j + 1) x hj (Or.inl rfl)), if_pos rfl]
    · by_cases e : r = 0
      · subst e
        cases hx
        rw [if_pos hf]
      · have hy := h2 0 y rfl (Or.inr (by omega))
        have hr : r.toNat = (r - 1).toNat + 1 := by omega
        rw [hr] at hx
        have ih := ffL_eq l (r - 1) (Or.inr ⟨by omega, x, hx, hf⟩) (fun j z hj hl => h2 (j + 1) z hj (Or.inr (by omega)))
        rw [if_neg (fun z => z hy), ih, if_neg (by omega)]
        omega
theorem ffL_no {l : List Qt} (h : ffL l = -1) : ∀ x, x ∈ l → x.2.2.2.2.2 = 0 := by
  induction l with
  | nil => intro x hx; cases hx
  | cons y l ih =>
    intro x hx
    unfold ffL at h
    split at h
    · omega
    · rename_i hy
      split at h
      · rename_i hl
        rcases List.mem_cons.mp hx with e | e
        · rw [e]; exact Classical.byContradiction hy
        · exact ih hl x e
      · have := ffL_ge l
        omega
theorem ffL_yes {l : List Qt} (h : ffL l ≠ -1) : ∃ x, x ∈ l ∧ x.2.2.2.2.2 ≠ 0 := by
  induction l with
  | nil => exact absurd rfl h
  | cons y l ih =>
    by_cases hy : y.2.2.2.2.2 ≠ 0
    · exact ⟨y, List.mem_cons_self, hy⟩
    · unfold ffL at h
      rw [if_neg hy] at h
      have hl : ffL l ≠ -1 := fun e => h (by rw [if_pos e])
      obtain ⟨x, hx, hf⟩ := ih hl
      exact ⟨x, List.mem_cons_of_mem _ hx, hf⟩
theorem qL_get {G : XG} {F : Nat → Nat → Nat} {a : Nat} {j : Nat} {x : Qt} (h : (qL G F a)[j]? = some x) : (j : Int) < (G.1 a 6).toInt ∧ x = qt (G.2.1 (F a 0)) (G.2.1 (F a 1)) (G.2.1 (F a 2)) (G.2.1 (F a 3)) (G.2.1 (F a 4)) (G.2.1 (F a 5)) j := by
  unfold qL at h
  have hl : j < (G.1 a 6).toInt.toNat := by
    apply Classical.byContradiction
    intro q
    rw [List.getElem?_eq_none (by rw [lst_len]; omega)] at h
    cases h
  rw [lst_get _ hl] at h
  exact ⟨by omega, (Option.some.inj h).symm⟩
theorem qL_at {G : XG} {F : Nat → Nat → Nat} {a : Nat} {z : Int} (h : 0 ≤ z ∧ z < (G.1 a 6).toInt) : (qL G F a)[z.toNat]? = some (qt (G.2.1 (F a 0)) (G.2.1 (F a 1)) (G.2.1 (F a 2)) (G.2.1 (F a 3)) (G.2.1 (F a 4)) (G.2.1 (F a 5)) z.toNat) := lst_get _ (by omega)
/-- what firstFailing tells, of the list -/
theorem ff_list {G : XG} {F : Nat → Nat → Nat} {a : Nat} {r : Int} (h1 : r = -1 ∨ (0 ≤ r ∧ r < (G.1 a 6).toInt ∧ aI (G.2.1 (F a 5)) r = 1)) (h2 : ∀ j : Int, 0 ≤ j → j < (G.1 a 6).toInt → (r = -1 ∨ j < r) → aI (G.2.1 (F a 5)) j = 0) : r = ffL (qL G F a) := by
  symm
  refine ffL_eq _ r ?_ (fun j x hj hr => ?_)
  · rcases h1 with h | ⟨a1, a2, a3⟩
    · exact Or.inl h
    · refine Or.inr ⟨a1, _, qL_at ⟨a1, a2⟩, ?_⟩
      show aI (G.2.1 (F a 5)) r ≠ 0
      rw [a3]; decide
  · obtain ⟨hj1, rfl⟩ := qL_get hj
    have := h2 (j : Int) (by omega) hj1 hr
    exact this
