/-! ===== what holds between the two, piece by piece ===== -/
def A_text (n nt : Int) (c mr : Nat → Int32) : Prop := n = nt ∧ (0 ≤ n ∧ n ≤ 80) ∧ tC c n = tM mr n
theorem T_sign {n nt n1 nt1 r r1 : Int} {c mr c1 mr1 : Nat → Int32} {p : Int32} (h : A_text n nt c mr) (t : (76 < n ∧ r = -1 ∧ n1 = n) ∨ (n ≤ 76 ∧ r = n + 4 ∧ n1 = n + 4)) (o : (r = -1 ∧ c1 = c) ∨ (r ≠ -1 ∧ ∀ z : Int, 0 ≤ z → aI c1 z = if n ≤ z ∧ z < n + 4 then bqI p (24 - 8 * (z - n)) else aI c z)) (t2 : (76 < nt ∧ r1 = -1 ∧ nt1 = nt) ∨ (nt ≤ 76 ∧ r1 = nt + 4 ∧ nt1 = nt + 4)) (o2 : (r1 = -1 ∧ mr1 = mr) ∨ (r1 ≠ -1 ∧ ∀ z : Int, 0 ≤ z → aI mr1 z % 256 = if nt ≤ z ∧ z < nt + 4 then bqI p (24 - 8 * (z - nt)) else aI mr z % 256)) : r = r1 ∧ A_text n1 nt1 c1 mr1 := by
  obtain ⟨e0, hb, he⟩ := h
  subst e0
  rcases t with ⟨a1, a2, a3⟩ | ⟨a1, a2, a3⟩
  · rcases t2 with ⟨b1, b2, b3⟩ | ⟨b1, b2, b3⟩
    · rcases o with ⟨-, e⟩ | ⟨q, -⟩
      · rcases o2 with ⟨-, e2⟩ | ⟨q, -⟩
        · rw [e, e2, a3, b3]
          exact ⟨a2.trans b2.symm, rfl, hb, he⟩
        · exact absurd b2 q
      · exact absurd a2 q
    · omega
  · rcases t2 with ⟨b1, b2, b3⟩ | ⟨b1, b2, b3⟩
    · omega
    · rcases o with ⟨q, -⟩ | ⟨-, o⟩
      · omega
      · rcases o2 with ⟨q, -⟩ | ⟨-, o2⟩
        · omega
        · rw [a3, b3]
          refine ⟨a2.trans b2.symm, rfl, by omega, ?_⟩
          funext z
          have hz := congrFun he z
          unfold tC tM at hz ⊢
          by_cases g : 0 ≤ z ∧ z < n + 4
          · rw [if_pos g, if_pos g, o z g.1, o2 z g.1]
            by_cases g2 : n ≤ z ∧ z < n + 4
            · rw [if_pos g2, if_pos g2]
            · rw [if_neg g2, if_neg g2]
              rw [if_pos (by omega), if_pos (by omega)] at hz
              exact hz
          · rw [if_neg g, if_neg g]
theorem T_end {n nt n1 nt1 r r1 p : Int} {c mr : Nat → Int32} (h : A_text n nt c mr) (t : ((p < 0 ∨ n < p) ∧ r = 0 ∧ n1 = n) ∨ ((0 ≤ p ∧ p ≤ n) ∧ r = 1 ∧ n1 = p)) (t2 : ((p < 0 ∨ nt < p) ∧ r1 = 0 ∧ nt1 = nt) ∨ ((0 ≤ p ∧ p ≤ nt) ∧ r1 = 1 ∧ nt1 = p)) : r = r1 ∧ A_text n1 nt1 c mr := by
  obtain ⟨e0, hb, he⟩ := h
  subst e0
  have key : ∀ k : Int, k ≤ n → tC c k = tM mr k := by
    intro k hk
    funext z
    have hz := congrFun he z
    unfold tC tM at hz ⊢
    by_cases g : 0 ≤ z ∧ z < k
    · rw [if_pos g, if_pos g]
      rw [if_pos (by omega), if_pos (by omega)] at hz
      exact hz
    · rw [if_neg g, if_neg g]
  rcases t with ⟨a1, a2, a3⟩ | ⟨a1, a2, a3⟩
  · rcases t2 with ⟨b1, b2, b3⟩ | ⟨b1, b2, b3⟩
    · rw [a3, b3]; exact ⟨a2.trans b2.symm, rfl, hb, he⟩
    · omega
  · rcases t2 with ⟨b1, b2, b3⟩ | ⟨b1, b2, b3⟩
    · omega
    · rw [a3, b3]; exact ⟨a2.trans b2.symm, rfl, by omega, key p a1.2⟩
theorem T_0 (c mr : Nat → Int32) {n n1 : Int} (h : n = 0) (h1 : n1 = 0) : A_text n n1 c mr := by
  subst h h1
  refine ⟨rfl, by decide, ?_⟩
  funext z
  unfold tC tM
  rw [if_neg (by omega), if_neg (by omega)]
/-! the rules -/
def BKu (K : Nat → Nat) (G : XG) (f : Nat → Option Nat) : Prop := ∀ (i q : Nat), f i = some q → K q = 9 ∧ RW (G.1 q)
theorem BKu.r {K : Nat → Nat} {G : XG} {f : Nat → Option Nat} (h : BKu K G f) : BKr K G f := fun i q _ hq => h i q hq
def A_book (K : Nat → Nat) (F : Nat → Nat → Nat) (G : XG) (b : Nat) (f : Nat → Int32) : Prop := BO G F b ∧ BKu K G (G.2.2.1 (F b 0)) ∧ BKu K G (G.2.2.1 (F b 1)) ∧ ACo G (G.2.2.1 (F b 0)) ∧ RV f ∧ LK G (G.2.2.1 (F b 0)) f
theorem A_book.sb {K : Nat → Nat} {F : Nat → Nat → Nat} {G : XG} {b : Nat} {f : Nat → Int32} (h : A_book K F G b f) : 0 ≤ ((G.1 b 2).toInt) ∧ ((G.1 b 2).toInt) ≤ 12 := by
  have e := h.1.sz h.2.2.2.2.2
  have := ordN_le (prM f) (rkM f) 12
  omega
theorem RQ.cgf {f f1 : Nat → Int32} {i : Int} {q : Nat → Int32} (h : RQ f i q) (e : ∀ j : Int, 0 ≤ j → j < 9 → aI f1 (10 * i + j) = aI f (10 * i + j)) : RQ f1 i q := by
  unfold RQ at *
  rw [e 0 (by decide) (by decide), e 1 (by decide) (by decide), e 2 (by decide) (by decide), e 3 (by decide) (by decide), e 4 (by decide) (by decide), e 5 (by decide) (by decide), e 6 (by decide) (by decide), e 7 (by decide) (by decide), e 8 (by decide) (by decide)]
  exact h
theorem BO.cg {G u : XG} {F : Nat → Nat → Nat} {b : Nat} (h : BO G F b) (e0 : u.2.2.1 (F b 0) = G.2.2.1 (F b 0)) (e1 : u.2.2.1 (F b 1) = G.2.2.1 (F b 1)) (e2 : (u.1 b 2).toInt = (G.1 b 2).toInt) (hr : ∀ i q, i < 12 → G.2.2.1 (F b 0) i = some q → u.1 q 8 = G.1 q 8) : BO u F b := by
  unfold BO at h ⊢
  rw [e0, e1, e2]
  unfold ORn at h ⊢
  have e : ordN (fun i => (G.2.2.1 (F b 0) i).isSome) (fun i => rkO u (G.2.2.1 (F b 0) i)) 12 = ordN (fun i => (G.2.2.1 (F b 0) i).isSome) (fun i => rkO G (G.2.2.1 (F b 0) i)) 12 := ordN_cong 12 (fun _ _ => rfl) (fun i hi hp => by
    show rkO u (G.2.2.1 (F b 0) i) = rkO G (G.2.2.1 (F b 0) i)
    cases hq : G.2.2.1 (F b 0) i with
    | none => rfl
    | some q => exact congrArg Int32.toInt (hr i q hi hq))
  rw [e]
  exact h
theorem BKu.cg {K K1 : Nat → Nat} {G u : XG} {f f1 : Nat → Option Nat} (h : BKu K G f) (hf : f1 = f) (hM : ∀ q, K q = 9 → K1 q = 9) (hr : ∀ q, K q = 9 → u.1 q = G.1 q) : BKu K1 u f1 := fun i q hq => by
  rw [hf] at hq
  have h1 := h i q hq
  exact ⟨hM q h1.1, by rw [hr q h1.1]; exact h1.2⟩
theorem A_book.cg {K K1 : Nat → Nat} {F : Nat → Nat → Nat} {G u : XG} {b : Nat} {f f1 : Nat → Int32} (h : A_book K F G b f) (hM : ∀ q, K q = 9 → K1 q = 9) (hf : f1 = f) (e0 : u.2.2.1 (F b 0) = G.2.2.1 (F b 0)) (e1 : u.2.2.1 (F b 1) = G.2.2.1 (F b 1)) (e2 : (u.1 b 2).toInt = (G.1 b 2).toInt) (hr : ∀ q, K q = 9 → u.1 q = G.1 q) : A_book K1 F u b f1 := by
  obtain ⟨h1, h2, h3, h4, h5, h6⟩ := h
  subst hf
  refine ⟨h1.cg e0 e1 e2 (fun i q _ hq => by rw [hr q (h2 i q hq).1]), h2.cg e0 hM hr, h3.cg e1 hM hr, fun i q hi hq => ?_, h5, fun i hi => ?_⟩
  · rw [e0] at hq
    rw [hr q (h2 i q hq).1]
    exact h4 i q hi hq
  · rw [e0]
    rcases h6 i hi with h | ⟨q, a, c, d⟩
    · exact Or.inl h
    · exact Or.inr ⟨q, a, c, by rw [hr q (h2 i q a).1]; exact d⟩
theorem B_drop {K : Nat → Nat} {F : Nat → Nat → Nat} {G u : XG} {b : Nat} {f f1 : Nat → Int32} {p : Int} (h : A_book K F G b f) (hp : 0 ≤ p ∧ p < 12) (nb : ∀ i : Nat, u.2.2.1 (F b 0) i = if i = p.toNat then none else G.2.2.1 (F b 0) i) (hb : BO u F b) (fr : ∀ (i q : Nat), u.2.2.1 (F b 1) i = some q → (∃ j : Nat, G.2.2.1 (F b 1) j = some q) ∨ ∃ j : Nat, u.2.2.1 (F b 0) j = some q) (hr : ∀ q, K q = 9 → u.1 q = G.1 q) (hf : ∀ z : Int, 0 ≤ z → aI f1 z = if z = 10 * p then -1 else aI f z) (hV : RV f1) : A_book K F u b f1 := by
  obtain ⟨-, h2, h3, h4, -, h6⟩ := h
  have up : ∀ i q, u.2.2.1 (F b 0) i = some q → G.2.2.1 (F b 0) i = some q := by
    intro i q hq
    rw [nb i] at hq
    split at hq
    · cases hq
    · exact hq
  have k2 : BKu K u (u.2.2.1 (F b 0)) := fun i q hq => by
    have h := h2 i q (up i q hq)
    exact ⟨h.1, by rw [hr q h.1]; exact h.2⟩
  refine ⟨hb, k2, fun i q hq => ?_, fun i q hi hq => ?_, hV, fun i hi => ?_⟩
  · rcases fr i q hq with ⟨j, e⟩ | ⟨j, e⟩
    · have h := h3 j q e
      exact ⟨h.1, by rw [hr q h.1]; exact h.2⟩
    · exact k2 j q e
  · have e := up i q hq
    rw [hr q (h2 i q e).1]
    exact h4 i q hi e
  · by_cases g : i = p.toNat
    · exact Or.inl ⟨by rw [nb i, if_pos g], by rw [hf _ (by omega), if_pos (by omega)]⟩
    · rcases h6 i hi with ⟨a, c⟩ | ⟨q, a, c, d⟩
      · exact Or.inl ⟨by rw [nb i, if_neg g]; exact a, by rw [hf _ (by omega), if_neg (by omega)]; exact c⟩
      · refine Or.inr ⟨q, by rw [nb i, if_neg g]; exact a, by rw [hf _ (by omega), if_neg (by omega)]; exact c, ?_⟩
        rw [hr q (h2 i q a).1]
        exact d.cgf (fun j h1 h2 => by rw [hf _ (by omega), if_neg (by omega)])
theorem drop_all {K : Nat → Nat} {F : Nat → Nat → Nat} {G u : XG} {b : Nat} {f f1 : Nat → Int32} {p op op2 r r1 : Int} (h : A_book K F G b f) (ho : op = op2) (hr : ∀ q, K q = 9 → u.1 q = G.1 q)
    (t : (r = -2 ∧ ((p < 0 ∨ 12 ≤ p) ∨ G.2.2.1 (F b 0) p.toNat = none) ∧ u.2.2.1 (F b 0) = G.2.2.1 (F b 0) ∧ u.2.2.1 (F b 1) = G.2.2.1 (F b 1) ∧ (u.1 b 2).toInt = (G.1 b 2).toInt) ∨ ((0 ≤ p ∧ p < 12) ∧ (∃ q : Nat, G.2.2.1 (F b 0) p.toNat = some q) ∧ ((op ≠ 0 ∧ r = -3 ∧ u.2.2.1 (F b 0) = G.2.2.1 (F b 0) ∧ u.2.2.1 (F b 1) = G.2.2.1 (F b 1) ∧ (u.1 b 2).toInt = (G.1 b 2).toInt) ∨ (op = 0 ∧ (∀ i : Nat, u.2.2.1 (F b 0) i = if i = p.toNat then none else G.2.2.1 (F b 0) i) ∧ BO u F b ∧ r = (u.1 b 2).toInt))))
    (fr : ∀ (i q : Nat), u.2.2.1 (F b 1) i = some q → (∃ j : Nat, G.2.2.1 (F b 1) j = some q) ∨ ∃ j : Nat, u.2.2.1 (F b 0) j = some q)
    (t2 : (¬ (0 ≤ p ∧ p ≤ 11 ∧ aI f (10 * p + 0) ≠ -1) ∧ r1 = -2 ∧ f1 = f) ∨ ((0 ≤ p ∧ p ≤ 11 ∧ aI f (10 * p + 0) ≠ -1) ∧ ((op2 ≠ 0 ∧ r1 = -3 ∧ f1 = f) ∨ (op2 = 0 ∧ (∀ z : Int, 0 ≤ z → aI f1 z = if z = 10 * p then -1 else aI f z) ∧ r1 = nRl f1 12)))) (hV : RV f1) : r = r1 ∧ A_book K F u b f1 ∧ (op ≠ 0 → f1 = f) := by
  subst ho
  have hL := h.2.2.2.2.2
  rcases t with ⟨a1, a2, e0, e1, e2⟩ | ⟨a1, ⟨q, a2⟩, t⟩
  · rcases t2 with ⟨-, b2, b3⟩ | ⟨b1, -⟩
    · exact ⟨a1.trans b2.symm, h.cg (fun _ h => h) b3 e0 e1 e2 hr, fun _ => b3⟩
    · exfalso
      rcases hL.nat (r := p) (by omega) with ⟨-, c⟩ | ⟨q, c, -⟩
      · exact b1.2.2 c
      · rcases a2 with a2 | a2
        · omega
        · rw [a2] at c; cases c
  · have hk : aI f (10 * p + 0) ≠ -1 := by
      rcases hL.nat a1 with ⟨c, -⟩ | ⟨_, -, c, -⟩
      · rw [a2] at c; cases c
      · exact c
    rcases t2 with ⟨b1, -⟩ | ⟨-, t2⟩
    · exact absurd ⟨a1.1, by omega, hk⟩ b1
    · rcases t with ⟨o, a3, e0, e1, e2⟩ | ⟨o, nb, hb, a3⟩
      · rcases t2 with ⟨-, b3, b4⟩ | ⟨o2, -⟩
        · exact ⟨a3.trans b3.symm, h.cg (fun _ h => h) b4 e0 e1 e2 hr, fun _ => b4⟩
        · exact absurd o2 o
      · rcases t2 with ⟨o2, -⟩ | ⟨-, b3, b4⟩
        · exact absurd o o2
        · have hB := B_drop h a1 nb hb fr hr b3 hV
          have e := hB.1.sz hB.2.2.2.2.2
          refine ⟨?_, hB, fun o2 => absurd o o2⟩
          rw [a3, b4, nRl_eq, e]
          rfl
/-! a rule is told -/
theorem rule_all {K K1 : Nat → Nat} {F : Nat → Nat → Nat} {G u : XG} {b q : Nat} {f f1 : Nat → Int32} {op op2 n r r1 : Int} {vn v9 : Int → Int} {T : Int → Int} (h : A_book K F G b f) (ho : op = op2) (h9 : v9 = v0) (hq9 : K1 q = 9) (hM : KM K K1) (hr : ∀ p, K p = 9 → u.1 p = G.1 p)
    (t : (¬ rOk T n ∧ r = -1000 - (rS9 T).2.2 ∧ (u.2.2.1 (F b 0) = G.2.2.1 (F b 0) ∧ u.2.2.1 (F b 1) = G.2.2.1 (F b 1) ∧ u.1 b 2 = G.1 b 2)) ∨ (rOk T n ∧ op ≠ 0 ∧ r = -3 ∧ (u.2.2.1 (F b 0) = G.2.2.1 (F b 0) ∧ u.2.2.1 (F b 1) = G.2.2.1 (F b 1) ∧ u.1 b 2 = G.1 b 2)) ∨ (rOk T n ∧ op = 0 ∧ (∀ i : Nat, i < 12 → G.2.2.1 (F b 0) i ≠ none) ∧ r = -4 ∧ (u.2.2.1 (F b 0) = G.2.2.1 (F b 0) ∧ u.2.2.1 (F b 1) = G.2.2.1 (F b 1) ∧ u.1 b 2 = G.1 b 2)) ∨ (rOk T n ∧ op = 0 ∧ (0 ≤ (u.1 q 1).toInt ∧ (u.1 q 1).toInt ≤ 11) ∧ G.2.2.1 (F b 0) ((u.1 q 1).toInt).toNat = none ∧ (∀ i : Nat, (i : Int) < (u.1 q 1).toInt → G.2.2.1 (F b 0) i ≠ none) ∧ ((u.1 q 0).toInt = (rS1 T).1 ∧ (u.1 q 2).toInt = (rS2 T).1 ∧ (u.1 q 3).toInt = (rS3 T).1 ∧ (u.1 q 4).toInt = (rS4 T).1 ∧ (u.1 q 5).toInt = (rS5 T).1 ∧ (u.1 q 6).toInt = (rS6 T).1 ∧ (u.1 q 7).toInt = (rS7 T).1 ∧ (u.1 q 8).toInt = (rS9 T).1 ∧ (u.1 q 9).toInt = (rS8 T).1) ∧ ((ffL (uqs v9 vn (u.1 q)) ≠ -1 ∧ r = -5 ∧ (u.2.2.1 (F b 0) = G.2.2.1 (F b 0) ∧ u.2.2.1 (F b 1) = G.2.2.1 (F b 1) ∧ u.1 b 2 = G.1 b 2)) ∨ (ffL (uqs v9 vn (u.1 q)) = -1 ∧ r = (u.1 q 1).toInt ∧ (∀ i : Nat, u.2.2.1 (F b 0) i = if i = ((u.1 q 1).toInt).toNat then some q else G.2.2.1 (F b 0) i) ∧ BO u F b))))
    (fr : ∀ (i p : Nat), u.2.2.1 (F b 1) i = some p → (∃ j : Nat, G.2.2.1 (F b 1) j = some p) ∨ ∃ j : Nat, u.2.2.1 (F b 0) j = some p)
    (t2 : (¬ rOk T n ∧ r1 = -1000 - (rS9 T).2.2 ∧ f1 = f) ∨ (rOk T n ∧ op2 ≠ 0 ∧ r1 = -3 ∧ f1 = f) ∨ (rOk T n ∧ op2 = 0 ∧ (∀ i : Int, 0 ≤ i → i < 12 → aI f (10 * i + 0) ≠ -1) ∧ r1 = -4 ∧ f1 = f) ∨ (rOk T n ∧ op2 = 0 ∧ ∃ (k : Int) (d g : Nat → Int32), ((0 ≤ k ∧ k ≤ 11) ∧ aI f (10 * k + 0) = -1 ∧ ∀ i : Int, 0 ≤ i → i < k → aI f (10 * i + 0) ≠ -1) ∧ DFo d T ∧ CPd d f g 0 (10 * k) 9 ∧ (((∃ s : Int, sbj (aI g (10 * k + 0)) s ∧ fzq g vn k s = 1) ∧ r1 = -5 ∧ ∀ z : Int, 0 ≤ z → aI f1 z = if z = 10 * k then -1 else aI g z) ∨ ((∀ s : Int, sbj (aI g (10 * k + 0)) s → fzq g vn k s = 0) ∧ r1 = k ∧ f1 = g))))
    (hV : RV f1) : A_book K1 F u b f1 ∧ (op ≠ 0 → f1 = f) ∧ r = r1 := by
  subst ho h9
  have m9 : ∀ p, K p = 9 → K1 p = 9 := fun p hp => hM p 9 hp (by decide)
  have hL := h.2.2.2.2.2
  have hRV := h.2.2.2.2.1
  have sm : f1 = f → (u.2.2.1 (F b 0) = G.2.2.1 (F b 0) ∧ u.2.2.1 (F b 1) = G.2.2.1 (F b 1) ∧ u.1 b 2 = G.1 b 2) → A_book K1 F u b f1 := fun e ⟨e0, e1, e2⟩ => h.cg m9 e e0 e1 (by rw [e2]) hr
  rcases t with ⟨a1, a0, s⟩ | ⟨a1, a2, a3, s⟩ | ⟨a1, a2, a3, a4, s⟩ | ⟨a1, a2, hk, hn, hlt, hfl, t⟩
  · rcases t2 with ⟨-, b2, b3⟩ | ⟨b1, -⟩ | ⟨b1, -⟩ | ⟨b1, -⟩
    · exact ⟨sm b3 s, fun _ => b3, a0.trans b2.symm⟩
    · exact absurd b1 a1
    · exact absurd b1 a1
    · exact absurd b1 a1
  · rcases t2 with ⟨b1, -⟩ | ⟨-, -, b2, b3⟩ | ⟨-, b1, -⟩ | ⟨-, b1, -⟩
    · exact absurd a1 b1
    · exact ⟨sm b3 s, fun _ => b3, a3.trans b2.symm⟩
    · exact absurd b1 a2
    · exact absurd b1 a2
  · rcases t2 with ⟨b1, -⟩ | ⟨-, b1, -⟩ | ⟨-, -, b1, b2, b3⟩ | ⟨-, -, k, d, g, ⟨k1, k2, -⟩, -⟩
    · exact absurd a1 b1
    · exact absurd a2 b1
    · exact ⟨sm b3 s, fun _ => b3, a4.trans b2.symm⟩
    · exfalso
      rcases hL.nat (r := k) (by omega) with ⟨c, -⟩ | ⟨q, -, c, -⟩
      · exact a3 k.toNat (by omega) c
      · exact c k2
  · rcases t2 with ⟨b1, -⟩ | ⟨-, b1, -⟩ | ⟨-, -, b1, -⟩ | ⟨-, -, k, d, g, ⟨k1, k2, k3⟩, hd, hc, t2⟩
    · exact absurd a1 b1
    · exact absurd a2 b1
    · exfalso
      rcases hL.nat (r := (u.1 q 1).toInt) (by omega) with ⟨-, c⟩ | ⟨p, c, -⟩
      · exact b1 _ hk.1 (by omega) c
      · rw [hn] at c; cases c
    · have ek : (u.1 q 1).toInt = k := by
        rcases Int.lt_trichotomy (u.1 q 1).toInt k with l | l | l
        · exfalso
          rcases hL.nat (r := (u.1 q 1).toInt) (by omega) with ⟨-, c⟩ | ⟨p, c, -⟩
          · exact k3 _ hk.1 l c
          · rw [hn] at c; cases c
        · exact l
        · exfalso
          rcases hL.nat (r := k) (by omega) with ⟨c, -⟩ | ⟨p, -, c, -⟩
          · exact hlt k.toNat (by omega) c
          · exact c k2
      have hVg : RV g := hRV.cpd k1 hc hd
      have at_ : ∀ j : Int, 0 ≤ j → j < 9 → aI g (10 * k + j) = aI d j := fun j h0 h1 => hc.at (by omega) ⟨h0, h1⟩
      have rb := rS_b T
      have hQ : RQ g k (u.1 q) := by
        obtain ⟨f0, f2, f3, f4, f5, f6, f7, f8, f9⟩ := hfl
        obtain ⟨d0, d1, d2, d3, d4, d5, d6, d7, d8⟩ := hd
        unfold RQ
        rw [at_ 0 (by decide) (by decide), at_ 1 (by decide) (by decide), at_ 2 (by decide) (by decide), at_ 3 (by decide) (by decide), at_ 4 (by decide) (by decide), at_ 5 (by decide) (by decide), at_ 6 (by decide) (by decide), at_ 7 (by decide) (by decide), at_ 8 (by decide) (by decide), d0, d1, d2, d3, d4, d5, d6, d7, d8]
        exact ⟨f0, ek, f2, f3, f4, f5, f6, f7, f8, f9, by rw [f9]; exact rb.2.2.2.2.2.2⟩
      have hW : RW (u.1 q) := by
        obtain ⟨f0, f2, f3, f4, -⟩ := hfl
        unfold RW
        rw [f0, f2, f3, f4]
        exact ⟨rb.1, rb.2.1, rb.2.2.1, rb.2.2.2.1, rb.2.2.2.2.1⟩
      have hl := rule_link (r := vn) hVg (k := k) (by omega) hQ
      have oth : ∀ z : Int, 0 ≤ z → ¬ (10 * k ≤ z ∧ z < 10 * k + 9) → aI g z = aI f z := fun z h0 h1 => by rw [hc z h0, if_neg h1]
      rcases t with ⟨c1, c2, s⟩ | ⟨c1, c2, nb, hb⟩
      · rcases t2 with ⟨e1, e2, e3⟩ | ⟨e1, -⟩
        · refine ⟨?_, fun o => absurd a2 o, c2.trans e2.symm⟩
          obtain ⟨e0, e4, e5⟩ := s
          have hb := h.cg (f1 := f) m9 rfl e0 e4 (by rw [e5]) hr
          obtain ⟨x1, x2, x3, x4, -, x6⟩ := hb
          refine ⟨x1, x2, x3, x4, hV, fun i hi => ?_⟩
          by_cases g9 : (i : Int) = k
          · refine Or.inl ⟨?_, by rw [g9, e3 _ (by omega), if_pos (by omega)]⟩
            rw [e0, show i = ((u.1 q 1).toInt).toNat by omega]
            exact hn
          · rcases x6 i hi with ⟨a, c⟩ | ⟨p, a, c, d⟩
            · exact Or.inl ⟨a, by rw [e3 _ (by omega), if_neg (by omega), oth _ (by omega) (by omega)]; exact c⟩
            · exact Or.inr ⟨p, a, by rw [e3 _ (by omega), if_neg (by omega), oth _ (by omega) (by omega)]; exact c, d.cgf (fun j h1 h2 => by rw [e3 _ (by omega), if_neg (by omega), oth _ (by omega) (by omega)])⟩
        · exfalso
          obtain ⟨s, s1, s2⟩ := hl.mp c1
          rw [e1 s s1] at s2
          exact absurd s2 (by decide)
      · rcases t2 with ⟨e1, -⟩ | ⟨-, e2, e3⟩
        · exact absurd c1 (hl.mpr e1)
        · subst e3
          refine ⟨?_, fun o => absurd a2 o, by rw [c2, ek]; exact e2.symm⟩
          obtain ⟨-, h2, h3, h4, -, h6⟩ := h
          have k9 : BKu K1 u (u.2.2.1 (F b 0)) := fun i p hp => by
            rw [nb i] at hp
            split at hp
            · cases hp
              exact ⟨hq9, hW⟩
            · have h := h2 i p hp
              exact ⟨m9 p h.1, by rw [hr p h.1]; exact h.2⟩
          refine ⟨hb, k9, fun i p hp => ?_, fun i p hi hp => ?_, hV, fun i hi => ?_⟩
          · rcases fr i p hp with ⟨j, e⟩ | ⟨j, e⟩
            · have h := h3 j p e
              exact ⟨m9 p h.1, by rw [hr p h.1]; exact h.2⟩
            · exact k9 j p e
          · rw [nb i] at hp
            split at hp
            · cases hp
              rw [hfl.2.2.2.2.2.2.1]
              exact rb.2.2.2.2.2.1
            · rw [hr p (h2 i p hp).1]
              exact h4 i p hi hp
          · by_cases g9 : i = ((u.1 q 1).toInt).toNat
            · have ei : (i : Int) = k := by omega
              refine Or.inr ⟨q, by rw [nb i, if_pos g9], ?_, by rw [ei]; exact hQ⟩
              rw [ei, at_ 0 (by decide) (by decide), hd.1]
              have := rb.1
              omega
            · rcases h6 i hi with ⟨a, c⟩ | ⟨p, a, c, d⟩
              · exact Or.inl ⟨by rw [nb i, if_neg g9]; exact a, by rw [oth _ (by omega) (by omega)]; exact c⟩
              · refine Or.inr ⟨p, by rw [nb i, if_neg g9]; exact a, by rw [oth _ (by omega) (by omega)]; exact c, ?_⟩
                rw [hr p (h2 i p a).1]
                exact d.cgf (fun j h1 h2 => oth _ (by omega) (by omega))
