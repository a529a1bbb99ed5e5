/-! ===== the reference: what is asked till one fails, what that leaves ===== -/
noncomputable def upP (f : Nat → Int32) (r : Int → Int) : List (Int × Int) → List (Int × Int)
  | [] => []
  | y :: l => if fzq f r y.1 y.2 ≠ 0 then [y] else y :: upP f r l
noncomputable def fpF (f : Nat → Int32) (r : Int → Int) : List (Int × Int) → Option (Int × Int)
  | [] => none
  | y :: l => if fzq f r y.1 y.2 ≠ 0 then some y else fpF f r l
theorem ffP_c (f : Nat → Int32) (r : Int → Int) (y : Int × Int) (l : List (Int × Int)) : ffP f r (y :: l) = if fzq f r y.1 y.2 ≠ 0 then 0 else if ffP f r l = -1 then -1 else ffP f r l + 1 := rfl
theorem ffP_ge (f : Nat → Int32) (r : Int → Int) (l : List (Int × Int)) : -1 ≤ ffP f r l := ffL_ge _
theorem up_ff (f : Nat → Int32) (r : Int → Int) : ∀ l : List (Int × Int), (ffP f r l = -1 ∧ upP f r l = l ∧ fpF f r l = none) ∨ (0 ≤ ffP f r l ∧ upP f r l = l.take ((ffP f r l).toNat + 1) ∧ ∃ y, l[(ffP f r l).toNat]? = some y ∧ fpF f r l = some y)
  | [] => Or.inl ⟨rfl, rfl, rfl⟩
  | y :: l => by
    rw [ffP_c]
    unfold upP fpF
    by_cases c : fzq f r y.1 y.2 ≠ 0
    · rw [if_pos c, if_pos c, if_pos c]
      exact Or.inr ⟨Int.le_refl _, rfl, y, rfl, rfl⟩
    · rw [if_neg c, if_neg c, if_neg c]
      rcases up_ff f r l with ⟨a, b, d⟩ | ⟨a, b, z, d, e⟩
      · rw [if_pos a, b]
        exact Or.inl ⟨rfl, rfl, d⟩
      · rw [if_neg (by omega), b]
        have h : (ffP f r l + 1).toNat = (ffP f r l).toNat + 1 := by omega
        rw [h]
        exact Or.inr ⟨by omega, by rw [List.take_succ_cons], z, d, e⟩
theorem up_take {f : Nat → Int32} {r : Int → Int} {l : List (Int × Int)} {k m : Int} (hk : k = ffP f r l) (hm : (k = -1 ∧ m = ((l.length : Nat) : Int)) ∨ (k ≠ -1 ∧ m = k + 1)) : upP f r l = l.take m.toNat ∧ (((upP f r l).length : Nat) : Int) = m := by
  subst hk
  rcases up_ff f r l with ⟨a, b, -⟩ | ⟨a, b, y, d, -⟩
  · have e : m = ((l.length : Nat) : Int) := hm.elim (fun h => h.2) (fun h => absurd a h.1)
    rw [b, e]
    exact ⟨by rw [show (((l.length : Nat) : Int)).toNat = l.length by omega, List.take_length], rfl⟩
  · have e : m = ffP f r l + 1 := hm.elim (fun h => by omega) (fun h => h.2)
    have h : m.toNat = (ffP f r l).toNat + 1 := by omega
    rw [b, h]
    refine ⟨rfl, ?_⟩
    have hl : (ffP f r l).toNat < l.length := (List.getElem?_eq_some_iff.mp d).1
    rw [List.length_take]
    omega
theorem fp_no {f : Nat → Int32} {r : Int → Int} {l : List (Int × Int)} (h : ffP f r l = -1) : fpF f r l = none := (up_ff f r l).elim (fun q => q.2.2) (fun q => absurd q.1 (by omega))
theorem fp_at {f : Nat → Int32} {r : Int → Int} {l : List (Int × Int)} {k : Int} {y : Int × Int} (hk : k = ffP f r l) (h : k ≠ -1) (hy : l[k.toNat]? = some y) : fpF f r l = some y := by
  subst hk
  rcases up_ff f r l with ⟨a, -⟩ | ⟨-, -, z, d, e⟩
  · exact absurd a h
  · rw [d] at hy
    cases hy
    exact e
/-- the verdict of the reference -/
def TMo (G u : XG) (a : Nat) (o : Option (Int × Int)) : Prop := match o with
  | none => (u.1 a 20).toInt = (G.1 a 20).toInt ∧ (u.1 a 21).toInt = (G.1 a 21).toInt
  | some y => (u.1 a 20).toInt = y.1 ∧ (u.1 a 21).toInt = y.2
def TM (u : XG) (a : Nat) (o : Option (Int × Int)) : Prop := match o with
  | none => (u.1 a 20).toInt = -2147483648 ∧ (u.1 a 21).toInt = -2147483648
  | some y => (u.1 a 20).toInt = y.1 ∧ (u.1 a 21).toInt = y.2
theorem TMo.tm {G u : XG} {a : Nat} {o : Option (Int × Int)} (h : TMo G u a o) (h0 : (G.1 a 20).toInt = -2147483648 ∧ (G.1 a 21).toInt = -2147483648) : TM u a o := by
  cases o with
  | none => exact ⟨h.1.trans h0.1, h.2.trans h0.2⟩
  | some y => exact h
noncomputable def acVM (op : Int) (f : Nat → Int32) (r1 p : Int → Int) : Option (Int × Int) := match fpF f p (fuO f r1 p 0) with
  | some y => some y
  | none => if op = 0 then fpF f p (fuO f r1 p 1) else none
noncomputable def acKM (op : Int) (f : Nat → Int32) (r1 p : Int → Int) : Int := (((upP f p (fuO f r1 p 0)).length : Nat) : Int) + (match fpF f p (fuO f r1 p 0) with
  | some _ => 0
  | none => if op = 0 then (((upP f p (fuO f r1 p 1)).length : Nat) : Int) else 0)
def isNm (o : Option (Int × Int)) : Int := match o with
  | none => 1
  | some _ => 0
def isSm (o : Option (Int × Int)) : Int := match o with
  | none => 0
  | some _ => 1
noncomputable def acCM (op : Int) (f : Nat → Int32) (r1 p : Int → Int) : Int := match fpF f p (fuO f r1 p 0) with
  | some _ => 0
  | none => if op = 0 then isNm (fpF f p (fuO f r1 p 1)) else 0
noncomputable def acBM (op : Int) (f : Nat → Int32) (r1 p : Int → Int) : Int := match fpF f p (fuO f r1 p 0) with
  | some _ => 0
  | none => if op = 0 then isSm (fpF f p (fuO f r1 p 1)) else 0
noncomputable def acIM (op : Int) (f : Nat → Int32) (r1 p : Int → Int) (z : Int) : Int := match fpF f p (fuO f r1 p 0) with
  | some _ => 0
  | none => if op = 0 then 0 else z
noncomputable def acJM (op : Int) (f : Nat → Int32) (r1 p : Int → Int) : Int := match fpF f p (fuO f r1 p 0) with
  | some _ => if op = 0 then 0 else 1
  | none => 0
def acAM (op : Int) (f : Nat → Int32) (r1 p : Int → Int) (l0 l1 : List (Int × Int)) (a0 a1 : Int) : Prop := match fpF f p (fuO f r1 p 0) with
  | some _ => l1 = l0 ∧ a1 = a0
  | none => if op = 0 then l1 = upP f p (fuO f r1 p 1) ∧ a1 = ffP f p (fuO f r1 p 1) else l1 = l0 ∧ a1 = a0
theorem am_s {f : Nat → Int32} {r1 p : Int → Int} {y : Int × Int} (h : fpF f p (fuO f r1 p 0) = some y) (op : Int) : acVM op f r1 p = some y ∧ acKM op f r1 p = (((upP f p (fuO f r1 p 0)).length : Nat) : Int) ∧ acCM op f r1 p = 0 ∧ acBM op f r1 p = 0 ∧ (∀ z, acIM op f r1 p z = 0) ∧ acJM op f r1 p = (if op = 0 then 0 else 1) ∧ ∀ (l0 l1 : List (Int × Int)) (a0 a1 : Int), l1 = l0 → a1 = a0 → acAM op f r1 p l0 l1 a0 a1 := by
  unfold acVM acKM acCM acBM acIM acJM acAM
  rw [h]
  exact ⟨rfl, Int.add_zero _, rfl, rfl, fun _ => rfl, rfl, fun _ _ _ _ a b => ⟨a, b⟩⟩
theorem am_n {f : Nat → Int32} {r1 p : Int → Int} (h : fpF f p (fuO f r1 p 0) = none) {op : Int} (ho : op ≠ 0) : acVM op f r1 p = none ∧ acKM op f r1 p = (((upP f p (fuO f r1 p 0)).length : Nat) : Int) ∧ acCM op f r1 p = 0 ∧ acBM op f r1 p = 0 ∧ (∀ z, acIM op f r1 p z = z) ∧ acJM op f r1 p = 0 ∧ ∀ (l0 l1 : List (Int × Int)) (a0 a1 : Int), l1 = l0 → a1 = a0 → acAM op f r1 p l0 l1 a0 a1 := by
  unfold acVM acKM acCM acBM acIM acJM acAM
  rw [h]
  refine ⟨if_neg ho, ?_, if_neg ho, if_neg ho, fun _ => if_neg ho, rfl, fun _ _ _ _ a b => ?_⟩
  · show _ + (if op = 0 then _ else (0 : Int)) = _
    rw [if_neg ho, Int.add_zero]
  · show if op = 0 then _ else _
    rw [if_neg ho]
    exact ⟨a, b⟩
theorem am_o {f : Nat → Int32} {r1 p : Int → Int} (h : fpF f p (fuO f r1 p 0) = none) {op : Int} (ho : op = 0) : acVM op f r1 p = fpF f p (fuO f r1 p 1) ∧ acKM op f r1 p = (((upP f p (fuO f r1 p 0)).length : Nat) : Int) + (((upP f p (fuO f r1 p 1)).length : Nat) : Int) ∧ acCM op f r1 p = isNm (fpF f p (fuO f r1 p 1)) ∧ acBM op f r1 p = isSm (fpF f p (fuO f r1 p 1)) ∧ (∀ z, acIM op f r1 p z = 0) ∧ acJM op f r1 p = 0 ∧ ∀ (l0 l1 : List (Int × Int)) (a0 a1 : Int), l1 = upP f p (fuO f r1 p 1) → a1 = ffP f p (fuO f r1 p 1) → acAM op f r1 p l0 l1 a0 a1 := by
  unfold acVM acKM acCM acBM acIM acJM acAM
  rw [h]
  refine ⟨if_pos ho, ?_, if_pos ho, if_pos ho, fun _ => if_pos ho, rfl, fun _ _ _ _ a b => ?_⟩
  · show _ + (if op = 0 then _ else (0 : Int)) = _
    rw [if_pos ho]
  · show if op = 0 then _ else _
    rw [if_pos ho]
    exact ⟨a, b⟩
/-- an act of the reference -/
def ActMT (go : Prop) (op : Int) (f : Nat → Int32) (r1 p vb : Int → Int) (l0 l1 : List (Int × Int)) (a0 a1 : Int) (u : XG) (a : Nat) (c0 c1 s0 s1 : Nat → Int32) : Prop :=
  (¬ go ∧ (l1 = l0 ∧ a1 = a0) ∧ TM u a none ∧ SF c0 c1 0 0 0 0 ∧ SI s0 s1 0 0 0 0 0 (if op = 0 then 0 else 1)) ∨
  (go ∧ acAM op f r1 p l0 l1 a0 a1 ∧ TM u a (acVM op f r1 p) ∧ SF c0 c1 (acKM op f r1 p) (acCM op f r1 p) (acBM op f r1 p) 0 ∧ SI s0 s1 (acIM op f r1 p (frA f r1 vb p 1 12)) (acIM op f r1 p (frA f p vb r1 1 12)) 0 0 (acIM op f r1 p 1) (acJM op f r1 p))
/-- two counts at once -/
theorem SI.two {f g m h : Nat → Int32} {b C L c l x y I J : Int} (p : SI f g (tlK b C) (tlK b L) (tlN b L) (tlN b C) 0 0)
    (q1 : SI g m (if I = 0 then x else 0) (if I = 1 then x else 0) (if I = 2 then x else 0) (if I = 3 then x else 0) (if I = 4 then x else 0) (if I = 5 then x else 0))
    (q2 : SI m h (if J = 0 then y else 0) (if J = 1 then y else 0) (if J = 2 then y else 0) (if J = 3 then y else 0) (if J = 4 then y else 0) (if J = 5 then y else 0))
    (hh : (b = 0 ∧ I = 0 ∧ J = 1) ∨ (b = 1 ∧ I = 3 ∧ J = 2)) (hx : x = c) (hy : y = l) : SI f h (tlK b (C + c)) (tlK b (L + l)) (tlN b (L + l)) (tlN b (C + c)) 0 0 := by
  subst hx hy
  have a := (p.tr q1).tr q2
  rcases hh with ⟨e1, e2, e3⟩ | ⟨e1, e2, e3⟩
  · subst e1 e2 e3
    rw [tlK_0, tlK_0, tlN_0, tlN_0] at a ⊢
    exact a.cg (by rw [if_pos rfl, if_neg (by decide)] <;> omega) (by rw [if_neg (by decide), if_pos rfl] <;> omega) (by rw [if_neg (by decide), if_neg (by decide)] <;> omega) (by rw [if_neg (by decide), if_neg (by decide)] <;> omega) (by rw [if_neg (by decide), if_neg (by decide)] <;> omega) (by rw [if_neg (by decide), if_neg (by decide)] <;> omega)
  · subst e1 e2 e3
    rw [tlK_1, tlK_1, tlN_1, tlN_1] at a ⊢
    exact a.cg (by rw [if_neg (by decide), if_neg (by decide)] <;> omega) (by rw [if_neg (by decide), if_neg (by decide)] <;> omega) (by rw [if_neg (by decide), if_pos rfl] <;> omega) (by rw [if_pos rfl, if_neg (by decide)] <;> omega) (by rw [if_neg (by decide), if_neg (by decide)] <;> omega) (by rw [if_neg (by decide), if_neg (by decide)] <;> omega)
theorem tk_0 {α : Type} (l : List α) : l.take 0 = [] := by cases l <;> rfl
theorem tk_s {α : Type} {y : α} : ∀ {l : List α} {n : Nat}, l[n]? = some y → l.take (n + 1) = l.take n ++ [y]
  | [], n, h => by cases h
  | z :: l, 0, h => by
    cases h
    rw [List.take_succ_cons, tk_0, tk_0] <;> rfl
  | z :: l, n + 1, h => by
    have i := tk_s (l := l) (n := n) h
    rw [List.take_succ_cons, i, List.take_succ_cons] <;> rfl
theorem fpn_y {l : List (Int × Int)} {y : Int × Int} {n : Int} (h : y.1 = n) : (((((l ++ [y]).filter (fun y => decide (y.1 = n))).length : Nat)) : Int) = ((((l.filter (fun y => decide (y.1 = n))).length : Nat)) : Int) + 1 := by
  rw [List.filter_append, List.filter_cons_of_pos (by exact decide_eq_true h), List.filter_nil, List.length_append, List.length_cons, List.length_nil]
  omega
theorem fpn_n {l : List (Int × Int)} {y : Int × Int} {n : Int} (h : y.1 ≠ n) : (((((l ++ [y]).filter (fun y => decide (y.1 = n))).length : Nat)) : Int) = ((((l.filter (fun y => decide (y.1 = n))).length : Nat)) : Int) := by
  rw [List.filter_append, List.filter_cons_of_neg (by intro q; exact h (of_decide_eq_true q)), List.filter_nil, List.append_nil]
theorem upP_y {f : Nat → Int32} {r : Int → Int} {y : Int × Int} {l : List (Int × Int)} (h : fzq f r y.1 y.2 ≠ 0) : upP f r (y :: l) = [y] ∧ fpF f r (y :: l) = some y := by
  unfold upP fpF
  exact ⟨if_pos h, if_pos h⟩
theorem upP_n {f : Nat → Int32} {r : Int → Int} {y : Int × Int} {l : List (Int × Int)} (h : fzq f r y.1 y.2 = 0) : upP f r (y :: l) = y :: upP f r l ∧ fpF f r (y :: l) = fpF f r l := by
  have k : ∀ z : Int × Int, upP f r (z :: l) = if fzq f r z.1 z.2 ≠ 0 then [z] else z :: upP f r l := fun _ => rfl
  have k2 : ∀ z : Int × Int, fpF f r (z :: l) = if fzq f r z.1 z.2 ≠ 0 then some z else fpF f r l := fun _ => rfl
  rw [k, k2]
  exact ⟨if_neg (fun q => q h), if_neg (fun q => q h)⟩
theorem upf_at {f : Nat → Int32} {r : Int → Int} {y : Int × Int} {n : Int} (hf : fzq f r y.1 y.2 ≠ 0) (he : y.1 = n) : ∀ (l : List (Int × Int)) (i : Nat), l[i]? = some y → (∀ (j : Nat) (z : Int × Int), j < i → l[j]? = some z → z.1 = n → fzq f r z.1 z.2 = 0) → upP f r (l.filter (fun y => decide (y.1 = n))) = (l.take (i + 1)).filter (fun y => decide (y.1 = n)) ∧ fpF f r (l.filter (fun y => decide (y.1 = n))) = some y
  | [], i, h, _ => by cases h
  | z :: l, 0, h, _ => by
    cases h
    rw [List.take_succ_cons, tk_0, List.filter_cons_of_pos (by exact decide_eq_true he), List.filter_cons_of_pos (by exact decide_eq_true he)]
    exact upP_y hf
  | z :: l, i + 1, h, hh => by
    obtain ⟨i1, i2⟩ := upf_at hf he l i h (fun j w hj hw => hh (j + 1) w (by omega) hw)
    rw [List.take_succ_cons]
    by_cases c : z.1 = n
    · obtain ⟨k1, k2⟩ := upP_n (l := l.filter (fun y => decide (y.1 = n))) (hh 0 z (by omega) rfl c)
      rw [List.filter_cons_of_pos (by exact decide_eq_true c), List.filter_cons_of_pos (by exact decide_eq_true c), k1, k2, i1]
      exact ⟨rfl, i2⟩
    · rw [List.filter_cons_of_neg (by intro q; exact c (of_decide_eq_true q)), List.filter_cons_of_neg (by intro q; exact c (of_decide_eq_true q))]
      exact ⟨i1, i2⟩
theorem upf_all {f : Nat → Int32} {r : Int → Int} {n : Int} : ∀ l : List (Int × Int), (∀ z, z ∈ l → z.1 = n → fzq f r z.1 z.2 = 0) → upP f r (l.filter (fun y => decide (y.1 = n))) = l.filter (fun y => decide (y.1 = n)) ∧ fpF f r (l.filter (fun y => decide (y.1 = n))) = none
  | [], _ => ⟨rfl, rfl⟩
  | z :: l, hh => by
    obtain ⟨i1, i2⟩ := upf_all l (fun w hw => hh w (List.mem_cons_of_mem _ hw))
    by_cases c : z.1 = n
    · obtain ⟨k1, k2⟩ := upP_n (l := l.filter (fun y => decide (y.1 = n))) (hh z List.mem_cons_self c)
      rw [List.filter_cons_of_pos (by exact decide_eq_true c), k1, k2, i1]
      exact ⟨rfl, i2⟩
    · rw [List.filter_cons_of_neg (by intro q; exact c (of_decide_eq_true q))]
      exact ⟨i1, i2⟩
/-- what was asked: the class's list, the reference's list, the place of the one that failed -/
def ASKd (w : List Qt) (l : List (Int × Int)) (af : Int) : Prop := w.map (fun x => (x.1, x.2.1)) = l ∧ (∀ (j : Nat) (x : Qt), w[j]? = some x → (x.2.2.2.2.2 ≠ 0 ↔ (j : Int) = af)) ∧ ((w.length : Nat) : Int) ≤ 1080
theorem up_idx {f : Nat → Int32} {r : Int → Int} : ∀ (l : List (Int × Int)) (j : Nat) (y : Int × Int), (upP f r l)[j]? = some y → (fzq f r y.1 y.2 ≠ 0 ↔ (j : Int) = ffP f r l)
  | [], j, y, h => by cases h
  | z :: l, j, y, h => by
    rw [ffP_c]
    have g := ffP_ge f r l
    by_cases c : fzq f r z.1 z.2 ≠ 0
    · rw [(upP_y c).1] at h
      rw [if_pos c]
      cases j with
      | zero => cases h; exact ⟨fun _ => rfl, fun _ => c⟩
      | succ j => cases h
    · have c0 : fzq f r z.1 z.2 = 0 := Classical.byContradiction c
      rw [(upP_n c0).1] at h
      rw [if_neg c]
      cases j with
      | zero =>
        cases h
        refine ⟨fun q => absurd c0 q, fun q => ?_⟩
        exfalso
        split at q
        · omega
        · omega
      | succ j =>
        have h : (upP f r l)[j]? = some y := h
        refine (up_idx l j y h).trans ?_
        split
        · omega
        · omega
/-- the counts are alike -/
def CNTe (n : Int) (f g : Nat → Int32) : Prop := ∀ j : Int, 0 ≤ j → j < n → aI f j = aI g j
