/-! ===== what is asked, till one fails; what that leaves ===== -/
def upF (sel : Qt → Bool) : List Qt → List Qt
  | [] => []
  | x :: l => if sel x = true then (if x.2.2.2.2.2 ≠ 0 then [x] else x :: upF sel l) else upF sel l
def ltS (x : Qt) : Bool := decide (x.2.2.2.2.1 ≠ 0)
def prS (x : Qt) : Bool := decide (x.2.2.2.2.1 = 0)
def ruS (v : Int) (x : Qt) : Bool := decide (x.1 = v)
def fqF : List Qt → Option Qt
  | [] => none
  | x :: l => if x.2.2.2.2.2 ≠ 0 then some x else fqF l
theorem upF_y {sel : Qt → Bool} {x : Qt} {l : List Qt} (h : sel x = true) (h2 : x.2.2.2.2.2 = 0) : upF sel (x :: l) = x :: upF sel l := by
  show (if sel x = true then (if x.2.2.2.2.2 ≠ 0 then [x] else x :: upF sel l) else upF sel l) = _
  rw [if_pos h, if_neg (fun q => q h2)]
theorem upF_f {sel : Qt → Bool} {x : Qt} {l : List Qt} (h : sel x = true) (h2 : x.2.2.2.2.2 ≠ 0) : upF sel (x :: l) = [x] := by
  show (if sel x = true then (if x.2.2.2.2.2 ≠ 0 then [x] else x :: upF sel l) else upF sel l) = _
  rw [if_pos h, if_pos h2]
theorem upF_n {sel : Qt → Bool} {x : Qt} {l : List Qt} (h : ¬ (sel x = true)) : upF sel (x :: l) = upF sel l := by
  show (if sel x = true then (if x.2.2.2.2.2 ≠ 0 then [x] else x :: upF sel l) else upF sel l) = _
  rw [if_neg h]
theorem upF_all {sel : Qt → Bool} : ∀ l : List Qt, (∀ x, x ∈ l → sel x = true → x.2.2.2.2.2 = 0) → upF sel l = l.filter sel ∧ fqF (upF sel l) = none
  | [], _ => ⟨rfl, rfl⟩
  | x :: l, h => by
    obtain ⟨i1, i2⟩ := upF_all l (fun y hy => h y (List.mem_cons_of_mem _ hy))
    by_cases c : sel x = true
    · have z := h x List.mem_cons_self c
      rw [upF_y c z, List.filter_cons_of_pos c, i1]
      refine ⟨rfl, ?_⟩
      rw [← i1]
      unfold fqF
      rw [if_neg (fun q => q z)]
      exact i2
    · rw [upF_n c, List.filter_cons_of_neg c]
      exact ⟨i1, i2⟩
theorem upF_at {sel : Qt → Bool} {x : Qt} (hs : sel x = true) (hx : x.2.2.2.2.2 ≠ 0) : ∀ (l : List Qt) (n : Nat), l[n]? = some x → (∀ (j : Nat) (y : Qt), j < n → l[j]? = some y → sel y = true → y.2.2.2.2.2 = 0) → upF sel l = (l.take (n + 1)).filter sel ∧ fqF (upF sel l) = some x
  | [], n, h, _ => by cases h
  | y :: l, 0, h, _ => by
    cases h
    rw [upF_f hs hx, List.take_succ_cons, List.take_zero, List.filter_cons_of_pos hs]
    refine ⟨rfl, ?_⟩
    unfold fqF
    exact if_pos hx
  | y :: l, n + 1, h, h2 => by
    obtain ⟨i1, i2⟩ := upF_at hs hx l n h (fun j z hj hz => h2 (j + 1) z (by omega) hz)
    rw [List.take_succ_cons]
    by_cases c : sel y = true
    · have z := h2 0 y (by omega) rfl c
      rw [upF_y c z, List.filter_cons_of_pos c, i1]
      refine ⟨rfl, ?_⟩
      rw [← i1]
      unfold fqF
      rw [if_neg (fun q => q z)]
      exact i2
    · rw [upF_n c, List.filter_cons_of_neg c]
      exact ⟨i1, i2⟩
theorem fqF_n {l : List Qt} (h : fqF l = none) : ∀ x, x ∈ l → x.2.2.2.2.2 = 0 := by
  induction l with
  | nil => intro x hx; cases hx
  | cons y l ih =>
    unfold fqF at h
    by_cases c : y.2.2.2.2.2 ≠ 0
    · rw [if_pos c] at h; cases h
    · rw [if_neg c] at h
      intro x hx
      rcases List.mem_cons.mp hx with e | e
      · rw [e]; exact Classical.byContradiction c
      · exact ih h x e
theorem fqF_s {l : List Qt} {x : Qt} (h : fqF l = some x) : x ∈ l ∧ x.2.2.2.2.2 ≠ 0 := by
  induction l with
  | nil => cases h
  | cons y l ih =>
    unfold fqF at h
    by_cases c : y.2.2.2.2.2 ≠ 0
    · rw [if_pos c] at h; cases h; exact ⟨List.mem_cons_self, c⟩
    · rw [if_neg c] at h
      exact ⟨List.mem_cons_of_mem _ (ih h).1, (ih h).2⟩
/-! the same, of a list that lies in rows -/
theorem flt_y {sel : Qt → Bool} {l : List Qt} {x : Qt} (h : sel x = true) : (l ++ [x]).filter sel = l.filter sel ++ [x] := by
  rw [List.filter_append, List.filter_cons_of_pos h, List.filter_nil]
theorem flt_n {sel : Qt → Bool} {l : List Qt} {x : Qt} (h : ¬ (sel x = true)) : (l ++ [x]).filter sel = l.filter sel := by
  rw [List.filter_append, List.filter_cons_of_neg h, List.filter_nil, List.append_nil]
theorem fln_y {sel : Qt → Bool} {l : List Qt} {x : Qt} (h : sel x = true) : (((((l ++ [x]).filter sel).length : Nat)) : Int) = (((l.filter sel).length : Nat) : Int) + 1 := by
  rw [flt_y h, List.length_append, List.length_cons, List.length_nil]
  omega
theorem fln_n {sel : Qt → Bool} {l : List Qt} {x : Qt} (h : ¬ (sel x = true)) : (((((l ++ [x]).filter sel).length : Nat)) : Int) = (((l.filter sel).length : Nat) : Int) := by
  rw [flt_n h]
theorem upL_all {sel : Qt → Bool} {G : XG} {F : Nat → Nat → Nat} {p : Nat} {n : Int} (hn : (G.1 p 6).toInt ≤ n) (hm : n ≤ (G.1 p 6).toInt) (h : ∀ j : Int, 0 ≤ j → j < n → sel (qt (G.2.1 (F p 0)) (G.2.1 (F p 1)) (G.2.1 (F p 2)) (G.2.1 (F p 3)) (G.2.1 (F p 4)) (G.2.1 (F p 5)) j.toNat) = true → aI (G.2.1 (F p 5)) j = 0) : upF sel (qL G F p) = (qP G F p n.toNat).filter sel ∧ fqF (upF sel (qL G F p)) = none := by
  have e : qP G F p n.toNat = qL G F p := by
    rw [show n.toNat = (G.1 p 6).toInt.toNat by omega]
    rfl
  rw [e]
  refine upF_all _ (fun x hx hs => ?_)
  obtain ⟨j, hj⟩ := List.mem_iff_getElem?.mp hx
  obtain ⟨h1, rfl⟩ := qL_get hj
  have q := h (j : Int) (by omega) (by omega)
  rw [show ((j : Int)).toNat = j by omega] at q
  exact q hs
theorem upL_at {sel : Qt → Bool} {G : XG} {F : Nat → Nat → Nat} {p : Nat} {n : Int} (h0 : 0 ≤ n ∧ n < (G.1 p 6).toInt) (hs : sel (qt (G.2.1 (F p 0)) (G.2.1 (F p 1)) (G.2.1 (F p 2)) (G.2.1 (F p 3)) (G.2.1 (F p 4)) (G.2.1 (F p 5)) n.toNat) = true) (hx : aI (G.2.1 (F p 5)) n ≠ 0) (h : ∀ j : Int, 0 ≤ j → j < n → sel (qt (G.2.1 (F p 0)) (G.2.1 (F p 1)) (G.2.1 (F p 2)) (G.2.1 (F p 3)) (G.2.1 (F p 4)) (G.2.1 (F p 5)) j.toNat) = true → aI (G.2.1 (F p 5)) j = 0) : upF sel (qL G F p) = (qP G F p (n.toNat + 1)).filter sel ∧ fqF (upF sel (qL G F p)) = some (qt (G.2.1 (F p 0)) (G.2.1 (F p 1)) (G.2.1 (F p 2)) (G.2.1 (F p 3)) (G.2.1 (F p 4)) (G.2.1 (F p 5)) n.toNat) := by
  rw [qP_take G F p (show ((n.toNat + 1 : Nat) : Int) ≤ (G.1 p 6).toInt by omega)]
  refine upF_at hs hx _ _ (qL_at h0) (fun j y hj hy a => ?_)
  obtain ⟨_, rfl⟩ := qL_get hy
  have q := h (j : Int) (by omega) (by omega)
  rw [show ((j : Int)).toNat = j by omega] at q
  exact q a
/-! the verdict: told, number, subject -/
def VDo (o : Option Qt) (t n s t1 n1 s1 : Int) : Prop := match o with
  | none => t1 = t ∧ n1 = n ∧ s1 = s
  | some x => t1 = 1 ∧ n1 = x.1 ∧ s1 = x.2.1
def TV (G u : XG) (v : Nat) (o : Option Qt) : Prop := VDo o (G.1 v 1).toInt (G.1 v 2).toInt (G.1 v 3).toInt (u.1 v 1).toInt (u.1 v 2).toInt (u.1 v 3).toInt
theorem TV.rf {G u : XG} {v : Nat} (h1 : u.1 v 1 = G.1 v 1) (h2 : u.1 v 2 = G.1 v 2) (h3 : u.1 v 3 = G.1 v 3) : TV G u v none := ⟨congrArg Int32.toInt h1, congrArg Int32.toInt h2, congrArg Int32.toInt h3⟩
def orQ (o o2 : Option Qt) : Option Qt := match o with
  | none => o2
  | some x => some x
theorem TV.tr {G u w : XG} {v : Nat} {o : Option Qt} (h : TV G u v none) (h2 : TV u w v o) : TV G w v o := by
  obtain ⟨a, b, c⟩ := h
  cases o with
  | none =>
    obtain ⟨d, e, f⟩ := h2
    exact ⟨d.trans a, e.trans b, f.trans c⟩
  | some x =>
    obtain ⟨d, e, f⟩ := h2
    exact ⟨d, e, f⟩
theorem TV.cg {G u w : XG} {v : Nat} {o : Option Qt} (h : TV G u v o) (h1 : w.1 v 1 = u.1 v 1) (h2 : w.1 v 2 = u.1 v 2) (h3 : w.1 v 3 = u.1 v 3) : TV G w v o := by
  unfold TV at *
  rw [h1, h2, h3]
  exact h
/-- behind what clears the verdict -/
def TV0 (u : XG) (v : Nat) (o : Option Qt) : Prop := match o with
  | none => (u.1 v 1).toInt = 0
  | some x => (u.1 v 1).toInt = 1 ∧ (u.1 v 2).toInt = x.1 ∧ (u.1 v 3).toInt = x.2.1
theorem TV.t0 {G u : XG} {v : Nat} {o : Option Qt} (h : TV G u v o) (h0 : (G.1 v 1).toInt = 0) : TV0 u v o := by
  cases o with
  | none => exact h.1.trans h0
  | some x => exact h
theorem TV0.cg {u w : XG} {v : Nat} {o : Option Qt} (h : TV0 u v o) (h1 : w.1 v 1 = u.1 v 1) (h2 : w.1 v 2 = u.1 v 2) (h3 : w.1 v 3 = u.1 v 3) : TV0 w v o := by
  unfold TV0 at *
  rw [h1, h2, h3]
  exact h
/-- the number is that of a rule in the book -/
def inBk (G : XG) (f : Nat → Option Nat) (v : Int) : Prop := (0 ≤ v ∧ v < 12) ∧ ∃ q : Nat, f v.toNat = some q ∧ (G.1 q 1).toInt = v
theorem inBk.cg {G u : XG} {f : Nat → Option Nat} {v : Int} (h : inBk G f v) (h2 : ∀ i q : Nat, i < 12 → f i = some q → u.1 q = G.1 q) : inBk u f v := by
  obtain ⟨a, q, b, c⟩ := h
  exact ⟨a, q, b, by rw [h2 v.toNat q (by omega) b]; exact c⟩
theorem inBk.no {G : XG} {f : Nat → Option Nat} {v : Int} (h : inBk G f v) (h2 : (v < 0 ∨ 12 ≤ v) ∨ f v.toNat = none) : False := by
  obtain ⟨a, q, b, -⟩ := h
  rcases h2 with h2 | h2
  · omega
  · rw [h2] at b; cases b
theorem inBk.at {G : XG} {f : Nat → Option Nat} {v : Int} {q : Nat} (h : inBk G f v) (h2 : f v.toNat = some q) : (G.1 q 1).toInt = v := by
  obtain ⟨-, q2, b, c⟩ := h
  rw [h2] at b
  cases b
  exact c
/-! what an act leaves behind: the verdict, how many were asked -/
def isN (o : Option Qt) : Int := match o with
  | none => 1
  | some _ => 0
def isS (o : Option Qt) : Int := match o with
  | none => 0
  | some _ => 1
noncomputable def acV (op : Int) (L : List Qt) : Option Qt := match fqF (upF prS L) with
  | some x => some x
  | none => if op = 0 then fqF (upF ltS L) else none
noncomputable def acK (op : Int) (L : List Qt) : Int := (((upF prS L).length : Nat) : Int) + (match fqF (upF prS L) with
  | some _ => 0
  | none => if op = 0 then (((upF ltS L).length : Nat) : Int) else 0)
noncomputable def acC (op : Int) (L : List Qt) : Int := match fqF (upF prS L) with
  | some _ => 0
  | none => if op = 0 then isN (fqF (upF ltS L)) else 0
noncomputable def acB (op : Int) (L : List Qt) : Int := match fqF (upF prS L) with
  | some _ => 0
  | none => if op = 0 then isS (fqF (upF ltS L)) else 0
def acA (op : Int) (L w0 w1 : List Qt) : Prop := match fqF (upF prS L) with
  | some _ => w1 = w0
  | none => if op = 0 then w1 = upF ltS L ∧ ((L.length : Nat) : Int) ≤ 1080 else w1 = w0
theorem ac_s {L : List Qt} {x : Qt} (h : fqF (upF prS L) = some x) (op : Int) (w0 w1 : List Qt) : acV op L = some x ∧ acK op L = (((upF prS L).length : Nat) : Int) ∧ acC op L = 0 ∧ acB op L = 0 ∧ (w1 = w0 → acA op L w0 w1) := by
  unfold acV acK acC acB acA
  rw [h]
  dsimp only
  exact ⟨rfl, by omega, rfl, rfl, fun e => e⟩
theorem ac_n {L : List Qt} (h : fqF (upF prS L) = none) {op : Int} (ho : op ≠ 0) (w0 w1 : List Qt) : acV op L = none ∧ acK op L = (((upF prS L).length : Nat) : Int) ∧ acC op L = 0 ∧ acB op L = 0 ∧ (w1 = w0 → acA op L w0 w1) := by
  unfold acV acK acC acB acA
  rw [h]
  dsimp only
  rw [if_neg ho, if_neg ho, if_neg ho, if_neg ho, if_neg ho]
  exact ⟨rfl, by omega, rfl, rfl, fun e => e⟩
theorem ac_o {L : List Qt} (h : fqF (upF prS L) = none) {op : Int} (ho : op = 0) (w0 w1 : List Qt) : acV op L = fqF (upF ltS L) ∧ acK op L = (((upF prS L).length : Nat) : Int) + (((upF ltS L).length : Nat) : Int) ∧ acC op L = isN (fqF (upF ltS L)) ∧ acB op L = isS (fqF (upF ltS L)) ∧ (w1 = upF ltS L → ((L.length : Nat) : Int) ≤ 1080 → acA op L w0 w1) := by
  unfold acV acK acC acB acA
  rw [h]
  dsimp only
  rw [if_pos ho, if_pos ho, if_pos ho, if_pos ho, if_pos ho]
  exact ⟨rfl, rfl, rfl, rfl, fun e e2 => ⟨e, e2⟩⟩
theorem upF_ex {sel : Qt → Bool} : ∀ (l : List Qt) (n : Nat) (x : Qt), l[n]? = some x → sel x = true → x.2.2.2.2.2 ≠ 0 → fqF (upF sel l) ≠ none
  | [], n, x, h, _, _ => by cases h
  | y :: l, 0, x, h, h1, h2 => by
    cases h
    rw [upF_f h1 h2]
    unfold fqF
    rw [if_pos h2]
    exact fun q => by cases q
  | y :: l, n + 1, x, h, h1, h2 => by
    have i := upF_ex l n x h h1 h2
    by_cases c : sel y = true
    · by_cases c2 : y.2.2.2.2.2 ≠ 0
      · rw [upF_f c c2]
        unfold fqF
        rw [if_pos c2]
        exact fun q => by cases q
      · have c3 : y.2.2.2.2.2 = 0 := Classical.byContradiction c2
        rw [upF_y c c3]
        unfold fqF
        rw [if_neg c2]
        exact i
    · rw [upF_n c]
      exact i
theorem pr_fl (L : List Qt) : fqF (upF prS L) = none ↔ ∀ x, x ∈ L → x.2.2.2.2.1 = 0 → x.2.2.2.2.2 = 0 := by
  constructor
  · intro h x hx h1
    apply Classical.byContradiction
    intro h2
    obtain ⟨n, hn⟩ := List.mem_iff_getElem?.mp hx
    exact absurd h (upF_ex (sel := prS) L n x hn (decide_eq_true h1) h2)
  · intro h
    exact (upF_all L (fun x hx h1 => h x hx (of_decide_eq_true h1))).2
theorem fqF_at {x : Qt} (hx : x.2.2.2.2.2 ≠ 0) : ∀ (l : List Qt) (n : Nat), l[n]? = some x → (∀ (j : Nat) (y : Qt), j < n → l[j]? = some y → y.2.2.2.2.2 = 0) → fqF l = some x
  | [], n, h, _ => by cases h
  | y :: l, 0, h, _ => by
    cases h
    unfold fqF
    exact if_pos hx
  | y :: l, n + 1, h, h2 => by
    have z := h2 0 y (by omega) rfl
    unfold fqF
    rw [if_neg (fun q => q z)]
    exact fqF_at hx l n h (fun j w hj hw => h2 (j + 1) w (by omega) hw)
theorem fqL_at {G : XG} {F : Nat → Nat → Nat} {a : Nat} {r : Int} (h1 : r = -1 ∨ (0 ≤ r ∧ r < (G.1 a 6).toInt ∧ aI (G.2.1 (F a 5)) r = 1)) (h2 : ∀ j : Int, 0 ≤ j → j < (G.1 a 6).toInt → (r = -1 ∨ j < r) → aI (G.2.1 (F a 5)) j = 0) (hr : r ≠ -1) : fqF (qL G F a) = some (qt (G.2.1 (F a 0)) (G.2.1 (F a 1)) (G.2.1 (F a 2)) (G.2.1 (F a 3)) (G.2.1 (F a 4)) (G.2.1 (F a 5)) r.toNat) := by
  rcases h1 with h | ⟨a1, a2, a3⟩
  · exact absurd h hr
  · refine fqF_at (show aI (G.2.1 (F a 5)) r ≠ 0 by rw [a3]; decide) _ r.toNat (qL_at ⟨a1, a2⟩) (fun j y hj hy => ?_)
    obtain ⟨hj1, rfl⟩ := qL_get hy
    exact h2 (j : Int) (by omega) hj1 (Or.inr (by omega))
theorem fqF_no {l : List Qt} (h : ∀ x, x ∈ l → x.2.2.2.2.2 = 0) : fqF l = none := by
  induction l with
  | nil => rfl
  | cons y l ih =>
    unfold fqF
    rw [if_neg (fun q => q (h y List.mem_cons_self))]
    exact ih (fun x hx => h x (List.mem_cons_of_mem _ hx))
theorem upF_len {sel : Qt → Bool} : ∀ l : List Qt, (upF sel l).length ≤ l.length
  | [] => Nat.le_refl _
  | x :: l => by
    have i := upF_len (sel := sel) l
    by_cases c : sel x = true
    · by_cases d : x.2.2.2.2.2 ≠ 0
      · rw [upF_f c d]
        exact Nat.succ_le_succ (Nat.zero_le _)
      · rw [upF_y c (Classical.byContradiction d)]
        exact Nat.succ_le_succ i
    · rw [upF_n c]
      exact Nat.le_succ_of_le i
