/-! ===== acts: what they leave alone ===== -/
theorem XFr.rule {K : Nat → Nat} {d : List (Nat × Nat)} {c r : List Nat} {G u : XG} (h : XFr d c r G u) (hd : ∀ p, p ∈ d → K p.1 ≠ 9) {q : Nat} (hq : K q = 9) : u.1 q = G.1 q := funext (fun j => h.1 q j (fun hm => hd _ hm hq))
theorem gaq_cg {G u : XG} {r1 r2 : Int → Int} {w : Int} {o : Option Nat} (h : ∀ q, o = some q → u.1 q = G.1 q) : gaq u r1 r2 w o = gaq G r1 r2 w o := by
  cases o with
  | none => rfl
  | some q =>
    show (if w = 0 ∨ ((u.1 q 9).toInt = 1 ∧ w = 1) ∨ ((u.1 q 9).toInt = 0 ∧ w ≠ 1) then uqs r1 r2 (u.1 q) else []) = (if w = 0 ∨ ((G.1 q 9).toInt = 1 ∧ w = 1) ∨ ((G.1 q 9).toInt = 0 ∧ w ≠ 1) then uqs r1 r2 (G.1 q) else [])
    rw [h q rfl]
theorem gaL_cg {G u : XG} {f : Nat → Option Nat} {r1 r2 : Int → Int} {w : Int} {n : Nat} (h : ∀ i q, i < n → f i = some q → u.1 q = G.1 q) : gaL u f r1 r2 w n = gaL G f r1 r2 w n := by
  induction n with
  | zero => rfl
  | succ n ih => rw [gaL_s, gaL_s, ih (fun i q hi => h i q (by omega)), gaq_cg (fun q hq => h n q (by omega) hq)]
/-- the rules that the book has by number, or in order, are rules, and well -/
def BKr (K : Nat → Nat) (G : XG) (f : Nat → Option Nat) : Prop := ∀ (i q : Nat), i < 12 → f i = some q → K q = 9 ∧ RW (G.1 q)
theorem BKr.rw {K : Nat → Nat} {G : XG} {f : Nat → Option Nat} (h : BKr K G f) : ∀ (i q : Nat), i < 12 → f i = some q → RW (G.1 q) := fun i q hi hf => (h i q hi hf).2
theorem BKr.fr {K : Nat → Nat} {d : List (Nat × Nat)} {c r : List Nat} {G u : XG} {f : Nat → Option Nat} (h : BKr K G f) (hf : XFr d c r G u) (hd : ∀ p, p ∈ d → K p.1 ≠ 9) : BKr K u f := fun i q hi hq => ⟨(h i q hi hq).1, by rw [hf.rule hd (h i q hi hq).1]; exact (h i q hi hq).2⟩
theorem qL_nil {G : XG} {F : Nat → Nat → Nat} {a : Nat} (h : (G.1 a 6).toInt = 0) : qL G F a = [] := by
  show lst _ (G.1 a 6).toInt.toNat = []
  rw [h]
  rfl
/-- what an act does: op: within a TRANSACTION; L: what it touches; rows ahead, behind, on paper; what waits ahead, behind, anew -/
def ActR (op r : Int) (L : List Qt) (n0 n1 p : Int → Int) (w0 w1 wn : List Qt) : Prop :=
  (((∃ x, x ∈ L ∧ x.2.2.2.2.1 = 0 ∧ x.2.2.2.2.2 ≠ 0) ∨ (op = 0 ∧ ∃ x, x ∈ L ∧ x.2.2.2.2.1 ≠ 0 ∧ x.2.2.2.2.2 ≠ 0)) ∧ r = -5 ∧ n1 = n0 ∧ w1 = w0) ∨
  ((∀ x, x ∈ L → x.2.2.2.2.1 = 0 → x.2.2.2.2.2 = 0) ∧ (op = 0 → ∀ x, x ∈ L → x.2.2.2.2.1 ≠ 0 → x.2.2.2.2.2 = 0) ∧ r = (L.length : Int) ∧ n1 = p ∧ (op = 0 → w1 = w0) ∧ (op ≠ 0 → w1 = wn))
theorem qL_len (G : XG) (F : Nat → Nat → Nat) (a : Nat) : (qL G F a).length = (G.1 a 6).toInt.toNat := lst_len _ _
