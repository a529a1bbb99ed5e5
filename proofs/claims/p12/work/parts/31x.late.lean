theorem RW.cg {q q2 : Nat → Int32} (h : RW q) (h0 : q2 0 = q 0) (h2 : q2 2 = q 2) (h3 : q2 3 = q 3) (h4 : q2 4 = q 4) : RW q2 := by
  unfold RW
  rw [h0, h2, h3, h4]
  exact h
theorem BKr.late {K : Nat → Nat} {G G2 : XG} {f : Nat → Option Nat} {p : Nat} {v : Int32} (h : BKr K G f) (e : G2 = dput G p 9 v) : BKr K G2 f := fun i q hi hq => ⟨(h i q hi hq).1, (h i q hi hq).2.cg (ld_j e (by decide)) (ld_j e (by decide)) (ld_j e (by decide)) (ld_j e (by decide))⟩
