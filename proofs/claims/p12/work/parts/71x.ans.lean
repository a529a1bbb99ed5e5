/-! ===== what an act would tell ===== -/
def AnsR (op r : Int) (l : List Qt) : Prop := (r = -5 ∧ ∃ x, x ∈ l ∧ x.2.2.2.2.2 ≠ 0 ∧ (op = 0 ∨ x.2.2.2.2.1 = 0)) ∨ (r = ((l.length : Nat) : Int) ∧ ∀ x, x ∈ l → x.2.2.2.2.2 ≠ 0 → op ≠ 0 ∧ x.2.2.2.2.1 ≠ 0)
theorem AnsR.act {op r : Int} {l : List Qt} (h : AnsR op r l) (n0 p : Int → Int) : ∃ (n1 : Int → Int) (w1 : List Qt), ActR op r l n0 n1 p [] w1 [] := by
  rcases h with ⟨e, x, hx, f, g⟩ | ⟨e, h⟩
  · refine ⟨n0, [], Or.inl ⟨?_, e, rfl, rfl⟩⟩
    by_cases l0 : x.2.2.2.2.1 = 0
    · exact Or.inl ⟨x, hx, l0, f⟩
    · exact Or.inr ⟨g.resolve_right l0, x, hx, l0, f⟩
  · refine ⟨p, [], Or.inr ⟨fun x hx l0 => ?_, fun o x hx l0 => ?_, e, rfl, fun _ => rfl, fun _ => rfl⟩⟩
    · exact Classical.byContradiction (fun q => (h x hx q).2 l0)
    · exact Classical.byContradiction (fun q => (h x hx q).1 o)
def AnsM (op r : Int) (f : Nat → Int32) (r1 r2 : Int → Int) : Prop := ((ffP f r2 (fuO f r1 r2 0) ≠ -1 ∨ (op = 0 ∧ ffP f r2 (fuO f r1 r2 1) ≠ -1)) ∧ r = -5) ∨ (ffP f r2 (fuO f r1 r2 0) = -1 ∧ (op = 0 → ffP f r2 (fuO f r1 r2 1) = -1) ∧ r = (((fuO f r1 r2 2).length : Nat) : Int))
theorem AnsM.st {op r : Int} {f : Nat → Int32} {r1 r2 : Int → Int} (h : AnsM op r f r1 r2) : ∃ r3 : Int → Int, StR op r f r1 r2 r3 := by
  rcases h with ⟨a, e⟩ | ⟨a, b, e⟩
  · exact ⟨r1, Or.inl ⟨a, e, rfl⟩⟩
  · exact ⟨r2, Or.inr ⟨a, b, e, rfl⟩⟩
