theorem RO.bit {r b : Int → Int} (h : RO r b) {t k : Int} (h0 : 0 ≤ t ∧ t < 3 ∧ 0 ≤ k ∧ k < 30) : bI (b t) k = 1 ↔ cel r t k 0 ≠ -2000 := by
  rw [cel_in (by omega), Int.mul_zero, Int.add_zero]
  exact (h.1 t k h0.1 h0.2.1 h0.2.2.1 h0.2.2.2).1
def DFF (r1 r2 : Int → Int) (t k : Int) : Prop := cel r1 t k 0 ≠ cel r2 t k 0 ∨ cel r1 t k 1 ≠ cel r2 t k 1 ∨ cel r1 t k 2 ≠ cel r2 t k 2
def XRR (r1 r2 : Int → Int) (t k : Int) : Prop := ¬ (cel r1 t k 0 = -2000 ↔ cel r2 t k 0 = -2000)
theorem dff_x {r1 r2 b1 b2 : Int → Int} (h1 : RO r1 b1) (h2 : RO r2 b2) {t k : Int} (h : ¬ (cel r1 t k 0 ≠ -2000 ∧ cel r2 t k 0 ≠ -2000)) : DFF r1 r2 t k ↔ XRR r1 r2 t k := by
  have a1 := h1.absent t k 1 (by omega)
  have a2 := h1.absent t k 2 (by omega)
  have c1 := h2.absent t k 1 (by omega)
  have c2 := h2.absent t k 2 (by omega)
  unfold DFF XRR
  generalize cel r1 t k 0 = x0 at *
  generalize cel r1 t k 1 = x1 at *
  generalize cel r1 t k 2 = x2 at *
  generalize cel r2 t k 0 = y0 at *
  generalize cel r2 t k 1 = y1 at *
  generalize cel r2 t k 2 = y2 at *
  by_cases e0 : x0 = -2000 <;> by_cases e1 : y0 = -2000 <;> constructor <;> intro hh <;> omega
/-- how far the changed keys of the table t are told -/
def CHk (r1 r2 : Int → Int) (v t n : Int) : Prop := ∀ k : Int, 0 ≤ k → k < 30 → (bI v k = 1 ↔ (k < n ∧ DFF r1 r2 t k) ∨ (n ≤ k ∧ XRR r1 r2 t k))
theorem CHk.nxt {r1 r2 b1 b2 : Int → Int} (h1 : RO r1 b1) (h2 : RO r2 b2) {v v2 t n : Int} (h : CHk r1 r2 v t n) (h0 : 0 ≤ t ∧ t < 3 ∧ 0 ≤ n ∧ n < 30) (hv : (v2 = v ∧ (¬ (bI (b1 t) n = 1 ∧ bI (b2 t) n = 1) ∨ ¬ DFF r1 r2 t n)) ∨ ((∀ j : Int, 0 ≤ j → j < 32 → bI v2 j = if j = n then 1 else bI v j) ∧ DFF r1 r2 t n)) : CHk r1 r2 v2 t (n + 1) := by
  intro k k0 k1
  have q1 := h1.bit (t := t) (k := n) (by omega)
  have q2 := h2.bit (t := t) (k := n) (by omega)
  have hk := h k k0 k1
  rcases hv with ⟨e, hd⟩ | ⟨hb, hd⟩
  · subst e
    rw [hk]
    by_cases e : k = n
    · subst e
      have key : DFF r1 r2 t k ↔ XRR r1 r2 t k := by
        by_cases g : cel r1 t k 0 ≠ -2000 ∧ cel r2 t k 0 ≠ -2000
        · rcases hd with hd | hd
          · exact absurd ⟨q1.mpr g.1, q2.mpr g.2⟩ hd
          · refine ⟨fun z => absurd z hd, fun z => absurd ?_ z⟩
            exact ⟨fun w => absurd w g.1, fun w => absurd w g.2⟩
        · exact dff_x h1 h2 g
      constructor
      · rintro (⟨a, _⟩ | ⟨_, a⟩)
        · omega
        · exact Or.inl ⟨by omega, key.mpr a⟩
      · rintro (⟨_, a⟩ | ⟨a, _⟩)
        · exact Or.inr ⟨by omega, key.mp a⟩
        · omega
    · constructor
      · rintro (⟨a, b⟩ | ⟨a, b⟩)
        · exact Or.inl ⟨by omega, b⟩
        · exact Or.inr ⟨by omega, b⟩
      · rintro (⟨a, b⟩ | ⟨a, b⟩)
        · exact Or.inl ⟨by omega, b⟩
        · exact Or.inr ⟨by omega, b⟩
  · rw [hb k k0 (by omega)]
    by_cases e : k = n
    · subst e
      rw [if_pos rfl]
      exact ⟨fun _ => Or.inl ⟨by omega, hd⟩, fun _ => rfl⟩
    · rw [if_neg e, hk]
      constructor
      · rintro (⟨a, b⟩ | ⟨a, b⟩)
        · exact Or.inl ⟨by omega, b⟩
        · exact Or.inr ⟨by omega, b⟩
      · rintro (⟨a, b⟩ | ⟨a, b⟩)
        · exact Or.inl ⟨by omega, b⟩
        · exact Or.inr ⟨by omega, b⟩
theorem CHk_0 {r1 r2 b1 b2 : Int → Int} (h1 : RO r1 b1) (h2 : RO r2 b2) {v t : Int} (h0 : 0 ≤ t ∧ t < 3) (hx : ∀ j : Int, bI v j = 1 ↔ bI (b1 t) j ≠ bI (b2 t) j) : (∀ k : Int, 0 ≤ k → k < 30 → (bI v k = 1 ↔ XRR r1 r2 t k)) ∧ CHk r1 r2 v t 0 := by
  have key : ∀ k : Int, 0 ≤ k → k < 30 → (bI v k = 1 ↔ XRR r1 r2 t k) := by
    intro k k0 k1
    have q1 := h1.bit (t := t) (k := k) (by omega)
    have q2 := h2.bit (t := t) (k := k) (by omega)
    rw [hx k]
    unfold XRR
    have z1 := bI01 (b1 t) k
    have z2 := bI01 (b2 t) k
    constructor
    · intro hne hi
      apply hne
      rcases z1 with e | e <;> rcases z2 with e2 | e2
      · omega
      · exact absurd (hi.mp (Classical.byContradiction (fun w => by have := q1.mpr w; omega))) (q2.mp e2)
      · exact absurd (hi.mpr (Classical.byContradiction (fun w => by have := q2.mpr w; omega))) (q1.mp e)
      · omega
    · intro hn he
      apply hn
      constructor
      · intro w
        apply Classical.byContradiction
        intro w2
        exact absurd w (q1.mp (by rw [he]; exact q2.mpr w2))
      · intro w
        apply Classical.byContradiction
        intro w2
        exact absurd w (q2.mp (by rw [← he]; exact q1.mpr w2))
  exact ⟨key, fun k k0 k1 => (key k k0 k1).trans ⟨fun z => Or.inr ⟨k0, z⟩, fun z => z.elim (fun w => absurd w.1 (by omega)) (fun w => w.2)⟩⟩
theorem qL_cg {G u : XG} {F : Nat → Nat → Nat} {a : Nat} (hn : u.1 a 6 = G.1 a 6) (h0 : u.2.1 (F a 0) = G.2.1 (F a 0)) (h1 : u.2.1 (F a 1) = G.2.1 (F a 1)) (h2 : u.2.1 (F a 2) = G.2.1 (F a 2)) (h3 : u.2.1 (F a 3) = G.2.1 (F a 3)) (h4 : u.2.1 (F a 4) = G.2.1 (F a 4)) (h5 : u.2.1 (F a 5) = G.2.1 (F a 5)) : qL u F a = qL G F a := by
  unfold qL
  rw [hn, h0, h1, h2, h3, h4, h5]
section LA
variable {G G1 : XG} {a i b : Nat} {v : Int32} {o : Option Nat} {f : Nat → Int32}
theorem ld_A (h : G1 = dput G a i v) (hn : b ≠ a) : G1.1 b = G.1 b := by subst h; exact up2_ne hn
theorem lc_A (h : G1 = cput G a i v) : G1.1 b = G.1 b := by subst h; rfl
theorem lcc_A (h : G1 = ccopy G a f) : G1.1 b = G.1 b := by subst h; rfl
theorem lr_A (h : G1 = rput G a i o) : G1.1 b = G.1 b := by subst h; rfl
theorem fr_A {d : List (Nat × Nat)} {c r : List Nat} (h : XFr d c r G G1) (hn : ∀ j, (b, j) ∉ d) : G1.1 b = G.1 b := funext (fun j => h.1 b j (hn j))
end LA
theorem OFd.sb {r1 r2 cg ch : Int → Int} {kd t c o y : Int} (h : OFd r1 r2 cg ch kd t c o y) : sbj kd y := by
  rcases h with ⟨h1, h2, h3, _⟩ | ⟨_, k, _, _, _, _, h5⟩ | ⟨h1, h2, h3, _⟩
  · unfold sbj; omega
  · rcases h5 with ⟨e, h⟩ | ⟨e, h⟩
    · rw [e]; exact h
    · rw [e]; exact h
  · unfold sbj; omega
theorem filterMap_1n {α : Type} {g : Int → Option α} {x : Int} (h : g x = none) : [x].filterMap g = [] := by rw [List.filterMap_cons_none h]; rfl
theorem filterMap_1s {α : Type} {g : Int → Option α} {x : Int} {y : α} (h : g x = some y) : [x].filterMap g = [y] := by rw [List.filterMap_cons_some h]; rfl
