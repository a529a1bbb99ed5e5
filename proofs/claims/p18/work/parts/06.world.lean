section
/-! ===== the world ===== -/
abbrev XE : Type := va_G × (Nat → ClassId) × Nat × Nat × (Nat → Nat) × (Nat → Nat)
/-- int fields, int rows, rows of references, the law's row of longs: all by address -/
abbrev XG : Type := (Nat → Nat → Int32) × (Nat → Nat → Int32) × (Nat → Nat → Option Nat) × (Nat → Int64)
def xA (E : XE) : Nat → Prop := fun q => E.2.2.1 ≤ q
def xty (cs : Nat → ClassId) : List (ClassId × FieldType) := [(cs 0, .int), (cs 1, .char), (cs 2, .byte), (cs 3, .boolean), (cs 4, .object "LateRules$Rule"), (cs 5, .object "LateRules$Rows"), (cs 6, .long)]
def up2 {α : Type} (f : Nat → Nat → α) (a i : Nat) (v : α) : Nat → Nat → α := fun b j => if b = a ∧ j = i then v else f b j
def upr {α : Type} (f : Nat → Nat → α) (a : Nat) (g : Nat → α) : Nat → Nat → α := fun b => if b = a then g else f b
theorem up2_ne {α : Type} {f : Nat → Nat → α} {a i b : Nat} {v : α} (h : b ≠ a) : up2 f a i v b = f b := by
  funext j
  unfold up2
  rw [if_neg (fun q => h q.1)]
theorem up2_at {α : Type} {f : Nat → Nat → α} {a i : Nat} {v : α} : up2 f a i v a i = v := by
  unfold up2
  rw [if_pos ⟨rfl, rfl⟩]
theorem up2_nj {α : Type} {f : Nat → Nat → α} {a i b j : Nat} {v : α} (h : j ≠ i) : up2 f a i v b j = f b j := by
  unfold up2
  rw [if_neg (fun q => h q.2)]
theorem upr_ne {α : Type} {f : Nat → Nat → α} {a b : Nat} {g : Nat → α} (h : b ≠ a) : upr f a g b = f b := by
  unfold upr
  rw [if_neg h]
theorem upr_at {α : Type} {f : Nat → Nat → α} {a : Nat} {g : Nat → α} : upr f a g a = g := by
  unfold upr
  rw [if_pos rfl]
theorem up2_r {f : Nat → Nat → Int32} {a i : Nat} {v : Int32} : up2 f a i v = upr f a (upd (f a) i v) := by
  funext b j
  unfold up2 upr upd
  by_cases h : b = a
  · subst h
    rw [if_pos rfl]
    by_cases h2 : j = i
    · rw [if_pos ⟨rfl, h2⟩, if_pos h2]
    · rw [if_neg (fun q => h2 q.2), if_neg h2]
  · rw [if_neg (fun q => h q.1), if_neg h]

def xat (k : Nat) : Option (Nat × Nat) := ([(0, 270), (0, 3), (0, 1080), (3, 1080), (0, 90), (1, 80), (0, 6), (0, 4), (0, 1), (0, 1), (0, 360), (0, 360), (0, 2880), (0, 360), (0, 360), (0, 6), (0, 4), (0, 120), (0, 2388), (0, 2388), (0, 2388), (0, 2388), (0, 12), (0, 2400), (0, 2400), (2, 24), (1, 3), (1, 4), (1, 5), (1, 6), (1, 7), (2, 80), (0, 10), (0, 2400), (0, 2400), (0, 90), (0, 90), (0, 90), (0, 90), (3, 90)] : List (Nat × Nat))[k - 20]?
def xok (tc : Nat) (v : Int32) : Prop := match tc with
  | 1 => narrow .char (.int v) = .int v
  | 2 => narrow .byte (.int v) = .int v
  | 3 => narrow .boolean (.int v) = .int v
  | _ => True
def SHP (E : XE) (K : Nat → Nat) (F : Nat → Nat → Nat) (d c : Nat → Int32) (r : Nat → Option Nat) (l : Nat → Int64) (a k : Nat) (e : va_E) : Prop := match k with
  | 2 => e = .inr (1, [.ref (F a 0), .ref (F a 1), .int (d 2)]) ∧ K (F a 0) = 15 ∧ F (F a 0) 99 = 0 ∧ K (F a 1) = 15 ∧ F (F a 1) 99 = 1
  | 3 => e = .inr (2, [.ref (F a 0), .ref (F a 1), .ref (F a 2), .int (d 3)]) ∧ K (F a 0) = 21 ∧ F (F a 0) 99 = 100 ∧ K (F a 1) = 21 ∧ F (F a 1) 99 = 101 ∧ K (F a 2) = 24 ∧ F (F a 2) 99 = 4
  | 4 => e = .inr (3, [.ref (F a 0), .ref (F a 1), .ref (F a 2), .ref (F a 3), .int (d 4)]) ∧ K (F a 0) = 24 ∧ F (F a 0) 99 = 0 ∧ K (F a 1) = 24 ∧ F (F a 1) 99 = 1 ∧ K (F a 2) = 24 ∧ F (F a 2) 99 = 2 ∧ K (F a 3) = 24 ∧ F (F a 3) 99 = 3
  | 5 => e = .inr (4, [.ref (F a 0), .ref (F a 1), .ref (F a 2), .int (d 3)]) ∧ K (F a 0) = 21 ∧ F (F a 0) 99 = 102 ∧ K (F a 1) = 24 ∧ F (F a 1) 99 = 5 ∧ K (F a 2) = 24 ∧ F (F a 2) 99 = 6
  | 6 => e = .inr (5, [.ref (F a 0), .ref (F a 1), .ref (F a 2), .ref (F a 3), .ref (F a 4), .ref (F a 5), .int (d 6)]) ∧ K (F a 0) = 22 ∧ F (F a 0) 99 = 10 * F a 99 + 0 ∧ K (F a 1) = 22 ∧ F (F a 1) 99 = 10 * F a 99 + 1 ∧ K (F a 2) = 22 ∧ F (F a 2) 99 = 10 * F a 99 + 2 ∧ K (F a 3) = 22 ∧ F (F a 3) 99 = 10 * F a 99 + 3 ∧ K (F a 4) = 23 ∧ F (F a 4) 99 = 10 * F a 99 + 4 ∧ K (F a 5) = 23 ∧ F (F a 5) 99 = 10 * F a 99 + 5
  | 7 => e = .inr (6, [.ref (F a 0), .int (d 1), .int (d 2), .int (d 3), .int (d 4), .int (d 5)]) ∧ K (F a 0) = 10 ∧ F (F a 0) 99 = 0 ∧ (d 5 = 0 ∨ d 5 = 1)
  | 8 => e = .inr (7, [.ref (F a 0), .ref (F a 1)]) ∧ K (F a 0) = 20 ∧ F (F a 0) 99 = F a 99 ∧ K (F a 1) = 21 ∧ F (F a 1) 99 = F a 99
  | 9 => e = .inr (8, [.int (d 0), .int (d 1), .int (d 2), .int (d 3), .int (d 4), .int (d 5), .int (d 6), .int (d 7), .int (d 8), .int (d 9)]) ∧ (d 9 = 0 ∨ d 9 = 1)
  | 10 => e = .inr (9, [.ref (F a 0), .int (d 1)]) ∧ K (F a 0) = 25 ∧ F (F a 0) 99 = 0
  | 11 => e = .inr (10, [.ref E.2.2.2.1, .int (d 1), .int (d 2), .int (d 3)]) ∧ (d 1 = 0 ∨ d 1 = 1)
  | 12 => e = .inr (11, [.ref (F a 0), .ref (F a 1), .ref (F a 2), .ref (F a 3), .ref (F a 4), .ref (F a 5), .ref (F a 6), .ref (F a 7), .ref (F a 8), .ref (F a 9), .ref (F a 10), .ref (F a 11), .ref (F a 12), .ref (F a 13), .ref (F a 14), .ref (F a 15), .ref (F a 16), .int (d 17), .int (d 18)]) ∧ K (F a 0) = 10 ∧ F (F a 0) 99 = 0 ∧ K (F a 1) = 7 ∧ F (F a 1) 99 = 0 ∧ K (F a 2) = 2 ∧ F (F a 2) 99 = 0 ∧ K (F a 3) = 8 ∧ F (F a 3) 99 = 0 ∧ K (F a 4) = 8 ∧ F (F a 4) 99 = 1 ∧ K (F a 5) = 8 ∧ F (F a 5) 99 = 2 ∧ K (F a 6) = 8 ∧ F (F a 6) 99 = 3 ∧ K (F a 7) = 16 ∧ F (F a 7) 99 = 0 ∧ K (F a 8) = 6 ∧ F (F a 8) 99 = 0 ∧ K (F a 9) = 6 ∧ F (F a 9) 99 = 1 ∧ K (F a 10) = 6 ∧ F (F a 10) 99 = 2 ∧ K (F a 11) = 3 ∧ F (F a 11) 99 = 0 ∧ K (F a 12) = 4 ∧ F (F a 12) 99 = 0 ∧ K (F a 13) = 5 ∧ F (F a 13) 99 = 0 ∧ K (F a 14) = 11 ∧ F (F a 14) 99 = 0 ∧ K (F a 15) = 26 ∧ F (F a 15) 99 = 0 ∧ K (F a 16) = 27 ∧ F (F a 16) 99 = 0 ∧ (d 18 = 0 ∨ d 18 = 1)
  | 13 => e = .inr (12, [.int (d 0), .ref (F a 1), .ref (F a 2), .ref (F a 3), .ref (F a 4), .ref (F a 5), .int (d 6), .int (d 7), .ref (F a 8), .ref (F a 9), .ref (F a 10), .ref (F a 11), .ref (F a 12), .ref (F a 13), .ref (F a 14), .ref (F a 15), .int (d 16), .ref (F a 17), .ref (F a 18), .int (d 19), .int (d 20), .int (d 21), .ref (F a 22), .int (d 23), .ref (F a 24), .ref (F a 25), .ref (F a 26), .ref (F a 27), .ref (F a 28), .ref (F a 29), .ref (F a 30), .ref (F a 31), .ref (F a 32), .ref (F a 33), .ref (F a 34), .ref (F a 35), .int (d 36), .int (d 37), .int (d 38), .int (d 39), .ref (F a 40), .ref (F a 41), .ref (F a 42), .int (d 43), .int (d 44), .int (d 45), .int (d 46), .ref (F a 47), .ref (F a 48), .ref (F a 49), .ref (F a 50), .ref (F a 51)]) ∧ K (F a 1) = 30 ∧ F (F a 1) 99 = 1 ∧ K (F a 2) = 31 ∧ F (F a 2) 99 = 2 ∧ K (F a 3) = 32 ∧ F (F a 3) 99 = 3 ∧ K (F a 4) = 31 ∧ F (F a 4) 99 = 4 ∧ K (F a 5) = 34 ∧ F (F a 5) 99 = 5 ∧ (d 6 = 0 ∨ d 6 = 1) ∧ K (F a 8) = 35 ∧ F (F a 8) 99 = 8 ∧ K (F a 9) = 36 ∧ F (F a 9) 99 = 9 ∧ K (F a 10) = 37 ∧ F (F a 10) 99 = 10 ∧ K (F a 11) = 38 ∧ F (F a 11) 99 = 11 ∧ K (F a 12) = 38 ∧ F (F a 12) 99 = 12 ∧ K (F a 13) = 38 ∧ F (F a 13) 99 = 13 ∧ K (F a 14) = 38 ∧ F (F a 14) 99 = 14 ∧ K (F a 15) = 42 ∧ F (F a 15) 99 = 15 ∧ K (F a 17) = 43 ∧ F (F a 17) 99 = 17 ∧ K (F a 18) = 44 ∧ F (F a 18) 99 = 18 ∧ K (F a 22) = 45 ∧ F (F a 22) 99 = 22 ∧ K (F a 24) = 47 ∧ F (F a 24) 99 = 24 ∧ K (F a 25) = 49 ∧ F (F a 25) 99 = 25 ∧ K (F a 26) = 49 ∧ F (F a 26) 99 = 26 ∧ K (F a 27) = 48 ∧ F (F a 27) 99 = 27 ∧ K (F a 28) = 46 ∧ F (F a 28) 99 = 28 ∧ K (F a 29) = 48 ∧ F (F a 29) 99 = 29 ∧ K (F a 30) = 47 ∧ F (F a 30) 99 = 30 ∧ K (F a 31) = 50 ∧ F (F a 31) 99 = 31 ∧ K (F a 32) = 48 ∧ F (F a 32) 99 = 32 ∧ K (F a 33) = 47 ∧ F (F a 33) 99 = 33 ∧ K (F a 34) = 47 ∧ F (F a 34) 99 = 34 ∧ K (F a 35) = 51 ∧ F (F a 35) 99 = 35 ∧ (d 39 = 0 ∨ d 39 = 1) ∧ K (F a 40) = 52 ∧ F (F a 40) 99 = 40 ∧ K (F a 41) = 53 ∧ F (F a 41) 99 = 41 ∧ K (F a 42) = 54 ∧ F (F a 42) 99 = 42 ∧ K (F a 47) = 55 ∧ F (F a 47) 99 = 47 ∧ K (F a 48) = 56 ∧ F (F a 48) 99 = 48 ∧ K (F a 49) = 57 ∧ F (F a 49) 99 = 49 ∧ K (F a 50) = 58 ∧ F (F a 50) 99 = 50 ∧ K (F a 51) = 59 ∧ F (F a 51) 99 = 51
  | 14 => e = .inl (E.2.1 6, 1, .inr (.inl l))
  | 15 => e = .inl (E.2.1 4, 12, .inr (.inr (.inr (.inr r)))) ∧ ∀ i q, r i = some q → K q = 9
  | 16 => e = .inl (E.2.1 5, 8, .inr (.inr (.inr (.inr r)))) ∧ ∀ i, i < 8 → ∃ q, r i = some q ∧ K q = 8 ∧ F q 99 = 4 + i
  | k => ∃ (tc n : Nat), xat k = some (tc, n) ∧ e = .inl (E.2.1 tc, n, .inl c) ∧ ∀ i, xok tc (c i)
abbrev SHQ (E : XE) (K : Nat → Nat) (F : Nat → Nat → Nat) (G : XG) (a k : Nat) (e : va_E) : Prop := SHP E K F (G.1 a) (G.2.1 a) (G.2.2.1 a) G.2.2.2 a k e
def XB (E : XE) (K : Nat → Nat) (ws : va_W) : Prop := ∃ (i j v n : Nat) (f : Nat → Int32) (ml cnt : Int32), ws[i]? = some (E.2.2.2.1, .inr (0, [.ref v, .int 0, .int ml, .int cnt])) ∧ ws[j]? = some (v, .inl (E.2.1 2, n, .inl f)) ∧ K E.2.2.2.1 = 0 ∧ K v = 0 ∧ (∀ q, xok 2 (f q)) ∧ 0 ≤ cnt.toInt ∧ cnt.toInt ≤ n ∧ n ≤ 100
def TWl (E : XE) (K : Nat → Nat) (F : Nat → Nat → Nat) (G : XG) (ws : va_W) : Prop := (∀ a : Nat, K a ≠ 0 → ∃ (i : Nat) (e : va_E), ws[i]? = some (a, e) ∧ SHQ E K F G a (K a) e) ∧ XB E K ws
def TW (E : XE) (K : Nat → Nat) (F : Nat → Nat → Nat) (G : XG) (H : Heap) : Prop := ∃ ws, TWl E K F G ws ∧ va_P E.1 vwCl ws H ∧ va_D (xA E) ws
theorem set_at {ws : va_W} {i i' : Nat} {a b : Nat} {e e' x : va_E} (he : ws[i]? = some (a, e)) (hi : ws[i']? = some (b, x)) (hne : b ≠ a) : (ws.set i (a, e'))[i']? = some (b, x) := by
  have h : i ≠ i' := by
    intro h
    subst h
    rw [he] at hi
    exact hne (congrArg Prod.fst (Option.some.inj hi)).symm
  rw [List.getElem?_set_ne h]
  exact hi
theorem set_here {ws : va_W} {i a : Nat} {e e' : va_E} (he : ws[i]? = some (a, e)) : (ws.set i (a, e'))[i]? = some (a, e') := by
  rw [List.getElem?_set_self]
  exact (List.getElem?_eq_some_iff.mp he).1
theorem XB.set {E : XE} {K : Nat → Nat} {ws : va_W} {i a : Nat} {e e' : va_E} (h : XB E K ws) (he : ws[i]? = some (a, e)) (hk : K a ≠ 0) : XB E K (ws.set i (a, e')) := by
  obtain ⟨i1, j1, v, n, f, ml, cnt, h1, h2, h3, h4, h5⟩ := h
  refine ⟨i1, j1, v, n, f, ml, cnt, set_at he h1 ?_, set_at he h2 ?_, h3, h4, h5⟩
  · intro q; rw [q] at h3; exact hk h3
  · intro q; rw [q] at h4; exact hk h4
/-- what is told changes at the address a alone (a row of longs: there is one) -/
def XGa (K : Nat → Nat) (a : Nat) (G G' : XG) : Prop := ∀ b, b ≠ a → G'.1 b = G.1 b ∧ G'.2.1 b = G.2.1 b ∧ G'.2.2.1 b = G.2.2.1 b ∧ (K b = 14 → G'.2.2.2 = G.2.2.2)
theorem SHP.lg {E : XE} {K : Nat → Nat} {F : Nat → Nat → Nat} {d c : Nat → Int32} {r : Nat → Option Nat} {l l' : Nat → Int64} {a k : Nat} {e : va_E} (hl : k = 14 → l' = l) (h : SHP E K F d c r l a k e) : SHP E K F d c r l' a k e := by
  by_cases e9 : k = 14
  · rw [hl e9]
    exact h
  · unfold SHP at h ⊢
    split at h
    all_goals first | exact h | exact absurd rfl e9 | (split <;> first | exact h | (exfalso; simp_all; done))
theorem TWl.set {E : XE} {K : Nat → Nat} {F : Nat → Nat → Nat} {G G' : XG} {ws : va_W} {i a : Nat} {e e' : va_E} (h : TWl E K F G ws) (he : ws[i]? = some (a, e)) (hk : K a ≠ 0) (hg : XGa K a G G') (hs : SHQ E K F G' a (K a) e') : TWl E K F G' (ws.set i (a, e')) := by
  refine ⟨fun b hb => ?_, h.2.set he hk⟩
  by_cases hab : b = a
  · subst hab
    exact ⟨i, e', set_here he, hs⟩
  · obtain ⟨i2, e2, h1, h2⟩ := h.1 b hb
    obtain ⟨g1, g2, g3, g4⟩ := hg b hab
    refine ⟨i2, e2, set_at he h1 hab, ?_⟩
    show SHP E K F (G'.1 b) (G'.2.1 b) (G'.2.2.1 b) G'.2.2.2 b (K b) e2
    rw [g1, g2, g3]
    exact SHP.lg g4 h2
theorem TW.lt {E : XE} {K : Nat → Nat} {F : Nat → Nat → Nat} {G : XG} {H : Heap} (h : TW E K F G H) {a : Nat} (ha : K a ≠ 0) : a < H.size := by
  obtain ⟨ws, h1, h2, -⟩ := h
  obtain ⟨i, e, h3, -⟩ := h1.1 a ha
  exact (h2 i _ h3).lt
theorem TW.at {E : XE} {K : Nat → Nat} {F : Nat → Nat → Nat} {G : XG} {H : Heap} (h : TW E K F G H) {a k : Nat} (ha : K a = k) (hk : k ≠ 0) : ∃ (ws : va_W) (i : Nat) (e : va_E), TWl E K F G ws ∧ va_P E.1 vwCl ws H ∧ va_D (xA E) ws ∧ ws[i]? = some (a, e) ∧ SHQ E K F G a k e := by
  obtain ⟨ws, h1, h2, h3⟩ := h
  obtain ⟨i, e, h4, h5⟩ := h1.1 a (by rw [ha]; exact hk)
  rw [ha] at h5
  exact ⟨ws, i, e, h1, h2, h3, h4, h5⟩
def dput (G : XG) (a j : Nat) (v : Int32) : XG := (up2 G.1 a j v, G.2)
def cput (G : XG) (a i : Nat) (v : Int32) : XG := (G.1, up2 G.2.1 a i v, G.2.2)
def ccopy (G : XG) (a : Nat) (f : Nat → Int32) : XG := (G.1, upr G.2.1 a f, G.2.2)
def rput (G : XG) (a i : Nat) (v : Option Nat) : XG := (G.1, G.2.1, up2 G.2.2.1 a i v, G.2.2.2)
theorem XGa.d {K : Nat → Nat} {G : XG} {a j : Nat} {v : Int32} : XGa K a G (dput G a j v) := fun b h => ⟨up2_ne h, rfl, rfl, fun _ => rfl⟩
theorem XGa.c {K : Nat → Nat} {G : XG} {a i : Nat} {v : Int32} : XGa K a G (cput G a i v) := fun b h => ⟨rfl, up2_ne h, rfl, fun _ => rfl⟩
theorem XGa.cc {K : Nat → Nat} {G : XG} {a : Nat} {f : Nat → Int32} : XGa K a G (ccopy G a f) := fun b h => ⟨rfl, upr_ne h, rfl, fun _ => rfl⟩
theorem XGa.r {K : Nat → Nat} {G : XG} {a i : Nat} {v : Option Nat} : XGa K a G (rput G a i v) := fun b h => ⟨rfl, rfl, up2_ne h, fun _ => rfl⟩

def xnl : List (String × Nat × MethodName) := [("LateRules$Reader", 81, ⟨"LateRules", "wordOf", "(I)Ljava/lang/String;"⟩), ("LateRules$Rows", 24, ⟨"LateRules", "isTable", "(I)Z"⟩), ("LateRules$Rows", 28, ⟨"LateRules", "isKey", "(I)Z"⟩), ("LateRules$Rows", 31, ⟨"LateRules", "isColumn", "(I)Z"⟩), ("LateRules$Comparison", 31, ⟨"LateRules", "isTable", "(I)Z"⟩), ("LateRules$Rule", 32, ⟨"LateRules", "isKey", "(I)Z"⟩), ("LateRules$Rule", 36, ⟨"LateRules", "isSubjectValue", "(I)Z"⟩), ("LateRules$Leaners", 65, ⟨"LateRules", "isTable", "(I)Z"⟩), ("LateRules$Leaners", 69, ⟨"LateRules", "isKey", "(I)Z"⟩), ("LateRules$Comparison", 35, ⟨"LateRules", "isKey", "(I)Z"⟩)]
def xsl : List (String × Nat × String) := [("LateRules", 374, "unique"), ("LateRules", 376, "refers"), ("LateRules", 378, "range"), ("LateRules", 380, "sum"), ("LateRules", 382, "count"), ("LateRules", 384, "tree"), ("LateRules$Reader", 85, "cascade"), ("LateRules$Reader", 87, "clear"), ("LateRules$Reader", 63, "late"), ("LateRules$Reader", 71, "rank"), ("LateRules$Verdict", 33, "rule "), ("LateRules", 260, "no such row or column"), ("LateRules", 299, "no such question in the queue")]
def xlen : List Nat := [6, 6, 5, 3, 5, 4, 7, 5, 4, 4, 5, 21, 29]
def xbyt : List (List Int32) := [[117, 110, 105, 113, 117, 101], [114, 101, 102, 101, 114, 115], [114, 97, 110, 103, 101], [115, 117, 109], [99, 111, 117, 110, 116], [116, 114, 101, 101], [99, 97, 115, 99, 97, 100, 101], [99, 108, 101, 97, 114], [108, 97, 116, 101], [114, 97, 110, 107], [114, 117, 108, 101, 32], [110, 111, 32, 115, 117, 99, 104, 32, 114, 111, 119, 32, 111, 114, 32, 99, 111, 108, 117, 109, 110], [110, 111, 32, 115, 117, 99, 104, 32, 113, 117, 101, 115, 116, 105, 111, 110, 32, 105, 110, 32, 116, 104, 101, 32, 113, 117, 101, 117, 101]]
/-- strings and statics, which lie outside of the world -/
def XS (E : XE) (U : State) (H : Heap) : Prop := vk_S 13 xlen xbyt E.2.2.2.2.1 E.2.2.2.2.2 (xA E) U H ∧ va_Z "java/lang/String" "COMPACT_STRINGS" "Z" (.int 1) (xA E) U H ∧ va_Zq "jdk/internal/util/Preconditions" "SIOOBE_FORMATTER" "Ljava/util/function/BiFunction;" (xA E) U H ∧ vx_Zq Bundle.tN "UNASSIGNED_STACK" Bundle.steD (xA E) U H ∧ vx_Zq Bundle.tN "SUPPRESSED_SENTINEL" Bundle.listD (xA E) U H ∧ (∃ (t : Nat) (f : Nat → Int32), va_Z "java/lang/Integer" "DigitTens" "[B" (.ref t) (xA E) U H ∧ va_T .byte t 100 (fun j => .int (f j)) (xA E) U H) ∧ (∃ (t : Nat) (f : Nat → Int32), va_Z "java/lang/Integer" "DigitOnes" "[B" (.ref t) (xA E) U H ∧ va_T .byte t 100 (fun j => .int (f j)) (xA E) U H)
def XK (E : XE) (U : State) : Prop := va_K E.1 vwCl (xty E.2.1) U ∧ (∀ q ∈ xnl, va_Nw (.methodLinkNest q.1 q.2.1 q.2.2 "LateRules") U) ∧ (∀ (i : Nat) (q : String × Nat × String), xsl[i]? = some q → vk_R q.1 q.2.1 q.2.2 (E.2.2.2.2.1 i) U) ∧ XS E U U.heap
theorem XS.moved {E : XE} {u U : State} {H : Heap} (hvm : u.vm.Alike U.vm) (h : XS E u H) : XS E U H := by
  obtain ⟨h1, h2, h3, h4, h5, ⟨t, f, h6, h7⟩, t', f', h8, h9⟩ := h
  exact ⟨vk_S.moved hvm h1, va_Z.moved hvm h2, va_Zq.moved hvm h3, vx_Zq.moved hvm h4, vx_Zq.moved hvm h5, ⟨t, f, va_Z.moved hvm h6, va_T.moved hvm h7⟩, t', f', va_Z.moved hvm h8, va_T.moved hvm h9⟩
theorem XS.kept {E : XE} {U : State} {H H1 : Heap} (h : XS E U H) (hq : ∀ a : Nat, a < H.size → ¬ xA E a → H1[a]? = H[a]?) : XS E U H1 := by
  obtain ⟨h1, h2, h3, h4, h5, ⟨t, f, h6, h7⟩, t', f', h8, h9⟩ := h
  exact ⟨vk_S.kept h1 hq, va_Z.kept h2 hq, va_Zq.kept h3 hq, vx_Zq.kept h4 hq, vx_Zq.kept h5 hq, ⟨t, f, va_Z.kept h6 hq, va_T.kept h7 hq⟩, t', f', va_Z.kept h8 hq, va_T.kept h9 hq⟩
theorem XK.at {E : XE} {s U : State} {locs : List Loc} {H : Heap} (h : XK E s) (hS : va_S (xA E) s.heap H locs) (hU : U.heap = H) (hW : s.WarmedH U.vm) : XK E U := by
  obtain ⟨h1, h2, h3, h4⟩ := h
  refine ⟨va_K.moved hW.alike h1, fun q hq => va_Nw.warmM hW (h2 q hq), fun i q hq => vk_R.warm hW (h3 i q hq), ?_⟩
  rw [hU]
  exact XS.moved hW.alike (h4.kept hS.2.1)
theorem XK.same {E : XE} {u U : State} (h : XK E u) (hv : U.vm = u.vm) (hh : U.heap = u.heap) : XK E U := by
  obtain ⟨h1, h2, h3, h4⟩ := h
  have ha : u.vm.Alike U.vm := by rw [hv]; exact Vm.Alike.refl u.vm
  refine ⟨va_K.moved ha h1, fun q hq => va_Nw.same rfl hv.symm (h2 q hq), fun i q hq => vk_R.same hv (h3 i q hq), ?_⟩
  rw [hh]
  exact XS.moved ha h4
def XP (E : XE) (K : Nat → Nat) (F : Nat → Nat → Nat) (G : XG) (U : State) : Prop := E.2.2.1 ≤ U.heap.size ∧ XK E U ∧ TW E K F G U.heap
theorem XP.at {E : XE} {K : Nat → Nat} {F : Nat → Nat → Nat} {G : XG} {s U : State} {locs : List Loc} {H : Heap} (hK : XK E s) (hz : E.2.2.1 ≤ s.heap.size) (hS : va_S (xA E) s.heap H locs) (hT : TW E K F G H) (hU : U.heap = H) (hW : s.WarmedH U.vm) : XP E K F G U :=
  ⟨by rw [hU]; exact Nat.le_trans hz hS.1, hK.at hS hU hW, by rw [hU]; exact hT⟩
theorem XP.blind {E : XE} {K : Nat → Nat} {F : Nat → Nat → Nat} {G : XG} {av : List Value} : FrameBlind (va_Pc av (XP E K F G)) := fun a U g mk h => ⟨h.1, h.2.1, h.2.2.1.same (u := U) rfl rfl, h.2.2.2⟩
/-- .. in just this heap -/
def XPh (E : XE) (K : Nat → Nat) (F : Nat → Nat → Nat) (G : XG) (h0 : Heap) (U : State) : Prop := XP E K F G U ∧ U.heap = h0
theorem XPh.blind {E : XE} {K : Nat → Nat} {F : Nat → Nat → Nat} {G : XG} {h0 : Heap} {av : List Value} : FrameBlind (va_Pc av (XPh E K F G h0)) := fun a U g mk h => ⟨h.1, ⟨h.2.1.1, h.2.1.2.1.same (u := U) rfl rfl, h.2.1.2.2⟩, h.2.2⟩
theorem XPh.at {E : XE} {K : Nat → Nat} {F : Nat → Nat → Nat} {G : XG} {s U : State} {locs : List Loc} {H : Heap} (hK : XK E s) (hz : E.2.2.1 ≤ s.heap.size) (hS : va_S (xA E) s.heap H locs) (hT : TW E K F G H) (hU : U.heap = H) (hW : s.WarmedH U.vm) : XPh E K F G H U := ⟨XP.at hK hz hS hT hU hW, hU⟩
def XQ (E : XE) {S : Type} (post : Value → S → Prop) (B : S → Heap → Prop) : Array Value → State → Outcome → State → Prop := fun _ st oc t => (∃ (v : Value) (u : S), oc = .returned (some v) ∧ post v u ∧ B u t.heap) ∧ va_F (xA E) st t
def XQv (E : XE) {S : Type} (post : S → Prop) (B : S → Heap → Prop) : Array Value → State → Outcome → State → Prop := fun _ st oc t => (∃ u : S, oc = .returned none ∧ post u ∧ B u t.heap) ∧ va_F (xA E) st t
/-- a method's entry -/
theorem x_enter {l : Launch} {y : MethodName} {bytes : ByteArray} {maxL : Nat} {ret : Option FieldType} {rm : Room} {mc ms : Nat} {av : List Value} {P : State → Prop} {Qc : Array Value → State → Outcome → State → Prop} {free : Addr → Prop} (hy : plainName y.cls = true) (hlen : (lg_sl av).length ≤ maxL)
    (body : ∀ (p : Program) (e : Env) (s : State) (m : MethodId) (args : Array Value) (below : List Frame) (meth : Method) (c : Code) (Q : State → Prop), CallFix p m c bytes maxL s args (xw y bytes maxL ret) y.cls → meth.sig.returnType = ret → meth.locks = false → meth.name = y.name → Q = MQ below Qc args s mc ms free → P s → ∀ ls : Array Slot, lv_has ls maxL (lv_args 0 av) → W p l e rm s m args below meth c s.heap [] 0 0 Q (F0 m 0 ls [])) : Met l y (xw y bytes maxL ret) rm (va_Pc av P) Qc mc ms free := by
  refine Met.ofW (cc := bytes) (maxL := maxL) (ret := ret) hy rfl ?_
  intro p e s m args below meth c s₁ B hml hv
  obtain ⟨rfl, hP⟩ := hv
  have hl := lv_entry av (n := maxL) hlen
  rw [lg_entry_eq]
  exact body p e s m _ below meth c _ ⟨B.exec, B.bytes, hml, findClass_of_methodNamed B.named, atoms_spec (ws := xw y bytes maxL ret) B.pre⟩ B.returns B.notSynchronized (name_of_methodNamed B.named B.method).1 rfl hP _ hl
section XC
variable {p : Program} {l : Launch} {e : Env} {R : Room} {s : State} {m : MethodId} {args : Array Value} {below : List Frame} {meth : Method} {c : Code} {H : Heap} {locs : List Loc} {cells slots : Nat} {Q : State → Prop}
variable {pc : Nat} {ls : Array Slot} {rest st0 : List Value} {a : Array Value} {H0 : Heap} {mc ms : Nat} {E : XE}
theorem x_cl {S : Type} {post : Value → S → Prop} {B : S → Heap → Prop} (hr : va_Run p l e R s m args below meth c H locs cells slots mc ms (F0 m pc ls st0) rest (XQ E post B a) (xA E)) (hS : va_S (xA E) H0 H locs)
    (kk : ∀ (v : Value) (u : S) (H1 : Heap) (locs1 : List Loc), post v u → B u H1 → va_S (xA E) H0 H1 locs1 → W p l e R s m args below meth c H1 locs1 (cells + mc) (slots + ms) Q (F0 m (pc + 3) ls (v :: rest))) : W p l e R s m args below meth c H locs cells slots Q (F0 m pc ls st0) := by
  intro T hT X
  obtain ⟨v, st₀, t, T', L, h0, X', hL, e1, e2, ⟨⟨r, u, hv, hp, hb⟩, hz, hk⟩, st⟩ := hr T hT X
  cases hv
  rw [h0] at hz hk
  obtain ⟨t2, a1, b1⟩ := kk r u T'.heap (locs ++ L) hp (by rw [e1]; exact hb)
    ⟨Nat.le_trans hS.1 (by rw [e1]; exact hz), fun q h1 h2 => by rw [e1, hk q (Nat.lt_of_lt_of_le h1 hS.1) h2]; exact hS.2.1 q h1 h2, fun q hq => by
      rcases List.mem_append.mp hq with h | h
      · exact hS.2.2 q h
      · exact hL q h⟩ T' rfl X'
  exact ⟨t2, st t2 a1, b1⟩
theorem x_cv {S : Type} {post : S → Prop} {B : S → Heap → Prop} (hr : va_Run p l e R s m args below meth c H locs cells slots mc ms (F0 m pc ls st0) rest (XQv E post B a) (xA E)) (hS : va_S (xA E) H0 H locs)
    (kk : ∀ (u : S) (H1 : Heap) (locs1 : List Loc), post u → B u H1 → va_S (xA E) H0 H1 locs1 → W p l e R s m args below meth c H1 locs1 (cells + mc) (slots + ms) Q (F0 m (pc + 3) ls rest)) : W p l e R s m args below meth c H locs cells slots Q (F0 m pc ls st0) := by
  intro T hT X
  obtain ⟨v, st₀, t, T', L, h0, X', hL, e1, e2, ⟨⟨u, hv, hp, hb⟩, hz, hk⟩, st⟩ := hr T hT X
  cases hv
  rw [h0] at hz hk
  obtain ⟨t2, a1, b1⟩ := kk u T'.heap (locs ++ L) hp (by rw [e1]; exact hb)
    ⟨Nat.le_trans hS.1 (by rw [e1]; exact hz), fun q h1 h2 => by rw [e1, hk q (Nat.lt_of_lt_of_le h1 hS.1) h2]; exact hS.2.1 q h1 h2, fun q hq => by
      rcases List.mem_append.mp hq with h | h
      · exact hS.2.2 q h
      · exact hL q h⟩ T' rfl X'
  exact ⟨t2, st t2 a1, b1⟩
theorem x_cl0 {S : Type} {post : Value → S → Prop} {B : S → Heap → Prop} (hr : va_Run p l e R s m args below meth c H locs cells slots 0 0 (F0 m pc ls st0) rest (XQ E post B a) (xA E)) (hS : va_S (xA E) H0 H locs)
    (kk : ∀ (v : Value) (u : S) (H1 : Heap) (locs1 : List Loc), post v u → B u H1 → va_S (xA E) H0 H1 locs1 → W p l e R s m args below meth c H1 locs1 cells slots Q (F0 m (pc + 3) ls (v :: rest))) : W p l e R s m args below meth c H locs cells slots Q (F0 m pc ls st0) := x_cl hr hS kk
theorem x_cv0 {S : Type} {post : S → Prop} {B : S → Heap → Prop} (hr : va_Run p l e R s m args below meth c H locs cells slots 0 0 (F0 m pc ls st0) rest (XQv E post B a) (xA E)) (hS : va_S (xA E) H0 H locs)
    (kk : ∀ (u : S) (H1 : Heap) (locs1 : List Loc), post u → B u H1 → va_S (xA E) H0 H1 locs1 → W p l e R s m args below meth c H1 locs1 cells slots Q (F0 m (pc + 3) ls rest)) : W p l e R s m args below meth c H locs cells slots Q (F0 m pc ls st0) := x_cv hr hS kk
theorem x_cvp {S : Type} {post : S → Prop} (hr : va_Run p l e R s m args below meth c H locs cells slots 0 0 (F0 m pc ls st0) rest (XQv E post (fun _ H' => H' = H) a) (xA E)) (hS : va_S (xA E) H0 H locs)
    (kk : ∀ (u : S) (locs1 : List Loc), post u → va_S (xA E) H0 H locs1 → W p l e R s m args below meth c H locs1 cells slots Q (F0 m (pc + 3) ls rest)) : W p l e R s m args below meth c H locs cells slots Q (F0 m pc ls st0) :=
  x_cv0 hr hS (fun u H1 locs1 hp hB hS1 => by subst hB; exact kk u locs1 hp hS1)
theorem x_clp {S : Type} {post : Value → S → Prop} (hr : va_Run p l e R s m args below meth c H locs cells slots 0 0 (F0 m pc ls st0) rest (XQ E post (fun _ H' => H' = H) a) (xA E)) (hS : va_S (xA E) H0 H locs)
    (kk : ∀ (v : Value) (u : S) (locs1 : List Loc), post v u → va_S (xA E) H0 H locs1 → W p l e R s m args below meth c H locs1 cells slots Q (F0 m (pc + 3) ls (v :: rest))) : W p l e R s m args below meth c H locs cells slots Q (F0 m pc ls st0) :=
  x_cl0 hr hS (fun v u H1 locs1 hp hB hS1 => by subst hB; exact kk v u locs1 hp hS1)
variable {y : MethodName} {bytes cc : ByteArray} {maxL nL n index : Nat} {ret : Option FieldType} {rm : Room} {Qc : Array Value → State → Outcome → State → Prop} {own C : String} {b : Addr} {As : List Value} {w0 : Cond} {P9 : State → Prop}
theorem x_callB (S : CallFix p m c cc nL s args (w0 :: GT) own) (n : Nat) (h1 : Cond.code y bytes maxL ret ∈ GT) (h4 : Cond.initialized y.cls ∈ GT) (hl : Cond.methodLink own index y ∈ GT) (hrc : rm.cells = mc) (hrs : rm.slots = ms)
    (hd : y.cls ≠ "java/lang/invoke/MethodHandle" ∧ y.cls ≠ "java/lang/invoke/VarHandle" ∧ (parseMethodDescriptor y.desc).map (fun d => d.parameters.length) = some n) (hR : rm.frames + 1 ≤ R.frames ∧ 8 + (maxL + 11) + rm.locals ≤ R.locals) : CallB R s args own index y bytes maxL ret (xw y bytes maxL ret) rm mc ms n :=
  callB_of n S.2.2.2.2 (xw_in h1) rfl hrc hrs (S.2.2.2.2 _ (List.mem_cons_of_mem _ h4)) (S.2.2.2.2 _ (List.mem_cons_of_mem _ hl)) hd hR
theorem x_runV (S : CallFix p m c cc nL s args (w0 :: GT) own) (hM : Met l y (xw y bytes maxL ret) rm (va_Pc (.ref b :: As) P9) Qc mc ms (xA E)) (hc : xcV y C bytes maxL ret n) (hl : Cond.methodLink own index y ∈ GT) (hrc : rm.cells = mc) (hrs : rm.slots = ms) (hR : rm.frames + 1 ≤ R.frames ∧ 8 + (maxL + 11) + rm.locals ≤ R.locals)
    (hb : ∃ cell : Cell, H[b]? = some cell ∧ cell.vm.isStatics = false ∧ s.vm.findClass C = some cell.cls) (hK : XK E s) (hbl : ∀ av : List Value, FrameBlind (va_Pc av P9)) (hp9 : ∀ U : State, U.heap = H → s.WarmedH U.vm → P9 U)
    (hn : As.length = n) (hsize : ls.size = nL) (hW : (rest.map fun v => v.category).sum ≤ 8) (hdg : decode cc pc = .ok (.invokevirtual index, 3)) (hf : cells + mc ≤ R.cells ∧ slots + ms ≤ R.slots) :
    va_Run p l e R s m args below meth c H locs cells slots mc ms (F0 m pc ls (As.reverse ++ .ref b :: rest)) rest (Qc (Value.ref b :: As).toArray) (xA E) :=
  va_runV S hM ⟨x_callB S n hc.1.1 hc.1.2.2.2 hl hrc hrs hc.2 hR, S.2.2.2.2 _ (List.mem_cons_of_mem _ hc.1.2.1), S.2.2.2.2 _ (List.mem_cons_of_mem _ hc.1.2.2.1)⟩ ⟨hbl _, hb, fun U hU hW => ⟨rfl, hp9 U hU hW⟩⟩ rfl hn hsize rfl (lv_room hW) hdg hf
theorem x_runS (S : CallFix p m c cc nL s args (w0 :: GT) own) (hM : Met l y (xw y bytes maxL ret) rm (va_Pc As P9) Qc mc ms (xA E)) (hc : xcS y bytes maxL ret n) (hl : Cond.methodLink own index y ∈ GT) (hrc : rm.cells = mc) (hrs : rm.slots = ms) (hR : rm.frames + 1 ≤ R.frames ∧ 8 + (maxL + 11) + rm.locals ≤ R.locals)
    (hK : XK E s) (hbl : ∀ av : List Value, FrameBlind (va_Pc av P9)) (hp9 : ∀ U : State, U.heap = H → s.WarmedH U.vm → P9 U)
    (hn : As.length = n) (hsize : ls.size = nL) (hW : (rest.map fun v => v.category).sum ≤ 8) (hdg : decode cc pc = .ok (.invokestatic index, 3)) (hf : cells + mc ≤ R.cells ∧ slots + ms ≤ R.slots) :
    va_Run p l e R s m args below meth c H locs cells slots mc ms (F0 m pc ls (As.reverse ++ rest)) rest (Qc As.toArray) (xA E) :=
  va_runS S hM ⟨x_callB S n hc.1.1 hc.1.2.2 hl hrc hrs hc.2 hR, S.2.2.2.2 _ (List.mem_cons_of_mem _ hc.1.2.1)⟩ ⟨hbl _, fun U hU hW => ⟨rfl, hp9 U hU hW⟩⟩ rfl hn hsize rfl (lv_room hW) hdg hf
theorem x_runSN (S : CallFix p m c cc nL s args (w0 :: GT) own) (hM : Met l y (xw y bytes maxL ret) rm (va_Pc As P9) Qc mc ms (xA E)) (hc : xcS y bytes maxL ret n) (hl : (own, index, y) ∈ xnl) (hrc : rm.cells = mc) (hrs : rm.slots = ms) (hR : rm.frames + 1 ≤ R.frames ∧ 8 + (maxL + 11) + rm.locals ≤ R.locals)
    (hK : XK E s) (hbl : ∀ av : List Value, FrameBlind (va_Pc av P9)) (hp9 : ∀ U : State, U.heap = H → s.WarmedH U.vm → P9 U)
    (hn : As.length = n) (hsize : ls.size = nL) (hW : (rest.map fun v => v.category).sum ≤ 8) (hdg : decode cc pc = .ok (.invokestatic index, 3)) (hf : cells + mc ≤ R.cells ∧ slots + ms ≤ R.slots) :
    va_Run p l e R s m args below meth c H locs cells slots mc ms (F0 m pc ls (As.reverse ++ rest)) rest (Qc As.toArray) (xA E) :=
  va_runSN S hM ⟨va_cnB n S.2.2.2.2 (xw_in hc.1.1) rfl hrc hrs (hK.2.1 _ hl) (S.2.2.2.2 _ (List.mem_cons_of_mem _ hc.1.2.2)) hc.2 hR, S.2.2.2.2 _ (List.mem_cons_of_mem _ hc.1.2.1), trivial⟩ ⟨hbl _, fun U hU hW => ⟨rfl, hp9 U hU hW⟩⟩ rfl hn hsize rfl (lv_room hW) hdg hf
end XC
end
section
theorem dput_at {G : XG} {a j : Nat} {v : Int32} : (dput G a j v).1 a j = v := up2_at
theorem dput_nj {G : XG} {a j b i : Nat} {v : Int32} (h : i ≠ j) : (dput G a j v).1 b i = G.1 b i := up2_nj h
/-! numbers: what an Int32 is as an integer -/
theorem xr (x : Int32) : -2147483648 ≤ x.toInt ∧ x.toInt < 2147483648 := ⟨Int32.le_toInt x, Int32.toInt_lt x⟩
theorem xok_z (x : Int32) : xok 3 (vp_nar .boolean x) := by
  show narrow .boolean (.int (vp_nar .boolean x)) = .int (vp_nar .boolean x)
  unfold vp_nar
  simp only [narrow]
  first | rfl | (simp; done) | (congr 1; rw [Int32.and_assoc]; rfl)
theorem xok_c (x : Int32) : xok 1 (vp_nar .char x) := by
  show narrow .char (.int (vp_nar .char x)) = .int (vp_nar .char x)
  unfold vp_nar
  simp only [narrow]
  first | rfl | (congr 1; apply Int32.toBitVec_inj.mp; simp; done) | (simp; rw [UInt32.mod_mod]; done) | (simp; apply congrArg UInt32.toInt32; apply UInt32.toNat_inj.mp; simp)
theorem xok_b (x : Int32) : xok 2 (vp_nar .byte x) := by
  show narrow .byte (.int (vp_nar .byte x)) = .int (vp_nar .byte x)
  unfold vp_nar
  simp only [narrow]
  first | rfl | simp
section XR
variable {p : Program} {l : Launch} {e : Env} {R : Room} {s : State} {m : MethodId} {args : Array Value} {below : List Frame} {meth : Method} {c : Code} {H : Heap} {locs : List Loc} {cells slots : Nat} {Q : State → Prop}
variable {pc : Nat} {ls : Array Slot} {rest : List Value} {H0 : Heap} {E : XE} {cc : ByteArray} {nL : Nat} {own : String} {w0 : Cond} {K : Nat → Nat} {F : Nat → Nat → Nat} {G : XG} {a idx : Nat}
theorem gX0_0 (S : CallFix p m c cc nL s args (w0 :: GT) own) (hK : XK E s) (hT : TW E K F G H) (ha : K a = 2) (hl : Cond.fieldLink own idx "LateRules$Book" "byNumber" "[LLateRules$Rule;" ∈ GT) (hdg : decode cc pc = .ok (.getfield idx, 3)) (kk : K (F a 0) = 15 → F (F a 0) 99 = 0 → W p l e R s m args below meth c H locs cells slots Q (F0 m (pc + 3) ls (.ref (F a 0) :: rest))) : W p l e R s m args below meth c H locs cells slots Q (F0 m pc ls (.ref a :: rest)) := by
  obtain ⟨ws, i, e9, hw, hP, hD, he, hs⟩ := hT.at ha (by decide)
  obtain ⟨rfl, k0, n0, k1, n1⟩ := hs
  exact va_get (D := E.1) (ci := 1) (v := .ref (F a 0)) (C := RX0) (T := TX0) (N := 3) S.1 S.2.1 S.2.2.2.2 (fun w h => List.mem_cons_of_mem _ (inX0 w h)) S.2.2.2.1 hK.1 hP i he rfl 0 (by decide) (S.2.2.2.2 _ (List.mem_cons_of_mem _ hl)) (fun _ h => h) rfl hdg (kk k0 n0)
theorem fkX0_0 (hT : TW E K F G H) (ha : K a = 2) : K (F a 0) = 15 ∧ F (F a 0) 99 = 0 := by
  obtain ⟨ws, i, e9, hw, hP, hD, he, hs⟩ := hT.at ha (by decide)
  obtain ⟨rfl, k0, n0, k1, n1⟩ := hs
  exact ⟨k0, n0⟩
theorem gX0_1 (S : CallFix p m c cc nL s args (w0 :: GT) own) (hK : XK E s) (hT : TW E K F G H) (ha : K a = 2) (hl : Cond.fieldLink own idx "LateRules$Book" "ordered" "[LLateRules$Rule;" ∈ GT) (hdg : decode cc pc = .ok (.getfield idx, 3)) (kk : K (F a 1) = 15 → F (F a 1) 99 = 1 → W p l e R s m args below meth c H locs cells slots Q (F0 m (pc + 3) ls (.ref (F a 1) :: rest))) : W p l e R s m args below meth c H locs cells slots Q (F0 m pc ls (.ref a :: rest)) := by
  obtain ⟨ws, i, e9, hw, hP, hD, he, hs⟩ := hT.at ha (by decide)
  obtain ⟨rfl, k0, n0, k1, n1⟩ := hs
  exact va_get (D := E.1) (ci := 1) (v := .ref (F a 1)) (C := RX0) (T := TX0) (N := 3) S.1 S.2.1 S.2.2.2.2 (fun w h => List.mem_cons_of_mem _ (inX0 w h)) S.2.2.2.1 hK.1 hP i he rfl 1 (by decide) (S.2.2.2.2 _ (List.mem_cons_of_mem _ hl)) (fun _ h => h) rfl hdg (kk k1 n1)
theorem fkX0_1 (hT : TW E K F G H) (ha : K a = 2) : K (F a 1) = 15 ∧ F (F a 1) 99 = 1 := by
  obtain ⟨ws, i, e9, hw, hP, hD, he, hs⟩ := hT.at ha (by decide)
  obtain ⟨rfl, k0, n0, k1, n1⟩ := hs
  exact ⟨k1, n1⟩
theorem gX0_2 (S : CallFix p m c cc nL s args (w0 :: GT) own) (hK : XK E s) (hT : TW E K F G H) (ha : K a = 2) (hl : Cond.fieldLink own idx "LateRules$Book" "size" "I" ∈ GT) (hdg : decode cc pc = .ok (.getfield idx, 3)) {v : Int32} (hv : G.1 a 2 = v) (kk : W p l e R s m args below meth c H locs cells slots Q (F0 m (pc + 3) ls (.int v :: rest))) : W p l e R s m args below meth c H locs cells slots Q (F0 m pc ls (.ref a :: rest)) := by
  subst hv
  obtain ⟨ws, i, e9, hw, hP, hD, he, hs⟩ := hT.at ha (by decide)
  obtain ⟨rfl, k0, n0, k1, n1⟩ := hs
  exact va_get (D := E.1) (ci := 1) (v := .int (G.1 a 2)) (C := RX0) (T := TX0) (N := 3) S.1 S.2.1 S.2.2.2.2 (fun w h => List.mem_cons_of_mem _ (inX0 w h)) S.2.2.2.1 hK.1 hP i he rfl 2 (by decide) (S.2.2.2.2 _ (List.mem_cons_of_mem _ hl)) (fun _ h => h) rfl hdg (kk)
theorem pX0_2 {v : Int32} (S : CallFix p m c cc nL s args (w0 :: GT) own) (hK : XK E s) (hT : TW E K F G H) (hS : va_S (xA E) H0 H locs) (ha : K a = 2) (hl : Cond.fieldLink own idx "LateRules$Book" "size" "I" ∈ GT) (hdg : decode cc pc = .ok (.putfield idx, 3)) (kk : ∀ (H1 : Heap) (locs1 : List Loc), TW E K F (dput G a 2 v) H1 → va_S (xA E) H0 H1 locs1 → W p l e R s m args below meth c H1 locs1 cells slots Q (F0 m (pc + 3) ls rest)) : W p l e R s m args below meth c H locs cells slots Q (F0 m pc ls (.int v :: .ref a :: rest)) := by
  obtain ⟨ws, i, e9, hw, hP, hD, he, hs⟩ := hT.at ha (by decide)
  obtain ⟨rfl, k0, n0, k1, n1⟩ := hs
  exact va_put (D := E.1) (ci := 1) (v := .int v) (ty := .int) (C := RX0) (T := TX0) (N := 3) S.1 S.2.1 S.2.2.2.2 (fun w h => List.mem_cons_of_mem _ (inX0 w h)) tyX0 tyX0_ok nmX0 S.2.2.2.1 hK.1 hP hD hS i he rfl 2 (by decide) (S.2.2.2.2 _ (List.mem_cons_of_mem _ hl)) (fun _ h => h) rfl  (by decide +kernel) rfl rfl (Nat.le_of_ble_eq_true rfl) hdg (fun H1 locs1 hP1 hD1 hS1 => kk H1 locs1 ⟨_, hw.set he (by rw [ha]; decide) XGa.d (by rw [ha]; exact ⟨(by simp [dput, up2]), k0, n0, k1, n1⟩), hP1, hD1⟩ hS1)
theorem gX1_0 (S : CallFix p m c cc nL s args (w0 :: GT) own) (hK : XK E s) (hT : TW E K F G H) (ha : K a = 3) (hl : Cond.fieldLink own idx "LateRules$Comparison" "changed" "[I" ∈ GT) (hdg : decode cc pc = .ok (.getfield idx, 3)) (kk : K (F a 0) = 21 → F (F a 0) 99 = 100 → W p l e R s m args below meth c H locs cells slots Q (F0 m (pc + 3) ls (.ref (F a 0) :: rest))) : W p l e R s m args below meth c H locs cells slots Q (F0 m pc ls (.ref a :: rest)) := by
  obtain ⟨ws, i, e9, hw, hP, hD, he, hs⟩ := hT.at ha (by decide)
  obtain ⟨rfl, k0, n0, k1, n1, k2, n2⟩ := hs
  exact va_get (D := E.1) (ci := 2) (v := .ref (F a 0)) (C := RX1) (T := TX1) (N := 4) S.1 S.2.1 S.2.2.2.2 (fun w h => List.mem_cons_of_mem _ (inX1 w h)) S.2.2.2.1 hK.1 hP i he rfl 0 (by decide) (S.2.2.2.2 _ (List.mem_cons_of_mem _ hl)) (fun _ h => h) rfl hdg (kk k0 n0)
theorem fkX1_0 (hT : TW E K F G H) (ha : K a = 3) : K (F a 0) = 21 ∧ F (F a 0) 99 = 100 := by
  obtain ⟨ws, i, e9, hw, hP, hD, he, hs⟩ := hT.at ha (by decide)
  obtain ⟨rfl, k0, n0, k1, n1, k2, n2⟩ := hs
  exact ⟨k0, n0⟩
theorem gX1_1 (S : CallFix p m c cc nL s args (w0 :: GT) own) (hK : XK E s) (hT : TW E K F G H) (ha : K a = 3) (hl : Cond.fieldLink own idx "LateRules$Comparison" "comeOrGone" "[I" ∈ GT) (hdg : decode cc pc = .ok (.getfield idx, 3)) (kk : K (F a 1) = 21 → F (F a 1) 99 = 101 → W p l e R s m args below meth c H locs cells slots Q (F0 m (pc + 3) ls (.ref (F a 1) :: rest))) : W p l e R s m args below meth c H locs cells slots Q (F0 m pc ls (.ref a :: rest)) := by
  obtain ⟨ws, i, e9, hw, hP, hD, he, hs⟩ := hT.at ha (by decide)
  obtain ⟨rfl, k0, n0, k1, n1, k2, n2⟩ := hs
  exact va_get (D := E.1) (ci := 2) (v := .ref (F a 1)) (C := RX1) (T := TX1) (N := 4) S.1 S.2.1 S.2.2.2.2 (fun w h => List.mem_cons_of_mem _ (inX1 w h)) S.2.2.2.1 hK.1 hP i he rfl 1 (by decide) (S.2.2.2.2 _ (List.mem_cons_of_mem _ hl)) (fun _ h => h) rfl hdg (kk k1 n1)
theorem fkX1_1 (hT : TW E K F G H) (ha : K a = 3) : K (F a 1) = 21 ∧ F (F a 1) 99 = 101 := by
  obtain ⟨ws, i, e9, hw, hP, hD, he, hs⟩ := hT.at ha (by decide)
  obtain ⟨rfl, k0, n0, k1, n1, k2, n2⟩ := hs
  exact ⟨k1, n1⟩
theorem gX1_2 (S : CallFix p m c cc nL s args (w0 :: GT) own) (hK : XK E s) (hT : TW E K F G H) (ha : K a = 3) (hl : Cond.fieldLink own idx "LateRules$Comparison" "subjects" "[I" ∈ GT) (hdg : decode cc pc = .ok (.getfield idx, 3)) (kk : K (F a 2) = 24 → F (F a 2) 99 = 4 → W p l e R s m args below meth c H locs cells slots Q (F0 m (pc + 3) ls (.ref (F a 2) :: rest))) : W p l e R s m args below meth c H locs cells slots Q (F0 m pc ls (.ref a :: rest)) := by
  obtain ⟨ws, i, e9, hw, hP, hD, he, hs⟩ := hT.at ha (by decide)
  obtain ⟨rfl, k0, n0, k1, n1, k2, n2⟩ := hs
  exact va_get (D := E.1) (ci := 2) (v := .ref (F a 2)) (C := RX1) (T := TX1) (N := 4) S.1 S.2.1 S.2.2.2.2 (fun w h => List.mem_cons_of_mem _ (inX1 w h)) S.2.2.2.1 hK.1 hP i he rfl 2 (by decide) (S.2.2.2.2 _ (List.mem_cons_of_mem _ hl)) (fun _ h => h) rfl hdg (kk k2 n2)
theorem fkX1_2 (hT : TW E K F G H) (ha : K a = 3) : K (F a 2) = 24 ∧ F (F a 2) 99 = 4 := by
  obtain ⟨ws, i, e9, hw, hP, hD, he, hs⟩ := hT.at ha (by decide)
  obtain ⟨rfl, k0, n0, k1, n1, k2, n2⟩ := hs
  exact ⟨k2, n2⟩
theorem gX1_3 (S : CallFix p m c cc nL s args (w0 :: GT) own) (hK : XK E s) (hT : TW E K F G H) (ha : K a = 3) (hl : Cond.fieldLink own idx "LateRules$Comparison" "size" "I" ∈ GT) (hdg : decode cc pc = .ok (.getfield idx, 3)) {v : Int32} (hv : G.1 a 3 = v) (kk : W p l e R s m args below meth c H locs cells slots Q (F0 m (pc + 3) ls (.int v :: rest))) : W p l e R s m args below meth c H locs cells slots Q (F0 m pc ls (.ref a :: rest)) := by
  subst hv
  obtain ⟨ws, i, e9, hw, hP, hD, he, hs⟩ := hT.at ha (by decide)
  obtain ⟨rfl, k0, n0, k1, n1, k2, n2⟩ := hs
  exact va_get (D := E.1) (ci := 2) (v := .int (G.1 a 3)) (C := RX1) (T := TX1) (N := 4) S.1 S.2.1 S.2.2.2.2 (fun w h => List.mem_cons_of_mem _ (inX1 w h)) S.2.2.2.1 hK.1 hP i he rfl 3 (by decide) (S.2.2.2.2 _ (List.mem_cons_of_mem _ hl)) (fun _ h => h) rfl hdg (kk)
theorem pX1_3 {v : Int32} (S : CallFix p m c cc nL s args (w0 :: GT) own) (hK : XK E s) (hT : TW E K F G H) (hS : va_S (xA E) H0 H locs) (ha : K a = 3) (hl : Cond.fieldLink own idx "LateRules$Comparison" "size" "I" ∈ GT) (hdg : decode cc pc = .ok (.putfield idx, 3)) (kk : ∀ (H1 : Heap) (locs1 : List Loc), TW E K F (dput G a 3 v) H1 → va_S (xA E) H0 H1 locs1 → W p l e R s m args below meth c H1 locs1 cells slots Q (F0 m (pc + 3) ls rest)) : W p l e R s m args below meth c H locs cells slots Q (F0 m pc ls (.int v :: .ref a :: rest)) := by
  obtain ⟨ws, i, e9, hw, hP, hD, he, hs⟩ := hT.at ha (by decide)
  obtain ⟨rfl, k0, n0, k1, n1, k2, n2⟩ := hs
  exact va_put (D := E.1) (ci := 2) (v := .int v) (ty := .int) (C := RX1) (T := TX1) (N := 4) S.1 S.2.1 S.2.2.2.2 (fun w h => List.mem_cons_of_mem _ (inX1 w h)) tyX1 tyX1_ok nmX1 S.2.2.2.1 hK.1 hP hD hS i he rfl 3 (by decide) (S.2.2.2.2 _ (List.mem_cons_of_mem _ hl)) (fun _ h => h) rfl  (by decide +kernel) rfl rfl (Nat.le_of_ble_eq_true rfl) hdg (fun H1 locs1 hP1 hD1 hS1 => kk H1 locs1 ⟨_, hw.set he (by rw [ha]; decide) XGa.d (by rw [ha]; exact ⟨(by simp [dput, up2]), k0, n0, k1, n1, k2, n2⟩), hP1, hD1⟩ hS1)
theorem gX2_0 (S : CallFix p m c cc nL s args (w0 :: GT) own) (hK : XK E s) (hT : TW E K F G H) (ha : K a = 4) (hl : Cond.fieldLink own idx "LateRules$Followers" "cutTable" "[I" ∈ GT) (hdg : decode cc pc = .ok (.getfield idx, 3)) (kk : K (F a 0) = 24 → F (F a 0) 99 = 0 → W p l e R s m args below meth c H locs cells slots Q (F0 m (pc + 3) ls (.ref (F a 0) :: rest))) : W p l e R s m args below meth c H locs cells slots Q (F0 m pc ls (.ref a :: rest)) := by
  obtain ⟨ws, i, e9, hw, hP, hD, he, hs⟩ := hT.at ha (by decide)
  obtain ⟨rfl, k0, n0, k1, n1, k2, n2, k3, n3⟩ := hs
  exact va_get (D := E.1) (ci := 3) (v := .ref (F a 0)) (C := RX2) (T := TX2) (N := 5) S.1 S.2.1 S.2.2.2.2 (fun w h => List.mem_cons_of_mem _ (inX2 w h)) S.2.2.2.1 hK.1 hP i he rfl 0 (by decide) (S.2.2.2.2 _ (List.mem_cons_of_mem _ hl)) (fun _ h => h) rfl hdg (kk k0 n0)
theorem fkX2_0 (hT : TW E K F G H) (ha : K a = 4) : K (F a 0) = 24 ∧ F (F a 0) 99 = 0 := by
  obtain ⟨ws, i, e9, hw, hP, hD, he, hs⟩ := hT.at ha (by decide)
  obtain ⟨rfl, k0, n0, k1, n1, k2, n2, k3, n3⟩ := hs
  exact ⟨k0, n0⟩
theorem gX2_1 (S : CallFix p m c cc nL s args (w0 :: GT) own) (hK : XK E s) (hT : TW E K F G H) (ha : K a = 4) (hl : Cond.fieldLink own idx "LateRules$Followers" "cutKey" "[I" ∈ GT) (hdg : decode cc pc = .ok (.getfield idx, 3)) (kk : K (F a 1) = 24 → F (F a 1) 99 = 1 → W p l e R s m args below meth c H locs cells slots Q (F0 m (pc + 3) ls (.ref (F a 1) :: rest))) : W p l e R s m args below meth c H locs cells slots Q (F0 m pc ls (.ref a :: rest)) := by
  obtain ⟨ws, i, e9, hw, hP, hD, he, hs⟩ := hT.at ha (by decide)
  obtain ⟨rfl, k0, n0, k1, n1, k2, n2, k3, n3⟩ := hs
  exact va_get (D := E.1) (ci := 3) (v := .ref (F a 1)) (C := RX2) (T := TX2) (N := 5) S.1 S.2.1 S.2.2.2.2 (fun w h => List.mem_cons_of_mem _ (inX2 w h)) S.2.2.2.1 hK.1 hP i he rfl 1 (by decide) (S.2.2.2.2 _ (List.mem_cons_of_mem _ hl)) (fun _ h => h) rfl hdg (kk k1 n1)
theorem fkX2_1 (hT : TW E K F G H) (ha : K a = 4) : K (F a 1) = 24 ∧ F (F a 1) 99 = 1 := by
  obtain ⟨ws, i, e9, hw, hP, hD, he, hs⟩ := hT.at ha (by decide)
  obtain ⟨rfl, k0, n0, k1, n1, k2, n2, k3, n3⟩ := hs
  exact ⟨k1, n1⟩
theorem gX2_2 (S : CallFix p m c cc nL s args (w0 :: GT) own) (hK : XK E s) (hT : TW E K F G H) (ha : K a = 4) (hl : Cond.fieldLink own idx "LateRules$Followers" "atRule" "[I" ∈ GT) (hdg : decode cc pc = .ok (.getfield idx, 3)) (kk : K (F a 2) = 24 → F (F a 2) 99 = 2 → W p l e R s m args below meth c H locs cells slots Q (F0 m (pc + 3) ls (.ref (F a 2) :: rest))) : W p l e R s m args below meth c H locs cells slots Q (F0 m pc ls (.ref a :: rest)) := by
  obtain ⟨ws, i, e9, hw, hP, hD, he, hs⟩ := hT.at ha (by decide)
  obtain ⟨rfl, k0, n0, k1, n1, k2, n2, k3, n3⟩ := hs
  exact va_get (D := E.1) (ci := 3) (v := .ref (F a 2)) (C := RX2) (T := TX2) (N := 5) S.1 S.2.1 S.2.2.2.2 (fun w h => List.mem_cons_of_mem _ (inX2 w h)) S.2.2.2.1 hK.1 hP i he rfl 2 (by decide) (S.2.2.2.2 _ (List.mem_cons_of_mem _ hl)) (fun _ h => h) rfl hdg (kk k2 n2)
theorem fkX2_2 (hT : TW E K F G H) (ha : K a = 4) : K (F a 2) = 24 ∧ F (F a 2) 99 = 2 := by
  obtain ⟨ws, i, e9, hw, hP, hD, he, hs⟩ := hT.at ha (by decide)
  obtain ⟨rfl, k0, n0, k1, n1, k2, n2, k3, n3⟩ := hs
  exact ⟨k2, n2⟩
theorem gX2_3 (S : CallFix p m c cc nL s args (w0 :: GT) own) (hK : XK E s) (hT : TW E K F G H) (ha : K a = 4) (hl : Cond.fieldLink own idx "LateRules$Followers" "atKey" "[I" ∈ GT) (hdg : decode cc pc = .ok (.getfield idx, 3)) (kk : K (F a 3) = 24 → F (F a 3) 99 = 3 → W p l e R s m args below meth c H locs cells slots Q (F0 m (pc + 3) ls (.ref (F a 3) :: rest))) : W p l e R s m args below meth c H locs cells slots Q (F0 m pc ls (.ref a :: rest)) := by
  obtain ⟨ws, i, e9, hw, hP, hD, he, hs⟩ := hT.at ha (by decide)
  obtain ⟨rfl, k0, n0, k1, n1, k2, n2, k3, n3⟩ := hs
  exact va_get (D := E.1) (ci := 3) (v := .ref (F a 3)) (C := RX2) (T := TX2) (N := 5) S.1 S.2.1 S.2.2.2.2 (fun w h => List.mem_cons_of_mem _ (inX2 w h)) S.2.2.2.1 hK.1 hP i he rfl 3 (by decide) (S.2.2.2.2 _ (List.mem_cons_of_mem _ hl)) (fun _ h => h) rfl hdg (kk k3 n3)
theorem fkX2_3 (hT : TW E K F G H) (ha : K a = 4) : K (F a 3) = 24 ∧ F (F a 3) 99 = 3 := by
  obtain ⟨ws, i, e9, hw, hP, hD, he, hs⟩ := hT.at ha (by decide)
  obtain ⟨rfl, k0, n0, k1, n1, k2, n2, k3, n3⟩ := hs
  exact ⟨k3, n3⟩
theorem gX2_4 (S : CallFix p m c cc nL s args (w0 :: GT) own) (hK : XK E s) (hT : TW E K F G H) (ha : K a = 4) (hl : Cond.fieldLink own idx "LateRules$Followers" "deep" "I" ∈ GT) (hdg : decode cc pc = .ok (.getfield idx, 3)) {v : Int32} (hv : G.1 a 4 = v) (kk : W p l e R s m args below meth c H locs cells slots Q (F0 m (pc + 3) ls (.int v :: rest))) : W p l e R s m args below meth c H locs cells slots Q (F0 m pc ls (.ref a :: rest)) := by
  subst hv
  obtain ⟨ws, i, e9, hw, hP, hD, he, hs⟩ := hT.at ha (by decide)
  obtain ⟨rfl, k0, n0, k1, n1, k2, n2, k3, n3⟩ := hs
  exact va_get (D := E.1) (ci := 3) (v := .int (G.1 a 4)) (C := RX2) (T := TX2) (N := 5) S.1 S.2.1 S.2.2.2.2 (fun w h => List.mem_cons_of_mem _ (inX2 w h)) S.2.2.2.1 hK.1 hP i he rfl 4 (by decide) (S.2.2.2.2 _ (List.mem_cons_of_mem _ hl)) (fun _ h => h) rfl hdg (kk)
theorem pX2_4 {v : Int32} (S : CallFix p m c cc nL s args (w0 :: GT) own) (hK : XK E s) (hT : TW E K F G H) (hS : va_S (xA E) H0 H locs) (ha : K a = 4) (hl : Cond.fieldLink own idx "LateRules$Followers" "deep" "I" ∈ GT) (hdg : decode cc pc = .ok (.putfield idx, 3)) (kk : ∀ (H1 : Heap) (locs1 : List Loc), TW E K F (dput G a 4 v) H1 → va_S (xA E) H0 H1 locs1 → W p l e R s m args below meth c H1 locs1 cells slots Q (F0 m (pc + 3) ls rest)) : W p l e R s m args below meth c H locs cells slots Q (F0 m pc ls (.int v :: .ref a :: rest)) := by
  obtain ⟨ws, i, e9, hw, hP, hD, he, hs⟩ := hT.at ha (by decide)
  obtain ⟨rfl, k0, n0, k1, n1, k2, n2, k3, n3⟩ := hs
  exact va_put (D := E.1) (ci := 3) (v := .int v) (ty := .int) (C := RX2) (T := TX2) (N := 5) S.1 S.2.1 S.2.2.2.2 (fun w h => List.mem_cons_of_mem _ (inX2 w h)) tyX2 tyX2_ok nmX2 S.2.2.2.1 hK.1 hP hD hS i he rfl 4 (by decide) (S.2.2.2.2 _ (List.mem_cons_of_mem _ hl)) (fun _ h => h) rfl  (by decide +kernel) rfl rfl (Nat.le_of_ble_eq_true rfl) hdg (fun H1 locs1 hP1 hD1 hS1 => kk H1 locs1 ⟨_, hw.set he (by rw [ha]; decide) XGa.d (by rw [ha]; exact ⟨(by simp [dput, up2]), k0, n0, k1, n1, k2, n2, k3, n3⟩), hP1, hD1⟩ hS1)
theorem gX3_0 (S : CallFix p m c cc nL s args (w0 :: GT) own) (hK : XK E s) (hT : TW E K F G H) (ha : K a = 5) (hl : Cond.fieldLink own idx "LateRules$Leaners" "reached" "[I" ∈ GT) (hdg : decode cc pc = .ok (.getfield idx, 3)) (kk : K (F a 0) = 21 → F (F a 0) 99 = 102 → W p l e R s m args below meth c H locs cells slots Q (F0 m (pc + 3) ls (.ref (F a 0) :: rest))) : W p l e R s m args below meth c H locs cells slots Q (F0 m pc ls (.ref a :: rest)) := by
  obtain ⟨ws, i, e9, hw, hP, hD, he, hs⟩ := hT.at ha (by decide)
  obtain ⟨rfl, k0, n0, k1, n1, k2, n2⟩ := hs
  exact va_get (D := E.1) (ci := 4) (v := .ref (F a 0)) (C := RX3) (T := TX3) (N := 4) S.1 S.2.1 S.2.2.2.2 (fun w h => List.mem_cons_of_mem _ (inX3 w h)) S.2.2.2.1 hK.1 hP i he rfl 0 (by decide) (S.2.2.2.2 _ (List.mem_cons_of_mem _ hl)) (fun _ h => h) rfl hdg (kk k0 n0)
theorem fkX3_0 (hT : TW E K F G H) (ha : K a = 5) : K (F a 0) = 21 ∧ F (F a 0) 99 = 102 := by
  obtain ⟨ws, i, e9, hw, hP, hD, he, hs⟩ := hT.at ha (by decide)
  obtain ⟨rfl, k0, n0, k1, n1, k2, n2⟩ := hs
  exact ⟨k0, n0⟩
theorem gX3_1 (S : CallFix p m c cc nL s args (w0 :: GT) own) (hK : XK E s) (hT : TW E K F G H) (ha : K a = 5) (hl : Cond.fieldLink own idx "LateRules$Leaners" "rowTable" "[I" ∈ GT) (hdg : decode cc pc = .ok (.getfield idx, 3)) (kk : K (F a 1) = 24 → F (F a 1) 99 = 5 → W p l e R s m args below meth c H locs cells slots Q (F0 m (pc + 3) ls (.ref (F a 1) :: rest))) : W p l e R s m args below meth c H locs cells slots Q (F0 m pc ls (.ref a :: rest)) := by
  obtain ⟨ws, i, e9, hw, hP, hD, he, hs⟩ := hT.at ha (by decide)
  obtain ⟨rfl, k0, n0, k1, n1, k2, n2⟩ := hs
  exact va_get (D := E.1) (ci := 4) (v := .ref (F a 1)) (C := RX3) (T := TX3) (N := 4) S.1 S.2.1 S.2.2.2.2 (fun w h => List.mem_cons_of_mem _ (inX3 w h)) S.2.2.2.1 hK.1 hP i he rfl 1 (by decide) (S.2.2.2.2 _ (List.mem_cons_of_mem _ hl)) (fun _ h => h) rfl hdg (kk k1 n1)
theorem fkX3_1 (hT : TW E K F G H) (ha : K a = 5) : K (F a 1) = 24 ∧ F (F a 1) 99 = 5 := by
  obtain ⟨ws, i, e9, hw, hP, hD, he, hs⟩ := hT.at ha (by decide)
  obtain ⟨rfl, k0, n0, k1, n1, k2, n2⟩ := hs
  exact ⟨k1, n1⟩
theorem gX3_2 (S : CallFix p m c cc nL s args (w0 :: GT) own) (hK : XK E s) (hT : TW E K F G H) (ha : K a = 5) (hl : Cond.fieldLink own idx "LateRules$Leaners" "rowKey" "[I" ∈ GT) (hdg : decode cc pc = .ok (.getfield idx, 3)) (kk : K (F a 2) = 24 → F (F a 2) 99 = 6 → W p l e R s m args below meth c H locs cells slots Q (F0 m (pc + 3) ls (.ref (F a 2) :: rest))) : W p l e R s m args below meth c H locs cells slots Q (F0 m pc ls (.ref a :: rest)) := by
  obtain ⟨ws, i, e9, hw, hP, hD, he, hs⟩ := hT.at ha (by decide)
  obtain ⟨rfl, k0, n0, k1, n1, k2, n2⟩ := hs
  exact va_get (D := E.1) (ci := 4) (v := .ref (F a 2)) (C := RX3) (T := TX3) (N := 4) S.1 S.2.1 S.2.2.2.2 (fun w h => List.mem_cons_of_mem _ (inX3 w h)) S.2.2.2.1 hK.1 hP i he rfl 2 (by decide) (S.2.2.2.2 _ (List.mem_cons_of_mem _ hl)) (fun _ h => h) rfl hdg (kk k2 n2)
theorem fkX3_2 (hT : TW E K F G H) (ha : K a = 5) : K (F a 2) = 24 ∧ F (F a 2) 99 = 6 := by
  obtain ⟨ws, i, e9, hw, hP, hD, he, hs⟩ := hT.at ha (by decide)
  obtain ⟨rfl, k0, n0, k1, n1, k2, n2⟩ := hs
  exact ⟨k2, n2⟩
theorem gX3_3 (S : CallFix p m c cc nL s args (w0 :: GT) own) (hK : XK E s) (hT : TW E K F G H) (ha : K a = 5) (hl : Cond.fieldLink own idx "LateRules$Leaners" "size" "I" ∈ GT) (hdg : decode cc pc = .ok (.getfield idx, 3)) {v : Int32} (hv : G.1 a 3 = v) (kk : W p l e R s m args below meth c H locs cells slots Q (F0 m (pc + 3) ls (.int v :: rest))) : W p l e R s m args below meth c H locs cells slots Q (F0 m pc ls (.ref a :: rest)) := by
  subst hv
  obtain ⟨ws, i, e9, hw, hP, hD, he, hs⟩ := hT.at ha (by decide)
  obtain ⟨rfl, k0, n0, k1, n1, k2, n2⟩ := hs
  exact va_get (D := E.1) (ci := 4) (v := .int (G.1 a 3)) (C := RX3) (T := TX3) (N := 4) S.1 S.2.1 S.2.2.2.2 (fun w h => List.mem_cons_of_mem _ (inX3 w h)) S.2.2.2.1 hK.1 hP i he rfl 3 (by decide) (S.2.2.2.2 _ (List.mem_cons_of_mem _ hl)) (fun _ h => h) rfl hdg (kk)
theorem pX3_3 {v : Int32} (S : CallFix p m c cc nL s args (w0 :: GT) own) (hK : XK E s) (hT : TW E K F G H) (hS : va_S (xA E) H0 H locs) (ha : K a = 5) (hl : Cond.fieldLink own idx "LateRules$Leaners" "size" "I" ∈ GT) (hdg : decode cc pc = .ok (.putfield idx, 3)) (kk : ∀ (H1 : Heap) (locs1 : List Loc), TW E K F (dput G a 3 v) H1 → va_S (xA E) H0 H1 locs1 → W p l e R s m args below meth c H1 locs1 cells slots Q (F0 m (pc + 3) ls rest)) : W p l e R s m args below meth c H locs cells slots Q (F0 m pc ls (.int v :: .ref a :: rest)) := by
  obtain ⟨ws, i, e9, hw, hP, hD, he, hs⟩ := hT.at ha (by decide)
  obtain ⟨rfl, k0, n0, k1, n1, k2, n2⟩ := hs
  exact va_put (D := E.1) (ci := 4) (v := .int v) (ty := .int) (C := RX3) (T := TX3) (N := 4) S.1 S.2.1 S.2.2.2.2 (fun w h => List.mem_cons_of_mem _ (inX3 w h)) tyX3 tyX3_ok nmX3 S.2.2.2.1 hK.1 hP hD hS i he rfl 3 (by decide) (S.2.2.2.2 _ (List.mem_cons_of_mem _ hl)) (fun _ h => h) rfl  (by decide +kernel) rfl rfl (Nat.le_of_ble_eq_true rfl) hdg (fun H1 locs1 hP1 hD1 hS1 => kk H1 locs1 ⟨_, hw.set he (by rw [ha]; decide) XGa.d (by rw [ha]; exact ⟨(by simp [dput, up2]), k0, n0, k1, n1, k2, n2⟩), hP1, hD1⟩ hS1)
theorem gX4_0 (S : CallFix p m c cc nL s args (w0 :: GT) own) (hK : XK E s) (hT : TW E K F G H) (ha : K a = 6) (hl : Cond.fieldLink own idx "LateRules$Questions" "numbers" "[I" ∈ GT) (hdg : decode cc pc = .ok (.getfield idx, 3)) (kk : K (F a 0) = 22 → F (F a 0) 99 = 10 * F a 99 + 0 → W p l e R s m args below meth c H locs cells slots Q (F0 m (pc + 3) ls (.ref (F a 0) :: rest))) : W p l e R s m args below meth c H locs cells slots Q (F0 m pc ls (.ref a :: rest)) := by
  obtain ⟨ws, i, e9, hw, hP, hD, he, hs⟩ := hT.at ha (by decide)
  obtain ⟨rfl, k0, n0, k1, n1, k2, n2, k3, n3, k4, n4, k5, n5⟩ := hs
  exact va_get (D := E.1) (ci := 5) (v := .ref (F a 0)) (C := RX4) (T := TX4) (N := 7) S.1 S.2.1 S.2.2.2.2 (fun w h => List.mem_cons_of_mem _ (inX4 w h)) S.2.2.2.1 hK.1 hP i he rfl 0 (by decide) (S.2.2.2.2 _ (List.mem_cons_of_mem _ hl)) (fun _ h => h) rfl hdg (kk k0 n0)
theorem fkX4_0 (hT : TW E K F G H) (ha : K a = 6) : K (F a 0) = 22 ∧ F (F a 0) 99 = 10 * F a 99 + 0 := by
  obtain ⟨ws, i, e9, hw, hP, hD, he, hs⟩ := hT.at ha (by decide)
  obtain ⟨rfl, k0, n0, k1, n1, k2, n2, k3, n3, k4, n4, k5, n5⟩ := hs
  exact ⟨k0, n0⟩
theorem gX4_1 (S : CallFix p m c cc nL s args (w0 :: GT) own) (hK : XK E s) (hT : TW E K F G H) (ha : K a = 6) (hl : Cond.fieldLink own idx "LateRules$Questions" "subjects" "[I" ∈ GT) (hdg : decode cc pc = .ok (.getfield idx, 3)) (kk : K (F a 1) = 22 → F (F a 1) 99 = 10 * F a 99 + 1 → W p l e R s m args below meth c H locs cells slots Q (F0 m (pc + 3) ls (.ref (F a 1) :: rest))) : W p l e R s m args below meth c H locs cells slots Q (F0 m pc ls (.ref a :: rest)) := by
  obtain ⟨ws, i, e9, hw, hP, hD, he, hs⟩ := hT.at ha (by decide)
  obtain ⟨rfl, k0, n0, k1, n1, k2, n2, k3, n3, k4, n4, k5, n5⟩ := hs
  exact va_get (D := E.1) (ci := 5) (v := .ref (F a 1)) (C := RX4) (T := TX4) (N := 7) S.1 S.2.1 S.2.2.2.2 (fun w h => List.mem_cons_of_mem _ (inX4 w h)) S.2.2.2.1 hK.1 hP i he rfl 1 (by decide) (S.2.2.2.2 _ (List.mem_cons_of_mem _ hl)) (fun _ h => h) rfl hdg (kk k1 n1)
theorem fkX4_1 (hT : TW E K F G H) (ha : K a = 6) : K (F a 1) = 22 ∧ F (F a 1) 99 = 10 * F a 99 + 1 := by
  obtain ⟨ws, i, e9, hw, hP, hD, he, hs⟩ := hT.at ha (by decide)
  obtain ⟨rfl, k0, n0, k1, n1, k2, n2, k3, n3, k4, n4, k5, n5⟩ := hs
  exact ⟨k1, n1⟩
theorem gX4_2 (S : CallFix p m c cc nL s args (w0 :: GT) own) (hK : XK E s) (hT : TW E K F G H) (ha : K a = 6) (hl : Cond.fieldLink own idx "LateRules$Questions" "befores" "[I" ∈ GT) (hdg : decode cc pc = .ok (.getfield idx, 3)) (kk : K (F a 2) = 22 → F (F a 2) 99 = 10 * F a 99 + 2 → W p l e R s m args below meth c H locs cells slots Q (F0 m (pc + 3) ls (.ref (F a 2) :: rest))) : W p l e R s m args below meth c H locs cells slots Q (F0 m pc ls (.ref a :: rest)) := by
  obtain ⟨ws, i, e9, hw, hP, hD, he, hs⟩ := hT.at ha (by decide)
  obtain ⟨rfl, k0, n0, k1, n1, k2, n2, k3, n3, k4, n4, k5, n5⟩ := hs
  exact va_get (D := E.1) (ci := 5) (v := .ref (F a 2)) (C := RX4) (T := TX4) (N := 7) S.1 S.2.1 S.2.2.2.2 (fun w h => List.mem_cons_of_mem _ (inX4 w h)) S.2.2.2.1 hK.1 hP i he rfl 2 (by decide) (S.2.2.2.2 _ (List.mem_cons_of_mem _ hl)) (fun _ h => h) rfl hdg (kk k2 n2)
theorem fkX4_2 (hT : TW E K F G H) (ha : K a = 6) : K (F a 2) = 22 ∧ F (F a 2) 99 = 10 * F a 99 + 2 := by
  obtain ⟨ws, i, e9, hw, hP, hD, he, hs⟩ := hT.at ha (by decide)
  obtain ⟨rfl, k0, n0, k1, n1, k2, n2, k3, n3, k4, n4, k5, n5⟩ := hs
  exact ⟨k2, n2⟩
theorem gX4_3 (S : CallFix p m c cc nL s args (w0 :: GT) own) (hK : XK E s) (hT : TW E K F G H) (ha : K a = 6) (hl : Cond.fieldLink own idx "LateRules$Questions" "afters" "[I" ∈ GT) (hdg : decode cc pc = .ok (.getfield idx, 3)) (kk : K (F a 3) = 22 → F (F a 3) 99 = 10 * F a 99 + 3 → W p l e R s m args below meth c H locs cells slots Q (F0 m (pc + 3) ls (.ref (F a 3) :: rest))) : W p l e R s m args below meth c H locs cells slots Q (F0 m pc ls (.ref a :: rest)) := by
  obtain ⟨ws, i, e9, hw, hP, hD, he, hs⟩ := hT.at ha (by decide)
  obtain ⟨rfl, k0, n0, k1, n1, k2, n2, k3, n3, k4, n4, k5, n5⟩ := hs
  exact va_get (D := E.1) (ci := 5) (v := .ref (F a 3)) (C := RX4) (T := TX4) (N := 7) S.1 S.2.1 S.2.2.2.2 (fun w h => List.mem_cons_of_mem _ (inX4 w h)) S.2.2.2.1 hK.1 hP i he rfl 3 (by decide) (S.2.2.2.2 _ (List.mem_cons_of_mem _ hl)) (fun _ h => h) rfl hdg (kk k3 n3)
theorem fkX4_3 (hT : TW E K F G H) (ha : K a = 6) : K (F a 3) = 22 ∧ F (F a 3) 99 = 10 * F a 99 + 3 := by
  obtain ⟨ws, i, e9, hw, hP, hD, he, hs⟩ := hT.at ha (by decide)
  obtain ⟨rfl, k0, n0, k1, n1, k2, n2, k3, n3, k4, n4, k5, n5⟩ := hs
  exact ⟨k3, n3⟩
theorem gX4_4 (S : CallFix p m c cc nL s args (w0 :: GT) own) (hK : XK E s) (hT : TW E K F G H) (ha : K a = 6) (hl : Cond.fieldLink own idx "LateRules$Questions" "lates" "[Z" ∈ GT) (hdg : decode cc pc = .ok (.getfield idx, 3)) (kk : K (F a 4) = 23 → F (F a 4) 99 = 10 * F a 99 + 4 → W p l e R s m args below meth c H locs cells slots Q (F0 m (pc + 3) ls (.ref (F a 4) :: rest))) : W p l e R s m args below meth c H locs cells slots Q (F0 m pc ls (.ref a :: rest)) := by
  obtain ⟨ws, i, e9, hw, hP, hD, he, hs⟩ := hT.at ha (by decide)
  obtain ⟨rfl, k0, n0, k1, n1, k2, n2, k3, n3, k4, n4, k5, n5⟩ := hs
  exact va_get (D := E.1) (ci := 5) (v := .ref (F a 4)) (C := RX4) (T := TX4) (N := 7) S.1 S.2.1 S.2.2.2.2 (fun w h => List.mem_cons_of_mem _ (inX4 w h)) S.2.2.2.1 hK.1 hP i he rfl 4 (by decide) (S.2.2.2.2 _ (List.mem_cons_of_mem _ hl)) (fun _ h => h) rfl hdg (kk k4 n4)
theorem fkX4_4 (hT : TW E K F G H) (ha : K a = 6) : K (F a 4) = 23 ∧ F (F a 4) 99 = 10 * F a 99 + 4 := by
  obtain ⟨ws, i, e9, hw, hP, hD, he, hs⟩ := hT.at ha (by decide)
  obtain ⟨rfl, k0, n0, k1, n1, k2, n2, k3, n3, k4, n4, k5, n5⟩ := hs
  exact ⟨k4, n4⟩
theorem gX4_5 (S : CallFix p m c cc nL s args (w0 :: GT) own) (hK : XK E s) (hT : TW E K F G H) (ha : K a = 6) (hl : Cond.fieldLink own idx "LateRules$Questions" "failures" "[Z" ∈ GT) (hdg : decode cc pc = .ok (.getfield idx, 3)) (kk : K (F a 5) = 23 → F (F a 5) 99 = 10 * F a 99 + 5 → W p l e R s m args below meth c H locs cells slots Q (F0 m (pc + 3) ls (.ref (F a 5) :: rest))) : W p l e R s m args below meth c H locs cells slots Q (F0 m pc ls (.ref a :: rest)) := by
  obtain ⟨ws, i, e9, hw, hP, hD, he, hs⟩ := hT.at ha (by decide)
  obtain ⟨rfl, k0, n0, k1, n1, k2, n2, k3, n3, k4, n4, k5, n5⟩ := hs
  exact va_get (D := E.1) (ci := 5) (v := .ref (F a 5)) (C := RX4) (T := TX4) (N := 7) S.1 S.2.1 S.2.2.2.2 (fun w h => List.mem_cons_of_mem _ (inX4 w h)) S.2.2.2.1 hK.1 hP i he rfl 5 (by decide) (S.2.2.2.2 _ (List.mem_cons_of_mem _ hl)) (fun _ h => h) rfl hdg (kk k5 n5)
theorem fkX4_5 (hT : TW E K F G H) (ha : K a = 6) : K (F a 5) = 23 ∧ F (F a 5) 99 = 10 * F a 99 + 5 := by
  obtain ⟨ws, i, e9, hw, hP, hD, he, hs⟩ := hT.at ha (by decide)
  obtain ⟨rfl, k0, n0, k1, n1, k2, n2, k3, n3, k4, n4, k5, n5⟩ := hs
  exact ⟨k5, n5⟩
theorem gX4_6 (S : CallFix p m c cc nL s args (w0 :: GT) own) (hK : XK E s) (hT : TW E K F G H) (ha : K a = 6) (hl : Cond.fieldLink own idx "LateRules$Questions" "size" "I" ∈ GT) (hdg : decode cc pc = .ok (.getfield idx, 3)) {v : Int32} (hv : G.1 a 6 = v) (kk : W p l e R s m args below meth c H locs cells slots Q (F0 m (pc + 3) ls (.int v :: rest))) : W p l e R s m args below meth c H locs cells slots Q (F0 m pc ls (.ref a :: rest)) := by
  subst hv
  obtain ⟨ws, i, e9, hw, hP, hD, he, hs⟩ := hT.at ha (by decide)
  obtain ⟨rfl, k0, n0, k1, n1, k2, n2, k3, n3, k4, n4, k5, n5⟩ := hs
  exact va_get (D := E.1) (ci := 5) (v := .int (G.1 a 6)) (C := RX4) (T := TX4) (N := 7) S.1 S.2.1 S.2.2.2.2 (fun w h => List.mem_cons_of_mem _ (inX4 w h)) S.2.2.2.1 hK.1 hP i he rfl 6 (by decide) (S.2.2.2.2 _ (List.mem_cons_of_mem _ hl)) (fun _ h => h) rfl hdg (kk)
theorem pX4_6 {v : Int32} (S : CallFix p m c cc nL s args (w0 :: GT) own) (hK : XK E s) (hT : TW E K F G H) (hS : va_S (xA E) H0 H locs) (ha : K a = 6) (hl : Cond.fieldLink own idx "LateRules$Questions" "size" "I" ∈ GT) (hdg : decode cc pc = .ok (.putfield idx, 3)) (kk : ∀ (H1 : Heap) (locs1 : List Loc), TW E K F (dput G a 6 v) H1 → va_S (xA E) H0 H1 locs1 → W p l e R s m args below meth c H1 locs1 cells slots Q (F0 m (pc + 3) ls rest)) : W p l e R s m args below meth c H locs cells slots Q (F0 m pc ls (.int v :: .ref a :: rest)) := by
  obtain ⟨ws, i, e9, hw, hP, hD, he, hs⟩ := hT.at ha (by decide)
  obtain ⟨rfl, k0, n0, k1, n1, k2, n2, k3, n3, k4, n4, k5, n5⟩ := hs
  exact va_put (D := E.1) (ci := 5) (v := .int v) (ty := .int) (C := RX4) (T := TX4) (N := 7) S.1 S.2.1 S.2.2.2.2 (fun w h => List.mem_cons_of_mem _ (inX4 w h)) tyX4 tyX4_ok nmX4 S.2.2.2.1 hK.1 hP hD hS i he rfl 6 (by decide) (S.2.2.2.2 _ (List.mem_cons_of_mem _ hl)) (fun _ h => h) rfl  (by decide +kernel) rfl rfl (Nat.le_of_ble_eq_true rfl) hdg (fun H1 locs1 hP1 hD1 hS1 => kk H1 locs1 ⟨_, hw.set he (by rw [ha]; decide) XGa.d (by rw [ha]; exact ⟨(by simp [dput, up2]), k0, n0, k1, n1, k2, n2, k3, n3, k4, n4, k5, n5⟩), hP1, hD1⟩ hS1)
theorem gX5_0 (S : CallFix p m c cc nL s args (w0 :: GT) own) (hK : XK E s) (hT : TW E K F G H) (ha : K a = 7) (hl : Cond.fieldLink own idx "LateRules$Reader" "text" "LLateRules$Text;" ∈ GT) (hdg : decode cc pc = .ok (.getfield idx, 3)) (kk : K (F a 0) = 10 → F (F a 0) 99 = 0 → W p l e R s m args below meth c H locs cells slots Q (F0 m (pc + 3) ls (.ref (F a 0) :: rest))) : W p l e R s m args below meth c H locs cells slots Q (F0 m pc ls (.ref a :: rest)) := by
  obtain ⟨ws, i, e9, hw, hP, hD, he, hs⟩ := hT.at ha (by decide)
  obtain ⟨rfl, k0, n0, z5⟩ := hs
  exact va_get (D := E.1) (ci := 6) (v := .ref (F a 0)) (C := RX5) (T := TX5) (N := 6) S.1 S.2.1 S.2.2.2.2 (fun w h => List.mem_cons_of_mem _ (inX5 w h)) S.2.2.2.1 hK.1 hP i he rfl 0 (by decide) (S.2.2.2.2 _ (List.mem_cons_of_mem _ hl)) (fun _ h => h) rfl hdg (kk k0 n0)
theorem fkX5_0 (hT : TW E K F G H) (ha : K a = 7) : K (F a 0) = 10 ∧ F (F a 0) 99 = 0 := by
  obtain ⟨ws, i, e9, hw, hP, hD, he, hs⟩ := hT.at ha (by decide)
  obtain ⟨rfl, k0, n0, z5⟩ := hs
  exact ⟨k0, n0⟩
theorem gX5_1 (S : CallFix p m c cc nL s args (w0 :: GT) own) (hK : XK E s) (hT : TW E K F G H) (ha : K a = 7) (hl : Cond.fieldLink own idx "LateRules$Reader" "sort" "I" ∈ GT) (hdg : decode cc pc = .ok (.getfield idx, 3)) {v : Int32} (hv : G.1 a 1 = v) (kk : W p l e R s m args below meth c H locs cells slots Q (F0 m (pc + 3) ls (.int v :: rest))) : W p l e R s m args below meth c H locs cells slots Q (F0 m pc ls (.ref a :: rest)) := by
  subst hv
  obtain ⟨ws, i, e9, hw, hP, hD, he, hs⟩ := hT.at ha (by decide)
  obtain ⟨rfl, k0, n0, z5⟩ := hs
  exact va_get (D := E.1) (ci := 6) (v := .int (G.1 a 1)) (C := RX5) (T := TX5) (N := 6) S.1 S.2.1 S.2.2.2.2 (fun w h => List.mem_cons_of_mem _ (inX5 w h)) S.2.2.2.1 hK.1 hP i he rfl 1 (by decide) (S.2.2.2.2 _ (List.mem_cons_of_mem _ hl)) (fun _ h => h) rfl hdg (kk)
theorem pX5_1 {v : Int32} (S : CallFix p m c cc nL s args (w0 :: GT) own) (hK : XK E s) (hT : TW E K F G H) (hS : va_S (xA E) H0 H locs) (ha : K a = 7) (hl : Cond.fieldLink own idx "LateRules$Reader" "sort" "I" ∈ GT) (hdg : decode cc pc = .ok (.putfield idx, 3)) (kk : ∀ (H1 : Heap) (locs1 : List Loc), TW E K F (dput G a 1 v) H1 → va_S (xA E) H0 H1 locs1 → W p l e R s m args below meth c H1 locs1 cells slots Q (F0 m (pc + 3) ls rest)) : W p l e R s m args below meth c H locs cells slots Q (F0 m pc ls (.int v :: .ref a :: rest)) := by
  obtain ⟨ws, i, e9, hw, hP, hD, he, hs⟩ := hT.at ha (by decide)
  obtain ⟨rfl, k0, n0, z5⟩ := hs
  exact va_put (D := E.1) (ci := 6) (v := .int v) (ty := .int) (C := RX5) (T := TX5) (N := 6) S.1 S.2.1 S.2.2.2.2 (fun w h => List.mem_cons_of_mem _ (inX5 w h)) tyX5 tyX5_ok nmX5 S.2.2.2.1 hK.1 hP hD hS i he rfl 1 (by decide) (S.2.2.2.2 _ (List.mem_cons_of_mem _ hl)) (fun _ h => h) rfl  (by decide +kernel) rfl rfl (Nat.le_of_ble_eq_true rfl) hdg (fun H1 locs1 hP1 hD1 hS1 => kk H1 locs1 ⟨_, hw.set he (by rw [ha]; decide) XGa.d (by rw [ha]; exact ⟨(by simp [dput, up2]), k0, n0, (by rw [dput_nj (show (5 : Nat) ≠ 1 by decide)]; exact z5)⟩), hP1, hD1⟩ hS1)
theorem gX5_2 (S : CallFix p m c cc nL s args (w0 :: GT) own) (hK : XK E s) (hT : TW E K F G H) (ha : K a = 7) (hl : Cond.fieldLink own idx "LateRules$Reader" "start" "I" ∈ GT) (hdg : decode cc pc = .ok (.getfield idx, 3)) {v : Int32} (hv : G.1 a 2 = v) (kk : W p l e R s m args below meth c H locs cells slots Q (F0 m (pc + 3) ls (.int v :: rest))) : W p l e R s m args below meth c H locs cells slots Q (F0 m pc ls (.ref a :: rest)) := by
  subst hv
  obtain ⟨ws, i, e9, hw, hP, hD, he, hs⟩ := hT.at ha (by decide)
  obtain ⟨rfl, k0, n0, z5⟩ := hs
  exact va_get (D := E.1) (ci := 6) (v := .int (G.1 a 2)) (C := RX5) (T := TX5) (N := 6) S.1 S.2.1 S.2.2.2.2 (fun w h => List.mem_cons_of_mem _ (inX5 w h)) S.2.2.2.1 hK.1 hP i he rfl 2 (by decide) (S.2.2.2.2 _ (List.mem_cons_of_mem _ hl)) (fun _ h => h) rfl hdg (kk)
theorem pX5_2 {v : Int32} (S : CallFix p m c cc nL s args (w0 :: GT) own) (hK : XK E s) (hT : TW E K F G H) (hS : va_S (xA E) H0 H locs) (ha : K a = 7) (hl : Cond.fieldLink own idx "LateRules$Reader" "start" "I" ∈ GT) (hdg : decode cc pc = .ok (.putfield idx, 3)) (kk : ∀ (H1 : Heap) (locs1 : List Loc), TW E K F (dput G a 2 v) H1 → va_S (xA E) H0 H1 locs1 → W p l e R s m args below meth c H1 locs1 cells slots Q (F0 m (pc + 3) ls rest)) : W p l e R s m args below meth c H locs cells slots Q (F0 m pc ls (.int v :: .ref a :: rest)) := by
  obtain ⟨ws, i, e9, hw, hP, hD, he, hs⟩ := hT.at ha (by decide)
  obtain ⟨rfl, k0, n0, z5⟩ := hs
  exact va_put (D := E.1) (ci := 6) (v := .int v) (ty := .int) (C := RX5) (T := TX5) (N := 6) S.1 S.2.1 S.2.2.2.2 (fun w h => List.mem_cons_of_mem _ (inX5 w h)) tyX5 tyX5_ok nmX5 S.2.2.2.1 hK.1 hP hD hS i he rfl 2 (by decide) (S.2.2.2.2 _ (List.mem_cons_of_mem _ hl)) (fun _ h => h) rfl  (by decide +kernel) rfl rfl (Nat.le_of_ble_eq_true rfl) hdg (fun H1 locs1 hP1 hD1 hS1 => kk H1 locs1 ⟨_, hw.set he (by rw [ha]; decide) XGa.d (by rw [ha]; exact ⟨(by simp [dput, up2]), k0, n0, (by rw [dput_nj (show (5 : Nat) ≠ 2 by decide)]; exact z5)⟩), hP1, hD1⟩ hS1)
theorem gX5_3 (S : CallFix p m c cc nL s args (w0 :: GT) own) (hK : XK E s) (hT : TW E K F G H) (ha : K a = 7) (hl : Cond.fieldLink own idx "LateRules$Reader" "stop" "I" ∈ GT) (hdg : decode cc pc = .ok (.getfield idx, 3)) {v : Int32} (hv : G.1 a 3 = v) (kk : W p l e R s m args below meth c H locs cells slots Q (F0 m (pc + 3) ls (.int v :: rest))) : W p l e R s m args below meth c H locs cells slots Q (F0 m pc ls (.ref a :: rest)) := by
  subst hv
  obtain ⟨ws, i, e9, hw, hP, hD, he, hs⟩ := hT.at ha (by decide)
  obtain ⟨rfl, k0, n0, z5⟩ := hs
  exact va_get (D := E.1) (ci := 6) (v := .int (G.1 a 3)) (C := RX5) (T := TX5) (N := 6) S.1 S.2.1 S.2.2.2.2 (fun w h => List.mem_cons_of_mem _ (inX5 w h)) S.2.2.2.1 hK.1 hP i he rfl 3 (by decide) (S.2.2.2.2 _ (List.mem_cons_of_mem _ hl)) (fun _ h => h) rfl hdg (kk)
theorem pX5_3 {v : Int32} (S : CallFix p m c cc nL s args (w0 :: GT) own) (hK : XK E s) (hT : TW E K F G H) (hS : va_S (xA E) H0 H locs) (ha : K a = 7) (hl : Cond.fieldLink own idx "LateRules$Reader" "stop" "I" ∈ GT) (hdg : decode cc pc = .ok (.putfield idx, 3)) (kk : ∀ (H1 : Heap) (locs1 : List Loc), TW E K F (dput G a 3 v) H1 → va_S (xA E) H0 H1 locs1 → W p l e R s m args below meth c H1 locs1 cells slots Q (F0 m (pc + 3) ls rest)) : W p l e R s m args below meth c H locs cells slots Q (F0 m pc ls (.int v :: .ref a :: rest)) := by
  obtain ⟨ws, i, e9, hw, hP, hD, he, hs⟩ := hT.at ha (by decide)
  obtain ⟨rfl, k0, n0, z5⟩ := hs
  exact va_put (D := E.1) (ci := 6) (v := .int v) (ty := .int) (C := RX5) (T := TX5) (N := 6) S.1 S.2.1 S.2.2.2.2 (fun w h => List.mem_cons_of_mem _ (inX5 w h)) tyX5 tyX5_ok nmX5 S.2.2.2.1 hK.1 hP hD hS i he rfl 3 (by decide) (S.2.2.2.2 _ (List.mem_cons_of_mem _ hl)) (fun _ h => h) rfl  (by decide +kernel) rfl rfl (Nat.le_of_ble_eq_true rfl) hdg (fun H1 locs1 hP1 hD1 hS1 => kk H1 locs1 ⟨_, hw.set he (by rw [ha]; decide) XGa.d (by rw [ha]; exact ⟨(by simp [dput, up2]), k0, n0, (by rw [dput_nj (show (5 : Nat) ≠ 3 by decide)]; exact z5)⟩), hP1, hD1⟩ hS1)
theorem gX5_4 (S : CallFix p m c cc nL s args (w0 :: GT) own) (hK : XK E s) (hT : TW E K F G H) (ha : K a = 7) (hl : Cond.fieldLink own idx "LateRules$Reader" "number" "I" ∈ GT) (hdg : decode cc pc = .ok (.getfield idx, 3)) {v : Int32} (hv : G.1 a 4 = v) (kk : W p l e R s m args below meth c H locs cells slots Q (F0 m (pc + 3) ls (.int v :: rest))) : W p l e R s m args below meth c H locs cells slots Q (F0 m pc ls (.ref a :: rest)) := by
  subst hv
  obtain ⟨ws, i, e9, hw, hP, hD, he, hs⟩ := hT.at ha (by decide)
  obtain ⟨rfl, k0, n0, z5⟩ := hs
  exact va_get (D := E.1) (ci := 6) (v := .int (G.1 a 4)) (C := RX5) (T := TX5) (N := 6) S.1 S.2.1 S.2.2.2.2 (fun w h => List.mem_cons_of_mem _ (inX5 w h)) S.2.2.2.1 hK.1 hP i he rfl 4 (by decide) (S.2.2.2.2 _ (List.mem_cons_of_mem _ hl)) (fun _ h => h) rfl hdg (kk)
theorem pX5_4 {v : Int32} (S : CallFix p m c cc nL s args (w0 :: GT) own) (hK : XK E s) (hT : TW E K F G H) (hS : va_S (xA E) H0 H locs) (ha : K a = 7) (hl : Cond.fieldLink own idx "LateRules$Reader" "number" "I" ∈ GT) (hdg : decode cc pc = .ok (.putfield idx, 3)) (kk : ∀ (H1 : Heap) (locs1 : List Loc), TW E K F (dput G a 4 v) H1 → va_S (xA E) H0 H1 locs1 → W p l e R s m args below meth c H1 locs1 cells slots Q (F0 m (pc + 3) ls rest)) : W p l e R s m args below meth c H locs cells slots Q (F0 m pc ls (.int v :: .ref a :: rest)) := by
  obtain ⟨ws, i, e9, hw, hP, hD, he, hs⟩ := hT.at ha (by decide)
  obtain ⟨rfl, k0, n0, z5⟩ := hs
  exact va_put (D := E.1) (ci := 6) (v := .int v) (ty := .int) (C := RX5) (T := TX5) (N := 6) S.1 S.2.1 S.2.2.2.2 (fun w h => List.mem_cons_of_mem _ (inX5 w h)) tyX5 tyX5_ok nmX5 S.2.2.2.1 hK.1 hP hD hS i he rfl 4 (by decide) (S.2.2.2.2 _ (List.mem_cons_of_mem _ hl)) (fun _ h => h) rfl  (by decide +kernel) rfl rfl (Nat.le_of_ble_eq_true rfl) hdg (fun H1 locs1 hP1 hD1 hS1 => kk H1 locs1 ⟨_, hw.set he (by rw [ha]; decide) XGa.d (by rw [ha]; exact ⟨(by simp [dput, up2]), k0, n0, (by rw [dput_nj (show (5 : Nat) ≠ 4 by decide)]; exact z5)⟩), hP1, hD1⟩ hS1)
theorem gX5_5 (S : CallFix p m c cc nL s args (w0 :: GT) own) (hK : XK E s) (hT : TW E K F G H) (ha : K a = 7) (hl : Cond.fieldLink own idx "LateRules$Reader" "broken" "Z" ∈ GT) (hdg : decode cc pc = .ok (.getfield idx, 3)) {v : Int32} (hv : G.1 a 5 = v) (kk : (v = 0 ∨ v = 1) → W p l e R s m args below meth c H locs cells slots Q (F0 m (pc + 3) ls (.int v :: rest))) : W p l e R s m args below meth c H locs cells slots Q (F0 m pc ls (.ref a :: rest)) := by
  subst hv
  obtain ⟨ws, i, e9, hw, hP, hD, he, hs⟩ := hT.at ha (by decide)
  obtain ⟨rfl, k0, n0, z5⟩ := hs
  exact va_get (D := E.1) (ci := 6) (v := .int (G.1 a 5)) (C := RX5) (T := TX5) (N := 6) S.1 S.2.1 S.2.2.2.2 (fun w h => List.mem_cons_of_mem _ (inX5 w h)) S.2.2.2.1 hK.1 hP i he rfl 5 (by decide) (S.2.2.2.2 _ (List.mem_cons_of_mem _ hl)) (fun _ h => h) rfl hdg (kk z5)
theorem pX5_5 {v : Int32} (S : CallFix p m c cc nL s args (w0 :: GT) own) (hK : XK E s) (hT : TW E K F G H) (hS : va_S (xA E) H0 H locs) (ha : K a = 7) (hl : Cond.fieldLink own idx "LateRules$Reader" "broken" "Z" ∈ GT) (hv : v = 0 ∨ v = 1) (hdg : decode cc pc = .ok (.putfield idx, 3)) (kk : ∀ (H1 : Heap) (locs1 : List Loc), TW E K F (dput G a 5 v) H1 → va_S (xA E) H0 H1 locs1 → W p l e R s m args below meth c H1 locs1 cells slots Q (F0 m (pc + 3) ls rest)) : W p l e R s m args below meth c H locs cells slots Q (F0 m pc ls (.int v :: .ref a :: rest)) := by
  obtain ⟨ws, i, e9, hw, hP, hD, he, hs⟩ := hT.at ha (by decide)
  obtain ⟨rfl, k0, n0, z5⟩ := hs
  exact va_put (D := E.1) (ci := 6) (v := .int v) (ty := .boolean) (C := RX5) (T := TX5) (N := 6) S.1 S.2.1 S.2.2.2.2 (fun w h => List.mem_cons_of_mem _ (inX5 w h)) tyX5 tyX5_ok nmX5 S.2.2.2.1 hK.1 hP hD hS i he rfl 5 (by decide) (S.2.2.2.2 _ (List.mem_cons_of_mem _ hl)) (fun _ h => h) rfl  (by decide +kernel) (by rcases hv with h | h <;> subst h <;> rfl) (by rcases hv with h | h <;> subst h <;> rfl) (Nat.le_of_ble_eq_true rfl) hdg (fun H1 locs1 hP1 hD1 hS1 => kk H1 locs1 ⟨_, hw.set he (by rw [ha]; decide) XGa.d (by rw [ha]; exact ⟨(by simp [dput, up2]), k0, n0, (by rw [dput_at]; exact hv)⟩), hP1, hD1⟩ hS1)
theorem gX6_0 (S : CallFix p m c cc nL s args (w0 :: GT) own) (hK : XK E s) (hT : TW E K F G H) (ha : K a = 8) (hl : Cond.fieldLink own idx "LateRules$Rows" "cells" "[I" ∈ GT) (hdg : decode cc pc = .ok (.getfield idx, 3)) (kk : K (F a 0) = 20 → F (F a 0) 99 = F a 99 → W p l e R s m args below meth c H locs cells slots Q (F0 m (pc + 3) ls (.ref (F a 0) :: rest))) : W p l e R s m args below meth c H locs cells slots Q (F0 m pc ls (.ref a :: rest)) := by
  obtain ⟨ws, i, e9, hw, hP, hD, he, hs⟩ := hT.at ha (by decide)
  obtain ⟨rfl, k0, n0, k1, n1⟩ := hs
  exact va_get (D := E.1) (ci := 7) (v := .ref (F a 0)) (C := RX6) (T := TX6) (N := 2) S.1 S.2.1 S.2.2.2.2 (fun w h => List.mem_cons_of_mem _ (inX6 w h)) S.2.2.2.1 hK.1 hP i he rfl 0 (by decide) (S.2.2.2.2 _ (List.mem_cons_of_mem _ hl)) (fun _ h => h) rfl hdg (kk k0 n0)
theorem fkX6_0 (hT : TW E K F G H) (ha : K a = 8) : K (F a 0) = 20 ∧ F (F a 0) 99 = F a 99 := by
  obtain ⟨ws, i, e9, hw, hP, hD, he, hs⟩ := hT.at ha (by decide)
  obtain ⟨rfl, k0, n0, k1, n1⟩ := hs
  exact ⟨k0, n0⟩
theorem gX6_1 (S : CallFix p m c cc nL s args (w0 :: GT) own) (hK : XK E s) (hT : TW E K F G H) (ha : K a = 8) (hl : Cond.fieldLink own idx "LateRules$Rows" "bits" "[I" ∈ GT) (hdg : decode cc pc = .ok (.getfield idx, 3)) (kk : K (F a 1) = 21 → F (F a 1) 99 = F a 99 → W p l e R s m args below meth c H locs cells slots Q (F0 m (pc + 3) ls (.ref (F a 1) :: rest))) : W p l e R s m args below meth c H locs cells slots Q (F0 m pc ls (.ref a :: rest)) := by
  obtain ⟨ws, i, e9, hw, hP, hD, he, hs⟩ := hT.at ha (by decide)
  obtain ⟨rfl, k0, n0, k1, n1⟩ := hs
  exact va_get (D := E.1) (ci := 7) (v := .ref (F a 1)) (C := RX6) (T := TX6) (N := 2) S.1 S.2.1 S.2.2.2.2 (fun w h => List.mem_cons_of_mem _ (inX6 w h)) S.2.2.2.1 hK.1 hP i he rfl 1 (by decide) (S.2.2.2.2 _ (List.mem_cons_of_mem _ hl)) (fun _ h => h) rfl hdg (kk k1 n1)
theorem fkX6_1 (hT : TW E K F G H) (ha : K a = 8) : K (F a 1) = 21 ∧ F (F a 1) 99 = F a 99 := by
  obtain ⟨ws, i, e9, hw, hP, hD, he, hs⟩ := hT.at ha (by decide)
  obtain ⟨rfl, k0, n0, k1, n1⟩ := hs
  exact ⟨k1, n1⟩
theorem gX7_0 (S : CallFix p m c cc nL s args (w0 :: GT) own) (hK : XK E s) (hT : TW E K F G H) (ha : K a = 9) (hl : Cond.fieldLink own idx "LateRules$Rule" "kind" "I" ∈ GT) (hdg : decode cc pc = .ok (.getfield idx, 3)) {v : Int32} (hv : G.1 a 0 = v) (kk : W p l e R s m args below meth c H locs cells slots Q (F0 m (pc + 3) ls (.int v :: rest))) : W p l e R s m args below meth c H locs cells slots Q (F0 m pc ls (.ref a :: rest)) := by
  subst hv
  obtain ⟨ws, i, e9, hw, hP, hD, he, hs⟩ := hT.at ha (by decide)
  obtain ⟨rfl, z9⟩ := hs
  exact va_get (D := E.1) (ci := 8) (v := .int (G.1 a 0)) (C := RX7) (T := TX7) (N := 10) S.1 S.2.1 S.2.2.2.2 (fun w h => List.mem_cons_of_mem _ (inX7 w h)) S.2.2.2.1 hK.1 hP i he rfl 0 (by decide) (S.2.2.2.2 _ (List.mem_cons_of_mem _ hl)) (fun _ h => h) rfl hdg (kk)
theorem pX7_0 {v : Int32} (S : CallFix p m c cc nL s args (w0 :: GT) own) (hK : XK E s) (hT : TW E K F G H) (hS : va_S (xA E) H0 H locs) (ha : K a = 9) (hl : Cond.fieldLink own idx "LateRules$Rule" "kind" "I" ∈ GT) (hin : meth.name = "<init>") (ho : own = "LateRules$Rule") (hdg : decode cc pc = .ok (.putfield idx, 3)) (kk : ∀ (H1 : Heap) (locs1 : List Loc), TW E K F (dput G a 0 v) H1 → va_S (xA E) H0 H1 locs1 → W p l e R s m args below meth c H1 locs1 cells slots Q (F0 m (pc + 3) ls rest)) : W p l e R s m args below meth c H locs cells slots Q (F0 m pc ls (.int v :: .ref a :: rest)) := by
  obtain ⟨ws, i, e9, hw, hP, hD, he, hs⟩ := hT.at ha (by decide)
  obtain ⟨rfl, z9⟩ := hs
  exact va_putF (D := E.1) (ci := 8) (v := .int v) (ty := .int) (C := RX7) (T := TX7) (N := 10) S.1 S.2.1 S.2.2.2.2 (fun w h => List.mem_cons_of_mem _ (inX7 w h)) tyX7 tyX7_ok nmX7 S.2.2.2.1 hK.1 hP hD hS i he rfl 0 (by decide) (S.2.2.2.2 _ (List.mem_cons_of_mem _ hl)) (fun _ h => h) rfl hin ho.symm (by decide +kernel) rfl rfl (Nat.le_of_ble_eq_true rfl) hdg (fun H1 locs1 hP1 hD1 hS1 => kk H1 locs1 ⟨_, hw.set he (by rw [ha]; decide) XGa.d (by rw [ha]; exact ⟨(by simp [dput, up2]), (by rw [dput_nj (show (9 : Nat) ≠ 0 by decide)]; exact z9)⟩), hP1, hD1⟩ hS1)
theorem gX7_1 (S : CallFix p m c cc nL s args (w0 :: GT) own) (hK : XK E s) (hT : TW E K F G H) (ha : K a = 9) (hl : Cond.fieldLink own idx "LateRules$Rule" "number" "I" ∈ GT) (hdg : decode cc pc = .ok (.getfield idx, 3)) {v : Int32} (hv : G.1 a 1 = v) (kk : W p l e R s m args below meth c H locs cells slots Q (F0 m (pc + 3) ls (.int v :: rest))) : W p l e R s m args below meth c H locs cells slots Q (F0 m pc ls (.ref a :: rest)) := by
  subst hv
  obtain ⟨ws, i, e9, hw, hP, hD, he, hs⟩ := hT.at ha (by decide)
  obtain ⟨rfl, z9⟩ := hs
  exact va_get (D := E.1) (ci := 8) (v := .int (G.1 a 1)) (C := RX7) (T := TX7) (N := 10) S.1 S.2.1 S.2.2.2.2 (fun w h => List.mem_cons_of_mem _ (inX7 w h)) S.2.2.2.1 hK.1 hP i he rfl 1 (by decide) (S.2.2.2.2 _ (List.mem_cons_of_mem _ hl)) (fun _ h => h) rfl hdg (kk)
theorem pX7_1 {v : Int32} (S : CallFix p m c cc nL s args (w0 :: GT) own) (hK : XK E s) (hT : TW E K F G H) (hS : va_S (xA E) H0 H locs) (ha : K a = 9) (hl : Cond.fieldLink own idx "LateRules$Rule" "number" "I" ∈ GT) (hdg : decode cc pc = .ok (.putfield idx, 3)) (kk : ∀ (H1 : Heap) (locs1 : List Loc), TW E K F (dput G a 1 v) H1 → va_S (xA E) H0 H1 locs1 → W p l e R s m args below meth c H1 locs1 cells slots Q (F0 m (pc + 3) ls rest)) : W p l e R s m args below meth c H locs cells slots Q (F0 m pc ls (.int v :: .ref a :: rest)) := by
  obtain ⟨ws, i, e9, hw, hP, hD, he, hs⟩ := hT.at ha (by decide)
  obtain ⟨rfl, z9⟩ := hs
  exact va_put (D := E.1) (ci := 8) (v := .int v) (ty := .int) (C := RX7) (T := TX7) (N := 10) S.1 S.2.1 S.2.2.2.2 (fun w h => List.mem_cons_of_mem _ (inX7 w h)) tyX7 tyX7_ok nmX7 S.2.2.2.1 hK.1 hP hD hS i he rfl 1 (by decide) (S.2.2.2.2 _ (List.mem_cons_of_mem _ hl)) (fun _ h => h) rfl  (by decide +kernel) rfl rfl (Nat.le_of_ble_eq_true rfl) hdg (fun H1 locs1 hP1 hD1 hS1 => kk H1 locs1 ⟨_, hw.set he (by rw [ha]; decide) XGa.d (by rw [ha]; exact ⟨(by simp [dput, up2]), (by rw [dput_nj (show (9 : Nat) ≠ 1 by decide)]; exact z9)⟩), hP1, hD1⟩ hS1)
theorem gX7_2 (S : CallFix p m c cc nL s args (w0 :: GT) own) (hK : XK E s) (hT : TW E K F G H) (ha : K a = 9) (hl : Cond.fieldLink own idx "LateRules$Rule" "table" "I" ∈ GT) (hdg : decode cc pc = .ok (.getfield idx, 3)) {v : Int32} (hv : G.1 a 2 = v) (kk : W p l e R s m args below meth c H locs cells slots Q (F0 m (pc + 3) ls (.int v :: rest))) : W p l e R s m args below meth c H locs cells slots Q (F0 m pc ls (.ref a :: rest)) := by
  subst hv
  obtain ⟨ws, i, e9, hw, hP, hD, he, hs⟩ := hT.at ha (by decide)
  obtain ⟨rfl, z9⟩ := hs
  exact va_get (D := E.1) (ci := 8) (v := .int (G.1 a 2)) (C := RX7) (T := TX7) (N := 10) S.1 S.2.1 S.2.2.2.2 (fun w h => List.mem_cons_of_mem _ (inX7 w h)) S.2.2.2.1 hK.1 hP i he rfl 2 (by decide) (S.2.2.2.2 _ (List.mem_cons_of_mem _ hl)) (fun _ h => h) rfl hdg (kk)
theorem pX7_2 {v : Int32} (S : CallFix p m c cc nL s args (w0 :: GT) own) (hK : XK E s) (hT : TW E K F G H) (hS : va_S (xA E) H0 H locs) (ha : K a = 9) (hl : Cond.fieldLink own idx "LateRules$Rule" "table" "I" ∈ GT) (hdg : decode cc pc = .ok (.putfield idx, 3)) (kk : ∀ (H1 : Heap) (locs1 : List Loc), TW E K F (dput G a 2 v) H1 → va_S (xA E) H0 H1 locs1 → W p l e R s m args below meth c H1 locs1 cells slots Q (F0 m (pc + 3) ls rest)) : W p l e R s m args below meth c H locs cells slots Q (F0 m pc ls (.int v :: .ref a :: rest)) := by
  obtain ⟨ws, i, e9, hw, hP, hD, he, hs⟩ := hT.at ha (by decide)
  obtain ⟨rfl, z9⟩ := hs
  exact va_put (D := E.1) (ci := 8) (v := .int v) (ty := .int) (C := RX7) (T := TX7) (N := 10) S.1 S.2.1 S.2.2.2.2 (fun w h => List.mem_cons_of_mem _ (inX7 w h)) tyX7 tyX7_ok nmX7 S.2.2.2.1 hK.1 hP hD hS i he rfl 2 (by decide) (S.2.2.2.2 _ (List.mem_cons_of_mem _ hl)) (fun _ h => h) rfl  (by decide +kernel) rfl rfl (Nat.le_of_ble_eq_true rfl) hdg (fun H1 locs1 hP1 hD1 hS1 => kk H1 locs1 ⟨_, hw.set he (by rw [ha]; decide) XGa.d (by rw [ha]; exact ⟨(by simp [dput, up2]), (by rw [dput_nj (show (9 : Nat) ≠ 2 by decide)]; exact z9)⟩), hP1, hD1⟩ hS1)
theorem gX7_3 (S : CallFix p m c cc nL s args (w0 :: GT) own) (hK : XK E s) (hT : TW E K F G H) (ha : K a = 9) (hl : Cond.fieldLink own idx "LateRules$Rule" "column" "I" ∈ GT) (hdg : decode cc pc = .ok (.getfield idx, 3)) {v : Int32} (hv : G.1 a 3 = v) (kk : W p l e R s m args below meth c H locs cells slots Q (F0 m (pc + 3) ls (.int v :: rest))) : W p l e R s m args below meth c H locs cells slots Q (F0 m pc ls (.ref a :: rest)) := by
  subst hv
  obtain ⟨ws, i, e9, hw, hP, hD, he, hs⟩ := hT.at ha (by decide)
  obtain ⟨rfl, z9⟩ := hs
  exact va_get (D := E.1) (ci := 8) (v := .int (G.1 a 3)) (C := RX7) (T := TX7) (N := 10) S.1 S.2.1 S.2.2.2.2 (fun w h => List.mem_cons_of_mem _ (inX7 w h)) S.2.2.2.1 hK.1 hP i he rfl 3 (by decide) (S.2.2.2.2 _ (List.mem_cons_of_mem _ hl)) (fun _ h => h) rfl hdg (kk)
theorem pX7_3 {v : Int32} (S : CallFix p m c cc nL s args (w0 :: GT) own) (hK : XK E s) (hT : TW E K F G H) (hS : va_S (xA E) H0 H locs) (ha : K a = 9) (hl : Cond.fieldLink own idx "LateRules$Rule" "column" "I" ∈ GT) (hdg : decode cc pc = .ok (.putfield idx, 3)) (kk : ∀ (H1 : Heap) (locs1 : List Loc), TW E K F (dput G a 3 v) H1 → va_S (xA E) H0 H1 locs1 → W p l e R s m args below meth c H1 locs1 cells slots Q (F0 m (pc + 3) ls rest)) : W p l e R s m args below meth c H locs cells slots Q (F0 m pc ls (.int v :: .ref a :: rest)) := by
  obtain ⟨ws, i, e9, hw, hP, hD, he, hs⟩ := hT.at ha (by decide)
  obtain ⟨rfl, z9⟩ := hs
  exact va_put (D := E.1) (ci := 8) (v := .int v) (ty := .int) (C := RX7) (T := TX7) (N := 10) S.1 S.2.1 S.2.2.2.2 (fun w h => List.mem_cons_of_mem _ (inX7 w h)) tyX7 tyX7_ok nmX7 S.2.2.2.1 hK.1 hP hD hS i he rfl 3 (by decide) (S.2.2.2.2 _ (List.mem_cons_of_mem _ hl)) (fun _ h => h) rfl  (by decide +kernel) rfl rfl (Nat.le_of_ble_eq_true rfl) hdg (fun H1 locs1 hP1 hD1 hS1 => kk H1 locs1 ⟨_, hw.set he (by rw [ha]; decide) XGa.d (by rw [ha]; exact ⟨(by simp [dput, up2]), (by rw [dput_nj (show (9 : Nat) ≠ 3 by decide)]; exact z9)⟩), hP1, hD1⟩ hS1)
theorem gX7_4 (S : CallFix p m c cc nL s args (w0 :: GT) own) (hK : XK E s) (hT : TW E K F G H) (ha : K a = 9) (hl : Cond.fieldLink own idx "LateRules$Rule" "other" "I" ∈ GT) (hdg : decode cc pc = .ok (.getfield idx, 3)) {v : Int32} (hv : G.1 a 4 = v) (kk : W p l e R s m args below meth c H locs cells slots Q (F0 m (pc + 3) ls (.int v :: rest))) : W p l e R s m args below meth c H locs cells slots Q (F0 m pc ls (.ref a :: rest)) := by
  subst hv
  obtain ⟨ws, i, e9, hw, hP, hD, he, hs⟩ := hT.at ha (by decide)
  obtain ⟨rfl, z9⟩ := hs
  exact va_get (D := E.1) (ci := 8) (v := .int (G.1 a 4)) (C := RX7) (T := TX7) (N := 10) S.1 S.2.1 S.2.2.2.2 (fun w h => List.mem_cons_of_mem _ (inX7 w h)) S.2.2.2.1 hK.1 hP i he rfl 4 (by decide) (S.2.2.2.2 _ (List.mem_cons_of_mem _ hl)) (fun _ h => h) rfl hdg (kk)
theorem pX7_4 {v : Int32} (S : CallFix p m c cc nL s args (w0 :: GT) own) (hK : XK E s) (hT : TW E K F G H) (hS : va_S (xA E) H0 H locs) (ha : K a = 9) (hl : Cond.fieldLink own idx "LateRules$Rule" "other" "I" ∈ GT) (hdg : decode cc pc = .ok (.putfield idx, 3)) (kk : ∀ (H1 : Heap) (locs1 : List Loc), TW E K F (dput G a 4 v) H1 → va_S (xA E) H0 H1 locs1 → W p l e R s m args below meth c H1 locs1 cells slots Q (F0 m (pc + 3) ls rest)) : W p l e R s m args below meth c H locs cells slots Q (F0 m pc ls (.int v :: .ref a :: rest)) := by
  obtain ⟨ws, i, e9, hw, hP, hD, he, hs⟩ := hT.at ha (by decide)
  obtain ⟨rfl, z9⟩ := hs
  exact va_put (D := E.1) (ci := 8) (v := .int v) (ty := .int) (C := RX7) (T := TX7) (N := 10) S.1 S.2.1 S.2.2.2.2 (fun w h => List.mem_cons_of_mem _ (inX7 w h)) tyX7 tyX7_ok nmX7 S.2.2.2.1 hK.1 hP hD hS i he rfl 4 (by decide) (S.2.2.2.2 _ (List.mem_cons_of_mem _ hl)) (fun _ h => h) rfl  (by decide +kernel) rfl rfl (Nat.le_of_ble_eq_true rfl) hdg (fun H1 locs1 hP1 hD1 hS1 => kk H1 locs1 ⟨_, hw.set he (by rw [ha]; decide) XGa.d (by rw [ha]; exact ⟨(by simp [dput, up2]), (by rw [dput_nj (show (9 : Nat) ≠ 4 by decide)]; exact z9)⟩), hP1, hD1⟩ hS1)
theorem gX7_5 (S : CallFix p m c cc nL s args (w0 :: GT) own) (hK : XK E s) (hT : TW E K F G H) (ha : K a = 9) (hl : Cond.fieldLink own idx "LateRules$Rule" "low" "I" ∈ GT) (hdg : decode cc pc = .ok (.getfield idx, 3)) {v : Int32} (hv : G.1 a 5 = v) (kk : W p l e R s m args below meth c H locs cells slots Q (F0 m (pc + 3) ls (.int v :: rest))) : W p l e R s m args below meth c H locs cells slots Q (F0 m pc ls (.ref a :: rest)) := by
  subst hv
  obtain ⟨ws, i, e9, hw, hP, hD, he, hs⟩ := hT.at ha (by decide)
  obtain ⟨rfl, z9⟩ := hs
  exact va_get (D := E.1) (ci := 8) (v := .int (G.1 a 5)) (C := RX7) (T := TX7) (N := 10) S.1 S.2.1 S.2.2.2.2 (fun w h => List.mem_cons_of_mem _ (inX7 w h)) S.2.2.2.1 hK.1 hP i he rfl 5 (by decide) (S.2.2.2.2 _ (List.mem_cons_of_mem _ hl)) (fun _ h => h) rfl hdg (kk)
theorem pX7_5 {v : Int32} (S : CallFix p m c cc nL s args (w0 :: GT) own) (hK : XK E s) (hT : TW E K F G H) (hS : va_S (xA E) H0 H locs) (ha : K a = 9) (hl : Cond.fieldLink own idx "LateRules$Rule" "low" "I" ∈ GT) (hdg : decode cc pc = .ok (.putfield idx, 3)) (kk : ∀ (H1 : Heap) (locs1 : List Loc), TW E K F (dput G a 5 v) H1 → va_S (xA E) H0 H1 locs1 → W p l e R s m args below meth c H1 locs1 cells slots Q (F0 m (pc + 3) ls rest)) : W p l e R s m args below meth c H locs cells slots Q (F0 m pc ls (.int v :: .ref a :: rest)) := by
  obtain ⟨ws, i, e9, hw, hP, hD, he, hs⟩ := hT.at ha (by decide)
  obtain ⟨rfl, z9⟩ := hs
  exact va_put (D := E.1) (ci := 8) (v := .int v) (ty := .int) (C := RX7) (T := TX7) (N := 10) S.1 S.2.1 S.2.2.2.2 (fun w h => List.mem_cons_of_mem _ (inX7 w h)) tyX7 tyX7_ok nmX7 S.2.2.2.1 hK.1 hP hD hS i he rfl 5 (by decide) (S.2.2.2.2 _ (List.mem_cons_of_mem _ hl)) (fun _ h => h) rfl  (by decide +kernel) rfl rfl (Nat.le_of_ble_eq_true rfl) hdg (fun H1 locs1 hP1 hD1 hS1 => kk H1 locs1 ⟨_, hw.set he (by rw [ha]; decide) XGa.d (by rw [ha]; exact ⟨(by simp [dput, up2]), (by rw [dput_nj (show (9 : Nat) ≠ 5 by decide)]; exact z9)⟩), hP1, hD1⟩ hS1)
theorem gX7_6 (S : CallFix p m c cc nL s args (w0 :: GT) own) (hK : XK E s) (hT : TW E K F G H) (ha : K a = 9) (hl : Cond.fieldLink own idx "LateRules$Rule" "high" "I" ∈ GT) (hdg : decode cc pc = .ok (.getfield idx, 3)) {v : Int32} (hv : G.1 a 6 = v) (kk : W p l e R s m args below meth c H locs cells slots Q (F0 m (pc + 3) ls (.int v :: rest))) : W p l e R s m args below meth c H locs cells slots Q (F0 m pc ls (.ref a :: rest)) := by
  subst hv
  obtain ⟨ws, i, e9, hw, hP, hD, he, hs⟩ := hT.at ha (by decide)
  obtain ⟨rfl, z9⟩ := hs
  exact va_get (D := E.1) (ci := 8) (v := .int (G.1 a 6)) (C := RX7) (T := TX7) (N := 10) S.1 S.2.1 S.2.2.2.2 (fun w h => List.mem_cons_of_mem _ (inX7 w h)) S.2.2.2.1 hK.1 hP i he rfl 6 (by decide) (S.2.2.2.2 _ (List.mem_cons_of_mem _ hl)) (fun _ h => h) rfl hdg (kk)
theorem pX7_6 {v : Int32} (S : CallFix p m c cc nL s args (w0 :: GT) own) (hK : XK E s) (hT : TW E K F G H) (hS : va_S (xA E) H0 H locs) (ha : K a = 9) (hl : Cond.fieldLink own idx "LateRules$Rule" "high" "I" ∈ GT) (hdg : decode cc pc = .ok (.putfield idx, 3)) (kk : ∀ (H1 : Heap) (locs1 : List Loc), TW E K F (dput G a 6 v) H1 → va_S (xA E) H0 H1 locs1 → W p l e R s m args below meth c H1 locs1 cells slots Q (F0 m (pc + 3) ls rest)) : W p l e R s m args below meth c H locs cells slots Q (F0 m pc ls (.int v :: .ref a :: rest)) := by
  obtain ⟨ws, i, e9, hw, hP, hD, he, hs⟩ := hT.at ha (by decide)
  obtain ⟨rfl, z9⟩ := hs
  exact va_put (D := E.1) (ci := 8) (v := .int v) (ty := .int) (C := RX7) (T := TX7) (N := 10) S.1 S.2.1 S.2.2.2.2 (fun w h => List.mem_cons_of_mem _ (inX7 w h)) tyX7 tyX7_ok nmX7 S.2.2.2.1 hK.1 hP hD hS i he rfl 6 (by decide) (S.2.2.2.2 _ (List.mem_cons_of_mem _ hl)) (fun _ h => h) rfl  (by decide +kernel) rfl rfl (Nat.le_of_ble_eq_true rfl) hdg (fun H1 locs1 hP1 hD1 hS1 => kk H1 locs1 ⟨_, hw.set he (by rw [ha]; decide) XGa.d (by rw [ha]; exact ⟨(by simp [dput, up2]), (by rw [dput_nj (show (9 : Nat) ≠ 6 by decide)]; exact z9)⟩), hP1, hD1⟩ hS1)
theorem gX7_7 (S : CallFix p m c cc nL s args (w0 :: GT) own) (hK : XK E s) (hT : TW E K F G H) (ha : K a = 9) (hl : Cond.fieldLink own idx "LateRules$Rule" "action" "I" ∈ GT) (hdg : decode cc pc = .ok (.getfield idx, 3)) {v : Int32} (hv : G.1 a 7 = v) (kk : W p l e R s m args below meth c H locs cells slots Q (F0 m (pc + 3) ls (.int v :: rest))) : W p l e R s m args below meth c H locs cells slots Q (F0 m pc ls (.ref a :: rest)) := by
  subst hv
  obtain ⟨ws, i, e9, hw, hP, hD, he, hs⟩ := hT.at ha (by decide)
  obtain ⟨rfl, z9⟩ := hs
  exact va_get (D := E.1) (ci := 8) (v := .int (G.1 a 7)) (C := RX7) (T := TX7) (N := 10) S.1 S.2.1 S.2.2.2.2 (fun w h => List.mem_cons_of_mem _ (inX7 w h)) S.2.2.2.1 hK.1 hP i he rfl 7 (by decide) (S.2.2.2.2 _ (List.mem_cons_of_mem _ hl)) (fun _ h => h) rfl hdg (kk)
theorem pX7_7 {v : Int32} (S : CallFix p m c cc nL s args (w0 :: GT) own) (hK : XK E s) (hT : TW E K F G H) (hS : va_S (xA E) H0 H locs) (ha : K a = 9) (hl : Cond.fieldLink own idx "LateRules$Rule" "action" "I" ∈ GT) (hdg : decode cc pc = .ok (.putfield idx, 3)) (kk : ∀ (H1 : Heap) (locs1 : List Loc), TW E K F (dput G a 7 v) H1 → va_S (xA E) H0 H1 locs1 → W p l e R s m args below meth c H1 locs1 cells slots Q (F0 m (pc + 3) ls rest)) : W p l e R s m args below meth c H locs cells slots Q (F0 m pc ls (.int v :: .ref a :: rest)) := by
  obtain ⟨ws, i, e9, hw, hP, hD, he, hs⟩ := hT.at ha (by decide)
  obtain ⟨rfl, z9⟩ := hs
  exact va_put (D := E.1) (ci := 8) (v := .int v) (ty := .int) (C := RX7) (T := TX7) (N := 10) S.1 S.2.1 S.2.2.2.2 (fun w h => List.mem_cons_of_mem _ (inX7 w h)) tyX7 tyX7_ok nmX7 S.2.2.2.1 hK.1 hP hD hS i he rfl 7 (by decide) (S.2.2.2.2 _ (List.mem_cons_of_mem _ hl)) (fun _ h => h) rfl  (by decide +kernel) rfl rfl (Nat.le_of_ble_eq_true rfl) hdg (fun H1 locs1 hP1 hD1 hS1 => kk H1 locs1 ⟨_, hw.set he (by rw [ha]; decide) XGa.d (by rw [ha]; exact ⟨(by simp [dput, up2]), (by rw [dput_nj (show (9 : Nat) ≠ 7 by decide)]; exact z9)⟩), hP1, hD1⟩ hS1)
theorem gX7_8 (S : CallFix p m c cc nL s args (w0 :: GT) own) (hK : XK E s) (hT : TW E K F G H) (ha : K a = 9) (hl : Cond.fieldLink own idx "LateRules$Rule" "rank" "I" ∈ GT) (hdg : decode cc pc = .ok (.getfield idx, 3)) {v : Int32} (hv : G.1 a 8 = v) (kk : W p l e R s m args below meth c H locs cells slots Q (F0 m (pc + 3) ls (.int v :: rest))) : W p l e R s m args below meth c H locs cells slots Q (F0 m pc ls (.ref a :: rest)) := by
  subst hv
  obtain ⟨ws, i, e9, hw, hP, hD, he, hs⟩ := hT.at ha (by decide)
  obtain ⟨rfl, z9⟩ := hs
  exact va_get (D := E.1) (ci := 8) (v := .int (G.1 a 8)) (C := RX7) (T := TX7) (N := 10) S.1 S.2.1 S.2.2.2.2 (fun w h => List.mem_cons_of_mem _ (inX7 w h)) S.2.2.2.1 hK.1 hP i he rfl 8 (by decide) (S.2.2.2.2 _ (List.mem_cons_of_mem _ hl)) (fun _ h => h) rfl hdg (kk)
theorem pX7_8 {v : Int32} (S : CallFix p m c cc nL s args (w0 :: GT) own) (hK : XK E s) (hT : TW E K F G H) (hS : va_S (xA E) H0 H locs) (ha : K a = 9) (hl : Cond.fieldLink own idx "LateRules$Rule" "rank" "I" ∈ GT) (hdg : decode cc pc = .ok (.putfield idx, 3)) (kk : ∀ (H1 : Heap) (locs1 : List Loc), TW E K F (dput G a 8 v) H1 → va_S (xA E) H0 H1 locs1 → W p l e R s m args below meth c H1 locs1 cells slots Q (F0 m (pc + 3) ls rest)) : W p l e R s m args below meth c H locs cells slots Q (F0 m pc ls (.int v :: .ref a :: rest)) := by
  obtain ⟨ws, i, e9, hw, hP, hD, he, hs⟩ := hT.at ha (by decide)
  obtain ⟨rfl, z9⟩ := hs
  exact va_put (D := E.1) (ci := 8) (v := .int v) (ty := .int) (C := RX7) (T := TX7) (N := 10) S.1 S.2.1 S.2.2.2.2 (fun w h => List.mem_cons_of_mem _ (inX7 w h)) tyX7 tyX7_ok nmX7 S.2.2.2.1 hK.1 hP hD hS i he rfl 8 (by decide) (S.2.2.2.2 _ (List.mem_cons_of_mem _ hl)) (fun _ h => h) rfl  (by decide +kernel) rfl rfl (Nat.le_of_ble_eq_true rfl) hdg (fun H1 locs1 hP1 hD1 hS1 => kk H1 locs1 ⟨_, hw.set he (by rw [ha]; decide) XGa.d (by rw [ha]; exact ⟨(by simp [dput, up2]), (by rw [dput_nj (show (9 : Nat) ≠ 8 by decide)]; exact z9)⟩), hP1, hD1⟩ hS1)
theorem gX7_9 (S : CallFix p m c cc nL s args (w0 :: GT) own) (hK : XK E s) (hT : TW E K F G H) (ha : K a = 9) (hl : Cond.fieldLink own idx "LateRules$Rule" "late" "Z" ∈ GT) (hdg : decode cc pc = .ok (.getfield idx, 3)) {v : Int32} (hv : G.1 a 9 = v) (kk : (v = 0 ∨ v = 1) → W p l e R s m args below meth c H locs cells slots Q (F0 m (pc + 3) ls (.int v :: rest))) : W p l e R s m args below meth c H locs cells slots Q (F0 m pc ls (.ref a :: rest)) := by
  subst hv
  obtain ⟨ws, i, e9, hw, hP, hD, he, hs⟩ := hT.at ha (by decide)
  obtain ⟨rfl, z9⟩ := hs
  exact va_get (D := E.1) (ci := 8) (v := .int (G.1 a 9)) (C := RX7) (T := TX7) (N := 10) S.1 S.2.1 S.2.2.2.2 (fun w h => List.mem_cons_of_mem _ (inX7 w h)) S.2.2.2.1 hK.1 hP i he rfl 9 (by decide) (S.2.2.2.2 _ (List.mem_cons_of_mem _ hl)) (fun _ h => h) rfl hdg (kk z9)
theorem pX7_9 {v : Int32} (S : CallFix p m c cc nL s args (w0 :: GT) own) (hK : XK E s) (hT : TW E K F G H) (hS : va_S (xA E) H0 H locs) (ha : K a = 9) (hl : Cond.fieldLink own idx "LateRules$Rule" "late" "Z" ∈ GT) (hv : v = 0 ∨ v = 1) (hdg : decode cc pc = .ok (.putfield idx, 3)) (kk : ∀ (H1 : Heap) (locs1 : List Loc), TW E K F (dput G a 9 v) H1 → va_S (xA E) H0 H1 locs1 → W p l e R s m args below meth c H1 locs1 cells slots Q (F0 m (pc + 3) ls rest)) : W p l e R s m args below meth c H locs cells slots Q (F0 m pc ls (.int v :: .ref a :: rest)) := by
  obtain ⟨ws, i, e9, hw, hP, hD, he, hs⟩ := hT.at ha (by decide)
  obtain ⟨rfl, z9⟩ := hs
  exact va_put (D := E.1) (ci := 8) (v := .int v) (ty := .boolean) (C := RX7) (T := TX7) (N := 10) S.1 S.2.1 S.2.2.2.2 (fun w h => List.mem_cons_of_mem _ (inX7 w h)) tyX7 tyX7_ok nmX7 S.2.2.2.1 hK.1 hP hD hS i he rfl 9 (by decide) (S.2.2.2.2 _ (List.mem_cons_of_mem _ hl)) (fun _ h => h) rfl  (by decide +kernel) (by rcases hv with h | h <;> subst h <;> rfl) (by rcases hv with h | h <;> subst h <;> rfl) (Nat.le_of_ble_eq_true rfl) hdg (fun H1 locs1 hP1 hD1 hS1 => kk H1 locs1 ⟨_, hw.set he (by rw [ha]; decide) XGa.d (by rw [ha]; exact ⟨(by simp [dput, up2]), (by rw [dput_at]; exact hv)⟩), hP1, hD1⟩ hS1)
theorem gX8_0 (S : CallFix p m c cc nL s args (w0 :: GT) own) (hK : XK E s) (hT : TW E K F G H) (ha : K a = 10) (hl : Cond.fieldLink own idx "LateRules$Text" "signs" "[C" ∈ GT) (hdg : decode cc pc = .ok (.getfield idx, 3)) (kk : K (F a 0) = 25 → F (F a 0) 99 = 0 → W p l e R s m args below meth c H locs cells slots Q (F0 m (pc + 3) ls (.ref (F a 0) :: rest))) : W p l e R s m args below meth c H locs cells slots Q (F0 m pc ls (.ref a :: rest)) := by
  obtain ⟨ws, i, e9, hw, hP, hD, he, hs⟩ := hT.at ha (by decide)
  obtain ⟨rfl, k0, n0⟩ := hs
  exact va_get (D := E.1) (ci := 9) (v := .ref (F a 0)) (C := RX8) (T := TX8) (N := 2) S.1 S.2.1 S.2.2.2.2 (fun w h => List.mem_cons_of_mem _ (inX8 w h)) S.2.2.2.1 hK.1 hP i he rfl 0 (by decide) (S.2.2.2.2 _ (List.mem_cons_of_mem _ hl)) (fun _ h => h) rfl hdg (kk k0 n0)
theorem fkX8_0 (hT : TW E K F G H) (ha : K a = 10) : K (F a 0) = 25 ∧ F (F a 0) 99 = 0 := by
  obtain ⟨ws, i, e9, hw, hP, hD, he, hs⟩ := hT.at ha (by decide)
  obtain ⟨rfl, k0, n0⟩ := hs
  exact ⟨k0, n0⟩
theorem gX8_1 (S : CallFix p m c cc nL s args (w0 :: GT) own) (hK : XK E s) (hT : TW E K F G H) (ha : K a = 10) (hl : Cond.fieldLink own idx "LateRules$Text" "length" "I" ∈ GT) (hdg : decode cc pc = .ok (.getfield idx, 3)) {v : Int32} (hv : G.1 a 1 = v) (kk : W p l e R s m args below meth c H locs cells slots Q (F0 m (pc + 3) ls (.int v :: rest))) : W p l e R s m args below meth c H locs cells slots Q (F0 m pc ls (.ref a :: rest)) := by
  subst hv
  obtain ⟨ws, i, e9, hw, hP, hD, he, hs⟩ := hT.at ha (by decide)
  obtain ⟨rfl, k0, n0⟩ := hs
  exact va_get (D := E.1) (ci := 9) (v := .int (G.1 a 1)) (C := RX8) (T := TX8) (N := 2) S.1 S.2.1 S.2.2.2.2 (fun w h => List.mem_cons_of_mem _ (inX8 w h)) S.2.2.2.1 hK.1 hP i he rfl 1 (by decide) (S.2.2.2.2 _ (List.mem_cons_of_mem _ hl)) (fun _ h => h) rfl hdg (kk)
theorem pX8_1 {v : Int32} (S : CallFix p m c cc nL s args (w0 :: GT) own) (hK : XK E s) (hT : TW E K F G H) (hS : va_S (xA E) H0 H locs) (ha : K a = 10) (hl : Cond.fieldLink own idx "LateRules$Text" "length" "I" ∈ GT) (hdg : decode cc pc = .ok (.putfield idx, 3)) (kk : ∀ (H1 : Heap) (locs1 : List Loc), TW E K F (dput G a 1 v) H1 → va_S (xA E) H0 H1 locs1 → W p l e R s m args below meth c H1 locs1 cells slots Q (F0 m (pc + 3) ls rest)) : W p l e R s m args below meth c H locs cells slots Q (F0 m pc ls (.int v :: .ref a :: rest)) := by
  obtain ⟨ws, i, e9, hw, hP, hD, he, hs⟩ := hT.at ha (by decide)
  obtain ⟨rfl, k0, n0⟩ := hs
  exact va_put (D := E.1) (ci := 9) (v := .int v) (ty := .int) (C := RX8) (T := TX8) (N := 2) S.1 S.2.1 S.2.2.2.2 (fun w h => List.mem_cons_of_mem _ (inX8 w h)) tyX8 tyX8_ok nmX8 S.2.2.2.1 hK.1 hP hD hS i he rfl 1 (by decide) (S.2.2.2.2 _ (List.mem_cons_of_mem _ hl)) (fun _ h => h) rfl  (by decide +kernel) rfl rfl (Nat.le_of_ble_eq_true rfl) hdg (fun H1 locs1 hP1 hD1 hS1 => kk H1 locs1 ⟨_, hw.set he (by rw [ha]; decide) XGa.d (by rw [ha]; exact ⟨(by simp [dput, up2]), k0, n0⟩), hP1, hD1⟩ hS1)
theorem gX9_0 (S : CallFix p m c cc nL s args (w0 :: GT) own) (hK : XK E s) (hT : TW E K F G H) (ha : K a = 11) (hl : Cond.fieldLink own idx "LateRules$Verdict" "words" "Ljava/lang/StringBuilder;" ∈ GT) (hdg : decode cc pc = .ok (.getfield idx, 3)) (kk : W p l e R s m args below meth c H locs cells slots Q (F0 m (pc + 3) ls (.ref E.2.2.2.1 :: rest))) : W p l e R s m args below meth c H locs cells slots Q (F0 m pc ls (.ref a :: rest)) := by
  obtain ⟨ws, i, e9, hw, hP, hD, he, hs⟩ := hT.at ha (by decide)
  obtain ⟨rfl, z1⟩ := hs
  exact va_get (D := E.1) (ci := 10) (v := .ref E.2.2.2.1) (C := RX9) (T := TX9) (N := 4) S.1 S.2.1 S.2.2.2.2 (fun w h => List.mem_cons_of_mem _ (inX9 w h)) S.2.2.2.1 hK.1 hP i he rfl 0 (by decide) (S.2.2.2.2 _ (List.mem_cons_of_mem _ hl)) (fun _ h => h) rfl hdg (kk)
theorem gX9_1 (S : CallFix p m c cc nL s args (w0 :: GT) own) (hK : XK E s) (hT : TW E K F G H) (ha : K a = 11) (hl : Cond.fieldLink own idx "LateRules$Verdict" "told" "Z" ∈ GT) (hdg : decode cc pc = .ok (.getfield idx, 3)) {v : Int32} (hv : G.1 a 1 = v) (kk : (v = 0 ∨ v = 1) → W p l e R s m args below meth c H locs cells slots Q (F0 m (pc + 3) ls (.int v :: rest))) : W p l e R s m args below meth c H locs cells slots Q (F0 m pc ls (.ref a :: rest)) := by
  subst hv
  obtain ⟨ws, i, e9, hw, hP, hD, he, hs⟩ := hT.at ha (by decide)
  obtain ⟨rfl, z1⟩ := hs
  exact va_get (D := E.1) (ci := 10) (v := .int (G.1 a 1)) (C := RX9) (T := TX9) (N := 4) S.1 S.2.1 S.2.2.2.2 (fun w h => List.mem_cons_of_mem _ (inX9 w h)) S.2.2.2.1 hK.1 hP i he rfl 1 (by decide) (S.2.2.2.2 _ (List.mem_cons_of_mem _ hl)) (fun _ h => h) rfl hdg (kk z1)
theorem pX9_1 {v : Int32} (S : CallFix p m c cc nL s args (w0 :: GT) own) (hK : XK E s) (hT : TW E K F G H) (hS : va_S (xA E) H0 H locs) (ha : K a = 11) (hl : Cond.fieldLink own idx "LateRules$Verdict" "told" "Z" ∈ GT) (hv : v = 0 ∨ v = 1) (hdg : decode cc pc = .ok (.putfield idx, 3)) (kk : ∀ (H1 : Heap) (locs1 : List Loc), TW E K F (dput G a 1 v) H1 → va_S (xA E) H0 H1 locs1 → W p l e R s m args below meth c H1 locs1 cells slots Q (F0 m (pc + 3) ls rest)) : W p l e R s m args below meth c H locs cells slots Q (F0 m pc ls (.int v :: .ref a :: rest)) := by
  obtain ⟨ws, i, e9, hw, hP, hD, he, hs⟩ := hT.at ha (by decide)
  obtain ⟨rfl, z1⟩ := hs
  exact va_put (D := E.1) (ci := 10) (v := .int v) (ty := .boolean) (C := RX9) (T := TX9) (N := 4) S.1 S.2.1 S.2.2.2.2 (fun w h => List.mem_cons_of_mem _ (inX9 w h)) tyX9 tyX9_ok nmX9 S.2.2.2.1 hK.1 hP hD hS i he rfl 1 (by decide) (S.2.2.2.2 _ (List.mem_cons_of_mem _ hl)) (fun _ h => h) rfl  (by decide +kernel) (by rcases hv with h | h <;> subst h <;> rfl) (by rcases hv with h | h <;> subst h <;> rfl) (Nat.le_of_ble_eq_true rfl) hdg (fun H1 locs1 hP1 hD1 hS1 => kk H1 locs1 ⟨_, hw.set he (by rw [ha]; decide) XGa.d (by rw [ha]; exact ⟨(by simp [dput, up2]), (by rw [dput_at]; exact hv)⟩), hP1, hD1⟩ hS1)
theorem gX9_2 (S : CallFix p m c cc nL s args (w0 :: GT) own) (hK : XK E s) (hT : TW E K F G H) (ha : K a = 11) (hl : Cond.fieldLink own idx "LateRules$Verdict" "number" "I" ∈ GT) (hdg : decode cc pc = .ok (.getfield idx, 3)) {v : Int32} (hv : G.1 a 2 = v) (kk : W p l e R s m args below meth c H locs cells slots Q (F0 m (pc + 3) ls (.int v :: rest))) : W p l e R s m args below meth c H locs cells slots Q (F0 m pc ls (.ref a :: rest)) := by
  subst hv
  obtain ⟨ws, i, e9, hw, hP, hD, he, hs⟩ := hT.at ha (by decide)
  obtain ⟨rfl, z1⟩ := hs
  exact va_get (D := E.1) (ci := 10) (v := .int (G.1 a 2)) (C := RX9) (T := TX9) (N := 4) S.1 S.2.1 S.2.2.2.2 (fun w h => List.mem_cons_of_mem _ (inX9 w h)) S.2.2.2.1 hK.1 hP i he rfl 2 (by decide) (S.2.2.2.2 _ (List.mem_cons_of_mem _ hl)) (fun _ h => h) rfl hdg (kk)
theorem pX9_2 {v : Int32} (S : CallFix p m c cc nL s args (w0 :: GT) own) (hK : XK E s) (hT : TW E K F G H) (hS : va_S (xA E) H0 H locs) (ha : K a = 11) (hl : Cond.fieldLink own idx "LateRules$Verdict" "number" "I" ∈ GT) (hdg : decode cc pc = .ok (.putfield idx, 3)) (kk : ∀ (H1 : Heap) (locs1 : List Loc), TW E K F (dput G a 2 v) H1 → va_S (xA E) H0 H1 locs1 → W p l e R s m args below meth c H1 locs1 cells slots Q (F0 m (pc + 3) ls rest)) : W p l e R s m args below meth c H locs cells slots Q (F0 m pc ls (.int v :: .ref a :: rest)) := by
  obtain ⟨ws, i, e9, hw, hP, hD, he, hs⟩ := hT.at ha (by decide)
  obtain ⟨rfl, z1⟩ := hs
  exact va_put (D := E.1) (ci := 10) (v := .int v) (ty := .int) (C := RX9) (T := TX9) (N := 4) S.1 S.2.1 S.2.2.2.2 (fun w h => List.mem_cons_of_mem _ (inX9 w h)) tyX9 tyX9_ok nmX9 S.2.2.2.1 hK.1 hP hD hS i he rfl 2 (by decide) (S.2.2.2.2 _ (List.mem_cons_of_mem _ hl)) (fun _ h => h) rfl  (by decide +kernel) rfl rfl (Nat.le_of_ble_eq_true rfl) hdg (fun H1 locs1 hP1 hD1 hS1 => kk H1 locs1 ⟨_, hw.set he (by rw [ha]; decide) XGa.d (by rw [ha]; exact ⟨(by simp [dput, up2]), (by rw [dput_nj (show (1 : Nat) ≠ 2 by decide)]; exact z1)⟩), hP1, hD1⟩ hS1)
theorem gX9_3 (S : CallFix p m c cc nL s args (w0 :: GT) own) (hK : XK E s) (hT : TW E K F G H) (ha : K a = 11) (hl : Cond.fieldLink own idx "LateRules$Verdict" "subject" "I" ∈ GT) (hdg : decode cc pc = .ok (.getfield idx, 3)) {v : Int32} (hv : G.1 a 3 = v) (kk : W p l e R s m args below meth c H locs cells slots Q (F0 m (pc + 3) ls (.int v :: rest))) : W p l e R s m args below meth c H locs cells slots Q (F0 m pc ls (.ref a :: rest)) := by
  subst hv
  obtain ⟨ws, i, e9, hw, hP, hD, he, hs⟩ := hT.at ha (by decide)
  obtain ⟨rfl, z1⟩ := hs
  exact va_get (D := E.1) (ci := 10) (v := .int (G.1 a 3)) (C := RX9) (T := TX9) (N := 4) S.1 S.2.1 S.2.2.2.2 (fun w h => List.mem_cons_of_mem _ (inX9 w h)) S.2.2.2.1 hK.1 hP i he rfl 3 (by decide) (S.2.2.2.2 _ (List.mem_cons_of_mem _ hl)) (fun _ h => h) rfl hdg (kk)
theorem pX9_3 {v : Int32} (S : CallFix p m c cc nL s args (w0 :: GT) own) (hK : XK E s) (hT : TW E K F G H) (hS : va_S (xA E) H0 H locs) (ha : K a = 11) (hl : Cond.fieldLink own idx "LateRules$Verdict" "subject" "I" ∈ GT) (hdg : decode cc pc = .ok (.putfield idx, 3)) (kk : ∀ (H1 : Heap) (locs1 : List Loc), TW E K F (dput G a 3 v) H1 → va_S (xA E) H0 H1 locs1 → W p l e R s m args below meth c H1 locs1 cells slots Q (F0 m (pc + 3) ls rest)) : W p l e R s m args below meth c H locs cells slots Q (F0 m pc ls (.int v :: .ref a :: rest)) := by
  obtain ⟨ws, i, e9, hw, hP, hD, he, hs⟩ := hT.at ha (by decide)
  obtain ⟨rfl, z1⟩ := hs
  exact va_put (D := E.1) (ci := 10) (v := .int v) (ty := .int) (C := RX9) (T := TX9) (N := 4) S.1 S.2.1 S.2.2.2.2 (fun w h => List.mem_cons_of_mem _ (inX9 w h)) tyX9 tyX9_ok nmX9 S.2.2.2.1 hK.1 hP hD hS i he rfl 3 (by decide) (S.2.2.2.2 _ (List.mem_cons_of_mem _ hl)) (fun _ h => h) rfl  (by decide +kernel) rfl rfl (Nat.le_of_ble_eq_true rfl) hdg (fun H1 locs1 hP1 hD1 hS1 => kk H1 locs1 ⟨_, hw.set he (by rw [ha]; decide) XGa.d (by rw [ha]; exact ⟨(by simp [dput, up2]), (by rw [dput_nj (show (1 : Nat) ≠ 3 by decide)]; exact z1)⟩), hP1, hD1⟩ hS1)
def RSX10 (K : Nat → Nat) (F : Nat → Nat → Nat) (a : Nat) : Prop := (K (F a 0) = 10 ∧ F (F a 0) 99 = 0) ∧ (K (F a 1) = 7 ∧ F (F a 1) 99 = 0) ∧ (K (F a 2) = 2 ∧ F (F a 2) 99 = 0) ∧ (K (F a 3) = 8 ∧ F (F a 3) 99 = 0) ∧ (K (F a 4) = 8 ∧ F (F a 4) 99 = 1) ∧ (K (F a 5) = 8 ∧ F (F a 5) 99 = 2) ∧ (K (F a 6) = 8 ∧ F (F a 6) 99 = 3) ∧ (K (F a 7) = 16 ∧ F (F a 7) 99 = 0) ∧ (K (F a 8) = 6 ∧ F (F a 8) 99 = 0) ∧ (K (F a 9) = 6 ∧ F (F a 9) 99 = 1) ∧ (K (F a 10) = 6 ∧ F (F a 10) 99 = 2) ∧ (K (F a 11) = 3 ∧ F (F a 11) 99 = 0) ∧ (K (F a 12) = 4 ∧ F (F a 12) 99 = 0) ∧ (K (F a 13) = 5 ∧ F (F a 13) 99 = 0) ∧ (K (F a 14) = 11 ∧ F (F a 14) 99 = 0) ∧ (K (F a 15) = 26 ∧ F (F a 15) 99 = 0) ∧ (K (F a 16) = 27 ∧ F (F a 16) 99 = 0)
theorem atX10 (hT : TW E K F G H) (ha : K a = 12) : ∃ (ws : va_W) (i : Nat), TWl E K F G ws ∧ va_P E.1 vwCl ws H ∧ va_D (xA E) ws ∧ ws[i]? = some (a, .inr (11, [.ref (F a 0), .ref (F a 1), .ref (F a 2), .ref (F a 3), .ref (F a 4), .ref (F a 5), .ref (F a 6), .ref (F a 7), .ref (F a 8), .ref (F a 9), .ref (F a 10), .ref (F a 11), .ref (F a 12), .ref (F a 13), .ref (F a 14), .ref (F a 15), .ref (F a 16), .int (G.1 a 17), .int (G.1 a 18)])) ∧ (G.1 a 18 = 0 ∨ G.1 a 18 = 1) ∧ RSX10 K F a := by
  obtain ⟨ws, i, e9, hw, hP, hD, he, hs⟩ := hT.at ha (by decide)
  obtain ⟨rfl, k0, n0, k1, n1, k2, n2, k3, n3, k4, n4, k5, n5, k6, n6, k7, n7, k8, n8, k9, n9, k10, n10, k11, n11, k12, n12, k13, n13, k14, n14, k15, n15, k16, n16, z18⟩ := hs
  exact ⟨ws, i, hw, hP, hD, he, z18, ⟨k0, n0⟩, ⟨k1, n1⟩, ⟨k2, n2⟩, ⟨k3, n3⟩, ⟨k4, n4⟩, ⟨k5, n5⟩, ⟨k6, n6⟩, ⟨k7, n7⟩, ⟨k8, n8⟩, ⟨k9, n9⟩, ⟨k10, n10⟩, ⟨k11, n11⟩, ⟨k12, n12⟩, ⟨k13, n13⟩, ⟨k14, n14⟩, ⟨k15, n15⟩, ⟨k16, n16⟩⟩
theorem mkX10 {e : va_E} (he : e = .inr (11, [.ref (F a 0), .ref (F a 1), .ref (F a 2), .ref (F a 3), .ref (F a 4), .ref (F a 5), .ref (F a 6), .ref (F a 7), .ref (F a 8), .ref (F a 9), .ref (F a 10), .ref (F a 11), .ref (F a 12), .ref (F a 13), .ref (F a 14), .ref (F a 15), .ref (F a 16), .int (G.1 a 17), .int (G.1 a 18)])) (z18 : G.1 a 18 = 0 ∨ G.1 a 18 = 1) (hr : RSX10 K F a) : SHQ E K F G a 12 e := by
  obtain ⟨⟨k0, n0⟩, ⟨k1, n1⟩, ⟨k2, n2⟩, ⟨k3, n3⟩, ⟨k4, n4⟩, ⟨k5, n5⟩, ⟨k6, n6⟩, ⟨k7, n7⟩, ⟨k8, n8⟩, ⟨k9, n9⟩, ⟨k10, n10⟩, ⟨k11, n11⟩, ⟨k12, n12⟩, ⟨k13, n13⟩, ⟨k14, n14⟩, ⟨k15, n15⟩, ⟨k16, n16⟩⟩ := hr
  exact ⟨he, k0, n0, k1, n1, k2, n2, k3, n3, k4, n4, k5, n5, k6, n6, k7, n7, k8, n8, k9, n9, k10, n10, k11, n11, k12, n12, k13, n13, k14, n14, k15, n15, k16, n16, z18⟩
theorem rsX10 (hT : TW E K F G H) (ha : K a = 12) : RSX10 K F a := by
  obtain ⟨ws, i, hw, hP, hD, he, z18, hr⟩ := atX10 hT ha
  exact hr
theorem fkX10_0 (hT : TW E K F G H) (ha : K a = 12) : K (F a 0) = 10 ∧ F (F a 0) 99 = 0 := (rsX10 hT ha).1
theorem fkX10_1 (hT : TW E K F G H) (ha : K a = 12) : K (F a 1) = 7 ∧ F (F a 1) 99 = 0 := (rsX10 hT ha).2.1
theorem fkX10_2 (hT : TW E K F G H) (ha : K a = 12) : K (F a 2) = 2 ∧ F (F a 2) 99 = 0 := (rsX10 hT ha).2.2.1
theorem fkX10_3 (hT : TW E K F G H) (ha : K a = 12) : K (F a 3) = 8 ∧ F (F a 3) 99 = 0 := (rsX10 hT ha).2.2.2.1
theorem fkX10_4 (hT : TW E K F G H) (ha : K a = 12) : K (F a 4) = 8 ∧ F (F a 4) 99 = 1 := (rsX10 hT ha).2.2.2.2.1
theorem fkX10_5 (hT : TW E K F G H) (ha : K a = 12) : K (F a 5) = 8 ∧ F (F a 5) 99 = 2 := (rsX10 hT ha).2.2.2.2.2.1
theorem fkX10_6 (hT : TW E K F G H) (ha : K a = 12) : K (F a 6) = 8 ∧ F (F a 6) 99 = 3 := (rsX10 hT ha).2.2.2.2.2.2.1
theorem fkX10_7 (hT : TW E K F G H) (ha : K a = 12) : K (F a 7) = 16 ∧ F (F a 7) 99 = 0 := (rsX10 hT ha).2.2.2.2.2.2.2.1
theorem fkX10_8 (hT : TW E K F G H) (ha : K a = 12) : K (F a 8) = 6 ∧ F (F a 8) 99 = 0 := (rsX10 hT ha).2.2.2.2.2.2.2.2.1
theorem fkX10_9 (hT : TW E K F G H) (ha : K a = 12) : K (F a 9) = 6 ∧ F (F a 9) 99 = 1 := (rsX10 hT ha).2.2.2.2.2.2.2.2.2.1
theorem fkX10_10 (hT : TW E K F G H) (ha : K a = 12) : K (F a 10) = 6 ∧ F (F a 10) 99 = 2 := (rsX10 hT ha).2.2.2.2.2.2.2.2.2.2.1
theorem fkX10_11 (hT : TW E K F G H) (ha : K a = 12) : K (F a 11) = 3 ∧ F (F a 11) 99 = 0 := (rsX10 hT ha).2.2.2.2.2.2.2.2.2.2.2.1
theorem fkX10_12 (hT : TW E K F G H) (ha : K a = 12) : K (F a 12) = 4 ∧ F (F a 12) 99 = 0 := (rsX10 hT ha).2.2.2.2.2.2.2.2.2.2.2.2.1
theorem fkX10_13 (hT : TW E K F G H) (ha : K a = 12) : K (F a 13) = 5 ∧ F (F a 13) 99 = 0 := (rsX10 hT ha).2.2.2.2.2.2.2.2.2.2.2.2.2.1
theorem fkX10_14 (hT : TW E K F G H) (ha : K a = 12) : K (F a 14) = 11 ∧ F (F a 14) 99 = 0 := (rsX10 hT ha).2.2.2.2.2.2.2.2.2.2.2.2.2.2.1
theorem fkX10_15 (hT : TW E K F G H) (ha : K a = 12) : K (F a 15) = 26 ∧ F (F a 15) 99 = 0 := (rsX10 hT ha).2.2.2.2.2.2.2.2.2.2.2.2.2.2.2.1
theorem fkX10_16 (hT : TW E K F G H) (ha : K a = 12) : K (F a 16) = 27 ∧ F (F a 16) 99 = 0 := (rsX10 hT ha).2.2.2.2.2.2.2.2.2.2.2.2.2.2.2.2
theorem gX10_0 (S : CallFix p m c cc nL s args (w0 :: GT) own) (hK : XK E s) (hT : TW E K F G H) (ha : K a = 12) (hl : Cond.fieldLink own idx "LateRules" "text" "LLateRules$Text;" ∈ GT) (hdg : decode cc pc = .ok (.getfield idx, 3)) (kk : K (F a 0) = 10 → F (F a 0) 99 = 0 → W p l e R s m args below meth c H locs cells slots Q (F0 m (pc + 3) ls (.ref (F a 0) :: rest))) : W p l e R s m args below meth c H locs cells slots Q (F0 m pc ls (.ref a :: rest)) := by
  obtain ⟨ws, i, hw, hP, hD, he, z18, hr⟩ := atX10 hT ha
  exact va_get (D := E.1) (ci := 11) (v := .ref (F a 0)) (C := RX10) (T := TX10) (N := 19) S.1 S.2.1 S.2.2.2.2 (fun w h => List.mem_cons_of_mem _ (inX10 w h)) S.2.2.2.1 hK.1 hP i he rfl 0 (by decide) (S.2.2.2.2 _ (List.mem_cons_of_mem _ hl)) (fun _ h => h) rfl hdg (kk (fkX10_0 hT ha).1 (fkX10_0 hT ha).2)
theorem gX10_1 (S : CallFix p m c cc nL s args (w0 :: GT) own) (hK : XK E s) (hT : TW E K F G H) (ha : K a = 12) (hl : Cond.fieldLink own idx "LateRules" "reader" "LLateRules$Reader;" ∈ GT) (hdg : decode cc pc = .ok (.getfield idx, 3)) (kk : K (F a 1) = 7 → F (F a 1) 99 = 0 → W p l e R s m args below meth c H locs cells slots Q (F0 m (pc + 3) ls (.ref (F a 1) :: rest))) : W p l e R s m args below meth c H locs cells slots Q (F0 m pc ls (.ref a :: rest)) := by
  obtain ⟨ws, i, hw, hP, hD, he, z18, hr⟩ := atX10 hT ha
  exact va_get (D := E.1) (ci := 11) (v := .ref (F a 1)) (C := RX10) (T := TX10) (N := 19) S.1 S.2.1 S.2.2.2.2 (fun w h => List.mem_cons_of_mem _ (inX10 w h)) S.2.2.2.1 hK.1 hP i he rfl 1 (by decide) (S.2.2.2.2 _ (List.mem_cons_of_mem _ hl)) (fun _ h => h) rfl hdg (kk (fkX10_1 hT ha).1 (fkX10_1 hT ha).2)
theorem gX10_2 (S : CallFix p m c cc nL s args (w0 :: GT) own) (hK : XK E s) (hT : TW E K F G H) (ha : K a = 12) (hl : Cond.fieldLink own idx "LateRules" "book" "LLateRules$Book;" ∈ GT) (hdg : decode cc pc = .ok (.getfield idx, 3)) (kk : K (F a 2) = 2 → F (F a 2) 99 = 0 → W p l e R s m args below meth c H locs cells slots Q (F0 m (pc + 3) ls (.ref (F a 2) :: rest))) : W p l e R s m args below meth c H locs cells slots Q (F0 m pc ls (.ref a :: rest)) := by
  obtain ⟨ws, i, hw, hP, hD, he, z18, hr⟩ := atX10 hT ha
  exact va_get (D := E.1) (ci := 11) (v := .ref (F a 2)) (C := RX10) (T := TX10) (N := 19) S.1 S.2.1 S.2.2.2.2 (fun w h => List.mem_cons_of_mem _ (inX10 w h)) S.2.2.2.1 hK.1 hP i he rfl 2 (by decide) (S.2.2.2.2 _ (List.mem_cons_of_mem _ hl)) (fun _ h => h) rfl hdg (kk (fkX10_2 hT ha).1 (fkX10_2 hT ha).2)
theorem gX10_3 (S : CallFix p m c cc nL s args (w0 :: GT) own) (hK : XK E s) (hT : TW E K F G H) (ha : K a = 12) (hl : Cond.fieldLink own idx "LateRules" "now" "LLateRules$Rows;" ∈ GT) (hdg : decode cc pc = .ok (.getfield idx, 3)) (kk : K (F a 3) = 8 → F (F a 3) 99 = 0 → W p l e R s m args below meth c H locs cells slots Q (F0 m (pc + 3) ls (.ref (F a 3) :: rest))) : W p l e R s m args below meth c H locs cells slots Q (F0 m pc ls (.ref a :: rest)) := by
  obtain ⟨ws, i, hw, hP, hD, he, z18, hr⟩ := atX10 hT ha
  exact va_get (D := E.1) (ci := 11) (v := .ref (F a 3)) (C := RX10) (T := TX10) (N := 19) S.1 S.2.1 S.2.2.2.2 (fun w h => List.mem_cons_of_mem _ (inX10 w h)) S.2.2.2.1 hK.1 hP i he rfl 3 (by decide) (S.2.2.2.2 _ (List.mem_cons_of_mem _ hl)) (fun _ h => h) rfl hdg (kk (fkX10_3 hT ha).1 (fkX10_3 hT ha).2)
theorem gX10_4 (S : CallFix p m c cc nL s args (w0 :: GT) own) (hK : XK E s) (hT : TW E K F G H) (ha : K a = 12) (hl : Cond.fieldLink own idx "LateRules" "atBegin" "LLateRules$Rows;" ∈ GT) (hdg : decode cc pc = .ok (.getfield idx, 3)) (kk : K (F a 4) = 8 → F (F a 4) 99 = 1 → W p l e R s m args below meth c H locs cells slots Q (F0 m (pc + 3) ls (.ref (F a 4) :: rest))) : W p l e R s m args below meth c H locs cells slots Q (F0 m pc ls (.ref a :: rest)) := by
  obtain ⟨ws, i, hw, hP, hD, he, z18, hr⟩ := atX10 hT ha
  exact va_get (D := E.1) (ci := 11) (v := .ref (F a 4)) (C := RX10) (T := TX10) (N := 19) S.1 S.2.1 S.2.2.2.2 (fun w h => List.mem_cons_of_mem _ (inX10 w h)) S.2.2.2.1 hK.1 hP i he rfl 4 (by decide) (S.2.2.2.2 _ (List.mem_cons_of_mem _ hl)) (fun _ h => h) rfl hdg (kk (fkX10_4 hT ha).1 (fkX10_4 hT ha).2)
theorem gX10_5 (S : CallFix p m c cc nL s args (w0 :: GT) own) (hK : XK E s) (hT : TW E K F G H) (ha : K a = 12) (hl : Cond.fieldLink own idx "LateRules" "paper" "LLateRules$Rows;" ∈ GT) (hdg : decode cc pc = .ok (.getfield idx, 3)) (kk : K (F a 5) = 8 → F (F a 5) 99 = 2 → W p l e R s m args below meth c H locs cells slots Q (F0 m (pc + 3) ls (.ref (F a 5) :: rest))) : W p l e R s m args below meth c H locs cells slots Q (F0 m pc ls (.ref a :: rest)) := by
  obtain ⟨ws, i, hw, hP, hD, he, z18, hr⟩ := atX10 hT ha
  exact va_get (D := E.1) (ci := 11) (v := .ref (F a 5)) (C := RX10) (T := TX10) (N := 19) S.1 S.2.1 S.2.2.2.2 (fun w h => List.mem_cons_of_mem _ (inX10 w h)) S.2.2.2.1 hK.1 hP i he rfl 5 (by decide) (S.2.2.2.2 _ (List.mem_cons_of_mem _ hl)) (fun _ h => h) rfl hdg (kk (fkX10_5 hT ha).1 (fkX10_5 hT ha).2)
theorem gX10_6 (S : CallFix p m c cc nL s args (w0 :: GT) own) (hK : XK E s) (hT : TW E K F G H) (ha : K a = 12) (hl : Cond.fieldLink own idx "LateRules" "noRows" "LLateRules$Rows;" ∈ GT) (hdg : decode cc pc = .ok (.getfield idx, 3)) (kk : K (F a 6) = 8 → F (F a 6) 99 = 3 → W p l e R s m args below meth c H locs cells slots Q (F0 m (pc + 3) ls (.ref (F a 6) :: rest))) : W p l e R s m args below meth c H locs cells slots Q (F0 m pc ls (.ref a :: rest)) := by
  obtain ⟨ws, i, hw, hP, hD, he, z18, hr⟩ := atX10 hT ha
  exact va_get (D := E.1) (ci := 11) (v := .ref (F a 6)) (C := RX10) (T := TX10) (N := 19) S.1 S.2.1 S.2.2.2.2 (fun w h => List.mem_cons_of_mem _ (inX10 w h)) S.2.2.2.1 hK.1 hP i he rfl 6 (by decide) (S.2.2.2.2 _ (List.mem_cons_of_mem _ hl)) (fun _ h => h) rfl hdg (kk (fkX10_6 hT ha).1 (fkX10_6 hT ha).2)
theorem gX10_7 (S : CallFix p m c cc nL s args (w0 :: GT) own) (hK : XK E s) (hT : TW E K F G H) (ha : K a = 12) (hl : Cond.fieldLink own idx "LateRules" "marks" "[LLateRules$Rows;" ∈ GT) (hdg : decode cc pc = .ok (.getfield idx, 3)) (kk : K (F a 7) = 16 → F (F a 7) 99 = 0 → W p l e R s m args below meth c H locs cells slots Q (F0 m (pc + 3) ls (.ref (F a 7) :: rest))) : W p l e R s m args below meth c H locs cells slots Q (F0 m pc ls (.ref a :: rest)) := by
  obtain ⟨ws, i, hw, hP, hD, he, z18, hr⟩ := atX10 hT ha
  exact va_get (D := E.1) (ci := 11) (v := .ref (F a 7)) (C := RX10) (T := TX10) (N := 19) S.1 S.2.1 S.2.2.2.2 (fun w h => List.mem_cons_of_mem _ (inX10 w h)) S.2.2.2.1 hK.1 hP i he rfl 7 (by decide) (S.2.2.2.2 _ (List.mem_cons_of_mem _ hl)) (fun _ h => h) rfl hdg (kk (fkX10_7 hT ha).1 (fkX10_7 hT ha).2)
theorem gX10_8 (S : CallFix p m c cc nL s args (w0 :: GT) own) (hK : XK E s) (hT : TW E K F G H) (ha : K a = 12) (hl : Cond.fieldLink own idx "LateRules" "waiting" "LLateRules$Questions;" ∈ GT) (hdg : decode cc pc = .ok (.getfield idx, 3)) (kk : K (F a 8) = 6 → F (F a 8) 99 = 0 → W p l e R s m args below meth c H locs cells slots Q (F0 m (pc + 3) ls (.ref (F a 8) :: rest))) : W p l e R s m args below meth c H locs cells slots Q (F0 m pc ls (.ref a :: rest)) := by
  obtain ⟨ws, i, hw, hP, hD, he, z18, hr⟩ := atX10 hT ha
  exact va_get (D := E.1) (ci := 11) (v := .ref (F a 8)) (C := RX10) (T := TX10) (N := 19) S.1 S.2.1 S.2.2.2.2 (fun w h => List.mem_cons_of_mem _ (inX10 w h)) S.2.2.2.1 hK.1 hP i he rfl 8 (by decide) (S.2.2.2.2 _ (List.mem_cons_of_mem _ hl)) (fun _ h => h) rfl hdg (kk (fkX10_8 hT ha).1 (fkX10_8 hT ha).2)
theorem gX10_9 (S : CallFix p m c cc nL s args (w0 :: GT) own) (hK : XK E s) (hT : TW E K F G H) (ha : K a = 12) (hl : Cond.fieldLink own idx "LateRules" "found" "LLateRules$Questions;" ∈ GT) (hdg : decode cc pc = .ok (.getfield idx, 3)) (kk : K (F a 9) = 6 → F (F a 9) 99 = 1 → W p l e R s m args below meth c H locs cells slots Q (F0 m (pc + 3) ls (.ref (F a 9) :: rest))) : W p l e R s m args below meth c H locs cells slots Q (F0 m pc ls (.ref a :: rest)) := by
  obtain ⟨ws, i, hw, hP, hD, he, z18, hr⟩ := atX10 hT ha
  exact va_get (D := E.1) (ci := 11) (v := .ref (F a 9)) (C := RX10) (T := TX10) (N := 19) S.1 S.2.1 S.2.2.2.2 (fun w h => List.mem_cons_of_mem _ (inX10 w h)) S.2.2.2.1 hK.1 hP i he rfl 9 (by decide) (S.2.2.2.2 _ (List.mem_cons_of_mem _ hl)) (fun _ h => h) rfl hdg (kk (fkX10_9 hT ha).1 (fkX10_9 hT ha).2)
theorem gX10_10 (S : CallFix p m c cc nL s args (w0 :: GT) own) (hK : XK E s) (hT : TW E K F G H) (ha : K a = 12) (hl : Cond.fieldLink own idx "LateRules" "lastAsked" "LLateRules$Questions;" ∈ GT) (hdg : decode cc pc = .ok (.getfield idx, 3)) (kk : K (F a 10) = 6 → F (F a 10) 99 = 2 → W p l e R s m args below meth c H locs cells slots Q (F0 m (pc + 3) ls (.ref (F a 10) :: rest))) : W p l e R s m args below meth c H locs cells slots Q (F0 m pc ls (.ref a :: rest)) := by
  obtain ⟨ws, i, hw, hP, hD, he, z18, hr⟩ := atX10 hT ha
  exact va_get (D := E.1) (ci := 11) (v := .ref (F a 10)) (C := RX10) (T := TX10) (N := 19) S.1 S.2.1 S.2.2.2.2 (fun w h => List.mem_cons_of_mem _ (inX10 w h)) S.2.2.2.1 hK.1 hP i he rfl 10 (by decide) (S.2.2.2.2 _ (List.mem_cons_of_mem _ hl)) (fun _ h => h) rfl hdg (kk (fkX10_10 hT ha).1 (fkX10_10 hT ha).2)
theorem gX10_11 (S : CallFix p m c cc nL s args (w0 :: GT) own) (hK : XK E s) (hT : TW E K F G H) (ha : K a = 12) (hl : Cond.fieldLink own idx "LateRules" "comparison" "LLateRules$Comparison;" ∈ GT) (hdg : decode cc pc = .ok (.getfield idx, 3)) (kk : K (F a 11) = 3 → F (F a 11) 99 = 0 → W p l e R s m args below meth c H locs cells slots Q (F0 m (pc + 3) ls (.ref (F a 11) :: rest))) : W p l e R s m args below meth c H locs cells slots Q (F0 m pc ls (.ref a :: rest)) := by
  obtain ⟨ws, i, hw, hP, hD, he, z18, hr⟩ := atX10 hT ha
  exact va_get (D := E.1) (ci := 11) (v := .ref (F a 11)) (C := RX10) (T := TX10) (N := 19) S.1 S.2.1 S.2.2.2.2 (fun w h => List.mem_cons_of_mem _ (inX10 w h)) S.2.2.2.1 hK.1 hP i he rfl 11 (by decide) (S.2.2.2.2 _ (List.mem_cons_of_mem _ hl)) (fun _ h => h) rfl hdg (kk (fkX10_11 hT ha).1 (fkX10_11 hT ha).2)
theorem gX10_12 (S : CallFix p m c cc nL s args (w0 :: GT) own) (hK : XK E s) (hT : TW E K F G H) (ha : K a = 12) (hl : Cond.fieldLink own idx "LateRules" "followers" "LLateRules$Followers;" ∈ GT) (hdg : decode cc pc = .ok (.getfield idx, 3)) (kk : K (F a 12) = 4 → F (F a 12) 99 = 0 → W p l e R s m args below meth c H locs cells slots Q (F0 m (pc + 3) ls (.ref (F a 12) :: rest))) : W p l e R s m args below meth c H locs cells slots Q (F0 m pc ls (.ref a :: rest)) := by
  obtain ⟨ws, i, hw, hP, hD, he, z18, hr⟩ := atX10 hT ha
  exact va_get (D := E.1) (ci := 11) (v := .ref (F a 12)) (C := RX10) (T := TX10) (N := 19) S.1 S.2.1 S.2.2.2.2 (fun w h => List.mem_cons_of_mem _ (inX10 w h)) S.2.2.2.1 hK.1 hP i he rfl 12 (by decide) (S.2.2.2.2 _ (List.mem_cons_of_mem _ hl)) (fun _ h => h) rfl hdg (kk (fkX10_12 hT ha).1 (fkX10_12 hT ha).2)
theorem gX10_13 (S : CallFix p m c cc nL s args (w0 :: GT) own) (hK : XK E s) (hT : TW E K F G H) (ha : K a = 12) (hl : Cond.fieldLink own idx "LateRules" "leaners" "LLateRules$Leaners;" ∈ GT) (hdg : decode cc pc = .ok (.getfield idx, 3)) (kk : K (F a 13) = 5 → F (F a 13) 99 = 0 → W p l e R s m args below meth c H locs cells slots Q (F0 m (pc + 3) ls (.ref (F a 13) :: rest))) : W p l e R s m args below meth c H locs cells slots Q (F0 m pc ls (.ref a :: rest)) := by
  obtain ⟨ws, i, hw, hP, hD, he, z18, hr⟩ := atX10 hT ha
  exact va_get (D := E.1) (ci := 11) (v := .ref (F a 13)) (C := RX10) (T := TX10) (N := 19) S.1 S.2.1 S.2.2.2.2 (fun w h => List.mem_cons_of_mem _ (inX10 w h)) S.2.2.2.1 hK.1 hP i he rfl 13 (by decide) (S.2.2.2.2 _ (List.mem_cons_of_mem _ hl)) (fun _ h => h) rfl hdg (kk (fkX10_13 hT ha).1 (fkX10_13 hT ha).2)
theorem gX10_14 (S : CallFix p m c cc nL s args (w0 :: GT) own) (hK : XK E s) (hT : TW E K F G H) (ha : K a = 12) (hl : Cond.fieldLink own idx "LateRules" "lastVerdict" "LLateRules$Verdict;" ∈ GT) (hdg : decode cc pc = .ok (.getfield idx, 3)) (kk : K (F a 14) = 11 → F (F a 14) 99 = 0 → W p l e R s m args below meth c H locs cells slots Q (F0 m (pc + 3) ls (.ref (F a 14) :: rest))) : W p l e R s m args below meth c H locs cells slots Q (F0 m pc ls (.ref a :: rest)) := by
  obtain ⟨ws, i, hw, hP, hD, he, z18, hr⟩ := atX10 hT ha
  exact va_get (D := E.1) (ci := 11) (v := .ref (F a 14)) (C := RX10) (T := TX10) (N := 19) S.1 S.2.1 S.2.2.2.2 (fun w h => List.mem_cons_of_mem _ (inX10 w h)) S.2.2.2.1 hK.1 hP i he rfl 14 (by decide) (S.2.2.2.2 _ (List.mem_cons_of_mem _ hl)) (fun _ h => h) rfl hdg (kk (fkX10_14 hT ha).1 (fkX10_14 hT ha).2)
theorem gX10_15 (S : CallFix p m c cc nL s args (w0 :: GT) own) (hK : XK E s) (hT : TW E K F G H) (ha : K a = 12) (hl : Cond.fieldLink own idx "LateRules" "sinceBegin" "[I" ∈ GT) (hdg : decode cc pc = .ok (.getfield idx, 3)) (kk : K (F a 15) = 26 → F (F a 15) 99 = 0 → W p l e R s m args below meth c H locs cells slots Q (F0 m (pc + 3) ls (.ref (F a 15) :: rest))) : W p l e R s m args below meth c H locs cells slots Q (F0 m pc ls (.ref a :: rest)) := by
  obtain ⟨ws, i, hw, hP, hD, he, z18, hr⟩ := atX10 hT ha
  exact va_get (D := E.1) (ci := 11) (v := .ref (F a 15)) (C := RX10) (T := TX10) (N := 19) S.1 S.2.1 S.2.2.2.2 (fun w h => List.mem_cons_of_mem _ (inX10 w h)) S.2.2.2.1 hK.1 hP i he rfl 15 (by decide) (S.2.2.2.2 _ (List.mem_cons_of_mem _ hl)) (fun _ h => h) rfl hdg (kk (fkX10_15 hT ha).1 (fkX10_15 hT ha).2)
theorem gX10_16 (S : CallFix p m c cc nL s args (w0 :: GT) own) (hK : XK E s) (hT : TW E K F G H) (ha : K a = 12) (hl : Cond.fieldLink own idx "LateRules" "soFar" "[I" ∈ GT) (hdg : decode cc pc = .ok (.getfield idx, 3)) (kk : K (F a 16) = 27 → F (F a 16) 99 = 0 → W p l e R s m args below meth c H locs cells slots Q (F0 m (pc + 3) ls (.ref (F a 16) :: rest))) : W p l e R s m args below meth c H locs cells slots Q (F0 m pc ls (.ref a :: rest)) := by
  obtain ⟨ws, i, hw, hP, hD, he, z18, hr⟩ := atX10 hT ha
  exact va_get (D := E.1) (ci := 11) (v := .ref (F a 16)) (C := RX10) (T := TX10) (N := 19) S.1 S.2.1 S.2.2.2.2 (fun w h => List.mem_cons_of_mem _ (inX10 w h)) S.2.2.2.1 hK.1 hP i he rfl 16 (by decide) (S.2.2.2.2 _ (List.mem_cons_of_mem _ hl)) (fun _ h => h) rfl hdg (kk (fkX10_16 hT ha).1 (fkX10_16 hT ha).2)
theorem gX10_17 (S : CallFix p m c cc nL s args (w0 :: GT) own) (hK : XK E s) (hT : TW E K F G H) (ha : K a = 12) (hl : Cond.fieldLink own idx "LateRules" "markCount" "I" ∈ GT) (hdg : decode cc pc = .ok (.getfield idx, 3)) {v : Int32} (hv : G.1 a 17 = v) (kk : W p l e R s m args below meth c H locs cells slots Q (F0 m (pc + 3) ls (.int v :: rest))) : W p l e R s m args below meth c H locs cells slots Q (F0 m pc ls (.ref a :: rest)) := by
  subst hv
  obtain ⟨ws, i, hw, hP, hD, he, z18, hr⟩ := atX10 hT ha
  exact va_get (D := E.1) (ci := 11) (v := .int (G.1 a 17)) (C := RX10) (T := TX10) (N := 19) S.1 S.2.1 S.2.2.2.2 (fun w h => List.mem_cons_of_mem _ (inX10 w h)) S.2.2.2.1 hK.1 hP i he rfl 17 (by decide) (S.2.2.2.2 _ (List.mem_cons_of_mem _ hl)) (fun _ h => h) rfl hdg (kk)
theorem pX10_17 {v : Int32} (S : CallFix p m c cc nL s args (w0 :: GT) own) (hK : XK E s) (hT : TW E K F G H) (hS : va_S (xA E) H0 H locs) (ha : K a = 12) (hl : Cond.fieldLink own idx "LateRules" "markCount" "I" ∈ GT) (hdg : decode cc pc = .ok (.putfield idx, 3)) (kk : ∀ (H1 : Heap) (locs1 : List Loc), TW E K F (dput G a 17 v) H1 → va_S (xA E) H0 H1 locs1 → W p l e R s m args below meth c H1 locs1 cells slots Q (F0 m (pc + 3) ls rest)) : W p l e R s m args below meth c H locs cells slots Q (F0 m pc ls (.int v :: .ref a :: rest)) := by
  obtain ⟨ws, i, hw, hP, hD, he, z18, hr⟩ := atX10 hT ha
  exact va_put (D := E.1) (ci := 11) (v := .int v) (ty := .int) (C := RX10) (T := TX10) (N := 19) S.1 S.2.1 S.2.2.2.2 (fun w h => List.mem_cons_of_mem _ (inX10 w h)) tyX10 tyX10_ok nmX10 S.2.2.2.1 hK.1 hP hD hS i he rfl 17 (by decide) (S.2.2.2.2 _ (List.mem_cons_of_mem _ hl)) (fun _ h => h) rfl  (by decide +kernel) rfl rfl (Nat.le_of_ble_eq_true rfl) hdg (fun H1 locs1 hP1 hD1 hS1 => kk H1 locs1 ⟨_, hw.set he (by rw [ha]; decide) XGa.d (by rw [ha]; exact mkX10 (by simp [dput, up2]) (by rw [dput_nj (show (18 : Nat) ≠ 17 by decide)]; exact z18) hr), hP1, hD1⟩ hS1)
theorem gX10_18 (S : CallFix p m c cc nL s args (w0 :: GT) own) (hK : XK E s) (hT : TW E K F G H) (ha : K a = 12) (hl : Cond.fieldLink own idx "LateRules" "open" "Z" ∈ GT) (hdg : decode cc pc = .ok (.getfield idx, 3)) {v : Int32} (hv : G.1 a 18 = v) (kk : (v = 0 ∨ v = 1) → W p l e R s m args below meth c H locs cells slots Q (F0 m (pc + 3) ls (.int v :: rest))) : W p l e R s m args below meth c H locs cells slots Q (F0 m pc ls (.ref a :: rest)) := by
  subst hv
  obtain ⟨ws, i, hw, hP, hD, he, z18, hr⟩ := atX10 hT ha
  exact va_get (D := E.1) (ci := 11) (v := .int (G.1 a 18)) (C := RX10) (T := TX10) (N := 19) S.1 S.2.1 S.2.2.2.2 (fun w h => List.mem_cons_of_mem _ (inX10 w h)) S.2.2.2.1 hK.1 hP i he rfl 18 (by decide) (S.2.2.2.2 _ (List.mem_cons_of_mem _ hl)) (fun _ h => h) rfl hdg (kk z18)
theorem pX10_18 {v : Int32} (S : CallFix p m c cc nL s args (w0 :: GT) own) (hK : XK E s) (hT : TW E K F G H) (hS : va_S (xA E) H0 H locs) (ha : K a = 12) (hl : Cond.fieldLink own idx "LateRules" "open" "Z" ∈ GT) (hv : v = 0 ∨ v = 1) (hdg : decode cc pc = .ok (.putfield idx, 3)) (kk : ∀ (H1 : Heap) (locs1 : List Loc), TW E K F (dput G a 18 v) H1 → va_S (xA E) H0 H1 locs1 → W p l e R s m args below meth c H1 locs1 cells slots Q (F0 m (pc + 3) ls rest)) : W p l e R s m args below meth c H locs cells slots Q (F0 m pc ls (.int v :: .ref a :: rest)) := by
  obtain ⟨ws, i, hw, hP, hD, he, z18, hr⟩ := atX10 hT ha
  exact va_put (D := E.1) (ci := 11) (v := .int v) (ty := .boolean) (C := RX10) (T := TX10) (N := 19) S.1 S.2.1 S.2.2.2.2 (fun w h => List.mem_cons_of_mem _ (inX10 w h)) tyX10 tyX10_ok nmX10 S.2.2.2.1 hK.1 hP hD hS i he rfl 18 (by decide) (S.2.2.2.2 _ (List.mem_cons_of_mem _ hl)) (fun _ h => h) rfl  (by decide +kernel) (by rcases hv with h | h <;> subst h <;> rfl) (by rcases hv with h | h <;> subst h <;> rfl) (Nat.le_of_ble_eq_true rfl) hdg (fun H1 locs1 hP1 hD1 hS1 => kk H1 locs1 ⟨_, hw.set he (by rw [ha]; decide) XGa.d (by rw [ha]; exact mkX10 (by simp [dput, up2]) (by rw [dput_at]; exact hv) hr), hP1, hD1⟩ hS1)
def RSX11 (K : Nat → Nat) (F : Nat → Nat → Nat) (a : Nat) : Prop := (K (F a 1) = 30 ∧ F (F a 1) 99 = 1) ∧ (K (F a 2) = 31 ∧ F (F a 2) 99 = 2) ∧ (K (F a 3) = 32 ∧ F (F a 3) 99 = 3) ∧ (K (F a 4) = 31 ∧ F (F a 4) 99 = 4) ∧ (K (F a 5) = 34 ∧ F (F a 5) 99 = 5) ∧ (K (F a 8) = 35 ∧ F (F a 8) 99 = 8) ∧ (K (F a 9) = 36 ∧ F (F a 9) 99 = 9) ∧ (K (F a 10) = 37 ∧ F (F a 10) 99 = 10) ∧ (K (F a 11) = 38 ∧ F (F a 11) 99 = 11) ∧ (K (F a 12) = 38 ∧ F (F a 12) 99 = 12) ∧ (K (F a 13) = 38 ∧ F (F a 13) 99 = 13) ∧ (K (F a 14) = 38 ∧ F (F a 14) 99 = 14) ∧ (K (F a 15) = 42 ∧ F (F a 15) 99 = 15) ∧ (K (F a 17) = 43 ∧ F (F a 17) 99 = 17) ∧ (K (F a 18) = 44 ∧ F (F a 18) 99 = 18) ∧ (K (F a 22) = 45 ∧ F (F a 22) 99 = 22) ∧ (K (F a 24) = 47 ∧ F (F a 24) 99 = 24) ∧ (K (F a 25) = 49 ∧ F (F a 25) 99 = 25) ∧ (K (F a 26) = 49 ∧ F (F a 26) 99 = 26) ∧ (K (F a 27) = 48 ∧ F (F a 27) 99 = 27) ∧ (K (F a 28) = 46 ∧ F (F a 28) 99 = 28) ∧ (K (F a 29) = 48 ∧ F (F a 29) 99 = 29) ∧ (K (F a 30) = 47 ∧ F (F a 30) 99 = 30) ∧ (K (F a 31) = 50 ∧ F (F a 31) 99 = 31) ∧ (K (F a 32) = 48 ∧ F (F a 32) 99 = 32) ∧ (K (F a 33) = 47 ∧ F (F a 33) 99 = 33) ∧ (K (F a 34) = 47 ∧ F (F a 34) 99 = 34) ∧ (K (F a 35) = 51 ∧ F (F a 35) 99 = 35) ∧ (K (F a 40) = 52 ∧ F (F a 40) 99 = 40) ∧ (K (F a 41) = 53 ∧ F (F a 41) 99 = 41) ∧ (K (F a 42) = 54 ∧ F (F a 42) 99 = 42) ∧ (K (F a 47) = 55 ∧ F (F a 47) 99 = 47) ∧ (K (F a 48) = 56 ∧ F (F a 48) 99 = 48) ∧ (K (F a 49) = 57 ∧ F (F a 49) 99 = 49) ∧ (K (F a 50) = 58 ∧ F (F a 50) 99 = 50) ∧ (K (F a 51) = 59 ∧ F (F a 51) 99 = 51)
theorem atX11 (hT : TW E K F G H) (ha : K a = 13) : ∃ (ws : va_W) (i : Nat), TWl E K F G ws ∧ va_P E.1 vwCl ws H ∧ va_D (xA E) ws ∧ ws[i]? = some (a, .inr (12, [.int (G.1 a 0), .ref (F a 1), .ref (F a 2), .ref (F a 3), .ref (F a 4), .ref (F a 5), .int (G.1 a 6), .int (G.1 a 7), .ref (F a 8), .ref (F a 9), .ref (F a 10), .ref (F a 11), .ref (F a 12), .ref (F a 13), .ref (F a 14), .ref (F a 15), .int (G.1 a 16), .ref (F a 17), .ref (F a 18), .int (G.1 a 19), .int (G.1 a 20), .int (G.1 a 21), .ref (F a 22), .int (G.1 a 23), .ref (F a 24), .ref (F a 25), .ref (F a 26), .ref (F a 27), .ref (F a 28), .ref (F a 29), .ref (F a 30), .ref (F a 31), .ref (F a 32), .ref (F a 33), .ref (F a 34), .ref (F a 35), .int (G.1 a 36), .int (G.1 a 37), .int (G.1 a 38), .int (G.1 a 39), .ref (F a 40), .ref (F a 41), .ref (F a 42), .int (G.1 a 43), .int (G.1 a 44), .int (G.1 a 45), .int (G.1 a 46), .ref (F a 47), .ref (F a 48), .ref (F a 49), .ref (F a 50), .ref (F a 51)])) ∧ (G.1 a 6 = 0 ∨ G.1 a 6 = 1) ∧ (G.1 a 39 = 0 ∨ G.1 a 39 = 1) ∧ RSX11 K F a := by
  obtain ⟨ws, i, e9, hw, hP, hD, he, hs⟩ := hT.at ha (by decide)
  obtain ⟨rfl, k1, n1, k2, n2, k3, n3, k4, n4, k5, n5, z6, k8, n8, k9, n9, k10, n10, k11, n11, k12, n12, k13, n13, k14, n14, k15, n15, k17, n17, k18, n18, k22, n22, k24, n24, k25, n25, k26, n26, k27, n27, k28, n28, k29, n29, k30, n30, k31, n31, k32, n32, k33, n33, k34, n34, k35, n35, z39, k40, n40, k41, n41, k42, n42, k47, n47, k48, n48, k49, n49, k50, n50, k51, n51⟩ := hs
  exact ⟨ws, i, hw, hP, hD, he, z6, z39, ⟨k1, n1⟩, ⟨k2, n2⟩, ⟨k3, n3⟩, ⟨k4, n4⟩, ⟨k5, n5⟩, ⟨k8, n8⟩, ⟨k9, n9⟩, ⟨k10, n10⟩, ⟨k11, n11⟩, ⟨k12, n12⟩, ⟨k13, n13⟩, ⟨k14, n14⟩, ⟨k15, n15⟩, ⟨k17, n17⟩, ⟨k18, n18⟩, ⟨k22, n22⟩, ⟨k24, n24⟩, ⟨k25, n25⟩, ⟨k26, n26⟩, ⟨k27, n27⟩, ⟨k28, n28⟩, ⟨k29, n29⟩, ⟨k30, n30⟩, ⟨k31, n31⟩, ⟨k32, n32⟩, ⟨k33, n33⟩, ⟨k34, n34⟩, ⟨k35, n35⟩, ⟨k40, n40⟩, ⟨k41, n41⟩, ⟨k42, n42⟩, ⟨k47, n47⟩, ⟨k48, n48⟩, ⟨k49, n49⟩, ⟨k50, n50⟩, ⟨k51, n51⟩⟩
theorem mkX11 {e : va_E} (he : e = .inr (12, [.int (G.1 a 0), .ref (F a 1), .ref (F a 2), .ref (F a 3), .ref (F a 4), .ref (F a 5), .int (G.1 a 6), .int (G.1 a 7), .ref (F a 8), .ref (F a 9), .ref (F a 10), .ref (F a 11), .ref (F a 12), .ref (F a 13), .ref (F a 14), .ref (F a 15), .int (G.1 a 16), .ref (F a 17), .ref (F a 18), .int (G.1 a 19), .int (G.1 a 20), .int (G.1 a 21), .ref (F a 22), .int (G.1 a 23), .ref (F a 24), .ref (F a 25), .ref (F a 26), .ref (F a 27), .ref (F a 28), .ref (F a 29), .ref (F a 30), .ref (F a 31), .ref (F a 32), .ref (F a 33), .ref (F a 34), .ref (F a 35), .int (G.1 a 36), .int (G.1 a 37), .int (G.1 a 38), .int (G.1 a 39), .ref (F a 40), .ref (F a 41), .ref (F a 42), .int (G.1 a 43), .int (G.1 a 44), .int (G.1 a 45), .int (G.1 a 46), .ref (F a 47), .ref (F a 48), .ref (F a 49), .ref (F a 50), .ref (F a 51)])) (z6 : G.1 a 6 = 0 ∨ G.1 a 6 = 1) (z39 : G.1 a 39 = 0 ∨ G.1 a 39 = 1) (hr : RSX11 K F a) : SHQ E K F G a 13 e := by
  obtain ⟨⟨k1, n1⟩, ⟨k2, n2⟩, ⟨k3, n3⟩, ⟨k4, n4⟩, ⟨k5, n5⟩, ⟨k8, n8⟩, ⟨k9, n9⟩, ⟨k10, n10⟩, ⟨k11, n11⟩, ⟨k12, n12⟩, ⟨k13, n13⟩, ⟨k14, n14⟩, ⟨k15, n15⟩, ⟨k17, n17⟩, ⟨k18, n18⟩, ⟨k22, n22⟩, ⟨k24, n24⟩, ⟨k25, n25⟩, ⟨k26, n26⟩, ⟨k27, n27⟩, ⟨k28, n28⟩, ⟨k29, n29⟩, ⟨k30, n30⟩, ⟨k31, n31⟩, ⟨k32, n32⟩, ⟨k33, n33⟩, ⟨k34, n34⟩, ⟨k35, n35⟩, ⟨k40, n40⟩, ⟨k41, n41⟩, ⟨k42, n42⟩, ⟨k47, n47⟩, ⟨k48, n48⟩, ⟨k49, n49⟩, ⟨k50, n50⟩, ⟨k51, n51⟩⟩ := hr
  exact ⟨he, k1, n1, k2, n2, k3, n3, k4, n4, k5, n5, z6, k8, n8, k9, n9, k10, n10, k11, n11, k12, n12, k13, n13, k14, n14, k15, n15, k17, n17, k18, n18, k22, n22, k24, n24, k25, n25, k26, n26, k27, n27, k28, n28, k29, n29, k30, n30, k31, n31, k32, n32, k33, n33, k34, n34, k35, n35, z39, k40, n40, k41, n41, k42, n42, k47, n47, k48, n48, k49, n49, k50, n50, k51, n51⟩
theorem rsX11 (hT : TW E K F G H) (ha : K a = 13) : RSX11 K F a := by
  obtain ⟨ws, i, hw, hP, hD, he, z6, z39, hr⟩ := atX11 hT ha
  exact hr
theorem fkX11_1 (hT : TW E K F G H) (ha : K a = 13) : K (F a 1) = 30 ∧ F (F a 1) 99 = 1 := (rsX11 hT ha).1
theorem fkX11_2 (hT : TW E K F G H) (ha : K a = 13) : K (F a 2) = 31 ∧ F (F a 2) 99 = 2 := (rsX11 hT ha).2.1
theorem fkX11_3 (hT : TW E K F G H) (ha : K a = 13) : K (F a 3) = 32 ∧ F (F a 3) 99 = 3 := (rsX11 hT ha).2.2.1
theorem fkX11_4 (hT : TW E K F G H) (ha : K a = 13) : K (F a 4) = 31 ∧ F (F a 4) 99 = 4 := (rsX11 hT ha).2.2.2.1
theorem fkX11_5 (hT : TW E K F G H) (ha : K a = 13) : K (F a 5) = 34 ∧ F (F a 5) 99 = 5 := (rsX11 hT ha).2.2.2.2.1
theorem fkX11_8 (hT : TW E K F G H) (ha : K a = 13) : K (F a 8) = 35 ∧ F (F a 8) 99 = 8 := (rsX11 hT ha).2.2.2.2.2.1
theorem fkX11_9 (hT : TW E K F G H) (ha : K a = 13) : K (F a 9) = 36 ∧ F (F a 9) 99 = 9 := (rsX11 hT ha).2.2.2.2.2.2.1
theorem fkX11_10 (hT : TW E K F G H) (ha : K a = 13) : K (F a 10) = 37 ∧ F (F a 10) 99 = 10 := (rsX11 hT ha).2.2.2.2.2.2.2.1
theorem fkX11_11 (hT : TW E K F G H) (ha : K a = 13) : K (F a 11) = 38 ∧ F (F a 11) 99 = 11 := (rsX11 hT ha).2.2.2.2.2.2.2.2.1
theorem fkX11_12 (hT : TW E K F G H) (ha : K a = 13) : K (F a 12) = 38 ∧ F (F a 12) 99 = 12 := (rsX11 hT ha).2.2.2.2.2.2.2.2.2.1
theorem fkX11_13 (hT : TW E K F G H) (ha : K a = 13) : K (F a 13) = 38 ∧ F (F a 13) 99 = 13 := (rsX11 hT ha).2.2.2.2.2.2.2.2.2.2.1
theorem fkX11_14 (hT : TW E K F G H) (ha : K a = 13) : K (F a 14) = 38 ∧ F (F a 14) 99 = 14 := (rsX11 hT ha).2.2.2.2.2.2.2.2.2.2.2.1
theorem fkX11_15 (hT : TW E K F G H) (ha : K a = 13) : K (F a 15) = 42 ∧ F (F a 15) 99 = 15 := (rsX11 hT ha).2.2.2.2.2.2.2.2.2.2.2.2.1
theorem fkX11_17 (hT : TW E K F G H) (ha : K a = 13) : K (F a 17) = 43 ∧ F (F a 17) 99 = 17 := (rsX11 hT ha).2.2.2.2.2.2.2.2.2.2.2.2.2.1
theorem fkX11_18 (hT : TW E K F G H) (ha : K a = 13) : K (F a 18) = 44 ∧ F (F a 18) 99 = 18 := (rsX11 hT ha).2.2.2.2.2.2.2.2.2.2.2.2.2.2.1
theorem fkX11_22 (hT : TW E K F G H) (ha : K a = 13) : K (F a 22) = 45 ∧ F (F a 22) 99 = 22 := (rsX11 hT ha).2.2.2.2.2.2.2.2.2.2.2.2.2.2.2.1
theorem fkX11_24 (hT : TW E K F G H) (ha : K a = 13) : K (F a 24) = 47 ∧ F (F a 24) 99 = 24 := (rsX11 hT ha).2.2.2.2.2.2.2.2.2.2.2.2.2.2.2.2.1
theorem fkX11_25 (hT : TW E K F G H) (ha : K a = 13) : K (F a 25) = 49 ∧ F (F a 25) 99 = 25 := (rsX11 hT ha).2.2.2.2.2.2.2.2.2.2.2.2.2.2.2.2.2.1
theorem fkX11_26 (hT : TW E K F G H) (ha : K a = 13) : K (F a 26) = 49 ∧ F (F a 26) 99 = 26 := (rsX11 hT ha).2.2.2.2.2.2.2.2.2.2.2.2.2.2.2.2.2.2.1
theorem fkX11_27 (hT : TW E K F G H) (ha : K a = 13) : K (F a 27) = 48 ∧ F (F a 27) 99 = 27 := (rsX11 hT ha).2.2.2.2.2.2.2.2.2.2.2.2.2.2.2.2.2.2.2.1
theorem fkX11_28 (hT : TW E K F G H) (ha : K a = 13) : K (F a 28) = 46 ∧ F (F a 28) 99 = 28 := (rsX11 hT ha).2.2.2.2.2.2.2.2.2.2.2.2.2.2.2.2.2.2.2.2.1
theorem fkX11_29 (hT : TW E K F G H) (ha : K a = 13) : K (F a 29) = 48 ∧ F (F a 29) 99 = 29 := (rsX11 hT ha).2.2.2.2.2.2.2.2.2.2.2.2.2.2.2.2.2.2.2.2.2.1
theorem fkX11_30 (hT : TW E K F G H) (ha : K a = 13) : K (F a 30) = 47 ∧ F (F a 30) 99 = 30 := (rsX11 hT ha).2.2.2.2.2.2.2.2.2.2.2.2.2.2.2.2.2.2.2.2.2.2.1
theorem fkX11_31 (hT : TW E K F G H) (ha : K a = 13) : K (F a 31) = 50 ∧ F (F a 31) 99 = 31 := (rsX11 hT ha).2.2.2.2.2.2.2.2.2.2.2.2.2.2.2.2.2.2.2.2.2.2.2.1
theorem fkX11_32 (hT : TW E K F G H) (ha : K a = 13) : K (F a 32) = 48 ∧ F (F a 32) 99 = 32 := (rsX11 hT ha).2.2.2.2.2.2.2.2.2.2.2.2.2.2.2.2.2.2.2.2.2.2.2.2.1
theorem fkX11_33 (hT : TW E K F G H) (ha : K a = 13) : K (F a 33) = 47 ∧ F (F a 33) 99 = 33 := (rsX11 hT ha).2.2.2.2.2.2.2.2.2.2.2.2.2.2.2.2.2.2.2.2.2.2.2.2.2.1
theorem fkX11_34 (hT : TW E K F G H) (ha : K a = 13) : K (F a 34) = 47 ∧ F (F a 34) 99 = 34 := (rsX11 hT ha).2.2.2.2.2.2.2.2.2.2.2.2.2.2.2.2.2.2.2.2.2.2.2.2.2.2.1
theorem fkX11_35 (hT : TW E K F G H) (ha : K a = 13) : K (F a 35) = 51 ∧ F (F a 35) 99 = 35 := (rsX11 hT ha).2.2.2.2.2.2.2.2.2.2.2.2.2.2.2.2.2.2.2.2.2.2.2.2.2.2.2.1
theorem fkX11_40 (hT : TW E K F G H) (ha : K a = 13) : K (F a 40) = 52 ∧ F (F a 40) 99 = 40 := (rsX11 hT ha).2.2.2.2.2.2.2.2.2.2.2.2.2.2.2.2.2.2.2.2.2.2.2.2.2.2.2.2.1
theorem fkX11_41 (hT : TW E K F G H) (ha : K a = 13) : K (F a 41) = 53 ∧ F (F a 41) 99 = 41 := (rsX11 hT ha).2.2.2.2.2.2.2.2.2.2.2.2.2.2.2.2.2.2.2.2.2.2.2.2.2.2.2.2.2.1
theorem fkX11_42 (hT : TW E K F G H) (ha : K a = 13) : K (F a 42) = 54 ∧ F (F a 42) 99 = 42 := (rsX11 hT ha).2.2.2.2.2.2.2.2.2.2.2.2.2.2.2.2.2.2.2.2.2.2.2.2.2.2.2.2.2.2.1
theorem fkX11_47 (hT : TW E K F G H) (ha : K a = 13) : K (F a 47) = 55 ∧ F (F a 47) 99 = 47 := (rsX11 hT ha).2.2.2.2.2.2.2.2.2.2.2.2.2.2.2.2.2.2.2.2.2.2.2.2.2.2.2.2.2.2.2.1
theorem fkX11_48 (hT : TW E K F G H) (ha : K a = 13) : K (F a 48) = 56 ∧ F (F a 48) 99 = 48 := (rsX11 hT ha).2.2.2.2.2.2.2.2.2.2.2.2.2.2.2.2.2.2.2.2.2.2.2.2.2.2.2.2.2.2.2.2.1
theorem fkX11_49 (hT : TW E K F G H) (ha : K a = 13) : K (F a 49) = 57 ∧ F (F a 49) 99 = 49 := (rsX11 hT ha).2.2.2.2.2.2.2.2.2.2.2.2.2.2.2.2.2.2.2.2.2.2.2.2.2.2.2.2.2.2.2.2.2.1
theorem fkX11_50 (hT : TW E K F G H) (ha : K a = 13) : K (F a 50) = 58 ∧ F (F a 50) 99 = 50 := (rsX11 hT ha).2.2.2.2.2.2.2.2.2.2.2.2.2.2.2.2.2.2.2.2.2.2.2.2.2.2.2.2.2.2.2.2.2.2.1
theorem fkX11_51 (hT : TW E K F G H) (ha : K a = 13) : K (F a 51) = 59 ∧ F (F a 51) 99 = 51 := (rsX11 hT ha).2.2.2.2.2.2.2.2.2.2.2.2.2.2.2.2.2.2.2.2.2.2.2.2.2.2.2.2.2.2.2.2.2.2.2
theorem gX11_0 (S : CallFix p m c cc nL s args (w0 :: GT) own) (hK : XK E s) (hT : TW E K F G H) (ha : K a = 13) (hl : Cond.fieldLink own idx "LateRulesModel" "thrown" "I" ∈ GT) (hdg : decode cc pc = .ok (.getfield idx, 3)) {v : Int32} (hv : G.1 a 0 = v) (kk : W p l e R s m args below meth c H locs cells slots Q (F0 m (pc + 3) ls (.int v :: rest))) : W p l e R s m args below meth c H locs cells slots Q (F0 m pc ls (.ref a :: rest)) := by
  subst hv
  obtain ⟨ws, i, hw, hP, hD, he, z6, z39, hr⟩ := atX11 hT ha
  exact va_get (D := E.1) (ci := 12) (v := .int (G.1 a 0)) (C := RX11) (T := TX11) (N := 52) S.1 S.2.1 S.2.2.2.2 (fun w h => List.mem_cons_of_mem _ (inX11 w h)) S.2.2.2.1 hK.1 hP i he rfl 0 (by decide) (S.2.2.2.2 _ (List.mem_cons_of_mem _ hl)) (fun _ h => h) rfl hdg (kk)
theorem pX11_0 {v : Int32} (S : CallFix p m c cc nL s args (w0 :: GT) own) (hK : XK E s) (hT : TW E K F G H) (hS : va_S (xA E) H0 H locs) (ha : K a = 13) (hl : Cond.fieldLink own idx "LateRulesModel" "thrown" "I" ∈ GT) (hdg : decode cc pc = .ok (.putfield idx, 3)) (kk : ∀ (H1 : Heap) (locs1 : List Loc), TW E K F (dput G a 0 v) H1 → va_S (xA E) H0 H1 locs1 → W p l e R s m args below meth c H1 locs1 cells slots Q (F0 m (pc + 3) ls rest)) : W p l e R s m args below meth c H locs cells slots Q (F0 m pc ls (.int v :: .ref a :: rest)) := by
  obtain ⟨ws, i, hw, hP, hD, he, z6, z39, hr⟩ := atX11 hT ha
  exact va_put (D := E.1) (ci := 12) (v := .int v) (ty := .int) (C := RX11) (T := TX11) (N := 52) S.1 S.2.1 S.2.2.2.2 (fun w h => List.mem_cons_of_mem _ (inX11 w h)) tyX11 tyX11_ok nmX11 S.2.2.2.1 hK.1 hP hD hS i he rfl 0 (by decide) (S.2.2.2.2 _ (List.mem_cons_of_mem _ hl)) (fun _ h => h) rfl  (by decide +kernel) rfl rfl (Nat.le_of_ble_eq_true rfl) hdg (fun H1 locs1 hP1 hD1 hS1 => kk H1 locs1 ⟨_, hw.set he (by rw [ha]; decide) XGa.d (by rw [ha]; exact mkX11 (by simp [dput, up2]) (by rw [dput_nj (show (6 : Nat) ≠ 0 by decide)]; exact z6) (by rw [dput_nj (show (39 : Nat) ≠ 0 by decide)]; exact z39) hr), hP1, hD1⟩ hS1)
theorem gX11_1 (S : CallFix p m c cc nL s args (w0 :: GT) own) (hK : XK E s) (hT : TW E K F G H) (ha : K a = 13) (hl : Cond.fieldLink own idx "LateRulesModel" "rows" "[I" ∈ GT) (hdg : decode cc pc = .ok (.getfield idx, 3)) (kk : K (F a 1) = 30 → F (F a 1) 99 = 1 → W p l e R s m args below meth c H locs cells slots Q (F0 m (pc + 3) ls (.ref (F a 1) :: rest))) : W p l e R s m args below meth c H locs cells slots Q (F0 m pc ls (.ref a :: rest)) := by
  obtain ⟨ws, i, hw, hP, hD, he, z6, z39, hr⟩ := atX11 hT ha
  exact va_get (D := E.1) (ci := 12) (v := .ref (F a 1)) (C := RX11) (T := TX11) (N := 52) S.1 S.2.1 S.2.2.2.2 (fun w h => List.mem_cons_of_mem _ (inX11 w h)) S.2.2.2.1 hK.1 hP i he rfl 1 (by decide) (S.2.2.2.2 _ (List.mem_cons_of_mem _ hl)) (fun _ h => h) rfl hdg (kk (fkX11_1 hT ha).1 (fkX11_1 hT ha).2)
theorem gX11_2 (S : CallFix p m c cc nL s args (w0 :: GT) own) (hK : XK E s) (hT : TW E K F G H) (ha : K a = 13) (hl : Cond.fieldLink own idx "LateRulesModel" "begun" "[I" ∈ GT) (hdg : decode cc pc = .ok (.getfield idx, 3)) (kk : K (F a 2) = 31 → F (F a 2) 99 = 2 → W p l e R s m args below meth c H locs cells slots Q (F0 m (pc + 3) ls (.ref (F a 2) :: rest))) : W p l e R s m args below meth c H locs cells slots Q (F0 m pc ls (.ref a :: rest)) := by
  obtain ⟨ws, i, hw, hP, hD, he, z6, z39, hr⟩ := atX11 hT ha
  exact va_get (D := E.1) (ci := 12) (v := .ref (F a 2)) (C := RX11) (T := TX11) (N := 52) S.1 S.2.1 S.2.2.2.2 (fun w h => List.mem_cons_of_mem _ (inX11 w h)) S.2.2.2.1 hK.1 hP i he rfl 2 (by decide) (S.2.2.2.2 _ (List.mem_cons_of_mem _ hl)) (fun _ h => h) rfl hdg (kk (fkX11_2 hT ha).1 (fkX11_2 hT ha).2)
theorem gX11_3 (S : CallFix p m c cc nL s args (w0 :: GT) own) (hK : XK E s) (hT : TW E K F G H) (ha : K a = 13) (hl : Cond.fieldLink own idx "LateRulesModel" "marked" "[I" ∈ GT) (hdg : decode cc pc = .ok (.getfield idx, 3)) (kk : K (F a 3) = 32 → F (F a 3) 99 = 3 → W p l e R s m args below meth c H locs cells slots Q (F0 m (pc + 3) ls (.ref (F a 3) :: rest))) : W p l e R s m args below meth c H locs cells slots Q (F0 m pc ls (.ref a :: rest)) := by
  obtain ⟨ws, i, hw, hP, hD, he, z6, z39, hr⟩ := atX11 hT ha
  exact va_get (D := E.1) (ci := 12) (v := .ref (F a 3)) (C := RX11) (T := TX11) (N := 52) S.1 S.2.1 S.2.2.2.2 (fun w h => List.mem_cons_of_mem _ (inX11 w h)) S.2.2.2.1 hK.1 hP i he rfl 3 (by decide) (S.2.2.2.2 _ (List.mem_cons_of_mem _ hl)) (fun _ h => h) rfl hdg (kk (fkX11_3 hT ha).1 (fkX11_3 hT ha).2)
theorem gX11_4 (S : CallFix p m c cc nL s args (w0 :: GT) own) (hK : XK E s) (hT : TW E K F G H) (ha : K a = 13) (hl : Cond.fieldLink own idx "LateRulesModel" "ahead" "[I" ∈ GT) (hdg : decode cc pc = .ok (.getfield idx, 3)) (kk : K (F a 4) = 31 → F (F a 4) 99 = 4 → W p l e R s m args below meth c H locs cells slots Q (F0 m (pc + 3) ls (.ref (F a 4) :: rest))) : W p l e R s m args below meth c H locs cells slots Q (F0 m pc ls (.ref a :: rest)) := by
  obtain ⟨ws, i, hw, hP, hD, he, z6, z39, hr⟩ := atX11 hT ha
  exact va_get (D := E.1) (ci := 12) (v := .ref (F a 4)) (C := RX11) (T := TX11) (N := 52) S.1 S.2.1 S.2.2.2.2 (fun w h => List.mem_cons_of_mem _ (inX11 w h)) S.2.2.2.1 hK.1 hP i he rfl 4 (by decide) (S.2.2.2.2 _ (List.mem_cons_of_mem _ hl)) (fun _ h => h) rfl hdg (kk (fkX11_4 hT ha).1 (fkX11_4 hT ha).2)
theorem gX11_5 (S : CallFix p m c cc nL s args (w0 :: GT) own) (hK : XK E s) (hT : TW E K F G H) (ha : K a = 13) (hl : Cond.fieldLink own idx "LateRulesModel" "paper" "[I" ∈ GT) (hdg : decode cc pc = .ok (.getfield idx, 3)) (kk : K (F a 5) = 34 → F (F a 5) 99 = 5 → W p l e R s m args below meth c H locs cells slots Q (F0 m (pc + 3) ls (.ref (F a 5) :: rest))) : W p l e R s m args below meth c H locs cells slots Q (F0 m pc ls (.ref a :: rest)) := by
  obtain ⟨ws, i, hw, hP, hD, he, z6, z39, hr⟩ := atX11 hT ha
  exact va_get (D := E.1) (ci := 12) (v := .ref (F a 5)) (C := RX11) (T := TX11) (N := 52) S.1 S.2.1 S.2.2.2.2 (fun w h => List.mem_cons_of_mem _ (inX11 w h)) S.2.2.2.1 hK.1 hP i he rfl 5 (by decide) (S.2.2.2.2 _ (List.mem_cons_of_mem _ hl)) (fun _ h => h) rfl hdg (kk (fkX11_5 hT ha).1 (fkX11_5 hT ha).2)
theorem gX11_6 (S : CallFix p m c cc nL s args (w0 :: GT) own) (hK : XK E s) (hT : TW E K F G H) (ha : K a = 13) (hl : Cond.fieldLink own idx "LateRulesModel" "within" "Z" ∈ GT) (hdg : decode cc pc = .ok (.getfield idx, 3)) {v : Int32} (hv : G.1 a 6 = v) (kk : (v = 0 ∨ v = 1) → W p l e R s m args below meth c H locs cells slots Q (F0 m (pc + 3) ls (.int v :: rest))) : W p l e R s m args below meth c H locs cells slots Q (F0 m pc ls (.ref a :: rest)) := by
  subst hv
  obtain ⟨ws, i, hw, hP, hD, he, z6, z39, hr⟩ := atX11 hT ha
  exact va_get (D := E.1) (ci := 12) (v := .int (G.1 a 6)) (C := RX11) (T := TX11) (N := 52) S.1 S.2.1 S.2.2.2.2 (fun w h => List.mem_cons_of_mem _ (inX11 w h)) S.2.2.2.1 hK.1 hP i he rfl 6 (by decide) (S.2.2.2.2 _ (List.mem_cons_of_mem _ hl)) (fun _ h => h) rfl hdg (kk z6)
theorem pX11_6 {v : Int32} (S : CallFix p m c cc nL s args (w0 :: GT) own) (hK : XK E s) (hT : TW E K F G H) (hS : va_S (xA E) H0 H locs) (ha : K a = 13) (hl : Cond.fieldLink own idx "LateRulesModel" "within" "Z" ∈ GT) (hv : v = 0 ∨ v = 1) (hdg : decode cc pc = .ok (.putfield idx, 3)) (kk : ∀ (H1 : Heap) (locs1 : List Loc), TW E K F (dput G a 6 v) H1 → va_S (xA E) H0 H1 locs1 → W p l e R s m args below meth c H1 locs1 cells slots Q (F0 m (pc + 3) ls rest)) : W p l e R s m args below meth c H locs cells slots Q (F0 m pc ls (.int v :: .ref a :: rest)) := by
  obtain ⟨ws, i, hw, hP, hD, he, z6, z39, hr⟩ := atX11 hT ha
  exact va_put (D := E.1) (ci := 12) (v := .int v) (ty := .boolean) (C := RX11) (T := TX11) (N := 52) S.1 S.2.1 S.2.2.2.2 (fun w h => List.mem_cons_of_mem _ (inX11 w h)) tyX11 tyX11_ok nmX11 S.2.2.2.1 hK.1 hP hD hS i he rfl 6 (by decide) (S.2.2.2.2 _ (List.mem_cons_of_mem _ hl)) (fun _ h => h) rfl  (by decide +kernel) (by rcases hv with h | h <;> subst h <;> rfl) (by rcases hv with h | h <;> subst h <;> rfl) (Nat.le_of_ble_eq_true rfl) hdg (fun H1 locs1 hP1 hD1 hS1 => kk H1 locs1 ⟨_, hw.set he (by rw [ha]; decide) XGa.d (by rw [ha]; exact mkX11 (by simp [dput, up2]) (by rw [dput_at]; exact hv) (by rw [dput_nj (show (39 : Nat) ≠ 6 by decide)]; exact z39) hr), hP1, hD1⟩ hS1)
theorem gX11_7 (S : CallFix p m c cc nL s args (w0 :: GT) own) (hK : XK E s) (hT : TW E K F G H) (ha : K a = 13) (hl : Cond.fieldLink own idx "LateRulesModel" "marks" "I" ∈ GT) (hdg : decode cc pc = .ok (.getfield idx, 3)) {v : Int32} (hv : G.1 a 7 = v) (kk : W p l e R s m args below meth c H locs cells slots Q (F0 m (pc + 3) ls (.int v :: rest))) : W p l e R s m args below meth c H locs cells slots Q (F0 m pc ls (.ref a :: rest)) := by
  subst hv
  obtain ⟨ws, i, hw, hP, hD, he, z6, z39, hr⟩ := atX11 hT ha
  exact va_get (D := E.1) (ci := 12) (v := .int (G.1 a 7)) (C := RX11) (T := TX11) (N := 52) S.1 S.2.1 S.2.2.2.2 (fun w h => List.mem_cons_of_mem _ (inX11 w h)) S.2.2.2.1 hK.1 hP i he rfl 7 (by decide) (S.2.2.2.2 _ (List.mem_cons_of_mem _ hl)) (fun _ h => h) rfl hdg (kk)
theorem pX11_7 {v : Int32} (S : CallFix p m c cc nL s args (w0 :: GT) own) (hK : XK E s) (hT : TW E K F G H) (hS : va_S (xA E) H0 H locs) (ha : K a = 13) (hl : Cond.fieldLink own idx "LateRulesModel" "marks" "I" ∈ GT) (hdg : decode cc pc = .ok (.putfield idx, 3)) (kk : ∀ (H1 : Heap) (locs1 : List Loc), TW E K F (dput G a 7 v) H1 → va_S (xA E) H0 H1 locs1 → W p l e R s m args below meth c H1 locs1 cells slots Q (F0 m (pc + 3) ls rest)) : W p l e R s m args below meth c H locs cells slots Q (F0 m pc ls (.int v :: .ref a :: rest)) := by
  obtain ⟨ws, i, hw, hP, hD, he, z6, z39, hr⟩ := atX11 hT ha
  exact va_put (D := E.1) (ci := 12) (v := .int v) (ty := .int) (C := RX11) (T := TX11) (N := 52) S.1 S.2.1 S.2.2.2.2 (fun w h => List.mem_cons_of_mem _ (inX11 w h)) tyX11 tyX11_ok nmX11 S.2.2.2.1 hK.1 hP hD hS i he rfl 7 (by decide) (S.2.2.2.2 _ (List.mem_cons_of_mem _ hl)) (fun _ h => h) rfl  (by decide +kernel) rfl rfl (Nat.le_of_ble_eq_true rfl) hdg (fun H1 locs1 hP1 hD1 hS1 => kk H1 locs1 ⟨_, hw.set he (by rw [ha]; decide) XGa.d (by rw [ha]; exact mkX11 (by simp [dput, up2]) (by rw [dput_nj (show (6 : Nat) ≠ 7 by decide)]; exact z6) (by rw [dput_nj (show (39 : Nat) ≠ 7 by decide)]; exact z39) hr), hP1, hD1⟩ hS1)
theorem gX11_8 (S : CallFix p m c cc nL s args (w0 :: GT) own) (hK : XK E s) (hT : TW E K F G H) (ha : K a = 13) (hl : Cond.fieldLink own idx "LateRulesModel" "since" "[I" ∈ GT) (hdg : decode cc pc = .ok (.getfield idx, 3)) (kk : K (F a 8) = 35 → F (F a 8) 99 = 8 → W p l e R s m args below meth c H locs cells slots Q (F0 m (pc + 3) ls (.ref (F a 8) :: rest))) : W p l e R s m args below meth c H locs cells slots Q (F0 m pc ls (.ref a :: rest)) := by
  obtain ⟨ws, i, hw, hP, hD, he, z6, z39, hr⟩ := atX11 hT ha
  exact va_get (D := E.1) (ci := 12) (v := .ref (F a 8)) (C := RX11) (T := TX11) (N := 52) S.1 S.2.1 S.2.2.2.2 (fun w h => List.mem_cons_of_mem _ (inX11 w h)) S.2.2.2.1 hK.1 hP i he rfl 8 (by decide) (S.2.2.2.2 _ (List.mem_cons_of_mem _ hl)) (fun _ h => h) rfl hdg (kk (fkX11_8 hT ha).1 (fkX11_8 hT ha).2)
theorem gX11_9 (S : CallFix p m c cc nL s args (w0 :: GT) own) (hK : XK E s) (hT : TW E K F G H) (ha : K a = 13) (hl : Cond.fieldLink own idx "LateRulesModel" "counts" "[I" ∈ GT) (hdg : decode cc pc = .ok (.getfield idx, 3)) (kk : K (F a 9) = 36 → F (F a 9) 99 = 9 → W p l e R s m args below meth c H locs cells slots Q (F0 m (pc + 3) ls (.ref (F a 9) :: rest))) : W p l e R s m args below meth c H locs cells slots Q (F0 m pc ls (.ref a :: rest)) := by
  obtain ⟨ws, i, hw, hP, hD, he, z6, z39, hr⟩ := atX11 hT ha
  exact va_get (D := E.1) (ci := 12) (v := .ref (F a 9)) (C := RX11) (T := TX11) (N := 52) S.1 S.2.1 S.2.2.2.2 (fun w h => List.mem_cons_of_mem _ (inX11 w h)) S.2.2.2.1 hK.1 hP i he rfl 9 (by decide) (S.2.2.2.2 _ (List.mem_cons_of_mem _ hl)) (fun _ h => h) rfl hdg (kk (fkX11_9 hT ha).1 (fkX11_9 hT ha).2)
theorem gX11_10 (S : CallFix p m c cc nL s args (w0 :: GT) own) (hK : XK E s) (hT : TW E K F G H) (ha : K a = 13) (hl : Cond.fieldLink own idx "LateRulesModel" "rule" "[I" ∈ GT) (hdg : decode cc pc = .ok (.getfield idx, 3)) (kk : K (F a 10) = 37 → F (F a 10) 99 = 10 → W p l e R s m args below meth c H locs cells slots Q (F0 m (pc + 3) ls (.ref (F a 10) :: rest))) : W p l e R s m args below meth c H locs cells slots Q (F0 m pc ls (.ref a :: rest)) := by
  obtain ⟨ws, i, hw, hP, hD, he, z6, z39, hr⟩ := atX11 hT ha
  exact va_get (D := E.1) (ci := 12) (v := .ref (F a 10)) (C := RX11) (T := TX11) (N := 52) S.1 S.2.1 S.2.2.2.2 (fun w h => List.mem_cons_of_mem _ (inX11 w h)) S.2.2.2.1 hK.1 hP i he rfl 10 (by decide) (S.2.2.2.2 _ (List.mem_cons_of_mem _ hl)) (fun _ h => h) rfl hdg (kk (fkX11_10 hT ha).1 (fkX11_10 hT ha).2)
theorem gX11_11 (S : CallFix p m c cc nL s args (w0 :: GT) own) (hK : XK E s) (hT : TW E K F G H) (ha : K a = 13) (hl : Cond.fieldLink own idx "LateRulesModel" "states" "[I" ∈ GT) (hdg : decode cc pc = .ok (.getfield idx, 3)) (kk : K (F a 11) = 38 → F (F a 11) 99 = 11 → W p l e R s m args below meth c H locs cells slots Q (F0 m (pc + 3) ls (.ref (F a 11) :: rest))) : W p l e R s m args below meth c H locs cells slots Q (F0 m pc ls (.ref a :: rest)) := by
  obtain ⟨ws, i, hw, hP, hD, he, z6, z39, hr⟩ := atX11 hT ha
  exact va_get (D := E.1) (ci := 12) (v := .ref (F a 11)) (C := RX11) (T := TX11) (N := 52) S.1 S.2.1 S.2.2.2.2 (fun w h => List.mem_cons_of_mem _ (inX11 w h)) S.2.2.2.1 hK.1 hP i he rfl 11 (by decide) (S.2.2.2.2 _ (List.mem_cons_of_mem _ hl)) (fun _ h => h) rfl hdg (kk (fkX11_11 hT ha).1 (fkX11_11 hT ha).2)
theorem gX11_12 (S : CallFix p m c cc nL s args (w0 :: GT) own) (hK : XK E s) (hT : TW E K F G H) (ha : K a = 13) (hl : Cond.fieldLink own idx "LateRulesModel" "statesAhead" "[I" ∈ GT) (hdg : decode cc pc = .ok (.getfield idx, 3)) (kk : K (F a 12) = 38 → F (F a 12) 99 = 12 → W p l e R s m args below meth c H locs cells slots Q (F0 m (pc + 3) ls (.ref (F a 12) :: rest))) : W p l e R s m args below meth c H locs cells slots Q (F0 m pc ls (.ref a :: rest)) := by
  obtain ⟨ws, i, hw, hP, hD, he, z6, z39, hr⟩ := atX11 hT ha
  exact va_get (D := E.1) (ci := 12) (v := .ref (F a 12)) (C := RX11) (T := TX11) (N := 52) S.1 S.2.1 S.2.2.2.2 (fun w h => List.mem_cons_of_mem _ (inX11 w h)) S.2.2.2.1 hK.1 hP i he rfl 12 (by decide) (S.2.2.2.2 _ (List.mem_cons_of_mem _ hl)) (fun _ h => h) rfl hdg (kk (fkX11_12 hT ha).1 (fkX11_12 hT ha).2)
theorem gX11_13 (S : CallFix p m c cc nL s args (w0 :: GT) own) (hK : XK E s) (hT : TW E K F G H) (ha : K a = 13) (hl : Cond.fieldLink own idx "LateRulesModel" "statesBegun" "[I" ∈ GT) (hdg : decode cc pc = .ok (.getfield idx, 3)) (kk : K (F a 13) = 38 → F (F a 13) 99 = 13 → W p l e R s m args below meth c H locs cells slots Q (F0 m (pc + 3) ls (.ref (F a 13) :: rest))) : W p l e R s m args below meth c H locs cells slots Q (F0 m pc ls (.ref a :: rest)) := by
  obtain ⟨ws, i, hw, hP, hD, he, z6, z39, hr⟩ := atX11 hT ha
  exact va_get (D := E.1) (ci := 12) (v := .ref (F a 13)) (C := RX11) (T := TX11) (N := 52) S.1 S.2.1 S.2.2.2.2 (fun w h => List.mem_cons_of_mem _ (inX11 w h)) S.2.2.2.1 hK.1 hP i he rfl 13 (by decide) (S.2.2.2.2 _ (List.mem_cons_of_mem _ hl)) (fun _ h => h) rfl hdg (kk (fkX11_13 hT ha).1 (fkX11_13 hT ha).2)
theorem gX11_14 (S : CallFix p m c cc nL s args (w0 :: GT) own) (hK : XK E s) (hT : TW E K F G H) (ha : K a = 13) (hl : Cond.fieldLink own idx "LateRulesModel" "statesMark" "[I" ∈ GT) (hdg : decode cc pc = .ok (.getfield idx, 3)) (kk : K (F a 14) = 38 → F (F a 14) 99 = 14 → W p l e R s m args below meth c H locs cells slots Q (F0 m (pc + 3) ls (.ref (F a 14) :: rest))) : W p l e R s m args below meth c H locs cells slots Q (F0 m pc ls (.ref a :: rest)) := by
  obtain ⟨ws, i, hw, hP, hD, he, z6, z39, hr⟩ := atX11 hT ha
  exact va_get (D := E.1) (ci := 12) (v := .ref (F a 14)) (C := RX11) (T := TX11) (N := 52) S.1 S.2.1 S.2.2.2.2 (fun w h => List.mem_cons_of_mem _ (inX11 w h)) S.2.2.2.1 hK.1 hP i he rfl 14 (by decide) (S.2.2.2.2 _ (List.mem_cons_of_mem _ hl)) (fun _ h => h) rfl hdg (kk (fkX11_14 hT ha).1 (fkX11_14 hT ha).2)
theorem gX11_15 (S : CallFix p m c cc nL s args (w0 :: GT) own) (hK : XK E s) (hT : TW E K F G H) (ha : K a = 13) (hl : Cond.fieldLink own idx "LateRulesModel" "order" "[I" ∈ GT) (hdg : decode cc pc = .ok (.getfield idx, 3)) (kk : K (F a 15) = 42 → F (F a 15) 99 = 15 → W p l e R s m args below meth c H locs cells slots Q (F0 m (pc + 3) ls (.ref (F a 15) :: rest))) : W p l e R s m args below meth c H locs cells slots Q (F0 m pc ls (.ref a :: rest)) := by
  obtain ⟨ws, i, hw, hP, hD, he, z6, z39, hr⟩ := atX11 hT ha
  exact va_get (D := E.1) (ci := 12) (v := .ref (F a 15)) (C := RX11) (T := TX11) (N := 52) S.1 S.2.1 S.2.2.2.2 (fun w h => List.mem_cons_of_mem _ (inX11 w h)) S.2.2.2.1 hK.1 hP i he rfl 15 (by decide) (S.2.2.2.2 _ (List.mem_cons_of_mem _ hl)) (fun _ h => h) rfl hdg (kk (fkX11_15 hT ha).1 (fkX11_15 hT ha).2)
theorem gX11_16 (S : CallFix p m c cc nL s args (w0 :: GT) own) (hK : XK E s) (hT : TW E K F G H) (ha : K a = 13) (hl : Cond.fieldLink own idx "LateRulesModel" "ordered" "I" ∈ GT) (hdg : decode cc pc = .ok (.getfield idx, 3)) {v : Int32} (hv : G.1 a 16 = v) (kk : W p l e R s m args below meth c H locs cells slots Q (F0 m (pc + 3) ls (.int v :: rest))) : W p l e R s m args below meth c H locs cells slots Q (F0 m pc ls (.ref a :: rest)) := by
  subst hv
  obtain ⟨ws, i, hw, hP, hD, he, z6, z39, hr⟩ := atX11 hT ha
  exact va_get (D := E.1) (ci := 12) (v := .int (G.1 a 16)) (C := RX11) (T := TX11) (N := 52) S.1 S.2.1 S.2.2.2.2 (fun w h => List.mem_cons_of_mem _ (inX11 w h)) S.2.2.2.1 hK.1 hP i he rfl 16 (by decide) (S.2.2.2.2 _ (List.mem_cons_of_mem _ hl)) (fun _ h => h) rfl hdg (kk)
theorem pX11_16 {v : Int32} (S : CallFix p m c cc nL s args (w0 :: GT) own) (hK : XK E s) (hT : TW E K F G H) (hS : va_S (xA E) H0 H locs) (ha : K a = 13) (hl : Cond.fieldLink own idx "LateRulesModel" "ordered" "I" ∈ GT) (hdg : decode cc pc = .ok (.putfield idx, 3)) (kk : ∀ (H1 : Heap) (locs1 : List Loc), TW E K F (dput G a 16 v) H1 → va_S (xA E) H0 H1 locs1 → W p l e R s m args below meth c H1 locs1 cells slots Q (F0 m (pc + 3) ls rest)) : W p l e R s m args below meth c H locs cells slots Q (F0 m pc ls (.int v :: .ref a :: rest)) := by
  obtain ⟨ws, i, hw, hP, hD, he, z6, z39, hr⟩ := atX11 hT ha
  exact va_put (D := E.1) (ci := 12) (v := .int v) (ty := .int) (C := RX11) (T := TX11) (N := 52) S.1 S.2.1 S.2.2.2.2 (fun w h => List.mem_cons_of_mem _ (inX11 w h)) tyX11 tyX11_ok nmX11 S.2.2.2.1 hK.1 hP hD hS i he rfl 16 (by decide) (S.2.2.2.2 _ (List.mem_cons_of_mem _ hl)) (fun _ h => h) rfl  (by decide +kernel) rfl rfl (Nat.le_of_ble_eq_true rfl) hdg (fun H1 locs1 hP1 hD1 hS1 => kk H1 locs1 ⟨_, hw.set he (by rw [ha]; decide) XGa.d (by rw [ha]; exact mkX11 (by simp [dput, up2]) (by rw [dput_nj (show (6 : Nat) ≠ 16 by decide)]; exact z6) (by rw [dput_nj (show (39 : Nat) ≠ 16 by decide)]; exact z39) hr), hP1, hD1⟩ hS1)
theorem gX11_17 (S : CallFix p m c cc nL s args (w0 :: GT) own) (hK : XK E s) (hT : TW E K F G H) (ha : K a = 13) (hl : Cond.fieldLink own idx "LateRulesModel" "foundRule" "[I" ∈ GT) (hdg : decode cc pc = .ok (.getfield idx, 3)) (kk : K (F a 17) = 43 → F (F a 17) 99 = 17 → W p l e R s m args below meth c H locs cells slots Q (F0 m (pc + 3) ls (.ref (F a 17) :: rest))) : W p l e R s m args below meth c H locs cells slots Q (F0 m pc ls (.ref a :: rest)) := by
  obtain ⟨ws, i, hw, hP, hD, he, z6, z39, hr⟩ := atX11 hT ha
  exact va_get (D := E.1) (ci := 12) (v := .ref (F a 17)) (C := RX11) (T := TX11) (N := 52) S.1 S.2.1 S.2.2.2.2 (fun w h => List.mem_cons_of_mem _ (inX11 w h)) S.2.2.2.1 hK.1 hP i he rfl 17 (by decide) (S.2.2.2.2 _ (List.mem_cons_of_mem _ hl)) (fun _ h => h) rfl hdg (kk (fkX11_17 hT ha).1 (fkX11_17 hT ha).2)
theorem gX11_18 (S : CallFix p m c cc nL s args (w0 :: GT) own) (hK : XK E s) (hT : TW E K F G H) (ha : K a = 13) (hl : Cond.fieldLink own idx "LateRulesModel" "foundSubject" "[I" ∈ GT) (hdg : decode cc pc = .ok (.getfield idx, 3)) (kk : K (F a 18) = 44 → F (F a 18) 99 = 18 → W p l e R s m args below meth c H locs cells slots Q (F0 m (pc + 3) ls (.ref (F a 18) :: rest))) : W p l e R s m args below meth c H locs cells slots Q (F0 m pc ls (.ref a :: rest)) := by
  obtain ⟨ws, i, hw, hP, hD, he, z6, z39, hr⟩ := atX11 hT ha
  exact va_get (D := E.1) (ci := 12) (v := .ref (F a 18)) (C := RX11) (T := TX11) (N := 52) S.1 S.2.1 S.2.2.2.2 (fun w h => List.mem_cons_of_mem _ (inX11 w h)) S.2.2.2.1 hK.1 hP i he rfl 18 (by decide) (S.2.2.2.2 _ (List.mem_cons_of_mem _ hl)) (fun _ h => h) rfl hdg (kk (fkX11_18 hT ha).1 (fkX11_18 hT ha).2)
theorem gX11_19 (S : CallFix p m c cc nL s args (w0 :: GT) own) (hK : XK E s) (hT : TW E K F G H) (ha : K a = 13) (hl : Cond.fieldLink own idx "LateRulesModel" "found" "I" ∈ GT) (hdg : decode cc pc = .ok (.getfield idx, 3)) {v : Int32} (hv : G.1 a 19 = v) (kk : W p l e R s m args below meth c H locs cells slots Q (F0 m (pc + 3) ls (.int v :: rest))) : W p l e R s m args below meth c H locs cells slots Q (F0 m pc ls (.ref a :: rest)) := by
  subst hv
  obtain ⟨ws, i, hw, hP, hD, he, z6, z39, hr⟩ := atX11 hT ha
  exact va_get (D := E.1) (ci := 12) (v := .int (G.1 a 19)) (C := RX11) (T := TX11) (N := 52) S.1 S.2.1 S.2.2.2.2 (fun w h => List.mem_cons_of_mem _ (inX11 w h)) S.2.2.2.1 hK.1 hP i he rfl 19 (by decide) (S.2.2.2.2 _ (List.mem_cons_of_mem _ hl)) (fun _ h => h) rfl hdg (kk)
theorem pX11_19 {v : Int32} (S : CallFix p m c cc nL s args (w0 :: GT) own) (hK : XK E s) (hT : TW E K F G H) (hS : va_S (xA E) H0 H locs) (ha : K a = 13) (hl : Cond.fieldLink own idx "LateRulesModel" "found" "I" ∈ GT) (hdg : decode cc pc = .ok (.putfield idx, 3)) (kk : ∀ (H1 : Heap) (locs1 : List Loc), TW E K F (dput G a 19 v) H1 → va_S (xA E) H0 H1 locs1 → W p l e R s m args below meth c H1 locs1 cells slots Q (F0 m (pc + 3) ls rest)) : W p l e R s m args below meth c H locs cells slots Q (F0 m pc ls (.int v :: .ref a :: rest)) := by
  obtain ⟨ws, i, hw, hP, hD, he, z6, z39, hr⟩ := atX11 hT ha
  exact va_put (D := E.1) (ci := 12) (v := .int v) (ty := .int) (C := RX11) (T := TX11) (N := 52) S.1 S.2.1 S.2.2.2.2 (fun w h => List.mem_cons_of_mem _ (inX11 w h)) tyX11 tyX11_ok nmX11 S.2.2.2.1 hK.1 hP hD hS i he rfl 19 (by decide) (S.2.2.2.2 _ (List.mem_cons_of_mem _ hl)) (fun _ h => h) rfl  (by decide +kernel) rfl rfl (Nat.le_of_ble_eq_true rfl) hdg (fun H1 locs1 hP1 hD1 hS1 => kk H1 locs1 ⟨_, hw.set he (by rw [ha]; decide) XGa.d (by rw [ha]; exact mkX11 (by simp [dput, up2]) (by rw [dput_nj (show (6 : Nat) ≠ 19 by decide)]; exact z6) (by rw [dput_nj (show (39 : Nat) ≠ 19 by decide)]; exact z39) hr), hP1, hD1⟩ hS1)
theorem gX11_20 (S : CallFix p m c cc nL s args (w0 :: GT) own) (hK : XK E s) (hT : TW E K F G H) (ha : K a = 13) (hl : Cond.fieldLink own idx "LateRulesModel" "verdictRule" "I" ∈ GT) (hdg : decode cc pc = .ok (.getfield idx, 3)) {v : Int32} (hv : G.1 a 20 = v) (kk : W p l e R s m args below meth c H locs cells slots Q (F0 m (pc + 3) ls (.int v :: rest))) : W p l e R s m args below meth c H locs cells slots Q (F0 m pc ls (.ref a :: rest)) := by
  subst hv
  obtain ⟨ws, i, hw, hP, hD, he, z6, z39, hr⟩ := atX11 hT ha
  exact va_get (D := E.1) (ci := 12) (v := .int (G.1 a 20)) (C := RX11) (T := TX11) (N := 52) S.1 S.2.1 S.2.2.2.2 (fun w h => List.mem_cons_of_mem _ (inX11 w h)) S.2.2.2.1 hK.1 hP i he rfl 20 (by decide) (S.2.2.2.2 _ (List.mem_cons_of_mem _ hl)) (fun _ h => h) rfl hdg (kk)
theorem pX11_20 {v : Int32} (S : CallFix p m c cc nL s args (w0 :: GT) own) (hK : XK E s) (hT : TW E K F G H) (hS : va_S (xA E) H0 H locs) (ha : K a = 13) (hl : Cond.fieldLink own idx "LateRulesModel" "verdictRule" "I" ∈ GT) (hdg : decode cc pc = .ok (.putfield idx, 3)) (kk : ∀ (H1 : Heap) (locs1 : List Loc), TW E K F (dput G a 20 v) H1 → va_S (xA E) H0 H1 locs1 → W p l e R s m args below meth c H1 locs1 cells slots Q (F0 m (pc + 3) ls rest)) : W p l e R s m args below meth c H locs cells slots Q (F0 m pc ls (.int v :: .ref a :: rest)) := by
  obtain ⟨ws, i, hw, hP, hD, he, z6, z39, hr⟩ := atX11 hT ha
  exact va_put (D := E.1) (ci := 12) (v := .int v) (ty := .int) (C := RX11) (T := TX11) (N := 52) S.1 S.2.1 S.2.2.2.2 (fun w h => List.mem_cons_of_mem _ (inX11 w h)) tyX11 tyX11_ok nmX11 S.2.2.2.1 hK.1 hP hD hS i he rfl 20 (by decide) (S.2.2.2.2 _ (List.mem_cons_of_mem _ hl)) (fun _ h => h) rfl  (by decide +kernel) rfl rfl (Nat.le_of_ble_eq_true rfl) hdg (fun H1 locs1 hP1 hD1 hS1 => kk H1 locs1 ⟨_, hw.set he (by rw [ha]; decide) XGa.d (by rw [ha]; exact mkX11 (by simp [dput, up2]) (by rw [dput_nj (show (6 : Nat) ≠ 20 by decide)]; exact z6) (by rw [dput_nj (show (39 : Nat) ≠ 20 by decide)]; exact z39) hr), hP1, hD1⟩ hS1)
theorem gX11_21 (S : CallFix p m c cc nL s args (w0 :: GT) own) (hK : XK E s) (hT : TW E K F G H) (ha : K a = 13) (hl : Cond.fieldLink own idx "LateRulesModel" "verdictSubject" "I" ∈ GT) (hdg : decode cc pc = .ok (.getfield idx, 3)) {v : Int32} (hv : G.1 a 21 = v) (kk : W p l e R s m args below meth c H locs cells slots Q (F0 m (pc + 3) ls (.int v :: rest))) : W p l e R s m args below meth c H locs cells slots Q (F0 m pc ls (.ref a :: rest)) := by
  subst hv
  obtain ⟨ws, i, hw, hP, hD, he, z6, z39, hr⟩ := atX11 hT ha
  exact va_get (D := E.1) (ci := 12) (v := .int (G.1 a 21)) (C := RX11) (T := TX11) (N := 52) S.1 S.2.1 S.2.2.2.2 (fun w h => List.mem_cons_of_mem _ (inX11 w h)) S.2.2.2.1 hK.1 hP i he rfl 21 (by decide) (S.2.2.2.2 _ (List.mem_cons_of_mem _ hl)) (fun _ h => h) rfl hdg (kk)
theorem pX11_21 {v : Int32} (S : CallFix p m c cc nL s args (w0 :: GT) own) (hK : XK E s) (hT : TW E K F G H) (hS : va_S (xA E) H0 H locs) (ha : K a = 13) (hl : Cond.fieldLink own idx "LateRulesModel" "verdictSubject" "I" ∈ GT) (hdg : decode cc pc = .ok (.putfield idx, 3)) (kk : ∀ (H1 : Heap) (locs1 : List Loc), TW E K F (dput G a 21 v) H1 → va_S (xA E) H0 H1 locs1 → W p l e R s m args below meth c H1 locs1 cells slots Q (F0 m (pc + 3) ls rest)) : W p l e R s m args below meth c H locs cells slots Q (F0 m pc ls (.int v :: .ref a :: rest)) := by
  obtain ⟨ws, i, hw, hP, hD, he, z6, z39, hr⟩ := atX11 hT ha
  exact va_put (D := E.1) (ci := 12) (v := .int v) (ty := .int) (C := RX11) (T := TX11) (N := 52) S.1 S.2.1 S.2.2.2.2 (fun w h => List.mem_cons_of_mem _ (inX11 w h)) tyX11 tyX11_ok nmX11 S.2.2.2.1 hK.1 hP hD hS i he rfl 21 (by decide) (S.2.2.2.2 _ (List.mem_cons_of_mem _ hl)) (fun _ h => h) rfl  (by decide +kernel) rfl rfl (Nat.le_of_ble_eq_true rfl) hdg (fun H1 locs1 hP1 hD1 hS1 => kk H1 locs1 ⟨_, hw.set he (by rw [ha]; decide) XGa.d (by rw [ha]; exact mkX11 (by simp [dput, up2]) (by rw [dput_nj (show (6 : Nat) ≠ 21 by decide)]; exact z6) (by rw [dput_nj (show (39 : Nat) ≠ 21 by decide)]; exact z39) hr), hP1, hD1⟩ hS1)
theorem gX11_22 (S : CallFix p m c cc nL s args (w0 :: GT) own) (hK : XK E s) (hT : TW E K F G H) (ha : K a = 13) (hl : Cond.fieldLink own idx "LateRulesModel" "words" "[B" ∈ GT) (hdg : decode cc pc = .ok (.getfield idx, 3)) (kk : K (F a 22) = 45 → F (F a 22) 99 = 22 → W p l e R s m args below meth c H locs cells slots Q (F0 m (pc + 3) ls (.ref (F a 22) :: rest))) : W p l e R s m args below meth c H locs cells slots Q (F0 m pc ls (.ref a :: rest)) := by
  obtain ⟨ws, i, hw, hP, hD, he, z6, z39, hr⟩ := atX11 hT ha
  exact va_get (D := E.1) (ci := 12) (v := .ref (F a 22)) (C := RX11) (T := TX11) (N := 52) S.1 S.2.1 S.2.2.2.2 (fun w h => List.mem_cons_of_mem _ (inX11 w h)) S.2.2.2.1 hK.1 hP i he rfl 22 (by decide) (S.2.2.2.2 _ (List.mem_cons_of_mem _ hl)) (fun _ h => h) rfl hdg (kk (fkX11_22 hT ha).1 (fkX11_22 hT ha).2)
theorem gX11_23 (S : CallFix p m c cc nL s args (w0 :: GT) own) (hK : XK E s) (hT : TW E K F G H) (ha : K a = 13) (hl : Cond.fieldLink own idx "LateRulesModel" "wordMany" "I" ∈ GT) (hdg : decode cc pc = .ok (.getfield idx, 3)) {v : Int32} (hv : G.1 a 23 = v) (kk : W p l e R s m args below meth c H locs cells slots Q (F0 m (pc + 3) ls (.int v :: rest))) : W p l e R s m args below meth c H locs cells slots Q (F0 m pc ls (.ref a :: rest)) := by
  subst hv
  obtain ⟨ws, i, hw, hP, hD, he, z6, z39, hr⟩ := atX11 hT ha
  exact va_get (D := E.1) (ci := 12) (v := .int (G.1 a 23)) (C := RX11) (T := TX11) (N := 52) S.1 S.2.1 S.2.2.2.2 (fun w h => List.mem_cons_of_mem _ (inX11 w h)) S.2.2.2.1 hK.1 hP i he rfl 23 (by decide) (S.2.2.2.2 _ (List.mem_cons_of_mem _ hl)) (fun _ h => h) rfl hdg (kk)
theorem pX11_23 {v : Int32} (S : CallFix p m c cc nL s args (w0 :: GT) own) (hK : XK E s) (hT : TW E K F G H) (hS : va_S (xA E) H0 H locs) (ha : K a = 13) (hl : Cond.fieldLink own idx "LateRulesModel" "wordMany" "I" ∈ GT) (hdg : decode cc pc = .ok (.putfield idx, 3)) (kk : ∀ (H1 : Heap) (locs1 : List Loc), TW E K F (dput G a 23 v) H1 → va_S (xA E) H0 H1 locs1 → W p l e R s m args below meth c H1 locs1 cells slots Q (F0 m (pc + 3) ls rest)) : W p l e R s m args below meth c H locs cells slots Q (F0 m pc ls (.int v :: .ref a :: rest)) := by
  obtain ⟨ws, i, hw, hP, hD, he, z6, z39, hr⟩ := atX11 hT ha
  exact va_put (D := E.1) (ci := 12) (v := .int v) (ty := .int) (C := RX11) (T := TX11) (N := 52) S.1 S.2.1 S.2.2.2.2 (fun w h => List.mem_cons_of_mem _ (inX11 w h)) tyX11 tyX11_ok nmX11 S.2.2.2.1 hK.1 hP hD hS i he rfl 23 (by decide) (S.2.2.2.2 _ (List.mem_cons_of_mem _ hl)) (fun _ h => h) rfl  (by decide +kernel) rfl rfl (Nat.le_of_ble_eq_true rfl) hdg (fun H1 locs1 hP1 hD1 hS1 => kk H1 locs1 ⟨_, hw.set he (by rw [ha]; decide) XGa.d (by rw [ha]; exact mkX11 (by simp [dput, up2]) (by rw [dput_nj (show (6 : Nat) ≠ 23 by decide)]; exact z6) (by rw [dput_nj (show (39 : Nat) ≠ 23 by decide)]; exact z39) hr), hP1, hD1⟩ hS1)
theorem gX11_24 (S : CallFix p m c cc nL s args (w0 :: GT) own) (hK : XK E s) (hT : TW E K F G H) (ha : K a = 13) (hl : Cond.fieldLink own idx "LateRulesModel" "ruleWord" "[C" ∈ GT) (hdg : decode cc pc = .ok (.getfield idx, 3)) (kk : K (F a 24) = 47 → F (F a 24) 99 = 24 → W p l e R s m args below meth c H locs cells slots Q (F0 m (pc + 3) ls (.ref (F a 24) :: rest))) : W p l e R s m args below meth c H locs cells slots Q (F0 m pc ls (.ref a :: rest)) := by
  obtain ⟨ws, i, hw, hP, hD, he, z6, z39, hr⟩ := atX11 hT ha
  exact va_get (D := E.1) (ci := 12) (v := .ref (F a 24)) (C := RX11) (T := TX11) (N := 52) S.1 S.2.1 S.2.2.2.2 (fun w h => List.mem_cons_of_mem _ (inX11 w h)) S.2.2.2.1 hK.1 hP i he rfl 24 (by decide) (S.2.2.2.2 _ (List.mem_cons_of_mem _ hl)) (fun _ h => h) rfl hdg (kk (fkX11_24 hT ha).1 (fkX11_24 hT ha).2)
theorem gX11_25 (S : CallFix p m c cc nL s args (w0 :: GT) own) (hK : XK E s) (hT : TW E K F G H) (ha : K a = 13) (hl : Cond.fieldLink own idx "LateRulesModel" "uniqueWord" "[C" ∈ GT) (hdg : decode cc pc = .ok (.getfield idx, 3)) (kk : K (F a 25) = 49 → F (F a 25) 99 = 25 → W p l e R s m args below meth c H locs cells slots Q (F0 m (pc + 3) ls (.ref (F a 25) :: rest))) : W p l e R s m args below meth c H locs cells slots Q (F0 m pc ls (.ref a :: rest)) := by
  obtain ⟨ws, i, hw, hP, hD, he, z6, z39, hr⟩ := atX11 hT ha
  exact va_get (D := E.1) (ci := 12) (v := .ref (F a 25)) (C := RX11) (T := TX11) (N := 52) S.1 S.2.1 S.2.2.2.2 (fun w h => List.mem_cons_of_mem _ (inX11 w h)) S.2.2.2.1 hK.1 hP i he rfl 25 (by decide) (S.2.2.2.2 _ (List.mem_cons_of_mem _ hl)) (fun _ h => h) rfl hdg (kk (fkX11_25 hT ha).1 (fkX11_25 hT ha).2)
theorem gX11_26 (S : CallFix p m c cc nL s args (w0 :: GT) own) (hK : XK E s) (hT : TW E K F G H) (ha : K a = 13) (hl : Cond.fieldLink own idx "LateRulesModel" "refersWord" "[C" ∈ GT) (hdg : decode cc pc = .ok (.getfield idx, 3)) (kk : K (F a 26) = 49 → F (F a 26) 99 = 26 → W p l e R s m args below meth c H locs cells slots Q (F0 m (pc + 3) ls (.ref (F a 26) :: rest))) : W p l e R s m args below meth c H locs cells slots Q (F0 m pc ls (.ref a :: rest)) := by
  obtain ⟨ws, i, hw, hP, hD, he, z6, z39, hr⟩ := atX11 hT ha
  exact va_get (D := E.1) (ci := 12) (v := .ref (F a 26)) (C := RX11) (T := TX11) (N := 52) S.1 S.2.1 S.2.2.2.2 (fun w h => List.mem_cons_of_mem _ (inX11 w h)) S.2.2.2.1 hK.1 hP i he rfl 26 (by decide) (S.2.2.2.2 _ (List.mem_cons_of_mem _ hl)) (fun _ h => h) rfl hdg (kk (fkX11_26 hT ha).1 (fkX11_26 hT ha).2)
theorem gX11_27 (S : CallFix p m c cc nL s args (w0 :: GT) own) (hK : XK E s) (hT : TW E K F G H) (ha : K a = 13) (hl : Cond.fieldLink own idx "LateRulesModel" "rangeWord" "[C" ∈ GT) (hdg : decode cc pc = .ok (.getfield idx, 3)) (kk : K (F a 27) = 48 → F (F a 27) 99 = 27 → W p l e R s m args below meth c H locs cells slots Q (F0 m (pc + 3) ls (.ref (F a 27) :: rest))) : W p l e R s m args below meth c H locs cells slots Q (F0 m pc ls (.ref a :: rest)) := by
  obtain ⟨ws, i, hw, hP, hD, he, z6, z39, hr⟩ := atX11 hT ha
  exact va_get (D := E.1) (ci := 12) (v := .ref (F a 27)) (C := RX11) (T := TX11) (N := 52) S.1 S.2.1 S.2.2.2.2 (fun w h => List.mem_cons_of_mem _ (inX11 w h)) S.2.2.2.1 hK.1 hP i he rfl 27 (by decide) (S.2.2.2.2 _ (List.mem_cons_of_mem _ hl)) (fun _ h => h) rfl hdg (kk (fkX11_27 hT ha).1 (fkX11_27 hT ha).2)
theorem gX11_28 (S : CallFix p m c cc nL s args (w0 :: GT) own) (hK : XK E s) (hT : TW E K F G H) (ha : K a = 13) (hl : Cond.fieldLink own idx "LateRulesModel" "sumWord" "[C" ∈ GT) (hdg : decode cc pc = .ok (.getfield idx, 3)) (kk : K (F a 28) = 46 → F (F a 28) 99 = 28 → W p l e R s m args below meth c H locs cells slots Q (F0 m (pc + 3) ls (.ref (F a 28) :: rest))) : W p l e R s m args below meth c H locs cells slots Q (F0 m pc ls (.ref a :: rest)) := by
  obtain ⟨ws, i, hw, hP, hD, he, z6, z39, hr⟩ := atX11 hT ha
  exact va_get (D := E.1) (ci := 12) (v := .ref (F a 28)) (C := RX11) (T := TX11) (N := 52) S.1 S.2.1 S.2.2.2.2 (fun w h => List.mem_cons_of_mem _ (inX11 w h)) S.2.2.2.1 hK.1 hP i he rfl 28 (by decide) (S.2.2.2.2 _ (List.mem_cons_of_mem _ hl)) (fun _ h => h) rfl hdg (kk (fkX11_28 hT ha).1 (fkX11_28 hT ha).2)
theorem gX11_29 (S : CallFix p m c cc nL s args (w0 :: GT) own) (hK : XK E s) (hT : TW E K F G H) (ha : K a = 13) (hl : Cond.fieldLink own idx "LateRulesModel" "countWord" "[C" ∈ GT) (hdg : decode cc pc = .ok (.getfield idx, 3)) (kk : K (F a 29) = 48 → F (F a 29) 99 = 29 → W p l e R s m args below meth c H locs cells slots Q (F0 m (pc + 3) ls (.ref (F a 29) :: rest))) : W p l e R s m args below meth c H locs cells slots Q (F0 m pc ls (.ref a :: rest)) := by
  obtain ⟨ws, i, hw, hP, hD, he, z6, z39, hr⟩ := atX11 hT ha
  exact va_get (D := E.1) (ci := 12) (v := .ref (F a 29)) (C := RX11) (T := TX11) (N := 52) S.1 S.2.1 S.2.2.2.2 (fun w h => List.mem_cons_of_mem _ (inX11 w h)) S.2.2.2.1 hK.1 hP i he rfl 29 (by decide) (S.2.2.2.2 _ (List.mem_cons_of_mem _ hl)) (fun _ h => h) rfl hdg (kk (fkX11_29 hT ha).1 (fkX11_29 hT ha).2)
theorem gX11_30 (S : CallFix p m c cc nL s args (w0 :: GT) own) (hK : XK E s) (hT : TW E K F G H) (ha : K a = 13) (hl : Cond.fieldLink own idx "LateRulesModel" "treeWord" "[C" ∈ GT) (hdg : decode cc pc = .ok (.getfield idx, 3)) (kk : K (F a 30) = 47 → F (F a 30) 99 = 30 → W p l e R s m args below meth c H locs cells slots Q (F0 m (pc + 3) ls (.ref (F a 30) :: rest))) : W p l e R s m args below meth c H locs cells slots Q (F0 m pc ls (.ref a :: rest)) := by
  obtain ⟨ws, i, hw, hP, hD, he, z6, z39, hr⟩ := atX11 hT ha
  exact va_get (D := E.1) (ci := 12) (v := .ref (F a 30)) (C := RX11) (T := TX11) (N := 52) S.1 S.2.1 S.2.2.2.2 (fun w h => List.mem_cons_of_mem _ (inX11 w h)) S.2.2.2.1 hK.1 hP i he rfl 30 (by decide) (S.2.2.2.2 _ (List.mem_cons_of_mem _ hl)) (fun _ h => h) rfl hdg (kk (fkX11_30 hT ha).1 (fkX11_30 hT ha).2)
theorem gX11_31 (S : CallFix p m c cc nL s args (w0 :: GT) own) (hK : XK E s) (hT : TW E K F G H) (ha : K a = 13) (hl : Cond.fieldLink own idx "LateRulesModel" "cascadeWord" "[C" ∈ GT) (hdg : decode cc pc = .ok (.getfield idx, 3)) (kk : K (F a 31) = 50 → F (F a 31) 99 = 31 → W p l e R s m args below meth c H locs cells slots Q (F0 m (pc + 3) ls (.ref (F a 31) :: rest))) : W p l e R s m args below meth c H locs cells slots Q (F0 m pc ls (.ref a :: rest)) := by
  obtain ⟨ws, i, hw, hP, hD, he, z6, z39, hr⟩ := atX11 hT ha
  exact va_get (D := E.1) (ci := 12) (v := .ref (F a 31)) (C := RX11) (T := TX11) (N := 52) S.1 S.2.1 S.2.2.2.2 (fun w h => List.mem_cons_of_mem _ (inX11 w h)) S.2.2.2.1 hK.1 hP i he rfl 31 (by decide) (S.2.2.2.2 _ (List.mem_cons_of_mem _ hl)) (fun _ h => h) rfl hdg (kk (fkX11_31 hT ha).1 (fkX11_31 hT ha).2)
theorem gX11_32 (S : CallFix p m c cc nL s args (w0 :: GT) own) (hK : XK E s) (hT : TW E K F G H) (ha : K a = 13) (hl : Cond.fieldLink own idx "LateRulesModel" "clearWord" "[C" ∈ GT) (hdg : decode cc pc = .ok (.getfield idx, 3)) (kk : K (F a 32) = 48 → F (F a 32) 99 = 32 → W p l e R s m args below meth c H locs cells slots Q (F0 m (pc + 3) ls (.ref (F a 32) :: rest))) : W p l e R s m args below meth c H locs cells slots Q (F0 m pc ls (.ref a :: rest)) := by
  obtain ⟨ws, i, hw, hP, hD, he, z6, z39, hr⟩ := atX11 hT ha
  exact va_get (D := E.1) (ci := 12) (v := .ref (F a 32)) (C := RX11) (T := TX11) (N := 52) S.1 S.2.1 S.2.2.2.2 (fun w h => List.mem_cons_of_mem _ (inX11 w h)) S.2.2.2.1 hK.1 hP i he rfl 32 (by decide) (S.2.2.2.2 _ (List.mem_cons_of_mem _ hl)) (fun _ h => h) rfl hdg (kk (fkX11_32 hT ha).1 (fkX11_32 hT ha).2)
theorem gX11_33 (S : CallFix p m c cc nL s args (w0 :: GT) own) (hK : XK E s) (hT : TW E K F G H) (ha : K a = 13) (hl : Cond.fieldLink own idx "LateRulesModel" "lateWord" "[C" ∈ GT) (hdg : decode cc pc = .ok (.getfield idx, 3)) (kk : K (F a 33) = 47 → F (F a 33) 99 = 33 → W p l e R s m args below meth c H locs cells slots Q (F0 m (pc + 3) ls (.ref (F a 33) :: rest))) : W p l e R s m args below meth c H locs cells slots Q (F0 m pc ls (.ref a :: rest)) := by
  obtain ⟨ws, i, hw, hP, hD, he, z6, z39, hr⟩ := atX11 hT ha
  exact va_get (D := E.1) (ci := 12) (v := .ref (F a 33)) (C := RX11) (T := TX11) (N := 52) S.1 S.2.1 S.2.2.2.2 (fun w h => List.mem_cons_of_mem _ (inX11 w h)) S.2.2.2.1 hK.1 hP i he rfl 33 (by decide) (S.2.2.2.2 _ (List.mem_cons_of_mem _ hl)) (fun _ h => h) rfl hdg (kk (fkX11_33 hT ha).1 (fkX11_33 hT ha).2)
theorem gX11_34 (S : CallFix p m c cc nL s args (w0 :: GT) own) (hK : XK E s) (hT : TW E K F G H) (ha : K a = 13) (hl : Cond.fieldLink own idx "LateRulesModel" "rankWord" "[C" ∈ GT) (hdg : decode cc pc = .ok (.getfield idx, 3)) (kk : K (F a 34) = 47 → F (F a 34) 99 = 34 → W p l e R s m args below meth c H locs cells slots Q (F0 m (pc + 3) ls (.ref (F a 34) :: rest))) : W p l e R s m args below meth c H locs cells slots Q (F0 m pc ls (.ref a :: rest)) := by
  obtain ⟨ws, i, hw, hP, hD, he, z6, z39, hr⟩ := atX11 hT ha
  exact va_get (D := E.1) (ci := 12) (v := .ref (F a 34)) (C := RX11) (T := TX11) (N := 52) S.1 S.2.1 S.2.2.2.2 (fun w h => List.mem_cons_of_mem _ (inX11 w h)) S.2.2.2.1 hK.1 hP i he rfl 34 (by decide) (S.2.2.2.2 _ (List.mem_cons_of_mem _ hl)) (fun _ h => h) rfl hdg (kk (fkX11_34 hT ha).1 (fkX11_34 hT ha).2)
theorem gX11_35 (S : CallFix p m c cc nL s args (w0 :: GT) own) (hK : XK E s) (hT : TW E K F G H) (ha : K a = 13) (hl : Cond.fieldLink own idx "LateRulesModel" "text" "[B" ∈ GT) (hdg : decode cc pc = .ok (.getfield idx, 3)) (kk : K (F a 35) = 51 → F (F a 35) 99 = 35 → W p l e R s m args below meth c H locs cells slots Q (F0 m (pc + 3) ls (.ref (F a 35) :: rest))) : W p l e R s m args below meth c H locs cells slots Q (F0 m pc ls (.ref a :: rest)) := by
  obtain ⟨ws, i, hw, hP, hD, he, z6, z39, hr⟩ := atX11 hT ha
  exact va_get (D := E.1) (ci := 12) (v := .ref (F a 35)) (C := RX11) (T := TX11) (N := 52) S.1 S.2.1 S.2.2.2.2 (fun w h => List.mem_cons_of_mem _ (inX11 w h)) S.2.2.2.1 hK.1 hP i he rfl 35 (by decide) (S.2.2.2.2 _ (List.mem_cons_of_mem _ hl)) (fun _ h => h) rfl hdg (kk (fkX11_35 hT ha).1 (fkX11_35 hT ha).2)
theorem gX11_36 (S : CallFix p m c cc nL s args (w0 :: GT) own) (hK : XK E s) (hT : TW E K F G H) (ha : K a = 13) (hl : Cond.fieldLink own idx "LateRulesModel" "texted" "I" ∈ GT) (hdg : decode cc pc = .ok (.getfield idx, 3)) {v : Int32} (hv : G.1 a 36 = v) (kk : W p l e R s m args below meth c H locs cells slots Q (F0 m (pc + 3) ls (.int v :: rest))) : W p l e R s m args below meth c H locs cells slots Q (F0 m pc ls (.ref a :: rest)) := by
  subst hv
  obtain ⟨ws, i, hw, hP, hD, he, z6, z39, hr⟩ := atX11 hT ha
  exact va_get (D := E.1) (ci := 12) (v := .int (G.1 a 36)) (C := RX11) (T := TX11) (N := 52) S.1 S.2.1 S.2.2.2.2 (fun w h => List.mem_cons_of_mem _ (inX11 w h)) S.2.2.2.1 hK.1 hP i he rfl 36 (by decide) (S.2.2.2.2 _ (List.mem_cons_of_mem _ hl)) (fun _ h => h) rfl hdg (kk)
theorem pX11_36 {v : Int32} (S : CallFix p m c cc nL s args (w0 :: GT) own) (hK : XK E s) (hT : TW E K F G H) (hS : va_S (xA E) H0 H locs) (ha : K a = 13) (hl : Cond.fieldLink own idx "LateRulesModel" "texted" "I" ∈ GT) (hdg : decode cc pc = .ok (.putfield idx, 3)) (kk : ∀ (H1 : Heap) (locs1 : List Loc), TW E K F (dput G a 36 v) H1 → va_S (xA E) H0 H1 locs1 → W p l e R s m args below meth c H1 locs1 cells slots Q (F0 m (pc + 3) ls rest)) : W p l e R s m args below meth c H locs cells slots Q (F0 m pc ls (.int v :: .ref a :: rest)) := by
  obtain ⟨ws, i, hw, hP, hD, he, z6, z39, hr⟩ := atX11 hT ha
  exact va_put (D := E.1) (ci := 12) (v := .int v) (ty := .int) (C := RX11) (T := TX11) (N := 52) S.1 S.2.1 S.2.2.2.2 (fun w h => List.mem_cons_of_mem _ (inX11 w h)) tyX11 tyX11_ok nmX11 S.2.2.2.1 hK.1 hP hD hS i he rfl 36 (by decide) (S.2.2.2.2 _ (List.mem_cons_of_mem _ hl)) (fun _ h => h) rfl  (by decide +kernel) rfl rfl (Nat.le_of_ble_eq_true rfl) hdg (fun H1 locs1 hP1 hD1 hS1 => kk H1 locs1 ⟨_, hw.set he (by rw [ha]; decide) XGa.d (by rw [ha]; exact mkX11 (by simp [dput, up2]) (by rw [dput_nj (show (6 : Nat) ≠ 36 by decide)]; exact z6) (by rw [dput_nj (show (39 : Nat) ≠ 36 by decide)]; exact z39) hr), hP1, hD1⟩ hS1)
theorem gX11_37 (S : CallFix p m c cc nL s args (w0 :: GT) own) (hK : XK E s) (hT : TW E K F G H) (ha : K a = 13) (hl : Cond.fieldLink own idx "LateRulesModel" "reading" "I" ∈ GT) (hdg : decode cc pc = .ok (.getfield idx, 3)) {v : Int32} (hv : G.1 a 37 = v) (kk : W p l e R s m args below meth c H locs cells slots Q (F0 m (pc + 3) ls (.int v :: rest))) : W p l e R s m args below meth c H locs cells slots Q (F0 m pc ls (.ref a :: rest)) := by
  subst hv
  obtain ⟨ws, i, hw, hP, hD, he, z6, z39, hr⟩ := atX11 hT ha
  exact va_get (D := E.1) (ci := 12) (v := .int (G.1 a 37)) (C := RX11) (T := TX11) (N := 52) S.1 S.2.1 S.2.2.2.2 (fun w h => List.mem_cons_of_mem _ (inX11 w h)) S.2.2.2.1 hK.1 hP i he rfl 37 (by decide) (S.2.2.2.2 _ (List.mem_cons_of_mem _ hl)) (fun _ h => h) rfl hdg (kk)
theorem pX11_37 {v : Int32} (S : CallFix p m c cc nL s args (w0 :: GT) own) (hK : XK E s) (hT : TW E K F G H) (hS : va_S (xA E) H0 H locs) (ha : K a = 13) (hl : Cond.fieldLink own idx "LateRulesModel" "reading" "I" ∈ GT) (hdg : decode cc pc = .ok (.putfield idx, 3)) (kk : ∀ (H1 : Heap) (locs1 : List Loc), TW E K F (dput G a 37 v) H1 → va_S (xA E) H0 H1 locs1 → W p l e R s m args below meth c H1 locs1 cells slots Q (F0 m (pc + 3) ls rest)) : W p l e R s m args below meth c H locs cells slots Q (F0 m pc ls (.int v :: .ref a :: rest)) := by
  obtain ⟨ws, i, hw, hP, hD, he, z6, z39, hr⟩ := atX11 hT ha
  exact va_put (D := E.1) (ci := 12) (v := .int v) (ty := .int) (C := RX11) (T := TX11) (N := 52) S.1 S.2.1 S.2.2.2.2 (fun w h => List.mem_cons_of_mem _ (inX11 w h)) tyX11 tyX11_ok nmX11 S.2.2.2.1 hK.1 hP hD hS i he rfl 37 (by decide) (S.2.2.2.2 _ (List.mem_cons_of_mem _ hl)) (fun _ h => h) rfl  (by decide +kernel) rfl rfl (Nat.le_of_ble_eq_true rfl) hdg (fun H1 locs1 hP1 hD1 hS1 => kk H1 locs1 ⟨_, hw.set he (by rw [ha]; decide) XGa.d (by rw [ha]; exact mkX11 (by simp [dput, up2]) (by rw [dput_nj (show (6 : Nat) ≠ 37 by decide)]; exact z6) (by rw [dput_nj (show (39 : Nat) ≠ 37 by decide)]; exact z39) hr), hP1, hD1⟩ hS1)
theorem gX11_38 (S : CallFix p m c cc nL s args (w0 :: GT) own) (hK : XK E s) (hT : TW E K F G H) (ha : K a = 13) (hl : Cond.fieldLink own idx "LateRulesModel" "place" "I" ∈ GT) (hdg : decode cc pc = .ok (.getfield idx, 3)) {v : Int32} (hv : G.1 a 38 = v) (kk : W p l e R s m args below meth c H locs cells slots Q (F0 m (pc + 3) ls (.int v :: rest))) : W p l e R s m args below meth c H locs cells slots Q (F0 m pc ls (.ref a :: rest)) := by
  subst hv
  obtain ⟨ws, i, hw, hP, hD, he, z6, z39, hr⟩ := atX11 hT ha
  exact va_get (D := E.1) (ci := 12) (v := .int (G.1 a 38)) (C := RX11) (T := TX11) (N := 52) S.1 S.2.1 S.2.2.2.2 (fun w h => List.mem_cons_of_mem _ (inX11 w h)) S.2.2.2.1 hK.1 hP i he rfl 38 (by decide) (S.2.2.2.2 _ (List.mem_cons_of_mem _ hl)) (fun _ h => h) rfl hdg (kk)
theorem pX11_38 {v : Int32} (S : CallFix p m c cc nL s args (w0 :: GT) own) (hK : XK E s) (hT : TW E K F G H) (hS : va_S (xA E) H0 H locs) (ha : K a = 13) (hl : Cond.fieldLink own idx "LateRulesModel" "place" "I" ∈ GT) (hdg : decode cc pc = .ok (.putfield idx, 3)) (kk : ∀ (H1 : Heap) (locs1 : List Loc), TW E K F (dput G a 38 v) H1 → va_S (xA E) H0 H1 locs1 → W p l e R s m args below meth c H1 locs1 cells slots Q (F0 m (pc + 3) ls rest)) : W p l e R s m args below meth c H locs cells slots Q (F0 m pc ls (.int v :: .ref a :: rest)) := by
  obtain ⟨ws, i, hw, hP, hD, he, z6, z39, hr⟩ := atX11 hT ha
  exact va_put (D := E.1) (ci := 12) (v := .int v) (ty := .int) (C := RX11) (T := TX11) (N := 52) S.1 S.2.1 S.2.2.2.2 (fun w h => List.mem_cons_of_mem _ (inX11 w h)) tyX11 tyX11_ok nmX11 S.2.2.2.1 hK.1 hP hD hS i he rfl 38 (by decide) (S.2.2.2.2 _ (List.mem_cons_of_mem _ hl)) (fun _ h => h) rfl  (by decide +kernel) rfl rfl (Nat.le_of_ble_eq_true rfl) hdg (fun H1 locs1 hP1 hD1 hS1 => kk H1 locs1 ⟨_, hw.set he (by rw [ha]; decide) XGa.d (by rw [ha]; exact mkX11 (by simp [dput, up2]) (by rw [dput_nj (show (6 : Nat) ≠ 38 by decide)]; exact z6) (by rw [dput_nj (show (39 : Nat) ≠ 38 by decide)]; exact z39) hr), hP1, hD1⟩ hS1)
theorem gX11_39 (S : CallFix p m c cc nL s args (w0 :: GT) own) (hK : XK E s) (hT : TW E K F G H) (ha : K a = 13) (hl : Cond.fieldLink own idx "LateRulesModel" "isGood" "Z" ∈ GT) (hdg : decode cc pc = .ok (.getfield idx, 3)) {v : Int32} (hv : G.1 a 39 = v) (kk : (v = 0 ∨ v = 1) → W p l e R s m args below meth c H locs cells slots Q (F0 m (pc + 3) ls (.int v :: rest))) : W p l e R s m args below meth c H locs cells slots Q (F0 m pc ls (.ref a :: rest)) := by
  subst hv
  obtain ⟨ws, i, hw, hP, hD, he, z6, z39, hr⟩ := atX11 hT ha
  exact va_get (D := E.1) (ci := 12) (v := .int (G.1 a 39)) (C := RX11) (T := TX11) (N := 52) S.1 S.2.1 S.2.2.2.2 (fun w h => List.mem_cons_of_mem _ (inX11 w h)) S.2.2.2.1 hK.1 hP i he rfl 39 (by decide) (S.2.2.2.2 _ (List.mem_cons_of_mem _ hl)) (fun _ h => h) rfl hdg (kk z39)
theorem pX11_39 {v : Int32} (S : CallFix p m c cc nL s args (w0 :: GT) own) (hK : XK E s) (hT : TW E K F G H) (hS : va_S (xA E) H0 H locs) (ha : K a = 13) (hl : Cond.fieldLink own idx "LateRulesModel" "isGood" "Z" ∈ GT) (hv : v = 0 ∨ v = 1) (hdg : decode cc pc = .ok (.putfield idx, 3)) (kk : ∀ (H1 : Heap) (locs1 : List Loc), TW E K F (dput G a 39 v) H1 → va_S (xA E) H0 H1 locs1 → W p l e R s m args below meth c H1 locs1 cells slots Q (F0 m (pc + 3) ls rest)) : W p l e R s m args below meth c H locs cells slots Q (F0 m pc ls (.int v :: .ref a :: rest)) := by
  obtain ⟨ws, i, hw, hP, hD, he, z6, z39, hr⟩ := atX11 hT ha
  exact va_put (D := E.1) (ci := 12) (v := .int v) (ty := .boolean) (C := RX11) (T := TX11) (N := 52) S.1 S.2.1 S.2.2.2.2 (fun w h => List.mem_cons_of_mem _ (inX11 w h)) tyX11 tyX11_ok nmX11 S.2.2.2.1 hK.1 hP hD hS i he rfl 39 (by decide) (S.2.2.2.2 _ (List.mem_cons_of_mem _ hl)) (fun _ h => h) rfl  (by decide +kernel) (by rcases hv with h | h <;> subst h <;> rfl) (by rcases hv with h | h <;> subst h <;> rfl) (Nat.le_of_ble_eq_true rfl) hdg (fun H1 locs1 hP1 hD1 hS1 => kk H1 locs1 ⟨_, hw.set he (by rw [ha]; decide) XGa.d (by rw [ha]; exact mkX11 (by simp [dput, up2]) (by rw [dput_nj (show (6 : Nat) ≠ 39 by decide)]; exact z6) (by rw [dput_at]; exact hv) hr), hP1, hD1⟩ hS1)
theorem gX11_40 (S : CallFix p m c cc nL s args (w0 :: GT) own) (hK : XK E s) (hT : TW E K F G H) (ha : K a = 13) (hl : Cond.fieldLink own idx "LateRulesModel" "draft" "[I" ∈ GT) (hdg : decode cc pc = .ok (.getfield idx, 3)) (kk : K (F a 40) = 52 → F (F a 40) 99 = 40 → W p l e R s m args below meth c H locs cells slots Q (F0 m (pc + 3) ls (.ref (F a 40) :: rest))) : W p l e R s m args below meth c H locs cells slots Q (F0 m pc ls (.ref a :: rest)) := by
  obtain ⟨ws, i, hw, hP, hD, he, z6, z39, hr⟩ := atX11 hT ha
  exact va_get (D := E.1) (ci := 12) (v := .ref (F a 40)) (C := RX11) (T := TX11) (N := 52) S.1 S.2.1 S.2.2.2.2 (fun w h => List.mem_cons_of_mem _ (inX11 w h)) S.2.2.2.1 hK.1 hP i he rfl 40 (by decide) (S.2.2.2.2 _ (List.mem_cons_of_mem _ hl)) (fun _ h => h) rfl hdg (kk (fkX11_40 hT ha).1 (fkX11_40 hT ha).2)
theorem gX11_41 (S : CallFix p m c cc nL s args (w0 :: GT) own) (hK : XK E s) (hT : TW E K F G H) (ha : K a = 13) (hl : Cond.fieldLink own idx "LateRulesModel" "askedRule" "[I" ∈ GT) (hdg : decode cc pc = .ok (.getfield idx, 3)) (kk : K (F a 41) = 53 → F (F a 41) 99 = 41 → W p l e R s m args below meth c H locs cells slots Q (F0 m (pc + 3) ls (.ref (F a 41) :: rest))) : W p l e R s m args below meth c H locs cells slots Q (F0 m pc ls (.ref a :: rest)) := by
  obtain ⟨ws, i, hw, hP, hD, he, z6, z39, hr⟩ := atX11 hT ha
  exact va_get (D := E.1) (ci := 12) (v := .ref (F a 41)) (C := RX11) (T := TX11) (N := 52) S.1 S.2.1 S.2.2.2.2 (fun w h => List.mem_cons_of_mem _ (inX11 w h)) S.2.2.2.1 hK.1 hP i he rfl 41 (by decide) (S.2.2.2.2 _ (List.mem_cons_of_mem _ hl)) (fun _ h => h) rfl hdg (kk (fkX11_41 hT ha).1 (fkX11_41 hT ha).2)
theorem gX11_42 (S : CallFix p m c cc nL s args (w0 :: GT) own) (hK : XK E s) (hT : TW E K F G H) (ha : K a = 13) (hl : Cond.fieldLink own idx "LateRulesModel" "askedSubject" "[I" ∈ GT) (hdg : decode cc pc = .ok (.getfield idx, 3)) (kk : K (F a 42) = 54 → F (F a 42) 99 = 42 → W p l e R s m args below meth c H locs cells slots Q (F0 m (pc + 3) ls (.ref (F a 42) :: rest))) : W p l e R s m args below meth c H locs cells slots Q (F0 m pc ls (.ref a :: rest)) := by
  obtain ⟨ws, i, hw, hP, hD, he, z6, z39, hr⟩ := atX11 hT ha
  exact va_get (D := E.1) (ci := 12) (v := .ref (F a 42)) (C := RX11) (T := TX11) (N := 52) S.1 S.2.1 S.2.2.2.2 (fun w h => List.mem_cons_of_mem _ (inX11 w h)) S.2.2.2.1 hK.1 hP i he rfl 42 (by decide) (S.2.2.2.2 _ (List.mem_cons_of_mem _ hl)) (fun _ h => h) rfl hdg (kk (fkX11_42 hT ha).1 (fkX11_42 hT ha).2)
theorem gX11_43 (S : CallFix p m c cc nL s args (w0 :: GT) own) (hK : XK E s) (hT : TW E K F G H) (ha : K a = 13) (hl : Cond.fieldLink own idx "LateRulesModel" "askedMany" "I" ∈ GT) (hdg : decode cc pc = .ok (.getfield idx, 3)) {v : Int32} (hv : G.1 a 43 = v) (kk : W p l e R s m args below meth c H locs cells slots Q (F0 m (pc + 3) ls (.int v :: rest))) : W p l e R s m args below meth c H locs cells slots Q (F0 m pc ls (.ref a :: rest)) := by
  subst hv
  obtain ⟨ws, i, hw, hP, hD, he, z6, z39, hr⟩ := atX11 hT ha
  exact va_get (D := E.1) (ci := 12) (v := .int (G.1 a 43)) (C := RX11) (T := TX11) (N := 52) S.1 S.2.1 S.2.2.2.2 (fun w h => List.mem_cons_of_mem _ (inX11 w h)) S.2.2.2.1 hK.1 hP i he rfl 43 (by decide) (S.2.2.2.2 _ (List.mem_cons_of_mem _ hl)) (fun _ h => h) rfl hdg (kk)
theorem pX11_43 {v : Int32} (S : CallFix p m c cc nL s args (w0 :: GT) own) (hK : XK E s) (hT : TW E K F G H) (hS : va_S (xA E) H0 H locs) (ha : K a = 13) (hl : Cond.fieldLink own idx "LateRulesModel" "askedMany" "I" ∈ GT) (hdg : decode cc pc = .ok (.putfield idx, 3)) (kk : ∀ (H1 : Heap) (locs1 : List Loc), TW E K F (dput G a 43 v) H1 → va_S (xA E) H0 H1 locs1 → W p l e R s m args below meth c H1 locs1 cells slots Q (F0 m (pc + 3) ls rest)) : W p l e R s m args below meth c H locs cells slots Q (F0 m pc ls (.int v :: .ref a :: rest)) := by
  obtain ⟨ws, i, hw, hP, hD, he, z6, z39, hr⟩ := atX11 hT ha
  exact va_put (D := E.1) (ci := 12) (v := .int v) (ty := .int) (C := RX11) (T := TX11) (N := 52) S.1 S.2.1 S.2.2.2.2 (fun w h => List.mem_cons_of_mem _ (inX11 w h)) tyX11 tyX11_ok nmX11 S.2.2.2.1 hK.1 hP hD hS i he rfl 43 (by decide) (S.2.2.2.2 _ (List.mem_cons_of_mem _ hl)) (fun _ h => h) rfl  (by decide +kernel) rfl rfl (Nat.le_of_ble_eq_true rfl) hdg (fun H1 locs1 hP1 hD1 hS1 => kk H1 locs1 ⟨_, hw.set he (by rw [ha]; decide) XGa.d (by rw [ha]; exact mkX11 (by simp [dput, up2]) (by rw [dput_nj (show (6 : Nat) ≠ 43 by decide)]; exact z6) (by rw [dput_nj (show (39 : Nat) ≠ 43 by decide)]; exact z39) hr), hP1, hD1⟩ hS1)
theorem gX11_44 (S : CallFix p m c cc nL s args (w0 :: GT) own) (hK : XK E s) (hT : TW E K F G H) (ha : K a = 13) (hl : Cond.fieldLink own idx "LateRulesModel" "askedFailed" "I" ∈ GT) (hdg : decode cc pc = .ok (.getfield idx, 3)) {v : Int32} (hv : G.1 a 44 = v) (kk : W p l e R s m args below meth c H locs cells slots Q (F0 m (pc + 3) ls (.int v :: rest))) : W p l e R s m args below meth c H locs cells slots Q (F0 m pc ls (.ref a :: rest)) := by
  subst hv
  obtain ⟨ws, i, hw, hP, hD, he, z6, z39, hr⟩ := atX11 hT ha
  exact va_get (D := E.1) (ci := 12) (v := .int (G.1 a 44)) (C := RX11) (T := TX11) (N := 52) S.1 S.2.1 S.2.2.2.2 (fun w h => List.mem_cons_of_mem _ (inX11 w h)) S.2.2.2.1 hK.1 hP i he rfl 44 (by decide) (S.2.2.2.2 _ (List.mem_cons_of_mem _ hl)) (fun _ h => h) rfl hdg (kk)
theorem pX11_44 {v : Int32} (S : CallFix p m c cc nL s args (w0 :: GT) own) (hK : XK E s) (hT : TW E K F G H) (hS : va_S (xA E) H0 H locs) (ha : K a = 13) (hl : Cond.fieldLink own idx "LateRulesModel" "askedFailed" "I" ∈ GT) (hdg : decode cc pc = .ok (.putfield idx, 3)) (kk : ∀ (H1 : Heap) (locs1 : List Loc), TW E K F (dput G a 44 v) H1 → va_S (xA E) H0 H1 locs1 → W p l e R s m args below meth c H1 locs1 cells slots Q (F0 m (pc + 3) ls rest)) : W p l e R s m args below meth c H locs cells slots Q (F0 m pc ls (.int v :: .ref a :: rest)) := by
  obtain ⟨ws, i, hw, hP, hD, he, z6, z39, hr⟩ := atX11 hT ha
  exact va_put (D := E.1) (ci := 12) (v := .int v) (ty := .int) (C := RX11) (T := TX11) (N := 52) S.1 S.2.1 S.2.2.2.2 (fun w h => List.mem_cons_of_mem _ (inX11 w h)) tyX11 tyX11_ok nmX11 S.2.2.2.1 hK.1 hP hD hS i he rfl 44 (by decide) (S.2.2.2.2 _ (List.mem_cons_of_mem _ hl)) (fun _ h => h) rfl  (by decide +kernel) rfl rfl (Nat.le_of_ble_eq_true rfl) hdg (fun H1 locs1 hP1 hD1 hS1 => kk H1 locs1 ⟨_, hw.set he (by rw [ha]; decide) XGa.d (by rw [ha]; exact mkX11 (by simp [dput, up2]) (by rw [dput_nj (show (6 : Nat) ≠ 44 by decide)]; exact z6) (by rw [dput_nj (show (39 : Nat) ≠ 44 by decide)]; exact z39) hr), hP1, hD1⟩ hS1)
theorem gX11_45 (S : CallFix p m c cc nL s args (w0 :: GT) own) (hK : XK E s) (hT : TW E K F G H) (ha : K a = 13) (hl : Cond.fieldLink own idx "LateRulesModel" "touched" "I" ∈ GT) (hdg : decode cc pc = .ok (.getfield idx, 3)) {v : Int32} (hv : G.1 a 45 = v) (kk : W p l e R s m args below meth c H locs cells slots Q (F0 m (pc + 3) ls (.int v :: rest))) : W p l e R s m args below meth c H locs cells slots Q (F0 m pc ls (.ref a :: rest)) := by
  subst hv
  obtain ⟨ws, i, hw, hP, hD, he, z6, z39, hr⟩ := atX11 hT ha
  exact va_get (D := E.1) (ci := 12) (v := .int (G.1 a 45)) (C := RX11) (T := TX11) (N := 52) S.1 S.2.1 S.2.2.2.2 (fun w h => List.mem_cons_of_mem _ (inX11 w h)) S.2.2.2.1 hK.1 hP i he rfl 45 (by decide) (S.2.2.2.2 _ (List.mem_cons_of_mem _ hl)) (fun _ h => h) rfl hdg (kk)
theorem pX11_45 {v : Int32} (S : CallFix p m c cc nL s args (w0 :: GT) own) (hK : XK E s) (hT : TW E K F G H) (hS : va_S (xA E) H0 H locs) (ha : K a = 13) (hl : Cond.fieldLink own idx "LateRulesModel" "touched" "I" ∈ GT) (hdg : decode cc pc = .ok (.putfield idx, 3)) (kk : ∀ (H1 : Heap) (locs1 : List Loc), TW E K F (dput G a 45 v) H1 → va_S (xA E) H0 H1 locs1 → W p l e R s m args below meth c H1 locs1 cells slots Q (F0 m (pc + 3) ls rest)) : W p l e R s m args below meth c H locs cells slots Q (F0 m pc ls (.int v :: .ref a :: rest)) := by
  obtain ⟨ws, i, hw, hP, hD, he, z6, z39, hr⟩ := atX11 hT ha
  exact va_put (D := E.1) (ci := 12) (v := .int v) (ty := .int) (C := RX11) (T := TX11) (N := 52) S.1 S.2.1 S.2.2.2.2 (fun w h => List.mem_cons_of_mem _ (inX11 w h)) tyX11 tyX11_ok nmX11 S.2.2.2.1 hK.1 hP hD hS i he rfl 45 (by decide) (S.2.2.2.2 _ (List.mem_cons_of_mem _ hl)) (fun _ h => h) rfl  (by decide +kernel) rfl rfl (Nat.le_of_ble_eq_true rfl) hdg (fun H1 locs1 hP1 hD1 hS1 => kk H1 locs1 ⟨_, hw.set he (by rw [ha]; decide) XGa.d (by rw [ha]; exact mkX11 (by simp [dput, up2]) (by rw [dput_nj (show (6 : Nat) ≠ 45 by decide)]; exact z6) (by rw [dput_nj (show (39 : Nat) ≠ 45 by decide)]; exact z39) hr), hP1, hD1⟩ hS1)
theorem gX11_46 (S : CallFix p m c cc nL s args (w0 :: GT) own) (hK : XK E s) (hT : TW E K F G H) (ha : K a = 13) (hl : Cond.fieldLink own idx "LateRulesModel" "failing" "I" ∈ GT) (hdg : decode cc pc = .ok (.getfield idx, 3)) {v : Int32} (hv : G.1 a 46 = v) (kk : W p l e R s m args below meth c H locs cells slots Q (F0 m (pc + 3) ls (.int v :: rest))) : W p l e R s m args below meth c H locs cells slots Q (F0 m pc ls (.ref a :: rest)) := by
  subst hv
  obtain ⟨ws, i, hw, hP, hD, he, z6, z39, hr⟩ := atX11 hT ha
  exact va_get (D := E.1) (ci := 12) (v := .int (G.1 a 46)) (C := RX11) (T := TX11) (N := 52) S.1 S.2.1 S.2.2.2.2 (fun w h => List.mem_cons_of_mem _ (inX11 w h)) S.2.2.2.1 hK.1 hP i he rfl 46 (by decide) (S.2.2.2.2 _ (List.mem_cons_of_mem _ hl)) (fun _ h => h) rfl hdg (kk)
theorem pX11_46 {v : Int32} (S : CallFix p m c cc nL s args (w0 :: GT) own) (hK : XK E s) (hT : TW E K F G H) (hS : va_S (xA E) H0 H locs) (ha : K a = 13) (hl : Cond.fieldLink own idx "LateRulesModel" "failing" "I" ∈ GT) (hdg : decode cc pc = .ok (.putfield idx, 3)) (kk : ∀ (H1 : Heap) (locs1 : List Loc), TW E K F (dput G a 46 v) H1 → va_S (xA E) H0 H1 locs1 → W p l e R s m args below meth c H1 locs1 cells slots Q (F0 m (pc + 3) ls rest)) : W p l e R s m args below meth c H locs cells slots Q (F0 m pc ls (.int v :: .ref a :: rest)) := by
  obtain ⟨ws, i, hw, hP, hD, he, z6, z39, hr⟩ := atX11 hT ha
  exact va_put (D := E.1) (ci := 12) (v := .int v) (ty := .int) (C := RX11) (T := TX11) (N := 52) S.1 S.2.1 S.2.2.2.2 (fun w h => List.mem_cons_of_mem _ (inX11 w h)) tyX11 tyX11_ok nmX11 S.2.2.2.1 hK.1 hP hD hS i he rfl 46 (by decide) (S.2.2.2.2 _ (List.mem_cons_of_mem _ hl)) (fun _ h => h) rfl  (by decide +kernel) rfl rfl (Nat.le_of_ble_eq_true rfl) hdg (fun H1 locs1 hP1 hD1 hS1 => kk H1 locs1 ⟨_, hw.set he (by rw [ha]; decide) XGa.d (by rw [ha]; exact mkX11 (by simp [dput, up2]) (by rw [dput_nj (show (6 : Nat) ≠ 46 by decide)]; exact z6) (by rw [dput_nj (show (39 : Nat) ≠ 46 by decide)]; exact z39) hr), hP1, hD1⟩ hS1)
theorem gX11_47 (S : CallFix p m c cc nL s args (w0 :: GT) own) (hK : XK E s) (hT : TW E K F G H) (ha : K a = 13) (hl : Cond.fieldLink own idx "LateRulesModel" "goTable" "[I" ∈ GT) (hdg : decode cc pc = .ok (.getfield idx, 3)) (kk : K (F a 47) = 55 → F (F a 47) 99 = 47 → W p l e R s m args below meth c H locs cells slots Q (F0 m (pc + 3) ls (.ref (F a 47) :: rest))) : W p l e R s m args below meth c H locs cells slots Q (F0 m pc ls (.ref a :: rest)) := by
  obtain ⟨ws, i, hw, hP, hD, he, z6, z39, hr⟩ := atX11 hT ha
  exact va_get (D := E.1) (ci := 12) (v := .ref (F a 47)) (C := RX11) (T := TX11) (N := 52) S.1 S.2.1 S.2.2.2.2 (fun w h => List.mem_cons_of_mem _ (inX11 w h)) S.2.2.2.1 hK.1 hP i he rfl 47 (by decide) (S.2.2.2.2 _ (List.mem_cons_of_mem _ hl)) (fun _ h => h) rfl hdg (kk (fkX11_47 hT ha).1 (fkX11_47 hT ha).2)
theorem gX11_48 (S : CallFix p m c cc nL s args (w0 :: GT) own) (hK : XK E s) (hT : TW E K F G H) (ha : K a = 13) (hl : Cond.fieldLink own idx "LateRulesModel" "goKey" "[I" ∈ GT) (hdg : decode cc pc = .ok (.getfield idx, 3)) (kk : K (F a 48) = 56 → F (F a 48) 99 = 48 → W p l e R s m args below meth c H locs cells slots Q (F0 m (pc + 3) ls (.ref (F a 48) :: rest))) : W p l e R s m args below meth c H locs cells slots Q (F0 m pc ls (.ref a :: rest)) := by
  obtain ⟨ws, i, hw, hP, hD, he, z6, z39, hr⟩ := atX11 hT ha
  exact va_get (D := E.1) (ci := 12) (v := .ref (F a 48)) (C := RX11) (T := TX11) (N := 52) S.1 S.2.1 S.2.2.2.2 (fun w h => List.mem_cons_of_mem _ (inX11 w h)) S.2.2.2.1 hK.1 hP i he rfl 48 (by decide) (S.2.2.2.2 _ (List.mem_cons_of_mem _ hl)) (fun _ h => h) rfl hdg (kk (fkX11_48 hT ha).1 (fkX11_48 hT ha).2)
theorem gX11_49 (S : CallFix p m c cc nL s args (w0 :: GT) own) (hK : XK E s) (hT : TW E K F G H) (ha : K a = 13) (hl : Cond.fieldLink own idx "LateRulesModel" "goRule" "[I" ∈ GT) (hdg : decode cc pc = .ok (.getfield idx, 3)) (kk : K (F a 49) = 57 → F (F a 49) 99 = 49 → W p l e R s m args below meth c H locs cells slots Q (F0 m (pc + 3) ls (.ref (F a 49) :: rest))) : W p l e R s m args below meth c H locs cells slots Q (F0 m pc ls (.ref a :: rest)) := by
  obtain ⟨ws, i, hw, hP, hD, he, z6, z39, hr⟩ := atX11 hT ha
  exact va_get (D := E.1) (ci := 12) (v := .ref (F a 49)) (C := RX11) (T := TX11) (N := 52) S.1 S.2.1 S.2.2.2.2 (fun w h => List.mem_cons_of_mem _ (inX11 w h)) S.2.2.2.1 hK.1 hP i he rfl 49 (by decide) (S.2.2.2.2 _ (List.mem_cons_of_mem _ hl)) (fun _ h => h) rfl hdg (kk (fkX11_49 hT ha).1 (fkX11_49 hT ha).2)
theorem gX11_50 (S : CallFix p m c cc nL s args (w0 :: GT) own) (hK : XK E s) (hT : TW E K F G H) (ha : K a = 13) (hl : Cond.fieldLink own idx "LateRulesModel" "goNext" "[I" ∈ GT) (hdg : decode cc pc = .ok (.getfield idx, 3)) (kk : K (F a 50) = 58 → F (F a 50) 99 = 50 → W p l e R s m args below meth c H locs cells slots Q (F0 m (pc + 3) ls (.ref (F a 50) :: rest))) : W p l e R s m args below meth c H locs cells slots Q (F0 m pc ls (.ref a :: rest)) := by
  obtain ⟨ws, i, hw, hP, hD, he, z6, z39, hr⟩ := atX11 hT ha
  exact va_get (D := E.1) (ci := 12) (v := .ref (F a 50)) (C := RX11) (T := TX11) (N := 52) S.1 S.2.1 S.2.2.2.2 (fun w h => List.mem_cons_of_mem _ (inX11 w h)) S.2.2.2.1 hK.1 hP i he rfl 50 (by decide) (S.2.2.2.2 _ (List.mem_cons_of_mem _ hl)) (fun _ h => h) rfl hdg (kk (fkX11_50 hT ha).1 (fkX11_50 hT ha).2)
theorem gX11_51 (S : CallFix p m c cc nL s args (w0 :: GT) own) (hK : XK E s) (hT : TW E K F G H) (ha : K a = 13) (hl : Cond.fieldLink own idx "LateRulesModel" "leaning" "[Z" ∈ GT) (hdg : decode cc pc = .ok (.getfield idx, 3)) (kk : K (F a 51) = 59 → F (F a 51) 99 = 51 → W p l e R s m args below meth c H locs cells slots Q (F0 m (pc + 3) ls (.ref (F a 51) :: rest))) : W p l e R s m args below meth c H locs cells slots Q (F0 m pc ls (.ref a :: rest)) := by
  obtain ⟨ws, i, hw, hP, hD, he, z6, z39, hr⟩ := atX11 hT ha
  exact va_get (D := E.1) (ci := 12) (v := .ref (F a 51)) (C := RX11) (T := TX11) (N := 52) S.1 S.2.1 S.2.2.2.2 (fun w h => List.mem_cons_of_mem _ (inX11 w h)) S.2.2.2.1 hK.1 hP i he rfl 51 (by decide) (S.2.2.2.2 _ (List.mem_cons_of_mem _ hl)) (fun _ h => h) rfl hdg (kk (fkX11_51 hT ha).1 (fkX11_51 hT ha).2)
end XR
end
section
section XR
variable {p : Program} {l : Launch} {e : Env} {R : Room} {s : State} {m : MethodId} {args : Array Value} {below : List Frame} {meth : Method} {c : Code} {H : Heap} {locs : List Loc} {cells slots : Nat} {Q : State → Prop}
variable {pc : Nat} {ls : Array Slot} {rest : List Value} {H0 : Heap} {E : XE} {cc : ByteArray} {nL : Nat} {own : String} {w0 : Cond} {K : Nat → Nat} {F : Nat → Nat → Nat} {G : XG} {a idx : Nat}
theorem aI_upd {f : Nat → Int32} {i x : Int32} (hi : 0 ≤ i.toInt) : ∀ z : Int, 0 ≤ z → aI (upd f i.toNatClampNeg x) z = if z = i.toInt then x.toInt else aI f z := by
  intro z hz
  have h : i.toNatClampNeg = i.toInt.toNat := rfl
  unfold aI upd
  rw [h]
  by_cases e : z = i.toInt
  · rw [if_pos e, if_pos (by rw [e])]
  · rw [if_neg e, if_neg (by omega)]
theorem al_0 {k n : Nat} (S : CallFix p m c cc nL s args (w0 :: GT) own) (hK : XK E s) (hT : TW E K F G H) (ha : K a = k) (hk : ∀ e, SHQ E K F G a k e → e = .inl (E.2.1 0, n, .inl (G.2.1 a)) ∧ ∀ i, xok 0 (G.2.1 a i)) (hk0 : k ≠ 0) {i : Int32} (hin : 0 ≤ i.toInt ∧ i.toInt < n) (hdg : decode cc pc = .ok (.iaload, 1)) (kk : ∀ v : Int32, v.toInt = aI (G.2.1 a) i.toInt → xok 0 v → W p l e R s m args below meth c H locs cells slots Q (F0 m (pc + 1) ls (.int v :: rest))) : W p l e R s m args below meth c H locs cells slots Q (F0 m pc ls (.int i :: .ref a :: rest)) := by
  obtain ⟨ws, i9, e9, hw, hP, hD, he, hs⟩ := hT.at ha hk0
  obtain ⟨rfl, ho⟩ := hk _ hs
  exact va_iald S.1 S.2.1 hK.1 hP i9 0 he rfl (vp_in_iff.mpr hin) hdg (kk _ rfl (ho _))
theorem al_1 {k n : Nat} (S : CallFix p m c cc nL s args (w0 :: GT) own) (hK : XK E s) (hT : TW E K F G H) (ha : K a = k) (hk : ∀ e, SHQ E K F G a k e → e = .inl (E.2.1 1, n, .inl (G.2.1 a)) ∧ ∀ i, xok 1 (G.2.1 a i)) (hk0 : k ≠ 0) {i : Int32} (hin : 0 ≤ i.toInt ∧ i.toInt < n) (hdg : decode cc pc = .ok (.caload, 1)) (kk : ∀ v : Int32, v.toInt = aI (G.2.1 a) i.toInt → xok 1 v → W p l e R s m args below meth c H locs cells slots Q (F0 m (pc + 1) ls (.int v :: rest))) : W p l e R s m args below meth c H locs cells slots Q (F0 m pc ls (.int i :: .ref a :: rest)) := by
  obtain ⟨ws, i9, e9, hw, hP, hD, he, hs⟩ := hT.at ha hk0
  obtain ⟨rfl, ho⟩ := hk _ hs
  exact va_cald S.1 S.2.1 hK.1 hP i9 1 he rfl (vp_in_iff.mpr hin) hdg (kk _ rfl (ho _))
theorem al_2 {k n : Nat} (S : CallFix p m c cc nL s args (w0 :: GT) own) (hK : XK E s) (hT : TW E K F G H) (ha : K a = k) (hk : ∀ e, SHQ E K F G a k e → e = .inl (E.2.1 2, n, .inl (G.2.1 a)) ∧ ∀ i, xok 2 (G.2.1 a i)) (hk0 : k ≠ 0) {i : Int32} (hin : 0 ≤ i.toInt ∧ i.toInt < n) (hdg : decode cc pc = .ok (.baload, 1)) (kk : ∀ v : Int32, v.toInt = aI (G.2.1 a) i.toInt → xok 2 v → W p l e R s m args below meth c H locs cells slots Q (F0 m (pc + 1) ls (.int v :: rest))) : W p l e R s m args below meth c H locs cells slots Q (F0 m pc ls (.int i :: .ref a :: rest)) := by
  obtain ⟨ws, i9, e9, hw, hP, hD, he, hs⟩ := hT.at ha hk0
  obtain ⟨rfl, ho⟩ := hk _ hs
  exact va_bald S.1 S.2.1 hK.1 hP i9 2 he rfl (vp_in_iff.mpr hin) hdg (kk _ rfl (ho _))
theorem al_3 {k n : Nat} (S : CallFix p m c cc nL s args (w0 :: GT) own) (hK : XK E s) (hT : TW E K F G H) (ha : K a = k) (hk : ∀ e, SHQ E K F G a k e → e = .inl (E.2.1 3, n, .inl (G.2.1 a)) ∧ ∀ i, xok 3 (G.2.1 a i)) (hk0 : k ≠ 0) {i : Int32} (hin : 0 ≤ i.toInt ∧ i.toInt < n) (hdg : decode cc pc = .ok (.baload, 1)) (kk : ∀ v : Int32, v.toInt = aI (G.2.1 a) i.toInt → xok 3 v → W p l e R s m args below meth c H locs cells slots Q (F0 m (pc + 1) ls (.int v :: rest))) : W p l e R s m args below meth c H locs cells slots Q (F0 m pc ls (.int i :: .ref a :: rest)) := by
  obtain ⟨ws, i9, e9, hw, hP, hD, he, hs⟩ := hT.at ha hk0
  obtain ⟨rfl, ho⟩ := hk _ hs
  exact va_zald S.1 S.2.1 hK.1 hP i9 3 he rfl (vp_in_iff.mpr hin) hdg (kk _ rfl (ho _))
set_option maxRecDepth 100000 in
theorem as_0 {k n : Nat} (S : CallFix p m c cc nL s args (w0 :: GT) own) (hK : XK E s) (hT : TW E K F G H) (hS : va_S (xA E) H0 H locs) (ha : K a = k) (hk : ∀ e, SHQ E K F G a k e → e = .inl (E.2.1 0, n, .inl (G.2.1 a)) ∧ ∀ i, xok 0 (G.2.1 a i)) (hk2 : ∀ G' : XG, (∀ i, xok 0 (G'.2.1 a i)) → SHQ E K F G' a k (.inl (E.2.1 0, n, .inl (G'.2.1 a)))) (hk0 : k ≠ 0) {i x : Int32} (hin : 0 ≤ i.toInt ∧ i.toInt < n) (hdg : decode cc pc = .ok (.iastore, 1)) (kk : ∀ (H1 : Heap) (locs1 : List Loc), TW E K F (cput G a i.toNatClampNeg x) H1 → va_S (xA E) H0 H1 locs1 → W p l e R s m args below meth c H1 locs1 cells slots Q (F0 m (pc + 1) ls rest)) : W p l e R s m args below meth c H locs cells slots Q (F0 m pc ls (.int x :: .int i :: .ref a :: rest)) := by
  obtain ⟨ws, i9, e9, hw, hP, hD, he, hs⟩ := hT.at ha hk0
  obtain ⟨rfl, ho⟩ := hk _ hs
  have hg : (cput G a i.toNatClampNeg x).2.1 a = upd (G.2.1 a) i.toNatClampNeg x := by show up2 _ _ _ _ _ = _; rw [up2_r, upr_at]
  have hq := hk2 (cput G a i.toNatClampNeg x) (fun _ => trivial)
  rw [hg] at hq
  exact va_iast S.1 S.2.1 hK.1 hP hD hS i9 0 he rfl (vp_in_iff.mpr hin) hdg (fun H1 locs1 hP1 hD1 hS1 => kk H1 locs1 ⟨_, hw.set he (by rw [ha]; exact hk0) XGa.c (by rw [ha]; exact hq), hP1, hD1⟩ hS1)
theorem as_1 {k n : Nat} (S : CallFix p m c cc nL s args (w0 :: GT) own) (hK : XK E s) (hT : TW E K F G H) (hS : va_S (xA E) H0 H locs) (ha : K a = k) (hk : ∀ e, SHQ E K F G a k e → e = .inl (E.2.1 1, n, .inl (G.2.1 a)) ∧ ∀ i, xok 1 (G.2.1 a i)) (hk2 : ∀ G' : XG, (∀ i, xok 1 (G'.2.1 a i)) → SHQ E K F G' a k (.inl (E.2.1 1, n, .inl (G'.2.1 a)))) (hk0 : k ≠ 0) {i x : Int32} (hin : 0 ≤ i.toInt ∧ i.toInt < n) (hdg : decode cc pc = .ok (.castore, 1)) (kk : ∀ (H1 : Heap) (locs1 : List Loc), TW E K F (cput G a i.toNatClampNeg (vp_nar .char x)) H1 → va_S (xA E) H0 H1 locs1 → W p l e R s m args below meth c H1 locs1 cells slots Q (F0 m (pc + 1) ls rest)) : W p l e R s m args below meth c H locs cells slots Q (F0 m pc ls (.int x :: .int i :: .ref a :: rest)) := by
  obtain ⟨ws, i9, e9, hw, hP, hD, he, hs⟩ := hT.at ha hk0
  obtain ⟨rfl, ho⟩ := hk _ hs
  have hg : (cput G a i.toNatClampNeg (vp_nar .char x)).2.1 a = upd (G.2.1 a) i.toNatClampNeg (vp_nar .char x) := by show up2 _ _ _ _ _ = _; rw [up2_r, upr_at]
  have hq := hk2 (cput G a i.toNatClampNeg (vp_nar .char x)) (by rw [hg]; intro q; unfold upd; split <;> first | exact ho q | exact xok_c x)
  rw [hg] at hq
  exact va_cast S.1 S.2.1 hK.1 hP hD hS i9 1 he rfl (vp_in_iff.mpr hin) hdg (fun H1 locs1 hP1 hD1 hS1 => kk H1 locs1 ⟨_, hw.set he (by rw [ha]; exact hk0) XGa.c (by rw [ha]; exact hq), hP1, hD1⟩ hS1)
theorem as_2 {k n : Nat} (S : CallFix p m c cc nL s args (w0 :: GT) own) (hK : XK E s) (hT : TW E K F G H) (hS : va_S (xA E) H0 H locs) (ha : K a = k) (hk : ∀ e, SHQ E K F G a k e → e = .inl (E.2.1 2, n, .inl (G.2.1 a)) ∧ ∀ i, xok 2 (G.2.1 a i)) (hk2 : ∀ G' : XG, (∀ i, xok 2 (G'.2.1 a i)) → SHQ E K F G' a k (.inl (E.2.1 2, n, .inl (G'.2.1 a)))) (hk0 : k ≠ 0) {i x : Int32} (hin : 0 ≤ i.toInt ∧ i.toInt < n) (hdg : decode cc pc = .ok (.bastore, 1)) (kk : ∀ (H1 : Heap) (locs1 : List Loc), TW E K F (cput G a i.toNatClampNeg (vp_nar .byte x)) H1 → va_S (xA E) H0 H1 locs1 → W p l e R s m args below meth c H1 locs1 cells slots Q (F0 m (pc + 1) ls rest)) : W p l e R s m args below meth c H locs cells slots Q (F0 m pc ls (.int x :: .int i :: .ref a :: rest)) := by
  obtain ⟨ws, i9, e9, hw, hP, hD, he, hs⟩ := hT.at ha hk0
  obtain ⟨rfl, ho⟩ := hk _ hs
  have hg : (cput G a i.toNatClampNeg (vp_nar .byte x)).2.1 a = upd (G.2.1 a) i.toNatClampNeg (vp_nar .byte x) := by show up2 _ _ _ _ _ = _; rw [up2_r, upr_at]
  have hq := hk2 (cput G a i.toNatClampNeg (vp_nar .byte x)) (by rw [hg]; intro q; unfold upd; split <;> first | exact ho q | exact xok_b x)
  rw [hg] at hq
  exact va_bast S.1 S.2.1 hK.1 hP hD hS i9 2 he rfl (vp_in_iff.mpr hin) hdg (fun H1 locs1 hP1 hD1 hS1 => kk H1 locs1 ⟨_, hw.set he (by rw [ha]; exact hk0) XGa.c (by rw [ha]; exact hq), hP1, hD1⟩ hS1)
theorem as_3 {k n : Nat} (S : CallFix p m c cc nL s args (w0 :: GT) own) (hK : XK E s) (hT : TW E K F G H) (hS : va_S (xA E) H0 H locs) (ha : K a = k) (hk : ∀ e, SHQ E K F G a k e → e = .inl (E.2.1 3, n, .inl (G.2.1 a)) ∧ ∀ i, xok 3 (G.2.1 a i)) (hk2 : ∀ G' : XG, (∀ i, xok 3 (G'.2.1 a i)) → SHQ E K F G' a k (.inl (E.2.1 3, n, .inl (G'.2.1 a)))) (hk0 : k ≠ 0) {i x : Int32} (hin : 0 ≤ i.toInt ∧ i.toInt < n) (hdg : decode cc pc = .ok (.bastore, 1)) (kk : ∀ (H1 : Heap) (locs1 : List Loc), TW E K F (cput G a i.toNatClampNeg (vp_nar .boolean x)) H1 → va_S (xA E) H0 H1 locs1 → W p l e R s m args below meth c H1 locs1 cells slots Q (F0 m (pc + 1) ls rest)) : W p l e R s m args below meth c H locs cells slots Q (F0 m pc ls (.int x :: .int i :: .ref a :: rest)) := by
  obtain ⟨ws, i9, e9, hw, hP, hD, he, hs⟩ := hT.at ha hk0
  obtain ⟨rfl, ho⟩ := hk _ hs
  have hg : (cput G a i.toNatClampNeg (vp_nar .boolean x)).2.1 a = upd (G.2.1 a) i.toNatClampNeg (vp_nar .boolean x) := by show up2 _ _ _ _ _ = _; rw [up2_r, upr_at]
  have hq := hk2 (cput G a i.toNatClampNeg (vp_nar .boolean x)) (by rw [hg]; intro q; unfold upd; split <;> first | exact ho q | exact xok_z x)
  rw [hg] at hq
  exact va_zast S.1 S.2.1 hK.1 hP hD hS i9 3 he rfl (vp_in_iff.mpr hin) hdg (fun H1 locs1 hP1 hD1 hS1 => kk H1 locs1 ⟨_, hw.set he (by rw [ha]; exact hk0) XGa.c (by rw [ha]; exact hq), hP1, hD1⟩ hS1)
theorem al_15 (S : CallFix p m c cc nL s args (w0 :: GT) own) (hK : XK E s) (hT : TW E K F G H) (ha : K a = 15) {i : Int32} (hin : 0 ≤ i.toInt ∧ i.toInt < 12) (hdg : decode cc pc = .ok (.aaload, 1)) (kn : G.2.2.1 a i.toInt.toNat = none → W p l e R s m args below meth c H locs cells slots Q (F0 m (pc + 1) ls (.null :: rest))) (kk : ∀ r : Nat, G.2.2.1 a i.toInt.toNat = some r → K r = 9 → W p l e R s m args below meth c H locs cells slots Q (F0 m (pc + 1) ls (.ref r :: rest))) : W p l e R s m args below meth c H locs cells slots Q (F0 m pc ls (.int i :: .ref a :: rest)) := by
  obtain ⟨ws, i9, e9, hw, hP, hD, he, hs⟩ := hT.at ha (by decide)
  obtain ⟨rfl, ho⟩ := hs
  refine va_aldq S.1 S.2.1 hK.1 hP i9 4 he rfl (vp_in_iff.mpr hin) hdg ?_
  cases hf : G.2.2.1 a i.toNatClampNeg with
  | none => exact kn hf
  | some r => exact kk r hf (ho _ r hf)
theorem al_16 (S : CallFix p m c cc nL s args (w0 :: GT) own) (hK : XK E s) (hT : TW E K F G H) (ha : K a = 16) {i : Int32} (hin : 0 ≤ i.toInt ∧ i.toInt < 8) (hdg : decode cc pc = .ok (.aaload, 1)) (kk : ∀ r : Nat, G.2.2.1 a i.toInt.toNat = some r → K r = 8 → F r 99 = 4 + i.toInt.toNat → W p l e R s m args below meth c H locs cells slots Q (F0 m (pc + 1) ls (.ref r :: rest))) : W p l e R s m args below meth c H locs cells slots Q (F0 m pc ls (.int i :: .ref a :: rest)) := by
  obtain ⟨ws, i9, e9, hw, hP, hD, he, hs⟩ := hT.at ha (by decide)
  obtain ⟨rfl, ho⟩ := hs
  have hb : i.toNatClampNeg < 8 := by
    have h : i.toNatClampNeg = i.toInt.toNat := rfl
    omega
  obtain ⟨r, hr, hk, hn⟩ := ho _ hb
  refine va_aldq S.1 S.2.1 hK.1 hP i9 5 he rfl (vp_in_iff.mpr hin) hdg ?_
  rw [hr]
  exact kk r hr hk hn
theorem as_15n (S : CallFix p m c cc nL s args (w0 :: GT) own) (hK : XK E s) (hT : TW E K F G H) (hS : va_S (xA E) H0 H locs) (ha : K a = 15) {i : Int32} (hin : 0 ≤ i.toInt ∧ i.toInt < 12) (hdg : decode cc pc = .ok (.aastore, 1)) (kk : ∀ (H1 : Heap) (locs1 : List Loc), TW E K F (rput G a i.toInt.toNat none) H1 → va_S (xA E) H0 H1 locs1 → W p l e R s m args below meth c H1 locs1 cells slots Q (F0 m (pc + 1) ls rest)) : W p l e R s m args below meth c H locs cells slots Q (F0 m pc ls (.null :: .int i :: .ref a :: rest)) := by
  obtain ⟨ws, i9, e9, hw, hP, hD, he, hs⟩ := hT.at ha (by decide)
  obtain ⟨rfl, ho⟩ := hs
  have hq : SHQ E K F (rput G a i.toInt.toNat none) a 15 (.inl (E.2.1 4, 12, .inr (.inr (.inr (.inr (va_up (G.2.2.1 a) i.toNatClampNeg none)))))) := by
    refine ⟨?_, fun q r hr => ?_⟩
    · have e : va_up (G.2.2.1 a) i.toNatClampNeg none = (rput G a i.toInt.toNat none).2.2.1 a := by
        funext j
        show va_up _ _ _ j = up2 _ _ _ _ _ j
        unfold va_up up2
        by_cases h : j = i.toNatClampNeg
        · rw [if_pos h, if_pos ⟨rfl, h⟩]
        · rw [if_neg h, if_neg (fun q => h q.2)]
      rw [e]
    · unfold rput up2 at hr
      simp only at hr
      split at hr
      · cases hr
      · exact ho q r hr
  exact va_astqN S.1 S.2.1 hK.1 hP hD hS i9 4 he rfl (vp_in_iff.mpr hin) hdg (fun H1 locs1 hP1 hD1 hS1 => kk H1 locs1 ⟨_, hw.set he (by rw [ha]; decide) XGa.r (by rw [ha]; exact hq), hP1, hD1⟩ hS1)
theorem as_15r (S : CallFix p m c cc nL s args (w0 :: GT) own) (hK : XK E s) (hT : TW E K F G H) (hS : va_S (xA E) H0 H locs) (ha : K a = 15) {r : Nat} (hr : K r = 9) {i : Int32} (hin : 0 ≤ i.toInt ∧ i.toInt < 12) (hdg : decode cc pc = .ok (.aastore, 1)) (kk : ∀ (H1 : Heap) (locs1 : List Loc), TW E K F (rput G a i.toInt.toNat (some r)) H1 → va_S (xA E) H0 H1 locs1 → W p l e R s m args below meth c H1 locs1 cells slots Q (F0 m (pc + 1) ls rest)) : W p l e R s m args below meth c H locs cells slots Q (F0 m pc ls (.ref r :: .int i :: .ref a :: rest)) := by
  obtain ⟨ws, i9, e9, hw, hP, hD, he, hs⟩ := hT.at ha (by decide)
  obtain ⟨rfl, ho⟩ := hs
  obtain ⟨i8, e8, he8, hs8⟩ := hw.1 r (by rw [hr]; decide)
  rw [hr] at hs8
  obtain ⟨rfl, -⟩ := hs8
  have hq : SHQ E K F (rput G a i.toInt.toNat (some r)) a 15 (.inl (E.2.1 4, 12, .inr (.inr (.inr (.inr (va_up (G.2.2.1 a) i.toNatClampNeg (some r))))))) := by
    refine ⟨?_, fun q z hz => ?_⟩
    · have e : va_up (G.2.2.1 a) i.toNatClampNeg (some r) = (rput G a i.toInt.toNat (some r)).2.2.1 a := by
        funext j
        show va_up _ _ _ j = up2 _ _ _ _ _ j
        unfold va_up up2
        by_cases h : j = i.toNatClampNeg
        · rw [if_pos h, if_pos ⟨rfl, h⟩]
        · rw [if_neg h, if_neg (fun q => h q.2)]
      rw [e]
    · unfold rput up2 at hz
      simp only at hz
      split at hz
      · cases hz
        exact hr
      · exact ho q z hz
  exact va_astq (r := (RX7, TX7, 10)) S.1 S.2.1 hK.1 hP hD hS i9 4 i8 8 he rfl he8 rfl (vp_in_iff.mpr hin) hdg (fun H1 locs1 hP1 hD1 hS1 => kk H1 locs1 ⟨_, hw.set he (by rw [ha]; decide) XGa.r (by rw [ha]; exact hq), hP1, hD1⟩ hS1)
theorem x_copy {k n : Nat} {b : Nat} (S : CallFix p m c cc nL s args (w0 :: GT) own) (hK : XK E s) (hT : TW E K F G H) (hS : va_S (xA E) H0 H locs) (hac : (Cond.native arraycopyName ∈ GT ∧ Cond.static arraycopyName ∈ GT) ∧ Cond.initialized "java/lang/System" ∈ GT) (hl : Cond.methodLink own idx arraycopyName ∈ GT) (ha : K a = k) (hb : K b = k) (hk : ∀ e, SHQ E K F G a k e → e = .inl (E.2.1 0, n, .inl (G.2.1 a)) ∧ ∀ i, xok 0 (G.2.1 a i)) (hk' : ∀ e, SHQ E K F G b k e → e = .inl (E.2.1 0, n, .inl (G.2.1 b)) ∧ ∀ i, xok 0 (G.2.1 b i)) (hk2 : ∀ G' : XG, (∀ i, xok 0 (G'.2.1 b i)) → SHQ E K F G' b k (.inl (E.2.1 0, n, .inl (G'.2.1 b)))) (hk0 : k ≠ 0) {sp dp z : Int32} (h1 : ¬ sp < 0) (h2 : ¬ dp < 0) (h3 : ¬ z < 0) (h4 : sp.toNatClampNeg + z.toNatClampNeg ≤ n) (h5 : dp.toNatClampNeg + z.toNatClampNeg ≤ n) (hls : ls.size = nL) (hfr : 1 ≤ R.frames) (hlo : (rest.map fun v => v.category).sum + (nativeFrameWords "java/lang/System" "arraycopy" 5 + 11) ≤ R.locals) (hdg : decode cc pc = .ok (.invokestatic idx, 3)) (kk : ∀ (H1 : Heap) (locs1 : List Loc), TW E K F (ccopy G b (va_cpy (G.2.1 a) (G.2.1 b) sp.toNatClampNeg dp.toNatClampNeg z.toNatClampNeg)) H1 → va_S (xA E) H0 H1 locs1 → W p l e R s m args below meth c H1 locs1 cells slots Q (F0 m (pc + 3) ls rest)) : W p l e R s m args below meth c H locs cells slots Q (F0 m pc ls (.int z :: .int dp :: .ref b :: .int sp :: .ref a :: rest)) := by
  obtain ⟨ws, i9, e9, hw, hP, hD, he, hs⟩ := hT.at ha hk0
  obtain ⟨rfl, ho⟩ := hk _ hs
  obtain ⟨i8, e8, he8, hs8⟩ := hw.1 b (by rw [hb]; exact hk0)
  rw [hb] at hs8
  obtain ⟨rfl, ho8⟩ := hk' _ hs8
  have hg : (ccopy G b (va_cpy (G.2.1 a) (G.2.1 b) sp.toNatClampNeg dp.toNatClampNeg z.toNatClampNeg)).2.1 b = va_cpy (G.2.1 a) (G.2.1 b) sp.toNatClampNeg dp.toNatClampNeg z.toNatClampNeg := by show upr _ _ _ _ = _; rw [upr_at]
  have hq := hk2 (ccopy G b (va_cpy (G.2.1 a) (G.2.1 b) sp.toNatClampNeg dp.toNatClampNeg z.toNatClampNeg)) (fun _ => trivial)
  rw [hg] at hq
  exact va_copyi (ty := .int) S.1 S.2.1 (S.2.2.1.trans hls.symm) S.2.2.2.1 (S.2.2.2.2 _ (List.mem_cons_of_mem _ hl)) (S.2.2.2.2 _ (List.mem_cons_of_mem _ hac.1.1)) (S.2.2.2.2 _ (List.mem_cons_of_mem _ hac.1.2)) (S.2.2.2.2 _ (List.mem_cons_of_mem _ hac.2)) hK.1 hP hD hS i9 i8 0 0 he he8 rfl rfl rfl h1 h2 h3 h4 h5 (fun _ _ => rfl) hfr hlo hdg (fun H1 locs1 hP1 hD1 hS1 => kk H1 locs1 ⟨_, hw.set he8 (by rw [hb]; exact hk0) XGa.cc (by rw [hb]; exact hq), hP1, hD1⟩ hS1)
theorem x_alen {k n tc : Nat} {ty : FieldType} (S : CallFix p m c cc nL s args (w0 :: GT) own) (hK : XK E s) (hT : TW E K F G H) (ha : K a = k) (hk : ∀ e, SHQ E K F G a k e → e = .inl (E.2.1 tc, n, .inl (G.2.1 a)) ∧ ∀ i, xok tc (G.2.1 a i)) (hk0 : k ≠ 0) (hty : (xty E.2.1)[tc]? = some (E.2.1 tc, ty)) (hdg : decode cc pc = .ok (.arraylength, 1)) (kk : W p l e R s m args below meth c H locs cells slots Q (F0 m (pc + 1) ls (.int (Int32.ofNat n) :: rest))) : W p l e R s m args below meth c H locs cells slots Q (F0 m pc ls (.ref a :: rest)) := by
  obtain ⟨ws, i9, e9, hw, hP, hD, he, hs⟩ := hT.at ha hk0
  obtain ⟨rfl, ho⟩ := hk _ hs
  exact va_alen S.1 S.2.1 hK.1 hP i9 tc he hty rfl hdg kk
theorem x_recv {k ci : Nat} {q : vw_C} (hK : XK E s) (hT : TW E K F G H) (ha : K a = k) (hk0 : k ≠ 0) (hk : ∀ e, SHQ E K F G a k e → ∃ fs : List Value, e = .inr (ci, fs)) (hc : vwCl[ci]? = some q) : ∃ cell : Cell, H[a]? = some cell ∧ cell.vm.isStatics = false ∧ s.vm.findClass q.1 = some cell.cls := by
  obtain ⟨ws, i9, e9, hw, hP, hD, he, hs⟩ := hT.at ha hk0
  obtain ⟨fs, rfl⟩ := hk _ hs
  exact va_recv hK.1 hP hc he
theorem ar_20 : ∀ e, SHQ E K F G a 20 e → e = .inl (E.2.1 0, 270, .inl (G.2.1 a)) ∧ ∀ i, xok 0 (G.2.1 a i) := by
  rintro e ⟨tc, n, h1, h2, h3⟩
  cases h1
  exact ⟨h2, h3⟩
theorem aw_20 : ∀ G' : XG, (∀ i, xok 0 (G'.2.1 a i)) → SHQ E K F G' a 20 (.inl (E.2.1 0, 270, .inl (G'.2.1 a))) := fun G' h => ⟨0, 270, rfl, rfl, h⟩
theorem ar_21 : ∀ e, SHQ E K F G a 21 e → e = .inl (E.2.1 0, 3, .inl (G.2.1 a)) ∧ ∀ i, xok 0 (G.2.1 a i) := by
  rintro e ⟨tc, n, h1, h2, h3⟩
  cases h1
  exact ⟨h2, h3⟩
theorem aw_21 : ∀ G' : XG, (∀ i, xok 0 (G'.2.1 a i)) → SHQ E K F G' a 21 (.inl (E.2.1 0, 3, .inl (G'.2.1 a))) := fun G' h => ⟨0, 3, rfl, rfl, h⟩
theorem ar_22 : ∀ e, SHQ E K F G a 22 e → e = .inl (E.2.1 0, 1080, .inl (G.2.1 a)) ∧ ∀ i, xok 0 (G.2.1 a i) := by
  rintro e ⟨tc, n, h1, h2, h3⟩
  cases h1
  exact ⟨h2, h3⟩
theorem aw_22 : ∀ G' : XG, (∀ i, xok 0 (G'.2.1 a i)) → SHQ E K F G' a 22 (.inl (E.2.1 0, 1080, .inl (G'.2.1 a))) := fun G' h => ⟨0, 1080, rfl, rfl, h⟩
theorem ar_23 : ∀ e, SHQ E K F G a 23 e → e = .inl (E.2.1 3, 1080, .inl (G.2.1 a)) ∧ ∀ i, xok 3 (G.2.1 a i) := by
  rintro e ⟨tc, n, h1, h2, h3⟩
  cases h1
  exact ⟨h2, h3⟩
theorem aw_23 : ∀ G' : XG, (∀ i, xok 3 (G'.2.1 a i)) → SHQ E K F G' a 23 (.inl (E.2.1 3, 1080, .inl (G'.2.1 a))) := fun G' h => ⟨3, 1080, rfl, rfl, h⟩
theorem ar_24 : ∀ e, SHQ E K F G a 24 e → e = .inl (E.2.1 0, 90, .inl (G.2.1 a)) ∧ ∀ i, xok 0 (G.2.1 a i) := by
  rintro e ⟨tc, n, h1, h2, h3⟩
  cases h1
  exact ⟨h2, h3⟩
theorem aw_24 : ∀ G' : XG, (∀ i, xok 0 (G'.2.1 a i)) → SHQ E K F G' a 24 (.inl (E.2.1 0, 90, .inl (G'.2.1 a))) := fun G' h => ⟨0, 90, rfl, rfl, h⟩
theorem ar_25 : ∀ e, SHQ E K F G a 25 e → e = .inl (E.2.1 1, 80, .inl (G.2.1 a)) ∧ ∀ i, xok 1 (G.2.1 a i) := by
  rintro e ⟨tc, n, h1, h2, h3⟩
  cases h1
  exact ⟨h2, h3⟩
theorem aw_25 : ∀ G' : XG, (∀ i, xok 1 (G'.2.1 a i)) → SHQ E K F G' a 25 (.inl (E.2.1 1, 80, .inl (G'.2.1 a))) := fun G' h => ⟨1, 80, rfl, rfl, h⟩
theorem ar_26 : ∀ e, SHQ E K F G a 26 e → e = .inl (E.2.1 0, 6, .inl (G.2.1 a)) ∧ ∀ i, xok 0 (G.2.1 a i) := by
  rintro e ⟨tc, n, h1, h2, h3⟩
  cases h1
  exact ⟨h2, h3⟩
theorem aw_26 : ∀ G' : XG, (∀ i, xok 0 (G'.2.1 a i)) → SHQ E K F G' a 26 (.inl (E.2.1 0, 6, .inl (G'.2.1 a))) := fun G' h => ⟨0, 6, rfl, rfl, h⟩
theorem ar_27 : ∀ e, SHQ E K F G a 27 e → e = .inl (E.2.1 0, 4, .inl (G.2.1 a)) ∧ ∀ i, xok 0 (G.2.1 a i) := by
  rintro e ⟨tc, n, h1, h2, h3⟩
  cases h1
  exact ⟨h2, h3⟩
theorem aw_27 : ∀ G' : XG, (∀ i, xok 0 (G'.2.1 a i)) → SHQ E K F G' a 27 (.inl (E.2.1 0, 4, .inl (G'.2.1 a))) := fun G' h => ⟨0, 4, rfl, rfl, h⟩
theorem ar_30 : ∀ e, SHQ E K F G a 30 e → e = .inl (E.2.1 0, 360, .inl (G.2.1 a)) ∧ ∀ i, xok 0 (G.2.1 a i) := by
  rintro e ⟨tc, n, h1, h2, h3⟩
  cases h1
  exact ⟨h2, h3⟩
theorem aw_30 : ∀ G' : XG, (∀ i, xok 0 (G'.2.1 a i)) → SHQ E K F G' a 30 (.inl (E.2.1 0, 360, .inl (G'.2.1 a))) := fun G' h => ⟨0, 360, rfl, rfl, h⟩
theorem ar_31 : ∀ e, SHQ E K F G a 31 e → e = .inl (E.2.1 0, 360, .inl (G.2.1 a)) ∧ ∀ i, xok 0 (G.2.1 a i) := by
  rintro e ⟨tc, n, h1, h2, h3⟩
  cases h1
  exact ⟨h2, h3⟩
theorem aw_31 : ∀ G' : XG, (∀ i, xok 0 (G'.2.1 a i)) → SHQ E K F G' a 31 (.inl (E.2.1 0, 360, .inl (G'.2.1 a))) := fun G' h => ⟨0, 360, rfl, rfl, h⟩
theorem ar_32 : ∀ e, SHQ E K F G a 32 e → e = .inl (E.2.1 0, 2880, .inl (G.2.1 a)) ∧ ∀ i, xok 0 (G.2.1 a i) := by
  rintro e ⟨tc, n, h1, h2, h3⟩
  cases h1
  exact ⟨h2, h3⟩
theorem aw_32 : ∀ G' : XG, (∀ i, xok 0 (G'.2.1 a i)) → SHQ E K F G' a 32 (.inl (E.2.1 0, 2880, .inl (G'.2.1 a))) := fun G' h => ⟨0, 2880, rfl, rfl, h⟩
theorem ar_33 : ∀ e, SHQ E K F G a 33 e → e = .inl (E.2.1 0, 360, .inl (G.2.1 a)) ∧ ∀ i, xok 0 (G.2.1 a i) := by
  rintro e ⟨tc, n, h1, h2, h3⟩
  cases h1
  exact ⟨h2, h3⟩
theorem aw_33 : ∀ G' : XG, (∀ i, xok 0 (G'.2.1 a i)) → SHQ E K F G' a 33 (.inl (E.2.1 0, 360, .inl (G'.2.1 a))) := fun G' h => ⟨0, 360, rfl, rfl, h⟩
theorem ar_34 : ∀ e, SHQ E K F G a 34 e → e = .inl (E.2.1 0, 360, .inl (G.2.1 a)) ∧ ∀ i, xok 0 (G.2.1 a i) := by
  rintro e ⟨tc, n, h1, h2, h3⟩
  cases h1
  exact ⟨h2, h3⟩
theorem aw_34 : ∀ G' : XG, (∀ i, xok 0 (G'.2.1 a i)) → SHQ E K F G' a 34 (.inl (E.2.1 0, 360, .inl (G'.2.1 a))) := fun G' h => ⟨0, 360, rfl, rfl, h⟩
theorem ar_35 : ∀ e, SHQ E K F G a 35 e → e = .inl (E.2.1 0, 6, .inl (G.2.1 a)) ∧ ∀ i, xok 0 (G.2.1 a i) := by
  rintro e ⟨tc, n, h1, h2, h3⟩
  cases h1
  exact ⟨h2, h3⟩
theorem aw_35 : ∀ G' : XG, (∀ i, xok 0 (G'.2.1 a i)) → SHQ E K F G' a 35 (.inl (E.2.1 0, 6, .inl (G'.2.1 a))) := fun G' h => ⟨0, 6, rfl, rfl, h⟩
theorem ar_36 : ∀ e, SHQ E K F G a 36 e → e = .inl (E.2.1 0, 4, .inl (G.2.1 a)) ∧ ∀ i, xok 0 (G.2.1 a i) := by
  rintro e ⟨tc, n, h1, h2, h3⟩
  cases h1
  exact ⟨h2, h3⟩
theorem aw_36 : ∀ G' : XG, (∀ i, xok 0 (G'.2.1 a i)) → SHQ E K F G' a 36 (.inl (E.2.1 0, 4, .inl (G'.2.1 a))) := fun G' h => ⟨0, 4, rfl, rfl, h⟩
theorem ar_37 : ∀ e, SHQ E K F G a 37 e → e = .inl (E.2.1 0, 120, .inl (G.2.1 a)) ∧ ∀ i, xok 0 (G.2.1 a i) := by
  rintro e ⟨tc, n, h1, h2, h3⟩
  cases h1
  exact ⟨h2, h3⟩
theorem aw_37 : ∀ G' : XG, (∀ i, xok 0 (G'.2.1 a i)) → SHQ E K F G' a 37 (.inl (E.2.1 0, 120, .inl (G'.2.1 a))) := fun G' h => ⟨0, 120, rfl, rfl, h⟩
theorem ar_38 : ∀ e, SHQ E K F G a 38 e → e = .inl (E.2.1 0, 2388, .inl (G.2.1 a)) ∧ ∀ i, xok 0 (G.2.1 a i) := by
  rintro e ⟨tc, n, h1, h2, h3⟩
  cases h1
  exact ⟨h2, h3⟩
theorem aw_38 : ∀ G' : XG, (∀ i, xok 0 (G'.2.1 a i)) → SHQ E K F G' a 38 (.inl (E.2.1 0, 2388, .inl (G'.2.1 a))) := fun G' h => ⟨0, 2388, rfl, rfl, h⟩
theorem ar_39 : ∀ e, SHQ E K F G a 39 e → e = .inl (E.2.1 0, 2388, .inl (G.2.1 a)) ∧ ∀ i, xok 0 (G.2.1 a i) := by
  rintro e ⟨tc, n, h1, h2, h3⟩
  cases h1
  exact ⟨h2, h3⟩
theorem aw_39 : ∀ G' : XG, (∀ i, xok 0 (G'.2.1 a i)) → SHQ E K F G' a 39 (.inl (E.2.1 0, 2388, .inl (G'.2.1 a))) := fun G' h => ⟨0, 2388, rfl, rfl, h⟩
theorem ar_40 : ∀ e, SHQ E K F G a 40 e → e = .inl (E.2.1 0, 2388, .inl (G.2.1 a)) ∧ ∀ i, xok 0 (G.2.1 a i) := by
  rintro e ⟨tc, n, h1, h2, h3⟩
  cases h1
  exact ⟨h2, h3⟩
theorem aw_40 : ∀ G' : XG, (∀ i, xok 0 (G'.2.1 a i)) → SHQ E K F G' a 40 (.inl (E.2.1 0, 2388, .inl (G'.2.1 a))) := fun G' h => ⟨0, 2388, rfl, rfl, h⟩
theorem ar_41 : ∀ e, SHQ E K F G a 41 e → e = .inl (E.2.1 0, 2388, .inl (G.2.1 a)) ∧ ∀ i, xok 0 (G.2.1 a i) := by
  rintro e ⟨tc, n, h1, h2, h3⟩
  cases h1
  exact ⟨h2, h3⟩
theorem aw_41 : ∀ G' : XG, (∀ i, xok 0 (G'.2.1 a i)) → SHQ E K F G' a 41 (.inl (E.2.1 0, 2388, .inl (G'.2.1 a))) := fun G' h => ⟨0, 2388, rfl, rfl, h⟩
theorem ar_42 : ∀ e, SHQ E K F G a 42 e → e = .inl (E.2.1 0, 12, .inl (G.2.1 a)) ∧ ∀ i, xok 0 (G.2.1 a i) := by
  rintro e ⟨tc, n, h1, h2, h3⟩
  cases h1
  exact ⟨h2, h3⟩
theorem aw_42 : ∀ G' : XG, (∀ i, xok 0 (G'.2.1 a i)) → SHQ E K F G' a 42 (.inl (E.2.1 0, 12, .inl (G'.2.1 a))) := fun G' h => ⟨0, 12, rfl, rfl, h⟩
theorem ar_43 : ∀ e, SHQ E K F G a 43 e → e = .inl (E.2.1 0, 2400, .inl (G.2.1 a)) ∧ ∀ i, xok 0 (G.2.1 a i) := by
  rintro e ⟨tc, n, h1, h2, h3⟩
  cases h1
  exact ⟨h2, h3⟩
theorem aw_43 : ∀ G' : XG, (∀ i, xok 0 (G'.2.1 a i)) → SHQ E K F G' a 43 (.inl (E.2.1 0, 2400, .inl (G'.2.1 a))) := fun G' h => ⟨0, 2400, rfl, rfl, h⟩
theorem ar_44 : ∀ e, SHQ E K F G a 44 e → e = .inl (E.2.1 0, 2400, .inl (G.2.1 a)) ∧ ∀ i, xok 0 (G.2.1 a i) := by
  rintro e ⟨tc, n, h1, h2, h3⟩
  cases h1
  exact ⟨h2, h3⟩
theorem aw_44 : ∀ G' : XG, (∀ i, xok 0 (G'.2.1 a i)) → SHQ E K F G' a 44 (.inl (E.2.1 0, 2400, .inl (G'.2.1 a))) := fun G' h => ⟨0, 2400, rfl, rfl, h⟩
theorem ar_45 : ∀ e, SHQ E K F G a 45 e → e = .inl (E.2.1 2, 24, .inl (G.2.1 a)) ∧ ∀ i, xok 2 (G.2.1 a i) := by
  rintro e ⟨tc, n, h1, h2, h3⟩
  cases h1
  exact ⟨h2, h3⟩
theorem aw_45 : ∀ G' : XG, (∀ i, xok 2 (G'.2.1 a i)) → SHQ E K F G' a 45 (.inl (E.2.1 2, 24, .inl (G'.2.1 a))) := fun G' h => ⟨2, 24, rfl, rfl, h⟩
theorem ar_46 : ∀ e, SHQ E K F G a 46 e → e = .inl (E.2.1 1, 3, .inl (G.2.1 a)) ∧ ∀ i, xok 1 (G.2.1 a i) := by
  rintro e ⟨tc, n, h1, h2, h3⟩
  cases h1
  exact ⟨h2, h3⟩
theorem aw_46 : ∀ G' : XG, (∀ i, xok 1 (G'.2.1 a i)) → SHQ E K F G' a 46 (.inl (E.2.1 1, 3, .inl (G'.2.1 a))) := fun G' h => ⟨1, 3, rfl, rfl, h⟩
theorem ar_47 : ∀ e, SHQ E K F G a 47 e → e = .inl (E.2.1 1, 4, .inl (G.2.1 a)) ∧ ∀ i, xok 1 (G.2.1 a i) := by
  rintro e ⟨tc, n, h1, h2, h3⟩
  cases h1
  exact ⟨h2, h3⟩
theorem aw_47 : ∀ G' : XG, (∀ i, xok 1 (G'.2.1 a i)) → SHQ E K F G' a 47 (.inl (E.2.1 1, 4, .inl (G'.2.1 a))) := fun G' h => ⟨1, 4, rfl, rfl, h⟩
theorem ar_48 : ∀ e, SHQ E K F G a 48 e → e = .inl (E.2.1 1, 5, .inl (G.2.1 a)) ∧ ∀ i, xok 1 (G.2.1 a i) := by
  rintro e ⟨tc, n, h1, h2, h3⟩
  cases h1
  exact ⟨h2, h3⟩
theorem aw_48 : ∀ G' : XG, (∀ i, xok 1 (G'.2.1 a i)) → SHQ E K F G' a 48 (.inl (E.2.1 1, 5, .inl (G'.2.1 a))) := fun G' h => ⟨1, 5, rfl, rfl, h⟩
theorem ar_49 : ∀ e, SHQ E K F G a 49 e → e = .inl (E.2.1 1, 6, .inl (G.2.1 a)) ∧ ∀ i, xok 1 (G.2.1 a i) := by
  rintro e ⟨tc, n, h1, h2, h3⟩
  cases h1
  exact ⟨h2, h3⟩
theorem aw_49 : ∀ G' : XG, (∀ i, xok 1 (G'.2.1 a i)) → SHQ E K F G' a 49 (.inl (E.2.1 1, 6, .inl (G'.2.1 a))) := fun G' h => ⟨1, 6, rfl, rfl, h⟩
theorem ar_50 : ∀ e, SHQ E K F G a 50 e → e = .inl (E.2.1 1, 7, .inl (G.2.1 a)) ∧ ∀ i, xok 1 (G.2.1 a i) := by
  rintro e ⟨tc, n, h1, h2, h3⟩
  cases h1
  exact ⟨h2, h3⟩
theorem aw_50 : ∀ G' : XG, (∀ i, xok 1 (G'.2.1 a i)) → SHQ E K F G' a 50 (.inl (E.2.1 1, 7, .inl (G'.2.1 a))) := fun G' h => ⟨1, 7, rfl, rfl, h⟩
theorem ar_51 : ∀ e, SHQ E K F G a 51 e → e = .inl (E.2.1 2, 80, .inl (G.2.1 a)) ∧ ∀ i, xok 2 (G.2.1 a i) := by
  rintro e ⟨tc, n, h1, h2, h3⟩
  cases h1
  exact ⟨h2, h3⟩
theorem aw_51 : ∀ G' : XG, (∀ i, xok 2 (G'.2.1 a i)) → SHQ E K F G' a 51 (.inl (E.2.1 2, 80, .inl (G'.2.1 a))) := fun G' h => ⟨2, 80, rfl, rfl, h⟩
theorem ar_52 : ∀ e, SHQ E K F G a 52 e → e = .inl (E.2.1 0, 10, .inl (G.2.1 a)) ∧ ∀ i, xok 0 (G.2.1 a i) := by
  rintro e ⟨tc, n, h1, h2, h3⟩
  cases h1
  exact ⟨h2, h3⟩
theorem aw_52 : ∀ G' : XG, (∀ i, xok 0 (G'.2.1 a i)) → SHQ E K F G' a 52 (.inl (E.2.1 0, 10, .inl (G'.2.1 a))) := fun G' h => ⟨0, 10, rfl, rfl, h⟩
theorem ar_53 : ∀ e, SHQ E K F G a 53 e → e = .inl (E.2.1 0, 2400, .inl (G.2.1 a)) ∧ ∀ i, xok 0 (G.2.1 a i) := by
  rintro e ⟨tc, n, h1, h2, h3⟩
  cases h1
  exact ⟨h2, h3⟩
theorem aw_53 : ∀ G' : XG, (∀ i, xok 0 (G'.2.1 a i)) → SHQ E K F G' a 53 (.inl (E.2.1 0, 2400, .inl (G'.2.1 a))) := fun G' h => ⟨0, 2400, rfl, rfl, h⟩
theorem ar_54 : ∀ e, SHQ E K F G a 54 e → e = .inl (E.2.1 0, 2400, .inl (G.2.1 a)) ∧ ∀ i, xok 0 (G.2.1 a i) := by
  rintro e ⟨tc, n, h1, h2, h3⟩
  cases h1
  exact ⟨h2, h3⟩
theorem aw_54 : ∀ G' : XG, (∀ i, xok 0 (G'.2.1 a i)) → SHQ E K F G' a 54 (.inl (E.2.1 0, 2400, .inl (G'.2.1 a))) := fun G' h => ⟨0, 2400, rfl, rfl, h⟩
theorem ar_55 : ∀ e, SHQ E K F G a 55 e → e = .inl (E.2.1 0, 90, .inl (G.2.1 a)) ∧ ∀ i, xok 0 (G.2.1 a i) := by
  rintro e ⟨tc, n, h1, h2, h3⟩
  cases h1
  exact ⟨h2, h3⟩
theorem aw_55 : ∀ G' : XG, (∀ i, xok 0 (G'.2.1 a i)) → SHQ E K F G' a 55 (.inl (E.2.1 0, 90, .inl (G'.2.1 a))) := fun G' h => ⟨0, 90, rfl, rfl, h⟩
theorem ar_56 : ∀ e, SHQ E K F G a 56 e → e = .inl (E.2.1 0, 90, .inl (G.2.1 a)) ∧ ∀ i, xok 0 (G.2.1 a i) := by
  rintro e ⟨tc, n, h1, h2, h3⟩
  cases h1
  exact ⟨h2, h3⟩
theorem aw_56 : ∀ G' : XG, (∀ i, xok 0 (G'.2.1 a i)) → SHQ E K F G' a 56 (.inl (E.2.1 0, 90, .inl (G'.2.1 a))) := fun G' h => ⟨0, 90, rfl, rfl, h⟩
theorem ar_57 : ∀ e, SHQ E K F G a 57 e → e = .inl (E.2.1 0, 90, .inl (G.2.1 a)) ∧ ∀ i, xok 0 (G.2.1 a i) := by
  rintro e ⟨tc, n, h1, h2, h3⟩
  cases h1
  exact ⟨h2, h3⟩
theorem aw_57 : ∀ G' : XG, (∀ i, xok 0 (G'.2.1 a i)) → SHQ E K F G' a 57 (.inl (E.2.1 0, 90, .inl (G'.2.1 a))) := fun G' h => ⟨0, 90, rfl, rfl, h⟩
theorem ar_58 : ∀ e, SHQ E K F G a 58 e → e = .inl (E.2.1 0, 90, .inl (G.2.1 a)) ∧ ∀ i, xok 0 (G.2.1 a i) := by
  rintro e ⟨tc, n, h1, h2, h3⟩
  cases h1
  exact ⟨h2, h3⟩
theorem aw_58 : ∀ G' : XG, (∀ i, xok 0 (G'.2.1 a i)) → SHQ E K F G' a 58 (.inl (E.2.1 0, 90, .inl (G'.2.1 a))) := fun G' h => ⟨0, 90, rfl, rfl, h⟩
theorem ar_59 : ∀ e, SHQ E K F G a 59 e → e = .inl (E.2.1 3, 90, .inl (G.2.1 a)) ∧ ∀ i, xok 3 (G.2.1 a i) := by
  rintro e ⟨tc, n, h1, h2, h3⟩
  cases h1
  exact ⟨h2, h3⟩
theorem aw_59 : ∀ G' : XG, (∀ i, xok 3 (G'.2.1 a i)) → SHQ E K F G' a 59 (.inl (E.2.1 3, 90, .inl (G'.2.1 a))) := fun G' h => ⟨3, 90, rfl, rfl, h⟩
theorem rc_2 (hK : XK E s) (hT : TW E K F G H) (ha : K a = 2) : ∃ cell : Cell, H[a]? = some cell ∧ cell.vm.isStatics = false ∧ s.vm.findClass RX0 = some cell.cls := x_recv (ci := 1) (q := (RX0, TX0, 3)) hK hT ha (by decide) (fun e9 hs => ⟨_, hs.1⟩) rfl
theorem rc_3 (hK : XK E s) (hT : TW E K F G H) (ha : K a = 3) : ∃ cell : Cell, H[a]? = some cell ∧ cell.vm.isStatics = false ∧ s.vm.findClass RX1 = some cell.cls := x_recv (ci := 2) (q := (RX1, TX1, 4)) hK hT ha (by decide) (fun e9 hs => ⟨_, hs.1⟩) rfl
theorem rc_4 (hK : XK E s) (hT : TW E K F G H) (ha : K a = 4) : ∃ cell : Cell, H[a]? = some cell ∧ cell.vm.isStatics = false ∧ s.vm.findClass RX2 = some cell.cls := x_recv (ci := 3) (q := (RX2, TX2, 5)) hK hT ha (by decide) (fun e9 hs => ⟨_, hs.1⟩) rfl
theorem rc_5 (hK : XK E s) (hT : TW E K F G H) (ha : K a = 5) : ∃ cell : Cell, H[a]? = some cell ∧ cell.vm.isStatics = false ∧ s.vm.findClass RX3 = some cell.cls := x_recv (ci := 4) (q := (RX3, TX3, 4)) hK hT ha (by decide) (fun e9 hs => ⟨_, hs.1⟩) rfl
theorem rc_6 (hK : XK E s) (hT : TW E K F G H) (ha : K a = 6) : ∃ cell : Cell, H[a]? = some cell ∧ cell.vm.isStatics = false ∧ s.vm.findClass RX4 = some cell.cls := x_recv (ci := 5) (q := (RX4, TX4, 7)) hK hT ha (by decide) (fun e9 hs => ⟨_, hs.1⟩) rfl
theorem rc_7 (hK : XK E s) (hT : TW E K F G H) (ha : K a = 7) : ∃ cell : Cell, H[a]? = some cell ∧ cell.vm.isStatics = false ∧ s.vm.findClass RX5 = some cell.cls := x_recv (ci := 6) (q := (RX5, TX5, 6)) hK hT ha (by decide) (fun e9 hs => ⟨_, hs.1⟩) rfl
theorem rc_8 (hK : XK E s) (hT : TW E K F G H) (ha : K a = 8) : ∃ cell : Cell, H[a]? = some cell ∧ cell.vm.isStatics = false ∧ s.vm.findClass RX6 = some cell.cls := x_recv (ci := 7) (q := (RX6, TX6, 2)) hK hT ha (by decide) (fun e9 hs => ⟨_, hs.1⟩) rfl
theorem rc_9 (hK : XK E s) (hT : TW E K F G H) (ha : K a = 9) : ∃ cell : Cell, H[a]? = some cell ∧ cell.vm.isStatics = false ∧ s.vm.findClass RX7 = some cell.cls := x_recv (ci := 8) (q := (RX7, TX7, 10)) hK hT ha (by decide) (fun e9 hs => ⟨_, hs.1⟩) rfl
theorem rc_10 (hK : XK E s) (hT : TW E K F G H) (ha : K a = 10) : ∃ cell : Cell, H[a]? = some cell ∧ cell.vm.isStatics = false ∧ s.vm.findClass RX8 = some cell.cls := x_recv (ci := 9) (q := (RX8, TX8, 2)) hK hT ha (by decide) (fun e9 hs => ⟨_, hs.1⟩) rfl
theorem rc_11 (hK : XK E s) (hT : TW E K F G H) (ha : K a = 11) : ∃ cell : Cell, H[a]? = some cell ∧ cell.vm.isStatics = false ∧ s.vm.findClass RX9 = some cell.cls := x_recv (ci := 10) (q := (RX9, TX9, 4)) hK hT ha (by decide) (fun e9 hs => ⟨_, hs.1⟩) rfl
theorem rc_12 (hK : XK E s) (hT : TW E K F G H) (ha : K a = 12) : ∃ cell : Cell, H[a]? = some cell ∧ cell.vm.isStatics = false ∧ s.vm.findClass RX10 = some cell.cls := x_recv (ci := 11) (q := (RX10, TX10, 19)) hK hT ha (by decide) (fun e9 hs => ⟨_, hs.1⟩) rfl
theorem rc_13 (hK : XK E s) (hT : TW E K F G H) (ha : K a = 13) : ∃ cell : Cell, H[a]? = some cell ∧ cell.vm.isStatics = false ∧ s.vm.findClass RX11 = some cell.cls := x_recv (ci := 12) (q := (RX11, TX11, 52)) hK hT ha (by decide) (fun e9 hs => ⟨_, hs.1⟩) rfl
theorem xlk {G G0 G1 : XG} {i x : Int32} {I X z : Int} (h : G1 = cput G a i.toNatClampNeg x) (h0 : G.2.1 a = G0.2.1 a) (hi : i.toInt = I) (hx : x.toInt = X) (h1 : 0 ≤ I) (h2 : 0 ≤ z) : (z = I → aI (G1.2.1 a) z = X) ∧ (z ≠ I → aI (G1.2.1 a) z = aI (G0.2.1 a) z) := by
  subst hi hx h
  have h3 : (cput G a i.toNatClampNeg x).2.1 a = upd (G.2.1 a) i.toNatClampNeg x := by show up2 _ _ _ _ _ = _; rw [up2_r, upr_at]
  rw [h3, aI_upd h1 z h2, ← h0]
  exact ⟨fun q => if_pos q, fun q => if_neg q⟩
theorem xnar3 {x : Int32} (h : x = 0 ∨ x = 1) : vp_nar .boolean x = x := by rcases h with h | h <;> subst h <;> rfl
theorem xnar1 {x : Int32} (h : xok 1 x) : vp_nar .char x = x := by
  have h2 : narrow .char (.int x) = .int x := h
  unfold vp_nar
  rw [h2]
theorem xnar2 {x : Int32} (h : xok 2 x) : vp_nar .byte x = x := by
  have h2 : narrow .byte (.int x) = .int x := h
  unfold vp_nar
  rw [h2]
end XR

theorem xbm (X : Int) : Int.bmod X 4294967296 = (X + 2147483648) % 4294967296 - 2147483648 := by
  rw [Int.bmod_def]
  split <;> omega
theorem xadd (x y : Int32) : (x + y).toInt = (x.toInt + y.toInt + 2147483648) % 4294967296 - 2147483648 := by rw [Int32.toInt_add]; exact xbm _
theorem xsub (x y : Int32) : (x - y).toInt = (x.toInt - y.toInt + 2147483648) % 4294967296 - 2147483648 := by rw [Int32.toInt_sub]; exact xbm _
theorem xmul (x y : Int32) : (x * y).toInt = (x.toInt * y.toInt + 2147483648) % 4294967296 - 2147483648 := by rw [Int32.toInt_mul]; exact xbm _
theorem xneg (x : Int32) : (-x).toInt = (-x.toInt + 2147483648) % 4294967296 - 2147483648 := by rw [Int32.toInt_neg]; exact xbm _
theorem xov {z Z : Int} (h : z = (Z + 2147483648) % 4294967296 - 2147483648) : z = Z ∨ Z < -2147483648 ∨ 2147483648 ≤ Z := by omega
theorem xnz {v : Int32} (h : v = 0 ∨ v = 1) : narrow .boolean (.int v) = .int v := by rcases h with h | h <;> subst h <;> rfl
theorem x01 {v : Int32} (h : v.toInt = 0 ∨ v.toInt = 1) : v = 0 ∨ v = 1 := h.elim (fun q => Or.inl (Int32.toInt_inj.mp q)) (fun q => Or.inr (Int32.toInt_inj.mp q))
theorem xdiv (x y : Int32) (h0 : 0 ≤ x.toInt) (h1 : 0 < y.toInt) : (x / y).toInt = x.toInt / y.toInt := by
  have hx := xr x
  have h2 : 0 ≤ x.toInt / y.toInt := Int.ediv_nonneg h0 (by omega)
  have h3 : x.toInt / y.toInt ≤ x.toInt := Int.ediv_le_self _ h0
  rw [Int32.toInt_div, Int.tdiv_eq_ediv_of_nonneg h0]
  exact Int.bmod_eq_of_le (by omega) (by omega)
section XI
variable {p : Program} {l : Launch} {e : Env} {R : Room} {s : State} {m : MethodId} {args : Array Value} {below : List Frame} {meth : Method} {c : Code} {H : Heap} {locs : List Loc} {cells slots : Nat} {Q : State → Prop}
variable {pc : Nat} {ls : Array Slot} {rest : List Value} {cc : ByteArray} {nL : Nat} {E : XE} {X Y : Int}
theorem xi_iadd (hx : p.tables.exec = Jvm.exec) (hb : c.code = cc) {x y : Int32} (hX : x.toInt = X) (hY : y.toInt = Y) (hdg : decode cc pc = .ok (.iadd, 1)) (kk : ∀ z : Int32, (z.toInt = X + Y ∨ X + Y < -2147483648 ∨ 2147483648 ≤ X + Y) → W p l e R s m args below meth c H locs cells slots Q (F0 m (pc + 1) ls (.int z :: rest))) : W p l e R s m args below meth c H locs cells slots Q (F0 m pc ls (.int y :: .int x :: rest)) :=
  lv_iadd hx hb hdg (kk _ (xov (by rw [xadd, hX, hY])))
theorem xi_isub (hx : p.tables.exec = Jvm.exec) (hb : c.code = cc) {x y : Int32} (hX : x.toInt = X) (hY : y.toInt = Y) (hdg : decode cc pc = .ok (.isub, 1)) (kk : ∀ z : Int32, (z.toInt = X - Y ∨ X - Y < -2147483648 ∨ 2147483648 ≤ X - Y) → W p l e R s m args below meth c H locs cells slots Q (F0 m (pc + 1) ls (.int z :: rest))) : W p l e R s m args below meth c H locs cells slots Q (F0 m pc ls (.int y :: .int x :: rest)) :=
  lv_isub hx hb hdg (kk _ (xov (by rw [xsub, hX, hY])))
theorem xi_imul (hx : p.tables.exec = Jvm.exec) (hb : c.code = cc) {x y : Int32} (hX : x.toInt = X) (hY : y.toInt = Y) (hdg : decode cc pc = .ok (.imul, 1)) (kk : ∀ z : Int32, (z.toInt = X * Y ∨ X * Y < -2147483648 ∨ 2147483648 ≤ X * Y) → W p l e R s m args below meth c H locs cells slots Q (F0 m (pc + 1) ls (.int z :: rest))) : W p l e R s m args below meth c H locs cells slots Q (F0 m pc ls (.int y :: .int x :: rest)) :=
  lv_imul hx hb hdg (kk _ (xov (by rw [xmul, hX, hY])))
theorem xi_ineg (hx : p.tables.exec = Jvm.exec) (hb : c.code = cc) {x : Int32} (hX : x.toInt = X) (hdg : decode cc pc = .ok (.ineg, 1)) (kk : ∀ z : Int32, (z.toInt = -X ∨ -X < -2147483648 ∨ 2147483648 ≤ -X) → W p l e R s m args below meth c H locs cells slots Q (F0 m (pc + 1) ls (.int z :: rest))) : W p l e R s m args below meth c H locs cells slots Q (F0 m pc ls (.int x :: rest)) :=
  lv_ineg hx hb hdg (kk _ (xov (by rw [xneg, hX])))
theorem xi_idiv (hx : p.tables.exec = Jvm.exec) (hb : c.code = cc) {x y : Int32} (hX : x.toInt = X) (hY : y.toInt = Y) (hpos : 0 < y.toInt) (hdg : decode cc pc = .ok (.idiv, 1)) (kk : ∀ z : Int32, (0 ≤ X → z.toInt = X / Y) → W p l e R s m args below meth c H locs cells slots Q (F0 m (pc + 1) ls (.int z :: rest))) : W p l e R s m args below meth c H locs cells slots Q (F0 m pc ls (.int y :: .int x :: rest)) :=
  lv_idiv hx hb hdg (fun q => by rw [q] at hpos; exact absurd hpos (by decide)) (kk _ (fun h0 => by subst hX hY; exact xdiv x y h0 hpos))
theorem xi_irem (hx : p.tables.exec = Jvm.exec) (hb : c.code = cc) {x y : Int32} (hX : x.toInt = X) (hY : y.toInt = Y) (hpos : 0 < y.toInt) (hdg : decode cc pc = .ok (.irem, 1)) (kk : ∀ z : Int32, (0 ≤ X → z.toInt = X % Y) → W p l e R s m args below meth c H locs cells slots Q (F0 m (pc + 1) ls (.int z :: rest))) : W p l e R s m args below meth c H locs cells slots Q (F0 m pc ls (.int y :: .int x :: rest)) :=
  lv_irem hx hb hdg (fun q => by rw [q] at hpos; exact absurd hpos (by decide)) (kk _ (fun h0 => by
    subst hX hY
    have hx := xr x
    have h1 := Int.emod_nonneg x.toInt (show y.toInt ≠ 0 by omega)
    have h2 := Int.emod_lt_of_pos x.toInt hpos
    have h3 := Int.mul_ediv_add_emod x.toInt y.toInt
    have h4 : x.toInt / y.toInt * y.toInt = x.toInt - x.toInt % y.toInt := by rw [Int.mul_comm]; omega
    have h5 : 0 ≤ x.toInt / y.toInt := Int.ediv_nonneg h0 (by omega)
    have h6 : 0 ≤ x.toInt / y.toInt * y.toInt := Int.mul_nonneg h5 (by omega)
    rw [xsub, xmul, xdiv x y h0 hpos, h4]
    rw [h4] at h6
    omega))
theorem xi_iinc (hx : p.tables.exec = Jvm.exec) (hb : c.code = cc) {i k : Nat} {n : Int} {x : Int32} {lv : List (Nat × Value)} {lv' : Int32 → List (Nat × Value)} (hX : x.toInt = X) (hn9 : (Int32.ofInt n).toInt = n) (hdg : decode cc pc = .ok (.iinc i n, 3)) (h : lv_has ls nL lv) (hk : lv[k]? = some (i, .int x)) (hn : i < nL) (hl : ∀ z : Int32, (i, Value.int z) :: lv.filter (fun q => !(q.1 == i) && !(q.1 + 1 == i && q.2.category == 2)) = lv' z) (kk : ∀ (z : Int32) (ls' : Array Slot), (z.toInt = X + n ∨ X + n < -2147483648 ∨ 2147483648 ≤ X + n) → lv_has ls' nL (lv' z) → W p l e R s m args below meth c H locs cells slots Q (F0 m (pc + 3) ls' rest)) : W p l e R s m args below meth c H locs cells slots Q (F0 m pc ls rest) :=
  lv_iinc hx hb hdg h hk rfl hn (hl _) (fun ls' h' => kk _ ls' (xov (by rw [xadd, hX, hn9])) h')
theorem xi_ceq (hx : p.tables.exec = Jvm.exec) (hb : c.code = cc) {x y : Int32} (hX : x.toInt = X) (hY : y.toInt = Y) {off : Int} {tgt : Nat} (hdg : decode cc pc = .ok (.if_icmp .eq off, 3)) (ht : (pc : Int) + off = (tgt : Int)) (kt : X = Y → W p l e R s m args below meth c H locs cells slots Q (F0 m tgt ls rest)) (kf : ¬ (X = Y) → W p l e R s m args below meth c H locs cells slots Q (F0 m (pc + 3) ls rest)) : W p l e R s m args below meth c H locs cells slots Q (F0 m pc ls (.int y :: .int x :: rest)) :=
  lv_icmp_eq hx hb hdg ht (fun q => kt (by subst hX hY; exact congrArg Int32.toInt q)) (fun q => kf (by subst hX hY; exact fun z => q (Int32.toInt_inj.mp z)))
theorem xi_zeq (hx : p.tables.exec = Jvm.exec) (hb : c.code = cc) {x : Int32} (hX : x.toInt = X) {off : Int} {tgt : Nat} (hdg : decode cc pc = .ok (.ifCond .eq off, 3)) (ht : (pc : Int) + off = (tgt : Int)) (kt : X = 0 → W p l e R s m args below meth c H locs cells slots Q (F0 m tgt ls rest)) (kf : ¬ (X = 0) → W p l e R s m args below meth c H locs cells slots Q (F0 m (pc + 3) ls rest)) : W p l e R s m args below meth c H locs cells slots Q (F0 m pc ls (.int x :: rest)) :=
  lv_if_eq hx hb hdg ht (fun q => kt (by subst hX; exact congrArg Int32.toInt q)) (fun q => kf (by subst hX; exact fun z => q (Int32.toInt_inj.mp z)))
theorem xi_cne (hx : p.tables.exec = Jvm.exec) (hb : c.code = cc) {x y : Int32} (hX : x.toInt = X) (hY : y.toInt = Y) {off : Int} {tgt : Nat} (hdg : decode cc pc = .ok (.if_icmp .ne off, 3)) (ht : (pc : Int) + off = (tgt : Int)) (kt : X ≠ Y → W p l e R s m args below meth c H locs cells slots Q (F0 m tgt ls rest)) (kf : ¬ (X ≠ Y) → W p l e R s m args below meth c H locs cells slots Q (F0 m (pc + 3) ls rest)) : W p l e R s m args below meth c H locs cells slots Q (F0 m pc ls (.int y :: .int x :: rest)) :=
  lv_icmp_ne hx hb hdg ht (fun q => kt (by subst hX hY; exact fun z => q (Int32.toInt_inj.mp z))) (fun q => kf (by subst hX hY; exact fun z => z (congrArg Int32.toInt q)))
theorem xi_zne (hx : p.tables.exec = Jvm.exec) (hb : c.code = cc) {x : Int32} (hX : x.toInt = X) {off : Int} {tgt : Nat} (hdg : decode cc pc = .ok (.ifCond .ne off, 3)) (ht : (pc : Int) + off = (tgt : Int)) (kt : X ≠ 0 → W p l e R s m args below meth c H locs cells slots Q (F0 m tgt ls rest)) (kf : ¬ (X ≠ 0) → W p l e R s m args below meth c H locs cells slots Q (F0 m (pc + 3) ls rest)) : W p l e R s m args below meth c H locs cells slots Q (F0 m pc ls (.int x :: rest)) :=
  lv_if_ne hx hb hdg ht (fun q => kt (by subst hX; exact fun z => q (Int32.toInt_inj.mp z))) (fun q => kf (by subst hX; exact fun z => z (congrArg Int32.toInt q)))
theorem xi_clt (hx : p.tables.exec = Jvm.exec) (hb : c.code = cc) {x y : Int32} (hX : x.toInt = X) (hY : y.toInt = Y) {off : Int} {tgt : Nat} (hdg : decode cc pc = .ok (.if_icmp .lt off, 3)) (ht : (pc : Int) + off = (tgt : Int)) (kt : X < Y → W p l e R s m args below meth c H locs cells slots Q (F0 m tgt ls rest)) (kf : ¬ (X < Y) → W p l e R s m args below meth c H locs cells slots Q (F0 m (pc + 3) ls rest)) : W p l e R s m args below meth c H locs cells slots Q (F0 m pc ls (.int y :: .int x :: rest)) :=
  lv_icmp_lt hx hb hdg ht (fun q => kt (by subst hX hY; exact Int32.lt_iff_toInt_lt.mp q)) (fun q => kf (by subst hX hY; exact fun z => q (Int32.lt_iff_toInt_lt.mpr z)))
theorem xi_zlt (hx : p.tables.exec = Jvm.exec) (hb : c.code = cc) {x : Int32} (hX : x.toInt = X) {off : Int} {tgt : Nat} (hdg : decode cc pc = .ok (.ifCond .lt off, 3)) (ht : (pc : Int) + off = (tgt : Int)) (kt : X < 0 → W p l e R s m args below meth c H locs cells slots Q (F0 m tgt ls rest)) (kf : ¬ (X < 0) → W p l e R s m args below meth c H locs cells slots Q (F0 m (pc + 3) ls rest)) : W p l e R s m args below meth c H locs cells slots Q (F0 m pc ls (.int x :: rest)) :=
  lv_if_lt hx hb hdg ht (fun q => kt (by subst hX; exact Int32.lt_iff_toInt_lt.mp q)) (fun q => kf (by subst hX; exact fun z => q (Int32.lt_iff_toInt_lt.mpr z)))
theorem xi_cge (hx : p.tables.exec = Jvm.exec) (hb : c.code = cc) {x y : Int32} (hX : x.toInt = X) (hY : y.toInt = Y) {off : Int} {tgt : Nat} (hdg : decode cc pc = .ok (.if_icmp .ge off, 3)) (ht : (pc : Int) + off = (tgt : Int)) (kt : Y ≤ X → W p l e R s m args below meth c H locs cells slots Q (F0 m tgt ls rest)) (kf : ¬ (Y ≤ X) → W p l e R s m args below meth c H locs cells slots Q (F0 m (pc + 3) ls rest)) : W p l e R s m args below meth c H locs cells slots Q (F0 m pc ls (.int y :: .int x :: rest)) :=
  lv_icmp_ge hx hb hdg ht (fun q => kt (by subst hX hY; exact Int32.le_iff_toInt_le.mp q)) (fun q => kf (by subst hX hY; exact fun z => q (Int32.le_iff_toInt_le.mpr z)))
theorem xi_zge (hx : p.tables.exec = Jvm.exec) (hb : c.code = cc) {x : Int32} (hX : x.toInt = X) {off : Int} {tgt : Nat} (hdg : decode cc pc = .ok (.ifCond .ge off, 3)) (ht : (pc : Int) + off = (tgt : Int)) (kt : 0 ≤ X → W p l e R s m args below meth c H locs cells slots Q (F0 m tgt ls rest)) (kf : ¬ (0 ≤ X) → W p l e R s m args below meth c H locs cells slots Q (F0 m (pc + 3) ls rest)) : W p l e R s m args below meth c H locs cells slots Q (F0 m pc ls (.int x :: rest)) :=
  lv_if_ge hx hb hdg ht (fun q => kt (by subst hX; exact Int32.le_iff_toInt_le.mp q)) (fun q => kf (by subst hX; exact fun z => q (Int32.le_iff_toInt_le.mpr z)))
theorem xi_cgt (hx : p.tables.exec = Jvm.exec) (hb : c.code = cc) {x y : Int32} (hX : x.toInt = X) (hY : y.toInt = Y) {off : Int} {tgt : Nat} (hdg : decode cc pc = .ok (.if_icmp .gt off, 3)) (ht : (pc : Int) + off = (tgt : Int)) (kt : Y < X → W p l e R s m args below meth c H locs cells slots Q (F0 m tgt ls rest)) (kf : ¬ (Y < X) → W p l e R s m args below meth c H locs cells slots Q (F0 m (pc + 3) ls rest)) : W p l e R s m args below meth c H locs cells slots Q (F0 m pc ls (.int y :: .int x :: rest)) :=
  lv_icmp_gt hx hb hdg ht (fun q => kt (by subst hX hY; exact Int32.lt_iff_toInt_lt.mp q)) (fun q => kf (by subst hX hY; exact fun z => q (Int32.lt_iff_toInt_lt.mpr z)))
theorem xi_zgt (hx : p.tables.exec = Jvm.exec) (hb : c.code = cc) {x : Int32} (hX : x.toInt = X) {off : Int} {tgt : Nat} (hdg : decode cc pc = .ok (.ifCond .gt off, 3)) (ht : (pc : Int) + off = (tgt : Int)) (kt : 0 < X → W p l e R s m args below meth c H locs cells slots Q (F0 m tgt ls rest)) (kf : ¬ (0 < X) → W p l e R s m args below meth c H locs cells slots Q (F0 m (pc + 3) ls rest)) : W p l e R s m args below meth c H locs cells slots Q (F0 m pc ls (.int x :: rest)) :=
  lv_if_gt hx hb hdg ht (fun q => kt (by subst hX; exact Int32.lt_iff_toInt_lt.mp q)) (fun q => kf (by subst hX; exact fun z => q (Int32.lt_iff_toInt_lt.mpr z)))
theorem xi_cle (hx : p.tables.exec = Jvm.exec) (hb : c.code = cc) {x y : Int32} (hX : x.toInt = X) (hY : y.toInt = Y) {off : Int} {tgt : Nat} (hdg : decode cc pc = .ok (.if_icmp .le off, 3)) (ht : (pc : Int) + off = (tgt : Int)) (kt : X ≤ Y → W p l e R s m args below meth c H locs cells slots Q (F0 m tgt ls rest)) (kf : ¬ (X ≤ Y) → W p l e R s m args below meth c H locs cells slots Q (F0 m (pc + 3) ls rest)) : W p l e R s m args below meth c H locs cells slots Q (F0 m pc ls (.int y :: .int x :: rest)) :=
  lv_icmp_le hx hb hdg ht (fun q => kt (by subst hX hY; exact Int32.le_iff_toInt_le.mp q)) (fun q => kf (by subst hX hY; exact fun z => q (Int32.le_iff_toInt_le.mpr z)))
theorem xi_zle (hx : p.tables.exec = Jvm.exec) (hb : c.code = cc) {x : Int32} (hX : x.toInt = X) {off : Int} {tgt : Nat} (hdg : decode cc pc = .ok (.ifCond .le off, 3)) (ht : (pc : Int) + off = (tgt : Int)) (kt : X ≤ 0 → W p l e R s m args below meth c H locs cells slots Q (F0 m tgt ls rest)) (kf : ¬ (X ≤ 0) → W p l e R s m args below meth c H locs cells slots Q (F0 m (pc + 3) ls rest)) : W p l e R s m args below meth c H locs cells slots Q (F0 m pc ls (.int x :: rest)) :=
  lv_if_le hx hb hdg ht (fun q => kt (by subst hX; exact Int32.le_iff_toInt_le.mp q)) (fun q => kf (by subst hX; exact fun z => q (Int32.le_iff_toInt_le.mpr z)))
variable {own : String} {w0 : Cond} {mc ms : Nat} {S : Type}
theorem x_ri {post : Value → S → Prop} {B : S → Heap → Prop} {v : Int32} (hx : p.tables.exec = Jvm.exec) (hb : c.code = cc) (hr : meth.sig.returnType = some .int) (hlk : meth.locks = false) (hQ : Q = MQ below (XQ E post B) args s mc ms (xA E)) (hc : cells ≤ mc) (hs : slots ≤ ms) (hS : va_S (xA E) s.heap H locs) (hdg : decode cc pc = .ok (.ireturn, 1)) (u : S) (hp : post (.int v) u) (hB : B u H) : W p l e R s m args below meth c H locs cells slots Q (F0 m pc ls [.int v]) := by
  subst hQ
  exact W.widen hc hs (W.iret hx hb hr (fun t ht hW => ⟨⟨_, u, rfl, hp, by rw [ht]; exact hB⟩, hS.F ht⟩) hS.2.2 hdg hlk)
theorem x_rz {post : Value → S → Prop} {B : S → Heap → Prop} {v : Int32} {ty : FieldType} (hx : p.tables.exec = Jvm.exec) (hb : c.code = cc) (hr : meth.sig.returnType = some ty) (hn : narrow ty (.int v) = .int v) (hlk : meth.locks = false) (hQ : Q = MQ below (XQ E post B) args s mc ms (xA E)) (hc : cells ≤ mc) (hs : slots ≤ ms) (hS : va_S (xA E) s.heap H locs) (hdg : decode cc pc = .ok (.ireturn, 1)) (u : S) (hp : post (.int v) u) (hB : B u H) : W p l e R s m args below meth c H locs cells slots Q (F0 m pc ls [.int v]) := by
  subst hQ
  exact W.widen hc hs (W.zret hx hb hr hn (fun t ht hW => ⟨⟨_, u, rfl, hp, by rw [ht]; exact hB⟩, hS.F ht⟩) hS.2.2 hdg hlk)
theorem x_ra {post : Value → S → Prop} {B : S → Heap → Prop} {v : Value} {rt : FieldType} (hx : p.tables.exec = Jvm.exec) (hb : c.code = cc) (hr : meth.sig.returnType = some rt) (hrt : (∃ n, rt = .object n) ∨ ∃ t, rt = .array t) (hv : v = .null ∨ ∃ a, v = .ref a) (hlk : meth.locks = false) (hQ : Q = MQ below (XQ E post B) args s mc ms (xA E)) (hc : cells ≤ mc) (hs : slots ≤ ms) (hS : va_S (xA E) s.heap H locs) (hdg : decode cc pc = .ok (.areturn, 1)) (u : S) (hp : post v u) (hB : B u H) : W p l e R s m args below meth c H locs cells slots Q (F0 m pc ls [v]) := by
  subst hQ
  exact W.widen hc hs (W.aret hx hb hr hrt hv (fun t ht hW => ⟨⟨_, u, rfl, hp, by rw [ht]; exact hB⟩, hS.F ht⟩) hS.2.2 hdg hlk)
theorem x_rv {post : S → Prop} {B : S → Heap → Prop} (hx : p.tables.exec = Jvm.exec) (hb : c.code = cc) (hr : meth.sig.returnType = none) (hlk : meth.locks = false) (hQ : Q = MQ below (XQv E post B) args s mc ms (xA E)) (hc : cells ≤ mc) (hs : slots ≤ ms) (hS : va_S (xA E) s.heap H locs) (hdg : decode cc pc = .ok (.return_, 1)) (u : S) (hp : post u) (hB : B u H) : W p l e R s m args below meth c H locs cells slots Q (F0 m pc ls []) := by
  subst hQ
  exact W.widen hc hs (W.vret hx hb hr (fun t ht hW => ⟨⟨u, rfl, hp, by rw [ht]; exact hB⟩, hS.F ht⟩) hS.2.2 hdg hlk)
end XI
end
theorem xrA (f : Nat → Int32) (z : Int) : -2147483648 ≤ aI f z ∧ aI f z < 2147483648 := xr (f z.toNat)
theorem xz01 {x : Int32} {z : Int} (h : xok 3 x) (e : x.toInt = z) : z = 0 ∨ z = 1 := by
  have h2 : narrow .boolean (.int x) = .int x := h
  have h3 : x &&& 1 = x := by
    have h4 : (Value.int (x &&& 1)) = Value.int x := h2
    exact Value.int.inj h4
  subst e
  have key : ∀ i, i < 32 → bt x i = (bt x i && decide (i = 0)) := fun i hi => by
    have q := congrArg (fun y => bt y i) h3
    simp only [b_and, b_1 i hi] at q
    exact q.symm
  rw [bt01 (fun i h1 h2 => by rw [key i h2, decide_eq_false (by omega)]; simp)]
  split
  · exact Or.inr rfl
  · exact Or.inl rfl
theorem RO.has {r b : Int → Int} (h : RO r b) {t k x : Int} (hx : x = bI (b t) k) (h0 : 0 ≤ t ∧ t < 3 ∧ 0 ≤ k ∧ k < 30) : (x = 1 ∧ cel r t k 0 ≠ -2000) ∨ (x = 0 ∧ cel r t k 0 = -2000) := by
  obtain ⟨h1, -⟩ := h.1 t k h0.1 h0.2.1 h0.2.2.1 h0.2.2.2
  rw [cel_in (by omega), Int.mul_zero, Int.add_zero]
  rcases bI01 (b t) k with e | e
  · rw [e] at hx h1
    refine Or.inr ⟨hx, ?_⟩
    by_cases q : r (90 * t + k) = -2000
    · exact q
    · exact absurd (h1.mpr q) (by decide)
  · rw [e] at hx h1
    exact Or.inl ⟨hx, h1.mp rfl⟩
theorem RO.okc {r b : Int → Int} (h : RO r b) (t k c : Int) : okv (cel r t k c) := by
  unfold cel
  split
  · exact h.2.1 _ (by omega) (by omega)
  · exact Or.inl rfl
theorem RO.absent {r b : Int → Int} (h : RO r b) (t k c : Int) (hc : 0 ≤ c ∧ c < 3) : cel r t k c = -2000 ↔ cel r t k 0 = -2000 := by
  by_cases g : 0 ≤ t ∧ t < 3 ∧ 0 ≤ k ∧ k < 30
  · rw [cel_in (by omega), cel_in (by omega), Int.mul_zero, Int.add_zero]
    exact (h.1 t k g.1 g.2.1 g.2.2.1 g.2.2.2).2 c hc.1 hc.2
  · rw [cel_out (by omega), cel_out (by omega)]
/-! ===== frames: what may have changed ===== -/
/-- only the int fields d, the rows c, the rows of references r may have changed -/
def XFr (d : List (Nat × Nat)) (c r : List Nat) (G G' : XG) : Prop := (∀ b j, (b, j) ∉ d → G'.1 b j = G.1 b j) ∧ (∀ b, b ∉ c → G'.2.1 b = G.2.1 b) ∧ (∀ b, b ∉ r → G'.2.2.1 b = G.2.2.1 b)
theorem XFr.rf {d : List (Nat × Nat)} {c r : List Nat} {G : XG} : XFr d c r G G := ⟨fun _ _ _ => rfl, fun _ _ => rfl, fun _ _ => rfl⟩
theorem XFr.dput {d : List (Nat × Nat)} {c r : List Nat} {G G' : XG} {a j : Nat} {v : Int32} (h : XFr d c r G G') (hm : (a, j) ∈ d) : XFr d c r G (dput G' a j v) := by
  refine ⟨fun b i hb => ?_, h.2.1, h.2.2⟩
  rw [← h.1 b i hb]
  show up2 G'.1 a j v b i = _
  unfold up2
  rw [if_neg (fun q => hb (by rw [q.1, q.2]; exact hm))]
theorem XFr.cput {d : List (Nat × Nat)} {c r : List Nat} {G G' : XG} {a i : Nat} {v : Int32} (h : XFr d c r G G') (hm : a ∈ c) : XFr d c r G (cput G' a i v) :=
  ⟨h.1, fun b hb => (up2_ne (fun q => hb (by rw [q]; exact hm))).trans (h.2.1 b hb), h.2.2⟩
theorem XFr.ccopy {d : List (Nat × Nat)} {c r : List Nat} {G G' : XG} {a : Nat} {f : Nat → Int32} (h : XFr d c r G G') (hm : a ∈ c) : XFr d c r G (ccopy G' a f) :=
  ⟨h.1, fun b hb => (upr_ne (fun q => hb (by rw [q]; exact hm))).trans (h.2.1 b hb), h.2.2⟩
theorem XFr.rput {d : List (Nat × Nat)} {c r : List Nat} {G G' : XG} {a i : Nat} {v : Option Nat} (h : XFr d c r G G') (hm : a ∈ r) : XFr d c r G (rput G' a i v) :=
  ⟨h.1, h.2.1, fun b hb => (up2_ne (fun q => hb (by rw [q]; exact hm))).trans (h.2.2 b hb)⟩
theorem XFr.call {d d1 : List (Nat × Nat)} {c c1 r r1 : List Nat} {G G' G2 : XG} (h : XFr d c r G G') (h1 : XFr d1 c1 r1 G' G2) (hd : ∀ q ∈ d1, q ∈ d) (hc : ∀ q ∈ c1, q ∈ c) (hr : ∀ q ∈ r1, q ∈ r) : XFr d c r G G2 :=
  ⟨fun b j hb => (h1.1 b j (fun q => hb (hd _ q))).trans (h.1 b j hb), fun b hb => (h1.2.1 b (fun q => hb (hc _ q))).trans (h.2.1 b hb), fun b hb => (h1.2.2 b (fun q => hb (hr _ q))).trans (h.2.2 b hb)⟩
theorem xm0 {α : Type} {l : List α} : ∀ q ∈ ([] : List α), q ∈ l := fun _ h => by cases h
theorem xm1 {α : Type} {l l1 : List α} {x : α} (i : Nat) (h : l[i]? = some x) (h1 : ∀ q ∈ l1, q ∈ l) : ∀ q ∈ x :: l1, q ∈ l := List.forall_mem_cons.mpr ⟨List.mem_of_getElem? h, h1⟩
theorem xn0 {α : Type} {x : α} : x ∉ ([] : List α) := fun h => by cases h
theorem xn1 {b a : Nat} {l : List Nat} (h : b ≠ a) (h1 : b ∉ l) : b ∉ a :: l := fun q => (List.mem_cons.mp q).elim h h1
theorem xnj {b j a i : Nat} {l : List (Nat × Nat)} (h : j ≠ i) (h1 : (b, j) ∉ l) : (b, j) ∉ (a, i) :: l := fun q => (List.mem_cons.mp q).elim (fun e => h (congrArg Prod.snd e)) h1
theorem xna {b j a i : Nat} {l : List (Nat × Nat)} (h : b ≠ a) (h1 : (b, j) ∉ l) : (b, j) ∉ (a, i) :: l := fun q => (List.mem_cons.mp q).elim (fun e => h (congrArg Prod.fst e)) h1
theorem xne_k {K : Nat → Nat} {a b x y : Nat} (ha : K a = x) (hb : K b = y) (h : x ≠ y) : a ≠ b := fun e => h (by rw [← ha, ← hb, e])
theorem xne_j {F : Nat → Nat → Nat} {a b x y : Nat} (ha : F a 99 = x) (hb : F b 99 = y) (h : x ≠ y) : a ≠ b := fun e => h (by rw [← ha, ← hb, e])
theorem aI_put {G : XG} {a : Nat} {i x : Int32} (hi : 0 ≤ i.toInt) (z : Int) (hz : 0 ≤ z) : aI ((cput G a i.toNatClampNeg x).2.1 a) z = if z = i.toInt then x.toInt else aI (G.2.1 a) z := by
  have h : (cput G a i.toNatClampNeg x).2.1 a = upd (G.2.1 a) i.toNatClampNeg x := by show up2 _ _ _ _ _ = _; rw [up2_r, upr_at]
  rw [h]
  exact aI_upd hi z hz
/-! ===== lists out of rows; the order of the rules ===== -/
def lst {α : Type} (f : Nat → α) (n : Nat) : List α := (List.range n).map f
theorem lst_0 {α : Type} (f : Nat → α) : lst f 0 = [] := rfl
theorem lst_s {α : Type} (f : Nat → α) (n : Nat) : lst f (n + 1) = lst f n ++ [f n] := by
  unfold lst
  rw [List.range_succ, List.map_append]
  rfl
theorem lst_len {α : Type} (f : Nat → α) (n : Nat) : (lst f n).length = n := by
  unfold lst
  rw [List.length_map, List.length_range]
theorem lst_get {α : Type} (f : Nat → α) {n i : Nat} (h : i < n) : (lst f n)[i]? = some (f i) := by
  unfold lst
  rw [List.getElem?_map, List.getElem?_range h]
  rfl
theorem lst_congr {α : Type} {f g : Nat → α} {n : Nat} (h : ∀ i, i < n → f i = g i) : lst f n = lst g n := by
  unfold lst
  exact List.map_congr_left (fun i hi => h i (List.mem_range.mp hi))
theorem lst_push {α : Type} {f g : Nat → α} {n : Nat} {x : α} (h : ∀ i, i < n → g i = f i) (hx : g n = x) : lst g (n + 1) = lst f n ++ [x] := by
  rw [lst_s, lst_congr h, hx]
/-- number, subject, before, after, late, fails -/
abbrev Qt : Type := Int × Int × Int × Int × Int × Int
def qt (f0 f1 f2 f3 f4 f5 : Nat → Int32) (i : Nat) : Qt := ((f0 i).toInt, (f1 i).toInt, (f2 i).toInt, (f3 i).toInt, (f4 i).toInt, (f5 i).toInt)
/-- the place behind the last of the first n that is not above v -/
def posR (rk : Nat → Int) (v : Int) : Nat → Nat
  | 0 => 0
  | n + 1 => if v < rk n then posR rk v n else n + 1
theorem posR_le (rk : Nat → Int) (v : Int) (n : Nat) : posR rk v n ≤ n := by
  induction n with
  | zero => exact Nat.le_refl _
  | succ n ih =>
    unfold posR
    split <;> omega
theorem posR_congr {rk rk2 : Nat → Int} {v : Int} {n : Nat} (h : ∀ i, i < n → rk i = rk2 i) : posR rk v n = posR rk2 v n := by
  induction n with
  | zero => rfl
  | succ n ih =>
    unfold posR
    rw [h n (by omega), ih (fun i hi => h i (by omega))]
def insF {α : Type} (f : Nat → α) (p : Nat) (x : α) : Nat → α := fun i => if i < p then f i else if i = p then x else f (i - 1)
/-- of the numbers below n those that are, by rank: how many, and which -/
def ordN (pr : Nat → Bool) (rk : Nat → Int) : Nat → Nat × (Nat → Nat)
  | 0 => (0, fun _ => 0)
  | n + 1 => if pr n then ((ordN pr rk n).1 + 1, insF (ordN pr rk n).2 (posR (fun i => rk ((ordN pr rk n).2 i)) (rk n) (ordN pr rk n).1) n) else ordN pr rk n
theorem ordN_le (pr : Nat → Bool) (rk : Nat → Int) (n : Nat) : (ordN pr rk n).1 ≤ n := by
  induction n with
  | zero => exact Nat.le_refl _
  | succ n ih =>
    unfold ordN
    split
    · show (ordN pr rk n).1 + 1 ≤ n + 1
      omega
    · omega
theorem ordN_in (pr : Nat → Bool) (rk : Nat → Int) (n : Nat) : ∀ i, i < (ordN pr rk n).1 → (ordN pr rk n).2 i < n ∧ pr ((ordN pr rk n).2 i) = true := by
  induction n with
  | zero => intro i hi; exact absurd hi (Nat.not_lt_zero i)
  | succ n ih =>
    intro i hi
    unfold ordN at hi ⊢
    split at hi
    · rename_i hp
      rw [if_pos hp]
      have hl := posR_le (fun i => rk ((ordN pr rk n).2 i)) (rk n) (ordN pr rk n).1
      generalize posR (fun i => rk ((ordN pr rk n).2 i)) (rk n) (ordN pr rk n).1 = p at *
      have hi2 : i < (ordN pr rk n).1 + 1 := hi
      show insF _ _ _ _ < n + 1 ∧ pr (insF _ _ _ _) = true
      unfold insF
      by_cases h1 : i < p
      · rw [if_pos h1]
        have := ih i (by omega)
        exact ⟨by omega, this.2⟩
      · rw [if_neg h1]
        by_cases h2 : i = p
        · rw [if_pos h2]
          exact ⟨by omega, hp⟩
        · rw [if_neg h2]
          have := ih (i - 1) (by omega)
          exact ⟨by omega, this.2⟩
    · rename_i hp
      rw [if_neg hp]
      have := ih i hi
      exact ⟨by omega, this.2⟩
/-- the entries behind a place are one up, those ahead of it as they were -/
def shf {α : Type} (f g : Nat → α) (p n : Nat) : Prop := (∀ i, i < p → g i = f i) ∧ ∀ i, p < i → i ≤ n → g i = f (i - 1)
theorem shf_0 {α : Type} (f : Nat → α) (n : Nat) : shf f f n n := ⟨fun _ _ => rfl, fun i h1 h2 => absurd h1 (by omega)⟩
theorem shf_s {α : Type} {f g g2 : Nat → α} {p n : Nat} (h : shf f g (p + 1) n) (h0 : g2 (p + 1) = g p) (h1 : ∀ i, i ≠ p + 1 → g2 i = g i) : shf f g2 p n := by
  refine ⟨fun i hi => ?_, fun i h2 h3 => ?_⟩
  · rw [h1 i (by omega)]
    exact h.1 i (by omega)
  · by_cases e : i = p + 1
    · subst e
      rw [h0]
      exact h.1 p (by omega)
    · rw [h1 i e]
      exact h.2 i (by omega) h3
theorem shf_ins {α : Type} {f g g2 : Nat → α} {p n : Nat} {x : α} (h : shf f g p n) (h0 : g2 p = x) (h1 : ∀ i, i ≠ p → g2 i = g i) : ∀ i, i ≤ n → g2 i = insF f p x i := by
  intro i hi
  unfold insF
  by_cases e1 : i < p
  · rw [if_pos e1, h1 i (by omega)]
    exact h.1 i e1
  · rw [if_neg e1]
    by_cases e2 : i = p
    · rw [if_pos e2, e2, h0]
    · rw [if_neg e2, h1 i e2]
      exact h.2 i (by omega) hi
theorem posR_up {rk : Nat → Int} {v : Int} {n : Nat} (h : v < rk n) : posR rk v (n + 1) = posR rk v n := by
  rw [show posR rk v (n + 1) = if v < rk n then posR rk v n else n + 1 from rfl, if_pos h]
theorem posR_here {rk : Nat → Int} {v : Int} {n : Nat} (h : ¬ (v < rk n)) : posR rk v (n + 1) = n + 1 := by
  rw [show posR rk v (n + 1) = if v < rk n then posR rk v n else n + 1 from rfl, if_neg h]
theorem ordN_t {pr : Nat → Bool} {rk : Nat → Int} {n : Nat} (h : pr n = true) : ordN pr rk (n + 1) = ((ordN pr rk n).1 + 1, insF (ordN pr rk n).2 (posR (fun i => rk ((ordN pr rk n).2 i)) (rk n) (ordN pr rk n).1) n) := by
  rw [show ordN pr rk (n + 1) = if pr n then ((ordN pr rk n).1 + 1, insF (ordN pr rk n).2 (posR (fun i => rk ((ordN pr rk n).2 i)) (rk n) (ordN pr rk n).1) n) else ordN pr rk n from rfl, if_pos h]
theorem ordN_f {pr : Nat → Bool} {rk : Nat → Int} {n : Nat} (h : pr n = false) : ordN pr rk (n + 1) = ordN pr rk n := by
  rw [show ordN pr rk (n + 1) = if pr n then ((ordN pr rk n).1 + 1, insF (ordN pr rk n).2 (posR (fun i => rk ((ordN pr rk n).2 i)) (rk n) (ordN pr rk n).1) n) else ordN pr rk n from rfl, h, if_neg Bool.false_ne_true]
/-- f1 has those of f0 below n in order -/
def ORn (f0 f1 : Nat → Option Nat) (sz : Int) (rk : Nat → Int) (n : Nat) : Prop := sz = ((ordN (fun i => (f0 i).isSome) rk n).1 : Int) ∧ ∀ i, i < (ordN (fun i => (f0 i).isSome) rk n).1 → f1 i = f0 ((ordN (fun i => (f0 i).isSome) rk n).2 i)
theorem ORn.sm {f0 f1 : Nat → Option Nat} {sz : Int} {rk : Nat → Int} {n : Nat} (h : ORn f0 f1 sz rk n) (i : Nat) (hi : (i : Int) < sz) : f1 i ≠ none := by
  have h1 := h.1
  rw [h.2 i (by omega)]
  have := (ordN_in (fun i => (f0 i).isSome) rk n i (by omega)).2
  intro e
  rw [e] at this
  cases this
theorem ORn.skip {f0 f1 : Nat → Option Nat} {sz : Int} {rk : Nat → Int} {n : Nat} (h : ORn f0 f1 sz rk n) (hn : f0 n = none) : ORn f0 f1 sz rk (n + 1) := by
  unfold ORn at h ⊢
  rw [ordN_f (by rw [hn]; rfl)]
  exact h
theorem ORn.step {f0 f1 g1 : Nat → Option Nat} {sz sz2 v : Int} {rk rk2 : Nat → Int} {n q : Nat} (h : ORn f0 f1 sz rk n) (hn : f0 n = some q) (hr : rk n = v) (hk : ∀ j : Nat, (j : Int) < sz → rk2 j = rk ((ordN (fun i => (f0 i).isSome) rk n).2 j)) (hs : sz2 = sz + 1) (hg : ∀ i : Nat, (i : Int) ≤ sz → g1 i = insF f1 (posR rk2 v sz.toNat) (some q) i) : ORn f0 g1 sz2 rk (n + 1) := by
  obtain ⟨h1, h2⟩ := h
  unfold ORn
  rw [ordN_t (by rw [hn]; rfl)]
  have hp : posR rk2 v sz.toNat = posR (fun i => rk ((ordN (fun i => (f0 i).isSome) rk n).2 i)) (rk n) (ordN (fun i => (f0 i).isSome) rk n).1 := by
    rw [hr, show sz.toNat = (ordN (fun i => (f0 i).isSome) rk n).1 from by omega]
    exact posR_congr (fun i hi => hk i (by omega))
  rw [hp] at hg
  refine ⟨by rw [hs, h1]; rfl, fun i hi => ?_⟩
  have hi2 : i < (ordN (fun i => (f0 i).isSome) rk n).1 + 1 := hi
  have hl := posR_le (fun i => rk ((ordN (fun i => (f0 i).isSome) rk n).2 i)) (rk n) (ordN (fun i => (f0 i).isSome) rk n).1
  rw [hg i (by omega)]
  show insF f1 _ _ i = f0 (insF _ _ _ i)
  unfold insF
  generalize posR (fun i => rk ((ordN (fun i => (f0 i).isSome) rk n).2 i)) (rk n) (ordN (fun i => (f0 i).isSome) rk n).1 = p at *
  by_cases e1 : i < p
  · rw [if_pos e1, if_pos e1]
    exact h2 i (by omega)
  · rw [if_neg e1, if_neg e1]
    by_cases e2 : i = p
    · rw [if_pos e2, if_pos e2, hn]
    · rw [if_neg e2, if_neg e2]
      exact h2 (i - 1) (by omega)
section
/-! ===== what the world's rows tell ===== -/
theorem cput_j {G G1 : XG} {a i : Nat} {x : Int32} (h : G1 = cput G a i x) (j : Nat) : G1.2.1 a j = if j = i then x else G.2.1 a j := by
  subst h
  show up2 _ _ _ _ _ _ = _
  unfold up2
  by_cases e : j = i
  · rw [if_pos ⟨rfl, e⟩, if_pos e]
  · rw [if_neg (fun q => e q.2), if_neg e]
theorem rput_j {G G1 : XG} {a i : Nat} {x : Option Nat} (h : G1 = rput G a i x) (j : Nat) : G1.2.2.1 a j = if j = i then x else G.2.2.1 a j := by
  subst h
  show up2 _ _ _ _ _ _ = _
  unfold up2
  by_cases e : j = i
  · rw [if_pos ⟨rfl, e⟩, if_pos e]
  · rw [if_neg (fun q => e q.2), if_neg e]
/-- the questions of a list -/
def qL (G : XG) (F : Nat → Nat → Nat) (a : Nat) : List Qt := lst (qt (G.2.1 (F a 0)) (G.2.1 (F a 1)) (G.2.1 (F a 2)) (G.2.1 (F a 3)) (G.2.1 (F a 4)) (G.2.1 (F a 5))) (G.1 a 6).toInt.toNat
theorem qL_push {G u : XG} {F : Nat → Nat → Nat} {a : Nat} {n : Nat} {x0 x1 x2 x3 x4 x5 : Int32} (hn : (G.1 a 6).toInt = n) (hu : (u.1 a 6).toInt = (n : Int) + 1)
    (h0 : ∀ j, u.2.1 (F a 0) j = if j = n then x0 else G.2.1 (F a 0) j) (h1 : ∀ j, u.2.1 (F a 1) j = if j = n then x1 else G.2.1 (F a 1) j) (h2 : ∀ j, u.2.1 (F a 2) j = if j = n then x2 else G.2.1 (F a 2) j) (h3 : ∀ j, u.2.1 (F a 3) j = if j = n then x3 else G.2.1 (F a 3) j) (h4 : ∀ j, u.2.1 (F a 4) j = if j = n then x4 else G.2.1 (F a 4) j) (h5 : ∀ j, u.2.1 (F a 5) j = if j = n then x5 else G.2.1 (F a 5) j) : qL u F a = qL G F a ++ [(x0.toInt, x1.toInt, x2.toInt, x3.toInt, x4.toInt, x5.toInt)] := by
  unfold qL
  rw [hn, hu, show ((n : Int) + 1).toNat = n + 1 from by omega, show (n : Int).toNat = n from by omega]
  refine lst_push (fun i hi => ?_) ?_
  · have e : ¬ (i = n) := by omega
    unfold qt
    rw [h0, h1, h2, h3, h4, h5, if_neg e, if_neg e, if_neg e, if_neg e, if_neg e, if_neg e]
  · unfold qt
    rw [h0, h1, h2, h3, h4, h5, if_pos rfl, if_pos rfl, if_pos rfl, if_pos rfl, if_pos rfl, if_pos rfl]
/-- the rank of an entry -/
def rkO (G : XG) (o : Option Nat) : Int := match o with
  | some q => (G.1 q 8).toInt
  | none => 0
theorem rkO_fr {d : List (Nat × Nat)} {c r : List Nat} {G G2 : XG} (h : XFr d c r G G2) (hd : ∀ b, (b, 8) ∉ d) (o : Option Nat) : rkO G2 o = rkO G o := by
  cases o with
  | none => rfl
  | some q => exact congrArg Int32.toInt (h.1 q 8 (hd q))
theorem xzi {v : Int32} (h : v = 0 ∨ v = 1) : v.toInt = 0 ∨ v.toInt = 1 := by rcases h with h | h <;> subst h <;> decide
section LG
variable {G G1 : XG} {a i b j : Nat} {v : Int32} {o : Option Nat} {f : Nat → Int32}
theorem ld_at (h : G1 = dput G a j v) : G1.1 a j = v := by subst h; exact up2_at
theorem ld_j (h : G1 = dput G a i v) (hn : j ≠ i) : G1.1 b j = G.1 b j := by subst h; exact up2_nj hn
theorem ld_a (h : G1 = dput G a i v) (hn : b ≠ a) : G1.1 b j = G.1 b j := by subst h; exact congrFun (up2_ne hn) _
theorem lc_d (h : G1 = cput G a i v) : G1.1 b j = G.1 b j := by subst h; rfl
theorem lcc_d (h : G1 = ccopy G a f) : G1.1 b j = G.1 b j := by subst h; rfl
theorem lr_d (h : G1 = rput G a i o) : G1.1 b j = G.1 b j := by subst h; rfl
theorem ld_c (h : G1 = dput G a i v) : G1.2.1 b = G.2.1 b := by subst h; rfl
theorem lr_c (h : G1 = rput G a i o) : G1.2.1 b = G.2.1 b := by subst h; rfl
theorem lc_c (h : G1 = cput G a i v) (hn : b ≠ a) : G1.2.1 b = G.2.1 b := by subst h; exact up2_ne hn
theorem lcc_c (h : G1 = ccopy G a f) (hn : b ≠ a) : G1.2.1 b = G.2.1 b := by subst h; exact upr_ne hn
theorem ld_r (h : G1 = dput G a i v) : G1.2.2.1 b = G.2.2.1 b := by subst h; rfl
theorem lc_r (h : G1 = cput G a i v) : G1.2.2.1 b = G.2.2.1 b := by subst h; rfl
theorem lcc_r (h : G1 = ccopy G a f) : G1.2.2.1 b = G.2.2.1 b := by subst h; rfl
theorem lr_r (h : G1 = rput G a i o) (hn : b ≠ a) : G1.2.2.1 b = G.2.2.1 b := by subst h; exact up2_ne hn
end LG
/-- the book's order is that of its rules -/
def BO (G : XG) (F : Nat → Nat → Nat) (a : Nat) : Prop := ORn (G.2.2.1 (F a 0)) (G.2.2.1 (F a 1)) (G.1 a 2).toInt (fun i => rkO G (G.2.2.1 (F a 0) i)) 12
theorem BO.arr {d : List (Nat × Nat)} {c r : List Nat} {G G2 : XG} {F : Nat → Nat → Nat} {a : Nat} (h : XFr d c r G G2) (hd : ∀ b, (b, 8) ∉ d) (h0 : G2.2.2.1 (F a 0) = G.2.2.1 (F a 0)) (ho : ORn (G.2.2.1 (F a 0)) (G2.2.2.1 (F a 1)) (G2.1 a 2).toInt (fun i => rkO G (G.2.2.1 (F a 0) i)) 12) : BO G2 F a := by
  unfold BO
  rw [h0]
  have e : (fun i => rkO G2 (G.2.2.1 (F a 0) i)) = fun i => rkO G (G.2.2.1 (F a 0) i) := by
    funext i
    exact rkO_fr h hd _
  rw [e]
  exact ho
theorem ccopy_at {G G1 : XG} {a : Nat} {f : Nat → Int32} (h : G1 = ccopy G a f) : G1.2.1 a = f := by
  subst h
  exact upr_at
theorem vw_cpy (f g : Nat → Int32) : vw (va_cpy f g 0 0 270) = vw f := by
  funext z
  unfold vw
  split
  · unfold aI va_cpy
    rw [if_pos (by omega)]
    congr 2
    omega
  · rfl
theorem aI_cpy (f g : Nat → Int32) (n : Nat) {t : Int} (h : 0 ≤ t ∧ t < n) : aI (va_cpy f g 0 0 n) t = aI f t := by
  unfold aI va_cpy
  rw [if_pos (by omega)]
  congr 2
  omega
theorem RO.congr {r b b2 : Int → Int} (h : RO r b) (hb : ∀ t : Int, 0 ≤ t → t < 3 → b2 t = b t) : RO r b2 := by
  obtain ⟨h1, h2, h3⟩ := h
  refine ⟨fun t k a1 a2 a3 a4 => ?_, h2, fun t k a1 a2 a3 a4 => ?_⟩
  · rw [hb t a1 a2]
    exact h1 t k a1 a2 a3 a4
  · rw [hb t a1 a2]
    exact h3 t k a1 a2 a3 a4
/-- the row (t, k) is at k2 now -/
def rmv (r : Int → Int) (t k k2 : Int) : Int → Int := fun z => if 0 ≤ z - (90 * t + k) ∧ (z - (90 * t + k)) % 30 = 0 ∧ (z - (90 * t + k)) / 30 < 3 then -2000 else if 0 ≤ z - (90 * t + k2) ∧ (z - (90 * t + k2)) % 30 = 0 ∧ (z - (90 * t + k2)) / 30 < 3 then r (z - k2 + k) else r z
/-- its first n columns are there -/
def rmc (r : Int → Int) (t k k2 n : Int) : Int → Int := fun z => if 0 ≤ z - (90 * t + k2) ∧ (z - (90 * t + k2)) % 30 = 0 ∧ (z - (90 * t + k2)) / 30 < n then r (z - k2 + k) else rfil r t k2 (-1000) 3 z
theorem rmc_0 (r : Int → Int) (t k k2 : Int) : rmc r t k k2 0 = rfil r t k2 (-1000) 3 := by
  funext z
  unfold rmc
  rw [if_neg (by omega)]
theorem rmc_s (r : Int → Int) (t k k2 n : Int) (h : 0 ≤ n) : rset (rmc r t k k2 n) (90 * t + 30 * n + k2) (r (90 * t + 30 * n + k)) = rmc r t k k2 (n + 1) := by
  funext z
  show (if z = 90 * t + 30 * n + k2 then r (90 * t + 30 * n + k) else rmc r t k k2 n z) = rmc r t k k2 (n + 1) z
  unfold rmc
  by_cases e : z = 90 * t + 30 * n + k2
  · rw [if_pos e, if_pos (by omega)]
    congr 1
    omega
  · rw [if_neg e]
    by_cases g : 0 ≤ z - (90 * t + k2) ∧ (z - (90 * t + k2)) % 30 = 0 ∧ (z - (90 * t + k2)) / 30 < n
    · rw [if_pos g, if_pos (by omega)]
    · rw [if_neg g, if_neg (by omega)]
theorem rmc_3 (r : Int → Int) (t k k2 : Int) (h : 0 ≤ k ∧ k < 30 ∧ 0 ≤ k2 ∧ k2 < 30 ∧ k ≠ k2) : rfil (rmc r t k k2 3) t k (-2000) 3 = rmv r t k k2 := by
  funext z
  show (if 0 ≤ z - (90 * t + k) ∧ (z - (90 * t + k)) % 30 = 0 ∧ (z - (90 * t + k)) / 30 < 3 then -2000 else rmc r t k k2 3 z) = rmv r t k k2 z
  unfold rmv
  by_cases g : 0 ≤ z - (90 * t + k) ∧ (z - (90 * t + k)) % 30 = 0 ∧ (z - (90 * t + k)) / 30 < 3
  · rw [if_pos g, if_pos g]
  · rw [if_neg g, if_neg g]
    unfold rmc
    by_cases g2 : 0 ≤ z - (90 * t + k2) ∧ (z - (90 * t + k2)) % 30 = 0 ∧ (z - (90 * t + k2)) / 30 < 3
    · rw [if_pos g2, if_pos g2]
    · rw [if_neg g2, if_neg g2]
      show (if _ then _ else r z) = r z
      rw [if_neg g2]
theorem rmc_cel {r : Int → Int} {t k k2 n c : Int} (h0 : 0 ≤ t ∧ t < 3 ∧ 0 ≤ k ∧ k < 30 ∧ 0 ≤ k2 ∧ k2 < 30 ∧ k ≠ k2 ∧ 0 ≤ c ∧ c < 3 ∧ 0 ≤ n) : cel (rmc r t k k2 n) t k c = cel r t k c := by
  rw [cel_in (by omega), cel_in (by omega)]
  unfold rmc
  rw [if_neg (by omega)]
  unfold rfil
  rw [if_neg (by omega)]
theorem rmc_has {r : Int → Int} {t k k2 n : Int} (h0 : 0 ≤ t ∧ t < 3 ∧ 0 ≤ k ∧ k < 30 ∧ 0 ≤ k2 ∧ k2 < 30 ∧ 0 ≤ n) (h : cel r t k 0 ≠ -2000) : cel (rmc r t k k2 n) t k2 0 ≠ -2000 := by
  rw [cel_in (by omega)] at h ⊢
  unfold rmc
  split
  · rw [show 90 * t + 30 * 0 + k2 - k2 + k = 90 * t + 30 * 0 + k from by omega]
    exact h
  · unfold rfil
    rw [if_pos (by omega)]
    decide
theorem mv_ok {r r2 b : Int → Int} {t k k2 c : Int} (h : RO r b) (h1 : cel r t k 0 ≠ -2000) (e : r2 = rmc r t k k2 c) (h0 : 0 ≤ t ∧ t < 3 ∧ 0 ≤ k ∧ k < 30 ∧ 0 ≤ k2 ∧ k2 < 30 ∧ k ≠ k2 ∧ 0 ≤ c ∧ c < 3 ∧ 0 ≤ c) : cel r2 t k c = -1000 ∨ (-99 ≤ cel r2 t k c ∧ cel r2 t k c ≤ 99) := by
  rw [e, rmc_cel h0]
  have h2 := h.okc t k c
  have h3 := h.absent t k c (by omega)
  unfold okv at h2
  omega
theorem rkO_d {G G2 : XG} {a : Nat} {v : Int32} (h : G2 = dput G a 2 v) (o : Option Nat) : rkO G2 o = rkO G o := by
  cases o with
  | none => rfl
  | some q => exact congrArg Int32.toInt (ld_j h (by decide))
end
theorem v_X6_fill_29_1 {K : Nat → Nat} {F : Nat → Nat → Nat} (a : Nat) (G : XG) (G_3 : XG) (p0 : Int32) (p1 : Int32) (p2 : Int32) (l4_3 : Int32) (N3 : Nat)
    (ha : K a = 8)
    (pf : vw (G_3.2.1 (F a 0)) = rfil (vw (G.2.1 (F a 0))) (p0.toInt) (p1.toInt) (p2.toInt) (l4_3.toInt))
    (e0 : 0 ≤ p0.toInt ∧ p0.toInt < 3 ∧ 0 ≤ p1.toInt ∧ p1.toInt < 30)
    (I3_0 : 0 ≤ l4_3.toInt ∧ l4_3.toInt ≤ 3)
    (I3_1 : (0 : Int) ≤ l4_3.toInt)
    (hm3 : 2147483648 - l4_3.toInt < (((N3) + 1 : Nat) : Int))
    (c6 : (3 : Int) ≤ l4_3.toInt) :
    (vw (G_3.2.1 (F a 0))) = rfil (vw (G.2.1 (F a 0))) (p0.toInt) (p1.toInt) (p2.toInt) 3 := by
  rw [pf]
  congr 1
  omega
theorem v_X6_fill_26_2 {K : Nat → Nat} {F : Nat → Nat → Nat} (a : Nat) (G : XG) (G_3 : XG) (G22 : XG) (x20 : Int32) (p2 : Int32) (p0 : Int32) (p1 : Int32) (l4_3 : Int32) (N3 : Nat) (x16 : Int32)
    (ha : K a = 8)
    (hG22 : G22 = cput G_3 (F a 0) x20.toNatClampNeg p2)
    (pf : vw (G_3.2.1 (F a 0)) = rfil (vw (G.2.1 (F a 0))) (p0.toInt) (p1.toInt) (p2.toInt) (l4_3.toInt))
    (e0 : 0 ≤ p0.toInt ∧ p0.toInt < 3 ∧ 0 ≤ p1.toInt ∧ p1.toInt < 30)
    (I3_0 : 0 ≤ l4_3.toInt ∧ l4_3.toInt ≤ 3)
    (I3_1 : (0 : Int) ≤ l4_3.toInt)
    (hm3 : 2147483648 - l4_3.toInt < (((N3) + 1 : Nat) : Int))
    (c6 : ¬ ((3 : Int) ≤ l4_3.toInt))
    (t16 : 0 ≤ p0.toInt ∧ p0.toInt < 3 ∧ 0 ≤ l4_3.toInt ∧ l4_3.toInt < 3 → x16.toInt = 90 * p0.toInt + 30 * l4_3.toInt)
    (t20 : x20.toInt = x16.toInt + p1.toInt ∨ x16.toInt + p1.toInt < -2147483648 ∨ 2147483648 ≤ x16.toInt + p1.toInt) :
    vw (G22.2.1 (F a 0)) = rfil (vw (G.2.1 (F a 0))) (p0.toInt) (p1.toInt) (p2.toInt) (l4_3.toInt + 1) := by
  have e1 : G22.2.1 (F a 0) = upd (G_3.2.1 (F a 0)) x20.toNatClampNeg p2 := by rw [hG22]; show up2 _ _ _ _ _ = _; rw [up2_r, upr_at]
  rw [vw_upd e1 rfl rfl (by omega), pf, ← rfil_s _ _ _ _ _ (by omega)]
  congr 1
  omega
theorem v_X6_fill_1_3 {F : Nat → Nat → Nat} (a : Nat) (p0 : Int32) (p1 : Int32) (G : XG) (p2 : Int32) :
    vw (G.2.1 (F a 0)) = rfil (vw (G.2.1 (F a 0))) (p0.toInt) (p1.toInt) (p2.toInt) (0 : Int) := by
  exact (rfil_0 _ _ _ _).symm
theorem v_X6_add_35_1 {K : Nat → Nat} {F : Nat → Nat → Nat} (a : Nat) (G : XG) (p0 : Int32) (p1 : Int32) (x1 : Int32)
    (ha : K a = 8)
    (e0 : 0 ≤ p0.toInt ∧ p0.toInt < 3 ∧ 0 ≤ p1.toInt ∧ p1.toInt < 30)
    (t1 : (x1.toInt = 1 ∧ 0 ≤ p0.toInt ∧ p0.toInt < 3) ∨ (x1.toInt = 0 ∧ (p0.toInt < 0 ∨ 3 ≤ p0.toInt)))
    (c4 : x1.toInt = 0) :
    (vw (G.2.1 (F a 0))) = rfil (vw (G.2.1 (F a 0))) (p0.toInt) (p1.toInt) (-1000) 3 := by
  first | (exfalso; omega) | skip
  all_goals (
    rw [oq32])
theorem v_X6_add_35_2 {K : Nat → Nat} {F : Nat → Nat → Nat} (a : Nat) (G : XG) (p0 : Int32) (p1 : Int32) (x1 : Int32)
    (ha : K a = 8)
    (hro : RO (vw (G.2.1 (F a 0))) (aI (G.2.1 (F a 1))))
    (e0 : 0 ≤ p0.toInt ∧ p0.toInt < 3 ∧ 0 ≤ p1.toInt ∧ p1.toInt < 30)
    (t1 : (x1.toInt = 1 ∧ 0 ≤ p0.toInt ∧ p0.toInt < 3) ∨ (x1.toInt = 0 ∧ (p0.toInt < 0 ∨ 3 ≤ p0.toInt)))
    (c4 : x1.toInt = 0) :
    RO (vw (G.2.1 (F a 0))) (aI (G.2.1 (F a 1))) := by
  first | (exfalso; omega) | skip
  all_goals (
    rw [oq32, c_G32_F_a_1]
    refine RO.fill hro (by omega) (Or.inr (Or.inl rfl)) (fun t2 h1 h2 h3 => ?_) (fun j h1 h2 => ?_)
    · rw [hG25, aI_put (by omega) _ h1, if_neg h3]
    · rw [hG25, aI_put (by omega) _ (by omega), if_pos rfl, bI_set he23 he24 hv20 rfl (by omega) j h1 h2]
      by_cases e : j = p1.toInt
      · rw [if_pos e, if_pos e, if_neg (by decide)]
      · rw [if_neg e, if_neg e])
theorem v_X6_add_35_3 {K : Nat → Nat} {F : Nat → Nat → Nat} (a : Nat) (G : XG) (p0 : Int32) (p1 : Int32) (x1 : Int32) (x8 : Int32)
    (ha : K a = 8)
    (e0 : 0 ≤ p0.toInt ∧ p0.toInt < 3 ∧ 0 ≤ p1.toInt ∧ p1.toInt < 30)
    (t1 : (x1.toInt = 1 ∧ 0 ≤ p0.toInt ∧ p0.toInt < 3) ∨ (x1.toInt = 0 ∧ (p0.toInt < 0 ∨ 3 ≤ p0.toInt)))
    (c4 : ¬ (x1.toInt = 0))
    (t8 : (x8.toInt = 1 ∧ 0 ≤ p1.toInt ∧ p1.toInt < 30) ∨ (x8.toInt = 0 ∧ (p1.toInt < 0 ∨ 30 ≤ p1.toInt)))
    (c11 : x8.toInt = 0) :
    (vw (G.2.1 (F a 0))) = rfil (vw (G.2.1 (F a 0))) (p0.toInt) (p1.toInt) (-1000) 3 := by
  first | (exfalso; omega) | skip
  all_goals (
    rw [oq32])
theorem v_X6_add_35_4 {K : Nat → Nat} {F : Nat → Nat → Nat} (a : Nat) (G : XG) (p0 : Int32) (p1 : Int32) (x1 : Int32) (x8 : Int32)
    (ha : K a = 8)
    (hro : RO (vw (G.2.1 (F a 0))) (aI (G.2.1 (F a 1))))
    (e0 : 0 ≤ p0.toInt ∧ p0.toInt < 3 ∧ 0 ≤ p1.toInt ∧ p1.toInt < 30)
    (t1 : (x1.toInt = 1 ∧ 0 ≤ p0.toInt ∧ p0.toInt < 3) ∨ (x1.toInt = 0 ∧ (p0.toInt < 0 ∨ 3 ≤ p0.toInt)))
    (c4 : ¬ (x1.toInt = 0))
    (t8 : (x8.toInt = 1 ∧ 0 ≤ p1.toInt ∧ p1.toInt < 30) ∨ (x8.toInt = 0 ∧ (p1.toInt < 0 ∨ 30 ≤ p1.toInt)))
    (c11 : x8.toInt = 0) :
    RO (vw (G.2.1 (F a 0))) (aI (G.2.1 (F a 1))) := by
  first | (exfalso; omega) | skip
  all_goals (
    rw [oq32, c_G32_F_a_1]
    refine RO.fill hro (by omega) (Or.inr (Or.inl rfl)) (fun t2 h1 h2 h3 => ?_) (fun j h1 h2 => ?_)
    · rw [hG25, aI_put (by omega) _ h1, if_neg h3]
    · rw [hG25, aI_put (by omega) _ (by omega), if_pos rfl, bI_set he23 he24 hv20 rfl (by omega) j h1 h2]
      by_cases e : j = p1.toInt
      · rw [if_pos e, if_pos e, if_neg (by decide)]
      · rw [if_neg e, if_neg e])
theorem v_X6_add_35_5 {K : Nat → Nat} {F : Nat → Nat → Nat} (a : Nat) (G : XG) (p0 : Int32) (x24 : Int32) (G32 : XG) (x20 : Int32) (x23 : Int32) (p1 : Int32) (x1 : Int32) (x8 : Int32)
    (ha : K a = 8)
    (hv20 : x20.toInt = (aI (G.2.1 (F a 1)) (p0.toInt)))
    (he23 : x23 = (1 : Int32) <<< (p1 &&& 31))
    (he24 : x24 = x20 ||| x23)
    (oq32 : (vw (G32.2.1 (F a 0))) = rfil (vw (G.2.1 (F a 0))) (p0.toInt) (p1.toInt) (-1000 : Int) 3)
    (e0 : 0 ≤ p0.toInt ∧ p0.toInt < 3 ∧ 0 ≤ p1.toInt ∧ p1.toInt < 30)
    (t1 : (x1.toInt = 1 ∧ 0 ≤ p0.toInt ∧ p0.toInt < 3) ∨ (x1.toInt = 0 ∧ (p0.toInt < 0 ∨ 3 ≤ p0.toInt)))
    (c4 : ¬ (x1.toInt = 0))
    (t8 : (x8.toInt = 1 ∧ 0 ≤ p1.toInt ∧ p1.toInt < 30) ∨ (x8.toInt = 0 ∧ (p1.toInt < 0 ∨ 30 ≤ p1.toInt)))
    (c11 : ¬ (x8.toInt = 0)) :
    (vw (G32.2.1 (F a 0))) = rfil (vw (G.2.1 (F a 0))) (p0.toInt) (p1.toInt) (-1000) 3 := by
  first | (exfalso; omega) | skip
  all_goals (
    rw [oq32])
theorem v_X6_add_35_6 {K : Nat → Nat} {F : Nat → Nat → Nat} (a : Nat) (G25 : XG) (G : XG) (p0 : Int32) (x24 : Int32) (G32 : XG) (x20 : Int32) (x23 : Int32) (p1 : Int32) (x1 : Int32) (x8 : Int32)
    (ha : K a = 8)
    (hG25 : G25 = cput G (F a 1) p0.toNatClampNeg x24)
    (hro : RO (vw (G.2.1 (F a 0))) (aI (G.2.1 (F a 1))))
    (hv20 : x20.toInt = (aI (G.2.1 (F a 1)) (p0.toInt)))
    (he23 : x23 = (1 : Int32) <<< (p1 &&& 31))
    (he24 : x24 = x20 ||| x23)
    (oq32 : (vw (G32.2.1 (F a 0))) = rfil (vw (G.2.1 (F a 0))) (p0.toInt) (p1.toInt) (-1000 : Int) 3)
    (e0 : 0 ≤ p0.toInt ∧ p0.toInt < 3 ∧ 0 ≤ p1.toInt ∧ p1.toInt < 30)
    (t1 : (x1.toInt = 1 ∧ 0 ≤ p0.toInt ∧ p0.toInt < 3) ∨ (x1.toInt = 0 ∧ (p0.toInt < 0 ∨ 3 ≤ p0.toInt)))
    (c4 : ¬ (x1.toInt = 0))
    (t8 : (x8.toInt = 1 ∧ 0 ≤ p1.toInt ∧ p1.toInt < 30) ∨ (x8.toInt = 0 ∧ (p1.toInt < 0 ∨ 30 ≤ p1.toInt)))
    (c11 : ¬ (x8.toInt = 0))
    (c_G32_F_a_1 : G32.2.1 (F a 1) = G25.2.1 (F a 1)) :
    RO (vw (G32.2.1 (F a 0))) (aI (G32.2.1 (F a 1))) := by
  first | (exfalso; omega) | skip
  all_goals (
    rw [oq32, c_G32_F_a_1]
    refine RO.fill hro (by omega) (Or.inr (Or.inl rfl)) (fun t2 h1 h2 h3 => ?_) (fun j h1 h2 => ?_)
    · rw [hG25, aI_put (by omega) _ h1, if_neg h3]
    · rw [hG25, aI_put (by omega) _ (by omega), if_pos rfl, bI_set he23 he24 hv20 rfl (by omega) j h1 h2]
      by_cases e : j = p1.toInt
      · rw [if_pos e, if_pos e, if_neg (by decide)]
      · rw [if_neg e, if_neg e])
theorem v_X6_remove_37_1 {K : Nat → Nat} {F : Nat → Nat → Nat} (a : Nat) (G : XG) (p0 : Int32) (p1 : Int32) (x1 : Int32)
    (ha : K a = 8)
    (e0 : 0 ≤ p0.toInt ∧ p0.toInt < 3 ∧ 0 ≤ p1.toInt ∧ p1.toInt < 30)
    (t1 : (x1.toInt = 1 ∧ 0 ≤ p0.toInt ∧ p0.toInt < 3) ∨ (x1.toInt = 0 ∧ (p0.toInt < 0 ∨ 3 ≤ p0.toInt)))
    (c4 : x1.toInt = 0) :
    (vw (G.2.1 (F a 0))) = rfil (vw (G.2.1 (F a 0))) (p0.toInt) (p1.toInt) (-2000) 3 := by
  first | (exfalso; omega) | skip
  all_goals (
    rw [oq34])
theorem v_X6_remove_37_2 {K : Nat → Nat} {F : Nat → Nat → Nat} (a : Nat) (G : XG) (p0 : Int32) (p1 : Int32) (x1 : Int32)
    (ha : K a = 8)
    (hro : RO (vw (G.2.1 (F a 0))) (aI (G.2.1 (F a 1))))
    (e0 : 0 ≤ p0.toInt ∧ p0.toInt < 3 ∧ 0 ≤ p1.toInt ∧ p1.toInt < 30)
    (t1 : (x1.toInt = 1 ∧ 0 ≤ p0.toInt ∧ p0.toInt < 3) ∨ (x1.toInt = 0 ∧ (p0.toInt < 0 ∨ 3 ≤ p0.toInt)))
    (c4 : x1.toInt = 0) :
    RO (vw (G.2.1 (F a 0))) (aI (G.2.1 (F a 1))) := by
  first | (exfalso; omega) | skip
  all_goals (
    rw [oq34, c_G34_F_a_1]
    refine RO.fill hro (by omega) (Or.inl rfl) (fun t2 h1 h2 h3 => ?_) (fun j h1 h2 => ?_)
    · rw [hG27, aI_put (by omega) _ h1, if_neg h3]
    · rw [hG27, aI_put (by omega) _ (by omega), if_pos rfl, bI_clr he23 he25 he26 hv20 rfl (by omega) j h1 h2]
      by_cases e : j = p1.toInt
      · rw [if_pos e, if_pos e, if_pos rfl]
      · rw [if_neg e, if_neg e])
theorem v_X6_remove_37_3 {K : Nat → Nat} {F : Nat → Nat → Nat} (a : Nat) (G : XG) (p0 : Int32) (p1 : Int32) (x1 : Int32) (x8 : Int32)
    (ha : K a = 8)
    (e0 : 0 ≤ p0.toInt ∧ p0.toInt < 3 ∧ 0 ≤ p1.toInt ∧ p1.toInt < 30)
    (t1 : (x1.toInt = 1 ∧ 0 ≤ p0.toInt ∧ p0.toInt < 3) ∨ (x1.toInt = 0 ∧ (p0.toInt < 0 ∨ 3 ≤ p0.toInt)))
    (c4 : ¬ (x1.toInt = 0))
    (t8 : (x8.toInt = 1 ∧ 0 ≤ p1.toInt ∧ p1.toInt < 30) ∨ (x8.toInt = 0 ∧ (p1.toInt < 0 ∨ 30 ≤ p1.toInt)))
    (c11 : x8.toInt = 0) :
    (vw (G.2.1 (F a 0))) = rfil (vw (G.2.1 (F a 0))) (p0.toInt) (p1.toInt) (-2000) 3 := by
  first | (exfalso; omega) | skip
  all_goals (
    rw [oq34])
theorem v_X6_remove_37_4 {K : Nat → Nat} {F : Nat → Nat → Nat} (a : Nat) (G : XG) (p0 : Int32) (p1 : Int32) (x1 : Int32) (x8 : Int32)
    (ha : K a = 8)
    (hro : RO (vw (G.2.1 (F a 0))) (aI (G.2.1 (F a 1))))
    (e0 : 0 ≤ p0.toInt ∧ p0.toInt < 3 ∧ 0 ≤ p1.toInt ∧ p1.toInt < 30)
    (t1 : (x1.toInt = 1 ∧ 0 ≤ p0.toInt ∧ p0.toInt < 3) ∨ (x1.toInt = 0 ∧ (p0.toInt < 0 ∨ 3 ≤ p0.toInt)))
    (c4 : ¬ (x1.toInt = 0))
    (t8 : (x8.toInt = 1 ∧ 0 ≤ p1.toInt ∧ p1.toInt < 30) ∨ (x8.toInt = 0 ∧ (p1.toInt < 0 ∨ 30 ≤ p1.toInt)))
    (c11 : x8.toInt = 0) :
    RO (vw (G.2.1 (F a 0))) (aI (G.2.1 (F a 1))) := by
  first | (exfalso; omega) | skip
  all_goals (
    rw [oq34, c_G34_F_a_1]
    refine RO.fill hro (by omega) (Or.inl rfl) (fun t2 h1 h2 h3 => ?_) (fun j h1 h2 => ?_)
    · rw [hG27, aI_put (by omega) _ h1, if_neg h3]
    · rw [hG27, aI_put (by omega) _ (by omega), if_pos rfl, bI_clr he23 he25 he26 hv20 rfl (by omega) j h1 h2]
      by_cases e : j = p1.toInt
      · rw [if_pos e, if_pos e, if_pos rfl]
      · rw [if_neg e, if_neg e])
theorem v_X6_remove_37_5 {K : Nat → Nat} {F : Nat → Nat → Nat} (a : Nat) (G : XG) (p0 : Int32) (x26 : Int32) (G34 : XG) (x20 : Int32) (x23 : Int32) (p1 : Int32) (x25 : Int32) (x1 : Int32) (x8 : Int32)
    (ha : K a = 8)
    (hv20 : x20.toInt = (aI (G.2.1 (F a 1)) (p0.toInt)))
    (he23 : x23 = (1 : Int32) <<< (p1 &&& 31))
    (he25 : x25 = x23 ^^^ (-1))
    (he26 : x26 = x20 &&& x25)
    (oq34 : (vw (G34.2.1 (F a 0))) = rfil (vw (G.2.1 (F a 0))) (p0.toInt) (p1.toInt) (-2000 : Int) 3)
    (e0 : 0 ≤ p0.toInt ∧ p0.toInt < 3 ∧ 0 ≤ p1.toInt ∧ p1.toInt < 30)
    (t1 : (x1.toInt = 1 ∧ 0 ≤ p0.toInt ∧ p0.toInt < 3) ∨ (x1.toInt = 0 ∧ (p0.toInt < 0 ∨ 3 ≤ p0.toInt)))
    (c4 : ¬ (x1.toInt = 0))
    (t8 : (x8.toInt = 1 ∧ 0 ≤ p1.toInt ∧ p1.toInt < 30) ∨ (x8.toInt = 0 ∧ (p1.toInt < 0 ∨ 30 ≤ p1.toInt)))
    (c11 : ¬ (x8.toInt = 0)) :
    (vw (G34.2.1 (F a 0))) = rfil (vw (G.2.1 (F a 0))) (p0.toInt) (p1.toInt) (-2000) 3 := by
  first | (exfalso; omega) | skip
  all_goals (
    rw [oq34])
theorem v_X6_remove_37_6 {K : Nat → Nat} {F : Nat → Nat → Nat} (a : Nat) (G27 : XG) (G : XG) (p0 : Int32) (x26 : Int32) (G34 : XG) (x20 : Int32) (x23 : Int32) (p1 : Int32) (x25 : Int32) (x1 : Int32) (x8 : Int32)
    (ha : K a = 8)
    (hG27 : G27 = cput G (F a 1) p0.toNatClampNeg x26)
    (hro : RO (vw (G.2.1 (F a 0))) (aI (G.2.1 (F a 1))))
    (hv20 : x20.toInt = (aI (G.2.1 (F a 1)) (p0.toInt)))
    (he23 : x23 = (1 : Int32) <<< (p1 &&& 31))
    (he25 : x25 = x23 ^^^ (-1))
    (he26 : x26 = x20 &&& x25)
    (oq34 : (vw (G34.2.1 (F a 0))) = rfil (vw (G.2.1 (F a 0))) (p0.toInt) (p1.toInt) (-2000 : Int) 3)
    (e0 : 0 ≤ p0.toInt ∧ p0.toInt < 3 ∧ 0 ≤ p1.toInt ∧ p1.toInt < 30)
    (t1 : (x1.toInt = 1 ∧ 0 ≤ p0.toInt ∧ p0.toInt < 3) ∨ (x1.toInt = 0 ∧ (p0.toInt < 0 ∨ 3 ≤ p0.toInt)))
    (c4 : ¬ (x1.toInt = 0))
    (t8 : (x8.toInt = 1 ∧ 0 ≤ p1.toInt ∧ p1.toInt < 30) ∨ (x8.toInt = 0 ∧ (p1.toInt < 0 ∨ 30 ≤ p1.toInt)))
    (c11 : ¬ (x8.toInt = 0))
    (c_G34_F_a_1 : G34.2.1 (F a 1) = G27.2.1 (F a 1)) :
    RO (vw (G34.2.1 (F a 0))) (aI (G34.2.1 (F a 1))) := by
  first | (exfalso; omega) | skip
  all_goals (
    rw [oq34, c_G34_F_a_1]
    refine RO.fill hro (by omega) (Or.inl rfl) (fun t2 h1 h2 h3 => ?_) (fun j h1 h2 => ?_)
    · rw [hG27, aI_put (by omega) _ h1, if_neg h3]
    · rw [hG27, aI_put (by omega) _ (by omega), if_pos rfl, bI_clr he23 he25 he26 hv20 rfl (by omega) j h1 h2]
      by_cases e : j = p1.toInt
      · rw [if_pos e, if_pos e, if_pos rfl]
      · rw [if_neg e, if_neg e])
theorem v_X6_change_3_1 {F : Nat → Nat → Nat} (a : Nat) (G : XG)
    (hro : RO (vw (G.2.1 (F a 0))) (aI (G.2.1 (F a 1)))) :
    RO (vw (G.2.1 (F a 0))) (aI (G.2.1 (F a 1))) := by exact hro
theorem v_X6_change_30_2 {K : Nat → Nat} {F : Nat → Nat → Nat} (a : Nat) (G : XG) (p2 : Int32) (p3 : Int32) (p0 : Int32) (p1 : Int32) (x3 : Int32)
    (ha : K a = 8)
    (e0 : 0 ≤ p2.toInt ∧ p2.toInt < 3)
    (e1 : p3.toInt = -1000 ∨ (-99 ≤ p3.toInt ∧ p3.toInt ≤ 99))
    (z0 : (¬ (0 ≤ p0.toInt ∧ p0.toInt < 3 ∧ 0 ≤ p1.toInt ∧ p1.toInt < 30)) → (cel (vw (G.2.1 (F a 0))) (p0.toInt) (p1.toInt) 0) = -2000)
    (t3 : (x3.toInt = 1 ∧ (cel (vw (G.2.1 (F a 0))) (p0.toInt) (p1.toInt) 0) ≠ -2000) ∨ (x3.toInt = 0 ∧ (cel (vw (G.2.1 (F a 0))) (p0.toInt) (p1.toInt) 0) = -2000))
    (c6 : x3.toInt = 0) :
    (vw (G.2.1 (F a 0))) = if cel (vw (G.2.1 (F a 0))) (p0.toInt) (p1.toInt) 0 ≠ -2000 then rset (vw (G.2.1 (F a 0))) (90 * (p0.toInt) + 30 * (p2.toInt) + (p1.toInt)) (p3.toInt) else (vw (G.2.1 (F a 0))) := by
  first | (exfalso; omega) | skip
  all_goals (
    first
      | (rw [if_neg (show ¬ (_ ≠ _) by omega)]; done)
      | (have e1 : G29.2.1 (F a 0) = upd (G.2.1 (F a 0)) x26.toNatClampNeg p3 := by rw [hG29]; show up2 _ _ _ _ _ = _; rw [up2_r, upr_at]
         rw [if_pos (show _ ≠ _ by omega), vw_upd e1 (I := 90 * p0.toInt + 30 * p2.toInt + p1.toInt) (by omega) rfl (by omega)]))
theorem v_X6_change_30_3 {K : Nat → Nat} {F : Nat → Nat → Nat} (a : Nat) (G : XG) (p2 : Int32) (p3 : Int32) (p0 : Int32) (p1 : Int32) (x3 : Int32)
    (ha : K a = 8)
    (hro : RO (vw (G.2.1 (F a 0))) (aI (G.2.1 (F a 1))))
    (e0 : 0 ≤ p2.toInt ∧ p2.toInt < 3)
    (e1 : p3.toInt = -1000 ∨ (-99 ≤ p3.toInt ∧ p3.toInt ≤ 99))
    (z0 : (¬ (0 ≤ p0.toInt ∧ p0.toInt < 3 ∧ 0 ≤ p1.toInt ∧ p1.toInt < 30)) → (cel (vw (G.2.1 (F a 0))) (p0.toInt) (p1.toInt) 0) = -2000)
    (t3 : (x3.toInt = 1 ∧ (cel (vw (G.2.1 (F a 0))) (p0.toInt) (p1.toInt) 0) ≠ -2000) ∨ (x3.toInt = 0 ∧ (cel (vw (G.2.1 (F a 0))) (p0.toInt) (p1.toInt) 0) = -2000))
    (c6 : x3.toInt = 0) :
    RO (vw (G.2.1 (F a 0))) (aI (G.2.1 (F a 1))) := by
  first | (exfalso; omega) | skip
  all_goals (
    first
      | exact hro
      | (have e1 : G29.2.1 (F a 0) = upd (G.2.1 (F a 0)) x26.toNatClampNeg p3 := by rw [hG29]; show up2 _ _ _ _ _ = _; rw [up2_r, upr_at]
         rw [vw_upd e1 (I := 90 * p0.toInt + 30 * p2.toInt + p1.toInt) (by omega) rfl (by omega), c_G29_F_a_1]
         exact hro.set (by omega) (by omega) (by unfold okv; omega) (by omega)))
theorem v_X6_change_30_4 {K : Nat → Nat} {F : Nat → Nat → Nat} (a : Nat) (G : XG) (p2 : Int32) (p3 : Int32) (p0 : Int32) (p1 : Int32) (x3 : Int32) (x10 : Int32)
    (ha : K a = 8)
    (e0 : 0 ≤ p2.toInt ∧ p2.toInt < 3)
    (e1 : p3.toInt = -1000 ∨ (-99 ≤ p3.toInt ∧ p3.toInt ≤ 99))
    (z0 : (¬ (0 ≤ p0.toInt ∧ p0.toInt < 3 ∧ 0 ≤ p1.toInt ∧ p1.toInt < 30)) → (cel (vw (G.2.1 (F a 0))) (p0.toInt) (p1.toInt) 0) = -2000)
    (t3 : (x3.toInt = 1 ∧ (cel (vw (G.2.1 (F a 0))) (p0.toInt) (p1.toInt) 0) ≠ -2000) ∨ (x3.toInt = 0 ∧ (cel (vw (G.2.1 (F a 0))) (p0.toInt) (p1.toInt) 0) = -2000))
    (c6 : ¬ (x3.toInt = 0))
    (t10 : (x10.toInt = 1 ∧ 0 ≤ p2.toInt ∧ p2.toInt < 3) ∨ (x10.toInt = 0 ∧ (p2.toInt < 0 ∨ 3 ≤ p2.toInt)))
    (c13 : x10.toInt = 0) :
    (vw (G.2.1 (F a 0))) = if cel (vw (G.2.1 (F a 0))) (p0.toInt) (p1.toInt) 0 ≠ -2000 then rset (vw (G.2.1 (F a 0))) (90 * (p0.toInt) + 30 * (p2.toInt) + (p1.toInt)) (p3.toInt) else (vw (G.2.1 (F a 0))) := by
  first | (exfalso; omega) | skip
  all_goals (
    first
      | (rw [if_neg (show ¬ (_ ≠ _) by omega)]; done)
      | (have e1 : G29.2.1 (F a 0) = upd (G.2.1 (F a 0)) x26.toNatClampNeg p3 := by rw [hG29]; show up2 _ _ _ _ _ = _; rw [up2_r, upr_at]
         rw [if_pos (show _ ≠ _ by omega), vw_upd e1 (I := 90 * p0.toInt + 30 * p2.toInt + p1.toInt) (by omega) rfl (by omega)]))
theorem v_X6_change_30_5 {K : Nat → Nat} {F : Nat → Nat → Nat} (a : Nat) (G : XG) (p2 : Int32) (p3 : Int32) (p0 : Int32) (p1 : Int32) (x3 : Int32) (x10 : Int32)
    (ha : K a = 8)
    (hro : RO (vw (G.2.1 (F a 0))) (aI (G.2.1 (F a 1))))
    (e0 : 0 ≤ p2.toInt ∧ p2.toInt < 3)
    (e1 : p3.toInt = -1000 ∨ (-99 ≤ p3.toInt ∧ p3.toInt ≤ 99))
    (z0 : (¬ (0 ≤ p0.toInt ∧ p0.toInt < 3 ∧ 0 ≤ p1.toInt ∧ p1.toInt < 30)) → (cel (vw (G.2.1 (F a 0))) (p0.toInt) (p1.toInt) 0) = -2000)
    (t3 : (x3.toInt = 1 ∧ (cel (vw (G.2.1 (F a 0))) (p0.toInt) (p1.toInt) 0) ≠ -2000) ∨ (x3.toInt = 0 ∧ (cel (vw (G.2.1 (F a 0))) (p0.toInt) (p1.toInt) 0) = -2000))
    (c6 : ¬ (x3.toInt = 0))
    (t10 : (x10.toInt = 1 ∧ 0 ≤ p2.toInt ∧ p2.toInt < 3) ∨ (x10.toInt = 0 ∧ (p2.toInt < 0 ∨ 3 ≤ p2.toInt)))
    (c13 : x10.toInt = 0) :
    RO (vw (G.2.1 (F a 0))) (aI (G.2.1 (F a 1))) := by
  first | (exfalso; omega) | skip
  all_goals (
    first
      | exact hro
      | (have e1 : G29.2.1 (F a 0) = upd (G.2.1 (F a 0)) x26.toNatClampNeg p3 := by rw [hG29]; show up2 _ _ _ _ _ = _; rw [up2_r, upr_at]
         rw [vw_upd e1 (I := 90 * p0.toInt + 30 * p2.toInt + p1.toInt) (by omega) rfl (by omega), c_G29_F_a_1]
         exact hro.set (by omega) (by omega) (by unfold okv; omega) (by omega)))
theorem v_X6_change_30_6 {K : Nat → Nat} {F : Nat → Nat → Nat} (a : Nat) (G29 : XG) (G : XG) (x26 : Int32) (p3 : Int32) (p2 : Int32) (p0 : Int32) (p1 : Int32) (x3 : Int32) (x10 : Int32) (x22 : Int32)
    (ha : K a = 8)
    (hG29 : G29 = cput G (F a 0) x26.toNatClampNeg p3)
    (e0 : 0 ≤ p2.toInt ∧ p2.toInt < 3)
    (e1 : p3.toInt = -1000 ∨ (-99 ≤ p3.toInt ∧ p3.toInt ≤ 99))
    (z0 : (¬ (0 ≤ p0.toInt ∧ p0.toInt < 3 ∧ 0 ≤ p1.toInt ∧ p1.toInt < 30)) → (cel (vw (G.2.1 (F a 0))) (p0.toInt) (p1.toInt) 0) = -2000)
    (t3 : (x3.toInt = 1 ∧ (cel (vw (G.2.1 (F a 0))) (p0.toInt) (p1.toInt) 0) ≠ -2000) ∨ (x3.toInt = 0 ∧ (cel (vw (G.2.1 (F a 0))) (p0.toInt) (p1.toInt) 0) = -2000))
    (c6 : ¬ (x3.toInt = 0))
    (t10 : (x10.toInt = 1 ∧ 0 ≤ p2.toInt ∧ p2.toInt < 3) ∨ (x10.toInt = 0 ∧ (p2.toInt < 0 ∨ 3 ≤ p2.toInt)))
    (c13 : ¬ (x10.toInt = 0))
    (t22 : 0 ≤ p0.toInt ∧ p0.toInt < 3 ∧ 0 ≤ p2.toInt ∧ p2.toInt < 3 → x22.toInt = 90 * p0.toInt + 30 * p2.toInt)
    (t26 : x26.toInt = x22.toInt + p1.toInt ∨ x22.toInt + p1.toInt < -2147483648 ∨ 2147483648 ≤ x22.toInt + p1.toInt) :
    (vw (G29.2.1 (F a 0))) = if cel (vw (G.2.1 (F a 0))) (p0.toInt) (p1.toInt) 0 ≠ -2000 then rset (vw (G.2.1 (F a 0))) (90 * (p0.toInt) + 30 * (p2.toInt) + (p1.toInt)) (p3.toInt) else (vw (G.2.1 (F a 0))) := by
  first | (exfalso; omega) | skip
  all_goals (
    first
      | (rw [if_neg (show ¬ (_ ≠ _) by omega)]; done)
      | (have e1 : G29.2.1 (F a 0) = upd (G.2.1 (F a 0)) x26.toNatClampNeg p3 := by rw [hG29]; show up2 _ _ _ _ _ = _; rw [up2_r, upr_at]
         rw [if_pos (show _ ≠ _ by omega), vw_upd e1 (I := 90 * p0.toInt + 30 * p2.toInt + p1.toInt) (by omega) rfl (by omega)]))
theorem v_X6_change_30_7 {K : Nat → Nat} {F : Nat → Nat → Nat} (a : Nat) (G29 : XG) (G : XG) (x26 : Int32) (p3 : Int32) (p2 : Int32) (p0 : Int32) (p1 : Int32) (x3 : Int32) (x10 : Int32) (x22 : Int32)
    (ha : K a = 8)
    (hG29 : G29 = cput G (F a 0) x26.toNatClampNeg p3)
    (hro : RO (vw (G.2.1 (F a 0))) (aI (G.2.1 (F a 1))))
    (e0 : 0 ≤ p2.toInt ∧ p2.toInt < 3)
    (e1 : p3.toInt = -1000 ∨ (-99 ≤ p3.toInt ∧ p3.toInt ≤ 99))
    (z0 : (¬ (0 ≤ p0.toInt ∧ p0.toInt < 3 ∧ 0 ≤ p1.toInt ∧ p1.toInt < 30)) → (cel (vw (G.2.1 (F a 0))) (p0.toInt) (p1.toInt) 0) = -2000)
    (t3 : (x3.toInt = 1 ∧ (cel (vw (G.2.1 (F a 0))) (p0.toInt) (p1.toInt) 0) ≠ -2000) ∨ (x3.toInt = 0 ∧ (cel (vw (G.2.1 (F a 0))) (p0.toInt) (p1.toInt) 0) = -2000))
    (c6 : ¬ (x3.toInt = 0))
    (t10 : (x10.toInt = 1 ∧ 0 ≤ p2.toInt ∧ p2.toInt < 3) ∨ (x10.toInt = 0 ∧ (p2.toInt < 0 ∨ 3 ≤ p2.toInt)))
    (c13 : ¬ (x10.toInt = 0))
    (t22 : 0 ≤ p0.toInt ∧ p0.toInt < 3 ∧ 0 ≤ p2.toInt ∧ p2.toInt < 3 → x22.toInt = 90 * p0.toInt + 30 * p2.toInt)
    (t26 : x26.toInt = x22.toInt + p1.toInt ∨ x22.toInt + p1.toInt < -2147483648 ∨ 2147483648 ≤ x22.toInt + p1.toInt)
    (c_G29_F_a_1 : G29.2.1 (F a 1) = G.2.1 (F a 1)) :
    RO (vw (G29.2.1 (F a 0))) (aI (G29.2.1 (F a 1))) := by
  first | (exfalso; omega) | skip
  all_goals (
    first
      | exact hro
      | (have e1 : G29.2.1 (F a 0) = upd (G.2.1 (F a 0)) x26.toNatClampNeg p3 := by rw [hG29]; show up2 _ _ _ _ _ = _; rw [up2_r, upr_at]
         rw [vw_upd e1 (I := 90 * p0.toInt + 30 * p2.toInt + p1.toInt) (by omega) rfl (by omega), c_G29_F_a_1]
         exact hro.set (by omega) (by omega) (by unfold okv; omega) (by omega)))
