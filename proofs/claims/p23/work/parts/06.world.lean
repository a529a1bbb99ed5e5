/-! ===== the world ===== -/
abbrev XE : Type := va_G × (Nat → ClassId) × Nat × Nat × (Nat → Nat) × (Nat → Nat)
/-- int fields, int rows, rows of references, the law's row of longs: all by address -/
abbrev XG : Type := (Nat → Nat → Int32) × (Nat → Nat → Int32) × (Nat → Nat → Option Nat) × (Nat → Int64)
def xA (E : XE) : Nat → Prop := fun q => E.2.2.1 ≤ q
def xty (cs : Nat → ClassId) : List (ClassId × FieldType) := [(cs 0, .int), (cs 1, .char), (cs 2, .byte), (cs 3, .boolean), (cs 4, .object "LateRules$Rule"), (cs 5, .object "LateRules$Rows"), (cs 6, .long)]
def up2 {α : Type} (f : Nat → Nat → α) (a i : Nat) (v : α) : Nat → Nat → α := fun b j => if b = a ∧ j = i then v else f b j
def upr {α : Type} (f : Nat → Nat → α) (a : Nat) (g : Nat → α) : Nat → Nat → α := fun b => if b = a then g else f b
theorem up2_ne {α : Type} {f : Nat → Nat → α} {a i b : Nat} {v : α} (h : b ≠ a) : up2 f a i v b = f b := by
  funext j
  unfold up2
  rw [if_neg (fun q => h q.1)]
theorem up2_at {α : Type} {f : Nat → Nat → α} {a i : Nat} {v : α} : up2 f a i v a i = v := by
  unfold up2
  rw [if_pos ⟨rfl, rfl⟩]
theorem up2_nj {α : Type} {f : Nat → Nat → α} {a i b j : Nat} {v : α} (h : j ≠ i) : up2 f a i v b j = f b j := by
  unfold up2
  rw [if_neg (fun q => h q.2)]
theorem upr_ne {α : Type} {f : Nat → Nat → α} {a b : Nat} {g : Nat → α} (h : b ≠ a) : upr f a g b = f b := by
  unfold upr
  rw [if_neg h]
theorem upr_at {α : Type} {f : Nat → Nat → α} {a : Nat} {g : Nat → α} : upr f a g a = g := by
  unfold upr
  rw [if_pos rfl]
theorem up2_r {f : Nat → Nat → Int32} {a i : Nat} {v : Int32} : up2 f a i v = upr f a (upd (f a) i v) := by
  funext b j
  unfold up2 upr upd
  by_cases h : b = a
  · subst h
    rw [if_pos rfl]
    by_cases h2 : j = i
    · rw [if_pos ⟨rfl, h2⟩, if_pos h2]
    · rw [if_neg (fun q => h2 q.2), if_neg h2]
  · rw [if_neg (fun q => h q.1), if_neg h]

def xat (k : Nat) : Option (Nat × Nat) := ([(0, 270), (0, 3), (0, 1080), (3, 1080), (0, 90), (1, 80), (0, 6), (0, 4), (0, 1), (0, 1), (0, 360), (0, 360), (0, 2880), (0, 360), (0, 360), (0, 6), (0, 4), (0, 120), (0, 2388), (0, 2388), (0, 2388), (0, 2388), (0, 12), (0, 2400), (0, 2400), (2, 24), (1, 3), (1, 4), (1, 5), (1, 6), (1, 7), (2, 80), (0, 10), (0, 2400), (0, 2400), (0, 90), (0, 90), (0, 90), (0, 90), (3, 90)] : List (Nat × Nat))[k - 20]?
def xok (tc : Nat) (v : Int32) : Prop := match tc with
  | 1 => narrow .char (.int v) = .int v
  | 2 => narrow .byte (.int v) = .int v
  | 3 => narrow .boolean (.int v) = .int v
  | _ => True
def SHP (E : XE) (K : Nat → Nat) (F : Nat → Nat → Nat) (d c : Nat → Int32) (r : Nat → Option Nat) (l : Nat → Int64) (a k : Nat) (e : va_E) : Prop := match k with
  | 2 => e = .inr (1, [.ref (F a 0), .ref (F a 1), .int (d 2)]) ∧ K (F a 0) = 15 ∧ F (F a 0) 99 = 0 ∧ K (F a 1) = 15 ∧ F (F a 1) 99 = 1
  | 3 => e = .inr (2, [.ref (F a 0), .ref (F a 1), .ref (F a 2), .int (d 3)]) ∧ K (F a 0) = 21 ∧ F (F a 0) 99 = 100 ∧ K (F a 1) = 21 ∧ F (F a 1) 99 = 101 ∧ K (F a 2) = 24 ∧ F (F a 2) 99 = 4
  | 4 => e = .inr (3, [.ref (F a 0), .ref (F a 1), .ref (F a 2), .ref (F a 3), .int (d 4)]) ∧ K (F a 0) = 24 ∧ F (F a 0) 99 = 0 ∧ K (F a 1) = 24 ∧ F (F a 1) 99 = 1 ∧ K (F a 2) = 24 ∧ F (F a 2) 99 = 2 ∧ K (F a 3) = 24 ∧ F (F a 3) 99 = 3
  | 5 => e = .inr (4, [.ref (F a 0), .ref (F a 1), .ref (F a 2), .int (d 3)]) ∧ K (F a 0) = 21 ∧ F (F a 0) 99 = 102 ∧ K (F a 1) = 24 ∧ F (F a 1) 99 = 5 ∧ K (F a 2) = 24 ∧ F (F a 2) 99 = 6
  | 6 => e = .inr (5, [.ref (F a 0), .ref (F a 1), .ref (F a 2), .ref (F a 3), .ref (F a 4), .ref (F a 5), .int (d 6)]) ∧ K (F a 0) = 22 ∧ F (F a 0) 99 = 10 * F a 99 + 0 ∧ K (F a 1) = 22 ∧ F (F a 1) 99 = 10 * F a 99 + 1 ∧ K (F a 2) = 22 ∧ F (F a 2) 99 = 10 * F a 99 + 2 ∧ K (F a 3) = 22 ∧ F (F a 3) 99 = 10 * F a 99 + 3 ∧ K (F a 4) = 23 ∧ F (F a 4) 99 = 10 * F a 99 + 4 ∧ K (F a 5) = 23 ∧ F (F a 5) 99 = 10 * F a 99 + 5
  | 7 => e = .inr (6, [.ref (F a 0), .int (d 1), .int (d 2), .int (d 3), .int (d 4), .int (d 5)]) ∧ K (F a 0) = 10 ∧ F (F a 0) 99 = 0 ∧ (d 5 = 0 ∨ d 5 = 1)
  | 8 => e = .inr (7, [.ref (F a 0), .ref (F a 1)]) ∧ K (F a 0) = 20 ∧ F (F a 0) 99 = F a 99 ∧ K (F a 1) = 21 ∧ F (F a 1) 99 = F a 99
  | 9 => e = .inr (8, [.int (d 0), .int (d 1), .int (d 2), .int (d 3), .int (d 4), .int (d 5), .int (d 6), .int (d 7), .int (d 8), .int (d 9)]) ∧ (d 9 = 0 ∨ d 9 = 1)
  | 10 => e = .inr (9, [.ref (F a 0), .int (d 1)]) ∧ K (F a 0) = 25 ∧ F (F a 0) 99 = 0
  | 11 => e = .inr (10, [.ref E.2.2.2.1, .int (d 1), .int (d 2), .int (d 3)]) ∧ (d 1 = 0 ∨ d 1 = 1)
  | 12 => e = .inr (11, [.ref (F a 0), .ref (F a 1), .ref (F a 2), .ref (F a 3), .ref (F a 4), .ref (F a 5), .ref (F a 6), .ref (F a 7), .ref (F a 8), .ref (F a 9), .ref (F a 10), .ref (F a 11), .ref (F a 12), .ref (F a 13), .ref (F a 14), .ref (F a 15), .ref (F a 16), .int (d 17), .int (d 18)]) ∧ K (F a 0) = 10 ∧ F (F a 0) 99 = 0 ∧ K (F a 1) = 7 ∧ F (F a 1) 99 = 0 ∧ K (F a 2) = 2 ∧ F (F a 2) 99 = 0 ∧ K (F a 3) = 8 ∧ F (F a 3) 99 = 0 ∧ K (F a 4) = 8 ∧ F (F a 4) 99 = 1 ∧ K (F a 5) = 8 ∧ F (F a 5) 99 = 2 ∧ K (F a 6) = 8 ∧ F (F a 6) 99 = 3 ∧ K (F a 7) = 16 ∧ F (F a 7) 99 = 0 ∧ K (F a 8) = 6 ∧ F (F a 8) 99 = 0 ∧ K (F a 9) = 6 ∧ F (F a 9) 99 = 1 ∧ K (F a 10) = 6 ∧ F (F a 10) 99 = 2 ∧ K (F a 11) = 3 ∧ F (F a 11) 99 = 0 ∧ K (F a 12) = 4 ∧ F (F a 12) 99 = 0 ∧ K (F a 13) = 5 ∧ F (F a 13) 99 = 0 ∧ K (F a 14) = 11 ∧ F (F a 14) 99 = 0 ∧ K (F a 15) = 26 ∧ F (F a 15) 99 = 0 ∧ K (F a 16) = 27 ∧ F (F a 16) 99 = 0 ∧ (d 18 = 0 ∨ d 18 = 1)
  | 13 => e = .inr (12, [.int (d 0), .ref (F a 1), .ref (F a 2), .ref (F a 3), .ref (F a 4), .ref (F a 5), .int (d 6), .int (d 7), .ref (F a 8), .ref (F a 9), .ref (F a 10), .ref (F a 11), .ref (F a 12), .ref (F a 13), .ref (F a 14), .ref (F a 15), .int (d 16), .ref (F a 17), .ref (F a 18), .int (d 19), .int (d 20), .int (d 21), .ref (F a 22), .int (d 23), .ref (F a 24), .ref (F a 25), .ref (F a 26), .ref (F a 27), .ref (F a 28), .ref (F a 29), .ref (F a 30), .ref (F a 31), .ref (F a 32), .ref (F a 33), .ref (F a 34), .ref (F a 35), .int (d 36), .int (d 37), .int (d 38), .int (d 39), .ref (F a 40), .ref (F a 41), .ref (F a 42), .int (d 43), .int (d 44), .int (d 45), .int (d 46), .ref (F a 47), .ref (F a 48), .ref (F a 49), .ref (F a 50), .ref (F a 51)]) ∧ K (F a 1) = 30 ∧ F (F a 1) 99 = 1 ∧ K (F a 2) = 31 ∧ F (F a 2) 99 = 2 ∧ K (F a 3) = 32 ∧ F (F a 3) 99 = 3 ∧ K (F a 4) = 31 ∧ F (F a 4) 99 = 4 ∧ K (F a 5) = 34 ∧ F (F a 5) 99 = 5 ∧ (d 6 = 0 ∨ d 6 = 1) ∧ K (F a 8) = 35 ∧ F (F a 8) 99 = 8 ∧ K (F a 9) = 36 ∧ F (F a 9) 99 = 9 ∧ K (F a 10) = 37 ∧ F (F a 10) 99 = 10 ∧ K (F a 11) = 38 ∧ F (F a 11) 99 = 11 ∧ K (F a 12) = 38 ∧ F (F a 12) 99 = 12 ∧ K (F a 13) = 38 ∧ F (F a 13) 99 = 13 ∧ K (F a 14) = 38 ∧ F (F a 14) 99 = 14 ∧ K (F a 15) = 42 ∧ F (F a 15) 99 = 15 ∧ K (F a 17) = 43 ∧ F (F a 17) 99 = 17 ∧ K (F a 18) = 44 ∧ F (F a 18) 99 = 18 ∧ K (F a 22) = 45 ∧ F (F a 22) 99 = 22 ∧ K (F a 24) = 47 ∧ F (F a 24) 99 = 24 ∧ K (F a 25) = 49 ∧ F (F a 25) 99 = 25 ∧ K (F a 26) = 49 ∧ F (F a 26) 99 = 26 ∧ K (F a 27) = 48 ∧ F (F a 27) 99 = 27 ∧ K (F a 28) = 46 ∧ F (F a 28) 99 = 28 ∧ K (F a 29) = 48 ∧ F (F a 29) 99 = 29 ∧ K (F a 30) = 47 ∧ F (F a 30) 99 = 30 ∧ K (F a 31) = 50 ∧ F (F a 31) 99 = 31 ∧ K (F a 32) = 48 ∧ F (F a 32) 99 = 32 ∧ K (F a 33) = 47 ∧ F (F a 33) 99 = 33 ∧ K (F a 34) = 47 ∧ F (F a 34) 99 = 34 ∧ K (F a 35) = 51 ∧ F (F a 35) 99 = 35 ∧ (d 39 = 0 ∨ d 39 = 1) ∧ K (F a 40) = 52 ∧ F (F a 40) 99 = 40 ∧ K (F a 41) = 53 ∧ F (F a 41) 99 = 41 ∧ K (F a 42) = 54 ∧ F (F a 42) 99 = 42 ∧ K (F a 47) = 55 ∧ F (F a 47) 99 = 47 ∧ K (F a 48) = 56 ∧ F (F a 48) 99 = 48 ∧ K (F a 49) = 57 ∧ F (F a 49) 99 = 49 ∧ K (F a 50) = 58 ∧ F (F a 50) 99 = 50 ∧ K (F a 51) = 59 ∧ F (F a 51) 99 = 51
  | 14 => e = .inl (E.2.1 6, 1, .inr (.inl l))
  | 15 => e = .inl (E.2.1 4, 12, .inr (.inr (.inr (.inr r)))) ∧ ∀ i q, r i = some q → K q = 9
  | 16 => e = .inl (E.2.1 5, 8, .inr (.inr (.inr (.inr r)))) ∧ ∀ i, i < 8 → ∃ q, r i = some q ∧ K q = 8 ∧ F q 99 = 4 + i
  | k => ∃ (tc n : Nat), xat k = some (tc, n) ∧ e = .inl (E.2.1 tc, n, .inl c) ∧ ∀ i, xok tc (c i)
abbrev SHQ (E : XE) (K : Nat → Nat) (F : Nat → Nat → Nat) (G : XG) (a k : Nat) (e : va_E) : Prop := SHP E K F (G.1 a) (G.2.1 a) (G.2.2.1 a) G.2.2.2 a k e
def XB (E : XE) (K : Nat → Nat) (ws : va_W) : Prop := ∃ (i j v n : Nat) (f : Nat → Int32) (ml cnt : Int32), ws[i]? = some (E.2.2.2.1, .inr (0, [.ref v, .int 0, .int ml, .int cnt])) ∧ ws[j]? = some (v, .inl (E.2.1 2, n, .inl f)) ∧ K E.2.2.2.1 = 0 ∧ K v = 0 ∧ (∀ q, xok 2 (f q)) ∧ 0 ≤ cnt.toInt ∧ cnt.toInt ≤ n ∧ n ≤ 100
def TWl (E : XE) (K : Nat → Nat) (F : Nat → Nat → Nat) (G : XG) (ws : va_W) : Prop := (∀ a : Nat, K a ≠ 0 → ∃ (i : Nat) (e : va_E), ws[i]? = some (a, e) ∧ SHQ E K F G a (K a) e) ∧ XB E K ws
def TW (E : XE) (K : Nat → Nat) (F : Nat → Nat → Nat) (G : XG) (H : Heap) : Prop := ∃ ws, TWl E K F G ws ∧ va_P E.1 vwCl ws H ∧ va_D (xA E) ws
theorem set_at {ws : va_W} {i i' : Nat} {a b : Nat} {e e' x : va_E} (he : ws[i]? = some (a, e)) (hi : ws[i']? = some (b, x)) (hne : b ≠ a) : (ws.set i (a, e'))[i']? = some (b, x) := by
  have h : i ≠ i' := by
    intro h
    subst h
    rw [he] at hi
    exact hne (congrArg Prod.fst (Option.some.inj hi)).symm
  rw [List.getElem?_set_ne h]
  exact hi
theorem set_here {ws : va_W} {i a : Nat} {e e' : va_E} (he : ws[i]? = some (a, e)) : (ws.set i (a, e'))[i]? = some (a, e') := by
  rw [List.getElem?_set_self]
  exact (List.getElem?_eq_some_iff.mp he).1
theorem XB.set {E : XE} {K : Nat → Nat} {ws : va_W} {i a : Nat} {e e' : va_E} (h : XB E K ws) (he : ws[i]? = some (a, e)) (hk : K a ≠ 0) : XB E K (ws.set i (a, e')) := by
  obtain ⟨i1, j1, v, n, f, ml, cnt, h1, h2, h3, h4, h5⟩ := h
  refine ⟨i1, j1, v, n, f, ml, cnt, set_at he h1 ?_, set_at he h2 ?_, h3, h4, h5⟩
  · intro q; rw [q] at h3; exact hk h3
  · intro q; rw [q] at h4; exact hk h4
/-- what is told changes at the address a alone (a row of longs: there is one) -/
def XGa (K : Nat → Nat) (a : Nat) (G G' : XG) : Prop := ∀ b, b ≠ a → G'.1 b = G.1 b ∧ G'.2.1 b = G.2.1 b ∧ G'.2.2.1 b = G.2.2.1 b ∧ (K b = 14 → G'.2.2.2 = G.2.2.2)
theorem SHP.lg {E : XE} {K : Nat → Nat} {F : Nat → Nat → Nat} {d c : Nat → Int32} {r : Nat → Option Nat} {l l' : Nat → Int64} {a k : Nat} {e : va_E} (hl : k = 14 → l' = l) (h : SHP E K F d c r l a k e) : SHP E K F d c r l' a k e := by
  by_cases e9 : k = 14
  · rw [hl e9]
    exact h
  · unfold SHP at h ⊢
    split at h
    all_goals first | exact h | exact absurd rfl e9 | (split <;> first | exact h | (exfalso; simp_all; done))
theorem TWl.set {E : XE} {K : Nat → Nat} {F : Nat → Nat → Nat} {G G' : XG} {ws : va_W} {i a : Nat} {e e' : va_E} (h : TWl E K F G ws) (he : ws[i]? = some (a, e)) (hk : K a ≠ 0) (hg : XGa K a G G') (hs : SHQ E K F G' a (K a) e') : TWl E K F G' (ws.set i (a, e')) := by
  refine ⟨fun b hb => ?_, h.2.set he hk⟩
  by_cases hab : b = a
  · subst hab
    exact ⟨i, e', set_here he, hs⟩
  · obtain ⟨i2, e2, h1, h2⟩ := h.1 b hb
    obtain ⟨g1, g2, g3, g4⟩ := hg b hab
    refine ⟨i2, e2, set_at he h1 hab, ?_⟩
    show SHP E K F (G'.1 b) (G'.2.1 b) (G'.2.2.1 b) G'.2.2.2 b (K b) e2
    rw [g1, g2, g3]
    exact SHP.lg g4 h2
theorem TW.lt {E : XE} {K : Nat → Nat} {F : Nat → Nat → Nat} {G : XG} {H : Heap} (h : TW E K F G H) {a : Nat} (ha : K a ≠ 0) : a < H.size := by
  obtain ⟨ws, h1, h2, -⟩ := h
  obtain ⟨i, e, h3, -⟩ := h1.1 a ha
  exact (h2 i _ h3).lt
theorem TW.at {E : XE} {K : Nat → Nat} {F : Nat → Nat → Nat} {G : XG} {H : Heap} (h : TW E K F G H) {a k : Nat} (ha : K a = k) (hk : k ≠ 0) : ∃ (ws : va_W) (i : Nat) (e : va_E), TWl E K F G ws ∧ va_P E.1 vwCl ws H ∧ va_D (xA E) ws ∧ ws[i]? = some (a, e) ∧ SHQ E K F G a k e := by
  obtain ⟨ws, h1, h2, h3⟩ := h
  obtain ⟨i, e, h4, h5⟩ := h1.1 a (by rw [ha]; exact hk)
  rw [ha] at h5
  exact ⟨ws, i, e, h1, h2, h3, h4, h5⟩
def dput (G : XG) (a j : Nat) (v : Int32) : XG := (up2 G.1 a j v, G.2)
def cput (G : XG) (a i : Nat) (v : Int32) : XG := (G.1, up2 G.2.1 a i v, G.2.2)
def ccopy (G : XG) (a : Nat) (f : Nat → Int32) : XG := (G.1, upr G.2.1 a f, G.2.2)
def rput (G : XG) (a i : Nat) (v : Option Nat) : XG := (G.1, G.2.1, up2 G.2.2.1 a i v, G.2.2.2)
theorem XGa.d {K : Nat → Nat} {G : XG} {a j : Nat} {v : Int32} : XGa K a G (dput G a j v) := fun b h => ⟨up2_ne h, rfl, rfl, fun _ => rfl⟩
theorem XGa.c {K : Nat → Nat} {G : XG} {a i : Nat} {v : Int32} : XGa K a G (cput G a i v) := fun b h => ⟨rfl, up2_ne h, rfl, fun _ => rfl⟩
theorem XGa.cc {K : Nat → Nat} {G : XG} {a : Nat} {f : Nat → Int32} : XGa K a G (ccopy G a f) := fun b h => ⟨rfl, upr_ne h, rfl, fun _ => rfl⟩
theorem XGa.r {K : Nat → Nat} {G : XG} {a i : Nat} {v : Option Nat} : XGa K a G (rput G a i v) := fun b h => ⟨rfl, rfl, up2_ne h, fun _ => rfl⟩

def xnl : List (String × Nat × MethodName) := [("LateRules$Reader", 81, ⟨"LateRules", "wordOf", "(I)Ljava/lang/String;"⟩), ("LateRules$Rows", 24, ⟨"LateRules", "isTable", "(I)Z"⟩), ("LateRules$Rows", 28, ⟨"LateRules", "isKey", "(I)Z"⟩), ("LateRules$Rows", 31, ⟨"LateRules", "isColumn", "(I)Z"⟩), ("LateRules$Comparison", 31, ⟨"LateRules", "isTable", "(I)Z"⟩), ("LateRules$Rule", 32, ⟨"LateRules", "isKey", "(I)Z"⟩), ("LateRules$Rule", 36, ⟨"LateRules", "isSubjectValue", "(I)Z"⟩), ("LateRules$Leaners", 65, ⟨"LateRules", "isTable", "(I)Z"⟩), ("LateRules$Leaners", 69, ⟨"LateRules", "isKey", "(I)Z"⟩), ("LateRules$Comparison", 35, ⟨"LateRules", "isKey", "(I)Z"⟩)]
def xsl : List (String × Nat × String) := [("LateRules", 374, "unique"), ("LateRules", 376, "refers"), ("LateRules", 378, "range"), ("LateRules", 380, "sum"), ("LateRules", 382, "count"), ("LateRules", 384, "tree"), ("LateRules$Reader", 85, "cascade"), ("LateRules$Reader", 87, "clear"), ("LateRules$Reader", 63, "late"), ("LateRules$Reader", 71, "rank"), ("LateRules$Verdict", 33, "rule "), ("LateRules", 260, "no such row or column"), ("LateRules", 299, "no such question in the queue")]
def xlen : List Nat := [6, 6, 5, 3, 5, 4, 7, 5, 4, 4, 5, 21, 29]
def xbyt : List (List Int32) := [[117, 110, 105, 113, 117, 101], [114, 101, 102, 101, 114, 115], [114, 97, 110, 103, 101], [115, 117, 109], [99, 111, 117, 110, 116], [116, 114, 101, 101], [99, 97, 115, 99, 97, 100, 101], [99, 108, 101, 97, 114], [108, 97, 116, 101], [114, 97, 110, 107], [114, 117, 108, 101, 32], [110, 111, 32, 115, 117, 99, 104, 32, 114, 111, 119, 32, 111, 114, 32, 99, 111, 108, 117, 109, 110], [110, 111, 32, 115, 117, 99, 104, 32, 113, 117, 101, 115, 116, 105, 111, 110, 32, 105, 110, 32, 116, 104, 101, 32, 113, 117, 101, 117, 101]]
/-- strings and statics, which lie outside of the world -/
def XS (E : XE) (U : State) (H : Heap) : Prop := vk_S 13 xlen xbyt E.2.2.2.2.1 E.2.2.2.2.2 (xA E) U H ∧ va_Z "java/lang/String" "COMPACT_STRINGS" "Z" (.int 1) (xA E) U H ∧ va_Zq "jdk/internal/util/Preconditions" "SIOOBE_FORMATTER" "Ljava/util/function/BiFunction;" (xA E) U H ∧ vx_Zq Bundle.tN "UNASSIGNED_STACK" Bundle.steD (xA E) U H ∧ vx_Zq Bundle.tN "SUPPRESSED_SENTINEL" Bundle.listD (xA E) U H ∧ (∃ (t : Nat) (f : Nat → Int32), va_Z "java/lang/Integer" "DigitTens" "[B" (.ref t) (xA E) U H ∧ va_T .byte t 100 (fun j => .int (f j)) (xA E) U H) ∧ (∃ (t : Nat) (f : Nat → Int32), va_Z "java/lang/Integer" "DigitOnes" "[B" (.ref t) (xA E) U H ∧ va_T .byte t 100 (fun j => .int (f j)) (xA E) U H)
def XK (E : XE) (U : State) : Prop := va_K E.1 vwCl (xty E.2.1) U ∧ (∀ q ∈ xnl, va_Nw (.methodLinkNest q.1 q.2.1 q.2.2 "LateRules") U) ∧ (∀ (i : Nat) (q : String × Nat × String), xsl[i]? = some q → vk_R q.1 q.2.1 q.2.2 (E.2.2.2.2.1 i) U) ∧ XS E U U.heap
theorem XS.moved {E : XE} {u U : State} {H : Heap} (hvm : u.vm.Alike U.vm) (h : XS E u H) : XS E U H := by
  obtain ⟨h1, h2, h3, h4, h5, ⟨t, f, h6, h7⟩, t', f', h8, h9⟩ := h
  exact ⟨vk_S.moved hvm h1, va_Z.moved hvm h2, va_Zq.moved hvm h3, vx_Zq.moved hvm h4, vx_Zq.moved hvm h5, ⟨t, f, va_Z.moved hvm h6, va_T.moved hvm h7⟩, t', f', va_Z.moved hvm h8, va_T.moved hvm h9⟩
theorem XS.kept {E : XE} {U : State} {H H1 : Heap} (h : XS E U H) (hq : ∀ a : Nat, a < H.size → ¬ xA E a → H1[a]? = H[a]?) : XS E U H1 := by
  obtain ⟨h1, h2, h3, h4, h5, ⟨t, f, h6, h7⟩, t', f', h8, h9⟩ := h
  exact ⟨vk_S.kept h1 hq, va_Z.kept h2 hq, va_Zq.kept h3 hq, vx_Zq.kept h4 hq, vx_Zq.kept h5 hq, ⟨t, f, va_Z.kept h6 hq, va_T.kept h7 hq⟩, t', f', va_Z.kept h8 hq, va_T.kept h9 hq⟩
theorem XK.at {E : XE} {s U : State} {locs : List Loc} {H : Heap} (h : XK E s) (hS : va_S (xA E) s.heap H locs) (hU : U.heap = H) (hW : s.WarmedH U.vm) : XK E U := by
  obtain ⟨h1, h2, h3, h4⟩ := h
  refine ⟨va_K.moved hW.alike h1, fun q hq => va_Nw.warmM hW (h2 q hq), fun i q hq => vk_R.warm hW (h3 i q hq), ?_⟩
  rw [hU]
  exact XS.moved hW.alike (h4.kept hS.2.1)
theorem XK.same {E : XE} {u U : State} (h : XK E u) (hv : U.vm = u.vm) (hh : U.heap = u.heap) : XK E U := by
  obtain ⟨h1, h2, h3, h4⟩ := h
  have ha : u.vm.Alike U.vm := by rw [hv]; exact Vm.Alike.refl u.vm
  refine ⟨va_K.moved ha h1, fun q hq => va_Nw.same rfl hv.symm (h2 q hq), fun i q hq => vk_R.same hv (h3 i q hq), ?_⟩
  rw [hh]
  exact XS.moved ha h4
def XP (E : XE) (K : Nat → Nat) (F : Nat → Nat → Nat) (G : XG) (U : State) : Prop := E.2.2.1 ≤ U.heap.size ∧ XK E U ∧ TW E K F G U.heap
theorem XP.at {E : XE} {K : Nat → Nat} {F : Nat → Nat → Nat} {G : XG} {s U : State} {locs : List Loc} {H : Heap} (hK : XK E s) (hz : E.2.2.1 ≤ s.heap.size) (hS : va_S (xA E) s.heap H locs) (hT : TW E K F G H) (hU : U.heap = H) (hW : s.WarmedH U.vm) : XP E K F G U :=
  ⟨by rw [hU]; exact Nat.le_trans hz hS.1, hK.at hS hU hW, by rw [hU]; exact hT⟩
theorem XP.blind {E : XE} {K : Nat → Nat} {F : Nat → Nat → Nat} {G : XG} {av : List Value} : FrameBlind (va_Pc av (XP E K F G)) := fun a U g mk h => ⟨h.1, h.2.1, h.2.2.1.same (u := U) rfl rfl, h.2.2.2⟩
/-- .. in just this heap -/
def XPh (E : XE) (K : Nat → Nat) (F : Nat → Nat → Nat) (G : XG) (h0 : Heap) (U : State) : Prop := XP E K F G U ∧ U.heap = h0
theorem XPh.blind {E : XE} {K : Nat → Nat} {F : Nat → Nat → Nat} {G : XG} {h0 : Heap} {av : List Value} : FrameBlind (va_Pc av (XPh E K F G h0)) := fun a U g mk h => ⟨h.1, ⟨h.2.1.1, h.2.1.2.1.same (u := U) rfl rfl, h.2.1.2.2⟩, h.2.2⟩
theorem XPh.at {E : XE} {K : Nat → Nat} {F : Nat → Nat → Nat} {G : XG} {s U : State} {locs : List Loc} {H : Heap} (hK : XK E s) (hz : E.2.2.1 ≤ s.heap.size) (hS : va_S (xA E) s.heap H locs) (hT : TW E K F G H) (hU : U.heap = H) (hW : s.WarmedH U.vm) : XPh E K F G H U := ⟨XP.at hK hz hS hT hU hW, hU⟩
def XQ (E : XE) {S : Type} (post : Value → S → Prop) (B : S → Heap → Prop) : Array Value → State → Outcome → State → Prop := fun _ st oc t => (∃ (v : Value) (u : S), oc = .returned (some v) ∧ post v u ∧ B u t.heap) ∧ va_F (xA E) st t
def XQv (E : XE) {S : Type} (post : S → Prop) (B : S → Heap → Prop) : Array Value → State → Outcome → State → Prop := fun _ st oc t => (∃ u : S, oc = .returned none ∧ post u ∧ B u t.heap) ∧ va_F (xA E) st t
/-- a method's entry -/
theorem x_enter {l : Launch} {y : MethodName} {bytes : ByteArray} {maxL : Nat} {ret : Option FieldType} {rm : Room} {mc ms : Nat} {av : List Value} {P : State → Prop} {Qc : Array Value → State → Outcome → State → Prop} {free : Addr → Prop} (hy : plainName y.cls = true) (hlen : (lg_sl av).length ≤ maxL)
    (body : ∀ (p : Program) (e : Env) (s : State) (m : MethodId) (args : Array Value) (below : List Frame) (meth : Method) (c : Code) (Q : State → Prop), CallFix p m c bytes maxL s args (xw y bytes maxL ret) y.cls → meth.sig.returnType = ret → meth.locks = false → meth.name = y.name → Q = MQ below Qc args s mc ms free → P s → ∀ ls : Array Slot, lv_has ls maxL (lv_args 0 av) → W p l e rm s m args below meth c s.heap [] 0 0 Q (F0 m 0 ls [])) : Met l y (xw y bytes maxL ret) rm (va_Pc av P) Qc mc ms free := by
  refine Met.ofW (cc := bytes) (maxL := maxL) (ret := ret) hy rfl ?_
  intro p e s m args below meth c s₁ B hml hv
  obtain ⟨rfl, hP⟩ := hv
  have hl := lv_entry av (n := maxL) hlen
  rw [lg_entry_eq]
  exact body p e s m _ below meth c _ ⟨B.exec, B.bytes, hml, findClass_of_methodNamed B.named, atoms_spec (ws := xw y bytes maxL ret) B.pre⟩ B.returns B.notSynchronized (name_of_methodNamed B.named B.method).1 rfl hP _ hl
section XC
variable {p : Program} {l : Launch} {e : Env} {R : Room} {s : State} {m : MethodId} {args : Array Value} {below : List Frame} {meth : Method} {c : Code} {H : Heap} {locs : List Loc} {cells slots : Nat} {Q : State → Prop}
variable {pc : Nat} {ls : Array Slot} {rest st0 : List Value} {a : Array Value} {H0 : Heap} {mc ms : Nat} {E : XE}
theorem x_cl {S : Type} {post : Value → S → Prop} {B : S → Heap → Prop} (hr : va_Run p l e R s m args below meth c H locs cells slots mc ms (F0 m pc ls st0) rest (XQ E post B a) (xA E)) (hS : va_S (xA E) H0 H locs)
    (kk : ∀ (v : Value) (u : S) (H1 : Heap) (locs1 : List Loc), post v u → B u H1 → va_S (xA E) H0 H1 locs1 → W p l e R s m args below meth c H1 locs1 (cells + mc) (slots + ms) Q (F0 m (pc + 3) ls (v :: rest))) : W p l e R s m args below meth c H locs cells slots Q (F0 m pc ls st0) := by
  intro T hT X
  obtain ⟨v, st₀, t, T', L, h0, X', hL, e1, e2, ⟨⟨r, u, hv, hp, hb⟩, hz, hk⟩, st⟩ := hr T hT X
  cases hv
  rw [h0] at hz hk
  obtain ⟨t2, a1, b1⟩ := kk r u T'.heap (locs ++ L) hp (by rw [e1]; exact hb)
    ⟨Nat.le_trans hS.1 (by rw [e1]; exact hz), fun q h1 h2 => by rw [e1, hk q (Nat.lt_of_lt_of_le h1 hS.1) h2]; exact hS.2.1 q h1 h2, fun q hq => by
      rcases List.mem_append.mp hq with h | h
      · exact hS.2.2 q h
      · exact hL q h⟩ T' rfl X'
  exact ⟨t2, st t2 a1, b1⟩
theorem x_cv {S : Type} {post : S → Prop} {B : S → Heap → Prop} (hr : va_Run p l e R s m args below meth c H locs cells slots mc ms (F0 m pc ls st0) rest (XQv E post B a) (xA E)) (hS : va_S (xA E) H0 H locs)
    (kk : ∀ (u : S) (H1 : Heap) (locs1 : List Loc), post u → B u H1 → va_S (xA E) H0 H1 locs1 → W p l e R s m args below meth c H1 locs1 (cells + mc) (slots + ms) Q (F0 m (pc + 3) ls rest)) : W p l e R s m args below meth c H locs cells slots Q (F0 m pc ls st0) := by
  intro T hT X
  obtain ⟨v, st₀, t, T', L, h0, X', hL, e1, e2, ⟨⟨u, hv, hp, hb⟩, hz, hk⟩, st⟩ := hr T hT X
  cases hv
  rw [h0] at hz hk
  obtain ⟨t2, a1, b1⟩ := kk u T'.heap (locs ++ L) hp (by rw [e1]; exact hb)
    ⟨Nat.le_trans hS.1 (by rw [e1]; exact hz), fun q h1 h2 => by rw [e1, hk q (Nat.lt_of_lt_of_le h1 hS.1) h2]; exact hS.2.1 q h1 h2, fun q hq => by
      rcases List.mem_append.mp hq with h | h
      · exact hS.2.2 q h
      · exact hL q h⟩ T' rfl X'
  exact ⟨t2, st t2 a1, b1⟩
theorem x_cl0 {S : Type} {post : Value → S → Prop} {B : S → Heap → Prop} (hr : va_Run p l e R s m args below meth c H locs cells slots 0 0 (F0 m pc ls st0) rest (XQ E post B a) (xA E)) (hS : va_S (xA E) H0 H locs)
    (kk : ∀ (v : Value) (u : S) (H1 : Heap) (locs1 : List Loc), post v u → B u H1 → va_S (xA E) H0 H1 locs1 → W p l e R s m args below meth c H1 locs1 cells slots Q (F0 m (pc + 3) ls (v :: rest))) : W p l e R s m args below meth c H locs cells slots Q (F0 m pc ls st0) := x_cl hr hS kk
theorem x_cv0 {S : Type} {post : S → Prop} {B : S → Heap → Prop} (hr : va_Run p l e R s m args below meth c H locs cells slots 0 0 (F0 m pc ls st0) rest (XQv E post B a) (xA E)) (hS : va_S (xA E) H0 H locs)
    (kk : ∀ (u : S) (H1 : Heap) (locs1 : List Loc), post u → B u H1 → va_S (xA E) H0 H1 locs1 → W p l e R s m args below meth c H1 locs1 cells slots Q (F0 m (pc + 3) ls rest)) : W p l e R s m args below meth c H locs cells slots Q (F0 m pc ls st0) := x_cv hr hS kk
theorem x_cvp {S : Type} {post : S → Prop} (hr : va_Run p l e R s m args below meth c H locs cells slots 0 0 (F0 m pc ls st0) rest (XQv E post (fun _ H' => H' = H) a) (xA E)) (hS : va_S (xA E) H0 H locs)
    (kk : ∀ (u : S) (locs1 : List Loc), post u → va_S (xA E) H0 H locs1 → W p l e R s m args below meth c H locs1 cells slots Q (F0 m (pc + 3) ls rest)) : W p l e R s m args below meth c H locs cells slots Q (F0 m pc ls st0) :=
  x_cv0 hr hS (fun u H1 locs1 hp hB hS1 => by subst hB; exact kk u locs1 hp hS1)
theorem x_clp {S : Type} {post : Value → S → Prop} (hr : va_Run p l e R s m args below meth c H locs cells slots 0 0 (F0 m pc ls st0) rest (XQ E post (fun _ H' => H' = H) a) (xA E)) (hS : va_S (xA E) H0 H locs)
    (kk : ∀ (v : Value) (u : S) (locs1 : List Loc), post v u → va_S (xA E) H0 H locs1 → W p l e R s m args below meth c H locs1 cells slots Q (F0 m (pc + 3) ls (v :: rest))) : W p l e R s m args below meth c H locs cells slots Q (F0 m pc ls st0) :=
  x_cl0 hr hS (fun v u H1 locs1 hp hB hS1 => by subst hB; exact kk v u locs1 hp hS1)
variable {y : MethodName} {bytes cc : ByteArray} {maxL nL n index : Nat} {ret : Option FieldType} {rm : Room} {Qc : Array Value → State → Outcome → State → Prop} {own C : String} {b : Addr} {As : List Value} {w0 : Cond} {P9 : State → Prop}
theorem x_callB (S : CallFix p m c cc nL s args (w0 :: GT) own) (n : Nat) (h1 : Cond.code y bytes maxL ret ∈ GT) (h4 : Cond.initialized y.cls ∈ GT) (hl : Cond.methodLink own index y ∈ GT) (hrc : rm.cells = mc) (hrs : rm.slots = ms)
    (hd : y.cls ≠ "java/lang/invoke/MethodHandle" ∧ y.cls ≠ "java/lang/invoke/VarHandle" ∧ (parseMethodDescriptor y.desc).map (fun d => d.parameters.length) = some n) (hR : rm.frames + 1 ≤ R.frames ∧ 8 + (maxL + 11) + rm.locals ≤ R.locals) : CallB R s args own index y bytes maxL ret (xw y bytes maxL ret) rm mc ms n :=
  callB_of n S.2.2.2.2 (xw_in h1) rfl hrc hrs (S.2.2.2.2 _ (List.mem_cons_of_mem _ h4)) (S.2.2.2.2 _ (List.mem_cons_of_mem _ hl)) hd hR
theorem x_runV (S : CallFix p m c cc nL s args (w0 :: GT) own) (hM : Met l y (xw y bytes maxL ret) rm (va_Pc (.ref b :: As) P9) Qc mc ms (xA E)) (hc : xcV y C bytes maxL ret n) (hl : Cond.methodLink own index y ∈ GT) (hrc : rm.cells = mc) (hrs : rm.slots = ms) (hR : rm.frames + 1 ≤ R.frames ∧ 8 + (maxL + 11) + rm.locals ≤ R.locals)
    (hb : ∃ cell : Cell, H[b]? = some cell ∧ cell.vm.isStatics = false ∧ s.vm.findClass C = some cell.cls) (hK : XK E s) (hbl : ∀ av : List Value, FrameBlind (va_Pc av P9)) (hp9 : ∀ U : State, U.heap = H → s.WarmedH U.vm → P9 U)
    (hn : As.length = n) (hsize : ls.size = nL) (hW : (rest.map fun v => v.category).sum ≤ 8) (hdg : decode cc pc = .ok (.invokevirtual index, 3)) (hf : cells + mc ≤ R.cells ∧ slots + ms ≤ R.slots) :
    va_Run p l e R s m args below meth c H locs cells slots mc ms (F0 m pc ls (As.reverse ++ .ref b :: rest)) rest (Qc (Value.ref b :: As).toArray) (xA E) :=
  va_runV S hM ⟨x_callB S n hc.1.1 hc.1.2.2.2 hl hrc hrs hc.2 hR, S.2.2.2.2 _ (List.mem_cons_of_mem _ hc.1.2.1), S.2.2.2.2 _ (List.mem_cons_of_mem _ hc.1.2.2.1)⟩ ⟨hbl _, hb, fun U hU hW => ⟨rfl, hp9 U hU hW⟩⟩ rfl hn hsize rfl (lv_room hW) hdg hf
theorem x_runS (S : CallFix p m c cc nL s args (w0 :: GT) own) (hM : Met l y (xw y bytes maxL ret) rm (va_Pc As P9) Qc mc ms (xA E)) (hc : xcS y bytes maxL ret n) (hl : Cond.methodLink own index y ∈ GT) (hrc : rm.cells = mc) (hrs : rm.slots = ms) (hR : rm.frames + 1 ≤ R.frames ∧ 8 + (maxL + 11) + rm.locals ≤ R.locals)
    (hK : XK E s) (hbl : ∀ av : List Value, FrameBlind (va_Pc av P9)) (hp9 : ∀ U : State, U.heap = H → s.WarmedH U.vm → P9 U)
    (hn : As.length = n) (hsize : ls.size = nL) (hW : (rest.map fun v => v.category).sum ≤ 8) (hdg : decode cc pc = .ok (.invokestatic index, 3)) (hf : cells + mc ≤ R.cells ∧ slots + ms ≤ R.slots) :
    va_Run p l e R s m args below meth c H locs cells slots mc ms (F0 m pc ls (As.reverse ++ rest)) rest (Qc As.toArray) (xA E) :=
  va_runS S hM ⟨x_callB S n hc.1.1 hc.1.2.2 hl hrc hrs hc.2 hR, S.2.2.2.2 _ (List.mem_cons_of_mem _ hc.1.2.1)⟩ ⟨hbl _, fun U hU hW => ⟨rfl, hp9 U hU hW⟩⟩ rfl hn hsize rfl (lv_room hW) hdg hf
theorem x_runSN (S : CallFix p m c cc nL s args (w0 :: GT) own) (hM : Met l y (xw y bytes maxL ret) rm (va_Pc As P9) Qc mc ms (xA E)) (hc : xcS y bytes maxL ret n) (hl : (own, index, y) ∈ xnl) (hrc : rm.cells = mc) (hrs : rm.slots = ms) (hR : rm.frames + 1 ≤ R.frames ∧ 8 + (maxL + 11) + rm.locals ≤ R.locals)
    (hK : XK E s) (hbl : ∀ av : List Value, FrameBlind (va_Pc av P9)) (hp9 : ∀ U : State, U.heap = H → s.WarmedH U.vm → P9 U)
    (hn : As.length = n) (hsize : ls.size = nL) (hW : (rest.map fun v => v.category).sum ≤ 8) (hdg : decode cc pc = .ok (.invokestatic index, 3)) (hf : cells + mc ≤ R.cells ∧ slots + ms ≤ R.slots) :
    va_Run p l e R s m args below meth c H locs cells slots mc ms (F0 m pc ls (As.reverse ++ rest)) rest (Qc As.toArray) (xA E) :=
  va_runSN S hM ⟨va_cnB n S.2.2.2.2 (xw_in hc.1.1) rfl hrc hrs (hK.2.1 _ hl) (S.2.2.2.2 _ (List.mem_cons_of_mem _ hc.1.2.2)) hc.2 hR, S.2.2.2.2 _ (List.mem_cons_of_mem _ hc.1.2.1), trivial⟩ ⟨hbl _, fun U hU hW => ⟨rfl, hp9 U hU hW⟩⟩ rfl hn hsize rfl (lv_room hW) hdg hf
end XC

