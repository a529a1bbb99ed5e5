theorem aI_pz {G u : XG} {a : Nat} {i x : Int32} {I X : Int} {f : Nat → Int32} (h : u = cput G a i.toNatClampNeg x) (hg : G.2.1 a = f) (hi : i.toInt = I) (hx : x.toInt = X) (h0 : 0 ≤ I) : ∀ z : Int, 0 ≤ z → aI (u.2.1 a) z = if z = I then X else aI f z := by
  subst hi hx hg h
  exact fun z hz => aI_put h0 z hz
/-! counts, as the machine counts: modulo 2 to the 32nd -/
def AdI (y x k : Int) : Prop := (y - x - k) % 4294967296 = 0
theorem AdI.of {y x k : Int} (h : y - x = k) : AdI y x k := by
  unfold AdI
  omega
theorem AdI.tr {z y x k m : Int} (h : AdI y x k) (h2 : AdI z y m) : AdI z x (k + m) := by
  unfold AdI at *
  omega
theorem AdI.add {x : Int32} {y : Int32} {b : Int32} (h : y = x + b) : AdI y.toInt x.toInt b.toInt := by
  subst h
  unfold AdI
  rw [xadd]
  omega
theorem AdI.eq {y x k y2 x2 : Int} (h : AdI y x k) (h2 : AdI y2 x2 k) (e : x = x2) (b : -2147483648 ≤ y ∧ y < 2147483648) (b2 : -2147483648 ≤ y2 ∧ y2 < 2147483648) : y = y2 := by
  unfold AdI at *
  omega
theorem AdI.cg {y x k m : Int} (h : AdI y x k) (e : k = m) : AdI y x m := e ▸ h
/-- of a row of counts: what each grew by -/
def SF (f g : Nat → Int32) (k0 k1 k2 k3 : Int) : Prop := AdI (aI g 0) (aI f 0) k0 ∧ AdI (aI g 1) (aI f 1) k1 ∧ AdI (aI g 2) (aI f 2) k2 ∧ AdI (aI g 3) (aI f 3) k3
def SI (f g : Nat → Int32) (k0 k1 k2 k3 k4 k5 : Int) : Prop := AdI (aI g 0) (aI f 0) k0 ∧ AdI (aI g 1) (aI f 1) k1 ∧ AdI (aI g 2) (aI f 2) k2 ∧ AdI (aI g 3) (aI f 3) k3 ∧ AdI (aI g 4) (aI f 4) k4 ∧ AdI (aI g 5) (aI f 5) k5
theorem AdI.rf (x : Int) : AdI x x 0 := AdI.of (by omega)
theorem SF.rf (f : Nat → Int32) : SF f f 0 0 0 0 := ⟨AdI.rf _, AdI.rf _, AdI.rf _, AdI.rf _⟩
theorem SI.rf (f : Nat → Int32) : SI f f 0 0 0 0 0 0 := ⟨AdI.rf _, AdI.rf _, AdI.rf _, AdI.rf _, AdI.rf _, AdI.rf _⟩
theorem SF.tr {f g h : Nat → Int32} {a b c d a2 b2 c2 d2 : Int} (x : SF f g a b c d) (y : SF g h a2 b2 c2 d2) : SF f h (a + a2) (b + b2) (c + c2) (d + d2) := ⟨x.1.tr y.1, x.2.1.tr y.2.1, x.2.2.1.tr y.2.2.1, x.2.2.2.tr y.2.2.2⟩
theorem SI.tr {f g h : Nat → Int32} {a b c d e j a2 b2 c2 d2 e2 j2 : Int} (x : SI f g a b c d e j) (y : SI g h a2 b2 c2 d2 e2 j2) : SI f h (a + a2) (b + b2) (c + c2) (d + d2) (e + e2) (j + j2) := ⟨x.1.tr y.1, x.2.1.tr y.2.1, x.2.2.1.tr y.2.2.1, x.2.2.2.1.tr y.2.2.2.1, x.2.2.2.2.1.tr y.2.2.2.2.1, x.2.2.2.2.2.tr y.2.2.2.2.2⟩
theorem SF.cg {f g : Nat → Int32} {a b c d a2 b2 c2 d2 : Int} (x : SF f g a b c d) (h0 : a = a2) (h1 : b = b2) (h2 : c = c2) (h3 : d = d2) : SF f g a2 b2 c2 d2 := by
  subst h0 h1 h2 h3
  exact x
theorem SI.cg {f g : Nat → Int32} {a b c d e j a2 b2 c2 d2 e2 j2 : Int} (x : SI f g a b c d e j) (h0 : a = a2) (h1 : b = b2) (h2 : c = c2) (h3 : d = d2) (h4 : e = e2) (h5 : j = j2) : SI f g a2 b2 c2 d2 e2 j2 := by
  subst h0 h1 h2 h3 h4 h5
  exact x
/-- one cell more by b -/
theorem aI_inc {G u : XG} {a : Nat} {i x y b : Int32} {I : Int} {f : Nat → Int32} (h : u = cput G a i.toNatClampNeg y) (hg : G.2.1 a = f) (hi : i.toInt = I) (h0 : 0 ≤ I) (hx : x.toInt = aI f I) (hy : y = x + b) : ∀ z : Int, 0 ≤ z → AdI (aI (u.2.1 a) z) (aI f z) (if z = I then b.toInt else 0) := by
  intro z hz
  rw [aI_pz h hg hi rfl h0 z hz]
  by_cases e : z = I
  · rw [if_pos e, if_pos e, e, ← hx]
    exact AdI.add hy
  · rw [if_neg e, if_neg e]
    exact AdI.rf _
theorem SF.inc {G u : XG} {a : Nat} {i x y b : Int32} {I : Int} {f : Nat → Int32} (h : u = cput G a i.toNatClampNeg y) (hg : G.2.1 a = f) (hi : i.toInt = I) (h0 : 0 ≤ I) (hx : x.toInt = aI f I) (hy : y = x + b) : SF f (u.2.1 a) (if I = 0 then b.toInt else 0) (if I = 1 then b.toInt else 0) (if I = 2 then b.toInt else 0) (if I = 3 then b.toInt else 0) := by
  have k := aI_inc h hg hi h0 hx hy
  have e : ∀ z : Int, (if z = I then b.toInt else 0) = (if I = z then b.toInt else 0) := fun z => by
    by_cases q : z = I
    · rw [if_pos q, if_pos q.symm]
    · rw [if_neg q, if_neg (fun w => q w.symm)]
  exact ⟨(k 0 (by decide)).cg (e 0), (k 1 (by decide)).cg (e 1), (k 2 (by decide)).cg (e 2), (k 3 (by decide)).cg (e 3)⟩
theorem SI.inc {G u : XG} {a : Nat} {i x y b : Int32} {I : Int} {f : Nat → Int32} (h : u = cput G a i.toNatClampNeg y) (hg : G.2.1 a = f) (hi : i.toInt = I) (h0 : 0 ≤ I) (hx : x.toInt = aI f I) (hy : y = x + b) : SI f (u.2.1 a) (if I = 0 then b.toInt else 0) (if I = 1 then b.toInt else 0) (if I = 2 then b.toInt else 0) (if I = 3 then b.toInt else 0) (if I = 4 then b.toInt else 0) (if I = 5 then b.toInt else 0) := by
  have k := aI_inc h hg hi h0 hx hy
  have e : ∀ z : Int, (if z = I then b.toInt else 0) = (if I = z then b.toInt else 0) := fun z => by
    by_cases q : z = I
    · rw [if_pos q, if_pos q.symm]
    · rw [if_neg q, if_neg (fun w => q w.symm)]
  exact ⟨(k 0 (by decide)).cg (e 0), (k 1 (by decide)).cg (e 1), (k 2 (by decide)).cg (e 2), (k 3 (by decide)).cg (e 3), (k 4 (by decide)).cg (e 4), (k 5 (by decide)).cg (e 5)⟩
theorem SF.eq {f g f2 g2 : Nat → Int32} {a b c d : Int} (x : SF f g a b c d) (y : SF f2 g2 a b c d) (h : ∀ j : Int, 0 ≤ j → j < 4 → aI f j = aI f2 j) : ∀ j : Int, 0 ≤ j → j < 4 → aI g j = aI g2 j := by
  intro j h0 h1
  have hc : j = 0 ∨ j = 1 ∨ j = 2 ∨ j = 3 := by omega
  rcases hc with e | e | e | e <;> subst e
  · exact x.1.eq y.1 (h 0 h0 h1) (xrA _ _) (xrA _ _)
  · exact x.2.1.eq y.2.1 (h 1 h0 h1) (xrA _ _) (xrA _ _)
  · exact x.2.2.1.eq y.2.2.1 (h 2 h0 h1) (xrA _ _) (xrA _ _)
  · exact x.2.2.2.eq y.2.2.2 (h 3 h0 h1) (xrA _ _) (xrA _ _)
theorem SI.eq {f g f2 g2 : Nat → Int32} {a b c d e9 j9 : Int} (x : SI f g a b c d e9 j9) (y : SI f2 g2 a b c d e9 j9) (h : ∀ j : Int, 0 ≤ j → j < 6 → aI f j = aI f2 j) : ∀ j : Int, 0 ≤ j → j < 6 → aI g j = aI g2 j := by
  intro j h0 h1
  have hc : j = 0 ∨ j = 1 ∨ j = 2 ∨ j = 3 ∨ j = 4 ∨ j = 5 := by omega
  rcases hc with e | e | e | e | e | e <;> subst e
  · exact x.1.eq y.1 (h 0 h0 h1) (xrA _ _) (xrA _ _)
  · exact x.2.1.eq y.2.1 (h 1 h0 h1) (xrA _ _) (xrA _ _)
  · exact x.2.2.1.eq y.2.2.1 (h 2 h0 h1) (xrA _ _) (xrA _ _)
  · exact x.2.2.2.1.eq y.2.2.2.1 (h 3 h0 h1) (xrA _ _) (xrA _ _)
  · exact x.2.2.2.2.1.eq y.2.2.2.2.1 (h 4 h0 h1) (xrA _ _) (xrA _ _)
  · exact x.2.2.2.2.2.eq y.2.2.2.2.2 (h 5 h0 h1) (xrA _ _) (xrA _ _)
theorem SF.i0 {G u : XG} {a : Nat} {i x y : Int32} {f : Nat → Int32} (h : u = cput G a i.toNatClampNeg y) (hg : G.2.1 a = f) (hi : i.toInt = 0) (hx : x.toInt = aI f 0) (hy : y = x + 1) : SF f (u.2.1 a) 1 0 0 0 := (SF.inc h hg hi (by decide) hx hy).cg (by decide) (by decide) (by decide) (by decide)
theorem SF.i1 {G u : XG} {a : Nat} {i x y : Int32} {f : Nat → Int32} (h : u = cput G a i.toNatClampNeg y) (hg : G.2.1 a = f) (hi : i.toInt = 1) (hx : x.toInt = aI f 1) (hy : y = x + 1) : SF f (u.2.1 a) 0 1 0 0 := (SF.inc h hg hi (by decide) hx hy).cg (by decide) (by decide) (by decide) (by decide)
theorem SF.i2 {G u : XG} {a : Nat} {i x y : Int32} {f : Nat → Int32} (h : u = cput G a i.toNatClampNeg y) (hg : G.2.1 a = f) (hi : i.toInt = 2) (hx : x.toInt = aI f 2) (hy : y = x + 1) : SF f (u.2.1 a) 0 0 1 0 := (SF.inc h hg hi (by decide) hx hy).cg (by decide) (by decide) (by decide) (by decide)
theorem SF.i3 {G u : XG} {a : Nat} {i x y : Int32} {f : Nat → Int32} (h : u = cput G a i.toNatClampNeg y) (hg : G.2.1 a = f) (hi : i.toInt = 3) (hx : x.toInt = aI f 3) (hy : y = x + 1) : SF f (u.2.1 a) 0 0 0 1 := (SF.inc h hg hi (by decide) hx hy).cg (by decide) (by decide) (by decide) (by decide)
theorem SI.i0 {G u : XG} {a : Nat} {i x y : Int32} {f : Nat → Int32} (h : u = cput G a i.toNatClampNeg y) (hg : G.2.1 a = f) (hi : i.toInt = 0) (hx : x.toInt = aI f 0) (hy : y = x + 1) : SI f (u.2.1 a) 1 0 0 0 0 0 := (SI.inc h hg hi (by decide) hx hy).cg (by decide) (by decide) (by decide) (by decide) (by decide) (by decide)
theorem SI.i1 {G u : XG} {a : Nat} {i x y : Int32} {f : Nat → Int32} (h : u = cput G a i.toNatClampNeg y) (hg : G.2.1 a = f) (hi : i.toInt = 1) (hx : x.toInt = aI f 1) (hy : y = x + 1) : SI f (u.2.1 a) 0 1 0 0 0 0 := (SI.inc h hg hi (by decide) hx hy).cg (by decide) (by decide) (by decide) (by decide) (by decide) (by decide)
theorem SI.i2 {G u : XG} {a : Nat} {i x y : Int32} {f : Nat → Int32} (h : u = cput G a i.toNatClampNeg y) (hg : G.2.1 a = f) (hi : i.toInt = 2) (hx : x.toInt = aI f 2) (hy : y = x + 1) : SI f (u.2.1 a) 0 0 1 0 0 0 := (SI.inc h hg hi (by decide) hx hy).cg (by decide) (by decide) (by decide) (by decide) (by decide) (by decide)
theorem SI.i3 {G u : XG} {a : Nat} {i x y : Int32} {f : Nat → Int32} (h : u = cput G a i.toNatClampNeg y) (hg : G.2.1 a = f) (hi : i.toInt = 3) (hx : x.toInt = aI f 3) (hy : y = x + 1) : SI f (u.2.1 a) 0 0 0 1 0 0 := (SI.inc h hg hi (by decide) hx hy).cg (by decide) (by decide) (by decide) (by decide) (by decide) (by decide)
theorem SI.i4 {G u : XG} {a : Nat} {i x y : Int32} {f : Nat → Int32} (h : u = cput G a i.toNatClampNeg y) (hg : G.2.1 a = f) (hi : i.toInt = 4) (hx : x.toInt = aI f 4) (hy : y = x + 1) : SI f (u.2.1 a) 0 0 0 0 1 0 := (SI.inc h hg hi (by decide) hx hy).cg (by decide) (by decide) (by decide) (by decide) (by decide) (by decide)
theorem SI.i5 {G u : XG} {a : Nat} {i x y : Int32} {f : Nat → Int32} (h : u = cput G a i.toNatClampNeg y) (hg : G.2.1 a = f) (hi : i.toInt = 5) (hx : x.toInt = aI f 5) (hy : y = x + 1) : SI f (u.2.1 a) 0 0 0 0 0 1 := (SI.inc h hg hi (by decide) hx hy).cg (by decide) (by decide) (by decide) (by decide) (by decide) (by decide)
theorem SF.j0 {G u : XG} {a : Nat} {i x y b : Int32} {f : Nat → Int32} {z : Int} (h : u = cput G a i.toNatClampNeg y) (hg : G.2.1 a = f) (hi : i.toInt = 0) (hx : x.toInt = aI f 0) (hy : y = x + b) (hb : b.toInt = z) : SF f (u.2.1 a) z 0 0 0 := (SF.inc h hg hi (by decide) hx hy).cg ((if_pos rfl).trans hb) (if_neg (by decide)) (if_neg (by decide)) (if_neg (by decide))
theorem SI.j0 {G u : XG} {a : Nat} {i x y b : Int32} {f : Nat → Int32} {z : Int} (h : u = cput G a i.toNatClampNeg y) (hg : G.2.1 a = f) (hi : i.toInt = 0) (hx : x.toInt = aI f 0) (hy : y = x + b) (hb : b.toInt = z) : SI f (u.2.1 a) z 0 0 0 0 0 := (SI.inc h hg hi (by decide) hx hy).cg ((if_pos rfl).trans hb) (if_neg (by decide)) (if_neg (by decide)) (if_neg (by decide)) (if_neg (by decide)) (if_neg (by decide))
theorem SI.j5 {G u : XG} {a : Nat} {i x y b : Int32} {f : Nat → Int32} {z : Int} (h : u = cput G a i.toNatClampNeg y) (hg : G.2.1 a = f) (hi : i.toInt = 5) (hx : x.toInt = aI f 5) (hy : y = x + b) (hb : b.toInt = z) : SI f (u.2.1 a) 0 0 0 0 0 z := (SI.inc h hg hi (by decide) hx hy).cg (if_neg (by decide)) (if_neg (by decide)) (if_neg (by decide)) (if_neg (by decide)) (if_neg (by decide)) ((if_pos rfl).trans hb)
