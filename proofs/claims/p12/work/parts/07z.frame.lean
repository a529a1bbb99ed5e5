/-! ===== frames: what may have changed ===== -/
/-- only the int fields d, the rows c, the rows of references r may have changed -/
def XFr (d : List (Nat × Nat)) (c r : List Nat) (G G' : XG) : Prop := (∀ b j, (b, j) ∉ d → G'.1 b j = G.1 b j) ∧ (∀ b, b ∉ c → G'.2.1 b = G.2.1 b) ∧ (∀ b, b ∉ r → G'.2.2.1 b = G.2.2.1 b)
theorem XFr.rf {d : List (Nat × Nat)} {c r : List Nat} {G : XG} : XFr d c r G G := ⟨fun _ _ _ => rfl, fun _ _ => rfl, fun _ _ => rfl⟩
theorem XFr.dput {d : List (Nat × Nat)} {c r : List Nat} {G G' : XG} {a j : Nat} {v : Int32} (h : XFr d c r G G') (hm : (a, j) ∈ d) : XFr d c r G (dput G' a j v) := by
  refine ⟨fun b i hb => ?_, h.2.1, h.2.2⟩
  rw [← h.1 b i hb]
  show up2 G'.1 a j v b i = _
  unfold up2
  rw [if_neg (fun q => hb (by rw [q.1, q.2]; exact hm))]
theorem XFr.cput {d : List (Nat × Nat)} {c r : List Nat} {G G' : XG} {a i : Nat} {v : Int32} (h : XFr d c r G G') (hm : a ∈ c) : XFr d c r G (cput G' a i v) :=
  ⟨h.1, fun b hb => (up2_ne (fun q => hb (by rw [q]; exact hm))).trans (h.2.1 b hb), h.2.2⟩
theorem XFr.ccopy {d : List (Nat × Nat)} {c r : List Nat} {G G' : XG} {a : Nat} {f : Nat → Int32} (h : XFr d c r G G') (hm : a ∈ c) : XFr d c r G (ccopy G' a f) :=
  ⟨h.1, fun b hb => (upr_ne (fun q => hb (by rw [q]; exact hm))).trans (h.2.1 b hb), h.2.2⟩
theorem XFr.rput {d : List (Nat × Nat)} {c r : List Nat} {G G' : XG} {a i : Nat} {v : Option Nat} (h : XFr d c r G G') (hm : a ∈ r) : XFr d c r G (rput G' a i v) :=
  ⟨h.1, h.2.1, fun b hb => (up2_ne (fun q => hb (by rw [q]; exact hm))).trans (h.2.2 b hb)⟩
theorem XFr.call {d d1 : List (Nat × Nat)} {c c1 r r1 : List Nat} {G G' G2 : XG} (h : XFr d c r G G') (h1 : XFr d1 c1 r1 G' G2) (hd : ∀ q ∈ d1, q ∈ d) (hc : ∀ q ∈ c1, q ∈ c) (hr : ∀ q ∈ r1, q ∈ r) : XFr d c r G G2 :=
  ⟨fun b j hb => (h1.1 b j (fun q => hb (hd _ q))).trans (h.1 b j hb), fun b hb => (h1.2.1 b (fun q => hb (hc _ q))).trans (h.2.1 b hb), fun b hb => (h1.2.2 b (fun q => hb (hr _ q))).trans (h.2.2 b hb)⟩
theorem xm0 {α : Type} {l : List α} : ∀ q ∈ ([] : List α), q ∈ l := fun _ h => by cases h
theorem xm1 {α : Type} {l l1 : List α} {x : α} (i : Nat) (h : l[i]? = some x) (h1 : ∀ q ∈ l1, q ∈ l) : ∀ q ∈ x :: l1, q ∈ l := List.forall_mem_cons.mpr ⟨List.mem_of_getElem? h, h1⟩
theorem xn0 {α : Type} {x : α} : x ∉ ([] : List α) := fun h => by cases h
theorem xn1 {b a : Nat} {l : List Nat} (h : b ≠ a) (h1 : b ∉ l) : b ∉ a :: l := fun q => (List.mem_cons.mp q).elim h h1
theorem xnj {b j a i : Nat} {l : List (Nat × Nat)} (h : j ≠ i) (h1 : (b, j) ∉ l) : (b, j) ∉ (a, i) :: l := fun q => (List.mem_cons.mp q).elim (fun e => h (congrArg Prod.snd e)) h1
theorem xna {b j a i : Nat} {l : List (Nat × Nat)} (h : b ≠ a) (h1 : (b, j) ∉ l) : (b, j) ∉ (a, i) :: l := fun q => (List.mem_cons.mp q).elim (fun e => h (congrArg Prod.fst e)) h1
theorem xne_k {K : Nat → Nat} {a b x y : Nat} (ha : K a = x) (hb : K b = y) (h : x ≠ y) : a ≠ b := fun e => h (by rw [← ha, ← hb, e])
theorem xne_j {F : Nat → Nat → Nat} {a b x y : Nat} (ha : F a 99 = x) (hb : F b 99 = y) (h : x ≠ y) : a ≠ b := fun e => h (by rw [← ha, ← hb, e])
theorem aI_put {G : XG} {a : Nat} {i x : Int32} (hi : 0 ≤ i.toInt) (z : Int) (hz : 0 ≤ z) : aI ((cput G a i.toNatClampNeg x).2.1 a) z = if z = i.toInt then x.toInt else aI (G.2.1 a) z := by
  have h : (cput G a i.toNatClampNeg x).2.1 a = upd (G.2.1 a) i.toNatClampNeg x := by show up2 _ _ _ _ _ = _; rw [up2_r, upr_at]
  rw [h]
  exact aI_upd hi z hz
