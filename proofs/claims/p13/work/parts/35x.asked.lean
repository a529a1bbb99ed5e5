/-! ===== what the reference asked ===== -/
def aL (G : XG) (F : Nat → Nat → Nat) (a : Nat) : List (Int × Int) := lst (fun i => ((G.2.1 (F a 41) i).toInt, (G.2.1 (F a 42) i).toInt)) (G.1 a 43).toInt.toNat
theorem aL_len (G : XG) (F : Nat → Nat → Nat) (a : Nat) : (aL G F a).length = (G.1 a 43).toInt.toNat := lst_len _ _
theorem aL_cg {G u : XG} {F : Nat → Nat → Nat} {a : Nat} (hn : u.1 a 43 = G.1 a 43) (h0 : u.2.1 (F a 41) = G.2.1 (F a 41)) (h1 : u.2.1 (F a 42) = G.2.1 (F a 42)) : aL u F a = aL G F a := by
  unfold aL
  rw [hn, h0, h1]
theorem aI_pz {G u : XG} {a : Nat} {i x : Int32} {I X : Int} {f : Nat → Int32} (h : u = cput G a i.toNatClampNeg x) (hg : G.2.1 a = f) (hi : i.toInt = I) (hx : x.toInt = X) (h0 : 0 ≤ I) : ∀ z : Int, 0 ≤ z → aI (u.2.1 a) z = if z = I then X else aI f z := by
  subst hi hx hg h
  exact fun z hz => aI_put h0 z hz
