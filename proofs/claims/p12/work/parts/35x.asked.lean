/-! ===== what the reference asked ===== -/
def aL (G : XG) (F : Nat → Nat → Nat) (a : Nat) : List (Int × Int) := lst (fun i => ((G.2.1 (F a 41) i).toInt, (G.2.1 (F a 42) i).toInt)) (G.1 a 43).toInt.toNat
theorem aL_len (G : XG) (F : Nat → Nat → Nat) (a : Nat) : (aL G F a).length = (G.1 a 43).toInt.toNat := lst_len _ _
theorem aL_cg {G u : XG} {F : Nat → Nat → Nat} {a : Nat} (hn : u.1 a 43 = G.1 a 43) (h0 : u.2.1 (F a 41) = G.2.1 (F a 41)) (h1 : u.2.1 (F a 42) = G.2.1 (F a 42)) : aL u F a = aL G F a := by
  unfold aL
  rw [hn, h0, h1]
