/-! ===== what the world's rows tell ===== -/
theorem cput_j {G G1 : XG} {a i : Nat} {x : Int32} (h : G1 = cput G a i x) (j : Nat) : G1.2.1 a j = if j = i then x else G.2.1 a j := by
  subst h
  show up2 _ _ _ _ _ _ = _
  unfold up2
  by_cases e : j = i
  · rw [if_pos ⟨rfl, e⟩, if_pos e]
  · rw [if_neg (fun q => e q.2), if_neg e]
theorem rput_j {G G1 : XG} {a i : Nat} {x : Option Nat} (h : G1 = rput G a i x) (j : Nat) : G1.2.2.1 a j = if j = i then x else G.2.2.1 a j := by
  subst h
  show up2 _ _ _ _ _ _ = _
  unfold up2
  by_cases e : j = i
  · rw [if_pos ⟨rfl, e⟩, if_pos e]
  · rw [if_neg (fun q => e q.2), if_neg e]
/-- the questions of a list -/
def qL (G : XG) (F : Nat → Nat → Nat) (a : Nat) : List Qt := lst (qt (G.2.1 (F a 0)) (G.2.1 (F a 1)) (G.2.1 (F a 2)) (G.2.1 (F a 3)) (G.2.1 (F a 4)) (G.2.1 (F a 5))) (G.1 a 6).toInt.toNat
theorem qL_push {G u : XG} {F : Nat → Nat → Nat} {a : Nat} {n : Nat} {x0 x1 x2 x3 x4 x5 : Int32} (hn : (G.1 a 6).toInt = n) (hu : (u.1 a 6).toInt = (n : Int) + 1)
    (h0 : ∀ j, u.2.1 (F a 0) j = if j = n then x0 else G.2.1 (F a 0) j) (h1 : ∀ j, u.2.1 (F a 1) j = if j = n then x1 else G.2.1 (F a 1) j) (h2 : ∀ j, u.2.1 (F a 2) j = if j = n then x2 else G.2.1 (F a 2) j) (h3 : ∀ j, u.2.1 (F a 3) j = if j = n then x3 else G.2.1 (F a 3) j) (h4 : ∀ j, u.2.1 (F a 4) j = if j = n then x4 else G.2.1 (F a 4) j) (h5 : ∀ j, u.2.1 (F a 5) j = if j = n then x5 else G.2.1 (F a 5) j) : qL u F a = qL G F a ++ [(x0.toInt, x1.toInt, x2.toInt, x3.toInt, x4.toInt, x5.toInt)] := by
  unfold qL
  rw [hn, hu, show ((n : Int) + 1).toNat = n + 1 from by omega, show (n : Int).toNat = n from by omega]
  refine lst_push (fun i hi => ?_) ?_
  · have e : ¬ (i = n) := by omega
    unfold qt
    rw [h0, h1, h2, h3, h4, h5, if_neg e, if_neg e, if_neg e, if_neg e, if_neg e, if_neg e]
  · unfold qt
    rw [h0, h1, h2, h3, h4, h5, if_pos rfl, if_pos rfl, if_pos rfl, if_pos rfl, if_pos rfl, if_pos rfl]
/-- the rank of an entry -/
def rkO (G : XG) (o : Option Nat) : Int := match o with
  | some q => (G.1 q 8).toInt
  | none => 0
theorem rkO_fr {d : List (Nat × Nat)} {c r : List Nat} {G G2 : XG} (h : XFr d c r G G2) (hd : ∀ b, (b, 8) ∉ d) (o : Option Nat) : rkO G2 o = rkO G o := by
  cases o with
  | none => rfl
  | some q => exact congrArg Int32.toInt (h.1 q 8 (hd q))
theorem xzi {v : Int32} (h : v = 0 ∨ v = 1) : v.toInt = 0 ∨ v.toInt = 1 := by rcases h with h | h <;> subst h <;> decide
section LG
variable {G G1 : XG} {a i b j : Nat} {v : Int32} {o : Option Nat} {f : Nat → Int32}
theorem ld_at (h : G1 = dput G a j v) : G1.1 a j = v := by subst h; exact up2_at
theorem ld_j (h : G1 = dput G a i v) (hn : j ≠ i) : G1.1 b j = G.1 b j := by subst h; exact up2_nj hn
theorem ld_a (h : G1 = dput G a i v) (hn : b ≠ a) : G1.1 b j = G.1 b j := by subst h; exact congrFun (up2_ne hn) _
theorem lc_d (h : G1 = cput G a i v) : G1.1 b j = G.1 b j := by subst h; rfl
theorem lcc_d (h : G1 = ccopy G a f) : G1.1 b j = G.1 b j := by subst h; rfl
theorem lr_d (h : G1 = rput G a i o) : G1.1 b j = G.1 b j := by subst h; rfl
theorem ld_c (h : G1 = dput G a i v) : G1.2.1 b = G.2.1 b := by subst h; rfl
theorem lr_c (h : G1 = rput G a i o) : G1.2.1 b = G.2.1 b := by subst h; rfl
theorem lc_c (h : G1 = cput G a i v) (hn : b ≠ a) : G1.2.1 b = G.2.1 b := by subst h; exact up2_ne hn
theorem lcc_c (h : G1 = ccopy G a f) (hn : b ≠ a) : G1.2.1 b = G.2.1 b := by subst h; exact upr_ne hn
theorem ld_r (h : G1 = dput G a i v) : G1.2.2.1 b = G.2.2.1 b := by subst h; rfl
theorem lc_r (h : G1 = cput G a i v) : G1.2.2.1 b = G.2.2.1 b := by subst h; rfl
theorem lcc_r (h : G1 = ccopy G a f) : G1.2.2.1 b = G.2.2.1 b := by subst h; rfl
theorem lr_r (h : G1 = rput G a i o) (hn : b ≠ a) : G1.2.2.1 b = G.2.2.1 b := by subst h; exact up2_ne hn
end LG
