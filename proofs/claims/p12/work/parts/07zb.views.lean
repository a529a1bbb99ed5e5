/-! ===== what the world's rows tell ===== -/
theorem cput_j {G G1 : XG} {a i : Nat} {x : Int32} (h : G1 = cput G a i x) (j : Nat) : G1.2.1 a j = if j = i then x else G.2.1 a j := by
  subst h
  show up2 _ _ _ _ _ _ = _
  unfold up2
  by_cases e : j = i
  · rw [if_pos ⟨rfl, e⟩, if_pos e]
  · rw [if_neg (fun q => e q.2), if_neg e]
theorem rput_j {G G1 : XG} {a i : Nat} {x : Option Nat} (h : G1 = rput G a i x) (j : Nat) : G1.2.2.1 a j = if j = i then x else G.2.2.1 a j := by
  subst h
  show up2 _ _ _ _ _ _ = _
  unfold up2
  by_cases e : j = i
  · rw [if_pos ⟨rfl, e⟩, if_pos e]
  · rw [if_neg (fun q => e q.2), if_neg e]
/-- the questions of a list -/
def qL (G : XG) (F : Nat → Nat → Nat) (a : Nat) : List Qt := lst (qt (G.2.1 (F a 0)) (G.2.1 (F a 1)) (G.2.1 (F a 2)) (G.2.1 (F a 3)) (G.2.1 (F a 4)) (G.2.1 (F a 5))) (G.1 a 6).toInt.toNat
theorem qL_push {G u : XG} {F : Nat → Nat → Nat} {a : Nat} {n : Nat} {x0 x1 x2 x3 x4 x5 : Int32} (hn : (G.1 a 6).toInt = n) (hu : (u.1 a 6).toInt = (n : Int) + 1)
    (h0 : ∀ j, u.2.1 (F a 0) j = if j = n then x0 else G.2.1 (F a 0) j) (h1 : ∀ j, u.2.1 (F a 1) j = if j = n then x1 else G.2.1 (F a 1) j) (h2 : ∀ j, u.2.1 (F a 2) j = if j = n then x2 else G.2.1 (F a 2) j) (h3 : ∀ j, u.2.1 (F a 3) j = if j = n then x3 else G.2.1 (F a 3) j) (h4 : ∀ j, u.2.1 (F a 4) j = if j = n then x4 else G.2.1 (F a 4) j) (h5 : ∀ j, u.2.1 (F a 5) j = if j = n then x5 else G.2.1 (F a 5) j) : qL u F a = qL G F a ++ [(x0.toInt, x1.toInt, x2.toInt, x3.toInt, x4.toInt, x5.toInt)] := by
  unfold qL
  rw [hn, hu, show ((n : Int) + 1).toNat = n + 1 from by omega, show (n : Int).toNat = n from by omega]
  refine lst_push (fun i hi => ?_) ?_
  · have e : ¬ (i = n) := by omega
    unfold qt
    rw [h0, h1, h2, h3, h4, h5, if_neg e, if_neg e, if_neg e, if_neg e, if_neg e, if_neg e]
  · unfold qt
    rw [h0, h1, h2, h3, h4, h5, if_pos rfl, if_pos rfl, if_pos rfl, if_pos rfl, if_pos rfl, if_pos rfl]
/-- the rank of an entry -/
def rkO (G : XG) (o : Option Nat) : Int := match o with
  | some q => (G.1 q 8).toInt
  | none => 0
theorem rkO_fr {d : List (Nat × Nat)} {c r : List Nat} {G G2 : XG} (h : XFr d c r G G2) (hd : ∀ b, (b, 8) ∉ d) (o : Option Nat) : rkO G2 o = rkO G o := by
  cases o with
  | none => rfl
  | some q => exact congrArg Int32.toInt (h.1 q 8 (hd q))
theorem xzi {v : Int32} (h : v = 0 ∨ v = 1) : v.toInt = 0 ∨ v.toInt = 1 := by rcases h with h | h <;> subst h <;> decide
section LG
variable {G G1 : XG} {a i b j : Nat} {v : Int32} {o : Option Nat} {f : Nat → Int32}
theorem ld_at (h : G1 = dput G a j v) : G1.1 a j = v := by subst h; exact up2_at
theorem ld_j (h : G1 = dput G a i v) (hn : j ≠ i) : G1.1 b j = G.1 b j := by subst h; exact up2_nj hn
theorem ld_a (h : G1 = dput G a i v) (hn : b ≠ a) : G1.1 b j = G.1 b j := by subst h; exact congrFun (up2_ne hn) _
theorem lc_d (h : G1 = cput G a i v) : G1.1 b j = G.1 b j := by subst h; rfl
theorem lcc_d (h : G1 = ccopy G a f) : G1.1 b j = G.1 b j := by subst h; rfl
theorem lr_d (h : G1 = rput G a i o) : G1.1 b j = G.1 b j := by subst h; rfl
theorem ld_c (h : G1 = dput G a i v) : G1.2.1 b = G.2.1 b := by subst h; rfl
theorem lr_c (h : G1 = rput G a i o) : G1.2.1 b = G.2.1 b := by subst h; rfl
theorem lc_c (h : G1 = cput G a i v) (hn : b ≠ a) : G1.2.1 b = G.2.1 b := by subst h; exact up2_ne hn
theorem lcc_c (h : G1 = ccopy G a f) (hn : b ≠ a) : G1.2.1 b = G.2.1 b := by subst h; exact upr_ne hn
theorem ld_r (h : G1 = dput G a i v) : G1.2.2.1 b = G.2.2.1 b := by subst h; rfl
theorem lc_r (h : G1 = cput G a i v) : G1.2.2.1 b = G.2.2.1 b := by subst h; rfl
theorem lcc_r (h : G1 = ccopy G a f) : G1.2.2.1 b = G.2.2.1 b := by subst h; rfl
theorem lr_r (h : G1 = rput G a i o) (hn : b ≠ a) : G1.2.2.1 b = G.2.2.1 b := by subst h; exact up2_ne hn
end LG
/-- the book's order is that of its rules -/
def BO (G : XG) (F : Nat → Nat → Nat) (a : Nat) : Prop := ORn (G.2.2.1 (F a 0)) (G.2.2.1 (F a 1)) (G.1 a 2).toInt (fun i => rkO G (G.2.2.1 (F a 0) i)) 12
theorem BO.arr {d : List (Nat × Nat)} {c r : List Nat} {G G2 : XG} {F : Nat → Nat → Nat} {a : Nat} (h : XFr d c r G G2) (hd : ∀ b, (b, 8) ∉ d) (h0 : G2.2.2.1 (F a 0) = G.2.2.1 (F a 0)) (ho : ORn (G.2.2.1 (F a 0)) (G2.2.2.1 (F a 1)) (G2.1 a 2).toInt (fun i => rkO G (G.2.2.1 (F a 0) i)) 12) : BO G2 F a := by
  unfold BO
  rw [h0]
  have e : (fun i => rkO G2 (G.2.2.1 (F a 0) i)) = fun i => rkO G (G.2.2.1 (F a 0) i) := by
    funext i
    exact rkO_fr h hd _
  rw [e]
  exact ho
theorem ccopy_at {G G1 : XG} {a : Nat} {f : Nat → Int32} (h : G1 = ccopy G a f) : G1.2.1 a = f := by
  subst h
  exact upr_at
theorem vw_cpy (f g : Nat → Int32) : vw (va_cpy f g 0 0 270) = vw f := by
  funext z
  unfold vw
  split
  · unfold aI va_cpy
    rw [if_pos (by omega)]
    congr 2
    omega
  · rfl
theorem aI_cpy (f g : Nat → Int32) (n : Nat) {t : Int} (h : 0 ≤ t ∧ t < n) : aI (va_cpy f g 0 0 n) t = aI f t := by
  unfold aI va_cpy
  rw [if_pos (by omega)]
  congr 2
  omega
theorem RO.congr {r b b2 : Int → Int} (h : RO r b) (hb : ∀ t : Int, 0 ≤ t → t < 3 → b2 t = b t) : RO r b2 := by
  obtain ⟨h1, h2, h3⟩ := h
  refine ⟨fun t k a1 a2 a3 a4 => ?_, h2, fun t k a1 a2 a3 a4 => ?_⟩
  · rw [hb t a1 a2]
    exact h1 t k a1 a2 a3 a4
  · rw [hb t a1 a2]
    exact h3 t k a1 a2 a3 a4
/-- the row (t, k) is at k2 now -/
def rmv (r : Int → Int) (t k k2 : Int) : Int → Int := fun z => if 0 ≤ z - (90 * t + k) ∧ (z - (90 * t + k)) % 30 = 0 ∧ (z - (90 * t + k)) / 30 < 3 then -2000 else if 0 ≤ z - (90 * t + k2) ∧ (z - (90 * t + k2)) % 30 = 0 ∧ (z - (90 * t + k2)) / 30 < 3 then r (z - k2 + k) else r z
/-- its first n columns are there -/
def rmc (r : Int → Int) (t k k2 n : Int) : Int → Int := fun z => if 0 ≤ z - (90 * t + k2) ∧ (z - (90 * t + k2)) % 30 = 0 ∧ (z - (90 * t + k2)) / 30 < n then r (z - k2 + k) else rfil r t k2 (-1000) 3 z
theorem rmc_0 (r : Int → Int) (t k k2 : Int) : rmc r t k k2 0 = rfil r t k2 (-1000) 3 := by
  funext z
  unfold rmc
  rw [if_neg (by omega)]
theorem rmc_s (r : Int → Int) (t k k2 n : Int) (h : 0 ≤ n) : rset (rmc r t k k2 n) (90 * t + 30 * n + k2) (r (90 * t + 30 * n + k)) = rmc r t k k2 (n + 1) := by
  funext z
  show (if z = 90 * t + 30 * n + k2 then r (90 * t + 30 * n + k) else rmc r t k k2 n z) = rmc r t k k2 (n + 1) z
  unfold rmc
  by_cases e : z = 90 * t + 30 * n + k2
  · rw [if_pos e, if_pos (by omega)]
    congr 1
    omega
  · rw [if_neg e]
    by_cases g : 0 ≤ z - (90 * t + k2) ∧ (z - (90 * t + k2)) % 30 = 0 ∧ (z - (90 * t + k2)) / 30 < n
    · rw [if_pos g, if_pos (by omega)]
    · rw [if_neg g, if_neg (by omega)]
theorem rmc_3 (r : Int → Int) (t k k2 : Int) (h : 0 ≤ k ∧ k < 30 ∧ 0 ≤ k2 ∧ k2 < 30 ∧ k ≠ k2) : rfil (rmc r t k k2 3) t k (-2000) 3 = rmv r t k k2 := by
  funext z
  show (if 0 ≤ z - (90 * t + k) ∧ (z - (90 * t + k)) % 30 = 0 ∧ (z - (90 * t + k)) / 30 < 3 then -2000 else rmc r t k k2 3 z) = rmv r t k k2 z
  unfold rmv
  by_cases g : 0 ≤ z - (90 * t + k) ∧ (z - (90 * t + k)) % 30 = 0 ∧ (z - (90 * t + k)) / 30 < 3
  · rw [if_pos g, if_pos g]
  · rw [if_neg g, if_neg g]
    unfold rmc
    by_cases g2 : 0 ≤ z - (90 * t + k2) ∧ (z - (90 * t + k2)) % 30 = 0 ∧ (z - (90 * t + k2)) / 30 < 3
    · rw [if_pos g2, if_pos g2]
    · rw [if_neg g2, if_neg g2]
      show (if _ then _ else r z) = r z
      rw [if_neg g2]
theorem rmc_cel {r : Int → Int} {t k k2 n c : Int} (h0 : 0 ≤ t ∧ t < 3 ∧ 0 ≤ k ∧ k < 30 ∧ 0 ≤ k2 ∧ k2 < 30 ∧ k ≠ k2 ∧ 0 ≤ c ∧ c < 3 ∧ 0 ≤ n) : cel (rmc r t k k2 n) t k c = cel r t k c := by
  rw [cel_in (by omega), cel_in (by omega)]
  unfold rmc
  rw [if_neg (by omega)]
  unfold rfil
  rw [if_neg (by omega)]
theorem rmc_has {r : Int → Int} {t k k2 n : Int} (h0 : 0 ≤ t ∧ t < 3 ∧ 0 ≤ k ∧ k < 30 ∧ 0 ≤ k2 ∧ k2 < 30 ∧ 0 ≤ n) (h : cel r t k 0 ≠ -2000) : cel (rmc r t k k2 n) t k2 0 ≠ -2000 := by
  rw [cel_in (by omega)] at h ⊢
  unfold rmc
  split
  · rw [show 90 * t + 30 * 0 + k2 - k2 + k = 90 * t + 30 * 0 + k from by omega]
    exact h
  · unfold rfil
    rw [if_pos (by omega)]
    decide
theorem mv_ok {r r2 b : Int → Int} {t k k2 c : Int} (h : RO r b) (h1 : cel r t k 0 ≠ -2000) (e : r2 = rmc r t k k2 c) (h0 : 0 ≤ t ∧ t < 3 ∧ 0 ≤ k ∧ k < 30 ∧ 0 ≤ k2 ∧ k2 < 30 ∧ k ≠ k2 ∧ 0 ≤ c ∧ c < 3 ∧ 0 ≤ c) : cel r2 t k c = -1000 ∨ (-99 ≤ cel r2 t k c ∧ cel r2 t k c ≤ 99) := by
  rw [e, rmc_cel h0]
  have h2 := h.okc t k c
  have h3 := h.absent t k c (by omega)
  unfold okv at h2
  omega
theorem rkO_d {G G2 : XG} {a : Nat} {v : Int32} (h : G2 = dput G a 2 v) (o : Option Nat) : rkO G2 o = rkO G o := by
  cases o with
  | none => rfl
  | some q => exact congrArg Int32.toInt (ld_j h (by decide))
