/-! ===== the reference's rows behind a store ===== -/
theorem mw_z (f : Nat → Int32) (b z : Int) : mw f b z = if 0 ≤ z ∧ z < 270 then (if aI f (b + 4 * (30 * (z / 90) + z % 30)) = 1 then aI f (b + 4 * (30 * (z / 90) + z % 30) + 1 + (z / 30) % 3) else -2000) else 0 := rfl
theorem mw_ix {b t k c z I : Int} (h0 : 0 ≤ t ∧ t < 3 ∧ 0 ≤ k ∧ k < 30 ∧ 0 ≤ c ∧ c < 3) (hI : I = b + 4 * (30 * t + k) + 1 + c) (hz : 0 ≤ z ∧ z < 270) : b + 4 * (30 * (z / 90) + z % 30) ≠ I ∧ (b + 4 * (30 * (z / 90) + z % 30) + 1 + z / 30 % 3 = I ↔ z = 90 * t + 30 * c + k) := by
  refine ⟨by omega, ?_⟩
  rcases (by omega : z / 30 % 3 = 0 ∨ z / 30 % 3 = 1 ∨ z / 30 % 3 = 2) with q | q | q <;> rcases (by omega : c = 0 ∨ c = 1 ∨ c = 2) with w | w | w <;> subst w <;> rw [q] <;> constructor <;> intro e <;> omega
theorem mw_set {f g : Nat → Int32} {b t k c I X : Int} (h0 : 0 ≤ t ∧ t < 3 ∧ 0 ≤ k ∧ k < 30 ∧ 0 ≤ c ∧ c < 3) (hb : 0 ≤ b) (hI : I = b + 4 * (30 * t + k) + 1 + c) (hu : ∀ z : Int, 0 ≤ z → aI g z = if z = I then X else aI f z) (h1 : aI f (b + 4 * (30 * t + k)) = 1) : mw g b = rset (mw f b) (90 * t + 30 * c + k) X := by
  funext z
  show mw g b z = if z = 90 * t + 30 * c + k then X else mw f b z
  rw [mw_z, mw_z]
  by_cases hz : 0 ≤ z ∧ z < 270
  · obtain ⟨i1, i2⟩ := mw_ix h0 hI hz
    rw [if_pos hz, if_pos hz, hu (b + 4 * (30 * (z / 90) + z % 30)) (by omega), hu (b + 4 * (30 * (z / 90) + z % 30) + 1 + z / 30 % 3) (by omega), if_neg i1]
    by_cases e : z = 90 * t + 30 * c + k
    · rw [if_pos e, if_pos (i2.mpr e), show z / 90 = t from by omega, show z % 30 = k from by omega, if_pos h1]
    · rw [if_neg e, if_neg (fun q => e (i2.mp q))]
  · rw [if_neg hz, if_neg hz, if_neg (by omega)]
theorem mw_cut {f g : Nat → Int32} {b t k I : Int} (h0 : 0 ≤ t ∧ t < 3 ∧ 0 ≤ k ∧ k < 30) (hb : 0 ≤ b) (hI : I = b + 4 * (30 * t + k)) (hu : ∀ z : Int, 0 ≤ z → aI g z = if z = I then 0 else aI f z) : mw g b = rfil (mw f b) t k (-2000) 3 := by
  funext z
  show mw g b z = if 0 ≤ z - (90 * t + k) ∧ (z - (90 * t + k)) % 30 = 0 ∧ (z - (90 * t + k)) / 30 < 3 then -2000 else mw f b z
  rw [mw_z, mw_z]
  by_cases hz : 0 ≤ z ∧ z < 270
  · rw [if_pos hz, if_pos hz, hu _ (by omega), hu (b + 4 * (30 * (z / 90) + z % 30) + 1 + z / 30 % 3) (by omega), if_neg (c := b + 4 * (30 * (z / 90) + z % 30) + 1 + z / 30 % 3 = I) (by omega)]
    by_cases e : z / 90 = t ∧ z % 30 = k
    · rw [if_pos (c := b + 4 * (30 * (z / 90) + z % 30) = I) (by omega), if_neg (by decide), if_pos (by omega)]
    · rw [if_neg (c := b + 4 * (30 * (z / 90) + z % 30) = I) (by omega), if_neg (c := 0 ≤ z - (90 * t + k) ∧ (z - (90 * t + k)) % 30 = 0 ∧ (z - (90 * t + k)) / 30 < 3) (by omega)]
  · rw [if_neg hz, if_neg hz, if_neg (by omega)]
theorem mw_put {f g : Nat → Int32} {b t k I x y w : Int} (h0 : 0 ≤ t ∧ t < 3 ∧ 0 ≤ k ∧ k < 30) (hb : 0 ≤ b) (hI : I = b + 4 * (30 * t + k)) (hu : ∀ z : Int, 0 ≤ z → aI g z = if z = I then 1 else if z = I + 1 then x else if z = I + 2 then y else if z = I + 3 then w else aI f z) : mw g b = rput3 (mw f b) t k x y w := by
  funext z
  show mw g b z = if z = 90 * t + 30 * 2 + k then w else if z = 90 * t + 30 * 1 + k then y else if z = 90 * t + 30 * 0 + k then x else if 0 ≤ z - (90 * t + k) ∧ (z - (90 * t + k)) % 30 = 0 ∧ (z - (90 * t + k)) / 30 < 3 then -1000 else mw f b z
  rw [mw_z, mw_z]
  by_cases hz : 0 ≤ z ∧ z < 270
  · rw [if_pos hz, if_pos hz, hu _ (by omega), hu (b + 4 * (30 * (z / 90) + z % 30) + 1 + z / 30 % 3) (by omega)]
    by_cases e : z / 90 = t ∧ z % 30 = k
    · rw [if_pos (c := b + 4 * (30 * (z / 90) + z % 30) = I) (by omega), if_pos rfl, if_neg (by omega)]
      rcases (by omega : z / 30 % 3 = 0 ∨ z / 30 % 3 = 1 ∨ z / 30 % 3 = 2) with q | q | q
      · rw [if_pos (by omega), if_neg (by omega), if_neg (by omega), if_pos (by omega)]
      · rw [if_neg (by omega), if_pos (by omega), if_neg (by omega), if_pos (by omega)]
      · rw [if_neg (by omega), if_neg (by omega), if_pos (by omega), if_pos (by omega)]
    · rw [if_neg (c := b + 4 * (30 * (z / 90) + z % 30) = I) (by omega), if_neg (c := b + 4 * (30 * (z / 90) + z % 30) = I + 1) (by omega), if_neg (c := b + 4 * (30 * (z / 90) + z % 30) = I + 2) (by omega), if_neg (c := b + 4 * (30 * (z / 90) + z % 30) = I + 3) (by omega)]
      rw [if_neg (c := b + 4 * (30 * (z / 90) + z % 30) + 1 + z / 30 % 3 = I) (by omega), if_neg (c := b + 4 * (30 * (z / 90) + z % 30) + 1 + z / 30 % 3 = I + 1) (by omega), if_neg (c := b + 4 * (30 * (z / 90) + z % 30) + 1 + z / 30 % 3 = I + 2) (by omega), if_neg (c := b + 4 * (30 * (z / 90) + z % 30) + 1 + z / 30 % 3 = I + 3) (by omega)]
      rw [if_neg (c := z = 90 * t + 30 * 2 + k) (by omega), if_neg (c := z = 90 * t + 30 * 1 + k) (by omega), if_neg (c := z = 90 * t + 30 * 0 + k) (by omega), if_neg (c := 0 ≤ z - (90 * t + k) ∧ (z - (90 * t + k)) % 30 = 0 ∧ (z - (90 * t + k)) / 30 < 3) (by omega)]
  · rw [if_neg hz, if_neg (c := z = 90 * t + 30 * 2 + k) (by omega), if_neg (c := z = 90 * t + 30 * 1 + k) (by omega), if_neg (c := z = 90 * t + 30 * 0 + k) (by omega), if_neg (c := 0 ≤ z - (90 * t + k) ∧ (z - (90 * t + k)) % 30 = 0 ∧ (z - (90 * t + k)) / 30 < 3) (by omega), if_neg hz]
theorem RM.set {f g : Nat → Int32} {b t k c I X : Int} (h : RM f b) (h0 : 0 ≤ c ∧ c < 3) (hb : 0 ≤ b) (hI : I = b + 4 * (30 * t + k) + 1 + c) (hu : ∀ z : Int, 0 ≤ z → aI g z = if z = I then X else aI f z) (hX : X = -1000 ∨ (-99 ≤ X ∧ X ≤ 99)) : RM g b := by
  intro t2 k2 a1 a2 a3 a4
  rw [hu _ (by omega), if_neg (by omega)]
  rcases h t2 k2 a1 a2 a3 a4 with e | ⟨e, q⟩
  · exact Or.inl e
  · refine Or.inr ⟨e, fun c2 c0 c1 => ?_⟩
    rw [hu _ (by omega)]
    split
    · exact hX
    · exact q c2 c0 c1
theorem RM.cut {f g : Nat → Int32} {b t k I : Int} (h : RM f b) (hb : 0 ≤ b) (hI : I = b + 4 * (30 * t + k)) (hu : ∀ z : Int, 0 ≤ z → aI g z = if z = I then 0 else aI f z) : RM g b := by
  intro t2 k2 a1 a2 a3 a4
  rw [hu _ (by omega)]
  by_cases e : b + 4 * (30 * t2 + k2) = I
  · rw [if_pos e]; exact Or.inl rfl
  · rw [if_neg e]
    rcases h t2 k2 a1 a2 a3 a4 with e | ⟨e, q⟩
    · exact Or.inl e
    · refine Or.inr ⟨e, fun c2 c0 c1 => ?_⟩
      rw [hu _ (by omega), if_neg (by omega)]
      exact q c2 c0 c1
theorem RM.put {f g : Nat → Int32} {b t k I x y w : Int} (h : RM f b) (hb : 0 ≤ b) (hI : I = b + 4 * (30 * t + k)) (hu : ∀ z : Int, 0 ≤ z → aI g z = if z = I then 1 else if z = I + 1 then x else if z = I + 2 then y else if z = I + 3 then w else aI f z) (hx : x = -1000 ∨ (-99 ≤ x ∧ x ≤ 99)) (hy : y = -1000 ∨ (-99 ≤ y ∧ y ≤ 99)) (hw : w = -1000 ∨ (-99 ≤ w ∧ w ≤ 99)) : RM g b := by
  intro t2 k2 a1 a2 a3 a4
  rw [hu _ (by omega)]
  by_cases e : b + 4 * (30 * t2 + k2) = I
  · rw [if_pos e]
    refine Or.inr ⟨rfl, fun c2 c0 c1 => ?_⟩
    rw [hu _ (by omega), if_neg (by omega)]
    split
    · exact hx
    · split
      · exact hy
      · rw [if_pos (by omega)]; exact hw
  · rw [if_neg e, if_neg (by omega), if_neg (by omega), if_neg (by omega)]
    rcases h t2 k2 a1 a2 a3 a4 with e | ⟨e, q⟩
    · exact Or.inl e
    · refine Or.inr ⟨e, fun c2 c0 c1 => ?_⟩
      rw [hu _ (by omega), if_neg (by omega), if_neg (by omega), if_neg (by omega), if_neg (by omega)]
      exact q c2 c0 c1
/-- why a value can't become another one -/
def whyS (r : Int → Int) (t k c v : Int) : Int := if 0 ≤ t ∧ t < 3 ∧ 0 ≤ k ∧ k < 30 ∧ 0 ≤ c ∧ c < 3 ∧ (v = -1000 ∨ (-99 ≤ v ∧ v ≤ 99)) then (if cel r t k 0 = -2000 then -2 else if cel r t k c = v then -4 else 0) else -1
theorem whyS_0 {r : Int → Int} {t k c v : Int} (h : whyS r t k c v = 0) : (0 ≤ t ∧ t < 3 ∧ 0 ≤ k ∧ k < 30 ∧ 0 ≤ c ∧ c < 3 ∧ (v = -1000 ∨ (-99 ≤ v ∧ v ≤ 99))) ∧ cel r t k 0 ≠ -2000 ∧ cel r t k c ≠ v := by
  unfold whyS at h
  split at h
  · rename_i g
    split at h
    · exact absurd h (by decide)
    · split at h
      · exact absurd h (by decide)
      · exact ⟨g, by assumption, by assumption⟩
  · exact absurd h (by decide)
theorem aI_pu {G u : XG} {a : Nat} {i x : Int32} {I X : Int} {f : Nat → Int32} (h : u = cput G a i.toNatClampNeg x) (hg : G.2.1 a = f) (hi : i.toInt = I) (hx : x.toInt = X) (h0 : 0 ≤ I) : ∀ z : Int, 0 ≤ z → aI (u.2.1 a) z = if z = I then X else aI f z := by
  subst hi hx hg h
  exact fun z hz => aI_put h0 z hz
/-- what an act of the reference does: op: within; f: the rules; rows ahead, done, behind -/
def StR (op r : Int) (f : Nat → Int32) (r1 r2 r3 : Int → Int) : Prop := ((ffP f r2 (fuO f r1 r2 0) ≠ -1 ∨ (op = 0 ∧ ffP f r2 (fuO f r1 r2 1) ≠ -1)) ∧ r = -5 ∧ r3 = r1) ∨ (ffP f r2 (fuO f r1 r2 0) = -1 ∧ (op = 0 → ffP f r2 (fuO f r1 r2 1) = -1) ∧ r = (((fuO f r1 r2 2).length : Nat) : Int) ∧ r3 = r2)
theorem put4u {f f1 f2 f3 f4 : Nat → Int32} {I x y w : Int} (u1 : ∀ z : Int, 0 ≤ z → aI f1 z = if z = I then 1 else aI f z) (u2 : ∀ z : Int, 0 ≤ z → aI f2 z = if z = I + 1 then x else aI f1 z) (u3 : ∀ z : Int, 0 ≤ z → aI f3 z = if z = I + 2 then y else aI f2 z) (u4 : ∀ z : Int, 0 ≤ z → aI f4 z = if z = I + 3 then w else aI f3 z) : ∀ z : Int, 0 ≤ z → aI f4 z = if z = I then 1 else if z = I + 1 then x else if z = I + 2 then y else if z = I + 3 then w else aI f z := by
  intro z hz
  rw [u4 z hz, u3 z hz, u2 z hz, u1 z hz]
  by_cases e0 : z = I
  · rw [if_neg (by omega), if_neg (by omega), if_neg (by omega), if_pos e0, if_pos e0]
  · by_cases e1 : z = I + 1
    · rw [if_neg (by omega), if_neg (by omega), if_pos e1, if_neg e0, if_pos e1]
    · by_cases e2 : z = I + 2
      · rw [if_neg (by omega), if_pos e2, if_neg e0, if_neg e1, if_pos e2]
      · by_cases e3 : z = I + 3
        · rw [if_pos e3, if_neg e0, if_neg e1, if_neg e2, if_pos e3]
        · rw [if_neg e3, if_neg e2, if_neg e1, if_neg e0, if_neg e0, if_neg e1, if_neg e2, if_neg e3]
theorem v_X11_whyNotSet_30_1 {K : Nat → Nat} {F : Nat → Nat → Nat} (a : Nat) (G : XG) (x1 : Int32) (p0 : Int32) (p1 : Int32) (p2 : Int32) (p3 : Int32)
    (ha : K a = 13)
    (t1 : (x1.toInt = 1 ∧ 0 ≤ p0.toInt ∧ p0.toInt ≤ 2) ∨ (x1.toInt = 0 ∧ (p0.toInt < 0 ∨ 2 < p0.toInt)))
    (c4 : x1.toInt = 0) :
    (-1 : Int) = whyS (mw (G.2.1 (F a 1)) 0) p0.toInt p1.toInt p2.toInt p3.toInt := by
  unfold whyS; rw [if_neg (fun h => by obtain ⟨h1, h2, h3, h4, h5, h6, h7⟩ := h; omega)]
theorem v_X11_whyNotSet_30_2 {K : Nat → Nat} {F : Nat → Nat → Nat} (a : Nat) (G : XG) (x1 : Int32) (p0 : Int32) (x8 : Int32) (p1 : Int32) (p2 : Int32) (p3 : Int32)
    (ha : K a = 13)
    (t1 : (x1.toInt = 1 ∧ 0 ≤ p0.toInt ∧ p0.toInt ≤ 2) ∨ (x1.toInt = 0 ∧ (p0.toInt < 0 ∨ 2 < p0.toInt)))
    (c4 : ¬ (x1.toInt = 0))
    (t8 : (x8.toInt = 1 ∧ 0 ≤ p1.toInt ∧ p1.toInt ≤ 29) ∨ (x8.toInt = 0 ∧ (p1.toInt < 0 ∨ 29 < p1.toInt)))
    (c11 : x8.toInt = 0) :
    (-1 : Int) = whyS (mw (G.2.1 (F a 1)) 0) p0.toInt p1.toInt p2.toInt p3.toInt := by
  unfold whyS; rw [if_neg (fun h => by obtain ⟨h1, h2, h3, h4, h5, h6, h7⟩ := h; omega)]
theorem v_X11_whyNotSet_30_3 {K : Nat → Nat} {F : Nat → Nat → Nat} (a : Nat) (G : XG) (x1 : Int32) (p0 : Int32) (x8 : Int32) (p1 : Int32) (x15 : Int32) (p2 : Int32) (p3 : Int32)
    (ha : K a = 13)
    (t1 : (x1.toInt = 1 ∧ 0 ≤ p0.toInt ∧ p0.toInt ≤ 2) ∨ (x1.toInt = 0 ∧ (p0.toInt < 0 ∨ 2 < p0.toInt)))
    (c4 : ¬ (x1.toInt = 0))
    (t8 : (x8.toInt = 1 ∧ 0 ≤ p1.toInt ∧ p1.toInt ≤ 29) ∨ (x8.toInt = 0 ∧ (p1.toInt < 0 ∨ 29 < p1.toInt)))
    (c11 : ¬ (x8.toInt = 0))
    (t15 : (x15.toInt = 1 ∧ 0 ≤ p2.toInt ∧ p2.toInt ≤ 2) ∨ (x15.toInt = 0 ∧ (p2.toInt < 0 ∨ 2 < p2.toInt)))
    (c18 : x15.toInt = 0) :
    (-1 : Int) = whyS (mw (G.2.1 (F a 1)) 0) p0.toInt p1.toInt p2.toInt p3.toInt := by
  unfold whyS; rw [if_neg (fun h => by obtain ⟨h1, h2, h3, h4, h5, h6, h7⟩ := h; omega)]
theorem v_X11_whyNotSet_34_4 {F : Nat → Nat → Nat} (a : Nat) (G : XG)
    (hM : RM (G.2.1 (F a 1)) 0) :
    RM (G.2.1 (F a 1)) 0 := by exact hM
theorem v_X11_whyNotSet_68_5 {F : Nat → Nat → Nat} (G : XG) (a : Nat) (p0 : Int32) (p1 : Int32) (p2 : Int32) (p3 : Int32) (x34 : Int32)
    (hM : RM (G.2.1 (F a 1)) 0)
    (z31 : 0 ≤ p0.toInt ∧ p0.toInt < 3)
    (z31a : 0 ≤ p1.toInt ∧ p1.toInt < 30)
    (z31b : 0 ≤ p2.toInt ∧ p2.toInt < 3)
    (z31c : p3.toInt = -1000 ∨ (-99 ≤ p3.toInt ∧ p3.toInt ≤ 99))
    (t34 : (x34.toInt = 1 ∧ (cel (mw (G.2.1 (F a 1)) 0) (p0.toInt) (p1.toInt) 0) ≠ -2000) ∨ (x34.toInt = 0 ∧ (cel (mw (G.2.1 (F a 1)) 0) (p0.toInt) (p1.toInt) 0) = -2000))
    (c37 : x34.toInt ≠ 0)
    (z57 : ((aI (G.2.1 (F a 1)) (0 + 4 * (30 * p0.toInt + p1.toInt))) = 0 ∧ (cel (mw (G.2.1 (F a 1)) 0) (p0.toInt) (p1.toInt) (p2.toInt)) = -2000) ∨ ((aI (G.2.1 (F a 1)) (0 + 4 * (30 * p0.toInt + p1.toInt))) = 1 ∧ (cel (mw (G.2.1 (F a 1)) 0) (p0.toInt) (p1.toInt) (p2.toInt)) = (aI (G.2.1 (F a 1)) (0 + 4 * (30 * p0.toInt + p1.toInt) + 1 + p2.toInt))))
    (c59 : (aI (G.2.1 (F a 1)) (0 + 4 * (30 * p0.toInt + p1.toInt) + 1 + p2.toInt)) ≠ p3.toInt) :
    (0 : Int) = whyS (mw (G.2.1 (F a 1)) 0) p0.toInt p1.toInt p2.toInt p3.toInt := by
  have hh := hM.absent p0.toInt p1.toInt p2.toInt z31b
  have c0 : cel (mw (G.2.1 (F a 1)) 0) p0.toInt p1.toInt 0 ≠ -2000 := by clear hh z57; omega
  have c1 : cel (mw (G.2.1 (F a 1)) 0) p0.toInt p1.toInt p2.toInt = aI (G.2.1 (F a 1)) (0 + 4 * (30 * p0.toInt + p1.toInt) + 1 + p2.toInt) := by
    rcases z57 with ⟨-, h⟩ | ⟨-, h⟩
    · exact absurd (hh.mp h) c0
    · exact h
  unfold whyS
  rw [if_pos ⟨z31.1, z31.2, z31a.1, z31a.2, z31b.1, z31b.2, z31c⟩, if_neg c0, c1]
  first
    | rw [if_pos c59]
    | rw [if_neg c59]
    | (rw [if_pos (by omega)]; done)
    | rw [if_neg (by omega)]
theorem v_X11_whyNotSet_68_6 {F : Nat → Nat → Nat} (G : XG) (a : Nat) (p0 : Int32) (p1 : Int32) (p2 : Int32) (p3 : Int32) (x34 : Int32)
    (hM : RM (G.2.1 (F a 1)) 0)
    (z31 : 0 ≤ p0.toInt ∧ p0.toInt < 3)
    (z31a : 0 ≤ p1.toInt ∧ p1.toInt < 30)
    (z31b : 0 ≤ p2.toInt ∧ p2.toInt < 3)
    (z31c : p3.toInt = -1000 ∨ (-99 ≤ p3.toInt ∧ p3.toInt ≤ 99))
    (t34 : (x34.toInt = 1 ∧ (cel (mw (G.2.1 (F a 1)) 0) (p0.toInt) (p1.toInt) 0) ≠ -2000) ∨ (x34.toInt = 0 ∧ (cel (mw (G.2.1 (F a 1)) 0) (p0.toInt) (p1.toInt) 0) = -2000))
    (c37 : x34.toInt ≠ 0)
    (z57 : ((aI (G.2.1 (F a 1)) (0 + 4 * (30 * p0.toInt + p1.toInt))) = 0 ∧ (cel (mw (G.2.1 (F a 1)) 0) (p0.toInt) (p1.toInt) (p2.toInt)) = -2000) ∨ ((aI (G.2.1 (F a 1)) (0 + 4 * (30 * p0.toInt + p1.toInt))) = 1 ∧ (cel (mw (G.2.1 (F a 1)) 0) (p0.toInt) (p1.toInt) (p2.toInt)) = (aI (G.2.1 (F a 1)) (0 + 4 * (30 * p0.toInt + p1.toInt) + 1 + p2.toInt))))
    (c59 : ¬ ((aI (G.2.1 (F a 1)) (0 + 4 * (30 * p0.toInt + p1.toInt) + 1 + p2.toInt)) ≠ p3.toInt)) :
    (-4 : Int) = whyS (mw (G.2.1 (F a 1)) 0) p0.toInt p1.toInt p2.toInt p3.toInt := by
  have hh := hM.absent p0.toInt p1.toInt p2.toInt z31b
  have c0 : cel (mw (G.2.1 (F a 1)) 0) p0.toInt p1.toInt 0 ≠ -2000 := by clear hh z57; omega
  have c1 : cel (mw (G.2.1 (F a 1)) 0) p0.toInt p1.toInt p2.toInt = aI (G.2.1 (F a 1)) (0 + 4 * (30 * p0.toInt + p1.toInt) + 1 + p2.toInt) := by
    rcases z57 with ⟨-, h⟩ | ⟨-, h⟩
    · exact absurd (hh.mp h) c0
    · exact h
  unfold whyS
  rw [if_pos ⟨z31.1, z31.2, z31a.1, z31a.2, z31b.1, z31b.2, z31c⟩, if_neg c0, c1]
  first
    | rw [if_pos c59]
    | rw [if_neg c59]
    | (rw [if_pos (by omega)]; done)
    | rw [if_neg (by omega)]
theorem v_X11_whyNotSet_42_7 {F : Nat → Nat → Nat} (p0 : Int32) (p1 : Int32) (p2 : Int32) (p3 : Int32) (x34 : Int32) (G : XG) (a : Nat)
    (z31 : 0 ≤ p0.toInt ∧ p0.toInt < 3)
    (z31a : 0 ≤ p1.toInt ∧ p1.toInt < 30)
    (z31b : 0 ≤ p2.toInt ∧ p2.toInt < 3)
    (z31c : p3.toInt = -1000 ∨ (-99 ≤ p3.toInt ∧ p3.toInt ≤ 99))
    (t34 : (x34.toInt = 1 ∧ (cel (mw (G.2.1 (F a 1)) 0) (p0.toInt) (p1.toInt) 0) ≠ -2000) ∨ (x34.toInt = 0 ∧ (cel (mw (G.2.1 (F a 1)) 0) (p0.toInt) (p1.toInt) 0) = -2000))
    (c37 : ¬ (x34.toInt ≠ 0)) :
    (-2 : Int) = whyS (mw (G.2.1 (F a 1)) 0) p0.toInt p1.toInt p2.toInt p3.toInt := by
  have c0 : cel (mw (G.2.1 (F a 1)) 0) p0.toInt p1.toInt 0 = -2000 := by omega
  unfold whyS
  rw [if_pos ⟨z31.1, z31.2, z31a.1, z31a.2, z31b.1, z31b.2, z31c⟩, if_pos c0]
theorem v_X11_whyNotSet_30_8 {K : Nat → Nat} {F : Nat → Nat → Nat} (a : Nat) (G : XG) (x1 : Int32) (p0 : Int32) (x8 : Int32) (p1 : Int32) (x15 : Int32) (p2 : Int32) (x23 : Int32) (p3 : Int32)
    (ha : K a = 13)
    (t1 : (x1.toInt = 1 ∧ 0 ≤ p0.toInt ∧ p0.toInt ≤ 2) ∨ (x1.toInt = 0 ∧ (p0.toInt < 0 ∨ 2 < p0.toInt)))
    (c4 : ¬ (x1.toInt = 0))
    (t8 : (x8.toInt = 1 ∧ 0 ≤ p1.toInt ∧ p1.toInt ≤ 29) ∨ (x8.toInt = 0 ∧ (p1.toInt < 0 ∨ 29 < p1.toInt)))
    (c11 : ¬ (x8.toInt = 0))
    (t15 : (x15.toInt = 1 ∧ 0 ≤ p2.toInt ∧ p2.toInt ≤ 2) ∨ (x15.toInt = 0 ∧ (p2.toInt < 0 ∨ 2 < p2.toInt)))
    (c18 : ¬ (x15.toInt = 0))
    (t23 : (x23.toInt = 1 ∧ (p3.toInt = -1000 ∨ (-99 ≤ p3.toInt ∧ p3.toInt < 100))) ∨ (x23.toInt = 0 ∧ p3.toInt ≠ -1000 ∧ (p3.toInt < -99 ∨ 100 ≤ p3.toInt)))
    (c26 : ¬ (x23.toInt ≠ 0)) :
    (-1 : Int) = whyS (mw (G.2.1 (F a 1)) 0) p0.toInt p1.toInt p2.toInt p3.toInt := by
  unfold whyS; rw [if_neg (fun h => by obtain ⟨h1, h2, h3, h4, h5, h6, h7⟩ := h; omega)]
theorem v_X11_set_15_1 {F : Nat → Nat → Nat} (a : Nat) (G : XG) (G6 : XG)
    (hM : RM (G.2.1 (F a 1)) (0))
    (hB : RM (G.2.1 (F a 2)) 0)
    (c_G6_F_a_1 : G6.2.1 (F a 1) = G.2.1 (F a 1)) :
    RM (G6.2.1 (F a 1)) 0 := by simp only [c_G6_F_a_1]; assumption
theorem v_X11_set_33_2 {F : Nat → Nat → Nat} (a : Nat) (G : XG) (G6 : XG)
    (hR : RV (G.2.1 (F a 10)))
    (c_G6_F_a_10 : G6.2.1 (F a 10) = G.2.1 (F a 10)) :
    RV (G6.2.1 (F a 10)) := by simp only [c_G6_F_a_10]; assumption
theorem v_X11_set_33_3 {F : Nat → Nat → Nat} (a : Nat) (G : XG) (G6 : XG)
    (hM : RM (G.2.1 (F a 1)) (0))
    (hB : RM (G.2.1 (F a 2)) 0)
    (c_G6_F_a_1 : G6.2.1 (F a 1) = G.2.1 (F a 1)) :
    RM (G6.2.1 (F a 1)) (0) := by simp only [c_G6_F_a_1]; assumption
theorem v_X11_set_53_4 {F : Nat → Nat → Nat} (a : Nat) (G : XG) (G51 : XG)
    (hR : RV (G.2.1 (F a 10)))
    (c_G51_F_a_10 : G51.2.1 (F a 10) = G.2.1 (F a 10)) :
    RV (G51.2.1 (F a 10)) := by simp only [c_G51_F_a_10]; assumption
theorem v_X11_set_53_5 {K : Nat → Nat} {F : Nat → Nat → Nat} (a : Nat) (G : XG) (G6 : XG) (G33 : XG) (G51 : XG) (x48 : Int32) (p3 : Int32) (x15 : Int32) (p0 : Int32) (p1 : Int32) (p2 : Int32) (x42 : Int32) (x46 : Int32)
    (ha : K a = 13)
    (hG51 : G51 = cput G33 (F a 1) x48.toNatClampNeg p3)
    (hM : RM (G.2.1 (F a 1)) (0))
    (oq15 : x15.toInt = whyS (mw (G.2.1 (F a 1)) 0) p0.toInt p1.toInt p2.toInt p3.toInt)
    (am : 0 ≤ ((G.1 a 43).toInt) ∧ ((G.1 a 43).toInt) ≤ 2388)
    (t6 : ((G6.1 a 20).toInt) = -2147483648 ∧ ((G6.1 a 21).toInt) = -2147483648 ∧ ((G6.1 a 23).toInt) = 0)
    (c22 : x15.toInt = 0)
    (z32 : 0 ≤ p0.toInt ∧ p0.toInt < 3 ∧ 0 ≤ p1.toInt ∧ p1.toInt < 30 ∧ 0 ≤ p2.toInt ∧ p2.toInt < 3 ∧ (p3.toInt = -1000 ∨ (-99 ≤ p3.toInt ∧ p3.toInt ≤ 99)))
    (t42 : 0 ≤ p0.toInt ∧ p0.toInt ≤ 2 ∧ 0 ≤ p1.toInt ∧ p1.toInt ≤ 29 → x42.toInt = 4 * (30 * p0.toInt + p1.toInt))
    (t46 : x46.toInt = x42.toInt + (1 : Int) ∨ x42.toInt + (1 : Int) < -2147483648 ∨ 2147483648 ≤ x42.toInt + (1 : Int))
    (t48 : x48.toInt = x46.toInt + p2.toInt ∨ x46.toInt + p2.toInt < -2147483648 ∨ 2147483648 ≤ x46.toInt + p2.toInt)
    (c_G33_F_a_1 : G33.2.1 (F a 1) = G.2.1 (F a 1)) :
    RM (G51.2.1 (F a 1)) (0) := by
  exact hM.set (t := p0.toInt) (k := p1.toInt) (c := p2.toInt) (by omega) (by decide) (by omega) (aI_pu hG51 c_G33_F_a_1 rfl rfl (by omega)) (by omega)
theorem v_X11_set_53_6 {F : Nat → Nat → Nat} (a : Nat) (G : XG) (G33 : XG) (G51 : XG)
    (hM : RM (G.2.1 (F a 1)) (0))
    (hB : RM (G.2.1 (F a 2)) 0)
    (oq33a : RM (G33.2.1 (F a 4)) 0)
    (c_G51_F_a_4 : G51.2.1 (F a 4) = G33.2.1 (F a 4)) :
    RM (G51.2.1 (F a 4)) 0 := by simp only [c_G51_F_a_4]; assumption
theorem v_X11_set_53_7 {F : Nat → Nat → Nat} (a : Nat) (G : XG) (G33 : XG) (G51 : XG)
    (hM : RM (G.2.1 (F a 1)) (0))
    (hB : RM (G.2.1 (F a 2)) 0)
    (oq33a : RM (G33.2.1 (F a 4)) 0)
    (c_G51_F_a_2 : G51.2.1 (F a 2) = G.2.1 (F a 2)) :
    RM (G51.2.1 (F a 2)) 0 := by simp only [c_G51_F_a_2]; assumption
theorem v_X11_set_53_8 {F : Nat → Nat → Nat} (a : Nat) (G : XG) (G33 : XG) (G51 : XG)
    (oq33b : LSt (G.2.1 (F a 10)) (G33.2.1 (F a 12)) (mw (G.2.1 (F a 1)) 0) 12)
    (c_G51_F_a_10 : G51.2.1 (F a 10) = G.2.1 (F a 10))
    (c_G51_F_a_12 : G51.2.1 (F a 12) = G33.2.1 (F a 12)) :
    LSt (G51.2.1 (F a 10)) (G51.2.1 (F a 12)) (mw (G.2.1 (F a 1)) 0) 12 := by
  rw [c_G51_F_a_10, c_G51_F_a_12]; exact oq33b
theorem v_X11_set_56_9 {K : Nat → Nat} {F : Nat → Nat → Nat} (a : Nat) (G : XG) (G6 : XG) (G33 : XG) (G51 : XG) (x48 : Int32) (p3 : Int32) (G53 : XG) (x15 : Int32) (p0 : Int32) (p1 : Int32) (p2 : Int32) (x53 : Int32) (x42 : Int32) (x46 : Int32)
    (ha : K a = 13)
    (hG51 : G51 = cput G33 (F a 1) x48.toNatClampNeg p3)
    (hM : RM (G.2.1 (F a 1)) (0))
    (oq15 : x15.toInt = whyS (mw (G.2.1 (F a 1)) 0) p0.toInt p1.toInt p2.toInt p3.toInt)
    (oq33 : mw (G33.2.1 (F a 4)) 0 = mw (G.2.1 (F a 1)) 0)
    (oq53 : ((ffP (G.2.1 (F a 10)) (mw (G51.2.1 (F a 1)) 0) (fuO (G.2.1 (F a 10)) (mw (G.2.1 (F a 1)) 0) (mw (G51.2.1 (F a 1)) 0) 0) ≠ -1 ∨ (((G.1 a 6).toInt) = 0 ∧ ffP (G.2.1 (F a 10)) (mw (G51.2.1 (F a 1)) 0) (fuO (G.2.1 (F a 10)) (mw (G.2.1 (F a 1)) 0) (mw (G51.2.1 (F a 1)) 0) 1) ≠ -1)) ∧ x53.toInt = -5 ∧ mw (G53.2.1 (F a 1)) 0 = mw (G33.2.1 (F a 4)) 0) ∨ (ffP (G.2.1 (F a 10)) (mw (G51.2.1 (F a 1)) 0) (fuO (G.2.1 (F a 10)) (mw (G.2.1 (F a 1)) 0) (mw (G51.2.1 (F a 1)) 0) 0) = -1 ∧ (((G.1 a 6).toInt) = 0 → ffP (G.2.1 (F a 10)) (mw (G51.2.1 (F a 1)) 0) (fuO (G.2.1 (F a 10)) (mw (G.2.1 (F a 1)) 0) (mw (G51.2.1 (F a 1)) 0) 1) = -1) ∧ x53.toInt = (((fuO (G.2.1 (F a 10)) (mw (G.2.1 (F a 1)) 0) (mw (G51.2.1 (F a 1)) 0) 2).length : Nat) : Int) ∧ mw (G53.2.1 (F a 1)) 0 = mw (G51.2.1 (F a 1)) 0))
    (am : 0 ≤ ((G.1 a 43).toInt) ∧ ((G.1 a 43).toInt) ≤ 2388)
    (t6 : ((G6.1 a 20).toInt) = -2147483648 ∧ ((G6.1 a 21).toInt) = -2147483648 ∧ ((G6.1 a 23).toInt) = 0)
    (c22 : x15.toInt = 0)
    (z32 : 0 ≤ p0.toInt ∧ p0.toInt < 3 ∧ 0 ≤ p1.toInt ∧ p1.toInt < 30 ∧ 0 ≤ p2.toInt ∧ p2.toInt < 3 ∧ (p3.toInt = -1000 ∨ (-99 ≤ p3.toInt ∧ p3.toInt ≤ 99)))
    (t42 : 0 ≤ p0.toInt ∧ p0.toInt ≤ 2 ∧ 0 ≤ p1.toInt ∧ p1.toInt ≤ 29 → x42.toInt = 4 * (30 * p0.toInt + p1.toInt))
    (t46 : x46.toInt = x42.toInt + (1 : Int) ∨ x42.toInt + (1 : Int) < -2147483648 ∨ 2147483648 ≤ x42.toInt + (1 : Int))
    (t48 : x48.toInt = x46.toInt + p2.toInt ∨ x46.toInt + p2.toInt < -2147483648 ∨ 2147483648 ≤ x46.toInt + p2.toInt)
    (t53 : (0 ≤ ((G53.1 a 23).toInt) ∧ ((G53.1 a 23).toInt) ≤ 24) ∧ (0 ≤ ((G53.1 a 43).toInt) ∧ ((G53.1 a 43).toInt) ≤ 2388))
    (c_G33_F_a_1 : G33.2.1 (F a 1) = G.2.1 (F a 1)) :
    (whyS (mw (G.2.1 (F a 1)) 0) p0.toInt p1.toInt p2.toInt p3.toInt ≠ 0 ∧ x53.toInt = whyS (mw (G.2.1 (F a 1)) 0) p0.toInt p1.toInt p2.toInt p3.toInt ∧ mw (G53.2.1 (F a 1)) 0 = (mw (G.2.1 (F a 1)) 0)) ∨ (whyS (mw (G.2.1 (F a 1)) 0) p0.toInt p1.toInt p2.toInt p3.toInt = 0 ∧ StR ((G.1 a 6).toInt) x53.toInt (G.2.1 (F a 10)) (mw (G.2.1 (F a 1)) 0) (rset (mw (G.2.1 (F a 1)) 0) (90 * p0.toInt + 30 * p2.toInt + p1.toInt) p3.toInt) (mw (G53.2.1 (F a 1)) 0)) := by
  have w0 := whyS_0 (oq15.symm.trans c22)
  have fl : aI (G.2.1 (F a 1)) (0 + 4 * (30 * p0.toInt + p1.toInt)) = 1 := by
    rcases hM.flag (t := p0.toInt) (k := p1.toInt) (by omega) with h | h
    · exact absurd h.2 w0.2.1
    · exact h.1
  have e1 := mw_set (b := 0) (t := p0.toInt) (k := p1.toInt) (c := p2.toInt) (by omega) (by decide) (by omega) (aI_pu hG51 c_G33_F_a_1 rfl rfl (by omega)) fl
  rw [e1, oq33] at oq53
  exact Or.inr ⟨oq15.symm.trans c22, oq53⟩
theorem v_X11_set_56_10 {F : Nat → Nat → Nat} (a : Nat) (G53 : XG)
    (oq53a : RM (G53.2.1 (F a 1)) 0) :
    RM (G53.2.1 (F a 1)) 0 := by
  exact oq53a
theorem v_X11_set_31_11 {K : Nat → Nat} {F : Nat → Nat → Nat} (a : Nat) (G : XG) (G6 : XG) (G28 : XG) (x15 : Int32) (p0 : Int32) (p1 : Int32) (p2 : Int32) (p3 : Int32)
    (ha : K a = 13)
    (oq15 : x15.toInt = whyS (mw (G.2.1 (F a 1)) 0) p0.toInt p1.toInt p2.toInt p3.toInt)
    (am : 0 ≤ ((G.1 a 43).toInt) ∧ ((G.1 a 43).toInt) ≤ 2388)
    (t6 : ((G6.1 a 20).toInt) = -2147483648 ∧ ((G6.1 a 21).toInt) = -2147483648 ∧ ((G6.1 a 23).toInt) = 0)
    (c22 : ¬ (x15.toInt = 0))
    (c_G28_F_a_1 : G28.2.1 (F a 1) = G.2.1 (F a 1)) :
    (whyS (mw (G.2.1 (F a 1)) 0) p0.toInt p1.toInt p2.toInt p3.toInt ≠ 0 ∧ x15.toInt = whyS (mw (G.2.1 (F a 1)) 0) p0.toInt p1.toInt p2.toInt p3.toInt ∧ mw (G28.2.1 (F a 1)) 0 = (mw (G.2.1 (F a 1)) 0)) ∨ (whyS (mw (G.2.1 (F a 1)) 0) p0.toInt p1.toInt p2.toInt p3.toInt = 0 ∧ StR ((G.1 a 6).toInt) x15.toInt (G.2.1 (F a 10)) (mw (G.2.1 (F a 1)) 0) (rset (mw (G.2.1 (F a 1)) 0) (90 * p0.toInt + 30 * p2.toInt + p1.toInt) p3.toInt) (mw (G28.2.1 (F a 1)) 0)) := by
  exact Or.inl ⟨by omega, by omega, by rw [c_G28_F_a_1]⟩
theorem v_X11_set_31_12 {F : Nat → Nat → Nat} (a : Nat) (G : XG) (G28 : XG)
    (hM : RM (G.2.1 (F a 1)) (0))
    (c_G28_F_a_1 : G28.2.1 (F a 1) = G.2.1 (F a 1)) :
    RM (G28.2.1 (F a 1)) 0 := by
  rw [c_G28_F_a_1]; exact hM
theorem z_X11_whyNotSet_1 (a0 : Int) (a1 : Int) (h0 : (a1 = 1 ∧ 0 ≤ a0 ∧ a0 ≤ 2) ∨ (a1 = 0 ∧ (a0 < 0 ∨ 2 < a0))) (h1 : ¬ (a1 = 0)) : 0 ≤ a0 ∧ a0 < 3 := by omega
theorem z_X11_whyNotSet_2 (a0 : Int) (a1 : Int) (h0 : (a1 = 1 ∧ 0 ≤ a0 ∧ a0 ≤ 29) ∨ (a1 = 0 ∧ (a0 < 0 ∨ 29 < a0))) (h1 : ¬ (a1 = 0)) : 0 ≤ a0 ∧ a0 < 30 := by omega
theorem z_X11_whyNotSet_4 (a0 : Int) (a1 : Int) (h0 : (a1 = 1 ∧ (a0 = -1000 ∨ (-99 ≤ a0 ∧ a0 < 100))) ∨ (a1 = 0 ∧ a0 ≠ -1000 ∧ (a0 < -99 ∨ 100 ≤ a0))) (h1 : a1 ≠ 0) : a0 = -1000 ∨ (-99 ≤ a0 ∧ a0 ≤ 99) := by omega
theorem z_X11_whyNotSet_5 (a0 : Int) (a1 : Int) (a2 : Int) (a3 : Int) (a4 : Int) (a5 : Int) (h0 : 0 ≤ a0 ∧ a0 < 3) (h1 : 0 ≤ a1 ∧ a1 < 30) (h2 : 0 ≤ a2 ∧ a2 < 3) (h3 : 0 ≤ a0 ∧ a0 ≤ 2 ∧ 0 ≤ a1 ∧ a1 ≤ 29 → a3 = 4 * (30 * a0 + a1)) (h4 : a4 = a3 + (1 : Int) ∨ a3 + (1 : Int) < -2147483648 ∨ 2147483648 ≤ a3 + (1 : Int)) (h5 : a5 = a4 + a2 ∨ a4 + a2 < -2147483648 ∨ 2147483648 ≤ a4 + a2) : 0 ≤ a5 ∧ a5 < ((360 : Nat) : Int) := by omega
theorem z_X11_whyNotSet_6 (a0 : Int) (a1 : Int) (a2 : Int) (a3 : Int) (a4 : Int) (a5 : Int) (h0 : 0 ≤ a0 ∧ a0 < 3) (h1 : 0 ≤ a1 ∧ a1 < 30) (h2 : 0 ≤ a2 ∧ a2 < 3) (h3 : 0 ≤ a0 ∧ a0 ≤ 2 ∧ 0 ≤ a1 ∧ a1 ≤ 29 → a3 = 4 * (30 * a0 + a1)) (h4 : a4 = a3 + (1 : Int) ∨ a3 + (1 : Int) < -2147483648 ∨ 2147483648 ≤ a3 + (1 : Int)) (h5 : a5 = a4 + a2 ∨ a4 + a2 < -2147483648 ∨ 2147483648 ≤ a4 + a2) : a5 = 0 + 4 * (30 * a0 + a1) + 1 + a2 := by omega
theorem z_X11_whyNotSet_7 (a0 : Int) (a1 : Int) (a2 : Int) (h0 : 0 ≤ a0 ∧ a0 < 3) (h1 : 0 ≤ a1 ∧ a1 < 30) (h2 : 0 ≤ a2 ∧ a2 < 3) : 0 ≤ a0 ∧ a0 < 3 ∧ 0 ≤ a1 ∧ a1 < 30 ∧ 0 ≤ a2 ∧ a2 < 3 := by omega
abbrev rm_X11_whyNotSet : Room := { frames := 3, cells := 0, slots := 0, locals := 67 }
set_option maxHeartbeats 4000000 in
set_option maxRecDepth 100000 in
theorem c_X11_whyNotSet (l : Launch) (E : XE) (K : Nat → Nat) (F : Nat → Nat → Nat) (G : XG) (h0 : Heap) (a : Nat) (p0 : Int32) (p1 : Int32) (p2 : Int32) (p3 : Int32) (ha : K a = 13) (hM : RM (G.2.1 (F a 1)) 0) : Met l yX11_whyNotSet (xw yX11_whyNotSet cX11_whyNotSet 5 (some .int)) rm_X11_whyNotSet (va_Pc [.ref a, .int p0, .int p1, .int p2, .int p3] (XPh E K F G h0)) (XQ E (fun v (u : Unit) => ∃ r : Int32, v = .int r ∧ (r.toInt = whyS (mw (G.2.1 (F a 1)) 0) p0.toInt p1.toInt p2.toInt p3.toInt)) (fun _ H => H = h0)) 0 0 (xA E) := by
  refine x_enter (by decide) (Nat.le_of_ble_eq_true rfl) ?_
  intro p e s m args below meth c Q S hr hlk hnm hQ hP ls hl
  obtain ⟨⟨hz, hK, hT⟩, hh⟩ := hP
  obtain ⟨hx, hb, -, -, -⟩ := id S
  have hS : va_S (xA E) s.heap s.heap [] := va_S.rf
  have hl : lv_has ls 5 [(0, .ref a), (1, .int p0), (2, .int p1), (3, .int p2), (4, .int p3)] := hl
  obtain ⟨hk9999, hj9999⟩ := fkX11_1 hT ha
  refine lv_iload_n hx hb dX11_whyNotSet_0 rfl (lv_at hl 1 rfl) ?_
  refine x_clp (x_runS (As := [.int p0]) (rest := []) S (c_X11_isTable l E K F G s.heap p0) ms_X11_isTable km_X11_149 rfl rfl ⟨Nat.le_of_ble_eq_true rfl, Nat.le_of_ble_eq_true rfl⟩ hK (fun _ => XPh.blind) (fun U hU hW => XPh.at hK hz hS hT hU hW) rfl hl.1 (Nat.le_of_ble_eq_true rfl) dX11_whyNotSet_1 ⟨Nat.le_of_ble_eq_true rfl, Nat.le_of_ble_eq_true rfl⟩) hS ?_
  rintro _ _ locs ⟨x1, rfl, b1, t1⟩ hS
  have t1 : (x1.toInt = 1 ∧ 0 ≤ p0.toInt ∧ p0.toInt ≤ 2) ∨ (x1.toInt = 0 ∧ (p0.toInt < 0 ∨ 2 < p0.toInt)) := t1
  refine xi_zeq (tgt := 29) hx hb (rfl : Int32.toInt x1 = x1.toInt) dX11_whyNotSet_4 (by decide) (fun c4 => ?_) (fun c4 => ?_)
  · refine lv_iconst (v := (-1)) hx hb dX11_whyNotSet_29 (by decide) ?_
    exact x_ri hx hb hr hlk hQ (Nat.le_of_ble_eq_true rfl) (Nat.le_of_ble_eq_true rfl) hS dX11_whyNotSet_30 () ⟨_, rfl, (by rw [((by decide) : Int32.toInt (-1) = (-1 : Int))] <;> exact (v_X11_whyNotSet_30_1 (K := K) (F := F) a G x1 p0 p1 p2 p3 ha t1 c4))⟩ hh
  · refine lv_iload_n hx hb dX11_whyNotSet_7 rfl (lv_at hl 2 rfl) ?_
    refine x_clp (x_runS (As := [.int p1]) (rest := []) S (c_X11_isKey l E K F G s.heap p1) ms_X11_isKey km_X11_153 rfl rfl ⟨Nat.le_of_ble_eq_true rfl, Nat.le_of_ble_eq_true rfl⟩ hK (fun _ => XPh.blind) (fun U hU hW => XPh.at hK hz hS hT hU hW) rfl hl.1 (Nat.le_of_ble_eq_true rfl) dX11_whyNotSet_8 ⟨Nat.le_of_ble_eq_true rfl, Nat.le_of_ble_eq_true rfl⟩) hS ?_
    rintro _ _ locs ⟨x8, rfl, b8, t8⟩ hS
    have t8 : (x8.toInt = 1 ∧ 0 ≤ p1.toInt ∧ p1.toInt ≤ 29) ∨ (x8.toInt = 0 ∧ (p1.toInt < 0 ∨ 29 < p1.toInt)) := t8
    refine xi_zeq (tgt := 29) hx hb (rfl : Int32.toInt x8 = x8.toInt) dX11_whyNotSet_11 (by decide) (fun c11 => ?_) (fun c11 => ?_)
    · refine lv_iconst (v := (-1)) hx hb dX11_whyNotSet_29 (by decide) ?_
      exact x_ri hx hb hr hlk hQ (Nat.le_of_ble_eq_true rfl) (Nat.le_of_ble_eq_true rfl) hS dX11_whyNotSet_30 () ⟨_, rfl, (by rw [((by decide) : Int32.toInt (-1) = (-1 : Int))] <;> exact (v_X11_whyNotSet_30_2 (K := K) (F := F) a G x1 p0 x8 p1 p2 p3 ha t1 c4 t8 c11))⟩ hh
    · refine lv_iload_n hx hb dX11_whyNotSet_14 rfl (lv_at hl 3 rfl) ?_
      refine x_clp (x_runS (As := [.int p2]) (rest := []) S (c_X11_isColumn l E K F G s.heap p2) ms_X11_isColumn km_X11_356 rfl rfl ⟨Nat.le_of_ble_eq_true rfl, Nat.le_of_ble_eq_true rfl⟩ hK (fun _ => XPh.blind) (fun U hU hW => XPh.at hK hz hS hT hU hW) rfl hl.1 (Nat.le_of_ble_eq_true rfl) dX11_whyNotSet_15 ⟨Nat.le_of_ble_eq_true rfl, Nat.le_of_ble_eq_true rfl⟩) hS ?_
      rintro _ _ locs ⟨x15, rfl, b15, t15⟩ hS
      have t15 : (x15.toInt = 1 ∧ 0 ≤ p2.toInt ∧ p2.toInt ≤ 2) ∨ (x15.toInt = 0 ∧ (p2.toInt < 0 ∨ 2 < p2.toInt)) := t15
      refine xi_zeq (tgt := 29) hx hb (rfl : Int32.toInt x15 = x15.toInt) dX11_whyNotSet_18 (by decide) (fun c18 => ?_) (fun c18 => ?_)
      · refine lv_iconst (v := (-1)) hx hb dX11_whyNotSet_29 (by decide) ?_
        exact x_ri hx hb hr hlk hQ (Nat.le_of_ble_eq_true rfl) (Nat.le_of_ble_eq_true rfl) hS dX11_whyNotSet_30 () ⟨_, rfl, (by rw [((by decide) : Int32.toInt (-1) = (-1 : Int))] <;> exact (v_X11_whyNotSet_30_3 (K := K) (F := F) a G x1 p0 x8 p1 x15 p2 p3 ha t1 c4 t8 c11 t15 c18))⟩ hh
      · refine lv_iload hx hb dX11_whyNotSet_21 (lv_at hl 4 rfl) ?_
        refine x_clp (x_runS (As := [.int p3]) (rest := []) S (c_X11_isValue l E K F G s.heap p3) ms_X11_isValue km_X11_343 rfl rfl ⟨Nat.le_of_ble_eq_true rfl, Nat.le_of_ble_eq_true rfl⟩ hK (fun _ => XPh.blind) (fun U hU hW => XPh.at hK hz hS hT hU hW) rfl hl.1 (Nat.le_of_ble_eq_true rfl) dX11_whyNotSet_23 ⟨Nat.le_of_ble_eq_true rfl, Nat.le_of_ble_eq_true rfl⟩) hS ?_
        rintro _ _ locs ⟨x23, rfl, b23, t23⟩ hS
        have t23 : (x23.toInt = 1 ∧ (p3.toInt = -1000 ∨ (-99 ≤ p3.toInt ∧ p3.toInt < 100))) ∨ (x23.toInt = 0 ∧ p3.toInt ≠ -1000 ∧ (p3.toInt < -99 ∨ 100 ≤ p3.toInt)) := t23
        refine xi_zne (tgt := 31) hx hb (rfl : Int32.toInt x23 = x23.toInt) dX11_whyNotSet_26 (by decide) (fun c26 => ?_) (fun c26 => ?_)
        · have z31 : 0 ≤ p0.toInt ∧ p0.toInt < 3 := (z_X11_whyNotSet_1 p0.toInt x1.toInt t1 c4)
          have z31a : 0 ≤ p1.toInt ∧ p1.toInt < 30 := (z_X11_whyNotSet_2 p1.toInt x8.toInt t8 c11)
          have z31b : 0 ≤ p2.toInt ∧ p2.toInt < 3 := (z_X11_whyNotSet_1 p2.toInt x15.toInt t15 c18)
          have z31c : p3.toInt = -1000 ∨ (-99 ≤ p3.toInt ∧ p3.toInt ≤ 99) := (z_X11_whyNotSet_4 p3.toInt x23.toInt t23 c26)
          refine lv_aload_n hx hb dX11_whyNotSet_31 rfl (lv_at hl 0 rfl) ?_
          refine lv_iload_n hx hb dX11_whyNotSet_32 rfl (lv_at hl 1 rfl) ?_
          refine lv_iload_n hx hb dX11_whyNotSet_33 rfl (lv_at hl 2 rfl) ?_
          refine x_clp (x_runV (b := a) (As := [.int p0, .int p1]) (rest := []) S (c_X11_isRow l E K F G s.heap a p0 p1 ha (v_X11_whyNotSet_34_4 (F := F) a G hM)) mv_X11_isRow km_X11_346 rfl rfl ⟨Nat.le_of_ble_eq_true rfl, Nat.le_of_ble_eq_true rfl⟩ (rc_13 hK hT ha) hK (fun _ => XPh.blind) (fun U hU hW => XPh.at hK hz hS hT hU hW) rfl hl.1 (Nat.le_of_ble_eq_true rfl) dX11_whyNotSet_34 ⟨Nat.le_of_ble_eq_true rfl, Nat.le_of_ble_eq_true rfl⟩) hS ?_
          rintro _ _ locs ⟨x34, rfl, b34, t34⟩ hS
          have t34 : (x34.toInt = 1 ∧ (cel (mw (G.2.1 (F a 1)) 0) (p0.toInt) (p1.toInt) 0) ≠ -2000) ∨ (x34.toInt = 0 ∧ (cel (mw (G.2.1 (F a 1)) 0) (p0.toInt) (p1.toInt) 0) = -2000) := t34
          refine xi_zne (tgt := 43) hx hb (rfl : Int32.toInt x34 = x34.toInt) dX11_whyNotSet_37 (by decide) (fun c37 => ?_) (fun c37 => ?_)
          · refine lv_aload_n hx hb dX11_whyNotSet_43 rfl (lv_at hl 0 rfl) ?_
            refine gX11_1 S hK hT ha kf_X11_9 dX11_whyNotSet_44 (fun _ _ => ?_)
            refine lv_iload_n hx hb dX11_whyNotSet_47 rfl (lv_at hl 1 rfl) ?_
            refine lv_iload_n hx hb dX11_whyNotSet_48 rfl (lv_at hl 2 rfl) ?_
            refine x_clp (x_runS (As := [.int p0, .int p1]) (rest := [.ref (F a 1)]) S (c_X11_at l E K F G s.heap p0 p1) ms_X11_at km_X11_156 rfl rfl ⟨Nat.le_of_ble_eq_true rfl, Nat.le_of_ble_eq_true rfl⟩ hK (fun _ => XPh.blind) (fun U hU hW => XPh.at hK hz hS hT hU hW) rfl hl.1 (Nat.le_of_ble_eq_true rfl) dX11_whyNotSet_49 ⟨Nat.le_of_ble_eq_true rfl, Nat.le_of_ble_eq_true rfl⟩) hS ?_
            rintro _ _ locs ⟨x49, rfl, t49⟩ hS
            have t49 : 0 ≤ p0.toInt ∧ p0.toInt ≤ 2 ∧ 0 ≤ p1.toInt ∧ p1.toInt ≤ 29 → x49.toInt = 4 * (30 * p0.toInt + p1.toInt) := t49
            refine lv_iconst (v := 1) hx hb dX11_whyNotSet_52 (by decide) ?_
            refine xi_iadd hx hb (rfl : Int32.toInt x49 = x49.toInt) ((by decide) : Int32.toInt 1 = (1 : Int)) dX11_whyNotSet_53 (fun x53 t53 => ?_)
            refine lv_iload_n hx hb dX11_whyNotSet_54 rfl (lv_at hl 3 rfl) ?_
            refine xi_iadd hx hb (rfl : Int32.toInt x53 = x53.toInt) (rfl : Int32.toInt p2 = p2.toInt) dX11_whyNotSet_55 (fun x55 t55 => ?_)
            refine al_0 S hK hT hk9999 ar_30 (by decide) (z_X11_whyNotSet_5 p0.toInt p1.toInt p2.toInt x49.toInt x53.toInt x55.toInt z31 z31a z31b t49 t53 t55) dX11_whyNotSet_56 (fun x56 hv56 o56 => ?_)
            have hv56 : x56.toInt = (aI (G.2.1 (F a 1)) (0 + 4 * (30 * p0.toInt + p1.toInt) + 1 + p2.toInt)) := hv56.trans (by rw [((rfl : Int32.toInt x55 = x55.toInt).trans (z_X11_whyNotSet_6 p0.toInt p1.toInt p2.toInt x49.toInt x53.toInt x55.toInt z31 z31a z31b t49 t53 t55))])
            have z57 : ((aI (G.2.1 (F a 1)) (0 + 4 * (30 * p0.toInt + p1.toInt))) = 0 ∧ (cel (mw (G.2.1 (F a 1)) 0) (p0.toInt) (p1.toInt) (p2.toInt)) = -2000) ∨ ((aI (G.2.1 (F a 1)) (0 + 4 * (30 * p0.toInt + p1.toInt))) = 1 ∧ (cel (mw (G.2.1 (F a 1)) 0) (p0.toInt) (p1.toInt) (p2.toInt)) = (aI (G.2.1 (F a 1)) (0 + 4 * (30 * p0.toInt + p1.toInt) + 1 + p2.toInt))) := (hM.okc (z_X11_whyNotSet_7 p0.toInt p1.toInt p2.toInt z31 z31a z31b)).imp id (fun h => ⟨h.1, h.2.1⟩)
            refine lv_iload hx hb dX11_whyNotSet_57 (lv_at hl 4 rfl) ?_
            refine xi_cne (tgt := 67) hx hb (hv56 : Int32.toInt x56 = (aI (G.2.1 (F a 1)) (0 + 4 * (30 * p0.toInt + p1.toInt) + 1 + p2.toInt))) (rfl : Int32.toInt p3 = p3.toInt) dX11_whyNotSet_59 (by decide) (fun c59 => ?_) (fun c59 => ?_)
            · refine lv_iconst (v := 0) hx hb dX11_whyNotSet_67 (by decide) ?_
              exact x_ri hx hb hr hlk hQ (Nat.le_of_ble_eq_true rfl) (Nat.le_of_ble_eq_true rfl) hS dX11_whyNotSet_68 () ⟨_, rfl, (v_X11_whyNotSet_68_5 (F := F) G a p0 p1 p2 p3 x34 hM z31 z31a z31b z31c t34 c37 z57 c59)⟩ hh
            · refine lv_bipush (v := (-4)) hx hb dX11_whyNotSet_62 (by decide) ?_
              refine lv_goto (tgt := 68) hx hb dX11_whyNotSet_64 (by decide) ?_
              exact x_ri hx hb hr hlk hQ (Nat.le_of_ble_eq_true rfl) (Nat.le_of_ble_eq_true rfl) hS dX11_whyNotSet_68 () ⟨_, rfl, (by rw [((by decide) : Int32.toInt (-4) = (-4 : Int))] <;> exact (v_X11_whyNotSet_68_6 (F := F) G a p0 p1 p2 p3 x34 hM z31 z31a z31b z31c t34 c37 z57 c59))⟩ hh
          · refine lv_bipush (v := (-2)) hx hb dX11_whyNotSet_40 (by decide) ?_
            exact x_ri hx hb hr hlk hQ (Nat.le_of_ble_eq_true rfl) (Nat.le_of_ble_eq_true rfl) hS dX11_whyNotSet_42 () ⟨_, rfl, (by rw [((by decide) : Int32.toInt (-2) = (-2 : Int))] <;> exact (v_X11_whyNotSet_42_7 (F := F) p0 p1 p2 p3 x34 G a z31 z31a z31b z31c t34 c37))⟩ hh
        · refine lv_iconst (v := (-1)) hx hb dX11_whyNotSet_29 (by decide) ?_
          exact x_ri hx hb hr hlk hQ (Nat.le_of_ble_eq_true rfl) (Nat.le_of_ble_eq_true rfl) hS dX11_whyNotSet_30 () ⟨_, rfl, (by rw [((by decide) : Int32.toInt (-1) = (-1 : Int))] <;> exact (v_X11_whyNotSet_30_8 (K := K) (F := F) a G x1 p0 x8 p1 x15 p2 x23 p3 ha t1 c4 t8 c11 t15 c18 t23 c26))⟩ hh

theorem z_X11_set_1 (a0 : Int) (a1 : Int) (a2 : Int) (a3 : Int) (a4 : Int) (a5 : Int) (h0 : 0 ≤ a0) (h1 : a0 < 3) (h2 : 0 ≤ a1) (h3 : a1 < 30) (h4 : 0 ≤ a2) (h5 : a2 < 3) (h6 : 0 ≤ a0 ∧ a0 ≤ 2 ∧ 0 ≤ a1 ∧ a1 ≤ 29 → a3 = 4 * (30 * a0 + a1)) (h7 : a4 = a3 + (1 : Int) ∨ a3 + (1 : Int) < -2147483648 ∨ 2147483648 ≤ a3 + (1 : Int)) (h8 : a5 = a4 + a2 ∨ a4 + a2 < -2147483648 ∨ 2147483648 ≤ a4 + a2) : 0 ≤ a5 ∧ a5 < ((360 : Nat) : Int) := by omega
theorem z_X11_set_2 (a0 : Int) (a1 : Int) (a2 : Int) (h0 : a0 = -2147483648 ∧ a1 = -2147483648 ∧ a2 = 0) : 0 ≤ a2 ∧ a2 ≤ 24 := by omega
theorem z_X11_set_5 (a0 : Int) (a1 : Int) (a2 : Int) (a3 : Int) (h0 : 0 ≤ a0 ∧ a0 ≤ 2388) (h1 : a1 = -2147483648 ∧ a2 = -2147483648 ∧ a3 = 0) : (0 ≤ a3 ∧ a3 ≤ 24) ∧ (0 ≤ a0 ∧ a0 ≤ 2388) := by omega
abbrev rm_X11_set : Room := { frames := 8, cells := 0, slots := 0, locals := 186 }
set_option maxHeartbeats 4000000 in
set_option maxRecDepth 100000 in
theorem c_X11_set (l : Launch) (E : XE) (K : Nat → Nat) (F : Nat → Nat → Nat) (G : XG) (a : Nat) (p0 : Int32) (p1 : Int32) (p2 : Int32) (p3 : Int32) (ha : K a = 13) (am : 0 ≤ ((G.1 a 43).toInt) ∧ ((G.1 a 43).toInt) ≤ 2388) (hR : RV (G.2.1 (F a 10))) (hM : RM (G.2.1 (F a 1)) (0)) (hB : RM (G.2.1 (F a 2)) 0) : Met l yX11_set (xw yX11_set cX11_set 6 (some .int)) rm_X11_set (va_Pc [.ref a, .int p0, .int p1, .int p2, .int p3] (XP E K F G)) (XQ E (fun v (u : XG) => ∃ r : Int32, v = .int r ∧ XFr [(a, 16), (a, 19), (a, 20), (a, 21), (a, 23), (a, 45), (a, 46), (a, 43), (a, 44), (a, 0)] [F a 15, F a 17, F a 18, F a 1, F a 8, F a 22, F a 11, F a 13, F a 9, F a 41, F a 42, F a 4, F a 12] [] G u ∧ ((0 ≤ ((u.1 a 23).toInt) ∧ ((u.1 a 23).toInt) ≤ 24) ∧ (0 ≤ ((u.1 a 43).toInt) ∧ ((u.1 a 43).toInt) ≤ 2388)) ∧ ((whyS (mw (G.2.1 (F a 1)) 0) p0.toInt p1.toInt p2.toInt p3.toInt ≠ 0 ∧ r.toInt = whyS (mw (G.2.1 (F a 1)) 0) p0.toInt p1.toInt p2.toInt p3.toInt ∧ mw (u.2.1 (F a 1)) 0 = (mw (G.2.1 (F a 1)) 0)) ∨ (whyS (mw (G.2.1 (F a 1)) 0) p0.toInt p1.toInt p2.toInt p3.toInt = 0 ∧ StR ((G.1 a 6).toInt) r.toInt (G.2.1 (F a 10)) (mw (G.2.1 (F a 1)) 0) (rset (mw (G.2.1 (F a 1)) 0) (90 * p0.toInt + 30 * p2.toInt + p1.toInt) p3.toInt) (mw (u.2.1 (F a 1)) 0))) ∧ (RM (u.2.1 (F a 1)) 0)) (fun u H => TW E K F u H)) 0 0 (xA E) := by
  refine x_enter (by decide) (Nat.le_of_ble_eq_true rfl) ?_
  intro p e s m args below meth c Q S hr hlk hnm hQ hP ls hl
  obtain ⟨hz, hK, hT⟩ := hP
  obtain ⟨hx, hb, -, -, -⟩ := id S
  obtain ⟨H, hT, hS, hgo⟩ : ∃ H : Heap, TW E K F G H ∧ va_S (xA E) s.heap H [] ∧ H = s.heap := ⟨_, hT, va_S.rf, rfl⟩
  rw [← hgo]
  have hl : lv_has ls 6 [(0, .ref a), (1, .int p0), (2, .int p1), (3, .int p2), (4, .int p3)] := hl
  obtain ⟨hk9999, hj9999⟩ := fkX11_15 hT ha
  obtain ⟨hk9999a, hj9999a⟩ := fkX11_17 hT ha
  obtain ⟨hk9999b, hj9999b⟩ := fkX11_18 hT ha
  obtain ⟨hk9999c, hj9999c⟩ := fkX11_1 hT ha
  obtain ⟨hk9999d, hj9999d⟩ := fkX11_8 hT ha
  obtain ⟨hk9999e, hj9999e⟩ := fkX11_22 hT ha
  obtain ⟨hk9999f, hj9999f⟩ := fkX11_11 hT ha
  obtain ⟨hk9999g, hj9999g⟩ := fkX11_13 hT ha
  obtain ⟨hk9999h, hj9999h⟩ := fkX11_9 hT ha
  obtain ⟨hk9999i, hj9999i⟩ := fkX11_41 hT ha
  obtain ⟨hk9999j, hj9999j⟩ := fkX11_42 hT ha
  obtain ⟨hk9999k, hj9999k⟩ := fkX11_4 hT ha
  obtain ⟨hk9999l, hj9999l⟩ := fkX11_12 hT ha
  obtain ⟨hk9999m, hj9999m⟩ := fkX11_10 hT ha
  obtain ⟨hk9999n, hj9999n⟩ := fkX11_2 hT ha
  refine lv_aload_n hx hb dX11_set_0 rfl (lv_at hl 0 rfl) ?_
  refine lv_iconst (v := 0) hx hb dX11_set_1 (by decide) ?_
  refine pX11_0 (v := 0) S hK hT hS ha kf_X11_134 dX11_set_2 (fun H locs hT hS => ?_)
  obtain ⟨G2, hG2⟩ : ∃ GG : XG, GG = dput G a 0 0 := ⟨_, rfl⟩
  rw [← hG2] at hT
  refine lv_aload_n hx hb dX11_set_5 rfl (lv_at hl 0 rfl) ?_
  refine x_cv0 (x_runV (b := a) (As := []) (rest := []) S (c_X11_nothing l E K F G2 a ha) mv_X11_nothing km_X11_231 rfl rfl ⟨Nat.le_of_ble_eq_true rfl, Nat.le_of_ble_eq_true rfl⟩ (rc_13 hK hT ha) hK (fun _ => XP.blind) (fun U hU hW => XP.at hK hz hS hT hU hW) rfl hl.1 (Nat.le_of_ble_eq_true rfl) dX11_set_6 ⟨Nat.le_of_ble_eq_true rfl, Nat.le_of_ble_eq_true rfl⟩) hS ?_
  rintro G6 H locs ⟨hF6, t6⟩ hT hS
  have t6 : ((G6.1 a 20).toInt) = -2147483648 ∧ ((G6.1 a 21).toInt) = -2147483648 ∧ ((G6.1 a 23).toInt) = 0 := t6
  refine lv_aload_n hx hb dX11_set_9 rfl (lv_at hl 0 rfl) ?_
  refine lv_iload_n hx hb dX11_set_10 rfl (lv_at hl 1 rfl) ?_
  refine lv_iload_n hx hb dX11_set_11 rfl (lv_at hl 2 rfl) ?_
  refine lv_iload_n hx hb dX11_set_12 rfl (lv_at hl 3 rfl) ?_
  refine lv_iload hx hb dX11_set_13 (lv_at hl 4 rfl) ?_
  refine x_clp (x_runV (b := a) (As := [.int p0, .int p1, .int p2, .int p3]) (rest := []) S (c_X11_whyNotSet l E K F G6 H a p0 p1 p2 p3 ha (v_X11_set_15_1 (F := F) a G G6 hM hB ((hF6.2.1 _ xn0).trans (ld_c hG2)))) mv_X11_whyNotSet km_X11_359 rfl rfl ⟨Nat.le_of_ble_eq_true rfl, Nat.le_of_ble_eq_true rfl⟩ (rc_13 hK hT ha) hK (fun _ => XPh.blind) (fun U hU hW => XPh.at hK hz hS hT hU hW) rfl hl.1 (Nat.le_of_ble_eq_true rfl) dX11_set_15 ⟨Nat.le_of_ble_eq_true rfl, Nat.le_of_ble_eq_true rfl⟩) hS ?_
  rintro _ _ locs ⟨x15, rfl, oq15⟩ hS
  have oq15 : x15.toInt = whyS (mw (G.2.1 (F a 1)) 0) p0.toInt p1.toInt p2.toInt p3.toInt := by simp only [(show G6.2.1 (F a 1) = G.2.1 (F a 1) from ((hF6.2.1 _ xn0).trans (ld_c hG2)))] at oq15; exact oq15
  refine lv_istore (lv' := [(5, .int x15), (0, .ref a), (1, .int p0), (2, .int p1), (3, .int p2), (4, .int p3)]) hx hb dX11_set_18 hl (by decide) rfl (fun ls hl => ?_)
  refine lv_iload hx hb dX11_set_20 (lv_at hl 0 rfl) ?_
  refine xi_zeq (tgt := 32) hx hb (rfl : Int32.toInt x15 = x15.toInt) dX11_set_22 (by decide) (fun c22 => ?_) (fun c22 => ?_)
  · have z32 : 0 ≤ p0.toInt ∧ p0.toInt < 3 ∧ 0 ≤ p1.toInt ∧ p1.toInt < 30 ∧ 0 ≤ p2.toInt ∧ p2.toInt < 3 ∧ (p3.toInt = -1000 ∨ (-99 ≤ p3.toInt ∧ p3.toInt ≤ 99)) := (whyS_0 (oq15.symm.trans c22)).1
    refine lv_aload_n hx hb dX11_set_32 rfl (lv_at hl 1 rfl) ?_
    refine x_cv0 (x_runV (b := a) (As := []) (rest := []) S (c_X11_start l E K F G6 a ha (v_X11_set_33_2 (F := F) a G G6 hR ((hF6.2.1 _ xn0).trans (ld_c hG2))) (v_X11_set_33_3 (F := F) a G G6 hM hB ((hF6.2.1 _ xn0).trans (ld_c hG2)))) mv_X11_start km_X11_350 rfl rfl ⟨Nat.le_of_ble_eq_true rfl, Nat.le_of_ble_eq_true rfl⟩ (rc_13 hK hT ha) hK (fun _ => XP.blind) (fun U hU hW => XP.at hK hz hS hT hU hW) rfl hl.1 (Nat.le_of_ble_eq_true rfl) dX11_set_33 ⟨Nat.le_of_ble_eq_true rfl, Nat.le_of_ble_eq_true rfl⟩) hS ?_
    rintro G33 H locs ⟨hF33, oq33, oq33a, oq33b⟩ hT hS
    have oq33 : mw (G33.2.1 (F a 4)) 0 = mw (G.2.1 (F a 1)) 0 := by simp only [(show G6.2.1 (F a 1) = G.2.1 (F a 1) from ((hF6.2.1 _ xn0).trans (ld_c hG2)))] at oq33; exact oq33
    have oq33b : LSt (G.2.1 (F a 10)) (G33.2.1 (F a 12)) (mw (G.2.1 (F a 1)) 0) 12 := by simp only [(show G6.2.1 (F a 10) = G.2.1 (F a 10) from ((hF6.2.1 _ xn0).trans (ld_c hG2))), (show G6.2.1 (F a 1) = G.2.1 (F a 1) from ((hF6.2.1 _ xn0).trans (ld_c hG2)))] at oq33b; exact oq33b
    refine lv_aload_n hx hb dX11_set_36 rfl (lv_at hl 1 rfl) ?_
    refine gX11_1 S hK hT ha kf_X11_9 dX11_set_37 (fun _ _ => ?_)
    refine lv_iload_n hx hb dX11_set_40 rfl (lv_at hl 2 rfl) ?_
    refine lv_iload_n hx hb dX11_set_41 rfl (lv_at hl 3 rfl) ?_
    refine x_clp (x_runS (As := [.int p0, .int p1]) (rest := [.ref (F a 1)]) S (c_X11_at l E K F G33 H p0 p1) ms_X11_at km_X11_156 rfl rfl ⟨Nat.le_of_ble_eq_true rfl, Nat.le_of_ble_eq_true rfl⟩ hK (fun _ => XPh.blind) (fun U hU hW => XPh.at hK hz hS hT hU hW) rfl hl.1 (Nat.le_of_ble_eq_true rfl) dX11_set_42 ⟨Nat.le_of_ble_eq_true rfl, Nat.le_of_ble_eq_true rfl⟩) hS ?_
    rintro _ _ locs ⟨x42, rfl, t42⟩ hS
    have t42 : 0 ≤ p0.toInt ∧ p0.toInt ≤ 2 ∧ 0 ≤ p1.toInt ∧ p1.toInt ≤ 29 → x42.toInt = 4 * (30 * p0.toInt + p1.toInt) := t42
    refine lv_iconst (v := 1) hx hb dX11_set_45 (by decide) ?_
    refine xi_iadd hx hb (rfl : Int32.toInt x42 = x42.toInt) ((by decide) : Int32.toInt 1 = (1 : Int)) dX11_set_46 (fun x46 t46 => ?_)
    refine lv_iload_n hx hb dX11_set_47 rfl (lv_at hl 4 rfl) ?_
    refine xi_iadd hx hb (rfl : Int32.toInt x46 = x46.toInt) (rfl : Int32.toInt p2 = p2.toInt) dX11_set_48 (fun x48 t48 => ?_)
    refine lv_iload hx hb dX11_set_49 (lv_at hl 5 rfl) ?_
    refine as_0 (x := p3) S hK hT hS hk9999c ar_30 aw_30 (by decide) (z_X11_set_1 p0.toInt p1.toInt p2.toInt x42.toInt x46.toInt x48.toInt (z32).1 (z32).2.1 (z32).2.2.1 (z32).2.2.2.1 (z32).2.2.2.2.1 (z32).2.2.2.2.2.1 t42 t46 t48) dX11_set_51 (fun H locs hT hS => ?_)
    obtain ⟨G51, hG51⟩ : ∃ GG : XG, GG = cput G33 (F a 1) x48.toNatClampNeg p3 := ⟨_, rfl⟩
    rw [← hG51] at hT
    refine lv_aload_n hx hb dX11_set_52 rfl (lv_at hl 1 rfl) ?_
    refine x_cl0 (x_runV (b := a) (As := []) (rest := []) S (c_X11_settles l E K F G51 a (mw (G.2.1 (F a 1)) 0) ha (by rw [(show (G51.1 a 23).toInt = ((G6.1 a 23).toInt) from (congrArg Int32.toInt ((lc_d hG51).trans (hF33.1 _ _ xn0))).trans (rfl : Int32.toInt (G6.1 a 23) = ((G6.1 a 23).toInt)))] <;> exact (z_X11_set_2 ((G6.1 a 20).toInt) ((G6.1 a 21).toInt) ((G6.1 a 23).toInt) t6)) (by rw [(show (G51.1 a 43).toInt = ((G.1 a 43).toInt) from (congrArg Int32.toInt ((lc_d hG51).trans ((hF33.1 _ _ xn0).trans ((hF6.1 _ _ (xnj (by decide) (xnj (by decide) (xnj (by decide) xn0)))).trans (ld_j hG2 (by decide)))))).trans (rfl : Int32.toInt (G.1 a 43) = ((G.1 a 43).toInt)))] <;> exact (am)) (v_X11_set_53_4 (F := F) a G G51 hR ((lc_c hG51 (xne_k hk9999m hk9999c (by decide))).trans ((hF33.2.1 _ (xn1 (xne_k hk9999m hk9999k (by decide)) (xn1 (xne_k hk9999m hk9999l (by decide)) xn0))).trans ((hF6.2.1 _ xn0).trans (ld_c hG2))))) (v_X11_set_53_5 (K := K) (F := F) a G G6 G33 G51 x48 p3 x15 p0 p1 p2 x42 x46 ha hG51 hM oq15 am t6 c22 z32 t42 t46 t48 ((hF33.2.1 _ (xn1 (xne_k hk9999c hk9999k (by decide)) (xn1 (xne_k hk9999c hk9999l (by decide)) xn0))).trans ((hF6.2.1 _ xn0).trans (ld_c hG2)))) (v_X11_set_53_6 (F := F) a G G33 G51 hM hB oq33a (lc_c hG51 (xne_k hk9999k hk9999c (by decide)))) (v_X11_set_53_7 (F := F) a G G33 G51 hM hB oq33a ((lc_c hG51 (xne_k hk9999n hk9999c (by decide))).trans ((hF33.2.1 _ (xn1 (xne_j hj9999n hj9999k (by first | decide | omega)) (xn1 (xne_k hk9999n hk9999l (by decide)) xn0))).trans ((hF6.2.1 _ xn0).trans (ld_c hG2))))) (v_X11_set_53_8 (F := F) a G G33 G51 oq33b ((lc_c hG51 (xne_k hk9999m hk9999c (by decide))).trans ((hF33.2.1 _ (xn1 (xne_k hk9999m hk9999k (by decide)) (xn1 (xne_k hk9999m hk9999l (by decide)) xn0))).trans ((hF6.2.1 _ xn0).trans (ld_c hG2)))) (lc_c hG51 (xne_k hk9999l hk9999c (by decide))))) mv_X11_settles km_X11_353 rfl rfl ⟨Nat.le_of_ble_eq_true rfl, Nat.le_of_ble_eq_true rfl⟩ (rc_13 hK hT ha) hK (fun _ => XP.blind) (fun U hU hW => XP.at hK hz hS hT hU hW) rfl hl.1 (Nat.le_of_ble_eq_true rfl) dX11_set_53 ⟨Nat.le_of_ble_eq_true rfl, Nat.le_of_ble_eq_true rfl⟩) hS ?_
    rintro _ G53 H locs ⟨x53, rfl, hF53, t53, oq53, oq53a⟩ hT hS
    have t53 : (0 ≤ ((G53.1 a 23).toInt) ∧ ((G53.1 a 23).toInt) ≤ 24) ∧ (0 ≤ ((G53.1 a 43).toInt) ∧ ((G53.1 a 43).toInt) ≤ 2388) := t53
    have oq53 : ((ffP (G.2.1 (F a 10)) (mw (G51.2.1 (F a 1)) 0) (fuO (G.2.1 (F a 10)) (mw (G.2.1 (F a 1)) 0) (mw (G51.2.1 (F a 1)) 0) 0) ≠ -1 ∨ (((G.1 a 6).toInt) = 0 ∧ ffP (G.2.1 (F a 10)) (mw (G51.2.1 (F a 1)) 0) (fuO (G.2.1 (F a 10)) (mw (G.2.1 (F a 1)) 0) (mw (G51.2.1 (F a 1)) 0) 1) ≠ -1)) ∧ x53.toInt = -5 ∧ mw (G53.2.1 (F a 1)) 0 = mw (G33.2.1 (F a 4)) 0) ∨ (ffP (G.2.1 (F a 10)) (mw (G51.2.1 (F a 1)) 0) (fuO (G.2.1 (F a 10)) (mw (G.2.1 (F a 1)) 0) (mw (G51.2.1 (F a 1)) 0) 0) = -1 ∧ (((G.1 a 6).toInt) = 0 → ffP (G.2.1 (F a 10)) (mw (G51.2.1 (F a 1)) 0) (fuO (G.2.1 (F a 10)) (mw (G.2.1 (F a 1)) 0) (mw (G51.2.1 (F a 1)) 0) 1) = -1) ∧ x53.toInt = (((fuO (G.2.1 (F a 10)) (mw (G.2.1 (F a 1)) 0) (mw (G51.2.1 (F a 1)) 0) 2).length : Nat) : Int) ∧ mw (G53.2.1 (F a 1)) 0 = mw (G51.2.1 (F a 1)) 0) := by simp only [(show G51.2.1 (F a 10) = G.2.1 (F a 10) from ((lc_c hG51 (xne_k hk9999m hk9999c (by decide))).trans ((hF33.2.1 _ (xn1 (xne_k hk9999m hk9999k (by decide)) (xn1 (xne_k hk9999m hk9999l (by decide)) xn0))).trans ((hF6.2.1 _ xn0).trans (ld_c hG2))))), (show G51.1 a 6 = G.1 a 6 from ((lc_d hG51).trans ((hF33.1 _ _ xn0).trans ((hF6.1 _ _ (xnj (by decide) (xnj (by decide) (xnj (by decide) xn0)))).trans (ld_j hG2 (by decide)))))), (show G51.2.1 (F a 4) = G33.2.1 (F a 4) from (lc_c hG51 (xne_k hk9999k hk9999c (by decide))))] at oq53; exact oq53
    exact x_ri hx hb hr hlk hQ (Nat.le_of_ble_eq_true rfl) (Nat.le_of_ble_eq_true rfl) hS dX11_set_56 G53 ⟨_, rfl, (XFr.call (by rw [hG51]; exact XFr.cput (XFr.call (XFr.call (by rw [hG2]; exact XFr.dput XFr.rf (List.mem_of_getElem? (i := 9) rfl)) hF6 (xm1 2 rfl (xm1 3 rfl (xm1 4 rfl xm0))) xm0 xm0) hF33 xm0 (xm1 11 rfl (xm1 12 rfl xm0)) xm0) (List.mem_of_getElem? (i := 3) rfl)) hF53 (xm1 0 rfl (xm1 1 rfl (xm1 2 rfl (xm1 3 rfl (xm1 4 rfl (xm1 5 rfl (xm1 6 rfl (xm1 7 rfl (xm1 8 rfl xm0))))))))) (xm1 0 rfl (xm1 1 rfl (xm1 2 rfl (xm1 3 rfl (xm1 4 rfl (xm1 5 rfl (xm1 6 rfl (xm1 7 rfl (xm1 8 rfl (xm1 9 rfl (xm1 10 rfl xm0))))))))))) xm0), (t53), (v_X11_set_56_9 (K := K) (F := F) a G G6 G33 G51 x48 p3 G53 x15 p0 p1 p2 x53 x42 x46 ha hG51 hM oq15 oq33 oq53 am t6 c22 z32 t42 t46 t48 t53 ((hF33.2.1 _ (xn1 (xne_k hk9999c hk9999k (by decide)) (xn1 (xne_k hk9999c hk9999l (by decide)) xn0))).trans ((hF6.2.1 _ xn0).trans (ld_c hG2)))), (v_X11_set_56_10 (F := F) a G53 oq53a)⟩ hT
  · refine lv_aload_n hx hb dX11_set_25 rfl (lv_at hl 1 rfl) ?_
    refine lv_iload hx hb dX11_set_26 (lv_at hl 0 rfl) ?_
    refine x_cl0 (x_runV (b := a) (As := [.int x15]) (rest := []) S (c_X11_refuses l E K F G6 a x15 ha) mv_X11_refuses km_X11_325 rfl rfl ⟨Nat.le_of_ble_eq_true rfl, Nat.le_of_ble_eq_true rfl⟩ (rc_13 hK hT ha) hK (fun _ => XP.blind) (fun U hU hW => XP.at hK hz hS hT hU hW) rfl hl.1 (Nat.le_of_ble_eq_true rfl) dX11_set_28 ⟨Nat.le_of_ble_eq_true rfl, Nat.le_of_ble_eq_true rfl⟩) hS ?_
    rintro _ G28 H locs ⟨x28, rfl, hF28, t28⟩ hT hS
    have t28 : x28.toInt = x15.toInt := t28
    exact x_ri hx hb hr hlk hQ (Nat.le_of_ble_eq_true rfl) (Nat.le_of_ble_eq_true rfl) hS dX11_set_31 G28 ⟨_, rfl, (XFr.call (XFr.call (by rw [hG2]; exact XFr.dput XFr.rf (List.mem_of_getElem? (i := 9) rfl)) hF6 (xm1 2 rfl (xm1 3 rfl (xm1 4 rfl xm0))) xm0 xm0) hF28 xm0 (xm1 4 rfl xm0) xm0), (by rw [(show (G28.1 a 23).toInt = ((G6.1 a 23).toInt) from (congrArg Int32.toInt (hF28.1 _ _ xn0)).trans (rfl : Int32.toInt (G6.1 a 23) = ((G6.1 a 23).toInt))), (show (G28.1 a 43).toInt = ((G.1 a 43).toInt) from (congrArg Int32.toInt ((hF28.1 _ _ xn0).trans ((hF6.1 _ _ (xnj (by decide) (xnj (by decide) (xnj (by decide) xn0)))).trans (ld_j hG2 (by decide))))).trans (rfl : Int32.toInt (G.1 a 43) = ((G.1 a 43).toInt)))] <;> exact (z_X11_set_5 ((G.1 a 43).toInt) ((G6.1 a 20).toInt) ((G6.1 a 21).toInt) ((G6.1 a 23).toInt) am t6)), (by rw [(t28 : Int32.toInt x28 = x15.toInt)] <;> exact (v_X11_set_31_11 (K := K) (F := F) a G G6 G28 x15 p0 p1 p2 p3 ha oq15 am t6 c22 ((hF28.2.1 _ (xn1 (xne_k hk9999c hk9999d (by decide)) xn0)).trans ((hF6.2.1 _ xn0).trans (ld_c hG2))))), (v_X11_set_31_12 (F := F) a G G28 hM ((hF28.2.1 _ (xn1 (xne_k hk9999c hk9999d (by decide)) xn0)).trans ((hF6.2.1 _ xn0).trans (ld_c hG2))))⟩ hT
section
/-! ===== rows that go with others: the steps, one key at a time ===== -/
/-- where one stands: table, key of the row that went, rule, next key -/
abbrev CFr := Int × Int × Int × Int
abbrev CSt := List CFr × (Int → Int)
def cst (A : Int → Int → Int) (T C : Int → Int) : CSt → CSt
  | ([], v) => ([], v)
  | ((t, k, r, n) :: s, v) =>
    if r = 12 then (s, v)
    else if n = 30 ∨ ¬ (0 < A r t) then ((t, k, r + 1, 0) :: s, v)
    else if cel v (T r) n (C r) = k then
      (if A r t = 2 then ((t, k, r, n + 1) :: s, rset v (90 * T r + 30 * C r + n) (-1000))
       else ((T r, n, 0, 0) :: (t, k, r, n + 1) :: s, rfil v (T r) n (-2000) 3))
    else ((t, k, r, n + 1) :: s, v)
theorem cst_c (A : Int → Int → Int) (T C : Int → Int) (t k r n : Int) (s : List CFr) (v : Int → Int) : cst A T C ((t, k, r, n) :: s, v) = if r = 12 then (s, v)
    else if n = 30 ∨ ¬ (0 < A r t) then ((t, k, r + 1, 0) :: s, v)
    else if cel v (T r) n (C r) = k then
      (if A r t = 2 then ((t, k, r, n + 1) :: s, rset v (90 * T r + 30 * C r + n) (-1000))
       else ((T r, n, 0, 0) :: (t, k, r, n + 1) :: s, rfil v (T r) n (-2000) 3))
    else ((t, k, r, n + 1) :: s, v) := rfl
section CST
variable {A : Int → Int → Int} {T C : Int → Int} {t k r n : Int} {s : List CFr} {v : Int → Int}
theorem cst_pop (h : r = 12) : cst A T C ((t, k, r, n) :: s, v) = (s, v) := by rw [cst_c, if_pos h]
theorem cst_nx (h : r ≠ 12) (h2 : n = 30 ∨ ¬ (0 < A r t)) : cst A T C ((t, k, r, n) :: s, v) = ((t, k, r + 1, 0) :: s, v) := by rw [cst_c, if_neg h, if_pos h2]
theorem cst_cl (h : r ≠ 12) (h2 : n ≠ 30) (h3 : A r t = 2) (h4 : cel v (T r) n (C r) = k) : cst A T C ((t, k, r, n) :: s, v) = ((t, k, r, n + 1) :: s, rset v (90 * T r + 30 * C r + n) (-1000)) := by rw [cst_c, if_neg h, if_neg (by omega), if_pos h4, if_pos h3]
theorem cst_go (h : r ≠ 12) (h2 : n ≠ 30) (h3 : 0 < A r t) (h5 : A r t ≠ 2) (h4 : cel v (T r) n (C r) = k) : cst A T C ((t, k, r, n) :: s, v) = ((T r, n, 0, 0) :: (t, k, r, n + 1) :: s, rfil v (T r) n (-2000) 3) := by rw [cst_c, if_neg h, if_neg (by omega), if_pos h4, if_neg h5]
theorem cst_sk (h : r ≠ 12) (h2 : n ≠ 30) (h3 : 0 < A r t) (h4 : cel v (T r) n (C r) ≠ k) : cst A T C ((t, k, r, n) :: s, v) = ((t, k, r, n + 1) :: s, v) := by rw [cst_c, if_neg h, if_neg (by omega), if_neg h4]
end CST
def pnR (v : Int → Int) : Nat → Int
  | 0 => 0
  | n + 1 => pnR v n + if v (90 * ((n : Int) / 30) + (n : Int) % 30) = -2000 then 0 else 1
/-- how many rows there are -/
def pn (v : Int → Int) : Int := pnR v 90
theorem pnR_b (v : Int → Int) (n : Nat) : 0 ≤ pnR v n ∧ pnR v n ≤ n := by
  induction n with
  | zero => exact ⟨Int.le_refl _, Int.le_refl _⟩
  | succ n ih =>
    unfold pnR
    split <;> omega
theorem pn_b (v : Int → Int) : 0 ≤ pn v ∧ pn v ≤ 90 := pnR_b v 90
theorem pn_same {v w : Int → Int} (h : ∀ t k : Int, 0 ≤ t → t < 3 → 0 ≤ k → k < 30 → (w (90 * t + k) = -2000 ↔ v (90 * t + k) = -2000)) : pn w = pn v := by
  have key : ∀ n : Nat, n ≤ 90 → pnR w n = pnR v n := by
    intro n
    induction n with
    | zero => intro _; rfl
    | succ n ih =>
      intro hn
      have q := h ((n : Int) / 30) ((n : Int) % 30) (by omega) (by omega) (by omega) (by omega)
      unfold pnR
      rw [ih (by omega)]
      by_cases e : v (90 * ((n : Int) / 30) + (n : Int) % 30) = -2000
      · rw [if_pos e, if_pos (q.mpr e)]
      · rw [if_neg e, if_neg (fun x => e (q.mp x))]
  exact key 90 (Nat.le_refl _)
theorem pn_cut {v w : Int → Int} {t0 k0 : Int} (h0 : 0 ≤ t0 ∧ t0 < 3 ∧ 0 ≤ k0 ∧ k0 < 30) (hv : v (90 * t0 + k0) ≠ -2000) (hw : w (90 * t0 + k0) = -2000) (h : ∀ t k : Int, 0 ≤ t → t < 3 → 0 ≤ k → k < 30 → ¬ (t = t0 ∧ k = k0) → (w (90 * t + k) = -2000 ↔ v (90 * t + k) = -2000)) : pn w = pn v - 1 := by
  have key : ∀ n : Nat, n ≤ 90 → pnR w n = pnR v n - if 30 * t0 + k0 < (n : Int) then 1 else 0 := by
    intro n
    induction n with
    | zero => intro _; rw [if_neg (by omega)]; rfl
    | succ n ih =>
      intro hn
      unfold pnR
      rw [ih (by omega)]
      by_cases g : 30 * t0 + k0 = (n : Int)
      · have e1 : (n : Int) / 30 = t0 := by omega
        have e2 : (n : Int) % 30 = k0 := by omega
        rw [e1, e2, if_pos hw, if_neg hv, if_neg (by omega), if_pos (by omega)]
        omega
      · have q := h ((n : Int) / 30) ((n : Int) % 30) (by omega) (by omega) (by omega) (by omega) (by omega)
        have e3 : (if 30 * t0 + k0 < ((n + 1 : Nat) : Int) then (1 : Int) else 0) = if 30 * t0 + k0 < (n : Int) then 1 else 0 := by
          by_cases x : 30 * t0 + k0 < (n : Int)
          · rw [if_pos x, if_pos (by omega)]
          · rw [if_neg x, if_neg (by omega)]
        rw [e3]
        by_cases e : v (90 * ((n : Int) / 30) + (n : Int) % 30) = -2000
        · rw [if_pos e, if_pos (q.mpr e)]; omega
        · rw [if_neg e, if_neg (fun x => e (q.mp x))]; omega
  have := key 90 (Nat.le_refl _)
  rw [if_pos (by omega)] at this
  exact this
/-- a row is there in all its columns, or in none -/
def RC (v : Int → Int) : Prop := ∀ t k c : Int, 0 ≤ t → t < 3 → 0 ≤ k → k < 30 → 0 ≤ c → c < 3 → (v (90 * t + 30 * c + k) = -2000 ↔ v (90 * t + k) = -2000)
theorem RC.set {v : Int → Int} (h : RC v) {t k c x : Int} (hp : v (90 * t + 30 * c + k) ≠ -2000) (hx : x ≠ -2000) : RC (rset v (90 * t + 30 * c + k) x) ∧ pn (rset v (90 * t + 30 * c + k) x) = pn v := by
  have hs : ∀ z : Int, (rset v (90 * t + 30 * c + k) x z = -2000 ↔ v z = -2000) := by
    intro z
    unfold rset
    by_cases e : z = 90 * t + 30 * c + k
    · rw [if_pos e, e]; exact ⟨fun q => absurd q hx, fun q => absurd q hp⟩
    · rw [if_neg e]
  exact ⟨fun t2 k2 c2 a1 a2 a3 a4 a5 a6 => (hs _).trans ((h t2 k2 c2 a1 a2 a3 a4 a5 a6).trans (hs _).symm), pn_same (fun t2 k2 _ _ _ _ => hs _)⟩
theorem RC.cut {v : Int → Int} (h : RC v) {t k : Int} (h0 : 0 ≤ t ∧ t < 3 ∧ 0 ≤ k ∧ k < 30) (hp : v (90 * t + k) ≠ -2000) : RC (rfil v t k (-2000) 3) ∧ pn (rfil v t k (-2000) 3) = pn v - 1 := by
  have hs : ∀ t2 k2 c2 : Int, 0 ≤ t2 → t2 < 3 → 0 ≤ k2 → k2 < 30 → 0 ≤ c2 → c2 < 3 → rfil v t k (-2000) 3 (90 * t2 + 30 * c2 + k2) = if t2 = t ∧ k2 = k then -2000 else v (90 * t2 + 30 * c2 + k2) := by
    intro t2 k2 c2 a1 a2 a3 a4 a5 a6
    unfold rfil
    by_cases e : t2 = t ∧ k2 = k
    · rw [if_pos e, if_pos (by omega)]
    · rw [if_neg e, if_neg (by omega)]
  have hs0 : ∀ t2 k2 : Int, 0 ≤ t2 → t2 < 3 → 0 ≤ k2 → k2 < 30 → rfil v t k (-2000) 3 (90 * t2 + k2) = if t2 = t ∧ k2 = k then -2000 else v (90 * t2 + k2) := by
    intro t2 k2 a1 a2 a3 a4
    have := hs t2 k2 0 a1 a2 a3 a4 (by decide) (by decide)
    rw [Int.mul_zero, Int.add_zero] at this
    exact this
  refine ⟨fun t2 k2 c2 a1 a2 a3 a4 a5 a6 => ?_, pn_cut h0 hp ?_ (fun t2 k2 a1 a2 a3 a4 ne => ?_)⟩
  · rw [hs t2 k2 c2 a1 a2 a3 a4 a5 a6, hs0 t2 k2 a1 a2 a3 a4]
    by_cases e : t2 = t ∧ k2 = k
    · rw [if_pos e, if_pos e]
    · rw [if_neg e, if_neg e]; exact h t2 k2 c2 a1 a2 a3 a4 a5 a6
  · rw [hs0 t k h0.1 h0.2.1 h0.2.2.1 h0.2.2.2, if_pos ⟨rfl, rfl⟩]
  · rw [hs0 t2 k2 a1 a2 a3 a4, if_neg ne]
def CFok (x : CFr) : Prop := (0 ≤ x.1 ∧ x.1 < 3) ∧ (0 ≤ x.2.1 ∧ x.2.1 < 30) ∧ (0 ≤ x.2.2.1 ∧ x.2.2.1 ≤ 12) ∧ (0 ≤ x.2.2.2 ∧ x.2.2.2 ≤ 30)
def CIv (S : CSt) : Prop := (∀ x, x ∈ S.1 → CFok x) ∧ (S.1.length : Int) + pn S.2 ≤ 90 ∧ RC S.2
/-- rules that rows follow are well -/
def CTo (A : Int → Int → Int) (T C : Int → Int) : Prop := ∀ r t : Int, 0 < A r t → (0 ≤ T r ∧ T r < 3) ∧ (0 ≤ C r ∧ C r < 3)
def cwt : List CFr → Int
  | [] => 0
  | x :: s => 31 * (12 - x.2.2.1) + 31 - x.2.2.2 + cwt s
theorem cwt_b {s : List CFr} (h : ∀ x, x ∈ s → CFok x) : 0 ≤ cwt s := by
  induction s with
  | nil => exact Int.le_refl _
  | cons x s ih =>
    have h1 := h x List.mem_cons_self
    have h2 := ih (fun y hy => h y (List.mem_cons_of_mem _ hy))
    unfold CFok at h1
    unfold cwt
    omega
def cmu (S : CSt) : Int := 404 * pn S.2 + cwt S.1
theorem cmu_b {S : CSt} (h : CIv S) : 0 ≤ cmu S := by
  have h1 := cwt_b h.1
  have h2 := pn_b S.2
  unfold cmu
  omega
theorem cst_iv {A : Int → Int → Int} {T C : Int → Int} (hT : CTo A T C) {S : CSt} (h : CIv S) : CIv (cst A T C S) ∧ (S.1 ≠ [] → cmu (cst A T C S) < cmu S) := by
  obtain ⟨s, v⟩ := S
  cases s with
  | nil => exact ⟨h, fun q => absurd rfl q⟩
  | cons x s =>
    obtain ⟨t, k, r, n⟩ := x
    obtain ⟨h1, h2, h3⟩ := h
    have g := h1 (t, k, r, n) List.mem_cons_self
    have hs : ∀ y, y ∈ s → CFok y := fun y hy => h1 y (List.mem_cons_of_mem _ hy)
    obtain ⟨g1, g2, g3, g4⟩ := g
    have h2' : (((s.length + 1 : Nat)) : Int) + pn v ≤ 90 := h2
    have h3 : RC v := h3
    clear h1 h2
    simp only at g1 g2 g3 g4
    have wt : ∀ (a b c d : Int) (l : List CFr), cwt ((a, b, c, d) :: l) = 31 * (12 - c) + 31 - d + cwt l := fun _ _ _ _ _ => rfl
    have mk : ∀ (a b c d : Int) (l : List CFr) (w : Int → Int), (0 ≤ a ∧ a < 3) → (0 ≤ b ∧ b < 30) → (0 ≤ c ∧ c ≤ 12) → (0 ≤ d ∧ d ≤ 30) → (∀ y, y ∈ l → CFok y) → ((l.length + 1 : Nat) : Int) + pn w ≤ 90 → RC w → CIv ((a, b, c, d) :: l, w) := fun a b c d l w q1 q2 q3 q4 q5 q6 q7 => ⟨fun y hy => (List.mem_cons.mp hy).elim (fun e => by rw [e]; exact ⟨q1, q2, q3, q4⟩) (q5 y), q6, q7⟩
    rw [cst_c]
    by_cases c1 : r = 12
    · rw [if_pos c1]
      refine ⟨⟨hs, by show ((s.length : Nat) : Int) + pn v ≤ 90; omega, h3⟩, fun _ => ?_⟩
      show 404 * pn v + cwt s < 404 * pn v + cwt ((t, k, r, n) :: s)
      rw [wt]
      omega
    · rw [if_neg c1]
      by_cases c2 : n = 30 ∨ ¬ (0 < A r t)
      · rw [if_pos c2]
        refine ⟨mk _ _ _ _ _ _ g1 g2 (by omega) (by omega) hs h2' h3, fun _ => ?_⟩
        show 404 * pn v + cwt ((t, k, r + 1, 0) :: s) < 404 * pn v + cwt ((t, k, r, n) :: s)
        rw [wt, wt]
        omega
      · rw [if_neg c2]
        have a0 : 0 < A r t := by
          apply Classical.byContradiction
          intro q
          exact c2 (Or.inr q)
        obtain ⟨hT1, hC1⟩ := hT r t a0
        by_cases c3 : cel v (T r) n (C r) = k
        · rw [if_pos c3]
          have hin : 0 ≤ T r ∧ T r < 3 ∧ 0 ≤ n ∧ n < 30 ∧ 0 ≤ C r ∧ C r < 3 := by omega
          rw [cel_in hin] at c3
          have hp : v (90 * T r + 30 * C r + n) ≠ -2000 := by omega
          by_cases c4 : A r t = 2
          · rw [if_pos c4]
            obtain ⟨e1, e2⟩ := h3.set hp (x := -1000) (by decide)
            refine ⟨mk _ _ _ _ _ _ g1 g2 g3 (by omega) hs (by rw [e2]; exact h2') e1, fun _ => ?_⟩
            show 404 * pn (rset v (90 * T r + 30 * C r + n) (-1000)) + cwt ((t, k, r, n + 1) :: s) < 404 * pn v + cwt ((t, k, r, n) :: s)
            rw [wt, wt, e2]
            omega
          · rw [if_neg c4]
            have hp0 : v (90 * T r + n) ≠ -2000 := fun q => hp ((h3 (T r) n (C r) hin.1 hin.2.1 hin.2.2.1 hin.2.2.2.1 hin.2.2.2.2.1 hin.2.2.2.2.2).mpr q)
            obtain ⟨e1, e2⟩ := h3.cut (t := T r) (k := n) (by omega) hp0
            have hl : ∀ y, y ∈ (t, k, r, n + 1) :: s → CFok y := fun y hy => (List.mem_cons.mp hy).elim (fun e => by rw [e]; exact ⟨g1, g2, g3, ⟨by show 0 ≤ n + 1; omega, by show n + 1 ≤ 30; omega⟩⟩) (hs y)
            refine ⟨mk _ _ _ _ _ _ hT1 (by omega) (by omega) (by omega) hl (by rw [e2]; show ((s.length + 1 + 1 : Nat) : Int) + (pn v - 1) ≤ 90; omega) e1, fun _ => ?_⟩
            show 404 * pn (rfil v (T r) n (-2000) 3) + cwt ((T r, n, 0, 0) :: (t, k, r, n + 1) :: s) < 404 * pn v + cwt ((t, k, r, n) :: s)
            rw [wt, wt, wt, e2]
            omega
        · rw [if_neg c3]
          refine ⟨mk _ _ _ _ _ _ g1 g2 g3 (by omega) hs h2' h3, fun _ => ?_⟩
          show 404 * pn v + cwt ((t, k, r, n + 1) :: s) < 404 * pn v + cwt ((t, k, r, n) :: s)
          rw [wt, wt]
          omega
def cit (A : Int → Int → Int) (T C : Int → Int) : Nat → CSt → CSt
  | 0, S => S
  | n + 1, S => cit A T C n (cst A T C S)
theorem cst_e {A : Int → Int → Int} {T C : Int → Int} {S : CSt} (h : S.1 = []) : cst A T C S = S := by
  obtain ⟨s, v⟩ := S
  have h' : s = [] := h
  subst h'
  rfl
theorem cit_e {A : Int → Int → Int} {T C : Int → Int} (n : Nat) {S : CSt} (h : S.1 = []) : cit A T C n S = S := by
  induction n with
  | zero => rfl
  | succ n ih => show cit A T C n (cst A T C S) = S; rw [cst_e h, ih]
theorem cit_end {A : Int → Int → Int} {T C : Int → Int} (hT : CTo A T C) (n : Nat) {S : CSt} (h : CIv S) (hn : cmu S ≤ n) : (cit A T C n S).1 = [] := by
  induction n generalizing S with
  | zero =>
    apply Classical.byContradiction
    intro q
    have h1 := (cst_iv hT h).2 q
    have h2 := cmu_b (cst_iv hT h).1
    omega
  | succ n ih =>
    by_cases q : S.1 = []
    · rw [cit_e _ q]; exact q
    · have h1 := (cst_iv hT h).2 q
      exact ih (cst_iv hT h).1 (by omega)
theorem cit_add {A : Int → Int → Int} {T C : Int → Int} (m n : Nat) (S : CSt) : cit A T C (m + n) S = cit A T C n (cit A T C m S) := by
  induction m generalizing S with
  | zero => rw [Nat.zero_add]; rfl
  | succ m ih => rw [Nat.succ_add]; exact ih (cst A T C S)
theorem cfin_ex : ∃ g : (Int → Int → Int) → (Int → Int) → (Int → Int) → CSt → (Int → Int), ∀ A T C S, g A T C S = (cit A T C (cmu S).toNat S).2 := ⟨fun A T C S => (cit A T C (cmu S).toNat S).2, fun _ _ _ _ => rfl⟩
/-- the rows at the end -/
noncomputable def cfin (A : Int → Int → Int) (T C : Int → Int) (S : CSt) : Int → Int := Classical.choose cfin_ex A T C S
theorem cfin_eq (A : Int → Int → Int) (T C : Int → Int) (S : CSt) : cfin A T C S = (cit A T C (cmu S).toNat S).2 := Classical.choose_spec cfin_ex A T C S
theorem cit_fin {A : Int → Int → Int} {T C : Int → Int} (hT : CTo A T C) (n : Nat) {S : CSt} (h : CIv S) (hn : cmu S ≤ n) : (cit A T C n S).2 = cfin A T C S := by
  have hb := cmu_b h
  rw [cfin_eq]
  have e : n = (cmu S).toNat + (n - (cmu S).toNat) := by omega
  rw [e, cit_add, cit_e _ (cit_end hT _ h (by omega))]
theorem cfin_s {A : Int → Int → Int} {T C : Int → Int} (hT : CTo A T C) {S : CSt} (h : CIv S) : cfin A T C (cst A T C S) = cfin A T C S := by
  by_cases q : S.1 = []
  · rw [cst_e q]
  · have h1 := (cst_iv hT h).2 q
    have h2 := cmu_b (cst_iv hT h).1
    rw [← cit_fin hT ((cmu S).toNat - 1) (cst_iv hT h).1 (by omega), cfin_eq]
    generalize hm : (cmu S).toNat = m at *
    cases m with
    | zero => omega
    | succ j => rfl
theorem cfin_e (A : Int → Int → Int) (T C : Int → Int) (v : Int → Int) : cfin A T C ([], v) = v := by
  rw [cfin_eq, cit_e _ rfl]
/-- each cell of a column that is w becomes i: those of the first n keys -/
def repl (v : Int → Int) (t c w i n : Int) : Int → Int := fun z => if 0 ≤ z - (90 * t + 30 * c) ∧ z - (90 * t + 30 * c) < n ∧ v z = w then i else v z
theorem repl_0 (v : Int → Int) (t c w i : Int) : repl v t c w i 0 = v := by
  funext z
  unfold repl
  rw [if_neg (by omega)]
theorem repl_at {v : Int → Int} {t c w i n m : Int} (h : n ≤ m) : repl v t c w i n (90 * t + 30 * c + m) = v (90 * t + 30 * c + m) := by
  unfold repl
  rw [if_neg (by omega)]
theorem repl_1 {v : Int → Int} {t c w i n : Int} (h : 0 ≤ n) (e : v (90 * t + 30 * c + n) = w) : rset (repl v t c w i n) (90 * t + 30 * c + n) i = repl v t c w i (n + 1) := by
  funext z
  unfold rset repl
  by_cases q : z = 90 * t + 30 * c + n
  · rw [if_pos q, if_pos ⟨by omega, by omega, by rw [q]; exact e⟩]
  · rw [if_neg q]
    by_cases g : 0 ≤ z - (90 * t + 30 * c) ∧ z - (90 * t + 30 * c) < n ∧ v z = w
    · rw [if_pos g, if_pos ⟨g.1, by omega, g.2.2⟩]
    · rw [if_neg g, if_neg (fun x => g ⟨x.1, by omega, x.2.2⟩)]
theorem repl_2 {v : Int → Int} {t c w i n : Int} (e : v (90 * t + 30 * c + n) ≠ w) : repl v t c w i (n + 1) = repl v t c w i n := by
  funext z
  unfold repl
  by_cases g : 0 ≤ z - (90 * t + 30 * c) ∧ z - (90 * t + 30 * c) < n ∧ v z = w
  · rw [if_pos g, if_pos ⟨g.1, by omega, g.2.2⟩]
  · rw [if_neg g, if_neg (fun x => ?_)]
    have q : z ≠ 90 * t + 30 * c + n := fun y => e (by rw [← y]; exact x.2.2)
    exact g ⟨x.1, by omega, x.2.2⟩
section CMC
variable {A : Int → Int → Int} {T C : Int → Int} {t k r : Int} {s : List CFr} {v : Int → Int}
/-- all that a rule with clear does -/
theorem cm_clr (hT : CTo A T C) (hr : r ≠ 12) (ha : A r t = 2) (h : CIv ((t, k, r, 0) :: s, v)) : CIv ((t, k, r + 1, 0) :: s, repl v (T r) (C r) k (-1000) 30) ∧ cfin A T C ((t, k, r + 1, 0) :: s, repl v (T r) (C r) k (-1000) 30) = cfin A T C ((t, k, r, 0) :: s, v) ∧ pn (repl v (T r) (C r) k (-1000) 30) = pn v := by
  obtain ⟨hT1, hC1⟩ := hT r t (by omega)
  have key : ∀ n : Nat, n ≤ 30 → CIv ((t, k, r, (n : Int)) :: s, repl v (T r) (C r) k (-1000) n) ∧ cfin A T C ((t, k, r, (n : Int)) :: s, repl v (T r) (C r) k (-1000) n) = cfin A T C ((t, k, r, 0) :: s, v) ∧ pn (repl v (T r) (C r) k (-1000) n) = pn v := by
    intro n
    induction n with
    | zero => intro _; rw [show ((0 : Nat) : Int) = 0 from rfl, repl_0]; exact ⟨h, rfl, rfl⟩
    | succ n ih =>
      intro hn
      obtain ⟨i1, i2, i3⟩ := ih (by omega)
      have hin : 0 ≤ T r ∧ T r < 3 ∧ 0 ≤ (n : Int) ∧ (n : Int) < 30 ∧ 0 ≤ C r ∧ C r < 3 := by omega
      have ec : cel (repl v (T r) (C r) k (-1000) n) (T r) n (C r) = v (90 * T r + 30 * C r + n) := by rw [cel_in hin, repl_at (Int.le_refl _)]
      have e1 : ((n + 1 : Nat) : Int) = (n : Int) + 1 := by omega
      have es : cst A T C ((t, k, r, (n : Int)) :: s, repl v (T r) (C r) k (-1000) n) = ((t, k, r, (n : Int) + 1) :: s, repl v (T r) (C r) k (-1000) ((n : Int) + 1)) ∧ pn (repl v (T r) (C r) k (-1000) ((n : Int) + 1)) = pn (repl v (T r) (C r) k (-1000) n) := by
        by_cases q : v (90 * T r + 30 * C r + n) = k
        · have kk := (i1.1 (t, k, r, (n : Int)) List.mem_cons_self).2.1
          have hp : repl v (T r) (C r) k (-1000) n (90 * T r + 30 * C r + n) ≠ -2000 := by
            rw [repl_at (Int.le_refl _), q]
            have : 0 ≤ k := kk.1
            omega
          refine ⟨by rw [cst_cl hr (by omega) ha (ec.trans q), repl_1 (by omega) q], ?_⟩
          rw [← repl_1 (by omega) q]
          exact (i1.2.2.set hp (x := -1000) (by decide)).2
        · exact ⟨by rw [cst_sk hr (by omega) (by omega) (fun x => q (ec.symm.trans x)), repl_2 q], by rw [repl_2 q]⟩
      have j1 := (cst_iv hT i1).1
      have j2 := cfin_s hT i1
      rw [es.1] at j1 j2
      rw [e1]
      exact ⟨j1, j2.trans i2, es.2.trans i3⟩
  obtain ⟨i1, i2, i3⟩ := key 30 (Nat.le_refl _)
  have e30 : ((30 : Nat) : Int) = 30 := rfl
  rw [e30] at i1 i2 i3
  have es : cst A T C ((t, k, r, (30 : Int)) :: s, repl v (T r) (C r) k (-1000) 30) = ((t, k, r + 1, 0) :: s, repl v (T r) (C r) k (-1000) 30) := cst_nx hr (Or.inl rfl)
  have j1 := (cst_iv hT i1).1
  have j2 := cfin_s hT i1
  rw [es] at j1 j2
  exact ⟨j1, j2.trans i2, i3⟩
/-- keys that are passed over -/
theorem cm_sk (hT : CTo A T C) (hr : r ≠ 12) (ha : 0 < A r t) {n m : Int} (h : CIv ((t, k, r, n) :: s, v)) (hm : n ≤ m ∧ m ≤ 30) (hk : ∀ j : Int, n ≤ j → j < m → cel v (T r) j (C r) ≠ k) : CIv ((t, k, r, m) :: s, v) ∧ cfin A T C ((t, k, r, m) :: s, v) = cfin A T C ((t, k, r, n) :: s, v) := by
  have key : ∀ d : Nat, n + d ≤ m → CIv ((t, k, r, n + d) :: s, v) ∧ cfin A T C ((t, k, r, n + d) :: s, v) = cfin A T C ((t, k, r, n) :: s, v) := by
    intro d
    induction d with
    | zero => intro _; rw [show n + ((0 : Nat) : Int) = n from by omega]; exact ⟨h, rfl⟩
    | succ d ih =>
      intro hd
      obtain ⟨i1, i2⟩ := ih (by omega)
      have es : cst A T C ((t, k, r, n + d) :: s, v) = ((t, k, r, n + d + 1) :: s, v) := cst_sk hr (by omega) ha (hk _ (by omega) (by omega))
      have j1 := (cst_iv hT i1).1
      have j2 := cfin_s hT i1
      rw [es] at j1 j2
      rw [show n + ((d + 1 : Nat) : Int) = n + d + 1 from by omega]
      exact ⟨j1, j2.trans i2⟩
  have := key (m - n).toNat (by omega)
  rw [show n + (((m - n).toNat : Nat) : Int) = m from by omega] at this
  exact this
/-- one step, and what is kept by it -/
theorem cm_st (hT : CTo A T C) {S S2 : CSt} (h : CIv S) (e : cst A T C S = S2) : CIv S2 ∧ cfin A T C S2 = cfin A T C S := by
  subst e
  exact ⟨(cst_iv hT h).1, cfin_s hT h⟩
end CMC
/-- steps that the class may still take -/
def cnu : List CFr → Int
  | [] => 0
  | x :: s => 13 - x.2.2.1 + cnu s
theorem cnu_b {s : List CFr} (h : ∀ x, x ∈ s → CFok x) : 0 ≤ cnu s ∧ (s ≠ [] → 1 ≤ cnu s) := by
  induction s with
  | nil => exact ⟨Int.le_refl _, fun q => absurd rfl q⟩
  | cons x s ih =>
    have h1 := h x List.mem_cons_self
    have h2 := ih (fun y hy => h y (List.mem_cons_of_mem _ hy))
    unfold CFok at h1
    unfold cnu
    exact ⟨by omega, fun _ => by omega⟩
/-! the rules that rows follow, and the stack, as the reference has them -/
def refA (f : Nat → Int32) (r t : Int) : Int := if 0 ≤ r ∧ r < 12 ∧ aI f (10 * r + 0) = 1 ∧ aI f (10 * r + 3) = t then aI f (10 * r + 8) else 0
def refT (f : Nat → Int32) (r : Int) : Int := if 0 ≤ r ∧ r < 12 ∧ aI f (10 * r + 0) = 1 then aI f (10 * r + 1) else 0
def refC (f : Nat → Int32) (r : Int) : Int := if 0 ≤ r ∧ r < 12 ∧ aI f (10 * r + 0) = 1 then aI f (10 * r + 2) else 0
theorem refA_f {f : Nat → Int32} {r t : Int} : ((0 ≤ r ∧ r < 12 ∧ aI f (10 * r + 0) = 1 ∧ aI f (10 * r + 3) = t) ∧ refA f r t = aI f (10 * r + 8)) ∨ (¬ (0 ≤ r ∧ r < 12 ∧ aI f (10 * r + 0) = 1 ∧ aI f (10 * r + 3) = t) ∧ refA f r t = 0) := by
  unfold refA
  split
  · exact Or.inl ⟨by assumption, rfl⟩
  · exact Or.inr ⟨by assumption, rfl⟩
theorem refT_f {f : Nat → Int32} {r t : Int} (h : 0 < refA f r t) : (0 ≤ r ∧ r < 12) ∧ refT f r = aI f (10 * r + 1) ∧ refC f r = aI f (10 * r + 2) ∧ refA f r t = aI f (10 * r + 8) := by
  rcases refA_f (f := f) (r := r) (t := t) with ⟨e, q⟩ | ⟨e, q⟩
  · have g : 0 ≤ r ∧ r < 12 ∧ aI f (10 * r + 0) = 1 := ⟨e.1, e.2.1, e.2.2.1⟩
    exact ⟨⟨e.1, e.2.1⟩, if_pos g, if_pos g, q⟩
  · omega
theorem refTo {f : Nat → Int32} (h : RV f) : CTo (refA f) (refT f) (refC f) := by
  intro r t ha
  obtain ⟨h1, h2, h3, -⟩ := refT_f ha
  have h4 := h r h1.1 (by omega)
  unfold RVr at h4
  rw [h2, h3]
  exact ⟨by omega, by omega⟩
def gst (a b c d : Nat → Int32) : Nat → List CFr
  | 0 => []
  | n + 1 => ((a n).toInt, (b n).toInt, (c n).toInt, (d n).toInt) :: gst a b c d n
theorem gst_len (a b c d : Nat → Int32) (n : Nat) : (gst a b c d n).length = n := by
  induction n with
  | zero => rfl
  | succ n ih => show (gst a b c d n).length + 1 = n + 1; rw [ih]
theorem gst_p {a b c d : Nat → Int32} {n : Int} (h : 0 < n) : gst a b c d n.toNat = (aI a (n - 1), aI b (n - 1), aI c (n - 1), aI d (n - 1)) :: gst a b c d (n - 1).toNat := by
  have e : n.toNat = (n - 1).toNat + 1 := by omega
  rw [e]
  rfl
theorem gst_cg {a b c d a2 b2 c2 d2 : Nat → Int32} {n : Nat} (h : ∀ z : Int, 0 ≤ z → z < n → aI a2 z = aI a z ∧ aI b2 z = aI b z ∧ aI c2 z = aI c z ∧ aI d2 z = aI d z) : gst a2 b2 c2 d2 n = gst a b c d n := by
  induction n with
  | zero => rfl
  | succ n ih =>
    obtain ⟨h1, h2, h3, h4⟩ := h (n : Int) (by omega) (by omega)
    show (aI a2 n, aI b2 n, aI c2 n, aI d2 n) :: gst a2 b2 c2 d2 n = (aI a n, aI b n, aI c n, aI d n) :: gst a b c d n
    rw [h1, h2, h3, h4, ih (fun z z0 z1 => h z z0 (by omega))]
/-- the topmost has another rule, or another next key -/
theorem gst_u {a b c d c2 d2 : Nat → Int32} {n X Y : Int} (h : 0 < n) (hc : ∀ z : Int, 0 ≤ z → aI c2 z = if z = n - 1 then X else aI c z) (hd : ∀ z : Int, 0 ≤ z → aI d2 z = if z = n - 1 then Y else aI d z) : gst a b c2 d2 n.toNat = (aI a (n - 1), aI b (n - 1), X, Y) :: gst a b c d (n - 1).toNat := by
  rw [gst_p h, hc _ (by omega), if_pos rfl, hd _ (by omega), if_pos rfl, gst_cg (a := a) (b := b) (c := c) (d := d)]
  intro z z0 z1
  rw [hc z z0, hd z z0, if_neg (by omega), if_neg (by omega)]
  exact ⟨rfl, rfl, rfl, rfl⟩
theorem gst_n {a b c d d2 : Nat → Int32} {n Y : Int} (h : 0 < n) (hd : ∀ z : Int, 0 ≤ z → aI d2 z = if z = n - 1 then Y else aI d z) : gst a b c d2 n.toNat = (aI a (n - 1), aI b (n - 1), aI c (n - 1), Y) :: gst a b c d (n - 1).toNat := by
  rw [gst_p h, hd _ (by omega), if_pos rfl, gst_cg (a := a) (b := b) (c := c) (d := d)]
  intro z z0 z1
  rw [hd z z0, if_neg (by omega)]
  exact ⟨rfl, rfl, rfl, rfl⟩
/-- one more on the stack -/
theorem gst_g {a b c d a2 b2 c2 d2 : Nat → Int32} {n X1 X2 X3 X4 : Int} (h : 0 ≤ n) (h1 : ∀ z : Int, 0 ≤ z → aI a2 z = if z = n then X1 else aI a z) (h2 : ∀ z : Int, 0 ≤ z → aI b2 z = if z = n then X2 else aI b z) (h3 : ∀ z : Int, 0 ≤ z → aI c2 z = if z = n then X3 else aI c z) (h4 : ∀ z : Int, 0 ≤ z → aI d2 z = if z = n then X4 else aI d z) : gst a2 b2 c2 d2 (n + 1).toNat = (X1, X2, X3, X4) :: gst a b c d n.toNat := by
  rw [gst_p (by omega), show n + 1 - 1 = n from by omega, h1 n h, h2 n h, h3 n h, h4 n h, if_pos rfl, if_pos rfl, if_pos rfl, if_pos rfl, gst_cg (a := a) (b := b) (c := c) (d := d)]
  intro z z0 z1
  rw [h1 z z0, h2 z z0, h3 z z0, h4 z z0, if_neg (by omega), if_neg (by omega), if_neg (by omega), if_neg (by omega)]
  exact ⟨rfl, rfl, rfl, rfl⟩
theorem gst_top {a b c d : Nat → Int32} {n : Int} {v : Int → Int} (h : 0 < n) (hi : CIv (gst a b c d n.toNat, v)) : ((0 ≤ aI a (n - 1) ∧ aI a (n - 1) < 3) ∧ (0 ≤ aI b (n - 1) ∧ aI b (n - 1) < 30) ∧ (0 ≤ aI c (n - 1) ∧ aI c (n - 1) ≤ 12) ∧ (0 ≤ aI d (n - 1) ∧ aI d (n - 1) ≤ 30)) ∧ n + pn v ≤ 90 := by
  have h1 := hi.1 (aI a (n - 1), aI b (n - 1), aI c (n - 1), aI d (n - 1)) (by show _ ∈ gst a b c d n.toNat; rw [gst_p h]; exact List.mem_cons_self)
  have h2 : ((gst a b c d n.toNat).length : Int) + pn v ≤ 90 := hi.2.1
  rw [gst_len] at h2
  exact ⟨h1, by omega⟩
theorem RM.rc {f : Nat → Int32} {b : Int} (h : RM f b) : RC (mw f b) := by
  intro t k c a1 a2 a3 a4 a5 a6
  have h1 := h.absent t k c ⟨a5, a6⟩
  rw [cel_in ⟨a1, a2, a3, a4, a5, a6⟩, cel_in ⟨a1, a2, a3, a4, by decide, by decide⟩, Int.mul_zero, Int.add_zero] at h1
  exact h1
/-- there is a row less than there could be -/
theorem civ_0 {v : Int → Int} (h : RC v) {t k : Int} (h0 : 0 ≤ t ∧ t < 3 ∧ 0 ≤ k ∧ k < 30) (hp : cel v t k 0 ≠ -2000) : CIv ([(t, k, 0, 0)], rfil v t k (-2000) 3) ∧ pn (rfil v t k (-2000) 3) ≤ 89 := by
  rw [cel_in (by omega), Int.mul_zero, Int.add_zero] at hp
  obtain ⟨e1, e2⟩ := h.cut h0 hp
  have hb := pn_b v
  refine ⟨⟨fun x hx => ?_, ?_, e1⟩, by omega⟩
  · rw [List.mem_singleton.mp hx]
    exact ⟨⟨h0.1, h0.2.1⟩, ⟨h0.2.2.1, h0.2.2.2⟩, ⟨show (0 : Int) ≤ 0 from by decide, show (0 : Int) ≤ 12 from by decide⟩, ⟨show (0 : Int) ≤ 0 from by decide, show (0 : Int) ≤ 30 from by decide⟩⟩
  · show ((1 : Nat) : Int) + pn (rfil v t k (-2000) 3) ≤ 90
    omega
theorem cst_dn {A : Int → Int → Int} {T C : Int → Int} (hT : CTo A T C) {S S2 : CSt} {x : CFr} {s : List CFr} (h : CIv S) (e : cst A T C S = S2) (hs : S.1 = x :: s) : cmu S2 < cmu S := by
  subst e
  exact (cst_iv hT h).2 (by rw [hs]; exact List.cons_ne_nil _ _)
theorem pn_pos {v : Int → Int} {t k c : Int} (h : RC v) (hc : cel v t k c ≠ -2000) : 1 ≤ pn v := by
  by_cases g : 0 ≤ t ∧ t < 3 ∧ 0 ≤ k ∧ k < 30 ∧ 0 ≤ c ∧ c < 3
  · rw [cel_in g] at hc
    have e := (h.cut (t := t) (k := k) ⟨g.1, g.2.1, g.2.2.1, g.2.2.2.1⟩ (fun q => hc ((h t k c g.1 g.2.1 g.2.2.1 g.2.2.2.1 g.2.2.2.2.1 g.2.2.2.2.2).mpr q))).2
    have b := pn_b (rfil v t k (-2000) 3)
    omega
  · exact absurd (cel_out g) hc
end
theorem v_X11_put_51_1 {F : Nat → Nat → Nat} (x10 : Int32) (p0 : Int32) (G48 : XG) (a : Nat) (G : XG) (p1 : Int32) (p2 : Int32) (p3 : Int32) (p4 : Int32)
    (t10 : (x10.toInt = 1 ∧ 0 ≤ p0.toInt ∧ p0.toInt ≤ 2) ∨ (x10.toInt = 0 ∧ (p0.toInt < 0 ∨ 2 < p0.toInt)))
    (c13 : x10.toInt = 0)
    (c_G48_F_a_1 : G48.2.1 (F a 1) = G.2.1 (F a 1)) :
    (¬ ((0 ≤ p0.toInt ∧ p0.toInt < 3) ∧ (0 ≤ p1.toInt ∧ p1.toInt < 30) ∧ (p2.toInt = -1000 ∨ (-99 ≤ p2.toInt ∧ p2.toInt ≤ 99)) ∧ (p3.toInt = -1000 ∨ (-99 ≤ p3.toInt ∧ p3.toInt ≤ 99)) ∧ (p4.toInt = -1000 ∨ (-99 ≤ p4.toInt ∧ p4.toInt ≤ 99))) ∧ (-1 : Int) = -1 ∧ mw (G48.2.1 (F a 1)) 0 = (mw (G.2.1 (F a 1)) 0)) ∨ (((0 ≤ p0.toInt ∧ p0.toInt < 3) ∧ (0 ≤ p1.toInt ∧ p1.toInt < 30) ∧ (p2.toInt = -1000 ∨ (-99 ≤ p2.toInt ∧ p2.toInt ≤ 99)) ∧ (p3.toInt = -1000 ∨ (-99 ≤ p3.toInt ∧ p3.toInt ≤ 99)) ∧ (p4.toInt = -1000 ∨ (-99 ≤ p4.toInt ∧ p4.toInt ≤ 99))) ∧ cel (mw (G.2.1 (F a 1)) 0) p0.toInt p1.toInt 0 ≠ -2000 ∧ (-1 : Int) = -4 ∧ mw (G48.2.1 (F a 1)) 0 = (mw (G.2.1 (F a 1)) 0)) ∨ (((0 ≤ p0.toInt ∧ p0.toInt < 3) ∧ (0 ≤ p1.toInt ∧ p1.toInt < 30) ∧ (p2.toInt = -1000 ∨ (-99 ≤ p2.toInt ∧ p2.toInt ≤ 99)) ∧ (p3.toInt = -1000 ∨ (-99 ≤ p3.toInt ∧ p3.toInt ≤ 99)) ∧ (p4.toInt = -1000 ∨ (-99 ≤ p4.toInt ∧ p4.toInt ≤ 99))) ∧ cel (mw (G.2.1 (F a 1)) 0) p0.toInt p1.toInt 0 = -2000 ∧ StR ((G.1 a 6).toInt) (-1 : Int) (G.2.1 (F a 10)) (mw (G.2.1 (F a 1)) 0) (rput3 (mw (G.2.1 (F a 1)) 0) p0.toInt p1.toInt p2.toInt p3.toInt p4.toInt) (mw (G48.2.1 (F a 1)) 0)) := by
  refine Or.inl ⟨fun h => ?_, rfl, by rw [c_G48_F_a_1]⟩
  obtain ⟨h1, h2, h3, h4, h5⟩ := h
  have hk := h1
  clear h1 h2 h3 h4 h5
  omega
theorem v_X11_put_51_2 {F : Nat → Nat → Nat} (a : Nat) (G : XG) (G48 : XG)
    (hM : RM (G.2.1 (F a 1)) (0))
    (c_G48_F_a_1 : G48.2.1 (F a 1) = G.2.1 (F a 1)) :
    RM (G48.2.1 (F a 1)) 0 := by
  rw [c_G48_F_a_1]; exact hM
theorem v_X11_put_51_3 {F : Nat → Nat → Nat} (x17 : Int32) (p1 : Int32) (G48 : XG) (a : Nat) (G : XG) (p0 : Int32) (p2 : Int32) (p3 : Int32) (p4 : Int32)
    (t17 : (x17.toInt = 1 ∧ 0 ≤ p1.toInt ∧ p1.toInt ≤ 29) ∨ (x17.toInt = 0 ∧ (p1.toInt < 0 ∨ 29 < p1.toInt)))
    (c20 : x17.toInt = 0)
    (c_G48_F_a_1 : G48.2.1 (F a 1) = G.2.1 (F a 1)) :
    (¬ ((0 ≤ p0.toInt ∧ p0.toInt < 3) ∧ (0 ≤ p1.toInt ∧ p1.toInt < 30) ∧ (p2.toInt = -1000 ∨ (-99 ≤ p2.toInt ∧ p2.toInt ≤ 99)) ∧ (p3.toInt = -1000 ∨ (-99 ≤ p3.toInt ∧ p3.toInt ≤ 99)) ∧ (p4.toInt = -1000 ∨ (-99 ≤ p4.toInt ∧ p4.toInt ≤ 99))) ∧ (-1 : Int) = -1 ∧ mw (G48.2.1 (F a 1)) 0 = (mw (G.2.1 (F a 1)) 0)) ∨ (((0 ≤ p0.toInt ∧ p0.toInt < 3) ∧ (0 ≤ p1.toInt ∧ p1.toInt < 30) ∧ (p2.toInt = -1000 ∨ (-99 ≤ p2.toInt ∧ p2.toInt ≤ 99)) ∧ (p3.toInt = -1000 ∨ (-99 ≤ p3.toInt ∧ p3.toInt ≤ 99)) ∧ (p4.toInt = -1000 ∨ (-99 ≤ p4.toInt ∧ p4.toInt ≤ 99))) ∧ cel (mw (G.2.1 (F a 1)) 0) p0.toInt p1.toInt 0 ≠ -2000 ∧ (-1 : Int) = -4 ∧ mw (G48.2.1 (F a 1)) 0 = (mw (G.2.1 (F a 1)) 0)) ∨ (((0 ≤ p0.toInt ∧ p0.toInt < 3) ∧ (0 ≤ p1.toInt ∧ p1.toInt < 30) ∧ (p2.toInt = -1000 ∨ (-99 ≤ p2.toInt ∧ p2.toInt ≤ 99)) ∧ (p3.toInt = -1000 ∨ (-99 ≤ p3.toInt ∧ p3.toInt ≤ 99)) ∧ (p4.toInt = -1000 ∨ (-99 ≤ p4.toInt ∧ p4.toInt ≤ 99))) ∧ cel (mw (G.2.1 (F a 1)) 0) p0.toInt p1.toInt 0 = -2000 ∧ StR ((G.1 a 6).toInt) (-1 : Int) (G.2.1 (F a 10)) (mw (G.2.1 (F a 1)) 0) (rput3 (mw (G.2.1 (F a 1)) 0) p0.toInt p1.toInt p2.toInt p3.toInt p4.toInt) (mw (G48.2.1 (F a 1)) 0)) := by
  refine Or.inl ⟨fun h => ?_, rfl, by rw [c_G48_F_a_1]⟩
  obtain ⟨h1, h2, h3, h4, h5⟩ := h
  have hk := h2
  clear h1 h2 h3 h4 h5
  omega
theorem v_X11_put_51_4 {F : Nat → Nat → Nat} (a : Nat) (G : XG) (G48 : XG)
    (hM : RM (G.2.1 (F a 1)) (0))
    (c_G48_F_a_1 : G48.2.1 (F a 1) = G.2.1 (F a 1)) :
    RM (G48.2.1 (F a 1)) 0 := by
  rw [c_G48_F_a_1]; exact hM
theorem v_X11_put_51_5 {F : Nat → Nat → Nat} (x24 : Int32) (p2 : Int32) (G48 : XG) (a : Nat) (G : XG) (p0 : Int32) (p1 : Int32) (p3 : Int32) (p4 : Int32)
    (t24 : (x24.toInt = 1 ∧ (p2.toInt = -1000 ∨ (-99 ≤ p2.toInt ∧ p2.toInt < 100))) ∨ (x24.toInt = 0 ∧ p2.toInt ≠ -1000 ∧ (p2.toInt < -99 ∨ 100 ≤ p2.toInt)))
    (c27 : x24.toInt = 0)
    (c_G48_F_a_1 : G48.2.1 (F a 1) = G.2.1 (F a 1)) :
    (¬ ((0 ≤ p0.toInt ∧ p0.toInt < 3) ∧ (0 ≤ p1.toInt ∧ p1.toInt < 30) ∧ (p2.toInt = -1000 ∨ (-99 ≤ p2.toInt ∧ p2.toInt ≤ 99)) ∧ (p3.toInt = -1000 ∨ (-99 ≤ p3.toInt ∧ p3.toInt ≤ 99)) ∧ (p4.toInt = -1000 ∨ (-99 ≤ p4.toInt ∧ p4.toInt ≤ 99))) ∧ (-1 : Int) = -1 ∧ mw (G48.2.1 (F a 1)) 0 = (mw (G.2.1 (F a 1)) 0)) ∨ (((0 ≤ p0.toInt ∧ p0.toInt < 3) ∧ (0 ≤ p1.toInt ∧ p1.toInt < 30) ∧ (p2.toInt = -1000 ∨ (-99 ≤ p2.toInt ∧ p2.toInt ≤ 99)) ∧ (p3.toInt = -1000 ∨ (-99 ≤ p3.toInt ∧ p3.toInt ≤ 99)) ∧ (p4.toInt = -1000 ∨ (-99 ≤ p4.toInt ∧ p4.toInt ≤ 99))) ∧ cel (mw (G.2.1 (F a 1)) 0) p0.toInt p1.toInt 0 ≠ -2000 ∧ (-1 : Int) = -4 ∧ mw (G48.2.1 (F a 1)) 0 = (mw (G.2.1 (F a 1)) 0)) ∨ (((0 ≤ p0.toInt ∧ p0.toInt < 3) ∧ (0 ≤ p1.toInt ∧ p1.toInt < 30) ∧ (p2.toInt = -1000 ∨ (-99 ≤ p2.toInt ∧ p2.toInt ≤ 99)) ∧ (p3.toInt = -1000 ∨ (-99 ≤ p3.toInt ∧ p3.toInt ≤ 99)) ∧ (p4.toInt = -1000 ∨ (-99 ≤ p4.toInt ∧ p4.toInt ≤ 99))) ∧ cel (mw (G.2.1 (F a 1)) 0) p0.toInt p1.toInt 0 = -2000 ∧ StR ((G.1 a 6).toInt) (-1 : Int) (G.2.1 (F a 10)) (mw (G.2.1 (F a 1)) 0) (rput3 (mw (G.2.1 (F a 1)) 0) p0.toInt p1.toInt p2.toInt p3.toInt p4.toInt) (mw (G48.2.1 (F a 1)) 0)) := by
  refine Or.inl ⟨fun h => ?_, rfl, by rw [c_G48_F_a_1]⟩
  obtain ⟨h1, h2, h3, h4, h5⟩ := h
  have hk := h3
  clear h1 h2 h3 h4 h5
  omega
theorem v_X11_put_51_6 {F : Nat → Nat → Nat} (a : Nat) (G : XG) (G48 : XG)
    (hM : RM (G.2.1 (F a 1)) (0))
    (c_G48_F_a_1 : G48.2.1 (F a 1) = G.2.1 (F a 1)) :
    RM (G48.2.1 (F a 1)) 0 := by
  rw [c_G48_F_a_1]; exact hM
theorem v_X11_put_51_7 {F : Nat → Nat → Nat} (x32 : Int32) (p3 : Int32) (G48 : XG) (a : Nat) (G : XG) (p0 : Int32) (p1 : Int32) (p2 : Int32) (p4 : Int32)
    (t32 : (x32.toInt = 1 ∧ (p3.toInt = -1000 ∨ (-99 ≤ p3.toInt ∧ p3.toInt < 100))) ∨ (x32.toInt = 0 ∧ p3.toInt ≠ -1000 ∧ (p3.toInt < -99 ∨ 100 ≤ p3.toInt)))
    (c35 : x32.toInt = 0)
    (c_G48_F_a_1 : G48.2.1 (F a 1) = G.2.1 (F a 1)) :
    (¬ ((0 ≤ p0.toInt ∧ p0.toInt < 3) ∧ (0 ≤ p1.toInt ∧ p1.toInt < 30) ∧ (p2.toInt = -1000 ∨ (-99 ≤ p2.toInt ∧ p2.toInt ≤ 99)) ∧ (p3.toInt = -1000 ∨ (-99 ≤ p3.toInt ∧ p3.toInt ≤ 99)) ∧ (p4.toInt = -1000 ∨ (-99 ≤ p4.toInt ∧ p4.toInt ≤ 99))) ∧ (-1 : Int) = -1 ∧ mw (G48.2.1 (F a 1)) 0 = (mw (G.2.1 (F a 1)) 0)) ∨ (((0 ≤ p0.toInt ∧ p0.toInt < 3) ∧ (0 ≤ p1.toInt ∧ p1.toInt < 30) ∧ (p2.toInt = -1000 ∨ (-99 ≤ p2.toInt ∧ p2.toInt ≤ 99)) ∧ (p3.toInt = -1000 ∨ (-99 ≤ p3.toInt ∧ p3.toInt ≤ 99)) ∧ (p4.toInt = -1000 ∨ (-99 ≤ p4.toInt ∧ p4.toInt ≤ 99))) ∧ cel (mw (G.2.1 (F a 1)) 0) p0.toInt p1.toInt 0 ≠ -2000 ∧ (-1 : Int) = -4 ∧ mw (G48.2.1 (F a 1)) 0 = (mw (G.2.1 (F a 1)) 0)) ∨ (((0 ≤ p0.toInt ∧ p0.toInt < 3) ∧ (0 ≤ p1.toInt ∧ p1.toInt < 30) ∧ (p2.toInt = -1000 ∨ (-99 ≤ p2.toInt ∧ p2.toInt ≤ 99)) ∧ (p3.toInt = -1000 ∨ (-99 ≤ p3.toInt ∧ p3.toInt ≤ 99)) ∧ (p4.toInt = -1000 ∨ (-99 ≤ p4.toInt ∧ p4.toInt ≤ 99))) ∧ cel (mw (G.2.1 (F a 1)) 0) p0.toInt p1.toInt 0 = -2000 ∧ StR ((G.1 a 6).toInt) (-1 : Int) (G.2.1 (F a 10)) (mw (G.2.1 (F a 1)) 0) (rput3 (mw (G.2.1 (F a 1)) 0) p0.toInt p1.toInt p2.toInt p3.toInt p4.toInt) (mw (G48.2.1 (F a 1)) 0)) := by
  refine Or.inl ⟨fun h => ?_, rfl, by rw [c_G48_F_a_1]⟩
  obtain ⟨h1, h2, h3, h4, h5⟩ := h
  have hk := h4
  clear h1 h2 h3 h4 h5
  omega
theorem v_X11_put_51_8 {F : Nat → Nat → Nat} (a : Nat) (G : XG) (G48 : XG)
    (hM : RM (G.2.1 (F a 1)) (0))
    (c_G48_F_a_1 : G48.2.1 (F a 1) = G.2.1 (F a 1)) :
    RM (G48.2.1 (F a 1)) 0 := by
  rw [c_G48_F_a_1]; exact hM
theorem v_X11_put_55_9 {F : Nat → Nat → Nat} (a : Nat) (G : XG) (G6 : XG)
    (hM : RM (G.2.1 (F a 1)) (0))
    (hB : RM (G.2.1 (F a 2)) 0)
    (c_G6_F_a_1 : G6.2.1 (F a 1) = G.2.1 (F a 1)) :
    RM (G6.2.1 (F a 1)) 0 := by simp only [c_G6_F_a_1]; assumption
theorem v_X11_put_69_10 {F : Nat → Nat → Nat} (a : Nat) (G : XG) (G6 : XG)
    (hR : RV (G.2.1 (F a 10)))
    (c_G6_F_a_10 : G6.2.1 (F a 10) = G.2.1 (F a 10)) :
    RV (G6.2.1 (F a 10)) := by simp only [c_G6_F_a_10]; assumption
theorem v_X11_put_69_11 {F : Nat → Nat → Nat} (a : Nat) (G : XG) (G6 : XG)
    (hM : RM (G.2.1 (F a 1)) (0))
    (hB : RM (G.2.1 (F a 2)) 0)
    (c_G6_F_a_1 : G6.2.1 (F a 1) = G.2.1 (F a 1)) :
    RM (G6.2.1 (F a 1)) (0) := by simp only [c_G6_F_a_1]; assumption
theorem v_X11_put_120_12 {F : Nat → Nat → Nat} (a : Nat) (G : XG) (G118 : XG)
    (hR : RV (G.2.1 (F a 10)))
    (c_G118_F_a_10 : G118.2.1 (F a 10) = G.2.1 (F a 10)) :
    RV (G118.2.1 (F a 10)) := by simp only [c_G118_F_a_10]; assumption
theorem v_X11_put_120_13 {F : Nat → Nat → Nat} (G86 : XG) (G69 : XG) (a : Nat) (x74 : Int32) (G96 : XG) (x94 : Int32) (p2 : Int32) (G107 : XG) (x104 : Int32) (p3 : Int32) (G118 : XG) (x115 : Int32) (p4 : Int32) (G : XG) (p0 : Int32) (p1 : Int32) (x55 : Int32)
    (hG86 : G86 = cput G69 (F a 1) x74.toNatClampNeg 1)
    (hG96 : G96 = cput G86 (F a 1) x94.toNatClampNeg p2)
    (hG107 : G107 = cput G96 (F a 1) x104.toNatClampNeg p3)
    (hG118 : G118 = cput G107 (F a 1) x115.toNatClampNeg p4)
    (hM : RM (G.2.1 (F a 1)) (0))
    (z52 : 0 ≤ p0.toInt ∧ p0.toInt < 3)
    (z52a : 0 ≤ p1.toInt ∧ p1.toInt < 30)
    (z52b : p2.toInt = -1000 ∨ (-99 ≤ p2.toInt ∧ p2.toInt ≤ 99))
    (z52c : p3.toInt = -1000 ∨ (-99 ≤ p3.toInt ∧ p3.toInt ≤ 99))
    (z52d : p4.toInt = -1000 ∨ (-99 ≤ p4.toInt ∧ p4.toInt ≤ 99))
    (t55 : (x55.toInt = 1 ∧ (cel (mw (G.2.1 (F a 1)) 0) (p0.toInt) (p1.toInt) 0) ≠ -2000) ∨ (x55.toInt = 0 ∧ (cel (mw (G.2.1 (F a 1)) 0) (p0.toInt) (p1.toInt) 0) = -2000))
    (c58 : x55.toInt = 0)
    (t74 : 0 ≤ p0.toInt ∧ p0.toInt ≤ 2 ∧ 0 ≤ p1.toInt ∧ p1.toInt ≤ 29 → x74.toInt = 4 * (30 * p0.toInt + p1.toInt))
    (t94 : x94.toInt = x74.toInt + (1 : Int) ∨ x74.toInt + (1 : Int) < -2147483648 ∨ 2147483648 ≤ x74.toInt + (1 : Int))
    (t104 : x104.toInt = x74.toInt + (2 : Int) ∨ x74.toInt + (2 : Int) < -2147483648 ∨ 2147483648 ≤ x74.toInt + (2 : Int))
    (t115 : x115.toInt = x74.toInt + (3 : Int) ∨ x74.toInt + (3 : Int) < -2147483648 ∨ 2147483648 ≤ x74.toInt + (3 : Int))
    (c_G69_F_a_1 : G69.2.1 (F a 1) = G.2.1 (F a 1)) :
    RM (G118.2.1 (F a 1)) (0) := by
  have u := put4u (I := 0 + 4 * (30 * p0.toInt + p1.toInt)) (aI_pu hG86 c_G69_F_a_1 (by omega) (by decide) (by omega)) (aI_pu hG96 rfl (by omega) rfl (by omega)) (aI_pu hG107 rfl (by omega) rfl (by omega)) (aI_pu hG118 rfl (by omega) rfl (by omega))
  exact hM.put (t := p0.toInt) (k := p1.toInt) (by decide) rfl u z52b z52c z52d
theorem v_X11_put_120_14 {F : Nat → Nat → Nat} (a : Nat) (G : XG) (G69 : XG) (G118 : XG)
    (hM : RM (G.2.1 (F a 1)) (0))
    (hB : RM (G.2.1 (F a 2)) 0)
    (oq69a : RM (G69.2.1 (F a 4)) 0)
    (c_G118_F_a_4 : G118.2.1 (F a 4) = G69.2.1 (F a 4)) :
    RM (G118.2.1 (F a 4)) 0 := by simp only [c_G118_F_a_4]; assumption
theorem v_X11_put_120_15 {F : Nat → Nat → Nat} (a : Nat) (G : XG) (G69 : XG) (G118 : XG)
    (hM : RM (G.2.1 (F a 1)) (0))
    (hB : RM (G.2.1 (F a 2)) 0)
    (oq69a : RM (G69.2.1 (F a 4)) 0)
    (c_G118_F_a_2 : G118.2.1 (F a 2) = G.2.1 (F a 2)) :
    RM (G118.2.1 (F a 2)) 0 := by simp only [c_G118_F_a_2]; assumption
theorem v_X11_put_120_16 {F : Nat → Nat → Nat} (a : Nat) (G : XG) (G69 : XG) (G118 : XG)
    (oq69b : LSt (G.2.1 (F a 10)) (G69.2.1 (F a 12)) (mw (G.2.1 (F a 1)) 0) 12)
    (c_G118_F_a_10 : G118.2.1 (F a 10) = G.2.1 (F a 10))
    (c_G118_F_a_12 : G118.2.1 (F a 12) = G69.2.1 (F a 12)) :
    LSt (G118.2.1 (F a 10)) (G118.2.1 (F a 12)) (mw (G.2.1 (F a 1)) 0) 12 := by
  rw [c_G118_F_a_10, c_G118_F_a_12]; exact oq69b
theorem v_X11_put_123_17 {F : Nat → Nat → Nat} (G86 : XG) (G69 : XG) (a : Nat) (x74 : Int32) (G96 : XG) (x94 : Int32) (p2 : Int32) (G107 : XG) (x104 : Int32) (p3 : Int32) (G118 : XG) (x115 : Int32) (p4 : Int32) (G : XG) (x120 : Int32) (G120 : XG) (p0 : Int32) (p1 : Int32) (x55 : Int32)
    (hG86 : G86 = cput G69 (F a 1) x74.toNatClampNeg 1)
    (hG96 : G96 = cput G86 (F a 1) x94.toNatClampNeg p2)
    (hG107 : G107 = cput G96 (F a 1) x104.toNatClampNeg p3)
    (hG118 : G118 = cput G107 (F a 1) x115.toNatClampNeg p4)
    (oq69 : mw (G69.2.1 (F a 4)) 0 = mw (G.2.1 (F a 1)) 0)
    (oq120 : ((ffP (G.2.1 (F a 10)) (mw (G118.2.1 (F a 1)) 0) (fuO (G.2.1 (F a 10)) (mw (G.2.1 (F a 1)) 0) (mw (G118.2.1 (F a 1)) 0) 0) ≠ -1 ∨ (((G.1 a 6).toInt) = 0 ∧ ffP (G.2.1 (F a 10)) (mw (G118.2.1 (F a 1)) 0) (fuO (G.2.1 (F a 10)) (mw (G.2.1 (F a 1)) 0) (mw (G118.2.1 (F a 1)) 0) 1) ≠ -1)) ∧ x120.toInt = -5 ∧ mw (G120.2.1 (F a 1)) 0 = mw (G69.2.1 (F a 4)) 0) ∨ (ffP (G.2.1 (F a 10)) (mw (G118.2.1 (F a 1)) 0) (fuO (G.2.1 (F a 10)) (mw (G.2.1 (F a 1)) 0) (mw (G118.2.1 (F a 1)) 0) 0) = -1 ∧ (((G.1 a 6).toInt) = 0 → ffP (G.2.1 (F a 10)) (mw (G118.2.1 (F a 1)) 0) (fuO (G.2.1 (F a 10)) (mw (G.2.1 (F a 1)) 0) (mw (G118.2.1 (F a 1)) 0) 1) = -1) ∧ x120.toInt = (((fuO (G.2.1 (F a 10)) (mw (G.2.1 (F a 1)) 0) (mw (G118.2.1 (F a 1)) 0) 2).length : Nat) : Int) ∧ mw (G120.2.1 (F a 1)) 0 = mw (G118.2.1 (F a 1)) 0))
    (z52 : 0 ≤ p0.toInt ∧ p0.toInt < 3)
    (z52a : 0 ≤ p1.toInt ∧ p1.toInt < 30)
    (z52b : p2.toInt = -1000 ∨ (-99 ≤ p2.toInt ∧ p2.toInt ≤ 99))
    (z52c : p3.toInt = -1000 ∨ (-99 ≤ p3.toInt ∧ p3.toInt ≤ 99))
    (z52d : p4.toInt = -1000 ∨ (-99 ≤ p4.toInt ∧ p4.toInt ≤ 99))
    (t55 : (x55.toInt = 1 ∧ (cel (mw (G.2.1 (F a 1)) 0) (p0.toInt) (p1.toInt) 0) ≠ -2000) ∨ (x55.toInt = 0 ∧ (cel (mw (G.2.1 (F a 1)) 0) (p0.toInt) (p1.toInt) 0) = -2000))
    (c58 : x55.toInt = 0)
    (t74 : 0 ≤ p0.toInt ∧ p0.toInt ≤ 2 ∧ 0 ≤ p1.toInt ∧ p1.toInt ≤ 29 → x74.toInt = 4 * (30 * p0.toInt + p1.toInt))
    (t94 : x94.toInt = x74.toInt + (1 : Int) ∨ x74.toInt + (1 : Int) < -2147483648 ∨ 2147483648 ≤ x74.toInt + (1 : Int))
    (t104 : x104.toInt = x74.toInt + (2 : Int) ∨ x74.toInt + (2 : Int) < -2147483648 ∨ 2147483648 ≤ x74.toInt + (2 : Int))
    (t115 : x115.toInt = x74.toInt + (3 : Int) ∨ x74.toInt + (3 : Int) < -2147483648 ∨ 2147483648 ≤ x74.toInt + (3 : Int))
    (c_G69_F_a_1 : G69.2.1 (F a 1) = G.2.1 (F a 1)) :
    (¬ ((0 ≤ p0.toInt ∧ p0.toInt < 3) ∧ (0 ≤ p1.toInt ∧ p1.toInt < 30) ∧ (p2.toInt = -1000 ∨ (-99 ≤ p2.toInt ∧ p2.toInt ≤ 99)) ∧ (p3.toInt = -1000 ∨ (-99 ≤ p3.toInt ∧ p3.toInt ≤ 99)) ∧ (p4.toInt = -1000 ∨ (-99 ≤ p4.toInt ∧ p4.toInt ≤ 99))) ∧ x120.toInt = -1 ∧ mw (G120.2.1 (F a 1)) 0 = (mw (G.2.1 (F a 1)) 0)) ∨ (((0 ≤ p0.toInt ∧ p0.toInt < 3) ∧ (0 ≤ p1.toInt ∧ p1.toInt < 30) ∧ (p2.toInt = -1000 ∨ (-99 ≤ p2.toInt ∧ p2.toInt ≤ 99)) ∧ (p3.toInt = -1000 ∨ (-99 ≤ p3.toInt ∧ p3.toInt ≤ 99)) ∧ (p4.toInt = -1000 ∨ (-99 ≤ p4.toInt ∧ p4.toInt ≤ 99))) ∧ cel (mw (G.2.1 (F a 1)) 0) p0.toInt p1.toInt 0 ≠ -2000 ∧ x120.toInt = -4 ∧ mw (G120.2.1 (F a 1)) 0 = (mw (G.2.1 (F a 1)) 0)) ∨ (((0 ≤ p0.toInt ∧ p0.toInt < 3) ∧ (0 ≤ p1.toInt ∧ p1.toInt < 30) ∧ (p2.toInt = -1000 ∨ (-99 ≤ p2.toInt ∧ p2.toInt ≤ 99)) ∧ (p3.toInt = -1000 ∨ (-99 ≤ p3.toInt ∧ p3.toInt ≤ 99)) ∧ (p4.toInt = -1000 ∨ (-99 ≤ p4.toInt ∧ p4.toInt ≤ 99))) ∧ cel (mw (G.2.1 (F a 1)) 0) p0.toInt p1.toInt 0 = -2000 ∧ StR ((G.1 a 6).toInt) x120.toInt (G.2.1 (F a 10)) (mw (G.2.1 (F a 1)) 0) (rput3 (mw (G.2.1 (F a 1)) 0) p0.toInt p1.toInt p2.toInt p3.toInt p4.toInt) (mw (G120.2.1 (F a 1)) 0)) := by
  have u := put4u (I := 0 + 4 * (30 * p0.toInt + p1.toInt)) (aI_pu hG86 c_G69_F_a_1 (by omega) (by decide) (by omega)) (aI_pu hG96 rfl (by omega) rfl (by omega)) (aI_pu hG107 rfl (by omega) rfl (by omega)) (aI_pu hG118 rfl (by omega) rfl (by omega))
  have e1 := mw_put (b := 0) (t := p0.toInt) (k := p1.toInt) (by omega) (by decide) rfl u
  rw [e1, oq69] at oq120
  exact Or.inr (Or.inr ⟨⟨z52, z52a, z52b, z52c, z52d⟩, by omega, oq120⟩)
theorem v_X11_put_123_18 {F : Nat → Nat → Nat} (a : Nat) (G120 : XG)
    (oq120a : RM (G120.2.1 (F a 1)) 0) :
    RM (G120.2.1 (F a 1)) 0 := by
  exact oq120a
theorem v_X11_put_67_19 {F : Nat → Nat → Nat} (p0 : Int32) (p1 : Int32) (p2 : Int32) (p3 : Int32) (p4 : Int32) (x55 : Int32) (G : XG) (a : Nat) (G64 : XG)
    (z52 : 0 ≤ p0.toInt ∧ p0.toInt < 3)
    (z52a : 0 ≤ p1.toInt ∧ p1.toInt < 30)
    (z52b : p2.toInt = -1000 ∨ (-99 ≤ p2.toInt ∧ p2.toInt ≤ 99))
    (z52c : p3.toInt = -1000 ∨ (-99 ≤ p3.toInt ∧ p3.toInt ≤ 99))
    (z52d : p4.toInt = -1000 ∨ (-99 ≤ p4.toInt ∧ p4.toInt ≤ 99))
    (t55 : (x55.toInt = 1 ∧ (cel (mw (G.2.1 (F a 1)) 0) (p0.toInt) (p1.toInt) 0) ≠ -2000) ∨ (x55.toInt = 0 ∧ (cel (mw (G.2.1 (F a 1)) 0) (p0.toInt) (p1.toInt) 0) = -2000))
    (c58 : ¬ (x55.toInt = 0))
    (c_G64_F_a_1 : G64.2.1 (F a 1) = G.2.1 (F a 1)) :
    (¬ ((0 ≤ p0.toInt ∧ p0.toInt < 3) ∧ (0 ≤ p1.toInt ∧ p1.toInt < 30) ∧ (p2.toInt = -1000 ∨ (-99 ≤ p2.toInt ∧ p2.toInt ≤ 99)) ∧ (p3.toInt = -1000 ∨ (-99 ≤ p3.toInt ∧ p3.toInt ≤ 99)) ∧ (p4.toInt = -1000 ∨ (-99 ≤ p4.toInt ∧ p4.toInt ≤ 99))) ∧ (-4 : Int) = -1 ∧ mw (G64.2.1 (F a 1)) 0 = (mw (G.2.1 (F a 1)) 0)) ∨ (((0 ≤ p0.toInt ∧ p0.toInt < 3) ∧ (0 ≤ p1.toInt ∧ p1.toInt < 30) ∧ (p2.toInt = -1000 ∨ (-99 ≤ p2.toInt ∧ p2.toInt ≤ 99)) ∧ (p3.toInt = -1000 ∨ (-99 ≤ p3.toInt ∧ p3.toInt ≤ 99)) ∧ (p4.toInt = -1000 ∨ (-99 ≤ p4.toInt ∧ p4.toInt ≤ 99))) ∧ cel (mw (G.2.1 (F a 1)) 0) p0.toInt p1.toInt 0 ≠ -2000 ∧ (-4 : Int) = -4 ∧ mw (G64.2.1 (F a 1)) 0 = (mw (G.2.1 (F a 1)) 0)) ∨ (((0 ≤ p0.toInt ∧ p0.toInt < 3) ∧ (0 ≤ p1.toInt ∧ p1.toInt < 30) ∧ (p2.toInt = -1000 ∨ (-99 ≤ p2.toInt ∧ p2.toInt ≤ 99)) ∧ (p3.toInt = -1000 ∨ (-99 ≤ p3.toInt ∧ p3.toInt ≤ 99)) ∧ (p4.toInt = -1000 ∨ (-99 ≤ p4.toInt ∧ p4.toInt ≤ 99))) ∧ cel (mw (G.2.1 (F a 1)) 0) p0.toInt p1.toInt 0 = -2000 ∧ StR ((G.1 a 6).toInt) (-4 : Int) (G.2.1 (F a 10)) (mw (G.2.1 (F a 1)) 0) (rput3 (mw (G.2.1 (F a 1)) 0) p0.toInt p1.toInt p2.toInt p3.toInt p4.toInt) (mw (G64.2.1 (F a 1)) 0)) := by
  exact Or.inr (Or.inl ⟨⟨z52, z52a, z52b, z52c, z52d⟩, by omega, rfl, by rw [c_G64_F_a_1]⟩)
theorem v_X11_put_67_20 {F : Nat → Nat → Nat} (a : Nat) (G : XG) (G64 : XG)
    (hM : RM (G.2.1 (F a 1)) (0))
    (c_G64_F_a_1 : G64.2.1 (F a 1) = G.2.1 (F a 1)) :
    RM (G64.2.1 (F a 1)) 0 := by
  rw [c_G64_F_a_1]; exact hM
theorem v_X11_put_51_21 {F : Nat → Nat → Nat} (x40 : Int32) (p4 : Int32) (G48 : XG) (a : Nat) (G : XG) (p0 : Int32) (p1 : Int32) (p2 : Int32) (p3 : Int32)
    (t40 : (x40.toInt = 1 ∧ (p4.toInt = -1000 ∨ (-99 ≤ p4.toInt ∧ p4.toInt < 100))) ∨ (x40.toInt = 0 ∧ p4.toInt ≠ -1000 ∧ (p4.toInt < -99 ∨ 100 ≤ p4.toInt)))
    (c43 : ¬ (x40.toInt ≠ 0))
    (c_G48_F_a_1 : G48.2.1 (F a 1) = G.2.1 (F a 1)) :
    (¬ ((0 ≤ p0.toInt ∧ p0.toInt < 3) ∧ (0 ≤ p1.toInt ∧ p1.toInt < 30) ∧ (p2.toInt = -1000 ∨ (-99 ≤ p2.toInt ∧ p2.toInt ≤ 99)) ∧ (p3.toInt = -1000 ∨ (-99 ≤ p3.toInt ∧ p3.toInt ≤ 99)) ∧ (p4.toInt = -1000 ∨ (-99 ≤ p4.toInt ∧ p4.toInt ≤ 99))) ∧ (-1 : Int) = -1 ∧ mw (G48.2.1 (F a 1)) 0 = (mw (G.2.1 (F a 1)) 0)) ∨ (((0 ≤ p0.toInt ∧ p0.toInt < 3) ∧ (0 ≤ p1.toInt ∧ p1.toInt < 30) ∧ (p2.toInt = -1000 ∨ (-99 ≤ p2.toInt ∧ p2.toInt ≤ 99)) ∧ (p3.toInt = -1000 ∨ (-99 ≤ p3.toInt ∧ p3.toInt ≤ 99)) ∧ (p4.toInt = -1000 ∨ (-99 ≤ p4.toInt ∧ p4.toInt ≤ 99))) ∧ cel (mw (G.2.1 (F a 1)) 0) p0.toInt p1.toInt 0 ≠ -2000 ∧ (-1 : Int) = -4 ∧ mw (G48.2.1 (F a 1)) 0 = (mw (G.2.1 (F a 1)) 0)) ∨ (((0 ≤ p0.toInt ∧ p0.toInt < 3) ∧ (0 ≤ p1.toInt ∧ p1.toInt < 30) ∧ (p2.toInt = -1000 ∨ (-99 ≤ p2.toInt ∧ p2.toInt ≤ 99)) ∧ (p3.toInt = -1000 ∨ (-99 ≤ p3.toInt ∧ p3.toInt ≤ 99)) ∧ (p4.toInt = -1000 ∨ (-99 ≤ p4.toInt ∧ p4.toInt ≤ 99))) ∧ cel (mw (G.2.1 (F a 1)) 0) p0.toInt p1.toInt 0 = -2000 ∧ StR ((G.1 a 6).toInt) (-1 : Int) (G.2.1 (F a 10)) (mw (G.2.1 (F a 1)) 0) (rput3 (mw (G.2.1 (F a 1)) 0) p0.toInt p1.toInt p2.toInt p3.toInt p4.toInt) (mw (G48.2.1 (F a 1)) 0)) := by
  refine Or.inl ⟨fun h => ?_, rfl, by rw [c_G48_F_a_1]⟩
  obtain ⟨h1, h2, h3, h4, h5⟩ := h
  have hk := h5
  clear h1 h2 h3 h4 h5
  omega
theorem v_X11_put_51_22 {F : Nat → Nat → Nat} (a : Nat) (G : XG) (G48 : XG)
    (hM : RM (G.2.1 (F a 1)) (0))
    (c_G48_F_a_1 : G48.2.1 (F a 1) = G.2.1 (F a 1)) :
    RM (G48.2.1 (F a 1)) 0 := by
  rw [c_G48_F_a_1]; exact hM
theorem v_X11_goes_39_1 {K : Nat → Nat} {F : Nat → Nat → Nat} (a : Nat) (G6 : XG) (G : XG) (p0 : Int32) (p1 : Int32) (p2 : Int32) (G38 : XG) (x34 : Int32)
    (ha : K a = 13)
    (hG6 : G6 = cput G (F a 47) p0.toNatClampNeg p1)
    (e0 : 0 ≤ p0.toInt ∧ p0.toInt < 90)
    (e1 : 0 ≤ p1.toInt ∧ p1.toInt < 3)
    (e2 : 0 ≤ p2.toInt ∧ p2.toInt < 30)
    (t34 : 0 ≤ p1.toInt ∧ p1.toInt ≤ 2 ∧ 0 ≤ p2.toInt ∧ p2.toInt ≤ 29 → x34.toInt = 4 * (30 * p1.toInt + p2.toInt))
    (c_G38_F_a_47 : G38.2.1 (F a 47) = G6.2.1 (F a 47)) :
    ∀ z : Int, 0 ≤ z → aI (G38.2.1 (F a 47)) z = if z = p0.toInt then p1.toInt else aI (G.2.1 (F a 47)) z := by
  rw [c_G38_F_a_47]; exact aI_pu hG6 rfl rfl rfl (by omega)
theorem v_X11_goes_39_2 {K : Nat → Nat} {F : Nat → Nat → Nat} (a : Nat) (G6 : XG) (G : XG) (p0 : Int32) (p1 : Int32) (G13 : XG) (p2 : Int32) (G38 : XG) (x34 : Int32)
    (ha : K a = 13)
    (hG13 : G13 = cput G6 (F a 48) p0.toNatClampNeg p2)
    (e0 : 0 ≤ p0.toInt ∧ p0.toInt < 90)
    (e1 : 0 ≤ p1.toInt ∧ p1.toInt < 3)
    (e2 : 0 ≤ p2.toInt ∧ p2.toInt < 30)
    (t34 : 0 ≤ p1.toInt ∧ p1.toInt ≤ 2 ∧ 0 ≤ p2.toInt ∧ p2.toInt ≤ 29 → x34.toInt = 4 * (30 * p1.toInt + p2.toInt))
    (c_G38_F_a_48 : G38.2.1 (F a 48) = G13.2.1 (F a 48))
    (c_G6_F_a_48 : G6.2.1 (F a 48) = G.2.1 (F a 48)) :
    ∀ z : Int, 0 ≤ z → aI (G38.2.1 (F a 48)) z = if z = p0.toInt then p2.toInt else aI (G.2.1 (F a 48)) z := by
  rw [c_G38_F_a_48]; exact aI_pu hG13 c_G6_F_a_48 rfl rfl (by omega)
theorem v_X11_goes_39_3 {K : Nat → Nat} {F : Nat → Nat → Nat} (a : Nat) (G : XG) (p0 : Int32) (p1 : Int32) (G13 : XG) (p2 : Int32) (G20 : XG) (G38 : XG) (x34 : Int32)
    (ha : K a = 13)
    (hG20 : G20 = cput G13 (F a 49) p0.toNatClampNeg 0)
    (e0 : 0 ≤ p0.toInt ∧ p0.toInt < 90)
    (e1 : 0 ≤ p1.toInt ∧ p1.toInt < 3)
    (e2 : 0 ≤ p2.toInt ∧ p2.toInt < 30)
    (t34 : 0 ≤ p1.toInt ∧ p1.toInt ≤ 2 ∧ 0 ≤ p2.toInt ∧ p2.toInt ≤ 29 → x34.toInt = 4 * (30 * p1.toInt + p2.toInt))
    (c_G13_F_a_49 : G13.2.1 (F a 49) = G.2.1 (F a 49))
    (c_G38_F_a_49 : G38.2.1 (F a 49) = G20.2.1 (F a 49)) :
    ∀ z : Int, 0 ≤ z → aI (G38.2.1 (F a 49)) z = if z = p0.toInt then 0 else aI (G.2.1 (F a 49)) z := by
  rw [c_G38_F_a_49]; exact aI_pu hG20 c_G13_F_a_49 rfl (by decide) (by omega)
theorem v_X11_goes_39_4 {K : Nat → Nat} {F : Nat → Nat → Nat} (a : Nat) (G : XG) (p0 : Int32) (p1 : Int32) (p2 : Int32) (G20 : XG) (G27 : XG) (G38 : XG) (x34 : Int32)
    (ha : K a = 13)
    (hG27 : G27 = cput G20 (F a 50) p0.toNatClampNeg 0)
    (e0 : 0 ≤ p0.toInt ∧ p0.toInt < 90)
    (e1 : 0 ≤ p1.toInt ∧ p1.toInt < 3)
    (e2 : 0 ≤ p2.toInt ∧ p2.toInt < 30)
    (t34 : 0 ≤ p1.toInt ∧ p1.toInt ≤ 2 ∧ 0 ≤ p2.toInt ∧ p2.toInt ≤ 29 → x34.toInt = 4 * (30 * p1.toInt + p2.toInt))
    (c_G20_F_a_50 : G20.2.1 (F a 50) = G.2.1 (F a 50))
    (c_G38_F_a_50 : G38.2.1 (F a 50) = G27.2.1 (F a 50)) :
    ∀ z : Int, 0 ≤ z → aI (G38.2.1 (F a 50)) z = if z = p0.toInt then 0 else aI (G.2.1 (F a 50)) z := by
  rw [c_G38_F_a_50]; exact aI_pu hG27 c_G20_F_a_50 rfl (by decide) (by omega)
theorem v_X11_goes_39_5 {K : Nat → Nat} {F : Nat → Nat → Nat} (a : Nat) (G : XG) (p0 : Int32) (p1 : Int32) (p2 : Int32) (G27 : XG) (G38 : XG) (x34 : Int32)
    (ha : K a = 13)
    (hG38 : G38 = cput G27 (F a 1) x34.toNatClampNeg 0)
    (e0 : 0 ≤ p0.toInt ∧ p0.toInt < 90)
    (e1 : 0 ≤ p1.toInt ∧ p1.toInt < 3)
    (e2 : 0 ≤ p2.toInt ∧ p2.toInt < 30)
    (t34 : 0 ≤ p1.toInt ∧ p1.toInt ≤ 2 ∧ 0 ≤ p2.toInt ∧ p2.toInt ≤ 29 → x34.toInt = 4 * (30 * p1.toInt + p2.toInt))
    (c_G27_F_a_1 : G27.2.1 (F a 1) = G.2.1 (F a 1)) :
    mw (G38.2.1 (F a 1)) 0 = rfil (mw (G.2.1 (F a 1)) 0) p1.toInt p2.toInt (-2000) 3 := by
  exact mw_cut (by omega) (by decide) (by omega) (aI_pu hG38 c_G27_F_a_1 rfl (by decide) (by omega))
theorem v_X11_goes_39_6 {K : Nat → Nat} {F : Nat → Nat → Nat} (a : Nat) (G : XG) (p0 : Int32) (p1 : Int32) (p2 : Int32) (G27 : XG) (G38 : XG) (x34 : Int32)
    (ha : K a = 13)
    (hG38 : G38 = cput G27 (F a 1) x34.toNatClampNeg 0)
    (hM : RM (G.2.1 (F a 1)) 0)
    (e0 : 0 ≤ p0.toInt ∧ p0.toInt < 90)
    (e1 : 0 ≤ p1.toInt ∧ p1.toInt < 3)
    (e2 : 0 ≤ p2.toInt ∧ p2.toInt < 30)
    (t34 : 0 ≤ p1.toInt ∧ p1.toInt ≤ 2 ∧ 0 ≤ p2.toInt ∧ p2.toInt ≤ 29 → x34.toInt = 4 * (30 * p1.toInt + p2.toInt))
    (c_G27_F_a_1 : G27.2.1 (F a 1) = G.2.1 (F a 1)) :
    RM (G38.2.1 (F a 1)) 0 := by
  exact hM.cut (t := p1.toInt) (k := p2.toInt) (by decide) (by omega) (aI_pu hG38 c_G27_F_a_1 rfl (by decide) (by omega))
theorem z_X11_put_1 (a0 : Int) (a1 : Int) (a2 : Int) (a3 : Int) (h0 : 0 ≤ a0 ∧ a0 ≤ 2388) (h1 : a1 = -2147483648 ∧ a2 = -2147483648 ∧ a3 = 0) : (0 ≤ a3 ∧ a3 ≤ 24) ∧ (0 ≤ a0 ∧ a0 ≤ 2388) := by omega
theorem z_X11_put_5 (a0 : Int) (a1 : Int) (h0 : (a1 = 1 ∧ 0 ≤ a0 ∧ a0 ≤ 2) ∨ (a1 = 0 ∧ (a0 < 0 ∨ 2 < a0))) (h1 : ¬ (a1 = 0)) : 0 ≤ a0 ∧ a0 < 3 := by omega
theorem z_X11_put_6 (a0 : Int) (a1 : Int) (h0 : (a1 = 1 ∧ 0 ≤ a0 ∧ a0 ≤ 29) ∨ (a1 = 0 ∧ (a0 < 0 ∨ 29 < a0))) (h1 : ¬ (a1 = 0)) : 0 ≤ a0 ∧ a0 < 30 := by omega
theorem z_X11_put_7 (a0 : Int) (a1 : Int) (h0 : (a1 = 1 ∧ (a0 = -1000 ∨ (-99 ≤ a0 ∧ a0 < 100))) ∨ (a1 = 0 ∧ a0 ≠ -1000 ∧ (a0 < -99 ∨ 100 ≤ a0))) (h1 : ¬ (a1 = 0)) : a0 = -1000 ∨ (-99 ≤ a0 ∧ a0 ≤ 99) := by omega
theorem z_X11_put_9 (a0 : Int) (a1 : Int) (h0 : (a1 = 1 ∧ (a0 = -1000 ∨ (-99 ≤ a0 ∧ a0 < 100))) ∨ (a1 = 0 ∧ a0 ≠ -1000 ∧ (a0 < -99 ∨ 100 ≤ a0))) (h1 : a1 ≠ 0) : a0 = -1000 ∨ (-99 ≤ a0 ∧ a0 ≤ 99) := by omega
theorem z_X11_put_10 (a0 : Int) (a1 : Int) (a2 : Int) (h0 : 0 ≤ a0 ∧ a0 < 3) (h1 : 0 ≤ a1 ∧ a1 < 30) (h2 : 0 ≤ a0 ∧ a0 ≤ 2 ∧ 0 ≤ a1 ∧ a1 ≤ 29 → a2 = 4 * (30 * a0 + a1)) : 0 ≤ a2 ∧ a2 < ((360 : Nat) : Int) := by omega
theorem z_X11_put_11 (a0 : Int) (a1 : Int) (a2 : Int) (a3 : Int) (h0 : 0 ≤ a0 ∧ a0 < 3) (h1 : 0 ≤ a1 ∧ a1 < 30) (h2 : 0 ≤ a0 ∧ a0 ≤ 2 ∧ 0 ≤ a1 ∧ a1 ≤ 29 → a2 = 4 * (30 * a0 + a1)) (h3 : a3 = a2 + (1 : Int) ∨ a2 + (1 : Int) < -2147483648 ∨ 2147483648 ≤ a2 + (1 : Int)) : 0 ≤ a3 ∧ a3 < ((360 : Nat) : Int) := by omega
theorem z_X11_put_12 (a0 : Int) (a1 : Int) (a2 : Int) (a3 : Int) (h0 : 0 ≤ a0 ∧ a0 < 3) (h1 : 0 ≤ a1 ∧ a1 < 30) (h2 : 0 ≤ a0 ∧ a0 ≤ 2 ∧ 0 ≤ a1 ∧ a1 ≤ 29 → a3 = 4 * (30 * a0 + a1)) (h3 : a2 = a3 + (2 : Int) ∨ a3 + (2 : Int) < -2147483648 ∨ 2147483648 ≤ a3 + (2 : Int)) : 0 ≤ a2 ∧ a2 < ((360 : Nat) : Int) := by omega
theorem z_X11_put_13 (a0 : Int) (a1 : Int) (a2 : Int) (a3 : Int) (h0 : 0 ≤ a0 ∧ a0 < 3) (h1 : 0 ≤ a1 ∧ a1 < 30) (h2 : 0 ≤ a0 ∧ a0 ≤ 2 ∧ 0 ≤ a1 ∧ a1 ≤ 29 → a3 = 4 * (30 * a0 + a1)) (h3 : a2 = a3 + (3 : Int) ∨ a3 + (3 : Int) < -2147483648 ∨ 2147483648 ≤ a3 + (3 : Int)) : 0 ≤ a2 ∧ a2 < ((360 : Nat) : Int) := by omega
theorem z_X11_put_14 (a0 : Int) (a1 : Int) (a2 : Int) (h0 : a0 = -2147483648 ∧ a1 = -2147483648 ∧ a2 = 0) : 0 ≤ a2 ∧ a2 ≤ 24 := by omega
abbrev rm_X11_put : Room := { frames := 8, cells := 0, slots := 0, locals := 186 }
set_option maxHeartbeats 4000000 in
set_option maxRecDepth 100000 in
theorem c_X11_put (l : Launch) (E : XE) (K : Nat → Nat) (F : Nat → Nat → Nat) (G : XG) (a : Nat) (p0 : Int32) (p1 : Int32) (p2 : Int32) (p3 : Int32) (p4 : Int32) (ha : K a = 13) (am : 0 ≤ ((G.1 a 43).toInt) ∧ ((G.1 a 43).toInt) ≤ 2388) (hR : RV (G.2.1 (F a 10))) (hM : RM (G.2.1 (F a 1)) (0)) (hB : RM (G.2.1 (F a 2)) 0) : Met l yX11_put (xw yX11_put cX11_put 7 (some .int)) rm_X11_put (va_Pc [.ref a, .int p0, .int p1, .int p2, .int p3, .int p4] (XP E K F G)) (XQ E (fun v (u : XG) => ∃ r : Int32, v = .int r ∧ XFr [(a, 16), (a, 19), (a, 20), (a, 21), (a, 23), (a, 45), (a, 46), (a, 43), (a, 44), (a, 0)] [F a 15, F a 17, F a 18, F a 1, F a 8, F a 22, F a 11, F a 13, F a 9, F a 41, F a 42, F a 4, F a 12] [] G u ∧ ((0 ≤ ((u.1 a 23).toInt) ∧ ((u.1 a 23).toInt) ≤ 24) ∧ (0 ≤ ((u.1 a 43).toInt) ∧ ((u.1 a 43).toInt) ≤ 2388)) ∧ ((¬ ((0 ≤ p0.toInt ∧ p0.toInt < 3) ∧ (0 ≤ p1.toInt ∧ p1.toInt < 30) ∧ (p2.toInt = -1000 ∨ (-99 ≤ p2.toInt ∧ p2.toInt ≤ 99)) ∧ (p3.toInt = -1000 ∨ (-99 ≤ p3.toInt ∧ p3.toInt ≤ 99)) ∧ (p4.toInt = -1000 ∨ (-99 ≤ p4.toInt ∧ p4.toInt ≤ 99))) ∧ r.toInt = -1 ∧ mw (u.2.1 (F a 1)) 0 = (mw (G.2.1 (F a 1)) 0)) ∨ (((0 ≤ p0.toInt ∧ p0.toInt < 3) ∧ (0 ≤ p1.toInt ∧ p1.toInt < 30) ∧ (p2.toInt = -1000 ∨ (-99 ≤ p2.toInt ∧ p2.toInt ≤ 99)) ∧ (p3.toInt = -1000 ∨ (-99 ≤ p3.toInt ∧ p3.toInt ≤ 99)) ∧ (p4.toInt = -1000 ∨ (-99 ≤ p4.toInt ∧ p4.toInt ≤ 99))) ∧ cel (mw (G.2.1 (F a 1)) 0) p0.toInt p1.toInt 0 ≠ -2000 ∧ r.toInt = -4 ∧ mw (u.2.1 (F a 1)) 0 = (mw (G.2.1 (F a 1)) 0)) ∨ (((0 ≤ p0.toInt ∧ p0.toInt < 3) ∧ (0 ≤ p1.toInt ∧ p1.toInt < 30) ∧ (p2.toInt = -1000 ∨ (-99 ≤ p2.toInt ∧ p2.toInt ≤ 99)) ∧ (p3.toInt = -1000 ∨ (-99 ≤ p3.toInt ∧ p3.toInt ≤ 99)) ∧ (p4.toInt = -1000 ∨ (-99 ≤ p4.toInt ∧ p4.toInt ≤ 99))) ∧ cel (mw (G.2.1 (F a 1)) 0) p0.toInt p1.toInt 0 = -2000 ∧ StR ((G.1 a 6).toInt) r.toInt (G.2.1 (F a 10)) (mw (G.2.1 (F a 1)) 0) (rput3 (mw (G.2.1 (F a 1)) 0) p0.toInt p1.toInt p2.toInt p3.toInt p4.toInt) (mw (u.2.1 (F a 1)) 0))) ∧ (RM (u.2.1 (F a 1)) 0)) (fun u H => TW E K F u H)) 0 0 (xA E) := by
  refine x_enter (by decide) (Nat.le_of_ble_eq_true rfl) ?_
  intro p e s m args below meth c Q S hr hlk hnm hQ hP ls hl
  obtain ⟨hz, hK, hT⟩ := hP
  obtain ⟨hx, hb, -, -, -⟩ := id S
  obtain ⟨H, hT, hS, hgo⟩ : ∃ H : Heap, TW E K F G H ∧ va_S (xA E) s.heap H [] ∧ H = s.heap := ⟨_, hT, va_S.rf, rfl⟩
  rw [← hgo]
  have hl : lv_has ls 7 [(0, .ref a), (1, .int p0), (2, .int p1), (3, .int p2), (4, .int p3), (5, .int p4)] := hl
  obtain ⟨hk9999, hj9999⟩ := fkX11_15 hT ha
  obtain ⟨hk9999a, hj9999a⟩ := fkX11_17 hT ha
  obtain ⟨hk9999b, hj9999b⟩ := fkX11_18 hT ha
  obtain ⟨hk9999c, hj9999c⟩ := fkX11_1 hT ha
  obtain ⟨hk9999d, hj9999d⟩ := fkX11_8 hT ha
  obtain ⟨hk9999e, hj9999e⟩ := fkX11_22 hT ha
  obtain ⟨hk9999f, hj9999f⟩ := fkX11_11 hT ha
  obtain ⟨hk9999g, hj9999g⟩ := fkX11_13 hT ha
  obtain ⟨hk9999h, hj9999h⟩ := fkX11_9 hT ha
  obtain ⟨hk9999i, hj9999i⟩ := fkX11_41 hT ha
  obtain ⟨hk9999j, hj9999j⟩ := fkX11_42 hT ha
  obtain ⟨hk9999k, hj9999k⟩ := fkX11_4 hT ha
  obtain ⟨hk9999l, hj9999l⟩ := fkX11_12 hT ha
  obtain ⟨hk9999m, hj9999m⟩ := fkX11_10 hT ha
  obtain ⟨hk9999n, hj9999n⟩ := fkX11_2 hT ha
  refine lv_aload_n hx hb dX11_put_0 rfl (lv_at hl 0 rfl) ?_
  refine lv_iconst (v := 0) hx hb dX11_put_1 (by decide) ?_
  refine pX11_0 (v := 0) S hK hT hS ha kf_X11_134 dX11_put_2 (fun H locs hT hS => ?_)
  obtain ⟨G2, hG2⟩ : ∃ GG : XG, GG = dput G a 0 0 := ⟨_, rfl⟩
  rw [← hG2] at hT
  refine lv_aload_n hx hb dX11_put_5 rfl (lv_at hl 0 rfl) ?_
  refine x_cv0 (x_runV (b := a) (As := []) (rest := []) S (c_X11_nothing l E K F G2 a ha) mv_X11_nothing km_X11_231 rfl rfl ⟨Nat.le_of_ble_eq_true rfl, Nat.le_of_ble_eq_true rfl⟩ (rc_13 hK hT ha) hK (fun _ => XP.blind) (fun U hU hW => XP.at hK hz hS hT hU hW) rfl hl.1 (Nat.le_of_ble_eq_true rfl) dX11_put_6 ⟨Nat.le_of_ble_eq_true rfl, Nat.le_of_ble_eq_true rfl⟩) hS ?_
  rintro G6 H locs ⟨hF6, t6⟩ hT hS
  have t6 : ((G6.1 a 20).toInt) = -2147483648 ∧ ((G6.1 a 21).toInt) = -2147483648 ∧ ((G6.1 a 23).toInt) = 0 := t6
  refine lv_iload_n hx hb dX11_put_9 rfl (lv_at hl 1 rfl) ?_
  refine x_clp (x_runS (As := [.int p0]) (rest := []) S (c_X11_isTable l E K F G6 H p0) ms_X11_isTable km_X11_149 rfl rfl ⟨Nat.le_of_ble_eq_true rfl, Nat.le_of_ble_eq_true rfl⟩ hK (fun _ => XPh.blind) (fun U hU hW => XPh.at hK hz hS hT hU hW) rfl hl.1 (Nat.le_of_ble_eq_true rfl) dX11_put_10 ⟨Nat.le_of_ble_eq_true rfl, Nat.le_of_ble_eq_true rfl⟩) hS ?_
  rintro _ _ locs ⟨x10, rfl, b10, t10⟩ hS
  have t10 : (x10.toInt = 1 ∧ 0 ≤ p0.toInt ∧ p0.toInt ≤ 2) ∨ (x10.toInt = 0 ∧ (p0.toInt < 0 ∨ 2 < p0.toInt)) := t10
  refine xi_zeq (tgt := 46) hx hb (rfl : Int32.toInt x10 = x10.toInt) dX11_put_13 (by decide) (fun c13 => ?_) (fun c13 => ?_)
  · refine lv_aload_n hx hb dX11_put_46 rfl (lv_at hl 0 rfl) ?_
    refine lv_iconst (v := (-1)) hx hb dX11_put_47 (by decide) ?_
    refine x_cl0 (x_runV (b := a) (As := [.int (-1)]) (rest := []) S (c_X11_refuses l E K F G6 a (-1) ha) mv_X11_refuses km_X11_325 rfl rfl ⟨Nat.le_of_ble_eq_true rfl, Nat.le_of_ble_eq_true rfl⟩ (rc_13 hK hT ha) hK (fun _ => XP.blind) (fun U hU hW => XP.at hK hz hS hT hU hW) rfl hl.1 (Nat.le_of_ble_eq_true rfl) dX11_put_48 ⟨Nat.le_of_ble_eq_true rfl, Nat.le_of_ble_eq_true rfl⟩) hS ?_
    rintro _ G48 H locs ⟨x48, rfl, hF48, t48⟩ hT hS
    have t48 : x48.toInt = (-1 : Int) := by rw [((by decide) : Int32.toInt (-1) = (-1 : Int))] at t48; exact t48
    exact x_ri hx hb hr hlk hQ (Nat.le_of_ble_eq_true rfl) (Nat.le_of_ble_eq_true rfl) hS dX11_put_51 G48 ⟨_, rfl, (XFr.call (XFr.call (by rw [hG2]; exact XFr.dput XFr.rf (List.mem_of_getElem? (i := 9) rfl)) hF6 (xm1 2 rfl (xm1 3 rfl (xm1 4 rfl xm0))) xm0 xm0) hF48 xm0 (xm1 4 rfl xm0) xm0), (by rw [(show (G48.1 a 23).toInt = ((G6.1 a 23).toInt) from (congrArg Int32.toInt (hF48.1 _ _ xn0)).trans (rfl : Int32.toInt (G6.1 a 23) = ((G6.1 a 23).toInt))), (show (G48.1 a 43).toInt = ((G.1 a 43).toInt) from (congrArg Int32.toInt ((hF48.1 _ _ xn0).trans ((hF6.1 _ _ (xnj (by decide) (xnj (by decide) (xnj (by decide) xn0)))).trans (ld_j hG2 (by decide))))).trans (rfl : Int32.toInt (G.1 a 43) = ((G.1 a 43).toInt)))] <;> exact (z_X11_put_1 ((G.1 a 43).toInt) ((G6.1 a 20).toInt) ((G6.1 a 21).toInt) ((G6.1 a 23).toInt) am t6)), (by rw [(t48 : Int32.toInt x48 = (-1 : Int))] <;> exact (v_X11_put_51_1 (F := F) x10 p0 G48 a G p1 p2 p3 p4 t10 c13 ((hF48.2.1 _ (xn1 (xne_k hk9999c hk9999d (by decide)) xn0)).trans ((hF6.2.1 _ xn0).trans (ld_c hG2))))), (v_X11_put_51_2 (F := F) a G G48 hM ((hF48.2.1 _ (xn1 (xne_k hk9999c hk9999d (by decide)) xn0)).trans ((hF6.2.1 _ xn0).trans (ld_c hG2))))⟩ hT
  · refine lv_iload_n hx hb dX11_put_16 rfl (lv_at hl 2 rfl) ?_
    refine x_clp (x_runS (As := [.int p1]) (rest := []) S (c_X11_isKey l E K F G6 H p1) ms_X11_isKey km_X11_153 rfl rfl ⟨Nat.le_of_ble_eq_true rfl, Nat.le_of_ble_eq_true rfl⟩ hK (fun _ => XPh.blind) (fun U hU hW => XPh.at hK hz hS hT hU hW) rfl hl.1 (Nat.le_of_ble_eq_true rfl) dX11_put_17 ⟨Nat.le_of_ble_eq_true rfl, Nat.le_of_ble_eq_true rfl⟩) hS ?_
    rintro _ _ locs ⟨x17, rfl, b17, t17⟩ hS
    have t17 : (x17.toInt = 1 ∧ 0 ≤ p1.toInt ∧ p1.toInt ≤ 29) ∨ (x17.toInt = 0 ∧ (p1.toInt < 0 ∨ 29 < p1.toInt)) := t17
    refine xi_zeq (tgt := 46) hx hb (rfl : Int32.toInt x17 = x17.toInt) dX11_put_20 (by decide) (fun c20 => ?_) (fun c20 => ?_)
    · refine lv_aload_n hx hb dX11_put_46 rfl (lv_at hl 0 rfl) ?_
      refine lv_iconst (v := (-1)) hx hb dX11_put_47 (by decide) ?_
      refine x_cl0 (x_runV (b := a) (As := [.int (-1)]) (rest := []) S (c_X11_refuses l E K F G6 a (-1) ha) mv_X11_refuses km_X11_325 rfl rfl ⟨Nat.le_of_ble_eq_true rfl, Nat.le_of_ble_eq_true rfl⟩ (rc_13 hK hT ha) hK (fun _ => XP.blind) (fun U hU hW => XP.at hK hz hS hT hU hW) rfl hl.1 (Nat.le_of_ble_eq_true rfl) dX11_put_48 ⟨Nat.le_of_ble_eq_true rfl, Nat.le_of_ble_eq_true rfl⟩) hS ?_
      rintro _ G48 H locs ⟨x48, rfl, hF48, t48⟩ hT hS
      have t48 : x48.toInt = (-1 : Int) := by rw [((by decide) : Int32.toInt (-1) = (-1 : Int))] at t48; exact t48
      exact x_ri hx hb hr hlk hQ (Nat.le_of_ble_eq_true rfl) (Nat.le_of_ble_eq_true rfl) hS dX11_put_51 G48 ⟨_, rfl, (XFr.call (XFr.call (by rw [hG2]; exact XFr.dput XFr.rf (List.mem_of_getElem? (i := 9) rfl)) hF6 (xm1 2 rfl (xm1 3 rfl (xm1 4 rfl xm0))) xm0 xm0) hF48 xm0 (xm1 4 rfl xm0) xm0), (by rw [(show (G48.1 a 23).toInt = ((G6.1 a 23).toInt) from (congrArg Int32.toInt (hF48.1 _ _ xn0)).trans (rfl : Int32.toInt (G6.1 a 23) = ((G6.1 a 23).toInt))), (show (G48.1 a 43).toInt = ((G.1 a 43).toInt) from (congrArg Int32.toInt ((hF48.1 _ _ xn0).trans ((hF6.1 _ _ (xnj (by decide) (xnj (by decide) (xnj (by decide) xn0)))).trans (ld_j hG2 (by decide))))).trans (rfl : Int32.toInt (G.1 a 43) = ((G.1 a 43).toInt)))] <;> exact (z_X11_put_1 ((G.1 a 43).toInt) ((G6.1 a 20).toInt) ((G6.1 a 21).toInt) ((G6.1 a 23).toInt) am t6)), (by rw [(t48 : Int32.toInt x48 = (-1 : Int))] <;> exact (v_X11_put_51_3 (F := F) x17 p1 G48 a G p0 p2 p3 p4 t17 c20 ((hF48.2.1 _ (xn1 (xne_k hk9999c hk9999d (by decide)) xn0)).trans ((hF6.2.1 _ xn0).trans (ld_c hG2))))), (v_X11_put_51_4 (F := F) a G G48 hM ((hF48.2.1 _ (xn1 (xne_k hk9999c hk9999d (by decide)) xn0)).trans ((hF6.2.1 _ xn0).trans (ld_c hG2))))⟩ hT
    · refine lv_iload_n hx hb dX11_put_23 rfl (lv_at hl 3 rfl) ?_
      refine x_clp (x_runS (As := [.int p2]) (rest := []) S (c_X11_isValue l E K F G6 H p2) ms_X11_isValue km_X11_343 rfl rfl ⟨Nat.le_of_ble_eq_true rfl, Nat.le_of_ble_eq_true rfl⟩ hK (fun _ => XPh.blind) (fun U hU hW => XPh.at hK hz hS hT hU hW) rfl hl.1 (Nat.le_of_ble_eq_true rfl) dX11_put_24 ⟨Nat.le_of_ble_eq_true rfl, Nat.le_of_ble_eq_true rfl⟩) hS ?_
      rintro _ _ locs ⟨x24, rfl, b24, t24⟩ hS
      have t24 : (x24.toInt = 1 ∧ (p2.toInt = -1000 ∨ (-99 ≤ p2.toInt ∧ p2.toInt < 100))) ∨ (x24.toInt = 0 ∧ p2.toInt ≠ -1000 ∧ (p2.toInt < -99 ∨ 100 ≤ p2.toInt)) := t24
      refine xi_zeq (tgt := 46) hx hb (rfl : Int32.toInt x24 = x24.toInt) dX11_put_27 (by decide) (fun c27 => ?_) (fun c27 => ?_)
      · refine lv_aload_n hx hb dX11_put_46 rfl (lv_at hl 0 rfl) ?_
        refine lv_iconst (v := (-1)) hx hb dX11_put_47 (by decide) ?_
        refine x_cl0 (x_runV (b := a) (As := [.int (-1)]) (rest := []) S (c_X11_refuses l E K F G6 a (-1) ha) mv_X11_refuses km_X11_325 rfl rfl ⟨Nat.le_of_ble_eq_true rfl, Nat.le_of_ble_eq_true rfl⟩ (rc_13 hK hT ha) hK (fun _ => XP.blind) (fun U hU hW => XP.at hK hz hS hT hU hW) rfl hl.1 (Nat.le_of_ble_eq_true rfl) dX11_put_48 ⟨Nat.le_of_ble_eq_true rfl, Nat.le_of_ble_eq_true rfl⟩) hS ?_
        rintro _ G48 H locs ⟨x48, rfl, hF48, t48⟩ hT hS
        have t48 : x48.toInt = (-1 : Int) := by rw [((by decide) : Int32.toInt (-1) = (-1 : Int))] at t48; exact t48
        exact x_ri hx hb hr hlk hQ (Nat.le_of_ble_eq_true rfl) (Nat.le_of_ble_eq_true rfl) hS dX11_put_51 G48 ⟨_, rfl, (XFr.call (XFr.call (by rw [hG2]; exact XFr.dput XFr.rf (List.mem_of_getElem? (i := 9) rfl)) hF6 (xm1 2 rfl (xm1 3 rfl (xm1 4 rfl xm0))) xm0 xm0) hF48 xm0 (xm1 4 rfl xm0) xm0), (by rw [(show (G48.1 a 23).toInt = ((G6.1 a 23).toInt) from (congrArg Int32.toInt (hF48.1 _ _ xn0)).trans (rfl : Int32.toInt (G6.1 a 23) = ((G6.1 a 23).toInt))), (show (G48.1 a 43).toInt = ((G.1 a 43).toInt) from (congrArg Int32.toInt ((hF48.1 _ _ xn0).trans ((hF6.1 _ _ (xnj (by decide) (xnj (by decide) (xnj (by decide) xn0)))).trans (ld_j hG2 (by decide))))).trans (rfl : Int32.toInt (G.1 a 43) = ((G.1 a 43).toInt)))] <;> exact (z_X11_put_1 ((G.1 a 43).toInt) ((G6.1 a 20).toInt) ((G6.1 a 21).toInt) ((G6.1 a 23).toInt) am t6)), (by rw [(t48 : Int32.toInt x48 = (-1 : Int))] <;> exact (v_X11_put_51_5 (F := F) x24 p2 G48 a G p0 p1 p3 p4 t24 c27 ((hF48.2.1 _ (xn1 (xne_k hk9999c hk9999d (by decide)) xn0)).trans ((hF6.2.1 _ xn0).trans (ld_c hG2))))), (v_X11_put_51_6 (F := F) a G G48 hM ((hF48.2.1 _ (xn1 (xne_k hk9999c hk9999d (by decide)) xn0)).trans ((hF6.2.1 _ xn0).trans (ld_c hG2))))⟩ hT
      · refine lv_iload hx hb dX11_put_30 (lv_at hl 4 rfl) ?_
        refine x_clp (x_runS (As := [.int p3]) (rest := []) S (c_X11_isValue l E K F G6 H p3) ms_X11_isValue km_X11_343 rfl rfl ⟨Nat.le_of_ble_eq_true rfl, Nat.le_of_ble_eq_true rfl⟩ hK (fun _ => XPh.blind) (fun U hU hW => XPh.at hK hz hS hT hU hW) rfl hl.1 (Nat.le_of_ble_eq_true rfl) dX11_put_32 ⟨Nat.le_of_ble_eq_true rfl, Nat.le_of_ble_eq_true rfl⟩) hS ?_
        rintro _ _ locs ⟨x32, rfl, b32, t32⟩ hS
        have t32 : (x32.toInt = 1 ∧ (p3.toInt = -1000 ∨ (-99 ≤ p3.toInt ∧ p3.toInt < 100))) ∨ (x32.toInt = 0 ∧ p3.toInt ≠ -1000 ∧ (p3.toInt < -99 ∨ 100 ≤ p3.toInt)) := t32
        refine xi_zeq (tgt := 46) hx hb (rfl : Int32.toInt x32 = x32.toInt) dX11_put_35 (by decide) (fun c35 => ?_) (fun c35 => ?_)
        · refine lv_aload_n hx hb dX11_put_46 rfl (lv_at hl 0 rfl) ?_
          refine lv_iconst (v := (-1)) hx hb dX11_put_47 (by decide) ?_
          refine x_cl0 (x_runV (b := a) (As := [.int (-1)]) (rest := []) S (c_X11_refuses l E K F G6 a (-1) ha) mv_X11_refuses km_X11_325 rfl rfl ⟨Nat.le_of_ble_eq_true rfl, Nat.le_of_ble_eq_true rfl⟩ (rc_13 hK hT ha) hK (fun _ => XP.blind) (fun U hU hW => XP.at hK hz hS hT hU hW) rfl hl.1 (Nat.le_of_ble_eq_true rfl) dX11_put_48 ⟨Nat.le_of_ble_eq_true rfl, Nat.le_of_ble_eq_true rfl⟩) hS ?_
          rintro _ G48 H locs ⟨x48, rfl, hF48, t48⟩ hT hS
          have t48 : x48.toInt = (-1 : Int) := by rw [((by decide) : Int32.toInt (-1) = (-1 : Int))] at t48; exact t48
          exact x_ri hx hb hr hlk hQ (Nat.le_of_ble_eq_true rfl) (Nat.le_of_ble_eq_true rfl) hS dX11_put_51 G48 ⟨_, rfl, (XFr.call (XFr.call (by rw [hG2]; exact XFr.dput XFr.rf (List.mem_of_getElem? (i := 9) rfl)) hF6 (xm1 2 rfl (xm1 3 rfl (xm1 4 rfl xm0))) xm0 xm0) hF48 xm0 (xm1 4 rfl xm0) xm0), (by rw [(show (G48.1 a 23).toInt = ((G6.1 a 23).toInt) from (congrArg Int32.toInt (hF48.1 _ _ xn0)).trans (rfl : Int32.toInt (G6.1 a 23) = ((G6.1 a 23).toInt))), (show (G48.1 a 43).toInt = ((G.1 a 43).toInt) from (congrArg Int32.toInt ((hF48.1 _ _ xn0).trans ((hF6.1 _ _ (xnj (by decide) (xnj (by decide) (xnj (by decide) xn0)))).trans (ld_j hG2 (by decide))))).trans (rfl : Int32.toInt (G.1 a 43) = ((G.1 a 43).toInt)))] <;> exact (z_X11_put_1 ((G.1 a 43).toInt) ((G6.1 a 20).toInt) ((G6.1 a 21).toInt) ((G6.1 a 23).toInt) am t6)), (by rw [(t48 : Int32.toInt x48 = (-1 : Int))] <;> exact (v_X11_put_51_7 (F := F) x32 p3 G48 a G p0 p1 p2 p4 t32 c35 ((hF48.2.1 _ (xn1 (xne_k hk9999c hk9999d (by decide)) xn0)).trans ((hF6.2.1 _ xn0).trans (ld_c hG2))))), (v_X11_put_51_8 (F := F) a G G48 hM ((hF48.2.1 _ (xn1 (xne_k hk9999c hk9999d (by decide)) xn0)).trans ((hF6.2.1 _ xn0).trans (ld_c hG2))))⟩ hT
        · refine lv_iload hx hb dX11_put_38 (lv_at hl 5 rfl) ?_
          refine x_clp (x_runS (As := [.int p4]) (rest := []) S (c_X11_isValue l E K F G6 H p4) ms_X11_isValue km_X11_343 rfl rfl ⟨Nat.le_of_ble_eq_true rfl, Nat.le_of_ble_eq_true rfl⟩ hK (fun _ => XPh.blind) (fun U hU hW => XPh.at hK hz hS hT hU hW) rfl hl.1 (Nat.le_of_ble_eq_true rfl) dX11_put_40 ⟨Nat.le_of_ble_eq_true rfl, Nat.le_of_ble_eq_true rfl⟩) hS ?_
          rintro _ _ locs ⟨x40, rfl, b40, t40⟩ hS
          have t40 : (x40.toInt = 1 ∧ (p4.toInt = -1000 ∨ (-99 ≤ p4.toInt ∧ p4.toInt < 100))) ∨ (x40.toInt = 0 ∧ p4.toInt ≠ -1000 ∧ (p4.toInt < -99 ∨ 100 ≤ p4.toInt)) := t40
          refine xi_zne (tgt := 52) hx hb (rfl : Int32.toInt x40 = x40.toInt) dX11_put_43 (by decide) (fun c43 => ?_) (fun c43 => ?_)
          · have z52 : 0 ≤ p0.toInt ∧ p0.toInt < 3 := (z_X11_put_5 p0.toInt x10.toInt t10 c13)
            have z52a : 0 ≤ p1.toInt ∧ p1.toInt < 30 := (z_X11_put_6 p1.toInt x17.toInt t17 c20)
            have z52b : p2.toInt = -1000 ∨ (-99 ≤ p2.toInt ∧ p2.toInt ≤ 99) := (z_X11_put_7 p2.toInt x24.toInt t24 c27)
            have z52c : p3.toInt = -1000 ∨ (-99 ≤ p3.toInt ∧ p3.toInt ≤ 99) := (z_X11_put_7 p3.toInt x32.toInt t32 c35)
            have z52d : p4.toInt = -1000 ∨ (-99 ≤ p4.toInt ∧ p4.toInt ≤ 99) := (z_X11_put_9 p4.toInt x40.toInt t40 c43)
            refine lv_aload_n hx hb dX11_put_52 rfl (lv_at hl 0 rfl) ?_
            refine lv_iload_n hx hb dX11_put_53 rfl (lv_at hl 1 rfl) ?_
            refine lv_iload_n hx hb dX11_put_54 rfl (lv_at hl 2 rfl) ?_
            refine x_clp (x_runV (b := a) (As := [.int p0, .int p1]) (rest := []) S (c_X11_isRow l E K F G6 H a p0 p1 ha (v_X11_put_55_9 (F := F) a G G6 hM hB ((hF6.2.1 _ xn0).trans (ld_c hG2)))) mv_X11_isRow km_X11_346 rfl rfl ⟨Nat.le_of_ble_eq_true rfl, Nat.le_of_ble_eq_true rfl⟩ (rc_13 hK hT ha) hK (fun _ => XPh.blind) (fun U hU hW => XPh.at hK hz hS hT hU hW) rfl hl.1 (Nat.le_of_ble_eq_true rfl) dX11_put_55 ⟨Nat.le_of_ble_eq_true rfl, Nat.le_of_ble_eq_true rfl⟩) hS ?_
            rintro _ _ locs ⟨x55, rfl, b55, t55⟩ hS
            have t55 : (x55.toInt = 1 ∧ (cel (mw (G.2.1 (F a 1)) 0) (p0.toInt) (p1.toInt) 0) ≠ -2000) ∨ (x55.toInt = 0 ∧ (cel (mw (G.2.1 (F a 1)) 0) (p0.toInt) (p1.toInt) 0) = -2000) := by rw [(show G6.2.1 (F a 1) = G.2.1 (F a 1) from ((hF6.2.1 _ xn0).trans (ld_c hG2)))] at t55; exact t55
            refine xi_zeq (tgt := 68) hx hb (rfl : Int32.toInt x55 = x55.toInt) dX11_put_58 (by decide) (fun c58 => ?_) (fun c58 => ?_)
            · refine lv_aload_n hx hb dX11_put_68 rfl (lv_at hl 0 rfl) ?_
              refine x_cv0 (x_runV (b := a) (As := []) (rest := []) S (c_X11_start l E K F G6 a ha (v_X11_put_69_10 (F := F) a G G6 hR ((hF6.2.1 _ xn0).trans (ld_c hG2))) (v_X11_put_69_11 (F := F) a G G6 hM hB ((hF6.2.1 _ xn0).trans (ld_c hG2)))) mv_X11_start km_X11_350 rfl rfl ⟨Nat.le_of_ble_eq_true rfl, Nat.le_of_ble_eq_true rfl⟩ (rc_13 hK hT ha) hK (fun _ => XP.blind) (fun U hU hW => XP.at hK hz hS hT hU hW) rfl hl.1 (Nat.le_of_ble_eq_true rfl) dX11_put_69 ⟨Nat.le_of_ble_eq_true rfl, Nat.le_of_ble_eq_true rfl⟩) hS ?_
              rintro G69 H locs ⟨hF69, oq69, oq69a, oq69b⟩ hT hS
              have oq69 : mw (G69.2.1 (F a 4)) 0 = mw (G.2.1 (F a 1)) 0 := by simp only [(show G6.2.1 (F a 1) = G.2.1 (F a 1) from ((hF6.2.1 _ xn0).trans (ld_c hG2)))] at oq69; exact oq69
              have oq69b : LSt (G.2.1 (F a 10)) (G69.2.1 (F a 12)) (mw (G.2.1 (F a 1)) 0) 12 := by simp only [(show G6.2.1 (F a 10) = G.2.1 (F a 10) from ((hF6.2.1 _ xn0).trans (ld_c hG2))), (show G6.2.1 (F a 1) = G.2.1 (F a 1) from ((hF6.2.1 _ xn0).trans (ld_c hG2)))] at oq69b; exact oq69b
              refine lv_iload_n hx hb dX11_put_72 rfl (lv_at hl 1 rfl) ?_
              refine lv_iload_n hx hb dX11_put_73 rfl (lv_at hl 2 rfl) ?_
              refine x_clp (x_runS (As := [.int p0, .int p1]) (rest := []) S (c_X11_at l E K F G69 H p0 p1) ms_X11_at km_X11_156 rfl rfl ⟨Nat.le_of_ble_eq_true rfl, Nat.le_of_ble_eq_true rfl⟩ hK (fun _ => XPh.blind) (fun U hU hW => XPh.at hK hz hS hT hU hW) rfl hl.1 (Nat.le_of_ble_eq_true rfl) dX11_put_74 ⟨Nat.le_of_ble_eq_true rfl, Nat.le_of_ble_eq_true rfl⟩) hS ?_
              rintro _ _ locs ⟨x74, rfl, t74⟩ hS
              have t74 : 0 ≤ p0.toInt ∧ p0.toInt ≤ 2 ∧ 0 ≤ p1.toInt ∧ p1.toInt ≤ 29 → x74.toInt = 4 * (30 * p0.toInt + p1.toInt) := t74
              refine lv_istore (lv' := [(6, .int x74), (0, .ref a), (1, .int p0), (2, .int p1), (3, .int p2), (4, .int p3), (5, .int p4)]) hx hb dX11_put_77 hl (by decide) rfl (fun ls hl => ?_)
              refine lv_aload_n hx hb dX11_put_79 rfl (lv_at hl 1 rfl) ?_
              refine gX11_1 S hK hT ha kf_X11_9 dX11_put_80 (fun _ _ => ?_)
              refine lv_iload hx hb dX11_put_83 (lv_at hl 0 rfl) ?_
              refine lv_iconst (v := 1) hx hb dX11_put_85 (by decide) ?_
              refine as_0 (x := 1) S hK hT hS hk9999c ar_30 aw_30 (by decide) (z_X11_put_10 p0.toInt p1.toInt x74.toInt z52 z52a t74) dX11_put_86 (fun H locs hT hS => ?_)
              obtain ⟨G86, hG86⟩ : ∃ GG : XG, GG = cput G69 (F a 1) x74.toNatClampNeg 1 := ⟨_, rfl⟩
              rw [← hG86] at hT
              refine lv_aload_n hx hb dX11_put_87 rfl (lv_at hl 1 rfl) ?_
              refine gX11_1 S hK hT ha kf_X11_9 dX11_put_88 (fun _ _ => ?_)
              refine lv_iload hx hb dX11_put_91 (lv_at hl 0 rfl) ?_
              refine lv_iconst (v := 1) hx hb dX11_put_93 (by decide) ?_
              refine xi_iadd hx hb (rfl : Int32.toInt x74 = x74.toInt) ((by decide) : Int32.toInt 1 = (1 : Int)) dX11_put_94 (fun x94 t94 => ?_)
              refine lv_iload_n hx hb dX11_put_95 rfl (lv_at hl 4 rfl) ?_
              refine as_0 (x := p2) S hK hT hS hk9999c ar_30 aw_30 (by decide) (z_X11_put_11 p0.toInt p1.toInt x74.toInt x94.toInt z52 z52a t74 t94) dX11_put_96 (fun H locs hT hS => ?_)
              obtain ⟨G96, hG96⟩ : ∃ GG : XG, GG = cput G86 (F a 1) x94.toNatClampNeg p2 := ⟨_, rfl⟩
              rw [← hG96] at hT
              refine lv_aload_n hx hb dX11_put_97 rfl (lv_at hl 1 rfl) ?_
              refine gX11_1 S hK hT ha kf_X11_9 dX11_put_98 (fun _ _ => ?_)
              refine lv_iload hx hb dX11_put_101 (lv_at hl 0 rfl) ?_
              refine lv_iconst (v := 2) hx hb dX11_put_103 (by decide) ?_
              refine xi_iadd hx hb (rfl : Int32.toInt x74 = x74.toInt) ((by decide) : Int32.toInt 2 = (2 : Int)) dX11_put_104 (fun x104 t104 => ?_)
              refine lv_iload hx hb dX11_put_105 (lv_at hl 5 rfl) ?_
              refine as_0 (x := p3) S hK hT hS hk9999c ar_30 aw_30 (by decide) (z_X11_put_12 p0.toInt p1.toInt x104.toInt x74.toInt z52 z52a t74 t104) dX11_put_107 (fun H locs hT hS => ?_)
              obtain ⟨G107, hG107⟩ : ∃ GG : XG, GG = cput G96 (F a 1) x104.toNatClampNeg p3 := ⟨_, rfl⟩
              rw [← hG107] at hT
              refine lv_aload_n hx hb dX11_put_108 rfl (lv_at hl 1 rfl) ?_
              refine gX11_1 S hK hT ha kf_X11_9 dX11_put_109 (fun _ _ => ?_)
              refine lv_iload hx hb dX11_put_112 (lv_at hl 0 rfl) ?_
              refine lv_iconst (v := 3) hx hb dX11_put_114 (by decide) ?_
              refine xi_iadd hx hb (rfl : Int32.toInt x74 = x74.toInt) ((by decide) : Int32.toInt 3 = (3 : Int)) dX11_put_115 (fun x115 t115 => ?_)
              refine lv_iload hx hb dX11_put_116 (lv_at hl 6 rfl) ?_
              refine as_0 (x := p4) S hK hT hS hk9999c ar_30 aw_30 (by decide) (z_X11_put_13 p0.toInt p1.toInt x115.toInt x74.toInt z52 z52a t74 t115) dX11_put_118 (fun H locs hT hS => ?_)
              obtain ⟨G118, hG118⟩ : ∃ GG : XG, GG = cput G107 (F a 1) x115.toNatClampNeg p4 := ⟨_, rfl⟩
              rw [← hG118] at hT
              refine lv_aload_n hx hb dX11_put_119 rfl (lv_at hl 1 rfl) ?_
              refine x_cl0 (x_runV (b := a) (As := []) (rest := []) S (c_X11_settles l E K F G118 a (mw (G.2.1 (F a 1)) 0) ha (by rw [(show (G118.1 a 23).toInt = ((G6.1 a 23).toInt) from (congrArg Int32.toInt ((lc_d hG118).trans ((lc_d hG107).trans ((lc_d hG96).trans ((lc_d hG86).trans (hF69.1 _ _ xn0)))))).trans (rfl : Int32.toInt (G6.1 a 23) = ((G6.1 a 23).toInt)))] <;> exact (z_X11_put_14 ((G6.1 a 20).toInt) ((G6.1 a 21).toInt) ((G6.1 a 23).toInt) t6)) (by rw [(show (G118.1 a 43).toInt = ((G.1 a 43).toInt) from (congrArg Int32.toInt ((lc_d hG118).trans ((lc_d hG107).trans ((lc_d hG96).trans ((lc_d hG86).trans ((hF69.1 _ _ xn0).trans ((hF6.1 _ _ (xnj (by decide) (xnj (by decide) (xnj (by decide) xn0)))).trans (ld_j hG2 (by decide))))))))).trans (rfl : Int32.toInt (G.1 a 43) = ((G.1 a 43).toInt)))] <;> exact (am)) (v_X11_put_120_12 (F := F) a G G118 hR ((lc_c hG118 (xne_k hk9999m hk9999c (by decide))).trans ((lc_c hG107 (xne_k hk9999m hk9999c (by decide))).trans ((lc_c hG96 (xne_k hk9999m hk9999c (by decide))).trans ((lc_c hG86 (xne_k hk9999m hk9999c (by decide))).trans ((hF69.2.1 _ (xn1 (xne_k hk9999m hk9999k (by decide)) (xn1 (xne_k hk9999m hk9999l (by decide)) xn0))).trans ((hF6.2.1 _ xn0).trans (ld_c hG2)))))))) (v_X11_put_120_13 (F := F) G86 G69 a x74 G96 x94 p2 G107 x104 p3 G118 x115 p4 G p0 p1 x55 hG86 hG96 hG107 hG118 hM z52 z52a z52b z52c z52d t55 c58 t74 t94 t104 t115 ((hF69.2.1 _ (xn1 (xne_k hk9999c hk9999k (by decide)) (xn1 (xne_k hk9999c hk9999l (by decide)) xn0))).trans ((hF6.2.1 _ xn0).trans (ld_c hG2)))) (v_X11_put_120_14 (F := F) a G G69 G118 hM hB oq69a ((lc_c hG118 (xne_k hk9999k hk9999c (by decide))).trans ((lc_c hG107 (xne_k hk9999k hk9999c (by decide))).trans ((lc_c hG96 (xne_k hk9999k hk9999c (by decide))).trans (lc_c hG86 (xne_k hk9999k hk9999c (by decide))))))) (v_X11_put_120_15 (F := F) a G G69 G118 hM hB oq69a ((lc_c hG118 (xne_k hk9999n hk9999c (by decide))).trans ((lc_c hG107 (xne_k hk9999n hk9999c (by decide))).trans ((lc_c hG96 (xne_k hk9999n hk9999c (by decide))).trans ((lc_c hG86 (xne_k hk9999n hk9999c (by decide))).trans ((hF69.2.1 _ (xn1 (xne_j hj9999n hj9999k (by first | decide | omega)) (xn1 (xne_k hk9999n hk9999l (by decide)) xn0))).trans ((hF6.2.1 _ xn0).trans (ld_c hG2)))))))) (v_X11_put_120_16 (F := F) a G G69 G118 oq69b ((lc_c hG118 (xne_k hk9999m hk9999c (by decide))).trans ((lc_c hG107 (xne_k hk9999m hk9999c (by decide))).trans ((lc_c hG96 (xne_k hk9999m hk9999c (by decide))).trans ((lc_c hG86 (xne_k hk9999m hk9999c (by decide))).trans ((hF69.2.1 _ (xn1 (xne_k hk9999m hk9999k (by decide)) (xn1 (xne_k hk9999m hk9999l (by decide)) xn0))).trans ((hF6.2.1 _ xn0).trans (ld_c hG2))))))) ((lc_c hG118 (xne_k hk9999l hk9999c (by decide))).trans ((lc_c hG107 (xne_k hk9999l hk9999c (by decide))).trans ((lc_c hG96 (xne_k hk9999l hk9999c (by decide))).trans (lc_c hG86 (xne_k hk9999l hk9999c (by decide)))))))) mv_X11_settles km_X11_353 rfl rfl ⟨Nat.le_of_ble_eq_true rfl, Nat.le_of_ble_eq_true rfl⟩ (rc_13 hK hT ha) hK (fun _ => XP.blind) (fun U hU hW => XP.at hK hz hS hT hU hW) rfl hl.1 (Nat.le_of_ble_eq_true rfl) dX11_put_120 ⟨Nat.le_of_ble_eq_true rfl, Nat.le_of_ble_eq_true rfl⟩) hS ?_
              rintro _ G120 H locs ⟨x120, rfl, hF120, t120, oq120, oq120a⟩ hT hS
              have t120 : (0 ≤ ((G120.1 a 23).toInt) ∧ ((G120.1 a 23).toInt) ≤ 24) ∧ (0 ≤ ((G120.1 a 43).toInt) ∧ ((G120.1 a 43).toInt) ≤ 2388) := t120
              have oq120 : ((ffP (G.2.1 (F a 10)) (mw (G118.2.1 (F a 1)) 0) (fuO (G.2.1 (F a 10)) (mw (G.2.1 (F a 1)) 0) (mw (G118.2.1 (F a 1)) 0) 0) ≠ -1 ∨ (((G.1 a 6).toInt) = 0 ∧ ffP (G.2.1 (F a 10)) (mw (G118.2.1 (F a 1)) 0) (fuO (G.2.1 (F a 10)) (mw (G.2.1 (F a 1)) 0) (mw (G118.2.1 (F a 1)) 0) 1) ≠ -1)) ∧ x120.toInt = -5 ∧ mw (G120.2.1 (F a 1)) 0 = mw (G69.2.1 (F a 4)) 0) ∨ (ffP (G.2.1 (F a 10)) (mw (G118.2.1 (F a 1)) 0) (fuO (G.2.1 (F a 10)) (mw (G.2.1 (F a 1)) 0) (mw (G118.2.1 (F a 1)) 0) 0) = -1 ∧ (((G.1 a 6).toInt) = 0 → ffP (G.2.1 (F a 10)) (mw (G118.2.1 (F a 1)) 0) (fuO (G.2.1 (F a 10)) (mw (G.2.1 (F a 1)) 0) (mw (G118.2.1 (F a 1)) 0) 1) = -1) ∧ x120.toInt = (((fuO (G.2.1 (F a 10)) (mw (G.2.1 (F a 1)) 0) (mw (G118.2.1 (F a 1)) 0) 2).length : Nat) : Int) ∧ mw (G120.2.1 (F a 1)) 0 = mw (G118.2.1 (F a 1)) 0) := by simp only [(show G118.2.1 (F a 10) = G.2.1 (F a 10) from ((lc_c hG118 (xne_k hk9999m hk9999c (by decide))).trans ((lc_c hG107 (xne_k hk9999m hk9999c (by decide))).trans ((lc_c hG96 (xne_k hk9999m hk9999c (by decide))).trans ((lc_c hG86 (xne_k hk9999m hk9999c (by decide))).trans ((hF69.2.1 _ (xn1 (xne_k hk9999m hk9999k (by decide)) (xn1 (xne_k hk9999m hk9999l (by decide)) xn0))).trans ((hF6.2.1 _ xn0).trans (ld_c hG2)))))))), (show G118.1 a 6 = G.1 a 6 from ((lc_d hG118).trans ((lc_d hG107).trans ((lc_d hG96).trans ((lc_d hG86).trans ((hF69.1 _ _ xn0).trans ((hF6.1 _ _ (xnj (by decide) (xnj (by decide) (xnj (by decide) xn0)))).trans (ld_j hG2 (by decide))))))))), (show G118.2.1 (F a 4) = G69.2.1 (F a 4) from ((lc_c hG118 (xne_k hk9999k hk9999c (by decide))).trans ((lc_c hG107 (xne_k hk9999k hk9999c (by decide))).trans ((lc_c hG96 (xne_k hk9999k hk9999c (by decide))).trans (lc_c hG86 (xne_k hk9999k hk9999c (by decide)))))))] at oq120; exact oq120
              exact x_ri hx hb hr hlk hQ (Nat.le_of_ble_eq_true rfl) (Nat.le_of_ble_eq_true rfl) hS dX11_put_123 G120 ⟨_, rfl, (XFr.call (by rw [hG118]; exact XFr.cput (by rw [hG107]; exact XFr.cput (by rw [hG96]; exact XFr.cput (by rw [hG86]; exact XFr.cput (XFr.call (XFr.call (by rw [hG2]; exact XFr.dput XFr.rf (List.mem_of_getElem? (i := 9) rfl)) hF6 (xm1 2 rfl (xm1 3 rfl (xm1 4 rfl xm0))) xm0 xm0) hF69 xm0 (xm1 11 rfl (xm1 12 rfl xm0)) xm0) (List.mem_of_getElem? (i := 3) rfl)) (List.mem_of_getElem? (i := 3) rfl)) (List.mem_of_getElem? (i := 3) rfl)) (List.mem_of_getElem? (i := 3) rfl)) hF120 (xm1 0 rfl (xm1 1 rfl (xm1 2 rfl (xm1 3 rfl (xm1 4 rfl (xm1 5 rfl (xm1 6 rfl (xm1 7 rfl (xm1 8 rfl xm0))))))))) (xm1 0 rfl (xm1 1 rfl (xm1 2 rfl (xm1 3 rfl (xm1 4 rfl (xm1 5 rfl (xm1 6 rfl (xm1 7 rfl (xm1 8 rfl (xm1 9 rfl (xm1 10 rfl xm0))))))))))) xm0), (t120), (v_X11_put_123_17 (F := F) G86 G69 a x74 G96 x94 p2 G107 x104 p3 G118 x115 p4 G x120 G120 p0 p1 x55 hG86 hG96 hG107 hG118 oq69 oq120 z52 z52a z52b z52c z52d t55 c58 t74 t94 t104 t115 ((hF69.2.1 _ (xn1 (xne_k hk9999c hk9999k (by decide)) (xn1 (xne_k hk9999c hk9999l (by decide)) xn0))).trans ((hF6.2.1 _ xn0).trans (ld_c hG2)))), (v_X11_put_123_18 (F := F) a G120 oq120a)⟩ hT
            · refine lv_aload_n hx hb dX11_put_61 rfl (lv_at hl 0 rfl) ?_
              refine lv_bipush (v := (-4)) hx hb dX11_put_62 (by decide) ?_
              refine x_cl0 (x_runV (b := a) (As := [.int (-4)]) (rest := []) S (c_X11_refuses l E K F G6 a (-4) ha) mv_X11_refuses km_X11_325 rfl rfl ⟨Nat.le_of_ble_eq_true rfl, Nat.le_of_ble_eq_true rfl⟩ (rc_13 hK hT ha) hK (fun _ => XP.blind) (fun U hU hW => XP.at hK hz hS hT hU hW) rfl hl.1 (Nat.le_of_ble_eq_true rfl) dX11_put_64 ⟨Nat.le_of_ble_eq_true rfl, Nat.le_of_ble_eq_true rfl⟩) hS ?_
              rintro _ G64 H locs ⟨x64, rfl, hF64, t64⟩ hT hS
              have t64 : x64.toInt = (-4 : Int) := by rw [((by decide) : Int32.toInt (-4) = (-4 : Int))] at t64; exact t64
              exact x_ri hx hb hr hlk hQ (Nat.le_of_ble_eq_true rfl) (Nat.le_of_ble_eq_true rfl) hS dX11_put_67 G64 ⟨_, rfl, (XFr.call (XFr.call (by rw [hG2]; exact XFr.dput XFr.rf (List.mem_of_getElem? (i := 9) rfl)) hF6 (xm1 2 rfl (xm1 3 rfl (xm1 4 rfl xm0))) xm0 xm0) hF64 xm0 (xm1 4 rfl xm0) xm0), (by rw [(show (G64.1 a 23).toInt = ((G6.1 a 23).toInt) from (congrArg Int32.toInt (hF64.1 _ _ xn0)).trans (rfl : Int32.toInt (G6.1 a 23) = ((G6.1 a 23).toInt))), (show (G64.1 a 43).toInt = ((G.1 a 43).toInt) from (congrArg Int32.toInt ((hF64.1 _ _ xn0).trans ((hF6.1 _ _ (xnj (by decide) (xnj (by decide) (xnj (by decide) xn0)))).trans (ld_j hG2 (by decide))))).trans (rfl : Int32.toInt (G.1 a 43) = ((G.1 a 43).toInt)))] <;> exact (z_X11_put_1 ((G.1 a 43).toInt) ((G6.1 a 20).toInt) ((G6.1 a 21).toInt) ((G6.1 a 23).toInt) am t6)), (by rw [(t64 : Int32.toInt x64 = (-4 : Int))] <;> exact (v_X11_put_67_19 (F := F) p0 p1 p2 p3 p4 x55 G a G64 z52 z52a z52b z52c z52d t55 c58 ((hF64.2.1 _ (xn1 (xne_k hk9999c hk9999d (by decide)) xn0)).trans ((hF6.2.1 _ xn0).trans (ld_c hG2))))), (v_X11_put_67_20 (F := F) a G G64 hM ((hF64.2.1 _ (xn1 (xne_k hk9999c hk9999d (by decide)) xn0)).trans ((hF6.2.1 _ xn0).trans (ld_c hG2))))⟩ hT
          · refine lv_aload_n hx hb dX11_put_46 rfl (lv_at hl 0 rfl) ?_
            refine lv_iconst (v := (-1)) hx hb dX11_put_47 (by decide) ?_
            refine x_cl0 (x_runV (b := a) (As := [.int (-1)]) (rest := []) S (c_X11_refuses l E K F G6 a (-1) ha) mv_X11_refuses km_X11_325 rfl rfl ⟨Nat.le_of_ble_eq_true rfl, Nat.le_of_ble_eq_true rfl⟩ (rc_13 hK hT ha) hK (fun _ => XP.blind) (fun U hU hW => XP.at hK hz hS hT hU hW) rfl hl.1 (Nat.le_of_ble_eq_true rfl) dX11_put_48 ⟨Nat.le_of_ble_eq_true rfl, Nat.le_of_ble_eq_true rfl⟩) hS ?_
            rintro _ G48 H locs ⟨x48, rfl, hF48, t48⟩ hT hS
            have t48 : x48.toInt = (-1 : Int) := by rw [((by decide) : Int32.toInt (-1) = (-1 : Int))] at t48; exact t48
            exact x_ri hx hb hr hlk hQ (Nat.le_of_ble_eq_true rfl) (Nat.le_of_ble_eq_true rfl) hS dX11_put_51 G48 ⟨_, rfl, (XFr.call (XFr.call (by rw [hG2]; exact XFr.dput XFr.rf (List.mem_of_getElem? (i := 9) rfl)) hF6 (xm1 2 rfl (xm1 3 rfl (xm1 4 rfl xm0))) xm0 xm0) hF48 xm0 (xm1 4 rfl xm0) xm0), (by rw [(show (G48.1 a 23).toInt = ((G6.1 a 23).toInt) from (congrArg Int32.toInt (hF48.1 _ _ xn0)).trans (rfl : Int32.toInt (G6.1 a 23) = ((G6.1 a 23).toInt))), (show (G48.1 a 43).toInt = ((G.1 a 43).toInt) from (congrArg Int32.toInt ((hF48.1 _ _ xn0).trans ((hF6.1 _ _ (xnj (by decide) (xnj (by decide) (xnj (by decide) xn0)))).trans (ld_j hG2 (by decide))))).trans (rfl : Int32.toInt (G.1 a 43) = ((G.1 a 43).toInt)))] <;> exact (z_X11_put_1 ((G.1 a 43).toInt) ((G6.1 a 20).toInt) ((G6.1 a 21).toInt) ((G6.1 a 23).toInt) am t6)), (by rw [(t48 : Int32.toInt x48 = (-1 : Int))] <;> exact (v_X11_put_51_21 (F := F) x40 p4 G48 a G p0 p1 p2 p3 t40 c43 ((hF48.2.1 _ (xn1 (xne_k hk9999c hk9999d (by decide)) xn0)).trans ((hF6.2.1 _ xn0).trans (ld_c hG2))))), (v_X11_put_51_22 (F := F) a G G48 hM ((hF48.2.1 _ (xn1 (xne_k hk9999c hk9999d (by decide)) xn0)).trans ((hF6.2.1 _ xn0).trans (ld_c hG2))))⟩ hT

theorem z_X11_isFor_1 (a0 : Int) (a1 : Int) (a2 : Int) (a3 : Int) (a4 : Int) (a5 : Int) (a6 : Int) (h0 : ((0 ≤ a0 ∧ a0 < 12 ∧ a3 = 1 ∧ a4 = a1) ∧ a6 = a5) ∨ (¬ (0 ≤ a0 ∧ a0 < 12 ∧ a3 = 1 ∧ a4 = a1) ∧ a6 = 0)) (h1 : (a2 = 1 ∧ 0 ≤ a0 ∧ a0 ≤ 11 ∧ a3 ≠ -1) ∨ (a2 = 0 ∧ (¬ (0 ≤ a0 ∧ a0 ≤ 11) ∨ a3 = -1))) (h2 : a2 = 0) : ((0 : Int) = 1 ∧ 0 < a6) ∨ ((0 : Int) = 0 ∧ ¬ (0 < a6)) := by omega
theorem z_X11_isFor_2 (a0 : Int) (a1 : Int) (a2 : Int) (h0 : (a1 = 1 ∧ 0 ≤ a0 ∧ a0 ≤ 11 ∧ a2 ≠ -1) ∨ (a1 = 0 ∧ (¬ (0 ≤ a0 ∧ a0 ≤ 11) ∨ a2 = -1))) (h1 : ¬ (a1 = 0)) : 0 ≤ a0 ∧ a0 ≤ 11 := by omega
theorem z_X11_isFor_3 (a0 : Int) (a1 : Int) (a2 : Int) (a3 : Int) (a4 : Int) (a5 : Int) (h0 : ((0 ≤ a0 ∧ a0 < 12 ∧ a2 = 1 ∧ a3 = a1) ∧ a5 = a4) ∨ (¬ (0 ≤ a0 ∧ a0 < 12 ∧ a2 = 1 ∧ a3 = a1) ∧ a5 = 0)) (h1 : a2 ≠ (1 : Int)) : ((0 : Int) = 1 ∧ 0 < a5) ∨ ((0 : Int) = 0 ∧ ¬ (0 < a5)) := by omega
theorem z_X11_isFor_5 (a0 : Int) (a1 : Int) (a2 : Int) (a3 : Int) (a4 : Int) (a5 : Int) (h0 : ((0 ≤ a0 ∧ a0 < 12 ∧ a2 = 1 ∧ a3 = a1) ∧ a5 = a4) ∨ (¬ (0 ≤ a0 ∧ a0 < 12 ∧ a2 = 1 ∧ a3 = a1) ∧ a5 = 0)) (h1 : a3 ≠ a1) : ((0 : Int) = 1 ∧ 0 < a5) ∨ ((0 : Int) = 0 ∧ ¬ (0 < a5)) := by omega
theorem z_X11_isFor_7 (a0 : Int) (a1 : Int) (a2 : Int) (a3 : Int) (a4 : Int) (a5 : Int) (h0 : ((0 ≤ a0 ∧ a0 < 12 ∧ a2 = 1 ∧ a3 = a1) ∧ a5 = a4) ∨ (¬ (0 ≤ a0 ∧ a0 < 12 ∧ a2 = 1 ∧ a3 = a1) ∧ a5 = 0)) (h1 : a4 ≤ 0) : ((0 : Int) = 1 ∧ 0 < a5) ∨ ((0 : Int) = 0 ∧ ¬ (0 < a5)) := by omega
theorem z_X11_isFor_8 (a0 : Int) (a1 : Int) (a2 : Int) (a3 : Int) (a4 : Int) (a5 : Int) (a6 : Int) (h0 : ((0 ≤ a0 ∧ a0 < 12 ∧ a3 = 1 ∧ a4 = a1) ∧ a6 = a5) ∨ (¬ (0 ≤ a0 ∧ a0 < 12 ∧ a3 = 1 ∧ a4 = a1) ∧ a6 = 0)) (h1 : (a2 = 1 ∧ 0 ≤ a0 ∧ a0 ≤ 11 ∧ a3 ≠ -1) ∨ (a2 = 0 ∧ (¬ (0 ≤ a0 ∧ a0 ≤ 11) ∨ a3 = -1))) (h2 : ¬ (a2 = 0)) (h3 : ¬ (a3 ≠ (1 : Int))) (h4 : ¬ (a4 ≠ a1)) (h5 : ¬ (a5 ≤ 0)) : ((1 : Int) = 1 ∧ 0 < a6) ∨ ((1 : Int) = 0 ∧ ¬ (0 < a6)) := by omega
abbrev rm_X11_isFor : Room := { frames := 2, cells := 0, slots := 0, locals := 46 }
set_option maxHeartbeats 4000000 in
set_option maxRecDepth 100000 in
theorem c_X11_isFor (l : Launch) (E : XE) (K : Nat → Nat) (F : Nat → Nat → Nat) (G : XG) (h0 : Heap) (a : Nat) (p0 : Int32) (p1 : Int32) (ha : K a = 13) : Met l yX11_isFor (xw yX11_isFor cX11_isFor 3 (some .boolean)) rm_X11_isFor (va_Pc [.ref a, .int p0, .int p1] (XPh E K F G h0)) (XQ E (fun v (u : Unit) => ∃ r : Int32, v = .int r ∧ (r = 0 ∨ r = 1) ∧ ((r.toInt = 1 ∧ 0 < (refA (G.2.1 (F a 10)) (p0.toInt) (p1.toInt))) ∨ (r.toInt = 0 ∧ ¬ (0 < (refA (G.2.1 (F a 10)) (p0.toInt) (p1.toInt)))))) (fun _ H => H = h0)) 0 0 (xA E) := by
  refine x_enter (by decide) (Nat.le_of_ble_eq_true rfl) ?_
  intro p e s m args below meth c Q S hr hlk hnm hQ hP ls hl
  obtain ⟨⟨hz, hK, hT⟩, hh⟩ := hP
  obtain ⟨hx, hb, -, -, -⟩ := id S
  have hS : va_S (xA E) s.heap s.heap [] := va_S.rf
  have hl : lv_has ls 3 [(0, .ref a), (1, .int p0), (2, .int p1)] := hl
  obtain ⟨hk9999, hj9999⟩ := fkX11_10 hT ha
  have z0 : ((0 ≤ p0.toInt ∧ p0.toInt < 12 ∧ (aI (G.2.1 (F a 10)) (10 * p0.toInt + 0)) = 1 ∧ (aI (G.2.1 (F a 10)) (10 * p0.toInt + 3)) = p1.toInt) ∧ (refA (G.2.1 (F a 10)) (p0.toInt) (p1.toInt)) = (aI (G.2.1 (F a 10)) (10 * p0.toInt + 8))) ∨ (¬ (0 ≤ p0.toInt ∧ p0.toInt < 12 ∧ (aI (G.2.1 (F a 10)) (10 * p0.toInt + 0)) = 1 ∧ (aI (G.2.1 (F a 10)) (10 * p0.toInt + 3)) = p1.toInt) ∧ (refA (G.2.1 (F a 10)) (p0.toInt) (p1.toInt)) = 0) := refA_f
  refine lv_aload_n hx hb dX11_isFor_0 rfl (lv_at hl 0 rfl) ?_
  refine lv_iload_n hx hb dX11_isFor_1 rfl (lv_at hl 1 rfl) ?_
  refine x_clp (x_runV (b := a) (As := [.int p0]) (rest := []) S (c_X11_isRule l E K F G s.heap a p0 ha) mv_X11_isRule km_X11_162 rfl rfl ⟨Nat.le_of_ble_eq_true rfl, Nat.le_of_ble_eq_true rfl⟩ (rc_13 hK hT ha) hK (fun _ => XPh.blind) (fun U hU hW => XPh.at hK hz hS hT hU hW) rfl hl.1 (Nat.le_of_ble_eq_true rfl) dX11_isFor_2 ⟨Nat.le_of_ble_eq_true rfl, Nat.le_of_ble_eq_true rfl⟩) hS ?_
  rintro _ _ locs ⟨x2, rfl, b2, t2⟩ hS
  have t2 : (x2.toInt = 1 ∧ 0 ≤ p0.toInt ∧ p0.toInt ≤ 11 ∧ (aI (G.2.1 (F a 10)) (10 * p0.toInt + 0)) ≠ -1) ∨ (x2.toInt = 0 ∧ (¬ (0 ≤ p0.toInt ∧ p0.toInt ≤ 11) ∨ (aI (G.2.1 (F a 10)) (10 * p0.toInt + 0)) = -1)) := t2
  refine xi_zeq (tgt := 42) hx hb (rfl : Int32.toInt x2 = x2.toInt) dX11_isFor_5 (by decide) (fun c5 => ?_) (fun c5 => ?_)
  · refine lv_iconst (v := 0) hx hb dX11_isFor_42 (by decide) ?_
    exact x_rz hx hb hr (xnz (Or.inl rfl)) hlk hQ (Nat.le_of_ble_eq_true rfl) (Nat.le_of_ble_eq_true rfl) hS dX11_isFor_43 () ⟨_, rfl, (Or.inl rfl), (z_X11_isFor_1 p0.toInt p1.toInt x2.toInt (aI (G.2.1 (F a 10)) (10 * p0.toInt + 0)) (aI (G.2.1 (F a 10)) (10 * p0.toInt + 3)) (aI (G.2.1 (F a 10)) (10 * p0.toInt + 8)) (refA (G.2.1 (F a 10)) (p0.toInt) (p1.toInt)) z0 t2 c5)⟩ hh
  · refine lv_aload_n hx hb dX11_isFor_8 rfl (lv_at hl 0 rfl) ?_
    refine lv_iload_n hx hb dX11_isFor_9 rfl (lv_at hl 1 rfl) ?_
    refine lv_iconst (v := 0) hx hb dX11_isFor_10 (by decide) ?_
    refine x_clp (x_runV (b := a) (As := [.int p0, .int 0]) (rest := []) S (c_X11_of l E K F G s.heap a p0 0 ha (z_X11_isFor_2 p0.toInt x2.toInt (aI (G.2.1 (F a 10)) (10 * p0.toInt + 0)) t2 c5) (by decide)) mv_X11_of km_X11_165 rfl rfl ⟨Nat.le_of_ble_eq_true rfl, Nat.le_of_ble_eq_true rfl⟩ (rc_13 hK hT ha) hK (fun _ => XPh.blind) (fun U hU hW => XPh.at hK hz hS hT hU hW) rfl hl.1 (Nat.le_of_ble_eq_true rfl) dX11_isFor_11 ⟨Nat.le_of_ble_eq_true rfl, Nat.le_of_ble_eq_true rfl⟩) hS ?_
    rintro _ _ locs ⟨x11, rfl, t11⟩ hS
    have t11 : x11.toInt = (aI (G.2.1 (F a 10)) (10 * p0.toInt + 0)) := t11
    refine lv_iconst (v := 1) hx hb dX11_isFor_14 (by decide) ?_
    refine xi_cne (tgt := 42) hx hb (t11 : Int32.toInt x11 = (aI (G.2.1 (F a 10)) (10 * p0.toInt + 0))) ((by decide) : Int32.toInt 1 = (1 : Int)) dX11_isFor_15 (by decide) (fun c15 => ?_) (fun c15 => ?_)
    · refine lv_iconst (v := 0) hx hb dX11_isFor_42 (by decide) ?_
      exact x_rz hx hb hr (xnz (Or.inl rfl)) hlk hQ (Nat.le_of_ble_eq_true rfl) (Nat.le_of_ble_eq_true rfl) hS dX11_isFor_43 () ⟨_, rfl, (Or.inl rfl), (z_X11_isFor_3 p0.toInt p1.toInt (aI (G.2.1 (F a 10)) (10 * p0.toInt + 0)) (aI (G.2.1 (F a 10)) (10 * p0.toInt + 3)) (aI (G.2.1 (F a 10)) (10 * p0.toInt + 8)) (refA (G.2.1 (F a 10)) (p0.toInt) (p1.toInt)) z0 c15)⟩ hh
    · refine lv_aload_n hx hb dX11_isFor_18 rfl (lv_at hl 0 rfl) ?_
      refine lv_iload_n hx hb dX11_isFor_19 rfl (lv_at hl 1 rfl) ?_
      refine lv_iconst (v := 3) hx hb dX11_isFor_20 (by decide) ?_
      refine x_clp (x_runV (b := a) (As := [.int p0, .int 3]) (rest := []) S (c_X11_of l E K F G s.heap a p0 3 ha (z_X11_isFor_2 p0.toInt x2.toInt (aI (G.2.1 (F a 10)) (10 * p0.toInt + 0)) t2 c5) (by decide)) mv_X11_of km_X11_165 rfl rfl ⟨Nat.le_of_ble_eq_true rfl, Nat.le_of_ble_eq_true rfl⟩ (rc_13 hK hT ha) hK (fun _ => XPh.blind) (fun U hU hW => XPh.at hK hz hS hT hU hW) rfl hl.1 (Nat.le_of_ble_eq_true rfl) dX11_isFor_21 ⟨Nat.le_of_ble_eq_true rfl, Nat.le_of_ble_eq_true rfl⟩) hS ?_
      rintro _ _ locs ⟨x21, rfl, t21⟩ hS
      have t21 : x21.toInt = (aI (G.2.1 (F a 10)) (10 * p0.toInt + 3)) := t21
      refine lv_iload_n hx hb dX11_isFor_24 rfl (lv_at hl 2 rfl) ?_
      refine xi_cne (tgt := 42) hx hb (t21 : Int32.toInt x21 = (aI (G.2.1 (F a 10)) (10 * p0.toInt + 3))) (rfl : Int32.toInt p1 = p1.toInt) dX11_isFor_25 (by decide) (fun c25 => ?_) (fun c25 => ?_)
      · refine lv_iconst (v := 0) hx hb dX11_isFor_42 (by decide) ?_
        exact x_rz hx hb hr (xnz (Or.inl rfl)) hlk hQ (Nat.le_of_ble_eq_true rfl) (Nat.le_of_ble_eq_true rfl) hS dX11_isFor_43 () ⟨_, rfl, (Or.inl rfl), (z_X11_isFor_5 p0.toInt p1.toInt (aI (G.2.1 (F a 10)) (10 * p0.toInt + 0)) (aI (G.2.1 (F a 10)) (10 * p0.toInt + 3)) (aI (G.2.1 (F a 10)) (10 * p0.toInt + 8)) (refA (G.2.1 (F a 10)) (p0.toInt) (p1.toInt)) z0 c25)⟩ hh
      · refine lv_aload_n hx hb dX11_isFor_28 rfl (lv_at hl 0 rfl) ?_
        refine lv_iload_n hx hb dX11_isFor_29 rfl (lv_at hl 1 rfl) ?_
        refine lv_bipush (v := 8) hx hb dX11_isFor_30 (by decide) ?_
        refine x_clp (x_runV (b := a) (As := [.int p0, .int 8]) (rest := []) S (c_X11_of l E K F G s.heap a p0 8 ha (z_X11_isFor_2 p0.toInt x2.toInt (aI (G.2.1 (F a 10)) (10 * p0.toInt + 0)) t2 c5) (by decide)) mv_X11_of km_X11_165 rfl rfl ⟨Nat.le_of_ble_eq_true rfl, Nat.le_of_ble_eq_true rfl⟩ (rc_13 hK hT ha) hK (fun _ => XPh.blind) (fun U hU hW => XPh.at hK hz hS hT hU hW) rfl hl.1 (Nat.le_of_ble_eq_true rfl) dX11_isFor_32 ⟨Nat.le_of_ble_eq_true rfl, Nat.le_of_ble_eq_true rfl⟩) hS ?_
        rintro _ _ locs ⟨x32, rfl, t32⟩ hS
        have t32 : x32.toInt = (aI (G.2.1 (F a 10)) (10 * p0.toInt + 8)) := t32
        refine xi_zle (tgt := 42) hx hb (t32 : Int32.toInt x32 = (aI (G.2.1 (F a 10)) (10 * p0.toInt + 8))) dX11_isFor_35 (by decide) (fun c35 => ?_) (fun c35 => ?_)
        · refine lv_iconst (v := 0) hx hb dX11_isFor_42 (by decide) ?_
          exact x_rz hx hb hr (xnz (Or.inl rfl)) hlk hQ (Nat.le_of_ble_eq_true rfl) (Nat.le_of_ble_eq_true rfl) hS dX11_isFor_43 () ⟨_, rfl, (Or.inl rfl), (z_X11_isFor_7 p0.toInt p1.toInt (aI (G.2.1 (F a 10)) (10 * p0.toInt + 0)) (aI (G.2.1 (F a 10)) (10 * p0.toInt + 3)) (aI (G.2.1 (F a 10)) (10 * p0.toInt + 8)) (refA (G.2.1 (F a 10)) (p0.toInt) (p1.toInt)) z0 c35)⟩ hh
        · refine lv_iconst (v := 1) hx hb dX11_isFor_38 (by decide) ?_
          refine lv_goto (tgt := 43) hx hb dX11_isFor_39 (by decide) ?_
          exact x_rz hx hb hr (xnz (Or.inr rfl)) hlk hQ (Nat.le_of_ble_eq_true rfl) (Nat.le_of_ble_eq_true rfl) hS dX11_isFor_43 () ⟨_, rfl, (Or.inr rfl), (z_X11_isFor_8 p0.toInt p1.toInt x2.toInt (aI (G.2.1 (F a 10)) (10 * p0.toInt + 0)) (aI (G.2.1 (F a 10)) (10 * p0.toInt + 3)) (aI (G.2.1 (F a 10)) (10 * p0.toInt + 8)) (refA (G.2.1 (F a 10)) (p0.toInt) (p1.toInt)) z0 t2 c5 c15 c25 c35)⟩ hh

theorem z_X11_goes_1 (a0 : Int) (h0 : 0 ≤ a0 ∧ a0 < 90) : 0 ≤ a0 ∧ a0 < ((90 : Nat) : Int) := by omega
abbrev rm_X11_goes : Room := { frames := 1, cells := 0, slots := 0, locals := 21 }
set_option maxHeartbeats 4000000 in
set_option maxRecDepth 100000 in
theorem c_X11_goes (l : Launch) (E : XE) (K : Nat → Nat) (F : Nat → Nat → Nat) (G : XG) (a : Nat) (p0 : Int32) (p1 : Int32) (p2 : Int32) (ha : K a = 13) (e0 : 0 ≤ p0.toInt ∧ p0.toInt < 90) (e1 : 0 ≤ p1.toInt ∧ p1.toInt < 3) (e2 : 0 ≤ p2.toInt ∧ p2.toInt < 30) (hM : RM (G.2.1 (F a 1)) 0) : Met l yX11_goes (xw yX11_goes cX11_goes 4 none) rm_X11_goes (va_Pc [.ref a, .int p0, .int p1, .int p2] (XP E K F G)) (XQv E (fun (u : XG) => XFr [] [F a 47, F a 48, F a 49, F a 50, F a 1] [] G u ∧ (∀ z : Int, 0 ≤ z → aI (u.2.1 (F a 47)) z = if z = p0.toInt then p1.toInt else aI (G.2.1 (F a 47)) z) ∧ (∀ z : Int, 0 ≤ z → aI (u.2.1 (F a 48)) z = if z = p0.toInt then p2.toInt else aI (G.2.1 (F a 48)) z) ∧ (∀ z : Int, 0 ≤ z → aI (u.2.1 (F a 49)) z = if z = p0.toInt then 0 else aI (G.2.1 (F a 49)) z) ∧ (∀ z : Int, 0 ≤ z → aI (u.2.1 (F a 50)) z = if z = p0.toInt then 0 else aI (G.2.1 (F a 50)) z) ∧ (mw (u.2.1 (F a 1)) 0 = rfil (mw (G.2.1 (F a 1)) 0) p1.toInt p2.toInt (-2000) 3) ∧ (RM (u.2.1 (F a 1)) 0)) (fun u H => TW E K F u H)) 0 0 (xA E) := by
  refine x_enter (by decide) (Nat.le_of_ble_eq_true rfl) ?_
  intro p e s m args below meth c Q S hr hlk hnm hQ hP ls hl
  obtain ⟨hz, hK, hT⟩ := hP
  obtain ⟨hx, hb, -, -, -⟩ := id S
  obtain ⟨H, hT, hS, hgo⟩ : ∃ H : Heap, TW E K F G H ∧ va_S (xA E) s.heap H [] ∧ H = s.heap := ⟨_, hT, va_S.rf, rfl⟩
  rw [← hgo]
  have hl : lv_has ls 4 [(0, .ref a), (1, .int p0), (2, .int p1), (3, .int p2)] := hl
  obtain ⟨hk9999, hj9999⟩ := fkX11_47 hT ha
  obtain ⟨hk9999a, hj9999a⟩ := fkX11_48 hT ha
  obtain ⟨hk9999b, hj9999b⟩ := fkX11_49 hT ha
  obtain ⟨hk9999c, hj9999c⟩ := fkX11_50 hT ha
  obtain ⟨hk9999d, hj9999d⟩ := fkX11_1 hT ha
  refine lv_aload_n hx hb dX11_goes_0 rfl (lv_at hl 0 rfl) ?_
  refine gX11_47 S hK hT ha kf_X11_118 dX11_goes_1 (fun _ _ => ?_)
  refine lv_iload_n hx hb dX11_goes_4 rfl (lv_at hl 1 rfl) ?_
  refine lv_iload_n hx hb dX11_goes_5 rfl (lv_at hl 2 rfl) ?_
  refine as_0 (x := p1) S hK hT hS hk9999 ar_55 aw_55 (by decide) (z_X11_goes_1 p0.toInt e0) dX11_goes_6 (fun H locs hT hS => ?_)
  obtain ⟨G6, hG6⟩ : ∃ GG : XG, GG = cput G (F a 47) p0.toNatClampNeg p1 := ⟨_, rfl⟩
  rw [← hG6] at hT
  refine lv_aload_n hx hb dX11_goes_7 rfl (lv_at hl 0 rfl) ?_
  refine gX11_48 S hK hT ha kf_X11_121 dX11_goes_8 (fun _ _ => ?_)
  refine lv_iload_n hx hb dX11_goes_11 rfl (lv_at hl 1 rfl) ?_
  refine lv_iload_n hx hb dX11_goes_12 rfl (lv_at hl 3 rfl) ?_
  refine as_0 (x := p2) S hK hT hS hk9999a ar_56 aw_56 (by decide) (z_X11_goes_1 p0.toInt e0) dX11_goes_13 (fun H locs hT hS => ?_)
  obtain ⟨G13, hG13⟩ : ∃ GG : XG, GG = cput G6 (F a 48) p0.toNatClampNeg p2 := ⟨_, rfl⟩
  rw [← hG13] at hT
  refine lv_aload_n hx hb dX11_goes_14 rfl (lv_at hl 0 rfl) ?_
  refine gX11_49 S hK hT ha kf_X11_124 dX11_goes_15 (fun _ _ => ?_)
  refine lv_iload_n hx hb dX11_goes_18 rfl (lv_at hl 1 rfl) ?_
  refine lv_iconst (v := 0) hx hb dX11_goes_19 (by decide) ?_
  refine as_0 (x := 0) S hK hT hS hk9999b ar_57 aw_57 (by decide) (z_X11_goes_1 p0.toInt e0) dX11_goes_20 (fun H locs hT hS => ?_)
  obtain ⟨G20, hG20⟩ : ∃ GG : XG, GG = cput G13 (F a 49) p0.toNatClampNeg 0 := ⟨_, rfl⟩
  rw [← hG20] at hT
  refine lv_aload_n hx hb dX11_goes_21 rfl (lv_at hl 0 rfl) ?_
  refine gX11_50 S hK hT ha kf_X11_127 dX11_goes_22 (fun _ _ => ?_)
  refine lv_iload_n hx hb dX11_goes_25 rfl (lv_at hl 1 rfl) ?_
  refine lv_iconst (v := 0) hx hb dX11_goes_26 (by decide) ?_
  refine as_0 (x := 0) S hK hT hS hk9999c ar_58 aw_58 (by decide) (z_X11_goes_1 p0.toInt e0) dX11_goes_27 (fun H locs hT hS => ?_)
  obtain ⟨G27, hG27⟩ : ∃ GG : XG, GG = cput G20 (F a 50) p0.toNatClampNeg 0 := ⟨_, rfl⟩
  rw [← hG27] at hT
  refine lv_aload_n hx hb dX11_goes_28 rfl (lv_at hl 0 rfl) ?_
  refine gX11_1 S hK hT ha kf_X11_9 dX11_goes_29 (fun _ _ => ?_)
  refine lv_iload_n hx hb dX11_goes_32 rfl (lv_at hl 2 rfl) ?_
  refine lv_iload_n hx hb dX11_goes_33 rfl (lv_at hl 3 rfl) ?_
  refine x_clp (x_runS (As := [.int p1, .int p2]) (rest := [.ref (F a 1)]) S (c_X11_at l E K F G27 H p1 p2) ms_X11_at km_X11_156 rfl rfl ⟨Nat.le_of_ble_eq_true rfl, Nat.le_of_ble_eq_true rfl⟩ hK (fun _ => XPh.blind) (fun U hU hW => XPh.at hK hz hS hT hU hW) rfl hl.1 (Nat.le_of_ble_eq_true rfl) dX11_goes_34 ⟨Nat.le_of_ble_eq_true rfl, Nat.le_of_ble_eq_true rfl⟩) hS ?_
  rintro _ _ locs ⟨x34, rfl, t34⟩ hS
  have t34 : 0 ≤ p1.toInt ∧ p1.toInt ≤ 2 ∧ 0 ≤ p2.toInt ∧ p2.toInt ≤ 29 → x34.toInt = 4 * (30 * p1.toInt + p2.toInt) := t34
  refine lv_iconst (v := 0) hx hb dX11_goes_37 (by decide) ?_
  refine as_0 (x := 0) S hK hT hS hk9999d ar_30 aw_30 (by decide) (z_X11_put_10 p1.toInt p2.toInt x34.toInt e1 e2 t34) dX11_goes_38 (fun H locs hT hS => ?_)
  obtain ⟨G38, hG38⟩ : ∃ GG : XG, GG = cput G27 (F a 1) x34.toNatClampNeg 0 := ⟨_, rfl⟩
  rw [← hG38] at hT
  exact x_rv hx hb hr hlk hQ (Nat.le_of_ble_eq_true rfl) (Nat.le_of_ble_eq_true rfl) hS dX11_goes_39 G38 ⟨(by rw [hG38]; exact XFr.cput (by rw [hG27]; exact XFr.cput (by rw [hG20]; exact XFr.cput (by rw [hG13]; exact XFr.cput (by rw [hG6]; exact XFr.cput XFr.rf (List.mem_of_getElem? (i := 0) rfl)) (List.mem_of_getElem? (i := 1) rfl)) (List.mem_of_getElem? (i := 2) rfl)) (List.mem_of_getElem? (i := 3) rfl)) (List.mem_of_getElem? (i := 4) rfl)), (v_X11_goes_39_1 (K := K) (F := F) a G6 G p0 p1 p2 G38 x34 ha hG6 e0 e1 e2 t34 ((lc_c hG38 (xne_k hk9999 hk9999d (by decide))).trans ((lc_c hG27 (xne_k hk9999 hk9999c (by decide))).trans ((lc_c hG20 (xne_k hk9999 hk9999b (by decide))).trans (lc_c hG13 (xne_k hk9999 hk9999a (by decide))))))), (v_X11_goes_39_2 (K := K) (F := F) a G6 G p0 p1 G13 p2 G38 x34 ha hG13 e0 e1 e2 t34 ((lc_c hG38 (xne_k hk9999a hk9999d (by decide))).trans ((lc_c hG27 (xne_k hk9999a hk9999c (by decide))).trans (lc_c hG20 (xne_k hk9999a hk9999b (by decide))))) (lc_c hG6 (xne_k hk9999a hk9999 (by decide)))), (v_X11_goes_39_3 (K := K) (F := F) a G p0 p1 G13 p2 G20 G38 x34 ha hG20 e0 e1 e2 t34 ((lc_c hG13 (xne_k hk9999b hk9999a (by decide))).trans (lc_c hG6 (xne_k hk9999b hk9999 (by decide)))) ((lc_c hG38 (xne_k hk9999b hk9999d (by decide))).trans (lc_c hG27 (xne_k hk9999b hk9999c (by decide))))), (v_X11_goes_39_4 (K := K) (F := F) a G p0 p1 p2 G20 G27 G38 x34 ha hG27 e0 e1 e2 t34 ((lc_c hG20 (xne_k hk9999c hk9999b (by decide))).trans ((lc_c hG13 (xne_k hk9999c hk9999a (by decide))).trans (lc_c hG6 (xne_k hk9999c hk9999 (by decide))))) (lc_c hG38 (xne_k hk9999c hk9999d (by decide)))), (v_X11_goes_39_5 (K := K) (F := F) a G p0 p1 p2 G27 G38 x34 ha hG38 e0 e1 e2 t34 ((lc_c hG27 (xne_k hk9999d hk9999c (by decide))).trans ((lc_c hG20 (xne_k hk9999d hk9999b (by decide))).trans ((lc_c hG13 (xne_k hk9999d hk9999a (by decide))).trans (lc_c hG6 (xne_k hk9999d hk9999 (by decide))))))), (v_X11_goes_39_6 (K := K) (F := F) a G p0 p1 p2 G27 G38 x34 ha hG38 hM e0 e1 e2 t34 ((lc_c hG27 (xne_k hk9999d hk9999c (by decide))).trans ((lc_c hG20 (xne_k hk9999d hk9999b (by decide))).trans ((lc_c hG13 (xne_k hk9999d hk9999a (by decide))).trans (lc_c hG6 (xne_k hk9999d hk9999 (by decide)))))))⟩ hT
theorem v_X11_cutAll_4_1 {K : Nat → Nat} {F : Nat → Nat → Nat} (a : Nat) (G : XG) (p0 : Int32) (p1 : Int32)
    (ha : K a = 13)
    (hk9999 : K (F a 47) = 55)
    (hj9999 : F (F a 47) 99 = 47)
    (hk9999a : K (F a 48) = 56)
    (hj9999a : F (F a 48) 99 = 48)
    (hk9999b : K (F a 49) = 57)
    (hj9999b : F (F a 49) 99 = 49)
    (hk9999c : K (F a 50) = 58)
    (hj9999c : F (F a 50) 99 = 50)
    (hk9999d : K (F a 1) = 30)
    (hj9999d : F (F a 1) 99 = 1)
    (hk9999e : K (F a 10) = 37)
    (hj9999e : F (F a 10) 99 = 10)
    (hR : RV (G.2.1 (F a 10)))
    (hM : RM (G.2.1 (F a 1)) (0))
    (e1 : 0 ≤ p0.toInt ∧ p0.toInt < 3)
    (e2 : 0 ≤ p1.toInt ∧ p1.toInt < 30)
    (e3 : (cel (mw (G.2.1 (F a 1)) 0) (p0.toInt) (p1.toInt) 0) ≠ -2000) :
    RM (G.2.1 (F a 1)) 0 := by
  first | assumption | omega
theorem v_X11_cutAll_8_2 {K : Nat → Nat} {F : Nat → Nat → Nat} (a : Nat) (G : XG) (G4 : XG) (p0 : Int32) (p1 : Int32)
    (ha : K a = 13)
    (oq4 : ∀ z : Int, 0 ≤ z → aI (G4.2.1 (F a 47)) z = if z = (0 : Int) then p0.toInt else aI (G.2.1 (F a 47)) z)
    (oq4a : ∀ z : Int, 0 ≤ z → aI (G4.2.1 (F a 48)) z = if z = (0 : Int) then p1.toInt else aI (G.2.1 (F a 48)) z)
    (oq4b : ∀ z : Int, 0 ≤ z → aI (G4.2.1 (F a 49)) z = if z = (0 : Int) then 0 else aI (G.2.1 (F a 49)) z)
    (oq4c : ∀ z : Int, 0 ≤ z → aI (G4.2.1 (F a 50)) z = if z = (0 : Int) then 0 else aI (G.2.1 (F a 50)) z)
    (e1 : 0 ≤ p0.toInt ∧ p0.toInt < 3)
    (e2 : 0 ≤ p1.toInt ∧ p1.toInt < 30)
    (e3 : (cel (mw (G.2.1 (F a 1)) 0) (p0.toInt) (p1.toInt) 0) ≠ -2000) :
    0 ≤ (cmu (gst (G4.2.1 (F a 47)) (G4.2.1 (F a 48)) (G4.2.1 (F a 49)) (G4.2.1 (F a 50)) (Int.toNat 1), mw (G4.2.1 (F a 1)) 0)) ∧ (cmu (gst (G4.2.1 (F a 47)) (G4.2.1 (F a 48)) (G4.2.1 (F a 49)) (G4.2.1 (F a 50)) (Int.toNat 1), mw (G4.2.1 (F a 1)) 0)) < 40000 := by
  have e := gst_g (n := 0) (by decide) oq4 oq4a oq4b oq4c
  rw [show Int.toNat 1 = ((0 : Int) + 1).toNat from rfl, e]
  have hb := pn_b (mw (G4.2.1 (F a 1)) 0)
  show 0 ≤ 404 * pn (mw (G4.2.1 (F a 1)) 0) + (31 * (12 - 0) + 31 - 0 + 0) ∧ 404 * pn (mw (G4.2.1 (F a 1)) 0) + (31 * (12 - 0) + 31 - 0 + 0) < 40000
  omega
theorem v_X11_cutAll_227_3 {K : Nat → Nat} {F : Nat → Nat → Nat} (a : Nat) (G : XG) (G4 : XG) (G_9 : XG) (p0 : Int32) (p1 : Int32) (l3_9 : Int32) (N9 : Nat)
    (ha : K a = 13)
    (fi : cfin (refA (G.2.1 (F a 10))) (refT (G.2.1 (F a 10))) (refC (G.2.1 (F a 10))) (gst (G_9.2.1 (F a 47)) (G_9.2.1 (F a 48)) (G_9.2.1 (F a 49)) (G_9.2.1 (F a 50)) (Int.toNat (l3_9.toInt)), mw (G_9.2.1 (F a 1)) 0) = cfin (refA (G.2.1 (F a 10))) (refT (G.2.1 (F a 10))) (refC (G.2.1 (F a 10))) ([(p0.toInt, p1.toInt, 0, 0)], rfil (mw (G.2.1 (F a 1)) 0) p0.toInt p1.toInt (-2000) 3))
    (e1 : 0 ≤ p0.toInt ∧ p0.toInt < 3)
    (e2 : 0 ≤ p1.toInt ∧ p1.toInt < 30)
    (e3 : (cel (mw (G.2.1 (F a 1)) 0) (p0.toInt) (p1.toInt) 0) ≠ -2000)
    (en8 : 0 ≤ (cmu (gst (G4.2.1 (F a 47)) (G4.2.1 (F a 48)) (G4.2.1 (F a 49)) (G4.2.1 (F a 50)) (Int.toNat 1), mw (G4.2.1 (F a 1)) 0)) ∧ (cmu (gst (G4.2.1 (F a 47)) (G4.2.1 (F a 48)) (G4.2.1 (F a 49)) (G4.2.1 (F a 50)) (Int.toNat 1), mw (G4.2.1 (F a 1)) 0)) < 40000)
    (I9_0 : 0 ≤ l3_9.toInt ∧ l3_9.toInt ≤ 90)
    (I9_1 : 0 ≤ (cmu (gst (G_9.2.1 (F a 47)) (G_9.2.1 (F a 48)) (G_9.2.1 (F a 49)) (G_9.2.1 (F a 50)) (Int.toNat (l3_9.toInt)), mw (G_9.2.1 (F a 1)) 0)))
    (hm9 : (cmu (gst (G_9.2.1 (F a 47)) (G_9.2.1 (F a 48)) (G_9.2.1 (F a 49)) (G_9.2.1 (F a 50)) (Int.toNat (l3_9.toInt)), mw (G_9.2.1 (F a 1)) 0)) < (((N9) + 1 : Nat) : Int))
    (c10 : l3_9.toInt ≤ 0) :
    mw (G_9.2.1 (F a 1)) 0 = cfin (refA (G.2.1 (F a 10))) (refT (G.2.1 (F a 10))) (refC (G.2.1 (F a 10))) ([(p0.toInt, p1.toInt, 0, 0)], rfil (mw (G.2.1 (F a 1)) 0) p0.toInt p1.toInt (-2000) 3) := by
  rw [show l3_9.toInt = 0 from by omega] at fi
  exact (cfin_e _ _ _ _).symm.trans fi
theorem v_X11_cutAll_227_4 {F : Nat → Nat → Nat} (a : Nat) (G_9 : XG)
    (rm : RM (G_9.2.1 (F a 1)) 0) :
    RM (G_9.2.1 (F a 1)) 0 := by
  exact rm
theorem v_X11_cutAll_224_5 {K : Nat → Nat} {F : Nat → Nat → Nat} (a : Nat) (G : XG) (G4 : XG) (G_9 : XG) (G79 : XG) (x15 : Int32) (x78 : Int32) (G87 : XG) (p0 : Int32) (p1 : Int32) (l3_9 : Int32) (N9 : Nat)
    (ha : K a = 13)
    (hG79 : G79 = cput G_9 (F a 49) x15.toNatClampNeg x78)
    (hG87 : G87 = cput G79 (F a 50) x15.toNatClampNeg 0)
    (e15 : x15.toInt = (l3_9.toInt - (1 : Int)))
    (e78 : x78.toInt = ((aI (G_9.2.1 (F a 49)) (l3_9.toInt - 1)) + (1 : Int)))
    (e1 : 0 ≤ p0.toInt ∧ p0.toInt < 3)
    (e2 : 0 ≤ p1.toInt ∧ p1.toInt < 30)
    (e3 : (cel (mw (G.2.1 (F a 1)) 0) (p0.toInt) (p1.toInt) 0) ≠ -2000)
    (en8 : 0 ≤ (cmu (gst (G4.2.1 (F a 47)) (G4.2.1 (F a 48)) (G4.2.1 (F a 49)) (G4.2.1 (F a 50)) (Int.toNat 1), mw (G4.2.1 (F a 1)) 0)) ∧ (cmu (gst (G4.2.1 (F a 47)) (G4.2.1 (F a 48)) (G4.2.1 (F a 49)) (G4.2.1 (F a 50)) (Int.toNat 1), mw (G4.2.1 (F a 1)) 0)) < 40000)
    (I9_0 : 0 ≤ l3_9.toInt ∧ l3_9.toInt ≤ 90)
    (I9_1 : 0 ≤ (cmu (gst (G_9.2.1 (F a 47)) (G_9.2.1 (F a 48)) (G_9.2.1 (F a 49)) (G_9.2.1 (F a 50)) (Int.toNat (l3_9.toInt)), mw (G_9.2.1 (F a 1)) 0)))
    (hm9 : (cmu (gst (G_9.2.1 (F a 47)) (G_9.2.1 (F a 48)) (G_9.2.1 (F a 49)) (G_9.2.1 (F a 50)) (Int.toNat (l3_9.toInt)), mw (G_9.2.1 (F a 1)) 0)) < (((N9) + 1 : Nat) : Int))
    (c10 : ¬ (l3_9.toInt ≤ 0))
    (z13 : ((0 ≤ (aI (G_9.2.1 (F a 47)) (l3_9.toInt - 1)) ∧ (aI (G_9.2.1 (F a 47)) (l3_9.toInt - 1)) < 3) ∧ (0 ≤ (aI (G_9.2.1 (F a 48)) (l3_9.toInt - 1)) ∧ (aI (G_9.2.1 (F a 48)) (l3_9.toInt - 1)) < 30) ∧ (0 ≤ (aI (G_9.2.1 (F a 49)) (l3_9.toInt - 1)) ∧ (aI (G_9.2.1 (F a 49)) (l3_9.toInt - 1)) ≤ 12) ∧ (0 ≤ (aI (G_9.2.1 (F a 50)) (l3_9.toInt - 1)) ∧ (aI (G_9.2.1 (F a 50)) (l3_9.toInt - 1)) ≤ 30)) ∧ l3_9.toInt + (pn (mw (G_9.2.1 (F a 1)) 0)) ≤ 90)
    (c27 : (aI (G_9.2.1 (F a 49)) (l3_9.toInt - 1)) ≠ (12 : Int))
    (c45 : (aI (G_9.2.1 (F a 50)) (l3_9.toInt - 1)) = (30 : Int))
    (c_G79_F_a_50 : G79.2.1 (F a 50) = G_9.2.1 (F a 50)) :
    cst (refA (G.2.1 (F a 10))) (refT (G.2.1 (F a 10))) (refC (G.2.1 (F a 10))) (gst (G_9.2.1 (F a 47)) (G_9.2.1 (F a 48)) (G_9.2.1 (F a 49)) (G_9.2.1 (F a 50)) (Int.toNat (l3_9.toInt)), mw (G_9.2.1 (F a 1)) 0) = (gst (G_9.2.1 (F a 47)) (G_9.2.1 (F a 48)) (G79.2.1 (F a 49)) (G87.2.1 (F a 50)) (Int.toNat (l3_9.toInt)), mw (G_9.2.1 (F a 1)) 0) := by
  have t9 := gst_p (a := G_9.2.1 (F a 47)) (b := G_9.2.1 (F a 48)) (c := G_9.2.1 (F a 49)) (d := G_9.2.1 (F a 50)) (n := l3_9.toInt) (by omega)
  rw [t9, cst_nx (by omega) (by omega), gst_u (n := l3_9.toInt) (by omega) (aI_pu hG79 rfl e15 e78 (by omega)) (aI_pu hG87 c_G79_F_a_50 e15 (show ((0 : Int32)).toInt = 0 from by decide) (by omega))]
theorem v_X11_cutAll_224_6 {K : Nat → Nat} {F : Nat → Nat → Nat} (a : Nat) (G : XG) (G4 : XG) (G_9 : XG) (G79 : XG) (G87 : XG) (p0 : Int32) (p1 : Int32) (l3_9 : Int32) (N9 : Nat)
    (ha : K a = 13)
    (rm : RM (G_9.2.1 (F a 1)) 0)
    (e1 : 0 ≤ p0.toInt ∧ p0.toInt < 3)
    (e2 : 0 ≤ p1.toInt ∧ p1.toInt < 30)
    (e3 : (cel (mw (G.2.1 (F a 1)) 0) (p0.toInt) (p1.toInt) 0) ≠ -2000)
    (en8 : 0 ≤ (cmu (gst (G4.2.1 (F a 47)) (G4.2.1 (F a 48)) (G4.2.1 (F a 49)) (G4.2.1 (F a 50)) (Int.toNat 1), mw (G4.2.1 (F a 1)) 0)) ∧ (cmu (gst (G4.2.1 (F a 47)) (G4.2.1 (F a 48)) (G4.2.1 (F a 49)) (G4.2.1 (F a 50)) (Int.toNat 1), mw (G4.2.1 (F a 1)) 0)) < 40000)
    (I9_0 : 0 ≤ l3_9.toInt ∧ l3_9.toInt ≤ 90)
    (I9_1 : 0 ≤ (cmu (gst (G_9.2.1 (F a 47)) (G_9.2.1 (F a 48)) (G_9.2.1 (F a 49)) (G_9.2.1 (F a 50)) (Int.toNat (l3_9.toInt)), mw (G_9.2.1 (F a 1)) 0)))
    (hm9 : (cmu (gst (G_9.2.1 (F a 47)) (G_9.2.1 (F a 48)) (G_9.2.1 (F a 49)) (G_9.2.1 (F a 50)) (Int.toNat (l3_9.toInt)), mw (G_9.2.1 (F a 1)) 0)) < (((N9) + 1 : Nat) : Int))
    (c10 : ¬ (l3_9.toInt ≤ 0))
    (z13 : ((0 ≤ (aI (G_9.2.1 (F a 47)) (l3_9.toInt - 1)) ∧ (aI (G_9.2.1 (F a 47)) (l3_9.toInt - 1)) < 3) ∧ (0 ≤ (aI (G_9.2.1 (F a 48)) (l3_9.toInt - 1)) ∧ (aI (G_9.2.1 (F a 48)) (l3_9.toInt - 1)) < 30) ∧ (0 ≤ (aI (G_9.2.1 (F a 49)) (l3_9.toInt - 1)) ∧ (aI (G_9.2.1 (F a 49)) (l3_9.toInt - 1)) ≤ 12) ∧ (0 ≤ (aI (G_9.2.1 (F a 50)) (l3_9.toInt - 1)) ∧ (aI (G_9.2.1 (F a 50)) (l3_9.toInt - 1)) ≤ 30)) ∧ l3_9.toInt + (pn (mw (G_9.2.1 (F a 1)) 0)) ≤ 90)
    (c27 : (aI (G_9.2.1 (F a 49)) (l3_9.toInt - 1)) ≠ (12 : Int))
    (c45 : (aI (G_9.2.1 (F a 50)) (l3_9.toInt - 1)) = (30 : Int))
    (mu224 : (cmu (gst (G_9.2.1 (F a 47)) (G_9.2.1 (F a 48)) (G79.2.1 (F a 49)) (G87.2.1 (F a 50)) (Int.toNat (l3_9.toInt)), mw (G_9.2.1 (F a 1)) 0)) < (cmu (gst (G_9.2.1 (F a 47)) (G_9.2.1 (F a 48)) (G_9.2.1 (F a 49)) (G_9.2.1 (F a 50)) (Int.toNat (l3_9.toInt)), mw (G_9.2.1 (F a 1)) 0)) ∧ 0 ≤ (cmu (gst (G_9.2.1 (F a 47)) (G_9.2.1 (F a 48)) (G79.2.1 (F a 49)) (G87.2.1 (F a 50)) (Int.toNat (l3_9.toInt)), mw (G_9.2.1 (F a 1)) 0))) :
    RM (G_9.2.1 (F a 1)) 0 := by
  first
    | exact rm
    | exact oq218e
    | exact rm.set (t := aI (G.2.1 (F a 10)) (10 * aI (G_9.2.1 (F a 49)) (l3_9.toInt - 1) + 1)) (k := aI (G_9.2.1 (F a 50)) (l3_9.toInt - 1)) (c := aI (G.2.1 (F a 10)) (10 * aI (G_9.2.1 (F a 49)) (l3_9.toInt - 1) + 2)) (by omega) (by decide) (by omega) (aI_pu hG203 c_G119_F_a_1 rfl (show ((-1000 : Int32)).toInt = -1000 from by decide) (by omega)) (Or.inl rfl)
theorem v_X11_cutAll_224_7 {F : Nat → Nat → Nat} (a : Nat) (G : XG) (G_9 : XG) (G79 : XG) (G87 : XG) (l3_9 : Int32)
    (hR : RV (G.2.1 (F a 10)))
    (iv : CIv (gst (G_9.2.1 (F a 47)) (G_9.2.1 (F a 48)) (G_9.2.1 (F a 49)) (G_9.2.1 (F a 50)) (Int.toNat (l3_9.toInt)), mw (G_9.2.1 (F a 1)) 0))
    (cs224 : cst (refA (G.2.1 (F a 10))) (refT (G.2.1 (F a 10))) (refC (G.2.1 (F a 10))) (gst (G_9.2.1 (F a 47)) (G_9.2.1 (F a 48)) (G_9.2.1 (F a 49)) (G_9.2.1 (F a 50)) (Int.toNat (l3_9.toInt)), mw (G_9.2.1 (F a 1)) 0) = (gst (G_9.2.1 (F a 47)) (G_9.2.1 (F a 48)) (G79.2.1 (F a 49)) (G87.2.1 (F a 50)) (Int.toNat (l3_9.toInt)), mw (G_9.2.1 (F a 1)) 0)) :
    CIv (gst (G_9.2.1 (F a 47)) (G_9.2.1 (F a 48)) (G79.2.1 (F a 49)) (G87.2.1 (F a 50)) (Int.toNat (l3_9.toInt)), mw (G_9.2.1 (F a 1)) 0) := by
  exact (cm_st (refTo hR) iv cs224).1
theorem v_X11_cutAll_224_8 {F : Nat → Nat → Nat} (a : Nat) (G : XG) (G_9 : XG) (G79 : XG) (G87 : XG) (p0 : Int32) (p1 : Int32) (l3_9 : Int32)
    (hR : RV (G.2.1 (F a 10)))
    (iv : CIv (gst (G_9.2.1 (F a 47)) (G_9.2.1 (F a 48)) (G_9.2.1 (F a 49)) (G_9.2.1 (F a 50)) (Int.toNat (l3_9.toInt)), mw (G_9.2.1 (F a 1)) 0))
    (fi : cfin (refA (G.2.1 (F a 10))) (refT (G.2.1 (F a 10))) (refC (G.2.1 (F a 10))) (gst (G_9.2.1 (F a 47)) (G_9.2.1 (F a 48)) (G_9.2.1 (F a 49)) (G_9.2.1 (F a 50)) (Int.toNat (l3_9.toInt)), mw (G_9.2.1 (F a 1)) 0) = cfin (refA (G.2.1 (F a 10))) (refT (G.2.1 (F a 10))) (refC (G.2.1 (F a 10))) ([(p0.toInt, p1.toInt, 0, 0)], rfil (mw (G.2.1 (F a 1)) 0) p0.toInt p1.toInt (-2000) 3))
    (cs224 : cst (refA (G.2.1 (F a 10))) (refT (G.2.1 (F a 10))) (refC (G.2.1 (F a 10))) (gst (G_9.2.1 (F a 47)) (G_9.2.1 (F a 48)) (G_9.2.1 (F a 49)) (G_9.2.1 (F a 50)) (Int.toNat (l3_9.toInt)), mw (G_9.2.1 (F a 1)) 0) = (gst (G_9.2.1 (F a 47)) (G_9.2.1 (F a 48)) (G79.2.1 (F a 49)) (G87.2.1 (F a 50)) (Int.toNat (l3_9.toInt)), mw (G_9.2.1 (F a 1)) 0)) :
    cfin (refA (G.2.1 (F a 10))) (refT (G.2.1 (F a 10))) (refC (G.2.1 (F a 10))) (gst (G_9.2.1 (F a 47)) (G_9.2.1 (F a 48)) (G79.2.1 (F a 49)) (G87.2.1 (F a 50)) (Int.toNat (l3_9.toInt)), mw (G_9.2.1 (F a 1)) 0) = cfin (refA (G.2.1 (F a 10))) (refT (G.2.1 (F a 10))) (refC (G.2.1 (F a 10))) ([(p0.toInt, p1.toInt, 0, 0)], rfil (mw (G.2.1 (F a 1)) 0) p0.toInt p1.toInt (-2000) 3) := by
  exact (cm_st (refTo hR) iv cs224).2.trans fi
theorem v_X11_cutAll_224_9 {K : Nat → Nat} {F : Nat → Nat → Nat} (a : Nat) (G : XG) (G4 : XG) (G_9 : XG) (G119 : XG) (x15 : Int32) (x118 : Int32) (p0 : Int32) (p1 : Int32) (l3_9 : Int32) (N9 : Nat) (x63 : Int32) (x129 : Int32)
    (ha : K a = 13)
    (hG119 : G119 = cput G_9 (F a 50) x15.toNatClampNeg x118)
    (e15 : x15.toInt = (l3_9.toInt - (1 : Int)))
    (e118 : x118.toInt = ((aI (G_9.2.1 (F a 50)) (l3_9.toInt - 1)) + (1 : Int)))
    (e1 : 0 ≤ p0.toInt ∧ p0.toInt < 3)
    (e2 : 0 ≤ p1.toInt ∧ p1.toInt < 30)
    (e3 : (cel (mw (G.2.1 (F a 1)) 0) (p0.toInt) (p1.toInt) 0) ≠ -2000)
    (en8 : 0 ≤ (cmu (gst (G4.2.1 (F a 47)) (G4.2.1 (F a 48)) (G4.2.1 (F a 49)) (G4.2.1 (F a 50)) (Int.toNat 1), mw (G4.2.1 (F a 1)) 0)) ∧ (cmu (gst (G4.2.1 (F a 47)) (G4.2.1 (F a 48)) (G4.2.1 (F a 49)) (G4.2.1 (F a 50)) (Int.toNat 1), mw (G4.2.1 (F a 1)) 0)) < 40000)
    (I9_0 : 0 ≤ l3_9.toInt ∧ l3_9.toInt ≤ 90)
    (I9_1 : 0 ≤ (cmu (gst (G_9.2.1 (F a 47)) (G_9.2.1 (F a 48)) (G_9.2.1 (F a 49)) (G_9.2.1 (F a 50)) (Int.toNat (l3_9.toInt)), mw (G_9.2.1 (F a 1)) 0)))
    (hm9 : (cmu (gst (G_9.2.1 (F a 47)) (G_9.2.1 (F a 48)) (G_9.2.1 (F a 49)) (G_9.2.1 (F a 50)) (Int.toNat (l3_9.toInt)), mw (G_9.2.1 (F a 1)) 0)) < (((N9) + 1 : Nat) : Int))
    (c10 : ¬ (l3_9.toInt ≤ 0))
    (z13 : ((0 ≤ (aI (G_9.2.1 (F a 47)) (l3_9.toInt - 1)) ∧ (aI (G_9.2.1 (F a 47)) (l3_9.toInt - 1)) < 3) ∧ (0 ≤ (aI (G_9.2.1 (F a 48)) (l3_9.toInt - 1)) ∧ (aI (G_9.2.1 (F a 48)) (l3_9.toInt - 1)) < 30) ∧ (0 ≤ (aI (G_9.2.1 (F a 49)) (l3_9.toInt - 1)) ∧ (aI (G_9.2.1 (F a 49)) (l3_9.toInt - 1)) ≤ 12) ∧ (0 ≤ (aI (G_9.2.1 (F a 50)) (l3_9.toInt - 1)) ∧ (aI (G_9.2.1 (F a 50)) (l3_9.toInt - 1)) ≤ 30)) ∧ l3_9.toInt + (pn (mw (G_9.2.1 (F a 1)) 0)) ≤ 90)
    (c27 : (aI (G_9.2.1 (F a 49)) (l3_9.toInt - 1)) ≠ (12 : Int))
    (c45 : ¬ ((aI (G_9.2.1 (F a 50)) (l3_9.toInt - 1)) = (30 : Int)))
    (t63 : (x63.toInt = 1 ∧ 0 < (refA (G.2.1 (F a 10)) (aI (G_9.2.1 (F a 49)) (l3_9.toInt - 1)) (aI (G_9.2.1 (F a 47)) (l3_9.toInt - 1)))) ∨ (x63.toInt = 0 ∧ ¬ (0 < (refA (G.2.1 (F a 10)) (aI (G_9.2.1 (F a 49)) (l3_9.toInt - 1)) (aI (G_9.2.1 (F a 47)) (l3_9.toInt - 1))))))
    (c66 : x63.toInt ≠ 0)
    (z91 : ((0 ≤ (aI (G_9.2.1 (F a 49)) (l3_9.toInt - 1)) ∧ (aI (G_9.2.1 (F a 49)) (l3_9.toInt - 1)) < 12 ∧ (aI (G.2.1 (F a 10)) (10 * (aI (G_9.2.1 (F a 49)) (l3_9.toInt - 1)) + 0)) = 1 ∧ (aI (G.2.1 (F a 10)) (10 * (aI (G_9.2.1 (F a 49)) (l3_9.toInt - 1)) + 3)) = (aI (G_9.2.1 (F a 47)) (l3_9.toInt - 1))) ∧ (refA (G.2.1 (F a 10)) (aI (G_9.2.1 (F a 49)) (l3_9.toInt - 1)) (aI (G_9.2.1 (F a 47)) (l3_9.toInt - 1))) = (aI (G.2.1 (F a 10)) (10 * (aI (G_9.2.1 (F a 49)) (l3_9.toInt - 1)) + 8))) ∨ (¬ (0 ≤ (aI (G_9.2.1 (F a 49)) (l3_9.toInt - 1)) ∧ (aI (G_9.2.1 (F a 49)) (l3_9.toInt - 1)) < 12 ∧ (aI (G.2.1 (F a 10)) (10 * (aI (G_9.2.1 (F a 49)) (l3_9.toInt - 1)) + 0)) = 1 ∧ (aI (G.2.1 (F a 10)) (10 * (aI (G_9.2.1 (F a 49)) (l3_9.toInt - 1)) + 3)) = (aI (G_9.2.1 (F a 47)) (l3_9.toInt - 1))) ∧ (refA (G.2.1 (F a 10)) (aI (G_9.2.1 (F a 49)) (l3_9.toInt - 1)) (aI (G_9.2.1 (F a 47)) (l3_9.toInt - 1))) = 0))
    (z91a : (-1 ≤ (aI (G.2.1 (F a 10)) (10 * (aI (G_9.2.1 (F a 49)) (l3_9.toInt - 1)) + 0)) ∧ (aI (G.2.1 (F a 10)) (10 * (aI (G_9.2.1 (F a 49)) (l3_9.toInt - 1)) + 0)) ≤ 5) ∧ (0 ≤ (aI (G.2.1 (F a 10)) (10 * (aI (G_9.2.1 (F a 49)) (l3_9.toInt - 1)) + 1)) ∧ (aI (G.2.1 (F a 10)) (10 * (aI (G_9.2.1 (F a 49)) (l3_9.toInt - 1)) + 1)) ≤ 2) ∧ (0 ≤ (aI (G.2.1 (F a 10)) (10 * (aI (G_9.2.1 (F a 49)) (l3_9.toInt - 1)) + 2)) ∧ (aI (G.2.1 (F a 10)) (10 * (aI (G_9.2.1 (F a 49)) (l3_9.toInt - 1)) + 2)) ≤ 2))
    (t129 : 0 ≤ (aI (G.2.1 (F a 10)) (10 * (aI (G_9.2.1 (F a 49)) (l3_9.toInt - 1)) + 1)) ∧ (aI (G.2.1 (F a 10)) (10 * (aI (G_9.2.1 (F a 49)) (l3_9.toInt - 1)) + 1)) ≤ 2 ∧ 0 ≤ (aI (G_9.2.1 (F a 50)) (l3_9.toInt - 1)) ∧ (aI (G_9.2.1 (F a 50)) (l3_9.toInt - 1)) ≤ 29 → x129.toInt = 4 * (30 * (aI (G.2.1 (F a 10)) (10 * (aI (G_9.2.1 (F a 49)) (l3_9.toInt - 1)) + 1)) + (aI (G_9.2.1 (F a 50)) (l3_9.toInt - 1))))
    (z134 : ((aI (G_9.2.1 (F a 1)) (0 + 4 * (30 * (aI (G.2.1 (F a 10)) (10 * (aI (G_9.2.1 (F a 49)) (l3_9.toInt - 1)) + 1)) + (aI (G_9.2.1 (F a 50)) (l3_9.toInt - 1))))) = 0 ∧ (cel (mw (G_9.2.1 (F a 1)) 0) (aI (G.2.1 (F a 10)) (10 * (aI (G_9.2.1 (F a 49)) (l3_9.toInt - 1)) + 1)) (aI (G_9.2.1 (F a 50)) (l3_9.toInt - 1)) (aI (G.2.1 (F a 10)) (10 * (aI (G_9.2.1 (F a 49)) (l3_9.toInt - 1)) + 2))) = -2000) ∨ ((aI (G_9.2.1 (F a 1)) (0 + 4 * (30 * (aI (G.2.1 (F a 10)) (10 * (aI (G_9.2.1 (F a 49)) (l3_9.toInt - 1)) + 1)) + (aI (G_9.2.1 (F a 50)) (l3_9.toInt - 1))))) = 1 ∧ (cel (mw (G_9.2.1 (F a 1)) 0) (aI (G.2.1 (F a 10)) (10 * (aI (G_9.2.1 (F a 49)) (l3_9.toInt - 1)) + 1)) (aI (G_9.2.1 (F a 50)) (l3_9.toInt - 1)) (aI (G.2.1 (F a 10)) (10 * (aI (G_9.2.1 (F a 49)) (l3_9.toInt - 1)) + 2))) = (aI (G_9.2.1 (F a 1)) (0 + 4 * (30 * (aI (G.2.1 (F a 10)) (10 * (aI (G_9.2.1 (F a 49)) (l3_9.toInt - 1)) + 1)) + (aI (G_9.2.1 (F a 50)) (l3_9.toInt - 1))) + 1 + (aI (G.2.1 (F a 10)) (10 * (aI (G_9.2.1 (F a 49)) (l3_9.toInt - 1)) + 2))))))
    (c142 : (aI (G_9.2.1 (F a 1)) (0 + 4 * (30 * (aI (G.2.1 (F a 10)) (10 * (aI (G_9.2.1 (F a 49)) (l3_9.toInt - 1)) + 1)) + (aI (G_9.2.1 (F a 50)) (l3_9.toInt - 1))))) ≠ (1 : Int)) :
    cst (refA (G.2.1 (F a 10))) (refT (G.2.1 (F a 10))) (refC (G.2.1 (F a 10))) (gst (G_9.2.1 (F a 47)) (G_9.2.1 (F a 48)) (G_9.2.1 (F a 49)) (G_9.2.1 (F a 50)) (Int.toNat (l3_9.toInt)), mw (G_9.2.1 (F a 1)) 0) = (gst (G_9.2.1 (F a 47)) (G_9.2.1 (F a 48)) (G_9.2.1 (F a 49)) (G119.2.1 (F a 50)) (Int.toNat (l3_9.toInt)), mw (G_9.2.1 (F a 1)) 0) := by
  have t9 := gst_p (a := G_9.2.1 (F a 47)) (b := G_9.2.1 (F a 48)) (c := G_9.2.1 (F a 49)) (d := G_9.2.1 (F a 50)) (n := l3_9.toInt) (by omega)
  have rf := refT_f (f := G.2.1 (F a 10)) (r := aI (G_9.2.1 (F a 49)) (l3_9.toInt - 1)) (t := aI (G_9.2.1 (F a 47)) (l3_9.toInt - 1)) (by omega)
  have nk : cel (mw (G_9.2.1 (F a 1)) 0) (refT (G.2.1 (F a 10)) (aI (G_9.2.1 (F a 49)) (l3_9.toInt - 1))) (aI (G_9.2.1 (F a 50)) (l3_9.toInt - 1)) (refC (G.2.1 (F a 10)) (aI (G_9.2.1 (F a 49)) (l3_9.toInt - 1))) ≠ aI (G_9.2.1 (F a 48)) (l3_9.toInt - 1) := by rw [rf.2.1, rf.2.2.1]; omega
  rw [t9, cst_sk (by omega) (by omega) (by omega) nk, gst_n (n := l3_9.toInt) (by omega) (aI_pu hG119 rfl e15 e118 (by omega))]
theorem v_X11_cutAll_224_10 {K : Nat → Nat} {F : Nat → Nat → Nat} (a : Nat) (G : XG) (G4 : XG) (G_9 : XG) (G119 : XG) (p0 : Int32) (p1 : Int32) (l3_9 : Int32) (N9 : Nat) (x63 : Int32) (x129 : Int32)
    (ha : K a = 13)
    (rm : RM (G_9.2.1 (F a 1)) 0)
    (e1 : 0 ≤ p0.toInt ∧ p0.toInt < 3)
    (e2 : 0 ≤ p1.toInt ∧ p1.toInt < 30)
    (e3 : (cel (mw (G.2.1 (F a 1)) 0) (p0.toInt) (p1.toInt) 0) ≠ -2000)
    (en8 : 0 ≤ (cmu (gst (G4.2.1 (F a 47)) (G4.2.1 (F a 48)) (G4.2.1 (F a 49)) (G4.2.1 (F a 50)) (Int.toNat 1), mw (G4.2.1 (F a 1)) 0)) ∧ (cmu (gst (G4.2.1 (F a 47)) (G4.2.1 (F a 48)) (G4.2.1 (F a 49)) (G4.2.1 (F a 50)) (Int.toNat 1), mw (G4.2.1 (F a 1)) 0)) < 40000)
    (I9_0 : 0 ≤ l3_9.toInt ∧ l3_9.toInt ≤ 90)
    (I9_1 : 0 ≤ (cmu (gst (G_9.2.1 (F a 47)) (G_9.2.1 (F a 48)) (G_9.2.1 (F a 49)) (G_9.2.1 (F a 50)) (Int.toNat (l3_9.toInt)), mw (G_9.2.1 (F a 1)) 0)))
    (hm9 : (cmu (gst (G_9.2.1 (F a 47)) (G_9.2.1 (F a 48)) (G_9.2.1 (F a 49)) (G_9.2.1 (F a 50)) (Int.toNat (l3_9.toInt)), mw (G_9.2.1 (F a 1)) 0)) < (((N9) + 1 : Nat) : Int))
    (c10 : ¬ (l3_9.toInt ≤ 0))
    (z13 : ((0 ≤ (aI (G_9.2.1 (F a 47)) (l3_9.toInt - 1)) ∧ (aI (G_9.2.1 (F a 47)) (l3_9.toInt - 1)) < 3) ∧ (0 ≤ (aI (G_9.2.1 (F a 48)) (l3_9.toInt - 1)) ∧ (aI (G_9.2.1 (F a 48)) (l3_9.toInt - 1)) < 30) ∧ (0 ≤ (aI (G_9.2.1 (F a 49)) (l3_9.toInt - 1)) ∧ (aI (G_9.2.1 (F a 49)) (l3_9.toInt - 1)) ≤ 12) ∧ (0 ≤ (aI (G_9.2.1 (F a 50)) (l3_9.toInt - 1)) ∧ (aI (G_9.2.1 (F a 50)) (l3_9.toInt - 1)) ≤ 30)) ∧ l3_9.toInt + (pn (mw (G_9.2.1 (F a 1)) 0)) ≤ 90)
    (c27 : (aI (G_9.2.1 (F a 49)) (l3_9.toInt - 1)) ≠ (12 : Int))
    (c45 : ¬ ((aI (G_9.2.1 (F a 50)) (l3_9.toInt - 1)) = (30 : Int)))
    (t63 : (x63.toInt = 1 ∧ 0 < (refA (G.2.1 (F a 10)) (aI (G_9.2.1 (F a 49)) (l3_9.toInt - 1)) (aI (G_9.2.1 (F a 47)) (l3_9.toInt - 1)))) ∨ (x63.toInt = 0 ∧ ¬ (0 < (refA (G.2.1 (F a 10)) (aI (G_9.2.1 (F a 49)) (l3_9.toInt - 1)) (aI (G_9.2.1 (F a 47)) (l3_9.toInt - 1))))))
    (c66 : x63.toInt ≠ 0)
    (z91 : ((0 ≤ (aI (G_9.2.1 (F a 49)) (l3_9.toInt - 1)) ∧ (aI (G_9.2.1 (F a 49)) (l3_9.toInt - 1)) < 12 ∧ (aI (G.2.1 (F a 10)) (10 * (aI (G_9.2.1 (F a 49)) (l3_9.toInt - 1)) + 0)) = 1 ∧ (aI (G.2.1 (F a 10)) (10 * (aI (G_9.2.1 (F a 49)) (l3_9.toInt - 1)) + 3)) = (aI (G_9.2.1 (F a 47)) (l3_9.toInt - 1))) ∧ (refA (G.2.1 (F a 10)) (aI (G_9.2.1 (F a 49)) (l3_9.toInt - 1)) (aI (G_9.2.1 (F a 47)) (l3_9.toInt - 1))) = (aI (G.2.1 (F a 10)) (10 * (aI (G_9.2.1 (F a 49)) (l3_9.toInt - 1)) + 8))) ∨ (¬ (0 ≤ (aI (G_9.2.1 (F a 49)) (l3_9.toInt - 1)) ∧ (aI (G_9.2.1 (F a 49)) (l3_9.toInt - 1)) < 12 ∧ (aI (G.2.1 (F a 10)) (10 * (aI (G_9.2.1 (F a 49)) (l3_9.toInt - 1)) + 0)) = 1 ∧ (aI (G.2.1 (F a 10)) (10 * (aI (G_9.2.1 (F a 49)) (l3_9.toInt - 1)) + 3)) = (aI (G_9.2.1 (F a 47)) (l3_9.toInt - 1))) ∧ (refA (G.2.1 (F a 10)) (aI (G_9.2.1 (F a 49)) (l3_9.toInt - 1)) (aI (G_9.2.1 (F a 47)) (l3_9.toInt - 1))) = 0))
    (z91a : (-1 ≤ (aI (G.2.1 (F a 10)) (10 * (aI (G_9.2.1 (F a 49)) (l3_9.toInt - 1)) + 0)) ∧ (aI (G.2.1 (F a 10)) (10 * (aI (G_9.2.1 (F a 49)) (l3_9.toInt - 1)) + 0)) ≤ 5) ∧ (0 ≤ (aI (G.2.1 (F a 10)) (10 * (aI (G_9.2.1 (F a 49)) (l3_9.toInt - 1)) + 1)) ∧ (aI (G.2.1 (F a 10)) (10 * (aI (G_9.2.1 (F a 49)) (l3_9.toInt - 1)) + 1)) ≤ 2) ∧ (0 ≤ (aI (G.2.1 (F a 10)) (10 * (aI (G_9.2.1 (F a 49)) (l3_9.toInt - 1)) + 2)) ∧ (aI (G.2.1 (F a 10)) (10 * (aI (G_9.2.1 (F a 49)) (l3_9.toInt - 1)) + 2)) ≤ 2))
    (t129 : 0 ≤ (aI (G.2.1 (F a 10)) (10 * (aI (G_9.2.1 (F a 49)) (l3_9.toInt - 1)) + 1)) ∧ (aI (G.2.1 (F a 10)) (10 * (aI (G_9.2.1 (F a 49)) (l3_9.toInt - 1)) + 1)) ≤ 2 ∧ 0 ≤ (aI (G_9.2.1 (F a 50)) (l3_9.toInt - 1)) ∧ (aI (G_9.2.1 (F a 50)) (l3_9.toInt - 1)) ≤ 29 → x129.toInt = 4 * (30 * (aI (G.2.1 (F a 10)) (10 * (aI (G_9.2.1 (F a 49)) (l3_9.toInt - 1)) + 1)) + (aI (G_9.2.1 (F a 50)) (l3_9.toInt - 1))))
    (z134 : ((aI (G_9.2.1 (F a 1)) (0 + 4 * (30 * (aI (G.2.1 (F a 10)) (10 * (aI (G_9.2.1 (F a 49)) (l3_9.toInt - 1)) + 1)) + (aI (G_9.2.1 (F a 50)) (l3_9.toInt - 1))))) = 0 ∧ (cel (mw (G_9.2.1 (F a 1)) 0) (aI (G.2.1 (F a 10)) (10 * (aI (G_9.2.1 (F a 49)) (l3_9.toInt - 1)) + 1)) (aI (G_9.2.1 (F a 50)) (l3_9.toInt - 1)) (aI (G.2.1 (F a 10)) (10 * (aI (G_9.2.1 (F a 49)) (l3_9.toInt - 1)) + 2))) = -2000) ∨ ((aI (G_9.2.1 (F a 1)) (0 + 4 * (30 * (aI (G.2.1 (F a 10)) (10 * (aI (G_9.2.1 (F a 49)) (l3_9.toInt - 1)) + 1)) + (aI (G_9.2.1 (F a 50)) (l3_9.toInt - 1))))) = 1 ∧ (cel (mw (G_9.2.1 (F a 1)) 0) (aI (G.2.1 (F a 10)) (10 * (aI (G_9.2.1 (F a 49)) (l3_9.toInt - 1)) + 1)) (aI (G_9.2.1 (F a 50)) (l3_9.toInt - 1)) (aI (G.2.1 (F a 10)) (10 * (aI (G_9.2.1 (F a 49)) (l3_9.toInt - 1)) + 2))) = (aI (G_9.2.1 (F a 1)) (0 + 4 * (30 * (aI (G.2.1 (F a 10)) (10 * (aI (G_9.2.1 (F a 49)) (l3_9.toInt - 1)) + 1)) + (aI (G_9.2.1 (F a 50)) (l3_9.toInt - 1))) + 1 + (aI (G.2.1 (F a 10)) (10 * (aI (G_9.2.1 (F a 49)) (l3_9.toInt - 1)) + 2))))))
    (c142 : (aI (G_9.2.1 (F a 1)) (0 + 4 * (30 * (aI (G.2.1 (F a 10)) (10 * (aI (G_9.2.1 (F a 49)) (l3_9.toInt - 1)) + 1)) + (aI (G_9.2.1 (F a 50)) (l3_9.toInt - 1))))) ≠ (1 : Int))
    (mu224 : (cmu (gst (G_9.2.1 (F a 47)) (G_9.2.1 (F a 48)) (G_9.2.1 (F a 49)) (G119.2.1 (F a 50)) (Int.toNat (l3_9.toInt)), mw (G_9.2.1 (F a 1)) 0)) < (cmu (gst (G_9.2.1 (F a 47)) (G_9.2.1 (F a 48)) (G_9.2.1 (F a 49)) (G_9.2.1 (F a 50)) (Int.toNat (l3_9.toInt)), mw (G_9.2.1 (F a 1)) 0)) ∧ 0 ≤ (cmu (gst (G_9.2.1 (F a 47)) (G_9.2.1 (F a 48)) (G_9.2.1 (F a 49)) (G119.2.1 (F a 50)) (Int.toNat (l3_9.toInt)), mw (G_9.2.1 (F a 1)) 0)))
    (c_G119_F_a_1 : G119.2.1 (F a 1) = G_9.2.1 (F a 1)) :
    RM (G_9.2.1 (F a 1)) 0 := by
  first
    | exact rm
    | exact oq218e
    | exact rm.set (t := aI (G.2.1 (F a 10)) (10 * aI (G_9.2.1 (F a 49)) (l3_9.toInt - 1) + 1)) (k := aI (G_9.2.1 (F a 50)) (l3_9.toInt - 1)) (c := aI (G.2.1 (F a 10)) (10 * aI (G_9.2.1 (F a 49)) (l3_9.toInt - 1) + 2)) (by omega) (by decide) (by omega) (aI_pu hG203 c_G119_F_a_1 rfl (show ((-1000 : Int32)).toInt = -1000 from by decide) (by omega)) (Or.inl rfl)
theorem v_X11_cutAll_224_11 {F : Nat → Nat → Nat} (a : Nat) (G : XG) (G_9 : XG) (G119 : XG) (l3_9 : Int32)
    (hR : RV (G.2.1 (F a 10)))
    (iv : CIv (gst (G_9.2.1 (F a 47)) (G_9.2.1 (F a 48)) (G_9.2.1 (F a 49)) (G_9.2.1 (F a 50)) (Int.toNat (l3_9.toInt)), mw (G_9.2.1 (F a 1)) 0))
    (cs224 : cst (refA (G.2.1 (F a 10))) (refT (G.2.1 (F a 10))) (refC (G.2.1 (F a 10))) (gst (G_9.2.1 (F a 47)) (G_9.2.1 (F a 48)) (G_9.2.1 (F a 49)) (G_9.2.1 (F a 50)) (Int.toNat (l3_9.toInt)), mw (G_9.2.1 (F a 1)) 0) = (gst (G_9.2.1 (F a 47)) (G_9.2.1 (F a 48)) (G_9.2.1 (F a 49)) (G119.2.1 (F a 50)) (Int.toNat (l3_9.toInt)), mw (G_9.2.1 (F a 1)) 0)) :
    CIv (gst (G_9.2.1 (F a 47)) (G_9.2.1 (F a 48)) (G_9.2.1 (F a 49)) (G119.2.1 (F a 50)) (Int.toNat (l3_9.toInt)), mw (G_9.2.1 (F a 1)) 0) := by
  exact (cm_st (refTo hR) iv cs224).1
theorem v_X11_cutAll_224_12 {F : Nat → Nat → Nat} (a : Nat) (G : XG) (G_9 : XG) (G119 : XG) (p0 : Int32) (p1 : Int32) (l3_9 : Int32)
    (hR : RV (G.2.1 (F a 10)))
    (iv : CIv (gst (G_9.2.1 (F a 47)) (G_9.2.1 (F a 48)) (G_9.2.1 (F a 49)) (G_9.2.1 (F a 50)) (Int.toNat (l3_9.toInt)), mw (G_9.2.1 (F a 1)) 0))
    (fi : cfin (refA (G.2.1 (F a 10))) (refT (G.2.1 (F a 10))) (refC (G.2.1 (F a 10))) (gst (G_9.2.1 (F a 47)) (G_9.2.1 (F a 48)) (G_9.2.1 (F a 49)) (G_9.2.1 (F a 50)) (Int.toNat (l3_9.toInt)), mw (G_9.2.1 (F a 1)) 0) = cfin (refA (G.2.1 (F a 10))) (refT (G.2.1 (F a 10))) (refC (G.2.1 (F a 10))) ([(p0.toInt, p1.toInt, 0, 0)], rfil (mw (G.2.1 (F a 1)) 0) p0.toInt p1.toInt (-2000) 3))
    (cs224 : cst (refA (G.2.1 (F a 10))) (refT (G.2.1 (F a 10))) (refC (G.2.1 (F a 10))) (gst (G_9.2.1 (F a 47)) (G_9.2.1 (F a 48)) (G_9.2.1 (F a 49)) (G_9.2.1 (F a 50)) (Int.toNat (l3_9.toInt)), mw (G_9.2.1 (F a 1)) 0) = (gst (G_9.2.1 (F a 47)) (G_9.2.1 (F a 48)) (G_9.2.1 (F a 49)) (G119.2.1 (F a 50)) (Int.toNat (l3_9.toInt)), mw (G_9.2.1 (F a 1)) 0)) :
    cfin (refA (G.2.1 (F a 10))) (refT (G.2.1 (F a 10))) (refC (G.2.1 (F a 10))) (gst (G_9.2.1 (F a 47)) (G_9.2.1 (F a 48)) (G_9.2.1 (F a 49)) (G119.2.1 (F a 50)) (Int.toNat (l3_9.toInt)), mw (G_9.2.1 (F a 1)) 0) = cfin (refA (G.2.1 (F a 10))) (refT (G.2.1 (F a 10))) (refC (G.2.1 (F a 10))) ([(p0.toInt, p1.toInt, 0, 0)], rfil (mw (G.2.1 (F a 1)) 0) p0.toInt p1.toInt (-2000) 3) := by
  exact (cm_st (refTo hR) iv cs224).2.trans fi
theorem v_X11_cutAll_224_13 {K : Nat → Nat} {F : Nat → Nat → Nat} (a : Nat) (G : XG) (G4 : XG) (G_9 : XG) (G119 : XG) (x15 : Int32) (x118 : Int32) (p0 : Int32) (p1 : Int32) (l3_9 : Int32) (N9 : Nat) (x63 : Int32) (x129 : Int32)
    (ha : K a = 13)
    (hG119 : G119 = cput G_9 (F a 50) x15.toNatClampNeg x118)
    (e15 : x15.toInt = (l3_9.toInt - (1 : Int)))
    (e118 : x118.toInt = ((aI (G_9.2.1 (F a 50)) (l3_9.toInt - 1)) + (1 : Int)))
    (e1 : 0 ≤ p0.toInt ∧ p0.toInt < 3)
    (e2 : 0 ≤ p1.toInt ∧ p1.toInt < 30)
    (e3 : (cel (mw (G.2.1 (F a 1)) 0) (p0.toInt) (p1.toInt) 0) ≠ -2000)
    (en8 : 0 ≤ (cmu (gst (G4.2.1 (F a 47)) (G4.2.1 (F a 48)) (G4.2.1 (F a 49)) (G4.2.1 (F a 50)) (Int.toNat 1), mw (G4.2.1 (F a 1)) 0)) ∧ (cmu (gst (G4.2.1 (F a 47)) (G4.2.1 (F a 48)) (G4.2.1 (F a 49)) (G4.2.1 (F a 50)) (Int.toNat 1), mw (G4.2.1 (F a 1)) 0)) < 40000)
    (I9_0 : 0 ≤ l3_9.toInt ∧ l3_9.toInt ≤ 90)
    (I9_1 : 0 ≤ (cmu (gst (G_9.2.1 (F a 47)) (G_9.2.1 (F a 48)) (G_9.2.1 (F a 49)) (G_9.2.1 (F a 50)) (Int.toNat (l3_9.toInt)), mw (G_9.2.1 (F a 1)) 0)))
    (hm9 : (cmu (gst (G_9.2.1 (F a 47)) (G_9.2.1 (F a 48)) (G_9.2.1 (F a 49)) (G_9.2.1 (F a 50)) (Int.toNat (l3_9.toInt)), mw (G_9.2.1 (F a 1)) 0)) < (((N9) + 1 : Nat) : Int))
    (c10 : ¬ (l3_9.toInt ≤ 0))
    (z13 : ((0 ≤ (aI (G_9.2.1 (F a 47)) (l3_9.toInt - 1)) ∧ (aI (G_9.2.1 (F a 47)) (l3_9.toInt - 1)) < 3) ∧ (0 ≤ (aI (G_9.2.1 (F a 48)) (l3_9.toInt - 1)) ∧ (aI (G_9.2.1 (F a 48)) (l3_9.toInt - 1)) < 30) ∧ (0 ≤ (aI (G_9.2.1 (F a 49)) (l3_9.toInt - 1)) ∧ (aI (G_9.2.1 (F a 49)) (l3_9.toInt - 1)) ≤ 12) ∧ (0 ≤ (aI (G_9.2.1 (F a 50)) (l3_9.toInt - 1)) ∧ (aI (G_9.2.1 (F a 50)) (l3_9.toInt - 1)) ≤ 30)) ∧ l3_9.toInt + (pn (mw (G_9.2.1 (F a 1)) 0)) ≤ 90)
    (c27 : (aI (G_9.2.1 (F a 49)) (l3_9.toInt - 1)) ≠ (12 : Int))
    (c45 : ¬ ((aI (G_9.2.1 (F a 50)) (l3_9.toInt - 1)) = (30 : Int)))
    (t63 : (x63.toInt = 1 ∧ 0 < (refA (G.2.1 (F a 10)) (aI (G_9.2.1 (F a 49)) (l3_9.toInt - 1)) (aI (G_9.2.1 (F a 47)) (l3_9.toInt - 1)))) ∨ (x63.toInt = 0 ∧ ¬ (0 < (refA (G.2.1 (F a 10)) (aI (G_9.2.1 (F a 49)) (l3_9.toInt - 1)) (aI (G_9.2.1 (F a 47)) (l3_9.toInt - 1))))))
    (c66 : x63.toInt ≠ 0)
    (z91 : ((0 ≤ (aI (G_9.2.1 (F a 49)) (l3_9.toInt - 1)) ∧ (aI (G_9.2.1 (F a 49)) (l3_9.toInt - 1)) < 12 ∧ (aI (G.2.1 (F a 10)) (10 * (aI (G_9.2.1 (F a 49)) (l3_9.toInt - 1)) + 0)) = 1 ∧ (aI (G.2.1 (F a 10)) (10 * (aI (G_9.2.1 (F a 49)) (l3_9.toInt - 1)) + 3)) = (aI (G_9.2.1 (F a 47)) (l3_9.toInt - 1))) ∧ (refA (G.2.1 (F a 10)) (aI (G_9.2.1 (F a 49)) (l3_9.toInt - 1)) (aI (G_9.2.1 (F a 47)) (l3_9.toInt - 1))) = (aI (G.2.1 (F a 10)) (10 * (aI (G_9.2.1 (F a 49)) (l3_9.toInt - 1)) + 8))) ∨ (¬ (0 ≤ (aI (G_9.2.1 (F a 49)) (l3_9.toInt - 1)) ∧ (aI (G_9.2.1 (F a 49)) (l3_9.toInt - 1)) < 12 ∧ (aI (G.2.1 (F a 10)) (10 * (aI (G_9.2.1 (F a 49)) (l3_9.toInt - 1)) + 0)) = 1 ∧ (aI (G.2.1 (F a 10)) (10 * (aI (G_9.2.1 (F a 49)) (l3_9.toInt - 1)) + 3)) = (aI (G_9.2.1 (F a 47)) (l3_9.toInt - 1))) ∧ (refA (G.2.1 (F a 10)) (aI (G_9.2.1 (F a 49)) (l3_9.toInt - 1)) (aI (G_9.2.1 (F a 47)) (l3_9.toInt - 1))) = 0))
    (z91a : (-1 ≤ (aI (G.2.1 (F a 10)) (10 * (aI (G_9.2.1 (F a 49)) (l3_9.toInt - 1)) + 0)) ∧ (aI (G.2.1 (F a 10)) (10 * (aI (G_9.2.1 (F a 49)) (l3_9.toInt - 1)) + 0)) ≤ 5) ∧ (0 ≤ (aI (G.2.1 (F a 10)) (10 * (aI (G_9.2.1 (F a 49)) (l3_9.toInt - 1)) + 1)) ∧ (aI (G.2.1 (F a 10)) (10 * (aI (G_9.2.1 (F a 49)) (l3_9.toInt - 1)) + 1)) ≤ 2) ∧ (0 ≤ (aI (G.2.1 (F a 10)) (10 * (aI (G_9.2.1 (F a 49)) (l3_9.toInt - 1)) + 2)) ∧ (aI (G.2.1 (F a 10)) (10 * (aI (G_9.2.1 (F a 49)) (l3_9.toInt - 1)) + 2)) ≤ 2))
    (t129 : 0 ≤ (aI (G.2.1 (F a 10)) (10 * (aI (G_9.2.1 (F a 49)) (l3_9.toInt - 1)) + 1)) ∧ (aI (G.2.1 (F a 10)) (10 * (aI (G_9.2.1 (F a 49)) (l3_9.toInt - 1)) + 1)) ≤ 2 ∧ 0 ≤ (aI (G_9.2.1 (F a 50)) (l3_9.toInt - 1)) ∧ (aI (G_9.2.1 (F a 50)) (l3_9.toInt - 1)) ≤ 29 → x129.toInt = 4 * (30 * (aI (G.2.1 (F a 10)) (10 * (aI (G_9.2.1 (F a 49)) (l3_9.toInt - 1)) + 1)) + (aI (G_9.2.1 (F a 50)) (l3_9.toInt - 1))))
    (z134 : ((aI (G_9.2.1 (F a 1)) (0 + 4 * (30 * (aI (G.2.1 (F a 10)) (10 * (aI (G_9.2.1 (F a 49)) (l3_9.toInt - 1)) + 1)) + (aI (G_9.2.1 (F a 50)) (l3_9.toInt - 1))))) = 0 ∧ (cel (mw (G_9.2.1 (F a 1)) 0) (aI (G.2.1 (F a 10)) (10 * (aI (G_9.2.1 (F a 49)) (l3_9.toInt - 1)) + 1)) (aI (G_9.2.1 (F a 50)) (l3_9.toInt - 1)) (aI (G.2.1 (F a 10)) (10 * (aI (G_9.2.1 (F a 49)) (l3_9.toInt - 1)) + 2))) = -2000) ∨ ((aI (G_9.2.1 (F a 1)) (0 + 4 * (30 * (aI (G.2.1 (F a 10)) (10 * (aI (G_9.2.1 (F a 49)) (l3_9.toInt - 1)) + 1)) + (aI (G_9.2.1 (F a 50)) (l3_9.toInt - 1))))) = 1 ∧ (cel (mw (G_9.2.1 (F a 1)) 0) (aI (G.2.1 (F a 10)) (10 * (aI (G_9.2.1 (F a 49)) (l3_9.toInt - 1)) + 1)) (aI (G_9.2.1 (F a 50)) (l3_9.toInt - 1)) (aI (G.2.1 (F a 10)) (10 * (aI (G_9.2.1 (F a 49)) (l3_9.toInt - 1)) + 2))) = (aI (G_9.2.1 (F a 1)) (0 + 4 * (30 * (aI (G.2.1 (F a 10)) (10 * (aI (G_9.2.1 (F a 49)) (l3_9.toInt - 1)) + 1)) + (aI (G_9.2.1 (F a 50)) (l3_9.toInt - 1))) + 1 + (aI (G.2.1 (F a 10)) (10 * (aI (G_9.2.1 (F a 49)) (l3_9.toInt - 1)) + 2))))))
    (c142 : ¬ ((aI (G_9.2.1 (F a 1)) (0 + 4 * (30 * (aI (G.2.1 (F a 10)) (10 * (aI (G_9.2.1 (F a 49)) (l3_9.toInt - 1)) + 1)) + (aI (G_9.2.1 (F a 50)) (l3_9.toInt - 1))))) ≠ (1 : Int)))
    (c169 : (aI (G_9.2.1 (F a 1)) (0 + 4 * (30 * (aI (G.2.1 (F a 10)) (10 * (aI (G_9.2.1 (F a 49)) (l3_9.toInt - 1)) + 1)) + (aI (G_9.2.1 (F a 50)) (l3_9.toInt - 1))) + 1 + (aI (G.2.1 (F a 10)) (10 * (aI (G_9.2.1 (F a 49)) (l3_9.toInt - 1)) + 2)))) ≠ (aI (G_9.2.1 (F a 48)) (l3_9.toInt - 1))) :
    cst (refA (G.2.1 (F a 10))) (refT (G.2.1 (F a 10))) (refC (G.2.1 (F a 10))) (gst (G_9.2.1 (F a 47)) (G_9.2.1 (F a 48)) (G_9.2.1 (F a 49)) (G_9.2.1 (F a 50)) (Int.toNat (l3_9.toInt)), mw (G_9.2.1 (F a 1)) 0) = (gst (G_9.2.1 (F a 47)) (G_9.2.1 (F a 48)) (G_9.2.1 (F a 49)) (G119.2.1 (F a 50)) (Int.toNat (l3_9.toInt)), mw (G_9.2.1 (F a 1)) 0) := by
  have t9 := gst_p (a := G_9.2.1 (F a 47)) (b := G_9.2.1 (F a 48)) (c := G_9.2.1 (F a 49)) (d := G_9.2.1 (F a 50)) (n := l3_9.toInt) (by omega)
  have rf := refT_f (f := G.2.1 (F a 10)) (r := aI (G_9.2.1 (F a 49)) (l3_9.toInt - 1)) (t := aI (G_9.2.1 (F a 47)) (l3_9.toInt - 1)) (by omega)
  have nk : cel (mw (G_9.2.1 (F a 1)) 0) (refT (G.2.1 (F a 10)) (aI (G_9.2.1 (F a 49)) (l3_9.toInt - 1))) (aI (G_9.2.1 (F a 50)) (l3_9.toInt - 1)) (refC (G.2.1 (F a 10)) (aI (G_9.2.1 (F a 49)) (l3_9.toInt - 1))) ≠ aI (G_9.2.1 (F a 48)) (l3_9.toInt - 1) := by rw [rf.2.1, rf.2.2.1]; omega
  rw [t9, cst_sk (by omega) (by omega) (by omega) nk, gst_n (n := l3_9.toInt) (by omega) (aI_pu hG119 rfl e15 e118 (by omega))]
theorem v_X11_cutAll_224_14 {K : Nat → Nat} {F : Nat → Nat → Nat} (a : Nat) (G : XG) (G4 : XG) (G_9 : XG) (G119 : XG) (p0 : Int32) (p1 : Int32) (l3_9 : Int32) (N9 : Nat) (x63 : Int32) (x129 : Int32)
    (ha : K a = 13)
    (rm : RM (G_9.2.1 (F a 1)) 0)
    (e1 : 0 ≤ p0.toInt ∧ p0.toInt < 3)
    (e2 : 0 ≤ p1.toInt ∧ p1.toInt < 30)
    (e3 : (cel (mw (G.2.1 (F a 1)) 0) (p0.toInt) (p1.toInt) 0) ≠ -2000)
    (en8 : 0 ≤ (cmu (gst (G4.2.1 (F a 47)) (G4.2.1 (F a 48)) (G4.2.1 (F a 49)) (G4.2.1 (F a 50)) (Int.toNat 1), mw (G4.2.1 (F a 1)) 0)) ∧ (cmu (gst (G4.2.1 (F a 47)) (G4.2.1 (F a 48)) (G4.2.1 (F a 49)) (G4.2.1 (F a 50)) (Int.toNat 1), mw (G4.2.1 (F a 1)) 0)) < 40000)
    (I9_0 : 0 ≤ l3_9.toInt ∧ l3_9.toInt ≤ 90)
    (I9_1 : 0 ≤ (cmu (gst (G_9.2.1 (F a 47)) (G_9.2.1 (F a 48)) (G_9.2.1 (F a 49)) (G_9.2.1 (F a 50)) (Int.toNat (l3_9.toInt)), mw (G_9.2.1 (F a 1)) 0)))
    (hm9 : (cmu (gst (G_9.2.1 (F a 47)) (G_9.2.1 (F a 48)) (G_9.2.1 (F a 49)) (G_9.2.1 (F a 50)) (Int.toNat (l3_9.toInt)), mw (G_9.2.1 (F a 1)) 0)) < (((N9) + 1 : Nat) : Int))
    (c10 : ¬ (l3_9.toInt ≤ 0))
    (z13 : ((0 ≤ (aI (G_9.2.1 (F a 47)) (l3_9.toInt - 1)) ∧ (aI (G_9.2.1 (F a 47)) (l3_9.toInt - 1)) < 3) ∧ (0 ≤ (aI (G_9.2.1 (F a 48)) (l3_9.toInt - 1)) ∧ (aI (G_9.2.1 (F a 48)) (l3_9.toInt - 1)) < 30) ∧ (0 ≤ (aI (G_9.2.1 (F a 49)) (l3_9.toInt - 1)) ∧ (aI (G_9.2.1 (F a 49)) (l3_9.toInt - 1)) ≤ 12) ∧ (0 ≤ (aI (G_9.2.1 (F a 50)) (l3_9.toInt - 1)) ∧ (aI (G_9.2.1 (F a 50)) (l3_9.toInt - 1)) ≤ 30)) ∧ l3_9.toInt + (pn (mw (G_9.2.1 (F a 1)) 0)) ≤ 90)
    (c27 : (aI (G_9.2.1 (F a 49)) (l3_9.toInt - 1)) ≠ (12 : Int))
    (c45 : ¬ ((aI (G_9.2.1 (F a 50)) (l3_9.toInt - 1)) = (30 : Int)))
    (t63 : (x63.toInt = 1 ∧ 0 < (refA (G.2.1 (F a 10)) (aI (G_9.2.1 (F a 49)) (l3_9.toInt - 1)) (aI (G_9.2.1 (F a 47)) (l3_9.toInt - 1)))) ∨ (x63.toInt = 0 ∧ ¬ (0 < (refA (G.2.1 (F a 10)) (aI (G_9.2.1 (F a 49)) (l3_9.toInt - 1)) (aI (G_9.2.1 (F a 47)) (l3_9.toInt - 1))))))
    (c66 : x63.toInt ≠ 0)
    (z91 : ((0 ≤ (aI (G_9.2.1 (F a 49)) (l3_9.toInt - 1)) ∧ (aI (G_9.2.1 (F a 49)) (l3_9.toInt - 1)) < 12 ∧ (aI (G.2.1 (F a 10)) (10 * (aI (G_9.2.1 (F a 49)) (l3_9.toInt - 1)) + 0)) = 1 ∧ (aI (G.2.1 (F a 10)) (10 * (aI (G_9.2.1 (F a 49)) (l3_9.toInt - 1)) + 3)) = (aI (G_9.2.1 (F a 47)) (l3_9.toInt - 1))) ∧ (refA (G.2.1 (F a 10)) (aI (G_9.2.1 (F a 49)) (l3_9.toInt - 1)) (aI (G_9.2.1 (F a 47)) (l3_9.toInt - 1))) = (aI (G.2.1 (F a 10)) (10 * (aI (G_9.2.1 (F a 49)) (l3_9.toInt - 1)) + 8))) ∨ (¬ (0 ≤ (aI (G_9.2.1 (F a 49)) (l3_9.toInt - 1)) ∧ (aI (G_9.2.1 (F a 49)) (l3_9.toInt - 1)) < 12 ∧ (aI (G.2.1 (F a 10)) (10 * (aI (G_9.2.1 (F a 49)) (l3_9.toInt - 1)) + 0)) = 1 ∧ (aI (G.2.1 (F a 10)) (10 * (aI (G_9.2.1 (F a 49)) (l3_9.toInt - 1)) + 3)) = (aI (G_9.2.1 (F a 47)) (l3_9.toInt - 1))) ∧ (refA (G.2.1 (F a 10)) (aI (G_9.2.1 (F a 49)) (l3_9.toInt - 1)) (aI (G_9.2.1 (F a 47)) (l3_9.toInt - 1))) = 0))
    (z91a : (-1 ≤ (aI (G.2.1 (F a 10)) (10 * (aI (G_9.2.1 (F a 49)) (l3_9.toInt - 1)) + 0)) ∧ (aI (G.2.1 (F a 10)) (10 * (aI (G_9.2.1 (F a 49)) (l3_9.toInt - 1)) + 0)) ≤ 5) ∧ (0 ≤ (aI (G.2.1 (F a 10)) (10 * (aI (G_9.2.1 (F a 49)) (l3_9.toInt - 1)) + 1)) ∧ (aI (G.2.1 (F a 10)) (10 * (aI (G_9.2.1 (F a 49)) (l3_9.toInt - 1)) + 1)) ≤ 2) ∧ (0 ≤ (aI (G.2.1 (F a 10)) (10 * (aI (G_9.2.1 (F a 49)) (l3_9.toInt - 1)) + 2)) ∧ (aI (G.2.1 (F a 10)) (10 * (aI (G_9.2.1 (F a 49)) (l3_9.toInt - 1)) + 2)) ≤ 2))
    (t129 : 0 ≤ (aI (G.2.1 (F a 10)) (10 * (aI (G_9.2.1 (F a 49)) (l3_9.toInt - 1)) + 1)) ∧ (aI (G.2.1 (F a 10)) (10 * (aI (G_9.2.1 (F a 49)) (l3_9.toInt - 1)) + 1)) ≤ 2 ∧ 0 ≤ (aI (G_9.2.1 (F a 50)) (l3_9.toInt - 1)) ∧ (aI (G_9.2.1 (F a 50)) (l3_9.toInt - 1)) ≤ 29 → x129.toInt = 4 * (30 * (aI (G.2.1 (F a 10)) (10 * (aI (G_9.2.1 (F a 49)) (l3_9.toInt - 1)) + 1)) + (aI (G_9.2.1 (F a 50)) (l3_9.toInt - 1))))
    (z134 : ((aI (G_9.2.1 (F a 1)) (0 + 4 * (30 * (aI (G.2.1 (F a 10)) (10 * (aI (G_9.2.1 (F a 49)) (l3_9.toInt - 1)) + 1)) + (aI (G_9.2.1 (F a 50)) (l3_9.toInt - 1))))) = 0 ∧ (cel (mw (G_9.2.1 (F a 1)) 0) (aI (G.2.1 (F a 10)) (10 * (aI (G_9.2.1 (F a 49)) (l3_9.toInt - 1)) + 1)) (aI (G_9.2.1 (F a 50)) (l3_9.toInt - 1)) (aI (G.2.1 (F a 10)) (10 * (aI (G_9.2.1 (F a 49)) (l3_9.toInt - 1)) + 2))) = -2000) ∨ ((aI (G_9.2.1 (F a 1)) (0 + 4 * (30 * (aI (G.2.1 (F a 10)) (10 * (aI (G_9.2.1 (F a 49)) (l3_9.toInt - 1)) + 1)) + (aI (G_9.2.1 (F a 50)) (l3_9.toInt - 1))))) = 1 ∧ (cel (mw (G_9.2.1 (F a 1)) 0) (aI (G.2.1 (F a 10)) (10 * (aI (G_9.2.1 (F a 49)) (l3_9.toInt - 1)) + 1)) (aI (G_9.2.1 (F a 50)) (l3_9.toInt - 1)) (aI (G.2.1 (F a 10)) (10 * (aI (G_9.2.1 (F a 49)) (l3_9.toInt - 1)) + 2))) = (aI (G_9.2.1 (F a 1)) (0 + 4 * (30 * (aI (G.2.1 (F a 10)) (10 * (aI (G_9.2.1 (F a 49)) (l3_9.toInt - 1)) + 1)) + (aI (G_9.2.1 (F a 50)) (l3_9.toInt - 1))) + 1 + (aI (G.2.1 (F a 10)) (10 * (aI (G_9.2.1 (F a 49)) (l3_9.toInt - 1)) + 2))))))
    (c142 : ¬ ((aI (G_9.2.1 (F a 1)) (0 + 4 * (30 * (aI (G.2.1 (F a 10)) (10 * (aI (G_9.2.1 (F a 49)) (l3_9.toInt - 1)) + 1)) + (aI (G_9.2.1 (F a 50)) (l3_9.toInt - 1))))) ≠ (1 : Int)))
    (c169 : (aI (G_9.2.1 (F a 1)) (0 + 4 * (30 * (aI (G.2.1 (F a 10)) (10 * (aI (G_9.2.1 (F a 49)) (l3_9.toInt - 1)) + 1)) + (aI (G_9.2.1 (F a 50)) (l3_9.toInt - 1))) + 1 + (aI (G.2.1 (F a 10)) (10 * (aI (G_9.2.1 (F a 49)) (l3_9.toInt - 1)) + 2)))) ≠ (aI (G_9.2.1 (F a 48)) (l3_9.toInt - 1)))
    (mu224 : (cmu (gst (G_9.2.1 (F a 47)) (G_9.2.1 (F a 48)) (G_9.2.1 (F a 49)) (G119.2.1 (F a 50)) (Int.toNat (l3_9.toInt)), mw (G_9.2.1 (F a 1)) 0)) < (cmu (gst (G_9.2.1 (F a 47)) (G_9.2.1 (F a 48)) (G_9.2.1 (F a 49)) (G_9.2.1 (F a 50)) (Int.toNat (l3_9.toInt)), mw (G_9.2.1 (F a 1)) 0)) ∧ 0 ≤ (cmu (gst (G_9.2.1 (F a 47)) (G_9.2.1 (F a 48)) (G_9.2.1 (F a 49)) (G119.2.1 (F a 50)) (Int.toNat (l3_9.toInt)), mw (G_9.2.1 (F a 1)) 0)))
    (c_G119_F_a_1 : G119.2.1 (F a 1) = G_9.2.1 (F a 1)) :
    RM (G_9.2.1 (F a 1)) 0 := by
  first
    | exact rm
    | exact oq218e
    | exact rm.set (t := aI (G.2.1 (F a 10)) (10 * aI (G_9.2.1 (F a 49)) (l3_9.toInt - 1) + 1)) (k := aI (G_9.2.1 (F a 50)) (l3_9.toInt - 1)) (c := aI (G.2.1 (F a 10)) (10 * aI (G_9.2.1 (F a 49)) (l3_9.toInt - 1) + 2)) (by omega) (by decide) (by omega) (aI_pu hG203 c_G119_F_a_1 rfl (show ((-1000 : Int32)).toInt = -1000 from by decide) (by omega)) (Or.inl rfl)
theorem v_X11_cutAll_224_15 {F : Nat → Nat → Nat} (a : Nat) (G : XG) (G_9 : XG) (G119 : XG) (l3_9 : Int32)
    (hR : RV (G.2.1 (F a 10)))
    (iv : CIv (gst (G_9.2.1 (F a 47)) (G_9.2.1 (F a 48)) (G_9.2.1 (F a 49)) (G_9.2.1 (F a 50)) (Int.toNat (l3_9.toInt)), mw (G_9.2.1 (F a 1)) 0))
    (cs224 : cst (refA (G.2.1 (F a 10))) (refT (G.2.1 (F a 10))) (refC (G.2.1 (F a 10))) (gst (G_9.2.1 (F a 47)) (G_9.2.1 (F a 48)) (G_9.2.1 (F a 49)) (G_9.2.1 (F a 50)) (Int.toNat (l3_9.toInt)), mw (G_9.2.1 (F a 1)) 0) = (gst (G_9.2.1 (F a 47)) (G_9.2.1 (F a 48)) (G_9.2.1 (F a 49)) (G119.2.1 (F a 50)) (Int.toNat (l3_9.toInt)), mw (G_9.2.1 (F a 1)) 0)) :
    CIv (gst (G_9.2.1 (F a 47)) (G_9.2.1 (F a 48)) (G_9.2.1 (F a 49)) (G119.2.1 (F a 50)) (Int.toNat (l3_9.toInt)), mw (G_9.2.1 (F a 1)) 0) := by
  exact (cm_st (refTo hR) iv cs224).1
theorem v_X11_cutAll_224_16 {F : Nat → Nat → Nat} (a : Nat) (G : XG) (G_9 : XG) (G119 : XG) (p0 : Int32) (p1 : Int32) (l3_9 : Int32)
    (hR : RV (G.2.1 (F a 10)))
    (iv : CIv (gst (G_9.2.1 (F a 47)) (G_9.2.1 (F a 48)) (G_9.2.1 (F a 49)) (G_9.2.1 (F a 50)) (Int.toNat (l3_9.toInt)), mw (G_9.2.1 (F a 1)) 0))
    (fi : cfin (refA (G.2.1 (F a 10))) (refT (G.2.1 (F a 10))) (refC (G.2.1 (F a 10))) (gst (G_9.2.1 (F a 47)) (G_9.2.1 (F a 48)) (G_9.2.1 (F a 49)) (G_9.2.1 (F a 50)) (Int.toNat (l3_9.toInt)), mw (G_9.2.1 (F a 1)) 0) = cfin (refA (G.2.1 (F a 10))) (refT (G.2.1 (F a 10))) (refC (G.2.1 (F a 10))) ([(p0.toInt, p1.toInt, 0, 0)], rfil (mw (G.2.1 (F a 1)) 0) p0.toInt p1.toInt (-2000) 3))
    (cs224 : cst (refA (G.2.1 (F a 10))) (refT (G.2.1 (F a 10))) (refC (G.2.1 (F a 10))) (gst (G_9.2.1 (F a 47)) (G_9.2.1 (F a 48)) (G_9.2.1 (F a 49)) (G_9.2.1 (F a 50)) (Int.toNat (l3_9.toInt)), mw (G_9.2.1 (F a 1)) 0) = (gst (G_9.2.1 (F a 47)) (G_9.2.1 (F a 48)) (G_9.2.1 (F a 49)) (G119.2.1 (F a 50)) (Int.toNat (l3_9.toInt)), mw (G_9.2.1 (F a 1)) 0)) :
    cfin (refA (G.2.1 (F a 10))) (refT (G.2.1 (F a 10))) (refC (G.2.1 (F a 10))) (gst (G_9.2.1 (F a 47)) (G_9.2.1 (F a 48)) (G_9.2.1 (F a 49)) (G119.2.1 (F a 50)) (Int.toNat (l3_9.toInt)), mw (G_9.2.1 (F a 1)) 0) = cfin (refA (G.2.1 (F a 10))) (refT (G.2.1 (F a 10))) (refC (G.2.1 (F a 10))) ([(p0.toInt, p1.toInt, 0, 0)], rfil (mw (G.2.1 (F a 1)) 0) p0.toInt p1.toInt (-2000) 3) := by
  exact (cm_st (refTo hR) iv cs224).2.trans fi
theorem v_X11_cutAll_218_17 {F : Nat → Nat → Nat} (a : Nat) (G : XG) (G4 : XG) (G_9 : XG) (G119 : XG)
    (hM : RM (G.2.1 (F a 1)) (0))
    (oq4e : RM (G4.2.1 (F a 1)) 0)
    (rm : RM (G_9.2.1 (F a 1)) 0)
    (c_G119_F_a_1 : G119.2.1 (F a 1) = G_9.2.1 (F a 1)) :
    RM (G119.2.1 (F a 1)) 0 := by simp only [c_G119_F_a_1]; assumption
theorem v_X11_cutAll_224_18 {K : Nat → Nat} {F : Nat → Nat → Nat} (a : Nat) (G : XG) (G4 : XG) (G_9 : XG) (G119 : XG) (x15 : Int32) (x118 : Int32) (G218 : XG) (p0 : Int32) (p1 : Int32) (l3_9 : Int32) (N9 : Nat) (x63 : Int32) (x129 : Int32)
    (ha : K a = 13)
    (hG119 : G119 = cput G_9 (F a 50) x15.toNatClampNeg x118)
    (e15 : x15.toInt = (l3_9.toInt - (1 : Int)))
    (e118 : x118.toInt = ((aI (G_9.2.1 (F a 50)) (l3_9.toInt - 1)) + (1 : Int)))
    (oq218 : ∀ z : Int, 0 ≤ z → aI (G218.2.1 (F a 47)) z = if z = l3_9.toInt then (aI (G.2.1 (F a 10)) (10 * (aI (G_9.2.1 (F a 49)) (l3_9.toInt - 1)) + 1)) else aI (G_9.2.1 (F a 47)) z)
    (oq218a : ∀ z : Int, 0 ≤ z → aI (G218.2.1 (F a 48)) z = if z = l3_9.toInt then (aI (G_9.2.1 (F a 50)) (l3_9.toInt - 1)) else aI (G_9.2.1 (F a 48)) z)
    (oq218b : ∀ z : Int, 0 ≤ z → aI (G218.2.1 (F a 49)) z = if z = l3_9.toInt then 0 else aI (G_9.2.1 (F a 49)) z)
    (oq218c : ∀ z : Int, 0 ≤ z → aI (G218.2.1 (F a 50)) z = if z = l3_9.toInt then 0 else aI (G119.2.1 (F a 50)) z)
    (oq218d : mw (G218.2.1 (F a 1)) 0 = rfil (mw (G_9.2.1 (F a 1)) 0) (aI (G.2.1 (F a 10)) (10 * (aI (G_9.2.1 (F a 49)) (l3_9.toInt - 1)) + 1)) (aI (G_9.2.1 (F a 50)) (l3_9.toInt - 1)) (-2000) 3)
    (e1 : 0 ≤ p0.toInt ∧ p0.toInt < 3)
    (e2 : 0 ≤ p1.toInt ∧ p1.toInt < 30)
    (e3 : (cel (mw (G.2.1 (F a 1)) 0) (p0.toInt) (p1.toInt) 0) ≠ -2000)
    (en8 : 0 ≤ (cmu (gst (G4.2.1 (F a 47)) (G4.2.1 (F a 48)) (G4.2.1 (F a 49)) (G4.2.1 (F a 50)) (Int.toNat 1), mw (G4.2.1 (F a 1)) 0)) ∧ (cmu (gst (G4.2.1 (F a 47)) (G4.2.1 (F a 48)) (G4.2.1 (F a 49)) (G4.2.1 (F a 50)) (Int.toNat 1), mw (G4.2.1 (F a 1)) 0)) < 40000)
    (I9_0 : 0 ≤ l3_9.toInt ∧ l3_9.toInt ≤ 90)
    (I9_1 : 0 ≤ (cmu (gst (G_9.2.1 (F a 47)) (G_9.2.1 (F a 48)) (G_9.2.1 (F a 49)) (G_9.2.1 (F a 50)) (Int.toNat (l3_9.toInt)), mw (G_9.2.1 (F a 1)) 0)))
    (hm9 : (cmu (gst (G_9.2.1 (F a 47)) (G_9.2.1 (F a 48)) (G_9.2.1 (F a 49)) (G_9.2.1 (F a 50)) (Int.toNat (l3_9.toInt)), mw (G_9.2.1 (F a 1)) 0)) < (((N9) + 1 : Nat) : Int))
    (c10 : ¬ (l3_9.toInt ≤ 0))
    (z13 : ((0 ≤ (aI (G_9.2.1 (F a 47)) (l3_9.toInt - 1)) ∧ (aI (G_9.2.1 (F a 47)) (l3_9.toInt - 1)) < 3) ∧ (0 ≤ (aI (G_9.2.1 (F a 48)) (l3_9.toInt - 1)) ∧ (aI (G_9.2.1 (F a 48)) (l3_9.toInt - 1)) < 30) ∧ (0 ≤ (aI (G_9.2.1 (F a 49)) (l3_9.toInt - 1)) ∧ (aI (G_9.2.1 (F a 49)) (l3_9.toInt - 1)) ≤ 12) ∧ (0 ≤ (aI (G_9.2.1 (F a 50)) (l3_9.toInt - 1)) ∧ (aI (G_9.2.1 (F a 50)) (l3_9.toInt - 1)) ≤ 30)) ∧ l3_9.toInt + (pn (mw (G_9.2.1 (F a 1)) 0)) ≤ 90)
    (c27 : (aI (G_9.2.1 (F a 49)) (l3_9.toInt - 1)) ≠ (12 : Int))
    (c45 : ¬ ((aI (G_9.2.1 (F a 50)) (l3_9.toInt - 1)) = (30 : Int)))
    (t63 : (x63.toInt = 1 ∧ 0 < (refA (G.2.1 (F a 10)) (aI (G_9.2.1 (F a 49)) (l3_9.toInt - 1)) (aI (G_9.2.1 (F a 47)) (l3_9.toInt - 1)))) ∨ (x63.toInt = 0 ∧ ¬ (0 < (refA (G.2.1 (F a 10)) (aI (G_9.2.1 (F a 49)) (l3_9.toInt - 1)) (aI (G_9.2.1 (F a 47)) (l3_9.toInt - 1))))))
    (c66 : x63.toInt ≠ 0)
    (z91 : ((0 ≤ (aI (G_9.2.1 (F a 49)) (l3_9.toInt - 1)) ∧ (aI (G_9.2.1 (F a 49)) (l3_9.toInt - 1)) < 12 ∧ (aI (G.2.1 (F a 10)) (10 * (aI (G_9.2.1 (F a 49)) (l3_9.toInt - 1)) + 0)) = 1 ∧ (aI (G.2.1 (F a 10)) (10 * (aI (G_9.2.1 (F a 49)) (l3_9.toInt - 1)) + 3)) = (aI (G_9.2.1 (F a 47)) (l3_9.toInt - 1))) ∧ (refA (G.2.1 (F a 10)) (aI (G_9.2.1 (F a 49)) (l3_9.toInt - 1)) (aI (G_9.2.1 (F a 47)) (l3_9.toInt - 1))) = (aI (G.2.1 (F a 10)) (10 * (aI (G_9.2.1 (F a 49)) (l3_9.toInt - 1)) + 8))) ∨ (¬ (0 ≤ (aI (G_9.2.1 (F a 49)) (l3_9.toInt - 1)) ∧ (aI (G_9.2.1 (F a 49)) (l3_9.toInt - 1)) < 12 ∧ (aI (G.2.1 (F a 10)) (10 * (aI (G_9.2.1 (F a 49)) (l3_9.toInt - 1)) + 0)) = 1 ∧ (aI (G.2.1 (F a 10)) (10 * (aI (G_9.2.1 (F a 49)) (l3_9.toInt - 1)) + 3)) = (aI (G_9.2.1 (F a 47)) (l3_9.toInt - 1))) ∧ (refA (G.2.1 (F a 10)) (aI (G_9.2.1 (F a 49)) (l3_9.toInt - 1)) (aI (G_9.2.1 (F a 47)) (l3_9.toInt - 1))) = 0))
    (z91a : (-1 ≤ (aI (G.2.1 (F a 10)) (10 * (aI (G_9.2.1 (F a 49)) (l3_9.toInt - 1)) + 0)) ∧ (aI (G.2.1 (F a 10)) (10 * (aI (G_9.2.1 (F a 49)) (l3_9.toInt - 1)) + 0)) ≤ 5) ∧ (0 ≤ (aI (G.2.1 (F a 10)) (10 * (aI (G_9.2.1 (F a 49)) (l3_9.toInt - 1)) + 1)) ∧ (aI (G.2.1 (F a 10)) (10 * (aI (G_9.2.1 (F a 49)) (l3_9.toInt - 1)) + 1)) ≤ 2) ∧ (0 ≤ (aI (G.2.1 (F a 10)) (10 * (aI (G_9.2.1 (F a 49)) (l3_9.toInt - 1)) + 2)) ∧ (aI (G.2.1 (F a 10)) (10 * (aI (G_9.2.1 (F a 49)) (l3_9.toInt - 1)) + 2)) ≤ 2))
    (t129 : 0 ≤ (aI (G.2.1 (F a 10)) (10 * (aI (G_9.2.1 (F a 49)) (l3_9.toInt - 1)) + 1)) ∧ (aI (G.2.1 (F a 10)) (10 * (aI (G_9.2.1 (F a 49)) (l3_9.toInt - 1)) + 1)) ≤ 2 ∧ 0 ≤ (aI (G_9.2.1 (F a 50)) (l3_9.toInt - 1)) ∧ (aI (G_9.2.1 (F a 50)) (l3_9.toInt - 1)) ≤ 29 → x129.toInt = 4 * (30 * (aI (G.2.1 (F a 10)) (10 * (aI (G_9.2.1 (F a 49)) (l3_9.toInt - 1)) + 1)) + (aI (G_9.2.1 (F a 50)) (l3_9.toInt - 1))))
    (z134 : ((aI (G_9.2.1 (F a 1)) (0 + 4 * (30 * (aI (G.2.1 (F a 10)) (10 * (aI (G_9.2.1 (F a 49)) (l3_9.toInt - 1)) + 1)) + (aI (G_9.2.1 (F a 50)) (l3_9.toInt - 1))))) = 0 ∧ (cel (mw (G_9.2.1 (F a 1)) 0) (aI (G.2.1 (F a 10)) (10 * (aI (G_9.2.1 (F a 49)) (l3_9.toInt - 1)) + 1)) (aI (G_9.2.1 (F a 50)) (l3_9.toInt - 1)) (aI (G.2.1 (F a 10)) (10 * (aI (G_9.2.1 (F a 49)) (l3_9.toInt - 1)) + 2))) = -2000) ∨ ((aI (G_9.2.1 (F a 1)) (0 + 4 * (30 * (aI (G.2.1 (F a 10)) (10 * (aI (G_9.2.1 (F a 49)) (l3_9.toInt - 1)) + 1)) + (aI (G_9.2.1 (F a 50)) (l3_9.toInt - 1))))) = 1 ∧ (cel (mw (G_9.2.1 (F a 1)) 0) (aI (G.2.1 (F a 10)) (10 * (aI (G_9.2.1 (F a 49)) (l3_9.toInt - 1)) + 1)) (aI (G_9.2.1 (F a 50)) (l3_9.toInt - 1)) (aI (G.2.1 (F a 10)) (10 * (aI (G_9.2.1 (F a 49)) (l3_9.toInt - 1)) + 2))) = (aI (G_9.2.1 (F a 1)) (0 + 4 * (30 * (aI (G.2.1 (F a 10)) (10 * (aI (G_9.2.1 (F a 49)) (l3_9.toInt - 1)) + 1)) + (aI (G_9.2.1 (F a 50)) (l3_9.toInt - 1))) + 1 + (aI (G.2.1 (F a 10)) (10 * (aI (G_9.2.1 (F a 49)) (l3_9.toInt - 1)) + 2))))))
    (c142 : ¬ ((aI (G_9.2.1 (F a 1)) (0 + 4 * (30 * (aI (G.2.1 (F a 10)) (10 * (aI (G_9.2.1 (F a 49)) (l3_9.toInt - 1)) + 1)) + (aI (G_9.2.1 (F a 50)) (l3_9.toInt - 1))))) ≠ (1 : Int)))
    (c169 : ¬ ((aI (G_9.2.1 (F a 1)) (0 + 4 * (30 * (aI (G.2.1 (F a 10)) (10 * (aI (G_9.2.1 (F a 49)) (l3_9.toInt - 1)) + 1)) + (aI (G_9.2.1 (F a 50)) (l3_9.toInt - 1))) + 1 + (aI (G.2.1 (F a 10)) (10 * (aI (G_9.2.1 (F a 49)) (l3_9.toInt - 1)) + 2)))) ≠ (aI (G_9.2.1 (F a 48)) (l3_9.toInt - 1))))
    (c181 : (aI (G.2.1 (F a 10)) (10 * (aI (G_9.2.1 (F a 49)) (l3_9.toInt - 1)) + 8)) ≠ (2 : Int))
    (z207 : 1 ≤ (pn (mw (G_9.2.1 (F a 1)) 0))) :
    cst (refA (G.2.1 (F a 10))) (refT (G.2.1 (F a 10))) (refC (G.2.1 (F a 10))) (gst (G_9.2.1 (F a 47)) (G_9.2.1 (F a 48)) (G_9.2.1 (F a 49)) (G_9.2.1 (F a 50)) (Int.toNat (l3_9.toInt)), mw (G_9.2.1 (F a 1)) 0) = (gst (G218.2.1 (F a 47)) (G218.2.1 (F a 48)) (G218.2.1 (F a 49)) (G218.2.1 (F a 50)) (Int.toNat (l3_9.toInt + 1)), mw (G218.2.1 (F a 1)) 0) := by
  have t9 := gst_p (a := G_9.2.1 (F a 47)) (b := G_9.2.1 (F a 48)) (c := G_9.2.1 (F a 49)) (d := G_9.2.1 (F a 50)) (n := l3_9.toInt) (by omega)
  have rf := refT_f (f := G.2.1 (F a 10)) (r := aI (G_9.2.1 (F a 49)) (l3_9.toInt - 1)) (t := aI (G_9.2.1 (F a 47)) (l3_9.toInt - 1)) (by omega)
  rw [t9, cst_go (by omega) (by omega) (by omega) (by omega) (by rw [rf.2.1, rf.2.2.1]; omega), gst_g (n := l3_9.toInt) (by omega) oq218 oq218a oq218b oq218c, gst_n (n := l3_9.toInt) (by omega) (aI_pu hG119 rfl e15 e118 (by omega)), rf.2.1, oq218d]
theorem v_X11_cutAll_224_19 {K : Nat → Nat} {F : Nat → Nat → Nat} (a : Nat) (G : XG) (G4 : XG) (G_9 : XG) (G119 : XG) (G218 : XG) (p0 : Int32) (p1 : Int32) (l3_9 : Int32) (N9 : Nat) (x63 : Int32) (x129 : Int32)
    (ha : K a = 13)
    (rm : RM (G_9.2.1 (F a 1)) 0)
    (oq218e : RM (G218.2.1 (F a 1)) 0)
    (e1 : 0 ≤ p0.toInt ∧ p0.toInt < 3)
    (e2 : 0 ≤ p1.toInt ∧ p1.toInt < 30)
    (e3 : (cel (mw (G.2.1 (F a 1)) 0) (p0.toInt) (p1.toInt) 0) ≠ -2000)
    (en8 : 0 ≤ (cmu (gst (G4.2.1 (F a 47)) (G4.2.1 (F a 48)) (G4.2.1 (F a 49)) (G4.2.1 (F a 50)) (Int.toNat 1), mw (G4.2.1 (F a 1)) 0)) ∧ (cmu (gst (G4.2.1 (F a 47)) (G4.2.1 (F a 48)) (G4.2.1 (F a 49)) (G4.2.1 (F a 50)) (Int.toNat 1), mw (G4.2.1 (F a 1)) 0)) < 40000)
    (I9_0 : 0 ≤ l3_9.toInt ∧ l3_9.toInt ≤ 90)
    (I9_1 : 0 ≤ (cmu (gst (G_9.2.1 (F a 47)) (G_9.2.1 (F a 48)) (G_9.2.1 (F a 49)) (G_9.2.1 (F a 50)) (Int.toNat (l3_9.toInt)), mw (G_9.2.1 (F a 1)) 0)))
    (hm9 : (cmu (gst (G_9.2.1 (F a 47)) (G_9.2.1 (F a 48)) (G_9.2.1 (F a 49)) (G_9.2.1 (F a 50)) (Int.toNat (l3_9.toInt)), mw (G_9.2.1 (F a 1)) 0)) < (((N9) + 1 : Nat) : Int))
    (c10 : ¬ (l3_9.toInt ≤ 0))
    (z13 : ((0 ≤ (aI (G_9.2.1 (F a 47)) (l3_9.toInt - 1)) ∧ (aI (G_9.2.1 (F a 47)) (l3_9.toInt - 1)) < 3) ∧ (0 ≤ (aI (G_9.2.1 (F a 48)) (l3_9.toInt - 1)) ∧ (aI (G_9.2.1 (F a 48)) (l3_9.toInt - 1)) < 30) ∧ (0 ≤ (aI (G_9.2.1 (F a 49)) (l3_9.toInt - 1)) ∧ (aI (G_9.2.1 (F a 49)) (l3_9.toInt - 1)) ≤ 12) ∧ (0 ≤ (aI (G_9.2.1 (F a 50)) (l3_9.toInt - 1)) ∧ (aI (G_9.2.1 (F a 50)) (l3_9.toInt - 1)) ≤ 30)) ∧ l3_9.toInt + (pn (mw (G_9.2.1 (F a 1)) 0)) ≤ 90)
    (c27 : (aI (G_9.2.1 (F a 49)) (l3_9.toInt - 1)) ≠ (12 : Int))
    (c45 : ¬ ((aI (G_9.2.1 (F a 50)) (l3_9.toInt - 1)) = (30 : Int)))
    (t63 : (x63.toInt = 1 ∧ 0 < (refA (G.2.1 (F a 10)) (aI (G_9.2.1 (F a 49)) (l3_9.toInt - 1)) (aI (G_9.2.1 (F a 47)) (l3_9.toInt - 1)))) ∨ (x63.toInt = 0 ∧ ¬ (0 < (refA (G.2.1 (F a 10)) (aI (G_9.2.1 (F a 49)) (l3_9.toInt - 1)) (aI (G_9.2.1 (F a 47)) (l3_9.toInt - 1))))))
    (c66 : x63.toInt ≠ 0)
    (z91 : ((0 ≤ (aI (G_9.2.1 (F a 49)) (l3_9.toInt - 1)) ∧ (aI (G_9.2.1 (F a 49)) (l3_9.toInt - 1)) < 12 ∧ (aI (G.2.1 (F a 10)) (10 * (aI (G_9.2.1 (F a 49)) (l3_9.toInt - 1)) + 0)) = 1 ∧ (aI (G.2.1 (F a 10)) (10 * (aI (G_9.2.1 (F a 49)) (l3_9.toInt - 1)) + 3)) = (aI (G_9.2.1 (F a 47)) (l3_9.toInt - 1))) ∧ (refA (G.2.1 (F a 10)) (aI (G_9.2.1 (F a 49)) (l3_9.toInt - 1)) (aI (G_9.2.1 (F a 47)) (l3_9.toInt - 1))) = (aI (G.2.1 (F a 10)) (10 * (aI (G_9.2.1 (F a 49)) (l3_9.toInt - 1)) + 8))) ∨ (¬ (0 ≤ (aI (G_9.2.1 (F a 49)) (l3_9.toInt - 1)) ∧ (aI (G_9.2.1 (F a 49)) (l3_9.toInt - 1)) < 12 ∧ (aI (G.2.1 (F a 10)) (10 * (aI (G_9.2.1 (F a 49)) (l3_9.toInt - 1)) + 0)) = 1 ∧ (aI (G.2.1 (F a 10)) (10 * (aI (G_9.2.1 (F a 49)) (l3_9.toInt - 1)) + 3)) = (aI (G_9.2.1 (F a 47)) (l3_9.toInt - 1))) ∧ (refA (G.2.1 (F a 10)) (aI (G_9.2.1 (F a 49)) (l3_9.toInt - 1)) (aI (G_9.2.1 (F a 47)) (l3_9.toInt - 1))) = 0))
    (z91a : (-1 ≤ (aI (G.2.1 (F a 10)) (10 * (aI (G_9.2.1 (F a 49)) (l3_9.toInt - 1)) + 0)) ∧ (aI (G.2.1 (F a 10)) (10 * (aI (G_9.2.1 (F a 49)) (l3_9.toInt - 1)) + 0)) ≤ 5) ∧ (0 ≤ (aI (G.2.1 (F a 10)) (10 * (aI (G_9.2.1 (F a 49)) (l3_9.toInt - 1)) + 1)) ∧ (aI (G.2.1 (F a 10)) (10 * (aI (G_9.2.1 (F a 49)) (l3_9.toInt - 1)) + 1)) ≤ 2) ∧ (0 ≤ (aI (G.2.1 (F a 10)) (10 * (aI (G_9.2.1 (F a 49)) (l3_9.toInt - 1)) + 2)) ∧ (aI (G.2.1 (F a 10)) (10 * (aI (G_9.2.1 (F a 49)) (l3_9.toInt - 1)) + 2)) ≤ 2))
    (t129 : 0 ≤ (aI (G.2.1 (F a 10)) (10 * (aI (G_9.2.1 (F a 49)) (l3_9.toInt - 1)) + 1)) ∧ (aI (G.2.1 (F a 10)) (10 * (aI (G_9.2.1 (F a 49)) (l3_9.toInt - 1)) + 1)) ≤ 2 ∧ 0 ≤ (aI (G_9.2.1 (F a 50)) (l3_9.toInt - 1)) ∧ (aI (G_9.2.1 (F a 50)) (l3_9.toInt - 1)) ≤ 29 → x129.toInt = 4 * (30 * (aI (G.2.1 (F a 10)) (10 * (aI (G_9.2.1 (F a 49)) (l3_9.toInt - 1)) + 1)) + (aI (G_9.2.1 (F a 50)) (l3_9.toInt - 1))))
    (z134 : ((aI (G_9.2.1 (F a 1)) (0 + 4 * (30 * (aI (G.2.1 (F a 10)) (10 * (aI (G_9.2.1 (F a 49)) (l3_9.toInt - 1)) + 1)) + (aI (G_9.2.1 (F a 50)) (l3_9.toInt - 1))))) = 0 ∧ (cel (mw (G_9.2.1 (F a 1)) 0) (aI (G.2.1 (F a 10)) (10 * (aI (G_9.2.1 (F a 49)) (l3_9.toInt - 1)) + 1)) (aI (G_9.2.1 (F a 50)) (l3_9.toInt - 1)) (aI (G.2.1 (F a 10)) (10 * (aI (G_9.2.1 (F a 49)) (l3_9.toInt - 1)) + 2))) = -2000) ∨ ((aI (G_9.2.1 (F a 1)) (0 + 4 * (30 * (aI (G.2.1 (F a 10)) (10 * (aI (G_9.2.1 (F a 49)) (l3_9.toInt - 1)) + 1)) + (aI (G_9.2.1 (F a 50)) (l3_9.toInt - 1))))) = 1 ∧ (cel (mw (G_9.2.1 (F a 1)) 0) (aI (G.2.1 (F a 10)) (10 * (aI (G_9.2.1 (F a 49)) (l3_9.toInt - 1)) + 1)) (aI (G_9.2.1 (F a 50)) (l3_9.toInt - 1)) (aI (G.2.1 (F a 10)) (10 * (aI (G_9.2.1 (F a 49)) (l3_9.toInt - 1)) + 2))) = (aI (G_9.2.1 (F a 1)) (0 + 4 * (30 * (aI (G.2.1 (F a 10)) (10 * (aI (G_9.2.1 (F a 49)) (l3_9.toInt - 1)) + 1)) + (aI (G_9.2.1 (F a 50)) (l3_9.toInt - 1))) + 1 + (aI (G.2.1 (F a 10)) (10 * (aI (G_9.2.1 (F a 49)) (l3_9.toInt - 1)) + 2))))))
    (c142 : ¬ ((aI (G_9.2.1 (F a 1)) (0 + 4 * (30 * (aI (G.2.1 (F a 10)) (10 * (aI (G_9.2.1 (F a 49)) (l3_9.toInt - 1)) + 1)) + (aI (G_9.2.1 (F a 50)) (l3_9.toInt - 1))))) ≠ (1 : Int)))
    (c169 : ¬ ((aI (G_9.2.1 (F a 1)) (0 + 4 * (30 * (aI (G.2.1 (F a 10)) (10 * (aI (G_9.2.1 (F a 49)) (l3_9.toInt - 1)) + 1)) + (aI (G_9.2.1 (F a 50)) (l3_9.toInt - 1))) + 1 + (aI (G.2.1 (F a 10)) (10 * (aI (G_9.2.1 (F a 49)) (l3_9.toInt - 1)) + 2)))) ≠ (aI (G_9.2.1 (F a 48)) (l3_9.toInt - 1))))
    (c181 : (aI (G.2.1 (F a 10)) (10 * (aI (G_9.2.1 (F a 49)) (l3_9.toInt - 1)) + 8)) ≠ (2 : Int))
    (z207 : 1 ≤ (pn (mw (G_9.2.1 (F a 1)) 0)))
    (mu224 : (cmu (gst (G218.2.1 (F a 47)) (G218.2.1 (F a 48)) (G218.2.1 (F a 49)) (G218.2.1 (F a 50)) (Int.toNat (l3_9.toInt + 1)), mw (G218.2.1 (F a 1)) 0)) < (cmu (gst (G_9.2.1 (F a 47)) (G_9.2.1 (F a 48)) (G_9.2.1 (F a 49)) (G_9.2.1 (F a 50)) (Int.toNat (l3_9.toInt)), mw (G_9.2.1 (F a 1)) 0)) ∧ 0 ≤ (cmu (gst (G218.2.1 (F a 47)) (G218.2.1 (F a 48)) (G218.2.1 (F a 49)) (G218.2.1 (F a 50)) (Int.toNat (l3_9.toInt + 1)), mw (G218.2.1 (F a 1)) 0)))
    (c_G119_F_a_1 : G119.2.1 (F a 1) = G_9.2.1 (F a 1)) :
    RM (G218.2.1 (F a 1)) 0 := by
  first
    | exact rm
    | exact oq218e
    | exact rm.set (t := aI (G.2.1 (F a 10)) (10 * aI (G_9.2.1 (F a 49)) (l3_9.toInt - 1) + 1)) (k := aI (G_9.2.1 (F a 50)) (l3_9.toInt - 1)) (c := aI (G.2.1 (F a 10)) (10 * aI (G_9.2.1 (F a 49)) (l3_9.toInt - 1) + 2)) (by omega) (by decide) (by omega) (aI_pu hG203 c_G119_F_a_1 rfl (show ((-1000 : Int32)).toInt = -1000 from by decide) (by omega)) (Or.inl rfl)
theorem v_X11_cutAll_224_20 {F : Nat → Nat → Nat} (a : Nat) (G : XG) (G_9 : XG) (G218 : XG) (l3_9 : Int32)
    (hR : RV (G.2.1 (F a 10)))
    (iv : CIv (gst (G_9.2.1 (F a 47)) (G_9.2.1 (F a 48)) (G_9.2.1 (F a 49)) (G_9.2.1 (F a 50)) (Int.toNat (l3_9.toInt)), mw (G_9.2.1 (F a 1)) 0))
    (cs224 : cst (refA (G.2.1 (F a 10))) (refT (G.2.1 (F a 10))) (refC (G.2.1 (F a 10))) (gst (G_9.2.1 (F a 47)) (G_9.2.1 (F a 48)) (G_9.2.1 (F a 49)) (G_9.2.1 (F a 50)) (Int.toNat (l3_9.toInt)), mw (G_9.2.1 (F a 1)) 0) = (gst (G218.2.1 (F a 47)) (G218.2.1 (F a 48)) (G218.2.1 (F a 49)) (G218.2.1 (F a 50)) (Int.toNat (l3_9.toInt + 1)), mw (G218.2.1 (F a 1)) 0)) :
    CIv (gst (G218.2.1 (F a 47)) (G218.2.1 (F a 48)) (G218.2.1 (F a 49)) (G218.2.1 (F a 50)) (Int.toNat (l3_9.toInt + 1)), mw (G218.2.1 (F a 1)) 0) := by
  exact (cm_st (refTo hR) iv cs224).1
theorem v_X11_cutAll_224_21 {F : Nat → Nat → Nat} (a : Nat) (G : XG) (G_9 : XG) (G218 : XG) (p0 : Int32) (p1 : Int32) (l3_9 : Int32)
    (hR : RV (G.2.1 (F a 10)))
    (iv : CIv (gst (G_9.2.1 (F a 47)) (G_9.2.1 (F a 48)) (G_9.2.1 (F a 49)) (G_9.2.1 (F a 50)) (Int.toNat (l3_9.toInt)), mw (G_9.2.1 (F a 1)) 0))
    (fi : cfin (refA (G.2.1 (F a 10))) (refT (G.2.1 (F a 10))) (refC (G.2.1 (F a 10))) (gst (G_9.2.1 (F a 47)) (G_9.2.1 (F a 48)) (G_9.2.1 (F a 49)) (G_9.2.1 (F a 50)) (Int.toNat (l3_9.toInt)), mw (G_9.2.1 (F a 1)) 0) = cfin (refA (G.2.1 (F a 10))) (refT (G.2.1 (F a 10))) (refC (G.2.1 (F a 10))) ([(p0.toInt, p1.toInt, 0, 0)], rfil (mw (G.2.1 (F a 1)) 0) p0.toInt p1.toInt (-2000) 3))
    (cs224 : cst (refA (G.2.1 (F a 10))) (refT (G.2.1 (F a 10))) (refC (G.2.1 (F a 10))) (gst (G_9.2.1 (F a 47)) (G_9.2.1 (F a 48)) (G_9.2.1 (F a 49)) (G_9.2.1 (F a 50)) (Int.toNat (l3_9.toInt)), mw (G_9.2.1 (F a 1)) 0) = (gst (G218.2.1 (F a 47)) (G218.2.1 (F a 48)) (G218.2.1 (F a 49)) (G218.2.1 (F a 50)) (Int.toNat (l3_9.toInt + 1)), mw (G218.2.1 (F a 1)) 0)) :
    cfin (refA (G.2.1 (F a 10))) (refT (G.2.1 (F a 10))) (refC (G.2.1 (F a 10))) (gst (G218.2.1 (F a 47)) (G218.2.1 (F a 48)) (G218.2.1 (F a 49)) (G218.2.1 (F a 50)) (Int.toNat (l3_9.toInt + 1)), mw (G218.2.1 (F a 1)) 0) = cfin (refA (G.2.1 (F a 10))) (refT (G.2.1 (F a 10))) (refC (G.2.1 (F a 10))) ([(p0.toInt, p1.toInt, 0, 0)], rfil (mw (G.2.1 (F a 1)) 0) p0.toInt p1.toInt (-2000) 3) := by
  exact (cm_st (refTo hR) iv cs224).2.trans fi
theorem v_X11_cutAll_224_22 {K : Nat → Nat} {F : Nat → Nat → Nat} (a : Nat) (G : XG) (G4 : XG) (G_9 : XG) (G119 : XG) (x15 : Int32) (x118 : Int32) (G203 : XG) (x199 : Int32) (p0 : Int32) (p1 : Int32) (l3_9 : Int32) (N9 : Nat) (x63 : Int32) (x129 : Int32) (x191 : Int32)
    (ha : K a = 13)
    (hG119 : G119 = cput G_9 (F a 50) x15.toNatClampNeg x118)
    (hG203 : G203 = cput G119 (F a 1) x199.toNatClampNeg (-1000))
    (e15 : x15.toInt = (l3_9.toInt - (1 : Int)))
    (e118 : x118.toInt = ((aI (G_9.2.1 (F a 50)) (l3_9.toInt - 1)) + (1 : Int)))
    (e1 : 0 ≤ p0.toInt ∧ p0.toInt < 3)
    (e2 : 0 ≤ p1.toInt ∧ p1.toInt < 30)
    (e3 : (cel (mw (G.2.1 (F a 1)) 0) (p0.toInt) (p1.toInt) 0) ≠ -2000)
    (en8 : 0 ≤ (cmu (gst (G4.2.1 (F a 47)) (G4.2.1 (F a 48)) (G4.2.1 (F a 49)) (G4.2.1 (F a 50)) (Int.toNat 1), mw (G4.2.1 (F a 1)) 0)) ∧ (cmu (gst (G4.2.1 (F a 47)) (G4.2.1 (F a 48)) (G4.2.1 (F a 49)) (G4.2.1 (F a 50)) (Int.toNat 1), mw (G4.2.1 (F a 1)) 0)) < 40000)
    (I9_0 : 0 ≤ l3_9.toInt ∧ l3_9.toInt ≤ 90)
    (I9_1 : 0 ≤ (cmu (gst (G_9.2.1 (F a 47)) (G_9.2.1 (F a 48)) (G_9.2.1 (F a 49)) (G_9.2.1 (F a 50)) (Int.toNat (l3_9.toInt)), mw (G_9.2.1 (F a 1)) 0)))
    (hm9 : (cmu (gst (G_9.2.1 (F a 47)) (G_9.2.1 (F a 48)) (G_9.2.1 (F a 49)) (G_9.2.1 (F a 50)) (Int.toNat (l3_9.toInt)), mw (G_9.2.1 (F a 1)) 0)) < (((N9) + 1 : Nat) : Int))
    (c10 : ¬ (l3_9.toInt ≤ 0))
    (z13 : ((0 ≤ (aI (G_9.2.1 (F a 47)) (l3_9.toInt - 1)) ∧ (aI (G_9.2.1 (F a 47)) (l3_9.toInt - 1)) < 3) ∧ (0 ≤ (aI (G_9.2.1 (F a 48)) (l3_9.toInt - 1)) ∧ (aI (G_9.2.1 (F a 48)) (l3_9.toInt - 1)) < 30) ∧ (0 ≤ (aI (G_9.2.1 (F a 49)) (l3_9.toInt - 1)) ∧ (aI (G_9.2.1 (F a 49)) (l3_9.toInt - 1)) ≤ 12) ∧ (0 ≤ (aI (G_9.2.1 (F a 50)) (l3_9.toInt - 1)) ∧ (aI (G_9.2.1 (F a 50)) (l3_9.toInt - 1)) ≤ 30)) ∧ l3_9.toInt + (pn (mw (G_9.2.1 (F a 1)) 0)) ≤ 90)
    (c27 : (aI (G_9.2.1 (F a 49)) (l3_9.toInt - 1)) ≠ (12 : Int))
    (c45 : ¬ ((aI (G_9.2.1 (F a 50)) (l3_9.toInt - 1)) = (30 : Int)))
    (t63 : (x63.toInt = 1 ∧ 0 < (refA (G.2.1 (F a 10)) (aI (G_9.2.1 (F a 49)) (l3_9.toInt - 1)) (aI (G_9.2.1 (F a 47)) (l3_9.toInt - 1)))) ∨ (x63.toInt = 0 ∧ ¬ (0 < (refA (G.2.1 (F a 10)) (aI (G_9.2.1 (F a 49)) (l3_9.toInt - 1)) (aI (G_9.2.1 (F a 47)) (l3_9.toInt - 1))))))
    (c66 : x63.toInt ≠ 0)
    (z91 : ((0 ≤ (aI (G_9.2.1 (F a 49)) (l3_9.toInt - 1)) ∧ (aI (G_9.2.1 (F a 49)) (l3_9.toInt - 1)) < 12 ∧ (aI (G.2.1 (F a 10)) (10 * (aI (G_9.2.1 (F a 49)) (l3_9.toInt - 1)) + 0)) = 1 ∧ (aI (G.2.1 (F a 10)) (10 * (aI (G_9.2.1 (F a 49)) (l3_9.toInt - 1)) + 3)) = (aI (G_9.2.1 (F a 47)) (l3_9.toInt - 1))) ∧ (refA (G.2.1 (F a 10)) (aI (G_9.2.1 (F a 49)) (l3_9.toInt - 1)) (aI (G_9.2.1 (F a 47)) (l3_9.toInt - 1))) = (aI (G.2.1 (F a 10)) (10 * (aI (G_9.2.1 (F a 49)) (l3_9.toInt - 1)) + 8))) ∨ (¬ (0 ≤ (aI (G_9.2.1 (F a 49)) (l3_9.toInt - 1)) ∧ (aI (G_9.2.1 (F a 49)) (l3_9.toInt - 1)) < 12 ∧ (aI (G.2.1 (F a 10)) (10 * (aI (G_9.2.1 (F a 49)) (l3_9.toInt - 1)) + 0)) = 1 ∧ (aI (G.2.1 (F a 10)) (10 * (aI (G_9.2.1 (F a 49)) (l3_9.toInt - 1)) + 3)) = (aI (G_9.2.1 (F a 47)) (l3_9.toInt - 1))) ∧ (refA (G.2.1 (F a 10)) (aI (G_9.2.1 (F a 49)) (l3_9.toInt - 1)) (aI (G_9.2.1 (F a 47)) (l3_9.toInt - 1))) = 0))
    (z91a : (-1 ≤ (aI (G.2.1 (F a 10)) (10 * (aI (G_9.2.1 (F a 49)) (l3_9.toInt - 1)) + 0)) ∧ (aI (G.2.1 (F a 10)) (10 * (aI (G_9.2.1 (F a 49)) (l3_9.toInt - 1)) + 0)) ≤ 5) ∧ (0 ≤ (aI (G.2.1 (F a 10)) (10 * (aI (G_9.2.1 (F a 49)) (l3_9.toInt - 1)) + 1)) ∧ (aI (G.2.1 (F a 10)) (10 * (aI (G_9.2.1 (F a 49)) (l3_9.toInt - 1)) + 1)) ≤ 2) ∧ (0 ≤ (aI (G.2.1 (F a 10)) (10 * (aI (G_9.2.1 (F a 49)) (l3_9.toInt - 1)) + 2)) ∧ (aI (G.2.1 (F a 10)) (10 * (aI (G_9.2.1 (F a 49)) (l3_9.toInt - 1)) + 2)) ≤ 2))
    (t129 : 0 ≤ (aI (G.2.1 (F a 10)) (10 * (aI (G_9.2.1 (F a 49)) (l3_9.toInt - 1)) + 1)) ∧ (aI (G.2.1 (F a 10)) (10 * (aI (G_9.2.1 (F a 49)) (l3_9.toInt - 1)) + 1)) ≤ 2 ∧ 0 ≤ (aI (G_9.2.1 (F a 50)) (l3_9.toInt - 1)) ∧ (aI (G_9.2.1 (F a 50)) (l3_9.toInt - 1)) ≤ 29 → x129.toInt = 4 * (30 * (aI (G.2.1 (F a 10)) (10 * (aI (G_9.2.1 (F a 49)) (l3_9.toInt - 1)) + 1)) + (aI (G_9.2.1 (F a 50)) (l3_9.toInt - 1))))
    (z134 : ((aI (G_9.2.1 (F a 1)) (0 + 4 * (30 * (aI (G.2.1 (F a 10)) (10 * (aI (G_9.2.1 (F a 49)) (l3_9.toInt - 1)) + 1)) + (aI (G_9.2.1 (F a 50)) (l3_9.toInt - 1))))) = 0 ∧ (cel (mw (G_9.2.1 (F a 1)) 0) (aI (G.2.1 (F a 10)) (10 * (aI (G_9.2.1 (F a 49)) (l3_9.toInt - 1)) + 1)) (aI (G_9.2.1 (F a 50)) (l3_9.toInt - 1)) (aI (G.2.1 (F a 10)) (10 * (aI (G_9.2.1 (F a 49)) (l3_9.toInt - 1)) + 2))) = -2000) ∨ ((aI (G_9.2.1 (F a 1)) (0 + 4 * (30 * (aI (G.2.1 (F a 10)) (10 * (aI (G_9.2.1 (F a 49)) (l3_9.toInt - 1)) + 1)) + (aI (G_9.2.1 (F a 50)) (l3_9.toInt - 1))))) = 1 ∧ (cel (mw (G_9.2.1 (F a 1)) 0) (aI (G.2.1 (F a 10)) (10 * (aI (G_9.2.1 (F a 49)) (l3_9.toInt - 1)) + 1)) (aI (G_9.2.1 (F a 50)) (l3_9.toInt - 1)) (aI (G.2.1 (F a 10)) (10 * (aI (G_9.2.1 (F a 49)) (l3_9.toInt - 1)) + 2))) = (aI (G_9.2.1 (F a 1)) (0 + 4 * (30 * (aI (G.2.1 (F a 10)) (10 * (aI (G_9.2.1 (F a 49)) (l3_9.toInt - 1)) + 1)) + (aI (G_9.2.1 (F a 50)) (l3_9.toInt - 1))) + 1 + (aI (G.2.1 (F a 10)) (10 * (aI (G_9.2.1 (F a 49)) (l3_9.toInt - 1)) + 2))))))
    (c142 : ¬ ((aI (G_9.2.1 (F a 1)) (0 + 4 * (30 * (aI (G.2.1 (F a 10)) (10 * (aI (G_9.2.1 (F a 49)) (l3_9.toInt - 1)) + 1)) + (aI (G_9.2.1 (F a 50)) (l3_9.toInt - 1))))) ≠ (1 : Int)))
    (c169 : ¬ ((aI (G_9.2.1 (F a 1)) (0 + 4 * (30 * (aI (G.2.1 (F a 10)) (10 * (aI (G_9.2.1 (F a 49)) (l3_9.toInt - 1)) + 1)) + (aI (G_9.2.1 (F a 50)) (l3_9.toInt - 1))) + 1 + (aI (G.2.1 (F a 10)) (10 * (aI (G_9.2.1 (F a 49)) (l3_9.toInt - 1)) + 2)))) ≠ (aI (G_9.2.1 (F a 48)) (l3_9.toInt - 1))))
    (c181 : ¬ ((aI (G.2.1 (F a 10)) (10 * (aI (G_9.2.1 (F a 49)) (l3_9.toInt - 1)) + 8)) ≠ (2 : Int)))
    (t191 : x191.toInt = x129.toInt + (1 : Int) ∨ x129.toInt + (1 : Int) < -2147483648 ∨ 2147483648 ≤ x129.toInt + (1 : Int))
    (t199 : x199.toInt = x191.toInt + (aI (G.2.1 (F a 10)) (10 * (aI (G_9.2.1 (F a 49)) (l3_9.toInt - 1)) + 2)) ∨ x191.toInt + (aI (G.2.1 (F a 10)) (10 * (aI (G_9.2.1 (F a 49)) (l3_9.toInt - 1)) + 2)) < -2147483648 ∨ 2147483648 ≤ x191.toInt + (aI (G.2.1 (F a 10)) (10 * (aI (G_9.2.1 (F a 49)) (l3_9.toInt - 1)) + 2)))
    (c_G119_F_a_1 : G119.2.1 (F a 1) = G_9.2.1 (F a 1)) :
    cst (refA (G.2.1 (F a 10))) (refT (G.2.1 (F a 10))) (refC (G.2.1 (F a 10))) (gst (G_9.2.1 (F a 47)) (G_9.2.1 (F a 48)) (G_9.2.1 (F a 49)) (G_9.2.1 (F a 50)) (Int.toNat (l3_9.toInt)), mw (G_9.2.1 (F a 1)) 0) = (gst (G_9.2.1 (F a 47)) (G_9.2.1 (F a 48)) (G_9.2.1 (F a 49)) (G119.2.1 (F a 50)) (Int.toNat (l3_9.toInt)), mw (G203.2.1 (F a 1)) 0) := by
  have t9 := gst_p (a := G_9.2.1 (F a 47)) (b := G_9.2.1 (F a 48)) (c := G_9.2.1 (F a 49)) (d := G_9.2.1 (F a 50)) (n := l3_9.toInt) (by omega)
  have rf := refT_f (f := G.2.1 (F a 10)) (r := aI (G_9.2.1 (F a 49)) (l3_9.toInt - 1)) (t := aI (G_9.2.1 (F a 47)) (l3_9.toInt - 1)) (by omega)
  rw [t9, cst_cl (by omega) (by omega) (by omega) (by rw [rf.2.1, rf.2.2.1]; omega), gst_n (n := l3_9.toInt) (by omega) (aI_pu hG119 rfl e15 e118 (by omega)), rf.2.1, rf.2.2.1]
  have e1 := mw_set (b := 0) (t := aI (G.2.1 (F a 10)) (10 * aI (G_9.2.1 (F a 49)) (l3_9.toInt - 1) + 1)) (k := aI (G_9.2.1 (F a 50)) (l3_9.toInt - 1)) (c := aI (G.2.1 (F a 10)) (10 * aI (G_9.2.1 (F a 49)) (l3_9.toInt - 1) + 2)) (by omega) (by decide) (by omega) (aI_pu hG203 c_G119_F_a_1 rfl (show ((-1000 : Int32)).toInt = -1000 from by decide) (by omega)) (by omega)
  rw [e1]
theorem v_X11_cutAll_224_23 {K : Nat → Nat} {F : Nat → Nat → Nat} (a : Nat) (G : XG) (G4 : XG) (G_9 : XG) (G119 : XG) (G203 : XG) (x199 : Int32) (p0 : Int32) (p1 : Int32) (l3_9 : Int32) (N9 : Nat) (x63 : Int32) (x129 : Int32) (x191 : Int32)
    (ha : K a = 13)
    (hG203 : G203 = cput G119 (F a 1) x199.toNatClampNeg (-1000))
    (rm : RM (G_9.2.1 (F a 1)) 0)
    (e1 : 0 ≤ p0.toInt ∧ p0.toInt < 3)
    (e2 : 0 ≤ p1.toInt ∧ p1.toInt < 30)
    (e3 : (cel (mw (G.2.1 (F a 1)) 0) (p0.toInt) (p1.toInt) 0) ≠ -2000)
    (en8 : 0 ≤ (cmu (gst (G4.2.1 (F a 47)) (G4.2.1 (F a 48)) (G4.2.1 (F a 49)) (G4.2.1 (F a 50)) (Int.toNat 1), mw (G4.2.1 (F a 1)) 0)) ∧ (cmu (gst (G4.2.1 (F a 47)) (G4.2.1 (F a 48)) (G4.2.1 (F a 49)) (G4.2.1 (F a 50)) (Int.toNat 1), mw (G4.2.1 (F a 1)) 0)) < 40000)
    (I9_0 : 0 ≤ l3_9.toInt ∧ l3_9.toInt ≤ 90)
    (I9_1 : 0 ≤ (cmu (gst (G_9.2.1 (F a 47)) (G_9.2.1 (F a 48)) (G_9.2.1 (F a 49)) (G_9.2.1 (F a 50)) (Int.toNat (l3_9.toInt)), mw (G_9.2.1 (F a 1)) 0)))
    (hm9 : (cmu (gst (G_9.2.1 (F a 47)) (G_9.2.1 (F a 48)) (G_9.2.1 (F a 49)) (G_9.2.1 (F a 50)) (Int.toNat (l3_9.toInt)), mw (G_9.2.1 (F a 1)) 0)) < (((N9) + 1 : Nat) : Int))
    (c10 : ¬ (l3_9.toInt ≤ 0))
    (z13 : ((0 ≤ (aI (G_9.2.1 (F a 47)) (l3_9.toInt - 1)) ∧ (aI (G_9.2.1 (F a 47)) (l3_9.toInt - 1)) < 3) ∧ (0 ≤ (aI (G_9.2.1 (F a 48)) (l3_9.toInt - 1)) ∧ (aI (G_9.2.1 (F a 48)) (l3_9.toInt - 1)) < 30) ∧ (0 ≤ (aI (G_9.2.1 (F a 49)) (l3_9.toInt - 1)) ∧ (aI (G_9.2.1 (F a 49)) (l3_9.toInt - 1)) ≤ 12) ∧ (0 ≤ (aI (G_9.2.1 (F a 50)) (l3_9.toInt - 1)) ∧ (aI (G_9.2.1 (F a 50)) (l3_9.toInt - 1)) ≤ 30)) ∧ l3_9.toInt + (pn (mw (G_9.2.1 (F a 1)) 0)) ≤ 90)
    (c27 : (aI (G_9.2.1 (F a 49)) (l3_9.toInt - 1)) ≠ (12 : Int))
    (c45 : ¬ ((aI (G_9.2.1 (F a 50)) (l3_9.toInt - 1)) = (30 : Int)))
    (t63 : (x63.toInt = 1 ∧ 0 < (refA (G.2.1 (F a 10)) (aI (G_9.2.1 (F a 49)) (l3_9.toInt - 1)) (aI (G_9.2.1 (F a 47)) (l3_9.toInt - 1)))) ∨ (x63.toInt = 0 ∧ ¬ (0 < (refA (G.2.1 (F a 10)) (aI (G_9.2.1 (F a 49)) (l3_9.toInt - 1)) (aI (G_9.2.1 (F a 47)) (l3_9.toInt - 1))))))
    (c66 : x63.toInt ≠ 0)
    (z91 : ((0 ≤ (aI (G_9.2.1 (F a 49)) (l3_9.toInt - 1)) ∧ (aI (G_9.2.1 (F a 49)) (l3_9.toInt - 1)) < 12 ∧ (aI (G.2.1 (F a 10)) (10 * (aI (G_9.2.1 (F a 49)) (l3_9.toInt - 1)) + 0)) = 1 ∧ (aI (G.2.1 (F a 10)) (10 * (aI (G_9.2.1 (F a 49)) (l3_9.toInt - 1)) + 3)) = (aI (G_9.2.1 (F a 47)) (l3_9.toInt - 1))) ∧ (refA (G.2.1 (F a 10)) (aI (G_9.2.1 (F a 49)) (l3_9.toInt - 1)) (aI (G_9.2.1 (F a 47)) (l3_9.toInt - 1))) = (aI (G.2.1 (F a 10)) (10 * (aI (G_9.2.1 (F a 49)) (l3_9.toInt - 1)) + 8))) ∨ (¬ (0 ≤ (aI (G_9.2.1 (F a 49)) (l3_9.toInt - 1)) ∧ (aI (G_9.2.1 (F a 49)) (l3_9.toInt - 1)) < 12 ∧ (aI (G.2.1 (F a 10)) (10 * (aI (G_9.2.1 (F a 49)) (l3_9.toInt - 1)) + 0)) = 1 ∧ (aI (G.2.1 (F a 10)) (10 * (aI (G_9.2.1 (F a 49)) (l3_9.toInt - 1)) + 3)) = (aI (G_9.2.1 (F a 47)) (l3_9.toInt - 1))) ∧ (refA (G.2.1 (F a 10)) (aI (G_9.2.1 (F a 49)) (l3_9.toInt - 1)) (aI (G_9.2.1 (F a 47)) (l3_9.toInt - 1))) = 0))
    (z91a : (-1 ≤ (aI (G.2.1 (F a 10)) (10 * (aI (G_9.2.1 (F a 49)) (l3_9.toInt - 1)) + 0)) ∧ (aI (G.2.1 (F a 10)) (10 * (aI (G_9.2.1 (F a 49)) (l3_9.toInt - 1)) + 0)) ≤ 5) ∧ (0 ≤ (aI (G.2.1 (F a 10)) (10 * (aI (G_9.2.1 (F a 49)) (l3_9.toInt - 1)) + 1)) ∧ (aI (G.2.1 (F a 10)) (10 * (aI (G_9.2.1 (F a 49)) (l3_9.toInt - 1)) + 1)) ≤ 2) ∧ (0 ≤ (aI (G.2.1 (F a 10)) (10 * (aI (G_9.2.1 (F a 49)) (l3_9.toInt - 1)) + 2)) ∧ (aI (G.2.1 (F a 10)) (10 * (aI (G_9.2.1 (F a 49)) (l3_9.toInt - 1)) + 2)) ≤ 2))
    (t129 : 0 ≤ (aI (G.2.1 (F a 10)) (10 * (aI (G_9.2.1 (F a 49)) (l3_9.toInt - 1)) + 1)) ∧ (aI (G.2.1 (F a 10)) (10 * (aI (G_9.2.1 (F a 49)) (l3_9.toInt - 1)) + 1)) ≤ 2 ∧ 0 ≤ (aI (G_9.2.1 (F a 50)) (l3_9.toInt - 1)) ∧ (aI (G_9.2.1 (F a 50)) (l3_9.toInt - 1)) ≤ 29 → x129.toInt = 4 * (30 * (aI (G.2.1 (F a 10)) (10 * (aI (G_9.2.1 (F a 49)) (l3_9.toInt - 1)) + 1)) + (aI (G_9.2.1 (F a 50)) (l3_9.toInt - 1))))
    (z134 : ((aI (G_9.2.1 (F a 1)) (0 + 4 * (30 * (aI (G.2.1 (F a 10)) (10 * (aI (G_9.2.1 (F a 49)) (l3_9.toInt - 1)) + 1)) + (aI (G_9.2.1 (F a 50)) (l3_9.toInt - 1))))) = 0 ∧ (cel (mw (G_9.2.1 (F a 1)) 0) (aI (G.2.1 (F a 10)) (10 * (aI (G_9.2.1 (F a 49)) (l3_9.toInt - 1)) + 1)) (aI (G_9.2.1 (F a 50)) (l3_9.toInt - 1)) (aI (G.2.1 (F a 10)) (10 * (aI (G_9.2.1 (F a 49)) (l3_9.toInt - 1)) + 2))) = -2000) ∨ ((aI (G_9.2.1 (F a 1)) (0 + 4 * (30 * (aI (G.2.1 (F a 10)) (10 * (aI (G_9.2.1 (F a 49)) (l3_9.toInt - 1)) + 1)) + (aI (G_9.2.1 (F a 50)) (l3_9.toInt - 1))))) = 1 ∧ (cel (mw (G_9.2.1 (F a 1)) 0) (aI (G.2.1 (F a 10)) (10 * (aI (G_9.2.1 (F a 49)) (l3_9.toInt - 1)) + 1)) (aI (G_9.2.1 (F a 50)) (l3_9.toInt - 1)) (aI (G.2.1 (F a 10)) (10 * (aI (G_9.2.1 (F a 49)) (l3_9.toInt - 1)) + 2))) = (aI (G_9.2.1 (F a 1)) (0 + 4 * (30 * (aI (G.2.1 (F a 10)) (10 * (aI (G_9.2.1 (F a 49)) (l3_9.toInt - 1)) + 1)) + (aI (G_9.2.1 (F a 50)) (l3_9.toInt - 1))) + 1 + (aI (G.2.1 (F a 10)) (10 * (aI (G_9.2.1 (F a 49)) (l3_9.toInt - 1)) + 2))))))
    (c142 : ¬ ((aI (G_9.2.1 (F a 1)) (0 + 4 * (30 * (aI (G.2.1 (F a 10)) (10 * (aI (G_9.2.1 (F a 49)) (l3_9.toInt - 1)) + 1)) + (aI (G_9.2.1 (F a 50)) (l3_9.toInt - 1))))) ≠ (1 : Int)))
    (c169 : ¬ ((aI (G_9.2.1 (F a 1)) (0 + 4 * (30 * (aI (G.2.1 (F a 10)) (10 * (aI (G_9.2.1 (F a 49)) (l3_9.toInt - 1)) + 1)) + (aI (G_9.2.1 (F a 50)) (l3_9.toInt - 1))) + 1 + (aI (G.2.1 (F a 10)) (10 * (aI (G_9.2.1 (F a 49)) (l3_9.toInt - 1)) + 2)))) ≠ (aI (G_9.2.1 (F a 48)) (l3_9.toInt - 1))))
    (c181 : ¬ ((aI (G.2.1 (F a 10)) (10 * (aI (G_9.2.1 (F a 49)) (l3_9.toInt - 1)) + 8)) ≠ (2 : Int)))
    (t191 : x191.toInt = x129.toInt + (1 : Int) ∨ x129.toInt + (1 : Int) < -2147483648 ∨ 2147483648 ≤ x129.toInt + (1 : Int))
    (t199 : x199.toInt = x191.toInt + (aI (G.2.1 (F a 10)) (10 * (aI (G_9.2.1 (F a 49)) (l3_9.toInt - 1)) + 2)) ∨ x191.toInt + (aI (G.2.1 (F a 10)) (10 * (aI (G_9.2.1 (F a 49)) (l3_9.toInt - 1)) + 2)) < -2147483648 ∨ 2147483648 ≤ x191.toInt + (aI (G.2.1 (F a 10)) (10 * (aI (G_9.2.1 (F a 49)) (l3_9.toInt - 1)) + 2)))
    (mu224 : (cmu (gst (G_9.2.1 (F a 47)) (G_9.2.1 (F a 48)) (G_9.2.1 (F a 49)) (G119.2.1 (F a 50)) (Int.toNat (l3_9.toInt)), mw (G203.2.1 (F a 1)) 0)) < (cmu (gst (G_9.2.1 (F a 47)) (G_9.2.1 (F a 48)) (G_9.2.1 (F a 49)) (G_9.2.1 (F a 50)) (Int.toNat (l3_9.toInt)), mw (G_9.2.1 (F a 1)) 0)) ∧ 0 ≤ (cmu (gst (G_9.2.1 (F a 47)) (G_9.2.1 (F a 48)) (G_9.2.1 (F a 49)) (G119.2.1 (F a 50)) (Int.toNat (l3_9.toInt)), mw (G203.2.1 (F a 1)) 0)))
    (c_G119_F_a_1 : G119.2.1 (F a 1) = G_9.2.1 (F a 1)) :
    RM (G203.2.1 (F a 1)) 0 := by
  first
    | exact rm
    | exact oq218e
    | exact rm.set (t := aI (G.2.1 (F a 10)) (10 * aI (G_9.2.1 (F a 49)) (l3_9.toInt - 1) + 1)) (k := aI (G_9.2.1 (F a 50)) (l3_9.toInt - 1)) (c := aI (G.2.1 (F a 10)) (10 * aI (G_9.2.1 (F a 49)) (l3_9.toInt - 1) + 2)) (by omega) (by decide) (by omega) (aI_pu hG203 c_G119_F_a_1 rfl (show ((-1000 : Int32)).toInt = -1000 from by decide) (by omega)) (Or.inl rfl)
theorem v_X11_cutAll_224_24 {F : Nat → Nat → Nat} (a : Nat) (G : XG) (G_9 : XG) (G119 : XG) (G203 : XG) (l3_9 : Int32)
    (hR : RV (G.2.1 (F a 10)))
    (iv : CIv (gst (G_9.2.1 (F a 47)) (G_9.2.1 (F a 48)) (G_9.2.1 (F a 49)) (G_9.2.1 (F a 50)) (Int.toNat (l3_9.toInt)), mw (G_9.2.1 (F a 1)) 0))
    (cs224 : cst (refA (G.2.1 (F a 10))) (refT (G.2.1 (F a 10))) (refC (G.2.1 (F a 10))) (gst (G_9.2.1 (F a 47)) (G_9.2.1 (F a 48)) (G_9.2.1 (F a 49)) (G_9.2.1 (F a 50)) (Int.toNat (l3_9.toInt)), mw (G_9.2.1 (F a 1)) 0) = (gst (G_9.2.1 (F a 47)) (G_9.2.1 (F a 48)) (G_9.2.1 (F a 49)) (G119.2.1 (F a 50)) (Int.toNat (l3_9.toInt)), mw (G203.2.1 (F a 1)) 0)) :
    CIv (gst (G_9.2.1 (F a 47)) (G_9.2.1 (F a 48)) (G_9.2.1 (F a 49)) (G119.2.1 (F a 50)) (Int.toNat (l3_9.toInt)), mw (G203.2.1 (F a 1)) 0) := by
  exact (cm_st (refTo hR) iv cs224).1
theorem v_X11_cutAll_224_25 {F : Nat → Nat → Nat} (a : Nat) (G : XG) (G_9 : XG) (G119 : XG) (G203 : XG) (p0 : Int32) (p1 : Int32) (l3_9 : Int32)
    (hR : RV (G.2.1 (F a 10)))
    (iv : CIv (gst (G_9.2.1 (F a 47)) (G_9.2.1 (F a 48)) (G_9.2.1 (F a 49)) (G_9.2.1 (F a 50)) (Int.toNat (l3_9.toInt)), mw (G_9.2.1 (F a 1)) 0))
    (fi : cfin (refA (G.2.1 (F a 10))) (refT (G.2.1 (F a 10))) (refC (G.2.1 (F a 10))) (gst (G_9.2.1 (F a 47)) (G_9.2.1 (F a 48)) (G_9.2.1 (F a 49)) (G_9.2.1 (F a 50)) (Int.toNat (l3_9.toInt)), mw (G_9.2.1 (F a 1)) 0) = cfin (refA (G.2.1 (F a 10))) (refT (G.2.1 (F a 10))) (refC (G.2.1 (F a 10))) ([(p0.toInt, p1.toInt, 0, 0)], rfil (mw (G.2.1 (F a 1)) 0) p0.toInt p1.toInt (-2000) 3))
    (cs224 : cst (refA (G.2.1 (F a 10))) (refT (G.2.1 (F a 10))) (refC (G.2.1 (F a 10))) (gst (G_9.2.1 (F a 47)) (G_9.2.1 (F a 48)) (G_9.2.1 (F a 49)) (G_9.2.1 (F a 50)) (Int.toNat (l3_9.toInt)), mw (G_9.2.1 (F a 1)) 0) = (gst (G_9.2.1 (F a 47)) (G_9.2.1 (F a 48)) (G_9.2.1 (F a 49)) (G119.2.1 (F a 50)) (Int.toNat (l3_9.toInt)), mw (G203.2.1 (F a 1)) 0)) :
    cfin (refA (G.2.1 (F a 10))) (refT (G.2.1 (F a 10))) (refC (G.2.1 (F a 10))) (gst (G_9.2.1 (F a 47)) (G_9.2.1 (F a 48)) (G_9.2.1 (F a 49)) (G119.2.1 (F a 50)) (Int.toNat (l3_9.toInt)), mw (G203.2.1 (F a 1)) 0) = cfin (refA (G.2.1 (F a 10))) (refT (G.2.1 (F a 10))) (refC (G.2.1 (F a 10))) ([(p0.toInt, p1.toInt, 0, 0)], rfil (mw (G.2.1 (F a 1)) 0) p0.toInt p1.toInt (-2000) 3) := by
  exact (cm_st (refTo hR) iv cs224).2.trans fi
theorem v_X11_cutAll_224_26 {K : Nat → Nat} {F : Nat → Nat → Nat} (a : Nat) (G : XG) (G4 : XG) (G_9 : XG) (G79 : XG) (x15 : Int32) (x78 : Int32) (G87 : XG) (p0 : Int32) (p1 : Int32) (l3_9 : Int32) (N9 : Nat) (x63 : Int32)
    (ha : K a = 13)
    (hG79 : G79 = cput G_9 (F a 49) x15.toNatClampNeg x78)
    (hG87 : G87 = cput G79 (F a 50) x15.toNatClampNeg 0)
    (e15 : x15.toInt = (l3_9.toInt - (1 : Int)))
    (e78 : x78.toInt = ((aI (G_9.2.1 (F a 49)) (l3_9.toInt - 1)) + (1 : Int)))
    (e1 : 0 ≤ p0.toInt ∧ p0.toInt < 3)
    (e2 : 0 ≤ p1.toInt ∧ p1.toInt < 30)
    (e3 : (cel (mw (G.2.1 (F a 1)) 0) (p0.toInt) (p1.toInt) 0) ≠ -2000)
    (en8 : 0 ≤ (cmu (gst (G4.2.1 (F a 47)) (G4.2.1 (F a 48)) (G4.2.1 (F a 49)) (G4.2.1 (F a 50)) (Int.toNat 1), mw (G4.2.1 (F a 1)) 0)) ∧ (cmu (gst (G4.2.1 (F a 47)) (G4.2.1 (F a 48)) (G4.2.1 (F a 49)) (G4.2.1 (F a 50)) (Int.toNat 1), mw (G4.2.1 (F a 1)) 0)) < 40000)
    (I9_0 : 0 ≤ l3_9.toInt ∧ l3_9.toInt ≤ 90)
    (I9_1 : 0 ≤ (cmu (gst (G_9.2.1 (F a 47)) (G_9.2.1 (F a 48)) (G_9.2.1 (F a 49)) (G_9.2.1 (F a 50)) (Int.toNat (l3_9.toInt)), mw (G_9.2.1 (F a 1)) 0)))
    (hm9 : (cmu (gst (G_9.2.1 (F a 47)) (G_9.2.1 (F a 48)) (G_9.2.1 (F a 49)) (G_9.2.1 (F a 50)) (Int.toNat (l3_9.toInt)), mw (G_9.2.1 (F a 1)) 0)) < (((N9) + 1 : Nat) : Int))
    (c10 : ¬ (l3_9.toInt ≤ 0))
    (z13 : ((0 ≤ (aI (G_9.2.1 (F a 47)) (l3_9.toInt - 1)) ∧ (aI (G_9.2.1 (F a 47)) (l3_9.toInt - 1)) < 3) ∧ (0 ≤ (aI (G_9.2.1 (F a 48)) (l3_9.toInt - 1)) ∧ (aI (G_9.2.1 (F a 48)) (l3_9.toInt - 1)) < 30) ∧ (0 ≤ (aI (G_9.2.1 (F a 49)) (l3_9.toInt - 1)) ∧ (aI (G_9.2.1 (F a 49)) (l3_9.toInt - 1)) ≤ 12) ∧ (0 ≤ (aI (G_9.2.1 (F a 50)) (l3_9.toInt - 1)) ∧ (aI (G_9.2.1 (F a 50)) (l3_9.toInt - 1)) ≤ 30)) ∧ l3_9.toInt + (pn (mw (G_9.2.1 (F a 1)) 0)) ≤ 90)
    (c27 : (aI (G_9.2.1 (F a 49)) (l3_9.toInt - 1)) ≠ (12 : Int))
    (c45 : ¬ ((aI (G_9.2.1 (F a 50)) (l3_9.toInt - 1)) = (30 : Int)))
    (t63 : (x63.toInt = 1 ∧ 0 < (refA (G.2.1 (F a 10)) (aI (G_9.2.1 (F a 49)) (l3_9.toInt - 1)) (aI (G_9.2.1 (F a 47)) (l3_9.toInt - 1)))) ∨ (x63.toInt = 0 ∧ ¬ (0 < (refA (G.2.1 (F a 10)) (aI (G_9.2.1 (F a 49)) (l3_9.toInt - 1)) (aI (G_9.2.1 (F a 47)) (l3_9.toInt - 1))))))
    (c66 : ¬ (x63.toInt ≠ 0))
    (c_G79_F_a_50 : G79.2.1 (F a 50) = G_9.2.1 (F a 50)) :
    cst (refA (G.2.1 (F a 10))) (refT (G.2.1 (F a 10))) (refC (G.2.1 (F a 10))) (gst (G_9.2.1 (F a 47)) (G_9.2.1 (F a 48)) (G_9.2.1 (F a 49)) (G_9.2.1 (F a 50)) (Int.toNat (l3_9.toInt)), mw (G_9.2.1 (F a 1)) 0) = (gst (G_9.2.1 (F a 47)) (G_9.2.1 (F a 48)) (G79.2.1 (F a 49)) (G87.2.1 (F a 50)) (Int.toNat (l3_9.toInt)), mw (G_9.2.1 (F a 1)) 0) := by
  have t9 := gst_p (a := G_9.2.1 (F a 47)) (b := G_9.2.1 (F a 48)) (c := G_9.2.1 (F a 49)) (d := G_9.2.1 (F a 50)) (n := l3_9.toInt) (by omega)
  rw [t9, cst_nx (by omega) (by omega), gst_u (n := l3_9.toInt) (by omega) (aI_pu hG79 rfl e15 e78 (by omega)) (aI_pu hG87 c_G79_F_a_50 e15 (show ((0 : Int32)).toInt = 0 from by decide) (by omega))]
theorem v_X11_cutAll_224_27 {K : Nat → Nat} {F : Nat → Nat → Nat} (a : Nat) (G : XG) (G4 : XG) (G_9 : XG) (G79 : XG) (G87 : XG) (p0 : Int32) (p1 : Int32) (l3_9 : Int32) (N9 : Nat) (x63 : Int32)
    (ha : K a = 13)
    (rm : RM (G_9.2.1 (F a 1)) 0)
    (e1 : 0 ≤ p0.toInt ∧ p0.toInt < 3)
    (e2 : 0 ≤ p1.toInt ∧ p1.toInt < 30)
    (e3 : (cel (mw (G.2.1 (F a 1)) 0) (p0.toInt) (p1.toInt) 0) ≠ -2000)
    (en8 : 0 ≤ (cmu (gst (G4.2.1 (F a 47)) (G4.2.1 (F a 48)) (G4.2.1 (F a 49)) (G4.2.1 (F a 50)) (Int.toNat 1), mw (G4.2.1 (F a 1)) 0)) ∧ (cmu (gst (G4.2.1 (F a 47)) (G4.2.1 (F a 48)) (G4.2.1 (F a 49)) (G4.2.1 (F a 50)) (Int.toNat 1), mw (G4.2.1 (F a 1)) 0)) < 40000)
    (I9_0 : 0 ≤ l3_9.toInt ∧ l3_9.toInt ≤ 90)
    (I9_1 : 0 ≤ (cmu (gst (G_9.2.1 (F a 47)) (G_9.2.1 (F a 48)) (G_9.2.1 (F a 49)) (G_9.2.1 (F a 50)) (Int.toNat (l3_9.toInt)), mw (G_9.2.1 (F a 1)) 0)))
    (hm9 : (cmu (gst (G_9.2.1 (F a 47)) (G_9.2.1 (F a 48)) (G_9.2.1 (F a 49)) (G_9.2.1 (F a 50)) (Int.toNat (l3_9.toInt)), mw (G_9.2.1 (F a 1)) 0)) < (((N9) + 1 : Nat) : Int))
    (c10 : ¬ (l3_9.toInt ≤ 0))
    (z13 : ((0 ≤ (aI (G_9.2.1 (F a 47)) (l3_9.toInt - 1)) ∧ (aI (G_9.2.1 (F a 47)) (l3_9.toInt - 1)) < 3) ∧ (0 ≤ (aI (G_9.2.1 (F a 48)) (l3_9.toInt - 1)) ∧ (aI (G_9.2.1 (F a 48)) (l3_9.toInt - 1)) < 30) ∧ (0 ≤ (aI (G_9.2.1 (F a 49)) (l3_9.toInt - 1)) ∧ (aI (G_9.2.1 (F a 49)) (l3_9.toInt - 1)) ≤ 12) ∧ (0 ≤ (aI (G_9.2.1 (F a 50)) (l3_9.toInt - 1)) ∧ (aI (G_9.2.1 (F a 50)) (l3_9.toInt - 1)) ≤ 30)) ∧ l3_9.toInt + (pn (mw (G_9.2.1 (F a 1)) 0)) ≤ 90)
    (c27 : (aI (G_9.2.1 (F a 49)) (l3_9.toInt - 1)) ≠ (12 : Int))
    (c45 : ¬ ((aI (G_9.2.1 (F a 50)) (l3_9.toInt - 1)) = (30 : Int)))
    (t63 : (x63.toInt = 1 ∧ 0 < (refA (G.2.1 (F a 10)) (aI (G_9.2.1 (F a 49)) (l3_9.toInt - 1)) (aI (G_9.2.1 (F a 47)) (l3_9.toInt - 1)))) ∨ (x63.toInt = 0 ∧ ¬ (0 < (refA (G.2.1 (F a 10)) (aI (G_9.2.1 (F a 49)) (l3_9.toInt - 1)) (aI (G_9.2.1 (F a 47)) (l3_9.toInt - 1))))))
    (c66 : ¬ (x63.toInt ≠ 0))
    (mu224 : (cmu (gst (G_9.2.1 (F a 47)) (G_9.2.1 (F a 48)) (G79.2.1 (F a 49)) (G87.2.1 (F a 50)) (Int.toNat (l3_9.toInt)), mw (G_9.2.1 (F a 1)) 0)) < (cmu (gst (G_9.2.1 (F a 47)) (G_9.2.1 (F a 48)) (G_9.2.1 (F a 49)) (G_9.2.1 (F a 50)) (Int.toNat (l3_9.toInt)), mw (G_9.2.1 (F a 1)) 0)) ∧ 0 ≤ (cmu (gst (G_9.2.1 (F a 47)) (G_9.2.1 (F a 48)) (G79.2.1 (F a 49)) (G87.2.1 (F a 50)) (Int.toNat (l3_9.toInt)), mw (G_9.2.1 (F a 1)) 0))) :
    RM (G_9.2.1 (F a 1)) 0 := by
  first
    | exact rm
    | exact oq218e
    | exact rm.set (t := aI (G.2.1 (F a 10)) (10 * aI (G_9.2.1 (F a 49)) (l3_9.toInt - 1) + 1)) (k := aI (G_9.2.1 (F a 50)) (l3_9.toInt - 1)) (c := aI (G.2.1 (F a 10)) (10 * aI (G_9.2.1 (F a 49)) (l3_9.toInt - 1) + 2)) (by omega) (by decide) (by omega) (aI_pu hG203 c_G119_F_a_1 rfl (show ((-1000 : Int32)).toInt = -1000 from by decide) (by omega)) (Or.inl rfl)
theorem v_X11_cutAll_224_28 {F : Nat → Nat → Nat} (a : Nat) (G : XG) (G_9 : XG) (G79 : XG) (G87 : XG) (l3_9 : Int32)
    (hR : RV (G.2.1 (F a 10)))
    (iv : CIv (gst (G_9.2.1 (F a 47)) (G_9.2.1 (F a 48)) (G_9.2.1 (F a 49)) (G_9.2.1 (F a 50)) (Int.toNat (l3_9.toInt)), mw (G_9.2.1 (F a 1)) 0))
    (cs224 : cst (refA (G.2.1 (F a 10))) (refT (G.2.1 (F a 10))) (refC (G.2.1 (F a 10))) (gst (G_9.2.1 (F a 47)) (G_9.2.1 (F a 48)) (G_9.2.1 (F a 49)) (G_9.2.1 (F a 50)) (Int.toNat (l3_9.toInt)), mw (G_9.2.1 (F a 1)) 0) = (gst (G_9.2.1 (F a 47)) (G_9.2.1 (F a 48)) (G79.2.1 (F a 49)) (G87.2.1 (F a 50)) (Int.toNat (l3_9.toInt)), mw (G_9.2.1 (F a 1)) 0)) :
    CIv (gst (G_9.2.1 (F a 47)) (G_9.2.1 (F a 48)) (G79.2.1 (F a 49)) (G87.2.1 (F a 50)) (Int.toNat (l3_9.toInt)), mw (G_9.2.1 (F a 1)) 0) := by
  exact (cm_st (refTo hR) iv cs224).1
theorem v_X11_cutAll_224_29 {F : Nat → Nat → Nat} (a : Nat) (G : XG) (G_9 : XG) (G79 : XG) (G87 : XG) (p0 : Int32) (p1 : Int32) (l3_9 : Int32)
    (hR : RV (G.2.1 (F a 10)))
    (iv : CIv (gst (G_9.2.1 (F a 47)) (G_9.2.1 (F a 48)) (G_9.2.1 (F a 49)) (G_9.2.1 (F a 50)) (Int.toNat (l3_9.toInt)), mw (G_9.2.1 (F a 1)) 0))
    (fi : cfin (refA (G.2.1 (F a 10))) (refT (G.2.1 (F a 10))) (refC (G.2.1 (F a 10))) (gst (G_9.2.1 (F a 47)) (G_9.2.1 (F a 48)) (G_9.2.1 (F a 49)) (G_9.2.1 (F a 50)) (Int.toNat (l3_9.toInt)), mw (G_9.2.1 (F a 1)) 0) = cfin (refA (G.2.1 (F a 10))) (refT (G.2.1 (F a 10))) (refC (G.2.1 (F a 10))) ([(p0.toInt, p1.toInt, 0, 0)], rfil (mw (G.2.1 (F a 1)) 0) p0.toInt p1.toInt (-2000) 3))
    (cs224 : cst (refA (G.2.1 (F a 10))) (refT (G.2.1 (F a 10))) (refC (G.2.1 (F a 10))) (gst (G_9.2.1 (F a 47)) (G_9.2.1 (F a 48)) (G_9.2.1 (F a 49)) (G_9.2.1 (F a 50)) (Int.toNat (l3_9.toInt)), mw (G_9.2.1 (F a 1)) 0) = (gst (G_9.2.1 (F a 47)) (G_9.2.1 (F a 48)) (G79.2.1 (F a 49)) (G87.2.1 (F a 50)) (Int.toNat (l3_9.toInt)), mw (G_9.2.1 (F a 1)) 0)) :
    cfin (refA (G.2.1 (F a 10))) (refT (G.2.1 (F a 10))) (refC (G.2.1 (F a 10))) (gst (G_9.2.1 (F a 47)) (G_9.2.1 (F a 48)) (G79.2.1 (F a 49)) (G87.2.1 (F a 50)) (Int.toNat (l3_9.toInt)), mw (G_9.2.1 (F a 1)) 0) = cfin (refA (G.2.1 (F a 10))) (refT (G.2.1 (F a 10))) (refC (G.2.1 (F a 10))) ([(p0.toInt, p1.toInt, 0, 0)], rfil (mw (G.2.1 (F a 1)) 0) p0.toInt p1.toInt (-2000) 3) := by
  exact (cm_st (refTo hR) iv cs224).2.trans fi
theorem v_X11_cutAll_224_30 {K : Nat → Nat} {F : Nat → Nat → Nat} (a : Nat) (G : XG) (G4 : XG) (G_9 : XG) (p0 : Int32) (p1 : Int32) (l3_9 : Int32) (N9 : Nat)
    (ha : K a = 13)
    (e1 : 0 ≤ p0.toInt ∧ p0.toInt < 3)
    (e2 : 0 ≤ p1.toInt ∧ p1.toInt < 30)
    (e3 : (cel (mw (G.2.1 (F a 1)) 0) (p0.toInt) (p1.toInt) 0) ≠ -2000)
    (en8 : 0 ≤ (cmu (gst (G4.2.1 (F a 47)) (G4.2.1 (F a 48)) (G4.2.1 (F a 49)) (G4.2.1 (F a 50)) (Int.toNat 1), mw (G4.2.1 (F a 1)) 0)) ∧ (cmu (gst (G4.2.1 (F a 47)) (G4.2.1 (F a 48)) (G4.2.1 (F a 49)) (G4.2.1 (F a 50)) (Int.toNat 1), mw (G4.2.1 (F a 1)) 0)) < 40000)
    (I9_0 : 0 ≤ l3_9.toInt ∧ l3_9.toInt ≤ 90)
    (I9_1 : 0 ≤ (cmu (gst (G_9.2.1 (F a 47)) (G_9.2.1 (F a 48)) (G_9.2.1 (F a 49)) (G_9.2.1 (F a 50)) (Int.toNat (l3_9.toInt)), mw (G_9.2.1 (F a 1)) 0)))
    (hm9 : (cmu (gst (G_9.2.1 (F a 47)) (G_9.2.1 (F a 48)) (G_9.2.1 (F a 49)) (G_9.2.1 (F a 50)) (Int.toNat (l3_9.toInt)), mw (G_9.2.1 (F a 1)) 0)) < (((N9) + 1 : Nat) : Int))
    (c10 : ¬ (l3_9.toInt ≤ 0))
    (z13 : ((0 ≤ (aI (G_9.2.1 (F a 47)) (l3_9.toInt - 1)) ∧ (aI (G_9.2.1 (F a 47)) (l3_9.toInt - 1)) < 3) ∧ (0 ≤ (aI (G_9.2.1 (F a 48)) (l3_9.toInt - 1)) ∧ (aI (G_9.2.1 (F a 48)) (l3_9.toInt - 1)) < 30) ∧ (0 ≤ (aI (G_9.2.1 (F a 49)) (l3_9.toInt - 1)) ∧ (aI (G_9.2.1 (F a 49)) (l3_9.toInt - 1)) ≤ 12) ∧ (0 ≤ (aI (G_9.2.1 (F a 50)) (l3_9.toInt - 1)) ∧ (aI (G_9.2.1 (F a 50)) (l3_9.toInt - 1)) ≤ 30)) ∧ l3_9.toInt + (pn (mw (G_9.2.1 (F a 1)) 0)) ≤ 90)
    (c27 : ¬ ((aI (G_9.2.1 (F a 49)) (l3_9.toInt - 1)) ≠ (12 : Int))) :
    cst (refA (G.2.1 (F a 10))) (refT (G.2.1 (F a 10))) (refC (G.2.1 (F a 10))) (gst (G_9.2.1 (F a 47)) (G_9.2.1 (F a 48)) (G_9.2.1 (F a 49)) (G_9.2.1 (F a 50)) (Int.toNat (l3_9.toInt)), mw (G_9.2.1 (F a 1)) 0) = (gst (G_9.2.1 (F a 47)) (G_9.2.1 (F a 48)) (G_9.2.1 (F a 49)) (G_9.2.1 (F a 50)) (Int.toNat (l3_9.toInt + (-1))), mw (G_9.2.1 (F a 1)) 0) := by
  have t9 := gst_p (a := G_9.2.1 (F a 47)) (b := G_9.2.1 (F a 48)) (c := G_9.2.1 (F a 49)) (d := G_9.2.1 (F a 50)) (n := l3_9.toInt) (by omega)
  rw [t9, cst_pop (by omega), show l3_9.toInt + -1 = l3_9.toInt - 1 from by omega]
theorem v_X11_cutAll_224_31 {K : Nat → Nat} {F : Nat → Nat → Nat} (a : Nat) (G : XG) (G4 : XG) (G_9 : XG) (p0 : Int32) (p1 : Int32) (l3_9 : Int32) (N9 : Nat)
    (ha : K a = 13)
    (rm : RM (G_9.2.1 (F a 1)) 0)
    (e1 : 0 ≤ p0.toInt ∧ p0.toInt < 3)
    (e2 : 0 ≤ p1.toInt ∧ p1.toInt < 30)
    (e3 : (cel (mw (G.2.1 (F a 1)) 0) (p0.toInt) (p1.toInt) 0) ≠ -2000)
    (en8 : 0 ≤ (cmu (gst (G4.2.1 (F a 47)) (G4.2.1 (F a 48)) (G4.2.1 (F a 49)) (G4.2.1 (F a 50)) (Int.toNat 1), mw (G4.2.1 (F a 1)) 0)) ∧ (cmu (gst (G4.2.1 (F a 47)) (G4.2.1 (F a 48)) (G4.2.1 (F a 49)) (G4.2.1 (F a 50)) (Int.toNat 1), mw (G4.2.1 (F a 1)) 0)) < 40000)
    (I9_0 : 0 ≤ l3_9.toInt ∧ l3_9.toInt ≤ 90)
    (I9_1 : 0 ≤ (cmu (gst (G_9.2.1 (F a 47)) (G_9.2.1 (F a 48)) (G_9.2.1 (F a 49)) (G_9.2.1 (F a 50)) (Int.toNat (l3_9.toInt)), mw (G_9.2.1 (F a 1)) 0)))
    (hm9 : (cmu (gst (G_9.2.1 (F a 47)) (G_9.2.1 (F a 48)) (G_9.2.1 (F a 49)) (G_9.2.1 (F a 50)) (Int.toNat (l3_9.toInt)), mw (G_9.2.1 (F a 1)) 0)) < (((N9) + 1 : Nat) : Int))
    (c10 : ¬ (l3_9.toInt ≤ 0))
    (z13 : ((0 ≤ (aI (G_9.2.1 (F a 47)) (l3_9.toInt - 1)) ∧ (aI (G_9.2.1 (F a 47)) (l3_9.toInt - 1)) < 3) ∧ (0 ≤ (aI (G_9.2.1 (F a 48)) (l3_9.toInt - 1)) ∧ (aI (G_9.2.1 (F a 48)) (l3_9.toInt - 1)) < 30) ∧ (0 ≤ (aI (G_9.2.1 (F a 49)) (l3_9.toInt - 1)) ∧ (aI (G_9.2.1 (F a 49)) (l3_9.toInt - 1)) ≤ 12) ∧ (0 ≤ (aI (G_9.2.1 (F a 50)) (l3_9.toInt - 1)) ∧ (aI (G_9.2.1 (F a 50)) (l3_9.toInt - 1)) ≤ 30)) ∧ l3_9.toInt + (pn (mw (G_9.2.1 (F a 1)) 0)) ≤ 90)
    (c27 : ¬ ((aI (G_9.2.1 (F a 49)) (l3_9.toInt - 1)) ≠ (12 : Int)))
    (mu224 : (cmu (gst (G_9.2.1 (F a 47)) (G_9.2.1 (F a 48)) (G_9.2.1 (F a 49)) (G_9.2.1 (F a 50)) (Int.toNat (l3_9.toInt + (-1))), mw (G_9.2.1 (F a 1)) 0)) < (cmu (gst (G_9.2.1 (F a 47)) (G_9.2.1 (F a 48)) (G_9.2.1 (F a 49)) (G_9.2.1 (F a 50)) (Int.toNat (l3_9.toInt)), mw (G_9.2.1 (F a 1)) 0)) ∧ 0 ≤ (cmu (gst (G_9.2.1 (F a 47)) (G_9.2.1 (F a 48)) (G_9.2.1 (F a 49)) (G_9.2.1 (F a 50)) (Int.toNat (l3_9.toInt + (-1))), mw (G_9.2.1 (F a 1)) 0))) :
    RM (G_9.2.1 (F a 1)) 0 := by
  first
    | exact rm
    | exact oq218e
    | exact rm.set (t := aI (G.2.1 (F a 10)) (10 * aI (G_9.2.1 (F a 49)) (l3_9.toInt - 1) + 1)) (k := aI (G_9.2.1 (F a 50)) (l3_9.toInt - 1)) (c := aI (G.2.1 (F a 10)) (10 * aI (G_9.2.1 (F a 49)) (l3_9.toInt - 1) + 2)) (by omega) (by decide) (by omega) (aI_pu hG203 c_G119_F_a_1 rfl (show ((-1000 : Int32)).toInt = -1000 from by decide) (by omega)) (Or.inl rfl)
theorem v_X11_cutAll_224_32 {F : Nat → Nat → Nat} (a : Nat) (G : XG) (G_9 : XG) (l3_9 : Int32)
    (hR : RV (G.2.1 (F a 10)))
    (iv : CIv (gst (G_9.2.1 (F a 47)) (G_9.2.1 (F a 48)) (G_9.2.1 (F a 49)) (G_9.2.1 (F a 50)) (Int.toNat (l3_9.toInt)), mw (G_9.2.1 (F a 1)) 0))
    (cs224 : cst (refA (G.2.1 (F a 10))) (refT (G.2.1 (F a 10))) (refC (G.2.1 (F a 10))) (gst (G_9.2.1 (F a 47)) (G_9.2.1 (F a 48)) (G_9.2.1 (F a 49)) (G_9.2.1 (F a 50)) (Int.toNat (l3_9.toInt)), mw (G_9.2.1 (F a 1)) 0) = (gst (G_9.2.1 (F a 47)) (G_9.2.1 (F a 48)) (G_9.2.1 (F a 49)) (G_9.2.1 (F a 50)) (Int.toNat (l3_9.toInt + (-1))), mw (G_9.2.1 (F a 1)) 0)) :
    CIv (gst (G_9.2.1 (F a 47)) (G_9.2.1 (F a 48)) (G_9.2.1 (F a 49)) (G_9.2.1 (F a 50)) (Int.toNat (l3_9.toInt + (-1))), mw (G_9.2.1 (F a 1)) 0) := by
  exact (cm_st (refTo hR) iv cs224).1
theorem v_X11_cutAll_224_33 {F : Nat → Nat → Nat} (a : Nat) (G : XG) (G_9 : XG) (p0 : Int32) (p1 : Int32) (l3_9 : Int32)
    (hR : RV (G.2.1 (F a 10)))
    (iv : CIv (gst (G_9.2.1 (F a 47)) (G_9.2.1 (F a 48)) (G_9.2.1 (F a 49)) (G_9.2.1 (F a 50)) (Int.toNat (l3_9.toInt)), mw (G_9.2.1 (F a 1)) 0))
    (fi : cfin (refA (G.2.1 (F a 10))) (refT (G.2.1 (F a 10))) (refC (G.2.1 (F a 10))) (gst (G_9.2.1 (F a 47)) (G_9.2.1 (F a 48)) (G_9.2.1 (F a 49)) (G_9.2.1 (F a 50)) (Int.toNat (l3_9.toInt)), mw (G_9.2.1 (F a 1)) 0) = cfin (refA (G.2.1 (F a 10))) (refT (G.2.1 (F a 10))) (refC (G.2.1 (F a 10))) ([(p0.toInt, p1.toInt, 0, 0)], rfil (mw (G.2.1 (F a 1)) 0) p0.toInt p1.toInt (-2000) 3))
    (cs224 : cst (refA (G.2.1 (F a 10))) (refT (G.2.1 (F a 10))) (refC (G.2.1 (F a 10))) (gst (G_9.2.1 (F a 47)) (G_9.2.1 (F a 48)) (G_9.2.1 (F a 49)) (G_9.2.1 (F a 50)) (Int.toNat (l3_9.toInt)), mw (G_9.2.1 (F a 1)) 0) = (gst (G_9.2.1 (F a 47)) (G_9.2.1 (F a 48)) (G_9.2.1 (F a 49)) (G_9.2.1 (F a 50)) (Int.toNat (l3_9.toInt + (-1))), mw (G_9.2.1 (F a 1)) 0)) :
    cfin (refA (G.2.1 (F a 10))) (refT (G.2.1 (F a 10))) (refC (G.2.1 (F a 10))) (gst (G_9.2.1 (F a 47)) (G_9.2.1 (F a 48)) (G_9.2.1 (F a 49)) (G_9.2.1 (F a 50)) (Int.toNat (l3_9.toInt + (-1))), mw (G_9.2.1 (F a 1)) 0) = cfin (refA (G.2.1 (F a 10))) (refT (G.2.1 (F a 10))) (refC (G.2.1 (F a 10))) ([(p0.toInt, p1.toInt, 0, 0)], rfil (mw (G.2.1 (F a 1)) 0) p0.toInt p1.toInt (-2000) 3) := by
  exact (cm_st (refTo hR) iv cs224).2.trans fi
theorem v_X11_cutAll_8_34 {F : Nat → Nat → Nat} (a : Nat) (G4 : XG)
    (oq4e : RM (G4.2.1 (F a 1)) 0) :
    RM (G4.2.1 (F a 1)) 0 := by
  exact oq4e
theorem v_X11_cutAll_8_35 {K : Nat → Nat} {F : Nat → Nat → Nat} (a : Nat) (G : XG) (G4 : XG) (p0 : Int32) (p1 : Int32)
    (ha : K a = 13)
    (hM : RM (G.2.1 (F a 1)) (0))
    (oq4 : ∀ z : Int, 0 ≤ z → aI (G4.2.1 (F a 47)) z = if z = (0 : Int) then p0.toInt else aI (G.2.1 (F a 47)) z)
    (oq4a : ∀ z : Int, 0 ≤ z → aI (G4.2.1 (F a 48)) z = if z = (0 : Int) then p1.toInt else aI (G.2.1 (F a 48)) z)
    (oq4b : ∀ z : Int, 0 ≤ z → aI (G4.2.1 (F a 49)) z = if z = (0 : Int) then 0 else aI (G.2.1 (F a 49)) z)
    (oq4c : ∀ z : Int, 0 ≤ z → aI (G4.2.1 (F a 50)) z = if z = (0 : Int) then 0 else aI (G.2.1 (F a 50)) z)
    (oq4d : mw (G4.2.1 (F a 1)) 0 = rfil (mw (G.2.1 (F a 1)) 0) p0.toInt p1.toInt (-2000) 3)
    (e1 : 0 ≤ p0.toInt ∧ p0.toInt < 3)
    (e2 : 0 ≤ p1.toInt ∧ p1.toInt < 30)
    (e3 : (cel (mw (G.2.1 (F a 1)) 0) (p0.toInt) (p1.toInt) 0) ≠ -2000)
    (en8 : 0 ≤ (cmu (gst (G4.2.1 (F a 47)) (G4.2.1 (F a 48)) (G4.2.1 (F a 49)) (G4.2.1 (F a 50)) (Int.toNat 1), mw (G4.2.1 (F a 1)) 0)) ∧ (cmu (gst (G4.2.1 (F a 47)) (G4.2.1 (F a 48)) (G4.2.1 (F a 49)) (G4.2.1 (F a 50)) (Int.toNat 1), mw (G4.2.1 (F a 1)) 0)) < 40000) :
    CIv (gst (G4.2.1 (F a 47)) (G4.2.1 (F a 48)) (G4.2.1 (F a 49)) (G4.2.1 (F a 50)) (Int.toNat (1 : Int)), mw (G4.2.1 (F a 1)) 0) := by
  have e := gst_g (n := 0) (by decide) oq4 oq4a oq4b oq4c
  rw [show Int.toNat (1 : Int) = ((0 : Int) + 1).toNat from rfl, e, oq4d]
  exact (civ_0 hM.rc (by omega) e3).1
theorem v_X11_cutAll_8_36 {F : Nat → Nat → Nat} (a : Nat) (G : XG) (G4 : XG) (p0 : Int32) (p1 : Int32)
    (oq4 : ∀ z : Int, 0 ≤ z → aI (G4.2.1 (F a 47)) z = if z = (0 : Int) then p0.toInt else aI (G.2.1 (F a 47)) z)
    (oq4a : ∀ z : Int, 0 ≤ z → aI (G4.2.1 (F a 48)) z = if z = (0 : Int) then p1.toInt else aI (G.2.1 (F a 48)) z)
    (oq4b : ∀ z : Int, 0 ≤ z → aI (G4.2.1 (F a 49)) z = if z = (0 : Int) then 0 else aI (G.2.1 (F a 49)) z)
    (oq4c : ∀ z : Int, 0 ≤ z → aI (G4.2.1 (F a 50)) z = if z = (0 : Int) then 0 else aI (G.2.1 (F a 50)) z)
    (oq4d : mw (G4.2.1 (F a 1)) 0 = rfil (mw (G.2.1 (F a 1)) 0) p0.toInt p1.toInt (-2000) 3) :
    cfin (refA (G.2.1 (F a 10))) (refT (G.2.1 (F a 10))) (refC (G.2.1 (F a 10))) (gst (G4.2.1 (F a 47)) (G4.2.1 (F a 48)) (G4.2.1 (F a 49)) (G4.2.1 (F a 50)) (Int.toNat (1 : Int)), mw (G4.2.1 (F a 1)) 0) = cfin (refA (G.2.1 (F a 10))) (refT (G.2.1 (F a 10))) (refC (G.2.1 (F a 10))) ([(p0.toInt, p1.toInt, 0, 0)], rfil (mw (G.2.1 (F a 1)) 0) p0.toInt p1.toInt (-2000) 3) := by
  have e := gst_g (n := 0) (by decide) oq4 oq4a oq4b oq4c
  rw [show Int.toNat (1 : Int) = ((0 : Int) + 1).toNat from rfl, e, oq4d]
  rfl
theorem v_X11_cut_28_1 {F : Nat → Nat → Nat} (x10 : Int32) (p0 : Int32) (G25 : XG) (a : Nat) (G : XG) (p1 : Int32)
    (t10 : (x10.toInt = 1 ∧ 0 ≤ p0.toInt ∧ p0.toInt ≤ 2) ∨ (x10.toInt = 0 ∧ (p0.toInt < 0 ∨ 2 < p0.toInt)))
    (c13 : x10.toInt = 0)
    (c_G25_F_a_1 : G25.2.1 (F a 1) = G.2.1 (F a 1)) :
    (¬ ((0 ≤ p0.toInt ∧ p0.toInt < 3) ∧ (0 ≤ p1.toInt ∧ p1.toInt < 30)) ∧ (-1 : Int) = -1 ∧ mw (G25.2.1 (F a 1)) 0 = (mw (G.2.1 (F a 1)) 0)) ∨ (((0 ≤ p0.toInt ∧ p0.toInt < 3) ∧ (0 ≤ p1.toInt ∧ p1.toInt < 30)) ∧ cel (mw (G.2.1 (F a 1)) 0) p0.toInt p1.toInt 0 = -2000 ∧ (-1 : Int) = -2 ∧ mw (G25.2.1 (F a 1)) 0 = (mw (G.2.1 (F a 1)) 0)) ∨ (((0 ≤ p0.toInt ∧ p0.toInt < 3) ∧ (0 ≤ p1.toInt ∧ p1.toInt < 30)) ∧ cel (mw (G.2.1 (F a 1)) 0) p0.toInt p1.toInt 0 ≠ -2000 ∧ StR ((G.1 a 6).toInt) (-1 : Int) (G.2.1 (F a 10)) (mw (G.2.1 (F a 1)) 0) (cfin (refA (G.2.1 (F a 10))) (refT (G.2.1 (F a 10))) (refC (G.2.1 (F a 10))) ([(p0.toInt, p1.toInt, 0, 0)], rfil (mw (G.2.1 (F a 1)) 0) p0.toInt p1.toInt (-2000) 3)) (mw (G25.2.1 (F a 1)) 0)) := by
  refine Or.inl ⟨fun h => ?_, rfl, by rw [c_G25_F_a_1]⟩
  obtain ⟨h1, h2⟩ := h
  have hk := h1
  clear h1 h2
  omega
theorem v_X11_cut_28_2 {F : Nat → Nat → Nat} (a : Nat) (G : XG) (G25 : XG)
    (hM : RM (G.2.1 (F a 1)) (0))
    (c_G25_F_a_1 : G25.2.1 (F a 1) = G.2.1 (F a 1)) :
    RM (G25.2.1 (F a 1)) 0 := by
  rw [c_G25_F_a_1]; exact hM
theorem v_X11_cut_32_3 {F : Nat → Nat → Nat} (a : Nat) (G : XG) (G6 : XG)
    (hM : RM (G.2.1 (F a 1)) (0))
    (hB : RM (G.2.1 (F a 2)) 0)
    (c_G6_F_a_1 : G6.2.1 (F a 1) = G.2.1 (F a 1)) :
    RM (G6.2.1 (F a 1)) 0 := by simp only [c_G6_F_a_1]; assumption
theorem v_X11_cut_46_4 {F : Nat → Nat → Nat} (a : Nat) (G : XG) (G6 : XG)
    (hR : RV (G.2.1 (F a 10)))
    (c_G6_F_a_10 : G6.2.1 (F a 10) = G.2.1 (F a 10)) :
    RV (G6.2.1 (F a 10)) := by simp only [c_G6_F_a_10]; assumption
theorem v_X11_cut_46_5 {F : Nat → Nat → Nat} (a : Nat) (G : XG) (G6 : XG)
    (hM : RM (G.2.1 (F a 1)) (0))
    (hB : RM (G.2.1 (F a 2)) 0)
    (c_G6_F_a_1 : G6.2.1 (F a 1) = G.2.1 (F a 1)) :
    RM (G6.2.1 (F a 1)) (0) := by simp only [c_G6_F_a_1]; assumption
theorem v_X11_cut_52_6 {F : Nat → Nat → Nat} (a : Nat) (G : XG) (G46 : XG)
    (hR : RV (G.2.1 (F a 10)))
    (c_G46_F_a_10 : G46.2.1 (F a 10) = G.2.1 (F a 10)) :
    RV (G46.2.1 (F a 10)) := by simp only [c_G46_F_a_10]; assumption
theorem v_X11_cut_52_7 {F : Nat → Nat → Nat} (a : Nat) (G : XG) (G46 : XG)
    (hM : RM (G.2.1 (F a 1)) (0))
    (hB : RM (G.2.1 (F a 2)) 0)
    (oq46a : RM (G46.2.1 (F a 4)) 0)
    (c_G46_F_a_1 : G46.2.1 (F a 1) = G.2.1 (F a 1)) :
    RM (G46.2.1 (F a 1)) (0) := by simp only [c_G46_F_a_1]; assumption
theorem v_X11_cut_56_8 {F : Nat → Nat → Nat} (a : Nat) (G : XG) (G52 : XG)
    (hR : RV (G.2.1 (F a 10)))
    (c_G52_F_a_10 : G52.2.1 (F a 10) = G.2.1 (F a 10)) :
    RV (G52.2.1 (F a 10)) := by simp only [c_G52_F_a_10]; assumption
theorem v_X11_cut_56_9 {F : Nat → Nat → Nat} (a : Nat) (G52 : XG)
    (oq52a : RM (G52.2.1 (F a 1)) 0) :
    RM (G52.2.1 (F a 1)) (0) := by
  exact oq52a
theorem v_X11_cut_56_10 {F : Nat → Nat → Nat} (a : Nat) (G : XG) (G46 : XG) (G52 : XG)
    (hM : RM (G.2.1 (F a 1)) (0))
    (hB : RM (G.2.1 (F a 2)) 0)
    (oq46a : RM (G46.2.1 (F a 4)) 0)
    (oq52a : RM (G52.2.1 (F a 1)) 0)
    (c_G52_F_a_4 : G52.2.1 (F a 4) = G46.2.1 (F a 4)) :
    RM (G52.2.1 (F a 4)) 0 := by simp only [c_G52_F_a_4]; assumption
theorem v_X11_cut_56_11 {F : Nat → Nat → Nat} (a : Nat) (G : XG) (G46 : XG) (G52 : XG)
    (hM : RM (G.2.1 (F a 1)) (0))
    (hB : RM (G.2.1 (F a 2)) 0)
    (oq46a : RM (G46.2.1 (F a 4)) 0)
    (oq52a : RM (G52.2.1 (F a 1)) 0)
    (c_G52_F_a_2 : G52.2.1 (F a 2) = G.2.1 (F a 2)) :
    RM (G52.2.1 (F a 2)) 0 := by simp only [c_G52_F_a_2]; assumption
theorem v_X11_cut_56_12 {F : Nat → Nat → Nat} (a : Nat) (G : XG) (G46 : XG) (G52 : XG)
    (oq46b : LSt (G.2.1 (F a 10)) (G46.2.1 (F a 12)) (mw (G.2.1 (F a 1)) 0) 12)
    (c_G52_F_a_10 : G52.2.1 (F a 10) = G.2.1 (F a 10))
    (c_G52_F_a_12 : G52.2.1 (F a 12) = G46.2.1 (F a 12)) :
    LSt (G52.2.1 (F a 10)) (G52.2.1 (F a 12)) (mw (G.2.1 (F a 1)) 0) 12 := by
  rw [c_G52_F_a_10, c_G52_F_a_12]; exact oq46b
theorem v_X11_cut_59_13 {F : Nat → Nat → Nat} (G46 : XG) (a : Nat) (G : XG) (G52 : XG) (p0 : Int32) (p1 : Int32) (x56 : Int32) (G56 : XG) (x32 : Int32)
    (oq46 : mw (G46.2.1 (F a 4)) 0 = mw (G.2.1 (F a 1)) 0)
    (oq52 : mw (G52.2.1 (F a 1)) 0 = cfin (refA (G.2.1 (F a 10))) (refT (G.2.1 (F a 10))) (refC (G.2.1 (F a 10))) ([(p0.toInt, p1.toInt, 0, 0)], rfil (mw (G.2.1 (F a 1)) 0) p0.toInt p1.toInt (-2000) 3))
    (oq56 : ((ffP (G.2.1 (F a 10)) (mw (G52.2.1 (F a 1)) 0) (fuO (G.2.1 (F a 10)) (mw (G.2.1 (F a 1)) 0) (mw (G52.2.1 (F a 1)) 0) 0) ≠ -1 ∨ (((G.1 a 6).toInt) = 0 ∧ ffP (G.2.1 (F a 10)) (mw (G52.2.1 (F a 1)) 0) (fuO (G.2.1 (F a 10)) (mw (G.2.1 (F a 1)) 0) (mw (G52.2.1 (F a 1)) 0) 1) ≠ -1)) ∧ x56.toInt = -5 ∧ mw (G56.2.1 (F a 1)) 0 = mw (G46.2.1 (F a 4)) 0) ∨ (ffP (G.2.1 (F a 10)) (mw (G52.2.1 (F a 1)) 0) (fuO (G.2.1 (F a 10)) (mw (G.2.1 (F a 1)) 0) (mw (G52.2.1 (F a 1)) 0) 0) = -1 ∧ (((G.1 a 6).toInt) = 0 → ffP (G.2.1 (F a 10)) (mw (G52.2.1 (F a 1)) 0) (fuO (G.2.1 (F a 10)) (mw (G.2.1 (F a 1)) 0) (mw (G52.2.1 (F a 1)) 0) 1) = -1) ∧ x56.toInt = (((fuO (G.2.1 (F a 10)) (mw (G.2.1 (F a 1)) 0) (mw (G52.2.1 (F a 1)) 0) 2).length : Nat) : Int) ∧ mw (G56.2.1 (F a 1)) 0 = mw (G52.2.1 (F a 1)) 0))
    (z29 : 0 ≤ p0.toInt ∧ p0.toInt < 3)
    (z29a : 0 ≤ p1.toInt ∧ p1.toInt < 30)
    (t32 : (x32.toInt = 1 ∧ (cel (mw (G.2.1 (F a 1)) 0) (p0.toInt) (p1.toInt) 0) ≠ -2000) ∨ (x32.toInt = 0 ∧ (cel (mw (G.2.1 (F a 1)) 0) (p0.toInt) (p1.toInt) 0) = -2000))
    (c35 : x32.toInt ≠ 0) :
    (¬ ((0 ≤ p0.toInt ∧ p0.toInt < 3) ∧ (0 ≤ p1.toInt ∧ p1.toInt < 30)) ∧ x56.toInt = -1 ∧ mw (G56.2.1 (F a 1)) 0 = (mw (G.2.1 (F a 1)) 0)) ∨ (((0 ≤ p0.toInt ∧ p0.toInt < 3) ∧ (0 ≤ p1.toInt ∧ p1.toInt < 30)) ∧ cel (mw (G.2.1 (F a 1)) 0) p0.toInt p1.toInt 0 = -2000 ∧ x56.toInt = -2 ∧ mw (G56.2.1 (F a 1)) 0 = (mw (G.2.1 (F a 1)) 0)) ∨ (((0 ≤ p0.toInt ∧ p0.toInt < 3) ∧ (0 ≤ p1.toInt ∧ p1.toInt < 30)) ∧ cel (mw (G.2.1 (F a 1)) 0) p0.toInt p1.toInt 0 ≠ -2000 ∧ StR ((G.1 a 6).toInt) x56.toInt (G.2.1 (F a 10)) (mw (G.2.1 (F a 1)) 0) (cfin (refA (G.2.1 (F a 10))) (refT (G.2.1 (F a 10))) (refC (G.2.1 (F a 10))) ([(p0.toInt, p1.toInt, 0, 0)], rfil (mw (G.2.1 (F a 1)) 0) p0.toInt p1.toInt (-2000) 3)) (mw (G56.2.1 (F a 1)) 0)) := by
  rw [oq52, oq46] at oq56
  exact Or.inr (Or.inr ⟨⟨z29, z29a⟩, by omega, oq56⟩)
theorem v_X11_cut_59_14 {F : Nat → Nat → Nat} (a : Nat) (G56 : XG)
    (oq56a : RM (G56.2.1 (F a 1)) 0) :
    RM (G56.2.1 (F a 1)) 0 := by
  exact oq56a
theorem v_X11_cut_44_15 {F : Nat → Nat → Nat} (p0 : Int32) (p1 : Int32) (x32 : Int32) (G : XG) (a : Nat) (G41 : XG)
    (z29 : 0 ≤ p0.toInt ∧ p0.toInt < 3)
    (z29a : 0 ≤ p1.toInt ∧ p1.toInt < 30)
    (t32 : (x32.toInt = 1 ∧ (cel (mw (G.2.1 (F a 1)) 0) (p0.toInt) (p1.toInt) 0) ≠ -2000) ∨ (x32.toInt = 0 ∧ (cel (mw (G.2.1 (F a 1)) 0) (p0.toInt) (p1.toInt) 0) = -2000))
    (c35 : ¬ (x32.toInt ≠ 0))
    (c_G41_F_a_1 : G41.2.1 (F a 1) = G.2.1 (F a 1)) :
    (¬ ((0 ≤ p0.toInt ∧ p0.toInt < 3) ∧ (0 ≤ p1.toInt ∧ p1.toInt < 30)) ∧ (-2 : Int) = -1 ∧ mw (G41.2.1 (F a 1)) 0 = (mw (G.2.1 (F a 1)) 0)) ∨ (((0 ≤ p0.toInt ∧ p0.toInt < 3) ∧ (0 ≤ p1.toInt ∧ p1.toInt < 30)) ∧ cel (mw (G.2.1 (F a 1)) 0) p0.toInt p1.toInt 0 = -2000 ∧ (-2 : Int) = -2 ∧ mw (G41.2.1 (F a 1)) 0 = (mw (G.2.1 (F a 1)) 0)) ∨ (((0 ≤ p0.toInt ∧ p0.toInt < 3) ∧ (0 ≤ p1.toInt ∧ p1.toInt < 30)) ∧ cel (mw (G.2.1 (F a 1)) 0) p0.toInt p1.toInt 0 ≠ -2000 ∧ StR ((G.1 a 6).toInt) (-2 : Int) (G.2.1 (F a 10)) (mw (G.2.1 (F a 1)) 0) (cfin (refA (G.2.1 (F a 10))) (refT (G.2.1 (F a 10))) (refC (G.2.1 (F a 10))) ([(p0.toInt, p1.toInt, 0, 0)], rfil (mw (G.2.1 (F a 1)) 0) p0.toInt p1.toInt (-2000) 3)) (mw (G41.2.1 (F a 1)) 0)) := by
  exact Or.inr (Or.inl ⟨⟨z29, z29a⟩, by omega, rfl, by rw [c_G41_F_a_1]⟩)
theorem v_X11_cut_44_16 {F : Nat → Nat → Nat} (a : Nat) (G : XG) (G41 : XG)
    (hM : RM (G.2.1 (F a 1)) (0))
    (c_G41_F_a_1 : G41.2.1 (F a 1) = G.2.1 (F a 1)) :
    RM (G41.2.1 (F a 1)) 0 := by
  rw [c_G41_F_a_1]; exact hM
theorem v_X11_cut_28_17 {F : Nat → Nat → Nat} (x17 : Int32) (p1 : Int32) (G25 : XG) (a : Nat) (G : XG) (p0 : Int32)
    (t17 : (x17.toInt = 1 ∧ 0 ≤ p1.toInt ∧ p1.toInt ≤ 29) ∨ (x17.toInt = 0 ∧ (p1.toInt < 0 ∨ 29 < p1.toInt)))
    (c20 : ¬ (x17.toInt ≠ 0))
    (c_G25_F_a_1 : G25.2.1 (F a 1) = G.2.1 (F a 1)) :
    (¬ ((0 ≤ p0.toInt ∧ p0.toInt < 3) ∧ (0 ≤ p1.toInt ∧ p1.toInt < 30)) ∧ (-1 : Int) = -1 ∧ mw (G25.2.1 (F a 1)) 0 = (mw (G.2.1 (F a 1)) 0)) ∨ (((0 ≤ p0.toInt ∧ p0.toInt < 3) ∧ (0 ≤ p1.toInt ∧ p1.toInt < 30)) ∧ cel (mw (G.2.1 (F a 1)) 0) p0.toInt p1.toInt 0 = -2000 ∧ (-1 : Int) = -2 ∧ mw (G25.2.1 (F a 1)) 0 = (mw (G.2.1 (F a 1)) 0)) ∨ (((0 ≤ p0.toInt ∧ p0.toInt < 3) ∧ (0 ≤ p1.toInt ∧ p1.toInt < 30)) ∧ cel (mw (G.2.1 (F a 1)) 0) p0.toInt p1.toInt 0 ≠ -2000 ∧ StR ((G.1 a 6).toInt) (-1 : Int) (G.2.1 (F a 10)) (mw (G.2.1 (F a 1)) 0) (cfin (refA (G.2.1 (F a 10))) (refT (G.2.1 (F a 10))) (refC (G.2.1 (F a 10))) ([(p0.toInt, p1.toInt, 0, 0)], rfil (mw (G.2.1 (F a 1)) 0) p0.toInt p1.toInt (-2000) 3)) (mw (G25.2.1 (F a 1)) 0)) := by
  refine Or.inl ⟨fun h => ?_, rfl, by rw [c_G25_F_a_1]⟩
  obtain ⟨h1, h2⟩ := h
  have hk := h2
  clear h1 h2
  omega
theorem v_X11_cut_28_18 {F : Nat → Nat → Nat} (a : Nat) (G : XG) (G25 : XG)
    (hM : RM (G.2.1 (F a 1)) (0))
    (c_G25_F_a_1 : G25.2.1 (F a 1) = G.2.1 (F a 1)) :
    RM (G25.2.1 (F a 1)) 0 := by
  rw [c_G25_F_a_1]; exact hM
