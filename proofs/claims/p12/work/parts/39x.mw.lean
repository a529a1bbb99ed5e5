/-! ===== the reference's rows behind a store ===== -/
theorem mw_z (f : Nat → Int32) (b z : Int) : mw f b z = if 0 ≤ z ∧ z < 270 then (if aI f (b + 4 * (30 * (z / 90) + z % 30)) = 1 then aI f (b + 4 * (30 * (z / 90) + z % 30) + 1 + (z / 30) % 3) else -2000) else 0 := rfl
theorem mw_ix {b t k c z I : Int} (h0 : 0 ≤ t ∧ t < 3 ∧ 0 ≤ k ∧ k < 30 ∧ 0 ≤ c ∧ c < 3) (hI : I = b + 4 * (30 * t + k) + 1 + c) (hz : 0 ≤ z ∧ z < 270) : b + 4 * (30 * (z / 90) + z % 30) ≠ I ∧ (b + 4 * (30 * (z / 90) + z % 30) + 1 + z / 30 % 3 = I ↔ z = 90 * t + 30 * c + k) := by
  refine ⟨by omega, ?_⟩
  rcases (by omega : z / 30 % 3 = 0 ∨ z / 30 % 3 = 1 ∨ z / 30 % 3 = 2) with q | q | q <;> rcases (by omega : c = 0 ∨ c = 1 ∨ c = 2) with w | w | w <;> subst w <;> rw [q] <;> constructor <;> intro e <;> omega
theorem mw_set {f g : Nat → Int32} {b t k c I X : Int} (h0 : 0 ≤ t ∧ t < 3 ∧ 0 ≤ k ∧ k < 30 ∧ 0 ≤ c ∧ c < 3) (hb : 0 ≤ b) (hI : I = b + 4 * (30 * t + k) + 1 + c) (hu : ∀ z : Int, 0 ≤ z → aI g z = if z = I then X else aI f z) (h1 : aI f (b + 4 * (30 * t + k)) = 1) : mw g b = rset (mw f b) (90 * t + 30 * c + k) X := by
  funext z
  show mw g b z = if z = 90 * t + 30 * c + k then X else mw f b z
  rw [mw_z, mw_z]
  by_cases hz : 0 ≤ z ∧ z < 270
  · obtain ⟨i1, i2⟩ := mw_ix h0 hI hz
    rw [if_pos hz, if_pos hz, hu (b + 4 * (30 * (z / 90) + z % 30)) (by omega), hu (b + 4 * (30 * (z / 90) + z % 30) + 1 + z / 30 % 3) (by omega), if_neg i1]
    by_cases e : z = 90 * t + 30 * c + k
    · rw [if_pos e, if_pos (i2.mpr e), show z / 90 = t from by omega, show z % 30 = k from by omega, if_pos h1]
    · rw [if_neg e, if_neg (fun q => e (i2.mp q))]
  · rw [if_neg hz, if_neg hz, if_neg (by omega)]
theorem mw_cut {f g : Nat → Int32} {b t k I : Int} (h0 : 0 ≤ t ∧ t < 3 ∧ 0 ≤ k ∧ k < 30) (hb : 0 ≤ b) (hI : I = b + 4 * (30 * t + k)) (hu : ∀ z : Int, 0 ≤ z → aI g z = if z = I then 0 else aI f z) : mw g b = rfil (mw f b) t k (-2000) 3 := by
  funext z
  show mw g b z = if 0 ≤ z - (90 * t + k) ∧ (z - (90 * t + k)) % 30 = 0 ∧ (z - (90 * t + k)) / 30 < 3 then -2000 else mw f b z
  rw [mw_z, mw_z]
  by_cases hz : 0 ≤ z ∧ z < 270
  · rw [if_pos hz, if_pos hz, hu _ (by omega), hu (b + 4 * (30 * (z / 90) + z % 30) + 1 + z / 30 % 3) (by omega), if_neg (c := b + 4 * (30 * (z / 90) + z % 30) + 1 + z / 30 % 3 = I) (by omega)]
    by_cases e : z / 90 = t ∧ z % 30 = k
    · rw [if_pos (c := b + 4 * (30 * (z / 90) + z % 30) = I) (by omega), if_neg (by decide), if_pos (by omega)]
    · rw [if_neg (c := b + 4 * (30 * (z / 90) + z % 30) = I) (by omega), if_neg (c := 0 ≤ z - (90 * t + k) ∧ (z - (90 * t + k)) % 30 = 0 ∧ (z - (90 * t + k)) / 30 < 3) (by omega)]
  · rw [if_neg hz, if_neg hz, if_neg (by omega)]
theorem mw_put {f g : Nat → Int32} {b t k I x y w : Int} (h0 : 0 ≤ t ∧ t < 3 ∧ 0 ≤ k ∧ k < 30) (hb : 0 ≤ b) (hI : I = b + 4 * (30 * t + k)) (hu : ∀ z : Int, 0 ≤ z → aI g z = if z = I then 1 else if z = I + 1 then x else if z = I + 2 then y else if z = I + 3 then w else aI f z) : mw g b = rput3 (mw f b) t k x y w := by
  funext z
  show mw g b z = if z = 90 * t + 30 * 2 + k then w else if z = 90 * t + 30 * 1 + k then y else if z = 90 * t + 30 * 0 + k then x else if 0 ≤ z - (90 * t + k) ∧ (z - (90 * t + k)) % 30 = 0 ∧ (z - (90 * t + k)) / 30 < 3 then -1000 else mw f b z
  rw [mw_z, mw_z]
  by_cases hz : 0 ≤ z ∧ z < 270
  · rw [if_pos hz, if_pos hz, hu _ (by omega), hu (b + 4 * (30 * (z / 90) + z % 30) + 1 + z / 30 % 3) (by omega)]
    by_cases e : z / 90 = t ∧ z % 30 = k
    · rw [if_pos (c := b + 4 * (30 * (z / 90) + z % 30) = I) (by omega), if_pos rfl, if_neg (by omega)]
      rcases (by omega : z / 30 % 3 = 0 ∨ z / 30 % 3 = 1 ∨ z / 30 % 3 = 2) with q | q | q
      · rw [if_pos (by omega), if_neg (by omega), if_neg (by omega), if_pos (by omega)]
      · rw [if_neg (by omega), if_pos (by omega), if_neg (by omega), if_pos (by omega)]
      · rw [if_neg (by omega), if_neg (by omega), if_pos (by omega), if_pos (by omega)]
    · rw [if_neg (c := b + 4 * (30 * (z / 90) + z % 30) = I) (by omega), if_neg (c := b + 4 * (30 * (z / 90) + z % 30) = I + 1) (by omega), if_neg (c := b + 4 * (30 * (z / 90) + z % 30) = I + 2) (by omega), if_neg (c := b + 4 * (30 * (z / 90) + z % 30) = I + 3) (by omega)]
      rw [if_neg (c := b + 4 * (30 * (z / 90) + z % 30) + 1 + z / 30 % 3 = I) (by omega), if_neg (c := b + 4 * (30 * (z / 90) + z % 30) + 1 + z / 30 % 3 = I + 1) (by omega), if_neg (c := b + 4 * (30 * (z / 90) + z % 30) + 1 + z / 30 % 3 = I + 2) (by omega), if_neg (c := b + 4 * (30 * (z / 90) + z % 30) + 1 + z / 30 % 3 = I + 3) (by omega)]
      rw [if_neg (c := z = 90 * t + 30 * 2 + k) (by omega), if_neg (c := z = 90 * t + 30 * 1 + k) (by omega), if_neg (c := z = 90 * t + 30 * 0 + k) (by omega), if_neg (c := 0 ≤ z - (90 * t + k) ∧ (z - (90 * t + k)) % 30 = 0 ∧ (z - (90 * t + k)) / 30 < 3) (by omega)]
  · rw [if_neg hz, if_neg (c := z = 90 * t + 30 * 2 + k) (by omega), if_neg (c := z = 90 * t + 30 * 1 + k) (by omega), if_neg (c := z = 90 * t + 30 * 0 + k) (by omega), if_neg (c := 0 ≤ z - (90 * t + k) ∧ (z - (90 * t + k)) % 30 = 0 ∧ (z - (90 * t + k)) / 30 < 3) (by omega), if_neg hz]
theorem RM.set {f g : Nat → Int32} {b t k c I X : Int} (h : RM f b) (h0 : 0 ≤ c ∧ c < 3) (hb : 0 ≤ b) (hI : I = b + 4 * (30 * t + k) + 1 + c) (hu : ∀ z : Int, 0 ≤ z → aI g z = if z = I then X else aI f z) (hX : X = -1000 ∨ (-99 ≤ X ∧ X ≤ 99)) : RM g b := by
  intro t2 k2 a1 a2 a3 a4
  rw [hu _ (by omega), if_neg (by omega)]
  rcases h t2 k2 a1 a2 a3 a4 with e | ⟨e, q⟩
  · exact Or.inl e
  · refine Or.inr ⟨e, fun c2 c0 c1 => ?_⟩
    rw [hu _ (by omega)]
    split
    · exact hX
    · exact q c2 c0 c1
theorem RM.cut {f g : Nat → Int32} {b t k I : Int} (h : RM f b) (hb : 0 ≤ b) (hI : I = b + 4 * (30 * t + k)) (hu : ∀ z : Int, 0 ≤ z → aI g z = if z = I then 0 else aI f z) : RM g b := by
  intro t2 k2 a1 a2 a3 a4
  rw [hu _ (by omega)]
  by_cases e : b + 4 * (30 * t2 + k2) = I
  · rw [if_pos e]; exact Or.inl rfl
  · rw [if_neg e]
    rcases h t2 k2 a1 a2 a3 a4 with e | ⟨e, q⟩
    · exact Or.inl e
    · refine Or.inr ⟨e, fun c2 c0 c1 => ?_⟩
      rw [hu _ (by omega), if_neg (by omega)]
      exact q c2 c0 c1
theorem RM.put {f g : Nat → Int32} {b t k I x y w : Int} (h : RM f b) (hb : 0 ≤ b) (hI : I = b + 4 * (30 * t + k)) (hu : ∀ z : Int, 0 ≤ z → aI g z = if z = I then 1 else if z = I + 1 then x else if z = I + 2 then y else if z = I + 3 then w else aI f z) (hx : x = -1000 ∨ (-99 ≤ x ∧ x ≤ 99)) (hy : y = -1000 ∨ (-99 ≤ y ∧ y ≤ 99)) (hw : w = -1000 ∨ (-99 ≤ w ∧ w ≤ 99)) : RM g b := by
  intro t2 k2 a1 a2 a3 a4
  rw [hu _ (by omega)]
  by_cases e : b + 4 * (30 * t2 + k2) = I
  · rw [if_pos e]
    refine Or.inr ⟨rfl, fun c2 c0 c1 => ?_⟩
    rw [hu _ (by omega), if_neg (by omega)]
    split
    · exact hx
    · split
      · exact hy
      · rw [if_pos (by omega)]; exact hw
  · rw [if_neg e, if_neg (by omega), if_neg (by omega), if_neg (by omega)]
    rcases h t2 k2 a1 a2 a3 a4 with e | ⟨e, q⟩
    · exact Or.inl e
    · refine Or.inr ⟨e, fun c2 c0 c1 => ?_⟩
      rw [hu _ (by omega), if_neg (by omega), if_neg (by omega), if_neg (by omega), if_neg (by omega)]
      exact q c2 c0 c1
/-- why a value can't become another one -/
def whyS (r : Int → Int) (t k c v : Int) : Int := if 0 ≤ t ∧ t < 3 ∧ 0 ≤ k ∧ k < 30 ∧ 0 ≤ c ∧ c < 3 ∧ (v = -1000 ∨ (-99 ≤ v ∧ v ≤ 99)) then (if cel r t k 0 = -2000 then -2 else if cel r t k c = v then -4 else 0) else -1
theorem whyS_0 {r : Int → Int} {t k c v : Int} (h : whyS r t k c v = 0) : (0 ≤ t ∧ t < 3 ∧ 0 ≤ k ∧ k < 30 ∧ 0 ≤ c ∧ c < 3 ∧ (v = -1000 ∨ (-99 ≤ v ∧ v ≤ 99))) ∧ cel r t k 0 ≠ -2000 ∧ cel r t k c ≠ v := by
  unfold whyS at h
  split at h
  · rename_i g
    split at h
    · exact absurd h (by decide)
    · split at h
      · exact absurd h (by decide)
      · exact ⟨g, by assumption, by assumption⟩
  · exact absurd h (by decide)
theorem aI_pu {G u : XG} {a : Nat} {i x : Int32} {I X : Int} {f : Nat → Int32} (h : u = cput G a i.toNatClampNeg x) (hg : G.2.1 a = f) (hi : i.toInt = I) (hx : x.toInt = X) (h0 : 0 ≤ I) : ∀ z : Int, 0 ≤ z → aI (u.2.1 a) z = if z = I then X else aI f z := by
  subst hi hx hg h
  exact fun z hz => aI_put h0 z hz
/-- what an act of the reference does: op: within; f: the rules; rows ahead, done, behind -/
def StR (op r : Int) (f : Nat → Int32) (r1 r2 r3 : Int → Int) : Prop := ((ffP f r2 (fuO f r1 r2 0) ≠ -1 ∨ (op = 0 ∧ ffP f r2 (fuO f r1 r2 1) ≠ -1)) ∧ r = -5 ∧ r3 = r1) ∨ (ffP f r2 (fuO f r1 r2 0) = -1 ∧ (op = 0 → ffP f r2 (fuO f r1 r2 1) = -1) ∧ r = (((fuO f r1 r2 2).length : Nat) : Int) ∧ r3 = r2)
theorem put4u {f f1 f2 f3 f4 : Nat → Int32} {I x y w : Int} (u1 : ∀ z : Int, 0 ≤ z → aI f1 z = if z = I then 1 else aI f z) (u2 : ∀ z : Int, 0 ≤ z → aI f2 z = if z = I + 1 then x else aI f1 z) (u3 : ∀ z : Int, 0 ≤ z → aI f3 z = if z = I + 2 then y else aI f2 z) (u4 : ∀ z : Int, 0 ≤ z → aI f4 z = if z = I + 3 then w else aI f3 z) : ∀ z : Int, 0 ≤ z → aI f4 z = if z = I then 1 else if z = I + 1 then x else if z = I + 2 then y else if z = I + 3 then w else aI f z := by
  intro z hz
  rw [u4 z hz, u3 z hz, u2 z hz, u1 z hz]
  by_cases e0 : z = I
  · rw [if_neg (by omega), if_neg (by omega), if_neg (by omega), if_pos e0, if_pos e0]
  · by_cases e1 : z = I + 1
    · rw [if_neg (by omega), if_neg (by omega), if_pos e1, if_neg e0, if_pos e1]
    · by_cases e2 : z = I + 2
      · rw [if_neg (by omega), if_pos e2, if_neg e0, if_neg e1, if_pos e2]
      · by_cases e3 : z = I + 3
        · rw [if_pos e3, if_neg e0, if_neg e1, if_neg e2, if_pos e3]
        · rw [if_neg e3, if_neg e2, if_neg e1, if_neg e0, if_neg e0, if_neg e1, if_neg e2, if_neg e3]
