/-! one row that is other; how many are not marked -/
theorem bI_one {k y : Int32} {Z : Int} (hy : y = (1 : Int32) <<< (k &&& 31)) (hk : k.toInt = Z) (h0 : 0 ≤ Z ∧ Z < 32) (j : Int) (h1 : 0 ≤ j) (h2 : j < 32) : bI y.toInt j = if j = Z then 1 else 0 := by
  have hw : y = (0 : Int32) ||| y := by
    apply Int32.toBitVec_inj.mp
    simp
  have h := bI_set hy hw (X := 0) (by decide) hk h0 j h1 h2
  rw [bI_0] at h
  exact h
def ONb (cg ch : Int → Int) (t0 k0 : Int) : Prop := ∀ t : Int, 0 ≤ t → t < 3 → ∀ k : Int, 0 ≤ k → k < 30 → bI (cg t) k = 0 ∧ (bI (ch t) k = 1 ↔ t = t0 ∧ k = k0)
theorem cel_rset {r : Int → Int} {t k c v t2 k2 c2 : Int} (h : 0 ≤ t ∧ t < 3 ∧ 0 ≤ k ∧ k < 30 ∧ 0 ≤ c ∧ c < 3) (h2 : 0 ≤ t2 ∧ t2 < 3 ∧ 0 ≤ k2 ∧ k2 < 30 ∧ 0 ≤ c2 ∧ c2 < 3) : ((t2 = t ∧ k2 = k ∧ c2 = c) ∧ cel (rset r (90 * t + 30 * c + k) v) t2 k2 c2 = v) ∨ (¬ (t2 = t ∧ k2 = k ∧ c2 = c) ∧ cel (rset r (90 * t + 30 * c + k) v) t2 k2 c2 = cel r t2 k2 c2) := by
  rw [cel_in h2, cel_in h2]
  unfold rset
  by_cases q : 90 * t2 + 30 * c2 + k2 = 90 * t + 30 * c + k
  · rw [if_pos q]; exact Or.inl ⟨by omega, rfl⟩
  · rw [if_neg q]; exact Or.inr ⟨by omega, rfl⟩
theorem ONb.ch {r b cg ch : Int → Int} {t k c v : Int} (h : ONb cg ch t k) (hr : RO r b) (h0 : 0 ≤ t ∧ t < 3 ∧ 0 ≤ k ∧ k < 30 ∧ 0 ≤ c ∧ c < 3) (hc : cel r t k 0 ≠ -2000) (hd : cel r t k c ≠ v) (hv : v ≠ -2000) : CH r (rset r (90 * t + 30 * c + k) v) cg ch := by
  intro t2 a1 a2 k2 b1 b2
  obtain ⟨z1, z2⟩ := h t2 a1 a2 k2 b1 b2
  have e0 := cel_rset (r := r) (v := v) h0 (t2 := t2) (k2 := k2) (c2 := 0) (by omega)
  have e1 := cel_rset (r := r) (v := v) h0 (t2 := t2) (k2 := k2) (c2 := 1) (by omega)
  have e2 := cel_rset (r := r) (v := v) h0 (t2 := t2) (k2 := k2) (c2 := 2) (by omega)
  by_cases m : t2 = t ∧ k2 = k
  · obtain ⟨m1, m2⟩ := m
    subst m1 m2
    rcases (by omega : c = 0 ∨ c = 1 ∨ c = 2) with rfl | rfl | rfl
    · constructor <;> omega
    · constructor <;> omega
    · constructor <;> omega
  · constructor <;> omega
theorem rset_rset (r : Int → Int) (i x v : Int) : rset (rset r i x) i v = rset r i v := by
  funext z
  unfold rset
  by_cases e : z = i
  · rw [if_pos e, if_pos e]
  · rw [if_neg e, if_neg e, if_neg e]
theorem cel_rset_ne {r : Int → Int} {t k c v : Int} (h : 0 ≤ t ∧ t < 3 ∧ 0 ≤ k ∧ k < 30 ∧ 0 ≤ c ∧ c < 3) (hc : cel r t k 0 ≠ -2000) (hv : v ≠ -2000) : cel (rset r (90 * t + 30 * c + k) v) t k 0 ≠ -2000 := by
  have := cel_rset (r := r) (v := v) h (t2 := t) (k2 := k) (c2 := 0) (by omega)
  omega
/-! the least value that all questions bear -/
theorem gaL_le {G : XG} {f : Nat → Option Nat} {r1 r2 : Int → Int} {w : Int} {m n : Nat} (h : m ≤ n) {x : Qt} (hx : x ∈ gaL G f r1 r2 w m) : x ∈ gaL G f r1 r2 w n := by
  induction n with
  | zero =>
    have e : m = 0 := by omega
    rw [e] at hx
    exact hx
  | succ n ih =>
    by_cases g : m = n + 1
    · rw [g] at hx; exact hx
    · exact List.mem_append_left _ (ih (by omega))
theorem gaL_ff {G : XG} {f : Nat → Option Nat} {r1 r2 : Int → Int} {w : Int} {m n : Nat} (h : ffL (gaL G f r1 r2 w m) ≠ -1) (hm : m ≤ n) : ffL (gaL G f r1 r2 w n) ≠ -1 := by
  intro e
  obtain ⟨x, hx, hf⟩ := ffL_yes h
  exact hf (ffL_no e x (gaL_le hm hx))
def LsS (ok : Int → Prop) (is r : Int) : Prop := (r = -2147483648 ∧ ∀ v : Int, -99 ≤ v → v ≤ 99 → v ≠ is → ¬ ok v) ∨ ((-99 ≤ r ∧ r ≤ 99 ∧ r ≠ is) ∧ ok r ∧ ∀ v : Int, -99 ≤ v → v < r → v ≠ is → ¬ ok v)
theorem LsS_no {ok : Int → Prop} {is : Int} (h : ∀ v : Int, -99 ≤ v → v ≤ 99 → v ≠ is → ¬ ok v) : LsS ok is (-2147483648) := Or.inl ⟨rfl, h⟩
theorem LsS_yes {ok : Int → Prop} {is r : Int} (h0 : -99 ≤ r ∧ r ≤ 99 ∧ r ≠ is) (h1 : ok r) (h2 : ∀ v : Int, -99 ≤ v → v < r → v ≠ is → ¬ ok v) : LsS ok is r := Or.inr ⟨h0, h1, h2⟩
theorem LsS_eq {ok ok2 : Int → Prop} {is r r2 : Int} (h : LsS ok is r) (h2 : LsS ok2 is r2) (he : ∀ v, ok v ↔ ok2 v) : r = r2 := by
  rcases h with ⟨a, b⟩ | ⟨⟨a0, a1, a2⟩, b, c⟩
  · rcases h2 with ⟨a', -⟩ | ⟨⟨a0', a1', a2'⟩, b', -⟩
    · exact a.trans a'.symm
    · exact absurd ((he _).mpr b') (b _ a0' a1' a2')
  · rcases h2 with ⟨-, b'⟩ | ⟨⟨a0', a1', a2'⟩, b', c'⟩
    · exact absurd ((he _).mp b) (b' _ a0 a1 a2)
    · apply Classical.byContradiction
      intro g
      rcases Int.lt_or_gt_of_ne g with g | g
      · exact c' r a0 g a2 ((he _).mp b)
      · exact c r2 a0' g a2' ((he _).mpr b')
/-- how many of a row's first n are 0 -/
def czR (f : Nat → Int32) : Nat → Nat
  | 0 => 0
  | n + 1 => czR f n + if (f n).toInt = 0 then 1 else 0
theorem czR_le (f : Nat → Int32) : ∀ n : Nat, czR f n ≤ n
  | 0 => Nat.le_refl _
  | n + 1 => by
    have := czR_le f n
    show czR f n + (if (f n).toInt = 0 then 1 else 0) ≤ n + 1
    split <;> omega
theorem czR_set {f g : Nat → Int32} {i : Nat} (hi : (f i).toInt = 0) (hg : (g i).toInt ≠ 0) (ho : ∀ j, j ≠ i → g j = f j) : ∀ n : Nat, czR g n + (if i < n then 1 else 0) = czR f n
  | 0 => rfl
  | n + 1 => by
    have ih := czR_set hi hg ho n
    show czR g n + (if (g n).toInt = 0 then 1 else 0) + (if i < n + 1 then 1 else 0) = czR f n + (if (f n).toInt = 0 then 1 else 0)
    by_cases e : n = i
    · subst e
      rw [if_neg hg, if_pos (Nat.lt_succ_self _), if_pos hi]
      rw [if_neg (Nat.lt_irrefl _)] at ih
      omega
    · rw [ho n e]
      by_cases q : i < n
      · rw [if_pos q] at ih; rw [if_pos (show i < n + 1 by omega)]; omega
      · rw [if_neg q] at ih; rw [if_neg (show ¬ i < n + 1 by omega)]; omega
theorem czX (f : Nat → Int32) : ∃ n : Nat, n = czR f 90 := ⟨_, rfl⟩
noncomputable def czf (f : Nat → Int32) : Nat := Classical.choose (czX f)
theorem czf_eq (f : Nat → Int32) : czf f = czR f 90 := Classical.choose_spec (czX f)
noncomputable def czI (f : Nat → Int32) : Int := ((czf f : Nat) : Int)
theorem czI_b (f : Nat → Int32) : 0 ≤ czI f ∧ czI f ≤ 90 := by
  have := czR_le f 90
  unfold czI
  rw [czf_eq]
  omega
theorem czI_set {f g : Nat → Int32} {i : Nat} (h : i < 90) (hi : (f i).toInt = 0) (hg : (g i).toInt ≠ 0) (ho : ∀ j, j ≠ i → g j = f j) : czI g + 1 = czI f := by
  have := czR_set hi hg ho 90
  rw [if_pos h] at this
  unfold czI
  rw [czf_eq, czf_eq]
  omega
theorem rset_same (r : Int → Int) (i : Int) : rset r i (r i) = r := by
  funext z
  unfold rset
  by_cases e : z = i
  · rw [if_pos e, e]
  · rw [if_neg e]
theorem mw_at {f : Nat → Int32} {b t k c : Int} (h0 : 0 ≤ t ∧ t < 3 ∧ 0 ≤ k ∧ k < 30 ∧ 0 ≤ c ∧ c < 3) (h1 : aI f (b + 4 * (30 * t + k)) = 1) : mw f b (90 * t + 30 * c + k) = aI f (b + 4 * (30 * t + k) + 1 + c) := by
  have a1 : (90 * t + 30 * c + k) / 90 = t := by omega
  have a2 : (90 * t + 30 * c + k) % 30 = k := by omega
  have a3 : (90 * t + 30 * c + k) / 30 % 3 = c := by omega
  rw [mw_z, if_pos (by omega), a1, a2, a3, if_pos h1]
