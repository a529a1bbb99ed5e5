/-! ===== the reference ===== -/
theorem xl_i2l {x : Int32} {X : Int} (h : x.toInt = X) : x.toInt64.toInt = X := by rw [Int32.toInt_toInt64]; exact h
theorem xl_sub {x y z : Int64} {X Y : Int} (hx : x.toInt = X) (hy : y.toInt = Y) (h1 : -2147483648 ≤ X ∧ X < 2147483648) (h2 : -2147483648 ≤ Y ∧ Y < 2147483648) (hz : z = x - y) : z.toInt = X - Y := by
  subst hz
  rw [Int64.toInt_sub, hx, hy]
  exact Int.bmod_eq_of_le (by omega) (by omega)
theorem xbz {r : Int32} (h : r = 0 ∨ r = 1) : r.toInt = 0 ∨ r.toInt = 1 := by rcases h with h | h <;> subst h <;> decide
def aI (f : Nat → Int32) (z : Int) : Int := (f z.toNat).toInt
theorem aI_upd {f : Nat → Int32} {i x : Int32} (hi : 0 ≤ i.toInt) : ∀ z : Int, 0 ≤ z → aI (upd f i.toNatClampNeg x) z = if z = i.toInt then x.toInt else aI f z := by
  intro z hz
  have h : i.toNatClampNeg = i.toInt.toNat := rfl
  unfold aI upd
  rw [h]
  by_cases e : z = i.toInt
  · rw [if_pos e, if_pos (by rw [e])]
  · rw [if_neg e, if_neg (by omega)]
theorem put_at {f f' : Nat → Int32} {i y : Int} (hu : ∀ z : Int, 0 ≤ z → aI f' z = if z = i then y else aI f z) (z : Int) (hz : 0 ≤ z) : (z = i → aI f' z = y) ∧ (z ≠ i → aI f' z = aI f z) := by
  rw [hu z hz]
  exact ⟨fun h => if_pos h, fun h => if_neg h⟩
/-- a rule's row -/
def RVr (f : Nat → Int32) (r : Int) : Prop := (-1 ≤ aI f (10 * r + (0 : Int)) ∧ aI f (10 * r + (0 : Int)) ≤ 5) ∧ (0 ≤ aI f (10 * r + (1 : Int)) ∧ aI f (10 * r + (1 : Int)) ≤ 2) ∧ (0 ≤ aI f (10 * r + (2 : Int)) ∧ aI f (10 * r + (2 : Int)) ≤ 2) ∧ (-1 ≤ aI f (10 * r + (3 : Int)) ∧ aI f (10 * r + (3 : Int)) ≤ 2) ∧ (aI f (10 * r + (0 : Int)) = 1 ∨ aI f (10 * r + (0 : Int)) = 3 ∨ aI f (10 * r + (0 : Int)) = 4 → 0 ≤ aI f (10 * r + (3 : Int)))
def RV (f : Nat → Int32) : Prop := ∀ r : Int, 0 ≤ r → r ≤ 11 → RVr f r
theorem RV.row {f : Nat → Int32} (h : RV f) {r : Int} (h0 : 0 ≤ r ∧ r ≤ 11) : RVr f r := h r h0.1 h0.2
theorem aF_ex : ∃ g : (Nat → Int32) → Int → Int, ∀ f r, g f r = if aI f (10 * r + (0 : Int)) = 2 ∨ aI f (10 * r + (0 : Int)) = 4 ∨ aI f (10 * r + (0 : Int)) = 5 then (0 : Int) else -99 := ⟨fun f r => if aI f (10 * r + (0 : Int)) = 2 ∨ aI f (10 * r + (0 : Int)) = 4 ∨ aI f (10 * r + (0 : Int)) = 5 then (0 : Int) else -99, fun _ _ => rfl⟩
noncomputable def aF (f : Nat → Int32) (r : Int) : Int := Classical.choose aF_ex f r
theorem aF_eq (f : Nat → Int32) (r : Int) : aF f r = if aI f (10 * r + (0 : Int)) = 2 ∨ aI f (10 * r + (0 : Int)) = 4 ∨ aI f (10 * r + (0 : Int)) = 5 then (0 : Int) else -99 := Classical.choose_spec aF_ex f r
theorem aL_ex : ∃ g : (Nat → Int32) → Int → Int, ∀ f r, g f r = if aI f (10 * r + (0 : Int)) = 2 ∨ aI f (10 * r + (0 : Int)) = 4 ∨ aI f (10 * r + (0 : Int)) = 5 then (29 : Int) else 99 := ⟨fun f r => if aI f (10 * r + (0 : Int)) = 2 ∨ aI f (10 * r + (0 : Int)) = 4 ∨ aI f (10 * r + (0 : Int)) = 5 then (29 : Int) else 99, fun _ _ => rfl⟩
noncomputable def aL (f : Nat → Int32) (r : Int) : Int := Classical.choose aL_ex f r
theorem aL_eq (f : Nat → Int32) (r : Int) : aL f r = if aI f (10 * r + (0 : Int)) = 2 ∨ aI f (10 * r + (0 : Int)) = 4 ∨ aI f (10 * r + (0 : Int)) = 5 then (29 : Int) else 99 := Classical.choose_spec aL_ex f r
theorem aFL {f : Nat → Int32} {r : Int} : ((aI f (10 * r + (0 : Int)) = 2 ∨ aI f (10 * r + (0 : Int)) = 4 ∨ aI f (10 * r + (0 : Int)) = 5) ∧ aF f r = 0 ∧ aL f r = 29) ∨ (aI f (10 * r + (0 : Int)) ≠ 2 ∧ aI f (10 * r + (0 : Int)) ≠ 4 ∧ aI f (10 * r + (0 : Int)) ≠ 5 ∧ aF f r = -99 ∧ aL f r = 99) := by
  rw [aF_eq, aL_eq]
  split
  next h => exact Or.inl ⟨h, rfl, rfl⟩
  next h => exact Or.inr ⟨fun q => h (Or.inl q), fun q => h (Or.inr (Or.inl q)), fun q => h (Or.inr (Or.inr q)), rfl, rfl⟩
theorem aFb {f : Nat → Int32} {r : Int} : -99 ≤ aF f r ∧ aF f r ≤ 0 ∧ 29 ≤ aL f r ∧ aL f r ≤ 99 ∧ aL f r - aF f r ≤ 198 := by
  have h := @aFL f r
  omega
/-- all rows but one -/
def RVx (f : Nat → Int32) (x : Int) : Prop := ∀ r : Int, 0 ≤ r → r ≤ 11 → r ≠ x → RVr f r
theorem RVx.put {f f' : Nat → Int32} {i x y : Int} (h : RVx f x) (hx : 0 ≤ x ∧ x ≤ 11) (hi : 10 * x ≤ i ∧ i ≤ 10 * x + 9) (hu : ∀ z : Int, 0 ≤ z → aI f' z = if z = i then y else aI f z) : RVx f' x := by
  intro r h0 h1 h2
  have h3 := h r h0 h1 h2
  unfold RVr at h3 ⊢
  rw [hu (10 * r + 0) (by omega), hu (10 * r + 1) (by omega), hu (10 * r + 2) (by omega), hu (10 * r + 3) (by omega), if_neg (by omega), if_neg (by omega), if_neg (by omega), if_neg (by omega)]
  exact h3
theorem RV.x {f : Nat → Int32} (h : RV f) (x : Int) : RVx f x := fun r h0 h1 _ => h r h0 h1
theorem RVx.all {f : Nat → Int32} {x : Int} (h : RVx f x) (hr : RVr f x) : RV f := fun r h0 h1 => by
  by_cases e : r = x
  · subst e; exact hr
  · exact h r h0 h1 e
/-- how far all is well -/
def vpn (P : Nat → Bool) : Nat → Nat
  | 0 => 0
  | n + 1 => if vpn P n = n ∧ P n = true then n + 1 else vpn P n
theorem vpn_le (P : Nat → Bool) (n : Nat) : vpn P n ≤ n := by
  induction n with
  | zero => exact Nat.le_refl _
  | succ n ih => unfold vpn; split <;> omega
theorem vpn_get (P : Nat → Bool) (n : Nat) : ∀ i, i < vpn P n → P i = true := by
  induction n with
  | zero => intro i h; cases h
  | succ n ih =>
    intro i h
    unfold vpn at h
    split at h
    next hc =>
      by_cases e : i = n
      · subst e; exact hc.2
      · exact ih i (by omega)
    next hc => exact ih i h
theorem vpn_max (P : Nat → Bool) (n m : Nat) (hm : m ≤ n) (h : ∀ i, i < m → P i = true) : m ≤ vpn P n := by
  induction n with
  | zero => omega
  | succ n ih =>
    unfold vpn
    by_cases e : m = n + 1
    · subst e
      have h1 : vpn P n = n := by
        have := vpn_le P n
        by_cases q : vpn P n = n
        · exact q
        · exfalso
          have h2 : ∀ k, k ≤ n → k ≤ vpn P k := by
            intro k
            induction k with
            | zero => intro _; omega
            | succ k ihk =>
              intro hk
              have h3 := ihk (by omega)
              have h4 := vpn_le P k
              unfold vpn
              rw [if_pos ⟨by omega, h k (by omega)⟩]
              omega
          have := h2 n (by omega)
          omega
      rw [if_pos ⟨h1, h n (by omega)⟩]
      omega
    · have := ih (by omega)
      split <;> omega
def okr (f1 : Nat → Int32) (r : Int) : Bool := decide (0 ≤ r ∧ r ≤ 11 ∧ 0 ≤ aI f1 (10 * r + (0 : Int)))
theorem oV_ex : ∃ g : (Nat → Int32) → (Nat → Int32) → Nat, ∀ f1 f2, g f1 f2 = vpn (fun i => okr f1 (f2 i).toInt) 12 := ⟨fun f1 f2 => vpn (fun i => okr f1 (f2 i).toInt) 12, fun _ _ => rfl⟩
noncomputable def oV (f1 f2 : Nat → Int32) : Nat := Classical.choose oV_ex f1 f2
theorem oV_eq (f1 f2 : Nat → Int32) : oV f1 f2 = vpn (fun i => okr f1 (f2 i).toInt) 12 := Classical.choose_spec oV_ex f1 f2
theorem oV_get {f1 f2 : Nat → Int32} {i X : Int} (hX : X = aI f2 i) (h : 0 ≤ i ∧ i < ((oV f1 f2 : Nat) : Int)) : 0 ≤ X ∧ X ≤ 11 ∧ 0 ≤ aI f1 (10 * X + (0 : Int)) := by
  have h2 := vpn_get (fun i => okr f1 (f2 i).toInt) 12 i.toNat (by rw [← oV_eq]; omega)
  have h3 := of_decide_eq_true h2
  rw [hX]
  exact h3
theorem oV_le {f1 f2 : Nat → Int32} : ((oV f1 f2 : Nat) : Int) ≤ 12 := by
  have h : oV f1 f2 ≤ 12 := by rw [oV_eq]; exact vpn_le _ _
  omega
theorem oV_put {f1 f2 f2' : Nat → Int32} {i X : Int} (hu : ∀ z : Int, 0 ≤ z → aI f2' z = if z = i then X else aI f2 z) (hX : 0 ≤ X ∧ X ≤ 11 ∧ 0 ≤ aI f1 (10 * X + (0 : Int))) (h0 : 0 ≤ i ∧ i ≤ 11 ∧ i ≤ ((oV f1 f2 : Nat) : Int)) : i + 1 ≤ ((oV f1 f2' : Nat) : Int) ∧ ((oV f1 f2 : Nat) : Int) ≤ ((oV f1 f2' : Nat) : Int) := by
  have key : ∀ j : Nat, (j : Int) = i ∨ j < oV f1 f2 → okr f1 (f2' j).toInt = true := by
    intro j hj
    have h1 : (f2' j).toInt = aI f2' (j : Int) := rfl
    rw [h1, hu j (by omega)]
    split
    · exact decide_eq_true hX
    · rcases hj with hj | hj
      · exact absurd hj (by assumption)
      · exact vpn_get (fun i => okr f1 (f2 i).toInt) 12 j (by rw [← oV_eq]; exact hj)
  have a0 : oV f1 f2 ≤ 12 := by rw [oV_eq]; exact vpn_le _ _
  have a1 : i.toNat + 1 ≤ oV f1 f2' := by rw [oV_eq]; exact vpn_max _ _ _ (by omega) (fun j hj => key j (by omega))
  have a2 : oV f1 f2 ≤ oV f1 f2' := by rw [oV_eq f1 f2']; exact vpn_max _ _ _ a0 (fun j hj => key j (by omega))
  omega
noncomputable def okq (f1 : Nat → Int32) (r s : Int) : Bool := decide (0 ≤ r ∧ r ≤ 11 ∧ 0 ≤ aI f1 (10 * r + (0 : Int)) ∧ aF f1 r ≤ s ∧ s ≤ aL f1 r)
theorem fV_ex : ∃ g : (Nat → Int32) → (Nat → Int32) → (Nat → Int32) → Nat, ∀ f1 f3 f4, g f1 f3 f4 = vpn (fun i => okq f1 (f3 i).toInt (f4 i).toInt) 2400 := ⟨fun f1 f3 f4 => vpn (fun i => okq f1 (f3 i).toInt (f4 i).toInt) 2400, fun _ _ _ => rfl⟩
noncomputable def fV (f1 f3 f4 : Nat → Int32) : Nat := Classical.choose fV_ex f1 f3 f4
theorem fV_eq (f1 f3 f4 : Nat → Int32) : fV f1 f3 f4 = vpn (fun i => okq f1 (f3 i).toInt (f4 i).toInt) 2400 := Classical.choose_spec fV_ex f1 f3 f4
theorem fV_rule {f1 f3 f4 : Nat → Int32} {i X : Int} (hX : X = aI f3 i) (h : 0 ≤ i ∧ i < ((fV f1 f3 f4 : Nat) : Int)) : 0 ≤ X ∧ X ≤ 11 ∧ 0 ≤ aI f1 (10 * X + (0 : Int)) := by
  have h2 := vpn_get (fun i => okq f1 (f3 i).toInt (f4 i).toInt) 2400 i.toNat (by rw [← fV_eq]; omega)
  have h3 := of_decide_eq_true h2
  rw [hX]
  exact ⟨h3.1, h3.2.1, h3.2.2.1⟩
theorem fV_sub {f1 f3 f4 : Nat → Int32} {i X Y : Int} (hX : X = aI f3 i) (hY : Y = aI f4 i) (h : 0 ≤ i ∧ i < ((fV f1 f3 f4 : Nat) : Int)) : -99 ≤ Y ∧ Y ≤ 99 ∧ aF f1 X ≤ Y ∧ Y ≤ aL f1 X := by
  have h2 := vpn_get (fun i => okq f1 (f3 i).toInt (f4 i).toInt) 2400 i.toNat (by rw [← fV_eq]; omega)
  have h3 := of_decide_eq_true h2
  rw [hX, hY]
  have h4 := @aFb f1 (aI f3 i)
  have h5 : aF f1 (aI f3 i) ≤ aI f4 i := h3.2.2.2.1
  have h6 : aI f4 i ≤ aL f1 (aI f3 i) := h3.2.2.2.2
  omega
theorem fV_push {f1 f3 f3' f4 f4' : Nat → Int32} {i X Y : Int} (hu3 : ∀ z : Int, 0 ≤ z → aI f3' z = if z = i then X else aI f3 z) (hu4 : ∀ z : Int, 0 ≤ z → aI f4' z = if z = i then Y else aI f4 z) (hX : 0 ≤ X ∧ X ≤ 11 ∧ 0 ≤ aI f1 (10 * X + (0 : Int)) ∧ aF f1 X ≤ Y ∧ Y ≤ aL f1 X) (h0 : 0 ≤ i ∧ i ≤ 2399 ∧ i ≤ ((fV f1 f3 f4 : Nat) : Int)) : i + 1 ≤ ((fV f1 f3' f4' : Nat) : Int) := by
  have key : ∀ j : Nat, (j : Int) = i ∨ j < fV f1 f3 f4 → okq f1 (f3' j).toInt (f4' j).toInt = true := by
    intro j hj
    have h1 : (f3' j).toInt = aI f3' (j : Int) := rfl
    have h2 : (f4' j).toInt = aI f4' (j : Int) := rfl
    rw [h1, h2, hu3 j (by omega), hu4 j (by omega)]
    by_cases e : (j : Int) = i
    · rw [if_pos e, if_pos e]
      exact decide_eq_true hX
    · rw [if_neg e, if_neg e]
      rcases hj with hj | hj
      · exact absurd hj e
      · exact vpn_get (fun i => okq f1 (f3 i).toInt (f4 i).toInt) 2400 j (by rw [← fV_eq]; exact hj)
  have a1 : i.toNat + 1 ≤ fV f1 f3' f4' := by rw [fV_eq]; exact vpn_max _ _ _ (by omega) (fun j hj => key j (by omega))
  omega
/-- how many -/
def cn (P : Nat → Bool) : Nat → Nat
  | 0 => 0
  | n + 1 => cn P n + (if P n = true then 1 else 0)
theorem cn_le (P : Nat → Bool) (n : Nat) : cn P n ≤ n := by
  induction n with
  | zero => exact Nat.le_refl _
  | succ n ih => unfold cn; split <;> omega
theorem cn_same (P P' : Nat → Bool) (n k : Nat) (hk : n ≤ k) (h : ∀ i, i ≠ k → P' i = P i) : cn P' n = cn P n := by
  induction n with
  | zero => rfl
  | succ n ih =>
    unfold cn
    rw [ih (by omega), h n (by omega)]
theorem cn_less (P P' : Nat → Bool) (n k : Nat) (hk : k < n) (h : ∀ i, i ≠ k → P' i = P i) (h1 : P k = true) (h2 : P' k = false) : cn P' n + 1 = cn P n := by
  induction n with
  | zero => omega
  | succ n ih =>
    unfold cn
    by_cases e : k = n
    · subst e
      rw [cn_same P P' k k (Nat.le_refl _) h, h1, h2]
      simp
    · rw [h n (by omega)]
      have := ih (by omega)
      omega
theorem cn_mono (P P' : Nat → Bool) (n : Nat) (h : ∀ i, P' i = true → P i = true) : cn P' n ≤ cn P n := by
  induction n with
  | zero => exact Nat.le_refl _
  | succ n ih =>
    unfold cn
    have := h n
    split
    next q => rw [if_pos (this q)]; omega
    next q => split <;> omega
/-- rows of which an array may hold a copy: rows, begun, ahead (from 0 on), marked (from fr on) -/
def XO (K : Nat → Nat) (a : Nat) (fr : Int) : Prop := ((K a = 30 ∨ K a = 31) ∧ fr = 0) ∨ (K a = 32 ∧ 0 ≤ fr ∧ fr ≤ 2520)
theorem XO.a {K : Nat → Nat} {a : Nat} {x : Int32} (h : K a = 30) (hx : x.toInt = 0) : XO K a x.toInt := Or.inl ⟨Or.inl h, hx⟩
theorem XO.b {K : Nat → Nat} {a : Nat} {x : Int32} (h : K a = 31) (hx : x.toInt = 0) : XO K a x.toInt := Or.inl ⟨Or.inr h, hx⟩
theorem XO.c {K : Nat → Nat} {a : Nat} {x : Int32} (h : K a = 32) (hx : 0 ≤ x.toInt ∧ x.toInt ≤ 2520) : XO K a x.toInt := Or.inr ⟨h, hx⟩
theorem XO.lim {K : Nat → Nat} {a : Nat} {fr : Int} (h : XO K a fr) : 0 ≤ fr ∧ fr ≤ 2520 := by
  rcases h with ⟨-, h⟩ | ⟨-, h⟩
  · omega
  · exact h
def XOu (K : Nat → Nat) (a : Nat) (fr : Int) : Prop := (K a = 31 ∧ fr = 0) ∨ (K a = 32 ∧ 0 ≤ fr ∧ fr ≤ 2520)
theorem XOu.b {K : Nat → Nat} {a : Nat} {x : Int32} (h : K a = 31) (hx : x.toInt = 0) : XOu K a x.toInt := Or.inl ⟨h, hx⟩
theorem XOu.c {K : Nat → Nat} {a : Nat} {x : Int32} (h : K a = 32) (hx : 0 ≤ x.toInt ∧ x.toInt ≤ 2520) : XOu K a x.toInt := Or.inr ⟨h, hx⟩
theorem XOu.lim {K : Nat → Nat} {a : Nat} {fr : Int} (h : XOu K a fr) : 0 ≤ fr ∧ fr ≤ 2520 := by
  rcases h with ⟨-, h⟩ | ⟨-, h⟩
  · omega
  · exact h
/-- a word of n signs -/
def XWd (K : Nat → Nat) (a n : Nat) : Prop := (n = 3 ∧ K a = 46) ∨ (n = 4 ∧ K a = 47) ∨ (n = 5 ∧ K a = 48) ∨ (n = 6 ∧ K a = 49) ∨ (n = 7 ∧ K a = 50)
theorem XWd.lim {K : Nat → Nat} {a n : Nat} (h : XWd K a n) : 3 ≤ ((n : Nat) : Int) ∧ ((n : Nat) : Int) ≤ 7 := by
  rcases h with ⟨h, -⟩ | ⟨h, -⟩ | ⟨h, -⟩ | ⟨h, -⟩ | ⟨h, -⟩ <;> subst h <;> exact ⟨by decide, by decide⟩
theorem XWd.k46 {K : Nat → Nat} {a : Nat} (h : K a = 46) : XWd K a 3 := Or.inl ⟨rfl, h⟩
theorem XWd.k47 {K : Nat → Nat} {a : Nat} (h : K a = 47) : XWd K a 4 := Or.inr (Or.inl ⟨rfl, h⟩)
theorem XWd.k48 {K : Nat → Nat} {a : Nat} (h : K a = 48) : XWd K a 5 := Or.inr (Or.inr (Or.inl ⟨rfl, h⟩))
theorem XWd.k49 {K : Nat → Nat} {a : Nat} (h : K a = 49) : XWd K a 6 := Or.inr (Or.inr (Or.inr (Or.inl ⟨rfl, h⟩)))
theorem XWd.k50 {K : Nat → Nat} {a : Nat} (h : K a = 50) : XWd K a 7 := Or.inr (Or.inr (Or.inr (Or.inr ⟨rfl, h⟩)))
theorem XGs_a {E : XE} {K : Nat → Nat} {F : Nat → Nat → Nat} {G : XG} {j k0 : Nat} {f' : Nat → Int32} (h : ∀ k, xtrk k = some j → k = k0) : XGs E K F G (G.1, G.2.1, G.2.2.set j f') k0 := by
  intro a k e hk hs
  have key : ∀ f : Nat → Int32, (∀ j', xtrk k = some j' → G.2.2[j']? = some f) → ∀ j', xtrk k = some j' → (G.2.2.set j f')[j']? = some f := by
    intro f hf j' hj
    rw [List.getElem?_set_ne (fun q => hk (h k (by rw [hj, q])))]
    exact hf j' hj
  unfold SHP at hs ⊢
  split at hs
  all_goals first
    | exact hs
    | (obtain ⟨tc, n, f, h1, h2, h3, h4⟩ := hs
       first | exact ⟨tc, n, f, h1, h2, h3, key f h4⟩ | (split <;> first | exact ⟨tc, n, f, h1, h2, h3, key f h4⟩ | (exfalso; simp_all; done)))
theorem xti_30 : ∀ k, xtrk k = some 0 → k = 30 := by
  intro k h
  unfold xtrk at h
  repeat' split at h
  all_goals first | assumption | (exfalso; simp at h; done)
theorem xti_37 : ∀ k, xtrk k = some 1 → k = 37 := by
  intro k h
  unfold xtrk at h
  repeat' split at h
  all_goals first | assumption | (exfalso; simp at h; done)
theorem xti_42 : ∀ k, xtrk k = some 2 → k = 42 := by
  intro k h
  unfold xtrk at h
  repeat' split at h
  all_goals first | assumption | (exfalso; simp at h; done)
theorem xti_43 : ∀ k, xtrk k = some 3 → k = 43 := by
  intro k h
  unfold xtrk at h
  repeat' split at h
  all_goals first | assumption | (exfalso; simp at h; done)
theorem xti_44 : ∀ k, xtrk k = some 4 → k = 44 := by
  intro k h
  unfold xtrk at h
  repeat' split at h
  all_goals first | assumption | (exfalso; simp at h; done)
theorem xti_52 : ∀ k, xtrk k = some 5 → k = 52 := by
  intro k h
  unfold xtrk at h
  repeat' split at h
  all_goals first | assumption | (exfalso; simp at h; done)
theorem xti_55 : ∀ k, xtrk k = some 6 → k = 55 := by
  intro k h
  unfold xtrk at h
  repeat' split at h
  all_goals first | assumption | (exfalso; simp at h; done)
theorem xti_56 : ∀ k, xtrk k = some 7 → k = 56 := by
  intro k h
  unfold xtrk at h
  repeat' split at h
  all_goals first | assumption | (exfalso; simp at h; done)
theorem xti_57 : ∀ k, xtrk k = some 8 → k = 57 := by
  intro k h
  unfold xtrk at h
  repeat' split at h
  all_goals first | assumption | (exfalso; simp at h; done)
theorem xti_58 : ∀ k, xtrk k = some 9 → k = 58 := by
  intro k h
  unfold xtrk at h
  repeat' split at h
  all_goals first | assumption | (exfalso; simp at h; done)
theorem xti_59 : ∀ k, xtrk k = some 10 → k = 59 := by
  intro k h
  unfold xtrk at h
  repeat' split at h
  all_goals first | assumption | (exfalso; simp at h; done)
section XM
variable {p : Program} {l : Launch} {e : Env} {R : Room} {s : State} {m : MethodId} {args : Array Value} {below : List Frame} {meth : Method} {c : Code} {H : Heap} {locs : List Loc} {cells slots : Nat} {Q : State → Prop}
variable {pc : Nat} {ls : Array Slot} {rest : List Value} {H0 : Heap} {E : XE} {cc : ByteArray} {nL : Nat} {own : String} {w0 : Cond} {K : Nat → Nat} {F : Nat → Nat → Nat} {G : XG} {kn : XN} {a : Nat} {X Y : Int}
theorem xi_lcmp (hx : p.tables.exec = Jvm.exec) (hb : c.code = cc) {x y : Int64} (hX : x.toInt = X) (hY : y.toInt = Y) (hdg : decode cc pc = .ok (.lcmp, 1)) (kk : ∀ z : Int32, ((X < Y ∧ z.toInt = -1) ∨ (X = Y ∧ z.toInt = 0) ∨ (Y < X ∧ z.toInt = 1)) → W p l e R s m args below meth c H locs cells slots Q (F0 m (pc + 1) ls (.int z :: rest))) : W p l e R s m args below meth c H locs cells slots Q (F0 m pc ls (.long y :: .long x :: rest)) := by
  refine W.lcmp hx hb hdg (kk _ ?_)
  subst hX hY
  by_cases h1 : x > y
  · have e1 : lg_cmp x y = 1 := by simp [lg_cmp, h1]
    rw [e1]
    exact Or.inr (Or.inr ⟨Int64.lt_iff_toInt_lt.mp h1, by decide⟩)
  · by_cases h2 : x = y
    · have e1 : lg_cmp x y = 0 := by simp [lg_cmp, h2]
      rw [e1]
      exact Or.inr (Or.inl ⟨by rw [h2], by decide⟩)
    · have e1 : lg_cmp x y = -1 := by simp [lg_cmp, h1, h2]
      rw [e1]
      refine Or.inl ⟨?_, by decide⟩
      have h3 : ¬ y.toInt < x.toInt := fun q => h1 (Int64.lt_iff_toInt_lt.mpr q)
      have h4 : x.toInt ≠ y.toInt := fun q => h2 (Int64.toInt_inj.mp q)
      omega
theorem ald_of (S : CallFix p m c cc nL s args (w0 :: GT) own) (hK : XK E s) (hT : TW E K F G kn H) {fr : Int} (ha : XO K a fr) {i : Int32} (hin : 0 ≤ i.toInt ∧ i.toInt < fr + 360) (hdg : decode cc pc = .ok (.iaload, 1)) (kk : ∀ v : Int32, W p l e R s m args below meth c H locs cells slots Q (F0 m (pc + 1) ls (.int v :: rest))) : W p l e R s m args below meth c H locs cells slots Q (F0 m pc ls (.int i :: .ref a :: rest)) := by
  rcases ha with ⟨h | h, rfl⟩ | ⟨h, h0, h1⟩
  · exact al_0 S hK hT h ar_30 (by decide) (by omega) hdg (fun v _ => kk v)
  · exact al_0 S hK hT h ar_31 (by decide) (by omega) hdg (fun v _ => kk v)
  · exact al_0 S hK hT h ar_32 (by decide) (by omega) hdg (fun v _ => kk v)
theorem ast_of (S : CallFix p m c cc nL s args (w0 :: GT) own) (hK : XK E s) (hT : TW E K F G kn H) (hS : va_S (xA E) H0 H locs) {fr : Int} (ha : XOu K a fr) {i x : Int32} (hin : 0 ≤ i.toInt ∧ i.toInt < fr + 360) (hdg : decode cc pc = .ok (.iastore, 1)) (kk : ∀ (H1 : Heap) (locs1 : List Loc), TW E K F G kn H1 → va_S (xA E) H0 H1 locs1 → W p l e R s m args below meth c H1 locs1 cells slots Q (F0 m (pc + 1) ls rest)) : W p l e R s m args below meth c H locs cells slots Q (F0 m pc ls (.int x :: .int i :: .ref a :: rest)) := by
  rcases ha with ⟨h, rfl⟩ | ⟨h, h0, h1⟩
  · exact as_0 S hK hT hS h ar_31 aw_31 (by decide) (by omega) hdg kk
  · exact as_0 S hK hT hS h ar_32 aw_32 (by decide) (by omega) hdg kk
theorem ald_wd (S : CallFix p m c cc nL s args (w0 :: GT) own) (hK : XK E s) (hT : TW E K F G kn H) {n : Nat} (ha : XWd K a n) {i : Int32} (hin : 0 ≤ i.toInt ∧ i.toInt < ((n : Nat) : Int)) (hdg : decode cc pc = .ok (.caload, 1)) (kk : ∀ v : Int32, W p l e R s m args below meth c H locs cells slots Q (F0 m (pc + 1) ls (.int v :: rest))) : W p l e R s m args below meth c H locs cells slots Q (F0 m pc ls (.int i :: .ref a :: rest)) := by
  rcases ha with ⟨rfl, h⟩ | ⟨rfl, h⟩ | ⟨rfl, h⟩ | ⟨rfl, h⟩ | ⟨rfl, h⟩
  · exact al_1 S hK hT h ar_46 (by decide) hin hdg (fun v _ => kk v)
  · exact al_1 S hK hT h ar_47 (by decide) hin hdg (fun v _ => kk v)
  · exact al_1 S hK hT h ar_48 (by decide) hin hdg (fun v _ => kk v)
  · exact al_1 S hK hT h ar_49 (by decide) hin hdg (fun v _ => kk v)
  · exact al_1 S hK hT h ar_50 (by decide) hin hdg (fun v _ => kk v)
theorem len_wd (S : CallFix p m c cc nL s args (w0 :: GT) own) (hK : XK E s) (hT : TW E K F G kn H) {n : Nat} (ha : XWd K a n) (hdg : decode cc pc = .ok (.arraylength, 1)) (kk : ∀ v : Int32, v.toInt = ((n : Nat) : Int) → W p l e R s m args below meth c H locs cells slots Q (F0 m (pc + 1) ls (.int v :: rest))) : W p l e R s m args below meth c H locs cells slots Q (F0 m pc ls (.ref a :: rest)) := by
  rcases ha with ⟨rfl, h⟩ | ⟨rfl, h⟩ | ⟨rfl, h⟩ | ⟨rfl, h⟩ | ⟨rfl, h⟩
  · exact x_alen S hK hT h ar_46 (by decide) rfl hdg (kk _ (by decide))
  · exact x_alen S hK hT h ar_47 (by decide) rfl hdg (kk _ (by decide))
  · exact x_alen S hK hT h ar_48 (by decide) rfl hdg (kk _ (by decide))
  · exact x_alen S hK hT h ar_49 (by decide) rfl hdg (kk _ (by decide))
  · exact x_alen S hK hT h ar_50 (by decide) rfl hdg (kk _ (by decide))
theorem at_30 {f : Nat → Int32} (hf : G.2.2[0]? = some f) : ∀ e, SHP E K F G a 30 e → e = .inl (E.2.1 0, 360, .inl f) ∧ ∀ i, xok 0 (f i) := by
  rintro e ⟨tc, n, g, h1, h2, h3, h4⟩
  cases h1
  have h5 := h4 0 rfl
  rw [hf] at h5
  cases h5
  exact ⟨h2, h3⟩
theorem bt_30 {f' : Nat → Int32} (hl : 0 < G.2.2.length) (hf : ∀ i, xok 0 (f' i)) : SHP E K F (G.1, G.2.1, G.2.2.set 0 f') a 30 (.inl (E.2.1 0, 360, .inl f')) := ⟨0, 360, f', rfl, rfl, hf, fun q hq => by cases hq; exact List.getElem?_set_self hl⟩
theorem at_37 {f : Nat → Int32} (hf : G.2.2[1]? = some f) : ∀ e, SHP E K F G a 37 e → e = .inl (E.2.1 0, 120, .inl f) ∧ ∀ i, xok 0 (f i) := by
  rintro e ⟨tc, n, g, h1, h2, h3, h4⟩
  cases h1
  have h5 := h4 1 rfl
  rw [hf] at h5
  cases h5
  exact ⟨h2, h3⟩
theorem bt_37 {f' : Nat → Int32} (hl : 1 < G.2.2.length) (hf : ∀ i, xok 0 (f' i)) : SHP E K F (G.1, G.2.1, G.2.2.set 1 f') a 37 (.inl (E.2.1 0, 120, .inl f')) := ⟨0, 120, f', rfl, rfl, hf, fun q hq => by cases hq; exact List.getElem?_set_self hl⟩
theorem at_42 {f : Nat → Int32} (hf : G.2.2[2]? = some f) : ∀ e, SHP E K F G a 42 e → e = .inl (E.2.1 0, 12, .inl f) ∧ ∀ i, xok 0 (f i) := by
  rintro e ⟨tc, n, g, h1, h2, h3, h4⟩
  cases h1
  have h5 := h4 2 rfl
  rw [hf] at h5
  cases h5
  exact ⟨h2, h3⟩
theorem bt_42 {f' : Nat → Int32} (hl : 2 < G.2.2.length) (hf : ∀ i, xok 0 (f' i)) : SHP E K F (G.1, G.2.1, G.2.2.set 2 f') a 42 (.inl (E.2.1 0, 12, .inl f')) := ⟨0, 12, f', rfl, rfl, hf, fun q hq => by cases hq; exact List.getElem?_set_self hl⟩
theorem at_43 {f : Nat → Int32} (hf : G.2.2[3]? = some f) : ∀ e, SHP E K F G a 43 e → e = .inl (E.2.1 0, 2400, .inl f) ∧ ∀ i, xok 0 (f i) := by
  rintro e ⟨tc, n, g, h1, h2, h3, h4⟩
  cases h1
  have h5 := h4 3 rfl
  rw [hf] at h5
  cases h5
  exact ⟨h2, h3⟩
theorem bt_43 {f' : Nat → Int32} (hl : 3 < G.2.2.length) (hf : ∀ i, xok 0 (f' i)) : SHP E K F (G.1, G.2.1, G.2.2.set 3 f') a 43 (.inl (E.2.1 0, 2400, .inl f')) := ⟨0, 2400, f', rfl, rfl, hf, fun q hq => by cases hq; exact List.getElem?_set_self hl⟩
theorem at_44 {f : Nat → Int32} (hf : G.2.2[4]? = some f) : ∀ e, SHP E K F G a 44 e → e = .inl (E.2.1 0, 2400, .inl f) ∧ ∀ i, xok 0 (f i) := by
  rintro e ⟨tc, n, g, h1, h2, h3, h4⟩
  cases h1
  have h5 := h4 4 rfl
  rw [hf] at h5
  cases h5
  exact ⟨h2, h3⟩
theorem bt_44 {f' : Nat → Int32} (hl : 4 < G.2.2.length) (hf : ∀ i, xok 0 (f' i)) : SHP E K F (G.1, G.2.1, G.2.2.set 4 f') a 44 (.inl (E.2.1 0, 2400, .inl f')) := ⟨0, 2400, f', rfl, rfl, hf, fun q hq => by cases hq; exact List.getElem?_set_self hl⟩
theorem at_52 {f : Nat → Int32} (hf : G.2.2[5]? = some f) : ∀ e, SHP E K F G a 52 e → e = .inl (E.2.1 0, 10, .inl f) ∧ ∀ i, xok 0 (f i) := by
  rintro e ⟨tc, n, g, h1, h2, h3, h4⟩
  cases h1
  have h5 := h4 5 rfl
  rw [hf] at h5
  cases h5
  exact ⟨h2, h3⟩
theorem bt_52 {f' : Nat → Int32} (hl : 5 < G.2.2.length) (hf : ∀ i, xok 0 (f' i)) : SHP E K F (G.1, G.2.1, G.2.2.set 5 f') a 52 (.inl (E.2.1 0, 10, .inl f')) := ⟨0, 10, f', rfl, rfl, hf, fun q hq => by cases hq; exact List.getElem?_set_self hl⟩
theorem at_55 {f : Nat → Int32} (hf : G.2.2[6]? = some f) : ∀ e, SHP E K F G a 55 e → e = .inl (E.2.1 0, 90, .inl f) ∧ ∀ i, xok 0 (f i) := by
  rintro e ⟨tc, n, g, h1, h2, h3, h4⟩
  cases h1
  have h5 := h4 6 rfl
  rw [hf] at h5
  cases h5
  exact ⟨h2, h3⟩
theorem bt_55 {f' : Nat → Int32} (hl : 6 < G.2.2.length) (hf : ∀ i, xok 0 (f' i)) : SHP E K F (G.1, G.2.1, G.2.2.set 6 f') a 55 (.inl (E.2.1 0, 90, .inl f')) := ⟨0, 90, f', rfl, rfl, hf, fun q hq => by cases hq; exact List.getElem?_set_self hl⟩
theorem at_56 {f : Nat → Int32} (hf : G.2.2[7]? = some f) : ∀ e, SHP E K F G a 56 e → e = .inl (E.2.1 0, 90, .inl f) ∧ ∀ i, xok 0 (f i) := by
  rintro e ⟨tc, n, g, h1, h2, h3, h4⟩
  cases h1
  have h5 := h4 7 rfl
  rw [hf] at h5
  cases h5
  exact ⟨h2, h3⟩
theorem bt_56 {f' : Nat → Int32} (hl : 7 < G.2.2.length) (hf : ∀ i, xok 0 (f' i)) : SHP E K F (G.1, G.2.1, G.2.2.set 7 f') a 56 (.inl (E.2.1 0, 90, .inl f')) := ⟨0, 90, f', rfl, rfl, hf, fun q hq => by cases hq; exact List.getElem?_set_self hl⟩
theorem at_57 {f : Nat → Int32} (hf : G.2.2[8]? = some f) : ∀ e, SHP E K F G a 57 e → e = .inl (E.2.1 0, 90, .inl f) ∧ ∀ i, xok 0 (f i) := by
  rintro e ⟨tc, n, g, h1, h2, h3, h4⟩
  cases h1
  have h5 := h4 8 rfl
  rw [hf] at h5
  cases h5
  exact ⟨h2, h3⟩
theorem bt_57 {f' : Nat → Int32} (hl : 8 < G.2.2.length) (hf : ∀ i, xok 0 (f' i)) : SHP E K F (G.1, G.2.1, G.2.2.set 8 f') a 57 (.inl (E.2.1 0, 90, .inl f')) := ⟨0, 90, f', rfl, rfl, hf, fun q hq => by cases hq; exact List.getElem?_set_self hl⟩
theorem at_58 {f : Nat → Int32} (hf : G.2.2[9]? = some f) : ∀ e, SHP E K F G a 58 e → e = .inl (E.2.1 0, 90, .inl f) ∧ ∀ i, xok 0 (f i) := by
  rintro e ⟨tc, n, g, h1, h2, h3, h4⟩
  cases h1
  have h5 := h4 9 rfl
  rw [hf] at h5
  cases h5
  exact ⟨h2, h3⟩
theorem bt_58 {f' : Nat → Int32} (hl : 9 < G.2.2.length) (hf : ∀ i, xok 0 (f' i)) : SHP E K F (G.1, G.2.1, G.2.2.set 9 f') a 58 (.inl (E.2.1 0, 90, .inl f')) := ⟨0, 90, f', rfl, rfl, hf, fun q hq => by cases hq; exact List.getElem?_set_self hl⟩
theorem at_59 {f : Nat → Int32} (hf : G.2.2[10]? = some f) : ∀ e, SHP E K F G a 59 e → e = .inl (E.2.1 3, 90, .inl f) ∧ ∀ i, xok 3 (f i) := by
  rintro e ⟨tc, n, g, h1, h2, h3, h4⟩
  cases h1
  have h5 := h4 10 rfl
  rw [hf] at h5
  cases h5
  exact ⟨h2, h3⟩
theorem bt_59 {f' : Nat → Int32} (hl : 10 < G.2.2.length) (hf : ∀ i, xok 3 (f' i)) : SHP E K F (G.1, G.2.1, G.2.2.set 10 f') a 59 (.inl (E.2.1 3, 90, .inl f')) := ⟨3, 90, f', rfl, rfl, hf, fun q hq => by cases hq; exact List.getElem?_set_self hl⟩
theorem tld_0 {k n : Nat} {f : Nat → Int32} (S : CallFix p m c cc nL s args (w0 :: GT) own) (hK : XK E s) (hT : TW E K F G kn H) (ha : K a = k) (hk : ∀ e, SHP E K F G a k e → e = .inl (E.2.1 0, n, .inl f) ∧ ∀ i, xok 0 (f i)) (hk0 : k ≠ 0) {i : Int32} (hin : 0 ≤ i.toInt ∧ i.toInt < n) (hdg : decode cc pc = .ok (.iaload, 1)) (kk : ∀ v : Int32, v.toInt = aI f i.toInt → xok 0 v → W p l e R s m args below meth c H locs cells slots Q (F0 m (pc + 1) ls (.int v :: rest))) : W p l e R s m args below meth c H locs cells slots Q (F0 m pc ls (.int i :: .ref a :: rest)) := by
  obtain ⟨ws, i9, e9, hw, hP, hD, he, hs, hkn⟩ := hT.at ha hk0
  obtain ⟨rfl, ho⟩ := hk _ hs
  exact va_iald S.1 S.2.1 hK.1 hP i9 0 he rfl (vp_in_iff.mpr hin) hdg (kk _ rfl (ho _))
theorem tld_3 {k n : Nat} {f : Nat → Int32} (S : CallFix p m c cc nL s args (w0 :: GT) own) (hK : XK E s) (hT : TW E K F G kn H) (ha : K a = k) (hk : ∀ e, SHP E K F G a k e → e = .inl (E.2.1 3, n, .inl f) ∧ ∀ i, xok 3 (f i)) (hk0 : k ≠ 0) {i : Int32} (hin : 0 ≤ i.toInt ∧ i.toInt < n) (hdg : decode cc pc = .ok (.baload, 1)) (kk : ∀ v : Int32, v.toInt = aI f i.toInt → xok 3 v → W p l e R s m args below meth c H locs cells slots Q (F0 m (pc + 1) ls (.int v :: rest))) : W p l e R s m args below meth c H locs cells slots Q (F0 m pc ls (.int i :: .ref a :: rest)) := by
  obtain ⟨ws, i9, e9, hw, hP, hD, he, hs, hkn⟩ := hT.at ha hk0
  obtain ⟨rfl, ho⟩ := hk _ hs
  exact va_zald S.1 S.2.1 hK.1 hP i9 3 he rfl (vp_in_iff.mpr hin) hdg (kk _ rfl (ho _))
theorem tst_0 {k n j : Nat} {f : Nat → Int32} (S : CallFix p m c cc nL s args (w0 :: GT) own) (hK : XK E s) (hT : TW E K F G kn H) (hS : va_S (xA E) H0 H locs) (ha : K a = k) (hk : ∀ e, SHP E K F G a k e → e = .inl (E.2.1 0, n, .inl f) ∧ ∀ i, xok 0 (f i)) (hk2 : ∀ f' : Nat → Int32, (∀ i, xok 0 (f' i)) → SHP E K F (G.1, G.2.1, G.2.2.set j f') a k (.inl (E.2.1 0, n, .inl f'))) (hk0 : k ≠ 0) (hu : k ∈ xuq) (ht : ∀ k', xtrk k' = some j → k' = k) {i x : Int32} (hin : 0 ≤ i.toInt ∧ i.toInt < n) (hdg : decode cc pc = .ok (.iastore, 1)) (kk : ∀ (f' : Nat → Int32) (H1 : Heap) (locs1 : List Loc), (∀ z : Int, 0 ≤ z → aI f' z = if z = i.toInt then x.toInt else aI f z) → TW E K F (G.1, G.2.1, G.2.2.set j f') kn H1 → va_S (xA E) H0 H1 locs1 → W p l e R s m args below meth c H1 locs1 cells slots Q (F0 m (pc + 1) ls rest)) : W p l e R s m args below meth c H locs cells slots Q (F0 m pc ls (.int x :: .int i :: .ref a :: rest)) := by
  obtain ⟨ws, i9, e9, hw, hP, hD, he, hs, hkn⟩ := hT.at ha hk0
  obtain ⟨rfl, ho⟩ := hk _ hs
  exact va_iast S.1 S.2.1 hK.1 hP hD hS i9 0 he rfl (vp_in_iff.mpr hin) hdg (fun H1 locs1 hP1 hD1 hS1 => kk _ H1 locs1 (aI_upd hin.1) ⟨_, hw.set' he (by rw [ha]; exact hk0) (by rw [ha]; exact hu) (by rw [ha]; exact XGs_a ht) (by rw [ha]; exact hk2 _ (fun _ => trivial)), hP1, hD1, hkn.arr he⟩ hS1)
theorem tst_3 {k n j : Nat} {f : Nat → Int32} (S : CallFix p m c cc nL s args (w0 :: GT) own) (hK : XK E s) (hT : TW E K F G kn H) (hS : va_S (xA E) H0 H locs) (ha : K a = k) (hk : ∀ e, SHP E K F G a k e → e = .inl (E.2.1 3, n, .inl f) ∧ ∀ i, xok 3 (f i)) (hk2 : ∀ f' : Nat → Int32, (∀ i, xok 3 (f' i)) → SHP E K F (G.1, G.2.1, G.2.2.set j f') a k (.inl (E.2.1 3, n, .inl f'))) (hk0 : k ≠ 0) (hu : k ∈ xuq) (ht : ∀ k', xtrk k' = some j → k' = k) {i x : Int32} (hx : x = 0 ∨ x = 1) (hin : 0 ≤ i.toInt ∧ i.toInt < n) (hdg : decode cc pc = .ok (.bastore, 1)) (kk : ∀ (f' : Nat → Int32) (H1 : Heap) (locs1 : List Loc), (∀ z : Int, 0 ≤ z → aI f' z = if z = i.toInt then x.toInt else aI f z) → TW E K F (G.1, G.2.1, G.2.2.set j f') kn H1 → va_S (xA E) H0 H1 locs1 → W p l e R s m args below meth c H1 locs1 cells slots Q (F0 m (pc + 1) ls rest)) : W p l e R s m args below meth c H locs cells slots Q (F0 m pc ls (.int x :: .int i :: .ref a :: rest)) := by
  obtain ⟨ws, i9, e9, hw, hP, hD, he, hs, hkn⟩ := hT.at ha hk0
  obtain ⟨rfl, ho⟩ := hk _ hs
  have hv : vp_nar .boolean x = x := by rcases hx with h | h <;> subst h <;> rfl
  exact va_zast S.1 S.2.1 hK.1 hP hD hS i9 3 he rfl (vp_in_iff.mpr hin) hdg (fun H1 locs1 hP1 hD1 hS1 => by rw [hv] at hP1 hD1; exact kk _ H1 locs1 (aI_upd hin.1) ⟨_, hw.set' he (by rw [ha]; exact hk0) (by rw [ha]; exact hu) (by rw [ha]; exact XGs_a ht) (by rw [ha]; exact hk2 _ (fun q => by unfold upd; split <;> first | exact ho q | (rw [← hv]; exact xok_z x))), hP1, hD1, hkn.arr he⟩ hS1)
end XM
