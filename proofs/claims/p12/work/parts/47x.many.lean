/-! how many rules there are -/
theorem nRl_ex : ∃ g : (Nat → Int32) → Int → Int, ∀ f z, g f z = (((ordN (prM f) (rkM f) z.toNat).1 : Nat) : Int) := ⟨fun f z => (((ordN (prM f) (rkM f) z.toNat).1 : Nat) : Int), fun _ _ => rfl⟩
noncomputable def nRl (f : Nat → Int32) (z : Int) : Int := Classical.choose nRl_ex f z
theorem nRl_eq (f : Nat → Int32) (z : Int) : nRl f z = (((ordN (prM f) (rkM f) z.toNat).1 : Nat) : Int) := Classical.choose_spec nRl_ex f z
theorem nRl_0 (f : Nat → Int32) : nRl f 0 = 0 := by rw [nRl_eq]; rfl
theorem nRl_s {f : Nat → Int32} {z : Int} (h : 0 ≤ z) : (aI f (10 * z + 0) ≠ -1 → nRl f (z + 1) = nRl f z + 1) ∧ (aI f (10 * z + 0) = -1 → nRl f (z + 1) = nRl f z) := by
  have e : (z + 1).toNat = z.toNat + 1 := by omega
  have e2 : ((z.toNat : Nat) : Int) = z := by omega
  rw [nRl_eq, nRl_eq, e]
  refine ⟨fun q => ?_, fun q => ?_⟩
  · rw [ordN_t (show prM f z.toNat = true from by unfold prM; rw [e2]; exact decide_eq_true q)]
    show ((((ordN (prM f) (rkM f) z.toNat).1 + 1 : Nat)) : Int) = _
    omega
  · rw [ordN_f (show prM f z.toNat = false from by unfold prM; rw [e2]; exact decide_eq_false (fun x => x q))]
/-- what the queue has of a rule fails -/
def QFl (f : Nat → Int32) (r : Int → Int) (l : List (Int × Int)) (n : Int) : Prop := ∃ x, x ∈ l ∧ x.1 = n ∧ fzq f r x.1 x.2 = 1
theorem RV.drop {f g : Nat → Int32} {x : Int} (h : RV f) (hu : ∀ z : Int, 0 ≤ z → aI g z = if z = 10 * x then -1 else aI f z) : RV g := by
  intro r h0 h1
  have h3 := h r h0 h1
  unfold RVr at h3 ⊢
  rw [hu (10 * r + 0) (by omega), hu (10 * r + 1) (by omega), hu (10 * r + 2) (by omega), hu (10 * r + 3) (by omega), if_neg (c := 10 * r + 1 = 10 * x) (by omega), if_neg (c := 10 * r + 2 = 10 * x) (by omega), if_neg (c := 10 * r + 3 = 10 * x) (by omega)]
  split
  · omega
  · exact h3
theorem RV.late {f g : Nat → Int32} {x y : Int} (h : RV f) (hu : ∀ z : Int, 0 ≤ z → aI g z = if z = 10 * x + 6 then y else aI f z) : RV g := by
  intro r h0 h1
  have h3 := h r h0 h1
  unfold RVr at h3 ⊢
  rw [hu (10 * r + 0) (by omega), hu (10 * r + 1) (by omega), hu (10 * r + 2) (by omega), hu (10 * r + 3) (by omega), if_neg (by omega), if_neg (by omega), if_neg (by omega), if_neg (by omega)]
  exact h3
