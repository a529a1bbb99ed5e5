/-! ===== the reference: what is found, which fails ===== -/
noncomputable def fuO (f : Nat → Int32) (r1 r2 : Int → Int) (late : Int) : List (Int × Int) := fuL f r1 r2 late (ordN (prM f) (rkM f) 12).2 (ordN (prM f) (rkM f) 12).1
/-- whether the question (q, s) fails by the rows r -/
noncomputable def fzq (f : Nat → Int32) (r : Int → Int) (q s : Int) : Int := flq r (aI f (10 * q + 0)) (aI f (10 * q + 1)) (aI f (10 * q + 2)) (aI f (10 * q + 4)) (aI f (10 * q + 5)) s (stt r (aI f (10 * q + 0)) (aI f (10 * q + 1)) (aI f (10 * q + 2)) (aI f (10 * q + 3)) s)
noncomputable def tq (f : Nat → Int32) (r : Int → Int) (x : Int × Int) : Qt := (x.1, x.2, 0, 0, 0, fzq f r x.1 x.2)
noncomputable def ffP (f : Nat → Int32) (r : Int → Int) (l : List (Int × Int)) : Int := ffL (l.map (tq f r))
def PV (f : Nat → Int32) (l : List (Int × Int)) : Prop := ∀ x, x ∈ l → (0 ≤ x.1 ∧ x.1 ≤ 11) ∧ aI f (10 * x.1 + 0) ≠ -1 ∧ sbj (aI f (10 * x.1 + 0)) x.2
theorem pL_len (G : XG) (F : Nat → Nat → Nat) (a : Nat) : (pL G F a).length = (G.1 a 19).toInt.toNat := lst_len _ _
theorem pL_at {G : XG} {F : Nat → Nat → Nat} {a : Nat} {z : Int} (h : 0 ≤ z ∧ z < (G.1 a 19).toInt) : (pL G F a)[z.toNat]? = some (aI (G.2.1 (F a 17)) z, aI (G.2.1 (F a 18)) z) := lst_get _ (by omega)
theorem pL_get {G : XG} {F : Nat → Nat → Nat} {a : Nat} {j : Nat} {x : Int × Int} (h : (pL G F a)[j]? = some x) : (j : Int) < (G.1 a 19).toInt ∧ x = (aI (G.2.1 (F a 17)) j, aI (G.2.1 (F a 18)) j) := by
  have hl : j < (G.1 a 19).toInt.toNat := by
    apply Classical.byContradiction
    intro q
    rw [List.getElem?_eq_none (by rw [pL_len]; omega)] at h
    cases h
  have h2 := pL_at (G := G) (F := F) (a := a) (z := (j : Int)) (by omega)
  rw [show ((j : Int)).toNat = j from by omega, h] at h2
  exact ⟨by omega, Option.some.inj h2⟩
theorem pv_at {G : XG} {F : Nat → Nat → Nat} {a : Nat} {f : Nat → Int32} (h : PV f (pL G F a)) {z : Int} (hz : 0 ≤ z ∧ z < (G.1 a 19).toInt) : (0 ≤ aI (G.2.1 (F a 17)) z ∧ aI (G.2.1 (F a 17)) z ≤ 11) ∧ aI f (10 * aI (G.2.1 (F a 17)) z + 0) ≠ -1 ∧ (sF (aI f (10 * aI (G.2.1 (F a 17)) z + 0)) ≤ aI (G.2.1 (F a 18)) z ∧ aI (G.2.1 (F a 18)) z ≤ sL (aI f (10 * aI (G.2.1 (F a 17)) z + 0))) := by
  have := h _ (List.mem_of_getElem? (pL_at hz))
  exact ⟨this.1, this.2.1, sbj_FL.mp this.2.2⟩
theorem fus_pv (f : Nat → Int32) (r1 r2 : Int → Int) (late : Int) {q : Int} (hq : 0 ≤ q ∧ q ≤ 11) (hk : aI f (10 * q + 0) ≠ -1) : PV f (fus f r1 r2 late q) := by
  intro x hx
  unfold fus at hx
  split at hx
  · rw [List.mem_filterMap] at hx
    obtain ⟨s, hs, he⟩ := hx
    unfold fu1 at he
    split at he
    · cases he
      exact ⟨hq, hk, (subs_mem _ _).mp hs⟩
    · cases he
  · cases hx
theorem fuO_pv (f : Nat → Int32) (r1 r2 : Int → Int) (late : Int) : PV f (fuO f r1 r2 late) := by
  have key : ∀ n, n ≤ (ordN (prM f) (rkM f) 12).1 → PV f (fuL f r1 r2 late (ordN (prM f) (rkM f) 12).2 n) := by
    intro n
    induction n with
    | zero => intro _ x hx; cases hx
    | succ n ih =>
      intro hn x hx
      rw [fuL_s, List.mem_append] at hx
      have h3 := ordN_in (prM f) (rkM f) 12 n (by omega)
      rcases hx with hx | hx
      · exact ih (by omega) x hx
      · exact fus_pv f r1 r2 late ⟨by omega, by omega⟩ (of_decide_eq_true h3.2) x hx
  exact key _ (Nat.le_refl _)
theorem ffP_eq {G : XG} {F : Nat → Nat → Nat} {a : Nat} {f : Nat → Int32} {r : Int → Int} {x : Int} (h1 : x = -1 ∨ (0 ≤ x ∧ x < (G.1 a 19).toInt ∧ fzq f r (aI (G.2.1 (F a 17)) x) (aI (G.2.1 (F a 18)) x) = 1)) (h2 : ∀ j : Int, 0 ≤ j → j < (G.1 a 19).toInt → (x = -1 ∨ j < x) → fzq f r (aI (G.2.1 (F a 17)) j) (aI (G.2.1 (F a 18)) j) = 0) : x = ffP f r (pL G F a) := by
  symm
  unfold ffP
  refine ffL_eq _ x ?_ (fun j y hj hr => ?_)
  · rcases h1 with h | ⟨a1, a2, a3⟩
    · exact Or.inl h
    · refine Or.inr ⟨a1, _, by rw [List.getElem?_map, pL_at ⟨a1, a2⟩]; rfl, ?_⟩
      show fzq f r (aI (G.2.1 (F a 17)) x) (aI (G.2.1 (F a 18)) x) ≠ 0
      rw [a3]; decide
  · rw [List.getElem?_map] at hj
    cases hp : (pL G F a)[j]? with
    | none => rw [hp] at hj; cases hj
    | some w =>
      rw [hp] at hj
      obtain ⟨hw, rfl⟩ := pL_get hp
      have := h2 (j : Int) (by omega) hw hr
      cases hj
      exact this
theorem flq01 (r : Int → Int) (kd t c lo hi s v : Int) : flq r kd t c lo hi s v = 0 ∨ flq r kd t c lo hi s v = 1 := by
  by_cases h : flv r kd t c lo hi s v
  · exact Or.inr (flq_1 h)
  · exact Or.inl (flq_0 h)
theorem ql_all {G : XG} {F : Nat → Nat → Nat} {a : Nat} {P : Qt → Prop} (h : ∀ j : Int, 0 ≤ j → j < (G.1 a 6).toInt → P (qt (G.2.1 (F a 0)) (G.2.1 (F a 1)) (G.2.1 (F a 2)) (G.2.1 (F a 3)) (G.2.1 (F a 4)) (G.2.1 (F a 5)) j.toNat)) : ∀ x, x ∈ qL G F a → P x := by
  intro x hx
  obtain ⟨j, hj⟩ := List.mem_iff_getElem?.mp hx
  obtain ⟨h1, rfl⟩ := qL_get hj
  have := h (j : Int) (by omega) h1
  rw [show ((j : Int)).toNat = j from by omega] at this
  exact this
