theorem fuL_s (f : Nat → Int32) (r1 r2 : Int → Int) (late : Int) (o : Nat → Nat) (n : Nat) : fuL f r1 r2 late o (n + 1) = fuL f r1 r2 late o n ++ fus f r1 r2 late ((o n : Nat) : Int) := rfl
/-- the questions found for the rule q with subjects below s -/
noncomputable def fup (f : Nat → Int32) (r1 r2 : Int → Int) (q s : Int) : List (Int × Int) := (lst (fun i : Nat => (i : Int) + sF (aI f (10 * q + 0))) (s - sF (aI f (10 * q + 0))).toNat).filterMap (fu1 f r1 r2 q)
theorem fup_0 {f : Nat → Int32} {r1 r2 : Int → Int} {q s : Int} (h : s = sF (aI f (10 * q + 0))) : fup f r1 r2 q s = [] := by
  unfold fup
  rw [h, Int.sub_self]
  rfl
theorem fup_s {f : Nat → Int32} {r1 r2 : Int → Int} {q s : Int} (h : sF (aI f (10 * q + 0)) ≤ s) : fup f r1 r2 q (s + 1) = fup f r1 r2 q s ++ [s].filterMap (fu1 f r1 r2 q) := by
  unfold fup
  rw [show (s + 1 - sF (aI f (10 * q + 0))).toNat = (s - sF (aI f (10 * q + 0))).toNat + 1 from by omega, lst_s, List.filterMap_append]
  congr 2
  congr 1
  omega
theorem fup_l {f : Nat → Int32} {r1 r2 : Int → Int} {q s late : Int} (h : s = sL (aI f (10 * q + 0)) + 1) (hl : late = 2 ∨ aI f (10 * q + 6) = late) : fup f r1 r2 q s = fus f r1 r2 late q := by
  unfold fup fus
  rw [if_pos hl, subs_lst, h]
  congr 3
  omega
theorem fus_no {f : Nat → Int32} {r1 r2 : Int → Int} {q late : Int} (hl : ¬ (late = 2 ∨ aI f (10 * q + 6) = late)) : fus f r1 r2 late q = [] := if_neg hl
theorem filterMap_1n2 {α : Type} {g : Int → Option α} {x : Int} (h : g x = none) : [x].filterMap g = [] := by rw [List.filterMap_cons_none h]; rfl
theorem fuL_le (f : Nat → Int32) (r1 r2 : Int → Int) (late : Int) (o : Nat → Nat) (n : Nat) : (fuL f r1 r2 late o n).length ≤ 199 * n := by
  induction n with
  | zero => exact Nat.le_refl _
  | succ n ih =>
    rw [fuL_s, List.length_append]
    have : (fus f r1 r2 late ((o n : Nat) : Int)).length ≤ 199 := by
      unfold fus
      split
      · refine Nat.le_trans (List.length_filterMap_le _ _) ?_
        unfold subs
        split
        · rw [List.length_map, List.length_range]; omega
        · rw [List.length_map, List.length_range]; omega
      · exact Nat.zero_le _
    omega
theorem or_le {f g : Nat → Int32} {sz : Int} (h : ORm f g sz 12) : 0 ≤ sz ∧ sz ≤ 12 := by
  have := ordN_le (prM f) (rkM f) 12
  have := h.1
  omega
theorem or_ent {f g : Nat → Int32} {sz z : Int} (h : ORm f g sz 12) (hz : 0 ≤ z ∧ z < sz) : (0 ≤ aI g z ∧ aI g z ≤ 11) ∧ aI f (10 * aI g z + 0) ≠ -1 := by
  have := h.ent (by omega) hz
  exact ⟨⟨this.1, this.2.1⟩, this.2.2⟩
theorem or_nth {f g : Nat → Int32} {sz z : Int} (h : ORm f g sz 12) (hz : 0 ≤ z ∧ z < sz) : (((ordN (prM f) (rkM f) 12).2 z.toNat : Nat) : Int) = aI g z := by
  have h1 := h.1
  exact (h.2 z.toNat (by omega)).symm
