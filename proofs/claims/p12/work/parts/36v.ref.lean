theorem v_X11_takeAsked_86_1 {K : Nat → Nat} {F : Nat → Nat → Nat} (a : Nat) (G : XG) (k_22 : Int32) (G_35 : XG) (G85 : XG) (l1_35 : Int32) (N35 : Nat)
    (ha : K a = 13)
    (pt : ∀ j : Int, 0 ≤ j → j < l1_35.toInt → aI (G_35.2.1 (F a 41)) j = aI (G.2.1 (F a 17)) j ∧ aI (G_35.2.1 (F a 42)) j = aI (G.2.1 (F a 18)) j)
    (s0 : 0 ≤ ((G.1 a 19).toInt) ∧ ((G.1 a 19).toInt) ≤ 2388 ∧ -1 ≤ ((G.1 a 46).toInt) ∧ ((G.1 a 46).toInt) < 2388)
    (I22_0 : 0 ≤ k_22.toInt ∧ k_22.toInt ≤ 2388)
    (I22_1 : ((((G.1 a 46).toInt) = -1 ∧ k_22.toInt = ((G.1 a 19).toInt)) ∨ (((G.1 a 46).toInt) ≠ -1 ∧ k_22.toInt = ((G.1 a 46).toInt) + 1)))
    (I35_0 : 0 ≤ l1_35.toInt)
    (I35_1 : l1_35.toInt ≤ k_22.toInt)
    (I35_2 : (0 : Int) ≤ l1_35.toInt)
    (hm35 : 2147483648 - l1_35.toInt < (((N35) + 1 : Nat) : Int))
    (c40 : k_22.toInt ≤ l1_35.toInt)
    (c_G85_F_a_41 : G85.2.1 (F a 41) = G_35.2.1 (F a 41))
    (c_G85_F_a_42 : G85.2.1 (F a 42) = G_35.2.1 (F a 42))
    (d_G85_a_43 : G85.1 a 43 = k_22) :
    ((G.1 a 46).toInt) < ((G.1 a 19).toInt) → aL G85 F a = (pL G F a).take ((G85.1 a 43).toInt).toNat := by
  intro hlt
  have h3 : (G85.1 a 43).toInt = k_22.toInt := by rw [d_G85_a_43]
  rw [h3]
  refine List.ext_getElem? (fun i => ?_)
  rw [List.getElem?_take]
  by_cases g : i < (k_22.toInt).toNat
  · rw [if_pos g]
    have q := pt (i : Int) (by omega) (by omega)
    rw [← c_G85_F_a_41, ← c_G85_F_a_42] at q
    have e1 : (aL G85 F a)[i]? = some (aI (G85.2.1 (F a 41)) (i : Int), aI (G85.2.1 (F a 42)) (i : Int)) := lst_get _ (show i < (G85.1 a 43).toInt.toNat by rw [h3]; exact g)
    have q2 : (pL G F a)[i]? = some (aI (G.2.1 (F a 17)) (i : Int), aI (G.2.1 (F a 18)) (i : Int)) := pL_at (z := (i : Int)) ⟨by omega, by omega⟩
    rw [e1, q2, q.1, q.2]
  · rw [if_neg g]
    exact List.getElem?_eq_none (by rw [aL_len, h3]; omega)
theorem v_X11_takeAsked_70_2 {K : Nat → Nat} {F : Nat → Nat → Nat} (a : Nat) (G : XG) (k_22 : Int32) (G_35 : XG) (G54 : XG) (l1_35 : Int32) (x53 : Int32) (G66 : XG) (x65 : Int32) (N35 : Nat)
    (ha : K a = 13)
    (hG54 : G54 = cput G_35 (F a 41) l1_35.toNatClampNeg x53)
    (hG66 : G66 = cput G54 (F a 42) l1_35.toNatClampNeg x65)
    (pt : ∀ j : Int, 0 ≤ j → j < l1_35.toInt → aI (G_35.2.1 (F a 41)) j = aI (G.2.1 (F a 17)) j ∧ aI (G_35.2.1 (F a 42)) j = aI (G.2.1 (F a 18)) j)
    (hv53 : x53.toInt = (aI (G.2.1 (F a 17)) (l1_35.toInt)))
    (hv65 : x65.toInt = (aI (G.2.1 (F a 18)) (l1_35.toInt)))
    (s0 : 0 ≤ ((G.1 a 19).toInt) ∧ ((G.1 a 19).toInt) ≤ 2388 ∧ -1 ≤ ((G.1 a 46).toInt) ∧ ((G.1 a 46).toInt) < 2388)
    (I22_0 : 0 ≤ k_22.toInt ∧ k_22.toInt ≤ 2388)
    (I22_1 : ((((G.1 a 46).toInt) = -1 ∧ k_22.toInt = ((G.1 a 19).toInt)) ∨ (((G.1 a 46).toInt) ≠ -1 ∧ k_22.toInt = ((G.1 a 46).toInt) + 1)))
    (I35_0 : 0 ≤ l1_35.toInt)
    (I35_1 : l1_35.toInt ≤ k_22.toInt)
    (I35_2 : (0 : Int) ≤ l1_35.toInt)
    (hm35 : 2147483648 - l1_35.toInt < (((N35) + 1 : Nat) : Int))
    (c40 : ¬ (k_22.toInt ≤ l1_35.toInt))
    (c_G54_F_a_42 : G54.2.1 (F a 42) = G_35.2.1 (F a 42))
    (c_G66_F_a_41 : G66.2.1 (F a 41) = G54.2.1 (F a 41)) :
    ∀ j : Int, 0 ≤ j → j < (l1_35.toInt + 1) → aI (G66.2.1 (F a 41)) j = aI (G.2.1 (F a 17)) j ∧ aI (G66.2.1 (F a 42)) j = aI (G.2.1 (F a 18)) j := by
  intro j h1 h2
  have u0 := aI_pz hG54 rfl rfl hv53 I35_0 j h1
  have u1 := aI_pz hG66 c_G54_F_a_42 rfl hv65 I35_0 j h1
  rw [c_G66_F_a_41, u0, u1]
  by_cases e : j = l1_35.toInt
  · rw [if_pos e, if_pos e, e]; exact ⟨rfl, rfl⟩
  · rw [if_neg e, if_neg e]; exact pt j h1 (by omega)
theorem v_X11_takeAsked_34_3 {K : Nat → Nat} {F : Nat → Nat → Nat} (a : Nat) (G : XG) (k_22 : Int32) (G30 : XG)
    (ha : K a = 13)
    (s0 : 0 ≤ ((G.1 a 19).toInt) ∧ ((G.1 a 19).toInt) ≤ 2388 ∧ -1 ≤ ((G.1 a 46).toInt) ∧ ((G.1 a 46).toInt) < 2388)
    (I22_0 : 0 ≤ k_22.toInt ∧ k_22.toInt ≤ 2388)
    (I22_1 : ((((G.1 a 46).toInt) = -1 ∧ k_22.toInt = ((G.1 a 19).toInt)) ∨ (((G.1 a 46).toInt) ≠ -1 ∧ k_22.toInt = ((G.1 a 46).toInt) + 1))) :
    ∀ j : Int, 0 ≤ j → j < (0 : Int) → aI (G30.2.1 (F a 41)) j = aI (G.2.1 (F a 17)) j ∧ aI (G30.2.1 (F a 42)) j = aI (G.2.1 (F a 18)) j := by
  intro j h1 h2; exact absurd h1 (by omega)
