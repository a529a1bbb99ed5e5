theorem z_X0_size_1 (a0 : Int) : a0 = a0 := by omega
abbrev rm_X0_size : Room := { frames := 0, cells := 0, slots := 0, locals := 0 }
set_option maxHeartbeats 4000000 in
set_option maxRecDepth 100000 in
theorem c_X0_size (l : Launch) (E : XE) (K : Nat → Nat) (F : Nat → Nat → Nat) (G : XG) (h0 : Heap) (a : Nat) (ha : K a = 2) : Met l yX0_size (xw yX0_size cX0_size 1 (some .int)) rm_X0_size (va_Pc [.ref a] (XPh E K F G h0)) (XQ E (fun v (u : Unit) => ∃ r : Int32, v = .int r ∧ (r.toInt = ((G.1 a 2).toInt))) (fun _ H => H = h0)) 0 0 (xA E) := by
  refine x_enter (by decide) (Nat.le_of_ble_eq_true rfl) ?_
  intro p e s m args below meth c Q S hr hlk hnm hQ hP ls hl
  obtain ⟨⟨hz, hK, hT⟩, hh⟩ := hP
  obtain ⟨hx, hb, -, -, -⟩ := id S
  have hS : va_S (xA E) s.heap s.heap [] := va_S.rf
  have hl : lv_has ls 1 [(0, .ref a)] := hl
  refine lv_aload_n hx hb dX0_size_0 rfl (lv_at hl 0 rfl) ?_
  refine gX0_2 S hK hT ha kf_X0_20 dX0_size_1 (v := (G.1 a 2)) rfl (?_)
  exact x_ri hx hb hr hlk hQ (Nat.le_of_ble_eq_true rfl) (Nat.le_of_ble_eq_true rfl) hS dX0_size_4 () ⟨_, rfl, (z_X0_size_1 ((G.1 a 2).toInt))⟩ hh

theorem z_X0_get_1 (a0 : Int) (h0 : ¬ (a0 < 0)) (h1 : ¬ ((12 : Int) ≤ a0)) : 0 ≤ a0 ∧ a0 < 12 := by omega
abbrev rm_X0_get : Room := { frames := 0, cells := 0, slots := 0, locals := 0 }
set_option maxHeartbeats 4000000 in
set_option maxRecDepth 100000 in
theorem c_X0_get (l : Launch) (E : XE) (K : Nat → Nat) (F : Nat → Nat → Nat) (G : XG) (h0 : Heap) (a : Nat) (p0 : Int32) (ha : K a = 2) : Met l yX0_get (xw yX0_get cX0_get 2 (some (.object "LateRules$Rule"))) rm_X0_get (va_Pc [.ref a, .int p0] (XPh E K F G h0)) (XQ E (fun v (u : Unit) => (v = .null ∧ ((p0.toInt < 0 ∨ 12 ≤ p0.toInt) ∨ G.2.2.1 (F a 0) (p0.toInt).toNat = none)) ∨ (∃ q : Nat, v = .ref q ∧ K q = 9 ∧ (0 ≤ p0.toInt ∧ p0.toInt < 12) ∧ (G.2.2.1 (F a 0) (p0.toInt).toNat = some q))) (fun _ H => H = h0)) 0 0 (xA E) := by
  refine x_enter (by decide) (Nat.le_of_ble_eq_true rfl) ?_
  intro p e s m args below meth c Q S hr hlk hnm hQ hP ls hl
  obtain ⟨⟨hz, hK, hT⟩, hh⟩ := hP
  obtain ⟨hx, hb, -, -, -⟩ := id S
  have hS : va_S (xA E) s.heap s.heap [] := va_S.rf
  have hl : lv_has ls 2 [(0, .ref a), (1, .int p0)] := hl
  obtain ⟨hk9999, hj9999⟩ := fkX0_0 hT ha
  refine lv_iload_n hx hb dX0_get_0 rfl (lv_at hl 1 rfl) ?_
  refine xi_zlt (tgt := 19) hx hb (rfl : Int32.toInt p0 = p0.toInt) dX0_get_1 (by decide) (fun c1 => ?_) (fun c1 => ?_)
  · refine lv_null hx hb dX0_get_19 ?_
    exact x_ra hx hb hr (by first | exact Or.inl ⟨_, rfl⟩ | exact Or.inr ⟨_, rfl⟩) (by first | exact Or.inl rfl | exact Or.inr ⟨_, rfl⟩) hlk hQ (Nat.le_of_ble_eq_true rfl) (Nat.le_of_ble_eq_true rfl) hS dX0_get_20 () (Or.inl ⟨rfl, (v_X0_get_20_1 (K := K) (F := F) a p0 G ha hk9999 hj9999 c1)⟩) hh
  · refine lv_iload_n hx hb dX0_get_4 rfl (lv_at hl 1 rfl) ?_
    refine lv_bipush (v := 12) hx hb dX0_get_5 (by decide) ?_
    refine xi_cge (tgt := 19) hx hb (rfl : Int32.toInt p0 = p0.toInt) ((by decide) : Int32.toInt 12 = (12 : Int)) dX0_get_7 (by decide) (fun c7 => ?_) (fun c7 => ?_)
    · refine lv_null hx hb dX0_get_19 ?_
      exact x_ra hx hb hr (by first | exact Or.inl ⟨_, rfl⟩ | exact Or.inr ⟨_, rfl⟩) (by first | exact Or.inl rfl | exact Or.inr ⟨_, rfl⟩) hlk hQ (Nat.le_of_ble_eq_true rfl) (Nat.le_of_ble_eq_true rfl) hS dX0_get_20 () (Or.inl ⟨rfl, (v_X0_get_20_2 (K := K) (F := F) a p0 G ha hk9999 hj9999 c1 c7)⟩) hh
    · refine lv_aload_n hx hb dX0_get_10 rfl (lv_at hl 0 rfl) ?_
      refine gX0_0 S hK hT ha kf_X0_11 dX0_get_11 (fun _ _ => ?_)
      refine lv_iload_n hx hb dX0_get_14 rfl (lv_at hl 1 rfl) ?_
      refine al_15 S hK hT hk9999 (z_X0_get_1 p0.toInt c1 c7) dX0_get_15 (fun hR15 => ?_) (fun q15 hR15 hk15 => ?_)
      · have hR15 : G.2.2.1 (F a 0) (p0.toInt).toNat = none := by rw [← (rfl : Int32.toInt p0 = p0.toInt)]; exact hR15
        refine lv_goto (tgt := 20) hx hb dX0_get_16 (by decide) ?_
        exact x_ra hx hb hr (by first | exact Or.inl ⟨_, rfl⟩ | exact Or.inr ⟨_, rfl⟩) (by first | exact Or.inl rfl | exact Or.inr ⟨_, rfl⟩) hlk hQ (Nat.le_of_ble_eq_true rfl) (Nat.le_of_ble_eq_true rfl) hS dX0_get_20 () (Or.inl ⟨rfl, (v_X0_get_20_3 (K := K) (F := F) a G p0 ha hk9999 hj9999 hR15 c1 c7)⟩) hh
      · have hR15 : G.2.2.1 (F a 0) (p0.toInt).toNat = some q15 := by rw [← (rfl : Int32.toInt p0 = p0.toInt)]; exact hR15
        refine lv_goto (tgt := 20) hx hb dX0_get_16 (by decide) ?_
        exact x_ra hx hb hr (by first | exact Or.inl ⟨_, rfl⟩ | exact Or.inr ⟨_, rfl⟩) (by first | exact Or.inl rfl | exact Or.inr ⟨_, rfl⟩) hlk hQ (Nat.le_of_ble_eq_true rfl) (Nat.le_of_ble_eq_true rfl) hS dX0_get_20 () (Or.inr ⟨_, rfl, hk15, (z_X0_get_1 p0.toInt c1 c7), (v_X0_get_20_4 (K := K) (F := F) a q15 G p0 ha hk9999 hj9999 hk15 hR15 c1 c7)⟩) hh

theorem z_X0_inOrder_2 (a0 : Int) (a1 : Int) (h0 : ¬ (a0 < 0)) (h1 : ¬ (a1 ≤ a0)) (h2 : ¬ ((12 : Int) ≤ a0)) : 0 ≤ a0 ∧ a0 < a1 ∧ a0 < 12 := by omega
abbrev rm_X0_inOrder : Room := { frames := 0, cells := 0, slots := 0, locals := 0 }
set_option maxHeartbeats 4000000 in
set_option maxRecDepth 100000 in
theorem c_X0_inOrder (l : Launch) (E : XE) (K : Nat → Nat) (F : Nat → Nat → Nat) (G : XG) (h0 : Heap) (a : Nat) (p0 : Int32) (ha : K a = 2) : Met l yX0_inOrder (xw yX0_inOrder cX0_inOrder 2 (some (.object "LateRules$Rule"))) rm_X0_inOrder (va_Pc [.ref a, .int p0] (XPh E K F G h0)) (XQ E (fun v (u : Unit) => (v = .null ∧ ((p0.toInt < 0 ∨ ((G.1 a 2).toInt) ≤ p0.toInt ∨ 12 ≤ p0.toInt) ∨ G.2.2.1 (F a 1) (p0.toInt).toNat = none)) ∨ (∃ q : Nat, v = .ref q ∧ K q = 9 ∧ (0 ≤ p0.toInt ∧ p0.toInt < ((G.1 a 2).toInt) ∧ p0.toInt < 12) ∧ (G.2.2.1 (F a 1) (p0.toInt).toNat = some q))) (fun _ H => H = h0)) 0 0 (xA E) := by
  refine x_enter (by decide) (Nat.le_of_ble_eq_true rfl) ?_
  intro p e s m args below meth c Q S hr hlk hnm hQ hP ls hl
  obtain ⟨⟨hz, hK, hT⟩, hh⟩ := hP
  obtain ⟨hx, hb, -, -, -⟩ := id S
  have hS : va_S (xA E) s.heap s.heap [] := va_S.rf
  have hl : lv_has ls 2 [(0, .ref a), (1, .int p0)] := hl
  obtain ⟨hk9999, hj9999⟩ := fkX0_1 hT ha
  refine lv_iload_n hx hb dX0_inOrder_0 rfl (lv_at hl 1 rfl) ?_
  refine xi_zlt (tgt := 27) hx hb (rfl : Int32.toInt p0 = p0.toInt) dX0_inOrder_1 (by decide) (fun c1 => ?_) (fun c1 => ?_)
  · refine lv_null hx hb dX0_inOrder_27 ?_
    exact x_ra hx hb hr (by first | exact Or.inl ⟨_, rfl⟩ | exact Or.inr ⟨_, rfl⟩) (by first | exact Or.inl rfl | exact Or.inr ⟨_, rfl⟩) hlk hQ (Nat.le_of_ble_eq_true rfl) (Nat.le_of_ble_eq_true rfl) hS dX0_inOrder_28 () (Or.inl ⟨rfl, (v_X0_inOrder_28_1 (K := K) (F := F) a p0 G ha hk9999 hj9999 c1)⟩) hh
  · refine lv_iload_n hx hb dX0_inOrder_4 rfl (lv_at hl 1 rfl) ?_
    refine lv_aload_n hx hb dX0_inOrder_5 rfl (lv_at hl 0 rfl) ?_
    refine gX0_2 S hK hT ha kf_X0_20 dX0_inOrder_6 (v := (G.1 a 2)) rfl (?_)
    refine xi_cge (tgt := 27) hx hb (rfl : Int32.toInt p0 = p0.toInt) (rfl : Int32.toInt (G.1 a 2) = ((G.1 a 2).toInt)) dX0_inOrder_9 (by decide) (fun c9 => ?_) (fun c9 => ?_)
    · refine lv_null hx hb dX0_inOrder_27 ?_
      exact x_ra hx hb hr (by first | exact Or.inl ⟨_, rfl⟩ | exact Or.inr ⟨_, rfl⟩) (by first | exact Or.inl rfl | exact Or.inr ⟨_, rfl⟩) hlk hQ (Nat.le_of_ble_eq_true rfl) (Nat.le_of_ble_eq_true rfl) hS dX0_inOrder_28 () (Or.inl ⟨rfl, (v_X0_inOrder_28_2 (K := K) (F := F) a p0 G ha hk9999 hj9999 c1 c9)⟩) hh
    · refine lv_iload_n hx hb dX0_inOrder_12 rfl (lv_at hl 1 rfl) ?_
      refine lv_bipush (v := 12) hx hb dX0_inOrder_13 (by decide) ?_
      refine xi_cge (tgt := 27) hx hb (rfl : Int32.toInt p0 = p0.toInt) ((by decide) : Int32.toInt 12 = (12 : Int)) dX0_inOrder_15 (by decide) (fun c15 => ?_) (fun c15 => ?_)
      · refine lv_null hx hb dX0_inOrder_27 ?_
        exact x_ra hx hb hr (by first | exact Or.inl ⟨_, rfl⟩ | exact Or.inr ⟨_, rfl⟩) (by first | exact Or.inl rfl | exact Or.inr ⟨_, rfl⟩) hlk hQ (Nat.le_of_ble_eq_true rfl) (Nat.le_of_ble_eq_true rfl) hS dX0_inOrder_28 () (Or.inl ⟨rfl, (v_X0_inOrder_28_3 (K := K) (F := F) a p0 G ha hk9999 hj9999 c1 c9 c15)⟩) hh
      · refine lv_aload_n hx hb dX0_inOrder_18 rfl (lv_at hl 0 rfl) ?_
        refine gX0_1 S hK hT ha kf_X0_17 dX0_inOrder_19 (fun _ _ => ?_)
        refine lv_iload_n hx hb dX0_inOrder_22 rfl (lv_at hl 1 rfl) ?_
        refine al_15 S hK hT hk9999 (z_X0_get_1 p0.toInt c1 c15) dX0_inOrder_23 (fun hR23 => ?_) (fun q23 hR23 hk23 => ?_)
        · have hR23 : G.2.2.1 (F a 1) (p0.toInt).toNat = none := by rw [← (rfl : Int32.toInt p0 = p0.toInt)]; exact hR23
          refine lv_goto (tgt := 28) hx hb dX0_inOrder_24 (by decide) ?_
          exact x_ra hx hb hr (by first | exact Or.inl ⟨_, rfl⟩ | exact Or.inr ⟨_, rfl⟩) (by first | exact Or.inl rfl | exact Or.inr ⟨_, rfl⟩) hlk hQ (Nat.le_of_ble_eq_true rfl) (Nat.le_of_ble_eq_true rfl) hS dX0_inOrder_28 () (Or.inl ⟨rfl, (v_X0_inOrder_28_4 (K := K) (F := F) a G p0 ha hk9999 hj9999 hR23 c1 c9 c15)⟩) hh
        · have hR23 : G.2.2.1 (F a 1) (p0.toInt).toNat = some q23 := by rw [← (rfl : Int32.toInt p0 = p0.toInt)]; exact hR23
          refine lv_goto (tgt := 28) hx hb dX0_inOrder_24 (by decide) ?_
          exact x_ra hx hb hr (by first | exact Or.inl ⟨_, rfl⟩ | exact Or.inr ⟨_, rfl⟩) (by first | exact Or.inl rfl | exact Or.inr ⟨_, rfl⟩) hlk hQ (Nat.le_of_ble_eq_true rfl) (Nat.le_of_ble_eq_true rfl) hS dX0_inOrder_28 () (Or.inr ⟨_, rfl, hk23, (z_X0_inOrder_2 p0.toInt ((G.1 a 2).toInt) c1 c9 c15), (v_X0_inOrder_28_5 (K := K) (F := F) a q23 G p0 ha hk9999 hj9999 hk23 hR23 c1 c9 c15)⟩) hh

theorem z_X0_leastFree_1 (a0 : Int) (h0 : 0 ≤ a0 ∧ a0 ≤ 12) : ¬ (2147483648 - a0 < ((0 : Nat) : Int)) := by omega
theorem z_X0_leastFree_2 (a0 : Int) (h0 : 0 ≤ a0 ∧ a0 ≤ 12) (h1 : ¬ ((12 : Int) ≤ a0)) : 0 ≤ a0 ∧ a0 < 12 := by omega
theorem z_X0_leastFree_3 (a0 : Int) (h0 : 0 ≤ a0 ∧ a0 ≤ 12) (h1 : ¬ ((12 : Int) ≤ a0)) : -1 ≤ a0 ∧ a0 ≤ 11 := by omega
theorem z_X0_leastFree_4 (a0 : Int) (a1 : Int) (h0 : 0 ≤ a0 ∧ a0 ≤ 12) (h1 : a1 = (a0 + 1) ∨ (a0 + 1) < -2147483648 ∨ 2147483648 ≤ (a0 + 1)) : a1 = (a0 + 1) := by omega
theorem z_X0_leastFree_5 (a0 : Int) (h0 : 0 ≤ a0 ∧ a0 ≤ 12) (h1 : ¬ ((12 : Int) ≤ a0)) : 0 ≤ (a0 + 1) ∧ (a0 + 1) ≤ 12 := by omega
theorem z_X0_leastFree_6 (a0 : Int) (h0 : 0 ≤ a0 ∧ a0 ≤ 12) : (0 : Int) ≤ (a0 + 1) := by omega
theorem z_X0_leastFree_7 (a0 : Int) (a1 : Nat) (h0 : 2147483648 - a0 < ((a1 + 1 : Nat) : Int)) : 2147483648 - (a0 + 1) < ((a1 : Nat) : Int) := by omega
abbrev rm_X0_leastFree : Room := { frames := 0, cells := 0, slots := 0, locals := 0 }
set_option maxHeartbeats 4000000 in
set_option maxRecDepth 100000 in
theorem c_X0_leastFree (l : Launch) (E : XE) (K : Nat → Nat) (F : Nat → Nat → Nat) (G : XG) (h0 : Heap) (a : Nat) (ha : K a = 2) : Met l yX0_leastFree (xw yX0_leastFree cX0_leastFree 2 (some .int)) rm_X0_leastFree (va_Pc [.ref a] (XPh E K F G h0)) (XQ E (fun v (u : Unit) => ∃ r : Int32, v = .int r ∧ (-1 ≤ r.toInt ∧ r.toInt ≤ 11) ∧ ((r.toInt = -1 ∧ ∀ i : Nat, i < 12 → G.2.2.1 (F a 0) i ≠ none) ∨ (0 ≤ r.toInt ∧ G.2.2.1 (F a 0) (r.toInt).toNat = none ∧ ∀ i : Nat, (i : Int) < r.toInt → G.2.2.1 (F a 0) i ≠ none))) (fun _ H => H = h0)) 0 0 (xA E) := by
  refine x_enter (by decide) (Nat.le_of_ble_eq_true rfl) ?_
  intro p e s m args below meth c Q S hr hlk hnm hQ hP ls hl
  obtain ⟨⟨hz, hK, hT⟩, hh⟩ := hP
  obtain ⟨hx, hb, -, -, -⟩ := id S
  have hS : va_S (xA E) s.heap s.heap [] := va_S.rf
  have hl : lv_has ls 2 [(0, .ref a)] := hl
  obtain ⟨hk9999, hj9999⟩ := fkX0_0 hT ha
  refine lv_iconst (v := 0) hx hb dX0_leastFree_0 (by decide) ?_
  refine lv_istore_n (lv' := [(1, .int 0), (0, .ref a)]) hx hb dX0_leastFree_1 rfl hl (by decide) rfl (fun ls hl => ?_)
  have L2 : ∀ (N2 : Nat) (l1_2 : Int32) (locs : List Loc) (ls : Array Slot), (∀ i : Nat, (i : Int) < l1_2.toInt → G.2.2.1 (F a 0) i ≠ none) → 0 ≤ l1_2.toInt ∧ l1_2.toInt ≤ 12 → (0 : Int) ≤ l1_2.toInt → 2147483648 - l1_2.toInt < ((N2 : Nat) : Int) → TW E K F G s.heap → va_S (xA E) s.heap s.heap locs → lv_has ls 2 [(0, .ref a), (1, .int l1_2)] → W p l e rm_X0_leastFree s m args below meth c s.heap locs 0 0 Q (F0 m 2 ls []) := by
    intro N2
    induction N2 with
    | zero =>
      intro l1_2 locs ls pl I2_0 I2_1 hm2
      exact absurd hm2 (z_X0_leastFree_1 l1_2.toInt I2_0)
    | succ N2 ih2 =>
      intro l1_2 locs ls pl I2_0 I2_1 hm2 hT hS hl
      refine lv_iload_n hx hb dX0_leastFree_2 rfl (lv_at hl 1 rfl) ?_
      refine lv_bipush (v := 12) hx hb dX0_leastFree_3 (by decide) ?_
      refine xi_cge (tgt := 25) hx hb (rfl : Int32.toInt l1_2 = l1_2.toInt) ((by decide) : Int32.toInt 12 = (12 : Int)) dX0_leastFree_5 (by decide) (fun c5 => ?_) (fun c5 => ?_)
      · refine lv_iconst (v := (-1)) hx hb dX0_leastFree_25 (by decide) ?_
        exact x_ri hx hb hr hlk hQ (Nat.le_of_ble_eq_true rfl) (Nat.le_of_ble_eq_true rfl) hS dX0_leastFree_26 () ⟨_, rfl, (by rw [((by decide) : Int32.toInt (-1) = (-1 : Int))] <;> exact (by decide)), (by rw [((by decide) : Int32.toInt (-1) = (-1 : Int))] <;> exact (v_X0_leastFree_26_1 (K := K) (F := F) a l1_2 G N2 ha pl I2_0 I2_1 hm2 c5))⟩ hh
      · refine lv_aload_n hx hb dX0_leastFree_8 rfl (lv_at hl 0 rfl) ?_
        refine gX0_0 S hK hT ha kf_X0_11 dX0_leastFree_9 (fun _ _ => ?_)
        refine lv_iload_n hx hb dX0_leastFree_12 rfl (lv_at hl 1 rfl) ?_
        refine al_15 S hK hT hk9999 (z_X0_leastFree_2 l1_2.toInt I2_0 c5) dX0_leastFree_13 (fun hR13 => ?_) (fun q13 hR13 hk13 => ?_)
        · have hR13 : G.2.2.1 (F a 0) (l1_2.toInt).toNat = none := by rw [← (rfl : Int32.toInt l1_2 = l1_2.toInt)]; exact hR13
          refine lv_ifnonnullN hx hb dX0_leastFree_14 ?_
          refine lv_iload_n hx hb dX0_leastFree_17 rfl (lv_at hl 1 rfl) ?_
          exact x_ri hx hb hr hlk hQ (Nat.le_of_ble_eq_true rfl) (Nat.le_of_ble_eq_true rfl) hS dX0_leastFree_18 () ⟨_, rfl, (z_X0_leastFree_3 l1_2.toInt I2_0 c5), (v_X0_leastFree_18_2 (K := K) (F := F) a l1_2 G N2 ha pl hR13 I2_0 I2_1 hm2 c5)⟩ hh
        · have hR13 : G.2.2.1 (F a 0) (l1_2.toInt).toNat = some q13 := by rw [← (rfl : Int32.toInt l1_2 = l1_2.toInt)]; exact hR13
          refine lv_ifnonnull (tgt := 19) hx hb dX0_leastFree_14 (by decide) ?_
          refine xi_iinc (n := 1) (lv' := fun z9 => [(1, .int z9), (0, .ref a)]) (k := 1) hx hb (rfl : Int32.toInt l1_2 = l1_2.toInt) (by decide) dX0_leastFree_19 hl rfl (by decide) (fun _ => rfl) (fun x19 ls t19 hl => ?_)
          have e19 : x19.toInt = (l1_2.toInt + 1) := (z_X0_leastFree_4 l1_2.toInt x19.toInt I2_0 t19)
          have hl : lv_has ls 2 [(1, .int x19), (0, .ref a)] := hl
          refine lv_goto (tgt := 2) hx hb dX0_leastFree_22 (by decide) ?_
          exact ih2 x19 _ _ (by rw [(e19 : Int32.toInt x19 = (l1_2.toInt + 1))] <;> exact (v_X0_leastFree_22_3 (K := K) (F := F) a q13 l1_2 G N2 ha pl hR13 I2_0 I2_1 hm2 c5)) (by rw [(e19 : Int32.toInt x19 = (l1_2.toInt + 1))] <;> exact (z_X0_leastFree_5 l1_2.toInt I2_0 c5)) (by rw [(e19 : Int32.toInt x19 = (l1_2.toInt + 1))] <;> exact (z_X0_leastFree_6 l1_2.toInt I2_0)) (by rw [(e19 : Int32.toInt x19 = (l1_2.toInt + 1))] <;> exact (z_X0_leastFree_7 l1_2.toInt N2 hm2)) hT hS (lv_sub hl [1, 0] rfl)
  exact L2 4294967297 0 _ _ (v_X0_leastFree_1_4 (K := K) (F := F) a G ha) (by decide) (by decide) (by decide) hT hS (lv_sub hl [1, 0] rfl)

theorem z_X0_insert_1 (a0 : Int) (a1 : Int) (h0 : 0 ≤ a0 ∧ a0 ≤ a1) : ¬ (a0 + 1 < ((0 : Nat) : Int)) := by omega
theorem z_X0_insert_2 (a0 : Int) (a1 : Int) (a2 : Int) (h0 : 0 ≤ a0 ∧ a0 ≤ a1) (h1 : a0 < 0) : a2 = a1 + 1 := by omega
theorem z_X0_insert_3 (a0 : Int) (a1 : Int) (a2 : Int) (h0 : a0 ≤ 0) (h1 : (12 : Int) ≤ a0) : a2 = a1 + 1 := by omega
theorem z_X0_insert_4 (a0 : Int) (a1 : Int) (h0 : 0 ≤ a0 ∧ a0 ≤ a1) (h1 : a0 ≤ 0) : 0 ≤ a0 ∧ a0 < 12 := by omega
theorem z_X0_insert_5 (a0 : Int) (a1 : Int) (a2 : Int) (h0 : 0 ≤ a1 ∧ a1 ≤ 11) (h1 : a2 = a1) (h2 : a0 = (a2 + (1 : Int)) ∨ (a2 + (1 : Int)) < -2147483648 ∨ 2147483648 ≤ (a2 + (1 : Int))) : a0 = (a2 + (1 : Int)) := by omega
theorem z_X0_insert_6 (a0 : Int) (a1 : Int) (h0 : a1 = a0) : (a1 + (1 : Int)) = a0 + 1 := by omega
theorem z_X0_insert_7 (a0 : Int) (a1 : Int) (a2 : Int) (h0 : (12 : Int) ≤ a0) (h1 : a0 < 0) : a2 = a1 + 1 := by omega
theorem z_X0_insert_8 (a0 : Int) (a1 : Int) (a2 : Int) (h0 : 0 ≤ a1 ∧ a1 ≤ 11) (h1 : 0 ≤ a0 ∧ a0 ≤ a1) (h2 : (12 : Int) ≤ a0) : a2 = a1 + 1 := by omega
theorem z_X0_insert_9 (a0 : Int) (h0 : (12 : Int) ≤ a0) (h1 : ¬ ((12 : Int) ≤ a0)) : 0 ≤ a0 ∧ a0 < 12 := by omega
theorem z_X0_insert_10 (a0 : Int) (a1 : Int) (a2 : Int) (h0 : (12 : Int) ≤ a0) (h1 : ¬ ((12 : Int) ≤ a0)) : a1 = (a2 + (1 : Int)) := by omega
theorem z_X0_insert_11 (a0 : Int) (a1 : Int) (a2 : Int) (h0 : (12 : Int) ≤ a0) (h1 : ¬ ((12 : Int) ≤ a0)) : (a2 + (1 : Int)) = a1 + 1 := by omega
theorem z_X0_insert_12 (a0 : Int) (a1 : Int) (h0 : ¬ (a0 ≤ 0)) (h1 : ¬ ((12 : Int) ≤ a0)) (h2 : a1 = (a0 - (1 : Int)) ∨ (a0 - (1 : Int)) < -2147483648 ∨ 2147483648 ≤ (a0 - (1 : Int))) : a1 = (a0 - (1 : Int)) := by omega
theorem z_X0_insert_13 (a0 : Int) (h0 : ¬ (a0 ≤ 0)) (h1 : ¬ ((12 : Int) ≤ a0)) : 0 ≤ (a0 - (1 : Int)) ∧ (a0 - (1 : Int)) < 12 := by omega
theorem z_X0_insert_14 (a0 : Int) (a1 : Int) (a2 : Int) (h0 : ¬ (a0 ≤ 0)) (h1 : a0 < 0) : a2 = a1 + 1 := by omega
theorem z_X0_insert_15 (a0 : Int) (a1 : Int) (a2 : Int) (h0 : ¬ ((12 : Int) ≤ a0)) (h1 : (12 : Int) ≤ a0) : a2 = a1 + 1 := by omega
theorem z_X0_insert_16 (a0 : Int) (h0 : ¬ (a0 ≤ 0)) (h1 : ¬ ((12 : Int) ≤ a0)) : 0 ≤ a0 ∧ a0 < 12 := by omega
theorem z_X0_insert_20 (a0 : Int) (a1 : Int) (h0 : ¬ (a0 ≤ 0)) (h1 : ¬ ((12 : Int) ≤ a0)) (h2 : a1 = (a0 + (-1)) ∨ (a0 + (-1)) < -2147483648 ∨ 2147483648 ≤ (a0 + (-1))) : a1 = (a0 + (-1)) := by omega
theorem z_X0_insert_21 (a0 : Int) (a1 : Int) (h0 : 0 ≤ a0 ∧ a0 ≤ a1) (h1 : ¬ (a0 ≤ 0)) : 0 ≤ (a0 + (-1)) ∧ (a0 + (-1)) ≤ a1 := by omega
theorem z_X0_insert_23 (a0 : Int) (a1 : Nat) (h0 : a0 + 1 < ((a1 + 1 : Nat) : Int)) : (a0 + (-1)) + 1 < ((a1 : Nat) : Int) := by omega
theorem z_X0_insert_29 (a0 : Int) (h0 : 0 ≤ a0 ∧ a0 ≤ 11) : 0 ≤ a0 ∧ a0 ≤ a0 := by omega
theorem z_X0_insert_31 (a0 : Int) (h0 : 0 ≤ a0 ∧ a0 ≤ 11) : a0 + 1 < ((4294967297 : Nat) : Int) := by omega
abbrev rm_X0_insert : Room := { frames := 0, cells := 0, slots := 0, locals := 0 }
set_option maxHeartbeats 4000000 in
set_option maxRecDepth 100000 in
theorem c_X0_insert (l : Launch) (E : XE) (K : Nat → Nat) (F : Nat → Nat → Nat) (G : XG) (a : Nat) (p0 : Nat) (ha : K a = 2) (hp0 : K p0 = 9) (s0 : 0 ≤ ((G.1 a 2).toInt) ∧ ((G.1 a 2).toInt) ≤ 11) (hf : ∀ i : Nat, (i : Int) < ((G.1 a 2).toInt) → G.2.2.1 (F a 1) i ≠ none) : Met l yX0_insert (xw yX0_insert cX0_insert 4 none) rm_X0_insert (va_Pc [.ref a, .ref p0] (XP E K F G)) (XQv E (fun (u : XG) => XFr [(a, 2)] [] [F a 1] G u ∧ (((u.1 a 2).toInt) = ((G.1 a 2).toInt) + 1) ∧ (∀ i : Nat, (i : Int) ≤ ((G.1 a 2).toInt) → u.2.2.1 (F a 1) i = insF (G.2.2.1 (F a 1)) (posR (fun j => rkO G (G.2.2.1 (F a 1) j)) ((G.1 p0 8).toInt) (((G.1 a 2).toInt)).toNat) (some p0) i) ∧ (∀ (i q : Nat), u.2.2.1 (F a 1) i = some q → q = p0 ∨ ∃ j : Nat, G.2.2.1 (F a 1) j = some q)) (fun u H => TW E K F u H)) 0 0 (xA E) := by
  refine x_enter (by decide) (Nat.le_of_ble_eq_true rfl) ?_
  intro p e s m args below meth c Q S hr hlk hnm hQ hP ls hl
  obtain ⟨hz, hK, hT⟩ := hP
  obtain ⟨hx, hb, -, -, -⟩ := id S
  obtain ⟨H, hT, hS, hgo⟩ : ∃ H : Heap, TW E K F G H ∧ va_S (xA E) s.heap H [] ∧ H = s.heap := ⟨_, hT, va_S.rf, rfl⟩
  rw [← hgo]
  have hl : lv_has ls 4 [(0, .ref a), (1, .ref p0)] := hl
  obtain ⟨hk9999, hj9999⟩ := fkX0_1 hT ha
  refine lv_aload_n hx hb dX0_insert_0 rfl (lv_at hl 0 rfl) ?_
  refine gX0_2 S hK hT ha kf_X0_20 dX0_insert_1 (v := (G.1 a 2)) rfl (?_)
  refine lv_istore_n (lv' := [(2, .int (G.1 a 2)), (0, .ref a), (1, .ref p0)]) hx hb dX0_insert_4 rfl hl (by decide) rfl (fun ls hl => ?_)
  have L5 : ∀ (N5 : Nat) (l2_5 : Int32) (G_5 : XG) (H : Heap) (locs : List Loc) (ls : Array Slot), XFr [(a, 2)] [] [F a 1] G G_5 → shf (G.2.2.1 (F a 1)) (G_5.2.2.1 (F a 1)) (l2_5.toInt).toNat ((G.1 a 2).toInt).toNat → posR (fun j => rkO G (G.2.2.1 (F a 1) j)) ((G.1 p0 8).toInt) (l2_5.toInt).toNat = posR (fun j => rkO G (G.2.2.1 (F a 1) j)) ((G.1 p0 8).toInt) ((G.1 a 2).toInt).toNat → (∀ (i q : Nat), G_5.2.2.1 (F a 1) i = some q → ∃ j : Nat, G.2.2.1 (F a 1) j = some q) → 0 ≤ l2_5.toInt ∧ l2_5.toInt ≤ ((G.1 a 2).toInt) → ((G_5.1 a 2).toInt) = ((G.1 a 2).toInt) → l2_5.toInt + 1 < ((N5 : Nat) : Int) → TW E K F G_5 H → va_S (xA E) s.heap H locs → lv_has ls 4 [(0, .ref a), (1, .ref p0), (2, .int l2_5)] → W p l e rm_X0_insert s m args below meth c H locs 0 0 Q (F0 m 5 ls []) := by
    intro N5
    induction N5 with
    | zero =>
      intro l2_5 G_5 H locs ls hF_5 ps pp pf I5_0 I5_1 hm5
      exact absurd hm5 (z_X0_insert_1 l2_5.toInt ((G.1 a 2).toInt) I5_0)
    | succ N5 ih5 =>
      intro l2_5 G_5 H locs ls hF_5 ps pp pf I5_0 I5_1 hm5 hT hS hl
      refine lv_iload_n hx hb dX0_insert_5 rfl (lv_at hl 2 rfl) ?_
      refine xi_zle (tgt := 55) hx hb (rfl : Int32.toInt l2_5 = l2_5.toInt) dX0_insert_6 (by decide) (fun c6 => ?_) (fun c6 => ?_)
      · refine lv_iload_n hx hb dX0_insert_55 rfl (lv_at hl 2 rfl) ?_
        refine xi_zlt (tgt := 82) hx hb (rfl : Int32.toInt l2_5 = l2_5.toInt) dX0_insert_56 (by decide) (fun c56 => ?_) (fun c56 => ?_)
        · exact x_rv hx hb hr hlk hQ (Nat.le_of_ble_eq_true rfl) (Nat.le_of_ble_eq_true rfl) hS dX0_insert_82 G_5 ⟨(XFr.call XFr.rf hF_5 (xm1 0 rfl xm0) xm0 (xm1 0 rfl xm0)), (z_X0_insert_2 l2_5.toInt ((G.1 a 2).toInt) ((G_5.1 a 2).toInt) I5_0 c56), (v_X0_insert_82_1 (K := K) (F := F) a p0 G G_5 l2_5 N5 ha hp0 hf ps pp s0 I5_0 I5_1 hm5 c6 c56), (v_X0_insert_82_2 (K := K) (F := F) a p0 G G_5 l2_5 N5 ha hp0 ps pp pf s0 I5_0 I5_1 hm5 c6 c56)⟩ hT
        · refine lv_iload_n hx hb dX0_insert_59 rfl (lv_at hl 2 rfl) ?_
          refine lv_bipush (v := 12) hx hb dX0_insert_60 (by decide) ?_
          refine xi_cge (tgt := 82) hx hb (rfl : Int32.toInt l2_5 = l2_5.toInt) ((by decide) : Int32.toInt 12 = (12 : Int)) dX0_insert_62 (by decide) (fun c62 => ?_) (fun c62 => ?_)
          · exact x_rv hx hb hr hlk hQ (Nat.le_of_ble_eq_true rfl) (Nat.le_of_ble_eq_true rfl) hS dX0_insert_82 G_5 ⟨(XFr.call XFr.rf hF_5 (xm1 0 rfl xm0) xm0 (xm1 0 rfl xm0)), (z_X0_insert_3 l2_5.toInt ((G.1 a 2).toInt) ((G_5.1 a 2).toInt) c6 c62), (v_X0_insert_82_3 (K := K) (F := F) a p0 G G_5 l2_5 N5 ha hp0 hf ps pp s0 I5_0 I5_1 hm5 c6 c56 c62), (v_X0_insert_82_4 (K := K) (F := F) a p0 G G_5 l2_5 N5 ha hp0 ps pp pf s0 I5_0 I5_1 hm5 c6 c56 c62)⟩ hT
          · refine lv_aload_n hx hb dX0_insert_65 rfl (lv_at hl 0 rfl) ?_
            refine gX0_1 S hK hT ha kf_X0_17 dX0_insert_66 (fun _ _ => ?_)
            refine lv_iload_n hx hb dX0_insert_69 rfl (lv_at hl 2 rfl) ?_
            refine lv_aload_n hx hb dX0_insert_70 rfl (lv_at hl 1 rfl) ?_
            refine as_15r S hK hT hS hk9999 hp0 (z_X0_insert_4 l2_5.toInt ((G.1 a 2).toInt) I5_0 c6) dX0_insert_71 (fun H locs hT hS => ?_)
            obtain ⟨G71, hG71⟩ : ∃ GG : XG, GG = rput G_5 (F a 1) l2_5.toInt.toNat (some p0) := ⟨_, rfl⟩
            rw [← hG71] at hT
            refine lv_aload_n hx hb dX0_insert_72 rfl (lv_at hl 0 rfl) ?_
            refine lv_dup hx hb dX0_insert_73 rfl ?_
            refine gX0_2 S hK hT ha kf_X0_20 dX0_insert_74 (v := (G_5.1 a 2)) (lr_d hG71) (?_)
            refine lv_iconst (v := 1) hx hb dX0_insert_77 (by decide) ?_
            refine xi_iadd hx hb (rfl : Int32.toInt (G_5.1 a 2) = ((G_5.1 a 2).toInt)) ((by decide) : Int32.toInt 1 = (1 : Int)) dX0_insert_78 (fun x78 t78 => ?_)
            have e78 : x78.toInt = (((G_5.1 a 2).toInt) + (1 : Int)) := (z_X0_insert_5 x78.toInt ((G.1 a 2).toInt) ((G_5.1 a 2).toInt) s0 I5_1 t78)
            refine pX0_2 (v := x78) S hK hT hS ha kf_X0_20 dX0_insert_79 (fun H locs hT hS => ?_)
            obtain ⟨G79, hG79⟩ : ∃ GG : XG, GG = dput G71 a 2 x78 := ⟨_, rfl⟩
            rw [← hG79] at hT
            exact x_rv hx hb hr hlk hQ (Nat.le_of_ble_eq_true rfl) (Nat.le_of_ble_eq_true rfl) hS dX0_insert_82 G79 ⟨(by rw [hG79]; exact XFr.dput (by rw [hG71]; exact XFr.rput (XFr.call XFr.rf hF_5 (xm1 0 rfl xm0) xm0 (xm1 0 rfl xm0)) (List.mem_of_getElem? (i := 0) rfl)) (List.mem_of_getElem? (i := 0) rfl)), (by rw [(show (G79.1 a 2).toInt = (((G_5.1 a 2).toInt) + (1 : Int)) from (congrArg Int32.toInt (ld_at hG79)).trans (e78 : Int32.toInt x78 = (((G_5.1 a 2).toInt) + (1 : Int))))] <;> exact (z_X0_insert_6 ((G.1 a 2).toInt) ((G_5.1 a 2).toInt) I5_1)), (v_X0_insert_82_5 (K := K) (F := F) a p0 G G_5 G71 l2_5 G79 N5 ha hp0 hG71 hf ps pp s0 I5_0 I5_1 hm5 c6 c56 c62 (ld_r hG79)), (v_X0_insert_82_6 (K := K) (F := F) a p0 G G_5 G71 l2_5 G79 N5 ha hp0 hG71 ps pp pf s0 I5_0 I5_1 hm5 c6 c56 c62 (ld_r hG79))⟩ hT
      · refine lv_iload_n hx hb dX0_insert_9 rfl (lv_at hl 2 rfl) ?_
        refine lv_bipush (v := 12) hx hb dX0_insert_10 (by decide) ?_
        refine xi_cge (tgt := 55) hx hb (rfl : Int32.toInt l2_5 = l2_5.toInt) ((by decide) : Int32.toInt 12 = (12 : Int)) dX0_insert_12 (by decide) (fun c12 => ?_) (fun c12 => ?_)
        · refine lv_iload_n hx hb dX0_insert_55 rfl (lv_at hl 2 rfl) ?_
          refine xi_zlt (tgt := 82) hx hb (rfl : Int32.toInt l2_5 = l2_5.toInt) dX0_insert_56 (by decide) (fun c56 => ?_) (fun c56 => ?_)
          · exact x_rv hx hb hr hlk hQ (Nat.le_of_ble_eq_true rfl) (Nat.le_of_ble_eq_true rfl) hS dX0_insert_82 G_5 ⟨(XFr.call XFr.rf hF_5 (xm1 0 rfl xm0) xm0 (xm1 0 rfl xm0)), (z_X0_insert_7 l2_5.toInt ((G.1 a 2).toInt) ((G_5.1 a 2).toInt) c12 c56), (v_X0_insert_82_7 (K := K) (F := F) a p0 G G_5 l2_5 N5 ha hp0 hf ps pp s0 I5_0 I5_1 hm5 c6 c12 c56), (v_X0_insert_82_8 (K := K) (F := F) a p0 G G_5 l2_5 N5 ha hp0 ps pp pf s0 I5_0 I5_1 hm5 c6 c12 c56)⟩ hT
          · refine lv_iload_n hx hb dX0_insert_59 rfl (lv_at hl 2 rfl) ?_
            refine lv_bipush (v := 12) hx hb dX0_insert_60 (by decide) ?_
            refine xi_cge (tgt := 82) hx hb (rfl : Int32.toInt l2_5 = l2_5.toInt) ((by decide) : Int32.toInt 12 = (12 : Int)) dX0_insert_62 (by decide) (fun c62 => ?_) (fun c62 => ?_)
            · exact x_rv hx hb hr hlk hQ (Nat.le_of_ble_eq_true rfl) (Nat.le_of_ble_eq_true rfl) hS dX0_insert_82 G_5 ⟨(XFr.call XFr.rf hF_5 (xm1 0 rfl xm0) xm0 (xm1 0 rfl xm0)), (z_X0_insert_8 l2_5.toInt ((G.1 a 2).toInt) ((G_5.1 a 2).toInt) s0 I5_0 c12), (v_X0_insert_82_9 (K := K) (F := F) a p0 G G_5 l2_5 N5 ha hp0 hf ps pp s0 I5_0 I5_1 hm5 c6 c12 c56), (v_X0_insert_82_10 (K := K) (F := F) a p0 G G_5 l2_5 N5 ha hp0 ps pp pf s0 I5_0 I5_1 hm5 c6 c12 c56)⟩ hT
            · refine lv_aload_n hx hb dX0_insert_65 rfl (lv_at hl 0 rfl) ?_
              refine gX0_1 S hK hT ha kf_X0_17 dX0_insert_66 (fun _ _ => ?_)
              refine lv_iload_n hx hb dX0_insert_69 rfl (lv_at hl 2 rfl) ?_
              refine lv_aload_n hx hb dX0_insert_70 rfl (lv_at hl 1 rfl) ?_
              refine as_15r S hK hT hS hk9999 hp0 (z_X0_insert_9 l2_5.toInt c12 c62) dX0_insert_71 (fun H locs hT hS => ?_)
              obtain ⟨G71, hG71⟩ : ∃ GG : XG, GG = rput G_5 (F a 1) l2_5.toInt.toNat (some p0) := ⟨_, rfl⟩
              rw [← hG71] at hT
              refine lv_aload_n hx hb dX0_insert_72 rfl (lv_at hl 0 rfl) ?_
              refine lv_dup hx hb dX0_insert_73 rfl ?_
              refine gX0_2 S hK hT ha kf_X0_20 dX0_insert_74 (v := (G_5.1 a 2)) (lr_d hG71) (?_)
              refine lv_iconst (v := 1) hx hb dX0_insert_77 (by decide) ?_
              refine xi_iadd hx hb (rfl : Int32.toInt (G_5.1 a 2) = ((G_5.1 a 2).toInt)) ((by decide) : Int32.toInt 1 = (1 : Int)) dX0_insert_78 (fun x78 t78 => ?_)
              have e78 : x78.toInt = (((G_5.1 a 2).toInt) + (1 : Int)) := (z_X0_insert_10 l2_5.toInt x78.toInt ((G_5.1 a 2).toInt) c12 c62)
              refine pX0_2 (v := x78) S hK hT hS ha kf_X0_20 dX0_insert_79 (fun H locs hT hS => ?_)
              obtain ⟨G79, hG79⟩ : ∃ GG : XG, GG = dput G71 a 2 x78 := ⟨_, rfl⟩
              rw [← hG79] at hT
              exact x_rv hx hb hr hlk hQ (Nat.le_of_ble_eq_true rfl) (Nat.le_of_ble_eq_true rfl) hS dX0_insert_82 G79 ⟨(by rw [hG79]; exact XFr.dput (by rw [hG71]; exact XFr.rput (XFr.call XFr.rf hF_5 (xm1 0 rfl xm0) xm0 (xm1 0 rfl xm0)) (List.mem_of_getElem? (i := 0) rfl)) (List.mem_of_getElem? (i := 0) rfl)), (by rw [(show (G79.1 a 2).toInt = (((G_5.1 a 2).toInt) + (1 : Int)) from (congrArg Int32.toInt (ld_at hG79)).trans (e78 : Int32.toInt x78 = (((G_5.1 a 2).toInt) + (1 : Int))))] <;> exact (z_X0_insert_11 l2_5.toInt ((G.1 a 2).toInt) ((G_5.1 a 2).toInt) c12 c62)), (v_X0_insert_82_11 (K := K) (F := F) a p0 G G_5 G71 l2_5 G79 N5 ha hp0 hG71 hf ps pp s0 I5_0 I5_1 hm5 c6 c12 c56 c62 (ld_r hG79)), (v_X0_insert_82_12 (K := K) (F := F) a p0 G G_5 G71 l2_5 G79 N5 ha hp0 hG71 ps pp pf s0 I5_0 I5_1 hm5 c6 c12 c56 c62 (ld_r hG79))⟩ hT
        · refine lv_aload_n hx hb dX0_insert_15 rfl (lv_at hl 0 rfl) ?_
          refine gX0_1 S hK hT ha kf_X0_17 dX0_insert_16 (fun _ _ => ?_)
          refine lv_iload_n hx hb dX0_insert_19 rfl (lv_at hl 2 rfl) ?_
          refine lv_iconst (v := 1) hx hb dX0_insert_20 (by decide) ?_
          refine xi_isub hx hb (rfl : Int32.toInt l2_5 = l2_5.toInt) ((by decide) : Int32.toInt 1 = (1 : Int)) dX0_insert_21 (fun x21 t21 => ?_)
          have e21 : x21.toInt = (l2_5.toInt - (1 : Int)) := (z_X0_insert_12 l2_5.toInt x21.toInt c6 c12 t21)
          refine al_15 S hK hT hk9999 (by rw [(e21 : Int32.toInt x21 = (l2_5.toInt - (1 : Int)))]; exact (z_X0_insert_13 l2_5.toInt c6 c12)) dX0_insert_22 (fun hR22 => ?_) (fun q22 hR22 hk22 => ?_)
          · have hR22 : G_5.2.2.1 (F a 1) ((l2_5.toInt - (1 : Int))).toNat = none := by rw [← (e21 : Int32.toInt x21 = (l2_5.toInt - (1 : Int)))]; exact hR22
            refine lv_astore_nN (lv' := [(3, .null), (0, .ref a), (1, .ref p0), (2, .int l2_5)]) hx hb dX0_insert_23 rfl hl (by decide) rfl (fun ls hl => ?_)
            refine lv_aload_nN hx hb dX0_insert_24 rfl (lv_at hl 0 rfl) ?_
            refine lv_ifnullN (tgt := 55) hx hb dX0_insert_25 (by decide) ?_
            refine lv_iload_n hx hb dX0_insert_55 rfl (lv_at hl 3 rfl) ?_
            refine xi_zlt (tgt := 82) hx hb (rfl : Int32.toInt l2_5 = l2_5.toInt) dX0_insert_56 (by decide) (fun c56 => ?_) (fun c56 => ?_)
            · exact x_rv hx hb hr hlk hQ (Nat.le_of_ble_eq_true rfl) (Nat.le_of_ble_eq_true rfl) hS dX0_insert_82 G_5 ⟨(XFr.call XFr.rf hF_5 (xm1 0 rfl xm0) xm0 (xm1 0 rfl xm0)), (z_X0_insert_14 l2_5.toInt ((G.1 a 2).toInt) ((G_5.1 a 2).toInt) c6 c56), (v_X0_insert_82_13 (K := K) (F := F) a p0 G G_5 l2_5 N5 ha hp0 hf ps pp hR22 s0 I5_0 I5_1 hm5 c6 c12 c56), (v_X0_insert_82_14 (K := K) (F := F) a p0 G G_5 l2_5 N5 ha hp0 ps pp pf hR22 s0 I5_0 I5_1 hm5 c6 c12 c56)⟩ hT
            · refine lv_iload_n hx hb dX0_insert_59 rfl (lv_at hl 3 rfl) ?_
              refine lv_bipush (v := 12) hx hb dX0_insert_60 (by decide) ?_
              refine xi_cge (tgt := 82) hx hb (rfl : Int32.toInt l2_5 = l2_5.toInt) ((by decide) : Int32.toInt 12 = (12 : Int)) dX0_insert_62 (by decide) (fun c62 => ?_) (fun c62 => ?_)
              · exact x_rv hx hb hr hlk hQ (Nat.le_of_ble_eq_true rfl) (Nat.le_of_ble_eq_true rfl) hS dX0_insert_82 G_5 ⟨(XFr.call XFr.rf hF_5 (xm1 0 rfl xm0) xm0 (xm1 0 rfl xm0)), (z_X0_insert_15 l2_5.toInt ((G.1 a 2).toInt) ((G_5.1 a 2).toInt) c12 c62), (v_X0_insert_82_15 (K := K) (F := F) a p0 G G_5 l2_5 N5 ha hp0 hf ps pp hR22 s0 I5_0 I5_1 hm5 c6 c12 c56 c62), (v_X0_insert_82_16 (K := K) (F := F) a p0 G G_5 l2_5 N5 ha hp0 ps pp pf hR22 s0 I5_0 I5_1 hm5 c6 c12 c56 c62)⟩ hT
              · refine lv_aload_n hx hb dX0_insert_65 rfl (lv_at hl 1 rfl) ?_
                refine gX0_1 S hK hT ha kf_X0_17 dX0_insert_66 (fun _ _ => ?_)
                refine lv_iload_n hx hb dX0_insert_69 rfl (lv_at hl 3 rfl) ?_
                refine lv_aload_n hx hb dX0_insert_70 rfl (lv_at hl 2 rfl) ?_
                refine as_15r S hK hT hS hk9999 hp0 (z_X0_insert_16 l2_5.toInt c6 c12) dX0_insert_71 (fun H locs hT hS => ?_)
                obtain ⟨G71, hG71⟩ : ∃ GG : XG, GG = rput G_5 (F a 1) l2_5.toInt.toNat (some p0) := ⟨_, rfl⟩
                rw [← hG71] at hT
                refine lv_aload_n hx hb dX0_insert_72 rfl (lv_at hl 1 rfl) ?_
                refine lv_dup hx hb dX0_insert_73 rfl ?_
                refine gX0_2 S hK hT ha kf_X0_20 dX0_insert_74 (v := (G_5.1 a 2)) (lr_d hG71) (?_)
                refine lv_iconst (v := 1) hx hb dX0_insert_77 (by decide) ?_
                refine xi_iadd hx hb (rfl : Int32.toInt (G_5.1 a 2) = ((G_5.1 a 2).toInt)) ((by decide) : Int32.toInt 1 = (1 : Int)) dX0_insert_78 (fun x78 t78 => ?_)
                have e78 : x78.toInt = (((G_5.1 a 2).toInt) + (1 : Int)) := (z_X0_insert_5 x78.toInt ((G.1 a 2).toInt) ((G_5.1 a 2).toInt) s0 I5_1 t78)
                refine pX0_2 (v := x78) S hK hT hS ha kf_X0_20 dX0_insert_79 (fun H locs hT hS => ?_)
                obtain ⟨G79, hG79⟩ : ∃ GG : XG, GG = dput G71 a 2 x78 := ⟨_, rfl⟩
                rw [← hG79] at hT
                exact x_rv hx hb hr hlk hQ (Nat.le_of_ble_eq_true rfl) (Nat.le_of_ble_eq_true rfl) hS dX0_insert_82 G79 ⟨(by rw [hG79]; exact XFr.dput (by rw [hG71]; exact XFr.rput (XFr.call XFr.rf hF_5 (xm1 0 rfl xm0) xm0 (xm1 0 rfl xm0)) (List.mem_of_getElem? (i := 0) rfl)) (List.mem_of_getElem? (i := 0) rfl)), (by rw [(show (G79.1 a 2).toInt = (((G_5.1 a 2).toInt) + (1 : Int)) from (congrArg Int32.toInt (ld_at hG79)).trans (e78 : Int32.toInt x78 = (((G_5.1 a 2).toInt) + (1 : Int))))] <;> exact (z_X0_insert_6 ((G.1 a 2).toInt) ((G_5.1 a 2).toInt) I5_1)), (v_X0_insert_82_17 (K := K) (F := F) a p0 G G_5 G71 l2_5 G79 N5 ha hp0 hG71 hf ps pp hR22 s0 I5_0 I5_1 hm5 c6 c12 c56 (ld_r hG79)), (v_X0_insert_82_18 (K := K) (F := F) a p0 G G_5 G71 l2_5 G79 N5 ha hp0 hG71 ps pp pf hR22 s0 I5_0 I5_1 hm5 c6 c12 c56 (ld_r hG79))⟩ hT
          · have hR22 : G_5.2.2.1 (F a 1) ((l2_5.toInt - (1 : Int))).toNat = some q22 := by rw [← (e21 : Int32.toInt x21 = (l2_5.toInt - (1 : Int)))]; exact hR22
            refine lv_astore_n (lv' := [(3, .ref q22), (0, .ref a), (1, .ref p0), (2, .int l2_5)]) hx hb dX0_insert_23 rfl hl (by decide) rfl (fun ls hl => ?_)
            refine lv_aload_n hx hb dX0_insert_24 rfl (lv_at hl 0 rfl) ?_
            refine lv_ifnull hx hb dX0_insert_25 ?_
            refine lv_aload_n hx hb dX0_insert_28 rfl (lv_at hl 0 rfl) ?_
            refine gX7_8 S hK hT hk22 kf_X0_38 dX0_insert_29 (v := (G.1 q22 8)) (hF_5.1 _ _ (xnj (by decide) xn0)) (?_)
            refine lv_aload_n hx hb dX0_insert_32 rfl (lv_at hl 2 rfl) ?_
            refine gX7_8 S hK hT hp0 kf_X0_38 dX0_insert_33 (v := (G.1 p0 8)) (hF_5.1 _ _ (xnj (by decide) xn0)) (?_)
            refine xi_cgt (tgt := 42) hx hb (rfl : Int32.toInt (G.1 q22 8) = ((G.1 q22 8).toInt)) (rfl : Int32.toInt (G.1 p0 8) = ((G.1 p0 8).toInt)) dX0_insert_36 (by decide) (fun c36 => ?_) (fun c36 => ?_)
            · refine lv_aload_n hx hb dX0_insert_42 rfl (lv_at hl 1 rfl) ?_
              refine gX0_1 S hK hT ha kf_X0_17 dX0_insert_43 (fun _ _ => ?_)
              refine lv_iload_n hx hb dX0_insert_46 rfl (lv_at hl 3 rfl) ?_
              refine lv_aload_n hx hb dX0_insert_47 rfl (lv_at hl 0 rfl) ?_
              refine as_15r S hK hT hS hk9999 hk22 (z_X0_insert_16 l2_5.toInt c6 c12) dX0_insert_48 (fun H locs hT hS => ?_)
              obtain ⟨G48, hG48⟩ : ∃ GG : XG, GG = rput G_5 (F a 1) l2_5.toInt.toNat (some q22) := ⟨_, rfl⟩
              rw [← hG48] at hT
              refine xi_iinc (n := (-1)) (lv' := fun z9 => [(2, .int z9), (3, .ref q22), (0, .ref a), (1, .ref p0)]) (k := 3) hx hb (rfl : Int32.toInt l2_5 = l2_5.toInt) (by decide) dX0_insert_49 hl rfl (by decide) (fun _ => rfl) (fun x49 ls t49 hl => ?_)
              have e49 : x49.toInt = (l2_5.toInt + (-1)) := (z_X0_insert_20 l2_5.toInt x49.toInt c6 c12 t49)
              have hl : lv_has ls 4 [(2, .int x49), (3, .ref q22), (0, .ref a), (1, .ref p0)] := hl
              refine lv_goto (tgt := 5) hx hb dX0_insert_52 (by decide) ?_
              exact ih5 x49 G48 _ _ _ (by rw [hG48]; exact XFr.rput (XFr.call XFr.rf hF_5 (xm1 0 rfl xm0) xm0 (xm1 0 rfl xm0)) (List.mem_of_getElem? (i := 0) rfl)) (by rw [(e49 : Int32.toInt x49 = (l2_5.toInt + (-1)))] <;> exact (v_X0_insert_52_19 (K := K) (F := F) a p0 q22 G G_5 G48 l2_5 N5 ha hp0 hG48 ps pp hR22 s0 I5_0 I5_1 hm5 c6 c12 c36)) (by rw [(e49 : Int32.toInt x49 = (l2_5.toInt + (-1)))] <;> exact (v_X0_insert_52_20 (K := K) (F := F) a p0 q22 G G_5 l2_5 N5 ha hp0 ps pp hR22 s0 I5_0 I5_1 hm5 c6 c12 c36)) (v_X0_insert_52_21 (F := F) a q22 G G_5 G48 l2_5 hG48 pf hR22) (by rw [(e49 : Int32.toInt x49 = (l2_5.toInt + (-1)))] <;> exact (z_X0_insert_21 l2_5.toInt ((G.1 a 2).toInt) I5_0 c6)) (by rw [(show (G48.1 a 2).toInt = ((G_5.1 a 2).toInt) from (congrArg Int32.toInt (lr_d hG48)).trans (rfl : Int32.toInt (G_5.1 a 2) = ((G_5.1 a 2).toInt)))] <;> exact (I5_1)) (by rw [(e49 : Int32.toInt x49 = (l2_5.toInt + (-1)))] <;> exact (z_X0_insert_23 l2_5.toInt N5 hm5)) hT hS (lv_sub hl [2, 3, 0] rfl)
            · refine lv_goto (tgt := 55) hx hb dX0_insert_39 (by decide) ?_
              refine lv_iload_n hx hb dX0_insert_55 rfl (lv_at hl 3 rfl) ?_
              refine xi_zlt (tgt := 82) hx hb (rfl : Int32.toInt l2_5 = l2_5.toInt) dX0_insert_56 (by decide) (fun c56 => ?_) (fun c56 => ?_)
              · exact x_rv hx hb hr hlk hQ (Nat.le_of_ble_eq_true rfl) (Nat.le_of_ble_eq_true rfl) hS dX0_insert_82 G_5 ⟨(XFr.call XFr.rf hF_5 (xm1 0 rfl xm0) xm0 (xm1 0 rfl xm0)), (z_X0_insert_14 l2_5.toInt ((G.1 a 2).toInt) ((G_5.1 a 2).toInt) c6 c56), (v_X0_insert_82_22 (K := K) (F := F) a p0 q22 G G_5 l2_5 N5 ha hp0 hf ps pp hR22 s0 I5_0 I5_1 hm5 c6 c12 c36 c56), (v_X0_insert_82_23 (K := K) (F := F) a p0 q22 G G_5 l2_5 N5 ha hp0 ps pp pf hR22 s0 I5_0 I5_1 hm5 c6 c12 c36 c56)⟩ hT
              · refine lv_iload_n hx hb dX0_insert_59 rfl (lv_at hl 3 rfl) ?_
                refine lv_bipush (v := 12) hx hb dX0_insert_60 (by decide) ?_
                refine xi_cge (tgt := 82) hx hb (rfl : Int32.toInt l2_5 = l2_5.toInt) ((by decide) : Int32.toInt 12 = (12 : Int)) dX0_insert_62 (by decide) (fun c62 => ?_) (fun c62 => ?_)
                · exact x_rv hx hb hr hlk hQ (Nat.le_of_ble_eq_true rfl) (Nat.le_of_ble_eq_true rfl) hS dX0_insert_82 G_5 ⟨(XFr.call XFr.rf hF_5 (xm1 0 rfl xm0) xm0 (xm1 0 rfl xm0)), (z_X0_insert_15 l2_5.toInt ((G.1 a 2).toInt) ((G_5.1 a 2).toInt) c12 c62), (v_X0_insert_82_24 (K := K) (F := F) a p0 q22 G G_5 l2_5 N5 ha hp0 hf ps pp hR22 s0 I5_0 I5_1 hm5 c6 c12 c36 c56 c62), (v_X0_insert_82_25 (K := K) (F := F) a p0 q22 G G_5 l2_5 N5 ha hp0 ps pp pf hR22 s0 I5_0 I5_1 hm5 c6 c12 c36 c56 c62)⟩ hT
                · refine lv_aload_n hx hb dX0_insert_65 rfl (lv_at hl 1 rfl) ?_
                  refine gX0_1 S hK hT ha kf_X0_17 dX0_insert_66 (fun _ _ => ?_)
                  refine lv_iload_n hx hb dX0_insert_69 rfl (lv_at hl 3 rfl) ?_
                  refine lv_aload_n hx hb dX0_insert_70 rfl (lv_at hl 2 rfl) ?_
                  refine as_15r S hK hT hS hk9999 hp0 (z_X0_insert_16 l2_5.toInt c6 c12) dX0_insert_71 (fun H locs hT hS => ?_)
                  obtain ⟨G71, hG71⟩ : ∃ GG : XG, GG = rput G_5 (F a 1) l2_5.toInt.toNat (some p0) := ⟨_, rfl⟩
                  rw [← hG71] at hT
                  refine lv_aload_n hx hb dX0_insert_72 rfl (lv_at hl 1 rfl) ?_
                  refine lv_dup hx hb dX0_insert_73 rfl ?_
                  refine gX0_2 S hK hT ha kf_X0_20 dX0_insert_74 (v := (G_5.1 a 2)) (lr_d hG71) (?_)
                  refine lv_iconst (v := 1) hx hb dX0_insert_77 (by decide) ?_
                  refine xi_iadd hx hb (rfl : Int32.toInt (G_5.1 a 2) = ((G_5.1 a 2).toInt)) ((by decide) : Int32.toInt 1 = (1 : Int)) dX0_insert_78 (fun x78 t78 => ?_)
                  have e78 : x78.toInt = (((G_5.1 a 2).toInt) + (1 : Int)) := (z_X0_insert_5 x78.toInt ((G.1 a 2).toInt) ((G_5.1 a 2).toInt) s0 I5_1 t78)
                  refine pX0_2 (v := x78) S hK hT hS ha kf_X0_20 dX0_insert_79 (fun H locs hT hS => ?_)
                  obtain ⟨G79, hG79⟩ : ∃ GG : XG, GG = dput G71 a 2 x78 := ⟨_, rfl⟩
                  rw [← hG79] at hT
                  exact x_rv hx hb hr hlk hQ (Nat.le_of_ble_eq_true rfl) (Nat.le_of_ble_eq_true rfl) hS dX0_insert_82 G79 ⟨(by rw [hG79]; exact XFr.dput (by rw [hG71]; exact XFr.rput (XFr.call XFr.rf hF_5 (xm1 0 rfl xm0) xm0 (xm1 0 rfl xm0)) (List.mem_of_getElem? (i := 0) rfl)) (List.mem_of_getElem? (i := 0) rfl)), (by rw [(show (G79.1 a 2).toInt = (((G_5.1 a 2).toInt) + (1 : Int)) from (congrArg Int32.toInt (ld_at hG79)).trans (e78 : Int32.toInt x78 = (((G_5.1 a 2).toInt) + (1 : Int))))] <;> exact (z_X0_insert_6 ((G.1 a 2).toInt) ((G_5.1 a 2).toInt) I5_1)), (v_X0_insert_82_26 (K := K) (F := F) a p0 q22 G G_5 G71 l2_5 G79 N5 ha hp0 hG71 hf ps pp hR22 s0 I5_0 I5_1 hm5 c6 c12 c36 c56 (ld_r hG79)), (v_X0_insert_82_27 (K := K) (F := F) a p0 q22 G G_5 G71 l2_5 G79 N5 ha hp0 hG71 ps pp pf hR22 s0 I5_0 I5_1 hm5 c6 c12 c36 c56 (ld_r hG79))⟩ hT
  exact L5 4294967297 (G.1 a 2) G _ _ _ XFr.rf (v_X0_insert_4_28 (F := F) a G) (v_X0_insert_4_29 (F := F) a p0 G) (v_X0_insert_4_30 (F := F) a G) (z_X0_insert_29 ((G.1 a 2).toInt) s0) (z_X0_size_1 ((G.1 a 2).toInt)) (z_X0_insert_31 ((G.1 a 2).toInt) s0) hT hS (lv_sub hl [1, 2, 0] rfl)

theorem z_X0_arrange_5 (a0 : Int) (a1 : Int) (h0 : 0 ≤ a1 ∧ a1 ≤ a0) : 0 ≤ a1 ∧ a1 ≤ (a0 + 1) := by omega
theorem z_X0_arrange_8 (a0 : Int) (a1 : Int) (h0 : 0 ≤ a1 ∧ a1 ≤ a0) (h1 : ¬ ((12 : Int) ≤ a0)) : 0 ≤ a1 ∧ a1 ≤ 11 := by omega
theorem z_X0_arrange_11 (a0 : Int) (a1 : Int) (a2 : Int) (h0 : 0 ≤ a2 ∧ a2 ≤ a0) (h1 : a1 = a2 + 1) : 0 ≤ a1 ∧ a1 ≤ (a0 + 1) := by omega
abbrev rm_X0_arrange : Room := { frames := 1, cells := 0, slots := 0, locals := 23 }
set_option maxHeartbeats 4000000 in
set_option maxRecDepth 100000 in
theorem c_X0_arrange (l : Launch) (E : XE) (K : Nat → Nat) (F : Nat → Nat → Nat) (G : XG) (a : Nat) (ha : K a = 2) : Met l yX0_arrange (xw yX0_arrange cX0_arrange 3 none) rm_X0_arrange (va_Pc [.ref a] (XP E K F G)) (XQv E (fun (u : XG) => XFr [(a, 2)] [] [F a 1] G u ∧ (ORn (G.2.2.1 (F a 0)) (u.2.2.1 (F a 1)) ((u.1 a 2).toInt) (fun i => rkO G (G.2.2.1 (F a 0) i)) 12) ∧ (∀ (i q : Nat), u.2.2.1 (F a 1) i = some q → (∃ j : Nat, G.2.2.1 (F a 1) j = some q) ∨ ∃ j : Nat, G.2.2.1 (F a 0) j = some q)) (fun u H => TW E K F u H)) 0 0 (xA E) := by
  refine x_enter (by decide) (Nat.le_of_ble_eq_true rfl) ?_
  intro p e s m args below meth c Q S hr hlk hnm hQ hP ls hl
  obtain ⟨hz, hK, hT⟩ := hP
  obtain ⟨hx, hb, -, -, -⟩ := id S
  obtain ⟨H, hT, hS, hgo⟩ : ∃ H : Heap, TW E K F G H ∧ va_S (xA E) s.heap H [] ∧ H = s.heap := ⟨_, hT, va_S.rf, rfl⟩
  rw [← hgo]
  have hl : lv_has ls 3 [(0, .ref a)] := hl
  obtain ⟨hk9999, hj9999⟩ := fkX0_1 hT ha
  obtain ⟨hk9999a, hj9999a⟩ := fkX0_0 hT ha
  refine lv_aload_n hx hb dX0_arrange_0 rfl (lv_at hl 0 rfl) ?_
  refine lv_iconst (v := 0) hx hb dX0_arrange_1 (by decide) ?_
  refine pX0_2 (v := 0) S hK hT hS ha kf_X0_20 dX0_arrange_2 (fun H locs hT hS => ?_)
  obtain ⟨G2, hG2⟩ : ∃ GG : XG, GG = dput G a 2 0 := ⟨_, rfl⟩
  rw [← hG2] at hT
  refine lv_iconst (v := 0) hx hb dX0_arrange_5 (by decide) ?_
  refine lv_istore_n (lv' := [(1, .int 0), (0, .ref a)]) hx hb dX0_arrange_6 rfl hl (by decide) rfl (fun ls hl => ?_)
  have L7 : ∀ (N7 : Nat) (l1_7 : Int32) (G_7 : XG) (H : Heap) (locs : List Loc) (ls : Array Slot), XFr [(a, 2)] [] [F a 1] G2 G_7 → ORn (G.2.2.1 (F a 0)) (G_7.2.2.1 (F a 1)) ((G_7.1 a 2).toInt) (fun i => rkO G (G.2.2.1 (F a 0) i)) (l1_7.toInt).toNat → (∀ (i q : Nat), G_7.2.2.1 (F a 1) i = some q → (∃ j : Nat, G.2.2.1 (F a 1) j = some q) ∨ ∃ j : Nat, G.2.2.1 (F a 0) j = some q) → 0 ≤ l1_7.toInt ∧ l1_7.toInt ≤ 12 → 0 ≤ ((G_7.1 a 2).toInt) ∧ ((G_7.1 a 2).toInt) ≤ l1_7.toInt → (0 : Int) ≤ l1_7.toInt → 2147483648 - l1_7.toInt < ((N7 : Nat) : Int) → TW E K F G_7 H → va_S (xA E) s.heap H locs → lv_has ls 3 [(0, .ref a), (1, .int l1_7)] → W p l e rm_X0_arrange s m args below meth c H locs 0 0 Q (F0 m 7 ls []) := by
    intro N7
    induction N7 with
    | zero =>
      intro l1_7 G_7 H locs ls hF_7 po pf I7_0 I7_1 I7_2 hm7
      exact absurd hm7 (z_X0_leastFree_1 l1_7.toInt I7_0)
    | succ N7 ih7 =>
      intro l1_7 G_7 H locs ls hF_7 po pf I7_0 I7_1 I7_2 hm7 hT hS hl
      refine lv_iload_n hx hb dX0_arrange_7 rfl (lv_at hl 1 rfl) ?_
      refine lv_bipush (v := 12) hx hb dX0_arrange_8 (by decide) ?_
      refine xi_cge (tgt := 35) hx hb (rfl : Int32.toInt l1_7 = l1_7.toInt) ((by decide) : Int32.toInt 12 = (12 : Int)) dX0_arrange_10 (by decide) (fun c10 => ?_) (fun c10 => ?_)
      · exact x_rv hx hb hr hlk hQ (Nat.le_of_ble_eq_true rfl) (Nat.le_of_ble_eq_true rfl) hS dX0_arrange_35 G_7 ⟨(XFr.call (by rw [hG2]; exact XFr.dput XFr.rf (List.mem_of_getElem? (i := 0) rfl)) hF_7 (xm1 0 rfl xm0) xm0 (xm1 0 rfl xm0)), (v_X0_arrange_35_1 (K := K) (F := F) a G G_7 l1_7 N7 ha po I7_0 I7_1 I7_2 hm7 c10), (v_X0_arrange_35_2 (F := F) a G G_7 pf)⟩ hT
      · refine lv_aload_n hx hb dX0_arrange_13 rfl (lv_at hl 0 rfl) ?_
        refine gX0_0 S hK hT ha kf_X0_11 dX0_arrange_14 (fun _ _ => ?_)
        refine lv_iload_n hx hb dX0_arrange_17 rfl (lv_at hl 1 rfl) ?_
        refine al_15 S hK hT hk9999a (z_X0_leastFree_2 l1_7.toInt I7_0 c10) dX0_arrange_18 (fun hR18 => ?_) (fun q18 hR18 hk18 => ?_)
        · have hR18 : G.2.2.1 (F a 0) (l1_7.toInt).toNat = none := by rw [← (rfl : Int32.toInt l1_7 = l1_7.toInt), ← (((hF_7.2.2 _ (xn1 (xne_j hj9999a hj9999 (by first | decide | omega)) xn0)).trans (ld_r hG2)) : G_7.2.2.1 (F a 0) = G.2.2.1 (F a 0))]; exact hR18
          refine lv_astore_nN (lv' := [(2, .null), (0, .ref a), (1, .int l1_7)]) hx hb dX0_arrange_19 rfl hl (by decide) rfl (fun ls hl => ?_)
          refine lv_aload_nN hx hb dX0_arrange_20 rfl (lv_at hl 0 rfl) ?_
          refine lv_ifnullN (tgt := 29) hx hb dX0_arrange_21 (by decide) ?_
          refine xi_iinc (n := 1) (lv' := fun z9 => [(1, .int z9), (2, .null), (0, .ref a)]) (k := 2) hx hb (rfl : Int32.toInt l1_7 = l1_7.toInt) (by decide) dX0_arrange_29 hl rfl (by decide) (fun _ => rfl) (fun x29 ls t29 hl => ?_)
          have e29 : x29.toInt = (l1_7.toInt + 1) := (z_X0_leastFree_4 l1_7.toInt x29.toInt I7_0 t29)
          have hl : lv_has ls 3 [(1, .int x29), (2, .null), (0, .ref a)] := hl
          refine lv_goto (tgt := 7) hx hb dX0_arrange_32 (by decide) ?_
          exact ih7 x29 G_7 _ _ _ (XFr.call XFr.rf hF_7 (xm1 0 rfl xm0) xm0 (xm1 0 rfl xm0)) (by rw [(e29 : Int32.toInt x29 = (l1_7.toInt + 1))] <;> exact (v_X0_arrange_32_3 (K := K) (F := F) a G2 G G_7 l1_7 N7 ha hG2 hF_7 po hR18 I7_0 I7_1 I7_2 hm7 c10)) (v_X0_arrange_32_4 (F := F) a G G_7 l1_7 pf hR18) (by rw [(e29 : Int32.toInt x29 = (l1_7.toInt + 1))] <;> exact (z_X0_leastFree_5 l1_7.toInt I7_0 c10)) (by rw [(e29 : Int32.toInt x29 = (l1_7.toInt + 1))] <;> exact (z_X0_arrange_5 l1_7.toInt ((G_7.1 a 2).toInt) I7_1)) (by rw [(e29 : Int32.toInt x29 = (l1_7.toInt + 1))] <;> exact (z_X0_leastFree_6 l1_7.toInt I7_0)) (by rw [(e29 : Int32.toInt x29 = (l1_7.toInt + 1))] <;> exact (z_X0_leastFree_7 l1_7.toInt N7 hm7)) hT hS (lv_sub hl [2, 0] rfl)
        · have hR18 : G.2.2.1 (F a 0) (l1_7.toInt).toNat = some q18 := by rw [← (rfl : Int32.toInt l1_7 = l1_7.toInt), ← (((hF_7.2.2 _ (xn1 (xne_j hj9999a hj9999 (by first | decide | omega)) xn0)).trans (ld_r hG2)) : G_7.2.2.1 (F a 0) = G.2.2.1 (F a 0))]; exact hR18
          refine lv_astore_n (lv' := [(2, .ref q18), (0, .ref a), (1, .int l1_7)]) hx hb dX0_arrange_19 rfl hl (by decide) rfl (fun ls hl => ?_)
          refine lv_aload_n hx hb dX0_arrange_20 rfl (lv_at hl 0 rfl) ?_
          refine lv_ifnull hx hb dX0_arrange_21 ?_
          refine lv_aload_n hx hb dX0_arrange_24 rfl (lv_at hl 1 rfl) ?_
          refine lv_aload_n hx hb dX0_arrange_25 rfl (lv_at hl 0 rfl) ?_
          refine x_cv0 (x_runV (b := a) (As := [.ref q18]) (rest := []) S (c_X0_insert l E K F G_7 a q18 ha hk18 (z_X0_arrange_8 l1_7.toInt ((G_7.1 a 2).toInt) I7_1 c10) (v_X0_arrange_26_5 (F := F) a G G_7 l1_7 po)) mv_X0_insert km_X0_34 rfl rfl ⟨Nat.le_of_ble_eq_true rfl, Nat.le_of_ble_eq_true rfl⟩ (rc_2 hK hT ha) hK (fun _ => XP.blind) (fun U hU hW => XP.at hK hz hS hT hU hW) rfl hl.1 (Nat.le_of_ble_eq_true rfl) dX0_arrange_26 ⟨Nat.le_of_ble_eq_true rfl, Nat.le_of_ble_eq_true rfl⟩) hS ?_
          rintro G26 H locs ⟨hF26, t26, oq26, oq26a⟩ hT hS
          have t26 : ((G26.1 a 2).toInt) = ((G_7.1 a 2).toInt) + 1 := t26
          have oq26 : ∀ i : Nat, (i : Int) ≤ ((G_7.1 a 2).toInt) → G26.2.2.1 (F a 1) i = insF (G_7.2.2.1 (F a 1)) (posR (fun j => rkO G_7 (G_7.2.2.1 (F a 1) j)) ((G.1 q18 8).toInt) (((G_7.1 a 2).toInt)).toNat) (some q18) i := by simp only [(show G_7.1 q18 8 = G.1 q18 8 from ((hF_7.1 _ _ (xnj (by decide) xn0)).trans (ld_j hG2 (by decide))))] at oq26; exact oq26
          refine xi_iinc (n := 1) (lv' := fun z9 => [(1, .int z9), (2, .ref q18), (0, .ref a)]) (k := 2) hx hb (rfl : Int32.toInt l1_7 = l1_7.toInt) (by decide) dX0_arrange_29 hl rfl (by decide) (fun _ => rfl) (fun x29 ls t29 hl => ?_)
          have e29 : x29.toInt = (l1_7.toInt + 1) := (z_X0_leastFree_4 l1_7.toInt x29.toInt I7_0 t29)
          have hl : lv_has ls 3 [(1, .int x29), (2, .ref q18), (0, .ref a)] := hl
          refine lv_goto (tgt := 7) hx hb dX0_arrange_32 (by decide) ?_
          exact ih7 x29 G26 _ _ _ (XFr.call (XFr.call XFr.rf hF_7 (xm1 0 rfl xm0) xm0 (xm1 0 rfl xm0)) hF26 (xm1 0 rfl xm0) xm0 (xm1 0 rfl xm0)) (by rw [(e29 : Int32.toInt x29 = (l1_7.toInt + 1))] <;> exact (v_X0_arrange_32_6 (K := K) (F := F) a q18 G2 G G_7 G26 l1_7 N7 ha hG2 hF_7 po hR18 oq26 I7_0 I7_1 I7_2 hm7 c10 t26)) (v_X0_arrange_32_7 (F := F) a q18 G G_7 G26 l1_7 pf hR18 oq26a) (by rw [(e29 : Int32.toInt x29 = (l1_7.toInt + 1))] <;> exact (z_X0_leastFree_5 l1_7.toInt I7_0 c10)) (by rw [(e29 : Int32.toInt x29 = (l1_7.toInt + 1))] <;> exact (z_X0_arrange_11 l1_7.toInt ((G26.1 a 2).toInt) ((G_7.1 a 2).toInt) I7_1 t26)) (by rw [(e29 : Int32.toInt x29 = (l1_7.toInt + 1))] <;> exact (z_X0_leastFree_6 l1_7.toInt I7_0)) (by rw [(e29 : Int32.toInt x29 = (l1_7.toInt + 1))] <;> exact (z_X0_leastFree_7 l1_7.toInt N7 hm7)) hT hS (lv_sub hl [2, 0] rfl)
  exact L7 4294967297 0 G2 _ _ _ XFr.rf (by rw [(show (G2.1 a 2).toInt = (0 : Int) from (congrArg Int32.toInt (ld_at hG2)).trans ((by decide) : Int32.toInt 0 = (0 : Int)))] <;> exact (v_X0_arrange_6_8 (F := F) a G2 G)) (v_X0_arrange_6_9 (F := F) a G2 G (ld_r hG2)) (by decide) (by rw [(show (G2.1 a 2).toInt = (0 : Int) from (congrArg Int32.toInt (ld_at hG2)).trans ((by decide) : Int32.toInt 0 = (0 : Int)))] <;> exact (by decide)) (by decide) (by decide) hT hS (lv_sub hl [1, 0] rfl)

