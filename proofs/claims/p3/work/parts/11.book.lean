abbrev rm_X0_size : Room := { frames := 0, cells := 0, slots := 0, locals := 0 }
set_option maxHeartbeats 4000000 in
set_option maxRecDepth 100000 in
theorem c_X0_size (l : Launch) (E : XE) (K : Nat → Nat) (F : Nat → Nat → Nat) (G : XG) (h0 : Heap) (a : Nat) (ha : K a = 2) : Met l yX0_size (xw yX0_size cX0_size 1 (some .int)) rm_X0_size (va_Pc [.ref a] (XPh E K F G h0)) (XQ E (fun v (u : Unit) => ∃ r : Int32, v = .int r) (fun _ H => H = h0)) 0 0 (xA E) := by
  refine x_enter (by decide) (Nat.le_of_ble_eq_true rfl) ?_
  intro p e s m args below meth c Q S hr hlk hnm hQ hP ls hl
  obtain ⟨⟨hz, hK, hT⟩, hh⟩ := hP
  obtain ⟨hx, hb, -, -, -⟩ := id S
  have hS : va_S (xA E) s.heap s.heap [] := va_S.rf
  have hl : lv_has ls 1 [(0, .ref a)] := hl
  refine lv_aload_n hx hb dX0_size_0 rfl (lv_at hl 0 rfl) ?_
  refine gX0_2 S hK hT ha kf_X0_20 dX0_size_1 (fun x1 hT => ?_)
  exact x_ri hx hb hr hlk hQ (Nat.le_of_ble_eq_true rfl) (Nat.le_of_ble_eq_true rfl) hS dX0_size_4 () ⟨_, rfl⟩ hh

theorem z_X0_get_1 (a0 : Int) (h0 : ¬ (a0 < 0)) (h1 : ¬ ((12 : Int) ≤ a0)) (r0 : -2147483648 ≤ a0 ∧ a0 < 2147483648) : 0 ≤ a0 ∧ a0 < 12 := by omega
abbrev rm_X0_get : Room := { frames := 0, cells := 0, slots := 0, locals := 0 }
set_option maxHeartbeats 4000000 in
set_option maxRecDepth 100000 in
theorem c_X0_get (l : Launch) (E : XE) (K : Nat → Nat) (F : Nat → Nat → Nat) (G : XG) (h0 : Heap) (a : Nat) (p0 : Int32) (ha : K a = 2) : Met l yX0_get (xw yX0_get cX0_get 2 (some (.object "LateRules$Rule"))) rm_X0_get (va_Pc [.ref a, .int p0] (XPh E K F G h0)) (XQ E (fun v (u : Unit) => v = .null ∨ ∃ r : Nat, v = .ref r ∧ K r = 9) (fun _ H => H = h0)) 0 0 (xA E) := by
  refine x_enter (by decide) (Nat.le_of_ble_eq_true rfl) ?_
  intro p e s m args below meth c Q S hr hlk hnm hQ hP ls hl
  obtain ⟨⟨hz, hK, hT⟩, hh⟩ := hP
  obtain ⟨hx, hb, -, -, -⟩ := id S
  have hS : va_S (xA E) s.heap s.heap [] := va_S.rf
  have hl : lv_has ls 2 [(0, .ref a), (1, .int p0)] := hl
  refine lv_iload_n hx hb dX0_get_0 rfl (lv_at hl 1 rfl) ?_
  refine xi_zlt (tgt := 19) hx hb (rfl : Int32.toInt p0 = p0.toInt) dX0_get_1 (by decide) (fun c1 => ?_) (fun c1 => ?_)
  · refine lv_null hx hb dX0_get_19 ?_
    exact x_ra hx hb hr (by first | exact Or.inl ⟨_, rfl⟩ | exact Or.inr ⟨_, rfl⟩) (by first | exact Or.inl rfl | exact Or.inr ⟨_, rfl⟩) hlk hQ (Nat.le_of_ble_eq_true rfl) (Nat.le_of_ble_eq_true rfl) hS dX0_get_20 () (Or.inl rfl) hh
  · refine lv_iload_n hx hb dX0_get_4 rfl (lv_at hl 1 rfl) ?_
    refine lv_bipush (v := 12) hx hb dX0_get_5 (by decide) ?_
    refine xi_cge (tgt := 19) hx hb (rfl : Int32.toInt p0 = p0.toInt) ((by decide) : Int32.toInt 12 = (12 : Int)) dX0_get_7 (by decide) (fun c2 => ?_) (fun c2 => ?_)
    · refine lv_null hx hb dX0_get_19 ?_
      exact x_ra hx hb hr (by first | exact Or.inl ⟨_, rfl⟩ | exact Or.inr ⟨_, rfl⟩) (by first | exact Or.inl rfl | exact Or.inr ⟨_, rfl⟩) hlk hQ (Nat.le_of_ble_eq_true rfl) (Nat.le_of_ble_eq_true rfl) hS dX0_get_20 () (Or.inl rfl) hh
    · refine lv_aload_n hx hb dX0_get_10 rfl (lv_at hl 0 rfl) ?_
      refine gX0_0 S hK hT ha kf_X0_11 dX0_get_11 (fun hk3 => ?_)
      refine lv_iload_n hx hb dX0_get_14 rfl (lv_at hl 1 rfl) ?_
      refine al_15 S hK hT hk3 (z_X0_get_1 p0.toInt c1 c2 (xr p0)) dX0_get_15 ?_ (fun q4 hk5 => ?_)
      · refine lv_goto (tgt := 20) hx hb dX0_get_16 (by decide) ?_
        exact x_ra hx hb hr (by first | exact Or.inl ⟨_, rfl⟩ | exact Or.inr ⟨_, rfl⟩) (by first | exact Or.inl rfl | exact Or.inr ⟨_, rfl⟩) hlk hQ (Nat.le_of_ble_eq_true rfl) (Nat.le_of_ble_eq_true rfl) hS dX0_get_20 () (Or.inl rfl) hh
      · refine lv_goto (tgt := 20) hx hb dX0_get_16 (by decide) ?_
        exact x_ra hx hb hr (by first | exact Or.inl ⟨_, rfl⟩ | exact Or.inr ⟨_, rfl⟩) (by first | exact Or.inl rfl | exact Or.inr ⟨_, rfl⟩) hlk hQ (Nat.le_of_ble_eq_true rfl) (Nat.le_of_ble_eq_true rfl) hS dX0_get_20 () (Or.inr ⟨_, rfl, hk5⟩) hh

theorem z_X0_inOrder_1 (a0 : Int) (a1 : Int) (h0 : ¬ (a0 < 0)) (h1 : ¬ (a1 ≤ a0)) (h2 : ¬ ((12 : Int) ≤ a0)) (r0 : -2147483648 ≤ a0 ∧ a0 < 2147483648) (r1 : -2147483648 ≤ a1 ∧ a1 < 2147483648) : 0 ≤ a0 ∧ a0 < 12 := by omega
abbrev rm_X0_inOrder : Room := { frames := 0, cells := 0, slots := 0, locals := 0 }
set_option maxHeartbeats 4000000 in
set_option maxRecDepth 100000 in
theorem c_X0_inOrder (l : Launch) (E : XE) (K : Nat → Nat) (F : Nat → Nat → Nat) (G : XG) (h0 : Heap) (a : Nat) (p0 : Int32) (ha : K a = 2) : Met l yX0_inOrder (xw yX0_inOrder cX0_inOrder 2 (some (.object "LateRules$Rule"))) rm_X0_inOrder (va_Pc [.ref a, .int p0] (XPh E K F G h0)) (XQ E (fun v (u : Unit) => v = .null ∨ ∃ r : Nat, v = .ref r ∧ K r = 9) (fun _ H => H = h0)) 0 0 (xA E) := by
  refine x_enter (by decide) (Nat.le_of_ble_eq_true rfl) ?_
  intro p e s m args below meth c Q S hr hlk hnm hQ hP ls hl
  obtain ⟨⟨hz, hK, hT⟩, hh⟩ := hP
  obtain ⟨hx, hb, -, -, -⟩ := id S
  have hS : va_S (xA E) s.heap s.heap [] := va_S.rf
  have hl : lv_has ls 2 [(0, .ref a), (1, .int p0)] := hl
  refine lv_iload_n hx hb dX0_inOrder_0 rfl (lv_at hl 1 rfl) ?_
  refine xi_zlt (tgt := 27) hx hb (rfl : Int32.toInt p0 = p0.toInt) dX0_inOrder_1 (by decide) (fun c1 => ?_) (fun c1 => ?_)
  · refine lv_null hx hb dX0_inOrder_27 ?_
    exact x_ra hx hb hr (by first | exact Or.inl ⟨_, rfl⟩ | exact Or.inr ⟨_, rfl⟩) (by first | exact Or.inl rfl | exact Or.inr ⟨_, rfl⟩) hlk hQ (Nat.le_of_ble_eq_true rfl) (Nat.le_of_ble_eq_true rfl) hS dX0_inOrder_28 () (Or.inl rfl) hh
  · refine lv_iload_n hx hb dX0_inOrder_4 rfl (lv_at hl 1 rfl) ?_
    refine lv_aload_n hx hb dX0_inOrder_5 rfl (lv_at hl 0 rfl) ?_
    refine gX0_2 S hK hT ha kf_X0_20 dX0_inOrder_6 (fun x2 hT => ?_)
    refine xi_cge (tgt := 27) hx hb (rfl : Int32.toInt p0 = p0.toInt) (rfl : Int32.toInt x2 = x2.toInt) dX0_inOrder_9 (by decide) (fun c3 => ?_) (fun c3 => ?_)
    · refine lv_null hx hb dX0_inOrder_27 ?_
      exact x_ra hx hb hr (by first | exact Or.inl ⟨_, rfl⟩ | exact Or.inr ⟨_, rfl⟩) (by first | exact Or.inl rfl | exact Or.inr ⟨_, rfl⟩) hlk hQ (Nat.le_of_ble_eq_true rfl) (Nat.le_of_ble_eq_true rfl) hS dX0_inOrder_28 () (Or.inl rfl) hh
    · refine lv_iload_n hx hb dX0_inOrder_12 rfl (lv_at hl 1 rfl) ?_
      refine lv_bipush (v := 12) hx hb dX0_inOrder_13 (by decide) ?_
      refine xi_cge (tgt := 27) hx hb (rfl : Int32.toInt p0 = p0.toInt) ((by decide) : Int32.toInt 12 = (12 : Int)) dX0_inOrder_15 (by decide) (fun c4 => ?_) (fun c4 => ?_)
      · refine lv_null hx hb dX0_inOrder_27 ?_
        exact x_ra hx hb hr (by first | exact Or.inl ⟨_, rfl⟩ | exact Or.inr ⟨_, rfl⟩) (by first | exact Or.inl rfl | exact Or.inr ⟨_, rfl⟩) hlk hQ (Nat.le_of_ble_eq_true rfl) (Nat.le_of_ble_eq_true rfl) hS dX0_inOrder_28 () (Or.inl rfl) hh
      · refine lv_aload_n hx hb dX0_inOrder_18 rfl (lv_at hl 0 rfl) ?_
        refine gX0_1 S hK hT ha kf_X0_17 dX0_inOrder_19 (fun hk5 => ?_)
        refine lv_iload_n hx hb dX0_inOrder_22 rfl (lv_at hl 1 rfl) ?_
        refine al_15 S hK hT hk5 (z_X0_inOrder_1 p0.toInt x2.toInt c1 c3 c4 (xr p0) (xr x2)) dX0_inOrder_23 ?_ (fun q6 hk7 => ?_)
        · refine lv_goto (tgt := 28) hx hb dX0_inOrder_24 (by decide) ?_
          exact x_ra hx hb hr (by first | exact Or.inl ⟨_, rfl⟩ | exact Or.inr ⟨_, rfl⟩) (by first | exact Or.inl rfl | exact Or.inr ⟨_, rfl⟩) hlk hQ (Nat.le_of_ble_eq_true rfl) (Nat.le_of_ble_eq_true rfl) hS dX0_inOrder_28 () (Or.inl rfl) hh
        · refine lv_goto (tgt := 28) hx hb dX0_inOrder_24 (by decide) ?_
          exact x_ra hx hb hr (by first | exact Or.inl ⟨_, rfl⟩ | exact Or.inr ⟨_, rfl⟩) (by first | exact Or.inl rfl | exact Or.inr ⟨_, rfl⟩) hlk hQ (Nat.le_of_ble_eq_true rfl) (Nat.le_of_ble_eq_true rfl) hS dX0_inOrder_28 () (Or.inr ⟨_, rfl, hk7⟩) hh

theorem z_X0_leastFree_1 (a0 : Int) (h0 : (0 : Int) ≤ a0) (r0 : -2147483648 ≤ a0 ∧ a0 < 2147483648) : ¬ (2147483648 - a0 < ((0 : Nat) : Int)) := by omega
theorem z_X0_leastFree_2 (a0 : Int) (a1 : Nat) (h0 : (0 : Int) ≤ a0) (h1 : 2147483648 - a0 < ((a1 + 1 : Nat) : Int)) (h2 : ¬ ((12 : Int) ≤ a0)) (r0 : -2147483648 ≤ a0 ∧ a0 < 2147483648) : 0 ≤ a0 ∧ a0 < 12 := by omega
theorem z_X0_leastFree_3 (a0 : Int) (a1 : Int) (a2 : Nat) (h0 : (0 : Int) ≤ a0) (h1 : 2147483648 - a0 < ((a2 + 1 : Nat) : Int)) (h2 : ¬ ((12 : Int) ≤ a0)) (h3 : a1 = a0 + 1 ∨ a0 + 1 < -2147483648 ∨ 2147483648 ≤ a0 + 1) (r0 : -2147483648 ≤ a0 ∧ a0 < 2147483648) (r1 : -2147483648 ≤ a1 ∧ a1 < 2147483648) : (0 : Int) ≤ a1 := by omega
theorem z_X0_leastFree_4 (a0 : Int) (a1 : Int) (a2 : Nat) (h0 : (0 : Int) ≤ a0) (h1 : 2147483648 - a0 < ((a2 + 1 : Nat) : Int)) (h2 : ¬ ((12 : Int) ≤ a0)) (h3 : a1 = a0 + 1 ∨ a0 + 1 < -2147483648 ∨ 2147483648 ≤ a0 + 1) (r0 : -2147483648 ≤ a0 ∧ a0 < 2147483648) (r1 : -2147483648 ≤ a1 ∧ a1 < 2147483648) : 2147483648 - a1 < ((a2 : Nat) : Int) := by omega
abbrev rm_X0_leastFree : Room := { frames := 0, cells := 0, slots := 0, locals := 0 }
set_option maxHeartbeats 4000000 in
set_option maxRecDepth 100000 in
theorem c_X0_leastFree (l : Launch) (E : XE) (K : Nat → Nat) (F : Nat → Nat → Nat) (G : XG) (h0 : Heap) (a : Nat) (ha : K a = 2) : Met l yX0_leastFree (xw yX0_leastFree cX0_leastFree 2 (some .int)) rm_X0_leastFree (va_Pc [.ref a] (XPh E K F G h0)) (XQ E (fun v (u : Unit) => ∃ r : Int32, v = .int r) (fun _ H => H = h0)) 0 0 (xA E) := by
  refine x_enter (by decide) (Nat.le_of_ble_eq_true rfl) ?_
  intro p e s m args below meth c Q S hr hlk hnm hQ hP ls hl
  obtain ⟨⟨hz, hK, hT⟩, hh⟩ := hP
  obtain ⟨hx, hb, -, -, -⟩ := id S
  have hS : va_S (xA E) s.heap s.heap [] := va_S.rf
  have hl : lv_has ls 2 [(0, .ref a)] := hl
  refine lv_iconst (v := 0) hx hb dX0_leastFree_0 (by decide) ?_
  refine lv_istore_n (lv' := [(1, .int 0), (0, .ref a)]) hx hb dX0_leastFree_1 rfl hl (by decide) rfl (fun ls hl => ?_)
  have L2 : ∀ (N2 : Nat) (x1 : Int32) (locs : List Loc) (ls : Array Slot), (0 : Int) ≤ x1.toInt → 2147483648 - x1.toInt < ((N2 : Nat) : Int) → TW E K F G [] s.heap → va_S (xA E) s.heap s.heap locs → lv_has ls 2 [(0, .ref a), (1, .int x1)] → W p l e rm_X0_leastFree s m args below meth c s.heap locs 0 0 Q (F0 m 2 ls []) := by
    intro N2
    induction N2 with
    | zero =>
      intro x1 locs ls hf3 hm4
      exact absurd hm4 (z_X0_leastFree_1 x1.toInt hf3 (xr x1))
    | succ N2 ih5 =>
      intro x1 locs ls hf3 hm4 hT hS hl
      refine lv_iload_n hx hb dX0_leastFree_2 rfl (lv_at hl 1 rfl) ?_
      refine lv_bipush (v := 12) hx hb dX0_leastFree_3 (by decide) ?_
      refine xi_cge (tgt := 25) hx hb (rfl : Int32.toInt x1 = x1.toInt) ((by decide) : Int32.toInt 12 = (12 : Int)) dX0_leastFree_5 (by decide) (fun c6 => ?_) (fun c6 => ?_)
      · refine lv_iconst (v := (-1)) hx hb dX0_leastFree_25 (by decide) ?_
        exact x_ri hx hb hr hlk hQ (Nat.le_of_ble_eq_true rfl) (Nat.le_of_ble_eq_true rfl) hS dX0_leastFree_26 () ⟨_, rfl⟩ hh
      · refine lv_aload_n hx hb dX0_leastFree_8 rfl (lv_at hl 0 rfl) ?_
        refine gX0_0 S hK hT ha kf_X0_11 dX0_leastFree_9 (fun hk7 => ?_)
        refine lv_iload_n hx hb dX0_leastFree_12 rfl (lv_at hl 1 rfl) ?_
        refine al_15 S hK hT hk7 (z_X0_leastFree_2 x1.toInt N2 hf3 hm4 c6 (xr x1)) dX0_leastFree_13 ?_ (fun q8 hk9 => ?_)
        · refine lv_ifnonnullN hx hb dX0_leastFree_14 ?_
          refine lv_iload_n hx hb dX0_leastFree_17 rfl (lv_at hl 1 rfl) ?_
          exact x_ri hx hb hr hlk hQ (Nat.le_of_ble_eq_true rfl) (Nat.le_of_ble_eq_true rfl) hS dX0_leastFree_18 () ⟨_, rfl⟩ hh
        · refine lv_ifnonnull (tgt := 19) hx hb dX0_leastFree_14 (by decide) ?_
          refine xi_iinc (n := 1) (lv' := fun z9 => [(1, .int z9), (0, .ref a)]) (k := 1) hx hb (rfl : Int32.toInt x1 = x1.toInt) (by decide) dX0_leastFree_19 hl rfl (by decide) (fun _ => rfl) (fun x10 ls t11 hl => ?_)
          have hl : lv_has ls 2 [(1, .int x10), (0, .ref a)] := hl
          refine lv_goto (tgt := 2) hx hb dX0_leastFree_22 (by decide) ?_
          exact ih5 x10 _ _ (z_X0_leastFree_3 x1.toInt x10.toInt N2 hf3 hm4 c6 t11 (xr x1) (xr x10)) (z_X0_leastFree_4 x1.toInt x10.toInt N2 hf3 hm4 c6 t11 (xr x1) (xr x10)) hT.nil hS (lv_sub hl [1, 0] rfl)
  exact L2 4294967297 0 _ _ (by decide) (by decide) hT.nil hS (lv_sub hl [1, 0] rfl)

theorem z_X0_lateOnes_1 (a0 : Int) (h0 : (0 : Int) ≤ a0) (r0 : -2147483648 ≤ a0 ∧ a0 < 2147483648) : ¬ (2147483648 - a0 < ((0 : Nat) : Int)) := by omega
theorem z_X0_lateOnes_2 (a0 : Int) (a1 : Nat) (h0 : (0 : Int) ≤ a0) (h1 : 2147483648 - a0 < ((a1 + 1 : Nat) : Int)) (h2 : ¬ ((12 : Int) ≤ a0)) (r0 : -2147483648 ≤ a0 ∧ a0 < 2147483648) : 0 ≤ a0 ∧ a0 < 12 := by omega
theorem z_X0_lateOnes_3 (a0 : Int) (a1 : Int) (a2 : Nat) (h0 : (0 : Int) ≤ a1) (h1 : 2147483648 - a1 < ((a2 + 1 : Nat) : Int)) (h2 : ¬ ((12 : Int) ≤ a1)) (h3 : a0 = a1 + 1 ∨ a1 + 1 < -2147483648 ∨ 2147483648 ≤ a1 + 1) (r0 : -2147483648 ≤ a0 ∧ a0 < 2147483648) (r1 : -2147483648 ≤ a1 ∧ a1 < 2147483648) : (0 : Int) ≤ a0 := by omega
theorem z_X0_lateOnes_4 (a0 : Int) (a1 : Int) (a2 : Nat) (h0 : (0 : Int) ≤ a1) (h1 : 2147483648 - a1 < ((a2 + 1 : Nat) : Int)) (h2 : ¬ ((12 : Int) ≤ a1)) (h3 : a0 = a1 + 1 ∨ a1 + 1 < -2147483648 ∨ 2147483648 ≤ a1 + 1) (r0 : -2147483648 ≤ a0 ∧ a0 < 2147483648) (r1 : -2147483648 ≤ a1 ∧ a1 < 2147483648) : 2147483648 - a0 < ((a2 : Nat) : Int) := by omega
theorem z_X0_lateOnes_5 (a0 : Int) (a1 : Int) (a2 : Nat) (h0 : (0 : Int) ≤ a1) (h1 : 2147483648 - a1 < ((a2 + 1 : Nat) : Int)) (h2 : ¬ ((12 : Int) ≤ a1)) (h3 : a0 = a1 + 1 ∨ a1 + 1 < -2147483648 ∨ 2147483648 ≤ a1 + 1) (r0 : -2147483648 ≤ a0 ∧ a0 < 2147483648) (r1 : -2147483648 ≤ a1 ∧ a1 < 2147483648) : (0 : Int) ≤ a0 := by omega
theorem z_X0_lateOnes_6 (a0 : Int) (a1 : Int) (a2 : Nat) (h0 : (0 : Int) ≤ a1) (h1 : 2147483648 - a1 < ((a2 + 1 : Nat) : Int)) (h2 : ¬ ((12 : Int) ≤ a1)) (h3 : a0 = a1 + 1 ∨ a1 + 1 < -2147483648 ∨ 2147483648 ≤ a1 + 1) (r0 : -2147483648 ≤ a0 ∧ a0 < 2147483648) (r1 : -2147483648 ≤ a1 ∧ a1 < 2147483648) : 2147483648 - a0 < ((a2 : Nat) : Int) := by omega
theorem z_X0_lateOnes_7 (a0 : Int) (a1 : Int) (a2 : Nat) (h0 : (0 : Int) ≤ a1) (h1 : 2147483648 - a1 < ((a2 + 1 : Nat) : Int)) (h2 : ¬ ((12 : Int) ≤ a1)) (h3 : a0 = a1 + 1 ∨ a1 + 1 < -2147483648 ∨ 2147483648 ≤ a1 + 1) (r0 : -2147483648 ≤ a0 ∧ a0 < 2147483648) (r1 : -2147483648 ≤ a1 ∧ a1 < 2147483648) : (0 : Int) ≤ a0 := by omega
theorem z_X0_lateOnes_8 (a0 : Int) (a1 : Int) (a2 : Nat) (h0 : (0 : Int) ≤ a1) (h1 : 2147483648 - a1 < ((a2 + 1 : Nat) : Int)) (h2 : ¬ ((12 : Int) ≤ a1)) (h3 : a0 = a1 + 1 ∨ a1 + 1 < -2147483648 ∨ 2147483648 ≤ a1 + 1) (r0 : -2147483648 ≤ a0 ∧ a0 < 2147483648) (r1 : -2147483648 ≤ a1 ∧ a1 < 2147483648) : 2147483648 - a0 < ((a2 : Nat) : Int) := by omega
abbrev rm_X0_lateOnes : Room := { frames := 0, cells := 0, slots := 0, locals := 0 }
set_option maxHeartbeats 4000000 in
set_option maxRecDepth 100000 in
theorem c_X0_lateOnes (l : Launch) (E : XE) (K : Nat → Nat) (F : Nat → Nat → Nat) (G : XG) (h0 : Heap) (a : Nat) (ha : K a = 2) : Met l yX0_lateOnes (xw yX0_lateOnes cX0_lateOnes 4 (some .int)) rm_X0_lateOnes (va_Pc [.ref a] (XPh E K F G h0)) (XQ E (fun v (u : Unit) => ∃ r : Int32, v = .int r) (fun _ H => H = h0)) 0 0 (xA E) := by
  refine x_enter (by decide) (Nat.le_of_ble_eq_true rfl) ?_
  intro p e s m args below meth c Q S hr hlk hnm hQ hP ls hl
  obtain ⟨⟨hz, hK, hT⟩, hh⟩ := hP
  obtain ⟨hx, hb, -, -, -⟩ := id S
  have hS : va_S (xA E) s.heap s.heap [] := va_S.rf
  have hl : lv_has ls 4 [(0, .ref a)] := hl
  refine lv_iconst (v := 0) hx hb dX0_lateOnes_0 (by decide) ?_
  refine lv_istore_n (lv' := [(1, .int 0), (0, .ref a)]) hx hb dX0_lateOnes_1 rfl hl (by decide) rfl (fun ls hl => ?_)
  refine lv_iconst (v := 0) hx hb dX0_lateOnes_2 (by decide) ?_
  refine lv_istore_n (lv' := [(2, .int 0), (1, .int 0), (0, .ref a)]) hx hb dX0_lateOnes_3 rfl hl (by decide) rfl (fun ls hl => ?_)
  have L4 : ∀ (N3 : Nat) (x1 : Int32) (x2 : Int32) (locs : List Loc) (ls : Array Slot), (0 : Int) ≤ x2.toInt → 2147483648 - x2.toInt < ((N3 : Nat) : Int) → TW E K F G [] s.heap → va_S (xA E) s.heap s.heap locs → lv_has ls 4 [(0, .ref a), (1, .int x1), (2, .int x2)] → W p l e rm_X0_lateOnes s m args below meth c s.heap locs 0 0 Q (F0 m 4 ls []) := by
    intro N3
    induction N3 with
    | zero =>
      intro x1 x2 locs ls hf4 hm5
      exact absurd hm5 (z_X0_lateOnes_1 x2.toInt hf4 (xr x2))
    | succ N3 ih6 =>
      intro x1 x2 locs ls hf4 hm5 hT hS hl
      refine lv_iload_n hx hb dX0_lateOnes_4 rfl (lv_at hl 2 rfl) ?_
      refine lv_bipush (v := 12) hx hb dX0_lateOnes_5 (by decide) ?_
      refine xi_cge (tgt := 37) hx hb (rfl : Int32.toInt x2 = x2.toInt) ((by decide) : Int32.toInt 12 = (12 : Int)) dX0_lateOnes_7 (by decide) (fun c7 => ?_) (fun c7 => ?_)
      · refine lv_iload_n hx hb dX0_lateOnes_37 rfl (lv_at hl 1 rfl) ?_
        exact x_ri hx hb hr hlk hQ (Nat.le_of_ble_eq_true rfl) (Nat.le_of_ble_eq_true rfl) hS dX0_lateOnes_38 () ⟨_, rfl⟩ hh
      · refine lv_aload_n hx hb dX0_lateOnes_10 rfl (lv_at hl 0 rfl) ?_
        refine gX0_0 S hK hT ha kf_X0_11 dX0_lateOnes_11 (fun hk8 => ?_)
        refine lv_iload_n hx hb dX0_lateOnes_14 rfl (lv_at hl 2 rfl) ?_
        refine al_15 S hK hT hk8 (z_X0_lateOnes_2 x2.toInt N3 hf4 hm5 c7 (xr x2)) dX0_lateOnes_15 ?_ (fun q9 hk10 => ?_)
        · refine lv_astore_nN (lv' := [(3, .null), (0, .ref a), (1, .int x1), (2, .int x2)]) hx hb dX0_lateOnes_16 rfl hl (by decide) rfl (fun ls hl => ?_)
          refine lv_aload_nN hx hb dX0_lateOnes_17 rfl (lv_at hl 0 rfl) ?_
          refine lv_ifnullN (tgt := 31) hx hb dX0_lateOnes_18 (by decide) ?_
          refine xi_iinc (n := 1) (lv' := fun z9 => [(2, .int z9), (3, .null), (0, .ref a), (1, .int x1)]) (k := 3) hx hb (rfl : Int32.toInt x2 = x2.toInt) (by decide) dX0_lateOnes_31 hl rfl (by decide) (fun _ => rfl) (fun x11 ls t12 hl => ?_)
          have hl : lv_has ls 4 [(2, .int x11), (3, .null), (0, .ref a), (1, .int x1)] := hl
          refine lv_goto (tgt := 4) hx hb dX0_lateOnes_34 (by decide) ?_
          exact ih6 x1 x11 _ _ (z_X0_lateOnes_3 x11.toInt x2.toInt N3 hf4 hm5 c7 t12 (xr x11) (xr x2)) (z_X0_lateOnes_4 x11.toInt x2.toInt N3 hf4 hm5 c7 t12 (xr x11) (xr x2)) hT.nil hS (lv_sub hl [2, 3, 0] rfl)
        · refine lv_astore_n (lv' := [(3, .ref q9), (0, .ref a), (1, .int x1), (2, .int x2)]) hx hb dX0_lateOnes_16 rfl hl (by decide) rfl (fun ls hl => ?_)
          refine lv_aload_n hx hb dX0_lateOnes_17 rfl (lv_at hl 0 rfl) ?_
          refine lv_ifnull hx hb dX0_lateOnes_18 ?_
          refine lv_aload_n hx hb dX0_lateOnes_21 rfl (lv_at hl 0 rfl) ?_
          refine gX7_9 S hK hT hk10 kf_X0_24 dX0_lateOnes_22 (fun x13 hT => ?_)
          refine xi_zeq (tgt := 31) hx hb (rfl : Int32.toInt x13 = x13.toInt) dX0_lateOnes_25 (by decide) (fun c14 => ?_) (fun c14 => ?_)
          · refine xi_iinc (n := 1) (lv' := fun z9 => [(2, .int z9), (3, .ref q9), (0, .ref a), (1, .int x1)]) (k := 3) hx hb (rfl : Int32.toInt x2 = x2.toInt) (by decide) dX0_lateOnes_31 hl rfl (by decide) (fun _ => rfl) (fun x15 ls t16 hl => ?_)
            have hl : lv_has ls 4 [(2, .int x15), (3, .ref q9), (0, .ref a), (1, .int x1)] := hl
            refine lv_goto (tgt := 4) hx hb dX0_lateOnes_34 (by decide) ?_
            exact ih6 x1 x15 _ _ (z_X0_lateOnes_5 x15.toInt x2.toInt N3 hf4 hm5 c7 t16 (xr x15) (xr x2)) (z_X0_lateOnes_6 x15.toInt x2.toInt N3 hf4 hm5 c7 t16 (xr x15) (xr x2)) hT.nil hS (lv_sub hl [2, 3, 0] rfl)
          · refine xi_iinc (n := 1) (lv' := fun z9 => [(1, .int z9), (3, .ref q9), (0, .ref a), (2, .int x2)]) (k := 2) hx hb (rfl : Int32.toInt x1 = x1.toInt) (by decide) dX0_lateOnes_28 hl rfl (by decide) (fun _ => rfl) (fun x17 ls t18 hl => ?_)
            have hl : lv_has ls 4 [(1, .int x17), (3, .ref q9), (0, .ref a), (2, .int x2)] := hl
            refine xi_iinc (n := 1) (lv' := fun z9 => [(2, .int z9), (1, .int x17), (3, .ref q9), (0, .ref a)]) (k := 3) hx hb (rfl : Int32.toInt x2 = x2.toInt) (by decide) dX0_lateOnes_31 hl rfl (by decide) (fun _ => rfl) (fun x19 ls t20 hl => ?_)
            have hl : lv_has ls 4 [(2, .int x19), (1, .int x17), (3, .ref q9), (0, .ref a)] := hl
            refine lv_goto (tgt := 4) hx hb dX0_lateOnes_34 (by decide) ?_
            exact ih6 x17 x19 _ _ (z_X0_lateOnes_7 x19.toInt x2.toInt N3 hf4 hm5 c7 t20 (xr x19) (xr x2)) (z_X0_lateOnes_8 x19.toInt x2.toInt N3 hf4 hm5 c7 t20 (xr x19) (xr x2)) hT.nil hS (lv_sub hl [3, 1, 0] rfl)
  exact L4 4294967297 0 0 _ _ (by decide) (by decide) hT.nil hS (lv_sub hl [2, 1, 0] rfl)

theorem z_X0_insert_1 (a0 : Int) (r0 : -2147483648 ≤ a0 ∧ a0 < 2147483648) : ¬ (2147483648 + a0 < ((0 : Nat) : Int)) := by omega
theorem z_X0_insert_2 (a0 : Int) (a1 : Nat) (h0 : 2147483648 + a0 < ((a1 + 1 : Nat) : Int)) (h1 : ¬ (a0 < 0)) (h2 : ¬ ((12 : Int) ≤ a0)) (r0 : -2147483648 ≤ a0 ∧ a0 < 2147483648) : 0 ≤ a0 ∧ a0 < 12 := by omega
theorem z_X0_insert_3 (a0 : Int) (a1 : Int) (a2 : Nat) (h0 : 2147483648 + a1 < ((a2 + 1 : Nat) : Int)) (h1 : ¬ (a1 ≤ 0)) (h2 : ¬ ((12 : Int) ≤ a1)) (h3 : a0 = a1 - (1 : Int) ∨ a1 - (1 : Int) < -2147483648 ∨ 2147483648 ≤ a1 - (1 : Int)) (r0 : -2147483648 ≤ a0 ∧ a0 < 2147483648) (r1 : -2147483648 ≤ a1 ∧ a1 < 2147483648) : 0 ≤ a0 ∧ a0 < 12 := by omega
theorem z_X0_insert_4 (a0 : Int) (a1 : Int) (a2 : Nat) (h0 : 2147483648 + a1 < ((a2 + 1 : Nat) : Int)) (h1 : ¬ (a1 ≤ 0)) (h2 : ¬ ((12 : Int) ≤ a1)) (h3 : a0 = a1 - (1 : Int) ∨ a1 - (1 : Int) < -2147483648 ∨ 2147483648 ≤ a1 - (1 : Int)) (r0 : -2147483648 ≤ a0 ∧ a0 < 2147483648) (r1 : -2147483648 ≤ a1 ∧ a1 < 2147483648) : 0 ≤ a1 ∧ a1 < 12 := by omega
theorem z_X0_insert_5 (a0 : Int) (a1 : Int) (a2 : Int) (a3 : Nat) (h0 : 2147483648 + a1 < ((a3 + 1 : Nat) : Int)) (h1 : ¬ (a1 ≤ 0)) (h2 : ¬ ((12 : Int) ≤ a1)) (h3 : a0 = a1 - (1 : Int) ∨ a1 - (1 : Int) < -2147483648 ∨ 2147483648 ≤ a1 - (1 : Int)) (h4 : a2 = a1 + (-1) ∨ a1 + (-1) < -2147483648 ∨ 2147483648 ≤ a1 + (-1)) (r0 : -2147483648 ≤ a0 ∧ a0 < 2147483648) (r1 : -2147483648 ≤ a1 ∧ a1 < 2147483648) (r2 : -2147483648 ≤ a2 ∧ a2 < 2147483648) : 2147483648 + a2 < ((a3 : Nat) : Int) := by omega
theorem z_X0_insert_6 (a0 : Int) (r0 : -2147483648 ≤ a0 ∧ a0 < 2147483648) : 2147483648 + a0 < ((4294967297 : Nat) : Int) := by omega
abbrev rm_X0_insert : Room := { frames := 0, cells := 0, slots := 0, locals := 0 }
set_option maxHeartbeats 4000000 in
set_option maxRecDepth 100000 in
theorem c_X0_insert (l : Launch) (E : XE) (K : Nat → Nat) (F : Nat → Nat → Nat) (G : XG) (a : Nat) (p0 : Nat) (ha : K a = 2) (hp0 : K p0 = 9) : Met l yX0_insert (xw yX0_insert cX0_insert 4 none) rm_X0_insert (va_Pc [.ref a, .ref p0] (XP E K F G)) (XQv E (fun (u : Unit) => True) (fun _ H => TW E K F G [] H)) 0 0 (xA E) := by
  refine x_enter (by decide) (Nat.le_of_ble_eq_true rfl) ?_
  intro p e s m args below meth c Q S hr hlk hnm hQ hP ls hl
  obtain ⟨hz, hK, hT⟩ := hP
  obtain ⟨hx, hb, -, -, -⟩ := id S
  obtain ⟨H, hT, hS, hgo⟩ : ∃ H : Heap, TW E K F G [] H ∧ va_S (xA E) s.heap H [] ∧ H = s.heap := ⟨_, hT, va_S.rf, rfl⟩
  rw [← hgo]
  have hl : lv_has ls 4 [(0, .ref a), (1, .ref p0)] := hl
  refine lv_aload_n hx hb dX0_insert_0 rfl (lv_at hl 0 rfl) ?_
  refine gX0_2 S hK hT ha kf_X0_20 dX0_insert_1 (fun x1 hT => ?_)
  refine lv_istore_n (lv' := [(2, .int x1), (0, .ref a), (1, .ref p0)]) hx hb dX0_insert_4 rfl hl (by decide) rfl (fun ls hl => ?_)
  have L5 : ∀ (N3 : Nat) (x2 : Int32) (H : Heap) (locs : List Loc) (ls : Array Slot), 2147483648 + x2.toInt < ((N3 : Nat) : Int) → TW E K F G [(a, 2, x1)] H → va_S (xA E) s.heap H locs → lv_has ls 4 [(0, .ref a), (1, .ref p0), (2, .int x2)] → W p l e rm_X0_insert s m args below meth c H locs 0 0 Q (F0 m 5 ls []) := by
    intro N3
    induction N3 with
    | zero =>
      intro x2 H locs ls hm4
      exact absurd hm4 (z_X0_insert_1 x2.toInt (xr x2))
    | succ N3 ih5 =>
      intro x2 H locs ls hm4 hT hS hl
      refine lv_iload_n hx hb dX0_insert_5 rfl (lv_at hl 2 rfl) ?_
      have J55 : ∀ (H : Heap) (locs : List Loc) (ls : Array Slot), TW E K F G [(a, 2, x1)] H → va_S (xA E) s.heap H locs → lv_has ls 4 [(0, .ref a), (1, .ref p0), (2, .int x2)] → W p l e rm_X0_insert s m args below meth c H locs 0 0 Q (F0 m 55 ls []) := by
        intro H locs ls hT hS hl
        refine lv_iload_n hx hb dX0_insert_55 rfl (lv_at hl 2 rfl) ?_
        refine xi_zlt (tgt := 82) hx hb (rfl : Int32.toInt x2 = x2.toInt) dX0_insert_56 (by decide) (fun c6 => ?_) (fun c6 => ?_)
        · exact x_rv hx hb hr hlk hQ (Nat.le_of_ble_eq_true rfl) (Nat.le_of_ble_eq_true rfl) hS dX0_insert_82 () trivial hT.nil
        · refine lv_iload_n hx hb dX0_insert_59 rfl (lv_at hl 2 rfl) ?_
          refine lv_bipush (v := 12) hx hb dX0_insert_60 (by decide) ?_
          refine xi_cge (tgt := 82) hx hb (rfl : Int32.toInt x2 = x2.toInt) ((by decide) : Int32.toInt 12 = (12 : Int)) dX0_insert_62 (by decide) (fun c7 => ?_) (fun c7 => ?_)
          · exact x_rv hx hb hr hlk hQ (Nat.le_of_ble_eq_true rfl) (Nat.le_of_ble_eq_true rfl) hS dX0_insert_82 () trivial hT.nil
          · refine lv_aload_n hx hb dX0_insert_65 rfl (lv_at hl 0 rfl) ?_
            refine gX0_1 S hK hT ha kf_X0_17 dX0_insert_66 (fun hk8 => ?_)
            refine lv_iload_n hx hb dX0_insert_69 rfl (lv_at hl 2 rfl) ?_
            refine lv_aload_n hx hb dX0_insert_70 rfl (lv_at hl 1 rfl) ?_
            refine as_15r S hK hT hS hk8 hp0 (z_X0_insert_2 x2.toInt N3 hm4 c6 c7 (xr x2)) dX0_insert_71 (fun H locs hT hS => ?_)
            refine lv_aload_n hx hb dX0_insert_72 rfl (lv_at hl 0 rfl) ?_
            refine lv_dup hx hb dX0_insert_73 rfl ?_
            refine kX0_2 (v := x1) S hK hT ha (List.mem_of_getElem? (i := 0) rfl) kf_X0_20 dX0_insert_74 ?_
            refine lv_iconst (v := 1) hx hb dX0_insert_77 (by decide) ?_
            refine xi_iadd hx hb (rfl : Int32.toInt x1 = x1.toInt) ((by decide) : Int32.toInt 1 = (1 : Int)) dX0_insert_78 (fun x9 t10 => ?_)
            refine pX0_2 (kq := []) S hK hT hS ha kf_X0_20 dX0_insert_79 (fun _ h => by cases h) (fun H locs hT hS => ?_)
            exact x_rv hx hb hr hlk hQ (Nat.le_of_ble_eq_true rfl) (Nat.le_of_ble_eq_true rfl) hS dX0_insert_82 () trivial hT.nil
      refine xi_zle (tgt := 55) hx hb (rfl : Int32.toInt x2 = x2.toInt) dX0_insert_6 (by decide) (fun c11 => ?_) (fun c11 => ?_)
      · exact J55 _ _ _ hT hS (lv_sub hl [0, 1, 2] rfl)
      · refine lv_iload_n hx hb dX0_insert_9 rfl (lv_at hl 2 rfl) ?_
        refine lv_bipush (v := 12) hx hb dX0_insert_10 (by decide) ?_
        refine xi_cge (tgt := 55) hx hb (rfl : Int32.toInt x2 = x2.toInt) ((by decide) : Int32.toInt 12 = (12 : Int)) dX0_insert_12 (by decide) (fun c12 => ?_) (fun c12 => ?_)
        · exact J55 _ _ _ hT hS (lv_sub hl [0, 1, 2] rfl)
        · refine lv_aload_n hx hb dX0_insert_15 rfl (lv_at hl 0 rfl) ?_
          refine gX0_1 S hK hT ha kf_X0_17 dX0_insert_16 (fun hk13 => ?_)
          refine lv_iload_n hx hb dX0_insert_19 rfl (lv_at hl 2 rfl) ?_
          refine lv_iconst (v := 1) hx hb dX0_insert_20 (by decide) ?_
          refine xi_isub hx hb (rfl : Int32.toInt x2 = x2.toInt) ((by decide) : Int32.toInt 1 = (1 : Int)) dX0_insert_21 (fun x14 t15 => ?_)
          refine al_15 S hK hT hk13 (z_X0_insert_3 x14.toInt x2.toInt N3 hm4 c11 c12 t15 (xr x14) (xr x2)) dX0_insert_22 ?_ (fun q16 hk17 => ?_)
          · refine lv_astore_nN (lv' := [(3, .null), (0, .ref a), (1, .ref p0), (2, .int x2)]) hx hb dX0_insert_23 rfl hl (by decide) rfl (fun ls hl => ?_)
            refine lv_aload_nN hx hb dX0_insert_24 rfl (lv_at hl 0 rfl) ?_
            refine lv_ifnullN (tgt := 55) hx hb dX0_insert_25 (by decide) ?_
            exact J55 _ _ _ hT hS (lv_sub hl [1, 2, 3] rfl)
          · refine lv_astore_n (lv' := [(3, .ref q16), (0, .ref a), (1, .ref p0), (2, .int x2)]) hx hb dX0_insert_23 rfl hl (by decide) rfl (fun ls hl => ?_)
            refine lv_aload_n hx hb dX0_insert_24 rfl (lv_at hl 0 rfl) ?_
            refine lv_ifnull hx hb dX0_insert_25 ?_
            refine lv_aload_n hx hb dX0_insert_28 rfl (lv_at hl 0 rfl) ?_
            refine gX7_8 S hK hT hk17 kf_X0_38 dX0_insert_29 (fun x18 hT => ?_)
            refine lv_aload_n hx hb dX0_insert_32 rfl (lv_at hl 2 rfl) ?_
            refine gX7_8 S hK hT hp0 kf_X0_38 dX0_insert_33 (fun x19 hT => ?_)
            refine xi_cgt (tgt := 42) hx hb (rfl : Int32.toInt x18 = x18.toInt) (rfl : Int32.toInt x19 = x19.toInt) dX0_insert_36 (by decide) (fun c20 => ?_) (fun c20 => ?_)
            · refine lv_aload_n hx hb dX0_insert_42 rfl (lv_at hl 1 rfl) ?_
              refine gX0_1 S hK hT ha kf_X0_17 dX0_insert_43 (fun hk21 => ?_)
              refine lv_iload_n hx hb dX0_insert_46 rfl (lv_at hl 3 rfl) ?_
              refine lv_aload_n hx hb dX0_insert_47 rfl (lv_at hl 0 rfl) ?_
              refine as_15r S hK hT hS hk21 hk17 (z_X0_insert_4 x14.toInt x2.toInt N3 hm4 c11 c12 t15 (xr x14) (xr x2)) dX0_insert_48 (fun H locs hT hS => ?_)
              refine xi_iinc (n := (-1)) (lv' := fun z9 => [(2, .int z9), (3, .ref q16), (0, .ref a), (1, .ref p0)]) (k := 3) hx hb (rfl : Int32.toInt x2 = x2.toInt) (by decide) dX0_insert_49 hl rfl (by decide) (fun _ => rfl) (fun x22 ls t23 hl => ?_)
              have hl : lv_has ls 4 [(2, .int x22), (3, .ref q16), (0, .ref a), (1, .ref p0)] := hl
              refine lv_goto (tgt := 5) hx hb dX0_insert_52 (by decide) ?_
              exact ih5 x22 _ _ _ (z_X0_insert_5 x14.toInt x2.toInt x22.toInt N3 hm4 c11 c12 t15 t23 (xr x14) (xr x2) (xr x22)) (hT.sub (List.forall_mem_cons.mpr ⟨List.mem_of_getElem? (i := 2) rfl, fun _ h => by cases h⟩)) hS (lv_sub hl [2, 3, 0] rfl)
            · refine lv_goto (tgt := 55) hx hb dX0_insert_39 (by decide) ?_
              exact J55 _ _ _ (hT.sub (List.forall_mem_cons.mpr ⟨List.mem_of_getElem? (i := 2) rfl, fun _ h => by cases h⟩)) hS (lv_sub hl [1, 2, 3] rfl)
  exact L5 4294967297 x1 _ _ _ (z_X0_insert_6 x1.toInt (xr x1)) hT hS (lv_sub hl [1, 2, 0] rfl)

theorem z_X0_arrange_1 (a0 : Int) (h0 : (0 : Int) ≤ a0) (r0 : -2147483648 ≤ a0 ∧ a0 < 2147483648) : ¬ (2147483648 - a0 < ((0 : Nat) : Int)) := by omega
theorem z_X0_arrange_2 (a0 : Int) (a1 : Nat) (h0 : (0 : Int) ≤ a0) (h1 : 2147483648 - a0 < ((a1 + 1 : Nat) : Int)) (h2 : ¬ ((12 : Int) ≤ a0)) (r0 : -2147483648 ≤ a0 ∧ a0 < 2147483648) : 0 ≤ a0 ∧ a0 < 12 := by omega
theorem z_X0_arrange_3 (a0 : Int) (a1 : Int) (a2 : Nat) (h0 : (0 : Int) ≤ a0) (h1 : 2147483648 - a0 < ((a2 + 1 : Nat) : Int)) (h2 : ¬ ((12 : Int) ≤ a0)) (h3 : a1 = a0 + 1 ∨ a0 + 1 < -2147483648 ∨ 2147483648 ≤ a0 + 1) (r0 : -2147483648 ≤ a0 ∧ a0 < 2147483648) (r1 : -2147483648 ≤ a1 ∧ a1 < 2147483648) : (0 : Int) ≤ a1 := by omega
theorem z_X0_arrange_4 (a0 : Int) (a1 : Int) (a2 : Nat) (h0 : (0 : Int) ≤ a0) (h1 : 2147483648 - a0 < ((a2 + 1 : Nat) : Int)) (h2 : ¬ ((12 : Int) ≤ a0)) (h3 : a1 = a0 + 1 ∨ a0 + 1 < -2147483648 ∨ 2147483648 ≤ a0 + 1) (r0 : -2147483648 ≤ a0 ∧ a0 < 2147483648) (r1 : -2147483648 ≤ a1 ∧ a1 < 2147483648) : 2147483648 - a1 < ((a2 : Nat) : Int) := by omega
theorem z_X0_arrange_5 (a0 : Int) (a1 : Int) (a2 : Nat) (h0 : (0 : Int) ≤ a0) (h1 : 2147483648 - a0 < ((a2 + 1 : Nat) : Int)) (h2 : ¬ ((12 : Int) ≤ a0)) (h3 : a1 = a0 + 1 ∨ a0 + 1 < -2147483648 ∨ 2147483648 ≤ a0 + 1) (r0 : -2147483648 ≤ a0 ∧ a0 < 2147483648) (r1 : -2147483648 ≤ a1 ∧ a1 < 2147483648) : (0 : Int) ≤ a1 := by omega
theorem z_X0_arrange_6 (a0 : Int) (a1 : Int) (a2 : Nat) (h0 : (0 : Int) ≤ a0) (h1 : 2147483648 - a0 < ((a2 + 1 : Nat) : Int)) (h2 : ¬ ((12 : Int) ≤ a0)) (h3 : a1 = a0 + 1 ∨ a0 + 1 < -2147483648 ∨ 2147483648 ≤ a0 + 1) (r0 : -2147483648 ≤ a0 ∧ a0 < 2147483648) (r1 : -2147483648 ≤ a1 ∧ a1 < 2147483648) : 2147483648 - a1 < ((a2 : Nat) : Int) := by omega
abbrev rm_X0_arrange : Room := { frames := 1, cells := 0, slots := 0, locals := 23 }
set_option maxHeartbeats 4000000 in
set_option maxRecDepth 100000 in
theorem c_X0_arrange (l : Launch) (E : XE) (K : Nat → Nat) (F : Nat → Nat → Nat) (G : XG) (a : Nat) (ha : K a = 2) : Met l yX0_arrange (xw yX0_arrange cX0_arrange 3 none) rm_X0_arrange (va_Pc [.ref a] (XP E K F G)) (XQv E (fun (u : Unit) => True) (fun _ H => TW E K F G [] H)) 0 0 (xA E) := by
  refine x_enter (by decide) (Nat.le_of_ble_eq_true rfl) ?_
  intro p e s m args below meth c Q S hr hlk hnm hQ hP ls hl
  obtain ⟨hz, hK, hT⟩ := hP
  obtain ⟨hx, hb, -, -, -⟩ := id S
  obtain ⟨H, hT, hS, hgo⟩ : ∃ H : Heap, TW E K F G [] H ∧ va_S (xA E) s.heap H [] ∧ H = s.heap := ⟨_, hT, va_S.rf, rfl⟩
  rw [← hgo]
  have hl : lv_has ls 3 [(0, .ref a)] := hl
  refine lv_aload_n hx hb dX0_arrange_0 rfl (lv_at hl 0 rfl) ?_
  refine lv_iconst (v := 0) hx hb dX0_arrange_1 (by decide) ?_
  refine pX0_2 (kq := []) S hK hT hS ha kf_X0_20 dX0_arrange_2 (fun _ h => by cases h) (fun H locs hT hS => ?_)
  refine lv_iconst (v := 0) hx hb dX0_arrange_5 (by decide) ?_
  refine lv_istore_n (lv' := [(1, .int 0), (0, .ref a)]) hx hb dX0_arrange_6 rfl hl (by decide) rfl (fun ls hl => ?_)
  have L7 : ∀ (N2 : Nat) (x1 : Int32) (H : Heap) (locs : List Loc) (ls : Array Slot), (0 : Int) ≤ x1.toInt → 2147483648 - x1.toInt < ((N2 : Nat) : Int) → TW E K F G [] H → va_S (xA E) s.heap H locs → lv_has ls 3 [(0, .ref a), (1, .int x1)] → W p l e rm_X0_arrange s m args below meth c H locs 0 0 Q (F0 m 7 ls []) := by
    intro N2
    induction N2 with
    | zero =>
      intro x1 H locs ls hf3 hm4
      exact absurd hm4 (z_X0_arrange_1 x1.toInt hf3 (xr x1))
    | succ N2 ih5 =>
      intro x1 H locs ls hf3 hm4 hT hS hl
      refine lv_iload_n hx hb dX0_arrange_7 rfl (lv_at hl 1 rfl) ?_
      refine lv_bipush (v := 12) hx hb dX0_arrange_8 (by decide) ?_
      refine xi_cge (tgt := 35) hx hb (rfl : Int32.toInt x1 = x1.toInt) ((by decide) : Int32.toInt 12 = (12 : Int)) dX0_arrange_10 (by decide) (fun c6 => ?_) (fun c6 => ?_)
      · exact x_rv hx hb hr hlk hQ (Nat.le_of_ble_eq_true rfl) (Nat.le_of_ble_eq_true rfl) hS dX0_arrange_35 () trivial hT.nil
      · refine lv_aload_n hx hb dX0_arrange_13 rfl (lv_at hl 0 rfl) ?_
        refine gX0_0 S hK hT ha kf_X0_11 dX0_arrange_14 (fun hk7 => ?_)
        refine lv_iload_n hx hb dX0_arrange_17 rfl (lv_at hl 1 rfl) ?_
        refine al_15 S hK hT hk7 (z_X0_arrange_2 x1.toInt N2 hf3 hm4 c6 (xr x1)) dX0_arrange_18 ?_ (fun q8 hk9 => ?_)
        · refine lv_astore_nN (lv' := [(2, .null), (0, .ref a), (1, .int x1)]) hx hb dX0_arrange_19 rfl hl (by decide) rfl (fun ls hl => ?_)
          refine lv_aload_nN hx hb dX0_arrange_20 rfl (lv_at hl 0 rfl) ?_
          refine lv_ifnullN (tgt := 29) hx hb dX0_arrange_21 (by decide) ?_
          refine xi_iinc (n := 1) (lv' := fun z9 => [(1, .int z9), (2, .null), (0, .ref a)]) (k := 2) hx hb (rfl : Int32.toInt x1 = x1.toInt) (by decide) dX0_arrange_29 hl rfl (by decide) (fun _ => rfl) (fun x10 ls t11 hl => ?_)
          have hl : lv_has ls 3 [(1, .int x10), (2, .null), (0, .ref a)] := hl
          refine lv_goto (tgt := 7) hx hb dX0_arrange_32 (by decide) ?_
          exact ih5 x10 _ _ _ (z_X0_arrange_3 x1.toInt x10.toInt N2 hf3 hm4 c6 t11 (xr x1) (xr x10)) (z_X0_arrange_4 x1.toInt x10.toInt N2 hf3 hm4 c6 t11 (xr x1) (xr x10)) hT.nil hS (lv_sub hl [2, 0] rfl)
        · refine lv_astore_n (lv' := [(2, .ref q8), (0, .ref a), (1, .int x1)]) hx hb dX0_arrange_19 rfl hl (by decide) rfl (fun ls hl => ?_)
          refine lv_aload_n hx hb dX0_arrange_20 rfl (lv_at hl 0 rfl) ?_
          refine lv_ifnull hx hb dX0_arrange_21 ?_
          refine lv_aload_n hx hb dX0_arrange_24 rfl (lv_at hl 1 rfl) ?_
          refine lv_aload_n hx hb dX0_arrange_25 rfl (lv_at hl 0 rfl) ?_
          refine x_cv0 (x_runV (b := a) (As := [.ref q8]) (rest := []) S (c_X0_insert l E K F G a q8 ha hk9) mv_X0_insert km_X0_34 rfl rfl ⟨Nat.le_of_ble_eq_true rfl, Nat.le_of_ble_eq_true rfl⟩ (rc_2 hK hT ha) hK (fun _ => XP.blind) (fun U hU hW => XP.at hK hz hS hT hU hW) rfl hl.1 (Nat.le_of_ble_eq_true rfl) dX0_arrange_26 ⟨Nat.le_of_ble_eq_true rfl, Nat.le_of_ble_eq_true rfl⟩) hS ?_
          rintro _ H locs - hT hS
          refine xi_iinc (n := 1) (lv' := fun z9 => [(1, .int z9), (2, .ref q8), (0, .ref a)]) (k := 2) hx hb (rfl : Int32.toInt x1 = x1.toInt) (by decide) dX0_arrange_29 hl rfl (by decide) (fun _ => rfl) (fun x12 ls t13 hl => ?_)
          have hl : lv_has ls 3 [(1, .int x12), (2, .ref q8), (0, .ref a)] := hl
          refine lv_goto (tgt := 7) hx hb dX0_arrange_32 (by decide) ?_
          exact ih5 x12 _ _ _ (z_X0_arrange_5 x1.toInt x12.toInt N2 hf3 hm4 c6 t13 (xr x1) (xr x12)) (z_X0_arrange_6 x1.toInt x12.toInt N2 hf3 hm4 c6 t13 (xr x1) (xr x12)) hT.nil hS (lv_sub hl [2, 0] rfl)
  exact L7 4294967297 0 _ _ _ (by decide) (by decide) hT.nil hS (lv_sub hl [1, 0] rfl)

theorem z_X0_enter_1 (a0 : Int) (h0 : ¬ (a0 < 0)) (h1 : ¬ ((12 : Int) ≤ a0)) (r0 : -2147483648 ≤ a0 ∧ a0 < 2147483648) : 0 ≤ a0 ∧ a0 < 12 := by omega
abbrev rm_X0_enter : Room := { frames := 2, cells := 0, slots := 0, locals := 45 }
set_option maxHeartbeats 4000000 in
set_option maxRecDepth 100000 in
theorem c_X0_enter (l : Launch) (E : XE) (K : Nat → Nat) (F : Nat → Nat → Nat) (G : XG) (a : Nat) (p0 : Nat) (ha : K a = 2) (hp0 : K p0 = 9) : Met l yX0_enter (xw yX0_enter cX0_enter 2 none) rm_X0_enter (va_Pc [.ref a, .ref p0] (XP E K F G)) (XQv E (fun (u : Unit) => True) (fun _ H => TW E K F G [] H)) 0 0 (xA E) := by
  refine x_enter (by decide) (Nat.le_of_ble_eq_true rfl) ?_
  intro p e s m args below meth c Q S hr hlk hnm hQ hP ls hl
  obtain ⟨hz, hK, hT⟩ := hP
  obtain ⟨hx, hb, -, -, -⟩ := id S
  obtain ⟨H, hT, hS, hgo⟩ : ∃ H : Heap, TW E K F G [] H ∧ va_S (xA E) s.heap H [] ∧ H = s.heap := ⟨_, hT, va_S.rf, rfl⟩
  rw [← hgo]
  have hl : lv_has ls 2 [(0, .ref a), (1, .ref p0)] := hl
  refine lv_aload_n hx hb dX0_enter_0 rfl (lv_at hl 1 rfl) ?_
  refine gX7_1 S hK hT hp0 kf_X0_28 dX0_enter_1 (fun x1 hT => ?_)
  refine xi_zlt (tgt := 30) hx hb (rfl : Int32.toInt x1 = x1.toInt) dX0_enter_4 (by decide) (fun c2 => ?_) (fun c2 => ?_)
  · exact x_rv hx hb hr hlk hQ (Nat.le_of_ble_eq_true rfl) (Nat.le_of_ble_eq_true rfl) hS dX0_enter_30 () trivial hT.nil
  · refine lv_aload_n hx hb dX0_enter_7 rfl (lv_at hl 1 rfl) ?_
    refine kX7_1 (v := x1) S hK hT hp0 (List.mem_of_getElem? (i := 0) rfl) kf_X0_28 dX0_enter_8 ?_
    refine lv_bipush (v := 12) hx hb dX0_enter_11 (by decide) ?_
    refine xi_cge (tgt := 30) hx hb (rfl : Int32.toInt x1 = x1.toInt) ((by decide) : Int32.toInt 12 = (12 : Int)) dX0_enter_13 (by decide) (fun c3 => ?_) (fun c3 => ?_)
    · exact x_rv hx hb hr hlk hQ (Nat.le_of_ble_eq_true rfl) (Nat.le_of_ble_eq_true rfl) hS dX0_enter_30 () trivial hT.nil
    · refine lv_aload_n hx hb dX0_enter_16 rfl (lv_at hl 0 rfl) ?_
      refine gX0_0 S hK hT ha kf_X0_11 dX0_enter_17 (fun hk4 => ?_)
      refine lv_aload_n hx hb dX0_enter_20 rfl (lv_at hl 1 rfl) ?_
      refine kX7_1 (v := x1) S hK hT hp0 (List.mem_of_getElem? (i := 0) rfl) kf_X0_28 dX0_enter_21 ?_
      refine lv_aload_n hx hb dX0_enter_24 rfl (lv_at hl 1 rfl) ?_
      refine as_15r S hK hT hS hk4 hp0 (z_X0_enter_1 x1.toInt c2 c3 (xr x1)) dX0_enter_25 (fun H locs hT hS => ?_)
      refine lv_aload_n hx hb dX0_enter_26 rfl (lv_at hl 0 rfl) ?_
      refine x_cv0 (x_runV (b := a) (As := []) (rest := []) S (c_X0_arrange l E K F G a ha) mv_X0_arrange km_X0_31 rfl rfl ⟨Nat.le_of_ble_eq_true rfl, Nat.le_of_ble_eq_true rfl⟩ (rc_2 hK hT ha) hK (fun _ => XP.blind) (fun U hU hW => XP.at hK hz hS hT hU hW) rfl hl.1 (Nat.le_of_ble_eq_true rfl) dX0_enter_27 ⟨Nat.le_of_ble_eq_true rfl, Nat.le_of_ble_eq_true rfl⟩) hS ?_
      rintro _ H locs - hT hS
      exact x_rv hx hb hr hlk hQ (Nat.le_of_ble_eq_true rfl) (Nat.le_of_ble_eq_true rfl) hS dX0_enter_30 () trivial hT.nil

theorem z_X0_strike_1 (a0 : Int) (h0 : ¬ (a0 < 0)) (h1 : ¬ ((12 : Int) ≤ a0)) (r0 : -2147483648 ≤ a0 ∧ a0 < 2147483648) : 0 ≤ a0 ∧ a0 < 12 := by omega
abbrev rm_X0_strike : Room := { frames := 2, cells := 0, slots := 0, locals := 45 }
set_option maxHeartbeats 4000000 in
set_option maxRecDepth 100000 in
theorem c_X0_strike (l : Launch) (E : XE) (K : Nat → Nat) (F : Nat → Nat → Nat) (G : XG) (a : Nat) (p0 : Int32) (ha : K a = 2) : Met l yX0_strike (xw yX0_strike cX0_strike 2 none) rm_X0_strike (va_Pc [.ref a, .int p0] (XP E K F G)) (XQv E (fun (u : Unit) => True) (fun _ H => TW E K F G [] H)) 0 0 (xA E) := by
  refine x_enter (by decide) (Nat.le_of_ble_eq_true rfl) ?_
  intro p e s m args below meth c Q S hr hlk hnm hQ hP ls hl
  obtain ⟨hz, hK, hT⟩ := hP
  obtain ⟨hx, hb, -, -, -⟩ := id S
  obtain ⟨H, hT, hS, hgo⟩ : ∃ H : Heap, TW E K F G [] H ∧ va_S (xA E) s.heap H [] ∧ H = s.heap := ⟨_, hT, va_S.rf, rfl⟩
  rw [← hgo]
  have hl : lv_has ls 2 [(0, .ref a), (1, .int p0)] := hl
  refine lv_iload_n hx hb dX0_strike_0 rfl (lv_at hl 1 rfl) ?_
  refine xi_zlt (tgt := 21) hx hb (rfl : Int32.toInt p0 = p0.toInt) dX0_strike_1 (by decide) (fun c1 => ?_) (fun c1 => ?_)
  · exact x_rv hx hb hr hlk hQ (Nat.le_of_ble_eq_true rfl) (Nat.le_of_ble_eq_true rfl) hS dX0_strike_21 () trivial hT.nil
  · refine lv_iload_n hx hb dX0_strike_4 rfl (lv_at hl 1 rfl) ?_
    refine lv_bipush (v := 12) hx hb dX0_strike_5 (by decide) ?_
    refine xi_cge (tgt := 21) hx hb (rfl : Int32.toInt p0 = p0.toInt) ((by decide) : Int32.toInt 12 = (12 : Int)) dX0_strike_7 (by decide) (fun c2 => ?_) (fun c2 => ?_)
    · exact x_rv hx hb hr hlk hQ (Nat.le_of_ble_eq_true rfl) (Nat.le_of_ble_eq_true rfl) hS dX0_strike_21 () trivial hT.nil
    · refine lv_aload_n hx hb dX0_strike_10 rfl (lv_at hl 0 rfl) ?_
      refine gX0_0 S hK hT ha kf_X0_11 dX0_strike_11 (fun hk3 => ?_)
      refine lv_iload_n hx hb dX0_strike_14 rfl (lv_at hl 1 rfl) ?_
      refine lv_null hx hb dX0_strike_15 ?_
      refine as_15n S hK hT hS hk3 (z_X0_strike_1 p0.toInt c1 c2 (xr p0)) dX0_strike_16 (fun H locs hT hS => ?_)
      refine lv_aload_n hx hb dX0_strike_17 rfl (lv_at hl 0 rfl) ?_
      refine x_cv0 (x_runV (b := a) (As := []) (rest := []) S (c_X0_arrange l E K F G a ha) mv_X0_arrange km_X0_31 rfl rfl ⟨Nat.le_of_ble_eq_true rfl, Nat.le_of_ble_eq_true rfl⟩ (rc_2 hK hT ha) hK (fun _ => XP.blind) (fun U hU hW => XP.at hK hz hS hT hU hW) rfl hl.1 (Nat.le_of_ble_eq_true rfl) dX0_strike_18 ⟨Nat.le_of_ble_eq_true rfl, Nat.le_of_ble_eq_true rfl⟩) hS ?_
      rintro _ H locs - hT hS
      exact x_rv hx hb hr hlk hQ (Nat.le_of_ble_eq_true rfl) (Nat.le_of_ble_eq_true rfl) hS dX0_strike_21 () trivial hT.nil
