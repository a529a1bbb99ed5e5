theorem z_X1_valuesDiffer_1 (a0 : Int) (h0 : (0 : Int) ≤ a0) (r0 : -2147483648 ≤ a0 ∧ a0 < 2147483648) : ¬ (2147483648 - a0 < ((0 : Nat) : Int)) := by omega
theorem z_X1_valuesDiffer_2 (a0 : Int) (a1 : Int) (a2 : Nat) (h0 : (0 : Int) ≤ a0) (h1 : 2147483648 - a0 < ((a2 + 1 : Nat) : Int)) (h2 : ¬ ((3 : Int) ≤ a0)) (h3 : a1 = a0 + 1 ∨ a0 + 1 < -2147483648 ∨ 2147483648 ≤ a0 + 1) (r0 : -2147483648 ≤ a0 ∧ a0 < 2147483648) (r1 : -2147483648 ≤ a1 ∧ a1 < 2147483648) : (0 : Int) ≤ a1 := by omega
theorem z_X1_valuesDiffer_3 (a0 : Int) (a1 : Int) (a2 : Nat) (h0 : (0 : Int) ≤ a0) (h1 : 2147483648 - a0 < ((a2 + 1 : Nat) : Int)) (h2 : ¬ ((3 : Int) ≤ a0)) (h3 : a1 = a0 + 1 ∨ a0 + 1 < -2147483648 ∨ 2147483648 ≤ a0 + 1) (r0 : -2147483648 ≤ a0 ∧ a0 < 2147483648) (r1 : -2147483648 ≤ a1 ∧ a1 < 2147483648) : 2147483648 - a1 < ((a2 : Nat) : Int) := by omega
abbrev rm_X1_valuesDiffer : Room := { frames := 2, cells := 0, slots := 0, locals := 44 }
set_option maxHeartbeats 4000000 in
set_option maxRecDepth 100000 in
theorem c_X1_valuesDiffer (l : Launch) (E : XE) (K : Nat → Nat) (F : Nat → Nat → Nat) (G : XG) (h0 : Heap) (p0 : Nat) (p1 : Nat) (p2 : Int32) (p3 : Int32) (hp0 : K p0 = 8) (hp1 : K p1 = 8) : Met l yX1_valuesDiffer (xw yX1_valuesDiffer cX1_valuesDiffer 5 (some .boolean)) rm_X1_valuesDiffer (va_Pc [.ref p0, .ref p1, .int p2, .int p3] (XPh E K F G h0)) (XQ E (fun v (u : Unit) => ∃ r : Int32, v = .int r ∧ (r = 0 ∨ r = 1)) (fun _ H => H = h0)) 0 0 (xA E) := by
  refine x_enter (by decide) (Nat.le_of_ble_eq_true rfl) ?_
  intro p e s m args below meth c Q S hr hlk hnm hQ hP ls hl
  obtain ⟨⟨hz, hK, hT⟩, hh⟩ := hP
  obtain ⟨hx, hb, -, -, -⟩ := id S
  have hS : va_S (xA E) s.heap s.heap [] := va_S.rf
  have hl : lv_has ls 5 [(0, .ref p0), (1, .ref p1), (2, .int p2), (3, .int p3)] := hl
  refine lv_iconst (v := 0) hx hb dX1_valuesDiffer_0 (by decide) ?_
  refine lv_istore (lv' := [(4, .int 0), (0, .ref p0), (1, .ref p1), (2, .int p2), (3, .int p3)]) hx hb dX1_valuesDiffer_1 hl (by decide) rfl (fun ls hl => ?_)
  have L3 : ∀ (N2 : Nat) (x1 : Int32) (locs : List Loc) (ls : Array Slot), (0 : Int) ≤ x1.toInt → 2147483648 - x1.toInt < ((N2 : Nat) : Int) → TW E K F G [] s.heap → va_S (xA E) s.heap s.heap locs → lv_has ls 5 [(0, .ref p0), (1, .ref p1), (2, .int p2), (3, .int p3), (4, .int x1)] → W p l e rm_X1_valuesDiffer s m args below meth c s.heap locs 0 0 Q (F0 m 3 ls []) := by
    intro N2
    induction N2 with
    | zero =>
      intro x1 locs ls hf3 hm4
      exact absurd hm4 (z_X1_valuesDiffer_1 x1.toInt hf3 (xr x1))
    | succ N2 ih5 =>
      intro x1 locs ls hf3 hm4 hT hS hl
      refine lv_iload hx hb dX1_valuesDiffer_3 (lv_at hl 4 rfl) ?_
      refine lv_iconst (v := 3) hx hb dX1_valuesDiffer_5 (by decide) ?_
      refine xi_cge (tgt := 36) hx hb (rfl : Int32.toInt x1 = x1.toInt) ((by decide) : Int32.toInt 3 = (3 : Int)) dX1_valuesDiffer_6 (by decide) (fun c6 => ?_) (fun c6 => ?_)
      · refine lv_iconst (v := 0) hx hb dX1_valuesDiffer_36 (by decide) ?_
        exact x_rz hx hb hr (xnz (Or.inl rfl)) hlk hQ (Nat.le_of_ble_eq_true rfl) (Nat.le_of_ble_eq_true rfl) hS dX1_valuesDiffer_37 () ⟨_, rfl, (Or.inl rfl)⟩ hh
      · refine lv_aload_n hx hb dX1_valuesDiffer_9 rfl (lv_at hl 0 rfl) ?_
        refine lv_iload_n hx hb dX1_valuesDiffer_10 rfl (lv_at hl 2 rfl) ?_
        refine lv_iload_n hx hb dX1_valuesDiffer_11 rfl (lv_at hl 3 rfl) ?_
        refine lv_iload hx hb dX1_valuesDiffer_12 (lv_at hl 4 rfl) ?_
        refine x_clp (x_runV (b := p0) (As := [.int p2, .int p3, .int x1]) (rest := []) S (c_X6_cell l E K F G s.heap p0 p2 p3 x1 hp0) mv_X6_cell km_X1_86 rfl rfl ⟨Nat.le_of_ble_eq_true rfl, Nat.le_of_ble_eq_true rfl⟩ (rc_8 hK hT hp0) hK (fun _ => XPh.blind) (fun U hU hW => XPh.at hK hz hS hT hU hW) rfl hl.1 (Nat.le_of_ble_eq_true rfl) dX1_valuesDiffer_14 ⟨Nat.le_of_ble_eq_true rfl, Nat.le_of_ble_eq_true rfl⟩) hS ?_
        rintro _ _ locs ⟨x7, rfl⟩ hS
        refine lv_aload_n hx hb dX1_valuesDiffer_17 rfl (lv_at hl 1 rfl) ?_
        refine lv_iload_n hx hb dX1_valuesDiffer_18 rfl (lv_at hl 2 rfl) ?_
        refine lv_iload_n hx hb dX1_valuesDiffer_19 rfl (lv_at hl 3 rfl) ?_
        refine lv_iload hx hb dX1_valuesDiffer_20 (lv_at hl 4 rfl) ?_
        refine x_clp (x_runV (b := p1) (As := [.int p2, .int p3, .int x1]) (rest := [.int x7]) S (c_X6_cell l E K F G s.heap p1 p2 p3 x1 hp1) mv_X6_cell km_X1_86 rfl rfl ⟨Nat.le_of_ble_eq_true rfl, Nat.le_of_ble_eq_true rfl⟩ (rc_8 hK hT hp1) hK (fun _ => XPh.blind) (fun U hU hW => XPh.at hK hz hS hT hU hW) rfl hl.1 (Nat.le_of_ble_eq_true rfl) dX1_valuesDiffer_22 ⟨Nat.le_of_ble_eq_true rfl, Nat.le_of_ble_eq_true rfl⟩) hS ?_
        rintro _ _ locs ⟨x8, rfl⟩ hS
        refine xi_ceq (tgt := 30) hx hb (rfl : Int32.toInt x7 = x7.toInt) (rfl : Int32.toInt x8 = x8.toInt) dX1_valuesDiffer_25 (by decide) (fun c9 => ?_) (fun c9 => ?_)
        · refine xi_iinc (n := 1) (lv' := fun z9 => [(4, .int z9), (0, .ref p0), (1, .ref p1), (2, .int p2), (3, .int p3)]) (k := 4) hx hb (rfl : Int32.toInt x1 = x1.toInt) (by decide) dX1_valuesDiffer_30 hl rfl (by decide) (fun _ => rfl) (fun x10 ls t11 hl => ?_)
          have hl : lv_has ls 5 [(4, .int x10), (0, .ref p0), (1, .ref p1), (2, .int p2), (3, .int p3)] := hl
          refine lv_goto (tgt := 3) hx hb dX1_valuesDiffer_33 (by decide) ?_
          exact ih5 x10 _ _ (z_X1_valuesDiffer_2 x1.toInt x10.toInt N2 hf3 hm4 c6 t11 (xr x1) (xr x10)) (z_X1_valuesDiffer_3 x1.toInt x10.toInt N2 hf3 hm4 c6 t11 (xr x1) (xr x10)) hT.nil hS (lv_sub hl [1, 2, 3, 4, 0] rfl)
        · refine lv_iconst (v := 1) hx hb dX1_valuesDiffer_28 (by decide) ?_
          exact x_rz hx hb hr (xnz (Or.inr rfl)) hlk hQ (Nat.le_of_ble_eq_true rfl) (Nat.le_of_ble_eq_true rfl) hS dX1_valuesDiffer_29 () ⟨_, rfl, (Or.inr rfl)⟩ hh
  exact L3 4294967297 0 _ _ (by decide) (by decide) hT.nil hS (lv_sub hl [1, 2, 3, 4, 0] rfl)

theorem z_X1_ofAllRows_1 (a0 : Int) (h0 : (0 : Int) ≤ a0) (r0 : -2147483648 ≤ a0 ∧ a0 < 2147483648) : ¬ (2147483648 - a0 < ((0 : Nat) : Int)) := by omega
theorem z_X1_ofAllRows_2 (a0 : Int) (a1 : Nat) (h0 : (0 : Int) ≤ a0) (h1 : 2147483648 - a0 < ((a1 + 1 : Nat) : Int)) (h2 : ¬ ((3 : Int) ≤ a0)) (r0 : -2147483648 ≤ a0 ∧ a0 < 2147483648) : 0 ≤ a0 ∧ a0 < ((3 : Nat) : Int) := by omega
theorem z_X1_ofAllRows_3 (a0 : Int) (a1 : Nat) (h0 : (0 : Int) ≤ a0) (h1 : 2147483648 - a0 < ((a1 + 1 : Nat) : Int)) (h2 : ¬ ((3 : Int) ≤ a0)) (r0 : -2147483648 ≤ a0 ∧ a0 < 2147483648) : 0 ≤ a0 ∧ a0 < ((3 : Nat) : Int) := by omega
theorem z_X1_ofAllRows_4 (a0 : Int) (a1 : Nat) (h0 : (0 : Int) ≤ a0) (h1 : 2147483648 - a0 < ((a1 + 1 : Nat) : Int)) (h2 : ¬ ((3 : Int) ≤ a0)) (r0 : -2147483648 ≤ a0 ∧ a0 < 2147483648) : 0 ≤ a0 ∧ a0 < ((3 : Nat) : Int) := by omega
theorem z_X1_ofAllRows_5 (a0 : Int) (h0 : (0 : Int) ≤ a0) (r0 : -2147483648 ≤ a0 ∧ a0 < 2147483648) : ¬ (2147483648 - a0 < ((0 : Nat) : Int)) := by omega
theorem z_X1_ofAllRows_6 (a0 : Int) (a1 : Int) (a2 : Nat) (h0 : (0 : Int) ≤ a0) (h1 : 2147483648 - a0 < ((a2 + 1 : Nat) : Int)) (h2 : ¬ ((3 : Int) ≤ a0)) (h3 : a1 = a0 + 1 ∨ a0 + 1 < -2147483648 ∨ 2147483648 ≤ a0 + 1) (r0 : -2147483648 ≤ a0 ∧ a0 < 2147483648) (r1 : -2147483648 ≤ a1 ∧ a1 < 2147483648) : (0 : Int) ≤ a1 := by omega
theorem z_X1_ofAllRows_7 (a0 : Int) (a1 : Int) (a2 : Nat) (h0 : (0 : Int) ≤ a0) (h1 : 2147483648 - a0 < ((a2 + 1 : Nat) : Int)) (h2 : ¬ ((3 : Int) ≤ a0)) (h3 : a1 = a0 + 1 ∨ a0 + 1 < -2147483648 ∨ 2147483648 ≤ a0 + 1) (r0 : -2147483648 ≤ a0 ∧ a0 < 2147483648) (r1 : -2147483648 ≤ a1 ∧ a1 < 2147483648) : 2147483648 - a1 < ((a2 : Nat) : Int) := by omega
theorem z_X1_ofAllRows_8 (a0 : Int) (a1 : Int) (a2 : Nat) (h0 : (0 : Int) ≤ a0) (h1 : 2147483648 - a0 < ((a2 + 1 : Nat) : Int)) (h2 : ¬ ((30 : Int) ≤ a0)) (h3 : a1 = a0 + 1 ∨ a0 + 1 < -2147483648 ∨ 2147483648 ≤ a0 + 1) (r0 : -2147483648 ≤ a0 ∧ a0 < 2147483648) (r1 : -2147483648 ≤ a1 ∧ a1 < 2147483648) : (0 : Int) ≤ a1 := by omega
theorem z_X1_ofAllRows_9 (a0 : Int) (a1 : Int) (a2 : Nat) (h0 : (0 : Int) ≤ a0) (h1 : 2147483648 - a0 < ((a2 + 1 : Nat) : Int)) (h2 : ¬ ((30 : Int) ≤ a0)) (h3 : a1 = a0 + 1 ∨ a0 + 1 < -2147483648 ∨ 2147483648 ≤ a0 + 1) (r0 : -2147483648 ≤ a0 ∧ a0 < 2147483648) (r1 : -2147483648 ≤ a1 ∧ a1 < 2147483648) : 2147483648 - a1 < ((a2 : Nat) : Int) := by omega
theorem z_X1_ofAllRows_10 (a0 : Int) (a1 : Nat) (h0 : (0 : Int) ≤ a0) (h1 : 2147483648 - a0 < ((a1 + 1 : Nat) : Int)) (h2 : ¬ ((3 : Int) ≤ a0)) (r0 : -2147483648 ≤ a0 ∧ a0 < 2147483648) : 0 ≤ a0 ∧ a0 < ((3 : Nat) : Int) := by omega
theorem z_X1_ofAllRows_11 (a0 : Int) (a1 : Nat) (h0 : (0 : Int) ≤ a0) (h1 : 2147483648 - a0 < ((a1 + 1 : Nat) : Int)) (h2 : ¬ ((3 : Int) ≤ a0)) (r0 : -2147483648 ≤ a0 ∧ a0 < 2147483648) : 0 ≤ a0 ∧ a0 < ((3 : Nat) : Int) := by omega
abbrev rm_X1_ofAllRows : Room := { frames := 3, cells := 0, slots := 0, locals := 68 }
set_option maxHeartbeats 4000000 in
set_option maxRecDepth 100000 in
theorem c_X1_ofAllRows (l : Launch) (E : XE) (K : Nat → Nat) (F : Nat → Nat → Nat) (G : XG) (a : Nat) (p0 : Nat) (p1 : Nat) (ha : K a = 3) (hp0 : K p0 = 8) (hp1 : K p1 = 8) : Met l yX1_ofAllRows (xw yX1_ofAllRows cX1_ofAllRows 6 none) rm_X1_ofAllRows (va_Pc [.ref a, .ref p0, .ref p1] (XP E K F G)) (XQv E (fun (u : Unit) => True) (fun _ H => TW E K F G [] H)) 0 0 (xA E) := by
  refine x_enter (by decide) (Nat.le_of_ble_eq_true rfl) ?_
  intro p e s m args below meth c Q S hr hlk hnm hQ hP ls hl
  obtain ⟨hz, hK, hT⟩ := hP
  obtain ⟨hx, hb, -, -, -⟩ := id S
  obtain ⟨H, hT, hS, hgo⟩ : ∃ H : Heap, TW E K F G [] H ∧ va_S (xA E) s.heap H [] ∧ H = s.heap := ⟨_, hT, va_S.rf, rfl⟩
  rw [← hgo]
  have hl : lv_has ls 6 [(0, .ref a), (1, .ref p0), (2, .ref p1)] := hl
  refine lv_iconst (v := 0) hx hb dX1_ofAllRows_0 (by decide) ?_
  refine lv_istore_n (lv' := [(3, .int 0), (0, .ref a), (1, .ref p0), (2, .ref p1)]) hx hb dX1_ofAllRows_1 rfl hl (by decide) rfl (fun ls hl => ?_)
  have L2 : ∀ (N2 : Nat) (x1 : Int32) (H : Heap) (locs : List Loc) (ls : Array Slot), (0 : Int) ≤ x1.toInt → 2147483648 - x1.toInt < ((N2 : Nat) : Int) → TW E K F G [] H → va_S (xA E) s.heap H locs → lv_has ls 6 [(0, .ref a), (1, .ref p0), (2, .ref p1), (3, .int x1)] → W p l e rm_X1_ofAllRows s m args below meth c H locs 0 0 Q (F0 m 2 ls []) := by
    intro N2
    induction N2 with
    | zero =>
      intro x1 H locs ls hf3 hm4
      exact absurd hm4 (z_X1_ofAllRows_1 x1.toInt hf3 (xr x1))
    | succ N2 ih5 =>
      intro x1 H locs ls hf3 hm4 hT hS hl
      refine lv_iload_n hx hb dX1_ofAllRows_2 rfl (lv_at hl 3 rfl) ?_
      refine lv_iconst (v := 3) hx hb dX1_ofAllRows_3 (by decide) ?_
      refine xi_cge (tgt := 105) hx hb (rfl : Int32.toInt x1 = x1.toInt) ((by decide) : Int32.toInt 3 = (3 : Int)) dX1_ofAllRows_4 (by decide) (fun c6 => ?_) (fun c6 => ?_)
      · exact x_rv hx hb hr hlk hQ (Nat.le_of_ble_eq_true rfl) (Nat.le_of_ble_eq_true rfl) hS dX1_ofAllRows_105 () trivial hT.nil
      · refine lv_aload_n hx hb dX1_ofAllRows_7 rfl (lv_at hl 0 rfl) ?_
        refine gX1_1 S hK hT ha kf_X1_15 dX1_ofAllRows_8 (fun hk7 => ?_)
        refine lv_iload_n hx hb dX1_ofAllRows_11 rfl (lv_at hl 3 rfl) ?_
        refine lv_aload_n hx hb dX1_ofAllRows_12 rfl (lv_at hl 1 rfl) ?_
        refine lv_iload_n hx hb dX1_ofAllRows_13 rfl (lv_at hl 3 rfl) ?_
        refine x_clp (x_runV (b := p0) (As := [.int x1]) (rest := [.int x1, .ref (F a 1)]) S (c_X6_keyBits l E K F G H p0 x1 hp0) mv_X6_keyBits km_X1_21 rfl rfl ⟨Nat.le_of_ble_eq_true rfl, Nat.le_of_ble_eq_true rfl⟩ (rc_8 hK hT hp0) hK (fun _ => XPh.blind) (fun U hU hW => XPh.at hK hz hS hT hU hW) rfl hl.1 (Nat.le_of_ble_eq_true rfl) dX1_ofAllRows_14 ⟨Nat.le_of_ble_eq_true rfl, Nat.le_of_ble_eq_true rfl⟩) hS ?_
        rintro _ _ locs ⟨x8, rfl⟩ hS
        refine lv_aload_n hx hb dX1_ofAllRows_17 rfl (lv_at hl 2 rfl) ?_
        refine lv_iload_n hx hb dX1_ofAllRows_18 rfl (lv_at hl 3 rfl) ?_
        refine x_clp (x_runV (b := p1) (As := [.int x1]) (rest := [.int x8, .int x1, .ref (F a 1)]) S (c_X6_keyBits l E K F G H p1 x1 hp1) mv_X6_keyBits km_X1_21 rfl rfl ⟨Nat.le_of_ble_eq_true rfl, Nat.le_of_ble_eq_true rfl⟩ (rc_8 hK hT hp1) hK (fun _ => XPh.blind) (fun U hU hW => XPh.at hK hz hS hT hU hW) rfl hl.1 (Nat.le_of_ble_eq_true rfl) dX1_ofAllRows_19 ⟨Nat.le_of_ble_eq_true rfl, Nat.le_of_ble_eq_true rfl⟩) hS ?_
        rintro _ _ locs ⟨x9, rfl⟩ hS
        refine lv_ixor hx hb dX1_ofAllRows_22 (lv_topi (fun x10 _ => ?_))
        refine as_0 S hK hT hS hk7 ar_21 aw_21 (by decide) (z_X1_ofAllRows_2 x1.toInt N2 hf3 hm4 c6 (xr x1)) dX1_ofAllRows_23 (fun H locs hT hS => ?_)
        refine lv_aload_n hx hb dX1_ofAllRows_24 rfl (lv_at hl 0 rfl) ?_
        refine gX1_0 S hK hT ha kf_X1_9 dX1_ofAllRows_25 (fun hk11 => ?_)
        refine lv_iload_n hx hb dX1_ofAllRows_28 rfl (lv_at hl 3 rfl) ?_
        refine lv_aload_n hx hb dX1_ofAllRows_29 rfl (lv_at hl 0 rfl) ?_
        refine gX1_1 S hK hT ha kf_X1_15 dX1_ofAllRows_30 (fun hk12 => ?_)
        refine lv_iload_n hx hb dX1_ofAllRows_33 rfl (lv_at hl 3 rfl) ?_
        refine al_0 S hK hT hk12 ar_21 (by decide) (z_X1_ofAllRows_3 x1.toInt N2 hf3 hm4 c6 (xr x1)) dX1_ofAllRows_34 (fun x13 o14 => ?_)
        refine as_0 S hK hT hS hk11 ar_21 aw_21 (by decide) (z_X1_ofAllRows_4 x1.toInt N2 hf3 hm4 c6 (xr x1)) dX1_ofAllRows_35 (fun H locs hT hS => ?_)
        refine lv_aload_n hx hb dX1_ofAllRows_36 rfl (lv_at hl 1 rfl) ?_
        refine lv_iload_n hx hb dX1_ofAllRows_37 rfl (lv_at hl 3 rfl) ?_
        refine x_clp (x_runV (b := p0) (As := [.int x1]) (rest := []) S (c_X6_keyBits l E K F G H p0 x1 hp0) mv_X6_keyBits km_X1_21 rfl rfl ⟨Nat.le_of_ble_eq_true rfl, Nat.le_of_ble_eq_true rfl⟩ (rc_8 hK hT hp0) hK (fun _ => XPh.blind) (fun U hU hW => XPh.at hK hz hS hT hU hW) rfl hl.1 (Nat.le_of_ble_eq_true rfl) dX1_ofAllRows_38 ⟨Nat.le_of_ble_eq_true rfl, Nat.le_of_ble_eq_true rfl⟩) hS ?_
        rintro _ _ locs ⟨x15, rfl⟩ hS
        refine lv_aload_n hx hb dX1_ofAllRows_41 rfl (lv_at hl 2 rfl) ?_
        refine lv_iload_n hx hb dX1_ofAllRows_42 rfl (lv_at hl 3 rfl) ?_
        refine x_clp (x_runV (b := p1) (As := [.int x1]) (rest := [.int x15]) S (c_X6_keyBits l E K F G H p1 x1 hp1) mv_X6_keyBits km_X1_21 rfl rfl ⟨Nat.le_of_ble_eq_true rfl, Nat.le_of_ble_eq_true rfl⟩ (rc_8 hK hT hp1) hK (fun _ => XPh.blind) (fun U hU hW => XPh.at hK hz hS hT hU hW) rfl hl.1 (Nat.le_of_ble_eq_true rfl) dX1_ofAllRows_43 ⟨Nat.le_of_ble_eq_true rfl, Nat.le_of_ble_eq_true rfl⟩) hS ?_
        rintro _ _ locs ⟨x16, rfl⟩ hS
        refine lv_iand hx hb dX1_ofAllRows_46 (lv_topi (fun x17 _ => ?_))
        refine lv_istore (lv' := [(4, .int x17), (0, .ref a), (1, .ref p0), (2, .ref p1), (3, .int x1)]) hx hb dX1_ofAllRows_47 hl (by decide) rfl (fun ls hl => ?_)
        refine lv_iconst (v := 0) hx hb dX1_ofAllRows_49 (by decide) ?_
        refine lv_istore (lv' := [(5, .int 0), (4, .int x17), (0, .ref a), (1, .ref p0), (2, .ref p1), (3, .int x1)]) hx hb dX1_ofAllRows_50 hl (by decide) rfl (fun ls hl => ?_)
        have L52 : ∀ (N19 : Nat) (x18 : Int32) (H : Heap) (locs : List Loc) (ls : Array Slot), (0 : Int) ≤ x18.toInt → 2147483648 - x18.toInt < ((N19 : Nat) : Int) → TW E K F G [] H → va_S (xA E) s.heap H locs → lv_has ls 6 [(0, .ref a), (1, .ref p0), (2, .ref p1), (3, .int x1), (4, .int x17), (5, .int x18)] → W p l e rm_X1_ofAllRows s m args below meth c H locs 0 0 Q (F0 m 52 ls []) := by
          intro N19
          induction N19 with
          | zero =>
            intro x18 H locs ls hf20 hm21
            exact absurd hm21 (z_X1_ofAllRows_5 x18.toInt hf20 (xr x18))
          | succ N19 ih22 =>
            intro x18 H locs ls hf20 hm21 hT hS hl
            refine lv_iload hx hb dX1_ofAllRows_52 (lv_at hl 5 rfl) ?_
            refine lv_bipush (v := 30) hx hb dX1_ofAllRows_54 (by decide) ?_
            refine xi_cge (tgt := 99) hx hb (rfl : Int32.toInt x18 = x18.toInt) ((by decide) : Int32.toInt 30 = (30 : Int)) dX1_ofAllRows_56 (by decide) (fun c23 => ?_) (fun c23 => ?_)
            · refine xi_iinc (n := 1) (lv' := fun z9 => [(3, .int z9), (0, .ref a), (1, .ref p0), (2, .ref p1), (4, .int x17), (5, .int x18)]) (k := 3) hx hb (rfl : Int32.toInt x1 = x1.toInt) (by decide) dX1_ofAllRows_99 hl rfl (by decide) (fun _ => rfl) (fun x24 ls t25 hl => ?_)
              have hl : lv_has ls 6 [(3, .int x24), (0, .ref a), (1, .ref p0), (2, .ref p1), (4, .int x17), (5, .int x18)] := hl
              refine lv_goto (tgt := 2) hx hb dX1_ofAllRows_102 (by decide) ?_
              exact ih5 x24 _ _ _ (z_X1_ofAllRows_6 x1.toInt x24.toInt N2 hf3 hm4 c6 t25 (xr x1) (xr x24)) (z_X1_ofAllRows_7 x1.toInt x24.toInt N2 hf3 hm4 c6 t25 (xr x1) (xr x24)) hT.nil hS (lv_sub hl [1, 2, 3, 0] rfl)
            · refine lv_iload hx hb dX1_ofAllRows_59 (lv_at hl 4 rfl) ?_
              refine lv_iload hx hb dX1_ofAllRows_61 (lv_at hl 5 rfl) ?_
              refine lv_ishr hx hb dX1_ofAllRows_63 (lv_topi (fun x26 _ => ?_))
              refine lv_iconst (v := 1) hx hb dX1_ofAllRows_64 (by decide) ?_
              refine lv_iand hx hb dX1_ofAllRows_65 (lv_topi (fun x27 _ => ?_))
              have J93 : ∀ (H : Heap) (locs : List Loc) (ls : Array Slot), TW E K F G [] H → va_S (xA E) s.heap H locs → lv_has ls 6 [(0, .ref a), (1, .ref p0), (2, .ref p1), (3, .int x1), (4, .int x17), (5, .int x18)] → W p l e rm_X1_ofAllRows s m args below meth c H locs 0 0 Q (F0 m 93 ls []) := by
                intro H locs ls hT hS hl
                refine xi_iinc (n := 1) (lv' := fun z9 => [(5, .int z9), (0, .ref a), (1, .ref p0), (2, .ref p1), (3, .int x1), (4, .int x17)]) (k := 5) hx hb (rfl : Int32.toInt x18 = x18.toInt) (by decide) dX1_ofAllRows_93 hl rfl (by decide) (fun _ => rfl) (fun x28 ls t29 hl => ?_)
                have hl : lv_has ls 6 [(5, .int x28), (0, .ref a), (1, .ref p0), (2, .ref p1), (3, .int x1), (4, .int x17)] := hl
                refine lv_goto (tgt := 52) hx hb dX1_ofAllRows_96 (by decide) ?_
                exact ih22 x28 _ _ _ (z_X1_ofAllRows_8 x18.toInt x28.toInt N19 hf20 hm21 c23 t29 (xr x18) (xr x28)) (z_X1_ofAllRows_9 x18.toInt x28.toInt N19 hf20 hm21 c23 t29 (xr x18) (xr x28)) hT.nil hS (lv_sub hl [1, 2, 3, 4, 5, 0] rfl)
              refine xi_zeq (tgt := 93) hx hb (rfl : Int32.toInt x27 = x27.toInt) dX1_ofAllRows_66 (by decide) (fun c30 => ?_) (fun c30 => ?_)
              · exact J93 _ _ _ hT.nil hS (lv_sub hl [0, 1, 2, 3, 4, 5] rfl)
              · refine lv_aload_n hx hb dX1_ofAllRows_69 rfl (lv_at hl 1 rfl) ?_
                refine lv_aload_n hx hb dX1_ofAllRows_70 rfl (lv_at hl 2 rfl) ?_
                refine lv_iload_n hx hb dX1_ofAllRows_71 rfl (lv_at hl 3 rfl) ?_
                refine lv_iload hx hb dX1_ofAllRows_72 (lv_at hl 5 rfl) ?_
                refine x_clp (x_runS (As := [.ref p0, .ref p1, .int x1, .int x18]) (rest := []) S (c_X1_valuesDiffer l E K F G H p0 p1 x1 x18 hp0 hp1) ms_X1_valuesDiffer km_X1_27 rfl rfl ⟨Nat.le_of_ble_eq_true rfl, Nat.le_of_ble_eq_true rfl⟩ hK (fun _ => XPh.blind) (fun U hU hW => XPh.at hK hz hS hT hU hW) rfl hl.1 (Nat.le_of_ble_eq_true rfl) dX1_ofAllRows_74 ⟨Nat.le_of_ble_eq_true rfl, Nat.le_of_ble_eq_true rfl⟩) hS ?_
                rintro _ _ locs ⟨x31, rfl, b32⟩ hS
                refine xi_zeq (tgt := 93) hx hb (rfl : Int32.toInt x31 = x31.toInt) dX1_ofAllRows_77 (by decide) (fun c33 => ?_) (fun c33 => ?_)
                · exact J93 _ _ _ hT.nil hS (lv_sub hl [0, 1, 2, 3, 4, 5] rfl)
                · refine lv_aload_n hx hb dX1_ofAllRows_80 rfl (lv_at hl 0 rfl) ?_
                  refine gX1_0 S hK hT ha kf_X1_9 dX1_ofAllRows_81 (fun hk34 => ?_)
                  refine lv_iload_n hx hb dX1_ofAllRows_84 rfl (lv_at hl 3 rfl) ?_
                  refine lv_dup2_11 hx hb dX1_ofAllRows_85 rfl rfl ?_
                  refine al_0 S hK hT hk34 ar_21 (by decide) (z_X1_ofAllRows_10 x1.toInt N2 hf3 hm4 c6 (xr x1)) dX1_ofAllRows_86 (fun x35 o36 => ?_)
                  refine lv_iconst (v := 1) hx hb dX1_ofAllRows_87 (by decide) ?_
                  refine lv_iload hx hb dX1_ofAllRows_88 (lv_at hl 5 rfl) ?_
                  refine lv_ishl hx hb dX1_ofAllRows_90 (lv_topi (fun x37 _ => ?_))
                  refine lv_ior hx hb dX1_ofAllRows_91 (lv_topi (fun x38 _ => ?_))
                  refine as_0 S hK hT hS hk34 ar_21 aw_21 (by decide) (z_X1_ofAllRows_11 x1.toInt N2 hf3 hm4 c6 (xr x1)) dX1_ofAllRows_92 (fun H locs hT hS => ?_)
                  exact J93 _ _ _ hT.nil hS (lv_sub hl [0, 1, 2, 3, 4, 5] rfl)
        exact L52 4294967297 0 _ _ _ (by decide) (by decide) hT.nil hS (lv_sub hl [2, 3, 4, 5, 1, 0] rfl)
  exact L2 4294967297 0 _ _ _ (by decide) (by decide) hT.nil hS (lv_sub hl [1, 2, 3, 0] rfl)

theorem z_X1_ofOneRow_1 (a0 : Int) (h0 : (0 : Int) ≤ a0) (r0 : -2147483648 ≤ a0 ∧ a0 < 2147483648) : ¬ (2147483648 - a0 < ((0 : Nat) : Int)) := by omega
theorem z_X1_ofOneRow_2 (a0 : Int) (a1 : Int) (h0 : (a1 = 1 ∧ 0 ≤ a0 ∧ a0 < 3) ∨ (a1 = 0 ∧ (a0 < 0 ∨ 3 ≤ a0))) (h1 : ¬ (a1 = 0)) (r0 : -2147483648 ≤ a0 ∧ a0 < 2147483648) (r1 : -2147483648 ≤ a1 ∧ a1 < 2147483648) : 0 ≤ a0 ∧ a0 < ((3 : Nat) : Int) := by omega
theorem z_X1_ofOneRow_3 (a0 : Int) (a1 : Nat) (h0 : (0 : Int) ≤ a0) (h1 : 2147483648 - a0 < ((a1 + 1 : Nat) : Int)) (h2 : ¬ ((3 : Int) ≤ a0)) (r0 : -2147483648 ≤ a0 ∧ a0 < 2147483648) : 0 ≤ a0 ∧ a0 < ((3 : Nat) : Int) := by omega
theorem z_X1_ofOneRow_4 (a0 : Int) (a1 : Nat) (h0 : (0 : Int) ≤ a0) (h1 : 2147483648 - a0 < ((a1 + 1 : Nat) : Int)) (h2 : ¬ ((3 : Int) ≤ a0)) (r0 : -2147483648 ≤ a0 ∧ a0 < 2147483648) : 0 ≤ a0 ∧ a0 < ((3 : Nat) : Int) := by omega
theorem z_X1_ofOneRow_5 (a0 : Int) (a1 : Int) (a2 : Nat) (h0 : (0 : Int) ≤ a0) (h1 : 2147483648 - a0 < ((a2 + 1 : Nat) : Int)) (h2 : ¬ ((3 : Int) ≤ a0)) (h3 : a1 = a0 + 1 ∨ a0 + 1 < -2147483648 ∨ 2147483648 ≤ a0 + 1) (r0 : -2147483648 ≤ a0 ∧ a0 < 2147483648) (r1 : -2147483648 ≤ a1 ∧ a1 < 2147483648) : (0 : Int) ≤ a1 := by omega
theorem z_X1_ofOneRow_6 (a0 : Int) (a1 : Int) (a2 : Nat) (h0 : (0 : Int) ≤ a0) (h1 : 2147483648 - a0 < ((a2 + 1 : Nat) : Int)) (h2 : ¬ ((3 : Int) ≤ a0)) (h3 : a1 = a0 + 1 ∨ a0 + 1 < -2147483648 ∨ 2147483648 ≤ a0 + 1) (r0 : -2147483648 ≤ a0 ∧ a0 < 2147483648) (r1 : -2147483648 ≤ a1 ∧ a1 < 2147483648) : 2147483648 - a1 < ((a2 : Nat) : Int) := by omega
abbrev rm_X1_ofOneRow : Room := { frames := 1, cells := 0, slots := 0, locals := 20 }
set_option maxHeartbeats 4000000 in
set_option maxRecDepth 100000 in
theorem c_X1_ofOneRow (l : Launch) (E : XE) (K : Nat → Nat) (F : Nat → Nat → Nat) (G : XG) (a : Nat) (p0 : Int32) (p1 : Int32) (ha : K a = 3) : Met l yX1_ofOneRow (xw yX1_ofOneRow cX1_ofOneRow 4 none) rm_X1_ofOneRow (va_Pc [.ref a, .int p0, .int p1] (XP E K F G)) (XQv E (fun (u : Unit) => True) (fun _ H => TW E K F G [] H)) 0 0 (xA E) := by
  refine x_enter (by decide) (Nat.le_of_ble_eq_true rfl) ?_
  intro p e s m args below meth c Q S hr hlk hnm hQ hP ls hl
  obtain ⟨hz, hK, hT⟩ := hP
  obtain ⟨hx, hb, -, -, -⟩ := id S
  obtain ⟨H, hT, hS, hgo⟩ : ∃ H : Heap, TW E K F G [] H ∧ va_S (xA E) s.heap H [] ∧ H = s.heap := ⟨_, hT, va_S.rf, rfl⟩
  rw [← hgo]
  have hl : lv_has ls 4 [(0, .ref a), (1, .int p0), (2, .int p1)] := hl
  refine lv_iconst (v := 0) hx hb dX1_ofOneRow_0 (by decide) ?_
  refine lv_istore_n (lv' := [(3, .int 0), (0, .ref a), (1, .int p0), (2, .int p1)]) hx hb dX1_ofOneRow_1 rfl hl (by decide) rfl (fun ls hl => ?_)
  have L2 : ∀ (N2 : Nat) (x1 : Int32) (H : Heap) (locs : List Loc) (ls : Array Slot), (0 : Int) ≤ x1.toInt → 2147483648 - x1.toInt < ((N2 : Nat) : Int) → TW E K F G [] H → va_S (xA E) s.heap H locs → lv_has ls 4 [(0, .ref a), (1, .int p0), (2, .int p1), (3, .int x1)] → W p l e rm_X1_ofOneRow s m args below meth c H locs 0 0 Q (F0 m 2 ls []) := by
    intro N2
    induction N2 with
    | zero =>
      intro x1 H locs ls hf3 hm4
      exact absurd hm4 (z_X1_ofOneRow_1 x1.toInt hf3 (xr x1))
    | succ N2 ih5 =>
      intro x1 H locs ls hf3 hm4 hT hS hl
      refine lv_iload_n hx hb dX1_ofOneRow_2 rfl (lv_at hl 3 rfl) ?_
      refine lv_iconst (v := 3) hx hb dX1_ofOneRow_3 (by decide) ?_
      refine xi_cge (tgt := 27) hx hb (rfl : Int32.toInt x1 = x1.toInt) ((by decide) : Int32.toInt 3 = (3 : Int)) dX1_ofOneRow_4 (by decide) (fun c6 => ?_) (fun c6 => ?_)
      · refine lv_iload_n hx hb dX1_ofOneRow_27 rfl (lv_at hl 1 rfl) ?_
        refine x_clp (x_runSN (As := [.int p0]) (rest := []) S (c_X10_isTable l E K F G H p0) ms_X10_isTable (by decide +kernel) rfl rfl ⟨Nat.le_of_ble_eq_true rfl, Nat.le_of_ble_eq_true rfl⟩ hK (fun _ => XPh.blind) (fun U hU hW => XPh.at hK hz hS hT hU hW) rfl hl.1 (Nat.le_of_ble_eq_true rfl) dX1_ofOneRow_28 ⟨Nat.le_of_ble_eq_true rfl, Nat.le_of_ble_eq_true rfl⟩) hS ?_
        rintro _ _ locs ⟨x7, rfl, b8, t9⟩ hS
        have t9 : (x7.toInt = 1 ∧ 0 ≤ p0.toInt ∧ p0.toInt < 3) ∨ (x7.toInt = 0 ∧ (p0.toInt < 0 ∨ 3 ≤ p0.toInt)) := t9
        refine xi_zeq (tgt := 50) hx hb (rfl : Int32.toInt x7 = x7.toInt) dX1_ofOneRow_31 (by decide) (fun c10 => ?_) (fun c10 => ?_)
        · exact x_rv hx hb hr hlk hQ (Nat.le_of_ble_eq_true rfl) (Nat.le_of_ble_eq_true rfl) hS dX1_ofOneRow_50 () trivial hT.nil
        · refine lv_iload_n hx hb dX1_ofOneRow_34 rfl (lv_at hl 2 rfl) ?_
          refine x_clp (x_runSN (As := [.int p1]) (rest := []) S (c_X10_isKey l E K F G H p1) ms_X10_isKey (by decide +kernel) rfl rfl ⟨Nat.le_of_ble_eq_true rfl, Nat.le_of_ble_eq_true rfl⟩ hK (fun _ => XPh.blind) (fun U hU hW => XPh.at hK hz hS hT hU hW) rfl hl.1 (Nat.le_of_ble_eq_true rfl) dX1_ofOneRow_35 ⟨Nat.le_of_ble_eq_true rfl, Nat.le_of_ble_eq_true rfl⟩) hS ?_
          rintro _ _ locs ⟨x11, rfl, b12, t13⟩ hS
          have t13 : (x11.toInt = 1 ∧ 0 ≤ p1.toInt ∧ p1.toInt < 30) ∨ (x11.toInt = 0 ∧ (p1.toInt < 0 ∨ 30 ≤ p1.toInt)) := t13
          refine xi_zeq (tgt := 50) hx hb (rfl : Int32.toInt x11 = x11.toInt) dX1_ofOneRow_38 (by decide) (fun c14 => ?_) (fun c14 => ?_)
          · exact x_rv hx hb hr hlk hQ (Nat.le_of_ble_eq_true rfl) (Nat.le_of_ble_eq_true rfl) hS dX1_ofOneRow_50 () trivial hT.nil
          · refine lv_aload_n hx hb dX1_ofOneRow_41 rfl (lv_at hl 0 rfl) ?_
            refine gX1_0 S hK hT ha kf_X1_9 dX1_ofOneRow_42 (fun hk15 => ?_)
            refine lv_iload_n hx hb dX1_ofOneRow_45 rfl (lv_at hl 1 rfl) ?_
            refine lv_iconst (v := 1) hx hb dX1_ofOneRow_46 (by decide) ?_
            refine lv_iload_n hx hb dX1_ofOneRow_47 rfl (lv_at hl 2 rfl) ?_
            refine lv_ishl hx hb dX1_ofOneRow_48 (lv_topi (fun x16 _ => ?_))
            refine as_0 S hK hT hS hk15 ar_21 aw_21 (by decide) (z_X1_ofOneRow_2 p0.toInt x7.toInt t9 c10 (xr p0) (xr x7)) dX1_ofOneRow_49 (fun H locs hT hS => ?_)
            exact x_rv hx hb hr hlk hQ (Nat.le_of_ble_eq_true rfl) (Nat.le_of_ble_eq_true rfl) hS dX1_ofOneRow_50 () trivial hT.nil
      · refine lv_aload_n hx hb dX1_ofOneRow_7 rfl (lv_at hl 0 rfl) ?_
        refine gX1_1 S hK hT ha kf_X1_15 dX1_ofOneRow_8 (fun hk17 => ?_)
        refine lv_iload_n hx hb dX1_ofOneRow_11 rfl (lv_at hl 3 rfl) ?_
        refine lv_iconst (v := 0) hx hb dX1_ofOneRow_12 (by decide) ?_
        refine as_0 S hK hT hS hk17 ar_21 aw_21 (by decide) (z_X1_ofOneRow_3 x1.toInt N2 hf3 hm4 c6 (xr x1)) dX1_ofOneRow_13 (fun H locs hT hS => ?_)
        refine lv_aload_n hx hb dX1_ofOneRow_14 rfl (lv_at hl 0 rfl) ?_
        refine gX1_0 S hK hT ha kf_X1_9 dX1_ofOneRow_15 (fun hk18 => ?_)
        refine lv_iload_n hx hb dX1_ofOneRow_18 rfl (lv_at hl 3 rfl) ?_
        refine lv_iconst (v := 0) hx hb dX1_ofOneRow_19 (by decide) ?_
        refine as_0 S hK hT hS hk18 ar_21 aw_21 (by decide) (z_X1_ofOneRow_4 x1.toInt N2 hf3 hm4 c6 (xr x1)) dX1_ofOneRow_20 (fun H locs hT hS => ?_)
        refine xi_iinc (n := 1) (lv' := fun z9 => [(3, .int z9), (0, .ref a), (1, .int p0), (2, .int p1)]) (k := 3) hx hb (rfl : Int32.toInt x1 = x1.toInt) (by decide) dX1_ofOneRow_21 hl rfl (by decide) (fun _ => rfl) (fun x19 ls t20 hl => ?_)
        have hl : lv_has ls 4 [(3, .int x19), (0, .ref a), (1, .int p0), (2, .int p1)] := hl
        refine lv_goto (tgt := 2) hx hb dX1_ofOneRow_24 (by decide) ?_
        exact ih5 x19 _ _ _ (z_X1_ofOneRow_5 x1.toInt x19.toInt N2 hf3 hm4 c6 t20 (xr x1) (xr x19)) (z_X1_ofOneRow_6 x1.toInt x19.toInt N2 hf3 hm4 c6 t20 (xr x1) (xr x19)) hT.nil hS (lv_sub hl [1, 2, 3, 0] rfl)
  exact L2 4294967297 0 _ _ _ (by decide) (by decide) hT.nil hS (lv_sub hl [1, 2, 3, 0] rfl)

theorem z_X1_insert_1 (a0 : Int) (a1 : Int) (h0 : a1 ≤ a0) (h1 : 0 ≤ a1 ∨ a1 = a0) (r0 : -2147483648 ≤ a0 ∧ a0 < 2147483648) (r1 : -2147483648 ≤ a1 ∧ a1 < 2147483648) : ¬ (2147483648 + a1 < ((0 : Nat) : Int)) := by omega
theorem z_X1_insert_2 (a0 : Int) (r0 : -2147483648 ≤ a0 ∧ a0 < 2147483648) : ¬ (2147483648 + a0 < ((0 : Nat) : Int)) := by omega
theorem z_X1_insert_3 (a0 : Int) (a1 : Int) (a2 : Nat) (h0 : a1 ≤ a0) (h1 : 0 ≤ a1 ∨ a1 = a0) (h2 : 2147483648 + a1 < ((a2 + 1 : Nat) : Int)) (h3 : ¬ (a0 < 0)) (h4 : a0 < (90 : Int)) (h5 : ¬ (a1 < 0)) (h6 : ¬ ((90 : Int) ≤ a1)) (r0 : -2147483648 ≤ a0 ∧ a0 < 2147483648) (r1 : -2147483648 ≤ a1 ∧ a1 < 2147483648) : 0 ≤ a1 ∧ a1 < ((90 : Nat) : Int) := by omega
theorem z_X1_insert_4 (a0 : Int) (a1 : Int) (a2 : Int) (a3 : Int) (a4 : Nat) (a5 : Nat) (h0 : a2 ≤ a0) (h1 : 0 ≤ a2 ∨ a2 = a0) (h2 : 2147483648 + a2 < ((a5 + 1 : Nat) : Int)) (h3 : ¬ (a0 < 0)) (h4 : a0 < (90 : Int)) (h5 : 2147483648 + a1 < ((a4 + 1 : Nat) : Int)) (h6 : ¬ (a1 ≤ a2)) (h7 : ¬ ((90 : Int) ≤ a1)) (h8 : a3 = a1 - (1 : Int) ∨ a1 - (1 : Int) < -2147483648 ∨ 2147483648 ≤ a1 - (1 : Int)) (r0 : -2147483648 ≤ a0 ∧ a0 < 2147483648) (r1 : -2147483648 ≤ a1 ∧ a1 < 2147483648) (r2 : -2147483648 ≤ a2 ∧ a2 < 2147483648) (r3 : -2147483648 ≤ a3 ∧ a3 < 2147483648) : 0 ≤ a3 ∧ a3 < ((90 : Nat) : Int) := by omega
theorem z_X1_insert_5 (a0 : Int) (a1 : Int) (a2 : Int) (a3 : Int) (a4 : Nat) (a5 : Nat) (h0 : a2 ≤ a0) (h1 : 0 ≤ a2 ∨ a2 = a0) (h2 : 2147483648 + a2 < ((a5 + 1 : Nat) : Int)) (h3 : ¬ (a0 < 0)) (h4 : a0 < (90 : Int)) (h5 : 2147483648 + a1 < ((a4 + 1 : Nat) : Int)) (h6 : ¬ (a1 ≤ a2)) (h7 : ¬ ((90 : Int) ≤ a1)) (h8 : a3 = a1 - (1 : Int) ∨ a1 - (1 : Int) < -2147483648 ∨ 2147483648 ≤ a1 - (1 : Int)) (r0 : -2147483648 ≤ a0 ∧ a0 < 2147483648) (r1 : -2147483648 ≤ a1 ∧ a1 < 2147483648) (r2 : -2147483648 ≤ a2 ∧ a2 < 2147483648) (r3 : -2147483648 ≤ a3 ∧ a3 < 2147483648) : 0 ≤ a1 ∧ a1 < ((90 : Nat) : Int) := by omega
theorem z_X1_insert_6 (a0 : Int) (a1 : Int) (a2 : Int) (a3 : Int) (a4 : Int) (a5 : Nat) (a6 : Nat) (h0 : a2 ≤ a0) (h1 : 0 ≤ a2 ∨ a2 = a0) (h2 : 2147483648 + a2 < ((a6 + 1 : Nat) : Int)) (h3 : ¬ (a0 < 0)) (h4 : a0 < (90 : Int)) (h5 : 2147483648 + a1 < ((a5 + 1 : Nat) : Int)) (h6 : ¬ (a1 ≤ a2)) (h7 : ¬ ((90 : Int) ≤ a1)) (h8 : a3 = a1 - (1 : Int) ∨ a1 - (1 : Int) < -2147483648 ∨ 2147483648 ≤ a1 - (1 : Int)) (h9 : a4 = a1 + (-1) ∨ a1 + (-1) < -2147483648 ∨ 2147483648 ≤ a1 + (-1)) (r0 : -2147483648 ≤ a0 ∧ a0 < 2147483648) (r1 : -2147483648 ≤ a1 ∧ a1 < 2147483648) (r2 : -2147483648 ≤ a2 ∧ a2 < 2147483648) (r3 : -2147483648 ≤ a3 ∧ a3 < 2147483648) (r4 : -2147483648 ≤ a4 ∧ a4 < 2147483648) : 2147483648 + a4 < ((a5 : Nat) : Int) := by omega
theorem z_X1_insert_7 (a0 : Int) (a1 : Int) (a2 : Nat) (h0 : a1 ≤ a0) (h1 : 0 ≤ a1 ∨ a1 = a0) (h2 : 2147483648 + a1 < ((a2 + 1 : Nat) : Int)) (h3 : ¬ (a0 < 0)) (h4 : a0 < (90 : Int)) (r0 : -2147483648 ≤ a0 ∧ a0 < 2147483648) (r1 : -2147483648 ≤ a1 ∧ a1 < 2147483648) : 2147483648 + a0 < ((4294967297 : Nat) : Int) := by omega
theorem z_X1_insert_8 (a0 : Int) (a1 : Int) (a2 : Int) (a3 : Nat) (h0 : a1 ≤ a0) (h1 : 0 ≤ a1 ∨ a1 = a0) (h2 : 2147483648 + a1 < ((a3 + 1 : Nat) : Int)) (h3 : ¬ (a1 ≤ 0)) (h4 : ¬ ((90 : Int) < a1)) (h5 : a2 = a1 - (1 : Int) ∨ a1 - (1 : Int) < -2147483648 ∨ 2147483648 ≤ a1 - (1 : Int)) (r0 : -2147483648 ≤ a0 ∧ a0 < 2147483648) (r1 : -2147483648 ≤ a1 ∧ a1 < 2147483648) (r2 : -2147483648 ≤ a2 ∧ a2 < 2147483648) : 0 ≤ a2 ∧ a2 < ((90 : Nat) : Int) := by omega
theorem z_X1_insert_9 (a0 : Int) (a1 : Int) (a2 : Int) (a3 : Nat) (h0 : a1 ≤ a0) (h1 : 0 ≤ a1 ∨ a1 = a0) (h2 : 2147483648 + a1 < ((a3 + 1 : Nat) : Int)) (h3 : ¬ (a1 ≤ 0)) (h4 : ¬ ((90 : Int) < a1)) (h5 : a2 = a1 - (1 : Int) ∨ a1 - (1 : Int) < -2147483648 ∨ 2147483648 ≤ a1 - (1 : Int)) (r0 : -2147483648 ≤ a0 ∧ a0 < 2147483648) (r1 : -2147483648 ≤ a1 ∧ a1 < 2147483648) (r2 : -2147483648 ≤ a2 ∧ a2 < 2147483648) : 0 ≤ a2 ∧ a2 < ((90 : Nat) : Int) := by omega
theorem z_X1_insert_10 (a0 : Int) (a1 : Int) (a2 : Int) (a3 : Int) (a4 : Nat) (h0 : a1 ≤ a0) (h1 : 0 ≤ a1 ∨ a1 = a0) (h2 : 2147483648 + a1 < ((a4 + 1 : Nat) : Int)) (h3 : ¬ (a1 ≤ 0)) (h4 : ¬ ((90 : Int) < a1)) (h5 : a2 = a1 - (1 : Int) ∨ a1 - (1 : Int) < -2147483648 ∨ 2147483648 ≤ a1 - (1 : Int)) (h6 : a3 = a1 + (-1) ∨ a1 + (-1) < -2147483648 ∨ 2147483648 ≤ a1 + (-1)) (r0 : -2147483648 ≤ a0 ∧ a0 < 2147483648) (r1 : -2147483648 ≤ a1 ∧ a1 < 2147483648) (r2 : -2147483648 ≤ a2 ∧ a2 < 2147483648) (r3 : -2147483648 ≤ a3 ∧ a3 < 2147483648) : a3 ≤ a0 := by omega
theorem z_X1_insert_11 (a0 : Int) (a1 : Int) (a2 : Int) (a3 : Int) (a4 : Nat) (h0 : a1 ≤ a0) (h1 : 0 ≤ a1 ∨ a1 = a0) (h2 : 2147483648 + a1 < ((a4 + 1 : Nat) : Int)) (h3 : ¬ (a1 ≤ 0)) (h4 : ¬ ((90 : Int) < a1)) (h5 : a2 = a1 - (1 : Int) ∨ a1 - (1 : Int) < -2147483648 ∨ 2147483648 ≤ a1 - (1 : Int)) (h6 : a3 = a1 + (-1) ∨ a1 + (-1) < -2147483648 ∨ 2147483648 ≤ a1 + (-1)) (r0 : -2147483648 ≤ a0 ∧ a0 < 2147483648) (r1 : -2147483648 ≤ a1 ∧ a1 < 2147483648) (r2 : -2147483648 ≤ a2 ∧ a2 < 2147483648) (r3 : -2147483648 ≤ a3 ∧ a3 < 2147483648) : 0 ≤ a3 ∨ a3 = a0 := by omega
theorem z_X1_insert_12 (a0 : Int) (a1 : Int) (a2 : Int) (a3 : Int) (a4 : Nat) (h0 : a1 ≤ a0) (h1 : 0 ≤ a1 ∨ a1 = a0) (h2 : 2147483648 + a1 < ((a4 + 1 : Nat) : Int)) (h3 : ¬ (a1 ≤ 0)) (h4 : ¬ ((90 : Int) < a1)) (h5 : a2 = a1 - (1 : Int) ∨ a1 - (1 : Int) < -2147483648 ∨ 2147483648 ≤ a1 - (1 : Int)) (h6 : a3 = a1 + (-1) ∨ a1 + (-1) < -2147483648 ∨ 2147483648 ≤ a1 + (-1)) (r0 : -2147483648 ≤ a0 ∧ a0 < 2147483648) (r1 : -2147483648 ≤ a1 ∧ a1 < 2147483648) (r2 : -2147483648 ≤ a2 ∧ a2 < 2147483648) (r3 : -2147483648 ≤ a3 ∧ a3 < 2147483648) : 2147483648 + a3 < ((a4 : Nat) : Int) := by omega
theorem z_X1_insert_13 (a0 : Int) (r0 : -2147483648 ≤ a0 ∧ a0 < 2147483648) : a0 ≤ a0 := by omega
theorem z_X1_insert_14 (a0 : Int) (r0 : -2147483648 ≤ a0 ∧ a0 < 2147483648) : 0 ≤ a0 ∨ a0 = a0 := by omega
theorem z_X1_insert_15 (a0 : Int) (r0 : -2147483648 ≤ a0 ∧ a0 < 2147483648) : 2147483648 + a0 < ((4294967297 : Nat) : Int) := by omega
abbrev rm_X1_insert : Room := { frames := 0, cells := 0, slots := 0, locals := 0 }
set_option maxHeartbeats 4000000 in
set_option maxRecDepth 100000 in
theorem c_X1_insert (l : Launch) (E : XE) (K : Nat → Nat) (F : Nat → Nat → Nat) (G : XG) (a : Nat) (p0 : Int32) (ha : K a = 3) : Met l yX1_insert (xw yX1_insert cX1_insert 5 none) rm_X1_insert (va_Pc [.ref a, .int p0] (XP E K F G)) (XQv E (fun (u : Unit) => True) (fun _ H => TW E K F G [] H)) 0 0 (xA E) := by
  refine x_enter (by decide) (Nat.le_of_ble_eq_true rfl) ?_
  intro p e s m args below meth c Q S hr hlk hnm hQ hP ls hl
  obtain ⟨hz, hK, hT⟩ := hP
  obtain ⟨hx, hb, -, -, -⟩ := id S
  obtain ⟨H, hT, hS, hgo⟩ : ∃ H : Heap, TW E K F G [] H ∧ va_S (xA E) s.heap H [] ∧ H = s.heap := ⟨_, hT, va_S.rf, rfl⟩
  rw [← hgo]
  have hl : lv_has ls 5 [(0, .ref a), (1, .int p0)] := hl
  refine lv_aload_n hx hb dX1_insert_0 rfl (lv_at hl 0 rfl) ?_
  refine gX1_3 S hK hT ha kf_X1_38 dX1_insert_1 (fun x1 hT => ?_)
  refine lv_istore_n (lv' := [(2, .int x1), (0, .ref a), (1, .int p0)]) hx hb dX1_insert_4 rfl hl (by decide) rfl (fun ls hl => ?_)
  have L5 : ∀ (N3 : Nat) (x2 : Int32) (H : Heap) (locs : List Loc) (ls : Array Slot), x2.toInt ≤ x1.toInt → 0 ≤ x2.toInt ∨ x2.toInt = x1.toInt → 2147483648 + x2.toInt < ((N3 : Nat) : Int) → TW E K F G [(a, 3, x1)] H → va_S (xA E) s.heap H locs → lv_has ls 5 [(0, .ref a), (1, .int p0), (2, .int x2)] → W p l e rm_X1_insert s m args below meth c H locs 0 0 Q (F0 m 5 ls []) := by
    intro N3
    induction N3 with
    | zero =>
      intro x2 H locs ls hf4 hf5 hm6
      exact absurd hm6 (z_X1_insert_1 x1.toInt x2.toInt hf4 hf5 (xr x1) (xr x2))
    | succ N3 ih7 =>
      intro x2 H locs ls hf4 hf5 hm6 hT hS hl
      refine lv_iload_n hx hb dX1_insert_5 rfl (lv_at hl 2 rfl) ?_
      have J33 : ∀ (H : Heap) (locs : List Loc) (ls : Array Slot), TW E K F G [(a, 3, x1)] H → va_S (xA E) s.heap H locs → lv_has ls 5 [(0, .ref a), (1, .int p0), (2, .int x2)] → W p l e rm_X1_insert s m args below meth c H locs 0 0 Q (F0 m 33 ls []) := by
        intro H locs ls hT hS hl
        refine lv_iload_n hx hb dX1_insert_33 rfl (lv_at hl 2 rfl) ?_
        have J60 : ∀ (x8 : Int32) (H : Heap) (locs : List Loc) (ls : Array Slot), TW E K F G [(a, 3, x1)] H → va_S (xA E) s.heap H locs → lv_has ls 5 [(0, .ref a), (1, .int p0), (2, .int x2)] → W p l e rm_X1_insert s m args below meth c H locs 0 0 Q (F0 m 60 ls [.int x8]) := by
          intro x8 H locs ls hT hS hl
          refine lv_istore_n (lv' := [(3, .int x8), (0, .ref a), (1, .int p0), (2, .int x2)]) hx hb dX1_insert_60 rfl hl (by decide) rfl (fun ls hl => ?_)
          refine lv_iload_n hx hb dX1_insert_61 rfl (lv_at hl 0 rfl) ?_
          refine xi_zne (tgt := 81) hx hb (rfl : Int32.toInt x8 = x8.toInt) dX1_insert_62 (by decide) (fun c9 => ?_) (fun c9 => ?_)
          · exact x_rv hx hb hr hlk hQ (Nat.le_of_ble_eq_true rfl) (Nat.le_of_ble_eq_true rfl) hS dX1_insert_81 () trivial hT.nil
          · refine lv_aload_n hx hb dX1_insert_65 rfl (lv_at hl 1 rfl) ?_
            refine kX1_3 (v := x1) S hK hT ha (List.mem_of_getElem? (i := 0) rfl) kf_X1_38 dX1_insert_66 ?_
            refine xi_zlt (tgt := 81) hx hb (rfl : Int32.toInt x1 = x1.toInt) dX1_insert_69 (by decide) (fun c10 => ?_) (fun c10 => ?_)
            · exact x_rv hx hb hr hlk hQ (Nat.le_of_ble_eq_true rfl) (Nat.le_of_ble_eq_true rfl) hS dX1_insert_81 () trivial hT.nil
            · refine lv_aload_n hx hb dX1_insert_72 rfl (lv_at hl 1 rfl) ?_
              refine kX1_3 (v := x1) S hK hT ha (List.mem_of_getElem? (i := 0) rfl) kf_X1_38 dX1_insert_73 ?_
              refine lv_bipush (v := 90) hx hb dX1_insert_76 (by decide) ?_
              refine xi_clt (tgt := 82) hx hb (rfl : Int32.toInt x1 = x1.toInt) ((by decide) : Int32.toInt 90 = (90 : Int)) dX1_insert_78 (by decide) (fun c11 => ?_) (fun c11 => ?_)
              · refine lv_aload_n hx hb dX1_insert_82 rfl (lv_at hl 1 rfl) ?_
                refine kX1_3 (v := x1) S hK hT ha (List.mem_of_getElem? (i := 0) rfl) kf_X1_38 dX1_insert_83 ?_
                refine lv_istore (lv' := [(4, .int x1), (3, .int x8), (0, .ref a), (1, .int p0), (2, .int x2)]) hx hb dX1_insert_86 hl (by decide) rfl (fun ls hl => ?_)
                have L88 : ∀ (N13 : Nat) (x12 : Int32) (H : Heap) (locs : List Loc) (ls : Array Slot), 2147483648 + x12.toInt < ((N13 : Nat) : Int) → TW E K F G [(a, 3, x1)] H → va_S (xA E) s.heap H locs → lv_has ls 5 [(0, .ref a), (1, .int p0), (2, .int x2), (4, .int x12)] → W p l e rm_X1_insert s m args below meth c H locs 0 0 Q (F0 m 88 ls []) := by
                  intro N13
                  induction N13 with
                  | zero =>
                    intro x12 H locs ls hm14
                    exact absurd hm14 (z_X1_insert_2 x12.toInt (xr x12))
                  | succ N13 ih15 =>
                    intro x12 H locs ls hm14 hT hS hl
                    refine lv_iload hx hb dX1_insert_88 (lv_at hl 3 rfl) ?_
                    refine lv_iload_n hx hb dX1_insert_90 rfl (lv_at hl 2 rfl) ?_
                    have J123 : ∀ (H : Heap) (locs : List Loc) (ls : Array Slot), TW E K F G [(a, 3, x1)] H → va_S (xA E) s.heap H locs → lv_has ls 5 [(0, .ref a), (1, .int p0), (2, .int x2)] → W p l e rm_X1_insert s m args below meth c H locs 0 0 Q (F0 m 123 ls []) := by
                      intro H locs ls hT hS hl
                      refine lv_iload_n hx hb dX1_insert_123 rfl (lv_at hl 2 rfl) ?_
                      refine xi_zlt (tgt := 150) hx hb (rfl : Int32.toInt x2 = x2.toInt) dX1_insert_124 (by decide) (fun c16 => ?_) (fun c16 => ?_)
                      · exact x_rv hx hb hr hlk hQ (Nat.le_of_ble_eq_true rfl) (Nat.le_of_ble_eq_true rfl) hS dX1_insert_150 () trivial hT.nil
                      · refine lv_iload_n hx hb dX1_insert_127 rfl (lv_at hl 2 rfl) ?_
                        refine lv_bipush (v := 90) hx hb dX1_insert_128 (by decide) ?_
                        refine xi_cge (tgt := 150) hx hb (rfl : Int32.toInt x2 = x2.toInt) ((by decide) : Int32.toInt 90 = (90 : Int)) dX1_insert_130 (by decide) (fun c17 => ?_) (fun c17 => ?_)
                        · exact x_rv hx hb hr hlk hQ (Nat.le_of_ble_eq_true rfl) (Nat.le_of_ble_eq_true rfl) hS dX1_insert_150 () trivial hT.nil
                        · refine lv_aload_n hx hb dX1_insert_133 rfl (lv_at hl 0 rfl) ?_
                          refine gX1_2 S hK hT ha kf_X1_18 dX1_insert_134 (fun hk18 => ?_)
                          refine lv_iload_n hx hb dX1_insert_137 rfl (lv_at hl 2 rfl) ?_
                          refine lv_iload_n hx hb dX1_insert_138 rfl (lv_at hl 1 rfl) ?_
                          refine as_0 S hK hT hS hk18 ar_24 aw_24 (by decide) (z_X1_insert_3 x1.toInt x2.toInt N3 hf4 hf5 hm6 c10 c11 c16 c17 (xr x1) (xr x2)) dX1_insert_139 (fun H locs hT hS => ?_)
                          refine lv_aload_n hx hb dX1_insert_140 rfl (lv_at hl 0 rfl) ?_
                          refine lv_dup hx hb dX1_insert_141 rfl ?_
                          refine kX1_3 (v := x1) S hK hT ha (List.mem_of_getElem? (i := 0) rfl) kf_X1_38 dX1_insert_142 ?_
                          refine lv_iconst (v := 1) hx hb dX1_insert_145 (by decide) ?_
                          refine xi_iadd hx hb (rfl : Int32.toInt x1 = x1.toInt) ((by decide) : Int32.toInt 1 = (1 : Int)) dX1_insert_146 (fun x19 t20 => ?_)
                          refine pX1_3 (kq := []) S hK hT hS ha kf_X1_38 dX1_insert_147 (fun _ h => by cases h) (fun H locs hT hS => ?_)
                          exact x_rv hx hb hr hlk hQ (Nat.le_of_ble_eq_true rfl) (Nat.le_of_ble_eq_true rfl) hS dX1_insert_150 () trivial hT.nil
                    refine xi_cle (tgt := 123) hx hb (rfl : Int32.toInt x12 = x12.toInt) (rfl : Int32.toInt x2 = x2.toInt) dX1_insert_91 (by decide) (fun c21 => ?_) (fun c21 => ?_)
                    · exact J123 _ _ _ hT hS (lv_sub hl [0, 1, 2] rfl)
                    · refine lv_iload hx hb dX1_insert_94 (lv_at hl 3 rfl) ?_
                      refine lv_bipush (v := 90) hx hb dX1_insert_96 (by decide) ?_
                      refine xi_cge (tgt := 123) hx hb (rfl : Int32.toInt x12 = x12.toInt) ((by decide) : Int32.toInt 90 = (90 : Int)) dX1_insert_98 (by decide) (fun c22 => ?_) (fun c22 => ?_)
                      · exact J123 _ _ _ hT hS (lv_sub hl [0, 1, 2] rfl)
                      · refine lv_aload_n hx hb dX1_insert_101 rfl (lv_at hl 0 rfl) ?_
                        refine gX1_2 S hK hT ha kf_X1_18 dX1_insert_102 (fun hk23 => ?_)
                        refine lv_iload hx hb dX1_insert_105 (lv_at hl 3 rfl) ?_
                        refine lv_aload_n hx hb dX1_insert_107 rfl (lv_at hl 0 rfl) ?_
                        refine gX1_2 S hK hT ha kf_X1_18 dX1_insert_108 (fun hk24 => ?_)
                        refine lv_iload hx hb dX1_insert_111 (lv_at hl 3 rfl) ?_
                        refine lv_iconst (v := 1) hx hb dX1_insert_113 (by decide) ?_
                        refine xi_isub hx hb (rfl : Int32.toInt x12 = x12.toInt) ((by decide) : Int32.toInt 1 = (1 : Int)) dX1_insert_114 (fun x25 t26 => ?_)
                        refine al_0 S hK hT hk24 ar_24 (by decide) (z_X1_insert_4 x1.toInt x12.toInt x2.toInt x25.toInt N13 N3 hf4 hf5 hm6 c10 c11 hm14 c21 c22 t26 (xr x1) (xr x12) (xr x2) (xr x25)) dX1_insert_115 (fun x27 o28 => ?_)
                        refine as_0 S hK hT hS hk23 ar_24 aw_24 (by decide) (z_X1_insert_5 x1.toInt x12.toInt x2.toInt x25.toInt N13 N3 hf4 hf5 hm6 c10 c11 hm14 c21 c22 t26 (xr x1) (xr x12) (xr x2) (xr x25)) dX1_insert_116 (fun H locs hT hS => ?_)
                        refine xi_iinc (n := (-1)) (lv' := fun z9 => [(4, .int z9), (0, .ref a), (1, .int p0), (2, .int x2)]) (k := 3) hx hb (rfl : Int32.toInt x12 = x12.toInt) (by decide) dX1_insert_117 hl rfl (by decide) (fun _ => rfl) (fun x29 ls t30 hl => ?_)
                        have hl : lv_has ls 5 [(4, .int x29), (0, .ref a), (1, .int p0), (2, .int x2)] := hl
                        refine lv_goto (tgt := 88) hx hb dX1_insert_120 (by decide) ?_
                        exact ih15 x29 _ _ _ (z_X1_insert_6 x1.toInt x12.toInt x2.toInt x25.toInt x29.toInt N13 N3 hf4 hf5 hm6 c10 c11 hm14 c21 c22 t26 t30 (xr x1) (xr x12) (xr x2) (xr x25) (xr x29)) hT hS (lv_sub hl [1, 2, 3, 0] rfl)
                exact L88 4294967297 x1 _ _ _ (z_X1_insert_7 x1.toInt x2.toInt N3 hf4 hf5 hm6 c10 c11 (xr x1) (xr x2)) hT hS (lv_sub hl [2, 3, 4, 0] rfl)
              · exact x_rv hx hb hr hlk hQ (Nat.le_of_ble_eq_true rfl) (Nat.le_of_ble_eq_true rfl) hS dX1_insert_81 () trivial hT.nil
        have J59 : ∀ (H : Heap) (locs : List Loc) (ls : Array Slot), TW E K F G [(a, 3, x1)] H → va_S (xA E) s.heap H locs → lv_has ls 5 [(0, .ref a), (1, .int p0), (2, .int x2)] → W p l e rm_X1_insert s m args below meth c H locs 0 0 Q (F0 m 59 ls []) := by
          intro H locs ls hT hS hl
          refine lv_iconst (v := 0) hx hb dX1_insert_59 (by decide) ?_
          exact J60 0 _ _ _ hT hS (lv_sub hl [0, 1, 2] rfl)
        refine xi_zle (tgt := 59) hx hb (rfl : Int32.toInt x2 = x2.toInt) dX1_insert_34 (by decide) (fun c31 => ?_) (fun c31 => ?_)
        · exact J59 _ _ _ hT hS (lv_sub hl [0, 1, 2] rfl)
        · refine lv_iload_n hx hb dX1_insert_37 rfl (lv_at hl 2 rfl) ?_
          refine lv_bipush (v := 90) hx hb dX1_insert_38 (by decide) ?_
          refine xi_cgt (tgt := 59) hx hb (rfl : Int32.toInt x2 = x2.toInt) ((by decide) : Int32.toInt 90 = (90 : Int)) dX1_insert_40 (by decide) (fun c32 => ?_) (fun c32 => ?_)
          · exact J59 _ _ _ hT hS (lv_sub hl [0, 1, 2] rfl)
          · refine lv_aload_n hx hb dX1_insert_43 rfl (lv_at hl 0 rfl) ?_
            refine gX1_2 S hK hT ha kf_X1_18 dX1_insert_44 (fun hk33 => ?_)
            refine lv_iload_n hx hb dX1_insert_47 rfl (lv_at hl 2 rfl) ?_
            refine lv_iconst (v := 1) hx hb dX1_insert_48 (by decide) ?_
            refine xi_isub hx hb (rfl : Int32.toInt x2 = x2.toInt) ((by decide) : Int32.toInt 1 = (1 : Int)) dX1_insert_49 (fun x34 t35 => ?_)
            refine al_0 S hK hT hk33 ar_24 (by decide) (z_X1_insert_8 x1.toInt x2.toInt x34.toInt N3 hf4 hf5 hm6 c31 c32 t35 (xr x1) (xr x2) (xr x34)) dX1_insert_50 (fun x36 o37 => ?_)
            refine lv_iload_n hx hb dX1_insert_51 rfl (lv_at hl 1 rfl) ?_
            refine xi_cne (tgt := 59) hx hb (rfl : Int32.toInt x36 = x36.toInt) (rfl : Int32.toInt p0 = p0.toInt) dX1_insert_52 (by decide) (fun c38 => ?_) (fun c38 => ?_)
            · exact J59 _ _ _ hT hS (lv_sub hl [0, 1, 2] rfl)
            · refine lv_iconst (v := 1) hx hb dX1_insert_55 (by decide) ?_
              refine lv_goto (tgt := 60) hx hb dX1_insert_56 (by decide) ?_
              exact J60 1 _ _ _ hT hS (lv_sub hl [0, 1, 2] rfl)
      refine xi_zle (tgt := 33) hx hb (rfl : Int32.toInt x2 = x2.toInt) dX1_insert_6 (by decide) (fun c39 => ?_) (fun c39 => ?_)
      · exact J33 _ _ _ hT hS (lv_sub hl [0, 1, 2] rfl)
      · refine lv_iload_n hx hb dX1_insert_9 rfl (lv_at hl 2 rfl) ?_
        refine lv_bipush (v := 90) hx hb dX1_insert_10 (by decide) ?_
        refine xi_cgt (tgt := 33) hx hb (rfl : Int32.toInt x2 = x2.toInt) ((by decide) : Int32.toInt 90 = (90 : Int)) dX1_insert_12 (by decide) (fun c40 => ?_) (fun c40 => ?_)
        · exact J33 _ _ _ hT hS (lv_sub hl [0, 1, 2] rfl)
        · refine lv_aload_n hx hb dX1_insert_15 rfl (lv_at hl 0 rfl) ?_
          refine gX1_2 S hK hT ha kf_X1_18 dX1_insert_16 (fun hk41 => ?_)
          refine lv_iload_n hx hb dX1_insert_19 rfl (lv_at hl 2 rfl) ?_
          refine lv_iconst (v := 1) hx hb dX1_insert_20 (by decide) ?_
          refine xi_isub hx hb (rfl : Int32.toInt x2 = x2.toInt) ((by decide) : Int32.toInt 1 = (1 : Int)) dX1_insert_21 (fun x42 t43 => ?_)
          refine al_0 S hK hT hk41 ar_24 (by decide) (z_X1_insert_9 x1.toInt x2.toInt x42.toInt N3 hf4 hf5 hm6 c39 c40 t43 (xr x1) (xr x2) (xr x42)) dX1_insert_22 (fun x44 o45 => ?_)
          refine lv_iload_n hx hb dX1_insert_23 rfl (lv_at hl 1 rfl) ?_
          refine xi_cle (tgt := 33) hx hb (rfl : Int32.toInt x44 = x44.toInt) (rfl : Int32.toInt p0 = p0.toInt) dX1_insert_24 (by decide) (fun c46 => ?_) (fun c46 => ?_)
          · exact J33 _ _ _ hT hS (lv_sub hl [0, 1, 2] rfl)
          · refine xi_iinc (n := (-1)) (lv' := fun z9 => [(2, .int z9), (0, .ref a), (1, .int p0)]) (k := 2) hx hb (rfl : Int32.toInt x2 = x2.toInt) (by decide) dX1_insert_27 hl rfl (by decide) (fun _ => rfl) (fun x47 ls t48 hl => ?_)
            have hl : lv_has ls 5 [(2, .int x47), (0, .ref a), (1, .int p0)] := hl
            refine lv_goto (tgt := 5) hx hb dX1_insert_30 (by decide) ?_
            exact ih7 x47 _ _ _ (z_X1_insert_10 x1.toInt x2.toInt x42.toInt x47.toInt N3 hf4 hf5 hm6 c39 c40 t43 t48 (xr x1) (xr x2) (xr x42) (xr x47)) (z_X1_insert_11 x1.toInt x2.toInt x42.toInt x47.toInt N3 hf4 hf5 hm6 c39 c40 t43 t48 (xr x1) (xr x2) (xr x42) (xr x47)) (z_X1_insert_12 x1.toInt x2.toInt x42.toInt x47.toInt N3 hf4 hf5 hm6 c39 c40 t43 t48 (xr x1) (xr x2) (xr x42) (xr x47)) hT hS (lv_sub hl [1, 2, 0] rfl)
  exact L5 4294967297 x1 _ _ _ (z_X1_insert_13 x1.toInt (xr x1)) (z_X1_insert_14 x1.toInt (xr x1)) (z_X1_insert_15 x1.toInt (xr x1)) hT hS (lv_sub hl [1, 2, 0] rfl)

theorem z_X1_offerKeys_1 (a0 : Int) (h0 : (0 : Int) ≤ a0) (r0 : -2147483648 ≤ a0 ∧ a0 < 2147483648) : ¬ (2147483648 - a0 < ((0 : Nat) : Int)) := by omega
theorem z_X1_offerKeys_2 (a0 : Int) (a1 : Int) (a2 : Nat) (h0 : (0 : Int) ≤ a0) (h1 : 2147483648 - a0 < ((a2 + 1 : Nat) : Int)) (h2 : ¬ ((30 : Int) ≤ a0)) (h3 : a1 = a0 + 1 ∨ a0 + 1 < -2147483648 ∨ 2147483648 ≤ a0 + 1) (r0 : -2147483648 ≤ a0 ∧ a0 < 2147483648) (r1 : -2147483648 ≤ a1 ∧ a1 < 2147483648) : (0 : Int) ≤ a1 := by omega
theorem z_X1_offerKeys_3 (a0 : Int) (a1 : Int) (a2 : Nat) (h0 : (0 : Int) ≤ a0) (h1 : 2147483648 - a0 < ((a2 + 1 : Nat) : Int)) (h2 : ¬ ((30 : Int) ≤ a0)) (h3 : a1 = a0 + 1 ∨ a0 + 1 < -2147483648 ∨ 2147483648 ≤ a0 + 1) (r0 : -2147483648 ≤ a0 ∧ a0 < 2147483648) (r1 : -2147483648 ≤ a1 ∧ a1 < 2147483648) : 2147483648 - a1 < ((a2 : Nat) : Int) := by omega
abbrev rm_X1_offerKeys : Room := { frames := 1, cells := 0, slots := 0, locals := 24 }
set_option maxHeartbeats 4000000 in
set_option maxRecDepth 100000 in
theorem c_X1_offerKeys (l : Launch) (E : XE) (K : Nat → Nat) (F : Nat → Nat → Nat) (G : XG) (a : Nat) (p0 : Int32) (ha : K a = 3) : Met l yX1_offerKeys (xw yX1_offerKeys cX1_offerKeys 3 none) rm_X1_offerKeys (va_Pc [.ref a, .int p0] (XP E K F G)) (XQv E (fun (u : Unit) => True) (fun _ H => TW E K F G [] H)) 0 0 (xA E) := by
  refine x_enter (by decide) (Nat.le_of_ble_eq_true rfl) ?_
  intro p e s m args below meth c Q S hr hlk hnm hQ hP ls hl
  obtain ⟨hz, hK, hT⟩ := hP
  obtain ⟨hx, hb, -, -, -⟩ := id S
  obtain ⟨H, hT, hS, hgo⟩ : ∃ H : Heap, TW E K F G [] H ∧ va_S (xA E) s.heap H [] ∧ H = s.heap := ⟨_, hT, va_S.rf, rfl⟩
  rw [← hgo]
  have hl : lv_has ls 3 [(0, .ref a), (1, .int p0)] := hl
  refine lv_iconst (v := 0) hx hb dX1_offerKeys_0 (by decide) ?_
  refine lv_istore_n (lv' := [(2, .int 0), (0, .ref a), (1, .int p0)]) hx hb dX1_offerKeys_1 rfl hl (by decide) rfl (fun ls hl => ?_)
  have L2 : ∀ (N2 : Nat) (x1 : Int32) (H : Heap) (locs : List Loc) (ls : Array Slot), (0 : Int) ≤ x1.toInt → 2147483648 - x1.toInt < ((N2 : Nat) : Int) → TW E K F G [] H → va_S (xA E) s.heap H locs → lv_has ls 3 [(0, .ref a), (1, .int p0), (2, .int x1)] → W p l e rm_X1_offerKeys s m args below meth c H locs 0 0 Q (F0 m 2 ls []) := by
    intro N2
    induction N2 with
    | zero =>
      intro x1 H locs ls hf3 hm4
      exact absurd hm4 (z_X1_offerKeys_1 x1.toInt hf3 (xr x1))
    | succ N2 ih5 =>
      intro x1 H locs ls hf3 hm4 hT hS hl
      refine lv_iload_n hx hb dX1_offerKeys_2 rfl (lv_at hl 2 rfl) ?_
      refine lv_bipush (v := 30) hx hb dX1_offerKeys_3 (by decide) ?_
      refine xi_cge (tgt := 33) hx hb (rfl : Int32.toInt x1 = x1.toInt) ((by decide) : Int32.toInt 30 = (30 : Int)) dX1_offerKeys_5 (by decide) (fun c6 => ?_) (fun c6 => ?_)
      · exact x_rv hx hb hr hlk hQ (Nat.le_of_ble_eq_true rfl) (Nat.le_of_ble_eq_true rfl) hS dX1_offerKeys_33 () trivial hT.nil
      · refine lv_iload_n hx hb dX1_offerKeys_8 rfl (lv_at hl 1 rfl) ?_
        refine lv_iload_n hx hb dX1_offerKeys_9 rfl (lv_at hl 2 rfl) ?_
        refine lv_ishr hx hb dX1_offerKeys_10 (lv_topi (fun x7 _ => ?_))
        refine xi_zeq (tgt := 33) hx hb (rfl : Int32.toInt x7 = x7.toInt) dX1_offerKeys_11 (by decide) (fun c8 => ?_) (fun c8 => ?_)
        · exact x_rv hx hb hr hlk hQ (Nat.le_of_ble_eq_true rfl) (Nat.le_of_ble_eq_true rfl) hS dX1_offerKeys_33 () trivial hT.nil
        · refine lv_iload_n hx hb dX1_offerKeys_14 rfl (lv_at hl 1 rfl) ?_
          refine lv_iload_n hx hb dX1_offerKeys_15 rfl (lv_at hl 2 rfl) ?_
          refine lv_ishr hx hb dX1_offerKeys_16 (lv_topi (fun x9 _ => ?_))
          refine lv_iconst (v := 1) hx hb dX1_offerKeys_17 (by decide) ?_
          refine lv_iand hx hb dX1_offerKeys_18 (lv_topi (fun x10 _ => ?_))
          have J27 : ∀ (H : Heap) (locs : List Loc) (ls : Array Slot), TW E K F G [] H → va_S (xA E) s.heap H locs → lv_has ls 3 [(0, .ref a), (1, .int p0), (2, .int x1)] → W p l e rm_X1_offerKeys s m args below meth c H locs 0 0 Q (F0 m 27 ls []) := by
            intro H locs ls hT hS hl
            refine xi_iinc (n := 1) (lv' := fun z9 => [(2, .int z9), (0, .ref a), (1, .int p0)]) (k := 2) hx hb (rfl : Int32.toInt x1 = x1.toInt) (by decide) dX1_offerKeys_27 hl rfl (by decide) (fun _ => rfl) (fun x11 ls t12 hl => ?_)
            have hl : lv_has ls 3 [(2, .int x11), (0, .ref a), (1, .int p0)] := hl
            refine lv_goto (tgt := 2) hx hb dX1_offerKeys_30 (by decide) ?_
            exact ih5 x11 _ _ _ (z_X1_offerKeys_2 x1.toInt x11.toInt N2 hf3 hm4 c6 t12 (xr x1) (xr x11)) (z_X1_offerKeys_3 x1.toInt x11.toInt N2 hf3 hm4 c6 t12 (xr x1) (xr x11)) hT.nil hS (lv_sub hl [1, 2, 0] rfl)
          refine xi_zeq (tgt := 27) hx hb (rfl : Int32.toInt x10 = x10.toInt) dX1_offerKeys_19 (by decide) (fun c13 => ?_) (fun c13 => ?_)
          · exact J27 _ _ _ hT.nil hS (lv_sub hl [0, 1, 2] rfl)
          · refine lv_aload_n hx hb dX1_offerKeys_22 rfl (lv_at hl 0 rfl) ?_
            refine lv_iload_n hx hb dX1_offerKeys_23 rfl (lv_at hl 2 rfl) ?_
            refine x_cv0 (x_runV (b := a) (As := [.int x1]) (rest := []) S (c_X1_insert l E K F G a x1 ha) mv_X1_insert km_X1_93 rfl rfl ⟨Nat.le_of_ble_eq_true rfl, Nat.le_of_ble_eq_true rfl⟩ (rc_3 hK hT ha) hK (fun _ => XP.blind) (fun U hU hW => XP.at hK hz hS hT hU hW) rfl hl.1 (Nat.le_of_ble_eq_true rfl) dX1_offerKeys_24 ⟨Nat.le_of_ble_eq_true rfl, Nat.le_of_ble_eq_true rfl⟩) hS ?_
            rintro _ H locs - hT hS
            exact J27 _ _ _ hT.nil hS (lv_sub hl [0, 1, 2] rfl)
  exact L2 4294967297 0 _ _ _ (by decide) (by decide) hT.nil hS (lv_sub hl [1, 2, 0] rfl)

abbrev rm_X1_offerValues : Room := { frames := 2, cells := 0, slots := 0, locals := 44 }
set_option maxHeartbeats 4000000 in
set_option maxRecDepth 100000 in
theorem c_X1_offerValues (l : Launch) (E : XE) (K : Nat → Nat) (F : Nat → Nat → Nat) (G : XG) (a : Nat) (p0 : Nat) (p1 : Nat) (p2 : Nat) (p3 : Int32) (ha : K a = 3) (hp0 : K p0 = 9) (hp1 : K p1 = 8) (hp2 : K p2 = 8) : Met l yX1_offerValues (xw yX1_offerValues cX1_offerValues 7 none) rm_X1_offerValues (va_Pc [.ref a, .ref p0, .ref p1, .ref p2, .int p3] (XP E K F G)) (XQv E (fun (u : Unit) => True) (fun _ H => TW E K F G [] H)) 0 0 (xA E) := by
  refine x_enter (by decide) (Nat.le_of_ble_eq_true rfl) ?_
  intro p e s m args below meth c Q S hr hlk hnm hQ hP ls hl
  obtain ⟨hz, hK, hT⟩ := hP
  obtain ⟨hx, hb, -, -, -⟩ := id S
  obtain ⟨H, hT, hS, hgo⟩ : ∃ H : Heap, TW E K F G [] H ∧ va_S (xA E) s.heap H [] ∧ H = s.heap := ⟨_, hT, va_S.rf, rfl⟩
  rw [← hgo]
  have hl : lv_has ls 7 [(0, .ref a), (1, .ref p0), (2, .ref p1), (3, .ref p2), (4, .int p3)] := hl
  refine lv_aload_n hx hb dX1_offerValues_0 rfl (lv_at hl 2 rfl) ?_
  refine lv_aload_n hx hb dX1_offerValues_1 rfl (lv_at hl 1 rfl) ?_
  refine gX7_2 S hK hT hp0 kf_X1_73 dX1_offerValues_2 (fun x1 hT => ?_)
  refine lv_iload hx hb dX1_offerValues_5 (lv_at hl 4 rfl) ?_
  refine lv_aload_n hx hb dX1_offerValues_7 rfl (lv_at hl 1 rfl) ?_
  refine gX7_3 S hK hT hp0 kf_X1_83 dX1_offerValues_8 (fun x2 hT => ?_)
  refine x_clp (x_runV (b := p1) (As := [.int x1, .int p3, .int x2]) (rest := []) S (c_X6_cell l E K F G H p1 x1 p3 x2 hp1) mv_X6_cell km_X1_86 rfl rfl ⟨Nat.le_of_ble_eq_true rfl, Nat.le_of_ble_eq_true rfl⟩ (rc_8 hK hT hp1) hK (fun _ => XPh.blind) (fun U hU hW => XPh.at hK hz hS hT hU hW) rfl hl.1 (Nat.le_of_ble_eq_true rfl) dX1_offerValues_11 ⟨Nat.le_of_ble_eq_true rfl, Nat.le_of_ble_eq_true rfl⟩) hS ?_
  rintro _ _ locs ⟨x3, rfl⟩ hS
  refine lv_istore (lv' := [(5, .int x3), (0, .ref a), (1, .ref p0), (2, .ref p1), (3, .ref p2), (4, .int p3)]) hx hb dX1_offerValues_14 hl (by decide) rfl (fun ls hl => ?_)
  refine lv_aload_n hx hb dX1_offerValues_16 rfl (lv_at hl 4 rfl) ?_
  refine lv_aload_n hx hb dX1_offerValues_17 rfl (lv_at hl 2 rfl) ?_
  refine kX7_2 (v := x1) S hK hT hp0 (List.mem_of_getElem? (i := 1) rfl) kf_X1_73 dX1_offerValues_18 ?_
  refine lv_iload hx hb dX1_offerValues_21 (lv_at hl 5 rfl) ?_
  refine lv_aload_n hx hb dX1_offerValues_23 rfl (lv_at hl 2 rfl) ?_
  refine kX7_3 (v := x2) S hK hT hp0 (List.mem_of_getElem? (i := 0) rfl) kf_X1_83 dX1_offerValues_24 ?_
  refine x_clp (x_runV (b := p2) (As := [.int x1, .int p3, .int x2]) (rest := []) S (c_X6_cell l E K F G H p2 x1 p3 x2 hp2) mv_X6_cell km_X1_86 rfl rfl ⟨Nat.le_of_ble_eq_true rfl, Nat.le_of_ble_eq_true rfl⟩ (rc_8 hK hT hp2) hK (fun _ => XPh.blind) (fun U hU hW => XPh.at hK hz hS hT hU hW) rfl hl.1 (Nat.le_of_ble_eq_true rfl) dX1_offerValues_27 ⟨Nat.le_of_ble_eq_true rfl, Nat.le_of_ble_eq_true rfl⟩) hS ?_
  rintro _ _ locs ⟨x4, rfl⟩ hS
  refine lv_istore (lv' := [(6, .int x4), (5, .int x3), (0, .ref a), (1, .ref p0), (2, .ref p1), (3, .ref p2), (4, .int p3)]) hx hb dX1_offerValues_30 hl (by decide) rfl (fun ls hl => ?_)
  refine lv_iload hx hb dX1_offerValues_32 (lv_at hl 1 rfl) ?_
  refine lv_iload hx hb dX1_offerValues_34 (lv_at hl 0 rfl) ?_
  have J48 : ∀ (H : Heap) (locs : List Loc) (ls : Array Slot), TW E K F G [(p0, 3, x2), (p0, 2, x1)] H → va_S (xA E) s.heap H locs → lv_has ls 7 [(0, .ref a), (1, .ref p0), (5, .int x3), (6, .int x4)] → W p l e rm_X1_offerValues s m args below meth c H locs 0 0 Q (F0 m 48 ls []) := by
    intro H locs ls hT hS hl
    refine lv_aload_n hx hb dX1_offerValues_48 rfl (lv_at hl 1 rfl) ?_
    refine lv_iload hx hb dX1_offerValues_49 (lv_at hl 2 rfl) ?_
    refine x_clp (x_runV (b := p0) (As := [.int x3]) (rest := []) S (c_X7_isSubject l E K F G H p0 x3 hp0) mv_X7_isSubject km_X1_90 rfl rfl ⟨Nat.le_of_ble_eq_true rfl, Nat.le_of_ble_eq_true rfl⟩ (rc_9 hK hT hp0) hK (fun _ => XPh.blind) (fun U hU hW => XPh.at hK hz hS hT hU hW) rfl hl.1 (Nat.le_of_ble_eq_true rfl) dX1_offerValues_51 ⟨Nat.le_of_ble_eq_true rfl, Nat.le_of_ble_eq_true rfl⟩) hS ?_
    rintro _ _ locs ⟨x5, rfl, b6⟩ hS
    have J63 : ∀ (H : Heap) (locs : List Loc) (ls : Array Slot), TW E K F G [] H → va_S (xA E) s.heap H locs → lv_has ls 7 [(0, .ref a), (1, .ref p0), (6, .int x4)] → W p l e rm_X1_offerValues s m args below meth c H locs 0 0 Q (F0 m 63 ls []) := by
      intro H locs ls hT hS hl
      refine lv_aload_n hx hb dX1_offerValues_63 rfl (lv_at hl 1 rfl) ?_
      refine lv_iload hx hb dX1_offerValues_64 (lv_at hl 2 rfl) ?_
      refine x_clp (x_runV (b := p0) (As := [.int x4]) (rest := []) S (c_X7_isSubject l E K F G H p0 x4 hp0) mv_X7_isSubject km_X1_90 rfl rfl ⟨Nat.le_of_ble_eq_true rfl, Nat.le_of_ble_eq_true rfl⟩ (rc_9 hK hT hp0) hK (fun _ => XPh.blind) (fun U hU hW => XPh.at hK hz hS hT hU hW) rfl hl.1 (Nat.le_of_ble_eq_true rfl) dX1_offerValues_66 ⟨Nat.le_of_ble_eq_true rfl, Nat.le_of_ble_eq_true rfl⟩) hS ?_
      rintro _ _ locs ⟨x7, rfl, b8⟩ hS
      refine xi_zeq (tgt := 78) hx hb (rfl : Int32.toInt x7 = x7.toInt) dX1_offerValues_69 (by decide) (fun c9 => ?_) (fun c9 => ?_)
      · exact x_rv hx hb hr hlk hQ (Nat.le_of_ble_eq_true rfl) (Nat.le_of_ble_eq_true rfl) hS dX1_offerValues_78 () trivial hT.nil
      · refine lv_aload_n hx hb dX1_offerValues_72 rfl (lv_at hl 0 rfl) ?_
        refine lv_iload hx hb dX1_offerValues_73 (lv_at hl 2 rfl) ?_
        refine x_cv0 (x_runV (b := a) (As := [.int x4]) (rest := []) S (c_X1_insert l E K F G a x4 ha) mv_X1_insert km_X1_93 rfl rfl ⟨Nat.le_of_ble_eq_true rfl, Nat.le_of_ble_eq_true rfl⟩ (rc_3 hK hT ha) hK (fun _ => XP.blind) (fun U hU hW => XP.at hK hz hS hT hU hW) rfl hl.1 (Nat.le_of_ble_eq_true rfl) dX1_offerValues_75 ⟨Nat.le_of_ble_eq_true rfl, Nat.le_of_ble_eq_true rfl⟩) hS ?_
        rintro _ H locs - hT hS
        exact x_rv hx hb hr hlk hQ (Nat.le_of_ble_eq_true rfl) (Nat.le_of_ble_eq_true rfl) hS dX1_offerValues_78 () trivial hT.nil
    refine xi_zeq (tgt := 63) hx hb (rfl : Int32.toInt x5 = x5.toInt) dX1_offerValues_54 (by decide) (fun c10 => ?_) (fun c10 => ?_)
    · exact J63 _ _ _ hT.nil hS (lv_sub hl [0, 1, 3] rfl)
    · refine lv_aload_n hx hb dX1_offerValues_57 rfl (lv_at hl 0 rfl) ?_
      refine lv_iload hx hb dX1_offerValues_58 (lv_at hl 2 rfl) ?_
      refine x_cv0 (x_runV (b := a) (As := [.int x3]) (rest := []) S (c_X1_insert l E K F G a x3 ha) mv_X1_insert km_X1_93 rfl rfl ⟨Nat.le_of_ble_eq_true rfl, Nat.le_of_ble_eq_true rfl⟩ (rc_3 hK hT ha) hK (fun _ => XP.blind) (fun U hU hW => XP.at hK hz hS hT hU hW) rfl hl.1 (Nat.le_of_ble_eq_true rfl) dX1_offerValues_60 ⟨Nat.le_of_ble_eq_true rfl, Nat.le_of_ble_eq_true rfl⟩) hS ?_
      rintro _ H locs - hT hS
      exact J63 _ _ _ hT.nil hS (lv_sub hl [0, 1, 3] rfl)
  refine xi_cne (tgt := 48) hx hb (rfl : Int32.toInt x3 = x3.toInt) (rfl : Int32.toInt x4 = x4.toInt) dX1_offerValues_36 (by decide) (fun c11 => ?_) (fun c11 => ?_)
  · exact J48 _ _ _ hT hS (lv_sub hl [2, 3, 1, 0] rfl)
  · refine lv_aload_n hx hb dX1_offerValues_39 rfl (lv_at hl 3 rfl) ?_
    refine gX7_0 S hK hT hp0 kf_X1_76 dX1_offerValues_40 (fun x12 hT => ?_)
    refine lv_iconst (v := 3) hx hb dX1_offerValues_43 (by decide) ?_
    refine xi_ceq (tgt := 48) hx hb (rfl : Int32.toInt x12 = x12.toInt) ((by decide) : Int32.toInt 3 = (3 : Int)) dX1_offerValues_44 (by decide) (fun c13 => ?_) (fun c13 => ?_)
    · exact J48 _ _ _ (hT.sub (List.forall_mem_cons.mpr ⟨List.mem_of_getElem? (i := 1) rfl, List.forall_mem_cons.mpr ⟨List.mem_of_getElem? (i := 2) rfl, fun _ h => by cases h⟩⟩)) hS (lv_sub hl [2, 3, 1, 0] rfl)
    · exact x_rv hx hb hr hlk hQ (Nat.le_of_ble_eq_true rfl) (Nat.le_of_ble_eq_true rfl) hS dX1_offerValues_47 () trivial hT.nil

theorem z_X1_offerByRows_1 (a0 : Int) (h0 : (0 : Int) ≤ a0) (r0 : -2147483648 ≤ a0 ∧ a0 < 2147483648) : ¬ (2147483648 - a0 < ((0 : Nat) : Int)) := by omega
theorem z_X1_offerByRows_2 (a0 : Int) (a1 : Int) (a2 : Nat) (h0 : (0 : Int) ≤ a1) (h1 : 2147483648 - a1 < ((a2 + 1 : Nat) : Int)) (h2 : ¬ ((30 : Int) ≤ a1)) (h3 : a0 = a1 + 1 ∨ a1 + 1 < -2147483648 ∨ 2147483648 ≤ a1 + 1) (r0 : -2147483648 ≤ a0 ∧ a0 < 2147483648) (r1 : -2147483648 ≤ a1 ∧ a1 < 2147483648) : (0 : Int) ≤ a0 := by omega
theorem z_X1_offerByRows_3 (a0 : Int) (a1 : Int) (a2 : Nat) (h0 : (0 : Int) ≤ a1) (h1 : 2147483648 - a1 < ((a2 + 1 : Nat) : Int)) (h2 : ¬ ((30 : Int) ≤ a1)) (h3 : a0 = a1 + 1 ∨ a1 + 1 < -2147483648 ∨ 2147483648 ≤ a1 + 1) (r0 : -2147483648 ≤ a0 ∧ a0 < 2147483648) (r1 : -2147483648 ≤ a1 ∧ a1 < 2147483648) : 2147483648 - a0 < ((a2 : Nat) : Int) := by omega
theorem z_X1_offerByRows_4 (a0 : Int) (a1 : Int) (h0 : (a1 = 1 ∧ 0 ≤ a0 ∧ a0 < 3) ∨ (a1 = 0 ∧ (a0 < 0 ∨ 3 ≤ a0))) (h1 : ¬ (a1 = 0)) (r0 : -2147483648 ≤ a0 ∧ a0 < 2147483648) (r1 : -2147483648 ≤ a1 ∧ a1 < 2147483648) : 0 ≤ a0 ∧ a0 < ((3 : Nat) : Int) := by omega
abbrev rm_X1_offerByRows : Room := { frames := 3, cells := 0, slots := 0, locals := 70 }
set_option maxHeartbeats 4000000 in
set_option maxRecDepth 100000 in
theorem c_X1_offerByRows (l : Launch) (E : XE) (K : Nat → Nat) (F : Nat → Nat → Nat) (G : XG) (a : Nat) (p0 : Nat) (p1 : Nat) (p2 : Nat) (ha : K a = 3) (hp0 : K p0 = 9) (hp1 : K p1 = 8) (hp2 : K p2 = 8) : Met l yX1_offerByRows (xw yX1_offerByRows cX1_offerByRows 6 none) rm_X1_offerByRows (va_Pc [.ref a, .ref p0, .ref p1, .ref p2] (XP E K F G)) (XQv E (fun (u : Unit) => True) (fun _ H => TW E K F G [] H)) 0 0 (xA E) := by
  refine x_enter (by decide) (Nat.le_of_ble_eq_true rfl) ?_
  intro p e s m args below meth c Q S hr hlk hnm hQ hP ls hl
  obtain ⟨hz, hK, hT⟩ := hP
  obtain ⟨hx, hb, -, -, -⟩ := id S
  obtain ⟨H, hT, hS, hgo⟩ : ∃ H : Heap, TW E K F G [] H ∧ va_S (xA E) s.heap H [] ∧ H = s.heap := ⟨_, hT, va_S.rf, rfl⟩
  rw [← hgo]
  have hl : lv_has ls 6 [(0, .ref a), (1, .ref p0), (2, .ref p1), (3, .ref p2)] := hl
  refine lv_aload_n hx hb dX1_offerByRows_0 rfl (lv_at hl 1 rfl) ?_
  refine gX7_2 S hK hT hp0 kf_X1_73 dX1_offerByRows_1 (fun x1 hT => ?_)
  refine x_clp (x_runSN (As := [.int x1]) (rest := []) S (c_X10_isTable l E K F G H x1) ms_X10_isTable (by decide +kernel) rfl rfl ⟨Nat.le_of_ble_eq_true rfl, Nat.le_of_ble_eq_true rfl⟩ hK (fun _ => XPh.blind) (fun U hU hW => XPh.at hK hz hS hT hU hW) rfl hl.1 (Nat.le_of_ble_eq_true rfl) dX1_offerByRows_4 ⟨Nat.le_of_ble_eq_true rfl, Nat.le_of_ble_eq_true rfl⟩) hS ?_
  rintro _ _ locs ⟨x2, rfl, b3, t4⟩ hS
  have t4 : (x2.toInt = 1 ∧ 0 ≤ x1.toInt ∧ x1.toInt < 3) ∨ (x2.toInt = 0 ∧ (x1.toInt < 0 ∨ 3 ≤ x1.toInt)) := t4
  have J23 : ∀ (x5 : Int32) (H : Heap) (locs : List Loc) (ls : Array Slot), TW E K F G [(p0, 2, x1)] H → va_S (xA E) s.heap H locs → lv_has ls 6 [(0, .ref a), (1, .ref p0), (2, .ref p1), (3, .ref p2)] → W p l e rm_X1_offerByRows s m args below meth c H locs 0 0 Q (F0 m 23 ls [.int x5]) := by
    intro x5 H locs ls hT hS hl
    refine lv_istore (lv' := [(4, .int x5), (0, .ref a), (1, .ref p0), (2, .ref p1), (3, .ref p2)]) hx hb dX1_offerByRows_23 hl (by decide) rfl (fun ls hl => ?_)
    refine lv_aload_n hx hb dX1_offerByRows_25 rfl (lv_at hl 2 rfl) ?_
    refine gX7_0 S hK hT hp0 kf_X1_76 dX1_offerByRows_26 (fun x6 hT => ?_)
    refine lv_iconst (v := 2) hx hb dX1_offerByRows_29 (by decide) ?_
    have J41 : ∀ (H : Heap) (locs : List Loc) (ls : Array Slot), TW E K F G [(p0, 0, x6), (p0, 2, x1)] H → va_S (xA E) s.heap H locs → lv_has ls 6 [(0, .ref a), (4, .int x5)] → W p l e rm_X1_offerByRows s m args below meth c H locs 0 0 Q (F0 m 41 ls []) := by
      intro H locs ls hT hS hl
      refine lv_aload_n hx hb dX1_offerByRows_41 rfl (lv_at hl 0 rfl) ?_
      refine lv_iload hx hb dX1_offerByRows_42 (lv_at hl 1 rfl) ?_
      refine x_cv0 (x_runV (b := a) (As := [.int x5]) (rest := []) S (c_X1_offerKeys l E K F G a x5 ha) mv_X1_offerKeys km_X1_55 rfl rfl ⟨Nat.le_of_ble_eq_true rfl, Nat.le_of_ble_eq_true rfl⟩ (rc_3 hK hT ha) hK (fun _ => XP.blind) (fun U hU hW => XP.at hK hz hS hT hU hW) rfl hl.1 (Nat.le_of_ble_eq_true rfl) dX1_offerByRows_44 ⟨Nat.le_of_ble_eq_true rfl, Nat.le_of_ble_eq_true rfl⟩) hS ?_
      rintro _ H locs - hT hS
      exact x_rv hx hb hr hlk hQ (Nat.le_of_ble_eq_true rfl) (Nat.le_of_ble_eq_true rfl) hS dX1_offerByRows_47 () trivial hT.nil
    refine xi_ceq (tgt := 41) hx hb (rfl : Int32.toInt x6 = x6.toInt) ((by decide) : Int32.toInt 2 = (2 : Int)) dX1_offerByRows_30 (by decide) (fun c7 => ?_) (fun c7 => ?_)
    · exact J41 _ _ _ hT hS (lv_sub hl [1, 0] rfl)
    · refine lv_aload_n hx hb dX1_offerByRows_33 rfl (lv_at hl 2 rfl) ?_
      refine kX7_0 (v := x6) S hK hT hp0 (List.mem_of_getElem? (i := 0) rfl) kf_X1_76 dX1_offerByRows_34 ?_
      refine lv_iconst (v := 5) hx hb dX1_offerByRows_37 (by decide) ?_
      refine xi_cne (tgt := 48) hx hb (rfl : Int32.toInt x6 = x6.toInt) ((by decide) : Int32.toInt 5 = (5 : Int)) dX1_offerByRows_38 (by decide) (fun c8 => ?_) (fun c8 => ?_)
      · refine lv_iconst (v := 0) hx hb dX1_offerByRows_48 (by decide) ?_
        refine lv_istore (lv' := [(5, .int 0), (4, .int x5), (0, .ref a), (1, .ref p0), (2, .ref p1), (3, .ref p2)]) hx hb dX1_offerByRows_49 hl (by decide) rfl (fun ls hl => ?_)
        have L51 : ∀ (N10 : Nat) (x9 : Int32) (H : Heap) (locs : List Loc) (ls : Array Slot), (0 : Int) ≤ x9.toInt → 2147483648 - x9.toInt < ((N10 : Nat) : Int) → TW E K F G [] H → va_S (xA E) s.heap H locs → lv_has ls 6 [(0, .ref a), (1, .ref p0), (2, .ref p1), (3, .ref p2), (4, .int x5), (5, .int x9)] → W p l e rm_X1_offerByRows s m args below meth c H locs 0 0 Q (F0 m 51 ls []) := by
          intro N10
          induction N10 with
          | zero =>
            intro x9 H locs ls hf11 hm12
            exact absurd hm12 (z_X1_offerByRows_1 x9.toInt hf11 (xr x9))
          | succ N10 ih13 =>
            intro x9 H locs ls hf11 hm12 hT hS hl
            refine lv_iload hx hb dX1_offerByRows_51 (lv_at hl 5 rfl) ?_
            refine lv_bipush (v := 30) hx hb dX1_offerByRows_53 (by decide) ?_
            refine xi_cge (tgt := 91) hx hb (rfl : Int32.toInt x9 = x9.toInt) ((by decide) : Int32.toInt 30 = (30 : Int)) dX1_offerByRows_55 (by decide) (fun c14 => ?_) (fun c14 => ?_)
            · exact x_rv hx hb hr hlk hQ (Nat.le_of_ble_eq_true rfl) (Nat.le_of_ble_eq_true rfl) hS dX1_offerByRows_91 () trivial hT.nil
            · refine lv_iload hx hb dX1_offerByRows_58 (lv_at hl 4 rfl) ?_
              refine lv_iload hx hb dX1_offerByRows_60 (lv_at hl 5 rfl) ?_
              refine lv_ishr hx hb dX1_offerByRows_62 (lv_topi (fun x15 _ => ?_))
              refine xi_zeq (tgt := 91) hx hb (rfl : Int32.toInt x15 = x15.toInt) dX1_offerByRows_63 (by decide) (fun c16 => ?_) (fun c16 => ?_)
              · exact x_rv hx hb hr hlk hQ (Nat.le_of_ble_eq_true rfl) (Nat.le_of_ble_eq_true rfl) hS dX1_offerByRows_91 () trivial hT.nil
              · refine lv_iload hx hb dX1_offerByRows_66 (lv_at hl 4 rfl) ?_
                refine lv_iload hx hb dX1_offerByRows_68 (lv_at hl 5 rfl) ?_
                refine lv_ishr hx hb dX1_offerByRows_70 (lv_topi (fun x17 _ => ?_))
                refine lv_iconst (v := 1) hx hb dX1_offerByRows_71 (by decide) ?_
                refine lv_iand hx hb dX1_offerByRows_72 (lv_topi (fun x18 _ => ?_))
                have J85 : ∀ (H : Heap) (locs : List Loc) (ls : Array Slot), TW E K F G [] H → va_S (xA E) s.heap H locs → lv_has ls 6 [(0, .ref a), (1, .ref p0), (2, .ref p1), (3, .ref p2), (4, .int x5), (5, .int x9)] → W p l e rm_X1_offerByRows s m args below meth c H locs 0 0 Q (F0 m 85 ls []) := by
                  intro H locs ls hT hS hl
                  refine xi_iinc (n := 1) (lv' := fun z9 => [(5, .int z9), (0, .ref a), (1, .ref p0), (2, .ref p1), (3, .ref p2), (4, .int x5)]) (k := 5) hx hb (rfl : Int32.toInt x9 = x9.toInt) (by decide) dX1_offerByRows_85 hl rfl (by decide) (fun _ => rfl) (fun x19 ls t20 hl => ?_)
                  have hl : lv_has ls 6 [(5, .int x19), (0, .ref a), (1, .ref p0), (2, .ref p1), (3, .ref p2), (4, .int x5)] := hl
                  refine lv_goto (tgt := 51) hx hb dX1_offerByRows_88 (by decide) ?_
                  exact ih13 x19 _ _ _ (z_X1_offerByRows_2 x19.toInt x9.toInt N10 hf11 hm12 c14 t20 (xr x19) (xr x9)) (z_X1_offerByRows_3 x19.toInt x9.toInt N10 hf11 hm12 c14 t20 (xr x19) (xr x9)) hT.nil hS (lv_sub hl [1, 2, 3, 4, 5, 0] rfl)
                refine xi_zeq (tgt := 85) hx hb (rfl : Int32.toInt x18 = x18.toInt) dX1_offerByRows_73 (by decide) (fun c21 => ?_) (fun c21 => ?_)
                · exact J85 _ _ _ hT.nil hS (lv_sub hl [0, 1, 2, 3, 4, 5] rfl)
                · refine lv_aload_n hx hb dX1_offerByRows_76 rfl (lv_at hl 0 rfl) ?_
                  refine lv_aload_n hx hb dX1_offerByRows_77 rfl (lv_at hl 1 rfl) ?_
                  refine lv_aload_n hx hb dX1_offerByRows_78 rfl (lv_at hl 2 rfl) ?_
                  refine lv_aload_n hx hb dX1_offerByRows_79 rfl (lv_at hl 3 rfl) ?_
                  refine lv_iload hx hb dX1_offerByRows_80 (lv_at hl 5 rfl) ?_
                  refine x_cv0 (x_runV (b := a) (As := [.ref p0, .ref p1, .ref p2, .int x9]) (rest := []) S (c_X1_offerValues l E K F G a p0 p1 p2 x9 ha hp0 hp1 hp2) mv_X1_offerValues km_X1_79 rfl rfl ⟨Nat.le_of_ble_eq_true rfl, Nat.le_of_ble_eq_true rfl⟩ (rc_3 hK hT ha) hK (fun _ => XP.blind) (fun U hU hW => XP.at hK hz hS hT hU hW) rfl hl.1 (Nat.le_of_ble_eq_true rfl) dX1_offerByRows_82 ⟨Nat.le_of_ble_eq_true rfl, Nat.le_of_ble_eq_true rfl⟩) hS ?_
                  rintro _ H locs - hT hS
                  exact J85 _ _ _ hT.nil hS (lv_sub hl [0, 1, 2, 3, 4, 5] rfl)
        exact L51 4294967297 0 _ _ _ (by decide) (by decide) hT.nil hS (lv_sub hl [2, 3, 4, 5, 1, 0] rfl)
      · exact J41 _ _ _ hT hS (lv_sub hl [1, 0] rfl)
  refine xi_zeq (tgt := 22) hx hb (rfl : Int32.toInt x2 = x2.toInt) dX1_offerByRows_7 (by decide) (fun c22 => ?_) (fun c22 => ?_)
  · refine lv_iconst (v := 0) hx hb dX1_offerByRows_22 (by decide) ?_
    exact J23 0 _ _ _ hT hS (lv_sub hl [0, 1, 2, 3] rfl)
  · refine lv_aload_n hx hb dX1_offerByRows_10 rfl (lv_at hl 0 rfl) ?_
    refine gX1_0 S hK hT ha kf_X1_9 dX1_offerByRows_11 (fun hk23 => ?_)
    refine lv_aload_n hx hb dX1_offerByRows_14 rfl (lv_at hl 1 rfl) ?_
    refine kX7_2 (v := x1) S hK hT hp0 (List.mem_of_getElem? (i := 0) rfl) kf_X1_73 dX1_offerByRows_15 ?_
    refine al_0 S hK hT hk23 ar_21 (by decide) (z_X1_offerByRows_4 x1.toInt x2.toInt t4 c22 (xr x1) (xr x2)) dX1_offerByRows_18 (fun x24 o25 => ?_)
    refine lv_goto (tgt := 23) hx hb dX1_offerByRows_19 (by decide) ?_
    exact J23 x24 _ _ _ hT hS (lv_sub hl [0, 1, 2, 3] rfl)

theorem z_X1_addQuestions_1 (a0 : Int) (h0 : (0 : Int) ≤ a0) (r0 : -2147483648 ≤ a0 ∧ a0 < 2147483648) : ¬ (2147483648 - a0 < ((0 : Nat) : Int)) := by omega
theorem z_X1_addQuestions_2 (a0 : Int) (a1 : Int) (a2 : Nat) (h0 : (0 : Int) ≤ a0) (h1 : 2147483648 - a0 < ((a2 + 1 : Nat) : Int)) (h2 : ¬ (a1 ≤ a0)) (h3 : ¬ ((90 : Int) ≤ a0)) (r0 : -2147483648 ≤ a0 ∧ a0 < 2147483648) (r1 : -2147483648 ≤ a1 ∧ a1 < 2147483648) : 0 ≤ a0 ∧ a0 < ((90 : Nat) : Int) := by omega
theorem z_X1_addQuestions_3 (a0 : Int) (a1 : Int) (a2 : Int) (a3 : Nat) (h0 : (0 : Int) ≤ a1) (h1 : 2147483648 - a1 < ((a3 + 1 : Nat) : Int)) (h2 : ¬ (a2 ≤ a1)) (h3 : ¬ ((90 : Int) ≤ a1)) (h4 : a0 = a1 + 1 ∨ a1 + 1 < -2147483648 ∨ 2147483648 ≤ a1 + 1) (r0 : -2147483648 ≤ a0 ∧ a0 < 2147483648) (r1 : -2147483648 ≤ a1 ∧ a1 < 2147483648) (r2 : -2147483648 ≤ a2 ∧ a2 < 2147483648) : (0 : Int) ≤ a0 := by omega
theorem z_X1_addQuestions_4 (a0 : Int) (a1 : Int) (a2 : Int) (a3 : Nat) (h0 : (0 : Int) ≤ a1) (h1 : 2147483648 - a1 < ((a3 + 1 : Nat) : Int)) (h2 : ¬ (a2 ≤ a1)) (h3 : ¬ ((90 : Int) ≤ a1)) (h4 : a0 = a1 + 1 ∨ a1 + 1 < -2147483648 ∨ 2147483648 ≤ a1 + 1) (r0 : -2147483648 ≤ a0 ∧ a0 < 2147483648) (r1 : -2147483648 ≤ a1 ∧ a1 < 2147483648) (r2 : -2147483648 ≤ a2 ∧ a2 < 2147483648) : 2147483648 - a0 < ((a3 : Nat) : Int) := by omega
theorem z_X1_addQuestions_5 (a0 : Int) (a1 : Int) (h0 : (a1 = 1 ∧ 0 ≤ a0 ∧ a0 < 3) ∨ (a1 = 0 ∧ (a0 < 0 ∨ 3 ≤ a0))) (h1 : ¬ (a1 = 0)) (r0 : -2147483648 ≤ a0 ∧ a0 < 2147483648) (r1 : -2147483648 ≤ a1 ∧ a1 < 2147483648) : 0 ≤ a0 ∧ a0 < ((3 : Nat) : Int) := by omega
abbrev rm_X1_addQuestions : Room := { frames := 4, cells := 0, slots := 0, locals := 95 }
set_option maxHeartbeats 4000000 in
set_option maxRecDepth 100000 in
theorem c_X1_addQuestions (l : Launch) (E : XE) (K : Nat → Nat) (F : Nat → Nat → Nat) (G : XG) (a : Nat) (p0 : Nat) (p1 : Nat) (p2 : Nat) (p3 : Nat) (ha : K a = 3) (hp0 : K p0 = 9) (hp1 : K p1 = 8) (hp2 : K p2 = 8) (hp3 : K p3 = 6) : Met l yX1_addQuestions (xw yX1_addQuestions cX1_addQuestions 9 none) rm_X1_addQuestions (va_Pc [.ref a, .ref p0, .ref p1, .ref p2, .ref p3] (XP E K F G)) (XQv E (fun (u : Unit) => True) (fun _ H => TW E K F G [] H)) 0 0 (xA E) := by
  refine x_enter (by decide) (Nat.le_of_ble_eq_true rfl) ?_
  intro p e s m args below meth c Q S hr hlk hnm hQ hP ls hl
  obtain ⟨hz, hK, hT⟩ := hP
  obtain ⟨hx, hb, -, -, -⟩ := id S
  obtain ⟨H, hT, hS, hgo⟩ : ∃ H : Heap, TW E K F G [] H ∧ va_S (xA E) s.heap H [] ∧ H = s.heap := ⟨_, hT, va_S.rf, rfl⟩
  rw [← hgo]
  have hl : lv_has ls 9 [(0, .ref a), (1, .ref p0), (2, .ref p1), (3, .ref p2), (4, .ref p3)] := hl
  refine lv_aload_n hx hb dX1_addQuestions_0 rfl (lv_at hl 0 rfl) ?_
  refine lv_iconst (v := 0) hx hb dX1_addQuestions_1 (by decide) ?_
  refine pX1_3 (kq := []) S hK hT hS ha kf_X1_38 dX1_addQuestions_2 (fun _ h => by cases h) (fun H locs hT hS => ?_)
  refine lv_aload_n hx hb dX1_addQuestions_5 rfl (lv_at hl 0 rfl) ?_
  refine lv_aload_n hx hb dX1_addQuestions_6 rfl (lv_at hl 1 rfl) ?_
  refine lv_aload_n hx hb dX1_addQuestions_7 rfl (lv_at hl 2 rfl) ?_
  refine lv_aload_n hx hb dX1_addQuestions_8 rfl (lv_at hl 3 rfl) ?_
  refine x_cv0 (x_runV (b := a) (As := [.ref p0, .ref p1, .ref p2]) (rest := []) S (c_X1_offerByRows l E K F G a p0 p1 p2 ha hp0 hp1 hp2) mv_X1_offerByRows km_X1_42 rfl rfl ⟨Nat.le_of_ble_eq_true rfl, Nat.le_of_ble_eq_true rfl⟩ (rc_3 hK hT ha) hK (fun _ => XP.blind) (fun U hU hW => XP.at hK hz hS hT hU hW) rfl hl.1 (Nat.le_of_ble_eq_true rfl) dX1_addQuestions_9 ⟨Nat.le_of_ble_eq_true rfl, Nat.le_of_ble_eq_true rfl⟩) hS ?_
  rintro _ H locs - hT hS
  refine lv_aload_n hx hb dX1_addQuestions_12 rfl (lv_at hl 1 rfl) ?_
  refine x_clp (x_runV (b := p0) (As := []) (rest := []) S (c_X7_looksAtKeys l E K F G H p0 hp0) mv_X7_looksAtKeys km_X1_46 rfl rfl ⟨Nat.le_of_ble_eq_true rfl, Nat.le_of_ble_eq_true rfl⟩ (rc_9 hK hT hp0) hK (fun _ => XPh.blind) (fun U hU hW => XPh.at hK hz hS hT hU hW) rfl hl.1 (Nat.le_of_ble_eq_true rfl) dX1_addQuestions_13 ⟨Nat.le_of_ble_eq_true rfl, Nat.le_of_ble_eq_true rfl⟩) hS ?_
  rintro _ _ locs ⟨x1, rfl, b2⟩ hS
  have J42 : ∀ (H : Heap) (locs : List Loc) (ls : Array Slot), TW E K F G [] H → va_S (xA E) s.heap H locs → lv_has ls 9 [(0, .ref a), (1, .ref p0), (2, .ref p1), (3, .ref p2), (4, .ref p3)] → W p l e rm_X1_addQuestions s m args below meth c H locs 0 0 Q (F0 m 42 ls []) := by
    intro H locs ls hT hS hl
    refine lv_iconst (v := 0) hx hb dX1_addQuestions_42 (by decide) ?_
    refine lv_istore (lv' := [(5, .int 0), (0, .ref a), (1, .ref p0), (2, .ref p1), (3, .ref p2), (4, .ref p3)]) hx hb dX1_addQuestions_43 hl (by decide) rfl (fun ls hl => ?_)
    have L45 : ∀ (N4 : Nat) (x3 : Int32) (H : Heap) (locs : List Loc) (ls : Array Slot), (0 : Int) ≤ x3.toInt → 2147483648 - x3.toInt < ((N4 : Nat) : Int) → TW E K F G [] H → va_S (xA E) s.heap H locs → lv_has ls 9 [(0, .ref a), (1, .ref p0), (2, .ref p1), (3, .ref p2), (4, .ref p3), (5, .int x3)] → W p l e rm_X1_addQuestions s m args below meth c H locs 0 0 Q (F0 m 45 ls []) := by
      intro N4
      induction N4 with
      | zero =>
        intro x3 H locs ls hf5 hm6
        exact absurd hm6 (z_X1_addQuestions_1 x3.toInt hf5 (xr x3))
      | succ N4 ih7 =>
        intro x3 H locs ls hf5 hm6 hT hS hl
        refine lv_iload hx hb dX1_addQuestions_45 (lv_at hl 5 rfl) ?_
        refine lv_aload_n hx hb dX1_addQuestions_47 rfl (lv_at hl 0 rfl) ?_
        refine gX1_3 S hK hT ha kf_X1_38 dX1_addQuestions_48 (fun x8 hT => ?_)
        refine xi_cge (tgt := 122) hx hb (rfl : Int32.toInt x3 = x3.toInt) (rfl : Int32.toInt x8 = x8.toInt) dX1_addQuestions_51 (by decide) (fun c9 => ?_) (fun c9 => ?_)
        · exact x_rv hx hb hr hlk hQ (Nat.le_of_ble_eq_true rfl) (Nat.le_of_ble_eq_true rfl) hS dX1_addQuestions_122 () trivial hT.nil
        · refine lv_iload hx hb dX1_addQuestions_54 (lv_at hl 5 rfl) ?_
          refine lv_bipush (v := 90) hx hb dX1_addQuestions_56 (by decide) ?_
          refine xi_cge (tgt := 122) hx hb (rfl : Int32.toInt x3 = x3.toInt) ((by decide) : Int32.toInt 90 = (90 : Int)) dX1_addQuestions_58 (by decide) (fun c10 => ?_) (fun c10 => ?_)
          · exact x_rv hx hb hr hlk hQ (Nat.le_of_ble_eq_true rfl) (Nat.le_of_ble_eq_true rfl) hS dX1_addQuestions_122 () trivial hT.nil
          · refine lv_aload_n hx hb dX1_addQuestions_61 rfl (lv_at hl 0 rfl) ?_
            refine gX1_2 S hK hT ha kf_X1_18 dX1_addQuestions_62 (fun hk11 => ?_)
            refine lv_iload hx hb dX1_addQuestions_65 (lv_at hl 5 rfl) ?_
            refine al_0 S hK hT hk11 ar_24 (by decide) (z_X1_addQuestions_2 x3.toInt x8.toInt N4 hf5 hm6 c9 c10 (xr x3) (xr x8)) dX1_addQuestions_67 (fun x12 o13 => ?_)
            refine lv_istore (lv' := [(6, .int x12), (0, .ref a), (1, .ref p0), (2, .ref p1), (3, .ref p2), (4, .ref p3), (5, .int x3)]) hx hb dX1_addQuestions_68 hl (by decide) rfl (fun ls hl => ?_)
            refine lv_aload_n hx hb dX1_addQuestions_70 rfl (lv_at hl 2 rfl) ?_
            refine lv_aload_n hx hb dX1_addQuestions_71 rfl (lv_at hl 3 rfl) ?_
            refine lv_iload hx hb dX1_addQuestions_72 (lv_at hl 0 rfl) ?_
            refine x_clp (x_runV (b := p0) (As := [.ref p1, .int x12]) (rest := []) S (c_X7_state l E K F G H p0 p1 x12 hp0 hp1) mv_X7_state km_X1_59 rfl rfl ⟨Nat.le_of_ble_eq_true rfl, Nat.le_of_ble_eq_true rfl⟩ (rc_9 hK hT hp0) hK (fun _ => XPh.blind) (fun U hU hW => XPh.at hK hz hS hT hU hW) rfl hl.1 (Nat.le_of_ble_eq_true rfl) dX1_addQuestions_74 ⟨Nat.le_of_ble_eq_true rfl, Nat.le_of_ble_eq_true rfl⟩) hS ?_
            rintro _ _ locs ⟨x14, rfl⟩ hS
            refine lv_istore (lv' := [(7, .int x14), (6, .int x12), (0, .ref a), (1, .ref p0), (2, .ref p1), (3, .ref p2), (4, .ref p3), (5, .int x3)]) hx hb dX1_addQuestions_77 hl (by decide) rfl (fun ls hl => ?_)
            refine lv_aload_n hx hb dX1_addQuestions_79 rfl (lv_at hl 3 rfl) ?_
            refine lv_aload_n hx hb dX1_addQuestions_80 rfl (lv_at hl 5 rfl) ?_
            refine lv_iload hx hb dX1_addQuestions_81 (lv_at hl 1 rfl) ?_
            refine x_clp (x_runV (b := p0) (As := [.ref p2, .int x12]) (rest := []) S (c_X7_state l E K F G H p0 p2 x12 hp0 hp2) mv_X7_state km_X1_59 rfl rfl ⟨Nat.le_of_ble_eq_true rfl, Nat.le_of_ble_eq_true rfl⟩ (rc_9 hK hT hp0) hK (fun _ => XPh.blind) (fun U hU hW => XPh.at hK hz hS hT hU hW) rfl hl.1 (Nat.le_of_ble_eq_true rfl) dX1_addQuestions_83 ⟨Nat.le_of_ble_eq_true rfl, Nat.le_of_ble_eq_true rfl⟩) hS ?_
            rintro _ _ locs ⟨x15, rfl⟩ hS
            refine lv_istore (lv' := [(8, .int x15), (7, .int x14), (6, .int x12), (0, .ref a), (1, .ref p0), (2, .ref p1), (3, .ref p2), (4, .ref p3), (5, .int x3)]) hx hb dX1_addQuestions_86 hl (by decide) rfl (fun ls hl => ?_)
            refine lv_iload hx hb dX1_addQuestions_88 (lv_at hl 1 rfl) ?_
            refine lv_iload hx hb dX1_addQuestions_90 (lv_at hl 0 rfl) ?_
            have J116 : ∀ (H : Heap) (locs : List Loc) (ls : Array Slot), TW E K F G [] H → va_S (xA E) s.heap H locs → lv_has ls 9 [(0, .ref a), (1, .ref p0), (2, .ref p1), (3, .ref p2), (4, .ref p3), (5, .int x3)] → W p l e rm_X1_addQuestions s m args below meth c H locs 0 0 Q (F0 m 116 ls []) := by
              intro H locs ls hT hS hl
              refine xi_iinc (n := 1) (lv' := fun z9 => [(5, .int z9), (0, .ref a), (1, .ref p0), (2, .ref p1), (3, .ref p2), (4, .ref p3)]) (k := 5) hx hb (rfl : Int32.toInt x3 = x3.toInt) (by decide) dX1_addQuestions_116 hl rfl (by decide) (fun _ => rfl) (fun x16 ls t17 hl => ?_)
              have hl : lv_has ls 9 [(5, .int x16), (0, .ref a), (1, .ref p0), (2, .ref p1), (3, .ref p2), (4, .ref p3)] := hl
              refine lv_goto (tgt := 45) hx hb dX1_addQuestions_119 (by decide) ?_
              exact ih7 x16 _ _ _ (z_X1_addQuestions_3 x16.toInt x3.toInt x8.toInt N4 hf5 hm6 c9 c10 t17 (xr x16) (xr x3) (xr x8)) (z_X1_addQuestions_4 x16.toInt x3.toInt x8.toInt N4 hf5 hm6 c9 c10 t17 (xr x16) (xr x3) (xr x8)) hT.nil hS (lv_sub hl [1, 2, 3, 4, 5, 0] rfl)
            refine xi_ceq (tgt := 116) hx hb (rfl : Int32.toInt x14 = x14.toInt) (rfl : Int32.toInt x15 = x15.toInt) dX1_addQuestions_92 (by decide) (fun c18 => ?_) (fun c18 => ?_)
            · exact J116 _ _ _ hT.nil hS (lv_sub hl [3, 4, 5, 6, 7, 8] rfl)
            · refine lv_aload hx hb dX1_addQuestions_95 (lv_at hl 7 rfl) ?_
              refine lv_aload_n hx hb dX1_addQuestions_97 rfl (lv_at hl 4 rfl) ?_
              refine lv_iload hx hb dX1_addQuestions_98 (lv_at hl 2 rfl) ?_
              refine lv_iload hx hb dX1_addQuestions_100 (lv_at hl 1 rfl) ?_
              refine lv_iload hx hb dX1_addQuestions_102 (lv_at hl 0 rfl) ?_
              refine lv_aload_n hx hb dX1_addQuestions_104 rfl (lv_at hl 4 rfl) ?_
              refine lv_aload_n hx hb dX1_addQuestions_105 rfl (lv_at hl 6 rfl) ?_
              refine lv_iload hx hb dX1_addQuestions_106 (lv_at hl 2 rfl) ?_
              refine lv_iload hx hb dX1_addQuestions_108 (lv_at hl 0 rfl) ?_
              refine x_clp (x_runV (b := p0) (As := [.ref p2, .int x12, .int x15]) (rest := [.int x15, .int x14, .int x12, .ref p0, .ref p3]) S (c_X7_fails l E K F G H p0 p2 x12 x15 hp0 hp2) mv_X7_fails km_X1_63 rfl rfl ⟨Nat.le_of_ble_eq_true rfl, Nat.le_of_ble_eq_true rfl⟩ (rc_9 hK hT hp0) hK (fun _ => XPh.blind) (fun U hU hW => XPh.at hK hz hS hT hU hW) rfl hl.1 (Nat.le_of_ble_eq_true rfl) dX1_addQuestions_110 ⟨Nat.le_of_ble_eq_true rfl, Nat.le_of_ble_eq_true rfl⟩) hS ?_
              rintro _ _ locs ⟨x19, rfl, b20⟩ hS
              refine x_cv0 (x_runV (b := p3) (As := [.ref p0, .int x12, .int x14, .int x15, .int x19]) (rest := []) S (c_X4_add l E K F G p3 p0 x12 x14 x15 x19 hp3 hp0 b20) mv_X4_add km_X1_67 rfl rfl ⟨Nat.le_of_ble_eq_true rfl, Nat.le_of_ble_eq_true rfl⟩ (rc_6 hK hT hp3) hK (fun _ => XP.blind) (fun U hU hW => XP.at hK hz hS hT hU hW) rfl hl.1 (Nat.le_of_ble_eq_true rfl) dX1_addQuestions_113 ⟨Nat.le_of_ble_eq_true rfl, Nat.le_of_ble_eq_true rfl⟩) hS ?_
              rintro _ H locs - hT hS
              exact J116 _ _ _ hT.nil hS (lv_sub hl [3, 4, 5, 6, 7, 8] rfl)
    exact L45 4294967297 0 _ _ _ (by decide) (by decide) hT.nil hS (lv_sub hl [1, 2, 3, 4, 5, 0] rfl)
  refine xi_zeq (tgt := 42) hx hb (rfl : Int32.toInt x1 = x1.toInt) dX1_addQuestions_16 (by decide) (fun c21 => ?_) (fun c21 => ?_)
  · exact J42 _ _ _ hT.nil hS (lv_sub hl [0, 1, 2, 3, 4] rfl)
  · refine lv_aload_n hx hb dX1_addQuestions_19 rfl (lv_at hl 1 rfl) ?_
    refine gX7_4 S hK hT hp0 kf_X1_52 dX1_addQuestions_20 (fun x22 hT => ?_)
    refine x_clp (x_runSN (As := [.int x22]) (rest := []) S (c_X10_isTable l E K F G H x22) ms_X10_isTable (by decide +kernel) rfl rfl ⟨Nat.le_of_ble_eq_true rfl, Nat.le_of_ble_eq_true rfl⟩ hK (fun _ => XPh.blind) (fun U hU hW => XPh.at hK hz hS hT hU hW) rfl hl.1 (Nat.le_of_ble_eq_true rfl) dX1_addQuestions_23 ⟨Nat.le_of_ble_eq_true rfl, Nat.le_of_ble_eq_true rfl⟩) hS ?_
    rintro _ _ locs ⟨x23, rfl, b24, t25⟩ hS
    have t25 : (x23.toInt = 1 ∧ 0 ≤ x22.toInt ∧ x22.toInt < 3) ∨ (x23.toInt = 0 ∧ (x22.toInt < 0 ∨ 3 ≤ x22.toInt)) := t25
    refine xi_zeq (tgt := 42) hx hb (rfl : Int32.toInt x23 = x23.toInt) dX1_addQuestions_26 (by decide) (fun c26 => ?_) (fun c26 => ?_)
    · exact J42 _ _ _ hT.nil hS (lv_sub hl [0, 1, 2, 3, 4] rfl)
    · refine lv_aload_n hx hb dX1_addQuestions_29 rfl (lv_at hl 0 rfl) ?_
      refine lv_aload_n hx hb dX1_addQuestions_30 rfl (lv_at hl 0 rfl) ?_
      refine gX1_1 S hK hT ha kf_X1_15 dX1_addQuestions_31 (fun hk27 => ?_)
      refine lv_aload_n hx hb dX1_addQuestions_34 rfl (lv_at hl 1 rfl) ?_
      refine kX7_4 (v := x22) S hK hT hp0 (List.mem_of_getElem? (i := 0) rfl) kf_X1_52 dX1_addQuestions_35 ?_
      refine al_0 S hK hT hk27 ar_21 (by decide) (z_X1_addQuestions_5 x22.toInt x23.toInt t25 c26 (xr x22) (xr x23)) dX1_addQuestions_38 (fun x28 o29 => ?_)
      refine x_cv0 (x_runV (b := a) (As := [.int x28]) (rest := []) S (c_X1_offerKeys l E K F G a x28 ha) mv_X1_offerKeys km_X1_55 rfl rfl ⟨Nat.le_of_ble_eq_true rfl, Nat.le_of_ble_eq_true rfl⟩ (rc_3 hK hT ha) hK (fun _ => XP.blind) (fun U hU hW => XP.at hK hz hS hT hU hW) rfl hl.1 (Nat.le_of_ble_eq_true rfl) dX1_addQuestions_39 ⟨Nat.le_of_ble_eq_true rfl, Nat.le_of_ble_eq_true rfl⟩) hS ?_
      rintro _ H locs - hT hS
      exact J42 _ _ _ hT.nil hS (lv_sub hl [0, 1, 2, 3, 4] rfl)
