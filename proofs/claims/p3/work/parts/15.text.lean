abbrev rm_X8_length : Room := { frames := 0, cells := 0, slots := 0, locals := 0 }
set_option maxHeartbeats 4000000 in
set_option maxRecDepth 100000 in
theorem c_X8_length (l : Launch) (E : XE) (K : Nat → Nat) (F : Nat → Nat → Nat) (tl : Int32) (zs : List Int32) (ts : List (Nat → Int32)) (h0 : Heap) (a : Nat) (ha : K a = 10) : Met l yX8_length (xw yX8_length cX8_length 1 (some .int)) rm_X8_length (va_Pc [.ref a] (XPh E K F (tl, zs, ts) h0)) (XQ E (fun v (u : Unit) => ∃ r : Int32, v = .int r ∧ r = tl) (fun _ H => H = h0)) 0 0 (xA E) := by
  refine x_enter (by decide) (Nat.le_of_ble_eq_true rfl) ?_
  intro p e s m args below meth c Q S hr hlk hnm hQ hP ls hl
  obtain ⟨⟨hz, hK, hT⟩, hh⟩ := hP
  obtain ⟨hx, hb, -, -, -⟩ := id S
  have hS : va_S (xA E) s.heap s.heap [] := va_S.rf
  have hl : lv_has ls 1 [(0, .ref a)] := hl
  refine lv_aload_n hx hb dX8_length_0 rfl (lv_at hl 0 rfl) ?_
  refine gX8_1 S hK hT ha kf_X8_13 dX8_length_1 ?_
  exact x_ri hx hb hr hlk hQ (Nat.le_of_ble_eq_true rfl) (Nat.le_of_ble_eq_true rfl) hS dX8_length_4 () ⟨_, rfl, rfl⟩ hh

theorem z_X8_signAt_1 (a0 : Int) (a1 : Int) (h0 : ¬ (a0 < 0)) (h1 : ¬ (a1 ≤ a0)) (h2 : ¬ ((80 : Int) ≤ a0)) (r0 : -2147483648 ≤ a0 ∧ a0 < 2147483648) (r1 : -2147483648 ≤ a1 ∧ a1 < 2147483648) : 0 ≤ a0 ∧ a0 < ((80 : Nat) : Int) := by omega
abbrev rm_X8_signAt : Room := { frames := 0, cells := 0, slots := 0, locals := 0 }
set_option maxHeartbeats 4000000 in
set_option maxRecDepth 100000 in
theorem c_X8_signAt (l : Launch) (E : XE) (K : Nat → Nat) (F : Nat → Nat → Nat) (tl : Int32) (zs : List Int32) (ts : List (Nat → Int32)) (h0 : Heap) (a : Nat) (p0 : Int32) (ha : K a = 10) : Met l yX8_signAt (xw yX8_signAt cX8_signAt 2 (some .char)) rm_X8_signAt (va_Pc [.ref a, .int p0] (XPh E K F (tl, zs, ts) h0)) (XQ E (fun v (u : Unit) => ∃ r : Int32, v = .int r ∧ xok 1 r) (fun _ H => H = h0)) 0 0 (xA E) := by
  refine x_enter (by decide) (Nat.le_of_ble_eq_true rfl) ?_
  intro p e s m args below meth c Q S hr hlk hnm hQ hP ls hl
  obtain ⟨⟨hz, hK, hT⟩, hh⟩ := hP
  obtain ⟨hx, hb, -, -, -⟩ := id S
  have hS : va_S (xA E) s.heap s.heap [] := va_S.rf
  have hl : lv_has ls 2 [(0, .ref a), (1, .int p0)] := hl
  refine lv_iload_n hx hb dX8_signAt_0 rfl (lv_at hl 1 rfl) ?_
  refine xi_zlt (tgt := 27) hx hb (rfl : Int32.toInt p0 = p0.toInt) dX8_signAt_1 (by decide) (fun c1 => ?_) (fun c1 => ?_)
  · refine lv_iconst (v := 0) hx hb dX8_signAt_27 (by decide) ?_
    exact x_rz hx hb hr rfl hlk hQ (Nat.le_of_ble_eq_true rfl) (Nat.le_of_ble_eq_true rfl) hS dX8_signAt_28 () ⟨_, rfl, rfl⟩ hh
  · refine lv_iload_n hx hb dX8_signAt_4 rfl (lv_at hl 1 rfl) ?_
    refine lv_aload_n hx hb dX8_signAt_5 rfl (lv_at hl 0 rfl) ?_
    refine gX8_1 S hK hT ha kf_X8_13 dX8_signAt_6 ?_
    refine xi_cge (tgt := 27) hx hb (rfl : Int32.toInt p0 = p0.toInt) (rfl : Int32.toInt tl = tl.toInt) dX8_signAt_9 (by decide) (fun c2 => ?_) (fun c2 => ?_)
    · refine lv_iconst (v := 0) hx hb dX8_signAt_27 (by decide) ?_
      exact x_rz hx hb hr rfl hlk hQ (Nat.le_of_ble_eq_true rfl) (Nat.le_of_ble_eq_true rfl) hS dX8_signAt_28 () ⟨_, rfl, rfl⟩ hh
    · refine lv_iload_n hx hb dX8_signAt_12 rfl (lv_at hl 1 rfl) ?_
      refine lv_bipush (v := 80) hx hb dX8_signAt_13 (by decide) ?_
      refine xi_cge (tgt := 27) hx hb (rfl : Int32.toInt p0 = p0.toInt) ((by decide) : Int32.toInt 80 = (80 : Int)) dX8_signAt_15 (by decide) (fun c3 => ?_) (fun c3 => ?_)
      · refine lv_iconst (v := 0) hx hb dX8_signAt_27 (by decide) ?_
        exact x_rz hx hb hr rfl hlk hQ (Nat.le_of_ble_eq_true rfl) (Nat.le_of_ble_eq_true rfl) hS dX8_signAt_28 () ⟨_, rfl, rfl⟩ hh
      · refine lv_aload_n hx hb dX8_signAt_18 rfl (lv_at hl 0 rfl) ?_
        refine gX8_0 S hK hT ha kf_X8_9 dX8_signAt_19 (fun hk4 => ?_)
        refine lv_iload_n hx hb dX8_signAt_22 rfl (lv_at hl 1 rfl) ?_
        refine al_1 S hK hT hk4 ar_25 (by decide) (z_X8_signAt_1 p0.toInt tl.toInt c1 c2 c3 (xr p0) (xr tl)) dX8_signAt_23 (fun x5 o6 => ?_)
        refine lv_goto (tgt := 28) hx hb dX8_signAt_24 (by decide) ?_
        exact x_rz hx hb hr o6 hlk hQ (Nat.le_of_ble_eq_true rfl) (Nat.le_of_ble_eq_true rfl) hS dX8_signAt_28 () ⟨_, rfl, o6⟩ hh

theorem z_X8_addFour_1 (a0 : Int) (a1 : Int) (a2 : Int) (a3 : Int) (h0 : 8 * a3 = 8 * a0 + 24 - a2) (h1 : -8 ≤ a2) (h2 : a2 ≤ (24 : Int)) (h3 : 0 ≤ a0 ∧ a0 ≤ 80) (h4 : a1 = a0 + (4 : Int) ∨ a0 + (4 : Int) < -2147483648 ∨ 2147483648 ≤ a0 + (4 : Int)) (h5 : a1 ≤ (80 : Int)) (r0 : -2147483648 ≤ a0 ∧ a0 < 2147483648) (r1 : -2147483648 ≤ a1 ∧ a1 < 2147483648) (r2 : -2147483648 ≤ a2 ∧ a2 < 2147483648) (r3 : -2147483648 ≤ a3 ∧ a3 < 2147483648) : ¬ (2147483648 + a2 < ((0 : Nat) : Int)) := by omega
theorem z_X8_addFour_2 (a0 : Int) (a1 : Int) (a2 : Int) (a3 : Int) (a4 : Nat) (h0 : 0 ≤ a0 ∧ a0 ≤ 80) (h1 : a1 = a0 + (4 : Int) ∨ a0 + (4 : Int) < -2147483648 ∨ 2147483648 ≤ a0 + (4 : Int)) (h2 : a1 ≤ (80 : Int)) (h3 : 8 * a3 = 8 * a0 + 24 - a2) (h4 : -8 ≤ a2) (h5 : a2 ≤ (24 : Int)) (h6 : 2147483648 + a2 < ((a4 + 1 : Nat) : Int)) (h7 : a2 < 0) (r0 : -2147483648 ≤ a0 ∧ a0 < 2147483648) (r1 : -2147483648 ≤ a1 ∧ a1 < 2147483648) (r2 : -2147483648 ≤ a2 ∧ a2 < 2147483648) (r3 : -2147483648 ≤ a3 ∧ a3 < 2147483648) : ((1 : Int) = 1 ∧ a3 = a0 + 4 ∧ a3 ≤ 80) ∨ ((1 : Int) = 0 ∧ a3 = a0 ∧ 76 < a0) := by omega
theorem z_X8_addFour_3 (a0 : Int) (a1 : Int) (a2 : Int) (a3 : Int) (a4 : Int) (a5 : Int) (a6 : Nat) (h0 : 0 ≤ a0 ∧ a0 ≤ 80) (h1 : a1 = a0 + (4 : Int) ∨ a0 + (4 : Int) < -2147483648 ∨ 2147483648 ≤ a0 + (4 : Int)) (h2 : a1 ≤ (80 : Int)) (h3 : 8 * a5 = 8 * a0 + 24 - a4) (h4 : -8 ≤ a4) (h5 : a4 ≤ (24 : Int)) (h6 : 2147483648 + a4 < ((a6 + 1 : Nat) : Int)) (h7 : ¬ (a4 < 0)) (h8 : 8 * a2 = 8 * a0 + 32 - a4) (h9 : 0 ≤ a4 ∧ a4 ≤ 24) (h10 : a3 = a4 + (-8) ∨ a4 + (-8) < -2147483648 ∨ 2147483648 ≤ a4 + (-8)) (r0 : -2147483648 ≤ a0 ∧ a0 < 2147483648) (r1 : -2147483648 ≤ a1 ∧ a1 < 2147483648) (r2 : -2147483648 ≤ a2 ∧ a2 < 2147483648) (r3 : -2147483648 ≤ a3 ∧ a3 < 2147483648) (r4 : -2147483648 ≤ a4 ∧ a4 < 2147483648) (r5 : -2147483648 ≤ a5 ∧ a5 < 2147483648) : 8 * a2 = 8 * a0 + 24 - a3 := by omega
theorem z_X8_addFour_4 (a0 : Int) (a1 : Int) (a2 : Int) (a3 : Int) (a4 : Int) (a5 : Int) (a6 : Nat) (h0 : 0 ≤ a0 ∧ a0 ≤ 80) (h1 : a1 = a0 + (4 : Int) ∨ a0 + (4 : Int) < -2147483648 ∨ 2147483648 ≤ a0 + (4 : Int)) (h2 : a1 ≤ (80 : Int)) (h3 : 8 * a5 = 8 * a0 + 24 - a4) (h4 : -8 ≤ a4) (h5 : a4 ≤ (24 : Int)) (h6 : 2147483648 + a4 < ((a6 + 1 : Nat) : Int)) (h7 : ¬ (a4 < 0)) (h8 : 8 * a2 = 8 * a0 + 32 - a4) (h9 : 0 ≤ a4 ∧ a4 ≤ 24) (h10 : a3 = a4 + (-8) ∨ a4 + (-8) < -2147483648 ∨ 2147483648 ≤ a4 + (-8)) (r0 : -2147483648 ≤ a0 ∧ a0 < 2147483648) (r1 : -2147483648 ≤ a1 ∧ a1 < 2147483648) (r2 : -2147483648 ≤ a2 ∧ a2 < 2147483648) (r3 : -2147483648 ≤ a3 ∧ a3 < 2147483648) (r4 : -2147483648 ≤ a4 ∧ a4 < 2147483648) (r5 : -2147483648 ≤ a5 ∧ a5 < 2147483648) : -8 ≤ a3 := by omega
theorem z_X8_addFour_5 (a0 : Int) (a1 : Int) (a2 : Int) (a3 : Int) (a4 : Int) (a5 : Int) (a6 : Nat) (h0 : 0 ≤ a0 ∧ a0 ≤ 80) (h1 : a1 = a0 + (4 : Int) ∨ a0 + (4 : Int) < -2147483648 ∨ 2147483648 ≤ a0 + (4 : Int)) (h2 : a1 ≤ (80 : Int)) (h3 : 8 * a5 = 8 * a0 + 24 - a4) (h4 : -8 ≤ a4) (h5 : a4 ≤ (24 : Int)) (h6 : 2147483648 + a4 < ((a6 + 1 : Nat) : Int)) (h7 : ¬ (a4 < 0)) (h8 : 8 * a2 = 8 * a0 + 32 - a4) (h9 : 0 ≤ a4 ∧ a4 ≤ 24) (h10 : a3 = a4 + (-8) ∨ a4 + (-8) < -2147483648 ∨ 2147483648 ≤ a4 + (-8)) (r0 : -2147483648 ≤ a0 ∧ a0 < 2147483648) (r1 : -2147483648 ≤ a1 ∧ a1 < 2147483648) (r2 : -2147483648 ≤ a2 ∧ a2 < 2147483648) (r3 : -2147483648 ≤ a3 ∧ a3 < 2147483648) (r4 : -2147483648 ≤ a4 ∧ a4 < 2147483648) (r5 : -2147483648 ≤ a5 ∧ a5 < 2147483648) : a3 ≤ (24 : Int) := by omega
theorem z_X8_addFour_6 (a0 : Int) (a1 : Int) (a2 : Int) (a3 : Int) (a4 : Int) (a5 : Int) (a6 : Nat) (h0 : 0 ≤ a0 ∧ a0 ≤ 80) (h1 : a1 = a0 + (4 : Int) ∨ a0 + (4 : Int) < -2147483648 ∨ 2147483648 ≤ a0 + (4 : Int)) (h2 : a1 ≤ (80 : Int)) (h3 : 8 * a5 = 8 * a0 + 24 - a4) (h4 : -8 ≤ a4) (h5 : a4 ≤ (24 : Int)) (h6 : 2147483648 + a4 < ((a6 + 1 : Nat) : Int)) (h7 : ¬ (a4 < 0)) (h8 : 8 * a2 = 8 * a0 + 32 - a4) (h9 : 0 ≤ a4 ∧ a4 ≤ 24) (h10 : a3 = a4 + (-8) ∨ a4 + (-8) < -2147483648 ∨ 2147483648 ≤ a4 + (-8)) (r0 : -2147483648 ≤ a0 ∧ a0 < 2147483648) (r1 : -2147483648 ≤ a1 ∧ a1 < 2147483648) (r2 : -2147483648 ≤ a2 ∧ a2 < 2147483648) (r3 : -2147483648 ≤ a3 ∧ a3 < 2147483648) (r4 : -2147483648 ≤ a4 ∧ a4 < 2147483648) (r5 : -2147483648 ≤ a5 ∧ a5 < 2147483648) : 2147483648 + a3 < ((a6 : Nat) : Int) := by omega
theorem z_X8_addFour_7 (a0 : Int) (a1 : Int) (a2 : Int) (a3 : Int) (a4 : Nat) (h0 : 0 ≤ a0 ∧ a0 ≤ 80) (h1 : a1 = a0 + (4 : Int) ∨ a0 + (4 : Int) < -2147483648 ∨ 2147483648 ≤ a0 + (4 : Int)) (h2 : a1 ≤ (80 : Int)) (h3 : 8 * a3 = 8 * a0 + 24 - a2) (h4 : -8 ≤ a2) (h5 : a2 ≤ (24 : Int)) (h6 : 2147483648 + a2 < ((a4 + 1 : Nat) : Int)) (h7 : ¬ (a2 < 0)) (h8 : a3 < 0) (r0 : -2147483648 ≤ a0 ∧ a0 < 2147483648) (r1 : -2147483648 ≤ a1 ∧ a1 < 2147483648) (r2 : -2147483648 ≤ a2 ∧ a2 < 2147483648) (r3 : -2147483648 ≤ a3 ∧ a3 < 2147483648) : 8 * a3 = 8 * a0 + 32 - a2 := by omega
theorem z_X8_addFour_8 (a0 : Int) (a1 : Int) (a2 : Int) (a3 : Int) (a4 : Nat) (h0 : 0 ≤ a0 ∧ a0 ≤ 80) (h1 : a1 = a0 + (4 : Int) ∨ a0 + (4 : Int) < -2147483648 ∨ 2147483648 ≤ a0 + (4 : Int)) (h2 : a1 ≤ (80 : Int)) (h3 : 8 * a3 = 8 * a0 + 24 - a2) (h4 : -8 ≤ a2) (h5 : a2 ≤ (24 : Int)) (h6 : 2147483648 + a2 < ((a4 + 1 : Nat) : Int)) (h7 : ¬ (a2 < 0)) (h8 : a3 < 0) (r0 : -2147483648 ≤ a0 ∧ a0 < 2147483648) (r1 : -2147483648 ≤ a1 ∧ a1 < 2147483648) (r2 : -2147483648 ≤ a2 ∧ a2 < 2147483648) (r3 : -2147483648 ≤ a3 ∧ a3 < 2147483648) : 0 ≤ a2 ∧ a2 ≤ 24 := by omega
theorem z_X8_addFour_9 (a0 : Int) (a1 : Int) (a2 : Int) (a3 : Int) (a4 : Nat) (h0 : 0 ≤ a0 ∧ a0 ≤ 80) (h1 : a1 = a0 + (4 : Int) ∨ a0 + (4 : Int) < -2147483648 ∨ 2147483648 ≤ a0 + (4 : Int)) (h2 : a1 ≤ (80 : Int)) (h3 : 8 * a3 = 8 * a0 + 24 - a2) (h4 : -8 ≤ a2) (h5 : a2 ≤ (24 : Int)) (h6 : 2147483648 + a2 < ((a4 + 1 : Nat) : Int)) (h7 : ¬ (a2 < 0)) (h8 : ¬ (a3 < 0)) (h9 : (80 : Int) ≤ a3) (r0 : -2147483648 ≤ a0 ∧ a0 < 2147483648) (r1 : -2147483648 ≤ a1 ∧ a1 < 2147483648) (r2 : -2147483648 ≤ a2 ∧ a2 < 2147483648) (r3 : -2147483648 ≤ a3 ∧ a3 < 2147483648) : 8 * a3 = 8 * a0 + 32 - a2 := by omega
theorem z_X8_addFour_10 (a0 : Int) (a1 : Int) (a2 : Int) (a3 : Int) (a4 : Nat) (h0 : 0 ≤ a0 ∧ a0 ≤ 80) (h1 : a1 = a0 + (4 : Int) ∨ a0 + (4 : Int) < -2147483648 ∨ 2147483648 ≤ a0 + (4 : Int)) (h2 : a1 ≤ (80 : Int)) (h3 : 8 * a3 = 8 * a0 + 24 - a2) (h4 : -8 ≤ a2) (h5 : a2 ≤ (24 : Int)) (h6 : 2147483648 + a2 < ((a4 + 1 : Nat) : Int)) (h7 : ¬ (a2 < 0)) (h8 : ¬ (a3 < 0)) (h9 : (80 : Int) ≤ a3) (r0 : -2147483648 ≤ a0 ∧ a0 < 2147483648) (r1 : -2147483648 ≤ a1 ∧ a1 < 2147483648) (r2 : -2147483648 ≤ a2 ∧ a2 < 2147483648) (r3 : -2147483648 ≤ a3 ∧ a3 < 2147483648) : 0 ≤ a2 ∧ a2 ≤ 24 := by omega
theorem z_X8_addFour_11 (a0 : Int) (a1 : Int) (a2 : Int) (a3 : Int) (a4 : Nat) (h0 : 0 ≤ a0 ∧ a0 ≤ 80) (h1 : a1 = a0 + (4 : Int) ∨ a0 + (4 : Int) < -2147483648 ∨ 2147483648 ≤ a0 + (4 : Int)) (h2 : a1 ≤ (80 : Int)) (h3 : 8 * a3 = 8 * a0 + 24 - a2) (h4 : -8 ≤ a2) (h5 : a2 ≤ (24 : Int)) (h6 : 2147483648 + a2 < ((a4 + 1 : Nat) : Int)) (h7 : ¬ (a2 < 0)) (h8 : ¬ (a3 < 0)) (h9 : ¬ ((80 : Int) ≤ a3)) (r0 : -2147483648 ≤ a0 ∧ a0 < 2147483648) (r1 : -2147483648 ≤ a1 ∧ a1 < 2147483648) (r2 : -2147483648 ≤ a2 ∧ a2 < 2147483648) (r3 : -2147483648 ≤ a3 ∧ a3 < 2147483648) : 0 ≤ a3 ∧ a3 < ((80 : Nat) : Int) := by omega
theorem z_X8_addFour_12 (a0 : Int) (a1 : Int) (a2 : Int) (a3 : Int) (a4 : Int) (a5 : Nat) (h0 : 0 ≤ a0 ∧ a0 ≤ 80) (h1 : a1 = a0 + (4 : Int) ∨ a0 + (4 : Int) < -2147483648 ∨ 2147483648 ≤ a0 + (4 : Int)) (h2 : a1 ≤ (80 : Int)) (h3 : 8 * a4 = 8 * a0 + 24 - a3) (h4 : -8 ≤ a3) (h5 : a3 ≤ (24 : Int)) (h6 : 2147483648 + a3 < ((a5 + 1 : Nat) : Int)) (h7 : ¬ (a3 < 0)) (h8 : ¬ (a4 < 0)) (h9 : ¬ ((80 : Int) ≤ a4)) (h10 : a2 = a4 + (1 : Int) ∨ a4 + (1 : Int) < -2147483648 ∨ 2147483648 ≤ a4 + (1 : Int)) (r0 : -2147483648 ≤ a0 ∧ a0 < 2147483648) (r1 : -2147483648 ≤ a1 ∧ a1 < 2147483648) (r2 : -2147483648 ≤ a2 ∧ a2 < 2147483648) (r3 : -2147483648 ≤ a3 ∧ a3 < 2147483648) (r4 : -2147483648 ≤ a4 ∧ a4 < 2147483648) : 8 * a2 = 8 * a0 + 32 - a3 := by omega
theorem z_X8_addFour_13 (a0 : Int) (a1 : Int) (a2 : Int) (a3 : Int) (a4 : Int) (a5 : Nat) (h0 : 0 ≤ a0 ∧ a0 ≤ 80) (h1 : a1 = a0 + (4 : Int) ∨ a0 + (4 : Int) < -2147483648 ∨ 2147483648 ≤ a0 + (4 : Int)) (h2 : a1 ≤ (80 : Int)) (h3 : 8 * a4 = 8 * a0 + 24 - a3) (h4 : -8 ≤ a3) (h5 : a3 ≤ (24 : Int)) (h6 : 2147483648 + a3 < ((a5 + 1 : Nat) : Int)) (h7 : ¬ (a3 < 0)) (h8 : ¬ (a4 < 0)) (h9 : ¬ ((80 : Int) ≤ a4)) (h10 : a2 = a4 + (1 : Int) ∨ a4 + (1 : Int) < -2147483648 ∨ 2147483648 ≤ a4 + (1 : Int)) (r0 : -2147483648 ≤ a0 ∧ a0 < 2147483648) (r1 : -2147483648 ≤ a1 ∧ a1 < 2147483648) (r2 : -2147483648 ≤ a2 ∧ a2 < 2147483648) (r3 : -2147483648 ≤ a3 ∧ a3 < 2147483648) (r4 : -2147483648 ≤ a4 ∧ a4 < 2147483648) : 0 ≤ a3 ∧ a3 ≤ 24 := by omega
theorem z_X8_addFour_14 (a0 : Int) (a1 : Int) (h0 : 0 ≤ a0 ∧ a0 ≤ 80) (h1 : a1 = a0 + (4 : Int) ∨ a0 + (4 : Int) < -2147483648 ∨ 2147483648 ≤ a0 + (4 : Int)) (h2 : a1 ≤ (80 : Int)) (r0 : -2147483648 ≤ a0 ∧ a0 < 2147483648) (r1 : -2147483648 ≤ a1 ∧ a1 < 2147483648) : 8 * a0 = 8 * a0 + 24 - (24 : Int) := by omega
theorem z_X8_addFour_15 (a0 : Int) (a1 : Int) (h0 : 0 ≤ a0 ∧ a0 ≤ 80) (h1 : a1 = a0 + (4 : Int) ∨ a0 + (4 : Int) < -2147483648 ∨ 2147483648 ≤ a0 + (4 : Int)) (h2 : ¬ (a1 ≤ (80 : Int))) (r0 : -2147483648 ≤ a0 ∧ a0 < 2147483648) (r1 : -2147483648 ≤ a1 ∧ a1 < 2147483648) : ((0 : Int) = 1 ∧ a0 = a0 + 4 ∧ a0 ≤ 80) ∨ ((0 : Int) = 0 ∧ a0 = a0 ∧ 76 < a0) := by omega
abbrev rm_X8_addFour : Room := { frames := 0, cells := 0, slots := 0, locals := 0 }
set_option maxHeartbeats 4000000 in
set_option maxRecDepth 100000 in
theorem c_X8_addFour (l : Launch) (E : XE) (K : Nat → Nat) (F : Nat → Nat → Nat) (tl : Int32) (zs : List Int32) (ts : List (Nat → Int32)) (a : Nat) (p0 : Int32) (ha : K a = 10) (e0 : 0 ≤ tl.toInt ∧ tl.toInt ≤ 80) : Met l yX8_addFour (xw yX8_addFour cX8_addFour 3 (some .boolean)) rm_X8_addFour (va_Pc [.ref a, .int p0] (XP E K F (tl, zs, ts))) (XQ E (fun v (u : Int32) => ∃ r : Int32, v = .int r ∧ (r = 0 ∨ r = 1) ∧ ((r.toInt = 1 ∧ u.toInt = tl.toInt + 4 ∧ u.toInt ≤ 80) ∨ (r.toInt = 0 ∧ u.toInt = tl.toInt ∧ 76 < tl.toInt))) (fun u H => TW E K F (u, zs, ts) [] H)) 0 0 (xA E) := by
  refine x_enter (by decide) (Nat.le_of_ble_eq_true rfl) ?_
  intro p e s m args below meth c Q S hr hlk hnm hQ hP ls hl
  obtain ⟨hz, hK, hT⟩ := hP
  obtain ⟨hx, hb, -, -, -⟩ := id S
  obtain ⟨H, hT, hS, hgo⟩ : ∃ H : Heap, TW E K F (tl, zs, ts) [] H ∧ va_S (xA E) s.heap H [] ∧ H = s.heap := ⟨_, hT, va_S.rf, rfl⟩
  rw [← hgo]
  have hl : lv_has ls 3 [(0, .ref a), (1, .int p0)] := hl
  refine lv_aload_n hx hb dX8_addFour_0 rfl (lv_at hl 0 rfl) ?_
  refine gX8_1 S hK hT ha kf_X8_13 dX8_addFour_1 ?_
  refine lv_iconst (v := 4) hx hb dX8_addFour_4 (by decide) ?_
  refine xi_iadd hx hb (rfl : Int32.toInt tl = tl.toInt) ((by decide) : Int32.toInt 4 = (4 : Int)) dX8_addFour_5 (fun x1 t2 => ?_)
  refine lv_bipush (v := 80) hx hb dX8_addFour_6 (by decide) ?_
  refine xi_cle (tgt := 13) hx hb (rfl : Int32.toInt x1 = x1.toInt) ((by decide) : Int32.toInt 80 = (80 : Int)) dX8_addFour_8 (by decide) (fun c3 => ?_) (fun c3 => ?_)
  · refine lv_bipush (v := 24) hx hb dX8_addFour_13 (by decide) ?_
    refine lv_istore_n (lv' := [(2, .int 24), (0, .ref a), (1, .int p0)]) hx hb dX8_addFour_15 rfl hl (by decide) rfl (fun ls hl => ?_)
    have L16 : ∀ (N6 : Nat) (x4 : Int32) (x5 : Int32) (H : Heap) (locs : List Loc) (ls : Array Slot), 8 * x5.toInt = 8 * tl.toInt + 24 - x4.toInt → -8 ≤ x4.toInt → x4.toInt ≤ (24 : Int) → 2147483648 + x4.toInt < ((N6 : Nat) : Int) → TW E K F (x5, zs, ts) [] H → va_S (xA E) s.heap H locs → lv_has ls 3 [(0, .ref a), (1, .int p0), (2, .int x4)] → W p l e rm_X8_addFour s m args below meth c H locs 0 0 Q (F0 m 16 ls []) := by
      intro N6
      induction N6 with
      | zero =>
        intro x4 x5 H locs ls hf7 hf8 hf9 hm10
        exact absurd hm10 (z_X8_addFour_1 tl.toInt x1.toInt x4.toInt x5.toInt hf7 hf8 hf9 e0 t2 c3 (xr tl) (xr x1) (xr x4) (xr x5))
      | succ N6 ih11 =>
        intro x4 x5 H locs ls hf7 hf8 hf9 hm10 hT hS hl
        refine lv_iload_n hx hb dX8_addFour_16 rfl (lv_at hl 2 rfl) ?_
        refine xi_zlt (tgt := 69) hx hb (rfl : Int32.toInt x4 = x4.toInt) dX8_addFour_17 (by decide) (fun c12 => ?_) (fun c12 => ?_)
        · refine lv_iconst (v := 1) hx hb dX8_addFour_69 (by decide) ?_
          exact x_rz hx hb hr (xnz (Or.inr rfl)) hlk hQ (Nat.le_of_ble_eq_true rfl) (Nat.le_of_ble_eq_true rfl) hS dX8_addFour_70 x5 ⟨_, rfl, (Or.inr rfl), (z_X8_addFour_2 tl.toInt x1.toInt x4.toInt x5.toInt N6 e0 t2 c3 hf7 hf8 hf9 hm10 c12 (xr tl) (xr x1) (xr x4) (xr x5))⟩ hT.nil
        · refine lv_aload_n hx hb dX8_addFour_20 rfl (lv_at hl 0 rfl) ?_
          refine gX8_1 S hK hT ha kf_X8_13 dX8_addFour_21 ?_
          have J63 : ∀ (x13 : Int32) (H : Heap) (locs : List Loc) (ls : Array Slot), 8 * x13.toInt = 8 * tl.toInt + 32 - x4.toInt → 0 ≤ x4.toInt ∧ x4.toInt ≤ 24 → TW E K F (x13, zs, ts) [] H → va_S (xA E) s.heap H locs → lv_has ls 3 [(0, .ref a), (1, .int p0), (2, .int x4)] → W p l e rm_X8_addFour s m args below meth c H locs 0 0 Q (F0 m 63 ls []) := by
            intro x13 H locs ls hf14 hf15 hT hS hl
            refine xi_iinc (n := (-8)) (lv' := fun z9 => [(2, .int z9), (0, .ref a), (1, .int p0)]) (k := 2) hx hb (rfl : Int32.toInt x4 = x4.toInt) (by decide) dX8_addFour_63 hl rfl (by decide) (fun _ => rfl) (fun x16 ls t17 hl => ?_)
            have hl : lv_has ls 3 [(2, .int x16), (0, .ref a), (1, .int p0)] := hl
            refine lv_goto (tgt := 16) hx hb dX8_addFour_66 (by decide) ?_
            exact ih11 x16 x13 _ _ _ (z_X8_addFour_3 tl.toInt x1.toInt x13.toInt x16.toInt x4.toInt x5.toInt N6 e0 t2 c3 hf7 hf8 hf9 hm10 c12 hf14 hf15 t17 (xr tl) (xr x1) (xr x13) (xr x16) (xr x4) (xr x5)) (z_X8_addFour_4 tl.toInt x1.toInt x13.toInt x16.toInt x4.toInt x5.toInt N6 e0 t2 c3 hf7 hf8 hf9 hm10 c12 hf14 hf15 t17 (xr tl) (xr x1) (xr x13) (xr x16) (xr x4) (xr x5)) (z_X8_addFour_5 tl.toInt x1.toInt x13.toInt x16.toInt x4.toInt x5.toInt N6 e0 t2 c3 hf7 hf8 hf9 hm10 c12 hf14 hf15 t17 (xr tl) (xr x1) (xr x13) (xr x16) (xr x4) (xr x5)) (z_X8_addFour_6 tl.toInt x1.toInt x13.toInt x16.toInt x4.toInt x5.toInt N6 e0 t2 c3 hf7 hf8 hf9 hm10 c12 hf14 hf15 t17 (xr tl) (xr x1) (xr x13) (xr x16) (xr x4) (xr x5)) hT.nil hS (lv_sub hl [1, 2, 0] rfl)
          refine xi_zlt (tgt := 63) hx hb (rfl : Int32.toInt x5 = x5.toInt) dX8_addFour_24 (by decide) (fun c18 => ?_) (fun c18 => ?_)
          · exact J63 x5 _ _ _ (z_X8_addFour_7 tl.toInt x1.toInt x4.toInt x5.toInt N6 e0 t2 c3 hf7 hf8 hf9 hm10 c12 c18 (xr tl) (xr x1) (xr x4) (xr x5)) (z_X8_addFour_8 tl.toInt x1.toInt x4.toInt x5.toInt N6 e0 t2 c3 hf7 hf8 hf9 hm10 c12 c18 (xr tl) (xr x1) (xr x4) (xr x5)) hT.nil hS (lv_sub hl [0, 1, 2] rfl)
          · refine lv_aload_n hx hb dX8_addFour_27 rfl (lv_at hl 0 rfl) ?_
            refine gX8_1 S hK hT ha kf_X8_13 dX8_addFour_28 ?_
            refine lv_bipush (v := 80) hx hb dX8_addFour_31 (by decide) ?_
            refine xi_cge (tgt := 63) hx hb (rfl : Int32.toInt x5 = x5.toInt) ((by decide) : Int32.toInt 80 = (80 : Int)) dX8_addFour_33 (by decide) (fun c19 => ?_) (fun c19 => ?_)
            · exact J63 x5 _ _ _ (z_X8_addFour_9 tl.toInt x1.toInt x4.toInt x5.toInt N6 e0 t2 c3 hf7 hf8 hf9 hm10 c12 c18 c19 (xr tl) (xr x1) (xr x4) (xr x5)) (z_X8_addFour_10 tl.toInt x1.toInt x4.toInt x5.toInt N6 e0 t2 c3 hf7 hf8 hf9 hm10 c12 c18 c19 (xr tl) (xr x1) (xr x4) (xr x5)) hT.nil hS (lv_sub hl [0, 1, 2] rfl)
            · refine lv_aload_n hx hb dX8_addFour_36 rfl (lv_at hl 0 rfl) ?_
              refine gX8_0 S hK hT ha kf_X8_9 dX8_addFour_37 (fun hk20 => ?_)
              refine lv_aload_n hx hb dX8_addFour_40 rfl (lv_at hl 0 rfl) ?_
              refine gX8_1 S hK hT ha kf_X8_13 dX8_addFour_41 ?_
              refine lv_iload_n hx hb dX8_addFour_44 rfl (lv_at hl 1 rfl) ?_
              refine lv_iload_n hx hb dX8_addFour_45 rfl (lv_at hl 2 rfl) ?_
              refine lv_iushr hx hb dX8_addFour_46 rfl (lv_topi (fun x21 _ => ?_))
              refine lv_sipush (v := 255) hx hb dX8_addFour_47 (by decide) ?_
              refine lv_iand hx hb dX8_addFour_50 (lv_topi (fun x22 _ => ?_))
              refine lv_i2c hx hb dX8_addFour_51 rfl (lv_topi (fun x23 ec24 => ?_))
              refine as_1 S hK hT hS hk20 ar_25 aw_25 (by decide) (z_X8_addFour_11 tl.toInt x1.toInt x4.toInt x5.toInt N6 e0 t2 c3 hf7 hf8 hf9 hm10 c12 c18 c19 (xr tl) (xr x1) (xr x4) (xr x5)) dX8_addFour_52 (fun H locs hT hS => ?_)
              refine lv_aload_n hx hb dX8_addFour_53 rfl (lv_at hl 0 rfl) ?_
              refine lv_dup hx hb dX8_addFour_54 rfl ?_
              refine gX8_1 S hK hT ha kf_X8_13 dX8_addFour_55 ?_
              refine lv_iconst (v := 1) hx hb dX8_addFour_58 (by decide) ?_
              refine xi_iadd hx hb (rfl : Int32.toInt x5 = x5.toInt) ((by decide) : Int32.toInt 1 = (1 : Int)) dX8_addFour_59 (fun x25 t26 => ?_)
              refine pX8_1 (kq := []) (v := x25) S hK hT hS ha kf_X8_13 dX8_addFour_60 (fun _ h => by cases h) (fun H locs hT hS => ?_)
              have hT : TW E K F (x25, zs, ts) [] H := hT
              exact J63 x25 _ _ _ (z_X8_addFour_12 tl.toInt x1.toInt x25.toInt x4.toInt x5.toInt N6 e0 t2 c3 hf7 hf8 hf9 hm10 c12 c18 c19 t26 (xr tl) (xr x1) (xr x25) (xr x4) (xr x5)) (z_X8_addFour_13 tl.toInt x1.toInt x25.toInt x4.toInt x5.toInt N6 e0 t2 c3 hf7 hf8 hf9 hm10 c12 c18 c19 t26 (xr tl) (xr x1) (xr x25) (xr x4) (xr x5)) hT.nil hS (lv_sub hl [0, 1, 2] rfl)
    exact L16 4294967297 24 tl _ _ _ (z_X8_addFour_14 tl.toInt x1.toInt e0 t2 c3 (xr tl) (xr x1)) (by decide) (by decide) (by decide) hT.nil hS (lv_sub hl [1, 2, 0] rfl)
  · refine lv_iconst (v := 0) hx hb dX8_addFour_11 (by decide) ?_
    exact x_rz hx hb hr (xnz (Or.inl rfl)) hlk hQ (Nat.le_of_ble_eq_true rfl) (Nat.le_of_ble_eq_true rfl) hS dX8_addFour_12 tl ⟨_, rfl, (Or.inl rfl), (z_X8_addFour_15 tl.toInt x1.toInt e0 t2 c3 (xr tl) (xr x1))⟩ hT.nil

theorem z_X8_shorten_1 (a0 : Int) (a1 : Int) (h0 : a0 < 0) (r0 : -2147483648 ≤ a0 ∧ a0 < 2147483648) (r1 : -2147483648 ≤ a1 ∧ a1 < 2147483648) : ((0 : Int) = 1 ∧ a1 = a0 ∧ 0 ≤ a0 ∧ a0 ≤ a1) ∨ ((0 : Int) = 0 ∧ a1 = a1 ∧ (a0 < 0 ∨ a1 < a0)) := by omega
theorem z_X8_shorten_2 (a0 : Int) (a1 : Int) (h0 : ¬ (a0 < 0)) (h1 : a0 ≤ a1) (r0 : -2147483648 ≤ a0 ∧ a0 < 2147483648) (r1 : -2147483648 ≤ a1 ∧ a1 < 2147483648) : ((1 : Int) = 1 ∧ a0 = a0 ∧ 0 ≤ a0 ∧ a0 ≤ a1) ∨ ((1 : Int) = 0 ∧ a0 = a1 ∧ (a0 < 0 ∨ a1 < a0)) := by omega
theorem z_X8_shorten_3 (a0 : Int) (a1 : Int) (h0 : ¬ (a0 < 0)) (h1 : ¬ (a0 ≤ a1)) (r0 : -2147483648 ≤ a0 ∧ a0 < 2147483648) (r1 : -2147483648 ≤ a1 ∧ a1 < 2147483648) : ((0 : Int) = 1 ∧ a1 = a0 ∧ 0 ≤ a0 ∧ a0 ≤ a1) ∨ ((0 : Int) = 0 ∧ a1 = a1 ∧ (a0 < 0 ∨ a1 < a0)) := by omega
abbrev rm_X8_shorten : Room := { frames := 0, cells := 0, slots := 0, locals := 0 }
set_option maxHeartbeats 4000000 in
set_option maxRecDepth 100000 in
theorem c_X8_shorten (l : Launch) (E : XE) (K : Nat → Nat) (F : Nat → Nat → Nat) (tl : Int32) (zs : List Int32) (ts : List (Nat → Int32)) (a : Nat) (p0 : Int32) (ha : K a = 10) : Met l yX8_shorten (xw yX8_shorten cX8_shorten 2 (some .boolean)) rm_X8_shorten (va_Pc [.ref a, .int p0] (XP E K F (tl, zs, ts))) (XQ E (fun v (u : Int32) => ∃ r : Int32, v = .int r ∧ (r = 0 ∨ r = 1) ∧ ((r.toInt = 1 ∧ u.toInt = p0.toInt ∧ 0 ≤ p0.toInt ∧ p0.toInt ≤ tl.toInt) ∨ (r.toInt = 0 ∧ u.toInt = tl.toInt ∧ (p0.toInt < 0 ∨ tl.toInt < p0.toInt)))) (fun u H => TW E K F (u, zs, ts) [] H)) 0 0 (xA E) := by
  refine x_enter (by decide) (Nat.le_of_ble_eq_true rfl) ?_
  intro p e s m args below meth c Q S hr hlk hnm hQ hP ls hl
  obtain ⟨hz, hK, hT⟩ := hP
  obtain ⟨hx, hb, -, -, -⟩ := id S
  obtain ⟨H, hT, hS, hgo⟩ : ∃ H : Heap, TW E K F (tl, zs, ts) [] H ∧ va_S (xA E) s.heap H [] ∧ H = s.heap := ⟨_, hT, va_S.rf, rfl⟩
  rw [← hgo]
  have hl : lv_has ls 2 [(0, .ref a), (1, .int p0)] := hl
  refine lv_iload_n hx hb dX8_shorten_0 rfl (lv_at hl 1 rfl) ?_
  refine xi_zlt (tgt := 12) hx hb (rfl : Int32.toInt p0 = p0.toInt) dX8_shorten_1 (by decide) (fun c1 => ?_) (fun c1 => ?_)
  · refine lv_iconst (v := 0) hx hb dX8_shorten_12 (by decide) ?_
    exact x_rz hx hb hr (xnz (Or.inl rfl)) hlk hQ (Nat.le_of_ble_eq_true rfl) (Nat.le_of_ble_eq_true rfl) hS dX8_shorten_13 tl ⟨_, rfl, (Or.inl rfl), (z_X8_shorten_1 p0.toInt tl.toInt c1 (xr p0) (xr tl))⟩ hT.nil
  · refine lv_iload_n hx hb dX8_shorten_4 rfl (lv_at hl 1 rfl) ?_
    refine lv_aload_n hx hb dX8_shorten_5 rfl (lv_at hl 0 rfl) ?_
    refine gX8_1 S hK hT ha kf_X8_13 dX8_shorten_6 ?_
    refine xi_cle (tgt := 14) hx hb (rfl : Int32.toInt p0 = p0.toInt) (rfl : Int32.toInt tl = tl.toInt) dX8_shorten_9 (by decide) (fun c2 => ?_) (fun c2 => ?_)
    · refine lv_aload_n hx hb dX8_shorten_14 rfl (lv_at hl 0 rfl) ?_
      refine lv_iload_n hx hb dX8_shorten_15 rfl (lv_at hl 1 rfl) ?_
      refine pX8_1 (kq := []) (v := p0) S hK hT hS ha kf_X8_13 dX8_shorten_16 (fun _ h => by cases h) (fun H locs hT hS => ?_)
      have hT : TW E K F (p0, zs, ts) [] H := hT
      refine lv_iconst (v := 1) hx hb dX8_shorten_19 (by decide) ?_
      exact x_rz hx hb hr (xnz (Or.inr rfl)) hlk hQ (Nat.le_of_ble_eq_true rfl) (Nat.le_of_ble_eq_true rfl) hS dX8_shorten_20 p0 ⟨_, rfl, (Or.inr rfl), (z_X8_shorten_2 p0.toInt tl.toInt c1 c2 (xr p0) (xr tl))⟩ hT.nil
    · refine lv_iconst (v := 0) hx hb dX8_shorten_12 (by decide) ?_
      exact x_rz hx hb hr (xnz (Or.inl rfl)) hlk hQ (Nat.le_of_ble_eq_true rfl) (Nat.le_of_ble_eq_true rfl) hS dX8_shorten_13 tl ⟨_, rfl, (Or.inl rfl), (z_X8_shorten_3 p0.toInt tl.toInt c1 c2 (xr p0) (xr tl))⟩ hT.nil

theorem z_X10_sign_1 (a0 : Int) (h0 : 0 ≤ a0 ∧ a0 ≤ 80) (r0 : -2147483648 ≤ a0 ∧ a0 < 2147483648) : 0 ≤ a0 ∧ a0 ≤ 80 := by omega
theorem z_X10_sign_2 (a0 : Int) (a1 : Int) (a2 : Int) (h0 : 0 ≤ a0 ∧ a0 ≤ 80) (h1 : (a2 = 1 ∧ a1 = a0 + 4 ∧ a1 ≤ 80) ∨ (a2 = 0 ∧ a1 = a0 ∧ 76 < a0)) (h2 : a2 = 0) (r0 : -2147483648 ≤ a0 ∧ a0 < 2147483648) (r1 : -2147483648 ≤ a1 ∧ a1 < 2147483648) (r2 : -2147483648 ≤ a2 ∧ a2 < 2147483648) : ((-1 : Int) = a1 ∧ a1 = a0 + 4 ∧ a1 ≤ 80) ∨ ((-1 : Int) = -1 ∧ a1 = a0 ∧ 76 < a0) := by omega
theorem z_X10_sign_3 (a0 : Int) (a1 : Int) (a2 : Int) (h0 : 0 ≤ a0 ∧ a0 ≤ 80) (h1 : (a2 = 1 ∧ a1 = a0 + 4 ∧ a1 ≤ 80) ∨ (a2 = 0 ∧ a1 = a0 ∧ 76 < a0)) (h2 : ¬ (a2 = 0)) (r0 : -2147483648 ≤ a0 ∧ a0 < 2147483648) (r1 : -2147483648 ≤ a1 ∧ a1 < 2147483648) (r2 : -2147483648 ≤ a2 ∧ a2 < 2147483648) : (a1 = a1 ∧ a1 = a0 + 4 ∧ a1 ≤ 80) ∨ (a1 = -1 ∧ a1 = a0 ∧ 76 < a0) := by omega
abbrev rm_X10_sign : Room := { frames := 1, cells := 0, slots := 0, locals := 22 }
set_option maxHeartbeats 4000000 in
set_option maxRecDepth 100000 in
theorem c_X10_sign (l : Launch) (E : XE) (K : Nat → Nat) (F : Nat → Nat → Nat) (tl : Int32) (zs : List Int32) (ts : List (Nat → Int32)) (a : Nat) (p0 : Int32) (ha : K a = 12) (e0 : 0 ≤ tl.toInt ∧ tl.toInt ≤ 80) : Met l yX10_sign (xw yX10_sign cX10_sign 2 (some .int)) rm_X10_sign (va_Pc [.ref a, .int p0] (XP E K F (tl, zs, ts))) (XQ E (fun v (u : Int32) => ∃ r : Int32, v = .int r ∧ ((r.toInt = u.toInt ∧ u.toInt = tl.toInt + 4 ∧ u.toInt ≤ 80) ∨ (r.toInt = -1 ∧ u.toInt = tl.toInt ∧ 76 < tl.toInt))) (fun u H => TW E K F (u, zs, ts) [] H)) 0 0 (xA E) := by
  refine x_enter (by decide) (Nat.le_of_ble_eq_true rfl) ?_
  intro p e s m args below meth c Q S hr hlk hnm hQ hP ls hl
  obtain ⟨hz, hK, hT⟩ := hP
  obtain ⟨hx, hb, -, -, -⟩ := id S
  obtain ⟨H, hT, hS, hgo⟩ : ∃ H : Heap, TW E K F (tl, zs, ts) [] H ∧ va_S (xA E) s.heap H [] ∧ H = s.heap := ⟨_, hT, va_S.rf, rfl⟩
  rw [← hgo]
  have hl : lv_has ls 2 [(0, .ref a), (1, .int p0)] := hl
  refine lv_aload_n hx hb dX10_sign_0 rfl (lv_at hl 0 rfl) ?_
  refine gX10_0 S hK hT ha kf_X10_12 dX10_sign_1 (fun hk1 => ?_)
  refine lv_iload_n hx hb dX10_sign_4 rfl (lv_at hl 1 rfl) ?_
  refine x_cl0 (x_runV (b := (F a 0)) (As := [.int p0]) (rest := []) S (c_X8_addFour l E K F tl zs ts (F a 0) p0 hk1 (z_X10_sign_1 tl.toInt e0 (xr tl))) mv_X8_addFour km_X10_102 rfl rfl ⟨Nat.le_of_ble_eq_true rfl, Nat.le_of_ble_eq_true rfl⟩ (rc_10 hK hT hk1) hK (fun _ => XP.blind) (fun U hU hW => XP.at hK hz hS hT hU hW) rfl hl.1 (Nat.le_of_ble_eq_true rfl) dX10_sign_5 ⟨Nat.le_of_ble_eq_true rfl, Nat.le_of_ble_eq_true rfl⟩) hS ?_
  rintro _ u3 H locs ⟨x2, rfl, b4, t5⟩ hT hS
  have t5 : (x2.toInt = 1 ∧ u3.toInt = tl.toInt + 4 ∧ u3.toInt ≤ 80) ∨ (x2.toInt = 0 ∧ u3.toInt = tl.toInt ∧ 76 < tl.toInt) := t5
  have hT : TW E K F (u3, zs, ts) [] H := hT
  refine xi_zeq (tgt := 21) hx hb (rfl : Int32.toInt x2 = x2.toInt) dX10_sign_8 (by decide) (fun c6 => ?_) (fun c6 => ?_)
  · refine lv_iconst (v := (-1)) hx hb dX10_sign_21 (by decide) ?_
    exact x_ri hx hb hr hlk hQ (Nat.le_of_ble_eq_true rfl) (Nat.le_of_ble_eq_true rfl) hS dX10_sign_22 u3 ⟨_, rfl, (z_X10_sign_2 tl.toInt u3.toInt x2.toInt e0 t5 c6 (xr tl) (xr u3) (xr x2))⟩ hT.nil
  · refine lv_aload_n hx hb dX10_sign_11 rfl (lv_at hl 0 rfl) ?_
    refine gX10_0 S hK hT ha kf_X10_12 dX10_sign_12 (fun hk7 => ?_)
    refine x_clp (x_runV (b := (F a 0)) (As := []) (rest := []) S (c_X8_length l E K F u3 zs ts H (F a 0) hk7) mv_X8_length km_X10_106 rfl rfl ⟨Nat.le_of_ble_eq_true rfl, Nat.le_of_ble_eq_true rfl⟩ (rc_10 hK hT hk7) hK (fun _ => XPh.blind) (fun U hU hW => XPh.at hK hz hS hT hU hW) rfl hl.1 (Nat.le_of_ble_eq_true rfl) dX10_sign_15 ⟨Nat.le_of_ble_eq_true rfl, Nat.le_of_ble_eq_true rfl⟩) hS ?_
    rintro _ _ locs ⟨x9, rfl, h9⟩ hS
    have h9 := h9.symm
    subst h9
    refine lv_goto (tgt := 22) hx hb dX10_sign_18 (by decide) ?_
    exact x_ri hx hb hr hlk hQ (Nat.le_of_ble_eq_true rfl) (Nat.le_of_ble_eq_true rfl) hS dX10_sign_22 u3 ⟨_, rfl, (z_X10_sign_3 tl.toInt u3.toInt x2.toInt e0 t5 c6 (xr tl) (xr u3) (xr x2))⟩ hT.nil

theorem z_X10_end_1 (a0 : Int) (a1 : Int) (a2 : Int) (a3 : Int) (h0 : (a3 = 1 ∧ a2 = a0 ∧ 0 ≤ a0 ∧ a0 ≤ a1) ∨ (a3 = 0 ∧ a2 = a1 ∧ (a0 < 0 ∨ a1 < a0))) (r0 : -2147483648 ≤ a0 ∧ a0 < 2147483648) (r1 : -2147483648 ≤ a1 ∧ a1 < 2147483648) (r2 : -2147483648 ≤ a2 ∧ a2 < 2147483648) (r3 : -2147483648 ≤ a3 ∧ a3 < 2147483648) : (a3 = 1 ∧ a2 = a0 ∧ 0 ≤ a0 ∧ a0 ≤ a1) ∨ (a3 = 0 ∧ a2 = a1 ∧ (a0 < 0 ∨ a1 < a0)) := by omega
abbrev rm_X10_end : Room := { frames := 1, cells := 0, slots := 0, locals := 21 }
set_option maxHeartbeats 4000000 in
set_option maxRecDepth 100000 in
theorem c_X10_end (l : Launch) (E : XE) (K : Nat → Nat) (F : Nat → Nat → Nat) (tl : Int32) (zs : List Int32) (ts : List (Nat → Int32)) (a : Nat) (p0 : Int32) (ha : K a = 12) : Met l yX10_end (xw yX10_end cX10_end 2 (some .boolean)) rm_X10_end (va_Pc [.ref a, .int p0] (XP E K F (tl, zs, ts))) (XQ E (fun v (u : Int32) => ∃ r : Int32, v = .int r ∧ (r = 0 ∨ r = 1) ∧ ((r.toInt = 1 ∧ u.toInt = p0.toInt ∧ 0 ≤ p0.toInt ∧ p0.toInt ≤ tl.toInt) ∨ (r.toInt = 0 ∧ u.toInt = tl.toInt ∧ (p0.toInt < 0 ∨ tl.toInt < p0.toInt)))) (fun u H => TW E K F (u, zs, ts) [] H)) 0 0 (xA E) := by
  refine x_enter (by decide) (Nat.le_of_ble_eq_true rfl) ?_
  intro p e s m args below meth c Q S hr hlk hnm hQ hP ls hl
  obtain ⟨hz, hK, hT⟩ := hP
  obtain ⟨hx, hb, -, -, -⟩ := id S
  obtain ⟨H, hT, hS, hgo⟩ : ∃ H : Heap, TW E K F (tl, zs, ts) [] H ∧ va_S (xA E) s.heap H [] ∧ H = s.heap := ⟨_, hT, va_S.rf, rfl⟩
  rw [← hgo]
  have hl : lv_has ls 2 [(0, .ref a), (1, .int p0)] := hl
  refine lv_aload_n hx hb dX10_end_0 rfl (lv_at hl 0 rfl) ?_
  refine gX10_0 S hK hT ha kf_X10_12 dX10_end_1 (fun hk1 => ?_)
  refine lv_iload_n hx hb dX10_end_4 rfl (lv_at hl 1 rfl) ?_
  refine x_cl0 (x_runV (b := (F a 0)) (As := [.int p0]) (rest := []) S (c_X8_shorten l E K F tl zs ts (F a 0) p0 hk1) mv_X8_shorten km_X10_110 rfl rfl ⟨Nat.le_of_ble_eq_true rfl, Nat.le_of_ble_eq_true rfl⟩ (rc_10 hK hT hk1) hK (fun _ => XP.blind) (fun U hU hW => XP.at hK hz hS hT hU hW) rfl hl.1 (Nat.le_of_ble_eq_true rfl) dX10_end_5 ⟨Nat.le_of_ble_eq_true rfl, Nat.le_of_ble_eq_true rfl⟩) hS ?_
  rintro _ u3 H locs ⟨x2, rfl, b4, t5⟩ hT hS
  have t5 : (x2.toInt = 1 ∧ u3.toInt = p0.toInt ∧ 0 ≤ p0.toInt ∧ p0.toInt ≤ tl.toInt) ∨ (x2.toInt = 0 ∧ u3.toInt = tl.toInt ∧ (p0.toInt < 0 ∨ tl.toInt < p0.toInt)) := t5
  have hT : TW E K F (u3, zs, ts) [] H := hT
  exact x_rz hx hb hr (xnz b4) hlk hQ (Nat.le_of_ble_eq_true rfl) (Nat.le_of_ble_eq_true rfl) hS dX10_end_8 u3 ⟨_, rfl, b4, (z_X10_end_1 p0.toInt tl.toInt u3.toInt x2.toInt t5 (xr p0) (xr tl) (xr u3) (xr x2))⟩ hT.nil
