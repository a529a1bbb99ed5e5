theorem z_X11_in_1 (a0 : Int) (a1 : Int) (a2 : Int) (a3 : Int) (h0 : (a1 < a2 ∧ a0 = -1) ∨ (a1 = a2 ∧ a0 = 0) ∨ (a2 < a1 ∧ a0 = 1)) (h1 : a0 < 0) (r0 : -2147483648 ≤ a0 ∧ a0 < 2147483648) : ((0 : Int) = 1 ∧ a2 ≤ a1 ∧ a1 ≤ a3) ∨ ((0 : Int) = 0 ∧ (a1 < a2 ∨ a3 < a1)) := by omega
theorem z_X11_in_2 (a0 : Int) (a1 : Int) (a2 : Int) (a3 : Int) (a4 : Int) (h0 : (a2 < a3 ∧ a0 = -1) ∨ (a2 = a3 ∧ a0 = 0) ∨ (a3 < a2 ∧ a0 = 1)) (h1 : ¬ (a0 < 0)) (h2 : (a2 < a4 ∧ a1 = -1) ∨ (a2 = a4 ∧ a1 = 0) ∨ (a4 < a2 ∧ a1 = 1)) (h3 : 0 < a1) (r0 : -2147483648 ≤ a0 ∧ a0 < 2147483648) (r1 : -2147483648 ≤ a1 ∧ a1 < 2147483648) : ((0 : Int) = 1 ∧ a3 ≤ a2 ∧ a2 ≤ a4) ∨ ((0 : Int) = 0 ∧ (a2 < a3 ∨ a4 < a2)) := by first | (clear h1 h3; omega) | omega
theorem z_X11_in_3 (a0 : Int) (a1 : Int) (a2 : Int) (a3 : Int) (a4 : Int) (h0 : (a2 < a3 ∧ a0 = -1) ∨ (a2 = a3 ∧ a0 = 0) ∨ (a3 < a2 ∧ a0 = 1)) (h1 : ¬ (a0 < 0)) (h2 : (a2 < a4 ∧ a1 = -1) ∨ (a2 = a4 ∧ a1 = 0) ∨ (a4 < a2 ∧ a1 = 1)) (h3 : ¬ (0 < a1)) (r0 : -2147483648 ≤ a0 ∧ a0 < 2147483648) (r1 : -2147483648 ≤ a1 ∧ a1 < 2147483648) : ((1 : Int) = 1 ∧ a3 ≤ a2 ∧ a2 ≤ a4) ∨ ((1 : Int) = 0 ∧ (a2 < a3 ∨ a4 < a2)) := by first | (clear h1 h3; omega) | omega
abbrev rm_X11_in : Room := { frames := 0, cells := 0, slots := 0, locals := 0 }
set_option maxHeartbeats 4000000 in
set_option maxRecDepth 100000 in
theorem c_X11_in (l : Launch) (E : XE) (K : Nat → Nat) (F : Nat → Nat → Nat) (tl z0 z1 z2 z3 z4 z5 z6 z7 z8 z9 z10 z11 z12 z13 z14 z15 z16 z17 z18 z19 z20 : Int32) (ar0 ar1 ar2 ar3 ar4 ar5 ar6 ar7 ar8 ar9 ar10 : Nat → Int32) (h0 : Heap) (p0 : Int64) (p1 : Int64) (p2 : Int64) (v0 v1 v2 : Int) (g0 : p0.toInt = v0) (g1 : p1.toInt = v1) (g2 : p2.toInt = v2) : Met l yX11_in (xw yX11_in cX11_in 6 (some .boolean)) rm_X11_in (va_Pc [.long p0, .long p1, .long p2] (XPh E K F (tl, [z0, z1, z2, z3, z4, z5, z6, z7, z8, z9, z10, z11, z12, z13, z14, z15, z16, z17, z18, z19, z20], [ar0, ar1, ar2, ar3, ar4, ar5, ar6, ar7, ar8, ar9, ar10]) h0)) (XQ E (fun v (u : Unit) => ∃ r : Int32, v = .int r ∧ (r = 0 ∨ r = 1) ∧ ((r.toInt = 1 ∧ v1 ≤ v0 ∧ v0 ≤ v2) ∨ (r.toInt = 0 ∧ (v0 < v1 ∨ v2 < v0)))) (fun _ H => H = h0)) 0 0 (xA E) := by
  refine x_enter (by decide) (Nat.le_of_ble_eq_true rfl) ?_
  intro p e s m args below meth c Q S hr hlk hnm hQ hP ls hl
  obtain ⟨⟨hz, hK, hT⟩, hh⟩ := hP
  obtain ⟨hx, hb, -, -, -⟩ := id S
  have hS : va_S (xA E) s.heap s.heap [] := va_S.rf
  have hl : lv_has ls 6 [(0, .long p0), (2, .long p1), (4, .long p2)] := hl
  refine lv_lload_n hx hb dX11_in_0 rfl (lv_at hl 0 rfl) ?_
  refine lv_lload_n hx hb dX11_in_1 rfl (lv_at hl 1 rfl) ?_
  refine xi_lcmp hx hb g0 g1 dX11_in_2 (fun x1 t2 => ?_)
  refine xi_zlt (tgt := 17) hx hb (rfl : Int32.toInt x1 = x1.toInt) dX11_in_3 (by decide) (fun c3 => ?_) (fun c3 => ?_)
  · refine lv_iconst (v := 0) hx hb dX11_in_17 (by decide) ?_
    exact x_rz hx hb hr (xnz (Or.inl rfl)) hlk hQ (Nat.le_of_ble_eq_true rfl) (Nat.le_of_ble_eq_true rfl) hS dX11_in_18 () ⟨_, rfl, (Or.inl rfl), (z_X11_in_1 x1.toInt v0 v1 v2 t2 c3 (xr x1))⟩ hh
  · refine lv_lload_n hx hb dX11_in_6 rfl (lv_at hl 0 rfl) ?_
    refine lv_lload hx hb dX11_in_7 (lv_at hl 2 rfl) ?_
    refine xi_lcmp hx hb g0 g2 dX11_in_9 (fun x4 t5 => ?_)
    refine xi_zgt (tgt := 17) hx hb (rfl : Int32.toInt x4 = x4.toInt) dX11_in_10 (by decide) (fun c6 => ?_) (fun c6 => ?_)
    · refine lv_iconst (v := 0) hx hb dX11_in_17 (by decide) ?_
      exact x_rz hx hb hr (xnz (Or.inl rfl)) hlk hQ (Nat.le_of_ble_eq_true rfl) (Nat.le_of_ble_eq_true rfl) hS dX11_in_18 () ⟨_, rfl, (Or.inl rfl), (z_X11_in_2 x1.toInt x4.toInt v0 v1 v2 t2 c3 t5 c6 (xr x1) (xr x4))⟩ hh
    · refine lv_iconst (v := 1) hx hb dX11_in_13 (by decide) ?_
      refine lv_goto (tgt := 18) hx hb dX11_in_14 (by decide) ?_
      exact x_rz hx hb hr (xnz (Or.inr rfl)) hlk hQ (Nat.le_of_ble_eq_true rfl) (Nat.le_of_ble_eq_true rfl) hS dX11_in_18 () ⟨_, rfl, (Or.inr rfl), (z_X11_in_3 x1.toInt x4.toInt v0 v1 v2 t2 c3 t5 c6 (xr x1) (xr x4))⟩ hh

theorem z_X11_at_1 (a0 : Int) (a1 : Int) (a2 : Int) (a3 : Int) (a4 : Int) (h0 : a2 = (30 : Int) * a0 ∨ (30 : Int) * a0 < -2147483648 ∨ 2147483648 ≤ (30 : Int) * a0) (h1 : a3 = a2 + a1 ∨ a2 + a1 < -2147483648 ∨ 2147483648 ≤ a2 + a1) (h2 : a4 = (4 : Int) * a3 ∨ (4 : Int) * a3 < -2147483648 ∨ 2147483648 ≤ (4 : Int) * a3) (r0 : -2147483648 ≤ a0 ∧ a0 < 2147483648) (r1 : -2147483648 ≤ a1 ∧ a1 < 2147483648) (r2 : -2147483648 ≤ a2 ∧ a2 < 2147483648) (r3 : -2147483648 ≤ a3 ∧ a3 < 2147483648) (r4 : -2147483648 ≤ a4 ∧ a4 < 2147483648) : 0 ≤ a0 ∧ a0 ≤ 2 ∧ 0 ≤ a1 ∧ a1 ≤ 29 → a4 = 4 * (30 * a0 + a1) := by omega
abbrev rm_X11_at : Room := { frames := 0, cells := 0, slots := 0, locals := 0 }
set_option maxHeartbeats 4000000 in
set_option maxRecDepth 100000 in
theorem c_X11_at (l : Launch) (E : XE) (K : Nat → Nat) (F : Nat → Nat → Nat) (tl z0 z1 z2 z3 z4 z5 z6 z7 z8 z9 z10 z11 z12 z13 z14 z15 z16 z17 z18 z19 z20 : Int32) (ar0 ar1 ar2 ar3 ar4 ar5 ar6 ar7 ar8 ar9 ar10 : Nat → Int32) (h0 : Heap) (p0 : Int32) (p1 : Int32)  : Met l yX11_at (xw yX11_at cX11_at 2 (some .int)) rm_X11_at (va_Pc [.int p0, .int p1] (XPh E K F (tl, [z0, z1, z2, z3, z4, z5, z6, z7, z8, z9, z10, z11, z12, z13, z14, z15, z16, z17, z18, z19, z20], [ar0, ar1, ar2, ar3, ar4, ar5, ar6, ar7, ar8, ar9, ar10]) h0)) (XQ E (fun v (u : Unit) => ∃ r : Int32, v = .int r ∧ (0 ≤ p0.toInt ∧ p0.toInt ≤ 2 ∧ 0 ≤ p1.toInt ∧ p1.toInt ≤ 29 → r.toInt = 4 * (30 * p0.toInt + p1.toInt))) (fun _ H => H = h0)) 0 0 (xA E) := by
  refine x_enter (by decide) (Nat.le_of_ble_eq_true rfl) ?_
  intro p e s m args below meth c Q S hr hlk hnm hQ hP ls hl
  obtain ⟨⟨hz, hK, hT⟩, hh⟩ := hP
  obtain ⟨hx, hb, -, -, -⟩ := id S
  have hS : va_S (xA E) s.heap s.heap [] := va_S.rf
  have hl : lv_has ls 2 [(0, .int p0), (1, .int p1)] := hl
  refine lv_iconst (v := 4) hx hb dX11_at_0 (by decide) ?_
  refine lv_bipush (v := 30) hx hb dX11_at_1 (by decide) ?_
  refine lv_iload_n hx hb dX11_at_3 rfl (lv_at hl 0 rfl) ?_
  refine xi_imul hx hb ((by decide) : Int32.toInt 30 = (30 : Int)) (rfl : Int32.toInt p0 = p0.toInt) dX11_at_4 (fun x1 t2 => ?_)
  refine lv_iload_n hx hb dX11_at_5 rfl (lv_at hl 1 rfl) ?_
  refine xi_iadd hx hb (rfl : Int32.toInt x1 = x1.toInt) (rfl : Int32.toInt p1 = p1.toInt) dX11_at_6 (fun x3 t4 => ?_)
  refine xi_imul hx hb ((by decide) : Int32.toInt 4 = (4 : Int)) (rfl : Int32.toInt x3 = x3.toInt) dX11_at_7 (fun x5 t6 => ?_)
  exact x_ri hx hb hr hlk hQ (Nat.le_of_ble_eq_true rfl) (Nat.le_of_ble_eq_true rfl) hS dX11_at_8 () ⟨_, rfl, (z_X11_at_1 p0.toInt p1.toInt x1.toInt x3.toInt x5.toInt t2 t4 t6 (xr p0) (xr p1) (xr x1) (xr x3) (xr x5))⟩ hh

theorem z_X11_isTable_1 (a0 : Int) (a1 : Int) (h0 : (a1 = 1 ∧ (0 : Int) ≤ a0 ∧ a0 ≤ (2 : Int)) ∨ (a1 = 0 ∧ (a0 < (0 : Int) ∨ (2 : Int) < a0))) (r0 : -2147483648 ≤ a0 ∧ a0 < 2147483648) (r1 : -2147483648 ≤ a1 ∧ a1 < 2147483648) : (a1 = 1 ∧ 0 ≤ a0 ∧ a0 ≤ 2) ∨ (a1 = 0 ∧ (a0 < 0 ∨ 2 < a0)) := by omega
abbrev rm_X11_isTable : Room := { frames := 1, cells := 0, slots := 0, locals := 25 }
set_option maxHeartbeats 4000000 in
set_option maxRecDepth 100000 in
theorem c_X11_isTable (l : Launch) (E : XE) (K : Nat → Nat) (F : Nat → Nat → Nat) (tl z0 z1 z2 z3 z4 z5 z6 z7 z8 z9 z10 z11 z12 z13 z14 z15 z16 z17 z18 z19 z20 : Int32) (ar0 ar1 ar2 ar3 ar4 ar5 ar6 ar7 ar8 ar9 ar10 : Nat → Int32) (h0 : Heap) (p0 : Int32)  : Met l yX11_isTable (xw yX11_isTable cX11_isTable 1 (some .boolean)) rm_X11_isTable (va_Pc [.int p0] (XPh E K F (tl, [z0, z1, z2, z3, z4, z5, z6, z7, z8, z9, z10, z11, z12, z13, z14, z15, z16, z17, z18, z19, z20], [ar0, ar1, ar2, ar3, ar4, ar5, ar6, ar7, ar8, ar9, ar10]) h0)) (XQ E (fun v (u : Unit) => ∃ r : Int32, v = .int r ∧ (r = 0 ∨ r = 1) ∧ ((r.toInt = 1 ∧ 0 ≤ p0.toInt ∧ p0.toInt ≤ 2) ∨ (r.toInt = 0 ∧ (p0.toInt < 0 ∨ 2 < p0.toInt)))) (fun _ H => H = h0)) 0 0 (xA E) := by
  refine x_enter (by decide) (Nat.le_of_ble_eq_true rfl) ?_
  intro p e s m args below meth c Q S hr hlk hnm hQ hP ls hl
  obtain ⟨⟨hz, hK, hT⟩, hh⟩ := hP
  obtain ⟨hx, hb, -, -, -⟩ := id S
  have hS : va_S (xA E) s.heap s.heap [] := va_S.rf
  have hl : lv_has ls 1 [(0, .int p0)] := hl
  refine lv_iload_n hx hb dX11_isTable_0 rfl (lv_at hl 0 rfl) ?_
  refine lv_i2l (v := p0.toInt64) hx hb dX11_isTable_1 rfl ?_
  refine lv_lconst (v := (0 : Int64)) hx hb dX11_isTable_2 (by decide) ?_
  refine lv_ldc2 (v := 2) hx hb S.2.2.2.1 (S.2.2.2.2 _ (List.mem_cons_of_mem _ kc_X11_137)) dX11_isTable_3 ?_
  refine x_clp (x_runS (As := [.long p0.toInt64, .long (0 : Int64), .long (2 : Int64)]) (rest := []) S (c_X11_in l E K F tl z0 z1 z2 z3 z4 z5 z6 z7 z8 z9 z10 z11 z12 z13 z14 z15 z16 z17 z18 z19 z20 ar0 ar1 ar2 ar3 ar4 ar5 ar6 ar7 ar8 ar9 ar10 s.heap p0.toInt64 (0 : Int64) (2 : Int64) p0.toInt (0 : Int) (2 : Int) (xl_i2l (rfl : Int32.toInt p0 = p0.toInt)) (by decide) (by decide)) ms_X11_in km_X11_139 rfl rfl ⟨Nat.le_of_ble_eq_true rfl, Nat.le_of_ble_eq_true rfl⟩ hK (fun _ => XPh.blind) (fun U hU hW => XPh.at hK hz hS hT hU hW) rfl hl.1 (Nat.le_of_ble_eq_true rfl) dX11_isTable_6 ⟨Nat.le_of_ble_eq_true rfl, Nat.le_of_ble_eq_true rfl⟩) hS ?_
  rintro _ _ locs ⟨x1, rfl, b2, t3⟩ hS
  have t3 : (x1.toInt = 1 ∧ (0 : Int) ≤ p0.toInt ∧ p0.toInt ≤ (2 : Int)) ∨ (x1.toInt = 0 ∧ (p0.toInt < (0 : Int) ∨ (2 : Int) < p0.toInt)) := t3
  exact x_rz hx hb hr (xnz b2) hlk hQ (Nat.le_of_ble_eq_true rfl) (Nat.le_of_ble_eq_true rfl) hS dX11_isTable_9 () ⟨_, rfl, b2, (z_X11_isTable_1 p0.toInt x1.toInt t3 (xr p0) (xr x1))⟩ hh

theorem z_X11_isKey_1 (a0 : Int) (a1 : Int) (h0 : (a1 = 1 ∧ (0 : Int) ≤ a0 ∧ a0 ≤ (29 : Int)) ∨ (a1 = 0 ∧ (a0 < (0 : Int) ∨ (29 : Int) < a0))) (r0 : -2147483648 ≤ a0 ∧ a0 < 2147483648) (r1 : -2147483648 ≤ a1 ∧ a1 < 2147483648) : (a1 = 1 ∧ 0 ≤ a0 ∧ a0 ≤ 29) ∨ (a1 = 0 ∧ (a0 < 0 ∨ 29 < a0)) := by omega
abbrev rm_X11_isKey : Room := { frames := 1, cells := 0, slots := 0, locals := 25 }
set_option maxHeartbeats 4000000 in
set_option maxRecDepth 100000 in
theorem c_X11_isKey (l : Launch) (E : XE) (K : Nat → Nat) (F : Nat → Nat → Nat) (tl z0 z1 z2 z3 z4 z5 z6 z7 z8 z9 z10 z11 z12 z13 z14 z15 z16 z17 z18 z19 z20 : Int32) (ar0 ar1 ar2 ar3 ar4 ar5 ar6 ar7 ar8 ar9 ar10 : Nat → Int32) (h0 : Heap) (p0 : Int32)  : Met l yX11_isKey (xw yX11_isKey cX11_isKey 1 (some .boolean)) rm_X11_isKey (va_Pc [.int p0] (XPh E K F (tl, [z0, z1, z2, z3, z4, z5, z6, z7, z8, z9, z10, z11, z12, z13, z14, z15, z16, z17, z18, z19, z20], [ar0, ar1, ar2, ar3, ar4, ar5, ar6, ar7, ar8, ar9, ar10]) h0)) (XQ E (fun v (u : Unit) => ∃ r : Int32, v = .int r ∧ (r = 0 ∨ r = 1) ∧ ((r.toInt = 1 ∧ 0 ≤ p0.toInt ∧ p0.toInt ≤ 29) ∨ (r.toInt = 0 ∧ (p0.toInt < 0 ∨ 29 < p0.toInt)))) (fun _ H => H = h0)) 0 0 (xA E) := by
  refine x_enter (by decide) (Nat.le_of_ble_eq_true rfl) ?_
  intro p e s m args below meth c Q S hr hlk hnm hQ hP ls hl
  obtain ⟨⟨hz, hK, hT⟩, hh⟩ := hP
  obtain ⟨hx, hb, -, -, -⟩ := id S
  have hS : va_S (xA E) s.heap s.heap [] := va_S.rf
  have hl : lv_has ls 1 [(0, .int p0)] := hl
  refine lv_iload_n hx hb dX11_isKey_0 rfl (lv_at hl 0 rfl) ?_
  refine lv_i2l (v := p0.toInt64) hx hb dX11_isKey_1 rfl ?_
  refine lv_lconst (v := (0 : Int64)) hx hb dX11_isKey_2 (by decide) ?_
  refine lv_ldc2 (v := 29) hx hb S.2.2.2.1 (S.2.2.2.2 _ (List.mem_cons_of_mem _ kc_X11_143)) dX11_isKey_3 ?_
  refine x_clp (x_runS (As := [.long p0.toInt64, .long (0 : Int64), .long (29 : Int64)]) (rest := []) S (c_X11_in l E K F tl z0 z1 z2 z3 z4 z5 z6 z7 z8 z9 z10 z11 z12 z13 z14 z15 z16 z17 z18 z19 z20 ar0 ar1 ar2 ar3 ar4 ar5 ar6 ar7 ar8 ar9 ar10 s.heap p0.toInt64 (0 : Int64) (29 : Int64) p0.toInt (0 : Int) (29 : Int) (xl_i2l (rfl : Int32.toInt p0 = p0.toInt)) (by decide) (by decide)) ms_X11_in km_X11_139 rfl rfl ⟨Nat.le_of_ble_eq_true rfl, Nat.le_of_ble_eq_true rfl⟩ hK (fun _ => XPh.blind) (fun U hU hW => XPh.at hK hz hS hT hU hW) rfl hl.1 (Nat.le_of_ble_eq_true rfl) dX11_isKey_6 ⟨Nat.le_of_ble_eq_true rfl, Nat.le_of_ble_eq_true rfl⟩) hS ?_
  rintro _ _ locs ⟨x1, rfl, b2, t3⟩ hS
  have t3 : (x1.toInt = 1 ∧ (0 : Int) ≤ p0.toInt ∧ p0.toInt ≤ (29 : Int)) ∨ (x1.toInt = 0 ∧ (p0.toInt < (0 : Int) ∨ (29 : Int) < p0.toInt)) := t3
  exact x_rz hx hb hr (xnz b2) hlk hQ (Nat.le_of_ble_eq_true rfl) (Nat.le_of_ble_eq_true rfl) hS dX11_isKey_9 () ⟨_, rfl, b2, (z_X11_isKey_1 p0.toInt x1.toInt t3 (xr p0) (xr x1))⟩ hh

theorem z_X11_isColumn_1 (a0 : Int) (a1 : Int) (h0 : (a1 = 1 ∧ (0 : Int) ≤ a0 ∧ a0 ≤ (2 : Int)) ∨ (a1 = 0 ∧ (a0 < (0 : Int) ∨ (2 : Int) < a0))) (r0 : -2147483648 ≤ a0 ∧ a0 < 2147483648) (r1 : -2147483648 ≤ a1 ∧ a1 < 2147483648) : (a1 = 1 ∧ 0 ≤ a0 ∧ a0 ≤ 2) ∨ (a1 = 0 ∧ (a0 < 0 ∨ 2 < a0)) := by omega
abbrev rm_X11_isColumn : Room := { frames := 1, cells := 0, slots := 0, locals := 25 }
set_option maxHeartbeats 4000000 in
set_option maxRecDepth 100000 in
theorem c_X11_isColumn (l : Launch) (E : XE) (K : Nat → Nat) (F : Nat → Nat → Nat) (tl z0 z1 z2 z3 z4 z5 z6 z7 z8 z9 z10 z11 z12 z13 z14 z15 z16 z17 z18 z19 z20 : Int32) (ar0 ar1 ar2 ar3 ar4 ar5 ar6 ar7 ar8 ar9 ar10 : Nat → Int32) (h0 : Heap) (p0 : Int32)  : Met l yX11_isColumn (xw yX11_isColumn cX11_isColumn 1 (some .boolean)) rm_X11_isColumn (va_Pc [.int p0] (XPh E K F (tl, [z0, z1, z2, z3, z4, z5, z6, z7, z8, z9, z10, z11, z12, z13, z14, z15, z16, z17, z18, z19, z20], [ar0, ar1, ar2, ar3, ar4, ar5, ar6, ar7, ar8, ar9, ar10]) h0)) (XQ E (fun v (u : Unit) => ∃ r : Int32, v = .int r ∧ (r = 0 ∨ r = 1) ∧ ((r.toInt = 1 ∧ 0 ≤ p0.toInt ∧ p0.toInt ≤ 2) ∨ (r.toInt = 0 ∧ (p0.toInt < 0 ∨ 2 < p0.toInt)))) (fun _ H => H = h0)) 0 0 (xA E) := by
  refine x_enter (by decide) (Nat.le_of_ble_eq_true rfl) ?_
  intro p e s m args below meth c Q S hr hlk hnm hQ hP ls hl
  obtain ⟨⟨hz, hK, hT⟩, hh⟩ := hP
  obtain ⟨hx, hb, -, -, -⟩ := id S
  have hS : va_S (xA E) s.heap s.heap [] := va_S.rf
  have hl : lv_has ls 1 [(0, .int p0)] := hl
  refine lv_iload_n hx hb dX11_isColumn_0 rfl (lv_at hl 0 rfl) ?_
  refine lv_i2l (v := p0.toInt64) hx hb dX11_isColumn_1 rfl ?_
  refine lv_lconst (v := (0 : Int64)) hx hb dX11_isColumn_2 (by decide) ?_
  refine lv_ldc2 (v := 2) hx hb S.2.2.2.1 (S.2.2.2.2 _ (List.mem_cons_of_mem _ kc_X11_137)) dX11_isColumn_3 ?_
  refine x_clp (x_runS (As := [.long p0.toInt64, .long (0 : Int64), .long (2 : Int64)]) (rest := []) S (c_X11_in l E K F tl z0 z1 z2 z3 z4 z5 z6 z7 z8 z9 z10 z11 z12 z13 z14 z15 z16 z17 z18 z19 z20 ar0 ar1 ar2 ar3 ar4 ar5 ar6 ar7 ar8 ar9 ar10 s.heap p0.toInt64 (0 : Int64) (2 : Int64) p0.toInt (0 : Int) (2 : Int) (xl_i2l (rfl : Int32.toInt p0 = p0.toInt)) (by decide) (by decide)) ms_X11_in km_X11_139 rfl rfl ⟨Nat.le_of_ble_eq_true rfl, Nat.le_of_ble_eq_true rfl⟩ hK (fun _ => XPh.blind) (fun U hU hW => XPh.at hK hz hS hT hU hW) rfl hl.1 (Nat.le_of_ble_eq_true rfl) dX11_isColumn_6 ⟨Nat.le_of_ble_eq_true rfl, Nat.le_of_ble_eq_true rfl⟩) hS ?_
  rintro _ _ locs ⟨x1, rfl, b2, t3⟩ hS
  have t3 : (x1.toInt = 1 ∧ (0 : Int) ≤ p0.toInt ∧ p0.toInt ≤ (2 : Int)) ∨ (x1.toInt = 0 ∧ (p0.toInt < (0 : Int) ∨ (2 : Int) < p0.toInt)) := t3
  exact x_rz hx hb hr (xnz b2) hlk hQ (Nat.le_of_ble_eq_true rfl) (Nat.le_of_ble_eq_true rfl) hS dX11_isColumn_9 () ⟨_, rfl, b2, (z_X11_isColumn_1 p0.toInt x1.toInt t3 (xr p0) (xr x1))⟩ hh

theorem z_X11_isLetter_1 (a0 : Int) (a1 : Int) (h0 : (a1 = 1 ∧ (97 : Int) ≤ a0 ∧ a0 ≤ (122 : Int)) ∨ (a1 = 0 ∧ (a0 < (97 : Int) ∨ (122 : Int) < a0))) (r0 : -2147483648 ≤ a0 ∧ a0 < 2147483648) (r1 : -2147483648 ≤ a1 ∧ a1 < 2147483648) : (a1 = 1 ∧ 97 ≤ a0 ∧ a0 ≤ 122) ∨ (a1 = 0 ∧ (a0 < 97 ∨ 122 < a0)) := by omega
abbrev rm_X11_isLetter : Room := { frames := 1, cells := 0, slots := 0, locals := 25 }
set_option maxHeartbeats 4000000 in
set_option maxRecDepth 100000 in
theorem c_X11_isLetter (l : Launch) (E : XE) (K : Nat → Nat) (F : Nat → Nat → Nat) (tl z0 z1 z2 z3 z4 z5 z6 z7 z8 z9 z10 z11 z12 z13 z14 z15 z16 z17 z18 z19 z20 : Int32) (ar0 ar1 ar2 ar3 ar4 ar5 ar6 ar7 ar8 ar9 ar10 : Nat → Int32) (h0 : Heap) (p0 : Int32)  : Met l yX11_isLetter (xw yX11_isLetter cX11_isLetter 1 (some .boolean)) rm_X11_isLetter (va_Pc [.int p0] (XPh E K F (tl, [z0, z1, z2, z3, z4, z5, z6, z7, z8, z9, z10, z11, z12, z13, z14, z15, z16, z17, z18, z19, z20], [ar0, ar1, ar2, ar3, ar4, ar5, ar6, ar7, ar8, ar9, ar10]) h0)) (XQ E (fun v (u : Unit) => ∃ r : Int32, v = .int r ∧ (r = 0 ∨ r = 1) ∧ ((r.toInt = 1 ∧ 97 ≤ p0.toInt ∧ p0.toInt ≤ 122) ∨ (r.toInt = 0 ∧ (p0.toInt < 97 ∨ 122 < p0.toInt)))) (fun _ H => H = h0)) 0 0 (xA E) := by
  refine x_enter (by decide) (Nat.le_of_ble_eq_true rfl) ?_
  intro p e s m args below meth c Q S hr hlk hnm hQ hP ls hl
  obtain ⟨⟨hz, hK, hT⟩, hh⟩ := hP
  obtain ⟨hx, hb, -, -, -⟩ := id S
  have hS : va_S (xA E) s.heap s.heap [] := va_S.rf
  have hl : lv_has ls 1 [(0, .int p0)] := hl
  refine lv_iload_n hx hb dX11_isLetter_0 rfl (lv_at hl 0 rfl) ?_
  refine lv_i2l (v := p0.toInt64) hx hb dX11_isLetter_1 rfl ?_
  refine lv_ldc2 (v := 97) hx hb S.2.2.2.1 (S.2.2.2.2 _ (List.mem_cons_of_mem _ kc_X11_248)) dX11_isLetter_2 ?_
  refine lv_ldc2 (v := 122) hx hb S.2.2.2.1 (S.2.2.2.2 _ (List.mem_cons_of_mem _ kc_X11_250)) dX11_isLetter_5 ?_
  refine x_clp (x_runS (As := [.long p0.toInt64, .long (97 : Int64), .long (122 : Int64)]) (rest := []) S (c_X11_in l E K F tl z0 z1 z2 z3 z4 z5 z6 z7 z8 z9 z10 z11 z12 z13 z14 z15 z16 z17 z18 z19 z20 ar0 ar1 ar2 ar3 ar4 ar5 ar6 ar7 ar8 ar9 ar10 s.heap p0.toInt64 (97 : Int64) (122 : Int64) p0.toInt (97 : Int) (122 : Int) (xl_i2l (rfl : Int32.toInt p0 = p0.toInt)) (by decide) (by decide)) ms_X11_in km_X11_139 rfl rfl ⟨Nat.le_of_ble_eq_true rfl, Nat.le_of_ble_eq_true rfl⟩ hK (fun _ => XPh.blind) (fun U hU hW => XPh.at hK hz hS hT hU hW) rfl hl.1 (Nat.le_of_ble_eq_true rfl) dX11_isLetter_8 ⟨Nat.le_of_ble_eq_true rfl, Nat.le_of_ble_eq_true rfl⟩) hS ?_
  rintro _ _ locs ⟨x1, rfl, b2, t3⟩ hS
  have t3 : (x1.toInt = 1 ∧ (97 : Int) ≤ p0.toInt ∧ p0.toInt ≤ (122 : Int)) ∨ (x1.toInt = 0 ∧ (p0.toInt < (97 : Int) ∨ (122 : Int) < p0.toInt)) := t3
  exact x_rz hx hb hr (xnz b2) hlk hQ (Nat.le_of_ble_eq_true rfl) (Nat.le_of_ble_eq_true rfl) hS dX11_isLetter_11 () ⟨_, rfl, b2, (z_X11_isLetter_1 p0.toInt x1.toInt t3 (xr p0) (xr x1))⟩ hh

theorem z_X11_isDigit_1 (a0 : Int) (a1 : Int) (h0 : (a1 = 1 ∧ (48 : Int) ≤ a0 ∧ a0 ≤ (57 : Int)) ∨ (a1 = 0 ∧ (a0 < (48 : Int) ∨ (57 : Int) < a0))) (r0 : -2147483648 ≤ a0 ∧ a0 < 2147483648) (r1 : -2147483648 ≤ a1 ∧ a1 < 2147483648) : (a1 = 1 ∧ 48 ≤ a0 ∧ a0 ≤ 57) ∨ (a1 = 0 ∧ (a0 < 48 ∨ 57 < a0)) := by omega
abbrev rm_X11_isDigit : Room := { frames := 1, cells := 0, slots := 0, locals := 25 }
set_option maxHeartbeats 4000000 in
set_option maxRecDepth 100000 in
theorem c_X11_isDigit (l : Launch) (E : XE) (K : Nat → Nat) (F : Nat → Nat → Nat) (tl z0 z1 z2 z3 z4 z5 z6 z7 z8 z9 z10 z11 z12 z13 z14 z15 z16 z17 z18 z19 z20 : Int32) (ar0 ar1 ar2 ar3 ar4 ar5 ar6 ar7 ar8 ar9 ar10 : Nat → Int32) (h0 : Heap) (p0 : Int32)  : Met l yX11_isDigit (xw yX11_isDigit cX11_isDigit 1 (some .boolean)) rm_X11_isDigit (va_Pc [.int p0] (XPh E K F (tl, [z0, z1, z2, z3, z4, z5, z6, z7, z8, z9, z10, z11, z12, z13, z14, z15, z16, z17, z18, z19, z20], [ar0, ar1, ar2, ar3, ar4, ar5, ar6, ar7, ar8, ar9, ar10]) h0)) (XQ E (fun v (u : Unit) => ∃ r : Int32, v = .int r ∧ (r = 0 ∨ r = 1) ∧ ((r.toInt = 1 ∧ 48 ≤ p0.toInt ∧ p0.toInt ≤ 57) ∨ (r.toInt = 0 ∧ (p0.toInt < 48 ∨ 57 < p0.toInt)))) (fun _ H => H = h0)) 0 0 (xA E) := by
  refine x_enter (by decide) (Nat.le_of_ble_eq_true rfl) ?_
  intro p e s m args below meth c Q S hr hlk hnm hQ hP ls hl
  obtain ⟨⟨hz, hK, hT⟩, hh⟩ := hP
  obtain ⟨hx, hb, -, -, -⟩ := id S
  have hS : va_S (xA E) s.heap s.heap [] := va_S.rf
  have hl : lv_has ls 1 [(0, .int p0)] := hl
  refine lv_iload_n hx hb dX11_isDigit_0 rfl (lv_at hl 0 rfl) ?_
  refine lv_i2l (v := p0.toInt64) hx hb dX11_isDigit_1 rfl ?_
  refine lv_ldc2 (v := 48) hx hb S.2.2.2.1 (S.2.2.2.2 _ (List.mem_cons_of_mem _ kc_X11_252)) dX11_isDigit_2 ?_
  refine lv_ldc2 (v := 57) hx hb S.2.2.2.1 (S.2.2.2.2 _ (List.mem_cons_of_mem _ kc_X11_254)) dX11_isDigit_5 ?_
  refine x_clp (x_runS (As := [.long p0.toInt64, .long (48 : Int64), .long (57 : Int64)]) (rest := []) S (c_X11_in l E K F tl z0 z1 z2 z3 z4 z5 z6 z7 z8 z9 z10 z11 z12 z13 z14 z15 z16 z17 z18 z19 z20 ar0 ar1 ar2 ar3 ar4 ar5 ar6 ar7 ar8 ar9 ar10 s.heap p0.toInt64 (48 : Int64) (57 : Int64) p0.toInt (48 : Int) (57 : Int) (xl_i2l (rfl : Int32.toInt p0 = p0.toInt)) (by decide) (by decide)) ms_X11_in km_X11_139 rfl rfl ⟨Nat.le_of_ble_eq_true rfl, Nat.le_of_ble_eq_true rfl⟩ hK (fun _ => XPh.blind) (fun U hU hW => XPh.at hK hz hS hT hU hW) rfl hl.1 (Nat.le_of_ble_eq_true rfl) dX11_isDigit_8 ⟨Nat.le_of_ble_eq_true rfl, Nat.le_of_ble_eq_true rfl⟩) hS ?_
  rintro _ _ locs ⟨x1, rfl, b2, t3⟩ hS
  have t3 : (x1.toInt = 1 ∧ (48 : Int) ≤ p0.toInt ∧ p0.toInt ≤ (57 : Int)) ∨ (x1.toInt = 0 ∧ (p0.toInt < (48 : Int) ∨ (57 : Int) < p0.toInt)) := t3
  exact x_rz hx hb hr (xnz b2) hlk hQ (Nat.le_of_ble_eq_true rfl) (Nat.le_of_ble_eq_true rfl) hS dX11_isDigit_11 () ⟨_, rfl, b2, (z_X11_isDigit_1 p0.toInt x1.toInt t3 (xr p0) (xr x1))⟩ hh

abbrev rm_X11_isValue : Room := { frames := 1, cells := 0, slots := 0, locals := 25 }
set_option maxHeartbeats 4000000 in
set_option maxRecDepth 100000 in
theorem c_X11_isValue (l : Launch) (E : XE) (K : Nat → Nat) (F : Nat → Nat → Nat) (tl z0 z1 z2 z3 z4 z5 z6 z7 z8 z9 z10 z11 z12 z13 z14 z15 z16 z17 z18 z19 z20 : Int32) (ar0 ar1 ar2 ar3 ar4 ar5 ar6 ar7 ar8 ar9 ar10 : Nat → Int32) (h0 : Heap) (p0 : Int32)  : Met l yX11_isValue (xw yX11_isValue cX11_isValue 1 (some .boolean)) rm_X11_isValue (va_Pc [.int p0] (XPh E K F (tl, [z0, z1, z2, z3, z4, z5, z6, z7, z8, z9, z10, z11, z12, z13, z14, z15, z16, z17, z18, z19, z20], [ar0, ar1, ar2, ar3, ar4, ar5, ar6, ar7, ar8, ar9, ar10]) h0)) (XQ E (fun v (u : Unit) => ∃ r : Int32, v = .int r ∧ (r = 0 ∨ r = 1)) (fun _ H => H = h0)) 0 0 (xA E) := by
  refine x_enter (by decide) (Nat.le_of_ble_eq_true rfl) ?_
  intro p e s m args below meth c Q S hr hlk hnm hQ hP ls hl
  obtain ⟨⟨hz, hK, hT⟩, hh⟩ := hP
  obtain ⟨hx, hb, -, -, -⟩ := id S
  have hS : va_S (xA E) s.heap s.heap [] := va_S.rf
  have hl : lv_has ls 1 [(0, .int p0)] := hl
  refine lv_iload_n hx hb dX11_isValue_0 rfl (lv_at hl 0 rfl) ?_
  refine lv_sipush (v := (-1000)) hx hb dX11_isValue_1 (by decide) ?_
  have J21 : ∀ (locs : List Loc) (ls : Array Slot), TW E K F (tl, [z0, z1, z2, z3, z4, z5, z6, z7, z8, z9, z10, z11, z12, z13, z14, z15, z16, z17, z18, z19, z20], [ar0, ar1, ar2, ar3, ar4, ar5, ar6, ar7, ar8, ar9, ar10]) [] s.heap → va_S (xA E) s.heap s.heap locs → lv_has ls 1 [] → W p l e rm_X11_isValue s m args below meth c s.heap locs 0 0 Q (F0 m 21 ls []) := by
    intro locs ls hT hS hl
    refine lv_iconst (v := 1) hx hb dX11_isValue_21 (by decide) ?_
    refine lv_goto (tgt := 26) hx hb dX11_isValue_22 (by decide) ?_
    exact x_rz hx hb hr (xnz (Or.inr rfl)) hlk hQ (Nat.le_of_ble_eq_true rfl) (Nat.le_of_ble_eq_true rfl) hS dX11_isValue_26 () ⟨_, rfl, (Or.inr rfl)⟩ hh
  refine xi_ceq (tgt := 21) hx hb (rfl : Int32.toInt p0 = p0.toInt) ((by decide) : Int32.toInt (-1000) = (-1000 : Int)) dX11_isValue_4 (by decide) (fun c1 => ?_) (fun c1 => ?_)
  · exact J21 _ _ hT.nil hS (lv_sub hl [] rfl)
  · refine lv_iload_n hx hb dX11_isValue_7 rfl (lv_at hl 0 rfl) ?_
    refine lv_i2l (v := p0.toInt64) hx hb dX11_isValue_8 rfl ?_
    refine lv_ldc2 (v := (-99)) hx hb S.2.2.2.1 (S.2.2.2.2 _ (List.mem_cons_of_mem _ kc_X11_145)) dX11_isValue_9 ?_
    refine lv_ldc2 (v := 99) hx hb S.2.2.2.1 (S.2.2.2.2 _ (List.mem_cons_of_mem _ kc_X11_147)) dX11_isValue_12 ?_
    refine x_clp (x_runS (As := [.long p0.toInt64, .long (-99 : Int64), .long (99 : Int64)]) (rest := []) S (c_X11_in l E K F tl z0 z1 z2 z3 z4 z5 z6 z7 z8 z9 z10 z11 z12 z13 z14 z15 z16 z17 z18 z19 z20 ar0 ar1 ar2 ar3 ar4 ar5 ar6 ar7 ar8 ar9 ar10 s.heap p0.toInt64 (-99 : Int64) (99 : Int64) p0.toInt (-99 : Int) (99 : Int) (xl_i2l (rfl : Int32.toInt p0 = p0.toInt)) (by decide) (by decide)) ms_X11_in km_X11_139 rfl rfl ⟨Nat.le_of_ble_eq_true rfl, Nat.le_of_ble_eq_true rfl⟩ hK (fun _ => XPh.blind) (fun U hU hW => XPh.at hK hz hS hT hU hW) rfl hl.1 (Nat.le_of_ble_eq_true rfl) dX11_isValue_15 ⟨Nat.le_of_ble_eq_true rfl, Nat.le_of_ble_eq_true rfl⟩) hS ?_
    rintro _ _ locs ⟨x2, rfl, b3, t4⟩ hS
    have t4 : (x2.toInt = 1 ∧ (-99 : Int) ≤ p0.toInt ∧ p0.toInt ≤ (99 : Int)) ∨ (x2.toInt = 0 ∧ (p0.toInt < (-99 : Int) ∨ (99 : Int) < p0.toInt)) := t4
    refine xi_zeq (tgt := 25) hx hb (rfl : Int32.toInt x2 = x2.toInt) dX11_isValue_18 (by decide) (fun c5 => ?_) (fun c5 => ?_)
    · refine lv_iconst (v := 0) hx hb dX11_isValue_25 (by decide) ?_
      exact x_rz hx hb hr (xnz (Or.inl rfl)) hlk hQ (Nat.le_of_ble_eq_true rfl) (Nat.le_of_ble_eq_true rfl) hS dX11_isValue_26 () ⟨_, rfl, (Or.inl rfl)⟩ hh
    · exact J21 _ _ hT.nil hS (lv_sub hl [] rfl)

theorem z_X11_isRow_1 (a0 : Int) (a1 : Int) (a2 : Int) (a3 : Int) (h0 : (a2 = 1 ∧ 0 ≤ a0 ∧ a0 ≤ 2) ∨ (a2 = 0 ∧ (a0 < 0 ∨ 2 < a0))) (h1 : a2 = 0 ∨ a2 = 1) (h2 : a2 = 0) (r0 : -2147483648 ≤ a0 ∧ a0 < 2147483648) (r1 : -2147483648 ≤ a1 ∧ a1 < 2147483648) (r2 : -2147483648 ≤ a2 ∧ a2 < 2147483648) : (0 : Int) = 0 ∨ ((0 : Int) = 1 ∧ 0 ≤ a0 ∧ a0 ≤ 2 ∧ 0 ≤ a1 ∧ a1 ≤ 29 ∧ a3 = 1) := by omega
theorem z_X11_isRow_2 (a0 : Int) (a1 : Int) (a2 : Int) (a3 : Int) (a4 : Int) (h0 : (a2 = 1 ∧ 0 ≤ a0 ∧ a0 ≤ 2) ∨ (a2 = 0 ∧ (a0 < 0 ∨ 2 < a0))) (h1 : a2 = 0 ∨ a2 = 1) (h2 : ¬ (a2 = 0)) (h3 : (a3 = 1 ∧ 0 ≤ a1 ∧ a1 ≤ 29) ∨ (a3 = 0 ∧ (a1 < 0 ∨ 29 < a1))) (h4 : a3 = 0 ∨ a3 = 1) (h5 : a3 = 0) (r0 : -2147483648 ≤ a0 ∧ a0 < 2147483648) (r1 : -2147483648 ≤ a1 ∧ a1 < 2147483648) (r2 : -2147483648 ≤ a2 ∧ a2 < 2147483648) (r3 : -2147483648 ≤ a3 ∧ a3 < 2147483648) : (0 : Int) = 0 ∨ ((0 : Int) = 1 ∧ 0 ≤ a0 ∧ a0 ≤ 2 ∧ 0 ≤ a1 ∧ a1 ≤ 29 ∧ a4 = 1) := by first | (clear h1 h2 h4 h5; omega) | omega
theorem z_X11_isRow_3 (a0 : Int) (a1 : Int) (a2 : Int) (a3 : Int) (a4 : Int) (h0 : (a3 = 1 ∧ 0 ≤ a0 ∧ a0 ≤ 2) ∨ (a3 = 0 ∧ (a0 < 0 ∨ 2 < a0))) (h1 : a3 = 0 ∨ a3 = 1) (h2 : ¬ (a3 = 0)) (h3 : (a4 = 1 ∧ 0 ≤ a1 ∧ a1 ≤ 29) ∨ (a4 = 0 ∧ (a1 < 0 ∨ 29 < a1))) (h4 : a4 = 0 ∨ a4 = 1) (h5 : ¬ (a4 = 0)) (h6 : 0 ≤ a0 ∧ a0 ≤ 2 ∧ 0 ≤ a1 ∧ a1 ≤ 29 → a2 = 4 * (30 * a0 + a1)) (r0 : -2147483648 ≤ a0 ∧ a0 < 2147483648) (r1 : -2147483648 ≤ a1 ∧ a1 < 2147483648) (r2 : -2147483648 ≤ a2 ∧ a2 < 2147483648) (r3 : -2147483648 ≤ a3 ∧ a3 < 2147483648) (r4 : -2147483648 ≤ a4 ∧ a4 < 2147483648) : 0 ≤ a2 ∧ a2 < ((360 : Nat) : Int) := by first | (clear h0 h1 h2 h3 h4 h5; omega) | (clear h1 h2 h4 h5; omega) | omega
theorem z_X11_isRow_4 (a0 : Int) (a1 : Int) (a2 : Int) (a3 : Int) (a4 : Int) (h0 : (a3 = 1 ∧ 0 ≤ a0 ∧ a0 ≤ 2) ∨ (a3 = 0 ∧ (a0 < 0 ∨ 2 < a0))) (h1 : a3 = 0 ∨ a3 = 1) (h2 : ¬ (a3 = 0)) (h3 : (a4 = 1 ∧ 0 ≤ a1 ∧ a1 ≤ 29) ∨ (a4 = 0 ∧ (a1 < 0 ∨ 29 < a1))) (h4 : a4 = 0 ∨ a4 = 1) (h5 : ¬ (a4 = 0)) (h6 : 0 ≤ a0 ∧ a0 ≤ 2 ∧ 0 ≤ a1 ∧ a1 ≤ 29 → a2 = 4 * (30 * a0 + a1)) (r0 : -2147483648 ≤ a0 ∧ a0 < 2147483648) (r1 : -2147483648 ≤ a1 ∧ a1 < 2147483648) (r2 : -2147483648 ≤ a2 ∧ a2 < 2147483648) (r3 : -2147483648 ≤ a3 ∧ a3 < 2147483648) (r4 : -2147483648 ≤ a4 ∧ a4 < 2147483648) : a2 = 4 * (30 * a0 + a1) := by first | (clear h1 h2 h4 h5; omega) | omega
theorem z_X11_isRow_5 (a0 : Int) (a1 : Int) (a2 : Int) (a3 : Int) (a4 : Int) (a5 : Int) (a6 : Int) (a7 : Int) (h0 : (a4 = 1 ∧ 0 ≤ a0 ∧ a0 ≤ 2) ∨ (a4 = 0 ∧ (a0 < 0 ∨ 2 < a0))) (h1 : a4 = 0 ∨ a4 = 1) (h2 : ¬ (a4 = 0)) (h3 : (a5 = 1 ∧ 0 ≤ a1 ∧ a1 ≤ 29) ∨ (a5 = 0 ∧ (a1 < 0 ∨ 29 < a1))) (h4 : a5 = 0 ∨ a5 = 1) (h5 : ¬ (a5 = 0)) (h6 : 0 ≤ a0 ∧ a0 ≤ 2 ∧ 0 ≤ a1 ∧ a1 ≤ 29 → a2 = 4 * (30 * a0 + a1)) (h7 : a3 = a7) (h8 : a3 = a6) (h9 : a3 ≠ (1 : Int)) (r0 : -2147483648 ≤ a0 ∧ a0 < 2147483648) (r1 : -2147483648 ≤ a1 ∧ a1 < 2147483648) (r2 : -2147483648 ≤ a2 ∧ a2 < 2147483648) (r3 : -2147483648 ≤ a3 ∧ a3 < 2147483648) (r4 : -2147483648 ≤ a4 ∧ a4 < 2147483648) (r5 : -2147483648 ≤ a5 ∧ a5 < 2147483648) : (0 : Int) = 0 ∨ ((0 : Int) = 1 ∧ 0 ≤ a0 ∧ a0 ≤ 2 ∧ 0 ≤ a1 ∧ a1 ≤ 29 ∧ a6 = 1) := by first | (clear h1 h2 h4 h5 h7 h9; omega) | omega
theorem z_X11_isRow_6 (a0 : Int) (a1 : Int) (a2 : Int) (a3 : Int) (a4 : Int) (a5 : Int) (a6 : Int) (a7 : Int) (h0 : (a4 = 1 ∧ 0 ≤ a0 ∧ a0 ≤ 2) ∨ (a4 = 0 ∧ (a0 < 0 ∨ 2 < a0))) (h1 : a4 = 0 ∨ a4 = 1) (h2 : ¬ (a4 = 0)) (h3 : (a5 = 1 ∧ 0 ≤ a1 ∧ a1 ≤ 29) ∨ (a5 = 0 ∧ (a1 < 0 ∨ 29 < a1))) (h4 : a5 = 0 ∨ a5 = 1) (h5 : ¬ (a5 = 0)) (h6 : 0 ≤ a0 ∧ a0 ≤ 2 ∧ 0 ≤ a1 ∧ a1 ≤ 29 → a2 = 4 * (30 * a0 + a1)) (h7 : a3 = a7) (h8 : a3 = a6) (h9 : ¬ (a3 ≠ (1 : Int))) (r0 : -2147483648 ≤ a0 ∧ a0 < 2147483648) (r1 : -2147483648 ≤ a1 ∧ a1 < 2147483648) (r2 : -2147483648 ≤ a2 ∧ a2 < 2147483648) (r3 : -2147483648 ≤ a3 ∧ a3 < 2147483648) (r4 : -2147483648 ≤ a4 ∧ a4 < 2147483648) (r5 : -2147483648 ≤ a5 ∧ a5 < 2147483648) : (1 : Int) = 0 ∨ ((1 : Int) = 1 ∧ 0 ≤ a0 ∧ a0 ≤ 2 ∧ 0 ≤ a1 ∧ a1 ≤ 29 ∧ a6 = 1) := by first | (clear h1 h2 h4 h5 h7 h9; omega) | omega
abbrev rm_X11_isRow : Room := { frames := 2, cells := 0, slots := 0, locals := 45 }
set_option maxHeartbeats 4000000 in
set_option maxRecDepth 100000 in
theorem c_X11_isRow (l : Launch) (E : XE) (K : Nat → Nat) (F : Nat → Nat → Nat) (tl z0 z1 z2 z3 z4 z5 z6 z7 z8 z9 z10 z11 z12 z13 z14 z15 z16 z17 z18 z19 z20 : Int32) (ar0 ar1 ar2 ar3 ar4 ar5 ar6 ar7 ar8 ar9 ar10 : Nat → Int32) (h0 : Heap) (a : Nat) (p0 : Int32) (p1 : Int32) (ha : K a = 13) : Met l yX11_isRow (xw yX11_isRow cX11_isRow 3 (some .boolean)) rm_X11_isRow (va_Pc [.ref a, .int p0, .int p1] (XPh E K F (tl, [z0, z1, z2, z3, z4, z5, z6, z7, z8, z9, z10, z11, z12, z13, z14, z15, z16, z17, z18, z19, z20], [ar0, ar1, ar2, ar3, ar4, ar5, ar6, ar7, ar8, ar9, ar10]) h0)) (XQ E (fun v (u : Unit) => ∃ r : Int32, v = .int r ∧ (r = 0 ∨ r = 1) ∧ (r.toInt = 0 ∨ (r.toInt = 1 ∧ 0 ≤ p0.toInt ∧ p0.toInt ≤ 2 ∧ 0 ≤ p1.toInt ∧ p1.toInt ≤ 29 ∧ (aI ar0 (4 * (30 * p0.toInt + p1.toInt))) = 1))) (fun _ H => H = h0)) 0 0 (xA E) := by
  refine x_enter (by decide) (Nat.le_of_ble_eq_true rfl) ?_
  intro p e s m args below meth c Q S hr hlk hnm hQ hP ls hl
  obtain ⟨⟨hz, hK, hT⟩, hh⟩ := hP
  obtain ⟨hx, hb, -, -, -⟩ := id S
  have hS : va_S (xA E) s.heap s.heap [] := va_S.rf
  have hl : lv_has ls 3 [(0, .ref a), (1, .int p0), (2, .int p1)] := hl
  refine lv_iload_n hx hb dX11_isRow_0 rfl (lv_at hl 1 rfl) ?_
  refine x_clp (x_runS (As := [.int p0]) (rest := []) S (c_X11_isTable l E K F tl z0 z1 z2 z3 z4 z5 z6 z7 z8 z9 z10 z11 z12 z13 z14 z15 z16 z17 z18 z19 z20 ar0 ar1 ar2 ar3 ar4 ar5 ar6 ar7 ar8 ar9 ar10 s.heap p0) ms_X11_isTable km_X11_149 rfl rfl ⟨Nat.le_of_ble_eq_true rfl, Nat.le_of_ble_eq_true rfl⟩ hK (fun _ => XPh.blind) (fun U hU hW => XPh.at hK hz hS hT hU hW) rfl hl.1 (Nat.le_of_ble_eq_true rfl) dX11_isRow_1 ⟨Nat.le_of_ble_eq_true rfl, Nat.le_of_ble_eq_true rfl⟩) hS ?_
  rintro _ _ locs ⟨x2, rfl, b3, t1⟩ hS
  have t1 : (x2.toInt = 1 ∧ 0 ≤ p0.toInt ∧ p0.toInt ≤ 2) ∨ (x2.toInt = 0 ∧ (p0.toInt < 0 ∨ 2 < p0.toInt)) := t1
  refine xi_zeq (tgt := 32) hx hb (rfl : Int32.toInt x2 = x2.toInt) dX11_isRow_4 (by decide) (fun c4 => ?_) (fun c4 => ?_)
  · refine lv_iconst (v := 0) hx hb dX11_isRow_32 (by decide) ?_
    exact x_rz hx hb hr (xnz (Or.inl rfl)) hlk hQ (Nat.le_of_ble_eq_true rfl) (Nat.le_of_ble_eq_true rfl) hS dX11_isRow_33 () ⟨_, rfl, (Or.inl rfl), (z_X11_isRow_1 p0.toInt p1.toInt x2.toInt (aI ar0 (4 * (30 * p0.toInt + p1.toInt))) t1 (xbz b3) c4 (xr p0) (xr p1) (xr x2))⟩ hh
  · refine lv_iload_n hx hb dX11_isRow_7 rfl (lv_at hl 2 rfl) ?_
    refine x_clp (x_runS (As := [.int p1]) (rest := []) S (c_X11_isKey l E K F tl z0 z1 z2 z3 z4 z5 z6 z7 z8 z9 z10 z11 z12 z13 z14 z15 z16 z17 z18 z19 z20 ar0 ar1 ar2 ar3 ar4 ar5 ar6 ar7 ar8 ar9 ar10 s.heap p1) ms_X11_isKey km_X11_153 rfl rfl ⟨Nat.le_of_ble_eq_true rfl, Nat.le_of_ble_eq_true rfl⟩ hK (fun _ => XPh.blind) (fun U hU hW => XPh.at hK hz hS hT hU hW) rfl hl.1 (Nat.le_of_ble_eq_true rfl) dX11_isRow_8 ⟨Nat.le_of_ble_eq_true rfl, Nat.le_of_ble_eq_true rfl⟩) hS ?_
    rintro _ _ locs ⟨x6, rfl, b7, t5⟩ hS
    have t5 : (x6.toInt = 1 ∧ 0 ≤ p1.toInt ∧ p1.toInt ≤ 29) ∨ (x6.toInt = 0 ∧ (p1.toInt < 0 ∨ 29 < p1.toInt)) := t5
    refine xi_zeq (tgt := 32) hx hb (rfl : Int32.toInt x6 = x6.toInt) dX11_isRow_11 (by decide) (fun c8 => ?_) (fun c8 => ?_)
    · refine lv_iconst (v := 0) hx hb dX11_isRow_32 (by decide) ?_
      exact x_rz hx hb hr (xnz (Or.inl rfl)) hlk hQ (Nat.le_of_ble_eq_true rfl) (Nat.le_of_ble_eq_true rfl) hS dX11_isRow_33 () ⟨_, rfl, (Or.inl rfl), (z_X11_isRow_2 p0.toInt p1.toInt x2.toInt x6.toInt (aI ar0 (4 * (30 * p0.toInt + p1.toInt))) t1 (xbz b3) c4 t5 (xbz b7) c8 (xr p0) (xr p1) (xr x2) (xr x6))⟩ hh
    · refine lv_aload_n hx hb dX11_isRow_14 rfl (lv_at hl 0 rfl) ?_
      refine gX11_1 S hK hT ha kf_X11_9 dX11_isRow_15 (fun hk9 => ?_)
      refine lv_iload_n hx hb dX11_isRow_18 rfl (lv_at hl 1 rfl) ?_
      refine lv_iload_n hx hb dX11_isRow_19 rfl (lv_at hl 2 rfl) ?_
      refine x_clp (x_runS (As := [.int p0, .int p1]) (rest := [.ref (F a 1)]) S (c_X11_at l E K F tl z0 z1 z2 z3 z4 z5 z6 z7 z8 z9 z10 z11 z12 z13 z14 z15 z16 z17 z18 z19 z20 ar0 ar1 ar2 ar3 ar4 ar5 ar6 ar7 ar8 ar9 ar10 s.heap p0 p1) ms_X11_at km_X11_156 rfl rfl ⟨Nat.le_of_ble_eq_true rfl, Nat.le_of_ble_eq_true rfl⟩ hK (fun _ => XPh.blind) (fun U hU hW => XPh.at hK hz hS hT hU hW) rfl hl.1 (Nat.le_of_ble_eq_true rfl) dX11_isRow_20 ⟨Nat.le_of_ble_eq_true rfl, Nat.le_of_ble_eq_true rfl⟩) hS ?_
      rintro _ _ locs ⟨x11, rfl, t10⟩ hS
      have t10 : 0 ≤ p0.toInt ∧ p0.toInt ≤ 2 ∧ 0 ≤ p1.toInt ∧ p1.toInt ≤ 29 → x11.toInt = 4 * (30 * p0.toInt + p1.toInt) := t10
      refine tld_0 S hK hT hk9 (at_30 (f := ar0) rfl) (by decide) (z_X11_isRow_3 p0.toInt p1.toInt x11.toInt x2.toInt x6.toInt t1 (xbz b3) c4 t5 (xbz b7) c8 t10 (xr p0) (xr p1) (xr x11) (xr x2) (xr x6)) dX11_isRow_23 (fun x13 w14 o15 => ?_)
      have w16 : x13.toInt = aI ar0 (4 * (30 * p0.toInt + p1.toInt)) := by rw [w14]; exact congrArg (aI ar0) (z_X11_isRow_4 p0.toInt p1.toInt x11.toInt x2.toInt x6.toInt t1 (xbz b3) c4 t5 (xbz b7) c8 t10 (xr p0) (xr p1) (xr x11) (xr x2) (xr x6))
      refine lv_iconst (v := 1) hx hb dX11_isRow_24 (by decide) ?_
      refine xi_cne (tgt := 32) hx hb (rfl : Int32.toInt x13 = x13.toInt) ((by decide) : Int32.toInt 1 = (1 : Int)) dX11_isRow_25 (by decide) (fun c17 => ?_) (fun c17 => ?_)
      · refine lv_iconst (v := 0) hx hb dX11_isRow_32 (by decide) ?_
        exact x_rz hx hb hr (xnz (Or.inl rfl)) hlk hQ (Nat.le_of_ble_eq_true rfl) (Nat.le_of_ble_eq_true rfl) hS dX11_isRow_33 () ⟨_, rfl, (Or.inl rfl), (z_X11_isRow_5 p0.toInt p1.toInt x11.toInt x13.toInt x2.toInt x6.toInt (aI ar0 (4 * (30 * p0.toInt + p1.toInt))) (aI ar0 x11.toInt) t1 (xbz b3) c4 t5 (xbz b7) c8 t10 w14 w16 c17 (xr p0) (xr p1) (xr x11) (xr x13) (xr x2) (xr x6))⟩ hh
      · refine lv_iconst (v := 1) hx hb dX11_isRow_28 (by decide) ?_
        refine lv_goto (tgt := 33) hx hb dX11_isRow_29 (by decide) ?_
        exact x_rz hx hb hr (xnz (Or.inr rfl)) hlk hQ (Nat.le_of_ble_eq_true rfl) (Nat.le_of_ble_eq_true rfl) hS dX11_isRow_33 () ⟨_, rfl, (Or.inr rfl), (z_X11_isRow_6 p0.toInt p1.toInt x11.toInt x13.toInt x2.toInt x6.toInt (aI ar0 (4 * (30 * p0.toInt + p1.toInt))) (aI ar0 x11.toInt) t1 (xbz b3) c4 t5 (xbz b7) c8 t10 w14 w16 c17 (xr p0) (xr p1) (xr x11) (xr x13) (xr x2) (xr x6))⟩ hh

theorem z_X11_rowMany_1 (a0 : Int) (h0 : (0 : Int) ≤ a0) (r0 : -2147483648 ≤ a0 ∧ a0 < 2147483648) : ¬ (2147483648 - a0 < ((0 : Nat) : Int)) := by omega
theorem z_X11_rowMany_2 (a0 : Int) (a1 : Nat) (h0 : (0 : Int) ≤ a0) (h1 : 2147483648 - a0 < ((a1 + 1 : Nat) : Int)) (h2 : ¬ ((360 : Int) ≤ a0)) (r0 : -2147483648 ≤ a0 ∧ a0 < 2147483648) : 0 ≤ a0 ∧ a0 < ((360 : Nat) : Int) := by omega
theorem z_X11_rowMany_3 (a0 : Int) (a1 : Int) (a2 : Nat) (h0 : (0 : Int) ≤ a1) (h1 : 2147483648 - a1 < ((a2 + 1 : Nat) : Int)) (h2 : ¬ ((360 : Int) ≤ a1)) (h3 : a0 = a1 + 4 ∨ a1 + 4 < -2147483648 ∨ 2147483648 ≤ a1 + 4) (r0 : -2147483648 ≤ a0 ∧ a0 < 2147483648) (r1 : -2147483648 ≤ a1 ∧ a1 < 2147483648) : (0 : Int) ≤ a0 := by first | (clear h0 h1 h2; omega) | omega
theorem z_X11_rowMany_4 (a0 : Int) (a1 : Int) (a2 : Nat) (h0 : (0 : Int) ≤ a1) (h1 : 2147483648 - a1 < ((a2 + 1 : Nat) : Int)) (h2 : ¬ ((360 : Int) ≤ a1)) (h3 : a0 = a1 + 4 ∨ a1 + 4 < -2147483648 ∨ 2147483648 ≤ a1 + 4) (r0 : -2147483648 ≤ a0 ∧ a0 < 2147483648) (r1 : -2147483648 ≤ a1 ∧ a1 < 2147483648) : 2147483648 - a0 < ((a2 : Nat) : Int) := by first | (clear h0 h2; omega) | omega
abbrev rm_X11_rowMany : Room := { frames := 0, cells := 0, slots := 0, locals := 0 }
set_option maxHeartbeats 4000000 in
set_option maxRecDepth 100000 in
theorem c_X11_rowMany (l : Launch) (E : XE) (K : Nat → Nat) (F : Nat → Nat → Nat) (tl z0 z1 z2 z3 z4 z5 z6 z7 z8 z9 z10 z11 z12 z13 z14 z15 z16 z17 z18 z19 z20 : Int32) (ar0 ar1 ar2 ar3 ar4 ar5 ar6 ar7 ar8 ar9 ar10 : Nat → Int32) (h0 : Heap) (a : Nat) (ha : K a = 13) : Met l yX11_rowMany (xw yX11_rowMany cX11_rowMany 3 (some .int)) rm_X11_rowMany (va_Pc [.ref a] (XPh E K F (tl, [z0, z1, z2, z3, z4, z5, z6, z7, z8, z9, z10, z11, z12, z13, z14, z15, z16, z17, z18, z19, z20], [ar0, ar1, ar2, ar3, ar4, ar5, ar6, ar7, ar8, ar9, ar10]) h0)) (XQ E (fun v (u : Unit) => ∃ r : Int32, v = .int r) (fun _ H => H = h0)) 0 0 (xA E) := by
  refine x_enter (by decide) (Nat.le_of_ble_eq_true rfl) ?_
  intro p e s m args below meth c Q S hr hlk hnm hQ hP ls hl
  obtain ⟨⟨hz, hK, hT⟩, hh⟩ := hP
  obtain ⟨hx, hb, -, -, -⟩ := id S
  have hS : va_S (xA E) s.heap s.heap [] := va_S.rf
  have hl : lv_has ls 3 [(0, .ref a)] := hl
  refine lv_iconst (v := 0) hx hb dX11_rowMany_0 (by decide) ?_
  refine lv_istore_n (lv' := [(1, .int 0), (0, .ref a)]) hx hb dX11_rowMany_1 rfl hl (by decide) rfl (fun ls hl => ?_)
  refine lv_iconst (v := 0) hx hb dX11_rowMany_2 (by decide) ?_
  refine lv_istore_n (lv' := [(2, .int 0), (1, .int 0), (0, .ref a)]) hx hb dX11_rowMany_3 rfl hl (by decide) rfl (fun ls hl => ?_)
  have L4 : ∀ (N3 : Nat) (x1 : Int32) (x2 : Int32) (locs : List Loc) (ls : Array Slot), (0 : Int) ≤ x2.toInt → 2147483648 - x2.toInt < ((N3 : Nat) : Int) → TW E K F (tl, [z0, z1, z2, z3, z4, z5, z6, z7, z8, z9, z10, z11, z12, z13, z14, z15, z16, z17, z18, z19, z20], [ar0, ar1, ar2, ar3, ar4, ar5, ar6, ar7, ar8, ar9, ar10]) [] s.heap → va_S (xA E) s.heap s.heap locs → lv_has ls 3 [(0, .ref a), (1, .int x1), (2, .int x2)] → W p l e rm_X11_rowMany s m args below meth c s.heap locs 0 0 Q (F0 m 4 ls []) := by
    intro N3
    induction N3 with
    | zero =>
      intro x1 x2 locs ls hf4 hm5
      exact absurd hm5 (z_X11_rowMany_1 x2.toInt hf4 (xr x2))
    | succ N3 ih6 =>
      intro x1 x2 locs ls hf4 hm5 hT hS hl
      refine lv_iload_n hx hb dX11_rowMany_4 rfl (lv_at hl 2 rfl) ?_
      refine lv_sipush (v := 360) hx hb dX11_rowMany_5 (by decide) ?_
      refine xi_cge (tgt := 26) hx hb (rfl : Int32.toInt x2 = x2.toInt) ((by decide) : Int32.toInt 360 = (360 : Int)) dX11_rowMany_8 (by decide) (fun c7 => ?_) (fun c7 => ?_)
      · refine lv_iload_n hx hb dX11_rowMany_26 rfl (lv_at hl 1 rfl) ?_
        exact x_ri hx hb hr hlk hQ (Nat.le_of_ble_eq_true rfl) (Nat.le_of_ble_eq_true rfl) hS dX11_rowMany_27 () ⟨_, rfl⟩ hh
      · refine lv_iload_n hx hb dX11_rowMany_11 rfl (lv_at hl 1 rfl) ?_
        refine lv_aload_n hx hb dX11_rowMany_12 rfl (lv_at hl 0 rfl) ?_
        refine gX11_1 S hK hT ha kf_X11_9 dX11_rowMany_13 (fun hk8 => ?_)
        refine lv_iload_n hx hb dX11_rowMany_16 rfl (lv_at hl 2 rfl) ?_
        refine tld_0 S hK hT hk8 (at_30 (f := ar0) rfl) (by decide) (z_X11_rowMany_2 x2.toInt N3 hf4 hm5 c7 (xr x2)) dX11_rowMany_17 (fun x9 w10 o11 => ?_)
        refine xi_iadd hx hb (rfl : Int32.toInt x1 = x1.toInt) (rfl : Int32.toInt x9 = x9.toInt) dX11_rowMany_18 (fun x13 t14 => ?_)
        refine lv_istore_n (lv' := [(1, .int x13), (0, .ref a), (2, .int x2)]) hx hb dX11_rowMany_19 rfl hl (by decide) rfl (fun ls hl => ?_)
        refine xi_iinc (n := 4) (lv' := fun z9 => [(2, .int z9), (1, .int x13), (0, .ref a)]) (k := 2) hx hb (rfl : Int32.toInt x2 = x2.toInt) (by decide) dX11_rowMany_20 hl rfl (by decide) (fun _ => rfl) (fun x15 ls t16 hl => ?_)
        have hl : lv_has ls 3 [(2, .int x15), (1, .int x13), (0, .ref a)] := hl
        refine lv_goto (tgt := 4) hx hb dX11_rowMany_23 (by decide) ?_
        exact ih6 x13 x15 _ _ (z_X11_rowMany_3 x15.toInt x2.toInt N3 hf4 hm5 c7 t16 (xr x15) (xr x2)) (z_X11_rowMany_4 x15.toInt x2.toInt N3 hf4 hm5 c7 t16 (xr x15) (xr x2)) hT.nil hS (lv_sub hl [2, 1, 0] rfl)
  exact L4 4294967297 0 0 _ _ (by decide) (by decide) hT.nil hS (lv_sub hl [2, 1, 0] rfl)

theorem z_X11_isRule_1 (a0 : Int) (a1 : Int) (a2 : Int) (h0 : (a1 = 1 ∧ (0 : Int) ≤ a0 ∧ a0 ≤ (11 : Int)) ∨ (a1 = 0 ∧ (a0 < (0 : Int) ∨ (11 : Int) < a0))) (h1 : a1 = 0) (r0 : -2147483648 ≤ a0 ∧ a0 < 2147483648) (r1 : -2147483648 ≤ a1 ∧ a1 < 2147483648) : (0 : Int) = 0 ∨ ((0 : Int) = 1 ∧ 0 ≤ a0 ∧ a0 ≤ 11 ∧ 0 ≤ a2) := by omega
theorem z_X11_isRule_2 (a0 : Int) (a1 : Int) (a2 : Int) (h0 : (a1 = 1 ∧ (0 : Int) ≤ a0 ∧ a0 ≤ (11 : Int)) ∨ (a1 = 0 ∧ (a0 < (0 : Int) ∨ (11 : Int) < a0))) (h1 : ¬ (a1 = 0)) (h2 : a2 = (10 : Int) * a0 ∨ (10 : Int) * a0 < -2147483648 ∨ 2147483648 ≤ (10 : Int) * a0) (r0 : -2147483648 ≤ a0 ∧ a0 < 2147483648) (r1 : -2147483648 ≤ a1 ∧ a1 < 2147483648) (r2 : -2147483648 ≤ a2 ∧ a2 < 2147483648) : 0 ≤ a2 ∧ a2 < ((120 : Nat) : Int) := by omega
theorem z_X11_isRule_3 (a0 : Int) (a1 : Int) (a2 : Int) (h0 : (a1 = 1 ∧ (0 : Int) ≤ a0 ∧ a0 ≤ (11 : Int)) ∨ (a1 = 0 ∧ (a0 < (0 : Int) ∨ (11 : Int) < a0))) (h1 : ¬ (a1 = 0)) (h2 : a2 = (10 : Int) * a0 ∨ (10 : Int) * a0 < -2147483648 ∨ 2147483648 ≤ (10 : Int) * a0) (r0 : -2147483648 ≤ a0 ∧ a0 < 2147483648) (r1 : -2147483648 ≤ a1 ∧ a1 < 2147483648) (r2 : -2147483648 ≤ a2 ∧ a2 < 2147483648) : a2 = 10 * a0 + (0 : Int) := by omega
theorem z_X11_isRule_4 (a0 : Int) (a1 : Int) (a2 : Int) (h0 : (a1 = 1 ∧ (0 : Int) ≤ a0 ∧ a0 ≤ (11 : Int)) ∨ (a1 = 0 ∧ (a0 < (0 : Int) ∨ (11 : Int) < a0))) (h1 : ¬ (a1 = 0)) (h2 : a2 = (10 : Int) * a0 ∨ (10 : Int) * a0 < -2147483648 ∨ 2147483648 ≤ (10 : Int) * a0) (r0 : -2147483648 ≤ a0 ∧ a0 < 2147483648) (r1 : -2147483648 ≤ a1 ∧ a1 < 2147483648) (r2 : -2147483648 ≤ a2 ∧ a2 < 2147483648) : 0 ≤ a0 ∧ a0 ≤ 11 := by omega
theorem z_X11_isRule_5 (a0 : Int) (a1 : Int) (a2 : Int) (a3 : Int) (a4 : Int) (a5 : Int) (a6 : Int) (a7 : Int) (a8 : Int) (h0 : (a1 = 1 ∧ (0 : Int) ≤ a0 ∧ a0 ≤ (11 : Int)) ∨ (a1 = 0 ∧ (a0 < (0 : Int) ∨ (11 : Int) < a0))) (h1 : ¬ (a1 = 0)) (h2 : a2 = (10 : Int) * a0 ∨ (10 : Int) * a0 < -2147483648 ∨ 2147483648 ≤ (10 : Int) * a0) (h3 : a3 = a8) (h4 : a3 = a4) (h5 : (-1 ≤ a4 ∧ a4 ≤ 5) ∧ (0 ≤ a5 ∧ a5 ≤ 2) ∧ (0 ≤ a6 ∧ a6 ≤ 2) ∧ (-1 ≤ a7 ∧ a7 ≤ 2) ∧ (a4 = 1 ∨ a4 = 3 ∨ a4 = 4 → 0 ≤ a7)) (h6 : a3 = (-1 : Int)) (r0 : -2147483648 ≤ a0 ∧ a0 < 2147483648) (r1 : -2147483648 ≤ a1 ∧ a1 < 2147483648) (r2 : -2147483648 ≤ a2 ∧ a2 < 2147483648) (r3 : -2147483648 ≤ a3 ∧ a3 < 2147483648) : (0 : Int) = 0 ∨ ((0 : Int) = 1 ∧ 0 ≤ a0 ∧ a0 ≤ 11 ∧ 0 ≤ a4) := by first | (clear h1 h3 h6; omega) | omega
theorem z_X11_isRule_6 (a0 : Int) (a1 : Int) (a2 : Int) (a3 : Int) (a4 : Int) (a5 : Int) (a6 : Int) (a7 : Int) (a8 : Int) (h0 : (a1 = 1 ∧ (0 : Int) ≤ a0 ∧ a0 ≤ (11 : Int)) ∨ (a1 = 0 ∧ (a0 < (0 : Int) ∨ (11 : Int) < a0))) (h1 : ¬ (a1 = 0)) (h2 : a2 = (10 : Int) * a0 ∨ (10 : Int) * a0 < -2147483648 ∨ 2147483648 ≤ (10 : Int) * a0) (h3 : a3 = a8) (h4 : a3 = a4) (h5 : (-1 ≤ a4 ∧ a4 ≤ 5) ∧ (0 ≤ a5 ∧ a5 ≤ 2) ∧ (0 ≤ a6 ∧ a6 ≤ 2) ∧ (-1 ≤ a7 ∧ a7 ≤ 2) ∧ (a4 = 1 ∨ a4 = 3 ∨ a4 = 4 → 0 ≤ a7)) (h6 : ¬ (a3 = (-1 : Int))) (r0 : -2147483648 ≤ a0 ∧ a0 < 2147483648) (r1 : -2147483648 ≤ a1 ∧ a1 < 2147483648) (r2 : -2147483648 ≤ a2 ∧ a2 < 2147483648) (r3 : -2147483648 ≤ a3 ∧ a3 < 2147483648) : (1 : Int) = 0 ∨ ((1 : Int) = 1 ∧ 0 ≤ a0 ∧ a0 ≤ 11 ∧ 0 ≤ a4) := by first | (clear h1 h3 h6; omega) | omega
abbrev rm_X11_isRule : Room := { frames := 1, cells := 0, slots := 0, locals := 25 }
set_option maxHeartbeats 4000000 in
set_option maxRecDepth 100000 in
theorem c_X11_isRule (l : Launch) (E : XE) (K : Nat → Nat) (F : Nat → Nat → Nat) (tl z0 z1 z2 z3 z4 z5 z6 z7 z8 z9 z10 z11 z12 z13 z14 z15 z16 z17 z18 z19 z20 : Int32) (ar0 ar1 ar2 ar3 ar4 ar5 ar6 ar7 ar8 ar9 ar10 : Nat → Int32) (h0 : Heap) (a : Nat) (p0 : Int32) (ha : K a = 13) (hR : RV ar1) : Met l yX11_isRule (xw yX11_isRule cX11_isRule 2 (some .boolean)) rm_X11_isRule (va_Pc [.ref a, .int p0] (XPh E K F (tl, [z0, z1, z2, z3, z4, z5, z6, z7, z8, z9, z10, z11, z12, z13, z14, z15, z16, z17, z18, z19, z20], [ar0, ar1, ar2, ar3, ar4, ar5, ar6, ar7, ar8, ar9, ar10]) h0)) (XQ E (fun v (u : Unit) => ∃ r : Int32, v = .int r ∧ (r = 0 ∨ r = 1) ∧ (r.toInt = 0 ∨ (r.toInt = 1 ∧ 0 ≤ p0.toInt ∧ p0.toInt ≤ 11 ∧ 0 ≤ (aI ar1 (10 * p0.toInt + (0 : Int)))))) (fun _ H => H = h0)) 0 0 (xA E) := by
  refine x_enter (by decide) (Nat.le_of_ble_eq_true rfl) ?_
  intro p e s m args below meth c Q S hr hlk hnm hQ hP ls hl
  obtain ⟨⟨hz, hK, hT⟩, hh⟩ := hP
  obtain ⟨hx, hb, -, -, -⟩ := id S
  have hS : va_S (xA E) s.heap s.heap [] := va_S.rf
  have hl : lv_has ls 2 [(0, .ref a), (1, .int p0)] := hl
  refine lv_iload_n hx hb dX11_isRule_0 rfl (lv_at hl 1 rfl) ?_
  refine lv_i2l (v := p0.toInt64) hx hb dX11_isRule_1 rfl ?_
  refine lv_lconst (v := (0 : Int64)) hx hb dX11_isRule_2 (by decide) ?_
  refine lv_ldc2 (v := 11) hx hb S.2.2.2.1 (S.2.2.2.2 _ (List.mem_cons_of_mem _ kc_X11_160)) dX11_isRule_3 ?_
  refine x_clp (x_runS (As := [.long p0.toInt64, .long (0 : Int64), .long (11 : Int64)]) (rest := []) S (c_X11_in l E K F tl z0 z1 z2 z3 z4 z5 z6 z7 z8 z9 z10 z11 z12 z13 z14 z15 z16 z17 z18 z19 z20 ar0 ar1 ar2 ar3 ar4 ar5 ar6 ar7 ar8 ar9 ar10 s.heap p0.toInt64 (0 : Int64) (11 : Int64) p0.toInt (0 : Int) (11 : Int) (xl_i2l (rfl : Int32.toInt p0 = p0.toInt)) (by decide) (by decide)) ms_X11_in km_X11_139 rfl rfl ⟨Nat.le_of_ble_eq_true rfl, Nat.le_of_ble_eq_true rfl⟩ hK (fun _ => XPh.blind) (fun U hU hW => XPh.at hK hz hS hT hU hW) rfl hl.1 (Nat.le_of_ble_eq_true rfl) dX11_isRule_6 ⟨Nat.le_of_ble_eq_true rfl, Nat.le_of_ble_eq_true rfl⟩) hS ?_
  rintro _ _ locs ⟨x1, rfl, b2, t3⟩ hS
  have t3 : (x1.toInt = 1 ∧ (0 : Int) ≤ p0.toInt ∧ p0.toInt ≤ (11 : Int)) ∨ (x1.toInt = 0 ∧ (p0.toInt < (0 : Int) ∨ (11 : Int) < p0.toInt)) := t3
  refine xi_zeq (tgt := 29) hx hb (rfl : Int32.toInt x1 = x1.toInt) dX11_isRule_9 (by decide) (fun c4 => ?_) (fun c4 => ?_)
  · refine lv_iconst (v := 0) hx hb dX11_isRule_29 (by decide) ?_
    exact x_rz hx hb hr (xnz (Or.inl rfl)) hlk hQ (Nat.le_of_ble_eq_true rfl) (Nat.le_of_ble_eq_true rfl) hS dX11_isRule_30 () ⟨_, rfl, (Or.inl rfl), (z_X11_isRule_1 p0.toInt x1.toInt (aI ar1 (10 * p0.toInt + (0 : Int))) t3 c4 (xr p0) (xr x1))⟩ hh
  · refine lv_aload_n hx hb dX11_isRule_12 rfl (lv_at hl 0 rfl) ?_
    refine gX11_10 S hK hT ha kf_X11_33 dX11_isRule_13 (fun hk5 => ?_)
    refine lv_bipush (v := 10) hx hb dX11_isRule_16 (by decide) ?_
    refine lv_iload_n hx hb dX11_isRule_18 rfl (lv_at hl 1 rfl) ?_
    refine xi_imul hx hb ((by decide) : Int32.toInt 10 = (10 : Int)) (rfl : Int32.toInt p0 = p0.toInt) dX11_isRule_19 (fun x6 t7 => ?_)
    refine tld_0 S hK hT hk5 (at_37 (f := ar1) rfl) (by decide) (z_X11_isRule_2 p0.toInt x1.toInt x6.toInt t3 c4 t7 (xr p0) (xr x1) (xr x6)) dX11_isRule_20 (fun x8 w9 o10 => ?_)
    have w11 : x8.toInt = aI ar1 (10 * p0.toInt + (0 : Int)) := by rw [w9]; exact congrArg (aI ar1) (z_X11_isRule_3 p0.toInt x1.toInt x6.toInt t3 c4 t7 (xr p0) (xr x1) (xr x6))
    have v12 : (-1 ≤ (aI ar1 (10 * p0.toInt + (0 : Int))) ∧ (aI ar1 (10 * p0.toInt + (0 : Int))) ≤ 5) ∧ (0 ≤ (aI ar1 (10 * p0.toInt + (1 : Int))) ∧ (aI ar1 (10 * p0.toInt + (1 : Int))) ≤ 2) ∧ (0 ≤ (aI ar1 (10 * p0.toInt + (2 : Int))) ∧ (aI ar1 (10 * p0.toInt + (2 : Int))) ≤ 2) ∧ (-1 ≤ (aI ar1 (10 * p0.toInt + (3 : Int))) ∧ (aI ar1 (10 * p0.toInt + (3 : Int))) ≤ 2) ∧ ((aI ar1 (10 * p0.toInt + (0 : Int))) = 1 ∨ (aI ar1 (10 * p0.toInt + (0 : Int))) = 3 ∨ (aI ar1 (10 * p0.toInt + (0 : Int))) = 4 → 0 ≤ (aI ar1 (10 * p0.toInt + (3 : Int)))) := RV.row hR (z_X11_isRule_4 p0.toInt x1.toInt x6.toInt t3 c4 t7 (xr p0) (xr x1) (xr x6))
    refine lv_iconst (v := (-1)) hx hb dX11_isRule_21 (by decide) ?_
    refine xi_ceq (tgt := 29) hx hb (rfl : Int32.toInt x8 = x8.toInt) ((by decide) : Int32.toInt (-1) = (-1 : Int)) dX11_isRule_22 (by decide) (fun c13 => ?_) (fun c13 => ?_)
    · refine lv_iconst (v := 0) hx hb dX11_isRule_29 (by decide) ?_
      exact x_rz hx hb hr (xnz (Or.inl rfl)) hlk hQ (Nat.le_of_ble_eq_true rfl) (Nat.le_of_ble_eq_true rfl) hS dX11_isRule_30 () ⟨_, rfl, (Or.inl rfl), (z_X11_isRule_5 p0.toInt x1.toInt x6.toInt x8.toInt (aI ar1 (10 * p0.toInt + (0 : Int))) (aI ar1 (10 * p0.toInt + (1 : Int))) (aI ar1 (10 * p0.toInt + (2 : Int))) (aI ar1 (10 * p0.toInt + (3 : Int))) (aI ar1 x6.toInt) t3 c4 t7 w9 w11 v12 c13 (xr p0) (xr x1) (xr x6) (xr x8))⟩ hh
    · refine lv_iconst (v := 1) hx hb dX11_isRule_25 (by decide) ?_
      refine lv_goto (tgt := 30) hx hb dX11_isRule_26 (by decide) ?_
      exact x_rz hx hb hr (xnz (Or.inr rfl)) hlk hQ (Nat.le_of_ble_eq_true rfl) (Nat.le_of_ble_eq_true rfl) hS dX11_isRule_30 () ⟨_, rfl, (Or.inr rfl), (z_X11_isRule_6 p0.toInt x1.toInt x6.toInt x8.toInt (aI ar1 (10 * p0.toInt + (0 : Int))) (aI ar1 (10 * p0.toInt + (1 : Int))) (aI ar1 (10 * p0.toInt + (2 : Int))) (aI ar1 (10 * p0.toInt + (3 : Int))) (aI ar1 x6.toInt) t3 c4 t7 w9 w11 v12 c13 (xr p0) (xr x1) (xr x6) (xr x8))⟩ hh

theorem z_X11_of_1 (a0 : Int) (a1 : Int) (a2 : Int) (a3 : Int) (h0 : 0 ≤ a0 ∧ a0 ≤ 11) (h1 : 0 ≤ a1 ∧ a1 ≤ 9) (h2 : a2 = (10 : Int) * a0 ∨ (10 : Int) * a0 < -2147483648 ∨ 2147483648 ≤ (10 : Int) * a0) (h3 : a3 = a2 + a1 ∨ a2 + a1 < -2147483648 ∨ 2147483648 ≤ a2 + a1) (r0 : -2147483648 ≤ a0 ∧ a0 < 2147483648) (r1 : -2147483648 ≤ a1 ∧ a1 < 2147483648) (r2 : -2147483648 ≤ a2 ∧ a2 < 2147483648) (r3 : -2147483648 ≤ a3 ∧ a3 < 2147483648) : 0 ≤ a3 ∧ a3 < ((120 : Nat) : Int) := by first | (clear h0 h1 h2; omega) | (clear h0; omega) | omega
theorem z_X11_of_2 (a0 : Int) (a1 : Int) (a2 : Int) (a3 : Int) (h0 : 0 ≤ a0 ∧ a0 ≤ 11) (h1 : 0 ≤ a1 ∧ a1 ≤ 9) (h2 : a2 = (10 : Int) * a0 ∨ (10 : Int) * a0 < -2147483648 ∨ 2147483648 ≤ (10 : Int) * a0) (h3 : a3 = a2 + a1 ∨ a2 + a1 < -2147483648 ∨ 2147483648 ≤ a2 + a1) (r0 : -2147483648 ≤ a0 ∧ a0 < 2147483648) (r1 : -2147483648 ≤ a1 ∧ a1 < 2147483648) (r2 : -2147483648 ≤ a2 ∧ a2 < 2147483648) (r3 : -2147483648 ≤ a3 ∧ a3 < 2147483648) : a3 = 10 * a0 + a1 := by omega
theorem z_X11_of_3 (a0 : Int) (a1 : Int) (a2 : Int) (h0 : a0 = a2) (h1 : a0 = a1) (r0 : -2147483648 ≤ a0 ∧ a0 < 2147483648) : a0 = a1 := by omega
abbrev rm_X11_of : Room := { frames := 0, cells := 0, slots := 0, locals := 0 }
set_option maxHeartbeats 4000000 in
set_option maxRecDepth 100000 in
theorem c_X11_of (l : Launch) (E : XE) (K : Nat → Nat) (F : Nat → Nat → Nat) (tl z0 z1 z2 z3 z4 z5 z6 z7 z8 z9 z10 z11 z12 z13 z14 z15 z16 z17 z18 z19 z20 : Int32) (ar0 ar1 ar2 ar3 ar4 ar5 ar6 ar7 ar8 ar9 ar10 : Nat → Int32) (h0 : Heap) (a : Nat) (p0 : Int32) (p1 : Int32) (ha : K a = 13) (e0 : 0 ≤ p0.toInt ∧ p0.toInt ≤ 11) (e1 : 0 ≤ p1.toInt ∧ p1.toInt ≤ 9) : Met l yX11_of (xw yX11_of cX11_of 3 (some .int)) rm_X11_of (va_Pc [.ref a, .int p0, .int p1] (XPh E K F (tl, [z0, z1, z2, z3, z4, z5, z6, z7, z8, z9, z10, z11, z12, z13, z14, z15, z16, z17, z18, z19, z20], [ar0, ar1, ar2, ar3, ar4, ar5, ar6, ar7, ar8, ar9, ar10]) h0)) (XQ E (fun v (u : Unit) => ∃ r : Int32, v = .int r ∧ (r.toInt = (aI ar1 (10 * p0.toInt + p1.toInt)))) (fun _ H => H = h0)) 0 0 (xA E) := by
  refine x_enter (by decide) (Nat.le_of_ble_eq_true rfl) ?_
  intro p e s m args below meth c Q S hr hlk hnm hQ hP ls hl
  obtain ⟨⟨hz, hK, hT⟩, hh⟩ := hP
  obtain ⟨hx, hb, -, -, -⟩ := id S
  have hS : va_S (xA E) s.heap s.heap [] := va_S.rf
  have hl : lv_has ls 3 [(0, .ref a), (1, .int p0), (2, .int p1)] := hl
  refine lv_aload_n hx hb dX11_of_0 rfl (lv_at hl 0 rfl) ?_
  refine gX11_10 S hK hT ha kf_X11_33 dX11_of_1 (fun hk1 => ?_)
  refine lv_bipush (v := 10) hx hb dX11_of_4 (by decide) ?_
  refine lv_iload_n hx hb dX11_of_6 rfl (lv_at hl 1 rfl) ?_
  refine xi_imul hx hb ((by decide) : Int32.toInt 10 = (10 : Int)) (rfl : Int32.toInt p0 = p0.toInt) dX11_of_7 (fun x2 t3 => ?_)
  refine lv_iload_n hx hb dX11_of_8 rfl (lv_at hl 2 rfl) ?_
  refine xi_iadd hx hb (rfl : Int32.toInt x2 = x2.toInt) (rfl : Int32.toInt p1 = p1.toInt) dX11_of_9 (fun x4 t5 => ?_)
  refine tld_0 S hK hT hk1 (at_37 (f := ar1) rfl) (by decide) (z_X11_of_1 p0.toInt p1.toInt x2.toInt x4.toInt e0 e1 t3 t5 (xr p0) (xr p1) (xr x2) (xr x4)) dX11_of_10 (fun x6 w7 o8 => ?_)
  have w9 : x6.toInt = aI ar1 (10 * p0.toInt + p1.toInt) := by rw [w7]; exact congrArg (aI ar1) (z_X11_of_2 p0.toInt p1.toInt x2.toInt x4.toInt e0 e1 t3 t5 (xr p0) (xr p1) (xr x2) (xr x4))
  exact x_ri hx hb hr hlk hQ (Nat.le_of_ble_eq_true rfl) (Nat.le_of_ble_eq_true rfl) hS dX11_of_11 () ⟨_, rfl, (z_X11_of_3 x6.toInt (aI ar1 (10 * p0.toInt + p1.toInt)) (aI ar1 x4.toInt) w7 w9 (xr x6))⟩ hh

theorem z_X11_ruleMany_1 (a0 : Int) (h0 : (0 : Int) ≤ a0) (r0 : -2147483648 ≤ a0 ∧ a0 < 2147483648) : ¬ (2147483648 - a0 < ((0 : Nat) : Int)) := by omega
theorem z_X11_ruleMany_2 (a0 : Int) (a1 : Int) (a2 : Int) (a3 : Nat) (a4 : Int) (h0 : (0 : Int) ≤ a1) (h1 : 2147483648 - a1 < ((a3 + 1 : Nat) : Int)) (h2 : ¬ ((12 : Int) ≤ a1)) (h3 : a2 = 0 ∨ (a2 = 1 ∧ 0 ≤ a1 ∧ a1 ≤ 11 ∧ 0 ≤ a4)) (h4 : a2 = 0 ∨ a2 = 1) (h5 : a0 = a1 + 1 ∨ a1 + 1 < -2147483648 ∨ 2147483648 ≤ a1 + 1) (r0 : -2147483648 ≤ a0 ∧ a0 < 2147483648) (r1 : -2147483648 ≤ a1 ∧ a1 < 2147483648) (r2 : -2147483648 ≤ a2 ∧ a2 < 2147483648) : (0 : Int) ≤ a0 := by first | (clear h0 h1 h2 h3 h4; omega) | (clear h4; omega) | omega
theorem z_X11_ruleMany_3 (a0 : Int) (a1 : Int) (a2 : Int) (a3 : Nat) (a4 : Int) (h0 : (0 : Int) ≤ a1) (h1 : 2147483648 - a1 < ((a3 + 1 : Nat) : Int)) (h2 : ¬ ((12 : Int) ≤ a1)) (h3 : a2 = 0 ∨ (a2 = 1 ∧ 0 ≤ a1 ∧ a1 ≤ 11 ∧ 0 ≤ a4)) (h4 : a2 = 0 ∨ a2 = 1) (h5 : a0 = a1 + 1 ∨ a1 + 1 < -2147483648 ∨ 2147483648 ≤ a1 + 1) (r0 : -2147483648 ≤ a0 ∧ a0 < 2147483648) (r1 : -2147483648 ≤ a1 ∧ a1 < 2147483648) (r2 : -2147483648 ≤ a2 ∧ a2 < 2147483648) : 2147483648 - a0 < ((a3 : Nat) : Int) := by first | (clear h0 h2 h3 h4; omega) | (clear h4; omega) | omega
abbrev rm_X11_ruleMany : Room := { frames := 2, cells := 0, slots := 0, locals := 46 }
set_option maxHeartbeats 4000000 in
set_option maxRecDepth 100000 in
theorem c_X11_ruleMany (l : Launch) (E : XE) (K : Nat → Nat) (F : Nat → Nat → Nat) (tl z0 z1 z2 z3 z4 z5 z6 z7 z8 z9 z10 z11 z12 z13 z14 z15 z16 z17 z18 z19 z20 : Int32) (ar0 ar1 ar2 ar3 ar4 ar5 ar6 ar7 ar8 ar9 ar10 : Nat → Int32) (h0 : Heap) (a : Nat) (ha : K a = 13) (hR : RV ar1) : Met l yX11_ruleMany (xw yX11_ruleMany cX11_ruleMany 3 (some .int)) rm_X11_ruleMany (va_Pc [.ref a] (XPh E K F (tl, [z0, z1, z2, z3, z4, z5, z6, z7, z8, z9, z10, z11, z12, z13, z14, z15, z16, z17, z18, z19, z20], [ar0, ar1, ar2, ar3, ar4, ar5, ar6, ar7, ar8, ar9, ar10]) h0)) (XQ E (fun v (u : Unit) => ∃ r : Int32, v = .int r) (fun _ H => H = h0)) 0 0 (xA E) := by
  refine x_enter (by decide) (Nat.le_of_ble_eq_true rfl) ?_
  intro p e s m args below meth c Q S hr hlk hnm hQ hP ls hl
  obtain ⟨⟨hz, hK, hT⟩, hh⟩ := hP
  obtain ⟨hx, hb, -, -, -⟩ := id S
  have hS : va_S (xA E) s.heap s.heap [] := va_S.rf
  have hl : lv_has ls 3 [(0, .ref a)] := hl
  refine lv_iconst (v := 0) hx hb dX11_ruleMany_0 (by decide) ?_
  refine lv_istore_n (lv' := [(1, .int 0), (0, .ref a)]) hx hb dX11_ruleMany_1 rfl hl (by decide) rfl (fun ls hl => ?_)
  refine lv_iconst (v := 0) hx hb dX11_ruleMany_2 (by decide) ?_
  refine lv_istore_n (lv' := [(2, .int 0), (1, .int 0), (0, .ref a)]) hx hb dX11_ruleMany_3 rfl hl (by decide) rfl (fun ls hl => ?_)
  have L4 : ∀ (N3 : Nat) (x1 : Int32) (x2 : Int32) (locs : List Loc) (ls : Array Slot), (0 : Int) ≤ x2.toInt → 2147483648 - x2.toInt < ((N3 : Nat) : Int) → TW E K F (tl, [z0, z1, z2, z3, z4, z5, z6, z7, z8, z9, z10, z11, z12, z13, z14, z15, z16, z17, z18, z19, z20], [ar0, ar1, ar2, ar3, ar4, ar5, ar6, ar7, ar8, ar9, ar10]) [] s.heap → va_S (xA E) s.heap s.heap locs → lv_has ls 3 [(0, .ref a), (1, .int x1), (2, .int x2)] → W p l e rm_X11_ruleMany s m args below meth c s.heap locs 0 0 Q (F0 m 4 ls []) := by
    intro N3
    induction N3 with
    | zero =>
      intro x1 x2 locs ls hf4 hm5
      exact absurd hm5 (z_X11_ruleMany_1 x2.toInt hf4 (xr x2))
    | succ N3 ih6 =>
      intro x1 x2 locs ls hf4 hm5 hT hS hl
      refine lv_iload_n hx hb dX11_ruleMany_4 rfl (lv_at hl 2 rfl) ?_
      refine lv_bipush (v := 12) hx hb dX11_ruleMany_5 (by decide) ?_
      refine xi_cge (tgt := 32) hx hb (rfl : Int32.toInt x2 = x2.toInt) ((by decide) : Int32.toInt 12 = (12 : Int)) dX11_ruleMany_7 (by decide) (fun c7 => ?_) (fun c7 => ?_)
      · refine lv_iload_n hx hb dX11_ruleMany_32 rfl (lv_at hl 1 rfl) ?_
        exact x_ri hx hb hr hlk hQ (Nat.le_of_ble_eq_true rfl) (Nat.le_of_ble_eq_true rfl) hS dX11_ruleMany_33 () ⟨_, rfl⟩ hh
      · refine lv_iload_n hx hb dX11_ruleMany_10 rfl (lv_at hl 1 rfl) ?_
        refine lv_aload_n hx hb dX11_ruleMany_11 rfl (lv_at hl 0 rfl) ?_
        refine lv_iload_n hx hb dX11_ruleMany_12 rfl (lv_at hl 2 rfl) ?_
        refine x_clp (x_runV (b := a) (As := [.int x2]) (rest := [.int x1]) S (c_X11_isRule l E K F tl z0 z1 z2 z3 z4 z5 z6 z7 z8 z9 z10 z11 z12 z13 z14 z15 z16 z17 z18 z19 z20 ar0 ar1 ar2 ar3 ar4 ar5 ar6 ar7 ar8 ar9 ar10 s.heap a x2 ha hR) mv_X11_isRule km_X11_162 rfl rfl ⟨Nat.le_of_ble_eq_true rfl, Nat.le_of_ble_eq_true rfl⟩ (rc_13 hK hT ha) hK (fun _ => XPh.blind) (fun U hU hW => XPh.at hK hz hS hT hU hW) rfl hl.1 (Nat.le_of_ble_eq_true rfl) dX11_ruleMany_13 ⟨Nat.le_of_ble_eq_true rfl, Nat.le_of_ble_eq_true rfl⟩) hS ?_
        rintro _ _ locs ⟨x9, rfl, b10, t8⟩ hS
        have t8 : x9.toInt = 0 ∨ (x9.toInt = 1 ∧ 0 ≤ x2.toInt ∧ x2.toInt ≤ 11 ∧ 0 ≤ (aI ar1 (10 * x2.toInt + (0 : Int)))) := t8
        have J24 : ∀ (x11 : Int32) (locs : List Loc) (ls : Array Slot), TW E K F (tl, [z0, z1, z2, z3, z4, z5, z6, z7, z8, z9, z10, z11, z12, z13, z14, z15, z16, z17, z18, z19, z20], [ar0, ar1, ar2, ar3, ar4, ar5, ar6, ar7, ar8, ar9, ar10]) [] s.heap → va_S (xA E) s.heap s.heap locs → lv_has ls 3 [(0, .ref a), (2, .int x2)] → W p l e rm_X11_ruleMany s m args below meth c s.heap locs 0 0 Q (F0 m 24 ls [.int x11, .int x1]) := by
          intro x11 locs ls hT hS hl
          refine xi_iadd hx hb (rfl : Int32.toInt x1 = x1.toInt) (rfl : Int32.toInt x11 = x11.toInt) dX11_ruleMany_24 (fun x12 t13 => ?_)
          refine lv_istore_n (lv' := [(1, .int x12), (0, .ref a), (2, .int x2)]) hx hb dX11_ruleMany_25 rfl hl (by decide) rfl (fun ls hl => ?_)
          refine xi_iinc (n := 1) (lv' := fun z9 => [(2, .int z9), (1, .int x12), (0, .ref a)]) (k := 2) hx hb (rfl : Int32.toInt x2 = x2.toInt) (by decide) dX11_ruleMany_26 hl rfl (by decide) (fun _ => rfl) (fun x14 ls t15 hl => ?_)
          have hl : lv_has ls 3 [(2, .int x14), (1, .int x12), (0, .ref a)] := hl
          refine lv_goto (tgt := 4) hx hb dX11_ruleMany_29 (by decide) ?_
          exact ih6 x12 x14 _ _ (z_X11_ruleMany_2 x14.toInt x2.toInt x9.toInt N3 (aI ar1 (10 * x2.toInt + (0 : Int))) hf4 hm5 c7 t8 (xbz b10) t15 (xr x14) (xr x2) (xr x9)) (z_X11_ruleMany_3 x14.toInt x2.toInt x9.toInt N3 (aI ar1 (10 * x2.toInt + (0 : Int))) hf4 hm5 c7 t8 (xbz b10) t15 (xr x14) (xr x2) (xr x9)) hT.nil hS (lv_sub hl [2, 1, 0] rfl)
        refine xi_zeq (tgt := 23) hx hb (rfl : Int32.toInt x9 = x9.toInt) dX11_ruleMany_16 (by decide) (fun c16 => ?_) (fun c16 => ?_)
        · refine lv_iconst (v := 0) hx hb dX11_ruleMany_23 (by decide) ?_
          exact J24 0 _ _ hT.nil hS (lv_sub hl [0, 2] rfl)
        · refine lv_iconst (v := 1) hx hb dX11_ruleMany_19 (by decide) ?_
          refine lv_goto (tgt := 24) hx hb dX11_ruleMany_20 (by decide) ?_
          exact J24 1 _ _ hT.nil hS (lv_sub hl [0, 2] rfl)
  exact L4 4294967297 0 0 _ _ (by decide) (by decide) hT.nil hS (lv_sub hl [2, 1, 0] rfl)

theorem z_X11_ofKeys_1 (a0 : Int) (h0 : a0 = 2 ∨ a0 = 4 ∨ a0 = 5) (r0 : -2147483648 ≤ a0 ∧ a0 < 2147483648) : ((1 : Int) = 1 ∧ (a0 = 2 ∨ a0 = 4 ∨ a0 = 5)) ∨ ((1 : Int) = 0 ∧ a0 ≠ 2 ∧ a0 ≠ 4 ∧ a0 ≠ 5) := by omega
theorem z_X11_ofKeys_2 (a0 : Int) (h0 : a0 = (2 : Int)) (r0 : -2147483648 ≤ a0 ∧ a0 < 2147483648) : a0 = 2 ∨ a0 = 4 ∨ a0 = 5 := by omega
theorem z_X11_ofKeys_3 (a0 : Int) (h0 : ¬ (a0 = (2 : Int))) (h1 : a0 = (4 : Int)) (r0 : -2147483648 ≤ a0 ∧ a0 < 2147483648) : a0 = 2 ∨ a0 = 4 ∨ a0 = 5 := by omega
theorem z_X11_ofKeys_4 (a0 : Int) (h0 : ¬ (a0 = (2 : Int))) (h1 : ¬ (a0 = (4 : Int))) (h2 : a0 ≠ (5 : Int)) (r0 : -2147483648 ≤ a0 ∧ a0 < 2147483648) : ((0 : Int) = 1 ∧ (a0 = 2 ∨ a0 = 4 ∨ a0 = 5)) ∨ ((0 : Int) = 0 ∧ a0 ≠ 2 ∧ a0 ≠ 4 ∧ a0 ≠ 5) := by omega
theorem z_X11_ofKeys_5 (a0 : Int) (h0 : ¬ (a0 = (2 : Int))) (h1 : ¬ (a0 = (4 : Int))) (h2 : ¬ (a0 ≠ (5 : Int))) (r0 : -2147483648 ≤ a0 ∧ a0 < 2147483648) : a0 = 2 ∨ a0 = 4 ∨ a0 = 5 := by omega
abbrev rm_X11_ofKeys : Room := { frames := 0, cells := 0, slots := 0, locals := 0 }
set_option maxHeartbeats 4000000 in
set_option maxRecDepth 100000 in
theorem c_X11_ofKeys (l : Launch) (E : XE) (K : Nat → Nat) (F : Nat → Nat → Nat) (tl z0 z1 z2 z3 z4 z5 z6 z7 z8 z9 z10 z11 z12 z13 z14 z15 z16 z17 z18 z19 z20 : Int32) (ar0 ar1 ar2 ar3 ar4 ar5 ar6 ar7 ar8 ar9 ar10 : Nat → Int32) (h0 : Heap) (p0 : Int32)  : Met l yX11_ofKeys (xw yX11_ofKeys cX11_ofKeys 1 (some .boolean)) rm_X11_ofKeys (va_Pc [.int p0] (XPh E K F (tl, [z0, z1, z2, z3, z4, z5, z6, z7, z8, z9, z10, z11, z12, z13, z14, z15, z16, z17, z18, z19, z20], [ar0, ar1, ar2, ar3, ar4, ar5, ar6, ar7, ar8, ar9, ar10]) h0)) (XQ E (fun v (u : Unit) => ∃ r : Int32, v = .int r ∧ (r = 0 ∨ r = 1) ∧ ((r.toInt = 1 ∧ (p0.toInt = 2 ∨ p0.toInt = 4 ∨ p0.toInt = 5)) ∨ (r.toInt = 0 ∧ p0.toInt ≠ 2 ∧ p0.toInt ≠ 4 ∧ p0.toInt ≠ 5))) (fun _ H => H = h0)) 0 0 (xA E) := by
  refine x_enter (by decide) (Nat.le_of_ble_eq_true rfl) ?_
  intro p e s m args below meth c Q S hr hlk hnm hQ hP ls hl
  obtain ⟨⟨hz, hK, hT⟩, hh⟩ := hP
  obtain ⟨hx, hb, -, -, -⟩ := id S
  have hS : va_S (xA E) s.heap s.heap [] := va_S.rf
  have hl : lv_has ls 1 [(0, .int p0)] := hl
  refine lv_iload_n hx hb dX11_ofKeys_0 rfl (lv_at hl 0 rfl) ?_
  refine lv_iconst (v := 2) hx hb dX11_ofKeys_1 (by decide) ?_
  have J15 : ∀ (locs : List Loc) (ls : Array Slot), p0.toInt = 2 ∨ p0.toInt = 4 ∨ p0.toInt = 5 → TW E K F (tl, [z0, z1, z2, z3, z4, z5, z6, z7, z8, z9, z10, z11, z12, z13, z14, z15, z16, z17, z18, z19, z20], [ar0, ar1, ar2, ar3, ar4, ar5, ar6, ar7, ar8, ar9, ar10]) [] s.heap → va_S (xA E) s.heap s.heap locs → lv_has ls 1 [] → W p l e rm_X11_ofKeys s m args below meth c s.heap locs 0 0 Q (F0 m 15 ls []) := by
    intro locs ls hf1 hT hS hl
    refine lv_iconst (v := 1) hx hb dX11_ofKeys_15 (by decide) ?_
    refine lv_goto (tgt := 20) hx hb dX11_ofKeys_16 (by decide) ?_
    exact x_rz hx hb hr (xnz (Or.inr rfl)) hlk hQ (Nat.le_of_ble_eq_true rfl) (Nat.le_of_ble_eq_true rfl) hS dX11_ofKeys_20 () ⟨_, rfl, (Or.inr rfl), (z_X11_ofKeys_1 p0.toInt hf1 (xr p0))⟩ hh
  refine xi_ceq (tgt := 15) hx hb (rfl : Int32.toInt p0 = p0.toInt) ((by decide) : Int32.toInt 2 = (2 : Int)) dX11_ofKeys_2 (by decide) (fun c2 => ?_) (fun c2 => ?_)
  · exact J15 _ _ (z_X11_ofKeys_2 p0.toInt c2 (xr p0)) hT.nil hS (lv_sub hl [] rfl)
  · refine lv_iload_n hx hb dX11_ofKeys_5 rfl (lv_at hl 0 rfl) ?_
    refine lv_iconst (v := 4) hx hb dX11_ofKeys_6 (by decide) ?_
    refine xi_ceq (tgt := 15) hx hb (rfl : Int32.toInt p0 = p0.toInt) ((by decide) : Int32.toInt 4 = (4 : Int)) dX11_ofKeys_7 (by decide) (fun c3 => ?_) (fun c3 => ?_)
    · exact J15 _ _ (z_X11_ofKeys_3 p0.toInt c2 c3 (xr p0)) hT.nil hS (lv_sub hl [] rfl)
    · refine lv_iload_n hx hb dX11_ofKeys_10 rfl (lv_at hl 0 rfl) ?_
      refine lv_iconst (v := 5) hx hb dX11_ofKeys_11 (by decide) ?_
      refine xi_cne (tgt := 19) hx hb (rfl : Int32.toInt p0 = p0.toInt) ((by decide) : Int32.toInt 5 = (5 : Int)) dX11_ofKeys_12 (by decide) (fun c4 => ?_) (fun c4 => ?_)
      · refine lv_iconst (v := 0) hx hb dX11_ofKeys_19 (by decide) ?_
        exact x_rz hx hb hr (xnz (Or.inl rfl)) hlk hQ (Nat.le_of_ble_eq_true rfl) (Nat.le_of_ble_eq_true rfl) hS dX11_ofKeys_20 () ⟨_, rfl, (Or.inl rfl), (z_X11_ofKeys_4 p0.toInt c2 c3 c4 (xr p0))⟩ hh
      · exact J15 _ _ (z_X11_ofKeys_5 p0.toInt c2 c3 c4 (xr p0)) hT.nil hS (lv_sub hl [] rfl)

theorem z_X11_firstSubject_1 (a0 : Int) (h0 : 0 ≤ a0 ∧ a0 ≤ 11) (r0 : -2147483648 ≤ a0 ∧ a0 < 2147483648) : 0 ≤ a0 ∧ a0 ≤ 11 := by omega
theorem z_X11_firstSubject_2 (a0 : Int) (h0 : 0 ≤ a0 ∧ a0 ≤ 11) (r0 : -2147483648 ≤ a0 ∧ a0 < 2147483648) : 0 ≤ a0 ∧ a0 ≤ 11 := by omega
theorem z_X11_firstSubject_3 (a0 : Int) (a1 : Int) (a2 : Int) (a3 : Int) (a4 : Int) (a5 : Int) (a6 : Int) (a7 : Int) (h0 : ((a3 = 2 ∨ a3 = 4 ∨ a3 = 5) ∧ a2 = 0 ∧ a7 = 29) ∨ (a3 ≠ 2 ∧ a3 ≠ 4 ∧ a3 ≠ 5 ∧ a2 = -99 ∧ a7 = 99)) (h1 : a0 = a3) (h2 : (-1 ≤ a3 ∧ a3 ≤ 5) ∧ (0 ≤ a4 ∧ a4 ≤ 2) ∧ (0 ≤ a5 ∧ a5 ≤ 2) ∧ (-1 ≤ a6 ∧ a6 ≤ 2) ∧ (a3 = 1 ∨ a3 = 3 ∨ a3 = 4 → 0 ≤ a6)) (h3 : (a1 = 1 ∧ (a0 = 2 ∨ a0 = 4 ∨ a0 = 5)) ∨ (a1 = 0 ∧ a0 ≠ 2 ∧ a0 ≠ 4 ∧ a0 ≠ 5)) (h4 : a1 = 0 ∨ a1 = 1) (h5 : a1 = 0) (r0 : -2147483648 ≤ a0 ∧ a0 < 2147483648) (r1 : -2147483648 ≤ a1 ∧ a1 < 2147483648) : (-99 : Int) = a2 ∧ -99 ≤ a2 ∧ a2 ≤ 0 ∧ 29 ≤ a7 ∧ a7 ≤ 99 ∧ a7 - a2 ≤ 198 := by first | (clear h1 h2 h3 h4 h5; omega) | (clear h3 h4 h5; omega) | (clear h4 h5; omega) | omega
theorem z_X11_firstSubject_4 (a0 : Int) (a1 : Int) (a2 : Int) (a3 : Int) (a4 : Int) (a5 : Int) (a6 : Int) (a7 : Int) (h0 : ((a3 = 2 ∨ a3 = 4 ∨ a3 = 5) ∧ a2 = 0 ∧ a7 = 29) ∨ (a3 ≠ 2 ∧ a3 ≠ 4 ∧ a3 ≠ 5 ∧ a2 = -99 ∧ a7 = 99)) (h1 : a0 = a3) (h2 : (-1 ≤ a3 ∧ a3 ≤ 5) ∧ (0 ≤ a4 ∧ a4 ≤ 2) ∧ (0 ≤ a5 ∧ a5 ≤ 2) ∧ (-1 ≤ a6 ∧ a6 ≤ 2) ∧ (a3 = 1 ∨ a3 = 3 ∨ a3 = 4 → 0 ≤ a6)) (h3 : (a1 = 1 ∧ (a0 = 2 ∨ a0 = 4 ∨ a0 = 5)) ∨ (a1 = 0 ∧ a0 ≠ 2 ∧ a0 ≠ 4 ∧ a0 ≠ 5)) (h4 : a1 = 0 ∨ a1 = 1) (h5 : ¬ (a1 = 0)) (r0 : -2147483648 ≤ a0 ∧ a0 < 2147483648) (r1 : -2147483648 ≤ a1 ∧ a1 < 2147483648) : (0 : Int) = a2 ∧ -99 ≤ a2 ∧ a2 ≤ 0 ∧ 29 ≤ a7 ∧ a7 ≤ 99 ∧ a7 - a2 ≤ 198 := by first | (clear h1 h2 h3 h4 h5; omega) | (clear h3 h4 h5; omega) | (clear h4 h5; omega) | omega
abbrev rm_X11_firstSubject : Room := { frames := 1, cells := 0, slots := 0, locals := 22 }
set_option maxHeartbeats 4000000 in
set_option maxRecDepth 100000 in
theorem c_X11_firstSubject (l : Launch) (E : XE) (K : Nat → Nat) (F : Nat → Nat → Nat) (tl z0 z1 z2 z3 z4 z5 z6 z7 z8 z9 z10 z11 z12 z13 z14 z15 z16 z17 z18 z19 z20 : Int32) (ar0 ar1 ar2 ar3 ar4 ar5 ar6 ar7 ar8 ar9 ar10 : Nat → Int32) (h0 : Heap) (a : Nat) (p0 : Int32) (ha : K a = 13) (hR : RV ar1) (e0 : 0 ≤ p0.toInt ∧ p0.toInt ≤ 11) : Met l yX11_firstSubject (xw yX11_firstSubject cX11_firstSubject 2 (some .int)) rm_X11_firstSubject (va_Pc [.ref a, .int p0] (XPh E K F (tl, [z0, z1, z2, z3, z4, z5, z6, z7, z8, z9, z10, z11, z12, z13, z14, z15, z16, z17, z18, z19, z20], [ar0, ar1, ar2, ar3, ar4, ar5, ar6, ar7, ar8, ar9, ar10]) h0)) (XQ E (fun v (u : Unit) => ∃ r : Int32, v = .int r ∧ (r.toInt = (aF ar1 p0.toInt) ∧ -99 ≤ (aF ar1 p0.toInt) ∧ (aF ar1 p0.toInt) ≤ 0 ∧ 29 ≤ (aL ar1 p0.toInt) ∧ (aL ar1 p0.toInt) ≤ 99 ∧ (aL ar1 p0.toInt) - (aF ar1 p0.toInt) ≤ 198)) (fun _ H => H = h0)) 0 0 (xA E) := by
  refine x_enter (by decide) (Nat.le_of_ble_eq_true rfl) ?_
  intro p e s m args below meth c Q S hr hlk hnm hQ hP ls hl
  obtain ⟨⟨hz, hK, hT⟩, hh⟩ := hP
  obtain ⟨hx, hb, -, -, -⟩ := id S
  have hS : va_S (xA E) s.heap s.heap [] := va_S.rf
  have hl : lv_has ls 2 [(0, .ref a), (1, .int p0)] := hl
  have v1 : (((aI ar1 (10 * p0.toInt + (0 : Int))) = 2 ∨ (aI ar1 (10 * p0.toInt + (0 : Int))) = 4 ∨ (aI ar1 (10 * p0.toInt + (0 : Int))) = 5) ∧ (aF ar1 p0.toInt) = 0 ∧ (aL ar1 p0.toInt) = 29) ∨ ((aI ar1 (10 * p0.toInt + (0 : Int))) ≠ 2 ∧ (aI ar1 (10 * p0.toInt + (0 : Int))) ≠ 4 ∧ (aI ar1 (10 * p0.toInt + (0 : Int))) ≠ 5 ∧ (aF ar1 p0.toInt) = -99 ∧ (aL ar1 p0.toInt) = 99) := aFL
  refine lv_aload_n hx hb dX11_firstSubject_0 rfl (lv_at hl 0 rfl) ?_
  refine lv_iload_n hx hb dX11_firstSubject_1 rfl (lv_at hl 1 rfl) ?_
  refine lv_iconst (v := 0) hx hb dX11_firstSubject_2 (by decide) ?_
  refine x_clp (x_runV (b := a) (As := [.int p0, .int 0]) (rest := []) S (c_X11_of l E K F tl z0 z1 z2 z3 z4 z5 z6 z7 z8 z9 z10 z11 z12 z13 z14 z15 z16 z17 z18 z19 z20 ar0 ar1 ar2 ar3 ar4 ar5 ar6 ar7 ar8 ar9 ar10 s.heap a p0 0 ha (z_X11_firstSubject_1 p0.toInt e0 (xr p0)) (by decide)) mv_X11_of km_X11_165 rfl rfl ⟨Nat.le_of_ble_eq_true rfl, Nat.le_of_ble_eq_true rfl⟩ (rc_13 hK hT ha) hK (fun _ => XPh.blind) (fun U hU hW => XPh.at hK hz hS hT hU hW) rfl hl.1 (Nat.le_of_ble_eq_true rfl) dX11_firstSubject_3 ⟨Nat.le_of_ble_eq_true rfl, Nat.le_of_ble_eq_true rfl⟩) hS ?_
  rintro _ _ locs ⟨x3, rfl, t2⟩ hS
  have t2 : x3.toInt = (aI ar1 (10 * p0.toInt + (0 : Int))) := t2
  have v5 : (-1 ≤ (aI ar1 (10 * p0.toInt + (0 : Int))) ∧ (aI ar1 (10 * p0.toInt + (0 : Int))) ≤ 5) ∧ (0 ≤ (aI ar1 (10 * p0.toInt + (1 : Int))) ∧ (aI ar1 (10 * p0.toInt + (1 : Int))) ≤ 2) ∧ (0 ≤ (aI ar1 (10 * p0.toInt + (2 : Int))) ∧ (aI ar1 (10 * p0.toInt + (2 : Int))) ≤ 2) ∧ (-1 ≤ (aI ar1 (10 * p0.toInt + (3 : Int))) ∧ (aI ar1 (10 * p0.toInt + (3 : Int))) ≤ 2) ∧ ((aI ar1 (10 * p0.toInt + (0 : Int))) = 1 ∨ (aI ar1 (10 * p0.toInt + (0 : Int))) = 3 ∨ (aI ar1 (10 * p0.toInt + (0 : Int))) = 4 → 0 ≤ (aI ar1 (10 * p0.toInt + (3 : Int)))) := RV.row hR (z_X11_firstSubject_2 p0.toInt e0 (xr p0))
  refine x_clp (x_runS (As := [.int x3]) (rest := []) S (c_X11_ofKeys l E K F tl z0 z1 z2 z3 z4 z5 z6 z7 z8 z9 z10 z11 z12 z13 z14 z15 z16 z17 z18 z19 z20 ar0 ar1 ar2 ar3 ar4 ar5 ar6 ar7 ar8 ar9 ar10 s.heap x3) ms_X11_ofKeys km_X11_168 rfl rfl ⟨Nat.le_of_ble_eq_true rfl, Nat.le_of_ble_eq_true rfl⟩ hK (fun _ => XPh.blind) (fun U hU hW => XPh.at hK hz hS hT hU hW) rfl hl.1 (Nat.le_of_ble_eq_true rfl) dX11_firstSubject_6 ⟨Nat.le_of_ble_eq_true rfl, Nat.le_of_ble_eq_true rfl⟩) hS ?_
  rintro _ _ locs ⟨x7, rfl, b8, t6⟩ hS
  have t6 : (x7.toInt = 1 ∧ (x3.toInt = 2 ∨ x3.toInt = 4 ∨ x3.toInt = 5)) ∨ (x7.toInt = 0 ∧ x3.toInt ≠ 2 ∧ x3.toInt ≠ 4 ∧ x3.toInt ≠ 5) := t6
  refine xi_zeq (tgt := 16) hx hb (rfl : Int32.toInt x7 = x7.toInt) dX11_firstSubject_9 (by decide) (fun c9 => ?_) (fun c9 => ?_)
  · refine lv_bipush (v := (-99)) hx hb dX11_firstSubject_16 (by decide) ?_
    exact x_ri hx hb hr hlk hQ (Nat.le_of_ble_eq_true rfl) (Nat.le_of_ble_eq_true rfl) hS dX11_firstSubject_18 () ⟨_, rfl, (z_X11_firstSubject_3 x3.toInt x7.toInt (aF ar1 p0.toInt) (aI ar1 (10 * p0.toInt + (0 : Int))) (aI ar1 (10 * p0.toInt + (1 : Int))) (aI ar1 (10 * p0.toInt + (2 : Int))) (aI ar1 (10 * p0.toInt + (3 : Int))) (aL ar1 p0.toInt) v1 t2 v5 t6 (xbz b8) c9 (xr x3) (xr x7))⟩ hh
  · refine lv_iconst (v := 0) hx hb dX11_firstSubject_12 (by decide) ?_
    refine lv_goto (tgt := 18) hx hb dX11_firstSubject_13 (by decide) ?_
    exact x_ri hx hb hr hlk hQ (Nat.le_of_ble_eq_true rfl) (Nat.le_of_ble_eq_true rfl) hS dX11_firstSubject_18 () ⟨_, rfl, (z_X11_firstSubject_4 x3.toInt x7.toInt (aF ar1 p0.toInt) (aI ar1 (10 * p0.toInt + (0 : Int))) (aI ar1 (10 * p0.toInt + (1 : Int))) (aI ar1 (10 * p0.toInt + (2 : Int))) (aI ar1 (10 * p0.toInt + (3 : Int))) (aL ar1 p0.toInt) v1 t2 v5 t6 (xbz b8) c9 (xr x3) (xr x7))⟩ hh

theorem z_X11_lastSubject_1 (a0 : Int) (h0 : 0 ≤ a0 ∧ a0 ≤ 11) (r0 : -2147483648 ≤ a0 ∧ a0 < 2147483648) : 0 ≤ a0 ∧ a0 ≤ 11 := by omega
theorem z_X11_lastSubject_2 (a0 : Int) (h0 : 0 ≤ a0 ∧ a0 ≤ 11) (r0 : -2147483648 ≤ a0 ∧ a0 < 2147483648) : 0 ≤ a0 ∧ a0 ≤ 11 := by omega
theorem z_X11_lastSubject_3 (a0 : Int) (a1 : Int) (a2 : Int) (a3 : Int) (a4 : Int) (a5 : Int) (a6 : Int) (a7 : Int) (h0 : ((a3 = 2 ∨ a3 = 4 ∨ a3 = 5) ∧ a2 = 0 ∧ a7 = 29) ∨ (a3 ≠ 2 ∧ a3 ≠ 4 ∧ a3 ≠ 5 ∧ a2 = -99 ∧ a7 = 99)) (h1 : a0 = a3) (h2 : (-1 ≤ a3 ∧ a3 ≤ 5) ∧ (0 ≤ a4 ∧ a4 ≤ 2) ∧ (0 ≤ a5 ∧ a5 ≤ 2) ∧ (-1 ≤ a6 ∧ a6 ≤ 2) ∧ (a3 = 1 ∨ a3 = 3 ∨ a3 = 4 → 0 ≤ a6)) (h3 : (a1 = 1 ∧ (a0 = 2 ∨ a0 = 4 ∨ a0 = 5)) ∨ (a1 = 0 ∧ a0 ≠ 2 ∧ a0 ≠ 4 ∧ a0 ≠ 5)) (h4 : a1 = 0 ∨ a1 = 1) (h5 : a1 = 0) (r0 : -2147483648 ≤ a0 ∧ a0 < 2147483648) (r1 : -2147483648 ≤ a1 ∧ a1 < 2147483648) : (99 : Int) = a7 ∧ -99 ≤ a2 ∧ a2 ≤ 0 ∧ 29 ≤ a7 ∧ a7 ≤ 99 ∧ a7 - a2 ≤ 198 := by first | (clear h1 h2 h3 h4 h5; omega) | (clear h3 h4 h5; omega) | (clear h4 h5; omega) | omega
theorem z_X11_lastSubject_4 (a0 : Int) (a1 : Int) (a2 : Int) (a3 : Int) (a4 : Int) (a5 : Int) (a6 : Int) (a7 : Int) (h0 : ((a3 = 2 ∨ a3 = 4 ∨ a3 = 5) ∧ a2 = 0 ∧ a7 = 29) ∨ (a3 ≠ 2 ∧ a3 ≠ 4 ∧ a3 ≠ 5 ∧ a2 = -99 ∧ a7 = 99)) (h1 : a0 = a3) (h2 : (-1 ≤ a3 ∧ a3 ≤ 5) ∧ (0 ≤ a4 ∧ a4 ≤ 2) ∧ (0 ≤ a5 ∧ a5 ≤ 2) ∧ (-1 ≤ a6 ∧ a6 ≤ 2) ∧ (a3 = 1 ∨ a3 = 3 ∨ a3 = 4 → 0 ≤ a6)) (h3 : (a1 = 1 ∧ (a0 = 2 ∨ a0 = 4 ∨ a0 = 5)) ∨ (a1 = 0 ∧ a0 ≠ 2 ∧ a0 ≠ 4 ∧ a0 ≠ 5)) (h4 : a1 = 0 ∨ a1 = 1) (h5 : ¬ (a1 = 0)) (r0 : -2147483648 ≤ a0 ∧ a0 < 2147483648) (r1 : -2147483648 ≤ a1 ∧ a1 < 2147483648) : (29 : Int) = a7 ∧ -99 ≤ a2 ∧ a2 ≤ 0 ∧ 29 ≤ a7 ∧ a7 ≤ 99 ∧ a7 - a2 ≤ 198 := by first | (clear h1 h2 h3 h4 h5; omega) | (clear h3 h4 h5; omega) | (clear h4 h5; omega) | omega
abbrev rm_X11_lastSubject : Room := { frames := 1, cells := 0, slots := 0, locals := 22 }
set_option maxHeartbeats 4000000 in
set_option maxRecDepth 100000 in
theorem c_X11_lastSubject (l : Launch) (E : XE) (K : Nat → Nat) (F : Nat → Nat → Nat) (tl z0 z1 z2 z3 z4 z5 z6 z7 z8 z9 z10 z11 z12 z13 z14 z15 z16 z17 z18 z19 z20 : Int32) (ar0 ar1 ar2 ar3 ar4 ar5 ar6 ar7 ar8 ar9 ar10 : Nat → Int32) (h0 : Heap) (a : Nat) (p0 : Int32) (ha : K a = 13) (hR : RV ar1) (e0 : 0 ≤ p0.toInt ∧ p0.toInt ≤ 11) : Met l yX11_lastSubject (xw yX11_lastSubject cX11_lastSubject 2 (some .int)) rm_X11_lastSubject (va_Pc [.ref a, .int p0] (XPh E K F (tl, [z0, z1, z2, z3, z4, z5, z6, z7, z8, z9, z10, z11, z12, z13, z14, z15, z16, z17, z18, z19, z20], [ar0, ar1, ar2, ar3, ar4, ar5, ar6, ar7, ar8, ar9, ar10]) h0)) (XQ E (fun v (u : Unit) => ∃ r : Int32, v = .int r ∧ (r.toInt = (aL ar1 p0.toInt) ∧ -99 ≤ (aF ar1 p0.toInt) ∧ (aF ar1 p0.toInt) ≤ 0 ∧ 29 ≤ (aL ar1 p0.toInt) ∧ (aL ar1 p0.toInt) ≤ 99 ∧ (aL ar1 p0.toInt) - (aF ar1 p0.toInt) ≤ 198)) (fun _ H => H = h0)) 0 0 (xA E) := by
  refine x_enter (by decide) (Nat.le_of_ble_eq_true rfl) ?_
  intro p e s m args below meth c Q S hr hlk hnm hQ hP ls hl
  obtain ⟨⟨hz, hK, hT⟩, hh⟩ := hP
  obtain ⟨hx, hb, -, -, -⟩ := id S
  have hS : va_S (xA E) s.heap s.heap [] := va_S.rf
  have hl : lv_has ls 2 [(0, .ref a), (1, .int p0)] := hl
  have v1 : (((aI ar1 (10 * p0.toInt + (0 : Int))) = 2 ∨ (aI ar1 (10 * p0.toInt + (0 : Int))) = 4 ∨ (aI ar1 (10 * p0.toInt + (0 : Int))) = 5) ∧ (aF ar1 p0.toInt) = 0 ∧ (aL ar1 p0.toInt) = 29) ∨ ((aI ar1 (10 * p0.toInt + (0 : Int))) ≠ 2 ∧ (aI ar1 (10 * p0.toInt + (0 : Int))) ≠ 4 ∧ (aI ar1 (10 * p0.toInt + (0 : Int))) ≠ 5 ∧ (aF ar1 p0.toInt) = -99 ∧ (aL ar1 p0.toInt) = 99) := aFL
  refine lv_aload_n hx hb dX11_lastSubject_0 rfl (lv_at hl 0 rfl) ?_
  refine lv_iload_n hx hb dX11_lastSubject_1 rfl (lv_at hl 1 rfl) ?_
  refine lv_iconst (v := 0) hx hb dX11_lastSubject_2 (by decide) ?_
  refine x_clp (x_runV (b := a) (As := [.int p0, .int 0]) (rest := []) S (c_X11_of l E K F tl z0 z1 z2 z3 z4 z5 z6 z7 z8 z9 z10 z11 z12 z13 z14 z15 z16 z17 z18 z19 z20 ar0 ar1 ar2 ar3 ar4 ar5 ar6 ar7 ar8 ar9 ar10 s.heap a p0 0 ha (z_X11_lastSubject_1 p0.toInt e0 (xr p0)) (by decide)) mv_X11_of km_X11_165 rfl rfl ⟨Nat.le_of_ble_eq_true rfl, Nat.le_of_ble_eq_true rfl⟩ (rc_13 hK hT ha) hK (fun _ => XPh.blind) (fun U hU hW => XPh.at hK hz hS hT hU hW) rfl hl.1 (Nat.le_of_ble_eq_true rfl) dX11_lastSubject_3 ⟨Nat.le_of_ble_eq_true rfl, Nat.le_of_ble_eq_true rfl⟩) hS ?_
  rintro _ _ locs ⟨x3, rfl, t2⟩ hS
  have t2 : x3.toInt = (aI ar1 (10 * p0.toInt + (0 : Int))) := t2
  have v5 : (-1 ≤ (aI ar1 (10 * p0.toInt + (0 : Int))) ∧ (aI ar1 (10 * p0.toInt + (0 : Int))) ≤ 5) ∧ (0 ≤ (aI ar1 (10 * p0.toInt + (1 : Int))) ∧ (aI ar1 (10 * p0.toInt + (1 : Int))) ≤ 2) ∧ (0 ≤ (aI ar1 (10 * p0.toInt + (2 : Int))) ∧ (aI ar1 (10 * p0.toInt + (2 : Int))) ≤ 2) ∧ (-1 ≤ (aI ar1 (10 * p0.toInt + (3 : Int))) ∧ (aI ar1 (10 * p0.toInt + (3 : Int))) ≤ 2) ∧ ((aI ar1 (10 * p0.toInt + (0 : Int))) = 1 ∨ (aI ar1 (10 * p0.toInt + (0 : Int))) = 3 ∨ (aI ar1 (10 * p0.toInt + (0 : Int))) = 4 → 0 ≤ (aI ar1 (10 * p0.toInt + (3 : Int)))) := RV.row hR (z_X11_lastSubject_2 p0.toInt e0 (xr p0))
  refine x_clp (x_runS (As := [.int x3]) (rest := []) S (c_X11_ofKeys l E K F tl z0 z1 z2 z3 z4 z5 z6 z7 z8 z9 z10 z11 z12 z13 z14 z15 z16 z17 z18 z19 z20 ar0 ar1 ar2 ar3 ar4 ar5 ar6 ar7 ar8 ar9 ar10 s.heap x3) ms_X11_ofKeys km_X11_168 rfl rfl ⟨Nat.le_of_ble_eq_true rfl, Nat.le_of_ble_eq_true rfl⟩ hK (fun _ => XPh.blind) (fun U hU hW => XPh.at hK hz hS hT hU hW) rfl hl.1 (Nat.le_of_ble_eq_true rfl) dX11_lastSubject_6 ⟨Nat.le_of_ble_eq_true rfl, Nat.le_of_ble_eq_true rfl⟩) hS ?_
  rintro _ _ locs ⟨x7, rfl, b8, t6⟩ hS
  have t6 : (x7.toInt = 1 ∧ (x3.toInt = 2 ∨ x3.toInt = 4 ∨ x3.toInt = 5)) ∨ (x7.toInt = 0 ∧ x3.toInt ≠ 2 ∧ x3.toInt ≠ 4 ∧ x3.toInt ≠ 5) := t6
  refine xi_zeq (tgt := 17) hx hb (rfl : Int32.toInt x7 = x7.toInt) dX11_lastSubject_9 (by decide) (fun c9 => ?_) (fun c9 => ?_)
  · refine lv_bipush (v := 99) hx hb dX11_lastSubject_17 (by decide) ?_
    exact x_ri hx hb hr hlk hQ (Nat.le_of_ble_eq_true rfl) (Nat.le_of_ble_eq_true rfl) hS dX11_lastSubject_19 () ⟨_, rfl, (z_X11_lastSubject_3 x3.toInt x7.toInt (aF ar1 p0.toInt) (aI ar1 (10 * p0.toInt + (0 : Int))) (aI ar1 (10 * p0.toInt + (1 : Int))) (aI ar1 (10 * p0.toInt + (2 : Int))) (aI ar1 (10 * p0.toInt + (3 : Int))) (aL ar1 p0.toInt) v1 t2 v5 t6 (xbz b8) c9 (xr x3) (xr x7))⟩ hh
  · refine lv_bipush (v := 29) hx hb dX11_lastSubject_12 (by decide) ?_
    refine lv_goto (tgt := 19) hx hb dX11_lastSubject_14 (by decide) ?_
    exact x_ri hx hb hr hlk hQ (Nat.le_of_ble_eq_true rfl) (Nat.le_of_ble_eq_true rfl) hS dX11_lastSubject_19 () ⟨_, rfl, (z_X11_lastSubject_4 x3.toInt x7.toInt (aF ar1 p0.toInt) (aI ar1 (10 * p0.toInt + (0 : Int))) (aI ar1 (10 * p0.toInt + (1 : Int))) (aI ar1 (10 * p0.toInt + (2 : Int))) (aI ar1 (10 * p0.toInt + (3 : Int))) (aL ar1 p0.toInt) v1 t2 v5 t6 (xbz b8) c9 (xr x3) (xr x7))⟩ hh

theorem z_X11_placeOf_1 (a0 : Int) (a1 : Int) (a2 : Int) (a3 : Int) (a4 : Int) (h0 : a2 = (199 : Int) * a0 ∨ (199 : Int) * a0 < -2147483648 ∨ 2147483648 ≤ (199 : Int) * a0) (h1 : a3 = a2 + a1 ∨ a2 + a1 < -2147483648 ∨ 2147483648 ≤ a2 + a1) (h2 : a4 = a3 + (99 : Int) ∨ a3 + (99 : Int) < -2147483648 ∨ 2147483648 ≤ a3 + (99 : Int)) (r0 : -2147483648 ≤ a0 ∧ a0 < 2147483648) (r1 : -2147483648 ≤ a1 ∧ a1 < 2147483648) (r2 : -2147483648 ≤ a2 ∧ a2 < 2147483648) (r3 : -2147483648 ≤ a3 ∧ a3 < 2147483648) (r4 : -2147483648 ≤ a4 ∧ a4 < 2147483648) : 0 ≤ a0 ∧ a0 ≤ 11 ∧ -99 ≤ a1 ∧ a1 ≤ 99 → a4 = 199 * a0 + a1 + 99 := by omega
abbrev rm_X11_placeOf : Room := { frames := 0, cells := 0, slots := 0, locals := 0 }
set_option maxHeartbeats 4000000 in
set_option maxRecDepth 100000 in
theorem c_X11_placeOf (l : Launch) (E : XE) (K : Nat → Nat) (F : Nat → Nat → Nat) (tl z0 z1 z2 z3 z4 z5 z6 z7 z8 z9 z10 z11 z12 z13 z14 z15 z16 z17 z18 z19 z20 : Int32) (ar0 ar1 ar2 ar3 ar4 ar5 ar6 ar7 ar8 ar9 ar10 : Nat → Int32) (h0 : Heap) (p0 : Int32) (p1 : Int32)  : Met l yX11_placeOf (xw yX11_placeOf cX11_placeOf 2 (some .int)) rm_X11_placeOf (va_Pc [.int p0, .int p1] (XPh E K F (tl, [z0, z1, z2, z3, z4, z5, z6, z7, z8, z9, z10, z11, z12, z13, z14, z15, z16, z17, z18, z19, z20], [ar0, ar1, ar2, ar3, ar4, ar5, ar6, ar7, ar8, ar9, ar10]) h0)) (XQ E (fun v (u : Unit) => ∃ r : Int32, v = .int r ∧ (0 ≤ p0.toInt ∧ p0.toInt ≤ 11 ∧ -99 ≤ p1.toInt ∧ p1.toInt ≤ 99 → r.toInt = 199 * p0.toInt + p1.toInt + 99)) (fun _ H => H = h0)) 0 0 (xA E) := by
  refine x_enter (by decide) (Nat.le_of_ble_eq_true rfl) ?_
  intro p e s m args below meth c Q S hr hlk hnm hQ hP ls hl
  obtain ⟨⟨hz, hK, hT⟩, hh⟩ := hP
  obtain ⟨hx, hb, -, -, -⟩ := id S
  have hS : va_S (xA E) s.heap s.heap [] := va_S.rf
  have hl : lv_has ls 2 [(0, .int p0), (1, .int p1)] := hl
  refine lv_sipush (v := 199) hx hb dX11_placeOf_0 (by decide) ?_
  refine lv_iload_n hx hb dX11_placeOf_3 rfl (lv_at hl 0 rfl) ?_
  refine xi_imul hx hb ((by decide) : Int32.toInt 199 = (199 : Int)) (rfl : Int32.toInt p0 = p0.toInt) dX11_placeOf_4 (fun x1 t2 => ?_)
  refine lv_iload_n hx hb dX11_placeOf_5 rfl (lv_at hl 1 rfl) ?_
  refine xi_iadd hx hb (rfl : Int32.toInt x1 = x1.toInt) (rfl : Int32.toInt p1 = p1.toInt) dX11_placeOf_6 (fun x3 t4 => ?_)
  refine lv_bipush (v := 99) hx hb dX11_placeOf_7 (by decide) ?_
  refine xi_iadd hx hb (rfl : Int32.toInt x3 = x3.toInt) ((by decide) : Int32.toInt 99 = (99 : Int)) dX11_placeOf_9 (fun x5 t6 => ?_)
  exact x_ri hx hb hr hlk hQ (Nat.le_of_ble_eq_true rfl) (Nat.le_of_ble_eq_true rfl) hS dX11_placeOf_10 () ⟨_, rfl, (z_X11_placeOf_1 p0.toInt p1.toInt x1.toInt x3.toInt x5.toInt t2 t4 t6 (xr p0) (xr p1) (xr x1) (xr x3) (xr x5))⟩ hh

theorem z_X11_many_1 (a0 : Int) (h0 : (0 : Int) ≤ a0) (r0 : -2147483648 ≤ a0 ∧ a0 < 2147483648) : ¬ (2147483648 - a0 < ((0 : Nat) : Int)) := by omega
theorem z_X11_many_2 (a0 : Int) (h0 : 0 ≤ a0 ∧ a0 ≤ 11) (r0 : -2147483648 ≤ a0 ∧ a0 < 2147483648) : 0 ≤ a0 ∧ a0 ≤ 11 := by omega
theorem z_X11_many_3 (a0 : Int) (h0 : 0 ≤ a0 ∧ a0 ≤ 11) (r0 : -2147483648 ≤ a0 ∧ a0 < 2147483648) : 0 ≤ a0 ∧ a0 ≤ 11 := by omega
theorem z_X11_many_4 (a0 : Int) (a1 : Int) (a2 : Int) (a3 : Int) (a4 : Int) (a5 : Nat) (a6 : Int) (a7 : Int) (a8 : Int) (a9 : Int) (h0 : 0 ≤ a0 ∧ a0 ≤ 2520) (h1 : (0 : Int) ≤ a3) (h2 : 2147483648 - a3 < ((a5 + 1 : Nat) : Int)) (h3 : ¬ ((30 : Int) ≤ a3)) (h4 : a4 = a7) (h5 : (-1 ≤ a6 ∧ a6 ≤ 5) ∧ (0 ≤ a7 ∧ a7 ≤ 2) ∧ (0 ≤ a8 ∧ a8 ≤ 2) ∧ (-1 ≤ a9 ∧ a9 ≤ 2) ∧ (a6 = 1 ∨ a6 = 3 ∨ a6 = 4 → 0 ≤ a9)) (h6 : 0 ≤ a4 ∧ a4 ≤ 2 ∧ 0 ≤ a3 ∧ a3 ≤ 29 → a1 = 4 * (30 * a4 + a3)) (h7 : a2 = a0 + a1 ∨ a0 + a1 < -2147483648 ∨ 2147483648 ≤ a0 + a1) (r0 : -2147483648 ≤ a0 ∧ a0 < 2147483648) (r1 : -2147483648 ≤ a1 ∧ a1 < 2147483648) (r2 : -2147483648 ≤ a2 ∧ a2 < 2147483648) (r3 : -2147483648 ≤ a3 ∧ a3 < 2147483648) (r4 : -2147483648 ≤ a4 ∧ a4 < 2147483648) : 0 ≤ a2 ∧ a2 < a0 + 360 := by first | (clear h1 h2 h3 h4 h5 h6; omega) | (clear h1 h2 h3 h4 h5; omega) | (clear h5; omega) | omega
theorem z_X11_many_5 (a0 : Int) (a1 : Int) (a2 : Int) (a3 : Int) (a4 : Int) (a5 : Int) (a6 : Nat) (a7 : Int) (a8 : Int) (a9 : Int) (a10 : Int) (h0 : 0 ≤ a0 ∧ a0 ≤ 2520) (h1 : (0 : Int) ≤ a3) (h2 : 2147483648 - a3 < ((a6 + 1 : Nat) : Int)) (h3 : ¬ ((30 : Int) ≤ a3)) (h4 : a5 = a8) (h5 : (-1 ≤ a7 ∧ a7 ≤ 5) ∧ (0 ≤ a8 ∧ a8 ≤ 2) ∧ (0 ≤ a9 ∧ a9 ≤ 2) ∧ (-1 ≤ a10 ∧ a10 ≤ 2) ∧ (a7 = 1 ∨ a7 = 3 ∨ a7 = 4 → 0 ≤ a10)) (h6 : 0 ≤ a5 ∧ a5 ≤ 2 ∧ 0 ≤ a3 ∧ a3 ≤ 29 → a1 = 4 * (30 * a5 + a3)) (h7 : a2 = a0 + a1 ∨ a0 + a1 < -2147483648 ∨ 2147483648 ≤ a0 + a1) (h8 : a4 = a3 + 1 ∨ a3 + 1 < -2147483648 ∨ 2147483648 ≤ a3 + 1) (r0 : -2147483648 ≤ a0 ∧ a0 < 2147483648) (r1 : -2147483648 ≤ a1 ∧ a1 < 2147483648) (r2 : -2147483648 ≤ a2 ∧ a2 < 2147483648) (r3 : -2147483648 ≤ a3 ∧ a3 < 2147483648) (r4 : -2147483648 ≤ a4 ∧ a4 < 2147483648) (r5 : -2147483648 ≤ a5 ∧ a5 < 2147483648) : (0 : Int) ≤ a4 := by first | (clear h0 h1 h2 h3 h4 h5 h6 h7; omega) | (clear h0 h4 h5 h7; omega) | (clear h0 h5; omega) | omega
theorem z_X11_many_6 (a0 : Int) (a1 : Int) (a2 : Int) (a3 : Int) (a4 : Int) (a5 : Int) (a6 : Nat) (a7 : Int) (a8 : Int) (a9 : Int) (a10 : Int) (h0 : 0 ≤ a0 ∧ a0 ≤ 2520) (h1 : (0 : Int) ≤ a3) (h2 : 2147483648 - a3 < ((a6 + 1 : Nat) : Int)) (h3 : ¬ ((30 : Int) ≤ a3)) (h4 : a5 = a8) (h5 : (-1 ≤ a7 ∧ a7 ≤ 5) ∧ (0 ≤ a8 ∧ a8 ≤ 2) ∧ (0 ≤ a9 ∧ a9 ≤ 2) ∧ (-1 ≤ a10 ∧ a10 ≤ 2) ∧ (a7 = 1 ∨ a7 = 3 ∨ a7 = 4 → 0 ≤ a10)) (h6 : 0 ≤ a5 ∧ a5 ≤ 2 ∧ 0 ≤ a3 ∧ a3 ≤ 29 → a1 = 4 * (30 * a5 + a3)) (h7 : a2 = a0 + a1 ∨ a0 + a1 < -2147483648 ∨ 2147483648 ≤ a0 + a1) (h8 : a4 = a3 + 1 ∨ a3 + 1 < -2147483648 ∨ 2147483648 ≤ a3 + 1) (r0 : -2147483648 ≤ a0 ∧ a0 < 2147483648) (r1 : -2147483648 ≤ a1 ∧ a1 < 2147483648) (r2 : -2147483648 ≤ a2 ∧ a2 < 2147483648) (r3 : -2147483648 ≤ a3 ∧ a3 < 2147483648) (r4 : -2147483648 ≤ a4 ∧ a4 < 2147483648) (r5 : -2147483648 ≤ a5 ∧ a5 < 2147483648) : 2147483648 - a4 < ((a6 : Nat) : Int) := by first | (clear h0 h1 h3 h4 h5 h6 h7; omega) | (clear h0 h4 h5 h7; omega) | (clear h0 h5; omega) | omega
theorem z_X11_many_7 (a0 : Int) (h0 : 0 ≤ a0 ∧ a0 ≤ 11) (r0 : -2147483648 ≤ a0 ∧ a0 < 2147483648) : 0 ≤ a0 ∧ a0 ≤ 11 := by omega
theorem z_X11_many_8 (a0 : Int) (a1 : Int) (a2 : Int) (a3 : Int) (a4 : Int) (a5 : Int) (a6 : Int) (a7 : Int) (a8 : Nat) (a9 : Int) (a10 : Int) (a11 : Int) (a12 : Int) (h0 : 0 ≤ a0 ∧ a0 ≤ 2520) (h1 : (0 : Int) ≤ a3) (h2 : 2147483648 - a3 < ((a8 + 1 : Nat) : Int)) (h3 : ¬ ((30 : Int) ≤ a3)) (h4 : a7 = a10) (h5 : (-1 ≤ a9 ∧ a9 ≤ 5) ∧ (0 ≤ a10 ∧ a10 ≤ 2) ∧ (0 ≤ a11 ∧ a11 ≤ 2) ∧ (-1 ≤ a12 ∧ a12 ≤ 2) ∧ (a9 = 1 ∨ a9 = 3 ∨ a9 = 4 → 0 ≤ a12)) (h6 : 0 ≤ a7 ∧ a7 ≤ 2 ∧ 0 ≤ a3 ∧ a3 ≤ 29 → a1 = 4 * (30 * a7 + a3)) (h7 : a2 = a0 + a1 ∨ a0 + a1 < -2147483648 ∨ 2147483648 ≤ a0 + a1) (h8 : a4 = a2 + (1 : Int) ∨ a2 + (1 : Int) < -2147483648 ∨ 2147483648 ≤ a2 + (1 : Int)) (h9 : a5 = a11) (h10 : a6 = a4 + a5 ∨ a4 + a5 < -2147483648 ∨ 2147483648 ≤ a4 + a5) (r0 : -2147483648 ≤ a0 ∧ a0 < 2147483648) (r1 : -2147483648 ≤ a1 ∧ a1 < 2147483648) (r2 : -2147483648 ≤ a2 ∧ a2 < 2147483648) (r3 : -2147483648 ≤ a3 ∧ a3 < 2147483648) (r4 : -2147483648 ≤ a4 ∧ a4 < 2147483648) (r5 : -2147483648 ≤ a5 ∧ a5 < 2147483648) (r6 : -2147483648 ≤ a6 ∧ a6 < 2147483648) (r7 : -2147483648 ≤ a7 ∧ a7 < 2147483648) : 0 ≤ a6 ∧ a6 < a0 + 360 := by first | (clear h1 h2 h3 h4 h5 h6 h8 h9; omega) | (clear h1 h2 h3 h4 h5; omega) | omega
abbrev rm_X11_many : Room := { frames := 1, cells := 0, slots := 0, locals := 22 }
set_option maxHeartbeats 4000000 in
set_option maxRecDepth 100000 in
theorem c_X11_many (l : Launch) (E : XE) (K : Nat → Nat) (F : Nat → Nat → Nat) (tl z0 z1 z2 z3 z4 z5 z6 z7 z8 z9 z10 z11 z12 z13 z14 z15 z16 z17 z18 z19 z20 : Int32) (ar0 ar1 ar2 ar3 ar4 ar5 ar6 ar7 ar8 ar9 ar10 : Nat → Int32) (h0 : Heap) (a : Nat) (p0 : Int32) (p1 : Nat) (p2 : Int32) (p3 : Int32) (ha : K a = 13) (hp1 : XO K p1 p2.toInt) (hR : RV ar1) (e0 : 0 ≤ p0.toInt ∧ p0.toInt ≤ 11) : Met l yX11_many (xw yX11_many cX11_many 8 (some .int)) rm_X11_many (va_Pc [.ref a, .int p0, .ref p1, .int p2, .int p3] (XPh E K F (tl, [z0, z1, z2, z3, z4, z5, z6, z7, z8, z9, z10, z11, z12, z13, z14, z15, z16, z17, z18, z19, z20], [ar0, ar1, ar2, ar3, ar4, ar5, ar6, ar7, ar8, ar9, ar10]) h0)) (XQ E (fun v (u : Unit) => ∃ r : Int32, v = .int r) (fun _ H => H = h0)) 0 0 (xA E) := by
  refine x_enter (by decide) (Nat.le_of_ble_eq_true rfl) ?_
  intro p e s m args below meth c Q S hr hlk hnm hQ hP ls hl
  obtain ⟨⟨hz, hK, hT⟩, hh⟩ := hP
  obtain ⟨hx, hb, -, -, -⟩ := id S
  have hS : va_S (xA E) s.heap s.heap [] := va_S.rf
  have hl : lv_has ls 8 [(0, .ref a), (1, .int p0), (2, .ref p1), (3, .int p2), (4, .int p3)] := hl
  refine lv_iconst (v := 0) hx hb dX11_many_0 (by decide) ?_
  refine lv_istore (lv' := [(5, .int 0), (0, .ref a), (1, .int p0), (2, .ref p1), (3, .int p2), (4, .int p3)]) hx hb dX11_many_1 hl (by decide) rfl (fun ls hl => ?_)
  refine lv_iconst (v := 0) hx hb dX11_many_3 (by decide) ?_
  refine lv_istore (lv' := [(6, .int 0), (5, .int 0), (0, .ref a), (1, .int p0), (2, .ref p1), (3, .int p2), (4, .int p3)]) hx hb dX11_many_4 hl (by decide) rfl (fun ls hl => ?_)
  have L6 : ∀ (N3 : Nat) (x1 : Int32) (x2 : Int32) (locs : List Loc) (ls : Array Slot), (0 : Int) ≤ x2.toInt → 2147483648 - x2.toInt < ((N3 : Nat) : Int) → TW E K F (tl, [z0, z1, z2, z3, z4, z5, z6, z7, z8, z9, z10, z11, z12, z13, z14, z15, z16, z17, z18, z19, z20], [ar0, ar1, ar2, ar3, ar4, ar5, ar6, ar7, ar8, ar9, ar10]) [] s.heap → va_S (xA E) s.heap s.heap locs → lv_has ls 8 [(0, .ref a), (1, .int p0), (2, .ref p1), (3, .int p2), (4, .int p3), (5, .int x1), (6, .int x2)] → W p l e rm_X11_many s m args below meth c s.heap locs 0 0 Q (F0 m 6 ls []) := by
    intro N3
    induction N3 with
    | zero =>
      intro x1 x2 locs ls hf4 hm5
      exact absurd hm5 (z_X11_many_1 x2.toInt hf4 (xr x2))
    | succ N3 ih6 =>
      intro x1 x2 locs ls hf4 hm5 hT hS hl
      refine lv_iload hx hb dX11_many_6 (lv_at hl 6 rfl) ?_
      refine lv_bipush (v := 30) hx hb dX11_many_8 (by decide) ?_
      refine xi_cge (tgt := 70) hx hb (rfl : Int32.toInt x2 = x2.toInt) ((by decide) : Int32.toInt 30 = (30 : Int)) dX11_many_10 (by decide) (fun c7 => ?_) (fun c7 => ?_)
      · refine lv_iload hx hb dX11_many_70 (lv_at hl 5 rfl) ?_
        exact x_ri hx hb hr hlk hQ (Nat.le_of_ble_eq_true rfl) (Nat.le_of_ble_eq_true rfl) hS dX11_many_72 () ⟨_, rfl⟩ hh
      · refine lv_iload_n hx hb dX11_many_13 rfl (lv_at hl 3 rfl) ?_
        refine lv_aload_n hx hb dX11_many_14 rfl (lv_at hl 0 rfl) ?_
        refine lv_iload_n hx hb dX11_many_15 rfl (lv_at hl 1 rfl) ?_
        refine lv_iconst (v := 1) hx hb dX11_many_16 (by decide) ?_
        refine x_clp (x_runV (b := a) (As := [.int p0, .int 1]) (rest := [.int p2]) S (c_X11_of l E K F tl z0 z1 z2 z3 z4 z5 z6 z7 z8 z9 z10 z11 z12 z13 z14 z15 z16 z17 z18 z19 z20 ar0 ar1 ar2 ar3 ar4 ar5 ar6 ar7 ar8 ar9 ar10 s.heap a p0 1 ha (z_X11_many_2 p0.toInt e0 (xr p0)) (by decide)) mv_X11_of km_X11_165 rfl rfl ⟨Nat.le_of_ble_eq_true rfl, Nat.le_of_ble_eq_true rfl⟩ (rc_13 hK hT ha) hK (fun _ => XPh.blind) (fun U hU hW => XPh.at hK hz hS hT hU hW) rfl hl.1 (Nat.le_of_ble_eq_true rfl) dX11_many_17 ⟨Nat.le_of_ble_eq_true rfl, Nat.le_of_ble_eq_true rfl⟩) hS ?_
        rintro _ _ locs ⟨x9, rfl, t8⟩ hS
        have t8 : x9.toInt = (aI ar1 (10 * p0.toInt + (1 : Int))) := t8
        have v11 : (-1 ≤ (aI ar1 (10 * p0.toInt + (0 : Int))) ∧ (aI ar1 (10 * p0.toInt + (0 : Int))) ≤ 5) ∧ (0 ≤ (aI ar1 (10 * p0.toInt + (1 : Int))) ∧ (aI ar1 (10 * p0.toInt + (1 : Int))) ≤ 2) ∧ (0 ≤ (aI ar1 (10 * p0.toInt + (2 : Int))) ∧ (aI ar1 (10 * p0.toInt + (2 : Int))) ≤ 2) ∧ (-1 ≤ (aI ar1 (10 * p0.toInt + (3 : Int))) ∧ (aI ar1 (10 * p0.toInt + (3 : Int))) ≤ 2) ∧ ((aI ar1 (10 * p0.toInt + (0 : Int))) = 1 ∨ (aI ar1 (10 * p0.toInt + (0 : Int))) = 3 ∨ (aI ar1 (10 * p0.toInt + (0 : Int))) = 4 → 0 ≤ (aI ar1 (10 * p0.toInt + (3 : Int)))) := RV.row hR (z_X11_many_3 p0.toInt e0 (xr p0))
        refine lv_iload hx hb dX11_many_20 (lv_at hl 6 rfl) ?_
        refine x_clp (x_runS (As := [.int x9, .int x2]) (rest := [.int p2]) S (c_X11_at l E K F tl z0 z1 z2 z3 z4 z5 z6 z7 z8 z9 z10 z11 z12 z13 z14 z15 z16 z17 z18 z19 z20 ar0 ar1 ar2 ar3 ar4 ar5 ar6 ar7 ar8 ar9 ar10 s.heap x9 x2) ms_X11_at km_X11_156 rfl rfl ⟨Nat.le_of_ble_eq_true rfl, Nat.le_of_ble_eq_true rfl⟩ hK (fun _ => XPh.blind) (fun U hU hW => XPh.at hK hz hS hT hU hW) rfl hl.1 (Nat.le_of_ble_eq_true rfl) dX11_many_22 ⟨Nat.le_of_ble_eq_true rfl, Nat.le_of_ble_eq_true rfl⟩) hS ?_
        rintro _ _ locs ⟨x13, rfl, t12⟩ hS
        have t12 : 0 ≤ x9.toInt ∧ x9.toInt ≤ 2 ∧ 0 ≤ x2.toInt ∧ x2.toInt ≤ 29 → x13.toInt = 4 * (30 * x9.toInt + x2.toInt) := t12
        refine xi_iadd hx hb (rfl : Int32.toInt p2 = p2.toInt) (rfl : Int32.toInt x13 = x13.toInt) dX11_many_25 (fun x15 t16 => ?_)
        refine lv_istore (lv' := [(7, .int x15), (0, .ref a), (1, .int p0), (2, .ref p1), (3, .int p2), (4, .int p3), (5, .int x1), (6, .int x2)]) hx hb dX11_many_26 hl (by decide) rfl (fun ls hl => ?_)
        refine lv_iload hx hb dX11_many_28 (lv_at hl 6 rfl) ?_
        refine lv_aload_n hx hb dX11_many_30 rfl (lv_at hl 3 rfl) ?_
        refine lv_iload hx hb dX11_many_31 (lv_at hl 0 rfl) ?_
        refine ald_of S hK hT hp1 (z_X11_many_4 p2.toInt x13.toInt x15.toInt x2.toInt x9.toInt N3 (aI ar1 (10 * p0.toInt + (0 : Int))) (aI ar1 (10 * p0.toInt + (1 : Int))) (aI ar1 (10 * p0.toInt + (2 : Int))) (aI ar1 (10 * p0.toInt + (3 : Int))) (XO.lim hp1) hf4 hm5 c7 t8 v11 t12 t16 (xr p2) (xr x13) (xr x15) (xr x2) (xr x9)) dX11_many_33 (fun x17 => ?_)
        refine lv_iconst (v := 1) hx hb dX11_many_34 (by decide) ?_
        have J61 : ∀ (x18 : Int32) (locs : List Loc) (ls : Array Slot), TW E K F (tl, [z0, z1, z2, z3, z4, z5, z6, z7, z8, z9, z10, z11, z12, z13, z14, z15, z16, z17, z18, z19, z20], [ar0, ar1, ar2, ar3, ar4, ar5, ar6, ar7, ar8, ar9, ar10]) [] s.heap → va_S (xA E) s.heap s.heap locs → lv_has ls 8 [(0, .ref a), (1, .int p0), (2, .ref p1), (3, .int p2), (4, .int p3), (6, .int x2)] → W p l e rm_X11_many s m args below meth c s.heap locs 0 0 Q (F0 m 61 ls [.int x18, .int x1]) := by
          intro x18 locs ls hT hS hl
          refine xi_iadd hx hb (rfl : Int32.toInt x1 = x1.toInt) (rfl : Int32.toInt x18 = x18.toInt) dX11_many_61 (fun x19 t20 => ?_)
          refine lv_istore (lv' := [(5, .int x19), (0, .ref a), (1, .int p0), (2, .ref p1), (3, .int p2), (4, .int p3), (6, .int x2)]) hx hb dX11_many_62 hl (by decide) rfl (fun ls hl => ?_)
          refine xi_iinc (n := 1) (lv' := fun z9 => [(6, .int z9), (5, .int x19), (0, .ref a), (1, .int p0), (2, .ref p1), (3, .int p2), (4, .int p3)]) (k := 6) hx hb (rfl : Int32.toInt x2 = x2.toInt) (by decide) dX11_many_64 hl rfl (by decide) (fun _ => rfl) (fun x21 ls t22 hl => ?_)
          have hl : lv_has ls 8 [(6, .int x21), (5, .int x19), (0, .ref a), (1, .int p0), (2, .ref p1), (3, .int p2), (4, .int p3)] := hl
          refine lv_goto (tgt := 6) hx hb dX11_many_67 (by decide) ?_
          exact ih6 x19 x21 _ _ (z_X11_many_5 p2.toInt x13.toInt x15.toInt x2.toInt x21.toInt x9.toInt N3 (aI ar1 (10 * p0.toInt + (0 : Int))) (aI ar1 (10 * p0.toInt + (1 : Int))) (aI ar1 (10 * p0.toInt + (2 : Int))) (aI ar1 (10 * p0.toInt + (3 : Int))) (XO.lim hp1) hf4 hm5 c7 t8 v11 t12 t16 t22 (xr p2) (xr x13) (xr x15) (xr x2) (xr x21) (xr x9)) (z_X11_many_6 p2.toInt x13.toInt x15.toInt x2.toInt x21.toInt x9.toInt N3 (aI ar1 (10 * p0.toInt + (0 : Int))) (aI ar1 (10 * p0.toInt + (1 : Int))) (aI ar1 (10 * p0.toInt + (2 : Int))) (aI ar1 (10 * p0.toInt + (3 : Int))) (XO.lim hp1) hf4 hm5 c7 t8 v11 t12 t16 t22 (xr p2) (xr x13) (xr x15) (xr x2) (xr x21) (xr x9)) hT.nil hS (lv_sub hl [2, 3, 4, 5, 6, 1, 0] rfl)
        have J60 : ∀ (locs : List Loc) (ls : Array Slot), TW E K F (tl, [z0, z1, z2, z3, z4, z5, z6, z7, z8, z9, z10, z11, z12, z13, z14, z15, z16, z17, z18, z19, z20], [ar0, ar1, ar2, ar3, ar4, ar5, ar6, ar7, ar8, ar9, ar10]) [] s.heap → va_S (xA E) s.heap s.heap locs → lv_has ls 8 [(0, .ref a), (1, .int p0), (2, .ref p1), (3, .int p2), (4, .int p3), (6, .int x2)] → W p l e rm_X11_many s m args below meth c s.heap locs 0 0 Q (F0 m 60 ls [.int x1]) := by
          intro locs ls hT hS hl
          refine lv_iconst (v := 0) hx hb dX11_many_60 (by decide) ?_
          exact J61 0 _ _ hT.nil hS (lv_sub hl [0, 1, 2, 3, 4, 5] rfl)
        refine xi_cne (tgt := 60) hx hb (rfl : Int32.toInt x17 = x17.toInt) ((by decide) : Int32.toInt 1 = (1 : Int)) dX11_many_35 (by decide) (fun c23 => ?_) (fun c23 => ?_)
        · exact J60 _ _ hT.nil hS (lv_sub hl [1, 2, 3, 4, 5, 7] rfl)
        · refine lv_aload_n hx hb dX11_many_38 rfl (lv_at hl 3 rfl) ?_
          refine lv_iload hx hb dX11_many_39 (lv_at hl 0 rfl) ?_
          refine lv_iconst (v := 1) hx hb dX11_many_41 (by decide) ?_
          refine xi_iadd hx hb (rfl : Int32.toInt x15 = x15.toInt) ((by decide) : Int32.toInt 1 = (1 : Int)) dX11_many_42 (fun x24 t25 => ?_)
          refine lv_aload_n hx hb dX11_many_43 rfl (lv_at hl 1 rfl) ?_
          refine lv_iload_n hx hb dX11_many_44 rfl (lv_at hl 2 rfl) ?_
          refine lv_iconst (v := 2) hx hb dX11_many_45 (by decide) ?_
          refine x_clp (x_runV (b := a) (As := [.int p0, .int 2]) (rest := [.int x24, .ref p1, .int x1]) S (c_X11_of l E K F tl z0 z1 z2 z3 z4 z5 z6 z7 z8 z9 z10 z11 z12 z13 z14 z15 z16 z17 z18 z19 z20 ar0 ar1 ar2 ar3 ar4 ar5 ar6 ar7 ar8 ar9 ar10 s.heap a p0 2 ha (z_X11_many_7 p0.toInt e0 (xr p0)) (by decide)) mv_X11_of km_X11_165 rfl rfl ⟨Nat.le_of_ble_eq_true rfl, Nat.le_of_ble_eq_true rfl⟩ (rc_13 hK hT ha) hK (fun _ => XPh.blind) (fun U hU hW => XPh.at hK hz hS hT hU hW) rfl hl.1 (Nat.le_of_ble_eq_true rfl) dX11_many_46 ⟨Nat.le_of_ble_eq_true rfl, Nat.le_of_ble_eq_true rfl⟩) hS ?_
          rintro _ _ locs ⟨x27, rfl, t26⟩ hS
          have t26 : x27.toInt = (aI ar1 (10 * p0.toInt + (2 : Int))) := t26
          refine xi_iadd hx hb (rfl : Int32.toInt x24 = x24.toInt) (rfl : Int32.toInt x27 = x27.toInt) dX11_many_49 (fun x29 t30 => ?_)
          refine ald_of S hK hT hp1 (z_X11_many_8 p2.toInt x13.toInt x15.toInt x2.toInt x24.toInt x27.toInt x29.toInt x9.toInt N3 (aI ar1 (10 * p0.toInt + (0 : Int))) (aI ar1 (10 * p0.toInt + (1 : Int))) (aI ar1 (10 * p0.toInt + (2 : Int))) (aI ar1 (10 * p0.toInt + (3 : Int))) (XO.lim hp1) hf4 hm5 c7 t8 v11 t12 t16 t25 t26 t30 (xr p2) (xr x13) (xr x15) (xr x2) (xr x24) (xr x27) (xr x29) (xr x9)) dX11_many_50 (fun x31 => ?_)
          refine lv_iload hx hb dX11_many_51 (lv_at hl 5 rfl) ?_
          refine xi_cne (tgt := 60) hx hb (rfl : Int32.toInt x31 = x31.toInt) (rfl : Int32.toInt p3 = p3.toInt) dX11_many_53 (by decide) (fun c32 => ?_) (fun c32 => ?_)
          · exact J60 _ _ hT.nil hS (lv_sub hl [1, 2, 3, 4, 5, 7] rfl)
          · refine lv_iconst (v := 1) hx hb dX11_many_56 (by decide) ?_
            refine lv_goto (tgt := 61) hx hb dX11_many_57 (by decide) ?_
            exact J61 1 _ _ hT.nil hS (lv_sub hl [1, 2, 3, 4, 5, 7] rfl)
  exact L6 4294967297 0 0 _ _ (by decide) (by decide) hT.nil hS (lv_sub hl [2, 3, 4, 5, 6, 1, 0] rfl)

theorem z_X11_sumOf_1 (a0 : Int) (h0 : (0 : Int) ≤ a0) (r0 : -2147483648 ≤ a0 ∧ a0 < 2147483648) : ¬ (2147483648 - a0 < ((0 : Nat) : Int)) := by omega
theorem z_X11_sumOf_2 (a0 : Int) (h0 : 0 ≤ a0 ∧ a0 ≤ 11) (r0 : -2147483648 ≤ a0 ∧ a0 < 2147483648) : 0 ≤ a0 ∧ a0 ≤ 11 := by omega
theorem z_X11_sumOf_3 (a0 : Int) (h0 : 0 ≤ a0 ∧ a0 ≤ 11) (r0 : -2147483648 ≤ a0 ∧ a0 < 2147483648) : 0 ≤ a0 ∧ a0 ≤ 11 := by omega
theorem z_X11_sumOf_4 (a0 : Int) (a1 : Int) (a2 : Int) (a3 : Int) (a4 : Int) (a5 : Nat) (a6 : Int) (a7 : Int) (a8 : Int) (a9 : Int) (h0 : a6 = 3) (h1 : 0 ≤ a0 ∧ a0 ≤ 2520) (h2 : (0 : Int) ≤ a3) (h3 : 2147483648 - a3 < ((a5 + 1 : Nat) : Int)) (h4 : ¬ ((30 : Int) ≤ a3)) (h5 : a4 = a7) (h6 : (-1 ≤ a6 ∧ a6 ≤ 5) ∧ (0 ≤ a7 ∧ a7 ≤ 2) ∧ (0 ≤ a8 ∧ a8 ≤ 2) ∧ (-1 ≤ a9 ∧ a9 ≤ 2) ∧ (a6 = 1 ∨ a6 = 3 ∨ a6 = 4 → 0 ≤ a9)) (h7 : 0 ≤ a4 ∧ a4 ≤ 2 ∧ 0 ≤ a3 ∧ a3 ≤ 29 → a1 = 4 * (30 * a4 + a3)) (h8 : a2 = a0 + a1 ∨ a0 + a1 < -2147483648 ∨ 2147483648 ≤ a0 + a1) (r0 : -2147483648 ≤ a0 ∧ a0 < 2147483648) (r1 : -2147483648 ≤ a1 ∧ a1 < 2147483648) (r2 : -2147483648 ≤ a2 ∧ a2 < 2147483648) (r3 : -2147483648 ≤ a3 ∧ a3 < 2147483648) (r4 : -2147483648 ≤ a4 ∧ a4 < 2147483648) : 0 ≤ a2 ∧ a2 < a0 + 360 := by first | (clear h0 h2 h3 h4 h5 h6 h7; omega) | (clear h0 h2 h3 h4 h5 h6; omega) | (clear h0 h6; omega) | (clear h0; omega) | omega
theorem z_X11_sumOf_5 (a0 : Int) (h0 : 0 ≤ a0 ∧ a0 ≤ 11) (r0 : -2147483648 ≤ a0 ∧ a0 < 2147483648) : 0 ≤ a0 ∧ a0 ≤ 11 := by omega
theorem z_X11_sumOf_6 (a0 : Int) (a1 : Int) (a2 : Int) (a3 : Int) (a4 : Int) (a5 : Int) (a6 : Int) (a7 : Int) (a8 : Nat) (a9 : Int) (a10 : Int) (a11 : Int) (a12 : Int) (h0 : a9 = 3) (h1 : 0 ≤ a0 ∧ a0 ≤ 2520) (h2 : (0 : Int) ≤ a4) (h3 : 2147483648 - a4 < ((a8 + 1 : Nat) : Int)) (h4 : ¬ ((30 : Int) ≤ a4)) (h5 : a7 = a10) (h6 : (-1 ≤ a9 ∧ a9 ≤ 5) ∧ (0 ≤ a10 ∧ a10 ≤ 2) ∧ (0 ≤ a11 ∧ a11 ≤ 2) ∧ (-1 ≤ a12 ∧ a12 ≤ 2) ∧ (a9 = 1 ∨ a9 = 3 ∨ a9 = 4 → 0 ≤ a12)) (h7 : 0 ≤ a7 ∧ a7 ≤ 2 ∧ 0 ≤ a4 ∧ a4 ≤ 29 → a1 = 4 * (30 * a7 + a4)) (h8 : a2 = a0 + a1 ∨ a0 + a1 < -2147483648 ∨ 2147483648 ≤ a0 + a1) (h9 : a3 = a2 + (1 : Int) ∨ a2 + (1 : Int) < -2147483648 ∨ 2147483648 ≤ a2 + (1 : Int)) (h10 : a5 = a12) (h11 : a6 = a3 + a5 ∨ a3 + a5 < -2147483648 ∨ 2147483648 ≤ a3 + a5) (r0 : -2147483648 ≤ a0 ∧ a0 < 2147483648) (r1 : -2147483648 ≤ a1 ∧ a1 < 2147483648) (r2 : -2147483648 ≤ a2 ∧ a2 < 2147483648) (r3 : -2147483648 ≤ a3 ∧ a3 < 2147483648) (r4 : -2147483648 ≤ a4 ∧ a4 < 2147483648) (r5 : -2147483648 ≤ a5 ∧ a5 < 2147483648) (r6 : -2147483648 ≤ a6 ∧ a6 < 2147483648) (r7 : -2147483648 ≤ a7 ∧ a7 < 2147483648) : 0 ≤ a6 ∧ a6 < a0 + 360 := by first | (clear h0 h2 h3 h4 h5 h6 h7 h9 h10; omega) | (clear h0 h2 h3 h4 h5 h6; omega) | (clear h0; omega) | omega
theorem z_X11_sumOf_7 (a0 : Int) (a1 : Int) (a2 : Int) (a3 : Int) (a4 : Int) (a5 : Int) (a6 : Int) (a7 : Int) (a8 : Int) (a9 : Nat) (a10 : Int) (a11 : Int) (a12 : Int) (a13 : Int) (h0 : a10 = 3) (h1 : 0 ≤ a0 ∧ a0 ≤ 2520) (h2 : (0 : Int) ≤ a4) (h3 : 2147483648 - a4 < ((a9 + 1 : Nat) : Int)) (h4 : ¬ ((30 : Int) ≤ a4)) (h5 : a8 = a11) (h6 : (-1 ≤ a10 ∧ a10 ≤ 5) ∧ (0 ≤ a11 ∧ a11 ≤ 2) ∧ (0 ≤ a12 ∧ a12 ≤ 2) ∧ (-1 ≤ a13 ∧ a13 ≤ 2) ∧ (a10 = 1 ∨ a10 = 3 ∨ a10 = 4 → 0 ≤ a13)) (h7 : 0 ≤ a8 ∧ a8 ≤ 2 ∧ 0 ≤ a4 ∧ a4 ≤ 29 → a1 = 4 * (30 * a8 + a4)) (h8 : a2 = a0 + a1 ∨ a0 + a1 < -2147483648 ∨ 2147483648 ≤ a0 + a1) (h9 : a3 = a2 + (1 : Int) ∨ a2 + (1 : Int) < -2147483648 ∨ 2147483648 ≤ a2 + (1 : Int)) (h10 : a5 = a13) (h11 : a6 = a3 + a5 ∨ a3 + a5 < -2147483648 ∨ 2147483648 ≤ a3 + a5) (h12 : a7 = a4 + 1 ∨ a4 + 1 < -2147483648 ∨ 2147483648 ≤ a4 + 1) (r0 : -2147483648 ≤ a0 ∧ a0 < 2147483648) (r1 : -2147483648 ≤ a1 ∧ a1 < 2147483648) (r2 : -2147483648 ≤ a2 ∧ a2 < 2147483648) (r3 : -2147483648 ≤ a3 ∧ a3 < 2147483648) (r4 : -2147483648 ≤ a4 ∧ a4 < 2147483648) (r5 : -2147483648 ≤ a5 ∧ a5 < 2147483648) (r6 : -2147483648 ≤ a6 ∧ a6 < 2147483648) (r7 : -2147483648 ≤ a7 ∧ a7 < 2147483648) (r8 : -2147483648 ≤ a8 ∧ a8 < 2147483648) : (0 : Int) ≤ a7 := by first | (clear h0 h1 h2 h3 h4 h5 h6 h7 h8 h9 h10 h11; omega) | (clear h0 h1 h5 h6 h8 h9 h10 h11; omega) | (clear h0 h1 h6 h9 h10 h11; omega) | (clear h0 h10 h11; omega) | omega
theorem z_X11_sumOf_8 (a0 : Int) (a1 : Int) (a2 : Int) (a3 : Int) (a4 : Int) (a5 : Int) (a6 : Int) (a7 : Int) (a8 : Int) (a9 : Nat) (a10 : Int) (a11 : Int) (a12 : Int) (a13 : Int) (h0 : a10 = 3) (h1 : 0 ≤ a0 ∧ a0 ≤ 2520) (h2 : (0 : Int) ≤ a4) (h3 : 2147483648 - a4 < ((a9 + 1 : Nat) : Int)) (h4 : ¬ ((30 : Int) ≤ a4)) (h5 : a8 = a11) (h6 : (-1 ≤ a10 ∧ a10 ≤ 5) ∧ (0 ≤ a11 ∧ a11 ≤ 2) ∧ (0 ≤ a12 ∧ a12 ≤ 2) ∧ (-1 ≤ a13 ∧ a13 ≤ 2) ∧ (a10 = 1 ∨ a10 = 3 ∨ a10 = 4 → 0 ≤ a13)) (h7 : 0 ≤ a8 ∧ a8 ≤ 2 ∧ 0 ≤ a4 ∧ a4 ≤ 29 → a1 = 4 * (30 * a8 + a4)) (h8 : a2 = a0 + a1 ∨ a0 + a1 < -2147483648 ∨ 2147483648 ≤ a0 + a1) (h9 : a3 = a2 + (1 : Int) ∨ a2 + (1 : Int) < -2147483648 ∨ 2147483648 ≤ a2 + (1 : Int)) (h10 : a5 = a13) (h11 : a6 = a3 + a5 ∨ a3 + a5 < -2147483648 ∨ 2147483648 ≤ a3 + a5) (h12 : a7 = a4 + 1 ∨ a4 + 1 < -2147483648 ∨ 2147483648 ≤ a4 + 1) (r0 : -2147483648 ≤ a0 ∧ a0 < 2147483648) (r1 : -2147483648 ≤ a1 ∧ a1 < 2147483648) (r2 : -2147483648 ≤ a2 ∧ a2 < 2147483648) (r3 : -2147483648 ≤ a3 ∧ a3 < 2147483648) (r4 : -2147483648 ≤ a4 ∧ a4 < 2147483648) (r5 : -2147483648 ≤ a5 ∧ a5 < 2147483648) (r6 : -2147483648 ≤ a6 ∧ a6 < 2147483648) (r7 : -2147483648 ≤ a7 ∧ a7 < 2147483648) (r8 : -2147483648 ≤ a8 ∧ a8 < 2147483648) : 2147483648 - a7 < ((a9 : Nat) : Int) := by first | (clear h0 h1 h2 h4 h5 h6 h7 h8 h9 h10 h11; omega) | (clear h0 h1 h5 h6 h8 h9 h10 h11; omega) | (clear h0 h1 h6 h9 h10 h11; omega) | (clear h0 h10 h11; omega) | omega
theorem z_X11_sumOf_9 (a0 : Int) (h0 : 0 ≤ a0 ∧ a0 ≤ 11) (r0 : -2147483648 ≤ a0 ∧ a0 < 2147483648) : 0 ≤ a0 ∧ a0 ≤ 11 := by omega
theorem z_X11_sumOf_10 (a0 : Int) (a1 : Int) (a2 : Int) (a3 : Int) (a4 : Int) (a5 : Int) (a6 : Int) (a7 : Int) (a8 : Nat) (a9 : Int) (a10 : Int) (a11 : Int) (a12 : Int) (h0 : a9 = 3) (h1 : 0 ≤ a0 ∧ a0 ≤ 2520) (h2 : (0 : Int) ≤ a3) (h3 : 2147483648 - a3 < ((a8 + 1 : Nat) : Int)) (h4 : ¬ ((30 : Int) ≤ a3)) (h5 : a7 = a10) (h6 : (-1 ≤ a9 ∧ a9 ≤ 5) ∧ (0 ≤ a10 ∧ a10 ≤ 2) ∧ (0 ≤ a11 ∧ a11 ≤ 2) ∧ (-1 ≤ a12 ∧ a12 ≤ 2) ∧ (a9 = 1 ∨ a9 = 3 ∨ a9 = 4 → 0 ≤ a12)) (h7 : 0 ≤ a7 ∧ a7 ≤ 2 ∧ 0 ≤ a3 ∧ a3 ≤ 29 → a1 = 4 * (30 * a7 + a3)) (h8 : a2 = a0 + a1 ∨ a0 + a1 < -2147483648 ∨ 2147483648 ≤ a0 + a1) (h9 : a4 = a2 + (1 : Int) ∨ a2 + (1 : Int) < -2147483648 ∨ 2147483648 ≤ a2 + (1 : Int)) (h10 : a5 = a11) (h11 : a6 = a4 + a5 ∨ a4 + a5 < -2147483648 ∨ 2147483648 ≤ a4 + a5) (r0 : -2147483648 ≤ a0 ∧ a0 < 2147483648) (r1 : -2147483648 ≤ a1 ∧ a1 < 2147483648) (r2 : -2147483648 ≤ a2 ∧ a2 < 2147483648) (r3 : -2147483648 ≤ a3 ∧ a3 < 2147483648) (r4 : -2147483648 ≤ a4 ∧ a4 < 2147483648) (r5 : -2147483648 ≤ a5 ∧ a5 < 2147483648) (r6 : -2147483648 ≤ a6 ∧ a6 < 2147483648) (r7 : -2147483648 ≤ a7 ∧ a7 < 2147483648) : 0 ≤ a6 ∧ a6 < a0 + 360 := by first | (clear h0 h2 h3 h4 h5 h6 h7 h9 h10; omega) | (clear h0 h2 h3 h4 h5 h6; omega) | (clear h0; omega) | omega
abbrev rm_X11_sumOf : Room := { frames := 1, cells := 0, slots := 0, locals := 22 }
set_option maxHeartbeats 4000000 in
set_option maxRecDepth 100000 in
theorem c_X11_sumOf (l : Launch) (E : XE) (K : Nat → Nat) (F : Nat → Nat → Nat) (tl z0 z1 z2 z3 z4 z5 z6 z7 z8 z9 z10 z11 z12 z13 z14 z15 z16 z17 z18 z19 z20 : Int32) (ar0 ar1 ar2 ar3 ar4 ar5 ar6 ar7 ar8 ar9 ar10 : Nat → Int32) (h0 : Heap) (a : Nat) (p0 : Int32) (p1 : Nat) (p2 : Int32) (p3 : Int32) (ha : K a = 13) (hp1 : XO K p1 p2.toInt) (hR : RV ar1) (e0 : 0 ≤ p0.toInt ∧ p0.toInt ≤ 11) (e1 : (aI ar1 (10 * p0.toInt + (0 : Int))) = 3) : Met l yX11_sumOf (xw yX11_sumOf cX11_sumOf 10 (some .int)) rm_X11_sumOf (va_Pc [.ref a, .int p0, .ref p1, .int p2, .int p3] (XPh E K F (tl, [z0, z1, z2, z3, z4, z5, z6, z7, z8, z9, z10, z11, z12, z13, z14, z15, z16, z17, z18, z19, z20], [ar0, ar1, ar2, ar3, ar4, ar5, ar6, ar7, ar8, ar9, ar10]) h0)) (XQ E (fun v (u : Unit) => ∃ r : Int32, v = .int r) (fun _ H => H = h0)) 0 0 (xA E) := by
  refine x_enter (by decide) (Nat.le_of_ble_eq_true rfl) ?_
  intro p e s m args below meth c Q S hr hlk hnm hQ hP ls hl
  obtain ⟨⟨hz, hK, hT⟩, hh⟩ := hP
  obtain ⟨hx, hb, -, -, -⟩ := id S
  have hS : va_S (xA E) s.heap s.heap [] := va_S.rf
  have hl : lv_has ls 10 [(0, .ref a), (1, .int p0), (2, .ref p1), (3, .int p2), (4, .int p3)] := hl
  refine lv_iconst (v := 0) hx hb dX11_sumOf_0 (by decide) ?_
  refine lv_istore (lv' := [(5, .int 0), (0, .ref a), (1, .int p0), (2, .ref p1), (3, .int p2), (4, .int p3)]) hx hb dX11_sumOf_1 hl (by decide) rfl (fun ls hl => ?_)
  refine lv_iconst (v := 0) hx hb dX11_sumOf_3 (by decide) ?_
  refine lv_istore (lv' := [(6, .int 0), (5, .int 0), (0, .ref a), (1, .int p0), (2, .ref p1), (3, .int p2), (4, .int p3)]) hx hb dX11_sumOf_4 hl (by decide) rfl (fun ls hl => ?_)
  have L6 : ∀ (N3 : Nat) (x1 : Int32) (x2 : Int32) (locs : List Loc) (ls : Array Slot), (0 : Int) ≤ x2.toInt → 2147483648 - x2.toInt < ((N3 : Nat) : Int) → TW E K F (tl, [z0, z1, z2, z3, z4, z5, z6, z7, z8, z9, z10, z11, z12, z13, z14, z15, z16, z17, z18, z19, z20], [ar0, ar1, ar2, ar3, ar4, ar5, ar6, ar7, ar8, ar9, ar10]) [] s.heap → va_S (xA E) s.heap s.heap locs → lv_has ls 10 [(0, .ref a), (1, .int p0), (2, .ref p1), (3, .int p2), (4, .int p3), (5, .int x1), (6, .int x2)] → W p l e rm_X11_sumOf s m args below meth c s.heap locs 0 0 Q (F0 m 6 ls []) := by
    intro N3
    induction N3 with
    | zero =>
      intro x1 x2 locs ls hf4 hm5
      exact absurd hm5 (z_X11_sumOf_1 x2.toInt hf4 (xr x2))
    | succ N3 ih6 =>
      intro x1 x2 locs ls hf4 hm5 hT hS hl
      refine lv_iload hx hb dX11_sumOf_6 (lv_at hl 6 rfl) ?_
      refine lv_bipush (v := 30) hx hb dX11_sumOf_8 (by decide) ?_
      refine xi_cge (tgt := 106) hx hb (rfl : Int32.toInt x2 = x2.toInt) ((by decide) : Int32.toInt 30 = (30 : Int)) dX11_sumOf_10 (by decide) (fun c7 => ?_) (fun c7 => ?_)
      · refine lv_iload hx hb dX11_sumOf_106 (lv_at hl 5 rfl) ?_
        exact x_ri hx hb hr hlk hQ (Nat.le_of_ble_eq_true rfl) (Nat.le_of_ble_eq_true rfl) hS dX11_sumOf_108 () ⟨_, rfl⟩ hh
      · refine lv_iload_n hx hb dX11_sumOf_13 rfl (lv_at hl 3 rfl) ?_
        refine lv_aload_n hx hb dX11_sumOf_14 rfl (lv_at hl 0 rfl) ?_
        refine lv_iload_n hx hb dX11_sumOf_15 rfl (lv_at hl 1 rfl) ?_
        refine lv_iconst (v := 1) hx hb dX11_sumOf_16 (by decide) ?_
        refine x_clp (x_runV (b := a) (As := [.int p0, .int 1]) (rest := [.int p2]) S (c_X11_of l E K F tl z0 z1 z2 z3 z4 z5 z6 z7 z8 z9 z10 z11 z12 z13 z14 z15 z16 z17 z18 z19 z20 ar0 ar1 ar2 ar3 ar4 ar5 ar6 ar7 ar8 ar9 ar10 s.heap a p0 1 ha (z_X11_sumOf_2 p0.toInt e0 (xr p0)) (by decide)) mv_X11_of km_X11_165 rfl rfl ⟨Nat.le_of_ble_eq_true rfl, Nat.le_of_ble_eq_true rfl⟩ (rc_13 hK hT ha) hK (fun _ => XPh.blind) (fun U hU hW => XPh.at hK hz hS hT hU hW) rfl hl.1 (Nat.le_of_ble_eq_true rfl) dX11_sumOf_17 ⟨Nat.le_of_ble_eq_true rfl, Nat.le_of_ble_eq_true rfl⟩) hS ?_
        rintro _ _ locs ⟨x9, rfl, t8⟩ hS
        have t8 : x9.toInt = (aI ar1 (10 * p0.toInt + (1 : Int))) := t8
        have v11 : (-1 ≤ (aI ar1 (10 * p0.toInt + (0 : Int))) ∧ (aI ar1 (10 * p0.toInt + (0 : Int))) ≤ 5) ∧ (0 ≤ (aI ar1 (10 * p0.toInt + (1 : Int))) ∧ (aI ar1 (10 * p0.toInt + (1 : Int))) ≤ 2) ∧ (0 ≤ (aI ar1 (10 * p0.toInt + (2 : Int))) ∧ (aI ar1 (10 * p0.toInt + (2 : Int))) ≤ 2) ∧ (-1 ≤ (aI ar1 (10 * p0.toInt + (3 : Int))) ∧ (aI ar1 (10 * p0.toInt + (3 : Int))) ≤ 2) ∧ ((aI ar1 (10 * p0.toInt + (0 : Int))) = 1 ∨ (aI ar1 (10 * p0.toInt + (0 : Int))) = 3 ∨ (aI ar1 (10 * p0.toInt + (0 : Int))) = 4 → 0 ≤ (aI ar1 (10 * p0.toInt + (3 : Int)))) := RV.row hR (z_X11_sumOf_3 p0.toInt e0 (xr p0))
        refine lv_iload hx hb dX11_sumOf_20 (lv_at hl 6 rfl) ?_
        refine x_clp (x_runS (As := [.int x9, .int x2]) (rest := [.int p2]) S (c_X11_at l E K F tl z0 z1 z2 z3 z4 z5 z6 z7 z8 z9 z10 z11 z12 z13 z14 z15 z16 z17 z18 z19 z20 ar0 ar1 ar2 ar3 ar4 ar5 ar6 ar7 ar8 ar9 ar10 s.heap x9 x2) ms_X11_at km_X11_156 rfl rfl ⟨Nat.le_of_ble_eq_true rfl, Nat.le_of_ble_eq_true rfl⟩ hK (fun _ => XPh.blind) (fun U hU hW => XPh.at hK hz hS hT hU hW) rfl hl.1 (Nat.le_of_ble_eq_true rfl) dX11_sumOf_22 ⟨Nat.le_of_ble_eq_true rfl, Nat.le_of_ble_eq_true rfl⟩) hS ?_
        rintro _ _ locs ⟨x13, rfl, t12⟩ hS
        have t12 : 0 ≤ x9.toInt ∧ x9.toInt ≤ 2 ∧ 0 ≤ x2.toInt ∧ x2.toInt ≤ 29 → x13.toInt = 4 * (30 * x9.toInt + x2.toInt) := t12
        refine xi_iadd hx hb (rfl : Int32.toInt p2 = p2.toInt) (rfl : Int32.toInt x13 = x13.toInt) dX11_sumOf_25 (fun x15 t16 => ?_)
        refine lv_istore (lv' := [(7, .int x15), (0, .ref a), (1, .int p0), (2, .ref p1), (3, .int p2), (4, .int p3), (5, .int x1), (6, .int x2)]) hx hb dX11_sumOf_26 hl (by decide) rfl (fun ls hl => ?_)
        refine lv_aload_n hx hb dX11_sumOf_28 rfl (lv_at hl 3 rfl) ?_
        refine lv_iload hx hb dX11_sumOf_29 (lv_at hl 0 rfl) ?_
        refine ald_of S hK hT hp1 (z_X11_sumOf_4 p2.toInt x13.toInt x15.toInt x2.toInt x9.toInt N3 (aI ar1 (10 * p0.toInt + (0 : Int))) (aI ar1 (10 * p0.toInt + (1 : Int))) (aI ar1 (10 * p0.toInt + (2 : Int))) (aI ar1 (10 * p0.toInt + (3 : Int))) e1 (XO.lim hp1) hf4 hm5 c7 t8 v11 t12 t16 (xr p2) (xr x13) (xr x15) (xr x2) (xr x9)) dX11_sumOf_31 (fun x17 => ?_)
        refine lv_iconst (v := 1) hx hb dX11_sumOf_32 (by decide) ?_
        have J59 : ∀ (x18 : Int32) (locs : List Loc) (ls : Array Slot), TW E K F (tl, [z0, z1, z2, z3, z4, z5, z6, z7, z8, z9, z10, z11, z12, z13, z14, z15, z16, z17, z18, z19, z20], [ar0, ar1, ar2, ar3, ar4, ar5, ar6, ar7, ar8, ar9, ar10]) [] s.heap → va_S (xA E) s.heap s.heap locs → lv_has ls 10 [(0, .ref a), (1, .int p0), (2, .ref p1), (3, .int p2), (4, .int p3), (5, .int x1), (6, .int x2), (7, .int x15)] → W p l e rm_X11_sumOf s m args below meth c s.heap locs 0 0 Q (F0 m 59 ls [.int x18]) := by
          intro x18 locs ls hT hS hl
          refine lv_istore (lv' := [(8, .int x18), (0, .ref a), (1, .int p0), (2, .ref p1), (3, .int p2), (4, .int p3), (5, .int x1), (6, .int x2), (7, .int x15)]) hx hb dX11_sumOf_59 hl (by decide) rfl (fun ls hl => ?_)
          refine lv_aload_n hx hb dX11_sumOf_61 rfl (lv_at hl 3 rfl) ?_
          refine lv_iload hx hb dX11_sumOf_62 (lv_at hl 8 rfl) ?_
          refine lv_iconst (v := 1) hx hb dX11_sumOf_64 (by decide) ?_
          refine xi_iadd hx hb (rfl : Int32.toInt x15 = x15.toInt) ((by decide) : Int32.toInt 1 = (1 : Int)) dX11_sumOf_65 (fun x19 t20 => ?_)
          refine lv_aload_n hx hb dX11_sumOf_66 rfl (lv_at hl 1 rfl) ?_
          refine lv_iload_n hx hb dX11_sumOf_67 rfl (lv_at hl 2 rfl) ?_
          refine lv_iconst (v := 3) hx hb dX11_sumOf_68 (by decide) ?_
          refine x_clp (x_runV (b := a) (As := [.int p0, .int 3]) (rest := [.int x19, .ref p1]) S (c_X11_of l E K F tl z0 z1 z2 z3 z4 z5 z6 z7 z8 z9 z10 z11 z12 z13 z14 z15 z16 z17 z18 z19 z20 ar0 ar1 ar2 ar3 ar4 ar5 ar6 ar7 ar8 ar9 ar10 s.heap a p0 3 ha (z_X11_sumOf_5 p0.toInt e0 (xr p0)) (by decide)) mv_X11_of km_X11_165 rfl rfl ⟨Nat.le_of_ble_eq_true rfl, Nat.le_of_ble_eq_true rfl⟩ (rc_13 hK hT ha) hK (fun _ => XPh.blind) (fun U hU hW => XPh.at hK hz hS hT hU hW) rfl hl.1 (Nat.le_of_ble_eq_true rfl) dX11_sumOf_69 ⟨Nat.le_of_ble_eq_true rfl, Nat.le_of_ble_eq_true rfl⟩) hS ?_
          rintro _ _ locs ⟨x22, rfl, t21⟩ hS
          have t21 : x22.toInt = (aI ar1 (10 * p0.toInt + (3 : Int))) := t21
          refine xi_iadd hx hb (rfl : Int32.toInt x19 = x19.toInt) (rfl : Int32.toInt x22 = x22.toInt) dX11_sumOf_72 (fun x24 t25 => ?_)
          refine ald_of S hK hT hp1 (z_X11_sumOf_6 p2.toInt x13.toInt x15.toInt x19.toInt x2.toInt x22.toInt x24.toInt x9.toInt N3 (aI ar1 (10 * p0.toInt + (0 : Int))) (aI ar1 (10 * p0.toInt + (1 : Int))) (aI ar1 (10 * p0.toInt + (2 : Int))) (aI ar1 (10 * p0.toInt + (3 : Int))) e1 (XO.lim hp1) hf4 hm5 c7 t8 v11 t12 t16 t20 t21 t25 (xr p2) (xr x13) (xr x15) (xr x19) (xr x2) (xr x22) (xr x24) (xr x9)) dX11_sumOf_73 (fun x26 => ?_)
          refine lv_istore (lv' := [(9, .int x26), (8, .int x18), (0, .ref a), (1, .int p0), (2, .ref p1), (3, .int p2), (4, .int p3), (5, .int x1), (6, .int x2), (7, .int x15)]) hx hb dX11_sumOf_74 hl (by decide) rfl (fun ls hl => ?_)
          refine lv_iload hx hb dX11_sumOf_76 (lv_at hl 7 rfl) ?_
          refine lv_iload hx hb dX11_sumOf_78 (lv_at hl 1 rfl) ?_
          have J97 : ∀ (x27 : Int32) (locs : List Loc) (ls : Array Slot), TW E K F (tl, [z0, z1, z2, z3, z4, z5, z6, z7, z8, z9, z10, z11, z12, z13, z14, z15, z16, z17, z18, z19, z20], [ar0, ar1, ar2, ar3, ar4, ar5, ar6, ar7, ar8, ar9, ar10]) [] s.heap → va_S (xA E) s.heap s.heap locs → lv_has ls 10 [(0, .ref a), (1, .int p0), (2, .ref p1), (3, .int p2), (4, .int p3), (6, .int x2)] → W p l e rm_X11_sumOf s m args below meth c s.heap locs 0 0 Q (F0 m 97 ls [.int x27, .int x1]) := by
            intro x27 locs ls hT hS hl
            refine xi_iadd hx hb (rfl : Int32.toInt x1 = x1.toInt) (rfl : Int32.toInt x27 = x27.toInt) dX11_sumOf_97 (fun x28 t29 => ?_)
            refine lv_istore (lv' := [(5, .int x28), (0, .ref a), (1, .int p0), (2, .ref p1), (3, .int p2), (4, .int p3), (6, .int x2)]) hx hb dX11_sumOf_98 hl (by decide) rfl (fun ls hl => ?_)
            refine xi_iinc (n := 1) (lv' := fun z9 => [(6, .int z9), (5, .int x28), (0, .ref a), (1, .int p0), (2, .ref p1), (3, .int p2), (4, .int p3)]) (k := 6) hx hb (rfl : Int32.toInt x2 = x2.toInt) (by decide) dX11_sumOf_100 hl rfl (by decide) (fun _ => rfl) (fun x30 ls t31 hl => ?_)
            have hl : lv_has ls 10 [(6, .int x30), (5, .int x28), (0, .ref a), (1, .int p0), (2, .ref p1), (3, .int p2), (4, .int p3)] := hl
            refine lv_goto (tgt := 6) hx hb dX11_sumOf_103 (by decide) ?_
            exact ih6 x28 x30 _ _ (z_X11_sumOf_7 p2.toInt x13.toInt x15.toInt x19.toInt x2.toInt x22.toInt x24.toInt x30.toInt x9.toInt N3 (aI ar1 (10 * p0.toInt + (0 : Int))) (aI ar1 (10 * p0.toInt + (1 : Int))) (aI ar1 (10 * p0.toInt + (2 : Int))) (aI ar1 (10 * p0.toInt + (3 : Int))) e1 (XO.lim hp1) hf4 hm5 c7 t8 v11 t12 t16 t20 t21 t25 t31 (xr p2) (xr x13) (xr x15) (xr x19) (xr x2) (xr x22) (xr x24) (xr x30) (xr x9)) (z_X11_sumOf_8 p2.toInt x13.toInt x15.toInt x19.toInt x2.toInt x22.toInt x24.toInt x30.toInt x9.toInt N3 (aI ar1 (10 * p0.toInt + (0 : Int))) (aI ar1 (10 * p0.toInt + (1 : Int))) (aI ar1 (10 * p0.toInt + (2 : Int))) (aI ar1 (10 * p0.toInt + (3 : Int))) e1 (XO.lim hp1) hf4 hm5 c7 t8 v11 t12 t16 t20 t21 t25 t31 (xr p2) (xr x13) (xr x15) (xr x19) (xr x2) (xr x22) (xr x24) (xr x30) (xr x9)) hT.nil hS (lv_sub hl [2, 3, 4, 5, 6, 1, 0] rfl)
          have J96 : ∀ (locs : List Loc) (ls : Array Slot), TW E K F (tl, [z0, z1, z2, z3, z4, z5, z6, z7, z8, z9, z10, z11, z12, z13, z14, z15, z16, z17, z18, z19, z20], [ar0, ar1, ar2, ar3, ar4, ar5, ar6, ar7, ar8, ar9, ar10]) [] s.heap → va_S (xA E) s.heap s.heap locs → lv_has ls 10 [(0, .ref a), (1, .int p0), (2, .ref p1), (3, .int p2), (4, .int p3), (6, .int x2)] → W p l e rm_X11_sumOf s m args below meth c s.heap locs 0 0 Q (F0 m 96 ls [.int x1]) := by
            intro locs ls hT hS hl
            refine lv_iconst (v := 0) hx hb dX11_sumOf_96 (by decide) ?_
            exact J97 0 _ _ hT.nil hS (lv_sub hl [0, 1, 2, 3, 4, 5] rfl)
          refine xi_zeq (tgt := 96) hx hb (rfl : Int32.toInt x18 = x18.toInt) dX11_sumOf_80 (by decide) (fun c32 => ?_) (fun c32 => ?_)
          · exact J96 _ _ hT.nil hS (lv_sub hl [2, 3, 4, 5, 6, 8] rfl)
          · refine lv_iload hx hb dX11_sumOf_83 (lv_at hl 0 rfl) ?_
            refine lv_sipush (v := (-1000)) hx hb dX11_sumOf_85 (by decide) ?_
            refine xi_ceq (tgt := 96) hx hb (rfl : Int32.toInt x26 = x26.toInt) ((by decide) : Int32.toInt (-1000) = (-1000 : Int)) dX11_sumOf_88 (by decide) (fun c33 => ?_) (fun c33 => ?_)
            · exact J96 _ _ hT.nil hS (lv_sub hl [2, 3, 4, 5, 6, 8] rfl)
            · refine lv_iload hx hb dX11_sumOf_91 (lv_at hl 0 rfl) ?_
              refine lv_goto (tgt := 97) hx hb dX11_sumOf_93 (by decide) ?_
              exact J97 x26 _ _ hT.nil hS (lv_sub hl [2, 3, 4, 5, 6, 8] rfl)
        have J58 : ∀ (locs : List Loc) (ls : Array Slot), TW E K F (tl, [z0, z1, z2, z3, z4, z5, z6, z7, z8, z9, z10, z11, z12, z13, z14, z15, z16, z17, z18, z19, z20], [ar0, ar1, ar2, ar3, ar4, ar5, ar6, ar7, ar8, ar9, ar10]) [] s.heap → va_S (xA E) s.heap s.heap locs → lv_has ls 10 [(0, .ref a), (1, .int p0), (2, .ref p1), (3, .int p2), (4, .int p3), (5, .int x1), (6, .int x2), (7, .int x15)] → W p l e rm_X11_sumOf s m args below meth c s.heap locs 0 0 Q (F0 m 58 ls []) := by
          intro locs ls hT hS hl
          refine lv_iconst (v := 0) hx hb dX11_sumOf_58 (by decide) ?_
          exact J59 0 _ _ hT.nil hS (lv_sub hl [0, 1, 2, 3, 4, 5, 6, 7] rfl)
        refine xi_cne (tgt := 58) hx hb (rfl : Int32.toInt x17 = x17.toInt) ((by decide) : Int32.toInt 1 = (1 : Int)) dX11_sumOf_33 (by decide) (fun c34 => ?_) (fun c34 => ?_)
        · exact J58 _ _ hT.nil hS (lv_sub hl [1, 2, 3, 4, 5, 6, 7, 0] rfl)
        · refine lv_aload_n hx hb dX11_sumOf_36 rfl (lv_at hl 3 rfl) ?_
          refine lv_iload hx hb dX11_sumOf_37 (lv_at hl 0 rfl) ?_
          refine lv_iconst (v := 1) hx hb dX11_sumOf_39 (by decide) ?_
          refine xi_iadd hx hb (rfl : Int32.toInt x15 = x15.toInt) ((by decide) : Int32.toInt 1 = (1 : Int)) dX11_sumOf_40 (fun x35 t36 => ?_)
          refine lv_aload_n hx hb dX11_sumOf_41 rfl (lv_at hl 1 rfl) ?_
          refine lv_iload_n hx hb dX11_sumOf_42 rfl (lv_at hl 2 rfl) ?_
          refine lv_iconst (v := 2) hx hb dX11_sumOf_43 (by decide) ?_
          refine x_clp (x_runV (b := a) (As := [.int p0, .int 2]) (rest := [.int x35, .ref p1]) S (c_X11_of l E K F tl z0 z1 z2 z3 z4 z5 z6 z7 z8 z9 z10 z11 z12 z13 z14 z15 z16 z17 z18 z19 z20 ar0 ar1 ar2 ar3 ar4 ar5 ar6 ar7 ar8 ar9 ar10 s.heap a p0 2 ha (z_X11_sumOf_9 p0.toInt e0 (xr p0)) (by decide)) mv_X11_of km_X11_165 rfl rfl ⟨Nat.le_of_ble_eq_true rfl, Nat.le_of_ble_eq_true rfl⟩ (rc_13 hK hT ha) hK (fun _ => XPh.blind) (fun U hU hW => XPh.at hK hz hS hT hU hW) rfl hl.1 (Nat.le_of_ble_eq_true rfl) dX11_sumOf_44 ⟨Nat.le_of_ble_eq_true rfl, Nat.le_of_ble_eq_true rfl⟩) hS ?_
          rintro _ _ locs ⟨x38, rfl, t37⟩ hS
          have t37 : x38.toInt = (aI ar1 (10 * p0.toInt + (2 : Int))) := t37
          refine xi_iadd hx hb (rfl : Int32.toInt x35 = x35.toInt) (rfl : Int32.toInt x38 = x38.toInt) dX11_sumOf_47 (fun x40 t41 => ?_)
          refine ald_of S hK hT hp1 (z_X11_sumOf_10 p2.toInt x13.toInt x15.toInt x2.toInt x35.toInt x38.toInt x40.toInt x9.toInt N3 (aI ar1 (10 * p0.toInt + (0 : Int))) (aI ar1 (10 * p0.toInt + (1 : Int))) (aI ar1 (10 * p0.toInt + (2 : Int))) (aI ar1 (10 * p0.toInt + (3 : Int))) e1 (XO.lim hp1) hf4 hm5 c7 t8 v11 t12 t16 t36 t37 t41 (xr p2) (xr x13) (xr x15) (xr x2) (xr x35) (xr x38) (xr x40) (xr x9)) dX11_sumOf_48 (fun x42 => ?_)
          refine lv_iload hx hb dX11_sumOf_49 (lv_at hl 5 rfl) ?_
          refine xi_cne (tgt := 58) hx hb (rfl : Int32.toInt x42 = x42.toInt) (rfl : Int32.toInt p3 = p3.toInt) dX11_sumOf_51 (by decide) (fun c43 => ?_) (fun c43 => ?_)
          · exact J58 _ _ hT.nil hS (lv_sub hl [1, 2, 3, 4, 5, 6, 7, 0] rfl)
          · refine lv_iconst (v := 1) hx hb dX11_sumOf_54 (by decide) ?_
            refine lv_goto (tgt := 59) hx hb dX11_sumOf_55 (by decide) ?_
            exact J59 1 _ _ hT.nil hS (lv_sub hl [1, 2, 3, 4, 5, 6, 7, 0] rfl)
  exact L6 4294967297 0 0 _ _ (by decide) (by decide) hT.nil hS (lv_sub hl [2, 3, 4, 5, 6, 1, 0] rfl)

theorem z_X11_stateOf_1 (a0 : Int) (h0 : 0 ≤ a0 ∧ a0 ≤ 11) (r0 : -2147483648 ≤ a0 ∧ a0 < 2147483648) : 0 ≤ a0 ∧ a0 ≤ 11 := by omega
theorem z_X11_stateOf_2 (a0 : Int) (h0 : 0 ≤ a0 ∧ a0 ≤ 11) (r0 : -2147483648 ≤ a0 ∧ a0 < 2147483648) : 0 ≤ a0 ∧ a0 ≤ 11 := by omega
theorem z_X11_stateOf_3 (a0 : Int) (h0 : 0 ≤ a0 ∧ a0 ≤ 11) (r0 : -2147483648 ≤ a0 ∧ a0 < 2147483648) : 0 ≤ a0 ∧ a0 ≤ 11 := by omega
theorem z_X11_stateOf_4 (a0 : Int) (a1 : Int) (a2 : Int) (a3 : Int) (a4 : Int) (a5 : Int) (a6 : Int) (a7 : Int) (a8 : Int) (a9 : Int) (a10 : Int) (a11 : Int) (h0 : 0 ≤ a7) (h1 : a6 ≤ a0 ∧ a0 ≤ a11) (h2 : 0 ≤ a1 ∧ a1 ≤ 2520) (h3 : ((a7 = 2 ∨ a7 = 4 ∨ a7 = 5) ∧ a6 = 0 ∧ a11 = 29) ∨ (a7 ≠ 2 ∧ a7 ≠ 4 ∧ a7 ≠ 5 ∧ a6 = -99 ∧ a11 = 99)) (h4 : a4 = a7) (h5 : (-1 ≤ a7 ∧ a7 ≤ 5) ∧ (0 ≤ a8 ∧ a8 ≤ 2) ∧ (0 ≤ a9 ∧ a9 ≤ 2) ∧ (-1 ≤ a10 ∧ a10 ≤ 2) ∧ (a7 = 1 ∨ a7 = 3 ∨ a7 = 4 → 0 ≤ a10)) (h6 : a7 = 2 ∨ a7 = 5) (h7 : a5 = a8) (h8 : 0 ≤ a5 ∧ a5 ≤ 2 ∧ 0 ≤ a0 ∧ a0 ≤ 29 → a2 = 4 * (30 * a5 + a0)) (h9 : a3 = a1 + a2 ∨ a1 + a2 < -2147483648 ∨ 2147483648 ≤ a1 + a2) (r0 : -2147483648 ≤ a0 ∧ a0 < 2147483648) (r1 : -2147483648 ≤ a1 ∧ a1 < 2147483648) (r2 : -2147483648 ≤ a2 ∧ a2 < 2147483648) (r3 : -2147483648 ≤ a3 ∧ a3 < 2147483648) (r4 : -2147483648 ≤ a4 ∧ a4 < 2147483648) (r5 : -2147483648 ≤ a5 ∧ a5 < 2147483648) : 0 ≤ a3 ∧ a3 < a1 + 360 := by first | (clear h0 h1 h3 h4 h5 h6 h7 h8; omega) | (clear h0 h1 h3 h4 h5 h6 h7; omega) | (clear h0 h3 h4 h5 h6; omega) | (clear h0 h4 h6; omega) | omega
theorem z_X11_stateOf_5 (a0 : Int) (h0 : 0 ≤ a0 ∧ a0 ≤ 11) (r0 : -2147483648 ≤ a0 ∧ a0 < 2147483648) : 0 ≤ a0 ∧ a0 ≤ 11 := by omega
theorem z_X11_stateOf_6 (a0 : Int) (a1 : Int) (a2 : Int) (a3 : Int) (a4 : Int) (a5 : Int) (a6 : Int) (a7 : Int) (a8 : Int) (a9 : Int) (a10 : Int) (a11 : Int) (a12 : Int) (a13 : Int) (a14 : Int) (h0 : 0 ≤ a10) (h1 : a9 ≤ a0 ∧ a0 ≤ a14) (h2 : 0 ≤ a1 ∧ a1 ≤ 2520) (h3 : ((a10 = 2 ∨ a10 = 4 ∨ a10 = 5) ∧ a9 = 0 ∧ a14 = 29) ∨ (a10 ≠ 2 ∧ a10 ≠ 4 ∧ a10 ≠ 5 ∧ a9 = -99 ∧ a14 = 99)) (h4 : a7 = a10) (h5 : (-1 ≤ a10 ∧ a10 ≤ 5) ∧ (0 ≤ a11 ∧ a11 ≤ 2) ∧ (0 ≤ a12 ∧ a12 ≤ 2) ∧ (-1 ≤ a13 ∧ a13 ≤ 2) ∧ (a10 = 1 ∨ a10 = 3 ∨ a10 = 4 → 0 ≤ a13)) (h6 : a10 = 2 ∨ a10 = 5) (h7 : a8 = a11) (h8 : 0 ≤ a8 ∧ a8 ≤ 2 ∧ 0 ≤ a0 ∧ a0 ≤ 29 → a2 = 4 * (30 * a8 + a0)) (h9 : a3 = a1 + a2 ∨ a1 + a2 < -2147483648 ∨ 2147483648 ≤ a1 + a2) (h10 : a4 = a3 + (1 : Int) ∨ a3 + (1 : Int) < -2147483648 ∨ 2147483648 ≤ a3 + (1 : Int)) (h11 : a5 = a12) (h12 : a6 = a4 + a5 ∨ a4 + a5 < -2147483648 ∨ 2147483648 ≤ a4 + a5) (r0 : -2147483648 ≤ a0 ∧ a0 < 2147483648) (r1 : -2147483648 ≤ a1 ∧ a1 < 2147483648) (r2 : -2147483648 ≤ a2 ∧ a2 < 2147483648) (r3 : -2147483648 ≤ a3 ∧ a3 < 2147483648) (r4 : -2147483648 ≤ a4 ∧ a4 < 2147483648) (r5 : -2147483648 ≤ a5 ∧ a5 < 2147483648) (r6 : -2147483648 ≤ a6 ∧ a6 < 2147483648) (r7 : -2147483648 ≤ a7 ∧ a7 < 2147483648) (r8 : -2147483648 ≤ a8 ∧ a8 < 2147483648) : 0 ≤ a6 ∧ a6 < a1 + 360 := by first | (clear h0 h1 h3 h4 h5 h6 h7 h8 h10 h11; omega) | (clear h0 h1 h3 h4 h5 h6 h7; omega) | (clear h0 h3 h4 h6; omega) | omega
theorem z_X11_stateOf_7 (a0 : Int) (a1 : Int) (a2 : Int) (a3 : Int) (a4 : Int) (a5 : Int) (a6 : Int) (a7 : Int) (h0 : 0 ≤ a3) (h1 : a2 ≤ a0 ∧ a0 ≤ a7) (h2 : ((a3 = 2 ∨ a3 = 4 ∨ a3 = 5) ∧ a2 = 0 ∧ a7 = 29) ∨ (a3 ≠ 2 ∧ a3 ≠ 4 ∧ a3 ≠ 5 ∧ a2 = -99 ∧ a7 = 99)) (h3 : a1 = a3) (h4 : (-1 ≤ a3 ∧ a3 ≤ 5) ∧ (0 ≤ a4 ∧ a4 ≤ 2) ∧ (0 ≤ a5 ∧ a5 ≤ 2) ∧ (-1 ≤ a6 ∧ a6 ≤ 2) ∧ (a3 = 1 ∨ a3 = 3 ∨ a3 = 4 → 0 ≤ a6)) (h5 : a1 = (2 : Int)) (r0 : -2147483648 ≤ a0 ∧ a0 < 2147483648) (r1 : -2147483648 ≤ a1 ∧ a1 < 2147483648) : a3 = 2 ∨ a3 = 5 := by first | (clear h1 h5; omega) | omega
theorem z_X11_stateOf_8 (a0 : Int) (h0 : 0 ≤ a0 ∧ a0 ≤ 11) (r0 : -2147483648 ≤ a0 ∧ a0 < 2147483648) : 0 ≤ a0 ∧ a0 ≤ 11 := by omega
theorem z_X11_stateOf_9 (a0 : Int) (h0 : 0 ≤ a0 ∧ a0 ≤ 11) (r0 : -2147483648 ≤ a0 ∧ a0 < 2147483648) : 0 ≤ a0 ∧ a0 ≤ 11 := by omega
theorem z_X11_stateOf_10 (a0 : Int) (a1 : Int) (a2 : Int) (a3 : Int) (a4 : Int) (a5 : Int) (a6 : Int) (a7 : Int) (a8 : Int) (a9 : Int) (a10 : Int) (a11 : Int) (a12 : Int) (h0 : 0 ≤ a8) (h1 : a7 ≤ a0 ∧ a0 ≤ a12) (h2 : 0 ≤ a1 ∧ a1 ≤ 2520) (h3 : ((a8 = 2 ∨ a8 = 4 ∨ a8 = 5) ∧ a7 = 0 ∧ a12 = 29) ∨ (a8 ≠ 2 ∧ a8 ≠ 4 ∧ a8 ≠ 5 ∧ a7 = -99 ∧ a12 = 99)) (h4 : a2 = a8) (h5 : (-1 ≤ a8 ∧ a8 ≤ 5) ∧ (0 ≤ a9 ∧ a9 ≤ 2) ∧ (0 ≤ a10 ∧ a10 ≤ 2) ∧ (-1 ≤ a11 ∧ a11 ≤ 2) ∧ (a8 = 1 ∨ a8 = 3 ∨ a8 = 4 → 0 ≤ a11)) (h6 : ¬ (a2 = (2 : Int))) (h7 : a2 ≠ (5 : Int)) (h8 : a2 ≠ 0) (h9 : a2 ≠ (3 : Int)) (h10 : (a3 = 1 ∧ 0 ≤ a0 ∧ a0 ≤ 29) ∨ (a3 = 0 ∧ (a0 < 0 ∨ 29 < a0))) (h11 : a3 = 0 ∨ a3 = 1) (h12 : ¬ (a3 = 0)) (h13 : a4 = a11) (h14 : 0 ≤ a4 ∧ a4 ≤ 2 ∧ 0 ≤ a0 ∧ a0 ≤ 29 → a5 = 4 * (30 * a4 + a0)) (h15 : a6 = a1 + a5 ∨ a1 + a5 < -2147483648 ∨ 2147483648 ≤ a1 + a5) (r0 : -2147483648 ≤ a0 ∧ a0 < 2147483648) (r1 : -2147483648 ≤ a1 ∧ a1 < 2147483648) (r2 : -2147483648 ≤ a2 ∧ a2 < 2147483648) (r3 : -2147483648 ≤ a3 ∧ a3 < 2147483648) (r4 : -2147483648 ≤ a4 ∧ a4 < 2147483648) (r5 : -2147483648 ≤ a5 ∧ a5 < 2147483648) (r6 : -2147483648 ≤ a6 ∧ a6 < 2147483648) : 0 ≤ a6 ∧ a6 < a1 + 360 := by first | (clear h0 h1 h3 h4 h5 h6 h7 h8 h9 h10 h11 h12 h13 h14; omega) | (clear h0 h1 h3 h4 h5 h6 h7 h8 h9 h10 h11 h12 h13; omega) | (clear h0 h3 h4 h5 h6 h7 h8 h9 h11 h12; omega) | (clear h0 h4 h6 h7 h8 h9; omega) | (clear h6 h7 h8 h9; omega) | omega
theorem z_X11_stateOf_11 (a0 : Int) (h0 : 0 ≤ a0 ∧ a0 ≤ 11) (r0 : -2147483648 ≤ a0 ∧ a0 < 2147483648) : 0 ≤ a0 ∧ a0 ≤ 11 := by omega
theorem z_X11_stateOf_12 (a0 : Int) (a1 : Int) (a2 : Int) (a3 : Int) (a4 : Int) (a5 : Int) (a6 : Int) (a7 : Int) (h0 : 0 ≤ a3) (h1 : a2 ≤ a0 ∧ a0 ≤ a7) (h2 : ((a3 = 2 ∨ a3 = 4 ∨ a3 = 5) ∧ a2 = 0 ∧ a7 = 29) ∨ (a3 ≠ 2 ∧ a3 ≠ 4 ∧ a3 ≠ 5 ∧ a2 = -99 ∧ a7 = 99)) (h3 : a1 = a3) (h4 : (-1 ≤ a3 ∧ a3 ≤ 5) ∧ (0 ≤ a4 ∧ a4 ≤ 2) ∧ (0 ≤ a5 ∧ a5 ≤ 2) ∧ (-1 ≤ a6 ∧ a6 ≤ 2) ∧ (a3 = 1 ∨ a3 = 3 ∨ a3 = 4 → 0 ≤ a6)) (h5 : ¬ (a1 = (2 : Int))) (h6 : a1 ≠ (5 : Int)) (h7 : a1 ≠ 0) (h8 : ¬ (a1 ≠ (3 : Int))) (r0 : -2147483648 ≤ a0 ∧ a0 < 2147483648) (r1 : -2147483648 ≤ a1 ∧ a1 < 2147483648) : a3 = 3 := by first | (clear h1 h5 h6 h7 h8; omega) | omega
theorem z_X11_stateOf_13 (a0 : Int) (a1 : Int) (a2 : Int) (a3 : Int) (a4 : Int) (a5 : Int) (a6 : Int) (a7 : Int) (h0 : 0 ≤ a3) (h1 : a2 ≤ a0 ∧ a0 ≤ a7) (h2 : ((a3 = 2 ∨ a3 = 4 ∨ a3 = 5) ∧ a2 = 0 ∧ a7 = 29) ∨ (a3 ≠ 2 ∧ a3 ≠ 4 ∧ a3 ≠ 5 ∧ a2 = -99 ∧ a7 = 99)) (h3 : a1 = a3) (h4 : (-1 ≤ a3 ∧ a3 ≤ 5) ∧ (0 ≤ a4 ∧ a4 ≤ 2) ∧ (0 ≤ a5 ∧ a5 ≤ 2) ∧ (-1 ≤ a6 ∧ a6 ≤ 2) ∧ (a3 = 1 ∨ a3 = 3 ∨ a3 = 4 → 0 ≤ a6)) (h5 : ¬ (a1 = (2 : Int))) (h6 : ¬ (a1 ≠ (5 : Int))) (r0 : -2147483648 ≤ a0 ∧ a0 < 2147483648) (r1 : -2147483648 ≤ a1 ∧ a1 < 2147483648) : a3 = 2 ∨ a3 = 5 := by first | (clear h1 h5 h6; omega) | omega
abbrev rm_X11_stateOf : Room := { frames := 2, cells := 0, slots := 0, locals := 51 }
set_option maxHeartbeats 4000000 in
set_option maxRecDepth 100000 in
theorem c_X11_stateOf (l : Launch) (E : XE) (K : Nat → Nat) (F : Nat → Nat → Nat) (tl z0 z1 z2 z3 z4 z5 z6 z7 z8 z9 z10 z11 z12 z13 z14 z15 z16 z17 z18 z19 z20 : Int32) (ar0 ar1 ar2 ar3 ar4 ar5 ar6 ar7 ar8 ar9 ar10 : Nat → Int32) (h0 : Heap) (a : Nat) (p0 : Int32) (p1 : Int32) (p2 : Nat) (p3 : Int32) (ha : K a = 13) (hp2 : XO K p2 p3.toInt) (hR : RV ar1) (e0 : 0 ≤ p0.toInt ∧ p0.toInt ≤ 11) (e1 : 0 ≤ (aI ar1 (10 * p0.toInt + (0 : Int)))) (e2 : (aF ar1 p0.toInt) ≤ p1.toInt ∧ p1.toInt ≤ (aL ar1 p0.toInt)) : Met l yX11_stateOf (xw yX11_stateOf cX11_stateOf 7 (some .int)) rm_X11_stateOf (va_Pc [.ref a, .int p0, .int p1, .ref p2, .int p3] (XPh E K F (tl, [z0, z1, z2, z3, z4, z5, z6, z7, z8, z9, z10, z11, z12, z13, z14, z15, z16, z17, z18, z19, z20], [ar0, ar1, ar2, ar3, ar4, ar5, ar6, ar7, ar8, ar9, ar10]) h0)) (XQ E (fun v (u : Unit) => ∃ r : Int32, v = .int r) (fun _ H => H = h0)) 0 0 (xA E) := by
  refine x_enter (by decide) (Nat.le_of_ble_eq_true rfl) ?_
  intro p e s m args below meth c Q S hr hlk hnm hQ hP ls hl
  obtain ⟨⟨hz, hK, hT⟩, hh⟩ := hP
  obtain ⟨hx, hb, -, -, -⟩ := id S
  have hS : va_S (xA E) s.heap s.heap [] := va_S.rf
  have hl : lv_has ls 7 [(0, .ref a), (1, .int p0), (2, .int p1), (3, .ref p2), (4, .int p3)] := hl
  have v1 : (((aI ar1 (10 * p0.toInt + (0 : Int))) = 2 ∨ (aI ar1 (10 * p0.toInt + (0 : Int))) = 4 ∨ (aI ar1 (10 * p0.toInt + (0 : Int))) = 5) ∧ (aF ar1 p0.toInt) = 0 ∧ (aL ar1 p0.toInt) = 29) ∨ ((aI ar1 (10 * p0.toInt + (0 : Int))) ≠ 2 ∧ (aI ar1 (10 * p0.toInt + (0 : Int))) ≠ 4 ∧ (aI ar1 (10 * p0.toInt + (0 : Int))) ≠ 5 ∧ (aF ar1 p0.toInt) = -99 ∧ (aL ar1 p0.toInt) = 99) := aFL
  refine lv_aload_n hx hb dX11_stateOf_0 rfl (lv_at hl 0 rfl) ?_
  refine lv_iload_n hx hb dX11_stateOf_1 rfl (lv_at hl 1 rfl) ?_
  refine lv_iconst (v := 0) hx hb dX11_stateOf_2 (by decide) ?_
  refine x_clp (x_runV (b := a) (As := [.int p0, .int 0]) (rest := []) S (c_X11_of l E K F tl z0 z1 z2 z3 z4 z5 z6 z7 z8 z9 z10 z11 z12 z13 z14 z15 z16 z17 z18 z19 z20 ar0 ar1 ar2 ar3 ar4 ar5 ar6 ar7 ar8 ar9 ar10 s.heap a p0 0 ha (z_X11_stateOf_1 p0.toInt e0 (xr p0)) (by decide)) mv_X11_of km_X11_165 rfl rfl ⟨Nat.le_of_ble_eq_true rfl, Nat.le_of_ble_eq_true rfl⟩ (rc_13 hK hT ha) hK (fun _ => XPh.blind) (fun U hU hW => XPh.at hK hz hS hT hU hW) rfl hl.1 (Nat.le_of_ble_eq_true rfl) dX11_stateOf_3 ⟨Nat.le_of_ble_eq_true rfl, Nat.le_of_ble_eq_true rfl⟩) hS ?_
  rintro _ _ locs ⟨x3, rfl, t2⟩ hS
  have t2 : x3.toInt = (aI ar1 (10 * p0.toInt + (0 : Int))) := t2
  have v5 : (-1 ≤ (aI ar1 (10 * p0.toInt + (0 : Int))) ∧ (aI ar1 (10 * p0.toInt + (0 : Int))) ≤ 5) ∧ (0 ≤ (aI ar1 (10 * p0.toInt + (1 : Int))) ∧ (aI ar1 (10 * p0.toInt + (1 : Int))) ≤ 2) ∧ (0 ≤ (aI ar1 (10 * p0.toInt + (2 : Int))) ∧ (aI ar1 (10 * p0.toInt + (2 : Int))) ≤ 2) ∧ (-1 ≤ (aI ar1 (10 * p0.toInt + (3 : Int))) ∧ (aI ar1 (10 * p0.toInt + (3 : Int))) ≤ 2) ∧ ((aI ar1 (10 * p0.toInt + (0 : Int))) = 1 ∨ (aI ar1 (10 * p0.toInt + (0 : Int))) = 3 ∨ (aI ar1 (10 * p0.toInt + (0 : Int))) = 4 → 0 ≤ (aI ar1 (10 * p0.toInt + (3 : Int)))) := RV.row hR (z_X11_stateOf_2 p0.toInt e0 (xr p0))
  refine lv_istore (lv' := [(5, .int x3), (0, .ref a), (1, .int p0), (2, .int p1), (3, .ref p2), (4, .int p3)]) hx hb dX11_stateOf_6 hl (by decide) rfl (fun ls hl => ?_)
  refine lv_iload hx hb dX11_stateOf_8 (lv_at hl 0 rfl) ?_
  refine lv_iconst (v := 2) hx hb dX11_stateOf_10 (by decide) ?_
  have J20 : ∀ (locs : List Loc) (ls : Array Slot), (aI ar1 (10 * p0.toInt + (0 : Int))) = 2 ∨ (aI ar1 (10 * p0.toInt + (0 : Int))) = 5 → TW E K F (tl, [z0, z1, z2, z3, z4, z5, z6, z7, z8, z9, z10, z11, z12, z13, z14, z15, z16, z17, z18, z19, z20], [ar0, ar1, ar2, ar3, ar4, ar5, ar6, ar7, ar8, ar9, ar10]) [] s.heap → va_S (xA E) s.heap s.heap locs → lv_has ls 7 [(0, .ref a), (1, .int p0), (2, .int p1), (3, .ref p2), (4, .int p3)] → W p l e rm_X11_stateOf s m args below meth c s.heap locs 0 0 Q (F0 m 20 ls []) := by
    intro locs ls hf6 hT hS hl
    refine lv_iload hx hb dX11_stateOf_20 (lv_at hl 4 rfl) ?_
    refine lv_aload_n hx hb dX11_stateOf_22 rfl (lv_at hl 0 rfl) ?_
    refine lv_iload_n hx hb dX11_stateOf_23 rfl (lv_at hl 1 rfl) ?_
    refine lv_iconst (v := 1) hx hb dX11_stateOf_24 (by decide) ?_
    refine x_clp (x_runV (b := a) (As := [.int p0, .int 1]) (rest := [.int p3]) S (c_X11_of l E K F tl z0 z1 z2 z3 z4 z5 z6 z7 z8 z9 z10 z11 z12 z13 z14 z15 z16 z17 z18 z19 z20 ar0 ar1 ar2 ar3 ar4 ar5 ar6 ar7 ar8 ar9 ar10 s.heap a p0 1 ha (z_X11_stateOf_3 p0.toInt e0 (xr p0)) (by decide)) mv_X11_of km_X11_165 rfl rfl ⟨Nat.le_of_ble_eq_true rfl, Nat.le_of_ble_eq_true rfl⟩ (rc_13 hK hT ha) hK (fun _ => XPh.blind) (fun U hU hW => XPh.at hK hz hS hT hU hW) rfl hl.1 (Nat.le_of_ble_eq_true rfl) dX11_stateOf_25 ⟨Nat.le_of_ble_eq_true rfl, Nat.le_of_ble_eq_true rfl⟩) hS ?_
    rintro _ _ locs ⟨x8, rfl, t7⟩ hS
    have t7 : x8.toInt = (aI ar1 (10 * p0.toInt + (1 : Int))) := t7
    refine lv_iload_n hx hb dX11_stateOf_28 rfl (lv_at hl 2 rfl) ?_
    refine x_clp (x_runS (As := [.int x8, .int p1]) (rest := [.int p3]) S (c_X11_at l E K F tl z0 z1 z2 z3 z4 z5 z6 z7 z8 z9 z10 z11 z12 z13 z14 z15 z16 z17 z18 z19 z20 ar0 ar1 ar2 ar3 ar4 ar5 ar6 ar7 ar8 ar9 ar10 s.heap x8 p1) ms_X11_at km_X11_156 rfl rfl ⟨Nat.le_of_ble_eq_true rfl, Nat.le_of_ble_eq_true rfl⟩ hK (fun _ => XPh.blind) (fun U hU hW => XPh.at hK hz hS hT hU hW) rfl hl.1 (Nat.le_of_ble_eq_true rfl) dX11_stateOf_29 ⟨Nat.le_of_ble_eq_true rfl, Nat.le_of_ble_eq_true rfl⟩) hS ?_
    rintro _ _ locs ⟨x11, rfl, t10⟩ hS
    have t10 : 0 ≤ x8.toInt ∧ x8.toInt ≤ 2 ∧ 0 ≤ p1.toInt ∧ p1.toInt ≤ 29 → x11.toInt = 4 * (30 * x8.toInt + p1.toInt) := t10
    refine xi_iadd hx hb (rfl : Int32.toInt p3 = p3.toInt) (rfl : Int32.toInt x11 = x11.toInt) dX11_stateOf_32 (fun x13 t14 => ?_)
    refine lv_istore (lv' := [(6, .int x13), (0, .ref a), (1, .int p0), (2, .int p1), (3, .ref p2), (4, .int p3)]) hx hb dX11_stateOf_33 hl (by decide) rfl (fun ls hl => ?_)
    refine lv_aload_n hx hb dX11_stateOf_35 rfl (lv_at hl 4 rfl) ?_
    refine lv_iload hx hb dX11_stateOf_36 (lv_at hl 0 rfl) ?_
    refine ald_of S hK hT hp2 (z_X11_stateOf_4 p1.toInt p3.toInt x11.toInt x13.toInt x3.toInt x8.toInt (aF ar1 p0.toInt) (aI ar1 (10 * p0.toInt + (0 : Int))) (aI ar1 (10 * p0.toInt + (1 : Int))) (aI ar1 (10 * p0.toInt + (2 : Int))) (aI ar1 (10 * p0.toInt + (3 : Int))) (aL ar1 p0.toInt) e1 e2 (XO.lim hp2) v1 t2 v5 hf6 t7 t10 t14 (xr p1) (xr p3) (xr x11) (xr x13) (xr x3) (xr x8)) dX11_stateOf_38 (fun x15 => ?_)
    refine lv_iconst (v := 1) hx hb dX11_stateOf_39 (by decide) ?_
    refine xi_cne (tgt := 59) hx hb (rfl : Int32.toInt x15 = x15.toInt) ((by decide) : Int32.toInt 1 = (1 : Int)) dX11_stateOf_40 (by decide) (fun c16 => ?_) (fun c16 => ?_)
    · refine lv_sipush (v := (-2000)) hx hb dX11_stateOf_59 (by decide) ?_
      exact x_ri hx hb hr hlk hQ (Nat.le_of_ble_eq_true rfl) (Nat.le_of_ble_eq_true rfl) hS dX11_stateOf_62 () ⟨_, rfl⟩ hh
    · refine lv_aload_n hx hb dX11_stateOf_43 rfl (lv_at hl 4 rfl) ?_
      refine lv_iload hx hb dX11_stateOf_44 (lv_at hl 0 rfl) ?_
      refine lv_iconst (v := 1) hx hb dX11_stateOf_46 (by decide) ?_
      refine xi_iadd hx hb (rfl : Int32.toInt x13 = x13.toInt) ((by decide) : Int32.toInt 1 = (1 : Int)) dX11_stateOf_47 (fun x17 t18 => ?_)
      refine lv_aload_n hx hb dX11_stateOf_48 rfl (lv_at hl 1 rfl) ?_
      refine lv_iload_n hx hb dX11_stateOf_49 rfl (lv_at hl 2 rfl) ?_
      refine lv_iconst (v := 2) hx hb dX11_stateOf_50 (by decide) ?_
      refine x_clp (x_runV (b := a) (As := [.int p0, .int 2]) (rest := [.int x17, .ref p2]) S (c_X11_of l E K F tl z0 z1 z2 z3 z4 z5 z6 z7 z8 z9 z10 z11 z12 z13 z14 z15 z16 z17 z18 z19 z20 ar0 ar1 ar2 ar3 ar4 ar5 ar6 ar7 ar8 ar9 ar10 s.heap a p0 2 ha (z_X11_stateOf_5 p0.toInt e0 (xr p0)) (by decide)) mv_X11_of km_X11_165 rfl rfl ⟨Nat.le_of_ble_eq_true rfl, Nat.le_of_ble_eq_true rfl⟩ (rc_13 hK hT ha) hK (fun _ => XPh.blind) (fun U hU hW => XPh.at hK hz hS hT hU hW) rfl hl.1 (Nat.le_of_ble_eq_true rfl) dX11_stateOf_51 ⟨Nat.le_of_ble_eq_true rfl, Nat.le_of_ble_eq_true rfl⟩) hS ?_
      rintro _ _ locs ⟨x20, rfl, t19⟩ hS
      have t19 : x20.toInt = (aI ar1 (10 * p0.toInt + (2 : Int))) := t19
      refine xi_iadd hx hb (rfl : Int32.toInt x17 = x17.toInt) (rfl : Int32.toInt x20 = x20.toInt) dX11_stateOf_54 (fun x22 t23 => ?_)
      refine ald_of S hK hT hp2 (z_X11_stateOf_6 p1.toInt p3.toInt x11.toInt x13.toInt x17.toInt x20.toInt x22.toInt x3.toInt x8.toInt (aF ar1 p0.toInt) (aI ar1 (10 * p0.toInt + (0 : Int))) (aI ar1 (10 * p0.toInt + (1 : Int))) (aI ar1 (10 * p0.toInt + (2 : Int))) (aI ar1 (10 * p0.toInt + (3 : Int))) (aL ar1 p0.toInt) e1 e2 (XO.lim hp2) v1 t2 v5 hf6 t7 t10 t14 t18 t19 t23 (xr p1) (xr p3) (xr x11) (xr x13) (xr x17) (xr x20) (xr x22) (xr x3) (xr x8)) dX11_stateOf_55 (fun x24 => ?_)
      refine lv_goto (tgt := 62) hx hb dX11_stateOf_56 (by decide) ?_
      exact x_ri hx hb hr hlk hQ (Nat.le_of_ble_eq_true rfl) (Nat.le_of_ble_eq_true rfl) hS dX11_stateOf_62 () ⟨_, rfl⟩ hh
  refine xi_ceq (tgt := 20) hx hb (rfl : Int32.toInt x3 = x3.toInt) ((by decide) : Int32.toInt 2 = (2 : Int)) dX11_stateOf_11 (by decide) (fun c25 => ?_) (fun c25 => ?_)
  · exact J20 _ _ (z_X11_stateOf_7 p1.toInt x3.toInt (aF ar1 p0.toInt) (aI ar1 (10 * p0.toInt + (0 : Int))) (aI ar1 (10 * p0.toInt + (1 : Int))) (aI ar1 (10 * p0.toInt + (2 : Int))) (aI ar1 (10 * p0.toInt + (3 : Int))) (aL ar1 p0.toInt) e1 e2 v1 t2 v5 c25 (xr p1) (xr x3)) hT.nil hS (lv_sub hl [1, 2, 3, 4, 5] rfl)
  · refine lv_iload hx hb dX11_stateOf_14 (lv_at hl 0 rfl) ?_
    refine lv_iconst (v := 5) hx hb dX11_stateOf_16 (by decide) ?_
    refine xi_cne (tgt := 63) hx hb (rfl : Int32.toInt x3 = x3.toInt) ((by decide) : Int32.toInt 5 = (5 : Int)) dX11_stateOf_17 (by decide) (fun c26 => ?_) (fun c26 => ?_)
    · refine lv_aload_n hx hb dX11_stateOf_63 rfl (lv_at hl 1 rfl) ?_
      refine lv_iload_n hx hb dX11_stateOf_64 rfl (lv_at hl 2 rfl) ?_
      refine lv_aload_n hx hb dX11_stateOf_65 rfl (lv_at hl 4 rfl) ?_
      refine lv_iload hx hb dX11_stateOf_66 (lv_at hl 5 rfl) ?_
      refine lv_iload_n hx hb dX11_stateOf_68 rfl (lv_at hl 3 rfl) ?_
      refine x_clp (x_runV (b := a) (As := [.int p0, .ref p2, .int p3, .int p1]) (rest := []) S (c_X11_many l E K F tl z0 z1 z2 z3 z4 z5 z6 z7 z8 z9 z10 z11 z12 z13 z14 z15 z16 z17 z18 z19 z20 ar0 ar1 ar2 ar3 ar4 ar5 ar6 ar7 ar8 ar9 ar10 s.heap a p0 p2 p3 p1 ha hp2 hR (z_X11_stateOf_8 p0.toInt e0 (xr p0))) mv_X11_many km_X11_171 rfl rfl ⟨Nat.le_of_ble_eq_true rfl, Nat.le_of_ble_eq_true rfl⟩ (rc_13 hK hT ha) hK (fun _ => XPh.blind) (fun U hU hW => XPh.at hK hz hS hT hU hW) rfl hl.1 (Nat.le_of_ble_eq_true rfl) dX11_stateOf_69 ⟨Nat.le_of_ble_eq_true rfl, Nat.le_of_ble_eq_true rfl⟩) hS ?_
      rintro _ _ locs ⟨x27, rfl⟩ hS
      refine lv_istore (lv' := [(6, .int x27), (5, .int x3), (0, .ref a), (1, .int p0), (2, .int p1), (3, .ref p2), (4, .int p3)]) hx hb dX11_stateOf_72 hl (by decide) rfl (fun ls hl => ?_)
      refine lv_iload hx hb dX11_stateOf_74 (lv_at hl 1 rfl) ?_
      refine xi_zne (tgt := 82) hx hb (rfl : Int32.toInt x3 = x3.toInt) dX11_stateOf_76 (by decide) (fun c29 => ?_) (fun c29 => ?_)
      · refine lv_iload hx hb dX11_stateOf_82 (lv_at hl 1 rfl) ?_
        refine lv_iconst (v := 3) hx hb dX11_stateOf_84 (by decide) ?_
        refine xi_cne (tgt := 108) hx hb (rfl : Int32.toInt x3 = x3.toInt) ((by decide) : Int32.toInt 3 = (3 : Int)) dX11_stateOf_85 (by decide) (fun c30 => ?_) (fun c30 => ?_)
        · refine lv_iconst (v := 2) hx hb dX11_stateOf_108 (by decide) ?_
          refine lv_iload hx hb dX11_stateOf_109 (lv_at hl 0 rfl) ?_
          refine xi_imul hx hb ((by decide) : Int32.toInt 2 = (2 : Int)) (rfl : Int32.toInt x27 = x27.toInt) dX11_stateOf_111 (fun x31 t32 => ?_)
          refine lv_iload_n hx hb dX11_stateOf_112 rfl (lv_at hl 4 rfl) ?_
          refine x_clp (x_runS (As := [.int p1]) (rest := [.int x31]) S (c_X11_isKey l E K F tl z0 z1 z2 z3 z4 z5 z6 z7 z8 z9 z10 z11 z12 z13 z14 z15 z16 z17 z18 z19 z20 ar0 ar1 ar2 ar3 ar4 ar5 ar6 ar7 ar8 ar9 ar10 s.heap p1) ms_X11_isKey km_X11_153 rfl rfl ⟨Nat.le_of_ble_eq_true rfl, Nat.le_of_ble_eq_true rfl⟩ hK (fun _ => XPh.blind) (fun U hU hW => XPh.at hK hz hS hT hU hW) rfl hl.1 (Nat.le_of_ble_eq_true rfl) dX11_stateOf_113 ⟨Nat.le_of_ble_eq_true rfl, Nat.le_of_ble_eq_true rfl⟩) hS ?_
          rintro _ _ locs ⟨x34, rfl, b35, t33⟩ hS
          have t33 : (x34.toInt = 1 ∧ 0 ≤ p1.toInt ∧ p1.toInt ≤ 29) ∨ (x34.toInt = 0 ∧ (p1.toInt < 0 ∨ 29 < p1.toInt)) := t33
          refine xi_zeq (tgt := 137) hx hb (rfl : Int32.toInt x34 = x34.toInt) dX11_stateOf_116 (by decide) (fun c36 => ?_) (fun c36 => ?_)
          · refine lv_iconst (v := 0) hx hb dX11_stateOf_137 (by decide) ?_
            refine xi_iadd hx hb (rfl : Int32.toInt x31 = x31.toInt) ((by decide) : Int32.toInt 0 = (0 : Int)) dX11_stateOf_138 (fun x37 t38 => ?_)
            exact x_ri hx hb hr hlk hQ (Nat.le_of_ble_eq_true rfl) (Nat.le_of_ble_eq_true rfl) hS dX11_stateOf_139 () ⟨_, rfl⟩ hh
          · refine lv_aload_n hx hb dX11_stateOf_119 rfl (lv_at hl 5 rfl) ?_
            refine lv_iload hx hb dX11_stateOf_120 (lv_at hl 6 rfl) ?_
            refine lv_aload_n hx hb dX11_stateOf_122 rfl (lv_at hl 2 rfl) ?_
            refine lv_iload_n hx hb dX11_stateOf_123 rfl (lv_at hl 3 rfl) ?_
            refine lv_iconst (v := 3) hx hb dX11_stateOf_124 (by decide) ?_
            refine x_clp (x_runV (b := a) (As := [.int p0, .int 3]) (rest := [.int p3, .ref p2, .int x31]) S (c_X11_of l E K F tl z0 z1 z2 z3 z4 z5 z6 z7 z8 z9 z10 z11 z12 z13 z14 z15 z16 z17 z18 z19 z20 ar0 ar1 ar2 ar3 ar4 ar5 ar6 ar7 ar8 ar9 ar10 s.heap a p0 3 ha (z_X11_stateOf_9 p0.toInt e0 (xr p0)) (by decide)) mv_X11_of km_X11_165 rfl rfl ⟨Nat.le_of_ble_eq_true rfl, Nat.le_of_ble_eq_true rfl⟩ (rc_13 hK hT ha) hK (fun _ => XPh.blind) (fun U hU hW => XPh.at hK hz hS hT hU hW) rfl hl.1 (Nat.le_of_ble_eq_true rfl) dX11_stateOf_125 ⟨Nat.le_of_ble_eq_true rfl, Nat.le_of_ble_eq_true rfl⟩) hS ?_
            rintro _ _ locs ⟨x40, rfl, t39⟩ hS
            have t39 : x40.toInt = (aI ar1 (10 * p0.toInt + (3 : Int))) := t39
            refine lv_iload_n hx hb dX11_stateOf_128 rfl (lv_at hl 4 rfl) ?_
            refine x_clp (x_runS (As := [.int x40, .int p1]) (rest := [.int p3, .ref p2, .int x31]) S (c_X11_at l E K F tl z0 z1 z2 z3 z4 z5 z6 z7 z8 z9 z10 z11 z12 z13 z14 z15 z16 z17 z18 z19 z20 ar0 ar1 ar2 ar3 ar4 ar5 ar6 ar7 ar8 ar9 ar10 s.heap x40 p1) ms_X11_at km_X11_156 rfl rfl ⟨Nat.le_of_ble_eq_true rfl, Nat.le_of_ble_eq_true rfl⟩ hK (fun _ => XPh.blind) (fun U hU hW => XPh.at hK hz hS hT hU hW) rfl hl.1 (Nat.le_of_ble_eq_true rfl) dX11_stateOf_129 ⟨Nat.le_of_ble_eq_true rfl, Nat.le_of_ble_eq_true rfl⟩) hS ?_
            rintro _ _ locs ⟨x43, rfl, t42⟩ hS
            have t42 : 0 ≤ x40.toInt ∧ x40.toInt ≤ 2 ∧ 0 ≤ p1.toInt ∧ p1.toInt ≤ 29 → x43.toInt = 4 * (30 * x40.toInt + p1.toInt) := t42
            refine xi_iadd hx hb (rfl : Int32.toInt p3 = p3.toInt) (rfl : Int32.toInt x43 = x43.toInt) dX11_stateOf_132 (fun x45 t46 => ?_)
            refine ald_of S hK hT hp2 (z_X11_stateOf_10 p1.toInt p3.toInt x3.toInt x34.toInt x40.toInt x43.toInt x45.toInt (aF ar1 p0.toInt) (aI ar1 (10 * p0.toInt + (0 : Int))) (aI ar1 (10 * p0.toInt + (1 : Int))) (aI ar1 (10 * p0.toInt + (2 : Int))) (aI ar1 (10 * p0.toInt + (3 : Int))) (aL ar1 p0.toInt) e1 e2 (XO.lim hp2) v1 t2 v5 c25 c26 c29 c30 t33 (xbz b35) c36 t39 t42 t46 (xr p1) (xr p3) (xr x3) (xr x34) (xr x40) (xr x43) (xr x45)) dX11_stateOf_133 (fun x47 => ?_)
            refine lv_goto (tgt := 138) hx hb dX11_stateOf_134 (by decide) ?_
            refine xi_iadd hx hb (rfl : Int32.toInt x31 = x31.toInt) (rfl : Int32.toInt x47 = x47.toInt) dX11_stateOf_138 (fun x48 t49 => ?_)
            exact x_ri hx hb hr hlk hQ (Nat.le_of_ble_eq_true rfl) (Nat.le_of_ble_eq_true rfl) hS dX11_stateOf_139 () ⟨_, rfl⟩ hh
        · refine lv_iload hx hb dX11_stateOf_88 (lv_at hl 0 rfl) ?_
          refine xi_zne (tgt := 98) hx hb (rfl : Int32.toInt x27 = x27.toInt) dX11_stateOf_90 (by decide) (fun c50 => ?_) (fun c50 => ?_)
          · refine lv_aload_n hx hb dX11_stateOf_98 rfl (lv_at hl 2 rfl) ?_
            refine lv_iload_n hx hb dX11_stateOf_99 rfl (lv_at hl 3 rfl) ?_
            refine lv_aload_n hx hb dX11_stateOf_100 rfl (lv_at hl 5 rfl) ?_
            refine lv_iload hx hb dX11_stateOf_101 (lv_at hl 6 rfl) ?_
            refine lv_iload_n hx hb dX11_stateOf_103 rfl (lv_at hl 4 rfl) ?_
            refine x_clp (x_runV (b := a) (As := [.int p0, .ref p2, .int p3, .int p1]) (rest := []) S (c_X11_sumOf l E K F tl z0 z1 z2 z3 z4 z5 z6 z7 z8 z9 z10 z11 z12 z13 z14 z15 z16 z17 z18 z19 z20 ar0 ar1 ar2 ar3 ar4 ar5 ar6 ar7 ar8 ar9 ar10 s.heap a p0 p2 p3 p1 ha hp2 hR (z_X11_stateOf_11 p0.toInt e0 (xr p0)) (z_X11_stateOf_12 p1.toInt x3.toInt (aF ar1 p0.toInt) (aI ar1 (10 * p0.toInt + (0 : Int))) (aI ar1 (10 * p0.toInt + (1 : Int))) (aI ar1 (10 * p0.toInt + (2 : Int))) (aI ar1 (10 * p0.toInt + (3 : Int))) (aL ar1 p0.toInt) e1 e2 v1 t2 v5 c25 c26 c29 c30 (xr p1) (xr x3))) mv_X11_sumOf km_X11_176 rfl rfl ⟨Nat.le_of_ble_eq_true rfl, Nat.le_of_ble_eq_true rfl⟩ (rc_13 hK hT ha) hK (fun _ => XPh.blind) (fun U hU hW => XPh.at hK hz hS hT hU hW) rfl hl.1 (Nat.le_of_ble_eq_true rfl) dX11_stateOf_104 ⟨Nat.le_of_ble_eq_true rfl, Nat.le_of_ble_eq_true rfl⟩) hS ?_
            rintro _ _ locs ⟨x51, rfl⟩ hS
            exact x_ri hx hb hr hlk hQ (Nat.le_of_ble_eq_true rfl) (Nat.le_of_ble_eq_true rfl) hS dX11_stateOf_107 () ⟨_, rfl⟩ hh
          · refine lv_ldc (v := 100000) hx hb S.2.2.2.1 (S.2.2.2.2 _ (List.mem_cons_of_mem _ kc_X11_175)) dX11_stateOf_93 ?_
            refine lv_goto (tgt := 107) hx hb dX11_stateOf_95 (by decide) ?_
            exact x_ri hx hb hr hlk hQ (Nat.le_of_ble_eq_true rfl) (Nat.le_of_ble_eq_true rfl) hS dX11_stateOf_107 () ⟨_, rfl⟩ hh
      · refine lv_iload hx hb dX11_stateOf_79 (lv_at hl 0 rfl) ?_
        exact x_ri hx hb hr hlk hQ (Nat.le_of_ble_eq_true rfl) (Nat.le_of_ble_eq_true rfl) hS dX11_stateOf_81 () ⟨_, rfl⟩ hh
    · exact J20 _ _ (z_X11_stateOf_13 p1.toInt x3.toInt (aF ar1 p0.toInt) (aI ar1 (10 * p0.toInt + (0 : Int))) (aI ar1 (10 * p0.toInt + (1 : Int))) (aI ar1 (10 * p0.toInt + (2 : Int))) (aI ar1 (10 * p0.toInt + (3 : Int))) (aL ar1 p0.toInt) e1 e2 v1 t2 v5 c25 c26 (xr p1) (xr x3)) hT.nil hS (lv_sub hl [1, 2, 3, 4, 5] rfl)

theorem z_X11_layStates_1 (a0 : Int) (h0 : (0 : Int) ≤ a0) (r0 : -2147483648 ≤ a0 ∧ a0 < 2147483648) : ¬ (2147483648 - a0 < ((0 : Nat) : Int)) := by omega
theorem z_X11_layStates_2 (a0 : Int) (a1 : Int) (a2 : Int) (a3 : Nat) (a4 : Int) (h0 : (0 : Int) ≤ a0) (h1 : 2147483648 - a0 < ((a3 + 1 : Nat) : Int)) (h2 : ¬ ((12 : Int) ≤ a0)) (h3 : a2 = 0 ∨ (a2 = 1 ∧ 0 ≤ a0 ∧ a0 ≤ 11 ∧ 0 ≤ a4)) (h4 : a2 = 0 ∨ a2 = 1) (h5 : a1 = a0 + 1 ∨ a0 + 1 < -2147483648 ∨ 2147483648 ≤ a0 + 1) (r0 : -2147483648 ≤ a0 ∧ a0 < 2147483648) (r1 : -2147483648 ≤ a1 ∧ a1 < 2147483648) (r2 : -2147483648 ≤ a2 ∧ a2 < 2147483648) : (0 : Int) ≤ a1 := by first | (clear h0 h1 h2 h3 h4; omega) | (clear h4; omega) | omega
theorem z_X11_layStates_3 (a0 : Int) (a1 : Int) (a2 : Int) (a3 : Nat) (a4 : Int) (h0 : (0 : Int) ≤ a0) (h1 : 2147483648 - a0 < ((a3 + 1 : Nat) : Int)) (h2 : ¬ ((12 : Int) ≤ a0)) (h3 : a2 = 0 ∨ (a2 = 1 ∧ 0 ≤ a0 ∧ a0 ≤ 11 ∧ 0 ≤ a4)) (h4 : a2 = 0 ∨ a2 = 1) (h5 : a1 = a0 + 1 ∨ a0 + 1 < -2147483648 ∨ 2147483648 ≤ a0 + 1) (r0 : -2147483648 ≤ a0 ∧ a0 < 2147483648) (r1 : -2147483648 ≤ a1 ∧ a1 < 2147483648) (r2 : -2147483648 ≤ a2 ∧ a2 < 2147483648) : 2147483648 - a1 < ((a3 : Nat) : Int) := by first | (clear h0 h2 h3 h4; omega) | (clear h4; omega) | omega
theorem z_X11_layStates_4 (a0 : Int) (a1 : Int) (a2 : Nat) (a3 : Int) (h0 : (0 : Int) ≤ a0) (h1 : 2147483648 - a0 < ((a2 + 1 : Nat) : Int)) (h2 : ¬ ((12 : Int) ≤ a0)) (h3 : a1 = 0 ∨ (a1 = 1 ∧ 0 ≤ a0 ∧ a0 ≤ 11 ∧ 0 ≤ a3)) (h4 : a1 = 0 ∨ a1 = 1) (h5 : ¬ (a1 = 0)) (r0 : -2147483648 ≤ a0 ∧ a0 < 2147483648) (r1 : -2147483648 ≤ a1 ∧ a1 < 2147483648) : 0 ≤ a0 ∧ a0 ≤ 11 := by first | (clear h4 h5; omega) | omega
theorem z_X11_layStates_5 (a0 : Int) (a1 : Int) (a2 : Nat) (a3 : Int) (h0 : (0 : Int) ≤ a0) (h1 : 2147483648 - a0 < ((a2 + 1 : Nat) : Int)) (h2 : ¬ ((12 : Int) ≤ a0)) (h3 : a1 = 0 ∨ (a1 = 1 ∧ 0 ≤ a0 ∧ a0 ≤ 11 ∧ 0 ≤ a3)) (h4 : a1 = 0 ∨ a1 = 1) (h5 : ¬ (a1 = 0)) (r0 : -2147483648 ≤ a0 ∧ a0 < 2147483648) (r1 : -2147483648 ≤ a1 ∧ a1 < 2147483648) : 0 ≤ a0 ∧ a0 ≤ 11 := by first | (clear h4 h5; omega) | omega
theorem z_X11_layStates_6 (a0 : Int) (a1 : Int) (a2 : Int) (a3 : Int) (h0 : a2 ≤ a1 ∧ a1 ≤ a3 + 1) (h1 : a0 = a2 ∧ -99 ≤ a2 ∧ a2 ≤ 0 ∧ 29 ≤ a3 ∧ a3 ≤ 99 ∧ a3 - a2 ≤ 198) (r0 : -2147483648 ≤ a0 ∧ a0 < 2147483648) (r1 : -2147483648 ≤ a1 ∧ a1 < 2147483648) : ¬ (2147483648 - a1 < ((0 : Nat) : Int)) := by omega
theorem z_X11_layStates_7 (a0 : Int) (a1 : Int) (a2 : Nat) (a3 : Int) (a4 : Int) (a5 : Int) (a6 : Int) (h0 : (0 : Int) ≤ a0) (h1 : 2147483648 - a0 < ((a2 + 1 : Nat) : Int)) (h2 : ¬ ((12 : Int) ≤ a0)) (h3 : a1 = 0 ∨ (a1 = 1 ∧ 0 ≤ a0 ∧ a0 ≤ 11 ∧ 0 ≤ a3)) (h4 : a1 = 0 ∨ a1 = 1) (h5 : ¬ (a1 = 0)) (h6 : (-1 ≤ a3 ∧ a3 ≤ 5) ∧ (0 ≤ a4 ∧ a4 ≤ 2) ∧ (0 ≤ a5 ∧ a5 ≤ 2) ∧ (-1 ≤ a6 ∧ a6 ≤ 2) ∧ (a3 = 1 ∨ a3 = 3 ∨ a3 = 4 → 0 ≤ a6)) (r0 : -2147483648 ≤ a0 ∧ a0 < 2147483648) (r1 : -2147483648 ≤ a1 ∧ a1 < 2147483648) : 0 ≤ a0 ∧ a0 ≤ 11 := by first | (clear h4 h5 h6; omega) | omega
theorem z_X11_layStates_8 (a0 : Int) (a1 : Int) (a2 : Int) (a3 : Int) (a4 : Int) (a5 : Int) (a6 : Nat) (a7 : Nat) (a8 : Int) (a9 : Int) (a10 : Int) (a11 : Int) (a12 : Int) (a13 : Int) (h0 : (0 : Int) ≤ a0) (h1 : 2147483648 - a0 < ((a7 + 1 : Nat) : Int)) (h2 : ¬ ((12 : Int) ≤ a0)) (h3 : a5 = 0 ∨ (a5 = 1 ∧ 0 ≤ a0 ∧ a0 ≤ 11 ∧ 0 ≤ a9)) (h4 : a5 = 0 ∨ a5 = 1) (h5 : ¬ (a5 = 0)) (h6 : a1 = a8 ∧ -99 ≤ a8 ∧ a8 ≤ 0 ∧ 29 ≤ a13 ∧ a13 ≤ 99 ∧ a13 - a8 ≤ 198) (h7 : (-1 ≤ a9 ∧ a9 ≤ 5) ∧ (0 ≤ a10 ∧ a10 ≤ 2) ∧ (0 ≤ a11 ∧ a11 ≤ 2) ∧ (-1 ≤ a12 ∧ a12 ≤ 2) ∧ (a9 = 1 ∨ a9 = 3 ∨ a9 = 4 → 0 ≤ a12)) (h8 : a8 ≤ a2 ∧ a2 ≤ a13 + 1) (h9 : 2147483648 - a2 < ((a6 + 1 : Nat) : Int)) (h10 : a3 = a13 ∧ -99 ≤ a8 ∧ a8 ≤ 0 ∧ 29 ≤ a13 ∧ a13 ≤ 99 ∧ a13 - a8 ≤ 198) (h11 : ¬ (a3 < a2)) (h12 : 0 ≤ a0 ∧ a0 ≤ 11 ∧ -99 ≤ a2 ∧ a2 ≤ 99 → a4 = 199 * a0 + a2 + 99) (r0 : -2147483648 ≤ a0 ∧ a0 < 2147483648) (r1 : -2147483648 ≤ a1 ∧ a1 < 2147483648) (r2 : -2147483648 ≤ a2 ∧ a2 < 2147483648) (r3 : -2147483648 ≤ a3 ∧ a3 < 2147483648) (r4 : -2147483648 ≤ a4 ∧ a4 < 2147483648) (r5 : -2147483648 ≤ a5 ∧ a5 < 2147483648) : 0 ≤ a0 ∧ a0 ≤ 11 := by first | (clear h4 h5 h6 h7 h8 h9 h10 h11; omega) | (clear h6 h10; omega) | omega
theorem z_X11_layStates_9 (a0 : Int) (a1 : Int) (a2 : Int) (a3 : Int) (a4 : Int) (a5 : Int) (a6 : Nat) (a7 : Nat) (a8 : Int) (a9 : Int) (a10 : Int) (a11 : Int) (a12 : Int) (a13 : Int) (h0 : (0 : Int) ≤ a0) (h1 : 2147483648 - a0 < ((a7 + 1 : Nat) : Int)) (h2 : ¬ ((12 : Int) ≤ a0)) (h3 : a5 = 0 ∨ (a5 = 1 ∧ 0 ≤ a0 ∧ a0 ≤ 11 ∧ 0 ≤ a9)) (h4 : a5 = 0 ∨ a5 = 1) (h5 : ¬ (a5 = 0)) (h6 : a1 = a8 ∧ -99 ≤ a8 ∧ a8 ≤ 0 ∧ 29 ≤ a13 ∧ a13 ≤ 99 ∧ a13 - a8 ≤ 198) (h7 : (-1 ≤ a9 ∧ a9 ≤ 5) ∧ (0 ≤ a10 ∧ a10 ≤ 2) ∧ (0 ≤ a11 ∧ a11 ≤ 2) ∧ (-1 ≤ a12 ∧ a12 ≤ 2) ∧ (a9 = 1 ∨ a9 = 3 ∨ a9 = 4 → 0 ≤ a12)) (h8 : a8 ≤ a2 ∧ a2 ≤ a13 + 1) (h9 : 2147483648 - a2 < ((a6 + 1 : Nat) : Int)) (h10 : a3 = a13 ∧ -99 ≤ a8 ∧ a8 ≤ 0 ∧ 29 ≤ a13 ∧ a13 ≤ 99 ∧ a13 - a8 ≤ 198) (h11 : ¬ (a3 < a2)) (h12 : 0 ≤ a0 ∧ a0 ≤ 11 ∧ -99 ≤ a2 ∧ a2 ≤ 99 → a4 = 199 * a0 + a2 + 99) (r0 : -2147483648 ≤ a0 ∧ a0 < 2147483648) (r1 : -2147483648 ≤ a1 ∧ a1 < 2147483648) (r2 : -2147483648 ≤ a2 ∧ a2 < 2147483648) (r3 : -2147483648 ≤ a3 ∧ a3 < 2147483648) (r4 : -2147483648 ≤ a4 ∧ a4 < 2147483648) (r5 : -2147483648 ≤ a5 ∧ a5 < 2147483648) : 0 ≤ a9 := by first | (clear h0 h1 h2 h4 h5 h6 h8 h9 h10 h11 h12; omega) | (clear h6 h8 h9 h10 h11; omega) | (clear h6 h10; omega) | omega
theorem z_X11_layStates_10 (a0 : Int) (a1 : Int) (a2 : Int) (a3 : Int) (a4 : Int) (a5 : Int) (a6 : Nat) (a7 : Nat) (a8 : Int) (a9 : Int) (a10 : Int) (a11 : Int) (a12 : Int) (a13 : Int) (h0 : (0 : Int) ≤ a0) (h1 : 2147483648 - a0 < ((a7 + 1 : Nat) : Int)) (h2 : ¬ ((12 : Int) ≤ a0)) (h3 : a5 = 0 ∨ (a5 = 1 ∧ 0 ≤ a0 ∧ a0 ≤ 11 ∧ 0 ≤ a9)) (h4 : a5 = 0 ∨ a5 = 1) (h5 : ¬ (a5 = 0)) (h6 : a1 = a8 ∧ -99 ≤ a8 ∧ a8 ≤ 0 ∧ 29 ≤ a13 ∧ a13 ≤ 99 ∧ a13 - a8 ≤ 198) (h7 : (-1 ≤ a9 ∧ a9 ≤ 5) ∧ (0 ≤ a10 ∧ a10 ≤ 2) ∧ (0 ≤ a11 ∧ a11 ≤ 2) ∧ (-1 ≤ a12 ∧ a12 ≤ 2) ∧ (a9 = 1 ∨ a9 = 3 ∨ a9 = 4 → 0 ≤ a12)) (h8 : a8 ≤ a2 ∧ a2 ≤ a13 + 1) (h9 : 2147483648 - a2 < ((a6 + 1 : Nat) : Int)) (h10 : a3 = a13 ∧ -99 ≤ a8 ∧ a8 ≤ 0 ∧ 29 ≤ a13 ∧ a13 ≤ 99 ∧ a13 - a8 ≤ 198) (h11 : ¬ (a3 < a2)) (h12 : 0 ≤ a0 ∧ a0 ≤ 11 ∧ -99 ≤ a2 ∧ a2 ≤ 99 → a4 = 199 * a0 + a2 + 99) (r0 : -2147483648 ≤ a0 ∧ a0 < 2147483648) (r1 : -2147483648 ≤ a1 ∧ a1 < 2147483648) (r2 : -2147483648 ≤ a2 ∧ a2 < 2147483648) (r3 : -2147483648 ≤ a3 ∧ a3 < 2147483648) (r4 : -2147483648 ≤ a4 ∧ a4 < 2147483648) (r5 : -2147483648 ≤ a5 ∧ a5 < 2147483648) : a8 ≤ a2 ∧ a2 ≤ a13 := by first | (clear h0 h1 h2 h3 h4 h5 h7; omega) | (clear h4 h5 h7; omega) | omega
theorem z_X11_layStates_11 (a0 : Int) (a1 : Int) (a2 : Int) (a3 : Int) (a4 : Int) (a5 : Int) (a6 : Nat) (a7 : Nat) (a8 : Int) (a9 : Int) (a10 : Int) (a11 : Int) (a12 : Int) (a13 : Int) (h0 : (0 : Int) ≤ a0) (h1 : 2147483648 - a0 < ((a7 + 1 : Nat) : Int)) (h2 : ¬ ((12 : Int) ≤ a0)) (h3 : a5 = 0 ∨ (a5 = 1 ∧ 0 ≤ a0 ∧ a0 ≤ 11 ∧ 0 ≤ a9)) (h4 : a5 = 0 ∨ a5 = 1) (h5 : ¬ (a5 = 0)) (h6 : a1 = a8 ∧ -99 ≤ a8 ∧ a8 ≤ 0 ∧ 29 ≤ a13 ∧ a13 ≤ 99 ∧ a13 - a8 ≤ 198) (h7 : (-1 ≤ a9 ∧ a9 ≤ 5) ∧ (0 ≤ a10 ∧ a10 ≤ 2) ∧ (0 ≤ a11 ∧ a11 ≤ 2) ∧ (-1 ≤ a12 ∧ a12 ≤ 2) ∧ (a9 = 1 ∨ a9 = 3 ∨ a9 = 4 → 0 ≤ a12)) (h8 : a8 ≤ a2 ∧ a2 ≤ a13 + 1) (h9 : 2147483648 - a2 < ((a6 + 1 : Nat) : Int)) (h10 : a3 = a13 ∧ -99 ≤ a8 ∧ a8 ≤ 0 ∧ 29 ≤ a13 ∧ a13 ≤ 99 ∧ a13 - a8 ≤ 198) (h11 : ¬ (a3 < a2)) (h12 : 0 ≤ a0 ∧ a0 ≤ 11 ∧ -99 ≤ a2 ∧ a2 ≤ 99 → a4 = 199 * a0 + a2 + 99) (r0 : -2147483648 ≤ a0 ∧ a0 < 2147483648) (r1 : -2147483648 ≤ a1 ∧ a1 < 2147483648) (r2 : -2147483648 ≤ a2 ∧ a2 < 2147483648) (r3 : -2147483648 ≤ a3 ∧ a3 < 2147483648) (r4 : -2147483648 ≤ a4 ∧ a4 < 2147483648) (r5 : -2147483648 ≤ a5 ∧ a5 < 2147483648) : 0 ≤ a4 ∧ a4 < ((2388 : Nat) : Int) := by first | (clear h0 h1 h2 h3 h4 h5 h6 h7 h8 h9 h10 h11; omega) | (clear h4 h5 h6 h7 h10; omega) | omega
theorem z_X11_layStates_12 (a0 : Int) (a1 : Int) (a2 : Int) (a3 : Int) (a4 : Int) (a5 : Int) (a6 : Int) (a7 : Nat) (a8 : Nat) (a9 : Int) (a10 : Int) (a11 : Int) (a12 : Int) (a13 : Int) (a14 : Int) (h0 : (0 : Int) ≤ a0) (h1 : 2147483648 - a0 < ((a8 + 1 : Nat) : Int)) (h2 : ¬ ((12 : Int) ≤ a0)) (h3 : a6 = 0 ∨ (a6 = 1 ∧ 0 ≤ a0 ∧ a0 ≤ 11 ∧ 0 ≤ a10)) (h4 : a6 = 0 ∨ a6 = 1) (h5 : ¬ (a6 = 0)) (h6 : a1 = a9 ∧ -99 ≤ a9 ∧ a9 ≤ 0 ∧ 29 ≤ a14 ∧ a14 ≤ 99 ∧ a14 - a9 ≤ 198) (h7 : (-1 ≤ a10 ∧ a10 ≤ 5) ∧ (0 ≤ a11 ∧ a11 ≤ 2) ∧ (0 ≤ a12 ∧ a12 ≤ 2) ∧ (-1 ≤ a13 ∧ a13 ≤ 2) ∧ (a10 = 1 ∨ a10 = 3 ∨ a10 = 4 → 0 ≤ a13)) (h8 : a9 ≤ a2 ∧ a2 ≤ a14 + 1) (h9 : 2147483648 - a2 < ((a7 + 1 : Nat) : Int)) (h10 : a3 = a14 ∧ -99 ≤ a9 ∧ a9 ≤ 0 ∧ 29 ≤ a14 ∧ a14 ≤ 99 ∧ a14 - a9 ≤ 198) (h11 : ¬ (a3 < a2)) (h12 : 0 ≤ a0 ∧ a0 ≤ 11 ∧ -99 ≤ a2 ∧ a2 ≤ 99 → a4 = 199 * a0 + a2 + 99) (h13 : a5 = a2 + 1 ∨ a2 + 1 < -2147483648 ∨ 2147483648 ≤ a2 + 1) (r0 : -2147483648 ≤ a0 ∧ a0 < 2147483648) (r1 : -2147483648 ≤ a1 ∧ a1 < 2147483648) (r2 : -2147483648 ≤ a2 ∧ a2 < 2147483648) (r3 : -2147483648 ≤ a3 ∧ a3 < 2147483648) (r4 : -2147483648 ≤ a4 ∧ a4 < 2147483648) (r5 : -2147483648 ≤ a5 ∧ a5 < 2147483648) (r6 : -2147483648 ≤ a6 ∧ a6 < 2147483648) : a9 ≤ a5 ∧ a5 ≤ a14 + 1 := by first | (clear h0 h1 h2 h3 h4 h5 h7 h9 h11 h12; omega) | (clear h0 h1 h2 h3 h4 h5 h7; omega) | (clear h4 h5 h7; omega) | omega
theorem z_X11_layStates_13 (a0 : Int) (a1 : Int) (a2 : Int) (a3 : Int) (a4 : Int) (a5 : Int) (a6 : Int) (a7 : Nat) (a8 : Nat) (a9 : Int) (a10 : Int) (a11 : Int) (a12 : Int) (a13 : Int) (a14 : Int) (h0 : (0 : Int) ≤ a0) (h1 : 2147483648 - a0 < ((a8 + 1 : Nat) : Int)) (h2 : ¬ ((12 : Int) ≤ a0)) (h3 : a6 = 0 ∨ (a6 = 1 ∧ 0 ≤ a0 ∧ a0 ≤ 11 ∧ 0 ≤ a10)) (h4 : a6 = 0 ∨ a6 = 1) (h5 : ¬ (a6 = 0)) (h6 : a1 = a9 ∧ -99 ≤ a9 ∧ a9 ≤ 0 ∧ 29 ≤ a14 ∧ a14 ≤ 99 ∧ a14 - a9 ≤ 198) (h7 : (-1 ≤ a10 ∧ a10 ≤ 5) ∧ (0 ≤ a11 ∧ a11 ≤ 2) ∧ (0 ≤ a12 ∧ a12 ≤ 2) ∧ (-1 ≤ a13 ∧ a13 ≤ 2) ∧ (a10 = 1 ∨ a10 = 3 ∨ a10 = 4 → 0 ≤ a13)) (h8 : a9 ≤ a2 ∧ a2 ≤ a14 + 1) (h9 : 2147483648 - a2 < ((a7 + 1 : Nat) : Int)) (h10 : a3 = a14 ∧ -99 ≤ a9 ∧ a9 ≤ 0 ∧ 29 ≤ a14 ∧ a14 ≤ 99 ∧ a14 - a9 ≤ 198) (h11 : ¬ (a3 < a2)) (h12 : 0 ≤ a0 ∧ a0 ≤ 11 ∧ -99 ≤ a2 ∧ a2 ≤ 99 → a4 = 199 * a0 + a2 + 99) (h13 : a5 = a2 + 1 ∨ a2 + 1 < -2147483648 ∨ 2147483648 ≤ a2 + 1) (r0 : -2147483648 ≤ a0 ∧ a0 < 2147483648) (r1 : -2147483648 ≤ a1 ∧ a1 < 2147483648) (r2 : -2147483648 ≤ a2 ∧ a2 < 2147483648) (r3 : -2147483648 ≤ a3 ∧ a3 < 2147483648) (r4 : -2147483648 ≤ a4 ∧ a4 < 2147483648) (r5 : -2147483648 ≤ a5 ∧ a5 < 2147483648) (r6 : -2147483648 ≤ a6 ∧ a6 < 2147483648) : 2147483648 - a5 < ((a7 : Nat) : Int) := by first | (clear h0 h1 h2 h3 h4 h5 h6 h7 h8 h10 h11 h12; omega) | (clear h0 h1 h2 h3 h4 h5 h6 h7 h10; omega) | (clear h4 h5 h7; omega) | omega
theorem z_X11_layStates_14 (a0 : Int) (a1 : Int) (a2 : Int) (h0 : a0 = a1 ∧ -99 ≤ a1 ∧ a1 ≤ 0 ∧ 29 ≤ a2 ∧ a2 ≤ 99 ∧ a2 - a1 ≤ 198) (r0 : -2147483648 ≤ a0 ∧ a0 < 2147483648) : a1 ≤ a0 ∧ a0 ≤ a2 + 1 := by omega
theorem z_X11_layStates_15 (a0 : Int) (a1 : Int) (a2 : Int) (h0 : a0 = a1 ∧ -99 ≤ a1 ∧ a1 ≤ 0 ∧ 29 ≤ a2 ∧ a2 ≤ 99 ∧ a2 - a1 ≤ 198) (r0 : -2147483648 ≤ a0 ∧ a0 < 2147483648) : 2147483648 - a0 < ((4294967297 : Nat) : Int) := by omega
abbrev rm_X11_layStates : Room := { frames := 3, cells := 0, slots := 0, locals := 77 }
set_option maxHeartbeats 4000000 in
set_option maxRecDepth 100000 in
theorem c_X11_layStates (l : Launch) (E : XE) (K : Nat → Nat) (F : Nat → Nat → Nat) (tl z0 z1 z2 z3 z4 z5 z6 z7 z8 z9 z10 z11 z12 z13 z14 z15 z16 z17 z18 z19 z20 : Int32) (ar0 ar1 ar2 ar3 ar4 ar5 ar6 ar7 ar8 ar9 ar10 : Nat → Int32) (a : Nat) (p0 : Nat) (p1 : Nat) (p2 : Int32) (ha : K a = 13) (hp0 : K p0 = 38) (hp1 : XO K p1 p2.toInt) (hR : RV ar1) : Met l yX11_layStates (xw yX11_layStates cX11_layStates 6 none) rm_X11_layStates (va_Pc [.ref a, .ref p0, .ref p1, .int p2] (XP E K F (tl, [z0, z1, z2, z3, z4, z5, z6, z7, z8, z9, z10, z11, z12, z13, z14, z15, z16, z17, z18, z19, z20], [ar0, ar1, ar2, ar3, ar4, ar5, ar6, ar7, ar8, ar9, ar10]))) (XQv E (fun (u : Unit) => True) (fun _ H => TW E K F (tl, [z0, z1, z2, z3, z4, z5, z6, z7, z8, z9, z10, z11, z12, z13, z14, z15, z16, z17, z18, z19, z20], [ar0, ar1, ar2, ar3, ar4, ar5, ar6, ar7, ar8, ar9, ar10]) [] H)) 0 0 (xA E) := by
  refine x_enter (by decide) (Nat.le_of_ble_eq_true rfl) ?_
  intro p e s m args below meth c Q S hr hlk hnm hQ hP ls hl
  obtain ⟨hz, hK, hT⟩ := hP
  obtain ⟨hx, hb, -, -, -⟩ := id S
  obtain ⟨H, hT, hS, hgo⟩ : ∃ H : Heap, TW E K F (tl, [z0, z1, z2, z3, z4, z5, z6, z7, z8, z9, z10, z11, z12, z13, z14, z15, z16, z17, z18, z19, z20], [ar0, ar1, ar2, ar3, ar4, ar5, ar6, ar7, ar8, ar9, ar10]) [] H ∧ va_S (xA E) s.heap H [] ∧ H = s.heap := ⟨_, hT, va_S.rf, rfl⟩
  rw [← hgo]
  have hl : lv_has ls 6 [(0, .ref a), (1, .ref p0), (2, .ref p1), (3, .int p2)] := hl
  refine lv_iconst (v := 0) hx hb dX11_layStates_0 (by decide) ?_
  refine lv_istore (lv' := [(4, .int 0), (0, .ref a), (1, .ref p0), (2, .ref p1), (3, .int p2)]) hx hb dX11_layStates_1 hl (by decide) rfl (fun ls hl => ?_)
  have L3 : ∀ (N2 : Nat) (x1 : Int32) (H : Heap) (locs : List Loc) (ls : Array Slot), (0 : Int) ≤ x1.toInt → 2147483648 - x1.toInt < ((N2 : Nat) : Int) → TW E K F (tl, [z0, z1, z2, z3, z4, z5, z6, z7, z8, z9, z10, z11, z12, z13, z14, z15, z16, z17, z18, z19, z20], [ar0, ar1, ar2, ar3, ar4, ar5, ar6, ar7, ar8, ar9, ar10]) [] H → va_S (xA E) s.heap H locs → lv_has ls 6 [(0, .ref a), (1, .ref p0), (2, .ref p1), (3, .int p2), (4, .int x1)] → W p l e rm_X11_layStates s m args below meth c H locs 0 0 Q (F0 m 3 ls []) := by
    intro N2
    induction N2 with
    | zero =>
      intro x1 H locs ls hf3 hm4
      exact absurd hm4 (z_X11_layStates_1 x1.toInt hf3 (xr x1))
    | succ N2 ih5 =>
      intro x1 H locs ls hf3 hm4 hT hS hl
      refine lv_iload hx hb dX11_layStates_3 (lv_at hl 4 rfl) ?_
      refine lv_bipush (v := 12) hx hb dX11_layStates_5 (by decide) ?_
      refine xi_cge (tgt := 69) hx hb (rfl : Int32.toInt x1 = x1.toInt) ((by decide) : Int32.toInt 12 = (12 : Int)) dX11_layStates_7 (by decide) (fun c6 => ?_) (fun c6 => ?_)
      · exact x_rv hx hb hr hlk hQ (Nat.le_of_ble_eq_true rfl) (Nat.le_of_ble_eq_true rfl) hS dX11_layStates_69 () trivial hT.nil
      · refine lv_aload_n hx hb dX11_layStates_10 rfl (lv_at hl 0 rfl) ?_
        refine lv_iload hx hb dX11_layStates_11 (lv_at hl 4 rfl) ?_
        refine x_clp (x_runV (b := a) (As := [.int x1]) (rest := []) S (c_X11_isRule l E K F tl z0 z1 z2 z3 z4 z5 z6 z7 z8 z9 z10 z11 z12 z13 z14 z15 z16 z17 z18 z19 z20 ar0 ar1 ar2 ar3 ar4 ar5 ar6 ar7 ar8 ar9 ar10 H a x1 ha hR) mv_X11_isRule km_X11_162 rfl rfl ⟨Nat.le_of_ble_eq_true rfl, Nat.le_of_ble_eq_true rfl⟩ (rc_13 hK hT ha) hK (fun _ => XPh.blind) (fun U hU hW => XPh.at hK hz hS hT hU hW) rfl hl.1 (Nat.le_of_ble_eq_true rfl) dX11_layStates_13 ⟨Nat.le_of_ble_eq_true rfl, Nat.le_of_ble_eq_true rfl⟩) hS ?_
        rintro _ _ locs ⟨x8, rfl, b9, t7⟩ hS
        have t7 : x8.toInt = 0 ∨ (x8.toInt = 1 ∧ 0 ≤ x1.toInt ∧ x1.toInt ≤ 11 ∧ 0 ≤ (aI ar1 (10 * x1.toInt + (0 : Int)))) := t7
        have J63 : ∀ (H : Heap) (locs : List Loc) (ls : Array Slot), TW E K F (tl, [z0, z1, z2, z3, z4, z5, z6, z7, z8, z9, z10, z11, z12, z13, z14, z15, z16, z17, z18, z19, z20], [ar0, ar1, ar2, ar3, ar4, ar5, ar6, ar7, ar8, ar9, ar10]) [] H → va_S (xA E) s.heap H locs → lv_has ls 6 [(0, .ref a), (1, .ref p0), (2, .ref p1), (3, .int p2), (4, .int x1)] → W p l e rm_X11_layStates s m args below meth c H locs 0 0 Q (F0 m 63 ls []) := by
          intro H locs ls hT hS hl
          refine xi_iinc (n := 1) (lv' := fun z9 => [(4, .int z9), (0, .ref a), (1, .ref p0), (2, .ref p1), (3, .int p2)]) (k := 4) hx hb (rfl : Int32.toInt x1 = x1.toInt) (by decide) dX11_layStates_63 hl rfl (by decide) (fun _ => rfl) (fun x10 ls t11 hl => ?_)
          have hl : lv_has ls 6 [(4, .int x10), (0, .ref a), (1, .ref p0), (2, .ref p1), (3, .int p2)] := hl
          refine lv_goto (tgt := 3) hx hb dX11_layStates_66 (by decide) ?_
          exact ih5 x10 _ _ _ (z_X11_layStates_2 x1.toInt x10.toInt x8.toInt N2 (aI ar1 (10 * x1.toInt + (0 : Int))) hf3 hm4 c6 t7 (xbz b9) t11 (xr x1) (xr x10) (xr x8)) (z_X11_layStates_3 x1.toInt x10.toInt x8.toInt N2 (aI ar1 (10 * x1.toInt + (0 : Int))) hf3 hm4 c6 t7 (xbz b9) t11 (xr x1) (xr x10) (xr x8)) hT.nil hS (lv_sub hl [1, 2, 3, 4, 0] rfl)
        refine xi_zeq (tgt := 63) hx hb (rfl : Int32.toInt x8 = x8.toInt) dX11_layStates_16 (by decide) (fun c12 => ?_) (fun c12 => ?_)
        · exact J63 _ _ _ hT.nil hS (lv_sub hl [0, 1, 2, 3, 4] rfl)
        · refine lv_aload_n hx hb dX11_layStates_19 rfl (lv_at hl 0 rfl) ?_
          refine lv_iload hx hb dX11_layStates_20 (lv_at hl 4 rfl) ?_
          refine x_clp (x_runV (b := a) (As := [.int x1]) (rest := []) S (c_X11_firstSubject l E K F tl z0 z1 z2 z3 z4 z5 z6 z7 z8 z9 z10 z11 z12 z13 z14 z15 z16 z17 z18 z19 z20 ar0 ar1 ar2 ar3 ar4 ar5 ar6 ar7 ar8 ar9 ar10 H a x1 ha hR (z_X11_layStates_4 x1.toInt x8.toInt N2 (aI ar1 (10 * x1.toInt + (0 : Int))) hf3 hm4 c6 t7 (xbz b9) c12 (xr x1) (xr x8))) mv_X11_firstSubject km_X11_179 rfl rfl ⟨Nat.le_of_ble_eq_true rfl, Nat.le_of_ble_eq_true rfl⟩ (rc_13 hK hT ha) hK (fun _ => XPh.blind) (fun U hU hW => XPh.at hK hz hS hT hU hW) rfl hl.1 (Nat.le_of_ble_eq_true rfl) dX11_layStates_22 ⟨Nat.le_of_ble_eq_true rfl, Nat.le_of_ble_eq_true rfl⟩) hS ?_
          rintro _ _ locs ⟨x14, rfl, t13⟩ hS
          have t13 : x14.toInt = (aF ar1 x1.toInt) ∧ -99 ≤ (aF ar1 x1.toInt) ∧ (aF ar1 x1.toInt) ≤ 0 ∧ 29 ≤ (aL ar1 x1.toInt) ∧ (aL ar1 x1.toInt) ≤ 99 ∧ (aL ar1 x1.toInt) - (aF ar1 x1.toInt) ≤ 198 := t13
          have v16 : (-1 ≤ (aI ar1 (10 * x1.toInt + (0 : Int))) ∧ (aI ar1 (10 * x1.toInt + (0 : Int))) ≤ 5) ∧ (0 ≤ (aI ar1 (10 * x1.toInt + (1 : Int))) ∧ (aI ar1 (10 * x1.toInt + (1 : Int))) ≤ 2) ∧ (0 ≤ (aI ar1 (10 * x1.toInt + (2 : Int))) ∧ (aI ar1 (10 * x1.toInt + (2 : Int))) ≤ 2) ∧ (-1 ≤ (aI ar1 (10 * x1.toInt + (3 : Int))) ∧ (aI ar1 (10 * x1.toInt + (3 : Int))) ≤ 2) ∧ ((aI ar1 (10 * x1.toInt + (0 : Int))) = 1 ∨ (aI ar1 (10 * x1.toInt + (0 : Int))) = 3 ∨ (aI ar1 (10 * x1.toInt + (0 : Int))) = 4 → 0 ≤ (aI ar1 (10 * x1.toInt + (3 : Int)))) := RV.row hR (z_X11_layStates_5 x1.toInt x8.toInt N2 (aI ar1 (10 * x1.toInt + (0 : Int))) hf3 hm4 c6 t7 (xbz b9) c12 (xr x1) (xr x8))
          refine lv_istore (lv' := [(5, .int x14), (0, .ref a), (1, .ref p0), (2, .ref p1), (3, .int p2), (4, .int x1)]) hx hb dX11_layStates_25 hl (by decide) rfl (fun ls hl => ?_)
          have L27 : ∀ (N18 : Nat) (x17 : Int32) (H : Heap) (locs : List Loc) (ls : Array Slot), (aF ar1 x1.toInt) ≤ x17.toInt ∧ x17.toInt ≤ (aL ar1 x1.toInt) + 1 → 2147483648 - x17.toInt < ((N18 : Nat) : Int) → TW E K F (tl, [z0, z1, z2, z3, z4, z5, z6, z7, z8, z9, z10, z11, z12, z13, z14, z15, z16, z17, z18, z19, z20], [ar0, ar1, ar2, ar3, ar4, ar5, ar6, ar7, ar8, ar9, ar10]) [] H → va_S (xA E) s.heap H locs → lv_has ls 6 [(0, .ref a), (1, .ref p0), (2, .ref p1), (3, .int p2), (4, .int x1), (5, .int x17)] → W p l e rm_X11_layStates s m args below meth c H locs 0 0 Q (F0 m 27 ls []) := by
            intro N18
            induction N18 with
            | zero =>
              intro x17 H locs ls hf19 hm20
              exact absurd hm20 (z_X11_layStates_6 x14.toInt x17.toInt (aF ar1 x1.toInt) (aL ar1 x1.toInt) hf19 t13 (xr x14) (xr x17))
            | succ N18 ih21 =>
              intro x17 H locs ls hf19 hm20 hT hS hl
              refine lv_iload hx hb dX11_layStates_27 (lv_at hl 5 rfl) ?_
              refine lv_aload_n hx hb dX11_layStates_29 rfl (lv_at hl 0 rfl) ?_
              refine lv_iload hx hb dX11_layStates_30 (lv_at hl 4 rfl) ?_
              refine x_clp (x_runV (b := a) (As := [.int x1]) (rest := [.int x17]) S (c_X11_lastSubject l E K F tl z0 z1 z2 z3 z4 z5 z6 z7 z8 z9 z10 z11 z12 z13 z14 z15 z16 z17 z18 z19 z20 ar0 ar1 ar2 ar3 ar4 ar5 ar6 ar7 ar8 ar9 ar10 H a x1 ha hR (z_X11_layStates_7 x1.toInt x8.toInt N2 (aI ar1 (10 * x1.toInt + (0 : Int))) (aI ar1 (10 * x1.toInt + (1 : Int))) (aI ar1 (10 * x1.toInt + (2 : Int))) (aI ar1 (10 * x1.toInt + (3 : Int))) hf3 hm4 c6 t7 (xbz b9) c12 v16 (xr x1) (xr x8))) mv_X11_lastSubject km_X11_183 rfl rfl ⟨Nat.le_of_ble_eq_true rfl, Nat.le_of_ble_eq_true rfl⟩ (rc_13 hK hT ha) hK (fun _ => XPh.blind) (fun U hU hW => XPh.at hK hz hS hT hU hW) rfl hl.1 (Nat.le_of_ble_eq_true rfl) dX11_layStates_32 ⟨Nat.le_of_ble_eq_true rfl, Nat.le_of_ble_eq_true rfl⟩) hS ?_
              rintro _ _ locs ⟨x23, rfl, t22⟩ hS
              have t22 : x23.toInt = (aL ar1 x1.toInt) ∧ -99 ≤ (aF ar1 x1.toInt) ∧ (aF ar1 x1.toInt) ≤ 0 ∧ 29 ≤ (aL ar1 x1.toInt) ∧ (aL ar1 x1.toInt) ≤ 99 ∧ (aL ar1 x1.toInt) - (aF ar1 x1.toInt) ≤ 198 := t22
              refine xi_cgt (tgt := 63) hx hb (rfl : Int32.toInt x17 = x17.toInt) (rfl : Int32.toInt x23 = x23.toInt) dX11_layStates_35 (by decide) (fun c25 => ?_) (fun c25 => ?_)
              · exact J63 _ _ _ hT.nil hS (lv_sub hl [0, 1, 2, 3, 4] rfl)
              · refine lv_aload_n hx hb dX11_layStates_38 rfl (lv_at hl 1 rfl) ?_
                refine lv_iload hx hb dX11_layStates_39 (lv_at hl 4 rfl) ?_
                refine lv_iload hx hb dX11_layStates_41 (lv_at hl 5 rfl) ?_
                refine x_clp (x_runS (As := [.int x1, .int x17]) (rest := [.ref p0]) S (c_X11_placeOf l E K F tl z0 z1 z2 z3 z4 z5 z6 z7 z8 z9 z10 z11 z12 z13 z14 z15 z16 z17 z18 z19 z20 ar0 ar1 ar2 ar3 ar4 ar5 ar6 ar7 ar8 ar9 ar10 H x1 x17) ms_X11_placeOf km_X11_186 rfl rfl ⟨Nat.le_of_ble_eq_true rfl, Nat.le_of_ble_eq_true rfl⟩ hK (fun _ => XPh.blind) (fun U hU hW => XPh.at hK hz hS hT hU hW) rfl hl.1 (Nat.le_of_ble_eq_true rfl) dX11_layStates_43 ⟨Nat.le_of_ble_eq_true rfl, Nat.le_of_ble_eq_true rfl⟩) hS ?_
                rintro _ _ locs ⟨x27, rfl, t26⟩ hS
                have t26 : 0 ≤ x1.toInt ∧ x1.toInt ≤ 11 ∧ -99 ≤ x17.toInt ∧ x17.toInt ≤ 99 → x27.toInt = 199 * x1.toInt + x17.toInt + 99 := t26
                refine lv_aload_n hx hb dX11_layStates_46 rfl (lv_at hl 0 rfl) ?_
                refine lv_iload hx hb dX11_layStates_47 (lv_at hl 4 rfl) ?_
                refine lv_iload hx hb dX11_layStates_49 (lv_at hl 5 rfl) ?_
                refine lv_aload_n hx hb dX11_layStates_51 rfl (lv_at hl 2 rfl) ?_
                refine lv_iload_n hx hb dX11_layStates_52 rfl (lv_at hl 3 rfl) ?_
                refine x_clp (x_runV (b := a) (As := [.int x1, .int x17, .ref p1, .int p2]) (rest := [.int x27, .ref p0]) S (c_X11_stateOf l E K F tl z0 z1 z2 z3 z4 z5 z6 z7 z8 z9 z10 z11 z12 z13 z14 z15 z16 z17 z18 z19 z20 ar0 ar1 ar2 ar3 ar4 ar5 ar6 ar7 ar8 ar9 ar10 H a x1 x17 p1 p2 ha hp1 hR (z_X11_layStates_8 x1.toInt x14.toInt x17.toInt x23.toInt x27.toInt x8.toInt N18 N2 (aF ar1 x1.toInt) (aI ar1 (10 * x1.toInt + (0 : Int))) (aI ar1 (10 * x1.toInt + (1 : Int))) (aI ar1 (10 * x1.toInt + (2 : Int))) (aI ar1 (10 * x1.toInt + (3 : Int))) (aL ar1 x1.toInt) hf3 hm4 c6 t7 (xbz b9) c12 t13 v16 hf19 hm20 t22 c25 t26 (xr x1) (xr x14) (xr x17) (xr x23) (xr x27) (xr x8)) (z_X11_layStates_9 x1.toInt x14.toInt x17.toInt x23.toInt x27.toInt x8.toInt N18 N2 (aF ar1 x1.toInt) (aI ar1 (10 * x1.toInt + (0 : Int))) (aI ar1 (10 * x1.toInt + (1 : Int))) (aI ar1 (10 * x1.toInt + (2 : Int))) (aI ar1 (10 * x1.toInt + (3 : Int))) (aL ar1 x1.toInt) hf3 hm4 c6 t7 (xbz b9) c12 t13 v16 hf19 hm20 t22 c25 t26 (xr x1) (xr x14) (xr x17) (xr x23) (xr x27) (xr x8)) (z_X11_layStates_10 x1.toInt x14.toInt x17.toInt x23.toInt x27.toInt x8.toInt N18 N2 (aF ar1 x1.toInt) (aI ar1 (10 * x1.toInt + (0 : Int))) (aI ar1 (10 * x1.toInt + (1 : Int))) (aI ar1 (10 * x1.toInt + (2 : Int))) (aI ar1 (10 * x1.toInt + (3 : Int))) (aL ar1 x1.toInt) hf3 hm4 c6 t7 (xbz b9) c12 t13 v16 hf19 hm20 t22 c25 t26 (xr x1) (xr x14) (xr x17) (xr x23) (xr x27) (xr x8))) mv_X11_stateOf km_X11_189 rfl rfl ⟨Nat.le_of_ble_eq_true rfl, Nat.le_of_ble_eq_true rfl⟩ (rc_13 hK hT ha) hK (fun _ => XPh.blind) (fun U hU hW => XPh.at hK hz hS hT hU hW) rfl hl.1 (Nat.le_of_ble_eq_true rfl) dX11_layStates_53 ⟨Nat.le_of_ble_eq_true rfl, Nat.le_of_ble_eq_true rfl⟩) hS ?_
                rintro _ _ locs ⟨x29, rfl⟩ hS
                refine as_0 S hK hT hS hp0 ar_38 aw_38 (by decide) (z_X11_layStates_11 x1.toInt x14.toInt x17.toInt x23.toInt x27.toInt x8.toInt N18 N2 (aF ar1 x1.toInt) (aI ar1 (10 * x1.toInt + (0 : Int))) (aI ar1 (10 * x1.toInt + (1 : Int))) (aI ar1 (10 * x1.toInt + (2 : Int))) (aI ar1 (10 * x1.toInt + (3 : Int))) (aL ar1 x1.toInt) hf3 hm4 c6 t7 (xbz b9) c12 t13 v16 hf19 hm20 t22 c25 t26 (xr x1) (xr x14) (xr x17) (xr x23) (xr x27) (xr x8)) dX11_layStates_56 (fun H locs hT hS => ?_)
                refine xi_iinc (n := 1) (lv' := fun z9 => [(5, .int z9), (0, .ref a), (1, .ref p0), (2, .ref p1), (3, .int p2), (4, .int x1)]) (k := 5) hx hb (rfl : Int32.toInt x17 = x17.toInt) (by decide) dX11_layStates_57 hl rfl (by decide) (fun _ => rfl) (fun x31 ls t32 hl => ?_)
                have hl : lv_has ls 6 [(5, .int x31), (0, .ref a), (1, .ref p0), (2, .ref p1), (3, .int p2), (4, .int x1)] := hl
                refine lv_goto (tgt := 27) hx hb dX11_layStates_60 (by decide) ?_
                exact ih21 x31 _ _ _ (z_X11_layStates_12 x1.toInt x14.toInt x17.toInt x23.toInt x27.toInt x31.toInt x8.toInt N18 N2 (aF ar1 x1.toInt) (aI ar1 (10 * x1.toInt + (0 : Int))) (aI ar1 (10 * x1.toInt + (1 : Int))) (aI ar1 (10 * x1.toInt + (2 : Int))) (aI ar1 (10 * x1.toInt + (3 : Int))) (aL ar1 x1.toInt) hf3 hm4 c6 t7 (xbz b9) c12 t13 v16 hf19 hm20 t22 c25 t26 t32 (xr x1) (xr x14) (xr x17) (xr x23) (xr x27) (xr x31) (xr x8)) (z_X11_layStates_13 x1.toInt x14.toInt x17.toInt x23.toInt x27.toInt x31.toInt x8.toInt N18 N2 (aF ar1 x1.toInt) (aI ar1 (10 * x1.toInt + (0 : Int))) (aI ar1 (10 * x1.toInt + (1 : Int))) (aI ar1 (10 * x1.toInt + (2 : Int))) (aI ar1 (10 * x1.toInt + (3 : Int))) (aL ar1 x1.toInt) hf3 hm4 c6 t7 (xbz b9) c12 t13 v16 hf19 hm20 t22 c25 t26 t32 (xr x1) (xr x14) (xr x17) (xr x23) (xr x27) (xr x31) (xr x8)) hT.nil hS (lv_sub hl [1, 2, 3, 4, 5, 0] rfl)
          exact L27 4294967297 x14 _ _ _ (z_X11_layStates_14 x14.toInt (aF ar1 x1.toInt) (aL ar1 x1.toInt) t13 (xr x14)) (z_X11_layStates_15 x14.toInt (aF ar1 x1.toInt) (aL ar1 x1.toInt) t13 (xr x14)) hT.nil hS (lv_sub hl [1, 2, 3, 4, 5, 0] rfl)
  exact L3 4294967297 0 _ _ _ (by decide) (by decide) hT.nil hS (lv_sub hl [1, 2, 3, 4, 0] rfl)

theorem z_X11_isRing_1 (a0 : Int) (h0 : (0 : Int) ≤ a0) (r0 : -2147483648 ≤ a0 ∧ a0 < 2147483648) : ¬ (2147483648 - a0 < ((0 : Nat) : Int)) := by omega
theorem z_X11_isRing_2 (a0 : Int) (h0 : 0 ≤ a0 ∧ a0 ≤ 11) (r0 : -2147483648 ≤ a0 ∧ a0 < 2147483648) : 0 ≤ a0 ∧ a0 ≤ 11 := by omega
theorem z_X11_isRing_3 (a0 : Int) (h0 : 0 ≤ a0 ∧ a0 ≤ 11) (r0 : -2147483648 ≤ a0 ∧ a0 < 2147483648) : 0 ≤ a0 ∧ a0 ≤ 11 := by omega
theorem z_X11_isRing_4 (a0 : Int) (a1 : Int) (a2 : Int) (a3 : Int) (a4 : Int) (a5 : Int) (a6 : Int) (a7 : Int) (a8 : Int) (h0 : 0 ≤ a0 ∧ a0 ≤ 2520) (h1 : 0 ≤ a1 ∧ a1 ≤ 29) (h2 : a2 = a6) (h3 : (-1 ≤ a5 ∧ a5 ≤ 5) ∧ (0 ≤ a6 ∧ a6 ≤ 2) ∧ (0 ≤ a7 ∧ a7 ≤ 2) ∧ (-1 ≤ a8 ∧ a8 ≤ 2) ∧ (a5 = 1 ∨ a5 = 3 ∨ a5 = 4 → 0 ≤ a8)) (h4 : 0 ≤ a2 ∧ a2 ≤ 2 ∧ 0 ≤ a1 ∧ a1 ≤ 29 → a3 = 4 * (30 * a2 + a1)) (h5 : a4 = a0 + a3 ∨ a0 + a3 < -2147483648 ∨ 2147483648 ≤ a0 + a3) (r0 : -2147483648 ≤ a0 ∧ a0 < 2147483648) (r1 : -2147483648 ≤ a1 ∧ a1 < 2147483648) (r2 : -2147483648 ≤ a2 ∧ a2 < 2147483648) (r3 : -2147483648 ≤ a3 ∧ a3 < 2147483648) (r4 : -2147483648 ≤ a4 ∧ a4 < 2147483648) : 0 ≤ a4 ∧ a4 < a0 + 360 := by first | (clear h1 h2 h3 h4; omega) | (clear h1 h2 h3; omega) | (clear h3; omega) | omega
theorem z_X11_isRing_5 (a0 : Int) (a1 : Int) (a2 : Int) (h0 : 0 ≤ a0 ∧ a0 ≤ 29) (h1 : (a2 = 1 ∧ 0 ≤ a1 ∧ a1 ≤ 29) ∨ (a2 = 0 ∧ (a1 < 0 ∨ 29 < a1))) (h2 : a2 = 0 ∨ a2 = 1) (h3 : a2 ≠ 0) (h4 : a1 ≠ a0) (r0 : -2147483648 ≤ a0 ∧ a0 < 2147483648) (r1 : -2147483648 ≤ a1 ∧ a1 < 2147483648) (r2 : -2147483648 ≤ a2 ∧ a2 < 2147483648) : 0 ≤ a1 ∧ a1 ≤ 29 := by first | (clear h0 h2 h3; omega) | omega
theorem z_X11_isRing_6 (a0 : Int) (a1 : Int) (a2 : Nat) (h0 : (0 : Int) ≤ a0) (h1 : 2147483648 - a0 < ((a2 + 1 : Nat) : Int)) (h2 : ¬ ((30 : Int) ≤ a0)) (h3 : a1 = a0 + 1 ∨ a0 + 1 < -2147483648 ∨ 2147483648 ≤ a0 + 1) (r0 : -2147483648 ≤ a0 ∧ a0 < 2147483648) (r1 : -2147483648 ≤ a1 ∧ a1 < 2147483648) : (0 : Int) ≤ a1 := by first | (clear h0 h1 h2; omega) | omega
theorem z_X11_isRing_7 (a0 : Int) (a1 : Int) (a2 : Nat) (h0 : (0 : Int) ≤ a0) (h1 : 2147483648 - a0 < ((a2 + 1 : Nat) : Int)) (h2 : ¬ ((30 : Int) ≤ a0)) (h3 : a1 = a0 + 1 ∨ a0 + 1 < -2147483648 ∨ 2147483648 ≤ a0 + 1) (r0 : -2147483648 ≤ a0 ∧ a0 < 2147483648) (r1 : -2147483648 ≤ a1 ∧ a1 < 2147483648) : 2147483648 - a1 < ((a2 : Nat) : Int) := by first | (clear h0 h2; omega) | omega
theorem z_X11_isRing_8 (a0 : Int) (h0 : 0 ≤ a0 ∧ a0 ≤ 11) (r0 : -2147483648 ≤ a0 ∧ a0 < 2147483648) : 0 ≤ a0 ∧ a0 ≤ 11 := by omega
theorem z_X11_isRing_9 (a0 : Int) (a1 : Int) (a2 : Int) (a3 : Int) (a4 : Int) (a5 : Int) (a6 : Int) (a7 : Int) (a8 : Int) (a9 : Int) (a10 : Int) (a11 : Int) (a12 : Int) (a13 : Int) (a14 : Int) (h0 : 0 ≤ a0 ∧ a0 ≤ 29) (h1 : 0 ≤ a1 ∧ a1 ≤ 2520) (h2 : 0 ≤ a2 ∧ a2 ≤ 29) (h3 : a3 = a12) (h4 : (-1 ≤ a11 ∧ a11 ≤ 5) ∧ (0 ≤ a12 ∧ a12 ≤ 2) ∧ (0 ≤ a13 ∧ a13 ≤ 2) ∧ (-1 ≤ a14 ∧ a14 ≤ 2) ∧ (a11 = 1 ∨ a11 = 3 ∨ a11 = 4 → 0 ≤ a14)) (h5 : 0 ≤ a3 ∧ a3 ≤ 2 ∧ 0 ≤ a2 ∧ a2 ≤ 29 → a4 = 4 * (30 * a3 + a2)) (h6 : a5 = a1 + a4 ∨ a1 + a4 < -2147483648 ∨ 2147483648 ≤ a1 + a4) (h7 : (a7 = 1 ∧ 0 ≤ a6 ∧ a6 ≤ 29) ∨ (a7 = 0 ∧ (a6 < 0 ∨ 29 < a6))) (h8 : a7 = 0 ∨ a7 = 1) (h9 : a7 ≠ 0) (h10 : ¬ (a6 ≠ a0)) (h11 : a8 = a12) (h12 : 0 ≤ a8 ∧ a8 ≤ 2 ∧ 0 ≤ a0 ∧ a0 ≤ 29 → a9 = 4 * (30 * a8 + a0)) (h13 : a10 = a1 + a9 ∨ a1 + a9 < -2147483648 ∨ 2147483648 ≤ a1 + a9) (r0 : -2147483648 ≤ a0 ∧ a0 < 2147483648) (r1 : -2147483648 ≤ a1 ∧ a1 < 2147483648) (r2 : -2147483648 ≤ a2 ∧ a2 < 2147483648) (r3 : -2147483648 ≤ a3 ∧ a3 < 2147483648) (r4 : -2147483648 ≤ a4 ∧ a4 < 2147483648) (r5 : -2147483648 ≤ a5 ∧ a5 < 2147483648) (r6 : -2147483648 ≤ a6 ∧ a6 < 2147483648) (r7 : -2147483648 ≤ a7 ∧ a7 < 2147483648) (r8 : -2147483648 ≤ a8 ∧ a8 < 2147483648) (r9 : -2147483648 ≤ a9 ∧ a9 < 2147483648) (r10 : -2147483648 ≤ a10 ∧ a10 < 2147483648) : 0 ≤ a10 ∧ a10 < a1 + 360 := by first | (clear h0 h2 h3 h4 h5 h7 h8 h9 h10 h11 h12; omega) | (clear h0 h2 h3 h4 h7 h8 h9 h10 h11; omega) | (clear h4 h7 h8 h9; omega) | (clear h8 h9; omega) | omega
theorem z_X11_isRing_10 (a0 : Int) (h0 : 0 ≤ a0 ∧ a0 ≤ 11) (r0 : -2147483648 ≤ a0 ∧ a0 < 2147483648) : 0 ≤ a0 ∧ a0 ≤ 11 := by omega
theorem z_X11_isRing_11 (a0 : Int) (a1 : Int) (a2 : Int) (a3 : Int) (a4 : Int) (a5 : Int) (a6 : Int) (a7 : Int) (a8 : Int) (a9 : Int) (a10 : Int) (a11 : Int) (h0 : 0 ≤ a0 ∧ a0 ≤ 2520) (h1 : 0 ≤ a1 ∧ a1 ≤ 29) (h2 : a2 = a9) (h3 : (-1 ≤ a8 ∧ a8 ≤ 5) ∧ (0 ≤ a9 ∧ a9 ≤ 2) ∧ (0 ≤ a10 ∧ a10 ≤ 2) ∧ (-1 ≤ a11 ∧ a11 ≤ 2) ∧ (a8 = 1 ∨ a8 = 3 ∨ a8 = 4 → 0 ≤ a11)) (h4 : 0 ≤ a2 ∧ a2 ≤ 2 ∧ 0 ≤ a1 ∧ a1 ≤ 29 → a3 = 4 * (30 * a2 + a1)) (h5 : a4 = a0 + a3 ∨ a0 + a3 < -2147483648 ∨ 2147483648 ≤ a0 + a3) (h6 : a5 = a4 + (1 : Int) ∨ a4 + (1 : Int) < -2147483648 ∨ 2147483648 ≤ a4 + (1 : Int)) (h7 : a6 = a10) (h8 : a7 = a5 + a6 ∨ a5 + a6 < -2147483648 ∨ 2147483648 ≤ a5 + a6) (r0 : -2147483648 ≤ a0 ∧ a0 < 2147483648) (r1 : -2147483648 ≤ a1 ∧ a1 < 2147483648) (r2 : -2147483648 ≤ a2 ∧ a2 < 2147483648) (r3 : -2147483648 ≤ a3 ∧ a3 < 2147483648) (r4 : -2147483648 ≤ a4 ∧ a4 < 2147483648) (r5 : -2147483648 ≤ a5 ∧ a5 < 2147483648) (r6 : -2147483648 ≤ a6 ∧ a6 < 2147483648) (r7 : -2147483648 ≤ a7 ∧ a7 < 2147483648) : 0 ≤ a7 ∧ a7 < a0 + 360 := by first | (clear h1 h2 h3 h4 h6 h7; omega) | (clear h1 h2 h3; omega) | omega
theorem z_X11_isRing_12 (a0 : Int) (h0 : 0 ≤ a0 ∧ a0 ≤ 29) (r0 : -2147483648 ≤ a0 ∧ a0 < 2147483648) : 0 ≤ a0 ∧ a0 ≤ 29 := by omega
abbrev rm_X11_isRing : Room := { frames := 2, cells := 0, slots := 0, locals := 45 }
set_option maxHeartbeats 4000000 in
set_option maxRecDepth 100000 in
theorem c_X11_isRing (l : Launch) (E : XE) (K : Nat → Nat) (F : Nat → Nat → Nat) (tl z0 z1 z2 z3 z4 z5 z6 z7 z8 z9 z10 z11 z12 z13 z14 z15 z16 z17 z18 z19 z20 : Int32) (ar0 ar1 ar2 ar3 ar4 ar5 ar6 ar7 ar8 ar9 ar10 : Nat → Int32) (h0 : Heap) (a : Nat) (p0 : Int32) (p1 : Int32) (p2 : Nat) (p3 : Int32) (ha : K a = 13) (hp2 : XO K p2 p3.toInt) (hR : RV ar1) (e0 : 0 ≤ p0.toInt ∧ p0.toInt ≤ 11) (e1 : 0 ≤ p1.toInt ∧ p1.toInt ≤ 29) : Met l yX11_isRing (xw yX11_isRing cX11_isRing 9 (some .boolean)) rm_X11_isRing (va_Pc [.ref a, .int p0, .int p1, .ref p2, .int p3] (XPh E K F (tl, [z0, z1, z2, z3, z4, z5, z6, z7, z8, z9, z10, z11, z12, z13, z14, z15, z16, z17, z18, z19, z20], [ar0, ar1, ar2, ar3, ar4, ar5, ar6, ar7, ar8, ar9, ar10]) h0)) (XQ E (fun v (u : Unit) => ∃ r : Int32, v = .int r ∧ (r = 0 ∨ r = 1)) (fun _ H => H = h0)) 0 0 (xA E) := by
  refine x_enter (by decide) (Nat.le_of_ble_eq_true rfl) ?_
  intro p e s m args below meth c Q S hr hlk hnm hQ hP ls hl
  obtain ⟨⟨hz, hK, hT⟩, hh⟩ := hP
  obtain ⟨hx, hb, -, -, -⟩ := id S
  have hS : va_S (xA E) s.heap s.heap [] := va_S.rf
  have hl : lv_has ls 9 [(0, .ref a), (1, .int p0), (2, .int p1), (3, .ref p2), (4, .int p3)] := hl
  refine lv_iload_n hx hb dX11_isRing_0 rfl (lv_at hl 2 rfl) ?_
  refine lv_istore (lv' := [(5, .int p1), (0, .ref a), (1, .int p0), (2, .int p1), (3, .ref p2), (4, .int p3)]) hx hb dX11_isRing_1 hl (by decide) rfl (fun ls hl => ?_)
  refine lv_iconst (v := 0) hx hb dX11_isRing_3 (by decide) ?_
  refine lv_istore (lv' := [(6, .int 0), (5, .int p1), (0, .ref a), (1, .int p0), (2, .int p1), (3, .ref p2), (4, .int p3)]) hx hb dX11_isRing_4 hl (by decide) rfl (fun ls hl => ?_)
  have L6 : ∀ (N3 : Nat) (x1 : Int32) (x2 : Int32) (locs : List Loc) (ls : Array Slot), 0 ≤ x1.toInt ∧ x1.toInt ≤ 29 → (0 : Int) ≤ x2.toInt → 2147483648 - x2.toInt < ((N3 : Nat) : Int) → TW E K F (tl, [z0, z1, z2, z3, z4, z5, z6, z7, z8, z9, z10, z11, z12, z13, z14, z15, z16, z17, z18, z19, z20], [ar0, ar1, ar2, ar3, ar4, ar5, ar6, ar7, ar8, ar9, ar10]) [] s.heap → va_S (xA E) s.heap s.heap locs → lv_has ls 9 [(0, .ref a), (1, .int p0), (2, .int p1), (3, .ref p2), (4, .int p3), (5, .int x1), (6, .int x2)] → W p l e rm_X11_isRing s m args below meth c s.heap locs 0 0 Q (F0 m 6 ls []) := by
    intro N3
    induction N3 with
    | zero =>
      intro x1 x2 locs ls hf4 hf5 hm6
      exact absurd hm6 (z_X11_isRing_1 x2.toInt hf5 (xr x2))
    | succ N3 ih7 =>
      intro x1 x2 locs ls hf4 hf5 hm6 hT hS hl
      refine lv_iload hx hb dX11_isRing_6 (lv_at hl 6 rfl) ?_
      refine lv_bipush (v := 30) hx hb dX11_isRing_8 (by decide) ?_
      refine xi_cge (tgt := 109) hx hb (rfl : Int32.toInt x2 = x2.toInt) ((by decide) : Int32.toInt 30 = (30 : Int)) dX11_isRing_10 (by decide) (fun c8 => ?_) (fun c8 => ?_)
      · refine lv_iconst (v := 0) hx hb dX11_isRing_109 (by decide) ?_
        exact x_rz hx hb hr (xnz (Or.inl rfl)) hlk hQ (Nat.le_of_ble_eq_true rfl) (Nat.le_of_ble_eq_true rfl) hS dX11_isRing_110 () ⟨_, rfl, (Or.inl rfl)⟩ hh
      · refine lv_iload hx hb dX11_isRing_13 (lv_at hl 4 rfl) ?_
        refine lv_aload_n hx hb dX11_isRing_15 rfl (lv_at hl 0 rfl) ?_
        refine lv_iload_n hx hb dX11_isRing_16 rfl (lv_at hl 1 rfl) ?_
        refine lv_iconst (v := 1) hx hb dX11_isRing_17 (by decide) ?_
        refine x_clp (x_runV (b := a) (As := [.int p0, .int 1]) (rest := [.int p3]) S (c_X11_of l E K F tl z0 z1 z2 z3 z4 z5 z6 z7 z8 z9 z10 z11 z12 z13 z14 z15 z16 z17 z18 z19 z20 ar0 ar1 ar2 ar3 ar4 ar5 ar6 ar7 ar8 ar9 ar10 s.heap a p0 1 ha (z_X11_isRing_2 p0.toInt e0 (xr p0)) (by decide)) mv_X11_of km_X11_165 rfl rfl ⟨Nat.le_of_ble_eq_true rfl, Nat.le_of_ble_eq_true rfl⟩ (rc_13 hK hT ha) hK (fun _ => XPh.blind) (fun U hU hW => XPh.at hK hz hS hT hU hW) rfl hl.1 (Nat.le_of_ble_eq_true rfl) dX11_isRing_18 ⟨Nat.le_of_ble_eq_true rfl, Nat.le_of_ble_eq_true rfl⟩) hS ?_
        rintro _ _ locs ⟨x10, rfl, t9⟩ hS
        have t9 : x10.toInt = (aI ar1 (10 * p0.toInt + (1 : Int))) := t9
        have v12 : (-1 ≤ (aI ar1 (10 * p0.toInt + (0 : Int))) ∧ (aI ar1 (10 * p0.toInt + (0 : Int))) ≤ 5) ∧ (0 ≤ (aI ar1 (10 * p0.toInt + (1 : Int))) ∧ (aI ar1 (10 * p0.toInt + (1 : Int))) ≤ 2) ∧ (0 ≤ (aI ar1 (10 * p0.toInt + (2 : Int))) ∧ (aI ar1 (10 * p0.toInt + (2 : Int))) ≤ 2) ∧ (-1 ≤ (aI ar1 (10 * p0.toInt + (3 : Int))) ∧ (aI ar1 (10 * p0.toInt + (3 : Int))) ≤ 2) ∧ ((aI ar1 (10 * p0.toInt + (0 : Int))) = 1 ∨ (aI ar1 (10 * p0.toInt + (0 : Int))) = 3 ∨ (aI ar1 (10 * p0.toInt + (0 : Int))) = 4 → 0 ≤ (aI ar1 (10 * p0.toInt + (3 : Int)))) := RV.row hR (z_X11_isRing_3 p0.toInt e0 (xr p0))
        refine lv_iload hx hb dX11_isRing_21 (lv_at hl 5 rfl) ?_
        refine x_clp (x_runS (As := [.int x10, .int x1]) (rest := [.int p3]) S (c_X11_at l E K F tl z0 z1 z2 z3 z4 z5 z6 z7 z8 z9 z10 z11 z12 z13 z14 z15 z16 z17 z18 z19 z20 ar0 ar1 ar2 ar3 ar4 ar5 ar6 ar7 ar8 ar9 ar10 s.heap x10 x1) ms_X11_at km_X11_156 rfl rfl ⟨Nat.le_of_ble_eq_true rfl, Nat.le_of_ble_eq_true rfl⟩ hK (fun _ => XPh.blind) (fun U hU hW => XPh.at hK hz hS hT hU hW) rfl hl.1 (Nat.le_of_ble_eq_true rfl) dX11_isRing_23 ⟨Nat.le_of_ble_eq_true rfl, Nat.le_of_ble_eq_true rfl⟩) hS ?_
        rintro _ _ locs ⟨x14, rfl, t13⟩ hS
        have t13 : 0 ≤ x10.toInt ∧ x10.toInt ≤ 2 ∧ 0 ≤ x1.toInt ∧ x1.toInt ≤ 29 → x14.toInt = 4 * (30 * x10.toInt + x1.toInt) := t13
        refine xi_iadd hx hb (rfl : Int32.toInt p3 = p3.toInt) (rfl : Int32.toInt x14 = x14.toInt) dX11_isRing_26 (fun x16 t17 => ?_)
        refine lv_istore (lv' := [(7, .int x16), (0, .ref a), (1, .int p0), (2, .int p1), (3, .ref p2), (4, .int p3), (5, .int x1), (6, .int x2)]) hx hb dX11_isRing_27 hl (by decide) rfl (fun ls hl => ?_)
        refine lv_aload_n hx hb dX11_isRing_29 rfl (lv_at hl 4 rfl) ?_
        refine lv_iload hx hb dX11_isRing_30 (lv_at hl 0 rfl) ?_
        refine ald_of S hK hT hp2 (z_X11_isRing_4 p3.toInt x1.toInt x10.toInt x14.toInt x16.toInt (aI ar1 (10 * p0.toInt + (0 : Int))) (aI ar1 (10 * p0.toInt + (1 : Int))) (aI ar1 (10 * p0.toInt + (2 : Int))) (aI ar1 (10 * p0.toInt + (3 : Int))) (XO.lim hp2) hf4 t9 v12 t13 t17 (xr p3) (xr x1) (xr x10) (xr x14) (xr x16)) dX11_isRing_32 (fun x18 => ?_)
        refine lv_iconst (v := 1) hx hb dX11_isRing_33 (by decide) ?_
        have J56 : ∀ (x19 : Int32) (locs : List Loc) (ls : Array Slot), TW E K F (tl, [z0, z1, z2, z3, z4, z5, z6, z7, z8, z9, z10, z11, z12, z13, z14, z15, z16, z17, z18, z19, z20], [ar0, ar1, ar2, ar3, ar4, ar5, ar6, ar7, ar8, ar9, ar10]) [] s.heap → va_S (xA E) s.heap s.heap locs → lv_has ls 9 [(0, .ref a), (1, .int p0), (2, .int p1), (3, .ref p2), (4, .int p3), (6, .int x2)] → W p l e rm_X11_isRing s m args below meth c s.heap locs 0 0 Q (F0 m 56 ls [.int x19]) := by
          intro x19 locs ls hT hS hl
          refine lv_istore (lv' := [(8, .int x19), (0, .ref a), (1, .int p0), (2, .int p1), (3, .ref p2), (4, .int p3), (6, .int x2)]) hx hb dX11_isRing_56 hl (by decide) rfl (fun ls hl => ?_)
          refine lv_iload hx hb dX11_isRing_58 (lv_at hl 0 rfl) ?_
          refine x_clp (x_runS (As := [.int x19]) (rest := []) S (c_X11_isKey l E K F tl z0 z1 z2 z3 z4 z5 z6 z7 z8 z9 z10 z11 z12 z13 z14 z15 z16 z17 z18 z19 z20 ar0 ar1 ar2 ar3 ar4 ar5 ar6 ar7 ar8 ar9 ar10 s.heap x19) ms_X11_isKey km_X11_153 rfl rfl ⟨Nat.le_of_ble_eq_true rfl, Nat.le_of_ble_eq_true rfl⟩ hK (fun _ => XPh.blind) (fun U hU hW => XPh.at hK hz hS hT hU hW) rfl hl.1 (Nat.le_of_ble_eq_true rfl) dX11_isRing_60 ⟨Nat.le_of_ble_eq_true rfl, Nat.le_of_ble_eq_true rfl⟩) hS ?_
          rintro _ _ locs ⟨x21, rfl, b22, t20⟩ hS
          have t20 : (x21.toInt = 1 ∧ 0 ≤ x19.toInt ∧ x19.toInt ≤ 29) ∨ (x21.toInt = 0 ∧ (x19.toInt < 0 ∨ 29 < x19.toInt)) := t20
          refine xi_zne (tgt := 68) hx hb (rfl : Int32.toInt x21 = x21.toInt) dX11_isRing_63 (by decide) (fun c23 => ?_) (fun c23 => ?_)
          · refine lv_iload hx hb dX11_isRing_68 (lv_at hl 0 rfl) ?_
            refine lv_iload_n hx hb dX11_isRing_70 rfl (lv_at hl 3 rfl) ?_
            refine xi_cne (tgt := 99) hx hb (rfl : Int32.toInt x19 = x19.toInt) (rfl : Int32.toInt p1 = p1.toInt) dX11_isRing_71 (by decide) (fun c24 => ?_) (fun c24 => ?_)
            · refine lv_iload hx hb dX11_isRing_99 (lv_at hl 0 rfl) ?_
              refine lv_istore (lv' := [(5, .int x19), (8, .int x19), (0, .ref a), (1, .int p0), (2, .int p1), (3, .ref p2), (4, .int p3), (6, .int x2)]) hx hb dX11_isRing_101 hl (by decide) rfl (fun ls hl => ?_)
              refine xi_iinc (n := 1) (lv' := fun z9 => [(6, .int z9), (5, .int x19), (8, .int x19), (0, .ref a), (1, .int p0), (2, .int p1), (3, .ref p2), (4, .int p3)]) (k := 7) hx hb (rfl : Int32.toInt x2 = x2.toInt) (by decide) dX11_isRing_103 hl rfl (by decide) (fun _ => rfl) (fun x25 ls t26 hl => ?_)
              have hl : lv_has ls 9 [(6, .int x25), (5, .int x19), (8, .int x19), (0, .ref a), (1, .int p0), (2, .int p1), (3, .ref p2), (4, .int p3)] := hl
              refine lv_goto (tgt := 6) hx hb dX11_isRing_106 (by decide) ?_
              exact ih7 x19 x25 _ _ (z_X11_isRing_5 p1.toInt x19.toInt x21.toInt e1 t20 (xbz b22) c23 c24 (xr p1) (xr x19) (xr x21)) (z_X11_isRing_6 x2.toInt x25.toInt N3 hf5 hm6 c8 t26 (xr x2) (xr x25)) (z_X11_isRing_7 x2.toInt x25.toInt N3 hf5 hm6 c8 t26 (xr x2) (xr x25)) hT.nil hS (lv_sub hl [3, 4, 5, 6, 7, 1, 0] rfl)
            · refine lv_aload_n hx hb dX11_isRing_74 rfl (lv_at hl 4 rfl) ?_
              refine lv_iload hx hb dX11_isRing_75 (lv_at hl 5 rfl) ?_
              refine lv_aload_n hx hb dX11_isRing_77 rfl (lv_at hl 1 rfl) ?_
              refine lv_iload_n hx hb dX11_isRing_78 rfl (lv_at hl 2 rfl) ?_
              refine lv_iconst (v := 1) hx hb dX11_isRing_79 (by decide) ?_
              refine x_clp (x_runV (b := a) (As := [.int p0, .int 1]) (rest := [.int p3, .ref p2]) S (c_X11_of l E K F tl z0 z1 z2 z3 z4 z5 z6 z7 z8 z9 z10 z11 z12 z13 z14 z15 z16 z17 z18 z19 z20 ar0 ar1 ar2 ar3 ar4 ar5 ar6 ar7 ar8 ar9 ar10 s.heap a p0 1 ha (z_X11_isRing_8 p0.toInt e0 (xr p0)) (by decide)) mv_X11_of km_X11_165 rfl rfl ⟨Nat.le_of_ble_eq_true rfl, Nat.le_of_ble_eq_true rfl⟩ (rc_13 hK hT ha) hK (fun _ => XPh.blind) (fun U hU hW => XPh.at hK hz hS hT hU hW) rfl hl.1 (Nat.le_of_ble_eq_true rfl) dX11_isRing_80 ⟨Nat.le_of_ble_eq_true rfl, Nat.le_of_ble_eq_true rfl⟩) hS ?_
              rintro _ _ locs ⟨x28, rfl, t27⟩ hS
              have t27 : x28.toInt = (aI ar1 (10 * p0.toInt + (1 : Int))) := t27
              refine lv_iload_n hx hb dX11_isRing_83 rfl (lv_at hl 3 rfl) ?_
              refine x_clp (x_runS (As := [.int x28, .int p1]) (rest := [.int p3, .ref p2]) S (c_X11_at l E K F tl z0 z1 z2 z3 z4 z5 z6 z7 z8 z9 z10 z11 z12 z13 z14 z15 z16 z17 z18 z19 z20 ar0 ar1 ar2 ar3 ar4 ar5 ar6 ar7 ar8 ar9 ar10 s.heap x28 p1) ms_X11_at km_X11_156 rfl rfl ⟨Nat.le_of_ble_eq_true rfl, Nat.le_of_ble_eq_true rfl⟩ hK (fun _ => XPh.blind) (fun U hU hW => XPh.at hK hz hS hT hU hW) rfl hl.1 (Nat.le_of_ble_eq_true rfl) dX11_isRing_84 ⟨Nat.le_of_ble_eq_true rfl, Nat.le_of_ble_eq_true rfl⟩) hS ?_
              rintro _ _ locs ⟨x31, rfl, t30⟩ hS
              have t30 : 0 ≤ x28.toInt ∧ x28.toInt ≤ 2 ∧ 0 ≤ p1.toInt ∧ p1.toInt ≤ 29 → x31.toInt = 4 * (30 * x28.toInt + p1.toInt) := t30
              refine xi_iadd hx hb (rfl : Int32.toInt p3 = p3.toInt) (rfl : Int32.toInt x31 = x31.toInt) dX11_isRing_87 (fun x33 t34 => ?_)
              refine ald_of S hK hT hp2 (z_X11_isRing_9 p1.toInt p3.toInt x1.toInt x10.toInt x14.toInt x16.toInt x19.toInt x21.toInt x28.toInt x31.toInt x33.toInt (aI ar1 (10 * p0.toInt + (0 : Int))) (aI ar1 (10 * p0.toInt + (1 : Int))) (aI ar1 (10 * p0.toInt + (2 : Int))) (aI ar1 (10 * p0.toInt + (3 : Int))) e1 (XO.lim hp2) hf4 t9 v12 t13 t17 t20 (xbz b22) c23 c24 t27 t30 t34 (xr p1) (xr p3) (xr x1) (xr x10) (xr x14) (xr x16) (xr x19) (xr x21) (xr x28) (xr x31) (xr x33)) dX11_isRing_88 (fun x35 => ?_)
              refine lv_iconst (v := 1) hx hb dX11_isRing_89 (by decide) ?_
              refine xi_cne (tgt := 97) hx hb (rfl : Int32.toInt x35 = x35.toInt) ((by decide) : Int32.toInt 1 = (1 : Int)) dX11_isRing_90 (by decide) (fun c36 => ?_) (fun c36 => ?_)
              · refine lv_iconst (v := 0) hx hb dX11_isRing_97 (by decide) ?_
                exact x_rz hx hb hr (xnz (Or.inl rfl)) hlk hQ (Nat.le_of_ble_eq_true rfl) (Nat.le_of_ble_eq_true rfl) hS dX11_isRing_98 () ⟨_, rfl, (Or.inl rfl)⟩ hh
              · refine lv_iconst (v := 1) hx hb dX11_isRing_93 (by decide) ?_
                refine lv_goto (tgt := 98) hx hb dX11_isRing_94 (by decide) ?_
                exact x_rz hx hb hr (xnz (Or.inr rfl)) hlk hQ (Nat.le_of_ble_eq_true rfl) (Nat.le_of_ble_eq_true rfl) hS dX11_isRing_98 () ⟨_, rfl, (Or.inr rfl)⟩ hh
          · refine lv_iconst (v := 0) hx hb dX11_isRing_66 (by decide) ?_
            exact x_rz hx hb hr (xnz (Or.inl rfl)) hlk hQ (Nat.le_of_ble_eq_true rfl) (Nat.le_of_ble_eq_true rfl) hS dX11_isRing_67 () ⟨_, rfl, (Or.inl rfl)⟩ hh
        refine xi_cne (tgt := 53) hx hb (rfl : Int32.toInt x18 = x18.toInt) ((by decide) : Int32.toInt 1 = (1 : Int)) dX11_isRing_34 (by decide) (fun c37 => ?_) (fun c37 => ?_)
        · refine lv_sipush (v := (-1000)) hx hb dX11_isRing_53 (by decide) ?_
          exact J56 (-1000) _ _ hT.nil hS (lv_sub hl [1, 2, 3, 4, 5, 7] rfl)
        · refine lv_aload_n hx hb dX11_isRing_37 rfl (lv_at hl 4 rfl) ?_
          refine lv_iload hx hb dX11_isRing_38 (lv_at hl 0 rfl) ?_
          refine lv_iconst (v := 1) hx hb dX11_isRing_40 (by decide) ?_
          refine xi_iadd hx hb (rfl : Int32.toInt x16 = x16.toInt) ((by decide) : Int32.toInt 1 = (1 : Int)) dX11_isRing_41 (fun x38 t39 => ?_)
          refine lv_aload_n hx hb dX11_isRing_42 rfl (lv_at hl 1 rfl) ?_
          refine lv_iload_n hx hb dX11_isRing_43 rfl (lv_at hl 2 rfl) ?_
          refine lv_iconst (v := 2) hx hb dX11_isRing_44 (by decide) ?_
          refine x_clp (x_runV (b := a) (As := [.int p0, .int 2]) (rest := [.int x38, .ref p2]) S (c_X11_of l E K F tl z0 z1 z2 z3 z4 z5 z6 z7 z8 z9 z10 z11 z12 z13 z14 z15 z16 z17 z18 z19 z20 ar0 ar1 ar2 ar3 ar4 ar5 ar6 ar7 ar8 ar9 ar10 s.heap a p0 2 ha (z_X11_isRing_10 p0.toInt e0 (xr p0)) (by decide)) mv_X11_of km_X11_165 rfl rfl ⟨Nat.le_of_ble_eq_true rfl, Nat.le_of_ble_eq_true rfl⟩ (rc_13 hK hT ha) hK (fun _ => XPh.blind) (fun U hU hW => XPh.at hK hz hS hT hU hW) rfl hl.1 (Nat.le_of_ble_eq_true rfl) dX11_isRing_45 ⟨Nat.le_of_ble_eq_true rfl, Nat.le_of_ble_eq_true rfl⟩) hS ?_
          rintro _ _ locs ⟨x41, rfl, t40⟩ hS
          have t40 : x41.toInt = (aI ar1 (10 * p0.toInt + (2 : Int))) := t40
          refine xi_iadd hx hb (rfl : Int32.toInt x38 = x38.toInt) (rfl : Int32.toInt x41 = x41.toInt) dX11_isRing_48 (fun x43 t44 => ?_)
          refine ald_of S hK hT hp2 (z_X11_isRing_11 p3.toInt x1.toInt x10.toInt x14.toInt x16.toInt x38.toInt x41.toInt x43.toInt (aI ar1 (10 * p0.toInt + (0 : Int))) (aI ar1 (10 * p0.toInt + (1 : Int))) (aI ar1 (10 * p0.toInt + (2 : Int))) (aI ar1 (10 * p0.toInt + (3 : Int))) (XO.lim hp2) hf4 t9 v12 t13 t17 t39 t40 t44 (xr p3) (xr x1) (xr x10) (xr x14) (xr x16) (xr x38) (xr x41) (xr x43)) dX11_isRing_49 (fun x45 => ?_)
          refine lv_goto (tgt := 56) hx hb dX11_isRing_50 (by decide) ?_
          exact J56 x45 _ _ hT.nil hS (lv_sub hl [1, 2, 3, 4, 5, 7] rfl)
  exact L6 4294967297 p1 0 _ _ (z_X11_isRing_12 p1.toInt e1 (xr p1)) (by decide) (by decide) hT.nil hS (lv_sub hl [2, 3, 4, 5, 6, 1, 0] rfl)

theorem z_X11_fails_1 (a0 : Int) (h0 : 0 ≤ a0 ∧ a0 ≤ 11) (r0 : -2147483648 ≤ a0 ∧ a0 < 2147483648) : 0 ≤ a0 ∧ a0 ≤ 11 := by omega
theorem z_X11_fails_2 (a0 : Int) (h0 : 0 ≤ a0 ∧ a0 ≤ 11) (r0 : -2147483648 ≤ a0 ∧ a0 < 2147483648) : 0 ≤ a0 ∧ a0 ≤ 11 := by omega
theorem z_X11_fails_3 (a0 : Int) (h0 : 0 ≤ a0 ∧ a0 ≤ 11) (r0 : -2147483648 ≤ a0 ∧ a0 < 2147483648) : 0 ≤ a0 ∧ a0 ≤ 11 := by omega
theorem z_X11_fails_4 (a0 : Int) (a1 : Int) (a2 : Int) (a3 : Int) (a4 : Int) (a5 : Int) (a6 : Int) (a7 : Int) (h0 : 0 ≤ a3) (h1 : a2 ≤ a0 ∧ a0 ≤ a7) (h2 : ((a3 = 2 ∨ a3 = 4 ∨ a3 = 5) ∧ a2 = 0 ∧ a7 = 29) ∨ (a3 ≠ 2 ∧ a3 ≠ 4 ∧ a3 ≠ 5 ∧ a2 = -99 ∧ a7 = 99)) (h3 : a1 = a3) (h4 : (-1 ≤ a3 ∧ a3 ≤ 5) ∧ (0 ≤ a4 ∧ a4 ≤ 2) ∧ (0 ≤ a5 ∧ a5 ≤ 2) ∧ (-1 ≤ a6 ∧ a6 ≤ 2) ∧ (a3 = 1 ∨ a3 = 3 ∨ a3 = 4 → 0 ≤ a6)) (h5 : a1 ≠ (5 : Int)) (r0 : -2147483648 ≤ a0 ∧ a0 < 2147483648) (r1 : -2147483648 ≤ a1 ∧ a1 < 2147483648) : 0 ≤ a3 := by first | (clear h1 h5; omega) | omega
theorem z_X11_fails_5 (a0 : Int) (a1 : Int) (a2 : Int) (a3 : Int) (a4 : Int) (a5 : Int) (a6 : Int) (a7 : Int) (h0 : 0 ≤ a3) (h1 : a2 ≤ a0 ∧ a0 ≤ a7) (h2 : ((a3 = 2 ∨ a3 = 4 ∨ a3 = 5) ∧ a2 = 0 ∧ a7 = 29) ∨ (a3 ≠ 2 ∧ a3 ≠ 4 ∧ a3 ≠ 5 ∧ a2 = -99 ∧ a7 = 99)) (h3 : a1 = a3) (h4 : (-1 ≤ a3 ∧ a3 ≤ 5) ∧ (0 ≤ a4 ∧ a4 ≤ 2) ∧ (0 ≤ a5 ∧ a5 ≤ 2) ∧ (-1 ≤ a6 ∧ a6 ≤ 2) ∧ (a3 = 1 ∨ a3 = 3 ∨ a3 = 4 → 0 ≤ a6)) (h5 : a1 ≠ (5 : Int)) (r0 : -2147483648 ≤ a0 ∧ a0 < 2147483648) (r1 : -2147483648 ≤ a1 ∧ a1 < 2147483648) : a2 ≤ a0 ∧ a0 ≤ a7 := by first | (clear h0 h3 h4 h5; omega) | (clear h5; omega) | omega
theorem z_X11_fails_6 (a0 : Int) (h0 : 0 ≤ a0 ∧ a0 ≤ 11) (r0 : -2147483648 ≤ a0 ∧ a0 < 2147483648) : 0 ≤ a0 ∧ a0 ≤ 11 := by omega
theorem z_X11_fails_7 (a0 : Int) (h0 : 0 ≤ a0 ∧ a0 ≤ 11) (r0 : -2147483648 ≤ a0 ∧ a0 < 2147483648) : 0 ≤ a0 ∧ a0 ≤ 11 := by omega
theorem z_X11_fails_8 (a0 : Int) (r0 : -2147483648 ≤ a0 ∧ a0 < 2147483648) : (a0 < 0 ∨ 3 < a0) ∨ (a0 = 0) ∨ (a0 = 1) ∨ (a0 = 2) ∨ (a0 = 3) := by omega
theorem z_X11_fails_9 (a0 : Int) (h0 : 0 ≤ a0 ∧ a0 ≤ 11) (r0 : -2147483648 ≤ a0 ∧ a0 < 2147483648) : 0 ≤ a0 ∧ a0 ≤ 11 := by omega
theorem z_X11_fails_10 (a0 : Int) (h0 : 0 ≤ a0 ∧ a0 ≤ 11) (r0 : -2147483648 ≤ a0 ∧ a0 < 2147483648) : 0 ≤ a0 ∧ a0 ≤ 11 := by omega
theorem z_X11_fails_11 (a0 : Int) (h0 : 0 ≤ a0 ∧ a0 ≤ 11) (r0 : -2147483648 ≤ a0 ∧ a0 < 2147483648) : 0 ≤ a0 ∧ a0 ≤ 11 := by omega
theorem z_X11_fails_12 (a0 : Int) (a1 : Int) (a2 : Int) (a3 : Int) (a4 : Int) (a5 : Int) (a6 : Int) (a7 : Int) (h0 : 0 ≤ a3) (h1 : a2 ≤ a0 ∧ a0 ≤ a7) (h2 : ((a3 = 2 ∨ a3 = 4 ∨ a3 = 5) ∧ a2 = 0 ∧ a7 = 29) ∨ (a3 ≠ 2 ∧ a3 ≠ 4 ∧ a3 ≠ 5 ∧ a2 = -99 ∧ a7 = 99)) (h3 : a1 = a3) (h4 : (-1 ≤ a3 ∧ a3 ≤ 5) ∧ (0 ≤ a4 ∧ a4 ≤ 2) ∧ (0 ≤ a5 ∧ a5 ≤ 2) ∧ (-1 ≤ a6 ∧ a6 ≤ 2) ∧ (a3 = 1 ∨ a3 = 3 ∨ a3 = 4 → 0 ≤ a6)) (h5 : ¬ (a1 ≠ (5 : Int))) (r0 : -2147483648 ≤ a0 ∧ a0 < 2147483648) (r1 : -2147483648 ≤ a1 ∧ a1 < 2147483648) : 0 ≤ a0 ∧ a0 ≤ 29 := by first | (clear h0 h2 h3 h4 h5; omega) | (clear h0 h3 h4 h5; omega) | (clear h5; omega) | omega
abbrev rm_X11_fails : Room := { frames := 3, cells := 0, slots := 0, locals := 77 }
set_option maxHeartbeats 4000000 in
set_option maxRecDepth 100000 in
theorem c_X11_fails (l : Launch) (E : XE) (K : Nat → Nat) (F : Nat → Nat → Nat) (tl z0 z1 z2 z3 z4 z5 z6 z7 z8 z9 z10 z11 z12 z13 z14 z15 z16 z17 z18 z19 z20 : Int32) (ar0 ar1 ar2 ar3 ar4 ar5 ar6 ar7 ar8 ar9 ar10 : Nat → Int32) (h0 : Heap) (a : Nat) (p0 : Int32) (p1 : Int32) (p2 : Nat) (p3 : Int32) (ha : K a = 13) (hp2 : XO K p2 p3.toInt) (hR : RV ar1) (e0 : 0 ≤ p0.toInt ∧ p0.toInt ≤ 11) (e1 : 0 ≤ (aI ar1 (10 * p0.toInt + (0 : Int)))) (e2 : (aF ar1 p0.toInt) ≤ p1.toInt ∧ p1.toInt ≤ (aL ar1 p0.toInt)) : Met l yX11_fails (xw yX11_fails cX11_fails 8 (some .boolean)) rm_X11_fails (va_Pc [.ref a, .int p0, .int p1, .ref p2, .int p3] (XPh E K F (tl, [z0, z1, z2, z3, z4, z5, z6, z7, z8, z9, z10, z11, z12, z13, z14, z15, z16, z17, z18, z19, z20], [ar0, ar1, ar2, ar3, ar4, ar5, ar6, ar7, ar8, ar9, ar10]) h0)) (XQ E (fun v (u : Unit) => ∃ r : Int32, v = .int r ∧ (r = 0 ∨ r = 1)) (fun _ H => H = h0)) 0 0 (xA E) := by
  refine x_enter (by decide) (Nat.le_of_ble_eq_true rfl) ?_
  intro p e s m args below meth c Q S hr hlk hnm hQ hP ls hl
  obtain ⟨⟨hz, hK, hT⟩, hh⟩ := hP
  obtain ⟨hx, hb, -, -, -⟩ := id S
  have hS : va_S (xA E) s.heap s.heap [] := va_S.rf
  have hl : lv_has ls 8 [(0, .ref a), (1, .int p0), (2, .int p1), (3, .ref p2), (4, .int p3)] := hl
  have v1 : (((aI ar1 (10 * p0.toInt + (0 : Int))) = 2 ∨ (aI ar1 (10 * p0.toInt + (0 : Int))) = 4 ∨ (aI ar1 (10 * p0.toInt + (0 : Int))) = 5) ∧ (aF ar1 p0.toInt) = 0 ∧ (aL ar1 p0.toInt) = 29) ∨ ((aI ar1 (10 * p0.toInt + (0 : Int))) ≠ 2 ∧ (aI ar1 (10 * p0.toInt + (0 : Int))) ≠ 4 ∧ (aI ar1 (10 * p0.toInt + (0 : Int))) ≠ 5 ∧ (aF ar1 p0.toInt) = -99 ∧ (aL ar1 p0.toInt) = 99) := aFL
  refine lv_aload_n hx hb dX11_fails_0 rfl (lv_at hl 0 rfl) ?_
  refine lv_iload_n hx hb dX11_fails_1 rfl (lv_at hl 1 rfl) ?_
  refine lv_iconst (v := 0) hx hb dX11_fails_2 (by decide) ?_
  refine x_clp (x_runV (b := a) (As := [.int p0, .int 0]) (rest := []) S (c_X11_of l E K F tl z0 z1 z2 z3 z4 z5 z6 z7 z8 z9 z10 z11 z12 z13 z14 z15 z16 z17 z18 z19 z20 ar0 ar1 ar2 ar3 ar4 ar5 ar6 ar7 ar8 ar9 ar10 s.heap a p0 0 ha (z_X11_fails_1 p0.toInt e0 (xr p0)) (by decide)) mv_X11_of km_X11_165 rfl rfl ⟨Nat.le_of_ble_eq_true rfl, Nat.le_of_ble_eq_true rfl⟩ (rc_13 hK hT ha) hK (fun _ => XPh.blind) (fun U hU hW => XPh.at hK hz hS hT hU hW) rfl hl.1 (Nat.le_of_ble_eq_true rfl) dX11_fails_3 ⟨Nat.le_of_ble_eq_true rfl, Nat.le_of_ble_eq_true rfl⟩) hS ?_
  rintro _ _ locs ⟨x3, rfl, t2⟩ hS
  have t2 : x3.toInt = (aI ar1 (10 * p0.toInt + (0 : Int))) := t2
  have v5 : (-1 ≤ (aI ar1 (10 * p0.toInt + (0 : Int))) ∧ (aI ar1 (10 * p0.toInt + (0 : Int))) ≤ 5) ∧ (0 ≤ (aI ar1 (10 * p0.toInt + (1 : Int))) ∧ (aI ar1 (10 * p0.toInt + (1 : Int))) ≤ 2) ∧ (0 ≤ (aI ar1 (10 * p0.toInt + (2 : Int))) ∧ (aI ar1 (10 * p0.toInt + (2 : Int))) ≤ 2) ∧ (-1 ≤ (aI ar1 (10 * p0.toInt + (3 : Int))) ∧ (aI ar1 (10 * p0.toInt + (3 : Int))) ≤ 2) ∧ ((aI ar1 (10 * p0.toInt + (0 : Int))) = 1 ∨ (aI ar1 (10 * p0.toInt + (0 : Int))) = 3 ∨ (aI ar1 (10 * p0.toInt + (0 : Int))) = 4 → 0 ≤ (aI ar1 (10 * p0.toInt + (3 : Int)))) := RV.row hR (z_X11_fails_2 p0.toInt e0 (xr p0))
  refine lv_istore (lv' := [(5, .int x3), (0, .ref a), (1, .int p0), (2, .int p1), (3, .ref p2), (4, .int p3)]) hx hb dX11_fails_6 hl (by decide) rfl (fun ls hl => ?_)
  refine lv_iload hx hb dX11_fails_8 (lv_at hl 0 rfl) ?_
  refine lv_iconst (v := 5) hx hb dX11_fails_10 (by decide) ?_
  refine xi_cne (tgt := 24) hx hb (rfl : Int32.toInt x3 = x3.toInt) ((by decide) : Int32.toInt 5 = (5 : Int)) dX11_fails_11 (by decide) (fun c6 => ?_) (fun c6 => ?_)
  · refine lv_aload_n hx hb dX11_fails_24 rfl (lv_at hl 1 rfl) ?_
    refine lv_iload_n hx hb dX11_fails_25 rfl (lv_at hl 2 rfl) ?_
    refine lv_iload_n hx hb dX11_fails_26 rfl (lv_at hl 3 rfl) ?_
    refine lv_aload_n hx hb dX11_fails_27 rfl (lv_at hl 4 rfl) ?_
    refine lv_iload hx hb dX11_fails_28 (lv_at hl 5 rfl) ?_
    refine x_clp (x_runV (b := a) (As := [.int p0, .int p1, .ref p2, .int p3]) (rest := []) S (c_X11_stateOf l E K F tl z0 z1 z2 z3 z4 z5 z6 z7 z8 z9 z10 z11 z12 z13 z14 z15 z16 z17 z18 z19 z20 ar0 ar1 ar2 ar3 ar4 ar5 ar6 ar7 ar8 ar9 ar10 s.heap a p0 p1 p2 p3 ha hp2 hR (z_X11_fails_3 p0.toInt e0 (xr p0)) (z_X11_fails_4 p1.toInt x3.toInt (aF ar1 p0.toInt) (aI ar1 (10 * p0.toInt + (0 : Int))) (aI ar1 (10 * p0.toInt + (1 : Int))) (aI ar1 (10 * p0.toInt + (2 : Int))) (aI ar1 (10 * p0.toInt + (3 : Int))) (aL ar1 p0.toInt) e1 e2 v1 t2 v5 c6 (xr p1) (xr x3)) (z_X11_fails_5 p1.toInt x3.toInt (aF ar1 p0.toInt) (aI ar1 (10 * p0.toInt + (0 : Int))) (aI ar1 (10 * p0.toInt + (1 : Int))) (aI ar1 (10 * p0.toInt + (2 : Int))) (aI ar1 (10 * p0.toInt + (3 : Int))) (aL ar1 p0.toInt) e1 e2 v1 t2 v5 c6 (xr p1) (xr x3))) mv_X11_stateOf km_X11_189 rfl rfl ⟨Nat.le_of_ble_eq_true rfl, Nat.le_of_ble_eq_true rfl⟩ (rc_13 hK hT ha) hK (fun _ => XPh.blind) (fun U hU hW => XPh.at hK hz hS hT hU hW) rfl hl.1 (Nat.le_of_ble_eq_true rfl) dX11_fails_30 ⟨Nat.le_of_ble_eq_true rfl, Nat.le_of_ble_eq_true rfl⟩) hS ?_
    rintro _ _ locs ⟨x7, rfl⟩ hS
    refine lv_istore (lv' := [(6, .int x7), (5, .int x3), (0, .ref a), (1, .int p0), (2, .int p1), (3, .ref p2), (4, .int p3)]) hx hb dX11_fails_33 hl (by decide) rfl (fun ls hl => ?_)
    refine lv_iload hx hb dX11_fails_35 (lv_at hl 0 rfl) ?_
    refine lv_i2l (v := x7.toInt64) hx hb dX11_fails_37 rfl ?_
    refine lv_aload_n hx hb dX11_fails_38 rfl (lv_at hl 2 rfl) ?_
    refine lv_iload_n hx hb dX11_fails_39 rfl (lv_at hl 3 rfl) ?_
    refine lv_iconst (v := 4) hx hb dX11_fails_40 (by decide) ?_
    refine x_clp (x_runV (b := a) (As := [.int p0, .int 4]) (rest := [.long x7.toInt64]) S (c_X11_of l E K F tl z0 z1 z2 z3 z4 z5 z6 z7 z8 z9 z10 z11 z12 z13 z14 z15 z16 z17 z18 z19 z20 ar0 ar1 ar2 ar3 ar4 ar5 ar6 ar7 ar8 ar9 ar10 s.heap a p0 4 ha (z_X11_fails_6 p0.toInt e0 (xr p0)) (by decide)) mv_X11_of km_X11_165 rfl rfl ⟨Nat.le_of_ble_eq_true rfl, Nat.le_of_ble_eq_true rfl⟩ (rc_13 hK hT ha) hK (fun _ => XPh.blind) (fun U hU hW => XPh.at hK hz hS hT hU hW) rfl hl.1 (Nat.le_of_ble_eq_true rfl) dX11_fails_41 ⟨Nat.le_of_ble_eq_true rfl, Nat.le_of_ble_eq_true rfl⟩) hS ?_
    rintro _ _ locs ⟨x10, rfl, t9⟩ hS
    have t9 : x10.toInt = (aI ar1 (10 * p0.toInt + (4 : Int))) := t9
    refine lv_i2l (v := x10.toInt64) hx hb dX11_fails_44 rfl ?_
    refine lv_aload_n hx hb dX11_fails_45 rfl (lv_at hl 2 rfl) ?_
    refine lv_iload_n hx hb dX11_fails_46 rfl (lv_at hl 3 rfl) ?_
    refine lv_iconst (v := 5) hx hb dX11_fails_47 (by decide) ?_
    refine x_clp (x_runV (b := a) (As := [.int p0, .int 5]) (rest := [.long x10.toInt64, .long x7.toInt64]) S (c_X11_of l E K F tl z0 z1 z2 z3 z4 z5 z6 z7 z8 z9 z10 z11 z12 z13 z14 z15 z16 z17 z18 z19 z20 ar0 ar1 ar2 ar3 ar4 ar5 ar6 ar7 ar8 ar9 ar10 s.heap a p0 5 ha (z_X11_fails_7 p0.toInt e0 (xr p0)) (by decide)) mv_X11_of km_X11_165 rfl rfl ⟨Nat.le_of_ble_eq_true rfl, Nat.le_of_ble_eq_true rfl⟩ (rc_13 hK hT ha) hK (fun _ => XPh.blind) (fun U hU hW => XPh.at hK hz hS hT hU hW) rfl hl.1 (Nat.le_of_ble_eq_true rfl) dX11_fails_48 ⟨Nat.le_of_ble_eq_true rfl, Nat.le_of_ble_eq_true rfl⟩) hS ?_
    rintro _ _ locs ⟨x13, rfl, t12⟩ hS
    have t12 : x13.toInt = (aI ar1 (10 * p0.toInt + (5 : Int))) := t12
    refine lv_i2l (v := x13.toInt64) hx hb dX11_fails_51 rfl ?_
    refine x_clp (x_runS (As := [.long x7.toInt64, .long x10.toInt64, .long x13.toInt64]) (rest := []) S (c_X11_in l E K F tl z0 z1 z2 z3 z4 z5 z6 z7 z8 z9 z10 z11 z12 z13 z14 z15 z16 z17 z18 z19 z20 ar0 ar1 ar2 ar3 ar4 ar5 ar6 ar7 ar8 ar9 ar10 s.heap x7.toInt64 x10.toInt64 x13.toInt64 x7.toInt x10.toInt x13.toInt (xl_i2l (rfl : Int32.toInt x7 = x7.toInt)) (xl_i2l (rfl : Int32.toInt x10 = x10.toInt)) (xl_i2l (rfl : Int32.toInt x13 = x13.toInt))) ms_X11_in km_X11_139 rfl rfl ⟨Nat.le_of_ble_eq_true rfl, Nat.le_of_ble_eq_true rfl⟩ hK (fun _ => XPh.blind) (fun U hU hW => XPh.at hK hz hS hT hU hW) rfl hl.1 (Nat.le_of_ble_eq_true rfl) dX11_fails_52 ⟨Nat.le_of_ble_eq_true rfl, Nat.le_of_ble_eq_true rfl⟩) hS ?_
    rintro _ _ locs ⟨x15, rfl, b16, t17⟩ hS
    have t17 : (x15.toInt = 1 ∧ x10.toInt ≤ x7.toInt ∧ x7.toInt ≤ x13.toInt) ∨ (x15.toInt = 0 ∧ (x7.toInt < x10.toInt ∨ x13.toInt < x7.toInt)) := t17
    refine lv_istore (lv' := [(7, .int x15), (6, .int x7), (5, .int x3), (0, .ref a), (1, .int p0), (2, .int p1), (3, .ref p2), (4, .int p3)]) hx hb dX11_fails_55 hl (by decide) rfl (fun ls hl => ?_)
    refine lv_iload hx hb dX11_fails_57 (lv_at hl 2 rfl) ?_
    rcases ((z_X11_fails_8 x3.toInt (xr x3)) : (x3.toInt < 0 ∨ 3 < x3.toInt) ∨ (x3.toInt = 0) ∨ (x3.toInt = 1) ∨ (x3.toInt = 2) ∨ (x3.toInt = 3)) with c18 | c18 | c18 | c18 | c18
    · refine lv_tableOut (tgt := 163) hx hb dX11_fails_59 c18 (by decide) ?_
      refine lv_iload hx hb dX11_fails_163 (lv_at hl 1 rfl) ?_
      refine lv_iconst (v := 2) hx hb dX11_fails_165 (by decide) ?_
      refine xi_irem hx hb (rfl : Int32.toInt x7 = x7.toInt) ((by decide) : Int32.toInt 2 = (2 : Int)) (by decide) dX11_fails_166 (fun x19 t20 => ?_)
      refine lv_iconst (v := 1) hx hb dX11_fails_167 (by decide) ?_
      refine xi_cne (tgt := 200) hx hb (rfl : Int32.toInt x19 = x19.toInt) ((by decide) : Int32.toInt 1 = (1 : Int)) dX11_fails_168 (by decide) (fun c21 => ?_) (fun c21 => ?_)
      · refine lv_iconst (v := 0) hx hb dX11_fails_200 (by decide) ?_
        exact x_rz hx hb hr (xnz (Or.inl rfl)) hlk hQ (Nat.le_of_ble_eq_true rfl) (Nat.le_of_ble_eq_true rfl) hS dX11_fails_201 () ⟨_, rfl, (Or.inl rfl)⟩ hh
      · refine lv_iload hx hb dX11_fails_171 (lv_at hl 1 rfl) ?_
        refine lv_iconst (v := 2) hx hb dX11_fails_173 (by decide) ?_
        refine xi_idiv hx hb (rfl : Int32.toInt x7 = x7.toInt) ((by decide) : Int32.toInt 2 = (2 : Int)) (by decide) dX11_fails_174 (fun x22 t23 => ?_)
        refine lv_i2l (v := x22.toInt64) hx hb dX11_fails_175 rfl ?_
        refine lv_aload_n hx hb dX11_fails_176 rfl (lv_at hl 3 rfl) ?_
        refine lv_iload_n hx hb dX11_fails_177 rfl (lv_at hl 4 rfl) ?_
        refine lv_iconst (v := 4) hx hb dX11_fails_178 (by decide) ?_
        refine x_clp (x_runV (b := a) (As := [.int p0, .int 4]) (rest := [.long x22.toInt64]) S (c_X11_of l E K F tl z0 z1 z2 z3 z4 z5 z6 z7 z8 z9 z10 z11 z12 z13 z14 z15 z16 z17 z18 z19 z20 ar0 ar1 ar2 ar3 ar4 ar5 ar6 ar7 ar8 ar9 ar10 s.heap a p0 4 ha (z_X11_fails_9 p0.toInt e0 (xr p0)) (by decide)) mv_X11_of km_X11_165 rfl rfl ⟨Nat.le_of_ble_eq_true rfl, Nat.le_of_ble_eq_true rfl⟩ (rc_13 hK hT ha) hK (fun _ => XPh.blind) (fun U hU hW => XPh.at hK hz hS hT hU hW) rfl hl.1 (Nat.le_of_ble_eq_true rfl) dX11_fails_179 ⟨Nat.le_of_ble_eq_true rfl, Nat.le_of_ble_eq_true rfl⟩) hS ?_
        rintro _ _ locs ⟨x25, rfl, t24⟩ hS
        have t24 : x25.toInt = (aI ar1 (10 * p0.toInt + (4 : Int))) := t24
        refine lv_i2l (v := x25.toInt64) hx hb dX11_fails_182 rfl ?_
        refine lv_aload_n hx hb dX11_fails_183 rfl (lv_at hl 3 rfl) ?_
        refine lv_iload_n hx hb dX11_fails_184 rfl (lv_at hl 4 rfl) ?_
        refine lv_iconst (v := 5) hx hb dX11_fails_185 (by decide) ?_
        refine x_clp (x_runV (b := a) (As := [.int p0, .int 5]) (rest := [.long x25.toInt64, .long x22.toInt64]) S (c_X11_of l E K F tl z0 z1 z2 z3 z4 z5 z6 z7 z8 z9 z10 z11 z12 z13 z14 z15 z16 z17 z18 z19 z20 ar0 ar1 ar2 ar3 ar4 ar5 ar6 ar7 ar8 ar9 ar10 s.heap a p0 5 ha (z_X11_fails_10 p0.toInt e0 (xr p0)) (by decide)) mv_X11_of km_X11_165 rfl rfl ⟨Nat.le_of_ble_eq_true rfl, Nat.le_of_ble_eq_true rfl⟩ (rc_13 hK hT ha) hK (fun _ => XPh.blind) (fun U hU hW => XPh.at hK hz hS hT hU hW) rfl hl.1 (Nat.le_of_ble_eq_true rfl) dX11_fails_186 ⟨Nat.le_of_ble_eq_true rfl, Nat.le_of_ble_eq_true rfl⟩) hS ?_
        rintro _ _ locs ⟨x28, rfl, t27⟩ hS
        have t27 : x28.toInt = (aI ar1 (10 * p0.toInt + (5 : Int))) := t27
        refine lv_i2l (v := x28.toInt64) hx hb dX11_fails_189 rfl ?_
        refine x_clp (x_runS (As := [.long x22.toInt64, .long x25.toInt64, .long x28.toInt64]) (rest := []) S (c_X11_in l E K F tl z0 z1 z2 z3 z4 z5 z6 z7 z8 z9 z10 z11 z12 z13 z14 z15 z16 z17 z18 z19 z20 ar0 ar1 ar2 ar3 ar4 ar5 ar6 ar7 ar8 ar9 ar10 s.heap x22.toInt64 x25.toInt64 x28.toInt64 x22.toInt x25.toInt x28.toInt (xl_i2l (rfl : Int32.toInt x22 = x22.toInt)) (xl_i2l (rfl : Int32.toInt x25 = x25.toInt)) (xl_i2l (rfl : Int32.toInt x28 = x28.toInt))) ms_X11_in km_X11_139 rfl rfl ⟨Nat.le_of_ble_eq_true rfl, Nat.le_of_ble_eq_true rfl⟩ hK (fun _ => XPh.blind) (fun U hU hW => XPh.at hK hz hS hT hU hW) rfl hl.1 (Nat.le_of_ble_eq_true rfl) dX11_fails_190 ⟨Nat.le_of_ble_eq_true rfl, Nat.le_of_ble_eq_true rfl⟩) hS ?_
        rintro _ _ locs ⟨x30, rfl, b31, t32⟩ hS
        have t32 : (x30.toInt = 1 ∧ x25.toInt ≤ x22.toInt ∧ x22.toInt ≤ x28.toInt) ∨ (x30.toInt = 0 ∧ (x22.toInt < x25.toInt ∨ x28.toInt < x22.toInt)) := t32
        refine xi_zne (tgt := 200) hx hb (rfl : Int32.toInt x30 = x30.toInt) dX11_fails_193 (by decide) (fun c33 => ?_) (fun c33 => ?_)
        · refine lv_iconst (v := 0) hx hb dX11_fails_200 (by decide) ?_
          exact x_rz hx hb hr (xnz (Or.inl rfl)) hlk hQ (Nat.le_of_ble_eq_true rfl) (Nat.le_of_ble_eq_true rfl) hS dX11_fails_201 () ⟨_, rfl, (Or.inl rfl)⟩ hh
        · refine lv_iconst (v := 1) hx hb dX11_fails_196 (by decide) ?_
          refine lv_goto (tgt := 201) hx hb dX11_fails_197 (by decide) ?_
          exact x_rz hx hb hr (xnz (Or.inr rfl)) hlk hQ (Nat.le_of_ble_eq_true rfl) (Nat.le_of_ble_eq_true rfl) hS dX11_fails_201 () ⟨_, rfl, (Or.inr rfl)⟩ hh
    · refine lv_tableIn (off := 29) (tgt := 88) hx hb dX11_fails_59 (by rw [c18]; decide) (by rw [c18]; decide) (by rw [c18]; rfl) (by decide) ?_
      refine lv_iload hx hb dX11_fails_88 (lv_at hl 1 rfl) ?_
      refine lv_iconst (v := 1) hx hb dX11_fails_90 (by decide) ?_
      refine xi_cle (tgt := 98) hx hb (rfl : Int32.toInt x7 = x7.toInt) ((by decide) : Int32.toInt 1 = (1 : Int)) dX11_fails_91 (by decide) (fun c34 => ?_) (fun c34 => ?_)
      · refine lv_iconst (v := 0) hx hb dX11_fails_98 (by decide) ?_
        exact x_rz hx hb hr (xnz (Or.inl rfl)) hlk hQ (Nat.le_of_ble_eq_true rfl) (Nat.le_of_ble_eq_true rfl) hS dX11_fails_99 () ⟨_, rfl, (Or.inl rfl)⟩ hh
      · refine lv_iconst (v := 1) hx hb dX11_fails_94 (by decide) ?_
        refine lv_goto (tgt := 99) hx hb dX11_fails_95 (by decide) ?_
        exact x_rz hx hb hr (xnz (Or.inr rfl)) hlk hQ (Nat.le_of_ble_eq_true rfl) (Nat.le_of_ble_eq_true rfl) hS dX11_fails_99 () ⟨_, rfl, (Or.inr rfl)⟩ hh
    · refine lv_tableIn (off := 41) (tgt := 100) hx hb dX11_fails_59 (by rw [c18]; decide) (by rw [c18]; decide) (by rw [c18]; rfl) (by decide) ?_
      refine lv_iload hx hb dX11_fails_100 (lv_at hl 1 rfl) ?_
      refine xi_zle (tgt := 116) hx hb (rfl : Int32.toInt x7 = x7.toInt) dX11_fails_102 (by decide) (fun c35 => ?_) (fun c35 => ?_)
      · refine lv_iconst (v := 0) hx hb dX11_fails_116 (by decide) ?_
        exact x_rz hx hb hr (xnz (Or.inl rfl)) hlk hQ (Nat.le_of_ble_eq_true rfl) (Nat.le_of_ble_eq_true rfl) hS dX11_fails_117 () ⟨_, rfl, (Or.inl rfl)⟩ hh
      · refine lv_iload hx hb dX11_fails_105 (lv_at hl 1 rfl) ?_
        refine lv_iconst (v := 2) hx hb dX11_fails_107 (by decide) ?_
        refine xi_irem hx hb (rfl : Int32.toInt x7 = x7.toInt) ((by decide) : Int32.toInt 2 = (2 : Int)) (by decide) dX11_fails_108 (fun x36 t37 => ?_)
        refine xi_zne (tgt := 116) hx hb (rfl : Int32.toInt x36 = x36.toInt) dX11_fails_109 (by decide) (fun c38 => ?_) (fun c38 => ?_)
        · refine lv_iconst (v := 0) hx hb dX11_fails_116 (by decide) ?_
          exact x_rz hx hb hr (xnz (Or.inl rfl)) hlk hQ (Nat.le_of_ble_eq_true rfl) (Nat.le_of_ble_eq_true rfl) hS dX11_fails_117 () ⟨_, rfl, (Or.inl rfl)⟩ hh
        · refine lv_iconst (v := 1) hx hb dX11_fails_112 (by decide) ?_
          refine lv_goto (tgt := 117) hx hb dX11_fails_113 (by decide) ?_
          exact x_rz hx hb hr (xnz (Or.inr rfl)) hlk hQ (Nat.le_of_ble_eq_true rfl) (Nat.le_of_ble_eq_true rfl) hS dX11_fails_117 () ⟨_, rfl, (Or.inr rfl)⟩ hh
    · refine lv_tableIn (off := 59) (tgt := 118) hx hb dX11_fails_59 (by rw [c18]; decide) (by rw [c18]; decide) (by rw [c18]; rfl) (by decide) ?_
      refine lv_iload hx hb dX11_fails_118 (lv_at hl 1 rfl) ?_
      refine lv_sipush (v := (-1000)) hx hb dX11_fails_120 (by decide) ?_
      refine xi_ceq (tgt := 143) hx hb (rfl : Int32.toInt x7 = x7.toInt) ((by decide) : Int32.toInt (-1000) = (-1000 : Int)) dX11_fails_123 (by decide) (fun c39 => ?_) (fun c39 => ?_)
      · refine lv_iconst (v := 0) hx hb dX11_fails_143 (by decide) ?_
        exact x_rz hx hb hr (xnz (Or.inl rfl)) hlk hQ (Nat.le_of_ble_eq_true rfl) (Nat.le_of_ble_eq_true rfl) hS dX11_fails_144 () ⟨_, rfl, (Or.inl rfl)⟩ hh
      · refine lv_iload hx hb dX11_fails_126 (lv_at hl 1 rfl) ?_
        refine lv_sipush (v := (-2000)) hx hb dX11_fails_128 (by decide) ?_
        refine xi_ceq (tgt := 143) hx hb (rfl : Int32.toInt x7 = x7.toInt) ((by decide) : Int32.toInt (-2000) = (-2000 : Int)) dX11_fails_131 (by decide) (fun c40 => ?_) (fun c40 => ?_)
        · refine lv_iconst (v := 0) hx hb dX11_fails_143 (by decide) ?_
          exact x_rz hx hb hr (xnz (Or.inl rfl)) hlk hQ (Nat.le_of_ble_eq_true rfl) (Nat.le_of_ble_eq_true rfl) hS dX11_fails_144 () ⟨_, rfl, (Or.inl rfl)⟩ hh
        · refine lv_iload hx hb dX11_fails_134 (lv_at hl 0 rfl) ?_
          refine xi_zne (tgt := 143) hx hb (rfl : Int32.toInt x15 = x15.toInt) dX11_fails_136 (by decide) (fun c41 => ?_) (fun c41 => ?_)
          · refine lv_iconst (v := 0) hx hb dX11_fails_143 (by decide) ?_
            exact x_rz hx hb hr (xnz (Or.inl rfl)) hlk hQ (Nat.le_of_ble_eq_true rfl) (Nat.le_of_ble_eq_true rfl) hS dX11_fails_144 () ⟨_, rfl, (Or.inl rfl)⟩ hh
          · refine lv_iconst (v := 1) hx hb dX11_fails_139 (by decide) ?_
            refine lv_goto (tgt := 144) hx hb dX11_fails_140 (by decide) ?_
            exact x_rz hx hb hr (xnz (Or.inr rfl)) hlk hQ (Nat.le_of_ble_eq_true rfl) (Nat.le_of_ble_eq_true rfl) hS dX11_fails_144 () ⟨_, rfl, (Or.inr rfl)⟩ hh
    · refine lv_tableIn (off := 86) (tgt := 145) hx hb dX11_fails_59 (by rw [c18]; decide) (by rw [c18]; decide) (by rw [c18]; rfl) (by decide) ?_
      refine lv_iload hx hb dX11_fails_145 (lv_at hl 1 rfl) ?_
      refine lv_ldc (v := 100000) hx hb S.2.2.2.1 (S.2.2.2.2 _ (List.mem_cons_of_mem _ kc_X11_175)) dX11_fails_147 ?_
      refine xi_ceq (tgt := 161) hx hb (rfl : Int32.toInt x7 = x7.toInt) ((by decide) : Int32.toInt 100000 = (100000 : Int)) dX11_fails_149 (by decide) (fun c42 => ?_) (fun c42 => ?_)
      · refine lv_iconst (v := 0) hx hb dX11_fails_161 (by decide) ?_
        exact x_rz hx hb hr (xnz (Or.inl rfl)) hlk hQ (Nat.le_of_ble_eq_true rfl) (Nat.le_of_ble_eq_true rfl) hS dX11_fails_162 () ⟨_, rfl, (Or.inl rfl)⟩ hh
      · refine lv_iload hx hb dX11_fails_152 (lv_at hl 0 rfl) ?_
        refine xi_zne (tgt := 161) hx hb (rfl : Int32.toInt x15 = x15.toInt) dX11_fails_154 (by decide) (fun c43 => ?_) (fun c43 => ?_)
        · refine lv_iconst (v := 0) hx hb dX11_fails_161 (by decide) ?_
          exact x_rz hx hb hr (xnz (Or.inl rfl)) hlk hQ (Nat.le_of_ble_eq_true rfl) (Nat.le_of_ble_eq_true rfl) hS dX11_fails_162 () ⟨_, rfl, (Or.inl rfl)⟩ hh
        · refine lv_iconst (v := 1) hx hb dX11_fails_157 (by decide) ?_
          refine lv_goto (tgt := 162) hx hb dX11_fails_158 (by decide) ?_
          exact x_rz hx hb hr (xnz (Or.inr rfl)) hlk hQ (Nat.le_of_ble_eq_true rfl) (Nat.le_of_ble_eq_true rfl) hS dX11_fails_162 () ⟨_, rfl, (Or.inr rfl)⟩ hh
  · refine lv_aload_n hx hb dX11_fails_14 rfl (lv_at hl 1 rfl) ?_
    refine lv_iload_n hx hb dX11_fails_15 rfl (lv_at hl 2 rfl) ?_
    refine lv_iload_n hx hb dX11_fails_16 rfl (lv_at hl 3 rfl) ?_
    refine lv_aload_n hx hb dX11_fails_17 rfl (lv_at hl 4 rfl) ?_
    refine lv_iload hx hb dX11_fails_18 (lv_at hl 5 rfl) ?_
    refine x_clp (x_runV (b := a) (As := [.int p0, .int p1, .ref p2, .int p3]) (rest := []) S (c_X11_isRing l E K F tl z0 z1 z2 z3 z4 z5 z6 z7 z8 z9 z10 z11 z12 z13 z14 z15 z16 z17 z18 z19 z20 ar0 ar1 ar2 ar3 ar4 ar5 ar6 ar7 ar8 ar9 ar10 s.heap a p0 p1 p2 p3 ha hp2 hR (z_X11_fails_11 p0.toInt e0 (xr p0)) (z_X11_fails_12 p1.toInt x3.toInt (aF ar1 p0.toInt) (aI ar1 (10 * p0.toInt + (0 : Int))) (aI ar1 (10 * p0.toInt + (1 : Int))) (aI ar1 (10 * p0.toInt + (2 : Int))) (aI ar1 (10 * p0.toInt + (3 : Int))) (aL ar1 p0.toInt) e1 e2 v1 t2 v5 c6 (xr p1) (xr x3))) mv_X11_isRing km_X11_193 rfl rfl ⟨Nat.le_of_ble_eq_true rfl, Nat.le_of_ble_eq_true rfl⟩ (rc_13 hK hT ha) hK (fun _ => XPh.blind) (fun U hU hW => XPh.at hK hz hS hT hU hW) rfl hl.1 (Nat.le_of_ble_eq_true rfl) dX11_fails_20 ⟨Nat.le_of_ble_eq_true rfl, Nat.le_of_ble_eq_true rfl⟩) hS ?_
    rintro _ _ locs ⟨x44, rfl, b45⟩ hS
    exact x_rz hx hb hr (xnz b45) hlk hQ (Nat.le_of_ble_eq_true rfl) (Nat.le_of_ble_eq_true rfl) hS dX11_fails_23 () ⟨_, rfl, b45⟩ hh
