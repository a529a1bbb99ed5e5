theorem z_X11_in_1 (a0 : Int) (a1 : Int) (a2 : Int) (a3 : Int) (h0 : (a1 < a2 ∧ a0 = -1) ∨ (a1 = a2 ∧ a0 = 0) ∨ (a2 < a1 ∧ a0 = 1)) (h1 : a0 < 0) : ((0 : Int) = 1 ∧ a2 ≤ a1 ∧ a1 ≤ a3) ∨ ((0 : Int) = 0 ∧ (a1 < a2 ∨ a3 < a1)) := by omega
theorem z_X11_in_2 (a0 : Int) (a1 : Int) (a2 : Int) (a3 : Int) (h0 : (a1 < a3 ∧ a0 = -1) ∨ (a1 = a3 ∧ a0 = 0) ∨ (a3 < a1 ∧ a0 = 1)) (h1 : 0 < a0) : ((0 : Int) = 1 ∧ a2 ≤ a1 ∧ a1 ≤ a3) ∨ ((0 : Int) = 0 ∧ (a1 < a2 ∨ a3 < a1)) := by omega
theorem z_X11_in_3 (a0 : Int) (a1 : Int) (a2 : Int) (a3 : Int) (a4 : Int) (h0 : (a2 < a3 ∧ a0 = -1) ∨ (a2 = a3 ∧ a0 = 0) ∨ (a3 < a2 ∧ a0 = 1)) (h1 : ¬ (a0 < 0)) (h2 : (a2 < a4 ∧ a1 = -1) ∨ (a2 = a4 ∧ a1 = 0) ∨ (a4 < a2 ∧ a1 = 1)) (h3 : ¬ (0 < a1)) : ((1 : Int) = 1 ∧ a3 ≤ a2 ∧ a2 ≤ a4) ∨ ((1 : Int) = 0 ∧ (a2 < a3 ∨ a4 < a2)) := by omega
abbrev rm_X11_in : Room := { frames := 0, cells := 0, slots := 0, locals := 0 }
set_option maxHeartbeats 4000000 in
set_option maxRecDepth 100000 in
theorem c_X11_in (l : Launch) (E : XE) (K : Nat → Nat) (F : Nat → Nat → Nat) (G : XG) (h0 : Heap) (p0 : Int64) (v0 : Int) (p1 : Int64) (v1 : Int) (p2 : Int64) (v2 : Int) (g0 : p0.toInt = v0) (g1 : p1.toInt = v1) (g2 : p2.toInt = v2) : Met l yX11_in (xw yX11_in cX11_in 6 (some .boolean)) rm_X11_in (va_Pc [.long p0, .long p1, .long p2] (XPh E K F G h0)) (XQ E (fun v (u : Unit) => ∃ r : Int32, v = .int r ∧ (r = 0 ∨ r = 1) ∧ ((r.toInt = 1 ∧ v1 ≤ v0 ∧ v0 ≤ v2) ∨ (r.toInt = 0 ∧ (v0 < v1 ∨ v2 < v0)))) (fun _ H => H = h0)) 0 0 (xA E) := by
  refine x_enter (by decide) (Nat.le_of_ble_eq_true rfl) ?_
  intro p e s m args below meth c Q S hr hlk hnm hQ hP ls hl
  obtain ⟨⟨hz, hK, hT⟩, hh⟩ := hP
  obtain ⟨hx, hb, -, -, -⟩ := id S
  have hS : va_S (xA E) s.heap s.heap [] := va_S.rf
  have hl : lv_has ls 6 [(0, .long p0), (2, .long p1), (4, .long p2)] := hl
  refine lv_lload_n hx hb dX11_in_0 rfl (lv_at hl 0 rfl) ?_
  refine lv_lload_n hx hb dX11_in_1 rfl (lv_at hl 1 rfl) ?_
  refine xi_lcmp hx hb g0 g1 dX11_in_2 (fun x2 t2 => ?_)
  refine xi_zlt (tgt := 17) hx hb (rfl : Int32.toInt x2 = x2.toInt) dX11_in_3 (by decide) (fun c3 => ?_) (fun c3 => ?_)
  · refine lv_iconst (v := 0) hx hb dX11_in_17 (by decide) ?_
    exact x_rz hx hb hr (xnz (Or.inl rfl)) hlk hQ (Nat.le_of_ble_eq_true rfl) (Nat.le_of_ble_eq_true rfl) hS dX11_in_18 () ⟨_, rfl, (Or.inl rfl), (z_X11_in_1 x2.toInt v0 v1 v2 t2 c3)⟩ hh
  · refine lv_lload_n hx hb dX11_in_6 rfl (lv_at hl 0 rfl) ?_
    refine lv_lload hx hb dX11_in_7 (lv_at hl 2 rfl) ?_
    refine xi_lcmp hx hb g0 g2 dX11_in_9 (fun x9 t9 => ?_)
    refine xi_zgt (tgt := 17) hx hb (rfl : Int32.toInt x9 = x9.toInt) dX11_in_10 (by decide) (fun c10 => ?_) (fun c10 => ?_)
    · refine lv_iconst (v := 0) hx hb dX11_in_17 (by decide) ?_
      exact x_rz hx hb hr (xnz (Or.inl rfl)) hlk hQ (Nat.le_of_ble_eq_true rfl) (Nat.le_of_ble_eq_true rfl) hS dX11_in_18 () ⟨_, rfl, (Or.inl rfl), (z_X11_in_2 x9.toInt v0 v1 v2 t9 c10)⟩ hh
    · refine lv_iconst (v := 1) hx hb dX11_in_13 (by decide) ?_
      refine lv_goto (tgt := 18) hx hb dX11_in_14 (by decide) ?_
      exact x_rz hx hb hr (xnz (Or.inr rfl)) hlk hQ (Nat.le_of_ble_eq_true rfl) (Nat.le_of_ble_eq_true rfl) hS dX11_in_18 () ⟨_, rfl, (Or.inr rfl), (z_X11_in_3 x2.toInt x9.toInt v0 v1 v2 t2 c3 t9 c10)⟩ hh

theorem z_X11_at_1 (a0 : Int) (a1 : Int) (a2 : Int) (a3 : Int) (a4 : Int) (h0 : a2 = (30 : Int) * a0 ∨ (30 : Int) * a0 < -2147483648 ∨ 2147483648 ≤ (30 : Int) * a0) (h1 : a3 = a2 + a1 ∨ a2 + a1 < -2147483648 ∨ 2147483648 ≤ a2 + a1) (h2 : a4 = (4 : Int) * a3 ∨ (4 : Int) * a3 < -2147483648 ∨ 2147483648 ≤ (4 : Int) * a3) : 0 ≤ a0 ∧ a0 ≤ 2 ∧ 0 ≤ a1 ∧ a1 ≤ 29 → a4 = 4 * (30 * a0 + a1) := by omega
abbrev rm_X11_at : Room := { frames := 0, cells := 0, slots := 0, locals := 0 }
set_option maxHeartbeats 4000000 in
set_option maxRecDepth 100000 in
theorem c_X11_at (l : Launch) (E : XE) (K : Nat → Nat) (F : Nat → Nat → Nat) (G : XG) (h0 : Heap) (p0 : Int32) (p1 : Int32)  : Met l yX11_at (xw yX11_at cX11_at 2 (some .int)) rm_X11_at (va_Pc [.int p0, .int p1] (XPh E K F G h0)) (XQ E (fun v (u : Unit) => ∃ r : Int32, v = .int r ∧ (0 ≤ p0.toInt ∧ p0.toInt ≤ 2 ∧ 0 ≤ p1.toInt ∧ p1.toInt ≤ 29 → r.toInt = 4 * (30 * p0.toInt + p1.toInt))) (fun _ H => H = h0)) 0 0 (xA E) := by
  refine x_enter (by decide) (Nat.le_of_ble_eq_true rfl) ?_
  intro p e s m args below meth c Q S hr hlk hnm hQ hP ls hl
  obtain ⟨⟨hz, hK, hT⟩, hh⟩ := hP
  obtain ⟨hx, hb, -, -, -⟩ := id S
  have hS : va_S (xA E) s.heap s.heap [] := va_S.rf
  have hl : lv_has ls 2 [(0, .int p0), (1, .int p1)] := hl
  refine lv_iconst (v := 4) hx hb dX11_at_0 (by decide) ?_
  refine lv_bipush (v := 30) hx hb dX11_at_1 (by decide) ?_
  refine lv_iload_n hx hb dX11_at_3 rfl (lv_at hl 0 rfl) ?_
  refine xi_imul hx hb ((by decide) : Int32.toInt 30 = (30 : Int)) (rfl : Int32.toInt p0 = p0.toInt) dX11_at_4 (fun x4 t4 => ?_)
  refine lv_iload_n hx hb dX11_at_5 rfl (lv_at hl 1 rfl) ?_
  refine xi_iadd hx hb (rfl : Int32.toInt x4 = x4.toInt) (rfl : Int32.toInt p1 = p1.toInt) dX11_at_6 (fun x6 t6 => ?_)
  refine xi_imul hx hb ((by decide) : Int32.toInt 4 = (4 : Int)) (rfl : Int32.toInt x6 = x6.toInt) dX11_at_7 (fun x7 t7 => ?_)
  exact x_ri hx hb hr hlk hQ (Nat.le_of_ble_eq_true rfl) (Nat.le_of_ble_eq_true rfl) hS dX11_at_8 () ⟨_, rfl, (z_X11_at_1 p0.toInt p1.toInt x4.toInt x6.toInt x7.toInt t4 t6 t7)⟩ hh

theorem z_X11_isTable_1 (a0 : Int) (a1 : Int) (h0 : (a1 = 1 ∧ (0 : Int) ≤ a0 ∧ a0 ≤ (2 : Int)) ∨ (a1 = 0 ∧ (a0 < (0 : Int) ∨ (2 : Int) < a0))) : (a1 = 1 ∧ 0 ≤ a0 ∧ a0 ≤ 2) ∨ (a1 = 0 ∧ (a0 < 0 ∨ 2 < a0)) := by omega
abbrev rm_X11_isTable : Room := { frames := 1, cells := 0, slots := 0, locals := 25 }
set_option maxHeartbeats 4000000 in
set_option maxRecDepth 100000 in
theorem c_X11_isTable (l : Launch) (E : XE) (K : Nat → Nat) (F : Nat → Nat → Nat) (G : XG) (h0 : Heap) (p0 : Int32)  : Met l yX11_isTable (xw yX11_isTable cX11_isTable 1 (some .boolean)) rm_X11_isTable (va_Pc [.int p0] (XPh E K F G h0)) (XQ E (fun v (u : Unit) => ∃ r : Int32, v = .int r ∧ (r = 0 ∨ r = 1) ∧ ((r.toInt = 1 ∧ 0 ≤ p0.toInt ∧ p0.toInt ≤ 2) ∨ (r.toInt = 0 ∧ (p0.toInt < 0 ∨ 2 < p0.toInt)))) (fun _ H => H = h0)) 0 0 (xA E) := by
  refine x_enter (by decide) (Nat.le_of_ble_eq_true rfl) ?_
  intro p e s m args below meth c Q S hr hlk hnm hQ hP ls hl
  obtain ⟨⟨hz, hK, hT⟩, hh⟩ := hP
  obtain ⟨hx, hb, -, -, -⟩ := id S
  have hS : va_S (xA E) s.heap s.heap [] := va_S.rf
  have hl : lv_has ls 1 [(0, .int p0)] := hl
  refine lv_iload_n hx hb dX11_isTable_0 rfl (lv_at hl 0 rfl) ?_
  refine lv_i2l (v := p0.toInt64) hx hb dX11_isTable_1 rfl ?_
  refine lv_lconst (v := (0 : Int64)) hx hb dX11_isTable_2 (by decide) ?_
  refine lv_ldc2 (v := 2) hx hb S.2.2.2.1 (S.2.2.2.2 _ (List.mem_cons_of_mem _ kc_X11_137)) dX11_isTable_3 ?_
  refine x_clp (x_runS (As := [.long p0.toInt64, .long (0 : Int64), .long (2 : Int64)]) (rest := []) S (c_X11_in l E K F G s.heap p0.toInt64 p0.toInt (0 : Int64) (0 : Int) (2 : Int64) (2 : Int) (xl_i2l (rfl : Int32.toInt p0 = p0.toInt)) (by decide) (by decide)) ms_X11_in km_X11_139 rfl rfl ⟨Nat.le_of_ble_eq_true rfl, Nat.le_of_ble_eq_true rfl⟩ hK (fun _ => XPh.blind) (fun U hU hW => XPh.at hK hz hS hT hU hW) rfl hl.1 (Nat.le_of_ble_eq_true rfl) dX11_isTable_6 ⟨Nat.le_of_ble_eq_true rfl, Nat.le_of_ble_eq_true rfl⟩) hS ?_
  rintro _ _ locs ⟨x6, rfl, b6, t6⟩ hS
  have t6 : (x6.toInt = 1 ∧ (0 : Int) ≤ p0.toInt ∧ p0.toInt ≤ (2 : Int)) ∨ (x6.toInt = 0 ∧ (p0.toInt < (0 : Int) ∨ (2 : Int) < p0.toInt)) := t6
  exact x_rz hx hb hr (xnz b6) hlk hQ (Nat.le_of_ble_eq_true rfl) (Nat.le_of_ble_eq_true rfl) hS dX11_isTable_9 () ⟨_, rfl, b6, (z_X11_isTable_1 p0.toInt x6.toInt t6)⟩ hh

theorem z_X11_isKey_1 (a0 : Int) (a1 : Int) (h0 : (a1 = 1 ∧ (0 : Int) ≤ a0 ∧ a0 ≤ (29 : Int)) ∨ (a1 = 0 ∧ (a0 < (0 : Int) ∨ (29 : Int) < a0))) : (a1 = 1 ∧ 0 ≤ a0 ∧ a0 ≤ 29) ∨ (a1 = 0 ∧ (a0 < 0 ∨ 29 < a0)) := by omega
abbrev rm_X11_isKey : Room := { frames := 1, cells := 0, slots := 0, locals := 25 }
set_option maxHeartbeats 4000000 in
set_option maxRecDepth 100000 in
theorem c_X11_isKey (l : Launch) (E : XE) (K : Nat → Nat) (F : Nat → Nat → Nat) (G : XG) (h0 : Heap) (p0 : Int32)  : Met l yX11_isKey (xw yX11_isKey cX11_isKey 1 (some .boolean)) rm_X11_isKey (va_Pc [.int p0] (XPh E K F G h0)) (XQ E (fun v (u : Unit) => ∃ r : Int32, v = .int r ∧ (r = 0 ∨ r = 1) ∧ ((r.toInt = 1 ∧ 0 ≤ p0.toInt ∧ p0.toInt ≤ 29) ∨ (r.toInt = 0 ∧ (p0.toInt < 0 ∨ 29 < p0.toInt)))) (fun _ H => H = h0)) 0 0 (xA E) := by
  refine x_enter (by decide) (Nat.le_of_ble_eq_true rfl) ?_
  intro p e s m args below meth c Q S hr hlk hnm hQ hP ls hl
  obtain ⟨⟨hz, hK, hT⟩, hh⟩ := hP
  obtain ⟨hx, hb, -, -, -⟩ := id S
  have hS : va_S (xA E) s.heap s.heap [] := va_S.rf
  have hl : lv_has ls 1 [(0, .int p0)] := hl
  refine lv_iload_n hx hb dX11_isKey_0 rfl (lv_at hl 0 rfl) ?_
  refine lv_i2l (v := p0.toInt64) hx hb dX11_isKey_1 rfl ?_
  refine lv_lconst (v := (0 : Int64)) hx hb dX11_isKey_2 (by decide) ?_
  refine lv_ldc2 (v := 29) hx hb S.2.2.2.1 (S.2.2.2.2 _ (List.mem_cons_of_mem _ kc_X11_143)) dX11_isKey_3 ?_
  refine x_clp (x_runS (As := [.long p0.toInt64, .long (0 : Int64), .long (29 : Int64)]) (rest := []) S (c_X11_in l E K F G s.heap p0.toInt64 p0.toInt (0 : Int64) (0 : Int) (29 : Int64) (29 : Int) (xl_i2l (rfl : Int32.toInt p0 = p0.toInt)) (by decide) (by decide)) ms_X11_in km_X11_139 rfl rfl ⟨Nat.le_of_ble_eq_true rfl, Nat.le_of_ble_eq_true rfl⟩ hK (fun _ => XPh.blind) (fun U hU hW => XPh.at hK hz hS hT hU hW) rfl hl.1 (Nat.le_of_ble_eq_true rfl) dX11_isKey_6 ⟨Nat.le_of_ble_eq_true rfl, Nat.le_of_ble_eq_true rfl⟩) hS ?_
  rintro _ _ locs ⟨x6, rfl, b6, t6⟩ hS
  have t6 : (x6.toInt = 1 ∧ (0 : Int) ≤ p0.toInt ∧ p0.toInt ≤ (29 : Int)) ∨ (x6.toInt = 0 ∧ (p0.toInt < (0 : Int) ∨ (29 : Int) < p0.toInt)) := t6
  exact x_rz hx hb hr (xnz b6) hlk hQ (Nat.le_of_ble_eq_true rfl) (Nat.le_of_ble_eq_true rfl) hS dX11_isKey_9 () ⟨_, rfl, b6, (z_X11_isKey_1 p0.toInt x6.toInt t6)⟩ hh

abbrev rm_X11_isColumn : Room := { frames := 1, cells := 0, slots := 0, locals := 25 }
set_option maxHeartbeats 4000000 in
set_option maxRecDepth 100000 in
theorem c_X11_isColumn (l : Launch) (E : XE) (K : Nat → Nat) (F : Nat → Nat → Nat) (G : XG) (h0 : Heap) (p0 : Int32)  : Met l yX11_isColumn (xw yX11_isColumn cX11_isColumn 1 (some .boolean)) rm_X11_isColumn (va_Pc [.int p0] (XPh E K F G h0)) (XQ E (fun v (u : Unit) => ∃ r : Int32, v = .int r ∧ (r = 0 ∨ r = 1) ∧ ((r.toInt = 1 ∧ 0 ≤ p0.toInt ∧ p0.toInt ≤ 2) ∨ (r.toInt = 0 ∧ (p0.toInt < 0 ∨ 2 < p0.toInt)))) (fun _ H => H = h0)) 0 0 (xA E) := by
  refine x_enter (by decide) (Nat.le_of_ble_eq_true rfl) ?_
  intro p e s m args below meth c Q S hr hlk hnm hQ hP ls hl
  obtain ⟨⟨hz, hK, hT⟩, hh⟩ := hP
  obtain ⟨hx, hb, -, -, -⟩ := id S
  have hS : va_S (xA E) s.heap s.heap [] := va_S.rf
  have hl : lv_has ls 1 [(0, .int p0)] := hl
  refine lv_iload_n hx hb dX11_isColumn_0 rfl (lv_at hl 0 rfl) ?_
  refine lv_i2l (v := p0.toInt64) hx hb dX11_isColumn_1 rfl ?_
  refine lv_lconst (v := (0 : Int64)) hx hb dX11_isColumn_2 (by decide) ?_
  refine lv_ldc2 (v := 2) hx hb S.2.2.2.1 (S.2.2.2.2 _ (List.mem_cons_of_mem _ kc_X11_137)) dX11_isColumn_3 ?_
  refine x_clp (x_runS (As := [.long p0.toInt64, .long (0 : Int64), .long (2 : Int64)]) (rest := []) S (c_X11_in l E K F G s.heap p0.toInt64 p0.toInt (0 : Int64) (0 : Int) (2 : Int64) (2 : Int) (xl_i2l (rfl : Int32.toInt p0 = p0.toInt)) (by decide) (by decide)) ms_X11_in km_X11_139 rfl rfl ⟨Nat.le_of_ble_eq_true rfl, Nat.le_of_ble_eq_true rfl⟩ hK (fun _ => XPh.blind) (fun U hU hW => XPh.at hK hz hS hT hU hW) rfl hl.1 (Nat.le_of_ble_eq_true rfl) dX11_isColumn_6 ⟨Nat.le_of_ble_eq_true rfl, Nat.le_of_ble_eq_true rfl⟩) hS ?_
  rintro _ _ locs ⟨x6, rfl, b6, t6⟩ hS
  have t6 : (x6.toInt = 1 ∧ (0 : Int) ≤ p0.toInt ∧ p0.toInt ≤ (2 : Int)) ∨ (x6.toInt = 0 ∧ (p0.toInt < (0 : Int) ∨ (2 : Int) < p0.toInt)) := t6
  exact x_rz hx hb hr (xnz b6) hlk hQ (Nat.le_of_ble_eq_true rfl) (Nat.le_of_ble_eq_true rfl) hS dX11_isColumn_9 () ⟨_, rfl, b6, (z_X11_isTable_1 p0.toInt x6.toInt t6)⟩ hh

theorem z_X11_isLetter_1 (a0 : Int) (a1 : Int) (h0 : (a1 = 1 ∧ (97 : Int) ≤ a0 ∧ a0 ≤ (122 : Int)) ∨ (a1 = 0 ∧ (a0 < (97 : Int) ∨ (122 : Int) < a0))) : (a1 = 1 ∧ 97 ≤ a0 ∧ a0 ≤ 122) ∨ (a1 = 0 ∧ (a0 < 97 ∨ 122 < a0)) := by omega
abbrev rm_X11_isLetter : Room := { frames := 1, cells := 0, slots := 0, locals := 25 }
set_option maxHeartbeats 4000000 in
set_option maxRecDepth 100000 in
theorem c_X11_isLetter (l : Launch) (E : XE) (K : Nat → Nat) (F : Nat → Nat → Nat) (G : XG) (h0 : Heap) (p0 : Int32)  : Met l yX11_isLetter (xw yX11_isLetter cX11_isLetter 1 (some .boolean)) rm_X11_isLetter (va_Pc [.int p0] (XPh E K F G h0)) (XQ E (fun v (u : Unit) => ∃ r : Int32, v = .int r ∧ (r = 0 ∨ r = 1) ∧ ((r.toInt = 1 ∧ 97 ≤ p0.toInt ∧ p0.toInt ≤ 122) ∨ (r.toInt = 0 ∧ (p0.toInt < 97 ∨ 122 < p0.toInt)))) (fun _ H => H = h0)) 0 0 (xA E) := by
  refine x_enter (by decide) (Nat.le_of_ble_eq_true rfl) ?_
  intro p e s m args below meth c Q S hr hlk hnm hQ hP ls hl
  obtain ⟨⟨hz, hK, hT⟩, hh⟩ := hP
  obtain ⟨hx, hb, -, -, -⟩ := id S
  have hS : va_S (xA E) s.heap s.heap [] := va_S.rf
  have hl : lv_has ls 1 [(0, .int p0)] := hl
  refine lv_iload_n hx hb dX11_isLetter_0 rfl (lv_at hl 0 rfl) ?_
  refine lv_i2l (v := p0.toInt64) hx hb dX11_isLetter_1 rfl ?_
  refine lv_ldc2 (v := 97) hx hb S.2.2.2.1 (S.2.2.2.2 _ (List.mem_cons_of_mem _ kc_X11_248)) dX11_isLetter_2 ?_
  refine lv_ldc2 (v := 122) hx hb S.2.2.2.1 (S.2.2.2.2 _ (List.mem_cons_of_mem _ kc_X11_250)) dX11_isLetter_5 ?_
  refine x_clp (x_runS (As := [.long p0.toInt64, .long (97 : Int64), .long (122 : Int64)]) (rest := []) S (c_X11_in l E K F G s.heap p0.toInt64 p0.toInt (97 : Int64) (97 : Int) (122 : Int64) (122 : Int) (xl_i2l (rfl : Int32.toInt p0 = p0.toInt)) (by decide) (by decide)) ms_X11_in km_X11_139 rfl rfl ⟨Nat.le_of_ble_eq_true rfl, Nat.le_of_ble_eq_true rfl⟩ hK (fun _ => XPh.blind) (fun U hU hW => XPh.at hK hz hS hT hU hW) rfl hl.1 (Nat.le_of_ble_eq_true rfl) dX11_isLetter_8 ⟨Nat.le_of_ble_eq_true rfl, Nat.le_of_ble_eq_true rfl⟩) hS ?_
  rintro _ _ locs ⟨x8, rfl, b8, t8⟩ hS
  have t8 : (x8.toInt = 1 ∧ (97 : Int) ≤ p0.toInt ∧ p0.toInt ≤ (122 : Int)) ∨ (x8.toInt = 0 ∧ (p0.toInt < (97 : Int) ∨ (122 : Int) < p0.toInt)) := t8
  exact x_rz hx hb hr (xnz b8) hlk hQ (Nat.le_of_ble_eq_true rfl) (Nat.le_of_ble_eq_true rfl) hS dX11_isLetter_11 () ⟨_, rfl, b8, (z_X11_isLetter_1 p0.toInt x8.toInt t8)⟩ hh

theorem z_X11_isDigit_1 (a0 : Int) (a1 : Int) (h0 : (a1 = 1 ∧ (48 : Int) ≤ a0 ∧ a0 ≤ (57 : Int)) ∨ (a1 = 0 ∧ (a0 < (48 : Int) ∨ (57 : Int) < a0))) : (a1 = 1 ∧ 48 ≤ a0 ∧ a0 ≤ 57) ∨ (a1 = 0 ∧ (a0 < 48 ∨ 57 < a0)) := by omega
abbrev rm_X11_isDigit : Room := { frames := 1, cells := 0, slots := 0, locals := 25 }
set_option maxHeartbeats 4000000 in
set_option maxRecDepth 100000 in
theorem c_X11_isDigit (l : Launch) (E : XE) (K : Nat → Nat) (F : Nat → Nat → Nat) (G : XG) (h0 : Heap) (p0 : Int32)  : Met l yX11_isDigit (xw yX11_isDigit cX11_isDigit 1 (some .boolean)) rm_X11_isDigit (va_Pc [.int p0] (XPh E K F G h0)) (XQ E (fun v (u : Unit) => ∃ r : Int32, v = .int r ∧ (r = 0 ∨ r = 1) ∧ ((r.toInt = 1 ∧ 48 ≤ p0.toInt ∧ p0.toInt ≤ 57) ∨ (r.toInt = 0 ∧ (p0.toInt < 48 ∨ 57 < p0.toInt)))) (fun _ H => H = h0)) 0 0 (xA E) := by
  refine x_enter (by decide) (Nat.le_of_ble_eq_true rfl) ?_
  intro p e s m args below meth c Q S hr hlk hnm hQ hP ls hl
  obtain ⟨⟨hz, hK, hT⟩, hh⟩ := hP
  obtain ⟨hx, hb, -, -, -⟩ := id S
  have hS : va_S (xA E) s.heap s.heap [] := va_S.rf
  have hl : lv_has ls 1 [(0, .int p0)] := hl
  refine lv_iload_n hx hb dX11_isDigit_0 rfl (lv_at hl 0 rfl) ?_
  refine lv_i2l (v := p0.toInt64) hx hb dX11_isDigit_1 rfl ?_
  refine lv_ldc2 (v := 48) hx hb S.2.2.2.1 (S.2.2.2.2 _ (List.mem_cons_of_mem _ kc_X11_252)) dX11_isDigit_2 ?_
  refine lv_ldc2 (v := 57) hx hb S.2.2.2.1 (S.2.2.2.2 _ (List.mem_cons_of_mem _ kc_X11_254)) dX11_isDigit_5 ?_
  refine x_clp (x_runS (As := [.long p0.toInt64, .long (48 : Int64), .long (57 : Int64)]) (rest := []) S (c_X11_in l E K F G s.heap p0.toInt64 p0.toInt (48 : Int64) (48 : Int) (57 : Int64) (57 : Int) (xl_i2l (rfl : Int32.toInt p0 = p0.toInt)) (by decide) (by decide)) ms_X11_in km_X11_139 rfl rfl ⟨Nat.le_of_ble_eq_true rfl, Nat.le_of_ble_eq_true rfl⟩ hK (fun _ => XPh.blind) (fun U hU hW => XPh.at hK hz hS hT hU hW) rfl hl.1 (Nat.le_of_ble_eq_true rfl) dX11_isDigit_8 ⟨Nat.le_of_ble_eq_true rfl, Nat.le_of_ble_eq_true rfl⟩) hS ?_
  rintro _ _ locs ⟨x8, rfl, b8, t8⟩ hS
  have t8 : (x8.toInt = 1 ∧ (48 : Int) ≤ p0.toInt ∧ p0.toInt ≤ (57 : Int)) ∨ (x8.toInt = 0 ∧ (p0.toInt < (48 : Int) ∨ (57 : Int) < p0.toInt)) := t8
  exact x_rz hx hb hr (xnz b8) hlk hQ (Nat.le_of_ble_eq_true rfl) (Nat.le_of_ble_eq_true rfl) hS dX11_isDigit_11 () ⟨_, rfl, b8, (z_X11_isDigit_1 p0.toInt x8.toInt t8)⟩ hh

theorem z_X11_isValue_1 (a0 : Int) (h0 : a0 = (-1000 : Int)) : ((1 : Int) = 1 ∧ (a0 = -1000 ∨ (-99 ≤ a0 ∧ a0 < 100))) ∨ ((1 : Int) = 0 ∧ a0 ≠ -1000 ∧ (a0 < -99 ∨ 100 ≤ a0)) := by omega
theorem z_X11_isValue_2 (a0 : Int) (a1 : Int) (h0 : ¬ (a0 = (-1000 : Int))) (h1 : (a1 = 1 ∧ (-99 : Int) ≤ a0 ∧ a0 ≤ (99 : Int)) ∨ (a1 = 0 ∧ (a0 < (-99 : Int) ∨ (99 : Int) < a0))) (h2 : a1 = 0) : ((0 : Int) = 1 ∧ (a0 = -1000 ∨ (-99 ≤ a0 ∧ a0 < 100))) ∨ ((0 : Int) = 0 ∧ a0 ≠ -1000 ∧ (a0 < -99 ∨ 100 ≤ a0)) := by omega
theorem z_X11_isValue_3 (a0 : Int) (a1 : Int) (h0 : (a1 = 1 ∧ (-99 : Int) ≤ a0 ∧ a0 ≤ (99 : Int)) ∨ (a1 = 0 ∧ (a0 < (-99 : Int) ∨ (99 : Int) < a0))) (h1 : ¬ (a1 = 0)) : ((1 : Int) = 1 ∧ (a0 = -1000 ∨ (-99 ≤ a0 ∧ a0 < 100))) ∨ ((1 : Int) = 0 ∧ a0 ≠ -1000 ∧ (a0 < -99 ∨ 100 ≤ a0)) := by omega
abbrev rm_X11_isValue : Room := { frames := 1, cells := 0, slots := 0, locals := 25 }
set_option maxHeartbeats 4000000 in
set_option maxRecDepth 100000 in
theorem c_X11_isValue (l : Launch) (E : XE) (K : Nat → Nat) (F : Nat → Nat → Nat) (G : XG) (h0 : Heap) (p0 : Int32)  : Met l yX11_isValue (xw yX11_isValue cX11_isValue 1 (some .boolean)) rm_X11_isValue (va_Pc [.int p0] (XPh E K F G h0)) (XQ E (fun v (u : Unit) => ∃ r : Int32, v = .int r ∧ (r = 0 ∨ r = 1) ∧ ((r.toInt = 1 ∧ (p0.toInt = -1000 ∨ (-99 ≤ p0.toInt ∧ p0.toInt < 100))) ∨ (r.toInt = 0 ∧ p0.toInt ≠ -1000 ∧ (p0.toInt < -99 ∨ 100 ≤ p0.toInt)))) (fun _ H => H = h0)) 0 0 (xA E) := by
  refine x_enter (by decide) (Nat.le_of_ble_eq_true rfl) ?_
  intro p e s m args below meth c Q S hr hlk hnm hQ hP ls hl
  obtain ⟨⟨hz, hK, hT⟩, hh⟩ := hP
  obtain ⟨hx, hb, -, -, -⟩ := id S
  have hS : va_S (xA E) s.heap s.heap [] := va_S.rf
  have hl : lv_has ls 1 [(0, .int p0)] := hl
  refine lv_iload_n hx hb dX11_isValue_0 rfl (lv_at hl 0 rfl) ?_
  refine lv_sipush (v := (-1000)) hx hb dX11_isValue_1 (by decide) ?_
  refine xi_ceq (tgt := 21) hx hb (rfl : Int32.toInt p0 = p0.toInt) ((by decide) : Int32.toInt (-1000) = (-1000 : Int)) dX11_isValue_4 (by decide) (fun c4 => ?_) (fun c4 => ?_)
  · refine lv_iconst (v := 1) hx hb dX11_isValue_21 (by decide) ?_
    refine lv_goto (tgt := 26) hx hb dX11_isValue_22 (by decide) ?_
    exact x_rz hx hb hr (xnz (Or.inr rfl)) hlk hQ (Nat.le_of_ble_eq_true rfl) (Nat.le_of_ble_eq_true rfl) hS dX11_isValue_26 () ⟨_, rfl, (Or.inr rfl), (z_X11_isValue_1 p0.toInt c4)⟩ hh
  · refine lv_iload_n hx hb dX11_isValue_7 rfl (lv_at hl 0 rfl) ?_
    refine lv_i2l (v := p0.toInt64) hx hb dX11_isValue_8 rfl ?_
    refine lv_ldc2 (v := (-99)) hx hb S.2.2.2.1 (S.2.2.2.2 _ (List.mem_cons_of_mem _ kc_X11_145)) dX11_isValue_9 ?_
    refine lv_ldc2 (v := 99) hx hb S.2.2.2.1 (S.2.2.2.2 _ (List.mem_cons_of_mem _ kc_X11_147)) dX11_isValue_12 ?_
    refine x_clp (x_runS (As := [.long p0.toInt64, .long (-99 : Int64), .long (99 : Int64)]) (rest := []) S (c_X11_in l E K F G s.heap p0.toInt64 p0.toInt (-99 : Int64) (-99 : Int) (99 : Int64) (99 : Int) (xl_i2l (rfl : Int32.toInt p0 = p0.toInt)) (by decide) (by decide)) ms_X11_in km_X11_139 rfl rfl ⟨Nat.le_of_ble_eq_true rfl, Nat.le_of_ble_eq_true rfl⟩ hK (fun _ => XPh.blind) (fun U hU hW => XPh.at hK hz hS hT hU hW) rfl hl.1 (Nat.le_of_ble_eq_true rfl) dX11_isValue_15 ⟨Nat.le_of_ble_eq_true rfl, Nat.le_of_ble_eq_true rfl⟩) hS ?_
    rintro _ _ locs ⟨x15, rfl, b15, t15⟩ hS
    have t15 : (x15.toInt = 1 ∧ (-99 : Int) ≤ p0.toInt ∧ p0.toInt ≤ (99 : Int)) ∨ (x15.toInt = 0 ∧ (p0.toInt < (-99 : Int) ∨ (99 : Int) < p0.toInt)) := t15
    refine xi_zeq (tgt := 25) hx hb (rfl : Int32.toInt x15 = x15.toInt) dX11_isValue_18 (by decide) (fun c18 => ?_) (fun c18 => ?_)
    · refine lv_iconst (v := 0) hx hb dX11_isValue_25 (by decide) ?_
      exact x_rz hx hb hr (xnz (Or.inl rfl)) hlk hQ (Nat.le_of_ble_eq_true rfl) (Nat.le_of_ble_eq_true rfl) hS dX11_isValue_26 () ⟨_, rfl, (Or.inl rfl), (z_X11_isValue_2 p0.toInt x15.toInt c4 t15 c18)⟩ hh
    · refine lv_iconst (v := 1) hx hb dX11_isValue_21 (by decide) ?_
      refine lv_goto (tgt := 26) hx hb dX11_isValue_22 (by decide) ?_
      exact x_rz hx hb hr (xnz (Or.inr rfl)) hlk hQ (Nat.le_of_ble_eq_true rfl) (Nat.le_of_ble_eq_true rfl) hS dX11_isValue_26 () ⟨_, rfl, (Or.inr rfl), (z_X11_isValue_3 p0.toInt x15.toInt t15 c18)⟩ hh

theorem z_X11_isRule_1 (a0 : Int) (a1 : Int) (a2 : Int) (h0 : (a1 = 1 ∧ (0 : Int) ≤ a0 ∧ a0 ≤ (11 : Int)) ∨ (a1 = 0 ∧ (a0 < (0 : Int) ∨ (11 : Int) < a0))) (h1 : a1 = 0) : ((0 : Int) = 1 ∧ 0 ≤ a0 ∧ a0 ≤ 11 ∧ a2 ≠ -1) ∨ ((0 : Int) = 0 ∧ (¬ (0 ≤ a0 ∧ a0 ≤ 11) ∨ a2 = -1)) := by omega
theorem z_X11_isRule_2 (a0 : Int) (a1 : Int) (a2 : Int) (h0 : (a2 = 1 ∧ (0 : Int) ≤ a0 ∧ a0 ≤ (11 : Int)) ∨ (a2 = 0 ∧ (a0 < (0 : Int) ∨ (11 : Int) < a0))) (h1 : ¬ (a2 = 0)) (h2 : a1 = (10 : Int) * a0 ∨ (10 : Int) * a0 < -2147483648 ∨ 2147483648 ≤ (10 : Int) * a0) : 0 ≤ a1 ∧ a1 < ((120 : Nat) : Int) := by omega
theorem z_X11_isRule_3 (a0 : Int) (a1 : Int) (a2 : Int) (h0 : (a2 = 1 ∧ (0 : Int) ≤ a0 ∧ a0 ≤ (11 : Int)) ∨ (a2 = 0 ∧ (a0 < (0 : Int) ∨ (11 : Int) < a0))) (h1 : ¬ (a2 = 0)) (h2 : a1 = (10 : Int) * a0 ∨ (10 : Int) * a0 < -2147483648 ∨ 2147483648 ≤ (10 : Int) * a0) : a1 = 10 * a0 + 0 := by omega
theorem z_X11_isRule_4 (a0 : Int) (a1 : Int) (h0 : a1 = (-1 : Int)) : ((0 : Int) = 1 ∧ 0 ≤ a0 ∧ a0 ≤ 11 ∧ a1 ≠ -1) ∨ ((0 : Int) = 0 ∧ (¬ (0 ≤ a0 ∧ a0 ≤ 11) ∨ a1 = -1)) := by omega
theorem z_X11_isRule_5 (a0 : Int) (a1 : Int) (a2 : Int) (h0 : (a1 = 1 ∧ (0 : Int) ≤ a0 ∧ a0 ≤ (11 : Int)) ∨ (a1 = 0 ∧ (a0 < (0 : Int) ∨ (11 : Int) < a0))) (h1 : ¬ (a1 = 0)) (h2 : ¬ (a2 = (-1 : Int))) : ((1 : Int) = 1 ∧ 0 ≤ a0 ∧ a0 ≤ 11 ∧ a2 ≠ -1) ∨ ((1 : Int) = 0 ∧ (¬ (0 ≤ a0 ∧ a0 ≤ 11) ∨ a2 = -1)) := by omega
abbrev rm_X11_isRule : Room := { frames := 1, cells := 0, slots := 0, locals := 25 }
set_option maxHeartbeats 4000000 in
set_option maxRecDepth 100000 in
theorem c_X11_isRule (l : Launch) (E : XE) (K : Nat → Nat) (F : Nat → Nat → Nat) (G : XG) (h0 : Heap) (a : Nat) (p0 : Int32) (ha : K a = 13) : Met l yX11_isRule (xw yX11_isRule cX11_isRule 2 (some .boolean)) rm_X11_isRule (va_Pc [.ref a, .int p0] (XPh E K F G h0)) (XQ E (fun v (u : Unit) => ∃ r : Int32, v = .int r ∧ (r = 0 ∨ r = 1) ∧ ((r.toInt = 1 ∧ 0 ≤ p0.toInt ∧ p0.toInt ≤ 11 ∧ (aI (G.2.1 (F a 10)) (10 * p0.toInt + 0)) ≠ -1) ∨ (r.toInt = 0 ∧ (¬ (0 ≤ p0.toInt ∧ p0.toInt ≤ 11) ∨ (aI (G.2.1 (F a 10)) (10 * p0.toInt + 0)) = -1)))) (fun _ H => H = h0)) 0 0 (xA E) := by
  refine x_enter (by decide) (Nat.le_of_ble_eq_true rfl) ?_
  intro p e s m args below meth c Q S hr hlk hnm hQ hP ls hl
  obtain ⟨⟨hz, hK, hT⟩, hh⟩ := hP
  obtain ⟨hx, hb, -, -, -⟩ := id S
  have hS : va_S (xA E) s.heap s.heap [] := va_S.rf
  have hl : lv_has ls 2 [(0, .ref a), (1, .int p0)] := hl
  obtain ⟨hk9999, hj9999⟩ := fkX11_10 hT ha
  refine lv_iload_n hx hb dX11_isRule_0 rfl (lv_at hl 1 rfl) ?_
  refine lv_i2l (v := p0.toInt64) hx hb dX11_isRule_1 rfl ?_
  refine lv_lconst (v := (0 : Int64)) hx hb dX11_isRule_2 (by decide) ?_
  refine lv_ldc2 (v := 11) hx hb S.2.2.2.1 (S.2.2.2.2 _ (List.mem_cons_of_mem _ kc_X11_160)) dX11_isRule_3 ?_
  refine x_clp (x_runS (As := [.long p0.toInt64, .long (0 : Int64), .long (11 : Int64)]) (rest := []) S (c_X11_in l E K F G s.heap p0.toInt64 p0.toInt (0 : Int64) (0 : Int) (11 : Int64) (11 : Int) (xl_i2l (rfl : Int32.toInt p0 = p0.toInt)) (by decide) (by decide)) ms_X11_in km_X11_139 rfl rfl ⟨Nat.le_of_ble_eq_true rfl, Nat.le_of_ble_eq_true rfl⟩ hK (fun _ => XPh.blind) (fun U hU hW => XPh.at hK hz hS hT hU hW) rfl hl.1 (Nat.le_of_ble_eq_true rfl) dX11_isRule_6 ⟨Nat.le_of_ble_eq_true rfl, Nat.le_of_ble_eq_true rfl⟩) hS ?_
  rintro _ _ locs ⟨x6, rfl, b6, t6⟩ hS
  have t6 : (x6.toInt = 1 ∧ (0 : Int) ≤ p0.toInt ∧ p0.toInt ≤ (11 : Int)) ∨ (x6.toInt = 0 ∧ (p0.toInt < (0 : Int) ∨ (11 : Int) < p0.toInt)) := t6
  refine xi_zeq (tgt := 29) hx hb (rfl : Int32.toInt x6 = x6.toInt) dX11_isRule_9 (by decide) (fun c9 => ?_) (fun c9 => ?_)
  · refine lv_iconst (v := 0) hx hb dX11_isRule_29 (by decide) ?_
    exact x_rz hx hb hr (xnz (Or.inl rfl)) hlk hQ (Nat.le_of_ble_eq_true rfl) (Nat.le_of_ble_eq_true rfl) hS dX11_isRule_30 () ⟨_, rfl, (Or.inl rfl), (z_X11_isRule_1 p0.toInt x6.toInt (aI (G.2.1 (F a 10)) (10 * p0.toInt + 0)) t6 c9)⟩ hh
  · refine lv_aload_n hx hb dX11_isRule_12 rfl (lv_at hl 0 rfl) ?_
    refine gX11_10 S hK hT ha kf_X11_33 dX11_isRule_13 (fun _ _ => ?_)
    refine lv_bipush (v := 10) hx hb dX11_isRule_16 (by decide) ?_
    refine lv_iload_n hx hb dX11_isRule_18 rfl (lv_at hl 1 rfl) ?_
    refine xi_imul hx hb ((by decide) : Int32.toInt 10 = (10 : Int)) (rfl : Int32.toInt p0 = p0.toInt) dX11_isRule_19 (fun x19 t19 => ?_)
    refine al_0 S hK hT hk9999 ar_37 (by decide) (z_X11_isRule_2 p0.toInt x19.toInt x6.toInt t6 c9 t19) dX11_isRule_20 (fun x20 hv20 o20 => ?_)
    have hv20 : x20.toInt = (aI (G.2.1 (F a 10)) (10 * p0.toInt + 0)) := hv20.trans (by rw [((rfl : Int32.toInt x19 = x19.toInt).trans (z_X11_isRule_3 p0.toInt x19.toInt x6.toInt t6 c9 t19))])
    refine lv_iconst (v := (-1)) hx hb dX11_isRule_21 (by decide) ?_
    refine xi_ceq (tgt := 29) hx hb (hv20 : Int32.toInt x20 = (aI (G.2.1 (F a 10)) (10 * p0.toInt + 0))) ((by decide) : Int32.toInt (-1) = (-1 : Int)) dX11_isRule_22 (by decide) (fun c22 => ?_) (fun c22 => ?_)
    · refine lv_iconst (v := 0) hx hb dX11_isRule_29 (by decide) ?_
      exact x_rz hx hb hr (xnz (Or.inl rfl)) hlk hQ (Nat.le_of_ble_eq_true rfl) (Nat.le_of_ble_eq_true rfl) hS dX11_isRule_30 () ⟨_, rfl, (Or.inl rfl), (z_X11_isRule_4 p0.toInt (aI (G.2.1 (F a 10)) (10 * p0.toInt + 0)) c22)⟩ hh
    · refine lv_iconst (v := 1) hx hb dX11_isRule_25 (by decide) ?_
      refine lv_goto (tgt := 30) hx hb dX11_isRule_26 (by decide) ?_
      exact x_rz hx hb hr (xnz (Or.inr rfl)) hlk hQ (Nat.le_of_ble_eq_true rfl) (Nat.le_of_ble_eq_true rfl) hS dX11_isRule_30 () ⟨_, rfl, (Or.inr rfl), (z_X11_isRule_5 p0.toInt x6.toInt (aI (G.2.1 (F a 10)) (10 * p0.toInt + 0)) t6 c9 c22)⟩ hh

theorem z_X11_of_1 (a0 : Int) (a1 : Int) (a2 : Int) (a3 : Int) (h0 : 0 ≤ a0 ∧ a0 ≤ 11) (h1 : 0 ≤ a1 ∧ a1 ≤ 9) (h2 : a2 = (10 : Int) * a0 ∨ (10 : Int) * a0 < -2147483648 ∨ 2147483648 ≤ (10 : Int) * a0) (h3 : a3 = a2 + a1 ∨ a2 + a1 < -2147483648 ∨ 2147483648 ≤ a2 + a1) : 0 ≤ a3 ∧ a3 < ((120 : Nat) : Int) := by omega
theorem z_X11_of_2 (a0 : Int) (a1 : Int) (a2 : Int) (a3 : Int) (h0 : 0 ≤ a0 ∧ a0 ≤ 11) (h1 : 0 ≤ a1 ∧ a1 ≤ 9) (h2 : a2 = (10 : Int) * a0 ∨ (10 : Int) * a0 < -2147483648 ∨ 2147483648 ≤ (10 : Int) * a0) (h3 : a3 = a2 + a1 ∨ a2 + a1 < -2147483648 ∨ 2147483648 ≤ a2 + a1) : a3 = 10 * a0 + a1 := by omega
theorem z_X11_of_3 (a0 : Int) : a0 = a0 := by omega
abbrev rm_X11_of : Room := { frames := 0, cells := 0, slots := 0, locals := 0 }
set_option maxHeartbeats 4000000 in
set_option maxRecDepth 100000 in
theorem c_X11_of (l : Launch) (E : XE) (K : Nat → Nat) (F : Nat → Nat → Nat) (G : XG) (h0 : Heap) (a : Nat) (p0 : Int32) (p1 : Int32) (ha : K a = 13) (e0 : 0 ≤ p0.toInt ∧ p0.toInt ≤ 11) (e1 : 0 ≤ p1.toInt ∧ p1.toInt ≤ 9) : Met l yX11_of (xw yX11_of cX11_of 3 (some .int)) rm_X11_of (va_Pc [.ref a, .int p0, .int p1] (XPh E K F G h0)) (XQ E (fun v (u : Unit) => ∃ r : Int32, v = .int r ∧ (r.toInt = (aI (G.2.1 (F a 10)) (10 * p0.toInt + p1.toInt)))) (fun _ H => H = h0)) 0 0 (xA E) := by
  refine x_enter (by decide) (Nat.le_of_ble_eq_true rfl) ?_
  intro p e s m args below meth c Q S hr hlk hnm hQ hP ls hl
  obtain ⟨⟨hz, hK, hT⟩, hh⟩ := hP
  obtain ⟨hx, hb, -, -, -⟩ := id S
  have hS : va_S (xA E) s.heap s.heap [] := va_S.rf
  have hl : lv_has ls 3 [(0, .ref a), (1, .int p0), (2, .int p1)] := hl
  obtain ⟨hk9999, hj9999⟩ := fkX11_10 hT ha
  refine lv_aload_n hx hb dX11_of_0 rfl (lv_at hl 0 rfl) ?_
  refine gX11_10 S hK hT ha kf_X11_33 dX11_of_1 (fun _ _ => ?_)
  refine lv_bipush (v := 10) hx hb dX11_of_4 (by decide) ?_
  refine lv_iload_n hx hb dX11_of_6 rfl (lv_at hl 1 rfl) ?_
  refine xi_imul hx hb ((by decide) : Int32.toInt 10 = (10 : Int)) (rfl : Int32.toInt p0 = p0.toInt) dX11_of_7 (fun x7 t7 => ?_)
  refine lv_iload_n hx hb dX11_of_8 rfl (lv_at hl 2 rfl) ?_
  refine xi_iadd hx hb (rfl : Int32.toInt x7 = x7.toInt) (rfl : Int32.toInt p1 = p1.toInt) dX11_of_9 (fun x9 t9 => ?_)
  refine al_0 S hK hT hk9999 ar_37 (by decide) (z_X11_of_1 p0.toInt p1.toInt x7.toInt x9.toInt e0 e1 t7 t9) dX11_of_10 (fun x10 hv10 o10 => ?_)
  have hv10 : x10.toInt = (aI (G.2.1 (F a 10)) (10 * p0.toInt + p1.toInt)) := hv10.trans (by rw [((rfl : Int32.toInt x9 = x9.toInt).trans (z_X11_of_2 p0.toInt p1.toInt x7.toInt x9.toInt e0 e1 t7 t9))])
  exact x_ri hx hb hr hlk hQ (Nat.le_of_ble_eq_true rfl) (Nat.le_of_ble_eq_true rfl) hS dX11_of_11 () ⟨_, rfl, (by rw [(hv10 : Int32.toInt x10 = (aI (G.2.1 (F a 10)) (10 * p0.toInt + p1.toInt)))] <;> exact (z_X11_of_3 (aI (G.2.1 (F a 10)) (10 * p0.toInt + p1.toInt))))⟩ hh

theorem z_X11_ofKeys_1 (a0 : Int) (h0 : a0 = (2 : Int)) : ((1 : Int) = 1 ∧ (a0 = 2 ∨ a0 = 4 ∨ a0 = 5)) ∨ ((1 : Int) = 0 ∧ a0 ≠ 2 ∧ a0 ≠ 4 ∧ a0 ≠ 5) := by omega
theorem z_X11_ofKeys_2 (a0 : Int) (h0 : a0 = (4 : Int)) : ((1 : Int) = 1 ∧ (a0 = 2 ∨ a0 = 4 ∨ a0 = 5)) ∨ ((1 : Int) = 0 ∧ a0 ≠ 2 ∧ a0 ≠ 4 ∧ a0 ≠ 5) := by omega
theorem z_X11_ofKeys_3 (a0 : Int) (h0 : ¬ (a0 = (2 : Int))) (h1 : ¬ (a0 = (4 : Int))) (h2 : a0 ≠ (5 : Int)) : ((0 : Int) = 1 ∧ (a0 = 2 ∨ a0 = 4 ∨ a0 = 5)) ∨ ((0 : Int) = 0 ∧ a0 ≠ 2 ∧ a0 ≠ 4 ∧ a0 ≠ 5) := by omega
theorem z_X11_ofKeys_4 (a0 : Int) (h0 : ¬ (a0 ≠ (5 : Int))) : ((1 : Int) = 1 ∧ (a0 = 2 ∨ a0 = 4 ∨ a0 = 5)) ∨ ((1 : Int) = 0 ∧ a0 ≠ 2 ∧ a0 ≠ 4 ∧ a0 ≠ 5) := by omega
abbrev rm_X11_ofKeys : Room := { frames := 0, cells := 0, slots := 0, locals := 0 }
set_option maxHeartbeats 4000000 in
set_option maxRecDepth 100000 in
theorem c_X11_ofKeys (l : Launch) (E : XE) (K : Nat → Nat) (F : Nat → Nat → Nat) (G : XG) (h0 : Heap) (p0 : Int32)  : Met l yX11_ofKeys (xw yX11_ofKeys cX11_ofKeys 1 (some .boolean)) rm_X11_ofKeys (va_Pc [.int p0] (XPh E K F G h0)) (XQ E (fun v (u : Unit) => ∃ r : Int32, v = .int r ∧ (r = 0 ∨ r = 1) ∧ ((r.toInt = 1 ∧ (p0.toInt = 2 ∨ p0.toInt = 4 ∨ p0.toInt = 5)) ∨ (r.toInt = 0 ∧ p0.toInt ≠ 2 ∧ p0.toInt ≠ 4 ∧ p0.toInt ≠ 5))) (fun _ H => H = h0)) 0 0 (xA E) := by
  refine x_enter (by decide) (Nat.le_of_ble_eq_true rfl) ?_
  intro p e s m args below meth c Q S hr hlk hnm hQ hP ls hl
  obtain ⟨⟨hz, hK, hT⟩, hh⟩ := hP
  obtain ⟨hx, hb, -, -, -⟩ := id S
  have hS : va_S (xA E) s.heap s.heap [] := va_S.rf
  have hl : lv_has ls 1 [(0, .int p0)] := hl
  refine lv_iload_n hx hb dX11_ofKeys_0 rfl (lv_at hl 0 rfl) ?_
  refine lv_iconst (v := 2) hx hb dX11_ofKeys_1 (by decide) ?_
  refine xi_ceq (tgt := 15) hx hb (rfl : Int32.toInt p0 = p0.toInt) ((by decide) : Int32.toInt 2 = (2 : Int)) dX11_ofKeys_2 (by decide) (fun c2 => ?_) (fun c2 => ?_)
  · refine lv_iconst (v := 1) hx hb dX11_ofKeys_15 (by decide) ?_
    refine lv_goto (tgt := 20) hx hb dX11_ofKeys_16 (by decide) ?_
    exact x_rz hx hb hr (xnz (Or.inr rfl)) hlk hQ (Nat.le_of_ble_eq_true rfl) (Nat.le_of_ble_eq_true rfl) hS dX11_ofKeys_20 () ⟨_, rfl, (Or.inr rfl), (z_X11_ofKeys_1 p0.toInt c2)⟩ hh
  · refine lv_iload_n hx hb dX11_ofKeys_5 rfl (lv_at hl 0 rfl) ?_
    refine lv_iconst (v := 4) hx hb dX11_ofKeys_6 (by decide) ?_
    refine xi_ceq (tgt := 15) hx hb (rfl : Int32.toInt p0 = p0.toInt) ((by decide) : Int32.toInt 4 = (4 : Int)) dX11_ofKeys_7 (by decide) (fun c7 => ?_) (fun c7 => ?_)
    · refine lv_iconst (v := 1) hx hb dX11_ofKeys_15 (by decide) ?_
      refine lv_goto (tgt := 20) hx hb dX11_ofKeys_16 (by decide) ?_
      exact x_rz hx hb hr (xnz (Or.inr rfl)) hlk hQ (Nat.le_of_ble_eq_true rfl) (Nat.le_of_ble_eq_true rfl) hS dX11_ofKeys_20 () ⟨_, rfl, (Or.inr rfl), (z_X11_ofKeys_2 p0.toInt c7)⟩ hh
    · refine lv_iload_n hx hb dX11_ofKeys_10 rfl (lv_at hl 0 rfl) ?_
      refine lv_iconst (v := 5) hx hb dX11_ofKeys_11 (by decide) ?_
      refine xi_cne (tgt := 19) hx hb (rfl : Int32.toInt p0 = p0.toInt) ((by decide) : Int32.toInt 5 = (5 : Int)) dX11_ofKeys_12 (by decide) (fun c12 => ?_) (fun c12 => ?_)
      · refine lv_iconst (v := 0) hx hb dX11_ofKeys_19 (by decide) ?_
        exact x_rz hx hb hr (xnz (Or.inl rfl)) hlk hQ (Nat.le_of_ble_eq_true rfl) (Nat.le_of_ble_eq_true rfl) hS dX11_ofKeys_20 () ⟨_, rfl, (Or.inl rfl), (z_X11_ofKeys_3 p0.toInt c2 c7 c12)⟩ hh
      · refine lv_iconst (v := 1) hx hb dX11_ofKeys_15 (by decide) ?_
        refine lv_goto (tgt := 20) hx hb dX11_ofKeys_16 (by decide) ?_
        exact x_rz hx hb hr (xnz (Or.inr rfl)) hlk hQ (Nat.le_of_ble_eq_true rfl) (Nat.le_of_ble_eq_true rfl) hS dX11_ofKeys_20 () ⟨_, rfl, (Or.inr rfl), (z_X11_ofKeys_4 p0.toInt c12)⟩ hh

theorem z_X11_firstSubject_2 (a0 : Int) (a1 : Int) (a2 : Int) (a3 : Int) (h0 : ((a1 = 2 ∨ a1 = 4 ∨ a1 = 5) ∧ a2 = 0 ∧ a3 = 29) ∨ (¬ (a1 = 2 ∨ a1 = 4 ∨ a1 = 5) ∧ a2 = -99 ∧ a3 = 99)) (h1 : (a0 = 1 ∧ (a1 = 2 ∨ a1 = 4 ∨ a1 = 5)) ∨ (a0 = 0 ∧ a1 ≠ 2 ∧ a1 ≠ 4 ∧ a1 ≠ 5)) (h2 : a0 = 0) : (-99 : Int) = a2 := by omega
theorem z_X11_firstSubject_3 (a0 : Int) (a1 : Int) (a2 : Int) (a3 : Int) (h0 : ((a1 = 2 ∨ a1 = 4 ∨ a1 = 5) ∧ a2 = 0 ∧ a3 = 29) ∨ (¬ (a1 = 2 ∨ a1 = 4 ∨ a1 = 5) ∧ a2 = -99 ∧ a3 = 99)) (h1 : (a0 = 1 ∧ (a1 = 2 ∨ a1 = 4 ∨ a1 = 5)) ∨ (a0 = 0 ∧ a1 ≠ 2 ∧ a1 ≠ 4 ∧ a1 ≠ 5)) (h2 : ¬ (a0 = 0)) : (0 : Int) = a2 := by omega
abbrev rm_X11_firstSubject : Room := { frames := 1, cells := 0, slots := 0, locals := 22 }
set_option maxHeartbeats 4000000 in
set_option maxRecDepth 100000 in
theorem c_X11_firstSubject (l : Launch) (E : XE) (K : Nat → Nat) (F : Nat → Nat → Nat) (G : XG) (h0 : Heap) (a : Nat) (p0 : Int32) (ha : K a = 13) (e0 : 0 ≤ p0.toInt ∧ p0.toInt ≤ 11) : Met l yX11_firstSubject (xw yX11_firstSubject cX11_firstSubject 2 (some .int)) rm_X11_firstSubject (va_Pc [.ref a, .int p0] (XPh E K F G h0)) (XQ E (fun v (u : Unit) => ∃ r : Int32, v = .int r ∧ (r.toInt = (sF (aI (G.2.1 (F a 10)) (10 * p0.toInt + 0))))) (fun _ H => H = h0)) 0 0 (xA E) := by
  refine x_enter (by decide) (Nat.le_of_ble_eq_true rfl) ?_
  intro p e s m args below meth c Q S hr hlk hnm hQ hP ls hl
  obtain ⟨⟨hz, hK, hT⟩, hh⟩ := hP
  obtain ⟨hx, hb, -, -, -⟩ := id S
  have hS : va_S (xA E) s.heap s.heap [] := va_S.rf
  have hl : lv_has ls 2 [(0, .ref a), (1, .int p0)] := hl
  obtain ⟨hk9999, hj9999⟩ := fkX11_10 hT ha
  have z0 : (((aI (G.2.1 (F a 10)) (10 * p0.toInt + 0)) = 2 ∨ (aI (G.2.1 (F a 10)) (10 * p0.toInt + 0)) = 4 ∨ (aI (G.2.1 (F a 10)) (10 * p0.toInt + 0)) = 5) ∧ (sF (aI (G.2.1 (F a 10)) (10 * p0.toInt + 0))) = 0 ∧ (sL (aI (G.2.1 (F a 10)) (10 * p0.toInt + 0))) = 29) ∨ (¬ ((aI (G.2.1 (F a 10)) (10 * p0.toInt + 0)) = 2 ∨ (aI (G.2.1 (F a 10)) (10 * p0.toInt + 0)) = 4 ∨ (aI (G.2.1 (F a 10)) (10 * p0.toInt + 0)) = 5) ∧ (sF (aI (G.2.1 (F a 10)) (10 * p0.toInt + 0))) = -99 ∧ (sL (aI (G.2.1 (F a 10)) (10 * p0.toInt + 0))) = 99) := sFL _
  refine lv_aload_n hx hb dX11_firstSubject_0 rfl (lv_at hl 0 rfl) ?_
  refine lv_iload_n hx hb dX11_firstSubject_1 rfl (lv_at hl 1 rfl) ?_
  refine lv_iconst (v := 0) hx hb dX11_firstSubject_2 (by decide) ?_
  refine x_clp (x_runV (b := a) (As := [.int p0, .int 0]) (rest := []) S (c_X11_of l E K F G s.heap a p0 0 ha (e0) (by decide)) mv_X11_of km_X11_165 rfl rfl ⟨Nat.le_of_ble_eq_true rfl, Nat.le_of_ble_eq_true rfl⟩ (rc_13 hK hT ha) hK (fun _ => XPh.blind) (fun U hU hW => XPh.at hK hz hS hT hU hW) rfl hl.1 (Nat.le_of_ble_eq_true rfl) dX11_firstSubject_3 ⟨Nat.le_of_ble_eq_true rfl, Nat.le_of_ble_eq_true rfl⟩) hS ?_
  rintro _ _ locs ⟨x3, rfl, t3⟩ hS
  have t3 : x3.toInt = (aI (G.2.1 (F a 10)) (10 * p0.toInt + 0)) := t3
  refine x_clp (x_runS (As := [.int x3]) (rest := []) S (c_X11_ofKeys l E K F G s.heap x3) ms_X11_ofKeys km_X11_168 rfl rfl ⟨Nat.le_of_ble_eq_true rfl, Nat.le_of_ble_eq_true rfl⟩ hK (fun _ => XPh.blind) (fun U hU hW => XPh.at hK hz hS hT hU hW) rfl hl.1 (Nat.le_of_ble_eq_true rfl) dX11_firstSubject_6 ⟨Nat.le_of_ble_eq_true rfl, Nat.le_of_ble_eq_true rfl⟩) hS ?_
  rintro _ _ locs ⟨x6, rfl, b6, t6⟩ hS
  have t6 : (x6.toInt = 1 ∧ ((aI (G.2.1 (F a 10)) (10 * p0.toInt + 0)) = 2 ∨ (aI (G.2.1 (F a 10)) (10 * p0.toInt + 0)) = 4 ∨ (aI (G.2.1 (F a 10)) (10 * p0.toInt + 0)) = 5)) ∨ (x6.toInt = 0 ∧ (aI (G.2.1 (F a 10)) (10 * p0.toInt + 0)) ≠ 2 ∧ (aI (G.2.1 (F a 10)) (10 * p0.toInt + 0)) ≠ 4 ∧ (aI (G.2.1 (F a 10)) (10 * p0.toInt + 0)) ≠ 5) := by rw [(t3 : Int32.toInt x3 = (aI (G.2.1 (F a 10)) (10 * p0.toInt + 0)))] at t6; exact t6
  refine xi_zeq (tgt := 16) hx hb (rfl : Int32.toInt x6 = x6.toInt) dX11_firstSubject_9 (by decide) (fun c9 => ?_) (fun c9 => ?_)
  · refine lv_bipush (v := (-99)) hx hb dX11_firstSubject_16 (by decide) ?_
    exact x_ri hx hb hr hlk hQ (Nat.le_of_ble_eq_true rfl) (Nat.le_of_ble_eq_true rfl) hS dX11_firstSubject_18 () ⟨_, rfl, (by rw [((by decide) : Int32.toInt (-99) = (-99 : Int))] <;> exact (z_X11_firstSubject_2 x6.toInt (aI (G.2.1 (F a 10)) (10 * p0.toInt + 0)) (sF (aI (G.2.1 (F a 10)) (10 * p0.toInt + 0))) (sL (aI (G.2.1 (F a 10)) (10 * p0.toInt + 0))) z0 t6 c9))⟩ hh
  · refine lv_iconst (v := 0) hx hb dX11_firstSubject_12 (by decide) ?_
    refine lv_goto (tgt := 18) hx hb dX11_firstSubject_13 (by decide) ?_
    exact x_ri hx hb hr hlk hQ (Nat.le_of_ble_eq_true rfl) (Nat.le_of_ble_eq_true rfl) hS dX11_firstSubject_18 () ⟨_, rfl, (z_X11_firstSubject_3 x6.toInt (aI (G.2.1 (F a 10)) (10 * p0.toInt + 0)) (sF (aI (G.2.1 (F a 10)) (10 * p0.toInt + 0))) (sL (aI (G.2.1 (F a 10)) (10 * p0.toInt + 0))) z0 t6 c9)⟩ hh

theorem z_X11_lastSubject_2 (a0 : Int) (a1 : Int) (a2 : Int) (a3 : Int) (h0 : ((a1 = 2 ∨ a1 = 4 ∨ a1 = 5) ∧ a2 = 0 ∧ a3 = 29) ∨ (¬ (a1 = 2 ∨ a1 = 4 ∨ a1 = 5) ∧ a2 = -99 ∧ a3 = 99)) (h1 : (a0 = 1 ∧ (a1 = 2 ∨ a1 = 4 ∨ a1 = 5)) ∨ (a0 = 0 ∧ a1 ≠ 2 ∧ a1 ≠ 4 ∧ a1 ≠ 5)) (h2 : a0 = 0) : (99 : Int) = a3 := by omega
theorem z_X11_lastSubject_3 (a0 : Int) (a1 : Int) (a2 : Int) (a3 : Int) (h0 : ((a1 = 2 ∨ a1 = 4 ∨ a1 = 5) ∧ a2 = 0 ∧ a3 = 29) ∨ (¬ (a1 = 2 ∨ a1 = 4 ∨ a1 = 5) ∧ a2 = -99 ∧ a3 = 99)) (h1 : (a0 = 1 ∧ (a1 = 2 ∨ a1 = 4 ∨ a1 = 5)) ∨ (a0 = 0 ∧ a1 ≠ 2 ∧ a1 ≠ 4 ∧ a1 ≠ 5)) (h2 : ¬ (a0 = 0)) : (29 : Int) = a3 := by omega
abbrev rm_X11_lastSubject : Room := { frames := 1, cells := 0, slots := 0, locals := 22 }
set_option maxHeartbeats 4000000 in
set_option maxRecDepth 100000 in
theorem c_X11_lastSubject (l : Launch) (E : XE) (K : Nat → Nat) (F : Nat → Nat → Nat) (G : XG) (h0 : Heap) (a : Nat) (p0 : Int32) (ha : K a = 13) (e0 : 0 ≤ p0.toInt ∧ p0.toInt ≤ 11) : Met l yX11_lastSubject (xw yX11_lastSubject cX11_lastSubject 2 (some .int)) rm_X11_lastSubject (va_Pc [.ref a, .int p0] (XPh E K F G h0)) (XQ E (fun v (u : Unit) => ∃ r : Int32, v = .int r ∧ (r.toInt = (sL (aI (G.2.1 (F a 10)) (10 * p0.toInt + 0))))) (fun _ H => H = h0)) 0 0 (xA E) := by
  refine x_enter (by decide) (Nat.le_of_ble_eq_true rfl) ?_
  intro p e s m args below meth c Q S hr hlk hnm hQ hP ls hl
  obtain ⟨⟨hz, hK, hT⟩, hh⟩ := hP
  obtain ⟨hx, hb, -, -, -⟩ := id S
  have hS : va_S (xA E) s.heap s.heap [] := va_S.rf
  have hl : lv_has ls 2 [(0, .ref a), (1, .int p0)] := hl
  obtain ⟨hk9999, hj9999⟩ := fkX11_10 hT ha
  have z0 : (((aI (G.2.1 (F a 10)) (10 * p0.toInt + 0)) = 2 ∨ (aI (G.2.1 (F a 10)) (10 * p0.toInt + 0)) = 4 ∨ (aI (G.2.1 (F a 10)) (10 * p0.toInt + 0)) = 5) ∧ (sF (aI (G.2.1 (F a 10)) (10 * p0.toInt + 0))) = 0 ∧ (sL (aI (G.2.1 (F a 10)) (10 * p0.toInt + 0))) = 29) ∨ (¬ ((aI (G.2.1 (F a 10)) (10 * p0.toInt + 0)) = 2 ∨ (aI (G.2.1 (F a 10)) (10 * p0.toInt + 0)) = 4 ∨ (aI (G.2.1 (F a 10)) (10 * p0.toInt + 0)) = 5) ∧ (sF (aI (G.2.1 (F a 10)) (10 * p0.toInt + 0))) = -99 ∧ (sL (aI (G.2.1 (F a 10)) (10 * p0.toInt + 0))) = 99) := sFL _
  refine lv_aload_n hx hb dX11_lastSubject_0 rfl (lv_at hl 0 rfl) ?_
  refine lv_iload_n hx hb dX11_lastSubject_1 rfl (lv_at hl 1 rfl) ?_
  refine lv_iconst (v := 0) hx hb dX11_lastSubject_2 (by decide) ?_
  refine x_clp (x_runV (b := a) (As := [.int p0, .int 0]) (rest := []) S (c_X11_of l E K F G s.heap a p0 0 ha (e0) (by decide)) mv_X11_of km_X11_165 rfl rfl ⟨Nat.le_of_ble_eq_true rfl, Nat.le_of_ble_eq_true rfl⟩ (rc_13 hK hT ha) hK (fun _ => XPh.blind) (fun U hU hW => XPh.at hK hz hS hT hU hW) rfl hl.1 (Nat.le_of_ble_eq_true rfl) dX11_lastSubject_3 ⟨Nat.le_of_ble_eq_true rfl, Nat.le_of_ble_eq_true rfl⟩) hS ?_
  rintro _ _ locs ⟨x3, rfl, t3⟩ hS
  have t3 : x3.toInt = (aI (G.2.1 (F a 10)) (10 * p0.toInt + 0)) := t3
  refine x_clp (x_runS (As := [.int x3]) (rest := []) S (c_X11_ofKeys l E K F G s.heap x3) ms_X11_ofKeys km_X11_168 rfl rfl ⟨Nat.le_of_ble_eq_true rfl, Nat.le_of_ble_eq_true rfl⟩ hK (fun _ => XPh.blind) (fun U hU hW => XPh.at hK hz hS hT hU hW) rfl hl.1 (Nat.le_of_ble_eq_true rfl) dX11_lastSubject_6 ⟨Nat.le_of_ble_eq_true rfl, Nat.le_of_ble_eq_true rfl⟩) hS ?_
  rintro _ _ locs ⟨x6, rfl, b6, t6⟩ hS
  have t6 : (x6.toInt = 1 ∧ ((aI (G.2.1 (F a 10)) (10 * p0.toInt + 0)) = 2 ∨ (aI (G.2.1 (F a 10)) (10 * p0.toInt + 0)) = 4 ∨ (aI (G.2.1 (F a 10)) (10 * p0.toInt + 0)) = 5)) ∨ (x6.toInt = 0 ∧ (aI (G.2.1 (F a 10)) (10 * p0.toInt + 0)) ≠ 2 ∧ (aI (G.2.1 (F a 10)) (10 * p0.toInt + 0)) ≠ 4 ∧ (aI (G.2.1 (F a 10)) (10 * p0.toInt + 0)) ≠ 5) := by rw [(t3 : Int32.toInt x3 = (aI (G.2.1 (F a 10)) (10 * p0.toInt + 0)))] at t6; exact t6
  refine xi_zeq (tgt := 17) hx hb (rfl : Int32.toInt x6 = x6.toInt) dX11_lastSubject_9 (by decide) (fun c9 => ?_) (fun c9 => ?_)
  · refine lv_bipush (v := 99) hx hb dX11_lastSubject_17 (by decide) ?_
    exact x_ri hx hb hr hlk hQ (Nat.le_of_ble_eq_true rfl) (Nat.le_of_ble_eq_true rfl) hS dX11_lastSubject_19 () ⟨_, rfl, (z_X11_lastSubject_2 x6.toInt (aI (G.2.1 (F a 10)) (10 * p0.toInt + 0)) (sF (aI (G.2.1 (F a 10)) (10 * p0.toInt + 0))) (sL (aI (G.2.1 (F a 10)) (10 * p0.toInt + 0))) z0 t6 c9)⟩ hh
  · refine lv_bipush (v := 29) hx hb dX11_lastSubject_12 (by decide) ?_
    refine lv_goto (tgt := 19) hx hb dX11_lastSubject_14 (by decide) ?_
    exact x_ri hx hb hr hlk hQ (Nat.le_of_ble_eq_true rfl) (Nat.le_of_ble_eq_true rfl) hS dX11_lastSubject_19 () ⟨_, rfl, (z_X11_lastSubject_3 x6.toInt (aI (G.2.1 (F a 10)) (10 * p0.toInt + 0)) (sF (aI (G.2.1 (F a 10)) (10 * p0.toInt + 0))) (sL (aI (G.2.1 (F a 10)) (10 * p0.toInt + 0))) z0 t6 c9)⟩ hh

theorem z_X11_placeOf_1 (a0 : Int) (a1 : Int) (a2 : Int) (a3 : Int) (a4 : Int) (h0 : 0 ≤ a0 ∧ a0 ≤ 11 ∧ -99 ≤ a1 ∧ a1 ≤ 99) (h1 : a2 = (199 : Int) * a0 ∨ (199 : Int) * a0 < -2147483648 ∨ 2147483648 ≤ (199 : Int) * a0) (h2 : a3 = a2 + a1 ∨ a2 + a1 < -2147483648 ∨ 2147483648 ≤ a2 + a1) (h3 : a4 = a3 + (99 : Int) ∨ a3 + (99 : Int) < -2147483648 ∨ 2147483648 ≤ a3 + (99 : Int)) : a4 = 199 * a0 + a1 + 99 := by omega
abbrev rm_X11_placeOf : Room := { frames := 0, cells := 0, slots := 0, locals := 0 }
set_option maxHeartbeats 4000000 in
set_option maxRecDepth 100000 in
theorem c_X11_placeOf (l : Launch) (E : XE) (K : Nat → Nat) (F : Nat → Nat → Nat) (G : XG) (h0 : Heap) (p0 : Int32) (p1 : Int32) (e0 : 0 ≤ p0.toInt ∧ p0.toInt ≤ 11 ∧ -99 ≤ p1.toInt ∧ p1.toInt ≤ 99) : Met l yX11_placeOf (xw yX11_placeOf cX11_placeOf 2 (some .int)) rm_X11_placeOf (va_Pc [.int p0, .int p1] (XPh E K F G h0)) (XQ E (fun v (u : Unit) => ∃ r : Int32, v = .int r ∧ (r.toInt = 199 * p0.toInt + p1.toInt + 99)) (fun _ H => H = h0)) 0 0 (xA E) := by
  refine x_enter (by decide) (Nat.le_of_ble_eq_true rfl) ?_
  intro p e s m args below meth c Q S hr hlk hnm hQ hP ls hl
  obtain ⟨⟨hz, hK, hT⟩, hh⟩ := hP
  obtain ⟨hx, hb, -, -, -⟩ := id S
  have hS : va_S (xA E) s.heap s.heap [] := va_S.rf
  have hl : lv_has ls 2 [(0, .int p0), (1, .int p1)] := hl
  refine lv_sipush (v := 199) hx hb dX11_placeOf_0 (by decide) ?_
  refine lv_iload_n hx hb dX11_placeOf_3 rfl (lv_at hl 0 rfl) ?_
  refine xi_imul hx hb ((by decide) : Int32.toInt 199 = (199 : Int)) (rfl : Int32.toInt p0 = p0.toInt) dX11_placeOf_4 (fun x4 t4 => ?_)
  refine lv_iload_n hx hb dX11_placeOf_5 rfl (lv_at hl 1 rfl) ?_
  refine xi_iadd hx hb (rfl : Int32.toInt x4 = x4.toInt) (rfl : Int32.toInt p1 = p1.toInt) dX11_placeOf_6 (fun x6 t6 => ?_)
  refine lv_bipush (v := 99) hx hb dX11_placeOf_7 (by decide) ?_
  refine xi_iadd hx hb (rfl : Int32.toInt x6 = x6.toInt) ((by decide) : Int32.toInt 99 = (99 : Int)) dX11_placeOf_9 (fun x9 t9 => ?_)
  exact x_ri hx hb hr hlk hQ (Nat.le_of_ble_eq_true rfl) (Nat.le_of_ble_eq_true rfl) hS dX11_placeOf_10 () ⟨_, rfl, (z_X11_placeOf_1 p0.toInt p1.toInt x4.toInt x6.toInt x9.toInt e0 t4 t6 t9)⟩ hh

theorem z_X11_many_2 (a0 : Int) (h0 : 0 ≤ a0 ∧ a0 ≤ 30) : ¬ (2147483648 - a0 < ((0 : Nat) : Int)) := by omega
theorem z_X11_many_3 (a0 : Int) (a1 : Int) (a2 : Int) (a3 : Int) (h0 : a0 = a2) (h1 : 0 ≤ a1 ∧ a1 ≤ 30) (h2 : (30 : Int) ≤ a1) (h3 : a1 = 30 → a2 = a3) : a0 = a3 := by omega
theorem z_X11_many_5 (a0 : Int) (a1 : Int) (a2 : Int) (h0 : 0 ≤ a1 ∧ a1 ≤ 2) (h1 : 0 ≤ a2 ∧ a2 ≤ 2) (h2 : 0 ≤ a0 ∧ a0 ≤ 30) (h3 : ¬ ((30 : Int) ≤ a0)) : 0 ≤ a1 ∧ a1 < 3 ∧ 0 ≤ a0 ∧ a0 < 30 ∧ 0 ≤ a2 ∧ a2 < 3 := by omega
theorem z_X11_many_6 (a0 : Int) (h0 : -99 ≤ a0) : a0 ≠ -2000 := by omega
theorem z_X11_many_7 (a0 : Int) (a1 : Int) (a2 : Int) (a3 : Int) (a4 : Int) (a5 : Int) (h0 : 0 ≤ a2 ∧ a2 ≤ 2520) (h1 : 0 ≤ a5 ∧ a5 ≤ 2) (h2 : 0 ≤ a0 ∧ a0 ≤ a1) (h3 : ¬ ((30 : Int) ≤ a1)) (h4 : 0 ≤ a5 ∧ a5 ≤ 2 ∧ 0 ≤ a1 ∧ a1 ≤ 29 → a3 = 4 * (30 * a5 + a1)) (h5 : a4 = a2 + a3 ∨ a2 + a3 < -2147483648 ∨ 2147483648 ≤ a2 + a3) : 0 ≤ a4 ∧ a4 < a2 + 360 := by omega
theorem z_X11_many_8 (a0 : Int) (a1 : Int) (a2 : Int) (a3 : Int) (a4 : Int) (a5 : Int) (h0 : 0 ≤ a2 ∧ a2 ≤ 2520) (h1 : 0 ≤ a5 ∧ a5 ≤ 2) (h2 : 0 ≤ a0 ∧ a0 ≤ a1) (h3 : ¬ ((30 : Int) ≤ a1)) (h4 : 0 ≤ a5 ∧ a5 ≤ 2 ∧ 0 ≤ a1 ∧ a1 ≤ 29 → a3 = 4 * (30 * a5 + a1)) (h5 : a4 = a2 + a3 ∨ a2 + a3 < -2147483648 ∨ 2147483648 ≤ a2 + a3) : a4 = a2 + 4 * (30 * a5 + a1) := by omega
theorem z_X11_many_9 (a0 : Int) (a1 : Int) (h0 : a1 = (a0 + (0 : Int)) ∨ (a0 + (0 : Int)) < -2147483648 ∨ 2147483648 ≤ (a0 + (0 : Int))) (h1 : -2147483648 ≤ a0 ∧ a0 < 2147483648) : a1 = (a0 + (0 : Int)) := by omega
theorem z_X11_many_10 (a0 : Int) (a1 : Int) (h0 : 0 ≤ a0 ∧ a0 ≤ 30) (h1 : a1 = (a0 + 1) ∨ (a0 + 1) < -2147483648 ∨ 2147483648 ≤ (a0 + 1)) : a1 = (a0 + 1) := by omega
theorem z_X11_many_11 (a0 : Int) (a1 : Int) (a2 : Int) (a3 : Int) (a4 : Int) (a5 : Int) (h0 : a0 = a5) (h1 : ¬ (a3 = 1 ∧ a2 = a1) → a4 = a5) (h2 : a3 ≠ (1 : Int)) : (a0 + (0 : Int)) = a4 := by omega
theorem z_X11_many_12 (a0 : Int) (h0 : 0 ≤ a0 ∧ a0 ≤ 30) (h1 : ¬ ((30 : Int) ≤ a0)) : 0 ≤ (a0 + 1) ∧ (a0 + 1) ≤ 30 := by omega
theorem z_X11_many_13 (a0 : Int) (a1 : Int) (h0 : 0 ≤ a0 ∧ a0 ≤ a1) : 0 ≤ (a0 + (0 : Int)) ∧ (a0 + (0 : Int)) ≤ (a1 + 1) := by omega
theorem z_X11_many_14 (a0 : Int) (h0 : 0 ≤ a0 ∧ a0 ≤ 30) : (0 : Int) ≤ (a0 + 1) := by omega
theorem z_X11_many_15 (a0 : Int) (a1 : Nat) (h0 : 2147483648 - a0 < ((a1 + 1 : Nat) : Int)) : 2147483648 - (a0 + 1) < ((a1 : Nat) : Int) := by omega
theorem z_X11_many_17 (a0 : Int) (a1 : Int) (a2 : Int) (a3 : Int) (a4 : Int) (a5 : Int) (a6 : Int) (a7 : Int) (h0 : 0 ≤ a1 ∧ a1 ≤ 2520) (h1 : 0 ≤ a6 ∧ a6 ≤ 2) (h2 : 0 ≤ a7 ∧ a7 ≤ 2) (h3 : 0 ≤ a0 ∧ a0 ≤ 30) (h4 : ¬ ((30 : Int) ≤ a0)) (h5 : 0 ≤ a6 ∧ a6 ≤ 2 ∧ 0 ≤ a0 ∧ a0 ≤ 29 → a2 = 4 * (30 * a6 + a0)) (h6 : a3 = a1 + a2 ∨ a1 + a2 < -2147483648 ∨ 2147483648 ≤ a1 + a2) (h7 : a4 = a3 + (1 : Int) ∨ a3 + (1 : Int) < -2147483648 ∨ 2147483648 ≤ a3 + (1 : Int)) (h8 : a5 = a4 + a7 ∨ a4 + a7 < -2147483648 ∨ 2147483648 ≤ a4 + a7) : 0 ≤ a5 ∧ a5 < a1 + 360 := by omega
theorem z_X11_many_18 (a0 : Int) (a1 : Int) (a2 : Int) (a3 : Int) (a4 : Int) (a5 : Int) (a6 : Int) (a7 : Int) (h0 : 0 ≤ a1 ∧ a1 ≤ 2520) (h1 : 0 ≤ a6 ∧ a6 ≤ 2) (h2 : 0 ≤ a7 ∧ a7 ≤ 2) (h3 : 0 ≤ a0 ∧ a0 ≤ 30) (h4 : ¬ ((30 : Int) ≤ a0)) (h5 : 0 ≤ a6 ∧ a6 ≤ 2 ∧ 0 ≤ a0 ∧ a0 ≤ 29 → a2 = 4 * (30 * a6 + a0)) (h6 : a3 = a1 + a2 ∨ a1 + a2 < -2147483648 ∨ 2147483648 ≤ a1 + a2) (h7 : a4 = a3 + (1 : Int) ∨ a3 + (1 : Int) < -2147483648 ∨ 2147483648 ≤ a3 + (1 : Int)) (h8 : a5 = a4 + a7 ∨ a4 + a7 < -2147483648 ∨ 2147483648 ≤ a4 + a7) : a5 = a1 + 4 * (30 * a6 + a0) + 1 + a7 := by omega
theorem z_X11_many_21 (a0 : Int) (a1 : Int) (a2 : Int) (a3 : Int) (a4 : Int) (a5 : Int) (h0 : a0 = a5) (h1 : ¬ (a3 = 1 ∧ a2 = a1) → a4 = a5) (h2 : a2 ≠ a1) : (a0 + (0 : Int)) = a4 := by omega
theorem z_X11_many_26 (a0 : Int) (a1 : Int) (a2 : Int) (h0 : 0 ≤ a0 ∧ a0 ≤ a1) (h1 : ¬ ((30 : Int) ≤ a1)) (h2 : a2 = (a0 + (1 : Int)) ∨ (a0 + (1 : Int)) < -2147483648 ∨ 2147483648 ≤ (a0 + (1 : Int))) : a2 = (a0 + (1 : Int)) := by omega
theorem z_X11_many_28 (a0 : Int) (a1 : Int) (a2 : Int) (a3 : Int) (a4 : Int) (a5 : Int) (h0 : a0 = a5) (h1 : a3 = 1 ∧ a2 = a1 → a4 = a5 + 1) (h2 : ¬ (a3 ≠ (1 : Int))) (h3 : ¬ (a2 ≠ a1)) : (a0 + (1 : Int)) = a4 := by omega
theorem z_X11_many_30 (a0 : Int) (a1 : Int) (h0 : 0 ≤ a0 ∧ a0 ≤ a1) : 0 ≤ (a0 + (1 : Int)) ∧ (a0 + (1 : Int)) ≤ (a1 + 1) := by omega
theorem z_X11_many_33 (a0 : Int) (h0 : a0 = 0) : (0 : Int) = a0 := by omega
abbrev rm_X11_many : Room := { frames := 1, cells := 0, slots := 0, locals := 22 }
set_option maxHeartbeats 4000000 in
set_option maxRecDepth 100000 in
theorem c_X11_many (l : Launch) (E : XE) (K : Nat → Nat) (F : Nat → Nat → Nat) (G : XG) (h0 : Heap) (a : Nat) (p0 : Int32) (p1 : Nat) (p2 : Int32) (p3 : Int32) (ha : K a = 13) (hp1 : XO K p1 p2.toInt) (e0 : 0 ≤ p0.toInt ∧ p0.toInt ≤ 11) (e1 : -99 ≤ p3.toInt) (hR : RV (G.2.1 (F a 10))) : Met l yX11_many (xw yX11_many cX11_many 8 (some .int)) rm_X11_many (va_Pc [.ref a, .int p0, .ref p1, .int p2, .int p3] (XPh E K F G h0)) (XQ E (fun v (u : Unit) => ∃ r : Int32, v = .int r ∧ (r.toInt = (hv (mw (G.2.1 p1) (p2.toInt)) (90 * (aI (G.2.1 (F a 10)) (10 * p0.toInt + 1)) + 30 * (aI (G.2.1 (F a 10)) (10 * p0.toInt + 2))) (p3.toInt) 30))) (fun _ H => H = h0)) 0 0 (xA E) := by
  refine x_enter (by decide) (Nat.le_of_ble_eq_true rfl) ?_
  intro p e s m args below meth c Q S hr hlk hnm hQ hP ls hl
  obtain ⟨⟨hz, hK, hT⟩, hh⟩ := hP
  obtain ⟨hx, hb, -, -, -⟩ := id S
  have hS : va_S (xA E) s.heap s.heap [] := va_S.rf
  have hl : lv_has ls 8 [(0, .ref a), (1, .int p0), (2, .ref p1), (3, .int p2), (4, .int p3)] := hl
  obtain ⟨hk9999, hj9999⟩ := fkX11_10 hT ha
  have z0 : (-1 ≤ (aI (G.2.1 (F a 10)) (10 * p0.toInt + 0)) ∧ (aI (G.2.1 (F a 10)) (10 * p0.toInt + 0)) ≤ 5) ∧ (0 ≤ (aI (G.2.1 (F a 10)) (10 * p0.toInt + 1)) ∧ (aI (G.2.1 (F a 10)) (10 * p0.toInt + 1)) ≤ 2) ∧ (0 ≤ (aI (G.2.1 (F a 10)) (10 * p0.toInt + 2)) ∧ (aI (G.2.1 (F a 10)) (10 * p0.toInt + 2)) ≤ 2) ∧ (-1 ≤ (aI (G.2.1 (F a 10)) (10 * p0.toInt + 3)) ∧ (aI (G.2.1 (F a 10)) (10 * p0.toInt + 3)) ≤ 2) ∧ ((aI (G.2.1 (F a 10)) (10 * p0.toInt + 0)) = 1 ∨ (aI (G.2.1 (F a 10)) (10 * p0.toInt + 0)) = 3 ∨ (aI (G.2.1 (F a 10)) (10 * p0.toInt + 0)) = 4 → 0 ≤ (aI (G.2.1 (F a 10)) (10 * p0.toInt + 3))) := RV.row hR (e0)
  have z0a : (hv (mw (G.2.1 p1) (p2.toInt)) (90 * (aI (G.2.1 (F a 10)) (10 * p0.toInt + 1)) + 30 * (aI (G.2.1 (F a 10)) (10 * p0.toInt + 2))) (p3.toInt) 0) = 0 := hv_0 _ _ _
  refine lv_iconst (v := 0) hx hb dX11_many_0 (by decide) ?_
  refine lv_istore (lv' := [(5, .int 0), (0, .ref a), (1, .int p0), (2, .ref p1), (3, .int p2), (4, .int p3)]) hx hb dX11_many_1 hl (by decide) rfl (fun ls hl => ?_)
  refine lv_iconst (v := 0) hx hb dX11_many_3 (by decide) ?_
  refine lv_istore (lv' := [(6, .int 0), (5, .int 0), (0, .ref a), (1, .int p0), (2, .ref p1), (3, .int p2), (4, .int p3)]) hx hb dX11_many_4 hl (by decide) rfl (fun ls hl => ?_)
  have L6 : ∀ (N6 : Nat) (l5_6 : Int32) (l6_6 : Int32) (locs : List Loc) (ls : Array Slot), l5_6.toInt = (hv (mw (G.2.1 p1) (p2.toInt)) (90 * (aI (G.2.1 (F a 10)) (10 * p0.toInt + 1)) + 30 * (aI (G.2.1 (F a 10)) (10 * p0.toInt + 2))) (p3.toInt) (l6_6.toInt)) → 0 ≤ l6_6.toInt ∧ l6_6.toInt ≤ 30 → 0 ≤ l5_6.toInt ∧ l5_6.toInt ≤ l6_6.toInt → (0 : Int) ≤ l6_6.toInt → 2147483648 - l6_6.toInt < ((N6 : Nat) : Int) → TW E K F G s.heap → va_S (xA E) s.heap s.heap locs → lv_has ls 8 [(0, .ref a), (1, .int p0), (2, .ref p1), (3, .int p2), (4, .int p3), (5, .int l5_6), (6, .int l6_6)] → W p l e rm_X11_many s m args below meth c s.heap locs 0 0 Q (F0 m 6 ls []) := by
    intro N6
    induction N6 with
    | zero =>
      intro l5_6 l6_6 locs ls I6_0 I6_1 I6_2 I6_3 hm6
      exact absurd hm6 (z_X11_many_2 l6_6.toInt I6_1)
    | succ N6 ih6 =>
      intro l5_6 l6_6 locs ls I6_0 I6_1 I6_2 I6_3 hm6 hT hS hl
      refine lv_iload hx hb dX11_many_6 (lv_at hl 6 rfl) ?_
      refine lv_bipush (v := 30) hx hb dX11_many_8 (by decide) ?_
      refine xi_cge (tgt := 70) hx hb (rfl : Int32.toInt l6_6 = l6_6.toInt) ((by decide) : Int32.toInt 30 = (30 : Int)) dX11_many_10 (by decide) (fun c10 => ?_) (fun c10 => ?_)
      · have z70 : l6_6.toInt = 30 → (hv (mw (G.2.1 p1) (p2.toInt)) (90 * (aI (G.2.1 (F a 10)) (10 * p0.toInt + 1)) + 30 * (aI (G.2.1 (F a 10)) (10 * p0.toInt + 2))) (p3.toInt) (l6_6.toInt)) = (hv (mw (G.2.1 p1) (p2.toInt)) (90 * (aI (G.2.1 (F a 10)) (10 * p0.toInt + 1)) + 30 * (aI (G.2.1 (F a 10)) (10 * p0.toInt + 2))) (p3.toInt) 30) := fun h9 => by rw [h9]
        refine lv_iload hx hb dX11_many_70 (lv_at hl 5 rfl) ?_
        exact x_ri hx hb hr hlk hQ (Nat.le_of_ble_eq_true rfl) (Nat.le_of_ble_eq_true rfl) hS dX11_many_72 () ⟨_, rfl, (z_X11_many_3 l5_6.toInt l6_6.toInt (hv (mw (G.2.1 p1) (p2.toInt)) (90 * (aI (G.2.1 (F a 10)) (10 * p0.toInt + 1)) + 30 * (aI (G.2.1 (F a 10)) (10 * p0.toInt + 2))) (p3.toInt) (l6_6.toInt)) (hv (mw (G.2.1 p1) (p2.toInt)) (90 * (aI (G.2.1 (F a 10)) (10 * p0.toInt + 1)) + 30 * (aI (G.2.1 (F a 10)) (10 * p0.toInt + 2))) (p3.toInt) 30) I6_0 I6_1 c10 z70)⟩ hh
      · refine lv_iload_n hx hb dX11_many_13 rfl (lv_at hl 3 rfl) ?_
        refine lv_aload_n hx hb dX11_many_14 rfl (lv_at hl 0 rfl) ?_
        refine lv_iload_n hx hb dX11_many_15 rfl (lv_at hl 1 rfl) ?_
        refine lv_iconst (v := 1) hx hb dX11_many_16 (by decide) ?_
        refine x_clp (x_runV (b := a) (As := [.int p0, .int 1]) (rest := [.int p2]) S (c_X11_of l E K F G s.heap a p0 1 ha (e0) (by decide)) mv_X11_of km_X11_165 rfl rfl ⟨Nat.le_of_ble_eq_true rfl, Nat.le_of_ble_eq_true rfl⟩ (rc_13 hK hT ha) hK (fun _ => XPh.blind) (fun U hU hW => XPh.at hK hz hS hT hU hW) rfl hl.1 (Nat.le_of_ble_eq_true rfl) dX11_many_17 ⟨Nat.le_of_ble_eq_true rfl, Nat.le_of_ble_eq_true rfl⟩) hS ?_
        rintro _ _ locs ⟨x17, rfl, t17⟩ hS
        have t17 : x17.toInt = (aI (G.2.1 (F a 10)) (10 * p0.toInt + 1)) := t17
        refine lv_iload hx hb dX11_many_20 (lv_at hl 6 rfl) ?_
        refine x_clp (x_runS (As := [.int x17, .int l6_6]) (rest := [.int p2]) S (c_X11_at l E K F G s.heap x17 l6_6) ms_X11_at km_X11_156 rfl rfl ⟨Nat.le_of_ble_eq_true rfl, Nat.le_of_ble_eq_true rfl⟩ hK (fun _ => XPh.blind) (fun U hU hW => XPh.at hK hz hS hT hU hW) rfl hl.1 (Nat.le_of_ble_eq_true rfl) dX11_many_22 ⟨Nat.le_of_ble_eq_true rfl, Nat.le_of_ble_eq_true rfl⟩) hS ?_
        rintro _ _ locs ⟨x22, rfl, t22⟩ hS
        have t22 : 0 ≤ (aI (G.2.1 (F a 10)) (10 * p0.toInt + 1)) ∧ (aI (G.2.1 (F a 10)) (10 * p0.toInt + 1)) ≤ 2 ∧ 0 ≤ l6_6.toInt ∧ l6_6.toInt ≤ 29 → x22.toInt = 4 * (30 * (aI (G.2.1 (F a 10)) (10 * p0.toInt + 1)) + l6_6.toInt) := by rw [(t17 : Int32.toInt x17 = (aI (G.2.1 (F a 10)) (10 * p0.toInt + 1)))] at t22; exact t22
        refine xi_iadd hx hb (rfl : Int32.toInt p2 = p2.toInt) (rfl : Int32.toInt x22 = x22.toInt) dX11_many_25 (fun x25 t25 => ?_)
        refine lv_istore (lv' := [(7, .int x25), (0, .ref a), (1, .int p0), (2, .ref p1), (3, .int p2), (4, .int p3), (5, .int l5_6), (6, .int l6_6)]) hx hb dX11_many_26 hl (by decide) rfl (fun ls hl => ?_)
        have z28 : ((aI (G.2.1 p1) (p2.toInt + 4 * (30 * (aI (G.2.1 (F a 10)) (10 * p0.toInt + 1)) + l6_6.toInt))) = 1 ∧ (aI (G.2.1 p1) (p2.toInt + 4 * (30 * (aI (G.2.1 (F a 10)) (10 * p0.toInt + 1)) + l6_6.toInt) + 1 + (aI (G.2.1 (F a 10)) (10 * p0.toInt + 2)))) = p3.toInt → (hv (mw (G.2.1 p1) (p2.toInt)) (90 * (aI (G.2.1 (F a 10)) (10 * p0.toInt + 1)) + 30 * (aI (G.2.1 (F a 10)) (10 * p0.toInt + 2))) (p3.toInt) (l6_6.toInt + 1)) = (hv (mw (G.2.1 p1) (p2.toInt)) (90 * (aI (G.2.1 (F a 10)) (10 * p0.toInt + 1)) + 30 * (aI (G.2.1 (F a 10)) (10 * p0.toInt + 2))) (p3.toInt) (l6_6.toInt)) + 1) ∧ (¬ ((aI (G.2.1 p1) (p2.toInt + 4 * (30 * (aI (G.2.1 (F a 10)) (10 * p0.toInt + 1)) + l6_6.toInt))) = 1 ∧ (aI (G.2.1 p1) (p2.toInt + 4 * (30 * (aI (G.2.1 (F a 10)) (10 * p0.toInt + 1)) + l6_6.toInt) + 1 + (aI (G.2.1 (F a 10)) (10 * p0.toInt + 2)))) = p3.toInt) → (hv (mw (G.2.1 p1) (p2.toInt)) (90 * (aI (G.2.1 (F a 10)) (10 * p0.toInt + 1)) + 30 * (aI (G.2.1 (F a 10)) (10 * p0.toInt + 2))) (p3.toInt) (l6_6.toInt + 1)) = (hv (mw (G.2.1 p1) (p2.toInt)) (90 * (aI (G.2.1 (F a 10)) (10 * p0.toInt + 1)) + 30 * (aI (G.2.1 (F a 10)) (10 * p0.toInt + 2))) (p3.toInt) (l6_6.toInt))) := hv_mw (z_X11_many_5 l6_6.toInt (aI (G.2.1 (F a 10)) (10 * p0.toInt + 1)) (aI (G.2.1 (F a 10)) (10 * p0.toInt + 2)) (z0).2.1 (z0).2.2.1 I6_1 c10) (z_X11_many_6 p3.toInt e1) rfl rfl
        refine lv_iload hx hb dX11_many_28 (lv_at hl 6 rfl) ?_
        refine lv_aload_n hx hb dX11_many_30 rfl (lv_at hl 3 rfl) ?_
        refine lv_iload hx hb dX11_many_31 (lv_at hl 0 rfl) ?_
        refine ald_of S hK hT hp1 (z_X11_many_7 l5_6.toInt l6_6.toInt p2.toInt x22.toInt x25.toInt (aI (G.2.1 (F a 10)) (10 * p0.toInt + 1)) (XO.lim hp1) (z0).2.1 I6_2 c10 t22 t25) dX11_many_33 (fun x33 hv33 => ?_)
        have hv33 : x33.toInt = (aI (G.2.1 p1) (p2.toInt + 4 * (30 * (aI (G.2.1 (F a 10)) (10 * p0.toInt + 1)) + l6_6.toInt))) := hv33.trans (by rw [((rfl : Int32.toInt x25 = x25.toInt).trans (z_X11_many_8 l5_6.toInt l6_6.toInt p2.toInt x22.toInt x25.toInt (aI (G.2.1 (F a 10)) (10 * p0.toInt + 1)) (XO.lim hp1) (z0).2.1 I6_2 c10 t22 t25))])
        refine lv_iconst (v := 1) hx hb dX11_many_34 (by decide) ?_
        refine xi_cne (tgt := 60) hx hb (hv33 : Int32.toInt x33 = (aI (G.2.1 p1) (p2.toInt + 4 * (30 * (aI (G.2.1 (F a 10)) (10 * p0.toInt + 1)) + l6_6.toInt)))) ((by decide) : Int32.toInt 1 = (1 : Int)) dX11_many_35 (by decide) (fun c35 => ?_) (fun c35 => ?_)
        · refine lv_iconst (v := 0) hx hb dX11_many_60 (by decide) ?_
          refine xi_iadd hx hb (rfl : Int32.toInt l5_6 = l5_6.toInt) ((by decide) : Int32.toInt 0 = (0 : Int)) dX11_many_61 (fun x61 t61 => ?_)
          have e61 : x61.toInt = (l5_6.toInt + (0 : Int)) := (z_X11_many_9 l5_6.toInt x61.toInt t61 (xr l5_6))
          refine lv_istore (lv' := [(5, .int x61), (7, .int x25), (0, .ref a), (1, .int p0), (2, .ref p1), (3, .int p2), (4, .int p3), (6, .int l6_6)]) hx hb dX11_many_62 hl (by decide) rfl (fun ls hl => ?_)
          refine xi_iinc (n := 1) (lv' := fun z9 => [(6, .int z9), (5, .int x61), (7, .int x25), (0, .ref a), (1, .int p0), (2, .ref p1), (3, .int p2), (4, .int p3)]) (k := 7) hx hb (rfl : Int32.toInt l6_6 = l6_6.toInt) (by decide) dX11_many_64 hl rfl (by decide) (fun _ => rfl) (fun x64 ls t64 hl => ?_)
          have e64 : x64.toInt = (l6_6.toInt + 1) := (z_X11_many_10 l6_6.toInt x64.toInt I6_1 t64)
          have hl : lv_has ls 8 [(6, .int x64), (5, .int x61), (7, .int x25), (0, .ref a), (1, .int p0), (2, .ref p1), (3, .int p2), (4, .int p3)] := hl
          refine lv_goto (tgt := 6) hx hb dX11_many_67 (by decide) ?_
          exact ih6 x61 x64 _ _ (by rw [(e61 : Int32.toInt x61 = (l5_6.toInt + (0 : Int))), (e64 : Int32.toInt x64 = (l6_6.toInt + 1))] <;> exact (z_X11_many_11 l5_6.toInt p3.toInt (aI (G.2.1 p1) (p2.toInt + 4 * (30 * (aI (G.2.1 (F a 10)) (10 * p0.toInt + 1)) + l6_6.toInt) + 1 + (aI (G.2.1 (F a 10)) (10 * p0.toInt + 2)))) (aI (G.2.1 p1) (p2.toInt + 4 * (30 * (aI (G.2.1 (F a 10)) (10 * p0.toInt + 1)) + l6_6.toInt))) (hv (mw (G.2.1 p1) (p2.toInt)) (90 * (aI (G.2.1 (F a 10)) (10 * p0.toInt + 1)) + 30 * (aI (G.2.1 (F a 10)) (10 * p0.toInt + 2))) (p3.toInt) (l6_6.toInt + 1)) (hv (mw (G.2.1 p1) (p2.toInt)) (90 * (aI (G.2.1 (F a 10)) (10 * p0.toInt + 1)) + 30 * (aI (G.2.1 (F a 10)) (10 * p0.toInt + 2))) (p3.toInt) (l6_6.toInt)) I6_0 (z28).2 c35)) (by rw [(e64 : Int32.toInt x64 = (l6_6.toInt + 1))] <;> exact (z_X11_many_12 l6_6.toInt I6_1 c10)) (by rw [(e61 : Int32.toInt x61 = (l5_6.toInt + (0 : Int))), (e64 : Int32.toInt x64 = (l6_6.toInt + 1))] <;> exact (z_X11_many_13 l5_6.toInt l6_6.toInt I6_2)) (by rw [(e64 : Int32.toInt x64 = (l6_6.toInt + 1))] <;> exact (z_X11_many_14 l6_6.toInt I6_1)) (by rw [(e64 : Int32.toInt x64 = (l6_6.toInt + 1))] <;> exact (z_X11_many_15 l6_6.toInt N6 hm6)) hT hS (lv_sub hl [3, 4, 5, 6, 7, 1, 0] rfl)
        · refine lv_aload_n hx hb dX11_many_38 rfl (lv_at hl 3 rfl) ?_
          refine lv_iload hx hb dX11_many_39 (lv_at hl 0 rfl) ?_
          refine lv_iconst (v := 1) hx hb dX11_many_41 (by decide) ?_
          refine xi_iadd hx hb (rfl : Int32.toInt x25 = x25.toInt) ((by decide) : Int32.toInt 1 = (1 : Int)) dX11_many_42 (fun x42 t42 => ?_)
          refine lv_aload_n hx hb dX11_many_43 rfl (lv_at hl 1 rfl) ?_
          refine lv_iload_n hx hb dX11_many_44 rfl (lv_at hl 2 rfl) ?_
          refine lv_iconst (v := 2) hx hb dX11_many_45 (by decide) ?_
          refine x_clp (x_runV (b := a) (As := [.int p0, .int 2]) (rest := [.int x42, .ref p1, .int l5_6]) S (c_X11_of l E K F G s.heap a p0 2 ha (e0) (by decide)) mv_X11_of km_X11_165 rfl rfl ⟨Nat.le_of_ble_eq_true rfl, Nat.le_of_ble_eq_true rfl⟩ (rc_13 hK hT ha) hK (fun _ => XPh.blind) (fun U hU hW => XPh.at hK hz hS hT hU hW) rfl hl.1 (Nat.le_of_ble_eq_true rfl) dX11_many_46 ⟨Nat.le_of_ble_eq_true rfl, Nat.le_of_ble_eq_true rfl⟩) hS ?_
          rintro _ _ locs ⟨x46, rfl, t46⟩ hS
          have t46 : x46.toInt = (aI (G.2.1 (F a 10)) (10 * p0.toInt + 2)) := t46
          refine xi_iadd hx hb (rfl : Int32.toInt x42 = x42.toInt) (t46 : Int32.toInt x46 = (aI (G.2.1 (F a 10)) (10 * p0.toInt + 2))) dX11_many_49 (fun x49 t49 => ?_)
          refine ald_of S hK hT hp1 (z_X11_many_17 l6_6.toInt p2.toInt x22.toInt x25.toInt x42.toInt x49.toInt (aI (G.2.1 (F a 10)) (10 * p0.toInt + 1)) (aI (G.2.1 (F a 10)) (10 * p0.toInt + 2)) (XO.lim hp1) (z0).2.1 (z0).2.2.1 I6_1 c10 t22 t25 t42 t49) dX11_many_50 (fun x50 hv50 => ?_)
          have hv50 : x50.toInt = (aI (G.2.1 p1) (p2.toInt + 4 * (30 * (aI (G.2.1 (F a 10)) (10 * p0.toInt + 1)) + l6_6.toInt) + 1 + (aI (G.2.1 (F a 10)) (10 * p0.toInt + 2)))) := hv50.trans (by rw [((rfl : Int32.toInt x49 = x49.toInt).trans (z_X11_many_18 l6_6.toInt p2.toInt x22.toInt x25.toInt x42.toInt x49.toInt (aI (G.2.1 (F a 10)) (10 * p0.toInt + 1)) (aI (G.2.1 (F a 10)) (10 * p0.toInt + 2)) (XO.lim hp1) (z0).2.1 (z0).2.2.1 I6_1 c10 t22 t25 t42 t49))])
          refine lv_iload hx hb dX11_many_51 (lv_at hl 5 rfl) ?_
          refine xi_cne (tgt := 60) hx hb (hv50 : Int32.toInt x50 = (aI (G.2.1 p1) (p2.toInt + 4 * (30 * (aI (G.2.1 (F a 10)) (10 * p0.toInt + 1)) + l6_6.toInt) + 1 + (aI (G.2.1 (F a 10)) (10 * p0.toInt + 2))))) (rfl : Int32.toInt p3 = p3.toInt) dX11_many_53 (by decide) (fun c53 => ?_) (fun c53 => ?_)
          · refine lv_iconst (v := 0) hx hb dX11_many_60 (by decide) ?_
            refine xi_iadd hx hb (rfl : Int32.toInt l5_6 = l5_6.toInt) ((by decide) : Int32.toInt 0 = (0 : Int)) dX11_many_61 (fun x61 t61 => ?_)
            have e61 : x61.toInt = (l5_6.toInt + (0 : Int)) := (z_X11_many_9 l5_6.toInt x61.toInt t61 (xr l5_6))
            refine lv_istore (lv' := [(5, .int x61), (7, .int x25), (0, .ref a), (1, .int p0), (2, .ref p1), (3, .int p2), (4, .int p3), (6, .int l6_6)]) hx hb dX11_many_62 hl (by decide) rfl (fun ls hl => ?_)
            refine xi_iinc (n := 1) (lv' := fun z9 => [(6, .int z9), (5, .int x61), (7, .int x25), (0, .ref a), (1, .int p0), (2, .ref p1), (3, .int p2), (4, .int p3)]) (k := 7) hx hb (rfl : Int32.toInt l6_6 = l6_6.toInt) (by decide) dX11_many_64 hl rfl (by decide) (fun _ => rfl) (fun x64 ls t64 hl => ?_)
            have e64 : x64.toInt = (l6_6.toInt + 1) := (z_X11_many_10 l6_6.toInt x64.toInt I6_1 t64)
            have hl : lv_has ls 8 [(6, .int x64), (5, .int x61), (7, .int x25), (0, .ref a), (1, .int p0), (2, .ref p1), (3, .int p2), (4, .int p3)] := hl
            refine lv_goto (tgt := 6) hx hb dX11_many_67 (by decide) ?_
            exact ih6 x61 x64 _ _ (by rw [(e61 : Int32.toInt x61 = (l5_6.toInt + (0 : Int))), (e64 : Int32.toInt x64 = (l6_6.toInt + 1))] <;> exact (z_X11_many_21 l5_6.toInt p3.toInt (aI (G.2.1 p1) (p2.toInt + 4 * (30 * (aI (G.2.1 (F a 10)) (10 * p0.toInt + 1)) + l6_6.toInt) + 1 + (aI (G.2.1 (F a 10)) (10 * p0.toInt + 2)))) (aI (G.2.1 p1) (p2.toInt + 4 * (30 * (aI (G.2.1 (F a 10)) (10 * p0.toInt + 1)) + l6_6.toInt))) (hv (mw (G.2.1 p1) (p2.toInt)) (90 * (aI (G.2.1 (F a 10)) (10 * p0.toInt + 1)) + 30 * (aI (G.2.1 (F a 10)) (10 * p0.toInt + 2))) (p3.toInt) (l6_6.toInt + 1)) (hv (mw (G.2.1 p1) (p2.toInt)) (90 * (aI (G.2.1 (F a 10)) (10 * p0.toInt + 1)) + 30 * (aI (G.2.1 (F a 10)) (10 * p0.toInt + 2))) (p3.toInt) (l6_6.toInt)) I6_0 (z28).2 c53)) (by rw [(e64 : Int32.toInt x64 = (l6_6.toInt + 1))] <;> exact (z_X11_many_12 l6_6.toInt I6_1 c10)) (by rw [(e61 : Int32.toInt x61 = (l5_6.toInt + (0 : Int))), (e64 : Int32.toInt x64 = (l6_6.toInt + 1))] <;> exact (z_X11_many_13 l5_6.toInt l6_6.toInt I6_2)) (by rw [(e64 : Int32.toInt x64 = (l6_6.toInt + 1))] <;> exact (z_X11_many_14 l6_6.toInt I6_1)) (by rw [(e64 : Int32.toInt x64 = (l6_6.toInt + 1))] <;> exact (z_X11_many_15 l6_6.toInt N6 hm6)) hT hS (lv_sub hl [3, 4, 5, 6, 7, 1, 0] rfl)
          · refine lv_iconst (v := 1) hx hb dX11_many_56 (by decide) ?_
            refine lv_goto (tgt := 61) hx hb dX11_many_57 (by decide) ?_
            refine xi_iadd hx hb (rfl : Int32.toInt l5_6 = l5_6.toInt) ((by decide) : Int32.toInt 1 = (1 : Int)) dX11_many_61 (fun x61 t61 => ?_)
            have e61 : x61.toInt = (l5_6.toInt + (1 : Int)) := (z_X11_many_26 l5_6.toInt l6_6.toInt x61.toInt I6_2 c10 t61)
            refine lv_istore (lv' := [(5, .int x61), (7, .int x25), (0, .ref a), (1, .int p0), (2, .ref p1), (3, .int p2), (4, .int p3), (6, .int l6_6)]) hx hb dX11_many_62 hl (by decide) rfl (fun ls hl => ?_)
            refine xi_iinc (n := 1) (lv' := fun z9 => [(6, .int z9), (5, .int x61), (7, .int x25), (0, .ref a), (1, .int p0), (2, .ref p1), (3, .int p2), (4, .int p3)]) (k := 7) hx hb (rfl : Int32.toInt l6_6 = l6_6.toInt) (by decide) dX11_many_64 hl rfl (by decide) (fun _ => rfl) (fun x64 ls t64 hl => ?_)
            have e64 : x64.toInt = (l6_6.toInt + 1) := (z_X11_many_10 l6_6.toInt x64.toInt I6_1 t64)
            have hl : lv_has ls 8 [(6, .int x64), (5, .int x61), (7, .int x25), (0, .ref a), (1, .int p0), (2, .ref p1), (3, .int p2), (4, .int p3)] := hl
            refine lv_goto (tgt := 6) hx hb dX11_many_67 (by decide) ?_
            exact ih6 x61 x64 _ _ (by rw [(e61 : Int32.toInt x61 = (l5_6.toInt + (1 : Int))), (e64 : Int32.toInt x64 = (l6_6.toInt + 1))] <;> exact (z_X11_many_28 l5_6.toInt p3.toInt (aI (G.2.1 p1) (p2.toInt + 4 * (30 * (aI (G.2.1 (F a 10)) (10 * p0.toInt + 1)) + l6_6.toInt) + 1 + (aI (G.2.1 (F a 10)) (10 * p0.toInt + 2)))) (aI (G.2.1 p1) (p2.toInt + 4 * (30 * (aI (G.2.1 (F a 10)) (10 * p0.toInt + 1)) + l6_6.toInt))) (hv (mw (G.2.1 p1) (p2.toInt)) (90 * (aI (G.2.1 (F a 10)) (10 * p0.toInt + 1)) + 30 * (aI (G.2.1 (F a 10)) (10 * p0.toInt + 2))) (p3.toInt) (l6_6.toInt + 1)) (hv (mw (G.2.1 p1) (p2.toInt)) (90 * (aI (G.2.1 (F a 10)) (10 * p0.toInt + 1)) + 30 * (aI (G.2.1 (F a 10)) (10 * p0.toInt + 2))) (p3.toInt) (l6_6.toInt)) I6_0 (z28).1 c35 c53)) (by rw [(e64 : Int32.toInt x64 = (l6_6.toInt + 1))] <;> exact (z_X11_many_12 l6_6.toInt I6_1 c10)) (by rw [(e61 : Int32.toInt x61 = (l5_6.toInt + (1 : Int))), (e64 : Int32.toInt x64 = (l6_6.toInt + 1))] <;> exact (z_X11_many_30 l5_6.toInt l6_6.toInt I6_2)) (by rw [(e64 : Int32.toInt x64 = (l6_6.toInt + 1))] <;> exact (z_X11_many_14 l6_6.toInt I6_1)) (by rw [(e64 : Int32.toInt x64 = (l6_6.toInt + 1))] <;> exact (z_X11_many_15 l6_6.toInt N6 hm6)) hT hS (lv_sub hl [3, 4, 5, 6, 7, 1, 0] rfl)
  exact L6 4294967297 0 0 _ _ (z_X11_many_33 (hv (mw (G.2.1 p1) (p2.toInt)) (90 * (aI (G.2.1 (F a 10)) (10 * p0.toInt + 1)) + 30 * (aI (G.2.1 (F a 10)) (10 * p0.toInt + 2))) (p3.toInt) 0) z0a) (by decide) (by decide) (by decide) (by decide) hT hS (lv_sub hl [2, 3, 4, 5, 6, 1, 0] rfl)

