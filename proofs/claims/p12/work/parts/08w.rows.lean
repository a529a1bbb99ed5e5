theorem z_X10_isTable_1 (a0 : Int) (h0 : a0 < 0) : ((0 : Int) = 1 ∧ 0 ≤ a0 ∧ a0 < 3) ∨ ((0 : Int) = 0 ∧ (a0 < 0 ∨ 3 ≤ a0)) := by omega
theorem z_X10_isTable_2 (a0 : Int) (h0 : (3 : Int) ≤ a0) : ((0 : Int) = 1 ∧ 0 ≤ a0 ∧ a0 < 3) ∨ ((0 : Int) = 0 ∧ (a0 < 0 ∨ 3 ≤ a0)) := by omega
theorem z_X10_isTable_3 (a0 : Int) (h0 : ¬ (a0 < 0)) (h1 : ¬ ((3 : Int) ≤ a0)) : ((1 : Int) = 1 ∧ 0 ≤ a0 ∧ a0 < 3) ∨ ((1 : Int) = 0 ∧ (a0 < 0 ∨ 3 ≤ a0)) := by omega
abbrev rm_X10_isTable : Room := { frames := 0, cells := 0, slots := 0, locals := 0 }
set_option maxHeartbeats 4000000 in
set_option maxRecDepth 100000 in
theorem c_X10_isTable (l : Launch) (E : XE) (K : Nat → Nat) (F : Nat → Nat → Nat) (G : XG) (h0 : Heap) (p0 : Int32)  : Met l yX10_isTable (xw yX10_isTable cX10_isTable 1 (some .boolean)) rm_X10_isTable (va_Pc [.int p0] (XPh E K F G h0)) (XQ E (fun v (u : Unit) => ∃ r : Int32, v = .int r ∧ (r = 0 ∨ r = 1) ∧ ((r.toInt = 1 ∧ 0 ≤ p0.toInt ∧ p0.toInt < 3) ∨ (r.toInt = 0 ∧ (p0.toInt < 0 ∨ 3 ≤ p0.toInt)))) (fun _ H => H = h0)) 0 0 (xA E) := by
  refine x_enter (by decide) (Nat.le_of_ble_eq_true rfl) ?_
  intro p e s m args below meth c Q S hr hlk hnm hQ hP ls hl
  obtain ⟨⟨hz, hK, hT⟩, hh⟩ := hP
  obtain ⟨hx, hb, -, -, -⟩ := id S
  have hS : va_S (xA E) s.heap s.heap [] := va_S.rf
  have hl : lv_has ls 1 [(0, .int p0)] := hl
  refine lv_iload_n hx hb dX10_isTable_0 rfl (lv_at hl 0 rfl) ?_
  refine xi_zlt (tgt := 13) hx hb (rfl : Int32.toInt p0 = p0.toInt) dX10_isTable_1 (by decide) (fun c1 => ?_) (fun c1 => ?_)
  · refine lv_iconst (v := 0) hx hb dX10_isTable_13 (by decide) ?_
    exact x_rz hx hb hr (xnz (Or.inl rfl)) hlk hQ (Nat.le_of_ble_eq_true rfl) (Nat.le_of_ble_eq_true rfl) hS dX10_isTable_14 () ⟨_, rfl, (Or.inl rfl), (z_X10_isTable_1 p0.toInt c1)⟩ hh
  · refine lv_iload_n hx hb dX10_isTable_4 rfl (lv_at hl 0 rfl) ?_
    refine lv_iconst (v := 3) hx hb dX10_isTable_5 (by decide) ?_
    refine xi_cge (tgt := 13) hx hb (rfl : Int32.toInt p0 = p0.toInt) ((by decide) : Int32.toInt 3 = (3 : Int)) dX10_isTable_6 (by decide) (fun c6 => ?_) (fun c6 => ?_)
    · refine lv_iconst (v := 0) hx hb dX10_isTable_13 (by decide) ?_
      exact x_rz hx hb hr (xnz (Or.inl rfl)) hlk hQ (Nat.le_of_ble_eq_true rfl) (Nat.le_of_ble_eq_true rfl) hS dX10_isTable_14 () ⟨_, rfl, (Or.inl rfl), (z_X10_isTable_2 p0.toInt c6)⟩ hh
    · refine lv_iconst (v := 1) hx hb dX10_isTable_9 (by decide) ?_
      refine lv_goto (tgt := 14) hx hb dX10_isTable_10 (by decide) ?_
      exact x_rz hx hb hr (xnz (Or.inr rfl)) hlk hQ (Nat.le_of_ble_eq_true rfl) (Nat.le_of_ble_eq_true rfl) hS dX10_isTable_14 () ⟨_, rfl, (Or.inr rfl), (z_X10_isTable_3 p0.toInt c1 c6)⟩ hh

theorem z_X10_isKey_1 (a0 : Int) (h0 : a0 < 0) : ((0 : Int) = 1 ∧ 0 ≤ a0 ∧ a0 < 30) ∨ ((0 : Int) = 0 ∧ (a0 < 0 ∨ 30 ≤ a0)) := by omega
theorem z_X10_isKey_2 (a0 : Int) (h0 : (30 : Int) ≤ a0) : ((0 : Int) = 1 ∧ 0 ≤ a0 ∧ a0 < 30) ∨ ((0 : Int) = 0 ∧ (a0 < 0 ∨ 30 ≤ a0)) := by omega
theorem z_X10_isKey_3 (a0 : Int) (h0 : ¬ (a0 < 0)) (h1 : ¬ ((30 : Int) ≤ a0)) : ((1 : Int) = 1 ∧ 0 ≤ a0 ∧ a0 < 30) ∨ ((1 : Int) = 0 ∧ (a0 < 0 ∨ 30 ≤ a0)) := by omega
abbrev rm_X10_isKey : Room := { frames := 0, cells := 0, slots := 0, locals := 0 }
set_option maxHeartbeats 4000000 in
set_option maxRecDepth 100000 in
theorem c_X10_isKey (l : Launch) (E : XE) (K : Nat → Nat) (F : Nat → Nat → Nat) (G : XG) (h0 : Heap) (p0 : Int32)  : Met l yX10_isKey (xw yX10_isKey cX10_isKey 1 (some .boolean)) rm_X10_isKey (va_Pc [.int p0] (XPh E K F G h0)) (XQ E (fun v (u : Unit) => ∃ r : Int32, v = .int r ∧ (r = 0 ∨ r = 1) ∧ ((r.toInt = 1 ∧ 0 ≤ p0.toInt ∧ p0.toInt < 30) ∨ (r.toInt = 0 ∧ (p0.toInt < 0 ∨ 30 ≤ p0.toInt)))) (fun _ H => H = h0)) 0 0 (xA E) := by
  refine x_enter (by decide) (Nat.le_of_ble_eq_true rfl) ?_
  intro p e s m args below meth c Q S hr hlk hnm hQ hP ls hl
  obtain ⟨⟨hz, hK, hT⟩, hh⟩ := hP
  obtain ⟨hx, hb, -, -, -⟩ := id S
  have hS : va_S (xA E) s.heap s.heap [] := va_S.rf
  have hl : lv_has ls 1 [(0, .int p0)] := hl
  refine lv_iload_n hx hb dX10_isKey_0 rfl (lv_at hl 0 rfl) ?_
  refine xi_zlt (tgt := 14) hx hb (rfl : Int32.toInt p0 = p0.toInt) dX10_isKey_1 (by decide) (fun c1 => ?_) (fun c1 => ?_)
  · refine lv_iconst (v := 0) hx hb dX10_isKey_14 (by decide) ?_
    exact x_rz hx hb hr (xnz (Or.inl rfl)) hlk hQ (Nat.le_of_ble_eq_true rfl) (Nat.le_of_ble_eq_true rfl) hS dX10_isKey_15 () ⟨_, rfl, (Or.inl rfl), (z_X10_isKey_1 p0.toInt c1)⟩ hh
  · refine lv_iload_n hx hb dX10_isKey_4 rfl (lv_at hl 0 rfl) ?_
    refine lv_bipush (v := 30) hx hb dX10_isKey_5 (by decide) ?_
    refine xi_cge (tgt := 14) hx hb (rfl : Int32.toInt p0 = p0.toInt) ((by decide) : Int32.toInt 30 = (30 : Int)) dX10_isKey_7 (by decide) (fun c7 => ?_) (fun c7 => ?_)
    · refine lv_iconst (v := 0) hx hb dX10_isKey_14 (by decide) ?_
      exact x_rz hx hb hr (xnz (Or.inl rfl)) hlk hQ (Nat.le_of_ble_eq_true rfl) (Nat.le_of_ble_eq_true rfl) hS dX10_isKey_15 () ⟨_, rfl, (Or.inl rfl), (z_X10_isKey_2 p0.toInt c7)⟩ hh
    · refine lv_iconst (v := 1) hx hb dX10_isKey_10 (by decide) ?_
      refine lv_goto (tgt := 15) hx hb dX10_isKey_11 (by decide) ?_
      exact x_rz hx hb hr (xnz (Or.inr rfl)) hlk hQ (Nat.le_of_ble_eq_true rfl) (Nat.le_of_ble_eq_true rfl) hS dX10_isKey_15 () ⟨_, rfl, (Or.inr rfl), (z_X10_isKey_3 p0.toInt c1 c7)⟩ hh

abbrev rm_X10_isColumn : Room := { frames := 0, cells := 0, slots := 0, locals := 0 }
set_option maxHeartbeats 4000000 in
set_option maxRecDepth 100000 in
theorem c_X10_isColumn (l : Launch) (E : XE) (K : Nat → Nat) (F : Nat → Nat → Nat) (G : XG) (h0 : Heap) (p0 : Int32)  : Met l yX10_isColumn (xw yX10_isColumn cX10_isColumn 1 (some .boolean)) rm_X10_isColumn (va_Pc [.int p0] (XPh E K F G h0)) (XQ E (fun v (u : Unit) => ∃ r : Int32, v = .int r ∧ (r = 0 ∨ r = 1) ∧ ((r.toInt = 1 ∧ 0 ≤ p0.toInt ∧ p0.toInt < 3) ∨ (r.toInt = 0 ∧ (p0.toInt < 0 ∨ 3 ≤ p0.toInt)))) (fun _ H => H = h0)) 0 0 (xA E) := by
  refine x_enter (by decide) (Nat.le_of_ble_eq_true rfl) ?_
  intro p e s m args below meth c Q S hr hlk hnm hQ hP ls hl
  obtain ⟨⟨hz, hK, hT⟩, hh⟩ := hP
  obtain ⟨hx, hb, -, -, -⟩ := id S
  have hS : va_S (xA E) s.heap s.heap [] := va_S.rf
  have hl : lv_has ls 1 [(0, .int p0)] := hl
  refine lv_iload_n hx hb dX10_isColumn_0 rfl (lv_at hl 0 rfl) ?_
  refine xi_zlt (tgt := 13) hx hb (rfl : Int32.toInt p0 = p0.toInt) dX10_isColumn_1 (by decide) (fun c1 => ?_) (fun c1 => ?_)
  · refine lv_iconst (v := 0) hx hb dX10_isColumn_13 (by decide) ?_
    exact x_rz hx hb hr (xnz (Or.inl rfl)) hlk hQ (Nat.le_of_ble_eq_true rfl) (Nat.le_of_ble_eq_true rfl) hS dX10_isColumn_14 () ⟨_, rfl, (Or.inl rfl), (z_X10_isTable_1 p0.toInt c1)⟩ hh
  · refine lv_iload_n hx hb dX10_isColumn_4 rfl (lv_at hl 0 rfl) ?_
    refine lv_iconst (v := 3) hx hb dX10_isColumn_5 (by decide) ?_
    refine xi_cge (tgt := 13) hx hb (rfl : Int32.toInt p0 = p0.toInt) ((by decide) : Int32.toInt 3 = (3 : Int)) dX10_isColumn_6 (by decide) (fun c6 => ?_) (fun c6 => ?_)
    · refine lv_iconst (v := 0) hx hb dX10_isColumn_13 (by decide) ?_
      exact x_rz hx hb hr (xnz (Or.inl rfl)) hlk hQ (Nat.le_of_ble_eq_true rfl) (Nat.le_of_ble_eq_true rfl) hS dX10_isColumn_14 () ⟨_, rfl, (Or.inl rfl), (z_X10_isTable_2 p0.toInt c6)⟩ hh
    · refine lv_iconst (v := 1) hx hb dX10_isColumn_9 (by decide) ?_
      refine lv_goto (tgt := 14) hx hb dX10_isColumn_10 (by decide) ?_
      exact x_rz hx hb hr (xnz (Or.inr rfl)) hlk hQ (Nat.le_of_ble_eq_true rfl) (Nat.le_of_ble_eq_true rfl) hS dX10_isColumn_14 () ⟨_, rfl, (Or.inr rfl), (z_X10_isTable_3 p0.toInt c1 c6)⟩ hh

theorem z_X10_isSubjectValue_1 (a0 : Int) (h0 : a0 < (-99 : Int)) : ((0 : Int) = 1 ∧ (-99) ≤ a0 ∧ a0 < 100) ∨ ((0 : Int) = 0 ∧ (a0 < (-99) ∨ 100 ≤ a0)) := by omega
theorem z_X10_isSubjectValue_2 (a0 : Int) (h0 : (99 : Int) < a0) : ((0 : Int) = 1 ∧ (-99) ≤ a0 ∧ a0 < 100) ∨ ((0 : Int) = 0 ∧ (a0 < (-99) ∨ 100 ≤ a0)) := by omega
theorem z_X10_isSubjectValue_3 (a0 : Int) (h0 : ¬ (a0 < (-99 : Int))) (h1 : ¬ ((99 : Int) < a0)) : ((1 : Int) = 1 ∧ (-99) ≤ a0 ∧ a0 < 100) ∨ ((1 : Int) = 0 ∧ (a0 < (-99) ∨ 100 ≤ a0)) := by omega
abbrev rm_X10_isSubjectValue : Room := { frames := 0, cells := 0, slots := 0, locals := 0 }
set_option maxHeartbeats 4000000 in
set_option maxRecDepth 100000 in
theorem c_X10_isSubjectValue (l : Launch) (E : XE) (K : Nat → Nat) (F : Nat → Nat → Nat) (G : XG) (h0 : Heap) (p0 : Int32)  : Met l yX10_isSubjectValue (xw yX10_isSubjectValue cX10_isSubjectValue 1 (some .boolean)) rm_X10_isSubjectValue (va_Pc [.int p0] (XPh E K F G h0)) (XQ E (fun v (u : Unit) => ∃ r : Int32, v = .int r ∧ (r = 0 ∨ r = 1) ∧ ((r.toInt = 1 ∧ (-99) ≤ p0.toInt ∧ p0.toInt < 100) ∨ (r.toInt = 0 ∧ (p0.toInt < (-99) ∨ 100 ≤ p0.toInt)))) (fun _ H => H = h0)) 0 0 (xA E) := by
  refine x_enter (by decide) (Nat.le_of_ble_eq_true rfl) ?_
  intro p e s m args below meth c Q S hr hlk hnm hQ hP ls hl
  obtain ⟨⟨hz, hK, hT⟩, hh⟩ := hP
  obtain ⟨hx, hb, -, -, -⟩ := id S
  have hS : va_S (xA E) s.heap s.heap [] := va_S.rf
  have hl : lv_has ls 1 [(0, .int p0)] := hl
  refine lv_iload_n hx hb dX10_isSubjectValue_0 rfl (lv_at hl 0 rfl) ?_
  refine lv_bipush (v := (-99)) hx hb dX10_isSubjectValue_1 (by decide) ?_
  refine xi_clt (tgt := 16) hx hb (rfl : Int32.toInt p0 = p0.toInt) ((by decide) : Int32.toInt (-99) = (-99 : Int)) dX10_isSubjectValue_3 (by decide) (fun c3 => ?_) (fun c3 => ?_)
  · refine lv_iconst (v := 0) hx hb dX10_isSubjectValue_16 (by decide) ?_
    exact x_rz hx hb hr (xnz (Or.inl rfl)) hlk hQ (Nat.le_of_ble_eq_true rfl) (Nat.le_of_ble_eq_true rfl) hS dX10_isSubjectValue_17 () ⟨_, rfl, (Or.inl rfl), (z_X10_isSubjectValue_1 p0.toInt c3)⟩ hh
  · refine lv_iload_n hx hb dX10_isSubjectValue_6 rfl (lv_at hl 0 rfl) ?_
    refine lv_bipush (v := 99) hx hb dX10_isSubjectValue_7 (by decide) ?_
    refine xi_cgt (tgt := 16) hx hb (rfl : Int32.toInt p0 = p0.toInt) ((by decide) : Int32.toInt 99 = (99 : Int)) dX10_isSubjectValue_9 (by decide) (fun c9 => ?_) (fun c9 => ?_)
    · refine lv_iconst (v := 0) hx hb dX10_isSubjectValue_16 (by decide) ?_
      exact x_rz hx hb hr (xnz (Or.inl rfl)) hlk hQ (Nat.le_of_ble_eq_true rfl) (Nat.le_of_ble_eq_true rfl) hS dX10_isSubjectValue_17 () ⟨_, rfl, (Or.inl rfl), (z_X10_isSubjectValue_2 p0.toInt c9)⟩ hh
    · refine lv_iconst (v := 1) hx hb dX10_isSubjectValue_12 (by decide) ?_
      refine lv_goto (tgt := 17) hx hb dX10_isSubjectValue_13 (by decide) ?_
      exact x_rz hx hb hr (xnz (Or.inr rfl)) hlk hQ (Nat.le_of_ble_eq_true rfl) (Nat.le_of_ble_eq_true rfl) hS dX10_isSubjectValue_17 () ⟨_, rfl, (Or.inr rfl), (z_X10_isSubjectValue_3 p0.toInt c3 c9)⟩ hh

theorem z_X10_isValue_1 (a0 : Int) (h0 : a0 = (-1000 : Int)) : ((1 : Int) = 1 ∧ (a0 = -1000 ∨ (-99 ≤ a0 ∧ a0 < 100))) ∨ ((1 : Int) = 0 ∧ a0 ≠ -1000 ∧ (a0 < -99 ∨ 100 ≤ a0)) := by omega
theorem z_X10_isValue_2 (a0 : Int) (a1 : Int) (h0 : ¬ (a0 = (-1000 : Int))) (h1 : (a1 = 1 ∧ (-99) ≤ a0 ∧ a0 < 100) ∨ (a1 = 0 ∧ (a0 < (-99) ∨ 100 ≤ a0))) (h2 : a1 = 0) : ((0 : Int) = 1 ∧ (a0 = -1000 ∨ (-99 ≤ a0 ∧ a0 < 100))) ∨ ((0 : Int) = 0 ∧ a0 ≠ -1000 ∧ (a0 < -99 ∨ 100 ≤ a0)) := by omega
theorem z_X10_isValue_3 (a0 : Int) (a1 : Int) (h0 : (a1 = 1 ∧ (-99) ≤ a0 ∧ a0 < 100) ∨ (a1 = 0 ∧ (a0 < (-99) ∨ 100 ≤ a0))) (h1 : ¬ (a1 = 0)) : ((1 : Int) = 1 ∧ (a0 = -1000 ∨ (-99 ≤ a0 ∧ a0 < 100))) ∨ ((1 : Int) = 0 ∧ a0 ≠ -1000 ∧ (a0 < -99 ∨ 100 ≤ a0)) := by omega
abbrev rm_X10_isValue : Room := { frames := 1, cells := 0, slots := 0, locals := 20 }
set_option maxHeartbeats 4000000 in
set_option maxRecDepth 100000 in
theorem c_X10_isValue (l : Launch) (E : XE) (K : Nat → Nat) (F : Nat → Nat → Nat) (G : XG) (h0 : Heap) (p0 : Int32)  : Met l yX10_isValue (xw yX10_isValue cX10_isValue 1 (some .boolean)) rm_X10_isValue (va_Pc [.int p0] (XPh E K F G h0)) (XQ E (fun v (u : Unit) => ∃ r : Int32, v = .int r ∧ (r = 0 ∨ r = 1) ∧ ((r.toInt = 1 ∧ (p0.toInt = -1000 ∨ (-99 ≤ p0.toInt ∧ p0.toInt < 100))) ∨ (r.toInt = 0 ∧ p0.toInt ≠ -1000 ∧ (p0.toInt < -99 ∨ 100 ≤ p0.toInt)))) (fun _ H => H = h0)) 0 0 (xA E) := by
  refine x_enter (by decide) (Nat.le_of_ble_eq_true rfl) ?_
  intro p e s m args below meth c Q S hr hlk hnm hQ hP ls hl
  obtain ⟨⟨hz, hK, hT⟩, hh⟩ := hP
  obtain ⟨hx, hb, -, -, -⟩ := id S
  have hS : va_S (xA E) s.heap s.heap [] := va_S.rf
  have hl : lv_has ls 1 [(0, .int p0)] := hl
  refine lv_iload_n hx hb dX10_isValue_0 rfl (lv_at hl 0 rfl) ?_
  refine lv_sipush (v := (-1000)) hx hb dX10_isValue_1 (by decide) ?_
  refine xi_ceq (tgt := 14) hx hb (rfl : Int32.toInt p0 = p0.toInt) ((by decide) : Int32.toInt (-1000) = (-1000 : Int)) dX10_isValue_4 (by decide) (fun c4 => ?_) (fun c4 => ?_)
  · refine lv_iconst (v := 1) hx hb dX10_isValue_14 (by decide) ?_
    refine lv_goto (tgt := 19) hx hb dX10_isValue_15 (by decide) ?_
    exact x_rz hx hb hr (xnz (Or.inr rfl)) hlk hQ (Nat.le_of_ble_eq_true rfl) (Nat.le_of_ble_eq_true rfl) hS dX10_isValue_19 () ⟨_, rfl, (Or.inr rfl), (z_X10_isValue_1 p0.toInt c4)⟩ hh
  · refine lv_iload_n hx hb dX10_isValue_7 rfl (lv_at hl 0 rfl) ?_
    refine x_clp (x_runS (As := [.int p0]) (rest := []) S (c_X10_isSubjectValue l E K F G s.heap p0) ms_X10_isSubjectValue km_X10_371 rfl rfl ⟨Nat.le_of_ble_eq_true rfl, Nat.le_of_ble_eq_true rfl⟩ hK (fun _ => XPh.blind) (fun U hU hW => XPh.at hK hz hS hT hU hW) rfl hl.1 (Nat.le_of_ble_eq_true rfl) dX10_isValue_8 ⟨Nat.le_of_ble_eq_true rfl, Nat.le_of_ble_eq_true rfl⟩) hS ?_
    rintro _ _ locs ⟨x8, rfl, b8, t8⟩ hS
    have t8 : (x8.toInt = 1 ∧ (-99) ≤ p0.toInt ∧ p0.toInt < 100) ∨ (x8.toInt = 0 ∧ (p0.toInt < (-99) ∨ 100 ≤ p0.toInt)) := t8
    refine xi_zeq (tgt := 18) hx hb (rfl : Int32.toInt x8 = x8.toInt) dX10_isValue_11 (by decide) (fun c11 => ?_) (fun c11 => ?_)
    · refine lv_iconst (v := 0) hx hb dX10_isValue_18 (by decide) ?_
      exact x_rz hx hb hr (xnz (Or.inl rfl)) hlk hQ (Nat.le_of_ble_eq_true rfl) (Nat.le_of_ble_eq_true rfl) hS dX10_isValue_19 () ⟨_, rfl, (Or.inl rfl), (z_X10_isValue_2 p0.toInt x8.toInt c4 t8 c11)⟩ hh
    · refine lv_iconst (v := 1) hx hb dX10_isValue_14 (by decide) ?_
      refine lv_goto (tgt := 19) hx hb dX10_isValue_15 (by decide) ?_
      exact x_rz hx hb hr (xnz (Or.inr rfl)) hlk hQ (Nat.le_of_ble_eq_true rfl) (Nat.le_of_ble_eq_true rfl) hS dX10_isValue_19 () ⟨_, rfl, (Or.inr rfl), (z_X10_isValue_3 p0.toInt x8.toInt t8 c11)⟩ hh

theorem z_X6_place_1 (a0 : Int) (a1 : Int) (a2 : Int) (a3 : Int) (a4 : Int) (h0 : a2 = a0 * (3 : Int) ∨ a0 * (3 : Int) < -2147483648 ∨ 2147483648 ≤ a0 * (3 : Int)) (h1 : a3 = a2 + a1 ∨ a2 + a1 < -2147483648 ∨ 2147483648 ≤ a2 + a1) (h2 : a4 = a3 * (30 : Int) ∨ a3 * (30 : Int) < -2147483648 ∨ 2147483648 ≤ a3 * (30 : Int)) : 0 ≤ a0 ∧ a0 < 3 ∧ 0 ≤ a1 ∧ a1 < 3 → a4 = 90 * a0 + 30 * a1 := by omega
abbrev rm_X6_place : Room := { frames := 0, cells := 0, slots := 0, locals := 0 }
set_option maxHeartbeats 4000000 in
set_option maxRecDepth 100000 in
theorem c_X6_place (l : Launch) (E : XE) (K : Nat → Nat) (F : Nat → Nat → Nat) (G : XG) (h0 : Heap) (p0 : Int32) (p1 : Int32)  : Met l yX6_place (xw yX6_place cX6_place 2 (some .int)) rm_X6_place (va_Pc [.int p0, .int p1] (XPh E K F G h0)) (XQ E (fun v (u : Unit) => ∃ r : Int32, v = .int r ∧ (0 ≤ p0.toInt ∧ p0.toInt < 3 ∧ 0 ≤ p1.toInt ∧ p1.toInt < 3 → r.toInt = 90 * p0.toInt + 30 * p1.toInt)) (fun _ H => H = h0)) 0 0 (xA E) := by
  refine x_enter (by decide) (Nat.le_of_ble_eq_true rfl) ?_
  intro p e s m args below meth c Q S hr hlk hnm hQ hP ls hl
  obtain ⟨⟨hz, hK, hT⟩, hh⟩ := hP
  obtain ⟨hx, hb, -, -, -⟩ := id S
  have hS : va_S (xA E) s.heap s.heap [] := va_S.rf
  have hl : lv_has ls 2 [(0, .int p0), (1, .int p1)] := hl
  refine lv_iload_n hx hb dX6_place_0 rfl (lv_at hl 0 rfl) ?_
  refine lv_iconst (v := 3) hx hb dX6_place_1 (by decide) ?_
  refine xi_imul hx hb (rfl : Int32.toInt p0 = p0.toInt) ((by decide) : Int32.toInt 3 = (3 : Int)) dX6_place_2 (fun x2 t2 => ?_)
  refine lv_iload_n hx hb dX6_place_3 rfl (lv_at hl 1 rfl) ?_
  refine xi_iadd hx hb (rfl : Int32.toInt x2 = x2.toInt) (rfl : Int32.toInt p1 = p1.toInt) dX6_place_4 (fun x4 t4 => ?_)
  refine lv_bipush (v := 30) hx hb dX6_place_5 (by decide) ?_
  refine xi_imul hx hb (rfl : Int32.toInt x4 = x4.toInt) ((by decide) : Int32.toInt 30 = (30 : Int)) dX6_place_7 (fun x7 t7 => ?_)
  exact x_ri hx hb hr hlk hQ (Nat.le_of_ble_eq_true rfl) (Nat.le_of_ble_eq_true rfl) hS dX6_place_8 () ⟨_, rfl, (z_X6_place_1 p0.toInt p1.toInt x2.toInt x4.toInt x7.toInt t2 t4 t7)⟩ hh

theorem z_X6_cell_1 (a0 : Int) (a1 : Int) (a2 : Int) (a3 : Int) (a4 : Int) (h0 : (a3 = 1 ∧ 0 ≤ a0 ∧ a0 < 3) ∨ (a3 = 0 ∧ (a0 < 0 ∨ 3 ≤ a0))) (h1 : a3 = 0) (h2 : (¬ (0 ≤ a0 ∧ a0 < 3 ∧ 0 ≤ a1 ∧ a1 < 30 ∧ 0 ≤ a2 ∧ a2 < 3)) → a4 = -2000) : (-2000 : Int) = a4 := by omega
theorem z_X6_cell_2 (a0 : Int) (a1 : Int) (a2 : Int) (a3 : Int) (a4 : Int) (h0 : (a3 = 1 ∧ 0 ≤ a1 ∧ a1 < 30) ∨ (a3 = 0 ∧ (a1 < 0 ∨ 30 ≤ a1))) (h1 : a3 = 0) (h2 : (¬ (0 ≤ a0 ∧ a0 < 3 ∧ 0 ≤ a1 ∧ a1 < 30 ∧ 0 ≤ a2 ∧ a2 < 3)) → a4 = -2000) : (-2000 : Int) = a4 := by omega
theorem z_X6_cell_3 (a0 : Int) (a1 : Int) (a2 : Int) (a3 : Int) (a4 : Int) (h0 : (a3 = 1 ∧ 0 ≤ a2 ∧ a2 < 3) ∨ (a3 = 0 ∧ (a2 < 0 ∨ 3 ≤ a2))) (h1 : a3 = 0) (h2 : (¬ (0 ≤ a0 ∧ a0 < 3 ∧ 0 ≤ a1 ∧ a1 < 30 ∧ 0 ≤ a2 ∧ a2 < 3)) → a4 = -2000) : (-2000 : Int) = a4 := by omega
theorem z_X6_cell_4 (a0 : Int) (a1 : Int) (a2 : Int) (a3 : Int) (a4 : Int) (a5 : Int) (h0 : (a3 = 1 ∧ 0 ≤ a0 ∧ a0 < 3) ∨ (a3 = 0 ∧ (a0 < 0 ∨ 3 ≤ a0))) (h1 : ¬ (a3 = 0)) (h2 : (a5 = 1 ∧ 0 ≤ a1 ∧ a1 < 30) ∨ (a5 = 0 ∧ (a1 < 0 ∨ 30 ≤ a1))) (h3 : ¬ (a5 = 0)) (h4 : (a4 = 1 ∧ 0 ≤ a2 ∧ a2 < 3) ∨ (a4 = 0 ∧ (a2 < 0 ∨ 3 ≤ a2))) (h5 : ¬ (a4 = 0)) : 0 ≤ a0 ∧ a0 < 3 ∧ 0 ≤ a1 ∧ a1 < 30 ∧ 0 ≤ a2 ∧ a2 < 3 := by omega
theorem z_X6_cell_5 (a0 : Int) (a1 : Int) (a2 : Int) (a3 : Int) (a4 : Int) (a5 : Int) (h0 : (a3 = 1 ∧ 0 ≤ a0 ∧ a0 < 3) ∨ (a3 = 0 ∧ (a0 < 0 ∨ 3 ≤ a0))) (h1 : ¬ (a3 = 0)) (h2 : (a5 = 1 ∧ 0 ≤ a1 ∧ a1 < 30) ∨ (a5 = 0 ∧ (a1 < 0 ∨ 30 ≤ a1))) (h3 : ¬ (a5 = 0)) (h4 : (a4 = 1 ∧ 0 ≤ a2 ∧ a2 < 3) ∨ (a4 = 0 ∧ (a2 < 0 ∨ 3 ≤ a2))) (h5 : ¬ (a4 = 0)) : 0 ≤ 90 * a0 + 30 * a2 + a1 ∧ 90 * a0 + 30 * a2 + a1 < 270 := by omega
theorem z_X6_cell_6 (a0 : Int) (a1 : Int) (a2 : Int) (a3 : Int) (a4 : Int) (a5 : Int) (a6 : Int) (a7 : Int) (h0 : (a3 = 1 ∧ 0 ≤ a0 ∧ a0 < 3) ∨ (a3 = 0 ∧ (a0 < 0 ∨ 3 ≤ a0))) (h1 : ¬ (a3 = 0)) (h2 : (a7 = 1 ∧ 0 ≤ a1 ∧ a1 < 30) ∨ (a7 = 0 ∧ (a1 < 0 ∨ 30 ≤ a1))) (h3 : ¬ (a7 = 0)) (h4 : (a4 = 1 ∧ 0 ≤ a2 ∧ a2 < 3) ∨ (a4 = 0 ∧ (a2 < 0 ∨ 3 ≤ a2))) (h5 : ¬ (a4 = 0)) (h6 : 0 ≤ a0 ∧ a0 < 3 ∧ 0 ≤ a2 ∧ a2 < 3 → a5 = 90 * a0 + 30 * a2) (h7 : a6 = a5 + a1 ∨ a5 + a1 < -2147483648 ∨ 2147483648 ≤ a5 + a1) : 0 ≤ a6 ∧ a6 < ((270 : Nat) : Int) := by omega
theorem z_X6_cell_7 (a0 : Int) (a1 : Int) (a2 : Int) (a3 : Int) (a4 : Int) (a5 : Int) (a6 : Int) (a7 : Int) (h0 : (a3 = 1 ∧ 0 ≤ a0 ∧ a0 < 3) ∨ (a3 = 0 ∧ (a0 < 0 ∨ 3 ≤ a0))) (h1 : ¬ (a3 = 0)) (h2 : (a7 = 1 ∧ 0 ≤ a1 ∧ a1 < 30) ∨ (a7 = 0 ∧ (a1 < 0 ∨ 30 ≤ a1))) (h3 : ¬ (a7 = 0)) (h4 : (a4 = 1 ∧ 0 ≤ a2 ∧ a2 < 3) ∨ (a4 = 0 ∧ (a2 < 0 ∨ 3 ≤ a2))) (h5 : ¬ (a4 = 0)) (h6 : 0 ≤ a0 ∧ a0 < 3 ∧ 0 ≤ a2 ∧ a2 < 3 → a5 = 90 * a0 + 30 * a2) (h7 : a6 = a5 + a1 ∨ a5 + a1 < -2147483648 ∨ 2147483648 ≤ a5 + a1) : a6 = 90 * a0 + 30 * a2 + a1 := by omega
theorem z_X6_cell_8 (a0 : Int) (a1 : Int) (h0 : a1 = a0) : a0 = a1 := by omega
abbrev rm_X6_cell : Room := { frames := 1, cells := 0, slots := 0, locals := 21 }
set_option maxHeartbeats 4000000 in
set_option maxRecDepth 100000 in
theorem c_X6_cell (l : Launch) (E : XE) (K : Nat → Nat) (F : Nat → Nat → Nat) (G : XG) (h0 : Heap) (a : Nat) (p0 : Int32) (p1 : Int32) (p2 : Int32) (ha : K a = 8) : Met l yX6_cell (xw yX6_cell cX6_cell 4 (some .int)) rm_X6_cell (va_Pc [.ref a, .int p0, .int p1, .int p2] (XPh E K F G h0)) (XQ E (fun v (u : Unit) => ∃ r : Int32, v = .int r ∧ (r.toInt = (cel (vw (G.2.1 (F a 0))) (p0.toInt) (p1.toInt) (p2.toInt)))) (fun _ H => H = h0)) 0 0 (xA E) := by
  refine x_enter (by decide) (Nat.le_of_ble_eq_true rfl) ?_
  intro p e s m args below meth c Q S hr hlk hnm hQ hP ls hl
  obtain ⟨⟨hz, hK, hT⟩, hh⟩ := hP
  obtain ⟨hx, hb, -, -, -⟩ := id S
  have hS : va_S (xA E) s.heap s.heap [] := va_S.rf
  have hl : lv_has ls 4 [(0, .ref a), (1, .int p0), (2, .int p1), (3, .int p2)] := hl
  obtain ⟨hk9999, hj9999⟩ := fkX6_0 hT ha
  refine lv_iload_n hx hb dX6_cell_0 rfl (lv_at hl 1 rfl) ?_
  refine x_clp (x_runSN (As := [.int p0]) (rest := []) S (c_X10_isTable l E K F G s.heap p0) ms_X10_isTable (by decide +kernel) rfl rfl ⟨Nat.le_of_ble_eq_true rfl, Nat.le_of_ble_eq_true rfl⟩ hK (fun _ => XPh.blind) (fun U hU hW => XPh.at hK hz hS hT hU hW) rfl hl.1 (Nat.le_of_ble_eq_true rfl) dX6_cell_1 ⟨Nat.le_of_ble_eq_true rfl, Nat.le_of_ble_eq_true rfl⟩) hS ?_
  rintro _ _ locs ⟨x1, rfl, b1, t1⟩ hS
  have t1 : (x1.toInt = 1 ∧ 0 ≤ p0.toInt ∧ p0.toInt < 3) ∨ (x1.toInt = 0 ∧ (p0.toInt < 0 ∨ 3 ≤ p0.toInt)) := t1
  refine xi_zeq (tgt := 36) hx hb (rfl : Int32.toInt x1 = x1.toInt) dX6_cell_4 (by decide) (fun c4 => ?_) (fun c4 => ?_)
  · have z36 : (¬ (0 ≤ p0.toInt ∧ p0.toInt < 3 ∧ 0 ≤ p1.toInt ∧ p1.toInt < 30 ∧ 0 ≤ p2.toInt ∧ p2.toInt < 3)) → (cel (vw (G.2.1 (F a 0))) (p0.toInt) (p1.toInt) (p2.toInt)) = -2000 := fun h9 => cel_out h9
    refine lv_sipush (v := (-2000)) hx hb dX6_cell_36 (by decide) ?_
    exact x_ri hx hb hr hlk hQ (Nat.le_of_ble_eq_true rfl) (Nat.le_of_ble_eq_true rfl) hS dX6_cell_39 () ⟨_, rfl, (by rw [((by decide) : Int32.toInt (-2000) = (-2000 : Int))] <;> exact (z_X6_cell_1 p0.toInt p1.toInt p2.toInt x1.toInt (cel (vw (G.2.1 (F a 0))) (p0.toInt) (p1.toInt) (p2.toInt)) t1 c4 z36))⟩ hh
  · refine lv_iload_n hx hb dX6_cell_7 rfl (lv_at hl 2 rfl) ?_
    refine x_clp (x_runSN (As := [.int p1]) (rest := []) S (c_X10_isKey l E K F G s.heap p1) ms_X10_isKey (by decide +kernel) rfl rfl ⟨Nat.le_of_ble_eq_true rfl, Nat.le_of_ble_eq_true rfl⟩ hK (fun _ => XPh.blind) (fun U hU hW => XPh.at hK hz hS hT hU hW) rfl hl.1 (Nat.le_of_ble_eq_true rfl) dX6_cell_8 ⟨Nat.le_of_ble_eq_true rfl, Nat.le_of_ble_eq_true rfl⟩) hS ?_
    rintro _ _ locs ⟨x8, rfl, b8, t8⟩ hS
    have t8 : (x8.toInt = 1 ∧ 0 ≤ p1.toInt ∧ p1.toInt < 30) ∨ (x8.toInt = 0 ∧ (p1.toInt < 0 ∨ 30 ≤ p1.toInt)) := t8
    refine xi_zeq (tgt := 36) hx hb (rfl : Int32.toInt x8 = x8.toInt) dX6_cell_11 (by decide) (fun c11 => ?_) (fun c11 => ?_)
    · have z36 : (¬ (0 ≤ p0.toInt ∧ p0.toInt < 3 ∧ 0 ≤ p1.toInt ∧ p1.toInt < 30 ∧ 0 ≤ p2.toInt ∧ p2.toInt < 3)) → (cel (vw (G.2.1 (F a 0))) (p0.toInt) (p1.toInt) (p2.toInt)) = -2000 := fun h9 => cel_out h9
      refine lv_sipush (v := (-2000)) hx hb dX6_cell_36 (by decide) ?_
      exact x_ri hx hb hr hlk hQ (Nat.le_of_ble_eq_true rfl) (Nat.le_of_ble_eq_true rfl) hS dX6_cell_39 () ⟨_, rfl, (by rw [((by decide) : Int32.toInt (-2000) = (-2000 : Int))] <;> exact (z_X6_cell_2 p0.toInt p1.toInt p2.toInt x8.toInt (cel (vw (G.2.1 (F a 0))) (p0.toInt) (p1.toInt) (p2.toInt)) t8 c11 z36))⟩ hh
    · refine lv_iload_n hx hb dX6_cell_14 rfl (lv_at hl 3 rfl) ?_
      refine x_clp (x_runSN (As := [.int p2]) (rest := []) S (c_X10_isColumn l E K F G s.heap p2) ms_X10_isColumn (by decide +kernel) rfl rfl ⟨Nat.le_of_ble_eq_true rfl, Nat.le_of_ble_eq_true rfl⟩ hK (fun _ => XPh.blind) (fun U hU hW => XPh.at hK hz hS hT hU hW) rfl hl.1 (Nat.le_of_ble_eq_true rfl) dX6_cell_15 ⟨Nat.le_of_ble_eq_true rfl, Nat.le_of_ble_eq_true rfl⟩) hS ?_
      rintro _ _ locs ⟨x15, rfl, b15, t15⟩ hS
      have t15 : (x15.toInt = 1 ∧ 0 ≤ p2.toInt ∧ p2.toInt < 3) ∨ (x15.toInt = 0 ∧ (p2.toInt < 0 ∨ 3 ≤ p2.toInt)) := t15
      refine xi_zeq (tgt := 36) hx hb (rfl : Int32.toInt x15 = x15.toInt) dX6_cell_18 (by decide) (fun c18 => ?_) (fun c18 => ?_)
      · have z36 : (¬ (0 ≤ p0.toInt ∧ p0.toInt < 3 ∧ 0 ≤ p1.toInt ∧ p1.toInt < 30 ∧ 0 ≤ p2.toInt ∧ p2.toInt < 3)) → (cel (vw (G.2.1 (F a 0))) (p0.toInt) (p1.toInt) (p2.toInt)) = -2000 := fun h9 => cel_out h9
        refine lv_sipush (v := (-2000)) hx hb dX6_cell_36 (by decide) ?_
        exact x_ri hx hb hr hlk hQ (Nat.le_of_ble_eq_true rfl) (Nat.le_of_ble_eq_true rfl) hS dX6_cell_39 () ⟨_, rfl, (by rw [((by decide) : Int32.toInt (-2000) = (-2000 : Int))] <;> exact (z_X6_cell_3 p0.toInt p1.toInt p2.toInt x15.toInt (cel (vw (G.2.1 (F a 0))) (p0.toInt) (p1.toInt) (p2.toInt)) t15 c18 z36))⟩ hh
      · refine lv_aload_n hx hb dX6_cell_21 rfl (lv_at hl 0 rfl) ?_
        refine gX6_0 S hK hT ha kf_X6_9 dX6_cell_22 (fun _ _ => ?_)
        refine lv_iload_n hx hb dX6_cell_25 rfl (lv_at hl 1 rfl) ?_
        refine lv_iload_n hx hb dX6_cell_26 rfl (lv_at hl 3 rfl) ?_
        refine x_clp (x_runS (As := [.int p0, .int p2]) (rest := [.ref (F a 0)]) S (c_X6_place l E K F G s.heap p0 p2) ms_X6_place km_X6_34 rfl rfl ⟨Nat.le_of_ble_eq_true rfl, Nat.le_of_ble_eq_true rfl⟩ hK (fun _ => XPh.blind) (fun U hU hW => XPh.at hK hz hS hT hU hW) rfl hl.1 (Nat.le_of_ble_eq_true rfl) dX6_cell_27 ⟨Nat.le_of_ble_eq_true rfl, Nat.le_of_ble_eq_true rfl⟩) hS ?_
        rintro _ _ locs ⟨x27, rfl, t27⟩ hS
        have t27 : 0 ≤ p0.toInt ∧ p0.toInt < 3 ∧ 0 ≤ p2.toInt ∧ p2.toInt < 3 → x27.toInt = 90 * p0.toInt + 30 * p2.toInt := t27
        refine lv_iload_n hx hb dX6_cell_30 rfl (lv_at hl 2 rfl) ?_
        refine xi_iadd hx hb (rfl : Int32.toInt x27 = x27.toInt) (rfl : Int32.toInt p1 = p1.toInt) dX6_cell_31 (fun x31 t31 => ?_)
        have z32 : (cel (vw (G.2.1 (F a 0))) (p0.toInt) (p1.toInt) (p2.toInt)) = (aI (G.2.1 (F a 0)) (90 * p0.toInt + 30 * p2.toInt + p1.toInt)) := (cel_in (z_X6_cell_4 p0.toInt p1.toInt p2.toInt x1.toInt x15.toInt x8.toInt t1 c4 t8 c11 t15 c18)).trans (vw_in (z_X6_cell_5 p0.toInt p1.toInt p2.toInt x1.toInt x15.toInt x8.toInt t1 c4 t8 c11 t15 c18))
        refine al_0 S hK hT hk9999 ar_20 (by decide) (z_X6_cell_6 p0.toInt p1.toInt p2.toInt x1.toInt x15.toInt x27.toInt x31.toInt x8.toInt t1 c4 t8 c11 t15 c18 t27 t31) dX6_cell_32 (fun x32 hv32 o32 => ?_)
        have hv32 : x32.toInt = (aI (G.2.1 (F a 0)) (90 * p0.toInt + 30 * p2.toInt + p1.toInt)) := hv32.trans (by rw [((rfl : Int32.toInt x31 = x31.toInt).trans (z_X6_cell_7 p0.toInt p1.toInt p2.toInt x1.toInt x15.toInt x27.toInt x31.toInt x8.toInt t1 c4 t8 c11 t15 c18 t27 t31))])
        refine lv_goto (tgt := 39) hx hb dX6_cell_33 (by decide) ?_
        exact x_ri hx hb hr hlk hQ (Nat.le_of_ble_eq_true rfl) (Nat.le_of_ble_eq_true rfl) hS dX6_cell_39 () ⟨_, rfl, (by rw [(hv32 : Int32.toInt x32 = (aI (G.2.1 (F a 0)) (90 * p0.toInt + 30 * p2.toInt + p1.toInt)))] <;> exact (z_X6_cell_8 (aI (G.2.1 (F a 0)) (90 * p0.toInt + 30 * p2.toInt + p1.toInt)) (cel (vw (G.2.1 (F a 0))) (p0.toInt) (p1.toInt) (p2.toInt)) z32))⟩ hh

theorem z_X6_has_1 (a0 : Int) (a1 : Int) (a2 : Int) (a3 : Int) (h0 : (a2 = 1 ∧ 0 ≤ a0 ∧ a0 < 3) ∨ (a2 = 0 ∧ (a0 < 0 ∨ 3 ≤ a0))) (h1 : a2 = 0) (h2 : (¬ (0 ≤ a0 ∧ a0 < 3 ∧ 0 ≤ a1 ∧ a1 < 30)) → a3 = -2000) : ((0 : Int) = 1 ∧ a3 ≠ -2000) ∨ ((0 : Int) = 0 ∧ a3 = -2000) := by omega
theorem z_X6_has_2 (a0 : Int) (a1 : Int) (a2 : Int) (a3 : Int) (h0 : (a2 = 1 ∧ 0 ≤ a1 ∧ a1 < 30) ∨ (a2 = 0 ∧ (a1 < 0 ∨ 30 ≤ a1))) (h1 : a2 = 0) (h2 : (¬ (0 ≤ a0 ∧ a0 < 3 ∧ 0 ≤ a1 ∧ a1 < 30)) → a3 = -2000) : ((0 : Int) = 1 ∧ a3 ≠ -2000) ∨ ((0 : Int) = 0 ∧ a3 = -2000) := by omega
theorem z_X6_has_3 (a0 : Int) (a1 : Int) (h0 : (a1 = 1 ∧ 0 ≤ a0 ∧ a0 < 3) ∨ (a1 = 0 ∧ (a0 < 0 ∨ 3 ≤ a0))) (h1 : ¬ (a1 = 0)) : 0 ≤ a0 ∧ a0 < ((3 : Nat) : Int) := by omega
theorem z_X6_has_4 (a0 : Int) (a1 : Int) (h0 : (a1 = 1 ∧ 0 ≤ a0 ∧ a0 < 30) ∨ (a1 = 0 ∧ (a0 < 0 ∨ 30 ≤ a0))) (h1 : ¬ (a1 = 0)) : 0 ≤ a0 ∧ a0 < 32 := by omega
theorem z_X6_has_6 (a0 : Int) (a1 : Int) (a2 : Int) (a3 : Int) (h0 : (a2 = 1 ∧ 0 ≤ a0 ∧ a0 < 3) ∨ (a2 = 0 ∧ (a0 < 0 ∨ 3 ≤ a0))) (h1 : ¬ (a2 = 0)) (h2 : (a3 = 1 ∧ 0 ≤ a1 ∧ a1 < 30) ∨ (a3 = 0 ∧ (a1 < 0 ∨ 30 ≤ a1))) (h3 : ¬ (a3 = 0)) : 0 ≤ a0 ∧ a0 < 3 ∧ 0 ≤ a1 ∧ a1 < 30 := by omega
theorem z_X6_has_7 (a0 : Int) (a1 : Int) (h0 : (a0 = 1 ∧ a1 ≠ -2000) ∨ (a0 = 0 ∧ a1 = -2000)) (h1 : a0 = 0) : ((0 : Int) = 1 ∧ a1 ≠ -2000) ∨ ((0 : Int) = 0 ∧ a1 = -2000) := by omega
theorem z_X6_has_8 (a0 : Int) (a1 : Int) (h0 : (a0 = 1 ∧ a1 ≠ -2000) ∨ (a0 = 0 ∧ a1 = -2000)) (h1 : ¬ (a0 = 0)) : ((1 : Int) = 1 ∧ a1 ≠ -2000) ∨ ((1 : Int) = 0 ∧ a1 = -2000) := by omega
abbrev rm_X6_has : Room := { frames := 1, cells := 0, slots := 0, locals := 20 }
set_option maxHeartbeats 4000000 in
set_option maxRecDepth 100000 in
theorem c_X6_has (l : Launch) (E : XE) (K : Nat → Nat) (F : Nat → Nat → Nat) (G : XG) (h0 : Heap) (a : Nat) (p0 : Int32) (p1 : Int32) (ha : K a = 8) (hro : RO (vw (G.2.1 (F a 0))) (aI (G.2.1 (F a 1)))) : Met l yX6_has (xw yX6_has cX6_has 3 (some .boolean)) rm_X6_has (va_Pc [.ref a, .int p0, .int p1] (XPh E K F G h0)) (XQ E (fun v (u : Unit) => ∃ r : Int32, v = .int r ∧ (r = 0 ∨ r = 1) ∧ ((r.toInt = 1 ∧ (cel (vw (G.2.1 (F a 0))) (p0.toInt) (p1.toInt) 0) ≠ -2000) ∨ (r.toInt = 0 ∧ (cel (vw (G.2.1 (F a 0))) (p0.toInt) (p1.toInt) 0) = -2000))) (fun _ H => H = h0)) 0 0 (xA E) := by
  refine x_enter (by decide) (Nat.le_of_ble_eq_true rfl) ?_
  intro p e s m args below meth c Q S hr hlk hnm hQ hP ls hl
  obtain ⟨⟨hz, hK, hT⟩, hh⟩ := hP
  obtain ⟨hx, hb, -, -, -⟩ := id S
  have hS : va_S (xA E) s.heap s.heap [] := va_S.rf
  have hl : lv_has ls 3 [(0, .ref a), (1, .int p0), (2, .int p1)] := hl
  obtain ⟨hk9999, hj9999⟩ := fkX6_0 hT ha
  obtain ⟨hk9999a, hj9999a⟩ := fkX6_1 hT ha
  refine lv_iload_n hx hb dX6_has_0 rfl (lv_at hl 1 rfl) ?_
  refine x_clp (x_runSN (As := [.int p0]) (rest := []) S (c_X10_isTable l E K F G s.heap p0) ms_X10_isTable (by decide +kernel) rfl rfl ⟨Nat.le_of_ble_eq_true rfl, Nat.le_of_ble_eq_true rfl⟩ hK (fun _ => XPh.blind) (fun U hU hW => XPh.at hK hz hS hT hU hW) rfl hl.1 (Nat.le_of_ble_eq_true rfl) dX6_has_1 ⟨Nat.le_of_ble_eq_true rfl, Nat.le_of_ble_eq_true rfl⟩) hS ?_
  rintro _ _ locs ⟨x1, rfl, b1, t1⟩ hS
  have t1 : (x1.toInt = 1 ∧ 0 ≤ p0.toInt ∧ p0.toInt < 3) ∨ (x1.toInt = 0 ∧ (p0.toInt < 0 ∨ 3 ≤ p0.toInt)) := t1
  refine xi_zeq (tgt := 31) hx hb (rfl : Int32.toInt x1 = x1.toInt) dX6_has_4 (by decide) (fun c4 => ?_) (fun c4 => ?_)
  · have z31 : (¬ (0 ≤ p0.toInt ∧ p0.toInt < 3 ∧ 0 ≤ p1.toInt ∧ p1.toInt < 30)) → (cel (vw (G.2.1 (F a 0))) (p0.toInt) (p1.toInt) 0) = -2000 := fun h9 => cel_out (by omega)
    refine lv_iconst (v := 0) hx hb dX6_has_31 (by decide) ?_
    exact x_rz hx hb hr (xnz (Or.inl rfl)) hlk hQ (Nat.le_of_ble_eq_true rfl) (Nat.le_of_ble_eq_true rfl) hS dX6_has_32 () ⟨_, rfl, (Or.inl rfl), (z_X6_has_1 p0.toInt p1.toInt x1.toInt (cel (vw (G.2.1 (F a 0))) (p0.toInt) (p1.toInt) 0) t1 c4 z31)⟩ hh
  · refine lv_iload_n hx hb dX6_has_7 rfl (lv_at hl 2 rfl) ?_
    refine x_clp (x_runSN (As := [.int p1]) (rest := []) S (c_X10_isKey l E K F G s.heap p1) ms_X10_isKey (by decide +kernel) rfl rfl ⟨Nat.le_of_ble_eq_true rfl, Nat.le_of_ble_eq_true rfl⟩ hK (fun _ => XPh.blind) (fun U hU hW => XPh.at hK hz hS hT hU hW) rfl hl.1 (Nat.le_of_ble_eq_true rfl) dX6_has_8 ⟨Nat.le_of_ble_eq_true rfl, Nat.le_of_ble_eq_true rfl⟩) hS ?_
    rintro _ _ locs ⟨x8, rfl, b8, t8⟩ hS
    have t8 : (x8.toInt = 1 ∧ 0 ≤ p1.toInt ∧ p1.toInt < 30) ∨ (x8.toInt = 0 ∧ (p1.toInt < 0 ∨ 30 ≤ p1.toInt)) := t8
    refine xi_zeq (tgt := 31) hx hb (rfl : Int32.toInt x8 = x8.toInt) dX6_has_11 (by decide) (fun c11 => ?_) (fun c11 => ?_)
    · have z31 : (¬ (0 ≤ p0.toInt ∧ p0.toInt < 3 ∧ 0 ≤ p1.toInt ∧ p1.toInt < 30)) → (cel (vw (G.2.1 (F a 0))) (p0.toInt) (p1.toInt) 0) = -2000 := fun h9 => cel_out (by omega)
      refine lv_iconst (v := 0) hx hb dX6_has_31 (by decide) ?_
      exact x_rz hx hb hr (xnz (Or.inl rfl)) hlk hQ (Nat.le_of_ble_eq_true rfl) (Nat.le_of_ble_eq_true rfl) hS dX6_has_32 () ⟨_, rfl, (Or.inl rfl), (z_X6_has_2 p0.toInt p1.toInt x8.toInt (cel (vw (G.2.1 (F a 0))) (p0.toInt) (p1.toInt) 0) t8 c11 z31)⟩ hh
    · refine lv_aload_n hx hb dX6_has_14 rfl (lv_at hl 0 rfl) ?_
      refine gX6_1 S hK hT ha kf_X6_15 dX6_has_15 (fun _ _ => ?_)
      refine lv_iload_n hx hb dX6_has_18 rfl (lv_at hl 1 rfl) ?_
      refine al_0 S hK hT hk9999a ar_21 (by decide) (z_X6_has_3 p0.toInt x1.toInt t1 c4) dX6_has_19 (fun x19 hv19 o19 => ?_)
      have hv19 : x19.toInt = (aI (G.2.1 (F a 1)) (p0.toInt)) := hv19.trans (by rw [(rfl : Int32.toInt p0 = p0.toInt)])
      refine lv_iload_n hx hb dX6_has_20 rfl (lv_at hl 2 rfl) ?_
      refine lv_ishr hx hb dX6_has_21 (lv_topi (fun x21 he21 => ?_))
      refine lv_iconst (v := 1) hx hb dX6_has_22 (by decide) ?_
      refine lv_iand hx hb dX6_has_23 (lv_topi (fun x23 he23 => ?_))
      have hb23 : x23.toInt = (bI (aI (G.2.1 (F a 1)) (p0.toInt)) (p1.toInt)) := bI_and he21 he23 (hv19 : Int32.toInt x19 = (aI (G.2.1 (F a 1)) (p0.toInt))) (rfl : Int32.toInt p1 = p1.toInt) (z_X6_has_4 p1.toInt x8.toInt t8 c11)
      have hb23a : x23.toInt = 0 ∨ x23.toInt = 1 := by rw [hb23]; exact bI01 _ _
      have z24 : (x23.toInt = 1 ∧ (cel (vw (G.2.1 (F a 0))) (p0.toInt) (p1.toInt) 0) ≠ -2000) ∨ (x23.toInt = 0 ∧ (cel (vw (G.2.1 (F a 0))) (p0.toInt) (p1.toInt) 0) = -2000) := RO.has hro (hb23) (z_X6_has_6 p0.toInt p1.toInt x1.toInt x8.toInt t1 c4 t8 c11)
      refine xi_zeq (tgt := 31) hx hb (rfl : Int32.toInt x23 = x23.toInt) dX6_has_24 (by decide) (fun c24 => ?_) (fun c24 => ?_)
      · have z31 : (¬ (0 ≤ p0.toInt ∧ p0.toInt < 3 ∧ 0 ≤ p1.toInt ∧ p1.toInt < 30)) → (cel (vw (G.2.1 (F a 0))) (p0.toInt) (p1.toInt) 0) = -2000 := fun h9 => cel_out (by omega)
        refine lv_iconst (v := 0) hx hb dX6_has_31 (by decide) ?_
        exact x_rz hx hb hr (xnz (Or.inl rfl)) hlk hQ (Nat.le_of_ble_eq_true rfl) (Nat.le_of_ble_eq_true rfl) hS dX6_has_32 () ⟨_, rfl, (Or.inl rfl), (z_X6_has_7 x23.toInt (cel (vw (G.2.1 (F a 0))) (p0.toInt) (p1.toInt) 0) z24 c24)⟩ hh
      · refine lv_iconst (v := 1) hx hb dX6_has_27 (by decide) ?_
        refine lv_goto (tgt := 32) hx hb dX6_has_28 (by decide) ?_
        exact x_rz hx hb hr (xnz (Or.inr rfl)) hlk hQ (Nat.le_of_ble_eq_true rfl) (Nat.le_of_ble_eq_true rfl) hS dX6_has_32 () ⟨_, rfl, (Or.inr rfl), (z_X6_has_8 x23.toInt (cel (vw (G.2.1 (F a 0))) (p0.toInt) (p1.toInt) 0) z24 c24)⟩ hh

theorem z_X6_keyBits_1 (a0 : Int) (a1 : Int) (a2 : Int) (h0 : (a1 = 1 ∧ 0 ≤ a0 ∧ a0 < 3) ∨ (a1 = 0 ∧ (a0 < 0 ∨ 3 ≤ a0))) (h1 : a1 = 0) : (0 ≤ a0 ∧ a0 < 3 ∧ (0 : Int) = a2) ∨ ((a0 < 0 ∨ 3 ≤ a0) ∧ (0 : Int) = 0) := by omega
theorem z_X6_keyBits_3 (a0 : Int) (a1 : Int) (a2 : Int) (h0 : (a1 = 1 ∧ 0 ≤ a0 ∧ a0 < 3) ∨ (a1 = 0 ∧ (a0 < 0 ∨ 3 ≤ a0))) (h1 : ¬ (a1 = 0)) : (0 ≤ a0 ∧ a0 < 3 ∧ a2 = a2) ∨ ((a0 < 0 ∨ 3 ≤ a0) ∧ a2 = 0) := by omega
abbrev rm_X6_keyBits : Room := { frames := 1, cells := 0, slots := 0, locals := 20 }
set_option maxHeartbeats 4000000 in
set_option maxRecDepth 100000 in
theorem c_X6_keyBits (l : Launch) (E : XE) (K : Nat → Nat) (F : Nat → Nat → Nat) (G : XG) (h0 : Heap) (a : Nat) (p0 : Int32) (ha : K a = 8) : Met l yX6_keyBits (xw yX6_keyBits cX6_keyBits 2 (some .int)) rm_X6_keyBits (va_Pc [.ref a, .int p0] (XPh E K F G h0)) (XQ E (fun v (u : Unit) => ∃ r : Int32, v = .int r ∧ ((0 ≤ p0.toInt ∧ p0.toInt < 3 ∧ r.toInt = (aI (G.2.1 (F a 1)) (p0.toInt))) ∨ ((p0.toInt < 0 ∨ 3 ≤ p0.toInt) ∧ r.toInt = 0))) (fun _ H => H = h0)) 0 0 (xA E) := by
  refine x_enter (by decide) (Nat.le_of_ble_eq_true rfl) ?_
  intro p e s m args below meth c Q S hr hlk hnm hQ hP ls hl
  obtain ⟨⟨hz, hK, hT⟩, hh⟩ := hP
  obtain ⟨hx, hb, -, -, -⟩ := id S
  have hS : va_S (xA E) s.heap s.heap [] := va_S.rf
  have hl : lv_has ls 2 [(0, .ref a), (1, .int p0)] := hl
  obtain ⟨hk9999, hj9999⟩ := fkX6_1 hT ha
  refine lv_iload_n hx hb dX6_keyBits_0 rfl (lv_at hl 1 rfl) ?_
  refine x_clp (x_runSN (As := [.int p0]) (rest := []) S (c_X10_isTable l E K F G s.heap p0) ms_X10_isTable (by decide +kernel) rfl rfl ⟨Nat.le_of_ble_eq_true rfl, Nat.le_of_ble_eq_true rfl⟩ hK (fun _ => XPh.blind) (fun U hU hW => XPh.at hK hz hS hT hU hW) rfl hl.1 (Nat.le_of_ble_eq_true rfl) dX6_keyBits_1 ⟨Nat.le_of_ble_eq_true rfl, Nat.le_of_ble_eq_true rfl⟩) hS ?_
  rintro _ _ locs ⟨x1, rfl, b1, t1⟩ hS
  have t1 : (x1.toInt = 1 ∧ 0 ≤ p0.toInt ∧ p0.toInt < 3) ∨ (x1.toInt = 0 ∧ (p0.toInt < 0 ∨ 3 ≤ p0.toInt)) := t1
  refine xi_zeq (tgt := 16) hx hb (rfl : Int32.toInt x1 = x1.toInt) dX6_keyBits_4 (by decide) (fun c4 => ?_) (fun c4 => ?_)
  · refine lv_iconst (v := 0) hx hb dX6_keyBits_16 (by decide) ?_
    exact x_ri hx hb hr hlk hQ (Nat.le_of_ble_eq_true rfl) (Nat.le_of_ble_eq_true rfl) hS dX6_keyBits_17 () ⟨_, rfl, (z_X6_keyBits_1 p0.toInt x1.toInt (aI (G.2.1 (F a 1)) (p0.toInt)) t1 c4)⟩ hh
  · refine lv_aload_n hx hb dX6_keyBits_7 rfl (lv_at hl 0 rfl) ?_
    refine gX6_1 S hK hT ha kf_X6_15 dX6_keyBits_8 (fun _ _ => ?_)
    refine lv_iload_n hx hb dX6_keyBits_11 rfl (lv_at hl 1 rfl) ?_
    refine al_0 S hK hT hk9999 ar_21 (by decide) (z_X6_has_3 p0.toInt x1.toInt t1 c4) dX6_keyBits_12 (fun x12 hv12 o12 => ?_)
    have hv12 : x12.toInt = (aI (G.2.1 (F a 1)) (p0.toInt)) := hv12.trans (by rw [(rfl : Int32.toInt p0 = p0.toInt)])
    refine lv_goto (tgt := 17) hx hb dX6_keyBits_13 (by decide) ?_
    exact x_ri hx hb hr hlk hQ (Nat.le_of_ble_eq_true rfl) (Nat.le_of_ble_eq_true rfl) hS dX6_keyBits_17 () ⟨_, rfl, (by rw [(hv12 : Int32.toInt x12 = (aI (G.2.1 (F a 1)) (p0.toInt)))] <;> exact (z_X6_keyBits_3 p0.toInt x1.toInt (aI (G.2.1 (F a 1)) (p0.toInt)) t1 c4))⟩ hh

theorem z_X6_having_1 (a0 : Int) (a1 : Int) (a2 : Int) (h0 : 0 ≤ a0 ∧ a0 < 3 ∧ 0 ≤ a1 ∧ a1 < 3) (h1 : (a2 = 1 ∧ 0 ≤ a0 ∧ a0 < 3) ∨ (a2 = 0 ∧ (a0 < 0 ∨ 3 ≤ a0))) (h2 : a2 = 0) : (0 : Int) = 1 ∧ a2 = a2 := by omega
theorem z_X6_having_2 (a0 : Int) (h0 : 0 ≤ a0 ∧ a0 ≤ 30) : ¬ (2147483648 - a0 < ((0 : Nat) : Int)) := by omega
theorem z_X6_having_3 (a0 : Int) (a1 : Int) (a2 : Int) (a3 : Int) (h0 : a0 = a2) (h1 : 0 ≤ a1 ∧ a1 ≤ 30) (h2 : (30 : Int) ≤ a1) (h3 : a1 = 30 → a2 = a3) : a0 = a3 := by omega
theorem z_X6_having_4 (a0 : Int) (a1 : Int) (a2 : Int) (a3 : Int) (a4 : Int) (a5 : Int) (h0 : 0 ≤ a2 ∧ a2 < 3 ∧ 0 ≤ a3 ∧ a3 < 3) (h1 : 0 ≤ a2 ∧ a2 < 3 ∧ 0 ≤ a3 ∧ a3 < 3 → a4 = 90 * a2 + 30 * a3) (h2 : 0 ≤ a0 ∧ a0 ≤ a1) (h3 : ¬ ((30 : Int) ≤ a1)) (h4 : a5 = a4 + a1 ∨ a4 + a1 < -2147483648 ∨ 2147483648 ≤ a4 + a1) : 0 ≤ a5 ∧ a5 < ((270 : Nat) : Int) := by omega
theorem z_X6_having_5 (a0 : Int) (a1 : Int) (a2 : Int) (a3 : Int) (a4 : Int) (a5 : Int) (h0 : 0 ≤ a2 ∧ a2 < 3 ∧ 0 ≤ a3 ∧ a3 < 3) (h1 : 0 ≤ a2 ∧ a2 < 3 ∧ 0 ≤ a3 ∧ a3 < 3 → a4 = 90 * a2 + 30 * a3) (h2 : 0 ≤ a0 ∧ a0 ≤ a1) (h3 : ¬ ((30 : Int) ≤ a1)) (h4 : a5 = a4 + a1 ∨ a4 + a1 < -2147483648 ∨ 2147483648 ≤ a4 + a1) : a5 = (90 * a2 + 30 * a3) + a1 := by omega
theorem z_X6_having_6 (a0 : Int) (h0 : 0 ≤ a0 ∧ a0 ≤ 30) : 0 ≤ a0 := by omega
theorem z_X6_having_7 (a0 : Int) (a1 : Int) (a2 : Int) (a3 : Int) (h0 : 0 ≤ a2 ∧ a2 < 3 ∧ 0 ≤ a3 ∧ a3 < 3) (h1 : 0 ≤ a0 ∧ a0 ≤ a1) (h2 : ¬ ((30 : Int) ≤ a1)) : 0 ≤ (90 * a2 + 30 * a3) + a1 ∧ (90 * a2 + 30 * a3) + a1 < 270 := by omega
theorem z_X6_having_8 (a0 : Int) (a1 : Int) (h0 : 0 ≤ a0 ∧ a0 ≤ 30) (h1 : a1 = (a0 + 1) ∨ (a0 + 1) < -2147483648 ∨ 2147483648 ≤ (a0 + 1)) : a1 = (a0 + 1) := by omega
theorem z_X6_having_9 (a0 : Int) (a1 : Int) (a2 : Int) (a3 : Int) (a4 : Int) (h0 : a0 = a4) (h1 : a2 ≠ a1 → a3 = a4) (h2 : a2 ≠ a1) : a0 = a3 := by omega
theorem z_X6_having_10 (a0 : Int) (h0 : 0 ≤ a0 ∧ a0 ≤ 30) (h1 : ¬ ((30 : Int) ≤ a0)) : 0 ≤ (a0 + 1) ∧ (a0 + 1) ≤ 30 := by omega
theorem z_X6_having_11 (a0 : Int) (a1 : Int) (h0 : 0 ≤ a0 ∧ a0 ≤ a1) : 0 ≤ a0 ∧ a0 ≤ (a1 + 1) := by omega
theorem z_X6_having_12 (a0 : Int) (h0 : 0 ≤ a0 ∧ a0 ≤ 30) : (0 : Int) ≤ (a0 + 1) := by omega
theorem z_X6_having_13 (a0 : Int) (a1 : Nat) (h0 : 2147483648 - a0 < ((a1 + 1 : Nat) : Int)) : 2147483648 - (a0 + 1) < ((a1 : Nat) : Int) := by omega
theorem z_X6_having_14 (a0 : Int) (a1 : Int) (a2 : Int) (h0 : 0 ≤ a0 ∧ a0 ≤ a1) (h1 : ¬ ((30 : Int) ≤ a1)) (h2 : a2 = (a0 + 1) ∨ (a0 + 1) < -2147483648 ∨ 2147483648 ≤ (a0 + 1)) : a2 = (a0 + 1) := by omega
theorem z_X6_having_16 (a0 : Int) (a1 : Int) (a2 : Int) (a3 : Int) (a4 : Int) (h0 : a0 = a4) (h1 : a2 = a1 → a3 = a4 + 1) (h2 : ¬ (a2 ≠ a1)) : (a0 + 1) = a3 := by omega
theorem z_X6_having_18 (a0 : Int) (a1 : Int) (h0 : 0 ≤ a0 ∧ a0 ≤ a1) : 0 ≤ (a0 + 1) ∧ (a0 + 1) ≤ (a1 + 1) := by omega
theorem z_X6_having_21 (a0 : Int) (h0 : a0 = 0) : (0 : Int) = a0 := by omega
theorem z_X6_having_22 (a0 : Int) (a1 : Int) (a2 : Int) (h0 : 0 ≤ a0 ∧ a0 < 3 ∧ 0 ≤ a1 ∧ a1 < 3) (h1 : (a2 = 1 ∧ 0 ≤ a1 ∧ a1 < 3) ∨ (a2 = 0 ∧ (a1 < 0 ∨ 3 ≤ a1))) (h2 : ¬ (a2 ≠ 0)) : (0 : Int) = 1 ∧ a2 = a2 := by omega
abbrev rm_X6_having : Room := { frames := 1, cells := 0, slots := 0, locals := 21 }
set_option maxHeartbeats 4000000 in
set_option maxRecDepth 100000 in
theorem c_X6_having (l : Launch) (E : XE) (K : Nat → Nat) (F : Nat → Nat → Nat) (G : XG) (h0 : Heap) (a : Nat) (p0 : Int32) (p1 : Int32) (p2 : Int32) (ha : K a = 8) (e0 : 0 ≤ p0.toInt ∧ p0.toInt < 3 ∧ 0 ≤ p1.toInt ∧ p1.toInt < 3) : Met l yX6_having (xw yX6_having cX6_having 7 (some .int)) rm_X6_having (va_Pc [.ref a, .int p0, .int p1, .int p2] (XPh E K F G h0)) (XQ E (fun v (u : Unit) => ∃ r : Int32, v = .int r ∧ (r.toInt = (hv (vw (G.2.1 (F a 0))) (90 * p0.toInt + 30 * p1.toInt) (p2.toInt) 30))) (fun _ H => H = h0)) 0 0 (xA E) := by
  refine x_enter (by decide) (Nat.le_of_ble_eq_true rfl) ?_
  intro p e s m args below meth c Q S hr hlk hnm hQ hP ls hl
  obtain ⟨⟨hz, hK, hT⟩, hh⟩ := hP
  obtain ⟨hx, hb, -, -, -⟩ := id S
  have hS : va_S (xA E) s.heap s.heap [] := va_S.rf
  have hl : lv_has ls 7 [(0, .ref a), (1, .int p0), (2, .int p1), (3, .int p2)] := hl
  obtain ⟨hk9999, hj9999⟩ := fkX6_0 hT ha
  refine lv_iload_n hx hb dX6_having_0 rfl (lv_at hl 1 rfl) ?_
  refine x_clp (x_runSN (As := [.int p0]) (rest := []) S (c_X10_isTable l E K F G s.heap p0) ms_X10_isTable (by decide +kernel) rfl rfl ⟨Nat.le_of_ble_eq_true rfl, Nat.le_of_ble_eq_true rfl⟩ hK (fun _ => XPh.blind) (fun U hU hW => XPh.at hK hz hS hT hU hW) rfl hl.1 (Nat.le_of_ble_eq_true rfl) dX6_having_1 ⟨Nat.le_of_ble_eq_true rfl, Nat.le_of_ble_eq_true rfl⟩) hS ?_
  rintro _ _ locs ⟨x1, rfl, b1, t1⟩ hS
  have t1 : (x1.toInt = 1 ∧ 0 ≤ p0.toInt ∧ p0.toInt < 3) ∨ (x1.toInt = 0 ∧ (p0.toInt < 0 ∨ 3 ≤ p0.toInt)) := t1
  refine xi_zeq (tgt := 14) hx hb (rfl : Int32.toInt x1 = x1.toInt) dX6_having_4 (by decide) (fun c4 => ?_) (fun c4 => ?_)
  · exact absurd ((z_X6_having_1 p0.toInt p1.toInt x1.toInt e0 t1 c4)).1 (by decide)
  · refine lv_iload_n hx hb dX6_having_7 rfl (lv_at hl 2 rfl) ?_
    refine x_clp (x_runSN (As := [.int p1]) (rest := []) S (c_X10_isColumn l E K F G s.heap p1) ms_X10_isColumn (by decide +kernel) rfl rfl ⟨Nat.le_of_ble_eq_true rfl, Nat.le_of_ble_eq_true rfl⟩ hK (fun _ => XPh.blind) (fun U hU hW => XPh.at hK hz hS hT hU hW) rfl hl.1 (Nat.le_of_ble_eq_true rfl) dX6_having_8 ⟨Nat.le_of_ble_eq_true rfl, Nat.le_of_ble_eq_true rfl⟩) hS ?_
    rintro _ _ locs ⟨x8, rfl, b8, t8⟩ hS
    have t8 : (x8.toInt = 1 ∧ 0 ≤ p1.toInt ∧ p1.toInt < 3) ∨ (x8.toInt = 0 ∧ (p1.toInt < 0 ∨ 3 ≤ p1.toInt)) := t8
    refine xi_zne (tgt := 16) hx hb (rfl : Int32.toInt x8 = x8.toInt) dX6_having_11 (by decide) (fun c11 => ?_) (fun c11 => ?_)
    · refine lv_iload_n hx hb dX6_having_16 rfl (lv_at hl 1 rfl) ?_
      refine lv_iload_n hx hb dX6_having_17 rfl (lv_at hl 2 rfl) ?_
      refine x_clp (x_runS (As := [.int p0, .int p1]) (rest := []) S (c_X6_place l E K F G s.heap p0 p1) ms_X6_place km_X6_34 rfl rfl ⟨Nat.le_of_ble_eq_true rfl, Nat.le_of_ble_eq_true rfl⟩ hK (fun _ => XPh.blind) (fun U hU hW => XPh.at hK hz hS hT hU hW) rfl hl.1 (Nat.le_of_ble_eq_true rfl) dX6_having_18 ⟨Nat.le_of_ble_eq_true rfl, Nat.le_of_ble_eq_true rfl⟩) hS ?_
      rintro _ _ locs ⟨x18, rfl, t18⟩ hS
      have t18 : 0 ≤ p0.toInt ∧ p0.toInt < 3 ∧ 0 ≤ p1.toInt ∧ p1.toInt < 3 → x18.toInt = 90 * p0.toInt + 30 * p1.toInt := t18
      refine lv_istore (lv' := [(4, .int x18), (0, .ref a), (1, .int p0), (2, .int p1), (3, .int p2)]) hx hb dX6_having_21 hl (by decide) rfl (fun ls hl => ?_)
      refine lv_iconst (v := 0) hx hb dX6_having_23 (by decide) ?_
      refine lv_istore (lv' := [(5, .int 0), (4, .int x18), (0, .ref a), (1, .int p0), (2, .int p1), (3, .int p2)]) hx hb dX6_having_24 hl (by decide) rfl (fun ls hl => ?_)
      refine lv_iconst (v := 0) hx hb dX6_having_26 (by decide) ?_
      have z27 : (hv (vw (G.2.1 (F a 0))) (90 * p0.toInt + 30 * p1.toInt) (p2.toInt) 0) = 0 := hv_0 _ _ _
      refine lv_istore (lv' := [(6, .int 0), (5, .int 0), (4, .int x18), (0, .ref a), (1, .int p0), (2, .int p1), (3, .int p2)]) hx hb dX6_having_27 hl (by decide) rfl (fun ls hl => ?_)
      have L29 : ∀ (N29 : Nat) (l5_29 : Int32) (l6_29 : Int32) (locs : List Loc) (ls : Array Slot), l5_29.toInt = (hv (vw (G.2.1 (F a 0))) (90 * p0.toInt + 30 * p1.toInt) (p2.toInt) (l6_29.toInt)) → 0 ≤ l6_29.toInt ∧ l6_29.toInt ≤ 30 → 0 ≤ l5_29.toInt ∧ l5_29.toInt ≤ l6_29.toInt → (0 : Int) ≤ l6_29.toInt → 2147483648 - l6_29.toInt < ((N29 : Nat) : Int) → TW E K F G s.heap → va_S (xA E) s.heap s.heap locs → lv_has ls 7 [(0, .ref a), (3, .int p2), (4, .int x18), (5, .int l5_29), (6, .int l6_29)] → W p l e rm_X6_having s m args below meth c s.heap locs 0 0 Q (F0 m 29 ls []) := by
        intro N29
        induction N29 with
        | zero =>
          intro l5_29 l6_29 locs ls I29_0 I29_1 I29_2 I29_3 hm29
          exact absurd hm29 (z_X6_having_2 l6_29.toInt I29_1)
        | succ N29 ih29 =>
          intro l5_29 l6_29 locs ls I29_0 I29_1 I29_2 I29_3 hm29 hT hS hl
          refine lv_iload hx hb dX6_having_29 (lv_at hl 4 rfl) ?_
          refine lv_bipush (v := 30) hx hb dX6_having_31 (by decide) ?_
          refine xi_cge (tgt := 59) hx hb (rfl : Int32.toInt l6_29 = l6_29.toInt) ((by decide) : Int32.toInt 30 = (30 : Int)) dX6_having_33 (by decide) (fun c33 => ?_) (fun c33 => ?_)
          · have z59 : l6_29.toInt = 30 → (hv (vw (G.2.1 (F a 0))) (90 * p0.toInt + 30 * p1.toInt) (p2.toInt) (l6_29.toInt)) = (hv (vw (G.2.1 (F a 0))) (90 * p0.toInt + 30 * p1.toInt) (p2.toInt) 30) := fun h9 => by rw [h9]
            refine lv_iload hx hb dX6_having_59 (lv_at hl 3 rfl) ?_
            exact x_ri hx hb hr hlk hQ (Nat.le_of_ble_eq_true rfl) (Nat.le_of_ble_eq_true rfl) hS dX6_having_61 () ⟨_, rfl, (z_X6_having_3 l5_29.toInt l6_29.toInt (hv (vw (G.2.1 (F a 0))) (90 * p0.toInt + 30 * p1.toInt) (p2.toInt) (l6_29.toInt)) (hv (vw (G.2.1 (F a 0))) (90 * p0.toInt + 30 * p1.toInt) (p2.toInt) 30) I29_0 I29_1 c33 z59)⟩ hh
          · refine lv_aload_n hx hb dX6_having_36 rfl (lv_at hl 0 rfl) ?_
            refine gX6_0 S hK hT ha kf_X6_9 dX6_having_37 (fun _ _ => ?_)
            refine lv_iload hx hb dX6_having_40 (lv_at hl 2 rfl) ?_
            refine lv_iload hx hb dX6_having_42 (lv_at hl 4 rfl) ?_
            refine xi_iadd hx hb (rfl : Int32.toInt x18 = x18.toInt) (rfl : Int32.toInt l6_29 = l6_29.toInt) dX6_having_44 (fun x44 t44 => ?_)
            refine al_0 S hK hT hk9999 ar_20 (by decide) (z_X6_having_4 l5_29.toInt l6_29.toInt p0.toInt p1.toInt x18.toInt x44.toInt e0 t18 I29_2 c33 t44) dX6_having_45 (fun x45 hv45 o45 => ?_)
            have hv45 : x45.toInt = (aI (G.2.1 (F a 0)) ((90 * p0.toInt + 30 * p1.toInt) + l6_29.toInt)) := hv45.trans (by rw [((rfl : Int32.toInt x44 = x44.toInt).trans (z_X6_having_5 l5_29.toInt l6_29.toInt p0.toInt p1.toInt x18.toInt x44.toInt e0 t18 I29_2 c33 t44))])
            have z46 : ((aI (G.2.1 (F a 0)) ((90 * p0.toInt + 30 * p1.toInt) + l6_29.toInt)) = p2.toInt → (hv (vw (G.2.1 (F a 0))) (90 * p0.toInt + 30 * p1.toInt) (p2.toInt) (l6_29.toInt + 1)) = (hv (vw (G.2.1 (F a 0))) (90 * p0.toInt + 30 * p1.toInt) (p2.toInt) (l6_29.toInt)) + 1) ∧ ((aI (G.2.1 (F a 0)) ((90 * p0.toInt + 30 * p1.toInt) + l6_29.toInt)) ≠ p2.toInt → (hv (vw (G.2.1 (F a 0))) (90 * p0.toInt + 30 * p1.toInt) (p2.toInt) (l6_29.toInt + 1)) = (hv (vw (G.2.1 (F a 0))) (90 * p0.toInt + 30 * p1.toInt) (p2.toInt) (l6_29.toInt))) := hv_st (z_X6_having_6 l6_29.toInt I29_1) (vw_in (z_X6_having_7 l5_29.toInt l6_29.toInt p0.toInt p1.toInt e0 I29_2 c33)).symm
            refine lv_iload_n hx hb dX6_having_46 rfl (lv_at hl 1 rfl) ?_
            refine xi_cne (tgt := 53) hx hb (hv45 : Int32.toInt x45 = (aI (G.2.1 (F a 0)) ((90 * p0.toInt + 30 * p1.toInt) + l6_29.toInt))) (rfl : Int32.toInt p2 = p2.toInt) dX6_having_47 (by decide) (fun c47 => ?_) (fun c47 => ?_)
            · refine xi_iinc (n := 1) (lv' := fun z9 => [(6, .int z9), (0, .ref a), (3, .int p2), (4, .int x18), (5, .int l5_29)]) (k := 4) hx hb (rfl : Int32.toInt l6_29 = l6_29.toInt) (by decide) dX6_having_53 hl rfl (by decide) (fun _ => rfl) (fun x53 ls t53 hl => ?_)
              have e53 : x53.toInt = (l6_29.toInt + 1) := (z_X6_having_8 l6_29.toInt x53.toInt I29_1 t53)
              have hl : lv_has ls 7 [(6, .int x53), (0, .ref a), (3, .int p2), (4, .int x18), (5, .int l5_29)] := hl
              refine lv_goto (tgt := 29) hx hb dX6_having_56 (by decide) ?_
              exact ih29 l5_29 x53 _ _ (by rw [(e53 : Int32.toInt x53 = (l6_29.toInt + 1))] <;> exact (z_X6_having_9 l5_29.toInt p2.toInt (aI (G.2.1 (F a 0)) ((90 * p0.toInt + 30 * p1.toInt) + l6_29.toInt)) (hv (vw (G.2.1 (F a 0))) (90 * p0.toInt + 30 * p1.toInt) (p2.toInt) (l6_29.toInt + 1)) (hv (vw (G.2.1 (F a 0))) (90 * p0.toInt + 30 * p1.toInt) (p2.toInt) (l6_29.toInt)) I29_0 (z46).2 c47)) (by rw [(e53 : Int32.toInt x53 = (l6_29.toInt + 1))] <;> exact (z_X6_having_10 l6_29.toInt I29_1 c33)) (by rw [(e53 : Int32.toInt x53 = (l6_29.toInt + 1))] <;> exact (z_X6_having_11 l5_29.toInt l6_29.toInt I29_2)) (by rw [(e53 : Int32.toInt x53 = (l6_29.toInt + 1))] <;> exact (z_X6_having_12 l6_29.toInt I29_1)) (by rw [(e53 : Int32.toInt x53 = (l6_29.toInt + 1))] <;> exact (z_X6_having_13 l6_29.toInt N29 hm29)) hT hS (lv_sub hl [1, 2, 3, 4, 0] rfl)
            · refine xi_iinc (n := 1) (lv' := fun z9 => [(5, .int z9), (0, .ref a), (3, .int p2), (4, .int x18), (6, .int l6_29)]) (k := 3) hx hb (rfl : Int32.toInt l5_29 = l5_29.toInt) (by decide) dX6_having_50 hl rfl (by decide) (fun _ => rfl) (fun x50 ls t50 hl => ?_)
              have e50 : x50.toInt = (l5_29.toInt + 1) := (z_X6_having_14 l5_29.toInt l6_29.toInt x50.toInt I29_2 c33 t50)
              have hl : lv_has ls 7 [(5, .int x50), (0, .ref a), (3, .int p2), (4, .int x18), (6, .int l6_29)] := hl
              refine xi_iinc (n := 1) (lv' := fun z9 => [(6, .int z9), (5, .int x50), (0, .ref a), (3, .int p2), (4, .int x18)]) (k := 4) hx hb (rfl : Int32.toInt l6_29 = l6_29.toInt) (by decide) dX6_having_53 hl rfl (by decide) (fun _ => rfl) (fun x53 ls t53 hl => ?_)
              have e53 : x53.toInt = (l6_29.toInt + 1) := (z_X6_having_8 l6_29.toInt x53.toInt I29_1 t53)
              have hl : lv_has ls 7 [(6, .int x53), (5, .int x50), (0, .ref a), (3, .int p2), (4, .int x18)] := hl
              refine lv_goto (tgt := 29) hx hb dX6_having_56 (by decide) ?_
              exact ih29 x50 x53 _ _ (by rw [(e50 : Int32.toInt x50 = (l5_29.toInt + 1)), (e53 : Int32.toInt x53 = (l6_29.toInt + 1))] <;> exact (z_X6_having_16 l5_29.toInt p2.toInt (aI (G.2.1 (F a 0)) ((90 * p0.toInt + 30 * p1.toInt) + l6_29.toInt)) (hv (vw (G.2.1 (F a 0))) (90 * p0.toInt + 30 * p1.toInt) (p2.toInt) (l6_29.toInt + 1)) (hv (vw (G.2.1 (F a 0))) (90 * p0.toInt + 30 * p1.toInt) (p2.toInt) (l6_29.toInt)) I29_0 (z46).1 c47)) (by rw [(e53 : Int32.toInt x53 = (l6_29.toInt + 1))] <;> exact (z_X6_having_10 l6_29.toInt I29_1 c33)) (by rw [(e50 : Int32.toInt x50 = (l5_29.toInt + 1)), (e53 : Int32.toInt x53 = (l6_29.toInt + 1))] <;> exact (z_X6_having_18 l5_29.toInt l6_29.toInt I29_2)) (by rw [(e53 : Int32.toInt x53 = (l6_29.toInt + 1))] <;> exact (z_X6_having_12 l6_29.toInt I29_1)) (by rw [(e53 : Int32.toInt x53 = (l6_29.toInt + 1))] <;> exact (z_X6_having_13 l6_29.toInt N29 hm29)) hT hS (lv_sub hl [2, 3, 4, 1, 0] rfl)
      exact L29 4294967297 0 0 _ _ (z_X6_having_21 (hv (vw (G.2.1 (F a 0))) (90 * p0.toInt + 30 * p1.toInt) (p2.toInt) 0) z27) (by decide) (by decide) (by decide) (by decide) hT hS (lv_sub hl [3, 6, 2, 1, 0] rfl)
    · exact absurd ((z_X6_having_22 p0.toInt p1.toInt x8.toInt e0 t8 c11)).1 (by decide)

theorem z_X6_sumOf_1 (a0 : Int) (a1 : Int) (a2 : Int) (a3 : Int) (h0 : 0 ≤ a0 ∧ a0 < 3 ∧ 0 ≤ a1 ∧ a1 < 3 ∧ 0 ≤ a2 ∧ a2 < 3) (h1 : (a3 = 1 ∧ 0 ≤ a0 ∧ a0 < 3) ∨ (a3 = 0 ∧ (a0 < 0 ∨ 3 ≤ a0))) (h2 : a3 = 0) : (0 : Int) = 1 ∧ a3 = a3 := by omega
theorem z_X6_sumOf_2 (a0 : Int) (a1 : Int) (a2 : Int) (a3 : Int) (h0 : 0 ≤ a0 ∧ a0 < 3 ∧ 0 ≤ a1 ∧ a1 < 3 ∧ 0 ≤ a2 ∧ a2 < 3) (h1 : (a3 = 1 ∧ 0 ≤ a1 ∧ a1 < 3) ∨ (a3 = 0 ∧ (a1 < 0 ∨ 3 ≤ a1))) (h2 : a3 = 0) : (0 : Int) = 1 ∧ a3 = a3 := by omega
theorem z_X6_sumOf_4 (a0 : Int) (a1 : Int) (a2 : Int) (a3 : Int) (a4 : Int) (h0 : 0 ≤ a1 ∧ a1 ≤ 30) (h1 : (a0 = 0 ∧ a2 = 0) ∨ (a0 = 1 ∧ 1 ≤ a2)) (h2 : (30 : Int) ≤ a1) (h3 : a1 = 30 → a2 = a3) (h4 : a0 = 0) : (a3 = 0 ∧ (100000 : Int) = 100000) ∨ (a3 ≠ 0 ∧ (100000 : Int) = a4) := by omega
theorem z_X6_sumOf_5 (a0 : Int) (a1 : Int) (a2 : Int) (a3 : Int) (a4 : Int) (a5 : Int) (a6 : Int) (h0 : a0 = a5) (h1 : 0 ≤ a2 ∧ a2 ≤ 30) (h2 : (a1 = 0 ∧ a3 = 0) ∨ (a1 = 1 ∧ 1 ≤ a3)) (h3 : (30 : Int) ≤ a2) (h4 : a2 = 30 → a3 = a4) (h5 : a2 = 30 → a5 = a6) (h6 : ¬ (a1 = 0)) : (a4 = 0 ∧ a0 = 100000) ∨ (a4 ≠ 0 ∧ a0 = a6) := by omega
theorem z_X6_sumOf_6 (a0 : Int) (a1 : Int) (a2 : Int) (a3 : Int) (a4 : Int) (a5 : Int) (a6 : Int) (h0 : 0 ≤ a2 ∧ a2 < 3 ∧ 0 ≤ a3 ∧ a3 < 3 ∧ 0 ≤ a4 ∧ a4 < 3) (h1 : 0 ≤ a2 ∧ a2 < 3 ∧ 0 ≤ a3 ∧ a3 < 3 → a5 = 90 * a2 + 30 * a3) (h2 : -2000 * a1 ≤ a0 ∧ a0 ≤ 2000 * a1) (h3 : ¬ ((30 : Int) ≤ a1)) (h4 : a6 = a5 + a1 ∨ a5 + a1 < -2147483648 ∨ 2147483648 ≤ a5 + a1) : 0 ≤ a6 ∧ a6 < ((270 : Nat) : Int) := by omega
theorem z_X6_sumOf_7 (a0 : Int) (a1 : Int) (a2 : Int) (a3 : Int) (a4 : Int) (a5 : Int) (a6 : Int) (h0 : 0 ≤ a2 ∧ a2 < 3 ∧ 0 ≤ a3 ∧ a3 < 3 ∧ 0 ≤ a4 ∧ a4 < 3) (h1 : 0 ≤ a2 ∧ a2 < 3 ∧ 0 ≤ a3 ∧ a3 < 3 → a5 = 90 * a2 + 30 * a3) (h2 : -2000 * a1 ≤ a0 ∧ a0 ≤ 2000 * a1) (h3 : ¬ ((30 : Int) ≤ a1)) (h4 : a6 = a5 + a1 ∨ a5 + a1 < -2147483648 ∨ 2147483648 ≤ a5 + a1) : a6 = (90 * a2 + 30 * a3) + a1 := by omega
theorem z_X6_sumOf_9 (a0 : Int) (a1 : Int) (a2 : Int) (a3 : Int) (a4 : Int) (h0 : 0 ≤ a2 ∧ a2 < 3 ∧ 0 ≤ a3 ∧ a3 < 3 ∧ 0 ≤ a4 ∧ a4 < 3) (h1 : -2000 * a1 ≤ a0 ∧ a0 ≤ 2000 * a1) (h2 : ¬ ((30 : Int) ≤ a1)) : 0 ≤ (90 * a2 + 30 * a3) + a1 ∧ (90 * a2 + 30 * a3) + a1 < 270 := by omega
theorem z_X6_sumOf_12 (a0 : Int) (a1 : Int) (a2 : Int) (a3 : Int) (a4 : Int) (h0 : 0 ≤ a2 ∧ a2 < 3 ∧ 0 ≤ a3 ∧ a3 < 3 ∧ 0 ≤ a4 ∧ a4 < 3) (h1 : -2000 * a1 ≤ a0 ∧ a0 ≤ 2000 * a1) (h2 : ¬ ((30 : Int) ≤ a1)) : 0 ≤ (90 * a2 + 30 * a4) + a1 ∧ (90 * a2 + 30 * a4) + a1 < 270 := by omega
theorem z_X6_sumOf_13 (a0 : Int) (a1 : Int) (a2 : Int) (a3 : Int) (h0 : 0 ≤ a1 ∧ a1 < 3 ∧ 0 ≤ a2 ∧ a2 < 3 ∧ 0 ≤ a3 ∧ a3 < 3) (h1 : 0 ≤ a0 ∧ a0 ≤ 30) (h2 : ¬ ((30 : Int) ≤ a0)) : 0 ≤ (90 * a1 + 30 * a3) + a0 ∧ (90 * a1 + 30 * a3) + a0 < 270 := by omega
theorem z_X6_sumOf_19 (a0 : Int) (a1 : Int) (a2 : Int) (a3 : Int) (a4 : Int) (h0 : (a0 = 0 ∧ a4 = 0) ∨ (a0 = 1 ∧ 1 ≤ a4)) (h1 : a2 ≠ a1 → a3 = a4) (h2 : a2 ≠ a1) : (a0 = 0 ∧ a3 = 0) ∨ (a0 = 1 ∧ 1 ≤ a3) := by omega
theorem z_X6_sumOf_20 (a0 : Int) (a1 : Int) (h0 : -2000 * a1 ≤ a0 ∧ a0 ≤ 2000 * a1) : -2000 * (a1 + 1) ≤ a0 ∧ a0 ≤ 2000 * (a1 + 1) := by omega
theorem z_X6_sumOf_23 (a0 : Int) (a1 : Int) (a2 : Int) (a3 : Int) (a4 : Int) (a5 : Int) (a6 : Int) (h0 : 0 ≤ a2 ∧ a2 < 3 ∧ 0 ≤ a3 ∧ a3 < 3 ∧ 0 ≤ a4 ∧ a4 < 3) (h1 : 0 ≤ a2 ∧ a2 < 3 ∧ 0 ≤ a4 ∧ a4 < 3 → a5 = 90 * a2 + 30 * a4) (h2 : -2000 * a1 ≤ a0 ∧ a0 ≤ 2000 * a1) (h3 : ¬ ((30 : Int) ≤ a1)) (h4 : a6 = a5 + a1 ∨ a5 + a1 < -2147483648 ∨ 2147483648 ≤ a5 + a1) : 0 ≤ a6 ∧ a6 < ((270 : Nat) : Int) := by omega
theorem z_X6_sumOf_24 (a0 : Int) (a1 : Int) (a2 : Int) (a3 : Int) (a4 : Int) (a5 : Int) (a6 : Int) (h0 : 0 ≤ a2 ∧ a2 < 3 ∧ 0 ≤ a3 ∧ a3 < 3 ∧ 0 ≤ a4 ∧ a4 < 3) (h1 : 0 ≤ a2 ∧ a2 < 3 ∧ 0 ≤ a4 ∧ a4 < 3 → a5 = 90 * a2 + 30 * a4) (h2 : -2000 * a1 ≤ a0 ∧ a0 ≤ 2000 * a1) (h3 : ¬ ((30 : Int) ≤ a1)) (h4 : a6 = a5 + a1 ∨ a5 + a1 < -2147483648 ∨ 2147483648 ≤ a5 + a1) : a6 = (90 * a2 + 30 * a4) + a1 := by omega
theorem z_X6_sumOf_25 (a0 : Int) (a1 : Int) (a2 : Int) (a3 : Int) (a4 : Int) (a5 : Int) (a6 : Int) (h0 : 0 ≤ a2 ∧ a2 < 3 ∧ 0 ≤ a3 ∧ a3 < 3 ∧ 0 ≤ a4 ∧ a4 < 3) (h1 : 0 ≤ a2 ∧ a2 < 3 ∧ 0 ≤ a4 ∧ a4 < 3 → a6 = 90 * a2 + 30 * a4) (h2 : -2000 * a1 ≤ a0 ∧ a0 ≤ 2000 * a1) (h3 : ¬ ((30 : Int) ≤ a1)) (h4 : a5 = a6 + a1 ∨ a6 + a1 < -2147483648 ∨ 2147483648 ≤ a6 + a1) : 0 ≤ a5 ∧ a5 < ((270 : Nat) : Int) := by omega
theorem z_X6_sumOf_26 (a0 : Int) (a1 : Int) (a2 : Int) (a3 : Int) (a4 : Int) (a5 : Int) (a6 : Int) (h0 : 0 ≤ a2 ∧ a2 < 3 ∧ 0 ≤ a3 ∧ a3 < 3 ∧ 0 ≤ a4 ∧ a4 < 3) (h1 : 0 ≤ a2 ∧ a2 < 3 ∧ 0 ≤ a4 ∧ a4 < 3 → a6 = 90 * a2 + 30 * a4) (h2 : -2000 * a1 ≤ a0 ∧ a0 ≤ 2000 * a1) (h3 : ¬ ((30 : Int) ≤ a1)) (h4 : a5 = a6 + a1 ∨ a6 + a1 < -2147483648 ∨ 2147483648 ≤ a6 + a1) : a5 = (90 * a2 + 30 * a4) + a1 := by omega
theorem z_X6_sumOf_27 (a0 : Int) (a1 : Int) (a2 : Int) (a3 : Int) (h0 : -2000 * a1 ≤ a0 ∧ a0 ≤ 2000 * a1) (h1 : ¬ ((30 : Int) ≤ a1)) (h2 : a3 = -2000 ∨ a3 = -1000 ∨ (-99 ≤ a3 ∧ a3 ≤ 99)) (h3 : a2 = (a0 + a3) ∨ (a0 + a3) < -2147483648 ∨ 2147483648 ≤ (a0 + a3)) : a2 = (a0 + a3) := by omega
theorem z_X6_sumOf_29 (a0 : Int) (a1 : Int) (a2 : Int) (a3 : Int) (a4 : Int) (a5 : Int) (h0 : a0 = a5) (h1 : a2 = a1 → a3 ≠ -1000 → a4 = a5 + a3) (h2 : ¬ (a2 ≠ a1)) (h3 : a3 ≠ (-1000 : Int)) : (a0 + a3) = a4 := by omega
theorem z_X6_sumOf_31 (a0 : Int) (a1 : Int) (a2 : Int) (a3 : Int) (a4 : Int) (h0 : (a0 = 0 ∧ a4 = 0) ∨ (a0 = 1 ∧ 1 ≤ a4)) (h1 : a2 = a1 → a3 = a4 + 1) (h2 : ¬ (a2 ≠ a1)) : ((1 : Int) = 0 ∧ a3 = 0) ∨ ((1 : Int) = 1 ∧ 1 ≤ a3) := by omega
theorem z_X6_sumOf_32 (a0 : Int) (a1 : Int) (a2 : Int) (h0 : -2000 * a1 ≤ a0 ∧ a0 ≤ 2000 * a1) (h1 : a2 = -2000 ∨ a2 = -1000 ∨ (-99 ≤ a2 ∧ a2 ≤ 99)) : -2000 * (a1 + 1) ≤ (a0 + a2) ∧ (a0 + a2) ≤ 2000 * (a1 + 1) := by omega
theorem z_X6_sumOf_35 (a0 : Int) (a1 : Int) (h0 : a1 = (a0 + (0 : Int)) ∨ (a0 + (0 : Int)) < -2147483648 ∨ 2147483648 ≤ (a0 + (0 : Int))) (h1 : -2147483648 ≤ a0 ∧ a0 < 2147483648) : a1 = (a0 + (0 : Int)) := by omega
theorem z_X6_sumOf_37 (a0 : Int) (a1 : Int) (a2 : Int) (a3 : Int) (a4 : Int) (a5 : Int) (h0 : a0 = a5) (h1 : a2 = a1 → a3 = -1000 → a4 = a5) (h2 : ¬ (a2 ≠ a1)) (h3 : ¬ (a3 ≠ (-1000 : Int))) : (a0 + (0 : Int)) = a4 := by omega
theorem z_X6_sumOf_40 (a0 : Int) (a1 : Int) (h0 : -2000 * a1 ≤ a0 ∧ a0 ≤ 2000 * a1) : -2000 * (a1 + 1) ≤ (a0 + (0 : Int)) ∧ (a0 + (0 : Int)) ≤ 2000 * (a1 + 1) := by omega
theorem z_X6_sumOf_44 (a0 : Int) (h0 : a0 = 0) : ((0 : Int) = 0 ∧ a0 = 0) ∨ ((0 : Int) = 1 ∧ 1 ≤ a0) := by omega
theorem z_X6_sumOf_45 (a0 : Int) (a1 : Int) (a2 : Int) (a3 : Int) (h0 : 0 ≤ a0 ∧ a0 < 3 ∧ 0 ≤ a1 ∧ a1 < 3 ∧ 0 ≤ a2 ∧ a2 < 3) (h1 : (a3 = 1 ∧ 0 ≤ a2 ∧ a2 < 3) ∨ (a3 = 0 ∧ (a2 < 0 ∨ 3 ≤ a2))) (h2 : ¬ (a3 ≠ 0)) : (0 : Int) = 1 ∧ a3 = a3 := by omega
abbrev rm_X6_sumOf : Room := { frames := 1, cells := 0, slots := 0, locals := 21 }
set_option maxHeartbeats 4000000 in
set_option maxRecDepth 100000 in
theorem c_X6_sumOf (l : Launch) (E : XE) (K : Nat → Nat) (F : Nat → Nat → Nat) (G : XG) (h0 : Heap) (a : Nat) (p0 : Int32) (p1 : Int32) (p2 : Int32) (p3 : Int32) (ha : K a = 8) (e0 : 0 ≤ p0.toInt ∧ p0.toInt < 3 ∧ 0 ≤ p1.toInt ∧ p1.toInt < 3 ∧ 0 ≤ p3.toInt ∧ p3.toInt < 3) (hro : RO (vw (G.2.1 (F a 0))) (aI (G.2.1 (F a 1)))) : Met l yX6_sumOf (xw yX6_sumOf cX6_sumOf 10 (some .int)) rm_X6_sumOf (va_Pc [.ref a, .int p0, .int p1, .int p2, .int p3] (XPh E K F G h0)) (XQ E (fun v (u : Unit) => ∃ r : Int32, v = .int r ∧ (((hv (vw (G.2.1 (F a 0))) (90 * p0.toInt + 30 * p1.toInt) (p2.toInt) 30) = 0 ∧ r.toInt = 100000) ∨ ((hv (vw (G.2.1 (F a 0))) (90 * p0.toInt + 30 * p1.toInt) (p2.toInt) 30) ≠ 0 ∧ r.toInt = (smq (vw (G.2.1 (F a 0))) (90 * p0.toInt + 30 * p1.toInt) (90 * p0.toInt + 30 * p3.toInt) (p2.toInt) 30)))) (fun _ H => H = h0)) 0 0 (xA E) := by
  refine x_enter (by decide) (Nat.le_of_ble_eq_true rfl) ?_
  intro p e s m args below meth c Q S hr hlk hnm hQ hP ls hl
  obtain ⟨⟨hz, hK, hT⟩, hh⟩ := hP
  obtain ⟨hx, hb, -, -, -⟩ := id S
  have hS : va_S (xA E) s.heap s.heap [] := va_S.rf
  have hl : lv_has ls 10 [(0, .ref a), (1, .int p0), (2, .int p1), (3, .int p2), (4, .int p3)] := hl
  obtain ⟨hk9999, hj9999⟩ := fkX6_0 hT ha
  obtain ⟨hk9999a, hj9999a⟩ := fkX6_1 hT ha
  refine lv_iload_n hx hb dX6_sumOf_0 rfl (lv_at hl 1 rfl) ?_
  refine x_clp (x_runSN (As := [.int p0]) (rest := []) S (c_X10_isTable l E K F G s.heap p0) ms_X10_isTable (by decide +kernel) rfl rfl ⟨Nat.le_of_ble_eq_true rfl, Nat.le_of_ble_eq_true rfl⟩ hK (fun _ => XPh.blind) (fun U hU hW => XPh.at hK hz hS hT hU hW) rfl hl.1 (Nat.le_of_ble_eq_true rfl) dX6_sumOf_1 ⟨Nat.le_of_ble_eq_true rfl, Nat.le_of_ble_eq_true rfl⟩) hS ?_
  rintro _ _ locs ⟨x1, rfl, b1, t1⟩ hS
  have t1 : (x1.toInt = 1 ∧ 0 ≤ p0.toInt ∧ p0.toInt < 3) ∨ (x1.toInt = 0 ∧ (p0.toInt < 0 ∨ 3 ≤ p0.toInt)) := t1
  refine xi_zeq (tgt := 22) hx hb (rfl : Int32.toInt x1 = x1.toInt) dX6_sumOf_4 (by decide) (fun c4 => ?_) (fun c4 => ?_)
  · exact absurd ((z_X6_sumOf_1 p0.toInt p1.toInt p3.toInt x1.toInt e0 t1 c4)).1 (by decide)
  · refine lv_iload_n hx hb dX6_sumOf_7 rfl (lv_at hl 2 rfl) ?_
    refine x_clp (x_runSN (As := [.int p1]) (rest := []) S (c_X10_isColumn l E K F G s.heap p1) ms_X10_isColumn (by decide +kernel) rfl rfl ⟨Nat.le_of_ble_eq_true rfl, Nat.le_of_ble_eq_true rfl⟩ hK (fun _ => XPh.blind) (fun U hU hW => XPh.at hK hz hS hT hU hW) rfl hl.1 (Nat.le_of_ble_eq_true rfl) dX6_sumOf_8 ⟨Nat.le_of_ble_eq_true rfl, Nat.le_of_ble_eq_true rfl⟩) hS ?_
    rintro _ _ locs ⟨x8, rfl, b8, t8⟩ hS
    have t8 : (x8.toInt = 1 ∧ 0 ≤ p1.toInt ∧ p1.toInt < 3) ∨ (x8.toInt = 0 ∧ (p1.toInt < 0 ∨ 3 ≤ p1.toInt)) := t8
    refine xi_zeq (tgt := 22) hx hb (rfl : Int32.toInt x8 = x8.toInt) dX6_sumOf_11 (by decide) (fun c11 => ?_) (fun c11 => ?_)
    · exact absurd ((z_X6_sumOf_2 p0.toInt p1.toInt p3.toInt x8.toInt e0 t8 c11)).1 (by decide)
    · refine lv_iload hx hb dX6_sumOf_14 (lv_at hl 4 rfl) ?_
      refine x_clp (x_runSN (As := [.int p3]) (rest := []) S (c_X10_isColumn l E K F G s.heap p3) ms_X10_isColumn (by decide +kernel) rfl rfl ⟨Nat.le_of_ble_eq_true rfl, Nat.le_of_ble_eq_true rfl⟩ hK (fun _ => XPh.blind) (fun U hU hW => XPh.at hK hz hS hT hU hW) rfl hl.1 (Nat.le_of_ble_eq_true rfl) dX6_sumOf_16 ⟨Nat.le_of_ble_eq_true rfl, Nat.le_of_ble_eq_true rfl⟩) hS ?_
      rintro _ _ locs ⟨x16, rfl, b16, t16⟩ hS
      have t16 : (x16.toInt = 1 ∧ 0 ≤ p3.toInt ∧ p3.toInt < 3) ∨ (x16.toInt = 0 ∧ (p3.toInt < 0 ∨ 3 ≤ p3.toInt)) := t16
      refine xi_zne (tgt := 25) hx hb (rfl : Int32.toInt x16 = x16.toInt) dX6_sumOf_19 (by decide) (fun c19 => ?_) (fun c19 => ?_)
      · refine lv_iload_n hx hb dX6_sumOf_25 rfl (lv_at hl 1 rfl) ?_
        refine lv_iload_n hx hb dX6_sumOf_26 rfl (lv_at hl 2 rfl) ?_
        refine x_clp (x_runS (As := [.int p0, .int p1]) (rest := []) S (c_X6_place l E K F G s.heap p0 p1) ms_X6_place km_X6_34 rfl rfl ⟨Nat.le_of_ble_eq_true rfl, Nat.le_of_ble_eq_true rfl⟩ hK (fun _ => XPh.blind) (fun U hU hW => XPh.at hK hz hS hT hU hW) rfl hl.1 (Nat.le_of_ble_eq_true rfl) dX6_sumOf_27 ⟨Nat.le_of_ble_eq_true rfl, Nat.le_of_ble_eq_true rfl⟩) hS ?_
        rintro _ _ locs ⟨x27, rfl, t27⟩ hS
        have t27 : 0 ≤ p0.toInt ∧ p0.toInt < 3 ∧ 0 ≤ p1.toInt ∧ p1.toInt < 3 → x27.toInt = 90 * p0.toInt + 30 * p1.toInt := t27
        refine lv_istore (lv' := [(5, .int x27), (0, .ref a), (1, .int p0), (2, .int p1), (3, .int p2), (4, .int p3)]) hx hb dX6_sumOf_30 hl (by decide) rfl (fun ls hl => ?_)
        refine lv_iload_n hx hb dX6_sumOf_32 rfl (lv_at hl 2 rfl) ?_
        refine lv_iload hx hb dX6_sumOf_33 (lv_at hl 5 rfl) ?_
        refine x_clp (x_runS (As := [.int p0, .int p3]) (rest := []) S (c_X6_place l E K F G s.heap p0 p3) ms_X6_place km_X6_34 rfl rfl ⟨Nat.le_of_ble_eq_true rfl, Nat.le_of_ble_eq_true rfl⟩ hK (fun _ => XPh.blind) (fun U hU hW => XPh.at hK hz hS hT hU hW) rfl hl.1 (Nat.le_of_ble_eq_true rfl) dX6_sumOf_35 ⟨Nat.le_of_ble_eq_true rfl, Nat.le_of_ble_eq_true rfl⟩) hS ?_
        rintro _ _ locs ⟨x35, rfl, t35⟩ hS
        have t35 : 0 ≤ p0.toInt ∧ p0.toInt < 3 ∧ 0 ≤ p3.toInt ∧ p3.toInt < 3 → x35.toInt = 90 * p0.toInt + 30 * p3.toInt := t35
        refine lv_istore (lv' := [(6, .int x35), (5, .int x27), (0, .ref a), (1, .int p0), (2, .int p1), (3, .int p2), (4, .int p3)]) hx hb dX6_sumOf_38 hl (by decide) rfl (fun ls hl => ?_)
        refine lv_iconst (v := 0) hx hb dX6_sumOf_40 (by decide) ?_
        refine lv_istore (lv' := [(7, .int 0), (6, .int x35), (5, .int x27), (0, .ref a), (1, .int p0), (2, .int p1), (3, .int p2), (4, .int p3)]) hx hb dX6_sumOf_41 hl (by decide) rfl (fun ls hl => ?_)
        refine lv_iconst (v := 0) hx hb dX6_sumOf_43 (by decide) ?_
        refine lv_istore (lv' := [(8, .int 0), (7, .int 0), (6, .int x35), (5, .int x27), (0, .ref a), (1, .int p0), (2, .int p1), (3, .int p2), (4, .int p3)]) hx hb dX6_sumOf_44 hl (by decide) rfl (fun ls hl => ?_)
        refine lv_iconst (v := 0) hx hb dX6_sumOf_46 (by decide) ?_
        have z47 : (hv (vw (G.2.1 (F a 0))) (90 * p0.toInt + 30 * p1.toInt) (p2.toInt) 0) = 0 := hv_0 _ _ _
        have z47a : (smq (vw (G.2.1 (F a 0))) (90 * p0.toInt + 30 * p1.toInt) (90 * p0.toInt + 30 * p3.toInt) (p2.toInt) 0) = 0 := smq_0 _ _ _ _
        refine lv_istore (lv' := [(9, .int 0), (8, .int 0), (7, .int 0), (6, .int x35), (5, .int x27), (0, .ref a), (1, .int p0), (2, .int p1), (3, .int p2), (4, .int p3)]) hx hb dX6_sumOf_47 hl (by decide) rfl (fun ls hl => ?_)
        have L49 : ∀ (N49 : Nat) (l7_49 : Int32) (l8_49 : Int32) (l9_49 : Int32) (locs : List Loc) (ls : Array Slot), l7_49.toInt = (smq (vw (G.2.1 (F a 0))) (90 * p0.toInt + 30 * p1.toInt) (90 * p0.toInt + 30 * p3.toInt) (p2.toInt) (l9_49.toInt)) → 0 ≤ l9_49.toInt ∧ l9_49.toInt ≤ 30 → (l8_49.toInt = 0 ∧ (hv (vw (G.2.1 (F a 0))) (90 * p0.toInt + 30 * p1.toInt) (p2.toInt) (l9_49.toInt)) = 0) ∨ (l8_49.toInt = 1 ∧ 1 ≤ (hv (vw (G.2.1 (F a 0))) (90 * p0.toInt + 30 * p1.toInt) (p2.toInt) (l9_49.toInt))) → -2000 * l9_49.toInt ≤ l7_49.toInt ∧ l7_49.toInt ≤ 2000 * l9_49.toInt → (0 : Int) ≤ l9_49.toInt → 2147483648 - l9_49.toInt < ((N49 : Nat) : Int) → TW E K F G s.heap → va_S (xA E) s.heap s.heap locs → lv_has ls 10 [(0, .ref a), (3, .int p2), (5, .int x27), (6, .int x35), (7, .int l7_49), (8, .int l8_49), (9, .int l9_49)] → W p l e rm_X6_sumOf s m args below meth c s.heap locs 0 0 Q (F0 m 49 ls []) := by
          intro N49
          induction N49 with
          | zero =>
            intro l7_49 l8_49 l9_49 locs ls I49_0 I49_1 I49_2 I49_3 I49_4 hm49
            exact absurd hm49 (z_X6_having_2 l9_49.toInt I49_1)
          | succ N49 ih49 =>
            intro l7_49 l8_49 l9_49 locs ls I49_0 I49_1 I49_2 I49_3 I49_4 hm49 hT hS hl
            refine lv_iload hx hb dX6_sumOf_49 (lv_at hl 6 rfl) ?_
            refine lv_bipush (v := 30) hx hb dX6_sumOf_51 (by decide) ?_
            refine xi_cge (tgt := 114) hx hb (rfl : Int32.toInt l9_49 = l9_49.toInt) ((by decide) : Int32.toInt 30 = (30 : Int)) dX6_sumOf_53 (by decide) (fun c53 => ?_) (fun c53 => ?_)
            · have z114 : l9_49.toInt = 30 → (hv (vw (G.2.1 (F a 0))) (90 * p0.toInt + 30 * p1.toInt) (p2.toInt) (l9_49.toInt)) = (hv (vw (G.2.1 (F a 0))) (90 * p0.toInt + 30 * p1.toInt) (p2.toInt) 30) := fun h9 => by rw [h9]
              have z114a : l9_49.toInt = 30 → (smq (vw (G.2.1 (F a 0))) (90 * p0.toInt + 30 * p1.toInt) (90 * p0.toInt + 30 * p3.toInt) (p2.toInt) (l9_49.toInt)) = (smq (vw (G.2.1 (F a 0))) (90 * p0.toInt + 30 * p1.toInt) (90 * p0.toInt + 30 * p3.toInt) (p2.toInt) 30) := fun h9 => by rw [h9]
              refine lv_iload hx hb dX6_sumOf_114 (lv_at hl 5 rfl) ?_
              refine xi_zeq (tgt := 124) hx hb (rfl : Int32.toInt l8_49 = l8_49.toInt) dX6_sumOf_116 (by decide) (fun c116 => ?_) (fun c116 => ?_)
              · refine lv_ldc (v := 100000) hx hb S.2.2.2.1 (S.2.2.2.2 _ (List.mem_cons_of_mem _ kc_X6_73)) dX6_sumOf_124 ?_
                exact x_ri hx hb hr hlk hQ (Nat.le_of_ble_eq_true rfl) (Nat.le_of_ble_eq_true rfl) hS dX6_sumOf_126 () ⟨_, rfl, (z_X6_sumOf_4 l8_49.toInt l9_49.toInt (hv (vw (G.2.1 (F a 0))) (90 * p0.toInt + 30 * p1.toInt) (p2.toInt) (l9_49.toInt)) (hv (vw (G.2.1 (F a 0))) (90 * p0.toInt + 30 * p1.toInt) (p2.toInt) 30) (smq (vw (G.2.1 (F a 0))) (90 * p0.toInt + 30 * p1.toInt) (90 * p0.toInt + 30 * p3.toInt) (p2.toInt) 30) I49_1 I49_2 c53 z114 c116)⟩ hh
              · refine lv_iload hx hb dX6_sumOf_119 (lv_at hl 4 rfl) ?_
                refine lv_goto (tgt := 126) hx hb dX6_sumOf_121 (by decide) ?_
                exact x_ri hx hb hr hlk hQ (Nat.le_of_ble_eq_true rfl) (Nat.le_of_ble_eq_true rfl) hS dX6_sumOf_126 () ⟨_, rfl, (z_X6_sumOf_5 l7_49.toInt l8_49.toInt l9_49.toInt (hv (vw (G.2.1 (F a 0))) (90 * p0.toInt + 30 * p1.toInt) (p2.toInt) (l9_49.toInt)) (hv (vw (G.2.1 (F a 0))) (90 * p0.toInt + 30 * p1.toInt) (p2.toInt) 30) (smq (vw (G.2.1 (F a 0))) (90 * p0.toInt + 30 * p1.toInt) (90 * p0.toInt + 30 * p3.toInt) (p2.toInt) (l9_49.toInt)) (smq (vw (G.2.1 (F a 0))) (90 * p0.toInt + 30 * p1.toInt) (90 * p0.toInt + 30 * p3.toInt) (p2.toInt) 30) I49_0 I49_1 I49_2 c53 z114 z114a c116)⟩ hh
            · refine lv_aload_n hx hb dX6_sumOf_56 rfl (lv_at hl 0 rfl) ?_
              refine gX6_0 S hK hT ha kf_X6_9 dX6_sumOf_57 (fun _ _ => ?_)
              refine lv_iload hx hb dX6_sumOf_60 (lv_at hl 2 rfl) ?_
              refine lv_iload hx hb dX6_sumOf_62 (lv_at hl 6 rfl) ?_
              refine xi_iadd hx hb (rfl : Int32.toInt x27 = x27.toInt) (rfl : Int32.toInt l9_49 = l9_49.toInt) dX6_sumOf_64 (fun x64 t64 => ?_)
              refine al_0 S hK hT hk9999 ar_20 (by decide) (z_X6_sumOf_6 l7_49.toInt l9_49.toInt p0.toInt p1.toInt p3.toInt x27.toInt x64.toInt e0 t27 I49_3 c53 t64) dX6_sumOf_65 (fun x65 hv65 o65 => ?_)
              have hv65 : x65.toInt = (aI (G.2.1 (F a 0)) ((90 * p0.toInt + 30 * p1.toInt) + l9_49.toInt)) := hv65.trans (by rw [((rfl : Int32.toInt x64 = x64.toInt).trans (z_X6_sumOf_7 l7_49.toInt l9_49.toInt p0.toInt p1.toInt p3.toInt x27.toInt x64.toInt e0 t27 I49_3 c53 t64))])
              have z66 : ((aI (G.2.1 (F a 0)) ((90 * p0.toInt + 30 * p1.toInt) + l9_49.toInt)) = p2.toInt → (hv (vw (G.2.1 (F a 0))) (90 * p0.toInt + 30 * p1.toInt) (p2.toInt) (l9_49.toInt + 1)) = (hv (vw (G.2.1 (F a 0))) (90 * p0.toInt + 30 * p1.toInt) (p2.toInt) (l9_49.toInt)) + 1) ∧ ((aI (G.2.1 (F a 0)) ((90 * p0.toInt + 30 * p1.toInt) + l9_49.toInt)) ≠ p2.toInt → (hv (vw (G.2.1 (F a 0))) (90 * p0.toInt + 30 * p1.toInt) (p2.toInt) (l9_49.toInt + 1)) = (hv (vw (G.2.1 (F a 0))) (90 * p0.toInt + 30 * p1.toInt) (p2.toInt) (l9_49.toInt))) := hv_st (z_X6_having_6 l9_49.toInt I49_1) (vw_in (z_X6_sumOf_9 l7_49.toInt l9_49.toInt p0.toInt p1.toInt p3.toInt e0 I49_3 c53)).symm
              have z66a : ((aI (G.2.1 (F a 0)) ((90 * p0.toInt + 30 * p1.toInt) + l9_49.toInt)) = p2.toInt → (aI (G.2.1 (F a 0)) ((90 * p0.toInt + 30 * p3.toInt) + l9_49.toInt)) = -1000 → (smq (vw (G.2.1 (F a 0))) (90 * p0.toInt + 30 * p1.toInt) (90 * p0.toInt + 30 * p3.toInt) (p2.toInt) (l9_49.toInt + 1)) = (smq (vw (G.2.1 (F a 0))) (90 * p0.toInt + 30 * p1.toInt) (90 * p0.toInt + 30 * p3.toInt) (p2.toInt) (l9_49.toInt))) ∧ ((aI (G.2.1 (F a 0)) ((90 * p0.toInt + 30 * p1.toInt) + l9_49.toInt)) = p2.toInt → (aI (G.2.1 (F a 0)) ((90 * p0.toInt + 30 * p3.toInt) + l9_49.toInt)) ≠ -1000 → (smq (vw (G.2.1 (F a 0))) (90 * p0.toInt + 30 * p1.toInt) (90 * p0.toInt + 30 * p3.toInt) (p2.toInt) (l9_49.toInt + 1)) = (smq (vw (G.2.1 (F a 0))) (90 * p0.toInt + 30 * p1.toInt) (90 * p0.toInt + 30 * p3.toInt) (p2.toInt) (l9_49.toInt)) + (aI (G.2.1 (F a 0)) ((90 * p0.toInt + 30 * p3.toInt) + l9_49.toInt))) ∧ ((aI (G.2.1 (F a 0)) ((90 * p0.toInt + 30 * p1.toInt) + l9_49.toInt)) ≠ p2.toInt → (smq (vw (G.2.1 (F a 0))) (90 * p0.toInt + 30 * p1.toInt) (90 * p0.toInt + 30 * p3.toInt) (p2.toInt) (l9_49.toInt + 1)) = (smq (vw (G.2.1 (F a 0))) (90 * p0.toInt + 30 * p1.toInt) (90 * p0.toInt + 30 * p3.toInt) (p2.toInt) (l9_49.toInt))) := smq_st (z_X6_having_6 l9_49.toInt I49_1) (vw_in (z_X6_sumOf_9 l7_49.toInt l9_49.toInt p0.toInt p1.toInt p3.toInt e0 I49_3 c53)).symm (vw_in (z_X6_sumOf_12 l7_49.toInt l9_49.toInt p0.toInt p1.toInt p3.toInt e0 I49_3 c53)).symm
              have z66b : (aI (G.2.1 (F a 0)) ((90 * p0.toInt + 30 * p3.toInt) + l9_49.toInt)) = -2000 ∨ (aI (G.2.1 (F a 0)) ((90 * p0.toInt + 30 * p3.toInt) + l9_49.toInt)) = -1000 ∨ (-99 ≤ (aI (G.2.1 (F a 0)) ((90 * p0.toInt + 30 * p3.toInt) + l9_49.toInt)) ∧ (aI (G.2.1 (F a 0)) ((90 * p0.toInt + 30 * p3.toInt) + l9_49.toInt)) ≤ 99) := (show okv _ by rw [← vw_in (z_X6_sumOf_13 l9_49.toInt p0.toInt p1.toInt p3.toInt e0 I49_1 c53)]; exact hro.2.1 _ (z_X6_sumOf_13 l9_49.toInt p0.toInt p1.toInt p3.toInt e0 I49_1 c53).1 (z_X6_sumOf_13 l9_49.toInt p0.toInt p1.toInt p3.toInt e0 I49_1 c53).2)
              refine lv_iload_n hx hb dX6_sumOf_66 rfl (lv_at hl 1 rfl) ?_
              refine xi_cne (tgt := 108) hx hb (hv65 : Int32.toInt x65 = (aI (G.2.1 (F a 0)) ((90 * p0.toInt + 30 * p1.toInt) + l9_49.toInt))) (rfl : Int32.toInt p2 = p2.toInt) dX6_sumOf_67 (by decide) (fun c67 => ?_) (fun c67 => ?_)
              · refine xi_iinc (n := 1) (lv' := fun z9 => [(9, .int z9), (0, .ref a), (3, .int p2), (5, .int x27), (6, .int x35), (7, .int l7_49), (8, .int l8_49)]) (k := 6) hx hb (rfl : Int32.toInt l9_49 = l9_49.toInt) (by decide) dX6_sumOf_108 hl rfl (by decide) (fun _ => rfl) (fun x108 ls t108 hl => ?_)
                have e108 : x108.toInt = (l9_49.toInt + 1) := (z_X6_having_8 l9_49.toInt x108.toInt I49_1 t108)
                have hl : lv_has ls 10 [(9, .int x108), (0, .ref a), (3, .int p2), (5, .int x27), (6, .int x35), (7, .int l7_49), (8, .int l8_49)] := hl
                refine lv_goto (tgt := 49) hx hb dX6_sumOf_111 (by decide) ?_
                exact ih49 l7_49 l8_49 x108 _ _ (by rw [(e108 : Int32.toInt x108 = (l9_49.toInt + 1))] <;> exact (z_X6_having_9 l7_49.toInt p2.toInt (aI (G.2.1 (F a 0)) ((90 * p0.toInt + 30 * p1.toInt) + l9_49.toInt)) (smq (vw (G.2.1 (F a 0))) (90 * p0.toInt + 30 * p1.toInt) (90 * p0.toInt + 30 * p3.toInt) (p2.toInt) (l9_49.toInt + 1)) (smq (vw (G.2.1 (F a 0))) (90 * p0.toInt + 30 * p1.toInt) (90 * p0.toInt + 30 * p3.toInt) (p2.toInt) (l9_49.toInt)) I49_0 (z66a).2.2 c67)) (by rw [(e108 : Int32.toInt x108 = (l9_49.toInt + 1))] <;> exact (z_X6_having_10 l9_49.toInt I49_1 c53)) (by rw [(e108 : Int32.toInt x108 = (l9_49.toInt + 1))] <;> exact (z_X6_sumOf_19 l8_49.toInt p2.toInt (aI (G.2.1 (F a 0)) ((90 * p0.toInt + 30 * p1.toInt) + l9_49.toInt)) (hv (vw (G.2.1 (F a 0))) (90 * p0.toInt + 30 * p1.toInt) (p2.toInt) (l9_49.toInt + 1)) (hv (vw (G.2.1 (F a 0))) (90 * p0.toInt + 30 * p1.toInt) (p2.toInt) (l9_49.toInt)) I49_2 (z66).2 c67)) (by rw [(e108 : Int32.toInt x108 = (l9_49.toInt + 1))] <;> exact (z_X6_sumOf_20 l7_49.toInt l9_49.toInt I49_3)) (by rw [(e108 : Int32.toInt x108 = (l9_49.toInt + 1))] <;> exact (z_X6_having_12 l9_49.toInt I49_1)) (by rw [(e108 : Int32.toInt x108 = (l9_49.toInt + 1))] <;> exact (z_X6_having_13 l9_49.toInt N49 hm49)) hT hS (lv_sub hl [1, 2, 3, 4, 5, 6, 0] rfl)
              · refine lv_iconst (v := 1) hx hb dX6_sumOf_70 (by decide) ?_
                refine lv_istore (lv' := [(8, .int 1), (0, .ref a), (3, .int p2), (5, .int x27), (6, .int x35), (7, .int l7_49), (9, .int l9_49)]) hx hb dX6_sumOf_71 hl (by decide) rfl (fun ls hl => ?_)
                refine lv_iload hx hb dX6_sumOf_73 (lv_at hl 5 rfl) ?_
                refine lv_aload_n hx hb dX6_sumOf_75 rfl (lv_at hl 1 rfl) ?_
                refine gX6_0 S hK hT ha kf_X6_9 dX6_sumOf_76 (fun _ _ => ?_)
                refine lv_iload hx hb dX6_sumOf_79 (lv_at hl 4 rfl) ?_
                refine lv_iload hx hb dX6_sumOf_81 (lv_at hl 6 rfl) ?_
                refine xi_iadd hx hb (rfl : Int32.toInt x35 = x35.toInt) (rfl : Int32.toInt l9_49 = l9_49.toInt) dX6_sumOf_83 (fun x83 t83 => ?_)
                refine al_0 S hK hT hk9999 ar_20 (by decide) (z_X6_sumOf_23 l7_49.toInt l9_49.toInt p0.toInt p1.toInt p3.toInt x35.toInt x83.toInt e0 t35 I49_3 c53 t83) dX6_sumOf_84 (fun x84 hv84 o84 => ?_)
                have hv84 : x84.toInt = (aI (G.2.1 (F a 0)) ((90 * p0.toInt + 30 * p3.toInt) + l9_49.toInt)) := hv84.trans (by rw [((rfl : Int32.toInt x83 = x83.toInt).trans (z_X6_sumOf_24 l7_49.toInt l9_49.toInt p0.toInt p1.toInt p3.toInt x35.toInt x83.toInt e0 t35 I49_3 c53 t83))])
                refine lv_sipush (v := (-1000)) hx hb dX6_sumOf_85 (by decide) ?_
                refine xi_cne (tgt := 95) hx hb (hv84 : Int32.toInt x84 = (aI (G.2.1 (F a 0)) ((90 * p0.toInt + 30 * p3.toInt) + l9_49.toInt))) ((by decide) : Int32.toInt (-1000) = (-1000 : Int)) dX6_sumOf_88 (by decide) (fun c88 => ?_) (fun c88 => ?_)
                · refine lv_aload_n hx hb dX6_sumOf_95 rfl (lv_at hl 1 rfl) ?_
                  refine gX6_0 S hK hT ha kf_X6_9 dX6_sumOf_96 (fun _ _ => ?_)
                  refine lv_iload hx hb dX6_sumOf_99 (lv_at hl 4 rfl) ?_
                  refine lv_iload hx hb dX6_sumOf_101 (lv_at hl 6 rfl) ?_
                  refine xi_iadd hx hb (rfl : Int32.toInt x35 = x35.toInt) (rfl : Int32.toInt l9_49 = l9_49.toInt) dX6_sumOf_103 (fun x103 t103 => ?_)
                  refine al_0 S hK hT hk9999 ar_20 (by decide) (z_X6_sumOf_25 l7_49.toInt l9_49.toInt p0.toInt p1.toInt p3.toInt x103.toInt x35.toInt e0 t35 I49_3 c53 t103) dX6_sumOf_104 (fun x104 hv104 o104 => ?_)
                  have hv104 : x104.toInt = (aI (G.2.1 (F a 0)) ((90 * p0.toInt + 30 * p3.toInt) + l9_49.toInt)) := hv104.trans (by rw [((rfl : Int32.toInt x103 = x103.toInt).trans (z_X6_sumOf_26 l7_49.toInt l9_49.toInt p0.toInt p1.toInt p3.toInt x103.toInt x35.toInt e0 t35 I49_3 c53 t103))])
                  refine xi_iadd hx hb (rfl : Int32.toInt l7_49 = l7_49.toInt) (hv104 : Int32.toInt x104 = (aI (G.2.1 (F a 0)) ((90 * p0.toInt + 30 * p3.toInt) + l9_49.toInt))) dX6_sumOf_105 (fun x105 t105 => ?_)
                  have e105 : x105.toInt = (l7_49.toInt + (aI (G.2.1 (F a 0)) ((90 * p0.toInt + 30 * p3.toInt) + l9_49.toInt))) := (z_X6_sumOf_27 l7_49.toInt l9_49.toInt x105.toInt (aI (G.2.1 (F a 0)) ((90 * p0.toInt + 30 * p3.toInt) + l9_49.toInt)) I49_3 c53 z66b t105)
                  refine lv_istore (lv' := [(7, .int x105), (8, .int 1), (0, .ref a), (3, .int p2), (5, .int x27), (6, .int x35), (9, .int l9_49)]) hx hb dX6_sumOf_106 hl (by decide) rfl (fun ls hl => ?_)
                  refine xi_iinc (n := 1) (lv' := fun z9 => [(9, .int z9), (7, .int x105), (8, .int 1), (0, .ref a), (3, .int p2), (5, .int x27), (6, .int x35)]) (k := 6) hx hb (rfl : Int32.toInt l9_49 = l9_49.toInt) (by decide) dX6_sumOf_108 hl rfl (by decide) (fun _ => rfl) (fun x108 ls t108 hl => ?_)
                  have e108 : x108.toInt = (l9_49.toInt + 1) := (z_X6_having_8 l9_49.toInt x108.toInt I49_1 t108)
                  have hl : lv_has ls 10 [(9, .int x108), (7, .int x105), (8, .int 1), (0, .ref a), (3, .int p2), (5, .int x27), (6, .int x35)] := hl
                  refine lv_goto (tgt := 49) hx hb dX6_sumOf_111 (by decide) ?_
                  exact ih49 x105 1 x108 _ _ (by rw [(e105 : Int32.toInt x105 = (l7_49.toInt + (aI (G.2.1 (F a 0)) ((90 * p0.toInt + 30 * p3.toInt) + l9_49.toInt)))), (e108 : Int32.toInt x108 = (l9_49.toInt + 1))] <;> exact (z_X6_sumOf_29 l7_49.toInt p2.toInt (aI (G.2.1 (F a 0)) ((90 * p0.toInt + 30 * p1.toInt) + l9_49.toInt)) (aI (G.2.1 (F a 0)) ((90 * p0.toInt + 30 * p3.toInt) + l9_49.toInt)) (smq (vw (G.2.1 (F a 0))) (90 * p0.toInt + 30 * p1.toInt) (90 * p0.toInt + 30 * p3.toInt) (p2.toInt) (l9_49.toInt + 1)) (smq (vw (G.2.1 (F a 0))) (90 * p0.toInt + 30 * p1.toInt) (90 * p0.toInt + 30 * p3.toInt) (p2.toInt) (l9_49.toInt)) I49_0 (z66a).2.1 c67 c88)) (by rw [(e108 : Int32.toInt x108 = (l9_49.toInt + 1))] <;> exact (z_X6_having_10 l9_49.toInt I49_1 c53)) (by rw [(e108 : Int32.toInt x108 = (l9_49.toInt + 1))] <;> exact (z_X6_sumOf_31 l8_49.toInt p2.toInt (aI (G.2.1 (F a 0)) ((90 * p0.toInt + 30 * p1.toInt) + l9_49.toInt)) (hv (vw (G.2.1 (F a 0))) (90 * p0.toInt + 30 * p1.toInt) (p2.toInt) (l9_49.toInt + 1)) (hv (vw (G.2.1 (F a 0))) (90 * p0.toInt + 30 * p1.toInt) (p2.toInt) (l9_49.toInt)) I49_2 (z66).1 c67)) (by rw [(e108 : Int32.toInt x108 = (l9_49.toInt + 1)), (e105 : Int32.toInt x105 = (l7_49.toInt + (aI (G.2.1 (F a 0)) ((90 * p0.toInt + 30 * p3.toInt) + l9_49.toInt))))] <;> exact (z_X6_sumOf_32 l7_49.toInt l9_49.toInt (aI (G.2.1 (F a 0)) ((90 * p0.toInt + 30 * p3.toInt) + l9_49.toInt)) I49_3 z66b)) (by rw [(e108 : Int32.toInt x108 = (l9_49.toInt + 1))] <;> exact (z_X6_having_12 l9_49.toInt I49_1)) (by rw [(e108 : Int32.toInt x108 = (l9_49.toInt + 1))] <;> exact (z_X6_having_13 l9_49.toInt N49 hm49)) hT hS (lv_sub hl [3, 4, 5, 6, 1, 2, 0] rfl)
                · refine lv_iconst (v := 0) hx hb dX6_sumOf_91 (by decide) ?_
                  refine lv_goto (tgt := 105) hx hb dX6_sumOf_92 (by decide) ?_
                  refine xi_iadd hx hb (rfl : Int32.toInt l7_49 = l7_49.toInt) ((by decide) : Int32.toInt 0 = (0 : Int)) dX6_sumOf_105 (fun x105 t105 => ?_)
                  have e105 : x105.toInt = (l7_49.toInt + (0 : Int)) := (z_X6_sumOf_35 l7_49.toInt x105.toInt t105 (xr l7_49))
                  refine lv_istore (lv' := [(7, .int x105), (8, .int 1), (0, .ref a), (3, .int p2), (5, .int x27), (6, .int x35), (9, .int l9_49)]) hx hb dX6_sumOf_106 hl (by decide) rfl (fun ls hl => ?_)
                  refine xi_iinc (n := 1) (lv' := fun z9 => [(9, .int z9), (7, .int x105), (8, .int 1), (0, .ref a), (3, .int p2), (5, .int x27), (6, .int x35)]) (k := 6) hx hb (rfl : Int32.toInt l9_49 = l9_49.toInt) (by decide) dX6_sumOf_108 hl rfl (by decide) (fun _ => rfl) (fun x108 ls t108 hl => ?_)
                  have e108 : x108.toInt = (l9_49.toInt + 1) := (z_X6_having_8 l9_49.toInt x108.toInt I49_1 t108)
                  have hl : lv_has ls 10 [(9, .int x108), (7, .int x105), (8, .int 1), (0, .ref a), (3, .int p2), (5, .int x27), (6, .int x35)] := hl
                  refine lv_goto (tgt := 49) hx hb dX6_sumOf_111 (by decide) ?_
                  exact ih49 x105 1 x108 _ _ (by rw [(e105 : Int32.toInt x105 = (l7_49.toInt + (0 : Int))), (e108 : Int32.toInt x108 = (l9_49.toInt + 1))] <;> exact (z_X6_sumOf_37 l7_49.toInt p2.toInt (aI (G.2.1 (F a 0)) ((90 * p0.toInt + 30 * p1.toInt) + l9_49.toInt)) (aI (G.2.1 (F a 0)) ((90 * p0.toInt + 30 * p3.toInt) + l9_49.toInt)) (smq (vw (G.2.1 (F a 0))) (90 * p0.toInt + 30 * p1.toInt) (90 * p0.toInt + 30 * p3.toInt) (p2.toInt) (l9_49.toInt + 1)) (smq (vw (G.2.1 (F a 0))) (90 * p0.toInt + 30 * p1.toInt) (90 * p0.toInt + 30 * p3.toInt) (p2.toInt) (l9_49.toInt)) I49_0 (z66a).1 c67 c88)) (by rw [(e108 : Int32.toInt x108 = (l9_49.toInt + 1))] <;> exact (z_X6_having_10 l9_49.toInt I49_1 c53)) (by rw [(e108 : Int32.toInt x108 = (l9_49.toInt + 1))] <;> exact (z_X6_sumOf_31 l8_49.toInt p2.toInt (aI (G.2.1 (F a 0)) ((90 * p0.toInt + 30 * p1.toInt) + l9_49.toInt)) (hv (vw (G.2.1 (F a 0))) (90 * p0.toInt + 30 * p1.toInt) (p2.toInt) (l9_49.toInt + 1)) (hv (vw (G.2.1 (F a 0))) (90 * p0.toInt + 30 * p1.toInt) (p2.toInt) (l9_49.toInt)) I49_2 (z66).1 c67)) (by rw [(e108 : Int32.toInt x108 = (l9_49.toInt + 1)), (e105 : Int32.toInt x105 = (l7_49.toInt + (0 : Int)))] <;> exact (z_X6_sumOf_40 l7_49.toInt l9_49.toInt I49_3)) (by rw [(e108 : Int32.toInt x108 = (l9_49.toInt + 1))] <;> exact (z_X6_having_12 l9_49.toInt I49_1)) (by rw [(e108 : Int32.toInt x108 = (l9_49.toInt + 1))] <;> exact (z_X6_having_13 l9_49.toInt N49 hm49)) hT hS (lv_sub hl [3, 4, 5, 6, 1, 2, 0] rfl)
        exact L49 4294967297 0 0 0 _ _ (z_X6_having_21 (smq (vw (G.2.1 (F a 0))) (90 * p0.toInt + 30 * p1.toInt) (90 * p0.toInt + 30 * p3.toInt) (p2.toInt) 0) z47a) (by decide) (z_X6_sumOf_44 (hv (vw (G.2.1 (F a 0))) (90 * p0.toInt + 30 * p1.toInt) (p2.toInt) 0) z47) (by decide) (by decide) (by decide) hT hS (lv_sub hl [5, 8, 4, 3, 2, 1, 0] rfl)
      · exact absurd ((z_X6_sumOf_45 p0.toInt p1.toInt p3.toInt x16.toInt e0 t16 c19)).1 (by decide)

theorem z_X6_fill_1 (a0 : Int) (h0 : 0 ≤ a0 ∧ a0 ≤ 3) : ¬ (2147483648 - a0 < ((0 : Nat) : Int)) := by omega
theorem z_X6_fill_2 (a0 : Int) (a1 : Int) (a2 : Int) (a3 : Int) (a4 : Int) (h0 : 0 ≤ a1 ∧ a1 < 3 ∧ 0 ≤ a2 ∧ a2 < 30) (h1 : 0 ≤ a0 ∧ a0 ≤ 3) (h2 : ¬ ((3 : Int) ≤ a0)) (h3 : 0 ≤ a1 ∧ a1 < 3 ∧ 0 ≤ a0 ∧ a0 < 3 → a3 = 90 * a1 + 30 * a0) (h4 : a4 = a3 + a2 ∨ a3 + a2 < -2147483648 ∨ 2147483648 ≤ a3 + a2) : 0 ≤ a4 ∧ a4 < ((270 : Nat) : Int) := by omega
theorem z_X6_fill_3 (a0 : Int) (a1 : Int) (h0 : 0 ≤ a0 ∧ a0 ≤ 3) (h1 : a1 = (a0 + 1) ∨ (a0 + 1) < -2147483648 ∨ 2147483648 ≤ (a0 + 1)) : a1 = (a0 + 1) := by omega
theorem z_X6_fill_4 (a0 : Int) (h0 : 0 ≤ a0 ∧ a0 ≤ 3) (h1 : ¬ ((3 : Int) ≤ a0)) : 0 ≤ (a0 + 1) ∧ (a0 + 1) ≤ 3 := by omega
theorem z_X6_fill_5 (a0 : Int) (h0 : 0 ≤ a0 ∧ a0 ≤ 3) : (0 : Int) ≤ (a0 + 1) := by omega
abbrev rm_X6_fill : Room := { frames := 1, cells := 0, slots := 0, locals := 21 }
set_option maxHeartbeats 4000000 in
set_option maxRecDepth 100000 in
theorem c_X6_fill (l : Launch) (E : XE) (K : Nat → Nat) (F : Nat → Nat → Nat) (G : XG) (a : Nat) (p0 : Int32) (p1 : Int32) (p2 : Int32) (ha : K a = 8) (e0 : 0 ≤ p0.toInt ∧ p0.toInt < 3 ∧ 0 ≤ p1.toInt ∧ p1.toInt < 30) : Met l yX6_fill (xw yX6_fill cX6_fill 5 none) rm_X6_fill (va_Pc [.ref a, .int p0, .int p1, .int p2] (XP E K F G)) (XQv E (fun (u : XG) => XFr [] [F a 0] [] G u ∧ ((vw (u.2.1 (F a 0))) = rfil (vw (G.2.1 (F a 0))) (p0.toInt) (p1.toInt) (p2.toInt) 3)) (fun u H => TW E K F u H)) 0 0 (xA E) := by
  refine x_enter (by decide) (Nat.le_of_ble_eq_true rfl) ?_
  intro p e s m args below meth c Q S hr hlk hnm hQ hP ls hl
  obtain ⟨hz, hK, hT⟩ := hP
  obtain ⟨hx, hb, -, -, -⟩ := id S
  obtain ⟨H, hT, hS, hgo⟩ : ∃ H : Heap, TW E K F G H ∧ va_S (xA E) s.heap H [] ∧ H = s.heap := ⟨_, hT, va_S.rf, rfl⟩
  rw [← hgo]
  have hl : lv_has ls 5 [(0, .ref a), (1, .int p0), (2, .int p1), (3, .int p2)] := hl
  obtain ⟨hk9999, hj9999⟩ := fkX6_0 hT ha
  refine lv_iconst (v := 0) hx hb dX6_fill_0 (by decide) ?_
  refine lv_istore (lv' := [(4, .int 0), (0, .ref a), (1, .int p0), (2, .int p1), (3, .int p2)]) hx hb dX6_fill_1 hl (by decide) rfl (fun ls hl => ?_)
  have L3 : ∀ (N3 : Nat) (l4_3 : Int32) (G_3 : XG) (H : Heap) (locs : List Loc) (ls : Array Slot), XFr [] [F a 0] [] G G_3 → vw (G_3.2.1 (F a 0)) = rfil (vw (G.2.1 (F a 0))) (p0.toInt) (p1.toInt) (p2.toInt) (l4_3.toInt) → 0 ≤ l4_3.toInt ∧ l4_3.toInt ≤ 3 → (0 : Int) ≤ l4_3.toInt → 2147483648 - l4_3.toInt < ((N3 : Nat) : Int) → TW E K F G_3 H → va_S (xA E) s.heap H locs → lv_has ls 5 [(0, .ref a), (1, .int p0), (2, .int p1), (3, .int p2), (4, .int l4_3)] → W p l e rm_X6_fill s m args below meth c H locs 0 0 Q (F0 m 3 ls []) := by
    intro N3
    induction N3 with
    | zero =>
      intro l4_3 G_3 H locs ls hF_3 pf I3_0 I3_1 hm3
      exact absurd hm3 (z_X6_fill_1 l4_3.toInt I3_0)
    | succ N3 ih3 =>
      intro l4_3 G_3 H locs ls hF_3 pf I3_0 I3_1 hm3 hT hS hl
      refine lv_iload hx hb dX6_fill_3 (lv_at hl 4 rfl) ?_
      refine lv_iconst (v := 3) hx hb dX6_fill_5 (by decide) ?_
      refine xi_cge (tgt := 29) hx hb (rfl : Int32.toInt l4_3 = l4_3.toInt) ((by decide) : Int32.toInt 3 = (3 : Int)) dX6_fill_6 (by decide) (fun c6 => ?_) (fun c6 => ?_)
      · exact x_rv hx hb hr hlk hQ (Nat.le_of_ble_eq_true rfl) (Nat.le_of_ble_eq_true rfl) hS dX6_fill_29 G_3 ⟨(XFr.call XFr.rf hF_3 xm0 (xm1 0 rfl xm0) xm0), (v_X6_fill_29_1 a G G_3 p0 p1 p2 l4_3 N3 ha pf e0 I3_0 I3_1 hm3 c6)⟩ hT
      · refine lv_aload_n hx hb dX6_fill_9 rfl (lv_at hl 0 rfl) ?_
        refine gX6_0 S hK hT ha kf_X6_9 dX6_fill_10 (fun _ _ => ?_)
        refine lv_iload_n hx hb dX6_fill_13 rfl (lv_at hl 1 rfl) ?_
        refine lv_iload hx hb dX6_fill_14 (lv_at hl 4 rfl) ?_
        refine x_clp (x_runS (As := [.int p0, .int l4_3]) (rest := [.ref (F a 0)]) S (c_X6_place l E K F G_3 H p0 l4_3) ms_X6_place km_X6_34 rfl rfl ⟨Nat.le_of_ble_eq_true rfl, Nat.le_of_ble_eq_true rfl⟩ hK (fun _ => XPh.blind) (fun U hU hW => XPh.at hK hz hS hT hU hW) rfl hl.1 (Nat.le_of_ble_eq_true rfl) dX6_fill_16 ⟨Nat.le_of_ble_eq_true rfl, Nat.le_of_ble_eq_true rfl⟩) hS ?_
        rintro _ _ locs ⟨x16, rfl, t16⟩ hS
        have t16 : 0 ≤ p0.toInt ∧ p0.toInt < 3 ∧ 0 ≤ l4_3.toInt ∧ l4_3.toInt < 3 → x16.toInt = 90 * p0.toInt + 30 * l4_3.toInt := t16
        refine lv_iload_n hx hb dX6_fill_19 rfl (lv_at hl 2 rfl) ?_
        refine xi_iadd hx hb (rfl : Int32.toInt x16 = x16.toInt) (rfl : Int32.toInt p1 = p1.toInt) dX6_fill_20 (fun x20 t20 => ?_)
        refine lv_iload_n hx hb dX6_fill_21 rfl (lv_at hl 3 rfl) ?_
        refine as_0 (x := p2) S hK hT hS hk9999 ar_20 aw_20 (by decide) (z_X6_fill_2 l4_3.toInt p0.toInt p1.toInt x16.toInt x20.toInt e0 I3_0 c6 t16 t20) dX6_fill_22 (fun H locs hT hS => ?_)
        obtain ⟨G22, hG22⟩ : ∃ G9 : XG, G9 = cput G_3 (F a 0) x20.toNatClampNeg p2 := ⟨_, rfl⟩
        rw [← hG22] at hT
        refine xi_iinc (n := 1) (lv' := fun z9 => [(4, .int z9), (0, .ref a), (1, .int p0), (2, .int p1), (3, .int p2)]) (k := 4) hx hb (rfl : Int32.toInt l4_3 = l4_3.toInt) (by decide) dX6_fill_23 hl rfl (by decide) (fun _ => rfl) (fun x23 ls t23 hl => ?_)
        have e23 : x23.toInt = (l4_3.toInt + 1) := (z_X6_fill_3 l4_3.toInt x23.toInt I3_0 t23)
        have hl : lv_has ls 5 [(4, .int x23), (0, .ref a), (1, .int p0), (2, .int p1), (3, .int p2)] := hl
        refine lv_goto (tgt := 3) hx hb dX6_fill_26 (by decide) ?_
        exact ih3 x23 G22 _ _ _ (by rw [hG22]; exact XFr.cput (XFr.call XFr.rf hF_3 xm0 (xm1 0 rfl xm0) xm0) (List.mem_of_getElem? (i := 0) rfl)) (by rw [(e23 : Int32.toInt x23 = (l4_3.toInt + 1))] <;> exact (v_X6_fill_26_2 a G G_3 G22 x20 p2 p0 p1 l4_3 N3 x16 ha hG22 pf e0 I3_0 I3_1 hm3 c6 t16 t20)) (by rw [(e23 : Int32.toInt x23 = (l4_3.toInt + 1))] <;> exact (z_X6_fill_4 l4_3.toInt I3_0 c6)) (by rw [(e23 : Int32.toInt x23 = (l4_3.toInt + 1))] <;> exact (z_X6_fill_5 l4_3.toInt I3_0)) (by rw [(e23 : Int32.toInt x23 = (l4_3.toInt + 1))] <;> exact (z_X6_having_13 l4_3.toInt N3 hm3)) hT hS (lv_sub hl [1, 2, 3, 4, 0] rfl)
  exact L3 4294967297 0 G _ _ _ XFr.rf (v_X6_fill_1_3 a p0 p1 G p2) (by decide) (by decide) (by decide) hT hS (lv_sub hl [1, 2, 3, 4, 0] rfl)

theorem z_X6_add_1 (a0 : Int) (a1 : Int) (h0 : 0 ≤ a0 ∧ a0 < 3 ∧ 0 ≤ a1 ∧ a1 < 30) : 0 ≤ a0 ∧ a0 < ((3 : Nat) : Int) := by omega
abbrev rm_X6_add : Room := { frames := 2, cells := 0, slots := 0, locals := 45 }
set_option maxHeartbeats 4000000 in
set_option maxRecDepth 100000 in
theorem c_X6_add (l : Launch) (E : XE) (K : Nat → Nat) (F : Nat → Nat → Nat) (G : XG) (a : Nat) (p0 : Int32) (p1 : Int32) (ha : K a = 8) (e0 : 0 ≤ p0.toInt ∧ p0.toInt < 3 ∧ 0 ≤ p1.toInt ∧ p1.toInt < 30) (hro : RO (vw (G.2.1 (F a 0))) (aI (G.2.1 (F a 1)))) : Met l yX6_add (xw yX6_add cX6_add 3 none) rm_X6_add (va_Pc [.ref a, .int p0, .int p1] (XP E K F G)) (XQv E (fun (u : XG) => XFr [] [F a 0, F a 1] [] G u ∧ ((vw (u.2.1 (F a 0))) = rfil (vw (G.2.1 (F a 0))) (p0.toInt) (p1.toInt) (-1000) 3) ∧ (RO (vw (u.2.1 (F a 0))) (aI (u.2.1 (F a 1))))) (fun u H => TW E K F u H)) 0 0 (xA E) := by
  refine x_enter (by decide) (Nat.le_of_ble_eq_true rfl) ?_
  intro p e s m args below meth c Q S hr hlk hnm hQ hP ls hl
  obtain ⟨hz, hK, hT⟩ := hP
  obtain ⟨hx, hb, -, -, -⟩ := id S
  obtain ⟨H, hT, hS, hgo⟩ : ∃ H : Heap, TW E K F G H ∧ va_S (xA E) s.heap H [] ∧ H = s.heap := ⟨_, hT, va_S.rf, rfl⟩
  rw [← hgo]
  have hl : lv_has ls 3 [(0, .ref a), (1, .int p0), (2, .int p1)] := hl
  obtain ⟨hk9999, hj9999⟩ := fkX6_0 hT ha
  obtain ⟨hk9999a, hj9999a⟩ := fkX6_1 hT ha
  refine lv_iload_n hx hb dX6_add_0 rfl (lv_at hl 1 rfl) ?_
  refine x_clp (x_runSN (As := [.int p0]) (rest := []) S (c_X10_isTable l E K F G H p0) ms_X10_isTable (by decide +kernel) rfl rfl ⟨Nat.le_of_ble_eq_true rfl, Nat.le_of_ble_eq_true rfl⟩ hK (fun _ => XPh.blind) (fun U hU hW => XPh.at hK hz hS hT hU hW) rfl hl.1 (Nat.le_of_ble_eq_true rfl) dX6_add_1 ⟨Nat.le_of_ble_eq_true rfl, Nat.le_of_ble_eq_true rfl⟩) hS ?_
  rintro _ _ locs ⟨x1, rfl, b1, t1⟩ hS
  have t1 : (x1.toInt = 1 ∧ 0 ≤ p0.toInt ∧ p0.toInt < 3) ∨ (x1.toInt = 0 ∧ (p0.toInt < 0 ∨ 3 ≤ p0.toInt)) := t1
  refine xi_zeq (tgt := 35) hx hb (rfl : Int32.toInt x1 = x1.toInt) dX6_add_4 (by decide) (fun c4 => ?_) (fun c4 => ?_)
  · exact x_rv hx hb hr hlk hQ (Nat.le_of_ble_eq_true rfl) (Nat.le_of_ble_eq_true rfl) hS dX6_add_35 G ⟨XFr.rf, (v_X6_add_35_1 a G p0 p1 x1 ha e0 t1 c4), (v_X6_add_35_2 a G p0 p1 x1 ha hro e0 t1 c4)⟩ hT
  · refine lv_iload_n hx hb dX6_add_7 rfl (lv_at hl 2 rfl) ?_
    refine x_clp (x_runSN (As := [.int p1]) (rest := []) S (c_X10_isKey l E K F G H p1) ms_X10_isKey (by decide +kernel) rfl rfl ⟨Nat.le_of_ble_eq_true rfl, Nat.le_of_ble_eq_true rfl⟩ hK (fun _ => XPh.blind) (fun U hU hW => XPh.at hK hz hS hT hU hW) rfl hl.1 (Nat.le_of_ble_eq_true rfl) dX6_add_8 ⟨Nat.le_of_ble_eq_true rfl, Nat.le_of_ble_eq_true rfl⟩) hS ?_
    rintro _ _ locs ⟨x8, rfl, b8, t8⟩ hS
    have t8 : (x8.toInt = 1 ∧ 0 ≤ p1.toInt ∧ p1.toInt < 30) ∨ (x8.toInt = 0 ∧ (p1.toInt < 0 ∨ 30 ≤ p1.toInt)) := t8
    refine xi_zeq (tgt := 35) hx hb (rfl : Int32.toInt x8 = x8.toInt) dX6_add_11 (by decide) (fun c11 => ?_) (fun c11 => ?_)
    · exact x_rv hx hb hr hlk hQ (Nat.le_of_ble_eq_true rfl) (Nat.le_of_ble_eq_true rfl) hS dX6_add_35 G ⟨XFr.rf, (v_X6_add_35_3 a G p0 p1 x1 x8 ha e0 t1 c4 t8 c11), (v_X6_add_35_4 a G p0 p1 x1 x8 ha hro e0 t1 c4 t8 c11)⟩ hT
    · refine lv_aload_n hx hb dX6_add_14 rfl (lv_at hl 0 rfl) ?_
      refine gX6_1 S hK hT ha kf_X6_15 dX6_add_15 (fun _ _ => ?_)
      refine lv_iload_n hx hb dX6_add_18 rfl (lv_at hl 1 rfl) ?_
      refine lv_dup2_11 hx hb dX6_add_19 rfl rfl ?_
      refine al_0 S hK hT hk9999a ar_21 (by decide) (z_X6_add_1 p0.toInt p1.toInt e0) dX6_add_20 (fun x20 hv20 o20 => ?_)
      have hv20 : x20.toInt = (aI (G.2.1 (F a 1)) (p0.toInt)) := hv20.trans (by rw [(rfl : Int32.toInt p0 = p0.toInt)])
      refine lv_iconst (v := 1) hx hb dX6_add_21 (by decide) ?_
      refine lv_iload_n hx hb dX6_add_22 rfl (lv_at hl 2 rfl) ?_
      refine lv_ishl hx hb dX6_add_23 (lv_topi (fun x23 he23 => ?_))
      refine lv_ior hx hb dX6_add_24 (lv_topi (fun x24 he24 => ?_))
      refine as_0 (x := x24) S hK hT hS hk9999a ar_21 aw_21 (by decide) (z_X6_add_1 p0.toInt p1.toInt e0) dX6_add_25 (fun H locs hT hS => ?_)
      obtain ⟨G25, hG25⟩ : ∃ G9 : XG, G9 = cput G (F a 1) p0.toNatClampNeg x24 := ⟨_, rfl⟩
      rw [← hG25] at hT
      refine lv_aload_n hx hb dX6_add_26 rfl (lv_at hl 0 rfl) ?_
      refine lv_iload_n hx hb dX6_add_27 rfl (lv_at hl 1 rfl) ?_
      refine lv_iload_n hx hb dX6_add_28 rfl (lv_at hl 2 rfl) ?_
      refine lv_sipush (v := (-1000)) hx hb dX6_add_29 (by decide) ?_
      refine x_cv0 (x_runV (b := a) (As := [.int p0, .int p1, .int (-1000)]) (rest := []) S (c_X6_fill l E K F G25 a p0 p1 (-1000) ha (e0)) mv_X6_fill km_X6_50 rfl rfl ⟨Nat.le_of_ble_eq_true rfl, Nat.le_of_ble_eq_true rfl⟩ (rc_8 hK hT ha) hK (fun _ => XP.blind) (fun U hU hW => XP.at hK hz hS hT hU hW) rfl hl.1 (Nat.le_of_ble_eq_true rfl) dX6_add_32 ⟨Nat.le_of_ble_eq_true rfl, Nat.le_of_ble_eq_true rfl⟩) hS ?_
      rintro G32 H locs ⟨hF32, oq32⟩ hT hS
      have oq32 : (vw (G32.2.1 (F a 0))) = rfil (vw (G.2.1 (F a 0))) (p0.toInt) (p1.toInt) (-1000 : Int) 3 := by simp only [((by decide) : Int32.toInt (-1000) = (-1000 : Int)), (show G25.2.1 (F a 0) = G.2.1 (F a 0) from (lc_c hG25 (xne_k hk9999 hk9999a (by decide))))] at oq32; exact oq32
      exact x_rv hx hb hr hlk hQ (Nat.le_of_ble_eq_true rfl) (Nat.le_of_ble_eq_true rfl) hS dX6_add_35 G32 ⟨(XFr.call (by rw [hG25]; exact XFr.cput XFr.rf (List.mem_of_getElem? (i := 1) rfl)) hF32 xm0 (xm1 0 rfl xm0) xm0), (v_X6_add_35_5 a G p0 x24 G32 x20 x23 p1 x1 x8 ha hv20 he23 he24 oq32 e0 t1 c4 t8 c11), (v_X6_add_35_6 a G25 G p0 x24 G32 x20 x23 p1 x1 x8 ha hG25 hro hv20 he23 he24 oq32 e0 t1 c4 t8 c11 (hF32.2.1 _ (xn1 (xne_k hk9999a hk9999 (by decide)) xn0)))⟩ hT

abbrev rm_X6_remove : Room := { frames := 2, cells := 0, slots := 0, locals := 45 }
set_option maxHeartbeats 4000000 in
set_option maxRecDepth 100000 in
theorem c_X6_remove (l : Launch) (E : XE) (K : Nat → Nat) (F : Nat → Nat → Nat) (G : XG) (a : Nat) (p0 : Int32) (p1 : Int32) (ha : K a = 8) (e0 : 0 ≤ p0.toInt ∧ p0.toInt < 3 ∧ 0 ≤ p1.toInt ∧ p1.toInt < 30) (hro : RO (vw (G.2.1 (F a 0))) (aI (G.2.1 (F a 1)))) : Met l yX6_remove (xw yX6_remove cX6_remove 3 none) rm_X6_remove (va_Pc [.ref a, .int p0, .int p1] (XP E K F G)) (XQv E (fun (u : XG) => XFr [] [F a 0, F a 1] [] G u ∧ ((vw (u.2.1 (F a 0))) = rfil (vw (G.2.1 (F a 0))) (p0.toInt) (p1.toInt) (-2000) 3) ∧ (RO (vw (u.2.1 (F a 0))) (aI (u.2.1 (F a 1))))) (fun u H => TW E K F u H)) 0 0 (xA E) := by
  refine x_enter (by decide) (Nat.le_of_ble_eq_true rfl) ?_
  intro p e s m args below meth c Q S hr hlk hnm hQ hP ls hl
  obtain ⟨hz, hK, hT⟩ := hP
  obtain ⟨hx, hb, -, -, -⟩ := id S
  obtain ⟨H, hT, hS, hgo⟩ : ∃ H : Heap, TW E K F G H ∧ va_S (xA E) s.heap H [] ∧ H = s.heap := ⟨_, hT, va_S.rf, rfl⟩
  rw [← hgo]
  have hl : lv_has ls 3 [(0, .ref a), (1, .int p0), (2, .int p1)] := hl
  obtain ⟨hk9999, hj9999⟩ := fkX6_0 hT ha
  obtain ⟨hk9999a, hj9999a⟩ := fkX6_1 hT ha
  refine lv_iload_n hx hb dX6_remove_0 rfl (lv_at hl 1 rfl) ?_
  refine x_clp (x_runSN (As := [.int p0]) (rest := []) S (c_X10_isTable l E K F G H p0) ms_X10_isTable (by decide +kernel) rfl rfl ⟨Nat.le_of_ble_eq_true rfl, Nat.le_of_ble_eq_true rfl⟩ hK (fun _ => XPh.blind) (fun U hU hW => XPh.at hK hz hS hT hU hW) rfl hl.1 (Nat.le_of_ble_eq_true rfl) dX6_remove_1 ⟨Nat.le_of_ble_eq_true rfl, Nat.le_of_ble_eq_true rfl⟩) hS ?_
  rintro _ _ locs ⟨x1, rfl, b1, t1⟩ hS
  have t1 : (x1.toInt = 1 ∧ 0 ≤ p0.toInt ∧ p0.toInt < 3) ∨ (x1.toInt = 0 ∧ (p0.toInt < 0 ∨ 3 ≤ p0.toInt)) := t1
  refine xi_zeq (tgt := 37) hx hb (rfl : Int32.toInt x1 = x1.toInt) dX6_remove_4 (by decide) (fun c4 => ?_) (fun c4 => ?_)
  · exact x_rv hx hb hr hlk hQ (Nat.le_of_ble_eq_true rfl) (Nat.le_of_ble_eq_true rfl) hS dX6_remove_37 G ⟨XFr.rf, (v_X6_remove_37_1 a G p0 p1 x1 ha e0 t1 c4), (v_X6_remove_37_2 a G p0 p1 x1 ha hro e0 t1 c4)⟩ hT
  · refine lv_iload_n hx hb dX6_remove_7 rfl (lv_at hl 2 rfl) ?_
    refine x_clp (x_runSN (As := [.int p1]) (rest := []) S (c_X10_isKey l E K F G H p1) ms_X10_isKey (by decide +kernel) rfl rfl ⟨Nat.le_of_ble_eq_true rfl, Nat.le_of_ble_eq_true rfl⟩ hK (fun _ => XPh.blind) (fun U hU hW => XPh.at hK hz hS hT hU hW) rfl hl.1 (Nat.le_of_ble_eq_true rfl) dX6_remove_8 ⟨Nat.le_of_ble_eq_true rfl, Nat.le_of_ble_eq_true rfl⟩) hS ?_
    rintro _ _ locs ⟨x8, rfl, b8, t8⟩ hS
    have t8 : (x8.toInt = 1 ∧ 0 ≤ p1.toInt ∧ p1.toInt < 30) ∨ (x8.toInt = 0 ∧ (p1.toInt < 0 ∨ 30 ≤ p1.toInt)) := t8
    refine xi_zeq (tgt := 37) hx hb (rfl : Int32.toInt x8 = x8.toInt) dX6_remove_11 (by decide) (fun c11 => ?_) (fun c11 => ?_)
    · exact x_rv hx hb hr hlk hQ (Nat.le_of_ble_eq_true rfl) (Nat.le_of_ble_eq_true rfl) hS dX6_remove_37 G ⟨XFr.rf, (v_X6_remove_37_3 a G p0 p1 x1 x8 ha e0 t1 c4 t8 c11), (v_X6_remove_37_4 a G p0 p1 x1 x8 ha hro e0 t1 c4 t8 c11)⟩ hT
    · refine lv_aload_n hx hb dX6_remove_14 rfl (lv_at hl 0 rfl) ?_
      refine gX6_1 S hK hT ha kf_X6_15 dX6_remove_15 (fun _ _ => ?_)
      refine lv_iload_n hx hb dX6_remove_18 rfl (lv_at hl 1 rfl) ?_
      refine lv_dup2_11 hx hb dX6_remove_19 rfl rfl ?_
      refine al_0 S hK hT hk9999a ar_21 (by decide) (z_X6_add_1 p0.toInt p1.toInt e0) dX6_remove_20 (fun x20 hv20 o20 => ?_)
      have hv20 : x20.toInt = (aI (G.2.1 (F a 1)) (p0.toInt)) := hv20.trans (by rw [(rfl : Int32.toInt p0 = p0.toInt)])
      refine lv_iconst (v := 1) hx hb dX6_remove_21 (by decide) ?_
      refine lv_iload_n hx hb dX6_remove_22 rfl (lv_at hl 2 rfl) ?_
      refine lv_ishl hx hb dX6_remove_23 (lv_topi (fun x23 he23 => ?_))
      refine lv_iconst (v := (-1)) hx hb dX6_remove_24 (by decide) ?_
      refine lv_ixor hx hb dX6_remove_25 (lv_topi (fun x25 he25 => ?_))
      refine lv_iand hx hb dX6_remove_26 (lv_topi (fun x26 he26 => ?_))
      refine as_0 (x := x26) S hK hT hS hk9999a ar_21 aw_21 (by decide) (z_X6_add_1 p0.toInt p1.toInt e0) dX6_remove_27 (fun H locs hT hS => ?_)
      obtain ⟨G27, hG27⟩ : ∃ G9 : XG, G9 = cput G (F a 1) p0.toNatClampNeg x26 := ⟨_, rfl⟩
      rw [← hG27] at hT
      refine lv_aload_n hx hb dX6_remove_28 rfl (lv_at hl 0 rfl) ?_
      refine lv_iload_n hx hb dX6_remove_29 rfl (lv_at hl 1 rfl) ?_
      refine lv_iload_n hx hb dX6_remove_30 rfl (lv_at hl 2 rfl) ?_
      refine lv_sipush (v := (-2000)) hx hb dX6_remove_31 (by decide) ?_
      refine x_cv0 (x_runV (b := a) (As := [.int p0, .int p1, .int (-2000)]) (rest := []) S (c_X6_fill l E K F G27 a p0 p1 (-2000) ha (e0)) mv_X6_fill km_X6_50 rfl rfl ⟨Nat.le_of_ble_eq_true rfl, Nat.le_of_ble_eq_true rfl⟩ (rc_8 hK hT ha) hK (fun _ => XP.blind) (fun U hU hW => XP.at hK hz hS hT hU hW) rfl hl.1 (Nat.le_of_ble_eq_true rfl) dX6_remove_34 ⟨Nat.le_of_ble_eq_true rfl, Nat.le_of_ble_eq_true rfl⟩) hS ?_
      rintro G34 H locs ⟨hF34, oq34⟩ hT hS
      have oq34 : (vw (G34.2.1 (F a 0))) = rfil (vw (G.2.1 (F a 0))) (p0.toInt) (p1.toInt) (-2000 : Int) 3 := by simp only [((by decide) : Int32.toInt (-2000) = (-2000 : Int)), (show G27.2.1 (F a 0) = G.2.1 (F a 0) from (lc_c hG27 (xne_k hk9999 hk9999a (by decide))))] at oq34; exact oq34
      exact x_rv hx hb hr hlk hQ (Nat.le_of_ble_eq_true rfl) (Nat.le_of_ble_eq_true rfl) hS dX6_remove_37 G34 ⟨(XFr.call (by rw [hG27]; exact XFr.cput XFr.rf (List.mem_of_getElem? (i := 1) rfl)) hF34 xm0 (xm1 0 rfl xm0) xm0), (v_X6_remove_37_5 a G p0 x26 G34 x20 x23 p1 x25 x1 x8 ha hv20 he23 he25 he26 oq34 e0 t1 c4 t8 c11), (v_X6_remove_37_6 a G27 G p0 x26 G34 x20 x23 p1 x25 x1 x8 ha hG27 hro hv20 he23 he25 he26 oq34 e0 t1 c4 t8 c11 (hF34.2.1 _ (xn1 (xne_k hk9999a hk9999 (by decide)) xn0)))⟩ hT

theorem z_X6_change_1 (a0 : Int) (a1 : Int) (a2 : Int) (a3 : Int) (a4 : Int) (a5 : Int) (a6 : Int) (h0 : 0 ≤ a2 ∧ a2 < 3) (h1 : (¬ (0 ≤ a0 ∧ a0 < 3 ∧ 0 ≤ a1 ∧ a1 < 30)) → a6 = -2000) (h2 : (a5 = 1 ∧ a6 ≠ -2000) ∨ (a5 = 0 ∧ a6 = -2000)) (h3 : ¬ (a5 = 0)) (h4 : 0 ≤ a0 ∧ a0 < 3 ∧ 0 ≤ a2 ∧ a2 < 3 → a3 = 90 * a0 + 30 * a2) (h5 : a4 = a3 + a1 ∨ a3 + a1 < -2147483648 ∨ 2147483648 ≤ a3 + a1) : 0 ≤ a4 ∧ a4 < ((270 : Nat) : Int) := by omega
abbrev rm_X6_change : Room := { frames := 2, cells := 0, slots := 0, locals := 42 }
set_option maxHeartbeats 4000000 in
set_option maxRecDepth 100000 in
theorem c_X6_change (l : Launch) (E : XE) (K : Nat → Nat) (F : Nat → Nat → Nat) (G : XG) (a : Nat) (p0 : Int32) (p1 : Int32) (p2 : Int32) (p3 : Int32) (ha : K a = 8) (e0 : 0 ≤ p2.toInt ∧ p2.toInt < 3) (e1 : p3.toInt = -1000 ∨ (-99 ≤ p3.toInt ∧ p3.toInt ≤ 99)) (hro : RO (vw (G.2.1 (F a 0))) (aI (G.2.1 (F a 1)))) : Met l yX6_change (xw yX6_change cX6_change 5 none) rm_X6_change (va_Pc [.ref a, .int p0, .int p1, .int p2, .int p3] (XP E K F G)) (XQv E (fun (u : XG) => XFr [] [F a 0] [] G u ∧ ((vw (u.2.1 (F a 0))) = if cel (vw (G.2.1 (F a 0))) (p0.toInt) (p1.toInt) 0 ≠ -2000 then rset (vw (G.2.1 (F a 0))) (90 * (p0.toInt) + 30 * (p2.toInt) + (p1.toInt)) (p3.toInt) else (vw (G.2.1 (F a 0)))) ∧ (RO (vw (u.2.1 (F a 0))) (aI (u.2.1 (F a 1))))) (fun u H => TW E K F u H)) 0 0 (xA E) := by
  refine x_enter (by decide) (Nat.le_of_ble_eq_true rfl) ?_
  intro p e s m args below meth c Q S hr hlk hnm hQ hP ls hl
  obtain ⟨hz, hK, hT⟩ := hP
  obtain ⟨hx, hb, -, -, -⟩ := id S
  obtain ⟨H, hT, hS, hgo⟩ : ∃ H : Heap, TW E K F G H ∧ va_S (xA E) s.heap H [] ∧ H = s.heap := ⟨_, hT, va_S.rf, rfl⟩
  rw [← hgo]
  have hl : lv_has ls 5 [(0, .ref a), (1, .int p0), (2, .int p1), (3, .int p2), (4, .int p3)] := hl
  obtain ⟨hk9999, hj9999⟩ := fkX6_0 hT ha
  obtain ⟨hk9999a, hj9999a⟩ := fkX6_1 hT ha
  have z0 : (¬ (0 ≤ p0.toInt ∧ p0.toInt < 3 ∧ 0 ≤ p1.toInt ∧ p1.toInt < 30)) → (cel (vw (G.2.1 (F a 0))) (p0.toInt) (p1.toInt) 0) = -2000 := fun h9 => cel_out (by omega)
  refine lv_aload_n hx hb dX6_change_0 rfl (lv_at hl 0 rfl) ?_
  refine lv_iload_n hx hb dX6_change_1 rfl (lv_at hl 1 rfl) ?_
  refine lv_iload_n hx hb dX6_change_2 rfl (lv_at hl 2 rfl) ?_
  refine x_clp (x_runV (b := a) (As := [.int p0, .int p1]) (rest := []) S (c_X6_has l E K F G H a p0 p1 ha (v_X6_change_3_1 a G hro)) mv_X6_has km_X6_54 rfl rfl ⟨Nat.le_of_ble_eq_true rfl, Nat.le_of_ble_eq_true rfl⟩ (rc_8 hK hT ha) hK (fun _ => XPh.blind) (fun U hU hW => XPh.at hK hz hS hT hU hW) rfl hl.1 (Nat.le_of_ble_eq_true rfl) dX6_change_3 ⟨Nat.le_of_ble_eq_true rfl, Nat.le_of_ble_eq_true rfl⟩) hS ?_
  rintro _ _ locs ⟨x3, rfl, b3, t3⟩ hS
  have t3 : (x3.toInt = 1 ∧ (cel (vw (G.2.1 (F a 0))) (p0.toInt) (p1.toInt) 0) ≠ -2000) ∨ (x3.toInt = 0 ∧ (cel (vw (G.2.1 (F a 0))) (p0.toInt) (p1.toInt) 0) = -2000) := t3
  refine xi_zeq (tgt := 30) hx hb (rfl : Int32.toInt x3 = x3.toInt) dX6_change_6 (by decide) (fun c6 => ?_) (fun c6 => ?_)
  · exact x_rv hx hb hr hlk hQ (Nat.le_of_ble_eq_true rfl) (Nat.le_of_ble_eq_true rfl) hS dX6_change_30 G ⟨XFr.rf, (v_X6_change_30_2 a G p2 p3 p0 p1 x3 ha e0 e1 z0 t3 c6), (v_X6_change_30_3 a G p2 p3 p0 p1 x3 ha hro e0 e1 z0 t3 c6)⟩ hT
  · refine lv_iload_n hx hb dX6_change_9 rfl (lv_at hl 3 rfl) ?_
    refine x_clp (x_runSN (As := [.int p2]) (rest := []) S (c_X10_isColumn l E K F G H p2) ms_X10_isColumn (by decide +kernel) rfl rfl ⟨Nat.le_of_ble_eq_true rfl, Nat.le_of_ble_eq_true rfl⟩ hK (fun _ => XPh.blind) (fun U hU hW => XPh.at hK hz hS hT hU hW) rfl hl.1 (Nat.le_of_ble_eq_true rfl) dX6_change_10 ⟨Nat.le_of_ble_eq_true rfl, Nat.le_of_ble_eq_true rfl⟩) hS ?_
    rintro _ _ locs ⟨x10, rfl, b10, t10⟩ hS
    have t10 : (x10.toInt = 1 ∧ 0 ≤ p2.toInt ∧ p2.toInt < 3) ∨ (x10.toInt = 0 ∧ (p2.toInt < 0 ∨ 3 ≤ p2.toInt)) := t10
    refine xi_zeq (tgt := 30) hx hb (rfl : Int32.toInt x10 = x10.toInt) dX6_change_13 (by decide) (fun c13 => ?_) (fun c13 => ?_)
    · exact x_rv hx hb hr hlk hQ (Nat.le_of_ble_eq_true rfl) (Nat.le_of_ble_eq_true rfl) hS dX6_change_30 G ⟨XFr.rf, (v_X6_change_30_4 a G p2 p3 p0 p1 x3 x10 ha e0 e1 z0 t3 c6 t10 c13), (v_X6_change_30_5 a G p2 p3 p0 p1 x3 x10 ha hro e0 e1 z0 t3 c6 t10 c13)⟩ hT
    · refine lv_aload_n hx hb dX6_change_16 rfl (lv_at hl 0 rfl) ?_
      refine gX6_0 S hK hT ha kf_X6_9 dX6_change_17 (fun _ _ => ?_)
      refine lv_iload_n hx hb dX6_change_20 rfl (lv_at hl 1 rfl) ?_
      refine lv_iload_n hx hb dX6_change_21 rfl (lv_at hl 3 rfl) ?_
      refine x_clp (x_runS (As := [.int p0, .int p2]) (rest := [.ref (F a 0)]) S (c_X6_place l E K F G H p0 p2) ms_X6_place km_X6_34 rfl rfl ⟨Nat.le_of_ble_eq_true rfl, Nat.le_of_ble_eq_true rfl⟩ hK (fun _ => XPh.blind) (fun U hU hW => XPh.at hK hz hS hT hU hW) rfl hl.1 (Nat.le_of_ble_eq_true rfl) dX6_change_22 ⟨Nat.le_of_ble_eq_true rfl, Nat.le_of_ble_eq_true rfl⟩) hS ?_
      rintro _ _ locs ⟨x22, rfl, t22⟩ hS
      have t22 : 0 ≤ p0.toInt ∧ p0.toInt < 3 ∧ 0 ≤ p2.toInt ∧ p2.toInt < 3 → x22.toInt = 90 * p0.toInt + 30 * p2.toInt := t22
      refine lv_iload_n hx hb dX6_change_25 rfl (lv_at hl 2 rfl) ?_
      refine xi_iadd hx hb (rfl : Int32.toInt x22 = x22.toInt) (rfl : Int32.toInt p1 = p1.toInt) dX6_change_26 (fun x26 t26 => ?_)
      refine lv_iload hx hb dX6_change_27 (lv_at hl 4 rfl) ?_
      refine as_0 (x := p3) S hK hT hS hk9999 ar_20 aw_20 (by decide) (z_X6_change_1 p0.toInt p1.toInt p2.toInt x22.toInt x26.toInt x3.toInt (cel (vw (G.2.1 (F a 0))) (p0.toInt) (p1.toInt) 0) e0 z0 t3 c6 t22 t26) dX6_change_29 (fun H locs hT hS => ?_)
      obtain ⟨G29, hG29⟩ : ∃ G9 : XG, G9 = cput G (F a 0) x26.toNatClampNeg p3 := ⟨_, rfl⟩
      rw [← hG29] at hT
      exact x_rv hx hb hr hlk hQ (Nat.le_of_ble_eq_true rfl) (Nat.le_of_ble_eq_true rfl) hS dX6_change_30 G29 ⟨(by rw [hG29]; exact XFr.cput XFr.rf (List.mem_of_getElem? (i := 0) rfl)), (v_X6_change_30_6 a G29 G x26 p3 p2 p0 p1 x3 x10 x22 ha hG29 e0 e1 z0 t3 c6 t10 c13 t22 t26), (v_X6_change_30_7 a G29 G x26 p3 p2 p0 p1 x3 x10 x22 ha hG29 hro e0 e1 z0 t3 c6 t10 c13 t22 t26 (lc_c hG29 (xne_k hk9999a hk9999 (by decide))))⟩ hT

