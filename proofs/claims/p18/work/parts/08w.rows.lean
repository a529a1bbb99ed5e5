theorem z_X10_isTable_1 (a0 : Int) (h0 : a0 < 0) : ((0 : Int) = 1 ∧ 0 ≤ a0 ∧ a0 < 3) ∨ ((0 : Int) = 0 ∧ (a0 < 0 ∨ 3 ≤ a0)) := by omega
theorem z_X10_isTable_2 (a0 : Int) (h0 : (3 : Int) ≤ a0) : ((0 : Int) = 1 ∧ 0 ≤ a0 ∧ a0 < 3) ∨ ((0 : Int) = 0 ∧ (a0 < 0 ∨ 3 ≤ a0)) := by omega
theorem z_X10_isTable_3 (a0 : Int) (h0 : ¬ (a0 < 0)) (h1 : ¬ ((3 : Int) ≤ a0)) : ((1 : Int) = 1 ∧ 0 ≤ a0 ∧ a0 < 3) ∨ ((1 : Int) = 0 ∧ (a0 < 0 ∨ 3 ≤ a0)) := by omega
abbrev rm_X10_isTable : Room := { frames := 0, cells := 0, slots := 0, locals := 0 }
set_option maxHeartbeats 4000000 in
set_option maxRecDepth 100000 in
theorem c_X10_isTable (l : Launch) (E : XE) (K : Nat → Nat) (F : Nat → Nat → Nat) (G : XG) (h0 : Heap) (p0 : Int32)  : Met l yX10_isTable (xw yX10_isTable cX10_isTable 1 (some .boolean)) rm_X10_isTable (va_Pc [.int p0] (XPh E K F G h0)) (XQ E (fun v (u : Unit) => ∃ r : Int32, v = .int r ∧ (r = 0 ∨ r = 1) ∧ ((r.toInt = 1 ∧ 0 ≤ p0.toInt ∧ p0.toInt < 3) ∨ (r.toInt = 0 ∧ (p0.toInt < 0 ∨ 3 ≤ p0.toInt)))) (fun _ H => H = h0)) 0 0 (xA E) := by
  refine x_enter (by decide) (Nat.le_of_ble_eq_true rfl) ?_
  intro p e s m args below meth c Q S hr hlk hnm hQ hP ls hl
  obtain ⟨⟨hz, hK, hT⟩, hh⟩ := hP
  obtain ⟨hx, hb, -, -, -⟩ := id S
  have hS : va_S (xA E) s.heap s.heap [] := va_S.rf
  have hl : lv_has ls 1 [(0, .int p0)] := hl
  refine lv_iload_n hx hb dX10_isTable_0 rfl (lv_at hl 0 rfl) ?_
  refine xi_zlt (tgt := 13) hx hb (rfl : Int32.toInt p0 = p0.toInt) dX10_isTable_1 (by decide) (fun c1 => ?_) (fun c1 => ?_)
  · refine lv_iconst (v := 0) hx hb dX10_isTable_13 (by decide) ?_
    exact x_rz hx hb hr (xnz (Or.inl rfl)) hlk hQ (Nat.le_of_ble_eq_true rfl) (Nat.le_of_ble_eq_true rfl) hS dX10_isTable_14 () ⟨_, rfl, (Or.inl rfl), (z_X10_isTable_1 p0.toInt c1)⟩ hh
  · refine lv_iload_n hx hb dX10_isTable_4 rfl (lv_at hl 0 rfl) ?_
    refine lv_iconst (v := 3) hx hb dX10_isTable_5 (by decide) ?_
    refine xi_cge (tgt := 13) hx hb (rfl : Int32.toInt p0 = p0.toInt) ((by decide) : Int32.toInt 3 = (3 : Int)) dX10_isTable_6 (by decide) (fun c6 => ?_) (fun c6 => ?_)
    · refine lv_iconst (v := 0) hx hb dX10_isTable_13 (by decide) ?_
      exact x_rz hx hb hr (xnz (Or.inl rfl)) hlk hQ (Nat.le_of_ble_eq_true rfl) (Nat.le_of_ble_eq_true rfl) hS dX10_isTable_14 () ⟨_, rfl, (Or.inl rfl), (z_X10_isTable_2 p0.toInt c6)⟩ hh
    · refine lv_iconst (v := 1) hx hb dX10_isTable_9 (by decide) ?_
      refine lv_goto (tgt := 14) hx hb dX10_isTable_10 (by decide) ?_
      exact x_rz hx hb hr (xnz (Or.inr rfl)) hlk hQ (Nat.le_of_ble_eq_true rfl) (Nat.le_of_ble_eq_true rfl) hS dX10_isTable_14 () ⟨_, rfl, (Or.inr rfl), (z_X10_isTable_3 p0.toInt c1 c6)⟩ hh

theorem z_X10_isKey_1 (a0 : Int) (h0 : a0 < 0) : ((0 : Int) = 1 ∧ 0 ≤ a0 ∧ a0 < 30) ∨ ((0 : Int) = 0 ∧ (a0 < 0 ∨ 30 ≤ a0)) := by omega
theorem z_X10_isKey_2 (a0 : Int) (h0 : (30 : Int) ≤ a0) : ((0 : Int) = 1 ∧ 0 ≤ a0 ∧ a0 < 30) ∨ ((0 : Int) = 0 ∧ (a0 < 0 ∨ 30 ≤ a0)) := by omega
theorem z_X10_isKey_3 (a0 : Int) (h0 : ¬ (a0 < 0)) (h1 : ¬ ((30 : Int) ≤ a0)) : ((1 : Int) = 1 ∧ 0 ≤ a0 ∧ a0 < 30) ∨ ((1 : Int) = 0 ∧ (a0 < 0 ∨ 30 ≤ a0)) := by omega
abbrev rm_X10_isKey : Room := { frames := 0, cells := 0, slots := 0, locals := 0 }
set_option maxHeartbeats 4000000 in
set_option maxRecDepth 100000 in
theorem c_X10_isKey (l : Launch) (E : XE) (K : Nat → Nat) (F : Nat → Nat → Nat) (G : XG) (h0 : Heap) (p0 : Int32)  : Met l yX10_isKey (xw yX10_isKey cX10_isKey 1 (some .boolean)) rm_X10_isKey (va_Pc [.int p0] (XPh E K F G h0)) (XQ E (fun v (u : Unit) => ∃ r : Int32, v = .int r ∧ (r = 0 ∨ r = 1) ∧ ((r.toInt = 1 ∧ 0 ≤ p0.toInt ∧ p0.toInt < 30) ∨ (r.toInt = 0 ∧ (p0.toInt < 0 ∨ 30 ≤ p0.toInt)))) (fun _ H => H = h0)) 0 0 (xA E) := by
  refine x_enter (by decide) (Nat.le_of_ble_eq_true rfl) ?_
  intro p e s m args below meth c Q S hr hlk hnm hQ hP ls hl
  obtain ⟨⟨hz, hK, hT⟩, hh⟩ := hP
  obtain ⟨hx, hb, -, -, -⟩ := id S
  have hS : va_S (xA E) s.heap s.heap [] := va_S.rf
  have hl : lv_has ls 1 [(0, .int p0)] := hl
  refine lv_iload_n hx hb dX10_isKey_0 rfl (lv_at hl 0 rfl) ?_
  refine xi_zlt (tgt := 14) hx hb (rfl : Int32.toInt p0 = p0.toInt) dX10_isKey_1 (by decide) (fun c1 => ?_) (fun c1 => ?_)
  · refine lv_iconst (v := 0) hx hb dX10_isKey_14 (by decide) ?_
    exact x_rz hx hb hr (xnz (Or.inl rfl)) hlk hQ (Nat.le_of_ble_eq_true rfl) (Nat.le_of_ble_eq_true rfl) hS dX10_isKey_15 () ⟨_, rfl, (Or.inl rfl), (z_X10_isKey_1 p0.toInt c1)⟩ hh
  · refine lv_iload_n hx hb dX10_isKey_4 rfl (lv_at hl 0 rfl) ?_
    refine lv_bipush (v := 30) hx hb dX10_isKey_5 (by decide) ?_
    refine xi_cge (tgt := 14) hx hb (rfl : Int32.toInt p0 = p0.toInt) ((by decide) : Int32.toInt 30 = (30 : Int)) dX10_isKey_7 (by decide) (fun c7 => ?_) (fun c7 => ?_)
    · refine lv_iconst (v := 0) hx hb dX10_isKey_14 (by decide) ?_
      exact x_rz hx hb hr (xnz (Or.inl rfl)) hlk hQ (Nat.le_of_ble_eq_true rfl) (Nat.le_of_ble_eq_true rfl) hS dX10_isKey_15 () ⟨_, rfl, (Or.inl rfl), (z_X10_isKey_2 p0.toInt c7)⟩ hh
    · refine lv_iconst (v := 1) hx hb dX10_isKey_10 (by decide) ?_
      refine lv_goto (tgt := 15) hx hb dX10_isKey_11 (by decide) ?_
      exact x_rz hx hb hr (xnz (Or.inr rfl)) hlk hQ (Nat.le_of_ble_eq_true rfl) (Nat.le_of_ble_eq_true rfl) hS dX10_isKey_15 () ⟨_, rfl, (Or.inr rfl), (z_X10_isKey_3 p0.toInt c1 c7)⟩ hh

abbrev rm_X10_isColumn : Room := { frames := 0, cells := 0, slots := 0, locals := 0 }
set_option maxHeartbeats 4000000 in
set_option maxRecDepth 100000 in
theorem c_X10_isColumn (l : Launch) (E : XE) (K : Nat → Nat) (F : Nat → Nat → Nat) (G : XG) (h0 : Heap) (p0 : Int32)  : Met l yX10_isColumn (xw yX10_isColumn cX10_isColumn 1 (some .boolean)) rm_X10_isColumn (va_Pc [.int p0] (XPh E K F G h0)) (XQ E (fun v (u : Unit) => ∃ r : Int32, v = .int r ∧ (r = 0 ∨ r = 1) ∧ ((r.toInt = 1 ∧ 0 ≤ p0.toInt ∧ p0.toInt < 3) ∨ (r.toInt = 0 ∧ (p0.toInt < 0 ∨ 3 ≤ p0.toInt)))) (fun _ H => H = h0)) 0 0 (xA E) := by
  refine x_enter (by decide) (Nat.le_of_ble_eq_true rfl) ?_
  intro p e s m args below meth c Q S hr hlk hnm hQ hP ls hl
  obtain ⟨⟨hz, hK, hT⟩, hh⟩ := hP
  obtain ⟨hx, hb, -, -, -⟩ := id S
  have hS : va_S (xA E) s.heap s.heap [] := va_S.rf
  have hl : lv_has ls 1 [(0, .int p0)] := hl
  refine lv_iload_n hx hb dX10_isColumn_0 rfl (lv_at hl 0 rfl) ?_
  refine xi_zlt (tgt := 13) hx hb (rfl : Int32.toInt p0 = p0.toInt) dX10_isColumn_1 (by decide) (fun c1 => ?_) (fun c1 => ?_)
  · refine lv_iconst (v := 0) hx hb dX10_isColumn_13 (by decide) ?_
    exact x_rz hx hb hr (xnz (Or.inl rfl)) hlk hQ (Nat.le_of_ble_eq_true rfl) (Nat.le_of_ble_eq_true rfl) hS dX10_isColumn_14 () ⟨_, rfl, (Or.inl rfl), (z_X10_isTable_1 p0.toInt c1)⟩ hh
  · refine lv_iload_n hx hb dX10_isColumn_4 rfl (lv_at hl 0 rfl) ?_
    refine lv_iconst (v := 3) hx hb dX10_isColumn_5 (by decide) ?_
    refine xi_cge (tgt := 13) hx hb (rfl : Int32.toInt p0 = p0.toInt) ((by decide) : Int32.toInt 3 = (3 : Int)) dX10_isColumn_6 (by decide) (fun c6 => ?_) (fun c6 => ?_)
    · refine lv_iconst (v := 0) hx hb dX10_isColumn_13 (by decide) ?_
      exact x_rz hx hb hr (xnz (Or.inl rfl)) hlk hQ (Nat.le_of_ble_eq_true rfl) (Nat.le_of_ble_eq_true rfl) hS dX10_isColumn_14 () ⟨_, rfl, (Or.inl rfl), (z_X10_isTable_2 p0.toInt c6)⟩ hh
    · refine lv_iconst (v := 1) hx hb dX10_isColumn_9 (by decide) ?_
      refine lv_goto (tgt := 14) hx hb dX10_isColumn_10 (by decide) ?_
      exact x_rz hx hb hr (xnz (Or.inr rfl)) hlk hQ (Nat.le_of_ble_eq_true rfl) (Nat.le_of_ble_eq_true rfl) hS dX10_isColumn_14 () ⟨_, rfl, (Or.inr rfl), (z_X10_isTable_3 p0.toInt c1 c6)⟩ hh

theorem z_X10_isSubjectValue_1 (a0 : Int) (h0 : a0 < (-99 : Int)) : ((0 : Int) = 1 ∧ (-99) ≤ a0 ∧ a0 < 100) ∨ ((0 : Int) = 0 ∧ (a0 < (-99) ∨ 100 ≤ a0)) := by omega
theorem z_X10_isSubjectValue_2 (a0 : Int) (h0 : (99 : Int) < a0) : ((0 : Int) = 1 ∧ (-99) ≤ a0 ∧ a0 < 100) ∨ ((0 : Int) = 0 ∧ (a0 < (-99) ∨ 100 ≤ a0)) := by omega
theorem z_X10_isSubjectValue_3 (a0 : Int) (h0 : ¬ (a0 < (-99 : Int))) (h1 : ¬ ((99 : Int) < a0)) : ((1 : Int) = 1 ∧ (-99) ≤ a0 ∧ a0 < 100) ∨ ((1 : Int) = 0 ∧ (a0 < (-99) ∨ 100 ≤ a0)) := by omega
abbrev rm_X10_isSubjectValue : Room := { frames := 0, cells := 0, slots := 0, locals := 0 }
set_option maxHeartbeats 4000000 in
set_option maxRecDepth 100000 in
theorem c_X10_isSubjectValue (l : Launch) (E : XE) (K : Nat → Nat) (F : Nat → Nat → Nat) (G : XG) (h0 : Heap) (p0 : Int32)  : Met l yX10_isSubjectValue (xw yX10_isSubjectValue cX10_isSubjectValue 1 (some .boolean)) rm_X10_isSubjectValue (va_Pc [.int p0] (XPh E K F G h0)) (XQ E (fun v (u : Unit) => ∃ r : Int32, v = .int r ∧ (r = 0 ∨ r = 1) ∧ ((r.toInt = 1 ∧ (-99) ≤ p0.toInt ∧ p0.toInt < 100) ∨ (r.toInt = 0 ∧ (p0.toInt < (-99) ∨ 100 ≤ p0.toInt)))) (fun _ H => H = h0)) 0 0 (xA E) := by
  refine x_enter (by decide) (Nat.le_of_ble_eq_true rfl) ?_
  intro p e s m args below meth c Q S hr hlk hnm hQ hP ls hl
  obtain ⟨⟨hz, hK, hT⟩, hh⟩ := hP
  obtain ⟨hx, hb, -, -, -⟩ := id S
  have hS : va_S (xA E) s.heap s.heap [] := va_S.rf
  have hl : lv_has ls 1 [(0, .int p0)] := hl
  refine lv_iload_n hx hb dX10_isSubjectValue_0 rfl (lv_at hl 0 rfl) ?_
  refine lv_bipush (v := (-99)) hx hb dX10_isSubjectValue_1 (by decide) ?_
  refine xi_clt (tgt := 16) hx hb (rfl : Int32.toInt p0 = p0.toInt) ((by decide) : Int32.toInt (-99) = (-99 : Int)) dX10_isSubjectValue_3 (by decide) (fun c3 => ?_) (fun c3 => ?_)
  · refine lv_iconst (v := 0) hx hb dX10_isSubjectValue_16 (by decide) ?_
    exact x_rz hx hb hr (xnz (Or.inl rfl)) hlk hQ (Nat.le_of_ble_eq_true rfl) (Nat.le_of_ble_eq_true rfl) hS dX10_isSubjectValue_17 () ⟨_, rfl, (Or.inl rfl), (z_X10_isSubjectValue_1 p0.toInt c3)⟩ hh
  · refine lv_iload_n hx hb dX10_isSubjectValue_6 rfl (lv_at hl 0 rfl) ?_
    refine lv_bipush (v := 99) hx hb dX10_isSubjectValue_7 (by decide) ?_
    refine xi_cgt (tgt := 16) hx hb (rfl : Int32.toInt p0 = p0.toInt) ((by decide) : Int32.toInt 99 = (99 : Int)) dX10_isSubjectValue_9 (by decide) (fun c9 => ?_) (fun c9 => ?_)
    · refine lv_iconst (v := 0) hx hb dX10_isSubjectValue_16 (by decide) ?_
      exact x_rz hx hb hr (xnz (Or.inl rfl)) hlk hQ (Nat.le_of_ble_eq_true rfl) (Nat.le_of_ble_eq_true rfl) hS dX10_isSubjectValue_17 () ⟨_, rfl, (Or.inl rfl), (z_X10_isSubjectValue_2 p0.toInt c9)⟩ hh
    · refine lv_iconst (v := 1) hx hb dX10_isSubjectValue_12 (by decide) ?_
      refine lv_goto (tgt := 17) hx hb dX10_isSubjectValue_13 (by decide) ?_
      exact x_rz hx hb hr (xnz (Or.inr rfl)) hlk hQ (Nat.le_of_ble_eq_true rfl) (Nat.le_of_ble_eq_true rfl) hS dX10_isSubjectValue_17 () ⟨_, rfl, (Or.inr rfl), (z_X10_isSubjectValue_3 p0.toInt c3 c9)⟩ hh

theorem z_X10_isValue_1 (a0 : Int) (h0 : a0 = (-1000 : Int)) : ((1 : Int) = 1 ∧ (a0 = -1000 ∨ (-99 ≤ a0 ∧ a0 < 100))) ∨ ((1 : Int) = 0 ∧ a0 ≠ -1000 ∧ (a0 < -99 ∨ 100 ≤ a0)) := by omega
theorem z_X10_isValue_2 (a0 : Int) (a1 : Int) (h0 : ¬ (a0 = (-1000 : Int))) (h1 : (a1 = 1 ∧ (-99) ≤ a0 ∧ a0 < 100) ∨ (a1 = 0 ∧ (a0 < (-99) ∨ 100 ≤ a0))) (h2 : a1 = 0) : ((0 : Int) = 1 ∧ (a0 = -1000 ∨ (-99 ≤ a0 ∧ a0 < 100))) ∨ ((0 : Int) = 0 ∧ a0 ≠ -1000 ∧ (a0 < -99 ∨ 100 ≤ a0)) := by omega
theorem z_X10_isValue_3 (a0 : Int) (a1 : Int) (h0 : (a1 = 1 ∧ (-99) ≤ a0 ∧ a0 < 100) ∨ (a1 = 0 ∧ (a0 < (-99) ∨ 100 ≤ a0))) (h1 : ¬ (a1 = 0)) : ((1 : Int) = 1 ∧ (a0 = -1000 ∨ (-99 ≤ a0 ∧ a0 < 100))) ∨ ((1 : Int) = 0 ∧ a0 ≠ -1000 ∧ (a0 < -99 ∨ 100 ≤ a0)) := by omega
abbrev rm_X10_isValue : Room := { frames := 1, cells := 0, slots := 0, locals := 20 }
set_option maxHeartbeats 4000000 in
set_option maxRecDepth 100000 in
theorem c_X10_isValue (l : Launch) (E : XE) (K : Nat → Nat) (F : Nat → Nat → Nat) (G : XG) (h0 : Heap) (p0 : Int32)  : Met l yX10_isValue (xw yX10_isValue cX10_isValue 1 (some .boolean)) rm_X10_isValue (va_Pc [.int p0] (XPh E K F G h0)) (XQ E (fun v (u : Unit) => ∃ r : Int32, v = .int r ∧ (r = 0 ∨ r = 1) ∧ ((r.toInt = 1 ∧ (p0.toInt = -1000 ∨ (-99 ≤ p0.toInt ∧ p0.toInt < 100))) ∨ (r.toInt = 0 ∧ p0.toInt ≠ -1000 ∧ (p0.toInt < -99 ∨ 100 ≤ p0.toInt)))) (fun _ H => H = h0)) 0 0 (xA E) := by
  refine x_enter (by decide) (Nat.le_of_ble_eq_true rfl) ?_
  intro p e s m args below meth c Q S hr hlk hnm hQ hP ls hl
  obtain ⟨⟨hz, hK, hT⟩, hh⟩ := hP
  obtain ⟨hx, hb, -, -, -⟩ := id S
  have hS : va_S (xA E) s.heap s.heap [] := va_S.rf
  have hl : lv_has ls 1 [(0, .int p0)] := hl
  refine lv_iload_n hx hb dX10_isValue_0 rfl (lv_at hl 0 rfl) ?_
  refine lv_sipush (v := (-1000)) hx hb dX10_isValue_1 (by decide) ?_
  refine xi_ceq (tgt := 14) hx hb (rfl : Int32.toInt p0 = p0.toInt) ((by decide) : Int32.toInt (-1000) = (-1000 : Int)) dX10_isValue_4 (by decide) (fun c4 => ?_) (fun c4 => ?_)
  · refine lv_iconst (v := 1) hx hb dX10_isValue_14 (by decide) ?_
    refine lv_goto (tgt := 19) hx hb dX10_isValue_15 (by decide) ?_
    exact x_rz hx hb hr (xnz (Or.inr rfl)) hlk hQ (Nat.le_of_ble_eq_true rfl) (Nat.le_of_ble_eq_true rfl) hS dX10_isValue_19 () ⟨_, rfl, (Or.inr rfl), (z_X10_isValue_1 p0.toInt c4)⟩ hh
  · refine lv_iload_n hx hb dX10_isValue_7 rfl (lv_at hl 0 rfl) ?_
    refine x_clp (x_runS (As := [.int p0]) (rest := []) S (c_X10_isSubjectValue l E K F G s.heap p0) ms_X10_isSubjectValue km_X10_371 rfl rfl ⟨Nat.le_of_ble_eq_true rfl, Nat.le_of_ble_eq_true rfl⟩ hK (fun _ => XPh.blind) (fun U hU hW => XPh.at hK hz hS hT hU hW) rfl hl.1 (Nat.le_of_ble_eq_true rfl) dX10_isValue_8 ⟨Nat.le_of_ble_eq_true rfl, Nat.le_of_ble_eq_true rfl⟩) hS ?_
    rintro _ _ locs ⟨x8, rfl, b8, t8⟩ hS
    have t8 : (x8.toInt = 1 ∧ (-99) ≤ p0.toInt ∧ p0.toInt < 100) ∨ (x8.toInt = 0 ∧ (p0.toInt < (-99) ∨ 100 ≤ p0.toInt)) := t8
    refine xi_zeq (tgt := 18) hx hb (rfl : Int32.toInt x8 = x8.toInt) dX10_isValue_11 (by decide) (fun c11 => ?_) (fun c11 => ?_)
    · refine lv_iconst (v := 0) hx hb dX10_isValue_18 (by decide) ?_
      exact x_rz hx hb hr (xnz (Or.inl rfl)) hlk hQ (Nat.le_of_ble_eq_true rfl) (Nat.le_of_ble_eq_true rfl) hS dX10_isValue_19 () ⟨_, rfl, (Or.inl rfl), (z_X10_isValue_2 p0.toInt x8.toInt c4 t8 c11)⟩ hh
    · refine lv_iconst (v := 1) hx hb dX10_isValue_14 (by decide) ?_
      refine lv_goto (tgt := 19) hx hb dX10_isValue_15 (by decide) ?_
      exact x_rz hx hb hr (xnz (Or.inr rfl)) hlk hQ (Nat.le_of_ble_eq_true rfl) (Nat.le_of_ble_eq_true rfl) hS dX10_isValue_19 () ⟨_, rfl, (Or.inr rfl), (z_X10_isValue_3 p0.toInt x8.toInt t8 c11)⟩ hh

theorem z_X6_place_1 (a0 : Int) (a1 : Int) (a2 : Int) (a3 : Int) (a4 : Int) (h0 : a2 = a0 * (3 : Int) ∨ a0 * (3 : Int) < -2147483648 ∨ 2147483648 ≤ a0 * (3 : Int)) (h1 : a3 = a2 + a1 ∨ a2 + a1 < -2147483648 ∨ 2147483648 ≤ a2 + a1) (h2 : a4 = a3 * (30 : Int) ∨ a3 * (30 : Int) < -2147483648 ∨ 2147483648 ≤ a3 * (30 : Int)) : 0 ≤ a0 ∧ a0 < 3 ∧ 0 ≤ a1 ∧ a1 < 3 → a4 = 90 * a0 + 30 * a1 := by omega
abbrev rm_X6_place : Room := { frames := 0, cells := 0, slots := 0, locals := 0 }
set_option maxHeartbeats 4000000 in
set_option maxRecDepth 100000 in
theorem c_X6_place (l : Launch) (E : XE) (K : Nat → Nat) (F : Nat → Nat → Nat) (G : XG) (h0 : Heap) (p0 : Int32) (p1 : Int32)  : Met l yX6_place (xw yX6_place cX6_place 2 (some .int)) rm_X6_place (va_Pc [.int p0, .int p1] (XPh E K F G h0)) (XQ E (fun v (u : Unit) => ∃ r : Int32, v = .int r ∧ (0 ≤ p0.toInt ∧ p0.toInt < 3 ∧ 0 ≤ p1.toInt ∧ p1.toInt < 3 → r.toInt = 90 * p0.toInt + 30 * p1.toInt)) (fun _ H => H = h0)) 0 0 (xA E) := by
  refine x_enter (by decide) (Nat.le_of_ble_eq_true rfl) ?_
  intro p e s m args below meth c Q S hr hlk hnm hQ hP ls hl
  obtain ⟨⟨hz, hK, hT⟩, hh⟩ := hP
  obtain ⟨hx, hb, -, -, -⟩ := id S
  have hS : va_S (xA E) s.heap s.heap [] := va_S.rf
  have hl : lv_has ls 2 [(0, .int p0), (1, .int p1)] := hl
  refine lv_iload_n hx hb dX6_place_0 rfl (lv_at hl 0 rfl) ?_
  refine lv_iconst (v := 3) hx hb dX6_place_1 (by decide) ?_
  refine xi_imul hx hb (rfl : Int32.toInt p0 = p0.toInt) ((by decide) : Int32.toInt 3 = (3 : Int)) dX6_place_2 (fun x2 t2 => ?_)
  refine lv_iload_n hx hb dX6_place_3 rfl (lv_at hl 1 rfl) ?_
  refine xi_iadd hx hb (rfl : Int32.toInt x2 = x2.toInt) (rfl : Int32.toInt p1 = p1.toInt) dX6_place_4 (fun x4 t4 => ?_)
  refine lv_bipush (v := 30) hx hb dX6_place_5 (by decide) ?_
  refine xi_imul hx hb (rfl : Int32.toInt x4 = x4.toInt) ((by decide) : Int32.toInt 30 = (30 : Int)) dX6_place_7 (fun x7 t7 => ?_)
  exact x_ri hx hb hr hlk hQ (Nat.le_of_ble_eq_true rfl) (Nat.le_of_ble_eq_true rfl) hS dX6_place_8 () ⟨_, rfl, (z_X6_place_1 p0.toInt p1.toInt x2.toInt x4.toInt x7.toInt t2 t4 t7)⟩ hh

theorem z_X6_cell_1 (a0 : Int) (a1 : Int) (a2 : Int) (a3 : Int) (a4 : Int) (h0 : (a3 = 1 ∧ 0 ≤ a0 ∧ a0 < 3) ∨ (a3 = 0 ∧ (a0 < 0 ∨ 3 ≤ a0))) (h1 : a3 = 0) (h2 : (¬ (0 ≤ a0 ∧ a0 < 3 ∧ 0 ≤ a1 ∧ a1 < 30 ∧ 0 ≤ a2 ∧ a2 < 3)) → a4 = -2000) : (-2000 : Int) = a4 := by omega
theorem z_X6_cell_2 (a0 : Int) (a1 : Int) (a2 : Int) (a3 : Int) (a4 : Int) (h0 : (a3 = 1 ∧ 0 ≤ a1 ∧ a1 < 30) ∨ (a3 = 0 ∧ (a1 < 0 ∨ 30 ≤ a1))) (h1 : a3 = 0) (h2 : (¬ (0 ≤ a0 ∧ a0 < 3 ∧ 0 ≤ a1 ∧ a1 < 30 ∧ 0 ≤ a2 ∧ a2 < 3)) → a4 = -2000) : (-2000 : Int) = a4 := by omega
theorem z_X6_cell_3 (a0 : Int) (a1 : Int) (a2 : Int) (a3 : Int) (a4 : Int) (h0 : (a3 = 1 ∧ 0 ≤ a2 ∧ a2 < 3) ∨ (a3 = 0 ∧ (a2 < 0 ∨ 3 ≤ a2))) (h1 : a3 = 0) (h2 : (¬ (0 ≤ a0 ∧ a0 < 3 ∧ 0 ≤ a1 ∧ a1 < 30 ∧ 0 ≤ a2 ∧ a2 < 3)) → a4 = -2000) : (-2000 : Int) = a4 := by omega
theorem z_X6_cell_4 (a0 : Int) (a1 : Int) (a2 : Int) (a3 : Int) (a4 : Int) (a5 : Int) (h0 : (a3 = 1 ∧ 0 ≤ a0 ∧ a0 < 3) ∨ (a3 = 0 ∧ (a0 < 0 ∨ 3 ≤ a0))) (h1 : ¬ (a3 = 0)) (h2 : (a5 = 1 ∧ 0 ≤ a1 ∧ a1 < 30) ∨ (a5 = 0 ∧ (a1 < 0 ∨ 30 ≤ a1))) (h3 : ¬ (a5 = 0)) (h4 : (a4 = 1 ∧ 0 ≤ a2 ∧ a2 < 3) ∨ (a4 = 0 ∧ (a2 < 0 ∨ 3 ≤ a2))) (h5 : ¬ (a4 = 0)) : 0 ≤ a0 ∧ a0 < 3 ∧ 0 ≤ a1 ∧ a1 < 30 ∧ 0 ≤ a2 ∧ a2 < 3 := by omega
theorem z_X6_cell_5 (a0 : Int) (a1 : Int) (a2 : Int) (a3 : Int) (a4 : Int) (a5 : Int) (h0 : (a3 = 1 ∧ 0 ≤ a0 ∧ a0 < 3) ∨ (a3 = 0 ∧ (a0 < 0 ∨ 3 ≤ a0))) (h1 : ¬ (a3 = 0)) (h2 : (a5 = 1 ∧ 0 ≤ a1 ∧ a1 < 30) ∨ (a5 = 0 ∧ (a1 < 0 ∨ 30 ≤ a1))) (h3 : ¬ (a5 = 0)) (h4 : (a4 = 1 ∧ 0 ≤ a2 ∧ a2 < 3) ∨ (a4 = 0 ∧ (a2 < 0 ∨ 3 ≤ a2))) (h5 : ¬ (a4 = 0)) : 0 ≤ 90 * a0 + 30 * a2 + a1 ∧ 90 * a0 + 30 * a2 + a1 < 270 := by omega
theorem z_X6_cell_6 (a0 : Int) (a1 : Int) (a2 : Int) (a3 : Int) (a4 : Int) (a5 : Int) (a6 : Int) (a7 : Int) (h0 : (a3 = 1 ∧ 0 ≤ a0 ∧ a0 < 3) ∨ (a3 = 0 ∧ (a0 < 0 ∨ 3 ≤ a0))) (h1 : ¬ (a3 = 0)) (h2 : (a7 = 1 ∧ 0 ≤ a1 ∧ a1 < 30) ∨ (a7 = 0 ∧ (a1 < 0 ∨ 30 ≤ a1))) (h3 : ¬ (a7 = 0)) (h4 : (a4 = 1 ∧ 0 ≤ a2 ∧ a2 < 3) ∨ (a4 = 0 ∧ (a2 < 0 ∨ 3 ≤ a2))) (h5 : ¬ (a4 = 0)) (h6 : 0 ≤ a0 ∧ a0 < 3 ∧ 0 ≤ a2 ∧ a2 < 3 → a5 = 90 * a0 + 30 * a2) (h7 : a6 = a5 + a1 ∨ a5 + a1 < -2147483648 ∨ 2147483648 ≤ a5 + a1) : 0 ≤ a6 ∧ a6 < ((270 : Nat) : Int) := by omega
theorem z_X6_cell_7 (a0 : Int) (a1 : Int) (a2 : Int) (a3 : Int) (a4 : Int) (a5 : Int) (a6 : Int) (a7 : Int) (h0 : (a3 = 1 ∧ 0 ≤ a0 ∧ a0 < 3) ∨ (a3 = 0 ∧ (a0 < 0 ∨ 3 ≤ a0))) (h1 : ¬ (a3 = 0)) (h2 : (a7 = 1 ∧ 0 ≤ a1 ∧ a1 < 30) ∨ (a7 = 0 ∧ (a1 < 0 ∨ 30 ≤ a1))) (h3 : ¬ (a7 = 0)) (h4 : (a4 = 1 ∧ 0 ≤ a2 ∧ a2 < 3) ∨ (a4 = 0 ∧ (a2 < 0 ∨ 3 ≤ a2))) (h5 : ¬ (a4 = 0)) (h6 : 0 ≤ a0 ∧ a0 < 3 ∧ 0 ≤ a2 ∧ a2 < 3 → a5 = 90 * a0 + 30 * a2) (h7 : a6 = a5 + a1 ∨ a5 + a1 < -2147483648 ∨ 2147483648 ≤ a5 + a1) : a6 = 90 * a0 + 30 * a2 + a1 := by omega
theorem z_X6_cell_8 (a0 : Int) (a1 : Int) (h0 : a1 = a0) : a0 = a1 := by omega
abbrev rm_X6_cell : Room := { frames := 1, cells := 0, slots := 0, locals := 21 }
set_option maxHeartbeats 4000000 in
set_option maxRecDepth 100000 in
theorem c_X6_cell (l : Launch) (E : XE) (K : Nat → Nat) (F : Nat → Nat → Nat) (G : XG) (h0 : Heap) (a : Nat) (p0 : Int32) (p1 : Int32) (p2 : Int32) (ha : K a = 8) : Met l yX6_cell (xw yX6_cell cX6_cell 4 (some .int)) rm_X6_cell (va_Pc [.ref a, .int p0, .int p1, .int p2] (XPh E K F G h0)) (XQ E (fun v (u : Unit) => ∃ r : Int32, v = .int r ∧ (r.toInt = (cel (vw (G.2.1 (F a 0))) (p0.toInt) (p1.toInt) (p2.toInt)))) (fun _ H => H = h0)) 0 0 (xA E) := by
  refine x_enter (by decide) (Nat.le_of_ble_eq_true rfl) ?_
  intro p e s m args below meth c Q S hr hlk hnm hQ hP ls hl
  obtain ⟨⟨hz, hK, hT⟩, hh⟩ := hP
  obtain ⟨hx, hb, -, -, -⟩ := id S
  have hS : va_S (xA E) s.heap s.heap [] := va_S.rf
  have hl : lv_has ls 4 [(0, .ref a), (1, .int p0), (2, .int p1), (3, .int p2)] := hl
  obtain ⟨hk9999, hj9999⟩ := fkX6_0 hT ha
  refine lv_iload_n hx hb dX6_cell_0 rfl (lv_at hl 1 rfl) ?_
  refine x_clp (x_runSN (As := [.int p0]) (rest := []) S (c_X10_isTable l E K F G s.heap p0) ms_X10_isTable (by decide +kernel) rfl rfl ⟨Nat.le_of_ble_eq_true rfl, Nat.le_of_ble_eq_true rfl⟩ hK (fun _ => XPh.blind) (fun U hU hW => XPh.at hK hz hS hT hU hW) rfl hl.1 (Nat.le_of_ble_eq_true rfl) dX6_cell_1 ⟨Nat.le_of_ble_eq_true rfl, Nat.le_of_ble_eq_true rfl⟩) hS ?_
  rintro _ _ locs ⟨x1, rfl, b1, t1⟩ hS
  have t1 : (x1.toInt = 1 ∧ 0 ≤ p0.toInt ∧ p0.toInt < 3) ∨ (x1.toInt = 0 ∧ (p0.toInt < 0 ∨ 3 ≤ p0.toInt)) := t1
  refine xi_zeq (tgt := 36) hx hb (rfl : Int32.toInt x1 = x1.toInt) dX6_cell_4 (by decide) (fun c4 => ?_) (fun c4 => ?_)
  · have z36 : (¬ (0 ≤ p0.toInt ∧ p0.toInt < 3 ∧ 0 ≤ p1.toInt ∧ p1.toInt < 30 ∧ 0 ≤ p2.toInt ∧ p2.toInt < 3)) → (cel (vw (G.2.1 (F a 0))) (p0.toInt) (p1.toInt) (p2.toInt)) = -2000 := fun h9 => cel_out h9
    refine lv_sipush (v := (-2000)) hx hb dX6_cell_36 (by decide) ?_
    exact x_ri hx hb hr hlk hQ (Nat.le_of_ble_eq_true rfl) (Nat.le_of_ble_eq_true rfl) hS dX6_cell_39 () ⟨_, rfl, (by rw [((by decide) : Int32.toInt (-2000) = (-2000 : Int))] <;> exact (z_X6_cell_1 p0.toInt p1.toInt p2.toInt x1.toInt (cel (vw (G.2.1 (F a 0))) (p0.toInt) (p1.toInt) (p2.toInt)) t1 c4 z36))⟩ hh
  · refine lv_iload_n hx hb dX6_cell_7 rfl (lv_at hl 2 rfl) ?_
    refine x_clp (x_runSN (As := [.int p1]) (rest := []) S (c_X10_isKey l E K F G s.heap p1) ms_X10_isKey (by decide +kernel) rfl rfl ⟨Nat.le_of_ble_eq_true rfl, Nat.le_of_ble_eq_true rfl⟩ hK (fun _ => XPh.blind) (fun U hU hW => XPh.at hK hz hS hT hU hW) rfl hl.1 (Nat.le_of_ble_eq_true rfl) dX6_cell_8 ⟨Nat.le_of_ble_eq_true rfl, Nat.le_of_ble_eq_true rfl⟩) hS ?_
    rintro _ _ locs ⟨x8, rfl, b8, t8⟩ hS
    have t8 : (x8.toInt = 1 ∧ 0 ≤ p1.toInt ∧ p1.toInt < 30) ∨ (x8.toInt = 0 ∧ (p1.toInt < 0 ∨ 30 ≤ p1.toInt)) := t8
    refine xi_zeq (tgt := 36) hx hb (rfl : Int32.toInt x8 = x8.toInt) dX6_cell_11 (by decide) (fun c11 => ?_) (fun c11 => ?_)
    · have z36 : (¬ (0 ≤ p0.toInt ∧ p0.toInt < 3 ∧ 0 ≤ p1.toInt ∧ p1.toInt < 30 ∧ 0 ≤ p2.toInt ∧ p2.toInt < 3)) → (cel (vw (G.2.1 (F a 0))) (p0.toInt) (p1.toInt) (p2.toInt)) = -2000 := fun h9 => cel_out h9
      refine lv_sipush (v := (-2000)) hx hb dX6_cell_36 (by decide) ?_
      exact x_ri hx hb hr hlk hQ (Nat.le_of_ble_eq_true rfl) (Nat.le_of_ble_eq_true rfl) hS dX6_cell_39 () ⟨_, rfl, (by rw [((by decide) : Int32.toInt (-2000) = (-2000 : Int))] <;> exact (z_X6_cell_2 p0.toInt p1.toInt p2.toInt x8.toInt (cel (vw (G.2.1 (F a 0))) (p0.toInt) (p1.toInt) (p2.toInt)) t8 c11 z36))⟩ hh
    · refine lv_iload_n hx hb dX6_cell_14 rfl (lv_at hl 3 rfl) ?_
      refine x_clp (x_runSN (As := [.int p2]) (rest := []) S (c_X10_isColumn l E K F G s.heap p2) ms_X10_isColumn (by decide +kernel) rfl rfl ⟨Nat.le_of_ble_eq_true rfl, Nat.le_of_ble_eq_true rfl⟩ hK (fun _ => XPh.blind) (fun U hU hW => XPh.at hK hz hS hT hU hW) rfl hl.1 (Nat.le_of_ble_eq_true rfl) dX6_cell_15 ⟨Nat.le_of_ble_eq_true rfl, Nat.le_of_ble_eq_true rfl⟩) hS ?_
      rintro _ _ locs ⟨x15, rfl, b15, t15⟩ hS
      have t15 : (x15.toInt = 1 ∧ 0 ≤ p2.toInt ∧ p2.toInt < 3) ∨ (x15.toInt = 0 ∧ (p2.toInt < 0 ∨ 3 ≤ p2.toInt)) := t15
      refine xi_zeq (tgt := 36) hx hb (rfl : Int32.toInt x15 = x15.toInt) dX6_cell_18 (by decide) (fun c18 => ?_) (fun c18 => ?_)
      · have z36 : (¬ (0 ≤ p0.toInt ∧ p0.toInt < 3 ∧ 0 ≤ p1.toInt ∧ p1.toInt < 30 ∧ 0 ≤ p2.toInt ∧ p2.toInt < 3)) → (cel (vw (G.2.1 (F a 0))) (p0.toInt) (p1.toInt) (p2.toInt)) = -2000 := fun h9 => cel_out h9
        refine lv_sipush (v := (-2000)) hx hb dX6_cell_36 (by decide) ?_
        exact x_ri hx hb hr hlk hQ (Nat.le_of_ble_eq_true rfl) (Nat.le_of_ble_eq_true rfl) hS dX6_cell_39 () ⟨_, rfl, (by rw [((by decide) : Int32.toInt (-2000) = (-2000 : Int))] <;> exact (z_X6_cell_3 p0.toInt p1.toInt p2.toInt x15.toInt (cel (vw (G.2.1 (F a 0))) (p0.toInt) (p1.toInt) (p2.toInt)) t15 c18 z36))⟩ hh
      · refine lv_aload_n hx hb dX6_cell_21 rfl (lv_at hl 0 rfl) ?_
        refine gX6_0 S hK hT ha kf_X6_9 dX6_cell_22 (fun _ _ => ?_)
        refine lv_iload_n hx hb dX6_cell_25 rfl (lv_at hl 1 rfl) ?_
        refine lv_iload_n hx hb dX6_cell_26 rfl (lv_at hl 3 rfl) ?_
        refine x_clp (x_runS (As := [.int p0, .int p2]) (rest := [.ref (F a 0)]) S (c_X6_place l E K F G s.heap p0 p2) ms_X6_place km_X6_34 rfl rfl ⟨Nat.le_of_ble_eq_true rfl, Nat.le_of_ble_eq_true rfl⟩ hK (fun _ => XPh.blind) (fun U hU hW => XPh.at hK hz hS hT hU hW) rfl hl.1 (Nat.le_of_ble_eq_true rfl) dX6_cell_27 ⟨Nat.le_of_ble_eq_true rfl, Nat.le_of_ble_eq_true rfl⟩) hS ?_
        rintro _ _ locs ⟨x27, rfl, t27⟩ hS
        have t27 : 0 ≤ p0.toInt ∧ p0.toInt < 3 ∧ 0 ≤ p2.toInt ∧ p2.toInt < 3 → x27.toInt = 90 * p0.toInt + 30 * p2.toInt := t27
        refine lv_iload_n hx hb dX6_cell_30 rfl (lv_at hl 2 rfl) ?_
        refine xi_iadd hx hb (rfl : Int32.toInt x27 = x27.toInt) (rfl : Int32.toInt p1 = p1.toInt) dX6_cell_31 (fun x31 t31 => ?_)
        have z32 : (cel (vw (G.2.1 (F a 0))) (p0.toInt) (p1.toInt) (p2.toInt)) = (aI (G.2.1 (F a 0)) (90 * p0.toInt + 30 * p2.toInt + p1.toInt)) := (cel_in (z_X6_cell_4 p0.toInt p1.toInt p2.toInt x1.toInt x15.toInt x8.toInt t1 c4 t8 c11 t15 c18)).trans (vw_in (z_X6_cell_5 p0.toInt p1.toInt p2.toInt x1.toInt x15.toInt x8.toInt t1 c4 t8 c11 t15 c18))
        refine al_0 S hK hT hk9999 ar_20 (by decide) (z_X6_cell_6 p0.toInt p1.toInt p2.toInt x1.toInt x15.toInt x27.toInt x31.toInt x8.toInt t1 c4 t8 c11 t15 c18 t27 t31) dX6_cell_32 (fun x32 hv32 o32 => ?_)
        have hv32 : x32.toInt = (aI (G.2.1 (F a 0)) (90 * p0.toInt + 30 * p2.toInt + p1.toInt)) := hv32.trans (by rw [((rfl : Int32.toInt x31 = x31.toInt).trans (z_X6_cell_7 p0.toInt p1.toInt p2.toInt x1.toInt x15.toInt x27.toInt x31.toInt x8.toInt t1 c4 t8 c11 t15 c18 t27 t31))])
        refine lv_goto (tgt := 39) hx hb dX6_cell_33 (by decide) ?_
        exact x_ri hx hb hr hlk hQ (Nat.le_of_ble_eq_true rfl) (Nat.le_of_ble_eq_true rfl) hS dX6_cell_39 () ⟨_, rfl, (by rw [(hv32 : Int32.toInt x32 = (aI (G.2.1 (F a 0)) (90 * p0.toInt + 30 * p2.toInt + p1.toInt)))] <;> exact (z_X6_cell_8 (aI (G.2.1 (F a 0)) (90 * p0.toInt + 30 * p2.toInt + p1.toInt)) (cel (vw (G.2.1 (F a 0))) (p0.toInt) (p1.toInt) (p2.toInt)) z32))⟩ hh

theorem z_X6_has_1 (a0 : Int) (a1 : Int) (a2 : Int) (a3 : Int) (h0 : (a2 = 1 ∧ 0 ≤ a0 ∧ a0 < 3) ∨ (a2 = 0 ∧ (a0 < 0 ∨ 3 ≤ a0))) (h1 : a2 = 0) (h2 : (¬ (0 ≤ a0 ∧ a0 < 3 ∧ 0 ≤ a1 ∧ a1 < 30)) → a3 = -2000) : ((0 : Int) = 1 ∧ a3 ≠ -2000) ∨ ((0 : Int) = 0 ∧ a3 = -2000) := by omega
theorem z_X6_has_2 (a0 : Int) (a1 : Int) (a2 : Int) (a3 : Int) (h0 : (a2 = 1 ∧ 0 ≤ a1 ∧ a1 < 30) ∨ (a2 = 0 ∧ (a1 < 0 ∨ 30 ≤ a1))) (h1 : a2 = 0) (h2 : (¬ (0 ≤ a0 ∧ a0 < 3 ∧ 0 ≤ a1 ∧ a1 < 30)) → a3 = -2000) : ((0 : Int) = 1 ∧ a3 ≠ -2000) ∨ ((0 : Int) = 0 ∧ a3 = -2000) := by omega
theorem z_X6_has_3 (a0 : Int) (a1 : Int) (h0 : (a1 = 1 ∧ 0 ≤ a0 ∧ a0 < 3) ∨ (a1 = 0 ∧ (a0 < 0 ∨ 3 ≤ a0))) (h1 : ¬ (a1 = 0)) : 0 ≤ a0 ∧ a0 < ((3 : Nat) : Int) := by omega
theorem z_X6_has_4 (a0 : Int) (a1 : Int) (h0 : (a1 = 1 ∧ 0 ≤ a0 ∧ a0 < 30) ∨ (a1 = 0 ∧ (a0 < 0 ∨ 30 ≤ a0))) (h1 : ¬ (a1 = 0)) : 0 ≤ a0 ∧ a0 < 32 := by omega
theorem z_X6_has_6 (a0 : Int) (a1 : Int) (a2 : Int) (a3 : Int) (h0 : (a2 = 1 ∧ 0 ≤ a0 ∧ a0 < 3) ∨ (a2 = 0 ∧ (a0 < 0 ∨ 3 ≤ a0))) (h1 : ¬ (a2 = 0)) (h2 : (a3 = 1 ∧ 0 ≤ a1 ∧ a1 < 30) ∨ (a3 = 0 ∧ (a1 < 0 ∨ 30 ≤ a1))) (h3 : ¬ (a3 = 0)) : 0 ≤ a0 ∧ a0 < 3 ∧ 0 ≤ a1 ∧ a1 < 30 := by omega
theorem z_X6_has_7 (a0 : Int) (a1 : Int) (h0 : (a0 = 1 ∧ a1 ≠ -2000) ∨ (a0 = 0 ∧ a1 = -2000)) (h1 : a0 = 0) : ((0 : Int) = 1 ∧ a1 ≠ -2000) ∨ ((0 : Int) = 0 ∧ a1 = -2000) := by omega
theorem z_X6_has_8 (a0 : Int) (a1 : Int) (h0 : (a0 = 1 ∧ a1 ≠ -2000) ∨ (a0 = 0 ∧ a1 = -2000)) (h1 : ¬ (a0 = 0)) : ((1 : Int) = 1 ∧ a1 ≠ -2000) ∨ ((1 : Int) = 0 ∧ a1 = -2000) := by omega
abbrev rm_X6_has : Room := { frames := 1, cells := 0, slots := 0, locals := 20 }
set_option maxHeartbeats 4000000 in
set_option maxRecDepth 100000 in
theorem c_X6_has (l : Launch) (E : XE) (K : Nat → Nat) (F : Nat → Nat → Nat) (G : XG) (h0 : Heap) (a : Nat) (p0 : Int32) (p1 : Int32) (ha : K a = 8) (hro : RO (vw (G.2.1 (F a 0))) (aI (G.2.1 (F a 1)))) : Met l yX6_has (xw yX6_has cX6_has 3 (some .boolean)) rm_X6_has (va_Pc [.ref a, .int p0, .int p1] (XPh E K F G h0)) (XQ E (fun v (u : Unit) => ∃ r : Int32, v = .int r ∧ (r = 0 ∨ r = 1) ∧ ((r.toInt = 1 ∧ (cel (vw (G.2.1 (F a 0))) (p0.toInt) (p1.toInt) 0) ≠ -2000) ∨ (r.toInt = 0 ∧ (cel (vw (G.2.1 (F a 0))) (p0.toInt) (p1.toInt) 0) = -2000))) (fun _ H => H = h0)) 0 0 (xA E) := by
  refine x_enter (by decide) (Nat.le_of_ble_eq_true rfl) ?_
  intro p e s m args below meth c Q S hr hlk hnm hQ hP ls hl
  obtain ⟨⟨hz, hK, hT⟩, hh⟩ := hP
  obtain ⟨hx, hb, -, -, -⟩ := id S
  have hS : va_S (xA E) s.heap s.heap [] := va_S.rf
  have hl : lv_has ls 3 [(0, .ref a), (1, .int p0), (2, .int p1)] := hl
  obtain ⟨hk9999, hj9999⟩ := fkX6_0 hT ha
  obtain ⟨hk9999a, hj9999a⟩ := fkX6_1 hT ha
  refine lv_iload_n hx hb dX6_has_0 rfl (lv_at hl 1 rfl) ?_
  refine x_clp (x_runSN (As := [.int p0]) (rest := []) S (c_X10_isTable l E K F G s.heap p0) ms_X10_isTable (by decide +kernel) rfl rfl ⟨Nat.le_of_ble_eq_true rfl, Nat.le_of_ble_eq_true rfl⟩ hK (fun _ => XPh.blind) (fun U hU hW => XPh.at hK hz hS hT hU hW) rfl hl.1 (Nat.le_of_ble_eq_true rfl) dX6_has_1 ⟨Nat.le_of_ble_eq_true rfl, Nat.le_of_ble_eq_true rfl⟩) hS ?_
  rintro _ _ locs ⟨x1, rfl, b1, t1⟩ hS
  have t1 : (x1.toInt = 1 ∧ 0 ≤ p0.toInt ∧ p0.toInt < 3) ∨ (x1.toInt = 0 ∧ (p0.toInt < 0 ∨ 3 ≤ p0.toInt)) := t1
  refine xi_zeq (tgt := 31) hx hb (rfl : Int32.toInt x1 = x1.toInt) dX6_has_4 (by decide) (fun c4 => ?_) (fun c4 => ?_)
  · have z31 : (¬ (0 ≤ p0.toInt ∧ p0.toInt < 3 ∧ 0 ≤ p1.toInt ∧ p1.toInt < 30)) → (cel (vw (G.2.1 (F a 0))) (p0.toInt) (p1.toInt) 0) = -2000 := fun h9 => cel_out (by omega)
    refine lv_iconst (v := 0) hx hb dX6_has_31 (by decide) ?_
    exact x_rz hx hb hr (xnz (Or.inl rfl)) hlk hQ (Nat.le_of_ble_eq_true rfl) (Nat.le_of_ble_eq_true rfl) hS dX6_has_32 () ⟨_, rfl, (Or.inl rfl), (z_X6_has_1 p0.toInt p1.toInt x1.toInt (cel (vw (G.2.1 (F a 0))) (p0.toInt) (p1.toInt) 0) t1 c4 z31)⟩ hh
  · refine lv_iload_n hx hb dX6_has_7 rfl (lv_at hl 2 rfl) ?_
    refine x_clp (x_runSN (As := [.int p1]) (rest := []) S (c_X10_isKey l E K F G s.heap p1) ms_X10_isKey (by decide +kernel) rfl rfl ⟨Nat.le_of_ble_eq_true rfl, Nat.le_of_ble_eq_true rfl⟩ hK (fun _ => XPh.blind) (fun U hU hW => XPh.at hK hz hS hT hU hW) rfl hl.1 (Nat.le_of_ble_eq_true rfl) dX6_has_8 ⟨Nat.le_of_ble_eq_true rfl, Nat.le_of_ble_eq_true rfl⟩) hS ?_
    rintro _ _ locs ⟨x8, rfl, b8, t8⟩ hS
    have t8 : (x8.toInt = 1 ∧ 0 ≤ p1.toInt ∧ p1.toInt < 30) ∨ (x8.toInt = 0 ∧ (p1.toInt < 0 ∨ 30 ≤ p1.toInt)) := t8
    refine xi_zeq (tgt := 31) hx hb (rfl : Int32.toInt x8 = x8.toInt) dX6_has_11 (by decide) (fun c11 => ?_) (fun c11 => ?_)
    · have z31 : (¬ (0 ≤ p0.toInt ∧ p0.toInt < 3 ∧ 0 ≤ p1.toInt ∧ p1.toInt < 30)) → (cel (vw (G.2.1 (F a 0))) (p0.toInt) (p1.toInt) 0) = -2000 := fun h9 => cel_out (by omega)
      refine lv_iconst (v := 0) hx hb dX6_has_31 (by decide) ?_
      exact x_rz hx hb hr (xnz (Or.inl rfl)) hlk hQ (Nat.le_of_ble_eq_true rfl) (Nat.le_of_ble_eq_true rfl) hS dX6_has_32 () ⟨_, rfl, (Or.inl rfl), (z_X6_has_2 p0.toInt p1.toInt x8.toInt (cel (vw (G.2.1 (F a 0))) (p0.toInt) (p1.toInt) 0) t8 c11 z31)⟩ hh
    · refine lv_aload_n hx hb dX6_has_14 rfl (lv_at hl 0 rfl) ?_
      refine gX6_1 S hK hT ha kf_X6_15 dX6_has_15 (fun _ _ => ?_)
      refine lv_iload_n hx hb dX6_has_18 rfl (lv_at hl 1 rfl) ?_
      refine al_0 S hK hT hk9999a ar_21 (by decide) (z_X6_has_3 p0.toInt x1.toInt t1 c4) dX6_has_19 (fun x19 hv19 o19 => ?_)
      have hv19 : x19.toInt = (aI (G.2.1 (F a 1)) (p0.toInt)) := hv19.trans (by rw [(rfl : Int32.toInt p0 = p0.toInt)])
      refine lv_iload_n hx hb dX6_has_20 rfl (lv_at hl 2 rfl) ?_
      refine lv_ishr hx hb dX6_has_21 (lv_topi (fun x21 he21 => ?_))
      refine lv_iconst (v := 1) hx hb dX6_has_22 (by decide) ?_
      refine lv_iand hx hb dX6_has_23 (lv_topi (fun x23 he23 => ?_))
      have hb23 : x23.toInt = (bI (aI (G.2.1 (F a 1)) (p0.toInt)) (p1.toInt)) := bI_and he21 he23 (hv19 : Int32.toInt x19 = (aI (G.2.1 (F a 1)) (p0.toInt))) (rfl : Int32.toInt p1 = p1.toInt) (z_X6_has_4 p1.toInt x8.toInt t8 c11)
      have hb23a : x23.toInt = 0 ∨ x23.toInt = 1 := by rw [hb23]; exact bI01 _ _
      have z24 : (x23.toInt = 1 ∧ (cel (vw (G.2.1 (F a 0))) (p0.toInt) (p1.toInt) 0) ≠ -2000) ∨ (x23.toInt = 0 ∧ (cel (vw (G.2.1 (F a 0))) (p0.toInt) (p1.toInt) 0) = -2000) := RO.has hro (hb23) (z_X6_has_6 p0.toInt p1.toInt x1.toInt x8.toInt t1 c4 t8 c11)
      refine xi_zeq (tgt := 31) hx hb (rfl : Int32.toInt x23 = x23.toInt) dX6_has_24 (by decide) (fun c24 => ?_) (fun c24 => ?_)
      · have z31 : (¬ (0 ≤ p0.toInt ∧ p0.toInt < 3 ∧ 0 ≤ p1.toInt ∧ p1.toInt < 30)) → (cel (vw (G.2.1 (F a 0))) (p0.toInt) (p1.toInt) 0) = -2000 := fun h9 => cel_out (by omega)
        refine lv_iconst (v := 0) hx hb dX6_has_31 (by decide) ?_
        exact x_rz hx hb hr (xnz (Or.inl rfl)) hlk hQ (Nat.le_of_ble_eq_true rfl) (Nat.le_of_ble_eq_true rfl) hS dX6_has_32 () ⟨_, rfl, (Or.inl rfl), (z_X6_has_7 x23.toInt (cel (vw (G.2.1 (F a 0))) (p0.toInt) (p1.toInt) 0) z24 c24)⟩ hh
      · refine lv_iconst (v := 1) hx hb dX6_has_27 (by decide) ?_
        refine lv_goto (tgt := 32) hx hb dX6_has_28 (by decide) ?_
        exact x_rz hx hb hr (xnz (Or.inr rfl)) hlk hQ (Nat.le_of_ble_eq_true rfl) (Nat.le_of_ble_eq_true rfl) hS dX6_has_32 () ⟨_, rfl, (Or.inr rfl), (z_X6_has_8 x23.toInt (cel (vw (G.2.1 (F a 0))) (p0.toInt) (p1.toInt) 0) z24 c24)⟩ hh

theorem z_X6_keyBits_1 (a0 : Int) (a1 : Int) (a2 : Int) (h0 : (a1 = 1 ∧ 0 ≤ a0 ∧ a0 < 3) ∨ (a1 = 0 ∧ (a0 < 0 ∨ 3 ≤ a0))) (h1 : a1 = 0) : (0 ≤ a0 ∧ a0 < 3 ∧ (0 : Int) = a2) ∨ ((a0 < 0 ∨ 3 ≤ a0) ∧ (0 : Int) = 0) := by omega
theorem z_X6_keyBits_3 (a0 : Int) (a1 : Int) (a2 : Int) (h0 : (a1 = 1 ∧ 0 ≤ a0 ∧ a0 < 3) ∨ (a1 = 0 ∧ (a0 < 0 ∨ 3 ≤ a0))) (h1 : ¬ (a1 = 0)) : (0 ≤ a0 ∧ a0 < 3 ∧ a2 = a2) ∨ ((a0 < 0 ∨ 3 ≤ a0) ∧ a2 = 0) := by omega
abbrev rm_X6_keyBits : Room := { frames := 1, cells := 0, slots := 0, locals := 20 }
set_option maxHeartbeats 4000000 in
set_option maxRecDepth 100000 in
theorem c_X6_keyBits (l : Launch) (E : XE) (K : Nat → Nat) (F : Nat → Nat → Nat) (G : XG) (h0 : Heap) (a : Nat) (p0 : Int32) (ha : K a = 8) : Met l yX6_keyBits (xw yX6_keyBits cX6_keyBits 2 (some .int)) rm_X6_keyBits (va_Pc [.ref a, .int p0] (XPh E K F G h0)) (XQ E (fun v (u : Unit) => ∃ r : Int32, v = .int r ∧ ((0 ≤ p0.toInt ∧ p0.toInt < 3 ∧ r.toInt = (aI (G.2.1 (F a 1)) (p0.toInt))) ∨ ((p0.toInt < 0 ∨ 3 ≤ p0.toInt) ∧ r.toInt = 0))) (fun _ H => H = h0)) 0 0 (xA E) := by
  refine x_enter (by decide) (Nat.le_of_ble_eq_true rfl) ?_
  intro p e s m args below meth c Q S hr hlk hnm hQ hP ls hl
  obtain ⟨⟨hz, hK, hT⟩, hh⟩ := hP
  obtain ⟨hx, hb, -, -, -⟩ := id S
  have hS : va_S (xA E) s.heap s.heap [] := va_S.rf
  have hl : lv_has ls 2 [(0, .ref a), (1, .int p0)] := hl
  obtain ⟨hk9999, hj9999⟩ := fkX6_1 hT ha
  refine lv_iload_n hx hb dX6_keyBits_0 rfl (lv_at hl 1 rfl) ?_
  refine x_clp (x_runSN (As := [.int p0]) (rest := []) S (c_X10_isTable l E K F G s.heap p0) ms_X10_isTable (by decide +kernel) rfl rfl ⟨Nat.le_of_ble_eq_true rfl, Nat.le_of_ble_eq_true rfl⟩ hK (fun _ => XPh.blind) (fun U hU hW => XPh.at hK hz hS hT hU hW) rfl hl.1 (Nat.le_of_ble_eq_true rfl) dX6_keyBits_1 ⟨Nat.le_of_ble_eq_true rfl, Nat.le_of_ble_eq_true rfl⟩) hS ?_
  rintro _ _ locs ⟨x1, rfl, b1, t1⟩ hS
  have t1 : (x1.toInt = 1 ∧ 0 ≤ p0.toInt ∧ p0.toInt < 3) ∨ (x1.toInt = 0 ∧ (p0.toInt < 0 ∨ 3 ≤ p0.toInt)) := t1
  refine xi_zeq (tgt := 16) hx hb (rfl : Int32.toInt x1 = x1.toInt) dX6_keyBits_4 (by decide) (fun c4 => ?_) (fun c4 => ?_)
  · refine lv_iconst (v := 0) hx hb dX6_keyBits_16 (by decide) ?_
    exact x_ri hx hb hr hlk hQ (Nat.le_of_ble_eq_true rfl) (Nat.le_of_ble_eq_true rfl) hS dX6_keyBits_17 () ⟨_, rfl, (z_X6_keyBits_1 p0.toInt x1.toInt (aI (G.2.1 (F a 1)) (p0.toInt)) t1 c4)⟩ hh
  · refine lv_aload_n hx hb dX6_keyBits_7 rfl (lv_at hl 0 rfl) ?_
    refine gX6_1 S hK hT ha kf_X6_15 dX6_keyBits_8 (fun _ _ => ?_)
    refine lv_iload_n hx hb dX6_keyBits_11 rfl (lv_at hl 1 rfl) ?_
    refine al_0 S hK hT hk9999 ar_21 (by decide) (z_X6_has_3 p0.toInt x1.toInt t1 c4) dX6_keyBits_12 (fun x12 hv12 o12 => ?_)
    have hv12 : x12.toInt = (aI (G.2.1 (F a 1)) (p0.toInt)) := hv12.trans (by rw [(rfl : Int32.toInt p0 = p0.toInt)])
    refine lv_goto (tgt := 17) hx hb dX6_keyBits_13 (by decide) ?_
    exact x_ri hx hb hr hlk hQ (Nat.le_of_ble_eq_true rfl) (Nat.le_of_ble_eq_true rfl) hS dX6_keyBits_17 () ⟨_, rfl, (by rw [(hv12 : Int32.toInt x12 = (aI (G.2.1 (F a 1)) (p0.toInt)))] <;> exact (z_X6_keyBits_3 p0.toInt x1.toInt (aI (G.2.1 (F a 1)) (p0.toInt)) t1 c4))⟩ hh

theorem z_X6_having_1 (a0 : Int) (a1 : Int) (a2 : Int) (h0 : 0 ≤ a0 ∧ a0 < 3 ∧ 0 ≤ a1 ∧ a1 < 3) (h1 : (a2 = 1 ∧ 0 ≤ a0 ∧ a0 < 3) ∨ (a2 = 0 ∧ (a0 < 0 ∨ 3 ≤ a0))) (h2 : a2 = 0) : (0 : Int) = 1 ∧ a2 = a2 := by omega
theorem z_X6_having_2 (a0 : Int) (h0 : 0 ≤ a0 ∧ a0 ≤ 30) : ¬ (2147483648 - a0 < ((0 : Nat) : Int)) := by omega
theorem z_X6_having_3 (a0 : Int) (a1 : Int) (a2 : Int) (a3 : Int) (h0 : a0 = a2) (h1 : 0 ≤ a1 ∧ a1 ≤ 30) (h2 : (30 : Int) ≤ a1) (h3 : a1 = 30 → a2 = a3) : a0 = a3 := by omega
theorem z_X6_having_4 (a0 : Int) (a1 : Int) (a2 : Int) (a3 : Int) (a4 : Int) (a5 : Int) (h0 : 0 ≤ a2 ∧ a2 < 3 ∧ 0 ≤ a3 ∧ a3 < 3) (h1 : 0 ≤ a2 ∧ a2 < 3 ∧ 0 ≤ a3 ∧ a3 < 3 → a4 = 90 * a2 + 30 * a3) (h2 : 0 ≤ a0 ∧ a0 ≤ a1) (h3 : ¬ ((30 : Int) ≤ a1)) (h4 : a5 = a4 + a1 ∨ a4 + a1 < -2147483648 ∨ 2147483648 ≤ a4 + a1) : 0 ≤ a5 ∧ a5 < ((270 : Nat) : Int) := by omega
theorem z_X6_having_5 (a0 : Int) (a1 : Int) (a2 : Int) (a3 : Int) (a4 : Int) (a5 : Int) (h0 : 0 ≤ a2 ∧ a2 < 3 ∧ 0 ≤ a3 ∧ a3 < 3) (h1 : 0 ≤ a2 ∧ a2 < 3 ∧ 0 ≤ a3 ∧ a3 < 3 → a4 = 90 * a2 + 30 * a3) (h2 : 0 ≤ a0 ∧ a0 ≤ a1) (h3 : ¬ ((30 : Int) ≤ a1)) (h4 : a5 = a4 + a1 ∨ a4 + a1 < -2147483648 ∨ 2147483648 ≤ a4 + a1) : a5 = (90 * a2 + 30 * a3) + a1 := by omega
theorem z_X6_having_6 (a0 : Int) (h0 : 0 ≤ a0 ∧ a0 ≤ 30) : 0 ≤ a0 := by omega
theorem z_X6_having_7 (a0 : Int) (a1 : Int) (a2 : Int) (a3 : Int) (h0 : 0 ≤ a2 ∧ a2 < 3 ∧ 0 ≤ a3 ∧ a3 < 3) (h1 : 0 ≤ a0 ∧ a0 ≤ a1) (h2 : ¬ ((30 : Int) ≤ a1)) : 0 ≤ (90 * a2 + 30 * a3) + a1 ∧ (90 * a2 + 30 * a3) + a1 < 270 := by omega
theorem z_X6_having_8 (a0 : Int) (a1 : Int) (h0 : 0 ≤ a0 ∧ a0 ≤ 30) (h1 : a1 = (a0 + 1) ∨ (a0 + 1) < -2147483648 ∨ 2147483648 ≤ (a0 + 1)) : a1 = (a0 + 1) := by omega
theorem z_X6_having_9 (a0 : Int) (a1 : Int) (a2 : Int) (a3 : Int) (a4 : Int) (h0 : a0 = a4) (h1 : a2 ≠ a1 → a3 = a4) (h2 : a2 ≠ a1) : a0 = a3 := by omega
theorem z_X6_having_10 (a0 : Int) (h0 : 0 ≤ a0 ∧ a0 ≤ 30) (h1 : ¬ ((30 : Int) ≤ a0)) : 0 ≤ (a0 + 1) ∧ (a0 + 1) ≤ 30 := by omega
theorem z_X6_having_11 (a0 : Int) (a1 : Int) (h0 : 0 ≤ a0 ∧ a0 ≤ a1) : 0 ≤ a0 ∧ a0 ≤ (a1 + 1) := by omega
theorem z_X6_having_12 (a0 : Int) (h0 : 0 ≤ a0 ∧ a0 ≤ 30) : (0 : Int) ≤ (a0 + 1) := by omega
theorem z_X6_having_13 (a0 : Int) (a1 : Nat) (h0 : 2147483648 - a0 < ((a1 + 1 : Nat) : Int)) : 2147483648 - (a0 + 1) < ((a1 : Nat) : Int) := by omega
theorem z_X6_having_14 (a0 : Int) (a1 : Int) (a2 : Int) (h0 : 0 ≤ a0 ∧ a0 ≤ a1) (h1 : ¬ ((30 : Int) ≤ a1)) (h2 : a2 = (a0 + 1) ∨ (a0 + 1) < -2147483648 ∨ 2147483648 ≤ (a0 + 1)) : a2 = (a0 + 1) := by omega
theorem z_X6_having_16 (a0 : Int) (a1 : Int) (a2 : Int) (a3 : Int) (a4 : Int) (h0 : a0 = a4) (h1 : a2 = a1 → a3 = a4 + 1) (h2 : ¬ (a2 ≠ a1)) : (a0 + 1) = a3 := by omega
theorem z_X6_having_18 (a0 : Int) (a1 : Int) (h0 : 0 ≤ a0 ∧ a0 ≤ a1) : 0 ≤ (a0 + 1) ∧ (a0 + 1) ≤ (a1 + 1) := by omega
theorem z_X6_having_21 (a0 : Int) (h0 : a0 = 0) : (0 : Int) = a0 := by omega
theorem z_X6_having_22 (a0 : Int) (a1 : Int) (a2 : Int) (h0 : 0 ≤ a0 ∧ a0 < 3 ∧ 0 ≤ a1 ∧ a1 < 3) (h1 : (a2 = 1 ∧ 0 ≤ a1 ∧ a1 < 3) ∨ (a2 = 0 ∧ (a1 < 0 ∨ 3 ≤ a1))) (h2 : ¬ (a2 ≠ 0)) : (0 : Int) = 1 ∧ a2 = a2 := by omega
abbrev rm_X6_having : Room := { frames := 1, cells := 0, slots := 0, locals := 21 }
set_option maxHeartbeats 4000000 in
set_option maxRecDepth 100000 in
theorem c_X6_having (l : Launch) (E : XE) (K : Nat → Nat) (F : Nat → Nat → Nat) (G : XG) (h0 : Heap) (a : Nat) (p0 : Int32) (p1 : Int32) (p2 : Int32) (ha : K a = 8) (e0 : 0 ≤ p0.toInt ∧ p0.toInt < 3 ∧ 0 ≤ p1.toInt ∧ p1.toInt < 3) : Met l yX6_having (xw yX6_having cX6_having 7 (some .int)) rm_X6_having (va_Pc [.ref a, .int p0, .int p1, .int p2] (XPh E K F G h0)) (XQ E (fun v (u : Unit) => ∃ r : Int32, v = .int r ∧ (r.toInt = (hv (vw (G.2.1 (F a 0))) (90 * p0.toInt + 30 * p1.toInt) (p2.toInt) 30))) (fun _ H => H = h0)) 0 0 (xA E) := by
  refine x_enter (by decide) (Nat.le_of_ble_eq_true rfl) ?_
  intro p e s m args below meth c Q S hr hlk hnm hQ hP ls hl
  obtain ⟨⟨hz, hK, hT⟩, hh⟩ := hP
  obtain ⟨hx, hb, -, -, -⟩ := id S
  have hS : va_S (xA E) s.heap s.heap [] := va_S.rf
  have hl : lv_has ls 7 [(0, .ref a), (1, .int p0), (2, .int p1), (3, .int p2)] := hl
  obtain ⟨hk9999, hj9999⟩ := fkX6_0 hT ha
  refine lv_iload_n hx hb dX6_having_0 rfl (lv_at hl 1 rfl) ?_
  refine x_clp (x_runSN (As := [.int p0]) (rest := []) S (c_X10_isTable l E K F G s.heap p0) ms_X10_isTable (by decide +kernel) rfl rfl ⟨Nat.le_of_ble_eq_true rfl, Nat.le_of_ble_eq_true rfl⟩ hK (fun _ => XPh.blind) (fun U hU hW => XPh.at hK hz hS hT hU hW) rfl hl.1 (Nat.le_of_ble_eq_true rfl) dX6_having_1 ⟨Nat.le_of_ble_eq_true rfl, Nat.le_of_ble_eq_true rfl⟩) hS ?_
  rintro _ _ locs ⟨x1, rfl, b1, t1⟩ hS
  have t1 : (x1.toInt = 1 ∧ 0 ≤ p0.toInt ∧ p0.toInt < 3) ∨ (x1.toInt = 0 ∧ (p0.toInt < 0 ∨ 3 ≤ p0.toInt)) := t1
  refine xi_zeq (tgt := 14) hx hb (rfl : Int32.toInt x1 = x1.toInt) dX6_having_4 (by decide) (fun c4 => ?_) (fun c4 => ?_)
  · exact absurd ((z_X6_having_1 p0.toInt p1.toInt x1.toInt e0 t1 c4)).1 (by decide)
  · refine lv_iload_n hx hb dX6_having_7 rfl (lv_at hl 2 rfl) ?_
    refine x_clp (x_runSN (As := [.int p1]) (rest := []) S (c_X10_isColumn l E K F G s.heap p1) ms_X10_isColumn (by decide +kernel) rfl rfl ⟨Nat.le_of_ble_eq_true rfl, Nat.le_of_ble_eq_true rfl⟩ hK (fun _ => XPh.blind) (fun U hU hW => XPh.at hK hz hS hT hU hW) rfl hl.1 (Nat.le_of_ble_eq_true rfl) dX6_having_8 ⟨Nat.le_of_ble_eq_true rfl, Nat.le_of_ble_eq_true rfl⟩) hS ?_
    rintro _ _ locs ⟨x8, rfl, b8, t8⟩ hS
    have t8 : (x8.toInt = 1 ∧ 0 ≤ p1.toInt ∧ p1.toInt < 3) ∨ (x8.toInt = 0 ∧ (p1.toInt < 0 ∨ 3 ≤ p1.toInt)) := t8
    refine xi_zne (tgt := 16) hx hb (rfl : Int32.toInt x8 = x8.toInt) dX6_having_11 (by decide) (fun c11 => ?_) (fun c11 => ?_)
    · refine lv_iload_n hx hb dX6_having_16 rfl (lv_at hl 1 rfl) ?_
      refine lv_iload_n hx hb dX6_having_17 rfl (lv_at hl 2 rfl) ?_
      refine x_clp (x_runS (As := [.int p0, .int p1]) (rest := []) S (c_X6_place l E K F G s.heap p0 p1) ms_X6_place km_X6_34 rfl rfl ⟨Nat.le_of_ble_eq_true rfl, Nat.le_of_ble_eq_true rfl⟩ hK (fun _ => XPh.blind) (fun U hU hW => XPh.at hK hz hS hT hU hW) rfl hl.1 (Nat.le_of_ble_eq_true rfl) dX6_having_18 ⟨Nat.le_of_ble_eq_true rfl, Nat.le_of_ble_eq_true rfl⟩) hS ?_
      rintro _ _ locs ⟨x18, rfl, t18⟩ hS
      have t18 : 0 ≤ p0.toInt ∧ p0.toInt < 3 ∧ 0 ≤ p1.toInt ∧ p1.toInt < 3 → x18.toInt = 90 * p0.toInt + 30 * p1.toInt := t18
      refine lv_istore (lv' := [(4, .int x18), (0, .ref a), (1, .int p0), (2, .int p1), (3, .int p2)]) hx hb dX6_having_21 hl (by decide) rfl (fun ls hl => ?_)
      refine lv_iconst (v := 0) hx hb dX6_having_23 (by decide) ?_
      refine lv_istore (lv' := [(5, .int 0), (4, .int x18), (0, .ref a), (1, .int p0), (2, .int p1), (3, .int p2)]) hx hb dX6_having_24 hl (by decide) rfl (fun ls hl => ?_)
      refine lv_iconst (v := 0) hx hb dX6_having_26 (by decide) ?_
      have z27 : (hv (vw (G.2.1 (F a 0))) (90 * p0.toInt + 30 * p1.toInt) (p2.toInt) 0) = 0 := hv_0 _ _ _
      refine lv_istore (lv' := [(6, .int 0), (5, .int 0), (4, .int x18), (0, .ref a), (1, .int p0), (2, .int p1), (3, .int p2)]) hx hb dX6_having_27 hl (by decide) rfl (fun ls hl => ?_)
      have L29 : ∀ (N29 : Nat) (l5_29 : Int32) (l6_29 : Int32) (locs : List Loc) (ls : Array Slot), l5_29.toInt = (hv (vw (G.2.1 (F a 0))) (90 * p0.toInt + 30 * p1.toInt) (p2.toInt) (l6_29.toInt)) → 0 ≤ l6_29.toInt ∧ l6_29.toInt ≤ 30 → 0 ≤ l5_29.toInt ∧ l5_29.toInt ≤ l6_29.toInt → (0 : Int) ≤ l6_29.toInt → 2147483648 - l6_29.toInt < ((N29 : Nat) : Int) → TW E K F G s.heap → va_S (xA E) s.heap s.heap locs → lv_has ls 7 [(0, .ref a), (3, .int p2), (4, .int x18), (5, .int l5_29), (6, .int l6_29)] → W p l e rm_X6_having s m args below meth c s.heap locs 0 0 Q (F0 m 29 ls []) := by
        intro N29
        induction N29 with
        | zero =>
          intro l5_29 l6_29 locs ls I29_0 I29_1 I29_2 I29_3 hm29
          exact absurd hm29 (z_X6_having_2 l6_29.toInt I29_1)
        | succ N29 ih29 =>
          intro l5_29 l6_29 locs ls I29_0 I29_1 I29_2 I29_3 hm29 hT hS hl
          refine lv_iload hx hb dX6_having_29 (lv_at hl 4 rfl) ?_
          refine lv_bipush (v := 30) hx hb dX6_having_31 (by decide) ?_
          refine xi_cge (tgt := 59) hx hb (rfl : Int32.toInt l6_29 = l6_29.toInt) ((by decide) : Int32.toInt 30 = (30 : Int)) dX6_having_33 (by decide) (fun c33 => ?_) (fun c33 => ?_)
          · have z59 : l6_29.toInt = 30 → (hv (vw (G.2.1 (F a 0))) (90 * p0.toInt + 30 * p1.toInt) (p2.toInt) (l6_29.toInt)) = (hv (vw (G.2.1 (F a 0))) (90 * p0.toInt + 30 * p1.toInt) (p2.toInt) 30) := fun h9 => by rw [h9]
            refine lv_iload hx hb dX6_having_59 (lv_at hl 3 rfl) ?_
            exact x_ri hx hb hr hlk hQ (Nat.le_of_ble_eq_true rfl) (Nat.le_of_ble_eq_true rfl) hS dX6_having_61 () ⟨_, rfl, (z_X6_having_3 l5_29.toInt l6_29.toInt (hv (vw (G.2.1 (F a 0))) (90 * p0.toInt + 30 * p1.toInt) (p2.toInt) (l6_29.toInt)) (hv (vw (G.2.1 (F a 0))) (90 * p0.toInt + 30 * p1.toInt) (p2.toInt) 30) I29_0 I29_1 c33 z59)⟩ hh
          · refine lv_aload_n hx hb dX6_having_36 rfl (lv_at hl 0 rfl) ?_
            refine gX6_0 S hK hT ha kf_X6_9 dX6_having_37 (fun _ _ => ?_)
            refine lv_iload hx hb dX6_having_40 (lv_at hl 2 rfl) ?_
            refine lv_iload hx hb dX6_having_42 (lv_at hl 4 rfl) ?_
            refine xi_iadd hx hb (rfl : Int32.toInt x18 = x18.toInt) (rfl : Int32.toInt l6_29 = l6_29.toInt) dX6_having_44 (fun x44 t44 => ?_)
            refine al_0 S hK hT hk9999 ar_20 (by decide) (z_X6_having_4 l5_29.toInt l6_29.toInt p0.toInt p1.toInt x18.toInt x44.toInt e0 t18 I29_2 c33 t44) dX6_having_45 (fun x45 hv45 o45 => ?_)
            have hv45 : x45.toInt = (aI (G.2.1 (F a 0)) ((90 * p0.toInt + 30 * p1.toInt) + l6_29.toInt)) := hv45.trans (by rw [((rfl : Int32.toInt x44 = x44.toInt).trans (z_X6_having_5 l5_29.toInt l6_29.toInt p0.toInt p1.toInt x18.toInt x44.toInt e0 t18 I29_2 c33 t44))])
            have z46 : ((aI (G.2.1 (F a 0)) ((90 * p0.toInt + 30 * p1.toInt) + l6_29.toInt)) = p2.toInt → (hv (vw (G.2.1 (F a 0))) (90 * p0.toInt + 30 * p1.toInt) (p2.toInt) (l6_29.toInt + 1)) = (hv (vw (G.2.1 (F a 0))) (90 * p0.toInt + 30 * p1.toInt) (p2.toInt) (l6_29.toInt)) + 1) ∧ ((aI (G.2.1 (F a 0)) ((90 * p0.toInt + 30 * p1.toInt) + l6_29.toInt)) ≠ p2.toInt → (hv (vw (G.2.1 (F a 0))) (90 * p0.toInt + 30 * p1.toInt) (p2.toInt) (l6_29.toInt + 1)) = (hv (vw (G.2.1 (F a 0))) (90 * p0.toInt + 30 * p1.toInt) (p2.toInt) (l6_29.toInt))) := hv_st (z_X6_having_6 l6_29.toInt I29_1) (vw_in (z_X6_having_7 l5_29.toInt l6_29.toInt p0.toInt p1.toInt e0 I29_2 c33)).symm
            refine lv_iload_n hx hb dX6_having_46 rfl (lv_at hl 1 rfl) ?_
            refine xi_cne (tgt := 53) hx hb (hv45 : Int32.toInt x45 = (aI (G.2.1 (F a 0)) ((90 * p0.toInt + 30 * p1.toInt) + l6_29.toInt))) (rfl : Int32.toInt p2 = p2.toInt) dX6_having_47 (by decide) (fun c47 => ?_) (fun c47 => ?_)
            · refine xi_iinc (n := 1) (lv' := fun z9 => [(6, .int z9), (0, .ref a), (3, .int p2), (4, .int x18), (5, .int l5_29)]) (k := 4) hx hb (rfl : Int32.toInt l6_29 = l6_29.toInt) (by decide) dX6_having_53 hl rfl (by decide) (fun _ => rfl) (fun x53 ls t53 hl => ?_)
              have e53 : x53.toInt = (l6_29.toInt + 1) := (z_X6_having_8 l6_29.toInt x53.toInt I29_1 t53)
              have hl : lv_has ls 7 [(6, .int x53), (0, .ref a), (3, .int p2), (4, .int x18), (5, .int l5_29)] := hl
              refine lv_goto (tgt := 29) hx hb dX6_having_56 (by decide) ?_
              exact ih29 l5_29 x53 _ _ (by rw [(e53 : Int32.toInt x53 = (l6_29.toInt + 1))] <;> exact (z_X6_having_9 l5_29.toInt p2.toInt (aI (G.2.1 (F a 0)) ((90 * p0.toInt + 30 * p1.toInt) + l6_29.toInt)) (hv (vw (G.2.1 (F a 0))) (90 * p0.toInt + 30 * p1.toInt) (p2.toInt) (l6_29.toInt + 1)) (hv (vw (G.2.1 (F a 0))) (90 * p0.toInt + 30 * p1.toInt) (p2.toInt) (l6_29.toInt)) I29_0 (z46).2 c47)) (by rw [(e53 : Int32.toInt x53 = (l6_29.toInt + 1))] <;> exact (z_X6_having_10 l6_29.toInt I29_1 c33)) (by rw [(e53 : Int32.toInt x53 = (l6_29.toInt + 1))] <;> exact (z_X6_having_11 l5_29.toInt l6_29.toInt I29_2)) (by rw [(e53 : Int32.toInt x53 = (l6_29.toInt + 1))] <;> exact (z_X6_having_12 l6_29.toInt I29_1)) (by rw [(e53 : Int32.toInt x53 = (l6_29.toInt + 1))] <;> exact (z_X6_having_13 l6_29.toInt N29 hm29)) hT hS (lv_sub hl [1, 2, 3, 4, 0] rfl)
            · refine xi_iinc (n := 1) (lv' := fun z9 => [(5, .int z9), (0, .ref a), (3, .int p2), (4, .int x18), (6, .int l6_29)]) (k := 3) hx hb (rfl : Int32.toInt l5_29 = l5_29.toInt) (by decide) dX6_having_50 hl rfl (by decide) (fun _ => rfl) (fun x50 ls t50 hl => ?_)
              have e50 : x50.toInt = (l5_29.toInt + 1) := (z_X6_having_14 l5_29.toInt l6_29.toInt x50.toInt I29_2 c33 t50)
              have hl : lv_has ls 7 [(5, .int x50), (0, .ref a), (3, .int p2), (4, .int x18), (6, .int l6_29)] := hl
              refine xi_iinc (n := 1) (lv' := fun z9 => [(6, .int z9), (5, .int x50), (0, .ref a), (3, .int p2), (4, .int x18)]) (k := 4) hx hb (rfl : Int32.toInt l6_29 = l6_29.toInt) (by decide) dX6_having_53 hl rfl (by decide) (fun _ => rfl) (fun x53 ls t53 hl => ?_)
              have e53 : x53.toInt = (l6_29.toInt + 1) := (z_X6_having_8 l6_29.toInt x53.toInt I29_1 t53)
              have hl : lv_has ls 7 [(6, .int x53), (5, .int x50), (0, .ref a), (3, .int p2), (4, .int x18)] := hl
              refine lv_goto (tgt := 29) hx hb dX6_having_56 (by decide) ?_
              exact ih29 x50 x53 _ _ (by rw [(e50 : Int32.toInt x50 = (l5_29.toInt + 1)), (e53 : Int32.toInt x53 = (l6_29.toInt + 1))] <;> exact (z_X6_having_16 l5_29.toInt p2.toInt (aI (G.2.1 (F a 0)) ((90 * p0.toInt + 30 * p1.toInt) + l6_29.toInt)) (hv (vw (G.2.1 (F a 0))) (90 * p0.toInt + 30 * p1.toInt) (p2.toInt) (l6_29.toInt + 1)) (hv (vw (G.2.1 (F a 0))) (90 * p0.toInt + 30 * p1.toInt) (p2.toInt) (l6_29.toInt)) I29_0 (z46).1 c47)) (by rw [(e53 : Int32.toInt x53 = (l6_29.toInt + 1))] <;> exact (z_X6_having_10 l6_29.toInt I29_1 c33)) (by rw [(e50 : Int32.toInt x50 = (l5_29.toInt + 1)), (e53 : Int32.toInt x53 = (l6_29.toInt + 1))] <;> exact (z_X6_having_18 l5_29.toInt l6_29.toInt I29_2)) (by rw [(e53 : Int32.toInt x53 = (l6_29.toInt + 1))] <;> exact (z_X6_having_12 l6_29.toInt I29_1)) (by rw [(e53 : Int32.toInt x53 = (l6_29.toInt + 1))] <;> exact (z_X6_having_13 l6_29.toInt N29 hm29)) hT hS (lv_sub hl [2, 3, 4, 1, 0] rfl)
      exact L29 4294967297 0 0 _ _ (z_X6_having_21 (hv (vw (G.2.1 (F a 0))) (90 * p0.toInt + 30 * p1.toInt) (p2.toInt) 0) z27) (by decide) (by decide) (by decide) (by decide) hT hS (lv_sub hl [3, 6, 2, 1, 0] rfl)
    · exact absurd ((z_X6_having_22 p0.toInt p1.toInt x8.toInt e0 t8 c11)).1 (by decide)

theorem z_X6_sumOf_1 (a0 : Int) (a1 : Int) (a2 : Int) (a3 : Int) (h0 : 0 ≤ a0 ∧ a0 < 3 ∧ 0 ≤ a1 ∧ a1 < 3 ∧ 0 ≤ a2 ∧ a2 < 3) (h1 : (a3 = 1 ∧ 0 ≤ a0 ∧ a0 < 3) ∨ (a3 = 0 ∧ (a0 < 0 ∨ 3 ≤ a0))) (h2 : a3 = 0) : (0 : Int) = 1 ∧ a3 = a3 := by omega
theorem z_X6_sumOf_2 (a0 : Int) (a1 : Int) (a2 : Int) (a3 : Int) (h0 : 0 ≤ a0 ∧ a0 < 3 ∧ 0 ≤ a1 ∧ a1 < 3 ∧ 0 ≤ a2 ∧ a2 < 3) (h1 : (a3 = 1 ∧ 0 ≤ a1 ∧ a1 < 3) ∨ (a3 = 0 ∧ (a1 < 0 ∨ 3 ≤ a1))) (h2 : a3 = 0) : (0 : Int) = 1 ∧ a3 = a3 := by omega
theorem z_X6_sumOf_4 (a0 : Int) (a1 : Int) (a2 : Int) (a3 : Int) (a4 : Int) (h0 : 0 ≤ a1 ∧ a1 ≤ 30) (h1 : (a0 = 0 ∧ a2 = 0) ∨ (a0 = 1 ∧ 1 ≤ a2)) (h2 : (30 : Int) ≤ a1) (h3 : a1 = 30 → a2 = a3) (h4 : a0 = 0) : (a3 = 0 ∧ (100000 : Int) = 100000) ∨ (a3 ≠ 0 ∧ (100000 : Int) = a4) := by omega
theorem z_X6_sumOf_5 (a0 : Int) (a1 : Int) (a2 : Int) (a3 : Int) (a4 : Int) (a5 : Int) (a6 : Int) (h0 : a0 = a5) (h1 : 0 ≤ a2 ∧ a2 ≤ 30) (h2 : (a1 = 0 ∧ a3 = 0) ∨ (a1 = 1 ∧ 1 ≤ a3)) (h3 : (30 : Int) ≤ a2) (h4 : a2 = 30 → a3 = a4) (h5 : a2 = 30 → a5 = a6) (h6 : ¬ (a1 = 0)) : (a4 = 0 ∧ a0 = 100000) ∨ (a4 ≠ 0 ∧ a0 = a6) := by omega
theorem z_X6_sumOf_6 (a0 : Int) (a1 : Int) (a2 : Int) (a3 : Int) (a4 : Int) (a5 : Int) (a6 : Int) (h0 : 0 ≤ a2 ∧ a2 < 3 ∧ 0 ≤ a3 ∧ a3 < 3 ∧ 0 ≤ a4 ∧ a4 < 3) (h1 : 0 ≤ a2 ∧ a2 < 3 ∧ 0 ≤ a3 ∧ a3 < 3 → a5 = 90 * a2 + 30 * a3) (h2 : -2000 * a1 ≤ a0 ∧ a0 ≤ 2000 * a1) (h3 : ¬ ((30 : Int) ≤ a1)) (h4 : a6 = a5 + a1 ∨ a5 + a1 < -2147483648 ∨ 2147483648 ≤ a5 + a1) : 0 ≤ a6 ∧ a6 < ((270 : Nat) : Int) := by omega
theorem z_X6_sumOf_7 (a0 : Int) (a1 : Int) (a2 : Int) (a3 : Int) (a4 : Int) (a5 : Int) (a6 : Int) (h0 : 0 ≤ a2 ∧ a2 < 3 ∧ 0 ≤ a3 ∧ a3 < 3 ∧ 0 ≤ a4 ∧ a4 < 3) (h1 : 0 ≤ a2 ∧ a2 < 3 ∧ 0 ≤ a3 ∧ a3 < 3 → a5 = 90 * a2 + 30 * a3) (h2 : -2000 * a1 ≤ a0 ∧ a0 ≤ 2000 * a1) (h3 : ¬ ((30 : Int) ≤ a1)) (h4 : a6 = a5 + a1 ∨ a5 + a1 < -2147483648 ∨ 2147483648 ≤ a5 + a1) : a6 = (90 * a2 + 30 * a3) + a1 := by omega
theorem z_X6_sumOf_9 (a0 : Int) (a1 : Int) (a2 : Int) (a3 : Int) (a4 : Int) (h0 : 0 ≤ a2 ∧ a2 < 3 ∧ 0 ≤ a3 ∧ a3 < 3 ∧ 0 ≤ a4 ∧ a4 < 3) (h1 : -2000 * a1 ≤ a0 ∧ a0 ≤ 2000 * a1) (h2 : ¬ ((30 : Int) ≤ a1)) : 0 ≤ (90 * a2 + 30 * a3) + a1 ∧ (90 * a2 + 30 * a3) + a1 < 270 := by omega
theorem z_X6_sumOf_12 (a0 : Int) (a1 : Int) (a2 : Int) (a3 : Int) (a4 : Int) (h0 : 0 ≤ a2 ∧ a2 < 3 ∧ 0 ≤ a3 ∧ a3 < 3 ∧ 0 ≤ a4 ∧ a4 < 3) (h1 : -2000 * a1 ≤ a0 ∧ a0 ≤ 2000 * a1) (h2 : ¬ ((30 : Int) ≤ a1)) : 0 ≤ (90 * a2 + 30 * a4) + a1 ∧ (90 * a2 + 30 * a4) + a1 < 270 := by omega
theorem z_X6_sumOf_13 (a0 : Int) (a1 : Int) (a2 : Int) (a3 : Int) (h0 : 0 ≤ a1 ∧ a1 < 3 ∧ 0 ≤ a2 ∧ a2 < 3 ∧ 0 ≤ a3 ∧ a3 < 3) (h1 : 0 ≤ a0 ∧ a0 ≤ 30) (h2 : ¬ ((30 : Int) ≤ a0)) : 0 ≤ (90 * a1 + 30 * a3) + a0 ∧ (90 * a1 + 30 * a3) + a0 < 270 := by omega
theorem z_X6_sumOf_19 (a0 : Int) (a1 : Int) (a2 : Int) (a3 : Int) (a4 : Int) (h0 : (a0 = 0 ∧ a4 = 0) ∨ (a0 = 1 ∧ 1 ≤ a4)) (h1 : a2 ≠ a1 → a3 = a4) (h2 : a2 ≠ a1) : (a0 = 0 ∧ a3 = 0) ∨ (a0 = 1 ∧ 1 ≤ a3) := by omega
theorem z_X6_sumOf_20 (a0 : Int) (a1 : Int) (h0 : -2000 * a1 ≤ a0 ∧ a0 ≤ 2000 * a1) : -2000 * (a1 + 1) ≤ a0 ∧ a0 ≤ 2000 * (a1 + 1) := by omega
theorem z_X6_sumOf_23 (a0 : Int) (a1 : Int) (a2 : Int) (a3 : Int) (a4 : Int) (a5 : Int) (a6 : Int) (h0 : 0 ≤ a2 ∧ a2 < 3 ∧ 0 ≤ a3 ∧ a3 < 3 ∧ 0 ≤ a4 ∧ a4 < 3) (h1 : 0 ≤ a2 ∧ a2 < 3 ∧ 0 ≤ a4 ∧ a4 < 3 → a5 = 90 * a2 + 30 * a4) (h2 : -2000 * a1 ≤ a0 ∧ a0 ≤ 2000 * a1) (h3 : ¬ ((30 : Int) ≤ a1)) (h4 : a6 = a5 + a1 ∨ a5 + a1 < -2147483648 ∨ 2147483648 ≤ a5 + a1) : 0 ≤ a6 ∧ a6 < ((270 : Nat) : Int) := by omega
theorem z_X6_sumOf_24 (a0 : Int) (a1 : Int) (a2 : Int) (a3 : Int) (a4 : Int) (a5 : Int) (a6 : Int) (h0 : 0 ≤ a2 ∧ a2 < 3 ∧ 0 ≤ a3 ∧ a3 < 3 ∧ 0 ≤ a4 ∧ a4 < 3) (h1 : 0 ≤ a2 ∧ a2 < 3 ∧ 0 ≤ a4 ∧ a4 < 3 → a5 = 90 * a2 + 30 * a4) (h2 : -2000 * a1 ≤ a0 ∧ a0 ≤ 2000 * a1) (h3 : ¬ ((30 : Int) ≤ a1)) (h4 : a6 = a5 + a1 ∨ a5 + a1 < -2147483648 ∨ 2147483648 ≤ a5 + a1) : a6 = (90 * a2 + 30 * a4) + a1 := by omega
theorem z_X6_sumOf_25 (a0 : Int) (a1 : Int) (a2 : Int) (a3 : Int) (a4 : Int) (a5 : Int) (a6 : Int) (h0 : 0 ≤ a2 ∧ a2 < 3 ∧ 0 ≤ a3 ∧ a3 < 3 ∧ 0 ≤ a4 ∧ a4 < 3) (h1 : 0 ≤ a2 ∧ a2 < 3 ∧ 0 ≤ a4 ∧ a4 < 3 → a6 = 90 * a2 + 30 * a4) (h2 : -2000 * a1 ≤ a0 ∧ a0 ≤ 2000 * a1) (h3 : ¬ ((30 : Int) ≤ a1)) (h4 : a5 = a6 + a1 ∨ a6 + a1 < -2147483648 ∨ 2147483648 ≤ a6 + a1) : 0 ≤ a5 ∧ a5 < ((270 : Nat) : Int) := by omega
theorem z_X6_sumOf_26 (a0 : Int) (a1 : Int) (a2 : Int) (a3 : Int) (a4 : Int) (a5 : Int) (a6 : Int) (h0 : 0 ≤ a2 ∧ a2 < 3 ∧ 0 ≤ a3 ∧ a3 < 3 ∧ 0 ≤ a4 ∧ a4 < 3) (h1 : 0 ≤ a2 ∧ a2 < 3 ∧ 0 ≤ a4 ∧ a4 < 3 → a6 = 90 * a2 + 30 * a4) (h2 : -2000 * a1 ≤ a0 ∧ a0 ≤ 2000 * a1) (h3 : ¬ ((30 : Int) ≤ a1)) (h4 : a5 = a6 + a1 ∨ a6 + a1 < -2147483648 ∨ 2147483648 ≤ a6 + a1) : a5 = (90 * a2 + 30 * a4) + a1 := by omega
theorem z_X6_sumOf_27 (a0 : Int) (a1 : Int) (a2 : Int) (a3 : Int) (h0 : -2000 * a1 ≤ a0 ∧ a0 ≤ 2000 * a1) (h1 : ¬ ((30 : Int) ≤ a1)) (h2 : a3 = -2000 ∨ a3 = -1000 ∨ (-99 ≤ a3 ∧ a3 ≤ 99)) (h3 : a2 = (a0 + a3) ∨ (a0 + a3) < -2147483648 ∨ 2147483648 ≤ (a0 + a3)) : a2 = (a0 + a3) := by omega
theorem z_X6_sumOf_29 (a0 : Int) (a1 : Int) (a2 : Int) (a3 : Int) (a4 : Int) (a5 : Int) (h0 : a0 = a5) (h1 : a2 = a1 → a3 ≠ -1000 → a4 = a5 + a3) (h2 : ¬ (a2 ≠ a1)) (h3 : a3 ≠ (-1000 : Int)) : (a0 + a3) = a4 := by omega
theorem z_X6_sumOf_31 (a0 : Int) (a1 : Int) (a2 : Int) (a3 : Int) (a4 : Int) (h0 : (a0 = 0 ∧ a4 = 0) ∨ (a0 = 1 ∧ 1 ≤ a4)) (h1 : a2 = a1 → a3 = a4 + 1) (h2 : ¬ (a2 ≠ a1)) : ((1 : Int) = 0 ∧ a3 = 0) ∨ ((1 : Int) = 1 ∧ 1 ≤ a3) := by omega
theorem z_X6_sumOf_32 (a0 : Int) (a1 : Int) (a2 : Int) (h0 : -2000 * a1 ≤ a0 ∧ a0 ≤ 2000 * a1) (h1 : a2 = -2000 ∨ a2 = -1000 ∨ (-99 ≤ a2 ∧ a2 ≤ 99)) : -2000 * (a1 + 1) ≤ (a0 + a2) ∧ (a0 + a2) ≤ 2000 * (a1 + 1) := by omega
theorem z_X6_sumOf_35 (a0 : Int) (a1 : Int) (h0 : a1 = (a0 + (0 : Int)) ∨ (a0 + (0 : Int)) < -2147483648 ∨ 2147483648 ≤ (a0 + (0 : Int))) (h1 : -2147483648 ≤ a0 ∧ a0 < 2147483648) : a1 = (a0 + (0 : Int)) := by omega
theorem z_X6_sumOf_37 (a0 : Int) (a1 : Int) (a2 : Int) (a3 : Int) (a4 : Int) (a5 : Int) (h0 : a0 = a5) (h1 : a2 = a1 → a3 = -1000 → a4 = a5) (h2 : ¬ (a2 ≠ a1)) (h3 : ¬ (a3 ≠ (-1000 : Int))) : (a0 + (0 : Int)) = a4 := by omega
theorem z_X6_sumOf_40 (a0 : Int) (a1 : Int) (h0 : -2000 * a1 ≤ a0 ∧ a0 ≤ 2000 * a1) : -2000 * (a1 + 1) ≤ (a0 + (0 : Int)) ∧ (a0 + (0 : Int)) ≤ 2000 * (a1 + 1) := by omega
theorem z_X6_sumOf_44 (a0 : Int) (h0 : a0 = 0) : ((0 : Int) = 0 ∧ a0 = 0) ∨ ((0 : Int) = 1 ∧ 1 ≤ a0) := by omega
theorem z_X6_sumOf_45 (a0 : Int) (a1 : Int) (a2 : Int) (a3 : Int) (h0 : 0 ≤ a0 ∧ a0 < 3 ∧ 0 ≤ a1 ∧ a1 < 3 ∧ 0 ≤ a2 ∧ a2 < 3) (h1 : (a3 = 1 ∧ 0 ≤ a2 ∧ a2 < 3) ∨ (a3 = 0 ∧ (a2 < 0 ∨ 3 ≤ a2))) (h2 : ¬ (a3 ≠ 0)) : (0 : Int) = 1 ∧ a3 = a3 := by omega
abbrev rm_X6_sumOf : Room := { frames := 1, cells := 0, slots := 0, locals := 21 }
set_option maxHeartbeats 4000000 in
set_option maxRecDepth 100000 in
theorem c_X6_sumOf (l : Launch) (E : XE) (K : Nat → Nat) (F : Nat → Nat → Nat) (G : XG) (h0 : Heap) (a : Nat) (p0 : Int32) (p1 : Int32) (p2 : Int32) (p3 : Int32) (ha : K a = 8) (e0 : 0 ≤ p0.toInt ∧ p0.toInt < 3 ∧ 0 ≤ p1.toInt ∧ p1.toInt < 3 ∧ 0 ≤ p3.toInt ∧ p3.toInt < 3) (hro : RO (vw (G.2.1 (F a 0))) (aI (G.2.1 (F a 1)))) : Met l yX6_sumOf (xw yX6_sumOf cX6_sumOf 10 (some .int)) rm_X6_sumOf (va_Pc [.ref a, .int p0, .int p1, .int p2, .int p3] (XPh E K F G h0)) (XQ E (fun v (u : Unit) => ∃ r : Int32, v = .int r ∧ (((hv (vw (G.2.1 (F a 0))) (90 * p0.toInt + 30 * p1.toInt) (p2.toInt) 30) = 0 ∧ r.toInt = 100000) ∨ ((hv (vw (G.2.1 (F a 0))) (90 * p0.toInt + 30 * p1.toInt) (p2.toInt) 30) ≠ 0 ∧ r.toInt = (smq (vw (G.2.1 (F a 0))) (90 * p0.toInt + 30 * p1.toInt) (90 * p0.toInt + 30 * p3.toInt) (p2.toInt) 30)))) (fun _ H => H = h0)) 0 0 (xA E) := by
  refine x_enter (by decide) (Nat.le_of_ble_eq_true rfl) ?_
  intro p e s m args below meth c Q S hr hlk hnm hQ hP ls hl
  obtain ⟨⟨hz, hK, hT⟩, hh⟩ := hP
  obtain ⟨hx, hb, -, -, -⟩ := id S
  have hS : va_S (xA E) s.heap s.heap [] := va_S.rf
  have hl : lv_has ls 10 [(0, .ref a), (1, .int p0), (2, .int p1), (3, .int p2), (4, .int p3)] := hl
  obtain ⟨hk9999, hj9999⟩ := fkX6_0 hT ha
  obtain ⟨hk9999a, hj9999a⟩ := fkX6_1 hT ha
  refine lv_iload_n hx hb dX6_sumOf_0 rfl (lv_at hl 1 rfl) ?_
  refine x_clp (x_runSN (As := [.int p0]) (rest := []) S (c_X10_isTable l E K F G s.heap p0) ms_X10_isTable (by decide +kernel) rfl rfl ⟨Nat.le_of_ble_eq_true rfl, Nat.le_of_ble_eq_true rfl⟩ hK (fun _ => XPh.blind) (fun U hU hW => XPh.at hK hz hS hT hU hW) rfl hl.1 (Nat.le_of_ble_eq_true rfl) dX6_sumOf_1 ⟨Nat.le_of_ble_eq_true rfl, Nat.le_of_ble_eq_true rfl⟩) hS ?_
  rintro _ _ locs ⟨x1, rfl, b1, t1⟩ hS
  have t1 : (x1.toInt = 1 ∧ 0 ≤ p0.toInt ∧ p0.toInt < 3) ∨ (x1.toInt = 0 ∧ (p0.toInt < 0 ∨ 3 ≤ p0.toInt)) := t1
  refine xi_zeq (tgt := 22) hx hb (rfl : Int32.toInt x1 = x1.toInt) dX6_sumOf_4 (by decide) (fun c4 => ?_) (fun c4 => ?_)
  · exact absurd ((z_X6_sumOf_1 p0.toInt p1.toInt p3.toInt x1.toInt e0 t1 c4)).1 (by decide)
  · refine lv_iload_n hx hb dX6_sumOf_7 rfl (lv_at hl 2 rfl) ?_
    refine x_clp (x_runSN (As := [.int p1]) (rest := []) S (c_X10_isColumn l E K F G s.heap p1) ms_X10_isColumn (by decide +kernel) rfl rfl ⟨Nat.le_of_ble_eq_true rfl, Nat.le_of_ble_eq_true rfl⟩ hK (fun _ => XPh.blind) (fun U hU hW => XPh.at hK hz hS hT hU hW) rfl hl.1 (Nat.le_of_ble_eq_true rfl) dX6_sumOf_8 ⟨Nat.le_of_ble_eq_true rfl, Nat.le_of_ble_eq_true rfl⟩) hS ?_
    rintro _ _ locs ⟨x8, rfl, b8, t8⟩ hS
    have t8 : (x8.toInt = 1 ∧ 0 ≤ p1.toInt ∧ p1.toInt < 3) ∨ (x8.toInt = 0 ∧ (p1.toInt < 0 ∨ 3 ≤ p1.toInt)) := t8
    refine xi_zeq (tgt := 22) hx hb (rfl : Int32.toInt x8 = x8.toInt) dX6_sumOf_11 (by decide) (fun c11 => ?_) (fun c11 => ?_)
    · exact absurd ((z_X6_sumOf_2 p0.toInt p1.toInt p3.toInt x8.toInt e0 t8 c11)).1 (by decide)
    · refine lv_iload hx hb dX6_sumOf_14 (lv_at hl 4 rfl) ?_
      refine x_clp (x_runSN (As := [.int p3]) (rest := []) S (c_X10_isColumn l E K F G s.heap p3) ms_X10_isColumn (by decide +kernel) rfl rfl ⟨Nat.le_of_ble_eq_true rfl, Nat.le_of_ble_eq_true rfl⟩ hK (fun _ => XPh.blind) (fun U hU hW => XPh.at hK hz hS hT hU hW) rfl hl.1 (Nat.le_of_ble_eq_true rfl) dX6_sumOf_16 ⟨Nat.le_of_ble_eq_true rfl, Nat.le_of_ble_eq_true rfl⟩) hS ?_
      rintro _ _ locs ⟨x16, rfl, b16, t16⟩ hS
      have t16 : (x16.toInt = 1 ∧ 0 ≤ p3.toInt ∧ p3.toInt < 3) ∨ (x16.toInt = 0 ∧ (p3.toInt < 0 ∨ 3 ≤ p3.toInt)) := t16
      refine xi_zne (tgt := 25) hx hb (rfl : Int32.toInt x16 = x16.toInt) dX6_sumOf_19 (by decide) (fun c19 => ?_) (fun c19 => ?_)
      · refine lv_iload_n hx hb dX6_sumOf_25 rfl (lv_at hl 1 rfl) ?_
        refine lv_iload_n hx hb dX6_sumOf_26 rfl (lv_at hl 2 rfl) ?_
        refine x_clp (x_runS (As := [.int p0, .int p1]) (rest := []) S (c_X6_place l E K F G s.heap p0 p1) ms_X6_place km_X6_34 rfl rfl ⟨Nat.le_of_ble_eq_true rfl, Nat.le_of_ble_eq_true rfl⟩ hK (fun _ => XPh.blind) (fun U hU hW => XPh.at hK hz hS hT hU hW) rfl hl.1 (Nat.le_of_ble_eq_true rfl) dX6_sumOf_27 ⟨Nat.le_of_ble_eq_true rfl, Nat.le_of_ble_eq_true rfl⟩) hS ?_
        rintro _ _ locs ⟨x27, rfl, t27⟩ hS
        have t27 : 0 ≤ p0.toInt ∧ p0.toInt < 3 ∧ 0 ≤ p1.toInt ∧ p1.toInt < 3 → x27.toInt = 90 * p0.toInt + 30 * p1.toInt := t27
        refine lv_istore (lv' := [(5, .int x27), (0, .ref a), (1, .int p0), (2, .int p1), (3, .int p2), (4, .int p3)]) hx hb dX6_sumOf_30 hl (by decide) rfl (fun ls hl => ?_)
        refine lv_iload_n hx hb dX6_sumOf_32 rfl (lv_at hl 2 rfl) ?_
        refine lv_iload hx hb dX6_sumOf_33 (lv_at hl 5 rfl) ?_
        refine x_clp (x_runS (As := [.int p0, .int p3]) (rest := []) S (c_X6_place l E K F G s.heap p0 p3) ms_X6_place km_X6_34 rfl rfl ⟨Nat.le_of_ble_eq_true rfl, Nat.le_of_ble_eq_true rfl⟩ hK (fun _ => XPh.blind) (fun U hU hW => XPh.at hK hz hS hT hU hW) rfl hl.1 (Nat.le_of_ble_eq_true rfl) dX6_sumOf_35 ⟨Nat.le_of_ble_eq_true rfl, Nat.le_of_ble_eq_true rfl⟩) hS ?_
        rintro _ _ locs ⟨x35, rfl, t35⟩ hS
        have t35 : 0 ≤ p0.toInt ∧ p0.toInt < 3 ∧ 0 ≤ p3.toInt ∧ p3.toInt < 3 → x35.toInt = 90 * p0.toInt + 30 * p3.toInt := t35
        refine lv_istore (lv' := [(6, .int x35), (5, .int x27), (0, .ref a), (1, .int p0), (2, .int p1), (3, .int p2), (4, .int p3)]) hx hb dX6_sumOf_38 hl (by decide) rfl (fun ls hl => ?_)
        refine lv_iconst (v := 0) hx hb dX6_sumOf_40 (by decide) ?_
        refine lv_istore (lv' := [(7, .int 0), (6, .int x35), (5, .int x27), (0, .ref a), (1, .int p0), (2, .int p1), (3, .int p2), (4, .int p3)]) hx hb dX6_sumOf_41 hl (by decide) rfl (fun ls hl => ?_)
        refine lv_iconst (v := 0) hx hb dX6_sumOf_43 (by decide) ?_
        refine lv_istore (lv' := [(8, .int 0), (7, .int 0), (6, .int x35), (5, .int x27), (0, .ref a), (1, .int p0), (2, .int p1), (3, .int p2), (4, .int p3)]) hx hb dX6_sumOf_44 hl (by decide) rfl (fun ls hl => ?_)
        refine lv_iconst (v := 0) hx hb dX6_sumOf_46 (by decide) ?_
        have z47 : (hv (vw (G.2.1 (F a 0))) (90 * p0.toInt + 30 * p1.toInt) (p2.toInt) 0) = 0 := hv_0 _ _ _
        have z47a : (smq (vw (G.2.1 (F a 0))) (90 * p0.toInt + 30 * p1.toInt) (90 * p0.toInt + 30 * p3.toInt) (p2.toInt) 0) = 0 := smq_0 _ _ _ _
        refine lv_istore (lv' := [(9, .int 0), (8, .int 0), (7, .int 0), (6, .int x35), (5, .int x27), (0, .ref a), (1, .int p0), (2, .int p1), (3, .int p2), (4, .int p3)]) hx hb dX6_sumOf_47 hl (by decide) rfl (fun ls hl => ?_)
        have L49 : ∀ (N49 : Nat) (l7_49 : Int32) (l8_49 : Int32) (l9_49 : Int32) (locs : List Loc) (ls : Array Slot), l7_49.toInt = (smq (vw (G.2.1 (F a 0))) (90 * p0.toInt + 30 * p1.toInt) (90 * p0.toInt + 30 * p3.toInt) (p2.toInt) (l9_49.toInt)) → 0 ≤ l9_49.toInt ∧ l9_49.toInt ≤ 30 → (l8_49.toInt = 0 ∧ (hv (vw (G.2.1 (F a 0))) (90 * p0.toInt + 30 * p1.toInt) (p2.toInt) (l9_49.toInt)) = 0) ∨ (l8_49.toInt = 1 ∧ 1 ≤ (hv (vw (G.2.1 (F a 0))) (90 * p0.toInt + 30 * p1.toInt) (p2.toInt) (l9_49.toInt))) → -2000 * l9_49.toInt ≤ l7_49.toInt ∧ l7_49.toInt ≤ 2000 * l9_49.toInt → (0 : Int) ≤ l9_49.toInt → 2147483648 - l9_49.toInt < ((N49 : Nat) : Int) → TW E K F G s.heap → va_S (xA E) s.heap s.heap locs → lv_has ls 10 [(0, .ref a), (3, .int p2), (5, .int x27), (6, .int x35), (7, .int l7_49), (8, .int l8_49), (9, .int l9_49)] → W p l e rm_X6_sumOf s m args below meth c s.heap locs 0 0 Q (F0 m 49 ls []) := by
          intro N49
          induction N49 with
          | zero =>
            intro l7_49 l8_49 l9_49 locs ls I49_0 I49_1 I49_2 I49_3 I49_4 hm49
            exact absurd hm49 (z_X6_having_2 l9_49.toInt I49_1)
          | succ N49 ih49 =>
            intro l7_49 l8_49 l9_49 locs ls I49_0 I49_1 I49_2 I49_3 I49_4 hm49 hT hS hl
            refine lv_iload hx hb dX6_sumOf_49 (lv_at hl 6 rfl) ?_
            refine lv_bipush (v := 30) hx hb dX6_sumOf_51 (by decide) ?_
            refine xi_cge (tgt := 114) hx hb (rfl : Int32.toInt l9_49 = l9_49.toInt) ((by decide) : Int32.toInt 30 = (30 : Int)) dX6_sumOf_53 (by decide) (fun c53 => ?_) (fun c53 => ?_)
            · have z114 : l9_49.toInt = 30 → (hv (vw (G.2.1 (F a 0))) (90 * p0.toInt + 30 * p1.toInt) (p2.toInt) (l9_49.toInt)) = (hv (vw (G.2.1 (F a 0))) (90 * p0.toInt + 30 * p1.toInt) (p2.toInt) 30) := fun h9 => by rw [h9]
              have z114a : l9_49.toInt = 30 → (smq (vw (G.2.1 (F a 0))) (90 * p0.toInt + 30 * p1.toInt) (90 * p0.toInt + 30 * p3.toInt) (p2.toInt) (l9_49.toInt)) = (smq (vw (G.2.1 (F a 0))) (90 * p0.toInt + 30 * p1.toInt) (90 * p0.toInt + 30 * p3.toInt) (p2.toInt) 30) := fun h9 => by rw [h9]
              refine lv_iload hx hb dX6_sumOf_114 (lv_at hl 5 rfl) ?_
              refine xi_zeq (tgt := 124) hx hb (rfl : Int32.toInt l8_49 = l8_49.toInt) dX6_sumOf_116 (by decide) (fun c116 => ?_) (fun c116 => ?_)
              · refine lv_ldc (v := 100000) hx hb S.2.2.2.1 (S.2.2.2.2 _ (List.mem_cons_of_mem _ kc_X6_73)) dX6_sumOf_124 ?_
                exact x_ri hx hb hr hlk hQ (Nat.le_of_ble_eq_true rfl) (Nat.le_of_ble_eq_true rfl) hS dX6_sumOf_126 () ⟨_, rfl, (z_X6_sumOf_4 l8_49.toInt l9_49.toInt (hv (vw (G.2.1 (F a 0))) (90 * p0.toInt + 30 * p1.toInt) (p2.toInt) (l9_49.toInt)) (hv (vw (G.2.1 (F a 0))) (90 * p0.toInt + 30 * p1.toInt) (p2.toInt) 30) (smq (vw (G.2.1 (F a 0))) (90 * p0.toInt + 30 * p1.toInt) (90 * p0.toInt + 30 * p3.toInt) (p2.toInt) 30) I49_1 I49_2 c53 z114 c116)⟩ hh
              · refine lv_iload hx hb dX6_sumOf_119 (lv_at hl 4 rfl) ?_
                refine lv_goto (tgt := 126) hx hb dX6_sumOf_121 (by decide) ?_
                exact x_ri hx hb hr hlk hQ (Nat.le_of_ble_eq_true rfl) (Nat.le_of_ble_eq_true rfl) hS dX6_sumOf_126 () ⟨_, rfl, (z_X6_sumOf_5 l7_49.toInt l8_49.toInt l9_49.toInt (hv (vw (G.2.1 (F a 0))) (90 * p0.toInt + 30 * p1.toInt) (p2.toInt) (l9_49.toInt)) (hv (vw (G.2.1 (F a 0))) (90 * p0.toInt + 30 * p1.toInt) (p2.toInt) 30) (smq (vw (G.2.1 (F a 0))) (90 * p0.toInt + 30 * p1.toInt) (90 * p0.toInt + 30 * p3.toInt) (p2.toInt) (l9_49.toInt)) (smq (vw (G.2.1 (F a 0))) (90 * p0.toInt + 30 * p1.toInt) (90 * p0.toInt + 30 * p3.toInt) (p2.toInt) 30) I49_0 I49_1 I49_2 c53 z114 z114a c116)⟩ hh
            · refine lv_aload_n hx hb dX6_sumOf_56 rfl (lv_at hl 0 rfl) ?_
              refine gX6_0 S hK hT ha kf_X6_9 dX6_sumOf_57 (fun _ _ => ?_)
              refine lv_iload hx hb dX6_sumOf_60 (lv_at hl 2 rfl) ?_
              refine lv_iload hx hb dX6_sumOf_62 (lv_at hl 6 rfl) ?_
              refine xi_iadd hx hb (rfl : Int32.toInt x27 = x27.toInt) (rfl : Int32.toInt l9_49 = l9_49.toInt) dX6_sumOf_64 (fun x64 t64 => ?_)
              refine al_0 S hK hT hk9999 ar_20 (by decide) (z_X6_sumOf_6 l7_49.toInt l9_49.toInt p0.toInt p1.toInt p3.toInt x27.toInt x64.toInt e0 t27 I49_3 c53 t64) dX6_sumOf_65 (fun x65 hv65 o65 => ?_)
              have hv65 : x65.toInt = (aI (G.2.1 (F a 0)) ((90 * p0.toInt + 30 * p1.toInt) + l9_49.toInt)) := hv65.trans (by rw [((rfl : Int32.toInt x64 = x64.toInt).trans (z_X6_sumOf_7 l7_49.toInt l9_49.toInt p0.toInt p1.toInt p3.toInt x27.toInt x64.toInt e0 t27 I49_3 c53 t64))])
              have z66 : ((aI (G.2.1 (F a 0)) ((90 * p0.toInt + 30 * p1.toInt) + l9_49.toInt)) = p2.toInt → (hv (vw (G.2.1 (F a 0))) (90 * p0.toInt + 30 * p1.toInt) (p2.toInt) (l9_49.toInt + 1)) = (hv (vw (G.2.1 (F a 0))) (90 * p0.toInt + 30 * p1.toInt) (p2.toInt) (l9_49.toInt)) + 1) ∧ ((aI (G.2.1 (F a 0)) ((90 * p0.toInt + 30 * p1.toInt) + l9_49.toInt)) ≠ p2.toInt → (hv (vw (G.2.1 (F a 0))) (90 * p0.toInt + 30 * p1.toInt) (p2.toInt) (l9_49.toInt + 1)) = (hv (vw (G.2.1 (F a 0))) (90 * p0.toInt + 30 * p1.toInt) (p2.toInt) (l9_49.toInt))) := hv_st (z_X6_having_6 l9_49.toInt I49_1) (vw_in (z_X6_sumOf_9 l7_49.toInt l9_49.toInt p0.toInt p1.toInt p3.toInt e0 I49_3 c53)).symm
              have z66a : ((aI (G.2.1 (F a 0)) ((90 * p0.toInt + 30 * p1.toInt) + l9_49.toInt)) = p2.toInt → (aI (G.2.1 (F a 0)) ((90 * p0.toInt + 30 * p3.toInt) + l9_49.toInt)) = -1000 → (smq (vw (G.2.1 (F a 0))) (90 * p0.toInt + 30 * p1.toInt) (90 * p0.toInt + 30 * p3.toInt) (p2.toInt) (l9_49.toInt + 1)) = (smq (vw (G.2.1 (F a 0))) (90 * p0.toInt + 30 * p1.toInt) (90 * p0.toInt + 30 * p3.toInt) (p2.toInt) (l9_49.toInt))) ∧ ((aI (G.2.1 (F a 0)) ((90 * p0.toInt + 30 * p1.toInt) + l9_49.toInt)) = p2.toInt → (aI (G.2.1 (F a 0)) ((90 * p0.toInt + 30 * p3.toInt) + l9_49.toInt)) ≠ -1000 → (smq (vw (G.2.1 (F a 0))) (90 * p0.toInt + 30 * p1.toInt) (90 * p0.toInt + 30 * p3.toInt) (p2.toInt) (l9_49.toInt + 1)) = (smq (vw (G.2.1 (F a 0))) (90 * p0.toInt + 30 * p1.toInt) (90 * p0.toInt + 30 * p3.toInt) (p2.toInt) (l9_49.toInt)) + (aI (G.2.1 (F a 0)) ((90 * p0.toInt + 30 * p3.toInt) + l9_49.toInt))) ∧ ((aI (G.2.1 (F a 0)) ((90 * p0.toInt + 30 * p1.toInt) + l9_49.toInt)) ≠ p2.toInt → (smq (vw (G.2.1 (F a 0))) (90 * p0.toInt + 30 * p1.toInt) (90 * p0.toInt + 30 * p3.toInt) (p2.toInt) (l9_49.toInt + 1)) = (smq (vw (G.2.1 (F a 0))) (90 * p0.toInt + 30 * p1.toInt) (90 * p0.toInt + 30 * p3.toInt) (p2.toInt) (l9_49.toInt))) := smq_st (z_X6_having_6 l9_49.toInt I49_1) (vw_in (z_X6_sumOf_9 l7_49.toInt l9_49.toInt p0.toInt p1.toInt p3.toInt e0 I49_3 c53)).symm (vw_in (z_X6_sumOf_12 l7_49.toInt l9_49.toInt p0.toInt p1.toInt p3.toInt e0 I49_3 c53)).symm
              have z66b : (aI (G.2.1 (F a 0)) ((90 * p0.toInt + 30 * p3.toInt) + l9_49.toInt)) = -2000 ∨ (aI (G.2.1 (F a 0)) ((90 * p0.toInt + 30 * p3.toInt) + l9_49.toInt)) = -1000 ∨ (-99 ≤ (aI (G.2.1 (F a 0)) ((90 * p0.toInt + 30 * p3.toInt) + l9_49.toInt)) ∧ (aI (G.2.1 (F a 0)) ((90 * p0.toInt + 30 * p3.toInt) + l9_49.toInt)) ≤ 99) := (show okv _ by rw [← vw_in (z_X6_sumOf_13 l9_49.toInt p0.toInt p1.toInt p3.toInt e0 I49_1 c53)]; exact hro.2.1 _ (z_X6_sumOf_13 l9_49.toInt p0.toInt p1.toInt p3.toInt e0 I49_1 c53).1 (z_X6_sumOf_13 l9_49.toInt p0.toInt p1.toInt p3.toInt e0 I49_1 c53).2)
              refine lv_iload_n hx hb dX6_sumOf_66 rfl (lv_at hl 1 rfl) ?_
              refine xi_cne (tgt := 108) hx hb (hv65 : Int32.toInt x65 = (aI (G.2.1 (F a 0)) ((90 * p0.toInt + 30 * p1.toInt) + l9_49.toInt))) (rfl : Int32.toInt p2 = p2.toInt) dX6_sumOf_67 (by decide) (fun c67 => ?_) (fun c67 => ?_)
              · refine xi_iinc (n := 1) (lv' := fun z9 => [(9, .int z9), (0, .ref a), (3, .int p2), (5, .int x27), (6, .int x35), (7, .int l7_49), (8, .int l8_49)]) (k := 6) hx hb (rfl : Int32.toInt l9_49 = l9_49.toInt) (by decide) dX6_sumOf_108 hl rfl (by decide) (fun _ => rfl) (fun x108 ls t108 hl => ?_)
                have e108 : x108.toInt = (l9_49.toInt + 1) := (z_X6_having_8 l9_49.toInt x108.toInt I49_1 t108)
                have hl : lv_has ls 10 [(9, .int x108), (0, .ref a), (3, .int p2), (5, .int x27), (6, .int x35), (7, .int l7_49), (8, .int l8_49)] := hl
                refine lv_goto (tgt := 49) hx hb dX6_sumOf_111 (by decide) ?_
                exact ih49 l7_49 l8_49 x108 _ _ (by rw [(e108 : Int32.toInt x108 = (l9_49.toInt + 1))] <;> exact (z_X6_having_9 l7_49.toInt p2.toInt (aI (G.2.1 (F a 0)) ((90 * p0.toInt + 30 * p1.toInt) + l9_49.toInt)) (smq (vw (G.2.1 (F a 0))) (90 * p0.toInt + 30 * p1.toInt) (90 * p0.toInt + 30 * p3.toInt) (p2.toInt) (l9_49.toInt + 1)) (smq (vw (G.2.1 (F a 0))) (90 * p0.toInt + 30 * p1.toInt) (90 * p0.toInt + 30 * p3.toInt) (p2.toInt) (l9_49.toInt)) I49_0 (z66a).2.2 c67)) (by rw [(e108 : Int32.toInt x108 = (l9_49.toInt + 1))] <;> exact (z_X6_having_10 l9_49.toInt I49_1 c53)) (by rw [(e108 : Int32.toInt x108 = (l9_49.toInt + 1))] <;> exact (z_X6_sumOf_19 l8_49.toInt p2.toInt (aI (G.2.1 (F a 0)) ((90 * p0.toInt + 30 * p1.toInt) + l9_49.toInt)) (hv (vw (G.2.1 (F a 0))) (90 * p0.toInt + 30 * p1.toInt) (p2.toInt) (l9_49.toInt + 1)) (hv (vw (G.2.1 (F a 0))) (90 * p0.toInt + 30 * p1.toInt) (p2.toInt) (l9_49.toInt)) I49_2 (z66).2 c67)) (by rw [(e108 : Int32.toInt x108 = (l9_49.toInt + 1))] <;> exact (z_X6_sumOf_20 l7_49.toInt l9_49.toInt I49_3)) (by rw [(e108 : Int32.toInt x108 = (l9_49.toInt + 1))] <;> exact (z_X6_having_12 l9_49.toInt I49_1)) (by rw [(e108 : Int32.toInt x108 = (l9_49.toInt + 1))] <;> exact (z_X6_having_13 l9_49.toInt N49 hm49)) hT hS (lv_sub hl [1, 2, 3, 4, 5, 6, 0] rfl)
              · refine lv_iconst (v := 1) hx hb dX6_sumOf_70 (by decide) ?_
                refine lv_istore (lv' := [(8, .int 1), (0, .ref a), (3, .int p2), (5, .int x27), (6, .int x35), (7, .int l7_49), (9, .int l9_49)]) hx hb dX6_sumOf_71 hl (by decide) rfl (fun ls hl => ?_)
                refine lv_iload hx hb dX6_sumOf_73 (lv_at hl 5 rfl) ?_
                refine lv_aload_n hx hb dX6_sumOf_75 rfl (lv_at hl 1 rfl) ?_
                refine gX6_0 S hK hT ha kf_X6_9 dX6_sumOf_76 (fun _ _ => ?_)
                refine lv_iload hx hb dX6_sumOf_79 (lv_at hl 4 rfl) ?_
                refine lv_iload hx hb dX6_sumOf_81 (lv_at hl 6 rfl) ?_
                refine xi_iadd hx hb (rfl : Int32.toInt x35 = x35.toInt) (rfl : Int32.toInt l9_49 = l9_49.toInt) dX6_sumOf_83 (fun x83 t83 => ?_)
                refine al_0 S hK hT hk9999 ar_20 (by decide) (z_X6_sumOf_23 l7_49.toInt l9_49.toInt p0.toInt p1.toInt p3.toInt x35.toInt x83.toInt e0 t35 I49_3 c53 t83) dX6_sumOf_84 (fun x84 hv84 o84 => ?_)
                have hv84 : x84.toInt = (aI (G.2.1 (F a 0)) ((90 * p0.toInt + 30 * p3.toInt) + l9_49.toInt)) := hv84.trans (by rw [((rfl : Int32.toInt x83 = x83.toInt).trans (z_X6_sumOf_24 l7_49.toInt l9_49.toInt p0.toInt p1.toInt p3.toInt x35.toInt x83.toInt e0 t35 I49_3 c53 t83))])
                refine lv_sipush (v := (-1000)) hx hb dX6_sumOf_85 (by decide) ?_
                refine xi_cne (tgt := 95) hx hb (hv84 : Int32.toInt x84 = (aI (G.2.1 (F a 0)) ((90 * p0.toInt + 30 * p3.toInt) + l9_49.toInt))) ((by decide) : Int32.toInt (-1000) = (-1000 : Int)) dX6_sumOf_88 (by decide) (fun c88 => ?_) (fun c88 => ?_)
                · refine lv_aload_n hx hb dX6_sumOf_95 rfl (lv_at hl 1 rfl) ?_
                  refine gX6_0 S hK hT ha kf_X6_9 dX6_sumOf_96 (fun _ _ => ?_)
                  refine lv_iload hx hb dX6_sumOf_99 (lv_at hl 4 rfl) ?_
                  refine lv_iload hx hb dX6_sumOf_101 (lv_at hl 6 rfl) ?_
                  refine xi_iadd hx hb (rfl : Int32.toInt x35 = x35.toInt) (rfl : Int32.toInt l9_49 = l9_49.toInt) dX6_sumOf_103 (fun x103 t103 => ?_)
                  refine al_0 S hK hT hk9999 ar_20 (by decide) (z_X6_sumOf_25 l7_49.toInt l9_49.toInt p0.toInt p1.toInt p3.toInt x103.toInt x35.toInt e0 t35 I49_3 c53 t103) dX6_sumOf_104 (fun x104 hv104 o104 => ?_)
                  have hv104 : x104.toInt = (aI (G.2.1 (F a 0)) ((90 * p0.toInt + 30 * p3.toInt) + l9_49.toInt)) := hv104.trans (by rw [((rfl : Int32.toInt x103 = x103.toInt).trans (z_X6_sumOf_26 l7_49.toInt l9_49.toInt p0.toInt p1.toInt p3.toInt x103.toInt x35.toInt e0 t35 I49_3 c53 t103))])
                  refine xi_iadd hx hb (rfl : Int32.toInt l7_49 = l7_49.toInt) (hv104 : Int32.toInt x104 = (aI (G.2.1 (F a 0)) ((90 * p0.toInt + 30 * p3.toInt) + l9_49.toInt))) dX6_sumOf_105 (fun x105 t105 => ?_)
                  have e105 : x105.toInt = (l7_49.toInt + (aI (G.2.1 (F a 0)) ((90 * p0.toInt + 30 * p3.toInt) + l9_49.toInt))) := (z_X6_sumOf_27 l7_49.toInt l9_49.toInt x105.toInt (aI (G.2.1 (F a 0)) ((90 * p0.toInt + 30 * p3.toInt) + l9_49.toInt)) I49_3 c53 z66b t105)
                  refine lv_istore (lv' := [(7, .int x105), (8, .int 1), (0, .ref a), (3, .int p2), (5, .int x27), (6, .int x35), (9, .int l9_49)]) hx hb dX6_sumOf_106 hl (by decide) rfl (fun ls hl => ?_)
                  refine xi_iinc (n := 1) (lv' := fun z9 => [(9, .int z9), (7, .int x105), (8, .int 1), (0, .ref a), (3, .int p2), (5, .int x27), (6, .int x35)]) (k := 6) hx hb (rfl : Int32.toInt l9_49 = l9_49.toInt) (by decide) dX6_sumOf_108 hl rfl (by decide) (fun _ => rfl) (fun x108 ls t108 hl => ?_)
                  have e108 : x108.toInt = (l9_49.toInt + 1) := (z_X6_having_8 l9_49.toInt x108.toInt I49_1 t108)
                  have hl : lv_has ls 10 [(9, .int x108), (7, .int x105), (8, .int 1), (0, .ref a), (3, .int p2), (5, .int x27), (6, .int x35)] := hl
                  refine lv_goto (tgt := 49) hx hb dX6_sumOf_111 (by decide) ?_
                  exact ih49 x105 1 x108 _ _ (by rw [(e105 : Int32.toInt x105 = (l7_49.toInt + (aI (G.2.1 (F a 0)) ((90 * p0.toInt + 30 * p3.toInt) + l9_49.toInt)))), (e108 : Int32.toInt x108 = (l9_49.toInt + 1))] <;> exact (z_X6_sumOf_29 l7_49.toInt p2.toInt (aI (G.2.1 (F a 0)) ((90 * p0.toInt + 30 * p1.toInt) + l9_49.toInt)) (aI (G.2.1 (F a 0)) ((90 * p0.toInt + 30 * p3.toInt) + l9_49.toInt)) (smq (vw (G.2.1 (F a 0))) (90 * p0.toInt + 30 * p1.toInt) (90 * p0.toInt + 30 * p3.toInt) (p2.toInt) (l9_49.toInt + 1)) (smq (vw (G.2.1 (F a 0))) (90 * p0.toInt + 30 * p1.toInt) (90 * p0.toInt + 30 * p3.toInt) (p2.toInt) (l9_49.toInt)) I49_0 (z66a).2.1 c67 c88)) (by rw [(e108 : Int32.toInt x108 = (l9_49.toInt + 1))] <;> exact (z_X6_having_10 l9_49.toInt I49_1 c53)) (by rw [(e108 : Int32.toInt x108 = (l9_49.toInt + 1))] <;> exact (z_X6_sumOf_31 l8_49.toInt p2.toInt (aI (G.2.1 (F a 0)) ((90 * p0.toInt + 30 * p1.toInt) + l9_49.toInt)) (hv (vw (G.2.1 (F a 0))) (90 * p0.toInt + 30 * p1.toInt) (p2.toInt) (l9_49.toInt + 1)) (hv (vw (G.2.1 (F a 0))) (90 * p0.toInt + 30 * p1.toInt) (p2.toInt) (l9_49.toInt)) I49_2 (z66).1 c67)) (by rw [(e108 : Int32.toInt x108 = (l9_49.toInt + 1)), (e105 : Int32.toInt x105 = (l7_49.toInt + (aI (G.2.1 (F a 0)) ((90 * p0.toInt + 30 * p3.toInt) + l9_49.toInt))))] <;> exact (z_X6_sumOf_32 l7_49.toInt l9_49.toInt (aI (G.2.1 (F a 0)) ((90 * p0.toInt + 30 * p3.toInt) + l9_49.toInt)) I49_3 z66b)) (by rw [(e108 : Int32.toInt x108 = (l9_49.toInt + 1))] <;> exact (z_X6_having_12 l9_49.toInt I49_1)) (by rw [(e108 : Int32.toInt x108 = (l9_49.toInt + 1))] <;> exact (z_X6_having_13 l9_49.toInt N49 hm49)) hT hS (lv_sub hl [3, 4, 5, 6, 1, 2, 0] rfl)
                · refine lv_iconst (v := 0) hx hb dX6_sumOf_91 (by decide) ?_
                  refine lv_goto (tgt := 105) hx hb dX6_sumOf_92 (by decide) ?_
                  refine xi_iadd hx hb (rfl : Int32.toInt l7_49 = l7_49.toInt) ((by decide) : Int32.toInt 0 = (0 : Int)) dX6_sumOf_105 (fun x105 t105 => ?_)
                  have e105 : x105.toInt = (l7_49.toInt + (0 : Int)) := (z_X6_sumOf_35 l7_49.toInt x105.toInt t105 (xr l7_49))
                  refine lv_istore (lv' := [(7, .int x105), (8, .int 1), (0, .ref a), (3, .int p2), (5, .int x27), (6, .int x35), (9, .int l9_49)]) hx hb dX6_sumOf_106 hl (by decide) rfl (fun ls hl => ?_)
                  refine xi_iinc (n := 1) (lv' := fun z9 => [(9, .int z9), (7, .int x105), (8, .int 1), (0, .ref a), (3, .int p2), (5, .int x27), (6, .int x35)]) (k := 6) hx hb (rfl : Int32.toInt l9_49 = l9_49.toInt) (by decide) dX6_sumOf_108 hl rfl (by decide) (fun _ => rfl) (fun x108 ls t108 hl => ?_)
                  have e108 : x108.toInt = (l9_49.toInt + 1) := (z_X6_having_8 l9_49.toInt x108.toInt I49_1 t108)
                  have hl : lv_has ls 10 [(9, .int x108), (7, .int x105), (8, .int 1), (0, .ref a), (3, .int p2), (5, .int x27), (6, .int x35)] := hl
                  refine lv_goto (tgt := 49) hx hb dX6_sumOf_111 (by decide) ?_
                  exact ih49 x105 1 x108 _ _ (by rw [(e105 : Int32.toInt x105 = (l7_49.toInt + (0 : Int))), (e108 : Int32.toInt x108 = (l9_49.toInt + 1))] <;> exact (z_X6_sumOf_37 l7_49.toInt p2.toInt (aI (G.2.1 (F a 0)) ((90 * p0.toInt + 30 * p1.toInt) + l9_49.toInt)) (aI (G.2.1 (F a 0)) ((90 * p0.toInt + 30 * p3.toInt) + l9_49.toInt)) (smq (vw (G.2.1 (F a 0))) (90 * p0.toInt + 30 * p1.toInt) (90 * p0.toInt + 30 * p3.toInt) (p2.toInt) (l9_49.toInt + 1)) (smq (vw (G.2.1 (F a 0))) (90 * p0.toInt + 30 * p1.toInt) (90 * p0.toInt + 30 * p3.toInt) (p2.toInt) (l9_49.toInt)) I49_0 (z66a).1 c67 c88)) (by rw [(e108 : Int32.toInt x108 = (l9_49.toInt + 1))] <;> exact (z_X6_having_10 l9_49.toInt I49_1 c53)) (by rw [(e108 : Int32.toInt x108 = (l9_49.toInt + 1))] <;> exact (z_X6_sumOf_31 l8_49.toInt p2.toInt (aI (G.2.1 (F a 0)) ((90 * p0.toInt + 30 * p1.toInt) + l9_49.toInt)) (hv (vw (G.2.1 (F a 0))) (90 * p0.toInt + 30 * p1.toInt) (p2.toInt) (l9_49.toInt + 1)) (hv (vw (G.2.1 (F a 0))) (90 * p0.toInt + 30 * p1.toInt) (p2.toInt) (l9_49.toInt)) I49_2 (z66).1 c67)) (by rw [(e108 : Int32.toInt x108 = (l9_49.toInt + 1)), (e105 : Int32.toInt x105 = (l7_49.toInt + (0 : Int)))] <;> exact (z_X6_sumOf_40 l7_49.toInt l9_49.toInt I49_3)) (by rw [(e108 : Int32.toInt x108 = (l9_49.toInt + 1))] <;> exact (z_X6_having_12 l9_49.toInt I49_1)) (by rw [(e108 : Int32.toInt x108 = (l9_49.toInt + 1))] <;> exact (z_X6_having_13 l9_49.toInt N49 hm49)) hT hS (lv_sub hl [3, 4, 5, 6, 1, 2, 0] rfl)
        exact L49 4294967297 0 0 0 _ _ (z_X6_having_21 (smq (vw (G.2.1 (F a 0))) (90 * p0.toInt + 30 * p1.toInt) (90 * p0.toInt + 30 * p3.toInt) (p2.toInt) 0) z47a) (by decide) (z_X6_sumOf_44 (hv (vw (G.2.1 (F a 0))) (90 * p0.toInt + 30 * p1.toInt) (p2.toInt) 0) z47) (by decide) (by decide) (by decide) hT hS (lv_sub hl [5, 8, 4, 3, 2, 1, 0] rfl)
      · exact absurd ((z_X6_sumOf_45 p0.toInt p1.toInt p3.toInt x16.toInt e0 t16 c19)).1 (by decide)

theorem z_X6_fill_1 (a0 : Int) (h0 : 0 ≤ a0 ∧ a0 ≤ 3) : ¬ (2147483648 - a0 < ((0 : Nat) : Int)) := by omega
theorem z_X6_fill_2 (a0 : Int) (a1 : Int) (a2 : Int) (a3 : Int) (a4 : Int) (h0 : 0 ≤ a1 ∧ a1 < 3 ∧ 0 ≤ a2 ∧ a2 < 30) (h1 : 0 ≤ a0 ∧ a0 ≤ 3) (h2 : ¬ ((3 : Int) ≤ a0)) (h3 : 0 ≤ a1 ∧ a1 < 3 ∧ 0 ≤ a0 ∧ a0 < 3 → a3 = 90 * a1 + 30 * a0) (h4 : a4 = a3 + a2 ∨ a3 + a2 < -2147483648 ∨ 2147483648 ≤ a3 + a2) : 0 ≤ a4 ∧ a4 < ((270 : Nat) : Int) := by omega
theorem z_X6_fill_3 (a0 : Int) (a1 : Int) (h0 : 0 ≤ a0 ∧ a0 ≤ 3) (h1 : a1 = (a0 + 1) ∨ (a0 + 1) < -2147483648 ∨ 2147483648 ≤ (a0 + 1)) : a1 = (a0 + 1) := by omega
theorem z_X6_fill_4 (a0 : Int) (h0 : 0 ≤ a0 ∧ a0 ≤ 3) (h1 : ¬ ((3 : Int) ≤ a0)) : 0 ≤ (a0 + 1) ∧ (a0 + 1) ≤ 3 := by omega
theorem z_X6_fill_5 (a0 : Int) (h0 : 0 ≤ a0 ∧ a0 ≤ 3) : (0 : Int) ≤ (a0 + 1) := by omega
abbrev rm_X6_fill : Room := { frames := 1, cells := 0, slots := 0, locals := 21 }
set_option maxHeartbeats 4000000 in
set_option maxRecDepth 100000 in
theorem c_X6_fill (l : Launch) (E : XE) (K : Nat → Nat) (F : Nat → Nat → Nat) (G : XG) (a : Nat) (p0 : Int32) (p1 : Int32) (p2 : Int32) (ha : K a = 8) (e0 : 0 ≤ p0.toInt ∧ p0.toInt < 3 ∧ 0 ≤ p1.toInt ∧ p1.toInt < 30) : Met l yX6_fill (xw yX6_fill cX6_fill 5 none) rm_X6_fill (va_Pc [.ref a, .int p0, .int p1, .int p2] (XP E K F G)) (XQv E (fun (u : XG) => XFr [] [F a 0] [] G u ∧ ((vw (u.2.1 (F a 0))) = rfil (vw (G.2.1 (F a 0))) (p0.toInt) (p1.toInt) (p2.toInt) 3)) (fun u H => TW E K F u H)) 0 0 (xA E) := by
  refine x_enter (by decide) (Nat.le_of_ble_eq_true rfl) ?_
  intro p e s m args below meth c Q S hr hlk hnm hQ hP ls hl
  obtain ⟨hz, hK, hT⟩ := hP
  obtain ⟨hx, hb, -, -, -⟩ := id S
  obtain ⟨H, hT, hS, hgo⟩ : ∃ H : Heap, TW E K F G H ∧ va_S (xA E) s.heap H [] ∧ H = s.heap := ⟨_, hT, va_S.rf, rfl⟩
  rw [← hgo]
  have hl : lv_has ls 5 [(0, .ref a), (1, .int p0), (2, .int p1), (3, .int p2)] := hl
  obtain ⟨hk9999, hj9999⟩ := fkX6_0 hT ha
  refine lv_iconst (v := 0) hx hb dX6_fill_0 (by decide) ?_
  refine lv_istore (lv' := [(4, .int 0), (0, .ref a), (1, .int p0), (2, .int p1), (3, .int p2)]) hx hb dX6_fill_1 hl (by decide) rfl (fun ls hl => ?_)
  have L3 : ∀ (N3 : Nat) (l4_3 : Int32) (G_3 : XG) (H : Heap) (locs : List Loc) (ls : Array Slot), XFr [] [F a 0] [] G G_3 → vw (G_3.2.1 (F a 0)) = rfil (vw (G.2.1 (F a 0))) (p0.toInt) (p1.toInt) (p2.toInt) (l4_3.toInt) → 0 ≤ l4_3.toInt ∧ l4_3.toInt ≤ 3 → (0 : Int) ≤ l4_3.toInt → 2147483648 - l4_3.toInt < ((N3 : Nat) : Int) → TW E K F G_3 H → va_S (xA E) s.heap H locs → lv_has ls 5 [(0, .ref a), (1, .int p0), (2, .int p1), (3, .int p2), (4, .int l4_3)] → W p l e rm_X6_fill s m args below meth c H locs 0 0 Q (F0 m 3 ls []) := by
    intro N3
    induction N3 with
    | zero =>
      intro l4_3 G_3 H locs ls hF_3 pf I3_0 I3_1 hm3
      exact absurd hm3 (z_X6_fill_1 l4_3.toInt I3_0)
    | succ N3 ih3 =>
      intro l4_3 G_3 H locs ls hF_3 pf I3_0 I3_1 hm3 hT hS hl
      refine lv_iload hx hb dX6_fill_3 (lv_at hl 4 rfl) ?_
      refine lv_iconst (v := 3) hx hb dX6_fill_5 (by decide) ?_
      refine xi_cge (tgt := 29) hx hb (rfl : Int32.toInt l4_3 = l4_3.toInt) ((by decide) : Int32.toInt 3 = (3 : Int)) dX6_fill_6 (by decide) (fun c6 => ?_) (fun c6 => ?_)
      · exact x_rv hx hb hr hlk hQ (Nat.le_of_ble_eq_true rfl) (Nat.le_of_ble_eq_true rfl) hS dX6_fill_29 G_3 ⟨(XFr.call XFr.rf hF_3 xm0 (xm1 0 rfl xm0) xm0), (v_X6_fill_29_1 a G G_3 p0 p1 p2 l4_3 N3 ha pf e0 I3_0 I3_1 hm3 c6)⟩ hT
      · refine lv_aload_n hx hb dX6_fill_9 rfl (lv_at hl 0 rfl) ?_
        refine gX6_0 S hK hT ha kf_X6_9 dX6_fill_10 (fun _ _ => ?_)
        refine lv_iload_n hx hb dX6_fill_13 rfl (lv_at hl 1 rfl) ?_
        refine lv_iload hx hb dX6_fill_14 (lv_at hl 4 rfl) ?_
        refine x_clp (x_runS (As := [.int p0, .int l4_3]) (rest := [.ref (F a 0)]) S (c_X6_place l E K F G_3 H p0 l4_3) ms_X6_place km_X6_34 rfl rfl ⟨Nat.le_of_ble_eq_true rfl, Nat.le_of_ble_eq_true rfl⟩ hK (fun _ => XPh.blind) (fun U hU hW => XPh.at hK hz hS hT hU hW) rfl hl.1 (Nat.le_of_ble_eq_true rfl) dX6_fill_16 ⟨Nat.le_of_ble_eq_true rfl, Nat.le_of_ble_eq_true rfl⟩) hS ?_
        rintro _ _ locs ⟨x16, rfl, t16⟩ hS
        have t16 : 0 ≤ p0.toInt ∧ p0.toInt < 3 ∧ 0 ≤ l4_3.toInt ∧ l4_3.toInt < 3 → x16.toInt = 90 * p0.toInt + 30 * l4_3.toInt := t16
        refine lv_iload_n hx hb dX6_fill_19 rfl (lv_at hl 2 rfl) ?_
        refine xi_iadd hx hb (rfl : Int32.toInt x16 = x16.toInt) (rfl : Int32.toInt p1 = p1.toInt) dX6_fill_20 (fun x20 t20 => ?_)
        refine lv_iload_n hx hb dX6_fill_21 rfl (lv_at hl 3 rfl) ?_
        refine as_0 (x := p2) S hK hT hS hk9999 ar_20 aw_20 (by decide) (z_X6_fill_2 l4_3.toInt p0.toInt p1.toInt x16.toInt x20.toInt e0 I3_0 c6 t16 t20) dX6_fill_22 (fun H locs hT hS => ?_)
        obtain ⟨G22, hG22⟩ : ∃ G9 : XG, G9 = cput G_3 (F a 0) x20.toNatClampNeg p2 := ⟨_, rfl⟩
        rw [← hG22] at hT
        refine xi_iinc (n := 1) (lv' := fun z9 => [(4, .int z9), (0, .ref a), (1, .int p0), (2, .int p1), (3, .int p2)]) (k := 4) hx hb (rfl : Int32.toInt l4_3 = l4_3.toInt) (by decide) dX6_fill_23 hl rfl (by decide) (fun _ => rfl) (fun x23 ls t23 hl => ?_)
        have e23 : x23.toInt = (l4_3.toInt + 1) := (z_X6_fill_3 l4_3.toInt x23.toInt I3_0 t23)
        have hl : lv_has ls 5 [(4, .int x23), (0, .ref a), (1, .int p0), (2, .int p1), (3, .int p2)] := hl
        refine lv_goto (tgt := 3) hx hb dX6_fill_26 (by decide) ?_
        exact ih3 x23 G22 _ _ _ (by rw [hG22]; exact XFr.cput (XFr.call XFr.rf hF_3 xm0 (xm1 0 rfl xm0) xm0) (List.mem_of_getElem? (i := 0) rfl)) (by rw [(e23 : Int32.toInt x23 = (l4_3.toInt + 1))] <;> exact (v_X6_fill_26_2 a G G_3 G22 x20 p2 p0 p1 l4_3 N3 x16 ha hG22 pf e0 I3_0 I3_1 hm3 c6 t16 t20)) (by rw [(e23 : Int32.toInt x23 = (l4_3.toInt + 1))] <;> exact (z_X6_fill_4 l4_3.toInt I3_0 c6)) (by rw [(e23 : Int32.toInt x23 = (l4_3.toInt + 1))] <;> exact (z_X6_fill_5 l4_3.toInt I3_0)) (by rw [(e23 : Int32.toInt x23 = (l4_3.toInt + 1))] <;> exact (z_X6_having_13 l4_3.toInt N3 hm3)) hT hS (lv_sub hl [1, 2, 3, 4, 0] rfl)
  exact L3 4294967297 0 G _ _ _ XFr.rf (v_X6_fill_1_3 a p0 p1 G p2) (by decide) (by decide) (by decide) hT hS (lv_sub hl [1, 2, 3, 4, 0] rfl)

theorem z_X6_add_1 (a0 : Int) (a1 : Int) (h0 : 0 ≤ a0 ∧ a0 < 3 ∧ 0 ≤ a1 ∧ a1 < 30) : 0 ≤ a0 ∧ a0 < ((3 : Nat) : Int) := by omega
abbrev rm_X6_add : Room := { frames := 2, cells := 0, slots := 0, locals := 45 }
set_option maxHeartbeats 4000000 in
set_option maxRecDepth 100000 in
theorem c_X6_add (l : Launch) (E : XE) (K : Nat → Nat) (F : Nat → Nat → Nat) (G : XG) (a : Nat) (p0 : Int32) (p1 : Int32) (ha : K a = 8) (e0 : 0 ≤ p0.toInt ∧ p0.toInt < 3 ∧ 0 ≤ p1.toInt ∧ p1.toInt < 30) (hro : RO (vw (G.2.1 (F a 0))) (aI (G.2.1 (F a 1)))) : Met l yX6_add (xw yX6_add cX6_add 3 none) rm_X6_add (va_Pc [.ref a, .int p0, .int p1] (XP E K F G)) (XQv E (fun (u : XG) => XFr [] [F a 0, F a 1] [] G u ∧ ((vw (u.2.1 (F a 0))) = rfil (vw (G.2.1 (F a 0))) (p0.toInt) (p1.toInt) (-1000) 3) ∧ (RO (vw (u.2.1 (F a 0))) (aI (u.2.1 (F a 1))))) (fun u H => TW E K F u H)) 0 0 (xA E) := by
  refine x_enter (by decide) (Nat.le_of_ble_eq_true rfl) ?_
  intro p e s m args below meth c Q S hr hlk hnm hQ hP ls hl
  obtain ⟨hz, hK, hT⟩ := hP
  obtain ⟨hx, hb, -, -, -⟩ := id S
  obtain ⟨H, hT, hS, hgo⟩ : ∃ H : Heap, TW E K F G H ∧ va_S (xA E) s.heap H [] ∧ H = s.heap := ⟨_, hT, va_S.rf, rfl⟩
  rw [← hgo]
  have hl : lv_has ls 3 [(0, .ref a), (1, .int p0), (2, .int p1)] := hl
  obtain ⟨hk9999, hj9999⟩ := fkX6_0 hT ha
  obtain ⟨hk9999a, hj9999a⟩ := fkX6_1 hT ha
  refine lv_iload_n hx hb dX6_add_0 rfl (lv_at hl 1 rfl) ?_
  refine x_clp (x_runSN (As := [.int p0]) (rest := []) S (c_X10_isTable l E K F G H p0) ms_X10_isTable (by decide +kernel) rfl rfl ⟨Nat.le_of_ble_eq_true rfl, Nat.le_of_ble_eq_true rfl⟩ hK (fun _ => XPh.blind) (fun U hU hW => XPh.at hK hz hS hT hU hW) rfl hl.1 (Nat.le_of_ble_eq_true rfl) dX6_add_1 ⟨Nat.le_of_ble_eq_true rfl, Nat.le_of_ble_eq_true rfl⟩) hS ?_
  rintro _ _ locs ⟨x1, rfl, b1, t1⟩ hS
  have t1 : (x1.toInt = 1 ∧ 0 ≤ p0.toInt ∧ p0.toInt < 3) ∨ (x1.toInt = 0 ∧ (p0.toInt < 0 ∨ 3 ≤ p0.toInt)) := t1
  refine xi_zeq (tgt := 35) hx hb (rfl : Int32.toInt x1 = x1.toInt) dX6_add_4 (by decide) (fun c4 => ?_) (fun c4 => ?_)
  · exact x_rv hx hb hr hlk hQ (Nat.le_of_ble_eq_true rfl) (Nat.le_of_ble_eq_true rfl) hS dX6_add_35 G ⟨XFr.rf, (v_X6_add_35_1 a G p0 p1 x1 ha e0 t1 c4), (v_X6_add_35_2 a G p0 p1 x1 ha hro e0 t1 c4)⟩ hT
  · refine lv_iload_n hx hb dX6_add_7 rfl (lv_at hl 2 rfl) ?_
    refine x_clp (x_runSN (As := [.int p1]) (rest := []) S (c_X10_isKey l E K F G H p1) ms_X10_isKey (by decide +kernel) rfl rfl ⟨Nat.le_of_ble_eq_true rfl, Nat.le_of_ble_eq_true rfl⟩ hK (fun _ => XPh.blind) (fun U hU hW => XPh.at hK hz hS hT hU hW) rfl hl.1 (Nat.le_of_ble_eq_true rfl) dX6_add_8 ⟨Nat.le_of_ble_eq_true rfl, Nat.le_of_ble_eq_true rfl⟩) hS ?_
    rintro _ _ locs ⟨x8, rfl, b8, t8⟩ hS
    have t8 : (x8.toInt = 1 ∧ 0 ≤ p1.toInt ∧ p1.toInt < 30) ∨ (x8.toInt = 0 ∧ (p1.toInt < 0 ∨ 30 ≤ p1.toInt)) := t8
    refine xi_zeq (tgt := 35) hx hb (rfl : Int32.toInt x8 = x8.toInt) dX6_add_11 (by decide) (fun c11 => ?_) (fun c11 => ?_)
    · exact x_rv hx hb hr hlk hQ (Nat.le_of_ble_eq_true rfl) (Nat.le_of_ble_eq_true rfl) hS dX6_add_35 G ⟨XFr.rf, (v_X6_add_35_3 a G p0 p1 x1 x8 ha e0 t1 c4 t8 c11), (v_X6_add_35_4 a G p0 p1 x1 x8 ha hro e0 t1 c4 t8 c11)⟩ hT
    · refine lv_aload_n hx hb dX6_add_14 rfl (lv_at hl 0 rfl) ?_
      refine gX6_1 S hK hT ha kf_X6_15 dX6_add_15 (fun _ _ => ?_)
      refine lv_iload_n hx hb dX6_add_18 rfl (lv_at hl 1 rfl) ?_
      refine lv_dup2_11 hx hb dX6_add_19 rfl rfl ?_
      refine al_0 S hK hT hk9999a ar_21 (by decide) (z_X6_add_1 p0.toInt p1.toInt e0) dX6_add_20 (fun x20 hv20 o20 => ?_)
      have hv20 : x20.toInt = (aI (G.2.1 (F a 1)) (p0.toInt)) := hv20.trans (by rw [(rfl : Int32.toInt p0 = p0.toInt)])
      refine lv_iconst (v := 1) hx hb dX6_add_21 (by decide) ?_
      refine lv_iload_n hx hb dX6_add_22 rfl (lv_at hl 2 rfl) ?_
      refine lv_ishl hx hb dX6_add_23 (lv_topi (fun x23 he23 => ?_))
      refine lv_ior hx hb dX6_add_24 (lv_topi (fun x24 he24 => ?_))
      refine as_0 (x := x24) S hK hT hS hk9999a ar_21 aw_21 (by decide) (z_X6_add_1 p0.toInt p1.toInt e0) dX6_add_25 (fun H locs hT hS => ?_)
      obtain ⟨G25, hG25⟩ : ∃ G9 : XG, G9 = cput G (F a 1) p0.toNatClampNeg x24 := ⟨_, rfl⟩
      rw [← hG25] at hT
      refine lv_aload_n hx hb dX6_add_26 rfl (lv_at hl 0 rfl) ?_
      refine lv_iload_n hx hb dX6_add_27 rfl (lv_at hl 1 rfl) ?_
      refine lv_iload_n hx hb dX6_add_28 rfl (lv_at hl 2 rfl) ?_
      refine lv_sipush (v := (-1000)) hx hb dX6_add_29 (by decide) ?_
      refine x_cv0 (x_runV (b := a) (As := [.int p0, .int p1, .int (-1000)]) (rest := []) S (c_X6_fill l E K F G25 a p0 p1 (-1000) ha (e0)) mv_X6_fill km_X6_50 rfl rfl ⟨Nat.le_of_ble_eq_true rfl, Nat.le_of_ble_eq_true rfl⟩ (rc_8 hK hT ha) hK (fun _ => XP.blind) (fun U hU hW => XP.at hK hz hS hT hU hW) rfl hl.1 (Nat.le_of_ble_eq_true rfl) dX6_add_32 ⟨Nat.le_of_ble_eq_true rfl, Nat.le_of_ble_eq_true rfl⟩) hS ?_
      rintro G32 H locs ⟨hF32, oq32⟩ hT hS
      have oq32 : (vw (G32.2.1 (F a 0))) = rfil (vw (G.2.1 (F a 0))) (p0.toInt) (p1.toInt) (-1000 : Int) 3 := by simp only [((by decide) : Int32.toInt (-1000) = (-1000 : Int)), (show G25.2.1 (F a 0) = G.2.1 (F a 0) from (lc_c hG25 (xne_k hk9999 hk9999a (by decide))))] at oq32; exact oq32
      exact x_rv hx hb hr hlk hQ (Nat.le_of_ble_eq_true rfl) (Nat.le_of_ble_eq_true rfl) hS dX6_add_35 G32 ⟨(XFr.call (by rw [hG25]; exact XFr.cput XFr.rf (List.mem_of_getElem? (i := 1) rfl)) hF32 xm0 (xm1 0 rfl xm0) xm0), (v_X6_add_35_5 a G p0 x24 G32 x20 x23 p1 x1 x8 ha hv20 he23 he24 oq32 e0 t1 c4 t8 c11), (v_X6_add_35_6 a G25 G p0 x24 G32 x20 x23 p1 x1 x8 ha hG25 hro hv20 he23 he24 oq32 e0 t1 c4 t8 c11 (hF32.2.1 _ (xn1 (xne_k hk9999a hk9999 (by decide)) xn0)))⟩ hT

abbrev rm_X6_remove : Room := { frames := 2, cells := 0, slots := 0, locals := 45 }
set_option maxHeartbeats 4000000 in
set_option maxRecDepth 100000 in
theorem c_X6_remove (l : Launch) (E : XE) (K : Nat → Nat) (F : Nat → Nat → Nat) (G : XG) (a : Nat) (p0 : Int32) (p1 : Int32) (ha : K a = 8) (e0 : 0 ≤ p0.toInt ∧ p0.toInt < 3 ∧ 0 ≤ p1.toInt ∧ p1.toInt < 30) (hro : RO (vw (G.2.1 (F a 0))) (aI (G.2.1 (F a 1)))) : Met l yX6_remove (xw yX6_remove cX6_remove 3 none) rm_X6_remove (va_Pc [.ref a, .int p0, .int p1] (XP E K F G)) (XQv E (fun (u : XG) => XFr [] [F a 0, F a 1] [] G u ∧ ((vw (u.2.1 (F a 0))) = rfil (vw (G.2.1 (F a 0))) (p0.toInt) (p1.toInt) (-2000) 3) ∧ (RO (vw (u.2.1 (F a 0))) (aI (u.2.1 (F a 1))))) (fun u H => TW E K F u H)) 0 0 (xA E) := by
  refine x_enter (by decide) (Nat.le_of_ble_eq_true rfl) ?_
  intro p e s m args below meth c Q S hr hlk hnm hQ hP ls hl
  obtain ⟨hz, hK, hT⟩ := hP
  obtain ⟨hx, hb, -, -, -⟩ := id S
  obtain ⟨H, hT, hS, hgo⟩ : ∃ H : Heap, TW E K F G H ∧ va_S (xA E) s.heap H [] ∧ H = s.heap := ⟨_, hT, va_S.rf, rfl⟩
  rw [← hgo]
  have hl : lv_has ls 3 [(0, .ref a), (1, .int p0), (2, .int p1)] := hl
  obtain ⟨hk9999, hj9999⟩ := fkX6_0 hT ha
  obtain ⟨hk9999a, hj9999a⟩ := fkX6_1 hT ha
  refine lv_iload_n hx hb dX6_remove_0 rfl (lv_at hl 1 rfl) ?_
  refine x_clp (x_runSN (As := [.int p0]) (rest := []) S (c_X10_isTable l E K F G H p0) ms_X10_isTable (by decide +kernel) rfl rfl ⟨Nat.le_of_ble_eq_true rfl, Nat.le_of_ble_eq_true rfl⟩ hK (fun _ => XPh.blind) (fun U hU hW => XPh.at hK hz hS hT hU hW) rfl hl.1 (Nat.le_of_ble_eq_true rfl) dX6_remove_1 ⟨Nat.le_of_ble_eq_true rfl, Nat.le_of_ble_eq_true rfl⟩) hS ?_
  rintro _ _ locs ⟨x1, rfl, b1, t1⟩ hS
  have t1 : (x1.toInt = 1 ∧ 0 ≤ p0.toInt ∧ p0.toInt < 3) ∨ (x1.toInt = 0 ∧ (p0.toInt < 0 ∨ 3 ≤ p0.toInt)) := t1
  refine xi_zeq (tgt := 37) hx hb (rfl : Int32.toInt x1 = x1.toInt) dX6_remove_4 (by decide) (fun c4 => ?_) (fun c4 => ?_)
  · exact x_rv hx hb hr hlk hQ (Nat.le_of_ble_eq_true rfl) (Nat.le_of_ble_eq_true rfl) hS dX6_remove_37 G ⟨XFr.rf, (v_X6_remove_37_1 a G p0 p1 x1 ha e0 t1 c4), (v_X6_remove_37_2 a G p0 p1 x1 ha hro e0 t1 c4)⟩ hT
  · refine lv_iload_n hx hb dX6_remove_7 rfl (lv_at hl 2 rfl) ?_
    refine x_clp (x_runSN (As := [.int p1]) (rest := []) S (c_X10_isKey l E K F G H p1) ms_X10_isKey (by decide +kernel) rfl rfl ⟨Nat.le_of_ble_eq_true rfl, Nat.le_of_ble_eq_true rfl⟩ hK (fun _ => XPh.blind) (fun U hU hW => XPh.at hK hz hS hT hU hW) rfl hl.1 (Nat.le_of_ble_eq_true rfl) dX6_remove_8 ⟨Nat.le_of_ble_eq_true rfl, Nat.le_of_ble_eq_true rfl⟩) hS ?_
    rintro _ _ locs ⟨x8, rfl, b8, t8⟩ hS
    have t8 : (x8.toInt = 1 ∧ 0 ≤ p1.toInt ∧ p1.toInt < 30) ∨ (x8.toInt = 0 ∧ (p1.toInt < 0 ∨ 30 ≤ p1.toInt)) := t8
    refine xi_zeq (tgt := 37) hx hb (rfl : Int32.toInt x8 = x8.toInt) dX6_remove_11 (by decide) (fun c11 => ?_) (fun c11 => ?_)
    · exact x_rv hx hb hr hlk hQ (Nat.le_of_ble_eq_true rfl) (Nat.le_of_ble_eq_true rfl) hS dX6_remove_37 G ⟨XFr.rf, (v_X6_remove_37_3 a G p0 p1 x1 x8 ha e0 t1 c4 t8 c11), (v_X6_remove_37_4 a G p0 p1 x1 x8 ha hro e0 t1 c4 t8 c11)⟩ hT
    · refine lv_aload_n hx hb dX6_remove_14 rfl (lv_at hl 0 rfl) ?_
      refine gX6_1 S hK hT ha kf_X6_15 dX6_remove_15 (fun _ _ => ?_)
      refine lv_iload_n hx hb dX6_remove_18 rfl (lv_at hl 1 rfl) ?_
      refine lv_dup2_11 hx hb dX6_remove_19 rfl rfl ?_
      refine al_0 S hK hT hk9999a ar_21 (by decide) (z_X6_add_1 p0.toInt p1.toInt e0) dX6_remove_20 (fun x20 hv20 o20 => ?_)
      have hv20 : x20.toInt = (aI (G.2.1 (F a 1)) (p0.toInt)) := hv20.trans (by rw [(rfl : Int32.toInt p0 = p0.toInt)])
      refine lv_iconst (v := 1) hx hb dX6_remove_21 (by decide) ?_
      refine lv_iload_n hx hb dX6_remove_22 rfl (lv_at hl 2 rfl) ?_
      refine lv_ishl hx hb dX6_remove_23 (lv_topi (fun x23 he23 => ?_))
      refine lv_iconst (v := (-1)) hx hb dX6_remove_24 (by decide) ?_
      refine lv_ixor hx hb dX6_remove_25 (lv_topi (fun x25 he25 => ?_))
      refine lv_iand hx hb dX6_remove_26 (lv_topi (fun x26 he26 => ?_))
      refine as_0 (x := x26) S hK hT hS hk9999a ar_21 aw_21 (by decide) (z_X6_add_1 p0.toInt p1.toInt e0) dX6_remove_27 (fun H locs hT hS => ?_)
      obtain ⟨G27, hG27⟩ : ∃ G9 : XG, G9 = cput G (F a 1) p0.toNatClampNeg x26 := ⟨_, rfl⟩
      rw [← hG27] at hT
      refine lv_aload_n hx hb dX6_remove_28 rfl (lv_at hl 0 rfl) ?_
      refine lv_iload_n hx hb dX6_remove_29 rfl (lv_at hl 1 rfl) ?_
      refine lv_iload_n hx hb dX6_remove_30 rfl (lv_at hl 2 rfl) ?_
      refine lv_sipush (v := (-2000)) hx hb dX6_remove_31 (by decide) ?_
      refine x_cv0 (x_runV (b := a) (As := [.int p0, .int p1, .int (-2000)]) (rest := []) S (c_X6_fill l E K F G27 a p0 p1 (-2000) ha (e0)) mv_X6_fill km_X6_50 rfl rfl ⟨Nat.le_of_ble_eq_true rfl, Nat.le_of_ble_eq_true rfl⟩ (rc_8 hK hT ha) hK (fun _ => XP.blind) (fun U hU hW => XP.at hK hz hS hT hU hW) rfl hl.1 (Nat.le_of_ble_eq_true rfl) dX6_remove_34 ⟨Nat.le_of_ble_eq_true rfl, Nat.le_of_ble_eq_true rfl⟩) hS ?_
      rintro G34 H locs ⟨hF34, oq34⟩ hT hS
      have oq34 : (vw (G34.2.1 (F a 0))) = rfil (vw (G.2.1 (F a 0))) (p0.toInt) (p1.toInt) (-2000 : Int) 3 := by simp only [((by decide) : Int32.toInt (-2000) = (-2000 : Int)), (show G27.2.1 (F a 0) = G.2.1 (F a 0) from (lc_c hG27 (xne_k hk9999 hk9999a (by decide))))] at oq34; exact oq34
      exact x_rv hx hb hr hlk hQ (Nat.le_of_ble_eq_true rfl) (Nat.le_of_ble_eq_true rfl) hS dX6_remove_37 G34 ⟨(XFr.call (by rw [hG27]; exact XFr.cput XFr.rf (List.mem_of_getElem? (i := 1) rfl)) hF34 xm0 (xm1 0 rfl xm0) xm0), (v_X6_remove_37_5 a G p0 x26 G34 x20 x23 p1 x25 x1 x8 ha hv20 he23 he25 he26 oq34 e0 t1 c4 t8 c11), (v_X6_remove_37_6 a G27 G p0 x26 G34 x20 x23 p1 x25 x1 x8 ha hG27 hro hv20 he23 he25 he26 oq34 e0 t1 c4 t8 c11 (hF34.2.1 _ (xn1 (xne_k hk9999a hk9999 (by decide)) xn0)))⟩ hT

theorem z_X6_change_1 (a0 : Int) (a1 : Int) (a2 : Int) (a3 : Int) (a4 : Int) (a5 : Int) (a6 : Int) (h0 : 0 ≤ a2 ∧ a2 < 3) (h1 : (¬ (0 ≤ a0 ∧ a0 < 3 ∧ 0 ≤ a1 ∧ a1 < 30)) → a6 = -2000) (h2 : (a5 = 1 ∧ a6 ≠ -2000) ∨ (a5 = 0 ∧ a6 = -2000)) (h3 : ¬ (a5 = 0)) (h4 : 0 ≤ a0 ∧ a0 < 3 ∧ 0 ≤ a2 ∧ a2 < 3 → a3 = 90 * a0 + 30 * a2) (h5 : a4 = a3 + a1 ∨ a3 + a1 < -2147483648 ∨ 2147483648 ≤ a3 + a1) : 0 ≤ a4 ∧ a4 < ((270 : Nat) : Int) := by omega
abbrev rm_X6_change : Room := { frames := 2, cells := 0, slots := 0, locals := 42 }
set_option maxHeartbeats 4000000 in
set_option maxRecDepth 100000 in
theorem c_X6_change (l : Launch) (E : XE) (K : Nat → Nat) (F : Nat → Nat → Nat) (G : XG) (a : Nat) (p0 : Int32) (p1 : Int32) (p2 : Int32) (p3 : Int32) (ha : K a = 8) (e0 : 0 ≤ p2.toInt ∧ p2.toInt < 3) (e1 : p3.toInt = -1000 ∨ (-99 ≤ p3.toInt ∧ p3.toInt ≤ 99)) (hro : RO (vw (G.2.1 (F a 0))) (aI (G.2.1 (F a 1)))) : Met l yX6_change (xw yX6_change cX6_change 5 none) rm_X6_change (va_Pc [.ref a, .int p0, .int p1, .int p2, .int p3] (XP E K F G)) (XQv E (fun (u : XG) => XFr [] [F a 0] [] G u ∧ ((vw (u.2.1 (F a 0))) = if cel (vw (G.2.1 (F a 0))) (p0.toInt) (p1.toInt) 0 ≠ -2000 then rset (vw (G.2.1 (F a 0))) (90 * (p0.toInt) + 30 * (p2.toInt) + (p1.toInt)) (p3.toInt) else (vw (G.2.1 (F a 0)))) ∧ (RO (vw (u.2.1 (F a 0))) (aI (u.2.1 (F a 1))))) (fun u H => TW E K F u H)) 0 0 (xA E) := by
  refine x_enter (by decide) (Nat.le_of_ble_eq_true rfl) ?_
  intro p e s m args below meth c Q S hr hlk hnm hQ hP ls hl
  obtain ⟨hz, hK, hT⟩ := hP
  obtain ⟨hx, hb, -, -, -⟩ := id S
  obtain ⟨H, hT, hS, hgo⟩ : ∃ H : Heap, TW E K F G H ∧ va_S (xA E) s.heap H [] ∧ H = s.heap := ⟨_, hT, va_S.rf, rfl⟩
  rw [← hgo]
  have hl : lv_has ls 5 [(0, .ref a), (1, .int p0), (2, .int p1), (3, .int p2), (4, .int p3)] := hl
  obtain ⟨hk9999, hj9999⟩ := fkX6_0 hT ha
  obtain ⟨hk9999a, hj9999a⟩ := fkX6_1 hT ha
  have z0 : (¬ (0 ≤ p0.toInt ∧ p0.toInt < 3 ∧ 0 ≤ p1.toInt ∧ p1.toInt < 30)) → (cel (vw (G.2.1 (F a 0))) (p0.toInt) (p1.toInt) 0) = -2000 := fun h9 => cel_out (by omega)
  refine lv_aload_n hx hb dX6_change_0 rfl (lv_at hl 0 rfl) ?_
  refine lv_iload_n hx hb dX6_change_1 rfl (lv_at hl 1 rfl) ?_
  refine lv_iload_n hx hb dX6_change_2 rfl (lv_at hl 2 rfl) ?_
  refine x_clp (x_runV (b := a) (As := [.int p0, .int p1]) (rest := []) S (c_X6_has l E K F G H a p0 p1 ha (v_X6_change_3_1 a G hro)) mv_X6_has km_X6_54 rfl rfl ⟨Nat.le_of_ble_eq_true rfl, Nat.le_of_ble_eq_true rfl⟩ (rc_8 hK hT ha) hK (fun _ => XPh.blind) (fun U hU hW => XPh.at hK hz hS hT hU hW) rfl hl.1 (Nat.le_of_ble_eq_true rfl) dX6_change_3 ⟨Nat.le_of_ble_eq_true rfl, Nat.le_of_ble_eq_true rfl⟩) hS ?_
  rintro _ _ locs ⟨x3, rfl, b3, t3⟩ hS
  have t3 : (x3.toInt = 1 ∧ (cel (vw (G.2.1 (F a 0))) (p0.toInt) (p1.toInt) 0) ≠ -2000) ∨ (x3.toInt = 0 ∧ (cel (vw (G.2.1 (F a 0))) (p0.toInt) (p1.toInt) 0) = -2000) := t3
  refine xi_zeq (tgt := 30) hx hb (rfl : Int32.toInt x3 = x3.toInt) dX6_change_6 (by decide) (fun c6 => ?_) (fun c6 => ?_)
  · exact x_rv hx hb hr hlk hQ (Nat.le_of_ble_eq_true rfl) (Nat.le_of_ble_eq_true rfl) hS dX6_change_30 G ⟨XFr.rf, (v_X6_change_30_2 a G p2 p3 p0 p1 x3 ha e0 e1 z0 t3 c6), (v_X6_change_30_3 a G p2 p3 p0 p1 x3 ha hro e0 e1 z0 t3 c6)⟩ hT
  · refine lv_iload_n hx hb dX6_change_9 rfl (lv_at hl 3 rfl) ?_
    refine x_clp (x_runSN (As := [.int p2]) (rest := []) S (c_X10_isColumn l E K F G H p2) ms_X10_isColumn (by decide +kernel) rfl rfl ⟨Nat.le_of_ble_eq_true rfl, Nat.le_of_ble_eq_true rfl⟩ hK (fun _ => XPh.blind) (fun U hU hW => XPh.at hK hz hS hT hU hW) rfl hl.1 (Nat.le_of_ble_eq_true rfl) dX6_change_10 ⟨Nat.le_of_ble_eq_true rfl, Nat.le_of_ble_eq_true rfl⟩) hS ?_
    rintro _ _ locs ⟨x10, rfl, b10, t10⟩ hS
    have t10 : (x10.toInt = 1 ∧ 0 ≤ p2.toInt ∧ p2.toInt < 3) ∨ (x10.toInt = 0 ∧ (p2.toInt < 0 ∨ 3 ≤ p2.toInt)) := t10
    refine xi_zeq (tgt := 30) hx hb (rfl : Int32.toInt x10 = x10.toInt) dX6_change_13 (by decide) (fun c13 => ?_) (fun c13 => ?_)
    · exact x_rv hx hb hr hlk hQ (Nat.le_of_ble_eq_true rfl) (Nat.le_of_ble_eq_true rfl) hS dX6_change_30 G ⟨XFr.rf, (v_X6_change_30_4 a G p2 p3 p0 p1 x3 x10 ha e0 e1 z0 t3 c6 t10 c13), (v_X6_change_30_5 a G p2 p3 p0 p1 x3 x10 ha hro e0 e1 z0 t3 c6 t10 c13)⟩ hT
    · refine lv_aload_n hx hb dX6_change_16 rfl (lv_at hl 0 rfl) ?_
      refine gX6_0 S hK hT ha kf_X6_9 dX6_change_17 (fun _ _ => ?_)
      refine lv_iload_n hx hb dX6_change_20 rfl (lv_at hl 1 rfl) ?_
      refine lv_iload_n hx hb dX6_change_21 rfl (lv_at hl 3 rfl) ?_
      refine x_clp (x_runS (As := [.int p0, .int p2]) (rest := [.ref (F a 0)]) S (c_X6_place l E K F G H p0 p2) ms_X6_place km_X6_34 rfl rfl ⟨Nat.le_of_ble_eq_true rfl, Nat.le_of_ble_eq_true rfl⟩ hK (fun _ => XPh.blind) (fun U hU hW => XPh.at hK hz hS hT hU hW) rfl hl.1 (Nat.le_of_ble_eq_true rfl) dX6_change_22 ⟨Nat.le_of_ble_eq_true rfl, Nat.le_of_ble_eq_true rfl⟩) hS ?_
      rintro _ _ locs ⟨x22, rfl, t22⟩ hS
      have t22 : 0 ≤ p0.toInt ∧ p0.toInt < 3 ∧ 0 ≤ p2.toInt ∧ p2.toInt < 3 → x22.toInt = 90 * p0.toInt + 30 * p2.toInt := t22
      refine lv_iload_n hx hb dX6_change_25 rfl (lv_at hl 2 rfl) ?_
      refine xi_iadd hx hb (rfl : Int32.toInt x22 = x22.toInt) (rfl : Int32.toInt p1 = p1.toInt) dX6_change_26 (fun x26 t26 => ?_)
      refine lv_iload hx hb dX6_change_27 (lv_at hl 4 rfl) ?_
      refine as_0 (x := p3) S hK hT hS hk9999 ar_20 aw_20 (by decide) (z_X6_change_1 p0.toInt p1.toInt p2.toInt x22.toInt x26.toInt x3.toInt (cel (vw (G.2.1 (F a 0))) (p0.toInt) (p1.toInt) 0) e0 z0 t3 c6 t22 t26) dX6_change_29 (fun H locs hT hS => ?_)
      obtain ⟨G29, hG29⟩ : ∃ G9 : XG, G9 = cput G (F a 0) x26.toNatClampNeg p3 := ⟨_, rfl⟩
      rw [← hG29] at hT
      exact x_rv hx hb hr hlk hQ (Nat.le_of_ble_eq_true rfl) (Nat.le_of_ble_eq_true rfl) hS dX6_change_30 G29 ⟨(by rw [hG29]; exact XFr.cput XFr.rf (List.mem_of_getElem? (i := 0) rfl)), (v_X6_change_30_6 a G29 G x26 p3 p2 p0 p1 x3 x10 x22 ha hG29 e0 e1 z0 t3 c6 t10 c13 t22 t26), (v_X6_change_30_7 a G29 G x26 p3 p2 p0 p1 x3 x10 x22 ha hG29 hro e0 e1 z0 t3 c6 t10 c13 t22 t26 (lc_c hG29 (xne_k hk9999a hk9999 (by decide))))⟩ hT
theorem v_X7_isOnRing_30_1 {F : Nat → Nat → Nat} (p0 : Nat) (G : XG)
    (hro : RO (vw (G.2.1 (F p0 0))) (aI (G.2.1 (F p0 1)))) :
    RO (vw (G.2.1 (F p0 0))) (aI (G.2.1 (F p0 1))) := by exact hro
theorem v_X7_state_75_1 {F : Nat → Nat → Nat} (p0 : Nat) (G : XG)
    (hro : RO (vw (G.2.1 (F p0 0))) (aI (G.2.1 (F p0 1)))) :
    RO (vw (G.2.1 (F p0 0))) (aI (G.2.1 (F p0 1))) := by exact hro
theorem v_X7_state_102_2 {F : Nat → Nat → Nat} (p0 : Nat) (G : XG)
    (hro : RO (vw (G.2.1 (F p0 0))) (aI (G.2.1 (F p0 1)))) :
    RO (vw (G.2.1 (F p0 0))) (aI (G.2.1 (F p0 1))) := by exact hro
theorem v_X7_state_75_3 {F : Nat → Nat → Nat} (p0 : Nat) (G : XG)
    (hro : RO (vw (G.2.1 (F p0 0))) (aI (G.2.1 (F p0 1)))) :
    RO (vw (G.2.1 (F p0 0))) (aI (G.2.1 (F p0 1))) := by exact hro
theorem v_X7_fails_142_1 {F : Nat → Nat → Nat} (p0 : Nat) (G : XG)
    (hro : RO (vw (G.2.1 (F p0 0))) (aI (G.2.1 (F p0 1)))) :
    RO (vw (G.2.1 (F p0 0))) (aI (G.2.1 (F p0 1))) := by exact hro
theorem z_X7_isAmong_1 (a0 : Int) (a1 : Int) (h0 : a0 = 0) : ((a0 = 0 ∨ (a1 = 1 ∧ a0 = 1) ∨ (a1 = 0 ∧ a0 ≠ 1)) ∧ (1 : Int) = 1) ∨ ((¬ (a0 = 0 ∨ (a1 = 1 ∧ a0 = 1) ∨ (a1 = 0 ∧ a0 ≠ 1))) ∧ (1 : Int) = 0) := by omega
theorem z_X7_isAmong_2 (a0 : Int) (a1 : Int) (h0 : ¬ (a0 = 0)) (h1 : a0 ≠ (1 : Int)) (h2 : a1 ≠ (0 : Int)) : ((a0 = 0 ∨ (a1 = 1 ∧ a0 = 1) ∨ (a1 = 0 ∧ a0 ≠ 1)) ∧ (0 : Int) = 1) ∨ ((¬ (a0 = 0 ∨ (a1 = 1 ∧ a0 = 1) ∨ (a1 = 0 ∧ a0 ≠ 1))) ∧ (0 : Int) = 0) := by omega
theorem z_X7_isAmong_3 (a0 : Int) (a1 : Int) (h0 : a0 ≠ (1 : Int)) (h1 : ¬ (a1 ≠ (0 : Int))) : ((a0 = 0 ∨ (a1 = 1 ∧ a0 = 1) ∨ (a1 = 0 ∧ a0 ≠ 1)) ∧ (1 : Int) = 1) ∨ ((¬ (a0 = 0 ∨ (a1 = 1 ∧ a0 = 1) ∨ (a1 = 0 ∧ a0 ≠ 1))) ∧ (1 : Int) = 0) := by omega
theorem z_X7_isAmong_4 (a0 : Int) (a1 : Int) (h0 : ¬ (a0 ≠ (1 : Int))) (h1 : a1 ≠ (1 : Int)) : ((a0 = 0 ∨ (a1 = 1 ∧ a0 = 1) ∨ (a1 = 0 ∧ a0 ≠ 1)) ∧ (0 : Int) = 1) ∨ ((¬ (a0 = 0 ∨ (a1 = 1 ∧ a0 = 1) ∨ (a1 = 0 ∧ a0 ≠ 1))) ∧ (0 : Int) = 0) := by omega
theorem z_X7_isAmong_5 (a0 : Int) (a1 : Int) (h0 : ¬ (a0 ≠ (1 : Int))) (h1 : ¬ (a1 ≠ (1 : Int))) : ((a0 = 0 ∨ (a1 = 1 ∧ a0 = 1) ∨ (a1 = 0 ∧ a0 ≠ 1)) ∧ (1 : Int) = 1) ∨ ((¬ (a0 = 0 ∨ (a1 = 1 ∧ a0 = 1) ∨ (a1 = 0 ∧ a0 ≠ 1))) ∧ (1 : Int) = 0) := by omega
abbrev rm_X7_isAmong : Room := { frames := 0, cells := 0, slots := 0, locals := 0 }
set_option maxHeartbeats 4000000 in
set_option maxRecDepth 100000 in
theorem c_X7_isAmong (l : Launch) (E : XE) (K : Nat → Nat) (F : Nat → Nat → Nat) (G : XG) (h0 : Heap) (a : Nat) (p0 : Int32) (ha : K a = 9) : Met l yX7_isAmong (xw yX7_isAmong cX7_isAmong 2 (some .boolean)) rm_X7_isAmong (va_Pc [.ref a, .int p0] (XPh E K F G h0)) (XQ E (fun v (u : Unit) => ∃ r : Int32, v = .int r ∧ (r = 0 ∨ r = 1) ∧ (((p0.toInt = 0 ∨ (((G.1 a 9).toInt) = 1 ∧ p0.toInt = 1) ∨ (((G.1 a 9).toInt) = 0 ∧ p0.toInt ≠ 1)) ∧ r.toInt = 1) ∨ ((¬ (p0.toInt = 0 ∨ (((G.1 a 9).toInt) = 1 ∧ p0.toInt = 1) ∨ (((G.1 a 9).toInt) = 0 ∧ p0.toInt ≠ 1))) ∧ r.toInt = 0))) (fun _ H => H = h0)) 0 0 (xA E) := by
  refine x_enter (by decide) (Nat.le_of_ble_eq_true rfl) ?_
  intro p e s m args below meth c Q S hr hlk hnm hQ hP ls hl
  obtain ⟨⟨hz, hK, hT⟩, hh⟩ := hP
  obtain ⟨hx, hb, -, -, -⟩ := id S
  have hS : va_S (xA E) s.heap s.heap [] := va_S.rf
  have hl : lv_has ls 2 [(0, .ref a), (1, .int p0)] := hl
  refine lv_iload_n hx hb dX7_isAmong_0 rfl (lv_at hl 1 rfl) ?_
  refine xi_zeq (tgt := 21) hx hb (rfl : Int32.toInt p0 = p0.toInt) dX7_isAmong_1 (by decide) (fun c1 => ?_) (fun c1 => ?_)
  · refine lv_iconst (v := 1) hx hb dX7_isAmong_21 (by decide) ?_
    refine lv_goto (tgt := 26) hx hb dX7_isAmong_22 (by decide) ?_
    exact x_rz hx hb hr (xnz (Or.inr rfl)) hlk hQ (Nat.le_of_ble_eq_true rfl) (Nat.le_of_ble_eq_true rfl) hS dX7_isAmong_26 () ⟨_, rfl, (Or.inr rfl), (z_X7_isAmong_1 p0.toInt ((G.1 a 9).toInt) c1)⟩ hh
  · refine lv_aload_n hx hb dX7_isAmong_4 rfl (lv_at hl 0 rfl) ?_
    refine gX7_9 S hK hT ha kf_X7_24 dX7_isAmong_5 (v := (G.1 a 9)) rfl (fun hz5 => ?_)
    refine lv_iload_n hx hb dX7_isAmong_8 rfl (lv_at hl 1 rfl) ?_
    refine lv_iconst (v := 1) hx hb dX7_isAmong_9 (by decide) ?_
    refine xi_cne (tgt := 17) hx hb (rfl : Int32.toInt p0 = p0.toInt) ((by decide) : Int32.toInt 1 = (1 : Int)) dX7_isAmong_10 (by decide) (fun c10 => ?_) (fun c10 => ?_)
    · refine lv_iconst (v := 0) hx hb dX7_isAmong_17 (by decide) ?_
      refine xi_cne (tgt := 25) hx hb (rfl : Int32.toInt (G.1 a 9) = ((G.1 a 9).toInt)) ((by decide) : Int32.toInt 0 = (0 : Int)) dX7_isAmong_18 (by decide) (fun c18 => ?_) (fun c18 => ?_)
      · refine lv_iconst (v := 0) hx hb dX7_isAmong_25 (by decide) ?_
        exact x_rz hx hb hr (xnz (Or.inl rfl)) hlk hQ (Nat.le_of_ble_eq_true rfl) (Nat.le_of_ble_eq_true rfl) hS dX7_isAmong_26 () ⟨_, rfl, (Or.inl rfl), (z_X7_isAmong_2 p0.toInt ((G.1 a 9).toInt) c1 c10 c18)⟩ hh
      · refine lv_iconst (v := 1) hx hb dX7_isAmong_21 (by decide) ?_
        refine lv_goto (tgt := 26) hx hb dX7_isAmong_22 (by decide) ?_
        exact x_rz hx hb hr (xnz (Or.inr rfl)) hlk hQ (Nat.le_of_ble_eq_true rfl) (Nat.le_of_ble_eq_true rfl) hS dX7_isAmong_26 () ⟨_, rfl, (Or.inr rfl), (z_X7_isAmong_3 p0.toInt ((G.1 a 9).toInt) c10 c18)⟩ hh
    · refine lv_iconst (v := 1) hx hb dX7_isAmong_13 (by decide) ?_
      refine lv_goto (tgt := 18) hx hb dX7_isAmong_14 (by decide) ?_
      refine xi_cne (tgt := 25) hx hb (rfl : Int32.toInt (G.1 a 9) = ((G.1 a 9).toInt)) ((by decide) : Int32.toInt 1 = (1 : Int)) dX7_isAmong_18 (by decide) (fun c18 => ?_) (fun c18 => ?_)
      · refine lv_iconst (v := 0) hx hb dX7_isAmong_25 (by decide) ?_
        exact x_rz hx hb hr (xnz (Or.inl rfl)) hlk hQ (Nat.le_of_ble_eq_true rfl) (Nat.le_of_ble_eq_true rfl) hS dX7_isAmong_26 () ⟨_, rfl, (Or.inl rfl), (z_X7_isAmong_4 p0.toInt ((G.1 a 9).toInt) c10 c18)⟩ hh
      · refine lv_iconst (v := 1) hx hb dX7_isAmong_21 (by decide) ?_
        refine lv_goto (tgt := 26) hx hb dX7_isAmong_22 (by decide) ?_
        exact x_rz hx hb hr (xnz (Or.inr rfl)) hlk hQ (Nat.le_of_ble_eq_true rfl) (Nat.le_of_ble_eq_true rfl) hS dX7_isAmong_26 () ⟨_, rfl, (Or.inr rfl), (z_X7_isAmong_5 p0.toInt ((G.1 a 9).toInt) c10 c18)⟩ hh

theorem z_X7_isAboutKeys_1 (a0 : Int) (h0 : a0 = (2 : Int)) : ((a0 = 2 ∨ a0 = 4 ∨ a0 = 5) ∧ (1 : Int) = 1) ∨ (¬ (a0 = 2 ∨ a0 = 4 ∨ a0 = 5) ∧ (1 : Int) = 0) := by omega
theorem z_X7_isAboutKeys_2 (a0 : Int) (h0 : a0 = (4 : Int)) : ((a0 = 2 ∨ a0 = 4 ∨ a0 = 5) ∧ (1 : Int) = 1) ∨ (¬ (a0 = 2 ∨ a0 = 4 ∨ a0 = 5) ∧ (1 : Int) = 0) := by omega
theorem z_X7_isAboutKeys_3 (a0 : Int) (h0 : ¬ (a0 = (2 : Int))) (h1 : ¬ (a0 = (4 : Int))) (h2 : a0 ≠ (5 : Int)) : ((a0 = 2 ∨ a0 = 4 ∨ a0 = 5) ∧ (0 : Int) = 1) ∨ (¬ (a0 = 2 ∨ a0 = 4 ∨ a0 = 5) ∧ (0 : Int) = 0) := by omega
theorem z_X7_isAboutKeys_4 (a0 : Int) (h0 : ¬ (a0 ≠ (5 : Int))) : ((a0 = 2 ∨ a0 = 4 ∨ a0 = 5) ∧ (1 : Int) = 1) ∨ (¬ (a0 = 2 ∨ a0 = 4 ∨ a0 = 5) ∧ (1 : Int) = 0) := by omega
abbrev rm_X7_isAboutKeys : Room := { frames := 0, cells := 0, slots := 0, locals := 0 }
set_option maxHeartbeats 4000000 in
set_option maxRecDepth 100000 in
theorem c_X7_isAboutKeys (l : Launch) (E : XE) (K : Nat → Nat) (F : Nat → Nat → Nat) (G : XG) (h0 : Heap) (a : Nat) (ha : K a = 9) : Met l yX7_isAboutKeys (xw yX7_isAboutKeys cX7_isAboutKeys 1 (some .boolean)) rm_X7_isAboutKeys (va_Pc [.ref a] (XPh E K F G h0)) (XQ E (fun v (u : Unit) => ∃ r : Int32, v = .int r ∧ (r = 0 ∨ r = 1) ∧ (((((G.1 a 0).toInt) = 2 ∨ ((G.1 a 0).toInt) = 4 ∨ ((G.1 a 0).toInt) = 5) ∧ r.toInt = 1) ∨ (¬ (((G.1 a 0).toInt) = 2 ∨ ((G.1 a 0).toInt) = 4 ∨ ((G.1 a 0).toInt) = 5) ∧ r.toInt = 0))) (fun _ H => H = h0)) 0 0 (xA E) := by
  refine x_enter (by decide) (Nat.le_of_ble_eq_true rfl) ?_
  intro p e s m args below meth c Q S hr hlk hnm hQ hP ls hl
  obtain ⟨⟨hz, hK, hT⟩, hh⟩ := hP
  obtain ⟨hx, hb, -, -, -⟩ := id S
  have hS : va_S (xA E) s.heap s.heap [] := va_S.rf
  have hl : lv_has ls 1 [(0, .ref a)] := hl
  refine lv_aload_n hx hb dX7_isAboutKeys_0 rfl (lv_at hl 0 rfl) ?_
  refine gX7_0 S hK hT ha kf_X7_21 dX7_isAboutKeys_1 (v := (G.1 a 0)) rfl (?_)
  refine lv_iconst (v := 2) hx hb dX7_isAboutKeys_4 (by decide) ?_
  refine xi_ceq (tgt := 24) hx hb (rfl : Int32.toInt (G.1 a 0) = ((G.1 a 0).toInt)) ((by decide) : Int32.toInt 2 = (2 : Int)) dX7_isAboutKeys_5 (by decide) (fun c5 => ?_) (fun c5 => ?_)
  · refine lv_iconst (v := 1) hx hb dX7_isAboutKeys_24 (by decide) ?_
    refine lv_goto (tgt := 29) hx hb dX7_isAboutKeys_25 (by decide) ?_
    exact x_rz hx hb hr (xnz (Or.inr rfl)) hlk hQ (Nat.le_of_ble_eq_true rfl) (Nat.le_of_ble_eq_true rfl) hS dX7_isAboutKeys_29 () ⟨_, rfl, (Or.inr rfl), (z_X7_isAboutKeys_1 ((G.1 a 0).toInt) c5)⟩ hh
  · refine lv_aload_n hx hb dX7_isAboutKeys_8 rfl (lv_at hl 0 rfl) ?_
    refine gX7_0 S hK hT ha kf_X7_21 dX7_isAboutKeys_9 (v := (G.1 a 0)) rfl (?_)
    refine lv_iconst (v := 4) hx hb dX7_isAboutKeys_12 (by decide) ?_
    refine xi_ceq (tgt := 24) hx hb (rfl : Int32.toInt (G.1 a 0) = ((G.1 a 0).toInt)) ((by decide) : Int32.toInt 4 = (4 : Int)) dX7_isAboutKeys_13 (by decide) (fun c13 => ?_) (fun c13 => ?_)
    · refine lv_iconst (v := 1) hx hb dX7_isAboutKeys_24 (by decide) ?_
      refine lv_goto (tgt := 29) hx hb dX7_isAboutKeys_25 (by decide) ?_
      exact x_rz hx hb hr (xnz (Or.inr rfl)) hlk hQ (Nat.le_of_ble_eq_true rfl) (Nat.le_of_ble_eq_true rfl) hS dX7_isAboutKeys_29 () ⟨_, rfl, (Or.inr rfl), (z_X7_isAboutKeys_2 ((G.1 a 0).toInt) c13)⟩ hh
    · refine lv_aload_n hx hb dX7_isAboutKeys_16 rfl (lv_at hl 0 rfl) ?_
      refine gX7_0 S hK hT ha kf_X7_21 dX7_isAboutKeys_17 (v := (G.1 a 0)) rfl (?_)
      refine lv_iconst (v := 5) hx hb dX7_isAboutKeys_20 (by decide) ?_
      refine xi_cne (tgt := 28) hx hb (rfl : Int32.toInt (G.1 a 0) = ((G.1 a 0).toInt)) ((by decide) : Int32.toInt 5 = (5 : Int)) dX7_isAboutKeys_21 (by decide) (fun c21 => ?_) (fun c21 => ?_)
      · refine lv_iconst (v := 0) hx hb dX7_isAboutKeys_28 (by decide) ?_
        exact x_rz hx hb hr (xnz (Or.inl rfl)) hlk hQ (Nat.le_of_ble_eq_true rfl) (Nat.le_of_ble_eq_true rfl) hS dX7_isAboutKeys_29 () ⟨_, rfl, (Or.inl rfl), (z_X7_isAboutKeys_3 ((G.1 a 0).toInt) c5 c13 c21)⟩ hh
      · refine lv_iconst (v := 1) hx hb dX7_isAboutKeys_24 (by decide) ?_
        refine lv_goto (tgt := 29) hx hb dX7_isAboutKeys_25 (by decide) ?_
        exact x_rz hx hb hr (xnz (Or.inr rfl)) hlk hQ (Nat.le_of_ble_eq_true rfl) (Nat.le_of_ble_eq_true rfl) hS dX7_isAboutKeys_29 () ⟨_, rfl, (Or.inr rfl), (z_X7_isAboutKeys_4 ((G.1 a 0).toInt) c21)⟩ hh

theorem z_X7_looksAtKeys_1 (a0 : Int) (h0 : a0 = (1 : Int)) : ((a0 = 1 ∨ a0 = 4) ∧ (1 : Int) = 1) ∨ (¬ (a0 = 1 ∨ a0 = 4) ∧ (1 : Int) = 0) := by omega
theorem z_X7_looksAtKeys_2 (a0 : Int) (h0 : ¬ (a0 = (1 : Int))) (h1 : a0 ≠ (4 : Int)) : ((a0 = 1 ∨ a0 = 4) ∧ (0 : Int) = 1) ∨ (¬ (a0 = 1 ∨ a0 = 4) ∧ (0 : Int) = 0) := by omega
theorem z_X7_looksAtKeys_3 (a0 : Int) (h0 : ¬ (a0 ≠ (4 : Int))) : ((a0 = 1 ∨ a0 = 4) ∧ (1 : Int) = 1) ∨ (¬ (a0 = 1 ∨ a0 = 4) ∧ (1 : Int) = 0) := by omega
abbrev rm_X7_looksAtKeys : Room := { frames := 0, cells := 0, slots := 0, locals := 0 }
set_option maxHeartbeats 4000000 in
set_option maxRecDepth 100000 in
theorem c_X7_looksAtKeys (l : Launch) (E : XE) (K : Nat → Nat) (F : Nat → Nat → Nat) (G : XG) (h0 : Heap) (a : Nat) (ha : K a = 9) : Met l yX7_looksAtKeys (xw yX7_looksAtKeys cX7_looksAtKeys 1 (some .boolean)) rm_X7_looksAtKeys (va_Pc [.ref a] (XPh E K F G h0)) (XQ E (fun v (u : Unit) => ∃ r : Int32, v = .int r ∧ (r = 0 ∨ r = 1) ∧ (((((G.1 a 0).toInt) = 1 ∨ ((G.1 a 0).toInt) = 4) ∧ r.toInt = 1) ∨ (¬ (((G.1 a 0).toInt) = 1 ∨ ((G.1 a 0).toInt) = 4) ∧ r.toInt = 0))) (fun _ H => H = h0)) 0 0 (xA E) := by
  refine x_enter (by decide) (Nat.le_of_ble_eq_true rfl) ?_
  intro p e s m args below meth c Q S hr hlk hnm hQ hP ls hl
  obtain ⟨⟨hz, hK, hT⟩, hh⟩ := hP
  obtain ⟨hx, hb, -, -, -⟩ := id S
  have hS : va_S (xA E) s.heap s.heap [] := va_S.rf
  have hl : lv_has ls 1 [(0, .ref a)] := hl
  refine lv_aload_n hx hb dX7_looksAtKeys_0 rfl (lv_at hl 0 rfl) ?_
  refine gX7_0 S hK hT ha kf_X7_21 dX7_looksAtKeys_1 (v := (G.1 a 0)) rfl (?_)
  refine lv_iconst (v := 1) hx hb dX7_looksAtKeys_4 (by decide) ?_
  refine xi_ceq (tgt := 16) hx hb (rfl : Int32.toInt (G.1 a 0) = ((G.1 a 0).toInt)) ((by decide) : Int32.toInt 1 = (1 : Int)) dX7_looksAtKeys_5 (by decide) (fun c5 => ?_) (fun c5 => ?_)
  · refine lv_iconst (v := 1) hx hb dX7_looksAtKeys_16 (by decide) ?_
    refine lv_goto (tgt := 21) hx hb dX7_looksAtKeys_17 (by decide) ?_
    exact x_rz hx hb hr (xnz (Or.inr rfl)) hlk hQ (Nat.le_of_ble_eq_true rfl) (Nat.le_of_ble_eq_true rfl) hS dX7_looksAtKeys_21 () ⟨_, rfl, (Or.inr rfl), (z_X7_looksAtKeys_1 ((G.1 a 0).toInt) c5)⟩ hh
  · refine lv_aload_n hx hb dX7_looksAtKeys_8 rfl (lv_at hl 0 rfl) ?_
    refine gX7_0 S hK hT ha kf_X7_21 dX7_looksAtKeys_9 (v := (G.1 a 0)) rfl (?_)
    refine lv_iconst (v := 4) hx hb dX7_looksAtKeys_12 (by decide) ?_
    refine xi_cne (tgt := 20) hx hb (rfl : Int32.toInt (G.1 a 0) = ((G.1 a 0).toInt)) ((by decide) : Int32.toInt 4 = (4 : Int)) dX7_looksAtKeys_13 (by decide) (fun c13 => ?_) (fun c13 => ?_)
    · refine lv_iconst (v := 0) hx hb dX7_looksAtKeys_20 (by decide) ?_
      exact x_rz hx hb hr (xnz (Or.inl rfl)) hlk hQ (Nat.le_of_ble_eq_true rfl) (Nat.le_of_ble_eq_true rfl) hS dX7_looksAtKeys_21 () ⟨_, rfl, (Or.inl rfl), (z_X7_looksAtKeys_2 ((G.1 a 0).toInt) c5 c13)⟩ hh
    · refine lv_iconst (v := 1) hx hb dX7_looksAtKeys_16 (by decide) ?_
      refine lv_goto (tgt := 21) hx hb dX7_looksAtKeys_17 (by decide) ?_
      exact x_rz hx hb hr (xnz (Or.inr rfl)) hlk hQ (Nat.le_of_ble_eq_true rfl) (Nat.le_of_ble_eq_true rfl) hS dX7_looksAtKeys_21 () ⟨_, rfl, (Or.inr rfl), (z_X7_looksAtKeys_3 ((G.1 a 0).toInt) c13)⟩ hh

theorem z_X7_isSubject_1 (a0 : Int) (a1 : Int) (a2 : Int) (a3 : Int) (h0 : ((a3 = 2 ∨ a3 = 4 ∨ a3 = 5) ∧ a1 = 1) ∨ (¬ (a3 = 2 ∨ a3 = 4 ∨ a3 = 5) ∧ a1 = 0)) (h1 : a1 = 0) (h2 : (a2 = 1 ∧ (-99) ≤ a0 ∧ a0 < 100) ∨ (a2 = 0 ∧ (a0 < (-99) ∨ 100 ≤ a0))) : ((((a3 = 2 ∨ a3 = 4 ∨ a3 = 5) ∧ 0 ≤ a0 ∧ a0 < 30) ∨ (¬ (a3 = 2 ∨ a3 = 4 ∨ a3 = 5) ∧ -99 ≤ a0 ∧ a0 ≤ 99)) ∧ a2 = 1) ∨ (¬ (((a3 = 2 ∨ a3 = 4 ∨ a3 = 5) ∧ 0 ≤ a0 ∧ a0 < 30) ∨ (¬ (a3 = 2 ∨ a3 = 4 ∨ a3 = 5) ∧ -99 ≤ a0 ∧ a0 ≤ 99)) ∧ a2 = 0) := by omega
theorem z_X7_isSubject_2 (a0 : Int) (a1 : Int) (a2 : Int) (a3 : Int) (h0 : ((a3 = 2 ∨ a3 = 4 ∨ a3 = 5) ∧ a1 = 1) ∨ (¬ (a3 = 2 ∨ a3 = 4 ∨ a3 = 5) ∧ a1 = 0)) (h1 : ¬ (a1 = 0)) (h2 : (a2 = 1 ∧ 0 ≤ a0 ∧ a0 < 30) ∨ (a2 = 0 ∧ (a0 < 0 ∨ 30 ≤ a0))) : ((((a3 = 2 ∨ a3 = 4 ∨ a3 = 5) ∧ 0 ≤ a0 ∧ a0 < 30) ∨ (¬ (a3 = 2 ∨ a3 = 4 ∨ a3 = 5) ∧ -99 ≤ a0 ∧ a0 ≤ 99)) ∧ a2 = 1) ∨ (¬ (((a3 = 2 ∨ a3 = 4 ∨ a3 = 5) ∧ 0 ≤ a0 ∧ a0 < 30) ∨ (¬ (a3 = 2 ∨ a3 = 4 ∨ a3 = 5) ∧ -99 ≤ a0 ∧ a0 ≤ 99)) ∧ a2 = 0) := by omega
abbrev rm_X7_isSubject : Room := { frames := 1, cells := 0, slots := 0, locals := 20 }
set_option maxHeartbeats 4000000 in
set_option maxRecDepth 100000 in
theorem c_X7_isSubject (l : Launch) (E : XE) (K : Nat → Nat) (F : Nat → Nat → Nat) (G : XG) (h0 : Heap) (a : Nat) (p0 : Int32) (ha : K a = 9) : Met l yX7_isSubject (xw yX7_isSubject cX7_isSubject 2 (some .boolean)) rm_X7_isSubject (va_Pc [.ref a, .int p0] (XPh E K F G h0)) (XQ E (fun v (u : Unit) => ∃ r : Int32, v = .int r ∧ (r = 0 ∨ r = 1) ∧ (((((((G.1 a 0).toInt) = 2 ∨ ((G.1 a 0).toInt) = 4 ∨ ((G.1 a 0).toInt) = 5) ∧ 0 ≤ p0.toInt ∧ p0.toInt < 30) ∨ (¬ (((G.1 a 0).toInt) = 2 ∨ ((G.1 a 0).toInt) = 4 ∨ ((G.1 a 0).toInt) = 5) ∧ -99 ≤ p0.toInt ∧ p0.toInt ≤ 99)) ∧ r.toInt = 1) ∨ (¬ (((((G.1 a 0).toInt) = 2 ∨ ((G.1 a 0).toInt) = 4 ∨ ((G.1 a 0).toInt) = 5) ∧ 0 ≤ p0.toInt ∧ p0.toInt < 30) ∨ (¬ (((G.1 a 0).toInt) = 2 ∨ ((G.1 a 0).toInt) = 4 ∨ ((G.1 a 0).toInt) = 5) ∧ -99 ≤ p0.toInt ∧ p0.toInt ≤ 99)) ∧ r.toInt = 0))) (fun _ H => H = h0)) 0 0 (xA E) := by
  refine x_enter (by decide) (Nat.le_of_ble_eq_true rfl) ?_
  intro p e s m args below meth c Q S hr hlk hnm hQ hP ls hl
  obtain ⟨⟨hz, hK, hT⟩, hh⟩ := hP
  obtain ⟨hx, hb, -, -, -⟩ := id S
  have hS : va_S (xA E) s.heap s.heap [] := va_S.rf
  have hl : lv_has ls 2 [(0, .ref a), (1, .int p0)] := hl
  refine lv_aload_n hx hb dX7_isSubject_0 rfl (lv_at hl 0 rfl) ?_
  refine x_clp (x_runV (b := a) (As := []) (rest := []) S (c_X7_isAboutKeys l E K F G s.heap a ha) mv_X7_isAboutKeys km_X7_28 rfl rfl ⟨Nat.le_of_ble_eq_true rfl, Nat.le_of_ble_eq_true rfl⟩ (rc_9 hK hT ha) hK (fun _ => XPh.blind) (fun U hU hW => XPh.at hK hz hS hT hU hW) rfl hl.1 (Nat.le_of_ble_eq_true rfl) dX7_isSubject_1 ⟨Nat.le_of_ble_eq_true rfl, Nat.le_of_ble_eq_true rfl⟩) hS ?_
  rintro _ _ locs ⟨x1, rfl, b1, t1⟩ hS
  have t1 : ((((G.1 a 0).toInt) = 2 ∨ ((G.1 a 0).toInt) = 4 ∨ ((G.1 a 0).toInt) = 5) ∧ x1.toInt = 1) ∨ (¬ (((G.1 a 0).toInt) = 2 ∨ ((G.1 a 0).toInt) = 4 ∨ ((G.1 a 0).toInt) = 5) ∧ x1.toInt = 0) := t1
  refine xi_zeq (tgt := 14) hx hb (rfl : Int32.toInt x1 = x1.toInt) dX7_isSubject_4 (by decide) (fun c4 => ?_) (fun c4 => ?_)
  · refine lv_iload_n hx hb dX7_isSubject_14 rfl (lv_at hl 1 rfl) ?_
    refine x_clp (x_runSN (As := [.int p0]) (rest := []) S (c_X10_isSubjectValue l E K F G s.heap p0) ms_X10_isSubjectValue (by decide +kernel) rfl rfl ⟨Nat.le_of_ble_eq_true rfl, Nat.le_of_ble_eq_true rfl⟩ hK (fun _ => XPh.blind) (fun U hU hW => XPh.at hK hz hS hT hU hW) rfl hl.1 (Nat.le_of_ble_eq_true rfl) dX7_isSubject_15 ⟨Nat.le_of_ble_eq_true rfl, Nat.le_of_ble_eq_true rfl⟩) hS ?_
    rintro _ _ locs ⟨x15, rfl, b15, t15⟩ hS
    have t15 : (x15.toInt = 1 ∧ (-99) ≤ p0.toInt ∧ p0.toInt < 100) ∨ (x15.toInt = 0 ∧ (p0.toInt < (-99) ∨ 100 ≤ p0.toInt)) := t15
    exact x_rz hx hb hr (xnz b15) hlk hQ (Nat.le_of_ble_eq_true rfl) (Nat.le_of_ble_eq_true rfl) hS dX7_isSubject_18 () ⟨_, rfl, b15, (z_X7_isSubject_1 p0.toInt x1.toInt x15.toInt ((G.1 a 0).toInt) t1 c4 t15)⟩ hh
  · refine lv_iload_n hx hb dX7_isSubject_7 rfl (lv_at hl 1 rfl) ?_
    refine x_clp (x_runSN (As := [.int p0]) (rest := []) S (c_X10_isKey l E K F G s.heap p0) ms_X10_isKey (by decide +kernel) rfl rfl ⟨Nat.le_of_ble_eq_true rfl, Nat.le_of_ble_eq_true rfl⟩ hK (fun _ => XPh.blind) (fun U hU hW => XPh.at hK hz hS hT hU hW) rfl hl.1 (Nat.le_of_ble_eq_true rfl) dX7_isSubject_8 ⟨Nat.le_of_ble_eq_true rfl, Nat.le_of_ble_eq_true rfl⟩) hS ?_
    rintro _ _ locs ⟨x8, rfl, b8, t8⟩ hS
    have t8 : (x8.toInt = 1 ∧ 0 ≤ p0.toInt ∧ p0.toInt < 30) ∨ (x8.toInt = 0 ∧ (p0.toInt < 0 ∨ 30 ≤ p0.toInt)) := t8
    refine lv_goto (tgt := 18) hx hb dX7_isSubject_11 (by decide) ?_
    exact x_rz hx hb hr (xnz b8) hlk hQ (Nat.le_of_ble_eq_true rfl) (Nat.le_of_ble_eq_true rfl) hS dX7_isSubject_18 () ⟨_, rfl, b8, (z_X7_isSubject_2 p0.toInt x1.toInt x8.toInt ((G.1 a 0).toInt) t1 c4 t8)⟩ hh

theorem z_X7_follows_1 (a0 : Int) (a1 : Int) (a2 : Int) (a3 : Int) (h0 : a1 ≠ (1 : Int)) : ((a1 = 1 ∧ a2 = a0 ∧ a3 ≠ 0) ∧ (0 : Int) = 1) ∨ (¬ (a1 = 1 ∧ a2 = a0 ∧ a3 ≠ 0) ∧ (0 : Int) = 0) := by omega
theorem z_X7_follows_2 (a0 : Int) (a1 : Int) (a2 : Int) (a3 : Int) (h0 : a2 ≠ a0) : ((a1 = 1 ∧ a2 = a0 ∧ a3 ≠ 0) ∧ (0 : Int) = 1) ∨ (¬ (a1 = 1 ∧ a2 = a0 ∧ a3 ≠ 0) ∧ (0 : Int) = 0) := by omega
theorem z_X7_follows_3 (a0 : Int) (a1 : Int) (a2 : Int) (a3 : Int) (h0 : a3 = 0) : ((a1 = 1 ∧ a2 = a0 ∧ a3 ≠ 0) ∧ (0 : Int) = 1) ∨ (¬ (a1 = 1 ∧ a2 = a0 ∧ a3 ≠ 0) ∧ (0 : Int) = 0) := by omega
theorem z_X7_follows_4 (a0 : Int) (a1 : Int) (a2 : Int) (a3 : Int) (h0 : ¬ (a1 ≠ (1 : Int))) (h1 : ¬ (a2 ≠ a0)) (h2 : ¬ (a3 = 0)) : ((a1 = 1 ∧ a2 = a0 ∧ a3 ≠ 0) ∧ (1 : Int) = 1) ∨ (¬ (a1 = 1 ∧ a2 = a0 ∧ a3 ≠ 0) ∧ (1 : Int) = 0) := by omega
abbrev rm_X7_follows : Room := { frames := 0, cells := 0, slots := 0, locals := 0 }
set_option maxHeartbeats 4000000 in
set_option maxRecDepth 100000 in
theorem c_X7_follows (l : Launch) (E : XE) (K : Nat → Nat) (F : Nat → Nat → Nat) (G : XG) (h0 : Heap) (a : Nat) (p0 : Int32) (ha : K a = 9) : Met l yX7_follows (xw yX7_follows cX7_follows 2 (some .boolean)) rm_X7_follows (va_Pc [.ref a, .int p0] (XPh E K F G h0)) (XQ E (fun v (u : Unit) => ∃ r : Int32, v = .int r ∧ (r = 0 ∨ r = 1) ∧ (((((G.1 a 0).toInt) = 1 ∧ ((G.1 a 4).toInt) = p0.toInt ∧ ((G.1 a 7).toInt) ≠ 0) ∧ r.toInt = 1) ∨ (¬ (((G.1 a 0).toInt) = 1 ∧ ((G.1 a 4).toInt) = p0.toInt ∧ ((G.1 a 7).toInt) ≠ 0) ∧ r.toInt = 0))) (fun _ H => H = h0)) 0 0 (xA E) := by
  refine x_enter (by decide) (Nat.le_of_ble_eq_true rfl) ?_
  intro p e s m args below meth c Q S hr hlk hnm hQ hP ls hl
  obtain ⟨⟨hz, hK, hT⟩, hh⟩ := hP
  obtain ⟨hx, hb, -, -, -⟩ := id S
  have hS : va_S (xA E) s.heap s.heap [] := va_S.rf
  have hl : lv_has ls 2 [(0, .ref a), (1, .int p0)] := hl
  refine lv_aload_n hx hb dX7_follows_0 rfl (lv_at hl 0 rfl) ?_
  refine gX7_0 S hK hT ha kf_X7_21 dX7_follows_1 (v := (G.1 a 0)) rfl (?_)
  refine lv_iconst (v := 1) hx hb dX7_follows_4 (by decide) ?_
  refine xi_cne (tgt := 27) hx hb (rfl : Int32.toInt (G.1 a 0) = ((G.1 a 0).toInt)) ((by decide) : Int32.toInt 1 = (1 : Int)) dX7_follows_5 (by decide) (fun c5 => ?_) (fun c5 => ?_)
  · refine lv_iconst (v := 0) hx hb dX7_follows_27 (by decide) ?_
    exact x_rz hx hb hr (xnz (Or.inl rfl)) hlk hQ (Nat.le_of_ble_eq_true rfl) (Nat.le_of_ble_eq_true rfl) hS dX7_follows_28 () ⟨_, rfl, (Or.inl rfl), (z_X7_follows_1 p0.toInt ((G.1 a 0).toInt) ((G.1 a 4).toInt) ((G.1 a 7).toInt) c5)⟩ hh
  · refine lv_aload_n hx hb dX7_follows_8 rfl (lv_at hl 0 rfl) ?_
    refine gX7_4 S hK hT ha kf_X7_15 dX7_follows_9 (v := (G.1 a 4)) rfl (?_)
    refine lv_iload_n hx hb dX7_follows_12 rfl (lv_at hl 1 rfl) ?_
    refine xi_cne (tgt := 27) hx hb (rfl : Int32.toInt (G.1 a 4) = ((G.1 a 4).toInt)) (rfl : Int32.toInt p0 = p0.toInt) dX7_follows_13 (by decide) (fun c13 => ?_) (fun c13 => ?_)
    · refine lv_iconst (v := 0) hx hb dX7_follows_27 (by decide) ?_
      exact x_rz hx hb hr (xnz (Or.inl rfl)) hlk hQ (Nat.le_of_ble_eq_true rfl) (Nat.le_of_ble_eq_true rfl) hS dX7_follows_28 () ⟨_, rfl, (Or.inl rfl), (z_X7_follows_2 p0.toInt ((G.1 a 0).toInt) ((G.1 a 4).toInt) ((G.1 a 7).toInt) c13)⟩ hh
    · refine lv_aload_n hx hb dX7_follows_16 rfl (lv_at hl 0 rfl) ?_
      refine gX7_7 S hK hT ha kf_X7_18 dX7_follows_17 (v := (G.1 a 7)) rfl (?_)
      refine xi_zeq (tgt := 27) hx hb (rfl : Int32.toInt (G.1 a 7) = ((G.1 a 7).toInt)) dX7_follows_20 (by decide) (fun c20 => ?_) (fun c20 => ?_)
      · refine lv_iconst (v := 0) hx hb dX7_follows_27 (by decide) ?_
        exact x_rz hx hb hr (xnz (Or.inl rfl)) hlk hQ (Nat.le_of_ble_eq_true rfl) (Nat.le_of_ble_eq_true rfl) hS dX7_follows_28 () ⟨_, rfl, (Or.inl rfl), (z_X7_follows_3 p0.toInt ((G.1 a 0).toInt) ((G.1 a 4).toInt) ((G.1 a 7).toInt) c20)⟩ hh
      · refine lv_iconst (v := 1) hx hb dX7_follows_23 (by decide) ?_
        refine lv_goto (tgt := 28) hx hb dX7_follows_24 (by decide) ?_
        exact x_rz hx hb hr (xnz (Or.inr rfl)) hlk hQ (Nat.le_of_ble_eq_true rfl) (Nat.le_of_ble_eq_true rfl) hS dX7_follows_28 () ⟨_, rfl, (Or.inr rfl), (z_X7_follows_4 p0.toInt ((G.1 a 0).toInt) ((G.1 a 4).toInt) ((G.1 a 7).toInt) c5 c13 c20)⟩ hh

theorem z_X7_isOutside_1 (a0 : Int) (a1 : Int) (a2 : Int) (h0 : a0 < a1) : ((a0 < a1 ∨ a2 < a0) ∧ (1 : Int) = 1) ∨ (¬ (a0 < a1 ∨ a2 < a0) ∧ (1 : Int) = 0) := by omega
theorem z_X7_isOutside_2 (a0 : Int) (a1 : Int) (a2 : Int) (h0 : ¬ (a0 < a1)) (h1 : a0 ≤ a2) : ((a0 < a1 ∨ a2 < a0) ∧ (0 : Int) = 1) ∨ (¬ (a0 < a1 ∨ a2 < a0) ∧ (0 : Int) = 0) := by omega
theorem z_X7_isOutside_3 (a0 : Int) (a1 : Int) (a2 : Int) (h0 : ¬ (a0 ≤ a2)) : ((a0 < a1 ∨ a2 < a0) ∧ (1 : Int) = 1) ∨ (¬ (a0 < a1 ∨ a2 < a0) ∧ (1 : Int) = 0) := by omega
abbrev rm_X7_isOutside : Room := { frames := 0, cells := 0, slots := 0, locals := 0 }
set_option maxHeartbeats 4000000 in
set_option maxRecDepth 100000 in
theorem c_X7_isOutside (l : Launch) (E : XE) (K : Nat → Nat) (F : Nat → Nat → Nat) (G : XG) (h0 : Heap) (a : Nat) (p0 : Int32) (ha : K a = 9) : Met l yX7_isOutside (xw yX7_isOutside cX7_isOutside 2 (some .boolean)) rm_X7_isOutside (va_Pc [.ref a, .int p0] (XPh E K F G h0)) (XQ E (fun v (u : Unit) => ∃ r : Int32, v = .int r ∧ (r = 0 ∨ r = 1) ∧ (((p0.toInt < ((G.1 a 5).toInt) ∨ ((G.1 a 6).toInt) < p0.toInt) ∧ r.toInt = 1) ∨ (¬ (p0.toInt < ((G.1 a 5).toInt) ∨ ((G.1 a 6).toInt) < p0.toInt) ∧ r.toInt = 0))) (fun _ H => H = h0)) 0 0 (xA E) := by
  refine x_enter (by decide) (Nat.le_of_ble_eq_true rfl) ?_
  intro p e s m args below meth c Q S hr hlk hnm hQ hP ls hl
  obtain ⟨⟨hz, hK, hT⟩, hh⟩ := hP
  obtain ⟨hx, hb, -, -, -⟩ := id S
  have hS : va_S (xA E) s.heap s.heap [] := va_S.rf
  have hl : lv_has ls 2 [(0, .ref a), (1, .int p0)] := hl
  refine lv_iload_n hx hb dX7_isOutside_0 rfl (lv_at hl 1 rfl) ?_
  refine lv_aload_n hx hb dX7_isOutside_1 rfl (lv_at hl 0 rfl) ?_
  refine gX7_5 S hK hT ha kf_X7_70 dX7_isOutside_2 (v := (G.1 a 5)) rfl (?_)
  refine xi_clt (tgt := 16) hx hb (rfl : Int32.toInt p0 = p0.toInt) (rfl : Int32.toInt (G.1 a 5) = ((G.1 a 5).toInt)) dX7_isOutside_5 (by decide) (fun c5 => ?_) (fun c5 => ?_)
  · refine lv_iconst (v := 1) hx hb dX7_isOutside_16 (by decide) ?_
    refine lv_goto (tgt := 21) hx hb dX7_isOutside_17 (by decide) ?_
    exact x_rz hx hb hr (xnz (Or.inr rfl)) hlk hQ (Nat.le_of_ble_eq_true rfl) (Nat.le_of_ble_eq_true rfl) hS dX7_isOutside_21 () ⟨_, rfl, (Or.inr rfl), (z_X7_isOutside_1 p0.toInt ((G.1 a 5).toInt) ((G.1 a 6).toInt) c5)⟩ hh
  · refine lv_iload_n hx hb dX7_isOutside_8 rfl (lv_at hl 1 rfl) ?_
    refine lv_aload_n hx hb dX7_isOutside_9 rfl (lv_at hl 0 rfl) ?_
    refine gX7_6 S hK hT ha kf_X7_73 dX7_isOutside_10 (v := (G.1 a 6)) rfl (?_)
    refine xi_cle (tgt := 20) hx hb (rfl : Int32.toInt p0 = p0.toInt) (rfl : Int32.toInt (G.1 a 6) = ((G.1 a 6).toInt)) dX7_isOutside_13 (by decide) (fun c13 => ?_) (fun c13 => ?_)
    · refine lv_iconst (v := 0) hx hb dX7_isOutside_20 (by decide) ?_
      exact x_rz hx hb hr (xnz (Or.inl rfl)) hlk hQ (Nat.le_of_ble_eq_true rfl) (Nat.le_of_ble_eq_true rfl) hS dX7_isOutside_21 () ⟨_, rfl, (Or.inl rfl), (z_X7_isOutside_2 p0.toInt ((G.1 a 5).toInt) ((G.1 a 6).toInt) c5 c13)⟩ hh
    · refine lv_iconst (v := 1) hx hb dX7_isOutside_16 (by decide) ?_
      refine lv_goto (tgt := 21) hx hb dX7_isOutside_17 (by decide) ?_
      exact x_rz hx hb hr (xnz (Or.inr rfl)) hlk hQ (Nat.le_of_ble_eq_true rfl) (Nat.le_of_ble_eq_true rfl) hS dX7_isOutside_21 () ⟨_, rfl, (Or.inr rfl), (z_X7_isOutside_3 p0.toInt ((G.1 a 5).toInt) ((G.1 a 6).toInt) c13)⟩ hh

theorem z_X7_isOnRing_1 (a0 : Int) (h0 : 0 ≤ a0 ∧ a0 ≤ 30) : ¬ (2147483648 - a0 < ((0 : Nat) : Int)) := by omega
theorem z_X7_isOnRing_2 (a0 : Int) (a1 : Int) (a2 : Int) (h0 : a1 = a2) (h1 : (30 : Int) ≤ a0) (h2 : 30 ≤ a0 → a1 = 0) : (0 : Int) = a2 := by omega
theorem z_X7_isOnRing_3 (a0 : Int) (h0 : ¬ ((30 : Int) ≤ a0)) : 0 < 30 - a0 := by omega
theorem z_X7_isOnRing_4 (a0 : Int) (a1 : Int) (a2 : Int) (a3 : Int) (h0 : a2 = a3) (h1 : a1 = -2000 → a2 = 0) (h2 : (a0 = 1 ∧ a1 ≠ -2000) ∨ (a0 = 0 ∧ a1 = -2000)) (h3 : a0 = 0) : (0 : Int) = a3 := by omega
theorem z_X7_isOnRing_5 (a0 : Int) (a1 : Int) (h0 : 0 ≤ a0 ∧ a0 ≤ 30) (h1 : a1 = (a0 + 1) ∨ (a0 + 1) < -2147483648 ∨ 2147483648 ≤ (a0 + 1)) : a1 = (a0 + 1) := by omega
theorem z_X7_isOnRing_6 (a0 : Int) (h0 : 0 ≤ a0 ∧ a0 ≤ 30) (h1 : ¬ ((30 : Int) ≤ a0)) : 0 ≤ (a0 + 1) ∧ (a0 + 1) ≤ 30 := by omega
theorem z_X7_isOnRing_7 (a0 : Int) (a1 : Int) (a2 : Int) (a3 : Int) (a4 : Int) (a5 : Int) (a6 : Int) (a7 : Int) (h0 : a6 = a7) (h1 : a3 ≠ -2000 → a0 ≠ a1 → a6 = a5) (h2 : (a2 = 1 ∧ a3 ≠ -2000) ∨ (a2 = 0 ∧ a3 = -2000)) (h3 : ¬ (a2 = 0)) (h4 : a0 ≠ a1) (h5 : a4 = a5) : a4 = a7 := by omega
theorem z_X7_isOnRing_8 (a0 : Int) (h0 : 0 ≤ a0 ∧ a0 ≤ 30) : (0 : Int) ≤ (a0 + 1) := by omega
theorem z_X7_isOnRing_9 (a0 : Int) (a1 : Nat) (h0 : 2147483648 - a0 < ((a1 + 1 : Nat) : Int)) : 2147483648 - (a0 + 1) < ((a1 : Nat) : Int) := by omega
theorem z_X7_isOnRing_10 (a0 : Int) (a1 : Int) (a2 : Int) (a3 : Int) (a4 : Int) (a5 : Int) (h0 : a4 = a5) (h1 : a3 ≠ -2000 → a0 = a1 → a4 = 1) (h2 : (a2 = 1 ∧ a3 ≠ -2000) ∨ (a2 = 0 ∧ a3 = -2000)) (h3 : ¬ (a2 = 0)) (h4 : ¬ (a0 ≠ a1)) : (1 : Int) = a5 := by omega
abbrev rm_X7_isOnRing : Room := { frames := 2, cells := 0, slots := 0, locals := 44 }
set_option maxHeartbeats 4000000 in
set_option maxRecDepth 100000 in
theorem c_X7_isOnRing (l : Launch) (E : XE) (K : Nat → Nat) (F : Nat → Nat → Nat) (G : XG) (h0 : Heap) (a : Nat) (p0 : Nat) (p1 : Int32) (ha : K a = 9) (hp0 : K p0 = 8) (hro : RO (vw (G.2.1 (F p0 0))) (aI (G.2.1 (F p0 1)))) : Met l yX7_isOnRing (xw yX7_isOnRing cX7_isOnRing 5 (some .boolean)) rm_X7_isOnRing (va_Pc [.ref a, .ref p0, .int p1] (XPh E K F G h0)) (XQ E (fun v (u : Unit) => ∃ r : Int32, v = .int r ∧ (r = 0 ∨ r = 1) ∧ (r.toInt = (rgq (vw (G.2.1 (F p0 0))) ((G.1 a 2).toInt) ((G.1 a 3).toInt) (p1.toInt) 30 (cel (vw (G.2.1 (F p0 0))) ((G.1 a 2).toInt) (p1.toInt) ((G.1 a 3).toInt))))) (fun _ H => H = h0)) 0 0 (xA E) := by
  refine x_enter (by decide) (Nat.le_of_ble_eq_true rfl) ?_
  intro p e s m args below meth c Q S hr hlk hnm hQ hP ls hl
  obtain ⟨⟨hz, hK, hT⟩, hh⟩ := hP
  obtain ⟨hx, hb, -, -, -⟩ := id S
  have hS : va_S (xA E) s.heap s.heap [] := va_S.rf
  have hl : lv_has ls 5 [(0, .ref a), (1, .ref p0), (2, .int p1)] := hl
  obtain ⟨hk9999, hj9999⟩ := fkX6_0 hT hp0
  obtain ⟨hk9999a, hj9999a⟩ := fkX6_1 hT hp0
  refine lv_aload_n hx hb dX7_isOnRing_0 rfl (lv_at hl 1 rfl) ?_
  refine lv_aload_n hx hb dX7_isOnRing_1 rfl (lv_at hl 0 rfl) ?_
  refine gX7_2 S hK hT ha kf_X7_39 dX7_isOnRing_2 (v := (G.1 a 2)) rfl (?_)
  refine lv_iload_n hx hb dX7_isOnRing_5 rfl (lv_at hl 2 rfl) ?_
  refine lv_aload_n hx hb dX7_isOnRing_6 rfl (lv_at hl 0 rfl) ?_
  refine gX7_3 S hK hT ha kf_X7_42 dX7_isOnRing_7 (v := (G.1 a 3)) rfl (?_)
  refine x_clp (x_runV (b := p0) (As := [.int (G.1 a 2), .int p1, .int (G.1 a 3)]) (rest := []) S (c_X6_cell l E K F G s.heap p0 (G.1 a 2) p1 (G.1 a 3) hp0) mv_X6_cell km_X7_59 rfl rfl ⟨Nat.le_of_ble_eq_true rfl, Nat.le_of_ble_eq_true rfl⟩ (rc_8 hK hT hp0) hK (fun _ => XPh.blind) (fun U hU hW => XPh.at hK hz hS hT hU hW) rfl hl.1 (Nat.le_of_ble_eq_true rfl) dX7_isOnRing_10 ⟨Nat.le_of_ble_eq_true rfl, Nat.le_of_ble_eq_true rfl⟩) hS ?_
  rintro _ _ locs ⟨x10, rfl, t10⟩ hS
  have t10 : x10.toInt = (cel (vw (G.2.1 (F p0 0))) ((G.1 a 2).toInt) (p1.toInt) ((G.1 a 3).toInt)) := t10
  refine lv_istore_n (lv' := [(3, .int x10), (0, .ref a), (1, .ref p0), (2, .int p1)]) hx hb dX7_isOnRing_13 rfl hl (by decide) rfl (fun ls hl => ?_)
  refine lv_iconst (v := 0) hx hb dX7_isOnRing_14 (by decide) ?_
  have z15 : (rgq (vw (G.2.1 (F p0 0))) ((G.1 a 2).toInt) ((G.1 a 3).toInt) (p1.toInt) (30 - 0) (cel (vw (G.2.1 (F p0 0))) ((G.1 a 2).toInt) (p1.toInt) ((G.1 a 3).toInt))) = (rgq (vw (G.2.1 (F p0 0))) ((G.1 a 2).toInt) ((G.1 a 3).toInt) (p1.toInt) 30 (cel (vw (G.2.1 (F p0 0))) ((G.1 a 2).toInt) (p1.toInt) ((G.1 a 3).toInt))) := by rw [show (30 - 0 : Int) = 30 from by decide]
  refine lv_istore (lv' := [(4, .int 0), (3, .int x10), (0, .ref a), (1, .ref p0), (2, .int p1)]) hx hb dX7_isOnRing_15 hl (by decide) rfl (fun ls hl => ?_)
  have L17 : ∀ (N17 : Nat) (l3_17 : Int32) (l4_17 : Int32) (locs : List Loc) (ls : Array Slot), 0 ≤ l4_17.toInt ∧ l4_17.toInt ≤ 30 → (rgq (vw (G.2.1 (F p0 0))) ((G.1 a 2).toInt) ((G.1 a 3).toInt) (p1.toInt) (30 - l4_17.toInt) (l3_17.toInt)) = (rgq (vw (G.2.1 (F p0 0))) ((G.1 a 2).toInt) ((G.1 a 3).toInt) (p1.toInt) 30 (cel (vw (G.2.1 (F p0 0))) ((G.1 a 2).toInt) (p1.toInt) ((G.1 a 3).toInt))) → (0 : Int) ≤ l4_17.toInt → 2147483648 - l4_17.toInt < ((N17 : Nat) : Int) → TW E K F G s.heap → va_S (xA E) s.heap s.heap locs → lv_has ls 5 [(0, .ref a), (1, .ref p0), (2, .int p1), (3, .int l3_17), (4, .int l4_17)] → W p l e rm_X7_isOnRing s m args below meth c s.heap locs 0 0 Q (F0 m 17 ls []) := by
    intro N17
    induction N17 with
    | zero =>
      intro l3_17 l4_17 locs ls I17_0 I17_1 I17_2 hm17
      exact absurd hm17 (z_X7_isOnRing_1 l4_17.toInt I17_0)
    | succ N17 ih17 =>
      intro l3_17 l4_17 locs ls I17_0 I17_1 I17_2 hm17 hT hS hl
      refine lv_iload hx hb dX7_isOnRing_17 (lv_at hl 4 rfl) ?_
      refine lv_bipush (v := 30) hx hb dX7_isOnRing_19 (by decide) ?_
      refine xi_cge (tgt := 63) hx hb (rfl : Int32.toInt l4_17 = l4_17.toInt) ((by decide) : Int32.toInt 30 = (30 : Int)) dX7_isOnRing_21 (by decide) (fun c21 => ?_) (fun c21 => ?_)
      · have z63 : 30 ≤ l4_17.toInt → (rgq (vw (G.2.1 (F p0 0))) ((G.1 a 2).toInt) ((G.1 a 3).toInt) (p1.toInt) (30 - l4_17.toInt) (l3_17.toInt)) = 0 := fun h9 => by rw [show 30 - l4_17.toInt = (0 : Int) from by omega]; exact rgq_0 _ _ _ _ _
        refine lv_iconst (v := 0) hx hb dX7_isOnRing_63 (by decide) ?_
        exact x_rz hx hb hr (xnz (Or.inl rfl)) hlk hQ (Nat.le_of_ble_eq_true rfl) (Nat.le_of_ble_eq_true rfl) hS dX7_isOnRing_64 () ⟨_, rfl, (Or.inl rfl), (z_X7_isOnRing_2 l4_17.toInt (rgq (vw (G.2.1 (F p0 0))) ((G.1 a 2).toInt) ((G.1 a 3).toInt) (p1.toInt) (30 - l4_17.toInt) (l3_17.toInt)) (rgq (vw (G.2.1 (F p0 0))) ((G.1 a 2).toInt) ((G.1 a 3).toInt) (p1.toInt) 30 (cel (vw (G.2.1 (F p0 0))) ((G.1 a 2).toInt) (p1.toInt) ((G.1 a 3).toInt))) I17_1 c21 z63)⟩ hh
      · have z24 : ((cel (vw (G.2.1 (F p0 0))) ((G.1 a 2).toInt) (l3_17.toInt) 0) = -2000 → (rgq (vw (G.2.1 (F p0 0))) ((G.1 a 2).toInt) ((G.1 a 3).toInt) (p1.toInt) (30 - l4_17.toInt) (l3_17.toInt)) = 0) ∧ ((cel (vw (G.2.1 (F p0 0))) ((G.1 a 2).toInt) (l3_17.toInt) 0) ≠ -2000 → l3_17.toInt = p1.toInt → (rgq (vw (G.2.1 (F p0 0))) ((G.1 a 2).toInt) ((G.1 a 3).toInt) (p1.toInt) (30 - l4_17.toInt) (l3_17.toInt)) = 1) ∧ ((cel (vw (G.2.1 (F p0 0))) ((G.1 a 2).toInt) (l3_17.toInt) 0) ≠ -2000 → l3_17.toInt ≠ p1.toInt → (rgq (vw (G.2.1 (F p0 0))) ((G.1 a 2).toInt) ((G.1 a 3).toInt) (p1.toInt) (30 - l4_17.toInt) (l3_17.toInt)) = (rgq (vw (G.2.1 (F p0 0))) ((G.1 a 2).toInt) ((G.1 a 3).toInt) (p1.toInt) (30 - l4_17.toInt - 1) (cel (vw (G.2.1 (F p0 0))) ((G.1 a 2).toInt) (l3_17.toInt) ((G.1 a 3).toInt)))) := rgq_f _ _ _ _ _ (z_X7_isOnRing_3 l4_17.toInt c21)
        refine lv_aload_n hx hb dX7_isOnRing_24 rfl (lv_at hl 1 rfl) ?_
        refine lv_aload_n hx hb dX7_isOnRing_25 rfl (lv_at hl 0 rfl) ?_
        refine gX7_2 S hK hT ha kf_X7_39 dX7_isOnRing_26 (v := (G.1 a 2)) rfl (?_)
        refine lv_iload_n hx hb dX7_isOnRing_29 rfl (lv_at hl 3 rfl) ?_
        refine x_clp (x_runV (b := p0) (As := [.int (G.1 a 2), .int l3_17]) (rest := []) S (c_X6_has l E K F G s.heap p0 (G.1 a 2) l3_17 hp0 (v_X7_isOnRing_30_1 p0 G hro)) mv_X6_has km_X7_51 rfl rfl ⟨Nat.le_of_ble_eq_true rfl, Nat.le_of_ble_eq_true rfl⟩ (rc_8 hK hT hp0) hK (fun _ => XPh.blind) (fun U hU hW => XPh.at hK hz hS hT hU hW) rfl hl.1 (Nat.le_of_ble_eq_true rfl) dX7_isOnRing_30 ⟨Nat.le_of_ble_eq_true rfl, Nat.le_of_ble_eq_true rfl⟩) hS ?_
        rintro _ _ locs ⟨x30, rfl, b30, t30⟩ hS
        have t30 : (x30.toInt = 1 ∧ (cel (vw (G.2.1 (F p0 0))) ((G.1 a 2).toInt) (l3_17.toInt) 0) ≠ -2000) ∨ (x30.toInt = 0 ∧ (cel (vw (G.2.1 (F p0 0))) ((G.1 a 2).toInt) (l3_17.toInt) 0) = -2000) := t30
        refine xi_zeq (tgt := 63) hx hb (rfl : Int32.toInt x30 = x30.toInt) dX7_isOnRing_33 (by decide) (fun c33 => ?_) (fun c33 => ?_)
        · have z63 : 30 ≤ l4_17.toInt → (rgq (vw (G.2.1 (F p0 0))) ((G.1 a 2).toInt) ((G.1 a 3).toInt) (p1.toInt) (30 - l4_17.toInt) (l3_17.toInt)) = 0 := fun h9 => by rw [show 30 - l4_17.toInt = (0 : Int) from by omega]; exact rgq_0 _ _ _ _ _
          refine lv_iconst (v := 0) hx hb dX7_isOnRing_63 (by decide) ?_
          exact x_rz hx hb hr (xnz (Or.inl rfl)) hlk hQ (Nat.le_of_ble_eq_true rfl) (Nat.le_of_ble_eq_true rfl) hS dX7_isOnRing_64 () ⟨_, rfl, (Or.inl rfl), (z_X7_isOnRing_4 x30.toInt (cel (vw (G.2.1 (F p0 0))) ((G.1 a 2).toInt) (l3_17.toInt) 0) (rgq (vw (G.2.1 (F p0 0))) ((G.1 a 2).toInt) ((G.1 a 3).toInt) (p1.toInt) (30 - l4_17.toInt) (l3_17.toInt)) (rgq (vw (G.2.1 (F p0 0))) ((G.1 a 2).toInt) ((G.1 a 3).toInt) (p1.toInt) 30 (cel (vw (G.2.1 (F p0 0))) ((G.1 a 2).toInt) (p1.toInt) ((G.1 a 3).toInt))) I17_1 (z24).1 t30 c33)⟩ hh
        · refine lv_iload_n hx hb dX7_isOnRing_36 rfl (lv_at hl 3 rfl) ?_
          refine lv_iload_n hx hb dX7_isOnRing_37 rfl (lv_at hl 2 rfl) ?_
          refine xi_cne (tgt := 43) hx hb (rfl : Int32.toInt l3_17 = l3_17.toInt) (rfl : Int32.toInt p1 = p1.toInt) dX7_isOnRing_38 (by decide) (fun c38 => ?_) (fun c38 => ?_)
          · refine lv_aload_n hx hb dX7_isOnRing_43 rfl (lv_at hl 1 rfl) ?_
            refine lv_aload_n hx hb dX7_isOnRing_44 rfl (lv_at hl 0 rfl) ?_
            refine gX7_2 S hK hT ha kf_X7_39 dX7_isOnRing_45 (v := (G.1 a 2)) rfl (?_)
            refine lv_iload_n hx hb dX7_isOnRing_48 rfl (lv_at hl 3 rfl) ?_
            refine lv_aload_n hx hb dX7_isOnRing_49 rfl (lv_at hl 0 rfl) ?_
            refine gX7_3 S hK hT ha kf_X7_42 dX7_isOnRing_50 (v := (G.1 a 3)) rfl (?_)
            refine x_clp (x_runV (b := p0) (As := [.int (G.1 a 2), .int l3_17, .int (G.1 a 3)]) (rest := []) S (c_X6_cell l E K F G s.heap p0 (G.1 a 2) l3_17 (G.1 a 3) hp0) mv_X6_cell km_X7_59 rfl rfl ⟨Nat.le_of_ble_eq_true rfl, Nat.le_of_ble_eq_true rfl⟩ (rc_8 hK hT hp0) hK (fun _ => XPh.blind) (fun U hU hW => XPh.at hK hz hS hT hU hW) rfl hl.1 (Nat.le_of_ble_eq_true rfl) dX7_isOnRing_53 ⟨Nat.le_of_ble_eq_true rfl, Nat.le_of_ble_eq_true rfl⟩) hS ?_
            rintro _ _ locs ⟨x53, rfl, t53⟩ hS
            have t53 : x53.toInt = (cel (vw (G.2.1 (F p0 0))) ((G.1 a 2).toInt) (l3_17.toInt) ((G.1 a 3).toInt)) := t53
            refine lv_istore_n (lv' := [(3, .int x53), (0, .ref a), (1, .ref p0), (2, .int p1), (4, .int l4_17)]) hx hb dX7_isOnRing_56 rfl hl (by decide) rfl (fun ls hl => ?_)
            refine xi_iinc (n := 1) (lv' := fun z9 => [(4, .int z9), (3, .int x53), (0, .ref a), (1, .ref p0), (2, .int p1)]) (k := 4) hx hb (rfl : Int32.toInt l4_17 = l4_17.toInt) (by decide) dX7_isOnRing_57 hl rfl (by decide) (fun _ => rfl) (fun x57 ls t57 hl => ?_)
            have e57 : x57.toInt = (l4_17.toInt + 1) := (z_X7_isOnRing_5 l4_17.toInt x57.toInt I17_0 t57)
            have hl : lv_has ls 5 [(4, .int x57), (3, .int x53), (0, .ref a), (1, .ref p0), (2, .int p1)] := hl
            have z60 : (rgq (vw (G.2.1 (F p0 0))) ((G.1 a 2).toInt) ((G.1 a 3).toInt) (p1.toInt) (30 - (l4_17.toInt + 1)) (cel (vw (G.2.1 (F p0 0))) ((G.1 a 2).toInt) (l3_17.toInt) ((G.1 a 3).toInt))) = (rgq (vw (G.2.1 (F p0 0))) ((G.1 a 2).toInt) ((G.1 a 3).toInt) (p1.toInt) (30 - l4_17.toInt - 1) (cel (vw (G.2.1 (F p0 0))) ((G.1 a 2).toInt) (l3_17.toInt) ((G.1 a 3).toInt))) := by rw [show 30 - (l4_17.toInt + 1) = 30 - l4_17.toInt - 1 from by omega]
            refine lv_goto (tgt := 17) hx hb dX7_isOnRing_60 (by decide) ?_
            exact ih17 x53 x57 _ _ (by rw [(e57 : Int32.toInt x57 = (l4_17.toInt + 1))] <;> exact (z_X7_isOnRing_6 l4_17.toInt I17_0 c21)) (by rw [(e57 : Int32.toInt x57 = (l4_17.toInt + 1)), (t53 : Int32.toInt x53 = (cel (vw (G.2.1 (F p0 0))) ((G.1 a 2).toInt) (l3_17.toInt) ((G.1 a 3).toInt)))] <;> exact (z_X7_isOnRing_7 l3_17.toInt p1.toInt x30.toInt (cel (vw (G.2.1 (F p0 0))) ((G.1 a 2).toInt) (l3_17.toInt) 0) (rgq (vw (G.2.1 (F p0 0))) ((G.1 a 2).toInt) ((G.1 a 3).toInt) (p1.toInt) (30 - (l4_17.toInt + 1)) (cel (vw (G.2.1 (F p0 0))) ((G.1 a 2).toInt) (l3_17.toInt) ((G.1 a 3).toInt))) (rgq (vw (G.2.1 (F p0 0))) ((G.1 a 2).toInt) ((G.1 a 3).toInt) (p1.toInt) (30 - l4_17.toInt - 1) (cel (vw (G.2.1 (F p0 0))) ((G.1 a 2).toInt) (l3_17.toInt) ((G.1 a 3).toInt))) (rgq (vw (G.2.1 (F p0 0))) ((G.1 a 2).toInt) ((G.1 a 3).toInt) (p1.toInt) (30 - l4_17.toInt) (l3_17.toInt)) (rgq (vw (G.2.1 (F p0 0))) ((G.1 a 2).toInt) ((G.1 a 3).toInt) (p1.toInt) 30 (cel (vw (G.2.1 (F p0 0))) ((G.1 a 2).toInt) (p1.toInt) ((G.1 a 3).toInt))) I17_1 (z24).2.2 t30 c33 c38 z60)) (by rw [(e57 : Int32.toInt x57 = (l4_17.toInt + 1))] <;> exact (z_X7_isOnRing_8 l4_17.toInt I17_0)) (by rw [(e57 : Int32.toInt x57 = (l4_17.toInt + 1))] <;> exact (z_X7_isOnRing_9 l4_17.toInt N17 hm17)) hT hS (lv_sub hl [2, 3, 4, 1, 0] rfl)
          · refine lv_iconst (v := 1) hx hb dX7_isOnRing_41 (by decide) ?_
            exact x_rz hx hb hr (xnz (Or.inr rfl)) hlk hQ (Nat.le_of_ble_eq_true rfl) (Nat.le_of_ble_eq_true rfl) hS dX7_isOnRing_42 () ⟨_, rfl, (Or.inr rfl), (z_X7_isOnRing_10 l3_17.toInt p1.toInt x30.toInt (cel (vw (G.2.1 (F p0 0))) ((G.1 a 2).toInt) (l3_17.toInt) 0) (rgq (vw (G.2.1 (F p0 0))) ((G.1 a 2).toInt) ((G.1 a 3).toInt) (p1.toInt) (30 - l4_17.toInt) (l3_17.toInt)) (rgq (vw (G.2.1 (F p0 0))) ((G.1 a 2).toInt) ((G.1 a 3).toInt) (p1.toInt) 30 (cel (vw (G.2.1 (F p0 0))) ((G.1 a 2).toInt) (p1.toInt) ((G.1 a 3).toInt))) I17_1 (z24).2.1 t30 c33 c38)⟩ hh
  exact L17 4294967297 x10 0 _ _ (by decide) (by rw [(t10 : Int32.toInt x10 = (cel (vw (G.2.1 (F p0 0))) ((G.1 a 2).toInt) (p1.toInt) ((G.1 a 3).toInt)))] <;> exact (z15)) (by decide) (by decide) hT hS (lv_sub hl [2, 3, 4, 1, 0] rfl)

theorem z_X7_state_1 (a0 : Int) : (a0 < 0 ∨ 4 < a0) ∨ (a0 = 0) ∨ (a0 = 1) ∨ (a0 = 2) ∨ (a0 = 3) ∨ (a0 = 4) := by omega
theorem z_X7_state_2 (a0 : Int) (a1 : Int) (a2 : Int) (h0 : 0 ≤ a0 ∧ a0 ≤ 5) (h1 : a0 = 2 ∨ a0 = 5 → a2 = a1) (h2 : a0 < 0 ∨ 4 < a0) : a1 = a2 := by omega
theorem z_X7_state_3 (a0 : Int) (a1 : Int) (h0 : 0 ≤ a0 ∧ a0 ≤ 2) (h1 : 0 ≤ a1 ∧ a1 ≤ 2) : 0 ≤ a0 ∧ a0 < 3 ∧ 0 ≤ a1 ∧ a1 < 3 := by omega
theorem z_X7_state_4 (a0 : Int) (a1 : Int) (a2 : Int) (h0 : a0 = 0 → a2 = a1) (h1 : a0 = 0) : a1 = a2 := by omega
theorem z_X7_state_6 (a0 : Int) (a1 : Int) (h0 : 0 ≤ a1 ∧ a1 ≤ 30) (h1 : a0 = ((2 : Int) * a1) ∨ ((2 : Int) * a1) < -2147483648 ∨ 2147483648 ≤ ((2 : Int) * a1)) : a0 = ((2 : Int) * a1) := by omega
theorem z_X7_state_7 (a0 : Int) (a1 : Int) (h0 : 0 ≤ a1 ∧ a1 ≤ 30) (h1 : a0 = (((2 : Int) * a1) + (0 : Int)) ∨ (((2 : Int) * a1) + (0 : Int)) < -2147483648 ∨ 2147483648 ≤ (((2 : Int) * a1) + (0 : Int))) : a0 = (((2 : Int) * a1) + (0 : Int)) := by omega
theorem z_X7_state_8 (a0 : Int) (a1 : Int) (a2 : Int) (a3 : Int) (a4 : Int) (h0 : a1 = 1 ∨ a1 = 4 → (a2 = -2000 ∧ a4 = 2 * a3) ∨ (a2 ≠ -2000 ∧ a4 = 2 * a3 + 1)) (h1 : a1 = 1) (h2 : (a0 = 1 ∧ a2 ≠ -2000) ∨ (a0 = 0 ∧ a2 = -2000)) (h3 : a0 = 0) : (((2 : Int) * a3) + (0 : Int)) = a4 := by omega
theorem z_X7_state_9 (a0 : Int) (a1 : Int) (h0 : 0 ≤ a1 ∧ a1 ≤ 30) (h1 : a0 = (((2 : Int) * a1) + (1 : Int)) ∨ (((2 : Int) * a1) + (1 : Int)) < -2147483648 ∨ 2147483648 ≤ (((2 : Int) * a1) + (1 : Int))) : a0 = (((2 : Int) * a1) + (1 : Int)) := by omega
theorem z_X7_state_10 (a0 : Int) (a1 : Int) (a2 : Int) (a3 : Int) (a4 : Int) (h0 : a1 = 1 ∨ a1 = 4 → (a2 = -2000 ∧ a4 = 2 * a3) ∨ (a2 ≠ -2000 ∧ a4 = 2 * a3 + 1)) (h1 : a1 = 1) (h2 : (a0 = 1 ∧ a2 ≠ -2000) ∨ (a0 = 0 ∧ a2 = -2000)) (h3 : ¬ (a0 = 0)) : (((2 : Int) * a3) + (1 : Int)) = a4 := by omega
theorem z_X7_state_11 (a0 : Int) (a1 : Int) (a2 : Int) (h0 : a0 = 2 ∨ a0 = 5 → a2 = a1) (h1 : a0 = 2) : a1 = a2 := by omega
theorem z_X7_state_12 (a0 : Int) (a1 : Int) (a2 : Int) (a3 : Int) (h0 : 0 ≤ a1 ∧ a1 ≤ 2) (h1 : 0 ≤ a2 ∧ a2 ≤ 2) (h2 : -1 ≤ a3 ∧ a3 ≤ 2) (h3 : a0 = 1 ∨ a0 = 3 ∨ a0 = 4 → 0 ≤ a3) (h4 : a0 = 3) : 0 ≤ a1 ∧ a1 < 3 ∧ 0 ≤ a2 ∧ a2 < 3 ∧ 0 ≤ a3 ∧ a3 < 3 := by omega
theorem z_X7_state_13 (a0 : Int) (a1 : Int) (a2 : Int) (a3 : Int) (a4 : Int) (h0 : a1 = 3 → (a2 = 0 ∧ a4 = 100000) ∨ (a2 ≠ 0 ∧ a4 = a3)) (h1 : a1 = 3) (h2 : (a2 = 0 ∧ a0 = 100000) ∨ (a2 ≠ 0 ∧ a0 = a3)) : a0 = a4 := by omega
theorem z_X7_state_17 (a0 : Int) (a1 : Int) (a2 : Int) (a3 : Int) (a4 : Int) (h0 : a1 = 1 ∨ a1 = 4 → (a2 = -2000 ∧ a4 = 2 * a3) ∨ (a2 ≠ -2000 ∧ a4 = 2 * a3 + 1)) (h1 : a1 = 4) (h2 : (a0 = 1 ∧ a2 ≠ -2000) ∨ (a0 = 0 ∧ a2 = -2000)) (h3 : a0 = 0) : (((2 : Int) * a3) + (0 : Int)) = a4 := by omega
theorem z_X7_state_19 (a0 : Int) (a1 : Int) (a2 : Int) (a3 : Int) (a4 : Int) (h0 : a1 = 1 ∨ a1 = 4 → (a2 = -2000 ∧ a4 = 2 * a3) ∨ (a2 ≠ -2000 ∧ a4 = 2 * a3 + 1)) (h1 : a1 = 4) (h2 : (a0 = 1 ∧ a2 ≠ -2000) ∨ (a0 = 0 ∧ a2 = -2000)) (h3 : ¬ (a0 = 0)) : (((2 : Int) * a3) + (1 : Int)) = a4 := by omega
abbrev rm_X7_state : Room := { frames := 2, cells := 0, slots := 0, locals := 50 }
set_option maxHeartbeats 4000000 in
set_option maxRecDepth 100000 in
theorem c_X7_state (l : Launch) (E : XE) (K : Nat → Nat) (F : Nat → Nat → Nat) (G : XG) (h0 : Heap) (a : Nat) (p0 : Nat) (p1 : Int32) (ha : K a = 9) (hp0 : K p0 = 8) (hro : RO (vw (G.2.1 (F p0 0))) (aI (G.2.1 (F p0 1)))) (hrw : RW (G.1 a)) : Met l yX7_state (xw yX7_state cX7_state 3 (some .int)) rm_X7_state (va_Pc [.ref a, .ref p0, .int p1] (XPh E K F G h0)) (XQ E (fun v (u : Unit) => ∃ r : Int32, v = .int r ∧ (r.toInt = (stt (vw (G.2.1 (F p0 0))) ((G.1 a 0).toInt) ((G.1 a 2).toInt) ((G.1 a 3).toInt) ((G.1 a 4).toInt) (p1.toInt)))) (fun _ H => H = h0)) 0 0 (xA E) := by
  refine x_enter (by decide) (Nat.le_of_ble_eq_true rfl) ?_
  intro p e s m args below meth c Q S hr hlk hnm hQ hP ls hl
  obtain ⟨⟨hz, hK, hT⟩, hh⟩ := hP
  obtain ⟨hx, hb, -, -, -⟩ := id S
  have hS : va_S (xA E) s.heap s.heap [] := va_S.rf
  have hl : lv_has ls 3 [(0, .ref a), (1, .ref p0), (2, .int p1)] := hl
  obtain ⟨hk9999, hj9999⟩ := fkX6_0 hT hp0
  obtain ⟨hk9999a, hj9999a⟩ := fkX6_1 hT hp0
  have z0 : (0 ≤ ((G.1 a 0).toInt) ∧ ((G.1 a 0).toInt) ≤ 5) ∧ (0 ≤ ((G.1 a 2).toInt) ∧ ((G.1 a 2).toInt) ≤ 2) ∧ (0 ≤ ((G.1 a 3).toInt) ∧ ((G.1 a 3).toInt) ≤ 2) ∧ (-1 ≤ ((G.1 a 4).toInt) ∧ ((G.1 a 4).toInt) ≤ 2) ∧ (((G.1 a 0).toInt) = 1 ∨ ((G.1 a 0).toInt) = 3 ∨ ((G.1 a 0).toInt) = 4 → 0 ≤ ((G.1 a 4).toInt)) := RW.f hrw
  have z0a : (((G.1 a 0).toInt) = 0 → (stt (vw (G.2.1 (F p0 0))) ((G.1 a 0).toInt) ((G.1 a 2).toInt) ((G.1 a 3).toInt) ((G.1 a 4).toInt) (p1.toInt)) = (hv (vw (G.2.1 (F p0 0))) (90 * ((G.1 a 2).toInt) + 30 * ((G.1 a 3).toInt)) (p1.toInt) 30)) ∧ (((G.1 a 0).toInt) = 1 ∨ ((G.1 a 0).toInt) = 4 → ((cel (vw (G.2.1 (F p0 0))) ((G.1 a 4).toInt) (p1.toInt) 0) = -2000 ∧ (stt (vw (G.2.1 (F p0 0))) ((G.1 a 0).toInt) ((G.1 a 2).toInt) ((G.1 a 3).toInt) ((G.1 a 4).toInt) (p1.toInt)) = 2 * (hv (vw (G.2.1 (F p0 0))) (90 * ((G.1 a 2).toInt) + 30 * ((G.1 a 3).toInt)) (p1.toInt) 30)) ∨ ((cel (vw (G.2.1 (F p0 0))) ((G.1 a 4).toInt) (p1.toInt) 0) ≠ -2000 ∧ (stt (vw (G.2.1 (F p0 0))) ((G.1 a 0).toInt) ((G.1 a 2).toInt) ((G.1 a 3).toInt) ((G.1 a 4).toInt) (p1.toInt)) = 2 * (hv (vw (G.2.1 (F p0 0))) (90 * ((G.1 a 2).toInt) + 30 * ((G.1 a 3).toInt)) (p1.toInt) 30) + 1)) ∧ (((G.1 a 0).toInt) = 3 → ((hv (vw (G.2.1 (F p0 0))) (90 * ((G.1 a 2).toInt) + 30 * ((G.1 a 3).toInt)) (p1.toInt) 30) = 0 ∧ (stt (vw (G.2.1 (F p0 0))) ((G.1 a 0).toInt) ((G.1 a 2).toInt) ((G.1 a 3).toInt) ((G.1 a 4).toInt) (p1.toInt)) = 100000) ∨ ((hv (vw (G.2.1 (F p0 0))) (90 * ((G.1 a 2).toInt) + 30 * ((G.1 a 3).toInt)) (p1.toInt) 30) ≠ 0 ∧ (stt (vw (G.2.1 (F p0 0))) ((G.1 a 0).toInt) ((G.1 a 2).toInt) ((G.1 a 3).toInt) ((G.1 a 4).toInt) (p1.toInt)) = (smq (vw (G.2.1 (F p0 0))) (90 * ((G.1 a 2).toInt) + 30 * ((G.1 a 3).toInt)) (90 * ((G.1 a 2).toInt) + 30 * ((G.1 a 4).toInt)) (p1.toInt) 30))) ∧ (((G.1 a 0).toInt) = 2 ∨ ((G.1 a 0).toInt) = 5 → (stt (vw (G.2.1 (F p0 0))) ((G.1 a 0).toInt) ((G.1 a 2).toInt) ((G.1 a 3).toInt) ((G.1 a 4).toInt) (p1.toInt)) = (cel (vw (G.2.1 (F p0 0))) ((G.1 a 2).toInt) (p1.toInt) ((G.1 a 3).toInt))) := stt_k
  have z0b : 0 ≤ (hv (vw (G.2.1 (F p0 0))) (90 * ((G.1 a 2).toInt) + 30 * ((G.1 a 3).toInt)) (p1.toInt) 30) ∧ (hv (vw (G.2.1 (F p0 0))) (90 * ((G.1 a 2).toInt) + 30 * ((G.1 a 3).toInt)) (p1.toInt) 30) ≤ 30 := hv_b _ _ _ (by decide)
  refine lv_aload_n hx hb dX7_state_0 rfl (lv_at hl 0 rfl) ?_
  refine gX7_0 S hK hT ha kf_X7_21 dX7_state_1 (v := (G.1 a 0)) rfl (?_)
  rcases ((z_X7_state_1 ((G.1 a 0).toInt)) : (((G.1 a 0).toInt) < 0 ∨ 4 < ((G.1 a 0).toInt)) ∨ (((G.1 a 0).toInt) = 0) ∨ (((G.1 a 0).toInt) = 1) ∨ (((G.1 a 0).toInt) = 2) ∨ (((G.1 a 0).toInt) = 3) ∨ (((G.1 a 0).toInt) = 4)) with c4 | c4 | c4 | c4 | c4 | c4
  · refine lv_tableOut (tgt := 106) hx hb dX7_state_4 c4 (by decide) ?_
    refine lv_aload_n hx hb dX7_state_106 rfl (lv_at hl 1 rfl) ?_
    refine lv_aload_n hx hb dX7_state_107 rfl (lv_at hl 0 rfl) ?_
    refine gX7_2 S hK hT ha kf_X7_39 dX7_state_108 (v := (G.1 a 2)) rfl (?_)
    refine lv_iload_n hx hb dX7_state_111 rfl (lv_at hl 2 rfl) ?_
    refine lv_aload_n hx hb dX7_state_112 rfl (lv_at hl 0 rfl) ?_
    refine gX7_3 S hK hT ha kf_X7_42 dX7_state_113 (v := (G.1 a 3)) rfl (?_)
    refine x_clp (x_runV (b := p0) (As := [.int (G.1 a 2), .int p1, .int (G.1 a 3)]) (rest := []) S (c_X6_cell l E K F G s.heap p0 (G.1 a 2) p1 (G.1 a 3) hp0) mv_X6_cell km_X7_59 rfl rfl ⟨Nat.le_of_ble_eq_true rfl, Nat.le_of_ble_eq_true rfl⟩ (rc_8 hK hT hp0) hK (fun _ => XPh.blind) (fun U hU hW => XPh.at hK hz hS hT hU hW) rfl hl.1 (Nat.le_of_ble_eq_true rfl) dX7_state_116 ⟨Nat.le_of_ble_eq_true rfl, Nat.le_of_ble_eq_true rfl⟩) hS ?_
    rintro _ _ locs ⟨x116, rfl, t116⟩ hS
    have t116 : x116.toInt = (cel (vw (G.2.1 (F p0 0))) ((G.1 a 2).toInt) (p1.toInt) ((G.1 a 3).toInt)) := t116
    exact x_ri hx hb hr hlk hQ (Nat.le_of_ble_eq_true rfl) (Nat.le_of_ble_eq_true rfl) hS dX7_state_119 () ⟨_, rfl, (by rw [(t116 : Int32.toInt x116 = (cel (vw (G.2.1 (F p0 0))) ((G.1 a 2).toInt) (p1.toInt) ((G.1 a 3).toInt)))] <;> exact (z_X7_state_2 ((G.1 a 0).toInt) (cel (vw (G.2.1 (F p0 0))) ((G.1 a 2).toInt) (p1.toInt) ((G.1 a 3).toInt)) (stt (vw (G.2.1 (F p0 0))) ((G.1 a 0).toInt) ((G.1 a 2).toInt) ((G.1 a 3).toInt) ((G.1 a 4).toInt) (p1.toInt)) (z0).1 (z0a).2.2.2 c4))⟩ hh
  · refine lv_tableIn (off := 36) (tgt := 40) hx hb dX7_state_4 (by rw [c4]; decide) (by rw [c4]; decide) (by rw [c4]; rfl) (by decide) ?_
    refine lv_aload_n hx hb dX7_state_40 rfl (lv_at hl 1 rfl) ?_
    refine lv_aload_n hx hb dX7_state_41 rfl (lv_at hl 0 rfl) ?_
    refine gX7_2 S hK hT ha kf_X7_39 dX7_state_42 (v := (G.1 a 2)) rfl (?_)
    refine lv_aload_n hx hb dX7_state_45 rfl (lv_at hl 0 rfl) ?_
    refine gX7_3 S hK hT ha kf_X7_42 dX7_state_46 (v := (G.1 a 3)) rfl (?_)
    refine lv_iload_n hx hb dX7_state_49 rfl (lv_at hl 2 rfl) ?_
    refine x_clp (x_runV (b := p0) (As := [.int (G.1 a 2), .int (G.1 a 3), .int p1]) (rest := []) S (c_X6_having l E K F G s.heap p0 (G.1 a 2) (G.1 a 3) p1 hp0 (z_X7_state_3 ((G.1 a 2).toInt) ((G.1 a 3).toInt) (z0).2.1 (z0).2.2.1)) mv_X6_having km_X7_45 rfl rfl ⟨Nat.le_of_ble_eq_true rfl, Nat.le_of_ble_eq_true rfl⟩ (rc_8 hK hT hp0) hK (fun _ => XPh.blind) (fun U hU hW => XPh.at hK hz hS hT hU hW) rfl hl.1 (Nat.le_of_ble_eq_true rfl) dX7_state_50 ⟨Nat.le_of_ble_eq_true rfl, Nat.le_of_ble_eq_true rfl⟩) hS ?_
    rintro _ _ locs ⟨x50, rfl, t50⟩ hS
    have t50 : x50.toInt = (hv (vw (G.2.1 (F p0 0))) (90 * ((G.1 a 2).toInt) + 30 * ((G.1 a 3).toInt)) (p1.toInt) 30) := t50
    exact x_ri hx hb hr hlk hQ (Nat.le_of_ble_eq_true rfl) (Nat.le_of_ble_eq_true rfl) hS dX7_state_53 () ⟨_, rfl, (by rw [(t50 : Int32.toInt x50 = (hv (vw (G.2.1 (F p0 0))) (90 * ((G.1 a 2).toInt) + 30 * ((G.1 a 3).toInt)) (p1.toInt) 30))] <;> exact (z_X7_state_4 ((G.1 a 0).toInt) (hv (vw (G.2.1 (F p0 0))) (90 * ((G.1 a 2).toInt) + 30 * ((G.1 a 3).toInt)) (p1.toInt) 30) (stt (vw (G.2.1 (F p0 0))) ((G.1 a 0).toInt) ((G.1 a 2).toInt) ((G.1 a 3).toInt) ((G.1 a 4).toInt) (p1.toInt)) (z0a).1 c4))⟩ hh
  · refine lv_tableIn (off := 50) (tgt := 54) hx hb dX7_state_4 (by rw [c4]; decide) (by rw [c4]; decide) (by rw [c4]; rfl) (by decide) ?_
    refine lv_iconst (v := 2) hx hb dX7_state_54 (by decide) ?_
    refine lv_aload_n hx hb dX7_state_55 rfl (lv_at hl 1 rfl) ?_
    refine lv_aload_n hx hb dX7_state_56 rfl (lv_at hl 0 rfl) ?_
    refine gX7_2 S hK hT ha kf_X7_39 dX7_state_57 (v := (G.1 a 2)) rfl (?_)
    refine lv_aload_n hx hb dX7_state_60 rfl (lv_at hl 0 rfl) ?_
    refine gX7_3 S hK hT ha kf_X7_42 dX7_state_61 (v := (G.1 a 3)) rfl (?_)
    refine lv_iload_n hx hb dX7_state_64 rfl (lv_at hl 2 rfl) ?_
    refine x_clp (x_runV (b := p0) (As := [.int (G.1 a 2), .int (G.1 a 3), .int p1]) (rest := [.int 2]) S (c_X6_having l E K F G s.heap p0 (G.1 a 2) (G.1 a 3) p1 hp0 (z_X7_state_3 ((G.1 a 2).toInt) ((G.1 a 3).toInt) (z0).2.1 (z0).2.2.1)) mv_X6_having km_X7_45 rfl rfl ⟨Nat.le_of_ble_eq_true rfl, Nat.le_of_ble_eq_true rfl⟩ (rc_8 hK hT hp0) hK (fun _ => XPh.blind) (fun U hU hW => XPh.at hK hz hS hT hU hW) rfl hl.1 (Nat.le_of_ble_eq_true rfl) dX7_state_65 ⟨Nat.le_of_ble_eq_true rfl, Nat.le_of_ble_eq_true rfl⟩) hS ?_
    rintro _ _ locs ⟨x65, rfl, t65⟩ hS
    have t65 : x65.toInt = (hv (vw (G.2.1 (F p0 0))) (90 * ((G.1 a 2).toInt) + 30 * ((G.1 a 3).toInt)) (p1.toInt) 30) := t65
    refine xi_imul hx hb ((by decide) : Int32.toInt 2 = (2 : Int)) (t65 : Int32.toInt x65 = (hv (vw (G.2.1 (F p0 0))) (90 * ((G.1 a 2).toInt) + 30 * ((G.1 a 3).toInt)) (p1.toInt) 30)) dX7_state_68 (fun x68 t68 => ?_)
    have e68 : x68.toInt = ((2 : Int) * (hv (vw (G.2.1 (F p0 0))) (90 * ((G.1 a 2).toInt) + 30 * ((G.1 a 3).toInt)) (p1.toInt) 30)) := (z_X7_state_6 x68.toInt (hv (vw (G.2.1 (F p0 0))) (90 * ((G.1 a 2).toInt) + 30 * ((G.1 a 3).toInt)) (p1.toInt) 30) z0b t68)
    refine lv_aload_n hx hb dX7_state_69 rfl (lv_at hl 1 rfl) ?_
    refine lv_aload_n hx hb dX7_state_70 rfl (lv_at hl 0 rfl) ?_
    refine gX7_4 S hK hT ha kf_X7_15 dX7_state_71 (v := (G.1 a 4)) rfl (?_)
    refine lv_iload_n hx hb dX7_state_74 rfl (lv_at hl 2 rfl) ?_
    refine x_clp (x_runV (b := p0) (As := [.int (G.1 a 4), .int p1]) (rest := [.int x68]) S (c_X6_has l E K F G s.heap p0 (G.1 a 4) p1 hp0 (v_X7_state_75_1 p0 G hro)) mv_X6_has km_X7_51 rfl rfl ⟨Nat.le_of_ble_eq_true rfl, Nat.le_of_ble_eq_true rfl⟩ (rc_8 hK hT hp0) hK (fun _ => XPh.blind) (fun U hU hW => XPh.at hK hz hS hT hU hW) rfl hl.1 (Nat.le_of_ble_eq_true rfl) dX7_state_75 ⟨Nat.le_of_ble_eq_true rfl, Nat.le_of_ble_eq_true rfl⟩) hS ?_
    rintro _ _ locs ⟨x75, rfl, b75, t75⟩ hS
    have t75 : (x75.toInt = 1 ∧ (cel (vw (G.2.1 (F p0 0))) ((G.1 a 4).toInt) (p1.toInt) 0) ≠ -2000) ∨ (x75.toInt = 0 ∧ (cel (vw (G.2.1 (F p0 0))) ((G.1 a 4).toInt) (p1.toInt) 0) = -2000) := t75
    refine xi_zeq (tgt := 85) hx hb (rfl : Int32.toInt x75 = x75.toInt) dX7_state_78 (by decide) (fun c78 => ?_) (fun c78 => ?_)
    · refine lv_iconst (v := 0) hx hb dX7_state_85 (by decide) ?_
      refine xi_iadd hx hb (e68 : Int32.toInt x68 = ((2 : Int) * (hv (vw (G.2.1 (F p0 0))) (90 * ((G.1 a 2).toInt) + 30 * ((G.1 a 3).toInt)) (p1.toInt) 30))) ((by decide) : Int32.toInt 0 = (0 : Int)) dX7_state_86 (fun x86 t86 => ?_)
      have e86 : x86.toInt = (((2 : Int) * (hv (vw (G.2.1 (F p0 0))) (90 * ((G.1 a 2).toInt) + 30 * ((G.1 a 3).toInt)) (p1.toInt) 30)) + (0 : Int)) := (z_X7_state_7 x86.toInt (hv (vw (G.2.1 (F p0 0))) (90 * ((G.1 a 2).toInt) + 30 * ((G.1 a 3).toInt)) (p1.toInt) 30) z0b t86)
      exact x_ri hx hb hr hlk hQ (Nat.le_of_ble_eq_true rfl) (Nat.le_of_ble_eq_true rfl) hS dX7_state_87 () ⟨_, rfl, (by rw [(e86 : Int32.toInt x86 = (((2 : Int) * (hv (vw (G.2.1 (F p0 0))) (90 * ((G.1 a 2).toInt) + 30 * ((G.1 a 3).toInt)) (p1.toInt) 30)) + (0 : Int)))] <;> exact (z_X7_state_8 x75.toInt ((G.1 a 0).toInt) (cel (vw (G.2.1 (F p0 0))) ((G.1 a 4).toInt) (p1.toInt) 0) (hv (vw (G.2.1 (F p0 0))) (90 * ((G.1 a 2).toInt) + 30 * ((G.1 a 3).toInt)) (p1.toInt) 30) (stt (vw (G.2.1 (F p0 0))) ((G.1 a 0).toInt) ((G.1 a 2).toInt) ((G.1 a 3).toInt) ((G.1 a 4).toInt) (p1.toInt)) (z0a).2.1 c4 t75 c78))⟩ hh
    · refine lv_iconst (v := 1) hx hb dX7_state_81 (by decide) ?_
      refine lv_goto (tgt := 86) hx hb dX7_state_82 (by decide) ?_
      refine xi_iadd hx hb (e68 : Int32.toInt x68 = ((2 : Int) * (hv (vw (G.2.1 (F p0 0))) (90 * ((G.1 a 2).toInt) + 30 * ((G.1 a 3).toInt)) (p1.toInt) 30))) ((by decide) : Int32.toInt 1 = (1 : Int)) dX7_state_86 (fun x86 t86 => ?_)
      have e86 : x86.toInt = (((2 : Int) * (hv (vw (G.2.1 (F p0 0))) (90 * ((G.1 a 2).toInt) + 30 * ((G.1 a 3).toInt)) (p1.toInt) 30)) + (1 : Int)) := (z_X7_state_9 x86.toInt (hv (vw (G.2.1 (F p0 0))) (90 * ((G.1 a 2).toInt) + 30 * ((G.1 a 3).toInt)) (p1.toInt) 30) z0b t86)
      exact x_ri hx hb hr hlk hQ (Nat.le_of_ble_eq_true rfl) (Nat.le_of_ble_eq_true rfl) hS dX7_state_87 () ⟨_, rfl, (by rw [(e86 : Int32.toInt x86 = (((2 : Int) * (hv (vw (G.2.1 (F p0 0))) (90 * ((G.1 a 2).toInt) + 30 * ((G.1 a 3).toInt)) (p1.toInt) 30)) + (1 : Int)))] <;> exact (z_X7_state_10 x75.toInt ((G.1 a 0).toInt) (cel (vw (G.2.1 (F p0 0))) ((G.1 a 4).toInt) (p1.toInt) 0) (hv (vw (G.2.1 (F p0 0))) (90 * ((G.1 a 2).toInt) + 30 * ((G.1 a 3).toInt)) (p1.toInt) 30) (stt (vw (G.2.1 (F p0 0))) ((G.1 a 0).toInt) ((G.1 a 2).toInt) ((G.1 a 3).toInt) ((G.1 a 4).toInt) (p1.toInt)) (z0a).2.1 c4 t75 c78))⟩ hh
  · refine lv_tableIn (off := 102) (tgt := 106) hx hb dX7_state_4 (by rw [c4]; decide) (by rw [c4]; decide) (by rw [c4]; rfl) (by decide) ?_
    refine lv_aload_n hx hb dX7_state_106 rfl (lv_at hl 1 rfl) ?_
    refine lv_aload_n hx hb dX7_state_107 rfl (lv_at hl 0 rfl) ?_
    refine gX7_2 S hK hT ha kf_X7_39 dX7_state_108 (v := (G.1 a 2)) rfl (?_)
    refine lv_iload_n hx hb dX7_state_111 rfl (lv_at hl 2 rfl) ?_
    refine lv_aload_n hx hb dX7_state_112 rfl (lv_at hl 0 rfl) ?_
    refine gX7_3 S hK hT ha kf_X7_42 dX7_state_113 (v := (G.1 a 3)) rfl (?_)
    refine x_clp (x_runV (b := p0) (As := [.int (G.1 a 2), .int p1, .int (G.1 a 3)]) (rest := []) S (c_X6_cell l E K F G s.heap p0 (G.1 a 2) p1 (G.1 a 3) hp0) mv_X6_cell km_X7_59 rfl rfl ⟨Nat.le_of_ble_eq_true rfl, Nat.le_of_ble_eq_true rfl⟩ (rc_8 hK hT hp0) hK (fun _ => XPh.blind) (fun U hU hW => XPh.at hK hz hS hT hU hW) rfl hl.1 (Nat.le_of_ble_eq_true rfl) dX7_state_116 ⟨Nat.le_of_ble_eq_true rfl, Nat.le_of_ble_eq_true rfl⟩) hS ?_
    rintro _ _ locs ⟨x116, rfl, t116⟩ hS
    have t116 : x116.toInt = (cel (vw (G.2.1 (F p0 0))) ((G.1 a 2).toInt) (p1.toInt) ((G.1 a 3).toInt)) := t116
    exact x_ri hx hb hr hlk hQ (Nat.le_of_ble_eq_true rfl) (Nat.le_of_ble_eq_true rfl) hS dX7_state_119 () ⟨_, rfl, (by rw [(t116 : Int32.toInt x116 = (cel (vw (G.2.1 (F p0 0))) ((G.1 a 2).toInt) (p1.toInt) ((G.1 a 3).toInt)))] <;> exact (z_X7_state_11 ((G.1 a 0).toInt) (cel (vw (G.2.1 (F p0 0))) ((G.1 a 2).toInt) (p1.toInt) ((G.1 a 3).toInt)) (stt (vw (G.2.1 (F p0 0))) ((G.1 a 0).toInt) ((G.1 a 2).toInt) ((G.1 a 3).toInt) ((G.1 a 4).toInt) (p1.toInt)) (z0a).2.2.2 c4))⟩ hh
  · refine lv_tableIn (off := 84) (tgt := 88) hx hb dX7_state_4 (by rw [c4]; decide) (by rw [c4]; decide) (by rw [c4]; rfl) (by decide) ?_
    refine lv_aload_n hx hb dX7_state_88 rfl (lv_at hl 1 rfl) ?_
    refine lv_aload_n hx hb dX7_state_89 rfl (lv_at hl 0 rfl) ?_
    refine gX7_2 S hK hT ha kf_X7_39 dX7_state_90 (v := (G.1 a 2)) rfl (?_)
    refine lv_aload_n hx hb dX7_state_93 rfl (lv_at hl 0 rfl) ?_
    refine gX7_3 S hK hT ha kf_X7_42 dX7_state_94 (v := (G.1 a 3)) rfl (?_)
    refine lv_iload_n hx hb dX7_state_97 rfl (lv_at hl 2 rfl) ?_
    refine lv_aload_n hx hb dX7_state_98 rfl (lv_at hl 0 rfl) ?_
    refine gX7_4 S hK hT ha kf_X7_15 dX7_state_99 (v := (G.1 a 4)) rfl (?_)
    refine x_clp (x_runV (b := p0) (As := [.int (G.1 a 2), .int (G.1 a 3), .int p1, .int (G.1 a 4)]) (rest := []) S (c_X6_sumOf l E K F G s.heap p0 (G.1 a 2) (G.1 a 3) p1 (G.1 a 4) hp0 (z_X7_state_12 ((G.1 a 0).toInt) ((G.1 a 2).toInt) ((G.1 a 3).toInt) ((G.1 a 4).toInt) (z0).2.1 (z0).2.2.1 (z0).2.2.2.1 (z0).2.2.2.2 c4) (v_X7_state_102_2 p0 G hro)) mv_X6_sumOf km_X7_55 rfl rfl ⟨Nat.le_of_ble_eq_true rfl, Nat.le_of_ble_eq_true rfl⟩ (rc_8 hK hT hp0) hK (fun _ => XPh.blind) (fun U hU hW => XPh.at hK hz hS hT hU hW) rfl hl.1 (Nat.le_of_ble_eq_true rfl) dX7_state_102 ⟨Nat.le_of_ble_eq_true rfl, Nat.le_of_ble_eq_true rfl⟩) hS ?_
    rintro _ _ locs ⟨x102, rfl, t102⟩ hS
    have t102 : ((hv (vw (G.2.1 (F p0 0))) (90 * ((G.1 a 2).toInt) + 30 * ((G.1 a 3).toInt)) (p1.toInt) 30) = 0 ∧ x102.toInt = 100000) ∨ ((hv (vw (G.2.1 (F p0 0))) (90 * ((G.1 a 2).toInt) + 30 * ((G.1 a 3).toInt)) (p1.toInt) 30) ≠ 0 ∧ x102.toInt = (smq (vw (G.2.1 (F p0 0))) (90 * ((G.1 a 2).toInt) + 30 * ((G.1 a 3).toInt)) (90 * ((G.1 a 2).toInt) + 30 * ((G.1 a 4).toInt)) (p1.toInt) 30)) := t102
    exact x_ri hx hb hr hlk hQ (Nat.le_of_ble_eq_true rfl) (Nat.le_of_ble_eq_true rfl) hS dX7_state_105 () ⟨_, rfl, (z_X7_state_13 x102.toInt ((G.1 a 0).toInt) (hv (vw (G.2.1 (F p0 0))) (90 * ((G.1 a 2).toInt) + 30 * ((G.1 a 3).toInt)) (p1.toInt) 30) (smq (vw (G.2.1 (F p0 0))) (90 * ((G.1 a 2).toInt) + 30 * ((G.1 a 3).toInt)) (90 * ((G.1 a 2).toInt) + 30 * ((G.1 a 4).toInt)) (p1.toInt) 30) (stt (vw (G.2.1 (F p0 0))) ((G.1 a 0).toInt) ((G.1 a 2).toInt) ((G.1 a 3).toInt) ((G.1 a 4).toInt) (p1.toInt)) (z0a).2.2.1 c4 t102)⟩ hh
  · refine lv_tableIn (off := 50) (tgt := 54) hx hb dX7_state_4 (by rw [c4]; decide) (by rw [c4]; decide) (by rw [c4]; rfl) (by decide) ?_
    refine lv_iconst (v := 2) hx hb dX7_state_54 (by decide) ?_
    refine lv_aload_n hx hb dX7_state_55 rfl (lv_at hl 1 rfl) ?_
    refine lv_aload_n hx hb dX7_state_56 rfl (lv_at hl 0 rfl) ?_
    refine gX7_2 S hK hT ha kf_X7_39 dX7_state_57 (v := (G.1 a 2)) rfl (?_)
    refine lv_aload_n hx hb dX7_state_60 rfl (lv_at hl 0 rfl) ?_
    refine gX7_3 S hK hT ha kf_X7_42 dX7_state_61 (v := (G.1 a 3)) rfl (?_)
    refine lv_iload_n hx hb dX7_state_64 rfl (lv_at hl 2 rfl) ?_
    refine x_clp (x_runV (b := p0) (As := [.int (G.1 a 2), .int (G.1 a 3), .int p1]) (rest := [.int 2]) S (c_X6_having l E K F G s.heap p0 (G.1 a 2) (G.1 a 3) p1 hp0 (z_X7_state_3 ((G.1 a 2).toInt) ((G.1 a 3).toInt) (z0).2.1 (z0).2.2.1)) mv_X6_having km_X7_45 rfl rfl ⟨Nat.le_of_ble_eq_true rfl, Nat.le_of_ble_eq_true rfl⟩ (rc_8 hK hT hp0) hK (fun _ => XPh.blind) (fun U hU hW => XPh.at hK hz hS hT hU hW) rfl hl.1 (Nat.le_of_ble_eq_true rfl) dX7_state_65 ⟨Nat.le_of_ble_eq_true rfl, Nat.le_of_ble_eq_true rfl⟩) hS ?_
    rintro _ _ locs ⟨x65, rfl, t65⟩ hS
    have t65 : x65.toInt = (hv (vw (G.2.1 (F p0 0))) (90 * ((G.1 a 2).toInt) + 30 * ((G.1 a 3).toInt)) (p1.toInt) 30) := t65
    refine xi_imul hx hb ((by decide) : Int32.toInt 2 = (2 : Int)) (t65 : Int32.toInt x65 = (hv (vw (G.2.1 (F p0 0))) (90 * ((G.1 a 2).toInt) + 30 * ((G.1 a 3).toInt)) (p1.toInt) 30)) dX7_state_68 (fun x68 t68 => ?_)
    have e68 : x68.toInt = ((2 : Int) * (hv (vw (G.2.1 (F p0 0))) (90 * ((G.1 a 2).toInt) + 30 * ((G.1 a 3).toInt)) (p1.toInt) 30)) := (z_X7_state_6 x68.toInt (hv (vw (G.2.1 (F p0 0))) (90 * ((G.1 a 2).toInt) + 30 * ((G.1 a 3).toInt)) (p1.toInt) 30) z0b t68)
    refine lv_aload_n hx hb dX7_state_69 rfl (lv_at hl 1 rfl) ?_
    refine lv_aload_n hx hb dX7_state_70 rfl (lv_at hl 0 rfl) ?_
    refine gX7_4 S hK hT ha kf_X7_15 dX7_state_71 (v := (G.1 a 4)) rfl (?_)
    refine lv_iload_n hx hb dX7_state_74 rfl (lv_at hl 2 rfl) ?_
    refine x_clp (x_runV (b := p0) (As := [.int (G.1 a 4), .int p1]) (rest := [.int x68]) S (c_X6_has l E K F G s.heap p0 (G.1 a 4) p1 hp0 (v_X7_state_75_3 p0 G hro)) mv_X6_has km_X7_51 rfl rfl ⟨Nat.le_of_ble_eq_true rfl, Nat.le_of_ble_eq_true rfl⟩ (rc_8 hK hT hp0) hK (fun _ => XPh.blind) (fun U hU hW => XPh.at hK hz hS hT hU hW) rfl hl.1 (Nat.le_of_ble_eq_true rfl) dX7_state_75 ⟨Nat.le_of_ble_eq_true rfl, Nat.le_of_ble_eq_true rfl⟩) hS ?_
    rintro _ _ locs ⟨x75, rfl, b75, t75⟩ hS
    have t75 : (x75.toInt = 1 ∧ (cel (vw (G.2.1 (F p0 0))) ((G.1 a 4).toInt) (p1.toInt) 0) ≠ -2000) ∨ (x75.toInt = 0 ∧ (cel (vw (G.2.1 (F p0 0))) ((G.1 a 4).toInt) (p1.toInt) 0) = -2000) := t75
    refine xi_zeq (tgt := 85) hx hb (rfl : Int32.toInt x75 = x75.toInt) dX7_state_78 (by decide) (fun c78 => ?_) (fun c78 => ?_)
    · refine lv_iconst (v := 0) hx hb dX7_state_85 (by decide) ?_
      refine xi_iadd hx hb (e68 : Int32.toInt x68 = ((2 : Int) * (hv (vw (G.2.1 (F p0 0))) (90 * ((G.1 a 2).toInt) + 30 * ((G.1 a 3).toInt)) (p1.toInt) 30))) ((by decide) : Int32.toInt 0 = (0 : Int)) dX7_state_86 (fun x86 t86 => ?_)
      have e86 : x86.toInt = (((2 : Int) * (hv (vw (G.2.1 (F p0 0))) (90 * ((G.1 a 2).toInt) + 30 * ((G.1 a 3).toInt)) (p1.toInt) 30)) + (0 : Int)) := (z_X7_state_7 x86.toInt (hv (vw (G.2.1 (F p0 0))) (90 * ((G.1 a 2).toInt) + 30 * ((G.1 a 3).toInt)) (p1.toInt) 30) z0b t86)
      exact x_ri hx hb hr hlk hQ (Nat.le_of_ble_eq_true rfl) (Nat.le_of_ble_eq_true rfl) hS dX7_state_87 () ⟨_, rfl, (by rw [(e86 : Int32.toInt x86 = (((2 : Int) * (hv (vw (G.2.1 (F p0 0))) (90 * ((G.1 a 2).toInt) + 30 * ((G.1 a 3).toInt)) (p1.toInt) 30)) + (0 : Int)))] <;> exact (z_X7_state_17 x75.toInt ((G.1 a 0).toInt) (cel (vw (G.2.1 (F p0 0))) ((G.1 a 4).toInt) (p1.toInt) 0) (hv (vw (G.2.1 (F p0 0))) (90 * ((G.1 a 2).toInt) + 30 * ((G.1 a 3).toInt)) (p1.toInt) 30) (stt (vw (G.2.1 (F p0 0))) ((G.1 a 0).toInt) ((G.1 a 2).toInt) ((G.1 a 3).toInt) ((G.1 a 4).toInt) (p1.toInt)) (z0a).2.1 c4 t75 c78))⟩ hh
    · refine lv_iconst (v := 1) hx hb dX7_state_81 (by decide) ?_
      refine lv_goto (tgt := 86) hx hb dX7_state_82 (by decide) ?_
      refine xi_iadd hx hb (e68 : Int32.toInt x68 = ((2 : Int) * (hv (vw (G.2.1 (F p0 0))) (90 * ((G.1 a 2).toInt) + 30 * ((G.1 a 3).toInt)) (p1.toInt) 30))) ((by decide) : Int32.toInt 1 = (1 : Int)) dX7_state_86 (fun x86 t86 => ?_)
      have e86 : x86.toInt = (((2 : Int) * (hv (vw (G.2.1 (F p0 0))) (90 * ((G.1 a 2).toInt) + 30 * ((G.1 a 3).toInt)) (p1.toInt) 30)) + (1 : Int)) := (z_X7_state_9 x86.toInt (hv (vw (G.2.1 (F p0 0))) (90 * ((G.1 a 2).toInt) + 30 * ((G.1 a 3).toInt)) (p1.toInt) 30) z0b t86)
      exact x_ri hx hb hr hlk hQ (Nat.le_of_ble_eq_true rfl) (Nat.le_of_ble_eq_true rfl) hS dX7_state_87 () ⟨_, rfl, (by rw [(e86 : Int32.toInt x86 = (((2 : Int) * (hv (vw (G.2.1 (F p0 0))) (90 * ((G.1 a 2).toInt) + 30 * ((G.1 a 3).toInt)) (p1.toInt) 30)) + (1 : Int)))] <;> exact (z_X7_state_19 x75.toInt ((G.1 a 0).toInt) (cel (vw (G.2.1 (F p0 0))) ((G.1 a 4).toInt) (p1.toInt) 0) (hv (vw (G.2.1 (F p0 0))) (90 * ((G.1 a 2).toInt) + 30 * ((G.1 a 3).toInt)) (p1.toInt) 30) (stt (vw (G.2.1 (F p0 0))) ((G.1 a 0).toInt) ((G.1 a 2).toInt) ((G.1 a 3).toInt) ((G.1 a 4).toInt) (p1.toInt)) (z0a).2.1 c4 t75 c78))⟩ hh

theorem z_X7_fails_2 (a0 : Int) (a1 : Int) (a2 : Int) (a3 : Int) (h0 : 0 ≤ a1 ∧ a1 ≤ 5) (h1 : a1 < 0 ∨ 4 < a1) (h2 : a1 = 5 → a2 = a3) (h3 : a0 = a3) : a0 = a2 := by omega
theorem z_X7_fails_3 (a0 : Int) (a1 : Int) (a2 : Int) (h0 : a1 = 0) (h1 : a1 = 0 → (1 < a0 ∧ a2 = 1) ∨ (¬ (1 < a0) ∧ a2 = 0)) (h2 : a0 ≤ (1 : Int)) : (0 : Int) = a2 := by omega
theorem z_X7_fails_4 (a0 : Int) (a1 : Int) (a2 : Int) (h0 : a1 = 0) (h1 : a1 = 0 → (1 < a0 ∧ a2 = 1) ∨ (¬ (1 < a0) ∧ a2 = 0)) (h2 : ¬ (a0 ≤ (1 : Int))) : (1 : Int) = a2 := by omega
theorem z_X7_fails_5 (a0 : Int) (a1 : Int) (a2 : Int) (h0 : a1 = 1) (h1 : a1 = 1 → (1 < a0 ∧ a0 % 2 = 0 ∧ a2 = 1) ∨ (¬ (1 < a0 ∧ a0 % 2 = 0) ∧ a2 = 0)) (h2 : a0 ≤ (1 : Int)) : (0 : Int) = a2 := by omega
theorem z_X7_fails_6 (a0 : Int) (a1 : Int) (a2 : Int) (a3 : Int) (h0 : a2 = 1) (h1 : a2 = 1 → (1 < a0 ∧ a0 % 2 = 0 ∧ a3 = 1) ∨ (¬ (1 < a0 ∧ a0 % 2 = 0) ∧ a3 = 0)) (h2 : a1 = a0 % 2) (h3 : a1 ≠ 0) : (0 : Int) = a3 := by omega
theorem z_X7_fails_7 (a0 : Int) (a1 : Int) (a2 : Int) (a3 : Int) (h0 : a2 = 1) (h1 : a2 = 1 → (1 < a0 ∧ a0 % 2 = 0 ∧ a3 = 1) ∨ (¬ (1 < a0 ∧ a0 % 2 = 0) ∧ a3 = 0)) (h2 : ¬ (a0 ≤ (1 : Int))) (h3 : a1 = a0 % 2) (h4 : ¬ (a1 ≠ 0)) : (1 : Int) = a3 := by omega
theorem z_X7_fails_8 (a0 : Int) (a1 : Int) (a2 : Int) (a3 : Int) (a4 : Int) (h0 : a1 = 2) (h1 : a1 = 2 → ((a0 ≠ -2000 ∧ a0 ≠ -1000 ∧ (a0 < a2 ∨ a3 < a0)) ∧ a4 = 1) ∨ (¬ (a0 ≠ -2000 ∧ a0 ≠ -1000 ∧ (a0 < a2 ∨ a3 < a0)) ∧ a4 = 0)) (h2 : a0 = (-2000 : Int)) : (0 : Int) = a4 := by omega
theorem z_X7_fails_9 (a0 : Int) (a1 : Int) (a2 : Int) (a3 : Int) (a4 : Int) (h0 : a1 = 2) (h1 : a1 = 2 → ((a0 ≠ -2000 ∧ a0 ≠ -1000 ∧ (a0 < a2 ∨ a3 < a0)) ∧ a4 = 1) ∨ (¬ (a0 ≠ -2000 ∧ a0 ≠ -1000 ∧ (a0 < a2 ∨ a3 < a0)) ∧ a4 = 0)) (h2 : a0 = (-1000 : Int)) : (0 : Int) = a4 := by omega
theorem z_X7_fails_10 (a0 : Int) (a1 : Int) (a2 : Int) (a3 : Int) (a4 : Int) (a5 : Int) (h0 : a2 = 2) (h1 : a2 = 2 → ((a0 ≠ -2000 ∧ a0 ≠ -1000 ∧ (a0 < a3 ∨ a4 < a0)) ∧ a5 = 1) ∨ (¬ (a0 ≠ -2000 ∧ a0 ≠ -1000 ∧ (a0 < a3 ∨ a4 < a0)) ∧ a5 = 0)) (h2 : ((a0 < a3 ∨ a4 < a0) ∧ a1 = 1) ∨ (¬ (a0 < a3 ∨ a4 < a0) ∧ a1 = 0)) (h3 : a1 = 0) : (0 : Int) = a5 := by omega
theorem z_X7_fails_11 (a0 : Int) (a1 : Int) (a2 : Int) (a3 : Int) (a4 : Int) (a5 : Int) (h0 : a2 = 2) (h1 : a2 = 2 → ((a0 ≠ -2000 ∧ a0 ≠ -1000 ∧ (a0 < a3 ∨ a4 < a0)) ∧ a5 = 1) ∨ (¬ (a0 ≠ -2000 ∧ a0 ≠ -1000 ∧ (a0 < a3 ∨ a4 < a0)) ∧ a5 = 0)) (h2 : ¬ (a0 = (-2000 : Int))) (h3 : ¬ (a0 = (-1000 : Int))) (h4 : ((a0 < a3 ∨ a4 < a0) ∧ a1 = 1) ∨ (¬ (a0 < a3 ∨ a4 < a0) ∧ a1 = 0)) (h5 : ¬ (a1 = 0)) : (1 : Int) = a5 := by omega
theorem z_X7_fails_12 (a0 : Int) (a1 : Int) (a2 : Int) (a3 : Int) (a4 : Int) (h0 : a1 = 3) (h1 : a1 = 3 → ((a0 ≠ 100000 ∧ (a0 < a2 ∨ a3 < a0)) ∧ a4 = 1) ∨ (¬ (a0 ≠ 100000 ∧ (a0 < a2 ∨ a3 < a0)) ∧ a4 = 0)) (h2 : a0 = (100000 : Int)) : (0 : Int) = a4 := by omega
theorem z_X7_fails_13 (a0 : Int) (a1 : Int) (a2 : Int) (a3 : Int) (a4 : Int) (a5 : Int) (h0 : a2 = 3) (h1 : a2 = 3 → ((a0 ≠ 100000 ∧ (a0 < a3 ∨ a4 < a0)) ∧ a5 = 1) ∨ (¬ (a0 ≠ 100000 ∧ (a0 < a3 ∨ a4 < a0)) ∧ a5 = 0)) (h2 : ((a0 < a3 ∨ a4 < a0) ∧ a1 = 1) ∨ (¬ (a0 < a3 ∨ a4 < a0) ∧ a1 = 0)) (h3 : a1 = 0) : (0 : Int) = a5 := by omega
theorem z_X7_fails_14 (a0 : Int) (a1 : Int) (a2 : Int) (a3 : Int) (a4 : Int) (a5 : Int) (h0 : a2 = 3) (h1 : a2 = 3 → ((a0 ≠ 100000 ∧ (a0 < a3 ∨ a4 < a0)) ∧ a5 = 1) ∨ (¬ (a0 ≠ 100000 ∧ (a0 < a3 ∨ a4 < a0)) ∧ a5 = 0)) (h2 : ¬ (a0 = (100000 : Int))) (h3 : ((a0 < a3 ∨ a4 < a0) ∧ a1 = 1) ∨ (¬ (a0 < a3 ∨ a4 < a0) ∧ a1 = 0)) (h4 : ¬ (a1 = 0)) : (1 : Int) = a5 := by omega
theorem z_X7_fails_15 (a0 : Int) (a1 : Int) (a2 : Int) (a3 : Int) (a4 : Int) (a5 : Int) (h0 : a2 = 4) (h1 : a2 = 4 → ((a0 % 2 = 1 ∧ (a0 / 2 < a3 ∨ a4 < a0 / 2)) ∧ a5 = 1) ∨ (¬ (a0 % 2 = 1 ∧ (a0 / 2 < a3 ∨ a4 < a0 / 2)) ∧ a5 = 0)) (h2 : a1 = a0 % 2) (h3 : a1 ≠ (1 : Int)) : (0 : Int) = a5 := by omega
theorem z_X7_fails_16 (a0 : Int) (a1 : Int) (a2 : Int) (a3 : Int) (a4 : Int) (a5 : Int) (a6 : Int) (h0 : a3 = 4) (h1 : a3 = 4 → ((a0 % 2 = 1 ∧ (a0 / 2 < a4 ∨ a5 < a0 / 2)) ∧ a6 = 1) ∨ (¬ (a0 % 2 = 1 ∧ (a0 / 2 < a4 ∨ a5 < a0 / 2)) ∧ a6 = 0)) (h2 : a1 = a0 / 2) (h3 : ((a1 < a4 ∨ a5 < a1) ∧ a2 = 1) ∨ (¬ (a1 < a4 ∨ a5 < a1) ∧ a2 = 0)) (h4 : a2 = 0) : (0 : Int) = a6 := by omega
theorem z_X7_fails_17 (a0 : Int) (a1 : Int) (a2 : Int) (a3 : Int) (a4 : Int) (a5 : Int) (a6 : Int) (a7 : Int) (h0 : a4 = 4) (h1 : a4 = 4 → ((a0 % 2 = 1 ∧ (a0 / 2 < a5 ∨ a6 < a0 / 2)) ∧ a7 = 1) ∨ (¬ (a0 % 2 = 1 ∧ (a0 / 2 < a5 ∨ a6 < a0 / 2)) ∧ a7 = 0)) (h2 : a1 = a0 % 2) (h3 : ¬ (a1 ≠ (1 : Int))) (h4 : a2 = a0 / 2) (h5 : ((a2 < a5 ∨ a6 < a2) ∧ a3 = 1) ∨ (¬ (a2 < a5 ∨ a6 < a2) ∧ a3 = 0)) (h6 : ¬ (a3 = 0)) : (1 : Int) = a7 := by omega
abbrev rm_X7_fails : Room := { frames := 3, cells := 0, slots := 0, locals := 68 }
set_option maxHeartbeats 4000000 in
set_option maxRecDepth 100000 in
theorem c_X7_fails (l : Launch) (E : XE) (K : Nat → Nat) (F : Nat → Nat → Nat) (G : XG) (h0 : Heap) (a : Nat) (p0 : Nat) (p1 : Int32) (p2 : Int32) (ha : K a = 9) (hp0 : K p0 = 8) (hro : RO (vw (G.2.1 (F p0 0))) (aI (G.2.1 (F p0 1)))) (hrw : RW (G.1 a)) : Met l yX7_fails (xw yX7_fails cX7_fails 4 (some .boolean)) rm_X7_fails (va_Pc [.ref a, .ref p0, .int p1, .int p2] (XPh E K F G h0)) (XQ E (fun v (u : Unit) => ∃ r : Int32, v = .int r ∧ (r = 0 ∨ r = 1) ∧ (r.toInt = (flq (vw (G.2.1 (F p0 0))) ((G.1 a 0).toInt) ((G.1 a 2).toInt) ((G.1 a 3).toInt) ((G.1 a 5).toInt) ((G.1 a 6).toInt) (p1.toInt) (p2.toInt)))) (fun _ H => H = h0)) 0 0 (xA E) := by
  refine x_enter (by decide) (Nat.le_of_ble_eq_true rfl) ?_
  intro p e s m args below meth c Q S hr hlk hnm hQ hP ls hl
  obtain ⟨⟨hz, hK, hT⟩, hh⟩ := hP
  obtain ⟨hx, hb, -, -, -⟩ := id S
  have hS : va_S (xA E) s.heap s.heap [] := va_S.rf
  have hl : lv_has ls 4 [(0, .ref a), (1, .ref p0), (2, .int p1), (3, .int p2)] := hl
  obtain ⟨hk9999, hj9999⟩ := fkX6_0 hT hp0
  obtain ⟨hk9999a, hj9999a⟩ := fkX6_1 hT hp0
  have z0 : (0 ≤ ((G.1 a 0).toInt) ∧ ((G.1 a 0).toInt) ≤ 5) ∧ (0 ≤ ((G.1 a 2).toInt) ∧ ((G.1 a 2).toInt) ≤ 2) ∧ (0 ≤ ((G.1 a 3).toInt) ∧ ((G.1 a 3).toInt) ≤ 2) ∧ (-1 ≤ ((G.1 a 4).toInt) ∧ ((G.1 a 4).toInt) ≤ 2) ∧ (((G.1 a 0).toInt) = 1 ∨ ((G.1 a 0).toInt) = 3 ∨ ((G.1 a 0).toInt) = 4 → 0 ≤ ((G.1 a 4).toInt)) := RW.f hrw
  refine lv_aload_n hx hb dX7_fails_0 rfl (lv_at hl 0 rfl) ?_
  refine gX7_0 S hK hT ha kf_X7_21 dX7_fails_1 (v := (G.1 a 0)) rfl (?_)
  rcases ((z_X7_state_1 ((G.1 a 0).toInt)) : (((G.1 a 0).toInt) < 0 ∨ 4 < ((G.1 a 0).toInt)) ∨ (((G.1 a 0).toInt) = 0) ∨ (((G.1 a 0).toInt) = 1) ∨ (((G.1 a 0).toInt) = 2) ∨ (((G.1 a 0).toInt) = 3) ∨ (((G.1 a 0).toInt) = 4)) with c4 | c4 | c4 | c4 | c4 | c4
  · refine lv_tableOut (tgt := 139) hx hb dX7_fails_4 c4 (by decide) ?_
    have z139 : ((G.1 a 0).toInt) = 5 → (flq (vw (G.2.1 (F p0 0))) ((G.1 a 0).toInt) ((G.1 a 2).toInt) ((G.1 a 3).toInt) ((G.1 a 5).toInt) ((G.1 a 6).toInt) (p1.toInt) (p2.toInt)) = (rgq (vw (G.2.1 (F p0 0))) ((G.1 a 2).toInt) ((G.1 a 3).toInt) (p1.toInt) 30 (cel (vw (G.2.1 (F p0 0))) ((G.1 a 2).toInt) (p1.toInt) ((G.1 a 3).toInt))) := flq_k5
    refine lv_aload_n hx hb dX7_fails_139 rfl (lv_at hl 0 rfl) ?_
    refine lv_aload_n hx hb dX7_fails_140 rfl (lv_at hl 1 rfl) ?_
    refine lv_iload_n hx hb dX7_fails_141 rfl (lv_at hl 2 rfl) ?_
    refine x_clp (x_runV (b := a) (As := [.ref p0, .int p1]) (rest := []) S (c_X7_isOnRing l E K F G s.heap a p0 p1 ha hp0 (v_X7_fails_142_1 p0 G hro)) mv_X7_isOnRing km_X7_66 rfl rfl ⟨Nat.le_of_ble_eq_true rfl, Nat.le_of_ble_eq_true rfl⟩ (rc_9 hK hT ha) hK (fun _ => XPh.blind) (fun U hU hW => XPh.at hK hz hS hT hU hW) rfl hl.1 (Nat.le_of_ble_eq_true rfl) dX7_fails_142 ⟨Nat.le_of_ble_eq_true rfl, Nat.le_of_ble_eq_true rfl⟩) hS ?_
    rintro _ _ locs ⟨x142, rfl, b142, t142⟩ hS
    have t142 : x142.toInt = (rgq (vw (G.2.1 (F p0 0))) ((G.1 a 2).toInt) ((G.1 a 3).toInt) (p1.toInt) 30 (cel (vw (G.2.1 (F p0 0))) ((G.1 a 2).toInt) (p1.toInt) ((G.1 a 3).toInt))) := t142
    exact x_rz hx hb hr (xnz b142) hlk hQ (Nat.le_of_ble_eq_true rfl) (Nat.le_of_ble_eq_true rfl) hS dX7_fails_145 () ⟨_, rfl, b142, (z_X7_fails_2 x142.toInt ((G.1 a 0).toInt) (flq (vw (G.2.1 (F p0 0))) ((G.1 a 0).toInt) ((G.1 a 2).toInt) ((G.1 a 3).toInt) ((G.1 a 5).toInt) ((G.1 a 6).toInt) (p1.toInt) (p2.toInt)) (rgq (vw (G.2.1 (F p0 0))) ((G.1 a 2).toInt) ((G.1 a 3).toInt) (p1.toInt) 30 (cel (vw (G.2.1 (F p0 0))) ((G.1 a 2).toInt) (p1.toInt) ((G.1 a 3).toInt))) (z0).1 c4 z139 t142)⟩ hh
  · refine lv_tableIn (off := 36) (tgt := 40) hx hb dX7_fails_4 (by rw [c4]; decide) (by rw [c4]; decide) (by rw [c4]; rfl) (by decide) ?_
    have z40 : ((G.1 a 0).toInt) = 0 → (1 < p2.toInt ∧ (flq (vw (G.2.1 (F p0 0))) ((G.1 a 0).toInt) ((G.1 a 2).toInt) ((G.1 a 3).toInt) ((G.1 a 5).toInt) ((G.1 a 6).toInt) (p1.toInt) (p2.toInt)) = 1) ∨ (¬ (1 < p2.toInt) ∧ (flq (vw (G.2.1 (F p0 0))) ((G.1 a 0).toInt) ((G.1 a 2).toInt) ((G.1 a 3).toInt) ((G.1 a 5).toInt) ((G.1 a 6).toInt) (p1.toInt) (p2.toInt)) = 0) := flq_k0
    refine lv_iload_n hx hb dX7_fails_40 rfl (lv_at hl 3 rfl) ?_
    refine lv_iconst (v := 1) hx hb dX7_fails_41 (by decide) ?_
    refine xi_cle (tgt := 49) hx hb (rfl : Int32.toInt p2 = p2.toInt) ((by decide) : Int32.toInt 1 = (1 : Int)) dX7_fails_42 (by decide) (fun c42 => ?_) (fun c42 => ?_)
    · refine lv_iconst (v := 0) hx hb dX7_fails_49 (by decide) ?_
      exact x_rz hx hb hr (xnz (Or.inl rfl)) hlk hQ (Nat.le_of_ble_eq_true rfl) (Nat.le_of_ble_eq_true rfl) hS dX7_fails_50 () ⟨_, rfl, (Or.inl rfl), (z_X7_fails_3 p2.toInt ((G.1 a 0).toInt) (flq (vw (G.2.1 (F p0 0))) ((G.1 a 0).toInt) ((G.1 a 2).toInt) ((G.1 a 3).toInt) ((G.1 a 5).toInt) ((G.1 a 6).toInt) (p1.toInt) (p2.toInt)) c4 z40 c42)⟩ hh
    · refine lv_iconst (v := 1) hx hb dX7_fails_45 (by decide) ?_
      refine lv_goto (tgt := 50) hx hb dX7_fails_46 (by decide) ?_
      exact x_rz hx hb hr (xnz (Or.inr rfl)) hlk hQ (Nat.le_of_ble_eq_true rfl) (Nat.le_of_ble_eq_true rfl) hS dX7_fails_50 () ⟨_, rfl, (Or.inr rfl), (z_X7_fails_4 p2.toInt ((G.1 a 0).toInt) (flq (vw (G.2.1 (F p0 0))) ((G.1 a 0).toInt) ((G.1 a 2).toInt) ((G.1 a 3).toInt) ((G.1 a 5).toInt) ((G.1 a 6).toInt) (p1.toInt) (p2.toInt)) c4 z40 c42)⟩ hh
  · refine lv_tableIn (off := 47) (tgt := 51) hx hb dX7_fails_4 (by rw [c4]; decide) (by rw [c4]; decide) (by rw [c4]; rfl) (by decide) ?_
    have z51 : ((G.1 a 0).toInt) = 1 → (1 < p2.toInt ∧ p2.toInt % 2 = 0 ∧ (flq (vw (G.2.1 (F p0 0))) ((G.1 a 0).toInt) ((G.1 a 2).toInt) ((G.1 a 3).toInt) ((G.1 a 5).toInt) ((G.1 a 6).toInt) (p1.toInt) (p2.toInt)) = 1) ∨ (¬ (1 < p2.toInt ∧ p2.toInt % 2 = 0) ∧ (flq (vw (G.2.1 (F p0 0))) ((G.1 a 0).toInt) ((G.1 a 2).toInt) ((G.1 a 3).toInt) ((G.1 a 5).toInt) ((G.1 a 6).toInt) (p1.toInt) (p2.toInt)) = 0) := flq_k1
    refine lv_iload_n hx hb dX7_fails_51 rfl (lv_at hl 3 rfl) ?_
    refine lv_iconst (v := 1) hx hb dX7_fails_52 (by decide) ?_
    refine xi_cle (tgt := 66) hx hb (rfl : Int32.toInt p2 = p2.toInt) ((by decide) : Int32.toInt 1 = (1 : Int)) dX7_fails_53 (by decide) (fun c53 => ?_) (fun c53 => ?_)
    · refine lv_iconst (v := 0) hx hb dX7_fails_66 (by decide) ?_
      exact x_rz hx hb hr (xnz (Or.inl rfl)) hlk hQ (Nat.le_of_ble_eq_true rfl) (Nat.le_of_ble_eq_true rfl) hS dX7_fails_67 () ⟨_, rfl, (Or.inl rfl), (z_X7_fails_5 p2.toInt ((G.1 a 0).toInt) (flq (vw (G.2.1 (F p0 0))) ((G.1 a 0).toInt) ((G.1 a 2).toInt) ((G.1 a 3).toInt) ((G.1 a 5).toInt) ((G.1 a 6).toInt) (p1.toInt) (p2.toInt)) c4 z51 c53)⟩ hh
    · refine lv_iload_n hx hb dX7_fails_56 rfl (lv_at hl 3 rfl) ?_
      refine lv_iconst (v := 1) hx hb dX7_fails_57 (by decide) ?_
      refine lv_iand hx hb dX7_fails_58 (lv_topi (fun x58 he58 => ?_))
      have hb58 : x58.toInt = p2.toInt % 2 := x_and1 he58 (rfl : Int32.toInt p2 = p2.toInt)
      refine xi_zne (tgt := 66) hx hb (rfl : Int32.toInt x58 = x58.toInt) dX7_fails_59 (by decide) (fun c59 => ?_) (fun c59 => ?_)
      · refine lv_iconst (v := 0) hx hb dX7_fails_66 (by decide) ?_
        exact x_rz hx hb hr (xnz (Or.inl rfl)) hlk hQ (Nat.le_of_ble_eq_true rfl) (Nat.le_of_ble_eq_true rfl) hS dX7_fails_67 () ⟨_, rfl, (Or.inl rfl), (z_X7_fails_6 p2.toInt x58.toInt ((G.1 a 0).toInt) (flq (vw (G.2.1 (F p0 0))) ((G.1 a 0).toInt) ((G.1 a 2).toInt) ((G.1 a 3).toInt) ((G.1 a 5).toInt) ((G.1 a 6).toInt) (p1.toInt) (p2.toInt)) c4 z51 hb58 c59)⟩ hh
      · refine lv_iconst (v := 1) hx hb dX7_fails_62 (by decide) ?_
        refine lv_goto (tgt := 67) hx hb dX7_fails_63 (by decide) ?_
        exact x_rz hx hb hr (xnz (Or.inr rfl)) hlk hQ (Nat.le_of_ble_eq_true rfl) (Nat.le_of_ble_eq_true rfl) hS dX7_fails_67 () ⟨_, rfl, (Or.inr rfl), (z_X7_fails_7 p2.toInt x58.toInt ((G.1 a 0).toInt) (flq (vw (G.2.1 (F p0 0))) ((G.1 a 0).toInt) ((G.1 a 2).toInt) ((G.1 a 3).toInt) ((G.1 a 5).toInt) ((G.1 a 6).toInt) (p1.toInt) (p2.toInt)) c4 z51 c53 hb58 c59)⟩ hh
  · refine lv_tableIn (off := 64) (tgt := 68) hx hb dX7_fails_4 (by rw [c4]; decide) (by rw [c4]; decide) (by rw [c4]; rfl) (by decide) ?_
    have z68 : ((G.1 a 0).toInt) = 2 → ((p2.toInt ≠ -2000 ∧ p2.toInt ≠ -1000 ∧ (p2.toInt < ((G.1 a 5).toInt) ∨ ((G.1 a 6).toInt) < p2.toInt)) ∧ (flq (vw (G.2.1 (F p0 0))) ((G.1 a 0).toInt) ((G.1 a 2).toInt) ((G.1 a 3).toInt) ((G.1 a 5).toInt) ((G.1 a 6).toInt) (p1.toInt) (p2.toInt)) = 1) ∨ (¬ (p2.toInt ≠ -2000 ∧ p2.toInt ≠ -1000 ∧ (p2.toInt < ((G.1 a 5).toInt) ∨ ((G.1 a 6).toInt) < p2.toInt)) ∧ (flq (vw (G.2.1 (F p0 0))) ((G.1 a 0).toInt) ((G.1 a 2).toInt) ((G.1 a 3).toInt) ((G.1 a 5).toInt) ((G.1 a 6).toInt) (p1.toInt) (p2.toInt)) = 0) := flq_k2
    refine lv_iload_n hx hb dX7_fails_68 rfl (lv_at hl 3 rfl) ?_
    refine lv_sipush (v := (-2000)) hx hb dX7_fails_69 (by decide) ?_
    refine xi_ceq (tgt := 94) hx hb (rfl : Int32.toInt p2 = p2.toInt) ((by decide) : Int32.toInt (-2000) = (-2000 : Int)) dX7_fails_72 (by decide) (fun c72 => ?_) (fun c72 => ?_)
    · refine lv_iconst (v := 0) hx hb dX7_fails_94 (by decide) ?_
      exact x_rz hx hb hr (xnz (Or.inl rfl)) hlk hQ (Nat.le_of_ble_eq_true rfl) (Nat.le_of_ble_eq_true rfl) hS dX7_fails_95 () ⟨_, rfl, (Or.inl rfl), (z_X7_fails_8 p2.toInt ((G.1 a 0).toInt) ((G.1 a 5).toInt) ((G.1 a 6).toInt) (flq (vw (G.2.1 (F p0 0))) ((G.1 a 0).toInt) ((G.1 a 2).toInt) ((G.1 a 3).toInt) ((G.1 a 5).toInt) ((G.1 a 6).toInt) (p1.toInt) (p2.toInt)) c4 z68 c72)⟩ hh
    · refine lv_iload_n hx hb dX7_fails_75 rfl (lv_at hl 3 rfl) ?_
      refine lv_sipush (v := (-1000)) hx hb dX7_fails_76 (by decide) ?_
      refine xi_ceq (tgt := 94) hx hb (rfl : Int32.toInt p2 = p2.toInt) ((by decide) : Int32.toInt (-1000) = (-1000 : Int)) dX7_fails_79 (by decide) (fun c79 => ?_) (fun c79 => ?_)
      · refine lv_iconst (v := 0) hx hb dX7_fails_94 (by decide) ?_
        exact x_rz hx hb hr (xnz (Or.inl rfl)) hlk hQ (Nat.le_of_ble_eq_true rfl) (Nat.le_of_ble_eq_true rfl) hS dX7_fails_95 () ⟨_, rfl, (Or.inl rfl), (z_X7_fails_9 p2.toInt ((G.1 a 0).toInt) ((G.1 a 5).toInt) ((G.1 a 6).toInt) (flq (vw (G.2.1 (F p0 0))) ((G.1 a 0).toInt) ((G.1 a 2).toInt) ((G.1 a 3).toInt) ((G.1 a 5).toInt) ((G.1 a 6).toInt) (p1.toInt) (p2.toInt)) c4 z68 c79)⟩ hh
      · refine lv_aload_n hx hb dX7_fails_82 rfl (lv_at hl 0 rfl) ?_
        refine lv_iload_n hx hb dX7_fails_83 rfl (lv_at hl 3 rfl) ?_
        refine x_clp (x_runV (b := a) (As := [.int p2]) (rest := []) S (c_X7_isOutside l E K F G s.heap a p2 ha) mv_X7_isOutside km_X7_62 rfl rfl ⟨Nat.le_of_ble_eq_true rfl, Nat.le_of_ble_eq_true rfl⟩ (rc_9 hK hT ha) hK (fun _ => XPh.blind) (fun U hU hW => XPh.at hK hz hS hT hU hW) rfl hl.1 (Nat.le_of_ble_eq_true rfl) dX7_fails_84 ⟨Nat.le_of_ble_eq_true rfl, Nat.le_of_ble_eq_true rfl⟩) hS ?_
        rintro _ _ locs ⟨x84, rfl, b84, t84⟩ hS
        have t84 : ((p2.toInt < ((G.1 a 5).toInt) ∨ ((G.1 a 6).toInt) < p2.toInt) ∧ x84.toInt = 1) ∨ (¬ (p2.toInt < ((G.1 a 5).toInt) ∨ ((G.1 a 6).toInt) < p2.toInt) ∧ x84.toInt = 0) := t84
        refine xi_zeq (tgt := 94) hx hb (rfl : Int32.toInt x84 = x84.toInt) dX7_fails_87 (by decide) (fun c87 => ?_) (fun c87 => ?_)
        · refine lv_iconst (v := 0) hx hb dX7_fails_94 (by decide) ?_
          exact x_rz hx hb hr (xnz (Or.inl rfl)) hlk hQ (Nat.le_of_ble_eq_true rfl) (Nat.le_of_ble_eq_true rfl) hS dX7_fails_95 () ⟨_, rfl, (Or.inl rfl), (z_X7_fails_10 p2.toInt x84.toInt ((G.1 a 0).toInt) ((G.1 a 5).toInt) ((G.1 a 6).toInt) (flq (vw (G.2.1 (F p0 0))) ((G.1 a 0).toInt) ((G.1 a 2).toInt) ((G.1 a 3).toInt) ((G.1 a 5).toInt) ((G.1 a 6).toInt) (p1.toInt) (p2.toInt)) c4 z68 t84 c87)⟩ hh
        · refine lv_iconst (v := 1) hx hb dX7_fails_90 (by decide) ?_
          refine lv_goto (tgt := 95) hx hb dX7_fails_91 (by decide) ?_
          exact x_rz hx hb hr (xnz (Or.inr rfl)) hlk hQ (Nat.le_of_ble_eq_true rfl) (Nat.le_of_ble_eq_true rfl) hS dX7_fails_95 () ⟨_, rfl, (Or.inr rfl), (z_X7_fails_11 p2.toInt x84.toInt ((G.1 a 0).toInt) ((G.1 a 5).toInt) ((G.1 a 6).toInt) (flq (vw (G.2.1 (F p0 0))) ((G.1 a 0).toInt) ((G.1 a 2).toInt) ((G.1 a 3).toInt) ((G.1 a 5).toInt) ((G.1 a 6).toInt) (p1.toInt) (p2.toInt)) c4 z68 c72 c79 t84 c87)⟩ hh
  · refine lv_tableIn (off := 92) (tgt := 96) hx hb dX7_fails_4 (by rw [c4]; decide) (by rw [c4]; decide) (by rw [c4]; rfl) (by decide) ?_
    have z96 : ((G.1 a 0).toInt) = 3 → ((p2.toInt ≠ 100000 ∧ (p2.toInt < ((G.1 a 5).toInt) ∨ ((G.1 a 6).toInt) < p2.toInt)) ∧ (flq (vw (G.2.1 (F p0 0))) ((G.1 a 0).toInt) ((G.1 a 2).toInt) ((G.1 a 3).toInt) ((G.1 a 5).toInt) ((G.1 a 6).toInt) (p1.toInt) (p2.toInt)) = 1) ∨ (¬ (p2.toInt ≠ 100000 ∧ (p2.toInt < ((G.1 a 5).toInt) ∨ ((G.1 a 6).toInt) < p2.toInt)) ∧ (flq (vw (G.2.1 (F p0 0))) ((G.1 a 0).toInt) ((G.1 a 2).toInt) ((G.1 a 3).toInt) ((G.1 a 5).toInt) ((G.1 a 6).toInt) (p1.toInt) (p2.toInt)) = 0) := flq_k3
    refine lv_iload_n hx hb dX7_fails_96 rfl (lv_at hl 3 rfl) ?_
    refine lv_ldc (v := 100000) hx hb S.2.2.2.1 (S.2.2.2.2 _ (List.mem_cons_of_mem _ kc_X7_65)) dX7_fails_97 ?_
    refine xi_ceq (tgt := 114) hx hb (rfl : Int32.toInt p2 = p2.toInt) ((by decide) : Int32.toInt 100000 = (100000 : Int)) dX7_fails_99 (by decide) (fun c99 => ?_) (fun c99 => ?_)
    · refine lv_iconst (v := 0) hx hb dX7_fails_114 (by decide) ?_
      exact x_rz hx hb hr (xnz (Or.inl rfl)) hlk hQ (Nat.le_of_ble_eq_true rfl) (Nat.le_of_ble_eq_true rfl) hS dX7_fails_115 () ⟨_, rfl, (Or.inl rfl), (z_X7_fails_12 p2.toInt ((G.1 a 0).toInt) ((G.1 a 5).toInt) ((G.1 a 6).toInt) (flq (vw (G.2.1 (F p0 0))) ((G.1 a 0).toInt) ((G.1 a 2).toInt) ((G.1 a 3).toInt) ((G.1 a 5).toInt) ((G.1 a 6).toInt) (p1.toInt) (p2.toInt)) c4 z96 c99)⟩ hh
    · refine lv_aload_n hx hb dX7_fails_102 rfl (lv_at hl 0 rfl) ?_
      refine lv_iload_n hx hb dX7_fails_103 rfl (lv_at hl 3 rfl) ?_
      refine x_clp (x_runV (b := a) (As := [.int p2]) (rest := []) S (c_X7_isOutside l E K F G s.heap a p2 ha) mv_X7_isOutside km_X7_62 rfl rfl ⟨Nat.le_of_ble_eq_true rfl, Nat.le_of_ble_eq_true rfl⟩ (rc_9 hK hT ha) hK (fun _ => XPh.blind) (fun U hU hW => XPh.at hK hz hS hT hU hW) rfl hl.1 (Nat.le_of_ble_eq_true rfl) dX7_fails_104 ⟨Nat.le_of_ble_eq_true rfl, Nat.le_of_ble_eq_true rfl⟩) hS ?_
      rintro _ _ locs ⟨x104, rfl, b104, t104⟩ hS
      have t104 : ((p2.toInt < ((G.1 a 5).toInt) ∨ ((G.1 a 6).toInt) < p2.toInt) ∧ x104.toInt = 1) ∨ (¬ (p2.toInt < ((G.1 a 5).toInt) ∨ ((G.1 a 6).toInt) < p2.toInt) ∧ x104.toInt = 0) := t104
      refine xi_zeq (tgt := 114) hx hb (rfl : Int32.toInt x104 = x104.toInt) dX7_fails_107 (by decide) (fun c107 => ?_) (fun c107 => ?_)
      · refine lv_iconst (v := 0) hx hb dX7_fails_114 (by decide) ?_
        exact x_rz hx hb hr (xnz (Or.inl rfl)) hlk hQ (Nat.le_of_ble_eq_true rfl) (Nat.le_of_ble_eq_true rfl) hS dX7_fails_115 () ⟨_, rfl, (Or.inl rfl), (z_X7_fails_13 p2.toInt x104.toInt ((G.1 a 0).toInt) ((G.1 a 5).toInt) ((G.1 a 6).toInt) (flq (vw (G.2.1 (F p0 0))) ((G.1 a 0).toInt) ((G.1 a 2).toInt) ((G.1 a 3).toInt) ((G.1 a 5).toInt) ((G.1 a 6).toInt) (p1.toInt) (p2.toInt)) c4 z96 t104 c107)⟩ hh
      · refine lv_iconst (v := 1) hx hb dX7_fails_110 (by decide) ?_
        refine lv_goto (tgt := 115) hx hb dX7_fails_111 (by decide) ?_
        exact x_rz hx hb hr (xnz (Or.inr rfl)) hlk hQ (Nat.le_of_ble_eq_true rfl) (Nat.le_of_ble_eq_true rfl) hS dX7_fails_115 () ⟨_, rfl, (Or.inr rfl), (z_X7_fails_14 p2.toInt x104.toInt ((G.1 a 0).toInt) ((G.1 a 5).toInt) ((G.1 a 6).toInt) (flq (vw (G.2.1 (F p0 0))) ((G.1 a 0).toInt) ((G.1 a 2).toInt) ((G.1 a 3).toInt) ((G.1 a 5).toInt) ((G.1 a 6).toInt) (p1.toInt) (p2.toInt)) c4 z96 c99 t104 c107)⟩ hh
  · refine lv_tableIn (off := 112) (tgt := 116) hx hb dX7_fails_4 (by rw [c4]; decide) (by rw [c4]; decide) (by rw [c4]; rfl) (by decide) ?_
    have z116 : ((G.1 a 0).toInt) = 4 → ((p2.toInt % 2 = 1 ∧ (p2.toInt / 2 < ((G.1 a 5).toInt) ∨ ((G.1 a 6).toInt) < p2.toInt / 2)) ∧ (flq (vw (G.2.1 (F p0 0))) ((G.1 a 0).toInt) ((G.1 a 2).toInt) ((G.1 a 3).toInt) ((G.1 a 5).toInt) ((G.1 a 6).toInt) (p1.toInt) (p2.toInt)) = 1) ∨ (¬ (p2.toInt % 2 = 1 ∧ (p2.toInt / 2 < ((G.1 a 5).toInt) ∨ ((G.1 a 6).toInt) < p2.toInt / 2)) ∧ (flq (vw (G.2.1 (F p0 0))) ((G.1 a 0).toInt) ((G.1 a 2).toInt) ((G.1 a 3).toInt) ((G.1 a 5).toInt) ((G.1 a 6).toInt) (p1.toInt) (p2.toInt)) = 0) := flq_k4
    refine lv_iload_n hx hb dX7_fails_116 rfl (lv_at hl 3 rfl) ?_
    refine lv_iconst (v := 1) hx hb dX7_fails_117 (by decide) ?_
    refine lv_iand hx hb dX7_fails_118 (lv_topi (fun x118 he118 => ?_))
    have hb118 : x118.toInt = p2.toInt % 2 := x_and1 he118 (rfl : Int32.toInt p2 = p2.toInt)
    refine lv_iconst (v := 1) hx hb dX7_fails_119 (by decide) ?_
    refine xi_cne (tgt := 137) hx hb (rfl : Int32.toInt x118 = x118.toInt) ((by decide) : Int32.toInt 1 = (1 : Int)) dX7_fails_120 (by decide) (fun c120 => ?_) (fun c120 => ?_)
    · refine lv_iconst (v := 0) hx hb dX7_fails_137 (by decide) ?_
      exact x_rz hx hb hr (xnz (Or.inl rfl)) hlk hQ (Nat.le_of_ble_eq_true rfl) (Nat.le_of_ble_eq_true rfl) hS dX7_fails_138 () ⟨_, rfl, (Or.inl rfl), (z_X7_fails_15 p2.toInt x118.toInt ((G.1 a 0).toInt) ((G.1 a 5).toInt) ((G.1 a 6).toInt) (flq (vw (G.2.1 (F p0 0))) ((G.1 a 0).toInt) ((G.1 a 2).toInt) ((G.1 a 3).toInt) ((G.1 a 5).toInt) ((G.1 a 6).toInt) (p1.toInt) (p2.toInt)) c4 z116 hb118 c120)⟩ hh
    · refine lv_aload_n hx hb dX7_fails_123 rfl (lv_at hl 0 rfl) ?_
      refine lv_iload_n hx hb dX7_fails_124 rfl (lv_at hl 3 rfl) ?_
      refine lv_iconst (v := 1) hx hb dX7_fails_125 (by decide) ?_
      refine lv_ishr hx hb dX7_fails_126 (lv_topi (fun x126 he126 => ?_))
      have hb126 : x126.toInt = p2.toInt / 2 := x_shr1 he126 (rfl : Int32.toInt p2 = p2.toInt)
      refine x_clp (x_runV (b := a) (As := [.int x126]) (rest := []) S (c_X7_isOutside l E K F G s.heap a x126 ha) mv_X7_isOutside km_X7_62 rfl rfl ⟨Nat.le_of_ble_eq_true rfl, Nat.le_of_ble_eq_true rfl⟩ (rc_9 hK hT ha) hK (fun _ => XPh.blind) (fun U hU hW => XPh.at hK hz hS hT hU hW) rfl hl.1 (Nat.le_of_ble_eq_true rfl) dX7_fails_127 ⟨Nat.le_of_ble_eq_true rfl, Nat.le_of_ble_eq_true rfl⟩) hS ?_
      rintro _ _ locs ⟨x127, rfl, b127, t127⟩ hS
      have t127 : ((x126.toInt < ((G.1 a 5).toInt) ∨ ((G.1 a 6).toInt) < x126.toInt) ∧ x127.toInt = 1) ∨ (¬ (x126.toInt < ((G.1 a 5).toInt) ∨ ((G.1 a 6).toInt) < x126.toInt) ∧ x127.toInt = 0) := t127
      refine xi_zeq (tgt := 137) hx hb (rfl : Int32.toInt x127 = x127.toInt) dX7_fails_130 (by decide) (fun c130 => ?_) (fun c130 => ?_)
      · refine lv_iconst (v := 0) hx hb dX7_fails_137 (by decide) ?_
        exact x_rz hx hb hr (xnz (Or.inl rfl)) hlk hQ (Nat.le_of_ble_eq_true rfl) (Nat.le_of_ble_eq_true rfl) hS dX7_fails_138 () ⟨_, rfl, (Or.inl rfl), (z_X7_fails_16 p2.toInt x126.toInt x127.toInt ((G.1 a 0).toInt) ((G.1 a 5).toInt) ((G.1 a 6).toInt) (flq (vw (G.2.1 (F p0 0))) ((G.1 a 0).toInt) ((G.1 a 2).toInt) ((G.1 a 3).toInt) ((G.1 a 5).toInt) ((G.1 a 6).toInt) (p1.toInt) (p2.toInt)) c4 z116 hb126 t127 c130)⟩ hh
      · refine lv_iconst (v := 1) hx hb dX7_fails_133 (by decide) ?_
        refine lv_goto (tgt := 138) hx hb dX7_fails_134 (by decide) ?_
        exact x_rz hx hb hr (xnz (Or.inr rfl)) hlk hQ (Nat.le_of_ble_eq_true rfl) (Nat.le_of_ble_eq_true rfl) hS dX7_fails_138 () ⟨_, rfl, (Or.inr rfl), (z_X7_fails_17 p2.toInt x118.toInt x126.toInt x127.toInt ((G.1 a 0).toInt) ((G.1 a 5).toInt) ((G.1 a 6).toInt) (flq (vw (G.2.1 (F p0 0))) ((G.1 a 0).toInt) ((G.1 a 2).toInt) ((G.1 a 3).toInt) ((G.1 a 5).toInt) ((G.1 a 6).toInt) (p1.toInt) (p2.toInt)) c4 z116 hb118 c120 hb126 t127 c130)⟩ hh
theorem v_X4_add_95_1 {K : Nat → Nat} {F : Nat → Nat → Nat} (a : Nat) (p0 : Nat) (G : XG) (p1 : Int32) (p2 : Int32) (p3 : Int32) (p4 : Int32)
    (ha : K a = 6)
    (hp0 : K p0 = 9)
    (s0 : 0 ≤ ((G.1 a 6).toInt) ∧ ((G.1 a 6).toInt) < 1080)
    (c4 : ((G.1 a 6).toInt) < 0) :
    qL G F a = qL G F a ++ [(((G.1 p0 1).toInt), p1.toInt, p2.toInt, p3.toInt, ((G.1 p0 9).toInt), p4.toInt)] := by
  first | (exfalso; omega) | skip
  all_goals (
    have e9 : (G.1 a 6).toNatClampNeg = (G.1 a 6).toInt.toNat := rfl
    refine qL_push (n := (G.1 a 6).toInt.toNat) (by omega) (by rw [d_G92_a_6, e91]; omega) ?_ ?_ ?_ ?_ ?_ ?_
    · intro j; rw [c_G92_F_a_0, cput_j hG29, e9]
    · intro j; rw [c_G92_F_a_1, cput_j hG39, c_G29_F_a_1, e9]
    · intro j; rw [c_G92_F_a_2, cput_j hG49, c_G39_F_a_2, e9]
    · intro j; rw [c_G92_F_a_3, cput_j hG60, c_G49_F_a_3, e9]
    · intro j; rw [c_G92_F_a_4, cput_j hG73, c_G60_F_a_4, e9]
    · intro j; rw [c_G92_F_a_5, cput_j hG84, c_G73_F_a_5, e9])
theorem v_X4_add_95_2 {K : Nat → Nat} {F : Nat → Nat → Nat} (a : Nat) (p0 : Nat) (G : XG) (p1 : Int32) (p2 : Int32) (p3 : Int32) (p4 : Int32)
    (ha : K a = 6)
    (hp0 : K p0 = 9)
    (s0 : 0 ≤ ((G.1 a 6).toInt) ∧ ((G.1 a 6).toInt) < 1080)
    (c4 : ¬ (((G.1 a 6).toInt) < 0))
    (c14 : (1080 : Int) ≤ ((G.1 a 6).toInt)) :
    qL G F a = qL G F a ++ [(((G.1 p0 1).toInt), p1.toInt, p2.toInt, p3.toInt, ((G.1 p0 9).toInt), p4.toInt)] := by
  first | (exfalso; omega) | skip
  all_goals (
    have e9 : (G.1 a 6).toNatClampNeg = (G.1 a 6).toInt.toNat := rfl
    refine qL_push (n := (G.1 a 6).toInt.toNat) (by omega) (by rw [d_G92_a_6, e91]; omega) ?_ ?_ ?_ ?_ ?_ ?_
    · intro j; rw [c_G92_F_a_0, cput_j hG29, e9]
    · intro j; rw [c_G92_F_a_1, cput_j hG39, c_G29_F_a_1, e9]
    · intro j; rw [c_G92_F_a_2, cput_j hG49, c_G39_F_a_2, e9]
    · intro j; rw [c_G92_F_a_3, cput_j hG60, c_G49_F_a_3, e9]
    · intro j; rw [c_G92_F_a_4, cput_j hG73, c_G60_F_a_4, e9]
    · intro j; rw [c_G92_F_a_5, cput_j hG84, c_G73_F_a_5, e9])
theorem v_X4_add_95_3 {K : Nat → Nat} {F : Nat → Nat → Nat} (a : Nat) (p0 : Nat) (G29 : XG) (G : XG) (G39 : XG) (p1 : Int32) (G49 : XG) (p2 : Int32) (G60 : XG) (p3 : Int32) (G73 : XG) (G84 : XG) (p4 : Int32) (G92 : XG) (x91 : Int32)
    (ha : K a = 6)
    (hp0 : K p0 = 9)
    (hG29 : G29 = cput G (F a 0) (G.1 a 6).toNatClampNeg (G.1 p0 1))
    (hG39 : G39 = cput G29 (F a 1) (G.1 a 6).toNatClampNeg p1)
    (hG49 : G49 = cput G39 (F a 2) (G.1 a 6).toNatClampNeg p2)
    (hG60 : G60 = cput G49 (F a 3) (G.1 a 6).toNatClampNeg p3)
    (hG73 : G73 = cput G60 (F a 4) (G.1 a 6).toNatClampNeg (G.1 p0 9))
    (hG84 : G84 = cput G73 (F a 5) (G.1 a 6).toNatClampNeg p4)
    (e91 : x91.toInt = (((G.1 a 6).toInt) + (1 : Int)))
    (s0 : 0 ≤ ((G.1 a 6).toInt) ∧ ((G.1 a 6).toInt) < 1080)
    (c4 : ¬ (((G.1 a 6).toInt) < 0))
    (c14 : ¬ ((1080 : Int) ≤ ((G.1 a 6).toInt)))
    (f25 : ((G.1 p0 9).toInt) = 0 ∨ ((G.1 p0 9).toInt) = 1)
    (c_G29_F_a_1 : G29.2.1 (F a 1) = G.2.1 (F a 1))
    (c_G39_F_a_2 : G39.2.1 (F a 2) = G.2.1 (F a 2))
    (c_G49_F_a_3 : G49.2.1 (F a 3) = G.2.1 (F a 3))
    (c_G60_F_a_4 : G60.2.1 (F a 4) = G.2.1 (F a 4))
    (c_G73_F_a_5 : G73.2.1 (F a 5) = G.2.1 (F a 5))
    (c_G92_F_a_0 : G92.2.1 (F a 0) = G29.2.1 (F a 0))
    (c_G92_F_a_1 : G92.2.1 (F a 1) = G39.2.1 (F a 1))
    (c_G92_F_a_2 : G92.2.1 (F a 2) = G49.2.1 (F a 2))
    (c_G92_F_a_3 : G92.2.1 (F a 3) = G60.2.1 (F a 3))
    (c_G92_F_a_4 : G92.2.1 (F a 4) = G73.2.1 (F a 4))
    (c_G92_F_a_5 : G92.2.1 (F a 5) = G84.2.1 (F a 5))
    (d_G92_a_6 : G92.1 a 6 = x91) :
    qL G92 F a = qL G F a ++ [(((G.1 p0 1).toInt), p1.toInt, p2.toInt, p3.toInt, ((G.1 p0 9).toInt), p4.toInt)] := by
  first | (exfalso; omega) | skip
  all_goals (
    have e9 : (G.1 a 6).toNatClampNeg = (G.1 a 6).toInt.toNat := rfl
    refine qL_push (n := (G.1 a 6).toInt.toNat) (by omega) (by rw [d_G92_a_6, e91]; omega) ?_ ?_ ?_ ?_ ?_ ?_
    · intro j; rw [c_G92_F_a_0, cput_j hG29, e9]
    · intro j; rw [c_G92_F_a_1, cput_j hG39, c_G29_F_a_1, e9]
    · intro j; rw [c_G92_F_a_2, cput_j hG49, c_G39_F_a_2, e9]
    · intro j; rw [c_G92_F_a_3, cput_j hG60, c_G49_F_a_3, e9]
    · intro j; rw [c_G92_F_a_4, cput_j hG73, c_G60_F_a_4, e9]
    · intro j; rw [c_G92_F_a_5, cput_j hG84, c_G73_F_a_5, e9])
theorem v_X4_take_125_1 {K : Nat → Nat} {F : Nat → Nat → Nat} (a : Nat) (p0 : Nat) (G : XG) (p1 : Int32)
    (ha : K a = 6)
    (hp0 : K p0 = 6)
    (hne : F a 99 ≠ F p0 99)
    (s0 : 0 ≤ ((G.1 a 6).toInt) ∧ ((G.1 a 6).toInt) < 1080)
    (s1 : 0 ≤ p1.toInt ∧ p1.toInt < ((G.1 p0 6).toInt) ∧ ((G.1 p0 6).toInt) ≤ 1080)
    (c4 : ((G.1 a 6).toInt) < 0) :
    qL G F a = qL G F a ++ [((aI (G.2.1 (F p0 0)) (p1.toInt)), (aI (G.2.1 (F p0 1)) (p1.toInt)), (aI (G.2.1 (F p0 2)) (p1.toInt)), (aI (G.2.1 (F p0 3)) (p1.toInt)), (aI (G.2.1 (F p0 4)) (p1.toInt)), (aI (G.2.1 (F p0 5)) (p1.toInt)))] := by
  first | (exfalso; omega) | skip
  all_goals (
    rw [← hv38, ← hv53, ← hv68, ← hv83, ← hv98, ← hv113]
    first | (exfalso; omega) | skip
    have e9 : (G.1 a 6).toNatClampNeg = (G.1 a 6).toInt.toNat := rfl
    refine qL_push (n := (G.1 a 6).toInt.toNat) (by omega) (by rw [d_G122_a_6, e121]; omega) ?_ ?_ ?_ ?_ ?_ ?_
    · intro j; rw [c_G122_F_a_0, cput_j hG39, e9]
    · intro j; rw [c_G122_F_a_1, cput_j hG54, c_G39_F_a_1, e9]
    · intro j; rw [c_G122_F_a_2, cput_j hG69, c_G54_F_a_2, e9]
    · intro j; rw [c_G122_F_a_3, cput_j hG84, c_G69_F_a_3, e9]
    · intro j; rw [c_G122_F_a_4, cput_j hG99, c_G84_F_a_4, e9]
    · intro j; rw [c_G122_F_a_5, cput_j hG114, c_G99_F_a_5, e9])
theorem v_X4_take_125_2 {K : Nat → Nat} {F : Nat → Nat → Nat} (a : Nat) (p0 : Nat) (G : XG) (p1 : Int32)
    (ha : K a = 6)
    (hp0 : K p0 = 6)
    (hne : F a 99 ≠ F p0 99)
    (s0 : 0 ≤ ((G.1 a 6).toInt) ∧ ((G.1 a 6).toInt) < 1080)
    (s1 : 0 ≤ p1.toInt ∧ p1.toInt < ((G.1 p0 6).toInt) ∧ ((G.1 p0 6).toInt) ≤ 1080)
    (c4 : ¬ (((G.1 a 6).toInt) < 0))
    (c14 : (1080 : Int) ≤ ((G.1 a 6).toInt)) :
    qL G F a = qL G F a ++ [((aI (G.2.1 (F p0 0)) (p1.toInt)), (aI (G.2.1 (F p0 1)) (p1.toInt)), (aI (G.2.1 (F p0 2)) (p1.toInt)), (aI (G.2.1 (F p0 3)) (p1.toInt)), (aI (G.2.1 (F p0 4)) (p1.toInt)), (aI (G.2.1 (F p0 5)) (p1.toInt)))] := by
  first | (exfalso; omega) | skip
  all_goals (
    rw [← hv38, ← hv53, ← hv68, ← hv83, ← hv98, ← hv113]
    first | (exfalso; omega) | skip
    have e9 : (G.1 a 6).toNatClampNeg = (G.1 a 6).toInt.toNat := rfl
    refine qL_push (n := (G.1 a 6).toInt.toNat) (by omega) (by rw [d_G122_a_6, e121]; omega) ?_ ?_ ?_ ?_ ?_ ?_
    · intro j; rw [c_G122_F_a_0, cput_j hG39, e9]
    · intro j; rw [c_G122_F_a_1, cput_j hG54, c_G39_F_a_1, e9]
    · intro j; rw [c_G122_F_a_2, cput_j hG69, c_G54_F_a_2, e9]
    · intro j; rw [c_G122_F_a_3, cput_j hG84, c_G69_F_a_3, e9]
    · intro j; rw [c_G122_F_a_4, cput_j hG99, c_G84_F_a_4, e9]
    · intro j; rw [c_G122_F_a_5, cput_j hG114, c_G99_F_a_5, e9])
theorem v_X4_take_125_3 {K : Nat → Nat} {F : Nat → Nat → Nat} (a : Nat) (p0 : Nat) (G : XG) (p1 : Int32) (x19 : Int32)
    (ha : K a = 6)
    (hp0 : K p0 = 6)
    (hne : F a 99 ≠ F p0 99)
    (s0 : 0 ≤ ((G.1 a 6).toInt) ∧ ((G.1 a 6).toInt) < 1080)
    (s1 : 0 ≤ p1.toInt ∧ p1.toInt < ((G.1 p0 6).toInt) ∧ ((G.1 p0 6).toInt) ≤ 1080)
    (c4 : ¬ (((G.1 a 6).toInt) < 0))
    (c14 : ¬ ((1080 : Int) ≤ ((G.1 a 6).toInt)))
    (t19 : ((0 ≤ p1.toInt ∧ p1.toInt < ((G.1 p0 6).toInt) ∧ p1.toInt < 1080) ∧ x19.toInt = 1) ∨ (¬ (0 ≤ p1.toInt ∧ p1.toInt < ((G.1 p0 6).toInt) ∧ p1.toInt < 1080) ∧ x19.toInt = 0))
    (c22 : x19.toInt = 0) :
    qL G F a = qL G F a ++ [((aI (G.2.1 (F p0 0)) (p1.toInt)), (aI (G.2.1 (F p0 1)) (p1.toInt)), (aI (G.2.1 (F p0 2)) (p1.toInt)), (aI (G.2.1 (F p0 3)) (p1.toInt)), (aI (G.2.1 (F p0 4)) (p1.toInt)), (aI (G.2.1 (F p0 5)) (p1.toInt)))] := by
  first | (exfalso; omega) | skip
  all_goals (
    rw [← hv38, ← hv53, ← hv68, ← hv83, ← hv98, ← hv113]
    first | (exfalso; omega) | skip
    have e9 : (G.1 a 6).toNatClampNeg = (G.1 a 6).toInt.toNat := rfl
    refine qL_push (n := (G.1 a 6).toInt.toNat) (by omega) (by rw [d_G122_a_6, e121]; omega) ?_ ?_ ?_ ?_ ?_ ?_
    · intro j; rw [c_G122_F_a_0, cput_j hG39, e9]
    · intro j; rw [c_G122_F_a_1, cput_j hG54, c_G39_F_a_1, e9]
    · intro j; rw [c_G122_F_a_2, cput_j hG69, c_G54_F_a_2, e9]
    · intro j; rw [c_G122_F_a_3, cput_j hG84, c_G69_F_a_3, e9]
    · intro j; rw [c_G122_F_a_4, cput_j hG99, c_G84_F_a_4, e9]
    · intro j; rw [c_G122_F_a_5, cput_j hG114, c_G99_F_a_5, e9])
theorem v_X4_take_125_4 {K : Nat → Nat} {F : Nat → Nat → Nat} (a : Nat) (p0 : Nat) (G39 : XG) (G : XG) (x38 : Int32) (G54 : XG) (x53 : Int32) (G69 : XG) (x68 : Int32) (G84 : XG) (x83 : Int32) (G99 : XG) (x98 : Int32) (G114 : XG) (x113 : Int32) (G122 : XG) (x121 : Int32) (p1 : Int32) (x19 : Int32)
    (ha : K a = 6)
    (hp0 : K p0 = 6)
    (hG39 : G39 = cput G (F a 0) (G.1 a 6).toNatClampNeg x38)
    (hG54 : G54 = cput G39 (F a 1) (G.1 a 6).toNatClampNeg x53)
    (hG69 : G69 = cput G54 (F a 2) (G.1 a 6).toNatClampNeg x68)
    (hG84 : G84 = cput G69 (F a 3) (G.1 a 6).toNatClampNeg x83)
    (hG99 : G99 = cput G84 (F a 4) (G.1 a 6).toNatClampNeg x98)
    (hG114 : G114 = cput G99 (F a 5) (G.1 a 6).toNatClampNeg x113)
    (hne : F a 99 ≠ F p0 99)
    (hv38 : x38.toInt = (aI (G.2.1 (F p0 0)) (p1.toInt)))
    (hv53 : x53.toInt = (aI (G.2.1 (F p0 1)) (p1.toInt)))
    (hv68 : x68.toInt = (aI (G.2.1 (F p0 2)) (p1.toInt)))
    (hv83 : x83.toInt = (aI (G.2.1 (F p0 3)) (p1.toInt)))
    (hv98 : x98.toInt = (aI (G.2.1 (F p0 4)) (p1.toInt)))
    (hv113 : x113.toInt = (aI (G.2.1 (F p0 5)) (p1.toInt)))
    (e121 : x121.toInt = (((G.1 a 6).toInt) + (1 : Int)))
    (s0 : 0 ≤ ((G.1 a 6).toInt) ∧ ((G.1 a 6).toInt) < 1080)
    (s1 : 0 ≤ p1.toInt ∧ p1.toInt < ((G.1 p0 6).toInt) ∧ ((G.1 p0 6).toInt) ≤ 1080)
    (c4 : ¬ (((G.1 a 6).toInt) < 0))
    (c14 : ¬ ((1080 : Int) ≤ ((G.1 a 6).toInt)))
    (t19 : ((0 ≤ p1.toInt ∧ p1.toInt < ((G.1 p0 6).toInt) ∧ p1.toInt < 1080) ∧ x19.toInt = 1) ∨ (¬ (0 ≤ p1.toInt ∧ p1.toInt < ((G.1 p0 6).toInt) ∧ p1.toInt < 1080) ∧ x19.toInt = 0))
    (c22 : ¬ (x19.toInt = 0))
    (f47 : (aI (G.2.1 (F p0 4)) (p1.toInt)) = 0 ∨ (aI (G.2.1 (F p0 4)) (p1.toInt)) = 1)
    (f48 : (aI (G.2.1 (F p0 5)) (p1.toInt)) = 0 ∨ (aI (G.2.1 (F p0 5)) (p1.toInt)) = 1)
    (c_G122_F_a_0 : G122.2.1 (F a 0) = G39.2.1 (F a 0))
    (c_G122_F_a_1 : G122.2.1 (F a 1) = G54.2.1 (F a 1))
    (c_G122_F_a_2 : G122.2.1 (F a 2) = G69.2.1 (F a 2))
    (c_G122_F_a_3 : G122.2.1 (F a 3) = G84.2.1 (F a 3))
    (c_G122_F_a_4 : G122.2.1 (F a 4) = G99.2.1 (F a 4))
    (c_G122_F_a_5 : G122.2.1 (F a 5) = G114.2.1 (F a 5))
    (c_G39_F_a_1 : G39.2.1 (F a 1) = G.2.1 (F a 1))
    (c_G54_F_a_2 : G54.2.1 (F a 2) = G.2.1 (F a 2))
    (c_G69_F_a_3 : G69.2.1 (F a 3) = G.2.1 (F a 3))
    (c_G84_F_a_4 : G84.2.1 (F a 4) = G.2.1 (F a 4))
    (c_G99_F_a_5 : G99.2.1 (F a 5) = G.2.1 (F a 5))
    (d_G122_a_6 : G122.1 a 6 = x121) :
    qL G122 F a = qL G F a ++ [((aI (G.2.1 (F p0 0)) (p1.toInt)), (aI (G.2.1 (F p0 1)) (p1.toInt)), (aI (G.2.1 (F p0 2)) (p1.toInt)), (aI (G.2.1 (F p0 3)) (p1.toInt)), (aI (G.2.1 (F p0 4)) (p1.toInt)), (aI (G.2.1 (F p0 5)) (p1.toInt)))] := by
  first | (exfalso; omega) | skip
  all_goals (
    rw [← hv38, ← hv53, ← hv68, ← hv83, ← hv98, ← hv113]
    first | (exfalso; omega) | skip
    have e9 : (G.1 a 6).toNatClampNeg = (G.1 a 6).toInt.toNat := rfl
    refine qL_push (n := (G.1 a 6).toInt.toNat) (by omega) (by rw [d_G122_a_6, e121]; omega) ?_ ?_ ?_ ?_ ?_ ?_
    · intro j; rw [c_G122_F_a_0, cput_j hG39, e9]
    · intro j; rw [c_G122_F_a_1, cput_j hG54, c_G39_F_a_1, e9]
    · intro j; rw [c_G122_F_a_2, cput_j hG69, c_G54_F_a_2, e9]
    · intro j; rw [c_G122_F_a_3, cput_j hG84, c_G69_F_a_3, e9]
    · intro j; rw [c_G122_F_a_4, cput_j hG99, c_G84_F_a_4, e9]
    · intro j; rw [c_G122_F_a_5, cput_j hG114, c_G99_F_a_5, e9])
theorem v_X4_firstFailing_27_1 {K : Nat → Nat} {F : Nat → Nat → Nat} (a : Nat) (l1_2 : Int32) (G : XG) (N2 : Nat)
    (ha : K a = 6)
    (pf : ∀ j : Int, 0 ≤ j → j < l1_2.toInt → aI (G.2.1 (F a 5)) j = 0)
    (s0 : 0 ≤ ((G.1 a 6).toInt) ∧ ((G.1 a 6).toInt) ≤ 1080)
    (I2_0 : 0 ≤ l1_2.toInt ∧ l1_2.toInt ≤ ((G.1 a 6).toInt))
    (I2_1 : (0 : Int) ≤ l1_2.toInt)
    (hm2 : 2147483648 - l1_2.toInt < (((N2) + 1 : Nat) : Int))
    (c7 : ((G.1 a 6).toInt) ≤ l1_2.toInt) :
    ∀ j : Int, 0 ≤ j → j < ((G.1 a 6).toInt) → ((-1 : Int) = -1 ∨ j < (-1 : Int)) → aI (G.2.1 (F a 5)) j = 0 := by
  intro j h1 h2 h3; exact pf j h1 (by omega)
theorem v_X4_firstFailing_23_2 {K : Nat → Nat} {F : Nat → Nat → Nat} (a : Nat) (l1_2 : Int32) (G : XG) (N2 : Nat) (x12 : Int32)
    (ha : K a = 6)
    (pf : ∀ j : Int, 0 ≤ j → j < l1_2.toInt → aI (G.2.1 (F a 5)) j = 0)
    (s0 : 0 ≤ ((G.1 a 6).toInt) ∧ ((G.1 a 6).toInt) ≤ 1080)
    (I2_0 : 0 ≤ l1_2.toInt ∧ l1_2.toInt ≤ ((G.1 a 6).toInt))
    (I2_1 : (0 : Int) ≤ l1_2.toInt)
    (hm2 : 2147483648 - l1_2.toInt < (((N2) + 1 : Nat) : Int))
    (c7 : ¬ (((G.1 a 6).toInt) ≤ l1_2.toInt))
    (t12 : ((0 ≤ l1_2.toInt ∧ l1_2.toInt < ((G.1 a 6).toInt) ∧ l1_2.toInt < 1080) ∧ x12.toInt = (aI (G.2.1 (F a 5)) (l1_2.toInt))) ∨ (¬ (0 ≤ l1_2.toInt ∧ l1_2.toInt < ((G.1 a 6).toInt) ∧ l1_2.toInt < 1080) ∧ x12.toInt = 0))
    (f11 : x12.toInt = 0 ∨ x12.toInt = 1)
    (c15 : x12.toInt = 0) :
    ∀ j : Int, 0 ≤ j → j < (l1_2.toInt + 1) → aI (G.2.1 (F a 5)) j = 0 := by
  intro j h1 h2
  by_cases e : j = l1_2.toInt
  · subst e; omega
  · exact pf j h1 (by omega)
theorem v_X4_firstFailing_19_3 {K : Nat → Nat} {F : Nat → Nat → Nat} (a : Nat) (l1_2 : Int32) (G : XG) (N2 : Nat) (x12 : Int32)
    (ha : K a = 6)
    (pf : ∀ j : Int, 0 ≤ j → j < l1_2.toInt → aI (G.2.1 (F a 5)) j = 0)
    (s0 : 0 ≤ ((G.1 a 6).toInt) ∧ ((G.1 a 6).toInt) ≤ 1080)
    (I2_0 : 0 ≤ l1_2.toInt ∧ l1_2.toInt ≤ ((G.1 a 6).toInt))
    (I2_1 : (0 : Int) ≤ l1_2.toInt)
    (hm2 : 2147483648 - l1_2.toInt < (((N2) + 1 : Nat) : Int))
    (c7 : ¬ (((G.1 a 6).toInt) ≤ l1_2.toInt))
    (t12 : ((0 ≤ l1_2.toInt ∧ l1_2.toInt < ((G.1 a 6).toInt) ∧ l1_2.toInt < 1080) ∧ x12.toInt = (aI (G.2.1 (F a 5)) (l1_2.toInt))) ∨ (¬ (0 ≤ l1_2.toInt ∧ l1_2.toInt < ((G.1 a 6).toInt) ∧ l1_2.toInt < 1080) ∧ x12.toInt = 0))
    (f10 : x12.toInt = 0 ∨ x12.toInt = 1)
    (c15 : ¬ (x12.toInt = 0)) :
    ∀ j : Int, 0 ≤ j → j < ((G.1 a 6).toInt) → (l1_2.toInt = -1 ∨ j < l1_2.toInt) → aI (G.2.1 (F a 5)) j = 0 := by
  intro j h1 h2 h3; exact pf j h1 (by omega)
theorem v_X4_firstFailing_1_4 {K : Nat → Nat} {F : Nat → Nat → Nat} (a : Nat) (G : XG)
    (ha : K a = 6)
    (s0 : 0 ≤ ((G.1 a 6).toInt) ∧ ((G.1 a 6).toInt) ≤ 1080) :
    ∀ j : Int, 0 ≤ j → j < (0 : Int) → aI (G.2.1 (F a 5)) j = 0 := by
  intro j h1 h2; exact absurd h1 (by omega)
theorem z_X4_size_1 (a0 : Int) : a0 = a0 := by omega
abbrev rm_X4_size : Room := { frames := 0, cells := 0, slots := 0, locals := 0 }
set_option maxHeartbeats 4000000 in
set_option maxRecDepth 100000 in
theorem c_X4_size (l : Launch) (E : XE) (K : Nat → Nat) (F : Nat → Nat → Nat) (G : XG) (h0 : Heap) (a : Nat) (ha : K a = 6) : Met l yX4_size (xw yX4_size cX4_size 1 (some .int)) rm_X4_size (va_Pc [.ref a] (XPh E K F G h0)) (XQ E (fun v (u : Unit) => ∃ r : Int32, v = .int r ∧ (r.toInt = ((G.1 a 6).toInt))) (fun _ H => H = h0)) 0 0 (xA E) := by
  refine x_enter (by decide) (Nat.le_of_ble_eq_true rfl) ?_
  intro p e s m args below meth c Q S hr hlk hnm hQ hP ls hl
  obtain ⟨⟨hz, hK, hT⟩, hh⟩ := hP
  obtain ⟨hx, hb, -, -, -⟩ := id S
  have hS : va_S (xA E) s.heap s.heap [] := va_S.rf
  have hl : lv_has ls 1 [(0, .ref a)] := hl
  refine lv_aload_n hx hb dX4_size_0 rfl (lv_at hl 0 rfl) ?_
  refine gX4_6 S hK hT ha kf_X4_33 dX4_size_1 (v := (G.1 a 6)) rfl (?_)
  exact x_ri hx hb hr hlk hQ (Nat.le_of_ble_eq_true rfl) (Nat.le_of_ble_eq_true rfl) hS dX4_size_4 () ⟨_, rfl, (z_X4_size_1 ((G.1 a 6).toInt))⟩ hh

abbrev rm_X4_clear : Room := { frames := 0, cells := 0, slots := 0, locals := 0 }
set_option maxHeartbeats 4000000 in
set_option maxRecDepth 100000 in
theorem c_X4_clear (l : Launch) (E : XE) (K : Nat → Nat) (F : Nat → Nat → Nat) (G : XG) (a : Nat) (ha : K a = 6) : Met l yX4_clear (xw yX4_clear cX4_clear 1 none) rm_X4_clear (va_Pc [.ref a] (XP E K F G)) (XQv E (fun (u : XG) => XFr [(a, 6)] [] [] G u ∧ (((u.1 a 6).toInt) = 0)) (fun u H => TW E K F u H)) 0 0 (xA E) := by
  refine x_enter (by decide) (Nat.le_of_ble_eq_true rfl) ?_
  intro p e s m args below meth c Q S hr hlk hnm hQ hP ls hl
  obtain ⟨hz, hK, hT⟩ := hP
  obtain ⟨hx, hb, -, -, -⟩ := id S
  obtain ⟨H, hT, hS, hgo⟩ : ∃ H : Heap, TW E K F G H ∧ va_S (xA E) s.heap H [] ∧ H = s.heap := ⟨_, hT, va_S.rf, rfl⟩
  rw [← hgo]
  have hl : lv_has ls 1 [(0, .ref a)] := hl
  refine lv_aload_n hx hb dX4_clear_0 rfl (lv_at hl 0 rfl) ?_
  refine lv_iconst (v := 0) hx hb dX4_clear_1 (by decide) ?_
  refine pX4_6 (v := 0) S hK hT hS ha kf_X4_33 dX4_clear_2 (fun H locs hT hS => ?_)
  obtain ⟨G2, hG2⟩ : ∃ G9 : XG, G9 = dput G a 6 0 := ⟨_, rfl⟩
  rw [← hG2] at hT
  exact x_rv hx hb hr hlk hQ (Nat.le_of_ble_eq_true rfl) (Nat.le_of_ble_eq_true rfl) hS dX4_clear_5 G2 ⟨(by rw [hG2]; exact XFr.dput XFr.rf (List.mem_of_getElem? (i := 0) rfl)), (by rw [(show (G2.1 a 6).toInt = (0 : Int) from (congrArg Int32.toInt (ld_at hG2)).trans ((by decide) : Int32.toInt 0 = (0 : Int)))] <;> exact (by decide))⟩ hT

theorem z_X4_isInside_1 (a0 : Int) (a1 : Int) (h0 : a0 < 0) : ((0 ≤ a0 ∧ a0 < a1 ∧ a0 < 1080) ∧ (0 : Int) = 1) ∨ (¬ (0 ≤ a0 ∧ a0 < a1 ∧ a0 < 1080) ∧ (0 : Int) = 0) := by omega
theorem z_X4_isInside_2 (a0 : Int) (a1 : Int) (h0 : a1 ≤ a0) : ((0 ≤ a0 ∧ a0 < a1 ∧ a0 < 1080) ∧ (0 : Int) = 1) ∨ (¬ (0 ≤ a0 ∧ a0 < a1 ∧ a0 < 1080) ∧ (0 : Int) = 0) := by omega
theorem z_X4_isInside_3 (a0 : Int) (a1 : Int) (h0 : (1080 : Int) ≤ a0) : ((0 ≤ a0 ∧ a0 < a1 ∧ a0 < 1080) ∧ (0 : Int) = 1) ∨ (¬ (0 ≤ a0 ∧ a0 < a1 ∧ a0 < 1080) ∧ (0 : Int) = 0) := by omega
theorem z_X4_isInside_4 (a0 : Int) (a1 : Int) (h0 : ¬ (a0 < 0)) (h1 : ¬ (a1 ≤ a0)) (h2 : ¬ ((1080 : Int) ≤ a0)) : ((0 ≤ a0 ∧ a0 < a1 ∧ a0 < 1080) ∧ (1 : Int) = 1) ∨ (¬ (0 ≤ a0 ∧ a0 < a1 ∧ a0 < 1080) ∧ (1 : Int) = 0) := by omega
abbrev rm_X4_isInside : Room := { frames := 0, cells := 0, slots := 0, locals := 0 }
set_option maxHeartbeats 4000000 in
set_option maxRecDepth 100000 in
theorem c_X4_isInside (l : Launch) (E : XE) (K : Nat → Nat) (F : Nat → Nat → Nat) (G : XG) (h0 : Heap) (a : Nat) (p0 : Int32) (ha : K a = 6) : Met l yX4_isInside (xw yX4_isInside cX4_isInside 2 (some .boolean)) rm_X4_isInside (va_Pc [.ref a, .int p0] (XPh E K F G h0)) (XQ E (fun v (u : Unit) => ∃ r : Int32, v = .int r ∧ (r = 0 ∨ r = 1) ∧ (((0 ≤ p0.toInt ∧ p0.toInt < ((G.1 a 6).toInt) ∧ p0.toInt < 1080) ∧ r.toInt = 1) ∨ (¬ (0 ≤ p0.toInt ∧ p0.toInt < ((G.1 a 6).toInt) ∧ p0.toInt < 1080) ∧ r.toInt = 0))) (fun _ H => H = h0)) 0 0 (xA E) := by
  refine x_enter (by decide) (Nat.le_of_ble_eq_true rfl) ?_
  intro p e s m args below meth c Q S hr hlk hnm hQ hP ls hl
  obtain ⟨⟨hz, hK, hT⟩, hh⟩ := hP
  obtain ⟨hx, hb, -, -, -⟩ := id S
  have hS : va_S (xA E) s.heap s.heap [] := va_S.rf
  have hl : lv_has ls 2 [(0, .ref a), (1, .int p0)] := hl
  refine lv_iload_n hx hb dX4_isInside_0 rfl (lv_at hl 1 rfl) ?_
  refine xi_zlt (tgt := 23) hx hb (rfl : Int32.toInt p0 = p0.toInt) dX4_isInside_1 (by decide) (fun c1 => ?_) (fun c1 => ?_)
  · refine lv_iconst (v := 0) hx hb dX4_isInside_23 (by decide) ?_
    exact x_rz hx hb hr (xnz (Or.inl rfl)) hlk hQ (Nat.le_of_ble_eq_true rfl) (Nat.le_of_ble_eq_true rfl) hS dX4_isInside_24 () ⟨_, rfl, (Or.inl rfl), (z_X4_isInside_1 p0.toInt ((G.1 a 6).toInt) c1)⟩ hh
  · refine lv_iload_n hx hb dX4_isInside_4 rfl (lv_at hl 1 rfl) ?_
    refine lv_aload_n hx hb dX4_isInside_5 rfl (lv_at hl 0 rfl) ?_
    refine gX4_6 S hK hT ha kf_X4_33 dX4_isInside_6 (v := (G.1 a 6)) rfl (?_)
    refine xi_cge (tgt := 23) hx hb (rfl : Int32.toInt p0 = p0.toInt) (rfl : Int32.toInt (G.1 a 6) = ((G.1 a 6).toInt)) dX4_isInside_9 (by decide) (fun c9 => ?_) (fun c9 => ?_)
    · refine lv_iconst (v := 0) hx hb dX4_isInside_23 (by decide) ?_
      exact x_rz hx hb hr (xnz (Or.inl rfl)) hlk hQ (Nat.le_of_ble_eq_true rfl) (Nat.le_of_ble_eq_true rfl) hS dX4_isInside_24 () ⟨_, rfl, (Or.inl rfl), (z_X4_isInside_2 p0.toInt ((G.1 a 6).toInt) c9)⟩ hh
    · refine lv_iload_n hx hb dX4_isInside_12 rfl (lv_at hl 1 rfl) ?_
      refine lv_sipush (v := 1080) hx hb dX4_isInside_13 (by decide) ?_
      refine xi_cge (tgt := 23) hx hb (rfl : Int32.toInt p0 = p0.toInt) ((by decide) : Int32.toInt 1080 = (1080 : Int)) dX4_isInside_16 (by decide) (fun c16 => ?_) (fun c16 => ?_)
      · refine lv_iconst (v := 0) hx hb dX4_isInside_23 (by decide) ?_
        exact x_rz hx hb hr (xnz (Or.inl rfl)) hlk hQ (Nat.le_of_ble_eq_true rfl) (Nat.le_of_ble_eq_true rfl) hS dX4_isInside_24 () ⟨_, rfl, (Or.inl rfl), (z_X4_isInside_3 p0.toInt ((G.1 a 6).toInt) c16)⟩ hh
      · refine lv_iconst (v := 1) hx hb dX4_isInside_19 (by decide) ?_
        refine lv_goto (tgt := 24) hx hb dX4_isInside_20 (by decide) ?_
        exact x_rz hx hb hr (xnz (Or.inr rfl)) hlk hQ (Nat.le_of_ble_eq_true rfl) (Nat.le_of_ble_eq_true rfl) hS dX4_isInside_24 () ⟨_, rfl, (Or.inr rfl), (z_X4_isInside_4 p0.toInt ((G.1 a 6).toInt) c1 c9 c16)⟩ hh

theorem z_X4_add_1 (a0 : Int) (h0 : 0 ≤ a0 ∧ a0 < 1080) (h1 : a0 < 0) : a0 = a0 + 1 := by omega
theorem z_X4_add_2 (a0 : Int) (h0 : 0 ≤ a0 ∧ a0 < 1080) (h1 : (1080 : Int) ≤ a0) : a0 = a0 + 1 := by omega
theorem z_X4_add_3 (a0 : Int) (h0 : 0 ≤ a0 ∧ a0 < 1080) : 0 ≤ a0 ∧ a0 < ((1080 : Nat) : Int) := by omega
theorem z_X4_add_9 (a0 : Int) (a1 : Int) (h0 : 0 ≤ a1 ∧ a1 < 1080) (h1 : a0 = (a1 + (1 : Int)) ∨ (a1 + (1 : Int)) < -2147483648 ∨ 2147483648 ≤ (a1 + (1 : Int))) : a0 = (a1 + (1 : Int)) := by omega
theorem z_X4_add_10 (a0 : Int) : (a0 + (1 : Int)) = a0 + 1 := by omega
abbrev rm_X4_add : Room := { frames := 0, cells := 0, slots := 0, locals := 0 }
set_option maxHeartbeats 4000000 in
set_option maxRecDepth 100000 in
theorem c_X4_add (l : Launch) (E : XE) (K : Nat → Nat) (F : Nat → Nat → Nat) (G : XG) (a : Nat) (p0 : Nat) (p1 : Int32) (p2 : Int32) (p3 : Int32) (p4 : Int32) (ha : K a = 6) (hp0 : K p0 = 9) (b4 : p4 = 0 ∨ p4 = 1) (s0 : 0 ≤ ((G.1 a 6).toInt) ∧ ((G.1 a 6).toInt) < 1080) : Met l yX4_add (xw yX4_add cX4_add 6 none) rm_X4_add (va_Pc [.ref a, .ref p0, .int p1, .int p2, .int p3, .int p4] (XP E K F G)) (XQv E (fun (u : XG) => XFr [(a, 6)] [F a 0, F a 1, F a 2, F a 3, F a 4, F a 5] [] G u ∧ (((u.1 a 6).toInt) = ((G.1 a 6).toInt) + 1) ∧ (qL u F a = qL G F a ++ [(((G.1 p0 1).toInt), p1.toInt, p2.toInt, p3.toInt, ((G.1 p0 9).toInt), p4.toInt)])) (fun u H => TW E K F u H)) 0 0 (xA E) := by
  refine x_enter (by decide) (Nat.le_of_ble_eq_true rfl) ?_
  intro p e s m args below meth c Q S hr hlk hnm hQ hP ls hl
  obtain ⟨hz, hK, hT⟩ := hP
  obtain ⟨hx, hb, -, -, -⟩ := id S
  obtain ⟨H, hT, hS, hgo⟩ : ∃ H : Heap, TW E K F G H ∧ va_S (xA E) s.heap H [] ∧ H = s.heap := ⟨_, hT, va_S.rf, rfl⟩
  rw [← hgo]
  have hl : lv_has ls 6 [(0, .ref a), (1, .ref p0), (2, .int p1), (3, .int p2), (4, .int p3), (5, .int p4)] := hl
  obtain ⟨hk9999, hj9999⟩ := fkX4_0 hT ha
  obtain ⟨hk9999a, hj9999a⟩ := fkX4_1 hT ha
  obtain ⟨hk9999b, hj9999b⟩ := fkX4_2 hT ha
  obtain ⟨hk9999c, hj9999c⟩ := fkX4_3 hT ha
  obtain ⟨hk9999d, hj9999d⟩ := fkX4_4 hT ha
  obtain ⟨hk9999e, hj9999e⟩ := fkX4_5 hT ha
  refine lv_aload_n hx hb dX4_add_0 rfl (lv_at hl 0 rfl) ?_
  refine gX4_6 S hK hT ha kf_X4_33 dX4_add_1 (v := (G.1 a 6)) rfl (?_)
  refine xi_zlt (tgt := 95) hx hb (rfl : Int32.toInt (G.1 a 6) = ((G.1 a 6).toInt)) dX4_add_4 (by decide) (fun c4 => ?_) (fun c4 => ?_)
  · exact x_rv hx hb hr hlk hQ (Nat.le_of_ble_eq_true rfl) (Nat.le_of_ble_eq_true rfl) hS dX4_add_95 G ⟨XFr.rf, (z_X4_add_1 ((G.1 a 6).toInt) s0 c4), (v_X4_add_95_1 a p0 G p1 p2 p3 p4 ha hp0 s0 c4)⟩ hT
  · refine lv_aload_n hx hb dX4_add_7 rfl (lv_at hl 0 rfl) ?_
    refine gX4_6 S hK hT ha kf_X4_33 dX4_add_8 (v := (G.1 a 6)) rfl (?_)
    refine lv_sipush (v := 1080) hx hb dX4_add_11 (by decide) ?_
    refine xi_cge (tgt := 95) hx hb (rfl : Int32.toInt (G.1 a 6) = ((G.1 a 6).toInt)) ((by decide) : Int32.toInt 1080 = (1080 : Int)) dX4_add_14 (by decide) (fun c14 => ?_) (fun c14 => ?_)
    · exact x_rv hx hb hr hlk hQ (Nat.le_of_ble_eq_true rfl) (Nat.le_of_ble_eq_true rfl) hS dX4_add_95 G ⟨XFr.rf, (z_X4_add_2 ((G.1 a 6).toInt) s0 c14), (v_X4_add_95_2 a p0 G p1 p2 p3 p4 ha hp0 s0 c4 c14)⟩ hT
    · refine lv_aload_n hx hb dX4_add_17 rfl (lv_at hl 0 rfl) ?_
      refine gX4_0 S hK hT ha kf_X4_13 dX4_add_18 (fun _ _ => ?_)
      refine lv_aload_n hx hb dX4_add_21 rfl (lv_at hl 0 rfl) ?_
      refine gX4_6 S hK hT ha kf_X4_33 dX4_add_22 (v := (G.1 a 6)) rfl (?_)
      refine lv_aload_n hx hb dX4_add_25 rfl (lv_at hl 1 rfl) ?_
      refine gX7_1 S hK hT hp0 kf_X4_37 dX4_add_26 (v := (G.1 p0 1)) rfl (?_)
      refine as_0 (x := (G.1 p0 1)) S hK hT hS hk9999 ar_22 aw_22 (by decide) (z_X4_add_3 ((G.1 a 6).toInt) s0) dX4_add_29 (fun H locs hT hS => ?_)
      obtain ⟨G29, hG29⟩ : ∃ G9 : XG, G9 = cput G (F a 0) (G.1 a 6).toNatClampNeg (G.1 p0 1) := ⟨_, rfl⟩
      rw [← hG29] at hT
      refine lv_aload_n hx hb dX4_add_30 rfl (lv_at hl 0 rfl) ?_
      refine gX4_1 S hK hT ha kf_X4_17 dX4_add_31 (fun _ _ => ?_)
      refine lv_aload_n hx hb dX4_add_34 rfl (lv_at hl 0 rfl) ?_
      refine gX4_6 S hK hT ha kf_X4_33 dX4_add_35 (v := (G.1 a 6)) (lc_d hG29) (?_)
      refine lv_iload_n hx hb dX4_add_38 rfl (lv_at hl 2 rfl) ?_
      refine as_0 (x := p1) S hK hT hS hk9999a ar_22 aw_22 (by decide) (z_X4_add_3 ((G.1 a 6).toInt) s0) dX4_add_39 (fun H locs hT hS => ?_)
      obtain ⟨G39, hG39⟩ : ∃ G9 : XG, G9 = cput G29 (F a 1) (G.1 a 6).toNatClampNeg p1 := ⟨_, rfl⟩
      rw [← hG39] at hT
      refine lv_aload_n hx hb dX4_add_40 rfl (lv_at hl 0 rfl) ?_
      refine gX4_2 S hK hT ha kf_X4_20 dX4_add_41 (fun _ _ => ?_)
      refine lv_aload_n hx hb dX4_add_44 rfl (lv_at hl 0 rfl) ?_
      refine gX4_6 S hK hT ha kf_X4_33 dX4_add_45 (v := (G.1 a 6)) ((lc_d hG39).trans (lc_d hG29)) (?_)
      refine lv_iload_n hx hb dX4_add_48 rfl (lv_at hl 3 rfl) ?_
      refine as_0 (x := p2) S hK hT hS hk9999b ar_22 aw_22 (by decide) (z_X4_add_3 ((G.1 a 6).toInt) s0) dX4_add_49 (fun H locs hT hS => ?_)
      obtain ⟨G49, hG49⟩ : ∃ G9 : XG, G9 = cput G39 (F a 2) (G.1 a 6).toNatClampNeg p2 := ⟨_, rfl⟩
      rw [← hG49] at hT
      refine lv_aload_n hx hb dX4_add_50 rfl (lv_at hl 0 rfl) ?_
      refine gX4_3 S hK hT ha kf_X4_23 dX4_add_51 (fun _ _ => ?_)
      refine lv_aload_n hx hb dX4_add_54 rfl (lv_at hl 0 rfl) ?_
      refine gX4_6 S hK hT ha kf_X4_33 dX4_add_55 (v := (G.1 a 6)) ((lc_d hG49).trans ((lc_d hG39).trans (lc_d hG29))) (?_)
      refine lv_iload hx hb dX4_add_58 (lv_at hl 4 rfl) ?_
      refine as_0 (x := p3) S hK hT hS hk9999c ar_22 aw_22 (by decide) (z_X4_add_3 ((G.1 a 6).toInt) s0) dX4_add_60 (fun H locs hT hS => ?_)
      obtain ⟨G60, hG60⟩ : ∃ G9 : XG, G9 = cput G49 (F a 3) (G.1 a 6).toNatClampNeg p3 := ⟨_, rfl⟩
      rw [← hG60] at hT
      refine lv_aload_n hx hb dX4_add_61 rfl (lv_at hl 0 rfl) ?_
      refine gX4_4 S hK hT ha kf_X4_26 dX4_add_62 (fun _ _ => ?_)
      refine lv_aload_n hx hb dX4_add_65 rfl (lv_at hl 0 rfl) ?_
      refine gX4_6 S hK hT ha kf_X4_33 dX4_add_66 (v := (G.1 a 6)) ((lc_d hG60).trans ((lc_d hG49).trans ((lc_d hG39).trans (lc_d hG29)))) (?_)
      refine lv_aload_n hx hb dX4_add_69 rfl (lv_at hl 1 rfl) ?_
      refine gX7_9 S hK hT hp0 kf_X4_42 dX4_add_70 (v := (G.1 p0 9)) ((lc_d hG60).trans ((lc_d hG49).trans ((lc_d hG39).trans (lc_d hG29)))) (fun hz70 => ?_)
      refine as_3 (x := (G.1 p0 9)) S hK hT hS hk9999d ar_23 aw_23 (by decide) (z_X4_add_3 ((G.1 a 6).toInt) s0) dX4_add_73 (fun H locs hT hS => ?_)
      rw [(xnar3 hz70)] at hT
      obtain ⟨G73, hG73⟩ : ∃ G9 : XG, G9 = cput G60 (F a 4) (G.1 a 6).toNatClampNeg (G.1 p0 9) := ⟨_, rfl⟩
      rw [← hG73] at hT
      refine lv_aload_n hx hb dX4_add_74 rfl (lv_at hl 0 rfl) ?_
      refine gX4_5 S hK hT ha kf_X4_30 dX4_add_75 (fun _ _ => ?_)
      refine lv_aload_n hx hb dX4_add_78 rfl (lv_at hl 0 rfl) ?_
      refine gX4_6 S hK hT ha kf_X4_33 dX4_add_79 (v := (G.1 a 6)) ((lc_d hG73).trans ((lc_d hG60).trans ((lc_d hG49).trans ((lc_d hG39).trans (lc_d hG29))))) (?_)
      refine lv_iload hx hb dX4_add_82 (lv_at hl 5 rfl) ?_
      refine as_3 (x := p4) S hK hT hS hk9999e ar_23 aw_23 (by decide) (z_X4_add_3 ((G.1 a 6).toInt) s0) dX4_add_84 (fun H locs hT hS => ?_)
      rw [(xnar3 b4)] at hT
      obtain ⟨G84, hG84⟩ : ∃ G9 : XG, G9 = cput G73 (F a 5) (G.1 a 6).toNatClampNeg p4 := ⟨_, rfl⟩
      rw [← hG84] at hT
      refine lv_aload_n hx hb dX4_add_85 rfl (lv_at hl 0 rfl) ?_
      refine lv_dup hx hb dX4_add_86 rfl ?_
      refine gX4_6 S hK hT ha kf_X4_33 dX4_add_87 (v := (G.1 a 6)) ((lc_d hG84).trans ((lc_d hG73).trans ((lc_d hG60).trans ((lc_d hG49).trans ((lc_d hG39).trans (lc_d hG29)))))) (?_)
      refine lv_iconst (v := 1) hx hb dX4_add_90 (by decide) ?_
      refine xi_iadd hx hb (rfl : Int32.toInt (G.1 a 6) = ((G.1 a 6).toInt)) ((by decide) : Int32.toInt 1 = (1 : Int)) dX4_add_91 (fun x91 t91 => ?_)
      have e91 : x91.toInt = (((G.1 a 6).toInt) + (1 : Int)) := (z_X4_add_9 x91.toInt ((G.1 a 6).toInt) s0 t91)
      refine pX4_6 (v := x91) S hK hT hS ha kf_X4_33 dX4_add_92 (fun H locs hT hS => ?_)
      obtain ⟨G92, hG92⟩ : ∃ G9 : XG, G9 = dput G84 a 6 x91 := ⟨_, rfl⟩
      rw [← hG92] at hT
      exact x_rv hx hb hr hlk hQ (Nat.le_of_ble_eq_true rfl) (Nat.le_of_ble_eq_true rfl) hS dX4_add_95 G92 ⟨(by rw [hG92]; exact XFr.dput (by rw [hG84]; exact XFr.cput (by rw [hG73]; exact XFr.cput (by rw [hG60]; exact XFr.cput (by rw [hG49]; exact XFr.cput (by rw [hG39]; exact XFr.cput (by rw [hG29]; exact XFr.cput XFr.rf (List.mem_of_getElem? (i := 0) rfl)) (List.mem_of_getElem? (i := 1) rfl)) (List.mem_of_getElem? (i := 2) rfl)) (List.mem_of_getElem? (i := 3) rfl)) (List.mem_of_getElem? (i := 4) rfl)) (List.mem_of_getElem? (i := 5) rfl)) (List.mem_of_getElem? (i := 0) rfl)), (by rw [(show (G92.1 a 6).toInt = (((G.1 a 6).toInt) + (1 : Int)) from (congrArg Int32.toInt (ld_at hG92)).trans (e91 : Int32.toInt x91 = (((G.1 a 6).toInt) + (1 : Int))))] <;> exact (z_X4_add_10 ((G.1 a 6).toInt))), (v_X4_add_95_3 a p0 G29 G G39 p1 G49 p2 G60 p3 G73 G84 p4 G92 x91 ha hp0 hG29 hG39 hG49 hG60 hG73 hG84 e91 s0 c4 c14 (xzi hz70) (lc_c hG29 (xne_j hj9999a hj9999 (by first | decide | omega))) ((lc_c hG39 (xne_j hj9999b hj9999a (by first | decide | omega))).trans (lc_c hG29 (xne_j hj9999b hj9999 (by first | decide | omega)))) ((lc_c hG49 (xne_j hj9999c hj9999b (by first | decide | omega))).trans ((lc_c hG39 (xne_j hj9999c hj9999a (by first | decide | omega))).trans (lc_c hG29 (xne_j hj9999c hj9999 (by first | decide | omega))))) ((lc_c hG60 (xne_k hk9999d hk9999c (by decide))).trans ((lc_c hG49 (xne_k hk9999d hk9999b (by decide))).trans ((lc_c hG39 (xne_k hk9999d hk9999a (by decide))).trans (lc_c hG29 (xne_k hk9999d hk9999 (by decide)))))) ((lc_c hG73 (xne_j hj9999e hj9999d (by first | decide | omega))).trans ((lc_c hG60 (xne_k hk9999e hk9999c (by decide))).trans ((lc_c hG49 (xne_k hk9999e hk9999b (by decide))).trans ((lc_c hG39 (xne_k hk9999e hk9999a (by decide))).trans (lc_c hG29 (xne_k hk9999e hk9999 (by decide))))))) ((ld_c hG92).trans ((lc_c hG84 (xne_k hk9999 hk9999e (by decide))).trans ((lc_c hG73 (xne_k hk9999 hk9999d (by decide))).trans ((lc_c hG60 (xne_j hj9999 hj9999c (by first | decide | omega))).trans ((lc_c hG49 (xne_j hj9999 hj9999b (by first | decide | omega))).trans (lc_c hG39 (xne_j hj9999 hj9999a (by first | decide | omega)))))))) ((ld_c hG92).trans ((lc_c hG84 (xne_k hk9999a hk9999e (by decide))).trans ((lc_c hG73 (xne_k hk9999a hk9999d (by decide))).trans ((lc_c hG60 (xne_j hj9999a hj9999c (by first | decide | omega))).trans (lc_c hG49 (xne_j hj9999a hj9999b (by first | decide | omega))))))) ((ld_c hG92).trans ((lc_c hG84 (xne_k hk9999b hk9999e (by decide))).trans ((lc_c hG73 (xne_k hk9999b hk9999d (by decide))).trans (lc_c hG60 (xne_j hj9999b hj9999c (by first | decide | omega)))))) ((ld_c hG92).trans ((lc_c hG84 (xne_k hk9999c hk9999e (by decide))).trans (lc_c hG73 (xne_k hk9999c hk9999d (by decide))))) ((ld_c hG92).trans (lc_c hG84 (xne_j hj9999d hj9999e (by first | decide | omega)))) (ld_c hG92) (ld_at hG92))⟩ hT

theorem z_X4_take_3 (a0 : Int) (a1 : Int) (a2 : Int) (a3 : Int) (h0 : 0 ≤ a0 ∧ a0 < a3 ∧ a3 ≤ 1080) (h1 : ((0 ≤ a0 ∧ a0 < a3 ∧ a0 < 1080) ∧ a1 = 1) ∨ (¬ (0 ≤ a0 ∧ a0 < a3 ∧ a0 < 1080) ∧ a1 = 0)) (h2 : a1 = 0) : a2 = a2 + 1 := by omega
theorem z_X4_take_4 (a0 : Int) (a1 : Int) (h0 : 0 ≤ a0 ∧ a0 < a1 ∧ a1 ≤ 1080) : 0 ≤ a0 ∧ a0 < ((1080 : Nat) : Int) := by omega
abbrev rm_X4_take : Room := { frames := 1, cells := 0, slots := 0, locals := 21 }
set_option maxHeartbeats 4000000 in
set_option maxRecDepth 100000 in
theorem c_X4_take (l : Launch) (E : XE) (K : Nat → Nat) (F : Nat → Nat → Nat) (G : XG) (a : Nat) (p0 : Nat) (p1 : Int32) (ha : K a = 6) (hp0 : K p0 = 6) (s0 : 0 ≤ ((G.1 a 6).toInt) ∧ ((G.1 a 6).toInt) < 1080) (s1 : 0 ≤ p1.toInt ∧ p1.toInt < ((G.1 p0 6).toInt) ∧ ((G.1 p0 6).toInt) ≤ 1080) (hne : F a 99 ≠ F p0 99) : Met l yX4_take (xw yX4_take cX4_take 3 none) rm_X4_take (va_Pc [.ref a, .ref p0, .int p1] (XP E K F G)) (XQv E (fun (u : XG) => XFr [(a, 6)] [F a 0, F a 1, F a 2, F a 3, F a 4, F a 5] [] G u ∧ (((u.1 a 6).toInt) = ((G.1 a 6).toInt) + 1) ∧ (qL u F a = qL G F a ++ [((aI (G.2.1 (F p0 0)) (p1.toInt)), (aI (G.2.1 (F p0 1)) (p1.toInt)), (aI (G.2.1 (F p0 2)) (p1.toInt)), (aI (G.2.1 (F p0 3)) (p1.toInt)), (aI (G.2.1 (F p0 4)) (p1.toInt)), (aI (G.2.1 (F p0 5)) (p1.toInt)))])) (fun u H => TW E K F u H)) 0 0 (xA E) := by
  refine x_enter (by decide) (Nat.le_of_ble_eq_true rfl) ?_
  intro p e s m args below meth c Q S hr hlk hnm hQ hP ls hl
  obtain ⟨hz, hK, hT⟩ := hP
  obtain ⟨hx, hb, -, -, -⟩ := id S
  obtain ⟨H, hT, hS, hgo⟩ : ∃ H : Heap, TW E K F G H ∧ va_S (xA E) s.heap H [] ∧ H = s.heap := ⟨_, hT, va_S.rf, rfl⟩
  rw [← hgo]
  have hl : lv_has ls 3 [(0, .ref a), (1, .ref p0), (2, .int p1)] := hl
  obtain ⟨hk9999, hj9999⟩ := fkX4_0 hT ha
  obtain ⟨hk9999a, hj9999a⟩ := fkX4_1 hT ha
  obtain ⟨hk9999b, hj9999b⟩ := fkX4_2 hT ha
  obtain ⟨hk9999c, hj9999c⟩ := fkX4_3 hT ha
  obtain ⟨hk9999d, hj9999d⟩ := fkX4_4 hT ha
  obtain ⟨hk9999e, hj9999e⟩ := fkX4_5 hT ha
  obtain ⟨hk9999f, hj9999f⟩ := fkX4_0 hT hp0
  obtain ⟨hk9999g, hj9999g⟩ := fkX4_1 hT hp0
  obtain ⟨hk9999h, hj9999h⟩ := fkX4_2 hT hp0
  obtain ⟨hk9999i, hj9999i⟩ := fkX4_3 hT hp0
  obtain ⟨hk9999j, hj9999j⟩ := fkX4_4 hT hp0
  obtain ⟨hk9999k, hj9999k⟩ := fkX4_5 hT hp0
  refine lv_aload_n hx hb dX4_take_0 rfl (lv_at hl 0 rfl) ?_
  refine gX4_6 S hK hT ha kf_X4_33 dX4_take_1 (v := (G.1 a 6)) rfl (?_)
  refine xi_zlt (tgt := 125) hx hb (rfl : Int32.toInt (G.1 a 6) = ((G.1 a 6).toInt)) dX4_take_4 (by decide) (fun c4 => ?_) (fun c4 => ?_)
  · exact x_rv hx hb hr hlk hQ (Nat.le_of_ble_eq_true rfl) (Nat.le_of_ble_eq_true rfl) hS dX4_take_125 G ⟨XFr.rf, (z_X4_add_1 ((G.1 a 6).toInt) s0 c4), (v_X4_take_125_1 a p0 G p1 ha hp0 hne s0 s1 c4)⟩ hT
  · refine lv_aload_n hx hb dX4_take_7 rfl (lv_at hl 0 rfl) ?_
    refine gX4_6 S hK hT ha kf_X4_33 dX4_take_8 (v := (G.1 a 6)) rfl (?_)
    refine lv_sipush (v := 1080) hx hb dX4_take_11 (by decide) ?_
    refine xi_cge (tgt := 125) hx hb (rfl : Int32.toInt (G.1 a 6) = ((G.1 a 6).toInt)) ((by decide) : Int32.toInt 1080 = (1080 : Int)) dX4_take_14 (by decide) (fun c14 => ?_) (fun c14 => ?_)
    · exact x_rv hx hb hr hlk hQ (Nat.le_of_ble_eq_true rfl) (Nat.le_of_ble_eq_true rfl) hS dX4_take_125 G ⟨XFr.rf, (z_X4_add_2 ((G.1 a 6).toInt) s0 c14), (v_X4_take_125_2 a p0 G p1 ha hp0 hne s0 s1 c4 c14)⟩ hT
    · refine lv_aload_n hx hb dX4_take_17 rfl (lv_at hl 1 rfl) ?_
      refine lv_iload_n hx hb dX4_take_18 rfl (lv_at hl 2 rfl) ?_
      refine x_clp (x_runV (b := p0) (As := [.int p1]) (rest := []) S (c_X4_isInside l E K F G H p0 p1 hp0) mv_X4_isInside km_X4_46 rfl rfl ⟨Nat.le_of_ble_eq_true rfl, Nat.le_of_ble_eq_true rfl⟩ (rc_6 hK hT hp0) hK (fun _ => XPh.blind) (fun U hU hW => XPh.at hK hz hS hT hU hW) rfl hl.1 (Nat.le_of_ble_eq_true rfl) dX4_take_19 ⟨Nat.le_of_ble_eq_true rfl, Nat.le_of_ble_eq_true rfl⟩) hS ?_
      rintro _ _ locs ⟨x19, rfl, b19, t19⟩ hS
      have t19 : ((0 ≤ p1.toInt ∧ p1.toInt < ((G.1 p0 6).toInt) ∧ p1.toInt < 1080) ∧ x19.toInt = 1) ∨ (¬ (0 ≤ p1.toInt ∧ p1.toInt < ((G.1 p0 6).toInt) ∧ p1.toInt < 1080) ∧ x19.toInt = 0) := t19
      refine xi_zeq (tgt := 125) hx hb (rfl : Int32.toInt x19 = x19.toInt) dX4_take_22 (by decide) (fun c22 => ?_) (fun c22 => ?_)
      · exact x_rv hx hb hr hlk hQ (Nat.le_of_ble_eq_true rfl) (Nat.le_of_ble_eq_true rfl) hS dX4_take_125 G ⟨XFr.rf, (z_X4_take_3 p1.toInt x19.toInt ((G.1 a 6).toInt) ((G.1 p0 6).toInt) s1 t19 c22), (v_X4_take_125_3 a p0 G p1 x19 ha hp0 hne s0 s1 c4 c14 t19 c22)⟩ hT
      · refine lv_aload_n hx hb dX4_take_25 rfl (lv_at hl 0 rfl) ?_
        refine gX4_0 S hK hT ha kf_X4_13 dX4_take_26 (fun _ _ => ?_)
        refine lv_aload_n hx hb dX4_take_29 rfl (lv_at hl 0 rfl) ?_
        refine gX4_6 S hK hT ha kf_X4_33 dX4_take_30 (v := (G.1 a 6)) rfl (?_)
        refine lv_aload_n hx hb dX4_take_33 rfl (lv_at hl 1 rfl) ?_
        refine gX4_0 S hK hT hp0 kf_X4_13 dX4_take_34 (fun _ _ => ?_)
        refine lv_iload_n hx hb dX4_take_37 rfl (lv_at hl 2 rfl) ?_
        refine al_0 S hK hT hk9999f ar_22 (by decide) (z_X4_take_4 p1.toInt ((G.1 p0 6).toInt) s1) dX4_take_38 (fun x38 hv38 o38 => ?_)
        have hv38 : x38.toInt = (aI (G.2.1 (F p0 0)) (p1.toInt)) := hv38.trans (by rw [(rfl : Int32.toInt p1 = p1.toInt)])
        refine as_0 (x := x38) S hK hT hS hk9999 ar_22 aw_22 (by decide) (z_X4_add_3 ((G.1 a 6).toInt) s0) dX4_take_39 (fun H locs hT hS => ?_)
        obtain ⟨G39, hG39⟩ : ∃ G9 : XG, G9 = cput G (F a 0) (G.1 a 6).toNatClampNeg x38 := ⟨_, rfl⟩
        rw [← hG39] at hT
        refine lv_aload_n hx hb dX4_take_40 rfl (lv_at hl 0 rfl) ?_
        refine gX4_1 S hK hT ha kf_X4_17 dX4_take_41 (fun _ _ => ?_)
        refine lv_aload_n hx hb dX4_take_44 rfl (lv_at hl 0 rfl) ?_
        refine gX4_6 S hK hT ha kf_X4_33 dX4_take_45 (v := (G.1 a 6)) (lc_d hG39) (?_)
        refine lv_aload_n hx hb dX4_take_48 rfl (lv_at hl 1 rfl) ?_
        refine gX4_1 S hK hT hp0 kf_X4_17 dX4_take_49 (fun _ _ => ?_)
        refine lv_iload_n hx hb dX4_take_52 rfl (lv_at hl 2 rfl) ?_
        refine al_0 S hK hT hk9999g ar_22 (by decide) (z_X4_take_4 p1.toInt ((G.1 p0 6).toInt) s1) dX4_take_53 (fun x53 hv53 o53 => ?_)
        have hv53 : x53.toInt = (aI (G.2.1 (F p0 1)) (p1.toInt)) := hv53.trans (by rw [(rfl : Int32.toInt p1 = p1.toInt), ((lc_c hG39 (xne_j hj9999g hj9999 (by first | decide | omega))) : G39.2.1 (F p0 1) = G.2.1 (F p0 1))])
        refine as_0 (x := x53) S hK hT hS hk9999a ar_22 aw_22 (by decide) (z_X4_add_3 ((G.1 a 6).toInt) s0) dX4_take_54 (fun H locs hT hS => ?_)
        obtain ⟨G54, hG54⟩ : ∃ G9 : XG, G9 = cput G39 (F a 1) (G.1 a 6).toNatClampNeg x53 := ⟨_, rfl⟩
        rw [← hG54] at hT
        refine lv_aload_n hx hb dX4_take_55 rfl (lv_at hl 0 rfl) ?_
        refine gX4_2 S hK hT ha kf_X4_20 dX4_take_56 (fun _ _ => ?_)
        refine lv_aload_n hx hb dX4_take_59 rfl (lv_at hl 0 rfl) ?_
        refine gX4_6 S hK hT ha kf_X4_33 dX4_take_60 (v := (G.1 a 6)) ((lc_d hG54).trans (lc_d hG39)) (?_)
        refine lv_aload_n hx hb dX4_take_63 rfl (lv_at hl 1 rfl) ?_
        refine gX4_2 S hK hT hp0 kf_X4_20 dX4_take_64 (fun _ _ => ?_)
        refine lv_iload_n hx hb dX4_take_67 rfl (lv_at hl 2 rfl) ?_
        refine al_0 S hK hT hk9999h ar_22 (by decide) (z_X4_take_4 p1.toInt ((G.1 p0 6).toInt) s1) dX4_take_68 (fun x68 hv68 o68 => ?_)
        have hv68 : x68.toInt = (aI (G.2.1 (F p0 2)) (p1.toInt)) := hv68.trans (by rw [(rfl : Int32.toInt p1 = p1.toInt), (((lc_c hG54 (xne_j hj9999h hj9999a (by first | decide | omega))).trans (lc_c hG39 (xne_j hj9999h hj9999 (by first | decide | omega)))) : G54.2.1 (F p0 2) = G.2.1 (F p0 2))])
        refine as_0 (x := x68) S hK hT hS hk9999b ar_22 aw_22 (by decide) (z_X4_add_3 ((G.1 a 6).toInt) s0) dX4_take_69 (fun H locs hT hS => ?_)
        obtain ⟨G69, hG69⟩ : ∃ G9 : XG, G9 = cput G54 (F a 2) (G.1 a 6).toNatClampNeg x68 := ⟨_, rfl⟩
        rw [← hG69] at hT
        refine lv_aload_n hx hb dX4_take_70 rfl (lv_at hl 0 rfl) ?_
        refine gX4_3 S hK hT ha kf_X4_23 dX4_take_71 (fun _ _ => ?_)
        refine lv_aload_n hx hb dX4_take_74 rfl (lv_at hl 0 rfl) ?_
        refine gX4_6 S hK hT ha kf_X4_33 dX4_take_75 (v := (G.1 a 6)) ((lc_d hG69).trans ((lc_d hG54).trans (lc_d hG39))) (?_)
        refine lv_aload_n hx hb dX4_take_78 rfl (lv_at hl 1 rfl) ?_
        refine gX4_3 S hK hT hp0 kf_X4_23 dX4_take_79 (fun _ _ => ?_)
        refine lv_iload_n hx hb dX4_take_82 rfl (lv_at hl 2 rfl) ?_
        refine al_0 S hK hT hk9999i ar_22 (by decide) (z_X4_take_4 p1.toInt ((G.1 p0 6).toInt) s1) dX4_take_83 (fun x83 hv83 o83 => ?_)
        have hv83 : x83.toInt = (aI (G.2.1 (F p0 3)) (p1.toInt)) := hv83.trans (by rw [(rfl : Int32.toInt p1 = p1.toInt), (((lc_c hG69 (xne_j hj9999i hj9999b (by first | decide | omega))).trans ((lc_c hG54 (xne_j hj9999i hj9999a (by first | decide | omega))).trans (lc_c hG39 (xne_j hj9999i hj9999 (by first | decide | omega))))) : G69.2.1 (F p0 3) = G.2.1 (F p0 3))])
        refine as_0 (x := x83) S hK hT hS hk9999c ar_22 aw_22 (by decide) (z_X4_add_3 ((G.1 a 6).toInt) s0) dX4_take_84 (fun H locs hT hS => ?_)
        obtain ⟨G84, hG84⟩ : ∃ G9 : XG, G9 = cput G69 (F a 3) (G.1 a 6).toNatClampNeg x83 := ⟨_, rfl⟩
        rw [← hG84] at hT
        refine lv_aload_n hx hb dX4_take_85 rfl (lv_at hl 0 rfl) ?_
        refine gX4_4 S hK hT ha kf_X4_26 dX4_take_86 (fun _ _ => ?_)
        refine lv_aload_n hx hb dX4_take_89 rfl (lv_at hl 0 rfl) ?_
        refine gX4_6 S hK hT ha kf_X4_33 dX4_take_90 (v := (G.1 a 6)) ((lc_d hG84).trans ((lc_d hG69).trans ((lc_d hG54).trans (lc_d hG39)))) (?_)
        refine lv_aload_n hx hb dX4_take_93 rfl (lv_at hl 1 rfl) ?_
        refine gX4_4 S hK hT hp0 kf_X4_26 dX4_take_94 (fun _ _ => ?_)
        refine lv_iload_n hx hb dX4_take_97 rfl (lv_at hl 2 rfl) ?_
        refine al_3 S hK hT hk9999j ar_23 (by decide) (z_X4_take_4 p1.toInt ((G.1 p0 6).toInt) s1) dX4_take_98 (fun x98 hv98 o98 => ?_)
        have hv98 : x98.toInt = (aI (G.2.1 (F p0 4)) (p1.toInt)) := hv98.trans (by rw [(rfl : Int32.toInt p1 = p1.toInt), (((lc_c hG84 (xne_k hk9999j hk9999c (by decide))).trans ((lc_c hG69 (xne_k hk9999j hk9999b (by decide))).trans ((lc_c hG54 (xne_k hk9999j hk9999a (by decide))).trans (lc_c hG39 (xne_k hk9999j hk9999 (by decide)))))) : G84.2.1 (F p0 4) = G.2.1 (F p0 4))])
        refine as_3 (x := x98) S hK hT hS hk9999d ar_23 aw_23 (by decide) (z_X4_add_3 ((G.1 a 6).toInt) s0) dX4_take_99 (fun H locs hT hS => ?_)
        rw [(xnar3 (x01 (xz01 o98 rfl)))] at hT
        obtain ⟨G99, hG99⟩ : ∃ G9 : XG, G9 = cput G84 (F a 4) (G.1 a 6).toNatClampNeg x98 := ⟨_, rfl⟩
        rw [← hG99] at hT
        refine lv_aload_n hx hb dX4_take_100 rfl (lv_at hl 0 rfl) ?_
        refine gX4_5 S hK hT ha kf_X4_30 dX4_take_101 (fun _ _ => ?_)
        refine lv_aload_n hx hb dX4_take_104 rfl (lv_at hl 0 rfl) ?_
        refine gX4_6 S hK hT ha kf_X4_33 dX4_take_105 (v := (G.1 a 6)) ((lc_d hG99).trans ((lc_d hG84).trans ((lc_d hG69).trans ((lc_d hG54).trans (lc_d hG39))))) (?_)
        refine lv_aload_n hx hb dX4_take_108 rfl (lv_at hl 1 rfl) ?_
        refine gX4_5 S hK hT hp0 kf_X4_30 dX4_take_109 (fun _ _ => ?_)
        refine lv_iload_n hx hb dX4_take_112 rfl (lv_at hl 2 rfl) ?_
        refine al_3 S hK hT hk9999k ar_23 (by decide) (z_X4_take_4 p1.toInt ((G.1 p0 6).toInt) s1) dX4_take_113 (fun x113 hv113 o113 => ?_)
        have hv113 : x113.toInt = (aI (G.2.1 (F p0 5)) (p1.toInt)) := hv113.trans (by rw [(rfl : Int32.toInt p1 = p1.toInt), (((lc_c hG99 (xne_j hj9999k hj9999d (by first | decide | omega))).trans ((lc_c hG84 (xne_k hk9999k hk9999c (by decide))).trans ((lc_c hG69 (xne_k hk9999k hk9999b (by decide))).trans ((lc_c hG54 (xne_k hk9999k hk9999a (by decide))).trans (lc_c hG39 (xne_k hk9999k hk9999 (by decide))))))) : G99.2.1 (F p0 5) = G.2.1 (F p0 5))])
        refine as_3 (x := x113) S hK hT hS hk9999e ar_23 aw_23 (by decide) (z_X4_add_3 ((G.1 a 6).toInt) s0) dX4_take_114 (fun H locs hT hS => ?_)
        rw [(xnar3 (x01 (xz01 o113 rfl)))] at hT
        obtain ⟨G114, hG114⟩ : ∃ G9 : XG, G9 = cput G99 (F a 5) (G.1 a 6).toNatClampNeg x113 := ⟨_, rfl⟩
        rw [← hG114] at hT
        refine lv_aload_n hx hb dX4_take_115 rfl (lv_at hl 0 rfl) ?_
        refine lv_dup hx hb dX4_take_116 rfl ?_
        refine gX4_6 S hK hT ha kf_X4_33 dX4_take_117 (v := (G.1 a 6)) ((lc_d hG114).trans ((lc_d hG99).trans ((lc_d hG84).trans ((lc_d hG69).trans ((lc_d hG54).trans (lc_d hG39)))))) (?_)
        refine lv_iconst (v := 1) hx hb dX4_take_120 (by decide) ?_
        refine xi_iadd hx hb (rfl : Int32.toInt (G.1 a 6) = ((G.1 a 6).toInt)) ((by decide) : Int32.toInt 1 = (1 : Int)) dX4_take_121 (fun x121 t121 => ?_)
        have e121 : x121.toInt = (((G.1 a 6).toInt) + (1 : Int)) := (z_X4_add_9 x121.toInt ((G.1 a 6).toInt) s0 t121)
        refine pX4_6 (v := x121) S hK hT hS ha kf_X4_33 dX4_take_122 (fun H locs hT hS => ?_)
        obtain ⟨G122, hG122⟩ : ∃ G9 : XG, G9 = dput G114 a 6 x121 := ⟨_, rfl⟩
        rw [← hG122] at hT
        exact x_rv hx hb hr hlk hQ (Nat.le_of_ble_eq_true rfl) (Nat.le_of_ble_eq_true rfl) hS dX4_take_125 G122 ⟨(by rw [hG122]; exact XFr.dput (by rw [hG114]; exact XFr.cput (by rw [hG99]; exact XFr.cput (by rw [hG84]; exact XFr.cput (by rw [hG69]; exact XFr.cput (by rw [hG54]; exact XFr.cput (by rw [hG39]; exact XFr.cput XFr.rf (List.mem_of_getElem? (i := 0) rfl)) (List.mem_of_getElem? (i := 1) rfl)) (List.mem_of_getElem? (i := 2) rfl)) (List.mem_of_getElem? (i := 3) rfl)) (List.mem_of_getElem? (i := 4) rfl)) (List.mem_of_getElem? (i := 5) rfl)) (List.mem_of_getElem? (i := 0) rfl)), (by rw [(show (G122.1 a 6).toInt = (((G.1 a 6).toInt) + (1 : Int)) from (congrArg Int32.toInt (ld_at hG122)).trans (e121 : Int32.toInt x121 = (((G.1 a 6).toInt) + (1 : Int))))] <;> exact (z_X4_add_10 ((G.1 a 6).toInt))), (v_X4_take_125_4 a p0 G39 G x38 G54 x53 G69 x68 G84 x83 G99 x98 G114 x113 G122 x121 p1 x19 ha hp0 hG39 hG54 hG69 hG84 hG99 hG114 hne hv38 hv53 hv68 hv83 hv98 hv113 e121 s0 s1 c4 c14 t19 c22 (xz01 o98 hv98) (xz01 o113 hv113) ((ld_c hG122).trans ((lc_c hG114 (xne_k hk9999 hk9999e (by decide))).trans ((lc_c hG99 (xne_k hk9999 hk9999d (by decide))).trans ((lc_c hG84 (xne_j hj9999 hj9999c (by first | decide | omega))).trans ((lc_c hG69 (xne_j hj9999 hj9999b (by first | decide | omega))).trans (lc_c hG54 (xne_j hj9999 hj9999a (by first | decide | omega)))))))) ((ld_c hG122).trans ((lc_c hG114 (xne_k hk9999a hk9999e (by decide))).trans ((lc_c hG99 (xne_k hk9999a hk9999d (by decide))).trans ((lc_c hG84 (xne_j hj9999a hj9999c (by first | decide | omega))).trans (lc_c hG69 (xne_j hj9999a hj9999b (by first | decide | omega))))))) ((ld_c hG122).trans ((lc_c hG114 (xne_k hk9999b hk9999e (by decide))).trans ((lc_c hG99 (xne_k hk9999b hk9999d (by decide))).trans (lc_c hG84 (xne_j hj9999b hj9999c (by first | decide | omega)))))) ((ld_c hG122).trans ((lc_c hG114 (xne_k hk9999c hk9999e (by decide))).trans (lc_c hG99 (xne_k hk9999c hk9999d (by decide))))) ((ld_c hG122).trans (lc_c hG114 (xne_j hj9999d hj9999e (by first | decide | omega)))) (ld_c hG122) (lc_c hG39 (xne_j hj9999a hj9999 (by first | decide | omega))) ((lc_c hG54 (xne_j hj9999b hj9999a (by first | decide | omega))).trans (lc_c hG39 (xne_j hj9999b hj9999 (by first | decide | omega)))) ((lc_c hG69 (xne_j hj9999c hj9999b (by first | decide | omega))).trans ((lc_c hG54 (xne_j hj9999c hj9999a (by first | decide | omega))).trans (lc_c hG39 (xne_j hj9999c hj9999 (by first | decide | omega))))) ((lc_c hG84 (xne_k hk9999d hk9999c (by decide))).trans ((lc_c hG69 (xne_k hk9999d hk9999b (by decide))).trans ((lc_c hG54 (xne_k hk9999d hk9999a (by decide))).trans (lc_c hG39 (xne_k hk9999d hk9999 (by decide)))))) ((lc_c hG99 (xne_j hj9999e hj9999d (by first | decide | omega))).trans ((lc_c hG84 (xne_k hk9999e hk9999c (by decide))).trans ((lc_c hG69 (xne_k hk9999e hk9999b (by decide))).trans ((lc_c hG54 (xne_k hk9999e hk9999a (by decide))).trans (lc_c hG39 (xne_k hk9999e hk9999 (by decide))))))) (ld_at hG122))⟩ hT

theorem z_X4_number_1 (a0 : Int) (a1 : Int) (a2 : Int) (a3 : Int) (h0 : ((0 ≤ a0 ∧ a0 < a2 ∧ a0 < 1080) ∧ a1 = 1) ∨ (¬ (0 ≤ a0 ∧ a0 < a2 ∧ a0 < 1080) ∧ a1 = 0)) (h1 : a1 = 0) : ((0 ≤ a0 ∧ a0 < a2 ∧ a0 < 1080) ∧ (-1 : Int) = a3) ∨ (¬ (0 ≤ a0 ∧ a0 < a2 ∧ a0 < 1080) ∧ (-1 : Int) = -1) := by omega
theorem z_X4_number_2 (a0 : Int) (a1 : Int) (a2 : Int) (h0 : ((0 ≤ a0 ∧ a0 < a2 ∧ a0 < 1080) ∧ a1 = 1) ∨ (¬ (0 ≤ a0 ∧ a0 < a2 ∧ a0 < 1080) ∧ a1 = 0)) (h1 : ¬ (a1 = 0)) : 0 ≤ a0 ∧ a0 < ((1080 : Nat) : Int) := by omega
theorem z_X4_number_3 (a0 : Int) (a1 : Int) (a2 : Int) (a3 : Int) (h0 : ((0 ≤ a0 ∧ a0 < a2 ∧ a0 < 1080) ∧ a1 = 1) ∨ (¬ (0 ≤ a0 ∧ a0 < a2 ∧ a0 < 1080) ∧ a1 = 0)) (h1 : ¬ (a1 = 0)) : ((0 ≤ a0 ∧ a0 < a2 ∧ a0 < 1080) ∧ a3 = a3) ∨ (¬ (0 ≤ a0 ∧ a0 < a2 ∧ a0 < 1080) ∧ a3 = -1) := by omega
abbrev rm_X4_number : Room := { frames := 1, cells := 0, slots := 0, locals := 21 }
set_option maxHeartbeats 4000000 in
set_option maxRecDepth 100000 in
theorem c_X4_number (l : Launch) (E : XE) (K : Nat → Nat) (F : Nat → Nat → Nat) (G : XG) (h0 : Heap) (a : Nat) (p0 : Int32) (ha : K a = 6) : Met l yX4_number (xw yX4_number cX4_number 2 (some .int)) rm_X4_number (va_Pc [.ref a, .int p0] (XPh E K F G h0)) (XQ E (fun v (u : Unit) => ∃ r : Int32, v = .int r ∧ (((0 ≤ p0.toInt ∧ p0.toInt < ((G.1 a 6).toInt) ∧ p0.toInt < 1080) ∧ r.toInt = (aI (G.2.1 (F a 0)) (p0.toInt))) ∨ (¬ (0 ≤ p0.toInt ∧ p0.toInt < ((G.1 a 6).toInt) ∧ p0.toInt < 1080) ∧ r.toInt = -1))) (fun _ H => H = h0)) 0 0 (xA E) := by
  refine x_enter (by decide) (Nat.le_of_ble_eq_true rfl) ?_
  intro p e s m args below meth c Q S hr hlk hnm hQ hP ls hl
  obtain ⟨⟨hz, hK, hT⟩, hh⟩ := hP
  obtain ⟨hx, hb, -, -, -⟩ := id S
  have hS : va_S (xA E) s.heap s.heap [] := va_S.rf
  have hl : lv_has ls 2 [(0, .ref a), (1, .int p0)] := hl
  obtain ⟨hk9999, hj9999⟩ := fkX4_0 hT ha
  refine lv_aload_n hx hb dX4_number_0 rfl (lv_at hl 0 rfl) ?_
  refine lv_iload_n hx hb dX4_number_1 rfl (lv_at hl 1 rfl) ?_
  refine x_clp (x_runV (b := a) (As := [.int p0]) (rest := []) S (c_X4_isInside l E K F G s.heap a p0 ha) mv_X4_isInside km_X4_46 rfl rfl ⟨Nat.le_of_ble_eq_true rfl, Nat.le_of_ble_eq_true rfl⟩ (rc_6 hK hT ha) hK (fun _ => XPh.blind) (fun U hU hW => XPh.at hK hz hS hT hU hW) rfl hl.1 (Nat.le_of_ble_eq_true rfl) dX4_number_2 ⟨Nat.le_of_ble_eq_true rfl, Nat.le_of_ble_eq_true rfl⟩) hS ?_
  rintro _ _ locs ⟨x2, rfl, b2, t2⟩ hS
  have t2 : ((0 ≤ p0.toInt ∧ p0.toInt < ((G.1 a 6).toInt) ∧ p0.toInt < 1080) ∧ x2.toInt = 1) ∨ (¬ (0 ≤ p0.toInt ∧ p0.toInt < ((G.1 a 6).toInt) ∧ p0.toInt < 1080) ∧ x2.toInt = 0) := t2
  refine xi_zeq (tgt := 17) hx hb (rfl : Int32.toInt x2 = x2.toInt) dX4_number_5 (by decide) (fun c5 => ?_) (fun c5 => ?_)
  · refine lv_iconst (v := (-1)) hx hb dX4_number_17 (by decide) ?_
    exact x_ri hx hb hr hlk hQ (Nat.le_of_ble_eq_true rfl) (Nat.le_of_ble_eq_true rfl) hS dX4_number_18 () ⟨_, rfl, (by rw [((by decide) : Int32.toInt (-1) = (-1 : Int))] <;> exact (z_X4_number_1 p0.toInt x2.toInt ((G.1 a 6).toInt) (aI (G.2.1 (F a 0)) (p0.toInt)) t2 c5))⟩ hh
  · refine lv_aload_n hx hb dX4_number_8 rfl (lv_at hl 0 rfl) ?_
    refine gX4_0 S hK hT ha kf_X4_13 dX4_number_9 (fun _ _ => ?_)
    refine lv_iload_n hx hb dX4_number_12 rfl (lv_at hl 1 rfl) ?_
    refine al_0 S hK hT hk9999 ar_22 (by decide) (z_X4_number_2 p0.toInt x2.toInt ((G.1 a 6).toInt) t2 c5) dX4_number_13 (fun x13 hv13 o13 => ?_)
    have hv13 : x13.toInt = (aI (G.2.1 (F a 0)) (p0.toInt)) := hv13.trans (by rw [(rfl : Int32.toInt p0 = p0.toInt)])
    refine lv_goto (tgt := 18) hx hb dX4_number_14 (by decide) ?_
    exact x_ri hx hb hr hlk hQ (Nat.le_of_ble_eq_true rfl) (Nat.le_of_ble_eq_true rfl) hS dX4_number_18 () ⟨_, rfl, (by rw [(hv13 : Int32.toInt x13 = (aI (G.2.1 (F a 0)) (p0.toInt)))] <;> exact (z_X4_number_3 p0.toInt x2.toInt ((G.1 a 6).toInt) (aI (G.2.1 (F a 0)) (p0.toInt)) t2 c5))⟩ hh

abbrev rm_X4_subject : Room := { frames := 1, cells := 0, slots := 0, locals := 21 }
set_option maxHeartbeats 4000000 in
set_option maxRecDepth 100000 in
theorem c_X4_subject (l : Launch) (E : XE) (K : Nat → Nat) (F : Nat → Nat → Nat) (G : XG) (h0 : Heap) (a : Nat) (p0 : Int32) (ha : K a = 6) : Met l yX4_subject (xw yX4_subject cX4_subject 2 (some .int)) rm_X4_subject (va_Pc [.ref a, .int p0] (XPh E K F G h0)) (XQ E (fun v (u : Unit) => ∃ r : Int32, v = .int r ∧ (((0 ≤ p0.toInt ∧ p0.toInt < ((G.1 a 6).toInt) ∧ p0.toInt < 1080) ∧ r.toInt = (aI (G.2.1 (F a 1)) (p0.toInt))) ∨ (¬ (0 ≤ p0.toInt ∧ p0.toInt < ((G.1 a 6).toInt) ∧ p0.toInt < 1080) ∧ r.toInt = -1))) (fun _ H => H = h0)) 0 0 (xA E) := by
  refine x_enter (by decide) (Nat.le_of_ble_eq_true rfl) ?_
  intro p e s m args below meth c Q S hr hlk hnm hQ hP ls hl
  obtain ⟨⟨hz, hK, hT⟩, hh⟩ := hP
  obtain ⟨hx, hb, -, -, -⟩ := id S
  have hS : va_S (xA E) s.heap s.heap [] := va_S.rf
  have hl : lv_has ls 2 [(0, .ref a), (1, .int p0)] := hl
  obtain ⟨hk9999, hj9999⟩ := fkX4_1 hT ha
  refine lv_aload_n hx hb dX4_subject_0 rfl (lv_at hl 0 rfl) ?_
  refine lv_iload_n hx hb dX4_subject_1 rfl (lv_at hl 1 rfl) ?_
  refine x_clp (x_runV (b := a) (As := [.int p0]) (rest := []) S (c_X4_isInside l E K F G s.heap a p0 ha) mv_X4_isInside km_X4_46 rfl rfl ⟨Nat.le_of_ble_eq_true rfl, Nat.le_of_ble_eq_true rfl⟩ (rc_6 hK hT ha) hK (fun _ => XPh.blind) (fun U hU hW => XPh.at hK hz hS hT hU hW) rfl hl.1 (Nat.le_of_ble_eq_true rfl) dX4_subject_2 ⟨Nat.le_of_ble_eq_true rfl, Nat.le_of_ble_eq_true rfl⟩) hS ?_
  rintro _ _ locs ⟨x2, rfl, b2, t2⟩ hS
  have t2 : ((0 ≤ p0.toInt ∧ p0.toInt < ((G.1 a 6).toInt) ∧ p0.toInt < 1080) ∧ x2.toInt = 1) ∨ (¬ (0 ≤ p0.toInt ∧ p0.toInt < ((G.1 a 6).toInt) ∧ p0.toInt < 1080) ∧ x2.toInt = 0) := t2
  refine xi_zeq (tgt := 17) hx hb (rfl : Int32.toInt x2 = x2.toInt) dX4_subject_5 (by decide) (fun c5 => ?_) (fun c5 => ?_)
  · refine lv_iconst (v := (-1)) hx hb dX4_subject_17 (by decide) ?_
    exact x_ri hx hb hr hlk hQ (Nat.le_of_ble_eq_true rfl) (Nat.le_of_ble_eq_true rfl) hS dX4_subject_18 () ⟨_, rfl, (by rw [((by decide) : Int32.toInt (-1) = (-1 : Int))] <;> exact (z_X4_number_1 p0.toInt x2.toInt ((G.1 a 6).toInt) (aI (G.2.1 (F a 1)) (p0.toInt)) t2 c5))⟩ hh
  · refine lv_aload_n hx hb dX4_subject_8 rfl (lv_at hl 0 rfl) ?_
    refine gX4_1 S hK hT ha kf_X4_17 dX4_subject_9 (fun _ _ => ?_)
    refine lv_iload_n hx hb dX4_subject_12 rfl (lv_at hl 1 rfl) ?_
    refine al_0 S hK hT hk9999 ar_22 (by decide) (z_X4_number_2 p0.toInt x2.toInt ((G.1 a 6).toInt) t2 c5) dX4_subject_13 (fun x13 hv13 o13 => ?_)
    have hv13 : x13.toInt = (aI (G.2.1 (F a 1)) (p0.toInt)) := hv13.trans (by rw [(rfl : Int32.toInt p0 = p0.toInt)])
    refine lv_goto (tgt := 18) hx hb dX4_subject_14 (by decide) ?_
    exact x_ri hx hb hr hlk hQ (Nat.le_of_ble_eq_true rfl) (Nat.le_of_ble_eq_true rfl) hS dX4_subject_18 () ⟨_, rfl, (by rw [(hv13 : Int32.toInt x13 = (aI (G.2.1 (F a 1)) (p0.toInt)))] <;> exact (z_X4_number_3 p0.toInt x2.toInt ((G.1 a 6).toInt) (aI (G.2.1 (F a 1)) (p0.toInt)) t2 c5))⟩ hh

theorem z_X4_before_1 (a0 : Int) (a1 : Int) (a2 : Int) (a3 : Int) (h0 : ((0 ≤ a0 ∧ a0 < a2 ∧ a0 < 1080) ∧ a1 = 1) ∨ (¬ (0 ≤ a0 ∧ a0 < a2 ∧ a0 < 1080) ∧ a1 = 0)) (h1 : a1 = 0) : ((0 ≤ a0 ∧ a0 < a2 ∧ a0 < 1080) ∧ (-2000 : Int) = a3) ∨ (¬ (0 ≤ a0 ∧ a0 < a2 ∧ a0 < 1080) ∧ (-2000 : Int) = -2000) := by omega
theorem z_X4_before_3 (a0 : Int) (a1 : Int) (a2 : Int) (a3 : Int) (h0 : ((0 ≤ a0 ∧ a0 < a2 ∧ a0 < 1080) ∧ a1 = 1) ∨ (¬ (0 ≤ a0 ∧ a0 < a2 ∧ a0 < 1080) ∧ a1 = 0)) (h1 : ¬ (a1 = 0)) : ((0 ≤ a0 ∧ a0 < a2 ∧ a0 < 1080) ∧ a3 = a3) ∨ (¬ (0 ≤ a0 ∧ a0 < a2 ∧ a0 < 1080) ∧ a3 = -2000) := by omega
abbrev rm_X4_before : Room := { frames := 1, cells := 0, slots := 0, locals := 21 }
set_option maxHeartbeats 4000000 in
set_option maxRecDepth 100000 in
theorem c_X4_before (l : Launch) (E : XE) (K : Nat → Nat) (F : Nat → Nat → Nat) (G : XG) (h0 : Heap) (a : Nat) (p0 : Int32) (ha : K a = 6) : Met l yX4_before (xw yX4_before cX4_before 2 (some .int)) rm_X4_before (va_Pc [.ref a, .int p0] (XPh E K F G h0)) (XQ E (fun v (u : Unit) => ∃ r : Int32, v = .int r ∧ (((0 ≤ p0.toInt ∧ p0.toInt < ((G.1 a 6).toInt) ∧ p0.toInt < 1080) ∧ r.toInt = (aI (G.2.1 (F a 2)) (p0.toInt))) ∨ (¬ (0 ≤ p0.toInt ∧ p0.toInt < ((G.1 a 6).toInt) ∧ p0.toInt < 1080) ∧ r.toInt = -2000))) (fun _ H => H = h0)) 0 0 (xA E) := by
  refine x_enter (by decide) (Nat.le_of_ble_eq_true rfl) ?_
  intro p e s m args below meth c Q S hr hlk hnm hQ hP ls hl
  obtain ⟨⟨hz, hK, hT⟩, hh⟩ := hP
  obtain ⟨hx, hb, -, -, -⟩ := id S
  have hS : va_S (xA E) s.heap s.heap [] := va_S.rf
  have hl : lv_has ls 2 [(0, .ref a), (1, .int p0)] := hl
  obtain ⟨hk9999, hj9999⟩ := fkX4_2 hT ha
  refine lv_aload_n hx hb dX4_before_0 rfl (lv_at hl 0 rfl) ?_
  refine lv_iload_n hx hb dX4_before_1 rfl (lv_at hl 1 rfl) ?_
  refine x_clp (x_runV (b := a) (As := [.int p0]) (rest := []) S (c_X4_isInside l E K F G s.heap a p0 ha) mv_X4_isInside km_X4_46 rfl rfl ⟨Nat.le_of_ble_eq_true rfl, Nat.le_of_ble_eq_true rfl⟩ (rc_6 hK hT ha) hK (fun _ => XPh.blind) (fun U hU hW => XPh.at hK hz hS hT hU hW) rfl hl.1 (Nat.le_of_ble_eq_true rfl) dX4_before_2 ⟨Nat.le_of_ble_eq_true rfl, Nat.le_of_ble_eq_true rfl⟩) hS ?_
  rintro _ _ locs ⟨x2, rfl, b2, t2⟩ hS
  have t2 : ((0 ≤ p0.toInt ∧ p0.toInt < ((G.1 a 6).toInt) ∧ p0.toInt < 1080) ∧ x2.toInt = 1) ∨ (¬ (0 ≤ p0.toInt ∧ p0.toInt < ((G.1 a 6).toInt) ∧ p0.toInt < 1080) ∧ x2.toInt = 0) := t2
  refine xi_zeq (tgt := 17) hx hb (rfl : Int32.toInt x2 = x2.toInt) dX4_before_5 (by decide) (fun c5 => ?_) (fun c5 => ?_)
  · refine lv_sipush (v := (-2000)) hx hb dX4_before_17 (by decide) ?_
    exact x_ri hx hb hr hlk hQ (Nat.le_of_ble_eq_true rfl) (Nat.le_of_ble_eq_true rfl) hS dX4_before_20 () ⟨_, rfl, (by rw [((by decide) : Int32.toInt (-2000) = (-2000 : Int))] <;> exact (z_X4_before_1 p0.toInt x2.toInt ((G.1 a 6).toInt) (aI (G.2.1 (F a 2)) (p0.toInt)) t2 c5))⟩ hh
  · refine lv_aload_n hx hb dX4_before_8 rfl (lv_at hl 0 rfl) ?_
    refine gX4_2 S hK hT ha kf_X4_20 dX4_before_9 (fun _ _ => ?_)
    refine lv_iload_n hx hb dX4_before_12 rfl (lv_at hl 1 rfl) ?_
    refine al_0 S hK hT hk9999 ar_22 (by decide) (z_X4_number_2 p0.toInt x2.toInt ((G.1 a 6).toInt) t2 c5) dX4_before_13 (fun x13 hv13 o13 => ?_)
    have hv13 : x13.toInt = (aI (G.2.1 (F a 2)) (p0.toInt)) := hv13.trans (by rw [(rfl : Int32.toInt p0 = p0.toInt)])
    refine lv_goto (tgt := 20) hx hb dX4_before_14 (by decide) ?_
    exact x_ri hx hb hr hlk hQ (Nat.le_of_ble_eq_true rfl) (Nat.le_of_ble_eq_true rfl) hS dX4_before_20 () ⟨_, rfl, (by rw [(hv13 : Int32.toInt x13 = (aI (G.2.1 (F a 2)) (p0.toInt)))] <;> exact (z_X4_before_3 p0.toInt x2.toInt ((G.1 a 6).toInt) (aI (G.2.1 (F a 2)) (p0.toInt)) t2 c5))⟩ hh

abbrev rm_X4_after : Room := { frames := 1, cells := 0, slots := 0, locals := 21 }
set_option maxHeartbeats 4000000 in
set_option maxRecDepth 100000 in
theorem c_X4_after (l : Launch) (E : XE) (K : Nat → Nat) (F : Nat → Nat → Nat) (G : XG) (h0 : Heap) (a : Nat) (p0 : Int32) (ha : K a = 6) : Met l yX4_after (xw yX4_after cX4_after 2 (some .int)) rm_X4_after (va_Pc [.ref a, .int p0] (XPh E K F G h0)) (XQ E (fun v (u : Unit) => ∃ r : Int32, v = .int r ∧ (((0 ≤ p0.toInt ∧ p0.toInt < ((G.1 a 6).toInt) ∧ p0.toInt < 1080) ∧ r.toInt = (aI (G.2.1 (F a 3)) (p0.toInt))) ∨ (¬ (0 ≤ p0.toInt ∧ p0.toInt < ((G.1 a 6).toInt) ∧ p0.toInt < 1080) ∧ r.toInt = -2000))) (fun _ H => H = h0)) 0 0 (xA E) := by
  refine x_enter (by decide) (Nat.le_of_ble_eq_true rfl) ?_
  intro p e s m args below meth c Q S hr hlk hnm hQ hP ls hl
  obtain ⟨⟨hz, hK, hT⟩, hh⟩ := hP
  obtain ⟨hx, hb, -, -, -⟩ := id S
  have hS : va_S (xA E) s.heap s.heap [] := va_S.rf
  have hl : lv_has ls 2 [(0, .ref a), (1, .int p0)] := hl
  obtain ⟨hk9999, hj9999⟩ := fkX4_3 hT ha
  refine lv_aload_n hx hb dX4_after_0 rfl (lv_at hl 0 rfl) ?_
  refine lv_iload_n hx hb dX4_after_1 rfl (lv_at hl 1 rfl) ?_
  refine x_clp (x_runV (b := a) (As := [.int p0]) (rest := []) S (c_X4_isInside l E K F G s.heap a p0 ha) mv_X4_isInside km_X4_46 rfl rfl ⟨Nat.le_of_ble_eq_true rfl, Nat.le_of_ble_eq_true rfl⟩ (rc_6 hK hT ha) hK (fun _ => XPh.blind) (fun U hU hW => XPh.at hK hz hS hT hU hW) rfl hl.1 (Nat.le_of_ble_eq_true rfl) dX4_after_2 ⟨Nat.le_of_ble_eq_true rfl, Nat.le_of_ble_eq_true rfl⟩) hS ?_
  rintro _ _ locs ⟨x2, rfl, b2, t2⟩ hS
  have t2 : ((0 ≤ p0.toInt ∧ p0.toInt < ((G.1 a 6).toInt) ∧ p0.toInt < 1080) ∧ x2.toInt = 1) ∨ (¬ (0 ≤ p0.toInt ∧ p0.toInt < ((G.1 a 6).toInt) ∧ p0.toInt < 1080) ∧ x2.toInt = 0) := t2
  refine xi_zeq (tgt := 17) hx hb (rfl : Int32.toInt x2 = x2.toInt) dX4_after_5 (by decide) (fun c5 => ?_) (fun c5 => ?_)
  · refine lv_sipush (v := (-2000)) hx hb dX4_after_17 (by decide) ?_
    exact x_ri hx hb hr hlk hQ (Nat.le_of_ble_eq_true rfl) (Nat.le_of_ble_eq_true rfl) hS dX4_after_20 () ⟨_, rfl, (by rw [((by decide) : Int32.toInt (-2000) = (-2000 : Int))] <;> exact (z_X4_before_1 p0.toInt x2.toInt ((G.1 a 6).toInt) (aI (G.2.1 (F a 3)) (p0.toInt)) t2 c5))⟩ hh
  · refine lv_aload_n hx hb dX4_after_8 rfl (lv_at hl 0 rfl) ?_
    refine gX4_3 S hK hT ha kf_X4_23 dX4_after_9 (fun _ _ => ?_)
    refine lv_iload_n hx hb dX4_after_12 rfl (lv_at hl 1 rfl) ?_
    refine al_0 S hK hT hk9999 ar_22 (by decide) (z_X4_number_2 p0.toInt x2.toInt ((G.1 a 6).toInt) t2 c5) dX4_after_13 (fun x13 hv13 o13 => ?_)
    have hv13 : x13.toInt = (aI (G.2.1 (F a 3)) (p0.toInt)) := hv13.trans (by rw [(rfl : Int32.toInt p0 = p0.toInt)])
    refine lv_goto (tgt := 20) hx hb dX4_after_14 (by decide) ?_
    exact x_ri hx hb hr hlk hQ (Nat.le_of_ble_eq_true rfl) (Nat.le_of_ble_eq_true rfl) hS dX4_after_20 () ⟨_, rfl, (by rw [(hv13 : Int32.toInt x13 = (aI (G.2.1 (F a 3)) (p0.toInt)))] <;> exact (z_X4_before_3 p0.toInt x2.toInt ((G.1 a 6).toInt) (aI (G.2.1 (F a 3)) (p0.toInt)) t2 c5))⟩ hh

theorem z_X4_isLate_1 (a0 : Int) (a1 : Int) (a2 : Int) (a3 : Int) (h0 : ((0 ≤ a0 ∧ a0 < a2 ∧ a0 < 1080) ∧ a1 = 1) ∨ (¬ (0 ≤ a0 ∧ a0 < a2 ∧ a0 < 1080) ∧ a1 = 0)) (h1 : a1 = 0) : ((0 ≤ a0 ∧ a0 < a2 ∧ a0 < 1080) ∧ (0 : Int) = a3) ∨ (¬ (0 ≤ a0 ∧ a0 < a2 ∧ a0 < 1080) ∧ (0 : Int) = 0) := by omega
theorem z_X4_isLate_3 (a0 : Int) (a1 : Int) (a2 : Int) (h0 : a2 = 0) : ((0 ≤ a0 ∧ a0 < a1 ∧ a0 < 1080) ∧ (0 : Int) = a2) ∨ (¬ (0 ≤ a0 ∧ a0 < a1 ∧ a0 < 1080) ∧ (0 : Int) = 0) := by omega
theorem z_X4_isLate_4 (a0 : Int) (a1 : Int) (a2 : Int) (a3 : Int) (h0 : ((0 ≤ a0 ∧ a0 < a2 ∧ a0 < 1080) ∧ a1 = 1) ∨ (¬ (0 ≤ a0 ∧ a0 < a2 ∧ a0 < 1080) ∧ a1 = 0)) (h1 : ¬ (a1 = 0)) (h2 : a3 = 0 ∨ a3 = 1) (h3 : ¬ (a3 = 0)) : ((0 ≤ a0 ∧ a0 < a2 ∧ a0 < 1080) ∧ (1 : Int) = a3) ∨ (¬ (0 ≤ a0 ∧ a0 < a2 ∧ a0 < 1080) ∧ (1 : Int) = 0) := by omega
abbrev rm_X4_isLate : Room := { frames := 1, cells := 0, slots := 0, locals := 21 }
set_option maxHeartbeats 4000000 in
set_option maxRecDepth 100000 in
theorem c_X4_isLate (l : Launch) (E : XE) (K : Nat → Nat) (F : Nat → Nat → Nat) (G : XG) (h0 : Heap) (a : Nat) (p0 : Int32) (ha : K a = 6) : Met l yX4_isLate (xw yX4_isLate cX4_isLate 2 (some .boolean)) rm_X4_isLate (va_Pc [.ref a, .int p0] (XPh E K F G h0)) (XQ E (fun v (u : Unit) => ∃ r : Int32, v = .int r ∧ (r = 0 ∨ r = 1) ∧ (((0 ≤ p0.toInt ∧ p0.toInt < ((G.1 a 6).toInt) ∧ p0.toInt < 1080) ∧ r.toInt = (aI (G.2.1 (F a 4)) (p0.toInt))) ∨ (¬ (0 ≤ p0.toInt ∧ p0.toInt < ((G.1 a 6).toInt) ∧ p0.toInt < 1080) ∧ r.toInt = 0))) (fun _ H => H = h0)) 0 0 (xA E) := by
  refine x_enter (by decide) (Nat.le_of_ble_eq_true rfl) ?_
  intro p e s m args below meth c Q S hr hlk hnm hQ hP ls hl
  obtain ⟨⟨hz, hK, hT⟩, hh⟩ := hP
  obtain ⟨hx, hb, -, -, -⟩ := id S
  have hS : va_S (xA E) s.heap s.heap [] := va_S.rf
  have hl : lv_has ls 2 [(0, .ref a), (1, .int p0)] := hl
  obtain ⟨hk9999, hj9999⟩ := fkX4_4 hT ha
  refine lv_aload_n hx hb dX4_isLate_0 rfl (lv_at hl 0 rfl) ?_
  refine lv_iload_n hx hb dX4_isLate_1 rfl (lv_at hl 1 rfl) ?_
  refine x_clp (x_runV (b := a) (As := [.int p0]) (rest := []) S (c_X4_isInside l E K F G s.heap a p0 ha) mv_X4_isInside km_X4_46 rfl rfl ⟨Nat.le_of_ble_eq_true rfl, Nat.le_of_ble_eq_true rfl⟩ (rc_6 hK hT ha) hK (fun _ => XPh.blind) (fun U hU hW => XPh.at hK hz hS hT hU hW) rfl hl.1 (Nat.le_of_ble_eq_true rfl) dX4_isLate_2 ⟨Nat.le_of_ble_eq_true rfl, Nat.le_of_ble_eq_true rfl⟩) hS ?_
  rintro _ _ locs ⟨x2, rfl, b2, t2⟩ hS
  have t2 : ((0 ≤ p0.toInt ∧ p0.toInt < ((G.1 a 6).toInt) ∧ p0.toInt < 1080) ∧ x2.toInt = 1) ∨ (¬ (0 ≤ p0.toInt ∧ p0.toInt < ((G.1 a 6).toInt) ∧ p0.toInt < 1080) ∧ x2.toInt = 0) := t2
  refine xi_zeq (tgt := 21) hx hb (rfl : Int32.toInt x2 = x2.toInt) dX4_isLate_5 (by decide) (fun c5 => ?_) (fun c5 => ?_)
  · refine lv_iconst (v := 0) hx hb dX4_isLate_21 (by decide) ?_
    exact x_rz hx hb hr (xnz (Or.inl rfl)) hlk hQ (Nat.le_of_ble_eq_true rfl) (Nat.le_of_ble_eq_true rfl) hS dX4_isLate_22 () ⟨_, rfl, (Or.inl rfl), (z_X4_isLate_1 p0.toInt x2.toInt ((G.1 a 6).toInt) (aI (G.2.1 (F a 4)) (p0.toInt)) t2 c5)⟩ hh
  · refine lv_aload_n hx hb dX4_isLate_8 rfl (lv_at hl 0 rfl) ?_
    refine gX4_4 S hK hT ha kf_X4_26 dX4_isLate_9 (fun _ _ => ?_)
    refine lv_iload_n hx hb dX4_isLate_12 rfl (lv_at hl 1 rfl) ?_
    refine al_3 S hK hT hk9999 ar_23 (by decide) (z_X4_number_2 p0.toInt x2.toInt ((G.1 a 6).toInt) t2 c5) dX4_isLate_13 (fun x13 hv13 o13 => ?_)
    have hv13 : x13.toInt = (aI (G.2.1 (F a 4)) (p0.toInt)) := hv13.trans (by rw [(rfl : Int32.toInt p0 = p0.toInt)])
    refine xi_zeq (tgt := 21) hx hb (hv13 : Int32.toInt x13 = (aI (G.2.1 (F a 4)) (p0.toInt))) dX4_isLate_14 (by decide) (fun c14 => ?_) (fun c14 => ?_)
    · refine lv_iconst (v := 0) hx hb dX4_isLate_21 (by decide) ?_
      exact x_rz hx hb hr (xnz (Or.inl rfl)) hlk hQ (Nat.le_of_ble_eq_true rfl) (Nat.le_of_ble_eq_true rfl) hS dX4_isLate_22 () ⟨_, rfl, (Or.inl rfl), (z_X4_isLate_3 p0.toInt ((G.1 a 6).toInt) (aI (G.2.1 (F a 4)) (p0.toInt)) c14)⟩ hh
    · refine lv_iconst (v := 1) hx hb dX4_isLate_17 (by decide) ?_
      refine lv_goto (tgt := 22) hx hb dX4_isLate_18 (by decide) ?_
      exact x_rz hx hb hr (xnz (Or.inr rfl)) hlk hQ (Nat.le_of_ble_eq_true rfl) (Nat.le_of_ble_eq_true rfl) hS dX4_isLate_22 () ⟨_, rfl, (Or.inr rfl), (z_X4_isLate_4 p0.toInt x2.toInt ((G.1 a 6).toInt) (aI (G.2.1 (F a 4)) (p0.toInt)) t2 c5 (xz01 o13 hv13) c14)⟩ hh

abbrev rm_X4_fails : Room := { frames := 1, cells := 0, slots := 0, locals := 21 }
set_option maxHeartbeats 4000000 in
set_option maxRecDepth 100000 in
theorem c_X4_fails (l : Launch) (E : XE) (K : Nat → Nat) (F : Nat → Nat → Nat) (G : XG) (h0 : Heap) (a : Nat) (p0 : Int32) (ha : K a = 6) : Met l yX4_fails (xw yX4_fails cX4_fails 2 (some .boolean)) rm_X4_fails (va_Pc [.ref a, .int p0] (XPh E K F G h0)) (XQ E (fun v (u : Unit) => ∃ r : Int32, v = .int r ∧ (r = 0 ∨ r = 1) ∧ (((0 ≤ p0.toInt ∧ p0.toInt < ((G.1 a 6).toInt) ∧ p0.toInt < 1080) ∧ r.toInt = (aI (G.2.1 (F a 5)) (p0.toInt))) ∨ (¬ (0 ≤ p0.toInt ∧ p0.toInt < ((G.1 a 6).toInt) ∧ p0.toInt < 1080) ∧ r.toInt = 0))) (fun _ H => H = h0)) 0 0 (xA E) := by
  refine x_enter (by decide) (Nat.le_of_ble_eq_true rfl) ?_
  intro p e s m args below meth c Q S hr hlk hnm hQ hP ls hl
  obtain ⟨⟨hz, hK, hT⟩, hh⟩ := hP
  obtain ⟨hx, hb, -, -, -⟩ := id S
  have hS : va_S (xA E) s.heap s.heap [] := va_S.rf
  have hl : lv_has ls 2 [(0, .ref a), (1, .int p0)] := hl
  obtain ⟨hk9999, hj9999⟩ := fkX4_5 hT ha
  refine lv_aload_n hx hb dX4_fails_0 rfl (lv_at hl 0 rfl) ?_
  refine lv_iload_n hx hb dX4_fails_1 rfl (lv_at hl 1 rfl) ?_
  refine x_clp (x_runV (b := a) (As := [.int p0]) (rest := []) S (c_X4_isInside l E K F G s.heap a p0 ha) mv_X4_isInside km_X4_46 rfl rfl ⟨Nat.le_of_ble_eq_true rfl, Nat.le_of_ble_eq_true rfl⟩ (rc_6 hK hT ha) hK (fun _ => XPh.blind) (fun U hU hW => XPh.at hK hz hS hT hU hW) rfl hl.1 (Nat.le_of_ble_eq_true rfl) dX4_fails_2 ⟨Nat.le_of_ble_eq_true rfl, Nat.le_of_ble_eq_true rfl⟩) hS ?_
  rintro _ _ locs ⟨x2, rfl, b2, t2⟩ hS
  have t2 : ((0 ≤ p0.toInt ∧ p0.toInt < ((G.1 a 6).toInt) ∧ p0.toInt < 1080) ∧ x2.toInt = 1) ∨ (¬ (0 ≤ p0.toInt ∧ p0.toInt < ((G.1 a 6).toInt) ∧ p0.toInt < 1080) ∧ x2.toInt = 0) := t2
  refine xi_zeq (tgt := 21) hx hb (rfl : Int32.toInt x2 = x2.toInt) dX4_fails_5 (by decide) (fun c5 => ?_) (fun c5 => ?_)
  · refine lv_iconst (v := 0) hx hb dX4_fails_21 (by decide) ?_
    exact x_rz hx hb hr (xnz (Or.inl rfl)) hlk hQ (Nat.le_of_ble_eq_true rfl) (Nat.le_of_ble_eq_true rfl) hS dX4_fails_22 () ⟨_, rfl, (Or.inl rfl), (z_X4_isLate_1 p0.toInt x2.toInt ((G.1 a 6).toInt) (aI (G.2.1 (F a 5)) (p0.toInt)) t2 c5)⟩ hh
  · refine lv_aload_n hx hb dX4_fails_8 rfl (lv_at hl 0 rfl) ?_
    refine gX4_5 S hK hT ha kf_X4_30 dX4_fails_9 (fun _ _ => ?_)
    refine lv_iload_n hx hb dX4_fails_12 rfl (lv_at hl 1 rfl) ?_
    refine al_3 S hK hT hk9999 ar_23 (by decide) (z_X4_number_2 p0.toInt x2.toInt ((G.1 a 6).toInt) t2 c5) dX4_fails_13 (fun x13 hv13 o13 => ?_)
    have hv13 : x13.toInt = (aI (G.2.1 (F a 5)) (p0.toInt)) := hv13.trans (by rw [(rfl : Int32.toInt p0 = p0.toInt)])
    refine xi_zeq (tgt := 21) hx hb (hv13 : Int32.toInt x13 = (aI (G.2.1 (F a 5)) (p0.toInt))) dX4_fails_14 (by decide) (fun c14 => ?_) (fun c14 => ?_)
    · refine lv_iconst (v := 0) hx hb dX4_fails_21 (by decide) ?_
      exact x_rz hx hb hr (xnz (Or.inl rfl)) hlk hQ (Nat.le_of_ble_eq_true rfl) (Nat.le_of_ble_eq_true rfl) hS dX4_fails_22 () ⟨_, rfl, (Or.inl rfl), (z_X4_isLate_3 p0.toInt ((G.1 a 6).toInt) (aI (G.2.1 (F a 5)) (p0.toInt)) c14)⟩ hh
    · refine lv_iconst (v := 1) hx hb dX4_fails_17 (by decide) ?_
      refine lv_goto (tgt := 22) hx hb dX4_fails_18 (by decide) ?_
      exact x_rz hx hb hr (xnz (Or.inr rfl)) hlk hQ (Nat.le_of_ble_eq_true rfl) (Nat.le_of_ble_eq_true rfl) hS dX4_fails_22 () ⟨_, rfl, (Or.inr rfl), (z_X4_isLate_4 p0.toInt x2.toInt ((G.1 a 6).toInt) (aI (G.2.1 (F a 5)) (p0.toInt)) t2 c5 (xz01 o13 hv13) c14)⟩ hh

theorem z_X4_firstFailing_1 (a0 : Int) (h0 : -2147483648 ≤ a0 ∧ a0 < 2147483648) : ¬ (2147483648 - a0 < ((0 : Nat) : Int)) := by omega
theorem z_X4_firstFailing_2 (a0 : Int) (a1 : Int) : (-1 : Int) = -1 ∨ (0 ≤ (-1 : Int) ∧ (-1 : Int) < a0 ∧ a1 = 1) := by omega
theorem z_X4_firstFailing_3 (a0 : Int) (a1 : Int) (a2 : Int) (h0 : 0 ≤ a2 ∧ a2 ≤ 1080) (h1 : 0 ≤ a0 ∧ a0 ≤ a2) (h2 : a1 = (a0 + 1) ∨ (a0 + 1) < -2147483648 ∨ 2147483648 ≤ (a0 + 1)) : a1 = (a0 + 1) := by omega
theorem z_X4_firstFailing_4 (a0 : Int) (a1 : Int) (h0 : 0 ≤ a0 ∧ a0 ≤ a1) (h1 : ¬ (a1 ≤ a0)) : 0 ≤ (a0 + 1) ∧ (a0 + 1) ≤ a1 := by omega
theorem z_X4_firstFailing_5 (a0 : Int) (a1 : Int) (h0 : 0 ≤ a0 ∧ a0 ≤ a1) : (0 : Int) ≤ (a0 + 1) := by omega
theorem z_X4_firstFailing_6 (a0 : Int) (a1 : Nat) (h0 : 2147483648 - a0 < ((a1 + 1 : Nat) : Int)) : 2147483648 - (a0 + 1) < ((a1 : Nat) : Int) := by omega
theorem z_X4_firstFailing_7 (a0 : Int) (a1 : Int) (a2 : Int) (a3 : Int) (h0 : ((0 ≤ a0 ∧ a0 < a2 ∧ a0 < 1080) ∧ a1 = a3) ∨ (¬ (0 ≤ a0 ∧ a0 < a2 ∧ a0 < 1080) ∧ a1 = 0)) (h1 : a1 = 0 ∨ a1 = 1) (h2 : ¬ (a1 = 0)) : a0 = -1 ∨ (0 ≤ a0 ∧ a0 < a2 ∧ a3 = 1) := by omega
theorem z_X4_firstFailing_8 (a0 : Int) (h0 : 0 ≤ a0 ∧ a0 ≤ 1080) : 0 ≤ (0 : Int) ∧ (0 : Int) ≤ a0 := by omega
abbrev rm_X4_firstFailing : Room := { frames := 2, cells := 0, slots := 0, locals := 42 }
set_option maxHeartbeats 4000000 in
set_option maxRecDepth 100000 in
theorem c_X4_firstFailing (l : Launch) (E : XE) (K : Nat → Nat) (F : Nat → Nat → Nat) (G : XG) (h0 : Heap) (a : Nat) (ha : K a = 6) (s0 : 0 ≤ ((G.1 a 6).toInt) ∧ ((G.1 a 6).toInt) ≤ 1080) : Met l yX4_firstFailing (xw yX4_firstFailing cX4_firstFailing 2 (some .int)) rm_X4_firstFailing (va_Pc [.ref a] (XPh E K F G h0)) (XQ E (fun v (u : Unit) => ∃ r : Int32, v = .int r ∧ (r.toInt = -1 ∨ (0 ≤ r.toInt ∧ r.toInt < ((G.1 a 6).toInt) ∧ (aI (G.2.1 (F a 5)) (r.toInt)) = 1)) ∧ (∀ j : Int, 0 ≤ j → j < ((G.1 a 6).toInt) → (r.toInt = -1 ∨ j < r.toInt) → aI (G.2.1 (F a 5)) j = 0)) (fun _ H => H = h0)) 0 0 (xA E) := by
  refine x_enter (by decide) (Nat.le_of_ble_eq_true rfl) ?_
  intro p e s m args below meth c Q S hr hlk hnm hQ hP ls hl
  obtain ⟨⟨hz, hK, hT⟩, hh⟩ := hP
  obtain ⟨hx, hb, -, -, -⟩ := id S
  have hS : va_S (xA E) s.heap s.heap [] := va_S.rf
  have hl : lv_has ls 2 [(0, .ref a)] := hl
  obtain ⟨hk9999, hj9999⟩ := fkX4_5 hT ha
  refine lv_iconst (v := 0) hx hb dX4_firstFailing_0 (by decide) ?_
  refine lv_istore_n (lv' := [(1, .int 0), (0, .ref a)]) hx hb dX4_firstFailing_1 rfl hl (by decide) rfl (fun ls hl => ?_)
  have L2 : ∀ (N2 : Nat) (l1_2 : Int32) (locs : List Loc) (ls : Array Slot), (∀ j : Int, 0 ≤ j → j < l1_2.toInt → aI (G.2.1 (F a 5)) j = 0) → 0 ≤ l1_2.toInt ∧ l1_2.toInt ≤ ((G.1 a 6).toInt) → (0 : Int) ≤ l1_2.toInt → 2147483648 - l1_2.toInt < ((N2 : Nat) : Int) → TW E K F G s.heap → va_S (xA E) s.heap s.heap locs → lv_has ls 2 [(0, .ref a), (1, .int l1_2)] → W p l e rm_X4_firstFailing s m args below meth c s.heap locs 0 0 Q (F0 m 2 ls []) := by
    intro N2
    induction N2 with
    | zero =>
      intro l1_2 locs ls pf I2_0 I2_1 hm2
      exact absurd hm2 (z_X4_firstFailing_1 l1_2.toInt (xr l1_2))
    | succ N2 ih2 =>
      intro l1_2 locs ls pf I2_0 I2_1 hm2 hT hS hl
      refine lv_iload_n hx hb dX4_firstFailing_2 rfl (lv_at hl 1 rfl) ?_
      refine lv_aload_n hx hb dX4_firstFailing_3 rfl (lv_at hl 0 rfl) ?_
      refine gX4_6 S hK hT ha kf_X4_33 dX4_firstFailing_4 (v := (G.1 a 6)) rfl (?_)
      refine xi_cge (tgt := 26) hx hb (rfl : Int32.toInt l1_2 = l1_2.toInt) (rfl : Int32.toInt (G.1 a 6) = ((G.1 a 6).toInt)) dX4_firstFailing_7 (by decide) (fun c7 => ?_) (fun c7 => ?_)
      · refine lv_iconst (v := (-1)) hx hb dX4_firstFailing_26 (by decide) ?_
        exact x_ri hx hb hr hlk hQ (Nat.le_of_ble_eq_true rfl) (Nat.le_of_ble_eq_true rfl) hS dX4_firstFailing_27 () ⟨_, rfl, (by rw [((by decide) : Int32.toInt (-1) = (-1 : Int))] <;> exact (z_X4_firstFailing_2 ((G.1 a 6).toInt) (aI (G.2.1 (F a 5)) (-1 : Int)))), (by rw [((by decide) : Int32.toInt (-1) = (-1 : Int))] <;> exact (v_X4_firstFailing_27_1 a l1_2 G N2 ha pf s0 I2_0 I2_1 hm2 c7))⟩ hh
      · refine lv_aload_n hx hb dX4_firstFailing_10 rfl (lv_at hl 0 rfl) ?_
        refine lv_iload_n hx hb dX4_firstFailing_11 rfl (lv_at hl 1 rfl) ?_
        refine x_clp (x_runV (b := a) (As := [.int l1_2]) (rest := []) S (c_X4_fails l E K F G s.heap a l1_2 ha) mv_X4_fails km_X4_50 rfl rfl ⟨Nat.le_of_ble_eq_true rfl, Nat.le_of_ble_eq_true rfl⟩ (rc_6 hK hT ha) hK (fun _ => XPh.blind) (fun U hU hW => XPh.at hK hz hS hT hU hW) rfl hl.1 (Nat.le_of_ble_eq_true rfl) dX4_firstFailing_12 ⟨Nat.le_of_ble_eq_true rfl, Nat.le_of_ble_eq_true rfl⟩) hS ?_
        rintro _ _ locs ⟨x12, rfl, b12, t12⟩ hS
        have t12 : ((0 ≤ l1_2.toInt ∧ l1_2.toInt < ((G.1 a 6).toInt) ∧ l1_2.toInt < 1080) ∧ x12.toInt = (aI (G.2.1 (F a 5)) (l1_2.toInt))) ∨ (¬ (0 ≤ l1_2.toInt ∧ l1_2.toInt < ((G.1 a 6).toInt) ∧ l1_2.toInt < 1080) ∧ x12.toInt = 0) := t12
        refine xi_zeq (tgt := 20) hx hb (rfl : Int32.toInt x12 = x12.toInt) dX4_firstFailing_15 (by decide) (fun c15 => ?_) (fun c15 => ?_)
        · refine xi_iinc (n := 1) (lv' := fun z9 => [(1, .int z9), (0, .ref a)]) (k := 1) hx hb (rfl : Int32.toInt l1_2 = l1_2.toInt) (by decide) dX4_firstFailing_20 hl rfl (by decide) (fun _ => rfl) (fun x20 ls t20 hl => ?_)
          have e20 : x20.toInt = (l1_2.toInt + 1) := (z_X4_firstFailing_3 l1_2.toInt x20.toInt ((G.1 a 6).toInt) s0 I2_0 t20)
          have hl : lv_has ls 2 [(1, .int x20), (0, .ref a)] := hl
          refine lv_goto (tgt := 2) hx hb dX4_firstFailing_23 (by decide) ?_
          exact ih2 x20 _ _ (by rw [(e20 : Int32.toInt x20 = (l1_2.toInt + 1))] <;> exact (v_X4_firstFailing_23_2 a l1_2 G N2 x12 ha pf s0 I2_0 I2_1 hm2 c7 t12 (xzi b12) c15)) (by rw [(e20 : Int32.toInt x20 = (l1_2.toInt + 1))] <;> exact (z_X4_firstFailing_4 l1_2.toInt ((G.1 a 6).toInt) I2_0 c7)) (by rw [(e20 : Int32.toInt x20 = (l1_2.toInt + 1))] <;> exact (z_X4_firstFailing_5 l1_2.toInt ((G.1 a 6).toInt) I2_0)) (by rw [(e20 : Int32.toInt x20 = (l1_2.toInt + 1))] <;> exact (z_X4_firstFailing_6 l1_2.toInt N2 hm2)) hT hS (lv_sub hl [1, 0] rfl)
        · refine lv_iload_n hx hb dX4_firstFailing_18 rfl (lv_at hl 1 rfl) ?_
          exact x_ri hx hb hr hlk hQ (Nat.le_of_ble_eq_true rfl) (Nat.le_of_ble_eq_true rfl) hS dX4_firstFailing_19 () ⟨_, rfl, (z_X4_firstFailing_7 l1_2.toInt x12.toInt ((G.1 a 6).toInt) (aI (G.2.1 (F a 5)) (l1_2.toInt)) t12 (xzi b12) c15), (v_X4_firstFailing_19_3 a l1_2 G N2 x12 ha pf s0 I2_0 I2_1 hm2 c7 t12 (xzi b12) c15)⟩ hh
  exact L2 4294967297 0 _ _ (v_X4_firstFailing_1_4 a G ha s0) (z_X4_firstFailing_8 ((G.1 a 6).toInt) s0) (by decide) (by decide) hT hS (lv_sub hl [1, 0] rfl)

theorem z_X4_ofRule_2 (a0 : Int) (a1 : Int) (a2 : Int) (a3 : Int) (a4 : Int) (h0 : 0 ≤ a1 ∧ a1 ≤ a2) (h1 : a0 = a4) (h2 : a2 ≤ a1) (h3 : a1 = a2 → a4 = a3) : a0 = a3 := by omega
theorem z_X4_ofRule_3 (a0 : Int) (a1 : Int) (h0 : 0 ≤ a0 ∧ a0 ≤ a1) : 0 ≤ a0 := by omega
theorem z_X4_ofRule_6 (a0 : Int) (a1 : Int) (a2 : Int) (a3 : Int) (a4 : Int) (a5 : Int) (a6 : Int) (a7 : Int) (h0 : 0 ≤ a4 ∧ a4 ≤ 1080) (h1 : 0 ≤ a1 ∧ a1 ≤ a4) (h2 : a0 = a7) (h3 : ¬ (a4 ≤ a1)) (h4 : a5 ≠ a2 → a6 = a7) (h5 : ((0 ≤ a1 ∧ a1 < a4 ∧ a1 < 1080) ∧ a3 = a5) ∨ (¬ (0 ≤ a1 ∧ a1 < a4 ∧ a1 < 1080) ∧ a3 = -1)) (h6 : a3 ≠ a2) : a0 = a6 := by omega
theorem z_X4_ofRule_7 (a0 : Int) (a1 : Int) (h0 : 0 ≤ a0 ∧ a0 ≤ a1) : 0 ≤ a0 ∧ a0 ≤ (a1 + 1) := by omega
theorem z_X4_ofRule_10 (a0 : Int) (a1 : Int) (a2 : Int) (a3 : Int) (h0 : 0 ≤ a3 ∧ a3 ≤ 1080) (h1 : 0 ≤ a0 ∧ a0 ≤ a1) (h2 : ¬ (a3 ≤ a1)) (h3 : a2 = (a0 + 1) ∨ (a0 + 1) < -2147483648 ∨ 2147483648 ≤ (a0 + 1)) : a2 = (a0 + 1) := by omega
theorem z_X4_ofRule_13 (a0 : Int) (a1 : Int) (a2 : Int) (a3 : Int) (a4 : Int) (a5 : Int) (a6 : Int) (a7 : Int) (h0 : 0 ≤ a4 ∧ a4 ≤ 1080) (h1 : 0 ≤ a1 ∧ a1 ≤ a4) (h2 : a0 = a7) (h3 : ¬ (a4 ≤ a1)) (h4 : a5 = a2 → a6 = a7 + 1) (h5 : ((0 ≤ a1 ∧ a1 < a4 ∧ a1 < 1080) ∧ a3 = a5) ∨ (¬ (0 ≤ a1 ∧ a1 < a4 ∧ a1 < 1080) ∧ a3 = -1)) (h6 : ¬ (a3 ≠ a2)) : (a0 + 1) = a6 := by omega
theorem z_X4_ofRule_14 (a0 : Int) (a1 : Int) (h0 : 0 ≤ a0 ∧ a0 ≤ a1) : 0 ≤ (a0 + 1) ∧ (a0 + 1) ≤ (a1 + 1) := by omega
theorem z_X4_ofRule_18 (a0 : Int) (h0 : a0 = 0) : (0 : Int) = a0 := by omega
abbrev rm_X4_ofRule : Room := { frames := 2, cells := 0, slots := 0, locals := 42 }
set_option maxHeartbeats 4000000 in
set_option maxRecDepth 100000 in
theorem c_X4_ofRule (l : Launch) (E : XE) (K : Nat → Nat) (F : Nat → Nat → Nat) (G : XG) (h0 : Heap) (a : Nat) (p0 : Int32) (ha : K a = 6) (s0 : 0 ≤ ((G.1 a 6).toInt) ∧ ((G.1 a 6).toInt) ≤ 1080) : Met l yX4_ofRule (xw yX4_ofRule cX4_ofRule 4 (some .int)) rm_X4_ofRule (va_Pc [.ref a, .int p0] (XPh E K F G h0)) (XQ E (fun v (u : Unit) => ∃ r : Int32, v = .int r ∧ (r.toInt = (hv (aI (G.2.1 (F a 0))) 0 (p0.toInt) ((G.1 a 6).toInt)))) (fun _ H => H = h0)) 0 0 (xA E) := by
  refine x_enter (by decide) (Nat.le_of_ble_eq_true rfl) ?_
  intro p e s m args below meth c Q S hr hlk hnm hQ hP ls hl
  obtain ⟨⟨hz, hK, hT⟩, hh⟩ := hP
  obtain ⟨hx, hb, -, -, -⟩ := id S
  have hS : va_S (xA E) s.heap s.heap [] := va_S.rf
  have hl : lv_has ls 4 [(0, .ref a), (1, .int p0)] := hl
  obtain ⟨hk9999, hj9999⟩ := fkX4_0 hT ha
  have z0 : (hv (aI (G.2.1 (F a 0))) 0 (p0.toInt) 0) = 0 := hv_0 _ _ _
  refine lv_iconst (v := 0) hx hb dX4_ofRule_0 (by decide) ?_
  refine lv_istore_n (lv' := [(2, .int 0), (0, .ref a), (1, .int p0)]) hx hb dX4_ofRule_1 rfl hl (by decide) rfl (fun ls hl => ?_)
  refine lv_iconst (v := 0) hx hb dX4_ofRule_2 (by decide) ?_
  refine lv_istore_n (lv' := [(3, .int 0), (2, .int 0), (0, .ref a), (1, .int p0)]) hx hb dX4_ofRule_3 rfl hl (by decide) rfl (fun ls hl => ?_)
  have L4 : ∀ (N4 : Nat) (l2_4 : Int32) (l3_4 : Int32) (locs : List Loc) (ls : Array Slot), 0 ≤ l3_4.toInt ∧ l3_4.toInt ≤ ((G.1 a 6).toInt) → l2_4.toInt = (hv (aI (G.2.1 (F a 0))) 0 (p0.toInt) (l3_4.toInt)) → 0 ≤ l2_4.toInt ∧ l2_4.toInt ≤ l3_4.toInt → (0 : Int) ≤ l3_4.toInt → 2147483648 - l3_4.toInt < ((N4 : Nat) : Int) → TW E K F G s.heap → va_S (xA E) s.heap s.heap locs → lv_has ls 4 [(0, .ref a), (1, .int p0), (2, .int l2_4), (3, .int l3_4)] → W p l e rm_X4_ofRule s m args below meth c s.heap locs 0 0 Q (F0 m 4 ls []) := by
    intro N4
    induction N4 with
    | zero =>
      intro l2_4 l3_4 locs ls I4_0 I4_1 I4_2 I4_3 hm4
      exact absurd hm4 (z_X4_firstFailing_1 l3_4.toInt (xr l3_4))
    | succ N4 ih4 =>
      intro l2_4 l3_4 locs ls I4_0 I4_1 I4_2 I4_3 hm4 hT hS hl
      refine lv_iload_n hx hb dX4_ofRule_4 rfl (lv_at hl 3 rfl) ?_
      refine lv_aload_n hx hb dX4_ofRule_5 rfl (lv_at hl 0 rfl) ?_
      refine gX4_6 S hK hT ha kf_X4_33 dX4_ofRule_6 (v := (G.1 a 6)) rfl (?_)
      refine xi_cge (tgt := 30) hx hb (rfl : Int32.toInt l3_4 = l3_4.toInt) (rfl : Int32.toInt (G.1 a 6) = ((G.1 a 6).toInt)) dX4_ofRule_9 (by decide) (fun c9 => ?_) (fun c9 => ?_)
      · have z30 : l3_4.toInt = ((G.1 a 6).toInt) → (hv (aI (G.2.1 (F a 0))) 0 (p0.toInt) (l3_4.toInt)) = (hv (aI (G.2.1 (F a 0))) 0 (p0.toInt) ((G.1 a 6).toInt)) := fun h9 => by rw [h9]
        refine lv_iload_n hx hb dX4_ofRule_30 rfl (lv_at hl 2 rfl) ?_
        exact x_ri hx hb hr hlk hQ (Nat.le_of_ble_eq_true rfl) (Nat.le_of_ble_eq_true rfl) hS dX4_ofRule_31 () ⟨_, rfl, (z_X4_ofRule_2 l2_4.toInt l3_4.toInt ((G.1 a 6).toInt) (hv (aI (G.2.1 (F a 0))) 0 (p0.toInt) ((G.1 a 6).toInt)) (hv (aI (G.2.1 (F a 0))) 0 (p0.toInt) (l3_4.toInt)) I4_0 I4_1 c9 z30)⟩ hh
      · have z12 : ((aI (G.2.1 (F a 0)) (l3_4.toInt)) = p0.toInt → (hv (aI (G.2.1 (F a 0))) 0 (p0.toInt) (l3_4.toInt + 1)) = (hv (aI (G.2.1 (F a 0))) 0 (p0.toInt) (l3_4.toInt)) + 1) ∧ ((aI (G.2.1 (F a 0)) (l3_4.toInt)) ≠ p0.toInt → (hv (aI (G.2.1 (F a 0))) 0 (p0.toInt) (l3_4.toInt + 1)) = (hv (aI (G.2.1 (F a 0))) 0 (p0.toInt) (l3_4.toInt))) := hv_st (z_X4_ofRule_3 l3_4.toInt ((G.1 a 6).toInt) I4_0) (by rw [Int.zero_add])
        refine lv_aload_n hx hb dX4_ofRule_12 rfl (lv_at hl 0 rfl) ?_
        refine lv_iload_n hx hb dX4_ofRule_13 rfl (lv_at hl 3 rfl) ?_
        refine x_clp (x_runV (b := a) (As := [.int l3_4]) (rest := []) S (c_X4_number l E K F G s.heap a l3_4 ha) mv_X4_number km_X4_53 rfl rfl ⟨Nat.le_of_ble_eq_true rfl, Nat.le_of_ble_eq_true rfl⟩ (rc_6 hK hT ha) hK (fun _ => XPh.blind) (fun U hU hW => XPh.at hK hz hS hT hU hW) rfl hl.1 (Nat.le_of_ble_eq_true rfl) dX4_ofRule_14 ⟨Nat.le_of_ble_eq_true rfl, Nat.le_of_ble_eq_true rfl⟩) hS ?_
        rintro _ _ locs ⟨x14, rfl, t14⟩ hS
        have t14 : ((0 ≤ l3_4.toInt ∧ l3_4.toInt < ((G.1 a 6).toInt) ∧ l3_4.toInt < 1080) ∧ x14.toInt = (aI (G.2.1 (F a 0)) (l3_4.toInt))) ∨ (¬ (0 ≤ l3_4.toInt ∧ l3_4.toInt < ((G.1 a 6).toInt) ∧ l3_4.toInt < 1080) ∧ x14.toInt = -1) := t14
        refine lv_iload_n hx hb dX4_ofRule_17 rfl (lv_at hl 1 rfl) ?_
        refine xi_cne (tgt := 24) hx hb (rfl : Int32.toInt x14 = x14.toInt) (rfl : Int32.toInt p0 = p0.toInt) dX4_ofRule_18 (by decide) (fun c18 => ?_) (fun c18 => ?_)
        · refine xi_iinc (n := 1) (lv' := fun z9 => [(3, .int z9), (0, .ref a), (1, .int p0), (2, .int l2_4)]) (k := 3) hx hb (rfl : Int32.toInt l3_4 = l3_4.toInt) (by decide) dX4_ofRule_24 hl rfl (by decide) (fun _ => rfl) (fun x24 ls t24 hl => ?_)
          have e24 : x24.toInt = (l3_4.toInt + 1) := (z_X4_firstFailing_3 l3_4.toInt x24.toInt ((G.1 a 6).toInt) s0 I4_0 t24)
          have hl : lv_has ls 4 [(3, .int x24), (0, .ref a), (1, .int p0), (2, .int l2_4)] := hl
          refine lv_goto (tgt := 4) hx hb dX4_ofRule_27 (by decide) ?_
          exact ih4 l2_4 x24 _ _ (by rw [(e24 : Int32.toInt x24 = (l3_4.toInt + 1))] <;> exact (z_X4_firstFailing_4 l3_4.toInt ((G.1 a 6).toInt) I4_0 c9)) (by rw [(e24 : Int32.toInt x24 = (l3_4.toInt + 1))] <;> exact (z_X4_ofRule_6 l2_4.toInt l3_4.toInt p0.toInt x14.toInt ((G.1 a 6).toInt) (aI (G.2.1 (F a 0)) (l3_4.toInt)) (hv (aI (G.2.1 (F a 0))) 0 (p0.toInt) (l3_4.toInt + 1)) (hv (aI (G.2.1 (F a 0))) 0 (p0.toInt) (l3_4.toInt)) s0 I4_0 I4_1 c9 (z12).2 t14 c18)) (by rw [(e24 : Int32.toInt x24 = (l3_4.toInt + 1))] <;> exact (z_X4_ofRule_7 l2_4.toInt l3_4.toInt I4_2)) (by rw [(e24 : Int32.toInt x24 = (l3_4.toInt + 1))] <;> exact (z_X4_firstFailing_5 l3_4.toInt ((G.1 a 6).toInt) I4_0)) (by rw [(e24 : Int32.toInt x24 = (l3_4.toInt + 1))] <;> exact (z_X4_firstFailing_6 l3_4.toInt N4 hm4)) hT hS (lv_sub hl [1, 2, 3, 0] rfl)
        · refine xi_iinc (n := 1) (lv' := fun z9 => [(2, .int z9), (0, .ref a), (1, .int p0), (3, .int l3_4)]) (k := 2) hx hb (rfl : Int32.toInt l2_4 = l2_4.toInt) (by decide) dX4_ofRule_21 hl rfl (by decide) (fun _ => rfl) (fun x21 ls t21 hl => ?_)
          have e21 : x21.toInt = (l2_4.toInt + 1) := (z_X4_ofRule_10 l2_4.toInt l3_4.toInt x21.toInt ((G.1 a 6).toInt) s0 I4_2 c9 t21)
          have hl : lv_has ls 4 [(2, .int x21), (0, .ref a), (1, .int p0), (3, .int l3_4)] := hl
          refine xi_iinc (n := 1) (lv' := fun z9 => [(3, .int z9), (2, .int x21), (0, .ref a), (1, .int p0)]) (k := 3) hx hb (rfl : Int32.toInt l3_4 = l3_4.toInt) (by decide) dX4_ofRule_24 hl rfl (by decide) (fun _ => rfl) (fun x24 ls t24 hl => ?_)
          have e24 : x24.toInt = (l3_4.toInt + 1) := (z_X4_firstFailing_3 l3_4.toInt x24.toInt ((G.1 a 6).toInt) s0 I4_0 t24)
          have hl : lv_has ls 4 [(3, .int x24), (2, .int x21), (0, .ref a), (1, .int p0)] := hl
          refine lv_goto (tgt := 4) hx hb dX4_ofRule_27 (by decide) ?_
          exact ih4 x21 x24 _ _ (by rw [(e24 : Int32.toInt x24 = (l3_4.toInt + 1))] <;> exact (z_X4_firstFailing_4 l3_4.toInt ((G.1 a 6).toInt) I4_0 c9)) (by rw [(e21 : Int32.toInt x21 = (l2_4.toInt + 1)), (e24 : Int32.toInt x24 = (l3_4.toInt + 1))] <;> exact (z_X4_ofRule_13 l2_4.toInt l3_4.toInt p0.toInt x14.toInt ((G.1 a 6).toInt) (aI (G.2.1 (F a 0)) (l3_4.toInt)) (hv (aI (G.2.1 (F a 0))) 0 (p0.toInt) (l3_4.toInt + 1)) (hv (aI (G.2.1 (F a 0))) 0 (p0.toInt) (l3_4.toInt)) s0 I4_0 I4_1 c9 (z12).1 t14 c18)) (by rw [(e21 : Int32.toInt x21 = (l2_4.toInt + 1)), (e24 : Int32.toInt x24 = (l3_4.toInt + 1))] <;> exact (z_X4_ofRule_14 l2_4.toInt l3_4.toInt I4_2)) (by rw [(e24 : Int32.toInt x24 = (l3_4.toInt + 1))] <;> exact (z_X4_firstFailing_5 l3_4.toInt ((G.1 a 6).toInt) I4_0)) (by rw [(e24 : Int32.toInt x24 = (l3_4.toInt + 1))] <;> exact (z_X4_firstFailing_6 l3_4.toInt N4 hm4)) hT hS (lv_sub hl [2, 3, 1, 0] rfl)
  exact L4 4294967297 0 0 _ _ (z_X4_firstFailing_8 ((G.1 a 6).toInt) s0) (z_X4_ofRule_18 (hv (aI (G.2.1 (F a 0))) 0 (p0.toInt) 0) z0) (by decide) (by decide) (by decide) hT hS (lv_sub hl [2, 3, 1, 0] rfl)

theorem z_X4_failing_6 (a0 : Int) (a1 : Int) (a2 : Int) (a3 : Int) (a4 : Int) (a5 : Int) (a6 : Int) (h0 : 0 ≤ a3 ∧ a3 ≤ 1080) (h1 : 0 ≤ a1 ∧ a1 ≤ a3) (h2 : a0 = a6) (h3 : ¬ (a3 ≤ a1)) (h4 : a4 ≠ 1 → a5 = a6) (h5 : ((0 ≤ a1 ∧ a1 < a3 ∧ a1 < 1080) ∧ a2 = a4) ∨ (¬ (0 ≤ a1 ∧ a1 < a3 ∧ a1 < 1080) ∧ a2 = 0)) (h6 : a2 = 0) : a0 = a5 := by omega
theorem z_X4_failing_13 (a0 : Int) (a1 : Int) (a2 : Int) (a3 : Int) (a4 : Int) (a5 : Int) (a6 : Int) (h0 : a0 = a6) (h1 : a4 = 1 → a5 = a6 + 1) (h2 : ((0 ≤ a1 ∧ a1 < a3 ∧ a1 < 1080) ∧ a2 = a4) ∨ (¬ (0 ≤ a1 ∧ a1 < a3 ∧ a1 < 1080) ∧ a2 = 0)) (h3 : a2 = 0 ∨ a2 = 1) (h4 : ¬ (a2 = 0)) : (a0 + 1) = a5 := by omega
abbrev rm_X4_failing : Room := { frames := 2, cells := 0, slots := 0, locals := 42 }
set_option maxHeartbeats 4000000 in
set_option maxRecDepth 100000 in
theorem c_X4_failing (l : Launch) (E : XE) (K : Nat → Nat) (F : Nat → Nat → Nat) (G : XG) (h0 : Heap) (a : Nat) (ha : K a = 6) (s0 : 0 ≤ ((G.1 a 6).toInt) ∧ ((G.1 a 6).toInt) ≤ 1080) : Met l yX4_failing (xw yX4_failing cX4_failing 3 (some .int)) rm_X4_failing (va_Pc [.ref a] (XPh E K F G h0)) (XQ E (fun v (u : Unit) => ∃ r : Int32, v = .int r ∧ (r.toInt = (hv (aI (G.2.1 (F a 5))) 0 1 ((G.1 a 6).toInt)))) (fun _ H => H = h0)) 0 0 (xA E) := by
  refine x_enter (by decide) (Nat.le_of_ble_eq_true rfl) ?_
  intro p e s m args below meth c Q S hr hlk hnm hQ hP ls hl
  obtain ⟨⟨hz, hK, hT⟩, hh⟩ := hP
  obtain ⟨hx, hb, -, -, -⟩ := id S
  have hS : va_S (xA E) s.heap s.heap [] := va_S.rf
  have hl : lv_has ls 3 [(0, .ref a)] := hl
  obtain ⟨hk9999, hj9999⟩ := fkX4_5 hT ha
  have z0 : (hv (aI (G.2.1 (F a 5))) 0 1 0) = 0 := hv_0 _ _ _
  refine lv_iconst (v := 0) hx hb dX4_failing_0 (by decide) ?_
  refine lv_istore_n (lv' := [(1, .int 0), (0, .ref a)]) hx hb dX4_failing_1 rfl hl (by decide) rfl (fun ls hl => ?_)
  refine lv_iconst (v := 0) hx hb dX4_failing_2 (by decide) ?_
  refine lv_istore_n (lv' := [(2, .int 0), (1, .int 0), (0, .ref a)]) hx hb dX4_failing_3 rfl hl (by decide) rfl (fun ls hl => ?_)
  have L4 : ∀ (N4 : Nat) (l1_4 : Int32) (l2_4 : Int32) (locs : List Loc) (ls : Array Slot), 0 ≤ l2_4.toInt ∧ l2_4.toInt ≤ ((G.1 a 6).toInt) → l1_4.toInt = (hv (aI (G.2.1 (F a 5))) 0 1 (l2_4.toInt)) → 0 ≤ l1_4.toInt ∧ l1_4.toInt ≤ l2_4.toInt → (0 : Int) ≤ l2_4.toInt → 2147483648 - l2_4.toInt < ((N4 : Nat) : Int) → TW E K F G s.heap → va_S (xA E) s.heap s.heap locs → lv_has ls 3 [(0, .ref a), (1, .int l1_4), (2, .int l2_4)] → W p l e rm_X4_failing s m args below meth c s.heap locs 0 0 Q (F0 m 4 ls []) := by
    intro N4
    induction N4 with
    | zero =>
      intro l1_4 l2_4 locs ls I4_0 I4_1 I4_2 I4_3 hm4
      exact absurd hm4 (z_X4_firstFailing_1 l2_4.toInt (xr l2_4))
    | succ N4 ih4 =>
      intro l1_4 l2_4 locs ls I4_0 I4_1 I4_2 I4_3 hm4 hT hS hl
      refine lv_iload_n hx hb dX4_failing_4 rfl (lv_at hl 2 rfl) ?_
      refine lv_aload_n hx hb dX4_failing_5 rfl (lv_at hl 0 rfl) ?_
      refine gX4_6 S hK hT ha kf_X4_33 dX4_failing_6 (v := (G.1 a 6)) rfl (?_)
      refine xi_cge (tgt := 29) hx hb (rfl : Int32.toInt l2_4 = l2_4.toInt) (rfl : Int32.toInt (G.1 a 6) = ((G.1 a 6).toInt)) dX4_failing_9 (by decide) (fun c9 => ?_) (fun c9 => ?_)
      · have z29 : l2_4.toInt = ((G.1 a 6).toInt) → (hv (aI (G.2.1 (F a 5))) 0 1 (l2_4.toInt)) = (hv (aI (G.2.1 (F a 5))) 0 1 ((G.1 a 6).toInt)) := fun h9 => by rw [h9]
        refine lv_iload_n hx hb dX4_failing_29 rfl (lv_at hl 1 rfl) ?_
        exact x_ri hx hb hr hlk hQ (Nat.le_of_ble_eq_true rfl) (Nat.le_of_ble_eq_true rfl) hS dX4_failing_30 () ⟨_, rfl, (z_X4_ofRule_2 l1_4.toInt l2_4.toInt ((G.1 a 6).toInt) (hv (aI (G.2.1 (F a 5))) 0 1 ((G.1 a 6).toInt)) (hv (aI (G.2.1 (F a 5))) 0 1 (l2_4.toInt)) I4_0 I4_1 c9 z29)⟩ hh
      · have z12 : ((aI (G.2.1 (F a 5)) (l2_4.toInt)) = 1 → (hv (aI (G.2.1 (F a 5))) 0 1 (l2_4.toInt + 1)) = (hv (aI (G.2.1 (F a 5))) 0 1 (l2_4.toInt)) + 1) ∧ ((aI (G.2.1 (F a 5)) (l2_4.toInt)) ≠ 1 → (hv (aI (G.2.1 (F a 5))) 0 1 (l2_4.toInt + 1)) = (hv (aI (G.2.1 (F a 5))) 0 1 (l2_4.toInt))) := hv_st (z_X4_ofRule_3 l2_4.toInt ((G.1 a 6).toInt) I4_0) (by rw [Int.zero_add])
        refine lv_aload_n hx hb dX4_failing_12 rfl (lv_at hl 0 rfl) ?_
        refine lv_iload_n hx hb dX4_failing_13 rfl (lv_at hl 2 rfl) ?_
        refine x_clp (x_runV (b := a) (As := [.int l2_4]) (rest := []) S (c_X4_fails l E K F G s.heap a l2_4 ha) mv_X4_fails km_X4_50 rfl rfl ⟨Nat.le_of_ble_eq_true rfl, Nat.le_of_ble_eq_true rfl⟩ (rc_6 hK hT ha) hK (fun _ => XPh.blind) (fun U hU hW => XPh.at hK hz hS hT hU hW) rfl hl.1 (Nat.le_of_ble_eq_true rfl) dX4_failing_14 ⟨Nat.le_of_ble_eq_true rfl, Nat.le_of_ble_eq_true rfl⟩) hS ?_
        rintro _ _ locs ⟨x14, rfl, b14, t14⟩ hS
        have t14 : ((0 ≤ l2_4.toInt ∧ l2_4.toInt < ((G.1 a 6).toInt) ∧ l2_4.toInt < 1080) ∧ x14.toInt = (aI (G.2.1 (F a 5)) (l2_4.toInt))) ∨ (¬ (0 ≤ l2_4.toInt ∧ l2_4.toInt < ((G.1 a 6).toInt) ∧ l2_4.toInt < 1080) ∧ x14.toInt = 0) := t14
        refine xi_zeq (tgt := 23) hx hb (rfl : Int32.toInt x14 = x14.toInt) dX4_failing_17 (by decide) (fun c17 => ?_) (fun c17 => ?_)
        · refine xi_iinc (n := 1) (lv' := fun z9 => [(2, .int z9), (0, .ref a), (1, .int l1_4)]) (k := 2) hx hb (rfl : Int32.toInt l2_4 = l2_4.toInt) (by decide) dX4_failing_23 hl rfl (by decide) (fun _ => rfl) (fun x23 ls t23 hl => ?_)
          have e23 : x23.toInt = (l2_4.toInt + 1) := (z_X4_firstFailing_3 l2_4.toInt x23.toInt ((G.1 a 6).toInt) s0 I4_0 t23)
          have hl : lv_has ls 3 [(2, .int x23), (0, .ref a), (1, .int l1_4)] := hl
          refine lv_goto (tgt := 4) hx hb dX4_failing_26 (by decide) ?_
          exact ih4 l1_4 x23 _ _ (by rw [(e23 : Int32.toInt x23 = (l2_4.toInt + 1))] <;> exact (z_X4_firstFailing_4 l2_4.toInt ((G.1 a 6).toInt) I4_0 c9)) (by rw [(e23 : Int32.toInt x23 = (l2_4.toInt + 1))] <;> exact (z_X4_failing_6 l1_4.toInt l2_4.toInt x14.toInt ((G.1 a 6).toInt) (aI (G.2.1 (F a 5)) (l2_4.toInt)) (hv (aI (G.2.1 (F a 5))) 0 1 (l2_4.toInt + 1)) (hv (aI (G.2.1 (F a 5))) 0 1 (l2_4.toInt)) s0 I4_0 I4_1 c9 (z12).2 t14 c17)) (by rw [(e23 : Int32.toInt x23 = (l2_4.toInt + 1))] <;> exact (z_X4_ofRule_7 l1_4.toInt l2_4.toInt I4_2)) (by rw [(e23 : Int32.toInt x23 = (l2_4.toInt + 1))] <;> exact (z_X4_firstFailing_5 l2_4.toInt ((G.1 a 6).toInt) I4_0)) (by rw [(e23 : Int32.toInt x23 = (l2_4.toInt + 1))] <;> exact (z_X4_firstFailing_6 l2_4.toInt N4 hm4)) hT hS (lv_sub hl [1, 2, 0] rfl)
        · refine xi_iinc (n := 1) (lv' := fun z9 => [(1, .int z9), (0, .ref a), (2, .int l2_4)]) (k := 1) hx hb (rfl : Int32.toInt l1_4 = l1_4.toInt) (by decide) dX4_failing_20 hl rfl (by decide) (fun _ => rfl) (fun x20 ls t20 hl => ?_)
          have e20 : x20.toInt = (l1_4.toInt + 1) := (z_X4_ofRule_10 l1_4.toInt l2_4.toInt x20.toInt ((G.1 a 6).toInt) s0 I4_2 c9 t20)
          have hl : lv_has ls 3 [(1, .int x20), (0, .ref a), (2, .int l2_4)] := hl
          refine xi_iinc (n := 1) (lv' := fun z9 => [(2, .int z9), (1, .int x20), (0, .ref a)]) (k := 2) hx hb (rfl : Int32.toInt l2_4 = l2_4.toInt) (by decide) dX4_failing_23 hl rfl (by decide) (fun _ => rfl) (fun x23 ls t23 hl => ?_)
          have e23 : x23.toInt = (l2_4.toInt + 1) := (z_X4_firstFailing_3 l2_4.toInt x23.toInt ((G.1 a 6).toInt) s0 I4_0 t23)
          have hl : lv_has ls 3 [(2, .int x23), (1, .int x20), (0, .ref a)] := hl
          refine lv_goto (tgt := 4) hx hb dX4_failing_26 (by decide) ?_
          exact ih4 x20 x23 _ _ (by rw [(e23 : Int32.toInt x23 = (l2_4.toInt + 1))] <;> exact (z_X4_firstFailing_4 l2_4.toInt ((G.1 a 6).toInt) I4_0 c9)) (by rw [(e20 : Int32.toInt x20 = (l1_4.toInt + 1)), (e23 : Int32.toInt x23 = (l2_4.toInt + 1))] <;> exact (z_X4_failing_13 l1_4.toInt l2_4.toInt x14.toInt ((G.1 a 6).toInt) (aI (G.2.1 (F a 5)) (l2_4.toInt)) (hv (aI (G.2.1 (F a 5))) 0 1 (l2_4.toInt + 1)) (hv (aI (G.2.1 (F a 5))) 0 1 (l2_4.toInt)) I4_1 (z12).1 t14 (xzi b14) c17)) (by rw [(e20 : Int32.toInt x20 = (l1_4.toInt + 1)), (e23 : Int32.toInt x23 = (l2_4.toInt + 1))] <;> exact (z_X4_ofRule_14 l1_4.toInt l2_4.toInt I4_2)) (by rw [(e23 : Int32.toInt x23 = (l2_4.toInt + 1))] <;> exact (z_X4_firstFailing_5 l2_4.toInt ((G.1 a 6).toInt) I4_0)) (by rw [(e23 : Int32.toInt x23 = (l2_4.toInt + 1))] <;> exact (z_X4_firstFailing_6 l2_4.toInt N4 hm4)) hT hS (lv_sub hl [2, 1, 0] rfl)
  exact L4 4294967297 0 0 _ _ (z_X4_firstFailing_8 ((G.1 a 6).toInt) s0) (z_X4_ofRule_18 (hv (aI (G.2.1 (F a 5))) 0 1 0) z0) (by decide) (by decide) (by decide) hT hS (lv_sub hl [2, 1, 0] rfl)
theorem v_X0_get_20_1 {K : Nat → Nat} {F : Nat → Nat → Nat} (a : Nat) (p0 : Int32) (G : XG)
    (ha : K a = 2)
    (hk9999 : K (F a 0) = 15)
    (hj9999 : F (F a 0) 99 = 0)
    (c1 : p0.toInt < 0) :
    (p0.toInt < 0 ∨ 12 ≤ p0.toInt) ∨ G.2.2.1 (F a 0) (p0.toInt).toNat = none := by
  first | (left; omega) | (right; assumption)
theorem v_X0_get_20_2 {K : Nat → Nat} {F : Nat → Nat → Nat} (a : Nat) (p0 : Int32) (G : XG)
    (ha : K a = 2)
    (hk9999 : K (F a 0) = 15)
    (hj9999 : F (F a 0) 99 = 0)
    (c1 : ¬ (p0.toInt < 0))
    (c7 : (12 : Int) ≤ p0.toInt) :
    (p0.toInt < 0 ∨ 12 ≤ p0.toInt) ∨ G.2.2.1 (F a 0) (p0.toInt).toNat = none := by
  first | (left; omega) | (right; assumption)
theorem v_X0_get_20_3 {K : Nat → Nat} {F : Nat → Nat → Nat} (a : Nat) (G : XG) (p0 : Int32)
    (ha : K a = 2)
    (hk9999 : K (F a 0) = 15)
    (hj9999 : F (F a 0) 99 = 0)
    (hR15 : G.2.2.1 (F a 0) (p0.toInt).toNat = none)
    (c1 : ¬ (p0.toInt < 0))
    (c7 : ¬ ((12 : Int) ≤ p0.toInt)) :
    (p0.toInt < 0 ∨ 12 ≤ p0.toInt) ∨ G.2.2.1 (F a 0) (p0.toInt).toNat = none := by
  first | (left; omega) | (right; assumption)
theorem v_X0_get_20_4 {K : Nat → Nat} {F : Nat → Nat → Nat} (a : Nat) (q15 : Nat) (G : XG) (p0 : Int32)
    (ha : K a = 2)
    (hk9999 : K (F a 0) = 15)
    (hj9999 : F (F a 0) 99 = 0)
    (hk15 : K q15 = 9)
    (hR15 : G.2.2.1 (F a 0) (p0.toInt).toNat = some q15)
    (c1 : ¬ (p0.toInt < 0))
    (c7 : ¬ ((12 : Int) ≤ p0.toInt)) :
    G.2.2.1 (F a 0) (p0.toInt).toNat = some q15 := by
  assumption
theorem v_X0_inOrder_28_1 {K : Nat → Nat} {F : Nat → Nat → Nat} (a : Nat) (p0 : Int32) (G : XG)
    (ha : K a = 2)
    (hk9999 : K (F a 1) = 15)
    (hj9999 : F (F a 1) 99 = 1)
    (c1 : p0.toInt < 0) :
    (p0.toInt < 0 ∨ ((G.1 a 2).toInt) ≤ p0.toInt ∨ 12 ≤ p0.toInt) ∨ G.2.2.1 (F a 1) (p0.toInt).toNat = none := by
  first | (left; omega) | (right; assumption)
theorem v_X0_inOrder_28_2 {K : Nat → Nat} {F : Nat → Nat → Nat} (a : Nat) (p0 : Int32) (G : XG)
    (ha : K a = 2)
    (hk9999 : K (F a 1) = 15)
    (hj9999 : F (F a 1) 99 = 1)
    (c1 : ¬ (p0.toInt < 0))
    (c9 : ((G.1 a 2).toInt) ≤ p0.toInt) :
    (p0.toInt < 0 ∨ ((G.1 a 2).toInt) ≤ p0.toInt ∨ 12 ≤ p0.toInt) ∨ G.2.2.1 (F a 1) (p0.toInt).toNat = none := by
  first | (left; omega) | (right; assumption)
theorem v_X0_inOrder_28_3 {K : Nat → Nat} {F : Nat → Nat → Nat} (a : Nat) (p0 : Int32) (G : XG)
    (ha : K a = 2)
    (hk9999 : K (F a 1) = 15)
    (hj9999 : F (F a 1) 99 = 1)
    (c1 : ¬ (p0.toInt < 0))
    (c9 : ¬ (((G.1 a 2).toInt) ≤ p0.toInt))
    (c15 : (12 : Int) ≤ p0.toInt) :
    (p0.toInt < 0 ∨ ((G.1 a 2).toInt) ≤ p0.toInt ∨ 12 ≤ p0.toInt) ∨ G.2.2.1 (F a 1) (p0.toInt).toNat = none := by
  first | (left; omega) | (right; assumption)
theorem v_X0_inOrder_28_4 {K : Nat → Nat} {F : Nat → Nat → Nat} (a : Nat) (G : XG) (p0 : Int32)
    (ha : K a = 2)
    (hk9999 : K (F a 1) = 15)
    (hj9999 : F (F a 1) 99 = 1)
    (hR23 : G.2.2.1 (F a 1) (p0.toInt).toNat = none)
    (c1 : ¬ (p0.toInt < 0))
    (c9 : ¬ (((G.1 a 2).toInt) ≤ p0.toInt))
    (c15 : ¬ ((12 : Int) ≤ p0.toInt)) :
    (p0.toInt < 0 ∨ ((G.1 a 2).toInt) ≤ p0.toInt ∨ 12 ≤ p0.toInt) ∨ G.2.2.1 (F a 1) (p0.toInt).toNat = none := by
  first | (left; omega) | (right; assumption)
theorem v_X0_inOrder_28_5 {K : Nat → Nat} {F : Nat → Nat → Nat} (a : Nat) (q23 : Nat) (G : XG) (p0 : Int32)
    (ha : K a = 2)
    (hk9999 : K (F a 1) = 15)
    (hj9999 : F (F a 1) 99 = 1)
    (hk23 : K q23 = 9)
    (hR23 : G.2.2.1 (F a 1) (p0.toInt).toNat = some q23)
    (c1 : ¬ (p0.toInt < 0))
    (c9 : ¬ (((G.1 a 2).toInt) ≤ p0.toInt))
    (c15 : ¬ ((12 : Int) ≤ p0.toInt)) :
    G.2.2.1 (F a 1) (p0.toInt).toNat = some q23 := by
  assumption
theorem v_X0_leastFree_26_1 {K : Nat → Nat} {F : Nat → Nat → Nat} (a : Nat) (l1_2 : Int32) (G : XG) (N2 : Nat)
    (ha : K a = 2)
    (pl : ∀ i : Nat, (i : Int) < l1_2.toInt → G.2.2.1 (F a 0) i ≠ none)
    (I2_0 : 0 ≤ l1_2.toInt ∧ l1_2.toInt ≤ 12)
    (I2_1 : (0 : Int) ≤ l1_2.toInt)
    (hm2 : 2147483648 - l1_2.toInt < (((N2) + 1 : Nat) : Int))
    (c5 : (12 : Int) ≤ l1_2.toInt) :
    ((-1 : Int) = -1 ∧ ∀ i : Nat, i < 12 → G.2.2.1 (F a 0) i ≠ none) ∨ (0 ≤ (-1 : Int) ∧ G.2.2.1 (F a 0) (-1 : Int).toNat = none ∧ ∀ i : Nat, (i : Int) < (-1 : Int) → G.2.2.1 (F a 0) i ≠ none) := by
  first
    | exact Or.inr ⟨by omega, hR13, pl⟩
    | exact Or.inl ⟨rfl, fun i hi => pl i (by omega)⟩
theorem v_X0_leastFree_18_2 {K : Nat → Nat} {F : Nat → Nat → Nat} (a : Nat) (l1_2 : Int32) (G : XG) (N2 : Nat)
    (ha : K a = 2)
    (pl : ∀ i : Nat, (i : Int) < l1_2.toInt → G.2.2.1 (F a 0) i ≠ none)
    (hR13 : G.2.2.1 (F a 0) (l1_2.toInt).toNat = none)
    (I2_0 : 0 ≤ l1_2.toInt ∧ l1_2.toInt ≤ 12)
    (I2_1 : (0 : Int) ≤ l1_2.toInt)
    (hm2 : 2147483648 - l1_2.toInt < (((N2) + 1 : Nat) : Int))
    (c5 : ¬ ((12 : Int) ≤ l1_2.toInt)) :
    (l1_2.toInt = -1 ∧ ∀ i : Nat, i < 12 → G.2.2.1 (F a 0) i ≠ none) ∨ (0 ≤ l1_2.toInt ∧ G.2.2.1 (F a 0) (l1_2.toInt).toNat = none ∧ ∀ i : Nat, (i : Int) < l1_2.toInt → G.2.2.1 (F a 0) i ≠ none) := by
  first
    | exact Or.inr ⟨by omega, hR13, pl⟩
    | exact Or.inl ⟨rfl, fun i hi => pl i (by omega)⟩
theorem v_X0_leastFree_22_3 {K : Nat → Nat} {F : Nat → Nat → Nat} (a : Nat) (q13 : Nat) (l1_2 : Int32) (G : XG) (N2 : Nat)
    (ha : K a = 2)
    (pl : ∀ i : Nat, (i : Int) < l1_2.toInt → G.2.2.1 (F a 0) i ≠ none)
    (hR13 : G.2.2.1 (F a 0) (l1_2.toInt).toNat = some q13)
    (I2_0 : 0 ≤ l1_2.toInt ∧ l1_2.toInt ≤ 12)
    (I2_1 : (0 : Int) ≤ l1_2.toInt)
    (hm2 : 2147483648 - l1_2.toInt < (((N2) + 1 : Nat) : Int))
    (c5 : ¬ ((12 : Int) ≤ l1_2.toInt)) :
    ∀ i : Nat, (i : Int) < (l1_2.toInt + 1) → G.2.2.1 (F a 0) i ≠ none := by
  intro i hi
  by_cases e : (i : Int) < l1_2.toInt
  · exact pl i e
  · have e2 : i = l1_2.toInt.toNat := by omega
    rw [e2, hR13]
    exact fun h => by cases h
theorem v_X0_leastFree_1_4 {K : Nat → Nat} {F : Nat → Nat → Nat} (a : Nat) (G : XG)
    (ha : K a = 2) :
    ∀ i : Nat, (i : Int) < (0 : Int) → G.2.2.1 (F a 0) i ≠ none := by
  intro i hi; exact absurd hi (by omega)
theorem v_X0_insert_82_1 {K : Nat → Nat} {F : Nat → Nat → Nat} (a : Nat) (p0 : Nat) (G : XG) (G_5 : XG) (l2_5 : Int32) (N5 : Nat)
    (ha : K a = 2)
    (hp0 : K p0 = 9)
    (hf : ∀ i : Nat, (i : Int) < ((G.1 a 2).toInt) → G.2.2.1 (F a 1) i ≠ none)
    (ps : shf (G.2.2.1 (F a 1)) (G_5.2.2.1 (F a 1)) (l2_5.toInt).toNat ((G.1 a 2).toInt).toNat)
    (pp : posR (fun j => rkO G (G.2.2.1 (F a 1) j)) ((G.1 p0 8).toInt) (l2_5.toInt).toNat = posR (fun j => rkO G (G.2.2.1 (F a 1) j)) ((G.1 p0 8).toInt) ((G.1 a 2).toInt).toNat)
    (s0 : 0 ≤ ((G.1 a 2).toInt) ∧ ((G.1 a 2).toInt) ≤ 11)
    (I5_0 : 0 ≤ l2_5.toInt ∧ l2_5.toInt ≤ ((G.1 a 2).toInt))
    (I5_1 : ((G_5.1 a 2).toInt) = ((G.1 a 2).toInt))
    (hm5 : l2_5.toInt + 1 < (((N5) + 1 : Nat) : Int))
    (c6 : l2_5.toInt ≤ 0)
    (c56 : l2_5.toInt < 0) :
    ∀ i : Nat, (i : Int) ≤ ((G.1 a 2).toInt) → G_5.2.2.1 (F a 1) i = insF (G.2.2.1 (F a 1)) (posR (fun j => rkO G (G.2.2.1 (F a 1) j)) ((G.1 p0 8).toInt) (((G.1 a 2).toInt)).toNat) (some p0) i := by
  first | (exfalso; omega) | skip
  all_goals (
    first
      | (exfalso
         have e3 : G.2.2.1 (F a 1) (l2_5.toInt - 1).toNat = none := by rw [← ps.1 _ (by omega)]; exact hR22
         exact hf _ (by omega) e3)
      | (have key : posR (fun j => rkO G (G.2.2.1 (F a 1) j)) ((G.1 p0 8).toInt) (l2_5.toInt).toNat = l2_5.toInt.toNat := by
           first
             | (have e : l2_5.toInt.toNat = 0 := by omega
                rw [e]; rfl)
             | (have e : l2_5.toInt.toNat = (l2_5.toInt - 1).toNat + 1 := by omega
                have e3 : G.2.2.1 (F a 1) (l2_5.toInt - 1).toNat = some q22 := by rw [← ps.1 _ (by omega)]; exact hR22
                rw [e, posR_here]
                show ¬ (_ < rkO G (G.2.2.1 (F a 1) (l2_5.toInt - 1).toNat))
                rw [e3]
                show ¬ (_ < (G.1 q22 8).toInt)
                omega)
         intro i hi
         rw [r_G79_F_a_1, ← pp, key]
         exact shf_ins ps (by rw [rput_j hG71, if_pos rfl]) (fun j hj => by rw [rput_j hG71, if_neg hj]) i (by omega)))
theorem v_X0_insert_82_2 {K : Nat → Nat} {F : Nat → Nat → Nat} (a : Nat) (p0 : Nat) (G : XG) (G_5 : XG) (l2_5 : Int32) (N5 : Nat)
    (ha : K a = 2)
    (hp0 : K p0 = 9)
    (ps : shf (G.2.2.1 (F a 1)) (G_5.2.2.1 (F a 1)) (l2_5.toInt).toNat ((G.1 a 2).toInt).toNat)
    (pp : posR (fun j => rkO G (G.2.2.1 (F a 1) j)) ((G.1 p0 8).toInt) (l2_5.toInt).toNat = posR (fun j => rkO G (G.2.2.1 (F a 1) j)) ((G.1 p0 8).toInt) ((G.1 a 2).toInt).toNat)
    (pf : ∀ (i q : Nat), G_5.2.2.1 (F a 1) i = some q → ∃ j : Nat, G.2.2.1 (F a 1) j = some q)
    (s0 : 0 ≤ ((G.1 a 2).toInt) ∧ ((G.1 a 2).toInt) ≤ 11)
    (I5_0 : 0 ≤ l2_5.toInt ∧ l2_5.toInt ≤ ((G.1 a 2).toInt))
    (I5_1 : ((G_5.1 a 2).toInt) = ((G.1 a 2).toInt))
    (hm5 : l2_5.toInt + 1 < (((N5) + 1 : Nat) : Int))
    (c6 : l2_5.toInt ≤ 0)
    (c56 : l2_5.toInt < 0) :
    ∀ (i q : Nat), G_5.2.2.1 (F a 1) i = some q → q = p0 ∨ ∃ j : Nat, G.2.2.1 (F a 1) j = some q := by
  first | (exfalso; omega) | skip
  all_goals (
    intro i q h
    first
      | (rw [r_G79_F_a_1, rput_j hG71] at h
         split at h
         · cases h; exact Or.inl rfl
         · exact Or.inr (pf i q h))
      | exact Or.inr (pf i q h))
theorem v_X0_insert_82_3 {K : Nat → Nat} {F : Nat → Nat → Nat} (a : Nat) (p0 : Nat) (G : XG) (G_5 : XG) (l2_5 : Int32) (N5 : Nat)
    (ha : K a = 2)
    (hp0 : K p0 = 9)
    (hf : ∀ i : Nat, (i : Int) < ((G.1 a 2).toInt) → G.2.2.1 (F a 1) i ≠ none)
    (ps : shf (G.2.2.1 (F a 1)) (G_5.2.2.1 (F a 1)) (l2_5.toInt).toNat ((G.1 a 2).toInt).toNat)
    (pp : posR (fun j => rkO G (G.2.2.1 (F a 1) j)) ((G.1 p0 8).toInt) (l2_5.toInt).toNat = posR (fun j => rkO G (G.2.2.1 (F a 1) j)) ((G.1 p0 8).toInt) ((G.1 a 2).toInt).toNat)
    (s0 : 0 ≤ ((G.1 a 2).toInt) ∧ ((G.1 a 2).toInt) ≤ 11)
    (I5_0 : 0 ≤ l2_5.toInt ∧ l2_5.toInt ≤ ((G.1 a 2).toInt))
    (I5_1 : ((G_5.1 a 2).toInt) = ((G.1 a 2).toInt))
    (hm5 : l2_5.toInt + 1 < (((N5) + 1 : Nat) : Int))
    (c6 : l2_5.toInt ≤ 0)
    (c56 : ¬ (l2_5.toInt < 0))
    (c62 : (12 : Int) ≤ l2_5.toInt) :
    ∀ i : Nat, (i : Int) ≤ ((G.1 a 2).toInt) → G_5.2.2.1 (F a 1) i = insF (G.2.2.1 (F a 1)) (posR (fun j => rkO G (G.2.2.1 (F a 1) j)) ((G.1 p0 8).toInt) (((G.1 a 2).toInt)).toNat) (some p0) i := by
  first | (exfalso; omega) | skip
  all_goals (
    first
      | (exfalso
         have e3 : G.2.2.1 (F a 1) (l2_5.toInt - 1).toNat = none := by rw [← ps.1 _ (by omega)]; exact hR22
         exact hf _ (by omega) e3)
      | (have key : posR (fun j => rkO G (G.2.2.1 (F a 1) j)) ((G.1 p0 8).toInt) (l2_5.toInt).toNat = l2_5.toInt.toNat := by
           first
             | (have e : l2_5.toInt.toNat = 0 := by omega
                rw [e]; rfl)
             | (have e : l2_5.toInt.toNat = (l2_5.toInt - 1).toNat + 1 := by omega
                have e3 : G.2.2.1 (F a 1) (l2_5.toInt - 1).toNat = some q22 := by rw [← ps.1 _ (by omega)]; exact hR22
                rw [e, posR_here]
                show ¬ (_ < rkO G (G.2.2.1 (F a 1) (l2_5.toInt - 1).toNat))
                rw [e3]
                show ¬ (_ < (G.1 q22 8).toInt)
                omega)
         intro i hi
         rw [r_G79_F_a_1, ← pp, key]
         exact shf_ins ps (by rw [rput_j hG71, if_pos rfl]) (fun j hj => by rw [rput_j hG71, if_neg hj]) i (by omega)))
theorem v_X0_insert_82_4 {K : Nat → Nat} {F : Nat → Nat → Nat} (a : Nat) (p0 : Nat) (G : XG) (G_5 : XG) (l2_5 : Int32) (N5 : Nat)
    (ha : K a = 2)
    (hp0 : K p0 = 9)
    (ps : shf (G.2.2.1 (F a 1)) (G_5.2.2.1 (F a 1)) (l2_5.toInt).toNat ((G.1 a 2).toInt).toNat)
    (pp : posR (fun j => rkO G (G.2.2.1 (F a 1) j)) ((G.1 p0 8).toInt) (l2_5.toInt).toNat = posR (fun j => rkO G (G.2.2.1 (F a 1) j)) ((G.1 p0 8).toInt) ((G.1 a 2).toInt).toNat)
    (pf : ∀ (i q : Nat), G_5.2.2.1 (F a 1) i = some q → ∃ j : Nat, G.2.2.1 (F a 1) j = some q)
    (s0 : 0 ≤ ((G.1 a 2).toInt) ∧ ((G.1 a 2).toInt) ≤ 11)
    (I5_0 : 0 ≤ l2_5.toInt ∧ l2_5.toInt ≤ ((G.1 a 2).toInt))
    (I5_1 : ((G_5.1 a 2).toInt) = ((G.1 a 2).toInt))
    (hm5 : l2_5.toInt + 1 < (((N5) + 1 : Nat) : Int))
    (c6 : l2_5.toInt ≤ 0)
    (c56 : ¬ (l2_5.toInt < 0))
    (c62 : (12 : Int) ≤ l2_5.toInt) :
    ∀ (i q : Nat), G_5.2.2.1 (F a 1) i = some q → q = p0 ∨ ∃ j : Nat, G.2.2.1 (F a 1) j = some q := by
  first | (exfalso; omega) | skip
  all_goals (
    intro i q h
    first
      | (rw [r_G79_F_a_1, rput_j hG71] at h
         split at h
         · cases h; exact Or.inl rfl
         · exact Or.inr (pf i q h))
      | exact Or.inr (pf i q h))
theorem v_X0_insert_82_5 {K : Nat → Nat} {F : Nat → Nat → Nat} (a : Nat) (p0 : Nat) (G : XG) (G_5 : XG) (G71 : XG) (l2_5 : Int32) (G79 : XG) (N5 : Nat)
    (ha : K a = 2)
    (hp0 : K p0 = 9)
    (hG71 : G71 = rput G_5 (F a 1) l2_5.toInt.toNat (some p0))
    (hf : ∀ i : Nat, (i : Int) < ((G.1 a 2).toInt) → G.2.2.1 (F a 1) i ≠ none)
    (ps : shf (G.2.2.1 (F a 1)) (G_5.2.2.1 (F a 1)) (l2_5.toInt).toNat ((G.1 a 2).toInt).toNat)
    (pp : posR (fun j => rkO G (G.2.2.1 (F a 1) j)) ((G.1 p0 8).toInt) (l2_5.toInt).toNat = posR (fun j => rkO G (G.2.2.1 (F a 1) j)) ((G.1 p0 8).toInt) ((G.1 a 2).toInt).toNat)
    (s0 : 0 ≤ ((G.1 a 2).toInt) ∧ ((G.1 a 2).toInt) ≤ 11)
    (I5_0 : 0 ≤ l2_5.toInt ∧ l2_5.toInt ≤ ((G.1 a 2).toInt))
    (I5_1 : ((G_5.1 a 2).toInt) = ((G.1 a 2).toInt))
    (hm5 : l2_5.toInt + 1 < (((N5) + 1 : Nat) : Int))
    (c6 : l2_5.toInt ≤ 0)
    (c56 : ¬ (l2_5.toInt < 0))
    (c62 : ¬ ((12 : Int) ≤ l2_5.toInt))
    (r_G79_F_a_1 : G79.2.2.1 (F a 1) = G71.2.2.1 (F a 1)) :
    ∀ i : Nat, (i : Int) ≤ ((G.1 a 2).toInt) → G79.2.2.1 (F a 1) i = insF (G.2.2.1 (F a 1)) (posR (fun j => rkO G (G.2.2.1 (F a 1) j)) ((G.1 p0 8).toInt) (((G.1 a 2).toInt)).toNat) (some p0) i := by
  first | (exfalso; omega) | skip
  all_goals (
    first
      | (exfalso
         have e3 : G.2.2.1 (F a 1) (l2_5.toInt - 1).toNat = none := by rw [← ps.1 _ (by omega)]; exact hR22
         exact hf _ (by omega) e3)
      | (have key : posR (fun j => rkO G (G.2.2.1 (F a 1) j)) ((G.1 p0 8).toInt) (l2_5.toInt).toNat = l2_5.toInt.toNat := by
           first
             | (have e : l2_5.toInt.toNat = 0 := by omega
                rw [e]; rfl)
             | (have e : l2_5.toInt.toNat = (l2_5.toInt - 1).toNat + 1 := by omega
                have e3 : G.2.2.1 (F a 1) (l2_5.toInt - 1).toNat = some q22 := by rw [← ps.1 _ (by omega)]; exact hR22
                rw [e, posR_here]
                show ¬ (_ < rkO G (G.2.2.1 (F a 1) (l2_5.toInt - 1).toNat))
                rw [e3]
                show ¬ (_ < (G.1 q22 8).toInt)
                omega)
         intro i hi
         rw [r_G79_F_a_1, ← pp, key]
         exact shf_ins ps (by rw [rput_j hG71, if_pos rfl]) (fun j hj => by rw [rput_j hG71, if_neg hj]) i (by omega)))
theorem v_X0_insert_82_6 {K : Nat → Nat} {F : Nat → Nat → Nat} (a : Nat) (p0 : Nat) (G : XG) (G_5 : XG) (G71 : XG) (l2_5 : Int32) (G79 : XG) (N5 : Nat)
    (ha : K a = 2)
    (hp0 : K p0 = 9)
    (hG71 : G71 = rput G_5 (F a 1) l2_5.toInt.toNat (some p0))
    (ps : shf (G.2.2.1 (F a 1)) (G_5.2.2.1 (F a 1)) (l2_5.toInt).toNat ((G.1 a 2).toInt).toNat)
    (pp : posR (fun j => rkO G (G.2.2.1 (F a 1) j)) ((G.1 p0 8).toInt) (l2_5.toInt).toNat = posR (fun j => rkO G (G.2.2.1 (F a 1) j)) ((G.1 p0 8).toInt) ((G.1 a 2).toInt).toNat)
    (pf : ∀ (i q : Nat), G_5.2.2.1 (F a 1) i = some q → ∃ j : Nat, G.2.2.1 (F a 1) j = some q)
    (s0 : 0 ≤ ((G.1 a 2).toInt) ∧ ((G.1 a 2).toInt) ≤ 11)
    (I5_0 : 0 ≤ l2_5.toInt ∧ l2_5.toInt ≤ ((G.1 a 2).toInt))
    (I5_1 : ((G_5.1 a 2).toInt) = ((G.1 a 2).toInt))
    (hm5 : l2_5.toInt + 1 < (((N5) + 1 : Nat) : Int))
    (c6 : l2_5.toInt ≤ 0)
    (c56 : ¬ (l2_5.toInt < 0))
    (c62 : ¬ ((12 : Int) ≤ l2_5.toInt))
    (r_G79_F_a_1 : G79.2.2.1 (F a 1) = G71.2.2.1 (F a 1)) :
    ∀ (i q : Nat), G79.2.2.1 (F a 1) i = some q → q = p0 ∨ ∃ j : Nat, G.2.2.1 (F a 1) j = some q := by
  first | (exfalso; omega) | skip
  all_goals (
    intro i q h
    first
      | (rw [r_G79_F_a_1, rput_j hG71] at h
         split at h
         · cases h; exact Or.inl rfl
         · exact Or.inr (pf i q h))
      | exact Or.inr (pf i q h))
theorem v_X0_insert_82_7 {K : Nat → Nat} {F : Nat → Nat → Nat} (a : Nat) (p0 : Nat) (G : XG) (G_5 : XG) (l2_5 : Int32) (N5 : Nat)
    (ha : K a = 2)
    (hp0 : K p0 = 9)
    (hf : ∀ i : Nat, (i : Int) < ((G.1 a 2).toInt) → G.2.2.1 (F a 1) i ≠ none)
    (ps : shf (G.2.2.1 (F a 1)) (G_5.2.2.1 (F a 1)) (l2_5.toInt).toNat ((G.1 a 2).toInt).toNat)
    (pp : posR (fun j => rkO G (G.2.2.1 (F a 1) j)) ((G.1 p0 8).toInt) (l2_5.toInt).toNat = posR (fun j => rkO G (G.2.2.1 (F a 1) j)) ((G.1 p0 8).toInt) ((G.1 a 2).toInt).toNat)
    (s0 : 0 ≤ ((G.1 a 2).toInt) ∧ ((G.1 a 2).toInt) ≤ 11)
    (I5_0 : 0 ≤ l2_5.toInt ∧ l2_5.toInt ≤ ((G.1 a 2).toInt))
    (I5_1 : ((G_5.1 a 2).toInt) = ((G.1 a 2).toInt))
    (hm5 : l2_5.toInt + 1 < (((N5) + 1 : Nat) : Int))
    (c6 : ¬ (l2_5.toInt ≤ 0))
    (c12 : (12 : Int) ≤ l2_5.toInt)
    (c56 : l2_5.toInt < 0) :
    ∀ i : Nat, (i : Int) ≤ ((G.1 a 2).toInt) → G_5.2.2.1 (F a 1) i = insF (G.2.2.1 (F a 1)) (posR (fun j => rkO G (G.2.2.1 (F a 1) j)) ((G.1 p0 8).toInt) (((G.1 a 2).toInt)).toNat) (some p0) i := by
  first | (exfalso; omega) | skip
  all_goals (
    first
      | (exfalso
         have e3 : G.2.2.1 (F a 1) (l2_5.toInt - 1).toNat = none := by rw [← ps.1 _ (by omega)]; exact hR22
         exact hf _ (by omega) e3)
      | (have key : posR (fun j => rkO G (G.2.2.1 (F a 1) j)) ((G.1 p0 8).toInt) (l2_5.toInt).toNat = l2_5.toInt.toNat := by
           first
             | (have e : l2_5.toInt.toNat = 0 := by omega
                rw [e]; rfl)
             | (have e : l2_5.toInt.toNat = (l2_5.toInt - 1).toNat + 1 := by omega
                have e3 : G.2.2.1 (F a 1) (l2_5.toInt - 1).toNat = some q22 := by rw [← ps.1 _ (by omega)]; exact hR22
                rw [e, posR_here]
                show ¬ (_ < rkO G (G.2.2.1 (F a 1) (l2_5.toInt - 1).toNat))
                rw [e3]
                show ¬ (_ < (G.1 q22 8).toInt)
                omega)
         intro i hi
         rw [r_G79_F_a_1, ← pp, key]
         exact shf_ins ps (by rw [rput_j hG71, if_pos rfl]) (fun j hj => by rw [rput_j hG71, if_neg hj]) i (by omega)))
theorem v_X0_insert_82_8 {K : Nat → Nat} {F : Nat → Nat → Nat} (a : Nat) (p0 : Nat) (G : XG) (G_5 : XG) (l2_5 : Int32) (N5 : Nat)
    (ha : K a = 2)
    (hp0 : K p0 = 9)
    (ps : shf (G.2.2.1 (F a 1)) (G_5.2.2.1 (F a 1)) (l2_5.toInt).toNat ((G.1 a 2).toInt).toNat)
    (pp : posR (fun j => rkO G (G.2.2.1 (F a 1) j)) ((G.1 p0 8).toInt) (l2_5.toInt).toNat = posR (fun j => rkO G (G.2.2.1 (F a 1) j)) ((G.1 p0 8).toInt) ((G.1 a 2).toInt).toNat)
    (pf : ∀ (i q : Nat), G_5.2.2.1 (F a 1) i = some q → ∃ j : Nat, G.2.2.1 (F a 1) j = some q)
    (s0 : 0 ≤ ((G.1 a 2).toInt) ∧ ((G.1 a 2).toInt) ≤ 11)
    (I5_0 : 0 ≤ l2_5.toInt ∧ l2_5.toInt ≤ ((G.1 a 2).toInt))
    (I5_1 : ((G_5.1 a 2).toInt) = ((G.1 a 2).toInt))
    (hm5 : l2_5.toInt + 1 < (((N5) + 1 : Nat) : Int))
    (c6 : ¬ (l2_5.toInt ≤ 0))
    (c12 : (12 : Int) ≤ l2_5.toInt)
    (c56 : l2_5.toInt < 0) :
    ∀ (i q : Nat), G_5.2.2.1 (F a 1) i = some q → q = p0 ∨ ∃ j : Nat, G.2.2.1 (F a 1) j = some q := by
  first | (exfalso; omega) | skip
  all_goals (
    intro i q h
    first
      | (rw [r_G79_F_a_1, rput_j hG71] at h
         split at h
         · cases h; exact Or.inl rfl
         · exact Or.inr (pf i q h))
      | exact Or.inr (pf i q h))
theorem v_X0_insert_82_9 {K : Nat → Nat} {F : Nat → Nat → Nat} (a : Nat) (p0 : Nat) (G : XG) (G_5 : XG) (l2_5 : Int32) (N5 : Nat)
    (ha : K a = 2)
    (hp0 : K p0 = 9)
    (hf : ∀ i : Nat, (i : Int) < ((G.1 a 2).toInt) → G.2.2.1 (F a 1) i ≠ none)
    (ps : shf (G.2.2.1 (F a 1)) (G_5.2.2.1 (F a 1)) (l2_5.toInt).toNat ((G.1 a 2).toInt).toNat)
    (pp : posR (fun j => rkO G (G.2.2.1 (F a 1) j)) ((G.1 p0 8).toInt) (l2_5.toInt).toNat = posR (fun j => rkO G (G.2.2.1 (F a 1) j)) ((G.1 p0 8).toInt) ((G.1 a 2).toInt).toNat)
    (s0 : 0 ≤ ((G.1 a 2).toInt) ∧ ((G.1 a 2).toInt) ≤ 11)
    (I5_0 : 0 ≤ l2_5.toInt ∧ l2_5.toInt ≤ ((G.1 a 2).toInt))
    (I5_1 : ((G_5.1 a 2).toInt) = ((G.1 a 2).toInt))
    (hm5 : l2_5.toInt + 1 < (((N5) + 1 : Nat) : Int))
    (c6 : ¬ (l2_5.toInt ≤ 0))
    (c12 : (12 : Int) ≤ l2_5.toInt)
    (c56 : ¬ (l2_5.toInt < 0)) :
    ∀ i : Nat, (i : Int) ≤ ((G.1 a 2).toInt) → G_5.2.2.1 (F a 1) i = insF (G.2.2.1 (F a 1)) (posR (fun j => rkO G (G.2.2.1 (F a 1) j)) ((G.1 p0 8).toInt) (((G.1 a 2).toInt)).toNat) (some p0) i := by
  first | (exfalso; omega) | skip
  all_goals (
    first
      | (exfalso
         have e3 : G.2.2.1 (F a 1) (l2_5.toInt - 1).toNat = none := by rw [← ps.1 _ (by omega)]; exact hR22
         exact hf _ (by omega) e3)
      | (have key : posR (fun j => rkO G (G.2.2.1 (F a 1) j)) ((G.1 p0 8).toInt) (l2_5.toInt).toNat = l2_5.toInt.toNat := by
           first
             | (have e : l2_5.toInt.toNat = 0 := by omega
                rw [e]; rfl)
             | (have e : l2_5.toInt.toNat = (l2_5.toInt - 1).toNat + 1 := by omega
                have e3 : G.2.2.1 (F a 1) (l2_5.toInt - 1).toNat = some q22 := by rw [← ps.1 _ (by omega)]; exact hR22
                rw [e, posR_here]
                show ¬ (_ < rkO G (G.2.2.1 (F a 1) (l2_5.toInt - 1).toNat))
                rw [e3]
                show ¬ (_ < (G.1 q22 8).toInt)
                omega)
         intro i hi
         rw [r_G79_F_a_1, ← pp, key]
         exact shf_ins ps (by rw [rput_j hG71, if_pos rfl]) (fun j hj => by rw [rput_j hG71, if_neg hj]) i (by omega)))
theorem v_X0_insert_82_10 {K : Nat → Nat} {F : Nat → Nat → Nat} (a : Nat) (p0 : Nat) (G : XG) (G_5 : XG) (l2_5 : Int32) (N5 : Nat)
    (ha : K a = 2)
    (hp0 : K p0 = 9)
    (ps : shf (G.2.2.1 (F a 1)) (G_5.2.2.1 (F a 1)) (l2_5.toInt).toNat ((G.1 a 2).toInt).toNat)
    (pp : posR (fun j => rkO G (G.2.2.1 (F a 1) j)) ((G.1 p0 8).toInt) (l2_5.toInt).toNat = posR (fun j => rkO G (G.2.2.1 (F a 1) j)) ((G.1 p0 8).toInt) ((G.1 a 2).toInt).toNat)
    (pf : ∀ (i q : Nat), G_5.2.2.1 (F a 1) i = some q → ∃ j : Nat, G.2.2.1 (F a 1) j = some q)
    (s0 : 0 ≤ ((G.1 a 2).toInt) ∧ ((G.1 a 2).toInt) ≤ 11)
    (I5_0 : 0 ≤ l2_5.toInt ∧ l2_5.toInt ≤ ((G.1 a 2).toInt))
    (I5_1 : ((G_5.1 a 2).toInt) = ((G.1 a 2).toInt))
    (hm5 : l2_5.toInt + 1 < (((N5) + 1 : Nat) : Int))
    (c6 : ¬ (l2_5.toInt ≤ 0))
    (c12 : (12 : Int) ≤ l2_5.toInt)
    (c56 : ¬ (l2_5.toInt < 0)) :
    ∀ (i q : Nat), G_5.2.2.1 (F a 1) i = some q → q = p0 ∨ ∃ j : Nat, G.2.2.1 (F a 1) j = some q := by
  first | (exfalso; omega) | skip
  all_goals (
    intro i q h
    first
      | (rw [r_G79_F_a_1, rput_j hG71] at h
         split at h
         · cases h; exact Or.inl rfl
         · exact Or.inr (pf i q h))
      | exact Or.inr (pf i q h))
theorem v_X0_insert_82_11 {K : Nat → Nat} {F : Nat → Nat → Nat} (a : Nat) (p0 : Nat) (G : XG) (G_5 : XG) (G71 : XG) (l2_5 : Int32) (G79 : XG) (N5 : Nat)
    (ha : K a = 2)
    (hp0 : K p0 = 9)
    (hG71 : G71 = rput G_5 (F a 1) l2_5.toInt.toNat (some p0))
    (hf : ∀ i : Nat, (i : Int) < ((G.1 a 2).toInt) → G.2.2.1 (F a 1) i ≠ none)
    (ps : shf (G.2.2.1 (F a 1)) (G_5.2.2.1 (F a 1)) (l2_5.toInt).toNat ((G.1 a 2).toInt).toNat)
    (pp : posR (fun j => rkO G (G.2.2.1 (F a 1) j)) ((G.1 p0 8).toInt) (l2_5.toInt).toNat = posR (fun j => rkO G (G.2.2.1 (F a 1) j)) ((G.1 p0 8).toInt) ((G.1 a 2).toInt).toNat)
    (s0 : 0 ≤ ((G.1 a 2).toInt) ∧ ((G.1 a 2).toInt) ≤ 11)
    (I5_0 : 0 ≤ l2_5.toInt ∧ l2_5.toInt ≤ ((G.1 a 2).toInt))
    (I5_1 : ((G_5.1 a 2).toInt) = ((G.1 a 2).toInt))
    (hm5 : l2_5.toInt + 1 < (((N5) + 1 : Nat) : Int))
    (c6 : ¬ (l2_5.toInt ≤ 0))
    (c12 : (12 : Int) ≤ l2_5.toInt)
    (c56 : ¬ (l2_5.toInt < 0))
    (c62 : ¬ ((12 : Int) ≤ l2_5.toInt))
    (r_G79_F_a_1 : G79.2.2.1 (F a 1) = G71.2.2.1 (F a 1)) :
    ∀ i : Nat, (i : Int) ≤ ((G.1 a 2).toInt) → G79.2.2.1 (F a 1) i = insF (G.2.2.1 (F a 1)) (posR (fun j => rkO G (G.2.2.1 (F a 1) j)) ((G.1 p0 8).toInt) (((G.1 a 2).toInt)).toNat) (some p0) i := by
  first | (exfalso; omega) | skip
  all_goals (
    first
      | (exfalso
         have e3 : G.2.2.1 (F a 1) (l2_5.toInt - 1).toNat = none := by rw [← ps.1 _ (by omega)]; exact hR22
         exact hf _ (by omega) e3)
      | (have key : posR (fun j => rkO G (G.2.2.1 (F a 1) j)) ((G.1 p0 8).toInt) (l2_5.toInt).toNat = l2_5.toInt.toNat := by
           first
             | (have e : l2_5.toInt.toNat = 0 := by omega
                rw [e]; rfl)
             | (have e : l2_5.toInt.toNat = (l2_5.toInt - 1).toNat + 1 := by omega
                have e3 : G.2.2.1 (F a 1) (l2_5.toInt - 1).toNat = some q22 := by rw [← ps.1 _ (by omega)]; exact hR22
                rw [e, posR_here]
                show ¬ (_ < rkO G (G.2.2.1 (F a 1) (l2_5.toInt - 1).toNat))
                rw [e3]
                show ¬ (_ < (G.1 q22 8).toInt)
                omega)
         intro i hi
         rw [r_G79_F_a_1, ← pp, key]
         exact shf_ins ps (by rw [rput_j hG71, if_pos rfl]) (fun j hj => by rw [rput_j hG71, if_neg hj]) i (by omega)))
theorem v_X0_insert_82_12 {K : Nat → Nat} {F : Nat → Nat → Nat} (a : Nat) (p0 : Nat) (G : XG) (G_5 : XG) (G71 : XG) (l2_5 : Int32) (G79 : XG) (N5 : Nat)
    (ha : K a = 2)
    (hp0 : K p0 = 9)
    (hG71 : G71 = rput G_5 (F a 1) l2_5.toInt.toNat (some p0))
    (ps : shf (G.2.2.1 (F a 1)) (G_5.2.2.1 (F a 1)) (l2_5.toInt).toNat ((G.1 a 2).toInt).toNat)
    (pp : posR (fun j => rkO G (G.2.2.1 (F a 1) j)) ((G.1 p0 8).toInt) (l2_5.toInt).toNat = posR (fun j => rkO G (G.2.2.1 (F a 1) j)) ((G.1 p0 8).toInt) ((G.1 a 2).toInt).toNat)
    (pf : ∀ (i q : Nat), G_5.2.2.1 (F a 1) i = some q → ∃ j : Nat, G.2.2.1 (F a 1) j = some q)
    (s0 : 0 ≤ ((G.1 a 2).toInt) ∧ ((G.1 a 2).toInt) ≤ 11)
    (I5_0 : 0 ≤ l2_5.toInt ∧ l2_5.toInt ≤ ((G.1 a 2).toInt))
    (I5_1 : ((G_5.1 a 2).toInt) = ((G.1 a 2).toInt))
    (hm5 : l2_5.toInt + 1 < (((N5) + 1 : Nat) : Int))
    (c6 : ¬ (l2_5.toInt ≤ 0))
    (c12 : (12 : Int) ≤ l2_5.toInt)
    (c56 : ¬ (l2_5.toInt < 0))
    (c62 : ¬ ((12 : Int) ≤ l2_5.toInt))
    (r_G79_F_a_1 : G79.2.2.1 (F a 1) = G71.2.2.1 (F a 1)) :
    ∀ (i q : Nat), G79.2.2.1 (F a 1) i = some q → q = p0 ∨ ∃ j : Nat, G.2.2.1 (F a 1) j = some q := by
  first | (exfalso; omega) | skip
  all_goals (
    intro i q h
    first
      | (rw [r_G79_F_a_1, rput_j hG71] at h
         split at h
         · cases h; exact Or.inl rfl
         · exact Or.inr (pf i q h))
      | exact Or.inr (pf i q h))
theorem v_X0_insert_82_13 {K : Nat → Nat} {F : Nat → Nat → Nat} (a : Nat) (p0 : Nat) (G : XG) (G_5 : XG) (l2_5 : Int32) (N5 : Nat)
    (ha : K a = 2)
    (hp0 : K p0 = 9)
    (hf : ∀ i : Nat, (i : Int) < ((G.1 a 2).toInt) → G.2.2.1 (F a 1) i ≠ none)
    (ps : shf (G.2.2.1 (F a 1)) (G_5.2.2.1 (F a 1)) (l2_5.toInt).toNat ((G.1 a 2).toInt).toNat)
    (pp : posR (fun j => rkO G (G.2.2.1 (F a 1) j)) ((G.1 p0 8).toInt) (l2_5.toInt).toNat = posR (fun j => rkO G (G.2.2.1 (F a 1) j)) ((G.1 p0 8).toInt) ((G.1 a 2).toInt).toNat)
    (hR22 : G_5.2.2.1 (F a 1) ((l2_5.toInt - (1 : Int))).toNat = none)
    (s0 : 0 ≤ ((G.1 a 2).toInt) ∧ ((G.1 a 2).toInt) ≤ 11)
    (I5_0 : 0 ≤ l2_5.toInt ∧ l2_5.toInt ≤ ((G.1 a 2).toInt))
    (I5_1 : ((G_5.1 a 2).toInt) = ((G.1 a 2).toInt))
    (hm5 : l2_5.toInt + 1 < (((N5) + 1 : Nat) : Int))
    (c6 : ¬ (l2_5.toInt ≤ 0))
    (c12 : ¬ ((12 : Int) ≤ l2_5.toInt))
    (c56 : l2_5.toInt < 0) :
    ∀ i : Nat, (i : Int) ≤ ((G.1 a 2).toInt) → G_5.2.2.1 (F a 1) i = insF (G.2.2.1 (F a 1)) (posR (fun j => rkO G (G.2.2.1 (F a 1) j)) ((G.1 p0 8).toInt) (((G.1 a 2).toInt)).toNat) (some p0) i := by
  first | (exfalso; omega) | skip
  all_goals (
    first
      | (exfalso
         have e3 : G.2.2.1 (F a 1) (l2_5.toInt - 1).toNat = none := by rw [← ps.1 _ (by omega)]; exact hR22
         exact hf _ (by omega) e3)
      | (have key : posR (fun j => rkO G (G.2.2.1 (F a 1) j)) ((G.1 p0 8).toInt) (l2_5.toInt).toNat = l2_5.toInt.toNat := by
           first
             | (have e : l2_5.toInt.toNat = 0 := by omega
                rw [e]; rfl)
             | (have e : l2_5.toInt.toNat = (l2_5.toInt - 1).toNat + 1 := by omega
                have e3 : G.2.2.1 (F a 1) (l2_5.toInt - 1).toNat = some q22 := by rw [← ps.1 _ (by omega)]; exact hR22
                rw [e, posR_here]
                show ¬ (_ < rkO G (G.2.2.1 (F a 1) (l2_5.toInt - 1).toNat))
                rw [e3]
                show ¬ (_ < (G.1 q22 8).toInt)
                omega)
         intro i hi
         rw [r_G79_F_a_1, ← pp, key]
         exact shf_ins ps (by rw [rput_j hG71, if_pos rfl]) (fun j hj => by rw [rput_j hG71, if_neg hj]) i (by omega)))
theorem v_X0_insert_82_14 {K : Nat → Nat} {F : Nat → Nat → Nat} (a : Nat) (p0 : Nat) (G : XG) (G_5 : XG) (l2_5 : Int32) (N5 : Nat)
    (ha : K a = 2)
    (hp0 : K p0 = 9)
    (ps : shf (G.2.2.1 (F a 1)) (G_5.2.2.1 (F a 1)) (l2_5.toInt).toNat ((G.1 a 2).toInt).toNat)
    (pp : posR (fun j => rkO G (G.2.2.1 (F a 1) j)) ((G.1 p0 8).toInt) (l2_5.toInt).toNat = posR (fun j => rkO G (G.2.2.1 (F a 1) j)) ((G.1 p0 8).toInt) ((G.1 a 2).toInt).toNat)
    (pf : ∀ (i q : Nat), G_5.2.2.1 (F a 1) i = some q → ∃ j : Nat, G.2.2.1 (F a 1) j = some q)
    (hR22 : G_5.2.2.1 (F a 1) ((l2_5.toInt - (1 : Int))).toNat = none)
    (s0 : 0 ≤ ((G.1 a 2).toInt) ∧ ((G.1 a 2).toInt) ≤ 11)
    (I5_0 : 0 ≤ l2_5.toInt ∧ l2_5.toInt ≤ ((G.1 a 2).toInt))
    (I5_1 : ((G_5.1 a 2).toInt) = ((G.1 a 2).toInt))
    (hm5 : l2_5.toInt + 1 < (((N5) + 1 : Nat) : Int))
    (c6 : ¬ (l2_5.toInt ≤ 0))
    (c12 : ¬ ((12 : Int) ≤ l2_5.toInt))
    (c56 : l2_5.toInt < 0) :
    ∀ (i q : Nat), G_5.2.2.1 (F a 1) i = some q → q = p0 ∨ ∃ j : Nat, G.2.2.1 (F a 1) j = some q := by
  first | (exfalso; omega) | skip
  all_goals (
    intro i q h
    first
      | (rw [r_G79_F_a_1, rput_j hG71] at h
         split at h
         · cases h; exact Or.inl rfl
         · exact Or.inr (pf i q h))
      | exact Or.inr (pf i q h))
theorem v_X0_insert_82_15 {K : Nat → Nat} {F : Nat → Nat → Nat} (a : Nat) (p0 : Nat) (G : XG) (G_5 : XG) (l2_5 : Int32) (N5 : Nat)
    (ha : K a = 2)
    (hp0 : K p0 = 9)
    (hf : ∀ i : Nat, (i : Int) < ((G.1 a 2).toInt) → G.2.2.1 (F a 1) i ≠ none)
    (ps : shf (G.2.2.1 (F a 1)) (G_5.2.2.1 (F a 1)) (l2_5.toInt).toNat ((G.1 a 2).toInt).toNat)
    (pp : posR (fun j => rkO G (G.2.2.1 (F a 1) j)) ((G.1 p0 8).toInt) (l2_5.toInt).toNat = posR (fun j => rkO G (G.2.2.1 (F a 1) j)) ((G.1 p0 8).toInt) ((G.1 a 2).toInt).toNat)
    (hR22 : G_5.2.2.1 (F a 1) ((l2_5.toInt - (1 : Int))).toNat = none)
    (s0 : 0 ≤ ((G.1 a 2).toInt) ∧ ((G.1 a 2).toInt) ≤ 11)
    (I5_0 : 0 ≤ l2_5.toInt ∧ l2_5.toInt ≤ ((G.1 a 2).toInt))
    (I5_1 : ((G_5.1 a 2).toInt) = ((G.1 a 2).toInt))
    (hm5 : l2_5.toInt + 1 < (((N5) + 1 : Nat) : Int))
    (c6 : ¬ (l2_5.toInt ≤ 0))
    (c12 : ¬ ((12 : Int) ≤ l2_5.toInt))
    (c56 : ¬ (l2_5.toInt < 0))
    (c62 : (12 : Int) ≤ l2_5.toInt) :
    ∀ i : Nat, (i : Int) ≤ ((G.1 a 2).toInt) → G_5.2.2.1 (F a 1) i = insF (G.2.2.1 (F a 1)) (posR (fun j => rkO G (G.2.2.1 (F a 1) j)) ((G.1 p0 8).toInt) (((G.1 a 2).toInt)).toNat) (some p0) i := by
  first | (exfalso; omega) | skip
  all_goals (
    first
      | (exfalso
         have e3 : G.2.2.1 (F a 1) (l2_5.toInt - 1).toNat = none := by rw [← ps.1 _ (by omega)]; exact hR22
         exact hf _ (by omega) e3)
      | (have key : posR (fun j => rkO G (G.2.2.1 (F a 1) j)) ((G.1 p0 8).toInt) (l2_5.toInt).toNat = l2_5.toInt.toNat := by
           first
             | (have e : l2_5.toInt.toNat = 0 := by omega
                rw [e]; rfl)
             | (have e : l2_5.toInt.toNat = (l2_5.toInt - 1).toNat + 1 := by omega
                have e3 : G.2.2.1 (F a 1) (l2_5.toInt - 1).toNat = some q22 := by rw [← ps.1 _ (by omega)]; exact hR22
                rw [e, posR_here]
                show ¬ (_ < rkO G (G.2.2.1 (F a 1) (l2_5.toInt - 1).toNat))
                rw [e3]
                show ¬ (_ < (G.1 q22 8).toInt)
                omega)
         intro i hi
         rw [r_G79_F_a_1, ← pp, key]
         exact shf_ins ps (by rw [rput_j hG71, if_pos rfl]) (fun j hj => by rw [rput_j hG71, if_neg hj]) i (by omega)))
theorem v_X0_insert_82_16 {K : Nat → Nat} {F : Nat → Nat → Nat} (a : Nat) (p0 : Nat) (G : XG) (G_5 : XG) (l2_5 : Int32) (N5 : Nat)
    (ha : K a = 2)
    (hp0 : K p0 = 9)
    (ps : shf (G.2.2.1 (F a 1)) (G_5.2.2.1 (F a 1)) (l2_5.toInt).toNat ((G.1 a 2).toInt).toNat)
    (pp : posR (fun j => rkO G (G.2.2.1 (F a 1) j)) ((G.1 p0 8).toInt) (l2_5.toInt).toNat = posR (fun j => rkO G (G.2.2.1 (F a 1) j)) ((G.1 p0 8).toInt) ((G.1 a 2).toInt).toNat)
    (pf : ∀ (i q : Nat), G_5.2.2.1 (F a 1) i = some q → ∃ j : Nat, G.2.2.1 (F a 1) j = some q)
    (hR22 : G_5.2.2.1 (F a 1) ((l2_5.toInt - (1 : Int))).toNat = none)
    (s0 : 0 ≤ ((G.1 a 2).toInt) ∧ ((G.1 a 2).toInt) ≤ 11)
    (I5_0 : 0 ≤ l2_5.toInt ∧ l2_5.toInt ≤ ((G.1 a 2).toInt))
    (I5_1 : ((G_5.1 a 2).toInt) = ((G.1 a 2).toInt))
    (hm5 : l2_5.toInt + 1 < (((N5) + 1 : Nat) : Int))
    (c6 : ¬ (l2_5.toInt ≤ 0))
    (c12 : ¬ ((12 : Int) ≤ l2_5.toInt))
    (c56 : ¬ (l2_5.toInt < 0))
    (c62 : (12 : Int) ≤ l2_5.toInt) :
    ∀ (i q : Nat), G_5.2.2.1 (F a 1) i = some q → q = p0 ∨ ∃ j : Nat, G.2.2.1 (F a 1) j = some q := by
  first | (exfalso; omega) | skip
  all_goals (
    intro i q h
    first
      | (rw [r_G79_F_a_1, rput_j hG71] at h
         split at h
         · cases h; exact Or.inl rfl
         · exact Or.inr (pf i q h))
      | exact Or.inr (pf i q h))
theorem v_X0_insert_82_17 {K : Nat → Nat} {F : Nat → Nat → Nat} (a : Nat) (p0 : Nat) (G : XG) (G_5 : XG) (G71 : XG) (l2_5 : Int32) (G79 : XG) (N5 : Nat)
    (ha : K a = 2)
    (hp0 : K p0 = 9)
    (hG71 : G71 = rput G_5 (F a 1) l2_5.toInt.toNat (some p0))
    (hf : ∀ i : Nat, (i : Int) < ((G.1 a 2).toInt) → G.2.2.1 (F a 1) i ≠ none)
    (ps : shf (G.2.2.1 (F a 1)) (G_5.2.2.1 (F a 1)) (l2_5.toInt).toNat ((G.1 a 2).toInt).toNat)
    (pp : posR (fun j => rkO G (G.2.2.1 (F a 1) j)) ((G.1 p0 8).toInt) (l2_5.toInt).toNat = posR (fun j => rkO G (G.2.2.1 (F a 1) j)) ((G.1 p0 8).toInt) ((G.1 a 2).toInt).toNat)
    (hR22 : G_5.2.2.1 (F a 1) ((l2_5.toInt - (1 : Int))).toNat = none)
    (s0 : 0 ≤ ((G.1 a 2).toInt) ∧ ((G.1 a 2).toInt) ≤ 11)
    (I5_0 : 0 ≤ l2_5.toInt ∧ l2_5.toInt ≤ ((G.1 a 2).toInt))
    (I5_1 : ((G_5.1 a 2).toInt) = ((G.1 a 2).toInt))
    (hm5 : l2_5.toInt + 1 < (((N5) + 1 : Nat) : Int))
    (c6 : ¬ (l2_5.toInt ≤ 0))
    (c12 : ¬ ((12 : Int) ≤ l2_5.toInt))
    (c56 : ¬ (l2_5.toInt < 0))
    (r_G79_F_a_1 : G79.2.2.1 (F a 1) = G71.2.2.1 (F a 1)) :
    ∀ i : Nat, (i : Int) ≤ ((G.1 a 2).toInt) → G79.2.2.1 (F a 1) i = insF (G.2.2.1 (F a 1)) (posR (fun j => rkO G (G.2.2.1 (F a 1) j)) ((G.1 p0 8).toInt) (((G.1 a 2).toInt)).toNat) (some p0) i := by
  first | (exfalso; omega) | skip
  all_goals (
    first
      | (exfalso
         have e3 : G.2.2.1 (F a 1) (l2_5.toInt - 1).toNat = none := by rw [← ps.1 _ (by omega)]; exact hR22
         exact hf _ (by omega) e3)
      | (have key : posR (fun j => rkO G (G.2.2.1 (F a 1) j)) ((G.1 p0 8).toInt) (l2_5.toInt).toNat = l2_5.toInt.toNat := by
           first
             | (have e : l2_5.toInt.toNat = 0 := by omega
                rw [e]; rfl)
             | (have e : l2_5.toInt.toNat = (l2_5.toInt - 1).toNat + 1 := by omega
                have e3 : G.2.2.1 (F a 1) (l2_5.toInt - 1).toNat = some q22 := by rw [← ps.1 _ (by omega)]; exact hR22
                rw [e, posR_here]
                show ¬ (_ < rkO G (G.2.2.1 (F a 1) (l2_5.toInt - 1).toNat))
                rw [e3]
                show ¬ (_ < (G.1 q22 8).toInt)
                omega)
         intro i hi
         rw [r_G79_F_a_1, ← pp, key]
         exact shf_ins ps (by rw [rput_j hG71, if_pos rfl]) (fun j hj => by rw [rput_j hG71, if_neg hj]) i (by omega)))
theorem v_X0_insert_82_18 {K : Nat → Nat} {F : Nat → Nat → Nat} (a : Nat) (p0 : Nat) (G : XG) (G_5 : XG) (G71 : XG) (l2_5 : Int32) (G79 : XG) (N5 : Nat)
    (ha : K a = 2)
    (hp0 : K p0 = 9)
    (hG71 : G71 = rput G_5 (F a 1) l2_5.toInt.toNat (some p0))
    (ps : shf (G.2.2.1 (F a 1)) (G_5.2.2.1 (F a 1)) (l2_5.toInt).toNat ((G.1 a 2).toInt).toNat)
    (pp : posR (fun j => rkO G (G.2.2.1 (F a 1) j)) ((G.1 p0 8).toInt) (l2_5.toInt).toNat = posR (fun j => rkO G (G.2.2.1 (F a 1) j)) ((G.1 p0 8).toInt) ((G.1 a 2).toInt).toNat)
    (pf : ∀ (i q : Nat), G_5.2.2.1 (F a 1) i = some q → ∃ j : Nat, G.2.2.1 (F a 1) j = some q)
    (hR22 : G_5.2.2.1 (F a 1) ((l2_5.toInt - (1 : Int))).toNat = none)
    (s0 : 0 ≤ ((G.1 a 2).toInt) ∧ ((G.1 a 2).toInt) ≤ 11)
    (I5_0 : 0 ≤ l2_5.toInt ∧ l2_5.toInt ≤ ((G.1 a 2).toInt))
    (I5_1 : ((G_5.1 a 2).toInt) = ((G.1 a 2).toInt))
    (hm5 : l2_5.toInt + 1 < (((N5) + 1 : Nat) : Int))
    (c6 : ¬ (l2_5.toInt ≤ 0))
    (c12 : ¬ ((12 : Int) ≤ l2_5.toInt))
    (c56 : ¬ (l2_5.toInt < 0))
    (r_G79_F_a_1 : G79.2.2.1 (F a 1) = G71.2.2.1 (F a 1)) :
    ∀ (i q : Nat), G79.2.2.1 (F a 1) i = some q → q = p0 ∨ ∃ j : Nat, G.2.2.1 (F a 1) j = some q := by
  first | (exfalso; omega) | skip
  all_goals (
    intro i q h
    first
      | (rw [r_G79_F_a_1, rput_j hG71] at h
         split at h
         · cases h; exact Or.inl rfl
         · exact Or.inr (pf i q h))
      | exact Or.inr (pf i q h))
theorem v_X0_insert_52_19 {K : Nat → Nat} {F : Nat → Nat → Nat} (a : Nat) (p0 : Nat) (q22 : Nat) (G : XG) (G_5 : XG) (G48 : XG) (l2_5 : Int32) (N5 : Nat)
    (ha : K a = 2)
    (hp0 : K p0 = 9)
    (hG48 : G48 = rput G_5 (F a 1) l2_5.toInt.toNat (some q22))
    (ps : shf (G.2.2.1 (F a 1)) (G_5.2.2.1 (F a 1)) (l2_5.toInt).toNat ((G.1 a 2).toInt).toNat)
    (pp : posR (fun j => rkO G (G.2.2.1 (F a 1) j)) ((G.1 p0 8).toInt) (l2_5.toInt).toNat = posR (fun j => rkO G (G.2.2.1 (F a 1) j)) ((G.1 p0 8).toInt) ((G.1 a 2).toInt).toNat)
    (hR22 : G_5.2.2.1 (F a 1) ((l2_5.toInt - (1 : Int))).toNat = some q22)
    (s0 : 0 ≤ ((G.1 a 2).toInt) ∧ ((G.1 a 2).toInt) ≤ 11)
    (I5_0 : 0 ≤ l2_5.toInt ∧ l2_5.toInt ≤ ((G.1 a 2).toInt))
    (I5_1 : ((G_5.1 a 2).toInt) = ((G.1 a 2).toInt))
    (hm5 : l2_5.toInt + 1 < (((N5) + 1 : Nat) : Int))
    (c6 : ¬ (l2_5.toInt ≤ 0))
    (c12 : ¬ ((12 : Int) ≤ l2_5.toInt))
    (c36 : ((G.1 p0 8).toInt) < ((G.1 q22 8).toInt)) :
    shf (G.2.2.1 (F a 1)) (G48.2.2.1 (F a 1)) (l2_5.toInt + (-1)).toNat ((G.1 a 2).toInt).toNat := by
  have e : l2_5.toInt.toNat = (l2_5.toInt + -1).toNat + 1 := by omega
  have e2 : (l2_5.toInt + -1).toNat = (l2_5.toInt - 1).toNat := by omega
  refine shf_s (g := G_5.2.2.1 (F a 1)) (by rw [← e]; exact ps) ?_ (fun i hi => ?_)
  · rw [rput_j hG48, if_pos e.symm, e2]
    exact hR22.symm
  · rw [rput_j hG48, if_neg (by omega)]
theorem v_X0_insert_52_20 {K : Nat → Nat} {F : Nat → Nat → Nat} (a : Nat) (p0 : Nat) (q22 : Nat) (G : XG) (G_5 : XG) (l2_5 : Int32) (N5 : Nat)
    (ha : K a = 2)
    (hp0 : K p0 = 9)
    (ps : shf (G.2.2.1 (F a 1)) (G_5.2.2.1 (F a 1)) (l2_5.toInt).toNat ((G.1 a 2).toInt).toNat)
    (pp : posR (fun j => rkO G (G.2.2.1 (F a 1) j)) ((G.1 p0 8).toInt) (l2_5.toInt).toNat = posR (fun j => rkO G (G.2.2.1 (F a 1) j)) ((G.1 p0 8).toInt) ((G.1 a 2).toInt).toNat)
    (hR22 : G_5.2.2.1 (F a 1) ((l2_5.toInt - (1 : Int))).toNat = some q22)
    (s0 : 0 ≤ ((G.1 a 2).toInt) ∧ ((G.1 a 2).toInt) ≤ 11)
    (I5_0 : 0 ≤ l2_5.toInt ∧ l2_5.toInt ≤ ((G.1 a 2).toInt))
    (I5_1 : ((G_5.1 a 2).toInt) = ((G.1 a 2).toInt))
    (hm5 : l2_5.toInt + 1 < (((N5) + 1 : Nat) : Int))
    (c6 : ¬ (l2_5.toInt ≤ 0))
    (c12 : ¬ ((12 : Int) ≤ l2_5.toInt))
    (c36 : ((G.1 p0 8).toInt) < ((G.1 q22 8).toInt)) :
    posR (fun j => rkO G (G.2.2.1 (F a 1) j)) ((G.1 p0 8).toInt) (l2_5.toInt + (-1)).toNat = posR (fun j => rkO G (G.2.2.1 (F a 1) j)) ((G.1 p0 8).toInt) ((G.1 a 2).toInt).toNat := by
  have e : l2_5.toInt.toNat = (l2_5.toInt + -1).toNat + 1 := by omega
  have e2 : (l2_5.toInt + -1).toNat = (l2_5.toInt - 1).toNat := by omega
  have e3 : G.2.2.1 (F a 1) (l2_5.toInt - 1).toNat = some q22 := by rw [← ps.1 _ (by omega)]; exact hR22
  rw [← pp, e, posR_up]
  rw [e2, e3]
  show _ < (G.1 q22 8).toInt
  omega
theorem v_X0_insert_52_21 {F : Nat → Nat → Nat} (a : Nat) (q22 : Nat) (G : XG) (G_5 : XG) (G48 : XG) (l2_5 : Int32)
    (hG48 : G48 = rput G_5 (F a 1) l2_5.toInt.toNat (some q22))
    (pf : ∀ (i q : Nat), G_5.2.2.1 (F a 1) i = some q → ∃ j : Nat, G.2.2.1 (F a 1) j = some q)
    (hR22 : G_5.2.2.1 (F a 1) ((l2_5.toInt - (1 : Int))).toNat = some q22) :
    ∀ (i q : Nat), G48.2.2.1 (F a 1) i = some q → ∃ j : Nat, G.2.2.1 (F a 1) j = some q := by
  intro i q h
  rw [rput_j hG48] at h
  split at h
  · cases h; exact pf _ _ hR22
  · exact pf i q h
theorem v_X0_insert_82_22 {K : Nat → Nat} {F : Nat → Nat → Nat} (a : Nat) (p0 : Nat) (q22 : Nat) (G : XG) (G_5 : XG) (l2_5 : Int32) (N5 : Nat)
    (ha : K a = 2)
    (hp0 : K p0 = 9)
    (hf : ∀ i : Nat, (i : Int) < ((G.1 a 2).toInt) → G.2.2.1 (F a 1) i ≠ none)
    (ps : shf (G.2.2.1 (F a 1)) (G_5.2.2.1 (F a 1)) (l2_5.toInt).toNat ((G.1 a 2).toInt).toNat)
    (pp : posR (fun j => rkO G (G.2.2.1 (F a 1) j)) ((G.1 p0 8).toInt) (l2_5.toInt).toNat = posR (fun j => rkO G (G.2.2.1 (F a 1) j)) ((G.1 p0 8).toInt) ((G.1 a 2).toInt).toNat)
    (hR22 : G_5.2.2.1 (F a 1) ((l2_5.toInt - (1 : Int))).toNat = some q22)
    (s0 : 0 ≤ ((G.1 a 2).toInt) ∧ ((G.1 a 2).toInt) ≤ 11)
    (I5_0 : 0 ≤ l2_5.toInt ∧ l2_5.toInt ≤ ((G.1 a 2).toInt))
    (I5_1 : ((G_5.1 a 2).toInt) = ((G.1 a 2).toInt))
    (hm5 : l2_5.toInt + 1 < (((N5) + 1 : Nat) : Int))
    (c6 : ¬ (l2_5.toInt ≤ 0))
    (c12 : ¬ ((12 : Int) ≤ l2_5.toInt))
    (c36 : ¬ (((G.1 p0 8).toInt) < ((G.1 q22 8).toInt)))
    (c56 : l2_5.toInt < 0) :
    ∀ i : Nat, (i : Int) ≤ ((G.1 a 2).toInt) → G_5.2.2.1 (F a 1) i = insF (G.2.2.1 (F a 1)) (posR (fun j => rkO G (G.2.2.1 (F a 1) j)) ((G.1 p0 8).toInt) (((G.1 a 2).toInt)).toNat) (some p0) i := by
  first | (exfalso; omega) | skip
  all_goals (
    first
      | (exfalso
         have e3 : G.2.2.1 (F a 1) (l2_5.toInt - 1).toNat = none := by rw [← ps.1 _ (by omega)]; exact hR22
         exact hf _ (by omega) e3)
      | (have key : posR (fun j => rkO G (G.2.2.1 (F a 1) j)) ((G.1 p0 8).toInt) (l2_5.toInt).toNat = l2_5.toInt.toNat := by
           first
             | (have e : l2_5.toInt.toNat = 0 := by omega
                rw [e]; rfl)
             | (have e : l2_5.toInt.toNat = (l2_5.toInt - 1).toNat + 1 := by omega
                have e3 : G.2.2.1 (F a 1) (l2_5.toInt - 1).toNat = some q22 := by rw [← ps.1 _ (by omega)]; exact hR22
                rw [e, posR_here]
                show ¬ (_ < rkO G (G.2.2.1 (F a 1) (l2_5.toInt - 1).toNat))
                rw [e3]
                show ¬ (_ < (G.1 q22 8).toInt)
                omega)
         intro i hi
         rw [r_G79_F_a_1, ← pp, key]
         exact shf_ins ps (by rw [rput_j hG71, if_pos rfl]) (fun j hj => by rw [rput_j hG71, if_neg hj]) i (by omega)))
theorem v_X0_insert_82_23 {K : Nat → Nat} {F : Nat → Nat → Nat} (a : Nat) (p0 : Nat) (q22 : Nat) (G : XG) (G_5 : XG) (l2_5 : Int32) (N5 : Nat)
    (ha : K a = 2)
    (hp0 : K p0 = 9)
    (ps : shf (G.2.2.1 (F a 1)) (G_5.2.2.1 (F a 1)) (l2_5.toInt).toNat ((G.1 a 2).toInt).toNat)
    (pp : posR (fun j => rkO G (G.2.2.1 (F a 1) j)) ((G.1 p0 8).toInt) (l2_5.toInt).toNat = posR (fun j => rkO G (G.2.2.1 (F a 1) j)) ((G.1 p0 8).toInt) ((G.1 a 2).toInt).toNat)
    (pf : ∀ (i q : Nat), G_5.2.2.1 (F a 1) i = some q → ∃ j : Nat, G.2.2.1 (F a 1) j = some q)
    (hR22 : G_5.2.2.1 (F a 1) ((l2_5.toInt - (1 : Int))).toNat = some q22)
    (s0 : 0 ≤ ((G.1 a 2).toInt) ∧ ((G.1 a 2).toInt) ≤ 11)
    (I5_0 : 0 ≤ l2_5.toInt ∧ l2_5.toInt ≤ ((G.1 a 2).toInt))
    (I5_1 : ((G_5.1 a 2).toInt) = ((G.1 a 2).toInt))
    (hm5 : l2_5.toInt + 1 < (((N5) + 1 : Nat) : Int))
    (c6 : ¬ (l2_5.toInt ≤ 0))
    (c12 : ¬ ((12 : Int) ≤ l2_5.toInt))
    (c36 : ¬ (((G.1 p0 8).toInt) < ((G.1 q22 8).toInt)))
    (c56 : l2_5.toInt < 0) :
    ∀ (i q : Nat), G_5.2.2.1 (F a 1) i = some q → q = p0 ∨ ∃ j : Nat, G.2.2.1 (F a 1) j = some q := by
  first | (exfalso; omega) | skip
  all_goals (
    intro i q h
    first
      | (rw [r_G79_F_a_1, rput_j hG71] at h
         split at h
         · cases h; exact Or.inl rfl
         · exact Or.inr (pf i q h))
      | exact Or.inr (pf i q h))
theorem v_X0_insert_82_24 {K : Nat → Nat} {F : Nat → Nat → Nat} (a : Nat) (p0 : Nat) (q22 : Nat) (G : XG) (G_5 : XG) (l2_5 : Int32) (N5 : Nat)
    (ha : K a = 2)
    (hp0 : K p0 = 9)
    (hf : ∀ i : Nat, (i : Int) < ((G.1 a 2).toInt) → G.2.2.1 (F a 1) i ≠ none)
    (ps : shf (G.2.2.1 (F a 1)) (G_5.2.2.1 (F a 1)) (l2_5.toInt).toNat ((G.1 a 2).toInt).toNat)
    (pp : posR (fun j => rkO G (G.2.2.1 (F a 1) j)) ((G.1 p0 8).toInt) (l2_5.toInt).toNat = posR (fun j => rkO G (G.2.2.1 (F a 1) j)) ((G.1 p0 8).toInt) ((G.1 a 2).toInt).toNat)
    (hR22 : G_5.2.2.1 (F a 1) ((l2_5.toInt - (1 : Int))).toNat = some q22)
    (s0 : 0 ≤ ((G.1 a 2).toInt) ∧ ((G.1 a 2).toInt) ≤ 11)
    (I5_0 : 0 ≤ l2_5.toInt ∧ l2_5.toInt ≤ ((G.1 a 2).toInt))
    (I5_1 : ((G_5.1 a 2).toInt) = ((G.1 a 2).toInt))
    (hm5 : l2_5.toInt + 1 < (((N5) + 1 : Nat) : Int))
    (c6 : ¬ (l2_5.toInt ≤ 0))
    (c12 : ¬ ((12 : Int) ≤ l2_5.toInt))
    (c36 : ¬ (((G.1 p0 8).toInt) < ((G.1 q22 8).toInt)))
    (c56 : ¬ (l2_5.toInt < 0))
    (c62 : (12 : Int) ≤ l2_5.toInt) :
    ∀ i : Nat, (i : Int) ≤ ((G.1 a 2).toInt) → G_5.2.2.1 (F a 1) i = insF (G.2.2.1 (F a 1)) (posR (fun j => rkO G (G.2.2.1 (F a 1) j)) ((G.1 p0 8).toInt) (((G.1 a 2).toInt)).toNat) (some p0) i := by
  first | (exfalso; omega) | skip
  all_goals (
    first
      | (exfalso
         have e3 : G.2.2.1 (F a 1) (l2_5.toInt - 1).toNat = none := by rw [← ps.1 _ (by omega)]; exact hR22
         exact hf _ (by omega) e3)
      | (have key : posR (fun j => rkO G (G.2.2.1 (F a 1) j)) ((G.1 p0 8).toInt) (l2_5.toInt).toNat = l2_5.toInt.toNat := by
           first
             | (have e : l2_5.toInt.toNat = 0 := by omega
                rw [e]; rfl)
             | (have e : l2_5.toInt.toNat = (l2_5.toInt - 1).toNat + 1 := by omega
                have e3 : G.2.2.1 (F a 1) (l2_5.toInt - 1).toNat = some q22 := by rw [← ps.1 _ (by omega)]; exact hR22
                rw [e, posR_here]
                show ¬ (_ < rkO G (G.2.2.1 (F a 1) (l2_5.toInt - 1).toNat))
                rw [e3]
                show ¬ (_ < (G.1 q22 8).toInt)
                omega)
         intro i hi
         rw [r_G79_F_a_1, ← pp, key]
         exact shf_ins ps (by rw [rput_j hG71, if_pos rfl]) (fun j hj => by rw [rput_j hG71, if_neg hj]) i (by omega)))
theorem v_X0_insert_82_25 {K : Nat → Nat} {F : Nat → Nat → Nat} (a : Nat) (p0 : Nat) (q22 : Nat) (G : XG) (G_5 : XG) (l2_5 : Int32) (N5 : Nat)
    (ha : K a = 2)
    (hp0 : K p0 = 9)
    (ps : shf (G.2.2.1 (F a 1)) (G_5.2.2.1 (F a 1)) (l2_5.toInt).toNat ((G.1 a 2).toInt).toNat)
    (pp : posR (fun j => rkO G (G.2.2.1 (F a 1) j)) ((G.1 p0 8).toInt) (l2_5.toInt).toNat = posR (fun j => rkO G (G.2.2.1 (F a 1) j)) ((G.1 p0 8).toInt) ((G.1 a 2).toInt).toNat)
    (pf : ∀ (i q : Nat), G_5.2.2.1 (F a 1) i = some q → ∃ j : Nat, G.2.2.1 (F a 1) j = some q)
    (hR22 : G_5.2.2.1 (F a 1) ((l2_5.toInt - (1 : Int))).toNat = some q22)
    (s0 : 0 ≤ ((G.1 a 2).toInt) ∧ ((G.1 a 2).toInt) ≤ 11)
    (I5_0 : 0 ≤ l2_5.toInt ∧ l2_5.toInt ≤ ((G.1 a 2).toInt))
    (I5_1 : ((G_5.1 a 2).toInt) = ((G.1 a 2).toInt))
    (hm5 : l2_5.toInt + 1 < (((N5) + 1 : Nat) : Int))
    (c6 : ¬ (l2_5.toInt ≤ 0))
    (c12 : ¬ ((12 : Int) ≤ l2_5.toInt))
    (c36 : ¬ (((G.1 p0 8).toInt) < ((G.1 q22 8).toInt)))
    (c56 : ¬ (l2_5.toInt < 0))
    (c62 : (12 : Int) ≤ l2_5.toInt) :
    ∀ (i q : Nat), G_5.2.2.1 (F a 1) i = some q → q = p0 ∨ ∃ j : Nat, G.2.2.1 (F a 1) j = some q := by
  first | (exfalso; omega) | skip
  all_goals (
    intro i q h
    first
      | (rw [r_G79_F_a_1, rput_j hG71] at h
         split at h
         · cases h; exact Or.inl rfl
         · exact Or.inr (pf i q h))
      | exact Or.inr (pf i q h))
theorem v_X0_insert_82_26 {K : Nat → Nat} {F : Nat → Nat → Nat} (a : Nat) (p0 : Nat) (q22 : Nat) (G : XG) (G_5 : XG) (G71 : XG) (l2_5 : Int32) (G79 : XG) (N5 : Nat)
    (ha : K a = 2)
    (hp0 : K p0 = 9)
    (hG71 : G71 = rput G_5 (F a 1) l2_5.toInt.toNat (some p0))
    (hf : ∀ i : Nat, (i : Int) < ((G.1 a 2).toInt) → G.2.2.1 (F a 1) i ≠ none)
    (ps : shf (G.2.2.1 (F a 1)) (G_5.2.2.1 (F a 1)) (l2_5.toInt).toNat ((G.1 a 2).toInt).toNat)
    (pp : posR (fun j => rkO G (G.2.2.1 (F a 1) j)) ((G.1 p0 8).toInt) (l2_5.toInt).toNat = posR (fun j => rkO G (G.2.2.1 (F a 1) j)) ((G.1 p0 8).toInt) ((G.1 a 2).toInt).toNat)
    (hR22 : G_5.2.2.1 (F a 1) ((l2_5.toInt - (1 : Int))).toNat = some q22)
    (s0 : 0 ≤ ((G.1 a 2).toInt) ∧ ((G.1 a 2).toInt) ≤ 11)
    (I5_0 : 0 ≤ l2_5.toInt ∧ l2_5.toInt ≤ ((G.1 a 2).toInt))
    (I5_1 : ((G_5.1 a 2).toInt) = ((G.1 a 2).toInt))
    (hm5 : l2_5.toInt + 1 < (((N5) + 1 : Nat) : Int))
    (c6 : ¬ (l2_5.toInt ≤ 0))
    (c12 : ¬ ((12 : Int) ≤ l2_5.toInt))
    (c36 : ¬ (((G.1 p0 8).toInt) < ((G.1 q22 8).toInt)))
    (c56 : ¬ (l2_5.toInt < 0))
    (r_G79_F_a_1 : G79.2.2.1 (F a 1) = G71.2.2.1 (F a 1)) :
    ∀ i : Nat, (i : Int) ≤ ((G.1 a 2).toInt) → G79.2.2.1 (F a 1) i = insF (G.2.2.1 (F a 1)) (posR (fun j => rkO G (G.2.2.1 (F a 1) j)) ((G.1 p0 8).toInt) (((G.1 a 2).toInt)).toNat) (some p0) i := by
  first | (exfalso; omega) | skip
  all_goals (
    first
      | (exfalso
         have e3 : G.2.2.1 (F a 1) (l2_5.toInt - 1).toNat = none := by rw [← ps.1 _ (by omega)]; exact hR22
         exact hf _ (by omega) e3)
      | (have key : posR (fun j => rkO G (G.2.2.1 (F a 1) j)) ((G.1 p0 8).toInt) (l2_5.toInt).toNat = l2_5.toInt.toNat := by
           first
             | (have e : l2_5.toInt.toNat = 0 := by omega
                rw [e]; rfl)
             | (have e : l2_5.toInt.toNat = (l2_5.toInt - 1).toNat + 1 := by omega
                have e3 : G.2.2.1 (F a 1) (l2_5.toInt - 1).toNat = some q22 := by rw [← ps.1 _ (by omega)]; exact hR22
                rw [e, posR_here]
                show ¬ (_ < rkO G (G.2.2.1 (F a 1) (l2_5.toInt - 1).toNat))
                rw [e3]
                show ¬ (_ < (G.1 q22 8).toInt)
                omega)
         intro i hi
         rw [r_G79_F_a_1, ← pp, key]
         exact shf_ins ps (by rw [rput_j hG71, if_pos rfl]) (fun j hj => by rw [rput_j hG71, if_neg hj]) i (by omega)))
theorem v_X0_insert_82_27 {K : Nat → Nat} {F : Nat → Nat → Nat} (a : Nat) (p0 : Nat) (q22 : Nat) (G : XG) (G_5 : XG) (G71 : XG) (l2_5 : Int32) (G79 : XG) (N5 : Nat)
    (ha : K a = 2)
    (hp0 : K p0 = 9)
    (hG71 : G71 = rput G_5 (F a 1) l2_5.toInt.toNat (some p0))
    (ps : shf (G.2.2.1 (F a 1)) (G_5.2.2.1 (F a 1)) (l2_5.toInt).toNat ((G.1 a 2).toInt).toNat)
    (pp : posR (fun j => rkO G (G.2.2.1 (F a 1) j)) ((G.1 p0 8).toInt) (l2_5.toInt).toNat = posR (fun j => rkO G (G.2.2.1 (F a 1) j)) ((G.1 p0 8).toInt) ((G.1 a 2).toInt).toNat)
    (pf : ∀ (i q : Nat), G_5.2.2.1 (F a 1) i = some q → ∃ j : Nat, G.2.2.1 (F a 1) j = some q)
    (hR22 : G_5.2.2.1 (F a 1) ((l2_5.toInt - (1 : Int))).toNat = some q22)
    (s0 : 0 ≤ ((G.1 a 2).toInt) ∧ ((G.1 a 2).toInt) ≤ 11)
    (I5_0 : 0 ≤ l2_5.toInt ∧ l2_5.toInt ≤ ((G.1 a 2).toInt))
    (I5_1 : ((G_5.1 a 2).toInt) = ((G.1 a 2).toInt))
    (hm5 : l2_5.toInt + 1 < (((N5) + 1 : Nat) : Int))
    (c6 : ¬ (l2_5.toInt ≤ 0))
    (c12 : ¬ ((12 : Int) ≤ l2_5.toInt))
    (c36 : ¬ (((G.1 p0 8).toInt) < ((G.1 q22 8).toInt)))
    (c56 : ¬ (l2_5.toInt < 0))
    (r_G79_F_a_1 : G79.2.2.1 (F a 1) = G71.2.2.1 (F a 1)) :
    ∀ (i q : Nat), G79.2.2.1 (F a 1) i = some q → q = p0 ∨ ∃ j : Nat, G.2.2.1 (F a 1) j = some q := by
  first | (exfalso; omega) | skip
  all_goals (
    intro i q h
    first
      | (rw [r_G79_F_a_1, rput_j hG71] at h
         split at h
         · cases h; exact Or.inl rfl
         · exact Or.inr (pf i q h))
      | exact Or.inr (pf i q h))
theorem v_X0_insert_4_28 {F : Nat → Nat → Nat} (a : Nat) (G : XG) :
    shf (G.2.2.1 (F a 1)) (G.2.2.1 (F a 1)) (((G.1 a 2).toInt)).toNat ((G.1 a 2).toInt).toNat := by
  exact shf_0 _ _
theorem v_X0_insert_4_29 {F : Nat → Nat → Nat} (a : Nat) (p0 : Nat) (G : XG) :
    posR (fun j => rkO G (G.2.2.1 (F a 1) j)) ((G.1 p0 8).toInt) (((G.1 a 2).toInt)).toNat = posR (fun j => rkO G (G.2.2.1 (F a 1) j)) ((G.1 p0 8).toInt) ((G.1 a 2).toInt).toNat := by
  rfl
theorem v_X0_insert_4_30 {F : Nat → Nat → Nat} (a : Nat) (G : XG) :
    ∀ (i q : Nat), G.2.2.1 (F a 1) i = some q → ∃ j : Nat, G.2.2.1 (F a 1) j = some q := by
  exact fun i q h => ⟨i, h⟩
theorem v_X0_arrange_35_1 {K : Nat → Nat} {F : Nat → Nat → Nat} (a : Nat) (G : XG) (G_7 : XG) (l1_7 : Int32) (N7 : Nat)
    (ha : K a = 2)
    (po : ORn (G.2.2.1 (F a 0)) (G_7.2.2.1 (F a 1)) ((G_7.1 a 2).toInt) (fun i => rkO G (G.2.2.1 (F a 0) i)) (l1_7.toInt).toNat)
    (I7_0 : 0 ≤ l1_7.toInt ∧ l1_7.toInt ≤ 12)
    (I7_1 : 0 ≤ ((G_7.1 a 2).toInt) ∧ ((G_7.1 a 2).toInt) ≤ l1_7.toInt)
    (I7_2 : (0 : Int) ≤ l1_7.toInt)
    (hm7 : 2147483648 - l1_7.toInt < (((N7) + 1 : Nat) : Int))
    (c10 : (12 : Int) ≤ l1_7.toInt) :
    ORn (G.2.2.1 (F a 0)) (G_7.2.2.1 (F a 1)) ((G_7.1 a 2).toInt) (fun i => rkO G (G.2.2.1 (F a 0) i)) 12 := by
  have e : l1_7.toInt.toNat = 12 := by omega
  rw [e] at po
  exact po
theorem v_X0_arrange_35_2 {F : Nat → Nat → Nat} (a : Nat) (G : XG) (G_7 : XG)
    (pf : ∀ (i q : Nat), G_7.2.2.1 (F a 1) i = some q → (∃ j : Nat, G.2.2.1 (F a 1) j = some q) ∨ ∃ j : Nat, G.2.2.1 (F a 0) j = some q) :
    ∀ (i q : Nat), G_7.2.2.1 (F a 1) i = some q → (∃ j : Nat, G.2.2.1 (F a 1) j = some q) ∨ ∃ j : Nat, G.2.2.1 (F a 0) j = some q := by
  exact pf
theorem v_X0_arrange_32_3 {K : Nat → Nat} {F : Nat → Nat → Nat} (a : Nat) (G2 : XG) (G : XG) (G_7 : XG) (l1_7 : Int32) (N7 : Nat)
    (ha : K a = 2)
    (hG2 : G2 = dput G a 2 0)
    (hF_7 : XFr [(a, 2)] [] [F a 1] G2 G_7)
    (po : ORn (G.2.2.1 (F a 0)) (G_7.2.2.1 (F a 1)) ((G_7.1 a 2).toInt) (fun i => rkO G (G.2.2.1 (F a 0) i)) (l1_7.toInt).toNat)
    (hR18 : G.2.2.1 (F a 0) (l1_7.toInt).toNat = none)
    (I7_0 : 0 ≤ l1_7.toInt ∧ l1_7.toInt ≤ 12)
    (I7_1 : 0 ≤ ((G_7.1 a 2).toInt) ∧ ((G_7.1 a 2).toInt) ≤ l1_7.toInt)
    (I7_2 : (0 : Int) ≤ l1_7.toInt)
    (hm7 : 2147483648 - l1_7.toInt < (((N7) + 1 : Nat) : Int))
    (c10 : ¬ ((12 : Int) ≤ l1_7.toInt)) :
    ORn (G.2.2.1 (F a 0)) (G_7.2.2.1 (F a 1)) ((G_7.1 a 2).toInt) (fun i => rkO G (G.2.2.1 (F a 0) i)) (l1_7.toInt + 1).toNat := by
  have e : (l1_7.toInt + 1).toNat = l1_7.toInt.toNat + 1 := by omega
  rw [e]
  first
    | exact po.skip hR18
    | (refine po.step hR18 (v := (G.1 q18 8).toInt) (by show rkO G (G.2.2.1 (F a 0) _) = _; rw [hR18]; rfl) (fun j hj => ?_) t26 oq26
       show rkO G_7 (G_7.2.2.1 (F a 1) j) = rkO G (G.2.2.1 (F a 0) _)
       rw [po.2 j (by have := po.1; omega)]
       exact (rkO_fr hF_7 (fun b => by simp) _).trans (rkO_d hG2 _))
theorem v_X0_arrange_32_4 {F : Nat → Nat → Nat} (a : Nat) (G : XG) (G_7 : XG) (l1_7 : Int32)
    (pf : ∀ (i q : Nat), G_7.2.2.1 (F a 1) i = some q → (∃ j : Nat, G.2.2.1 (F a 1) j = some q) ∨ ∃ j : Nat, G.2.2.1 (F a 0) j = some q)
    (hR18 : G.2.2.1 (F a 0) (l1_7.toInt).toNat = none) :
    ∀ (i q : Nat), G_7.2.2.1 (F a 1) i = some q → (∃ j : Nat, G.2.2.1 (F a 1) j = some q) ∨ ∃ j : Nat, G.2.2.1 (F a 0) j = some q := by
  first
    | exact pf
    | (intro i q h
       rcases oq26a i q h with e | ⟨j, e⟩
       · subst e; exact Or.inr ⟨_, hR18⟩
       · exact pf j q e)
theorem v_X0_arrange_26_5 {F : Nat → Nat → Nat} (a : Nat) (G : XG) (G_7 : XG) (l1_7 : Int32)
    (po : ORn (G.2.2.1 (F a 0)) (G_7.2.2.1 (F a 1)) ((G_7.1 a 2).toInt) (fun i => rkO G (G.2.2.1 (F a 0) i)) (l1_7.toInt).toNat) :
    ∀ i : Nat, (i : Int) < ((G_7.1 a 2).toInt) → G_7.2.2.1 (F a 1) i ≠ none := by
  exact fun i hi => po.sm i hi
theorem v_X0_arrange_32_6 {K : Nat → Nat} {F : Nat → Nat → Nat} (a : Nat) (q18 : Nat) (G2 : XG) (G : XG) (G_7 : XG) (G26 : XG) (l1_7 : Int32) (N7 : Nat)
    (ha : K a = 2)
    (hG2 : G2 = dput G a 2 0)
    (hF_7 : XFr [(a, 2)] [] [F a 1] G2 G_7)
    (po : ORn (G.2.2.1 (F a 0)) (G_7.2.2.1 (F a 1)) ((G_7.1 a 2).toInt) (fun i => rkO G (G.2.2.1 (F a 0) i)) (l1_7.toInt).toNat)
    (hR18 : G.2.2.1 (F a 0) (l1_7.toInt).toNat = some q18)
    (oq26 : ∀ i : Nat, (i : Int) ≤ ((G_7.1 a 2).toInt) → G26.2.2.1 (F a 1) i = insF (G_7.2.2.1 (F a 1)) (posR (fun j => rkO G_7 (G_7.2.2.1 (F a 1) j)) ((G.1 q18 8).toInt) (((G_7.1 a 2).toInt)).toNat) (some q18) i)
    (I7_0 : 0 ≤ l1_7.toInt ∧ l1_7.toInt ≤ 12)
    (I7_1 : 0 ≤ ((G_7.1 a 2).toInt) ∧ ((G_7.1 a 2).toInt) ≤ l1_7.toInt)
    (I7_2 : (0 : Int) ≤ l1_7.toInt)
    (hm7 : 2147483648 - l1_7.toInt < (((N7) + 1 : Nat) : Int))
    (c10 : ¬ ((12 : Int) ≤ l1_7.toInt))
    (t26 : ((G26.1 a 2).toInt) = ((G_7.1 a 2).toInt) + 1) :
    ORn (G.2.2.1 (F a 0)) (G26.2.2.1 (F a 1)) ((G26.1 a 2).toInt) (fun i => rkO G (G.2.2.1 (F a 0) i)) (l1_7.toInt + 1).toNat := by
  have e : (l1_7.toInt + 1).toNat = l1_7.toInt.toNat + 1 := by omega
  rw [e]
  first
    | exact po.skip hR18
    | (refine po.step hR18 (v := (G.1 q18 8).toInt) (by show rkO G (G.2.2.1 (F a 0) _) = _; rw [hR18]; rfl) (fun j hj => ?_) t26 oq26
       show rkO G_7 (G_7.2.2.1 (F a 1) j) = rkO G (G.2.2.1 (F a 0) _)
       rw [po.2 j (by have := po.1; omega)]
       exact (rkO_fr hF_7 (fun b => by simp) _).trans (rkO_d hG2 _))
theorem v_X0_arrange_32_7 {F : Nat → Nat → Nat} (a : Nat) (q18 : Nat) (G : XG) (G_7 : XG) (G26 : XG) (l1_7 : Int32)
    (pf : ∀ (i q : Nat), G_7.2.2.1 (F a 1) i = some q → (∃ j : Nat, G.2.2.1 (F a 1) j = some q) ∨ ∃ j : Nat, G.2.2.1 (F a 0) j = some q)
    (hR18 : G.2.2.1 (F a 0) (l1_7.toInt).toNat = some q18)
    (oq26a : ∀ (i q : Nat), G26.2.2.1 (F a 1) i = some q → q = q18 ∨ ∃ j : Nat, G_7.2.2.1 (F a 1) j = some q) :
    ∀ (i q : Nat), G26.2.2.1 (F a 1) i = some q → (∃ j : Nat, G.2.2.1 (F a 1) j = some q) ∨ ∃ j : Nat, G.2.2.1 (F a 0) j = some q := by
  first
    | exact pf
    | (intro i q h
       rcases oq26a i q h with e | ⟨j, e⟩
       · subst e; exact Or.inr ⟨_, hR18⟩
       · exact pf j q e)
theorem v_X0_arrange_6_8 {F : Nat → Nat → Nat} (a : Nat) (G2 : XG) (G : XG) :
    ORn (G.2.2.1 (F a 0)) (G2.2.2.1 (F a 1)) (0 : Int) (fun i => rkO G (G.2.2.1 (F a 0) i)) (0 : Int).toNat := by
  exact ⟨rfl, fun i hi => absurd hi (Nat.not_lt_zero i)⟩
theorem v_X0_arrange_6_9 {F : Nat → Nat → Nat} (a : Nat) (G2 : XG) (G : XG)
    (r_G2_F_a_1 : G2.2.2.1 (F a 1) = G.2.2.1 (F a 1)) :
    ∀ (i q : Nat), G2.2.2.1 (F a 1) i = some q → (∃ j : Nat, G.2.2.1 (F a 1) j = some q) ∨ ∃ j : Nat, G.2.2.1 (F a 0) j = some q := by
  intro i q h
  (try rw [r_G2_F_a_1] at h)
  exact Or.inl ⟨i, h⟩
theorem z_X0_size_1 (a0 : Int) : a0 = a0 := by omega
abbrev rm_X0_size : Room := { frames := 0, cells := 0, slots := 0, locals := 0 }
set_option maxHeartbeats 4000000 in
set_option maxRecDepth 100000 in
theorem c_X0_size (l : Launch) (E : XE) (K : Nat → Nat) (F : Nat → Nat → Nat) (G : XG) (h0 : Heap) (a : Nat) (ha : K a = 2) : Met l yX0_size (xw yX0_size cX0_size 1 (some .int)) rm_X0_size (va_Pc [.ref a] (XPh E K F G h0)) (XQ E (fun v (u : Unit) => ∃ r : Int32, v = .int r ∧ (r.toInt = ((G.1 a 2).toInt))) (fun _ H => H = h0)) 0 0 (xA E) := by
  refine x_enter (by decide) (Nat.le_of_ble_eq_true rfl) ?_
  intro p e s m args below meth c Q S hr hlk hnm hQ hP ls hl
  obtain ⟨⟨hz, hK, hT⟩, hh⟩ := hP
  obtain ⟨hx, hb, -, -, -⟩ := id S
  have hS : va_S (xA E) s.heap s.heap [] := va_S.rf
  have hl : lv_has ls 1 [(0, .ref a)] := hl
  refine lv_aload_n hx hb dX0_size_0 rfl (lv_at hl 0 rfl) ?_
  refine gX0_2 S hK hT ha kf_X0_20 dX0_size_1 (v := (G.1 a 2)) rfl (?_)
  exact x_ri hx hb hr hlk hQ (Nat.le_of_ble_eq_true rfl) (Nat.le_of_ble_eq_true rfl) hS dX0_size_4 () ⟨_, rfl, (z_X0_size_1 ((G.1 a 2).toInt))⟩ hh

theorem z_X0_get_1 (a0 : Int) (h0 : ¬ (a0 < 0)) (h1 : ¬ ((12 : Int) ≤ a0)) : 0 ≤ a0 ∧ a0 < 12 := by omega
abbrev rm_X0_get : Room := { frames := 0, cells := 0, slots := 0, locals := 0 }
set_option maxHeartbeats 4000000 in
set_option maxRecDepth 100000 in
theorem c_X0_get (l : Launch) (E : XE) (K : Nat → Nat) (F : Nat → Nat → Nat) (G : XG) (h0 : Heap) (a : Nat) (p0 : Int32) (ha : K a = 2) : Met l yX0_get (xw yX0_get cX0_get 2 (some (.object "LateRules$Rule"))) rm_X0_get (va_Pc [.ref a, .int p0] (XPh E K F G h0)) (XQ E (fun v (u : Unit) => (v = .null ∧ ((p0.toInt < 0 ∨ 12 ≤ p0.toInt) ∨ G.2.2.1 (F a 0) (p0.toInt).toNat = none)) ∨ (∃ q : Nat, v = .ref q ∧ K q = 9 ∧ (0 ≤ p0.toInt ∧ p0.toInt < 12) ∧ (G.2.2.1 (F a 0) (p0.toInt).toNat = some q))) (fun _ H => H = h0)) 0 0 (xA E) := by
  refine x_enter (by decide) (Nat.le_of_ble_eq_true rfl) ?_
  intro p e s m args below meth c Q S hr hlk hnm hQ hP ls hl
  obtain ⟨⟨hz, hK, hT⟩, hh⟩ := hP
  obtain ⟨hx, hb, -, -, -⟩ := id S
  have hS : va_S (xA E) s.heap s.heap [] := va_S.rf
  have hl : lv_has ls 2 [(0, .ref a), (1, .int p0)] := hl
  obtain ⟨hk9999, hj9999⟩ := fkX0_0 hT ha
  refine lv_iload_n hx hb dX0_get_0 rfl (lv_at hl 1 rfl) ?_
  refine xi_zlt (tgt := 19) hx hb (rfl : Int32.toInt p0 = p0.toInt) dX0_get_1 (by decide) (fun c1 => ?_) (fun c1 => ?_)
  · refine lv_null hx hb dX0_get_19 ?_
    exact x_ra hx hb hr (by first | exact Or.inl ⟨_, rfl⟩ | exact Or.inr ⟨_, rfl⟩) (by first | exact Or.inl rfl | exact Or.inr ⟨_, rfl⟩) hlk hQ (Nat.le_of_ble_eq_true rfl) (Nat.le_of_ble_eq_true rfl) hS dX0_get_20 () (Or.inl ⟨rfl, (v_X0_get_20_1 (K := K) (F := F) a p0 G ha hk9999 hj9999 c1)⟩) hh
  · refine lv_iload_n hx hb dX0_get_4 rfl (lv_at hl 1 rfl) ?_
    refine lv_bipush (v := 12) hx hb dX0_get_5 (by decide) ?_
    refine xi_cge (tgt := 19) hx hb (rfl : Int32.toInt p0 = p0.toInt) ((by decide) : Int32.toInt 12 = (12 : Int)) dX0_get_7 (by decide) (fun c7 => ?_) (fun c7 => ?_)
    · refine lv_null hx hb dX0_get_19 ?_
      exact x_ra hx hb hr (by first | exact Or.inl ⟨_, rfl⟩ | exact Or.inr ⟨_, rfl⟩) (by first | exact Or.inl rfl | exact Or.inr ⟨_, rfl⟩) hlk hQ (Nat.le_of_ble_eq_true rfl) (Nat.le_of_ble_eq_true rfl) hS dX0_get_20 () (Or.inl ⟨rfl, (v_X0_get_20_2 (K := K) (F := F) a p0 G ha hk9999 hj9999 c1 c7)⟩) hh
    · refine lv_aload_n hx hb dX0_get_10 rfl (lv_at hl 0 rfl) ?_
      refine gX0_0 S hK hT ha kf_X0_11 dX0_get_11 (fun _ _ => ?_)
      refine lv_iload_n hx hb dX0_get_14 rfl (lv_at hl 1 rfl) ?_
      refine al_15 S hK hT hk9999 (z_X0_get_1 p0.toInt c1 c7) dX0_get_15 (fun hR15 => ?_) (fun q15 hR15 hk15 => ?_)
      · have hR15 : G.2.2.1 (F a 0) (p0.toInt).toNat = none := by rw [← (rfl : Int32.toInt p0 = p0.toInt)]; exact hR15
        refine lv_goto (tgt := 20) hx hb dX0_get_16 (by decide) ?_
        exact x_ra hx hb hr (by first | exact Or.inl ⟨_, rfl⟩ | exact Or.inr ⟨_, rfl⟩) (by first | exact Or.inl rfl | exact Or.inr ⟨_, rfl⟩) hlk hQ (Nat.le_of_ble_eq_true rfl) (Nat.le_of_ble_eq_true rfl) hS dX0_get_20 () (Or.inl ⟨rfl, (v_X0_get_20_3 (K := K) (F := F) a G p0 ha hk9999 hj9999 hR15 c1 c7)⟩) hh
      · have hR15 : G.2.2.1 (F a 0) (p0.toInt).toNat = some q15 := by rw [← (rfl : Int32.toInt p0 = p0.toInt)]; exact hR15
        refine lv_goto (tgt := 20) hx hb dX0_get_16 (by decide) ?_
        exact x_ra hx hb hr (by first | exact Or.inl ⟨_, rfl⟩ | exact Or.inr ⟨_, rfl⟩) (by first | exact Or.inl rfl | exact Or.inr ⟨_, rfl⟩) hlk hQ (Nat.le_of_ble_eq_true rfl) (Nat.le_of_ble_eq_true rfl) hS dX0_get_20 () (Or.inr ⟨_, rfl, hk15, (z_X0_get_1 p0.toInt c1 c7), (v_X0_get_20_4 (K := K) (F := F) a q15 G p0 ha hk9999 hj9999 hk15 hR15 c1 c7)⟩) hh

theorem z_X0_inOrder_2 (a0 : Int) (a1 : Int) (h0 : ¬ (a0 < 0)) (h1 : ¬ (a1 ≤ a0)) (h2 : ¬ ((12 : Int) ≤ a0)) : 0 ≤ a0 ∧ a0 < a1 ∧ a0 < 12 := by omega
abbrev rm_X0_inOrder : Room := { frames := 0, cells := 0, slots := 0, locals := 0 }
set_option maxHeartbeats 4000000 in
set_option maxRecDepth 100000 in
theorem c_X0_inOrder (l : Launch) (E : XE) (K : Nat → Nat) (F : Nat → Nat → Nat) (G : XG) (h0 : Heap) (a : Nat) (p0 : Int32) (ha : K a = 2) : Met l yX0_inOrder (xw yX0_inOrder cX0_inOrder 2 (some (.object "LateRules$Rule"))) rm_X0_inOrder (va_Pc [.ref a, .int p0] (XPh E K F G h0)) (XQ E (fun v (u : Unit) => (v = .null ∧ ((p0.toInt < 0 ∨ ((G.1 a 2).toInt) ≤ p0.toInt ∨ 12 ≤ p0.toInt) ∨ G.2.2.1 (F a 1) (p0.toInt).toNat = none)) ∨ (∃ q : Nat, v = .ref q ∧ K q = 9 ∧ (0 ≤ p0.toInt ∧ p0.toInt < ((G.1 a 2).toInt) ∧ p0.toInt < 12) ∧ (G.2.2.1 (F a 1) (p0.toInt).toNat = some q))) (fun _ H => H = h0)) 0 0 (xA E) := by
  refine x_enter (by decide) (Nat.le_of_ble_eq_true rfl) ?_
  intro p e s m args below meth c Q S hr hlk hnm hQ hP ls hl
  obtain ⟨⟨hz, hK, hT⟩, hh⟩ := hP
  obtain ⟨hx, hb, -, -, -⟩ := id S
  have hS : va_S (xA E) s.heap s.heap [] := va_S.rf
  have hl : lv_has ls 2 [(0, .ref a), (1, .int p0)] := hl
  obtain ⟨hk9999, hj9999⟩ := fkX0_1 hT ha
  refine lv_iload_n hx hb dX0_inOrder_0 rfl (lv_at hl 1 rfl) ?_
  refine xi_zlt (tgt := 27) hx hb (rfl : Int32.toInt p0 = p0.toInt) dX0_inOrder_1 (by decide) (fun c1 => ?_) (fun c1 => ?_)
  · refine lv_null hx hb dX0_inOrder_27 ?_
    exact x_ra hx hb hr (by first | exact Or.inl ⟨_, rfl⟩ | exact Or.inr ⟨_, rfl⟩) (by first | exact Or.inl rfl | exact Or.inr ⟨_, rfl⟩) hlk hQ (Nat.le_of_ble_eq_true rfl) (Nat.le_of_ble_eq_true rfl) hS dX0_inOrder_28 () (Or.inl ⟨rfl, (v_X0_inOrder_28_1 (K := K) (F := F) a p0 G ha hk9999 hj9999 c1)⟩) hh
  · refine lv_iload_n hx hb dX0_inOrder_4 rfl (lv_at hl 1 rfl) ?_
    refine lv_aload_n hx hb dX0_inOrder_5 rfl (lv_at hl 0 rfl) ?_
    refine gX0_2 S hK hT ha kf_X0_20 dX0_inOrder_6 (v := (G.1 a 2)) rfl (?_)
    refine xi_cge (tgt := 27) hx hb (rfl : Int32.toInt p0 = p0.toInt) (rfl : Int32.toInt (G.1 a 2) = ((G.1 a 2).toInt)) dX0_inOrder_9 (by decide) (fun c9 => ?_) (fun c9 => ?_)
    · refine lv_null hx hb dX0_inOrder_27 ?_
      exact x_ra hx hb hr (by first | exact Or.inl ⟨_, rfl⟩ | exact Or.inr ⟨_, rfl⟩) (by first | exact Or.inl rfl | exact Or.inr ⟨_, rfl⟩) hlk hQ (Nat.le_of_ble_eq_true rfl) (Nat.le_of_ble_eq_true rfl) hS dX0_inOrder_28 () (Or.inl ⟨rfl, (v_X0_inOrder_28_2 (K := K) (F := F) a p0 G ha hk9999 hj9999 c1 c9)⟩) hh
    · refine lv_iload_n hx hb dX0_inOrder_12 rfl (lv_at hl 1 rfl) ?_
      refine lv_bipush (v := 12) hx hb dX0_inOrder_13 (by decide) ?_
      refine xi_cge (tgt := 27) hx hb (rfl : Int32.toInt p0 = p0.toInt) ((by decide) : Int32.toInt 12 = (12 : Int)) dX0_inOrder_15 (by decide) (fun c15 => ?_) (fun c15 => ?_)
      · refine lv_null hx hb dX0_inOrder_27 ?_
        exact x_ra hx hb hr (by first | exact Or.inl ⟨_, rfl⟩ | exact Or.inr ⟨_, rfl⟩) (by first | exact Or.inl rfl | exact Or.inr ⟨_, rfl⟩) hlk hQ (Nat.le_of_ble_eq_true rfl) (Nat.le_of_ble_eq_true rfl) hS dX0_inOrder_28 () (Or.inl ⟨rfl, (v_X0_inOrder_28_3 (K := K) (F := F) a p0 G ha hk9999 hj9999 c1 c9 c15)⟩) hh
      · refine lv_aload_n hx hb dX0_inOrder_18 rfl (lv_at hl 0 rfl) ?_
        refine gX0_1 S hK hT ha kf_X0_17 dX0_inOrder_19 (fun _ _ => ?_)
        refine lv_iload_n hx hb dX0_inOrder_22 rfl (lv_at hl 1 rfl) ?_
        refine al_15 S hK hT hk9999 (z_X0_get_1 p0.toInt c1 c15) dX0_inOrder_23 (fun hR23 => ?_) (fun q23 hR23 hk23 => ?_)
        · have hR23 : G.2.2.1 (F a 1) (p0.toInt).toNat = none := by rw [← (rfl : Int32.toInt p0 = p0.toInt)]; exact hR23
          refine lv_goto (tgt := 28) hx hb dX0_inOrder_24 (by decide) ?_
          exact x_ra hx hb hr (by first | exact Or.inl ⟨_, rfl⟩ | exact Or.inr ⟨_, rfl⟩) (by first | exact Or.inl rfl | exact Or.inr ⟨_, rfl⟩) hlk hQ (Nat.le_of_ble_eq_true rfl) (Nat.le_of_ble_eq_true rfl) hS dX0_inOrder_28 () (Or.inl ⟨rfl, (v_X0_inOrder_28_4 (K := K) (F := F) a G p0 ha hk9999 hj9999 hR23 c1 c9 c15)⟩) hh
        · have hR23 : G.2.2.1 (F a 1) (p0.toInt).toNat = some q23 := by rw [← (rfl : Int32.toInt p0 = p0.toInt)]; exact hR23
          refine lv_goto (tgt := 28) hx hb dX0_inOrder_24 (by decide) ?_
          exact x_ra hx hb hr (by first | exact Or.inl ⟨_, rfl⟩ | exact Or.inr ⟨_, rfl⟩) (by first | exact Or.inl rfl | exact Or.inr ⟨_, rfl⟩) hlk hQ (Nat.le_of_ble_eq_true rfl) (Nat.le_of_ble_eq_true rfl) hS dX0_inOrder_28 () (Or.inr ⟨_, rfl, hk23, (z_X0_inOrder_2 p0.toInt ((G.1 a 2).toInt) c1 c9 c15), (v_X0_inOrder_28_5 (K := K) (F := F) a q23 G p0 ha hk9999 hj9999 hk23 hR23 c1 c9 c15)⟩) hh

theorem z_X0_leastFree_1 (a0 : Int) (h0 : 0 ≤ a0 ∧ a0 ≤ 12) : ¬ (2147483648 - a0 < ((0 : Nat) : Int)) := by omega
theorem z_X0_leastFree_2 (a0 : Int) (h0 : 0 ≤ a0 ∧ a0 ≤ 12) (h1 : ¬ ((12 : Int) ≤ a0)) : 0 ≤ a0 ∧ a0 < 12 := by omega
theorem z_X0_leastFree_3 (a0 : Int) (h0 : 0 ≤ a0 ∧ a0 ≤ 12) (h1 : ¬ ((12 : Int) ≤ a0)) : -1 ≤ a0 ∧ a0 ≤ 11 := by omega
theorem z_X0_leastFree_4 (a0 : Int) (a1 : Int) (h0 : 0 ≤ a0 ∧ a0 ≤ 12) (h1 : a1 = (a0 + 1) ∨ (a0 + 1) < -2147483648 ∨ 2147483648 ≤ (a0 + 1)) : a1 = (a0 + 1) := by omega
theorem z_X0_leastFree_5 (a0 : Int) (h0 : 0 ≤ a0 ∧ a0 ≤ 12) (h1 : ¬ ((12 : Int) ≤ a0)) : 0 ≤ (a0 + 1) ∧ (a0 + 1) ≤ 12 := by omega
theorem z_X0_leastFree_6 (a0 : Int) (h0 : 0 ≤ a0 ∧ a0 ≤ 12) : (0 : Int) ≤ (a0 + 1) := by omega
theorem z_X0_leastFree_7 (a0 : Int) (a1 : Nat) (h0 : 2147483648 - a0 < ((a1 + 1 : Nat) : Int)) : 2147483648 - (a0 + 1) < ((a1 : Nat) : Int) := by omega
abbrev rm_X0_leastFree : Room := { frames := 0, cells := 0, slots := 0, locals := 0 }
set_option maxHeartbeats 4000000 in
set_option maxRecDepth 100000 in
theorem c_X0_leastFree (l : Launch) (E : XE) (K : Nat → Nat) (F : Nat → Nat → Nat) (G : XG) (h0 : Heap) (a : Nat) (ha : K a = 2) : Met l yX0_leastFree (xw yX0_leastFree cX0_leastFree 2 (some .int)) rm_X0_leastFree (va_Pc [.ref a] (XPh E K F G h0)) (XQ E (fun v (u : Unit) => ∃ r : Int32, v = .int r ∧ (-1 ≤ r.toInt ∧ r.toInt ≤ 11) ∧ ((r.toInt = -1 ∧ ∀ i : Nat, i < 12 → G.2.2.1 (F a 0) i ≠ none) ∨ (0 ≤ r.toInt ∧ G.2.2.1 (F a 0) (r.toInt).toNat = none ∧ ∀ i : Nat, (i : Int) < r.toInt → G.2.2.1 (F a 0) i ≠ none))) (fun _ H => H = h0)) 0 0 (xA E) := by
  refine x_enter (by decide) (Nat.le_of_ble_eq_true rfl) ?_
  intro p e s m args below meth c Q S hr hlk hnm hQ hP ls hl
  obtain ⟨⟨hz, hK, hT⟩, hh⟩ := hP
  obtain ⟨hx, hb, -, -, -⟩ := id S
  have hS : va_S (xA E) s.heap s.heap [] := va_S.rf
  have hl : lv_has ls 2 [(0, .ref a)] := hl
  obtain ⟨hk9999, hj9999⟩ := fkX0_0 hT ha
  refine lv_iconst (v := 0) hx hb dX0_leastFree_0 (by decide) ?_
  refine lv_istore_n (lv' := [(1, .int 0), (0, .ref a)]) hx hb dX0_leastFree_1 rfl hl (by decide) rfl (fun ls hl => ?_)
  have L2 : ∀ (N2 : Nat) (l1_2 : Int32) (locs : List Loc) (ls : Array Slot), (∀ i : Nat, (i : Int) < l1_2.toInt → G.2.2.1 (F a 0) i ≠ none) → 0 ≤ l1_2.toInt ∧ l1_2.toInt ≤ 12 → (0 : Int) ≤ l1_2.toInt → 2147483648 - l1_2.toInt < ((N2 : Nat) : Int) → TW E K F G s.heap → va_S (xA E) s.heap s.heap locs → lv_has ls 2 [(0, .ref a), (1, .int l1_2)] → W p l e rm_X0_leastFree s m args below meth c s.heap locs 0 0 Q (F0 m 2 ls []) := by
    intro N2
    induction N2 with
    | zero =>
      intro l1_2 locs ls pl I2_0 I2_1 hm2
      exact absurd hm2 (z_X0_leastFree_1 l1_2.toInt I2_0)
    | succ N2 ih2 =>
      intro l1_2 locs ls pl I2_0 I2_1 hm2 hT hS hl
      refine lv_iload_n hx hb dX0_leastFree_2 rfl (lv_at hl 1 rfl) ?_
      refine lv_bipush (v := 12) hx hb dX0_leastFree_3 (by decide) ?_
      refine xi_cge (tgt := 25) hx hb (rfl : Int32.toInt l1_2 = l1_2.toInt) ((by decide) : Int32.toInt 12 = (12 : Int)) dX0_leastFree_5 (by decide) (fun c5 => ?_) (fun c5 => ?_)
      · refine lv_iconst (v := (-1)) hx hb dX0_leastFree_25 (by decide) ?_
        exact x_ri hx hb hr hlk hQ (Nat.le_of_ble_eq_true rfl) (Nat.le_of_ble_eq_true rfl) hS dX0_leastFree_26 () ⟨_, rfl, (by rw [((by decide) : Int32.toInt (-1) = (-1 : Int))] <;> exact (by decide)), (by rw [((by decide) : Int32.toInt (-1) = (-1 : Int))] <;> exact (v_X0_leastFree_26_1 (K := K) (F := F) a l1_2 G N2 ha pl I2_0 I2_1 hm2 c5))⟩ hh
      · refine lv_aload_n hx hb dX0_leastFree_8 rfl (lv_at hl 0 rfl) ?_
        refine gX0_0 S hK hT ha kf_X0_11 dX0_leastFree_9 (fun _ _ => ?_)
        refine lv_iload_n hx hb dX0_leastFree_12 rfl (lv_at hl 1 rfl) ?_
        refine al_15 S hK hT hk9999 (z_X0_leastFree_2 l1_2.toInt I2_0 c5) dX0_leastFree_13 (fun hR13 => ?_) (fun q13 hR13 hk13 => ?_)
        · have hR13 : G.2.2.1 (F a 0) (l1_2.toInt).toNat = none := by rw [← (rfl : Int32.toInt l1_2 = l1_2.toInt)]; exact hR13
          refine lv_ifnonnullN hx hb dX0_leastFree_14 ?_
          refine lv_iload_n hx hb dX0_leastFree_17 rfl (lv_at hl 1 rfl) ?_
          exact x_ri hx hb hr hlk hQ (Nat.le_of_ble_eq_true rfl) (Nat.le_of_ble_eq_true rfl) hS dX0_leastFree_18 () ⟨_, rfl, (z_X0_leastFree_3 l1_2.toInt I2_0 c5), (v_X0_leastFree_18_2 (K := K) (F := F) a l1_2 G N2 ha pl hR13 I2_0 I2_1 hm2 c5)⟩ hh
        · have hR13 : G.2.2.1 (F a 0) (l1_2.toInt).toNat = some q13 := by rw [← (rfl : Int32.toInt l1_2 = l1_2.toInt)]; exact hR13
          refine lv_ifnonnull (tgt := 19) hx hb dX0_leastFree_14 (by decide) ?_
          refine xi_iinc (n := 1) (lv' := fun z9 => [(1, .int z9), (0, .ref a)]) (k := 1) hx hb (rfl : Int32.toInt l1_2 = l1_2.toInt) (by decide) dX0_leastFree_19 hl rfl (by decide) (fun _ => rfl) (fun x19 ls t19 hl => ?_)
          have e19 : x19.toInt = (l1_2.toInt + 1) := (z_X0_leastFree_4 l1_2.toInt x19.toInt I2_0 t19)
          have hl : lv_has ls 2 [(1, .int x19), (0, .ref a)] := hl
          refine lv_goto (tgt := 2) hx hb dX0_leastFree_22 (by decide) ?_
          exact ih2 x19 _ _ (by rw [(e19 : Int32.toInt x19 = (l1_2.toInt + 1))] <;> exact (v_X0_leastFree_22_3 (K := K) (F := F) a q13 l1_2 G N2 ha pl hR13 I2_0 I2_1 hm2 c5)) (by rw [(e19 : Int32.toInt x19 = (l1_2.toInt + 1))] <;> exact (z_X0_leastFree_5 l1_2.toInt I2_0 c5)) (by rw [(e19 : Int32.toInt x19 = (l1_2.toInt + 1))] <;> exact (z_X0_leastFree_6 l1_2.toInt I2_0)) (by rw [(e19 : Int32.toInt x19 = (l1_2.toInt + 1))] <;> exact (z_X0_leastFree_7 l1_2.toInt N2 hm2)) hT hS (lv_sub hl [1, 0] rfl)
  exact L2 4294967297 0 _ _ (v_X0_leastFree_1_4 (K := K) (F := F) a G ha) (by decide) (by decide) (by decide) hT hS (lv_sub hl [1, 0] rfl)

theorem z_X0_insert_1 (a0 : Int) (a1 : Int) (h0 : 0 ≤ a0 ∧ a0 ≤ a1) : ¬ (a0 + 1 < ((0 : Nat) : Int)) := by omega
theorem z_X0_insert_2 (a0 : Int) (a1 : Int) (a2 : Int) (h0 : 0 ≤ a0 ∧ a0 ≤ a1) (h1 : a0 < 0) : a2 = a1 + 1 := by omega
theorem z_X0_insert_3 (a0 : Int) (a1 : Int) (a2 : Int) (h0 : a0 ≤ 0) (h1 : (12 : Int) ≤ a0) : a2 = a1 + 1 := by omega
theorem z_X0_insert_4 (a0 : Int) (a1 : Int) (h0 : 0 ≤ a0 ∧ a0 ≤ a1) (h1 : a0 ≤ 0) : 0 ≤ a0 ∧ a0 < 12 := by omega
theorem z_X0_insert_5 (a0 : Int) (a1 : Int) (a2 : Int) (h0 : 0 ≤ a1 ∧ a1 ≤ 11) (h1 : a2 = a1) (h2 : a0 = (a2 + (1 : Int)) ∨ (a2 + (1 : Int)) < -2147483648 ∨ 2147483648 ≤ (a2 + (1 : Int))) : a0 = (a2 + (1 : Int)) := by omega
theorem z_X0_insert_6 (a0 : Int) (a1 : Int) (h0 : a1 = a0) : (a1 + (1 : Int)) = a0 + 1 := by omega
theorem z_X0_insert_7 (a0 : Int) (a1 : Int) (a2 : Int) (h0 : (12 : Int) ≤ a0) (h1 : a0 < 0) : a2 = a1 + 1 := by omega
theorem z_X0_insert_8 (a0 : Int) (a1 : Int) (a2 : Int) (h0 : 0 ≤ a1 ∧ a1 ≤ 11) (h1 : 0 ≤ a0 ∧ a0 ≤ a1) (h2 : (12 : Int) ≤ a0) : a2 = a1 + 1 := by omega
theorem z_X0_insert_9 (a0 : Int) (h0 : (12 : Int) ≤ a0) (h1 : ¬ ((12 : Int) ≤ a0)) : 0 ≤ a0 ∧ a0 < 12 := by omega
theorem z_X0_insert_10 (a0 : Int) (a1 : Int) (a2 : Int) (h0 : (12 : Int) ≤ a0) (h1 : ¬ ((12 : Int) ≤ a0)) : a1 = (a2 + (1 : Int)) := by omega
theorem z_X0_insert_11 (a0 : Int) (a1 : Int) (a2 : Int) (h0 : (12 : Int) ≤ a0) (h1 : ¬ ((12 : Int) ≤ a0)) : (a2 + (1 : Int)) = a1 + 1 := by omega
theorem z_X0_insert_12 (a0 : Int) (a1 : Int) (h0 : ¬ (a0 ≤ 0)) (h1 : ¬ ((12 : Int) ≤ a0)) (h2 : a1 = (a0 - (1 : Int)) ∨ (a0 - (1 : Int)) < -2147483648 ∨ 2147483648 ≤ (a0 - (1 : Int))) : a1 = (a0 - (1 : Int)) := by omega
theorem z_X0_insert_13 (a0 : Int) (h0 : ¬ (a0 ≤ 0)) (h1 : ¬ ((12 : Int) ≤ a0)) : 0 ≤ (a0 - (1 : Int)) ∧ (a0 - (1 : Int)) < 12 := by omega
theorem z_X0_insert_14 (a0 : Int) (a1 : Int) (a2 : Int) (h0 : ¬ (a0 ≤ 0)) (h1 : a0 < 0) : a2 = a1 + 1 := by omega
theorem z_X0_insert_15 (a0 : Int) (a1 : Int) (a2 : Int) (h0 : ¬ ((12 : Int) ≤ a0)) (h1 : (12 : Int) ≤ a0) : a2 = a1 + 1 := by omega
theorem z_X0_insert_16 (a0 : Int) (h0 : ¬ (a0 ≤ 0)) (h1 : ¬ ((12 : Int) ≤ a0)) : 0 ≤ a0 ∧ a0 < 12 := by omega
theorem z_X0_insert_20 (a0 : Int) (a1 : Int) (h0 : ¬ (a0 ≤ 0)) (h1 : ¬ ((12 : Int) ≤ a0)) (h2 : a1 = (a0 + (-1)) ∨ (a0 + (-1)) < -2147483648 ∨ 2147483648 ≤ (a0 + (-1))) : a1 = (a0 + (-1)) := by omega
theorem z_X0_insert_21 (a0 : Int) (a1 : Int) (h0 : 0 ≤ a0 ∧ a0 ≤ a1) (h1 : ¬ (a0 ≤ 0)) : 0 ≤ (a0 + (-1)) ∧ (a0 + (-1)) ≤ a1 := by omega
theorem z_X0_insert_23 (a0 : Int) (a1 : Nat) (h0 : a0 + 1 < ((a1 + 1 : Nat) : Int)) : (a0 + (-1)) + 1 < ((a1 : Nat) : Int) := by omega
theorem z_X0_insert_29 (a0 : Int) (h0 : 0 ≤ a0 ∧ a0 ≤ 11) : 0 ≤ a0 ∧ a0 ≤ a0 := by omega
theorem z_X0_insert_31 (a0 : Int) (h0 : 0 ≤ a0 ∧ a0 ≤ 11) : a0 + 1 < ((4294967297 : Nat) : Int) := by omega
abbrev rm_X0_insert : Room := { frames := 0, cells := 0, slots := 0, locals := 0 }
set_option maxHeartbeats 4000000 in
set_option maxRecDepth 100000 in
theorem c_X0_insert (l : Launch) (E : XE) (K : Nat → Nat) (F : Nat → Nat → Nat) (G : XG) (a : Nat) (p0 : Nat) (ha : K a = 2) (hp0 : K p0 = 9) (s0 : 0 ≤ ((G.1 a 2).toInt) ∧ ((G.1 a 2).toInt) ≤ 11) (hf : ∀ i : Nat, (i : Int) < ((G.1 a 2).toInt) → G.2.2.1 (F a 1) i ≠ none) : Met l yX0_insert (xw yX0_insert cX0_insert 4 none) rm_X0_insert (va_Pc [.ref a, .ref p0] (XP E K F G)) (XQv E (fun (u : XG) => XFr [(a, 2)] [] [F a 1] G u ∧ (((u.1 a 2).toInt) = ((G.1 a 2).toInt) + 1) ∧ (∀ i : Nat, (i : Int) ≤ ((G.1 a 2).toInt) → u.2.2.1 (F a 1) i = insF (G.2.2.1 (F a 1)) (posR (fun j => rkO G (G.2.2.1 (F a 1) j)) ((G.1 p0 8).toInt) (((G.1 a 2).toInt)).toNat) (some p0) i) ∧ (∀ (i q : Nat), u.2.2.1 (F a 1) i = some q → q = p0 ∨ ∃ j : Nat, G.2.2.1 (F a 1) j = some q)) (fun u H => TW E K F u H)) 0 0 (xA E) := by
  refine x_enter (by decide) (Nat.le_of_ble_eq_true rfl) ?_
  intro p e s m args below meth c Q S hr hlk hnm hQ hP ls hl
  obtain ⟨hz, hK, hT⟩ := hP
  obtain ⟨hx, hb, -, -, -⟩ := id S
  obtain ⟨H, hT, hS, hgo⟩ : ∃ H : Heap, TW E K F G H ∧ va_S (xA E) s.heap H [] ∧ H = s.heap := ⟨_, hT, va_S.rf, rfl⟩
  rw [← hgo]
  have hl : lv_has ls 4 [(0, .ref a), (1, .ref p0)] := hl
  obtain ⟨hk9999, hj9999⟩ := fkX0_1 hT ha
  refine lv_aload_n hx hb dX0_insert_0 rfl (lv_at hl 0 rfl) ?_
  refine gX0_2 S hK hT ha kf_X0_20 dX0_insert_1 (v := (G.1 a 2)) rfl (?_)
  refine lv_istore_n (lv' := [(2, .int (G.1 a 2)), (0, .ref a), (1, .ref p0)]) hx hb dX0_insert_4 rfl hl (by decide) rfl (fun ls hl => ?_)
  have L5 : ∀ (N5 : Nat) (l2_5 : Int32) (G_5 : XG) (H : Heap) (locs : List Loc) (ls : Array Slot), XFr [(a, 2)] [] [F a 1] G G_5 → shf (G.2.2.1 (F a 1)) (G_5.2.2.1 (F a 1)) (l2_5.toInt).toNat ((G.1 a 2).toInt).toNat → posR (fun j => rkO G (G.2.2.1 (F a 1) j)) ((G.1 p0 8).toInt) (l2_5.toInt).toNat = posR (fun j => rkO G (G.2.2.1 (F a 1) j)) ((G.1 p0 8).toInt) ((G.1 a 2).toInt).toNat → (∀ (i q : Nat), G_5.2.2.1 (F a 1) i = some q → ∃ j : Nat, G.2.2.1 (F a 1) j = some q) → 0 ≤ l2_5.toInt ∧ l2_5.toInt ≤ ((G.1 a 2).toInt) → ((G_5.1 a 2).toInt) = ((G.1 a 2).toInt) → l2_5.toInt + 1 < ((N5 : Nat) : Int) → TW E K F G_5 H → va_S (xA E) s.heap H locs → lv_has ls 4 [(0, .ref a), (1, .ref p0), (2, .int l2_5)] → W p l e rm_X0_insert s m args below meth c H locs 0 0 Q (F0 m 5 ls []) := by
    intro N5
    induction N5 with
    | zero =>
      intro l2_5 G_5 H locs ls hF_5 ps pp pf I5_0 I5_1 hm5
      exact absurd hm5 (z_X0_insert_1 l2_5.toInt ((G.1 a 2).toInt) I5_0)
    | succ N5 ih5 =>
      intro l2_5 G_5 H locs ls hF_5 ps pp pf I5_0 I5_1 hm5 hT hS hl
      refine lv_iload_n hx hb dX0_insert_5 rfl (lv_at hl 2 rfl) ?_
      refine xi_zle (tgt := 55) hx hb (rfl : Int32.toInt l2_5 = l2_5.toInt) dX0_insert_6 (by decide) (fun c6 => ?_) (fun c6 => ?_)
      · refine lv_iload_n hx hb dX0_insert_55 rfl (lv_at hl 2 rfl) ?_
        refine xi_zlt (tgt := 82) hx hb (rfl : Int32.toInt l2_5 = l2_5.toInt) dX0_insert_56 (by decide) (fun c56 => ?_) (fun c56 => ?_)
        · exact x_rv hx hb hr hlk hQ (Nat.le_of_ble_eq_true rfl) (Nat.le_of_ble_eq_true rfl) hS dX0_insert_82 G_5 ⟨(XFr.call XFr.rf hF_5 (xm1 0 rfl xm0) xm0 (xm1 0 rfl xm0)), (z_X0_insert_2 l2_5.toInt ((G.1 a 2).toInt) ((G_5.1 a 2).toInt) I5_0 c56), (v_X0_insert_82_1 (K := K) (F := F) a p0 G G_5 l2_5 N5 ha hp0 hf ps pp s0 I5_0 I5_1 hm5 c6 c56), (v_X0_insert_82_2 (K := K) (F := F) a p0 G G_5 l2_5 N5 ha hp0 ps pp pf s0 I5_0 I5_1 hm5 c6 c56)⟩ hT
        · refine lv_iload_n hx hb dX0_insert_59 rfl (lv_at hl 2 rfl) ?_
          refine lv_bipush (v := 12) hx hb dX0_insert_60 (by decide) ?_
          refine xi_cge (tgt := 82) hx hb (rfl : Int32.toInt l2_5 = l2_5.toInt) ((by decide) : Int32.toInt 12 = (12 : Int)) dX0_insert_62 (by decide) (fun c62 => ?_) (fun c62 => ?_)
          · exact x_rv hx hb hr hlk hQ (Nat.le_of_ble_eq_true rfl) (Nat.le_of_ble_eq_true rfl) hS dX0_insert_82 G_5 ⟨(XFr.call XFr.rf hF_5 (xm1 0 rfl xm0) xm0 (xm1 0 rfl xm0)), (z_X0_insert_3 l2_5.toInt ((G.1 a 2).toInt) ((G_5.1 a 2).toInt) c6 c62), (v_X0_insert_82_3 (K := K) (F := F) a p0 G G_5 l2_5 N5 ha hp0 hf ps pp s0 I5_0 I5_1 hm5 c6 c56 c62), (v_X0_insert_82_4 (K := K) (F := F) a p0 G G_5 l2_5 N5 ha hp0 ps pp pf s0 I5_0 I5_1 hm5 c6 c56 c62)⟩ hT
          · refine lv_aload_n hx hb dX0_insert_65 rfl (lv_at hl 0 rfl) ?_
            refine gX0_1 S hK hT ha kf_X0_17 dX0_insert_66 (fun _ _ => ?_)
            refine lv_iload_n hx hb dX0_insert_69 rfl (lv_at hl 2 rfl) ?_
            refine lv_aload_n hx hb dX0_insert_70 rfl (lv_at hl 1 rfl) ?_
            refine as_15r S hK hT hS hk9999 hp0 (z_X0_insert_4 l2_5.toInt ((G.1 a 2).toInt) I5_0 c6) dX0_insert_71 (fun H locs hT hS => ?_)
            obtain ⟨G71, hG71⟩ : ∃ GG : XG, GG = rput G_5 (F a 1) l2_5.toInt.toNat (some p0) := ⟨_, rfl⟩
            rw [← hG71] at hT
            refine lv_aload_n hx hb dX0_insert_72 rfl (lv_at hl 0 rfl) ?_
            refine lv_dup hx hb dX0_insert_73 rfl ?_
            refine gX0_2 S hK hT ha kf_X0_20 dX0_insert_74 (v := (G_5.1 a 2)) (lr_d hG71) (?_)
            refine lv_iconst (v := 1) hx hb dX0_insert_77 (by decide) ?_
            refine xi_iadd hx hb (rfl : Int32.toInt (G_5.1 a 2) = ((G_5.1 a 2).toInt)) ((by decide) : Int32.toInt 1 = (1 : Int)) dX0_insert_78 (fun x78 t78 => ?_)
            have e78 : x78.toInt = (((G_5.1 a 2).toInt) + (1 : Int)) := (z_X0_insert_5 x78.toInt ((G.1 a 2).toInt) ((G_5.1 a 2).toInt) s0 I5_1 t78)
            refine pX0_2 (v := x78) S hK hT hS ha kf_X0_20 dX0_insert_79 (fun H locs hT hS => ?_)
            obtain ⟨G79, hG79⟩ : ∃ GG : XG, GG = dput G71 a 2 x78 := ⟨_, rfl⟩
            rw [← hG79] at hT
            exact x_rv hx hb hr hlk hQ (Nat.le_of_ble_eq_true rfl) (Nat.le_of_ble_eq_true rfl) hS dX0_insert_82 G79 ⟨(by rw [hG79]; exact XFr.dput (by rw [hG71]; exact XFr.rput (XFr.call XFr.rf hF_5 (xm1 0 rfl xm0) xm0 (xm1 0 rfl xm0)) (List.mem_of_getElem? (i := 0) rfl)) (List.mem_of_getElem? (i := 0) rfl)), (by rw [(show (G79.1 a 2).toInt = (((G_5.1 a 2).toInt) + (1 : Int)) from (congrArg Int32.toInt (ld_at hG79)).trans (e78 : Int32.toInt x78 = (((G_5.1 a 2).toInt) + (1 : Int))))] <;> exact (z_X0_insert_6 ((G.1 a 2).toInt) ((G_5.1 a 2).toInt) I5_1)), (v_X0_insert_82_5 (K := K) (F := F) a p0 G G_5 G71 l2_5 G79 N5 ha hp0 hG71 hf ps pp s0 I5_0 I5_1 hm5 c6 c56 c62 (ld_r hG79)), (v_X0_insert_82_6 (K := K) (F := F) a p0 G G_5 G71 l2_5 G79 N5 ha hp0 hG71 ps pp pf s0 I5_0 I5_1 hm5 c6 c56 c62 (ld_r hG79))⟩ hT
      · refine lv_iload_n hx hb dX0_insert_9 rfl (lv_at hl 2 rfl) ?_
        refine lv_bipush (v := 12) hx hb dX0_insert_10 (by decide) ?_
        refine xi_cge (tgt := 55) hx hb (rfl : Int32.toInt l2_5 = l2_5.toInt) ((by decide) : Int32.toInt 12 = (12 : Int)) dX0_insert_12 (by decide) (fun c12 => ?_) (fun c12 => ?_)
        · refine lv_iload_n hx hb dX0_insert_55 rfl (lv_at hl 2 rfl) ?_
          refine xi_zlt (tgt := 82) hx hb (rfl : Int32.toInt l2_5 = l2_5.toInt) dX0_insert_56 (by decide) (fun c56 => ?_) (fun c56 => ?_)
          · exact x_rv hx hb hr hlk hQ (Nat.le_of_ble_eq_true rfl) (Nat.le_of_ble_eq_true rfl) hS dX0_insert_82 G_5 ⟨(XFr.call XFr.rf hF_5 (xm1 0 rfl xm0) xm0 (xm1 0 rfl xm0)), (z_X0_insert_7 l2_5.toInt ((G.1 a 2).toInt) ((G_5.1 a 2).toInt) c12 c56), (v_X0_insert_82_7 (K := K) (F := F) a p0 G G_5 l2_5 N5 ha hp0 hf ps pp s0 I5_0 I5_1 hm5 c6 c12 c56), (v_X0_insert_82_8 (K := K) (F := F) a p0 G G_5 l2_5 N5 ha hp0 ps pp pf s0 I5_0 I5_1 hm5 c6 c12 c56)⟩ hT
          · refine lv_iload_n hx hb dX0_insert_59 rfl (lv_at hl 2 rfl) ?_
            refine lv_bipush (v := 12) hx hb dX0_insert_60 (by decide) ?_
            refine xi_cge (tgt := 82) hx hb (rfl : Int32.toInt l2_5 = l2_5.toInt) ((by decide) : Int32.toInt 12 = (12 : Int)) dX0_insert_62 (by decide) (fun c62 => ?_) (fun c62 => ?_)
            · exact x_rv hx hb hr hlk hQ (Nat.le_of_ble_eq_true rfl) (Nat.le_of_ble_eq_true rfl) hS dX0_insert_82 G_5 ⟨(XFr.call XFr.rf hF_5 (xm1 0 rfl xm0) xm0 (xm1 0 rfl xm0)), (z_X0_insert_8 l2_5.toInt ((G.1 a 2).toInt) ((G_5.1 a 2).toInt) s0 I5_0 c12), (v_X0_insert_82_9 (K := K) (F := F) a p0 G G_5 l2_5 N5 ha hp0 hf ps pp s0 I5_0 I5_1 hm5 c6 c12 c56), (v_X0_insert_82_10 (K := K) (F := F) a p0 G G_5 l2_5 N5 ha hp0 ps pp pf s0 I5_0 I5_1 hm5 c6 c12 c56)⟩ hT
            · refine lv_aload_n hx hb dX0_insert_65 rfl (lv_at hl 0 rfl) ?_
              refine gX0_1 S hK hT ha kf_X0_17 dX0_insert_66 (fun _ _ => ?_)
              refine lv_iload_n hx hb dX0_insert_69 rfl (lv_at hl 2 rfl) ?_
              refine lv_aload_n hx hb dX0_insert_70 rfl (lv_at hl 1 rfl) ?_
              refine as_15r S hK hT hS hk9999 hp0 (z_X0_insert_9 l2_5.toInt c12 c62) dX0_insert_71 (fun H locs hT hS => ?_)
              obtain ⟨G71, hG71⟩ : ∃ GG : XG, GG = rput G_5 (F a 1) l2_5.toInt.toNat (some p0) := ⟨_, rfl⟩
              rw [← hG71] at hT
              refine lv_aload_n hx hb dX0_insert_72 rfl (lv_at hl 0 rfl) ?_
              refine lv_dup hx hb dX0_insert_73 rfl ?_
              refine gX0_2 S hK hT ha kf_X0_20 dX0_insert_74 (v := (G_5.1 a 2)) (lr_d hG71) (?_)
              refine lv_iconst (v := 1) hx hb dX0_insert_77 (by decide) ?_
              refine xi_iadd hx hb (rfl : Int32.toInt (G_5.1 a 2) = ((G_5.1 a 2).toInt)) ((by decide) : Int32.toInt 1 = (1 : Int)) dX0_insert_78 (fun x78 t78 => ?_)
              have e78 : x78.toInt = (((G_5.1 a 2).toInt) + (1 : Int)) := (z_X0_insert_10 l2_5.toInt x78.toInt ((G_5.1 a 2).toInt) c12 c62)
              refine pX0_2 (v := x78) S hK hT hS ha kf_X0_20 dX0_insert_79 (fun H locs hT hS => ?_)
              obtain ⟨G79, hG79⟩ : ∃ GG : XG, GG = dput G71 a 2 x78 := ⟨_, rfl⟩
              rw [← hG79] at hT
              exact x_rv hx hb hr hlk hQ (Nat.le_of_ble_eq_true rfl) (Nat.le_of_ble_eq_true rfl) hS dX0_insert_82 G79 ⟨(by rw [hG79]; exact XFr.dput (by rw [hG71]; exact XFr.rput (XFr.call XFr.rf hF_5 (xm1 0 rfl xm0) xm0 (xm1 0 rfl xm0)) (List.mem_of_getElem? (i := 0) rfl)) (List.mem_of_getElem? (i := 0) rfl)), (by rw [(show (G79.1 a 2).toInt = (((G_5.1 a 2).toInt) + (1 : Int)) from (congrArg Int32.toInt (ld_at hG79)).trans (e78 : Int32.toInt x78 = (((G_5.1 a 2).toInt) + (1 : Int))))] <;> exact (z_X0_insert_11 l2_5.toInt ((G.1 a 2).toInt) ((G_5.1 a 2).toInt) c12 c62)), (v_X0_insert_82_11 (K := K) (F := F) a p0 G G_5 G71 l2_5 G79 N5 ha hp0 hG71 hf ps pp s0 I5_0 I5_1 hm5 c6 c12 c56 c62 (ld_r hG79)), (v_X0_insert_82_12 (K := K) (F := F) a p0 G G_5 G71 l2_5 G79 N5 ha hp0 hG71 ps pp pf s0 I5_0 I5_1 hm5 c6 c12 c56 c62 (ld_r hG79))⟩ hT
        · refine lv_aload_n hx hb dX0_insert_15 rfl (lv_at hl 0 rfl) ?_
          refine gX0_1 S hK hT ha kf_X0_17 dX0_insert_16 (fun _ _ => ?_)
          refine lv_iload_n hx hb dX0_insert_19 rfl (lv_at hl 2 rfl) ?_
          refine lv_iconst (v := 1) hx hb dX0_insert_20 (by decide) ?_
          refine xi_isub hx hb (rfl : Int32.toInt l2_5 = l2_5.toInt) ((by decide) : Int32.toInt 1 = (1 : Int)) dX0_insert_21 (fun x21 t21 => ?_)
          have e21 : x21.toInt = (l2_5.toInt - (1 : Int)) := (z_X0_insert_12 l2_5.toInt x21.toInt c6 c12 t21)
          refine al_15 S hK hT hk9999 (by rw [(e21 : Int32.toInt x21 = (l2_5.toInt - (1 : Int)))]; exact (z_X0_insert_13 l2_5.toInt c6 c12)) dX0_insert_22 (fun hR22 => ?_) (fun q22 hR22 hk22 => ?_)
          · have hR22 : G_5.2.2.1 (F a 1) ((l2_5.toInt - (1 : Int))).toNat = none := by rw [← (e21 : Int32.toInt x21 = (l2_5.toInt - (1 : Int)))]; exact hR22
            refine lv_astore_nN (lv' := [(3, .null), (0, .ref a), (1, .ref p0), (2, .int l2_5)]) hx hb dX0_insert_23 rfl hl (by decide) rfl (fun ls hl => ?_)
            refine lv_aload_nN hx hb dX0_insert_24 rfl (lv_at hl 0 rfl) ?_
            refine lv_ifnullN (tgt := 55) hx hb dX0_insert_25 (by decide) ?_
            refine lv_iload_n hx hb dX0_insert_55 rfl (lv_at hl 3 rfl) ?_
            refine xi_zlt (tgt := 82) hx hb (rfl : Int32.toInt l2_5 = l2_5.toInt) dX0_insert_56 (by decide) (fun c56 => ?_) (fun c56 => ?_)
            · exact x_rv hx hb hr hlk hQ (Nat.le_of_ble_eq_true rfl) (Nat.le_of_ble_eq_true rfl) hS dX0_insert_82 G_5 ⟨(XFr.call XFr.rf hF_5 (xm1 0 rfl xm0) xm0 (xm1 0 rfl xm0)), (z_X0_insert_14 l2_5.toInt ((G.1 a 2).toInt) ((G_5.1 a 2).toInt) c6 c56), (v_X0_insert_82_13 (K := K) (F := F) a p0 G G_5 l2_5 N5 ha hp0 hf ps pp hR22 s0 I5_0 I5_1 hm5 c6 c12 c56), (v_X0_insert_82_14 (K := K) (F := F) a p0 G G_5 l2_5 N5 ha hp0 ps pp pf hR22 s0 I5_0 I5_1 hm5 c6 c12 c56)⟩ hT
            · refine lv_iload_n hx hb dX0_insert_59 rfl (lv_at hl 3 rfl) ?_
              refine lv_bipush (v := 12) hx hb dX0_insert_60 (by decide) ?_
              refine xi_cge (tgt := 82) hx hb (rfl : Int32.toInt l2_5 = l2_5.toInt) ((by decide) : Int32.toInt 12 = (12 : Int)) dX0_insert_62 (by decide) (fun c62 => ?_) (fun c62 => ?_)
              · exact x_rv hx hb hr hlk hQ (Nat.le_of_ble_eq_true rfl) (Nat.le_of_ble_eq_true rfl) hS dX0_insert_82 G_5 ⟨(XFr.call XFr.rf hF_5 (xm1 0 rfl xm0) xm0 (xm1 0 rfl xm0)), (z_X0_insert_15 l2_5.toInt ((G.1 a 2).toInt) ((G_5.1 a 2).toInt) c12 c62), (v_X0_insert_82_15 (K := K) (F := F) a p0 G G_5 l2_5 N5 ha hp0 hf ps pp hR22 s0 I5_0 I5_1 hm5 c6 c12 c56 c62), (v_X0_insert_82_16 (K := K) (F := F) a p0 G G_5 l2_5 N5 ha hp0 ps pp pf hR22 s0 I5_0 I5_1 hm5 c6 c12 c56 c62)⟩ hT
              · refine lv_aload_n hx hb dX0_insert_65 rfl (lv_at hl 1 rfl) ?_
                refine gX0_1 S hK hT ha kf_X0_17 dX0_insert_66 (fun _ _ => ?_)
                refine lv_iload_n hx hb dX0_insert_69 rfl (lv_at hl 3 rfl) ?_
                refine lv_aload_n hx hb dX0_insert_70 rfl (lv_at hl 2 rfl) ?_
                refine as_15r S hK hT hS hk9999 hp0 (z_X0_insert_16 l2_5.toInt c6 c12) dX0_insert_71 (fun H locs hT hS => ?_)
                obtain ⟨G71, hG71⟩ : ∃ GG : XG, GG = rput G_5 (F a 1) l2_5.toInt.toNat (some p0) := ⟨_, rfl⟩
                rw [← hG71] at hT
                refine lv_aload_n hx hb dX0_insert_72 rfl (lv_at hl 1 rfl) ?_
                refine lv_dup hx hb dX0_insert_73 rfl ?_
                refine gX0_2 S hK hT ha kf_X0_20 dX0_insert_74 (v := (G_5.1 a 2)) (lr_d hG71) (?_)
                refine lv_iconst (v := 1) hx hb dX0_insert_77 (by decide) ?_
                refine xi_iadd hx hb (rfl : Int32.toInt (G_5.1 a 2) = ((G_5.1 a 2).toInt)) ((by decide) : Int32.toInt 1 = (1 : Int)) dX0_insert_78 (fun x78 t78 => ?_)
                have e78 : x78.toInt = (((G_5.1 a 2).toInt) + (1 : Int)) := (z_X0_insert_5 x78.toInt ((G.1 a 2).toInt) ((G_5.1 a 2).toInt) s0 I5_1 t78)
                refine pX0_2 (v := x78) S hK hT hS ha kf_X0_20 dX0_insert_79 (fun H locs hT hS => ?_)
                obtain ⟨G79, hG79⟩ : ∃ GG : XG, GG = dput G71 a 2 x78 := ⟨_, rfl⟩
                rw [← hG79] at hT
                exact x_rv hx hb hr hlk hQ (Nat.le_of_ble_eq_true rfl) (Nat.le_of_ble_eq_true rfl) hS dX0_insert_82 G79 ⟨(by rw [hG79]; exact XFr.dput (by rw [hG71]; exact XFr.rput (XFr.call XFr.rf hF_5 (xm1 0 rfl xm0) xm0 (xm1 0 rfl xm0)) (List.mem_of_getElem? (i := 0) rfl)) (List.mem_of_getElem? (i := 0) rfl)), (by rw [(show (G79.1 a 2).toInt = (((G_5.1 a 2).toInt) + (1 : Int)) from (congrArg Int32.toInt (ld_at hG79)).trans (e78 : Int32.toInt x78 = (((G_5.1 a 2).toInt) + (1 : Int))))] <;> exact (z_X0_insert_6 ((G.1 a 2).toInt) ((G_5.1 a 2).toInt) I5_1)), (v_X0_insert_82_17 (K := K) (F := F) a p0 G G_5 G71 l2_5 G79 N5 ha hp0 hG71 hf ps pp hR22 s0 I5_0 I5_1 hm5 c6 c12 c56 (ld_r hG79)), (v_X0_insert_82_18 (K := K) (F := F) a p0 G G_5 G71 l2_5 G79 N5 ha hp0 hG71 ps pp pf hR22 s0 I5_0 I5_1 hm5 c6 c12 c56 (ld_r hG79))⟩ hT
          · have hR22 : G_5.2.2.1 (F a 1) ((l2_5.toInt - (1 : Int))).toNat = some q22 := by rw [← (e21 : Int32.toInt x21 = (l2_5.toInt - (1 : Int)))]; exact hR22
            refine lv_astore_n (lv' := [(3, .ref q22), (0, .ref a), (1, .ref p0), (2, .int l2_5)]) hx hb dX0_insert_23 rfl hl (by decide) rfl (fun ls hl => ?_)
            refine lv_aload_n hx hb dX0_insert_24 rfl (lv_at hl 0 rfl) ?_
            refine lv_ifnull hx hb dX0_insert_25 ?_
            refine lv_aload_n hx hb dX0_insert_28 rfl (lv_at hl 0 rfl) ?_
            refine gX7_8 S hK hT hk22 kf_X0_38 dX0_insert_29 (v := (G.1 q22 8)) (hF_5.1 _ _ (xnj (by decide) xn0)) (?_)
            refine lv_aload_n hx hb dX0_insert_32 rfl (lv_at hl 2 rfl) ?_
            refine gX7_8 S hK hT hp0 kf_X0_38 dX0_insert_33 (v := (G.1 p0 8)) (hF_5.1 _ _ (xnj (by decide) xn0)) (?_)
            refine xi_cgt (tgt := 42) hx hb (rfl : Int32.toInt (G.1 q22 8) = ((G.1 q22 8).toInt)) (rfl : Int32.toInt (G.1 p0 8) = ((G.1 p0 8).toInt)) dX0_insert_36 (by decide) (fun c36 => ?_) (fun c36 => ?_)
            · refine lv_aload_n hx hb dX0_insert_42 rfl (lv_at hl 1 rfl) ?_
              refine gX0_1 S hK hT ha kf_X0_17 dX0_insert_43 (fun _ _ => ?_)
              refine lv_iload_n hx hb dX0_insert_46 rfl (lv_at hl 3 rfl) ?_
              refine lv_aload_n hx hb dX0_insert_47 rfl (lv_at hl 0 rfl) ?_
              refine as_15r S hK hT hS hk9999 hk22 (z_X0_insert_16 l2_5.toInt c6 c12) dX0_insert_48 (fun H locs hT hS => ?_)
              obtain ⟨G48, hG48⟩ : ∃ GG : XG, GG = rput G_5 (F a 1) l2_5.toInt.toNat (some q22) := ⟨_, rfl⟩
              rw [← hG48] at hT
              refine xi_iinc (n := (-1)) (lv' := fun z9 => [(2, .int z9), (3, .ref q22), (0, .ref a), (1, .ref p0)]) (k := 3) hx hb (rfl : Int32.toInt l2_5 = l2_5.toInt) (by decide) dX0_insert_49 hl rfl (by decide) (fun _ => rfl) (fun x49 ls t49 hl => ?_)
              have e49 : x49.toInt = (l2_5.toInt + (-1)) := (z_X0_insert_20 l2_5.toInt x49.toInt c6 c12 t49)
              have hl : lv_has ls 4 [(2, .int x49), (3, .ref q22), (0, .ref a), (1, .ref p0)] := hl
              refine lv_goto (tgt := 5) hx hb dX0_insert_52 (by decide) ?_
              exact ih5 x49 G48 _ _ _ (by rw [hG48]; exact XFr.rput (XFr.call XFr.rf hF_5 (xm1 0 rfl xm0) xm0 (xm1 0 rfl xm0)) (List.mem_of_getElem? (i := 0) rfl)) (by rw [(e49 : Int32.toInt x49 = (l2_5.toInt + (-1)))] <;> exact (v_X0_insert_52_19 (K := K) (F := F) a p0 q22 G G_5 G48 l2_5 N5 ha hp0 hG48 ps pp hR22 s0 I5_0 I5_1 hm5 c6 c12 c36)) (by rw [(e49 : Int32.toInt x49 = (l2_5.toInt + (-1)))] <;> exact (v_X0_insert_52_20 (K := K) (F := F) a p0 q22 G G_5 l2_5 N5 ha hp0 ps pp hR22 s0 I5_0 I5_1 hm5 c6 c12 c36)) (v_X0_insert_52_21 (F := F) a q22 G G_5 G48 l2_5 hG48 pf hR22) (by rw [(e49 : Int32.toInt x49 = (l2_5.toInt + (-1)))] <;> exact (z_X0_insert_21 l2_5.toInt ((G.1 a 2).toInt) I5_0 c6)) (by rw [(show (G48.1 a 2).toInt = ((G_5.1 a 2).toInt) from (congrArg Int32.toInt (lr_d hG48)).trans (rfl : Int32.toInt (G_5.1 a 2) = ((G_5.1 a 2).toInt)))] <;> exact (I5_1)) (by rw [(e49 : Int32.toInt x49 = (l2_5.toInt + (-1)))] <;> exact (z_X0_insert_23 l2_5.toInt N5 hm5)) hT hS (lv_sub hl [2, 3, 0] rfl)
            · refine lv_goto (tgt := 55) hx hb dX0_insert_39 (by decide) ?_
              refine lv_iload_n hx hb dX0_insert_55 rfl (lv_at hl 3 rfl) ?_
              refine xi_zlt (tgt := 82) hx hb (rfl : Int32.toInt l2_5 = l2_5.toInt) dX0_insert_56 (by decide) (fun c56 => ?_) (fun c56 => ?_)
              · exact x_rv hx hb hr hlk hQ (Nat.le_of_ble_eq_true rfl) (Nat.le_of_ble_eq_true rfl) hS dX0_insert_82 G_5 ⟨(XFr.call XFr.rf hF_5 (xm1 0 rfl xm0) xm0 (xm1 0 rfl xm0)), (z_X0_insert_14 l2_5.toInt ((G.1 a 2).toInt) ((G_5.1 a 2).toInt) c6 c56), (v_X0_insert_82_22 (K := K) (F := F) a p0 q22 G G_5 l2_5 N5 ha hp0 hf ps pp hR22 s0 I5_0 I5_1 hm5 c6 c12 c36 c56), (v_X0_insert_82_23 (K := K) (F := F) a p0 q22 G G_5 l2_5 N5 ha hp0 ps pp pf hR22 s0 I5_0 I5_1 hm5 c6 c12 c36 c56)⟩ hT
              · refine lv_iload_n hx hb dX0_insert_59 rfl (lv_at hl 3 rfl) ?_
                refine lv_bipush (v := 12) hx hb dX0_insert_60 (by decide) ?_
                refine xi_cge (tgt := 82) hx hb (rfl : Int32.toInt l2_5 = l2_5.toInt) ((by decide) : Int32.toInt 12 = (12 : Int)) dX0_insert_62 (by decide) (fun c62 => ?_) (fun c62 => ?_)
                · exact x_rv hx hb hr hlk hQ (Nat.le_of_ble_eq_true rfl) (Nat.le_of_ble_eq_true rfl) hS dX0_insert_82 G_5 ⟨(XFr.call XFr.rf hF_5 (xm1 0 rfl xm0) xm0 (xm1 0 rfl xm0)), (z_X0_insert_15 l2_5.toInt ((G.1 a 2).toInt) ((G_5.1 a 2).toInt) c12 c62), (v_X0_insert_82_24 (K := K) (F := F) a p0 q22 G G_5 l2_5 N5 ha hp0 hf ps pp hR22 s0 I5_0 I5_1 hm5 c6 c12 c36 c56 c62), (v_X0_insert_82_25 (K := K) (F := F) a p0 q22 G G_5 l2_5 N5 ha hp0 ps pp pf hR22 s0 I5_0 I5_1 hm5 c6 c12 c36 c56 c62)⟩ hT
                · refine lv_aload_n hx hb dX0_insert_65 rfl (lv_at hl 1 rfl) ?_
                  refine gX0_1 S hK hT ha kf_X0_17 dX0_insert_66 (fun _ _ => ?_)
                  refine lv_iload_n hx hb dX0_insert_69 rfl (lv_at hl 3 rfl) ?_
                  refine lv_aload_n hx hb dX0_insert_70 rfl (lv_at hl 2 rfl) ?_
                  refine as_15r S hK hT hS hk9999 hp0 (z_X0_insert_16 l2_5.toInt c6 c12) dX0_insert_71 (fun H locs hT hS => ?_)
                  obtain ⟨G71, hG71⟩ : ∃ GG : XG, GG = rput G_5 (F a 1) l2_5.toInt.toNat (some p0) := ⟨_, rfl⟩
                  rw [← hG71] at hT
                  refine lv_aload_n hx hb dX0_insert_72 rfl (lv_at hl 1 rfl) ?_
                  refine lv_dup hx hb dX0_insert_73 rfl ?_
                  refine gX0_2 S hK hT ha kf_X0_20 dX0_insert_74 (v := (G_5.1 a 2)) (lr_d hG71) (?_)
                  refine lv_iconst (v := 1) hx hb dX0_insert_77 (by decide) ?_
                  refine xi_iadd hx hb (rfl : Int32.toInt (G_5.1 a 2) = ((G_5.1 a 2).toInt)) ((by decide) : Int32.toInt 1 = (1 : Int)) dX0_insert_78 (fun x78 t78 => ?_)
                  have e78 : x78.toInt = (((G_5.1 a 2).toInt) + (1 : Int)) := (z_X0_insert_5 x78.toInt ((G.1 a 2).toInt) ((G_5.1 a 2).toInt) s0 I5_1 t78)
                  refine pX0_2 (v := x78) S hK hT hS ha kf_X0_20 dX0_insert_79 (fun H locs hT hS => ?_)
                  obtain ⟨G79, hG79⟩ : ∃ GG : XG, GG = dput G71 a 2 x78 := ⟨_, rfl⟩
                  rw [← hG79] at hT
                  exact x_rv hx hb hr hlk hQ (Nat.le_of_ble_eq_true rfl) (Nat.le_of_ble_eq_true rfl) hS dX0_insert_82 G79 ⟨(by rw [hG79]; exact XFr.dput (by rw [hG71]; exact XFr.rput (XFr.call XFr.rf hF_5 (xm1 0 rfl xm0) xm0 (xm1 0 rfl xm0)) (List.mem_of_getElem? (i := 0) rfl)) (List.mem_of_getElem? (i := 0) rfl)), (by rw [(show (G79.1 a 2).toInt = (((G_5.1 a 2).toInt) + (1 : Int)) from (congrArg Int32.toInt (ld_at hG79)).trans (e78 : Int32.toInt x78 = (((G_5.1 a 2).toInt) + (1 : Int))))] <;> exact (z_X0_insert_6 ((G.1 a 2).toInt) ((G_5.1 a 2).toInt) I5_1)), (v_X0_insert_82_26 (K := K) (F := F) a p0 q22 G G_5 G71 l2_5 G79 N5 ha hp0 hG71 hf ps pp hR22 s0 I5_0 I5_1 hm5 c6 c12 c36 c56 (ld_r hG79)), (v_X0_insert_82_27 (K := K) (F := F) a p0 q22 G G_5 G71 l2_5 G79 N5 ha hp0 hG71 ps pp pf hR22 s0 I5_0 I5_1 hm5 c6 c12 c36 c56 (ld_r hG79))⟩ hT
  exact L5 4294967297 (G.1 a 2) G _ _ _ XFr.rf (v_X0_insert_4_28 (F := F) a G) (v_X0_insert_4_29 (F := F) a p0 G) (v_X0_insert_4_30 (F := F) a G) (z_X0_insert_29 ((G.1 a 2).toInt) s0) (z_X0_size_1 ((G.1 a 2).toInt)) (z_X0_insert_31 ((G.1 a 2).toInt) s0) hT hS (lv_sub hl [1, 2, 0] rfl)

theorem z_X0_arrange_5 (a0 : Int) (a1 : Int) (h0 : 0 ≤ a1 ∧ a1 ≤ a0) : 0 ≤ a1 ∧ a1 ≤ (a0 + 1) := by omega
theorem z_X0_arrange_8 (a0 : Int) (a1 : Int) (h0 : 0 ≤ a1 ∧ a1 ≤ a0) (h1 : ¬ ((12 : Int) ≤ a0)) : 0 ≤ a1 ∧ a1 ≤ 11 := by omega
theorem z_X0_arrange_11 (a0 : Int) (a1 : Int) (a2 : Int) (h0 : 0 ≤ a2 ∧ a2 ≤ a0) (h1 : a1 = a2 + 1) : 0 ≤ a1 ∧ a1 ≤ (a0 + 1) := by omega
abbrev rm_X0_arrange : Room := { frames := 1, cells := 0, slots := 0, locals := 23 }
set_option maxHeartbeats 4000000 in
set_option maxRecDepth 100000 in
theorem c_X0_arrange (l : Launch) (E : XE) (K : Nat → Nat) (F : Nat → Nat → Nat) (G : XG) (a : Nat) (ha : K a = 2) : Met l yX0_arrange (xw yX0_arrange cX0_arrange 3 none) rm_X0_arrange (va_Pc [.ref a] (XP E K F G)) (XQv E (fun (u : XG) => XFr [(a, 2)] [] [F a 1] G u ∧ (ORn (G.2.2.1 (F a 0)) (u.2.2.1 (F a 1)) ((u.1 a 2).toInt) (fun i => rkO G (G.2.2.1 (F a 0) i)) 12) ∧ (∀ (i q : Nat), u.2.2.1 (F a 1) i = some q → (∃ j : Nat, G.2.2.1 (F a 1) j = some q) ∨ ∃ j : Nat, G.2.2.1 (F a 0) j = some q)) (fun u H => TW E K F u H)) 0 0 (xA E) := by
  refine x_enter (by decide) (Nat.le_of_ble_eq_true rfl) ?_
  intro p e s m args below meth c Q S hr hlk hnm hQ hP ls hl
  obtain ⟨hz, hK, hT⟩ := hP
  obtain ⟨hx, hb, -, -, -⟩ := id S
  obtain ⟨H, hT, hS, hgo⟩ : ∃ H : Heap, TW E K F G H ∧ va_S (xA E) s.heap H [] ∧ H = s.heap := ⟨_, hT, va_S.rf, rfl⟩
  rw [← hgo]
  have hl : lv_has ls 3 [(0, .ref a)] := hl
  obtain ⟨hk9999, hj9999⟩ := fkX0_1 hT ha
  obtain ⟨hk9999a, hj9999a⟩ := fkX0_0 hT ha
  refine lv_aload_n hx hb dX0_arrange_0 rfl (lv_at hl 0 rfl) ?_
  refine lv_iconst (v := 0) hx hb dX0_arrange_1 (by decide) ?_
  refine pX0_2 (v := 0) S hK hT hS ha kf_X0_20 dX0_arrange_2 (fun H locs hT hS => ?_)
  obtain ⟨G2, hG2⟩ : ∃ GG : XG, GG = dput G a 2 0 := ⟨_, rfl⟩
  rw [← hG2] at hT
  refine lv_iconst (v := 0) hx hb dX0_arrange_5 (by decide) ?_
  refine lv_istore_n (lv' := [(1, .int 0), (0, .ref a)]) hx hb dX0_arrange_6 rfl hl (by decide) rfl (fun ls hl => ?_)
  have L7 : ∀ (N7 : Nat) (l1_7 : Int32) (G_7 : XG) (H : Heap) (locs : List Loc) (ls : Array Slot), XFr [(a, 2)] [] [F a 1] G2 G_7 → ORn (G.2.2.1 (F a 0)) (G_7.2.2.1 (F a 1)) ((G_7.1 a 2).toInt) (fun i => rkO G (G.2.2.1 (F a 0) i)) (l1_7.toInt).toNat → (∀ (i q : Nat), G_7.2.2.1 (F a 1) i = some q → (∃ j : Nat, G.2.2.1 (F a 1) j = some q) ∨ ∃ j : Nat, G.2.2.1 (F a 0) j = some q) → 0 ≤ l1_7.toInt ∧ l1_7.toInt ≤ 12 → 0 ≤ ((G_7.1 a 2).toInt) ∧ ((G_7.1 a 2).toInt) ≤ l1_7.toInt → (0 : Int) ≤ l1_7.toInt → 2147483648 - l1_7.toInt < ((N7 : Nat) : Int) → TW E K F G_7 H → va_S (xA E) s.heap H locs → lv_has ls 3 [(0, .ref a), (1, .int l1_7)] → W p l e rm_X0_arrange s m args below meth c H locs 0 0 Q (F0 m 7 ls []) := by
    intro N7
    induction N7 with
    | zero =>
      intro l1_7 G_7 H locs ls hF_7 po pf I7_0 I7_1 I7_2 hm7
      exact absurd hm7 (z_X0_leastFree_1 l1_7.toInt I7_0)
    | succ N7 ih7 =>
      intro l1_7 G_7 H locs ls hF_7 po pf I7_0 I7_1 I7_2 hm7 hT hS hl
      refine lv_iload_n hx hb dX0_arrange_7 rfl (lv_at hl 1 rfl) ?_
      refine lv_bipush (v := 12) hx hb dX0_arrange_8 (by decide) ?_
      refine xi_cge (tgt := 35) hx hb (rfl : Int32.toInt l1_7 = l1_7.toInt) ((by decide) : Int32.toInt 12 = (12 : Int)) dX0_arrange_10 (by decide) (fun c10 => ?_) (fun c10 => ?_)
      · exact x_rv hx hb hr hlk hQ (Nat.le_of_ble_eq_true rfl) (Nat.le_of_ble_eq_true rfl) hS dX0_arrange_35 G_7 ⟨(XFr.call (by rw [hG2]; exact XFr.dput XFr.rf (List.mem_of_getElem? (i := 0) rfl)) hF_7 (xm1 0 rfl xm0) xm0 (xm1 0 rfl xm0)), (v_X0_arrange_35_1 (K := K) (F := F) a G G_7 l1_7 N7 ha po I7_0 I7_1 I7_2 hm7 c10), (v_X0_arrange_35_2 (F := F) a G G_7 pf)⟩ hT
      · refine lv_aload_n hx hb dX0_arrange_13 rfl (lv_at hl 0 rfl) ?_
        refine gX0_0 S hK hT ha kf_X0_11 dX0_arrange_14 (fun _ _ => ?_)
        refine lv_iload_n hx hb dX0_arrange_17 rfl (lv_at hl 1 rfl) ?_
        refine al_15 S hK hT hk9999a (z_X0_leastFree_2 l1_7.toInt I7_0 c10) dX0_arrange_18 (fun hR18 => ?_) (fun q18 hR18 hk18 => ?_)
        · have hR18 : G.2.2.1 (F a 0) (l1_7.toInt).toNat = none := by rw [← (rfl : Int32.toInt l1_7 = l1_7.toInt), ← (((hF_7.2.2 _ (xn1 (xne_j hj9999a hj9999 (by first | decide | omega)) xn0)).trans (ld_r hG2)) : G_7.2.2.1 (F a 0) = G.2.2.1 (F a 0))]; exact hR18
          refine lv_astore_nN (lv' := [(2, .null), (0, .ref a), (1, .int l1_7)]) hx hb dX0_arrange_19 rfl hl (by decide) rfl (fun ls hl => ?_)
          refine lv_aload_nN hx hb dX0_arrange_20 rfl (lv_at hl 0 rfl) ?_
          refine lv_ifnullN (tgt := 29) hx hb dX0_arrange_21 (by decide) ?_
          refine xi_iinc (n := 1) (lv' := fun z9 => [(1, .int z9), (2, .null), (0, .ref a)]) (k := 2) hx hb (rfl : Int32.toInt l1_7 = l1_7.toInt) (by decide) dX0_arrange_29 hl rfl (by decide) (fun _ => rfl) (fun x29 ls t29 hl => ?_)
          have e29 : x29.toInt = (l1_7.toInt + 1) := (z_X0_leastFree_4 l1_7.toInt x29.toInt I7_0 t29)
          have hl : lv_has ls 3 [(1, .int x29), (2, .null), (0, .ref a)] := hl
          refine lv_goto (tgt := 7) hx hb dX0_arrange_32 (by decide) ?_
          exact ih7 x29 G_7 _ _ _ (XFr.call XFr.rf hF_7 (xm1 0 rfl xm0) xm0 (xm1 0 rfl xm0)) (by rw [(e29 : Int32.toInt x29 = (l1_7.toInt + 1))] <;> exact (v_X0_arrange_32_3 (K := K) (F := F) a G2 G G_7 l1_7 N7 ha hG2 hF_7 po hR18 I7_0 I7_1 I7_2 hm7 c10)) (v_X0_arrange_32_4 (F := F) a G G_7 l1_7 pf hR18) (by rw [(e29 : Int32.toInt x29 = (l1_7.toInt + 1))] <;> exact (z_X0_leastFree_5 l1_7.toInt I7_0 c10)) (by rw [(e29 : Int32.toInt x29 = (l1_7.toInt + 1))] <;> exact (z_X0_arrange_5 l1_7.toInt ((G_7.1 a 2).toInt) I7_1)) (by rw [(e29 : Int32.toInt x29 = (l1_7.toInt + 1))] <;> exact (z_X0_leastFree_6 l1_7.toInt I7_0)) (by rw [(e29 : Int32.toInt x29 = (l1_7.toInt + 1))] <;> exact (z_X0_leastFree_7 l1_7.toInt N7 hm7)) hT hS (lv_sub hl [2, 0] rfl)
        · have hR18 : G.2.2.1 (F a 0) (l1_7.toInt).toNat = some q18 := by rw [← (rfl : Int32.toInt l1_7 = l1_7.toInt), ← (((hF_7.2.2 _ (xn1 (xne_j hj9999a hj9999 (by first | decide | omega)) xn0)).trans (ld_r hG2)) : G_7.2.2.1 (F a 0) = G.2.2.1 (F a 0))]; exact hR18
          refine lv_astore_n (lv' := [(2, .ref q18), (0, .ref a), (1, .int l1_7)]) hx hb dX0_arrange_19 rfl hl (by decide) rfl (fun ls hl => ?_)
          refine lv_aload_n hx hb dX0_arrange_20 rfl (lv_at hl 0 rfl) ?_
          refine lv_ifnull hx hb dX0_arrange_21 ?_
          refine lv_aload_n hx hb dX0_arrange_24 rfl (lv_at hl 1 rfl) ?_
          refine lv_aload_n hx hb dX0_arrange_25 rfl (lv_at hl 0 rfl) ?_
          refine x_cv0 (x_runV (b := a) (As := [.ref q18]) (rest := []) S (c_X0_insert l E K F G_7 a q18 ha hk18 (z_X0_arrange_8 l1_7.toInt ((G_7.1 a 2).toInt) I7_1 c10) (v_X0_arrange_26_5 (F := F) a G G_7 l1_7 po)) mv_X0_insert km_X0_34 rfl rfl ⟨Nat.le_of_ble_eq_true rfl, Nat.le_of_ble_eq_true rfl⟩ (rc_2 hK hT ha) hK (fun _ => XP.blind) (fun U hU hW => XP.at hK hz hS hT hU hW) rfl hl.1 (Nat.le_of_ble_eq_true rfl) dX0_arrange_26 ⟨Nat.le_of_ble_eq_true rfl, Nat.le_of_ble_eq_true rfl⟩) hS ?_
          rintro G26 H locs ⟨hF26, t26, oq26, oq26a⟩ hT hS
          have t26 : ((G26.1 a 2).toInt) = ((G_7.1 a 2).toInt) + 1 := t26
          have oq26 : ∀ i : Nat, (i : Int) ≤ ((G_7.1 a 2).toInt) → G26.2.2.1 (F a 1) i = insF (G_7.2.2.1 (F a 1)) (posR (fun j => rkO G_7 (G_7.2.2.1 (F a 1) j)) ((G.1 q18 8).toInt) (((G_7.1 a 2).toInt)).toNat) (some q18) i := by simp only [(show G_7.1 q18 8 = G.1 q18 8 from ((hF_7.1 _ _ (xnj (by decide) xn0)).trans (ld_j hG2 (by decide))))] at oq26; exact oq26
          refine xi_iinc (n := 1) (lv' := fun z9 => [(1, .int z9), (2, .ref q18), (0, .ref a)]) (k := 2) hx hb (rfl : Int32.toInt l1_7 = l1_7.toInt) (by decide) dX0_arrange_29 hl rfl (by decide) (fun _ => rfl) (fun x29 ls t29 hl => ?_)
          have e29 : x29.toInt = (l1_7.toInt + 1) := (z_X0_leastFree_4 l1_7.toInt x29.toInt I7_0 t29)
          have hl : lv_has ls 3 [(1, .int x29), (2, .ref q18), (0, .ref a)] := hl
          refine lv_goto (tgt := 7) hx hb dX0_arrange_32 (by decide) ?_
          exact ih7 x29 G26 _ _ _ (XFr.call (XFr.call XFr.rf hF_7 (xm1 0 rfl xm0) xm0 (xm1 0 rfl xm0)) hF26 (xm1 0 rfl xm0) xm0 (xm1 0 rfl xm0)) (by rw [(e29 : Int32.toInt x29 = (l1_7.toInt + 1))] <;> exact (v_X0_arrange_32_6 (K := K) (F := F) a q18 G2 G G_7 G26 l1_7 N7 ha hG2 hF_7 po hR18 oq26 I7_0 I7_1 I7_2 hm7 c10 t26)) (v_X0_arrange_32_7 (F := F) a q18 G G_7 G26 l1_7 pf hR18 oq26a) (by rw [(e29 : Int32.toInt x29 = (l1_7.toInt + 1))] <;> exact (z_X0_leastFree_5 l1_7.toInt I7_0 c10)) (by rw [(e29 : Int32.toInt x29 = (l1_7.toInt + 1))] <;> exact (z_X0_arrange_11 l1_7.toInt ((G26.1 a 2).toInt) ((G_7.1 a 2).toInt) I7_1 t26)) (by rw [(e29 : Int32.toInt x29 = (l1_7.toInt + 1))] <;> exact (z_X0_leastFree_6 l1_7.toInt I7_0)) (by rw [(e29 : Int32.toInt x29 = (l1_7.toInt + 1))] <;> exact (z_X0_leastFree_7 l1_7.toInt N7 hm7)) hT hS (lv_sub hl [2, 0] rfl)
  exact L7 4294967297 0 G2 _ _ _ XFr.rf (by rw [(show (G2.1 a 2).toInt = (0 : Int) from (congrArg Int32.toInt (ld_at hG2)).trans ((by decide) : Int32.toInt 0 = (0 : Int)))] <;> exact (v_X0_arrange_6_8 (F := F) a G2 G)) (v_X0_arrange_6_9 (F := F) a G2 G (ld_r hG2)) (by decide) (by rw [(show (G2.1 a 2).toInt = (0 : Int) from (congrArg Int32.toInt (ld_at hG2)).trans ((by decide) : Int32.toInt 0 = (0 : Int)))] <;> exact (by decide)) (by decide) (by decide) hT hS (lv_sub hl [1, 0] rfl)
theorem v_X6_copy_30_1 {F : Nat → Nat → Nat} (a : Nat) (p0 : Nat) (G13 : XG) (G : XG) (G27 : XG)
    (hG13 : G13 = ccopy G (F a 0) (va_cpy (G.2.1 (F p0 0)) (G.2.1 (F a 0)) (0 : Int32).toNatClampNeg (0 : Int32).toNatClampNeg (270 : Int32).toNatClampNeg))
    (c_G27_F_a_0 : G27.2.1 (F a 0) = G13.2.1 (F a 0)) :
    (vw (G27.2.1 (F a 0))) = (vw (G.2.1 (F p0 0))) := by
  rw [c_G27_F_a_0, ccopy_at hG13]
  exact vw_cpy _ _
theorem v_X6_copy_30_2 {K : Nat → Nat} {F : Nat → Nat → Nat} (a : Nat) (p0 : Nat) (G13 : XG) (G : XG) (G27 : XG)
    (ha : K a = 8)
    (hp0 : K p0 = 8)
    (hG13 : G13 = ccopy G (F a 0) (va_cpy (G.2.1 (F p0 0)) (G.2.1 (F a 0)) (0 : Int32).toNatClampNeg (0 : Int32).toNatClampNeg (270 : Int32).toNatClampNeg))
    (hG27 : G27 = ccopy G13 (F a 1) (va_cpy (G13.2.1 (F p0 1)) (G13.2.1 (F a 1)) (0 : Int32).toNatClampNeg (0 : Int32).toNatClampNeg (3 : Int32).toNatClampNeg))
    (hro : RO (vw (G.2.1 (F p0 0))) (aI (G.2.1 (F p0 1))))
    (c_G13_F_p0_1 : G13.2.1 (F p0 1) = G.2.1 (F p0 1))
    (c_G27_F_a_0 : G27.2.1 (F a 0) = G13.2.1 (F a 0)) :
    RO (vw (G27.2.1 (F a 0))) (aI (G27.2.1 (F a 1))) := by
  rw [c_G27_F_a_0, ccopy_at hG13, ccopy_at hG27, c_G13_F_p0_1]
  rw [show vw (va_cpy (G.2.1 (F p0 0)) (G.2.1 (F a 0)) (0 : Int32).toNatClampNeg (0 : Int32).toNatClampNeg (270 : Int32).toNatClampNeg) = vw (G.2.1 (F p0 0)) from vw_cpy _ _]
  exact hro.congr (fun t h1 h2 => aI_cpy _ _ 3 (by omega))
theorem v_X6_move_3_1 {F : Nat → Nat → Nat} (a : Nat) (G : XG)
    (hro : RO (vw (G.2.1 (F a 0))) (aI (G.2.1 (F a 1)))) :
    RO (vw (G.2.1 (F a 0))) (aI (G.2.1 (F a 1))) := by exact hro
theorem v_X6_move_25_2 {F : Nat → Nat → Nat} (a : Nat) (G : XG)
    (hro : RO (vw (G.2.1 (F a 0))) (aI (G.2.1 (F a 1)))) :
    RO (vw (G.2.1 (F a 0))) (aI (G.2.1 (F a 1))) := by
  exact hro
theorem v_X6_move_62_3 {F : Nat → Nat → Nat} (a : Nat) (G_31 : XG)
    (pr : RO (vw (G_31.2.1 (F a 0))) (aI (G_31.2.1 (F a 1)))) :
    RO (vw (G_31.2.1 (F a 0))) (aI (G_31.2.1 (F a 1))) := by
  exact pr
theorem v_X6_move_65_4 {K : Nat → Nat} {F : Nat → Nat → Nat} (a : Nat) (G : XG) (G_31 : XG) (G62 : XG) (p0 : Int32) (p2 : Int32) (p1 : Int32) (l4_31 : Int32) (x3 : Int32) (x10 : Int32) (N31 : Nat)
    (ha : K a = 8)
    (pm : vw (G_31.2.1 (F a 0)) = rmc (vw (G.2.1 (F a 0))) (p0.toInt) (p1.toInt) (p2.toInt) (l4_31.toInt))
    (oq62 : (vw (G62.2.1 (F a 0))) = rfil (vw (G_31.2.1 (F a 0))) (p0.toInt) (p1.toInt) (-2000) 3)
    (e0 : 0 ≤ p0.toInt ∧ p0.toInt < 3 ∧ 0 ≤ p1.toInt ∧ p1.toInt < 30 ∧ 0 ≤ p2.toInt ∧ p2.toInt < 30 ∧ p1.toInt ≠ p2.toInt)
    (e1 : (cel (vw (G.2.1 (F a 0))) (p0.toInt) (p1.toInt) 0) ≠ -2000)
    (t3 : (x3.toInt = 1 ∧ (cel (vw (G.2.1 (F a 0))) (p0.toInt) (p1.toInt) 0) ≠ -2000) ∨ (x3.toInt = 0 ∧ (cel (vw (G.2.1 (F a 0))) (p0.toInt) (p1.toInt) 0) = -2000))
    (c6 : ¬ (x3.toInt = 0))
    (t10 : (x10.toInt = 1 ∧ 0 ≤ p2.toInt ∧ p2.toInt < 30) ∨ (x10.toInt = 0 ∧ (p2.toInt < 0 ∨ 30 ≤ p2.toInt)))
    (c13 : ¬ (x10.toInt = 0))
    (c18 : p2.toInt ≠ p1.toInt)
    (I31_0 : 0 ≤ l4_31.toInt ∧ l4_31.toInt ≤ 3)
    (I31_1 : (0 : Int) ≤ l4_31.toInt)
    (hm31 : 2147483648 - l4_31.toInt < (((N31) + 1 : Nat) : Int))
    (c34 : (3 : Int) ≤ l4_31.toInt) :
    (vw (G62.2.1 (F a 0))) = rmv (vw (G.2.1 (F a 0))) (p0.toInt) (p1.toInt) (p2.toInt) := by
  rw [oq62, pm, show l4_31.toInt = 3 from by omega]
  exact rmc_3 _ _ _ _ (by omega)
theorem v_X6_move_65_5 {F : Nat → Nat → Nat} (a : Nat) (G62 : XG)
    (oq62a : RO (vw (G62.2.1 (F a 0))) (aI (G62.2.1 (F a 1)))) :
    RO (vw (G62.2.1 (F a 0))) (aI (G62.2.1 (F a 1))) := by
  exact oq62a
theorem v_X6_move_50_6 {F : Nat → Nat → Nat} (a : Nat) (G_31 : XG)
    (pr : RO (vw (G_31.2.1 (F a 0))) (aI (G_31.2.1 (F a 1)))) :
    RO (vw (G_31.2.1 (F a 0))) (aI (G_31.2.1 (F a 1))) := by
  exact pr
theorem v_X6_move_56_7 {K : Nat → Nat} {F : Nat → Nat → Nat} (a : Nat) (G : XG) (G_31 : XG) (G50 : XG) (p0 : Int32) (p2 : Int32) (p1 : Int32) (l4_31 : Int32) (x3 : Int32) (x10 : Int32) (N31 : Nat)
    (ha : K a = 8)
    (pm : vw (G_31.2.1 (F a 0)) = rmc (vw (G.2.1 (F a 0))) (p0.toInt) (p1.toInt) (p2.toInt) (l4_31.toInt))
    (oq50 : (vw (G50.2.1 (F a 0))) = if cel (vw (G_31.2.1 (F a 0))) (p0.toInt) (p2.toInt) 0 ≠ -2000 then rset (vw (G_31.2.1 (F a 0))) (90 * (p0.toInt) + 30 * (l4_31.toInt) + (p2.toInt)) ((cel (vw (G_31.2.1 (F a 0))) (p0.toInt) (p1.toInt) (l4_31.toInt))) else (vw (G_31.2.1 (F a 0))))
    (e0 : 0 ≤ p0.toInt ∧ p0.toInt < 3 ∧ 0 ≤ p1.toInt ∧ p1.toInt < 30 ∧ 0 ≤ p2.toInt ∧ p2.toInt < 30 ∧ p1.toInt ≠ p2.toInt)
    (e1 : (cel (vw (G.2.1 (F a 0))) (p0.toInt) (p1.toInt) 0) ≠ -2000)
    (t3 : (x3.toInt = 1 ∧ (cel (vw (G.2.1 (F a 0))) (p0.toInt) (p1.toInt) 0) ≠ -2000) ∨ (x3.toInt = 0 ∧ (cel (vw (G.2.1 (F a 0))) (p0.toInt) (p1.toInt) 0) = -2000))
    (c6 : ¬ (x3.toInt = 0))
    (t10 : (x10.toInt = 1 ∧ 0 ≤ p2.toInt ∧ p2.toInt < 30) ∨ (x10.toInt = 0 ∧ (p2.toInt < 0 ∨ 30 ≤ p2.toInt)))
    (c13 : ¬ (x10.toInt = 0))
    (c18 : p2.toInt ≠ p1.toInt)
    (I31_0 : 0 ≤ l4_31.toInt ∧ l4_31.toInt ≤ 3)
    (I31_1 : (0 : Int) ≤ l4_31.toInt)
    (hm31 : 2147483648 - l4_31.toInt < (((N31) + 1 : Nat) : Int))
    (c34 : ¬ ((3 : Int) ≤ l4_31.toInt))
    (z50 : (cel (vw (G_31.2.1 (F a 0))) (p0.toInt) (p1.toInt) (l4_31.toInt)) = -1000 ∨ (-99 ≤ (cel (vw (G_31.2.1 (F a 0))) (p0.toInt) (p1.toInt) (l4_31.toInt)) ∧ (cel (vw (G_31.2.1 (F a 0))) (p0.toInt) (p1.toInt) (l4_31.toInt)) ≤ 99)) :
    vw (G50.2.1 (F a 0)) = rmc (vw (G.2.1 (F a 0))) (p0.toInt) (p1.toInt) (p2.toInt) (l4_31.toInt + 1) := by
  rw [oq50, pm, if_pos (rmc_has (by omega) e1), ← rmc_s _ _ _ _ _ (by omega), rmc_cel (by omega), cel_in (by omega)]
theorem v_X6_move_56_8 {F : Nat → Nat → Nat} (a : Nat) (G50 : XG)
    (oq50a : RO (vw (G50.2.1 (F a 0))) (aI (G50.2.1 (F a 1)))) :
    RO (vw (G50.2.1 (F a 0))) (aI (G50.2.1 (F a 1))) := by
  exact oq50a
theorem v_X6_move_29_9 {F : Nat → Nat → Nat} (a : Nat) (G : XG) (G25 : XG) (p0 : Int32) (p2 : Int32) (p1 : Int32)
    (oq25 : (vw (G25.2.1 (F a 0))) = rfil (vw (G.2.1 (F a 0))) (p0.toInt) (p2.toInt) (-1000) 3) :
    vw (G25.2.1 (F a 0)) = rmc (vw (G.2.1 (F a 0))) (p0.toInt) (p1.toInt) (p2.toInt) (0 : Int) := by
  rw [oq25]; exact (rmc_0 _ _ _ _).symm
theorem v_X6_move_29_10 {F : Nat → Nat → Nat} (a : Nat) (G25 : XG)
    (oq25a : RO (vw (G25.2.1 (F a 0))) (aI (G25.2.1 (F a 1)))) :
    RO (vw (G25.2.1 (F a 0))) (aI (G25.2.1 (F a 1))) := by
  exact oq25a
theorem v_X0_enter_30_1 {K : Nat → Nat} {F : Nat → Nat → Nat} (a : Nat) (p0 : Nat) (G : XG)
    (ha : K a = 2)
    (hp0 : K p0 = 9)
    (e0 : 0 ≤ ((G.1 p0 1).toInt) ∧ ((G.1 p0 1).toInt) ≤ 11)
    (c4 : ((G.1 p0 1).toInt) < 0) :
    ∀ i : Nat, G.2.2.1 (F a 0) i = if i = (((G.1 p0 1).toInt)).toNat then some p0 else G.2.2.1 (F a 0) i := by
  first | (exfalso; omega) | skip
  all_goals (
    intro i
    rw [r_G27_F_a_0, rput_j hG25])
theorem v_X0_enter_30_2 {K : Nat → Nat} {F : Nat → Nat → Nat} (a : Nat) (p0 : Nat) (G : XG)
    (ha : K a = 2)
    (hp0 : K p0 = 9)
    (e0 : 0 ≤ ((G.1 p0 1).toInt) ∧ ((G.1 p0 1).toInt) ≤ 11)
    (c4 : ((G.1 p0 1).toInt) < 0) :
    BO G F a := by
  first | (exfalso; omega) | skip
  all_goals (
    exact BO.arr hF27 (fun b => by simp) r_G27_F_a_0 oq27)
theorem v_X0_enter_30_3 {K : Nat → Nat} {F : Nat → Nat → Nat} (a : Nat) (p0 : Nat) (G : XG)
    (ha : K a = 2)
    (hp0 : K p0 = 9)
    (e0 : 0 ≤ ((G.1 p0 1).toInt) ∧ ((G.1 p0 1).toInt) ≤ 11)
    (c4 : ((G.1 p0 1).toInt) < 0) :
    ∀ (i q : Nat), G.2.2.1 (F a 1) i = some q → (∃ j : Nat, G.2.2.1 (F a 1) j = some q) ∨ ∃ j : Nat, G.2.2.1 (F a 0) j = some q := by
  first | (exfalso; omega) | skip
  all_goals (
    intro i q h
    rcases oq27a i q h with ⟨j, e⟩ | ⟨j, e⟩
    · left; exact ⟨j, by rw [← r_G25_F_a_1]; exact e⟩
    · right; exact ⟨j, by rw [r_G27_F_a_0]; exact e⟩)
theorem v_X0_enter_30_4 {K : Nat → Nat} {F : Nat → Nat → Nat} (a : Nat) (p0 : Nat) (G : XG)
    (ha : K a = 2)
    (hp0 : K p0 = 9)
    (e0 : 0 ≤ ((G.1 p0 1).toInt) ∧ ((G.1 p0 1).toInt) ≤ 11)
    (c4 : ¬ (((G.1 p0 1).toInt) < 0))
    (c13 : (12 : Int) ≤ ((G.1 p0 1).toInt)) :
    ∀ i : Nat, G.2.2.1 (F a 0) i = if i = (((G.1 p0 1).toInt)).toNat then some p0 else G.2.2.1 (F a 0) i := by
  first | (exfalso; omega) | skip
  all_goals (
    intro i
    rw [r_G27_F_a_0, rput_j hG25])
theorem v_X0_enter_30_5 {K : Nat → Nat} {F : Nat → Nat → Nat} (a : Nat) (p0 : Nat) (G : XG)
    (ha : K a = 2)
    (hp0 : K p0 = 9)
    (e0 : 0 ≤ ((G.1 p0 1).toInt) ∧ ((G.1 p0 1).toInt) ≤ 11)
    (c4 : ¬ (((G.1 p0 1).toInt) < 0))
    (c13 : (12 : Int) ≤ ((G.1 p0 1).toInt)) :
    BO G F a := by
  first | (exfalso; omega) | skip
  all_goals (
    exact BO.arr hF27 (fun b => by simp) r_G27_F_a_0 oq27)
theorem v_X0_enter_30_6 {K : Nat → Nat} {F : Nat → Nat → Nat} (a : Nat) (p0 : Nat) (G : XG)
    (ha : K a = 2)
    (hp0 : K p0 = 9)
    (e0 : 0 ≤ ((G.1 p0 1).toInt) ∧ ((G.1 p0 1).toInt) ≤ 11)
    (c4 : ¬ (((G.1 p0 1).toInt) < 0))
    (c13 : (12 : Int) ≤ ((G.1 p0 1).toInt)) :
    ∀ (i q : Nat), G.2.2.1 (F a 1) i = some q → (∃ j : Nat, G.2.2.1 (F a 1) j = some q) ∨ ∃ j : Nat, G.2.2.1 (F a 0) j = some q := by
  first | (exfalso; omega) | skip
  all_goals (
    intro i q h
    rcases oq27a i q h with ⟨j, e⟩ | ⟨j, e⟩
    · left; exact ⟨j, by rw [← r_G25_F_a_1]; exact e⟩
    · right; exact ⟨j, by rw [r_G27_F_a_0]; exact e⟩)
theorem v_X0_enter_30_7 {K : Nat → Nat} {F : Nat → Nat → Nat} (a : Nat) (p0 : Nat) (G25 : XG) (G : XG) (G27 : XG)
    (ha : K a = 2)
    (hp0 : K p0 = 9)
    (hG25 : G25 = rput G (F a 0) (G.1 p0 1).toInt.toNat (some p0))
    (oq27 : ORn (G25.2.2.1 (F a 0)) (G27.2.2.1 (F a 1)) ((G27.1 a 2).toInt) (fun i => rkO G25 (G25.2.2.1 (F a 0) i)) 12)
    (e0 : 0 ≤ ((G.1 p0 1).toInt) ∧ ((G.1 p0 1).toInt) ≤ 11)
    (c4 : ¬ (((G.1 p0 1).toInt) < 0))
    (c13 : ¬ ((12 : Int) ≤ ((G.1 p0 1).toInt)))
    (r_G27_F_a_0 : G27.2.2.1 (F a 0) = G25.2.2.1 (F a 0)) :
    ∀ i : Nat, G27.2.2.1 (F a 0) i = if i = (((G.1 p0 1).toInt)).toNat then some p0 else G.2.2.1 (F a 0) i := by
  first | (exfalso; omega) | skip
  all_goals (
    intro i
    rw [r_G27_F_a_0, rput_j hG25])
theorem v_X0_enter_30_8 {K : Nat → Nat} {F : Nat → Nat → Nat} (a : Nat) (p0 : Nat) (G25 : XG) (G : XG) (G27 : XG)
    (ha : K a = 2)
    (hp0 : K p0 = 9)
    (hF27 : XFr [(a, 2)] [] [F a 1] G25 G27)
    (oq27 : ORn (G25.2.2.1 (F a 0)) (G27.2.2.1 (F a 1)) ((G27.1 a 2).toInt) (fun i => rkO G25 (G25.2.2.1 (F a 0) i)) 12)
    (e0 : 0 ≤ ((G.1 p0 1).toInt) ∧ ((G.1 p0 1).toInt) ≤ 11)
    (c4 : ¬ (((G.1 p0 1).toInt) < 0))
    (c13 : ¬ ((12 : Int) ≤ ((G.1 p0 1).toInt)))
    (r_G27_F_a_0 : G27.2.2.1 (F a 0) = G25.2.2.1 (F a 0)) :
    BO G27 F a := by
  first | (exfalso; omega) | skip
  all_goals (
    exact BO.arr hF27 (fun b => by simp) r_G27_F_a_0 oq27)
theorem v_X0_enter_30_9 {K : Nat → Nat} {F : Nat → Nat → Nat} (a : Nat) (p0 : Nat) (G25 : XG) (G : XG) (G27 : XG)
    (ha : K a = 2)
    (hp0 : K p0 = 9)
    (oq27 : ORn (G25.2.2.1 (F a 0)) (G27.2.2.1 (F a 1)) ((G27.1 a 2).toInt) (fun i => rkO G25 (G25.2.2.1 (F a 0) i)) 12)
    (oq27a : ∀ (i q : Nat), G27.2.2.1 (F a 1) i = some q → (∃ j : Nat, G25.2.2.1 (F a 1) j = some q) ∨ ∃ j : Nat, G25.2.2.1 (F a 0) j = some q)
    (e0 : 0 ≤ ((G.1 p0 1).toInt) ∧ ((G.1 p0 1).toInt) ≤ 11)
    (c4 : ¬ (((G.1 p0 1).toInt) < 0))
    (c13 : ¬ ((12 : Int) ≤ ((G.1 p0 1).toInt)))
    (r_G25_F_a_1 : G25.2.2.1 (F a 1) = G.2.2.1 (F a 1))
    (r_G27_F_a_0 : G27.2.2.1 (F a 0) = G25.2.2.1 (F a 0)) :
    ∀ (i q : Nat), G27.2.2.1 (F a 1) i = some q → (∃ j : Nat, G.2.2.1 (F a 1) j = some q) ∨ ∃ j : Nat, G27.2.2.1 (F a 0) j = some q := by
  first | (exfalso; omega) | skip
  all_goals (
    intro i q h
    rcases oq27a i q h with ⟨j, e⟩ | ⟨j, e⟩
    · left; exact ⟨j, by rw [← r_G25_F_a_1]; exact e⟩
    · right; exact ⟨j, by rw [r_G27_F_a_0]; exact e⟩)
theorem v_X0_strike_21_1 {K : Nat → Nat} {F : Nat → Nat → Nat} (a : Nat) (p0 : Int32) (G : XG)
    (ha : K a = 2)
    (e0 : 0 ≤ p0.toInt ∧ p0.toInt ≤ 11)
    (c1 : p0.toInt < 0) :
    ∀ i : Nat, G.2.2.1 (F a 0) i = if i = (p0.toInt).toNat then none else G.2.2.1 (F a 0) i := by
  first | (exfalso; omega) | skip
  all_goals (
    intro i
    rw [r_G18_F_a_0, rput_j hG16])
theorem v_X0_strike_21_2 {K : Nat → Nat} {F : Nat → Nat → Nat} (a : Nat) (p0 : Int32) (G : XG)
    (ha : K a = 2)
    (e0 : 0 ≤ p0.toInt ∧ p0.toInt ≤ 11)
    (c1 : p0.toInt < 0) :
    BO G F a := by
  first | (exfalso; omega) | skip
  all_goals (
    exact BO.arr hF18 (fun b => by simp) r_G18_F_a_0 oq18)
theorem v_X0_strike_21_3 {K : Nat → Nat} {F : Nat → Nat → Nat} (a : Nat) (p0 : Int32) (G : XG)
    (ha : K a = 2)
    (e0 : 0 ≤ p0.toInt ∧ p0.toInt ≤ 11)
    (c1 : p0.toInt < 0) :
    ∀ (i q : Nat), G.2.2.1 (F a 1) i = some q → (∃ j : Nat, G.2.2.1 (F a 1) j = some q) ∨ ∃ j : Nat, G.2.2.1 (F a 0) j = some q := by
  first | (exfalso; omega) | skip
  all_goals (
    intro i q h
    rcases oq18a i q h with ⟨j, e⟩ | ⟨j, e⟩
    · left; exact ⟨j, by rw [← r_G16_F_a_1]; exact e⟩
    · right; exact ⟨j, by rw [r_G18_F_a_0]; exact e⟩)
theorem v_X0_strike_21_4 {K : Nat → Nat} {F : Nat → Nat → Nat} (a : Nat) (p0 : Int32) (G : XG)
    (ha : K a = 2)
    (e0 : 0 ≤ p0.toInt ∧ p0.toInt ≤ 11)
    (c1 : ¬ (p0.toInt < 0))
    (c7 : (12 : Int) ≤ p0.toInt) :
    ∀ i : Nat, G.2.2.1 (F a 0) i = if i = (p0.toInt).toNat then none else G.2.2.1 (F a 0) i := by
  first | (exfalso; omega) | skip
  all_goals (
    intro i
    rw [r_G18_F_a_0, rput_j hG16])
theorem v_X0_strike_21_5 {K : Nat → Nat} {F : Nat → Nat → Nat} (a : Nat) (p0 : Int32) (G : XG)
    (ha : K a = 2)
    (e0 : 0 ≤ p0.toInt ∧ p0.toInt ≤ 11)
    (c1 : ¬ (p0.toInt < 0))
    (c7 : (12 : Int) ≤ p0.toInt) :
    BO G F a := by
  first | (exfalso; omega) | skip
  all_goals (
    exact BO.arr hF18 (fun b => by simp) r_G18_F_a_0 oq18)
theorem v_X0_strike_21_6 {K : Nat → Nat} {F : Nat → Nat → Nat} (a : Nat) (p0 : Int32) (G : XG)
    (ha : K a = 2)
    (e0 : 0 ≤ p0.toInt ∧ p0.toInt ≤ 11)
    (c1 : ¬ (p0.toInt < 0))
    (c7 : (12 : Int) ≤ p0.toInt) :
    ∀ (i q : Nat), G.2.2.1 (F a 1) i = some q → (∃ j : Nat, G.2.2.1 (F a 1) j = some q) ∨ ∃ j : Nat, G.2.2.1 (F a 0) j = some q := by
  first | (exfalso; omega) | skip
  all_goals (
    intro i q h
    rcases oq18a i q h with ⟨j, e⟩ | ⟨j, e⟩
    · left; exact ⟨j, by rw [← r_G16_F_a_1]; exact e⟩
    · right; exact ⟨j, by rw [r_G18_F_a_0]; exact e⟩)
theorem v_X0_strike_21_7 {K : Nat → Nat} {F : Nat → Nat → Nat} (a : Nat) (G16 : XG) (G : XG) (p0 : Int32) (G18 : XG)
    (ha : K a = 2)
    (hG16 : G16 = rput G (F a 0) p0.toInt.toNat none)
    (oq18 : ORn (G16.2.2.1 (F a 0)) (G18.2.2.1 (F a 1)) ((G18.1 a 2).toInt) (fun i => rkO G16 (G16.2.2.1 (F a 0) i)) 12)
    (e0 : 0 ≤ p0.toInt ∧ p0.toInt ≤ 11)
    (c1 : ¬ (p0.toInt < 0))
    (c7 : ¬ ((12 : Int) ≤ p0.toInt))
    (r_G18_F_a_0 : G18.2.2.1 (F a 0) = G16.2.2.1 (F a 0)) :
    ∀ i : Nat, G18.2.2.1 (F a 0) i = if i = (p0.toInt).toNat then none else G.2.2.1 (F a 0) i := by
  first | (exfalso; omega) | skip
  all_goals (
    intro i
    rw [r_G18_F_a_0, rput_j hG16])
theorem v_X0_strike_21_8 {K : Nat → Nat} {F : Nat → Nat → Nat} (a : Nat) (G16 : XG) (p0 : Int32) (G18 : XG)
    (ha : K a = 2)
    (hF18 : XFr [(a, 2)] [] [F a 1] G16 G18)
    (oq18 : ORn (G16.2.2.1 (F a 0)) (G18.2.2.1 (F a 1)) ((G18.1 a 2).toInt) (fun i => rkO G16 (G16.2.2.1 (F a 0) i)) 12)
    (e0 : 0 ≤ p0.toInt ∧ p0.toInt ≤ 11)
    (c1 : ¬ (p0.toInt < 0))
    (c7 : ¬ ((12 : Int) ≤ p0.toInt))
    (r_G18_F_a_0 : G18.2.2.1 (F a 0) = G16.2.2.1 (F a 0)) :
    BO G18 F a := by
  first | (exfalso; omega) | skip
  all_goals (
    exact BO.arr hF18 (fun b => by simp) r_G18_F_a_0 oq18)
theorem v_X0_strike_21_9 {K : Nat → Nat} {F : Nat → Nat → Nat} (a : Nat) (G16 : XG) (G : XG) (p0 : Int32) (G18 : XG)
    (ha : K a = 2)
    (oq18 : ORn (G16.2.2.1 (F a 0)) (G18.2.2.1 (F a 1)) ((G18.1 a 2).toInt) (fun i => rkO G16 (G16.2.2.1 (F a 0) i)) 12)
    (oq18a : ∀ (i q : Nat), G18.2.2.1 (F a 1) i = some q → (∃ j : Nat, G16.2.2.1 (F a 1) j = some q) ∨ ∃ j : Nat, G16.2.2.1 (F a 0) j = some q)
    (e0 : 0 ≤ p0.toInt ∧ p0.toInt ≤ 11)
    (c1 : ¬ (p0.toInt < 0))
    (c7 : ¬ ((12 : Int) ≤ p0.toInt))
    (r_G16_F_a_1 : G16.2.2.1 (F a 1) = G.2.2.1 (F a 1))
    (r_G18_F_a_0 : G18.2.2.1 (F a 0) = G16.2.2.1 (F a 0)) :
    ∀ (i q : Nat), G18.2.2.1 (F a 1) i = some q → (∃ j : Nat, G.2.2.1 (F a 1) j = some q) ∨ ∃ j : Nat, G18.2.2.1 (F a 0) j = some q := by
  first | (exfalso; omega) | skip
  all_goals (
    intro i q h
    rcases oq18a i q h with ⟨j, e⟩ | ⟨j, e⟩
    · left; exact ⟨j, by rw [← r_G16_F_a_1]; exact e⟩
    · right; exact ⟨j, by rw [r_G18_F_a_0]; exact e⟩)
abbrev rm_X6_copy : Room := { frames := 1, cells := 0, slots := 0, locals := 60 }
set_option maxHeartbeats 4000000 in
set_option maxRecDepth 100000 in
theorem c_X6_copy (l : Launch) (E : XE) (K : Nat → Nat) (F : Nat → Nat → Nat) (G : XG) (a : Nat) (p0 : Nat) (ha : K a = 8) (hp0 : K p0 = 8) (hro : RO (vw (G.2.1 (F p0 0))) (aI (G.2.1 (F p0 1)))) : Met l yX6_copy (xw yX6_copy cX6_copy 2 none) rm_X6_copy (va_Pc [.ref a, .ref p0] (XP E K F G)) (XQv E (fun (u : XG) => XFr [] [F a 0, F a 1] [] G u ∧ ((vw (u.2.1 (F a 0))) = (vw (G.2.1 (F p0 0)))) ∧ (RO (vw (u.2.1 (F a 0))) (aI (u.2.1 (F a 1))))) (fun u H => TW E K F u H)) 0 0 (xA E) := by
  refine x_enter (by decide) (Nat.le_of_ble_eq_true rfl) ?_
  intro p e s m args below meth c Q S hr hlk hnm hQ hP ls hl
  obtain ⟨hz, hK, hT⟩ := hP
  obtain ⟨hx, hb, -, -, -⟩ := id S
  obtain ⟨H, hT, hS, hgo⟩ : ∃ H : Heap, TW E K F G H ∧ va_S (xA E) s.heap H [] ∧ H = s.heap := ⟨_, hT, va_S.rf, rfl⟩
  rw [← hgo]
  have hl : lv_has ls 2 [(0, .ref a), (1, .ref p0)] := hl
  obtain ⟨hk9999, hj9999⟩ := fkX6_0 hT ha
  obtain ⟨hk9999a, hj9999a⟩ := fkX6_1 hT ha
  obtain ⟨hk9999b, hj9999b⟩ := fkX6_0 hT hp0
  obtain ⟨hk9999c, hj9999c⟩ := fkX6_1 hT hp0
  refine lv_aload_n hx hb dX6_copy_0 rfl (lv_at hl 1 rfl) ?_
  refine gX6_0 S hK hT hp0 kf_X6_9 dX6_copy_1 (fun _ _ => ?_)
  refine lv_iconst (v := 0) hx hb dX6_copy_4 (by decide) ?_
  refine lv_aload_n hx hb dX6_copy_5 rfl (lv_at hl 0 rfl) ?_
  refine gX6_0 S hK hT ha kf_X6_9 dX6_copy_6 (fun _ _ => ?_)
  refine lv_iconst (v := 0) hx hb dX6_copy_9 (by decide) ?_
  refine lv_sipush (v := 270) hx hb dX6_copy_10 (by decide) ?_
  refine x_copy S hK hT hS kac km_X6_18 hk9999b hk9999 ar_20 ar_20 aw_20 (by decide) (by decide) (by decide) (by decide) (by decide) (by decide) hl.1 (Nat.le_of_ble_eq_true rfl) (Nat.le_of_ble_eq_true rfl) dX6_copy_13 (fun H locs hT hS => ?_)
  obtain ⟨G13, hG13⟩ : ∃ GG : XG, GG = ccopy G (F a 0) (va_cpy (G.2.1 (F p0 0)) (G.2.1 (F a 0)) (0 : Int32).toNatClampNeg (0 : Int32).toNatClampNeg (270 : Int32).toNatClampNeg) := ⟨_, rfl⟩
  rw [← hG13] at hT
  refine lv_aload_n hx hb dX6_copy_16 rfl (lv_at hl 1 rfl) ?_
  refine gX6_1 S hK hT hp0 kf_X6_15 dX6_copy_17 (fun _ _ => ?_)
  refine lv_iconst (v := 0) hx hb dX6_copy_20 (by decide) ?_
  refine lv_aload_n hx hb dX6_copy_21 rfl (lv_at hl 0 rfl) ?_
  refine gX6_1 S hK hT ha kf_X6_15 dX6_copy_22 (fun _ _ => ?_)
  refine lv_iconst (v := 0) hx hb dX6_copy_25 (by decide) ?_
  refine lv_iconst (v := 3) hx hb dX6_copy_26 (by decide) ?_
  refine x_copy S hK hT hS kac km_X6_18 hk9999c hk9999a ar_21 ar_21 aw_21 (by decide) (by decide) (by decide) (by decide) (by decide) (by decide) hl.1 (Nat.le_of_ble_eq_true rfl) (Nat.le_of_ble_eq_true rfl) dX6_copy_27 (fun H locs hT hS => ?_)
  obtain ⟨G27, hG27⟩ : ∃ GG : XG, GG = ccopy G13 (F a 1) (va_cpy (G13.2.1 (F p0 1)) (G13.2.1 (F a 1)) (0 : Int32).toNatClampNeg (0 : Int32).toNatClampNeg (3 : Int32).toNatClampNeg) := ⟨_, rfl⟩
  rw [← hG27] at hT
  exact x_rv hx hb hr hlk hQ (Nat.le_of_ble_eq_true rfl) (Nat.le_of_ble_eq_true rfl) hS dX6_copy_30 G27 ⟨(by rw [hG27]; exact XFr.ccopy (by rw [hG13]; exact XFr.ccopy XFr.rf (List.mem_of_getElem? (i := 0) rfl)) (List.mem_of_getElem? (i := 1) rfl)), (v_X6_copy_30_1 (F := F) a p0 G13 G G27 hG13 (lcc_c hG27 (xne_k hk9999 hk9999a (by decide)))), (v_X6_copy_30_2 (K := K) (F := F) a p0 G13 G G27 ha hp0 hG13 hG27 hro (lcc_c hG13 (xne_k hk9999c hk9999 (by decide))) (lcc_c hG27 (xne_k hk9999 hk9999a (by decide))))⟩ hT

theorem z_X6_move_1 (a0 : Int) (a1 : Int) (h0 : a1 ≠ -2000) (h1 : (a0 = 1 ∧ a1 ≠ -2000) ∨ (a0 = 0 ∧ a1 = -2000)) (h2 : a0 = 0) : (0 : Int) = 1 ∧ a0 = a0 := by omega
theorem z_X6_move_2 (a0 : Int) (a1 : Int) (h0 : 0 ≤ a0) (h1 : a0 < 30) (h2 : (a1 = 1 ∧ 0 ≤ a0 ∧ a0 < 30) ∨ (a1 = 0 ∧ (a0 < 0 ∨ 30 ≤ a0))) (h3 : a1 = 0) : (0 : Int) = 1 ∧ a1 = a1 := by omega
theorem z_X6_move_3 (a0 : Int) (a1 : Int) (h0 : 0 ≤ a0) (h1 : a0 < 3) (h2 : 0 ≤ a1) (h3 : a1 < 30) : 0 ≤ a0 ∧ a0 < 3 ∧ 0 ≤ a1 ∧ a1 < 30 := by omega
theorem z_X6_move_4 (a0 : Int) (h0 : 0 ≤ a0 ∧ a0 ≤ 3) : ¬ (2147483648 - a0 < ((0 : Nat) : Int)) := by omega
theorem z_X6_move_6 (a0 : Int) (a1 : Int) (a2 : Int) (a3 : Int) (h0 : 0 ≤ a1) (h1 : a1 < 3) (h2 : 0 ≤ a2) (h3 : a2 < 30) (h4 : 0 ≤ a3) (h5 : a3 < 30) (h6 : a2 ≠ a3) (h7 : 0 ≤ a0 ∧ a0 ≤ 3) (h8 : ¬ ((3 : Int) ≤ a0)) : 0 ≤ a1 ∧ a1 < 3 ∧ 0 ≤ a2 ∧ a2 < 30 ∧ 0 ≤ a3 ∧ a3 < 30 ∧ a2 ≠ a3 ∧ 0 ≤ a0 ∧ a0 < 3 ∧ 0 ≤ a0 := by omega
theorem z_X6_move_7 (a0 : Int) (h0 : 0 ≤ a0 ∧ a0 ≤ 3) (h1 : ¬ ((3 : Int) ≤ a0)) : 0 ≤ a0 ∧ a0 < 3 := by omega
theorem z_X6_move_9 (a0 : Int) (a1 : Int) (h0 : 0 ≤ a0 ∧ a0 ≤ 3) (h1 : a1 = (a0 + 1) ∨ (a0 + 1) < -2147483648 ∨ 2147483648 ≤ (a0 + 1)) : a1 = (a0 + 1) := by omega
theorem z_X6_move_10 (a0 : Int) (h0 : 0 ≤ a0 ∧ a0 ≤ 3) (h1 : ¬ ((3 : Int) ≤ a0)) : 0 ≤ (a0 + 1) ∧ (a0 + 1) ≤ 3 := by omega
theorem z_X6_move_11 (a0 : Int) (h0 : 0 ≤ a0 ∧ a0 ≤ 3) : (0 : Int) ≤ (a0 + 1) := by omega
theorem z_X6_move_12 (a0 : Int) (a1 : Nat) (h0 : 2147483648 - a0 < ((a1 + 1 : Nat) : Int)) : 2147483648 - (a0 + 1) < ((a1 : Nat) : Int) := by omega
theorem z_X6_move_13 (a0 : Int) (a1 : Int) (h0 : a0 ≠ a1) (h1 : ¬ (a1 ≠ a0)) : (0 : Int) = 1 ∧ a1 = a1 := by omega
abbrev rm_X6_move : Room := { frames := 3, cells := 0, slots := 0, locals := 67 }
set_option maxHeartbeats 4000000 in
set_option maxRecDepth 100000 in
theorem c_X6_move (l : Launch) (E : XE) (K : Nat → Nat) (F : Nat → Nat → Nat) (G : XG) (a : Nat) (p0 : Int32) (p1 : Int32) (p2 : Int32) (ha : K a = 8) (e0 : 0 ≤ p0.toInt ∧ p0.toInt < 3 ∧ 0 ≤ p1.toInt ∧ p1.toInt < 30 ∧ 0 ≤ p2.toInt ∧ p2.toInt < 30 ∧ p1.toInt ≠ p2.toInt) (e1 : (cel (vw (G.2.1 (F a 0))) (p0.toInt) (p1.toInt) 0) ≠ -2000) (hro : RO (vw (G.2.1 (F a 0))) (aI (G.2.1 (F a 1)))) : Met l yX6_move (xw yX6_move cX6_move 5 none) rm_X6_move (va_Pc [.ref a, .int p0, .int p1, .int p2] (XP E K F G)) (XQv E (fun (u : XG) => XFr [] [F a 0, F a 1] [] G u ∧ ((vw (u.2.1 (F a 0))) = rmv (vw (G.2.1 (F a 0))) (p0.toInt) (p1.toInt) (p2.toInt)) ∧ (RO (vw (u.2.1 (F a 0))) (aI (u.2.1 (F a 1))))) (fun u H => TW E K F u H)) 0 0 (xA E) := by
  refine x_enter (by decide) (Nat.le_of_ble_eq_true rfl) ?_
  intro p e s m args below meth c Q S hr hlk hnm hQ hP ls hl
  obtain ⟨hz, hK, hT⟩ := hP
  obtain ⟨hx, hb, -, -, -⟩ := id S
  obtain ⟨H, hT, hS, hgo⟩ : ∃ H : Heap, TW E K F G H ∧ va_S (xA E) s.heap H [] ∧ H = s.heap := ⟨_, hT, va_S.rf, rfl⟩
  rw [← hgo]
  have hl : lv_has ls 5 [(0, .ref a), (1, .int p0), (2, .int p1), (3, .int p2)] := hl
  obtain ⟨hk9999, hj9999⟩ := fkX6_0 hT ha
  obtain ⟨hk9999a, hj9999a⟩ := fkX6_1 hT ha
  refine lv_aload_n hx hb dX6_move_0 rfl (lv_at hl 0 rfl) ?_
  refine lv_iload_n hx hb dX6_move_1 rfl (lv_at hl 1 rfl) ?_
  refine lv_iload_n hx hb dX6_move_2 rfl (lv_at hl 2 rfl) ?_
  refine x_clp (x_runV (b := a) (As := [.int p0, .int p1]) (rest := []) S (c_X6_has l E K F G H a p0 p1 ha (v_X6_move_3_1 (F := F) a G hro)) mv_X6_has km_X6_54 rfl rfl ⟨Nat.le_of_ble_eq_true rfl, Nat.le_of_ble_eq_true rfl⟩ (rc_8 hK hT ha) hK (fun _ => XPh.blind) (fun U hU hW => XPh.at hK hz hS hT hU hW) rfl hl.1 (Nat.le_of_ble_eq_true rfl) dX6_move_3 ⟨Nat.le_of_ble_eq_true rfl, Nat.le_of_ble_eq_true rfl⟩) hS ?_
  rintro _ _ locs ⟨x3, rfl, b3, t3⟩ hS
  have t3 : (x3.toInt = 1 ∧ (cel (vw (G.2.1 (F a 0))) (p0.toInt) (p1.toInt) 0) ≠ -2000) ∨ (x3.toInt = 0 ∧ (cel (vw (G.2.1 (F a 0))) (p0.toInt) (p1.toInt) 0) = -2000) := t3
  refine xi_zeq (tgt := 21) hx hb (rfl : Int32.toInt x3 = x3.toInt) dX6_move_6 (by decide) (fun c6 => ?_) (fun c6 => ?_)
  · exact absurd ((z_X6_move_1 x3.toInt (cel (vw (G.2.1 (F a 0))) (p0.toInt) (p1.toInt) 0) e1 t3 c6)).1 (by decide)
  · refine lv_iload_n hx hb dX6_move_9 rfl (lv_at hl 3 rfl) ?_
    refine x_clp (x_runSN (As := [.int p2]) (rest := []) S (c_X10_isKey l E K F G H p2) ms_X10_isKey (by decide +kernel) rfl rfl ⟨Nat.le_of_ble_eq_true rfl, Nat.le_of_ble_eq_true rfl⟩ hK (fun _ => XPh.blind) (fun U hU hW => XPh.at hK hz hS hT hU hW) rfl hl.1 (Nat.le_of_ble_eq_true rfl) dX6_move_10 ⟨Nat.le_of_ble_eq_true rfl, Nat.le_of_ble_eq_true rfl⟩) hS ?_
    rintro _ _ locs ⟨x10, rfl, b10, t10⟩ hS
    have t10 : (x10.toInt = 1 ∧ 0 ≤ p2.toInt ∧ p2.toInt < 30) ∨ (x10.toInt = 0 ∧ (p2.toInt < 0 ∨ 30 ≤ p2.toInt)) := t10
    refine xi_zeq (tgt := 21) hx hb (rfl : Int32.toInt x10 = x10.toInt) dX6_move_13 (by decide) (fun c13 => ?_) (fun c13 => ?_)
    · exact absurd ((z_X6_move_2 p2.toInt x10.toInt (e0).2.2.2.2.1 (e0).2.2.2.2.2.1 t10 c13)).1 (by decide)
    · refine lv_iload_n hx hb dX6_move_16 rfl (lv_at hl 3 rfl) ?_
      refine lv_iload_n hx hb dX6_move_17 rfl (lv_at hl 2 rfl) ?_
      refine xi_cne (tgt := 22) hx hb (rfl : Int32.toInt p2 = p2.toInt) (rfl : Int32.toInt p1 = p1.toInt) dX6_move_18 (by decide) (fun c18 => ?_) (fun c18 => ?_)
      · refine lv_aload_n hx hb dX6_move_22 rfl (lv_at hl 0 rfl) ?_
        refine lv_iload_n hx hb dX6_move_23 rfl (lv_at hl 1 rfl) ?_
        refine lv_iload_n hx hb dX6_move_24 rfl (lv_at hl 3 rfl) ?_
        refine x_cv0 (x_runV (b := a) (As := [.int p0, .int p2]) (rest := []) S (c_X6_add l E K F G a p0 p2 ha (z_X6_move_3 p0.toInt p2.toInt (e0).1 (e0).2.1 (e0).2.2.2.2.1 (e0).2.2.2.2.2.1) (v_X6_move_25_2 (F := F) a G hro)) mv_X6_add km_X6_58 rfl rfl ⟨Nat.le_of_ble_eq_true rfl, Nat.le_of_ble_eq_true rfl⟩ (rc_8 hK hT ha) hK (fun _ => XP.blind) (fun U hU hW => XP.at hK hz hS hT hU hW) rfl hl.1 (Nat.le_of_ble_eq_true rfl) dX6_move_25 ⟨Nat.le_of_ble_eq_true rfl, Nat.le_of_ble_eq_true rfl⟩) hS ?_
        rintro G25 H locs ⟨hF25, oq25, oq25a⟩ hT hS
        refine lv_iconst (v := 0) hx hb dX6_move_28 (by decide) ?_
        refine lv_istore (lv' := [(4, .int 0), (0, .ref a), (1, .int p0), (2, .int p1), (3, .int p2)]) hx hb dX6_move_29 hl (by decide) rfl (fun ls hl => ?_)
        have L31 : ∀ (N31 : Nat) (l4_31 : Int32) (G_31 : XG) (H : Heap) (locs : List Loc) (ls : Array Slot), XFr [] [F a 0, F a 1] [] G25 G_31 → vw (G_31.2.1 (F a 0)) = rmc (vw (G.2.1 (F a 0))) (p0.toInt) (p1.toInt) (p2.toInt) (l4_31.toInt) → RO (vw (G_31.2.1 (F a 0))) (aI (G_31.2.1 (F a 1))) → 0 ≤ l4_31.toInt ∧ l4_31.toInt ≤ 3 → (0 : Int) ≤ l4_31.toInt → 2147483648 - l4_31.toInt < ((N31 : Nat) : Int) → TW E K F G_31 H → va_S (xA E) s.heap H locs → lv_has ls 5 [(0, .ref a), (1, .int p0), (2, .int p1), (3, .int p2), (4, .int l4_31)] → W p l e rm_X6_move s m args below meth c H locs 0 0 Q (F0 m 31 ls []) := by
          intro N31
          induction N31 with
          | zero =>
            intro l4_31 G_31 H locs ls hF_31 pm pr I31_0 I31_1 hm31
            exact absurd hm31 (z_X6_move_4 l4_31.toInt I31_0)
          | succ N31 ih31 =>
            intro l4_31 G_31 H locs ls hF_31 pm pr I31_0 I31_1 hm31 hT hS hl
            refine lv_iload hx hb dX6_move_31 (lv_at hl 4 rfl) ?_
            refine lv_iconst (v := 3) hx hb dX6_move_33 (by decide) ?_
            refine xi_cge (tgt := 59) hx hb (rfl : Int32.toInt l4_31 = l4_31.toInt) ((by decide) : Int32.toInt 3 = (3 : Int)) dX6_move_34 (by decide) (fun c34 => ?_) (fun c34 => ?_)
            · refine lv_aload_n hx hb dX6_move_59 rfl (lv_at hl 0 rfl) ?_
              refine lv_iload_n hx hb dX6_move_60 rfl (lv_at hl 1 rfl) ?_
              refine lv_iload_n hx hb dX6_move_61 rfl (lv_at hl 2 rfl) ?_
              refine x_cv0 (x_runV (b := a) (As := [.int p0, .int p1]) (rest := []) S (c_X6_remove l E K F G_31 a p0 p1 ha (z_X6_move_3 p0.toInt p1.toInt (e0).1 (e0).2.1 (e0).2.2.1 (e0).2.2.2.1) (v_X6_move_62_3 (F := F) a G_31 pr)) mv_X6_remove km_X6_70 rfl rfl ⟨Nat.le_of_ble_eq_true rfl, Nat.le_of_ble_eq_true rfl⟩ (rc_8 hK hT ha) hK (fun _ => XP.blind) (fun U hU hW => XP.at hK hz hS hT hU hW) rfl hl.1 (Nat.le_of_ble_eq_true rfl) dX6_move_62 ⟨Nat.le_of_ble_eq_true rfl, Nat.le_of_ble_eq_true rfl⟩) hS ?_
              rintro G62 H locs ⟨hF62, oq62, oq62a⟩ hT hS
              exact x_rv hx hb hr hlk hQ (Nat.le_of_ble_eq_true rfl) (Nat.le_of_ble_eq_true rfl) hS dX6_move_65 G62 ⟨(XFr.call (XFr.call (XFr.call XFr.rf hF25 xm0 (xm1 0 rfl (xm1 1 rfl xm0)) xm0) hF_31 xm0 (xm1 0 rfl (xm1 1 rfl xm0)) xm0) hF62 xm0 (xm1 0 rfl (xm1 1 rfl xm0)) xm0), (v_X6_move_65_4 (K := K) (F := F) a G G_31 G62 p0 p2 p1 l4_31 x3 x10 N31 ha pm oq62 e0 e1 t3 c6 t10 c13 c18 I31_0 I31_1 hm31 c34), (v_X6_move_65_5 (F := F) a G62 oq62a)⟩ hT
            · refine lv_aload_n hx hb dX6_move_37 rfl (lv_at hl 0 rfl) ?_
              refine lv_iload_n hx hb dX6_move_38 rfl (lv_at hl 1 rfl) ?_
              refine lv_iload_n hx hb dX6_move_39 rfl (lv_at hl 3 rfl) ?_
              refine lv_iload hx hb dX6_move_40 (lv_at hl 4 rfl) ?_
              refine lv_aload_n hx hb dX6_move_42 rfl (lv_at hl 0 rfl) ?_
              refine lv_iload_n hx hb dX6_move_43 rfl (lv_at hl 1 rfl) ?_
              refine lv_iload_n hx hb dX6_move_44 rfl (lv_at hl 2 rfl) ?_
              refine lv_iload hx hb dX6_move_45 (lv_at hl 4 rfl) ?_
              refine x_clp (x_runV (b := a) (As := [.int p0, .int p1, .int l4_31]) (rest := [.int l4_31, .int p2, .int p0, .ref a]) S (c_X6_cell l E K F G_31 H a p0 p1 l4_31 ha) mv_X6_cell km_X6_62 rfl rfl ⟨Nat.le_of_ble_eq_true rfl, Nat.le_of_ble_eq_true rfl⟩ (rc_8 hK hT ha) hK (fun _ => XPh.blind) (fun U hU hW => XPh.at hK hz hS hT hU hW) rfl hl.1 (Nat.le_of_ble_eq_true rfl) dX6_move_47 ⟨Nat.le_of_ble_eq_true rfl, Nat.le_of_ble_eq_true rfl⟩) hS ?_
              rintro _ _ locs ⟨x47, rfl, t47⟩ hS
              have t47 : x47.toInt = (cel (vw (G_31.2.1 (F a 0))) (p0.toInt) (p1.toInt) (l4_31.toInt)) := t47
              have z50 : (cel (vw (G_31.2.1 (F a 0))) (p0.toInt) (p1.toInt) (l4_31.toInt)) = -1000 ∨ (-99 ≤ (cel (vw (G_31.2.1 (F a 0))) (p0.toInt) (p1.toInt) (l4_31.toInt)) ∧ (cel (vw (G_31.2.1 (F a 0))) (p0.toInt) (p1.toInt) (l4_31.toInt)) ≤ 99) := mv_ok hro e1 pm (z_X6_move_6 l4_31.toInt p0.toInt p1.toInt p2.toInt (e0).1 (e0).2.1 (e0).2.2.1 (e0).2.2.2.1 (e0).2.2.2.2.1 (e0).2.2.2.2.2.1 (e0).2.2.2.2.2.2 I31_0 c34)
              refine x_cv0 (x_runV (b := a) (As := [.int p0, .int p2, .int l4_31, .int x47]) (rest := []) S (c_X6_change l E K F G_31 a p0 p2 l4_31 x47 ha (z_X6_move_7 l4_31.toInt I31_0 c34) (by rw [(t47 : Int32.toInt x47 = (cel (vw (G_31.2.1 (F a 0))) (p0.toInt) (p1.toInt) (l4_31.toInt)))] <;> exact (z50)) (v_X6_move_50_6 (F := F) a G_31 pr)) mv_X6_change km_X6_66 rfl rfl ⟨Nat.le_of_ble_eq_true rfl, Nat.le_of_ble_eq_true rfl⟩ (rc_8 hK hT ha) hK (fun _ => XP.blind) (fun U hU hW => XP.at hK hz hS hT hU hW) rfl hl.1 (Nat.le_of_ble_eq_true rfl) dX6_move_50 ⟨Nat.le_of_ble_eq_true rfl, Nat.le_of_ble_eq_true rfl⟩) hS ?_
              rintro G50 H locs ⟨hF50, oq50, oq50a⟩ hT hS
              have oq50 : (vw (G50.2.1 (F a 0))) = if cel (vw (G_31.2.1 (F a 0))) (p0.toInt) (p2.toInt) 0 ≠ -2000 then rset (vw (G_31.2.1 (F a 0))) (90 * (p0.toInt) + 30 * (l4_31.toInt) + (p2.toInt)) ((cel (vw (G_31.2.1 (F a 0))) (p0.toInt) (p1.toInt) (l4_31.toInt))) else (vw (G_31.2.1 (F a 0))) := by simp only [(t47 : Int32.toInt x47 = (cel (vw (G_31.2.1 (F a 0))) (p0.toInt) (p1.toInt) (l4_31.toInt)))] at oq50; exact oq50
              refine xi_iinc (n := 1) (lv' := fun z9 => [(4, .int z9), (0, .ref a), (1, .int p0), (2, .int p1), (3, .int p2)]) (k := 4) hx hb (rfl : Int32.toInt l4_31 = l4_31.toInt) (by decide) dX6_move_53 hl rfl (by decide) (fun _ => rfl) (fun x53 ls t53 hl => ?_)
              have e53 : x53.toInt = (l4_31.toInt + 1) := (z_X6_move_9 l4_31.toInt x53.toInt I31_0 t53)
              have hl : lv_has ls 5 [(4, .int x53), (0, .ref a), (1, .int p0), (2, .int p1), (3, .int p2)] := hl
              refine lv_goto (tgt := 31) hx hb dX6_move_56 (by decide) ?_
              exact ih31 x53 G50 _ _ _ (XFr.call (XFr.call XFr.rf hF_31 xm0 (xm1 0 rfl (xm1 1 rfl xm0)) xm0) hF50 xm0 (xm1 0 rfl xm0) xm0) (by rw [(e53 : Int32.toInt x53 = (l4_31.toInt + 1))] <;> exact (v_X6_move_56_7 (K := K) (F := F) a G G_31 G50 p0 p2 p1 l4_31 x3 x10 N31 ha pm oq50 e0 e1 t3 c6 t10 c13 c18 I31_0 I31_1 hm31 c34 z50)) (v_X6_move_56_8 (F := F) a G50 oq50a) (by rw [(e53 : Int32.toInt x53 = (l4_31.toInt + 1))] <;> exact (z_X6_move_10 l4_31.toInt I31_0 c34)) (by rw [(e53 : Int32.toInt x53 = (l4_31.toInt + 1))] <;> exact (z_X6_move_11 l4_31.toInt I31_0)) (by rw [(e53 : Int32.toInt x53 = (l4_31.toInt + 1))] <;> exact (z_X6_move_12 l4_31.toInt N31 hm31)) hT hS (lv_sub hl [1, 2, 3, 4, 0] rfl)
        exact L31 4294967297 0 G25 _ _ _ XFr.rf (v_X6_move_29_9 (F := F) a G G25 p0 p2 p1 oq25) (v_X6_move_29_10 (F := F) a G25 oq25a) (by decide) (by decide) (by decide) hT hS (lv_sub hl [1, 2, 3, 4, 0] rfl)
      · exact absurd ((z_X6_move_13 p1.toInt p2.toInt (e0).2.2.2.2.2.2 c18)).1 (by decide)

theorem z_X0_enter_1 (a0 : Int) (h0 : 0 ≤ a0 ∧ a0 ≤ 11) : 0 ≤ a0 ∧ a0 < 12 := by omega
abbrev rm_X0_enter : Room := { frames := 2, cells := 0, slots := 0, locals := 45 }
set_option maxHeartbeats 4000000 in
set_option maxRecDepth 100000 in
theorem c_X0_enter (l : Launch) (E : XE) (K : Nat → Nat) (F : Nat → Nat → Nat) (G : XG) (a : Nat) (p0 : Nat) (ha : K a = 2) (hp0 : K p0 = 9) (e0 : 0 ≤ ((G.1 p0 1).toInt) ∧ ((G.1 p0 1).toInt) ≤ 11) : Met l yX0_enter (xw yX0_enter cX0_enter 2 none) rm_X0_enter (va_Pc [.ref a, .ref p0] (XP E K F G)) (XQv E (fun (u : XG) => XFr [(a, 2)] [] [F a 0, F a 1] G u ∧ (∀ i : Nat, u.2.2.1 (F a 0) i = if i = (((G.1 p0 1).toInt)).toNat then some p0 else G.2.2.1 (F a 0) i) ∧ (BO u F a) ∧ (∀ (i q : Nat), u.2.2.1 (F a 1) i = some q → (∃ j : Nat, G.2.2.1 (F a 1) j = some q) ∨ ∃ j : Nat, u.2.2.1 (F a 0) j = some q)) (fun u H => TW E K F u H)) 0 0 (xA E) := by
  refine x_enter (by decide) (Nat.le_of_ble_eq_true rfl) ?_
  intro p e s m args below meth c Q S hr hlk hnm hQ hP ls hl
  obtain ⟨hz, hK, hT⟩ := hP
  obtain ⟨hx, hb, -, -, -⟩ := id S
  obtain ⟨H, hT, hS, hgo⟩ : ∃ H : Heap, TW E K F G H ∧ va_S (xA E) s.heap H [] ∧ H = s.heap := ⟨_, hT, va_S.rf, rfl⟩
  rw [← hgo]
  have hl : lv_has ls 2 [(0, .ref a), (1, .ref p0)] := hl
  obtain ⟨hk9999, hj9999⟩ := fkX0_0 hT ha
  obtain ⟨hk9999a, hj9999a⟩ := fkX0_1 hT ha
  refine lv_aload_n hx hb dX0_enter_0 rfl (lv_at hl 1 rfl) ?_
  refine gX7_1 S hK hT hp0 kf_X0_28 dX0_enter_1 (v := (G.1 p0 1)) rfl (?_)
  refine xi_zlt (tgt := 30) hx hb (rfl : Int32.toInt (G.1 p0 1) = ((G.1 p0 1).toInt)) dX0_enter_4 (by decide) (fun c4 => ?_) (fun c4 => ?_)
  · exact x_rv hx hb hr hlk hQ (Nat.le_of_ble_eq_true rfl) (Nat.le_of_ble_eq_true rfl) hS dX0_enter_30 G ⟨XFr.rf, (v_X0_enter_30_1 (K := K) (F := F) a p0 G ha hp0 e0 c4), (v_X0_enter_30_2 (K := K) (F := F) a p0 G ha hp0 e0 c4), (v_X0_enter_30_3 (K := K) (F := F) a p0 G ha hp0 e0 c4)⟩ hT
  · refine lv_aload_n hx hb dX0_enter_7 rfl (lv_at hl 1 rfl) ?_
    refine gX7_1 S hK hT hp0 kf_X0_28 dX0_enter_8 (v := (G.1 p0 1)) rfl (?_)
    refine lv_bipush (v := 12) hx hb dX0_enter_11 (by decide) ?_
    refine xi_cge (tgt := 30) hx hb (rfl : Int32.toInt (G.1 p0 1) = ((G.1 p0 1).toInt)) ((by decide) : Int32.toInt 12 = (12 : Int)) dX0_enter_13 (by decide) (fun c13 => ?_) (fun c13 => ?_)
    · exact x_rv hx hb hr hlk hQ (Nat.le_of_ble_eq_true rfl) (Nat.le_of_ble_eq_true rfl) hS dX0_enter_30 G ⟨XFr.rf, (v_X0_enter_30_4 (K := K) (F := F) a p0 G ha hp0 e0 c4 c13), (v_X0_enter_30_5 (K := K) (F := F) a p0 G ha hp0 e0 c4 c13), (v_X0_enter_30_6 (K := K) (F := F) a p0 G ha hp0 e0 c4 c13)⟩ hT
    · refine lv_aload_n hx hb dX0_enter_16 rfl (lv_at hl 0 rfl) ?_
      refine gX0_0 S hK hT ha kf_X0_11 dX0_enter_17 (fun _ _ => ?_)
      refine lv_aload_n hx hb dX0_enter_20 rfl (lv_at hl 1 rfl) ?_
      refine gX7_1 S hK hT hp0 kf_X0_28 dX0_enter_21 (v := (G.1 p0 1)) rfl (?_)
      refine lv_aload_n hx hb dX0_enter_24 rfl (lv_at hl 1 rfl) ?_
      refine as_15r S hK hT hS hk9999 hp0 (z_X0_enter_1 ((G.1 p0 1).toInt) e0) dX0_enter_25 (fun H locs hT hS => ?_)
      obtain ⟨G25, hG25⟩ : ∃ GG : XG, GG = rput G (F a 0) (G.1 p0 1).toInt.toNat (some p0) := ⟨_, rfl⟩
      rw [← hG25] at hT
      refine lv_aload_n hx hb dX0_enter_26 rfl (lv_at hl 0 rfl) ?_
      refine x_cv0 (x_runV (b := a) (As := []) (rest := []) S (c_X0_arrange l E K F G25 a ha) mv_X0_arrange km_X0_31 rfl rfl ⟨Nat.le_of_ble_eq_true rfl, Nat.le_of_ble_eq_true rfl⟩ (rc_2 hK hT ha) hK (fun _ => XP.blind) (fun U hU hW => XP.at hK hz hS hT hU hW) rfl hl.1 (Nat.le_of_ble_eq_true rfl) dX0_enter_27 ⟨Nat.le_of_ble_eq_true rfl, Nat.le_of_ble_eq_true rfl⟩) hS ?_
      rintro G27 H locs ⟨hF27, oq27, oq27a⟩ hT hS
      exact x_rv hx hb hr hlk hQ (Nat.le_of_ble_eq_true rfl) (Nat.le_of_ble_eq_true rfl) hS dX0_enter_30 G27 ⟨(XFr.call (by rw [hG25]; exact XFr.rput XFr.rf (List.mem_of_getElem? (i := 0) rfl)) hF27 (xm1 0 rfl xm0) xm0 (xm1 1 rfl xm0)), (v_X0_enter_30_7 (K := K) (F := F) a p0 G25 G G27 ha hp0 hG25 oq27 e0 c4 c13 (hF27.2.2 _ (xn1 (xne_j hj9999 hj9999a (by first | decide | omega)) xn0))), (v_X0_enter_30_8 (K := K) (F := F) a p0 G25 G G27 ha hp0 hF27 oq27 e0 c4 c13 (hF27.2.2 _ (xn1 (xne_j hj9999 hj9999a (by first | decide | omega)) xn0))), (v_X0_enter_30_9 (K := K) (F := F) a p0 G25 G G27 ha hp0 oq27 oq27a e0 c4 c13 (lr_r hG25 (xne_j hj9999a hj9999 (by first | decide | omega))) (hF27.2.2 _ (xn1 (xne_j hj9999 hj9999a (by first | decide | omega)) xn0)))⟩ hT

abbrev rm_X0_strike : Room := { frames := 2, cells := 0, slots := 0, locals := 45 }
set_option maxHeartbeats 4000000 in
set_option maxRecDepth 100000 in
theorem c_X0_strike (l : Launch) (E : XE) (K : Nat → Nat) (F : Nat → Nat → Nat) (G : XG) (a : Nat) (p0 : Int32) (ha : K a = 2) (e0 : 0 ≤ p0.toInt ∧ p0.toInt ≤ 11) : Met l yX0_strike (xw yX0_strike cX0_strike 2 none) rm_X0_strike (va_Pc [.ref a, .int p0] (XP E K F G)) (XQv E (fun (u : XG) => XFr [(a, 2)] [] [F a 0, F a 1] G u ∧ (∀ i : Nat, u.2.2.1 (F a 0) i = if i = (p0.toInt).toNat then none else G.2.2.1 (F a 0) i) ∧ (BO u F a) ∧ (∀ (i q : Nat), u.2.2.1 (F a 1) i = some q → (∃ j : Nat, G.2.2.1 (F a 1) j = some q) ∨ ∃ j : Nat, u.2.2.1 (F a 0) j = some q)) (fun u H => TW E K F u H)) 0 0 (xA E) := by
  refine x_enter (by decide) (Nat.le_of_ble_eq_true rfl) ?_
  intro p e s m args below meth c Q S hr hlk hnm hQ hP ls hl
  obtain ⟨hz, hK, hT⟩ := hP
  obtain ⟨hx, hb, -, -, -⟩ := id S
  obtain ⟨H, hT, hS, hgo⟩ : ∃ H : Heap, TW E K F G H ∧ va_S (xA E) s.heap H [] ∧ H = s.heap := ⟨_, hT, va_S.rf, rfl⟩
  rw [← hgo]
  have hl : lv_has ls 2 [(0, .ref a), (1, .int p0)] := hl
  obtain ⟨hk9999, hj9999⟩ := fkX0_0 hT ha
  obtain ⟨hk9999a, hj9999a⟩ := fkX0_1 hT ha
  refine lv_iload_n hx hb dX0_strike_0 rfl (lv_at hl 1 rfl) ?_
  refine xi_zlt (tgt := 21) hx hb (rfl : Int32.toInt p0 = p0.toInt) dX0_strike_1 (by decide) (fun c1 => ?_) (fun c1 => ?_)
  · exact x_rv hx hb hr hlk hQ (Nat.le_of_ble_eq_true rfl) (Nat.le_of_ble_eq_true rfl) hS dX0_strike_21 G ⟨XFr.rf, (v_X0_strike_21_1 (K := K) (F := F) a p0 G ha e0 c1), (v_X0_strike_21_2 (K := K) (F := F) a p0 G ha e0 c1), (v_X0_strike_21_3 (K := K) (F := F) a p0 G ha e0 c1)⟩ hT
  · refine lv_iload_n hx hb dX0_strike_4 rfl (lv_at hl 1 rfl) ?_
    refine lv_bipush (v := 12) hx hb dX0_strike_5 (by decide) ?_
    refine xi_cge (tgt := 21) hx hb (rfl : Int32.toInt p0 = p0.toInt) ((by decide) : Int32.toInt 12 = (12 : Int)) dX0_strike_7 (by decide) (fun c7 => ?_) (fun c7 => ?_)
    · exact x_rv hx hb hr hlk hQ (Nat.le_of_ble_eq_true rfl) (Nat.le_of_ble_eq_true rfl) hS dX0_strike_21 G ⟨XFr.rf, (v_X0_strike_21_4 (K := K) (F := F) a p0 G ha e0 c1 c7), (v_X0_strike_21_5 (K := K) (F := F) a p0 G ha e0 c1 c7), (v_X0_strike_21_6 (K := K) (F := F) a p0 G ha e0 c1 c7)⟩ hT
    · refine lv_aload_n hx hb dX0_strike_10 rfl (lv_at hl 0 rfl) ?_
      refine gX0_0 S hK hT ha kf_X0_11 dX0_strike_11 (fun _ _ => ?_)
      refine lv_iload_n hx hb dX0_strike_14 rfl (lv_at hl 1 rfl) ?_
      refine lv_null hx hb dX0_strike_15 ?_
      refine as_15n S hK hT hS hk9999 (z_X0_enter_1 p0.toInt e0) dX0_strike_16 (fun H locs hT hS => ?_)
      obtain ⟨G16, hG16⟩ : ∃ GG : XG, GG = rput G (F a 0) p0.toInt.toNat none := ⟨_, rfl⟩
      rw [← hG16] at hT
      refine lv_aload_n hx hb dX0_strike_17 rfl (lv_at hl 0 rfl) ?_
      refine x_cv0 (x_runV (b := a) (As := []) (rest := []) S (c_X0_arrange l E K F G16 a ha) mv_X0_arrange km_X0_31 rfl rfl ⟨Nat.le_of_ble_eq_true rfl, Nat.le_of_ble_eq_true rfl⟩ (rc_2 hK hT ha) hK (fun _ => XP.blind) (fun U hU hW => XP.at hK hz hS hT hU hW) rfl hl.1 (Nat.le_of_ble_eq_true rfl) dX0_strike_18 ⟨Nat.le_of_ble_eq_true rfl, Nat.le_of_ble_eq_true rfl⟩) hS ?_
      rintro G18 H locs ⟨hF18, oq18, oq18a⟩ hT hS
      exact x_rv hx hb hr hlk hQ (Nat.le_of_ble_eq_true rfl) (Nat.le_of_ble_eq_true rfl) hS dX0_strike_21 G18 ⟨(XFr.call (by rw [hG16]; exact XFr.rput XFr.rf (List.mem_of_getElem? (i := 0) rfl)) hF18 (xm1 0 rfl xm0) xm0 (xm1 1 rfl xm0)), (v_X0_strike_21_7 (K := K) (F := F) a G16 G p0 G18 ha hG16 oq18 e0 c1 c7 (hF18.2.2 _ (xn1 (xne_j hj9999 hj9999a (by first | decide | omega)) xn0))), (v_X0_strike_21_8 (K := K) (F := F) a G16 p0 G18 ha hF18 oq18 e0 c1 c7 (hF18.2.2 _ (xn1 (xne_j hj9999 hj9999a (by first | decide | omega)) xn0))), (v_X0_strike_21_9 (K := K) (F := F) a G16 G p0 G18 ha oq18 oq18a e0 c1 c7 (lr_r hG16 (xne_j hj9999a hj9999 (by first | decide | omega))) (hF18.2.2 _ (xn1 (xne_j hj9999 hj9999a (by first | decide | omega)) xn0)))⟩ hT
