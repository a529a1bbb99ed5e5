theorem z_X10_isTable_1 (a0 : Int) (h0 : a0 < 0) (r0 : -2147483648 ≤ a0 ∧ a0 < 2147483648) : ((0 : Int) = 1 ∧ 0 ≤ a0 ∧ a0 < 3) ∨ ((0 : Int) = 0 ∧ (a0 < 0 ∨ 3 ≤ a0)) := by omega
theorem z_X10_isTable_2 (a0 : Int) (h0 : ¬ (a0 < 0)) (h1 : (3 : Int) ≤ a0) (r0 : -2147483648 ≤ a0 ∧ a0 < 2147483648) : ((0 : Int) = 1 ∧ 0 ≤ a0 ∧ a0 < 3) ∨ ((0 : Int) = 0 ∧ (a0 < 0 ∨ 3 ≤ a0)) := by omega
theorem z_X10_isTable_3 (a0 : Int) (h0 : ¬ (a0 < 0)) (h1 : ¬ ((3 : Int) ≤ a0)) (r0 : -2147483648 ≤ a0 ∧ a0 < 2147483648) : ((1 : Int) = 1 ∧ 0 ≤ a0 ∧ a0 < 3) ∨ ((1 : Int) = 0 ∧ (a0 < 0 ∨ 3 ≤ a0)) := by omega
abbrev rm_X10_isTable : Room := { frames := 0, cells := 0, slots := 0, locals := 0 }
set_option maxHeartbeats 4000000 in
set_option maxRecDepth 100000 in
theorem c_X10_isTable (l : Launch) (E : XE) (K : Nat → Nat) (F : Nat → Nat → Nat) (G : XG) (h0 : Heap) (p0 : Int32)  : Met l yX10_isTable (xw yX10_isTable cX10_isTable 1 (some .boolean)) rm_X10_isTable (va_Pc [.int p0] (XPh E K F G h0)) (XQ E (fun v (u : Unit) => ∃ r : Int32, v = .int r ∧ (r = 0 ∨ r = 1) ∧ ((r.toInt = 1 ∧ 0 ≤ p0.toInt ∧ p0.toInt < 3) ∨ (r.toInt = 0 ∧ (p0.toInt < 0 ∨ 3 ≤ p0.toInt)))) (fun _ H => H = h0)) 0 0 (xA E) := by
  refine x_enter (by decide) (Nat.le_of_ble_eq_true rfl) ?_
  intro p e s m args below meth c Q S hr hlk hnm hQ hP ls hl
  obtain ⟨⟨hz, hK, hT⟩, hh⟩ := hP
  obtain ⟨hx, hb, -, -, -⟩ := id S
  have hS : va_S (xA E) s.heap s.heap [] := va_S.rf
  have hl : lv_has ls 1 [(0, .int p0)] := hl
  refine lv_iload_n hx hb dX10_isTable_0 rfl (lv_at hl 0 rfl) ?_
  refine xi_zlt (tgt := 13) hx hb (rfl : Int32.toInt p0 = p0.toInt) dX10_isTable_1 (by decide) (fun c1 => ?_) (fun c1 => ?_)
  · refine lv_iconst (v := 0) hx hb dX10_isTable_13 (by decide) ?_
    exact x_rz hx hb hr (xnz (Or.inl rfl)) hlk hQ (Nat.le_of_ble_eq_true rfl) (Nat.le_of_ble_eq_true rfl) hS dX10_isTable_14 () ⟨_, rfl, (Or.inl rfl), (z_X10_isTable_1 p0.toInt c1 (xr p0))⟩ hh
  · refine lv_iload_n hx hb dX10_isTable_4 rfl (lv_at hl 0 rfl) ?_
    refine lv_iconst (v := 3) hx hb dX10_isTable_5 (by decide) ?_
    refine xi_cge (tgt := 13) hx hb (rfl : Int32.toInt p0 = p0.toInt) ((by decide) : Int32.toInt 3 = (3 : Int)) dX10_isTable_6 (by decide) (fun c2 => ?_) (fun c2 => ?_)
    · refine lv_iconst (v := 0) hx hb dX10_isTable_13 (by decide) ?_
      exact x_rz hx hb hr (xnz (Or.inl rfl)) hlk hQ (Nat.le_of_ble_eq_true rfl) (Nat.le_of_ble_eq_true rfl) hS dX10_isTable_14 () ⟨_, rfl, (Or.inl rfl), (z_X10_isTable_2 p0.toInt c1 c2 (xr p0))⟩ hh
    · refine lv_iconst (v := 1) hx hb dX10_isTable_9 (by decide) ?_
      refine lv_goto (tgt := 14) hx hb dX10_isTable_10 (by decide) ?_
      exact x_rz hx hb hr (xnz (Or.inr rfl)) hlk hQ (Nat.le_of_ble_eq_true rfl) (Nat.le_of_ble_eq_true rfl) hS dX10_isTable_14 () ⟨_, rfl, (Or.inr rfl), (z_X10_isTable_3 p0.toInt c1 c2 (xr p0))⟩ hh

theorem z_X10_isKey_1 (a0 : Int) (h0 : a0 < 0) (r0 : -2147483648 ≤ a0 ∧ a0 < 2147483648) : ((0 : Int) = 1 ∧ 0 ≤ a0 ∧ a0 < 30) ∨ ((0 : Int) = 0 ∧ (a0 < 0 ∨ 30 ≤ a0)) := by omega
theorem z_X10_isKey_2 (a0 : Int) (h0 : ¬ (a0 < 0)) (h1 : (30 : Int) ≤ a0) (r0 : -2147483648 ≤ a0 ∧ a0 < 2147483648) : ((0 : Int) = 1 ∧ 0 ≤ a0 ∧ a0 < 30) ∨ ((0 : Int) = 0 ∧ (a0 < 0 ∨ 30 ≤ a0)) := by omega
theorem z_X10_isKey_3 (a0 : Int) (h0 : ¬ (a0 < 0)) (h1 : ¬ ((30 : Int) ≤ a0)) (r0 : -2147483648 ≤ a0 ∧ a0 < 2147483648) : ((1 : Int) = 1 ∧ 0 ≤ a0 ∧ a0 < 30) ∨ ((1 : Int) = 0 ∧ (a0 < 0 ∨ 30 ≤ a0)) := by omega
abbrev rm_X10_isKey : Room := { frames := 0, cells := 0, slots := 0, locals := 0 }
set_option maxHeartbeats 4000000 in
set_option maxRecDepth 100000 in
theorem c_X10_isKey (l : Launch) (E : XE) (K : Nat → Nat) (F : Nat → Nat → Nat) (G : XG) (h0 : Heap) (p0 : Int32)  : Met l yX10_isKey (xw yX10_isKey cX10_isKey 1 (some .boolean)) rm_X10_isKey (va_Pc [.int p0] (XPh E K F G h0)) (XQ E (fun v (u : Unit) => ∃ r : Int32, v = .int r ∧ (r = 0 ∨ r = 1) ∧ ((r.toInt = 1 ∧ 0 ≤ p0.toInt ∧ p0.toInt < 30) ∨ (r.toInt = 0 ∧ (p0.toInt < 0 ∨ 30 ≤ p0.toInt)))) (fun _ H => H = h0)) 0 0 (xA E) := by
  refine x_enter (by decide) (Nat.le_of_ble_eq_true rfl) ?_
  intro p e s m args below meth c Q S hr hlk hnm hQ hP ls hl
  obtain ⟨⟨hz, hK, hT⟩, hh⟩ := hP
  obtain ⟨hx, hb, -, -, -⟩ := id S
  have hS : va_S (xA E) s.heap s.heap [] := va_S.rf
  have hl : lv_has ls 1 [(0, .int p0)] := hl
  refine lv_iload_n hx hb dX10_isKey_0 rfl (lv_at hl 0 rfl) ?_
  refine xi_zlt (tgt := 14) hx hb (rfl : Int32.toInt p0 = p0.toInt) dX10_isKey_1 (by decide) (fun c1 => ?_) (fun c1 => ?_)
  · refine lv_iconst (v := 0) hx hb dX10_isKey_14 (by decide) ?_
    exact x_rz hx hb hr (xnz (Or.inl rfl)) hlk hQ (Nat.le_of_ble_eq_true rfl) (Nat.le_of_ble_eq_true rfl) hS dX10_isKey_15 () ⟨_, rfl, (Or.inl rfl), (z_X10_isKey_1 p0.toInt c1 (xr p0))⟩ hh
  · refine lv_iload_n hx hb dX10_isKey_4 rfl (lv_at hl 0 rfl) ?_
    refine lv_bipush (v := 30) hx hb dX10_isKey_5 (by decide) ?_
    refine xi_cge (tgt := 14) hx hb (rfl : Int32.toInt p0 = p0.toInt) ((by decide) : Int32.toInt 30 = (30 : Int)) dX10_isKey_7 (by decide) (fun c2 => ?_) (fun c2 => ?_)
    · refine lv_iconst (v := 0) hx hb dX10_isKey_14 (by decide) ?_
      exact x_rz hx hb hr (xnz (Or.inl rfl)) hlk hQ (Nat.le_of_ble_eq_true rfl) (Nat.le_of_ble_eq_true rfl) hS dX10_isKey_15 () ⟨_, rfl, (Or.inl rfl), (z_X10_isKey_2 p0.toInt c1 c2 (xr p0))⟩ hh
    · refine lv_iconst (v := 1) hx hb dX10_isKey_10 (by decide) ?_
      refine lv_goto (tgt := 15) hx hb dX10_isKey_11 (by decide) ?_
      exact x_rz hx hb hr (xnz (Or.inr rfl)) hlk hQ (Nat.le_of_ble_eq_true rfl) (Nat.le_of_ble_eq_true rfl) hS dX10_isKey_15 () ⟨_, rfl, (Or.inr rfl), (z_X10_isKey_3 p0.toInt c1 c2 (xr p0))⟩ hh

theorem z_X10_isColumn_1 (a0 : Int) (h0 : a0 < 0) (r0 : -2147483648 ≤ a0 ∧ a0 < 2147483648) : ((0 : Int) = 1 ∧ 0 ≤ a0 ∧ a0 < 3) ∨ ((0 : Int) = 0 ∧ (a0 < 0 ∨ 3 ≤ a0)) := by omega
theorem z_X10_isColumn_2 (a0 : Int) (h0 : ¬ (a0 < 0)) (h1 : (3 : Int) ≤ a0) (r0 : -2147483648 ≤ a0 ∧ a0 < 2147483648) : ((0 : Int) = 1 ∧ 0 ≤ a0 ∧ a0 < 3) ∨ ((0 : Int) = 0 ∧ (a0 < 0 ∨ 3 ≤ a0)) := by omega
theorem z_X10_isColumn_3 (a0 : Int) (h0 : ¬ (a0 < 0)) (h1 : ¬ ((3 : Int) ≤ a0)) (r0 : -2147483648 ≤ a0 ∧ a0 < 2147483648) : ((1 : Int) = 1 ∧ 0 ≤ a0 ∧ a0 < 3) ∨ ((1 : Int) = 0 ∧ (a0 < 0 ∨ 3 ≤ a0)) := by omega
abbrev rm_X10_isColumn : Room := { frames := 0, cells := 0, slots := 0, locals := 0 }
set_option maxHeartbeats 4000000 in
set_option maxRecDepth 100000 in
theorem c_X10_isColumn (l : Launch) (E : XE) (K : Nat → Nat) (F : Nat → Nat → Nat) (G : XG) (h0 : Heap) (p0 : Int32)  : Met l yX10_isColumn (xw yX10_isColumn cX10_isColumn 1 (some .boolean)) rm_X10_isColumn (va_Pc [.int p0] (XPh E K F G h0)) (XQ E (fun v (u : Unit) => ∃ r : Int32, v = .int r ∧ (r = 0 ∨ r = 1) ∧ ((r.toInt = 1 ∧ 0 ≤ p0.toInt ∧ p0.toInt < 3) ∨ (r.toInt = 0 ∧ (p0.toInt < 0 ∨ 3 ≤ p0.toInt)))) (fun _ H => H = h0)) 0 0 (xA E) := by
  refine x_enter (by decide) (Nat.le_of_ble_eq_true rfl) ?_
  intro p e s m args below meth c Q S hr hlk hnm hQ hP ls hl
  obtain ⟨⟨hz, hK, hT⟩, hh⟩ := hP
  obtain ⟨hx, hb, -, -, -⟩ := id S
  have hS : va_S (xA E) s.heap s.heap [] := va_S.rf
  have hl : lv_has ls 1 [(0, .int p0)] := hl
  refine lv_iload_n hx hb dX10_isColumn_0 rfl (lv_at hl 0 rfl) ?_
  refine xi_zlt (tgt := 13) hx hb (rfl : Int32.toInt p0 = p0.toInt) dX10_isColumn_1 (by decide) (fun c1 => ?_) (fun c1 => ?_)
  · refine lv_iconst (v := 0) hx hb dX10_isColumn_13 (by decide) ?_
    exact x_rz hx hb hr (xnz (Or.inl rfl)) hlk hQ (Nat.le_of_ble_eq_true rfl) (Nat.le_of_ble_eq_true rfl) hS dX10_isColumn_14 () ⟨_, rfl, (Or.inl rfl), (z_X10_isColumn_1 p0.toInt c1 (xr p0))⟩ hh
  · refine lv_iload_n hx hb dX10_isColumn_4 rfl (lv_at hl 0 rfl) ?_
    refine lv_iconst (v := 3) hx hb dX10_isColumn_5 (by decide) ?_
    refine xi_cge (tgt := 13) hx hb (rfl : Int32.toInt p0 = p0.toInt) ((by decide) : Int32.toInt 3 = (3 : Int)) dX10_isColumn_6 (by decide) (fun c2 => ?_) (fun c2 => ?_)
    · refine lv_iconst (v := 0) hx hb dX10_isColumn_13 (by decide) ?_
      exact x_rz hx hb hr (xnz (Or.inl rfl)) hlk hQ (Nat.le_of_ble_eq_true rfl) (Nat.le_of_ble_eq_true rfl) hS dX10_isColumn_14 () ⟨_, rfl, (Or.inl rfl), (z_X10_isColumn_2 p0.toInt c1 c2 (xr p0))⟩ hh
    · refine lv_iconst (v := 1) hx hb dX10_isColumn_9 (by decide) ?_
      refine lv_goto (tgt := 14) hx hb dX10_isColumn_10 (by decide) ?_
      exact x_rz hx hb hr (xnz (Or.inr rfl)) hlk hQ (Nat.le_of_ble_eq_true rfl) (Nat.le_of_ble_eq_true rfl) hS dX10_isColumn_14 () ⟨_, rfl, (Or.inr rfl), (z_X10_isColumn_3 p0.toInt c1 c2 (xr p0))⟩ hh

theorem z_X10_isSubjectValue_1 (a0 : Int) (h0 : a0 < (-99 : Int)) (r0 : -2147483648 ≤ a0 ∧ a0 < 2147483648) : ((0 : Int) = 1 ∧ (-99) ≤ a0 ∧ a0 < 100) ∨ ((0 : Int) = 0 ∧ (a0 < (-99) ∨ 100 ≤ a0)) := by omega
theorem z_X10_isSubjectValue_2 (a0 : Int) (h0 : ¬ (a0 < (-99 : Int))) (h1 : (99 : Int) < a0) (r0 : -2147483648 ≤ a0 ∧ a0 < 2147483648) : ((0 : Int) = 1 ∧ (-99) ≤ a0 ∧ a0 < 100) ∨ ((0 : Int) = 0 ∧ (a0 < (-99) ∨ 100 ≤ a0)) := by omega
theorem z_X10_isSubjectValue_3 (a0 : Int) (h0 : ¬ (a0 < (-99 : Int))) (h1 : ¬ ((99 : Int) < a0)) (r0 : -2147483648 ≤ a0 ∧ a0 < 2147483648) : ((1 : Int) = 1 ∧ (-99) ≤ a0 ∧ a0 < 100) ∨ ((1 : Int) = 0 ∧ (a0 < (-99) ∨ 100 ≤ a0)) := by omega
abbrev rm_X10_isSubjectValue : Room := { frames := 0, cells := 0, slots := 0, locals := 0 }
set_option maxHeartbeats 4000000 in
set_option maxRecDepth 100000 in
theorem c_X10_isSubjectValue (l : Launch) (E : XE) (K : Nat → Nat) (F : Nat → Nat → Nat) (G : XG) (h0 : Heap) (p0 : Int32)  : Met l yX10_isSubjectValue (xw yX10_isSubjectValue cX10_isSubjectValue 1 (some .boolean)) rm_X10_isSubjectValue (va_Pc [.int p0] (XPh E K F G h0)) (XQ E (fun v (u : Unit) => ∃ r : Int32, v = .int r ∧ (r = 0 ∨ r = 1) ∧ ((r.toInt = 1 ∧ (-99) ≤ p0.toInt ∧ p0.toInt < 100) ∨ (r.toInt = 0 ∧ (p0.toInt < (-99) ∨ 100 ≤ p0.toInt)))) (fun _ H => H = h0)) 0 0 (xA E) := by
  refine x_enter (by decide) (Nat.le_of_ble_eq_true rfl) ?_
  intro p e s m args below meth c Q S hr hlk hnm hQ hP ls hl
  obtain ⟨⟨hz, hK, hT⟩, hh⟩ := hP
  obtain ⟨hx, hb, -, -, -⟩ := id S
  have hS : va_S (xA E) s.heap s.heap [] := va_S.rf
  have hl : lv_has ls 1 [(0, .int p0)] := hl
  refine lv_iload_n hx hb dX10_isSubjectValue_0 rfl (lv_at hl 0 rfl) ?_
  refine lv_bipush (v := (-99)) hx hb dX10_isSubjectValue_1 (by decide) ?_
  refine xi_clt (tgt := 16) hx hb (rfl : Int32.toInt p0 = p0.toInt) ((by decide) : Int32.toInt (-99) = (-99 : Int)) dX10_isSubjectValue_3 (by decide) (fun c1 => ?_) (fun c1 => ?_)
  · refine lv_iconst (v := 0) hx hb dX10_isSubjectValue_16 (by decide) ?_
    exact x_rz hx hb hr (xnz (Or.inl rfl)) hlk hQ (Nat.le_of_ble_eq_true rfl) (Nat.le_of_ble_eq_true rfl) hS dX10_isSubjectValue_17 () ⟨_, rfl, (Or.inl rfl), (z_X10_isSubjectValue_1 p0.toInt c1 (xr p0))⟩ hh
  · refine lv_iload_n hx hb dX10_isSubjectValue_6 rfl (lv_at hl 0 rfl) ?_
    refine lv_bipush (v := 99) hx hb dX10_isSubjectValue_7 (by decide) ?_
    refine xi_cgt (tgt := 16) hx hb (rfl : Int32.toInt p0 = p0.toInt) ((by decide) : Int32.toInt 99 = (99 : Int)) dX10_isSubjectValue_9 (by decide) (fun c2 => ?_) (fun c2 => ?_)
    · refine lv_iconst (v := 0) hx hb dX10_isSubjectValue_16 (by decide) ?_
      exact x_rz hx hb hr (xnz (Or.inl rfl)) hlk hQ (Nat.le_of_ble_eq_true rfl) (Nat.le_of_ble_eq_true rfl) hS dX10_isSubjectValue_17 () ⟨_, rfl, (Or.inl rfl), (z_X10_isSubjectValue_2 p0.toInt c1 c2 (xr p0))⟩ hh
    · refine lv_iconst (v := 1) hx hb dX10_isSubjectValue_12 (by decide) ?_
      refine lv_goto (tgt := 17) hx hb dX10_isSubjectValue_13 (by decide) ?_
      exact x_rz hx hb hr (xnz (Or.inr rfl)) hlk hQ (Nat.le_of_ble_eq_true rfl) (Nat.le_of_ble_eq_true rfl) hS dX10_isSubjectValue_17 () ⟨_, rfl, (Or.inr rfl), (z_X10_isSubjectValue_3 p0.toInt c1 c2 (xr p0))⟩ hh

abbrev rm_X10_isValue : Room := { frames := 1, cells := 0, slots := 0, locals := 20 }
set_option maxHeartbeats 4000000 in
set_option maxRecDepth 100000 in
theorem c_X10_isValue (l : Launch) (E : XE) (K : Nat → Nat) (F : Nat → Nat → Nat) (G : XG) (h0 : Heap) (p0 : Int32)  : Met l yX10_isValue (xw yX10_isValue cX10_isValue 1 (some .boolean)) rm_X10_isValue (va_Pc [.int p0] (XPh E K F G h0)) (XQ E (fun v (u : Unit) => ∃ r : Int32, v = .int r ∧ (r = 0 ∨ r = 1)) (fun _ H => H = h0)) 0 0 (xA E) := by
  refine x_enter (by decide) (Nat.le_of_ble_eq_true rfl) ?_
  intro p e s m args below meth c Q S hr hlk hnm hQ hP ls hl
  obtain ⟨⟨hz, hK, hT⟩, hh⟩ := hP
  obtain ⟨hx, hb, -, -, -⟩ := id S
  have hS : va_S (xA E) s.heap s.heap [] := va_S.rf
  have hl : lv_has ls 1 [(0, .int p0)] := hl
  refine lv_iload_n hx hb dX10_isValue_0 rfl (lv_at hl 0 rfl) ?_
  refine lv_sipush (v := (-1000)) hx hb dX10_isValue_1 (by decide) ?_
  have J14 : ∀ (locs : List Loc) (ls : Array Slot), TW E K F G [] s.heap → va_S (xA E) s.heap s.heap locs → lv_has ls 1 [] → W p l e rm_X10_isValue s m args below meth c s.heap locs 0 0 Q (F0 m 14 ls []) := by
    intro locs ls hT hS hl
    refine lv_iconst (v := 1) hx hb dX10_isValue_14 (by decide) ?_
    refine lv_goto (tgt := 19) hx hb dX10_isValue_15 (by decide) ?_
    exact x_rz hx hb hr (xnz (Or.inr rfl)) hlk hQ (Nat.le_of_ble_eq_true rfl) (Nat.le_of_ble_eq_true rfl) hS dX10_isValue_19 () ⟨_, rfl, (Or.inr rfl)⟩ hh
  refine xi_ceq (tgt := 14) hx hb (rfl : Int32.toInt p0 = p0.toInt) ((by decide) : Int32.toInt (-1000) = (-1000 : Int)) dX10_isValue_4 (by decide) (fun c1 => ?_) (fun c1 => ?_)
  · exact J14 _ _ hT.nil hS (lv_sub hl [] rfl)
  · refine lv_iload_n hx hb dX10_isValue_7 rfl (lv_at hl 0 rfl) ?_
    refine x_clp (x_runS (As := [.int p0]) (rest := []) S (c_X10_isSubjectValue l E K F G s.heap p0) ms_X10_isSubjectValue km_X10_371 rfl rfl ⟨Nat.le_of_ble_eq_true rfl, Nat.le_of_ble_eq_true rfl⟩ hK (fun _ => XPh.blind) (fun U hU hW => XPh.at hK hz hS hT hU hW) rfl hl.1 (Nat.le_of_ble_eq_true rfl) dX10_isValue_8 ⟨Nat.le_of_ble_eq_true rfl, Nat.le_of_ble_eq_true rfl⟩) hS ?_
    rintro _ _ locs ⟨x2, rfl, b3, t4⟩ hS
    have t4 : (x2.toInt = 1 ∧ (-99) ≤ p0.toInt ∧ p0.toInt < 100) ∨ (x2.toInt = 0 ∧ (p0.toInt < (-99) ∨ 100 ≤ p0.toInt)) := t4
    refine xi_zeq (tgt := 18) hx hb (rfl : Int32.toInt x2 = x2.toInt) dX10_isValue_11 (by decide) (fun c5 => ?_) (fun c5 => ?_)
    · refine lv_iconst (v := 0) hx hb dX10_isValue_18 (by decide) ?_
      exact x_rz hx hb hr (xnz (Or.inl rfl)) hlk hQ (Nat.le_of_ble_eq_true rfl) (Nat.le_of_ble_eq_true rfl) hS dX10_isValue_19 () ⟨_, rfl, (Or.inl rfl)⟩ hh
    · exact J14 _ _ hT.nil hS (lv_sub hl [] rfl)

abbrev rm_J6_bitCount_0f7a4 : Room := { frames := 0, cells := 0, slots := 0, locals := 0 }
set_option maxHeartbeats 4000000 in
set_option maxRecDepth 100000 in
theorem c_J6_bitCount_0f7a4 (l : Launch) (E : XE) (K : Nat → Nat) (F : Nat → Nat → Nat) (G : XG) (h0 : Heap) (p0 : Int32)  : Met l yJ6_bitCount_0f7a4 (xw yJ6_bitCount_0f7a4 cJ6_bitCount_0f7a4 1 (some .int)) rm_J6_bitCount_0f7a4 (va_Pc [.int p0] (XPh E K F G h0)) (XQ E (fun v (u : Unit) => ∃ r : Int32, v = .int r) (fun _ H => H = h0)) 0 0 (xA E) := by
  refine x_enter (by decide) (Nat.le_of_ble_eq_true rfl) ?_
  intro p e s m args below meth c Q S hr hlk hnm hQ hP ls hl
  obtain ⟨⟨hz, hK, hT⟩, hh⟩ := hP
  obtain ⟨hx, hb, -, -, -⟩ := id S
  have hS : va_S (xA E) s.heap s.heap [] := va_S.rf
  have hl : lv_has ls 1 [(0, .int p0)] := hl
  refine lv_iload_n hx hb dJ6_bitCount_0f7a4_0 rfl (lv_at hl 0 rfl) ?_
  refine lv_iload_n hx hb dJ6_bitCount_0f7a4_1 rfl (lv_at hl 0 rfl) ?_
  refine lv_iconst (v := 1) hx hb dJ6_bitCount_0f7a4_2 (by decide) ?_
  refine lv_iushr hx hb dJ6_bitCount_0f7a4_3 rfl (lv_topi (fun x1 _ => ?_))
  refine lv_ldcw (v := 1431655765) hx hb S.2.2.2.1 (S.2.2.2.2 _ (List.mem_cons_of_mem _ kc_J6_265)) dJ6_bitCount_0f7a4_4 ?_
  refine lv_iand hx hb dJ6_bitCount_0f7a4_7 (lv_topi (fun x2 _ => ?_))
  refine xi_isub hx hb (rfl : Int32.toInt p0 = p0.toInt) (rfl : Int32.toInt x2 = x2.toInt) dJ6_bitCount_0f7a4_8 (fun x3 t4 => ?_)
  refine lv_istore_n (lv' := [(0, .int x3)]) hx hb dJ6_bitCount_0f7a4_9 rfl hl (by decide) rfl (fun ls hl => ?_)
  refine lv_iload_n hx hb dJ6_bitCount_0f7a4_10 rfl (lv_at hl 0 rfl) ?_
  refine lv_ldcw (v := 858993459) hx hb S.2.2.2.1 (S.2.2.2.2 _ (List.mem_cons_of_mem _ kc_J6_266)) dJ6_bitCount_0f7a4_11 ?_
  refine lv_iand hx hb dJ6_bitCount_0f7a4_14 (lv_topi (fun x5 _ => ?_))
  refine lv_iload_n hx hb dJ6_bitCount_0f7a4_15 rfl (lv_at hl 0 rfl) ?_
  refine lv_iconst (v := 2) hx hb dJ6_bitCount_0f7a4_16 (by decide) ?_
  refine lv_iushr hx hb dJ6_bitCount_0f7a4_17 rfl (lv_topi (fun x6 _ => ?_))
  refine lv_ldcw (v := 858993459) hx hb S.2.2.2.1 (S.2.2.2.2 _ (List.mem_cons_of_mem _ kc_J6_266)) dJ6_bitCount_0f7a4_18 ?_
  refine lv_iand hx hb dJ6_bitCount_0f7a4_21 (lv_topi (fun x7 _ => ?_))
  refine xi_iadd hx hb (rfl : Int32.toInt x5 = x5.toInt) (rfl : Int32.toInt x7 = x7.toInt) dJ6_bitCount_0f7a4_22 (fun x8 t9 => ?_)
  refine lv_istore_n (lv' := [(0, .int x8)]) hx hb dJ6_bitCount_0f7a4_23 rfl hl (by decide) rfl (fun ls hl => ?_)
  refine lv_iload_n hx hb dJ6_bitCount_0f7a4_24 rfl (lv_at hl 0 rfl) ?_
  refine lv_iload_n hx hb dJ6_bitCount_0f7a4_25 rfl (lv_at hl 0 rfl) ?_
  refine lv_iconst (v := 4) hx hb dJ6_bitCount_0f7a4_26 (by decide) ?_
  refine lv_iushr hx hb dJ6_bitCount_0f7a4_27 rfl (lv_topi (fun x10 _ => ?_))
  refine xi_iadd hx hb (rfl : Int32.toInt x8 = x8.toInt) (rfl : Int32.toInt x10 = x10.toInt) dJ6_bitCount_0f7a4_28 (fun x11 t12 => ?_)
  refine lv_ldcw (v := 252645135) hx hb S.2.2.2.1 (S.2.2.2.2 _ (List.mem_cons_of_mem _ kc_J6_267)) dJ6_bitCount_0f7a4_29 ?_
  refine lv_iand hx hb dJ6_bitCount_0f7a4_32 (lv_topi (fun x13 _ => ?_))
  refine lv_istore_n (lv' := [(0, .int x13)]) hx hb dJ6_bitCount_0f7a4_33 rfl hl (by decide) rfl (fun ls hl => ?_)
  refine lv_iload_n hx hb dJ6_bitCount_0f7a4_34 rfl (lv_at hl 0 rfl) ?_
  refine lv_iload_n hx hb dJ6_bitCount_0f7a4_35 rfl (lv_at hl 0 rfl) ?_
  refine lv_bipush (v := 8) hx hb dJ6_bitCount_0f7a4_36 (by decide) ?_
  refine lv_iushr hx hb dJ6_bitCount_0f7a4_38 rfl (lv_topi (fun x14 _ => ?_))
  refine xi_iadd hx hb (rfl : Int32.toInt x13 = x13.toInt) (rfl : Int32.toInt x14 = x14.toInt) dJ6_bitCount_0f7a4_39 (fun x15 t16 => ?_)
  refine lv_istore_n (lv' := [(0, .int x15)]) hx hb dJ6_bitCount_0f7a4_40 rfl hl (by decide) rfl (fun ls hl => ?_)
  refine lv_iload_n hx hb dJ6_bitCount_0f7a4_41 rfl (lv_at hl 0 rfl) ?_
  refine lv_iload_n hx hb dJ6_bitCount_0f7a4_42 rfl (lv_at hl 0 rfl) ?_
  refine lv_bipush (v := 16) hx hb dJ6_bitCount_0f7a4_43 (by decide) ?_
  refine lv_iushr hx hb dJ6_bitCount_0f7a4_45 rfl (lv_topi (fun x17 _ => ?_))
  refine xi_iadd hx hb (rfl : Int32.toInt x15 = x15.toInt) (rfl : Int32.toInt x17 = x17.toInt) dJ6_bitCount_0f7a4_46 (fun x18 t19 => ?_)
  refine lv_istore_n (lv' := [(0, .int x18)]) hx hb dJ6_bitCount_0f7a4_47 rfl hl (by decide) rfl (fun ls hl => ?_)
  refine lv_iload_n hx hb dJ6_bitCount_0f7a4_48 rfl (lv_at hl 0 rfl) ?_
  refine lv_bipush (v := 63) hx hb dJ6_bitCount_0f7a4_49 (by decide) ?_
  refine lv_iand hx hb dJ6_bitCount_0f7a4_51 (lv_topi (fun x20 _ => ?_))
  exact x_ri hx hb hr hlk hQ (Nat.le_of_ble_eq_true rfl) (Nat.le_of_ble_eq_true rfl) hS dJ6_bitCount_0f7a4_52 () ⟨_, rfl⟩ hh

theorem z_X6_place_1 (a0 : Int) (a1 : Int) (a2 : Int) (a3 : Int) (a4 : Int) (h0 : a2 = a0 * (3 : Int) ∨ a0 * (3 : Int) < -2147483648 ∨ 2147483648 ≤ a0 * (3 : Int)) (h1 : a3 = a2 + a1 ∨ a2 + a1 < -2147483648 ∨ 2147483648 ≤ a2 + a1) (h2 : a4 = a3 * (30 : Int) ∨ a3 * (30 : Int) < -2147483648 ∨ 2147483648 ≤ a3 * (30 : Int)) (r0 : -2147483648 ≤ a0 ∧ a0 < 2147483648) (r1 : -2147483648 ≤ a1 ∧ a1 < 2147483648) (r2 : -2147483648 ≤ a2 ∧ a2 < 2147483648) (r3 : -2147483648 ≤ a3 ∧ a3 < 2147483648) (r4 : -2147483648 ≤ a4 ∧ a4 < 2147483648) : 0 ≤ a0 ∧ a0 < 3 ∧ 0 ≤ a1 ∧ a1 < 3 → a4 = (a0 * 3 + a1) * 30 := by omega
abbrev rm_X6_place : Room := { frames := 0, cells := 0, slots := 0, locals := 0 }
set_option maxHeartbeats 4000000 in
set_option maxRecDepth 100000 in
theorem c_X6_place (l : Launch) (E : XE) (K : Nat → Nat) (F : Nat → Nat → Nat) (G : XG) (h0 : Heap) (p0 : Int32) (p1 : Int32)  : Met l yX6_place (xw yX6_place cX6_place 2 (some .int)) rm_X6_place (va_Pc [.int p0, .int p1] (XPh E K F G h0)) (XQ E (fun v (u : Unit) => ∃ r : Int32, v = .int r ∧ (0 ≤ p0.toInt ∧ p0.toInt < 3 ∧ 0 ≤ p1.toInt ∧ p1.toInt < 3 → r.toInt = (p0.toInt * 3 + p1.toInt) * 30)) (fun _ H => H = h0)) 0 0 (xA E) := by
  refine x_enter (by decide) (Nat.le_of_ble_eq_true rfl) ?_
  intro p e s m args below meth c Q S hr hlk hnm hQ hP ls hl
  obtain ⟨⟨hz, hK, hT⟩, hh⟩ := hP
  obtain ⟨hx, hb, -, -, -⟩ := id S
  have hS : va_S (xA E) s.heap s.heap [] := va_S.rf
  have hl : lv_has ls 2 [(0, .int p0), (1, .int p1)] := hl
  refine lv_iload_n hx hb dX6_place_0 rfl (lv_at hl 0 rfl) ?_
  refine lv_iconst (v := 3) hx hb dX6_place_1 (by decide) ?_
  refine xi_imul hx hb (rfl : Int32.toInt p0 = p0.toInt) ((by decide) : Int32.toInt 3 = (3 : Int)) dX6_place_2 (fun x1 t2 => ?_)
  refine lv_iload_n hx hb dX6_place_3 rfl (lv_at hl 1 rfl) ?_
  refine xi_iadd hx hb (rfl : Int32.toInt x1 = x1.toInt) (rfl : Int32.toInt p1 = p1.toInt) dX6_place_4 (fun x3 t4 => ?_)
  refine lv_bipush (v := 30) hx hb dX6_place_5 (by decide) ?_
  refine xi_imul hx hb (rfl : Int32.toInt x3 = x3.toInt) ((by decide) : Int32.toInt 30 = (30 : Int)) dX6_place_7 (fun x5 t6 => ?_)
  exact x_ri hx hb hr hlk hQ (Nat.le_of_ble_eq_true rfl) (Nat.le_of_ble_eq_true rfl) hS dX6_place_8 () ⟨_, rfl, (z_X6_place_1 p0.toInt p1.toInt x1.toInt x3.toInt x5.toInt t2 t4 t6 (xr p0) (xr p1) (xr x1) (xr x3) (xr x5))⟩ hh

theorem z_X6_has_1 (a0 : Int) (a1 : Int) (a2 : Int) (h0 : (a2 = 1 ∧ 0 ≤ a0 ∧ a0 < 3) ∨ (a2 = 0 ∧ (a0 < 0 ∨ 3 ≤ a0))) (h1 : a2 = 0) (r0 : -2147483648 ≤ a0 ∧ a0 < 2147483648) (r1 : -2147483648 ≤ a1 ∧ a1 < 2147483648) (r2 : -2147483648 ≤ a2 ∧ a2 < 2147483648) : (0 : Int) = 0 ∨ ((0 : Int) = 1 ∧ 0 ≤ a0 ∧ a0 < 3 ∧ 0 ≤ a1 ∧ a1 < 30) := by omega
theorem z_X6_has_2 (a0 : Int) (a1 : Int) (a2 : Int) (a3 : Int) (h0 : (a2 = 1 ∧ 0 ≤ a0 ∧ a0 < 3) ∨ (a2 = 0 ∧ (a0 < 0 ∨ 3 ≤ a0))) (h1 : ¬ (a2 = 0)) (h2 : (a3 = 1 ∧ 0 ≤ a1 ∧ a1 < 30) ∨ (a3 = 0 ∧ (a1 < 0 ∨ 30 ≤ a1))) (h3 : a3 = 0) (r0 : -2147483648 ≤ a0 ∧ a0 < 2147483648) (r1 : -2147483648 ≤ a1 ∧ a1 < 2147483648) (r2 : -2147483648 ≤ a2 ∧ a2 < 2147483648) (r3 : -2147483648 ≤ a3 ∧ a3 < 2147483648) : (0 : Int) = 0 ∨ ((0 : Int) = 1 ∧ 0 ≤ a0 ∧ a0 < 3 ∧ 0 ≤ a1 ∧ a1 < 30) := by omega
theorem z_X6_has_3 (a0 : Int) (a1 : Int) (h0 : (a1 = 1 ∧ 0 ≤ a0 ∧ a0 < 3) ∨ (a1 = 0 ∧ (a0 < 0 ∨ 3 ≤ a0))) (h1 : ¬ (a1 = 0)) (r0 : -2147483648 ≤ a0 ∧ a0 < 2147483648) (r1 : -2147483648 ≤ a1 ∧ a1 < 2147483648) : 0 ≤ a0 ∧ a0 < ((3 : Nat) : Int) := by omega
theorem z_X6_has_4 (a0 : Int) (a1 : Int) (a2 : Int) (a3 : Int) (h0 : (a2 = 1 ∧ 0 ≤ a0 ∧ a0 < 3) ∨ (a2 = 0 ∧ (a0 < 0 ∨ 3 ≤ a0))) (h1 : ¬ (a2 = 0)) (h2 : (a3 = 1 ∧ 0 ≤ a1 ∧ a1 < 30) ∨ (a3 = 0 ∧ (a1 < 0 ∨ 30 ≤ a1))) (h3 : ¬ (a3 = 0)) (r0 : -2147483648 ≤ a0 ∧ a0 < 2147483648) (r1 : -2147483648 ≤ a1 ∧ a1 < 2147483648) (r2 : -2147483648 ≤ a2 ∧ a2 < 2147483648) (r3 : -2147483648 ≤ a3 ∧ a3 < 2147483648) : (0 : Int) = 0 ∨ ((0 : Int) = 1 ∧ 0 ≤ a0 ∧ a0 < 3 ∧ 0 ≤ a1 ∧ a1 < 30) := by omega
theorem z_X6_has_5 (a0 : Int) (a1 : Int) (a2 : Int) (a3 : Int) (h0 : (a2 = 1 ∧ 0 ≤ a0 ∧ a0 < 3) ∨ (a2 = 0 ∧ (a0 < 0 ∨ 3 ≤ a0))) (h1 : ¬ (a2 = 0)) (h2 : (a3 = 1 ∧ 0 ≤ a1 ∧ a1 < 30) ∨ (a3 = 0 ∧ (a1 < 0 ∨ 30 ≤ a1))) (h3 : ¬ (a3 = 0)) (r0 : -2147483648 ≤ a0 ∧ a0 < 2147483648) (r1 : -2147483648 ≤ a1 ∧ a1 < 2147483648) (r2 : -2147483648 ≤ a2 ∧ a2 < 2147483648) (r3 : -2147483648 ≤ a3 ∧ a3 < 2147483648) : (1 : Int) = 0 ∨ ((1 : Int) = 1 ∧ 0 ≤ a0 ∧ a0 < 3 ∧ 0 ≤ a1 ∧ a1 < 30) := by omega
abbrev rm_X6_has : Room := { frames := 1, cells := 0, slots := 0, locals := 20 }
set_option maxHeartbeats 4000000 in
set_option maxRecDepth 100000 in
theorem c_X6_has (l : Launch) (E : XE) (K : Nat → Nat) (F : Nat → Nat → Nat) (G : XG) (h0 : Heap) (a : Nat) (p0 : Int32) (p1 : Int32) (ha : K a = 8) : Met l yX6_has (xw yX6_has cX6_has 3 (some .boolean)) rm_X6_has (va_Pc [.ref a, .int p0, .int p1] (XPh E K F G h0)) (XQ E (fun v (u : Unit) => ∃ r : Int32, v = .int r ∧ (r = 0 ∨ r = 1) ∧ (r.toInt = 0 ∨ (r.toInt = 1 ∧ 0 ≤ p0.toInt ∧ p0.toInt < 3 ∧ 0 ≤ p1.toInt ∧ p1.toInt < 30))) (fun _ H => H = h0)) 0 0 (xA E) := by
  refine x_enter (by decide) (Nat.le_of_ble_eq_true rfl) ?_
  intro p e s m args below meth c Q S hr hlk hnm hQ hP ls hl
  obtain ⟨⟨hz, hK, hT⟩, hh⟩ := hP
  obtain ⟨hx, hb, -, -, -⟩ := id S
  have hS : va_S (xA E) s.heap s.heap [] := va_S.rf
  have hl : lv_has ls 3 [(0, .ref a), (1, .int p0), (2, .int p1)] := hl
  refine lv_iload_n hx hb dX6_has_0 rfl (lv_at hl 1 rfl) ?_
  refine x_clp (x_runSN (As := [.int p0]) (rest := []) S (c_X10_isTable l E K F G s.heap p0) ms_X10_isTable (by decide +kernel) rfl rfl ⟨Nat.le_of_ble_eq_true rfl, Nat.le_of_ble_eq_true rfl⟩ hK (fun _ => XPh.blind) (fun U hU hW => XPh.at hK hz hS hT hU hW) rfl hl.1 (Nat.le_of_ble_eq_true rfl) dX6_has_1 ⟨Nat.le_of_ble_eq_true rfl, Nat.le_of_ble_eq_true rfl⟩) hS ?_
  rintro _ _ locs ⟨x1, rfl, b2, t3⟩ hS
  have t3 : (x1.toInt = 1 ∧ 0 ≤ p0.toInt ∧ p0.toInt < 3) ∨ (x1.toInt = 0 ∧ (p0.toInt < 0 ∨ 3 ≤ p0.toInt)) := t3
  refine xi_zeq (tgt := 31) hx hb (rfl : Int32.toInt x1 = x1.toInt) dX6_has_4 (by decide) (fun c4 => ?_) (fun c4 => ?_)
  · refine lv_iconst (v := 0) hx hb dX6_has_31 (by decide) ?_
    exact x_rz hx hb hr (xnz (Or.inl rfl)) hlk hQ (Nat.le_of_ble_eq_true rfl) (Nat.le_of_ble_eq_true rfl) hS dX6_has_32 () ⟨_, rfl, (Or.inl rfl), (z_X6_has_1 p0.toInt p1.toInt x1.toInt t3 c4 (xr p0) (xr p1) (xr x1))⟩ hh
  · refine lv_iload_n hx hb dX6_has_7 rfl (lv_at hl 2 rfl) ?_
    refine x_clp (x_runSN (As := [.int p1]) (rest := []) S (c_X10_isKey l E K F G s.heap p1) ms_X10_isKey (by decide +kernel) rfl rfl ⟨Nat.le_of_ble_eq_true rfl, Nat.le_of_ble_eq_true rfl⟩ hK (fun _ => XPh.blind) (fun U hU hW => XPh.at hK hz hS hT hU hW) rfl hl.1 (Nat.le_of_ble_eq_true rfl) dX6_has_8 ⟨Nat.le_of_ble_eq_true rfl, Nat.le_of_ble_eq_true rfl⟩) hS ?_
    rintro _ _ locs ⟨x5, rfl, b6, t7⟩ hS
    have t7 : (x5.toInt = 1 ∧ 0 ≤ p1.toInt ∧ p1.toInt < 30) ∨ (x5.toInt = 0 ∧ (p1.toInt < 0 ∨ 30 ≤ p1.toInt)) := t7
    refine xi_zeq (tgt := 31) hx hb (rfl : Int32.toInt x5 = x5.toInt) dX6_has_11 (by decide) (fun c8 => ?_) (fun c8 => ?_)
    · refine lv_iconst (v := 0) hx hb dX6_has_31 (by decide) ?_
      exact x_rz hx hb hr (xnz (Or.inl rfl)) hlk hQ (Nat.le_of_ble_eq_true rfl) (Nat.le_of_ble_eq_true rfl) hS dX6_has_32 () ⟨_, rfl, (Or.inl rfl), (z_X6_has_2 p0.toInt p1.toInt x1.toInt x5.toInt t3 c4 t7 c8 (xr p0) (xr p1) (xr x1) (xr x5))⟩ hh
    · refine lv_aload_n hx hb dX6_has_14 rfl (lv_at hl 0 rfl) ?_
      refine gX6_1 S hK hT ha kf_X6_15 dX6_has_15 (fun hk9 => ?_)
      refine lv_iload_n hx hb dX6_has_18 rfl (lv_at hl 1 rfl) ?_
      refine al_0 S hK hT hk9 ar_21 (by decide) (z_X6_has_3 p0.toInt x1.toInt t3 c4 (xr p0) (xr x1)) dX6_has_19 (fun x10 o11 => ?_)
      refine lv_iload_n hx hb dX6_has_20 rfl (lv_at hl 2 rfl) ?_
      refine lv_ishr hx hb dX6_has_21 (lv_topi (fun x12 _ => ?_))
      refine lv_iconst (v := 1) hx hb dX6_has_22 (by decide) ?_
      refine lv_iand hx hb dX6_has_23 (lv_topi (fun x13 _ => ?_))
      refine xi_zeq (tgt := 31) hx hb (rfl : Int32.toInt x13 = x13.toInt) dX6_has_24 (by decide) (fun c14 => ?_) (fun c14 => ?_)
      · refine lv_iconst (v := 0) hx hb dX6_has_31 (by decide) ?_
        exact x_rz hx hb hr (xnz (Or.inl rfl)) hlk hQ (Nat.le_of_ble_eq_true rfl) (Nat.le_of_ble_eq_true rfl) hS dX6_has_32 () ⟨_, rfl, (Or.inl rfl), (z_X6_has_4 p0.toInt p1.toInt x1.toInt x5.toInt t3 c4 t7 c8 (xr p0) (xr p1) (xr x1) (xr x5))⟩ hh
      · refine lv_iconst (v := 1) hx hb dX6_has_27 (by decide) ?_
        refine lv_goto (tgt := 32) hx hb dX6_has_28 (by decide) ?_
        exact x_rz hx hb hr (xnz (Or.inr rfl)) hlk hQ (Nat.le_of_ble_eq_true rfl) (Nat.le_of_ble_eq_true rfl) hS dX6_has_32 () ⟨_, rfl, (Or.inr rfl), (z_X6_has_5 p0.toInt p1.toInt x1.toInt x5.toInt t3 c4 t7 c8 (xr p0) (xr p1) (xr x1) (xr x5))⟩ hh

theorem z_X6_cell_1 (a0 : Int) (a1 : Int) (a2 : Int) (a3 : Int) (a4 : Int) (a5 : Int) (a6 : Int) (a7 : Int) (h0 : (a3 = 1 ∧ 0 ≤ a0 ∧ a0 < 3) ∨ (a3 = 0 ∧ (a0 < 0 ∨ 3 ≤ a0))) (h1 : ¬ (a3 = 0)) (h2 : (a6 = 1 ∧ 0 ≤ a1 ∧ a1 < 30) ∨ (a6 = 0 ∧ (a1 < 0 ∨ 30 ≤ a1))) (h3 : ¬ (a6 = 0)) (h4 : (a7 = 1 ∧ 0 ≤ a2 ∧ a2 < 3) ∨ (a7 = 0 ∧ (a2 < 0 ∨ 3 ≤ a2))) (h5 : ¬ (a7 = 0)) (h6 : 0 ≤ a0 ∧ a0 < 3 ∧ 0 ≤ a2 ∧ a2 < 3 → a4 = (a0 * 3 + a2) * 30) (h7 : a5 = a4 + a1 ∨ a4 + a1 < -2147483648 ∨ 2147483648 ≤ a4 + a1) (r0 : -2147483648 ≤ a0 ∧ a0 < 2147483648) (r1 : -2147483648 ≤ a1 ∧ a1 < 2147483648) (r2 : -2147483648 ≤ a2 ∧ a2 < 2147483648) (r3 : -2147483648 ≤ a3 ∧ a3 < 2147483648) (r4 : -2147483648 ≤ a4 ∧ a4 < 2147483648) (r5 : -2147483648 ≤ a5 ∧ a5 < 2147483648) (r6 : -2147483648 ≤ a6 ∧ a6 < 2147483648) (r7 : -2147483648 ≤ a7 ∧ a7 < 2147483648) : 0 ≤ a5 ∧ a5 < ((270 : Nat) : Int) := by omega
abbrev rm_X6_cell : Room := { frames := 1, cells := 0, slots := 0, locals := 21 }
set_option maxHeartbeats 4000000 in
set_option maxRecDepth 100000 in
theorem c_X6_cell (l : Launch) (E : XE) (K : Nat → Nat) (F : Nat → Nat → Nat) (G : XG) (h0 : Heap) (a : Nat) (p0 : Int32) (p1 : Int32) (p2 : Int32) (ha : K a = 8) : Met l yX6_cell (xw yX6_cell cX6_cell 4 (some .int)) rm_X6_cell (va_Pc [.ref a, .int p0, .int p1, .int p2] (XPh E K F G h0)) (XQ E (fun v (u : Unit) => ∃ r : Int32, v = .int r) (fun _ H => H = h0)) 0 0 (xA E) := by
  refine x_enter (by decide) (Nat.le_of_ble_eq_true rfl) ?_
  intro p e s m args below meth c Q S hr hlk hnm hQ hP ls hl
  obtain ⟨⟨hz, hK, hT⟩, hh⟩ := hP
  obtain ⟨hx, hb, -, -, -⟩ := id S
  have hS : va_S (xA E) s.heap s.heap [] := va_S.rf
  have hl : lv_has ls 4 [(0, .ref a), (1, .int p0), (2, .int p1), (3, .int p2)] := hl
  refine lv_iload_n hx hb dX6_cell_0 rfl (lv_at hl 1 rfl) ?_
  refine x_clp (x_runSN (As := [.int p0]) (rest := []) S (c_X10_isTable l E K F G s.heap p0) ms_X10_isTable (by decide +kernel) rfl rfl ⟨Nat.le_of_ble_eq_true rfl, Nat.le_of_ble_eq_true rfl⟩ hK (fun _ => XPh.blind) (fun U hU hW => XPh.at hK hz hS hT hU hW) rfl hl.1 (Nat.le_of_ble_eq_true rfl) dX6_cell_1 ⟨Nat.le_of_ble_eq_true rfl, Nat.le_of_ble_eq_true rfl⟩) hS ?_
  rintro _ _ locs ⟨x1, rfl, b2, t3⟩ hS
  have t3 : (x1.toInt = 1 ∧ 0 ≤ p0.toInt ∧ p0.toInt < 3) ∨ (x1.toInt = 0 ∧ (p0.toInt < 0 ∨ 3 ≤ p0.toInt)) := t3
  refine xi_zeq (tgt := 36) hx hb (rfl : Int32.toInt x1 = x1.toInt) dX6_cell_4 (by decide) (fun c4 => ?_) (fun c4 => ?_)
  · refine lv_sipush (v := (-2000)) hx hb dX6_cell_36 (by decide) ?_
    exact x_ri hx hb hr hlk hQ (Nat.le_of_ble_eq_true rfl) (Nat.le_of_ble_eq_true rfl) hS dX6_cell_39 () ⟨_, rfl⟩ hh
  · refine lv_iload_n hx hb dX6_cell_7 rfl (lv_at hl 2 rfl) ?_
    refine x_clp (x_runSN (As := [.int p1]) (rest := []) S (c_X10_isKey l E K F G s.heap p1) ms_X10_isKey (by decide +kernel) rfl rfl ⟨Nat.le_of_ble_eq_true rfl, Nat.le_of_ble_eq_true rfl⟩ hK (fun _ => XPh.blind) (fun U hU hW => XPh.at hK hz hS hT hU hW) rfl hl.1 (Nat.le_of_ble_eq_true rfl) dX6_cell_8 ⟨Nat.le_of_ble_eq_true rfl, Nat.le_of_ble_eq_true rfl⟩) hS ?_
    rintro _ _ locs ⟨x5, rfl, b6, t7⟩ hS
    have t7 : (x5.toInt = 1 ∧ 0 ≤ p1.toInt ∧ p1.toInt < 30) ∨ (x5.toInt = 0 ∧ (p1.toInt < 0 ∨ 30 ≤ p1.toInt)) := t7
    refine xi_zeq (tgt := 36) hx hb (rfl : Int32.toInt x5 = x5.toInt) dX6_cell_11 (by decide) (fun c8 => ?_) (fun c8 => ?_)
    · refine lv_sipush (v := (-2000)) hx hb dX6_cell_36 (by decide) ?_
      exact x_ri hx hb hr hlk hQ (Nat.le_of_ble_eq_true rfl) (Nat.le_of_ble_eq_true rfl) hS dX6_cell_39 () ⟨_, rfl⟩ hh
    · refine lv_iload_n hx hb dX6_cell_14 rfl (lv_at hl 3 rfl) ?_
      refine x_clp (x_runSN (As := [.int p2]) (rest := []) S (c_X10_isColumn l E K F G s.heap p2) ms_X10_isColumn (by decide +kernel) rfl rfl ⟨Nat.le_of_ble_eq_true rfl, Nat.le_of_ble_eq_true rfl⟩ hK (fun _ => XPh.blind) (fun U hU hW => XPh.at hK hz hS hT hU hW) rfl hl.1 (Nat.le_of_ble_eq_true rfl) dX6_cell_15 ⟨Nat.le_of_ble_eq_true rfl, Nat.le_of_ble_eq_true rfl⟩) hS ?_
      rintro _ _ locs ⟨x9, rfl, b10, t11⟩ hS
      have t11 : (x9.toInt = 1 ∧ 0 ≤ p2.toInt ∧ p2.toInt < 3) ∨ (x9.toInt = 0 ∧ (p2.toInt < 0 ∨ 3 ≤ p2.toInt)) := t11
      refine xi_zeq (tgt := 36) hx hb (rfl : Int32.toInt x9 = x9.toInt) dX6_cell_18 (by decide) (fun c12 => ?_) (fun c12 => ?_)
      · refine lv_sipush (v := (-2000)) hx hb dX6_cell_36 (by decide) ?_
        exact x_ri hx hb hr hlk hQ (Nat.le_of_ble_eq_true rfl) (Nat.le_of_ble_eq_true rfl) hS dX6_cell_39 () ⟨_, rfl⟩ hh
      · refine lv_aload_n hx hb dX6_cell_21 rfl (lv_at hl 0 rfl) ?_
        refine gX6_0 S hK hT ha kf_X6_9 dX6_cell_22 (fun hk13 => ?_)
        refine lv_iload_n hx hb dX6_cell_25 rfl (lv_at hl 1 rfl) ?_
        refine lv_iload_n hx hb dX6_cell_26 rfl (lv_at hl 3 rfl) ?_
        refine x_clp (x_runS (As := [.int p0, .int p2]) (rest := [.ref (F a 0)]) S (c_X6_place l E K F G s.heap p0 p2) ms_X6_place km_X6_34 rfl rfl ⟨Nat.le_of_ble_eq_true rfl, Nat.le_of_ble_eq_true rfl⟩ hK (fun _ => XPh.blind) (fun U hU hW => XPh.at hK hz hS hT hU hW) rfl hl.1 (Nat.le_of_ble_eq_true rfl) dX6_cell_27 ⟨Nat.le_of_ble_eq_true rfl, Nat.le_of_ble_eq_true rfl⟩) hS ?_
        rintro _ _ locs ⟨x14, rfl, t15⟩ hS
        have t15 : 0 ≤ p0.toInt ∧ p0.toInt < 3 ∧ 0 ≤ p2.toInt ∧ p2.toInt < 3 → x14.toInt = (p0.toInt * 3 + p2.toInt) * 30 := t15
        refine lv_iload_n hx hb dX6_cell_30 rfl (lv_at hl 2 rfl) ?_
        refine xi_iadd hx hb (rfl : Int32.toInt x14 = x14.toInt) (rfl : Int32.toInt p1 = p1.toInt) dX6_cell_31 (fun x16 t17 => ?_)
        refine al_0 S hK hT hk13 ar_20 (by decide) (z_X6_cell_1 p0.toInt p1.toInt p2.toInt x1.toInt x14.toInt x16.toInt x5.toInt x9.toInt t3 c4 t7 c8 t11 c12 t15 t17 (xr p0) (xr p1) (xr p2) (xr x1) (xr x14) (xr x16) (xr x5) (xr x9)) dX6_cell_32 (fun x18 o19 => ?_)
        refine lv_goto (tgt := 39) hx hb dX6_cell_33 (by decide) ?_
        exact x_ri hx hb hr hlk hQ (Nat.le_of_ble_eq_true rfl) (Nat.le_of_ble_eq_true rfl) hS dX6_cell_39 () ⟨_, rfl⟩ hh

theorem z_X6_keyBits_1 (a0 : Int) (a1 : Int) (h0 : (a1 = 1 ∧ 0 ≤ a0 ∧ a0 < 3) ∨ (a1 = 0 ∧ (a0 < 0 ∨ 3 ≤ a0))) (h1 : ¬ (a1 = 0)) (r0 : -2147483648 ≤ a0 ∧ a0 < 2147483648) (r1 : -2147483648 ≤ a1 ∧ a1 < 2147483648) : 0 ≤ a0 ∧ a0 < ((3 : Nat) : Int) := by omega
abbrev rm_X6_keyBits : Room := { frames := 1, cells := 0, slots := 0, locals := 20 }
set_option maxHeartbeats 4000000 in
set_option maxRecDepth 100000 in
theorem c_X6_keyBits (l : Launch) (E : XE) (K : Nat → Nat) (F : Nat → Nat → Nat) (G : XG) (h0 : Heap) (a : Nat) (p0 : Int32) (ha : K a = 8) : Met l yX6_keyBits (xw yX6_keyBits cX6_keyBits 2 (some .int)) rm_X6_keyBits (va_Pc [.ref a, .int p0] (XPh E K F G h0)) (XQ E (fun v (u : Unit) => ∃ r : Int32, v = .int r) (fun _ H => H = h0)) 0 0 (xA E) := by
  refine x_enter (by decide) (Nat.le_of_ble_eq_true rfl) ?_
  intro p e s m args below meth c Q S hr hlk hnm hQ hP ls hl
  obtain ⟨⟨hz, hK, hT⟩, hh⟩ := hP
  obtain ⟨hx, hb, -, -, -⟩ := id S
  have hS : va_S (xA E) s.heap s.heap [] := va_S.rf
  have hl : lv_has ls 2 [(0, .ref a), (1, .int p0)] := hl
  refine lv_iload_n hx hb dX6_keyBits_0 rfl (lv_at hl 1 rfl) ?_
  refine x_clp (x_runSN (As := [.int p0]) (rest := []) S (c_X10_isTable l E K F G s.heap p0) ms_X10_isTable (by decide +kernel) rfl rfl ⟨Nat.le_of_ble_eq_true rfl, Nat.le_of_ble_eq_true rfl⟩ hK (fun _ => XPh.blind) (fun U hU hW => XPh.at hK hz hS hT hU hW) rfl hl.1 (Nat.le_of_ble_eq_true rfl) dX6_keyBits_1 ⟨Nat.le_of_ble_eq_true rfl, Nat.le_of_ble_eq_true rfl⟩) hS ?_
  rintro _ _ locs ⟨x1, rfl, b2, t3⟩ hS
  have t3 : (x1.toInt = 1 ∧ 0 ≤ p0.toInt ∧ p0.toInt < 3) ∨ (x1.toInt = 0 ∧ (p0.toInt < 0 ∨ 3 ≤ p0.toInt)) := t3
  refine xi_zeq (tgt := 16) hx hb (rfl : Int32.toInt x1 = x1.toInt) dX6_keyBits_4 (by decide) (fun c4 => ?_) (fun c4 => ?_)
  · refine lv_iconst (v := 0) hx hb dX6_keyBits_16 (by decide) ?_
    exact x_ri hx hb hr hlk hQ (Nat.le_of_ble_eq_true rfl) (Nat.le_of_ble_eq_true rfl) hS dX6_keyBits_17 () ⟨_, rfl⟩ hh
  · refine lv_aload_n hx hb dX6_keyBits_7 rfl (lv_at hl 0 rfl) ?_
    refine gX6_1 S hK hT ha kf_X6_15 dX6_keyBits_8 (fun hk5 => ?_)
    refine lv_iload_n hx hb dX6_keyBits_11 rfl (lv_at hl 1 rfl) ?_
    refine al_0 S hK hT hk5 ar_21 (by decide) (z_X6_keyBits_1 p0.toInt x1.toInt t3 c4 (xr p0) (xr x1)) dX6_keyBits_12 (fun x6 o7 => ?_)
    refine lv_goto (tgt := 17) hx hb dX6_keyBits_13 (by decide) ?_
    exact x_ri hx hb hr hlk hQ (Nat.le_of_ble_eq_true rfl) (Nat.le_of_ble_eq_true rfl) hS dX6_keyBits_17 () ⟨_, rfl⟩ hh

abbrev rm_X6_size : Room := { frames := 2, cells := 0, slots := 0, locals := 41 }
set_option maxHeartbeats 4000000 in
set_option maxRecDepth 100000 in
theorem c_X6_size (l : Launch) (E : XE) (K : Nat → Nat) (F : Nat → Nat → Nat) (G : XG) (h0 : Heap) (a : Nat) (p0 : Int32) (ha : K a = 8) : Met l yX6_size (xw yX6_size cX6_size 2 (some .int)) rm_X6_size (va_Pc [.ref a, .int p0] (XPh E K F G h0)) (XQ E (fun v (u : Unit) => ∃ r : Int32, v = .int r) (fun _ H => H = h0)) 0 0 (xA E) := by
  refine x_enter (by decide) (Nat.le_of_ble_eq_true rfl) ?_
  intro p e s m args below meth c Q S hr hlk hnm hQ hP ls hl
  obtain ⟨⟨hz, hK, hT⟩, hh⟩ := hP
  obtain ⟨hx, hb, -, -, -⟩ := id S
  have hS : va_S (xA E) s.heap s.heap [] := va_S.rf
  have hl : lv_has ls 2 [(0, .ref a), (1, .int p0)] := hl
  refine lv_aload_n hx hb dX6_size_0 rfl (lv_at hl 0 rfl) ?_
  refine lv_iload_n hx hb dX6_size_1 rfl (lv_at hl 1 rfl) ?_
  refine x_clp (x_runV (b := a) (As := [.int p0]) (rest := []) S (c_X6_keyBits l E K F G s.heap a p0 ha) mv_X6_keyBits km_X6_38 rfl rfl ⟨Nat.le_of_ble_eq_true rfl, Nat.le_of_ble_eq_true rfl⟩ (rc_8 hK hT ha) hK (fun _ => XPh.blind) (fun U hU hW => XPh.at hK hz hS hT hU hW) rfl hl.1 (Nat.le_of_ble_eq_true rfl) dX6_size_2 ⟨Nat.le_of_ble_eq_true rfl, Nat.le_of_ble_eq_true rfl⟩) hS ?_
  rintro _ _ locs ⟨x1, rfl⟩ hS
  refine x_clp (x_runS (As := [.int x1]) (rest := []) S (c_J6_bitCount_0f7a4 l E K F G s.heap x1) ms_J6_bitCount_0f7a4 km_X6_42 rfl rfl ⟨Nat.le_of_ble_eq_true rfl, Nat.le_of_ble_eq_true rfl⟩ hK (fun _ => XPh.blind) (fun U hU hW => XPh.at hK hz hS hT hU hW) rfl hl.1 (Nat.le_of_ble_eq_true rfl) dX6_size_5 ⟨Nat.le_of_ble_eq_true rfl, Nat.le_of_ble_eq_true rfl⟩) hS ?_
  rintro _ _ locs ⟨x2, rfl⟩ hS
  exact x_ri hx hb hr hlk hQ (Nat.le_of_ble_eq_true rfl) (Nat.le_of_ble_eq_true rfl) hS dX6_size_8 () ⟨_, rfl⟩ hh

theorem z_X6_total_1 (a0 : Int) (h0 : (0 : Int) ≤ a0) (r0 : -2147483648 ≤ a0 ∧ a0 < 2147483648) : ¬ (2147483648 - a0 < ((0 : Nat) : Int)) := by omega
theorem z_X6_total_2 (a0 : Int) (a1 : Int) (a2 : Nat) (h0 : (0 : Int) ≤ a1) (h1 : 2147483648 - a1 < ((a2 + 1 : Nat) : Int)) (h2 : ¬ ((3 : Int) ≤ a1)) (h3 : a0 = a1 + 1 ∨ a1 + 1 < -2147483648 ∨ 2147483648 ≤ a1 + 1) (r0 : -2147483648 ≤ a0 ∧ a0 < 2147483648) (r1 : -2147483648 ≤ a1 ∧ a1 < 2147483648) : (0 : Int) ≤ a0 := by omega
theorem z_X6_total_3 (a0 : Int) (a1 : Int) (a2 : Nat) (h0 : (0 : Int) ≤ a1) (h1 : 2147483648 - a1 < ((a2 + 1 : Nat) : Int)) (h2 : ¬ ((3 : Int) ≤ a1)) (h3 : a0 = a1 + 1 ∨ a1 + 1 < -2147483648 ∨ 2147483648 ≤ a1 + 1) (r0 : -2147483648 ≤ a0 ∧ a0 < 2147483648) (r1 : -2147483648 ≤ a1 ∧ a1 < 2147483648) : 2147483648 - a0 < ((a2 : Nat) : Int) := by omega
abbrev rm_X6_total : Room := { frames := 3, cells := 0, slots := 0, locals := 62 }
set_option maxHeartbeats 4000000 in
set_option maxRecDepth 100000 in
theorem c_X6_total (l : Launch) (E : XE) (K : Nat → Nat) (F : Nat → Nat → Nat) (G : XG) (h0 : Heap) (a : Nat) (ha : K a = 8) : Met l yX6_total (xw yX6_total cX6_total 3 (some .int)) rm_X6_total (va_Pc [.ref a] (XPh E K F G h0)) (XQ E (fun v (u : Unit) => ∃ r : Int32, v = .int r) (fun _ H => H = h0)) 0 0 (xA E) := by
  refine x_enter (by decide) (Nat.le_of_ble_eq_true rfl) ?_
  intro p e s m args below meth c Q S hr hlk hnm hQ hP ls hl
  obtain ⟨⟨hz, hK, hT⟩, hh⟩ := hP
  obtain ⟨hx, hb, -, -, -⟩ := id S
  have hS : va_S (xA E) s.heap s.heap [] := va_S.rf
  have hl : lv_has ls 3 [(0, .ref a)] := hl
  refine lv_iconst (v := 0) hx hb dX6_total_0 (by decide) ?_
  refine lv_istore_n (lv' := [(1, .int 0), (0, .ref a)]) hx hb dX6_total_1 rfl hl (by decide) rfl (fun ls hl => ?_)
  refine lv_iconst (v := 0) hx hb dX6_total_2 (by decide) ?_
  refine lv_istore_n (lv' := [(2, .int 0), (1, .int 0), (0, .ref a)]) hx hb dX6_total_3 rfl hl (by decide) rfl (fun ls hl => ?_)
  have L4 : ∀ (N3 : Nat) (x1 : Int32) (x2 : Int32) (locs : List Loc) (ls : Array Slot), (0 : Int) ≤ x2.toInt → 2147483648 - x2.toInt < ((N3 : Nat) : Int) → TW E K F G [] s.heap → va_S (xA E) s.heap s.heap locs → lv_has ls 3 [(0, .ref a), (1, .int x1), (2, .int x2)] → W p l e rm_X6_total s m args below meth c s.heap locs 0 0 Q (F0 m 4 ls []) := by
    intro N3
    induction N3 with
    | zero =>
      intro x1 x2 locs ls hf4 hm5
      exact absurd hm5 (z_X6_total_1 x2.toInt hf4 (xr x2))
    | succ N3 ih6 =>
      intro x1 x2 locs ls hf4 hm5 hT hS hl
      refine lv_iload_n hx hb dX6_total_4 rfl (lv_at hl 2 rfl) ?_
      refine lv_iconst (v := 3) hx hb dX6_total_5 (by decide) ?_
      refine xi_cge (tgt := 23) hx hb (rfl : Int32.toInt x2 = x2.toInt) ((by decide) : Int32.toInt 3 = (3 : Int)) dX6_total_6 (by decide) (fun c7 => ?_) (fun c7 => ?_)
      · refine lv_iload_n hx hb dX6_total_23 rfl (lv_at hl 1 rfl) ?_
        exact x_ri hx hb hr hlk hQ (Nat.le_of_ble_eq_true rfl) (Nat.le_of_ble_eq_true rfl) hS dX6_total_24 () ⟨_, rfl⟩ hh
      · refine lv_iload_n hx hb dX6_total_9 rfl (lv_at hl 1 rfl) ?_
        refine lv_aload_n hx hb dX6_total_10 rfl (lv_at hl 0 rfl) ?_
        refine lv_iload_n hx hb dX6_total_11 rfl (lv_at hl 2 rfl) ?_
        refine x_clp (x_runV (b := a) (As := [.int x2]) (rest := [.int x1]) S (c_X6_size l E K F G s.heap a x2 ha) mv_X6_size km_X6_47 rfl rfl ⟨Nat.le_of_ble_eq_true rfl, Nat.le_of_ble_eq_true rfl⟩ (rc_8 hK hT ha) hK (fun _ => XPh.blind) (fun U hU hW => XPh.at hK hz hS hT hU hW) rfl hl.1 (Nat.le_of_ble_eq_true rfl) dX6_total_12 ⟨Nat.le_of_ble_eq_true rfl, Nat.le_of_ble_eq_true rfl⟩) hS ?_
        rintro _ _ locs ⟨x8, rfl⟩ hS
        refine xi_iadd hx hb (rfl : Int32.toInt x1 = x1.toInt) (rfl : Int32.toInt x8 = x8.toInt) dX6_total_15 (fun x9 t10 => ?_)
        refine lv_istore_n (lv' := [(1, .int x9), (0, .ref a), (2, .int x2)]) hx hb dX6_total_16 rfl hl (by decide) rfl (fun ls hl => ?_)
        refine xi_iinc (n := 1) (lv' := fun z9 => [(2, .int z9), (1, .int x9), (0, .ref a)]) (k := 2) hx hb (rfl : Int32.toInt x2 = x2.toInt) (by decide) dX6_total_17 hl rfl (by decide) (fun _ => rfl) (fun x11 ls t12 hl => ?_)
        have hl : lv_has ls 3 [(2, .int x11), (1, .int x9), (0, .ref a)] := hl
        refine lv_goto (tgt := 4) hx hb dX6_total_20 (by decide) ?_
        exact ih6 x9 x11 _ _ (z_X6_total_2 x11.toInt x2.toInt N3 hf4 hm5 c7 t12 (xr x11) (xr x2)) (z_X6_total_3 x11.toInt x2.toInt N3 hf4 hm5 c7 t12 (xr x11) (xr x2)) hT.nil hS (lv_sub hl [2, 1, 0] rfl)
  exact L4 4294967297 0 0 _ _ (by decide) (by decide) hT.nil hS (lv_sub hl [2, 1, 0] rfl)

theorem z_X6_fill_1 (a0 : Int) (h0 : (0 : Int) ≤ a0) (r0 : -2147483648 ≤ a0 ∧ a0 < 2147483648) : ¬ (2147483648 - a0 < ((0 : Nat) : Int)) := by omega
theorem z_X6_fill_2 (a0 : Int) (a1 : Int) (a2 : Int) (a3 : Int) (a4 : Int) (a5 : Nat) (h0 : 0 ≤ a0 ∧ a0 < 3) (h1 : 0 ≤ a1 ∧ a1 < 30) (h2 : (0 : Int) ≤ a2) (h3 : 2147483648 - a2 < ((a5 + 1 : Nat) : Int)) (h4 : ¬ ((3 : Int) ≤ a2)) (h5 : 0 ≤ a0 ∧ a0 < 3 ∧ 0 ≤ a2 ∧ a2 < 3 → a4 = (a0 * 3 + a2) * 30) (h6 : a3 = a4 + a1 ∨ a4 + a1 < -2147483648 ∨ 2147483648 ≤ a4 + a1) (r0 : -2147483648 ≤ a0 ∧ a0 < 2147483648) (r1 : -2147483648 ≤ a1 ∧ a1 < 2147483648) (r2 : -2147483648 ≤ a2 ∧ a2 < 2147483648) (r3 : -2147483648 ≤ a3 ∧ a3 < 2147483648) (r4 : -2147483648 ≤ a4 ∧ a4 < 2147483648) : 0 ≤ a3 ∧ a3 < ((270 : Nat) : Int) := by omega
theorem z_X6_fill_3 (a0 : Int) (a1 : Int) (a2 : Int) (a3 : Int) (a4 : Int) (a5 : Int) (a6 : Nat) (h0 : 0 ≤ a0 ∧ a0 < 3) (h1 : 0 ≤ a1 ∧ a1 < 30) (h2 : (0 : Int) ≤ a2) (h3 : 2147483648 - a2 < ((a6 + 1 : Nat) : Int)) (h4 : ¬ ((3 : Int) ≤ a2)) (h5 : 0 ≤ a0 ∧ a0 < 3 ∧ 0 ≤ a2 ∧ a2 < 3 → a5 = (a0 * 3 + a2) * 30) (h6 : a3 = a5 + a1 ∨ a5 + a1 < -2147483648 ∨ 2147483648 ≤ a5 + a1) (h7 : a4 = a2 + 1 ∨ a2 + 1 < -2147483648 ∨ 2147483648 ≤ a2 + 1) (r0 : -2147483648 ≤ a0 ∧ a0 < 2147483648) (r1 : -2147483648 ≤ a1 ∧ a1 < 2147483648) (r2 : -2147483648 ≤ a2 ∧ a2 < 2147483648) (r3 : -2147483648 ≤ a3 ∧ a3 < 2147483648) (r4 : -2147483648 ≤ a4 ∧ a4 < 2147483648) (r5 : -2147483648 ≤ a5 ∧ a5 < 2147483648) : (0 : Int) ≤ a4 := by omega
theorem z_X6_fill_4 (a0 : Int) (a1 : Int) (a2 : Int) (a3 : Int) (a4 : Int) (a5 : Int) (a6 : Nat) (h0 : 0 ≤ a0 ∧ a0 < 3) (h1 : 0 ≤ a1 ∧ a1 < 30) (h2 : (0 : Int) ≤ a2) (h3 : 2147483648 - a2 < ((a6 + 1 : Nat) : Int)) (h4 : ¬ ((3 : Int) ≤ a2)) (h5 : 0 ≤ a0 ∧ a0 < 3 ∧ 0 ≤ a2 ∧ a2 < 3 → a5 = (a0 * 3 + a2) * 30) (h6 : a3 = a5 + a1 ∨ a5 + a1 < -2147483648 ∨ 2147483648 ≤ a5 + a1) (h7 : a4 = a2 + 1 ∨ a2 + 1 < -2147483648 ∨ 2147483648 ≤ a2 + 1) (r0 : -2147483648 ≤ a0 ∧ a0 < 2147483648) (r1 : -2147483648 ≤ a1 ∧ a1 < 2147483648) (r2 : -2147483648 ≤ a2 ∧ a2 < 2147483648) (r3 : -2147483648 ≤ a3 ∧ a3 < 2147483648) (r4 : -2147483648 ≤ a4 ∧ a4 < 2147483648) (r5 : -2147483648 ≤ a5 ∧ a5 < 2147483648) : 2147483648 - a4 < ((a6 : Nat) : Int) := by omega
abbrev rm_X6_fill : Room := { frames := 1, cells := 0, slots := 0, locals := 21 }
set_option maxHeartbeats 4000000 in
set_option maxRecDepth 100000 in
theorem c_X6_fill (l : Launch) (E : XE) (K : Nat → Nat) (F : Nat → Nat → Nat) (G : XG) (a : Nat) (p0 : Int32) (p1 : Int32) (p2 : Int32) (ha : K a = 8) (e0 : 0 ≤ p0.toInt ∧ p0.toInt < 3) (e1 : 0 ≤ p1.toInt ∧ p1.toInt < 30) : Met l yX6_fill (xw yX6_fill cX6_fill 5 none) rm_X6_fill (va_Pc [.ref a, .int p0, .int p1, .int p2] (XP E K F G)) (XQv E (fun (u : Unit) => True) (fun _ H => TW E K F G [] H)) 0 0 (xA E) := by
  refine x_enter (by decide) (Nat.le_of_ble_eq_true rfl) ?_
  intro p e s m args below meth c Q S hr hlk hnm hQ hP ls hl
  obtain ⟨hz, hK, hT⟩ := hP
  obtain ⟨hx, hb, -, -, -⟩ := id S
  obtain ⟨H, hT, hS, hgo⟩ : ∃ H : Heap, TW E K F G [] H ∧ va_S (xA E) s.heap H [] ∧ H = s.heap := ⟨_, hT, va_S.rf, rfl⟩
  rw [← hgo]
  have hl : lv_has ls 5 [(0, .ref a), (1, .int p0), (2, .int p1), (3, .int p2)] := hl
  refine lv_iconst (v := 0) hx hb dX6_fill_0 (by decide) ?_
  refine lv_istore (lv' := [(4, .int 0), (0, .ref a), (1, .int p0), (2, .int p1), (3, .int p2)]) hx hb dX6_fill_1 hl (by decide) rfl (fun ls hl => ?_)
  have L3 : ∀ (N2 : Nat) (x1 : Int32) (H : Heap) (locs : List Loc) (ls : Array Slot), (0 : Int) ≤ x1.toInt → 2147483648 - x1.toInt < ((N2 : Nat) : Int) → TW E K F G [] H → va_S (xA E) s.heap H locs → lv_has ls 5 [(0, .ref a), (1, .int p0), (2, .int p1), (3, .int p2), (4, .int x1)] → W p l e rm_X6_fill s m args below meth c H locs 0 0 Q (F0 m 3 ls []) := by
    intro N2
    induction N2 with
    | zero =>
      intro x1 H locs ls hf3 hm4
      exact absurd hm4 (z_X6_fill_1 x1.toInt hf3 (xr x1))
    | succ N2 ih5 =>
      intro x1 H locs ls hf3 hm4 hT hS hl
      refine lv_iload hx hb dX6_fill_3 (lv_at hl 4 rfl) ?_
      refine lv_iconst (v := 3) hx hb dX6_fill_5 (by decide) ?_
      refine xi_cge (tgt := 29) hx hb (rfl : Int32.toInt x1 = x1.toInt) ((by decide) : Int32.toInt 3 = (3 : Int)) dX6_fill_6 (by decide) (fun c6 => ?_) (fun c6 => ?_)
      · exact x_rv hx hb hr hlk hQ (Nat.le_of_ble_eq_true rfl) (Nat.le_of_ble_eq_true rfl) hS dX6_fill_29 () trivial hT.nil
      · refine lv_aload_n hx hb dX6_fill_9 rfl (lv_at hl 0 rfl) ?_
        refine gX6_0 S hK hT ha kf_X6_9 dX6_fill_10 (fun hk7 => ?_)
        refine lv_iload_n hx hb dX6_fill_13 rfl (lv_at hl 1 rfl) ?_
        refine lv_iload hx hb dX6_fill_14 (lv_at hl 4 rfl) ?_
        refine x_clp (x_runS (As := [.int p0, .int x1]) (rest := [.ref (F a 0)]) S (c_X6_place l E K F G H p0 x1) ms_X6_place km_X6_34 rfl rfl ⟨Nat.le_of_ble_eq_true rfl, Nat.le_of_ble_eq_true rfl⟩ hK (fun _ => XPh.blind) (fun U hU hW => XPh.at hK hz hS hT hU hW) rfl hl.1 (Nat.le_of_ble_eq_true rfl) dX6_fill_16 ⟨Nat.le_of_ble_eq_true rfl, Nat.le_of_ble_eq_true rfl⟩) hS ?_
        rintro _ _ locs ⟨x8, rfl, t9⟩ hS
        have t9 : 0 ≤ p0.toInt ∧ p0.toInt < 3 ∧ 0 ≤ x1.toInt ∧ x1.toInt < 3 → x8.toInt = (p0.toInt * 3 + x1.toInt) * 30 := t9
        refine lv_iload_n hx hb dX6_fill_19 rfl (lv_at hl 2 rfl) ?_
        refine xi_iadd hx hb (rfl : Int32.toInt x8 = x8.toInt) (rfl : Int32.toInt p1 = p1.toInt) dX6_fill_20 (fun x10 t11 => ?_)
        refine lv_iload_n hx hb dX6_fill_21 rfl (lv_at hl 3 rfl) ?_
        refine as_0 S hK hT hS hk7 ar_20 aw_20 (by decide) (z_X6_fill_2 p0.toInt p1.toInt x1.toInt x10.toInt x8.toInt N2 e0 e1 hf3 hm4 c6 t9 t11 (xr p0) (xr p1) (xr x1) (xr x10) (xr x8)) dX6_fill_22 (fun H locs hT hS => ?_)
        refine xi_iinc (n := 1) (lv' := fun z9 => [(4, .int z9), (0, .ref a), (1, .int p0), (2, .int p1), (3, .int p2)]) (k := 4) hx hb (rfl : Int32.toInt x1 = x1.toInt) (by decide) dX6_fill_23 hl rfl (by decide) (fun _ => rfl) (fun x12 ls t13 hl => ?_)
        have hl : lv_has ls 5 [(4, .int x12), (0, .ref a), (1, .int p0), (2, .int p1), (3, .int p2)] := hl
        refine lv_goto (tgt := 3) hx hb dX6_fill_26 (by decide) ?_
        exact ih5 x12 _ _ _ (z_X6_fill_3 p0.toInt p1.toInt x1.toInt x10.toInt x12.toInt x8.toInt N2 e0 e1 hf3 hm4 c6 t9 t11 t13 (xr p0) (xr p1) (xr x1) (xr x10) (xr x12) (xr x8)) (z_X6_fill_4 p0.toInt p1.toInt x1.toInt x10.toInt x12.toInt x8.toInt N2 e0 e1 hf3 hm4 c6 t9 t11 t13 (xr p0) (xr p1) (xr x1) (xr x10) (xr x12) (xr x8)) hT.nil hS (lv_sub hl [1, 2, 3, 4, 0] rfl)
  exact L3 4294967297 0 _ _ _ (by decide) (by decide) hT.nil hS (lv_sub hl [1, 2, 3, 4, 0] rfl)

theorem z_X6_add_1 (a0 : Int) (a1 : Int) (h0 : (a1 = 1 ∧ 0 ≤ a0 ∧ a0 < 3) ∨ (a1 = 0 ∧ (a0 < 0 ∨ 3 ≤ a0))) (h1 : ¬ (a1 = 0)) (r0 : -2147483648 ≤ a0 ∧ a0 < 2147483648) (r1 : -2147483648 ≤ a1 ∧ a1 < 2147483648) : 0 ≤ a0 ∧ a0 < ((3 : Nat) : Int) := by omega
theorem z_X6_add_2 (a0 : Int) (a1 : Int) (h0 : (a1 = 1 ∧ 0 ≤ a0 ∧ a0 < 3) ∨ (a1 = 0 ∧ (a0 < 0 ∨ 3 ≤ a0))) (h1 : ¬ (a1 = 0)) (r0 : -2147483648 ≤ a0 ∧ a0 < 2147483648) (r1 : -2147483648 ≤ a1 ∧ a1 < 2147483648) : 0 ≤ a0 ∧ a0 < ((3 : Nat) : Int) := by omega
theorem z_X6_add_3 (a0 : Int) (a1 : Int) (h0 : (a1 = 1 ∧ 0 ≤ a0 ∧ a0 < 3) ∨ (a1 = 0 ∧ (a0 < 0 ∨ 3 ≤ a0))) (h1 : ¬ (a1 = 0)) (r0 : -2147483648 ≤ a0 ∧ a0 < 2147483648) (r1 : -2147483648 ≤ a1 ∧ a1 < 2147483648) : 0 ≤ a0 ∧ a0 < 3 := by omega
theorem z_X6_add_4 (a0 : Int) (a1 : Int) (h0 : (a1 = 1 ∧ 0 ≤ a0 ∧ a0 < 30) ∨ (a1 = 0 ∧ (a0 < 0 ∨ 30 ≤ a0))) (h1 : ¬ (a1 = 0)) (r0 : -2147483648 ≤ a0 ∧ a0 < 2147483648) (r1 : -2147483648 ≤ a1 ∧ a1 < 2147483648) : 0 ≤ a0 ∧ a0 < 30 := by omega
abbrev rm_X6_add : Room := { frames := 2, cells := 0, slots := 0, locals := 45 }
set_option maxHeartbeats 4000000 in
set_option maxRecDepth 100000 in
theorem c_X6_add (l : Launch) (E : XE) (K : Nat → Nat) (F : Nat → Nat → Nat) (G : XG) (a : Nat) (p0 : Int32) (p1 : Int32) (ha : K a = 8) : Met l yX6_add (xw yX6_add cX6_add 3 none) rm_X6_add (va_Pc [.ref a, .int p0, .int p1] (XP E K F G)) (XQv E (fun (u : Unit) => True) (fun _ H => TW E K F G [] H)) 0 0 (xA E) := by
  refine x_enter (by decide) (Nat.le_of_ble_eq_true rfl) ?_
  intro p e s m args below meth c Q S hr hlk hnm hQ hP ls hl
  obtain ⟨hz, hK, hT⟩ := hP
  obtain ⟨hx, hb, -, -, -⟩ := id S
  obtain ⟨H, hT, hS, hgo⟩ : ∃ H : Heap, TW E K F G [] H ∧ va_S (xA E) s.heap H [] ∧ H = s.heap := ⟨_, hT, va_S.rf, rfl⟩
  rw [← hgo]
  have hl : lv_has ls 3 [(0, .ref a), (1, .int p0), (2, .int p1)] := hl
  refine lv_iload_n hx hb dX6_add_0 rfl (lv_at hl 1 rfl) ?_
  refine x_clp (x_runSN (As := [.int p0]) (rest := []) S (c_X10_isTable l E K F G H p0) ms_X10_isTable (by decide +kernel) rfl rfl ⟨Nat.le_of_ble_eq_true rfl, Nat.le_of_ble_eq_true rfl⟩ hK (fun _ => XPh.blind) (fun U hU hW => XPh.at hK hz hS hT hU hW) rfl hl.1 (Nat.le_of_ble_eq_true rfl) dX6_add_1 ⟨Nat.le_of_ble_eq_true rfl, Nat.le_of_ble_eq_true rfl⟩) hS ?_
  rintro _ _ locs ⟨x1, rfl, b2, t3⟩ hS
  have t3 : (x1.toInt = 1 ∧ 0 ≤ p0.toInt ∧ p0.toInt < 3) ∨ (x1.toInt = 0 ∧ (p0.toInt < 0 ∨ 3 ≤ p0.toInt)) := t3
  refine xi_zeq (tgt := 35) hx hb (rfl : Int32.toInt x1 = x1.toInt) dX6_add_4 (by decide) (fun c4 => ?_) (fun c4 => ?_)
  · exact x_rv hx hb hr hlk hQ (Nat.le_of_ble_eq_true rfl) (Nat.le_of_ble_eq_true rfl) hS dX6_add_35 () trivial hT.nil
  · refine lv_iload_n hx hb dX6_add_7 rfl (lv_at hl 2 rfl) ?_
    refine x_clp (x_runSN (As := [.int p1]) (rest := []) S (c_X10_isKey l E K F G H p1) ms_X10_isKey (by decide +kernel) rfl rfl ⟨Nat.le_of_ble_eq_true rfl, Nat.le_of_ble_eq_true rfl⟩ hK (fun _ => XPh.blind) (fun U hU hW => XPh.at hK hz hS hT hU hW) rfl hl.1 (Nat.le_of_ble_eq_true rfl) dX6_add_8 ⟨Nat.le_of_ble_eq_true rfl, Nat.le_of_ble_eq_true rfl⟩) hS ?_
    rintro _ _ locs ⟨x5, rfl, b6, t7⟩ hS
    have t7 : (x5.toInt = 1 ∧ 0 ≤ p1.toInt ∧ p1.toInt < 30) ∨ (x5.toInt = 0 ∧ (p1.toInt < 0 ∨ 30 ≤ p1.toInt)) := t7
    refine xi_zeq (tgt := 35) hx hb (rfl : Int32.toInt x5 = x5.toInt) dX6_add_11 (by decide) (fun c8 => ?_) (fun c8 => ?_)
    · exact x_rv hx hb hr hlk hQ (Nat.le_of_ble_eq_true rfl) (Nat.le_of_ble_eq_true rfl) hS dX6_add_35 () trivial hT.nil
    · refine lv_aload_n hx hb dX6_add_14 rfl (lv_at hl 0 rfl) ?_
      refine gX6_1 S hK hT ha kf_X6_15 dX6_add_15 (fun hk9 => ?_)
      refine lv_iload_n hx hb dX6_add_18 rfl (lv_at hl 1 rfl) ?_
      refine lv_dup2_11 hx hb dX6_add_19 rfl rfl ?_
      refine al_0 S hK hT hk9 ar_21 (by decide) (z_X6_add_1 p0.toInt x1.toInt t3 c4 (xr p0) (xr x1)) dX6_add_20 (fun x10 o11 => ?_)
      refine lv_iconst (v := 1) hx hb dX6_add_21 (by decide) ?_
      refine lv_iload_n hx hb dX6_add_22 rfl (lv_at hl 2 rfl) ?_
      refine lv_ishl hx hb dX6_add_23 (lv_topi (fun x12 _ => ?_))
      refine lv_ior hx hb dX6_add_24 (lv_topi (fun x13 _ => ?_))
      refine as_0 S hK hT hS hk9 ar_21 aw_21 (by decide) (z_X6_add_2 p0.toInt x1.toInt t3 c4 (xr p0) (xr x1)) dX6_add_25 (fun H locs hT hS => ?_)
      refine lv_aload_n hx hb dX6_add_26 rfl (lv_at hl 0 rfl) ?_
      refine lv_iload_n hx hb dX6_add_27 rfl (lv_at hl 1 rfl) ?_
      refine lv_iload_n hx hb dX6_add_28 rfl (lv_at hl 2 rfl) ?_
      refine lv_sipush (v := (-1000)) hx hb dX6_add_29 (by decide) ?_
      refine x_cv0 (x_runV (b := a) (As := [.int p0, .int p1, .int (-1000)]) (rest := []) S (c_X6_fill l E K F G a p0 p1 (-1000) ha (z_X6_add_3 p0.toInt x1.toInt t3 c4 (xr p0) (xr x1)) (z_X6_add_4 p1.toInt x5.toInt t7 c8 (xr p1) (xr x5))) mv_X6_fill km_X6_50 rfl rfl ⟨Nat.le_of_ble_eq_true rfl, Nat.le_of_ble_eq_true rfl⟩ (rc_8 hK hT ha) hK (fun _ => XP.blind) (fun U hU hW => XP.at hK hz hS hT hU hW) rfl hl.1 (Nat.le_of_ble_eq_true rfl) dX6_add_32 ⟨Nat.le_of_ble_eq_true rfl, Nat.le_of_ble_eq_true rfl⟩) hS ?_
      rintro _ H locs - hT hS
      exact x_rv hx hb hr hlk hQ (Nat.le_of_ble_eq_true rfl) (Nat.le_of_ble_eq_true rfl) hS dX6_add_35 () trivial hT.nil

theorem z_X6_remove_1 (a0 : Int) (a1 : Int) (h0 : (a1 = 1 ∧ 0 ≤ a0 ∧ a0 < 3) ∨ (a1 = 0 ∧ (a0 < 0 ∨ 3 ≤ a0))) (h1 : ¬ (a1 = 0)) (r0 : -2147483648 ≤ a0 ∧ a0 < 2147483648) (r1 : -2147483648 ≤ a1 ∧ a1 < 2147483648) : 0 ≤ a0 ∧ a0 < ((3 : Nat) : Int) := by omega
theorem z_X6_remove_2 (a0 : Int) (a1 : Int) (h0 : (a1 = 1 ∧ 0 ≤ a0 ∧ a0 < 3) ∨ (a1 = 0 ∧ (a0 < 0 ∨ 3 ≤ a0))) (h1 : ¬ (a1 = 0)) (r0 : -2147483648 ≤ a0 ∧ a0 < 2147483648) (r1 : -2147483648 ≤ a1 ∧ a1 < 2147483648) : 0 ≤ a0 ∧ a0 < ((3 : Nat) : Int) := by omega
theorem z_X6_remove_3 (a0 : Int) (a1 : Int) (h0 : (a1 = 1 ∧ 0 ≤ a0 ∧ a0 < 3) ∨ (a1 = 0 ∧ (a0 < 0 ∨ 3 ≤ a0))) (h1 : ¬ (a1 = 0)) (r0 : -2147483648 ≤ a0 ∧ a0 < 2147483648) (r1 : -2147483648 ≤ a1 ∧ a1 < 2147483648) : 0 ≤ a0 ∧ a0 < 3 := by omega
theorem z_X6_remove_4 (a0 : Int) (a1 : Int) (h0 : (a1 = 1 ∧ 0 ≤ a0 ∧ a0 < 30) ∨ (a1 = 0 ∧ (a0 < 0 ∨ 30 ≤ a0))) (h1 : ¬ (a1 = 0)) (r0 : -2147483648 ≤ a0 ∧ a0 < 2147483648) (r1 : -2147483648 ≤ a1 ∧ a1 < 2147483648) : 0 ≤ a0 ∧ a0 < 30 := by omega
abbrev rm_X6_remove : Room := { frames := 2, cells := 0, slots := 0, locals := 45 }
set_option maxHeartbeats 4000000 in
set_option maxRecDepth 100000 in
theorem c_X6_remove (l : Launch) (E : XE) (K : Nat → Nat) (F : Nat → Nat → Nat) (G : XG) (a : Nat) (p0 : Int32) (p1 : Int32) (ha : K a = 8) : Met l yX6_remove (xw yX6_remove cX6_remove 3 none) rm_X6_remove (va_Pc [.ref a, .int p0, .int p1] (XP E K F G)) (XQv E (fun (u : Unit) => True) (fun _ H => TW E K F G [] H)) 0 0 (xA E) := by
  refine x_enter (by decide) (Nat.le_of_ble_eq_true rfl) ?_
  intro p e s m args below meth c Q S hr hlk hnm hQ hP ls hl
  obtain ⟨hz, hK, hT⟩ := hP
  obtain ⟨hx, hb, -, -, -⟩ := id S
  obtain ⟨H, hT, hS, hgo⟩ : ∃ H : Heap, TW E K F G [] H ∧ va_S (xA E) s.heap H [] ∧ H = s.heap := ⟨_, hT, va_S.rf, rfl⟩
  rw [← hgo]
  have hl : lv_has ls 3 [(0, .ref a), (1, .int p0), (2, .int p1)] := hl
  refine lv_iload_n hx hb dX6_remove_0 rfl (lv_at hl 1 rfl) ?_
  refine x_clp (x_runSN (As := [.int p0]) (rest := []) S (c_X10_isTable l E K F G H p0) ms_X10_isTable (by decide +kernel) rfl rfl ⟨Nat.le_of_ble_eq_true rfl, Nat.le_of_ble_eq_true rfl⟩ hK (fun _ => XPh.blind) (fun U hU hW => XPh.at hK hz hS hT hU hW) rfl hl.1 (Nat.le_of_ble_eq_true rfl) dX6_remove_1 ⟨Nat.le_of_ble_eq_true rfl, Nat.le_of_ble_eq_true rfl⟩) hS ?_
  rintro _ _ locs ⟨x1, rfl, b2, t3⟩ hS
  have t3 : (x1.toInt = 1 ∧ 0 ≤ p0.toInt ∧ p0.toInt < 3) ∨ (x1.toInt = 0 ∧ (p0.toInt < 0 ∨ 3 ≤ p0.toInt)) := t3
  refine xi_zeq (tgt := 37) hx hb (rfl : Int32.toInt x1 = x1.toInt) dX6_remove_4 (by decide) (fun c4 => ?_) (fun c4 => ?_)
  · exact x_rv hx hb hr hlk hQ (Nat.le_of_ble_eq_true rfl) (Nat.le_of_ble_eq_true rfl) hS dX6_remove_37 () trivial hT.nil
  · refine lv_iload_n hx hb dX6_remove_7 rfl (lv_at hl 2 rfl) ?_
    refine x_clp (x_runSN (As := [.int p1]) (rest := []) S (c_X10_isKey l E K F G H p1) ms_X10_isKey (by decide +kernel) rfl rfl ⟨Nat.le_of_ble_eq_true rfl, Nat.le_of_ble_eq_true rfl⟩ hK (fun _ => XPh.blind) (fun U hU hW => XPh.at hK hz hS hT hU hW) rfl hl.1 (Nat.le_of_ble_eq_true rfl) dX6_remove_8 ⟨Nat.le_of_ble_eq_true rfl, Nat.le_of_ble_eq_true rfl⟩) hS ?_
    rintro _ _ locs ⟨x5, rfl, b6, t7⟩ hS
    have t7 : (x5.toInt = 1 ∧ 0 ≤ p1.toInt ∧ p1.toInt < 30) ∨ (x5.toInt = 0 ∧ (p1.toInt < 0 ∨ 30 ≤ p1.toInt)) := t7
    refine xi_zeq (tgt := 37) hx hb (rfl : Int32.toInt x5 = x5.toInt) dX6_remove_11 (by decide) (fun c8 => ?_) (fun c8 => ?_)
    · exact x_rv hx hb hr hlk hQ (Nat.le_of_ble_eq_true rfl) (Nat.le_of_ble_eq_true rfl) hS dX6_remove_37 () trivial hT.nil
    · refine lv_aload_n hx hb dX6_remove_14 rfl (lv_at hl 0 rfl) ?_
      refine gX6_1 S hK hT ha kf_X6_15 dX6_remove_15 (fun hk9 => ?_)
      refine lv_iload_n hx hb dX6_remove_18 rfl (lv_at hl 1 rfl) ?_
      refine lv_dup2_11 hx hb dX6_remove_19 rfl rfl ?_
      refine al_0 S hK hT hk9 ar_21 (by decide) (z_X6_remove_1 p0.toInt x1.toInt t3 c4 (xr p0) (xr x1)) dX6_remove_20 (fun x10 o11 => ?_)
      refine lv_iconst (v := 1) hx hb dX6_remove_21 (by decide) ?_
      refine lv_iload_n hx hb dX6_remove_22 rfl (lv_at hl 2 rfl) ?_
      refine lv_ishl hx hb dX6_remove_23 (lv_topi (fun x12 _ => ?_))
      refine lv_iconst (v := (-1)) hx hb dX6_remove_24 (by decide) ?_
      refine lv_ixor hx hb dX6_remove_25 (lv_topi (fun x13 _ => ?_))
      refine lv_iand hx hb dX6_remove_26 (lv_topi (fun x14 _ => ?_))
      refine as_0 S hK hT hS hk9 ar_21 aw_21 (by decide) (z_X6_remove_2 p0.toInt x1.toInt t3 c4 (xr p0) (xr x1)) dX6_remove_27 (fun H locs hT hS => ?_)
      refine lv_aload_n hx hb dX6_remove_28 rfl (lv_at hl 0 rfl) ?_
      refine lv_iload_n hx hb dX6_remove_29 rfl (lv_at hl 1 rfl) ?_
      refine lv_iload_n hx hb dX6_remove_30 rfl (lv_at hl 2 rfl) ?_
      refine lv_sipush (v := (-2000)) hx hb dX6_remove_31 (by decide) ?_
      refine x_cv0 (x_runV (b := a) (As := [.int p0, .int p1, .int (-2000)]) (rest := []) S (c_X6_fill l E K F G a p0 p1 (-2000) ha (z_X6_remove_3 p0.toInt x1.toInt t3 c4 (xr p0) (xr x1)) (z_X6_remove_4 p1.toInt x5.toInt t7 c8 (xr p1) (xr x5))) mv_X6_fill km_X6_50 rfl rfl ⟨Nat.le_of_ble_eq_true rfl, Nat.le_of_ble_eq_true rfl⟩ (rc_8 hK hT ha) hK (fun _ => XP.blind) (fun U hU hW => XP.at hK hz hS hT hU hW) rfl hl.1 (Nat.le_of_ble_eq_true rfl) dX6_remove_34 ⟨Nat.le_of_ble_eq_true rfl, Nat.le_of_ble_eq_true rfl⟩) hS ?_
      rintro _ H locs - hT hS
      exact x_rv hx hb hr hlk hQ (Nat.le_of_ble_eq_true rfl) (Nat.le_of_ble_eq_true rfl) hS dX6_remove_37 () trivial hT.nil

theorem z_X6_change_1 (a0 : Int) (a1 : Int) (a2 : Int) (a3 : Int) (a4 : Int) (a5 : Int) (a6 : Int) (h0 : a3 = 0 ∨ (a3 = 1 ∧ 0 ≤ a0 ∧ a0 < 3 ∧ 0 ≤ a1 ∧ a1 < 30)) (h1 : ¬ (a3 = 0)) (h2 : (a6 = 1 ∧ 0 ≤ a2 ∧ a2 < 3) ∨ (a6 = 0 ∧ (a2 < 0 ∨ 3 ≤ a2))) (h3 : ¬ (a6 = 0)) (h4 : 0 ≤ a0 ∧ a0 < 3 ∧ 0 ≤ a2 ∧ a2 < 3 → a4 = (a0 * 3 + a2) * 30) (h5 : a5 = a4 + a1 ∨ a4 + a1 < -2147483648 ∨ 2147483648 ≤ a4 + a1) (r0 : -2147483648 ≤ a0 ∧ a0 < 2147483648) (r1 : -2147483648 ≤ a1 ∧ a1 < 2147483648) (r2 : -2147483648 ≤ a2 ∧ a2 < 2147483648) (r3 : -2147483648 ≤ a3 ∧ a3 < 2147483648) (r4 : -2147483648 ≤ a4 ∧ a4 < 2147483648) (r5 : -2147483648 ≤ a5 ∧ a5 < 2147483648) (r6 : -2147483648 ≤ a6 ∧ a6 < 2147483648) : 0 ≤ a5 ∧ a5 < ((270 : Nat) : Int) := by omega
abbrev rm_X6_change : Room := { frames := 2, cells := 0, slots := 0, locals := 42 }
set_option maxHeartbeats 4000000 in
set_option maxRecDepth 100000 in
theorem c_X6_change (l : Launch) (E : XE) (K : Nat → Nat) (F : Nat → Nat → Nat) (G : XG) (a : Nat) (p0 : Int32) (p1 : Int32) (p2 : Int32) (p3 : Int32) (ha : K a = 8) : Met l yX6_change (xw yX6_change cX6_change 5 none) rm_X6_change (va_Pc [.ref a, .int p0, .int p1, .int p2, .int p3] (XP E K F G)) (XQv E (fun (u : Unit) => True) (fun _ H => TW E K F G [] H)) 0 0 (xA E) := by
  refine x_enter (by decide) (Nat.le_of_ble_eq_true rfl) ?_
  intro p e s m args below meth c Q S hr hlk hnm hQ hP ls hl
  obtain ⟨hz, hK, hT⟩ := hP
  obtain ⟨hx, hb, -, -, -⟩ := id S
  obtain ⟨H, hT, hS, hgo⟩ : ∃ H : Heap, TW E K F G [] H ∧ va_S (xA E) s.heap H [] ∧ H = s.heap := ⟨_, hT, va_S.rf, rfl⟩
  rw [← hgo]
  have hl : lv_has ls 5 [(0, .ref a), (1, .int p0), (2, .int p1), (3, .int p2), (4, .int p3)] := hl
  refine lv_aload_n hx hb dX6_change_0 rfl (lv_at hl 0 rfl) ?_
  refine lv_iload_n hx hb dX6_change_1 rfl (lv_at hl 1 rfl) ?_
  refine lv_iload_n hx hb dX6_change_2 rfl (lv_at hl 2 rfl) ?_
  refine x_clp (x_runV (b := a) (As := [.int p0, .int p1]) (rest := []) S (c_X6_has l E K F G H a p0 p1 ha) mv_X6_has km_X6_54 rfl rfl ⟨Nat.le_of_ble_eq_true rfl, Nat.le_of_ble_eq_true rfl⟩ (rc_8 hK hT ha) hK (fun _ => XPh.blind) (fun U hU hW => XPh.at hK hz hS hT hU hW) rfl hl.1 (Nat.le_of_ble_eq_true rfl) dX6_change_3 ⟨Nat.le_of_ble_eq_true rfl, Nat.le_of_ble_eq_true rfl⟩) hS ?_
  rintro _ _ locs ⟨x1, rfl, b2, t3⟩ hS
  have t3 : x1.toInt = 0 ∨ (x1.toInt = 1 ∧ 0 ≤ p0.toInt ∧ p0.toInt < 3 ∧ 0 ≤ p1.toInt ∧ p1.toInt < 30) := t3
  refine xi_zeq (tgt := 30) hx hb (rfl : Int32.toInt x1 = x1.toInt) dX6_change_6 (by decide) (fun c4 => ?_) (fun c4 => ?_)
  · exact x_rv hx hb hr hlk hQ (Nat.le_of_ble_eq_true rfl) (Nat.le_of_ble_eq_true rfl) hS dX6_change_30 () trivial hT.nil
  · refine lv_iload_n hx hb dX6_change_9 rfl (lv_at hl 3 rfl) ?_
    refine x_clp (x_runSN (As := [.int p2]) (rest := []) S (c_X10_isColumn l E K F G H p2) ms_X10_isColumn (by decide +kernel) rfl rfl ⟨Nat.le_of_ble_eq_true rfl, Nat.le_of_ble_eq_true rfl⟩ hK (fun _ => XPh.blind) (fun U hU hW => XPh.at hK hz hS hT hU hW) rfl hl.1 (Nat.le_of_ble_eq_true rfl) dX6_change_10 ⟨Nat.le_of_ble_eq_true rfl, Nat.le_of_ble_eq_true rfl⟩) hS ?_
    rintro _ _ locs ⟨x5, rfl, b6, t7⟩ hS
    have t7 : (x5.toInt = 1 ∧ 0 ≤ p2.toInt ∧ p2.toInt < 3) ∨ (x5.toInt = 0 ∧ (p2.toInt < 0 ∨ 3 ≤ p2.toInt)) := t7
    refine xi_zeq (tgt := 30) hx hb (rfl : Int32.toInt x5 = x5.toInt) dX6_change_13 (by decide) (fun c8 => ?_) (fun c8 => ?_)
    · exact x_rv hx hb hr hlk hQ (Nat.le_of_ble_eq_true rfl) (Nat.le_of_ble_eq_true rfl) hS dX6_change_30 () trivial hT.nil
    · refine lv_aload_n hx hb dX6_change_16 rfl (lv_at hl 0 rfl) ?_
      refine gX6_0 S hK hT ha kf_X6_9 dX6_change_17 (fun hk9 => ?_)
      refine lv_iload_n hx hb dX6_change_20 rfl (lv_at hl 1 rfl) ?_
      refine lv_iload_n hx hb dX6_change_21 rfl (lv_at hl 3 rfl) ?_
      refine x_clp (x_runS (As := [.int p0, .int p2]) (rest := [.ref (F a 0)]) S (c_X6_place l E K F G H p0 p2) ms_X6_place km_X6_34 rfl rfl ⟨Nat.le_of_ble_eq_true rfl, Nat.le_of_ble_eq_true rfl⟩ hK (fun _ => XPh.blind) (fun U hU hW => XPh.at hK hz hS hT hU hW) rfl hl.1 (Nat.le_of_ble_eq_true rfl) dX6_change_22 ⟨Nat.le_of_ble_eq_true rfl, Nat.le_of_ble_eq_true rfl⟩) hS ?_
      rintro _ _ locs ⟨x10, rfl, t11⟩ hS
      have t11 : 0 ≤ p0.toInt ∧ p0.toInt < 3 ∧ 0 ≤ p2.toInt ∧ p2.toInt < 3 → x10.toInt = (p0.toInt * 3 + p2.toInt) * 30 := t11
      refine lv_iload_n hx hb dX6_change_25 rfl (lv_at hl 2 rfl) ?_
      refine xi_iadd hx hb (rfl : Int32.toInt x10 = x10.toInt) (rfl : Int32.toInt p1 = p1.toInt) dX6_change_26 (fun x12 t13 => ?_)
      refine lv_iload hx hb dX6_change_27 (lv_at hl 4 rfl) ?_
      refine as_0 S hK hT hS hk9 ar_20 aw_20 (by decide) (z_X6_change_1 p0.toInt p1.toInt p2.toInt x1.toInt x10.toInt x12.toInt x5.toInt t3 c4 t7 c8 t11 t13 (xr p0) (xr p1) (xr p2) (xr x1) (xr x10) (xr x12) (xr x5)) dX6_change_29 (fun H locs hT hS => ?_)
      exact x_rv hx hb hr hlk hQ (Nat.le_of_ble_eq_true rfl) (Nat.le_of_ble_eq_true rfl) hS dX6_change_30 () trivial hT.nil

theorem z_X6_move_1 (a0 : Int) (h0 : (0 : Int) ≤ a0) (r0 : -2147483648 ≤ a0 ∧ a0 < 2147483648) : ¬ (2147483648 - a0 < ((0 : Nat) : Int)) := by omega
theorem z_X6_move_2 (a0 : Int) (a1 : Int) (a2 : Nat) (h0 : (0 : Int) ≤ a0) (h1 : 2147483648 - a0 < ((a2 + 1 : Nat) : Int)) (h2 : ¬ ((3 : Int) ≤ a0)) (h3 : a1 = a0 + 1 ∨ a0 + 1 < -2147483648 ∨ 2147483648 ≤ a0 + 1) (r0 : -2147483648 ≤ a0 ∧ a0 < 2147483648) (r1 : -2147483648 ≤ a1 ∧ a1 < 2147483648) : (0 : Int) ≤ a1 := by omega
theorem z_X6_move_3 (a0 : Int) (a1 : Int) (a2 : Nat) (h0 : (0 : Int) ≤ a0) (h1 : 2147483648 - a0 < ((a2 + 1 : Nat) : Int)) (h2 : ¬ ((3 : Int) ≤ a0)) (h3 : a1 = a0 + 1 ∨ a0 + 1 < -2147483648 ∨ 2147483648 ≤ a0 + 1) (r0 : -2147483648 ≤ a0 ∧ a0 < 2147483648) (r1 : -2147483648 ≤ a1 ∧ a1 < 2147483648) : 2147483648 - a1 < ((a2 : Nat) : Int) := by omega
abbrev rm_X6_move : Room := { frames := 3, cells := 0, slots := 0, locals := 67 }
set_option maxHeartbeats 4000000 in
set_option maxRecDepth 100000 in
theorem c_X6_move (l : Launch) (E : XE) (K : Nat → Nat) (F : Nat → Nat → Nat) (G : XG) (a : Nat) (p0 : Int32) (p1 : Int32) (p2 : Int32) (ha : K a = 8) : Met l yX6_move (xw yX6_move cX6_move 5 none) rm_X6_move (va_Pc [.ref a, .int p0, .int p1, .int p2] (XP E K F G)) (XQv E (fun (u : Unit) => True) (fun _ H => TW E K F G [] H)) 0 0 (xA E) := by
  refine x_enter (by decide) (Nat.le_of_ble_eq_true rfl) ?_
  intro p e s m args below meth c Q S hr hlk hnm hQ hP ls hl
  obtain ⟨hz, hK, hT⟩ := hP
  obtain ⟨hx, hb, -, -, -⟩ := id S
  obtain ⟨H, hT, hS, hgo⟩ : ∃ H : Heap, TW E K F G [] H ∧ va_S (xA E) s.heap H [] ∧ H = s.heap := ⟨_, hT, va_S.rf, rfl⟩
  rw [← hgo]
  have hl : lv_has ls 5 [(0, .ref a), (1, .int p0), (2, .int p1), (3, .int p2)] := hl
  refine lv_aload_n hx hb dX6_move_0 rfl (lv_at hl 0 rfl) ?_
  refine lv_iload_n hx hb dX6_move_1 rfl (lv_at hl 1 rfl) ?_
  refine lv_iload_n hx hb dX6_move_2 rfl (lv_at hl 2 rfl) ?_
  refine x_clp (x_runV (b := a) (As := [.int p0, .int p1]) (rest := []) S (c_X6_has l E K F G H a p0 p1 ha) mv_X6_has km_X6_54 rfl rfl ⟨Nat.le_of_ble_eq_true rfl, Nat.le_of_ble_eq_true rfl⟩ (rc_8 hK hT ha) hK (fun _ => XPh.blind) (fun U hU hW => XPh.at hK hz hS hT hU hW) rfl hl.1 (Nat.le_of_ble_eq_true rfl) dX6_move_3 ⟨Nat.le_of_ble_eq_true rfl, Nat.le_of_ble_eq_true rfl⟩) hS ?_
  rintro _ _ locs ⟨x1, rfl, b2, t3⟩ hS
  have t3 : x1.toInt = 0 ∨ (x1.toInt = 1 ∧ 0 ≤ p0.toInt ∧ p0.toInt < 3 ∧ 0 ≤ p1.toInt ∧ p1.toInt < 30) := t3
  refine xi_zeq (tgt := 21) hx hb (rfl : Int32.toInt x1 = x1.toInt) dX6_move_6 (by decide) (fun c4 => ?_) (fun c4 => ?_)
  · exact x_rv hx hb hr hlk hQ (Nat.le_of_ble_eq_true rfl) (Nat.le_of_ble_eq_true rfl) hS dX6_move_21 () trivial hT.nil
  · refine lv_iload_n hx hb dX6_move_9 rfl (lv_at hl 3 rfl) ?_
    refine x_clp (x_runSN (As := [.int p2]) (rest := []) S (c_X10_isKey l E K F G H p2) ms_X10_isKey (by decide +kernel) rfl rfl ⟨Nat.le_of_ble_eq_true rfl, Nat.le_of_ble_eq_true rfl⟩ hK (fun _ => XPh.blind) (fun U hU hW => XPh.at hK hz hS hT hU hW) rfl hl.1 (Nat.le_of_ble_eq_true rfl) dX6_move_10 ⟨Nat.le_of_ble_eq_true rfl, Nat.le_of_ble_eq_true rfl⟩) hS ?_
    rintro _ _ locs ⟨x5, rfl, b6, t7⟩ hS
    have t7 : (x5.toInt = 1 ∧ 0 ≤ p2.toInt ∧ p2.toInt < 30) ∨ (x5.toInt = 0 ∧ (p2.toInt < 0 ∨ 30 ≤ p2.toInt)) := t7
    refine xi_zeq (tgt := 21) hx hb (rfl : Int32.toInt x5 = x5.toInt) dX6_move_13 (by decide) (fun c8 => ?_) (fun c8 => ?_)
    · exact x_rv hx hb hr hlk hQ (Nat.le_of_ble_eq_true rfl) (Nat.le_of_ble_eq_true rfl) hS dX6_move_21 () trivial hT.nil
    · refine lv_iload_n hx hb dX6_move_16 rfl (lv_at hl 3 rfl) ?_
      refine lv_iload_n hx hb dX6_move_17 rfl (lv_at hl 2 rfl) ?_
      refine xi_cne (tgt := 22) hx hb (rfl : Int32.toInt p2 = p2.toInt) (rfl : Int32.toInt p1 = p1.toInt) dX6_move_18 (by decide) (fun c9 => ?_) (fun c9 => ?_)
      · refine lv_aload_n hx hb dX6_move_22 rfl (lv_at hl 0 rfl) ?_
        refine lv_iload_n hx hb dX6_move_23 rfl (lv_at hl 1 rfl) ?_
        refine lv_iload_n hx hb dX6_move_24 rfl (lv_at hl 3 rfl) ?_
        refine x_cv0 (x_runV (b := a) (As := [.int p0, .int p2]) (rest := []) S (c_X6_add l E K F G a p0 p2 ha) mv_X6_add km_X6_58 rfl rfl ⟨Nat.le_of_ble_eq_true rfl, Nat.le_of_ble_eq_true rfl⟩ (rc_8 hK hT ha) hK (fun _ => XP.blind) (fun U hU hW => XP.at hK hz hS hT hU hW) rfl hl.1 (Nat.le_of_ble_eq_true rfl) dX6_move_25 ⟨Nat.le_of_ble_eq_true rfl, Nat.le_of_ble_eq_true rfl⟩) hS ?_
        rintro _ H locs - hT hS
        refine lv_iconst (v := 0) hx hb dX6_move_28 (by decide) ?_
        refine lv_istore (lv' := [(4, .int 0), (0, .ref a), (1, .int p0), (2, .int p1), (3, .int p2)]) hx hb dX6_move_29 hl (by decide) rfl (fun ls hl => ?_)
        have L31 : ∀ (N11 : Nat) (x10 : Int32) (H : Heap) (locs : List Loc) (ls : Array Slot), (0 : Int) ≤ x10.toInt → 2147483648 - x10.toInt < ((N11 : Nat) : Int) → TW E K F G [] H → va_S (xA E) s.heap H locs → lv_has ls 5 [(0, .ref a), (1, .int p0), (2, .int p1), (3, .int p2), (4, .int x10)] → W p l e rm_X6_move s m args below meth c H locs 0 0 Q (F0 m 31 ls []) := by
          intro N11
          induction N11 with
          | zero =>
            intro x10 H locs ls hf12 hm13
            exact absurd hm13 (z_X6_move_1 x10.toInt hf12 (xr x10))
          | succ N11 ih14 =>
            intro x10 H locs ls hf12 hm13 hT hS hl
            refine lv_iload hx hb dX6_move_31 (lv_at hl 4 rfl) ?_
            refine lv_iconst (v := 3) hx hb dX6_move_33 (by decide) ?_
            refine xi_cge (tgt := 59) hx hb (rfl : Int32.toInt x10 = x10.toInt) ((by decide) : Int32.toInt 3 = (3 : Int)) dX6_move_34 (by decide) (fun c15 => ?_) (fun c15 => ?_)
            · refine lv_aload_n hx hb dX6_move_59 rfl (lv_at hl 0 rfl) ?_
              refine lv_iload_n hx hb dX6_move_60 rfl (lv_at hl 1 rfl) ?_
              refine lv_iload_n hx hb dX6_move_61 rfl (lv_at hl 2 rfl) ?_
              refine x_cv0 (x_runV (b := a) (As := [.int p0, .int p1]) (rest := []) S (c_X6_remove l E K F G a p0 p1 ha) mv_X6_remove km_X6_70 rfl rfl ⟨Nat.le_of_ble_eq_true rfl, Nat.le_of_ble_eq_true rfl⟩ (rc_8 hK hT ha) hK (fun _ => XP.blind) (fun U hU hW => XP.at hK hz hS hT hU hW) rfl hl.1 (Nat.le_of_ble_eq_true rfl) dX6_move_62 ⟨Nat.le_of_ble_eq_true rfl, Nat.le_of_ble_eq_true rfl⟩) hS ?_
              rintro _ H locs - hT hS
              exact x_rv hx hb hr hlk hQ (Nat.le_of_ble_eq_true rfl) (Nat.le_of_ble_eq_true rfl) hS dX6_move_65 () trivial hT.nil
            · refine lv_aload_n hx hb dX6_move_37 rfl (lv_at hl 0 rfl) ?_
              refine lv_iload_n hx hb dX6_move_38 rfl (lv_at hl 1 rfl) ?_
              refine lv_iload_n hx hb dX6_move_39 rfl (lv_at hl 3 rfl) ?_
              refine lv_iload hx hb dX6_move_40 (lv_at hl 4 rfl) ?_
              refine lv_aload_n hx hb dX6_move_42 rfl (lv_at hl 0 rfl) ?_
              refine lv_iload_n hx hb dX6_move_43 rfl (lv_at hl 1 rfl) ?_
              refine lv_iload_n hx hb dX6_move_44 rfl (lv_at hl 2 rfl) ?_
              refine lv_iload hx hb dX6_move_45 (lv_at hl 4 rfl) ?_
              refine x_clp (x_runV (b := a) (As := [.int p0, .int p1, .int x10]) (rest := [.int x10, .int p2, .int p0, .ref a]) S (c_X6_cell l E K F G H a p0 p1 x10 ha) mv_X6_cell km_X6_62 rfl rfl ⟨Nat.le_of_ble_eq_true rfl, Nat.le_of_ble_eq_true rfl⟩ (rc_8 hK hT ha) hK (fun _ => XPh.blind) (fun U hU hW => XPh.at hK hz hS hT hU hW) rfl hl.1 (Nat.le_of_ble_eq_true rfl) dX6_move_47 ⟨Nat.le_of_ble_eq_true rfl, Nat.le_of_ble_eq_true rfl⟩) hS ?_
              rintro _ _ locs ⟨x16, rfl⟩ hS
              refine x_cv0 (x_runV (b := a) (As := [.int p0, .int p2, .int x10, .int x16]) (rest := []) S (c_X6_change l E K F G a p0 p2 x10 x16 ha) mv_X6_change km_X6_66 rfl rfl ⟨Nat.le_of_ble_eq_true rfl, Nat.le_of_ble_eq_true rfl⟩ (rc_8 hK hT ha) hK (fun _ => XP.blind) (fun U hU hW => XP.at hK hz hS hT hU hW) rfl hl.1 (Nat.le_of_ble_eq_true rfl) dX6_move_50 ⟨Nat.le_of_ble_eq_true rfl, Nat.le_of_ble_eq_true rfl⟩) hS ?_
              rintro _ H locs - hT hS
              refine xi_iinc (n := 1) (lv' := fun z9 => [(4, .int z9), (0, .ref a), (1, .int p0), (2, .int p1), (3, .int p2)]) (k := 4) hx hb (rfl : Int32.toInt x10 = x10.toInt) (by decide) dX6_move_53 hl rfl (by decide) (fun _ => rfl) (fun x17 ls t18 hl => ?_)
              have hl : lv_has ls 5 [(4, .int x17), (0, .ref a), (1, .int p0), (2, .int p1), (3, .int p2)] := hl
              refine lv_goto (tgt := 31) hx hb dX6_move_56 (by decide) ?_
              exact ih14 x17 _ _ _ (z_X6_move_2 x10.toInt x17.toInt N11 hf12 hm13 c15 t18 (xr x10) (xr x17)) (z_X6_move_3 x10.toInt x17.toInt N11 hf12 hm13 c15 t18 (xr x10) (xr x17)) hT.nil hS (lv_sub hl [1, 2, 3, 4, 0] rfl)
        exact L31 4294967297 0 _ _ _ (by decide) (by decide) hT.nil hS (lv_sub hl [1, 2, 3, 4, 0] rfl)
      · exact x_rv hx hb hr hlk hQ (Nat.le_of_ble_eq_true rfl) (Nat.le_of_ble_eq_true rfl) hS dX6_move_21 () trivial hT.nil

theorem z_X6_having_1 (a0 : Int) (h0 : (0 : Int) ≤ a0) (r0 : -2147483648 ≤ a0 ∧ a0 < 2147483648) : ¬ (2147483648 - a0 < ((0 : Nat) : Int)) := by omega
theorem z_X6_having_2 (a0 : Int) (a1 : Int) (a2 : Int) (a3 : Int) (a4 : Int) (a5 : Int) (a6 : Int) (a7 : Nat) (h0 : (a2 = 1 ∧ 0 ≤ a0 ∧ a0 < 3) ∨ (a2 = 0 ∧ (a0 < 0 ∨ 3 ≤ a0))) (h1 : ¬ (a2 = 0)) (h2 : (a5 = 1 ∧ 0 ≤ a1 ∧ a1 < 3) ∨ (a5 = 0 ∧ (a1 < 0 ∨ 3 ≤ a1))) (h3 : a5 ≠ 0) (h4 : 0 ≤ a0 ∧ a0 < 3 ∧ 0 ≤ a1 ∧ a1 < 3 → a6 = (a0 * 3 + a1) * 30) (h5 : (0 : Int) ≤ a3) (h6 : 2147483648 - a3 < ((a7 + 1 : Nat) : Int)) (h7 : ¬ ((30 : Int) ≤ a3)) (h8 : a4 = a6 + a3 ∨ a6 + a3 < -2147483648 ∨ 2147483648 ≤ a6 + a3) (r0 : -2147483648 ≤ a0 ∧ a0 < 2147483648) (r1 : -2147483648 ≤ a1 ∧ a1 < 2147483648) (r2 : -2147483648 ≤ a2 ∧ a2 < 2147483648) (r3 : -2147483648 ≤ a3 ∧ a3 < 2147483648) (r4 : -2147483648 ≤ a4 ∧ a4 < 2147483648) (r5 : -2147483648 ≤ a5 ∧ a5 < 2147483648) (r6 : -2147483648 ≤ a6 ∧ a6 < 2147483648) : 0 ≤ a4 ∧ a4 < ((270 : Nat) : Int) := by omega
theorem z_X6_having_3 (a0 : Int) (a1 : Int) (a2 : Int) (a3 : Int) (a4 : Int) (a5 : Int) (a6 : Int) (a7 : Int) (a8 : Nat) (h0 : (a2 = 1 ∧ 0 ≤ a0 ∧ a0 < 3) ∨ (a2 = 0 ∧ (a0 < 0 ∨ 3 ≤ a0))) (h1 : ¬ (a2 = 0)) (h2 : (a6 = 1 ∧ 0 ≤ a1 ∧ a1 < 3) ∨ (a6 = 0 ∧ (a1 < 0 ∨ 3 ≤ a1))) (h3 : a6 ≠ 0) (h4 : 0 ≤ a0 ∧ a0 < 3 ∧ 0 ≤ a1 ∧ a1 < 3 → a7 = (a0 * 3 + a1) * 30) (h5 : (0 : Int) ≤ a3) (h6 : 2147483648 - a3 < ((a8 + 1 : Nat) : Int)) (h7 : ¬ ((30 : Int) ≤ a3)) (h8 : a4 = a7 + a3 ∨ a7 + a3 < -2147483648 ∨ 2147483648 ≤ a7 + a3) (h9 : a5 = a3 + 1 ∨ a3 + 1 < -2147483648 ∨ 2147483648 ≤ a3 + 1) (r0 : -2147483648 ≤ a0 ∧ a0 < 2147483648) (r1 : -2147483648 ≤ a1 ∧ a1 < 2147483648) (r2 : -2147483648 ≤ a2 ∧ a2 < 2147483648) (r3 : -2147483648 ≤ a3 ∧ a3 < 2147483648) (r4 : -2147483648 ≤ a4 ∧ a4 < 2147483648) (r5 : -2147483648 ≤ a5 ∧ a5 < 2147483648) (r6 : -2147483648 ≤ a6 ∧ a6 < 2147483648) (r7 : -2147483648 ≤ a7 ∧ a7 < 2147483648) : (0 : Int) ≤ a5 := by omega
theorem z_X6_having_4 (a0 : Int) (a1 : Int) (a2 : Int) (a3 : Int) (a4 : Int) (a5 : Int) (a6 : Int) (a7 : Int) (a8 : Nat) (h0 : (a2 = 1 ∧ 0 ≤ a0 ∧ a0 < 3) ∨ (a2 = 0 ∧ (a0 < 0 ∨ 3 ≤ a0))) (h1 : ¬ (a2 = 0)) (h2 : (a6 = 1 ∧ 0 ≤ a1 ∧ a1 < 3) ∨ (a6 = 0 ∧ (a1 < 0 ∨ 3 ≤ a1))) (h3 : a6 ≠ 0) (h4 : 0 ≤ a0 ∧ a0 < 3 ∧ 0 ≤ a1 ∧ a1 < 3 → a7 = (a0 * 3 + a1) * 30) (h5 : (0 : Int) ≤ a3) (h6 : 2147483648 - a3 < ((a8 + 1 : Nat) : Int)) (h7 : ¬ ((30 : Int) ≤ a3)) (h8 : a4 = a7 + a3 ∨ a7 + a3 < -2147483648 ∨ 2147483648 ≤ a7 + a3) (h9 : a5 = a3 + 1 ∨ a3 + 1 < -2147483648 ∨ 2147483648 ≤ a3 + 1) (r0 : -2147483648 ≤ a0 ∧ a0 < 2147483648) (r1 : -2147483648 ≤ a1 ∧ a1 < 2147483648) (r2 : -2147483648 ≤ a2 ∧ a2 < 2147483648) (r3 : -2147483648 ≤ a3 ∧ a3 < 2147483648) (r4 : -2147483648 ≤ a4 ∧ a4 < 2147483648) (r5 : -2147483648 ≤ a5 ∧ a5 < 2147483648) (r6 : -2147483648 ≤ a6 ∧ a6 < 2147483648) (r7 : -2147483648 ≤ a7 ∧ a7 < 2147483648) : 2147483648 - a5 < ((a8 : Nat) : Int) := by omega
abbrev rm_X6_having : Room := { frames := 1, cells := 0, slots := 0, locals := 21 }
set_option maxHeartbeats 4000000 in
set_option maxRecDepth 100000 in
theorem c_X6_having (l : Launch) (E : XE) (K : Nat → Nat) (F : Nat → Nat → Nat) (G : XG) (h0 : Heap) (a : Nat) (p0 : Int32) (p1 : Int32) (p2 : Int32) (ha : K a = 8) : Met l yX6_having (xw yX6_having cX6_having 7 (some .int)) rm_X6_having (va_Pc [.ref a, .int p0, .int p1, .int p2] (XPh E K F G h0)) (XQ E (fun v (u : Unit) => ∃ r : Int32, v = .int r) (fun _ H => H = h0)) 0 0 (xA E) := by
  refine x_enter (by decide) (Nat.le_of_ble_eq_true rfl) ?_
  intro p e s m args below meth c Q S hr hlk hnm hQ hP ls hl
  obtain ⟨⟨hz, hK, hT⟩, hh⟩ := hP
  obtain ⟨hx, hb, -, -, -⟩ := id S
  have hS : va_S (xA E) s.heap s.heap [] := va_S.rf
  have hl : lv_has ls 7 [(0, .ref a), (1, .int p0), (2, .int p1), (3, .int p2)] := hl
  refine lv_iload_n hx hb dX6_having_0 rfl (lv_at hl 1 rfl) ?_
  refine x_clp (x_runSN (As := [.int p0]) (rest := []) S (c_X10_isTable l E K F G s.heap p0) ms_X10_isTable (by decide +kernel) rfl rfl ⟨Nat.le_of_ble_eq_true rfl, Nat.le_of_ble_eq_true rfl⟩ hK (fun _ => XPh.blind) (fun U hU hW => XPh.at hK hz hS hT hU hW) rfl hl.1 (Nat.le_of_ble_eq_true rfl) dX6_having_1 ⟨Nat.le_of_ble_eq_true rfl, Nat.le_of_ble_eq_true rfl⟩) hS ?_
  rintro _ _ locs ⟨x1, rfl, b2, t3⟩ hS
  have t3 : (x1.toInt = 1 ∧ 0 ≤ p0.toInt ∧ p0.toInt < 3) ∨ (x1.toInt = 0 ∧ (p0.toInt < 0 ∨ 3 ≤ p0.toInt)) := t3
  refine xi_zeq (tgt := 14) hx hb (rfl : Int32.toInt x1 = x1.toInt) dX6_having_4 (by decide) (fun c4 => ?_) (fun c4 => ?_)
  · refine lv_iconst (v := 0) hx hb dX6_having_14 (by decide) ?_
    exact x_ri hx hb hr hlk hQ (Nat.le_of_ble_eq_true rfl) (Nat.le_of_ble_eq_true rfl) hS dX6_having_15 () ⟨_, rfl⟩ hh
  · refine lv_iload_n hx hb dX6_having_7 rfl (lv_at hl 2 rfl) ?_
    refine x_clp (x_runSN (As := [.int p1]) (rest := []) S (c_X10_isColumn l E K F G s.heap p1) ms_X10_isColumn (by decide +kernel) rfl rfl ⟨Nat.le_of_ble_eq_true rfl, Nat.le_of_ble_eq_true rfl⟩ hK (fun _ => XPh.blind) (fun U hU hW => XPh.at hK hz hS hT hU hW) rfl hl.1 (Nat.le_of_ble_eq_true rfl) dX6_having_8 ⟨Nat.le_of_ble_eq_true rfl, Nat.le_of_ble_eq_true rfl⟩) hS ?_
    rintro _ _ locs ⟨x5, rfl, b6, t7⟩ hS
    have t7 : (x5.toInt = 1 ∧ 0 ≤ p1.toInt ∧ p1.toInt < 3) ∨ (x5.toInt = 0 ∧ (p1.toInt < 0 ∨ 3 ≤ p1.toInt)) := t7
    refine xi_zne (tgt := 16) hx hb (rfl : Int32.toInt x5 = x5.toInt) dX6_having_11 (by decide) (fun c8 => ?_) (fun c8 => ?_)
    · refine lv_iload_n hx hb dX6_having_16 rfl (lv_at hl 1 rfl) ?_
      refine lv_iload_n hx hb dX6_having_17 rfl (lv_at hl 2 rfl) ?_
      refine x_clp (x_runS (As := [.int p0, .int p1]) (rest := []) S (c_X6_place l E K F G s.heap p0 p1) ms_X6_place km_X6_34 rfl rfl ⟨Nat.le_of_ble_eq_true rfl, Nat.le_of_ble_eq_true rfl⟩ hK (fun _ => XPh.blind) (fun U hU hW => XPh.at hK hz hS hT hU hW) rfl hl.1 (Nat.le_of_ble_eq_true rfl) dX6_having_18 ⟨Nat.le_of_ble_eq_true rfl, Nat.le_of_ble_eq_true rfl⟩) hS ?_
      rintro _ _ locs ⟨x9, rfl, t10⟩ hS
      have t10 : 0 ≤ p0.toInt ∧ p0.toInt < 3 ∧ 0 ≤ p1.toInt ∧ p1.toInt < 3 → x9.toInt = (p0.toInt * 3 + p1.toInt) * 30 := t10
      refine lv_istore (lv' := [(4, .int x9), (0, .ref a), (1, .int p0), (2, .int p1), (3, .int p2)]) hx hb dX6_having_21 hl (by decide) rfl (fun ls hl => ?_)
      refine lv_iconst (v := 0) hx hb dX6_having_23 (by decide) ?_
      refine lv_istore (lv' := [(5, .int 0), (4, .int x9), (0, .ref a), (1, .int p0), (2, .int p1), (3, .int p2)]) hx hb dX6_having_24 hl (by decide) rfl (fun ls hl => ?_)
      refine lv_iconst (v := 0) hx hb dX6_having_26 (by decide) ?_
      refine lv_istore (lv' := [(6, .int 0), (5, .int 0), (4, .int x9), (0, .ref a), (1, .int p0), (2, .int p1), (3, .int p2)]) hx hb dX6_having_27 hl (by decide) rfl (fun ls hl => ?_)
      have L29 : ∀ (N13 : Nat) (x11 : Int32) (x12 : Int32) (locs : List Loc) (ls : Array Slot), (0 : Int) ≤ x12.toInt → 2147483648 - x12.toInt < ((N13 : Nat) : Int) → TW E K F G [] s.heap → va_S (xA E) s.heap s.heap locs → lv_has ls 7 [(0, .ref a), (3, .int p2), (4, .int x9), (5, .int x11), (6, .int x12)] → W p l e rm_X6_having s m args below meth c s.heap locs 0 0 Q (F0 m 29 ls []) := by
        intro N13
        induction N13 with
        | zero =>
          intro x11 x12 locs ls hf14 hm15
          exact absurd hm15 (z_X6_having_1 x12.toInt hf14 (xr x12))
        | succ N13 ih16 =>
          intro x11 x12 locs ls hf14 hm15 hT hS hl
          refine lv_iload hx hb dX6_having_29 (lv_at hl 4 rfl) ?_
          refine lv_bipush (v := 30) hx hb dX6_having_31 (by decide) ?_
          refine xi_cge (tgt := 59) hx hb (rfl : Int32.toInt x12 = x12.toInt) ((by decide) : Int32.toInt 30 = (30 : Int)) dX6_having_33 (by decide) (fun c17 => ?_) (fun c17 => ?_)
          · refine lv_iload hx hb dX6_having_59 (lv_at hl 3 rfl) ?_
            exact x_ri hx hb hr hlk hQ (Nat.le_of_ble_eq_true rfl) (Nat.le_of_ble_eq_true rfl) hS dX6_having_61 () ⟨_, rfl⟩ hh
          · refine lv_aload_n hx hb dX6_having_36 rfl (lv_at hl 0 rfl) ?_
            refine gX6_0 S hK hT ha kf_X6_9 dX6_having_37 (fun hk18 => ?_)
            refine lv_iload hx hb dX6_having_40 (lv_at hl 2 rfl) ?_
            refine lv_iload hx hb dX6_having_42 (lv_at hl 4 rfl) ?_
            refine xi_iadd hx hb (rfl : Int32.toInt x9 = x9.toInt) (rfl : Int32.toInt x12 = x12.toInt) dX6_having_44 (fun x19 t20 => ?_)
            refine al_0 S hK hT hk18 ar_20 (by decide) (z_X6_having_2 p0.toInt p1.toInt x1.toInt x12.toInt x19.toInt x5.toInt x9.toInt N13 t3 c4 t7 c8 t10 hf14 hm15 c17 t20 (xr p0) (xr p1) (xr x1) (xr x12) (xr x19) (xr x5) (xr x9)) dX6_having_45 (fun x21 o22 => ?_)
            refine lv_iload_n hx hb dX6_having_46 rfl (lv_at hl 1 rfl) ?_
            have J53 : ∀ (x23 : Int32) (locs : List Loc) (ls : Array Slot), TW E K F G [] s.heap → va_S (xA E) s.heap s.heap locs → lv_has ls 7 [(0, .ref a), (3, .int p2), (4, .int x9), (5, .int x23), (6, .int x12)] → W p l e rm_X6_having s m args below meth c s.heap locs 0 0 Q (F0 m 53 ls []) := by
              intro x23 locs ls hT hS hl
              refine xi_iinc (n := 1) (lv' := fun z9 => [(6, .int z9), (0, .ref a), (3, .int p2), (4, .int x9), (5, .int x23)]) (k := 4) hx hb (rfl : Int32.toInt x12 = x12.toInt) (by decide) dX6_having_53 hl rfl (by decide) (fun _ => rfl) (fun x24 ls t25 hl => ?_)
              have hl : lv_has ls 7 [(6, .int x24), (0, .ref a), (3, .int p2), (4, .int x9), (5, .int x23)] := hl
              refine lv_goto (tgt := 29) hx hb dX6_having_56 (by decide) ?_
              exact ih16 x23 x24 _ _ (z_X6_having_3 p0.toInt p1.toInt x1.toInt x12.toInt x19.toInt x24.toInt x5.toInt x9.toInt N13 t3 c4 t7 c8 t10 hf14 hm15 c17 t20 t25 (xr p0) (xr p1) (xr x1) (xr x12) (xr x19) (xr x24) (xr x5) (xr x9)) (z_X6_having_4 p0.toInt p1.toInt x1.toInt x12.toInt x19.toInt x24.toInt x5.toInt x9.toInt N13 t3 c4 t7 c8 t10 hf14 hm15 c17 t20 t25 (xr p0) (xr p1) (xr x1) (xr x12) (xr x19) (xr x24) (xr x5) (xr x9)) hT.nil hS (lv_sub hl [1, 2, 3, 4, 0] rfl)
            refine xi_cne (tgt := 53) hx hb (rfl : Int32.toInt x21 = x21.toInt) (rfl : Int32.toInt p2 = p2.toInt) dX6_having_47 (by decide) (fun c26 => ?_) (fun c26 => ?_)
            · exact J53 x11 _ _ hT.nil hS (lv_sub hl [0, 1, 2, 3, 4] rfl)
            · refine xi_iinc (n := 1) (lv' := fun z9 => [(5, .int z9), (0, .ref a), (3, .int p2), (4, .int x9), (6, .int x12)]) (k := 3) hx hb (rfl : Int32.toInt x11 = x11.toInt) (by decide) dX6_having_50 hl rfl (by decide) (fun _ => rfl) (fun x27 ls t28 hl => ?_)
              have hl : lv_has ls 7 [(5, .int x27), (0, .ref a), (3, .int p2), (4, .int x9), (6, .int x12)] := hl
              exact J53 x27 _ _ hT.nil hS (lv_sub hl [1, 2, 3, 0, 4] rfl)
      exact L29 4294967297 0 0 _ _ (by decide) (by decide) hT.nil hS (lv_sub hl [3, 6, 2, 1, 0] rfl)
    · refine lv_iconst (v := 0) hx hb dX6_having_14 (by decide) ?_
      exact x_ri hx hb hr hlk hQ (Nat.le_of_ble_eq_true rfl) (Nat.le_of_ble_eq_true rfl) hS dX6_having_15 () ⟨_, rfl⟩ hh

theorem z_X6_sumOf_1 (a0 : Int) (h0 : (0 : Int) ≤ a0) (r0 : -2147483648 ≤ a0 ∧ a0 < 2147483648) : ¬ (2147483648 - a0 < ((0 : Nat) : Int)) := by omega
theorem z_X6_sumOf_2 (a0 : Int) (a1 : Int) (a2 : Int) (a3 : Int) (a4 : Int) (a5 : Int) (a6 : Int) (a7 : Int) (a8 : Int) (a9 : Int) (a10 : Nat) (h0 : (a3 = 1 ∧ 0 ≤ a0 ∧ a0 < 3) ∨ (a3 = 0 ∧ (a0 < 0 ∨ 3 ≤ a0))) (h1 : ¬ (a3 = 0)) (h2 : (a8 = 1 ∧ 0 ≤ a1 ∧ a1 < 3) ∨ (a8 = 0 ∧ (a1 < 0 ∨ 3 ≤ a1))) (h3 : ¬ (a8 = 0)) (h4 : (a9 = 1 ∧ 0 ≤ a2 ∧ a2 < 3) ∨ (a9 = 0 ∧ (a2 < 0 ∨ 3 ≤ a2))) (h5 : a9 ≠ 0) (h6 : 0 ≤ a0 ∧ a0 < 3 ∧ 0 ≤ a1 ∧ a1 < 3 → a4 = (a0 * 3 + a1) * 30) (h7 : 0 ≤ a0 ∧ a0 < 3 ∧ 0 ≤ a2 ∧ a2 < 3 → a5 = (a0 * 3 + a2) * 30) (h8 : (0 : Int) ≤ a6) (h9 : 2147483648 - a6 < ((a10 + 1 : Nat) : Int)) (h10 : ¬ ((30 : Int) ≤ a6)) (h11 : a7 = a4 + a6 ∨ a4 + a6 < -2147483648 ∨ 2147483648 ≤ a4 + a6) (r0 : -2147483648 ≤ a0 ∧ a0 < 2147483648) (r1 : -2147483648 ≤ a1 ∧ a1 < 2147483648) (r2 : -2147483648 ≤ a2 ∧ a2 < 2147483648) (r3 : -2147483648 ≤ a3 ∧ a3 < 2147483648) (r4 : -2147483648 ≤ a4 ∧ a4 < 2147483648) (r5 : -2147483648 ≤ a5 ∧ a5 < 2147483648) (r6 : -2147483648 ≤ a6 ∧ a6 < 2147483648) (r7 : -2147483648 ≤ a7 ∧ a7 < 2147483648) (r8 : -2147483648 ≤ a8 ∧ a8 < 2147483648) (r9 : -2147483648 ≤ a9 ∧ a9 < 2147483648) : 0 ≤ a7 ∧ a7 < ((270 : Nat) : Int) := by omega
theorem z_X6_sumOf_3 (a0 : Int) (a1 : Int) (a2 : Int) (a3 : Int) (a4 : Int) (a5 : Int) (a6 : Int) (a7 : Int) (a8 : Int) (a9 : Int) (a10 : Int) (a11 : Nat) (h0 : (a3 = 1 ∧ 0 ≤ a0 ∧ a0 < 3) ∨ (a3 = 0 ∧ (a0 < 0 ∨ 3 ≤ a0))) (h1 : ¬ (a3 = 0)) (h2 : (a9 = 1 ∧ 0 ≤ a1 ∧ a1 < 3) ∨ (a9 = 0 ∧ (a1 < 0 ∨ 3 ≤ a1))) (h3 : ¬ (a9 = 0)) (h4 : (a10 = 1 ∧ 0 ≤ a2 ∧ a2 < 3) ∨ (a10 = 0 ∧ (a2 < 0 ∨ 3 ≤ a2))) (h5 : a10 ≠ 0) (h6 : 0 ≤ a0 ∧ a0 < 3 ∧ 0 ≤ a1 ∧ a1 < 3 → a4 = (a0 * 3 + a1) * 30) (h7 : 0 ≤ a0 ∧ a0 < 3 ∧ 0 ≤ a2 ∧ a2 < 3 → a5 = (a0 * 3 + a2) * 30) (h8 : (0 : Int) ≤ a6) (h9 : 2147483648 - a6 < ((a11 + 1 : Nat) : Int)) (h10 : ¬ ((30 : Int) ≤ a6)) (h11 : a7 = a4 + a6 ∨ a4 + a6 < -2147483648 ∨ 2147483648 ≤ a4 + a6) (h12 : a8 = a6 + 1 ∨ a6 + 1 < -2147483648 ∨ 2147483648 ≤ a6 + 1) (r0 : -2147483648 ≤ a0 ∧ a0 < 2147483648) (r1 : -2147483648 ≤ a1 ∧ a1 < 2147483648) (r2 : -2147483648 ≤ a2 ∧ a2 < 2147483648) (r3 : -2147483648 ≤ a3 ∧ a3 < 2147483648) (r4 : -2147483648 ≤ a4 ∧ a4 < 2147483648) (r5 : -2147483648 ≤ a5 ∧ a5 < 2147483648) (r6 : -2147483648 ≤ a6 ∧ a6 < 2147483648) (r7 : -2147483648 ≤ a7 ∧ a7 < 2147483648) (r8 : -2147483648 ≤ a8 ∧ a8 < 2147483648) (r9 : -2147483648 ≤ a9 ∧ a9 < 2147483648) (r10 : -2147483648 ≤ a10 ∧ a10 < 2147483648) : (0 : Int) ≤ a8 := by omega
theorem z_X6_sumOf_4 (a0 : Int) (a1 : Int) (a2 : Int) (a3 : Int) (a4 : Int) (a5 : Int) (a6 : Int) (a7 : Int) (a8 : Int) (a9 : Int) (a10 : Int) (a11 : Nat) (h0 : (a3 = 1 ∧ 0 ≤ a0 ∧ a0 < 3) ∨ (a3 = 0 ∧ (a0 < 0 ∨ 3 ≤ a0))) (h1 : ¬ (a3 = 0)) (h2 : (a9 = 1 ∧ 0 ≤ a1 ∧ a1 < 3) ∨ (a9 = 0 ∧ (a1 < 0 ∨ 3 ≤ a1))) (h3 : ¬ (a9 = 0)) (h4 : (a10 = 1 ∧ 0 ≤ a2 ∧ a2 < 3) ∨ (a10 = 0 ∧ (a2 < 0 ∨ 3 ≤ a2))) (h5 : a10 ≠ 0) (h6 : 0 ≤ a0 ∧ a0 < 3 ∧ 0 ≤ a1 ∧ a1 < 3 → a4 = (a0 * 3 + a1) * 30) (h7 : 0 ≤ a0 ∧ a0 < 3 ∧ 0 ≤ a2 ∧ a2 < 3 → a5 = (a0 * 3 + a2) * 30) (h8 : (0 : Int) ≤ a6) (h9 : 2147483648 - a6 < ((a11 + 1 : Nat) : Int)) (h10 : ¬ ((30 : Int) ≤ a6)) (h11 : a7 = a4 + a6 ∨ a4 + a6 < -2147483648 ∨ 2147483648 ≤ a4 + a6) (h12 : a8 = a6 + 1 ∨ a6 + 1 < -2147483648 ∨ 2147483648 ≤ a6 + 1) (r0 : -2147483648 ≤ a0 ∧ a0 < 2147483648) (r1 : -2147483648 ≤ a1 ∧ a1 < 2147483648) (r2 : -2147483648 ≤ a2 ∧ a2 < 2147483648) (r3 : -2147483648 ≤ a3 ∧ a3 < 2147483648) (r4 : -2147483648 ≤ a4 ∧ a4 < 2147483648) (r5 : -2147483648 ≤ a5 ∧ a5 < 2147483648) (r6 : -2147483648 ≤ a6 ∧ a6 < 2147483648) (r7 : -2147483648 ≤ a7 ∧ a7 < 2147483648) (r8 : -2147483648 ≤ a8 ∧ a8 < 2147483648) (r9 : -2147483648 ≤ a9 ∧ a9 < 2147483648) (r10 : -2147483648 ≤ a10 ∧ a10 < 2147483648) : 2147483648 - a8 < ((a11 : Nat) : Int) := by omega
theorem z_X6_sumOf_5 (a0 : Int) (a1 : Int) (a2 : Int) (a3 : Int) (a4 : Int) (a5 : Int) (a6 : Int) (a7 : Int) (a8 : Int) (a9 : Int) (a10 : Int) (a11 : Nat) (h0 : (a3 = 1 ∧ 0 ≤ a0 ∧ a0 < 3) ∨ (a3 = 0 ∧ (a0 < 0 ∨ 3 ≤ a0))) (h1 : ¬ (a3 = 0)) (h2 : (a9 = 1 ∧ 0 ≤ a1 ∧ a1 < 3) ∨ (a9 = 0 ∧ (a1 < 0 ∨ 3 ≤ a1))) (h3 : ¬ (a9 = 0)) (h4 : (a10 = 1 ∧ 0 ≤ a2 ∧ a2 < 3) ∨ (a10 = 0 ∧ (a2 < 0 ∨ 3 ≤ a2))) (h5 : a10 ≠ 0) (h6 : 0 ≤ a0 ∧ a0 < 3 ∧ 0 ≤ a1 ∧ a1 < 3 → a4 = (a0 * 3 + a1) * 30) (h7 : 0 ≤ a0 ∧ a0 < 3 ∧ 0 ≤ a2 ∧ a2 < 3 → a5 = (a0 * 3 + a2) * 30) (h8 : (0 : Int) ≤ a6) (h9 : 2147483648 - a6 < ((a11 + 1 : Nat) : Int)) (h10 : ¬ ((30 : Int) ≤ a6)) (h11 : a7 = a4 + a6 ∨ a4 + a6 < -2147483648 ∨ 2147483648 ≤ a4 + a6) (h12 : a8 = a5 + a6 ∨ a5 + a6 < -2147483648 ∨ 2147483648 ≤ a5 + a6) (r0 : -2147483648 ≤ a0 ∧ a0 < 2147483648) (r1 : -2147483648 ≤ a1 ∧ a1 < 2147483648) (r2 : -2147483648 ≤ a2 ∧ a2 < 2147483648) (r3 : -2147483648 ≤ a3 ∧ a3 < 2147483648) (r4 : -2147483648 ≤ a4 ∧ a4 < 2147483648) (r5 : -2147483648 ≤ a5 ∧ a5 < 2147483648) (r6 : -2147483648 ≤ a6 ∧ a6 < 2147483648) (r7 : -2147483648 ≤ a7 ∧ a7 < 2147483648) (r8 : -2147483648 ≤ a8 ∧ a8 < 2147483648) (r9 : -2147483648 ≤ a9 ∧ a9 < 2147483648) (r10 : -2147483648 ≤ a10 ∧ a10 < 2147483648) : 0 ≤ a8 ∧ a8 < ((270 : Nat) : Int) := by omega
theorem z_X6_sumOf_6 (a0 : Int) (a1 : Int) (a2 : Int) (a3 : Int) (a4 : Int) (a5 : Int) (a6 : Int) (a7 : Int) (a8 : Int) (a9 : Int) (a10 : Int) (a11 : Int) (a12 : Nat) (h0 : (a3 = 1 ∧ 0 ≤ a0 ∧ a0 < 3) ∨ (a3 = 0 ∧ (a0 < 0 ∨ 3 ≤ a0))) (h1 : ¬ (a3 = 0)) (h2 : (a10 = 1 ∧ 0 ≤ a1 ∧ a1 < 3) ∨ (a10 = 0 ∧ (a1 < 0 ∨ 3 ≤ a1))) (h3 : ¬ (a10 = 0)) (h4 : (a11 = 1 ∧ 0 ≤ a2 ∧ a2 < 3) ∨ (a11 = 0 ∧ (a2 < 0 ∨ 3 ≤ a2))) (h5 : a11 ≠ 0) (h6 : 0 ≤ a0 ∧ a0 < 3 ∧ 0 ≤ a1 ∧ a1 < 3 → a4 = (a0 * 3 + a1) * 30) (h7 : 0 ≤ a0 ∧ a0 < 3 ∧ 0 ≤ a2 ∧ a2 < 3 → a5 = (a0 * 3 + a2) * 30) (h8 : (0 : Int) ≤ a6) (h9 : 2147483648 - a6 < ((a12 + 1 : Nat) : Int)) (h10 : ¬ ((30 : Int) ≤ a6)) (h11 : a7 = a4 + a6 ∨ a4 + a6 < -2147483648 ∨ 2147483648 ≤ a4 + a6) (h12 : a8 = a5 + a6 ∨ a5 + a6 < -2147483648 ∨ 2147483648 ≤ a5 + a6) (h13 : a9 = a5 + a6 ∨ a5 + a6 < -2147483648 ∨ 2147483648 ≤ a5 + a6) (r0 : -2147483648 ≤ a0 ∧ a0 < 2147483648) (r1 : -2147483648 ≤ a1 ∧ a1 < 2147483648) (r2 : -2147483648 ≤ a2 ∧ a2 < 2147483648) (r3 : -2147483648 ≤ a3 ∧ a3 < 2147483648) (r4 : -2147483648 ≤ a4 ∧ a4 < 2147483648) (r5 : -2147483648 ≤ a5 ∧ a5 < 2147483648) (r6 : -2147483648 ≤ a6 ∧ a6 < 2147483648) (r7 : -2147483648 ≤ a7 ∧ a7 < 2147483648) (r8 : -2147483648 ≤ a8 ∧ a8 < 2147483648) (r9 : -2147483648 ≤ a9 ∧ a9 < 2147483648) (r10 : -2147483648 ≤ a10 ∧ a10 < 2147483648) (r11 : -2147483648 ≤ a11 ∧ a11 < 2147483648) : 0 ≤ a9 ∧ a9 < ((270 : Nat) : Int) := by omega
abbrev rm_X6_sumOf : Room := { frames := 1, cells := 0, slots := 0, locals := 21 }
set_option maxHeartbeats 4000000 in
set_option maxRecDepth 100000 in
theorem c_X6_sumOf (l : Launch) (E : XE) (K : Nat → Nat) (F : Nat → Nat → Nat) (G : XG) (h0 : Heap) (a : Nat) (p0 : Int32) (p1 : Int32) (p2 : Int32) (p3 : Int32) (ha : K a = 8) : Met l yX6_sumOf (xw yX6_sumOf cX6_sumOf 10 (some .int)) rm_X6_sumOf (va_Pc [.ref a, .int p0, .int p1, .int p2, .int p3] (XPh E K F G h0)) (XQ E (fun v (u : Unit) => ∃ r : Int32, v = .int r) (fun _ H => H = h0)) 0 0 (xA E) := by
  refine x_enter (by decide) (Nat.le_of_ble_eq_true rfl) ?_
  intro p e s m args below meth c Q S hr hlk hnm hQ hP ls hl
  obtain ⟨⟨hz, hK, hT⟩, hh⟩ := hP
  obtain ⟨hx, hb, -, -, -⟩ := id S
  have hS : va_S (xA E) s.heap s.heap [] := va_S.rf
  have hl : lv_has ls 10 [(0, .ref a), (1, .int p0), (2, .int p1), (3, .int p2), (4, .int p3)] := hl
  refine lv_iload_n hx hb dX6_sumOf_0 rfl (lv_at hl 1 rfl) ?_
  refine x_clp (x_runSN (As := [.int p0]) (rest := []) S (c_X10_isTable l E K F G s.heap p0) ms_X10_isTable (by decide +kernel) rfl rfl ⟨Nat.le_of_ble_eq_true rfl, Nat.le_of_ble_eq_true rfl⟩ hK (fun _ => XPh.blind) (fun U hU hW => XPh.at hK hz hS hT hU hW) rfl hl.1 (Nat.le_of_ble_eq_true rfl) dX6_sumOf_1 ⟨Nat.le_of_ble_eq_true rfl, Nat.le_of_ble_eq_true rfl⟩) hS ?_
  rintro _ _ locs ⟨x1, rfl, b2, t3⟩ hS
  have t3 : (x1.toInt = 1 ∧ 0 ≤ p0.toInt ∧ p0.toInt < 3) ∨ (x1.toInt = 0 ∧ (p0.toInt < 0 ∨ 3 ≤ p0.toInt)) := t3
  refine xi_zeq (tgt := 22) hx hb (rfl : Int32.toInt x1 = x1.toInt) dX6_sumOf_4 (by decide) (fun c4 => ?_) (fun c4 => ?_)
  · refine lv_ldc (v := 100000) hx hb S.2.2.2.1 (S.2.2.2.2 _ (List.mem_cons_of_mem _ kc_X6_73)) dX6_sumOf_22 ?_
    exact x_ri hx hb hr hlk hQ (Nat.le_of_ble_eq_true rfl) (Nat.le_of_ble_eq_true rfl) hS dX6_sumOf_24 () ⟨_, rfl⟩ hh
  · refine lv_iload_n hx hb dX6_sumOf_7 rfl (lv_at hl 2 rfl) ?_
    refine x_clp (x_runSN (As := [.int p1]) (rest := []) S (c_X10_isColumn l E K F G s.heap p1) ms_X10_isColumn (by decide +kernel) rfl rfl ⟨Nat.le_of_ble_eq_true rfl, Nat.le_of_ble_eq_true rfl⟩ hK (fun _ => XPh.blind) (fun U hU hW => XPh.at hK hz hS hT hU hW) rfl hl.1 (Nat.le_of_ble_eq_true rfl) dX6_sumOf_8 ⟨Nat.le_of_ble_eq_true rfl, Nat.le_of_ble_eq_true rfl⟩) hS ?_
    rintro _ _ locs ⟨x5, rfl, b6, t7⟩ hS
    have t7 : (x5.toInt = 1 ∧ 0 ≤ p1.toInt ∧ p1.toInt < 3) ∨ (x5.toInt = 0 ∧ (p1.toInt < 0 ∨ 3 ≤ p1.toInt)) := t7
    refine xi_zeq (tgt := 22) hx hb (rfl : Int32.toInt x5 = x5.toInt) dX6_sumOf_11 (by decide) (fun c8 => ?_) (fun c8 => ?_)
    · refine lv_ldc (v := 100000) hx hb S.2.2.2.1 (S.2.2.2.2 _ (List.mem_cons_of_mem _ kc_X6_73)) dX6_sumOf_22 ?_
      exact x_ri hx hb hr hlk hQ (Nat.le_of_ble_eq_true rfl) (Nat.le_of_ble_eq_true rfl) hS dX6_sumOf_24 () ⟨_, rfl⟩ hh
    · refine lv_iload hx hb dX6_sumOf_14 (lv_at hl 4 rfl) ?_
      refine x_clp (x_runSN (As := [.int p3]) (rest := []) S (c_X10_isColumn l E K F G s.heap p3) ms_X10_isColumn (by decide +kernel) rfl rfl ⟨Nat.le_of_ble_eq_true rfl, Nat.le_of_ble_eq_true rfl⟩ hK (fun _ => XPh.blind) (fun U hU hW => XPh.at hK hz hS hT hU hW) rfl hl.1 (Nat.le_of_ble_eq_true rfl) dX6_sumOf_16 ⟨Nat.le_of_ble_eq_true rfl, Nat.le_of_ble_eq_true rfl⟩) hS ?_
      rintro _ _ locs ⟨x9, rfl, b10, t11⟩ hS
      have t11 : (x9.toInt = 1 ∧ 0 ≤ p3.toInt ∧ p3.toInt < 3) ∨ (x9.toInt = 0 ∧ (p3.toInt < 0 ∨ 3 ≤ p3.toInt)) := t11
      refine xi_zne (tgt := 25) hx hb (rfl : Int32.toInt x9 = x9.toInt) dX6_sumOf_19 (by decide) (fun c12 => ?_) (fun c12 => ?_)
      · refine lv_iload_n hx hb dX6_sumOf_25 rfl (lv_at hl 1 rfl) ?_
        refine lv_iload_n hx hb dX6_sumOf_26 rfl (lv_at hl 2 rfl) ?_
        refine x_clp (x_runS (As := [.int p0, .int p1]) (rest := []) S (c_X6_place l E K F G s.heap p0 p1) ms_X6_place km_X6_34 rfl rfl ⟨Nat.le_of_ble_eq_true rfl, Nat.le_of_ble_eq_true rfl⟩ hK (fun _ => XPh.blind) (fun U hU hW => XPh.at hK hz hS hT hU hW) rfl hl.1 (Nat.le_of_ble_eq_true rfl) dX6_sumOf_27 ⟨Nat.le_of_ble_eq_true rfl, Nat.le_of_ble_eq_true rfl⟩) hS ?_
        rintro _ _ locs ⟨x13, rfl, t14⟩ hS
        have t14 : 0 ≤ p0.toInt ∧ p0.toInt < 3 ∧ 0 ≤ p1.toInt ∧ p1.toInt < 3 → x13.toInt = (p0.toInt * 3 + p1.toInt) * 30 := t14
        refine lv_istore (lv' := [(5, .int x13), (0, .ref a), (1, .int p0), (2, .int p1), (3, .int p2), (4, .int p3)]) hx hb dX6_sumOf_30 hl (by decide) rfl (fun ls hl => ?_)
        refine lv_iload_n hx hb dX6_sumOf_32 rfl (lv_at hl 2 rfl) ?_
        refine lv_iload hx hb dX6_sumOf_33 (lv_at hl 5 rfl) ?_
        refine x_clp (x_runS (As := [.int p0, .int p3]) (rest := []) S (c_X6_place l E K F G s.heap p0 p3) ms_X6_place km_X6_34 rfl rfl ⟨Nat.le_of_ble_eq_true rfl, Nat.le_of_ble_eq_true rfl⟩ hK (fun _ => XPh.blind) (fun U hU hW => XPh.at hK hz hS hT hU hW) rfl hl.1 (Nat.le_of_ble_eq_true rfl) dX6_sumOf_35 ⟨Nat.le_of_ble_eq_true rfl, Nat.le_of_ble_eq_true rfl⟩) hS ?_
        rintro _ _ locs ⟨x15, rfl, t16⟩ hS
        have t16 : 0 ≤ p0.toInt ∧ p0.toInt < 3 ∧ 0 ≤ p3.toInt ∧ p3.toInt < 3 → x15.toInt = (p0.toInt * 3 + p3.toInt) * 30 := t16
        refine lv_istore (lv' := [(6, .int x15), (5, .int x13), (0, .ref a), (1, .int p0), (2, .int p1), (3, .int p2), (4, .int p3)]) hx hb dX6_sumOf_38 hl (by decide) rfl (fun ls hl => ?_)
        refine lv_iconst (v := 0) hx hb dX6_sumOf_40 (by decide) ?_
        refine lv_istore (lv' := [(7, .int 0), (6, .int x15), (5, .int x13), (0, .ref a), (1, .int p0), (2, .int p1), (3, .int p2), (4, .int p3)]) hx hb dX6_sumOf_41 hl (by decide) rfl (fun ls hl => ?_)
        refine lv_iconst (v := 0) hx hb dX6_sumOf_43 (by decide) ?_
        refine lv_istore (lv' := [(8, .int 0), (7, .int 0), (6, .int x15), (5, .int x13), (0, .ref a), (1, .int p0), (2, .int p1), (3, .int p2), (4, .int p3)]) hx hb dX6_sumOf_44 hl (by decide) rfl (fun ls hl => ?_)
        refine lv_iconst (v := 0) hx hb dX6_sumOf_46 (by decide) ?_
        refine lv_istore (lv' := [(9, .int 0), (8, .int 0), (7, .int 0), (6, .int x15), (5, .int x13), (0, .ref a), (1, .int p0), (2, .int p1), (3, .int p2), (4, .int p3)]) hx hb dX6_sumOf_47 hl (by decide) rfl (fun ls hl => ?_)
        have L49 : ∀ (N20 : Nat) (x17 : Int32) (x18 : Int32) (x19 : Int32) (locs : List Loc) (ls : Array Slot), (0 : Int) ≤ x19.toInt → 2147483648 - x19.toInt < ((N20 : Nat) : Int) → TW E K F G [] s.heap → va_S (xA E) s.heap s.heap locs → lv_has ls 10 [(0, .ref a), (3, .int p2), (5, .int x13), (6, .int x15), (7, .int x17), (8, .int x18), (9, .int x19)] → W p l e rm_X6_sumOf s m args below meth c s.heap locs 0 0 Q (F0 m 49 ls []) := by
          intro N20
          induction N20 with
          | zero =>
            intro x17 x18 x19 locs ls hf21 hm22
            exact absurd hm22 (z_X6_sumOf_1 x19.toInt hf21 (xr x19))
          | succ N20 ih23 =>
            intro x17 x18 x19 locs ls hf21 hm22 hT hS hl
            refine lv_iload hx hb dX6_sumOf_49 (lv_at hl 6 rfl) ?_
            refine lv_bipush (v := 30) hx hb dX6_sumOf_51 (by decide) ?_
            refine xi_cge (tgt := 114) hx hb (rfl : Int32.toInt x19 = x19.toInt) ((by decide) : Int32.toInt 30 = (30 : Int)) dX6_sumOf_53 (by decide) (fun c24 => ?_) (fun c24 => ?_)
            · refine lv_iload hx hb dX6_sumOf_114 (lv_at hl 5 rfl) ?_
              refine xi_zeq (tgt := 124) hx hb (rfl : Int32.toInt x18 = x18.toInt) dX6_sumOf_116 (by decide) (fun c25 => ?_) (fun c25 => ?_)
              · refine lv_ldc (v := 100000) hx hb S.2.2.2.1 (S.2.2.2.2 _ (List.mem_cons_of_mem _ kc_X6_73)) dX6_sumOf_124 ?_
                exact x_ri hx hb hr hlk hQ (Nat.le_of_ble_eq_true rfl) (Nat.le_of_ble_eq_true rfl) hS dX6_sumOf_126 () ⟨_, rfl⟩ hh
              · refine lv_iload hx hb dX6_sumOf_119 (lv_at hl 4 rfl) ?_
                refine lv_goto (tgt := 126) hx hb dX6_sumOf_121 (by decide) ?_
                exact x_ri hx hb hr hlk hQ (Nat.le_of_ble_eq_true rfl) (Nat.le_of_ble_eq_true rfl) hS dX6_sumOf_126 () ⟨_, rfl⟩ hh
            · refine lv_aload_n hx hb dX6_sumOf_56 rfl (lv_at hl 0 rfl) ?_
              refine gX6_0 S hK hT ha kf_X6_9 dX6_sumOf_57 (fun hk26 => ?_)
              refine lv_iload hx hb dX6_sumOf_60 (lv_at hl 2 rfl) ?_
              refine lv_iload hx hb dX6_sumOf_62 (lv_at hl 6 rfl) ?_
              refine xi_iadd hx hb (rfl : Int32.toInt x13 = x13.toInt) (rfl : Int32.toInt x19 = x19.toInt) dX6_sumOf_64 (fun x27 t28 => ?_)
              refine al_0 S hK hT hk26 ar_20 (by decide) (z_X6_sumOf_2 p0.toInt p1.toInt p3.toInt x1.toInt x13.toInt x15.toInt x19.toInt x27.toInt x5.toInt x9.toInt N20 t3 c4 t7 c8 t11 c12 t14 t16 hf21 hm22 c24 t28 (xr p0) (xr p1) (xr p3) (xr x1) (xr x13) (xr x15) (xr x19) (xr x27) (xr x5) (xr x9)) dX6_sumOf_65 (fun x29 o30 => ?_)
              refine lv_iload_n hx hb dX6_sumOf_66 rfl (lv_at hl 1 rfl) ?_
              have J108 : ∀ (x31 : Int32) (x32 : Int32) (locs : List Loc) (ls : Array Slot), TW E K F G [] s.heap → va_S (xA E) s.heap s.heap locs → lv_has ls 10 [(0, .ref a), (3, .int p2), (5, .int x13), (6, .int x15), (7, .int x31), (8, .int x32), (9, .int x19)] → W p l e rm_X6_sumOf s m args below meth c s.heap locs 0 0 Q (F0 m 108 ls []) := by
                intro x31 x32 locs ls hT hS hl
                refine xi_iinc (n := 1) (lv' := fun z9 => [(9, .int z9), (0, .ref a), (3, .int p2), (5, .int x13), (6, .int x15), (7, .int x31), (8, .int x32)]) (k := 6) hx hb (rfl : Int32.toInt x19 = x19.toInt) (by decide) dX6_sumOf_108 hl rfl (by decide) (fun _ => rfl) (fun x33 ls t34 hl => ?_)
                have hl : lv_has ls 10 [(9, .int x33), (0, .ref a), (3, .int p2), (5, .int x13), (6, .int x15), (7, .int x31), (8, .int x32)] := hl
                refine lv_goto (tgt := 49) hx hb dX6_sumOf_111 (by decide) ?_
                exact ih23 x31 x32 x33 _ _ (z_X6_sumOf_3 p0.toInt p1.toInt p3.toInt x1.toInt x13.toInt x15.toInt x19.toInt x27.toInt x33.toInt x5.toInt x9.toInt N20 t3 c4 t7 c8 t11 c12 t14 t16 hf21 hm22 c24 t28 t34 (xr p0) (xr p1) (xr p3) (xr x1) (xr x13) (xr x15) (xr x19) (xr x27) (xr x33) (xr x5) (xr x9)) (z_X6_sumOf_4 p0.toInt p1.toInt p3.toInt x1.toInt x13.toInt x15.toInt x19.toInt x27.toInt x33.toInt x5.toInt x9.toInt N20 t3 c4 t7 c8 t11 c12 t14 t16 hf21 hm22 c24 t28 t34 (xr p0) (xr p1) (xr p3) (xr x1) (xr x13) (xr x15) (xr x19) (xr x27) (xr x33) (xr x5) (xr x9)) hT.nil hS (lv_sub hl [1, 2, 3, 4, 5, 6, 0] rfl)
              refine xi_cne (tgt := 108) hx hb (rfl : Int32.toInt x29 = x29.toInt) (rfl : Int32.toInt p2 = p2.toInt) dX6_sumOf_67 (by decide) (fun c35 => ?_) (fun c35 => ?_)
              · exact J108 x17 x18 _ _ hT.nil hS (lv_sub hl [0, 1, 2, 3, 4, 5, 6] rfl)
              · refine lv_iconst (v := 1) hx hb dX6_sumOf_70 (by decide) ?_
                refine lv_istore (lv' := [(8, .int 1), (0, .ref a), (3, .int p2), (5, .int x13), (6, .int x15), (7, .int x17), (9, .int x19)]) hx hb dX6_sumOf_71 hl (by decide) rfl (fun ls hl => ?_)
                refine lv_iload hx hb dX6_sumOf_73 (lv_at hl 5 rfl) ?_
                refine lv_aload_n hx hb dX6_sumOf_75 rfl (lv_at hl 1 rfl) ?_
                refine gX6_0 S hK hT ha kf_X6_9 dX6_sumOf_76 (fun hk36 => ?_)
                refine lv_iload hx hb dX6_sumOf_79 (lv_at hl 4 rfl) ?_
                refine lv_iload hx hb dX6_sumOf_81 (lv_at hl 6 rfl) ?_
                refine xi_iadd hx hb (rfl : Int32.toInt x15 = x15.toInt) (rfl : Int32.toInt x19 = x19.toInt) dX6_sumOf_83 (fun x37 t38 => ?_)
                refine al_0 S hK hT hk36 ar_20 (by decide) (z_X6_sumOf_5 p0.toInt p1.toInt p3.toInt x1.toInt x13.toInt x15.toInt x19.toInt x27.toInt x37.toInt x5.toInt x9.toInt N20 t3 c4 t7 c8 t11 c12 t14 t16 hf21 hm22 c24 t28 t38 (xr p0) (xr p1) (xr p3) (xr x1) (xr x13) (xr x15) (xr x19) (xr x27) (xr x37) (xr x5) (xr x9)) dX6_sumOf_84 (fun x39 o40 => ?_)
                refine lv_sipush (v := (-1000)) hx hb dX6_sumOf_85 (by decide) ?_
                have J105 : ∀ (x41 : Int32) (locs : List Loc) (ls : Array Slot), TW E K F G [] s.heap → va_S (xA E) s.heap s.heap locs → lv_has ls 10 [(0, .ref a), (3, .int p2), (5, .int x13), (6, .int x15), (8, .int 1), (9, .int x19)] → W p l e rm_X6_sumOf s m args below meth c s.heap locs 0 0 Q (F0 m 105 ls [.int x41, .int x17]) := by
                  intro x41 locs ls hT hS hl
                  refine xi_iadd hx hb (rfl : Int32.toInt x17 = x17.toInt) (rfl : Int32.toInt x41 = x41.toInt) dX6_sumOf_105 (fun x42 t43 => ?_)
                  refine lv_istore (lv' := [(7, .int x42), (0, .ref a), (3, .int p2), (5, .int x13), (6, .int x15), (8, .int 1), (9, .int x19)]) hx hb dX6_sumOf_106 hl (by decide) rfl (fun ls hl => ?_)
                  exact J108 x42 1 _ _ hT.nil hS (lv_sub hl [1, 2, 3, 4, 0, 5, 6] rfl)
                refine xi_cne (tgt := 95) hx hb (rfl : Int32.toInt x39 = x39.toInt) ((by decide) : Int32.toInt (-1000) = (-1000 : Int)) dX6_sumOf_88 (by decide) (fun c44 => ?_) (fun c44 => ?_)
                · refine lv_aload_n hx hb dX6_sumOf_95 rfl (lv_at hl 1 rfl) ?_
                  refine gX6_0 S hK hT ha kf_X6_9 dX6_sumOf_96 (fun hk45 => ?_)
                  refine lv_iload hx hb dX6_sumOf_99 (lv_at hl 4 rfl) ?_
                  refine lv_iload hx hb dX6_sumOf_101 (lv_at hl 6 rfl) ?_
                  refine xi_iadd hx hb (rfl : Int32.toInt x15 = x15.toInt) (rfl : Int32.toInt x19 = x19.toInt) dX6_sumOf_103 (fun x46 t47 => ?_)
                  refine al_0 S hK hT hk45 ar_20 (by decide) (z_X6_sumOf_6 p0.toInt p1.toInt p3.toInt x1.toInt x13.toInt x15.toInt x19.toInt x27.toInt x37.toInt x46.toInt x5.toInt x9.toInt N20 t3 c4 t7 c8 t11 c12 t14 t16 hf21 hm22 c24 t28 t38 t47 (xr p0) (xr p1) (xr p3) (xr x1) (xr x13) (xr x15) (xr x19) (xr x27) (xr x37) (xr x46) (xr x5) (xr x9)) dX6_sumOf_104 (fun x48 o49 => ?_)
                  exact J105 x48 _ _ hT.nil hS (lv_sub hl [1, 2, 3, 4, 0, 6] rfl)
                · refine lv_iconst (v := 0) hx hb dX6_sumOf_91 (by decide) ?_
                  refine lv_goto (tgt := 105) hx hb dX6_sumOf_92 (by decide) ?_
                  exact J105 0 _ _ hT.nil hS (lv_sub hl [1, 2, 3, 4, 0, 6] rfl)
        exact L49 4294967297 0 0 0 _ _ (by decide) (by decide) hT.nil hS (lv_sub hl [5, 8, 4, 3, 2, 1, 0] rfl)
      · refine lv_ldc (v := 100000) hx hb S.2.2.2.1 (S.2.2.2.2 _ (List.mem_cons_of_mem _ kc_X6_73)) dX6_sumOf_22 ?_
        exact x_ri hx hb hr hlk hQ (Nat.le_of_ble_eq_true rfl) (Nat.le_of_ble_eq_true rfl) hS dX6_sumOf_24 () ⟨_, rfl⟩ hh

theorem z_X6_newNulls_1 (a0 : Int) (h0 : (0 : Int) ≤ a0) (r0 : -2147483648 ≤ a0 ∧ a0 < 2147483648) : ¬ (2147483648 - a0 < ((0 : Nat) : Int)) := by omega
theorem z_X6_newNulls_2 (a0 : Int) (a1 : Nat) (h0 : (0 : Int) ≤ a0) (h1 : 2147483648 - a0 < ((a1 + 1 : Nat) : Int)) (h2 : ¬ ((270 : Int) ≤ a0)) (r0 : -2147483648 ≤ a0 ∧ a0 < 2147483648) : 0 ≤ a0 ∧ a0 < ((270 : Nat) : Int) := by omega
theorem z_X6_newNulls_3 (a0 : Int) (a1 : Int) (a2 : Nat) (h0 : (0 : Int) ≤ a1) (h1 : 2147483648 - a1 < ((a2 + 1 : Nat) : Int)) (h2 : ¬ ((270 : Int) ≤ a1)) (h3 : a0 = a1 + 1 ∨ a1 + 1 < -2147483648 ∨ 2147483648 ≤ a1 + 1) (r0 : -2147483648 ≤ a0 ∧ a0 < 2147483648) (r1 : -2147483648 ≤ a1 ∧ a1 < 2147483648) : (0 : Int) ≤ a0 := by omega
theorem z_X6_newNulls_4 (a0 : Int) (a1 : Int) (a2 : Nat) (h0 : (0 : Int) ≤ a1) (h1 : 2147483648 - a1 < ((a2 + 1 : Nat) : Int)) (h2 : ¬ ((270 : Int) ≤ a1)) (h3 : a0 = a1 + 1 ∨ a1 + 1 < -2147483648 ∨ 2147483648 ≤ a1 + 1) (r0 : -2147483648 ≤ a0 ∧ a0 < 2147483648) (r1 : -2147483648 ≤ a1 ∧ a1 < 2147483648) : 2147483648 - a0 < ((a2 : Nat) : Int) := by omega
theorem z_X6_newNulls_5 (a0 : Int) (a1 : Nat) (h0 : (0 : Int) ≤ a0) (h1 : 2147483648 - a0 < ((a1 + 1 : Nat) : Int)) (h2 : ¬ ((270 : Int) ≤ a0)) (r0 : -2147483648 ≤ a0 ∧ a0 < 2147483648) : 0 ≤ a0 ∧ a0 < ((270 : Nat) : Int) := by omega
abbrev rm_X6_newNulls : Room := { frames := 0, cells := 0, slots := 0, locals := 0 }
set_option maxHeartbeats 4000000 in
set_option maxRecDepth 100000 in
theorem c_X6_newNulls (l : Launch) (E : XE) (K : Nat → Nat) (F : Nat → Nat → Nat) (G : XG) (h0 : Heap) (a : Nat) (p0 : Nat) (ha : K a = 8) (hp0 : K p0 = 8) : Met l yX6_newNulls (xw yX6_newNulls cX6_newNulls 4 (some .int)) rm_X6_newNulls (va_Pc [.ref a, .ref p0] (XPh E K F G h0)) (XQ E (fun v (u : Unit) => ∃ r : Int32, v = .int r) (fun _ H => H = h0)) 0 0 (xA E) := by
  refine x_enter (by decide) (Nat.le_of_ble_eq_true rfl) ?_
  intro p e s m args below meth c Q S hr hlk hnm hQ hP ls hl
  obtain ⟨⟨hz, hK, hT⟩, hh⟩ := hP
  obtain ⟨hx, hb, -, -, -⟩ := id S
  have hS : va_S (xA E) s.heap s.heap [] := va_S.rf
  have hl : lv_has ls 4 [(0, .ref a), (1, .ref p0)] := hl
  refine lv_iconst (v := 0) hx hb dX6_newNulls_0 (by decide) ?_
  refine lv_istore_n (lv' := [(2, .int 0), (0, .ref a), (1, .ref p0)]) hx hb dX6_newNulls_1 rfl hl (by decide) rfl (fun ls hl => ?_)
  refine lv_iconst (v := 0) hx hb dX6_newNulls_2 (by decide) ?_
  refine lv_istore_n (lv' := [(3, .int 0), (2, .int 0), (0, .ref a), (1, .ref p0)]) hx hb dX6_newNulls_3 rfl hl (by decide) rfl (fun ls hl => ?_)
  have L4 : ∀ (N3 : Nat) (x1 : Int32) (x2 : Int32) (locs : List Loc) (ls : Array Slot), (0 : Int) ≤ x2.toInt → 2147483648 - x2.toInt < ((N3 : Nat) : Int) → TW E K F G [] s.heap → va_S (xA E) s.heap s.heap locs → lv_has ls 4 [(0, .ref a), (1, .ref p0), (2, .int x1), (3, .int x2)] → W p l e rm_X6_newNulls s m args below meth c s.heap locs 0 0 Q (F0 m 4 ls []) := by
    intro N3
    induction N3 with
    | zero =>
      intro x1 x2 locs ls hf4 hm5
      exact absurd hm5 (z_X6_newNulls_1 x2.toInt hf4 (xr x2))
    | succ N3 ih6 =>
      intro x1 x2 locs ls hf4 hm5 hT hS hl
      refine lv_iload_n hx hb dX6_newNulls_4 rfl (lv_at hl 3 rfl) ?_
      refine lv_sipush (v := 270) hx hb dX6_newNulls_5 (by decide) ?_
      refine xi_cge (tgt := 44) hx hb (rfl : Int32.toInt x2 = x2.toInt) ((by decide) : Int32.toInt 270 = (270 : Int)) dX6_newNulls_8 (by decide) (fun c7 => ?_) (fun c7 => ?_)
      · refine lv_iload_n hx hb dX6_newNulls_44 rfl (lv_at hl 2 rfl) ?_
        exact x_ri hx hb hr hlk hQ (Nat.le_of_ble_eq_true rfl) (Nat.le_of_ble_eq_true rfl) hS dX6_newNulls_45 () ⟨_, rfl⟩ hh
      · refine lv_aload_n hx hb dX6_newNulls_11 rfl (lv_at hl 0 rfl) ?_
        refine gX6_0 S hK hT ha kf_X6_9 dX6_newNulls_12 (fun hk8 => ?_)
        refine lv_iload_n hx hb dX6_newNulls_15 rfl (lv_at hl 3 rfl) ?_
        refine al_0 S hK hT hk8 ar_20 (by decide) (z_X6_newNulls_2 x2.toInt N3 hf4 hm5 c7 (xr x2)) dX6_newNulls_16 (fun x9 o10 => ?_)
        refine lv_sipush (v := (-1000)) hx hb dX6_newNulls_17 (by decide) ?_
        have J38 : ∀ (x11 : Int32) (locs : List Loc) (ls : Array Slot), TW E K F G [] s.heap → va_S (xA E) s.heap s.heap locs → lv_has ls 4 [(0, .ref a), (1, .ref p0), (2, .int x11), (3, .int x2)] → W p l e rm_X6_newNulls s m args below meth c s.heap locs 0 0 Q (F0 m 38 ls []) := by
          intro x11 locs ls hT hS hl
          refine xi_iinc (n := 1) (lv' := fun z9 => [(3, .int z9), (0, .ref a), (1, .ref p0), (2, .int x11)]) (k := 3) hx hb (rfl : Int32.toInt x2 = x2.toInt) (by decide) dX6_newNulls_38 hl rfl (by decide) (fun _ => rfl) (fun x12 ls t13 hl => ?_)
          have hl : lv_has ls 4 [(3, .int x12), (0, .ref a), (1, .ref p0), (2, .int x11)] := hl
          refine lv_goto (tgt := 4) hx hb dX6_newNulls_41 (by decide) ?_
          exact ih6 x11 x12 _ _ (z_X6_newNulls_3 x12.toInt x2.toInt N3 hf4 hm5 c7 t13 (xr x12) (xr x2)) (z_X6_newNulls_4 x12.toInt x2.toInt N3 hf4 hm5 c7 t13 (xr x12) (xr x2)) hT.nil hS (lv_sub hl [1, 2, 3, 0] rfl)
        refine xi_cne (tgt := 38) hx hb (rfl : Int32.toInt x9 = x9.toInt) ((by decide) : Int32.toInt (-1000) = (-1000 : Int)) dX6_newNulls_20 (by decide) (fun c14 => ?_) (fun c14 => ?_)
        · exact J38 x1 _ _ hT.nil hS (lv_sub hl [0, 1, 2, 3] rfl)
        · refine lv_aload_n hx hb dX6_newNulls_23 rfl (lv_at hl 1 rfl) ?_
          refine gX6_0 S hK hT hp0 kf_X6_9 dX6_newNulls_24 (fun hk15 => ?_)
          refine lv_iload_n hx hb dX6_newNulls_27 rfl (lv_at hl 3 rfl) ?_
          refine al_0 S hK hT hk15 ar_20 (by decide) (z_X6_newNulls_5 x2.toInt N3 hf4 hm5 c7 (xr x2)) dX6_newNulls_28 (fun x16 o17 => ?_)
          refine lv_sipush (v := (-1000)) hx hb dX6_newNulls_29 (by decide) ?_
          refine xi_ceq (tgt := 38) hx hb (rfl : Int32.toInt x16 = x16.toInt) ((by decide) : Int32.toInt (-1000) = (-1000 : Int)) dX6_newNulls_32 (by decide) (fun c18 => ?_) (fun c18 => ?_)
          · exact J38 x1 _ _ hT.nil hS (lv_sub hl [0, 1, 2, 3] rfl)
          · refine xi_iinc (n := 1) (lv' := fun z9 => [(2, .int z9), (0, .ref a), (1, .ref p0), (3, .int x2)]) (k := 2) hx hb (rfl : Int32.toInt x1 = x1.toInt) (by decide) dX6_newNulls_35 hl rfl (by decide) (fun _ => rfl) (fun x19 ls t20 hl => ?_)
            have hl : lv_has ls 4 [(2, .int x19), (0, .ref a), (1, .ref p0), (3, .int x2)] := hl
            exact J38 x19 _ _ hT.nil hS (lv_sub hl [1, 2, 0, 3] rfl)
  exact L4 4294967297 0 0 _ _ (by decide) (by decide) hT.nil hS (lv_sub hl [2, 3, 1, 0] rfl)

abbrev rm_X6_copy : Room := { frames := 1, cells := 0, slots := 0, locals := 60 }
set_option maxHeartbeats 4000000 in
set_option maxRecDepth 100000 in
theorem c_X6_copy (l : Launch) (E : XE) (K : Nat → Nat) (F : Nat → Nat → Nat) (G : XG) (a : Nat) (p0 : Nat) (ha : K a = 8) (hp0 : K p0 = 8) : Met l yX6_copy (xw yX6_copy cX6_copy 2 none) rm_X6_copy (va_Pc [.ref a, .ref p0] (XP E K F G)) (XQv E (fun (u : Unit) => True) (fun _ H => TW E K F G [] H)) 0 0 (xA E) := by
  refine x_enter (by decide) (Nat.le_of_ble_eq_true rfl) ?_
  intro p e s m args below meth c Q S hr hlk hnm hQ hP ls hl
  obtain ⟨hz, hK, hT⟩ := hP
  obtain ⟨hx, hb, -, -, -⟩ := id S
  obtain ⟨H, hT, hS, hgo⟩ : ∃ H : Heap, TW E K F G [] H ∧ va_S (xA E) s.heap H [] ∧ H = s.heap := ⟨_, hT, va_S.rf, rfl⟩
  rw [← hgo]
  have hl : lv_has ls 2 [(0, .ref a), (1, .ref p0)] := hl
  refine lv_aload_n hx hb dX6_copy_0 rfl (lv_at hl 1 rfl) ?_
  refine gX6_0 S hK hT hp0 kf_X6_9 dX6_copy_1 (fun hk1 => ?_)
  refine lv_iconst (v := 0) hx hb dX6_copy_4 (by decide) ?_
  refine lv_aload_n hx hb dX6_copy_5 rfl (lv_at hl 0 rfl) ?_
  refine gX6_0 S hK hT ha kf_X6_9 dX6_copy_6 (fun hk2 => ?_)
  refine lv_iconst (v := 0) hx hb dX6_copy_9 (by decide) ?_
  refine lv_sipush (v := 270) hx hb dX6_copy_10 (by decide) ?_
  refine x_copy S hK hT hS kac km_X6_18 hk1 hk2 ar_20 ar_20 aw_20 (by decide) (by decide) (by decide) (by decide) (by decide) (by decide) hl.1 (Nat.le_of_ble_eq_true rfl) (Nat.le_of_ble_eq_true rfl) dX6_copy_13 (fun H locs hT hS => ?_)
  refine lv_aload_n hx hb dX6_copy_16 rfl (lv_at hl 1 rfl) ?_
  refine gX6_1 S hK hT hp0 kf_X6_15 dX6_copy_17 (fun hk3 => ?_)
  refine lv_iconst (v := 0) hx hb dX6_copy_20 (by decide) ?_
  refine lv_aload_n hx hb dX6_copy_21 rfl (lv_at hl 0 rfl) ?_
  refine gX6_1 S hK hT ha kf_X6_15 dX6_copy_22 (fun hk4 => ?_)
  refine lv_iconst (v := 0) hx hb dX6_copy_25 (by decide) ?_
  refine lv_iconst (v := 3) hx hb dX6_copy_26 (by decide) ?_
  refine x_copy S hK hT hS kac km_X6_18 hk3 hk4 ar_21 ar_21 aw_21 (by decide) (by decide) (by decide) (by decide) (by decide) (by decide) hl.1 (Nat.le_of_ble_eq_true rfl) (Nat.le_of_ble_eq_true rfl) dX6_copy_27 (fun H locs hT hS => ?_)
  exact x_rv hx hb hr hlk hQ (Nat.le_of_ble_eq_true rfl) (Nat.le_of_ble_eq_true rfl) hS dX6_copy_30 () trivial hT.nil
