abbrev rm_X9_isTold : Room := { frames := 0, cells := 0, slots := 0, locals := 0 }
set_option maxHeartbeats 4000000 in
set_option maxRecDepth 100000 in
theorem c_X9_isTold (l : Launch) (E : XE) (K : Nat → Nat) (F : Nat → Nat → Nat) (G : XG) (h0 : Heap) (a : Nat) (ha : K a = 11) : Met l yX9_isTold (xw yX9_isTold cX9_isTold 1 (some .boolean)) rm_X9_isTold (va_Pc [.ref a] (XPh E K F G h0)) (XQ E (fun v (u : Unit) => ∃ r : Int32, v = .int r ∧ (r = 0 ∨ r = 1)) (fun _ H => H = h0)) 0 0 (xA E) := by
  refine x_enter (by decide) (Nat.le_of_ble_eq_true rfl) ?_
  intro p e s m args below meth c Q S hr hlk hnm hQ hP ls hl
  obtain ⟨⟨hz, hK, hT⟩, hh⟩ := hP
  obtain ⟨hx, hb, -, -, -⟩ := id S
  have hS : va_S (xA E) s.heap s.heap [] := va_S.rf
  have hl : lv_has ls 1 [(0, .ref a)] := hl
  refine lv_aload_n hx hb dX9_isTold_0 rfl (lv_at hl 0 rfl) ?_
  refine gX9_1 S hK hT ha kf_X9_18 dX9_isTold_1 (fun x1 t2 hT => ?_)
  exact x_rz hx hb hr (xnz t2) hlk hQ (Nat.le_of_ble_eq_true rfl) (Nat.le_of_ble_eq_true rfl) hS dX9_isTold_4 () ⟨_, rfl, t2⟩ hh

abbrev rm_X9_number : Room := { frames := 0, cells := 0, slots := 0, locals := 0 }
set_option maxHeartbeats 4000000 in
set_option maxRecDepth 100000 in
theorem c_X9_number (l : Launch) (E : XE) (K : Nat → Nat) (F : Nat → Nat → Nat) (G : XG) (h0 : Heap) (a : Nat) (ha : K a = 11) : Met l yX9_number (xw yX9_number cX9_number 1 (some .int)) rm_X9_number (va_Pc [.ref a] (XPh E K F G h0)) (XQ E (fun v (u : Unit) => ∃ r : Int32, v = .int r) (fun _ H => H = h0)) 0 0 (xA E) := by
  refine x_enter (by decide) (Nat.le_of_ble_eq_true rfl) ?_
  intro p e s m args below meth c Q S hr hlk hnm hQ hP ls hl
  obtain ⟨⟨hz, hK, hT⟩, hh⟩ := hP
  obtain ⟨hx, hb, -, -, -⟩ := id S
  have hS : va_S (xA E) s.heap s.heap [] := va_S.rf
  have hl : lv_has ls 1 [(0, .ref a)] := hl
  refine lv_aload_n hx hb dX9_number_0 rfl (lv_at hl 0 rfl) ?_
  refine gX9_2 S hK hT ha kf_X9_26 dX9_number_1 (fun x1 hT => ?_)
  exact x_ri hx hb hr hlk hQ (Nat.le_of_ble_eq_true rfl) (Nat.le_of_ble_eq_true rfl) hS dX9_number_4 () ⟨_, rfl⟩ hh

abbrev rm_X9_subject : Room := { frames := 0, cells := 0, slots := 0, locals := 0 }
set_option maxHeartbeats 4000000 in
set_option maxRecDepth 100000 in
theorem c_X9_subject (l : Launch) (E : XE) (K : Nat → Nat) (F : Nat → Nat → Nat) (G : XG) (h0 : Heap) (a : Nat) (ha : K a = 11) : Met l yX9_subject (xw yX9_subject cX9_subject 1 (some .int)) rm_X9_subject (va_Pc [.ref a] (XPh E K F G h0)) (XQ E (fun v (u : Unit) => ∃ r : Int32, v = .int r) (fun _ H => H = h0)) 0 0 (xA E) := by
  refine x_enter (by decide) (Nat.le_of_ble_eq_true rfl) ?_
  intro p e s m args below meth c Q S hr hlk hnm hQ hP ls hl
  obtain ⟨⟨hz, hK, hT⟩, hh⟩ := hP
  obtain ⟨hx, hb, -, -, -⟩ := id S
  have hS : va_S (xA E) s.heap s.heap [] := va_S.rf
  have hl : lv_has ls 1 [(0, .ref a)] := hl
  refine lv_aload_n hx hb dX9_subject_0 rfl (lv_at hl 0 rfl) ?_
  refine gX9_3 S hK hT ha kf_X9_30 dX9_subject_1 (fun x1 hT => ?_)
  exact x_ri hx hb hr hlk hQ (Nat.le_of_ble_eq_true rfl) (Nat.le_of_ble_eq_true rfl) hS dX9_subject_4 () ⟨_, rfl⟩ hh

theorem z_X10_wordOf_1 (a0 : Int) (r0 : -2147483648 ≤ a0 ∧ a0 < 2147483648) : (a0 < 0 ∨ 4 < a0) ∨ (a0 = 0) ∨ (a0 = 1) ∨ (a0 = 2) ∨ (a0 = 3) ∨ (a0 = 4) := by omega
abbrev rm_X10_wordOf : Room := { frames := 0, cells := 0, slots := 0, locals := 0 }
set_option maxHeartbeats 4000000 in
set_option maxRecDepth 100000 in
theorem c_X10_wordOf (l : Launch) (E : XE) (K : Nat → Nat) (F : Nat → Nat → Nat) (G : XG) (h0 : Heap) (p0 : Int32)  : Met l yX10_wordOf (xw yX10_wordOf cX10_wordOf 1 (some (.object "java/lang/String"))) rm_X10_wordOf (va_Pc [.int p0] (XPh E K F G h0)) (XQ E (fun v (u : Unit) => ∃ i : Nat, i < 6 ∧ v = .ref (E.2.2.2.2.1 i)) (fun _ H => H = h0)) 0 0 (xA E) := by
  refine x_enter (by decide) (Nat.le_of_ble_eq_true rfl) ?_
  intro p e s m args below meth c Q S hr hlk hnm hQ hP ls hl
  obtain ⟨⟨hz, hK, hT⟩, hh⟩ := hP
  obtain ⟨hx, hb, -, -, -⟩ := id S
  have hS : va_S (xA E) s.heap s.heap [] := va_S.rf
  have hl : lv_has ls 1 [(0, .int p0)] := hl
  refine lv_iload_n hx hb dX10_wordOf_0 rfl (lv_at hl 0 rfl) ?_
  rcases ((z_X10_wordOf_1 p0.toInt (xr p0)) : (p0.toInt < 0 ∨ 4 < p0.toInt) ∨ (p0.toInt = 0) ∨ (p0.toInt = 1) ∨ (p0.toInt = 2) ∨ (p0.toInt = 3) ∨ (p0.toInt = 4)) with c1 | c1 | c1 | c1 | c1 | c1
  · refine lv_tableOut (tgt := 56) hx hb dX10_wordOf_1 c1 (by decide) ?_
    refine x_ldcSw hx hb S.2.2.2.1 (hK.2.2.1 5 _ rfl) dX10_wordOf_56 ?_
    exact x_ra hx hb hr (by first | exact Or.inl ⟨_, rfl⟩ | exact Or.inr ⟨_, rfl⟩) (by first | exact Or.inl rfl | exact Or.inr ⟨_, rfl⟩) hlk hQ (Nat.le_of_ble_eq_true rfl) (Nat.le_of_ble_eq_true rfl) hS dX10_wordOf_59 () ⟨5, by decide, rfl⟩ hh
  · refine lv_tableIn (off := 35) (tgt := 36) hx hb dX10_wordOf_1 (by rw [c1]; decide) (by rw [c1]; decide) (by rw [c1]; rfl) (by decide) ?_
    refine x_ldcSw hx hb S.2.2.2.1 (hK.2.2.1 0 _ rfl) dX10_wordOf_36 ?_
    exact x_ra hx hb hr (by first | exact Or.inl ⟨_, rfl⟩ | exact Or.inr ⟨_, rfl⟩) (by first | exact Or.inl rfl | exact Or.inr ⟨_, rfl⟩) hlk hQ (Nat.le_of_ble_eq_true rfl) (Nat.le_of_ble_eq_true rfl) hS dX10_wordOf_39 () ⟨0, by decide, rfl⟩ hh
  · refine lv_tableIn (off := 39) (tgt := 40) hx hb dX10_wordOf_1 (by rw [c1]; decide) (by rw [c1]; decide) (by rw [c1]; rfl) (by decide) ?_
    refine x_ldcSw hx hb S.2.2.2.1 (hK.2.2.1 1 _ rfl) dX10_wordOf_40 ?_
    exact x_ra hx hb hr (by first | exact Or.inl ⟨_, rfl⟩ | exact Or.inr ⟨_, rfl⟩) (by first | exact Or.inl rfl | exact Or.inr ⟨_, rfl⟩) hlk hQ (Nat.le_of_ble_eq_true rfl) (Nat.le_of_ble_eq_true rfl) hS dX10_wordOf_43 () ⟨1, by decide, rfl⟩ hh
  · refine lv_tableIn (off := 43) (tgt := 44) hx hb dX10_wordOf_1 (by rw [c1]; decide) (by rw [c1]; decide) (by rw [c1]; rfl) (by decide) ?_
    refine x_ldcSw hx hb S.2.2.2.1 (hK.2.2.1 2 _ rfl) dX10_wordOf_44 ?_
    exact x_ra hx hb hr (by first | exact Or.inl ⟨_, rfl⟩ | exact Or.inr ⟨_, rfl⟩) (by first | exact Or.inl rfl | exact Or.inr ⟨_, rfl⟩) hlk hQ (Nat.le_of_ble_eq_true rfl) (Nat.le_of_ble_eq_true rfl) hS dX10_wordOf_47 () ⟨2, by decide, rfl⟩ hh
  · refine lv_tableIn (off := 47) (tgt := 48) hx hb dX10_wordOf_1 (by rw [c1]; decide) (by rw [c1]; decide) (by rw [c1]; rfl) (by decide) ?_
    refine x_ldcSw hx hb S.2.2.2.1 (hK.2.2.1 3 _ rfl) dX10_wordOf_48 ?_
    exact x_ra hx hb hr (by first | exact Or.inl ⟨_, rfl⟩ | exact Or.inr ⟨_, rfl⟩) (by first | exact Or.inl rfl | exact Or.inr ⟨_, rfl⟩) hlk hQ (Nat.le_of_ble_eq_true rfl) (Nat.le_of_ble_eq_true rfl) hS dX10_wordOf_51 () ⟨3, by decide, rfl⟩ hh
  · refine lv_tableIn (off := 51) (tgt := 52) hx hb dX10_wordOf_1 (by rw [c1]; decide) (by rw [c1]; decide) (by rw [c1]; rfl) (by decide) ?_
    refine x_ldcSw hx hb S.2.2.2.1 (hK.2.2.1 4 _ rfl) dX10_wordOf_52 ?_
    exact x_ra hx hb hr (by first | exact Or.inl ⟨_, rfl⟩ | exact Or.inr ⟨_, rfl⟩) (by first | exact Or.inl rfl | exact Or.inr ⟨_, rfl⟩) hlk hQ (Nat.le_of_ble_eq_true rfl) (Nat.le_of_ble_eq_true rfl) hS dX10_wordOf_55 () ⟨4, by decide, rfl⟩ hh

theorem z_X10_rowsAtMark_1 (a0 : Int) (a1 : Int) (h0 : ¬ (a0 < 0)) (h1 : ¬ (a1 ≤ a0)) (h2 : ¬ ((8 : Int) ≤ a0)) (r0 : -2147483648 ≤ a0 ∧ a0 < 2147483648) (r1 : -2147483648 ≤ a1 ∧ a1 < 2147483648) : 0 ≤ a0 ∧ a0 < 8 := by omega
abbrev rm_X10_rowsAtMark : Room := { frames := 0, cells := 0, slots := 0, locals := 0 }
set_option maxHeartbeats 4000000 in
set_option maxRecDepth 100000 in
theorem c_X10_rowsAtMark (l : Launch) (E : XE) (K : Nat → Nat) (F : Nat → Nat → Nat) (G : XG) (h0 : Heap) (a : Nat) (p0 : Int32) (ha : K a = 12) : Met l yX10_rowsAtMark (xw yX10_rowsAtMark cX10_rowsAtMark 2 (some (.object "LateRules$Rows"))) rm_X10_rowsAtMark (va_Pc [.ref a, .int p0] (XPh E K F G h0)) (XQ E (fun v (u : Unit) => v = .null ∨ ∃ r : Nat, v = .ref r ∧ K r = 8) (fun _ H => H = h0)) 0 0 (xA E) := by
  refine x_enter (by decide) (Nat.le_of_ble_eq_true rfl) ?_
  intro p e s m args below meth c Q S hr hlk hnm hQ hP ls hl
  obtain ⟨⟨hz, hK, hT⟩, hh⟩ := hP
  obtain ⟨hx, hb, -, -, -⟩ := id S
  have hS : va_S (xA E) s.heap s.heap [] := va_S.rf
  have hl : lv_has ls 2 [(0, .ref a), (1, .int p0)] := hl
  refine lv_iload_n hx hb dX10_rowsAtMark_0 rfl (lv_at hl 1 rfl) ?_
  refine xi_zlt (tgt := 27) hx hb (rfl : Int32.toInt p0 = p0.toInt) dX10_rowsAtMark_1 (by decide) (fun c1 => ?_) (fun c1 => ?_)
  · refine lv_null hx hb dX10_rowsAtMark_27 ?_
    exact x_ra hx hb hr (by first | exact Or.inl ⟨_, rfl⟩ | exact Or.inr ⟨_, rfl⟩) (by first | exact Or.inl rfl | exact Or.inr ⟨_, rfl⟩) hlk hQ (Nat.le_of_ble_eq_true rfl) (Nat.le_of_ble_eq_true rfl) hS dX10_rowsAtMark_28 () (Or.inl rfl) hh
  · refine lv_iload_n hx hb dX10_rowsAtMark_4 rfl (lv_at hl 1 rfl) ?_
    refine lv_aload_n hx hb dX10_rowsAtMark_5 rfl (lv_at hl 0 rfl) ?_
    refine gX10_17 S hK hT ha kf_X10_233 dX10_rowsAtMark_6 (fun x2 hT => ?_)
    refine xi_cge (tgt := 27) hx hb (rfl : Int32.toInt p0 = p0.toInt) (rfl : Int32.toInt x2 = x2.toInt) dX10_rowsAtMark_9 (by decide) (fun c3 => ?_) (fun c3 => ?_)
    · refine lv_null hx hb dX10_rowsAtMark_27 ?_
      exact x_ra hx hb hr (by first | exact Or.inl ⟨_, rfl⟩ | exact Or.inr ⟨_, rfl⟩) (by first | exact Or.inl rfl | exact Or.inr ⟨_, rfl⟩) hlk hQ (Nat.le_of_ble_eq_true rfl) (Nat.le_of_ble_eq_true rfl) hS dX10_rowsAtMark_28 () (Or.inl rfl) hh
    · refine lv_iload_n hx hb dX10_rowsAtMark_12 rfl (lv_at hl 1 rfl) ?_
      refine lv_bipush (v := 8) hx hb dX10_rowsAtMark_13 (by decide) ?_
      refine xi_cge (tgt := 27) hx hb (rfl : Int32.toInt p0 = p0.toInt) ((by decide) : Int32.toInt 8 = (8 : Int)) dX10_rowsAtMark_15 (by decide) (fun c4 => ?_) (fun c4 => ?_)
      · refine lv_null hx hb dX10_rowsAtMark_27 ?_
        exact x_ra hx hb hr (by first | exact Or.inl ⟨_, rfl⟩ | exact Or.inr ⟨_, rfl⟩) (by first | exact Or.inl rfl | exact Or.inr ⟨_, rfl⟩) hlk hQ (Nat.le_of_ble_eq_true rfl) (Nat.le_of_ble_eq_true rfl) hS dX10_rowsAtMark_28 () (Or.inl rfl) hh
      · refine lv_aload_n hx hb dX10_rowsAtMark_18 rfl (lv_at hl 0 rfl) ?_
        refine gX10_7 S hK hT ha kf_X10_50 dX10_rowsAtMark_19 (fun hk5 => ?_)
        refine lv_iload_n hx hb dX10_rowsAtMark_22 rfl (lv_at hl 1 rfl) ?_
        refine al_16 S hK hT hk5 (z_X10_rowsAtMark_1 p0.toInt x2.toInt c1 c3 c4 (xr p0) (xr x2)) dX10_rowsAtMark_23 (fun q6 hk7 => ?_)
        refine lv_goto (tgt := 28) hx hb dX10_rowsAtMark_24 (by decide) ?_
        exact x_ra hx hb hr (by first | exact Or.inl ⟨_, rfl⟩ | exact Or.inr ⟨_, rfl⟩) (by first | exact Or.inl rfl | exact Or.inr ⟨_, rfl⟩) hlk hQ (Nat.le_of_ble_eq_true rfl) (Nat.le_of_ble_eq_true rfl) hS dX10_rowsAtMark_28 () (Or.inr ⟨_, rfl, hk7⟩) hh

theorem z_X10_gather_1 (a0 : Int) (h0 : (0 : Int) ≤ a0) (r0 : -2147483648 ≤ a0 ∧ a0 < 2147483648) : ¬ (2147483648 - a0 < ((0 : Nat) : Int)) := by omega
theorem z_X10_gather_2 (a0 : Int) (a1 : Int) (a2 : Int) (a3 : Nat) (h0 : (0 : Int) ≤ a1) (h1 : 2147483648 - a1 < ((a3 + 1 : Nat) : Int)) (h2 : ¬ (a2 ≤ a1)) (h3 : a0 = a1 + 1 ∨ a1 + 1 < -2147483648 ∨ 2147483648 ≤ a1 + 1) (r0 : -2147483648 ≤ a0 ∧ a0 < 2147483648) (r1 : -2147483648 ≤ a1 ∧ a1 < 2147483648) (r2 : -2147483648 ≤ a2 ∧ a2 < 2147483648) : (0 : Int) ≤ a0 := by omega
theorem z_X10_gather_3 (a0 : Int) (a1 : Int) (a2 : Int) (a3 : Nat) (h0 : (0 : Int) ≤ a1) (h1 : 2147483648 - a1 < ((a3 + 1 : Nat) : Int)) (h2 : ¬ (a2 ≤ a1)) (h3 : a0 = a1 + 1 ∨ a1 + 1 < -2147483648 ∨ 2147483648 ≤ a1 + 1) (r0 : -2147483648 ≤ a0 ∧ a0 < 2147483648) (r1 : -2147483648 ≤ a1 ∧ a1 < 2147483648) (r2 : -2147483648 ≤ a2 ∧ a2 < 2147483648) : 2147483648 - a0 < ((a3 : Nat) : Int) := by omega
theorem z_X10_gather_4 (a0 : Int) (a1 : Int) (a2 : Int) (a3 : Nat) (h0 : (0 : Int) ≤ a1) (h1 : 2147483648 - a1 < ((a3 + 1 : Nat) : Int)) (h2 : ¬ (a2 ≤ a1)) (h3 : a0 = a1 + 1 ∨ a1 + 1 < -2147483648 ∨ 2147483648 ≤ a1 + 1) (r0 : -2147483648 ≤ a0 ∧ a0 < 2147483648) (r1 : -2147483648 ≤ a1 ∧ a1 < 2147483648) (r2 : -2147483648 ≤ a2 ∧ a2 < 2147483648) : (0 : Int) ≤ a0 := by omega
theorem z_X10_gather_5 (a0 : Int) (a1 : Int) (a2 : Int) (a3 : Nat) (h0 : (0 : Int) ≤ a1) (h1 : 2147483648 - a1 < ((a3 + 1 : Nat) : Int)) (h2 : ¬ (a2 ≤ a1)) (h3 : a0 = a1 + 1 ∨ a1 + 1 < -2147483648 ∨ 2147483648 ≤ a1 + 1) (r0 : -2147483648 ≤ a0 ∧ a0 < 2147483648) (r1 : -2147483648 ≤ a1 ∧ a1 < 2147483648) (r2 : -2147483648 ≤ a2 ∧ a2 < 2147483648) : 2147483648 - a0 < ((a3 : Nat) : Int) := by omega
theorem z_X10_gather_6 (a0 : Int) (a1 : Int) (a2 : Int) (a3 : Nat) (h0 : (0 : Int) ≤ a0) (h1 : 2147483648 - a0 < ((a3 + 1 : Nat) : Int)) (h2 : ¬ (a2 ≤ a0)) (h3 : a1 = a0 + 1 ∨ a0 + 1 < -2147483648 ∨ 2147483648 ≤ a0 + 1) (r0 : -2147483648 ≤ a0 ∧ a0 < 2147483648) (r1 : -2147483648 ≤ a1 ∧ a1 < 2147483648) (r2 : -2147483648 ≤ a2 ∧ a2 < 2147483648) : (0 : Int) ≤ a1 := by omega
theorem z_X10_gather_7 (a0 : Int) (a1 : Int) (a2 : Int) (a3 : Nat) (h0 : (0 : Int) ≤ a0) (h1 : 2147483648 - a0 < ((a3 + 1 : Nat) : Int)) (h2 : ¬ (a2 ≤ a0)) (h3 : a1 = a0 + 1 ∨ a0 + 1 < -2147483648 ∨ 2147483648 ≤ a0 + 1) (r0 : -2147483648 ≤ a0 ∧ a0 < 2147483648) (r1 : -2147483648 ≤ a1 ∧ a1 < 2147483648) (r2 : -2147483648 ≤ a2 ∧ a2 < 2147483648) : 2147483648 - a1 < ((a3 : Nat) : Int) := by omega
abbrev rm_X10_gather : Room := { frames := 5, cells := 0, slots := 0, locals := 123 }
set_option maxHeartbeats 4000000 in
set_option maxRecDepth 100000 in
theorem c_X10_gather (l : Launch) (E : XE) (K : Nat → Nat) (F : Nat → Nat → Nat) (G : XG) (a : Nat) (p0 : Nat) (p1 : Nat) (p2 : Nat) (p3 : Int32) (ha : K a = 12) (hp0 : K p0 = 6) (hp1 : K p1 = 8) (hp2 : K p2 = 8) : Met l yX10_gather (xw yX10_gather cX10_gather 7 none) rm_X10_gather (va_Pc [.ref a, .ref p0, .ref p1, .ref p2, .int p3] (XP E K F G)) (XQv E (fun (u : Unit) => True) (fun _ H => TW E K F G [] H)) 0 0 (xA E) := by
  refine x_enter (by decide) (Nat.le_of_ble_eq_true rfl) ?_
  intro p e s m args below meth c Q S hr hlk hnm hQ hP ls hl
  obtain ⟨hz, hK, hT⟩ := hP
  obtain ⟨hx, hb, -, -, -⟩ := id S
  obtain ⟨H, hT, hS, hgo⟩ : ∃ H : Heap, TW E K F G [] H ∧ va_S (xA E) s.heap H [] ∧ H = s.heap := ⟨_, hT, va_S.rf, rfl⟩
  rw [← hgo]
  have hl : lv_has ls 7 [(0, .ref a), (1, .ref p0), (2, .ref p1), (3, .ref p2), (4, .int p3)] := hl
  refine lv_aload_n hx hb dX10_gather_0 rfl (lv_at hl 1 rfl) ?_
  refine x_cv0 (x_runV (b := p0) (As := []) (rest := []) S (c_X4_clear l E K F G p0 hp0) mv_X4_clear km_X10_386 rfl rfl ⟨Nat.le_of_ble_eq_true rfl, Nat.le_of_ble_eq_true rfl⟩ (rc_6 hK hT hp0) hK (fun _ => XP.blind) (fun U hU hW => XP.at hK hz hS hT hU hW) rfl hl.1 (Nat.le_of_ble_eq_true rfl) dX10_gather_1 ⟨Nat.le_of_ble_eq_true rfl, Nat.le_of_ble_eq_true rfl⟩) hS ?_
  rintro _ H locs - hT hS
  refine lv_aload_n hx hb dX10_gather_4 rfl (lv_at hl 0 rfl) ?_
  refine gX10_11 S hK hT ha kf_X10_70 dX10_gather_5 (fun hk1 => ?_)
  refine lv_aload_n hx hb dX10_gather_8 rfl (lv_at hl 2 rfl) ?_
  refine lv_aload_n hx hb dX10_gather_9 rfl (lv_at hl 3 rfl) ?_
  refine x_cv0 (x_runV (b := (F a 11)) (As := [.ref p1, .ref p2]) (rest := []) S (c_X1_ofAllRows l E K F G (F a 11) p1 p2 hk1 hp1 hp2) mv_X1_ofAllRows km_X10_387 rfl rfl ⟨Nat.le_of_ble_eq_true rfl, Nat.le_of_ble_eq_true rfl⟩ (rc_3 hK hT hk1) hK (fun _ => XP.blind) (fun U hU hW => XP.at hK hz hS hT hU hW) rfl hl.1 (Nat.le_of_ble_eq_true rfl) dX10_gather_10 ⟨Nat.le_of_ble_eq_true rfl, Nat.le_of_ble_eq_true rfl⟩) hS ?_
  rintro _ H locs - hT hS
  refine lv_iconst (v := 0) hx hb dX10_gather_13 (by decide) ?_
  refine lv_istore (lv' := [(5, .int 0), (0, .ref a), (1, .ref p0), (2, .ref p1), (3, .ref p2), (4, .int p3)]) hx hb dX10_gather_14 hl (by decide) rfl (fun ls hl => ?_)
  have L16 : ∀ (N3 : Nat) (x2 : Int32) (H : Heap) (locs : List Loc) (ls : Array Slot), (0 : Int) ≤ x2.toInt → 2147483648 - x2.toInt < ((N3 : Nat) : Int) → TW E K F G [] H → va_S (xA E) s.heap H locs → lv_has ls 7 [(0, .ref a), (1, .ref p0), (2, .ref p1), (3, .ref p2), (4, .int p3), (5, .int x2)] → W p l e rm_X10_gather s m args below meth c H locs 0 0 Q (F0 m 16 ls []) := by
    intro N3
    induction N3 with
    | zero =>
      intro x2 H locs ls hf4 hm5
      exact absurd hm5 (z_X10_gather_1 x2.toInt hf4 (xr x2))
    | succ N3 ih6 =>
      intro x2 H locs ls hf4 hm5 hT hS hl
      refine lv_iload hx hb dX10_gather_16 (lv_at hl 5 rfl) ?_
      refine lv_aload_n hx hb dX10_gather_18 rfl (lv_at hl 0 rfl) ?_
      refine gX10_2 S hK hT ha kf_X10_30 dX10_gather_19 (fun hk7 => ?_)
      refine x_clp (x_runV (b := (F a 2)) (As := []) (rest := [.int x2]) S (c_X0_size l E K F G H (F a 2) hk7) mv_X0_size km_X10_167 rfl rfl ⟨Nat.le_of_ble_eq_true rfl, Nat.le_of_ble_eq_true rfl⟩ (rc_2 hK hT hk7) hK (fun _ => XPh.blind) (fun U hU hW => XPh.at hK hz hS hT hU hW) rfl hl.1 (Nat.le_of_ble_eq_true rfl) dX10_gather_22 ⟨Nat.le_of_ble_eq_true rfl, Nat.le_of_ble_eq_true rfl⟩) hS ?_
      rintro _ _ locs ⟨x8, rfl⟩ hS
      refine xi_cge (tgt := 72) hx hb (rfl : Int32.toInt x2 = x2.toInt) (rfl : Int32.toInt x8 = x8.toInt) dX10_gather_25 (by decide) (fun c9 => ?_) (fun c9 => ?_)
      · exact x_rv hx hb hr hlk hQ (Nat.le_of_ble_eq_true rfl) (Nat.le_of_ble_eq_true rfl) hS dX10_gather_72 () trivial hT.nil
      · refine lv_aload_n hx hb dX10_gather_28 rfl (lv_at hl 0 rfl) ?_
        refine gX10_2 S hK hT ha kf_X10_30 dX10_gather_29 (fun hk10 => ?_)
        refine lv_iload hx hb dX10_gather_32 (lv_at hl 5 rfl) ?_
        refine x_clp (x_runV (b := (F a 2)) (As := [.int x2]) (rest := []) S (c_X0_inOrder l E K F G H (F a 2) x2 hk10) mv_X0_inOrder km_X10_391 rfl rfl ⟨Nat.le_of_ble_eq_true rfl, Nat.le_of_ble_eq_true rfl⟩ (rc_2 hK hT hk10) hK (fun _ => XPh.blind) (fun U hU hW => XPh.at hK hz hS hT hU hW) rfl hl.1 (Nat.le_of_ble_eq_true rfl) dX10_gather_34 ⟨Nat.le_of_ble_eq_true rfl, Nat.le_of_ble_eq_true rfl⟩) hS ?_
        rintro _ _ locs (rfl | ⟨q12, rfl, hk13⟩) hS
        · refine lv_astoreN (lv' := [(6, .null), (0, .ref a), (1, .ref p0), (2, .ref p1), (3, .ref p2), (4, .int p3), (5, .int x2)]) hx hb dX10_gather_37 hl (by decide) rfl (fun ls hl => ?_)
          refine lv_aloadN hx hb dX10_gather_39 (lv_at hl 0 rfl) ?_
          refine lv_ifnullN (tgt := 66) hx hb dX10_gather_41 (by decide) ?_
          refine xi_iinc (n := 1) (lv' := fun z9 => [(5, .int z9), (6, .null), (0, .ref a), (1, .ref p0), (2, .ref p1), (3, .ref p2), (4, .int p3)]) (k := 6) hx hb (rfl : Int32.toInt x2 = x2.toInt) (by decide) dX10_gather_66 hl rfl (by decide) (fun _ => rfl) (fun x14 ls t15 hl => ?_)
          have hl : lv_has ls 7 [(5, .int x14), (6, .null), (0, .ref a), (1, .ref p0), (2, .ref p1), (3, .ref p2), (4, .int p3)] := hl
          refine lv_goto (tgt := 16) hx hb dX10_gather_69 (by decide) ?_
          exact ih6 x14 _ _ _ (z_X10_gather_2 x14.toInt x2.toInt x8.toInt N3 hf4 hm5 c9 t15 (xr x14) (xr x2) (xr x8)) (z_X10_gather_3 x14.toInt x2.toInt x8.toInt N3 hf4 hm5 c9 t15 (xr x14) (xr x2) (xr x8)) hT.nil hS (lv_sub hl [2, 3, 4, 5, 6, 0] rfl)
        · refine lv_astore (lv' := [(6, .ref q12), (0, .ref a), (1, .ref p0), (2, .ref p1), (3, .ref p2), (4, .int p3), (5, .int x2)]) hx hb dX10_gather_37 hl (by decide) rfl (fun ls hl => ?_)
          refine lv_aload hx hb dX10_gather_39 (lv_at hl 0 rfl) ?_
          refine lv_ifnull hx hb dX10_gather_41 ?_
          refine lv_aload hx hb dX10_gather_44 (lv_at hl 0 rfl) ?_
          refine lv_iload hx hb dX10_gather_46 (lv_at hl 5 rfl) ?_
          refine x_clp (x_runV (b := q12) (As := [.int p3]) (rest := []) S (c_X7_isAmong l E K F G H q12 p3 hk13) mv_X7_isAmong km_X10_394 rfl rfl ⟨Nat.le_of_ble_eq_true rfl, Nat.le_of_ble_eq_true rfl⟩ (rc_9 hK hT hk13) hK (fun _ => XPh.blind) (fun U hU hW => XPh.at hK hz hS hT hU hW) rfl hl.1 (Nat.le_of_ble_eq_true rfl) dX10_gather_48 ⟨Nat.le_of_ble_eq_true rfl, Nat.le_of_ble_eq_true rfl⟩) hS ?_
          rintro _ _ locs ⟨x16, rfl, b17⟩ hS
          refine xi_zeq (tgt := 66) hx hb (rfl : Int32.toInt x16 = x16.toInt) dX10_gather_51 (by decide) (fun c18 => ?_) (fun c18 => ?_)
          · refine xi_iinc (n := 1) (lv' := fun z9 => [(5, .int z9), (6, .ref q12), (0, .ref a), (1, .ref p0), (2, .ref p1), (3, .ref p2), (4, .int p3)]) (k := 6) hx hb (rfl : Int32.toInt x2 = x2.toInt) (by decide) dX10_gather_66 hl rfl (by decide) (fun _ => rfl) (fun x19 ls t20 hl => ?_)
            have hl : lv_has ls 7 [(5, .int x19), (6, .ref q12), (0, .ref a), (1, .ref p0), (2, .ref p1), (3, .ref p2), (4, .int p3)] := hl
            refine lv_goto (tgt := 16) hx hb dX10_gather_69 (by decide) ?_
            exact ih6 x19 _ _ _ (z_X10_gather_4 x19.toInt x2.toInt x8.toInt N3 hf4 hm5 c9 t20 (xr x19) (xr x2) (xr x8)) (z_X10_gather_5 x19.toInt x2.toInt x8.toInt N3 hf4 hm5 c9 t20 (xr x19) (xr x2) (xr x8)) hT.nil hS (lv_sub hl [2, 3, 4, 5, 6, 0] rfl)
          · refine lv_aload_n hx hb dX10_gather_54 rfl (lv_at hl 1 rfl) ?_
            refine gX10_11 S hK hT ha kf_X10_70 dX10_gather_55 (fun hk21 => ?_)
            refine lv_aload hx hb dX10_gather_58 (lv_at hl 0 rfl) ?_
            refine lv_aload_n hx hb dX10_gather_60 rfl (lv_at hl 3 rfl) ?_
            refine lv_aload_n hx hb dX10_gather_61 rfl (lv_at hl 4 rfl) ?_
            refine lv_aload_n hx hb dX10_gather_62 rfl (lv_at hl 2 rfl) ?_
            refine x_cv0 (x_runV (b := (F a 11)) (As := [.ref q12, .ref p1, .ref p2, .ref p0]) (rest := []) S (c_X1_addQuestions l E K F G (F a 11) q12 p1 p2 p0 hk21 hk13 hp1 hp2 hp0) mv_X1_addQuestions km_X10_397 rfl rfl ⟨Nat.le_of_ble_eq_true rfl, Nat.le_of_ble_eq_true rfl⟩ (rc_3 hK hT hk21) hK (fun _ => XP.blind) (fun U hU hW => XP.at hK hz hS hT hU hW) rfl hl.1 (Nat.le_of_ble_eq_true rfl) dX10_gather_63 ⟨Nat.le_of_ble_eq_true rfl, Nat.le_of_ble_eq_true rfl⟩) hS ?_
            rintro _ H locs - hT hS
            refine xi_iinc (n := 1) (lv' := fun z9 => [(5, .int z9), (6, .ref q12), (0, .ref a), (1, .ref p0), (2, .ref p1), (3, .ref p2), (4, .int p3)]) (k := 6) hx hb (rfl : Int32.toInt x2 = x2.toInt) (by decide) dX10_gather_66 hl rfl (by decide) (fun _ => rfl) (fun x22 ls t23 hl => ?_)
            have hl : lv_has ls 7 [(5, .int x22), (6, .ref q12), (0, .ref a), (1, .ref p0), (2, .ref p1), (3, .ref p2), (4, .int p3)] := hl
            refine lv_goto (tgt := 16) hx hb dX10_gather_69 (by decide) ?_
            exact ih6 x22 _ _ _ (z_X10_gather_6 x2.toInt x22.toInt x8.toInt N3 hf4 hm5 c9 t23 (xr x2) (xr x22) (xr x8)) (z_X10_gather_7 x2.toInt x22.toInt x8.toInt N3 hf4 hm5 c9 t23 (xr x2) (xr x22) (xr x8)) hT.nil hS (lv_sub hl [2, 3, 4, 5, 6, 0] rfl)
  exact L16 4294967297 0 _ _ _ (by decide) (by decide) hT.nil hS (lv_sub hl [1, 2, 3, 4, 5, 0] rfl)

abbrev rm_X10_close : Room := { frames := 1, cells := 0, slots := 0, locals := 20 }
set_option maxHeartbeats 4000000 in
set_option maxRecDepth 100000 in
theorem c_X10_close (l : Launch) (E : XE) (K : Nat → Nat) (F : Nat → Nat → Nat) (G : XG) (a : Nat) (ha : K a = 12) : Met l yX10_close (xw yX10_close cX10_close 1 none) rm_X10_close (va_Pc [.ref a] (XP E K F G)) (XQv E (fun (u : Unit) => True) (fun _ H => TW E K F G [] H)) 0 0 (xA E) := by
  refine x_enter (by decide) (Nat.le_of_ble_eq_true rfl) ?_
  intro p e s m args below meth c Q S hr hlk hnm hQ hP ls hl
  obtain ⟨hz, hK, hT⟩ := hP
  obtain ⟨hx, hb, -, -, -⟩ := id S
  obtain ⟨H, hT, hS, hgo⟩ : ∃ H : Heap, TW E K F G [] H ∧ va_S (xA E) s.heap H [] ∧ H = s.heap := ⟨_, hT, va_S.rf, rfl⟩
  rw [← hgo]
  have hl : lv_has ls 1 [(0, .ref a)] := hl
  refine lv_aload_n hx hb dX10_close_0 rfl (lv_at hl 0 rfl) ?_
  refine lv_iconst (v := 0) hx hb dX10_close_1 (by decide) ?_
  refine pX10_18 (kq := []) S hK hT hS ha kf_X10_123 (Or.inl rfl) dX10_close_2 (fun _ h => by cases h) (fun H locs hT hS => ?_)
  refine lv_aload_n hx hb dX10_close_5 rfl (lv_at hl 0 rfl) ?_
  refine lv_iconst (v := 0) hx hb dX10_close_6 (by decide) ?_
  refine pX10_17 (kq := [(a, 18, 0)]) S hK hT hS ha kf_X10_233 dX10_close_7 (List.forall_mem_cons.mpr ⟨⟨List.mem_of_getElem? (i := 0) rfl, (show (18 : Nat) ≠ 17 by decide)⟩, fun _ h => by cases h⟩) (fun H locs hT hS => ?_)
  refine lv_aload_n hx hb dX10_close_10 rfl (lv_at hl 0 rfl) ?_
  refine gX10_8 S hK hT ha kf_X10_57 dX10_close_11 (fun hk1 => ?_)
  refine x_cv0 (x_runV (b := (F a 8)) (As := []) (rest := []) S (c_X4_clear l E K F G (F a 8) hk1) mv_X4_clear km_X10_386 rfl rfl ⟨Nat.le_of_ble_eq_true rfl, Nat.le_of_ble_eq_true rfl⟩ (rc_6 hK hT hk1) hK (fun _ => XP.blind) (fun U hU hW => XP.at hK hz hS hT hU hW) rfl hl.1 (Nat.le_of_ble_eq_true rfl) dX10_close_14 ⟨Nat.le_of_ble_eq_true rfl, Nat.le_of_ble_eq_true rfl⟩) hS ?_
  rintro _ H locs - hT hS
  exact x_rv hx hb hr hlk hQ (Nat.le_of_ble_eq_true rfl) (Nat.le_of_ble_eq_true rfl) hS dX10_close_17 () trivial hT.nil

abbrev rm_X10_tellVerdict : Room := { frames := 7, cells := 7, slots := 700, locals := 171 }
set_option maxHeartbeats 4000000 in
set_option maxRecDepth 100000 in
theorem c_X10_tellVerdict (l : Launch) (E : XE) (K : Nat → Nat) (F : Nat → Nat → Nat) (G : XG) (a : Nat) (p0 : Nat) (p1 : Int32) (ha : K a = 12) (hp0 : K p0 = 6) : Met l yX10_tellVerdict (xw yX10_tellVerdict cX10_tellVerdict 4 none) rm_X10_tellVerdict (va_Pc [.ref a, .ref p0, .int p1] (XP E K F G)) (XQv E (fun (u : Unit) => True) (fun _ H => TW E K F G [] H)) 7 700 (xA E) := by
  refine x_enter (by decide) (Nat.le_of_ble_eq_true rfl) ?_
  intro p e s m args below meth c Q S hr hlk hnm hQ hP ls hl
  obtain ⟨hz, hK, hT⟩ := hP
  obtain ⟨hx, hb, -, -, -⟩ := id S
  obtain ⟨H, hT, hS, hgo⟩ : ∃ H : Heap, TW E K F G [] H ∧ va_S (xA E) s.heap H [] ∧ H = s.heap := ⟨_, hT, va_S.rf, rfl⟩
  rw [← hgo]
  have hl : lv_has ls 4 [(0, .ref a), (1, .ref p0), (2, .int p1)] := hl
  refine lv_aload_n hx hb dX10_tellVerdict_0 rfl (lv_at hl 0 rfl) ?_
  refine gX10_2 S hK hT ha kf_X10_30 dX10_tellVerdict_1 (fun hk1 => ?_)
  refine lv_aload_n hx hb dX10_tellVerdict_4 rfl (lv_at hl 1 rfl) ?_
  refine lv_iload_n hx hb dX10_tellVerdict_5 rfl (lv_at hl 2 rfl) ?_
  refine x_clp (x_runV (b := p0) (As := [.int p1]) (rest := [.ref (F a 2)]) S (c_X4_number l E K F G H p0 p1 hp0) mv_X4_number km_X10_301 rfl rfl ⟨Nat.le_of_ble_eq_true rfl, Nat.le_of_ble_eq_true rfl⟩ (rc_6 hK hT hp0) hK (fun _ => XPh.blind) (fun U hU hW => XPh.at hK hz hS hT hU hW) rfl hl.1 (Nat.le_of_ble_eq_true rfl) dX10_tellVerdict_6 ⟨Nat.le_of_ble_eq_true rfl, Nat.le_of_ble_eq_true rfl⟩) hS ?_
  rintro _ _ locs ⟨x2, rfl⟩ hS
  refine x_clp (x_runV (b := (F a 2)) (As := [.int x2]) (rest := []) S (c_X0_get l E K F G H (F a 2) x2 hk1) mv_X0_get km_X10_159 rfl rfl ⟨Nat.le_of_ble_eq_true rfl, Nat.le_of_ble_eq_true rfl⟩ (rc_2 hK hT hk1) hK (fun _ => XPh.blind) (fun U hU hW => XPh.at hK hz hS hT hU hW) rfl hl.1 (Nat.le_of_ble_eq_true rfl) dX10_tellVerdict_9 ⟨Nat.le_of_ble_eq_true rfl, Nat.le_of_ble_eq_true rfl⟩) hS ?_
  rintro _ _ locs (rfl | ⟨q4, rfl, hk5⟩) hS
  · refine lv_astore_nN (lv' := [(3, .null), (0, .ref a), (1, .ref p0), (2, .int p1)]) hx hb dX10_tellVerdict_12 rfl hl (by decide) rfl (fun ls hl => ?_)
    refine lv_aload_nN hx hb dX10_tellVerdict_13 rfl (lv_at hl 0 rfl) ?_
    refine lv_ifnullN (tgt := 40) hx hb dX10_tellVerdict_14 (by decide) ?_
    exact x_rv hx hb hr hlk hQ (Nat.le_of_ble_eq_true rfl) (Nat.le_of_ble_eq_true rfl) hS dX10_tellVerdict_40 () trivial hT.nil
  · refine lv_astore_n (lv' := [(3, .ref q4), (0, .ref a), (1, .ref p0), (2, .int p1)]) hx hb dX10_tellVerdict_12 rfl hl (by decide) rfl (fun ls hl => ?_)
    refine lv_aload_n hx hb dX10_tellVerdict_13 rfl (lv_at hl 0 rfl) ?_
    refine lv_ifnull hx hb dX10_tellVerdict_14 ?_
    refine lv_aload_n hx hb dX10_tellVerdict_17 rfl (lv_at hl 1 rfl) ?_
    refine gX10_14 S hK hT ha kf_X10_91 dX10_tellVerdict_18 (fun hk6 => ?_)
    refine lv_aload_n hx hb dX10_tellVerdict_21 rfl (lv_at hl 0 rfl) ?_
    refine gX7_1 S hK hT hk5 kf_X10_130 dX10_tellVerdict_22 (fun x7 hT => ?_)
    refine lv_aload_n hx hb dX10_tellVerdict_25 rfl (lv_at hl 0 rfl) ?_
    refine gX7_0 S hK hT hk5 kf_X10_140 dX10_tellVerdict_26 (fun x8 hT => ?_)
    refine x_clp (x_runS (As := [.int x8]) (rest := [.int x7, .ref (F a 14)]) S (c_X10_wordOf l E K F G H x8) ms_X10_wordOf km_X10_143 rfl rfl ⟨Nat.le_of_ble_eq_true rfl, Nat.le_of_ble_eq_true rfl⟩ hK (fun _ => XPh.blind) (fun U hU hW => XPh.at hK hz hS hT hU hW) rfl hl.1 (Nat.le_of_ble_eq_true rfl) dX10_tellVerdict_29 ⟨Nat.le_of_ble_eq_true rfl, Nat.le_of_ble_eq_true rfl⟩) hS ?_
    rintro _ _ locs ⟨q10, hi11, rfl⟩ hS
    refine lv_aload_n hx hb dX10_tellVerdict_32 rfl (lv_at hl 2 rfl) ?_
    refine lv_iload_n hx hb dX10_tellVerdict_33 rfl (lv_at hl 3 rfl) ?_
    refine x_clp (x_runV (b := p0) (As := [.int p1]) (rest := [.ref (E.2.2.2.2.1 q10), .int x7, .ref (F a 14)]) S (c_X4_subject l E K F G H p0 p1 hp0) mv_X4_subject km_X10_147 rfl rfl ⟨Nat.le_of_ble_eq_true rfl, Nat.le_of_ble_eq_true rfl⟩ (rc_6 hK hT hp0) hK (fun _ => XPh.blind) (fun U hU hW => XPh.at hK hz hS hT hU hW) rfl hl.1 (Nat.le_of_ble_eq_true rfl) dX10_tellVerdict_34 ⟨Nat.le_of_ble_eq_true rfl, Nat.le_of_ble_eq_true rfl⟩) hS ?_
    rintro _ _ locs ⟨x12, rfl⟩ hS
    refine x_cv (x_runV (b := (F a 14)) (As := [.int x7, .ref (E.2.2.2.2.1 q10), .int x12]) (rest := []) S (c_X9_tell l E K F G (F a 14) x7 q10 x12 hk6 (Nat.lt_of_lt_of_le hi11 (by decide)) (xlen6 hi11)) mv_X9_tell km_X10_151 rfl rfl ⟨Nat.le_of_ble_eq_true rfl, Nat.le_of_ble_eq_true rfl⟩ (rc_11 hK hT hk6) hK (fun _ => XP.blind) (fun U hU hW => XP.at hK hz hS hT hU hW) rfl hl.1 (Nat.le_of_ble_eq_true rfl) dX10_tellVerdict_37 ⟨Nat.le_of_ble_eq_true rfl, Nat.le_of_ble_eq_true rfl⟩) hS ?_
    rintro _ H locs - hT hS
    exact x_rv hx hb hr hlk hQ (Nat.le_of_ble_eq_true rfl) (Nat.le_of_ble_eq_true rfl) hS dX10_tellVerdict_40 () trivial hT.nil

abbrev rm_X10_firstFailingOf : Room := { frames := 5, cells := 0, slots := 0, locals := 123 }
set_option maxHeartbeats 4000000 in
set_option maxRecDepth 100000 in
theorem c_X10_firstFailingOf (l : Launch) (E : XE) (K : Nat → Nat) (F : Nat → Nat → Nat) (G : XG) (a : Nat) (p0 : Nat) (ha : K a = 12) (hp0 : K p0 = 9) : Met l yX10_firstFailingOf (xw yX10_firstFailingOf cX10_firstFailingOf 2 (some .int)) rm_X10_firstFailingOf (va_Pc [.ref a, .ref p0] (XP E K F G)) (XQ E (fun v (u : Unit) => ∃ r : Int32, v = .int r) (fun _ H => TW E K F G [] H)) 0 0 (xA E) := by
  refine x_enter (by decide) (Nat.le_of_ble_eq_true rfl) ?_
  intro p e s m args below meth c Q S hr hlk hnm hQ hP ls hl
  obtain ⟨hz, hK, hT⟩ := hP
  obtain ⟨hx, hb, -, -, -⟩ := id S
  obtain ⟨H, hT, hS, hgo⟩ : ∃ H : Heap, TW E K F G [] H ∧ va_S (xA E) s.heap H [] ∧ H = s.heap := ⟨_, hT, va_S.rf, rfl⟩
  rw [← hgo]
  have hl : lv_has ls 2 [(0, .ref a), (1, .ref p0)] := hl
  refine lv_aload_n hx hb dX10_firstFailingOf_0 rfl (lv_at hl 0 rfl) ?_
  refine gX10_9 S hK hT ha kf_X10_61 dX10_firstFailingOf_1 (fun hk1 => ?_)
  refine x_cv0 (x_runV (b := (F a 9)) (As := []) (rest := []) S (c_X4_clear l E K F G (F a 9) hk1) mv_X4_clear km_X10_386 rfl rfl ⟨Nat.le_of_ble_eq_true rfl, Nat.le_of_ble_eq_true rfl⟩ (rc_6 hK hT hk1) hK (fun _ => XP.blind) (fun U hU hW => XP.at hK hz hS hT hU hW) rfl hl.1 (Nat.le_of_ble_eq_true rfl) dX10_firstFailingOf_4 ⟨Nat.le_of_ble_eq_true rfl, Nat.le_of_ble_eq_true rfl⟩) hS ?_
  rintro _ H locs - hT hS
  refine lv_aload_n hx hb dX10_firstFailingOf_7 rfl (lv_at hl 0 rfl) ?_
  refine gX10_11 S hK hT ha kf_X10_70 dX10_firstFailingOf_8 (fun hk2 => ?_)
  refine lv_aload_n hx hb dX10_firstFailingOf_11 rfl (lv_at hl 0 rfl) ?_
  refine gX10_6 S hK hT ha kf_X10_47 dX10_firstFailingOf_12 (fun hk3 => ?_)
  refine lv_aload_n hx hb dX10_firstFailingOf_15 rfl (lv_at hl 0 rfl) ?_
  refine gX10_3 S hK hT ha kf_X10_37 dX10_firstFailingOf_16 (fun hk4 => ?_)
  refine x_cv0 (x_runV (b := (F a 11)) (As := [.ref (F a 6), .ref (F a 3)]) (rest := []) S (c_X1_ofAllRows l E K F G (F a 11) (F a 6) (F a 3) hk2 hk3 hk4) mv_X1_ofAllRows km_X10_387 rfl rfl ⟨Nat.le_of_ble_eq_true rfl, Nat.le_of_ble_eq_true rfl⟩ (rc_3 hK hT hk2) hK (fun _ => XP.blind) (fun U hU hW => XP.at hK hz hS hT hU hW) rfl hl.1 (Nat.le_of_ble_eq_true rfl) dX10_firstFailingOf_19 ⟨Nat.le_of_ble_eq_true rfl, Nat.le_of_ble_eq_true rfl⟩) hS ?_
  rintro _ H locs - hT hS
  refine lv_aload_n hx hb dX10_firstFailingOf_22 rfl (lv_at hl 0 rfl) ?_
  refine gX10_11 S hK hT ha kf_X10_70 dX10_firstFailingOf_23 (fun hk5 => ?_)
  refine lv_aload_n hx hb dX10_firstFailingOf_26 rfl (lv_at hl 1 rfl) ?_
  refine lv_aload_n hx hb dX10_firstFailingOf_27 rfl (lv_at hl 0 rfl) ?_
  refine gX10_6 S hK hT ha kf_X10_47 dX10_firstFailingOf_28 (fun hk6 => ?_)
  refine lv_aload_n hx hb dX10_firstFailingOf_31 rfl (lv_at hl 0 rfl) ?_
  refine gX10_3 S hK hT ha kf_X10_37 dX10_firstFailingOf_32 (fun hk7 => ?_)
  refine lv_aload_n hx hb dX10_firstFailingOf_35 rfl (lv_at hl 0 rfl) ?_
  refine gX10_9 S hK hT ha kf_X10_61 dX10_firstFailingOf_36 (fun hk8 => ?_)
  refine x_cv0 (x_runV (b := (F a 11)) (As := [.ref p0, .ref (F a 6), .ref (F a 3), .ref (F a 9)]) (rest := []) S (c_X1_addQuestions l E K F G (F a 11) p0 (F a 6) (F a 3) (F a 9) hk5 hp0 hk6 hk7 hk8) mv_X1_addQuestions km_X10_397 rfl rfl ⟨Nat.le_of_ble_eq_true rfl, Nat.le_of_ble_eq_true rfl⟩ (rc_3 hK hT hk5) hK (fun _ => XP.blind) (fun U hU hW => XP.at hK hz hS hT hU hW) rfl hl.1 (Nat.le_of_ble_eq_true rfl) dX10_firstFailingOf_39 ⟨Nat.le_of_ble_eq_true rfl, Nat.le_of_ble_eq_true rfl⟩) hS ?_
  rintro _ H locs - hT hS
  refine lv_aload_n hx hb dX10_firstFailingOf_42 rfl (lv_at hl 0 rfl) ?_
  refine gX10_9 S hK hT ha kf_X10_61 dX10_firstFailingOf_43 (fun hk9 => ?_)
  refine x_clp (x_runV (b := (F a 9)) (As := []) (rest := []) S (c_X4_firstFailing l E K F G H (F a 9) hk9) mv_X4_firstFailing km_X10_244 rfl rfl ⟨Nat.le_of_ble_eq_true rfl, Nat.le_of_ble_eq_true rfl⟩ (rc_6 hK hT hk9) hK (fun _ => XPh.blind) (fun U hU hW => XPh.at hK hz hS hT hU hW) rfl hl.1 (Nat.le_of_ble_eq_true rfl) dX10_firstFailingOf_46 ⟨Nat.le_of_ble_eq_true rfl, Nat.le_of_ble_eq_true rfl⟩) hS ?_
  rintro _ _ locs ⟨x10, rfl⟩ hS
  exact x_ri hx hb hr hlk hQ (Nat.le_of_ble_eq_true rfl) (Nat.le_of_ble_eq_true rfl) hS dX10_firstFailingOf_49 () ⟨_, rfl⟩ hT.nil

abbrev rm_X10_becomeLate : Room := { frames := 6, cells := 0, slots := 0, locals := 149 }
set_option maxHeartbeats 4000000 in
set_option maxRecDepth 100000 in
theorem c_X10_becomeLate (l : Launch) (E : XE) (K : Nat → Nat) (F : Nat → Nat → Nat) (G : XG) (a : Nat) (p0 : Nat) (ha : K a = 12) (hp0 : K p0 = 9) : Met l yX10_becomeLate (xw yX10_becomeLate cX10_becomeLate 3 (some .int)) rm_X10_becomeLate (va_Pc [.ref a, .ref p0] (XP E K F G)) (XQ E (fun v (u : Unit) => ∃ r : Int32, v = .int r) (fun _ H => TW E K F G [] H)) 0 0 (xA E) := by
  refine x_enter (by decide) (Nat.le_of_ble_eq_true rfl) ?_
  intro p e s m args below meth c Q S hr hlk hnm hQ hP ls hl
  obtain ⟨hz, hK, hT⟩ := hP
  obtain ⟨hx, hb, -, -, -⟩ := id S
  obtain ⟨H, hT, hS, hgo⟩ : ∃ H : Heap, TW E K F G [] H ∧ va_S (xA E) s.heap H [] ∧ H = s.heap := ⟨_, hT, va_S.rf, rfl⟩
  rw [← hgo]
  have hl : lv_has ls 3 [(0, .ref a), (1, .ref p0)] := hl
  refine lv_aload_n hx hb dX10_becomeLate_0 rfl (lv_at hl 1 rfl) ?_
  refine lv_iconst (v := 1) hx hb dX10_becomeLate_1 (by decide) ?_
  refine pX7_9 (kq := []) S hK hT hS hp0 kf_X10_170 (Or.inr rfl) dX10_becomeLate_2 (fun _ h => by cases h) (fun H locs hT hS => ?_)
  refine lv_aload_n hx hb dX10_becomeLate_5 rfl (lv_at hl 0 rfl) ?_
  refine gX10_18 S hK hT ha kf_X10_123 dX10_becomeLate_6 (fun x1 hT => ?_)
  refine xi_zne (tgt := 14) hx hb (rfl : Int32.toInt x1 = x1.toInt) dX10_becomeLate_9 (by decide) (fun c2 => ?_) (fun c2 => ?_)
  · refine lv_aload_n hx hb dX10_becomeLate_14 rfl (lv_at hl 0 rfl) ?_
    refine lv_aload_n hx hb dX10_becomeLate_15 rfl (lv_at hl 0 rfl) ?_
    refine gX10_8 S hK hT ha kf_X10_57 dX10_becomeLate_16 (fun hk3 => ?_)
    refine lv_aload_n hx hb dX10_becomeLate_19 rfl (lv_at hl 0 rfl) ?_
    refine gX10_4 S hK hT ha kf_X10_41 dX10_becomeLate_20 (fun hk4 => ?_)
    refine lv_aload_n hx hb dX10_becomeLate_23 rfl (lv_at hl 0 rfl) ?_
    refine gX10_3 S hK hT ha kf_X10_37 dX10_becomeLate_24 (fun hk5 => ?_)
    refine lv_iconst (v := 1) hx hb dX10_becomeLate_27 (by decide) ?_
    refine x_cv0 (x_runV (b := a) (As := [.ref (F a 8), .ref (F a 4), .ref (F a 3), .int 1]) (rest := []) S (c_X10_gather l E K F G a (F a 8) (F a 4) (F a 3) 1 ha hk3 hk4 hk5) mv_X10_gather km_X10_240 rfl rfl ⟨Nat.le_of_ble_eq_true rfl, Nat.le_of_ble_eq_true rfl⟩ (rc_12 hK hT ha) hK (fun _ => XP.blind) (fun U hU hW => XP.at hK hz hS hT hU hW) rfl hl.1 (Nat.le_of_ble_eq_true rfl) dX10_becomeLate_28 ⟨Nat.le_of_ble_eq_true rfl, Nat.le_of_ble_eq_true rfl⟩) hS ?_
    rintro _ H locs - hT hS
    refine lv_aload_n hx hb dX10_becomeLate_31 rfl (lv_at hl 0 rfl) ?_
    refine gX10_8 S hK hT ha kf_X10_57 dX10_becomeLate_32 (fun hk6 => ?_)
    refine lv_aload_n hx hb dX10_becomeLate_35 rfl (lv_at hl 1 rfl) ?_
    refine gX7_1 S hK hT hp0 kf_X10_130 dX10_becomeLate_36 (fun x7 hT => ?_)
    refine x_clp (x_runV (b := (F a 8)) (As := [.int x7]) (rest := []) S (c_X4_ofRule l E K F G H (F a 8) x7 hk6) mv_X4_ofRule km_X10_296 rfl rfl ⟨Nat.le_of_ble_eq_true rfl, Nat.le_of_ble_eq_true rfl⟩ (rc_6 hK hT hk6) hK (fun _ => XPh.blind) (fun U hU hW => XPh.at hK hz hS hT hU hW) rfl hl.1 (Nat.le_of_ble_eq_true rfl) dX10_becomeLate_39 ⟨Nat.le_of_ble_eq_true rfl, Nat.le_of_ble_eq_true rfl⟩) hS ?_
    rintro _ _ locs ⟨x8, rfl⟩ hS
    refine lv_istore_n (lv' := [(2, .int x8), (0, .ref a), (1, .ref p0)]) hx hb dX10_becomeLate_42 rfl hl (by decide) rfl (fun ls hl => ?_)
    refine lv_aload_n hx hb dX10_becomeLate_43 rfl (lv_at hl 1 rfl) ?_
    refine gX10_15 S hK hT ha kf_X10_95 dX10_becomeLate_44 (fun hk9 => ?_)
    refine lv_iconst (v := 0) hx hb dX10_becomeLate_47 (by decide) ?_
    refine lv_dup2_11 hx hb dX10_becomeLate_48 rfl rfl ?_
    refine al_0 S hK hT hk9 ar_26 (by decide) (by decide) dX10_becomeLate_49 (fun x10 o11 => ?_)
    refine lv_iload_n hx hb dX10_becomeLate_50 rfl (lv_at hl 0 rfl) ?_
    refine xi_iadd hx hb (rfl : Int32.toInt x10 = x10.toInt) (rfl : Int32.toInt x8 = x8.toInt) dX10_becomeLate_51 (fun x12 t13 => ?_)
    refine as_0 S hK hT hS hk9 ar_26 aw_26 (by decide) (by decide) dX10_becomeLate_52 (fun H locs hT hS => ?_)
    refine lv_iload_n hx hb dX10_becomeLate_53 rfl (lv_at hl 0 rfl) ?_
    exact x_ri hx hb hr hlk hQ (Nat.le_of_ble_eq_true rfl) (Nat.le_of_ble_eq_true rfl) hS dX10_becomeLate_54 () ⟨_, rfl⟩ hT.nil
  · refine lv_iconst (v := 0) hx hb dX10_becomeLate_12 (by decide) ?_
    exact x_ri hx hb hr hlk hQ (Nat.le_of_ble_eq_true rfl) (Nat.le_of_ble_eq_true rfl) hS dX10_becomeLate_13 () ⟨_, rfl⟩ hT.nil

theorem z_X10_becomePrompt_1 (a0 : Int) (h0 : (0 : Int) ≤ a0) (r0 : -2147483648 ≤ a0 ∧ a0 < 2147483648) : ¬ (2147483648 - a0 < ((0 : Nat) : Int)) := by omega
theorem z_X10_becomePrompt_2 (a0 : Int) (a1 : Int) (a2 : Int) (a3 : Nat) (h0 : (0 : Int) ≤ a0) (h1 : 2147483648 - a0 < ((a3 + 1 : Nat) : Int)) (h2 : ¬ (a2 ≤ a0)) (h3 : a1 = a0 + 1 ∨ a0 + 1 < -2147483648 ∨ 2147483648 ≤ a0 + 1) (r0 : -2147483648 ≤ a0 ∧ a0 < 2147483648) (r1 : -2147483648 ≤ a1 ∧ a1 < 2147483648) (r2 : -2147483648 ≤ a2 ∧ a2 < 2147483648) : (0 : Int) ≤ a1 := by omega
theorem z_X10_becomePrompt_3 (a0 : Int) (a1 : Int) (a2 : Int) (a3 : Nat) (h0 : (0 : Int) ≤ a0) (h1 : 2147483648 - a0 < ((a3 + 1 : Nat) : Int)) (h2 : ¬ (a2 ≤ a0)) (h3 : a1 = a0 + 1 ∨ a0 + 1 < -2147483648 ∨ 2147483648 ≤ a0 + 1) (r0 : -2147483648 ≤ a0 ∧ a0 < 2147483648) (r1 : -2147483648 ≤ a1 ∧ a1 < 2147483648) (r2 : -2147483648 ≤ a2 ∧ a2 < 2147483648) : 2147483648 - a1 < ((a3 : Nat) : Int) := by omega
abbrev rm_X10_becomePrompt : Room := { frames := 8, cells := 7, slots := 700, locals := 194 }
set_option maxHeartbeats 4000000 in
set_option maxRecDepth 100000 in
theorem c_X10_becomePrompt (l : Launch) (E : XE) (K : Nat → Nat) (F : Nat → Nat → Nat) (G : XG) (a : Nat) (p0 : Nat) (ha : K a = 12) (hp0 : K p0 = 9) : Met l yX10_becomePrompt (xw yX10_becomePrompt cX10_becomePrompt 3 (some .int)) rm_X10_becomePrompt (va_Pc [.ref a, .ref p0] (XP E K F G)) (XQ E (fun v (u : Unit) => ∃ r : Int32, v = .int r) (fun _ H => TW E K F G [] H)) 7 700 (xA E) := by
  refine x_enter (by decide) (Nat.le_of_ble_eq_true rfl) ?_
  intro p e s m args below meth c Q S hr hlk hnm hQ hP ls hl
  obtain ⟨hz, hK, hT⟩ := hP
  obtain ⟨hx, hb, -, -, -⟩ := id S
  obtain ⟨H, hT, hS, hgo⟩ : ∃ H : Heap, TW E K F G [] H ∧ va_S (xA E) s.heap H [] ∧ H = s.heap := ⟨_, hT, va_S.rf, rfl⟩
  rw [← hgo]
  have hl : lv_has ls 3 [(0, .ref a), (1, .ref p0)] := hl
  refine lv_iconst (v := 0) hx hb dX10_becomePrompt_0 (by decide) ?_
  refine lv_istore_n (lv' := [(2, .int 0), (0, .ref a), (1, .ref p0)]) hx hb dX10_becomePrompt_1 rfl hl (by decide) rfl (fun ls hl => ?_)
  have L2 : ∀ (N2 : Nat) (x1 : Int32) (H : Heap) (locs : List Loc) (ls : Array Slot), (0 : Int) ≤ x1.toInt → 2147483648 - x1.toInt < ((N2 : Nat) : Int) → TW E K F G [] H → va_S (xA E) s.heap H locs → lv_has ls 3 [(0, .ref a), (1, .ref p0), (2, .int x1)] → W p l e rm_X10_becomePrompt s m args below meth c H locs 0 0 Q (F0 m 2 ls []) := by
    intro N2
    induction N2 with
    | zero =>
      intro x1 H locs ls hf3 hm4
      exact absurd hm4 (z_X10_becomePrompt_1 x1.toInt hf3 (xr x1))
    | succ N2 ih5 =>
      intro x1 H locs ls hf3 hm4 hT hS hl
      refine lv_iload_n hx hb dX10_becomePrompt_2 rfl (lv_at hl 2 rfl) ?_
      refine lv_aload_n hx hb dX10_becomePrompt_3 rfl (lv_at hl 0 rfl) ?_
      refine gX10_8 S hK hT ha kf_X10_57 dX10_becomePrompt_4 (fun hk6 => ?_)
      refine x_clp (x_runV (b := (F a 8)) (As := []) (rest := [.int x1]) S (c_X4_size l E K F G H (F a 8) hk6) mv_X4_size km_X10_232 rfl rfl ⟨Nat.le_of_ble_eq_true rfl, Nat.le_of_ble_eq_true rfl⟩ (rc_6 hK hT hk6) hK (fun _ => XPh.blind) (fun U hU hW => XPh.at hK hz hS hT hU hW) rfl hl.1 (Nat.le_of_ble_eq_true rfl) dX10_becomePrompt_7 ⟨Nat.le_of_ble_eq_true rfl, Nat.le_of_ble_eq_true rfl⟩) hS ?_
      rintro _ _ locs ⟨x7, rfl⟩ hS
      refine xi_cge (tgt := 70) hx hb (rfl : Int32.toInt x1 = x1.toInt) (rfl : Int32.toInt x7 = x7.toInt) dX10_becomePrompt_10 (by decide) (fun c8 => ?_) (fun c8 => ?_)
      · refine lv_aload_n hx hb dX10_becomePrompt_70 rfl (lv_at hl 1 rfl) ?_
        refine lv_iconst (v := 0) hx hb dX10_becomePrompt_71 (by decide) ?_
        refine pX7_9 (kq := []) S hK hT hS hp0 kf_X10_170 (Or.inl rfl) dX10_becomePrompt_72 (fun _ h => by cases h) (fun H locs hT hS => ?_)
        refine lv_aload_n hx hb dX10_becomePrompt_75 rfl (lv_at hl 0 rfl) ?_
        refine gX10_18 S hK hT ha kf_X10_123 dX10_becomePrompt_76 (fun x9 hT => ?_)
        refine xi_zne (tgt := 84) hx hb (rfl : Int32.toInt x9 = x9.toInt) dX10_becomePrompt_79 (by decide) (fun c10 => ?_) (fun c10 => ?_)
        · refine lv_aload_n hx hb dX10_becomePrompt_84 rfl (lv_at hl 0 rfl) ?_
          refine gX10_8 S hK hT ha kf_X10_57 dX10_becomePrompt_85 (fun hk11 => ?_)
          refine lv_aload_n hx hb dX10_becomePrompt_88 rfl (lv_at hl 1 rfl) ?_
          refine gX7_1 S hK hT hp0 kf_X10_130 dX10_becomePrompt_89 (fun x12 hT => ?_)
          refine x_clp (x_runV (b := (F a 8)) (As := [.int x12]) (rest := []) S (c_X4_ofRule l E K F G H (F a 8) x12 hk11) mv_X4_ofRule km_X10_296 rfl rfl ⟨Nat.le_of_ble_eq_true rfl, Nat.le_of_ble_eq_true rfl⟩ (rc_6 hK hT hk11) hK (fun _ => XPh.blind) (fun U hU hW => XPh.at hK hz hS hT hU hW) rfl hl.1 (Nat.le_of_ble_eq_true rfl) dX10_becomePrompt_92 ⟨Nat.le_of_ble_eq_true rfl, Nat.le_of_ble_eq_true rfl⟩) hS ?_
          rintro _ _ locs ⟨x13, rfl⟩ hS
          refine lv_istore_n (lv' := [(2, .int x13), (0, .ref a), (1, .ref p0)]) hx hb dX10_becomePrompt_95 rfl hl (by decide) rfl (fun ls hl => ?_)
          refine lv_aload_n hx hb dX10_becomePrompt_96 rfl (lv_at hl 1 rfl) ?_
          refine lv_aload_n hx hb dX10_becomePrompt_97 rfl (lv_at hl 1 rfl) ?_
          refine gX10_8 S hK hT ha kf_X10_57 dX10_becomePrompt_98 (fun hk14 => ?_)
          refine lv_aload_n hx hb dX10_becomePrompt_101 rfl (lv_at hl 1 rfl) ?_
          refine gX10_4 S hK hT ha kf_X10_41 dX10_becomePrompt_102 (fun hk15 => ?_)
          refine lv_aload_n hx hb dX10_becomePrompt_105 rfl (lv_at hl 1 rfl) ?_
          refine gX10_3 S hK hT ha kf_X10_37 dX10_becomePrompt_106 (fun hk16 => ?_)
          refine lv_iconst (v := 1) hx hb dX10_becomePrompt_109 (by decide) ?_
          refine x_cv0 (x_runV (b := a) (As := [.ref (F a 8), .ref (F a 4), .ref (F a 3), .int 1]) (rest := []) S (c_X10_gather l E K F G a (F a 8) (F a 4) (F a 3) 1 ha hk14 hk15 hk16) mv_X10_gather km_X10_240 rfl rfl ⟨Nat.le_of_ble_eq_true rfl, Nat.le_of_ble_eq_true rfl⟩ (rc_12 hK hT ha) hK (fun _ => XP.blind) (fun U hU hW => XP.at hK hz hS hT hU hW) rfl hl.1 (Nat.le_of_ble_eq_true rfl) dX10_becomePrompt_110 ⟨Nat.le_of_ble_eq_true rfl, Nat.le_of_ble_eq_true rfl⟩) hS ?_
          rintro _ H locs - hT hS
          refine lv_iload_n hx hb dX10_becomePrompt_113 rfl (lv_at hl 0 rfl) ?_
          exact x_ri hx hb hr hlk hQ (Nat.le_of_ble_eq_true rfl) (Nat.le_of_ble_eq_true rfl) hS dX10_becomePrompt_114 () ⟨_, rfl⟩ hT.nil
        · refine lv_iconst (v := 0) hx hb dX10_becomePrompt_82 (by decide) ?_
          exact x_ri hx hb hr hlk hQ (Nat.le_of_ble_eq_true rfl) (Nat.le_of_ble_eq_true rfl) hS dX10_becomePrompt_83 () ⟨_, rfl⟩ hT.nil
      · refine lv_aload_n hx hb dX10_becomePrompt_13 rfl (lv_at hl 0 rfl) ?_
        refine gX10_8 S hK hT ha kf_X10_57 dX10_becomePrompt_14 (fun hk17 => ?_)
        refine lv_iload_n hx hb dX10_becomePrompt_17 rfl (lv_at hl 2 rfl) ?_
        refine x_clp (x_runV (b := (F a 8)) (As := [.int x1]) (rest := []) S (c_X4_number l E K F G H (F a 8) x1 hk17) mv_X4_number km_X10_301 rfl rfl ⟨Nat.le_of_ble_eq_true rfl, Nat.le_of_ble_eq_true rfl⟩ (rc_6 hK hT hk17) hK (fun _ => XPh.blind) (fun U hU hW => XPh.at hK hz hS hT hU hW) rfl hl.1 (Nat.le_of_ble_eq_true rfl) dX10_becomePrompt_18 ⟨Nat.le_of_ble_eq_true rfl, Nat.le_of_ble_eq_true rfl⟩) hS ?_
        rintro _ _ locs ⟨x18, rfl⟩ hS
        refine lv_aload_n hx hb dX10_becomePrompt_21 rfl (lv_at hl 1 rfl) ?_
        refine gX7_1 S hK hT hp0 kf_X10_130 dX10_becomePrompt_22 (fun x19 hT => ?_)
        have J64 : ∀ (H : Heap) (locs : List Loc) (ls : Array Slot), TW E K F G [(p0, 1, x19)] H → va_S (xA E) s.heap H locs → lv_has ls 3 [(0, .ref a), (1, .ref p0), (2, .int x1)] → W p l e rm_X10_becomePrompt s m args below meth c H locs 0 0 Q (F0 m 64 ls []) := by
          intro H locs ls hT hS hl
          refine xi_iinc (n := 1) (lv' := fun z9 => [(2, .int z9), (0, .ref a), (1, .ref p0)]) (k := 2) hx hb (rfl : Int32.toInt x1 = x1.toInt) (by decide) dX10_becomePrompt_64 hl rfl (by decide) (fun _ => rfl) (fun x20 ls t21 hl => ?_)
          have hl : lv_has ls 3 [(2, .int x20), (0, .ref a), (1, .ref p0)] := hl
          refine lv_goto (tgt := 2) hx hb dX10_becomePrompt_67 (by decide) ?_
          exact ih5 x20 _ _ _ (z_X10_becomePrompt_2 x1.toInt x20.toInt x7.toInt N2 hf3 hm4 c8 t21 (xr x1) (xr x20) (xr x7)) (z_X10_becomePrompt_3 x1.toInt x20.toInt x7.toInt N2 hf3 hm4 c8 t21 (xr x1) (xr x20) (xr x7)) hT.nil hS (lv_sub hl [1, 2, 0] rfl)
        refine xi_ceq (tgt := 31) hx hb (rfl : Int32.toInt x18 = x18.toInt) (rfl : Int32.toInt x19 = x19.toInt) dX10_becomePrompt_25 (by decide) (fun c22 => ?_) (fun c22 => ?_)
        · refine lv_aload_n hx hb dX10_becomePrompt_31 rfl (lv_at hl 0 rfl) ?_
          refine gX10_16 S hK hT ha kf_X10_99 dX10_becomePrompt_32 (fun hk23 => ?_)
          refine lv_iconst (v := 0) hx hb dX10_becomePrompt_35 (by decide) ?_
          refine lv_dup2_11 hx hb dX10_becomePrompt_36 rfl rfl ?_
          refine al_0 S hK hT hk23 ar_27 (by decide) (by decide) dX10_becomePrompt_37 (fun x24 o25 => ?_)
          refine lv_iconst (v := 1) hx hb dX10_becomePrompt_38 (by decide) ?_
          refine xi_iadd hx hb (rfl : Int32.toInt x24 = x24.toInt) ((by decide) : Int32.toInt 1 = (1 : Int)) dX10_becomePrompt_39 (fun x26 t27 => ?_)
          refine as_0 S hK hT hS hk23 ar_27 aw_27 (by decide) (by decide) dX10_becomePrompt_40 (fun H locs hT hS => ?_)
          refine lv_aload_n hx hb dX10_becomePrompt_41 rfl (lv_at hl 0 rfl) ?_
          refine gX10_8 S hK hT ha kf_X10_57 dX10_becomePrompt_42 (fun hk28 => ?_)
          refine lv_iload_n hx hb dX10_becomePrompt_45 rfl (lv_at hl 2 rfl) ?_
          refine x_clp (x_runV (b := (F a 8)) (As := [.int x1]) (rest := []) S (c_X4_fails l E K F G H (F a 8) x1 hk28) mv_X4_fails km_X10_309 rfl rfl ⟨Nat.le_of_ble_eq_true rfl, Nat.le_of_ble_eq_true rfl⟩ (rc_6 hK hT hk28) hK (fun _ => XPh.blind) (fun U hU hW => XPh.at hK hz hS hT hU hW) rfl hl.1 (Nat.le_of_ble_eq_true rfl) dX10_becomePrompt_46 ⟨Nat.le_of_ble_eq_true rfl, Nat.le_of_ble_eq_true rfl⟩) hS ?_
          rintro _ _ locs ⟨x29, rfl, b30⟩ hS
          refine xi_zeq (tgt := 64) hx hb (rfl : Int32.toInt x29 = x29.toInt) dX10_becomePrompt_49 (by decide) (fun c31 => ?_) (fun c31 => ?_)
          · exact J64 _ _ _ hT hS (lv_sub hl [0, 1, 2] rfl)
          · refine lv_aload_n hx hb dX10_becomePrompt_52 rfl (lv_at hl 0 rfl) ?_
            refine lv_aload_n hx hb dX10_becomePrompt_53 rfl (lv_at hl 0 rfl) ?_
            refine gX10_8 S hK hT ha kf_X10_57 dX10_becomePrompt_54 (fun hk32 => ?_)
            refine lv_iload_n hx hb dX10_becomePrompt_57 rfl (lv_at hl 2 rfl) ?_
            refine x_cv (x_runV (b := a) (As := [.ref (F a 8), .int x1]) (rest := []) S (c_X10_tellVerdict l E K F G a (F a 8) x1 ha hk32) mv_X10_tellVerdict km_X10_247 rfl rfl ⟨Nat.le_of_ble_eq_true rfl, Nat.le_of_ble_eq_true rfl⟩ (rc_12 hK hT ha) hK (fun _ => XP.blind) (fun U hU hW => XP.at hK hz hS hT hU hW) rfl hl.1 (Nat.le_of_ble_eq_true rfl) dX10_becomePrompt_58 ⟨Nat.le_of_ble_eq_true rfl, Nat.le_of_ble_eq_true rfl⟩) hS ?_
            rintro _ H locs - hT hS
            refine lv_bipush (v := (-5)) hx hb dX10_becomePrompt_61 (by decide) ?_
            exact x_ri hx hb hr hlk hQ (Nat.le_of_ble_eq_true rfl) (Nat.le_of_ble_eq_true rfl) hS dX10_becomePrompt_63 () ⟨_, rfl⟩ hT.nil
        · refine lv_goto (tgt := 64) hx hb dX10_becomePrompt_28 (by decide) ?_
          exact J64 _ _ _ hT hS (lv_sub hl [0, 1, 2] rfl)
  exact L2 4294967297 0 _ _ _ (by decide) (by decide) hT.nil hS (lv_sub hl [1, 2, 0] rfl)
