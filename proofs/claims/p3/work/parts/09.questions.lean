abbrev rm_X4_size : Room := { frames := 0, cells := 0, slots := 0, locals := 0 }
set_option maxHeartbeats 4000000 in
set_option maxRecDepth 100000 in
theorem c_X4_size (l : Launch) (E : XE) (K : Nat → Nat) (F : Nat → Nat → Nat) (G : XG) (h0 : Heap) (a : Nat) (ha : K a = 6) : Met l yX4_size (xw yX4_size cX4_size 1 (some .int)) rm_X4_size (va_Pc [.ref a] (XPh E K F G h0)) (XQ E (fun v (u : Unit) => ∃ r : Int32, v = .int r) (fun _ H => H = h0)) 0 0 (xA E) := by
  refine x_enter (by decide) (Nat.le_of_ble_eq_true rfl) ?_
  intro p e s m args below meth c Q S hr hlk hnm hQ hP ls hl
  obtain ⟨⟨hz, hK, hT⟩, hh⟩ := hP
  obtain ⟨hx, hb, -, -, -⟩ := id S
  have hS : va_S (xA E) s.heap s.heap [] := va_S.rf
  have hl : lv_has ls 1 [(0, .ref a)] := hl
  refine lv_aload_n hx hb dX4_size_0 rfl (lv_at hl 0 rfl) ?_
  refine gX4_6 S hK hT ha kf_X4_33 dX4_size_1 (fun x1 hT => ?_)
  exact x_ri hx hb hr hlk hQ (Nat.le_of_ble_eq_true rfl) (Nat.le_of_ble_eq_true rfl) hS dX4_size_4 () ⟨_, rfl⟩ hh

abbrev rm_X4_clear : Room := { frames := 0, cells := 0, slots := 0, locals := 0 }
set_option maxHeartbeats 4000000 in
set_option maxRecDepth 100000 in
theorem c_X4_clear (l : Launch) (E : XE) (K : Nat → Nat) (F : Nat → Nat → Nat) (G : XG) (a : Nat) (ha : K a = 6) : Met l yX4_clear (xw yX4_clear cX4_clear 1 none) rm_X4_clear (va_Pc [.ref a] (XP E K F G)) (XQv E (fun (u : Unit) => True) (fun _ H => TW E K F G [] H)) 0 0 (xA E) := by
  refine x_enter (by decide) (Nat.le_of_ble_eq_true rfl) ?_
  intro p e s m args below meth c Q S hr hlk hnm hQ hP ls hl
  obtain ⟨hz, hK, hT⟩ := hP
  obtain ⟨hx, hb, -, -, -⟩ := id S
  obtain ⟨H, hT, hS, hgo⟩ : ∃ H : Heap, TW E K F G [] H ∧ va_S (xA E) s.heap H [] ∧ H = s.heap := ⟨_, hT, va_S.rf, rfl⟩
  rw [← hgo]
  have hl : lv_has ls 1 [(0, .ref a)] := hl
  refine lv_aload_n hx hb dX4_clear_0 rfl (lv_at hl 0 rfl) ?_
  refine lv_iconst (v := 0) hx hb dX4_clear_1 (by decide) ?_
  refine pX4_6 (kq := []) S hK hT hS ha kf_X4_33 dX4_clear_2 (fun _ h => by cases h) (fun H locs hT hS => ?_)
  exact x_rv hx hb hr hlk hQ (Nat.le_of_ble_eq_true rfl) (Nat.le_of_ble_eq_true rfl) hS dX4_clear_5 () trivial hT.nil

theorem z_X4_isInside_1 (a0 : Int) (h0 : a0 < 0) (r0 : -2147483648 ≤ a0 ∧ a0 < 2147483648) : (0 : Int) = 0 ∨ ((0 : Int) = 1 ∧ 0 ≤ a0 ∧ a0 < 1080) := by omega
theorem z_X4_isInside_2 (a0 : Int) (a1 : Int) (h0 : ¬ (a0 < 0)) (h1 : a1 ≤ a0) (r0 : -2147483648 ≤ a0 ∧ a0 < 2147483648) (r1 : -2147483648 ≤ a1 ∧ a1 < 2147483648) : (0 : Int) = 0 ∨ ((0 : Int) = 1 ∧ 0 ≤ a0 ∧ a0 < 1080) := by omega
theorem z_X4_isInside_3 (a0 : Int) (a1 : Int) (h0 : ¬ (a0 < 0)) (h1 : ¬ (a1 ≤ a0)) (h2 : (1080 : Int) ≤ a0) (r0 : -2147483648 ≤ a0 ∧ a0 < 2147483648) (r1 : -2147483648 ≤ a1 ∧ a1 < 2147483648) : (0 : Int) = 0 ∨ ((0 : Int) = 1 ∧ 0 ≤ a0 ∧ a0 < 1080) := by omega
theorem z_X4_isInside_4 (a0 : Int) (a1 : Int) (h0 : ¬ (a0 < 0)) (h1 : ¬ (a1 ≤ a0)) (h2 : ¬ ((1080 : Int) ≤ a0)) (r0 : -2147483648 ≤ a0 ∧ a0 < 2147483648) (r1 : -2147483648 ≤ a1 ∧ a1 < 2147483648) : (1 : Int) = 0 ∨ ((1 : Int) = 1 ∧ 0 ≤ a0 ∧ a0 < 1080) := by omega
abbrev rm_X4_isInside : Room := { frames := 0, cells := 0, slots := 0, locals := 0 }
set_option maxHeartbeats 4000000 in
set_option maxRecDepth 100000 in
theorem c_X4_isInside (l : Launch) (E : XE) (K : Nat → Nat) (F : Nat → Nat → Nat) (G : XG) (h0 : Heap) (a : Nat) (p0 : Int32) (ha : K a = 6) : Met l yX4_isInside (xw yX4_isInside cX4_isInside 2 (some .boolean)) rm_X4_isInside (va_Pc [.ref a, .int p0] (XPh E K F G h0)) (XQ E (fun v (u : Unit) => ∃ r : Int32, v = .int r ∧ (r = 0 ∨ r = 1) ∧ (r.toInt = 0 ∨ (r.toInt = 1 ∧ 0 ≤ p0.toInt ∧ p0.toInt < 1080))) (fun _ H => H = h0)) 0 0 (xA E) := by
  refine x_enter (by decide) (Nat.le_of_ble_eq_true rfl) ?_
  intro p e s m args below meth c Q S hr hlk hnm hQ hP ls hl
  obtain ⟨⟨hz, hK, hT⟩, hh⟩ := hP
  obtain ⟨hx, hb, -, -, -⟩ := id S
  have hS : va_S (xA E) s.heap s.heap [] := va_S.rf
  have hl : lv_has ls 2 [(0, .ref a), (1, .int p0)] := hl
  refine lv_iload_n hx hb dX4_isInside_0 rfl (lv_at hl 1 rfl) ?_
  refine xi_zlt (tgt := 23) hx hb (rfl : Int32.toInt p0 = p0.toInt) dX4_isInside_1 (by decide) (fun c1 => ?_) (fun c1 => ?_)
  · refine lv_iconst (v := 0) hx hb dX4_isInside_23 (by decide) ?_
    exact x_rz hx hb hr (xnz (Or.inl rfl)) hlk hQ (Nat.le_of_ble_eq_true rfl) (Nat.le_of_ble_eq_true rfl) hS dX4_isInside_24 () ⟨_, rfl, (Or.inl rfl), (z_X4_isInside_1 p0.toInt c1 (xr p0))⟩ hh
  · refine lv_iload_n hx hb dX4_isInside_4 rfl (lv_at hl 1 rfl) ?_
    refine lv_aload_n hx hb dX4_isInside_5 rfl (lv_at hl 0 rfl) ?_
    refine gX4_6 S hK hT ha kf_X4_33 dX4_isInside_6 (fun x2 hT => ?_)
    refine xi_cge (tgt := 23) hx hb (rfl : Int32.toInt p0 = p0.toInt) (rfl : Int32.toInt x2 = x2.toInt) dX4_isInside_9 (by decide) (fun c3 => ?_) (fun c3 => ?_)
    · refine lv_iconst (v := 0) hx hb dX4_isInside_23 (by decide) ?_
      exact x_rz hx hb hr (xnz (Or.inl rfl)) hlk hQ (Nat.le_of_ble_eq_true rfl) (Nat.le_of_ble_eq_true rfl) hS dX4_isInside_24 () ⟨_, rfl, (Or.inl rfl), (z_X4_isInside_2 p0.toInt x2.toInt c1 c3 (xr p0) (xr x2))⟩ hh
    · refine lv_iload_n hx hb dX4_isInside_12 rfl (lv_at hl 1 rfl) ?_
      refine lv_sipush (v := 1080) hx hb dX4_isInside_13 (by decide) ?_
      refine xi_cge (tgt := 23) hx hb (rfl : Int32.toInt p0 = p0.toInt) ((by decide) : Int32.toInt 1080 = (1080 : Int)) dX4_isInside_16 (by decide) (fun c4 => ?_) (fun c4 => ?_)
      · refine lv_iconst (v := 0) hx hb dX4_isInside_23 (by decide) ?_
        exact x_rz hx hb hr (xnz (Or.inl rfl)) hlk hQ (Nat.le_of_ble_eq_true rfl) (Nat.le_of_ble_eq_true rfl) hS dX4_isInside_24 () ⟨_, rfl, (Or.inl rfl), (z_X4_isInside_3 p0.toInt x2.toInt c1 c3 c4 (xr p0) (xr x2))⟩ hh
      · refine lv_iconst (v := 1) hx hb dX4_isInside_19 (by decide) ?_
        refine lv_goto (tgt := 24) hx hb dX4_isInside_20 (by decide) ?_
        exact x_rz hx hb hr (xnz (Or.inr rfl)) hlk hQ (Nat.le_of_ble_eq_true rfl) (Nat.le_of_ble_eq_true rfl) hS dX4_isInside_24 () ⟨_, rfl, (Or.inr rfl), (z_X4_isInside_4 p0.toInt x2.toInt c1 c3 c4 (xr p0) (xr x2))⟩ hh

theorem z_X4_add_1 (a0 : Int) (h0 : ¬ (a0 < 0)) (h1 : ¬ ((1080 : Int) ≤ a0)) (r0 : -2147483648 ≤ a0 ∧ a0 < 2147483648) : 0 ≤ a0 ∧ a0 < ((1080 : Nat) : Int) := by omega
theorem z_X4_add_2 (a0 : Int) (h0 : ¬ (a0 < 0)) (h1 : ¬ ((1080 : Int) ≤ a0)) (r0 : -2147483648 ≤ a0 ∧ a0 < 2147483648) : 0 ≤ a0 ∧ a0 < ((1080 : Nat) : Int) := by omega
theorem z_X4_add_3 (a0 : Int) (h0 : ¬ (a0 < 0)) (h1 : ¬ ((1080 : Int) ≤ a0)) (r0 : -2147483648 ≤ a0 ∧ a0 < 2147483648) : 0 ≤ a0 ∧ a0 < ((1080 : Nat) : Int) := by omega
theorem z_X4_add_4 (a0 : Int) (h0 : ¬ (a0 < 0)) (h1 : ¬ ((1080 : Int) ≤ a0)) (r0 : -2147483648 ≤ a0 ∧ a0 < 2147483648) : 0 ≤ a0 ∧ a0 < ((1080 : Nat) : Int) := by omega
theorem z_X4_add_5 (a0 : Int) (h0 : ¬ (a0 < 0)) (h1 : ¬ ((1080 : Int) ≤ a0)) (r0 : -2147483648 ≤ a0 ∧ a0 < 2147483648) : 0 ≤ a0 ∧ a0 < ((1080 : Nat) : Int) := by omega
theorem z_X4_add_6 (a0 : Int) (h0 : ¬ (a0 < 0)) (h1 : ¬ ((1080 : Int) ≤ a0)) (r0 : -2147483648 ≤ a0 ∧ a0 < 2147483648) : 0 ≤ a0 ∧ a0 < ((1080 : Nat) : Int) := by omega
abbrev rm_X4_add : Room := { frames := 0, cells := 0, slots := 0, locals := 0 }
set_option maxHeartbeats 4000000 in
set_option maxRecDepth 100000 in
theorem c_X4_add (l : Launch) (E : XE) (K : Nat → Nat) (F : Nat → Nat → Nat) (G : XG) (a : Nat) (p0 : Nat) (p1 : Int32) (p2 : Int32) (p3 : Int32) (p4 : Int32) (ha : K a = 6) (hp0 : K p0 = 9) (b4 : p4 = 0 ∨ p4 = 1) : Met l yX4_add (xw yX4_add cX4_add 6 none) rm_X4_add (va_Pc [.ref a, .ref p0, .int p1, .int p2, .int p3, .int p4] (XP E K F G)) (XQv E (fun (u : Unit) => True) (fun _ H => TW E K F G [] H)) 0 0 (xA E) := by
  refine x_enter (by decide) (Nat.le_of_ble_eq_true rfl) ?_
  intro p e s m args below meth c Q S hr hlk hnm hQ hP ls hl
  obtain ⟨hz, hK, hT⟩ := hP
  obtain ⟨hx, hb, -, -, -⟩ := id S
  obtain ⟨H, hT, hS, hgo⟩ : ∃ H : Heap, TW E K F G [] H ∧ va_S (xA E) s.heap H [] ∧ H = s.heap := ⟨_, hT, va_S.rf, rfl⟩
  rw [← hgo]
  have hl : lv_has ls 6 [(0, .ref a), (1, .ref p0), (2, .int p1), (3, .int p2), (4, .int p3), (5, .int p4)] := hl
  refine lv_aload_n hx hb dX4_add_0 rfl (lv_at hl 0 rfl) ?_
  refine gX4_6 S hK hT ha kf_X4_33 dX4_add_1 (fun x1 hT => ?_)
  refine xi_zlt (tgt := 95) hx hb (rfl : Int32.toInt x1 = x1.toInt) dX4_add_4 (by decide) (fun c2 => ?_) (fun c2 => ?_)
  · exact x_rv hx hb hr hlk hQ (Nat.le_of_ble_eq_true rfl) (Nat.le_of_ble_eq_true rfl) hS dX4_add_95 () trivial hT.nil
  · refine lv_aload_n hx hb dX4_add_7 rfl (lv_at hl 0 rfl) ?_
    refine kX4_6 (v := x1) S hK hT ha (List.mem_of_getElem? (i := 0) rfl) kf_X4_33 dX4_add_8 ?_
    refine lv_sipush (v := 1080) hx hb dX4_add_11 (by decide) ?_
    refine xi_cge (tgt := 95) hx hb (rfl : Int32.toInt x1 = x1.toInt) ((by decide) : Int32.toInt 1080 = (1080 : Int)) dX4_add_14 (by decide) (fun c3 => ?_) (fun c3 => ?_)
    · exact x_rv hx hb hr hlk hQ (Nat.le_of_ble_eq_true rfl) (Nat.le_of_ble_eq_true rfl) hS dX4_add_95 () trivial hT.nil
    · refine lv_aload_n hx hb dX4_add_17 rfl (lv_at hl 0 rfl) ?_
      refine gX4_0 S hK hT ha kf_X4_13 dX4_add_18 (fun hk4 => ?_)
      refine lv_aload_n hx hb dX4_add_21 rfl (lv_at hl 0 rfl) ?_
      refine kX4_6 (v := x1) S hK hT ha (List.mem_of_getElem? (i := 0) rfl) kf_X4_33 dX4_add_22 ?_
      refine lv_aload_n hx hb dX4_add_25 rfl (lv_at hl 1 rfl) ?_
      refine gX7_1 S hK hT hp0 kf_X4_37 dX4_add_26 (fun x5 hT => ?_)
      refine as_0 S hK hT hS hk4 ar_22 aw_22 (by decide) (z_X4_add_1 x1.toInt c2 c3 (xr x1)) dX4_add_29 (fun H locs hT hS => ?_)
      refine lv_aload_n hx hb dX4_add_30 rfl (lv_at hl 0 rfl) ?_
      refine gX4_1 S hK hT ha kf_X4_17 dX4_add_31 (fun hk6 => ?_)
      refine lv_aload_n hx hb dX4_add_34 rfl (lv_at hl 0 rfl) ?_
      refine kX4_6 (v := x1) S hK hT ha (List.mem_of_getElem? (i := 1) rfl) kf_X4_33 dX4_add_35 ?_
      refine lv_iload_n hx hb dX4_add_38 rfl (lv_at hl 2 rfl) ?_
      refine as_0 S hK hT hS hk6 ar_22 aw_22 (by decide) (z_X4_add_2 x1.toInt c2 c3 (xr x1)) dX4_add_39 (fun H locs hT hS => ?_)
      refine lv_aload_n hx hb dX4_add_40 rfl (lv_at hl 0 rfl) ?_
      refine gX4_2 S hK hT ha kf_X4_20 dX4_add_41 (fun hk7 => ?_)
      refine lv_aload_n hx hb dX4_add_44 rfl (lv_at hl 0 rfl) ?_
      refine kX4_6 (v := x1) S hK hT ha (List.mem_of_getElem? (i := 1) rfl) kf_X4_33 dX4_add_45 ?_
      refine lv_iload_n hx hb dX4_add_48 rfl (lv_at hl 3 rfl) ?_
      refine as_0 S hK hT hS hk7 ar_22 aw_22 (by decide) (z_X4_add_3 x1.toInt c2 c3 (xr x1)) dX4_add_49 (fun H locs hT hS => ?_)
      refine lv_aload_n hx hb dX4_add_50 rfl (lv_at hl 0 rfl) ?_
      refine gX4_3 S hK hT ha kf_X4_23 dX4_add_51 (fun hk8 => ?_)
      refine lv_aload_n hx hb dX4_add_54 rfl (lv_at hl 0 rfl) ?_
      refine kX4_6 (v := x1) S hK hT ha (List.mem_of_getElem? (i := 1) rfl) kf_X4_33 dX4_add_55 ?_
      refine lv_iload hx hb dX4_add_58 (lv_at hl 4 rfl) ?_
      refine as_0 S hK hT hS hk8 ar_22 aw_22 (by decide) (z_X4_add_4 x1.toInt c2 c3 (xr x1)) dX4_add_60 (fun H locs hT hS => ?_)
      refine lv_aload_n hx hb dX4_add_61 rfl (lv_at hl 0 rfl) ?_
      refine gX4_4 S hK hT ha kf_X4_26 dX4_add_62 (fun hk9 => ?_)
      refine lv_aload_n hx hb dX4_add_65 rfl (lv_at hl 0 rfl) ?_
      refine kX4_6 (v := x1) S hK hT ha (List.mem_of_getElem? (i := 1) rfl) kf_X4_33 dX4_add_66 ?_
      refine lv_aload_n hx hb dX4_add_69 rfl (lv_at hl 1 rfl) ?_
      refine gX7_9 S hK hT hp0 kf_X4_42 dX4_add_70 (fun x10 hT => ?_)
      refine as_3 S hK hT hS hk9 ar_23 aw_23 (by decide) (z_X4_add_5 x1.toInt c2 c3 (xr x1)) dX4_add_73 (fun H locs hT hS => ?_)
      refine lv_aload_n hx hb dX4_add_74 rfl (lv_at hl 0 rfl) ?_
      refine gX4_5 S hK hT ha kf_X4_30 dX4_add_75 (fun hk11 => ?_)
      refine lv_aload_n hx hb dX4_add_78 rfl (lv_at hl 0 rfl) ?_
      refine kX4_6 (v := x1) S hK hT ha (List.mem_of_getElem? (i := 2) rfl) kf_X4_33 dX4_add_79 ?_
      refine lv_iload hx hb dX4_add_82 (lv_at hl 5 rfl) ?_
      refine as_3 S hK hT hS hk11 ar_23 aw_23 (by decide) (z_X4_add_6 x1.toInt c2 c3 (xr x1)) dX4_add_84 (fun H locs hT hS => ?_)
      refine lv_aload_n hx hb dX4_add_85 rfl (lv_at hl 0 rfl) ?_
      refine lv_dup hx hb dX4_add_86 rfl ?_
      refine kX4_6 (v := x1) S hK hT ha (List.mem_of_getElem? (i := 2) rfl) kf_X4_33 dX4_add_87 ?_
      refine lv_iconst (v := 1) hx hb dX4_add_90 (by decide) ?_
      refine xi_iadd hx hb (rfl : Int32.toInt x1 = x1.toInt) ((by decide) : Int32.toInt 1 = (1 : Int)) dX4_add_91 (fun x12 t13 => ?_)
      refine pX4_6 (kq := [(p0, 9, x10), (p0, 1, x5)]) S hK hT hS ha kf_X4_33 dX4_add_92 (List.forall_mem_cons.mpr ⟨⟨List.mem_of_getElem? (i := 0) rfl, (show (9 : Nat) ≠ 6 by decide)⟩, List.forall_mem_cons.mpr ⟨⟨List.mem_of_getElem? (i := 1) rfl, (show (1 : Nat) ≠ 6 by decide)⟩, fun _ h => by cases h⟩⟩) (fun H locs hT hS => ?_)
      exact x_rv hx hb hr hlk hQ (Nat.le_of_ble_eq_true rfl) (Nat.le_of_ble_eq_true rfl) hS dX4_add_95 () trivial hT.nil

theorem z_X4_take_1 (a0 : Int) (a1 : Int) (h0 : a1 = 0 ∨ (a1 = 1 ∧ 0 ≤ a0 ∧ a0 < 1080)) (h1 : ¬ (a1 = 0)) (r0 : -2147483648 ≤ a0 ∧ a0 < 2147483648) (r1 : -2147483648 ≤ a1 ∧ a1 < 2147483648) : 0 ≤ a0 ∧ a0 < ((1080 : Nat) : Int) := by omega
theorem z_X4_take_2 (a0 : Int) (h0 : ¬ (a0 < 0)) (h1 : ¬ ((1080 : Int) ≤ a0)) (r0 : -2147483648 ≤ a0 ∧ a0 < 2147483648) : 0 ≤ a0 ∧ a0 < ((1080 : Nat) : Int) := by omega
theorem z_X4_take_3 (a0 : Int) (a1 : Int) (h0 : a1 = 0 ∨ (a1 = 1 ∧ 0 ≤ a0 ∧ a0 < 1080)) (h1 : ¬ (a1 = 0)) (r0 : -2147483648 ≤ a0 ∧ a0 < 2147483648) (r1 : -2147483648 ≤ a1 ∧ a1 < 2147483648) : 0 ≤ a0 ∧ a0 < ((1080 : Nat) : Int) := by omega
theorem z_X4_take_4 (a0 : Int) (h0 : ¬ (a0 < 0)) (h1 : ¬ ((1080 : Int) ≤ a0)) (r0 : -2147483648 ≤ a0 ∧ a0 < 2147483648) : 0 ≤ a0 ∧ a0 < ((1080 : Nat) : Int) := by omega
theorem z_X4_take_5 (a0 : Int) (a1 : Int) (h0 : a1 = 0 ∨ (a1 = 1 ∧ 0 ≤ a0 ∧ a0 < 1080)) (h1 : ¬ (a1 = 0)) (r0 : -2147483648 ≤ a0 ∧ a0 < 2147483648) (r1 : -2147483648 ≤ a1 ∧ a1 < 2147483648) : 0 ≤ a0 ∧ a0 < ((1080 : Nat) : Int) := by omega
theorem z_X4_take_6 (a0 : Int) (h0 : ¬ (a0 < 0)) (h1 : ¬ ((1080 : Int) ≤ a0)) (r0 : -2147483648 ≤ a0 ∧ a0 < 2147483648) : 0 ≤ a0 ∧ a0 < ((1080 : Nat) : Int) := by omega
theorem z_X4_take_7 (a0 : Int) (a1 : Int) (h0 : a1 = 0 ∨ (a1 = 1 ∧ 0 ≤ a0 ∧ a0 < 1080)) (h1 : ¬ (a1 = 0)) (r0 : -2147483648 ≤ a0 ∧ a0 < 2147483648) (r1 : -2147483648 ≤ a1 ∧ a1 < 2147483648) : 0 ≤ a0 ∧ a0 < ((1080 : Nat) : Int) := by omega
theorem z_X4_take_8 (a0 : Int) (h0 : ¬ (a0 < 0)) (h1 : ¬ ((1080 : Int) ≤ a0)) (r0 : -2147483648 ≤ a0 ∧ a0 < 2147483648) : 0 ≤ a0 ∧ a0 < ((1080 : Nat) : Int) := by omega
theorem z_X4_take_9 (a0 : Int) (a1 : Int) (h0 : a1 = 0 ∨ (a1 = 1 ∧ 0 ≤ a0 ∧ a0 < 1080)) (h1 : ¬ (a1 = 0)) (r0 : -2147483648 ≤ a0 ∧ a0 < 2147483648) (r1 : -2147483648 ≤ a1 ∧ a1 < 2147483648) : 0 ≤ a0 ∧ a0 < ((1080 : Nat) : Int) := by omega
theorem z_X4_take_10 (a0 : Int) (h0 : ¬ (a0 < 0)) (h1 : ¬ ((1080 : Int) ≤ a0)) (r0 : -2147483648 ≤ a0 ∧ a0 < 2147483648) : 0 ≤ a0 ∧ a0 < ((1080 : Nat) : Int) := by omega
theorem z_X4_take_11 (a0 : Int) (a1 : Int) (h0 : a1 = 0 ∨ (a1 = 1 ∧ 0 ≤ a0 ∧ a0 < 1080)) (h1 : ¬ (a1 = 0)) (r0 : -2147483648 ≤ a0 ∧ a0 < 2147483648) (r1 : -2147483648 ≤ a1 ∧ a1 < 2147483648) : 0 ≤ a0 ∧ a0 < ((1080 : Nat) : Int) := by omega
theorem z_X4_take_12 (a0 : Int) (h0 : ¬ (a0 < 0)) (h1 : ¬ ((1080 : Int) ≤ a0)) (r0 : -2147483648 ≤ a0 ∧ a0 < 2147483648) : 0 ≤ a0 ∧ a0 < ((1080 : Nat) : Int) := by omega
abbrev rm_X4_take : Room := { frames := 1, cells := 0, slots := 0, locals := 21 }
set_option maxHeartbeats 4000000 in
set_option maxRecDepth 100000 in
theorem c_X4_take (l : Launch) (E : XE) (K : Nat → Nat) (F : Nat → Nat → Nat) (G : XG) (a : Nat) (p0 : Nat) (p1 : Int32) (ha : K a = 6) (hp0 : K p0 = 6) : Met l yX4_take (xw yX4_take cX4_take 3 none) rm_X4_take (va_Pc [.ref a, .ref p0, .int p1] (XP E K F G)) (XQv E (fun (u : Unit) => True) (fun _ H => TW E K F G [] H)) 0 0 (xA E) := by
  refine x_enter (by decide) (Nat.le_of_ble_eq_true rfl) ?_
  intro p e s m args below meth c Q S hr hlk hnm hQ hP ls hl
  obtain ⟨hz, hK, hT⟩ := hP
  obtain ⟨hx, hb, -, -, -⟩ := id S
  obtain ⟨H, hT, hS, hgo⟩ : ∃ H : Heap, TW E K F G [] H ∧ va_S (xA E) s.heap H [] ∧ H = s.heap := ⟨_, hT, va_S.rf, rfl⟩
  rw [← hgo]
  have hl : lv_has ls 3 [(0, .ref a), (1, .ref p0), (2, .int p1)] := hl
  refine lv_aload_n hx hb dX4_take_0 rfl (lv_at hl 0 rfl) ?_
  refine gX4_6 S hK hT ha kf_X4_33 dX4_take_1 (fun x1 hT => ?_)
  refine xi_zlt (tgt := 125) hx hb (rfl : Int32.toInt x1 = x1.toInt) dX4_take_4 (by decide) (fun c2 => ?_) (fun c2 => ?_)
  · exact x_rv hx hb hr hlk hQ (Nat.le_of_ble_eq_true rfl) (Nat.le_of_ble_eq_true rfl) hS dX4_take_125 () trivial hT.nil
  · refine lv_aload_n hx hb dX4_take_7 rfl (lv_at hl 0 rfl) ?_
    refine kX4_6 (v := x1) S hK hT ha (List.mem_of_getElem? (i := 0) rfl) kf_X4_33 dX4_take_8 ?_
    refine lv_sipush (v := 1080) hx hb dX4_take_11 (by decide) ?_
    refine xi_cge (tgt := 125) hx hb (rfl : Int32.toInt x1 = x1.toInt) ((by decide) : Int32.toInt 1080 = (1080 : Int)) dX4_take_14 (by decide) (fun c3 => ?_) (fun c3 => ?_)
    · exact x_rv hx hb hr hlk hQ (Nat.le_of_ble_eq_true rfl) (Nat.le_of_ble_eq_true rfl) hS dX4_take_125 () trivial hT.nil
    · refine lv_aload_n hx hb dX4_take_17 rfl (lv_at hl 1 rfl) ?_
      refine lv_iload_n hx hb dX4_take_18 rfl (lv_at hl 2 rfl) ?_
      refine x_clp (x_runV (b := p0) (As := [.int p1]) (rest := []) S (c_X4_isInside l E K F G H p0 p1 hp0) mv_X4_isInside km_X4_46 rfl rfl ⟨Nat.le_of_ble_eq_true rfl, Nat.le_of_ble_eq_true rfl⟩ (rc_6 hK hT hp0) hK (fun _ => XPh.blind) (fun U hU hW => XPh.at hK hz hS hT hU hW) rfl hl.1 (Nat.le_of_ble_eq_true rfl) dX4_take_19 ⟨Nat.le_of_ble_eq_true rfl, Nat.le_of_ble_eq_true rfl⟩) hS ?_
      rintro _ _ locs ⟨x4, rfl, b5, t6⟩ hS
      have t6 : x4.toInt = 0 ∨ (x4.toInt = 1 ∧ 0 ≤ p1.toInt ∧ p1.toInt < 1080) := t6
      refine xi_zeq (tgt := 125) hx hb (rfl : Int32.toInt x4 = x4.toInt) dX4_take_22 (by decide) (fun c7 => ?_) (fun c7 => ?_)
      · exact x_rv hx hb hr hlk hQ (Nat.le_of_ble_eq_true rfl) (Nat.le_of_ble_eq_true rfl) hS dX4_take_125 () trivial hT.nil
      · refine lv_aload_n hx hb dX4_take_25 rfl (lv_at hl 0 rfl) ?_
        refine gX4_0 S hK hT ha kf_X4_13 dX4_take_26 (fun hk8 => ?_)
        refine lv_aload_n hx hb dX4_take_29 rfl (lv_at hl 0 rfl) ?_
        refine kX4_6 (v := x1) S hK hT ha (List.mem_of_getElem? (i := 0) rfl) kf_X4_33 dX4_take_30 ?_
        refine lv_aload_n hx hb dX4_take_33 rfl (lv_at hl 1 rfl) ?_
        refine gX4_0 S hK hT hp0 kf_X4_13 dX4_take_34 (fun hk9 => ?_)
        refine lv_iload_n hx hb dX4_take_37 rfl (lv_at hl 2 rfl) ?_
        refine al_0 S hK hT hk9 ar_22 (by decide) (z_X4_take_1 p1.toInt x4.toInt t6 c7 (xr p1) (xr x4)) dX4_take_38 (fun x10 o11 => ?_)
        refine as_0 S hK hT hS hk8 ar_22 aw_22 (by decide) (z_X4_take_2 x1.toInt c2 c3 (xr x1)) dX4_take_39 (fun H locs hT hS => ?_)
        refine lv_aload_n hx hb dX4_take_40 rfl (lv_at hl 0 rfl) ?_
        refine gX4_1 S hK hT ha kf_X4_17 dX4_take_41 (fun hk12 => ?_)
        refine lv_aload_n hx hb dX4_take_44 rfl (lv_at hl 0 rfl) ?_
        refine kX4_6 (v := x1) S hK hT ha (List.mem_of_getElem? (i := 0) rfl) kf_X4_33 dX4_take_45 ?_
        refine lv_aload_n hx hb dX4_take_48 rfl (lv_at hl 1 rfl) ?_
        refine gX4_1 S hK hT hp0 kf_X4_17 dX4_take_49 (fun hk13 => ?_)
        refine lv_iload_n hx hb dX4_take_52 rfl (lv_at hl 2 rfl) ?_
        refine al_0 S hK hT hk13 ar_22 (by decide) (z_X4_take_3 p1.toInt x4.toInt t6 c7 (xr p1) (xr x4)) dX4_take_53 (fun x14 o15 => ?_)
        refine as_0 S hK hT hS hk12 ar_22 aw_22 (by decide) (z_X4_take_4 x1.toInt c2 c3 (xr x1)) dX4_take_54 (fun H locs hT hS => ?_)
        refine lv_aload_n hx hb dX4_take_55 rfl (lv_at hl 0 rfl) ?_
        refine gX4_2 S hK hT ha kf_X4_20 dX4_take_56 (fun hk16 => ?_)
        refine lv_aload_n hx hb dX4_take_59 rfl (lv_at hl 0 rfl) ?_
        refine kX4_6 (v := x1) S hK hT ha (List.mem_of_getElem? (i := 0) rfl) kf_X4_33 dX4_take_60 ?_
        refine lv_aload_n hx hb dX4_take_63 rfl (lv_at hl 1 rfl) ?_
        refine gX4_2 S hK hT hp0 kf_X4_20 dX4_take_64 (fun hk17 => ?_)
        refine lv_iload_n hx hb dX4_take_67 rfl (lv_at hl 2 rfl) ?_
        refine al_0 S hK hT hk17 ar_22 (by decide) (z_X4_take_5 p1.toInt x4.toInt t6 c7 (xr p1) (xr x4)) dX4_take_68 (fun x18 o19 => ?_)
        refine as_0 S hK hT hS hk16 ar_22 aw_22 (by decide) (z_X4_take_6 x1.toInt c2 c3 (xr x1)) dX4_take_69 (fun H locs hT hS => ?_)
        refine lv_aload_n hx hb dX4_take_70 rfl (lv_at hl 0 rfl) ?_
        refine gX4_3 S hK hT ha kf_X4_23 dX4_take_71 (fun hk20 => ?_)
        refine lv_aload_n hx hb dX4_take_74 rfl (lv_at hl 0 rfl) ?_
        refine kX4_6 (v := x1) S hK hT ha (List.mem_of_getElem? (i := 0) rfl) kf_X4_33 dX4_take_75 ?_
        refine lv_aload_n hx hb dX4_take_78 rfl (lv_at hl 1 rfl) ?_
        refine gX4_3 S hK hT hp0 kf_X4_23 dX4_take_79 (fun hk21 => ?_)
        refine lv_iload_n hx hb dX4_take_82 rfl (lv_at hl 2 rfl) ?_
        refine al_0 S hK hT hk21 ar_22 (by decide) (z_X4_take_7 p1.toInt x4.toInt t6 c7 (xr p1) (xr x4)) dX4_take_83 (fun x22 o23 => ?_)
        refine as_0 S hK hT hS hk20 ar_22 aw_22 (by decide) (z_X4_take_8 x1.toInt c2 c3 (xr x1)) dX4_take_84 (fun H locs hT hS => ?_)
        refine lv_aload_n hx hb dX4_take_85 rfl (lv_at hl 0 rfl) ?_
        refine gX4_4 S hK hT ha kf_X4_26 dX4_take_86 (fun hk24 => ?_)
        refine lv_aload_n hx hb dX4_take_89 rfl (lv_at hl 0 rfl) ?_
        refine kX4_6 (v := x1) S hK hT ha (List.mem_of_getElem? (i := 0) rfl) kf_X4_33 dX4_take_90 ?_
        refine lv_aload_n hx hb dX4_take_93 rfl (lv_at hl 1 rfl) ?_
        refine gX4_4 S hK hT hp0 kf_X4_26 dX4_take_94 (fun hk25 => ?_)
        refine lv_iload_n hx hb dX4_take_97 rfl (lv_at hl 2 rfl) ?_
        refine al_3 S hK hT hk25 ar_23 (by decide) (z_X4_take_9 p1.toInt x4.toInt t6 c7 (xr p1) (xr x4)) dX4_take_98 (fun x26 o27 => ?_)
        refine as_3 S hK hT hS hk24 ar_23 aw_23 (by decide) (z_X4_take_10 x1.toInt c2 c3 (xr x1)) dX4_take_99 (fun H locs hT hS => ?_)
        refine lv_aload_n hx hb dX4_take_100 rfl (lv_at hl 0 rfl) ?_
        refine gX4_5 S hK hT ha kf_X4_30 dX4_take_101 (fun hk28 => ?_)
        refine lv_aload_n hx hb dX4_take_104 rfl (lv_at hl 0 rfl) ?_
        refine kX4_6 (v := x1) S hK hT ha (List.mem_of_getElem? (i := 0) rfl) kf_X4_33 dX4_take_105 ?_
        refine lv_aload_n hx hb dX4_take_108 rfl (lv_at hl 1 rfl) ?_
        refine gX4_5 S hK hT hp0 kf_X4_30 dX4_take_109 (fun hk29 => ?_)
        refine lv_iload_n hx hb dX4_take_112 rfl (lv_at hl 2 rfl) ?_
        refine al_3 S hK hT hk29 ar_23 (by decide) (z_X4_take_11 p1.toInt x4.toInt t6 c7 (xr p1) (xr x4)) dX4_take_113 (fun x30 o31 => ?_)
        refine as_3 S hK hT hS hk28 ar_23 aw_23 (by decide) (z_X4_take_12 x1.toInt c2 c3 (xr x1)) dX4_take_114 (fun H locs hT hS => ?_)
        refine lv_aload_n hx hb dX4_take_115 rfl (lv_at hl 0 rfl) ?_
        refine lv_dup hx hb dX4_take_116 rfl ?_
        refine kX4_6 (v := x1) S hK hT ha (List.mem_of_getElem? (i := 0) rfl) kf_X4_33 dX4_take_117 ?_
        refine lv_iconst (v := 1) hx hb dX4_take_120 (by decide) ?_
        refine xi_iadd hx hb (rfl : Int32.toInt x1 = x1.toInt) ((by decide) : Int32.toInt 1 = (1 : Int)) dX4_take_121 (fun x32 t33 => ?_)
        refine pX4_6 (kq := []) S hK hT hS ha kf_X4_33 dX4_take_122 (fun _ h => by cases h) (fun H locs hT hS => ?_)
        exact x_rv hx hb hr hlk hQ (Nat.le_of_ble_eq_true rfl) (Nat.le_of_ble_eq_true rfl) hS dX4_take_125 () trivial hT.nil

theorem z_X4_number_1 (a0 : Int) (a1 : Int) (h0 : a1 = 0 ∨ (a1 = 1 ∧ 0 ≤ a0 ∧ a0 < 1080)) (h1 : ¬ (a1 = 0)) (r0 : -2147483648 ≤ a0 ∧ a0 < 2147483648) (r1 : -2147483648 ≤ a1 ∧ a1 < 2147483648) : 0 ≤ a0 ∧ a0 < ((1080 : Nat) : Int) := by omega
abbrev rm_X4_number : Room := { frames := 1, cells := 0, slots := 0, locals := 21 }
set_option maxHeartbeats 4000000 in
set_option maxRecDepth 100000 in
theorem c_X4_number (l : Launch) (E : XE) (K : Nat → Nat) (F : Nat → Nat → Nat) (G : XG) (h0 : Heap) (a : Nat) (p0 : Int32) (ha : K a = 6) : Met l yX4_number (xw yX4_number cX4_number 2 (some .int)) rm_X4_number (va_Pc [.ref a, .int p0] (XPh E K F G h0)) (XQ E (fun v (u : Unit) => ∃ r : Int32, v = .int r) (fun _ H => H = h0)) 0 0 (xA E) := by
  refine x_enter (by decide) (Nat.le_of_ble_eq_true rfl) ?_
  intro p e s m args below meth c Q S hr hlk hnm hQ hP ls hl
  obtain ⟨⟨hz, hK, hT⟩, hh⟩ := hP
  obtain ⟨hx, hb, -, -, -⟩ := id S
  have hS : va_S (xA E) s.heap s.heap [] := va_S.rf
  have hl : lv_has ls 2 [(0, .ref a), (1, .int p0)] := hl
  refine lv_aload_n hx hb dX4_number_0 rfl (lv_at hl 0 rfl) ?_
  refine lv_iload_n hx hb dX4_number_1 rfl (lv_at hl 1 rfl) ?_
  refine x_clp (x_runV (b := a) (As := [.int p0]) (rest := []) S (c_X4_isInside l E K F G s.heap a p0 ha) mv_X4_isInside km_X4_46 rfl rfl ⟨Nat.le_of_ble_eq_true rfl, Nat.le_of_ble_eq_true rfl⟩ (rc_6 hK hT ha) hK (fun _ => XPh.blind) (fun U hU hW => XPh.at hK hz hS hT hU hW) rfl hl.1 (Nat.le_of_ble_eq_true rfl) dX4_number_2 ⟨Nat.le_of_ble_eq_true rfl, Nat.le_of_ble_eq_true rfl⟩) hS ?_
  rintro _ _ locs ⟨x1, rfl, b2, t3⟩ hS
  have t3 : x1.toInt = 0 ∨ (x1.toInt = 1 ∧ 0 ≤ p0.toInt ∧ p0.toInt < 1080) := t3
  refine xi_zeq (tgt := 17) hx hb (rfl : Int32.toInt x1 = x1.toInt) dX4_number_5 (by decide) (fun c4 => ?_) (fun c4 => ?_)
  · refine lv_iconst (v := (-1)) hx hb dX4_number_17 (by decide) ?_
    exact x_ri hx hb hr hlk hQ (Nat.le_of_ble_eq_true rfl) (Nat.le_of_ble_eq_true rfl) hS dX4_number_18 () ⟨_, rfl⟩ hh
  · refine lv_aload_n hx hb dX4_number_8 rfl (lv_at hl 0 rfl) ?_
    refine gX4_0 S hK hT ha kf_X4_13 dX4_number_9 (fun hk5 => ?_)
    refine lv_iload_n hx hb dX4_number_12 rfl (lv_at hl 1 rfl) ?_
    refine al_0 S hK hT hk5 ar_22 (by decide) (z_X4_number_1 p0.toInt x1.toInt t3 c4 (xr p0) (xr x1)) dX4_number_13 (fun x6 o7 => ?_)
    refine lv_goto (tgt := 18) hx hb dX4_number_14 (by decide) ?_
    exact x_ri hx hb hr hlk hQ (Nat.le_of_ble_eq_true rfl) (Nat.le_of_ble_eq_true rfl) hS dX4_number_18 () ⟨_, rfl⟩ hh

theorem z_X4_subject_1 (a0 : Int) (a1 : Int) (h0 : a1 = 0 ∨ (a1 = 1 ∧ 0 ≤ a0 ∧ a0 < 1080)) (h1 : ¬ (a1 = 0)) (r0 : -2147483648 ≤ a0 ∧ a0 < 2147483648) (r1 : -2147483648 ≤ a1 ∧ a1 < 2147483648) : 0 ≤ a0 ∧ a0 < ((1080 : Nat) : Int) := by omega
abbrev rm_X4_subject : Room := { frames := 1, cells := 0, slots := 0, locals := 21 }
set_option maxHeartbeats 4000000 in
set_option maxRecDepth 100000 in
theorem c_X4_subject (l : Launch) (E : XE) (K : Nat → Nat) (F : Nat → Nat → Nat) (G : XG) (h0 : Heap) (a : Nat) (p0 : Int32) (ha : K a = 6) : Met l yX4_subject (xw yX4_subject cX4_subject 2 (some .int)) rm_X4_subject (va_Pc [.ref a, .int p0] (XPh E K F G h0)) (XQ E (fun v (u : Unit) => ∃ r : Int32, v = .int r) (fun _ H => H = h0)) 0 0 (xA E) := by
  refine x_enter (by decide) (Nat.le_of_ble_eq_true rfl) ?_
  intro p e s m args below meth c Q S hr hlk hnm hQ hP ls hl
  obtain ⟨⟨hz, hK, hT⟩, hh⟩ := hP
  obtain ⟨hx, hb, -, -, -⟩ := id S
  have hS : va_S (xA E) s.heap s.heap [] := va_S.rf
  have hl : lv_has ls 2 [(0, .ref a), (1, .int p0)] := hl
  refine lv_aload_n hx hb dX4_subject_0 rfl (lv_at hl 0 rfl) ?_
  refine lv_iload_n hx hb dX4_subject_1 rfl (lv_at hl 1 rfl) ?_
  refine x_clp (x_runV (b := a) (As := [.int p0]) (rest := []) S (c_X4_isInside l E K F G s.heap a p0 ha) mv_X4_isInside km_X4_46 rfl rfl ⟨Nat.le_of_ble_eq_true rfl, Nat.le_of_ble_eq_true rfl⟩ (rc_6 hK hT ha) hK (fun _ => XPh.blind) (fun U hU hW => XPh.at hK hz hS hT hU hW) rfl hl.1 (Nat.le_of_ble_eq_true rfl) dX4_subject_2 ⟨Nat.le_of_ble_eq_true rfl, Nat.le_of_ble_eq_true rfl⟩) hS ?_
  rintro _ _ locs ⟨x1, rfl, b2, t3⟩ hS
  have t3 : x1.toInt = 0 ∨ (x1.toInt = 1 ∧ 0 ≤ p0.toInt ∧ p0.toInt < 1080) := t3
  refine xi_zeq (tgt := 17) hx hb (rfl : Int32.toInt x1 = x1.toInt) dX4_subject_5 (by decide) (fun c4 => ?_) (fun c4 => ?_)
  · refine lv_iconst (v := (-1)) hx hb dX4_subject_17 (by decide) ?_
    exact x_ri hx hb hr hlk hQ (Nat.le_of_ble_eq_true rfl) (Nat.le_of_ble_eq_true rfl) hS dX4_subject_18 () ⟨_, rfl⟩ hh
  · refine lv_aload_n hx hb dX4_subject_8 rfl (lv_at hl 0 rfl) ?_
    refine gX4_1 S hK hT ha kf_X4_17 dX4_subject_9 (fun hk5 => ?_)
    refine lv_iload_n hx hb dX4_subject_12 rfl (lv_at hl 1 rfl) ?_
    refine al_0 S hK hT hk5 ar_22 (by decide) (z_X4_subject_1 p0.toInt x1.toInt t3 c4 (xr p0) (xr x1)) dX4_subject_13 (fun x6 o7 => ?_)
    refine lv_goto (tgt := 18) hx hb dX4_subject_14 (by decide) ?_
    exact x_ri hx hb hr hlk hQ (Nat.le_of_ble_eq_true rfl) (Nat.le_of_ble_eq_true rfl) hS dX4_subject_18 () ⟨_, rfl⟩ hh

theorem z_X4_before_1 (a0 : Int) (a1 : Int) (h0 : a1 = 0 ∨ (a1 = 1 ∧ 0 ≤ a0 ∧ a0 < 1080)) (h1 : ¬ (a1 = 0)) (r0 : -2147483648 ≤ a0 ∧ a0 < 2147483648) (r1 : -2147483648 ≤ a1 ∧ a1 < 2147483648) : 0 ≤ a0 ∧ a0 < ((1080 : Nat) : Int) := by omega
abbrev rm_X4_before : Room := { frames := 1, cells := 0, slots := 0, locals := 21 }
set_option maxHeartbeats 4000000 in
set_option maxRecDepth 100000 in
theorem c_X4_before (l : Launch) (E : XE) (K : Nat → Nat) (F : Nat → Nat → Nat) (G : XG) (h0 : Heap) (a : Nat) (p0 : Int32) (ha : K a = 6) : Met l yX4_before (xw yX4_before cX4_before 2 (some .int)) rm_X4_before (va_Pc [.ref a, .int p0] (XPh E K F G h0)) (XQ E (fun v (u : Unit) => ∃ r : Int32, v = .int r) (fun _ H => H = h0)) 0 0 (xA E) := by
  refine x_enter (by decide) (Nat.le_of_ble_eq_true rfl) ?_
  intro p e s m args below meth c Q S hr hlk hnm hQ hP ls hl
  obtain ⟨⟨hz, hK, hT⟩, hh⟩ := hP
  obtain ⟨hx, hb, -, -, -⟩ := id S
  have hS : va_S (xA E) s.heap s.heap [] := va_S.rf
  have hl : lv_has ls 2 [(0, .ref a), (1, .int p0)] := hl
  refine lv_aload_n hx hb dX4_before_0 rfl (lv_at hl 0 rfl) ?_
  refine lv_iload_n hx hb dX4_before_1 rfl (lv_at hl 1 rfl) ?_
  refine x_clp (x_runV (b := a) (As := [.int p0]) (rest := []) S (c_X4_isInside l E K F G s.heap a p0 ha) mv_X4_isInside km_X4_46 rfl rfl ⟨Nat.le_of_ble_eq_true rfl, Nat.le_of_ble_eq_true rfl⟩ (rc_6 hK hT ha) hK (fun _ => XPh.blind) (fun U hU hW => XPh.at hK hz hS hT hU hW) rfl hl.1 (Nat.le_of_ble_eq_true rfl) dX4_before_2 ⟨Nat.le_of_ble_eq_true rfl, Nat.le_of_ble_eq_true rfl⟩) hS ?_
  rintro _ _ locs ⟨x1, rfl, b2, t3⟩ hS
  have t3 : x1.toInt = 0 ∨ (x1.toInt = 1 ∧ 0 ≤ p0.toInt ∧ p0.toInt < 1080) := t3
  refine xi_zeq (tgt := 17) hx hb (rfl : Int32.toInt x1 = x1.toInt) dX4_before_5 (by decide) (fun c4 => ?_) (fun c4 => ?_)
  · refine lv_sipush (v := (-2000)) hx hb dX4_before_17 (by decide) ?_
    exact x_ri hx hb hr hlk hQ (Nat.le_of_ble_eq_true rfl) (Nat.le_of_ble_eq_true rfl) hS dX4_before_20 () ⟨_, rfl⟩ hh
  · refine lv_aload_n hx hb dX4_before_8 rfl (lv_at hl 0 rfl) ?_
    refine gX4_2 S hK hT ha kf_X4_20 dX4_before_9 (fun hk5 => ?_)
    refine lv_iload_n hx hb dX4_before_12 rfl (lv_at hl 1 rfl) ?_
    refine al_0 S hK hT hk5 ar_22 (by decide) (z_X4_before_1 p0.toInt x1.toInt t3 c4 (xr p0) (xr x1)) dX4_before_13 (fun x6 o7 => ?_)
    refine lv_goto (tgt := 20) hx hb dX4_before_14 (by decide) ?_
    exact x_ri hx hb hr hlk hQ (Nat.le_of_ble_eq_true rfl) (Nat.le_of_ble_eq_true rfl) hS dX4_before_20 () ⟨_, rfl⟩ hh

theorem z_X4_after_1 (a0 : Int) (a1 : Int) (h0 : a1 = 0 ∨ (a1 = 1 ∧ 0 ≤ a0 ∧ a0 < 1080)) (h1 : ¬ (a1 = 0)) (r0 : -2147483648 ≤ a0 ∧ a0 < 2147483648) (r1 : -2147483648 ≤ a1 ∧ a1 < 2147483648) : 0 ≤ a0 ∧ a0 < ((1080 : Nat) : Int) := by omega
abbrev rm_X4_after : Room := { frames := 1, cells := 0, slots := 0, locals := 21 }
set_option maxHeartbeats 4000000 in
set_option maxRecDepth 100000 in
theorem c_X4_after (l : Launch) (E : XE) (K : Nat → Nat) (F : Nat → Nat → Nat) (G : XG) (h0 : Heap) (a : Nat) (p0 : Int32) (ha : K a = 6) : Met l yX4_after (xw yX4_after cX4_after 2 (some .int)) rm_X4_after (va_Pc [.ref a, .int p0] (XPh E K F G h0)) (XQ E (fun v (u : Unit) => ∃ r : Int32, v = .int r) (fun _ H => H = h0)) 0 0 (xA E) := by
  refine x_enter (by decide) (Nat.le_of_ble_eq_true rfl) ?_
  intro p e s m args below meth c Q S hr hlk hnm hQ hP ls hl
  obtain ⟨⟨hz, hK, hT⟩, hh⟩ := hP
  obtain ⟨hx, hb, -, -, -⟩ := id S
  have hS : va_S (xA E) s.heap s.heap [] := va_S.rf
  have hl : lv_has ls 2 [(0, .ref a), (1, .int p0)] := hl
  refine lv_aload_n hx hb dX4_after_0 rfl (lv_at hl 0 rfl) ?_
  refine lv_iload_n hx hb dX4_after_1 rfl (lv_at hl 1 rfl) ?_
  refine x_clp (x_runV (b := a) (As := [.int p0]) (rest := []) S (c_X4_isInside l E K F G s.heap a p0 ha) mv_X4_isInside km_X4_46 rfl rfl ⟨Nat.le_of_ble_eq_true rfl, Nat.le_of_ble_eq_true rfl⟩ (rc_6 hK hT ha) hK (fun _ => XPh.blind) (fun U hU hW => XPh.at hK hz hS hT hU hW) rfl hl.1 (Nat.le_of_ble_eq_true rfl) dX4_after_2 ⟨Nat.le_of_ble_eq_true rfl, Nat.le_of_ble_eq_true rfl⟩) hS ?_
  rintro _ _ locs ⟨x1, rfl, b2, t3⟩ hS
  have t3 : x1.toInt = 0 ∨ (x1.toInt = 1 ∧ 0 ≤ p0.toInt ∧ p0.toInt < 1080) := t3
  refine xi_zeq (tgt := 17) hx hb (rfl : Int32.toInt x1 = x1.toInt) dX4_after_5 (by decide) (fun c4 => ?_) (fun c4 => ?_)
  · refine lv_sipush (v := (-2000)) hx hb dX4_after_17 (by decide) ?_
    exact x_ri hx hb hr hlk hQ (Nat.le_of_ble_eq_true rfl) (Nat.le_of_ble_eq_true rfl) hS dX4_after_20 () ⟨_, rfl⟩ hh
  · refine lv_aload_n hx hb dX4_after_8 rfl (lv_at hl 0 rfl) ?_
    refine gX4_3 S hK hT ha kf_X4_23 dX4_after_9 (fun hk5 => ?_)
    refine lv_iload_n hx hb dX4_after_12 rfl (lv_at hl 1 rfl) ?_
    refine al_0 S hK hT hk5 ar_22 (by decide) (z_X4_after_1 p0.toInt x1.toInt t3 c4 (xr p0) (xr x1)) dX4_after_13 (fun x6 o7 => ?_)
    refine lv_goto (tgt := 20) hx hb dX4_after_14 (by decide) ?_
    exact x_ri hx hb hr hlk hQ (Nat.le_of_ble_eq_true rfl) (Nat.le_of_ble_eq_true rfl) hS dX4_after_20 () ⟨_, rfl⟩ hh

theorem z_X4_isLate_1 (a0 : Int) (a1 : Int) (h0 : a1 = 0 ∨ (a1 = 1 ∧ 0 ≤ a0 ∧ a0 < 1080)) (h1 : ¬ (a1 = 0)) (r0 : -2147483648 ≤ a0 ∧ a0 < 2147483648) (r1 : -2147483648 ≤ a1 ∧ a1 < 2147483648) : 0 ≤ a0 ∧ a0 < ((1080 : Nat) : Int) := by omega
abbrev rm_X4_isLate : Room := { frames := 1, cells := 0, slots := 0, locals := 21 }
set_option maxHeartbeats 4000000 in
set_option maxRecDepth 100000 in
theorem c_X4_isLate (l : Launch) (E : XE) (K : Nat → Nat) (F : Nat → Nat → Nat) (G : XG) (h0 : Heap) (a : Nat) (p0 : Int32) (ha : K a = 6) : Met l yX4_isLate (xw yX4_isLate cX4_isLate 2 (some .boolean)) rm_X4_isLate (va_Pc [.ref a, .int p0] (XPh E K F G h0)) (XQ E (fun v (u : Unit) => ∃ r : Int32, v = .int r ∧ (r = 0 ∨ r = 1)) (fun _ H => H = h0)) 0 0 (xA E) := by
  refine x_enter (by decide) (Nat.le_of_ble_eq_true rfl) ?_
  intro p e s m args below meth c Q S hr hlk hnm hQ hP ls hl
  obtain ⟨⟨hz, hK, hT⟩, hh⟩ := hP
  obtain ⟨hx, hb, -, -, -⟩ := id S
  have hS : va_S (xA E) s.heap s.heap [] := va_S.rf
  have hl : lv_has ls 2 [(0, .ref a), (1, .int p0)] := hl
  refine lv_aload_n hx hb dX4_isLate_0 rfl (lv_at hl 0 rfl) ?_
  refine lv_iload_n hx hb dX4_isLate_1 rfl (lv_at hl 1 rfl) ?_
  refine x_clp (x_runV (b := a) (As := [.int p0]) (rest := []) S (c_X4_isInside l E K F G s.heap a p0 ha) mv_X4_isInside km_X4_46 rfl rfl ⟨Nat.le_of_ble_eq_true rfl, Nat.le_of_ble_eq_true rfl⟩ (rc_6 hK hT ha) hK (fun _ => XPh.blind) (fun U hU hW => XPh.at hK hz hS hT hU hW) rfl hl.1 (Nat.le_of_ble_eq_true rfl) dX4_isLate_2 ⟨Nat.le_of_ble_eq_true rfl, Nat.le_of_ble_eq_true rfl⟩) hS ?_
  rintro _ _ locs ⟨x1, rfl, b2, t3⟩ hS
  have t3 : x1.toInt = 0 ∨ (x1.toInt = 1 ∧ 0 ≤ p0.toInt ∧ p0.toInt < 1080) := t3
  refine xi_zeq (tgt := 21) hx hb (rfl : Int32.toInt x1 = x1.toInt) dX4_isLate_5 (by decide) (fun c4 => ?_) (fun c4 => ?_)
  · refine lv_iconst (v := 0) hx hb dX4_isLate_21 (by decide) ?_
    exact x_rz hx hb hr (xnz (Or.inl rfl)) hlk hQ (Nat.le_of_ble_eq_true rfl) (Nat.le_of_ble_eq_true rfl) hS dX4_isLate_22 () ⟨_, rfl, (Or.inl rfl)⟩ hh
  · refine lv_aload_n hx hb dX4_isLate_8 rfl (lv_at hl 0 rfl) ?_
    refine gX4_4 S hK hT ha kf_X4_26 dX4_isLate_9 (fun hk5 => ?_)
    refine lv_iload_n hx hb dX4_isLate_12 rfl (lv_at hl 1 rfl) ?_
    refine al_3 S hK hT hk5 ar_23 (by decide) (z_X4_isLate_1 p0.toInt x1.toInt t3 c4 (xr p0) (xr x1)) dX4_isLate_13 (fun x6 o7 => ?_)
    refine xi_zeq (tgt := 21) hx hb (rfl : Int32.toInt x6 = x6.toInt) dX4_isLate_14 (by decide) (fun c8 => ?_) (fun c8 => ?_)
    · refine lv_iconst (v := 0) hx hb dX4_isLate_21 (by decide) ?_
      exact x_rz hx hb hr (xnz (Or.inl rfl)) hlk hQ (Nat.le_of_ble_eq_true rfl) (Nat.le_of_ble_eq_true rfl) hS dX4_isLate_22 () ⟨_, rfl, (Or.inl rfl)⟩ hh
    · refine lv_iconst (v := 1) hx hb dX4_isLate_17 (by decide) ?_
      refine lv_goto (tgt := 22) hx hb dX4_isLate_18 (by decide) ?_
      exact x_rz hx hb hr (xnz (Or.inr rfl)) hlk hQ (Nat.le_of_ble_eq_true rfl) (Nat.le_of_ble_eq_true rfl) hS dX4_isLate_22 () ⟨_, rfl, (Or.inr rfl)⟩ hh

theorem z_X4_fails_1 (a0 : Int) (a1 : Int) (h0 : a1 = 0 ∨ (a1 = 1 ∧ 0 ≤ a0 ∧ a0 < 1080)) (h1 : ¬ (a1 = 0)) (r0 : -2147483648 ≤ a0 ∧ a0 < 2147483648) (r1 : -2147483648 ≤ a1 ∧ a1 < 2147483648) : 0 ≤ a0 ∧ a0 < ((1080 : Nat) : Int) := by omega
abbrev rm_X4_fails : Room := { frames := 1, cells := 0, slots := 0, locals := 21 }
set_option maxHeartbeats 4000000 in
set_option maxRecDepth 100000 in
theorem c_X4_fails (l : Launch) (E : XE) (K : Nat → Nat) (F : Nat → Nat → Nat) (G : XG) (h0 : Heap) (a : Nat) (p0 : Int32) (ha : K a = 6) : Met l yX4_fails (xw yX4_fails cX4_fails 2 (some .boolean)) rm_X4_fails (va_Pc [.ref a, .int p0] (XPh E K F G h0)) (XQ E (fun v (u : Unit) => ∃ r : Int32, v = .int r ∧ (r = 0 ∨ r = 1)) (fun _ H => H = h0)) 0 0 (xA E) := by
  refine x_enter (by decide) (Nat.le_of_ble_eq_true rfl) ?_
  intro p e s m args below meth c Q S hr hlk hnm hQ hP ls hl
  obtain ⟨⟨hz, hK, hT⟩, hh⟩ := hP
  obtain ⟨hx, hb, -, -, -⟩ := id S
  have hS : va_S (xA E) s.heap s.heap [] := va_S.rf
  have hl : lv_has ls 2 [(0, .ref a), (1, .int p0)] := hl
  refine lv_aload_n hx hb dX4_fails_0 rfl (lv_at hl 0 rfl) ?_
  refine lv_iload_n hx hb dX4_fails_1 rfl (lv_at hl 1 rfl) ?_
  refine x_clp (x_runV (b := a) (As := [.int p0]) (rest := []) S (c_X4_isInside l E K F G s.heap a p0 ha) mv_X4_isInside km_X4_46 rfl rfl ⟨Nat.le_of_ble_eq_true rfl, Nat.le_of_ble_eq_true rfl⟩ (rc_6 hK hT ha) hK (fun _ => XPh.blind) (fun U hU hW => XPh.at hK hz hS hT hU hW) rfl hl.1 (Nat.le_of_ble_eq_true rfl) dX4_fails_2 ⟨Nat.le_of_ble_eq_true rfl, Nat.le_of_ble_eq_true rfl⟩) hS ?_
  rintro _ _ locs ⟨x1, rfl, b2, t3⟩ hS
  have t3 : x1.toInt = 0 ∨ (x1.toInt = 1 ∧ 0 ≤ p0.toInt ∧ p0.toInt < 1080) := t3
  refine xi_zeq (tgt := 21) hx hb (rfl : Int32.toInt x1 = x1.toInt) dX4_fails_5 (by decide) (fun c4 => ?_) (fun c4 => ?_)
  · refine lv_iconst (v := 0) hx hb dX4_fails_21 (by decide) ?_
    exact x_rz hx hb hr (xnz (Or.inl rfl)) hlk hQ (Nat.le_of_ble_eq_true rfl) (Nat.le_of_ble_eq_true rfl) hS dX4_fails_22 () ⟨_, rfl, (Or.inl rfl)⟩ hh
  · refine lv_aload_n hx hb dX4_fails_8 rfl (lv_at hl 0 rfl) ?_
    refine gX4_5 S hK hT ha kf_X4_30 dX4_fails_9 (fun hk5 => ?_)
    refine lv_iload_n hx hb dX4_fails_12 rfl (lv_at hl 1 rfl) ?_
    refine al_3 S hK hT hk5 ar_23 (by decide) (z_X4_fails_1 p0.toInt x1.toInt t3 c4 (xr p0) (xr x1)) dX4_fails_13 (fun x6 o7 => ?_)
    refine xi_zeq (tgt := 21) hx hb (rfl : Int32.toInt x6 = x6.toInt) dX4_fails_14 (by decide) (fun c8 => ?_) (fun c8 => ?_)
    · refine lv_iconst (v := 0) hx hb dX4_fails_21 (by decide) ?_
      exact x_rz hx hb hr (xnz (Or.inl rfl)) hlk hQ (Nat.le_of_ble_eq_true rfl) (Nat.le_of_ble_eq_true rfl) hS dX4_fails_22 () ⟨_, rfl, (Or.inl rfl)⟩ hh
    · refine lv_iconst (v := 1) hx hb dX4_fails_17 (by decide) ?_
      refine lv_goto (tgt := 22) hx hb dX4_fails_18 (by decide) ?_
      exact x_rz hx hb hr (xnz (Or.inr rfl)) hlk hQ (Nat.le_of_ble_eq_true rfl) (Nat.le_of_ble_eq_true rfl) hS dX4_fails_22 () ⟨_, rfl, (Or.inr rfl)⟩ hh

theorem z_X4_firstFailing_1 (a0 : Int) (h0 : (0 : Int) ≤ a0) (r0 : -2147483648 ≤ a0 ∧ a0 < 2147483648) : ¬ (2147483648 - a0 < ((0 : Nat) : Int)) := by omega
theorem z_X4_firstFailing_2 (a0 : Int) (a1 : Int) (a2 : Int) (a3 : Nat) (h0 : (0 : Int) ≤ a0) (h1 : 2147483648 - a0 < ((a3 + 1 : Nat) : Int)) (h2 : ¬ (a2 ≤ a0)) (h3 : a1 = a0 + 1 ∨ a0 + 1 < -2147483648 ∨ 2147483648 ≤ a0 + 1) (r0 : -2147483648 ≤ a0 ∧ a0 < 2147483648) (r1 : -2147483648 ≤ a1 ∧ a1 < 2147483648) (r2 : -2147483648 ≤ a2 ∧ a2 < 2147483648) : (0 : Int) ≤ a1 := by omega
theorem z_X4_firstFailing_3 (a0 : Int) (a1 : Int) (a2 : Int) (a3 : Nat) (h0 : (0 : Int) ≤ a0) (h1 : 2147483648 - a0 < ((a3 + 1 : Nat) : Int)) (h2 : ¬ (a2 ≤ a0)) (h3 : a1 = a0 + 1 ∨ a0 + 1 < -2147483648 ∨ 2147483648 ≤ a0 + 1) (r0 : -2147483648 ≤ a0 ∧ a0 < 2147483648) (r1 : -2147483648 ≤ a1 ∧ a1 < 2147483648) (r2 : -2147483648 ≤ a2 ∧ a2 < 2147483648) : 2147483648 - a1 < ((a3 : Nat) : Int) := by omega
abbrev rm_X4_firstFailing : Room := { frames := 2, cells := 0, slots := 0, locals := 42 }
set_option maxHeartbeats 4000000 in
set_option maxRecDepth 100000 in
theorem c_X4_firstFailing (l : Launch) (E : XE) (K : Nat → Nat) (F : Nat → Nat → Nat) (G : XG) (h0 : Heap) (a : Nat) (ha : K a = 6) : Met l yX4_firstFailing (xw yX4_firstFailing cX4_firstFailing 2 (some .int)) rm_X4_firstFailing (va_Pc [.ref a] (XPh E K F G h0)) (XQ E (fun v (u : Unit) => ∃ r : Int32, v = .int r) (fun _ H => H = h0)) 0 0 (xA E) := by
  refine x_enter (by decide) (Nat.le_of_ble_eq_true rfl) ?_
  intro p e s m args below meth c Q S hr hlk hnm hQ hP ls hl
  obtain ⟨⟨hz, hK, hT⟩, hh⟩ := hP
  obtain ⟨hx, hb, -, -, -⟩ := id S
  have hS : va_S (xA E) s.heap s.heap [] := va_S.rf
  have hl : lv_has ls 2 [(0, .ref a)] := hl
  refine lv_iconst (v := 0) hx hb dX4_firstFailing_0 (by decide) ?_
  refine lv_istore_n (lv' := [(1, .int 0), (0, .ref a)]) hx hb dX4_firstFailing_1 rfl hl (by decide) rfl (fun ls hl => ?_)
  have L2 : ∀ (N2 : Nat) (x1 : Int32) (locs : List Loc) (ls : Array Slot), (0 : Int) ≤ x1.toInt → 2147483648 - x1.toInt < ((N2 : Nat) : Int) → TW E K F G [] s.heap → va_S (xA E) s.heap s.heap locs → lv_has ls 2 [(0, .ref a), (1, .int x1)] → W p l e rm_X4_firstFailing s m args below meth c s.heap locs 0 0 Q (F0 m 2 ls []) := by
    intro N2
    induction N2 with
    | zero =>
      intro x1 locs ls hf3 hm4
      exact absurd hm4 (z_X4_firstFailing_1 x1.toInt hf3 (xr x1))
    | succ N2 ih5 =>
      intro x1 locs ls hf3 hm4 hT hS hl
      refine lv_iload_n hx hb dX4_firstFailing_2 rfl (lv_at hl 1 rfl) ?_
      refine lv_aload_n hx hb dX4_firstFailing_3 rfl (lv_at hl 0 rfl) ?_
      refine gX4_6 S hK hT ha kf_X4_33 dX4_firstFailing_4 (fun x6 hT => ?_)
      refine xi_cge (tgt := 26) hx hb (rfl : Int32.toInt x1 = x1.toInt) (rfl : Int32.toInt x6 = x6.toInt) dX4_firstFailing_7 (by decide) (fun c7 => ?_) (fun c7 => ?_)
      · refine lv_iconst (v := (-1)) hx hb dX4_firstFailing_26 (by decide) ?_
        exact x_ri hx hb hr hlk hQ (Nat.le_of_ble_eq_true rfl) (Nat.le_of_ble_eq_true rfl) hS dX4_firstFailing_27 () ⟨_, rfl⟩ hh
      · refine lv_aload_n hx hb dX4_firstFailing_10 rfl (lv_at hl 0 rfl) ?_
        refine lv_iload_n hx hb dX4_firstFailing_11 rfl (lv_at hl 1 rfl) ?_
        refine x_clp (x_runV (b := a) (As := [.int x1]) (rest := []) S (c_X4_fails l E K F G s.heap a x1 ha) mv_X4_fails km_X4_50 rfl rfl ⟨Nat.le_of_ble_eq_true rfl, Nat.le_of_ble_eq_true rfl⟩ (rc_6 hK hT ha) hK (fun _ => XPh.blind) (fun U hU hW => XPh.at hK hz hS hT hU hW) rfl hl.1 (Nat.le_of_ble_eq_true rfl) dX4_firstFailing_12 ⟨Nat.le_of_ble_eq_true rfl, Nat.le_of_ble_eq_true rfl⟩) hS ?_
        rintro _ _ locs ⟨x8, rfl, b9⟩ hS
        refine xi_zeq (tgt := 20) hx hb (rfl : Int32.toInt x8 = x8.toInt) dX4_firstFailing_15 (by decide) (fun c10 => ?_) (fun c10 => ?_)
        · refine xi_iinc (n := 1) (lv' := fun z9 => [(1, .int z9), (0, .ref a)]) (k := 1) hx hb (rfl : Int32.toInt x1 = x1.toInt) (by decide) dX4_firstFailing_20 hl rfl (by decide) (fun _ => rfl) (fun x11 ls t12 hl => ?_)
          have hl : lv_has ls 2 [(1, .int x11), (0, .ref a)] := hl
          refine lv_goto (tgt := 2) hx hb dX4_firstFailing_23 (by decide) ?_
          exact ih5 x11 _ _ (z_X4_firstFailing_2 x1.toInt x11.toInt x6.toInt N2 hf3 hm4 c7 t12 (xr x1) (xr x11) (xr x6)) (z_X4_firstFailing_3 x1.toInt x11.toInt x6.toInt N2 hf3 hm4 c7 t12 (xr x1) (xr x11) (xr x6)) hT.nil hS (lv_sub hl [1, 0] rfl)
        · refine lv_iload_n hx hb dX4_firstFailing_18 rfl (lv_at hl 1 rfl) ?_
          exact x_ri hx hb hr hlk hQ (Nat.le_of_ble_eq_true rfl) (Nat.le_of_ble_eq_true rfl) hS dX4_firstFailing_19 () ⟨_, rfl⟩ hh
  exact L2 4294967297 0 _ _ (by decide) (by decide) hT.nil hS (lv_sub hl [1, 0] rfl)

theorem z_X4_failing_1 (a0 : Int) (h0 : (0 : Int) ≤ a0) (r0 : -2147483648 ≤ a0 ∧ a0 < 2147483648) : ¬ (2147483648 - a0 < ((0 : Nat) : Int)) := by omega
theorem z_X4_failing_2 (a0 : Int) (a1 : Int) (a2 : Int) (a3 : Nat) (h0 : (0 : Int) ≤ a1) (h1 : 2147483648 - a1 < ((a3 + 1 : Nat) : Int)) (h2 : ¬ (a2 ≤ a1)) (h3 : a0 = a1 + 1 ∨ a1 + 1 < -2147483648 ∨ 2147483648 ≤ a1 + 1) (r0 : -2147483648 ≤ a0 ∧ a0 < 2147483648) (r1 : -2147483648 ≤ a1 ∧ a1 < 2147483648) (r2 : -2147483648 ≤ a2 ∧ a2 < 2147483648) : (0 : Int) ≤ a0 := by omega
theorem z_X4_failing_3 (a0 : Int) (a1 : Int) (a2 : Int) (a3 : Nat) (h0 : (0 : Int) ≤ a1) (h1 : 2147483648 - a1 < ((a3 + 1 : Nat) : Int)) (h2 : ¬ (a2 ≤ a1)) (h3 : a0 = a1 + 1 ∨ a1 + 1 < -2147483648 ∨ 2147483648 ≤ a1 + 1) (r0 : -2147483648 ≤ a0 ∧ a0 < 2147483648) (r1 : -2147483648 ≤ a1 ∧ a1 < 2147483648) (r2 : -2147483648 ≤ a2 ∧ a2 < 2147483648) : 2147483648 - a0 < ((a3 : Nat) : Int) := by omega
abbrev rm_X4_failing : Room := { frames := 2, cells := 0, slots := 0, locals := 42 }
set_option maxHeartbeats 4000000 in
set_option maxRecDepth 100000 in
theorem c_X4_failing (l : Launch) (E : XE) (K : Nat → Nat) (F : Nat → Nat → Nat) (G : XG) (h0 : Heap) (a : Nat) (ha : K a = 6) : Met l yX4_failing (xw yX4_failing cX4_failing 3 (some .int)) rm_X4_failing (va_Pc [.ref a] (XPh E K F G h0)) (XQ E (fun v (u : Unit) => ∃ r : Int32, v = .int r) (fun _ H => H = h0)) 0 0 (xA E) := by
  refine x_enter (by decide) (Nat.le_of_ble_eq_true rfl) ?_
  intro p e s m args below meth c Q S hr hlk hnm hQ hP ls hl
  obtain ⟨⟨hz, hK, hT⟩, hh⟩ := hP
  obtain ⟨hx, hb, -, -, -⟩ := id S
  have hS : va_S (xA E) s.heap s.heap [] := va_S.rf
  have hl : lv_has ls 3 [(0, .ref a)] := hl
  refine lv_iconst (v := 0) hx hb dX4_failing_0 (by decide) ?_
  refine lv_istore_n (lv' := [(1, .int 0), (0, .ref a)]) hx hb dX4_failing_1 rfl hl (by decide) rfl (fun ls hl => ?_)
  refine lv_iconst (v := 0) hx hb dX4_failing_2 (by decide) ?_
  refine lv_istore_n (lv' := [(2, .int 0), (1, .int 0), (0, .ref a)]) hx hb dX4_failing_3 rfl hl (by decide) rfl (fun ls hl => ?_)
  have L4 : ∀ (N3 : Nat) (x1 : Int32) (x2 : Int32) (locs : List Loc) (ls : Array Slot), (0 : Int) ≤ x2.toInt → 2147483648 - x2.toInt < ((N3 : Nat) : Int) → TW E K F G [] s.heap → va_S (xA E) s.heap s.heap locs → lv_has ls 3 [(0, .ref a), (1, .int x1), (2, .int x2)] → W p l e rm_X4_failing s m args below meth c s.heap locs 0 0 Q (F0 m 4 ls []) := by
    intro N3
    induction N3 with
    | zero =>
      intro x1 x2 locs ls hf4 hm5
      exact absurd hm5 (z_X4_failing_1 x2.toInt hf4 (xr x2))
    | succ N3 ih6 =>
      intro x1 x2 locs ls hf4 hm5 hT hS hl
      refine lv_iload_n hx hb dX4_failing_4 rfl (lv_at hl 2 rfl) ?_
      refine lv_aload_n hx hb dX4_failing_5 rfl (lv_at hl 0 rfl) ?_
      refine gX4_6 S hK hT ha kf_X4_33 dX4_failing_6 (fun x7 hT => ?_)
      refine xi_cge (tgt := 29) hx hb (rfl : Int32.toInt x2 = x2.toInt) (rfl : Int32.toInt x7 = x7.toInt) dX4_failing_9 (by decide) (fun c8 => ?_) (fun c8 => ?_)
      · refine lv_iload_n hx hb dX4_failing_29 rfl (lv_at hl 1 rfl) ?_
        exact x_ri hx hb hr hlk hQ (Nat.le_of_ble_eq_true rfl) (Nat.le_of_ble_eq_true rfl) hS dX4_failing_30 () ⟨_, rfl⟩ hh
      · refine lv_aload_n hx hb dX4_failing_12 rfl (lv_at hl 0 rfl) ?_
        refine lv_iload_n hx hb dX4_failing_13 rfl (lv_at hl 2 rfl) ?_
        refine x_clp (x_runV (b := a) (As := [.int x2]) (rest := []) S (c_X4_fails l E K F G s.heap a x2 ha) mv_X4_fails km_X4_50 rfl rfl ⟨Nat.le_of_ble_eq_true rfl, Nat.le_of_ble_eq_true rfl⟩ (rc_6 hK hT ha) hK (fun _ => XPh.blind) (fun U hU hW => XPh.at hK hz hS hT hU hW) rfl hl.1 (Nat.le_of_ble_eq_true rfl) dX4_failing_14 ⟨Nat.le_of_ble_eq_true rfl, Nat.le_of_ble_eq_true rfl⟩) hS ?_
        rintro _ _ locs ⟨x9, rfl, b10⟩ hS
        have J23 : ∀ (x11 : Int32) (locs : List Loc) (ls : Array Slot), TW E K F G [(a, 6, x7)] s.heap → va_S (xA E) s.heap s.heap locs → lv_has ls 3 [(0, .ref a), (1, .int x11), (2, .int x2)] → W p l e rm_X4_failing s m args below meth c s.heap locs 0 0 Q (F0 m 23 ls []) := by
          intro x11 locs ls hT hS hl
          refine xi_iinc (n := 1) (lv' := fun z9 => [(2, .int z9), (0, .ref a), (1, .int x11)]) (k := 2) hx hb (rfl : Int32.toInt x2 = x2.toInt) (by decide) dX4_failing_23 hl rfl (by decide) (fun _ => rfl) (fun x12 ls t13 hl => ?_)
          have hl : lv_has ls 3 [(2, .int x12), (0, .ref a), (1, .int x11)] := hl
          refine lv_goto (tgt := 4) hx hb dX4_failing_26 (by decide) ?_
          exact ih6 x11 x12 _ _ (z_X4_failing_2 x12.toInt x2.toInt x7.toInt N3 hf4 hm5 c8 t13 (xr x12) (xr x2) (xr x7)) (z_X4_failing_3 x12.toInt x2.toInt x7.toInt N3 hf4 hm5 c8 t13 (xr x12) (xr x2) (xr x7)) hT.nil hS (lv_sub hl [1, 2, 0] rfl)
        refine xi_zeq (tgt := 23) hx hb (rfl : Int32.toInt x9 = x9.toInt) dX4_failing_17 (by decide) (fun c14 => ?_) (fun c14 => ?_)
        · exact J23 x1 _ _ hT hS (lv_sub hl [0, 1, 2] rfl)
        · refine xi_iinc (n := 1) (lv' := fun z9 => [(1, .int z9), (0, .ref a), (2, .int x2)]) (k := 1) hx hb (rfl : Int32.toInt x1 = x1.toInt) (by decide) dX4_failing_20 hl rfl (by decide) (fun _ => rfl) (fun x15 ls t16 hl => ?_)
          have hl : lv_has ls 3 [(1, .int x15), (0, .ref a), (2, .int x2)] := hl
          exact J23 x15 _ _ hT hS (lv_sub hl [1, 0, 2] rfl)
  exact L4 4294967297 0 0 _ _ (by decide) (by decide) hT.nil hS (lv_sub hl [2, 1, 0] rfl)

theorem z_X4_ofRule_1 (a0 : Int) (h0 : (0 : Int) ≤ a0) (r0 : -2147483648 ≤ a0 ∧ a0 < 2147483648) : ¬ (2147483648 - a0 < ((0 : Nat) : Int)) := by omega
theorem z_X4_ofRule_2 (a0 : Int) (a1 : Int) (a2 : Int) (a3 : Nat) (h0 : (0 : Int) ≤ a1) (h1 : 2147483648 - a1 < ((a3 + 1 : Nat) : Int)) (h2 : ¬ (a2 ≤ a1)) (h3 : a0 = a1 + 1 ∨ a1 + 1 < -2147483648 ∨ 2147483648 ≤ a1 + 1) (r0 : -2147483648 ≤ a0 ∧ a0 < 2147483648) (r1 : -2147483648 ≤ a1 ∧ a1 < 2147483648) (r2 : -2147483648 ≤ a2 ∧ a2 < 2147483648) : (0 : Int) ≤ a0 := by omega
theorem z_X4_ofRule_3 (a0 : Int) (a1 : Int) (a2 : Int) (a3 : Nat) (h0 : (0 : Int) ≤ a1) (h1 : 2147483648 - a1 < ((a3 + 1 : Nat) : Int)) (h2 : ¬ (a2 ≤ a1)) (h3 : a0 = a1 + 1 ∨ a1 + 1 < -2147483648 ∨ 2147483648 ≤ a1 + 1) (r0 : -2147483648 ≤ a0 ∧ a0 < 2147483648) (r1 : -2147483648 ≤ a1 ∧ a1 < 2147483648) (r2 : -2147483648 ≤ a2 ∧ a2 < 2147483648) : 2147483648 - a0 < ((a3 : Nat) : Int) := by omega
abbrev rm_X4_ofRule : Room := { frames := 2, cells := 0, slots := 0, locals := 42 }
set_option maxHeartbeats 4000000 in
set_option maxRecDepth 100000 in
theorem c_X4_ofRule (l : Launch) (E : XE) (K : Nat → Nat) (F : Nat → Nat → Nat) (G : XG) (h0 : Heap) (a : Nat) (p0 : Int32) (ha : K a = 6) : Met l yX4_ofRule (xw yX4_ofRule cX4_ofRule 4 (some .int)) rm_X4_ofRule (va_Pc [.ref a, .int p0] (XPh E K F G h0)) (XQ E (fun v (u : Unit) => ∃ r : Int32, v = .int r) (fun _ H => H = h0)) 0 0 (xA E) := by
  refine x_enter (by decide) (Nat.le_of_ble_eq_true rfl) ?_
  intro p e s m args below meth c Q S hr hlk hnm hQ hP ls hl
  obtain ⟨⟨hz, hK, hT⟩, hh⟩ := hP
  obtain ⟨hx, hb, -, -, -⟩ := id S
  have hS : va_S (xA E) s.heap s.heap [] := va_S.rf
  have hl : lv_has ls 4 [(0, .ref a), (1, .int p0)] := hl
  refine lv_iconst (v := 0) hx hb dX4_ofRule_0 (by decide) ?_
  refine lv_istore_n (lv' := [(2, .int 0), (0, .ref a), (1, .int p0)]) hx hb dX4_ofRule_1 rfl hl (by decide) rfl (fun ls hl => ?_)
  refine lv_iconst (v := 0) hx hb dX4_ofRule_2 (by decide) ?_
  refine lv_istore_n (lv' := [(3, .int 0), (2, .int 0), (0, .ref a), (1, .int p0)]) hx hb dX4_ofRule_3 rfl hl (by decide) rfl (fun ls hl => ?_)
  have L4 : ∀ (N3 : Nat) (x1 : Int32) (x2 : Int32) (locs : List Loc) (ls : Array Slot), (0 : Int) ≤ x2.toInt → 2147483648 - x2.toInt < ((N3 : Nat) : Int) → TW E K F G [] s.heap → va_S (xA E) s.heap s.heap locs → lv_has ls 4 [(0, .ref a), (1, .int p0), (2, .int x1), (3, .int x2)] → W p l e rm_X4_ofRule s m args below meth c s.heap locs 0 0 Q (F0 m 4 ls []) := by
    intro N3
    induction N3 with
    | zero =>
      intro x1 x2 locs ls hf4 hm5
      exact absurd hm5 (z_X4_ofRule_1 x2.toInt hf4 (xr x2))
    | succ N3 ih6 =>
      intro x1 x2 locs ls hf4 hm5 hT hS hl
      refine lv_iload_n hx hb dX4_ofRule_4 rfl (lv_at hl 3 rfl) ?_
      refine lv_aload_n hx hb dX4_ofRule_5 rfl (lv_at hl 0 rfl) ?_
      refine gX4_6 S hK hT ha kf_X4_33 dX4_ofRule_6 (fun x7 hT => ?_)
      refine xi_cge (tgt := 30) hx hb (rfl : Int32.toInt x2 = x2.toInt) (rfl : Int32.toInt x7 = x7.toInt) dX4_ofRule_9 (by decide) (fun c8 => ?_) (fun c8 => ?_)
      · refine lv_iload_n hx hb dX4_ofRule_30 rfl (lv_at hl 2 rfl) ?_
        exact x_ri hx hb hr hlk hQ (Nat.le_of_ble_eq_true rfl) (Nat.le_of_ble_eq_true rfl) hS dX4_ofRule_31 () ⟨_, rfl⟩ hh
      · refine lv_aload_n hx hb dX4_ofRule_12 rfl (lv_at hl 0 rfl) ?_
        refine lv_iload_n hx hb dX4_ofRule_13 rfl (lv_at hl 3 rfl) ?_
        refine x_clp (x_runV (b := a) (As := [.int x2]) (rest := []) S (c_X4_number l E K F G s.heap a x2 ha) mv_X4_number km_X4_53 rfl rfl ⟨Nat.le_of_ble_eq_true rfl, Nat.le_of_ble_eq_true rfl⟩ (rc_6 hK hT ha) hK (fun _ => XPh.blind) (fun U hU hW => XPh.at hK hz hS hT hU hW) rfl hl.1 (Nat.le_of_ble_eq_true rfl) dX4_ofRule_14 ⟨Nat.le_of_ble_eq_true rfl, Nat.le_of_ble_eq_true rfl⟩) hS ?_
        rintro _ _ locs ⟨x9, rfl⟩ hS
        refine lv_iload_n hx hb dX4_ofRule_17 rfl (lv_at hl 1 rfl) ?_
        have J24 : ∀ (x10 : Int32) (locs : List Loc) (ls : Array Slot), TW E K F G [(a, 6, x7)] s.heap → va_S (xA E) s.heap s.heap locs → lv_has ls 4 [(0, .ref a), (1, .int p0), (2, .int x10), (3, .int x2)] → W p l e rm_X4_ofRule s m args below meth c s.heap locs 0 0 Q (F0 m 24 ls []) := by
          intro x10 locs ls hT hS hl
          refine xi_iinc (n := 1) (lv' := fun z9 => [(3, .int z9), (0, .ref a), (1, .int p0), (2, .int x10)]) (k := 3) hx hb (rfl : Int32.toInt x2 = x2.toInt) (by decide) dX4_ofRule_24 hl rfl (by decide) (fun _ => rfl) (fun x11 ls t12 hl => ?_)
          have hl : lv_has ls 4 [(3, .int x11), (0, .ref a), (1, .int p0), (2, .int x10)] := hl
          refine lv_goto (tgt := 4) hx hb dX4_ofRule_27 (by decide) ?_
          exact ih6 x10 x11 _ _ (z_X4_ofRule_2 x11.toInt x2.toInt x7.toInt N3 hf4 hm5 c8 t12 (xr x11) (xr x2) (xr x7)) (z_X4_ofRule_3 x11.toInt x2.toInt x7.toInt N3 hf4 hm5 c8 t12 (xr x11) (xr x2) (xr x7)) hT.nil hS (lv_sub hl [1, 2, 3, 0] rfl)
        refine xi_cne (tgt := 24) hx hb (rfl : Int32.toInt x9 = x9.toInt) (rfl : Int32.toInt p0 = p0.toInt) dX4_ofRule_18 (by decide) (fun c13 => ?_) (fun c13 => ?_)
        · exact J24 x1 _ _ hT hS (lv_sub hl [0, 1, 2, 3] rfl)
        · refine xi_iinc (n := 1) (lv' := fun z9 => [(2, .int z9), (0, .ref a), (1, .int p0), (3, .int x2)]) (k := 2) hx hb (rfl : Int32.toInt x1 = x1.toInt) (by decide) dX4_ofRule_21 hl rfl (by decide) (fun _ => rfl) (fun x14 ls t15 hl => ?_)
          have hl : lv_has ls 4 [(2, .int x14), (0, .ref a), (1, .int p0), (3, .int x2)] := hl
          exact J24 x14 _ _ hT hS (lv_sub hl [1, 2, 0, 3] rfl)
  exact L4 4294967297 0 0 _ _ (by decide) (by decide) hT.nil hS (lv_sub hl [2, 3, 1, 0] rfl)

abbrev rm_X4_startsGroup : Room := { frames := 2, cells := 0, slots := 0, locals := 42 }
set_option maxHeartbeats 4000000 in
set_option maxRecDepth 100000 in
theorem c_X4_startsGroup (l : Launch) (E : XE) (K : Nat → Nat) (F : Nat → Nat → Nat) (G : XG) (h0 : Heap) (a : Nat) (p0 : Int32) (ha : K a = 6) : Met l yX4_startsGroup (xw yX4_startsGroup cX4_startsGroup 2 (some .boolean)) rm_X4_startsGroup (va_Pc [.ref a, .int p0] (XPh E K F G h0)) (XQ E (fun v (u : Unit) => ∃ r : Int32, v = .int r ∧ (r = 0 ∨ r = 1)) (fun _ H => H = h0)) 0 0 (xA E) := by
  refine x_enter (by decide) (Nat.le_of_ble_eq_true rfl) ?_
  intro p e s m args below meth c Q S hr hlk hnm hQ hP ls hl
  obtain ⟨⟨hz, hK, hT⟩, hh⟩ := hP
  obtain ⟨hx, hb, -, -, -⟩ := id S
  have hS : va_S (xA E) s.heap s.heap [] := va_S.rf
  have hl : lv_has ls 2 [(0, .ref a), (1, .int p0)] := hl
  refine lv_iload_n hx hb dX4_startsGroup_0 rfl (lv_at hl 1 rfl) ?_
  have J19 : ∀ (locs : List Loc) (ls : Array Slot), TW E K F G [] s.heap → va_S (xA E) s.heap s.heap locs → lv_has ls 2 [] → W p l e rm_X4_startsGroup s m args below meth c s.heap locs 0 0 Q (F0 m 19 ls []) := by
    intro locs ls hT hS hl
    refine lv_iconst (v := 1) hx hb dX4_startsGroup_19 (by decide) ?_
    refine lv_goto (tgt := 24) hx hb dX4_startsGroup_20 (by decide) ?_
    exact x_rz hx hb hr (xnz (Or.inr rfl)) hlk hQ (Nat.le_of_ble_eq_true rfl) (Nat.le_of_ble_eq_true rfl) hS dX4_startsGroup_24 () ⟨_, rfl, (Or.inr rfl)⟩ hh
  refine xi_zeq (tgt := 19) hx hb (rfl : Int32.toInt p0 = p0.toInt) dX4_startsGroup_1 (by decide) (fun c1 => ?_) (fun c1 => ?_)
  · exact J19 _ _ hT.nil hS (lv_sub hl [] rfl)
  · refine lv_aload_n hx hb dX4_startsGroup_4 rfl (lv_at hl 0 rfl) ?_
    refine lv_iload_n hx hb dX4_startsGroup_5 rfl (lv_at hl 1 rfl) ?_
    refine x_clp (x_runV (b := a) (As := [.int p0]) (rest := []) S (c_X4_number l E K F G s.heap a p0 ha) mv_X4_number km_X4_53 rfl rfl ⟨Nat.le_of_ble_eq_true rfl, Nat.le_of_ble_eq_true rfl⟩ (rc_6 hK hT ha) hK (fun _ => XPh.blind) (fun U hU hW => XPh.at hK hz hS hT hU hW) rfl hl.1 (Nat.le_of_ble_eq_true rfl) dX4_startsGroup_6 ⟨Nat.le_of_ble_eq_true rfl, Nat.le_of_ble_eq_true rfl⟩) hS ?_
    rintro _ _ locs ⟨x2, rfl⟩ hS
    refine lv_aload_n hx hb dX4_startsGroup_9 rfl (lv_at hl 0 rfl) ?_
    refine lv_iload_n hx hb dX4_startsGroup_10 rfl (lv_at hl 1 rfl) ?_
    refine lv_iconst (v := 1) hx hb dX4_startsGroup_11 (by decide) ?_
    refine xi_isub hx hb (rfl : Int32.toInt p0 = p0.toInt) ((by decide) : Int32.toInt 1 = (1 : Int)) dX4_startsGroup_12 (fun x3 t4 => ?_)
    refine x_clp (x_runV (b := a) (As := [.int x3]) (rest := [.int x2]) S (c_X4_number l E K F G s.heap a x3 ha) mv_X4_number km_X4_53 rfl rfl ⟨Nat.le_of_ble_eq_true rfl, Nat.le_of_ble_eq_true rfl⟩ (rc_6 hK hT ha) hK (fun _ => XPh.blind) (fun U hU hW => XPh.at hK hz hS hT hU hW) rfl hl.1 (Nat.le_of_ble_eq_true rfl) dX4_startsGroup_13 ⟨Nat.le_of_ble_eq_true rfl, Nat.le_of_ble_eq_true rfl⟩) hS ?_
    rintro _ _ locs ⟨x5, rfl⟩ hS
    refine xi_ceq (tgt := 23) hx hb (rfl : Int32.toInt x2 = x2.toInt) (rfl : Int32.toInt x5 = x5.toInt) dX4_startsGroup_16 (by decide) (fun c6 => ?_) (fun c6 => ?_)
    · refine lv_iconst (v := 0) hx hb dX4_startsGroup_23 (by decide) ?_
      exact x_rz hx hb hr (xnz (Or.inl rfl)) hlk hQ (Nat.le_of_ble_eq_true rfl) (Nat.le_of_ble_eq_true rfl) hS dX4_startsGroup_24 () ⟨_, rfl, (Or.inl rfl)⟩ hh
    · exact J19 _ _ hT.nil hS (lv_sub hl [] rfl)

theorem z_X4_groups_1 (a0 : Int) (h0 : (0 : Int) ≤ a0) (r0 : -2147483648 ≤ a0 ∧ a0 < 2147483648) : ¬ (2147483648 - a0 < ((0 : Nat) : Int)) := by omega
theorem z_X4_groups_2 (a0 : Int) (a1 : Int) (a2 : Int) (a3 : Nat) (h0 : (0 : Int) ≤ a1) (h1 : 2147483648 - a1 < ((a3 + 1 : Nat) : Int)) (h2 : ¬ (a2 ≤ a1)) (h3 : a0 = a1 + 1 ∨ a1 + 1 < -2147483648 ∨ 2147483648 ≤ a1 + 1) (r0 : -2147483648 ≤ a0 ∧ a0 < 2147483648) (r1 : -2147483648 ≤ a1 ∧ a1 < 2147483648) (r2 : -2147483648 ≤ a2 ∧ a2 < 2147483648) : (0 : Int) ≤ a0 := by omega
theorem z_X4_groups_3 (a0 : Int) (a1 : Int) (a2 : Int) (a3 : Nat) (h0 : (0 : Int) ≤ a1) (h1 : 2147483648 - a1 < ((a3 + 1 : Nat) : Int)) (h2 : ¬ (a2 ≤ a1)) (h3 : a0 = a1 + 1 ∨ a1 + 1 < -2147483648 ∨ 2147483648 ≤ a1 + 1) (r0 : -2147483648 ≤ a0 ∧ a0 < 2147483648) (r1 : -2147483648 ≤ a1 ∧ a1 < 2147483648) (r2 : -2147483648 ≤ a2 ∧ a2 < 2147483648) : 2147483648 - a0 < ((a3 : Nat) : Int) := by omega
abbrev rm_X4_groups : Room := { frames := 3, cells := 0, slots := 0, locals := 63 }
set_option maxHeartbeats 4000000 in
set_option maxRecDepth 100000 in
theorem c_X4_groups (l : Launch) (E : XE) (K : Nat → Nat) (F : Nat → Nat → Nat) (G : XG) (h0 : Heap) (a : Nat) (ha : K a = 6) : Met l yX4_groups (xw yX4_groups cX4_groups 3 (some .int)) rm_X4_groups (va_Pc [.ref a] (XPh E K F G h0)) (XQ E (fun v (u : Unit) => ∃ r : Int32, v = .int r) (fun _ H => H = h0)) 0 0 (xA E) := by
  refine x_enter (by decide) (Nat.le_of_ble_eq_true rfl) ?_
  intro p e s m args below meth c Q S hr hlk hnm hQ hP ls hl
  obtain ⟨⟨hz, hK, hT⟩, hh⟩ := hP
  obtain ⟨hx, hb, -, -, -⟩ := id S
  have hS : va_S (xA E) s.heap s.heap [] := va_S.rf
  have hl : lv_has ls 3 [(0, .ref a)] := hl
  refine lv_iconst (v := 0) hx hb dX4_groups_0 (by decide) ?_
  refine lv_istore_n (lv' := [(1, .int 0), (0, .ref a)]) hx hb dX4_groups_1 rfl hl (by decide) rfl (fun ls hl => ?_)
  refine lv_iconst (v := 0) hx hb dX4_groups_2 (by decide) ?_
  refine lv_istore_n (lv' := [(2, .int 0), (1, .int 0), (0, .ref a)]) hx hb dX4_groups_3 rfl hl (by decide) rfl (fun ls hl => ?_)
  have L4 : ∀ (N3 : Nat) (x1 : Int32) (x2 : Int32) (locs : List Loc) (ls : Array Slot), (0 : Int) ≤ x2.toInt → 2147483648 - x2.toInt < ((N3 : Nat) : Int) → TW E K F G [] s.heap → va_S (xA E) s.heap s.heap locs → lv_has ls 3 [(0, .ref a), (1, .int x1), (2, .int x2)] → W p l e rm_X4_groups s m args below meth c s.heap locs 0 0 Q (F0 m 4 ls []) := by
    intro N3
    induction N3 with
    | zero =>
      intro x1 x2 locs ls hf4 hm5
      exact absurd hm5 (z_X4_groups_1 x2.toInt hf4 (xr x2))
    | succ N3 ih6 =>
      intro x1 x2 locs ls hf4 hm5 hT hS hl
      refine lv_iload_n hx hb dX4_groups_4 rfl (lv_at hl 2 rfl) ?_
      refine lv_aload_n hx hb dX4_groups_5 rfl (lv_at hl 0 rfl) ?_
      refine gX4_6 S hK hT ha kf_X4_33 dX4_groups_6 (fun x7 hT => ?_)
      refine xi_cge (tgt := 29) hx hb (rfl : Int32.toInt x2 = x2.toInt) (rfl : Int32.toInt x7 = x7.toInt) dX4_groups_9 (by decide) (fun c8 => ?_) (fun c8 => ?_)
      · refine lv_iload_n hx hb dX4_groups_29 rfl (lv_at hl 1 rfl) ?_
        exact x_ri hx hb hr hlk hQ (Nat.le_of_ble_eq_true rfl) (Nat.le_of_ble_eq_true rfl) hS dX4_groups_30 () ⟨_, rfl⟩ hh
      · refine lv_aload_n hx hb dX4_groups_12 rfl (lv_at hl 0 rfl) ?_
        refine lv_iload_n hx hb dX4_groups_13 rfl (lv_at hl 2 rfl) ?_
        refine x_clp (x_runV (b := a) (As := [.int x2]) (rest := []) S (c_X4_startsGroup l E K F G s.heap a x2 ha) mv_X4_startsGroup km_X4_56 rfl rfl ⟨Nat.le_of_ble_eq_true rfl, Nat.le_of_ble_eq_true rfl⟩ (rc_6 hK hT ha) hK (fun _ => XPh.blind) (fun U hU hW => XPh.at hK hz hS hT hU hW) rfl hl.1 (Nat.le_of_ble_eq_true rfl) dX4_groups_14 ⟨Nat.le_of_ble_eq_true rfl, Nat.le_of_ble_eq_true rfl⟩) hS ?_
        rintro _ _ locs ⟨x9, rfl, b10⟩ hS
        have J23 : ∀ (x11 : Int32) (locs : List Loc) (ls : Array Slot), TW E K F G [(a, 6, x7)] s.heap → va_S (xA E) s.heap s.heap locs → lv_has ls 3 [(0, .ref a), (1, .int x11), (2, .int x2)] → W p l e rm_X4_groups s m args below meth c s.heap locs 0 0 Q (F0 m 23 ls []) := by
          intro x11 locs ls hT hS hl
          refine xi_iinc (n := 1) (lv' := fun z9 => [(2, .int z9), (0, .ref a), (1, .int x11)]) (k := 2) hx hb (rfl : Int32.toInt x2 = x2.toInt) (by decide) dX4_groups_23 hl rfl (by decide) (fun _ => rfl) (fun x12 ls t13 hl => ?_)
          have hl : lv_has ls 3 [(2, .int x12), (0, .ref a), (1, .int x11)] := hl
          refine lv_goto (tgt := 4) hx hb dX4_groups_26 (by decide) ?_
          exact ih6 x11 x12 _ _ (z_X4_groups_2 x12.toInt x2.toInt x7.toInt N3 hf4 hm5 c8 t13 (xr x12) (xr x2) (xr x7)) (z_X4_groups_3 x12.toInt x2.toInt x7.toInt N3 hf4 hm5 c8 t13 (xr x12) (xr x2) (xr x7)) hT.nil hS (lv_sub hl [1, 2, 0] rfl)
        refine xi_zeq (tgt := 23) hx hb (rfl : Int32.toInt x9 = x9.toInt) dX4_groups_17 (by decide) (fun c14 => ?_) (fun c14 => ?_)
        · exact J23 x1 _ _ hT hS (lv_sub hl [0, 1, 2] rfl)
        · refine xi_iinc (n := 1) (lv' := fun z9 => [(1, .int z9), (0, .ref a), (2, .int x2)]) (k := 1) hx hb (rfl : Int32.toInt x1 = x1.toInt) (by decide) dX4_groups_20 hl rfl (by decide) (fun _ => rfl) (fun x15 ls t16 hl => ?_)
          have hl : lv_has ls 3 [(1, .int x15), (0, .ref a), (2, .int x2)] := hl
          exact J23 x15 _ _ hT hS (lv_sub hl [1, 0, 2] rfl)
  exact L4 4294967297 0 0 _ _ (by decide) (by decide) hT.nil hS (lv_sub hl [2, 1, 0] rfl)

theorem z_X4_groupStart_1 (a0 : Int) (h0 : (0 : Int) ≤ a0) (r0 : -2147483648 ≤ a0 ∧ a0 < 2147483648) : ¬ (2147483648 - a0 < ((0 : Nat) : Int)) := by omega
theorem z_X4_groupStart_2 (a0 : Int) (a1 : Int) (a2 : Int) (a3 : Nat) (h0 : (0 : Int) ≤ a1) (h1 : 2147483648 - a1 < ((a3 + 1 : Nat) : Int)) (h2 : ¬ (a2 ≤ a1)) (h3 : a0 = a1 + 1 ∨ a1 + 1 < -2147483648 ∨ 2147483648 ≤ a1 + 1) (r0 : -2147483648 ≤ a0 ∧ a0 < 2147483648) (r1 : -2147483648 ≤ a1 ∧ a1 < 2147483648) (r2 : -2147483648 ≤ a2 ∧ a2 < 2147483648) : (0 : Int) ≤ a0 := by omega
theorem z_X4_groupStart_3 (a0 : Int) (a1 : Int) (a2 : Int) (a3 : Nat) (h0 : (0 : Int) ≤ a1) (h1 : 2147483648 - a1 < ((a3 + 1 : Nat) : Int)) (h2 : ¬ (a2 ≤ a1)) (h3 : a0 = a1 + 1 ∨ a1 + 1 < -2147483648 ∨ 2147483648 ≤ a1 + 1) (r0 : -2147483648 ≤ a0 ∧ a0 < 2147483648) (r1 : -2147483648 ≤ a1 ∧ a1 < 2147483648) (r2 : -2147483648 ≤ a2 ∧ a2 < 2147483648) : 2147483648 - a0 < ((a3 : Nat) : Int) := by omega
abbrev rm_X4_groupStart : Room := { frames := 3, cells := 0, slots := 0, locals := 63 }
set_option maxHeartbeats 4000000 in
set_option maxRecDepth 100000 in
theorem c_X4_groupStart (l : Launch) (E : XE) (K : Nat → Nat) (F : Nat → Nat → Nat) (G : XG) (h0 : Heap) (a : Nat) (p0 : Int32) (ha : K a = 6) : Met l yX4_groupStart (xw yX4_groupStart cX4_groupStart 4 (some .int)) rm_X4_groupStart (va_Pc [.ref a, .int p0] (XPh E K F G h0)) (XQ E (fun v (u : Unit) => ∃ r : Int32, v = .int r) (fun _ H => H = h0)) 0 0 (xA E) := by
  refine x_enter (by decide) (Nat.le_of_ble_eq_true rfl) ?_
  intro p e s m args below meth c Q S hr hlk hnm hQ hP ls hl
  obtain ⟨⟨hz, hK, hT⟩, hh⟩ := hP
  obtain ⟨hx, hb, -, -, -⟩ := id S
  have hS : va_S (xA E) s.heap s.heap [] := va_S.rf
  have hl : lv_has ls 4 [(0, .ref a), (1, .int p0)] := hl
  refine lv_iconst (v := 0) hx hb dX4_groupStart_0 (by decide) ?_
  refine lv_istore_n (lv' := [(2, .int 0), (0, .ref a), (1, .int p0)]) hx hb dX4_groupStart_1 rfl hl (by decide) rfl (fun ls hl => ?_)
  refine lv_iconst (v := 0) hx hb dX4_groupStart_2 (by decide) ?_
  refine lv_istore_n (lv' := [(3, .int 0), (2, .int 0), (0, .ref a), (1, .int p0)]) hx hb dX4_groupStart_3 rfl hl (by decide) rfl (fun ls hl => ?_)
  have L4 : ∀ (N3 : Nat) (x1 : Int32) (x2 : Int32) (locs : List Loc) (ls : Array Slot), (0 : Int) ≤ x2.toInt → 2147483648 - x2.toInt < ((N3 : Nat) : Int) → TW E K F G [] s.heap → va_S (xA E) s.heap s.heap locs → lv_has ls 4 [(0, .ref a), (1, .int p0), (2, .int x1), (3, .int x2)] → W p l e rm_X4_groupStart s m args below meth c s.heap locs 0 0 Q (F0 m 4 ls []) := by
    intro N3
    induction N3 with
    | zero =>
      intro x1 x2 locs ls hf4 hm5
      exact absurd hm5 (z_X4_groupStart_1 x2.toInt hf4 (xr x2))
    | succ N3 ih6 =>
      intro x1 x2 locs ls hf4 hm5 hT hS hl
      refine lv_iload_n hx hb dX4_groupStart_4 rfl (lv_at hl 3 rfl) ?_
      refine lv_aload_n hx hb dX4_groupStart_5 rfl (lv_at hl 0 rfl) ?_
      refine gX4_6 S hK hT ha kf_X4_33 dX4_groupStart_6 (fun x7 hT => ?_)
      refine xi_cge (tgt := 36) hx hb (rfl : Int32.toInt x2 = x2.toInt) (rfl : Int32.toInt x7 = x7.toInt) dX4_groupStart_9 (by decide) (fun c8 => ?_) (fun c8 => ?_)
      · refine lv_iconst (v := (-1)) hx hb dX4_groupStart_36 (by decide) ?_
        exact x_ri hx hb hr hlk hQ (Nat.le_of_ble_eq_true rfl) (Nat.le_of_ble_eq_true rfl) hS dX4_groupStart_37 () ⟨_, rfl⟩ hh
      · refine lv_aload_n hx hb dX4_groupStart_12 rfl (lv_at hl 0 rfl) ?_
        refine lv_iload_n hx hb dX4_groupStart_13 rfl (lv_at hl 3 rfl) ?_
        refine x_clp (x_runV (b := a) (As := [.int x2]) (rest := []) S (c_X4_startsGroup l E K F G s.heap a x2 ha) mv_X4_startsGroup km_X4_56 rfl rfl ⟨Nat.le_of_ble_eq_true rfl, Nat.le_of_ble_eq_true rfl⟩ (rc_6 hK hT ha) hK (fun _ => XPh.blind) (fun U hU hW => XPh.at hK hz hS hT hU hW) rfl hl.1 (Nat.le_of_ble_eq_true rfl) dX4_groupStart_14 ⟨Nat.le_of_ble_eq_true rfl, Nat.le_of_ble_eq_true rfl⟩) hS ?_
        rintro _ _ locs ⟨x9, rfl, b10⟩ hS
        have J30 : ∀ (x11 : Int32) (locs : List Loc) (ls : Array Slot), TW E K F G [(a, 6, x7)] s.heap → va_S (xA E) s.heap s.heap locs → lv_has ls 4 [(0, .ref a), (1, .int p0), (2, .int x11), (3, .int x2)] → W p l e rm_X4_groupStart s m args below meth c s.heap locs 0 0 Q (F0 m 30 ls []) := by
          intro x11 locs ls hT hS hl
          refine xi_iinc (n := 1) (lv' := fun z9 => [(3, .int z9), (0, .ref a), (1, .int p0), (2, .int x11)]) (k := 3) hx hb (rfl : Int32.toInt x2 = x2.toInt) (by decide) dX4_groupStart_30 hl rfl (by decide) (fun _ => rfl) (fun x12 ls t13 hl => ?_)
          have hl : lv_has ls 4 [(3, .int x12), (0, .ref a), (1, .int p0), (2, .int x11)] := hl
          refine lv_goto (tgt := 4) hx hb dX4_groupStart_33 (by decide) ?_
          exact ih6 x11 x12 _ _ (z_X4_groupStart_2 x12.toInt x2.toInt x7.toInt N3 hf4 hm5 c8 t13 (xr x12) (xr x2) (xr x7)) (z_X4_groupStart_3 x12.toInt x2.toInt x7.toInt N3 hf4 hm5 c8 t13 (xr x12) (xr x2) (xr x7)) hT.nil hS (lv_sub hl [1, 2, 3, 0] rfl)
        refine xi_zeq (tgt := 30) hx hb (rfl : Int32.toInt x9 = x9.toInt) dX4_groupStart_17 (by decide) (fun c14 => ?_) (fun c14 => ?_)
        · exact J30 x1 _ _ hT hS (lv_sub hl [0, 1, 2, 3] rfl)
        · refine lv_iload_n hx hb dX4_groupStart_20 rfl (lv_at hl 2 rfl) ?_
          refine lv_iload_n hx hb dX4_groupStart_21 rfl (lv_at hl 1 rfl) ?_
          refine xi_cne (tgt := 27) hx hb (rfl : Int32.toInt x1 = x1.toInt) (rfl : Int32.toInt p0 = p0.toInt) dX4_groupStart_22 (by decide) (fun c15 => ?_) (fun c15 => ?_)
          · refine xi_iinc (n := 1) (lv' := fun z9 => [(2, .int z9), (0, .ref a), (1, .int p0), (3, .int x2)]) (k := 2) hx hb (rfl : Int32.toInt x1 = x1.toInt) (by decide) dX4_groupStart_27 hl rfl (by decide) (fun _ => rfl) (fun x16 ls t17 hl => ?_)
            have hl : lv_has ls 4 [(2, .int x16), (0, .ref a), (1, .int p0), (3, .int x2)] := hl
            exact J30 x16 _ _ hT hS (lv_sub hl [1, 2, 0, 3] rfl)
          · refine lv_iload_n hx hb dX4_groupStart_25 rfl (lv_at hl 3 rfl) ?_
            exact x_ri hx hb hr hlk hQ (Nat.le_of_ble_eq_true rfl) (Nat.le_of_ble_eq_true rfl) hS dX4_groupStart_26 () ⟨_, rfl⟩ hh
  exact L4 4294967297 0 0 _ _ (by decide) (by decide) hT.nil hS (lv_sub hl [2, 3, 1, 0] rfl)
