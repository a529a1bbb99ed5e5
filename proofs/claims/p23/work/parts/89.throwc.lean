theorem v_X10_value_6_1 {F : Nat → Nat → Nat} (a : Nat) (G : XG)
    (ron : RO (vw (G.2.1 (F (F a 3) 0))) (aI (G.2.1 (F (F a 3) 1)))) :
    RO (vw (G.2.1 (F (F a 3) 0))) (aI (G.2.1 (F (F a 3) 1))) := by exact ron
theorem z_X10_value_1 (a0 : Int) (a1 : Int) (a2 : Int) (h0 : (a1 = 1 ∧ a2 ≠ -2000) ∨ (a1 = 0 ∧ a2 = -2000)) (h1 : a1 = 0) : a2 = -2000 ∨ a0 < 0 ∨ 3 ≤ a0 := by omega
theorem z_X10_value_2 (a0 : Int) (a1 : Int) (a2 : Int) (a3 : Int) (a4 : Int) (h0 : (a2 = 1 ∧ a4 ≠ -2000) ∨ (a2 = 0 ∧ a4 = -2000)) (h1 : ¬ (a2 = 0)) (h2 : (a1 = 1 ∧ 0 ≤ a0 ∧ a0 < 3) ∨ (a1 = 0 ∧ (a0 < 0 ∨ 3 ≤ a0))) (h3 : a1 ≠ 0) : a3 = a3 ∧ a4 ≠ -2000 ∧ 0 ≤ a0 ∧ a0 < 3 := by omega
theorem z_X10_value_3 (a0 : Int) (a1 : Int) (a2 : Int) (h0 : (a1 = 1 ∧ 0 ≤ a0 ∧ a0 < 3) ∨ (a1 = 0 ∧ (a0 < 0 ∨ 3 ≤ a0))) (h1 : ¬ (a1 ≠ 0)) : a2 = -2000 ∨ a0 < 0 ∨ 3 ≤ a0 := by omega
abbrev rm_X10_value : Room := { frames := 6, cells := 1, slots := 6, locals := 100 }
set_option maxHeartbeats 4000000 in
set_option maxRecDepth 100000 in
theorem c_X10_value (l : Launch) (E : XE) (K : Nat → Nat) (F : Nat → Nat → Nat) (hst : l.stackTraces = false) (G : XG) (a : Nat) (p0 : Int32) (p1 : Int32) (p2 : Int32) (ha : K a = 12) (ron : RO (vw (G.2.1 (F (F a 3) 0))) (aI (G.2.1 (F (F a 3) 1)))) : vx_Met l yX10_value (xw yX10_value cX10_value 4 (some .int)) rm_X10_value (va_Pc [.ref a, .int p0, .int p1, .int p2] (XPn E K F G)) (XQ E (fun v (u : XG) => ∃ r : Int32, v = .int r ∧ XFr [] [] [] G u ∧ (r.toInt = (cel (vw (G.2.1 (F (F a 3) 0))) (p0.toInt) (p1.toInt) (p2.toInt)) ∧ (cel (vw (G.2.1 (F (F a 3) 0))) (p0.toInt) (p1.toInt) 0) ≠ -2000 ∧ 0 ≤ p2.toInt ∧ p2.toInt < 3)) (fun u H => TW E K F u H)) (XCn ((cel (vw (G.2.1 (F (F a 3) 0))) (p0.toInt) (p1.toInt) 0) = -2000 ∨ p2.toInt < 0 ∨ 3 ≤ p2.toInt) E K F G) 1 6 (xA E) := by
  refine x_enterX (by decide) (Nat.le_of_ble_eq_true rfl) ?_
  intro p e s m args below meth c Q S hr hlk hex hQ hP ls hl
  obtain ⟨⟨hz, hK, hT⟩, hD9⟩ := hP
  obtain ⟨hx, hb, -, -, -⟩ := id S
  obtain ⟨H, hT, hS, hgo⟩ : ∃ H : Heap, TW E K F G H ∧ va_S (xA E) s.heap H [] ∧ H = s.heap := ⟨_, hT, va_S.rf, rfl⟩
  rw [← hgo]
  have hl : lv_has ls 4 [(0, .ref a), (1, .int p0), (2, .int p1), (3, .int p2)] := hl
  obtain ⟨hk9999, hj9999⟩ := fkX10_3 hT ha
  obtain ⟨hk9999a, hj9999a⟩ := fkX6_0 hT hk9999
  have hj9999b : F (F (F a 3) 0) 99 = 0 := by rw [hj9999a, hj9999]
  obtain ⟨hk9999b, hj9999c⟩ := fkX6_1 hT hk9999
  have hj9999d : F (F (F a 3) 1) 99 = 0 := by rw [hj9999c, hj9999]
  refine lv_aload_n hx hb dX10_value_0 rfl (lv_at hl 0 rfl) ?_
  refine gX10_3 S hK hT ha kf_X10_37 dX10_value_1 (fun _ _ => ?_)
  refine lv_iload_n hx hb dX10_value_4 rfl (lv_at hl 1 rfl) ?_
  refine lv_iload_n hx hb dX10_value_5 rfl (lv_at hl 2 rfl) ?_
  refine x_clp (x_runV (b := (F a 3)) (As := [.int p0, .int p1]) (rest := []) S (c_X6_has l E K F G H (F a 3) p0 p1 hk9999 (v_X10_value_6_1 (F := F) a G ron)) mv_X6_has km_X10_191 rfl rfl ⟨Nat.le_of_ble_eq_true rfl, Nat.le_of_ble_eq_true rfl⟩ (rc_8 hK hT hk9999) hK (fun _ => XPh.blind) (fun U hU hW => XPh.at hK hz hS hT hU hW) rfl hl.1 (Nat.le_of_ble_eq_true rfl) dX10_value_6 ⟨Nat.le_of_ble_eq_true rfl, Nat.le_of_ble_eq_true rfl⟩) hS ?_
  rintro _ _ locs ⟨x6, rfl, b6, t6⟩ hS
  have t6 : (x6.toInt = 1 ∧ (cel (vw (G.2.1 (F (F a 3) 0))) (p0.toInt) (p1.toInt) 0) ≠ -2000) ∨ (x6.toInt = 0 ∧ (cel (vw (G.2.1 (F (F a 3) 0))) (p0.toInt) (p1.toInt) 0) = -2000) := t6
  refine xi_zeq (tgt := 19) hx hb (rfl : Int32.toInt x6 = x6.toInt) dX10_value_9 (by decide) (fun c9 => ?_) (fun c9 => ?_)
  · rw [hQ]
    exact nx_throw S (z_X10_value_1 p2.toInt x6.toInt (cel (vw (G.2.1 (F (F a 3) 0))) (p0.toInt) (p1.toInt) 0) t6 c9) hst hD9 hK hT hS (hK.2.2.1 11 ("LateRules", 260, "no such row or column") rfl) hl.1 dX10_value_19 dX10_value_22 dX10_value_23 dX10_value_26 dX10_value_29 hex (Nat.le_of_ble_eq_true rfl) (Nat.le_of_ble_eq_true rfl) (Nat.le_of_ble_eq_true rfl) (Nat.le_of_ble_eq_true rfl) hlk (Nat.le_of_ble_eq_true rfl) (Nat.le_of_ble_eq_true rfl)
  · refine lv_iload_n hx hb dX10_value_12 rfl (lv_at hl 3 rfl) ?_
    refine x_clp (x_runS (As := [.int p2]) (rest := []) S (c_X10_isColumn l E K F G H p2) ms_X10_isColumn km_X10_255 rfl rfl ⟨Nat.le_of_ble_eq_true rfl, Nat.le_of_ble_eq_true rfl⟩ hK (fun _ => XPh.blind) (fun U hU hW => XPh.at hK hz hS hT hU hW) rfl hl.1 (Nat.le_of_ble_eq_true rfl) dX10_value_13 ⟨Nat.le_of_ble_eq_true rfl, Nat.le_of_ble_eq_true rfl⟩) hS ?_
    rintro _ _ locs ⟨x13, rfl, b13, t13⟩ hS
    have t13 : (x13.toInt = 1 ∧ 0 ≤ p2.toInt ∧ p2.toInt < 3) ∨ (x13.toInt = 0 ∧ (p2.toInt < 0 ∨ 3 ≤ p2.toInt)) := t13
    refine xi_zne (tgt := 30) hx hb (rfl : Int32.toInt x13 = x13.toInt) dX10_value_16 (by decide) (fun c16 => ?_) (fun c16 => ?_)
    · refine lv_aload_n hx hb dX10_value_30 rfl (lv_at hl 0 rfl) ?_
      refine gX10_3 S hK hT ha kf_X10_37 dX10_value_31 (fun _ _ => ?_)
      refine lv_iload_n hx hb dX10_value_34 rfl (lv_at hl 1 rfl) ?_
      refine lv_iload_n hx hb dX10_value_35 rfl (lv_at hl 2 rfl) ?_
      refine lv_iload_n hx hb dX10_value_36 rfl (lv_at hl 3 rfl) ?_
      refine x_clp (x_runV (b := (F a 3)) (As := [.int p0, .int p1, .int p2]) (rest := []) S (c_X6_cell l E K F G H (F a 3) p0 p1 p2 hk9999) mv_X6_cell km_X10_265 rfl rfl ⟨Nat.le_of_ble_eq_true rfl, Nat.le_of_ble_eq_true rfl⟩ (rc_8 hK hT hk9999) hK (fun _ => XPh.blind) (fun U hU hW => XPh.at hK hz hS hT hU hW) rfl hl.1 (Nat.le_of_ble_eq_true rfl) dX10_value_37 ⟨Nat.le_of_ble_eq_true rfl, Nat.le_of_ble_eq_true rfl⟩) hS ?_
      rintro _ _ locs ⟨x37, rfl, t37⟩ hS
      have t37 : x37.toInt = (cel (vw (G.2.1 (F (F a 3) 0))) (p0.toInt) (p1.toInt) (p2.toInt)) := t37
      exact x_riX hx hb hr hlk hQ (Nat.le_of_ble_eq_true rfl) (Nat.le_of_ble_eq_true rfl) hS dX10_value_40 G ⟨_, rfl, XFr.rf, (by rw [(t37 : Int32.toInt x37 = (cel (vw (G.2.1 (F (F a 3) 0))) (p0.toInt) (p1.toInt) (p2.toInt)))] <;> exact (z_X10_value_2 p2.toInt x13.toInt x6.toInt (cel (vw (G.2.1 (F (F a 3) 0))) (p0.toInt) (p1.toInt) (p2.toInt)) (cel (vw (G.2.1 (F (F a 3) 0))) (p0.toInt) (p1.toInt) 0) t6 c9 t13 c16))⟩ hT
    · rw [hQ]
      exact nx_throw S (z_X10_value_3 p2.toInt x13.toInt (cel (vw (G.2.1 (F (F a 3) 0))) (p0.toInt) (p1.toInt) 0) t13 c16) hst hD9 hK hT hS (hK.2.2.1 11 ("LateRules", 260, "no such row or column") rfl) hl.1 dX10_value_19 dX10_value_22 dX10_value_23 dX10_value_26 dX10_value_29 hex (Nat.le_of_ble_eq_true rfl) (Nat.le_of_ble_eq_true rfl) (Nat.le_of_ble_eq_true rfl) (Nat.le_of_ble_eq_true rfl) hlk (Nat.le_of_ble_eq_true rfl) (Nat.le_of_ble_eq_true rfl)

theorem z_X10_queue_1 (a0 : Int) (a1 : Int) (h0 : a0 < 0) : a0 < 0 ∨ a1 ≤ a0 := by omega
theorem z_X10_queue_2 (a0 : Int) : (a0 < 0 ∨ 4 < a0) ∨ (a0 = 0) ∨ (a0 = 1) ∨ (a0 = 2) ∨ (a0 = 3) ∨ (a0 = 4) := by omega
theorem z_X10_queue_3 (a0 : Int) (a1 : Int) (a2 : Int) (a3 : Int) (a4 : Int) (a5 : Int) (a6 : Int) (a7 : Int) (h0 : ¬ (a0 < 0)) (h1 : a0 < a2) (h2 : a1 < 0 ∨ 4 < a1) : (0 ≤ a0 ∧ a0 < a2) ∧ ((a1 = 0 ∧ (-2147483648 : Int) = a3) ∨ (a1 = 1 ∧ (-2147483648 : Int) = a4) ∨ (a1 = 2 ∧ (-2147483648 : Int) = a5) ∨ (a1 = 3 ∧ (-2147483648 : Int) = a6) ∨ (a1 = 4 ∧ (-2147483648 : Int) = a7) ∨ ((a1 < 0 ∨ 4 < a1) ∧ (-2147483648 : Int) = -2147483648)) := by omega
theorem z_X10_queue_4 (a0 : Int) (a1 : Int) (a2 : Int) (a3 : Int) (a4 : Int) (a5 : Int) (a6 : Int) (a7 : Int) (a8 : Int) (h0 : 0 ≤ a3 ∧ a3 ≤ 1080) (h1 : ¬ (a0 < 0)) (h2 : a0 < a3) (h3 : a1 = 0) (h4 : ((0 ≤ a0 ∧ a0 < a3 ∧ a0 < 1080) ∧ a2 = a4) ∨ (¬ (0 ≤ a0 ∧ a0 < a3 ∧ a0 < 1080) ∧ a2 = -1)) : (0 ≤ a0 ∧ a0 < a3) ∧ ((a1 = 0 ∧ a2 = a4) ∨ (a1 = 1 ∧ a2 = a5) ∨ (a1 = 2 ∧ a2 = a6) ∨ (a1 = 3 ∧ a2 = a7) ∨ (a1 = 4 ∧ a2 = a8) ∨ ((a1 < 0 ∨ 4 < a1) ∧ a2 = -2147483648)) := by omega
theorem z_X10_queue_5 (a0 : Int) (a1 : Int) (a2 : Int) (a3 : Int) (a4 : Int) (a5 : Int) (a6 : Int) (a7 : Int) (a8 : Int) (h0 : 0 ≤ a3 ∧ a3 ≤ 1080) (h1 : ¬ (a0 < 0)) (h2 : a0 < a3) (h3 : a1 = 1) (h4 : ((0 ≤ a0 ∧ a0 < a3 ∧ a0 < 1080) ∧ a2 = a5) ∨ (¬ (0 ≤ a0 ∧ a0 < a3 ∧ a0 < 1080) ∧ a2 = -1)) : (0 ≤ a0 ∧ a0 < a3) ∧ ((a1 = 0 ∧ a2 = a4) ∨ (a1 = 1 ∧ a2 = a5) ∨ (a1 = 2 ∧ a2 = a6) ∨ (a1 = 3 ∧ a2 = a7) ∨ (a1 = 4 ∧ a2 = a8) ∨ ((a1 < 0 ∨ 4 < a1) ∧ a2 = -2147483648)) := by omega
theorem z_X10_queue_6 (a0 : Int) (a1 : Int) (a2 : Int) (a3 : Int) (a4 : Int) (a5 : Int) (a6 : Int) (a7 : Int) (a8 : Int) (h0 : 0 ≤ a3 ∧ a3 ≤ 1080) (h1 : ¬ (a0 < 0)) (h2 : a0 < a3) (h3 : a1 = 2) (h4 : ((0 ≤ a0 ∧ a0 < a3 ∧ a0 < 1080) ∧ a2 = a6) ∨ (¬ (0 ≤ a0 ∧ a0 < a3 ∧ a0 < 1080) ∧ a2 = -2000)) : (0 ≤ a0 ∧ a0 < a3) ∧ ((a1 = 0 ∧ a2 = a4) ∨ (a1 = 1 ∧ a2 = a5) ∨ (a1 = 2 ∧ a2 = a6) ∨ (a1 = 3 ∧ a2 = a7) ∨ (a1 = 4 ∧ a2 = a8) ∨ ((a1 < 0 ∨ 4 < a1) ∧ a2 = -2147483648)) := by omega
theorem z_X10_queue_7 (a0 : Int) (a1 : Int) (a2 : Int) (a3 : Int) (a4 : Int) (a5 : Int) (a6 : Int) (a7 : Int) (a8 : Int) (h0 : 0 ≤ a3 ∧ a3 ≤ 1080) (h1 : ¬ (a0 < 0)) (h2 : a0 < a3) (h3 : a1 = 3) (h4 : ((0 ≤ a0 ∧ a0 < a3 ∧ a0 < 1080) ∧ a2 = a7) ∨ (¬ (0 ≤ a0 ∧ a0 < a3 ∧ a0 < 1080) ∧ a2 = -2000)) : (0 ≤ a0 ∧ a0 < a3) ∧ ((a1 = 0 ∧ a2 = a4) ∨ (a1 = 1 ∧ a2 = a5) ∨ (a1 = 2 ∧ a2 = a6) ∨ (a1 = 3 ∧ a2 = a7) ∨ (a1 = 4 ∧ a2 = a8) ∨ ((a1 < 0 ∨ 4 < a1) ∧ a2 = -2147483648)) := by omega
theorem z_X10_queue_8 (a0 : Int) (a1 : Int) (a2 : Int) (a3 : Int) (a4 : Int) (a5 : Int) (a6 : Int) (a7 : Int) (a8 : Int) (h0 : 0 ≤ a3 ∧ a3 ≤ 1080) (h1 : ¬ (a0 < 0)) (h2 : a0 < a3) (h3 : a1 = 4) (h4 : ((0 ≤ a0 ∧ a0 < a3 ∧ a0 < 1080) ∧ a2 = a8) ∨ (¬ (0 ≤ a0 ∧ a0 < a3 ∧ a0 < 1080) ∧ a2 = 0)) (h5 : a2 = 0) : (0 ≤ a0 ∧ a0 < a3) ∧ ((a1 = 0 ∧ (0 : Int) = a4) ∨ (a1 = 1 ∧ (0 : Int) = a5) ∨ (a1 = 2 ∧ (0 : Int) = a6) ∨ (a1 = 3 ∧ (0 : Int) = a7) ∨ (a1 = 4 ∧ (0 : Int) = a8) ∨ ((a1 < 0 ∨ 4 < a1) ∧ (0 : Int) = -2147483648)) := by omega
theorem z_X10_queue_9 (a0 : Int) (a1 : Int) (a2 : Int) (a3 : Int) (a4 : Int) (a5 : Int) (a6 : Int) (a7 : Int) (a8 : Int) (h0 : a1 = 4) (h1 : ((0 ≤ a0 ∧ a0 < a3 ∧ a0 < 1080) ∧ a2 = a8) ∨ (¬ (0 ≤ a0 ∧ a0 < a3 ∧ a0 < 1080) ∧ a2 = 0)) (h2 : a2 = 0 ∨ a2 = 1) (h3 : ¬ (a2 = 0)) : (0 ≤ a0 ∧ a0 < a3) ∧ ((a1 = 0 ∧ (1 : Int) = a4) ∨ (a1 = 1 ∧ (1 : Int) = a5) ∨ (a1 = 2 ∧ (1 : Int) = a6) ∨ (a1 = 3 ∧ (1 : Int) = a7) ∨ (a1 = 4 ∧ (1 : Int) = a8) ∨ ((a1 < 0 ∨ 4 < a1) ∧ (1 : Int) = -2147483648)) := by omega
theorem z_X10_queue_10 (a0 : Int) (a1 : Int) (h0 : ¬ (a0 < a1)) : a0 < 0 ∨ a1 ≤ a0 := by omega
abbrev rm_X10_queue : Room := { frames := 6, cells := 1, slots := 6, locals := 100 }
set_option maxHeartbeats 4000000 in
set_option maxRecDepth 100000 in
theorem c_X10_queue (l : Launch) (E : XE) (K : Nat → Nat) (F : Nat → Nat → Nat) (hst : l.stackTraces = false) (G : XG) (a : Nat) (p0 : Int32) (p1 : Int32) (ha : K a = 12) (sw : 0 ≤ ((G.1 (F a 8) 6).toInt) ∧ ((G.1 (F a 8) 6).toInt) ≤ 1080) : vx_Met l yX10_queue (xw yX10_queue cX10_queue 3 (some .int)) rm_X10_queue (va_Pc [.ref a, .int p0, .int p1] (XPn E K F G)) (XQ E (fun v (u : XG) => ∃ r : Int32, v = .int r ∧ XFr [] [] [] G u ∧ ((0 ≤ p0.toInt ∧ p0.toInt < ((G.1 (F a 8) 6).toInt)) ∧ ((p1.toInt = 0 ∧ r.toInt = (aI (G.2.1 (F (F a 8) 0)) (p0.toInt))) ∨ (p1.toInt = 1 ∧ r.toInt = (aI (G.2.1 (F (F a 8) 1)) (p0.toInt))) ∨ (p1.toInt = 2 ∧ r.toInt = (aI (G.2.1 (F (F a 8) 2)) (p0.toInt))) ∨ (p1.toInt = 3 ∧ r.toInt = (aI (G.2.1 (F (F a 8) 3)) (p0.toInt))) ∨ (p1.toInt = 4 ∧ r.toInt = (aI (G.2.1 (F (F a 8) 5)) (p0.toInt))) ∨ ((p1.toInt < 0 ∨ 4 < p1.toInt) ∧ r.toInt = -2147483648)))) (fun u H => TW E K F u H)) (XCn (p0.toInt < 0 ∨ ((G.1 (F a 8) 6).toInt) ≤ p0.toInt) E K F G) 1 6 (xA E) := by
  refine x_enterX (by decide) (Nat.le_of_ble_eq_true rfl) ?_
  intro p e s m args below meth c Q S hr hlk hex hQ hP ls hl
  obtain ⟨⟨hz, hK, hT⟩, hD9⟩ := hP
  obtain ⟨hx, hb, -, -, -⟩ := id S
  obtain ⟨H, hT, hS, hgo⟩ : ∃ H : Heap, TW E K F G H ∧ va_S (xA E) s.heap H [] ∧ H = s.heap := ⟨_, hT, va_S.rf, rfl⟩
  rw [← hgo]
  have hl : lv_has ls 3 [(0, .ref a), (1, .int p0), (2, .int p1)] := hl
  obtain ⟨hk9999, hj9999⟩ := fkX10_8 hT ha
  obtain ⟨hk9999a, hj9999a⟩ := fkX4_0 hT hk9999
  have hj9999b : F (F (F a 8) 0) 99 = 10 * 0 + 0 := by rw [hj9999a, hj9999]
  obtain ⟨hk9999b, hj9999c⟩ := fkX4_1 hT hk9999
  have hj9999d : F (F (F a 8) 1) 99 = 10 * 0 + 1 := by rw [hj9999c, hj9999]
  obtain ⟨hk9999c, hj9999e⟩ := fkX4_2 hT hk9999
  have hj9999f : F (F (F a 8) 2) 99 = 10 * 0 + 2 := by rw [hj9999e, hj9999]
  obtain ⟨hk9999d, hj9999g⟩ := fkX4_3 hT hk9999
  have hj9999h : F (F (F a 8) 3) 99 = 10 * 0 + 3 := by rw [hj9999g, hj9999]
  obtain ⟨hk9999e, hj9999i⟩ := fkX4_5 hT hk9999
  have hj9999j : F (F (F a 8) 5) 99 = 10 * 0 + 5 := by rw [hj9999i, hj9999]
  refine lv_iload_n hx hb dX10_queue_0 rfl (lv_at hl 1 rfl) ?_
  refine xi_zlt (tgt := 15) hx hb (rfl : Int32.toInt p0 = p0.toInt) dX10_queue_1 (by decide) (fun c1 => ?_) (fun c1 => ?_)
  · rw [hQ]
    exact nx_throw S (z_X10_queue_1 p0.toInt ((G.1 (F a 8) 6).toInt) c1) hst hD9 hK hT hS (hK.2.2.1 12 ("LateRules", 299, "no such question in the queue") rfl) hl.1 dX10_queue_15 dX10_queue_18 dX10_queue_19 dX10_queue_22 dX10_queue_25 hex (Nat.le_of_ble_eq_true rfl) (Nat.le_of_ble_eq_true rfl) (Nat.le_of_ble_eq_true rfl) (Nat.le_of_ble_eq_true rfl) hlk (Nat.le_of_ble_eq_true rfl) (Nat.le_of_ble_eq_true rfl)
  · refine lv_iload_n hx hb dX10_queue_4 rfl (lv_at hl 1 rfl) ?_
    refine lv_aload_n hx hb dX10_queue_5 rfl (lv_at hl 0 rfl) ?_
    refine gX10_8 S hK hT ha kf_X10_57 dX10_queue_6 (fun _ _ => ?_)
    refine x_clp (x_runV (b := (F a 8)) (As := []) (rest := [.int p0]) S (c_X4_size l E K F G H (F a 8) hk9999) mv_X4_size km_X10_232 rfl rfl ⟨Nat.le_of_ble_eq_true rfl, Nat.le_of_ble_eq_true rfl⟩ (rc_6 hK hT hk9999) hK (fun _ => XPh.blind) (fun U hU hW => XPh.at hK hz hS hT hU hW) rfl hl.1 (Nat.le_of_ble_eq_true rfl) dX10_queue_9 ⟨Nat.le_of_ble_eq_true rfl, Nat.le_of_ble_eq_true rfl⟩) hS ?_
    rintro _ _ locs ⟨x9, rfl, t9⟩ hS
    have t9 : x9.toInt = ((G.1 (F a 8) 6).toInt) := t9
    refine xi_clt (tgt := 26) hx hb (rfl : Int32.toInt p0 = p0.toInt) (t9 : Int32.toInt x9 = ((G.1 (F a 8) 6).toInt)) dX10_queue_12 (by decide) (fun c12 => ?_) (fun c12 => ?_)
    · refine lv_iload_n hx hb dX10_queue_26 rfl (lv_at hl 2 rfl) ?_
      rcases ((z_X10_queue_2 p1.toInt) : (p1.toInt < 0 ∨ 4 < p1.toInt) ∨ (p1.toInt = 0) ∨ (p1.toInt = 1) ∨ (p1.toInt = 2) ∨ (p1.toInt = 3) ∨ (p1.toInt = 4)) with c27 | c27 | c27 | c27 | c27 | c27
      · refine lv_tableOut (tgt := 113) hx hb dX10_queue_27 c27 (by decide) ?_
        refine lv_ldcw (v := (-2147483648)) hx hb S.2.2.2.1 (S.2.2.2.2 _ (List.mem_cons_of_mem _ kc_X10_274)) dX10_queue_113 ?_
        exact x_riX hx hb hr hlk hQ (Nat.le_of_ble_eq_true rfl) (Nat.le_of_ble_eq_true rfl) hS dX10_queue_116 G ⟨_, rfl, XFr.rf, (by rw [((by decide) : Int32.toInt (-2147483648) = (-2147483648 : Int))] <;> exact (z_X10_queue_3 p0.toInt p1.toInt ((G.1 (F a 8) 6).toInt) (aI (G.2.1 (F (F a 8) 0)) (p0.toInt)) (aI (G.2.1 (F (F a 8) 1)) (p0.toInt)) (aI (G.2.1 (F (F a 8) 2)) (p0.toInt)) (aI (G.2.1 (F (F a 8) 3)) (p0.toInt)) (aI (G.2.1 (F (F a 8) 5)) (p0.toInt)) c1 c12 c27))⟩ hT
      · refine lv_tableIn (off := 33) (tgt := 60) hx hb dX10_queue_27 (by rw [c27]; decide) (by rw [c27]; decide) (by rw [c27]; rfl) (by decide) ?_
        refine lv_aload_n hx hb dX10_queue_60 rfl (lv_at hl 0 rfl) ?_
        refine gX10_8 S hK hT ha kf_X10_57 dX10_queue_61 (fun _ _ => ?_)
        refine lv_iload_n hx hb dX10_queue_64 rfl (lv_at hl 1 rfl) ?_
        refine x_clp (x_runV (b := (F a 8)) (As := [.int p0]) (rest := []) S (c_X4_number l E K F G H (F a 8) p0 hk9999) mv_X4_number km_X10_301 rfl rfl ⟨Nat.le_of_ble_eq_true rfl, Nat.le_of_ble_eq_true rfl⟩ (rc_6 hK hT hk9999) hK (fun _ => XPh.blind) (fun U hU hW => XPh.at hK hz hS hT hU hW) rfl hl.1 (Nat.le_of_ble_eq_true rfl) dX10_queue_65 ⟨Nat.le_of_ble_eq_true rfl, Nat.le_of_ble_eq_true rfl⟩) hS ?_
        rintro _ _ locs ⟨x65, rfl, t65⟩ hS
        have t65 : ((0 ≤ p0.toInt ∧ p0.toInt < ((G.1 (F a 8) 6).toInt) ∧ p0.toInt < 1080) ∧ x65.toInt = (aI (G.2.1 (F (F a 8) 0)) (p0.toInt))) ∨ (¬ (0 ≤ p0.toInt ∧ p0.toInt < ((G.1 (F a 8) 6).toInt) ∧ p0.toInt < 1080) ∧ x65.toInt = -1) := t65
        exact x_riX hx hb hr hlk hQ (Nat.le_of_ble_eq_true rfl) (Nat.le_of_ble_eq_true rfl) hS dX10_queue_68 G ⟨_, rfl, XFr.rf, (z_X10_queue_4 p0.toInt p1.toInt x65.toInt ((G.1 (F a 8) 6).toInt) (aI (G.2.1 (F (F a 8) 0)) (p0.toInt)) (aI (G.2.1 (F (F a 8) 1)) (p0.toInt)) (aI (G.2.1 (F (F a 8) 2)) (p0.toInt)) (aI (G.2.1 (F (F a 8) 3)) (p0.toInt)) (aI (G.2.1 (F (F a 8) 5)) (p0.toInt)) sw c1 c12 c27 t65)⟩ hT
      · refine lv_tableIn (off := 42) (tgt := 69) hx hb dX10_queue_27 (by rw [c27]; decide) (by rw [c27]; decide) (by rw [c27]; rfl) (by decide) ?_
        refine lv_aload_n hx hb dX10_queue_69 rfl (lv_at hl 0 rfl) ?_
        refine gX10_8 S hK hT ha kf_X10_57 dX10_queue_70 (fun _ _ => ?_)
        refine lv_iload_n hx hb dX10_queue_73 rfl (lv_at hl 1 rfl) ?_
        refine x_clp (x_runV (b := (F a 8)) (As := [.int p0]) (rest := []) S (c_X4_subject l E K F G H (F a 8) p0 hk9999) mv_X4_subject km_X10_147 rfl rfl ⟨Nat.le_of_ble_eq_true rfl, Nat.le_of_ble_eq_true rfl⟩ (rc_6 hK hT hk9999) hK (fun _ => XPh.blind) (fun U hU hW => XPh.at hK hz hS hT hU hW) rfl hl.1 (Nat.le_of_ble_eq_true rfl) dX10_queue_74 ⟨Nat.le_of_ble_eq_true rfl, Nat.le_of_ble_eq_true rfl⟩) hS ?_
        rintro _ _ locs ⟨x74, rfl, t74⟩ hS
        have t74 : ((0 ≤ p0.toInt ∧ p0.toInt < ((G.1 (F a 8) 6).toInt) ∧ p0.toInt < 1080) ∧ x74.toInt = (aI (G.2.1 (F (F a 8) 1)) (p0.toInt))) ∨ (¬ (0 ≤ p0.toInt ∧ p0.toInt < ((G.1 (F a 8) 6).toInt) ∧ p0.toInt < 1080) ∧ x74.toInt = -1) := t74
        exact x_riX hx hb hr hlk hQ (Nat.le_of_ble_eq_true rfl) (Nat.le_of_ble_eq_true rfl) hS dX10_queue_77 G ⟨_, rfl, XFr.rf, (z_X10_queue_5 p0.toInt p1.toInt x74.toInt ((G.1 (F a 8) 6).toInt) (aI (G.2.1 (F (F a 8) 0)) (p0.toInt)) (aI (G.2.1 (F (F a 8) 1)) (p0.toInt)) (aI (G.2.1 (F (F a 8) 2)) (p0.toInt)) (aI (G.2.1 (F (F a 8) 3)) (p0.toInt)) (aI (G.2.1 (F (F a 8) 5)) (p0.toInt)) sw c1 c12 c27 t74)⟩ hT
      · refine lv_tableIn (off := 51) (tgt := 78) hx hb dX10_queue_27 (by rw [c27]; decide) (by rw [c27]; decide) (by rw [c27]; rfl) (by decide) ?_
        refine lv_aload_n hx hb dX10_queue_78 rfl (lv_at hl 0 rfl) ?_
        refine gX10_8 S hK hT ha kf_X10_57 dX10_queue_79 (fun _ _ => ?_)
        refine lv_iload_n hx hb dX10_queue_82 rfl (lv_at hl 1 rfl) ?_
        refine x_clp (x_runV (b := (F a 8)) (As := [.int p0]) (rest := []) S (c_X4_before l E K F G H (F a 8) p0 hk9999) mv_X4_before km_X10_303 rfl rfl ⟨Nat.le_of_ble_eq_true rfl, Nat.le_of_ble_eq_true rfl⟩ (rc_6 hK hT hk9999) hK (fun _ => XPh.blind) (fun U hU hW => XPh.at hK hz hS hT hU hW) rfl hl.1 (Nat.le_of_ble_eq_true rfl) dX10_queue_83 ⟨Nat.le_of_ble_eq_true rfl, Nat.le_of_ble_eq_true rfl⟩) hS ?_
        rintro _ _ locs ⟨x83, rfl, t83⟩ hS
        have t83 : ((0 ≤ p0.toInt ∧ p0.toInt < ((G.1 (F a 8) 6).toInt) ∧ p0.toInt < 1080) ∧ x83.toInt = (aI (G.2.1 (F (F a 8) 2)) (p0.toInt))) ∨ (¬ (0 ≤ p0.toInt ∧ p0.toInt < ((G.1 (F a 8) 6).toInt) ∧ p0.toInt < 1080) ∧ x83.toInt = -2000) := t83
        exact x_riX hx hb hr hlk hQ (Nat.le_of_ble_eq_true rfl) (Nat.le_of_ble_eq_true rfl) hS dX10_queue_86 G ⟨_, rfl, XFr.rf, (z_X10_queue_6 p0.toInt p1.toInt x83.toInt ((G.1 (F a 8) 6).toInt) (aI (G.2.1 (F (F a 8) 0)) (p0.toInt)) (aI (G.2.1 (F (F a 8) 1)) (p0.toInt)) (aI (G.2.1 (F (F a 8) 2)) (p0.toInt)) (aI (G.2.1 (F (F a 8) 3)) (p0.toInt)) (aI (G.2.1 (F (F a 8) 5)) (p0.toInt)) sw c1 c12 c27 t83)⟩ hT
      · refine lv_tableIn (off := 60) (tgt := 87) hx hb dX10_queue_27 (by rw [c27]; decide) (by rw [c27]; decide) (by rw [c27]; rfl) (by decide) ?_
        refine lv_aload_n hx hb dX10_queue_87 rfl (lv_at hl 0 rfl) ?_
        refine gX10_8 S hK hT ha kf_X10_57 dX10_queue_88 (fun _ _ => ?_)
        refine lv_iload_n hx hb dX10_queue_91 rfl (lv_at hl 1 rfl) ?_
        refine x_clp (x_runV (b := (F a 8)) (As := [.int p0]) (rest := []) S (c_X4_after l E K F G H (F a 8) p0 hk9999) mv_X4_after km_X10_306 rfl rfl ⟨Nat.le_of_ble_eq_true rfl, Nat.le_of_ble_eq_true rfl⟩ (rc_6 hK hT hk9999) hK (fun _ => XPh.blind) (fun U hU hW => XPh.at hK hz hS hT hU hW) rfl hl.1 (Nat.le_of_ble_eq_true rfl) dX10_queue_92 ⟨Nat.le_of_ble_eq_true rfl, Nat.le_of_ble_eq_true rfl⟩) hS ?_
        rintro _ _ locs ⟨x92, rfl, t92⟩ hS
        have t92 : ((0 ≤ p0.toInt ∧ p0.toInt < ((G.1 (F a 8) 6).toInt) ∧ p0.toInt < 1080) ∧ x92.toInt = (aI (G.2.1 (F (F a 8) 3)) (p0.toInt))) ∨ (¬ (0 ≤ p0.toInt ∧ p0.toInt < ((G.1 (F a 8) 6).toInt) ∧ p0.toInt < 1080) ∧ x92.toInt = -2000) := t92
        exact x_riX hx hb hr hlk hQ (Nat.le_of_ble_eq_true rfl) (Nat.le_of_ble_eq_true rfl) hS dX10_queue_95 G ⟨_, rfl, XFr.rf, (z_X10_queue_7 p0.toInt p1.toInt x92.toInt ((G.1 (F a 8) 6).toInt) (aI (G.2.1 (F (F a 8) 0)) (p0.toInt)) (aI (G.2.1 (F (F a 8) 1)) (p0.toInt)) (aI (G.2.1 (F (F a 8) 2)) (p0.toInt)) (aI (G.2.1 (F (F a 8) 3)) (p0.toInt)) (aI (G.2.1 (F (F a 8) 5)) (p0.toInt)) sw c1 c12 c27 t92)⟩ hT
      · refine lv_tableIn (off := 69) (tgt := 96) hx hb dX10_queue_27 (by rw [c27]; decide) (by rw [c27]; decide) (by rw [c27]; rfl) (by decide) ?_
        refine lv_aload_n hx hb dX10_queue_96 rfl (lv_at hl 0 rfl) ?_
        refine gX10_8 S hK hT ha kf_X10_57 dX10_queue_97 (fun _ _ => ?_)
        refine lv_iload_n hx hb dX10_queue_100 rfl (lv_at hl 1 rfl) ?_
        refine x_clp (x_runV (b := (F a 8)) (As := [.int p0]) (rest := []) S (c_X4_fails l E K F G H (F a 8) p0 hk9999) mv_X4_fails km_X10_309 rfl rfl ⟨Nat.le_of_ble_eq_true rfl, Nat.le_of_ble_eq_true rfl⟩ (rc_6 hK hT hk9999) hK (fun _ => XPh.blind) (fun U hU hW => XPh.at hK hz hS hT hU hW) rfl hl.1 (Nat.le_of_ble_eq_true rfl) dX10_queue_101 ⟨Nat.le_of_ble_eq_true rfl, Nat.le_of_ble_eq_true rfl⟩) hS ?_
        rintro _ _ locs ⟨x101, rfl, b101, t101⟩ hS
        have t101 : ((0 ≤ p0.toInt ∧ p0.toInt < ((G.1 (F a 8) 6).toInt) ∧ p0.toInt < 1080) ∧ x101.toInt = (aI (G.2.1 (F (F a 8) 5)) (p0.toInt))) ∨ (¬ (0 ≤ p0.toInt ∧ p0.toInt < ((G.1 (F a 8) 6).toInt) ∧ p0.toInt < 1080) ∧ x101.toInt = 0) := t101
        refine xi_zeq (tgt := 111) hx hb (rfl : Int32.toInt x101 = x101.toInt) dX10_queue_104 (by decide) (fun c104 => ?_) (fun c104 => ?_)
        · refine lv_iconst (v := 0) hx hb dX10_queue_111 (by decide) ?_
          exact x_riX hx hb hr hlk hQ (Nat.le_of_ble_eq_true rfl) (Nat.le_of_ble_eq_true rfl) hS dX10_queue_112 G ⟨_, rfl, XFr.rf, (z_X10_queue_8 p0.toInt p1.toInt x101.toInt ((G.1 (F a 8) 6).toInt) (aI (G.2.1 (F (F a 8) 0)) (p0.toInt)) (aI (G.2.1 (F (F a 8) 1)) (p0.toInt)) (aI (G.2.1 (F (F a 8) 2)) (p0.toInt)) (aI (G.2.1 (F (F a 8) 3)) (p0.toInt)) (aI (G.2.1 (F (F a 8) 5)) (p0.toInt)) sw c1 c12 c27 t101 c104)⟩ hT
        · refine lv_iconst (v := 1) hx hb dX10_queue_107 (by decide) ?_
          refine lv_goto (tgt := 112) hx hb dX10_queue_108 (by decide) ?_
          exact x_riX hx hb hr hlk hQ (Nat.le_of_ble_eq_true rfl) (Nat.le_of_ble_eq_true rfl) hS dX10_queue_112 G ⟨_, rfl, XFr.rf, (z_X10_queue_9 p0.toInt p1.toInt x101.toInt ((G.1 (F a 8) 6).toInt) (aI (G.2.1 (F (F a 8) 0)) (p0.toInt)) (aI (G.2.1 (F (F a 8) 1)) (p0.toInt)) (aI (G.2.1 (F (F a 8) 2)) (p0.toInt)) (aI (G.2.1 (F (F a 8) 3)) (p0.toInt)) (aI (G.2.1 (F (F a 8) 5)) (p0.toInt)) c27 t101 (xzi b101) c104)⟩ hT
    · rw [hQ]
      exact nx_throw S (z_X10_queue_10 p0.toInt ((G.1 (F a 8) 6).toInt) c12) hst hD9 hK hT hS (hK.2.2.1 12 ("LateRules", 299, "no such question in the queue") rfl) hl.1 dX10_queue_15 dX10_queue_18 dX10_queue_19 dX10_queue_22 dX10_queue_25 hex (Nat.le_of_ble_eq_true rfl) (Nat.le_of_ble_eq_true rfl) (Nat.le_of_ble_eq_true rfl) (Nat.le_of_ble_eq_true rfl) hlk (Nat.le_of_ble_eq_true rfl) (Nat.le_of_ble_eq_true rfl)

abbrev rm_L_value : Room := { frames := 7, cells := 1, slots := 6, locals := 123 }
set_option maxRecDepth 100000 in
theorem mh_value : xcH yL_value cL_value 6 (some .int) [(0, 12, 15, 13)] 5 := ⟨⟨GT_mem 1315 rfl rfl, GT_mem 1314 (by decide +kernel) rfl, GT_mem 90 (by decide +kernel) rfl⟩, by decide +kernel⟩
set_option maxHeartbeats 4000000 in
set_option maxRecDepth 100000 in
theorem c_L_value (l : Launch) (hst : l.stackTraces = false) (E : XE) (K : Nat → Nat) (F : Nat → Nat → Nat) (G : XG) (qx : Nat) (p1 p2 p3 : Int32) (qo : Nat) (kx : K qx = 12) (ko : K qo = 14) (ron : RO (vw (G.2.1 (F (F qx 3) 0))) (aI (G.2.1 (F (F qx 3) 1)))) : Met l yL_value (xwH yL_value cL_value 6 (some .int) [(0, 12, 15, 13)]) rm_L_value (va_Pc [.ref qx, .int p1, .int p2, .int p3, .ref qo] (XPn E K F G)) (XQ E (fun v (u : (Nat → Nat) × XG) => (∃ r : Int32, v = .int r ∧ ((r.toInt = 1 ∧ ((cel (vw (G.2.1 (F (F qx 3) 0))) (p1.toInt) (p2.toInt) 0) = -2000 ∨ p3.toInt < 0 ∨ 3 ≤ p3.toInt)) ∨ (r.toInt = 0 ∧ ∃ y : Int32, u.2.2.2.2 0 = y.toInt64 ∧ y.toInt = (cel (vw (G.2.1 (F (F qx 3) 0))) (p1.toInt) (p2.toInt) (p3.toInt)) ∧ (cel (vw (G.2.1 (F (F qx 3) 0))) (p1.toInt) (p2.toInt) 0) ≠ -2000 ∧ 0 ≤ p3.toInt ∧ p3.toInt < 3))) ∧ KE K u.1 ∧ u.1 qo = 14 ∧ XFr [] [] [] G u.2) (fun u H => TW E u.1 F u.2 H)) 1 6 (xA E) := by
  refine x_enterH (by decide) (Nat.le_of_ble_eq_true rfl) ?_
  intro p e s m args below meth c Q S hr hlk htab hQ hP ls hl
  obtain ⟨⟨hz, hK, hT⟩, hD9⟩ := hP
  obtain ⟨hx, hb, -, -, -⟩ := id S
  obtain ⟨H, hT, hS, hgo⟩ : ∃ H : Heap, TW E K F G H ∧ va_S (xA E) s.heap H [] ∧ H = s.heap := ⟨_, hT, va_S.rf, rfl⟩
  rw [← hgo]
  have hl : lv_has ls 6 [(0, .ref qx), (1, .int p1), (2, .int p2), (3, .int p3), (4, .ref qo)] := hl
  refine lv_aload hx hb dL_value_0 (lv_at hl 4 rfl) ?_
  refine lv_iconst (v := 0) hx hb dL_value_2 (by decide) ?_
  refine lv_aload_n hx hb dL_value_3 rfl (lv_at hl 0 rfl) ?_
  refine lv_iload_n hx hb dL_value_4 rfl (lv_at hl 1 rfl) ?_
  refine lv_iload_n hx hb dL_value_5 rfl (lv_at hl 2 rfl) ?_
  refine lv_iload_n hx hb dL_value_6 rfl (lv_at hl 3 rfl) ?_
  refine x_cX (x_runVX (b := qx) (As := [.int p1, .int p2, .int p3]) (rest := [.int 0, .ref qo]) S (c_X10_value l E K F hst G qx p1 p2 p3 kx ron) mv_X10_value km_L_7 rfl rfl ⟨(Nat.le_of_ble_eq_true rfl), (Nat.le_of_ble_eq_true rfl)⟩ (rc_12 hK hT kx) (fun _ => XPn.blind) (fun U hU hW => ⟨XP.at hK hz hS hT hU hW, XD.warm hW hD9⟩) rfl hl.1 (Nat.le_of_ble_eq_true rfl) dL_value_7 ⟨(Nat.le_of_ble_eq_true rfl), (Nat.le_of_ble_eq_true rfl)⟩) hS ?_ ?_
  · intro hPX q ce H locs hT hS hq hv hc
    refine vx_catch (own := RL) (name := NXN) (E := NXN) S.2.2.2.1 [] ⟨0, 12, 15, 13⟩ [] (by rw [htab]; rfl) (fun z hz => by cases hz) (by decide) (by decide) (S.2.2.2.2 _ (List.mem_cons_of_mem _ k_nx.2.2)) (va_Nw.use rfl hD9.2.2.2) hq hv hc ?_
    refine lv_astore (lv' := (5, .ref q) :: [(0, .ref qx), (1, .int p1), (2, .int p2), (3, .int p3), (4, .ref qo)]) hx hb dL_value_15 hl (by decide) rfl (fun ls hl => ?_)
    refine lv_iconst (v := 1) hx hb dL_value_17 (by decide) ?_
    exact x_ri hx hb hr hlk hQ (Nat.le_of_ble_eq_true rfl) (Nat.le_of_ble_eq_true rfl) hS dL_value_18 (K, G) ⟨⟨_, rfl, Or.inl ⟨by decide, hPX⟩⟩, KE.rf, ko, XFr.rf⟩ hT
  · rintro _ u9 H locs ⟨r, rfl, hf9, tp9⟩ hT hS
    refine lv_i2l (v := r.toInt64) hx hb dL_value_10 rfl ?_
    refine as_14 S hK hT hS ko dL_value_11 (fun K1 G1 H locs hk1 hk2 hf1 hl1 hT hS => ?_)
    refine lv_goto (tgt := 19) hx hb dL_value_12 (by decide) ?_
    refine lv_iconst (v := 0) hx hb dL_value_19 (by decide) ?_
    exact x_ri hx hb hr hlk hQ (Nat.le_of_ble_eq_true rfl) (Nat.le_of_ble_eq_true rfl) hS dL_value_20 (K1, G1) ⟨⟨_, rfl, Or.inr ⟨by decide, r, hl1, tp9⟩⟩, hk1, hk2, XFr.call hf9 hf1 xm0 xm0 xm0⟩ hT
abbrev rm_L_queue : Room := { frames := 7, cells := 1, slots := 6, locals := 122 }
set_option maxRecDepth 100000 in
theorem mh_queue : xcH yL_queue cL_queue 5 (some .int) [(0, 10, 13, 13)] 4 := ⟨⟨GT_mem 1388 rfl rfl, GT_mem 1387 (by decide +kernel) rfl, GT_mem 90 (by decide +kernel) rfl⟩, by decide +kernel⟩
set_option maxHeartbeats 4000000 in
set_option maxRecDepth 100000 in
theorem c_L_queue (l : Launch) (hst : l.stackTraces = false) (E : XE) (K : Nat → Nat) (F : Nat → Nat → Nat) (G : XG) (qx : Nat) (p1 p2 : Int32) (qo : Nat) (kx : K qx = 12) (ko : K qo = 14) (sw : 0 ≤ (G.1 (F qx 8) 6).toInt ∧ (G.1 (F qx 8) 6).toInt ≤ 1080) : Met l yL_queue (xwH yL_queue cL_queue 5 (some .int) [(0, 10, 13, 13)]) rm_L_queue (va_Pc [.ref qx, .int p1, .int p2, .ref qo] (XPn E K F G)) (XQ E (fun v (u : (Nat → Nat) × XG) => (∃ r : Int32, v = .int r ∧ ((r.toInt = 1 ∧ (p1.toInt < 0 ∨ ((G.1 (F qx 8) 6).toInt) ≤ p1.toInt)) ∨ (r.toInt = 0 ∧ ∃ y : Int32, u.2.2.2.2 0 = y.toInt64 ∧ (0 ≤ p1.toInt ∧ p1.toInt < (G.1 (F qx 8) 6).toInt) ∧ ((p2.toInt = 0 ∧ y.toInt = aI (G.2.1 (F (F qx 8) 0)) (p1.toInt)) ∨ (p2.toInt = 1 ∧ y.toInt = aI (G.2.1 (F (F qx 8) 1)) (p1.toInt)) ∨ (p2.toInt = 2 ∧ y.toInt = aI (G.2.1 (F (F qx 8) 2)) (p1.toInt)) ∨ (p2.toInt = 3 ∧ y.toInt = aI (G.2.1 (F (F qx 8) 3)) (p1.toInt)) ∨ (p2.toInt = 4 ∧ y.toInt = aI (G.2.1 (F (F qx 8) 5)) (p1.toInt)) ∨ ((p2.toInt < 0 ∨ 4 < p2.toInt) ∧ y.toInt = -2147483648))))) ∧ KE K u.1 ∧ u.1 qo = 14 ∧ XFr [] [] [] G u.2) (fun u H => TW E u.1 F u.2 H)) 1 6 (xA E) := by
  refine x_enterH (by decide) (Nat.le_of_ble_eq_true rfl) ?_
  intro p e s m args below meth c Q S hr hlk htab hQ hP ls hl
  obtain ⟨⟨hz, hK, hT⟩, hD9⟩ := hP
  obtain ⟨hx, hb, -, -, -⟩ := id S
  obtain ⟨H, hT, hS, hgo⟩ : ∃ H : Heap, TW E K F G H ∧ va_S (xA E) s.heap H [] ∧ H = s.heap := ⟨_, hT, va_S.rf, rfl⟩
  rw [← hgo]
  have hl : lv_has ls 5 [(0, .ref qx), (1, .int p1), (2, .int p2), (3, .ref qo)] := hl
  refine lv_aload_n hx hb dL_queue_0 rfl (lv_at hl 3 rfl) ?_
  refine lv_iconst (v := 0) hx hb dL_queue_1 (by decide) ?_
  refine lv_aload_n hx hb dL_queue_2 rfl (lv_at hl 0 rfl) ?_
  refine lv_iload_n hx hb dL_queue_3 rfl (lv_at hl 1 rfl) ?_
  refine lv_iload_n hx hb dL_queue_4 rfl (lv_at hl 2 rfl) ?_
  refine x_cX (x_runVX (b := qx) (As := [.int p1, .int p2]) (rest := [.int 0, .ref qo]) S (c_X10_queue l E K F hst G qx p1 p2 kx sw) mv_X10_queue km_L_15 rfl rfl ⟨(Nat.le_of_ble_eq_true rfl), (Nat.le_of_ble_eq_true rfl)⟩ (rc_12 hK hT kx) (fun _ => XPn.blind) (fun U hU hW => ⟨XP.at hK hz hS hT hU hW, XD.warm hW hD9⟩) rfl hl.1 (Nat.le_of_ble_eq_true rfl) dL_queue_5 ⟨(Nat.le_of_ble_eq_true rfl), (Nat.le_of_ble_eq_true rfl)⟩) hS ?_ ?_
  · intro hPX q ce H locs hT hS hq hv hc
    refine vx_catch (own := RL) (name := NXN) (E := NXN) S.2.2.2.1 [] ⟨0, 10, 13, 13⟩ [] (by rw [htab]; rfl) (fun z hz => by cases hz) (by decide) (by decide) (S.2.2.2.2 _ (List.mem_cons_of_mem _ k_nx.2.2)) (va_Nw.use rfl hD9.2.2.2) hq hv hc ?_
    refine lv_astore (lv' := (4, .ref q) :: [(0, .ref qx), (1, .int p1), (2, .int p2), (3, .ref qo)]) hx hb dL_queue_13 hl (by decide) rfl (fun ls hl => ?_)
    refine lv_iconst (v := 1) hx hb dL_queue_15 (by decide) ?_
    exact x_ri hx hb hr hlk hQ (Nat.le_of_ble_eq_true rfl) (Nat.le_of_ble_eq_true rfl) hS dL_queue_16 (K, G) ⟨⟨_, rfl, Or.inl ⟨by decide, hPX⟩⟩, KE.rf, ko, XFr.rf⟩ hT
  · rintro _ u9 H locs ⟨r, rfl, hf9, tp9⟩ hT hS
    refine lv_i2l (v := r.toInt64) hx hb dL_queue_8 rfl ?_
    refine as_14 S hK hT hS ko dL_queue_9 (fun K1 G1 H locs hk1 hk2 hf1 hl1 hT hS => ?_)
    refine lv_goto (tgt := 17) hx hb dL_queue_10 (by decide) ?_
    refine lv_iconst (v := 0) hx hb dL_queue_17 (by decide) ?_
    exact x_ri hx hb hr hlk hQ (Nat.le_of_ble_eq_true rfl) (Nat.le_of_ble_eq_true rfl) hS dL_queue_18 (K1, G1) ⟨⟨_, rfl, Or.inr ⟨by decide, r, hl1, tp9⟩⟩, hk1, hk2, XFr.call hf9 hf1 xm0 xm0 xm0⟩ hT
