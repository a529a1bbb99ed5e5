theorem z_X10_sign_2 (a0 : Int) (a1 : Int) (a2 : Int) (h0 : (76 < a1 ∧ a0 = 0 ∧ a2 = a1) ∨ (a1 ≤ 76 ∧ a0 = 1 ∧ a2 = a1 + 4)) (h1 : a0 = 0) : (76 < a1 ∧ (-1 : Int) = -1 ∧ a2 = a1) ∨ (a1 ≤ 76 ∧ (-1 : Int) = a1 + 4 ∧ a2 = a1 + 4) := by omega
theorem z_X10_sign_3 (a0 : Int) (a1 : Int) (a2 : Int) (h0 : (76 < a1 ∧ a0 = 0 ∧ a2 = a1) ∨ (a1 ≤ 76 ∧ a0 = 1 ∧ a2 = a1 + 4)) (h1 : ¬ (a0 = 0)) : (76 < a1 ∧ a2 = -1 ∧ a2 = a1) ∨ (a1 ≤ 76 ∧ a2 = a1 + 4 ∧ a2 = a1 + 4) := by omega
abbrev rm_X10_sign : Room := { frames := 1, cells := 0, slots := 0, locals := 22 }
set_option maxHeartbeats 4000000 in
set_option maxRecDepth 100000 in
theorem c_X10_sign (l : Launch) (E : XE) (K : Nat → Nat) (F : Nat → Nat → Nat) (G : XG) (a : Nat) (p0 : Int32) (ha : K a = 12) (n0 : 0 ≤ ((G.1 (F a 0) 1).toInt) ∧ ((G.1 (F a 0) 1).toInt) ≤ 80) : Met l yX10_sign (xw yX10_sign cX10_sign 2 (some .int)) rm_X10_sign (va_Pc [.ref a, .int p0] (XP E K F G)) (XQ E (fun v (u : XG) => ∃ r : Int32, v = .int r ∧ XFr [(F a 0, 1)] [F (F a 0) 0] [] G u ∧ ((76 < ((G.1 (F a 0) 1).toInt) ∧ r.toInt = -1 ∧ ((u.1 (F a 0) 1).toInt) = ((G.1 (F a 0) 1).toInt)) ∨ (((G.1 (F a 0) 1).toInt) ≤ 76 ∧ r.toInt = ((G.1 (F a 0) 1).toInt) + 4 ∧ ((u.1 (F a 0) 1).toInt) = ((G.1 (F a 0) 1).toInt) + 4)) ∧ ((r.toInt = -1 ∧ u.2.1 (F (F a 0) 0) = (G.2.1 (F (F a 0) 0))) ∨ (r.toInt ≠ -1 ∧ ∀ z : Int, 0 ≤ z → aI (u.2.1 (F (F a 0) 0)) z = if ((G.1 (F a 0) 1).toInt) ≤ z ∧ z < ((G.1 (F a 0) 1).toInt) + 4 then bqI p0 (24 - 8 * (z - ((G.1 (F a 0) 1).toInt))) else aI (G.2.1 (F (F a 0) 0)) z))) (fun u H => TW E K F u H)) 0 0 (xA E) := by
  refine x_enter (by decide) (Nat.le_of_ble_eq_true rfl) ?_
  intro p e s m args below meth c Q S hr hlk hnm hQ hP ls hl
  obtain ⟨hz, hK, hT⟩ := hP
  obtain ⟨hx, hb, -, -, -⟩ := id S
  obtain ⟨H, hT, hS, hgo⟩ : ∃ H : Heap, TW E K F G H ∧ va_S (xA E) s.heap H [] ∧ H = s.heap := ⟨_, hT, va_S.rf, rfl⟩
  rw [← hgo]
  have hl : lv_has ls 2 [(0, .ref a), (1, .int p0)] := hl
  obtain ⟨hk9999, hj9999⟩ := fkX10_0 hT ha
  obtain ⟨hk9999a, hj9999a⟩ := fkX8_0 hT hk9999
  refine lv_aload_n hx hb dX10_sign_0 rfl (lv_at hl 0 rfl) ?_
  refine gX10_0 S hK hT ha kf_X10_12 dX10_sign_1 (fun _ _ => ?_)
  refine lv_iload_n hx hb dX10_sign_4 rfl (lv_at hl 1 rfl) ?_
  refine x_cl0 (x_runV (b := (F a 0)) (As := [.int p0]) (rest := []) S (c_X8_addFour l E K F G (F a 0) p0 hk9999 (n0)) mv_X8_addFour km_X10_102 rfl rfl ⟨Nat.le_of_ble_eq_true rfl, Nat.le_of_ble_eq_true rfl⟩ (rc_10 hK hT hk9999) hK (fun _ => XP.blind) (fun U hU hW => XP.at hK hz hS hT hU hW) rfl hl.1 (Nat.le_of_ble_eq_true rfl) dX10_sign_5 ⟨Nat.le_of_ble_eq_true rfl, Nat.le_of_ble_eq_true rfl⟩) hS ?_
  rintro _ G5 H locs ⟨x5, rfl, b5, hF5, t5, oq5⟩ hT hS
  have t5 : (76 < ((G.1 (F a 0) 1).toInt) ∧ x5.toInt = 0 ∧ ((G5.1 (F a 0) 1).toInt) = ((G.1 (F a 0) 1).toInt)) ∨ (((G.1 (F a 0) 1).toInt) ≤ 76 ∧ x5.toInt = 1 ∧ ((G5.1 (F a 0) 1).toInt) = ((G.1 (F a 0) 1).toInt) + 4) := t5
  refine xi_zeq (tgt := 21) hx hb (rfl : Int32.toInt x5 = x5.toInt) dX10_sign_8 (by decide) (fun c8 => ?_) (fun c8 => ?_)
  · refine lv_iconst (v := (-1)) hx hb dX10_sign_21 (by decide) ?_
    exact x_ri hx hb hr hlk hQ (Nat.le_of_ble_eq_true rfl) (Nat.le_of_ble_eq_true rfl) hS dX10_sign_22 G5 ⟨_, rfl, (XFr.call XFr.rf hF5 (xm1 0 rfl xm0) (xm1 0 rfl xm0) xm0), (by rw [((by decide) : Int32.toInt (-1) = (-1 : Int))] <;> exact (z_X10_sign_2 x5.toInt ((G.1 (F a 0) 1).toInt) ((G5.1 (F a 0) 1).toInt) t5 c8)), (by rw [((by decide) : Int32.toInt (-1) = (-1 : Int))] <;> exact (v_X10_sign_22_1 (K := K) (F := F) a G G5 x5 p0 ha oq5 n0 t5 c8))⟩ hT
  · refine lv_aload_n hx hb dX10_sign_11 rfl (lv_at hl 0 rfl) ?_
    refine gX10_0 S hK hT ha kf_X10_12 dX10_sign_12 (fun _ _ => ?_)
    refine x_clp (x_runV (b := (F a 0)) (As := []) (rest := []) S (c_X8_length l E K F G5 H (F a 0) hk9999) mv_X8_length km_X10_106 rfl rfl ⟨Nat.le_of_ble_eq_true rfl, Nat.le_of_ble_eq_true rfl⟩ (rc_10 hK hT hk9999) hK (fun _ => XPh.blind) (fun U hU hW => XPh.at hK hz hS hT hU hW) rfl hl.1 (Nat.le_of_ble_eq_true rfl) dX10_sign_15 ⟨Nat.le_of_ble_eq_true rfl, Nat.le_of_ble_eq_true rfl⟩) hS ?_
    rintro _ _ locs ⟨x15, rfl, t15⟩ hS
    have t15 : x15.toInt = ((G5.1 (F a 0) 1).toInt) := t15
    refine lv_goto (tgt := 22) hx hb dX10_sign_18 (by decide) ?_
    exact x_ri hx hb hr hlk hQ (Nat.le_of_ble_eq_true rfl) (Nat.le_of_ble_eq_true rfl) hS dX10_sign_22 G5 ⟨_, rfl, (XFr.call XFr.rf hF5 (xm1 0 rfl xm0) (xm1 0 rfl xm0) xm0), (by rw [(t15 : Int32.toInt x15 = ((G5.1 (F a 0) 1).toInt))] <;> exact (z_X10_sign_3 x5.toInt ((G.1 (F a 0) 1).toInt) ((G5.1 (F a 0) 1).toInt) t5 c8)), (by rw [(t15 : Int32.toInt x15 = ((G5.1 (F a 0) 1).toInt))] <;> exact (v_X10_sign_22_2 (K := K) (F := F) a G G5 x5 p0 ha oq5 n0 t5 c8))⟩ hT

abbrev rm_X10_end : Room := { frames := 1, cells := 0, slots := 0, locals := 21 }
set_option maxHeartbeats 4000000 in
set_option maxRecDepth 100000 in
theorem c_X10_end (l : Launch) (E : XE) (K : Nat → Nat) (F : Nat → Nat → Nat) (G : XG) (a : Nat) (p0 : Int32) (ha : K a = 12) : Met l yX10_end (xw yX10_end cX10_end 2 (some .boolean)) rm_X10_end (va_Pc [.ref a, .int p0] (XP E K F G)) (XQ E (fun v (u : XG) => ∃ r : Int32, v = .int r ∧ (r = 0 ∨ r = 1) ∧ XFr [(F a 0, 1)] [] [] G u ∧ (((p0.toInt < 0 ∨ ((G.1 (F a 0) 1).toInt) < p0.toInt) ∧ r.toInt = 0 ∧ ((u.1 (F a 0) 1).toInt) = ((G.1 (F a 0) 1).toInt)) ∨ ((0 ≤ p0.toInt ∧ p0.toInt ≤ ((G.1 (F a 0) 1).toInt)) ∧ r.toInt = 1 ∧ ((u.1 (F a 0) 1).toInt) = p0.toInt))) (fun u H => TW E K F u H)) 0 0 (xA E) := by
  refine x_enter (by decide) (Nat.le_of_ble_eq_true rfl) ?_
  intro p e s m args below meth c Q S hr hlk hnm hQ hP ls hl
  obtain ⟨hz, hK, hT⟩ := hP
  obtain ⟨hx, hb, -, -, -⟩ := id S
  obtain ⟨H, hT, hS, hgo⟩ : ∃ H : Heap, TW E K F G H ∧ va_S (xA E) s.heap H [] ∧ H = s.heap := ⟨_, hT, va_S.rf, rfl⟩
  rw [← hgo]
  have hl : lv_has ls 2 [(0, .ref a), (1, .int p0)] := hl
  obtain ⟨hk9999, hj9999⟩ := fkX10_0 hT ha
  refine lv_aload_n hx hb dX10_end_0 rfl (lv_at hl 0 rfl) ?_
  refine gX10_0 S hK hT ha kf_X10_12 dX10_end_1 (fun _ _ => ?_)
  refine lv_iload_n hx hb dX10_end_4 rfl (lv_at hl 1 rfl) ?_
  refine x_cl0 (x_runV (b := (F a 0)) (As := [.int p0]) (rest := []) S (c_X8_shorten l E K F G (F a 0) p0 hk9999) mv_X8_shorten km_X10_110 rfl rfl ⟨Nat.le_of_ble_eq_true rfl, Nat.le_of_ble_eq_true rfl⟩ (rc_10 hK hT hk9999) hK (fun _ => XP.blind) (fun U hU hW => XP.at hK hz hS hT hU hW) rfl hl.1 (Nat.le_of_ble_eq_true rfl) dX10_end_5 ⟨Nat.le_of_ble_eq_true rfl, Nat.le_of_ble_eq_true rfl⟩) hS ?_
  rintro _ G5 H locs ⟨x5, rfl, b5, hF5, t5⟩ hT hS
  have t5 : ((p0.toInt < 0 ∨ ((G.1 (F a 0) 1).toInt) < p0.toInt) ∧ x5.toInt = 0 ∧ ((G5.1 (F a 0) 1).toInt) = ((G.1 (F a 0) 1).toInt)) ∨ ((0 ≤ p0.toInt ∧ p0.toInt ≤ ((G.1 (F a 0) 1).toInt)) ∧ x5.toInt = 1 ∧ ((G5.1 (F a 0) 1).toInt) = p0.toInt) := t5
  exact x_rz hx hb hr (xnz b5) hlk hQ (Nat.le_of_ble_eq_true rfl) (Nat.le_of_ble_eq_true rfl) hS dX10_end_8 G5 ⟨_, rfl, b5, (XFr.call XFr.rf hF5 (xm1 0 rfl xm0) xm0 xm0), (t5)⟩ hT

