abbrev rm_X10_value : Room := { frames := 6, cells := 1, slots := 6, locals := 100 }
set_option maxHeartbeats 4000000 in
set_option maxRecDepth 100000 in
theorem c_X10_value (l : Launch) (E : XE) (K : Nat → Nat) (F : Nat → Nat → Nat) (hst : l.stackTraces = false) (G : XG) (a : Nat) (p0 : Int32) (p1 : Int32) (p2 : Int32) (ha : K a = 12) : vx_Met l yX10_value (xw yX10_value cX10_value 4 (some .int)) rm_X10_value (va_Pc [.ref a, .int p0, .int p1, .int p2] (XPn E K F G)) (XQ E (fun v (u : Unit) => ∃ r : Int32, v = .int r) (fun _ H => TW E K F G [] H)) (XCn E K F G) 1 6 (xA E) := by
  refine x_enterX (by decide) (Nat.le_of_ble_eq_true rfl) ?_
  intro p e s m args below meth c Q S hr hlk hex hQ hP ls hl
  obtain ⟨⟨hz, hK, hT⟩, hD9⟩ := hP
  obtain ⟨hx, hb, -, -, -⟩ := id S
  obtain ⟨H, hT, hS, hgo⟩ : ∃ H : Heap, TW E K F G [] H ∧ va_S (xA E) s.heap H [] ∧ H = s.heap := ⟨_, hT, va_S.rf, rfl⟩
  rw [← hgo]
  have hl : lv_has ls 4 [(0, .ref a), (1, .int p0), (2, .int p1), (3, .int p2)] := hl
  refine lv_aload_n hx hb dX10_value_0 rfl (lv_at hl 0 rfl) ?_
  refine gX10_3 S hK hT ha kf_X10_37 dX10_value_1 (fun hk1 => ?_)
  refine lv_iload_n hx hb dX10_value_4 rfl (lv_at hl 1 rfl) ?_
  refine lv_iload_n hx hb dX10_value_5 rfl (lv_at hl 2 rfl) ?_
  refine x_clp (x_runV (b := (F a 3)) (As := [.int p0, .int p1]) (rest := []) S (c_X6_has l E K F G H (F a 3) p0 p1 hk1) mv_X6_has km_X10_191 rfl rfl ⟨Nat.le_of_ble_eq_true rfl, Nat.le_of_ble_eq_true rfl⟩ (rc_8 hK hT hk1) hK (fun _ => XPh.blind) (fun U hU hW => XPh.at hK hz hS hT hU hW) rfl hl.1 (Nat.le_of_ble_eq_true rfl) dX10_value_6 ⟨Nat.le_of_ble_eq_true rfl, Nat.le_of_ble_eq_true rfl⟩) hS ?_
  rintro _ _ locs ⟨x2, rfl, b3, t4⟩ hS
  have t4 : x2.toInt = 0 ∨ (x2.toInt = 1 ∧ 0 ≤ p0.toInt ∧ p0.toInt < 3 ∧ 0 ≤ p1.toInt ∧ p1.toInt < 30) := t4
  refine xi_zeq (tgt := 19) hx hb (rfl : Int32.toInt x2 = x2.toInt) dX10_value_9 (by decide) (fun c5 => ?_) (fun c5 => ?_)
  · rw [hQ]
    exact nx_throw S hst hD9 hK hT hS (hK.2.2.1 11 _ rfl) hl.1 dX10_value_19 dX10_value_22 dX10_value_23 dX10_value_26 dX10_value_29 hex (Nat.le_of_ble_eq_true rfl) (Nat.le_of_ble_eq_true rfl) (Nat.le_of_ble_eq_true rfl) (Nat.le_of_ble_eq_true rfl) hlk (Nat.le_of_ble_eq_true rfl) (Nat.le_of_ble_eq_true rfl)
  · refine lv_iload_n hx hb dX10_value_12 rfl (lv_at hl 3 rfl) ?_
    refine x_clp (x_runS (As := [.int p2]) (rest := []) S (c_X10_isColumn l E K F G H p2) ms_X10_isColumn km_X10_255 rfl rfl ⟨Nat.le_of_ble_eq_true rfl, Nat.le_of_ble_eq_true rfl⟩ hK (fun _ => XPh.blind) (fun U hU hW => XPh.at hK hz hS hT hU hW) rfl hl.1 (Nat.le_of_ble_eq_true rfl) dX10_value_13 ⟨Nat.le_of_ble_eq_true rfl, Nat.le_of_ble_eq_true rfl⟩) hS ?_
    rintro _ _ locs ⟨x6, rfl, b7, t8⟩ hS
    have t8 : (x6.toInt = 1 ∧ 0 ≤ p2.toInt ∧ p2.toInt < 3) ∨ (x6.toInt = 0 ∧ (p2.toInt < 0 ∨ 3 ≤ p2.toInt)) := t8
    refine xi_zne (tgt := 30) hx hb (rfl : Int32.toInt x6 = x6.toInt) dX10_value_16 (by decide) (fun c9 => ?_) (fun c9 => ?_)
    · refine lv_aload_n hx hb dX10_value_30 rfl (lv_at hl 0 rfl) ?_
      refine gX10_3 S hK hT ha kf_X10_37 dX10_value_31 (fun hk10 => ?_)
      refine lv_iload_n hx hb dX10_value_34 rfl (lv_at hl 1 rfl) ?_
      refine lv_iload_n hx hb dX10_value_35 rfl (lv_at hl 2 rfl) ?_
      refine lv_iload_n hx hb dX10_value_36 rfl (lv_at hl 3 rfl) ?_
      refine x_clp (x_runV (b := (F a 3)) (As := [.int p0, .int p1, .int p2]) (rest := []) S (c_X6_cell l E K F G H (F a 3) p0 p1 p2 hk10) mv_X6_cell km_X10_265 rfl rfl ⟨Nat.le_of_ble_eq_true rfl, Nat.le_of_ble_eq_true rfl⟩ (rc_8 hK hT hk10) hK (fun _ => XPh.blind) (fun U hU hW => XPh.at hK hz hS hT hU hW) rfl hl.1 (Nat.le_of_ble_eq_true rfl) dX10_value_37 ⟨Nat.le_of_ble_eq_true rfl, Nat.le_of_ble_eq_true rfl⟩) hS ?_
      rintro _ _ locs ⟨x11, rfl⟩ hS
      exact x_riX hx hb hr hlk hQ (Nat.le_of_ble_eq_true rfl) (Nat.le_of_ble_eq_true rfl) hS dX10_value_40 () ⟨_, rfl⟩ hT.nil
    · rw [hQ]
      exact nx_throw S hst hD9 hK hT hS (hK.2.2.1 11 _ rfl) hl.1 dX10_value_19 dX10_value_22 dX10_value_23 dX10_value_26 dX10_value_29 hex (Nat.le_of_ble_eq_true rfl) (Nat.le_of_ble_eq_true rfl) (Nat.le_of_ble_eq_true rfl) (Nat.le_of_ble_eq_true rfl) hlk (Nat.le_of_ble_eq_true rfl) (Nat.le_of_ble_eq_true rfl)

theorem z_X10_queue_1 (a0 : Int) (r0 : -2147483648 ≤ a0 ∧ a0 < 2147483648) : (a0 < 0 ∨ 4 < a0) ∨ (a0 = 0) ∨ (a0 = 1) ∨ (a0 = 2) ∨ (a0 = 3) ∨ (a0 = 4) := by omega
abbrev rm_X10_queue : Room := { frames := 6, cells := 1, slots := 6, locals := 100 }
set_option maxHeartbeats 4000000 in
set_option maxRecDepth 100000 in
theorem c_X10_queue (l : Launch) (E : XE) (K : Nat → Nat) (F : Nat → Nat → Nat) (hst : l.stackTraces = false) (G : XG) (a : Nat) (p0 : Int32) (p1 : Int32) (ha : K a = 12) : vx_Met l yX10_queue (xw yX10_queue cX10_queue 3 (some .int)) rm_X10_queue (va_Pc [.ref a, .int p0, .int p1] (XPn E K F G)) (XQ E (fun v (u : Unit) => ∃ r : Int32, v = .int r) (fun _ H => TW E K F G [] H)) (XCn E K F G) 1 6 (xA E) := by
  refine x_enterX (by decide) (Nat.le_of_ble_eq_true rfl) ?_
  intro p e s m args below meth c Q S hr hlk hex hQ hP ls hl
  obtain ⟨⟨hz, hK, hT⟩, hD9⟩ := hP
  obtain ⟨hx, hb, -, -, -⟩ := id S
  obtain ⟨H, hT, hS, hgo⟩ : ∃ H : Heap, TW E K F G [] H ∧ va_S (xA E) s.heap H [] ∧ H = s.heap := ⟨_, hT, va_S.rf, rfl⟩
  rw [← hgo]
  have hl : lv_has ls 3 [(0, .ref a), (1, .int p0), (2, .int p1)] := hl
  refine lv_iload_n hx hb dX10_queue_0 rfl (lv_at hl 1 rfl) ?_
  refine xi_zlt (tgt := 15) hx hb (rfl : Int32.toInt p0 = p0.toInt) dX10_queue_1 (by decide) (fun c1 => ?_) (fun c1 => ?_)
  · rw [hQ]
    exact nx_throw S hst hD9 hK hT hS (hK.2.2.1 12 _ rfl) hl.1 dX10_queue_15 dX10_queue_18 dX10_queue_19 dX10_queue_22 dX10_queue_25 hex (Nat.le_of_ble_eq_true rfl) (Nat.le_of_ble_eq_true rfl) (Nat.le_of_ble_eq_true rfl) (Nat.le_of_ble_eq_true rfl) hlk (Nat.le_of_ble_eq_true rfl) (Nat.le_of_ble_eq_true rfl)
  · refine lv_iload_n hx hb dX10_queue_4 rfl (lv_at hl 1 rfl) ?_
    refine lv_aload_n hx hb dX10_queue_5 rfl (lv_at hl 0 rfl) ?_
    refine gX10_8 S hK hT ha kf_X10_57 dX10_queue_6 (fun hk2 => ?_)
    refine x_clp (x_runV (b := (F a 8)) (As := []) (rest := [.int p0]) S (c_X4_size l E K F G H (F a 8) hk2) mv_X4_size km_X10_232 rfl rfl ⟨Nat.le_of_ble_eq_true rfl, Nat.le_of_ble_eq_true rfl⟩ (rc_6 hK hT hk2) hK (fun _ => XPh.blind) (fun U hU hW => XPh.at hK hz hS hT hU hW) rfl hl.1 (Nat.le_of_ble_eq_true rfl) dX10_queue_9 ⟨Nat.le_of_ble_eq_true rfl, Nat.le_of_ble_eq_true rfl⟩) hS ?_
    rintro _ _ locs ⟨x3, rfl⟩ hS
    refine xi_clt (tgt := 26) hx hb (rfl : Int32.toInt p0 = p0.toInt) (rfl : Int32.toInt x3 = x3.toInt) dX10_queue_12 (by decide) (fun c4 => ?_) (fun c4 => ?_)
    · refine lv_iload_n hx hb dX10_queue_26 rfl (lv_at hl 2 rfl) ?_
      rcases ((z_X10_queue_1 p1.toInt (xr p1)) : (p1.toInt < 0 ∨ 4 < p1.toInt) ∨ (p1.toInt = 0) ∨ (p1.toInt = 1) ∨ (p1.toInt = 2) ∨ (p1.toInt = 3) ∨ (p1.toInt = 4)) with c5 | c5 | c5 | c5 | c5 | c5
      · refine lv_tableOut (tgt := 113) hx hb dX10_queue_27 c5 (by decide) ?_
        refine lv_ldcw (v := (-2147483648)) hx hb S.2.2.2.1 (S.2.2.2.2 _ (List.mem_cons_of_mem _ kc_X10_274)) dX10_queue_113 ?_
        exact x_riX hx hb hr hlk hQ (Nat.le_of_ble_eq_true rfl) (Nat.le_of_ble_eq_true rfl) hS dX10_queue_116 () ⟨_, rfl⟩ hT.nil
      · refine lv_tableIn (off := 33) (tgt := 60) hx hb dX10_queue_27 (by rw [c5]; decide) (by rw [c5]; decide) (by rw [c5]; rfl) (by decide) ?_
        refine lv_aload_n hx hb dX10_queue_60 rfl (lv_at hl 0 rfl) ?_
        refine gX10_8 S hK hT ha kf_X10_57 dX10_queue_61 (fun hk6 => ?_)
        refine lv_iload_n hx hb dX10_queue_64 rfl (lv_at hl 1 rfl) ?_
        refine x_clp (x_runV (b := (F a 8)) (As := [.int p0]) (rest := []) S (c_X4_number l E K F G H (F a 8) p0 hk6) mv_X4_number km_X10_301 rfl rfl ⟨Nat.le_of_ble_eq_true rfl, Nat.le_of_ble_eq_true rfl⟩ (rc_6 hK hT hk6) hK (fun _ => XPh.blind) (fun U hU hW => XPh.at hK hz hS hT hU hW) rfl hl.1 (Nat.le_of_ble_eq_true rfl) dX10_queue_65 ⟨Nat.le_of_ble_eq_true rfl, Nat.le_of_ble_eq_true rfl⟩) hS ?_
        rintro _ _ locs ⟨x7, rfl⟩ hS
        exact x_riX hx hb hr hlk hQ (Nat.le_of_ble_eq_true rfl) (Nat.le_of_ble_eq_true rfl) hS dX10_queue_68 () ⟨_, rfl⟩ hT.nil
      · refine lv_tableIn (off := 42) (tgt := 69) hx hb dX10_queue_27 (by rw [c5]; decide) (by rw [c5]; decide) (by rw [c5]; rfl) (by decide) ?_
        refine lv_aload_n hx hb dX10_queue_69 rfl (lv_at hl 0 rfl) ?_
        refine gX10_8 S hK hT ha kf_X10_57 dX10_queue_70 (fun hk8 => ?_)
        refine lv_iload_n hx hb dX10_queue_73 rfl (lv_at hl 1 rfl) ?_
        refine x_clp (x_runV (b := (F a 8)) (As := [.int p0]) (rest := []) S (c_X4_subject l E K F G H (F a 8) p0 hk8) mv_X4_subject km_X10_147 rfl rfl ⟨Nat.le_of_ble_eq_true rfl, Nat.le_of_ble_eq_true rfl⟩ (rc_6 hK hT hk8) hK (fun _ => XPh.blind) (fun U hU hW => XPh.at hK hz hS hT hU hW) rfl hl.1 (Nat.le_of_ble_eq_true rfl) dX10_queue_74 ⟨Nat.le_of_ble_eq_true rfl, Nat.le_of_ble_eq_true rfl⟩) hS ?_
        rintro _ _ locs ⟨x9, rfl⟩ hS
        exact x_riX hx hb hr hlk hQ (Nat.le_of_ble_eq_true rfl) (Nat.le_of_ble_eq_true rfl) hS dX10_queue_77 () ⟨_, rfl⟩ hT.nil
      · refine lv_tableIn (off := 51) (tgt := 78) hx hb dX10_queue_27 (by rw [c5]; decide) (by rw [c5]; decide) (by rw [c5]; rfl) (by decide) ?_
        refine lv_aload_n hx hb dX10_queue_78 rfl (lv_at hl 0 rfl) ?_
        refine gX10_8 S hK hT ha kf_X10_57 dX10_queue_79 (fun hk10 => ?_)
        refine lv_iload_n hx hb dX10_queue_82 rfl (lv_at hl 1 rfl) ?_
        refine x_clp (x_runV (b := (F a 8)) (As := [.int p0]) (rest := []) S (c_X4_before l E K F G H (F a 8) p0 hk10) mv_X4_before km_X10_303 rfl rfl ⟨Nat.le_of_ble_eq_true rfl, Nat.le_of_ble_eq_true rfl⟩ (rc_6 hK hT hk10) hK (fun _ => XPh.blind) (fun U hU hW => XPh.at hK hz hS hT hU hW) rfl hl.1 (Nat.le_of_ble_eq_true rfl) dX10_queue_83 ⟨Nat.le_of_ble_eq_true rfl, Nat.le_of_ble_eq_true rfl⟩) hS ?_
        rintro _ _ locs ⟨x11, rfl⟩ hS
        exact x_riX hx hb hr hlk hQ (Nat.le_of_ble_eq_true rfl) (Nat.le_of_ble_eq_true rfl) hS dX10_queue_86 () ⟨_, rfl⟩ hT.nil
      · refine lv_tableIn (off := 60) (tgt := 87) hx hb dX10_queue_27 (by rw [c5]; decide) (by rw [c5]; decide) (by rw [c5]; rfl) (by decide) ?_
        refine lv_aload_n hx hb dX10_queue_87 rfl (lv_at hl 0 rfl) ?_
        refine gX10_8 S hK hT ha kf_X10_57 dX10_queue_88 (fun hk12 => ?_)
        refine lv_iload_n hx hb dX10_queue_91 rfl (lv_at hl 1 rfl) ?_
        refine x_clp (x_runV (b := (F a 8)) (As := [.int p0]) (rest := []) S (c_X4_after l E K F G H (F a 8) p0 hk12) mv_X4_after km_X10_306 rfl rfl ⟨Nat.le_of_ble_eq_true rfl, Nat.le_of_ble_eq_true rfl⟩ (rc_6 hK hT hk12) hK (fun _ => XPh.blind) (fun U hU hW => XPh.at hK hz hS hT hU hW) rfl hl.1 (Nat.le_of_ble_eq_true rfl) dX10_queue_92 ⟨Nat.le_of_ble_eq_true rfl, Nat.le_of_ble_eq_true rfl⟩) hS ?_
        rintro _ _ locs ⟨x13, rfl⟩ hS
        exact x_riX hx hb hr hlk hQ (Nat.le_of_ble_eq_true rfl) (Nat.le_of_ble_eq_true rfl) hS dX10_queue_95 () ⟨_, rfl⟩ hT.nil
      · refine lv_tableIn (off := 69) (tgt := 96) hx hb dX10_queue_27 (by rw [c5]; decide) (by rw [c5]; decide) (by rw [c5]; rfl) (by decide) ?_
        refine lv_aload_n hx hb dX10_queue_96 rfl (lv_at hl 0 rfl) ?_
        refine gX10_8 S hK hT ha kf_X10_57 dX10_queue_97 (fun hk14 => ?_)
        refine lv_iload_n hx hb dX10_queue_100 rfl (lv_at hl 1 rfl) ?_
        refine x_clp (x_runV (b := (F a 8)) (As := [.int p0]) (rest := []) S (c_X4_fails l E K F G H (F a 8) p0 hk14) mv_X4_fails km_X10_309 rfl rfl ⟨Nat.le_of_ble_eq_true rfl, Nat.le_of_ble_eq_true rfl⟩ (rc_6 hK hT hk14) hK (fun _ => XPh.blind) (fun U hU hW => XPh.at hK hz hS hT hU hW) rfl hl.1 (Nat.le_of_ble_eq_true rfl) dX10_queue_101 ⟨Nat.le_of_ble_eq_true rfl, Nat.le_of_ble_eq_true rfl⟩) hS ?_
        rintro _ _ locs ⟨x15, rfl, b16⟩ hS
        refine xi_zeq (tgt := 111) hx hb (rfl : Int32.toInt x15 = x15.toInt) dX10_queue_104 (by decide) (fun c17 => ?_) (fun c17 => ?_)
        · refine lv_iconst (v := 0) hx hb dX10_queue_111 (by decide) ?_
          exact x_riX hx hb hr hlk hQ (Nat.le_of_ble_eq_true rfl) (Nat.le_of_ble_eq_true rfl) hS dX10_queue_112 () ⟨_, rfl⟩ hT.nil
        · refine lv_iconst (v := 1) hx hb dX10_queue_107 (by decide) ?_
          refine lv_goto (tgt := 112) hx hb dX10_queue_108 (by decide) ?_
          exact x_riX hx hb hr hlk hQ (Nat.le_of_ble_eq_true rfl) (Nat.le_of_ble_eq_true rfl) hS dX10_queue_112 () ⟨_, rfl⟩ hT.nil
    · rw [hQ]
      exact nx_throw S hst hD9 hK hT hS (hK.2.2.1 12 _ rfl) hl.1 dX10_queue_15 dX10_queue_18 dX10_queue_19 dX10_queue_22 dX10_queue_25 hex (Nat.le_of_ble_eq_true rfl) (Nat.le_of_ble_eq_true rfl) (Nat.le_of_ble_eq_true rfl) (Nat.le_of_ble_eq_true rfl) hlk (Nat.le_of_ble_eq_true rfl) (Nat.le_of_ble_eq_true rfl)

abbrev rm_L_value : Room := { frames := 7, cells := 1, slots := 6, locals := 123 }
set_option maxRecDepth 100000 in
theorem mh_value : xcH yL_value cL_value 6 (some .int) [(0, 12, 15, 13)] 5 := ⟨⟨GT_mem 1315 rfl rfl, GT_mem 1314 (by decide +kernel) rfl, GT_mem 90 (by decide +kernel) rfl⟩, by decide +kernel⟩
set_option maxHeartbeats 4000000 in
set_option maxRecDepth 100000 in
theorem c_L_value (l : Launch) (hst : l.stackTraces = false) (E : XE) (K : Nat → Nat) (F : Nat → Nat → Nat) (G : XG) (qx : Nat) (p1 p2 p3 : Int32) (qo : Nat) (kx : K qx = 12) (ko : K qo = 14) : Met l yL_value (xwH yL_value cL_value 6 (some .int) [(0, 12, 15, 13)]) rm_L_value (va_Pc [.ref qx, .int p1, .int p2, .int p3, .ref qo] (XPn E K F G)) (XQ E (fun v (u : Unit) => ∃ r : Int32, v = .int r) (fun _ H => TW E K F G [] H)) 1 6 (xA E) := by
  refine x_enterH (by decide) (Nat.le_of_ble_eq_true rfl) ?_
  intro p e s m args below meth c Q S hr hlk htab hQ hP ls hl
  obtain ⟨⟨hz, hK, hT⟩, hD9⟩ := hP
  obtain ⟨hx, hb, -, -, -⟩ := id S
  obtain ⟨H, hT, hS, hgo⟩ : ∃ H : Heap, TW E K F G [] H ∧ va_S (xA E) s.heap H [] ∧ H = s.heap := ⟨_, hT, va_S.rf, rfl⟩
  rw [← hgo]
  have hl : lv_has ls 6 [(0, .ref qx), (1, .int p1), (2, .int p2), (3, .int p3), (4, .ref qo)] := hl
  refine lv_aload hx hb dL_value_0 (lv_at hl 4 rfl) ?_
  refine lv_iconst (v := 0) hx hb dL_value_2 (by decide) ?_
  refine lv_aload_n hx hb dL_value_3 rfl (lv_at hl 0 rfl) ?_
  refine lv_iload_n hx hb dL_value_4 rfl (lv_at hl 1 rfl) ?_
  refine lv_iload_n hx hb dL_value_5 rfl (lv_at hl 2 rfl) ?_
  refine lv_iload_n hx hb dL_value_6 rfl (lv_at hl 3 rfl) ?_
  refine x_cX (x_runVX (b := qx) (As := [.int p1, .int p2, .int p3]) (rest := [.int 0, .ref qo]) S (c_X10_value l E K F hst G qx p1 p2 p3 kx) mv_X10_value km_L_7 rfl rfl ⟨Nat.le_of_ble_eq_true rfl, Nat.le_of_ble_eq_true rfl⟩ (rc_12 hK hT kx) (fun _ => XPn.blind) (fun U hU hW => ⟨XP.at hK hz hS hT hU hW, XD.warm hW hD9⟩) rfl hl.1 (Nat.le_of_ble_eq_true rfl) dL_value_7 ⟨Nat.le_of_ble_eq_true rfl, Nat.le_of_ble_eq_true rfl⟩) hS ?_ ?_
  · intro q ce H locs hT hS hq hv hc
    refine vx_catch (own := RL) (name := NXN) (E := NXN) S.2.2.2.1 [] ⟨0, 12, 15, 13⟩ [] (by rw [htab]; rfl) (fun z hz => by cases hz) (by decide) (by decide) (S.2.2.2.2 _ (List.mem_cons_of_mem _ k_nx.2.2)) (va_Nw.use rfl hD9.2.2.2) hq hv hc ?_
    refine lv_astore (lv' := (5, .ref q) :: [(0, .ref qx), (1, .int p1), (2, .int p2), (3, .int p3), (4, .ref qo)]) hx hb dL_value_15 hl (by decide) rfl (fun ls hl => ?_)
    refine lv_iconst (v := 1) hx hb dL_value_17 (by decide) ?_
    exact x_ri hx hb hr hlk hQ (Nat.le_of_ble_eq_true rfl) (Nat.le_of_ble_eq_true rfl) hS dL_value_18 () ⟨_, rfl⟩ hT
  · rintro _ _ H locs ⟨r, rfl⟩ hT hS
    refine lv_i2l (v := r.toInt64) hx hb dL_value_10 rfl ?_
    refine as_14 S hK hT hS ko dL_value_11 (fun H locs hT hS => ?_)
    refine lv_goto (tgt := 19) hx hb dL_value_12 (by decide) ?_
    refine lv_iconst (v := 0) hx hb dL_value_19 (by decide) ?_
    exact x_ri hx hb hr hlk hQ (Nat.le_of_ble_eq_true rfl) (Nat.le_of_ble_eq_true rfl) hS dL_value_20 () ⟨_, rfl⟩ hT
abbrev rm_L_queue : Room := { frames := 7, cells := 1, slots := 6, locals := 122 }
set_option maxRecDepth 100000 in
theorem mh_queue : xcH yL_queue cL_queue 5 (some .int) [(0, 10, 13, 13)] 4 := ⟨⟨GT_mem 1388 rfl rfl, GT_mem 1387 (by decide +kernel) rfl, GT_mem 90 (by decide +kernel) rfl⟩, by decide +kernel⟩
set_option maxHeartbeats 4000000 in
set_option maxRecDepth 100000 in
theorem c_L_queue (l : Launch) (hst : l.stackTraces = false) (E : XE) (K : Nat → Nat) (F : Nat → Nat → Nat) (G : XG) (qx : Nat) (p1 p2 : Int32) (qo : Nat) (kx : K qx = 12) (ko : K qo = 14) : Met l yL_queue (xwH yL_queue cL_queue 5 (some .int) [(0, 10, 13, 13)]) rm_L_queue (va_Pc [.ref qx, .int p1, .int p2, .ref qo] (XPn E K F G)) (XQ E (fun v (u : Unit) => ∃ r : Int32, v = .int r) (fun _ H => TW E K F G [] H)) 1 6 (xA E) := by
  refine x_enterH (by decide) (Nat.le_of_ble_eq_true rfl) ?_
  intro p e s m args below meth c Q S hr hlk htab hQ hP ls hl
  obtain ⟨⟨hz, hK, hT⟩, hD9⟩ := hP
  obtain ⟨hx, hb, -, -, -⟩ := id S
  obtain ⟨H, hT, hS, hgo⟩ : ∃ H : Heap, TW E K F G [] H ∧ va_S (xA E) s.heap H [] ∧ H = s.heap := ⟨_, hT, va_S.rf, rfl⟩
  rw [← hgo]
  have hl : lv_has ls 5 [(0, .ref qx), (1, .int p1), (2, .int p2), (3, .ref qo)] := hl
  refine lv_aload_n hx hb dL_queue_0 rfl (lv_at hl 3 rfl) ?_
  refine lv_iconst (v := 0) hx hb dL_queue_1 (by decide) ?_
  refine lv_aload_n hx hb dL_queue_2 rfl (lv_at hl 0 rfl) ?_
  refine lv_iload_n hx hb dL_queue_3 rfl (lv_at hl 1 rfl) ?_
  refine lv_iload_n hx hb dL_queue_4 rfl (lv_at hl 2 rfl) ?_
  refine x_cX (x_runVX (b := qx) (As := [.int p1, .int p2]) (rest := [.int 0, .ref qo]) S (c_X10_queue l E K F hst G qx p1 p2 kx) mv_X10_queue km_L_15 rfl rfl ⟨Nat.le_of_ble_eq_true rfl, Nat.le_of_ble_eq_true rfl⟩ (rc_12 hK hT kx) (fun _ => XPn.blind) (fun U hU hW => ⟨XP.at hK hz hS hT hU hW, XD.warm hW hD9⟩) rfl hl.1 (Nat.le_of_ble_eq_true rfl) dL_queue_5 ⟨Nat.le_of_ble_eq_true rfl, Nat.le_of_ble_eq_true rfl⟩) hS ?_ ?_
  · intro q ce H locs hT hS hq hv hc
    refine vx_catch (own := RL) (name := NXN) (E := NXN) S.2.2.2.1 [] ⟨0, 10, 13, 13⟩ [] (by rw [htab]; rfl) (fun z hz => by cases hz) (by decide) (by decide) (S.2.2.2.2 _ (List.mem_cons_of_mem _ k_nx.2.2)) (va_Nw.use rfl hD9.2.2.2) hq hv hc ?_
    refine lv_astore (lv' := (4, .ref q) :: [(0, .ref qx), (1, .int p1), (2, .int p2), (3, .ref qo)]) hx hb dL_queue_13 hl (by decide) rfl (fun ls hl => ?_)
    refine lv_iconst (v := 1) hx hb dL_queue_15 (by decide) ?_
    exact x_ri hx hb hr hlk hQ (Nat.le_of_ble_eq_true rfl) (Nat.le_of_ble_eq_true rfl) hS dL_queue_16 () ⟨_, rfl⟩ hT
  · rintro _ _ H locs ⟨r, rfl⟩ hT hS
    refine lv_i2l (v := r.toInt64) hx hb dL_queue_8 rfl ?_
    refine as_14 S hK hT hS ko dL_queue_9 (fun H locs hT hS => ?_)
    refine lv_goto (tgt := 17) hx hb dL_queue_10 (by decide) ?_
    refine lv_iconst (v := 0) hx hb dL_queue_17 (by decide) ?_
    exact x_ri hx hb hr hlk hQ (Nat.le_of_ble_eq_true rfl) (Nat.le_of_ble_eq_true rfl) hS dL_queue_18 () ⟨_, rfl⟩ hT
