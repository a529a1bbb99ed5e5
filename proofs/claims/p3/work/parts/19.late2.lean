abbrev rm_X10_drop : Room := { frames := 7, cells := 1, slots := 100, locals := 166 }
set_option maxHeartbeats 4000000 in
set_option maxRecDepth 100000 in
theorem c_X10_drop (l : Launch) (E : XE) (K : Nat → Nat) (F : Nat → Nat → Nat) (G : XG) (a : Nat) (p0 : Int32) (ha : K a = 12) : Met l yX10_drop (xw yX10_drop cX10_drop 2 (some .int)) rm_X10_drop (va_Pc [.ref a, .int p0] (XP E K F G)) (XQ E (fun v (u : Unit) => ∃ r : Int32, v = .int r) (fun _ H => TW E K F G [] H)) 1 100 (xA E) := by
  refine x_enter (by decide) (Nat.le_of_ble_eq_true rfl) ?_
  intro p e s m args below meth c Q S hr hlk hnm hQ hP ls hl
  obtain ⟨hz, hK, hT⟩ := hP
  obtain ⟨hx, hb, -, -, -⟩ := id S
  obtain ⟨H, hT, hS, hgo⟩ : ∃ H : Heap, TW E K F G [] H ∧ va_S (xA E) s.heap H [] ∧ H = s.heap := ⟨_, hT, va_S.rf, rfl⟩
  rw [← hgo]
  have hl : lv_has ls 2 [(0, .ref a), (1, .int p0)] := hl
  refine lv_aload_n hx hb dX10_drop_0 rfl (lv_at hl 0 rfl) ?_
  refine gX10_14 S hK hT ha kf_X10_91 dX10_drop_1 (fun hk1 => ?_)
  refine x_cv (x_runV (b := (F a 14)) (As := []) (rest := []) S (c_X9_clear l E K F G (F a 14) hk1) mv_X9_clear km_X10_113 rfl rfl ⟨Nat.le_of_ble_eq_true rfl, Nat.le_of_ble_eq_true rfl⟩ (rc_11 hK hT hk1) hK (fun _ => XP.blind) (fun U hU hW => XP.at hK hz hS hT hU hW) rfl hl.1 (Nat.le_of_ble_eq_true rfl) dX10_drop_4 ⟨Nat.le_of_ble_eq_true rfl, Nat.le_of_ble_eq_true rfl⟩) hS ?_
  rintro _ H locs - hT hS
  refine lv_aload_n hx hb dX10_drop_7 rfl (lv_at hl 0 rfl) ?_
  refine gX10_2 S hK hT ha kf_X10_30 dX10_drop_8 (fun hk2 => ?_)
  refine lv_iload_n hx hb dX10_drop_11 rfl (lv_at hl 1 rfl) ?_
  refine x_clp (x_runV (b := (F a 2)) (As := [.int p0]) (rest := []) S (c_X0_get l E K F G H (F a 2) p0 hk2) mv_X0_get km_X10_159 rfl rfl ⟨Nat.le_of_ble_eq_true rfl, Nat.le_of_ble_eq_true rfl⟩ (rc_2 hK hT hk2) hK (fun _ => XPh.blind) (fun U hU hW => XPh.at hK hz hS hT hU hW) rfl hl.1 (Nat.le_of_ble_eq_true rfl) dX10_drop_12 ⟨Nat.le_of_ble_eq_true rfl, Nat.le_of_ble_eq_true rfl⟩) hS ?_
  rintro _ _ locs (rfl | ⟨q4, rfl, hk5⟩) hS
  · refine lv_ifnonnullN hx hb dX10_drop_15 ?_
    refine lv_bipush (v := (-2)) hx hb dX10_drop_18 (by decide) ?_
    exact x_ri hx hb hr hlk hQ (Nat.le_of_ble_eq_true rfl) (Nat.le_of_ble_eq_true rfl) hS dX10_drop_20 () ⟨_, rfl⟩ hT.nil
  · refine lv_ifnonnull (tgt := 21) hx hb dX10_drop_15 (by decide) ?_
    refine lv_aload_n hx hb dX10_drop_21 rfl (lv_at hl 0 rfl) ?_
    refine gX10_18 S hK hT ha kf_X10_123 dX10_drop_22 (fun x6 hT => ?_)
    refine xi_zeq (tgt := 31) hx hb (rfl : Int32.toInt x6 = x6.toInt) dX10_drop_25 (by decide) (fun c7 => ?_) (fun c7 => ?_)
    · refine lv_aload_n hx hb dX10_drop_31 rfl (lv_at hl 0 rfl) ?_
      refine gX10_2 S hK hT ha kf_X10_30 dX10_drop_32 (fun hk8 => ?_)
      refine lv_iload_n hx hb dX10_drop_35 rfl (lv_at hl 1 rfl) ?_
      refine x_cv0 (x_runV (b := (F a 2)) (As := [.int p0]) (rest := []) S (c_X0_strike l E K F G (F a 2) p0 hk8) mv_X0_strike km_X10_163 rfl rfl ⟨Nat.le_of_ble_eq_true rfl, Nat.le_of_ble_eq_true rfl⟩ (rc_2 hK hT hk8) hK (fun _ => XP.blind) (fun U hU hW => XP.at hK hz hS hT hU hW) rfl hl.1 (Nat.le_of_ble_eq_true rfl) dX10_drop_36 ⟨Nat.le_of_ble_eq_true rfl, Nat.le_of_ble_eq_true rfl⟩) hS ?_
      rintro _ H locs - hT hS
      refine lv_aload_n hx hb dX10_drop_39 rfl (lv_at hl 0 rfl) ?_
      refine gX10_2 S hK hT ha kf_X10_30 dX10_drop_40 (fun hk9 => ?_)
      refine x_clp (x_runV (b := (F a 2)) (As := []) (rest := []) S (c_X0_size l E K F G H (F a 2) hk9) mv_X0_size km_X10_167 rfl rfl ⟨Nat.le_of_ble_eq_true rfl, Nat.le_of_ble_eq_true rfl⟩ (rc_2 hK hT hk9) hK (fun _ => XPh.blind) (fun U hU hW => XPh.at hK hz hS hT hU hW) rfl hl.1 (Nat.le_of_ble_eq_true rfl) dX10_drop_43 ⟨Nat.le_of_ble_eq_true rfl, Nat.le_of_ble_eq_true rfl⟩) hS ?_
      rintro _ _ locs ⟨x10, rfl⟩ hS
      exact x_ri hx hb hr hlk hQ (Nat.le_of_ble_eq_true rfl) (Nat.le_of_ble_eq_true rfl) hS dX10_drop_46 () ⟨_, rfl⟩ hT.nil
    · refine lv_bipush (v := (-3)) hx hb dX10_drop_28 (by decide) ?_
      exact x_ri hx hb hr hlk hQ (Nat.le_of_ble_eq_true rfl) (Nat.le_of_ble_eq_true rfl) hS dX10_drop_30 () ⟨_, rfl⟩ hT.nil

abbrev rm_X10_later : Room := { frames := 9, cells := 8, slots := 800, locals := 216 }
set_option maxHeartbeats 4000000 in
set_option maxRecDepth 100000 in
theorem c_X10_later (l : Launch) (E : XE) (K : Nat → Nat) (F : Nat → Nat → Nat) (G : XG) (a : Nat) (p0 : Int32) (p1 : Int32) (ha : K a = 12) (b1 : p1 = 0 ∨ p1 = 1) : Met l yX10_later (xw yX10_later cX10_later 4 (some .int)) rm_X10_later (va_Pc [.ref a, .int p0, .int p1] (XP E K F G)) (XQ E (fun v (u : Unit) => ∃ r : Int32, v = .int r) (fun _ H => TW E K F G [] H)) 8 800 (xA E) := by
  refine x_enter (by decide) (Nat.le_of_ble_eq_true rfl) ?_
  intro p e s m args below meth c Q S hr hlk hnm hQ hP ls hl
  obtain ⟨hz, hK, hT⟩ := hP
  obtain ⟨hx, hb, -, -, -⟩ := id S
  obtain ⟨H, hT, hS, hgo⟩ : ∃ H : Heap, TW E K F G [] H ∧ va_S (xA E) s.heap H [] ∧ H = s.heap := ⟨_, hT, va_S.rf, rfl⟩
  rw [← hgo]
  have hl : lv_has ls 4 [(0, .ref a), (1, .int p0), (2, .int p1)] := hl
  refine lv_aload_n hx hb dX10_later_0 rfl (lv_at hl 0 rfl) ?_
  refine gX10_14 S hK hT ha kf_X10_91 dX10_later_1 (fun hk1 => ?_)
  refine x_cv (x_runV (b := (F a 14)) (As := []) (rest := []) S (c_X9_clear l E K F G (F a 14) hk1) mv_X9_clear km_X10_113 rfl rfl ⟨Nat.le_of_ble_eq_true rfl, Nat.le_of_ble_eq_true rfl⟩ (rc_11 hK hT hk1) hK (fun _ => XP.blind) (fun U hU hW => XP.at hK hz hS hT hU hW) rfl hl.1 (Nat.le_of_ble_eq_true rfl) dX10_later_4 ⟨Nat.le_of_ble_eq_true rfl, Nat.le_of_ble_eq_true rfl⟩) hS ?_
  rintro _ H locs - hT hS
  refine lv_aload_n hx hb dX10_later_7 rfl (lv_at hl 0 rfl) ?_
  refine gX10_2 S hK hT ha kf_X10_30 dX10_later_8 (fun hk2 => ?_)
  refine lv_iload_n hx hb dX10_later_11 rfl (lv_at hl 1 rfl) ?_
  refine x_clp (x_runV (b := (F a 2)) (As := [.int p0]) (rest := []) S (c_X0_get l E K F G H (F a 2) p0 hk2) mv_X0_get km_X10_159 rfl rfl ⟨Nat.le_of_ble_eq_true rfl, Nat.le_of_ble_eq_true rfl⟩ (rc_2 hK hT hk2) hK (fun _ => XPh.blind) (fun U hU hW => XPh.at hK hz hS hT hU hW) rfl hl.1 (Nat.le_of_ble_eq_true rfl) dX10_later_12 ⟨Nat.le_of_ble_eq_true rfl, Nat.le_of_ble_eq_true rfl⟩) hS ?_
  rintro _ _ locs (rfl | ⟨q4, rfl, hk5⟩) hS
  · refine lv_astore_nN (lv' := [(3, .null), (0, .ref a), (1, .int p0), (2, .int p1)]) hx hb dX10_later_15 rfl hl (by decide) rfl (fun ls hl => ?_)
    refine lv_aload_nN hx hb dX10_later_16 rfl (lv_at hl 0 rfl) ?_
    refine lv_ifnonnullN hx hb dX10_later_17 ?_
    refine lv_bipush (v := (-2)) hx hb dX10_later_20 (by decide) ?_
    exact x_ri hx hb hr hlk hQ (Nat.le_of_ble_eq_true rfl) (Nat.le_of_ble_eq_true rfl) hS dX10_later_22 () ⟨_, rfl⟩ hT.nil
  · refine lv_astore_n (lv' := [(3, .ref q4), (0, .ref a), (1, .int p0), (2, .int p1)]) hx hb dX10_later_15 rfl hl (by decide) rfl (fun ls hl => ?_)
    refine lv_aload_n hx hb dX10_later_16 rfl (lv_at hl 0 rfl) ?_
    refine lv_ifnonnull (tgt := 23) hx hb dX10_later_17 (by decide) ?_
    refine lv_aload_n hx hb dX10_later_23 rfl (lv_at hl 0 rfl) ?_
    refine gX7_9 S hK hT hk5 kf_X10_170 dX10_later_24 (fun x6 hT => ?_)
    refine lv_iload_n hx hb dX10_later_27 rfl (lv_at hl 3 rfl) ?_
    refine xi_cne (tgt := 34) hx hb (rfl : Int32.toInt x6 = x6.toInt) (rfl : Int32.toInt p1 = p1.toInt) dX10_later_28 (by decide) (fun c7 => ?_) (fun c7 => ?_)
    · refine lv_iload_n hx hb dX10_later_34 rfl (lv_at hl 3 rfl) ?_
      refine xi_zeq (tgt := 44) hx hb (rfl : Int32.toInt p1 = p1.toInt) dX10_later_35 (by decide) (fun c8 => ?_) (fun c8 => ?_)
      · refine lv_aload_n hx hb dX10_later_44 rfl (lv_at hl 1 rfl) ?_
        refine lv_aload_n hx hb dX10_later_45 rfl (lv_at hl 0 rfl) ?_
        refine x_cl (x_runV (b := a) (As := [.ref q4]) (rest := []) S (c_X10_becomePrompt l E K F G a q4 ha hk5) mv_X10_becomePrompt km_X10_176 rfl rfl ⟨Nat.le_of_ble_eq_true rfl, Nat.le_of_ble_eq_true rfl⟩ (rc_12 hK hT ha) hK (fun _ => XP.blind) (fun U hU hW => XP.at hK hz hS hT hU hW) rfl hl.1 (Nat.le_of_ble_eq_true rfl) dX10_later_46 ⟨Nat.le_of_ble_eq_true rfl, Nat.le_of_ble_eq_true rfl⟩) hS ?_
        rintro _ _ H locs ⟨x9, rfl⟩ hT hS
        exact x_ri hx hb hr hlk hQ (Nat.le_of_ble_eq_true rfl) (Nat.le_of_ble_eq_true rfl) hS dX10_later_49 () ⟨_, rfl⟩ hT.nil
      · refine lv_aload_n hx hb dX10_later_38 rfl (lv_at hl 1 rfl) ?_
        refine lv_aload_n hx hb dX10_later_39 rfl (lv_at hl 0 rfl) ?_
        refine x_cl0 (x_runV (b := a) (As := [.ref q4]) (rest := []) S (c_X10_becomeLate l E K F G a q4 ha hk5) mv_X10_becomeLate km_X10_173 rfl rfl ⟨Nat.le_of_ble_eq_true rfl, Nat.le_of_ble_eq_true rfl⟩ (rc_12 hK hT ha) hK (fun _ => XP.blind) (fun U hU hW => XP.at hK hz hS hT hU hW) rfl hl.1 (Nat.le_of_ble_eq_true rfl) dX10_later_40 ⟨Nat.le_of_ble_eq_true rfl, Nat.le_of_ble_eq_true rfl⟩) hS ?_
        rintro _ _ H locs ⟨x10, rfl⟩ hT hS
        exact x_ri hx hb hr hlk hQ (Nat.le_of_ble_eq_true rfl) (Nat.le_of_ble_eq_true rfl) hS dX10_later_43 () ⟨_, rfl⟩ hT.nil
    · refine lv_bipush (v := (-4)) hx hb dX10_later_31 (by decide) ?_
      exact x_ri hx hb hr hlk hQ (Nat.le_of_ble_eq_true rfl) (Nat.le_of_ble_eq_true rfl) hS dX10_later_33 () ⟨_, rfl⟩ hT.nil

abbrev rm_X10_put : Room := { frames := 10, cells := 15, slots := 1500, locals := 236 }
set_option maxHeartbeats 4000000 in
set_option maxRecDepth 100000 in
theorem c_X10_put (l : Launch) (E : XE) (K : Nat → Nat) (F : Nat → Nat → Nat) (G : XG) (a : Nat) (p0 : Int32) (p1 : Int32) (p2 : Int32) (p3 : Int32) (p4 : Int32) (ha : K a = 12) : Met l yX10_put (xw yX10_put cX10_put 6 (some .int)) rm_X10_put (va_Pc [.ref a, .int p0, .int p1, .int p2, .int p3, .int p4] (XP E K F G)) (XQ E (fun v (u : Unit) => ∃ r : Int32, v = .int r) (fun _ H => TW E K F G [] H)) 15 1500 (xA E) := by
  refine x_enter (by decide) (Nat.le_of_ble_eq_true rfl) ?_
  intro p e s m args below meth c Q S hr hlk hnm hQ hP ls hl
  obtain ⟨hz, hK, hT⟩ := hP
  obtain ⟨hx, hb, -, -, -⟩ := id S
  obtain ⟨H, hT, hS, hgo⟩ : ∃ H : Heap, TW E K F G [] H ∧ va_S (xA E) s.heap H [] ∧ H = s.heap := ⟨_, hT, va_S.rf, rfl⟩
  rw [← hgo]
  have hl : lv_has ls 6 [(0, .ref a), (1, .int p0), (2, .int p1), (3, .int p2), (4, .int p3), (5, .int p4)] := hl
  refine lv_aload_n hx hb dX10_put_0 rfl (lv_at hl 0 rfl) ?_
  refine gX10_14 S hK hT ha kf_X10_91 dX10_put_1 (fun hk1 => ?_)
  refine x_cv (x_runV (b := (F a 14)) (As := []) (rest := []) S (c_X9_clear l E K F G (F a 14) hk1) mv_X9_clear km_X10_113 rfl rfl ⟨Nat.le_of_ble_eq_true rfl, Nat.le_of_ble_eq_true rfl⟩ (rc_11 hK hT hk1) hK (fun _ => XP.blind) (fun U hU hW => XP.at hK hz hS hT hU hW) rfl hl.1 (Nat.le_of_ble_eq_true rfl) dX10_put_4 ⟨Nat.le_of_ble_eq_true rfl, Nat.le_of_ble_eq_true rfl⟩) hS ?_
  rintro _ H locs - hT hS
  refine lv_iload_n hx hb dX10_put_7 rfl (lv_at hl 1 rfl) ?_
  refine x_clp (x_runS (As := [.int p0]) (rest := []) S (c_X10_isTable l E K F G H p0) ms_X10_isTable km_X10_179 rfl rfl ⟨Nat.le_of_ble_eq_true rfl, Nat.le_of_ble_eq_true rfl⟩ hK (fun _ => XPh.blind) (fun U hU hW => XPh.at hK hz hS hT hU hW) rfl hl.1 (Nat.le_of_ble_eq_true rfl) dX10_put_8 ⟨Nat.le_of_ble_eq_true rfl, Nat.le_of_ble_eq_true rfl⟩) hS ?_
  rintro _ _ locs ⟨x2, rfl, b3, t4⟩ hS
  have t4 : (x2.toInt = 1 ∧ 0 ≤ p0.toInt ∧ p0.toInt < 3) ∨ (x2.toInt = 0 ∧ (p0.toInt < 0 ∨ 3 ≤ p0.toInt)) := t4
  have J44 : ∀ (H : Heap) (locs : List Loc) (ls : Array Slot), TW E K F G [] H → va_S (xA E) s.heap H locs → lv_has ls 6 [(0, .ref a)] → W p l e rm_X10_put s m args below meth c H locs 1 100 Q (F0 m 44 ls []) := by
    intro H locs ls hT hS hl
    refine lv_aload_n hx hb dX10_put_44 rfl (lv_at hl 0 rfl) ?_
    refine lv_iconst (v := (-1)) hx hb dX10_put_45 (by decide) ?_
    refine x_cl0 (x_runV (b := a) (As := [.int (-1)]) (rest := []) S (c_X10_refuseAct l E K F G a (-1) ha) mv_X10_refuseAct km_X10_188 rfl rfl ⟨Nat.le_of_ble_eq_true rfl, Nat.le_of_ble_eq_true rfl⟩ (rc_12 hK hT ha) hK (fun _ => XP.blind) (fun U hU hW => XP.at hK hz hS hT hU hW) rfl hl.1 (Nat.le_of_ble_eq_true rfl) dX10_put_46 ⟨Nat.le_of_ble_eq_true rfl, Nat.le_of_ble_eq_true rfl⟩) hS ?_
    rintro _ _ H locs ⟨x5, rfl⟩ hT hS
    exact x_ri hx hb hr hlk hQ (Nat.le_of_ble_eq_true rfl) (Nat.le_of_ble_eq_true rfl) hS dX10_put_49 () ⟨_, rfl⟩ hT.nil
  refine xi_zeq (tgt := 44) hx hb (rfl : Int32.toInt x2 = x2.toInt) dX10_put_11 (by decide) (fun c6 => ?_) (fun c6 => ?_)
  · exact J44 _ _ _ hT.nil hS (lv_sub hl [0] rfl)
  · refine lv_iload_n hx hb dX10_put_14 rfl (lv_at hl 2 rfl) ?_
    refine x_clp (x_runS (As := [.int p1]) (rest := []) S (c_X10_isKey l E K F G H p1) ms_X10_isKey km_X10_182 rfl rfl ⟨Nat.le_of_ble_eq_true rfl, Nat.le_of_ble_eq_true rfl⟩ hK (fun _ => XPh.blind) (fun U hU hW => XPh.at hK hz hS hT hU hW) rfl hl.1 (Nat.le_of_ble_eq_true rfl) dX10_put_15 ⟨Nat.le_of_ble_eq_true rfl, Nat.le_of_ble_eq_true rfl⟩) hS ?_
    rintro _ _ locs ⟨x7, rfl, b8, t9⟩ hS
    have t9 : (x7.toInt = 1 ∧ 0 ≤ p1.toInt ∧ p1.toInt < 30) ∨ (x7.toInt = 0 ∧ (p1.toInt < 0 ∨ 30 ≤ p1.toInt)) := t9
    refine xi_zeq (tgt := 44) hx hb (rfl : Int32.toInt x7 = x7.toInt) dX10_put_18 (by decide) (fun c10 => ?_) (fun c10 => ?_)
    · exact J44 _ _ _ hT.nil hS (lv_sub hl [0] rfl)
    · refine lv_iload_n hx hb dX10_put_21 rfl (lv_at hl 3 rfl) ?_
      refine x_clp (x_runS (As := [.int p2]) (rest := []) S (c_X10_isValue l E K F G H p2) ms_X10_isValue km_X10_185 rfl rfl ⟨Nat.le_of_ble_eq_true rfl, Nat.le_of_ble_eq_true rfl⟩ hK (fun _ => XPh.blind) (fun U hU hW => XPh.at hK hz hS hT hU hW) rfl hl.1 (Nat.le_of_ble_eq_true rfl) dX10_put_22 ⟨Nat.le_of_ble_eq_true rfl, Nat.le_of_ble_eq_true rfl⟩) hS ?_
      rintro _ _ locs ⟨x11, rfl, b12⟩ hS
      refine xi_zeq (tgt := 44) hx hb (rfl : Int32.toInt x11 = x11.toInt) dX10_put_25 (by decide) (fun c13 => ?_) (fun c13 => ?_)
      · exact J44 _ _ _ hT.nil hS (lv_sub hl [0] rfl)
      · refine lv_iload hx hb dX10_put_28 (lv_at hl 4 rfl) ?_
        refine x_clp (x_runS (As := [.int p3]) (rest := []) S (c_X10_isValue l E K F G H p3) ms_X10_isValue km_X10_185 rfl rfl ⟨Nat.le_of_ble_eq_true rfl, Nat.le_of_ble_eq_true rfl⟩ hK (fun _ => XPh.blind) (fun U hU hW => XPh.at hK hz hS hT hU hW) rfl hl.1 (Nat.le_of_ble_eq_true rfl) dX10_put_30 ⟨Nat.le_of_ble_eq_true rfl, Nat.le_of_ble_eq_true rfl⟩) hS ?_
        rintro _ _ locs ⟨x14, rfl, b15⟩ hS
        refine xi_zeq (tgt := 44) hx hb (rfl : Int32.toInt x14 = x14.toInt) dX10_put_33 (by decide) (fun c16 => ?_) (fun c16 => ?_)
        · exact J44 _ _ _ hT.nil hS (lv_sub hl [0] rfl)
        · refine lv_iload hx hb dX10_put_36 (lv_at hl 5 rfl) ?_
          refine x_clp (x_runS (As := [.int p4]) (rest := []) S (c_X10_isValue l E K F G H p4) ms_X10_isValue km_X10_185 rfl rfl ⟨Nat.le_of_ble_eq_true rfl, Nat.le_of_ble_eq_true rfl⟩ hK (fun _ => XPh.blind) (fun U hU hW => XPh.at hK hz hS hT hU hW) rfl hl.1 (Nat.le_of_ble_eq_true rfl) dX10_put_38 ⟨Nat.le_of_ble_eq_true rfl, Nat.le_of_ble_eq_true rfl⟩) hS ?_
          rintro _ _ locs ⟨x17, rfl, b18⟩ hS
          refine xi_zne (tgt := 50) hx hb (rfl : Int32.toInt x17 = x17.toInt) dX10_put_41 (by decide) (fun c19 => ?_) (fun c19 => ?_)
          · refine lv_aload_n hx hb dX10_put_50 rfl (lv_at hl 0 rfl) ?_
            refine gX10_3 S hK hT ha kf_X10_37 dX10_put_51 (fun hk20 => ?_)
            refine lv_iload_n hx hb dX10_put_54 rfl (lv_at hl 1 rfl) ?_
            refine lv_iload_n hx hb dX10_put_55 rfl (lv_at hl 2 rfl) ?_
            refine x_clp (x_runV (b := (F a 3)) (As := [.int p0, .int p1]) (rest := []) S (c_X6_has l E K F G H (F a 3) p0 p1 hk20) mv_X6_has km_X10_191 rfl rfl ⟨Nat.le_of_ble_eq_true rfl, Nat.le_of_ble_eq_true rfl⟩ (rc_8 hK hT hk20) hK (fun _ => XPh.blind) (fun U hU hW => XPh.at hK hz hS hT hU hW) rfl hl.1 (Nat.le_of_ble_eq_true rfl) dX10_put_56 ⟨Nat.le_of_ble_eq_true rfl, Nat.le_of_ble_eq_true rfl⟩) hS ?_
            rintro _ _ locs ⟨x21, rfl, b22, t23⟩ hS
            have t23 : x21.toInt = 0 ∨ (x21.toInt = 1 ∧ 0 ≤ p0.toInt ∧ p0.toInt < 3 ∧ 0 ≤ p1.toInt ∧ p1.toInt < 30) := t23
            refine xi_zeq (tgt := 69) hx hb (rfl : Int32.toInt x21 = x21.toInt) dX10_put_59 (by decide) (fun c24 => ?_) (fun c24 => ?_)
            · refine lv_aload_n hx hb dX10_put_69 rfl (lv_at hl 0 rfl) ?_
              refine gX10_5 S hK hT ha kf_X10_44 dX10_put_70 (fun hk25 => ?_)
              refine lv_aload_n hx hb dX10_put_73 rfl (lv_at hl 0 rfl) ?_
              refine gX10_3 S hK hT ha kf_X10_37 dX10_put_74 (fun hk26 => ?_)
              refine x_cv0 (x_runV (b := (F a 5)) (As := [.ref (F a 3)]) (rest := []) S (c_X6_copy l E K F G (F a 5) (F a 3) hk25 hk26) mv_X6_copy km_X10_195 rfl rfl ⟨Nat.le_of_ble_eq_true rfl, Nat.le_of_ble_eq_true rfl⟩ (rc_8 hK hT hk25) hK (fun _ => XP.blind) (fun U hU hW => XP.at hK hz hS hT hU hW) rfl hl.1 (Nat.le_of_ble_eq_true rfl) dX10_put_77 ⟨Nat.le_of_ble_eq_true rfl, Nat.le_of_ble_eq_true rfl⟩) hS ?_
              rintro _ H locs - hT hS
              refine lv_aload_n hx hb dX10_put_80 rfl (lv_at hl 0 rfl) ?_
              refine gX10_5 S hK hT ha kf_X10_44 dX10_put_81 (fun hk27 => ?_)
              refine lv_iload_n hx hb dX10_put_84 rfl (lv_at hl 1 rfl) ?_
              refine lv_iload_n hx hb dX10_put_85 rfl (lv_at hl 2 rfl) ?_
              refine x_cv0 (x_runV (b := (F a 5)) (As := [.int p0, .int p1]) (rest := []) S (c_X6_add l E K F G (F a 5) p0 p1 hk27) mv_X6_add km_X10_199 rfl rfl ⟨Nat.le_of_ble_eq_true rfl, Nat.le_of_ble_eq_true rfl⟩ (rc_8 hK hT hk27) hK (fun _ => XP.blind) (fun U hU hW => XP.at hK hz hS hT hU hW) rfl hl.1 (Nat.le_of_ble_eq_true rfl) dX10_put_86 ⟨Nat.le_of_ble_eq_true rfl, Nat.le_of_ble_eq_true rfl⟩) hS ?_
              rintro _ H locs - hT hS
              refine lv_aload_n hx hb dX10_put_89 rfl (lv_at hl 0 rfl) ?_
              refine gX10_5 S hK hT ha kf_X10_44 dX10_put_90 (fun hk28 => ?_)
              refine lv_iload_n hx hb dX10_put_93 rfl (lv_at hl 1 rfl) ?_
              refine lv_iload_n hx hb dX10_put_94 rfl (lv_at hl 2 rfl) ?_
              refine lv_iconst (v := 0) hx hb dX10_put_95 (by decide) ?_
              refine lv_iload_n hx hb dX10_put_96 rfl (lv_at hl 3 rfl) ?_
              refine x_cv0 (x_runV (b := (F a 5)) (As := [.int p0, .int p1, .int 0, .int p2]) (rest := []) S (c_X6_change l E K F G (F a 5) p0 p1 0 p2 hk28) mv_X6_change km_X10_203 rfl rfl ⟨Nat.le_of_ble_eq_true rfl, Nat.le_of_ble_eq_true rfl⟩ (rc_8 hK hT hk28) hK (fun _ => XP.blind) (fun U hU hW => XP.at hK hz hS hT hU hW) rfl hl.1 (Nat.le_of_ble_eq_true rfl) dX10_put_97 ⟨Nat.le_of_ble_eq_true rfl, Nat.le_of_ble_eq_true rfl⟩) hS ?_
              rintro _ H locs - hT hS
              refine lv_aload_n hx hb dX10_put_100 rfl (lv_at hl 0 rfl) ?_
              refine gX10_5 S hK hT ha kf_X10_44 dX10_put_101 (fun hk29 => ?_)
              refine lv_iload_n hx hb dX10_put_104 rfl (lv_at hl 1 rfl) ?_
              refine lv_iload_n hx hb dX10_put_105 rfl (lv_at hl 2 rfl) ?_
              refine lv_iconst (v := 1) hx hb dX10_put_106 (by decide) ?_
              refine lv_iload hx hb dX10_put_107 (lv_at hl 4 rfl) ?_
              refine x_cv0 (x_runV (b := (F a 5)) (As := [.int p0, .int p1, .int 1, .int p3]) (rest := []) S (c_X6_change l E K F G (F a 5) p0 p1 1 p3 hk29) mv_X6_change km_X10_203 rfl rfl ⟨Nat.le_of_ble_eq_true rfl, Nat.le_of_ble_eq_true rfl⟩ (rc_8 hK hT hk29) hK (fun _ => XP.blind) (fun U hU hW => XP.at hK hz hS hT hU hW) rfl hl.1 (Nat.le_of_ble_eq_true rfl) dX10_put_109 ⟨Nat.le_of_ble_eq_true rfl, Nat.le_of_ble_eq_true rfl⟩) hS ?_
              rintro _ H locs - hT hS
              refine lv_aload_n hx hb dX10_put_112 rfl (lv_at hl 0 rfl) ?_
              refine gX10_5 S hK hT ha kf_X10_44 dX10_put_113 (fun hk30 => ?_)
              refine lv_iload_n hx hb dX10_put_116 rfl (lv_at hl 1 rfl) ?_
              refine lv_iload_n hx hb dX10_put_117 rfl (lv_at hl 2 rfl) ?_
              refine lv_iconst (v := 2) hx hb dX10_put_118 (by decide) ?_
              refine lv_iload hx hb dX10_put_119 (lv_at hl 5 rfl) ?_
              refine x_cv0 (x_runV (b := (F a 5)) (As := [.int p0, .int p1, .int 2, .int p4]) (rest := []) S (c_X6_change l E K F G (F a 5) p0 p1 2 p4 hk30) mv_X6_change km_X10_203 rfl rfl ⟨Nat.le_of_ble_eq_true rfl, Nat.le_of_ble_eq_true rfl⟩ (rc_8 hK hT hk30) hK (fun _ => XP.blind) (fun U hU hW => XP.at hK hz hS hT hU hW) rfl hl.1 (Nat.le_of_ble_eq_true rfl) dX10_put_121 ⟨Nat.le_of_ble_eq_true rfl, Nat.le_of_ble_eq_true rfl⟩) hS ?_
              rintro _ H locs - hT hS
              refine lv_aload_n hx hb dX10_put_124 rfl (lv_at hl 0 rfl) ?_
              refine x_cl (x_runV (b := a) (As := []) (rest := []) S (c_X10_actAsOnPaper l E K F G a ha) mv_X10_actAsOnPaper km_X10_207 rfl rfl ⟨Nat.le_of_ble_eq_true rfl, Nat.le_of_ble_eq_true rfl⟩ (rc_12 hK hT ha) hK (fun _ => XP.blind) (fun U hU hW => XP.at hK hz hS hT hU hW) rfl hl.1 (Nat.le_of_ble_eq_true rfl) dX10_put_125 ⟨Nat.le_of_ble_eq_true rfl, Nat.le_of_ble_eq_true rfl⟩) hS ?_
              rintro _ _ H locs ⟨x31, rfl⟩ hT hS
              exact x_ri hx hb hr hlk hQ (Nat.le_of_ble_eq_true rfl) (Nat.le_of_ble_eq_true rfl) hS dX10_put_128 () ⟨_, rfl⟩ hT.nil
            · refine lv_aload_n hx hb dX10_put_62 rfl (lv_at hl 0 rfl) ?_
              refine lv_bipush (v := (-4)) hx hb dX10_put_63 (by decide) ?_
              refine x_cl0 (x_runV (b := a) (As := [.int (-4)]) (rest := []) S (c_X10_refuseAct l E K F G a (-4) ha) mv_X10_refuseAct km_X10_188 rfl rfl ⟨Nat.le_of_ble_eq_true rfl, Nat.le_of_ble_eq_true rfl⟩ (rc_12 hK hT ha) hK (fun _ => XP.blind) (fun U hU hW => XP.at hK hz hS hT hU hW) rfl hl.1 (Nat.le_of_ble_eq_true rfl) dX10_put_65 ⟨Nat.le_of_ble_eq_true rfl, Nat.le_of_ble_eq_true rfl⟩) hS ?_
              rintro _ _ H locs ⟨x32, rfl⟩ hT hS
              exact x_ri hx hb hr hlk hQ (Nat.le_of_ble_eq_true rfl) (Nat.le_of_ble_eq_true rfl) hS dX10_put_68 () ⟨_, rfl⟩ hT.nil
          · exact J44 _ _ _ hT.nil hS (lv_sub hl [0] rfl)

abbrev rm_X10_set : Room := { frames := 10, cells := 15, slots := 1500, locals := 236 }
set_option maxHeartbeats 4000000 in
set_option maxRecDepth 100000 in
theorem c_X10_set (l : Launch) (E : XE) (K : Nat → Nat) (F : Nat → Nat → Nat) (G : XG) (a : Nat) (p0 : Int32) (p1 : Int32) (p2 : Int32) (p3 : Int32) (ha : K a = 12) : Met l yX10_set (xw yX10_set cX10_set 6 (some .int)) rm_X10_set (va_Pc [.ref a, .int p0, .int p1, .int p2, .int p3] (XP E K F G)) (XQ E (fun v (u : Unit) => ∃ r : Int32, v = .int r) (fun _ H => TW E K F G [] H)) 15 1500 (xA E) := by
  refine x_enter (by decide) (Nat.le_of_ble_eq_true rfl) ?_
  intro p e s m args below meth c Q S hr hlk hnm hQ hP ls hl
  obtain ⟨hz, hK, hT⟩ := hP
  obtain ⟨hx, hb, -, -, -⟩ := id S
  obtain ⟨H, hT, hS, hgo⟩ : ∃ H : Heap, TW E K F G [] H ∧ va_S (xA E) s.heap H [] ∧ H = s.heap := ⟨_, hT, va_S.rf, rfl⟩
  rw [← hgo]
  have hl : lv_has ls 6 [(0, .ref a), (1, .int p0), (2, .int p1), (3, .int p2), (4, .int p3)] := hl
  refine lv_aload_n hx hb dX10_set_0 rfl (lv_at hl 0 rfl) ?_
  refine gX10_14 S hK hT ha kf_X10_91 dX10_set_1 (fun hk1 => ?_)
  refine x_cv (x_runV (b := (F a 14)) (As := []) (rest := []) S (c_X9_clear l E K F G (F a 14) hk1) mv_X9_clear km_X10_113 rfl rfl ⟨Nat.le_of_ble_eq_true rfl, Nat.le_of_ble_eq_true rfl⟩ (rc_11 hK hT hk1) hK (fun _ => XP.blind) (fun U hU hW => XP.at hK hz hS hT hU hW) rfl hl.1 (Nat.le_of_ble_eq_true rfl) dX10_set_4 ⟨Nat.le_of_ble_eq_true rfl, Nat.le_of_ble_eq_true rfl⟩) hS ?_
  rintro _ H locs - hT hS
  refine lv_aload_n hx hb dX10_set_7 rfl (lv_at hl 0 rfl) ?_
  refine lv_iload_n hx hb dX10_set_8 rfl (lv_at hl 1 rfl) ?_
  refine lv_iload_n hx hb dX10_set_9 rfl (lv_at hl 2 rfl) ?_
  refine lv_iload_n hx hb dX10_set_10 rfl (lv_at hl 3 rfl) ?_
  refine lv_iload hx hb dX10_set_11 (lv_at hl 4 rfl) ?_
  refine x_cl0 (x_runV (b := a) (As := [.int p0, .int p1, .int p2, .int p3]) (rest := []) S (c_X10_setOnPaper l E K F G a p0 p1 p2 p3 ha) mv_X10_setOnPaper km_X10_210 rfl rfl ⟨Nat.le_of_ble_eq_true rfl, Nat.le_of_ble_eq_true rfl⟩ (rc_12 hK hT ha) hK (fun _ => XP.blind) (fun U hU hW => XP.at hK hz hS hT hU hW) rfl hl.1 (Nat.le_of_ble_eq_true rfl) dX10_set_13 ⟨Nat.le_of_ble_eq_true rfl, Nat.le_of_ble_eq_true rfl⟩) hS ?_
  rintro _ _ H locs ⟨x2, rfl⟩ hT hS
  refine lv_istore (lv' := [(5, .int x2), (0, .ref a), (1, .int p0), (2, .int p1), (3, .int p2), (4, .int p3)]) hx hb dX10_set_16 hl (by decide) rfl (fun ls hl => ?_)
  refine lv_iload hx hb dX10_set_18 (lv_at hl 0 rfl) ?_
  refine xi_zge (tgt := 32) hx hb (rfl : Int32.toInt x2 = x2.toInt) dX10_set_20 (by decide) (fun c3 => ?_) (fun c3 => ?_)
  · refine lv_aload_n hx hb dX10_set_32 rfl (lv_at hl 1 rfl) ?_
    refine x_cl (x_runV (b := a) (As := []) (rest := []) S (c_X10_actAsOnPaper l E K F G a ha) mv_X10_actAsOnPaper km_X10_207 rfl rfl ⟨Nat.le_of_ble_eq_true rfl, Nat.le_of_ble_eq_true rfl⟩ (rc_12 hK hT ha) hK (fun _ => XP.blind) (fun U hU hW => XP.at hK hz hS hT hU hW) rfl hl.1 (Nat.le_of_ble_eq_true rfl) dX10_set_33 ⟨Nat.le_of_ble_eq_true rfl, Nat.le_of_ble_eq_true rfl⟩) hS ?_
    rintro _ _ H locs ⟨x4, rfl⟩ hT hS
    exact x_ri hx hb hr hlk hQ (Nat.le_of_ble_eq_true rfl) (Nat.le_of_ble_eq_true rfl) hS dX10_set_36 () ⟨_, rfl⟩ hT.nil
  · refine lv_aload_n hx hb dX10_set_23 rfl (lv_at hl 1 rfl) ?_
    refine lv_iload hx hb dX10_set_24 (lv_at hl 0 rfl) ?_
    refine x_cl0 (x_runV (b := a) (As := [.int x2]) (rest := []) S (c_X10_refuseAct l E K F G a x2 ha) mv_X10_refuseAct km_X10_188 rfl rfl ⟨Nat.le_of_ble_eq_true rfl, Nat.le_of_ble_eq_true rfl⟩ (rc_12 hK hT ha) hK (fun _ => XP.blind) (fun U hU hW => XP.at hK hz hS hT hU hW) rfl hl.1 (Nat.le_of_ble_eq_true rfl) dX10_set_26 ⟨Nat.le_of_ble_eq_true rfl, Nat.le_of_ble_eq_true rfl⟩) hS ?_
    rintro _ _ H locs ⟨x5, rfl⟩ hT hS
    refine lv_goto (tgt := 36) hx hb dX10_set_29 (by decide) ?_
    exact x_ri hx hb hr hlk hQ (Nat.le_of_ble_eq_true rfl) (Nat.le_of_ble_eq_true rfl) hS dX10_set_36 () ⟨_, rfl⟩ hT.nil

abbrev rm_X10_cut : Room := { frames := 10, cells := 15, slots := 1500, locals := 236 }
set_option maxHeartbeats 4000000 in
set_option maxRecDepth 100000 in
theorem c_X10_cut (l : Launch) (E : XE) (K : Nat → Nat) (F : Nat → Nat → Nat) (G : XG) (a : Nat) (p0 : Int32) (p1 : Int32) (ha : K a = 12) : Met l yX10_cut (xw yX10_cut cX10_cut 3 (some .int)) rm_X10_cut (va_Pc [.ref a, .int p0, .int p1] (XP E K F G)) (XQ E (fun v (u : Unit) => ∃ r : Int32, v = .int r) (fun _ H => TW E K F G [] H)) 15 1500 (xA E) := by
  refine x_enter (by decide) (Nat.le_of_ble_eq_true rfl) ?_
  intro p e s m args below meth c Q S hr hlk hnm hQ hP ls hl
  obtain ⟨hz, hK, hT⟩ := hP
  obtain ⟨hx, hb, -, -, -⟩ := id S
  obtain ⟨H, hT, hS, hgo⟩ : ∃ H : Heap, TW E K F G [] H ∧ va_S (xA E) s.heap H [] ∧ H = s.heap := ⟨_, hT, va_S.rf, rfl⟩
  rw [← hgo]
  have hl : lv_has ls 3 [(0, .ref a), (1, .int p0), (2, .int p1)] := hl
  refine lv_aload_n hx hb dX10_cut_0 rfl (lv_at hl 0 rfl) ?_
  refine gX10_14 S hK hT ha kf_X10_91 dX10_cut_1 (fun hk1 => ?_)
  refine x_cv (x_runV (b := (F a 14)) (As := []) (rest := []) S (c_X9_clear l E K F G (F a 14) hk1) mv_X9_clear km_X10_113 rfl rfl ⟨Nat.le_of_ble_eq_true rfl, Nat.le_of_ble_eq_true rfl⟩ (rc_11 hK hT hk1) hK (fun _ => XP.blind) (fun U hU hW => XP.at hK hz hS hT hU hW) rfl hl.1 (Nat.le_of_ble_eq_true rfl) dX10_cut_4 ⟨Nat.le_of_ble_eq_true rfl, Nat.le_of_ble_eq_true rfl⟩) hS ?_
  rintro _ H locs - hT hS
  refine lv_iload_n hx hb dX10_cut_7 rfl (lv_at hl 1 rfl) ?_
  refine x_clp (x_runS (As := [.int p0]) (rest := []) S (c_X10_isTable l E K F G H p0) ms_X10_isTable km_X10_179 rfl rfl ⟨Nat.le_of_ble_eq_true rfl, Nat.le_of_ble_eq_true rfl⟩ hK (fun _ => XPh.blind) (fun U hU hW => XPh.at hK hz hS hT hU hW) rfl hl.1 (Nat.le_of_ble_eq_true rfl) dX10_cut_8 ⟨Nat.le_of_ble_eq_true rfl, Nat.le_of_ble_eq_true rfl⟩) hS ?_
  rintro _ _ locs ⟨x2, rfl, b3, t4⟩ hS
  have t4 : (x2.toInt = 1 ∧ 0 ≤ p0.toInt ∧ p0.toInt < 3) ∨ (x2.toInt = 0 ∧ (p0.toInt < 0 ∨ 3 ≤ p0.toInt)) := t4
  have J21 : ∀ (H : Heap) (locs : List Loc) (ls : Array Slot), TW E K F G [] H → va_S (xA E) s.heap H locs → lv_has ls 3 [(0, .ref a)] → W p l e rm_X10_cut s m args below meth c H locs 1 100 Q (F0 m 21 ls []) := by
    intro H locs ls hT hS hl
    refine lv_aload_n hx hb dX10_cut_21 rfl (lv_at hl 0 rfl) ?_
    refine lv_iconst (v := (-1)) hx hb dX10_cut_22 (by decide) ?_
    refine x_cl0 (x_runV (b := a) (As := [.int (-1)]) (rest := []) S (c_X10_refuseAct l E K F G a (-1) ha) mv_X10_refuseAct km_X10_188 rfl rfl ⟨Nat.le_of_ble_eq_true rfl, Nat.le_of_ble_eq_true rfl⟩ (rc_12 hK hT ha) hK (fun _ => XP.blind) (fun U hU hW => XP.at hK hz hS hT hU hW) rfl hl.1 (Nat.le_of_ble_eq_true rfl) dX10_cut_23 ⟨Nat.le_of_ble_eq_true rfl, Nat.le_of_ble_eq_true rfl⟩) hS ?_
    rintro _ _ H locs ⟨x5, rfl⟩ hT hS
    exact x_ri hx hb hr hlk hQ (Nat.le_of_ble_eq_true rfl) (Nat.le_of_ble_eq_true rfl) hS dX10_cut_26 () ⟨_, rfl⟩ hT.nil
  refine xi_zeq (tgt := 21) hx hb (rfl : Int32.toInt x2 = x2.toInt) dX10_cut_11 (by decide) (fun c6 => ?_) (fun c6 => ?_)
  · exact J21 _ _ _ hT.nil hS (lv_sub hl [0] rfl)
  · refine lv_iload_n hx hb dX10_cut_14 rfl (lv_at hl 2 rfl) ?_
    refine x_clp (x_runS (As := [.int p1]) (rest := []) S (c_X10_isKey l E K F G H p1) ms_X10_isKey km_X10_182 rfl rfl ⟨Nat.le_of_ble_eq_true rfl, Nat.le_of_ble_eq_true rfl⟩ hK (fun _ => XPh.blind) (fun U hU hW => XPh.at hK hz hS hT hU hW) rfl hl.1 (Nat.le_of_ble_eq_true rfl) dX10_cut_15 ⟨Nat.le_of_ble_eq_true rfl, Nat.le_of_ble_eq_true rfl⟩) hS ?_
    rintro _ _ locs ⟨x7, rfl, b8, t9⟩ hS
    have t9 : (x7.toInt = 1 ∧ 0 ≤ p1.toInt ∧ p1.toInt < 30) ∨ (x7.toInt = 0 ∧ (p1.toInt < 0 ∨ 30 ≤ p1.toInt)) := t9
    refine xi_zne (tgt := 27) hx hb (rfl : Int32.toInt x7 = x7.toInt) dX10_cut_18 (by decide) (fun c10 => ?_) (fun c10 => ?_)
    · refine lv_aload_n hx hb dX10_cut_27 rfl (lv_at hl 0 rfl) ?_
      refine gX10_3 S hK hT ha kf_X10_37 dX10_cut_28 (fun hk11 => ?_)
      refine lv_iload_n hx hb dX10_cut_31 rfl (lv_at hl 1 rfl) ?_
      refine lv_iload_n hx hb dX10_cut_32 rfl (lv_at hl 2 rfl) ?_
      refine x_clp (x_runV (b := (F a 3)) (As := [.int p0, .int p1]) (rest := []) S (c_X6_has l E K F G H (F a 3) p0 p1 hk11) mv_X6_has km_X10_191 rfl rfl ⟨Nat.le_of_ble_eq_true rfl, Nat.le_of_ble_eq_true rfl⟩ (rc_8 hK hT hk11) hK (fun _ => XPh.blind) (fun U hU hW => XPh.at hK hz hS hT hU hW) rfl hl.1 (Nat.le_of_ble_eq_true rfl) dX10_cut_33 ⟨Nat.le_of_ble_eq_true rfl, Nat.le_of_ble_eq_true rfl⟩) hS ?_
      rintro _ _ locs ⟨x12, rfl, b13, t14⟩ hS
      have t14 : x12.toInt = 0 ∨ (x12.toInt = 1 ∧ 0 ≤ p0.toInt ∧ p0.toInt < 3 ∧ 0 ≤ p1.toInt ∧ p1.toInt < 30) := t14
      refine xi_zne (tgt := 46) hx hb (rfl : Int32.toInt x12 = x12.toInt) dX10_cut_36 (by decide) (fun c15 => ?_) (fun c15 => ?_)
      · refine lv_aload_n hx hb dX10_cut_46 rfl (lv_at hl 0 rfl) ?_
        refine gX10_5 S hK hT ha kf_X10_44 dX10_cut_47 (fun hk16 => ?_)
        refine lv_aload_n hx hb dX10_cut_50 rfl (lv_at hl 0 rfl) ?_
        refine gX10_3 S hK hT ha kf_X10_37 dX10_cut_51 (fun hk17 => ?_)
        refine x_cv0 (x_runV (b := (F a 5)) (As := [.ref (F a 3)]) (rest := []) S (c_X6_copy l E K F G (F a 5) (F a 3) hk16 hk17) mv_X6_copy km_X10_195 rfl rfl ⟨Nat.le_of_ble_eq_true rfl, Nat.le_of_ble_eq_true rfl⟩ (rc_8 hK hT hk16) hK (fun _ => XP.blind) (fun U hU hW => XP.at hK hz hS hT hU hW) rfl hl.1 (Nat.le_of_ble_eq_true rfl) dX10_cut_54 ⟨Nat.le_of_ble_eq_true rfl, Nat.le_of_ble_eq_true rfl⟩) hS ?_
        rintro _ H locs - hT hS
        refine lv_aload_n hx hb dX10_cut_57 rfl (lv_at hl 0 rfl) ?_
        refine gX10_12 S hK hT ha kf_X10_77 dX10_cut_58 (fun hk18 => ?_)
        refine lv_aload_n hx hb dX10_cut_61 rfl (lv_at hl 0 rfl) ?_
        refine gX10_5 S hK hT ha kf_X10_44 dX10_cut_62 (fun hk19 => ?_)
        refine lv_aload_n hx hb dX10_cut_65 rfl (lv_at hl 0 rfl) ?_
        refine gX10_2 S hK hT ha kf_X10_30 dX10_cut_66 (fun hk20 => ?_)
        refine lv_iload_n hx hb dX10_cut_69 rfl (lv_at hl 1 rfl) ?_
        refine lv_iload_n hx hb dX10_cut_70 rfl (lv_at hl 2 rfl) ?_
        refine x_cv0 (x_runV (b := (F a 12)) (As := [.ref (F a 5), .ref (F a 2), .int p0, .int p1]) (rest := []) S (c_X2_cutRow l E K F G (F a 12) (F a 5) (F a 2) p0 p1 hk18 hk19 hk20) mv_X2_cutRow km_X10_214 rfl rfl ⟨Nat.le_of_ble_eq_true rfl, Nat.le_of_ble_eq_true rfl⟩ (rc_4 hK hT hk18) hK (fun _ => XP.blind) (fun U hU hW => XP.at hK hz hS hT hU hW) rfl hl.1 (Nat.le_of_ble_eq_true rfl) dX10_cut_71 ⟨Nat.le_of_ble_eq_true rfl, Nat.le_of_ble_eq_true rfl⟩) hS ?_
        rintro _ H locs - hT hS
        refine lv_aload_n hx hb dX10_cut_74 rfl (lv_at hl 0 rfl) ?_
        refine x_cl (x_runV (b := a) (As := []) (rest := []) S (c_X10_actAsOnPaper l E K F G a ha) mv_X10_actAsOnPaper km_X10_207 rfl rfl ⟨Nat.le_of_ble_eq_true rfl, Nat.le_of_ble_eq_true rfl⟩ (rc_12 hK hT ha) hK (fun _ => XP.blind) (fun U hU hW => XP.at hK hz hS hT hU hW) rfl hl.1 (Nat.le_of_ble_eq_true rfl) dX10_cut_75 ⟨Nat.le_of_ble_eq_true rfl, Nat.le_of_ble_eq_true rfl⟩) hS ?_
        rintro _ _ H locs ⟨x21, rfl⟩ hT hS
        exact x_ri hx hb hr hlk hQ (Nat.le_of_ble_eq_true rfl) (Nat.le_of_ble_eq_true rfl) hS dX10_cut_78 () ⟨_, rfl⟩ hT.nil
      · refine lv_aload_n hx hb dX10_cut_39 rfl (lv_at hl 0 rfl) ?_
        refine lv_bipush (v := (-2)) hx hb dX10_cut_40 (by decide) ?_
        refine x_cl0 (x_runV (b := a) (As := [.int (-2)]) (rest := []) S (c_X10_refuseAct l E K F G a (-2) ha) mv_X10_refuseAct km_X10_188 rfl rfl ⟨Nat.le_of_ble_eq_true rfl, Nat.le_of_ble_eq_true rfl⟩ (rc_12 hK hT ha) hK (fun _ => XP.blind) (fun U hU hW => XP.at hK hz hS hT hU hW) rfl hl.1 (Nat.le_of_ble_eq_true rfl) dX10_cut_42 ⟨Nat.le_of_ble_eq_true rfl, Nat.le_of_ble_eq_true rfl⟩) hS ?_
        rintro _ _ H locs ⟨x22, rfl⟩ hT hS
        exact x_ri hx hb hr hlk hQ (Nat.le_of_ble_eq_true rfl) (Nat.le_of_ble_eq_true rfl) hS dX10_cut_45 () ⟨_, rfl⟩ hT.nil
    · exact J21 _ _ _ hT.nil hS (lv_sub hl [0] rfl)

abbrev rm_X10_rekey : Room := { frames := 10, cells := 15, slots := 1500, locals := 236 }
set_option maxHeartbeats 4000000 in
set_option maxRecDepth 100000 in
theorem c_X10_rekey (l : Launch) (E : XE) (K : Nat → Nat) (F : Nat → Nat → Nat) (G : XG) (a : Nat) (p0 : Int32) (p1 : Int32) (p2 : Int32) (ha : K a = 12) : Met l yX10_rekey (xw yX10_rekey cX10_rekey 4 (some .int)) rm_X10_rekey (va_Pc [.ref a, .int p0, .int p1, .int p2] (XP E K F G)) (XQ E (fun v (u : Unit) => ∃ r : Int32, v = .int r) (fun _ H => TW E K F G [] H)) 15 1500 (xA E) := by
  refine x_enter (by decide) (Nat.le_of_ble_eq_true rfl) ?_
  intro p e s m args below meth c Q S hr hlk hnm hQ hP ls hl
  obtain ⟨hz, hK, hT⟩ := hP
  obtain ⟨hx, hb, -, -, -⟩ := id S
  obtain ⟨H, hT, hS, hgo⟩ : ∃ H : Heap, TW E K F G [] H ∧ va_S (xA E) s.heap H [] ∧ H = s.heap := ⟨_, hT, va_S.rf, rfl⟩
  rw [← hgo]
  have hl : lv_has ls 4 [(0, .ref a), (1, .int p0), (2, .int p1), (3, .int p2)] := hl
  refine lv_aload_n hx hb dX10_rekey_0 rfl (lv_at hl 0 rfl) ?_
  refine gX10_14 S hK hT ha kf_X10_91 dX10_rekey_1 (fun hk1 => ?_)
  refine x_cv (x_runV (b := (F a 14)) (As := []) (rest := []) S (c_X9_clear l E K F G (F a 14) hk1) mv_X9_clear km_X10_113 rfl rfl ⟨Nat.le_of_ble_eq_true rfl, Nat.le_of_ble_eq_true rfl⟩ (rc_11 hK hT hk1) hK (fun _ => XP.blind) (fun U hU hW => XP.at hK hz hS hT hU hW) rfl hl.1 (Nat.le_of_ble_eq_true rfl) dX10_rekey_4 ⟨Nat.le_of_ble_eq_true rfl, Nat.le_of_ble_eq_true rfl⟩) hS ?_
  rintro _ H locs - hT hS
  refine lv_iload_n hx hb dX10_rekey_7 rfl (lv_at hl 1 rfl) ?_
  refine x_clp (x_runS (As := [.int p0]) (rest := []) S (c_X10_isTable l E K F G H p0) ms_X10_isTable km_X10_179 rfl rfl ⟨Nat.le_of_ble_eq_true rfl, Nat.le_of_ble_eq_true rfl⟩ hK (fun _ => XPh.blind) (fun U hU hW => XPh.at hK hz hS hT hU hW) rfl hl.1 (Nat.le_of_ble_eq_true rfl) dX10_rekey_8 ⟨Nat.le_of_ble_eq_true rfl, Nat.le_of_ble_eq_true rfl⟩) hS ?_
  rintro _ _ locs ⟨x2, rfl, b3, t4⟩ hS
  have t4 : (x2.toInt = 1 ∧ 0 ≤ p0.toInt ∧ p0.toInt < 3) ∨ (x2.toInt = 0 ∧ (p0.toInt < 0 ∨ 3 ≤ p0.toInt)) := t4
  have J28 : ∀ (H : Heap) (locs : List Loc) (ls : Array Slot), TW E K F G [] H → va_S (xA E) s.heap H locs → lv_has ls 4 [(0, .ref a)] → W p l e rm_X10_rekey s m args below meth c H locs 1 100 Q (F0 m 28 ls []) := by
    intro H locs ls hT hS hl
    refine lv_aload_n hx hb dX10_rekey_28 rfl (lv_at hl 0 rfl) ?_
    refine lv_iconst (v := (-1)) hx hb dX10_rekey_29 (by decide) ?_
    refine x_cl0 (x_runV (b := a) (As := [.int (-1)]) (rest := []) S (c_X10_refuseAct l E K F G a (-1) ha) mv_X10_refuseAct km_X10_188 rfl rfl ⟨Nat.le_of_ble_eq_true rfl, Nat.le_of_ble_eq_true rfl⟩ (rc_12 hK hT ha) hK (fun _ => XP.blind) (fun U hU hW => XP.at hK hz hS hT hU hW) rfl hl.1 (Nat.le_of_ble_eq_true rfl) dX10_rekey_30 ⟨Nat.le_of_ble_eq_true rfl, Nat.le_of_ble_eq_true rfl⟩) hS ?_
    rintro _ _ H locs ⟨x5, rfl⟩ hT hS
    exact x_ri hx hb hr hlk hQ (Nat.le_of_ble_eq_true rfl) (Nat.le_of_ble_eq_true rfl) hS dX10_rekey_33 () ⟨_, rfl⟩ hT.nil
  refine xi_zeq (tgt := 28) hx hb (rfl : Int32.toInt x2 = x2.toInt) dX10_rekey_11 (by decide) (fun c6 => ?_) (fun c6 => ?_)
  · exact J28 _ _ _ hT.nil hS (lv_sub hl [0] rfl)
  · refine lv_iload_n hx hb dX10_rekey_14 rfl (lv_at hl 2 rfl) ?_
    refine x_clp (x_runS (As := [.int p1]) (rest := []) S (c_X10_isKey l E K F G H p1) ms_X10_isKey km_X10_182 rfl rfl ⟨Nat.le_of_ble_eq_true rfl, Nat.le_of_ble_eq_true rfl⟩ hK (fun _ => XPh.blind) (fun U hU hW => XPh.at hK hz hS hT hU hW) rfl hl.1 (Nat.le_of_ble_eq_true rfl) dX10_rekey_15 ⟨Nat.le_of_ble_eq_true rfl, Nat.le_of_ble_eq_true rfl⟩) hS ?_
    rintro _ _ locs ⟨x7, rfl, b8, t9⟩ hS
    have t9 : (x7.toInt = 1 ∧ 0 ≤ p1.toInt ∧ p1.toInt < 30) ∨ (x7.toInt = 0 ∧ (p1.toInt < 0 ∨ 30 ≤ p1.toInt)) := t9
    refine xi_zeq (tgt := 28) hx hb (rfl : Int32.toInt x7 = x7.toInt) dX10_rekey_18 (by decide) (fun c10 => ?_) (fun c10 => ?_)
    · exact J28 _ _ _ hT.nil hS (lv_sub hl [0] rfl)
    · refine lv_iload_n hx hb dX10_rekey_21 rfl (lv_at hl 3 rfl) ?_
      refine x_clp (x_runS (As := [.int p2]) (rest := []) S (c_X10_isKey l E K F G H p2) ms_X10_isKey km_X10_182 rfl rfl ⟨Nat.le_of_ble_eq_true rfl, Nat.le_of_ble_eq_true rfl⟩ hK (fun _ => XPh.blind) (fun U hU hW => XPh.at hK hz hS hT hU hW) rfl hl.1 (Nat.le_of_ble_eq_true rfl) dX10_rekey_22 ⟨Nat.le_of_ble_eq_true rfl, Nat.le_of_ble_eq_true rfl⟩) hS ?_
      rintro _ _ locs ⟨x11, rfl, b12, t13⟩ hS
      have t13 : (x11.toInt = 1 ∧ 0 ≤ p2.toInt ∧ p2.toInt < 30) ∨ (x11.toInt = 0 ∧ (p2.toInt < 0 ∨ 30 ≤ p2.toInt)) := t13
      refine xi_zne (tgt := 34) hx hb (rfl : Int32.toInt x11 = x11.toInt) dX10_rekey_25 (by decide) (fun c14 => ?_) (fun c14 => ?_)
      · refine lv_aload_n hx hb dX10_rekey_34 rfl (lv_at hl 0 rfl) ?_
        refine gX10_3 S hK hT ha kf_X10_37 dX10_rekey_35 (fun hk15 => ?_)
        refine lv_iload_n hx hb dX10_rekey_38 rfl (lv_at hl 1 rfl) ?_
        refine lv_iload_n hx hb dX10_rekey_39 rfl (lv_at hl 2 rfl) ?_
        refine x_clp (x_runV (b := (F a 3)) (As := [.int p0, .int p1]) (rest := []) S (c_X6_has l E K F G H (F a 3) p0 p1 hk15) mv_X6_has km_X10_191 rfl rfl ⟨Nat.le_of_ble_eq_true rfl, Nat.le_of_ble_eq_true rfl⟩ (rc_8 hK hT hk15) hK (fun _ => XPh.blind) (fun U hU hW => XPh.at hK hz hS hT hU hW) rfl hl.1 (Nat.le_of_ble_eq_true rfl) dX10_rekey_40 ⟨Nat.le_of_ble_eq_true rfl, Nat.le_of_ble_eq_true rfl⟩) hS ?_
        rintro _ _ locs ⟨x16, rfl, b17, t18⟩ hS
        have t18 : x16.toInt = 0 ∨ (x16.toInt = 1 ∧ 0 ≤ p0.toInt ∧ p0.toInt < 3 ∧ 0 ≤ p1.toInt ∧ p1.toInt < 30) := t18
        refine xi_zne (tgt := 53) hx hb (rfl : Int32.toInt x16 = x16.toInt) dX10_rekey_43 (by decide) (fun c19 => ?_) (fun c19 => ?_)
        · refine lv_aload_n hx hb dX10_rekey_53 rfl (lv_at hl 0 rfl) ?_
          refine gX10_3 S hK hT ha kf_X10_37 dX10_rekey_54 (fun hk20 => ?_)
          refine lv_iload_n hx hb dX10_rekey_57 rfl (lv_at hl 1 rfl) ?_
          refine lv_iload_n hx hb dX10_rekey_58 rfl (lv_at hl 3 rfl) ?_
          refine x_clp (x_runV (b := (F a 3)) (As := [.int p0, .int p2]) (rest := []) S (c_X6_has l E K F G H (F a 3) p0 p2 hk20) mv_X6_has km_X10_191 rfl rfl ⟨Nat.le_of_ble_eq_true rfl, Nat.le_of_ble_eq_true rfl⟩ (rc_8 hK hT hk20) hK (fun _ => XPh.blind) (fun U hU hW => XPh.at hK hz hS hT hU hW) rfl hl.1 (Nat.le_of_ble_eq_true rfl) dX10_rekey_59 ⟨Nat.le_of_ble_eq_true rfl, Nat.le_of_ble_eq_true rfl⟩) hS ?_
          rintro _ _ locs ⟨x21, rfl, b22, t23⟩ hS
          have t23 : x21.toInt = 0 ∨ (x21.toInt = 1 ∧ 0 ≤ p0.toInt ∧ p0.toInt < 3 ∧ 0 ≤ p2.toInt ∧ p2.toInt < 30) := t23
          refine xi_zeq (tgt := 72) hx hb (rfl : Int32.toInt x21 = x21.toInt) dX10_rekey_62 (by decide) (fun c24 => ?_) (fun c24 => ?_)
          · refine lv_aload_n hx hb dX10_rekey_72 rfl (lv_at hl 0 rfl) ?_
            refine gX10_5 S hK hT ha kf_X10_44 dX10_rekey_73 (fun hk25 => ?_)
            refine lv_aload_n hx hb dX10_rekey_76 rfl (lv_at hl 0 rfl) ?_
            refine gX10_3 S hK hT ha kf_X10_37 dX10_rekey_77 (fun hk26 => ?_)
            refine x_cv0 (x_runV (b := (F a 5)) (As := [.ref (F a 3)]) (rest := []) S (c_X6_copy l E K F G (F a 5) (F a 3) hk25 hk26) mv_X6_copy km_X10_195 rfl rfl ⟨Nat.le_of_ble_eq_true rfl, Nat.le_of_ble_eq_true rfl⟩ (rc_8 hK hT hk25) hK (fun _ => XP.blind) (fun U hU hW => XP.at hK hz hS hT hU hW) rfl hl.1 (Nat.le_of_ble_eq_true rfl) dX10_rekey_80 ⟨Nat.le_of_ble_eq_true rfl, Nat.le_of_ble_eq_true rfl⟩) hS ?_
            rintro _ H locs - hT hS
            refine lv_aload_n hx hb dX10_rekey_83 rfl (lv_at hl 0 rfl) ?_
            refine gX10_12 S hK hT ha kf_X10_77 dX10_rekey_84 (fun hk27 => ?_)
            refine lv_aload_n hx hb dX10_rekey_87 rfl (lv_at hl 0 rfl) ?_
            refine gX10_5 S hK hT ha kf_X10_44 dX10_rekey_88 (fun hk28 => ?_)
            refine lv_aload_n hx hb dX10_rekey_91 rfl (lv_at hl 0 rfl) ?_
            refine gX10_2 S hK hT ha kf_X10_30 dX10_rekey_92 (fun hk29 => ?_)
            refine lv_iload_n hx hb dX10_rekey_95 rfl (lv_at hl 1 rfl) ?_
            refine lv_iload_n hx hb dX10_rekey_96 rfl (lv_at hl 2 rfl) ?_
            refine lv_iload_n hx hb dX10_rekey_97 rfl (lv_at hl 3 rfl) ?_
            refine x_cv0 (x_runV (b := (F a 12)) (As := [.ref (F a 5), .ref (F a 2), .int p0, .int p1, .int p2]) (rest := []) S (c_X2_moveRow l E K F G (F a 12) (F a 5) (F a 2) p0 p1 p2 hk27 hk28 hk29) mv_X2_moveRow km_X10_218 rfl rfl ⟨Nat.le_of_ble_eq_true rfl, Nat.le_of_ble_eq_true rfl⟩ (rc_4 hK hT hk27) hK (fun _ => XP.blind) (fun U hU hW => XP.at hK hz hS hT hU hW) rfl hl.1 (Nat.le_of_ble_eq_true rfl) dX10_rekey_98 ⟨Nat.le_of_ble_eq_true rfl, Nat.le_of_ble_eq_true rfl⟩) hS ?_
            rintro _ H locs - hT hS
            refine lv_aload_n hx hb dX10_rekey_101 rfl (lv_at hl 0 rfl) ?_
            refine x_cl (x_runV (b := a) (As := []) (rest := []) S (c_X10_actAsOnPaper l E K F G a ha) mv_X10_actAsOnPaper km_X10_207 rfl rfl ⟨Nat.le_of_ble_eq_true rfl, Nat.le_of_ble_eq_true rfl⟩ (rc_12 hK hT ha) hK (fun _ => XP.blind) (fun U hU hW => XP.at hK hz hS hT hU hW) rfl hl.1 (Nat.le_of_ble_eq_true rfl) dX10_rekey_102 ⟨Nat.le_of_ble_eq_true rfl, Nat.le_of_ble_eq_true rfl⟩) hS ?_
            rintro _ _ H locs ⟨x30, rfl⟩ hT hS
            exact x_ri hx hb hr hlk hQ (Nat.le_of_ble_eq_true rfl) (Nat.le_of_ble_eq_true rfl) hS dX10_rekey_105 () ⟨_, rfl⟩ hT.nil
          · refine lv_aload_n hx hb dX10_rekey_65 rfl (lv_at hl 0 rfl) ?_
            refine lv_bipush (v := (-4)) hx hb dX10_rekey_66 (by decide) ?_
            refine x_cl0 (x_runV (b := a) (As := [.int (-4)]) (rest := []) S (c_X10_refuseAct l E K F G a (-4) ha) mv_X10_refuseAct km_X10_188 rfl rfl ⟨Nat.le_of_ble_eq_true rfl, Nat.le_of_ble_eq_true rfl⟩ (rc_12 hK hT ha) hK (fun _ => XP.blind) (fun U hU hW => XP.at hK hz hS hT hU hW) rfl hl.1 (Nat.le_of_ble_eq_true rfl) dX10_rekey_68 ⟨Nat.le_of_ble_eq_true rfl, Nat.le_of_ble_eq_true rfl⟩) hS ?_
            rintro _ _ H locs ⟨x31, rfl⟩ hT hS
            exact x_ri hx hb hr hlk hQ (Nat.le_of_ble_eq_true rfl) (Nat.le_of_ble_eq_true rfl) hS dX10_rekey_71 () ⟨_, rfl⟩ hT.nil
        · refine lv_aload_n hx hb dX10_rekey_46 rfl (lv_at hl 0 rfl) ?_
          refine lv_bipush (v := (-2)) hx hb dX10_rekey_47 (by decide) ?_
          refine x_cl0 (x_runV (b := a) (As := [.int (-2)]) (rest := []) S (c_X10_refuseAct l E K F G a (-2) ha) mv_X10_refuseAct km_X10_188 rfl rfl ⟨Nat.le_of_ble_eq_true rfl, Nat.le_of_ble_eq_true rfl⟩ (rc_12 hK hT ha) hK (fun _ => XP.blind) (fun U hU hW => XP.at hK hz hS hT hU hW) rfl hl.1 (Nat.le_of_ble_eq_true rfl) dX10_rekey_49 ⟨Nat.le_of_ble_eq_true rfl, Nat.le_of_ble_eq_true rfl⟩) hS ?_
          rintro _ _ H locs ⟨x32, rfl⟩ hT hS
          exact x_ri hx hb hr hlk hQ (Nat.le_of_ble_eq_true rfl) (Nat.le_of_ble_eq_true rfl) hS dX10_rekey_52 () ⟨_, rfl⟩ hT.nil
      · exact J28 _ _ _ hT.nil hS (lv_sub hl [0] rfl)

theorem z_X10_begin_1 (a0 : Int) (h0 : (0 : Int) ≤ a0) (r0 : -2147483648 ≤ a0 ∧ a0 < 2147483648) : ¬ (2147483648 - a0 < ((0 : Nat) : Int)) := by omega
theorem z_X10_begin_2 (a0 : Int) (a1 : Nat) (h0 : (0 : Int) ≤ a0) (h1 : 2147483648 - a0 < ((a1 + 1 : Nat) : Int)) (h2 : ¬ ((6 : Int) ≤ a0)) (r0 : -2147483648 ≤ a0 ∧ a0 < 2147483648) : 0 ≤ a0 ∧ a0 < ((6 : Nat) : Int) := by omega
theorem z_X10_begin_3 (a0 : Int) (a1 : Int) (a2 : Nat) (h0 : (0 : Int) ≤ a1) (h1 : 2147483648 - a1 < ((a2 + 1 : Nat) : Int)) (h2 : ¬ ((6 : Int) ≤ a1)) (h3 : a0 = a1 + 1 ∨ a1 + 1 < -2147483648 ∨ 2147483648 ≤ a1 + 1) (r0 : -2147483648 ≤ a0 ∧ a0 < 2147483648) (r1 : -2147483648 ≤ a1 ∧ a1 < 2147483648) : (0 : Int) ≤ a0 := by omega
theorem z_X10_begin_4 (a0 : Int) (a1 : Int) (a2 : Nat) (h0 : (0 : Int) ≤ a1) (h1 : 2147483648 - a1 < ((a2 + 1 : Nat) : Int)) (h2 : ¬ ((6 : Int) ≤ a1)) (h3 : a0 = a1 + 1 ∨ a1 + 1 < -2147483648 ∨ 2147483648 ≤ a1 + 1) (r0 : -2147483648 ≤ a0 ∧ a0 < 2147483648) (r1 : -2147483648 ≤ a1 ∧ a1 < 2147483648) : 2147483648 - a0 < ((a2 : Nat) : Int) := by omega
abbrev rm_X10_begin : Room := { frames := 4, cells := 0, slots := 0, locals := 84 }
set_option maxHeartbeats 4000000 in
set_option maxRecDepth 100000 in
theorem c_X10_begin (l : Launch) (E : XE) (K : Nat → Nat) (F : Nat → Nat → Nat) (G : XG) (a : Nat) (ha : K a = 12) : Met l yX10_begin (xw yX10_begin cX10_begin 2 (some .int)) rm_X10_begin (va_Pc [.ref a] (XP E K F G)) (XQ E (fun v (u : Unit) => ∃ r : Int32, v = .int r) (fun _ H => TW E K F G [] H)) 0 0 (xA E) := by
  refine x_enter (by decide) (Nat.le_of_ble_eq_true rfl) ?_
  intro p e s m args below meth c Q S hr hlk hnm hQ hP ls hl
  obtain ⟨hz, hK, hT⟩ := hP
  obtain ⟨hx, hb, -, -, -⟩ := id S
  obtain ⟨H, hT, hS, hgo⟩ : ∃ H : Heap, TW E K F G [] H ∧ va_S (xA E) s.heap H [] ∧ H = s.heap := ⟨_, hT, va_S.rf, rfl⟩
  rw [← hgo]
  have hl : lv_has ls 2 [(0, .ref a)] := hl
  refine lv_aload_n hx hb dX10_begin_0 rfl (lv_at hl 0 rfl) ?_
  refine gX10_18 S hK hT ha kf_X10_123 dX10_begin_1 (fun x1 hT => ?_)
  refine xi_zeq (tgt := 10) hx hb (rfl : Int32.toInt x1 = x1.toInt) dX10_begin_4 (by decide) (fun c2 => ?_) (fun c2 => ?_)
  · refine lv_aload_n hx hb dX10_begin_10 rfl (lv_at hl 0 rfl) ?_
    refine lv_iconst (v := 1) hx hb dX10_begin_11 (by decide) ?_
    refine pX10_18 (kq := []) S hK hT hS ha kf_X10_123 (Or.inr rfl) dX10_begin_12 (fun _ h => by cases h) (fun H locs hT hS => ?_)
    refine lv_aload_n hx hb dX10_begin_15 rfl (lv_at hl 0 rfl) ?_
    refine gX10_4 S hK hT ha kf_X10_41 dX10_begin_16 (fun hk3 => ?_)
    refine lv_aload_n hx hb dX10_begin_19 rfl (lv_at hl 0 rfl) ?_
    refine gX10_3 S hK hT ha kf_X10_37 dX10_begin_20 (fun hk4 => ?_)
    refine x_cv0 (x_runV (b := (F a 4)) (As := [.ref (F a 3)]) (rest := []) S (c_X6_copy l E K F G (F a 4) (F a 3) hk3 hk4) mv_X6_copy km_X10_195 rfl rfl ⟨Nat.le_of_ble_eq_true rfl, Nat.le_of_ble_eq_true rfl⟩ (rc_8 hK hT hk3) hK (fun _ => XP.blind) (fun U hU hW => XP.at hK hz hS hT hU hW) rfl hl.1 (Nat.le_of_ble_eq_true rfl) dX10_begin_23 ⟨Nat.le_of_ble_eq_true rfl, Nat.le_of_ble_eq_true rfl⟩) hS ?_
    rintro _ H locs - hT hS
    refine lv_iconst (v := 0) hx hb dX10_begin_26 (by decide) ?_
    refine lv_istore_n (lv' := [(1, .int 0), (0, .ref a)]) hx hb dX10_begin_27 rfl hl (by decide) rfl (fun ls hl => ?_)
    have L28 : ∀ (N6 : Nat) (x5 : Int32) (H : Heap) (locs : List Loc) (ls : Array Slot), (0 : Int) ≤ x5.toInt → 2147483648 - x5.toInt < ((N6 : Nat) : Int) → TW E K F G [] H → va_S (xA E) s.heap H locs → lv_has ls 2 [(0, .ref a), (1, .int x5)] → W p l e rm_X10_begin s m args below meth c H locs 0 0 Q (F0 m 28 ls []) := by
      intro N6
      induction N6 with
      | zero =>
        intro x5 H locs ls hf7 hm8
        exact absurd hm8 (z_X10_begin_1 x5.toInt hf7 (xr x5))
      | succ N6 ih9 =>
        intro x5 H locs ls hf7 hm8 hT hS hl
        refine lv_iload_n hx hb dX10_begin_28 rfl (lv_at hl 1 rfl) ?_
        refine lv_bipush (v := 6) hx hb dX10_begin_29 (by decide) ?_
        refine xi_cge (tgt := 47) hx hb (rfl : Int32.toInt x5 = x5.toInt) ((by decide) : Int32.toInt 6 = (6 : Int)) dX10_begin_31 (by decide) (fun c10 => ?_) (fun c10 => ?_)
        · refine lv_aload_n hx hb dX10_begin_47 rfl (lv_at hl 0 rfl) ?_
          refine gX10_3 S hK hT ha kf_X10_37 dX10_begin_48 (fun hk11 => ?_)
          refine x_clp (x_runV (b := (F a 3)) (As := []) (rest := []) S (c_X6_total l E K F G H (F a 3) hk11) mv_X6_total km_X10_222 rfl rfl ⟨Nat.le_of_ble_eq_true rfl, Nat.le_of_ble_eq_true rfl⟩ (rc_8 hK hT hk11) hK (fun _ => XPh.blind) (fun U hU hW => XPh.at hK hz hS hT hU hW) rfl hl.1 (Nat.le_of_ble_eq_true rfl) dX10_begin_51 ⟨Nat.le_of_ble_eq_true rfl, Nat.le_of_ble_eq_true rfl⟩) hS ?_
          rintro _ _ locs ⟨x12, rfl⟩ hS
          exact x_ri hx hb hr hlk hQ (Nat.le_of_ble_eq_true rfl) (Nat.le_of_ble_eq_true rfl) hS dX10_begin_54 () ⟨_, rfl⟩ hT.nil
        · refine lv_aload_n hx hb dX10_begin_34 rfl (lv_at hl 0 rfl) ?_
          refine gX10_15 S hK hT ha kf_X10_95 dX10_begin_35 (fun hk13 => ?_)
          refine lv_iload_n hx hb dX10_begin_38 rfl (lv_at hl 1 rfl) ?_
          refine lv_iconst (v := 0) hx hb dX10_begin_39 (by decide) ?_
          refine as_0 S hK hT hS hk13 ar_26 aw_26 (by decide) (z_X10_begin_2 x5.toInt N6 hf7 hm8 c10 (xr x5)) dX10_begin_40 (fun H locs hT hS => ?_)
          refine xi_iinc (n := 1) (lv' := fun z9 => [(1, .int z9), (0, .ref a)]) (k := 1) hx hb (rfl : Int32.toInt x5 = x5.toInt) (by decide) dX10_begin_41 hl rfl (by decide) (fun _ => rfl) (fun x14 ls t15 hl => ?_)
          have hl : lv_has ls 2 [(1, .int x14), (0, .ref a)] := hl
          refine lv_goto (tgt := 28) hx hb dX10_begin_44 (by decide) ?_
          exact ih9 x14 _ _ _ (z_X10_begin_3 x14.toInt x5.toInt N6 hf7 hm8 c10 t15 (xr x14) (xr x5)) (z_X10_begin_4 x14.toInt x5.toInt N6 hf7 hm8 c10 t15 (xr x14) (xr x5)) hT.nil hS (lv_sub hl [1, 0] rfl)
    exact L28 4294967297 0 _ _ _ (by decide) (by decide) hT.nil hS (lv_sub hl [1, 0] rfl)
  · refine lv_bipush (v := (-3)) hx hb dX10_begin_7 (by decide) ?_
    exact x_ri hx hb hr hlk hQ (Nat.le_of_ble_eq_true rfl) (Nat.le_of_ble_eq_true rfl) hS dX10_begin_9 () ⟨_, rfl⟩ hT.nil

abbrev rm_X10_commit : Room := { frames := 9, cells := 8, slots := 800, locals := 216 }
set_option maxHeartbeats 4000000 in
set_option maxRecDepth 100000 in
theorem c_X10_commit (l : Launch) (E : XE) (K : Nat → Nat) (F : Nat → Nat → Nat) (G : XG) (a : Nat) (ha : K a = 12) : Met l yX10_commit (xw yX10_commit cX10_commit 2 (some .int)) rm_X10_commit (va_Pc [.ref a] (XP E K F G)) (XQ E (fun v (u : Unit) => ∃ r : Int32, v = .int r) (fun _ H => TW E K F G [] H)) 8 800 (xA E) := by
  refine x_enter (by decide) (Nat.le_of_ble_eq_true rfl) ?_
  intro p e s m args below meth c Q S hr hlk hnm hQ hP ls hl
  obtain ⟨hz, hK, hT⟩ := hP
  obtain ⟨hx, hb, -, -, -⟩ := id S
  obtain ⟨H, hT, hS, hgo⟩ : ∃ H : Heap, TW E K F G [] H ∧ va_S (xA E) s.heap H [] ∧ H = s.heap := ⟨_, hT, va_S.rf, rfl⟩
  rw [← hgo]
  have hl : lv_has ls 2 [(0, .ref a)] := hl
  refine lv_aload_n hx hb dX10_commit_0 rfl (lv_at hl 0 rfl) ?_
  refine gX10_14 S hK hT ha kf_X10_91 dX10_commit_1 (fun hk1 => ?_)
  refine x_cv (x_runV (b := (F a 14)) (As := []) (rest := []) S (c_X9_clear l E K F G (F a 14) hk1) mv_X9_clear km_X10_113 rfl rfl ⟨Nat.le_of_ble_eq_true rfl, Nat.le_of_ble_eq_true rfl⟩ (rc_11 hK hT hk1) hK (fun _ => XP.blind) (fun U hU hW => XP.at hK hz hS hT hU hW) rfl hl.1 (Nat.le_of_ble_eq_true rfl) dX10_commit_4 ⟨Nat.le_of_ble_eq_true rfl, Nat.le_of_ble_eq_true rfl⟩) hS ?_
  rintro _ H locs - hT hS
  refine lv_aload_n hx hb dX10_commit_7 rfl (lv_at hl 0 rfl) ?_
  refine gX10_18 S hK hT ha kf_X10_123 dX10_commit_8 (fun x2 hT => ?_)
  refine xi_zne (tgt := 17) hx hb (rfl : Int32.toInt x2 = x2.toInt) dX10_commit_11 (by decide) (fun c3 => ?_) (fun c3 => ?_)
  · refine lv_aload_n hx hb dX10_commit_17 rfl (lv_at hl 0 rfl) ?_
    refine lv_aload_n hx hb dX10_commit_18 rfl (lv_at hl 0 rfl) ?_
    refine gX10_8 S hK hT ha kf_X10_57 dX10_commit_19 (fun hk4 => ?_)
    refine x_cl (x_runV (b := a) (As := [.ref (F a 8)]) (rest := []) S (c_X10_askToCommit l E K F G a (F a 8) ha hk4) mv_X10_askToCommit km_X10_225 rfl rfl ⟨Nat.le_of_ble_eq_true rfl, Nat.le_of_ble_eq_true rfl⟩ (rc_12 hK hT ha) hK (fun _ => XP.blind) (fun U hU hW => XP.at hK hz hS hT hU hW) rfl hl.1 (Nat.le_of_ble_eq_true rfl) dX10_commit_22 ⟨Nat.le_of_ble_eq_true rfl, Nat.le_of_ble_eq_true rfl⟩) hS ?_
    rintro _ _ H locs ⟨x5, rfl, b6⟩ hT hS
    refine lv_istore_n (lv' := [(1, .int x5), (0, .ref a)]) hx hb dX10_commit_25 rfl hl (by decide) rfl (fun ls hl => ?_)
    refine lv_iload_n hx hb dX10_commit_26 rfl (lv_at hl 0 rfl) ?_
    have J41 : ∀ (H : Heap) (locs : List Loc) (ls : Array Slot), TW E K F G [] H → va_S (xA E) s.heap H locs → lv_has ls 2 [(0, .ref a), (1, .int x5)] → W p l e rm_X10_commit s m args below meth c H locs 8 800 Q (F0 m 41 ls []) := by
      intro H locs ls hT hS hl
      refine lv_aload_n hx hb dX10_commit_41 rfl (lv_at hl 0 rfl) ?_
      refine x_cv0 (x_runV (b := a) (As := []) (rest := []) S (c_X10_close l E K F G a ha) mv_X10_close km_X10_229 rfl rfl ⟨Nat.le_of_ble_eq_true rfl, Nat.le_of_ble_eq_true rfl⟩ (rc_12 hK hT ha) hK (fun _ => XP.blind) (fun U hU hW => XP.at hK hz hS hT hU hW) rfl hl.1 (Nat.le_of_ble_eq_true rfl) dX10_commit_42 ⟨Nat.le_of_ble_eq_true rfl, Nat.le_of_ble_eq_true rfl⟩) hS ?_
      rintro _ H locs - hT hS
      refine lv_iload_n hx hb dX10_commit_45 rfl (lv_at hl 1 rfl) ?_
      refine xi_zeq (tgt := 59) hx hb (rfl : Int32.toInt x5 = x5.toInt) dX10_commit_46 (by decide) (fun c7 => ?_) (fun c7 => ?_)
      · refine lv_bipush (v := (-5)) hx hb dX10_commit_59 (by decide) ?_
        exact x_ri hx hb hr hlk hQ (Nat.le_of_ble_eq_true rfl) (Nat.le_of_ble_eq_true rfl) hS dX10_commit_61 () ⟨_, rfl⟩ hT.nil
      · refine lv_aload_n hx hb dX10_commit_49 rfl (lv_at hl 0 rfl) ?_
        refine gX10_10 S hK hT ha kf_X10_64 dX10_commit_50 (fun hk8 => ?_)
        refine x_clp (x_runV (b := (F a 10)) (As := []) (rest := []) S (c_X4_size l E K F G H (F a 10) hk8) mv_X4_size km_X10_232 rfl rfl ⟨Nat.le_of_ble_eq_true rfl, Nat.le_of_ble_eq_true rfl⟩ (rc_6 hK hT hk8) hK (fun _ => XPh.blind) (fun U hU hW => XPh.at hK hz hS hT hU hW) rfl hl.1 (Nat.le_of_ble_eq_true rfl) dX10_commit_53 ⟨Nat.le_of_ble_eq_true rfl, Nat.le_of_ble_eq_true rfl⟩) hS ?_
        rintro _ _ locs ⟨x9, rfl⟩ hS
        refine lv_goto (tgt := 61) hx hb dX10_commit_56 (by decide) ?_
        exact x_ri hx hb hr hlk hQ (Nat.le_of_ble_eq_true rfl) (Nat.le_of_ble_eq_true rfl) hS dX10_commit_61 () ⟨_, rfl⟩ hT.nil
    refine xi_zne (tgt := 41) hx hb (rfl : Int32.toInt x5 = x5.toInt) dX10_commit_27 (by decide) (fun c10 => ?_) (fun c10 => ?_)
    · exact J41 _ _ _ hT.nil hS (lv_sub hl [1, 0] rfl)
    · refine lv_aload_n hx hb dX10_commit_30 rfl (lv_at hl 1 rfl) ?_
      refine gX10_3 S hK hT ha kf_X10_37 dX10_commit_31 (fun hk11 => ?_)
      refine lv_aload_n hx hb dX10_commit_34 rfl (lv_at hl 1 rfl) ?_
      refine gX10_4 S hK hT ha kf_X10_41 dX10_commit_35 (fun hk12 => ?_)
      refine x_cv0 (x_runV (b := (F a 3)) (As := [.ref (F a 4)]) (rest := []) S (c_X6_copy l E K F G (F a 3) (F a 4) hk11 hk12) mv_X6_copy km_X10_195 rfl rfl ⟨Nat.le_of_ble_eq_true rfl, Nat.le_of_ble_eq_true rfl⟩ (rc_8 hK hT hk11) hK (fun _ => XP.blind) (fun U hU hW => XP.at hK hz hS hT hU hW) rfl hl.1 (Nat.le_of_ble_eq_true rfl) dX10_commit_38 ⟨Nat.le_of_ble_eq_true rfl, Nat.le_of_ble_eq_true rfl⟩) hS ?_
      rintro _ H locs - hT hS
      exact J41 _ _ _ hT.nil hS (lv_sub hl [1, 0] rfl)
  · refine lv_bipush (v := (-3)) hx hb dX10_commit_14 (by decide) ?_
    exact x_ri hx hb hr hlk hQ (Nat.le_of_ble_eq_true rfl) (Nat.le_of_ble_eq_true rfl) hS dX10_commit_16 () ⟨_, rfl⟩ hT.nil

abbrev rm_X10_abort : Room := { frames := 2, cells := 0, slots := 0, locals := 81 }
set_option maxHeartbeats 4000000 in
set_option maxRecDepth 100000 in
theorem c_X10_abort (l : Launch) (E : XE) (K : Nat → Nat) (F : Nat → Nat → Nat) (G : XG) (a : Nat) (ha : K a = 12) : Met l yX10_abort (xw yX10_abort cX10_abort 2 (some .int)) rm_X10_abort (va_Pc [.ref a] (XP E K F G)) (XQ E (fun v (u : Unit) => ∃ r : Int32, v = .int r) (fun _ H => TW E K F G [] H)) 0 0 (xA E) := by
  refine x_enter (by decide) (Nat.le_of_ble_eq_true rfl) ?_
  intro p e s m args below meth c Q S hr hlk hnm hQ hP ls hl
  obtain ⟨hz, hK, hT⟩ := hP
  obtain ⟨hx, hb, -, -, -⟩ := id S
  obtain ⟨H, hT, hS, hgo⟩ : ∃ H : Heap, TW E K F G [] H ∧ va_S (xA E) s.heap H [] ∧ H = s.heap := ⟨_, hT, va_S.rf, rfl⟩
  rw [← hgo]
  have hl : lv_has ls 2 [(0, .ref a)] := hl
  refine lv_aload_n hx hb dX10_abort_0 rfl (lv_at hl 0 rfl) ?_
  refine gX10_18 S hK hT ha kf_X10_123 dX10_abort_1 (fun x1 hT => ?_)
  refine xi_zne (tgt := 10) hx hb (rfl : Int32.toInt x1 = x1.toInt) dX10_abort_4 (by decide) (fun c2 => ?_) (fun c2 => ?_)
  · refine lv_aload_n hx hb dX10_abort_10 rfl (lv_at hl 0 rfl) ?_
    refine gX10_8 S hK hT ha kf_X10_57 dX10_abort_11 (fun hk3 => ?_)
    refine x_clp (x_runV (b := (F a 8)) (As := []) (rest := []) S (c_X4_size l E K F G H (F a 8) hk3) mv_X4_size km_X10_232 rfl rfl ⟨Nat.le_of_ble_eq_true rfl, Nat.le_of_ble_eq_true rfl⟩ (rc_6 hK hT hk3) hK (fun _ => XPh.blind) (fun U hU hW => XPh.at hK hz hS hT hU hW) rfl hl.1 (Nat.le_of_ble_eq_true rfl) dX10_abort_14 ⟨Nat.le_of_ble_eq_true rfl, Nat.le_of_ble_eq_true rfl⟩) hS ?_
    rintro _ _ locs ⟨x4, rfl⟩ hS
    refine lv_istore_n (lv' := [(1, .int x4), (0, .ref a)]) hx hb dX10_abort_17 rfl hl (by decide) rfl (fun ls hl => ?_)
    refine lv_aload_n hx hb dX10_abort_18 rfl (lv_at hl 1 rfl) ?_
    refine gX10_3 S hK hT ha kf_X10_37 dX10_abort_19 (fun hk5 => ?_)
    refine lv_aload_n hx hb dX10_abort_22 rfl (lv_at hl 1 rfl) ?_
    refine gX10_4 S hK hT ha kf_X10_41 dX10_abort_23 (fun hk6 => ?_)
    refine x_cv0 (x_runV (b := (F a 3)) (As := [.ref (F a 4)]) (rest := []) S (c_X6_copy l E K F G (F a 3) (F a 4) hk5 hk6) mv_X6_copy km_X10_195 rfl rfl ⟨Nat.le_of_ble_eq_true rfl, Nat.le_of_ble_eq_true rfl⟩ (rc_8 hK hT hk5) hK (fun _ => XP.blind) (fun U hU hW => XP.at hK hz hS hT hU hW) rfl hl.1 (Nat.le_of_ble_eq_true rfl) dX10_abort_26 ⟨Nat.le_of_ble_eq_true rfl, Nat.le_of_ble_eq_true rfl⟩) hS ?_
    rintro _ H locs - hT hS
    refine lv_aload_n hx hb dX10_abort_29 rfl (lv_at hl 1 rfl) ?_
    refine x_cv0 (x_runV (b := a) (As := []) (rest := []) S (c_X10_close l E K F G a ha) mv_X10_close km_X10_229 rfl rfl ⟨Nat.le_of_ble_eq_true rfl, Nat.le_of_ble_eq_true rfl⟩ (rc_12 hK hT ha) hK (fun _ => XP.blind) (fun U hU hW => XP.at hK hz hS hT hU hW) rfl hl.1 (Nat.le_of_ble_eq_true rfl) dX10_abort_30 ⟨Nat.le_of_ble_eq_true rfl, Nat.le_of_ble_eq_true rfl⟩) hS ?_
    rintro _ H locs - hT hS
    refine lv_aload_n hx hb dX10_abort_33 rfl (lv_at hl 1 rfl) ?_
    refine gX10_16 S hK hT ha kf_X10_99 dX10_abort_34 (fun hk7 => ?_)
    refine lv_iconst (v := 3) hx hb dX10_abort_37 (by decide) ?_
    refine lv_dup2_11 hx hb dX10_abort_38 rfl rfl ?_
    refine al_0 S hK hT hk7 ar_27 (by decide) (by decide) dX10_abort_39 (fun x8 o9 => ?_)
    refine lv_iconst (v := 1) hx hb dX10_abort_40 (by decide) ?_
    refine xi_iadd hx hb (rfl : Int32.toInt x8 = x8.toInt) ((by decide) : Int32.toInt 1 = (1 : Int)) dX10_abort_41 (fun x10 t11 => ?_)
    refine as_0 S hK hT hS hk7 ar_27 aw_27 (by decide) (by decide) dX10_abort_42 (fun H locs hT hS => ?_)
    refine lv_iload_n hx hb dX10_abort_43 rfl (lv_at hl 0 rfl) ?_
    exact x_ri hx hb hr hlk hQ (Nat.le_of_ble_eq_true rfl) (Nat.le_of_ble_eq_true rfl) hS dX10_abort_44 () ⟨_, rfl⟩ hT.nil
  · refine lv_bipush (v := (-3)) hx hb dX10_abort_7 (by decide) ?_
    exact x_ri hx hb hr hlk hQ (Nat.le_of_ble_eq_true rfl) (Nat.le_of_ble_eq_true rfl) hS dX10_abort_9 () ⟨_, rfl⟩ hT.nil

abbrev rm_X10_mark : Room := { frames := 2, cells := 0, slots := 0, locals := 81 }
set_option maxHeartbeats 4000000 in
set_option maxRecDepth 100000 in
theorem c_X10_mark (l : Launch) (E : XE) (K : Nat → Nat) (F : Nat → Nat → Nat) (G : XG) (a : Nat) (ha : K a = 12) : Met l yX10_mark (xw yX10_mark cX10_mark 3 (some .int)) rm_X10_mark (va_Pc [.ref a] (XP E K F G)) (XQ E (fun v (u : Unit) => ∃ r : Int32, v = .int r) (fun _ H => TW E K F G [] H)) 0 0 (xA E) := by
  refine x_enter (by decide) (Nat.le_of_ble_eq_true rfl) ?_
  intro p e s m args below meth c Q S hr hlk hnm hQ hP ls hl
  obtain ⟨hz, hK, hT⟩ := hP
  obtain ⟨hx, hb, -, -, -⟩ := id S
  obtain ⟨H, hT, hS, hgo⟩ : ∃ H : Heap, TW E K F G [] H ∧ va_S (xA E) s.heap H [] ∧ H = s.heap := ⟨_, hT, va_S.rf, rfl⟩
  rw [← hgo]
  have hl : lv_has ls 3 [(0, .ref a)] := hl
  refine lv_aload_n hx hb dX10_mark_0 rfl (lv_at hl 0 rfl) ?_
  refine gX10_18 S hK hT ha kf_X10_123 dX10_mark_1 (fun x1 hT => ?_)
  refine xi_zne (tgt := 10) hx hb (rfl : Int32.toInt x1 = x1.toInt) dX10_mark_4 (by decide) (fun c2 => ?_) (fun c2 => ?_)
  · refine lv_aload_n hx hb dX10_mark_10 rfl (lv_at hl 0 rfl) ?_
    refine gX10_17 S hK hT ha kf_X10_233 dX10_mark_11 (fun x3 hT => ?_)
    refine lv_bipush (v := 8) hx hb dX10_mark_14 (by decide) ?_
    refine xi_clt (tgt := 22) hx hb (rfl : Int32.toInt x3 = x3.toInt) ((by decide) : Int32.toInt 8 = (8 : Int)) dX10_mark_16 (by decide) (fun c4 => ?_) (fun c4 => ?_)
    · refine lv_aload_n hx hb dX10_mark_22 rfl (lv_at hl 0 rfl) ?_
      refine kX10_17 (v := x3) S hK hT ha (List.mem_of_getElem? (i := 0) rfl) kf_X10_233 dX10_mark_23 ?_
      refine lv_istore_n (lv' := [(1, .int x3), (0, .ref a)]) hx hb dX10_mark_26 rfl hl (by decide) rfl (fun ls hl => ?_)
      refine lv_aload_n hx hb dX10_mark_27 rfl (lv_at hl 1 rfl) ?_
      refine lv_dup hx hb dX10_mark_28 rfl ?_
      refine kX10_17 (v := x3) S hK hT ha (List.mem_of_getElem? (i := 0) rfl) kf_X10_233 dX10_mark_29 ?_
      refine lv_iconst (v := 1) hx hb dX10_mark_32 (by decide) ?_
      refine xi_iadd hx hb (rfl : Int32.toInt x3 = x3.toInt) ((by decide) : Int32.toInt 1 = (1 : Int)) dX10_mark_33 (fun x5 t6 => ?_)
      refine pX10_17 (kq := [(a, 18, x1)]) S hK hT hS ha kf_X10_233 dX10_mark_34 (List.forall_mem_cons.mpr ⟨⟨List.mem_of_getElem? (i := 1) rfl, (show (18 : Nat) ≠ 17 by decide)⟩, fun _ h => by cases h⟩) (fun H locs hT hS => ?_)
      refine lv_aload_n hx hb dX10_mark_37 rfl (lv_at hl 1 rfl) ?_
      refine lv_iload_n hx hb dX10_mark_38 rfl (lv_at hl 0 rfl) ?_
      refine x_clp (x_runV (b := a) (As := [.int x3]) (rest := []) S (c_X10_rowsAtMark l E K F G H a x3 ha) mv_X10_rowsAtMark km_X10_236 rfl rfl ⟨Nat.le_of_ble_eq_true rfl, Nat.le_of_ble_eq_true rfl⟩ (rc_12 hK hT ha) hK (fun _ => XPh.blind) (fun U hU hW => XPh.at hK hz hS hT hU hW) rfl hl.1 (Nat.le_of_ble_eq_true rfl) dX10_mark_39 ⟨Nat.le_of_ble_eq_true rfl, Nat.le_of_ble_eq_true rfl⟩) hS ?_
      rintro _ _ locs (rfl | ⟨q8, rfl, hk9⟩) hS
      · refine lv_astore_nN (lv' := [(2, .null), (1, .int x3), (0, .ref a)]) hx hb dX10_mark_42 rfl hl (by decide) rfl (fun ls hl => ?_)
        refine lv_aload_nN hx hb dX10_mark_43 rfl (lv_at hl 0 rfl) ?_
        refine lv_ifnullN (tgt := 55) hx hb dX10_mark_44 (by decide) ?_
        refine lv_iload_n hx hb dX10_mark_55 rfl (lv_at hl 1 rfl) ?_
        exact x_ri hx hb hr hlk hQ (Nat.le_of_ble_eq_true rfl) (Nat.le_of_ble_eq_true rfl) hS dX10_mark_56 () ⟨_, rfl⟩ hT.nil
      · refine lv_astore_n (lv' := [(2, .ref q8), (1, .int x3), (0, .ref a)]) hx hb dX10_mark_42 rfl hl (by decide) rfl (fun ls hl => ?_)
        refine lv_aload_n hx hb dX10_mark_43 rfl (lv_at hl 0 rfl) ?_
        refine lv_ifnull hx hb dX10_mark_44 ?_
        refine lv_aload_n hx hb dX10_mark_47 rfl (lv_at hl 0 rfl) ?_
        refine lv_aload_n hx hb dX10_mark_48 rfl (lv_at hl 2 rfl) ?_
        refine gX10_3 S hK hT ha kf_X10_37 dX10_mark_49 (fun hk10 => ?_)
        refine x_cv0 (x_runV (b := q8) (As := [.ref (F a 3)]) (rest := []) S (c_X6_copy l E K F G q8 (F a 3) hk9 hk10) mv_X6_copy km_X10_195 rfl rfl ⟨Nat.le_of_ble_eq_true rfl, Nat.le_of_ble_eq_true rfl⟩ (rc_8 hK hT hk9) hK (fun _ => XP.blind) (fun U hU hW => XP.at hK hz hS hT hU hW) rfl hl.1 (Nat.le_of_ble_eq_true rfl) dX10_mark_52 ⟨Nat.le_of_ble_eq_true rfl, Nat.le_of_ble_eq_true rfl⟩) hS ?_
        rintro _ H locs - hT hS
        refine lv_iload_n hx hb dX10_mark_55 rfl (lv_at hl 1 rfl) ?_
        exact x_ri hx hb hr hlk hQ (Nat.le_of_ble_eq_true rfl) (Nat.le_of_ble_eq_true rfl) hS dX10_mark_56 () ⟨_, rfl⟩ hT.nil
    · refine lv_bipush (v := (-4)) hx hb dX10_mark_19 (by decide) ?_
      exact x_ri hx hb hr hlk hQ (Nat.le_of_ble_eq_true rfl) (Nat.le_of_ble_eq_true rfl) hS dX10_mark_21 () ⟨_, rfl⟩ hT.nil
  · refine lv_bipush (v := (-3)) hx hb dX10_mark_7 (by decide) ?_
    exact x_ri hx hb hr hlk hQ (Nat.le_of_ble_eq_true rfl) (Nat.le_of_ble_eq_true rfl) hS dX10_mark_9 () ⟨_, rfl⟩ hT.nil

abbrev rm_X10_back : Room := { frames := 8, cells := 8, slots := 800, locals := 194 }
set_option maxHeartbeats 4000000 in
set_option maxRecDepth 100000 in
theorem c_X10_back (l : Launch) (E : XE) (K : Nat → Nat) (F : Nat → Nat → Nat) (G : XG) (a : Nat) (p0 : Int32) (ha : K a = 12) : Met l yX10_back (xw yX10_back cX10_back 4 (some .int)) rm_X10_back (va_Pc [.ref a, .int p0] (XP E K F G)) (XQ E (fun v (u : Unit) => ∃ r : Int32, v = .int r) (fun _ H => TW E K F G [] H)) 8 800 (xA E) := by
  refine x_enter (by decide) (Nat.le_of_ble_eq_true rfl) ?_
  intro p e s m args below meth c Q S hr hlk hnm hQ hP ls hl
  obtain ⟨hz, hK, hT⟩ := hP
  obtain ⟨hx, hb, -, -, -⟩ := id S
  obtain ⟨H, hT, hS, hgo⟩ : ∃ H : Heap, TW E K F G [] H ∧ va_S (xA E) s.heap H [] ∧ H = s.heap := ⟨_, hT, va_S.rf, rfl⟩
  rw [← hgo]
  have hl : lv_has ls 4 [(0, .ref a), (1, .int p0)] := hl
  refine lv_aload_n hx hb dX10_back_0 rfl (lv_at hl 0 rfl) ?_
  refine gX10_14 S hK hT ha kf_X10_91 dX10_back_1 (fun hk1 => ?_)
  refine x_cv (x_runV (b := (F a 14)) (As := []) (rest := []) S (c_X9_clear l E K F G (F a 14) hk1) mv_X9_clear km_X10_113 rfl rfl ⟨Nat.le_of_ble_eq_true rfl, Nat.le_of_ble_eq_true rfl⟩ (rc_11 hK hT hk1) hK (fun _ => XP.blind) (fun U hU hW => XP.at hK hz hS hT hU hW) rfl hl.1 (Nat.le_of_ble_eq_true rfl) dX10_back_4 ⟨Nat.le_of_ble_eq_true rfl, Nat.le_of_ble_eq_true rfl⟩) hS ?_
  rintro _ H locs - hT hS
  refine lv_aload_n hx hb dX10_back_7 rfl (lv_at hl 0 rfl) ?_
  refine gX10_18 S hK hT ha kf_X10_123 dX10_back_8 (fun x2 hT => ?_)
  refine xi_zne (tgt := 17) hx hb (rfl : Int32.toInt x2 = x2.toInt) dX10_back_11 (by decide) (fun c3 => ?_) (fun c3 => ?_)
  · refine lv_aload_n hx hb dX10_back_17 rfl (lv_at hl 0 rfl) ?_
    refine lv_iload_n hx hb dX10_back_18 rfl (lv_at hl 1 rfl) ?_
    refine x_clp (x_runV (b := a) (As := [.int p0]) (rest := []) S (c_X10_rowsAtMark l E K F G H a p0 ha) mv_X10_rowsAtMark km_X10_236 rfl rfl ⟨Nat.le_of_ble_eq_true rfl, Nat.le_of_ble_eq_true rfl⟩ (rc_12 hK hT ha) hK (fun _ => XPh.blind) (fun U hU hW => XPh.at hK hz hS hT hU hW) rfl hl.1 (Nat.le_of_ble_eq_true rfl) dX10_back_19 ⟨Nat.le_of_ble_eq_true rfl, Nat.le_of_ble_eq_true rfl⟩) hS ?_
    rintro _ _ locs (rfl | ⟨q5, rfl, hk6⟩) hS
    · refine lv_astore_nN (lv' := [(2, .null), (0, .ref a), (1, .int p0)]) hx hb dX10_back_22 rfl hl (by decide) rfl (fun ls hl => ?_)
      refine lv_aload_nN hx hb dX10_back_23 rfl (lv_at hl 0 rfl) ?_
      refine lv_ifnonnullN hx hb dX10_back_24 ?_
      refine lv_bipush (v := (-2)) hx hb dX10_back_27 (by decide) ?_
      exact x_ri hx hb hr hlk hQ (Nat.le_of_ble_eq_true rfl) (Nat.le_of_ble_eq_true rfl) hS dX10_back_29 () ⟨_, rfl⟩ hT.nil
    · refine lv_astore_n (lv' := [(2, .ref q5), (0, .ref a), (1, .int p0)]) hx hb dX10_back_22 rfl hl (by decide) rfl (fun ls hl => ?_)
      refine lv_aload_n hx hb dX10_back_23 rfl (lv_at hl 0 rfl) ?_
      refine lv_ifnonnull (tgt := 30) hx hb dX10_back_24 (by decide) ?_
      refine lv_aload_n hx hb dX10_back_30 rfl (lv_at hl 1 rfl) ?_
      refine lv_aload_n hx hb dX10_back_31 rfl (lv_at hl 1 rfl) ?_
      refine gX10_9 S hK hT ha kf_X10_61 dX10_back_32 (fun hk7 => ?_)
      refine lv_aload_n hx hb dX10_back_35 rfl (lv_at hl 1 rfl) ?_
      refine gX10_6 S hK hT ha kf_X10_47 dX10_back_36 (fun hk8 => ?_)
      refine lv_aload_n hx hb dX10_back_39 rfl (lv_at hl 0 rfl) ?_
      refine lv_iconst (v := 2) hx hb dX10_back_40 (by decide) ?_
      refine x_cv0 (x_runV (b := a) (As := [.ref (F a 9), .ref (F a 6), .ref q5, .int 2]) (rest := []) S (c_X10_gather l E K F G a (F a 9) (F a 6) q5 2 ha hk7 hk8 hk6) mv_X10_gather km_X10_240 rfl rfl ⟨Nat.le_of_ble_eq_true rfl, Nat.le_of_ble_eq_true rfl⟩ (rc_12 hK hT ha) hK (fun _ => XP.blind) (fun U hU hW => XP.at hK hz hS hT hU hW) rfl hl.1 (Nat.le_of_ble_eq_true rfl) dX10_back_41 ⟨Nat.le_of_ble_eq_true rfl, Nat.le_of_ble_eq_true rfl⟩) hS ?_
      rintro _ H locs - hT hS
      refine lv_aload_n hx hb dX10_back_44 rfl (lv_at hl 1 rfl) ?_
      refine gX10_9 S hK hT ha kf_X10_61 dX10_back_45 (fun hk9 => ?_)
      refine x_clp (x_runV (b := (F a 9)) (As := []) (rest := []) S (c_X4_firstFailing l E K F G H (F a 9) hk9) mv_X4_firstFailing km_X10_244 rfl rfl ⟨Nat.le_of_ble_eq_true rfl, Nat.le_of_ble_eq_true rfl⟩ (rc_6 hK hT hk9) hK (fun _ => XPh.blind) (fun U hU hW => XPh.at hK hz hS hT hU hW) rfl hl.1 (Nat.le_of_ble_eq_true rfl) dX10_back_48 ⟨Nat.le_of_ble_eq_true rfl, Nat.le_of_ble_eq_true rfl⟩) hS ?_
      rintro _ _ locs ⟨x10, rfl⟩ hS
      refine lv_istore_n (lv' := [(3, .int x10), (2, .ref q5), (0, .ref a), (1, .int p0)]) hx hb dX10_back_51 rfl hl (by decide) rfl (fun ls hl => ?_)
      refine lv_iload_n hx hb dX10_back_52 rfl (lv_at hl 0 rfl) ?_
      refine lv_iconst (v := (-1)) hx hb dX10_back_53 (by decide) ?_
      refine xi_ceq (tgt := 69) hx hb (rfl : Int32.toInt x10 = x10.toInt) ((by decide) : Int32.toInt (-1) = (-1 : Int)) dX10_back_54 (by decide) (fun c11 => ?_) (fun c11 => ?_)
      · refine lv_aload_n hx hb dX10_back_69 rfl (lv_at hl 2 rfl) ?_
        refine lv_aload_n hx hb dX10_back_70 rfl (lv_at hl 2 rfl) ?_
        refine gX10_9 S hK hT ha kf_X10_61 dX10_back_71 (fun hk12 => ?_)
        refine lv_aload_n hx hb dX10_back_74 rfl (lv_at hl 2 rfl) ?_
        refine gX10_3 S hK hT ha kf_X10_37 dX10_back_75 (fun hk13 => ?_)
        refine lv_aload_n hx hb dX10_back_78 rfl (lv_at hl 1 rfl) ?_
        refine lv_iconst (v := 1) hx hb dX10_back_79 (by decide) ?_
        refine x_cv0 (x_runV (b := a) (As := [.ref (F a 9), .ref (F a 3), .ref q5, .int 1]) (rest := []) S (c_X10_gather l E K F G a (F a 9) (F a 3) q5 1 ha hk12 hk13 hk6) mv_X10_gather km_X10_240 rfl rfl ⟨Nat.le_of_ble_eq_true rfl, Nat.le_of_ble_eq_true rfl⟩ (rc_12 hK hT ha) hK (fun _ => XP.blind) (fun U hU hW => XP.at hK hz hS hT hU hW) rfl hl.1 (Nat.le_of_ble_eq_true rfl) dX10_back_80 ⟨Nat.le_of_ble_eq_true rfl, Nat.le_of_ble_eq_true rfl⟩) hS ?_
        rintro _ H locs - hT hS
        refine lv_aload_n hx hb dX10_back_83 rfl (lv_at hl 2 rfl) ?_
        refine lv_iconst (v := 1) hx hb dX10_back_84 (by decide) ?_
        refine x_cv0 (x_runV (b := a) (As := [.int 1]) (rest := []) S (c_X10_tally l E K F G a 1 ha (Or.inr rfl)) mv_X10_tally km_X10_251 rfl rfl ⟨Nat.le_of_ble_eq_true rfl, Nat.le_of_ble_eq_true rfl⟩ (rc_12 hK hT ha) hK (fun _ => XP.blind) (fun U hU hW => XP.at hK hz hS hT hU hW) rfl hl.1 (Nat.le_of_ble_eq_true rfl) dX10_back_85 ⟨Nat.le_of_ble_eq_true rfl, Nat.le_of_ble_eq_true rfl⟩) hS ?_
        rintro _ H locs - hT hS
        refine lv_aload_n hx hb dX10_back_88 rfl (lv_at hl 2 rfl) ?_
        refine gX10_3 S hK hT ha kf_X10_37 dX10_back_89 (fun hk14 => ?_)
        refine lv_aload_n hx hb dX10_back_92 rfl (lv_at hl 1 rfl) ?_
        refine x_cv0 (x_runV (b := (F a 3)) (As := [.ref q5]) (rest := []) S (c_X6_copy l E K F G (F a 3) q5 hk14 hk6) mv_X6_copy km_X10_195 rfl rfl ⟨Nat.le_of_ble_eq_true rfl, Nat.le_of_ble_eq_true rfl⟩ (rc_8 hK hT hk14) hK (fun _ => XP.blind) (fun U hU hW => XP.at hK hz hS hT hU hW) rfl hl.1 (Nat.le_of_ble_eq_true rfl) dX10_back_93 ⟨Nat.le_of_ble_eq_true rfl, Nat.le_of_ble_eq_true rfl⟩) hS ?_
        rintro _ H locs - hT hS
        refine lv_aload_n hx hb dX10_back_96 rfl (lv_at hl 2 rfl) ?_
        refine lv_iload_n hx hb dX10_back_97 rfl (lv_at hl 3 rfl) ?_
        refine lv_iconst (v := 1) hx hb dX10_back_98 (by decide) ?_
        refine xi_iadd hx hb (rfl : Int32.toInt p0 = p0.toInt) ((by decide) : Int32.toInt 1 = (1 : Int)) dX10_back_99 (fun x15 t16 => ?_)
        refine pX10_17 (kq := []) S hK hT hS ha kf_X10_233 dX10_back_100 (fun _ h => by cases h) (fun H locs hT hS => ?_)
        refine lv_aload_n hx hb dX10_back_103 rfl (lv_at hl 2 rfl) ?_
        refine lv_aload_n hx hb dX10_back_104 rfl (lv_at hl 2 rfl) ?_
        refine gX10_8 S hK hT ha kf_X10_57 dX10_back_105 (fun hk17 => ?_)
        refine lv_aload_n hx hb dX10_back_108 rfl (lv_at hl 2 rfl) ?_
        refine gX10_4 S hK hT ha kf_X10_41 dX10_back_109 (fun hk18 => ?_)
        refine lv_aload_n hx hb dX10_back_112 rfl (lv_at hl 2 rfl) ?_
        refine gX10_3 S hK hT ha kf_X10_37 dX10_back_113 (fun hk19 => ?_)
        refine lv_iconst (v := 1) hx hb dX10_back_116 (by decide) ?_
        refine x_cv0 (x_runV (b := a) (As := [.ref (F a 8), .ref (F a 4), .ref (F a 3), .int 1]) (rest := []) S (c_X10_gather l E K F G a (F a 8) (F a 4) (F a 3) 1 ha hk17 hk18 hk19) mv_X10_gather km_X10_240 rfl rfl ⟨Nat.le_of_ble_eq_true rfl, Nat.le_of_ble_eq_true rfl⟩ (rc_12 hK hT ha) hK (fun _ => XP.blind) (fun U hU hW => XP.at hK hz hS hT hU hW) rfl hl.1 (Nat.le_of_ble_eq_true rfl) dX10_back_117 ⟨Nat.le_of_ble_eq_true rfl, Nat.le_of_ble_eq_true rfl⟩) hS ?_
        rintro _ H locs - hT hS
        refine lv_aload_n hx hb dX10_back_120 rfl (lv_at hl 2 rfl) ?_
        refine gX10_8 S hK hT ha kf_X10_57 dX10_back_121 (fun hk20 => ?_)
        refine x_clp (x_runV (b := (F a 8)) (As := []) (rest := []) S (c_X4_size l E K F G H (F a 8) hk20) mv_X4_size km_X10_232 rfl rfl ⟨Nat.le_of_ble_eq_true rfl, Nat.le_of_ble_eq_true rfl⟩ (rc_6 hK hT hk20) hK (fun _ => XPh.blind) (fun U hU hW => XPh.at hK hz hS hT hU hW) rfl hl.1 (Nat.le_of_ble_eq_true rfl) dX10_back_124 ⟨Nat.le_of_ble_eq_true rfl, Nat.le_of_ble_eq_true rfl⟩) hS ?_
        rintro _ _ locs ⟨x21, rfl⟩ hS
        exact x_ri hx hb hr hlk hQ (Nat.le_of_ble_eq_true rfl) (Nat.le_of_ble_eq_true rfl) hS dX10_back_127 () ⟨_, rfl⟩ hT.nil
      · refine lv_aload_n hx hb dX10_back_57 rfl (lv_at hl 2 rfl) ?_
        refine lv_aload_n hx hb dX10_back_58 rfl (lv_at hl 2 rfl) ?_
        refine gX10_9 S hK hT ha kf_X10_61 dX10_back_59 (fun hk22 => ?_)
        refine lv_iload_n hx hb dX10_back_62 rfl (lv_at hl 0 rfl) ?_
        refine x_cv (x_runV (b := a) (As := [.ref (F a 9), .int x10]) (rest := []) S (c_X10_tellVerdict l E K F G a (F a 9) x10 ha hk22) mv_X10_tellVerdict km_X10_247 rfl rfl ⟨Nat.le_of_ble_eq_true rfl, Nat.le_of_ble_eq_true rfl⟩ (rc_12 hK hT ha) hK (fun _ => XP.blind) (fun U hU hW => XP.at hK hz hS hT hU hW) rfl hl.1 (Nat.le_of_ble_eq_true rfl) dX10_back_63 ⟨Nat.le_of_ble_eq_true rfl, Nat.le_of_ble_eq_true rfl⟩) hS ?_
        rintro _ H locs - hT hS
        refine lv_bipush (v := (-5)) hx hb dX10_back_66 (by decide) ?_
        exact x_ri hx hb hr hlk hQ (Nat.le_of_ble_eq_true rfl) (Nat.le_of_ble_eq_true rfl) hS dX10_back_68 () ⟨_, rfl⟩ hT.nil
  · refine lv_bipush (v := (-3)) hx hb dX10_back_14 (by decide) ?_
    exact x_ri hx hb hr hlk hQ (Nat.le_of_ble_eq_true rfl) (Nat.le_of_ble_eq_true rfl) hS dX10_back_16 () ⟨_, rfl⟩ hT.nil

theorem z_X10_rows_1 (a0 : Int) (r0 : -2147483648 ≤ a0 ∧ a0 < 2147483648) : (¬ a0 = 0 ∧ ¬ a0 = 1) ∨ (a0 = 0) ∨ (a0 = 1) := by omega
abbrev rm_X10_rows : Room := { frames := 3, cells := 0, slots := 0, locals := 62 }
set_option maxHeartbeats 4000000 in
set_option maxRecDepth 100000 in
theorem c_X10_rows (l : Launch) (E : XE) (K : Nat → Nat) (F : Nat → Nat → Nat) (G : XG) (h0 : Heap) (a : Nat) (p0 : Int32) (p1 : Int32) (ha : K a = 12) : Met l yX10_rows (xw yX10_rows cX10_rows 3 (some .int)) rm_X10_rows (va_Pc [.ref a, .int p0, .int p1] (XPh E K F G h0)) (XQ E (fun v (u : Unit) => ∃ r : Int32, v = .int r) (fun _ H => H = h0)) 0 0 (xA E) := by
  refine x_enter (by decide) (Nat.le_of_ble_eq_true rfl) ?_
  intro p e s m args below meth c Q S hr hlk hnm hQ hP ls hl
  obtain ⟨⟨hz, hK, hT⟩, hh⟩ := hP
  obtain ⟨hx, hb, -, -, -⟩ := id S
  have hS : va_S (xA E) s.heap s.heap [] := va_S.rf
  have hl : lv_has ls 3 [(0, .ref a), (1, .int p0), (2, .int p1)] := hl
  refine lv_iload_n hx hb dX10_rows_0 rfl (lv_at hl 1 rfl) ?_
  refine x_clp (x_runS (As := [.int p0]) (rest := []) S (c_X10_isTable l E K F G s.heap p0) ms_X10_isTable km_X10_179 rfl rfl ⟨Nat.le_of_ble_eq_true rfl, Nat.le_of_ble_eq_true rfl⟩ hK (fun _ => XPh.blind) (fun U hU hW => XPh.at hK hz hS hT hU hW) rfl hl.1 (Nat.le_of_ble_eq_true rfl) dX10_rows_1 ⟨Nat.le_of_ble_eq_true rfl, Nat.le_of_ble_eq_true rfl⟩) hS ?_
  rintro _ _ locs ⟨x1, rfl, b2, t3⟩ hS
  have t3 : (x1.toInt = 1 ∧ 0 ≤ p0.toInt ∧ p0.toInt < 3) ∨ (x1.toInt = 0 ∧ (p0.toInt < 0 ∨ 3 ≤ p0.toInt)) := t3
  refine xi_zne (tgt := 9) hx hb (rfl : Int32.toInt x1 = x1.toInt) dX10_rows_4 (by decide) (fun c4 => ?_) (fun c4 => ?_)
  · refine lv_iload_n hx hb dX10_rows_9 rfl (lv_at hl 2 rfl) ?_
    rcases ((z_X10_rows_1 p1.toInt (xr p1)) : (¬ p1.toInt = 0 ∧ ¬ p1.toInt = 1) ∨ (p1.toInt = 0) ∨ (p1.toInt = 1)) with c5 | c5 | c5
    · refine lv_lookup (off := 44) (tgt := 54) hx hb dX10_rows_10 (by decide) (by first | (simp only [Op.lookupswitch.offset_cons, Op.lookupswitch.offset_nil]; (repeat' split) <;> omega) | (simp [Op.lookupswitch.offset]; (repeat' split) <;> omega) | (simp [Op.lookupswitch.offset]; omega)) (by decide) ?_
      refine lv_iconst (v := (-1)) hx hb dX10_rows_54 (by decide) ?_
      exact x_ri hx hb hr hlk hQ (Nat.le_of_ble_eq_true rfl) (Nat.le_of_ble_eq_true rfl) hS dX10_rows_55 () ⟨_, rfl⟩ hh
    · refine lv_lookup (off := 26) (tgt := 36) hx hb dX10_rows_10 (by decide) (by rw [c5]; rfl) (by decide) ?_
      refine lv_aload_n hx hb dX10_rows_36 rfl (lv_at hl 0 rfl) ?_
      refine gX10_3 S hK hT ha kf_X10_37 dX10_rows_37 (fun hk6 => ?_)
      refine lv_iload_n hx hb dX10_rows_40 rfl (lv_at hl 1 rfl) ?_
      refine x_clp (x_runV (b := (F a 3)) (As := [.int p0]) (rest := []) S (c_X6_size l E K F G s.heap (F a 3) p0 hk6) mv_X6_size km_X10_269 rfl rfl ⟨Nat.le_of_ble_eq_true rfl, Nat.le_of_ble_eq_true rfl⟩ (rc_8 hK hT hk6) hK (fun _ => XPh.blind) (fun U hU hW => XPh.at hK hz hS hT hU hW) rfl hl.1 (Nat.le_of_ble_eq_true rfl) dX10_rows_41 ⟨Nat.le_of_ble_eq_true rfl, Nat.le_of_ble_eq_true rfl⟩) hS ?_
      rintro _ _ locs ⟨x7, rfl⟩ hS
      exact x_ri hx hb hr hlk hQ (Nat.le_of_ble_eq_true rfl) (Nat.le_of_ble_eq_true rfl) hS dX10_rows_44 () ⟨_, rfl⟩ hh
    · refine lv_lookup (off := 35) (tgt := 45) hx hb dX10_rows_10 (by decide) (by rw [c5]; rfl) (by decide) ?_
      refine lv_aload_n hx hb dX10_rows_45 rfl (lv_at hl 0 rfl) ?_
      refine gX10_3 S hK hT ha kf_X10_37 dX10_rows_46 (fun hk8 => ?_)
      refine lv_iload_n hx hb dX10_rows_49 rfl (lv_at hl 1 rfl) ?_
      refine x_clp (x_runV (b := (F a 3)) (As := [.int p0]) (rest := []) S (c_X6_keyBits l E K F G s.heap (F a 3) p0 hk8) mv_X6_keyBits km_X10_271 rfl rfl ⟨Nat.le_of_ble_eq_true rfl, Nat.le_of_ble_eq_true rfl⟩ (rc_8 hK hT hk8) hK (fun _ => XPh.blind) (fun U hU hW => XPh.at hK hz hS hT hU hW) rfl hl.1 (Nat.le_of_ble_eq_true rfl) dX10_rows_50 ⟨Nat.le_of_ble_eq_true rfl, Nat.le_of_ble_eq_true rfl⟩) hS ?_
      rintro _ _ locs ⟨x9, rfl⟩ hS
      exact x_ri hx hb hr hlk hQ (Nat.le_of_ble_eq_true rfl) (Nat.le_of_ble_eq_true rfl) hS dX10_rows_53 () ⟨_, rfl⟩ hh
  · refine lv_iconst (v := (-1)) hx hb dX10_rows_7 (by decide) ?_
    exact x_ri hx hb hr hlk hQ (Nat.le_of_ble_eq_true rfl) (Nat.le_of_ble_eq_true rfl) hS dX10_rows_8 () ⟨_, rfl⟩ hh

theorem z_X10_told_1 (a0 : Int) (r0 : -2147483648 ≤ a0 ∧ a0 < 2147483648) : (a0 < 0 ∨ 9 < a0) ∨ (a0 = 0) ∨ (a0 = 1) ∨ (a0 = 2) ∨ (a0 = 3) ∨ (a0 = 4) ∨ (a0 = 5) ∨ (a0 = 6) ∨ (a0 = 7) ∨ (a0 = 8) ∨ (a0 = 9) := by omega
abbrev rm_X10_told : Room := { frames := 3, cells := 0, slots := 0, locals := 65 }
set_option maxHeartbeats 4000000 in
set_option maxRecDepth 100000 in
theorem c_X10_told (l : Launch) (E : XE) (K : Nat → Nat) (F : Nat → Nat → Nat) (G : XG) (h0 : Heap) (a : Nat) (p0 : Int32) (p1 : Int32) (ha : K a = 12) : Met l yX10_told (xw yX10_told cX10_told 4 (some .int)) rm_X10_told (va_Pc [.ref a, .int p0, .int p1] (XPh E K F G h0)) (XQ E (fun v (u : Unit) => ∃ r : Int32, v = .int r) (fun _ H => H = h0)) 0 0 (xA E) := by
  refine x_enter (by decide) (Nat.le_of_ble_eq_true rfl) ?_
  intro p e s m args below meth c Q S hr hlk hnm hQ hP ls hl
  obtain ⟨⟨hz, hK, hT⟩, hh⟩ := hP
  obtain ⟨hx, hb, -, -, -⟩ := id S
  have hS : va_S (xA E) s.heap s.heap [] := va_S.rf
  have hl : lv_has ls 4 [(0, .ref a), (1, .int p0), (2, .int p1)] := hl
  refine lv_aload_n hx hb dX10_told_0 rfl (lv_at hl 0 rfl) ?_
  refine gX10_2 S hK hT ha kf_X10_30 dX10_told_1 (fun hk1 => ?_)
  refine lv_iload_n hx hb dX10_told_4 rfl (lv_at hl 1 rfl) ?_
  refine x_clp (x_runV (b := (F a 2)) (As := [.int p0]) (rest := []) S (c_X0_get l E K F G s.heap (F a 2) p0 hk1) mv_X0_get km_X10_159 rfl rfl ⟨Nat.le_of_ble_eq_true rfl, Nat.le_of_ble_eq_true rfl⟩ (rc_2 hK hT hk1) hK (fun _ => XPh.blind) (fun U hU hW => XPh.at hK hz hS hT hU hW) rfl hl.1 (Nat.le_of_ble_eq_true rfl) dX10_told_5 ⟨Nat.le_of_ble_eq_true rfl, Nat.le_of_ble_eq_true rfl⟩) hS ?_
  rintro _ _ locs (rfl | ⟨q3, rfl, hk4⟩) hS
  · refine lv_astore_nN (lv' := [(3, .null), (0, .ref a), (1, .int p0), (2, .int p1)]) hx hb dX10_told_8 rfl hl (by decide) rfl (fun ls hl => ?_)
    refine lv_aload_nN hx hb dX10_told_9 rfl (lv_at hl 0 rfl) ?_
    refine lv_ifnonnullN hx hb dX10_told_10 ?_
    refine lv_ldcw (v := (-2147483648)) hx hb S.2.2.2.1 (S.2.2.2.2 _ (List.mem_cons_of_mem _ kc_X10_274)) dX10_told_13 ?_
    exact x_ri hx hb hr hlk hQ (Nat.le_of_ble_eq_true rfl) (Nat.le_of_ble_eq_true rfl) hS dX10_told_16 () ⟨_, rfl⟩ hh
  · refine lv_astore_n (lv' := [(3, .ref q3), (0, .ref a), (1, .int p0), (2, .int p1)]) hx hb dX10_told_8 rfl hl (by decide) rfl (fun ls hl => ?_)
    refine lv_aload_n hx hb dX10_told_9 rfl (lv_at hl 0 rfl) ?_
    refine lv_ifnonnull (tgt := 17) hx hb dX10_told_10 (by decide) ?_
    refine lv_iload_n hx hb dX10_told_17 rfl (lv_at hl 3 rfl) ?_
    rcases ((z_X10_told_1 p1.toInt (xr p1)) : (p1.toInt < 0 ∨ 9 < p1.toInt) ∨ (p1.toInt = 0) ∨ (p1.toInt = 1) ∨ (p1.toInt = 2) ∨ (p1.toInt = 3) ∨ (p1.toInt = 4) ∨ (p1.toInt = 5) ∨ (p1.toInt = 6) ∨ (p1.toInt = 7) ∨ (p1.toInt = 8) ∨ (p1.toInt = 9)) with c5 | c5 | c5 | c5 | c5 | c5 | c5 | c5 | c5 | c5 | c5
    · refine lv_tableOut (tgt := 134) hx hb dX10_told_18 c5 (by decide) ?_
      refine lv_ldcw (v := (-2147483648)) hx hb S.2.2.2.1 (S.2.2.2.2 _ (List.mem_cons_of_mem _ kc_X10_274)) dX10_told_134 ?_
      exact x_ri hx hb hr hlk hQ (Nat.le_of_ble_eq_true rfl) (Nat.le_of_ble_eq_true rfl) hS dX10_told_137 () ⟨_, rfl⟩ hh
    · refine lv_tableIn (off := 54) (tgt := 72) hx hb dX10_told_18 (by rw [c5]; decide) (by rw [c5]; decide) (by rw [c5]; rfl) (by decide) ?_
      refine lv_aload_n hx hb dX10_told_72 rfl (lv_at hl 0 rfl) ?_
      refine gX7_0 S hK hT hk4 kf_X10_140 dX10_told_73 (fun x6 hT => ?_)
      exact x_ri hx hb hr hlk hQ (Nat.le_of_ble_eq_true rfl) (Nat.le_of_ble_eq_true rfl) hS dX10_told_76 () ⟨_, rfl⟩ hh
    · refine lv_tableIn (off := 59) (tgt := 77) hx hb dX10_told_18 (by rw [c5]; decide) (by rw [c5]; decide) (by rw [c5]; rfl) (by decide) ?_
      refine lv_aload_n hx hb dX10_told_77 rfl (lv_at hl 0 rfl) ?_
      refine gX7_2 S hK hT hk4 kf_X10_275 dX10_told_78 (fun x7 hT => ?_)
      exact x_ri hx hb hr hlk hQ (Nat.le_of_ble_eq_true rfl) (Nat.le_of_ble_eq_true rfl) hS dX10_told_81 () ⟨_, rfl⟩ hh
    · refine lv_tableIn (off := 64) (tgt := 82) hx hb dX10_told_18 (by rw [c5]; decide) (by rw [c5]; decide) (by rw [c5]; rfl) (by decide) ?_
      refine lv_aload_n hx hb dX10_told_82 rfl (lv_at hl 0 rfl) ?_
      refine gX7_3 S hK hT hk4 kf_X10_278 dX10_told_83 (fun x8 hT => ?_)
      exact x_ri hx hb hr hlk hQ (Nat.le_of_ble_eq_true rfl) (Nat.le_of_ble_eq_true rfl) hS dX10_told_86 () ⟨_, rfl⟩ hh
    · refine lv_tableIn (off := 69) (tgt := 87) hx hb dX10_told_18 (by rw [c5]; decide) (by rw [c5]; decide) (by rw [c5]; rfl) (by decide) ?_
      refine lv_aload_n hx hb dX10_told_87 rfl (lv_at hl 0 rfl) ?_
      refine gX7_4 S hK hT hk4 kf_X10_281 dX10_told_88 (fun x9 hT => ?_)
      exact x_ri hx hb hr hlk hQ (Nat.le_of_ble_eq_true rfl) (Nat.le_of_ble_eq_true rfl) hS dX10_told_91 () ⟨_, rfl⟩ hh
    · refine lv_tableIn (off := 74) (tgt := 92) hx hb dX10_told_18 (by rw [c5]; decide) (by rw [c5]; decide) (by rw [c5]; rfl) (by decide) ?_
      refine lv_aload_n hx hb dX10_told_92 rfl (lv_at hl 0 rfl) ?_
      refine gX7_5 S hK hT hk4 kf_X10_284 dX10_told_93 (fun x10 hT => ?_)
      exact x_ri hx hb hr hlk hQ (Nat.le_of_ble_eq_true rfl) (Nat.le_of_ble_eq_true rfl) hS dX10_told_96 () ⟨_, rfl⟩ hh
    · refine lv_tableIn (off := 79) (tgt := 97) hx hb dX10_told_18 (by rw [c5]; decide) (by rw [c5]; decide) (by rw [c5]; rfl) (by decide) ?_
      refine lv_aload_n hx hb dX10_told_97 rfl (lv_at hl 0 rfl) ?_
      refine gX7_6 S hK hT hk4 kf_X10_287 dX10_told_98 (fun x11 hT => ?_)
      exact x_ri hx hb hr hlk hQ (Nat.le_of_ble_eq_true rfl) (Nat.le_of_ble_eq_true rfl) hS dX10_told_101 () ⟨_, rfl⟩ hh
    · refine lv_tableIn (off := 84) (tgt := 102) hx hb dX10_told_18 (by rw [c5]; decide) (by rw [c5]; decide) (by rw [c5]; rfl) (by decide) ?_
      refine lv_aload_n hx hb dX10_told_102 rfl (lv_at hl 0 rfl) ?_
      refine gX7_9 S hK hT hk4 kf_X10_170 dX10_told_103 (fun x12 hT => ?_)
      refine xi_zeq (tgt := 113) hx hb (rfl : Int32.toInt x12 = x12.toInt) dX10_told_106 (by decide) (fun c13 => ?_) (fun c13 => ?_)
      · refine lv_iconst (v := 0) hx hb dX10_told_113 (by decide) ?_
        exact x_ri hx hb hr hlk hQ (Nat.le_of_ble_eq_true rfl) (Nat.le_of_ble_eq_true rfl) hS dX10_told_114 () ⟨_, rfl⟩ hh
      · refine lv_iconst (v := 1) hx hb dX10_told_109 (by decide) ?_
        refine lv_goto (tgt := 114) hx hb dX10_told_110 (by decide) ?_
        exact x_ri hx hb hr hlk hQ (Nat.le_of_ble_eq_true rfl) (Nat.le_of_ble_eq_true rfl) hS dX10_told_114 () ⟨_, rfl⟩ hh
    · refine lv_tableIn (off := 97) (tgt := 115) hx hb dX10_told_18 (by rw [c5]; decide) (by rw [c5]; decide) (by rw [c5]; rfl) (by decide) ?_
      refine lv_aload_n hx hb dX10_told_115 rfl (lv_at hl 0 rfl) ?_
      refine gX7_8 S hK hT hk4 kf_X10_290 dX10_told_116 (fun x14 hT => ?_)
      exact x_ri hx hb hr hlk hQ (Nat.le_of_ble_eq_true rfl) (Nat.le_of_ble_eq_true rfl) hS dX10_told_119 () ⟨_, rfl⟩ hh
    · refine lv_tableIn (off := 102) (tgt := 120) hx hb dX10_told_18 (by rw [c5]; decide) (by rw [c5]; decide) (by rw [c5]; rfl) (by decide) ?_
      refine lv_aload_n hx hb dX10_told_120 rfl (lv_at hl 0 rfl) ?_
      refine gX7_7 S hK hT hk4 kf_X10_293 dX10_told_121 (fun x15 hT => ?_)
      exact x_ri hx hb hr hlk hQ (Nat.le_of_ble_eq_true rfl) (Nat.le_of_ble_eq_true rfl) hS dX10_told_124 () ⟨_, rfl⟩ hh
    · refine lv_tableIn (off := 107) (tgt := 125) hx hb dX10_told_18 (by rw [c5]; decide) (by rw [c5]; decide) (by rw [c5]; rfl) (by decide) ?_
      refine lv_aload_n hx hb dX10_told_125 rfl (lv_at hl 1 rfl) ?_
      refine gX10_8 S hK hT ha kf_X10_57 dX10_told_126 (fun hk16 => ?_)
      refine lv_iload_n hx hb dX10_told_129 rfl (lv_at hl 2 rfl) ?_
      refine x_clp (x_runV (b := (F a 8)) (As := [.int p0]) (rest := []) S (c_X4_ofRule l E K F G s.heap (F a 8) p0 hk16) mv_X4_ofRule km_X10_296 rfl rfl ⟨Nat.le_of_ble_eq_true rfl, Nat.le_of_ble_eq_true rfl⟩ (rc_6 hK hT hk16) hK (fun _ => XPh.blind) (fun U hU hW => XPh.at hK hz hS hT hU hW) rfl hl.1 (Nat.le_of_ble_eq_true rfl) dX10_told_130 ⟨Nat.le_of_ble_eq_true rfl, Nat.le_of_ble_eq_true rfl⟩) hS ?_
      rintro _ _ locs ⟨x17, rfl⟩ hS
      exact x_ri hx hb hr hlk hQ (Nat.le_of_ble_eq_true rfl) (Nat.le_of_ble_eq_true rfl) hS dX10_told_133 () ⟨_, rfl⟩ hh

abbrev rm_X10_group : Room := { frames := 4, cells := 0, slots := 0, locals := 86 }
set_option maxHeartbeats 4000000 in
set_option maxRecDepth 100000 in
theorem c_X10_group (l : Launch) (E : XE) (K : Nat → Nat) (F : Nat → Nat → Nat) (G : XG) (h0 : Heap) (a : Nat) (p0 : Int32) (p1 : Int32) (ha : K a = 12) : Met l yX10_group (xw yX10_group cX10_group 5 (some .int)) rm_X10_group (va_Pc [.ref a, .int p0, .int p1] (XPh E K F G h0)) (XQ E (fun v (u : Unit) => ∃ r : Int32, v = .int r) (fun _ H => H = h0)) 0 0 (xA E) := by
  refine x_enter (by decide) (Nat.le_of_ble_eq_true rfl) ?_
  intro p e s m args below meth c Q S hr hlk hnm hQ hP ls hl
  obtain ⟨⟨hz, hK, hT⟩, hh⟩ := hP
  obtain ⟨hx, hb, -, -, -⟩ := id S
  have hS : va_S (xA E) s.heap s.heap [] := va_S.rf
  have hl : lv_has ls 5 [(0, .ref a), (1, .int p0), (2, .int p1)] := hl
  refine lv_iload_n hx hb dX10_group_0 rfl (lv_at hl 2 rfl) ?_
  have J11 : ∀ (locs : List Loc) (ls : Array Slot), TW E K F G [] s.heap → va_S (xA E) s.heap s.heap locs → lv_has ls 5 [(0, .ref a), (1, .int p0), (2, .int p1)] → W p l e rm_X10_group s m args below meth c s.heap locs 0 0 Q (F0 m 11 ls []) := by
    intro locs ls hT hS hl
    refine lv_iload_n hx hb dX10_group_11 rfl (lv_at hl 1 rfl) ?_
    refine lv_iconst (v := (-1)) hx hb dX10_group_12 (by decide) ?_
    refine xi_cne (tgt := 24) hx hb (rfl : Int32.toInt p0 = p0.toInt) ((by decide) : Int32.toInt (-1) = (-1 : Int)) dX10_group_13 (by decide) (fun c1 => ?_) (fun c1 => ?_)
    · refine lv_aload_n hx hb dX10_group_24 rfl (lv_at hl 0 rfl) ?_
      refine gX10_8 S hK hT ha kf_X10_57 dX10_group_25 (fun hk2 => ?_)
      refine lv_iload_n hx hb dX10_group_28 rfl (lv_at hl 1 rfl) ?_
      refine x_clp (x_runV (b := (F a 8)) (As := [.int p0]) (rest := []) S (c_X4_groupStart l E K F G s.heap (F a 8) p0 hk2) mv_X4_groupStart km_X10_315 rfl rfl ⟨Nat.le_of_ble_eq_true rfl, Nat.le_of_ble_eq_true rfl⟩ (rc_6 hK hT hk2) hK (fun _ => XPh.blind) (fun U hU hW => XPh.at hK hz hS hT hU hW) rfl hl.1 (Nat.le_of_ble_eq_true rfl) dX10_group_29 ⟨Nat.le_of_ble_eq_true rfl, Nat.le_of_ble_eq_true rfl⟩) hS ?_
      rintro _ _ locs ⟨x3, rfl⟩ hS
      refine lv_istore_n (lv' := [(3, .int x3), (0, .ref a), (1, .int p0), (2, .int p1)]) hx hb dX10_group_32 rfl hl (by decide) rfl (fun ls hl => ?_)
      refine lv_iload_n hx hb dX10_group_33 rfl (lv_at hl 0 rfl) ?_
      refine lv_iconst (v := (-1)) hx hb dX10_group_34 (by decide) ?_
      refine xi_cne (tgt := 40) hx hb (rfl : Int32.toInt x3 = x3.toInt) ((by decide) : Int32.toInt (-1) = (-1 : Int)) dX10_group_35 (by decide) (fun c4 => ?_) (fun c4 => ?_)
      · refine lv_aload_n hx hb dX10_group_40 rfl (lv_at hl 1 rfl) ?_
        refine gX10_8 S hK hT ha kf_X10_57 dX10_group_41 (fun hk5 => ?_)
        refine lv_iload_n hx hb dX10_group_44 rfl (lv_at hl 0 rfl) ?_
        refine x_clp (x_runV (b := (F a 8)) (As := [.int x3]) (rest := []) S (c_X4_number l E K F G s.heap (F a 8) x3 hk5) mv_X4_number km_X10_301 rfl rfl ⟨Nat.le_of_ble_eq_true rfl, Nat.le_of_ble_eq_true rfl⟩ (rc_6 hK hT hk5) hK (fun _ => XPh.blind) (fun U hU hW => XPh.at hK hz hS hT hU hW) rfl hl.1 (Nat.le_of_ble_eq_true rfl) dX10_group_45 ⟨Nat.le_of_ble_eq_true rfl, Nat.le_of_ble_eq_true rfl⟩) hS ?_
        rintro _ _ locs ⟨x6, rfl⟩ hS
        refine lv_istore (lv' := [(4, .int x6), (3, .int x3), (0, .ref a), (1, .int p0), (2, .int p1)]) hx hb dX10_group_48 hl (by decide) rfl (fun ls hl => ?_)
        refine lv_iload_n hx hb dX10_group_50 rfl (lv_at hl 4 rfl) ?_
        refine xi_zne (tgt := 59) hx hb (rfl : Int32.toInt p1 = p1.toInt) dX10_group_51 (by decide) (fun c7 => ?_) (fun c7 => ?_)
        · refine lv_aload_n hx hb dX10_group_59 rfl (lv_at hl 2 rfl) ?_
          refine gX10_8 S hK hT ha kf_X10_57 dX10_group_60 (fun hk8 => ?_)
          refine lv_iload hx hb dX10_group_63 (lv_at hl 0 rfl) ?_
          refine x_clp (x_runV (b := (F a 8)) (As := [.int x6]) (rest := []) S (c_X4_ofRule l E K F G s.heap (F a 8) x6 hk8) mv_X4_ofRule km_X10_296 rfl rfl ⟨Nat.le_of_ble_eq_true rfl, Nat.le_of_ble_eq_true rfl⟩ (rc_6 hK hT hk8) hK (fun _ => XPh.blind) (fun U hU hW => XPh.at hK hz hS hT hU hW) rfl hl.1 (Nat.le_of_ble_eq_true rfl) dX10_group_65 ⟨Nat.le_of_ble_eq_true rfl, Nat.le_of_ble_eq_true rfl⟩) hS ?_
          rintro _ _ locs ⟨x9, rfl⟩ hS
          exact x_ri hx hb hr hlk hQ (Nat.le_of_ble_eq_true rfl) (Nat.le_of_ble_eq_true rfl) hS dX10_group_68 () ⟨_, rfl⟩ hh
        · refine lv_iload hx hb dX10_group_54 (lv_at hl 0 rfl) ?_
          refine lv_goto (tgt := 68) hx hb dX10_group_56 (by decide) ?_
          exact x_ri hx hb hr hlk hQ (Nat.le_of_ble_eq_true rfl) (Nat.le_of_ble_eq_true rfl) hS dX10_group_68 () ⟨_, rfl⟩ hh
      · refine lv_iconst (v := (-1)) hx hb dX10_group_38 (by decide) ?_
        exact x_ri hx hb hr hlk hQ (Nat.le_of_ble_eq_true rfl) (Nat.le_of_ble_eq_true rfl) hS dX10_group_39 () ⟨_, rfl⟩ hh
    · refine lv_aload_n hx hb dX10_group_16 rfl (lv_at hl 0 rfl) ?_
      refine gX10_8 S hK hT ha kf_X10_57 dX10_group_17 (fun hk10 => ?_)
      refine x_clp (x_runV (b := (F a 8)) (As := []) (rest := []) S (c_X4_groups l E K F G s.heap (F a 8) hk10) mv_X4_groups km_X10_312 rfl rfl ⟨Nat.le_of_ble_eq_true rfl, Nat.le_of_ble_eq_true rfl⟩ (rc_6 hK hT hk10) hK (fun _ => XPh.blind) (fun U hU hW => XPh.at hK hz hS hT hU hW) rfl hl.1 (Nat.le_of_ble_eq_true rfl) dX10_group_20 ⟨Nat.le_of_ble_eq_true rfl, Nat.le_of_ble_eq_true rfl⟩) hS ?_
      rintro _ _ locs ⟨x11, rfl⟩ hS
      exact x_ri hx hb hr hlk hQ (Nat.le_of_ble_eq_true rfl) (Nat.le_of_ble_eq_true rfl) hS dX10_group_23 () ⟨_, rfl⟩ hh
  refine xi_zeq (tgt := 11) hx hb (rfl : Int32.toInt p1 = p1.toInt) dX10_group_1 (by decide) (fun c12 => ?_) (fun c12 => ?_)
  · exact J11 _ _ hT.nil hS (lv_sub hl [0, 1, 2] rfl)
  · refine lv_iload_n hx hb dX10_group_4 rfl (lv_at hl 2 rfl) ?_
    refine lv_iconst (v := 1) hx hb dX10_group_5 (by decide) ?_
    refine xi_ceq (tgt := 11) hx hb (rfl : Int32.toInt p1 = p1.toInt) ((by decide) : Int32.toInt 1 = (1 : Int)) dX10_group_6 (by decide) (fun c13 => ?_) (fun c13 => ?_)
    · exact J11 _ _ hT.nil hS (lv_sub hl [0, 1, 2] rfl)
    · refine lv_iconst (v := (-1)) hx hb dX10_group_9 (by decide) ?_
      exact x_ri hx hb hr hlk hQ (Nat.le_of_ble_eq_true rfl) (Nat.le_of_ble_eq_true rfl) hS dX10_group_10 () ⟨_, rfl⟩ hh
