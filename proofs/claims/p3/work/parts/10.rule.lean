abbrev rm_X7_isAmong : Room := { frames := 0, cells := 0, slots := 0, locals := 0 }
set_option maxHeartbeats 4000000 in
set_option maxRecDepth 100000 in
theorem c_X7_isAmong (l : Launch) (E : XE) (K : Nat → Nat) (F : Nat → Nat → Nat) (G : XG) (h0 : Heap) (a : Nat) (p0 : Int32) (ha : K a = 9) : Met l yX7_isAmong (xw yX7_isAmong cX7_isAmong 2 (some .boolean)) rm_X7_isAmong (va_Pc [.ref a, .int p0] (XPh E K F G h0)) (XQ E (fun v (u : Unit) => ∃ r : Int32, v = .int r ∧ (r = 0 ∨ r = 1)) (fun _ H => H = h0)) 0 0 (xA E) := by
  refine x_enter (by decide) (Nat.le_of_ble_eq_true rfl) ?_
  intro p e s m args below meth c Q S hr hlk hnm hQ hP ls hl
  obtain ⟨⟨hz, hK, hT⟩, hh⟩ := hP
  obtain ⟨hx, hb, -, -, -⟩ := id S
  have hS : va_S (xA E) s.heap s.heap [] := va_S.rf
  have hl : lv_has ls 2 [(0, .ref a), (1, .int p0)] := hl
  refine lv_iload_n hx hb dX7_isAmong_0 rfl (lv_at hl 1 rfl) ?_
  have J21 : ∀ (locs : List Loc) (ls : Array Slot), TW E K F G [] s.heap → va_S (xA E) s.heap s.heap locs → lv_has ls 2 [] → W p l e rm_X7_isAmong s m args below meth c s.heap locs 0 0 Q (F0 m 21 ls []) := by
    intro locs ls hT hS hl
    refine lv_iconst (v := 1) hx hb dX7_isAmong_21 (by decide) ?_
    refine lv_goto (tgt := 26) hx hb dX7_isAmong_22 (by decide) ?_
    exact x_rz hx hb hr (xnz (Or.inr rfl)) hlk hQ (Nat.le_of_ble_eq_true rfl) (Nat.le_of_ble_eq_true rfl) hS dX7_isAmong_26 () ⟨_, rfl, (Or.inr rfl)⟩ hh
  refine xi_zeq (tgt := 21) hx hb (rfl : Int32.toInt p0 = p0.toInt) dX7_isAmong_1 (by decide) (fun c1 => ?_) (fun c1 => ?_)
  · exact J21 _ _ hT.nil hS (lv_sub hl [] rfl)
  · refine lv_aload_n hx hb dX7_isAmong_4 rfl (lv_at hl 0 rfl) ?_
    refine gX7_9 S hK hT ha kf_X7_24 dX7_isAmong_5 (fun x2 hT => ?_)
    refine lv_iload_n hx hb dX7_isAmong_8 rfl (lv_at hl 1 rfl) ?_
    refine lv_iconst (v := 1) hx hb dX7_isAmong_9 (by decide) ?_
    have J18 : ∀ (x3 : Int32) (locs : List Loc) (ls : Array Slot), TW E K F G [(a, 9, x2)] s.heap → va_S (xA E) s.heap s.heap locs → lv_has ls 2 [] → W p l e rm_X7_isAmong s m args below meth c s.heap locs 0 0 Q (F0 m 18 ls [.int x3, .int x2]) := by
      intro x3 locs ls hT hS hl
      refine xi_cne (tgt := 25) hx hb (rfl : Int32.toInt x2 = x2.toInt) (rfl : Int32.toInt x3 = x3.toInt) dX7_isAmong_18 (by decide) (fun c4 => ?_) (fun c4 => ?_)
      · refine lv_iconst (v := 0) hx hb dX7_isAmong_25 (by decide) ?_
        exact x_rz hx hb hr (xnz (Or.inl rfl)) hlk hQ (Nat.le_of_ble_eq_true rfl) (Nat.le_of_ble_eq_true rfl) hS dX7_isAmong_26 () ⟨_, rfl, (Or.inl rfl)⟩ hh
      · exact J21 _ _ hT.nil hS (lv_sub hl [] rfl)
    refine xi_cne (tgt := 17) hx hb (rfl : Int32.toInt p0 = p0.toInt) ((by decide) : Int32.toInt 1 = (1 : Int)) dX7_isAmong_10 (by decide) (fun c5 => ?_) (fun c5 => ?_)
    · refine lv_iconst (v := 0) hx hb dX7_isAmong_17 (by decide) ?_
      exact J18 0 _ _ hT hS (lv_sub hl [] rfl)
    · refine lv_iconst (v := 1) hx hb dX7_isAmong_13 (by decide) ?_
      refine lv_goto (tgt := 18) hx hb dX7_isAmong_14 (by decide) ?_
      exact J18 1 _ _ hT hS (lv_sub hl [] rfl)

abbrev rm_X7_isAboutKeys : Room := { frames := 0, cells := 0, slots := 0, locals := 0 }
set_option maxHeartbeats 4000000 in
set_option maxRecDepth 100000 in
theorem c_X7_isAboutKeys (l : Launch) (E : XE) (K : Nat → Nat) (F : Nat → Nat → Nat) (G : XG) (h0 : Heap) (a : Nat) (ha : K a = 9) : Met l yX7_isAboutKeys (xw yX7_isAboutKeys cX7_isAboutKeys 1 (some .boolean)) rm_X7_isAboutKeys (va_Pc [.ref a] (XPh E K F G h0)) (XQ E (fun v (u : Unit) => ∃ r : Int32, v = .int r ∧ (r = 0 ∨ r = 1)) (fun _ H => H = h0)) 0 0 (xA E) := by
  refine x_enter (by decide) (Nat.le_of_ble_eq_true rfl) ?_
  intro p e s m args below meth c Q S hr hlk hnm hQ hP ls hl
  obtain ⟨⟨hz, hK, hT⟩, hh⟩ := hP
  obtain ⟨hx, hb, -, -, -⟩ := id S
  have hS : va_S (xA E) s.heap s.heap [] := va_S.rf
  have hl : lv_has ls 1 [(0, .ref a)] := hl
  refine lv_aload_n hx hb dX7_isAboutKeys_0 rfl (lv_at hl 0 rfl) ?_
  refine gX7_0 S hK hT ha kf_X7_21 dX7_isAboutKeys_1 (fun x1 hT => ?_)
  refine lv_iconst (v := 2) hx hb dX7_isAboutKeys_4 (by decide) ?_
  have J24 : ∀ (locs : List Loc) (ls : Array Slot), TW E K F G [(a, 0, x1)] s.heap → va_S (xA E) s.heap s.heap locs → lv_has ls 1 [] → W p l e rm_X7_isAboutKeys s m args below meth c s.heap locs 0 0 Q (F0 m 24 ls []) := by
    intro locs ls hT hS hl
    refine lv_iconst (v := 1) hx hb dX7_isAboutKeys_24 (by decide) ?_
    refine lv_goto (tgt := 29) hx hb dX7_isAboutKeys_25 (by decide) ?_
    exact x_rz hx hb hr (xnz (Or.inr rfl)) hlk hQ (Nat.le_of_ble_eq_true rfl) (Nat.le_of_ble_eq_true rfl) hS dX7_isAboutKeys_29 () ⟨_, rfl, (Or.inr rfl)⟩ hh
  refine xi_ceq (tgt := 24) hx hb (rfl : Int32.toInt x1 = x1.toInt) ((by decide) : Int32.toInt 2 = (2 : Int)) dX7_isAboutKeys_5 (by decide) (fun c2 => ?_) (fun c2 => ?_)
  · exact J24 _ _ hT hS (lv_sub hl [] rfl)
  · refine lv_aload_n hx hb dX7_isAboutKeys_8 rfl (lv_at hl 0 rfl) ?_
    refine kX7_0 (v := x1) S hK hT ha (List.mem_of_getElem? (i := 0) rfl) kf_X7_21 dX7_isAboutKeys_9 ?_
    refine lv_iconst (v := 4) hx hb dX7_isAboutKeys_12 (by decide) ?_
    refine xi_ceq (tgt := 24) hx hb (rfl : Int32.toInt x1 = x1.toInt) ((by decide) : Int32.toInt 4 = (4 : Int)) dX7_isAboutKeys_13 (by decide) (fun c3 => ?_) (fun c3 => ?_)
    · exact J24 _ _ hT hS (lv_sub hl [] rfl)
    · refine lv_aload_n hx hb dX7_isAboutKeys_16 rfl (lv_at hl 0 rfl) ?_
      refine kX7_0 (v := x1) S hK hT ha (List.mem_of_getElem? (i := 0) rfl) kf_X7_21 dX7_isAboutKeys_17 ?_
      refine lv_iconst (v := 5) hx hb dX7_isAboutKeys_20 (by decide) ?_
      refine xi_cne (tgt := 28) hx hb (rfl : Int32.toInt x1 = x1.toInt) ((by decide) : Int32.toInt 5 = (5 : Int)) dX7_isAboutKeys_21 (by decide) (fun c4 => ?_) (fun c4 => ?_)
      · refine lv_iconst (v := 0) hx hb dX7_isAboutKeys_28 (by decide) ?_
        exact x_rz hx hb hr (xnz (Or.inl rfl)) hlk hQ (Nat.le_of_ble_eq_true rfl) (Nat.le_of_ble_eq_true rfl) hS dX7_isAboutKeys_29 () ⟨_, rfl, (Or.inl rfl)⟩ hh
      · exact J24 _ _ hT hS (lv_sub hl [] rfl)

abbrev rm_X7_looksAtKeys : Room := { frames := 0, cells := 0, slots := 0, locals := 0 }
set_option maxHeartbeats 4000000 in
set_option maxRecDepth 100000 in
theorem c_X7_looksAtKeys (l : Launch) (E : XE) (K : Nat → Nat) (F : Nat → Nat → Nat) (G : XG) (h0 : Heap) (a : Nat) (ha : K a = 9) : Met l yX7_looksAtKeys (xw yX7_looksAtKeys cX7_looksAtKeys 1 (some .boolean)) rm_X7_looksAtKeys (va_Pc [.ref a] (XPh E K F G h0)) (XQ E (fun v (u : Unit) => ∃ r : Int32, v = .int r ∧ (r = 0 ∨ r = 1)) (fun _ H => H = h0)) 0 0 (xA E) := by
  refine x_enter (by decide) (Nat.le_of_ble_eq_true rfl) ?_
  intro p e s m args below meth c Q S hr hlk hnm hQ hP ls hl
  obtain ⟨⟨hz, hK, hT⟩, hh⟩ := hP
  obtain ⟨hx, hb, -, -, -⟩ := id S
  have hS : va_S (xA E) s.heap s.heap [] := va_S.rf
  have hl : lv_has ls 1 [(0, .ref a)] := hl
  refine lv_aload_n hx hb dX7_looksAtKeys_0 rfl (lv_at hl 0 rfl) ?_
  refine gX7_0 S hK hT ha kf_X7_21 dX7_looksAtKeys_1 (fun x1 hT => ?_)
  refine lv_iconst (v := 1) hx hb dX7_looksAtKeys_4 (by decide) ?_
  have J16 : ∀ (locs : List Loc) (ls : Array Slot), TW E K F G [(a, 0, x1)] s.heap → va_S (xA E) s.heap s.heap locs → lv_has ls 1 [] → W p l e rm_X7_looksAtKeys s m args below meth c s.heap locs 0 0 Q (F0 m 16 ls []) := by
    intro locs ls hT hS hl
    refine lv_iconst (v := 1) hx hb dX7_looksAtKeys_16 (by decide) ?_
    refine lv_goto (tgt := 21) hx hb dX7_looksAtKeys_17 (by decide) ?_
    exact x_rz hx hb hr (xnz (Or.inr rfl)) hlk hQ (Nat.le_of_ble_eq_true rfl) (Nat.le_of_ble_eq_true rfl) hS dX7_looksAtKeys_21 () ⟨_, rfl, (Or.inr rfl)⟩ hh
  refine xi_ceq (tgt := 16) hx hb (rfl : Int32.toInt x1 = x1.toInt) ((by decide) : Int32.toInt 1 = (1 : Int)) dX7_looksAtKeys_5 (by decide) (fun c2 => ?_) (fun c2 => ?_)
  · exact J16 _ _ hT hS (lv_sub hl [] rfl)
  · refine lv_aload_n hx hb dX7_looksAtKeys_8 rfl (lv_at hl 0 rfl) ?_
    refine kX7_0 (v := x1) S hK hT ha (List.mem_of_getElem? (i := 0) rfl) kf_X7_21 dX7_looksAtKeys_9 ?_
    refine lv_iconst (v := 4) hx hb dX7_looksAtKeys_12 (by decide) ?_
    refine xi_cne (tgt := 20) hx hb (rfl : Int32.toInt x1 = x1.toInt) ((by decide) : Int32.toInt 4 = (4 : Int)) dX7_looksAtKeys_13 (by decide) (fun c3 => ?_) (fun c3 => ?_)
    · refine lv_iconst (v := 0) hx hb dX7_looksAtKeys_20 (by decide) ?_
      exact x_rz hx hb hr (xnz (Or.inl rfl)) hlk hQ (Nat.le_of_ble_eq_true rfl) (Nat.le_of_ble_eq_true rfl) hS dX7_looksAtKeys_21 () ⟨_, rfl, (Or.inl rfl)⟩ hh
    · exact J16 _ _ hT hS (lv_sub hl [] rfl)

abbrev rm_X7_isSubject : Room := { frames := 1, cells := 0, slots := 0, locals := 20 }
set_option maxHeartbeats 4000000 in
set_option maxRecDepth 100000 in
theorem c_X7_isSubject (l : Launch) (E : XE) (K : Nat → Nat) (F : Nat → Nat → Nat) (G : XG) (h0 : Heap) (a : Nat) (p0 : Int32) (ha : K a = 9) : Met l yX7_isSubject (xw yX7_isSubject cX7_isSubject 2 (some .boolean)) rm_X7_isSubject (va_Pc [.ref a, .int p0] (XPh E K F G h0)) (XQ E (fun v (u : Unit) => ∃ r : Int32, v = .int r ∧ (r = 0 ∨ r = 1)) (fun _ H => H = h0)) 0 0 (xA E) := by
  refine x_enter (by decide) (Nat.le_of_ble_eq_true rfl) ?_
  intro p e s m args below meth c Q S hr hlk hnm hQ hP ls hl
  obtain ⟨⟨hz, hK, hT⟩, hh⟩ := hP
  obtain ⟨hx, hb, -, -, -⟩ := id S
  have hS : va_S (xA E) s.heap s.heap [] := va_S.rf
  have hl : lv_has ls 2 [(0, .ref a), (1, .int p0)] := hl
  refine lv_aload_n hx hb dX7_isSubject_0 rfl (lv_at hl 0 rfl) ?_
  refine x_clp (x_runV (b := a) (As := []) (rest := []) S (c_X7_isAboutKeys l E K F G s.heap a ha) mv_X7_isAboutKeys km_X7_28 rfl rfl ⟨Nat.le_of_ble_eq_true rfl, Nat.le_of_ble_eq_true rfl⟩ (rc_9 hK hT ha) hK (fun _ => XPh.blind) (fun U hU hW => XPh.at hK hz hS hT hU hW) rfl hl.1 (Nat.le_of_ble_eq_true rfl) dX7_isSubject_1 ⟨Nat.le_of_ble_eq_true rfl, Nat.le_of_ble_eq_true rfl⟩) hS ?_
  rintro _ _ locs ⟨x1, rfl, b2⟩ hS
  refine xi_zeq (tgt := 14) hx hb (rfl : Int32.toInt x1 = x1.toInt) dX7_isSubject_4 (by decide) (fun c3 => ?_) (fun c3 => ?_)
  · refine lv_iload_n hx hb dX7_isSubject_14 rfl (lv_at hl 1 rfl) ?_
    refine x_clp (x_runSN (As := [.int p0]) (rest := []) S (c_X10_isSubjectValue l E K F G s.heap p0) ms_X10_isSubjectValue (by decide +kernel) rfl rfl ⟨Nat.le_of_ble_eq_true rfl, Nat.le_of_ble_eq_true rfl⟩ hK (fun _ => XPh.blind) (fun U hU hW => XPh.at hK hz hS hT hU hW) rfl hl.1 (Nat.le_of_ble_eq_true rfl) dX7_isSubject_15 ⟨Nat.le_of_ble_eq_true rfl, Nat.le_of_ble_eq_true rfl⟩) hS ?_
    rintro _ _ locs ⟨x4, rfl, b5, t6⟩ hS
    have t6 : (x4.toInt = 1 ∧ (-99) ≤ p0.toInt ∧ p0.toInt < 100) ∨ (x4.toInt = 0 ∧ (p0.toInt < (-99) ∨ 100 ≤ p0.toInt)) := t6
    exact x_rz hx hb hr (xnz b5) hlk hQ (Nat.le_of_ble_eq_true rfl) (Nat.le_of_ble_eq_true rfl) hS dX7_isSubject_18 () ⟨_, rfl, b5⟩ hh
  · refine lv_iload_n hx hb dX7_isSubject_7 rfl (lv_at hl 1 rfl) ?_
    refine x_clp (x_runSN (As := [.int p0]) (rest := []) S (c_X10_isKey l E K F G s.heap p0) ms_X10_isKey (by decide +kernel) rfl rfl ⟨Nat.le_of_ble_eq_true rfl, Nat.le_of_ble_eq_true rfl⟩ hK (fun _ => XPh.blind) (fun U hU hW => XPh.at hK hz hS hT hU hW) rfl hl.1 (Nat.le_of_ble_eq_true rfl) dX7_isSubject_8 ⟨Nat.le_of_ble_eq_true rfl, Nat.le_of_ble_eq_true rfl⟩) hS ?_
    rintro _ _ locs ⟨x7, rfl, b8, t9⟩ hS
    have t9 : (x7.toInt = 1 ∧ 0 ≤ p0.toInt ∧ p0.toInt < 30) ∨ (x7.toInt = 0 ∧ (p0.toInt < 0 ∨ 30 ≤ p0.toInt)) := t9
    refine lv_goto (tgt := 18) hx hb dX7_isSubject_11 (by decide) ?_
    exact x_rz hx hb hr (xnz b8) hlk hQ (Nat.le_of_ble_eq_true rfl) (Nat.le_of_ble_eq_true rfl) hS dX7_isSubject_18 () ⟨_, rfl, b8⟩ hh

abbrev rm_X7_follows : Room := { frames := 0, cells := 0, slots := 0, locals := 0 }
set_option maxHeartbeats 4000000 in
set_option maxRecDepth 100000 in
theorem c_X7_follows (l : Launch) (E : XE) (K : Nat → Nat) (F : Nat → Nat → Nat) (G : XG) (h0 : Heap) (a : Nat) (p0 : Int32) (ha : K a = 9) : Met l yX7_follows (xw yX7_follows cX7_follows 2 (some .boolean)) rm_X7_follows (va_Pc [.ref a, .int p0] (XPh E K F G h0)) (XQ E (fun v (u : Unit) => ∃ r : Int32, v = .int r ∧ (r = 0 ∨ r = 1)) (fun _ H => H = h0)) 0 0 (xA E) := by
  refine x_enter (by decide) (Nat.le_of_ble_eq_true rfl) ?_
  intro p e s m args below meth c Q S hr hlk hnm hQ hP ls hl
  obtain ⟨⟨hz, hK, hT⟩, hh⟩ := hP
  obtain ⟨hx, hb, -, -, -⟩ := id S
  have hS : va_S (xA E) s.heap s.heap [] := va_S.rf
  have hl : lv_has ls 2 [(0, .ref a), (1, .int p0)] := hl
  refine lv_aload_n hx hb dX7_follows_0 rfl (lv_at hl 0 rfl) ?_
  refine gX7_0 S hK hT ha kf_X7_21 dX7_follows_1 (fun x1 hT => ?_)
  refine lv_iconst (v := 1) hx hb dX7_follows_4 (by decide) ?_
  refine xi_cne (tgt := 27) hx hb (rfl : Int32.toInt x1 = x1.toInt) ((by decide) : Int32.toInt 1 = (1 : Int)) dX7_follows_5 (by decide) (fun c2 => ?_) (fun c2 => ?_)
  · refine lv_iconst (v := 0) hx hb dX7_follows_27 (by decide) ?_
    exact x_rz hx hb hr (xnz (Or.inl rfl)) hlk hQ (Nat.le_of_ble_eq_true rfl) (Nat.le_of_ble_eq_true rfl) hS dX7_follows_28 () ⟨_, rfl, (Or.inl rfl)⟩ hh
  · refine lv_aload_n hx hb dX7_follows_8 rfl (lv_at hl 0 rfl) ?_
    refine gX7_4 S hK hT ha kf_X7_15 dX7_follows_9 (fun x3 hT => ?_)
    refine lv_iload_n hx hb dX7_follows_12 rfl (lv_at hl 1 rfl) ?_
    refine xi_cne (tgt := 27) hx hb (rfl : Int32.toInt x3 = x3.toInt) (rfl : Int32.toInt p0 = p0.toInt) dX7_follows_13 (by decide) (fun c4 => ?_) (fun c4 => ?_)
    · refine lv_iconst (v := 0) hx hb dX7_follows_27 (by decide) ?_
      exact x_rz hx hb hr (xnz (Or.inl rfl)) hlk hQ (Nat.le_of_ble_eq_true rfl) (Nat.le_of_ble_eq_true rfl) hS dX7_follows_28 () ⟨_, rfl, (Or.inl rfl)⟩ hh
    · refine lv_aload_n hx hb dX7_follows_16 rfl (lv_at hl 0 rfl) ?_
      refine gX7_7 S hK hT ha kf_X7_18 dX7_follows_17 (fun x5 hT => ?_)
      refine xi_zeq (tgt := 27) hx hb (rfl : Int32.toInt x5 = x5.toInt) dX7_follows_20 (by decide) (fun c6 => ?_) (fun c6 => ?_)
      · refine lv_iconst (v := 0) hx hb dX7_follows_27 (by decide) ?_
        exact x_rz hx hb hr (xnz (Or.inl rfl)) hlk hQ (Nat.le_of_ble_eq_true rfl) (Nat.le_of_ble_eq_true rfl) hS dX7_follows_28 () ⟨_, rfl, (Or.inl rfl)⟩ hh
      · refine lv_iconst (v := 1) hx hb dX7_follows_23 (by decide) ?_
        refine lv_goto (tgt := 28) hx hb dX7_follows_24 (by decide) ?_
        exact x_rz hx hb hr (xnz (Or.inr rfl)) hlk hQ (Nat.le_of_ble_eq_true rfl) (Nat.le_of_ble_eq_true rfl) hS dX7_follows_28 () ⟨_, rfl, (Or.inr rfl)⟩ hh

abbrev rm_X7_isOutside : Room := { frames := 0, cells := 0, slots := 0, locals := 0 }
set_option maxHeartbeats 4000000 in
set_option maxRecDepth 100000 in
theorem c_X7_isOutside (l : Launch) (E : XE) (K : Nat → Nat) (F : Nat → Nat → Nat) (G : XG) (h0 : Heap) (a : Nat) (p0 : Int32) (ha : K a = 9) : Met l yX7_isOutside (xw yX7_isOutside cX7_isOutside 2 (some .boolean)) rm_X7_isOutside (va_Pc [.ref a, .int p0] (XPh E K F G h0)) (XQ E (fun v (u : Unit) => ∃ r : Int32, v = .int r ∧ (r = 0 ∨ r = 1)) (fun _ H => H = h0)) 0 0 (xA E) := by
  refine x_enter (by decide) (Nat.le_of_ble_eq_true rfl) ?_
  intro p e s m args below meth c Q S hr hlk hnm hQ hP ls hl
  obtain ⟨⟨hz, hK, hT⟩, hh⟩ := hP
  obtain ⟨hx, hb, -, -, -⟩ := id S
  have hS : va_S (xA E) s.heap s.heap [] := va_S.rf
  have hl : lv_has ls 2 [(0, .ref a), (1, .int p0)] := hl
  refine lv_iload_n hx hb dX7_isOutside_0 rfl (lv_at hl 1 rfl) ?_
  refine lv_aload_n hx hb dX7_isOutside_1 rfl (lv_at hl 0 rfl) ?_
  refine gX7_5 S hK hT ha kf_X7_70 dX7_isOutside_2 (fun x1 hT => ?_)
  have J16 : ∀ (locs : List Loc) (ls : Array Slot), TW E K F G [(a, 5, x1)] s.heap → va_S (xA E) s.heap s.heap locs → lv_has ls 2 [] → W p l e rm_X7_isOutside s m args below meth c s.heap locs 0 0 Q (F0 m 16 ls []) := by
    intro locs ls hT hS hl
    refine lv_iconst (v := 1) hx hb dX7_isOutside_16 (by decide) ?_
    refine lv_goto (tgt := 21) hx hb dX7_isOutside_17 (by decide) ?_
    exact x_rz hx hb hr (xnz (Or.inr rfl)) hlk hQ (Nat.le_of_ble_eq_true rfl) (Nat.le_of_ble_eq_true rfl) hS dX7_isOutside_21 () ⟨_, rfl, (Or.inr rfl)⟩ hh
  refine xi_clt (tgt := 16) hx hb (rfl : Int32.toInt p0 = p0.toInt) (rfl : Int32.toInt x1 = x1.toInt) dX7_isOutside_5 (by decide) (fun c2 => ?_) (fun c2 => ?_)
  · exact J16 _ _ hT hS (lv_sub hl [] rfl)
  · refine lv_iload_n hx hb dX7_isOutside_8 rfl (lv_at hl 1 rfl) ?_
    refine lv_aload_n hx hb dX7_isOutside_9 rfl (lv_at hl 0 rfl) ?_
    refine gX7_6 S hK hT ha kf_X7_73 dX7_isOutside_10 (fun x3 hT => ?_)
    refine xi_cle (tgt := 20) hx hb (rfl : Int32.toInt p0 = p0.toInt) (rfl : Int32.toInt x3 = x3.toInt) dX7_isOutside_13 (by decide) (fun c4 => ?_) (fun c4 => ?_)
    · refine lv_iconst (v := 0) hx hb dX7_isOutside_20 (by decide) ?_
      exact x_rz hx hb hr (xnz (Or.inl rfl)) hlk hQ (Nat.le_of_ble_eq_true rfl) (Nat.le_of_ble_eq_true rfl) hS dX7_isOutside_21 () ⟨_, rfl, (Or.inl rfl)⟩ hh
    · exact J16 _ _ (hT.sub (List.forall_mem_cons.mpr ⟨List.mem_of_getElem? (i := 1) rfl, fun _ h => by cases h⟩)) hS (lv_sub hl [] rfl)

theorem z_X7_isOnRing_1 (a0 : Int) (h0 : (0 : Int) ≤ a0) (r0 : -2147483648 ≤ a0 ∧ a0 < 2147483648) : ¬ (2147483648 - a0 < ((0 : Nat) : Int)) := by omega
theorem z_X7_isOnRing_2 (a0 : Int) (a1 : Int) (a2 : Nat) (h0 : (0 : Int) ≤ a1) (h1 : 2147483648 - a1 < ((a2 + 1 : Nat) : Int)) (h2 : ¬ ((30 : Int) ≤ a1)) (h3 : a0 = a1 + 1 ∨ a1 + 1 < -2147483648 ∨ 2147483648 ≤ a1 + 1) (r0 : -2147483648 ≤ a0 ∧ a0 < 2147483648) (r1 : -2147483648 ≤ a1 ∧ a1 < 2147483648) : (0 : Int) ≤ a0 := by omega
theorem z_X7_isOnRing_3 (a0 : Int) (a1 : Int) (a2 : Nat) (h0 : (0 : Int) ≤ a1) (h1 : 2147483648 - a1 < ((a2 + 1 : Nat) : Int)) (h2 : ¬ ((30 : Int) ≤ a1)) (h3 : a0 = a1 + 1 ∨ a1 + 1 < -2147483648 ∨ 2147483648 ≤ a1 + 1) (r0 : -2147483648 ≤ a0 ∧ a0 < 2147483648) (r1 : -2147483648 ≤ a1 ∧ a1 < 2147483648) : 2147483648 - a0 < ((a2 : Nat) : Int) := by omega
abbrev rm_X7_isOnRing : Room := { frames := 2, cells := 0, slots := 0, locals := 44 }
set_option maxHeartbeats 4000000 in
set_option maxRecDepth 100000 in
theorem c_X7_isOnRing (l : Launch) (E : XE) (K : Nat → Nat) (F : Nat → Nat → Nat) (G : XG) (h0 : Heap) (a : Nat) (p0 : Nat) (p1 : Int32) (ha : K a = 9) (hp0 : K p0 = 8) : Met l yX7_isOnRing (xw yX7_isOnRing cX7_isOnRing 5 (some .boolean)) rm_X7_isOnRing (va_Pc [.ref a, .ref p0, .int p1] (XPh E K F G h0)) (XQ E (fun v (u : Unit) => ∃ r : Int32, v = .int r ∧ (r = 0 ∨ r = 1)) (fun _ H => H = h0)) 0 0 (xA E) := by
  refine x_enter (by decide) (Nat.le_of_ble_eq_true rfl) ?_
  intro p e s m args below meth c Q S hr hlk hnm hQ hP ls hl
  obtain ⟨⟨hz, hK, hT⟩, hh⟩ := hP
  obtain ⟨hx, hb, -, -, -⟩ := id S
  have hS : va_S (xA E) s.heap s.heap [] := va_S.rf
  have hl : lv_has ls 5 [(0, .ref a), (1, .ref p0), (2, .int p1)] := hl
  refine lv_aload_n hx hb dX7_isOnRing_0 rfl (lv_at hl 1 rfl) ?_
  refine lv_aload_n hx hb dX7_isOnRing_1 rfl (lv_at hl 0 rfl) ?_
  refine gX7_2 S hK hT ha kf_X7_39 dX7_isOnRing_2 (fun x1 hT => ?_)
  refine lv_iload_n hx hb dX7_isOnRing_5 rfl (lv_at hl 2 rfl) ?_
  refine lv_aload_n hx hb dX7_isOnRing_6 rfl (lv_at hl 0 rfl) ?_
  refine gX7_3 S hK hT ha kf_X7_42 dX7_isOnRing_7 (fun x2 hT => ?_)
  refine x_clp (x_runV (b := p0) (As := [.int x1, .int p1, .int x2]) (rest := []) S (c_X6_cell l E K F G s.heap p0 x1 p1 x2 hp0) mv_X6_cell km_X7_59 rfl rfl ⟨Nat.le_of_ble_eq_true rfl, Nat.le_of_ble_eq_true rfl⟩ (rc_8 hK hT hp0) hK (fun _ => XPh.blind) (fun U hU hW => XPh.at hK hz hS hT hU hW) rfl hl.1 (Nat.le_of_ble_eq_true rfl) dX7_isOnRing_10 ⟨Nat.le_of_ble_eq_true rfl, Nat.le_of_ble_eq_true rfl⟩) hS ?_
  rintro _ _ locs ⟨x3, rfl⟩ hS
  refine lv_istore_n (lv' := [(3, .int x3), (0, .ref a), (1, .ref p0), (2, .int p1)]) hx hb dX7_isOnRing_13 rfl hl (by decide) rfl (fun ls hl => ?_)
  refine lv_iconst (v := 0) hx hb dX7_isOnRing_14 (by decide) ?_
  refine lv_istore (lv' := [(4, .int 0), (3, .int x3), (0, .ref a), (1, .ref p0), (2, .int p1)]) hx hb dX7_isOnRing_15 hl (by decide) rfl (fun ls hl => ?_)
  have L17 : ∀ (N6 : Nat) (x4 : Int32) (x5 : Int32) (locs : List Loc) (ls : Array Slot), (0 : Int) ≤ x5.toInt → 2147483648 - x5.toInt < ((N6 : Nat) : Int) → TW E K F G [(a, 3, x2), (a, 2, x1)] s.heap → va_S (xA E) s.heap s.heap locs → lv_has ls 5 [(0, .ref a), (1, .ref p0), (2, .int p1), (3, .int x4), (4, .int x5)] → W p l e rm_X7_isOnRing s m args below meth c s.heap locs 0 0 Q (F0 m 17 ls []) := by
    intro N6
    induction N6 with
    | zero =>
      intro x4 x5 locs ls hf7 hm8
      exact absurd hm8 (z_X7_isOnRing_1 x5.toInt hf7 (xr x5))
    | succ N6 ih9 =>
      intro x4 x5 locs ls hf7 hm8 hT hS hl
      refine lv_iload hx hb dX7_isOnRing_17 (lv_at hl 4 rfl) ?_
      refine lv_bipush (v := 30) hx hb dX7_isOnRing_19 (by decide) ?_
      refine xi_cge (tgt := 63) hx hb (rfl : Int32.toInt x5 = x5.toInt) ((by decide) : Int32.toInt 30 = (30 : Int)) dX7_isOnRing_21 (by decide) (fun c10 => ?_) (fun c10 => ?_)
      · refine lv_iconst (v := 0) hx hb dX7_isOnRing_63 (by decide) ?_
        exact x_rz hx hb hr (xnz (Or.inl rfl)) hlk hQ (Nat.le_of_ble_eq_true rfl) (Nat.le_of_ble_eq_true rfl) hS dX7_isOnRing_64 () ⟨_, rfl, (Or.inl rfl)⟩ hh
      · refine lv_aload_n hx hb dX7_isOnRing_24 rfl (lv_at hl 1 rfl) ?_
        refine lv_aload_n hx hb dX7_isOnRing_25 rfl (lv_at hl 0 rfl) ?_
        refine kX7_2 (v := x1) S hK hT ha (List.mem_of_getElem? (i := 1) rfl) kf_X7_39 dX7_isOnRing_26 ?_
        refine lv_iload_n hx hb dX7_isOnRing_29 rfl (lv_at hl 3 rfl) ?_
        refine x_clp (x_runV (b := p0) (As := [.int x1, .int x4]) (rest := []) S (c_X6_has l E K F G s.heap p0 x1 x4 hp0) mv_X6_has km_X7_51 rfl rfl ⟨Nat.le_of_ble_eq_true rfl, Nat.le_of_ble_eq_true rfl⟩ (rc_8 hK hT hp0) hK (fun _ => XPh.blind) (fun U hU hW => XPh.at hK hz hS hT hU hW) rfl hl.1 (Nat.le_of_ble_eq_true rfl) dX7_isOnRing_30 ⟨Nat.le_of_ble_eq_true rfl, Nat.le_of_ble_eq_true rfl⟩) hS ?_
        rintro _ _ locs ⟨x11, rfl, b12, t13⟩ hS
        have t13 : x11.toInt = 0 ∨ (x11.toInt = 1 ∧ 0 ≤ x1.toInt ∧ x1.toInt < 3 ∧ 0 ≤ x4.toInt ∧ x4.toInt < 30) := t13
        refine xi_zeq (tgt := 63) hx hb (rfl : Int32.toInt x11 = x11.toInt) dX7_isOnRing_33 (by decide) (fun c14 => ?_) (fun c14 => ?_)
        · refine lv_iconst (v := 0) hx hb dX7_isOnRing_63 (by decide) ?_
          exact x_rz hx hb hr (xnz (Or.inl rfl)) hlk hQ (Nat.le_of_ble_eq_true rfl) (Nat.le_of_ble_eq_true rfl) hS dX7_isOnRing_64 () ⟨_, rfl, (Or.inl rfl)⟩ hh
        · refine lv_iload_n hx hb dX7_isOnRing_36 rfl (lv_at hl 3 rfl) ?_
          refine lv_iload_n hx hb dX7_isOnRing_37 rfl (lv_at hl 2 rfl) ?_
          refine xi_cne (tgt := 43) hx hb (rfl : Int32.toInt x4 = x4.toInt) (rfl : Int32.toInt p1 = p1.toInt) dX7_isOnRing_38 (by decide) (fun c15 => ?_) (fun c15 => ?_)
          · refine lv_aload_n hx hb dX7_isOnRing_43 rfl (lv_at hl 1 rfl) ?_
            refine lv_aload_n hx hb dX7_isOnRing_44 rfl (lv_at hl 0 rfl) ?_
            refine kX7_2 (v := x1) S hK hT ha (List.mem_of_getElem? (i := 1) rfl) kf_X7_39 dX7_isOnRing_45 ?_
            refine lv_iload_n hx hb dX7_isOnRing_48 rfl (lv_at hl 3 rfl) ?_
            refine lv_aload_n hx hb dX7_isOnRing_49 rfl (lv_at hl 0 rfl) ?_
            refine kX7_3 (v := x2) S hK hT ha (List.mem_of_getElem? (i := 0) rfl) kf_X7_42 dX7_isOnRing_50 ?_
            refine x_clp (x_runV (b := p0) (As := [.int x1, .int x4, .int x2]) (rest := []) S (c_X6_cell l E K F G s.heap p0 x1 x4 x2 hp0) mv_X6_cell km_X7_59 rfl rfl ⟨Nat.le_of_ble_eq_true rfl, Nat.le_of_ble_eq_true rfl⟩ (rc_8 hK hT hp0) hK (fun _ => XPh.blind) (fun U hU hW => XPh.at hK hz hS hT hU hW) rfl hl.1 (Nat.le_of_ble_eq_true rfl) dX7_isOnRing_53 ⟨Nat.le_of_ble_eq_true rfl, Nat.le_of_ble_eq_true rfl⟩) hS ?_
            rintro _ _ locs ⟨x16, rfl⟩ hS
            refine lv_istore_n (lv' := [(3, .int x16), (0, .ref a), (1, .ref p0), (2, .int p1), (4, .int x5)]) hx hb dX7_isOnRing_56 rfl hl (by decide) rfl (fun ls hl => ?_)
            refine xi_iinc (n := 1) (lv' := fun z9 => [(4, .int z9), (3, .int x16), (0, .ref a), (1, .ref p0), (2, .int p1)]) (k := 4) hx hb (rfl : Int32.toInt x5 = x5.toInt) (by decide) dX7_isOnRing_57 hl rfl (by decide) (fun _ => rfl) (fun x17 ls t18 hl => ?_)
            have hl : lv_has ls 5 [(4, .int x17), (3, .int x16), (0, .ref a), (1, .ref p0), (2, .int p1)] := hl
            refine lv_goto (tgt := 17) hx hb dX7_isOnRing_60 (by decide) ?_
            exact ih9 x16 x17 _ _ (z_X7_isOnRing_2 x17.toInt x5.toInt N6 hf7 hm8 c10 t18 (xr x17) (xr x5)) (z_X7_isOnRing_3 x17.toInt x5.toInt N6 hf7 hm8 c10 t18 (xr x17) (xr x5)) hT hS (lv_sub hl [2, 3, 4, 1, 0] rfl)
          · refine lv_iconst (v := 1) hx hb dX7_isOnRing_41 (by decide) ?_
            exact x_rz hx hb hr (xnz (Or.inr rfl)) hlk hQ (Nat.le_of_ble_eq_true rfl) (Nat.le_of_ble_eq_true rfl) hS dX7_isOnRing_42 () ⟨_, rfl, (Or.inr rfl)⟩ hh
  exact L17 4294967297 x3 0 _ _ (by decide) (by decide) hT hS (lv_sub hl [2, 3, 4, 1, 0] rfl)

theorem z_X7_state_1 (a0 : Int) (r0 : -2147483648 ≤ a0 ∧ a0 < 2147483648) : (a0 < 0 ∨ 4 < a0) ∨ (a0 = 0) ∨ (a0 = 1) ∨ (a0 = 2) ∨ (a0 = 3) ∨ (a0 = 4) := by omega
abbrev rm_X7_state : Room := { frames := 2, cells := 0, slots := 0, locals := 50 }
set_option maxHeartbeats 4000000 in
set_option maxRecDepth 100000 in
theorem c_X7_state (l : Launch) (E : XE) (K : Nat → Nat) (F : Nat → Nat → Nat) (G : XG) (h0 : Heap) (a : Nat) (p0 : Nat) (p1 : Int32) (ha : K a = 9) (hp0 : K p0 = 8) : Met l yX7_state (xw yX7_state cX7_state 3 (some .int)) rm_X7_state (va_Pc [.ref a, .ref p0, .int p1] (XPh E K F G h0)) (XQ E (fun v (u : Unit) => ∃ r : Int32, v = .int r) (fun _ H => H = h0)) 0 0 (xA E) := by
  refine x_enter (by decide) (Nat.le_of_ble_eq_true rfl) ?_
  intro p e s m args below meth c Q S hr hlk hnm hQ hP ls hl
  obtain ⟨⟨hz, hK, hT⟩, hh⟩ := hP
  obtain ⟨hx, hb, -, -, -⟩ := id S
  have hS : va_S (xA E) s.heap s.heap [] := va_S.rf
  have hl : lv_has ls 3 [(0, .ref a), (1, .ref p0), (2, .int p1)] := hl
  refine lv_aload_n hx hb dX7_state_0 rfl (lv_at hl 0 rfl) ?_
  refine gX7_0 S hK hT ha kf_X7_21 dX7_state_1 (fun x1 hT => ?_)
  rcases ((z_X7_state_1 x1.toInt (xr x1)) : (x1.toInt < 0 ∨ 4 < x1.toInt) ∨ (x1.toInt = 0) ∨ (x1.toInt = 1) ∨ (x1.toInt = 2) ∨ (x1.toInt = 3) ∨ (x1.toInt = 4)) with c2 | c2 | c2 | c2 | c2 | c2
  · refine lv_tableOut (tgt := 106) hx hb dX7_state_4 c2 (by decide) ?_
    refine lv_aload_n hx hb dX7_state_106 rfl (lv_at hl 1 rfl) ?_
    refine lv_aload_n hx hb dX7_state_107 rfl (lv_at hl 0 rfl) ?_
    refine gX7_2 S hK hT ha kf_X7_39 dX7_state_108 (fun x3 hT => ?_)
    refine lv_iload_n hx hb dX7_state_111 rfl (lv_at hl 2 rfl) ?_
    refine lv_aload_n hx hb dX7_state_112 rfl (lv_at hl 0 rfl) ?_
    refine gX7_3 S hK hT ha kf_X7_42 dX7_state_113 (fun x4 hT => ?_)
    refine x_clp (x_runV (b := p0) (As := [.int x3, .int p1, .int x4]) (rest := []) S (c_X6_cell l E K F G s.heap p0 x3 p1 x4 hp0) mv_X6_cell km_X7_59 rfl rfl ⟨Nat.le_of_ble_eq_true rfl, Nat.le_of_ble_eq_true rfl⟩ (rc_8 hK hT hp0) hK (fun _ => XPh.blind) (fun U hU hW => XPh.at hK hz hS hT hU hW) rfl hl.1 (Nat.le_of_ble_eq_true rfl) dX7_state_116 ⟨Nat.le_of_ble_eq_true rfl, Nat.le_of_ble_eq_true rfl⟩) hS ?_
    rintro _ _ locs ⟨x5, rfl⟩ hS
    exact x_ri hx hb hr hlk hQ (Nat.le_of_ble_eq_true rfl) (Nat.le_of_ble_eq_true rfl) hS dX7_state_119 () ⟨_, rfl⟩ hh
  · refine lv_tableIn (off := 36) (tgt := 40) hx hb dX7_state_4 (by rw [c2]; decide) (by rw [c2]; decide) (by rw [c2]; rfl) (by decide) ?_
    refine lv_aload_n hx hb dX7_state_40 rfl (lv_at hl 1 rfl) ?_
    refine lv_aload_n hx hb dX7_state_41 rfl (lv_at hl 0 rfl) ?_
    refine gX7_2 S hK hT ha kf_X7_39 dX7_state_42 (fun x6 hT => ?_)
    refine lv_aload_n hx hb dX7_state_45 rfl (lv_at hl 0 rfl) ?_
    refine gX7_3 S hK hT ha kf_X7_42 dX7_state_46 (fun x7 hT => ?_)
    refine lv_iload_n hx hb dX7_state_49 rfl (lv_at hl 2 rfl) ?_
    refine x_clp (x_runV (b := p0) (As := [.int x6, .int x7, .int p1]) (rest := []) S (c_X6_having l E K F G s.heap p0 x6 x7 p1 hp0) mv_X6_having km_X7_45 rfl rfl ⟨Nat.le_of_ble_eq_true rfl, Nat.le_of_ble_eq_true rfl⟩ (rc_8 hK hT hp0) hK (fun _ => XPh.blind) (fun U hU hW => XPh.at hK hz hS hT hU hW) rfl hl.1 (Nat.le_of_ble_eq_true rfl) dX7_state_50 ⟨Nat.le_of_ble_eq_true rfl, Nat.le_of_ble_eq_true rfl⟩) hS ?_
    rintro _ _ locs ⟨x8, rfl⟩ hS
    exact x_ri hx hb hr hlk hQ (Nat.le_of_ble_eq_true rfl) (Nat.le_of_ble_eq_true rfl) hS dX7_state_53 () ⟨_, rfl⟩ hh
  · refine lv_tableIn (off := 50) (tgt := 54) hx hb dX7_state_4 (by rw [c2]; decide) (by rw [c2]; decide) (by rw [c2]; rfl) (by decide) ?_
    refine lv_iconst (v := 2) hx hb dX7_state_54 (by decide) ?_
    refine lv_aload_n hx hb dX7_state_55 rfl (lv_at hl 1 rfl) ?_
    refine lv_aload_n hx hb dX7_state_56 rfl (lv_at hl 0 rfl) ?_
    refine gX7_2 S hK hT ha kf_X7_39 dX7_state_57 (fun x9 hT => ?_)
    refine lv_aload_n hx hb dX7_state_60 rfl (lv_at hl 0 rfl) ?_
    refine gX7_3 S hK hT ha kf_X7_42 dX7_state_61 (fun x10 hT => ?_)
    refine lv_iload_n hx hb dX7_state_64 rfl (lv_at hl 2 rfl) ?_
    refine x_clp (x_runV (b := p0) (As := [.int x9, .int x10, .int p1]) (rest := [.int 2]) S (c_X6_having l E K F G s.heap p0 x9 x10 p1 hp0) mv_X6_having km_X7_45 rfl rfl ⟨Nat.le_of_ble_eq_true rfl, Nat.le_of_ble_eq_true rfl⟩ (rc_8 hK hT hp0) hK (fun _ => XPh.blind) (fun U hU hW => XPh.at hK hz hS hT hU hW) rfl hl.1 (Nat.le_of_ble_eq_true rfl) dX7_state_65 ⟨Nat.le_of_ble_eq_true rfl, Nat.le_of_ble_eq_true rfl⟩) hS ?_
    rintro _ _ locs ⟨x11, rfl⟩ hS
    refine xi_imul hx hb ((by decide) : Int32.toInt 2 = (2 : Int)) (rfl : Int32.toInt x11 = x11.toInt) dX7_state_68 (fun x12 t13 => ?_)
    refine lv_aload_n hx hb dX7_state_69 rfl (lv_at hl 1 rfl) ?_
    refine lv_aload_n hx hb dX7_state_70 rfl (lv_at hl 0 rfl) ?_
    refine gX7_4 S hK hT ha kf_X7_15 dX7_state_71 (fun x14 hT => ?_)
    refine lv_iload_n hx hb dX7_state_74 rfl (lv_at hl 2 rfl) ?_
    refine x_clp (x_runV (b := p0) (As := [.int x14, .int p1]) (rest := [.int x12]) S (c_X6_has l E K F G s.heap p0 x14 p1 hp0) mv_X6_has km_X7_51 rfl rfl ⟨Nat.le_of_ble_eq_true rfl, Nat.le_of_ble_eq_true rfl⟩ (rc_8 hK hT hp0) hK (fun _ => XPh.blind) (fun U hU hW => XPh.at hK hz hS hT hU hW) rfl hl.1 (Nat.le_of_ble_eq_true rfl) dX7_state_75 ⟨Nat.le_of_ble_eq_true rfl, Nat.le_of_ble_eq_true rfl⟩) hS ?_
    rintro _ _ locs ⟨x15, rfl, b16, t17⟩ hS
    have t17 : x15.toInt = 0 ∨ (x15.toInt = 1 ∧ 0 ≤ x14.toInt ∧ x14.toInt < 3 ∧ 0 ≤ p1.toInt ∧ p1.toInt < 30) := t17
    refine xi_zeq (tgt := 85) hx hb (rfl : Int32.toInt x15 = x15.toInt) dX7_state_78 (by decide) (fun c18 => ?_) (fun c18 => ?_)
    · refine lv_iconst (v := 0) hx hb dX7_state_85 (by decide) ?_
      refine xi_iadd hx hb (rfl : Int32.toInt x12 = x12.toInt) ((by decide) : Int32.toInt 0 = (0 : Int)) dX7_state_86 (fun x19 t20 => ?_)
      exact x_ri hx hb hr hlk hQ (Nat.le_of_ble_eq_true rfl) (Nat.le_of_ble_eq_true rfl) hS dX7_state_87 () ⟨_, rfl⟩ hh
    · refine lv_iconst (v := 1) hx hb dX7_state_81 (by decide) ?_
      refine lv_goto (tgt := 86) hx hb dX7_state_82 (by decide) ?_
      refine xi_iadd hx hb (rfl : Int32.toInt x12 = x12.toInt) ((by decide) : Int32.toInt 1 = (1 : Int)) dX7_state_86 (fun x21 t22 => ?_)
      exact x_ri hx hb hr hlk hQ (Nat.le_of_ble_eq_true rfl) (Nat.le_of_ble_eq_true rfl) hS dX7_state_87 () ⟨_, rfl⟩ hh
  · refine lv_tableIn (off := 102) (tgt := 106) hx hb dX7_state_4 (by rw [c2]; decide) (by rw [c2]; decide) (by rw [c2]; rfl) (by decide) ?_
    refine lv_aload_n hx hb dX7_state_106 rfl (lv_at hl 1 rfl) ?_
    refine lv_aload_n hx hb dX7_state_107 rfl (lv_at hl 0 rfl) ?_
    refine gX7_2 S hK hT ha kf_X7_39 dX7_state_108 (fun x23 hT => ?_)
    refine lv_iload_n hx hb dX7_state_111 rfl (lv_at hl 2 rfl) ?_
    refine lv_aload_n hx hb dX7_state_112 rfl (lv_at hl 0 rfl) ?_
    refine gX7_3 S hK hT ha kf_X7_42 dX7_state_113 (fun x24 hT => ?_)
    refine x_clp (x_runV (b := p0) (As := [.int x23, .int p1, .int x24]) (rest := []) S (c_X6_cell l E K F G s.heap p0 x23 p1 x24 hp0) mv_X6_cell km_X7_59 rfl rfl ⟨Nat.le_of_ble_eq_true rfl, Nat.le_of_ble_eq_true rfl⟩ (rc_8 hK hT hp0) hK (fun _ => XPh.blind) (fun U hU hW => XPh.at hK hz hS hT hU hW) rfl hl.1 (Nat.le_of_ble_eq_true rfl) dX7_state_116 ⟨Nat.le_of_ble_eq_true rfl, Nat.le_of_ble_eq_true rfl⟩) hS ?_
    rintro _ _ locs ⟨x25, rfl⟩ hS
    exact x_ri hx hb hr hlk hQ (Nat.le_of_ble_eq_true rfl) (Nat.le_of_ble_eq_true rfl) hS dX7_state_119 () ⟨_, rfl⟩ hh
  · refine lv_tableIn (off := 84) (tgt := 88) hx hb dX7_state_4 (by rw [c2]; decide) (by rw [c2]; decide) (by rw [c2]; rfl) (by decide) ?_
    refine lv_aload_n hx hb dX7_state_88 rfl (lv_at hl 1 rfl) ?_
    refine lv_aload_n hx hb dX7_state_89 rfl (lv_at hl 0 rfl) ?_
    refine gX7_2 S hK hT ha kf_X7_39 dX7_state_90 (fun x26 hT => ?_)
    refine lv_aload_n hx hb dX7_state_93 rfl (lv_at hl 0 rfl) ?_
    refine gX7_3 S hK hT ha kf_X7_42 dX7_state_94 (fun x27 hT => ?_)
    refine lv_iload_n hx hb dX7_state_97 rfl (lv_at hl 2 rfl) ?_
    refine lv_aload_n hx hb dX7_state_98 rfl (lv_at hl 0 rfl) ?_
    refine gX7_4 S hK hT ha kf_X7_15 dX7_state_99 (fun x28 hT => ?_)
    refine x_clp (x_runV (b := p0) (As := [.int x26, .int x27, .int p1, .int x28]) (rest := []) S (c_X6_sumOf l E K F G s.heap p0 x26 x27 p1 x28 hp0) mv_X6_sumOf km_X7_55 rfl rfl ⟨Nat.le_of_ble_eq_true rfl, Nat.le_of_ble_eq_true rfl⟩ (rc_8 hK hT hp0) hK (fun _ => XPh.blind) (fun U hU hW => XPh.at hK hz hS hT hU hW) rfl hl.1 (Nat.le_of_ble_eq_true rfl) dX7_state_102 ⟨Nat.le_of_ble_eq_true rfl, Nat.le_of_ble_eq_true rfl⟩) hS ?_
    rintro _ _ locs ⟨x29, rfl⟩ hS
    exact x_ri hx hb hr hlk hQ (Nat.le_of_ble_eq_true rfl) (Nat.le_of_ble_eq_true rfl) hS dX7_state_105 () ⟨_, rfl⟩ hh
  · refine lv_tableIn (off := 50) (tgt := 54) hx hb dX7_state_4 (by rw [c2]; decide) (by rw [c2]; decide) (by rw [c2]; rfl) (by decide) ?_
    refine lv_iconst (v := 2) hx hb dX7_state_54 (by decide) ?_
    refine lv_aload_n hx hb dX7_state_55 rfl (lv_at hl 1 rfl) ?_
    refine lv_aload_n hx hb dX7_state_56 rfl (lv_at hl 0 rfl) ?_
    refine gX7_2 S hK hT ha kf_X7_39 dX7_state_57 (fun x30 hT => ?_)
    refine lv_aload_n hx hb dX7_state_60 rfl (lv_at hl 0 rfl) ?_
    refine gX7_3 S hK hT ha kf_X7_42 dX7_state_61 (fun x31 hT => ?_)
    refine lv_iload_n hx hb dX7_state_64 rfl (lv_at hl 2 rfl) ?_
    refine x_clp (x_runV (b := p0) (As := [.int x30, .int x31, .int p1]) (rest := [.int 2]) S (c_X6_having l E K F G s.heap p0 x30 x31 p1 hp0) mv_X6_having km_X7_45 rfl rfl ⟨Nat.le_of_ble_eq_true rfl, Nat.le_of_ble_eq_true rfl⟩ (rc_8 hK hT hp0) hK (fun _ => XPh.blind) (fun U hU hW => XPh.at hK hz hS hT hU hW) rfl hl.1 (Nat.le_of_ble_eq_true rfl) dX7_state_65 ⟨Nat.le_of_ble_eq_true rfl, Nat.le_of_ble_eq_true rfl⟩) hS ?_
    rintro _ _ locs ⟨x32, rfl⟩ hS
    refine xi_imul hx hb ((by decide) : Int32.toInt 2 = (2 : Int)) (rfl : Int32.toInt x32 = x32.toInt) dX7_state_68 (fun x33 t34 => ?_)
    refine lv_aload_n hx hb dX7_state_69 rfl (lv_at hl 1 rfl) ?_
    refine lv_aload_n hx hb dX7_state_70 rfl (lv_at hl 0 rfl) ?_
    refine gX7_4 S hK hT ha kf_X7_15 dX7_state_71 (fun x35 hT => ?_)
    refine lv_iload_n hx hb dX7_state_74 rfl (lv_at hl 2 rfl) ?_
    refine x_clp (x_runV (b := p0) (As := [.int x35, .int p1]) (rest := [.int x33]) S (c_X6_has l E K F G s.heap p0 x35 p1 hp0) mv_X6_has km_X7_51 rfl rfl ⟨Nat.le_of_ble_eq_true rfl, Nat.le_of_ble_eq_true rfl⟩ (rc_8 hK hT hp0) hK (fun _ => XPh.blind) (fun U hU hW => XPh.at hK hz hS hT hU hW) rfl hl.1 (Nat.le_of_ble_eq_true rfl) dX7_state_75 ⟨Nat.le_of_ble_eq_true rfl, Nat.le_of_ble_eq_true rfl⟩) hS ?_
    rintro _ _ locs ⟨x36, rfl, b37, t38⟩ hS
    have t38 : x36.toInt = 0 ∨ (x36.toInt = 1 ∧ 0 ≤ x35.toInt ∧ x35.toInt < 3 ∧ 0 ≤ p1.toInt ∧ p1.toInt < 30) := t38
    refine xi_zeq (tgt := 85) hx hb (rfl : Int32.toInt x36 = x36.toInt) dX7_state_78 (by decide) (fun c39 => ?_) (fun c39 => ?_)
    · refine lv_iconst (v := 0) hx hb dX7_state_85 (by decide) ?_
      refine xi_iadd hx hb (rfl : Int32.toInt x33 = x33.toInt) ((by decide) : Int32.toInt 0 = (0 : Int)) dX7_state_86 (fun x40 t41 => ?_)
      exact x_ri hx hb hr hlk hQ (Nat.le_of_ble_eq_true rfl) (Nat.le_of_ble_eq_true rfl) hS dX7_state_87 () ⟨_, rfl⟩ hh
    · refine lv_iconst (v := 1) hx hb dX7_state_81 (by decide) ?_
      refine lv_goto (tgt := 86) hx hb dX7_state_82 (by decide) ?_
      refine xi_iadd hx hb (rfl : Int32.toInt x33 = x33.toInt) ((by decide) : Int32.toInt 1 = (1 : Int)) dX7_state_86 (fun x42 t43 => ?_)
      exact x_ri hx hb hr hlk hQ (Nat.le_of_ble_eq_true rfl) (Nat.le_of_ble_eq_true rfl) hS dX7_state_87 () ⟨_, rfl⟩ hh

theorem z_X7_fails_1 (a0 : Int) (r0 : -2147483648 ≤ a0 ∧ a0 < 2147483648) : (a0 < 0 ∨ 4 < a0) ∨ (a0 = 0) ∨ (a0 = 1) ∨ (a0 = 2) ∨ (a0 = 3) ∨ (a0 = 4) := by omega
abbrev rm_X7_fails : Room := { frames := 3, cells := 0, slots := 0, locals := 68 }
set_option maxHeartbeats 4000000 in
set_option maxRecDepth 100000 in
theorem c_X7_fails (l : Launch) (E : XE) (K : Nat → Nat) (F : Nat → Nat → Nat) (G : XG) (h0 : Heap) (a : Nat) (p0 : Nat) (p1 : Int32) (p2 : Int32) (ha : K a = 9) (hp0 : K p0 = 8) : Met l yX7_fails (xw yX7_fails cX7_fails 4 (some .boolean)) rm_X7_fails (va_Pc [.ref a, .ref p0, .int p1, .int p2] (XPh E K F G h0)) (XQ E (fun v (u : Unit) => ∃ r : Int32, v = .int r ∧ (r = 0 ∨ r = 1)) (fun _ H => H = h0)) 0 0 (xA E) := by
  refine x_enter (by decide) (Nat.le_of_ble_eq_true rfl) ?_
  intro p e s m args below meth c Q S hr hlk hnm hQ hP ls hl
  obtain ⟨⟨hz, hK, hT⟩, hh⟩ := hP
  obtain ⟨hx, hb, -, -, -⟩ := id S
  have hS : va_S (xA E) s.heap s.heap [] := va_S.rf
  have hl : lv_has ls 4 [(0, .ref a), (1, .ref p0), (2, .int p1), (3, .int p2)] := hl
  refine lv_aload_n hx hb dX7_fails_0 rfl (lv_at hl 0 rfl) ?_
  refine gX7_0 S hK hT ha kf_X7_21 dX7_fails_1 (fun x1 hT => ?_)
  rcases ((z_X7_fails_1 x1.toInt (xr x1)) : (x1.toInt < 0 ∨ 4 < x1.toInt) ∨ (x1.toInt = 0) ∨ (x1.toInt = 1) ∨ (x1.toInt = 2) ∨ (x1.toInt = 3) ∨ (x1.toInt = 4)) with c2 | c2 | c2 | c2 | c2 | c2
  · refine lv_tableOut (tgt := 139) hx hb dX7_fails_4 c2 (by decide) ?_
    refine lv_aload_n hx hb dX7_fails_139 rfl (lv_at hl 0 rfl) ?_
    refine lv_aload_n hx hb dX7_fails_140 rfl (lv_at hl 1 rfl) ?_
    refine lv_iload_n hx hb dX7_fails_141 rfl (lv_at hl 2 rfl) ?_
    refine x_clp (x_runV (b := a) (As := [.ref p0, .int p1]) (rest := []) S (c_X7_isOnRing l E K F G s.heap a p0 p1 ha hp0) mv_X7_isOnRing km_X7_66 rfl rfl ⟨Nat.le_of_ble_eq_true rfl, Nat.le_of_ble_eq_true rfl⟩ (rc_9 hK hT ha) hK (fun _ => XPh.blind) (fun U hU hW => XPh.at hK hz hS hT hU hW) rfl hl.1 (Nat.le_of_ble_eq_true rfl) dX7_fails_142 ⟨Nat.le_of_ble_eq_true rfl, Nat.le_of_ble_eq_true rfl⟩) hS ?_
    rintro _ _ locs ⟨x3, rfl, b4⟩ hS
    exact x_rz hx hb hr (xnz b4) hlk hQ (Nat.le_of_ble_eq_true rfl) (Nat.le_of_ble_eq_true rfl) hS dX7_fails_145 () ⟨_, rfl, b4⟩ hh
  · refine lv_tableIn (off := 36) (tgt := 40) hx hb dX7_fails_4 (by rw [c2]; decide) (by rw [c2]; decide) (by rw [c2]; rfl) (by decide) ?_
    refine lv_iload_n hx hb dX7_fails_40 rfl (lv_at hl 3 rfl) ?_
    refine lv_iconst (v := 1) hx hb dX7_fails_41 (by decide) ?_
    refine xi_cle (tgt := 49) hx hb (rfl : Int32.toInt p2 = p2.toInt) ((by decide) : Int32.toInt 1 = (1 : Int)) dX7_fails_42 (by decide) (fun c5 => ?_) (fun c5 => ?_)
    · refine lv_iconst (v := 0) hx hb dX7_fails_49 (by decide) ?_
      exact x_rz hx hb hr (xnz (Or.inl rfl)) hlk hQ (Nat.le_of_ble_eq_true rfl) (Nat.le_of_ble_eq_true rfl) hS dX7_fails_50 () ⟨_, rfl, (Or.inl rfl)⟩ hh
    · refine lv_iconst (v := 1) hx hb dX7_fails_45 (by decide) ?_
      refine lv_goto (tgt := 50) hx hb dX7_fails_46 (by decide) ?_
      exact x_rz hx hb hr (xnz (Or.inr rfl)) hlk hQ (Nat.le_of_ble_eq_true rfl) (Nat.le_of_ble_eq_true rfl) hS dX7_fails_50 () ⟨_, rfl, (Or.inr rfl)⟩ hh
  · refine lv_tableIn (off := 47) (tgt := 51) hx hb dX7_fails_4 (by rw [c2]; decide) (by rw [c2]; decide) (by rw [c2]; rfl) (by decide) ?_
    refine lv_iload_n hx hb dX7_fails_51 rfl (lv_at hl 3 rfl) ?_
    refine lv_iconst (v := 1) hx hb dX7_fails_52 (by decide) ?_
    refine xi_cle (tgt := 66) hx hb (rfl : Int32.toInt p2 = p2.toInt) ((by decide) : Int32.toInt 1 = (1 : Int)) dX7_fails_53 (by decide) (fun c6 => ?_) (fun c6 => ?_)
    · refine lv_iconst (v := 0) hx hb dX7_fails_66 (by decide) ?_
      exact x_rz hx hb hr (xnz (Or.inl rfl)) hlk hQ (Nat.le_of_ble_eq_true rfl) (Nat.le_of_ble_eq_true rfl) hS dX7_fails_67 () ⟨_, rfl, (Or.inl rfl)⟩ hh
    · refine lv_iload_n hx hb dX7_fails_56 rfl (lv_at hl 3 rfl) ?_
      refine lv_iconst (v := 1) hx hb dX7_fails_57 (by decide) ?_
      refine lv_iand hx hb dX7_fails_58 (lv_topi (fun x7 _ => ?_))
      refine xi_zne (tgt := 66) hx hb (rfl : Int32.toInt x7 = x7.toInt) dX7_fails_59 (by decide) (fun c8 => ?_) (fun c8 => ?_)
      · refine lv_iconst (v := 0) hx hb dX7_fails_66 (by decide) ?_
        exact x_rz hx hb hr (xnz (Or.inl rfl)) hlk hQ (Nat.le_of_ble_eq_true rfl) (Nat.le_of_ble_eq_true rfl) hS dX7_fails_67 () ⟨_, rfl, (Or.inl rfl)⟩ hh
      · refine lv_iconst (v := 1) hx hb dX7_fails_62 (by decide) ?_
        refine lv_goto (tgt := 67) hx hb dX7_fails_63 (by decide) ?_
        exact x_rz hx hb hr (xnz (Or.inr rfl)) hlk hQ (Nat.le_of_ble_eq_true rfl) (Nat.le_of_ble_eq_true rfl) hS dX7_fails_67 () ⟨_, rfl, (Or.inr rfl)⟩ hh
  · refine lv_tableIn (off := 64) (tgt := 68) hx hb dX7_fails_4 (by rw [c2]; decide) (by rw [c2]; decide) (by rw [c2]; rfl) (by decide) ?_
    refine lv_iload_n hx hb dX7_fails_68 rfl (lv_at hl 3 rfl) ?_
    refine lv_sipush (v := (-2000)) hx hb dX7_fails_69 (by decide) ?_
    refine xi_ceq (tgt := 94) hx hb (rfl : Int32.toInt p2 = p2.toInt) ((by decide) : Int32.toInt (-2000) = (-2000 : Int)) dX7_fails_72 (by decide) (fun c9 => ?_) (fun c9 => ?_)
    · refine lv_iconst (v := 0) hx hb dX7_fails_94 (by decide) ?_
      exact x_rz hx hb hr (xnz (Or.inl rfl)) hlk hQ (Nat.le_of_ble_eq_true rfl) (Nat.le_of_ble_eq_true rfl) hS dX7_fails_95 () ⟨_, rfl, (Or.inl rfl)⟩ hh
    · refine lv_iload_n hx hb dX7_fails_75 rfl (lv_at hl 3 rfl) ?_
      refine lv_sipush (v := (-1000)) hx hb dX7_fails_76 (by decide) ?_
      refine xi_ceq (tgt := 94) hx hb (rfl : Int32.toInt p2 = p2.toInt) ((by decide) : Int32.toInt (-1000) = (-1000 : Int)) dX7_fails_79 (by decide) (fun c10 => ?_) (fun c10 => ?_)
      · refine lv_iconst (v := 0) hx hb dX7_fails_94 (by decide) ?_
        exact x_rz hx hb hr (xnz (Or.inl rfl)) hlk hQ (Nat.le_of_ble_eq_true rfl) (Nat.le_of_ble_eq_true rfl) hS dX7_fails_95 () ⟨_, rfl, (Or.inl rfl)⟩ hh
      · refine lv_aload_n hx hb dX7_fails_82 rfl (lv_at hl 0 rfl) ?_
        refine lv_iload_n hx hb dX7_fails_83 rfl (lv_at hl 3 rfl) ?_
        refine x_clp (x_runV (b := a) (As := [.int p2]) (rest := []) S (c_X7_isOutside l E K F G s.heap a p2 ha) mv_X7_isOutside km_X7_62 rfl rfl ⟨Nat.le_of_ble_eq_true rfl, Nat.le_of_ble_eq_true rfl⟩ (rc_9 hK hT ha) hK (fun _ => XPh.blind) (fun U hU hW => XPh.at hK hz hS hT hU hW) rfl hl.1 (Nat.le_of_ble_eq_true rfl) dX7_fails_84 ⟨Nat.le_of_ble_eq_true rfl, Nat.le_of_ble_eq_true rfl⟩) hS ?_
        rintro _ _ locs ⟨x11, rfl, b12⟩ hS
        refine xi_zeq (tgt := 94) hx hb (rfl : Int32.toInt x11 = x11.toInt) dX7_fails_87 (by decide) (fun c13 => ?_) (fun c13 => ?_)
        · refine lv_iconst (v := 0) hx hb dX7_fails_94 (by decide) ?_
          exact x_rz hx hb hr (xnz (Or.inl rfl)) hlk hQ (Nat.le_of_ble_eq_true rfl) (Nat.le_of_ble_eq_true rfl) hS dX7_fails_95 () ⟨_, rfl, (Or.inl rfl)⟩ hh
        · refine lv_iconst (v := 1) hx hb dX7_fails_90 (by decide) ?_
          refine lv_goto (tgt := 95) hx hb dX7_fails_91 (by decide) ?_
          exact x_rz hx hb hr (xnz (Or.inr rfl)) hlk hQ (Nat.le_of_ble_eq_true rfl) (Nat.le_of_ble_eq_true rfl) hS dX7_fails_95 () ⟨_, rfl, (Or.inr rfl)⟩ hh
  · refine lv_tableIn (off := 92) (tgt := 96) hx hb dX7_fails_4 (by rw [c2]; decide) (by rw [c2]; decide) (by rw [c2]; rfl) (by decide) ?_
    refine lv_iload_n hx hb dX7_fails_96 rfl (lv_at hl 3 rfl) ?_
    refine lv_ldc (v := 100000) hx hb S.2.2.2.1 (S.2.2.2.2 _ (List.mem_cons_of_mem _ kc_X7_65)) dX7_fails_97 ?_
    refine xi_ceq (tgt := 114) hx hb (rfl : Int32.toInt p2 = p2.toInt) ((by decide) : Int32.toInt 100000 = (100000 : Int)) dX7_fails_99 (by decide) (fun c14 => ?_) (fun c14 => ?_)
    · refine lv_iconst (v := 0) hx hb dX7_fails_114 (by decide) ?_
      exact x_rz hx hb hr (xnz (Or.inl rfl)) hlk hQ (Nat.le_of_ble_eq_true rfl) (Nat.le_of_ble_eq_true rfl) hS dX7_fails_115 () ⟨_, rfl, (Or.inl rfl)⟩ hh
    · refine lv_aload_n hx hb dX7_fails_102 rfl (lv_at hl 0 rfl) ?_
      refine lv_iload_n hx hb dX7_fails_103 rfl (lv_at hl 3 rfl) ?_
      refine x_clp (x_runV (b := a) (As := [.int p2]) (rest := []) S (c_X7_isOutside l E K F G s.heap a p2 ha) mv_X7_isOutside km_X7_62 rfl rfl ⟨Nat.le_of_ble_eq_true rfl, Nat.le_of_ble_eq_true rfl⟩ (rc_9 hK hT ha) hK (fun _ => XPh.blind) (fun U hU hW => XPh.at hK hz hS hT hU hW) rfl hl.1 (Nat.le_of_ble_eq_true rfl) dX7_fails_104 ⟨Nat.le_of_ble_eq_true rfl, Nat.le_of_ble_eq_true rfl⟩) hS ?_
      rintro _ _ locs ⟨x15, rfl, b16⟩ hS
      refine xi_zeq (tgt := 114) hx hb (rfl : Int32.toInt x15 = x15.toInt) dX7_fails_107 (by decide) (fun c17 => ?_) (fun c17 => ?_)
      · refine lv_iconst (v := 0) hx hb dX7_fails_114 (by decide) ?_
        exact x_rz hx hb hr (xnz (Or.inl rfl)) hlk hQ (Nat.le_of_ble_eq_true rfl) (Nat.le_of_ble_eq_true rfl) hS dX7_fails_115 () ⟨_, rfl, (Or.inl rfl)⟩ hh
      · refine lv_iconst (v := 1) hx hb dX7_fails_110 (by decide) ?_
        refine lv_goto (tgt := 115) hx hb dX7_fails_111 (by decide) ?_
        exact x_rz hx hb hr (xnz (Or.inr rfl)) hlk hQ (Nat.le_of_ble_eq_true rfl) (Nat.le_of_ble_eq_true rfl) hS dX7_fails_115 () ⟨_, rfl, (Or.inr rfl)⟩ hh
  · refine lv_tableIn (off := 112) (tgt := 116) hx hb dX7_fails_4 (by rw [c2]; decide) (by rw [c2]; decide) (by rw [c2]; rfl) (by decide) ?_
    refine lv_iload_n hx hb dX7_fails_116 rfl (lv_at hl 3 rfl) ?_
    refine lv_iconst (v := 1) hx hb dX7_fails_117 (by decide) ?_
    refine lv_iand hx hb dX7_fails_118 (lv_topi (fun x18 _ => ?_))
    refine lv_iconst (v := 1) hx hb dX7_fails_119 (by decide) ?_
    refine xi_cne (tgt := 137) hx hb (rfl : Int32.toInt x18 = x18.toInt) ((by decide) : Int32.toInt 1 = (1 : Int)) dX7_fails_120 (by decide) (fun c19 => ?_) (fun c19 => ?_)
    · refine lv_iconst (v := 0) hx hb dX7_fails_137 (by decide) ?_
      exact x_rz hx hb hr (xnz (Or.inl rfl)) hlk hQ (Nat.le_of_ble_eq_true rfl) (Nat.le_of_ble_eq_true rfl) hS dX7_fails_138 () ⟨_, rfl, (Or.inl rfl)⟩ hh
    · refine lv_aload_n hx hb dX7_fails_123 rfl (lv_at hl 0 rfl) ?_
      refine lv_iload_n hx hb dX7_fails_124 rfl (lv_at hl 3 rfl) ?_
      refine lv_iconst (v := 1) hx hb dX7_fails_125 (by decide) ?_
      refine lv_ishr hx hb dX7_fails_126 (lv_topi (fun x20 _ => ?_))
      refine x_clp (x_runV (b := a) (As := [.int x20]) (rest := []) S (c_X7_isOutside l E K F G s.heap a x20 ha) mv_X7_isOutside km_X7_62 rfl rfl ⟨Nat.le_of_ble_eq_true rfl, Nat.le_of_ble_eq_true rfl⟩ (rc_9 hK hT ha) hK (fun _ => XPh.blind) (fun U hU hW => XPh.at hK hz hS hT hU hW) rfl hl.1 (Nat.le_of_ble_eq_true rfl) dX7_fails_127 ⟨Nat.le_of_ble_eq_true rfl, Nat.le_of_ble_eq_true rfl⟩) hS ?_
      rintro _ _ locs ⟨x21, rfl, b22⟩ hS
      refine xi_zeq (tgt := 137) hx hb (rfl : Int32.toInt x21 = x21.toInt) dX7_fails_130 (by decide) (fun c23 => ?_) (fun c23 => ?_)
      · refine lv_iconst (v := 0) hx hb dX7_fails_137 (by decide) ?_
        exact x_rz hx hb hr (xnz (Or.inl rfl)) hlk hQ (Nat.le_of_ble_eq_true rfl) (Nat.le_of_ble_eq_true rfl) hS dX7_fails_138 () ⟨_, rfl, (Or.inl rfl)⟩ hh
      · refine lv_iconst (v := 1) hx hb dX7_fails_133 (by decide) ?_
        refine lv_goto (tgt := 138) hx hb dX7_fails_134 (by decide) ?_
        exact x_rz hx hb hr (xnz (Or.inr rfl)) hlk hQ (Nat.le_of_ble_eq_true rfl) (Nat.le_of_ble_eq_true rfl) hS dX7_fails_138 () ⟨_, rfl, (Or.inr rfl)⟩ hh
