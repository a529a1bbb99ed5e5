theorem z_X10_asked_1 (a0 : Int) (r0 : -2147483648 ≤ a0 ∧ a0 < 2147483648) : (¬ a0 = 0 ∧ ¬ a0 = 1) ∨ (a0 = 0) ∨ (a0 = 1) := by omega
abbrev rm_X10_asked : Room := { frames := 2, cells := 0, slots := 0, locals := 42 }
set_option maxHeartbeats 4000000 in
set_option maxRecDepth 100000 in
theorem c_X10_asked (l : Launch) (E : XE) (K : Nat → Nat) (F : Nat → Nat → Nat) (G : XG) (h0 : Heap) (a : Nat) (p0 : Int32) (p1 : Int32) (ha : K a = 12) : Met l yX10_asked (xw yX10_asked cX10_asked 3 (some .int)) rm_X10_asked (va_Pc [.ref a, .int p0, .int p1] (XPh E K F G h0)) (XQ E (fun v (u : Unit) => ∃ r : Int32, v = .int r) (fun _ H => H = h0)) 0 0 (xA E) := by
  refine x_enter (by decide) (Nat.le_of_ble_eq_true rfl) ?_
  intro p e s m args below meth c Q S hr hlk hnm hQ hP ls hl
  obtain ⟨⟨hz, hK, hT⟩, hh⟩ := hP
  obtain ⟨hx, hb, -, -, -⟩ := id S
  have hS : va_S (xA E) s.heap s.heap [] := va_S.rf
  have hl : lv_has ls 3 [(0, .ref a), (1, .int p0), (2, .int p1)] := hl
  refine lv_iload_n hx hb dX10_asked_0 rfl (lv_at hl 2 rfl) ?_
  refine xi_zlt (tgt := 9) hx hb (rfl : Int32.toInt p1 = p1.toInt) dX10_asked_1 (by decide) (fun c1 => ?_) (fun c1 => ?_)
  · refine lv_iconst (v := (-1)) hx hb dX10_asked_9 (by decide) ?_
    exact x_ri hx hb hr hlk hQ (Nat.le_of_ble_eq_true rfl) (Nat.le_of_ble_eq_true rfl) hS dX10_asked_10 () ⟨_, rfl⟩ hh
  · refine lv_iload_n hx hb dX10_asked_4 rfl (lv_at hl 2 rfl) ?_
    refine lv_iconst (v := 2) hx hb dX10_asked_5 (by decide) ?_
    refine xi_cle (tgt := 11) hx hb (rfl : Int32.toInt p1 = p1.toInt) ((by decide) : Int32.toInt 2 = (2 : Int)) dX10_asked_6 (by decide) (fun c2 => ?_) (fun c2 => ?_)
    · refine lv_iload_n hx hb dX10_asked_11 rfl (lv_at hl 1 rfl) ?_
      refine lv_iconst (v := (-1)) hx hb dX10_asked_12 (by decide) ?_
      refine xi_cne (tgt := 24) hx hb (rfl : Int32.toInt p0 = p0.toInt) ((by decide) : Int32.toInt (-1) = (-1 : Int)) dX10_asked_13 (by decide) (fun c3 => ?_) (fun c3 => ?_)
      · refine lv_iload_n hx hb dX10_asked_24 rfl (lv_at hl 1 rfl) ?_
        refine xi_zlt (tgt := 39) hx hb (rfl : Int32.toInt p0 = p0.toInt) dX10_asked_25 (by decide) (fun c4 => ?_) (fun c4 => ?_)
        · refine lv_iconst (v := (-1)) hx hb dX10_asked_39 (by decide) ?_
          exact x_ri hx hb hr hlk hQ (Nat.le_of_ble_eq_true rfl) (Nat.le_of_ble_eq_true rfl) hS dX10_asked_40 () ⟨_, rfl⟩ hh
        · refine lv_iload_n hx hb dX10_asked_28 rfl (lv_at hl 1 rfl) ?_
          refine lv_aload_n hx hb dX10_asked_29 rfl (lv_at hl 0 rfl) ?_
          refine gX10_10 S hK hT ha kf_X10_64 dX10_asked_30 (fun hk5 => ?_)
          refine x_clp (x_runV (b := (F a 10)) (As := []) (rest := [.int p0]) S (c_X4_size l E K F G s.heap (F a 10) hk5) mv_X4_size km_X10_232 rfl rfl ⟨Nat.le_of_ble_eq_true rfl, Nat.le_of_ble_eq_true rfl⟩ (rc_6 hK hT hk5) hK (fun _ => XPh.blind) (fun U hU hW => XPh.at hK hz hS hT hU hW) rfl hl.1 (Nat.le_of_ble_eq_true rfl) dX10_asked_33 ⟨Nat.le_of_ble_eq_true rfl, Nat.le_of_ble_eq_true rfl⟩) hS ?_
          rintro _ _ locs ⟨x6, rfl⟩ hS
          refine xi_clt (tgt := 41) hx hb (rfl : Int32.toInt p0 = p0.toInt) (rfl : Int32.toInt x6 = x6.toInt) dX10_asked_36 (by decide) (fun c7 => ?_) (fun c7 => ?_)
          · refine lv_iload_n hx hb dX10_asked_41 rfl (lv_at hl 2 rfl) ?_
            rcases ((z_X10_asked_1 p1.toInt (xr p1)) : (¬ p1.toInt = 0 ∧ ¬ p1.toInt = 1) ∨ (p1.toInt = 0) ∨ (p1.toInt = 1)) with c8 | c8 | c8
            · refine lv_lookup (off := 44) (tgt := 86) hx hb dX10_asked_42 (by decide) (by first | (simp only [Op.lookupswitch.offset_cons, Op.lookupswitch.offset_nil]; (repeat' split) <;> omega) | (simp [Op.lookupswitch.offset]; (repeat' split) <;> omega) | (simp [Op.lookupswitch.offset]; omega)) (by decide) ?_
              refine lv_aload_n hx hb dX10_asked_86 rfl (lv_at hl 0 rfl) ?_
              refine gX10_10 S hK hT ha kf_X10_64 dX10_asked_87 (fun hk9 => ?_)
              refine lv_iload_n hx hb dX10_asked_90 rfl (lv_at hl 1 rfl) ?_
              refine x_clp (x_runV (b := (F a 10)) (As := [.int p0]) (rest := []) S (c_X4_fails l E K F G s.heap (F a 10) p0 hk9) mv_X4_fails km_X10_309 rfl rfl ⟨Nat.le_of_ble_eq_true rfl, Nat.le_of_ble_eq_true rfl⟩ (rc_6 hK hT hk9) hK (fun _ => XPh.blind) (fun U hU hW => XPh.at hK hz hS hT hU hW) rfl hl.1 (Nat.le_of_ble_eq_true rfl) dX10_asked_91 ⟨Nat.le_of_ble_eq_true rfl, Nat.le_of_ble_eq_true rfl⟩) hS ?_
              rintro _ _ locs ⟨x10, rfl, b11⟩ hS
              refine xi_zeq (tgt := 101) hx hb (rfl : Int32.toInt x10 = x10.toInt) dX10_asked_94 (by decide) (fun c12 => ?_) (fun c12 => ?_)
              · refine lv_iconst (v := 0) hx hb dX10_asked_101 (by decide) ?_
                exact x_ri hx hb hr hlk hQ (Nat.le_of_ble_eq_true rfl) (Nat.le_of_ble_eq_true rfl) hS dX10_asked_102 () ⟨_, rfl⟩ hh
              · refine lv_iconst (v := 1) hx hb dX10_asked_97 (by decide) ?_
                refine lv_goto (tgt := 102) hx hb dX10_asked_98 (by decide) ?_
                exact x_ri hx hb hr hlk hQ (Nat.le_of_ble_eq_true rfl) (Nat.le_of_ble_eq_true rfl) hS dX10_asked_102 () ⟨_, rfl⟩ hh
            · refine lv_lookup (off := 26) (tgt := 68) hx hb dX10_asked_42 (by decide) (by rw [c8]; rfl) (by decide) ?_
              refine lv_aload_n hx hb dX10_asked_68 rfl (lv_at hl 0 rfl) ?_
              refine gX10_10 S hK hT ha kf_X10_64 dX10_asked_69 (fun hk13 => ?_)
              refine lv_iload_n hx hb dX10_asked_72 rfl (lv_at hl 1 rfl) ?_
              refine x_clp (x_runV (b := (F a 10)) (As := [.int p0]) (rest := []) S (c_X4_number l E K F G s.heap (F a 10) p0 hk13) mv_X4_number km_X10_301 rfl rfl ⟨Nat.le_of_ble_eq_true rfl, Nat.le_of_ble_eq_true rfl⟩ (rc_6 hK hT hk13) hK (fun _ => XPh.blind) (fun U hU hW => XPh.at hK hz hS hT hU hW) rfl hl.1 (Nat.le_of_ble_eq_true rfl) dX10_asked_73 ⟨Nat.le_of_ble_eq_true rfl, Nat.le_of_ble_eq_true rfl⟩) hS ?_
              rintro _ _ locs ⟨x14, rfl⟩ hS
              exact x_ri hx hb hr hlk hQ (Nat.le_of_ble_eq_true rfl) (Nat.le_of_ble_eq_true rfl) hS dX10_asked_76 () ⟨_, rfl⟩ hh
            · refine lv_lookup (off := 35) (tgt := 77) hx hb dX10_asked_42 (by decide) (by rw [c8]; rfl) (by decide) ?_
              refine lv_aload_n hx hb dX10_asked_77 rfl (lv_at hl 0 rfl) ?_
              refine gX10_10 S hK hT ha kf_X10_64 dX10_asked_78 (fun hk15 => ?_)
              refine lv_iload_n hx hb dX10_asked_81 rfl (lv_at hl 1 rfl) ?_
              refine x_clp (x_runV (b := (F a 10)) (As := [.int p0]) (rest := []) S (c_X4_subject l E K F G s.heap (F a 10) p0 hk15) mv_X4_subject km_X10_147 rfl rfl ⟨Nat.le_of_ble_eq_true rfl, Nat.le_of_ble_eq_true rfl⟩ (rc_6 hK hT hk15) hK (fun _ => XPh.blind) (fun U hU hW => XPh.at hK hz hS hT hU hW) rfl hl.1 (Nat.le_of_ble_eq_true rfl) dX10_asked_82 ⟨Nat.le_of_ble_eq_true rfl, Nat.le_of_ble_eq_true rfl⟩) hS ?_
              rintro _ _ locs ⟨x16, rfl⟩ hS
              exact x_ri hx hb hr hlk hQ (Nat.le_of_ble_eq_true rfl) (Nat.le_of_ble_eq_true rfl) hS dX10_asked_85 () ⟨_, rfl⟩ hh
          · refine lv_iconst (v := (-1)) hx hb dX10_asked_39 (by decide) ?_
            exact x_ri hx hb hr hlk hQ (Nat.le_of_ble_eq_true rfl) (Nat.le_of_ble_eq_true rfl) hS dX10_asked_40 () ⟨_, rfl⟩ hh
      · refine lv_aload_n hx hb dX10_asked_16 rfl (lv_at hl 0 rfl) ?_
        refine gX10_10 S hK hT ha kf_X10_64 dX10_asked_17 (fun hk17 => ?_)
        refine x_clp (x_runV (b := (F a 10)) (As := []) (rest := []) S (c_X4_size l E K F G s.heap (F a 10) hk17) mv_X4_size km_X10_232 rfl rfl ⟨Nat.le_of_ble_eq_true rfl, Nat.le_of_ble_eq_true rfl⟩ (rc_6 hK hT hk17) hK (fun _ => XPh.blind) (fun U hU hW => XPh.at hK hz hS hT hU hW) rfl hl.1 (Nat.le_of_ble_eq_true rfl) dX10_asked_20 ⟨Nat.le_of_ble_eq_true rfl, Nat.le_of_ble_eq_true rfl⟩) hS ?_
        rintro _ _ locs ⟨x18, rfl⟩ hS
        exact x_ri hx hb hr hlk hQ (Nat.le_of_ble_eq_true rfl) (Nat.le_of_ble_eq_true rfl) hS dX10_asked_23 () ⟨_, rfl⟩ hh
    · refine lv_iconst (v := (-1)) hx hb dX10_asked_9 (by decide) ?_
      exact x_ri hx hb hr hlk hQ (Nat.le_of_ble_eq_true rfl) (Nat.le_of_ble_eq_true rfl) hS dX10_asked_10 () ⟨_, rfl⟩ hh

theorem z_X10_fresh_1 (a0 : Int) (r0 : -2147483648 ≤ a0 ∧ a0 < 2147483648) : (¬ a0 = 0 ∧ ¬ a0 = 1) ∨ (a0 = 0) ∨ (a0 = 1) := by omega
abbrev rm_X10_fresh : Room := { frames := 7, cells := 0, slots := 0, locals := 173 }
set_option maxHeartbeats 4000000 in
set_option maxRecDepth 100000 in
theorem c_X10_fresh (l : Launch) (E : XE) (K : Nat → Nat) (F : Nat → Nat → Nat) (G : XG) (a : Nat) (p0 : Int32) (p1 : Int32) (ha : K a = 12) : Met l yX10_fresh (xw yX10_fresh cX10_fresh 4 (some .int)) rm_X10_fresh (va_Pc [.ref a, .int p0, .int p1] (XP E K F G)) (XQ E (fun v (u : Unit) => ∃ r : Int32, v = .int r) (fun _ H => TW E K F G [] H)) 0 0 (xA E) := by
  refine x_enter (by decide) (Nat.le_of_ble_eq_true rfl) ?_
  intro p e s m args below meth c Q S hr hlk hnm hQ hP ls hl
  obtain ⟨hz, hK, hT⟩ := hP
  obtain ⟨hx, hb, -, -, -⟩ := id S
  obtain ⟨H, hT, hS, hgo⟩ : ∃ H : Heap, TW E K F G [] H ∧ va_S (xA E) s.heap H [] ∧ H = s.heap := ⟨_, hT, va_S.rf, rfl⟩
  rw [← hgo]
  have hl : lv_has ls 4 [(0, .ref a), (1, .int p0), (2, .int p1)] := hl
  refine lv_aload_n hx hb dX10_fresh_0 rfl (lv_at hl 0 rfl) ?_
  refine lv_iload_n hx hb dX10_fresh_1 rfl (lv_at hl 1 rfl) ?_
  refine x_clp (x_runV (b := a) (As := [.int p0]) (rest := []) S (c_X10_rowsAtMark l E K F G H a p0 ha) mv_X10_rowsAtMark km_X10_236 rfl rfl ⟨Nat.le_of_ble_eq_true rfl, Nat.le_of_ble_eq_true rfl⟩ (rc_12 hK hT ha) hK (fun _ => XPh.blind) (fun U hU hW => XPh.at hK hz hS hT hU hW) rfl hl.1 (Nat.le_of_ble_eq_true rfl) dX10_fresh_2 ⟨Nat.le_of_ble_eq_true rfl, Nat.le_of_ble_eq_true rfl⟩) hS ?_
  rintro _ _ locs (rfl | ⟨q2, rfl, hk3⟩) hS
  · refine lv_astore_nN (lv' := [(3, .null), (0, .ref a), (1, .int p0), (2, .int p1)]) hx hb dX10_fresh_5 rfl hl (by decide) rfl (fun ls hl => ?_)
    refine lv_aload_nN hx hb dX10_fresh_6 rfl (lv_at hl 0 rfl) ?_
    refine lv_ifnonnullN hx hb dX10_fresh_7 ?_
    refine lv_iconst (v := (-1)) hx hb dX10_fresh_10 (by decide) ?_
    exact x_ri hx hb hr hlk hQ (Nat.le_of_ble_eq_true rfl) (Nat.le_of_ble_eq_true rfl) hS dX10_fresh_11 () ⟨_, rfl⟩ hT.nil
  · refine lv_astore_n (lv' := [(3, .ref q2), (0, .ref a), (1, .int p0), (2, .int p1)]) hx hb dX10_fresh_5 rfl hl (by decide) rfl (fun ls hl => ?_)
    refine lv_aload_n hx hb dX10_fresh_6 rfl (lv_at hl 0 rfl) ?_
    refine lv_ifnonnull (tgt := 12) hx hb dX10_fresh_7 (by decide) ?_
    refine lv_iload_n hx hb dX10_fresh_12 rfl (lv_at hl 3 rfl) ?_
    rcases ((z_X10_fresh_1 p1.toInt (xr p1)) : (¬ p1.toInt = 0 ∧ ¬ p1.toInt = 1) ∨ (p1.toInt = 0) ∨ (p1.toInt = 1)) with c4 | c4 | c4
    · refine lv_lookup (off := 39) (tgt := 52) hx hb dX10_fresh_13 (by decide) (by first | (simp only [Op.lookupswitch.offset_cons, Op.lookupswitch.offset_nil]; (repeat' split) <;> omega) | (simp [Op.lookupswitch.offset]; (repeat' split) <;> omega) | (simp [Op.lookupswitch.offset]; omega)) (by decide) ?_
      refine lv_iconst (v := (-1)) hx hb dX10_fresh_52 (by decide) ?_
      exact x_ri hx hb hr hlk hQ (Nat.le_of_ble_eq_true rfl) (Nat.le_of_ble_eq_true rfl) hS dX10_fresh_53 () ⟨_, rfl⟩ hT.nil
    · refine lv_lookup (off := 27) (tgt := 40) hx hb dX10_fresh_13 (by decide) (by rw [c4]; rfl) (by decide) ?_
      refine lv_aload_n hx hb dX10_fresh_40 rfl (lv_at hl 1 rfl) ?_
      refine lv_aload_n hx hb dX10_fresh_41 rfl (lv_at hl 0 rfl) ?_
      refine x_clp (x_runV (b := a) (As := [.ref q2]) (rest := []) S (c_X10_changedSince l E K F G H a q2 ha hk3) mv_X10_changedSince km_X10_318 rfl rfl ⟨Nat.le_of_ble_eq_true rfl, Nat.le_of_ble_eq_true rfl⟩ (rc_12 hK hT ha) hK (fun _ => XPh.blind) (fun U hU hW => XPh.at hK hz hS hT hU hW) rfl hl.1 (Nat.le_of_ble_eq_true rfl) dX10_fresh_42 ⟨Nat.le_of_ble_eq_true rfl, Nat.le_of_ble_eq_true rfl⟩) hS ?_
      rintro _ _ locs ⟨x5, rfl⟩ hS
      exact x_ri hx hb hr hlk hQ (Nat.le_of_ble_eq_true rfl) (Nat.le_of_ble_eq_true rfl) hS dX10_fresh_45 () ⟨_, rfl⟩ hT.nil
    · refine lv_lookup (off := 33) (tgt := 46) hx hb dX10_fresh_13 (by decide) (by rw [c4]; rfl) (by decide) ?_
      refine lv_aload_n hx hb dX10_fresh_46 rfl (lv_at hl 1 rfl) ?_
      refine lv_aload_n hx hb dX10_fresh_47 rfl (lv_at hl 0 rfl) ?_
      refine x_cl0 (x_runV (b := a) (As := [.ref q2]) (rest := []) S (c_X10_settledSince l E K F G a q2 ha hk3) mv_X10_settledSince km_X10_322 rfl rfl ⟨Nat.le_of_ble_eq_true rfl, Nat.le_of_ble_eq_true rfl⟩ (rc_12 hK hT ha) hK (fun _ => XP.blind) (fun U hU hW => XP.at hK hz hS hT hU hW) rfl hl.1 (Nat.le_of_ble_eq_true rfl) dX10_fresh_48 ⟨Nat.le_of_ble_eq_true rfl, Nat.le_of_ble_eq_true rfl⟩) hS ?_
      rintro _ _ H locs ⟨x6, rfl⟩ hT hS
      exact x_ri hx hb hr hlk hQ (Nat.le_of_ble_eq_true rfl) (Nat.le_of_ble_eq_true rfl) hS dX10_fresh_51 () ⟨_, rfl⟩ hT.nil

theorem z_X10_question_1 (a0 : Int) (r0 : -2147483648 ≤ a0 ∧ a0 < 2147483648) : (¬ a0 = 0 ∧ ¬ a0 = 1) ∨ (a0 = 0) ∨ (a0 = 1) := by omega
abbrev rm_X10_question : Room := { frames := 4, cells := 0, slots := 0, locals := 91 }
set_option maxHeartbeats 4000000 in
set_option maxRecDepth 100000 in
theorem c_X10_question (l : Launch) (E : XE) (K : Nat → Nat) (F : Nat → Nat → Nat) (G : XG) (h0 : Heap) (a : Nat) (p0 : Int32) (p1 : Int32) (p2 : Int32) (ha : K a = 12) : Met l yX10_question (xw yX10_question cX10_question 6 (some .int)) rm_X10_question (va_Pc [.ref a, .int p0, .int p1, .int p2] (XPh E K F G h0)) (XQ E (fun v (u : Unit) => ∃ r : Int32, v = .int r) (fun _ H => H = h0)) 0 0 (xA E) := by
  refine x_enter (by decide) (Nat.le_of_ble_eq_true rfl) ?_
  intro p e s m args below meth c Q S hr hlk hnm hQ hP ls hl
  obtain ⟨⟨hz, hK, hT⟩, hh⟩ := hP
  obtain ⟨hx, hb, -, -, -⟩ := id S
  have hS : va_S (xA E) s.heap s.heap [] := va_S.rf
  have hl : lv_has ls 6 [(0, .ref a), (1, .int p0), (2, .int p1), (3, .int p2)] := hl
  refine lv_aload_n hx hb dX10_question_0 rfl (lv_at hl 0 rfl) ?_
  refine gX10_2 S hK hT ha kf_X10_30 dX10_question_1 (fun hk1 => ?_)
  refine lv_iload_n hx hb dX10_question_4 rfl (lv_at hl 1 rfl) ?_
  refine x_clp (x_runV (b := (F a 2)) (As := [.int p0]) (rest := []) S (c_X0_get l E K F G s.heap (F a 2) p0 hk1) mv_X0_get km_X10_159 rfl rfl ⟨Nat.le_of_ble_eq_true rfl, Nat.le_of_ble_eq_true rfl⟩ (rc_2 hK hT hk1) hK (fun _ => XPh.blind) (fun U hU hW => XPh.at hK hz hS hT hU hW) rfl hl.1 (Nat.le_of_ble_eq_true rfl) dX10_question_5 ⟨Nat.le_of_ble_eq_true rfl, Nat.le_of_ble_eq_true rfl⟩) hS ?_
  rintro _ _ locs (rfl | ⟨q3, rfl, hk4⟩) hS
  · refine lv_astoreN (lv' := [(4, .null), (0, .ref a), (1, .int p0), (2, .int p1), (3, .int p2)]) hx hb dX10_question_8 hl (by decide) rfl (fun ls hl => ?_)
    refine lv_aloadN hx hb dX10_question_10 (lv_at hl 0 rfl) ?_
    refine lv_ifnullN (tgt := 24) hx hb dX10_question_12 (by decide) ?_
    refine lv_ldcw (v := (-2147483648)) hx hb S.2.2.2.1 (S.2.2.2.2 _ (List.mem_cons_of_mem _ kc_X10_274)) dX10_question_24 ?_
    exact x_ri hx hb hr hlk hQ (Nat.le_of_ble_eq_true rfl) (Nat.le_of_ble_eq_true rfl) hS dX10_question_27 () ⟨_, rfl⟩ hh
  · refine lv_astore (lv' := [(4, .ref q3), (0, .ref a), (1, .int p0), (2, .int p1), (3, .int p2)]) hx hb dX10_question_8 hl (by decide) rfl (fun ls hl => ?_)
    refine lv_aload hx hb dX10_question_10 (lv_at hl 0 rfl) ?_
    refine lv_ifnull hx hb dX10_question_12 ?_
    refine lv_aload hx hb dX10_question_15 (lv_at hl 0 rfl) ?_
    refine lv_iload_n hx hb dX10_question_17 rfl (lv_at hl 3 rfl) ?_
    refine x_clp (x_runV (b := q3) (As := [.int p1]) (rest := []) S (c_X7_isSubject l E K F G s.heap q3 p1 hk4) mv_X7_isSubject km_X10_325 rfl rfl ⟨Nat.le_of_ble_eq_true rfl, Nat.le_of_ble_eq_true rfl⟩ (rc_9 hK hT hk4) hK (fun _ => XPh.blind) (fun U hU hW => XPh.at hK hz hS hT hU hW) rfl hl.1 (Nat.le_of_ble_eq_true rfl) dX10_question_18 ⟨Nat.le_of_ble_eq_true rfl, Nat.le_of_ble_eq_true rfl⟩) hS ?_
    rintro _ _ locs ⟨x5, rfl, b6⟩ hS
    refine xi_zne (tgt := 28) hx hb (rfl : Int32.toInt x5 = x5.toInt) dX10_question_21 (by decide) (fun c7 => ?_) (fun c7 => ?_)
    · refine lv_aload hx hb dX10_question_28 (lv_at hl 0 rfl) ?_
      refine lv_aload_n hx hb dX10_question_30 rfl (lv_at hl 1 rfl) ?_
      refine gX10_3 S hK hT ha kf_X10_37 dX10_question_31 (fun hk8 => ?_)
      refine lv_iload_n hx hb dX10_question_34 rfl (lv_at hl 3 rfl) ?_
      refine x_clp (x_runV (b := q3) (As := [.ref (F a 3), .int p1]) (rest := []) S (c_X7_state l E K F G s.heap q3 (F a 3) p1 hk4 hk8) mv_X7_state km_X10_328 rfl rfl ⟨Nat.le_of_ble_eq_true rfl, Nat.le_of_ble_eq_true rfl⟩ (rc_9 hK hT hk4) hK (fun _ => XPh.blind) (fun U hU hW => XPh.at hK hz hS hT hU hW) rfl hl.1 (Nat.le_of_ble_eq_true rfl) dX10_question_35 ⟨Nat.le_of_ble_eq_true rfl, Nat.le_of_ble_eq_true rfl⟩) hS ?_
      rintro _ _ locs ⟨x9, rfl⟩ hS
      refine lv_istore (lv' := [(5, .int x9), (4, .ref q3), (0, .ref a), (1, .int p0), (2, .int p1), (3, .int p2)]) hx hb dX10_question_38 hl (by decide) rfl (fun ls hl => ?_)
      refine lv_iload_n hx hb dX10_question_40 rfl (lv_at hl 5 rfl) ?_
      rcases ((z_X10_question_1 p2.toInt (xr p2)) : (¬ p2.toInt = 0 ∧ ¬ p2.toInt = 1) ∨ (p2.toInt = 0) ∨ (p2.toInt = 1)) with c10 | c10 | c10
      · refine lv_lookup (off := 51) (tgt := 92) hx hb dX10_question_41 (by decide) (by first | (simp only [Op.lookupswitch.offset_cons, Op.lookupswitch.offset_nil]; (repeat' split) <;> omega) | (simp [Op.lookupswitch.offset]; (repeat' split) <;> omega) | (simp [Op.lookupswitch.offset]; omega)) (by decide) ?_
        refine lv_ldcw (v := (-2147483648)) hx hb S.2.2.2.1 (S.2.2.2.2 _ (List.mem_cons_of_mem _ kc_X10_274)) dX10_question_92 ?_
        exact x_ri hx hb hr hlk hQ (Nat.le_of_ble_eq_true rfl) (Nat.le_of_ble_eq_true rfl) hS dX10_question_95 () ⟨_, rfl⟩ hh
      · refine lv_lookup (off := 27) (tgt := 68) hx hb dX10_question_41 (by decide) (by rw [c10]; rfl) (by decide) ?_
        refine lv_iload hx hb dX10_question_68 (lv_at hl 0 rfl) ?_
        exact x_ri hx hb hr hlk hQ (Nat.le_of_ble_eq_true rfl) (Nat.le_of_ble_eq_true rfl) hS dX10_question_70 () ⟨_, rfl⟩ hh
      · refine lv_lookup (off := 30) (tgt := 71) hx hb dX10_question_41 (by decide) (by rw [c10]; rfl) (by decide) ?_
        refine lv_aload hx hb dX10_question_71 (lv_at hl 1 rfl) ?_
        refine lv_aload_n hx hb dX10_question_73 rfl (lv_at hl 2 rfl) ?_
        refine gX10_3 S hK hT ha kf_X10_37 dX10_question_74 (fun hk11 => ?_)
        refine lv_iload_n hx hb dX10_question_77 rfl (lv_at hl 4 rfl) ?_
        refine lv_iload hx hb dX10_question_78 (lv_at hl 0 rfl) ?_
        refine x_clp (x_runV (b := q3) (As := [.ref (F a 3), .int p1, .int x9]) (rest := []) S (c_X7_fails l E K F G s.heap q3 (F a 3) p1 x9 hk4 hk11) mv_X7_fails km_X10_332 rfl rfl ⟨Nat.le_of_ble_eq_true rfl, Nat.le_of_ble_eq_true rfl⟩ (rc_9 hK hT hk4) hK (fun _ => XPh.blind) (fun U hU hW => XPh.at hK hz hS hT hU hW) rfl hl.1 (Nat.le_of_ble_eq_true rfl) dX10_question_80 ⟨Nat.le_of_ble_eq_true rfl, Nat.le_of_ble_eq_true rfl⟩) hS ?_
        rintro _ _ locs ⟨x12, rfl, b13⟩ hS
        refine xi_zeq (tgt := 90) hx hb (rfl : Int32.toInt x12 = x12.toInt) dX10_question_83 (by decide) (fun c14 => ?_) (fun c14 => ?_)
        · refine lv_iconst (v := 0) hx hb dX10_question_90 (by decide) ?_
          exact x_ri hx hb hr hlk hQ (Nat.le_of_ble_eq_true rfl) (Nat.le_of_ble_eq_true rfl) hS dX10_question_91 () ⟨_, rfl⟩ hh
        · refine lv_iconst (v := 1) hx hb dX10_question_86 (by decide) ?_
          refine lv_goto (tgt := 91) hx hb dX10_question_87 (by decide) ?_
          exact x_ri hx hb hr hlk hQ (Nat.le_of_ble_eq_true rfl) (Nat.le_of_ble_eq_true rfl) hS dX10_question_91 () ⟨_, rfl⟩ hh
    · refine lv_ldcw (v := (-2147483648)) hx hb S.2.2.2.1 (S.2.2.2.2 _ (List.mem_cons_of_mem _ kc_X10_274)) dX10_question_24 ?_
      exact x_ri hx hb hr hlk hQ (Nat.le_of_ble_eq_true rfl) (Nat.le_of_ble_eq_true rfl) hS dX10_question_27 () ⟨_, rfl⟩ hh

theorem z_X10_first_1 (a0 : Int) (r0 : -2147483648 ≤ a0 ∧ a0 < 2147483648) : (a0 < 0 ∨ 3 < a0) ∨ (a0 = 0) ∨ (a0 = 1) ∨ (a0 = 2) ∨ (a0 = 3) := by omega
abbrev rm_X10_first : Room := { frames := 3, cells := 0, slots := 0, locals := 64 }
set_option maxHeartbeats 4000000 in
set_option maxRecDepth 100000 in
theorem c_X10_first (l : Launch) (E : XE) (K : Nat → Nat) (F : Nat → Nat → Nat) (G : XG) (h0 : Heap) (a : Nat) (p0 : Int32) (ha : K a = 12) : Met l yX10_first (xw yX10_first cX10_first 3 (some .int)) rm_X10_first (va_Pc [.ref a, .int p0] (XPh E K F G h0)) (XQ E (fun v (u : Unit) => ∃ r : Int32, v = .int r) (fun _ H => H = h0)) 0 0 (xA E) := by
  refine x_enter (by decide) (Nat.le_of_ble_eq_true rfl) ?_
  intro p e s m args below meth c Q S hr hlk hnm hQ hP ls hl
  obtain ⟨⟨hz, hK, hT⟩, hh⟩ := hP
  obtain ⟨hx, hb, -, -, -⟩ := id S
  have hS : va_S (xA E) s.heap s.heap [] := va_S.rf
  have hl : lv_has ls 3 [(0, .ref a), (1, .int p0)] := hl
  refine lv_aload_n hx hb dX10_first_0 rfl (lv_at hl 0 rfl) ?_
  refine gX10_18 S hK hT ha kf_X10_123 dX10_first_1 (fun x1 hT => ?_)
  refine xi_zne (tgt := 9) hx hb (rfl : Int32.toInt x1 = x1.toInt) dX10_first_4 (by decide) (fun c2 => ?_) (fun c2 => ?_)
  · refine lv_aload_n hx hb dX10_first_9 rfl (lv_at hl 0 rfl) ?_
    refine gX10_8 S hK hT ha kf_X10_57 dX10_first_10 (fun hk3 => ?_)
    refine x_clp (x_runV (b := (F a 8)) (As := []) (rest := []) S (c_X4_firstFailing l E K F G s.heap (F a 8) hk3) mv_X4_firstFailing km_X10_244 rfl rfl ⟨Nat.le_of_ble_eq_true rfl, Nat.le_of_ble_eq_true rfl⟩ (rc_6 hK hT hk3) hK (fun _ => XPh.blind) (fun U hU hW => XPh.at hK hz hS hT hU hW) rfl hl.1 (Nat.le_of_ble_eq_true rfl) dX10_first_13 ⟨Nat.le_of_ble_eq_true rfl, Nat.le_of_ble_eq_true rfl⟩) hS ?_
    rintro _ _ locs ⟨x4, rfl⟩ hS
    refine lv_istore_n (lv' := [(2, .int x4), (0, .ref a), (1, .int p0)]) hx hb dX10_first_16 rfl hl (by decide) rfl (fun ls hl => ?_)
    refine lv_iload_n hx hb dX10_first_17 rfl (lv_at hl 2 rfl) ?_
    rcases ((z_X10_first_1 p0.toInt (xr p0)) : (p0.toInt < 0 ∨ 3 < p0.toInt) ∨ (p0.toInt = 0) ∨ (p0.toInt = 1) ∨ (p0.toInt = 2) ∨ (p0.toInt = 3)) with c5 | c5 | c5 | c5 | c5
    · refine lv_tableOut (tgt := 94) hx hb dX10_first_18 c5 (by decide) ?_
      refine lv_ldcw (v := (-2147483648)) hx hb S.2.2.2.1 (S.2.2.2.2 _ (List.mem_cons_of_mem _ kc_X10_274)) dX10_first_94 ?_
      exact x_ri hx hb hr hlk hQ (Nat.le_of_ble_eq_true rfl) (Nat.le_of_ble_eq_true rfl) hS dX10_first_97 () ⟨_, rfl⟩ hh
    · refine lv_tableIn (off := 30) (tgt := 48) hx hb dX10_first_18 (by rw [c5]; decide) (by rw [c5]; decide) (by rw [c5]; rfl) (by decide) ?_
      refine lv_iload_n hx hb dX10_first_48 rfl (lv_at hl 0 rfl) ?_
      refine lv_iconst (v := (-1)) hx hb dX10_first_49 (by decide) ?_
      refine xi_cne (tgt := 57) hx hb (rfl : Int32.toInt x4 = x4.toInt) ((by decide) : Int32.toInt (-1) = (-1 : Int)) dX10_first_50 (by decide) (fun c6 => ?_) (fun c6 => ?_)
      · refine lv_aload_n hx hb dX10_first_57 rfl (lv_at hl 1 rfl) ?_
        refine gX10_8 S hK hT ha kf_X10_57 dX10_first_58 (fun hk7 => ?_)
        refine lv_iload_n hx hb dX10_first_61 rfl (lv_at hl 0 rfl) ?_
        refine x_clp (x_runV (b := (F a 8)) (As := [.int x4]) (rest := []) S (c_X4_number l E K F G s.heap (F a 8) x4 hk7) mv_X4_number km_X10_301 rfl rfl ⟨Nat.le_of_ble_eq_true rfl, Nat.le_of_ble_eq_true rfl⟩ (rc_6 hK hT hk7) hK (fun _ => XPh.blind) (fun U hU hW => XPh.at hK hz hS hT hU hW) rfl hl.1 (Nat.le_of_ble_eq_true rfl) dX10_first_62 ⟨Nat.le_of_ble_eq_true rfl, Nat.le_of_ble_eq_true rfl⟩) hS ?_
        rintro _ _ locs ⟨x8, rfl⟩ hS
        exact x_ri hx hb hr hlk hQ (Nat.le_of_ble_eq_true rfl) (Nat.le_of_ble_eq_true rfl) hS dX10_first_65 () ⟨_, rfl⟩ hh
      · refine lv_iconst (v := (-1)) hx hb dX10_first_53 (by decide) ?_
        refine lv_goto (tgt := 65) hx hb dX10_first_54 (by decide) ?_
        exact x_ri hx hb hr hlk hQ (Nat.le_of_ble_eq_true rfl) (Nat.le_of_ble_eq_true rfl) hS dX10_first_65 () ⟨_, rfl⟩ hh
    · refine lv_tableIn (off := 48) (tgt := 66) hx hb dX10_first_18 (by rw [c5]; decide) (by rw [c5]; decide) (by rw [c5]; rfl) (by decide) ?_
      refine lv_iload_n hx hb dX10_first_66 rfl (lv_at hl 0 rfl) ?_
      refine lv_iconst (v := (-1)) hx hb dX10_first_67 (by decide) ?_
      refine xi_cne (tgt := 75) hx hb (rfl : Int32.toInt x4 = x4.toInt) ((by decide) : Int32.toInt (-1) = (-1 : Int)) dX10_first_68 (by decide) (fun c9 => ?_) (fun c9 => ?_)
      · refine lv_aload_n hx hb dX10_first_75 rfl (lv_at hl 1 rfl) ?_
        refine gX10_8 S hK hT ha kf_X10_57 dX10_first_76 (fun hk10 => ?_)
        refine lv_iload_n hx hb dX10_first_79 rfl (lv_at hl 0 rfl) ?_
        refine x_clp (x_runV (b := (F a 8)) (As := [.int x4]) (rest := []) S (c_X4_subject l E K F G s.heap (F a 8) x4 hk10) mv_X4_subject km_X10_147 rfl rfl ⟨Nat.le_of_ble_eq_true rfl, Nat.le_of_ble_eq_true rfl⟩ (rc_6 hK hT hk10) hK (fun _ => XPh.blind) (fun U hU hW => XPh.at hK hz hS hT hU hW) rfl hl.1 (Nat.le_of_ble_eq_true rfl) dX10_first_80 ⟨Nat.le_of_ble_eq_true rfl, Nat.le_of_ble_eq_true rfl⟩) hS ?_
        rintro _ _ locs ⟨x11, rfl⟩ hS
        exact x_ri hx hb hr hlk hQ (Nat.le_of_ble_eq_true rfl) (Nat.le_of_ble_eq_true rfl) hS dX10_first_83 () ⟨_, rfl⟩ hh
      · refine lv_iconst (v := (-1)) hx hb dX10_first_71 (by decide) ?_
        refine lv_goto (tgt := 83) hx hb dX10_first_72 (by decide) ?_
        exact x_ri hx hb hr hlk hQ (Nat.le_of_ble_eq_true rfl) (Nat.le_of_ble_eq_true rfl) hS dX10_first_83 () ⟨_, rfl⟩ hh
    · refine lv_tableIn (off := 66) (tgt := 84) hx hb dX10_first_18 (by rw [c5]; decide) (by rw [c5]; decide) (by rw [c5]; rfl) (by decide) ?_
      refine lv_iload_n hx hb dX10_first_84 rfl (lv_at hl 0 rfl) ?_
      exact x_ri hx hb hr hlk hQ (Nat.le_of_ble_eq_true rfl) (Nat.le_of_ble_eq_true rfl) hS dX10_first_85 () ⟨_, rfl⟩ hh
    · refine lv_tableIn (off := 68) (tgt := 86) hx hb dX10_first_18 (by rw [c5]; decide) (by rw [c5]; decide) (by rw [c5]; rfl) (by decide) ?_
      refine lv_aload_n hx hb dX10_first_86 rfl (lv_at hl 1 rfl) ?_
      refine gX10_8 S hK hT ha kf_X10_57 dX10_first_87 (fun hk12 => ?_)
      refine x_clp (x_runV (b := (F a 8)) (As := []) (rest := []) S (c_X4_failing l E K F G s.heap (F a 8) hk12) mv_X4_failing km_X10_335 rfl rfl ⟨Nat.le_of_ble_eq_true rfl, Nat.le_of_ble_eq_true rfl⟩ (rc_6 hK hT hk12) hK (fun _ => XPh.blind) (fun U hU hW => XPh.at hK hz hS hT hU hW) rfl hl.1 (Nat.le_of_ble_eq_true rfl) dX10_first_90 ⟨Nat.le_of_ble_eq_true rfl, Nat.le_of_ble_eq_true rfl⟩) hS ?_
      rintro _ _ locs ⟨x13, rfl⟩ hS
      exact x_ri hx hb hr hlk hQ (Nat.le_of_ble_eq_true rfl) (Nat.le_of_ble_eq_true rfl) hS dX10_first_93 () ⟨_, rfl⟩ hh
  · refine lv_iconst (v := (-1)) hx hb dX10_first_7 (by decide) ?_
    exact x_ri hx hb hr hlk hQ (Nat.le_of_ble_eq_true rfl) (Nat.le_of_ble_eq_true rfl) hS dX10_first_8 () ⟨_, rfl⟩ hh

abbrev rm_X10_all : Room := { frames := 6, cells := 0, slots := 0, locals := 149 }
set_option maxHeartbeats 4000000 in
set_option maxRecDepth 100000 in
theorem c_X10_all (l : Launch) (E : XE) (K : Nat → Nat) (F : Nat → Nat → Nat) (G : XG) (a : Nat) (p0 : Int32) (ha : K a = 12) : Met l yX10_all (xw yX10_all cX10_all 3 (some .int)) rm_X10_all (va_Pc [.ref a, .int p0] (XP E K F G)) (XQ E (fun v (u : Unit) => ∃ r : Int32, v = .int r) (fun _ H => TW E K F G [] H)) 0 0 (xA E) := by
  refine x_enter (by decide) (Nat.le_of_ble_eq_true rfl) ?_
  intro p e s m args below meth c Q S hr hlk hnm hQ hP ls hl
  obtain ⟨hz, hK, hT⟩ := hP
  obtain ⟨hx, hb, -, -, -⟩ := id S
  obtain ⟨H, hT, hS, hgo⟩ : ∃ H : Heap, TW E K F G [] H ∧ va_S (xA E) s.heap H [] ∧ H = s.heap := ⟨_, hT, va_S.rf, rfl⟩
  rw [← hgo]
  have hl : lv_has ls 3 [(0, .ref a), (1, .int p0)] := hl
  refine lv_iload_n hx hb dX10_all_0 rfl (lv_at hl 1 rfl) ?_
  refine xi_zlt (tgt := 9) hx hb (rfl : Int32.toInt p0 = p0.toInt) dX10_all_1 (by decide) (fun c1 => ?_) (fun c1 => ?_)
  · refine lv_ldcw (v := (-2147483648)) hx hb S.2.2.2.1 (S.2.2.2.2 _ (List.mem_cons_of_mem _ kc_X10_274)) dX10_all_9 ?_
    exact x_ri hx hb hr hlk hQ (Nat.le_of_ble_eq_true rfl) (Nat.le_of_ble_eq_true rfl) hS dX10_all_12 () ⟨_, rfl⟩ hT.nil
  · refine lv_iload_n hx hb dX10_all_4 rfl (lv_at hl 1 rfl) ?_
    refine lv_iconst (v := 2) hx hb dX10_all_5 (by decide) ?_
    refine xi_cle (tgt := 13) hx hb (rfl : Int32.toInt p0 = p0.toInt) ((by decide) : Int32.toInt 2 = (2 : Int)) dX10_all_6 (by decide) (fun c2 => ?_) (fun c2 => ?_)
    · refine lv_aload_n hx hb dX10_all_13 rfl (lv_at hl 0 rfl) ?_
      refine lv_aload_n hx hb dX10_all_14 rfl (lv_at hl 0 rfl) ?_
      refine gX10_9 S hK hT ha kf_X10_61 dX10_all_15 (fun hk3 => ?_)
      refine lv_aload_n hx hb dX10_all_18 rfl (lv_at hl 0 rfl) ?_
      refine gX10_6 S hK hT ha kf_X10_47 dX10_all_19 (fun hk4 => ?_)
      refine lv_aload_n hx hb dX10_all_22 rfl (lv_at hl 0 rfl) ?_
      refine gX10_3 S hK hT ha kf_X10_37 dX10_all_23 (fun hk5 => ?_)
      refine lv_iconst (v := 0) hx hb dX10_all_26 (by decide) ?_
      refine x_cv0 (x_runV (b := a) (As := [.ref (F a 9), .ref (F a 6), .ref (F a 3), .int 0]) (rest := []) S (c_X10_gather l E K F G a (F a 9) (F a 6) (F a 3) 0 ha hk3 hk4 hk5) mv_X10_gather km_X10_240 rfl rfl ⟨Nat.le_of_ble_eq_true rfl, Nat.le_of_ble_eq_true rfl⟩ (rc_12 hK hT ha) hK (fun _ => XP.blind) (fun U hU hW => XP.at hK hz hS hT hU hW) rfl hl.1 (Nat.le_of_ble_eq_true rfl) dX10_all_27 ⟨Nat.le_of_ble_eq_true rfl, Nat.le_of_ble_eq_true rfl⟩) hS ?_
      rintro _ H locs - hT hS
      refine lv_iload_n hx hb dX10_all_30 rfl (lv_at hl 1 rfl) ?_
      refine xi_zne (tgt := 42) hx hb (rfl : Int32.toInt p0 = p0.toInt) dX10_all_31 (by decide) (fun c6 => ?_) (fun c6 => ?_)
      · refine lv_aload_n hx hb dX10_all_42 rfl (lv_at hl 0 rfl) ?_
        refine gX10_9 S hK hT ha kf_X10_61 dX10_all_43 (fun hk7 => ?_)
        refine x_clp (x_runV (b := (F a 9)) (As := []) (rest := []) S (c_X4_firstFailing l E K F G H (F a 9) hk7) mv_X4_firstFailing km_X10_244 rfl rfl ⟨Nat.le_of_ble_eq_true rfl, Nat.le_of_ble_eq_true rfl⟩ (rc_6 hK hT hk7) hK (fun _ => XPh.blind) (fun U hU hW => XPh.at hK hz hS hT hU hW) rfl hl.1 (Nat.le_of_ble_eq_true rfl) dX10_all_46 ⟨Nat.le_of_ble_eq_true rfl, Nat.le_of_ble_eq_true rfl⟩) hS ?_
        rintro _ _ locs ⟨x8, rfl⟩ hS
        refine lv_istore_n (lv' := [(2, .int x8), (0, .ref a), (1, .int p0)]) hx hb dX10_all_49 rfl hl (by decide) rfl (fun ls hl => ?_)
        refine lv_iload_n hx hb dX10_all_50 rfl (lv_at hl 0 rfl) ?_
        refine lv_iconst (v := (-1)) hx hb dX10_all_51 (by decide) ?_
        refine xi_cne (tgt := 57) hx hb (rfl : Int32.toInt x8 = x8.toInt) ((by decide) : Int32.toInt (-1) = (-1 : Int)) dX10_all_52 (by decide) (fun c9 => ?_) (fun c9 => ?_)
        · refine lv_iload_n hx hb dX10_all_57 rfl (lv_at hl 2 rfl) ?_
          refine lv_iconst (v := 1) hx hb dX10_all_58 (by decide) ?_
          refine xi_cne (tgt := 73) hx hb (rfl : Int32.toInt p0 = p0.toInt) ((by decide) : Int32.toInt 1 = (1 : Int)) dX10_all_59 (by decide) (fun c10 => ?_) (fun c10 => ?_)
          · refine lv_aload_n hx hb dX10_all_73 rfl (lv_at hl 1 rfl) ?_
            refine gX10_9 S hK hT ha kf_X10_61 dX10_all_74 (fun hk11 => ?_)
            refine lv_iload_n hx hb dX10_all_77 rfl (lv_at hl 0 rfl) ?_
            refine x_clp (x_runV (b := (F a 9)) (As := [.int x8]) (rest := []) S (c_X4_subject l E K F G H (F a 9) x8 hk11) mv_X4_subject km_X10_147 rfl rfl ⟨Nat.le_of_ble_eq_true rfl, Nat.le_of_ble_eq_true rfl⟩ (rc_6 hK hT hk11) hK (fun _ => XPh.blind) (fun U hU hW => XPh.at hK hz hS hT hU hW) rfl hl.1 (Nat.le_of_ble_eq_true rfl) dX10_all_78 ⟨Nat.le_of_ble_eq_true rfl, Nat.le_of_ble_eq_true rfl⟩) hS ?_
            rintro _ _ locs ⟨x12, rfl⟩ hS
            exact x_ri hx hb hr hlk hQ (Nat.le_of_ble_eq_true rfl) (Nat.le_of_ble_eq_true rfl) hS dX10_all_81 () ⟨_, rfl⟩ hT.nil
          · refine lv_aload_n hx hb dX10_all_62 rfl (lv_at hl 1 rfl) ?_
            refine gX10_9 S hK hT ha kf_X10_61 dX10_all_63 (fun hk13 => ?_)
            refine lv_iload_n hx hb dX10_all_66 rfl (lv_at hl 0 rfl) ?_
            refine x_clp (x_runV (b := (F a 9)) (As := [.int x8]) (rest := []) S (c_X4_number l E K F G H (F a 9) x8 hk13) mv_X4_number km_X10_301 rfl rfl ⟨Nat.le_of_ble_eq_true rfl, Nat.le_of_ble_eq_true rfl⟩ (rc_6 hK hT hk13) hK (fun _ => XPh.blind) (fun U hU hW => XPh.at hK hz hS hT hU hW) rfl hl.1 (Nat.le_of_ble_eq_true rfl) dX10_all_67 ⟨Nat.le_of_ble_eq_true rfl, Nat.le_of_ble_eq_true rfl⟩) hS ?_
            rintro _ _ locs ⟨x14, rfl⟩ hS
            refine lv_goto (tgt := 81) hx hb dX10_all_70 (by decide) ?_
            exact x_ri hx hb hr hlk hQ (Nat.le_of_ble_eq_true rfl) (Nat.le_of_ble_eq_true rfl) hS dX10_all_81 () ⟨_, rfl⟩ hT.nil
        · refine lv_iconst (v := (-1)) hx hb dX10_all_55 (by decide) ?_
          exact x_ri hx hb hr hlk hQ (Nat.le_of_ble_eq_true rfl) (Nat.le_of_ble_eq_true rfl) hS dX10_all_56 () ⟨_, rfl⟩ hT.nil
      · refine lv_aload_n hx hb dX10_all_34 rfl (lv_at hl 0 rfl) ?_
        refine gX10_9 S hK hT ha kf_X10_61 dX10_all_35 (fun hk15 => ?_)
        refine x_clp (x_runV (b := (F a 9)) (As := []) (rest := []) S (c_X4_failing l E K F G H (F a 9) hk15) mv_X4_failing km_X10_335 rfl rfl ⟨Nat.le_of_ble_eq_true rfl, Nat.le_of_ble_eq_true rfl⟩ (rc_6 hK hT hk15) hK (fun _ => XPh.blind) (fun U hU hW => XPh.at hK hz hS hT hU hW) rfl hl.1 (Nat.le_of_ble_eq_true rfl) dX10_all_38 ⟨Nat.le_of_ble_eq_true rfl, Nat.le_of_ble_eq_true rfl⟩) hS ?_
        rintro _ _ locs ⟨x16, rfl⟩ hS
        exact x_ri hx hb hr hlk hQ (Nat.le_of_ble_eq_true rfl) (Nat.le_of_ble_eq_true rfl) hS dX10_all_41 () ⟨_, rfl⟩ hT.nil
    · refine lv_ldcw (v := (-2147483648)) hx hb S.2.2.2.1 (S.2.2.2.2 _ (List.mem_cons_of_mem _ kc_X10_274)) dX10_all_9 ?_
      exact x_ri hx hb hr hlk hQ (Nat.le_of_ble_eq_true rfl) (Nat.le_of_ble_eq_true rfl) hS dX10_all_12 () ⟨_, rfl⟩ hT.nil

theorem z_X10_verdict_1 (a0 : Int) (r0 : -2147483648 ≤ a0 ∧ a0 < 2147483648) : (¬ a0 = 0 ∧ ¬ a0 = 1) ∨ (a0 = 0) ∨ (a0 = 1) := by omega
abbrev rm_X10_verdict : Room := { frames := 3, cells := 0, slots := 0, locals := 60 }
set_option maxHeartbeats 4000000 in
set_option maxRecDepth 100000 in
theorem c_X10_verdict (l : Launch) (E : XE) (K : Nat → Nat) (F : Nat → Nat → Nat) (G : XG) (h0 : Heap) (a : Nat) (p0 : Int32) (ha : K a = 12) : Met l yX10_verdict (xw yX10_verdict cX10_verdict 2 (some .int)) rm_X10_verdict (va_Pc [.ref a, .int p0] (XPh E K F G h0)) (XQ E (fun v (u : Unit) => ∃ r : Int32, v = .int r) (fun _ H => H = h0)) 0 0 (xA E) := by
  refine x_enter (by decide) (Nat.le_of_ble_eq_true rfl) ?_
  intro p e s m args below meth c Q S hr hlk hnm hQ hP ls hl
  obtain ⟨⟨hz, hK, hT⟩, hh⟩ := hP
  obtain ⟨hx, hb, -, -, -⟩ := id S
  have hS : va_S (xA E) s.heap s.heap [] := va_S.rf
  have hl : lv_has ls 2 [(0, .ref a), (1, .int p0)] := hl
  refine lv_iload_n hx hb dX10_verdict_0 rfl (lv_at hl 1 rfl) ?_
  refine lv_iconst (v := 2) hx hb dX10_verdict_1 (by decide) ?_
  refine xi_cne (tgt := 13) hx hb (rfl : Int32.toInt p0 = p0.toInt) ((by decide) : Int32.toInt 2 = (2 : Int)) dX10_verdict_2 (by decide) (fun c1 => ?_) (fun c1 => ?_)
  · refine lv_aload_n hx hb dX10_verdict_13 rfl (lv_at hl 0 rfl) ?_
    refine gX10_14 S hK hT ha kf_X10_91 dX10_verdict_14 (fun hk2 => ?_)
    refine x_clp (x_runV (b := (F a 14)) (As := []) (rest := []) S (c_X9_isTold l E K F G s.heap (F a 14) hk2) mv_X9_isTold km_X10_341 rfl rfl ⟨Nat.le_of_ble_eq_true rfl, Nat.le_of_ble_eq_true rfl⟩ (rc_11 hK hT hk2) hK (fun _ => XPh.blind) (fun U hU hW => XPh.at hK hz hS hT hU hW) rfl hl.1 (Nat.le_of_ble_eq_true rfl) dX10_verdict_17 ⟨Nat.le_of_ble_eq_true rfl, Nat.le_of_ble_eq_true rfl⟩) hS ?_
    rintro _ _ locs ⟨x3, rfl, b4⟩ hS
    refine xi_zne (tgt := 27) hx hb (rfl : Int32.toInt x3 = x3.toInt) dX10_verdict_20 (by decide) (fun c5 => ?_) (fun c5 => ?_)
    · refine lv_iload_n hx hb dX10_verdict_27 rfl (lv_at hl 1 rfl) ?_
      rcases ((z_X10_verdict_1 p0.toInt (xr p0)) : (¬ p0.toInt = 0 ∧ ¬ p0.toInt = 1) ∨ (p0.toInt = 0) ∨ (p0.toInt = 1)) with c6 | c6 | c6
      · refine lv_lookup (off := 44) (tgt := 72) hx hb dX10_verdict_28 (by decide) (by first | (simp only [Op.lookupswitch.offset_cons, Op.lookupswitch.offset_nil]; (repeat' split) <;> omega) | (simp [Op.lookupswitch.offset]; (repeat' split) <;> omega) | (simp [Op.lookupswitch.offset]; omega)) (by decide) ?_
        refine lv_ldcw (v := (-2147483648)) hx hb S.2.2.2.1 (S.2.2.2.2 _ (List.mem_cons_of_mem _ kc_X10_274)) dX10_verdict_72 ?_
        exact x_ri hx hb hr hlk hQ (Nat.le_of_ble_eq_true rfl) (Nat.le_of_ble_eq_true rfl) hS dX10_verdict_75 () ⟨_, rfl⟩ hh
      · refine lv_lookup (off := 28) (tgt := 56) hx hb dX10_verdict_28 (by decide) (by rw [c6]; rfl) (by decide) ?_
        refine lv_aload_n hx hb dX10_verdict_56 rfl (lv_at hl 0 rfl) ?_
        refine gX10_14 S hK hT ha kf_X10_91 dX10_verdict_57 (fun hk7 => ?_)
        refine x_clp (x_runV (b := (F a 14)) (As := []) (rest := []) S (c_X9_number l E K F G s.heap (F a 14) hk7) mv_X9_number km_X10_345 rfl rfl ⟨Nat.le_of_ble_eq_true rfl, Nat.le_of_ble_eq_true rfl⟩ (rc_11 hK hT hk7) hK (fun _ => XPh.blind) (fun U hU hW => XPh.at hK hz hS hT hU hW) rfl hl.1 (Nat.le_of_ble_eq_true rfl) dX10_verdict_60 ⟨Nat.le_of_ble_eq_true rfl, Nat.le_of_ble_eq_true rfl⟩) hS ?_
        rintro _ _ locs ⟨x8, rfl⟩ hS
        exact x_ri hx hb hr hlk hQ (Nat.le_of_ble_eq_true rfl) (Nat.le_of_ble_eq_true rfl) hS dX10_verdict_63 () ⟨_, rfl⟩ hh
      · refine lv_lookup (off := 36) (tgt := 64) hx hb dX10_verdict_28 (by decide) (by rw [c6]; rfl) (by decide) ?_
        refine lv_aload_n hx hb dX10_verdict_64 rfl (lv_at hl 0 rfl) ?_
        refine gX10_14 S hK hT ha kf_X10_91 dX10_verdict_65 (fun hk9 => ?_)
        refine x_clp (x_runV (b := (F a 14)) (As := []) (rest := []) S (c_X9_subject l E K F G s.heap (F a 14) hk9) mv_X9_subject km_X10_347 rfl rfl ⟨Nat.le_of_ble_eq_true rfl, Nat.le_of_ble_eq_true rfl⟩ (rc_11 hK hT hk9) hK (fun _ => XPh.blind) (fun U hU hW => XPh.at hK hz hS hT hU hW) rfl hl.1 (Nat.le_of_ble_eq_true rfl) dX10_verdict_68 ⟨Nat.le_of_ble_eq_true rfl, Nat.le_of_ble_eq_true rfl⟩) hS ?_
        rintro _ _ locs ⟨x10, rfl⟩ hS
        exact x_ri hx hb hr hlk hQ (Nat.le_of_ble_eq_true rfl) (Nat.le_of_ble_eq_true rfl) hS dX10_verdict_71 () ⟨_, rfl⟩ hh
    · refine lv_ldcw (v := (-2147483648)) hx hb S.2.2.2.1 (S.2.2.2.2 _ (List.mem_cons_of_mem _ kc_X10_274)) dX10_verdict_23 ?_
      exact x_ri hx hb hr hlk hQ (Nat.le_of_ble_eq_true rfl) (Nat.le_of_ble_eq_true rfl) hS dX10_verdict_26 () ⟨_, rfl⟩ hh
  · refine lv_aload_n hx hb dX10_verdict_5 rfl (lv_at hl 0 rfl) ?_
    refine gX10_14 S hK hT ha kf_X10_91 dX10_verdict_6 (fun hk11 => ?_)
    refine x_clp (x_runV (b := (F a 14)) (As := []) (rest := []) S (c_X9_signs l E K F G s.heap (F a 14) hk11) mv_X9_signs km_X10_338 rfl rfl ⟨Nat.le_of_ble_eq_true rfl, Nat.le_of_ble_eq_true rfl⟩ (rc_11 hK hT hk11) hK (fun _ => XPh.blind) (fun U hU hW => XPh.at hK hz hS hT hU hW) rfl hl.1 (Nat.le_of_ble_eq_true rfl) dX10_verdict_9 ⟨Nat.le_of_ble_eq_true rfl, Nat.le_of_ble_eq_true rfl⟩) hS ?_
    rintro _ _ locs ⟨x12, rfl⟩ hS
    exact x_ri hx hb hr hlk hQ (Nat.le_of_ble_eq_true rfl) (Nat.le_of_ble_eq_true rfl) hS dX10_verdict_12 () ⟨_, rfl⟩ hh

abbrev rm_X10_letter : Room := { frames := 5, cells := 0, slots := 0, locals := 109 }
set_option maxHeartbeats 4000000 in
set_option maxRecDepth 100000 in
theorem c_X10_letter (l : Launch) (E : XE) (K : Nat → Nat) (F : Nat → Nat → Nat) (G : XG) (h0 : Heap) (a : Nat) (p0 : Int32) (ha : K a = 12) : Met l yX10_letter (xw yX10_letter cX10_letter 2 (some .int)) rm_X10_letter (va_Pc [.ref a, .int p0] (XPh E K F G h0)) (XQ E (fun v (u : Unit) => ∃ r : Int32, v = .int r) (fun _ H => H = h0)) 0 0 (xA E) := by
  refine x_enter (by decide) (Nat.le_of_ble_eq_true rfl) ?_
  intro p e s m args below meth c Q S hr hlk hnm hQ hP ls hl
  obtain ⟨⟨hz, hK, hT⟩, hh⟩ := hP
  obtain ⟨hx, hb, -, -, -⟩ := id S
  have hS : va_S (xA E) s.heap s.heap [] := va_S.rf
  have hl : lv_has ls 2 [(0, .ref a), (1, .int p0)] := hl
  refine lv_aload_n hx hb dX10_letter_0 rfl (lv_at hl 0 rfl) ?_
  refine gX10_14 S hK hT ha kf_X10_91 dX10_letter_1 (fun hk1 => ?_)
  refine lv_iload_n hx hb dX10_letter_4 rfl (lv_at hl 1 rfl) ?_
  refine x_clp (x_runV (b := (F a 14)) (As := [.int p0]) (rest := []) S (c_X9_signAt l E K F G s.heap (F a 14) p0 hk1) mv_X9_signAt km_X10_349 rfl rfl ⟨Nat.le_of_ble_eq_true rfl, Nat.le_of_ble_eq_true rfl⟩ (rc_11 hK hT hk1) hK (fun _ => XPh.blind) (fun U hU hW => XPh.at hK hz hS hT hU hW) rfl hl.1 (Nat.le_of_ble_eq_true rfl) dX10_letter_5 ⟨Nat.le_of_ble_eq_true rfl, Nat.le_of_ble_eq_true rfl⟩) hS ?_
  rintro _ _ locs ⟨x2, rfl⟩ hS
  exact x_ri hx hb hr hlk hQ (Nat.le_of_ble_eq_true rfl) (Nat.le_of_ble_eq_true rfl) hS dX10_letter_8 () ⟨_, rfl⟩ hh

abbrev rm_X10_wouldSet : Room := { frames := 7, cells := 0, slots := 0, locals := 170 }
set_option maxHeartbeats 4000000 in
set_option maxRecDepth 100000 in
theorem c_X10_wouldSet (l : Launch) (E : XE) (K : Nat → Nat) (F : Nat → Nat → Nat) (G : XG) (a : Nat) (p0 : Int32) (p1 : Int32) (p2 : Int32) (p3 : Int32) (ha : K a = 12) : Met l yX10_wouldSet (xw yX10_wouldSet cX10_wouldSet 6 (some .int)) rm_X10_wouldSet (va_Pc [.ref a, .int p0, .int p1, .int p2, .int p3] (XP E K F G)) (XQ E (fun v (u : Unit) => ∃ r : Int32, v = .int r) (fun _ H => TW E K F G [] H)) 0 0 (xA E) := by
  refine x_enter (by decide) (Nat.le_of_ble_eq_true rfl) ?_
  intro p e s m args below meth c Q S hr hlk hnm hQ hP ls hl
  obtain ⟨hz, hK, hT⟩ := hP
  obtain ⟨hx, hb, -, -, -⟩ := id S
  obtain ⟨H, hT, hS, hgo⟩ : ∃ H : Heap, TW E K F G [] H ∧ va_S (xA E) s.heap H [] ∧ H = s.heap := ⟨_, hT, va_S.rf, rfl⟩
  rw [← hgo]
  have hl : lv_has ls 6 [(0, .ref a), (1, .int p0), (2, .int p1), (3, .int p2), (4, .int p3)] := hl
  refine lv_aload_n hx hb dX10_wouldSet_0 rfl (lv_at hl 0 rfl) ?_
  refine lv_iload_n hx hb dX10_wouldSet_1 rfl (lv_at hl 1 rfl) ?_
  refine lv_iload_n hx hb dX10_wouldSet_2 rfl (lv_at hl 2 rfl) ?_
  refine lv_iload_n hx hb dX10_wouldSet_3 rfl (lv_at hl 3 rfl) ?_
  refine lv_iload hx hb dX10_wouldSet_4 (lv_at hl 4 rfl) ?_
  refine x_cl0 (x_runV (b := a) (As := [.int p0, .int p1, .int p2, .int p3]) (rest := []) S (c_X10_setOnPaper l E K F G a p0 p1 p2 p3 ha) mv_X10_setOnPaper km_X10_210 rfl rfl ⟨Nat.le_of_ble_eq_true rfl, Nat.le_of_ble_eq_true rfl⟩ (rc_12 hK hT ha) hK (fun _ => XP.blind) (fun U hU hW => XP.at hK hz hS hT hU hW) rfl hl.1 (Nat.le_of_ble_eq_true rfl) dX10_wouldSet_6 ⟨Nat.le_of_ble_eq_true rfl, Nat.le_of_ble_eq_true rfl⟩) hS ?_
  rintro _ _ H locs ⟨x1, rfl⟩ hT hS
  refine lv_istore (lv' := [(5, .int x1), (0, .ref a), (1, .int p0), (2, .int p1), (3, .int p2), (4, .int p3)]) hx hb dX10_wouldSet_9 hl (by decide) rfl (fun ls hl => ?_)
  refine lv_iload hx hb dX10_wouldSet_11 (lv_at hl 0 rfl) ?_
  refine xi_zge (tgt := 21) hx hb (rfl : Int32.toInt x1 = x1.toInt) dX10_wouldSet_13 (by decide) (fun c2 => ?_) (fun c2 => ?_)
  · refine lv_aload_n hx hb dX10_wouldSet_21 rfl (lv_at hl 1 rfl) ?_
    refine x_cl0 (x_runV (b := a) (As := []) (rest := []) S (c_X10_answerOnPaper l E K F G a ha) mv_X10_answerOnPaper km_X10_352 rfl rfl ⟨Nat.le_of_ble_eq_true rfl, Nat.le_of_ble_eq_true rfl⟩ (rc_12 hK hT ha) hK (fun _ => XP.blind) (fun U hU hW => XP.at hK hz hS hT hU hW) rfl hl.1 (Nat.le_of_ble_eq_true rfl) dX10_wouldSet_22 ⟨Nat.le_of_ble_eq_true rfl, Nat.le_of_ble_eq_true rfl⟩) hS ?_
    rintro _ _ H locs ⟨x3, rfl⟩ hT hS
    exact x_ri hx hb hr hlk hQ (Nat.le_of_ble_eq_true rfl) (Nat.le_of_ble_eq_true rfl) hS dX10_wouldSet_25 () ⟨_, rfl⟩ hT.nil
  · refine lv_iload hx hb dX10_wouldSet_16 (lv_at hl 0 rfl) ?_
    refine lv_goto (tgt := 25) hx hb dX10_wouldSet_18 (by decide) ?_
    exact x_ri hx hb hr hlk hQ (Nat.le_of_ble_eq_true rfl) (Nat.le_of_ble_eq_true rfl) hS dX10_wouldSet_25 () ⟨_, rfl⟩ hT.nil

theorem z_X10_wouldCut_1 (a0 : Int) (r0 : -2147483648 ≤ a0 ∧ a0 < 2147483648) : (a0 < 0 ∨ 2 < a0) ∨ (a0 = 0) ∨ (a0 = 1) ∨ (a0 = 2) := by omega
abbrev rm_X10_wouldCut : Room := { frames := 7, cells := 0, slots := 0, locals := 170 }
set_option maxHeartbeats 4000000 in
set_option maxRecDepth 100000 in
theorem c_X10_wouldCut (l : Launch) (E : XE) (K : Nat → Nat) (F : Nat → Nat → Nat) (G : XG) (a : Nat) (p0 : Int32) (p1 : Int32) (p2 : Int32) (ha : K a = 12) : Met l yX10_wouldCut (xw yX10_wouldCut cX10_wouldCut 4 (some .int)) rm_X10_wouldCut (va_Pc [.ref a, .int p0, .int p1, .int p2] (XP E K F G)) (XQ E (fun v (u : Unit) => ∃ r : Int32, v = .int r) (fun _ H => TW E K F G [] H)) 0 0 (xA E) := by
  refine x_enter (by decide) (Nat.le_of_ble_eq_true rfl) ?_
  intro p e s m args below meth c Q S hr hlk hnm hQ hP ls hl
  obtain ⟨hz, hK, hT⟩ := hP
  obtain ⟨hx, hb, -, -, -⟩ := id S
  obtain ⟨H, hT, hS, hgo⟩ : ∃ H : Heap, TW E K F G [] H ∧ va_S (xA E) s.heap H [] ∧ H = s.heap := ⟨_, hT, va_S.rf, rfl⟩
  rw [← hgo]
  have hl : lv_has ls 4 [(0, .ref a), (1, .int p0), (2, .int p1), (3, .int p2)] := hl
  refine lv_aload_n hx hb dX10_wouldCut_0 rfl (lv_at hl 0 rfl) ?_
  refine gX10_3 S hK hT ha kf_X10_37 dX10_wouldCut_1 (fun hk1 => ?_)
  refine lv_iload_n hx hb dX10_wouldCut_4 rfl (lv_at hl 1 rfl) ?_
  refine lv_iload_n hx hb dX10_wouldCut_5 rfl (lv_at hl 2 rfl) ?_
  refine x_clp (x_runV (b := (F a 3)) (As := [.int p0, .int p1]) (rest := []) S (c_X6_has l E K F G H (F a 3) p0 p1 hk1) mv_X6_has km_X10_191 rfl rfl ⟨Nat.le_of_ble_eq_true rfl, Nat.le_of_ble_eq_true rfl⟩ (rc_8 hK hT hk1) hK (fun _ => XPh.blind) (fun U hU hW => XPh.at hK hz hS hT hU hW) rfl hl.1 (Nat.le_of_ble_eq_true rfl) dX10_wouldCut_6 ⟨Nat.le_of_ble_eq_true rfl, Nat.le_of_ble_eq_true rfl⟩) hS ?_
  rintro _ _ locs ⟨x2, rfl, b3, t4⟩ hS
  have t4 : x2.toInt = 0 ∨ (x2.toInt = 1 ∧ 0 ≤ p0.toInt ∧ p0.toInt < 3 ∧ 0 ≤ p1.toInt ∧ p1.toInt < 30) := t4
  refine xi_zne (tgt := 14) hx hb (rfl : Int32.toInt x2 = x2.toInt) dX10_wouldCut_9 (by decide) (fun c5 => ?_) (fun c5 => ?_)
  · refine lv_aload_n hx hb dX10_wouldCut_14 rfl (lv_at hl 0 rfl) ?_
    refine gX10_5 S hK hT ha kf_X10_44 dX10_wouldCut_15 (fun hk6 => ?_)
    refine lv_aload_n hx hb dX10_wouldCut_18 rfl (lv_at hl 0 rfl) ?_
    refine gX10_3 S hK hT ha kf_X10_37 dX10_wouldCut_19 (fun hk7 => ?_)
    refine x_cv0 (x_runV (b := (F a 5)) (As := [.ref (F a 3)]) (rest := []) S (c_X6_copy l E K F G (F a 5) (F a 3) hk6 hk7) mv_X6_copy km_X10_195 rfl rfl ⟨Nat.le_of_ble_eq_true rfl, Nat.le_of_ble_eq_true rfl⟩ (rc_8 hK hT hk6) hK (fun _ => XP.blind) (fun U hU hW => XP.at hK hz hS hT hU hW) rfl hl.1 (Nat.le_of_ble_eq_true rfl) dX10_wouldCut_22 ⟨Nat.le_of_ble_eq_true rfl, Nat.le_of_ble_eq_true rfl⟩) hS ?_
    rintro _ H locs - hT hS
    refine lv_aload_n hx hb dX10_wouldCut_25 rfl (lv_at hl 0 rfl) ?_
    refine gX10_12 S hK hT ha kf_X10_77 dX10_wouldCut_26 (fun hk8 => ?_)
    refine lv_aload_n hx hb dX10_wouldCut_29 rfl (lv_at hl 0 rfl) ?_
    refine gX10_5 S hK hT ha kf_X10_44 dX10_wouldCut_30 (fun hk9 => ?_)
    refine lv_aload_n hx hb dX10_wouldCut_33 rfl (lv_at hl 0 rfl) ?_
    refine gX10_2 S hK hT ha kf_X10_30 dX10_wouldCut_34 (fun hk10 => ?_)
    refine lv_iload_n hx hb dX10_wouldCut_37 rfl (lv_at hl 1 rfl) ?_
    refine lv_iload_n hx hb dX10_wouldCut_38 rfl (lv_at hl 2 rfl) ?_
    refine x_cv0 (x_runV (b := (F a 12)) (As := [.ref (F a 5), .ref (F a 2), .int p0, .int p1]) (rest := []) S (c_X2_cutRow l E K F G (F a 12) (F a 5) (F a 2) p0 p1 hk8 hk9 hk10) mv_X2_cutRow km_X10_214 rfl rfl ⟨Nat.le_of_ble_eq_true rfl, Nat.le_of_ble_eq_true rfl⟩ (rc_4 hK hT hk8) hK (fun _ => XP.blind) (fun U hU hW => XP.at hK hz hS hT hU hW) rfl hl.1 (Nat.le_of_ble_eq_true rfl) dX10_wouldCut_39 ⟨Nat.le_of_ble_eq_true rfl, Nat.le_of_ble_eq_true rfl⟩) hS ?_
    rintro _ H locs - hT hS
    refine lv_iload_n hx hb dX10_wouldCut_42 rfl (lv_at hl 3 rfl) ?_
    rcases ((z_X10_wouldCut_1 p2.toInt (xr p2)) : (p2.toInt < 0 ∨ 2 < p2.toInt) ∨ (p2.toInt = 0) ∨ (p2.toInt = 1) ∨ (p2.toInt = 2)) with c11 | c11 | c11 | c11
    · refine lv_tableOut (tgt := 101) hx hb dX10_wouldCut_43 c11 (by decide) ?_
      refine lv_iconst (v := (-1)) hx hb dX10_wouldCut_101 (by decide) ?_
      exact x_ri hx hb hr hlk hQ (Nat.le_of_ble_eq_true rfl) (Nat.le_of_ble_eq_true rfl) hS dX10_wouldCut_102 () ⟨_, rfl⟩ hT.nil
    · refine lv_tableIn (off := 25) (tgt := 68) hx hb dX10_wouldCut_43 (by rw [c11]; decide) (by rw [c11]; decide) (by rw [c11]; rfl) (by decide) ?_
      refine lv_aload_n hx hb dX10_wouldCut_68 rfl (lv_at hl 0 rfl) ?_
      refine gX10_3 S hK hT ha kf_X10_37 dX10_wouldCut_69 (fun hk12 => ?_)
      refine x_clp (x_runV (b := (F a 3)) (As := []) (rest := []) S (c_X6_total l E K F G H (F a 3) hk12) mv_X6_total km_X10_222 rfl rfl ⟨Nat.le_of_ble_eq_true rfl, Nat.le_of_ble_eq_true rfl⟩ (rc_8 hK hT hk12) hK (fun _ => XPh.blind) (fun U hU hW => XPh.at hK hz hS hT hU hW) rfl hl.1 (Nat.le_of_ble_eq_true rfl) dX10_wouldCut_72 ⟨Nat.le_of_ble_eq_true rfl, Nat.le_of_ble_eq_true rfl⟩) hS ?_
      rintro _ _ locs ⟨x13, rfl⟩ hS
      refine lv_aload_n hx hb dX10_wouldCut_75 rfl (lv_at hl 0 rfl) ?_
      refine gX10_5 S hK hT ha kf_X10_44 dX10_wouldCut_76 (fun hk14 => ?_)
      refine x_clp (x_runV (b := (F a 5)) (As := []) (rest := [.int x13]) S (c_X6_total l E K F G H (F a 5) hk14) mv_X6_total km_X10_222 rfl rfl ⟨Nat.le_of_ble_eq_true rfl, Nat.le_of_ble_eq_true rfl⟩ (rc_8 hK hT hk14) hK (fun _ => XPh.blind) (fun U hU hW => XPh.at hK hz hS hT hU hW) rfl hl.1 (Nat.le_of_ble_eq_true rfl) dX10_wouldCut_79 ⟨Nat.le_of_ble_eq_true rfl, Nat.le_of_ble_eq_true rfl⟩) hS ?_
      rintro _ _ locs ⟨x15, rfl⟩ hS
      refine xi_isub hx hb (rfl : Int32.toInt x13 = x13.toInt) (rfl : Int32.toInt x15 = x15.toInt) dX10_wouldCut_82 (fun x16 t17 => ?_)
      exact x_ri hx hb hr hlk hQ (Nat.le_of_ble_eq_true rfl) (Nat.le_of_ble_eq_true rfl) hS dX10_wouldCut_83 () ⟨_, rfl⟩ hT.nil
    · refine lv_tableIn (off := 41) (tgt := 84) hx hb dX10_wouldCut_43 (by rw [c11]; decide) (by rw [c11]; decide) (by rw [c11]; rfl) (by decide) ?_
      refine lv_aload_n hx hb dX10_wouldCut_84 rfl (lv_at hl 0 rfl) ?_
      refine gX10_5 S hK hT ha kf_X10_44 dX10_wouldCut_85 (fun hk18 => ?_)
      refine lv_aload_n hx hb dX10_wouldCut_88 rfl (lv_at hl 0 rfl) ?_
      refine gX10_3 S hK hT ha kf_X10_37 dX10_wouldCut_89 (fun hk19 => ?_)
      refine x_clp (x_runV (b := (F a 5)) (As := [.ref (F a 3)]) (rest := []) S (c_X6_newNulls l E K F G H (F a 5) (F a 3) hk18 hk19) mv_X6_newNulls km_X10_355 rfl rfl ⟨Nat.le_of_ble_eq_true rfl, Nat.le_of_ble_eq_true rfl⟩ (rc_8 hK hT hk18) hK (fun _ => XPh.blind) (fun U hU hW => XPh.at hK hz hS hT hU hW) rfl hl.1 (Nat.le_of_ble_eq_true rfl) dX10_wouldCut_92 ⟨Nat.le_of_ble_eq_true rfl, Nat.le_of_ble_eq_true rfl⟩) hS ?_
      rintro _ _ locs ⟨x20, rfl⟩ hS
      exact x_ri hx hb hr hlk hQ (Nat.le_of_ble_eq_true rfl) (Nat.le_of_ble_eq_true rfl) hS dX10_wouldCut_95 () ⟨_, rfl⟩ hT.nil
    · refine lv_tableIn (off := 53) (tgt := 96) hx hb dX10_wouldCut_43 (by rw [c11]; decide) (by rw [c11]; decide) (by rw [c11]; rfl) (by decide) ?_
      refine lv_aload_n hx hb dX10_wouldCut_96 rfl (lv_at hl 0 rfl) ?_
      refine x_cl0 (x_runV (b := a) (As := []) (rest := []) S (c_X10_answerOnPaper l E K F G a ha) mv_X10_answerOnPaper km_X10_352 rfl rfl ⟨Nat.le_of_ble_eq_true rfl, Nat.le_of_ble_eq_true rfl⟩ (rc_12 hK hT ha) hK (fun _ => XP.blind) (fun U hU hW => XP.at hK hz hS hT hU hW) rfl hl.1 (Nat.le_of_ble_eq_true rfl) dX10_wouldCut_97 ⟨Nat.le_of_ble_eq_true rfl, Nat.le_of_ble_eq_true rfl⟩) hS ?_
      rintro _ _ H locs ⟨x21, rfl⟩ hT hS
      exact x_ri hx hb hr hlk hQ (Nat.le_of_ble_eq_true rfl) (Nat.le_of_ble_eq_true rfl) hS dX10_wouldCut_100 () ⟨_, rfl⟩ hT.nil
  · refine lv_iconst (v := (-1)) hx hb dX10_wouldCut_12 (by decide) ?_
    exact x_ri hx hb hr hlk hQ (Nat.le_of_ble_eq_true rfl) (Nat.le_of_ble_eq_true rfl) hS dX10_wouldCut_13 () ⟨_, rfl⟩ hT.nil

theorem z_X10_leans_1 (a0 : Int) (r0 : -2147483648 ≤ a0 ∧ a0 < 2147483648) : (¬ a0 = 0 ∧ ¬ a0 = 1) ∨ (a0 = 0) ∨ (a0 = 1) := by omega
abbrev rm_X10_leans : Room := { frames := 4, cells := 0, slots := 0, locals := 96 }
set_option maxHeartbeats 4000000 in
set_option maxRecDepth 100000 in
theorem c_X10_leans (l : Launch) (E : XE) (K : Nat → Nat) (F : Nat → Nat → Nat) (G : XG) (a : Nat) (p0 : Int32) (p1 : Int32) (p2 : Int32) (ha : K a = 12) : Met l yX10_leans (xw yX10_leans cX10_leans 4 (some .int)) rm_X10_leans (va_Pc [.ref a, .int p0, .int p1, .int p2] (XP E K F G)) (XQ E (fun v (u : Unit) => ∃ r : Int32, v = .int r) (fun _ H => TW E K F G [] H)) 0 0 (xA E) := by
  refine x_enter (by decide) (Nat.le_of_ble_eq_true rfl) ?_
  intro p e s m args below meth c Q S hr hlk hnm hQ hP ls hl
  obtain ⟨hz, hK, hT⟩ := hP
  obtain ⟨hx, hb, -, -, -⟩ := id S
  obtain ⟨H, hT, hS, hgo⟩ : ∃ H : Heap, TW E K F G [] H ∧ va_S (xA E) s.heap H [] ∧ H = s.heap := ⟨_, hT, va_S.rf, rfl⟩
  rw [← hgo]
  have hl : lv_has ls 4 [(0, .ref a), (1, .int p0), (2, .int p1), (3, .int p2)] := hl
  refine lv_aload_n hx hb dX10_leans_0 rfl (lv_at hl 0 rfl) ?_
  refine gX10_3 S hK hT ha kf_X10_37 dX10_leans_1 (fun hk1 => ?_)
  refine lv_iload_n hx hb dX10_leans_4 rfl (lv_at hl 1 rfl) ?_
  refine lv_iload_n hx hb dX10_leans_5 rfl (lv_at hl 2 rfl) ?_
  refine x_clp (x_runV (b := (F a 3)) (As := [.int p0, .int p1]) (rest := []) S (c_X6_has l E K F G H (F a 3) p0 p1 hk1) mv_X6_has km_X10_191 rfl rfl ⟨Nat.le_of_ble_eq_true rfl, Nat.le_of_ble_eq_true rfl⟩ (rc_8 hK hT hk1) hK (fun _ => XPh.blind) (fun U hU hW => XPh.at hK hz hS hT hU hW) rfl hl.1 (Nat.le_of_ble_eq_true rfl) dX10_leans_6 ⟨Nat.le_of_ble_eq_true rfl, Nat.le_of_ble_eq_true rfl⟩) hS ?_
  rintro _ _ locs ⟨x2, rfl, b3, t4⟩ hS
  have t4 : x2.toInt = 0 ∨ (x2.toInt = 1 ∧ 0 ≤ p0.toInt ∧ p0.toInt < 3 ∧ 0 ≤ p1.toInt ∧ p1.toInt < 30) := t4
  refine xi_zne (tgt := 14) hx hb (rfl : Int32.toInt x2 = x2.toInt) dX10_leans_9 (by decide) (fun c5 => ?_) (fun c5 => ?_)
  · refine lv_iload_n hx hb dX10_leans_14 rfl (lv_at hl 3 rfl) ?_
    rcases ((z_X10_leans_1 p2.toInt (xr p2)) : (¬ p2.toInt = 0 ∧ ¬ p2.toInt = 1) ∨ (p2.toInt = 0) ∨ (p2.toInt = 1)) with c6 | c6 | c6
    · refine lv_lookup (off := 61) (tgt := 76) hx hb dX10_leans_15 (by decide) (by first | (simp only [Op.lookupswitch.offset_cons, Op.lookupswitch.offset_nil]; (repeat' split) <;> omega) | (simp [Op.lookupswitch.offset]; (repeat' split) <;> omega) | (simp [Op.lookupswitch.offset]; omega)) (by decide) ?_
      refine lv_iconst (v := (-1)) hx hb dX10_leans_76 (by decide) ?_
      exact x_ri hx hb hr hlk hQ (Nat.le_of_ble_eq_true rfl) (Nat.le_of_ble_eq_true rfl) hS dX10_leans_77 () ⟨_, rfl⟩ hT.nil
    · refine lv_lookup (off := 25) (tgt := 40) hx hb dX10_leans_15 (by decide) (by rw [c6]; rfl) (by decide) ?_
      refine lv_aload_n hx hb dX10_leans_40 rfl (lv_at hl 0 rfl) ?_
      refine gX10_13 S hK hT ha kf_X10_84 dX10_leans_41 (fun hk7 => ?_)
      refine lv_aload_n hx hb dX10_leans_44 rfl (lv_at hl 0 rfl) ?_
      refine gX10_3 S hK hT ha kf_X10_37 dX10_leans_45 (fun hk8 => ?_)
      refine lv_aload_n hx hb dX10_leans_48 rfl (lv_at hl 0 rfl) ?_
      refine gX10_2 S hK hT ha kf_X10_30 dX10_leans_49 (fun hk9 => ?_)
      refine lv_iload_n hx hb dX10_leans_52 rfl (lv_at hl 1 rfl) ?_
      refine lv_iload_n hx hb dX10_leans_53 rfl (lv_at hl 2 rfl) ?_
      refine x_cl0 (x_runV (b := (F a 13)) (As := [.ref (F a 3), .ref (F a 2), .int p0, .int p1]) (rest := []) S (c_X3_straight l E K F G (F a 13) (F a 3) (F a 2) p0 p1 hk7 hk8 hk9) mv_X3_straight km_X10_358 rfl rfl ⟨Nat.le_of_ble_eq_true rfl, Nat.le_of_ble_eq_true rfl⟩ (rc_5 hK hT hk7) hK (fun _ => XP.blind) (fun U hU hW => XP.at hK hz hS hT hU hW) rfl hl.1 (Nat.le_of_ble_eq_true rfl) dX10_leans_54 ⟨Nat.le_of_ble_eq_true rfl, Nat.le_of_ble_eq_true rfl⟩) hS ?_
      rintro _ _ H locs ⟨x10, rfl⟩ hT hS
      exact x_ri hx hb hr hlk hQ (Nat.le_of_ble_eq_true rfl) (Nat.le_of_ble_eq_true rfl) hS dX10_leans_57 () ⟨_, rfl⟩ hT.nil
    · refine lv_lookup (off := 43) (tgt := 58) hx hb dX10_leans_15 (by decide) (by rw [c6]; rfl) (by decide) ?_
      refine lv_aload_n hx hb dX10_leans_58 rfl (lv_at hl 0 rfl) ?_
      refine gX10_13 S hK hT ha kf_X10_84 dX10_leans_59 (fun hk11 => ?_)
      refine lv_aload_n hx hb dX10_leans_62 rfl (lv_at hl 0 rfl) ?_
      refine gX10_3 S hK hT ha kf_X10_37 dX10_leans_63 (fun hk12 => ?_)
      refine lv_aload_n hx hb dX10_leans_66 rfl (lv_at hl 0 rfl) ?_
      refine gX10_2 S hK hT ha kf_X10_30 dX10_leans_67 (fun hk13 => ?_)
      refine lv_iload_n hx hb dX10_leans_70 rfl (lv_at hl 1 rfl) ?_
      refine lv_iload_n hx hb dX10_leans_71 rfl (lv_at hl 2 rfl) ?_
      refine x_cl0 (x_runV (b := (F a 13)) (As := [.ref (F a 3), .ref (F a 2), .int p0, .int p1]) (rest := []) S (c_X3_straightOrNot l E K F G (F a 13) (F a 3) (F a 2) p0 p1 hk11 hk12 hk13) mv_X3_straightOrNot km_X10_362 rfl rfl ⟨Nat.le_of_ble_eq_true rfl, Nat.le_of_ble_eq_true rfl⟩ (rc_5 hK hT hk11) hK (fun _ => XP.blind) (fun U hU hW => XP.at hK hz hS hT hU hW) rfl hl.1 (Nat.le_of_ble_eq_true rfl) dX10_leans_72 ⟨Nat.le_of_ble_eq_true rfl, Nat.le_of_ble_eq_true rfl⟩) hS ?_
      rintro _ _ H locs ⟨x14, rfl⟩ hT hS
      exact x_ri hx hb hr hlk hQ (Nat.le_of_ble_eq_true rfl) (Nat.le_of_ble_eq_true rfl) hS dX10_leans_75 () ⟨_, rfl⟩ hT.nil
  · refine lv_iconst (v := (-1)) hx hb dX10_leans_12 (by decide) ?_
    exact x_ri hx hb hr hlk hQ (Nat.le_of_ble_eq_true rfl) (Nat.le_of_ble_eq_true rfl) hS dX10_leans_13 () ⟨_, rfl⟩ hT.nil

theorem z_X10_least_1 (a0 : Int) (h0 : (-99 : Int) ≤ a0) (r0 : -2147483648 ≤ a0 ∧ a0 < 2147483648) : ¬ (2147483648 - a0 < ((0 : Nat) : Int)) := by omega
theorem z_X10_least_2 (a0 : Int) (a1 : Int) (a2 : Nat) (h0 : (-99 : Int) ≤ a0) (h1 : 2147483648 - a0 < ((a2 + 1 : Nat) : Int)) (h2 : ¬ ((99 : Int) < a0)) (h3 : a1 = a0 + 1 ∨ a0 + 1 < -2147483648 ∨ 2147483648 ≤ a0 + 1) (r0 : -2147483648 ≤ a0 ∧ a0 < 2147483648) (r1 : -2147483648 ≤ a1 ∧ a1 < 2147483648) : (-99 : Int) ≤ a1 := by omega
theorem z_X10_least_3 (a0 : Int) (a1 : Int) (a2 : Nat) (h0 : (-99 : Int) ≤ a0) (h1 : 2147483648 - a0 < ((a2 + 1 : Nat) : Int)) (h2 : ¬ ((99 : Int) < a0)) (h3 : a1 = a0 + 1 ∨ a0 + 1 < -2147483648 ∨ 2147483648 ≤ a0 + 1) (r0 : -2147483648 ≤ a0 ∧ a0 < 2147483648) (r1 : -2147483648 ≤ a1 ∧ a1 < 2147483648) : 2147483648 - a1 < ((a2 : Nat) : Int) := by omega
abbrev rm_X10_least : Room := { frames := 6, cells := 0, slots := 0, locals := 147 }
set_option maxHeartbeats 4000000 in
set_option maxRecDepth 100000 in
theorem c_X10_least (l : Launch) (E : XE) (K : Nat → Nat) (F : Nat → Nat → Nat) (G : XG) (a : Nat) (p0 : Int32) (p1 : Int32) (p2 : Int32) (ha : K a = 12) : Met l yX10_least (xw yX10_least cX10_least 6 (some .int)) rm_X10_least (va_Pc [.ref a, .int p0, .int p1, .int p2] (XP E K F G)) (XQ E (fun v (u : Unit) => ∃ r : Int32, v = .int r) (fun _ H => TW E K F G [] H)) 0 0 (xA E) := by
  refine x_enter (by decide) (Nat.le_of_ble_eq_true rfl) ?_
  intro p e s m args below meth c Q S hr hlk hnm hQ hP ls hl
  obtain ⟨hz, hK, hT⟩ := hP
  obtain ⟨hx, hb, -, -, -⟩ := id S
  obtain ⟨H, hT, hS, hgo⟩ : ∃ H : Heap, TW E K F G [] H ∧ va_S (xA E) s.heap H [] ∧ H = s.heap := ⟨_, hT, va_S.rf, rfl⟩
  rw [← hgo]
  have hl : lv_has ls 6 [(0, .ref a), (1, .int p0), (2, .int p1), (3, .int p2)] := hl
  refine lv_aload_n hx hb dX10_least_0 rfl (lv_at hl 0 rfl) ?_
  refine gX10_3 S hK hT ha kf_X10_37 dX10_least_1 (fun hk1 => ?_)
  refine lv_iload_n hx hb dX10_least_4 rfl (lv_at hl 1 rfl) ?_
  refine lv_iload_n hx hb dX10_least_5 rfl (lv_at hl 2 rfl) ?_
  refine x_clp (x_runV (b := (F a 3)) (As := [.int p0, .int p1]) (rest := []) S (c_X6_has l E K F G H (F a 3) p0 p1 hk1) mv_X6_has km_X10_191 rfl rfl ⟨Nat.le_of_ble_eq_true rfl, Nat.le_of_ble_eq_true rfl⟩ (rc_8 hK hT hk1) hK (fun _ => XPh.blind) (fun U hU hW => XPh.at hK hz hS hT hU hW) rfl hl.1 (Nat.le_of_ble_eq_true rfl) dX10_least_6 ⟨Nat.le_of_ble_eq_true rfl, Nat.le_of_ble_eq_true rfl⟩) hS ?_
  rintro _ _ locs ⟨x2, rfl, b3, t4⟩ hS
  have t4 : x2.toInt = 0 ∨ (x2.toInt = 1 ∧ 0 ≤ p0.toInt ∧ p0.toInt < 3 ∧ 0 ≤ p1.toInt ∧ p1.toInt < 30) := t4
  refine xi_zeq (tgt := 19) hx hb (rfl : Int32.toInt x2 = x2.toInt) dX10_least_9 (by decide) (fun c5 => ?_) (fun c5 => ?_)
  · refine lv_ldcw (v := (-2147483648)) hx hb S.2.2.2.1 (S.2.2.2.2 _ (List.mem_cons_of_mem _ kc_X10_274)) dX10_least_19 ?_
    exact x_ri hx hb hr hlk hQ (Nat.le_of_ble_eq_true rfl) (Nat.le_of_ble_eq_true rfl) hS dX10_least_22 () ⟨_, rfl⟩ hT.nil
  · refine lv_iload_n hx hb dX10_least_12 rfl (lv_at hl 3 rfl) ?_
    refine x_clp (x_runS (As := [.int p2]) (rest := []) S (c_X10_isColumn l E K F G H p2) ms_X10_isColumn km_X10_255 rfl rfl ⟨Nat.le_of_ble_eq_true rfl, Nat.le_of_ble_eq_true rfl⟩ hK (fun _ => XPh.blind) (fun U hU hW => XPh.at hK hz hS hT hU hW) rfl hl.1 (Nat.le_of_ble_eq_true rfl) dX10_least_13 ⟨Nat.le_of_ble_eq_true rfl, Nat.le_of_ble_eq_true rfl⟩) hS ?_
    rintro _ _ locs ⟨x6, rfl, b7, t8⟩ hS
    have t8 : (x6.toInt = 1 ∧ 0 ≤ p2.toInt ∧ p2.toInt < 3) ∨ (x6.toInt = 0 ∧ (p2.toInt < 0 ∨ 3 ≤ p2.toInt)) := t8
    refine xi_zne (tgt := 23) hx hb (rfl : Int32.toInt x6 = x6.toInt) dX10_least_16 (by decide) (fun c9 => ?_) (fun c9 => ?_)
    · refine lv_aload_n hx hb dX10_least_23 rfl (lv_at hl 0 rfl) ?_
      refine gX10_3 S hK hT ha kf_X10_37 dX10_least_24 (fun hk10 => ?_)
      refine lv_iload_n hx hb dX10_least_27 rfl (lv_at hl 1 rfl) ?_
      refine lv_iload_n hx hb dX10_least_28 rfl (lv_at hl 2 rfl) ?_
      refine lv_iload_n hx hb dX10_least_29 rfl (lv_at hl 3 rfl) ?_
      refine x_clp (x_runV (b := (F a 3)) (As := [.int p0, .int p1, .int p2]) (rest := []) S (c_X6_cell l E K F G H (F a 3) p0 p1 p2 hk10) mv_X6_cell km_X10_265 rfl rfl ⟨Nat.le_of_ble_eq_true rfl, Nat.le_of_ble_eq_true rfl⟩ (rc_8 hK hT hk10) hK (fun _ => XPh.blind) (fun U hU hW => XPh.at hK hz hS hT hU hW) rfl hl.1 (Nat.le_of_ble_eq_true rfl) dX10_least_30 ⟨Nat.le_of_ble_eq_true rfl, Nat.le_of_ble_eq_true rfl⟩) hS ?_
      rintro _ _ locs ⟨x11, rfl⟩ hS
      refine lv_istore (lv' := [(4, .int x11), (0, .ref a), (1, .int p0), (2, .int p1), (3, .int p2)]) hx hb dX10_least_33 hl (by decide) rfl (fun ls hl => ?_)
      refine lv_aload_n hx hb dX10_least_35 rfl (lv_at hl 1 rfl) ?_
      refine gX10_5 S hK hT ha kf_X10_44 dX10_least_36 (fun hk12 => ?_)
      refine lv_aload_n hx hb dX10_least_39 rfl (lv_at hl 1 rfl) ?_
      refine gX10_3 S hK hT ha kf_X10_37 dX10_least_40 (fun hk13 => ?_)
      refine x_cv0 (x_runV (b := (F a 5)) (As := [.ref (F a 3)]) (rest := []) S (c_X6_copy l E K F G (F a 5) (F a 3) hk12 hk13) mv_X6_copy km_X10_195 rfl rfl ⟨Nat.le_of_ble_eq_true rfl, Nat.le_of_ble_eq_true rfl⟩ (rc_8 hK hT hk12) hK (fun _ => XP.blind) (fun U hU hW => XP.at hK hz hS hT hU hW) rfl hl.1 (Nat.le_of_ble_eq_true rfl) dX10_least_43 ⟨Nat.le_of_ble_eq_true rfl, Nat.le_of_ble_eq_true rfl⟩) hS ?_
      rintro _ H locs - hT hS
      refine lv_bipush (v := (-99)) hx hb dX10_least_46 (by decide) ?_
      refine lv_istore (lv' := [(5, .int (-99)), (4, .int x11), (0, .ref a), (1, .int p0), (2, .int p1), (3, .int p2)]) hx hb dX10_least_48 hl (by decide) rfl (fun ls hl => ?_)
      have L50 : ∀ (N15 : Nat) (x14 : Int32) (H : Heap) (locs : List Loc) (ls : Array Slot), (-99 : Int) ≤ x14.toInt → 2147483648 - x14.toInt < ((N15 : Nat) : Int) → TW E K F G [] H → va_S (xA E) s.heap H locs → lv_has ls 6 [(0, .ref a), (1, .int p0), (2, .int p1), (3, .int p2), (4, .int x11), (5, .int x14)] → W p l e rm_X10_least s m args below meth c H locs 0 0 Q (F0 m 50 ls []) := by
        intro N15
        induction N15 with
        | zero =>
          intro x14 H locs ls hf16 hm17
          exact absurd hm17 (z_X10_least_1 x14.toInt hf16 (xr x14))
        | succ N15 ih18 =>
          intro x14 H locs ls hf16 hm17 hT hS hl
          refine lv_iload hx hb dX10_least_50 (lv_at hl 5 rfl) ?_
          refine lv_bipush (v := 99) hx hb dX10_least_52 (by decide) ?_
          refine xi_cgt (tgt := 94) hx hb (rfl : Int32.toInt x14 = x14.toInt) ((by decide) : Int32.toInt 99 = (99 : Int)) dX10_least_54 (by decide) (fun c19 => ?_) (fun c19 => ?_)
          · refine lv_ldcw (v := (-2147483648)) hx hb S.2.2.2.1 (S.2.2.2.2 _ (List.mem_cons_of_mem _ kc_X10_274)) dX10_least_94 ?_
            exact x_ri hx hb hr hlk hQ (Nat.le_of_ble_eq_true rfl) (Nat.le_of_ble_eq_true rfl) hS dX10_least_97 () ⟨_, rfl⟩ hT.nil
          · refine lv_aload_n hx hb dX10_least_57 rfl (lv_at hl 0 rfl) ?_
            refine gX10_5 S hK hT ha kf_X10_44 dX10_least_58 (fun hk20 => ?_)
            refine lv_iload_n hx hb dX10_least_61 rfl (lv_at hl 1 rfl) ?_
            refine lv_iload_n hx hb dX10_least_62 rfl (lv_at hl 2 rfl) ?_
            refine lv_iload_n hx hb dX10_least_63 rfl (lv_at hl 3 rfl) ?_
            refine lv_iload hx hb dX10_least_64 (lv_at hl 5 rfl) ?_
            refine x_cv0 (x_runV (b := (F a 5)) (As := [.int p0, .int p1, .int p2, .int x14]) (rest := []) S (c_X6_change l E K F G (F a 5) p0 p1 p2 x14 hk20) mv_X6_change km_X10_203 rfl rfl ⟨Nat.le_of_ble_eq_true rfl, Nat.le_of_ble_eq_true rfl⟩ (rc_8 hK hT hk20) hK (fun _ => XP.blind) (fun U hU hW => XP.at hK hz hS hT hU hW) rfl hl.1 (Nat.le_of_ble_eq_true rfl) dX10_least_66 ⟨Nat.le_of_ble_eq_true rfl, Nat.le_of_ble_eq_true rfl⟩) hS ?_
            rintro _ H locs - hT hS
            refine lv_iload hx hb dX10_least_69 (lv_at hl 5 rfl) ?_
            refine lv_iload hx hb dX10_least_71 (lv_at hl 4 rfl) ?_
            have J88 : ∀ (H : Heap) (locs : List Loc) (ls : Array Slot), TW E K F G [] H → va_S (xA E) s.heap H locs → lv_has ls 6 [(0, .ref a), (1, .int p0), (2, .int p1), (3, .int p2), (4, .int x11), (5, .int x14)] → W p l e rm_X10_least s m args below meth c H locs 0 0 Q (F0 m 88 ls []) := by
              intro H locs ls hT hS hl
              refine xi_iinc (n := 1) (lv' := fun z9 => [(5, .int z9), (0, .ref a), (1, .int p0), (2, .int p1), (3, .int p2), (4, .int x11)]) (k := 5) hx hb (rfl : Int32.toInt x14 = x14.toInt) (by decide) dX10_least_88 hl rfl (by decide) (fun _ => rfl) (fun x21 ls t22 hl => ?_)
              have hl : lv_has ls 6 [(5, .int x21), (0, .ref a), (1, .int p0), (2, .int p1), (3, .int p2), (4, .int x11)] := hl
              refine lv_goto (tgt := 50) hx hb dX10_least_91 (by decide) ?_
              exact ih18 x21 _ _ _ (z_X10_least_2 x14.toInt x21.toInt N15 hf16 hm17 c19 t22 (xr x14) (xr x21)) (z_X10_least_3 x14.toInt x21.toInt N15 hf16 hm17 c19 t22 (xr x14) (xr x21)) hT.nil hS (lv_sub hl [1, 2, 3, 4, 5, 0] rfl)
            refine xi_ceq (tgt := 88) hx hb (rfl : Int32.toInt x14 = x14.toInt) (rfl : Int32.toInt x11 = x11.toInt) dX10_least_73 (by decide) (fun c23 => ?_) (fun c23 => ?_)
            · exact J88 _ _ _ hT.nil hS (lv_sub hl [0, 1, 2, 3, 4, 5] rfl)
            · refine lv_aload_n hx hb dX10_least_76 rfl (lv_at hl 0 rfl) ?_
              refine lv_iload_n hx hb dX10_least_77 rfl (lv_at hl 1 rfl) ?_
              refine lv_iload_n hx hb dX10_least_78 rfl (lv_at hl 2 rfl) ?_
              refine x_cl0 (x_runV (b := a) (As := [.int p0, .int p1]) (rest := []) S (c_X10_holdsOnPaper l E K F G a p0 p1 ha) mv_X10_holdsOnPaper km_X10_365 rfl rfl ⟨Nat.le_of_ble_eq_true rfl, Nat.le_of_ble_eq_true rfl⟩ (rc_12 hK hT ha) hK (fun _ => XP.blind) (fun U hU hW => XP.at hK hz hS hT hU hW) rfl hl.1 (Nat.le_of_ble_eq_true rfl) dX10_least_79 ⟨Nat.le_of_ble_eq_true rfl, Nat.le_of_ble_eq_true rfl⟩) hS ?_
              rintro _ _ H locs ⟨x24, rfl, b25⟩ hT hS
              refine xi_zeq (tgt := 88) hx hb (rfl : Int32.toInt x24 = x24.toInt) dX10_least_82 (by decide) (fun c26 => ?_) (fun c26 => ?_)
              · exact J88 _ _ _ hT.nil hS (lv_sub hl [0, 1, 2, 3, 4, 5] rfl)
              · refine lv_iload hx hb dX10_least_85 (lv_at hl 5 rfl) ?_
                exact x_ri hx hb hr hlk hQ (Nat.le_of_ble_eq_true rfl) (Nat.le_of_ble_eq_true rfl) hS dX10_least_87 () ⟨_, rfl⟩ hT.nil
      exact L50 4294967297 (-99) _ _ _ (by decide) (by decide) hT.nil hS (lv_sub hl [2, 3, 4, 5, 1, 0] rfl)
    · refine lv_ldcw (v := (-2147483648)) hx hb S.2.2.2.1 (S.2.2.2.2 _ (List.mem_cons_of_mem _ kc_X10_274)) dX10_least_19 ?_
      exact x_ri hx hb hr hlk hQ (Nat.le_of_ble_eq_true rfl) (Nat.le_of_ble_eq_true rfl) hS dX10_least_22 () ⟨_, rfl⟩ hT.nil

theorem z_X10_depth_1 (a0 : Int) (h0 : (0 : Int) ≤ a0) (r0 : -2147483648 ≤ a0 ∧ a0 < 2147483648) : ¬ (2147483648 - a0 < ((0 : Nat) : Int)) := by omega
theorem z_X10_depth_2 (a0 : Int) (a1 : Int) (a2 : Nat) (h0 : (0 : Int) ≤ a0) (h1 : 2147483648 - a0 < ((a2 + 1 : Nat) : Int)) (h2 : ¬ ((30 : Int) < a0)) (h3 : a1 = a0 + 1 ∨ a0 + 1 < -2147483648 ∨ 2147483648 ≤ a0 + 1) (r0 : -2147483648 ≤ a0 ∧ a0 < 2147483648) (r1 : -2147483648 ≤ a1 ∧ a1 < 2147483648) : (0 : Int) ≤ a1 := by omega
theorem z_X10_depth_3 (a0 : Int) (a1 : Int) (a2 : Nat) (h0 : (0 : Int) ≤ a0) (h1 : 2147483648 - a0 < ((a2 + 1 : Nat) : Int)) (h2 : ¬ ((30 : Int) < a0)) (h3 : a1 = a0 + 1 ∨ a0 + 1 < -2147483648 ∨ 2147483648 ≤ a0 + 1) (r0 : -2147483648 ≤ a0 ∧ a0 < 2147483648) (r1 : -2147483648 ≤ a1 ∧ a1 < 2147483648) : 2147483648 - a1 < ((a2 : Nat) : Int) := by omega
abbrev rm_X10_depth : Room := { frames := 2, cells := 0, slots := 0, locals := 44 }
set_option maxHeartbeats 4000000 in
set_option maxRecDepth 100000 in
theorem c_X10_depth (l : Launch) (E : XE) (K : Nat → Nat) (F : Nat → Nat → Nat) (G : XG) (h0 : Heap) (a : Nat) (p0 : Int32) (p1 : Int32) (ha : K a = 12) : Met l yX10_depth (xw yX10_depth cX10_depth 7 (some .int)) rm_X10_depth (va_Pc [.ref a, .int p0, .int p1] (XPh E K F G h0)) (XQ E (fun v (u : Unit) => ∃ r : Int32, v = .int r) (fun _ H => H = h0)) 0 0 (xA E) := by
  refine x_enter (by decide) (Nat.le_of_ble_eq_true rfl) ?_
  intro p e s m args below meth c Q S hr hlk hnm hQ hP ls hl
  obtain ⟨⟨hz, hK, hT⟩, hh⟩ := hP
  obtain ⟨hx, hb, -, -, -⟩ := id S
  have hS : va_S (xA E) s.heap s.heap [] := va_S.rf
  have hl : lv_has ls 7 [(0, .ref a), (1, .int p0), (2, .int p1)] := hl
  refine lv_aload_n hx hb dX10_depth_0 rfl (lv_at hl 0 rfl) ?_
  refine gX10_2 S hK hT ha kf_X10_30 dX10_depth_1 (fun hk1 => ?_)
  refine lv_iload_n hx hb dX10_depth_4 rfl (lv_at hl 1 rfl) ?_
  refine x_clp (x_runV (b := (F a 2)) (As := [.int p0]) (rest := []) S (c_X0_get l E K F G s.heap (F a 2) p0 hk1) mv_X0_get km_X10_159 rfl rfl ⟨Nat.le_of_ble_eq_true rfl, Nat.le_of_ble_eq_true rfl⟩ (rc_2 hK hT hk1) hK (fun _ => XPh.blind) (fun U hU hW => XPh.at hK hz hS hT hU hW) rfl hl.1 (Nat.le_of_ble_eq_true rfl) dX10_depth_5 ⟨Nat.le_of_ble_eq_true rfl, Nat.le_of_ble_eq_true rfl⟩) hS ?_
  rintro _ _ locs (rfl | ⟨q3, rfl, hk4⟩) hS
  · refine lv_astore_nN (lv' := [(3, .null), (0, .ref a), (1, .int p0), (2, .int p1)]) hx hb dX10_depth_8 rfl hl (by decide) rfl (fun ls hl => ?_)
    refine lv_aload_nN hx hb dX10_depth_9 rfl (lv_at hl 0 rfl) ?_
    refine lv_ifnullN (tgt := 36) hx hb dX10_depth_10 (by decide) ?_
    refine lv_iconst (v := (-1)) hx hb dX10_depth_36 (by decide) ?_
    exact x_ri hx hb hr hlk hQ (Nat.le_of_ble_eq_true rfl) (Nat.le_of_ble_eq_true rfl) hS dX10_depth_37 () ⟨_, rfl⟩ hh
  · refine lv_astore_n (lv' := [(3, .ref q3), (0, .ref a), (1, .int p0), (2, .int p1)]) hx hb dX10_depth_8 rfl hl (by decide) rfl (fun ls hl => ?_)
    refine lv_aload_n hx hb dX10_depth_9 rfl (lv_at hl 0 rfl) ?_
    refine lv_ifnull hx hb dX10_depth_10 ?_
    refine lv_aload_n hx hb dX10_depth_13 rfl (lv_at hl 0 rfl) ?_
    refine gX7_0 S hK hT hk4 kf_X10_140 dX10_depth_14 (fun x5 hT => ?_)
    refine lv_iconst (v := 5) hx hb dX10_depth_17 (by decide) ?_
    refine xi_cne (tgt := 36) hx hb (rfl : Int32.toInt x5 = x5.toInt) ((by decide) : Int32.toInt 5 = (5 : Int)) dX10_depth_18 (by decide) (fun c6 => ?_) (fun c6 => ?_)
    · refine lv_iconst (v := (-1)) hx hb dX10_depth_36 (by decide) ?_
      exact x_ri hx hb hr hlk hQ (Nat.le_of_ble_eq_true rfl) (Nat.le_of_ble_eq_true rfl) hS dX10_depth_37 () ⟨_, rfl⟩ hh
    · refine lv_aload_n hx hb dX10_depth_21 rfl (lv_at hl 1 rfl) ?_
      refine gX10_3 S hK hT ha kf_X10_37 dX10_depth_22 (fun hk7 => ?_)
      refine lv_aload_n hx hb dX10_depth_25 rfl (lv_at hl 0 rfl) ?_
      refine gX7_2 S hK hT hk4 kf_X10_275 dX10_depth_26 (fun x8 hT => ?_)
      refine lv_iload_n hx hb dX10_depth_29 rfl (lv_at hl 3 rfl) ?_
      refine x_clp (x_runV (b := (F a 3)) (As := [.int x8, .int p1]) (rest := []) S (c_X6_has l E K F G s.heap (F a 3) x8 p1 hk7) mv_X6_has km_X10_191 rfl rfl ⟨Nat.le_of_ble_eq_true rfl, Nat.le_of_ble_eq_true rfl⟩ (rc_8 hK hT hk7) hK (fun _ => XPh.blind) (fun U hU hW => XPh.at hK hz hS hT hU hW) rfl hl.1 (Nat.le_of_ble_eq_true rfl) dX10_depth_30 ⟨Nat.le_of_ble_eq_true rfl, Nat.le_of_ble_eq_true rfl⟩) hS ?_
      rintro _ _ locs ⟨x9, rfl, b10, t11⟩ hS
      have t11 : x9.toInt = 0 ∨ (x9.toInt = 1 ∧ 0 ≤ x8.toInt ∧ x8.toInt < 3 ∧ 0 ≤ p1.toInt ∧ p1.toInt < 30) := t11
      refine xi_zne (tgt := 38) hx hb (rfl : Int32.toInt x9 = x9.toInt) dX10_depth_33 (by decide) (fun c12 => ?_) (fun c12 => ?_)
      · refine lv_iload_n hx hb dX10_depth_38 rfl (lv_at hl 3 rfl) ?_
        refine lv_istore (lv' := [(4, .int p1), (3, .ref q3), (0, .ref a), (1, .int p0), (2, .int p1)]) hx hb dX10_depth_39 hl (by decide) rfl (fun ls hl => ?_)
        refine lv_iconst (v := 0) hx hb dX10_depth_41 (by decide) ?_
        refine lv_istore (lv' := [(5, .int 0), (4, .int p1), (3, .ref q3), (0, .ref a), (1, .int p0), (2, .int p1)]) hx hb dX10_depth_42 hl (by decide) rfl (fun ls hl => ?_)
        have L44 : ∀ (N15 : Nat) (x13 : Int32) (x14 : Int32) (locs : List Loc) (ls : Array Slot), (0 : Int) ≤ x14.toInt → 2147483648 - x14.toInt < ((N15 : Nat) : Int) → TW E K F G [(q3, 2, x8), (q3, 0, x5)] s.heap → va_S (xA E) s.heap s.heap locs → lv_has ls 7 [(0, .ref a), (3, .ref q3), (4, .int x13), (5, .int x14)] → W p l e rm_X10_depth s m args below meth c s.heap locs 0 0 Q (F0 m 44 ls []) := by
          intro N15
          induction N15 with
          | zero =>
            intro x13 x14 locs ls hf16 hm17
            exact absurd hm17 (z_X10_depth_1 x14.toInt hf16 (xr x14))
          | succ N15 ih18 =>
            intro x13 x14 locs ls hf16 hm17 hT hS hl
            refine lv_iload hx hb dX10_depth_44 (lv_at hl 3 rfl) ?_
            refine lv_bipush (v := 30) hx hb dX10_depth_46 (by decide) ?_
            refine xi_cgt (tgt := 99) hx hb (rfl : Int32.toInt x14 = x14.toInt) ((by decide) : Int32.toInt 30 = (30 : Int)) dX10_depth_48 (by decide) (fun c19 => ?_) (fun c19 => ?_)
            · refine lv_bipush (v := (-2)) hx hb dX10_depth_99 (by decide) ?_
              exact x_ri hx hb hr hlk hQ (Nat.le_of_ble_eq_true rfl) (Nat.le_of_ble_eq_true rfl) hS dX10_depth_101 () ⟨_, rfl⟩ hh
            · refine lv_aload_n hx hb dX10_depth_51 rfl (lv_at hl 0 rfl) ?_
              refine gX10_3 S hK hT ha kf_X10_37 dX10_depth_52 (fun hk20 => ?_)
              refine lv_aload_n hx hb dX10_depth_55 rfl (lv_at hl 1 rfl) ?_
              refine kX7_2 (v := x8) S hK hT hk4 (List.mem_of_getElem? (i := 0) rfl) kf_X10_275 dX10_depth_56 ?_
              refine lv_iload hx hb dX10_depth_59 (lv_at hl 2 rfl) ?_
              refine lv_aload_n hx hb dX10_depth_61 rfl (lv_at hl 1 rfl) ?_
              refine gX7_3 S hK hT hk4 kf_X10_278 dX10_depth_62 (fun x21 hT => ?_)
              refine x_clp (x_runV (b := (F a 3)) (As := [.int x8, .int x13, .int x21]) (rest := []) S (c_X6_cell l E K F G s.heap (F a 3) x8 x13 x21 hk20) mv_X6_cell km_X10_265 rfl rfl ⟨Nat.le_of_ble_eq_true rfl, Nat.le_of_ble_eq_true rfl⟩ (rc_8 hK hT hk20) hK (fun _ => XPh.blind) (fun U hU hW => XPh.at hK hz hS hT hU hW) rfl hl.1 (Nat.le_of_ble_eq_true rfl) dX10_depth_65 ⟨Nat.le_of_ble_eq_true rfl, Nat.le_of_ble_eq_true rfl⟩) hS ?_
              rintro _ _ locs ⟨x22, rfl⟩ hS
              refine lv_istore (lv' := [(6, .int x22), (0, .ref a), (3, .ref q3), (4, .int x13), (5, .int x14)]) hx hb dX10_depth_68 hl (by decide) rfl (fun ls hl => ?_)
              refine lv_aload_n hx hb dX10_depth_70 rfl (lv_at hl 1 rfl) ?_
              refine gX10_3 S hK hT ha kf_X10_37 dX10_depth_71 (fun hk23 => ?_)
              refine lv_aload_n hx hb dX10_depth_74 rfl (lv_at hl 2 rfl) ?_
              refine kX7_2 (v := x8) S hK hT hk4 (List.mem_of_getElem? (i := 1) rfl) kf_X10_275 dX10_depth_75 ?_
              refine lv_iload hx hb dX10_depth_78 (lv_at hl 0 rfl) ?_
              refine x_clp (x_runV (b := (F a 3)) (As := [.int x8, .int x22]) (rest := []) S (c_X6_has l E K F G s.heap (F a 3) x8 x22 hk23) mv_X6_has km_X10_191 rfl rfl ⟨Nat.le_of_ble_eq_true rfl, Nat.le_of_ble_eq_true rfl⟩ (rc_8 hK hT hk23) hK (fun _ => XPh.blind) (fun U hU hW => XPh.at hK hz hS hT hU hW) rfl hl.1 (Nat.le_of_ble_eq_true rfl) dX10_depth_80 ⟨Nat.le_of_ble_eq_true rfl, Nat.le_of_ble_eq_true rfl⟩) hS ?_
              rintro _ _ locs ⟨x24, rfl, b25, t26⟩ hS
              have t26 : x24.toInt = 0 ∨ (x24.toInt = 1 ∧ 0 ≤ x8.toInt ∧ x8.toInt < 3 ∧ 0 ≤ x22.toInt ∧ x22.toInt < 30) := t26
              refine xi_zne (tgt := 89) hx hb (rfl : Int32.toInt x24 = x24.toInt) dX10_depth_83 (by decide) (fun c27 => ?_) (fun c27 => ?_)
              · refine lv_iload hx hb dX10_depth_89 (lv_at hl 0 rfl) ?_
                refine lv_istore (lv' := [(4, .int x22), (6, .int x22), (0, .ref a), (3, .ref q3), (5, .int x14)]) hx hb dX10_depth_91 hl (by decide) rfl (fun ls hl => ?_)
                refine xi_iinc (n := 1) (lv' := fun z9 => [(5, .int z9), (4, .int x22), (6, .int x22), (0, .ref a), (3, .ref q3)]) (k := 4) hx hb (rfl : Int32.toInt x14 = x14.toInt) (by decide) dX10_depth_93 hl rfl (by decide) (fun _ => rfl) (fun x28 ls t29 hl => ?_)
                have hl : lv_has ls 7 [(5, .int x28), (4, .int x22), (6, .int x22), (0, .ref a), (3, .ref q3)] := hl
                refine lv_goto (tgt := 44) hx hb dX10_depth_96 (by decide) ?_
                exact ih18 x22 x28 _ _ (z_X10_depth_2 x14.toInt x28.toInt N15 hf16 hm17 c19 t29 (xr x14) (xr x28)) (z_X10_depth_3 x14.toInt x28.toInt N15 hf16 hm17 c19 t29 (xr x14) (xr x28)) (hT.sub (List.forall_mem_cons.mpr ⟨List.mem_of_getElem? (i := 1) rfl, List.forall_mem_cons.mpr ⟨List.mem_of_getElem? (i := 2) rfl, fun _ h => by cases h⟩⟩)) hS (lv_sub hl [3, 4, 1, 0] rfl)
              · refine lv_iload hx hb dX10_depth_86 (lv_at hl 4 rfl) ?_
                exact x_ri hx hb hr hlk hQ (Nat.le_of_ble_eq_true rfl) (Nat.le_of_ble_eq_true rfl) hS dX10_depth_88 () ⟨_, rfl⟩ hh
        exact L44 4294967297 p1 0 _ _ (by decide) (by decide) hT hS (lv_sub hl [3, 2, 1, 0] rfl)
      · refine lv_iconst (v := (-1)) hx hb dX10_depth_36 (by decide) ?_
        exact x_ri hx hb hr hlk hQ (Nat.le_of_ble_eq_true rfl) (Nat.le_of_ble_eq_true rfl) hS dX10_depth_37 () ⟨_, rfl⟩ hh

theorem z_X10_since_1 (a0 : Int) (h0 : ¬ (a0 < 0)) (h1 : ¬ ((6 : Int) ≤ a0)) (r0 : -2147483648 ≤ a0 ∧ a0 < 2147483648) : 0 ≤ a0 ∧ a0 < ((6 : Nat) : Int) := by omega
abbrev rm_X10_since : Room := { frames := 0, cells := 0, slots := 0, locals := 0 }
set_option maxHeartbeats 4000000 in
set_option maxRecDepth 100000 in
theorem c_X10_since (l : Launch) (E : XE) (K : Nat → Nat) (F : Nat → Nat → Nat) (G : XG) (h0 : Heap) (a : Nat) (p0 : Int32) (ha : K a = 12) : Met l yX10_since (xw yX10_since cX10_since 2 (some .int)) rm_X10_since (va_Pc [.ref a, .int p0] (XPh E K F G h0)) (XQ E (fun v (u : Unit) => ∃ r : Int32, v = .int r) (fun _ H => H = h0)) 0 0 (xA E) := by
  refine x_enter (by decide) (Nat.le_of_ble_eq_true rfl) ?_
  intro p e s m args below meth c Q S hr hlk hnm hQ hP ls hl
  obtain ⟨⟨hz, hK, hT⟩, hh⟩ := hP
  obtain ⟨hx, hb, -, -, -⟩ := id S
  have hS : va_S (xA E) s.heap s.heap [] := va_S.rf
  have hl : lv_has ls 2 [(0, .ref a), (1, .int p0)] := hl
  refine lv_aload_n hx hb dX10_since_0 rfl (lv_at hl 0 rfl) ?_
  refine gX10_18 S hK hT ha kf_X10_123 dX10_since_1 (fun x1 hT => ?_)
  refine xi_zne (tgt := 9) hx hb (rfl : Int32.toInt x1 = x1.toInt) dX10_since_4 (by decide) (fun c2 => ?_) (fun c2 => ?_)
  · refine lv_iload_n hx hb dX10_since_9 rfl (lv_at hl 1 rfl) ?_
    have J26 : ∀ (locs : List Loc) (ls : Array Slot), TW E K F G [(a, 18, x1)] s.heap → va_S (xA E) s.heap s.heap locs → lv_has ls 2 [(0, .ref a), (1, .int p0)] → W p l e rm_X10_since s m args below meth c s.heap locs 0 0 Q (F0 m 26 ls []) := by
      intro locs ls hT hS hl
      refine lv_iload_n hx hb dX10_since_26 rfl (lv_at hl 1 rfl) ?_
      refine lv_bipush (v := 6) hx hb dX10_since_27 (by decide) ?_
      refine xi_cne (tgt := 39) hx hb (rfl : Int32.toInt p0 = p0.toInt) ((by decide) : Int32.toInt 6 = (6 : Int)) dX10_since_29 (by decide) (fun c3 => ?_) (fun c3 => ?_)
      · refine lv_iconst (v := (-1)) hx hb dX10_since_39 (by decide) ?_
        exact x_ri hx hb hr hlk hQ (Nat.le_of_ble_eq_true rfl) (Nat.le_of_ble_eq_true rfl) hS dX10_since_40 () ⟨_, rfl⟩ hh
      · refine lv_aload_n hx hb dX10_since_32 rfl (lv_at hl 0 rfl) ?_
        refine gX10_17 S hK hT ha kf_X10_233 dX10_since_33 (fun x4 hT => ?_)
        refine lv_goto (tgt := 40) hx hb dX10_since_36 (by decide) ?_
        exact x_ri hx hb hr hlk hQ (Nat.le_of_ble_eq_true rfl) (Nat.le_of_ble_eq_true rfl) hS dX10_since_40 () ⟨_, rfl⟩ hh
    refine xi_zlt (tgt := 26) hx hb (rfl : Int32.toInt p0 = p0.toInt) dX10_since_10 (by decide) (fun c5 => ?_) (fun c5 => ?_)
    · exact J26 _ _ hT hS (lv_sub hl [0, 1] rfl)
    · refine lv_iload_n hx hb dX10_since_13 rfl (lv_at hl 1 rfl) ?_
      refine lv_bipush (v := 6) hx hb dX10_since_14 (by decide) ?_
      refine xi_cge (tgt := 26) hx hb (rfl : Int32.toInt p0 = p0.toInt) ((by decide) : Int32.toInt 6 = (6 : Int)) dX10_since_16 (by decide) (fun c6 => ?_) (fun c6 => ?_)
      · exact J26 _ _ hT hS (lv_sub hl [0, 1] rfl)
      · refine lv_aload_n hx hb dX10_since_19 rfl (lv_at hl 0 rfl) ?_
        refine gX10_15 S hK hT ha kf_X10_95 dX10_since_20 (fun hk7 => ?_)
        refine lv_iload_n hx hb dX10_since_23 rfl (lv_at hl 1 rfl) ?_
        refine al_0 S hK hT hk7 ar_26 (by decide) (z_X10_since_1 p0.toInt c5 c6 (xr p0)) dX10_since_24 (fun x8 o9 => ?_)
        exact x_ri hx hb hr hlk hQ (Nat.le_of_ble_eq_true rfl) (Nat.le_of_ble_eq_true rfl) hS dX10_since_25 () ⟨_, rfl⟩ hh
  · refine lv_iconst (v := (-1)) hx hb dX10_since_7 (by decide) ?_
    exact x_ri hx hb hr hlk hQ (Nat.le_of_ble_eq_true rfl) (Nat.le_of_ble_eq_true rfl) hS dX10_since_8 () ⟨_, rfl⟩ hh

theorem z_X10_count_1 (a0 : Int) (r0 : -2147483648 ≤ a0 ∧ a0 < 2147483648) : (a0 < 0 ∨ 9 < a0) ∨ (a0 = 0) ∨ (a0 = 1) ∨ (a0 = 2) ∨ (a0 = 3) ∨ (a0 = 4) ∨ (a0 = 5) ∨ (a0 = 6) ∨ (a0 = 7) ∨ (a0 = 8) ∨ (a0 = 9) := by omega
abbrev rm_X10_count : Room := { frames := 4, cells := 0, slots := 0, locals := 84 }
set_option maxHeartbeats 4000000 in
set_option maxRecDepth 100000 in
theorem c_X10_count (l : Launch) (E : XE) (K : Nat → Nat) (F : Nat → Nat → Nat) (G : XG) (h0 : Heap) (a : Nat) (p0 : Int32) (ha : K a = 12) : Met l yX10_count (xw yX10_count cX10_count 2 (some .int)) rm_X10_count (va_Pc [.ref a, .int p0] (XPh E K F G h0)) (XQ E (fun v (u : Unit) => ∃ r : Int32, v = .int r) (fun _ H => H = h0)) 0 0 (xA E) := by
  refine x_enter (by decide) (Nat.le_of_ble_eq_true rfl) ?_
  intro p e s m args below meth c Q S hr hlk hnm hQ hP ls hl
  obtain ⟨⟨hz, hK, hT⟩, hh⟩ := hP
  obtain ⟨hx, hb, -, -, -⟩ := id S
  have hS : va_S (xA E) s.heap s.heap [] := va_S.rf
  have hl : lv_has ls 2 [(0, .ref a), (1, .int p0)] := hl
  refine lv_iload_n hx hb dX10_count_0 rfl (lv_at hl 1 rfl) ?_
  rcases ((z_X10_count_1 p0.toInt (xr p0)) : (p0.toInt < 0 ∨ 9 < p0.toInt) ∨ (p0.toInt = 0) ∨ (p0.toInt = 1) ∨ (p0.toInt = 2) ∨ (p0.toInt = 3) ∨ (p0.toInt = 4) ∨ (p0.toInt = 5) ∨ (p0.toInt = 6) ∨ (p0.toInt = 7) ∨ (p0.toInt = 8) ∨ (p0.toInt = 9)) with c1 | c1 | c1 | c1 | c1 | c1 | c1 | c1 | c1 | c1 | c1
  · refine lv_tableOut (tgt := 137) hx hb dX10_count_1 c1 (by decide) ?_
    refine lv_iconst (v := (-1)) hx hb dX10_count_137 (by decide) ?_
    exact x_ri hx hb hr hlk hQ (Nat.le_of_ble_eq_true rfl) (Nat.le_of_ble_eq_true rfl) hS dX10_count_138 () ⟨_, rfl⟩ hh
  · refine lv_tableIn (off := 55) (tgt := 56) hx hb dX10_count_1 (by rw [c1]; decide) (by rw [c1]; decide) (by rw [c1]; rfl) (by decide) ?_
    refine lv_aload_n hx hb dX10_count_56 rfl (lv_at hl 0 rfl) ?_
    refine gX10_2 S hK hT ha kf_X10_30 dX10_count_57 (fun hk2 => ?_)
    refine x_clp (x_runV (b := (F a 2)) (As := []) (rest := []) S (c_X0_size l E K F G s.heap (F a 2) hk2) mv_X0_size km_X10_167 rfl rfl ⟨Nat.le_of_ble_eq_true rfl, Nat.le_of_ble_eq_true rfl⟩ (rc_2 hK hT hk2) hK (fun _ => XPh.blind) (fun U hU hW => XPh.at hK hz hS hT hU hW) rfl hl.1 (Nat.le_of_ble_eq_true rfl) dX10_count_60 ⟨Nat.le_of_ble_eq_true rfl, Nat.le_of_ble_eq_true rfl⟩) hS ?_
    rintro _ _ locs ⟨x3, rfl⟩ hS
    exact x_ri hx hb hr hlk hQ (Nat.le_of_ble_eq_true rfl) (Nat.le_of_ble_eq_true rfl) hS dX10_count_63 () ⟨_, rfl⟩ hh
  · refine lv_tableIn (off := 63) (tgt := 64) hx hb dX10_count_1 (by rw [c1]; decide) (by rw [c1]; decide) (by rw [c1]; rfl) (by decide) ?_
    refine lv_aload_n hx hb dX10_count_64 rfl (lv_at hl 0 rfl) ?_
    refine gX10_3 S hK hT ha kf_X10_37 dX10_count_65 (fun hk4 => ?_)
    refine x_clp (x_runV (b := (F a 3)) (As := []) (rest := []) S (c_X6_total l E K F G s.heap (F a 3) hk4) mv_X6_total km_X10_222 rfl rfl ⟨Nat.le_of_ble_eq_true rfl, Nat.le_of_ble_eq_true rfl⟩ (rc_8 hK hT hk4) hK (fun _ => XPh.blind) (fun U hU hW => XPh.at hK hz hS hT hU hW) rfl hl.1 (Nat.le_of_ble_eq_true rfl) dX10_count_68 ⟨Nat.le_of_ble_eq_true rfl, Nat.le_of_ble_eq_true rfl⟩) hS ?_
    rintro _ _ locs ⟨x5, rfl⟩ hS
    exact x_ri hx hb hr hlk hQ (Nat.le_of_ble_eq_true rfl) (Nat.le_of_ble_eq_true rfl) hS dX10_count_71 () ⟨_, rfl⟩ hh
  · refine lv_tableIn (off := 71) (tgt := 72) hx hb dX10_count_1 (by rw [c1]; decide) (by rw [c1]; decide) (by rw [c1]; rfl) (by decide) ?_
    refine lv_aload_n hx hb dX10_count_72 rfl (lv_at hl 0 rfl) ?_
    refine gX10_8 S hK hT ha kf_X10_57 dX10_count_73 (fun hk6 => ?_)
    refine x_clp (x_runV (b := (F a 8)) (As := []) (rest := []) S (c_X4_size l E K F G s.heap (F a 8) hk6) mv_X4_size km_X10_232 rfl rfl ⟨Nat.le_of_ble_eq_true rfl, Nat.le_of_ble_eq_true rfl⟩ (rc_6 hK hT hk6) hK (fun _ => XPh.blind) (fun U hU hW => XPh.at hK hz hS hT hU hW) rfl hl.1 (Nat.le_of_ble_eq_true rfl) dX10_count_76 ⟨Nat.le_of_ble_eq_true rfl, Nat.le_of_ble_eq_true rfl⟩) hS ?_
    rintro _ _ locs ⟨x7, rfl⟩ hS
    exact x_ri hx hb hr hlk hQ (Nat.le_of_ble_eq_true rfl) (Nat.le_of_ble_eq_true rfl) hS dX10_count_79 () ⟨_, rfl⟩ hh
  · refine lv_tableIn (off := 79) (tgt := 80) hx hb dX10_count_1 (by rw [c1]; decide) (by rw [c1]; decide) (by rw [c1]; rfl) (by decide) ?_
    refine lv_aload_n hx hb dX10_count_80 rfl (lv_at hl 0 rfl) ?_
    refine gX10_18 S hK hT ha kf_X10_123 dX10_count_81 (fun x8 hT => ?_)
    refine xi_zeq (tgt := 91) hx hb (rfl : Int32.toInt x8 = x8.toInt) dX10_count_84 (by decide) (fun c9 => ?_) (fun c9 => ?_)
    · refine lv_iconst (v := 0) hx hb dX10_count_91 (by decide) ?_
      exact x_ri hx hb hr hlk hQ (Nat.le_of_ble_eq_true rfl) (Nat.le_of_ble_eq_true rfl) hS dX10_count_92 () ⟨_, rfl⟩ hh
    · refine lv_iconst (v := 1) hx hb dX10_count_87 (by decide) ?_
      refine lv_goto (tgt := 92) hx hb dX10_count_88 (by decide) ?_
      exact x_ri hx hb hr hlk hQ (Nat.le_of_ble_eq_true rfl) (Nat.le_of_ble_eq_true rfl) hS dX10_count_92 () ⟨_, rfl⟩ hh
  · refine lv_tableIn (off := 92) (tgt := 93) hx hb dX10_count_1 (by rw [c1]; decide) (by rw [c1]; decide) (by rw [c1]; rfl) (by decide) ?_
    refine lv_aload_n hx hb dX10_count_93 rfl (lv_at hl 0 rfl) ?_
    refine gX10_16 S hK hT ha kf_X10_99 dX10_count_94 (fun hk10 => ?_)
    refine lv_iconst (v := 0) hx hb dX10_count_97 (by decide) ?_
    refine al_0 S hK hT hk10 ar_27 (by decide) (by decide) dX10_count_98 (fun x11 o12 => ?_)
    exact x_ri hx hb hr hlk hQ (Nat.le_of_ble_eq_true rfl) (Nat.le_of_ble_eq_true rfl) hS dX10_count_99 () ⟨_, rfl⟩ hh
  · refine lv_tableIn (off := 99) (tgt := 100) hx hb dX10_count_1 (by rw [c1]; decide) (by rw [c1]; decide) (by rw [c1]; rfl) (by decide) ?_
    refine lv_aload_n hx hb dX10_count_100 rfl (lv_at hl 0 rfl) ?_
    refine gX10_16 S hK hT ha kf_X10_99 dX10_count_101 (fun hk13 => ?_)
    refine lv_iconst (v := 1) hx hb dX10_count_104 (by decide) ?_
    refine al_0 S hK hT hk13 ar_27 (by decide) (by decide) dX10_count_105 (fun x14 o15 => ?_)
    exact x_ri hx hb hr hlk hQ (Nat.le_of_ble_eq_true rfl) (Nat.le_of_ble_eq_true rfl) hS dX10_count_106 () ⟨_, rfl⟩ hh
  · refine lv_tableIn (off := 106) (tgt := 107) hx hb dX10_count_1 (by rw [c1]; decide) (by rw [c1]; decide) (by rw [c1]; rfl) (by decide) ?_
    refine lv_aload_n hx hb dX10_count_107 rfl (lv_at hl 0 rfl) ?_
    refine gX10_16 S hK hT ha kf_X10_99 dX10_count_108 (fun hk16 => ?_)
    refine lv_iconst (v := 2) hx hb dX10_count_111 (by decide) ?_
    refine al_0 S hK hT hk16 ar_27 (by decide) (by decide) dX10_count_112 (fun x17 o18 => ?_)
    exact x_ri hx hb hr hlk hQ (Nat.le_of_ble_eq_true rfl) (Nat.le_of_ble_eq_true rfl) hS dX10_count_113 () ⟨_, rfl⟩ hh
  · refine lv_tableIn (off := 113) (tgt := 114) hx hb dX10_count_1 (by rw [c1]; decide) (by rw [c1]; decide) (by rw [c1]; rfl) (by decide) ?_
    refine lv_aload_n hx hb dX10_count_114 rfl (lv_at hl 0 rfl) ?_
    refine gX10_16 S hK hT ha kf_X10_99 dX10_count_115 (fun hk19 => ?_)
    refine lv_iconst (v := 3) hx hb dX10_count_118 (by decide) ?_
    refine al_0 S hK hT hk19 ar_27 (by decide) (by decide) dX10_count_119 (fun x20 o21 => ?_)
    exact x_ri hx hb hr hlk hQ (Nat.le_of_ble_eq_true rfl) (Nat.le_of_ble_eq_true rfl) hS dX10_count_120 () ⟨_, rfl⟩ hh
  · refine lv_tableIn (off := 120) (tgt := 121) hx hb dX10_count_1 (by rw [c1]; decide) (by rw [c1]; decide) (by rw [c1]; rfl) (by decide) ?_
    refine lv_aload_n hx hb dX10_count_121 rfl (lv_at hl 0 rfl) ?_
    refine gX10_0 S hK hT ha kf_X10_12 dX10_count_122 (fun hk22 => ?_)
    refine x_clp (x_runV (b := (F a 0)) (As := []) (rest := []) S (c_X8_length l E K F G.1 G.2.1 G.2.2 s.heap (F a 0) hk22) mv_X8_length km_X10_106 rfl rfl ⟨Nat.le_of_ble_eq_true rfl, Nat.le_of_ble_eq_true rfl⟩ (rc_10 hK hT hk22) hK (fun _ => XPh.blind) (fun U hU hW => XPh.at hK hz hS hT hU hW) rfl hl.1 (Nat.le_of_ble_eq_true rfl) dX10_count_125 ⟨Nat.le_of_ble_eq_true rfl, Nat.le_of_ble_eq_true rfl⟩) hS ?_
    rintro _ _ locs ⟨x9, rfl, h9⟩ hS
    have h9 := h9.symm
    subst h9
    exact x_ri hx hb hr hlk hQ (Nat.le_of_ble_eq_true rfl) (Nat.le_of_ble_eq_true rfl) hS dX10_count_128 () ⟨_, rfl⟩ hh
  · refine lv_tableIn (off := 128) (tgt := 129) hx hb dX10_count_1 (by rw [c1]; decide) (by rw [c1]; decide) (by rw [c1]; rfl) (by decide) ?_
    refine lv_aload_n hx hb dX10_count_129 rfl (lv_at hl 0 rfl) ?_
    refine gX10_2 S hK hT ha kf_X10_30 dX10_count_130 (fun hk23 => ?_)
    refine x_clp (x_runV (b := (F a 2)) (As := []) (rest := []) S (c_X0_lateOnes l E K F G s.heap (F a 2) hk23) mv_X0_lateOnes km_X10_368 rfl rfl ⟨Nat.le_of_ble_eq_true rfl, Nat.le_of_ble_eq_true rfl⟩ (rc_2 hK hT hk23) hK (fun _ => XPh.blind) (fun U hU hW => XPh.at hK hz hS hT hU hW) rfl hl.1 (Nat.le_of_ble_eq_true rfl) dX10_count_133 ⟨Nat.le_of_ble_eq_true rfl, Nat.le_of_ble_eq_true rfl⟩) hS ?_
    rintro _ _ locs ⟨x24, rfl⟩ hS
    exact x_ri hx hb hr hlk hQ (Nat.le_of_ble_eq_true rfl) (Nat.le_of_ble_eq_true rfl) hS dX10_count_136 () ⟨_, rfl⟩ hh
