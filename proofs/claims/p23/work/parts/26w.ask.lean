theorem z_X10_wordOf_1 (a0 : Int) : (a0 < 0 ∨ 4 < a0) ∨ (a0 = 0) ∨ (a0 = 1) ∨ (a0 = 2) ∨ (a0 = 3) ∨ (a0 = 4) := by omega
theorem z_X10_wordOf_2 (a0 : Int) (h0 : a0 < 0 ∨ 4 < a0) : (0 ≤ a0 ∧ a0 ≤ 4 ∧ ((5 : Nat) : Int) = a0) ∨ (¬ (0 ≤ a0 ∧ a0 ≤ 4) ∧ ((5 : Nat) : Int) = 5) := by omega
theorem z_X10_wordOf_3 (a0 : Int) (h0 : a0 = 0) : (0 ≤ a0 ∧ a0 ≤ 4 ∧ ((0 : Nat) : Int) = a0) ∨ (¬ (0 ≤ a0 ∧ a0 ≤ 4) ∧ ((0 : Nat) : Int) = 5) := by omega
theorem z_X10_wordOf_4 (a0 : Int) (h0 : a0 = 1) : (0 ≤ a0 ∧ a0 ≤ 4 ∧ ((1 : Nat) : Int) = a0) ∨ (¬ (0 ≤ a0 ∧ a0 ≤ 4) ∧ ((1 : Nat) : Int) = 5) := by omega
theorem z_X10_wordOf_5 (a0 : Int) (h0 : a0 = 2) : (0 ≤ a0 ∧ a0 ≤ 4 ∧ ((2 : Nat) : Int) = a0) ∨ (¬ (0 ≤ a0 ∧ a0 ≤ 4) ∧ ((2 : Nat) : Int) = 5) := by omega
theorem z_X10_wordOf_6 (a0 : Int) (h0 : a0 = 3) : (0 ≤ a0 ∧ a0 ≤ 4 ∧ ((3 : Nat) : Int) = a0) ∨ (¬ (0 ≤ a0 ∧ a0 ≤ 4) ∧ ((3 : Nat) : Int) = 5) := by omega
theorem z_X10_wordOf_7 (a0 : Int) (h0 : a0 = 4) : (0 ≤ a0 ∧ a0 ≤ 4 ∧ ((4 : Nat) : Int) = a0) ∨ (¬ (0 ≤ a0 ∧ a0 ≤ 4) ∧ ((4 : Nat) : Int) = 5) := by omega
abbrev rm_X10_wordOf : Room := { frames := 0, cells := 0, slots := 0, locals := 0 }
set_option maxHeartbeats 4000000 in
set_option maxRecDepth 100000 in
theorem c_X10_wordOf (l : Launch) (E : XE) (K : Nat → Nat) (F : Nat → Nat → Nat) (G : XG) (h0 : Heap) (p0 : Int32)  : Met l yX10_wordOf (xw yX10_wordOf cX10_wordOf 1 (some (.object "java/lang/String"))) rm_X10_wordOf (va_Pc [.int p0] (XPh E K F G h0)) (XQ E (fun v (u : Unit) => ∃ i : Nat, i < 6 ∧ v = .ref (E.2.2.2.2.1 i) ∧ ((0 ≤ p0.toInt ∧ p0.toInt ≤ 4 ∧ ((i : Nat) : Int) = p0.toInt) ∨ (¬ (0 ≤ p0.toInt ∧ p0.toInt ≤ 4) ∧ ((i : Nat) : Int) = 5))) (fun _ H => H = h0)) 0 0 (xA E) := by
  refine x_enter (by decide) (Nat.le_of_ble_eq_true rfl) ?_
  intro p e s m args below meth c Q S hr hlk hnm hQ hP ls hl
  obtain ⟨⟨hz, hK, hT⟩, hh⟩ := hP
  obtain ⟨hx, hb, -, -, -⟩ := id S
  have hS : va_S (xA E) s.heap s.heap [] := va_S.rf
  have hl : lv_has ls 1 [(0, .int p0)] := hl
  refine lv_iload_n hx hb dX10_wordOf_0 rfl (lv_at hl 0 rfl) ?_
  rcases ((z_X10_wordOf_1 p0.toInt) : (p0.toInt < 0 ∨ 4 < p0.toInt) ∨ (p0.toInt = 0) ∨ (p0.toInt = 1) ∨ (p0.toInt = 2) ∨ (p0.toInt = 3) ∨ (p0.toInt = 4)) with c1 | c1 | c1 | c1 | c1 | c1
  · refine lv_tableOut (tgt := 56) hx hb dX10_wordOf_1 c1 (by decide) ?_
    refine x_ldcSw hx hb S.2.2.2.1 (hK.2.2.1 5 ("LateRules", 384, "tree") rfl) dX10_wordOf_56 ?_
    exact x_ra hx hb hr (by first | exact Or.inl ⟨_, rfl⟩ | exact Or.inr ⟨_, rfl⟩) (by first | exact Or.inl rfl | exact Or.inr ⟨_, rfl⟩) hlk hQ (Nat.le_of_ble_eq_true rfl) (Nat.le_of_ble_eq_true rfl) hS dX10_wordOf_59 () ⟨5, by decide, rfl, (z_X10_wordOf_2 p0.toInt c1)⟩ hh
  · refine lv_tableIn (off := 35) (tgt := 36) hx hb dX10_wordOf_1 (by rw [c1]; decide) (by rw [c1]; decide) (by rw [c1]; rfl) (by decide) ?_
    refine x_ldcSw hx hb S.2.2.2.1 (hK.2.2.1 0 ("LateRules", 374, "unique") rfl) dX10_wordOf_36 ?_
    exact x_ra hx hb hr (by first | exact Or.inl ⟨_, rfl⟩ | exact Or.inr ⟨_, rfl⟩) (by first | exact Or.inl rfl | exact Or.inr ⟨_, rfl⟩) hlk hQ (Nat.le_of_ble_eq_true rfl) (Nat.le_of_ble_eq_true rfl) hS dX10_wordOf_39 () ⟨0, by decide, rfl, (z_X10_wordOf_3 p0.toInt c1)⟩ hh
  · refine lv_tableIn (off := 39) (tgt := 40) hx hb dX10_wordOf_1 (by rw [c1]; decide) (by rw [c1]; decide) (by rw [c1]; rfl) (by decide) ?_
    refine x_ldcSw hx hb S.2.2.2.1 (hK.2.2.1 1 ("LateRules", 376, "refers") rfl) dX10_wordOf_40 ?_
    exact x_ra hx hb hr (by first | exact Or.inl ⟨_, rfl⟩ | exact Or.inr ⟨_, rfl⟩) (by first | exact Or.inl rfl | exact Or.inr ⟨_, rfl⟩) hlk hQ (Nat.le_of_ble_eq_true rfl) (Nat.le_of_ble_eq_true rfl) hS dX10_wordOf_43 () ⟨1, by decide, rfl, (z_X10_wordOf_4 p0.toInt c1)⟩ hh
  · refine lv_tableIn (off := 43) (tgt := 44) hx hb dX10_wordOf_1 (by rw [c1]; decide) (by rw [c1]; decide) (by rw [c1]; rfl) (by decide) ?_
    refine x_ldcSw hx hb S.2.2.2.1 (hK.2.2.1 2 ("LateRules", 378, "range") rfl) dX10_wordOf_44 ?_
    exact x_ra hx hb hr (by first | exact Or.inl ⟨_, rfl⟩ | exact Or.inr ⟨_, rfl⟩) (by first | exact Or.inl rfl | exact Or.inr ⟨_, rfl⟩) hlk hQ (Nat.le_of_ble_eq_true rfl) (Nat.le_of_ble_eq_true rfl) hS dX10_wordOf_47 () ⟨2, by decide, rfl, (z_X10_wordOf_5 p0.toInt c1)⟩ hh
  · refine lv_tableIn (off := 47) (tgt := 48) hx hb dX10_wordOf_1 (by rw [c1]; decide) (by rw [c1]; decide) (by rw [c1]; rfl) (by decide) ?_
    refine x_ldcSw hx hb S.2.2.2.1 (hK.2.2.1 3 ("LateRules", 380, "sum") rfl) dX10_wordOf_48 ?_
    exact x_ra hx hb hr (by first | exact Or.inl ⟨_, rfl⟩ | exact Or.inr ⟨_, rfl⟩) (by first | exact Or.inl rfl | exact Or.inr ⟨_, rfl⟩) hlk hQ (Nat.le_of_ble_eq_true rfl) (Nat.le_of_ble_eq_true rfl) hS dX10_wordOf_51 () ⟨3, by decide, rfl, (z_X10_wordOf_6 p0.toInt c1)⟩ hh
  · refine lv_tableIn (off := 51) (tgt := 52) hx hb dX10_wordOf_1 (by rw [c1]; decide) (by rw [c1]; decide) (by rw [c1]; rfl) (by decide) ?_
    refine x_ldcSw hx hb S.2.2.2.1 (hK.2.2.1 4 ("LateRules", 382, "count") rfl) dX10_wordOf_52 ?_
    exact x_ra hx hb hr (by first | exact Or.inl ⟨_, rfl⟩ | exact Or.inr ⟨_, rfl⟩) (by first | exact Or.inl rfl | exact Or.inr ⟨_, rfl⟩) hlk hQ (Nat.le_of_ble_eq_true rfl) (Nat.le_of_ble_eq_true rfl) hS dX10_wordOf_55 () ⟨4, by decide, rfl, (z_X10_wordOf_7 p0.toInt c1)⟩ hh

abbrev rm_X10_tellVerdict : Room := { frames := 7, cells := 7, slots := 700, locals := 171 }
set_option maxHeartbeats 4000000 in
set_option maxRecDepth 100000 in
theorem c_X10_tellVerdict (l : Launch) (E : XE) (K : Nat → Nat) (F : Nat → Nat → Nat) (G : XG) (a : Nat) (p0 : Nat) (p1 : Int32) (ha : K a = 12) (hp0 : K p0 = 6) : Met l yX10_tellVerdict (xw yX10_tellVerdict cX10_tellVerdict 4 none) rm_X10_tellVerdict (va_Pc [.ref a, .ref p0, .int p1] (XP E K F G)) (XQv E (fun (u : XG) => XFr [(F a 14, 1), (F a 14, 2), (F a 14, 3)] [] [] G u) (fun u H => TW E K F u H)) 7 700 (xA E) := by
  refine x_enter (by decide) (Nat.le_of_ble_eq_true rfl) ?_
  intro p e s m args below meth c Q S hr hlk hnm hQ hP ls hl
  obtain ⟨hz, hK, hT⟩ := hP
  obtain ⟨hx, hb, -, -, -⟩ := id S
  obtain ⟨H, hT, hS, hgo⟩ : ∃ H : Heap, TW E K F G H ∧ va_S (xA E) s.heap H [] ∧ H = s.heap := ⟨_, hT, va_S.rf, rfl⟩
  rw [← hgo]
  have hl : lv_has ls 4 [(0, .ref a), (1, .ref p0), (2, .int p1)] := hl
  obtain ⟨hk9999, hj9999⟩ := fkX10_14 hT ha
  refine lv_aload_n hx hb dX10_tellVerdict_0 rfl (lv_at hl 0 rfl) ?_
  obtain ⟨hk1, hj1⟩ := fkX10_2 hT ha
  refine gX10_2 S hK hT ha kf_X10_30 dX10_tellVerdict_1 (fun _ _ => ?_)
  refine lv_aload_n hx hb dX10_tellVerdict_4 rfl (lv_at hl 1 rfl) ?_
  refine lv_iload_n hx hb dX10_tellVerdict_5 rfl (lv_at hl 2 rfl) ?_
  refine x_clp (x_runV (b := p0) (As := [.int p1]) (rest := [.ref (F a 2)]) S (c_X4_number l E K F G H p0 p1 hp0) mv_X4_number km_X10_301 rfl rfl ⟨Nat.le_of_ble_eq_true rfl, Nat.le_of_ble_eq_true rfl⟩ (rc_6 hK hT hp0) hK (fun _ => XPh.blind) (fun U hU hW => XPh.at hK hz hS hT hU hW) rfl hl.1 (Nat.le_of_ble_eq_true rfl) dX10_tellVerdict_6 ⟨Nat.le_of_ble_eq_true rfl, Nat.le_of_ble_eq_true rfl⟩) hS ?_
  rintro _ _ locs ⟨x6, rfl, t6⟩ hS
  obtain ⟨hk6, hj6⟩ := fkX4_0 hT hp0
  have t6 : ((0 ≤ p1.toInt ∧ p1.toInt < ((G.1 p0 6).toInt) ∧ p1.toInt < 1080) ∧ x6.toInt = (aI (G.2.1 (F p0 0)) (p1.toInt))) ∨ (¬ (0 ≤ p1.toInt ∧ p1.toInt < ((G.1 p0 6).toInt) ∧ p1.toInt < 1080) ∧ x6.toInt = -1) := t6
  refine x_clp (x_runV (b := (F a 2)) (As := [.int x6]) (rest := []) S (c_X0_get l E K F G H (F a 2) x6 hk1) mv_X0_get km_X10_159 rfl rfl ⟨Nat.le_of_ble_eq_true rfl, Nat.le_of_ble_eq_true rfl⟩ (rc_2 hK hT hk1) hK (fun _ => XPh.blind) (fun U hU hW => XPh.at hK hz hS hT hU hW) rfl hl.1 (Nat.le_of_ble_eq_true rfl) dX10_tellVerdict_9 ⟨Nat.le_of_ble_eq_true rfl, Nat.le_of_ble_eq_true rfl⟩) hS ?_
  rintro _ _ locs (⟨rfl, hn9⟩ | ⟨q9, rfl, hk9, ht9, hs9⟩) hS
  · refine lv_astore_nN (lv' := [(3, .null), (0, .ref a), (1, .ref p0), (2, .int p1)]) hx hb dX10_tellVerdict_12 rfl hl (by decide) rfl (fun ls hl => ?_)
    refine lv_aload_nN hx hb dX10_tellVerdict_13 rfl (lv_at hl 0 rfl) ?_
    refine lv_ifnullN (tgt := 40) hx hb dX10_tellVerdict_14 (by decide) ?_
    exact x_rv hx hb hr hlk hQ (Nat.le_of_ble_eq_true rfl) (Nat.le_of_ble_eq_true rfl) hS dX10_tellVerdict_40 G XFr.rf hT
  · have ht9 : 0 ≤ x6.toInt ∧ x6.toInt < 12 := ht9
    refine lv_astore_n (lv' := [(3, .ref q9), (0, .ref a), (1, .ref p0), (2, .int p1)]) hx hb dX10_tellVerdict_12 rfl hl (by decide) rfl (fun ls hl => ?_)
    refine lv_aload_n hx hb dX10_tellVerdict_13 rfl (lv_at hl 0 rfl) ?_
    refine lv_ifnull hx hb dX10_tellVerdict_14 ?_
    refine lv_aload_n hx hb dX10_tellVerdict_17 rfl (lv_at hl 1 rfl) ?_
    refine gX10_14 S hK hT ha kf_X10_91 dX10_tellVerdict_18 (fun _ _ => ?_)
    refine lv_aload_n hx hb dX10_tellVerdict_21 rfl (lv_at hl 0 rfl) ?_
    refine gX7_1 S hK hT hk9 kf_X10_130 dX10_tellVerdict_22 (v := (G.1 q9 1)) rfl (?_)
    refine lv_aload_n hx hb dX10_tellVerdict_25 rfl (lv_at hl 0 rfl) ?_
    refine gX7_0 S hK hT hk9 kf_X10_140 dX10_tellVerdict_26 (v := (G.1 q9 0)) rfl (?_)
    refine x_clp (x_runS (As := [.int (G.1 q9 0)]) (rest := [.int (G.1 q9 1), .ref (F a 14)]) S (c_X10_wordOf l E K F G H (G.1 q9 0)) ms_X10_wordOf km_X10_143 rfl rfl ⟨Nat.le_of_ble_eq_true rfl, Nat.le_of_ble_eq_true rfl⟩ hK (fun _ => XPh.blind) (fun U hU hW => XPh.at hK hz hS hT hU hW) rfl hl.1 (Nat.le_of_ble_eq_true rfl) dX10_tellVerdict_29 ⟨Nat.le_of_ble_eq_true rfl, Nat.le_of_ble_eq_true rfl⟩) hS ?_
    rintro _ _ locs ⟨q29, hi29, rfl, hw29⟩ hS
    refine lv_aload_n hx hb dX10_tellVerdict_32 rfl (lv_at hl 2 rfl) ?_
    refine lv_iload_n hx hb dX10_tellVerdict_33 rfl (lv_at hl 3 rfl) ?_
    refine x_clp (x_runV (b := p0) (As := [.int p1]) (rest := [.ref (E.2.2.2.2.1 q29), .int (G.1 q9 1), .ref (F a 14)]) S (c_X4_subject l E K F G H p0 p1 hp0) mv_X4_subject km_X10_147 rfl rfl ⟨Nat.le_of_ble_eq_true rfl, Nat.le_of_ble_eq_true rfl⟩ (rc_6 hK hT hp0) hK (fun _ => XPh.blind) (fun U hU hW => XPh.at hK hz hS hT hU hW) rfl hl.1 (Nat.le_of_ble_eq_true rfl) dX10_tellVerdict_34 ⟨Nat.le_of_ble_eq_true rfl, Nat.le_of_ble_eq_true rfl⟩) hS ?_
    rintro _ _ locs ⟨x34, rfl, t34⟩ hS
    obtain ⟨hk34, hj34⟩ := fkX4_1 hT hp0
    have t34 : ((0 ≤ p1.toInt ∧ p1.toInt < ((G.1 p0 6).toInt) ∧ p1.toInt < 1080) ∧ x34.toInt = (aI (G.2.1 (F p0 1)) (p1.toInt))) ∨ (¬ (0 ≤ p1.toInt ∧ p1.toInt < ((G.1 p0 6).toInt) ∧ p1.toInt < 1080) ∧ x34.toInt = -1) := t34
    refine x_cv (x_runV (b := (F a 14)) (As := [.int (G.1 q9 1), .ref (E.2.2.2.2.1 q29), .int x34]) (rest := []) S (c_X9_tell l E K F G (F a 14) (G.1 q9 1) q29 x34 hk9999 (Nat.lt_of_lt_of_le hi29 (by decide)) (xlen6 hi29)) mv_X9_tell km_X10_151 rfl rfl ⟨Nat.le_of_ble_eq_true rfl, Nat.le_of_ble_eq_true rfl⟩ (rc_11 hK hT hk9999) hK (fun _ => XP.blind) (fun U hU hW => XP.at hK hz hS hT hU hW) rfl hl.1 (Nat.le_of_ble_eq_true rfl) dX10_tellVerdict_37 ⟨Nat.le_of_ble_eq_true rfl, Nat.le_of_ble_eq_true rfl⟩) hS ?_
    rintro G37 H locs ⟨hF37, t37⟩ hT hS
    have t37 : ((G37.1 (F a 14) 1).toInt) = 1 ∧ ((G37.1 (F a 14) 2).toInt) = ((G.1 q9 1).toInt) ∧ ((G37.1 (F a 14) 3).toInt) = x34.toInt := t37
    exact x_rv hx hb hr hlk hQ (Nat.le_of_ble_eq_true rfl) (Nat.le_of_ble_eq_true rfl) hS dX10_tellVerdict_40 G37 (XFr.call XFr.rf hF37 (xm1 0 rfl (xm1 1 rfl (xm1 2 rfl xm0))) xm0 xm0) hT

theorem z_X10_askAtOnce_1 (a0 : Int) (h0 : -2147483648 ≤ a0 ∧ a0 < 2147483648) : ¬ (2147483648 - a0 < ((0 : Nat) : Int)) := by omega
theorem z_X10_askAtOnce_2 (a0 : Int) (a1 : Int) (a2 : Int) (h0 : 0 ≤ a2 ∧ a2 ≤ 1080) (h1 : 0 ≤ a0 ∧ a0 ≤ a2) (h2 : a1 = (a0 + 1) ∨ (a0 + 1) < -2147483648 ∨ 2147483648 ≤ (a0 + 1)) : a1 = (a0 + 1) := by omega
theorem z_X10_askAtOnce_3 (a0 : Int) (a1 : Int) (h0 : 0 ≤ a0 ∧ a0 ≤ a1) (h1 : ¬ (a1 ≤ a0)) : 0 ≤ (a0 + 1) ∧ (a0 + 1) ≤ a1 := by omega
theorem z_X10_askAtOnce_4 (a0 : Int) (a1 : Int) (h0 : 0 ≤ a0 ∧ a0 ≤ a1) : (0 : Int) ≤ (a0 + 1) := by omega
theorem z_X10_askAtOnce_5 (a0 : Int) (a1 : Nat) (h0 : 2147483648 - a0 < ((a1 + 1 : Nat) : Int)) : 2147483648 - (a0 + 1) < ((a1 : Nat) : Int) := by omega
theorem z_X10_askAtOnce_10 (a0 : Int) (h0 : 0 ≤ a0 ∧ a0 ≤ 1080) : 0 ≤ (0 : Int) ∧ (0 : Int) ≤ a0 := by omega
abbrev rm_X10_askAtOnce : Room := { frames := 8, cells := 7, slots := 700, locals := 194 }
set_option maxHeartbeats 4000000 in
set_option maxRecDepth 100000 in
theorem c_X10_askAtOnce (l : Launch) (E : XE) (K : Nat → Nat) (F : Nat → Nat → Nat) (G : XG) (a : Nat) (ha : K a = 12) (s0 : 0 ≤ ((G.1 (F a 9) 6).toInt) ∧ ((G.1 (F a 9) 6).toInt) ≤ 1080) : Met l yX10_askAtOnce (xw yX10_askAtOnce cX10_askAtOnce 2 (some .boolean)) rm_X10_askAtOnce (va_Pc [.ref a] (XP E K F G)) (XQ E (fun v (u : XG) => ∃ r : Int32, v = .int r ∧ (r = 0 ∨ r = 1) ∧ XFr [(F a 14, 1), (F a 14, 2), (F a 14, 3)] [F a 16] [] G u ∧ ((r.toInt = 1 ∧ ∀ x, x ∈ qL G F (F a 9) → x.2.2.2.2.1 = 0 → x.2.2.2.2.2 = 0) ∨ (r.toInt = 0 ∧ ∃ x, x ∈ qL G F (F a 9) ∧ x.2.2.2.2.1 = 0 ∧ x.2.2.2.2.2 ≠ 0))) (fun u H => TW E K F u H)) 7 700 (xA E) := by
  refine x_enter (by decide) (Nat.le_of_ble_eq_true rfl) ?_
  intro p e s m args below meth c Q S hr hlk hnm hQ hP ls hl
  obtain ⟨hz, hK, hT⟩ := hP
  obtain ⟨hx, hb, -, -, -⟩ := id S
  obtain ⟨H, hT, hS, hgo⟩ : ∃ H : Heap, TW E K F G H ∧ va_S (xA E) s.heap H [] ∧ H = s.heap := ⟨_, hT, va_S.rf, rfl⟩
  rw [← hgo]
  have hl : lv_has ls 2 [(0, .ref a)] := hl
  obtain ⟨hk9999, hj9999⟩ := fkX10_14 hT ha
  obtain ⟨hk9999a, hj9999a⟩ := fkX10_16 hT ha
  obtain ⟨hk9999b, hj9999b⟩ := fkX10_9 hT ha
  obtain ⟨hk9999c, hj9999c⟩ := fkX4_4 hT hk9999b
  have hj9999d : F (F (F a 9) 4) 99 = 10 * 1 + 4 := by rw [hj9999c, hj9999b]
  obtain ⟨hk9999d, hj9999e⟩ := fkX4_5 hT hk9999b
  have hj9999f : F (F (F a 9) 5) 99 = 10 * 1 + 5 := by rw [hj9999e, hj9999b]
  refine lv_iconst (v := 0) hx hb dX10_askAtOnce_0 (by decide) ?_
  refine lv_istore_n (lv' := [(1, .int 0), (0, .ref a)]) hx hb dX10_askAtOnce_1 rfl hl (by decide) rfl (fun ls hl => ?_)
  have L2 : ∀ (N2 : Nat) (l1_2 : Int32) (G_2 : XG) (H : Heap) (locs : List Loc) (ls : Array Slot), XFr [] [F a 16] [] G G_2 → (∀ j : Int, 0 ≤ j → j < l1_2.toInt → aI (G.2.1 (F (F a 9) 4)) j = 0 → aI (G.2.1 (F (F a 9) 5)) j = 0) → 0 ≤ l1_2.toInt ∧ l1_2.toInt ≤ ((G.1 (F a 9) 6).toInt) → (0 : Int) ≤ l1_2.toInt → 2147483648 - l1_2.toInt < ((N2 : Nat) : Int) → TW E K F G_2 H → va_S (xA E) s.heap H locs → lv_has ls 2 [(0, .ref a), (1, .int l1_2)] → W p l e rm_X10_askAtOnce s m args below meth c H locs 0 0 Q (F0 m 2 ls []) := by
    intro N2
    induction N2 with
    | zero =>
      intro l1_2 G_2 H locs ls hF_2 pa I2_0 I2_1 hm2
      exact absurd hm2 (z_X10_askAtOnce_1 l1_2.toInt (xr l1_2))
    | succ N2 ih2 =>
      intro l1_2 G_2 H locs ls hF_2 pa I2_0 I2_1 hm2 hT hS hl
      refine lv_iload_n hx hb dX10_askAtOnce_2 rfl (lv_at hl 1 rfl) ?_
      refine lv_aload_n hx hb dX10_askAtOnce_3 rfl (lv_at hl 0 rfl) ?_
      refine gX10_9 S hK hT ha kf_X10_61 dX10_askAtOnce_4 (fun _ _ => ?_)
      refine x_clp (x_runV (b := (F a 9)) (As := []) (rest := [.int l1_2]) S (c_X4_size l E K F G_2 H (F a 9) hk9999b) mv_X4_size km_X10_232 rfl rfl ⟨Nat.le_of_ble_eq_true rfl, Nat.le_of_ble_eq_true rfl⟩ (rc_6 hK hT hk9999b) hK (fun _ => XPh.blind) (fun U hU hW => XPh.at hK hz hS hT hU hW) rfl hl.1 (Nat.le_of_ble_eq_true rfl) dX10_askAtOnce_7 ⟨Nat.le_of_ble_eq_true rfl, Nat.le_of_ble_eq_true rfl⟩) hS ?_
      rintro _ _ locs ⟨x7, rfl, t7⟩ hS
      have t7 : x7.toInt = ((G.1 (F a 9) 6).toInt) := by rw [(show (G_2.1 (F a 9) 6).toInt = ((G.1 (F a 9) 6).toInt) from (congrArg Int32.toInt (hF_2.1 _ _ xn0)).trans (rfl : Int32.toInt (G.1 (F a 9) 6) = ((G.1 (F a 9) 6).toInt)))] at t7; exact t7
      refine xi_cge (tgt := 65) hx hb (rfl : Int32.toInt l1_2 = l1_2.toInt) (t7 : Int32.toInt x7 = ((G.1 (F a 9) 6).toInt)) dX10_askAtOnce_10 (by decide) (fun c10 => ?_) (fun c10 => ?_)
      · refine lv_iconst (v := 1) hx hb dX10_askAtOnce_65 (by decide) ?_
        exact x_rz hx hb hr (xnz (Or.inr rfl)) hlk hQ (Nat.le_of_ble_eq_true rfl) (Nat.le_of_ble_eq_true rfl) hS dX10_askAtOnce_66 G_2 ⟨_, rfl, (Or.inr rfl), (XFr.call XFr.rf hF_2 xm0 (xm1 0 rfl xm0) xm0), (v_X10_askAtOnce_66_1 (K := K) (F := F) a G l1_2 N2 ha pa s0 I2_0 I2_1 hm2 c10)⟩ hT
      · refine lv_aload_n hx hb dX10_askAtOnce_13 rfl (lv_at hl 0 rfl) ?_
        refine gX10_9 S hK hT ha kf_X10_61 dX10_askAtOnce_14 (fun _ _ => ?_)
        refine lv_iload_n hx hb dX10_askAtOnce_17 rfl (lv_at hl 1 rfl) ?_
        refine x_clp (x_runV (b := (F a 9)) (As := [.int l1_2]) (rest := []) S (c_X4_isLate l E K F G_2 H (F a 9) l1_2 hk9999b) mv_X4_isLate km_X10_404 rfl rfl ⟨Nat.le_of_ble_eq_true rfl, Nat.le_of_ble_eq_true rfl⟩ (rc_6 hK hT hk9999b) hK (fun _ => XPh.blind) (fun U hU hW => XPh.at hK hz hS hT hU hW) rfl hl.1 (Nat.le_of_ble_eq_true rfl) dX10_askAtOnce_18 ⟨Nat.le_of_ble_eq_true rfl, Nat.le_of_ble_eq_true rfl⟩) hS ?_
        rintro _ _ locs ⟨x18, rfl, b18, t18⟩ hS
        have t18 : ((0 ≤ l1_2.toInt ∧ l1_2.toInt < ((G.1 (F a 9) 6).toInt) ∧ l1_2.toInt < 1080) ∧ x18.toInt = (aI (G.2.1 (F (F a 9) 4)) (l1_2.toInt))) ∨ (¬ (0 ≤ l1_2.toInt ∧ l1_2.toInt < ((G.1 (F a 9) 6).toInt) ∧ l1_2.toInt < 1080) ∧ x18.toInt = 0) := by rw [(show (G_2.1 (F a 9) 6).toInt = ((G.1 (F a 9) 6).toInt) from (congrArg Int32.toInt (hF_2.1 _ _ xn0)).trans (rfl : Int32.toInt (G.1 (F a 9) 6) = ((G.1 (F a 9) 6).toInt)))] at t18; rw [(show G_2.2.1 (F (F a 9) 4) = G.2.1 (F (F a 9) 4) from (hF_2.2.1 _ (xn1 (xne_k hk9999c hk9999a (by decide)) xn0)))] at t18; exact t18
        refine xi_zeq (tgt := 27) hx hb (rfl : Int32.toInt x18 = x18.toInt) dX10_askAtOnce_21 (by decide) (fun c21 => ?_) (fun c21 => ?_)
        · refine lv_aload_n hx hb dX10_askAtOnce_27 rfl (lv_at hl 0 rfl) ?_
          refine gX10_16 S hK hT ha kf_X10_99 dX10_askAtOnce_28 (fun _ _ => ?_)
          refine lv_iconst (v := 0) hx hb dX10_askAtOnce_31 (by decide) ?_
          refine lv_dup2_11 hx hb dX10_askAtOnce_32 rfl rfl ?_
          refine al_0 S hK hT hk9999a ar_27 (by decide) (by decide) dX10_askAtOnce_33 (fun x33 hv33 o33 => ?_)
          have hv33 : x33.toInt = (aI (G_2.2.1 (F a 16)) 0) := hv33.trans (by rw [((by decide) : Int32.toInt 0 = (0 : Int))])
          refine lv_iconst (v := 1) hx hb dX10_askAtOnce_34 (by decide) ?_
          refine xi_iadd hx hb (hv33 : Int32.toInt x33 = (aI (G_2.2.1 (F a 16)) 0)) ((by decide) : Int32.toInt 1 = (1 : Int)) dX10_askAtOnce_35 (fun x35 t35 => ?_)
          refine as_0 (x := x35) S hK hT hS hk9999a ar_27 aw_27 (by decide) (by decide) dX10_askAtOnce_36 (fun H locs hT hS => ?_)
          obtain ⟨G36, hG36⟩ : ∃ GG : XG, GG = cput G_2 (F a 16) (0 : Int32).toNatClampNeg x35 := ⟨_, rfl⟩
          rw [← hG36] at hT
          refine lv_aload_n hx hb dX10_askAtOnce_37 rfl (lv_at hl 0 rfl) ?_
          refine gX10_9 S hK hT ha kf_X10_61 dX10_askAtOnce_38 (fun _ _ => ?_)
          refine lv_iload_n hx hb dX10_askAtOnce_41 rfl (lv_at hl 1 rfl) ?_
          refine x_clp (x_runV (b := (F a 9)) (As := [.int l1_2]) (rest := []) S (c_X4_fails l E K F G36 H (F a 9) l1_2 hk9999b) mv_X4_fails km_X10_309 rfl rfl ⟨Nat.le_of_ble_eq_true rfl, Nat.le_of_ble_eq_true rfl⟩ (rc_6 hK hT hk9999b) hK (fun _ => XPh.blind) (fun U hU hW => XPh.at hK hz hS hT hU hW) rfl hl.1 (Nat.le_of_ble_eq_true rfl) dX10_askAtOnce_42 ⟨Nat.le_of_ble_eq_true rfl, Nat.le_of_ble_eq_true rfl⟩) hS ?_
          rintro _ _ locs ⟨x42, rfl, b42, t42⟩ hS
          have t42 : ((0 ≤ l1_2.toInt ∧ l1_2.toInt < ((G.1 (F a 9) 6).toInt) ∧ l1_2.toInt < 1080) ∧ x42.toInt = (aI (G.2.1 (F (F a 9) 5)) (l1_2.toInt))) ∨ (¬ (0 ≤ l1_2.toInt ∧ l1_2.toInt < ((G.1 (F a 9) 6).toInt) ∧ l1_2.toInt < 1080) ∧ x42.toInt = 0) := by rw [(show (G36.1 (F a 9) 6).toInt = ((G.1 (F a 9) 6).toInt) from (congrArg Int32.toInt ((lc_d hG36).trans (hF_2.1 _ _ xn0))).trans (rfl : Int32.toInt (G.1 (F a 9) 6) = ((G.1 (F a 9) 6).toInt)))] at t42; rw [(show G36.2.1 (F (F a 9) 5) = G.2.1 (F (F a 9) 5) from ((lc_c hG36 (xne_k hk9999d hk9999a (by decide))).trans (hF_2.2.1 _ (xn1 (xne_k hk9999d hk9999a (by decide)) xn0))))] at t42; exact t42
          refine xi_zeq (tgt := 59) hx hb (rfl : Int32.toInt x42 = x42.toInt) dX10_askAtOnce_45 (by decide) (fun c45 => ?_) (fun c45 => ?_)
          · refine xi_iinc (n := 1) (lv' := fun z9 => [(1, .int z9), (0, .ref a)]) (k := 1) hx hb (rfl : Int32.toInt l1_2 = l1_2.toInt) (by decide) dX10_askAtOnce_59 hl rfl (by decide) (fun _ => rfl) (fun x59 ls t59 hl => ?_)
            have e59 : x59.toInt = (l1_2.toInt + 1) := (z_X10_askAtOnce_2 l1_2.toInt x59.toInt ((G.1 (F a 9) 6).toInt) s0 I2_0 t59)
            have hl : lv_has ls 2 [(1, .int x59), (0, .ref a)] := hl
            refine lv_goto (tgt := 2) hx hb dX10_askAtOnce_62 (by decide) ?_
            exact ih2 x59 G36 _ _ _ (by rw [hG36]; exact XFr.cput (XFr.call XFr.rf hF_2 xm0 (xm1 0 rfl xm0) xm0) (List.mem_of_getElem? (i := 0) rfl)) (by rw [(e59 : Int32.toInt x59 = (l1_2.toInt + 1))] <;> exact (v_X10_askAtOnce_62_2 (K := K) (F := F) a G l1_2 N2 x18 x42 ha pa s0 I2_0 I2_1 hm2 c10 t18 (xzi b18) c21 t42 (xzi b42) c45)) (by rw [(e59 : Int32.toInt x59 = (l1_2.toInt + 1))] <;> exact (z_X10_askAtOnce_3 l1_2.toInt ((G.1 (F a 9) 6).toInt) I2_0 c10)) (by rw [(e59 : Int32.toInt x59 = (l1_2.toInt + 1))] <;> exact (z_X10_askAtOnce_4 l1_2.toInt ((G.1 (F a 9) 6).toInt) I2_0)) (by rw [(e59 : Int32.toInt x59 = (l1_2.toInt + 1))] <;> exact (z_X10_askAtOnce_5 l1_2.toInt N2 hm2)) hT hS (lv_sub hl [1, 0] rfl)
          · refine lv_aload_n hx hb dX10_askAtOnce_48 rfl (lv_at hl 0 rfl) ?_
            refine lv_aload_n hx hb dX10_askAtOnce_49 rfl (lv_at hl 0 rfl) ?_
            refine gX10_9 S hK hT ha kf_X10_61 dX10_askAtOnce_50 (fun _ _ => ?_)
            refine lv_iload_n hx hb dX10_askAtOnce_53 rfl (lv_at hl 1 rfl) ?_
            refine x_cv (x_runV (b := a) (As := [.ref (F a 9), .int l1_2]) (rest := []) S (c_X10_tellVerdict l E K F G36 a (F a 9) l1_2 ha hk9999b) mv_X10_tellVerdict km_X10_247 rfl rfl ⟨Nat.le_of_ble_eq_true rfl, Nat.le_of_ble_eq_true rfl⟩ (rc_12 hK hT ha) hK (fun _ => XP.blind) (fun U hU hW => XP.at hK hz hS hT hU hW) rfl hl.1 (Nat.le_of_ble_eq_true rfl) dX10_askAtOnce_54 ⟨Nat.le_of_ble_eq_true rfl, Nat.le_of_ble_eq_true rfl⟩) hS ?_
            rintro G54 H locs hF54 hT hS
            refine lv_iconst (v := 0) hx hb dX10_askAtOnce_57 (by decide) ?_
            exact x_rz hx hb hr (xnz (Or.inl rfl)) hlk hQ (Nat.le_of_ble_eq_true rfl) (Nat.le_of_ble_eq_true rfl) hS dX10_askAtOnce_58 G54 ⟨_, rfl, (Or.inl rfl), (XFr.call (by rw [hG36]; exact XFr.cput (XFr.call XFr.rf hF_2 xm0 (xm1 0 rfl xm0) xm0) (List.mem_of_getElem? (i := 0) rfl)) hF54 (xm1 0 rfl (xm1 1 rfl (xm1 2 rfl xm0))) xm0 xm0), (v_X10_askAtOnce_58_3 (K := K) (F := F) a G l1_2 N2 x18 x42 ha pa s0 I2_0 I2_1 hm2 c10 t18 (xzi b18) c21 t42 (xzi b42) c45)⟩ hT
        · refine lv_goto (tgt := 59) hx hb dX10_askAtOnce_24 (by decide) ?_
          refine xi_iinc (n := 1) (lv' := fun z9 => [(1, .int z9), (0, .ref a)]) (k := 1) hx hb (rfl : Int32.toInt l1_2 = l1_2.toInt) (by decide) dX10_askAtOnce_59 hl rfl (by decide) (fun _ => rfl) (fun x59 ls t59 hl => ?_)
          have e59 : x59.toInt = (l1_2.toInt + 1) := (z_X10_askAtOnce_2 l1_2.toInt x59.toInt ((G.1 (F a 9) 6).toInt) s0 I2_0 t59)
          have hl : lv_has ls 2 [(1, .int x59), (0, .ref a)] := hl
          refine lv_goto (tgt := 2) hx hb dX10_askAtOnce_62 (by decide) ?_
          exact ih2 x59 G_2 _ _ _ (XFr.call XFr.rf hF_2 xm0 (xm1 0 rfl xm0) xm0) (by rw [(e59 : Int32.toInt x59 = (l1_2.toInt + 1))] <;> exact (v_X10_askAtOnce_62_4 (K := K) (F := F) a G l1_2 N2 x18 ha pa s0 I2_0 I2_1 hm2 c10 t18 (xzi b18) c21)) (by rw [(e59 : Int32.toInt x59 = (l1_2.toInt + 1))] <;> exact (z_X10_askAtOnce_3 l1_2.toInt ((G.1 (F a 9) 6).toInt) I2_0 c10)) (by rw [(e59 : Int32.toInt x59 = (l1_2.toInt + 1))] <;> exact (z_X10_askAtOnce_4 l1_2.toInt ((G.1 (F a 9) 6).toInt) I2_0)) (by rw [(e59 : Int32.toInt x59 = (l1_2.toInt + 1))] <;> exact (z_X10_askAtOnce_5 l1_2.toInt N2 hm2)) hT hS (lv_sub hl [1, 0] rfl)
  exact L2 4294967297 0 G _ _ _ XFr.rf (v_X10_askAtOnce_1_5 (K := K) (F := F) a G ha s0) (z_X10_askAtOnce_10 ((G.1 (F a 9) 6).toInt) s0) (by decide) (by decide) hT hS (lv_sub hl [1, 0] rfl)

theorem z_X10_askToCommit_2 (a0 : Int) (a1 : Int) (a2 : Int) (h0 : 0 ≤ a1 ∧ a1 ≤ 1080) (h1 : 0 ≤ a0 ∧ a0 ≤ a1) (h2 : 0 ≤ a2 ∧ a2 ≤ a0) : 0 ≤ a2 ∧ a2 ≤ 1080 := by omega
theorem z_X10_askToCommit_3 (a0 : Int) (a1 : Int) (a2 : Int) (h0 : 0 ≤ a1 ∧ a1 ≤ 1080) (h1 : 0 ≤ a2 ∧ a2 ≤ a0) (h2 : ¬ (a1 ≤ a0)) : 0 ≤ a2 ∧ a2 < 1080 := by omega
theorem z_X10_askToCommit_4 (a0 : Int) (a1 : Int) (h0 : 0 ≤ a1 ∧ a1 ≤ 1080) (h1 : 0 ≤ a0 ∧ a0 ≤ a1) (h2 : ¬ (a1 ≤ a0)) : 0 ≤ a0 ∧ a0 < a1 ∧ a1 ≤ 1080 := by omega
theorem z_X10_askToCommit_7 (a0 : Int) (a1 : Int) (a2 : Int) (h0 : 0 ≤ a2 ∧ a2 ≤ a0) (h1 : a1 = a2 + 1) : 0 ≤ a1 ∧ a1 ≤ (a0 + 1) := by omega
theorem z_X10_askToCommit_10 (a0 : Int) (a1 : Int) (a2 : Int) (a3 : Int) (h0 : 0 ≤ a1 ∧ a1 ≤ 1080) (h1 : 0 ≤ a3 ∧ a3 ≤ a0) (h2 : ¬ (a1 ≤ a0)) (h3 : a2 = a3 + 1) : 0 ≤ a2 ∧ a2 ≤ 1080 := by omega
theorem z_X10_askToCommit_13 (a0 : Int) (a1 : Int) (h0 : 0 ≤ a1 ∧ a1 ≤ a0) : 0 ≤ a1 ∧ a1 ≤ (a0 + 1) := by omega
theorem z_X10_askToCommit_17 (a0 : Int) (h0 : a0 = 0) : 0 ≤ a0 ∧ a0 ≤ (0 : Int) := by omega
abbrev rm_X10_askToCommit : Room := { frames := 8, cells := 7, slots := 700, locals := 194 }
set_option maxHeartbeats 4000000 in
set_option maxRecDepth 100000 in
theorem c_X10_askToCommit (l : Launch) (E : XE) (K : Nat → Nat) (F : Nat → Nat → Nat) (G : XG) (a : Nat) (p0 : Nat) (ha : K a = 12) (hp0 : K p0 = 6) (s0 : 0 ≤ ((G.1 p0 6).toInt) ∧ ((G.1 p0 6).toInt) ≤ 1080) (hn : F p0 99 ≠ 2) : Met l yX10_askToCommit (xw yX10_askToCommit cX10_askToCommit 3 (some .boolean)) rm_X10_askToCommit (va_Pc [.ref a, .ref p0] (XP E K F G)) (XQ E (fun v (u : XG) => ∃ r : Int32, v = .int r ∧ (r = 0 ∨ r = 1) ∧ XFr [(F a 14, 1), (F a 14, 2), (F a 14, 3), (F a 10, 6)] [F a 16, F (F a 10) 0, F (F a 10) 1, F (F a 10) 2, F (F a 10) 3, F (F a 10) 4, F (F a 10) 5] [] G u ∧ (0 ≤ ((u.1 (F a 10) 6).toInt) ∧ ((u.1 (F a 10) 6).toInt) ≤ 1080) ∧ ((r.toInt = 1 ∧ ∀ x, x ∈ qL G F p0 → x.2.2.2.2.1 ≠ 0 → x.2.2.2.2.2 = 0) ∨ (r.toInt = 0 ∧ ∃ x, x ∈ qL G F p0 ∧ x.2.2.2.2.1 ≠ 0 ∧ x.2.2.2.2.2 ≠ 0)) ∧ (AskR (qL G F p0) (qL u F (F a 10)) r.toInt)) (fun u H => TW E K F u H)) 7 700 (xA E) := by
  refine x_enter (by decide) (Nat.le_of_ble_eq_true rfl) ?_
  intro p e s m args below meth c Q S hr hlk hnm hQ hP ls hl
  obtain ⟨hz, hK, hT⟩ := hP
  obtain ⟨hx, hb, -, -, -⟩ := id S
  obtain ⟨H, hT, hS, hgo⟩ : ∃ H : Heap, TW E K F G H ∧ va_S (xA E) s.heap H [] ∧ H = s.heap := ⟨_, hT, va_S.rf, rfl⟩
  rw [← hgo]
  have hl : lv_has ls 3 [(0, .ref a), (1, .ref p0)] := hl
  obtain ⟨hk9999, hj9999⟩ := fkX10_14 hT ha
  obtain ⟨hk9999a, hj9999a⟩ := fkX10_10 hT ha
  obtain ⟨hk9999b, hj9999b⟩ := fkX10_16 hT ha
  obtain ⟨hk9999c, hj9999c⟩ := fkX4_0 hT hk9999a
  have hj9999d : F (F (F a 10) 0) 99 = 10 * 2 + 0 := by rw [hj9999c, hj9999a]
  obtain ⟨hk9999d, hj9999e⟩ := fkX4_1 hT hk9999a
  have hj9999f : F (F (F a 10) 1) 99 = 10 * 2 + 1 := by rw [hj9999e, hj9999a]
  obtain ⟨hk9999e, hj9999g⟩ := fkX4_2 hT hk9999a
  have hj9999h : F (F (F a 10) 2) 99 = 10 * 2 + 2 := by rw [hj9999g, hj9999a]
  obtain ⟨hk9999f, hj9999i⟩ := fkX4_3 hT hk9999a
  have hj9999j : F (F (F a 10) 3) 99 = 10 * 2 + 3 := by rw [hj9999i, hj9999a]
  obtain ⟨hk9999g, hj9999k⟩ := fkX4_4 hT hk9999a
  have hj9999l : F (F (F a 10) 4) 99 = 10 * 2 + 4 := by rw [hj9999k, hj9999a]
  obtain ⟨hk9999h, hj9999m⟩ := fkX4_5 hT hk9999a
  have hj9999n : F (F (F a 10) 5) 99 = 10 * 2 + 5 := by rw [hj9999m, hj9999a]
  obtain ⟨hk9999i, hj9999o⟩ := fkX4_0 hT hp0
  obtain ⟨hk9999j, hj9999p⟩ := fkX4_1 hT hp0
  obtain ⟨hk9999k, hj9999q⟩ := fkX4_2 hT hp0
  obtain ⟨hk9999l, hj9999r⟩ := fkX4_3 hT hp0
  obtain ⟨hk9999m, hj9999s⟩ := fkX4_4 hT hp0
  obtain ⟨hk9999n, hj9999t⟩ := fkX4_5 hT hp0
  refine lv_aload_n hx hb dX10_askToCommit_0 rfl (lv_at hl 0 rfl) ?_
  refine gX10_10 S hK hT ha kf_X10_64 dX10_askToCommit_1 (fun _ _ => ?_)
  refine x_cv0 (x_runV (b := (F a 10)) (As := []) (rest := []) S (c_X4_clear l E K F G (F a 10) hk9999a) mv_X4_clear km_X10_386 rfl rfl ⟨Nat.le_of_ble_eq_true rfl, Nat.le_of_ble_eq_true rfl⟩ (rc_6 hK hT hk9999a) hK (fun _ => XP.blind) (fun U hU hW => XP.at hK hz hS hT hU hW) rfl hl.1 (Nat.le_of_ble_eq_true rfl) dX10_askToCommit_4 ⟨Nat.le_of_ble_eq_true rfl, Nat.le_of_ble_eq_true rfl⟩) hS ?_
  rintro G4 H locs ⟨hF4, t4⟩ hT hS
  have t4 : ((G4.1 (F a 10) 6).toInt) = 0 := t4
  refine lv_iconst (v := 0) hx hb dX10_askToCommit_7 (by decide) ?_
  refine lv_istore_n (lv' := [(2, .int 0), (0, .ref a), (1, .ref p0)]) hx hb dX10_askToCommit_8 rfl hl (by decide) rfl (fun ls hl => ?_)
  have L9 : ∀ (N9 : Nat) (l2_9 : Int32) (G_9 : XG) (H : Heap) (locs : List Loc) (ls : Array Slot), XFr [(F a 10, 6)] [F a 16, F (F a 10) 0, F (F a 10) 1, F (F a 10) 2, F (F a 10) 3, F (F a 10) 4, F (F a 10) 5] [] G4 G_9 → (∀ j : Int, 0 ≤ j → j < l2_9.toInt → aI (G.2.1 (F p0 4)) j ≠ 0 → aI (G.2.1 (F p0 5)) j = 0) → qL G_9 F (F a 10) = ltF (qP G F p0 (l2_9.toInt).toNat) → 0 ≤ l2_9.toInt ∧ l2_9.toInt ≤ ((G.1 p0 6).toInt) → 0 ≤ ((G_9.1 (F a 10) 6).toInt) ∧ ((G_9.1 (F a 10) 6).toInt) ≤ l2_9.toInt → (0 : Int) ≤ l2_9.toInt → 2147483648 - l2_9.toInt < ((N9 : Nat) : Int) → TW E K F G_9 H → va_S (xA E) s.heap H locs → lv_has ls 3 [(0, .ref a), (1, .ref p0), (2, .int l2_9)] → W p l e rm_X10_askToCommit s m args below meth c H locs 0 0 Q (F0 m 9 ls []) := by
    intro N9
    induction N9 with
    | zero =>
      intro l2_9 G_9 H locs ls hF_9 pa pl I9_0 I9_1 I9_2 hm9
      exact absurd hm9 (z_X10_askAtOnce_1 l2_9.toInt (xr l2_9))
    | succ N9 ih9 =>
      intro l2_9 G_9 H locs ls hF_9 pa pl I9_0 I9_1 I9_2 hm9 hT hS hl
      refine lv_iload_n hx hb dX10_askToCommit_9 rfl (lv_at hl 2 rfl) ?_
      refine lv_aload_n hx hb dX10_askToCommit_10 rfl (lv_at hl 1 rfl) ?_
      refine x_clp (x_runV (b := p0) (As := []) (rest := [.int l2_9]) S (c_X4_size l E K F G_9 H p0 hp0) mv_X4_size km_X10_232 rfl rfl ⟨Nat.le_of_ble_eq_true rfl, Nat.le_of_ble_eq_true rfl⟩ (rc_6 hK hT hp0) hK (fun _ => XPh.blind) (fun U hU hW => XPh.at hK hz hS hT hU hW) rfl hl.1 (Nat.le_of_ble_eq_true rfl) dX10_askToCommit_11 ⟨Nat.le_of_ble_eq_true rfl, Nat.le_of_ble_eq_true rfl⟩) hS ?_
      rintro _ _ locs ⟨x11, rfl, t11⟩ hS
      have t11 : x11.toInt = ((G.1 p0 6).toInt) := by rw [(show (G_9.1 p0 6).toInt = ((G.1 p0 6).toInt) from (congrArg Int32.toInt ((hF_9.1 _ _ (xna (xne_j rfl hj9999a (by first | decide | omega)) xn0)).trans (hF4.1 _ _ (xna (xne_j rfl hj9999a (by first | decide | omega)) xn0)))).trans (rfl : Int32.toInt (G.1 p0 6) = ((G.1 p0 6).toInt)))] at t11; exact t11
      refine xi_cge (tgt := 79) hx hb (rfl : Int32.toInt l2_9 = l2_9.toInt) (t11 : Int32.toInt x11 = ((G.1 p0 6).toInt)) dX10_askToCommit_14 (by decide) (fun c14 => ?_) (fun c14 => ?_)
      · refine lv_aload_n hx hb dX10_askToCommit_79 rfl (lv_at hl 0 rfl) ?_
        refine gX10_16 S hK hT ha kf_X10_99 dX10_askToCommit_80 (fun _ _ => ?_)
        refine lv_iconst (v := 1) hx hb dX10_askToCommit_83 (by decide) ?_
        refine lv_dup2_11 hx hb dX10_askToCommit_84 rfl rfl ?_
        refine al_0 S hK hT hk9999b ar_27 (by decide) (by decide) dX10_askToCommit_85 (fun x85 hv85 o85 => ?_)
        have hv85 : x85.toInt = (aI (G_9.2.1 (F a 16)) 1) := hv85.trans (by rw [((by decide) : Int32.toInt 1 = (1 : Int))])
        refine lv_iconst (v := 1) hx hb dX10_askToCommit_86 (by decide) ?_
        refine xi_iadd hx hb (hv85 : Int32.toInt x85 = (aI (G_9.2.1 (F a 16)) 1)) ((by decide) : Int32.toInt 1 = (1 : Int)) dX10_askToCommit_87 (fun x87 t87 => ?_)
        refine as_0 (x := x87) S hK hT hS hk9999b ar_27 aw_27 (by decide) (by decide) dX10_askToCommit_88 (fun H locs hT hS => ?_)
        obtain ⟨G88, hG88⟩ : ∃ GG : XG, GG = cput G_9 (F a 16) (1 : Int32).toNatClampNeg x87 := ⟨_, rfl⟩
        rw [← hG88] at hT
        refine lv_iconst (v := 1) hx hb dX10_askToCommit_89 (by decide) ?_
        exact x_rz hx hb hr (xnz (Or.inr rfl)) hlk hQ (Nat.le_of_ble_eq_true rfl) (Nat.le_of_ble_eq_true rfl) hS dX10_askToCommit_90 G88 ⟨_, rfl, (Or.inr rfl), (by rw [hG88]; exact XFr.cput (XFr.call (XFr.call XFr.rf hF4 (xm1 3 rfl xm0) xm0 xm0) hF_9 (xm1 3 rfl xm0) (xm1 0 rfl (xm1 1 rfl (xm1 2 rfl (xm1 3 rfl (xm1 4 rfl (xm1 5 rfl (xm1 6 rfl xm0))))))) xm0) (List.mem_of_getElem? (i := 0) rfl)), (by rw [(show (G88.1 (F a 10) 6).toInt = ((G_9.1 (F a 10) 6).toInt) from (congrArg Int32.toInt (lc_d hG88)).trans (rfl : Int32.toInt (G_9.1 (F a 10) 6) = ((G_9.1 (F a 10) 6).toInt)))] <;> exact (z_X10_askToCommit_2 l2_9.toInt ((G.1 p0 6).toInt) ((G_9.1 (F a 10) 6).toInt) s0 I9_0 I9_1)), (v_X10_askToCommit_90_1 (K := K) (F := F) a p0 G G4 G_9 l2_9 N9 ha hp0 hn pa s0 t4 I9_0 I9_1 I9_2 hm9 c14), (v_X10_askToCommit_90_2 (K := K) (F := F) a p0 G G4 G_9 G88 l2_9 N9 ha hp0 hn pl s0 t4 I9_0 I9_1 I9_2 hm9 c14 (lc_c hG88 (xne_k hk9999c hk9999b (by decide))) (lc_c hG88 (xne_k hk9999d hk9999b (by decide))) (lc_c hG88 (xne_k hk9999e hk9999b (by decide))) (lc_c hG88 (xne_k hk9999f hk9999b (by decide))) (lc_c hG88 (xne_k hk9999g hk9999b (by decide))) (lc_c hG88 (xne_k hk9999h hk9999b (by decide))) (lc_d hG88))⟩ hT
      · refine lv_aload_n hx hb dX10_askToCommit_17 rfl (lv_at hl 1 rfl) ?_
        refine lv_iload_n hx hb dX10_askToCommit_18 rfl (lv_at hl 2 rfl) ?_
        refine x_clp (x_runV (b := p0) (As := [.int l2_9]) (rest := []) S (c_X4_isLate l E K F G_9 H p0 l2_9 hp0) mv_X4_isLate km_X10_404 rfl rfl ⟨Nat.le_of_ble_eq_true rfl, Nat.le_of_ble_eq_true rfl⟩ (rc_6 hK hT hp0) hK (fun _ => XPh.blind) (fun U hU hW => XPh.at hK hz hS hT hU hW) rfl hl.1 (Nat.le_of_ble_eq_true rfl) dX10_askToCommit_19 ⟨Nat.le_of_ble_eq_true rfl, Nat.le_of_ble_eq_true rfl⟩) hS ?_
        rintro _ _ locs ⟨x19, rfl, b19, t19⟩ hS
        have t19 : ((0 ≤ l2_9.toInt ∧ l2_9.toInt < ((G.1 p0 6).toInt) ∧ l2_9.toInt < 1080) ∧ x19.toInt = (aI (G.2.1 (F p0 4)) (l2_9.toInt))) ∨ (¬ (0 ≤ l2_9.toInt ∧ l2_9.toInt < ((G.1 p0 6).toInt) ∧ l2_9.toInt < 1080) ∧ x19.toInt = 0) := by rw [(show (G_9.1 p0 6).toInt = ((G.1 p0 6).toInt) from (congrArg Int32.toInt ((hF_9.1 _ _ (xna (xne_j rfl hj9999a (by first | decide | omega)) xn0)).trans (hF4.1 _ _ (xna (xne_j rfl hj9999a (by first | decide | omega)) xn0)))).trans (rfl : Int32.toInt (G.1 p0 6) = ((G.1 p0 6).toInt)))] at t19; rw [(show G_9.2.1 (F p0 4) = G.2.1 (F p0 4) from ((hF_9.2.1 _ (xn1 (xne_k hk9999m hk9999b (by decide)) (xn1 (xne_k hk9999m hk9999c (by decide)) (xn1 (xne_k hk9999m hk9999d (by decide)) (xn1 (xne_k hk9999m hk9999e (by decide)) (xn1 (xne_k hk9999m hk9999f (by decide)) (xn1 (xne_j hj9999s hj9999l (by first | decide | omega)) (xn1 (xne_j hj9999s hj9999n (by first | decide | omega)) xn0)))))))).trans (hF4.2.1 _ xn0)))] at t19; exact t19
        refine xi_zne (tgt := 28) hx hb (rfl : Int32.toInt x19 = x19.toInt) dX10_askToCommit_22 (by decide) (fun c22 => ?_) (fun c22 => ?_)
        · refine lv_aload_n hx hb dX10_askToCommit_28 rfl (lv_at hl 0 rfl) ?_
          refine gX10_16 S hK hT ha kf_X10_99 dX10_askToCommit_29 (fun _ _ => ?_)
          refine lv_iconst (v := 0) hx hb dX10_askToCommit_32 (by decide) ?_
          refine lv_dup2_11 hx hb dX10_askToCommit_33 rfl rfl ?_
          refine al_0 S hK hT hk9999b ar_27 (by decide) (by decide) dX10_askToCommit_34 (fun x34 hv34 o34 => ?_)
          have hv34 : x34.toInt = (aI (G_9.2.1 (F a 16)) 0) := hv34.trans (by rw [((by decide) : Int32.toInt 0 = (0 : Int))])
          refine lv_iconst (v := 1) hx hb dX10_askToCommit_35 (by decide) ?_
          refine xi_iadd hx hb (hv34 : Int32.toInt x34 = (aI (G_9.2.1 (F a 16)) 0)) ((by decide) : Int32.toInt 1 = (1 : Int)) dX10_askToCommit_36 (fun x36 t36 => ?_)
          refine as_0 (x := x36) S hK hT hS hk9999b ar_27 aw_27 (by decide) (by decide) dX10_askToCommit_37 (fun H locs hT hS => ?_)
          obtain ⟨G37, hG37⟩ : ∃ GG : XG, GG = cput G_9 (F a 16) (0 : Int32).toNatClampNeg x36 := ⟨_, rfl⟩
          rw [← hG37] at hT
          refine lv_aload_n hx hb dX10_askToCommit_38 rfl (lv_at hl 0 rfl) ?_
          refine gX10_10 S hK hT ha kf_X10_64 dX10_askToCommit_39 (fun _ _ => ?_)
          refine lv_aload_n hx hb dX10_askToCommit_42 rfl (lv_at hl 1 rfl) ?_
          refine lv_iload_n hx hb dX10_askToCommit_43 rfl (lv_at hl 2 rfl) ?_
          refine x_cv0 (x_runV (b := (F a 10)) (As := [.ref p0, .int l2_9]) (rest := []) S (c_X4_take l E K F G37 (F a 10) p0 l2_9 hk9999a hp0 (by rw [(show (G37.1 (F a 10) 6).toInt = ((G_9.1 (F a 10) 6).toInt) from (congrArg Int32.toInt (lc_d hG37)).trans (rfl : Int32.toInt (G_9.1 (F a 10) 6) = ((G_9.1 (F a 10) 6).toInt)))] <;> exact (z_X10_askToCommit_3 l2_9.toInt ((G.1 p0 6).toInt) ((G_9.1 (F a 10) 6).toInt) s0 I9_1 c14)) (by rw [(show (G37.1 p0 6).toInt = ((G.1 p0 6).toInt) from (congrArg Int32.toInt ((lc_d hG37).trans ((hF_9.1 _ _ (xna (xne_j rfl hj9999a (by first | decide | omega)) xn0)).trans (hF4.1 _ _ (xna (xne_j rfl hj9999a (by first | decide | omega)) xn0))))).trans (rfl : Int32.toInt (G.1 p0 6) = ((G.1 p0 6).toInt)))] <;> exact (z_X10_askToCommit_4 l2_9.toInt ((G.1 p0 6).toInt) s0 I9_0 c14)) (v_X10_askToCommit_44_3 (K := K) (F := F) a p0 G G4 G_9 l2_9 N9 x19 ha hp0 hk9999 hj9999 hk9999a hj9999a hk9999b hj9999b hk9999c hj9999d hk9999d hj9999f hk9999e hj9999h hk9999f hj9999j hk9999g hj9999l hk9999h hj9999n hk9999i hj9999o hk9999j hj9999p hk9999k hj9999q hk9999l hj9999r hk9999m hj9999s hk9999n hj9999t hn s0 t4 I9_0 I9_1 I9_2 hm9 c14 t19 (xzi b19) c22)) mv_X4_take km_X10_407 rfl rfl ⟨Nat.le_of_ble_eq_true rfl, Nat.le_of_ble_eq_true rfl⟩ (rc_6 hK hT hk9999a) hK (fun _ => XP.blind) (fun U hU hW => XP.at hK hz hS hT hU hW) rfl hl.1 (Nat.le_of_ble_eq_true rfl) dX10_askToCommit_44 ⟨Nat.le_of_ble_eq_true rfl, Nat.le_of_ble_eq_true rfl⟩) hS ?_
          rintro G44 H locs ⟨hF44, t44, oq44⟩ hT hS
          have t44 : ((G44.1 (F a 10) 6).toInt) = ((G_9.1 (F a 10) 6).toInt) + 1 := by rw [(show (G37.1 (F a 10) 6).toInt = ((G_9.1 (F a 10) 6).toInt) from (congrArg Int32.toInt (lc_d hG37)).trans (rfl : Int32.toInt (G_9.1 (F a 10) 6) = ((G_9.1 (F a 10) 6).toInt)))] at t44; exact t44
          refine lv_aload_n hx hb dX10_askToCommit_47 rfl (lv_at hl 1 rfl) ?_
          refine lv_iload_n hx hb dX10_askToCommit_48 rfl (lv_at hl 2 rfl) ?_
          refine x_clp (x_runV (b := p0) (As := [.int l2_9]) (rest := []) S (c_X4_fails l E K F G44 H p0 l2_9 hp0) mv_X4_fails km_X10_309 rfl rfl ⟨Nat.le_of_ble_eq_true rfl, Nat.le_of_ble_eq_true rfl⟩ (rc_6 hK hT hp0) hK (fun _ => XPh.blind) (fun U hU hW => XPh.at hK hz hS hT hU hW) rfl hl.1 (Nat.le_of_ble_eq_true rfl) dX10_askToCommit_49 ⟨Nat.le_of_ble_eq_true rfl, Nat.le_of_ble_eq_true rfl⟩) hS ?_
          rintro _ _ locs ⟨x49, rfl, b49, t49⟩ hS
          have t49 : ((0 ≤ l2_9.toInt ∧ l2_9.toInt < ((G.1 p0 6).toInt) ∧ l2_9.toInt < 1080) ∧ x49.toInt = (aI (G.2.1 (F p0 5)) (l2_9.toInt))) ∨ (¬ (0 ≤ l2_9.toInt ∧ l2_9.toInt < ((G.1 p0 6).toInt) ∧ l2_9.toInt < 1080) ∧ x49.toInt = 0) := by rw [(show (G44.1 p0 6).toInt = ((G.1 p0 6).toInt) from (congrArg Int32.toInt ((hF44.1 _ _ (xna (xne_j rfl hj9999a (by first | decide | omega)) xn0)).trans ((lc_d hG37).trans ((hF_9.1 _ _ (xna (xne_j rfl hj9999a (by first | decide | omega)) xn0)).trans (hF4.1 _ _ (xna (xne_j rfl hj9999a (by first | decide | omega)) xn0)))))).trans (rfl : Int32.toInt (G.1 p0 6) = ((G.1 p0 6).toInt)))] at t49; rw [(show G44.2.1 (F p0 5) = G.2.1 (F p0 5) from ((hF44.2.1 _ (xn1 (xne_k hk9999n hk9999c (by decide)) (xn1 (xne_k hk9999n hk9999d (by decide)) (xn1 (xne_k hk9999n hk9999e (by decide)) (xn1 (xne_k hk9999n hk9999f (by decide)) (xn1 (xne_j hj9999t hj9999l (by first | decide | omega)) (xn1 (xne_j hj9999t hj9999n (by first | decide | omega)) xn0))))))).trans ((lc_c hG37 (xne_k hk9999n hk9999b (by decide))).trans ((hF_9.2.1 _ (xn1 (xne_k hk9999n hk9999b (by decide)) (xn1 (xne_k hk9999n hk9999c (by decide)) (xn1 (xne_k hk9999n hk9999d (by decide)) (xn1 (xne_k hk9999n hk9999e (by decide)) (xn1 (xne_k hk9999n hk9999f (by decide)) (xn1 (xne_j hj9999t hj9999l (by first | decide | omega)) (xn1 (xne_j hj9999t hj9999n (by first | decide | omega)) xn0)))))))).trans (hF4.2.1 _ xn0)))))] at t49; exact t49
          refine xi_zeq (tgt := 73) hx hb (rfl : Int32.toInt x49 = x49.toInt) dX10_askToCommit_52 (by decide) (fun c52 => ?_) (fun c52 => ?_)
          · refine xi_iinc (n := 1) (lv' := fun z9 => [(2, .int z9), (0, .ref a), (1, .ref p0)]) (k := 2) hx hb (rfl : Int32.toInt l2_9 = l2_9.toInt) (by decide) dX10_askToCommit_73 hl rfl (by decide) (fun _ => rfl) (fun x73 ls t73 hl => ?_)
            have e73 : x73.toInt = (l2_9.toInt + 1) := (z_X10_askAtOnce_2 l2_9.toInt x73.toInt ((G.1 p0 6).toInt) s0 I9_0 t73)
            have hl : lv_has ls 3 [(2, .int x73), (0, .ref a), (1, .ref p0)] := hl
            refine lv_goto (tgt := 9) hx hb dX10_askToCommit_76 (by decide) ?_
            exact ih9 x73 G44 _ _ _ (XFr.call (by rw [hG37]; exact XFr.cput (XFr.call XFr.rf hF_9 (xm1 0 rfl xm0) (xm1 0 rfl (xm1 1 rfl (xm1 2 rfl (xm1 3 rfl (xm1 4 rfl (xm1 5 rfl (xm1 6 rfl xm0))))))) xm0) (List.mem_of_getElem? (i := 0) rfl)) hF44 (xm1 0 rfl xm0) (xm1 1 rfl (xm1 2 rfl (xm1 3 rfl (xm1 4 rfl (xm1 5 rfl (xm1 6 rfl xm0)))))) xm0) (by rw [(e73 : Int32.toInt x73 = (l2_9.toInt + 1))] <;> exact (v_X10_askToCommit_76_4 (K := K) (F := F) a p0 G G4 G_9 G44 l2_9 N9 x19 x49 ha hp0 hn pa s0 t4 I9_0 I9_1 I9_2 hm9 c14 t19 (xzi b19) c22 t44 t49 (xzi b49) c52)) (by rw [(e73 : Int32.toInt x73 = (l2_9.toInt + 1))] <;> exact (v_X10_askToCommit_76_5 (K := K) (F := F) a p0 G G4 G_9 G37 G44 l2_9 N9 x19 x49 ha hp0 hn pl oq44 s0 t4 I9_0 I9_1 I9_2 hm9 c14 t19 (xzi b19) c22 t44 t49 (xzi b49) c52 (lc_c hG37 (xne_k hk9999c hk9999b (by decide))) (lc_c hG37 (xne_k hk9999d hk9999b (by decide))) (lc_c hG37 (xne_k hk9999e hk9999b (by decide))) (lc_c hG37 (xne_k hk9999f hk9999b (by decide))) (lc_c hG37 (xne_k hk9999g hk9999b (by decide))) (lc_c hG37 (xne_k hk9999h hk9999b (by decide))) ((lc_c hG37 (xne_k hk9999i hk9999b (by decide))).trans ((hF_9.2.1 _ (xn1 (xne_k hk9999i hk9999b (by decide)) (xn1 (xne_j hj9999o hj9999d (by first | decide | omega)) (xn1 (xne_j hj9999o hj9999f (by first | decide | omega)) (xn1 (xne_j hj9999o hj9999h (by first | decide | omega)) (xn1 (xne_j hj9999o hj9999j (by first | decide | omega)) (xn1 (xne_k hk9999i hk9999g (by decide)) (xn1 (xne_k hk9999i hk9999h (by decide)) xn0)))))))).trans (hF4.2.1 _ xn0))) ((lc_c hG37 (xne_k hk9999j hk9999b (by decide))).trans ((hF_9.2.1 _ (xn1 (xne_k hk9999j hk9999b (by decide)) (xn1 (xne_j hj9999p hj9999d (by first | decide | omega)) (xn1 (xne_j hj9999p hj9999f (by first | decide | omega)) (xn1 (xne_j hj9999p hj9999h (by first | decide | omega)) (xn1 (xne_j hj9999p hj9999j (by first | decide | omega)) (xn1 (xne_k hk9999j hk9999g (by decide)) (xn1 (xne_k hk9999j hk9999h (by decide)) xn0)))))))).trans (hF4.2.1 _ xn0))) ((lc_c hG37 (xne_k hk9999k hk9999b (by decide))).trans ((hF_9.2.1 _ (xn1 (xne_k hk9999k hk9999b (by decide)) (xn1 (xne_j hj9999q hj9999d (by first | decide | omega)) (xn1 (xne_j hj9999q hj9999f (by first | decide | omega)) (xn1 (xne_j hj9999q hj9999h (by first | decide | omega)) (xn1 (xne_j hj9999q hj9999j (by first | decide | omega)) (xn1 (xne_k hk9999k hk9999g (by decide)) (xn1 (xne_k hk9999k hk9999h (by decide)) xn0)))))))).trans (hF4.2.1 _ xn0))) ((lc_c hG37 (xne_k hk9999l hk9999b (by decide))).trans ((hF_9.2.1 _ (xn1 (xne_k hk9999l hk9999b (by decide)) (xn1 (xne_j hj9999r hj9999d (by first | decide | omega)) (xn1 (xne_j hj9999r hj9999f (by first | decide | omega)) (xn1 (xne_j hj9999r hj9999h (by first | decide | omega)) (xn1 (xne_j hj9999r hj9999j (by first | decide | omega)) (xn1 (xne_k hk9999l hk9999g (by decide)) (xn1 (xne_k hk9999l hk9999h (by decide)) xn0)))))))).trans (hF4.2.1 _ xn0))) ((lc_c hG37 (xne_k hk9999m hk9999b (by decide))).trans ((hF_9.2.1 _ (xn1 (xne_k hk9999m hk9999b (by decide)) (xn1 (xne_k hk9999m hk9999c (by decide)) (xn1 (xne_k hk9999m hk9999d (by decide)) (xn1 (xne_k hk9999m hk9999e (by decide)) (xn1 (xne_k hk9999m hk9999f (by decide)) (xn1 (xne_j hj9999s hj9999l (by first | decide | omega)) (xn1 (xne_j hj9999s hj9999n (by first | decide | omega)) xn0)))))))).trans (hF4.2.1 _ xn0))) ((lc_c hG37 (xne_k hk9999n hk9999b (by decide))).trans ((hF_9.2.1 _ (xn1 (xne_k hk9999n hk9999b (by decide)) (xn1 (xne_k hk9999n hk9999c (by decide)) (xn1 (xne_k hk9999n hk9999d (by decide)) (xn1 (xne_k hk9999n hk9999e (by decide)) (xn1 (xne_k hk9999n hk9999f (by decide)) (xn1 (xne_j hj9999t hj9999l (by first | decide | omega)) (xn1 (xne_j hj9999t hj9999n (by first | decide | omega)) xn0)))))))).trans (hF4.2.1 _ xn0))) (lc_d hG37))) (by rw [(e73 : Int32.toInt x73 = (l2_9.toInt + 1))] <;> exact (z_X10_askAtOnce_3 l2_9.toInt ((G.1 p0 6).toInt) I9_0 c14)) (by rw [(e73 : Int32.toInt x73 = (l2_9.toInt + 1))] <;> exact (z_X10_askToCommit_7 l2_9.toInt ((G44.1 (F a 10) 6).toInt) ((G_9.1 (F a 10) 6).toInt) I9_1 t44)) (by rw [(e73 : Int32.toInt x73 = (l2_9.toInt + 1))] <;> exact (z_X10_askAtOnce_4 l2_9.toInt ((G.1 p0 6).toInt) I9_0)) (by rw [(e73 : Int32.toInt x73 = (l2_9.toInt + 1))] <;> exact (z_X10_askAtOnce_5 l2_9.toInt N9 hm9)) hT hS (lv_sub hl [1, 2, 0] rfl)
          · refine lv_aload_n hx hb dX10_askToCommit_55 rfl (lv_at hl 0 rfl) ?_
            refine lv_aload_n hx hb dX10_askToCommit_56 rfl (lv_at hl 1 rfl) ?_
            refine lv_iload_n hx hb dX10_askToCommit_57 rfl (lv_at hl 2 rfl) ?_
            refine x_cv (x_runV (b := a) (As := [.ref p0, .int l2_9]) (rest := []) S (c_X10_tellVerdict l E K F G44 a p0 l2_9 ha hp0) mv_X10_tellVerdict km_X10_247 rfl rfl ⟨Nat.le_of_ble_eq_true rfl, Nat.le_of_ble_eq_true rfl⟩ (rc_12 hK hT ha) hK (fun _ => XP.blind) (fun U hU hW => XP.at hK hz hS hT hU hW) rfl hl.1 (Nat.le_of_ble_eq_true rfl) dX10_askToCommit_58 ⟨Nat.le_of_ble_eq_true rfl, Nat.le_of_ble_eq_true rfl⟩) hS ?_
            rintro G58 H locs hF58 hT hS
            refine lv_aload_n hx hb dX10_askToCommit_61 rfl (lv_at hl 0 rfl) ?_
            refine gX10_16 S hK hT ha kf_X10_99 dX10_askToCommit_62 (fun _ _ => ?_)
            refine lv_iconst (v := 2) hx hb dX10_askToCommit_65 (by decide) ?_
            refine lv_dup2_11 hx hb dX10_askToCommit_66 rfl rfl ?_
            refine al_0 S hK hT hk9999b ar_27 (by decide) (by decide) dX10_askToCommit_67 (fun x67 hv67 o67 => ?_)
            have hv67 : x67.toInt = (aI (G37.2.1 (F a 16)) 2) := hv67.trans (by rw [((by decide) : Int32.toInt 2 = (2 : Int)), (((hF58.2.1 _ xn0).trans (hF44.2.1 _ (xn1 (xne_k hk9999b hk9999c (by decide)) (xn1 (xne_k hk9999b hk9999d (by decide)) (xn1 (xne_k hk9999b hk9999e (by decide)) (xn1 (xne_k hk9999b hk9999f (by decide)) (xn1 (xne_k hk9999b hk9999g (by decide)) (xn1 (xne_k hk9999b hk9999h (by decide)) xn0)))))))) : G58.2.1 (F a 16) = G37.2.1 (F a 16))])
            have hc67 : ((2 : Int) = (0 : Int) → (aI (G37.2.1 (F a 16)) ((2 : Int))) = x36.toInt) ∧ ((2 : Int) ≠ (0 : Int) → (aI (G37.2.1 (F a 16)) ((2 : Int))) = (aI (G_9.2.1 (F a 16)) ((2 : Int)))) := xlk hG37 rfl ((by decide) : Int32.toInt 0 = (0 : Int)) (rfl : Int32.toInt x36 = x36.toInt) (by decide) (by decide)
            refine lv_iconst (v := 1) hx hb dX10_askToCommit_68 (by decide) ?_
            refine xi_iadd hx hb (hv67 : Int32.toInt x67 = (aI (G37.2.1 (F a 16)) 2)) ((by decide) : Int32.toInt 1 = (1 : Int)) dX10_askToCommit_69 (fun x69 t69 => ?_)
            refine as_0 (x := x69) S hK hT hS hk9999b ar_27 aw_27 (by decide) (by decide) dX10_askToCommit_70 (fun H locs hT hS => ?_)
            obtain ⟨G70, hG70⟩ : ∃ GG : XG, GG = cput G58 (F a 16) (2 : Int32).toNatClampNeg x69 := ⟨_, rfl⟩
            rw [← hG70] at hT
            refine lv_iconst (v := 0) hx hb dX10_askToCommit_71 (by decide) ?_
            exact x_rz hx hb hr (xnz (Or.inl rfl)) hlk hQ (Nat.le_of_ble_eq_true rfl) (Nat.le_of_ble_eq_true rfl) hS dX10_askToCommit_72 G70 ⟨_, rfl, (Or.inl rfl), (by rw [hG70]; exact XFr.cput (XFr.call (XFr.call (by rw [hG37]; exact XFr.cput (XFr.call (XFr.call XFr.rf hF4 (xm1 3 rfl xm0) xm0 xm0) hF_9 (xm1 3 rfl xm0) (xm1 0 rfl (xm1 1 rfl (xm1 2 rfl (xm1 3 rfl (xm1 4 rfl (xm1 5 rfl (xm1 6 rfl xm0))))))) xm0) (List.mem_of_getElem? (i := 0) rfl)) hF44 (xm1 3 rfl xm0) (xm1 1 rfl (xm1 2 rfl (xm1 3 rfl (xm1 4 rfl (xm1 5 rfl (xm1 6 rfl xm0)))))) xm0) hF58 (xm1 0 rfl (xm1 1 rfl (xm1 2 rfl xm0))) xm0 xm0) (List.mem_of_getElem? (i := 0) rfl)), (by rw [(show (G70.1 (F a 10) 6).toInt = ((G44.1 (F a 10) 6).toInt) from (congrArg Int32.toInt ((lc_d hG70).trans (hF58.1 _ _ (xnj (by decide) (xnj (by decide) (xnj (by decide) xn0)))))).trans (rfl : Int32.toInt (G44.1 (F a 10) 6) = ((G44.1 (F a 10) 6).toInt)))] <;> exact (z_X10_askToCommit_10 l2_9.toInt ((G.1 p0 6).toInt) ((G44.1 (F a 10) 6).toInt) ((G_9.1 (F a 10) 6).toInt) s0 I9_1 c14 t44)), (v_X10_askToCommit_72_6 (K := K) (F := F) a p0 G G4 G_9 G37 x36 G44 l2_9 N9 x19 x49 ha hp0 hn pa s0 t4 I9_0 I9_1 I9_2 hm9 c14 t19 (xzi b19) c22 t36 t44 t49 (xzi b49) c52 hc67), (v_X10_askToCommit_72_7 (K := K) (F := F) a p0 G G4 G_9 G37 x36 G44 G70 l2_9 N9 x19 x49 ha hp0 hn pa pl oq44 s0 t4 I9_0 I9_1 I9_2 hm9 c14 t19 (xzi b19) c22 t36 t44 t49 (xzi b49) c52 hc67 (lc_c hG37 (xne_k hk9999c hk9999b (by decide))) (lc_c hG37 (xne_k hk9999d hk9999b (by decide))) (lc_c hG37 (xne_k hk9999e hk9999b (by decide))) (lc_c hG37 (xne_k hk9999f hk9999b (by decide))) (lc_c hG37 (xne_k hk9999g hk9999b (by decide))) (lc_c hG37 (xne_k hk9999h hk9999b (by decide))) ((lc_c hG37 (xne_k hk9999i hk9999b (by decide))).trans ((hF_9.2.1 _ (xn1 (xne_k hk9999i hk9999b (by decide)) (xn1 (xne_j hj9999o hj9999d (by first | decide | omega)) (xn1 (xne_j hj9999o hj9999f (by first | decide | omega)) (xn1 (xne_j hj9999o hj9999h (by first | decide | omega)) (xn1 (xne_j hj9999o hj9999j (by first | decide | omega)) (xn1 (xne_k hk9999i hk9999g (by decide)) (xn1 (xne_k hk9999i hk9999h (by decide)) xn0)))))))).trans (hF4.2.1 _ xn0))) ((lc_c hG37 (xne_k hk9999j hk9999b (by decide))).trans ((hF_9.2.1 _ (xn1 (xne_k hk9999j hk9999b (by decide)) (xn1 (xne_j hj9999p hj9999d (by first | decide | omega)) (xn1 (xne_j hj9999p hj9999f (by first | decide | omega)) (xn1 (xne_j hj9999p hj9999h (by first | decide | omega)) (xn1 (xne_j hj9999p hj9999j (by first | decide | omega)) (xn1 (xne_k hk9999j hk9999g (by decide)) (xn1 (xne_k hk9999j hk9999h (by decide)) xn0)))))))).trans (hF4.2.1 _ xn0))) ((lc_c hG37 (xne_k hk9999k hk9999b (by decide))).trans ((hF_9.2.1 _ (xn1 (xne_k hk9999k hk9999b (by decide)) (xn1 (xne_j hj9999q hj9999d (by first | decide | omega)) (xn1 (xne_j hj9999q hj9999f (by first | decide | omega)) (xn1 (xne_j hj9999q hj9999h (by first | decide | omega)) (xn1 (xne_j hj9999q hj9999j (by first | decide | omega)) (xn1 (xne_k hk9999k hk9999g (by decide)) (xn1 (xne_k hk9999k hk9999h (by decide)) xn0)))))))).trans (hF4.2.1 _ xn0))) ((lc_c hG37 (xne_k hk9999l hk9999b (by decide))).trans ((hF_9.2.1 _ (xn1 (xne_k hk9999l hk9999b (by decide)) (xn1 (xne_j hj9999r hj9999d (by first | decide | omega)) (xn1 (xne_j hj9999r hj9999f (by first | decide | omega)) (xn1 (xne_j hj9999r hj9999h (by first | decide | omega)) (xn1 (xne_j hj9999r hj9999j (by first | decide | omega)) (xn1 (xne_k hk9999l hk9999g (by decide)) (xn1 (xne_k hk9999l hk9999h (by decide)) xn0)))))))).trans (hF4.2.1 _ xn0))) ((lc_c hG37 (xne_k hk9999m hk9999b (by decide))).trans ((hF_9.2.1 _ (xn1 (xne_k hk9999m hk9999b (by decide)) (xn1 (xne_k hk9999m hk9999c (by decide)) (xn1 (xne_k hk9999m hk9999d (by decide)) (xn1 (xne_k hk9999m hk9999e (by decide)) (xn1 (xne_k hk9999m hk9999f (by decide)) (xn1 (xne_j hj9999s hj9999l (by first | decide | omega)) (xn1 (xne_j hj9999s hj9999n (by first | decide | omega)) xn0)))))))).trans (hF4.2.1 _ xn0))) ((lc_c hG37 (xne_k hk9999n hk9999b (by decide))).trans ((hF_9.2.1 _ (xn1 (xne_k hk9999n hk9999b (by decide)) (xn1 (xne_k hk9999n hk9999c (by decide)) (xn1 (xne_k hk9999n hk9999d (by decide)) (xn1 (xne_k hk9999n hk9999e (by decide)) (xn1 (xne_k hk9999n hk9999f (by decide)) (xn1 (xne_j hj9999t hj9999l (by first | decide | omega)) (xn1 (xne_j hj9999t hj9999n (by first | decide | omega)) xn0)))))))).trans (hF4.2.1 _ xn0))) ((lc_c hG70 (xne_k hk9999c hk9999b (by decide))).trans (hF58.2.1 _ xn0)) ((lc_c hG70 (xne_k hk9999d hk9999b (by decide))).trans (hF58.2.1 _ xn0)) ((lc_c hG70 (xne_k hk9999e hk9999b (by decide))).trans (hF58.2.1 _ xn0)) ((lc_c hG70 (xne_k hk9999f hk9999b (by decide))).trans (hF58.2.1 _ xn0)) ((lc_c hG70 (xne_k hk9999g hk9999b (by decide))).trans (hF58.2.1 _ xn0)) ((lc_c hG70 (xne_k hk9999h hk9999b (by decide))).trans (hF58.2.1 _ xn0)) (lc_d hG37) ((lc_d hG70).trans (hF58.1 _ _ (xnj (by decide) (xnj (by decide) (xnj (by decide) xn0))))))⟩ hT
        · refine lv_goto (tgt := 73) hx hb dX10_askToCommit_25 (by decide) ?_
          refine xi_iinc (n := 1) (lv' := fun z9 => [(2, .int z9), (0, .ref a), (1, .ref p0)]) (k := 2) hx hb (rfl : Int32.toInt l2_9 = l2_9.toInt) (by decide) dX10_askToCommit_73 hl rfl (by decide) (fun _ => rfl) (fun x73 ls t73 hl => ?_)
          have e73 : x73.toInt = (l2_9.toInt + 1) := (z_X10_askAtOnce_2 l2_9.toInt x73.toInt ((G.1 p0 6).toInt) s0 I9_0 t73)
          have hl : lv_has ls 3 [(2, .int x73), (0, .ref a), (1, .ref p0)] := hl
          refine lv_goto (tgt := 9) hx hb dX10_askToCommit_76 (by decide) ?_
          exact ih9 x73 G_9 _ _ _ (XFr.call XFr.rf hF_9 (xm1 0 rfl xm0) (xm1 0 rfl (xm1 1 rfl (xm1 2 rfl (xm1 3 rfl (xm1 4 rfl (xm1 5 rfl (xm1 6 rfl xm0))))))) xm0) (by rw [(e73 : Int32.toInt x73 = (l2_9.toInt + 1))] <;> exact (v_X10_askToCommit_76_8 (K := K) (F := F) a p0 G G4 G_9 l2_9 N9 x19 ha hp0 hn pa s0 t4 I9_0 I9_1 I9_2 hm9 c14 t19 (xzi b19) c22)) (by rw [(e73 : Int32.toInt x73 = (l2_9.toInt + 1))] <;> exact (v_X10_askToCommit_76_9 (K := K) (F := F) a p0 G G4 G_9 l2_9 N9 x19 ha hp0 hn pl s0 t4 I9_0 I9_1 I9_2 hm9 c14 t19 (xzi b19) c22)) (by rw [(e73 : Int32.toInt x73 = (l2_9.toInt + 1))] <;> exact (z_X10_askAtOnce_3 l2_9.toInt ((G.1 p0 6).toInt) I9_0 c14)) (by rw [(e73 : Int32.toInt x73 = (l2_9.toInt + 1))] <;> exact (z_X10_askToCommit_13 l2_9.toInt ((G_9.1 (F a 10) 6).toInt) I9_1)) (by rw [(e73 : Int32.toInt x73 = (l2_9.toInt + 1))] <;> exact (z_X10_askAtOnce_4 l2_9.toInt ((G.1 p0 6).toInt) I9_0)) (by rw [(e73 : Int32.toInt x73 = (l2_9.toInt + 1))] <;> exact (z_X10_askAtOnce_5 l2_9.toInt N9 hm9)) hT hS (lv_sub hl [1, 2, 0] rfl)
  exact L9 4294967297 0 G4 _ _ _ XFr.rf (v_X10_askToCommit_8_10 (K := K) (F := F) a p0 G G4 ha hp0 hn s0 t4) (v_X10_askToCommit_8_11 (F := F) a p0 G G4 t4) (z_X10_askAtOnce_10 ((G.1 p0 6).toInt) s0) (z_X10_askToCommit_17 ((G4.1 (F a 10) 6).toInt) t4) (by decide) (by decide) hT hS (lv_sub hl [1, 2, 0] rfl)

