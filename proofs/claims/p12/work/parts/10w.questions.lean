theorem z_X4_size_1 (a0 : Int) : a0 = a0 := by omega
abbrev rm_X4_size : Room := { frames := 0, cells := 0, slots := 0, locals := 0 }
set_option maxHeartbeats 4000000 in
set_option maxRecDepth 100000 in
theorem c_X4_size (l : Launch) (E : XE) (K : Nat → Nat) (F : Nat → Nat → Nat) (G : XG) (h0 : Heap) (a : Nat) (ha : K a = 6) : Met l yX4_size (xw yX4_size cX4_size 1 (some .int)) rm_X4_size (va_Pc [.ref a] (XPh E K F G h0)) (XQ E (fun v (u : Unit) => ∃ r : Int32, v = .int r ∧ (r.toInt = ((G.1 a 6).toInt))) (fun _ H => H = h0)) 0 0 (xA E) := by
  refine x_enter (by decide) (Nat.le_of_ble_eq_true rfl) ?_
  intro p e s m args below meth c Q S hr hlk hnm hQ hP ls hl
  obtain ⟨⟨hz, hK, hT⟩, hh⟩ := hP
  obtain ⟨hx, hb, -, -, -⟩ := id S
  have hS : va_S (xA E) s.heap s.heap [] := va_S.rf
  have hl : lv_has ls 1 [(0, .ref a)] := hl
  refine lv_aload_n hx hb dX4_size_0 rfl (lv_at hl 0 rfl) ?_
  refine gX4_6 S hK hT ha kf_X4_33 dX4_size_1 (v := (G.1 a 6)) rfl (?_)
  exact x_ri hx hb hr hlk hQ (Nat.le_of_ble_eq_true rfl) (Nat.le_of_ble_eq_true rfl) hS dX4_size_4 () ⟨_, rfl, (z_X4_size_1 ((G.1 a 6).toInt))⟩ hh

abbrev rm_X4_clear : Room := { frames := 0, cells := 0, slots := 0, locals := 0 }
set_option maxHeartbeats 4000000 in
set_option maxRecDepth 100000 in
theorem c_X4_clear (l : Launch) (E : XE) (K : Nat → Nat) (F : Nat → Nat → Nat) (G : XG) (a : Nat) (ha : K a = 6) : Met l yX4_clear (xw yX4_clear cX4_clear 1 none) rm_X4_clear (va_Pc [.ref a] (XP E K F G)) (XQv E (fun (u : XG) => XFr [(a, 6)] [] [] G u ∧ (((u.1 a 6).toInt) = 0)) (fun u H => TW E K F u H)) 0 0 (xA E) := by
  refine x_enter (by decide) (Nat.le_of_ble_eq_true rfl) ?_
  intro p e s m args below meth c Q S hr hlk hnm hQ hP ls hl
  obtain ⟨hz, hK, hT⟩ := hP
  obtain ⟨hx, hb, -, -, -⟩ := id S
  obtain ⟨H, hT, hS, hgo⟩ : ∃ H : Heap, TW E K F G H ∧ va_S (xA E) s.heap H [] ∧ H = s.heap := ⟨_, hT, va_S.rf, rfl⟩
  rw [← hgo]
  have hl : lv_has ls 1 [(0, .ref a)] := hl
  refine lv_aload_n hx hb dX4_clear_0 rfl (lv_at hl 0 rfl) ?_
  refine lv_iconst (v := 0) hx hb dX4_clear_1 (by decide) ?_
  refine pX4_6 (v := 0) S hK hT hS ha kf_X4_33 dX4_clear_2 (fun H locs hT hS => ?_)
  obtain ⟨G2, hG2⟩ : ∃ G9 : XG, G9 = dput G a 6 0 := ⟨_, rfl⟩
  rw [← hG2] at hT
  exact x_rv hx hb hr hlk hQ (Nat.le_of_ble_eq_true rfl) (Nat.le_of_ble_eq_true rfl) hS dX4_clear_5 G2 ⟨(by rw [hG2]; exact XFr.dput XFr.rf (List.mem_of_getElem? (i := 0) rfl)), (by rw [(show (G2.1 a 6).toInt = (0 : Int) from (congrArg Int32.toInt (ld_at hG2)).trans ((by decide) : Int32.toInt 0 = (0 : Int)))] <;> exact (by decide))⟩ hT

theorem z_X4_isInside_1 (a0 : Int) (a1 : Int) (h0 : a0 < 0) : ((0 ≤ a0 ∧ a0 < a1 ∧ a0 < 1080) ∧ (0 : Int) = 1) ∨ (¬ (0 ≤ a0 ∧ a0 < a1 ∧ a0 < 1080) ∧ (0 : Int) = 0) := by omega
theorem z_X4_isInside_2 (a0 : Int) (a1 : Int) (h0 : a1 ≤ a0) : ((0 ≤ a0 ∧ a0 < a1 ∧ a0 < 1080) ∧ (0 : Int) = 1) ∨ (¬ (0 ≤ a0 ∧ a0 < a1 ∧ a0 < 1080) ∧ (0 : Int) = 0) := by omega
theorem z_X4_isInside_3 (a0 : Int) (a1 : Int) (h0 : (1080 : Int) ≤ a0) : ((0 ≤ a0 ∧ a0 < a1 ∧ a0 < 1080) ∧ (0 : Int) = 1) ∨ (¬ (0 ≤ a0 ∧ a0 < a1 ∧ a0 < 1080) ∧ (0 : Int) = 0) := by omega
theorem z_X4_isInside_4 (a0 : Int) (a1 : Int) (h0 : ¬ (a0 < 0)) (h1 : ¬ (a1 ≤ a0)) (h2 : ¬ ((1080 : Int) ≤ a0)) : ((0 ≤ a0 ∧ a0 < a1 ∧ a0 < 1080) ∧ (1 : Int) = 1) ∨ (¬ (0 ≤ a0 ∧ a0 < a1 ∧ a0 < 1080) ∧ (1 : Int) = 0) := by omega
abbrev rm_X4_isInside : Room := { frames := 0, cells := 0, slots := 0, locals := 0 }
set_option maxHeartbeats 4000000 in
set_option maxRecDepth 100000 in
theorem c_X4_isInside (l : Launch) (E : XE) (K : Nat → Nat) (F : Nat → Nat → Nat) (G : XG) (h0 : Heap) (a : Nat) (p0 : Int32) (ha : K a = 6) : Met l yX4_isInside (xw yX4_isInside cX4_isInside 2 (some .boolean)) rm_X4_isInside (va_Pc [.ref a, .int p0] (XPh E K F G h0)) (XQ E (fun v (u : Unit) => ∃ r : Int32, v = .int r ∧ (r = 0 ∨ r = 1) ∧ (((0 ≤ p0.toInt ∧ p0.toInt < ((G.1 a 6).toInt) ∧ p0.toInt < 1080) ∧ r.toInt = 1) ∨ (¬ (0 ≤ p0.toInt ∧ p0.toInt < ((G.1 a 6).toInt) ∧ p0.toInt < 1080) ∧ r.toInt = 0))) (fun _ H => H = h0)) 0 0 (xA E) := by
  refine x_enter (by decide) (Nat.le_of_ble_eq_true rfl) ?_
  intro p e s m args below meth c Q S hr hlk hnm hQ hP ls hl
  obtain ⟨⟨hz, hK, hT⟩, hh⟩ := hP
  obtain ⟨hx, hb, -, -, -⟩ := id S
  have hS : va_S (xA E) s.heap s.heap [] := va_S.rf
  have hl : lv_has ls 2 [(0, .ref a), (1, .int p0)] := hl
  refine lv_iload_n hx hb dX4_isInside_0 rfl (lv_at hl 1 rfl) ?_
  refine xi_zlt (tgt := 23) hx hb (rfl : Int32.toInt p0 = p0.toInt) dX4_isInside_1 (by decide) (fun c1 => ?_) (fun c1 => ?_)
  · refine lv_iconst (v := 0) hx hb dX4_isInside_23 (by decide) ?_
    exact x_rz hx hb hr (xnz (Or.inl rfl)) hlk hQ (Nat.le_of_ble_eq_true rfl) (Nat.le_of_ble_eq_true rfl) hS dX4_isInside_24 () ⟨_, rfl, (Or.inl rfl), (z_X4_isInside_1 p0.toInt ((G.1 a 6).toInt) c1)⟩ hh
  · refine lv_iload_n hx hb dX4_isInside_4 rfl (lv_at hl 1 rfl) ?_
    refine lv_aload_n hx hb dX4_isInside_5 rfl (lv_at hl 0 rfl) ?_
    refine gX4_6 S hK hT ha kf_X4_33 dX4_isInside_6 (v := (G.1 a 6)) rfl (?_)
    refine xi_cge (tgt := 23) hx hb (rfl : Int32.toInt p0 = p0.toInt) (rfl : Int32.toInt (G.1 a 6) = ((G.1 a 6).toInt)) dX4_isInside_9 (by decide) (fun c9 => ?_) (fun c9 => ?_)
    · refine lv_iconst (v := 0) hx hb dX4_isInside_23 (by decide) ?_
      exact x_rz hx hb hr (xnz (Or.inl rfl)) hlk hQ (Nat.le_of_ble_eq_true rfl) (Nat.le_of_ble_eq_true rfl) hS dX4_isInside_24 () ⟨_, rfl, (Or.inl rfl), (z_X4_isInside_2 p0.toInt ((G.1 a 6).toInt) c9)⟩ hh
    · refine lv_iload_n hx hb dX4_isInside_12 rfl (lv_at hl 1 rfl) ?_
      refine lv_sipush (v := 1080) hx hb dX4_isInside_13 (by decide) ?_
      refine xi_cge (tgt := 23) hx hb (rfl : Int32.toInt p0 = p0.toInt) ((by decide) : Int32.toInt 1080 = (1080 : Int)) dX4_isInside_16 (by decide) (fun c16 => ?_) (fun c16 => ?_)
      · refine lv_iconst (v := 0) hx hb dX4_isInside_23 (by decide) ?_
        exact x_rz hx hb hr (xnz (Or.inl rfl)) hlk hQ (Nat.le_of_ble_eq_true rfl) (Nat.le_of_ble_eq_true rfl) hS dX4_isInside_24 () ⟨_, rfl, (Or.inl rfl), (z_X4_isInside_3 p0.toInt ((G.1 a 6).toInt) c16)⟩ hh
      · refine lv_iconst (v := 1) hx hb dX4_isInside_19 (by decide) ?_
        refine lv_goto (tgt := 24) hx hb dX4_isInside_20 (by decide) ?_
        exact x_rz hx hb hr (xnz (Or.inr rfl)) hlk hQ (Nat.le_of_ble_eq_true rfl) (Nat.le_of_ble_eq_true rfl) hS dX4_isInside_24 () ⟨_, rfl, (Or.inr rfl), (z_X4_isInside_4 p0.toInt ((G.1 a 6).toInt) c1 c9 c16)⟩ hh

theorem z_X4_add_1 (a0 : Int) (h0 : 0 ≤ a0 ∧ a0 < 1080) (h1 : a0 < 0) : a0 = a0 + 1 := by omega
theorem z_X4_add_2 (a0 : Int) (h0 : 0 ≤ a0 ∧ a0 < 1080) (h1 : (1080 : Int) ≤ a0) : a0 = a0 + 1 := by omega
theorem z_X4_add_3 (a0 : Int) (h0 : 0 ≤ a0 ∧ a0 < 1080) : 0 ≤ a0 ∧ a0 < ((1080 : Nat) : Int) := by omega
theorem z_X4_add_9 (a0 : Int) (a1 : Int) (h0 : 0 ≤ a1 ∧ a1 < 1080) (h1 : a0 = (a1 + (1 : Int)) ∨ (a1 + (1 : Int)) < -2147483648 ∨ 2147483648 ≤ (a1 + (1 : Int))) : a0 = (a1 + (1 : Int)) := by omega
theorem z_X4_add_10 (a0 : Int) : (a0 + (1 : Int)) = a0 + 1 := by omega
abbrev rm_X4_add : Room := { frames := 0, cells := 0, slots := 0, locals := 0 }
set_option maxHeartbeats 4000000 in
set_option maxRecDepth 100000 in
theorem c_X4_add (l : Launch) (E : XE) (K : Nat → Nat) (F : Nat → Nat → Nat) (G : XG) (a : Nat) (p0 : Nat) (p1 : Int32) (p2 : Int32) (p3 : Int32) (p4 : Int32) (ha : K a = 6) (hp0 : K p0 = 9) (b4 : p4 = 0 ∨ p4 = 1) (s0 : 0 ≤ ((G.1 a 6).toInt) ∧ ((G.1 a 6).toInt) < 1080) : Met l yX4_add (xw yX4_add cX4_add 6 none) rm_X4_add (va_Pc [.ref a, .ref p0, .int p1, .int p2, .int p3, .int p4] (XP E K F G)) (XQv E (fun (u : XG) => XFr [(a, 6)] [F a 0, F a 1, F a 2, F a 3, F a 4, F a 5] [] G u ∧ (((u.1 a 6).toInt) = ((G.1 a 6).toInt) + 1) ∧ (qL u F a = qL G F a ++ [(((G.1 p0 1).toInt), p1.toInt, p2.toInt, p3.toInt, ((G.1 p0 9).toInt), p4.toInt)])) (fun u H => TW E K F u H)) 0 0 (xA E) := by
  refine x_enter (by decide) (Nat.le_of_ble_eq_true rfl) ?_
  intro p e s m args below meth c Q S hr hlk hnm hQ hP ls hl
  obtain ⟨hz, hK, hT⟩ := hP
  obtain ⟨hx, hb, -, -, -⟩ := id S
  obtain ⟨H, hT, hS, hgo⟩ : ∃ H : Heap, TW E K F G H ∧ va_S (xA E) s.heap H [] ∧ H = s.heap := ⟨_, hT, va_S.rf, rfl⟩
  rw [← hgo]
  have hl : lv_has ls 6 [(0, .ref a), (1, .ref p0), (2, .int p1), (3, .int p2), (4, .int p3), (5, .int p4)] := hl
  obtain ⟨hk9999, hj9999⟩ := fkX4_0 hT ha
  obtain ⟨hk9999a, hj9999a⟩ := fkX4_1 hT ha
  obtain ⟨hk9999b, hj9999b⟩ := fkX4_2 hT ha
  obtain ⟨hk9999c, hj9999c⟩ := fkX4_3 hT ha
  obtain ⟨hk9999d, hj9999d⟩ := fkX4_4 hT ha
  obtain ⟨hk9999e, hj9999e⟩ := fkX4_5 hT ha
  refine lv_aload_n hx hb dX4_add_0 rfl (lv_at hl 0 rfl) ?_
  refine gX4_6 S hK hT ha kf_X4_33 dX4_add_1 (v := (G.1 a 6)) rfl (?_)
  refine xi_zlt (tgt := 95) hx hb (rfl : Int32.toInt (G.1 a 6) = ((G.1 a 6).toInt)) dX4_add_4 (by decide) (fun c4 => ?_) (fun c4 => ?_)
  · exact x_rv hx hb hr hlk hQ (Nat.le_of_ble_eq_true rfl) (Nat.le_of_ble_eq_true rfl) hS dX4_add_95 G ⟨XFr.rf, (z_X4_add_1 ((G.1 a 6).toInt) s0 c4), (v_X4_add_95_1 a p0 G p1 p2 p3 p4 ha hp0 s0 c4)⟩ hT
  · refine lv_aload_n hx hb dX4_add_7 rfl (lv_at hl 0 rfl) ?_
    refine gX4_6 S hK hT ha kf_X4_33 dX4_add_8 (v := (G.1 a 6)) rfl (?_)
    refine lv_sipush (v := 1080) hx hb dX4_add_11 (by decide) ?_
    refine xi_cge (tgt := 95) hx hb (rfl : Int32.toInt (G.1 a 6) = ((G.1 a 6).toInt)) ((by decide) : Int32.toInt 1080 = (1080 : Int)) dX4_add_14 (by decide) (fun c14 => ?_) (fun c14 => ?_)
    · exact x_rv hx hb hr hlk hQ (Nat.le_of_ble_eq_true rfl) (Nat.le_of_ble_eq_true rfl) hS dX4_add_95 G ⟨XFr.rf, (z_X4_add_2 ((G.1 a 6).toInt) s0 c14), (v_X4_add_95_2 a p0 G p1 p2 p3 p4 ha hp0 s0 c4 c14)⟩ hT
    · refine lv_aload_n hx hb dX4_add_17 rfl (lv_at hl 0 rfl) ?_
      refine gX4_0 S hK hT ha kf_X4_13 dX4_add_18 (fun _ _ => ?_)
      refine lv_aload_n hx hb dX4_add_21 rfl (lv_at hl 0 rfl) ?_
      refine gX4_6 S hK hT ha kf_X4_33 dX4_add_22 (v := (G.1 a 6)) rfl (?_)
      refine lv_aload_n hx hb dX4_add_25 rfl (lv_at hl 1 rfl) ?_
      refine gX7_1 S hK hT hp0 kf_X4_37 dX4_add_26 (v := (G.1 p0 1)) rfl (?_)
      refine as_0 (x := (G.1 p0 1)) S hK hT hS hk9999 ar_22 aw_22 (by decide) (z_X4_add_3 ((G.1 a 6).toInt) s0) dX4_add_29 (fun H locs hT hS => ?_)
      obtain ⟨G29, hG29⟩ : ∃ G9 : XG, G9 = cput G (F a 0) (G.1 a 6).toNatClampNeg (G.1 p0 1) := ⟨_, rfl⟩
      rw [← hG29] at hT
      refine lv_aload_n hx hb dX4_add_30 rfl (lv_at hl 0 rfl) ?_
      refine gX4_1 S hK hT ha kf_X4_17 dX4_add_31 (fun _ _ => ?_)
      refine lv_aload_n hx hb dX4_add_34 rfl (lv_at hl 0 rfl) ?_
      refine gX4_6 S hK hT ha kf_X4_33 dX4_add_35 (v := (G.1 a 6)) (lc_d hG29) (?_)
      refine lv_iload_n hx hb dX4_add_38 rfl (lv_at hl 2 rfl) ?_
      refine as_0 (x := p1) S hK hT hS hk9999a ar_22 aw_22 (by decide) (z_X4_add_3 ((G.1 a 6).toInt) s0) dX4_add_39 (fun H locs hT hS => ?_)
      obtain ⟨G39, hG39⟩ : ∃ G9 : XG, G9 = cput G29 (F a 1) (G.1 a 6).toNatClampNeg p1 := ⟨_, rfl⟩
      rw [← hG39] at hT
      refine lv_aload_n hx hb dX4_add_40 rfl (lv_at hl 0 rfl) ?_
      refine gX4_2 S hK hT ha kf_X4_20 dX4_add_41 (fun _ _ => ?_)
      refine lv_aload_n hx hb dX4_add_44 rfl (lv_at hl 0 rfl) ?_
      refine gX4_6 S hK hT ha kf_X4_33 dX4_add_45 (v := (G.1 a 6)) ((lc_d hG39).trans (lc_d hG29)) (?_)
      refine lv_iload_n hx hb dX4_add_48 rfl (lv_at hl 3 rfl) ?_
      refine as_0 (x := p2) S hK hT hS hk9999b ar_22 aw_22 (by decide) (z_X4_add_3 ((G.1 a 6).toInt) s0) dX4_add_49 (fun H locs hT hS => ?_)
      obtain ⟨G49, hG49⟩ : ∃ G9 : XG, G9 = cput G39 (F a 2) (G.1 a 6).toNatClampNeg p2 := ⟨_, rfl⟩
      rw [← hG49] at hT
      refine lv_aload_n hx hb dX4_add_50 rfl (lv_at hl 0 rfl) ?_
      refine gX4_3 S hK hT ha kf_X4_23 dX4_add_51 (fun _ _ => ?_)
      refine lv_aload_n hx hb dX4_add_54 rfl (lv_at hl 0 rfl) ?_
      refine gX4_6 S hK hT ha kf_X4_33 dX4_add_55 (v := (G.1 a 6)) ((lc_d hG49).trans ((lc_d hG39).trans (lc_d hG29))) (?_)
      refine lv_iload hx hb dX4_add_58 (lv_at hl 4 rfl) ?_
      refine as_0 (x := p3) S hK hT hS hk9999c ar_22 aw_22 (by decide) (z_X4_add_3 ((G.1 a 6).toInt) s0) dX4_add_60 (fun H locs hT hS => ?_)
      obtain ⟨G60, hG60⟩ : ∃ G9 : XG, G9 = cput G49 (F a 3) (G.1 a 6).toNatClampNeg p3 := ⟨_, rfl⟩
      rw [← hG60] at hT
      refine lv_aload_n hx hb dX4_add_61 rfl (lv_at hl 0 rfl) ?_
      refine gX4_4 S hK hT ha kf_X4_26 dX4_add_62 (fun _ _ => ?_)
      refine lv_aload_n hx hb dX4_add_65 rfl (lv_at hl 0 rfl) ?_
      refine gX4_6 S hK hT ha kf_X4_33 dX4_add_66 (v := (G.1 a 6)) ((lc_d hG60).trans ((lc_d hG49).trans ((lc_d hG39).trans (lc_d hG29)))) (?_)
      refine lv_aload_n hx hb dX4_add_69 rfl (lv_at hl 1 rfl) ?_
      refine gX7_9 S hK hT hp0 kf_X4_42 dX4_add_70 (v := (G.1 p0 9)) ((lc_d hG60).trans ((lc_d hG49).trans ((lc_d hG39).trans (lc_d hG29)))) (fun hz70 => ?_)
      refine as_3 (x := (G.1 p0 9)) S hK hT hS hk9999d ar_23 aw_23 (by decide) (z_X4_add_3 ((G.1 a 6).toInt) s0) dX4_add_73 (fun H locs hT hS => ?_)
      rw [(xnar3 hz70)] at hT
      obtain ⟨G73, hG73⟩ : ∃ G9 : XG, G9 = cput G60 (F a 4) (G.1 a 6).toNatClampNeg (G.1 p0 9) := ⟨_, rfl⟩
      rw [← hG73] at hT
      refine lv_aload_n hx hb dX4_add_74 rfl (lv_at hl 0 rfl) ?_
      refine gX4_5 S hK hT ha kf_X4_30 dX4_add_75 (fun _ _ => ?_)
      refine lv_aload_n hx hb dX4_add_78 rfl (lv_at hl 0 rfl) ?_
      refine gX4_6 S hK hT ha kf_X4_33 dX4_add_79 (v := (G.1 a 6)) ((lc_d hG73).trans ((lc_d hG60).trans ((lc_d hG49).trans ((lc_d hG39).trans (lc_d hG29))))) (?_)
      refine lv_iload hx hb dX4_add_82 (lv_at hl 5 rfl) ?_
      refine as_3 (x := p4) S hK hT hS hk9999e ar_23 aw_23 (by decide) (z_X4_add_3 ((G.1 a 6).toInt) s0) dX4_add_84 (fun H locs hT hS => ?_)
      rw [(xnar3 b4)] at hT
      obtain ⟨G84, hG84⟩ : ∃ G9 : XG, G9 = cput G73 (F a 5) (G.1 a 6).toNatClampNeg p4 := ⟨_, rfl⟩
      rw [← hG84] at hT
      refine lv_aload_n hx hb dX4_add_85 rfl (lv_at hl 0 rfl) ?_
      refine lv_dup hx hb dX4_add_86 rfl ?_
      refine gX4_6 S hK hT ha kf_X4_33 dX4_add_87 (v := (G.1 a 6)) ((lc_d hG84).trans ((lc_d hG73).trans ((lc_d hG60).trans ((lc_d hG49).trans ((lc_d hG39).trans (lc_d hG29)))))) (?_)
      refine lv_iconst (v := 1) hx hb dX4_add_90 (by decide) ?_
      refine xi_iadd hx hb (rfl : Int32.toInt (G.1 a 6) = ((G.1 a 6).toInt)) ((by decide) : Int32.toInt 1 = (1 : Int)) dX4_add_91 (fun x91 t91 => ?_)
      have e91 : x91.toInt = (((G.1 a 6).toInt) + (1 : Int)) := (z_X4_add_9 x91.toInt ((G.1 a 6).toInt) s0 t91)
      refine pX4_6 (v := x91) S hK hT hS ha kf_X4_33 dX4_add_92 (fun H locs hT hS => ?_)
      obtain ⟨G92, hG92⟩ : ∃ G9 : XG, G9 = dput G84 a 6 x91 := ⟨_, rfl⟩
      rw [← hG92] at hT
      exact x_rv hx hb hr hlk hQ (Nat.le_of_ble_eq_true rfl) (Nat.le_of_ble_eq_true rfl) hS dX4_add_95 G92 ⟨(by rw [hG92]; exact XFr.dput (by rw [hG84]; exact XFr.cput (by rw [hG73]; exact XFr.cput (by rw [hG60]; exact XFr.cput (by rw [hG49]; exact XFr.cput (by rw [hG39]; exact XFr.cput (by rw [hG29]; exact XFr.cput XFr.rf (List.mem_of_getElem? (i := 0) rfl)) (List.mem_of_getElem? (i := 1) rfl)) (List.mem_of_getElem? (i := 2) rfl)) (List.mem_of_getElem? (i := 3) rfl)) (List.mem_of_getElem? (i := 4) rfl)) (List.mem_of_getElem? (i := 5) rfl)) (List.mem_of_getElem? (i := 0) rfl)), (by rw [(show (G92.1 a 6).toInt = (((G.1 a 6).toInt) + (1 : Int)) from (congrArg Int32.toInt (ld_at hG92)).trans (e91 : Int32.toInt x91 = (((G.1 a 6).toInt) + (1 : Int))))] <;> exact (z_X4_add_10 ((G.1 a 6).toInt))), (v_X4_add_95_3 a p0 G29 G G39 p1 G49 p2 G60 p3 G73 G84 p4 G92 x91 ha hp0 hG29 hG39 hG49 hG60 hG73 hG84 e91 s0 c4 c14 (xzi hz70) (lc_c hG29 (xne_j hj9999a hj9999 (by first | decide | omega))) ((lc_c hG39 (xne_j hj9999b hj9999a (by first | decide | omega))).trans (lc_c hG29 (xne_j hj9999b hj9999 (by first | decide | omega)))) ((lc_c hG49 (xne_j hj9999c hj9999b (by first | decide | omega))).trans ((lc_c hG39 (xne_j hj9999c hj9999a (by first | decide | omega))).trans (lc_c hG29 (xne_j hj9999c hj9999 (by first | decide | omega))))) ((lc_c hG60 (xne_k hk9999d hk9999c (by decide))).trans ((lc_c hG49 (xne_k hk9999d hk9999b (by decide))).trans ((lc_c hG39 (xne_k hk9999d hk9999a (by decide))).trans (lc_c hG29 (xne_k hk9999d hk9999 (by decide)))))) ((lc_c hG73 (xne_j hj9999e hj9999d (by first | decide | omega))).trans ((lc_c hG60 (xne_k hk9999e hk9999c (by decide))).trans ((lc_c hG49 (xne_k hk9999e hk9999b (by decide))).trans ((lc_c hG39 (xne_k hk9999e hk9999a (by decide))).trans (lc_c hG29 (xne_k hk9999e hk9999 (by decide))))))) ((ld_c hG92).trans ((lc_c hG84 (xne_k hk9999 hk9999e (by decide))).trans ((lc_c hG73 (xne_k hk9999 hk9999d (by decide))).trans ((lc_c hG60 (xne_j hj9999 hj9999c (by first | decide | omega))).trans ((lc_c hG49 (xne_j hj9999 hj9999b (by first | decide | omega))).trans (lc_c hG39 (xne_j hj9999 hj9999a (by first | decide | omega)))))))) ((ld_c hG92).trans ((lc_c hG84 (xne_k hk9999a hk9999e (by decide))).trans ((lc_c hG73 (xne_k hk9999a hk9999d (by decide))).trans ((lc_c hG60 (xne_j hj9999a hj9999c (by first | decide | omega))).trans (lc_c hG49 (xne_j hj9999a hj9999b (by first | decide | omega))))))) ((ld_c hG92).trans ((lc_c hG84 (xne_k hk9999b hk9999e (by decide))).trans ((lc_c hG73 (xne_k hk9999b hk9999d (by decide))).trans (lc_c hG60 (xne_j hj9999b hj9999c (by first | decide | omega)))))) ((ld_c hG92).trans ((lc_c hG84 (xne_k hk9999c hk9999e (by decide))).trans (lc_c hG73 (xne_k hk9999c hk9999d (by decide))))) ((ld_c hG92).trans (lc_c hG84 (xne_j hj9999d hj9999e (by first | decide | omega)))) (ld_c hG92) (ld_at hG92))⟩ hT

theorem z_X4_take_3 (a0 : Int) (a1 : Int) (a2 : Int) (a3 : Int) (h0 : 0 ≤ a0 ∧ a0 < a3 ∧ a3 ≤ 1080) (h1 : ((0 ≤ a0 ∧ a0 < a3 ∧ a0 < 1080) ∧ a1 = 1) ∨ (¬ (0 ≤ a0 ∧ a0 < a3 ∧ a0 < 1080) ∧ a1 = 0)) (h2 : a1 = 0) : a2 = a2 + 1 := by omega
theorem z_X4_take_4 (a0 : Int) (a1 : Int) (h0 : 0 ≤ a0 ∧ a0 < a1 ∧ a1 ≤ 1080) : 0 ≤ a0 ∧ a0 < ((1080 : Nat) : Int) := by omega
abbrev rm_X4_take : Room := { frames := 1, cells := 0, slots := 0, locals := 21 }
set_option maxHeartbeats 4000000 in
set_option maxRecDepth 100000 in
theorem c_X4_take (l : Launch) (E : XE) (K : Nat → Nat) (F : Nat → Nat → Nat) (G : XG) (a : Nat) (p0 : Nat) (p1 : Int32) (ha : K a = 6) (hp0 : K p0 = 6) (s0 : 0 ≤ ((G.1 a 6).toInt) ∧ ((G.1 a 6).toInt) < 1080) (s1 : 0 ≤ p1.toInt ∧ p1.toInt < ((G.1 p0 6).toInt) ∧ ((G.1 p0 6).toInt) ≤ 1080) (hne : F a 99 ≠ F p0 99) : Met l yX4_take (xw yX4_take cX4_take 3 none) rm_X4_take (va_Pc [.ref a, .ref p0, .int p1] (XP E K F G)) (XQv E (fun (u : XG) => XFr [(a, 6)] [F a 0, F a 1, F a 2, F a 3, F a 4, F a 5] [] G u ∧ (((u.1 a 6).toInt) = ((G.1 a 6).toInt) + 1) ∧ (qL u F a = qL G F a ++ [((aI (G.2.1 (F p0 0)) (p1.toInt)), (aI (G.2.1 (F p0 1)) (p1.toInt)), (aI (G.2.1 (F p0 2)) (p1.toInt)), (aI (G.2.1 (F p0 3)) (p1.toInt)), (aI (G.2.1 (F p0 4)) (p1.toInt)), (aI (G.2.1 (F p0 5)) (p1.toInt)))])) (fun u H => TW E K F u H)) 0 0 (xA E) := by
  refine x_enter (by decide) (Nat.le_of_ble_eq_true rfl) ?_
  intro p e s m args below meth c Q S hr hlk hnm hQ hP ls hl
  obtain ⟨hz, hK, hT⟩ := hP
  obtain ⟨hx, hb, -, -, -⟩ := id S
  obtain ⟨H, hT, hS, hgo⟩ : ∃ H : Heap, TW E K F G H ∧ va_S (xA E) s.heap H [] ∧ H = s.heap := ⟨_, hT, va_S.rf, rfl⟩
  rw [← hgo]
  have hl : lv_has ls 3 [(0, .ref a), (1, .ref p0), (2, .int p1)] := hl
  obtain ⟨hk9999, hj9999⟩ := fkX4_0 hT ha
  obtain ⟨hk9999a, hj9999a⟩ := fkX4_1 hT ha
  obtain ⟨hk9999b, hj9999b⟩ := fkX4_2 hT ha
  obtain ⟨hk9999c, hj9999c⟩ := fkX4_3 hT ha
  obtain ⟨hk9999d, hj9999d⟩ := fkX4_4 hT ha
  obtain ⟨hk9999e, hj9999e⟩ := fkX4_5 hT ha
  obtain ⟨hk9999f, hj9999f⟩ := fkX4_0 hT hp0
  obtain ⟨hk9999g, hj9999g⟩ := fkX4_1 hT hp0
  obtain ⟨hk9999h, hj9999h⟩ := fkX4_2 hT hp0
  obtain ⟨hk9999i, hj9999i⟩ := fkX4_3 hT hp0
  obtain ⟨hk9999j, hj9999j⟩ := fkX4_4 hT hp0
  obtain ⟨hk9999k, hj9999k⟩ := fkX4_5 hT hp0
  refine lv_aload_n hx hb dX4_take_0 rfl (lv_at hl 0 rfl) ?_
  refine gX4_6 S hK hT ha kf_X4_33 dX4_take_1 (v := (G.1 a 6)) rfl (?_)
  refine xi_zlt (tgt := 125) hx hb (rfl : Int32.toInt (G.1 a 6) = ((G.1 a 6).toInt)) dX4_take_4 (by decide) (fun c4 => ?_) (fun c4 => ?_)
  · exact x_rv hx hb hr hlk hQ (Nat.le_of_ble_eq_true rfl) (Nat.le_of_ble_eq_true rfl) hS dX4_take_125 G ⟨XFr.rf, (z_X4_add_1 ((G.1 a 6).toInt) s0 c4), (v_X4_take_125_1 a p0 G p1 ha hp0 hne s0 s1 c4)⟩ hT
  · refine lv_aload_n hx hb dX4_take_7 rfl (lv_at hl 0 rfl) ?_
    refine gX4_6 S hK hT ha kf_X4_33 dX4_take_8 (v := (G.1 a 6)) rfl (?_)
    refine lv_sipush (v := 1080) hx hb dX4_take_11 (by decide) ?_
    refine xi_cge (tgt := 125) hx hb (rfl : Int32.toInt (G.1 a 6) = ((G.1 a 6).toInt)) ((by decide) : Int32.toInt 1080 = (1080 : Int)) dX4_take_14 (by decide) (fun c14 => ?_) (fun c14 => ?_)
    · exact x_rv hx hb hr hlk hQ (Nat.le_of_ble_eq_true rfl) (Nat.le_of_ble_eq_true rfl) hS dX4_take_125 G ⟨XFr.rf, (z_X4_add_2 ((G.1 a 6).toInt) s0 c14), (v_X4_take_125_2 a p0 G p1 ha hp0 hne s0 s1 c4 c14)⟩ hT
    · refine lv_aload_n hx hb dX4_take_17 rfl (lv_at hl 1 rfl) ?_
      refine lv_iload_n hx hb dX4_take_18 rfl (lv_at hl 2 rfl) ?_
      refine x_clp (x_runV (b := p0) (As := [.int p1]) (rest := []) S (c_X4_isInside l E K F G H p0 p1 hp0) mv_X4_isInside km_X4_46 rfl rfl ⟨Nat.le_of_ble_eq_true rfl, Nat.le_of_ble_eq_true rfl⟩ (rc_6 hK hT hp0) hK (fun _ => XPh.blind) (fun U hU hW => XPh.at hK hz hS hT hU hW) rfl hl.1 (Nat.le_of_ble_eq_true rfl) dX4_take_19 ⟨Nat.le_of_ble_eq_true rfl, Nat.le_of_ble_eq_true rfl⟩) hS ?_
      rintro _ _ locs ⟨x19, rfl, b19, t19⟩ hS
      have t19 : ((0 ≤ p1.toInt ∧ p1.toInt < ((G.1 p0 6).toInt) ∧ p1.toInt < 1080) ∧ x19.toInt = 1) ∨ (¬ (0 ≤ p1.toInt ∧ p1.toInt < ((G.1 p0 6).toInt) ∧ p1.toInt < 1080) ∧ x19.toInt = 0) := t19
      refine xi_zeq (tgt := 125) hx hb (rfl : Int32.toInt x19 = x19.toInt) dX4_take_22 (by decide) (fun c22 => ?_) (fun c22 => ?_)
      · exact x_rv hx hb hr hlk hQ (Nat.le_of_ble_eq_true rfl) (Nat.le_of_ble_eq_true rfl) hS dX4_take_125 G ⟨XFr.rf, (z_X4_take_3 p1.toInt x19.toInt ((G.1 a 6).toInt) ((G.1 p0 6).toInt) s1 t19 c22), (v_X4_take_125_3 a p0 G p1 x19 ha hp0 hne s0 s1 c4 c14 t19 c22)⟩ hT
      · refine lv_aload_n hx hb dX4_take_25 rfl (lv_at hl 0 rfl) ?_
        refine gX4_0 S hK hT ha kf_X4_13 dX4_take_26 (fun _ _ => ?_)
        refine lv_aload_n hx hb dX4_take_29 rfl (lv_at hl 0 rfl) ?_
        refine gX4_6 S hK hT ha kf_X4_33 dX4_take_30 (v := (G.1 a 6)) rfl (?_)
        refine lv_aload_n hx hb dX4_take_33 rfl (lv_at hl 1 rfl) ?_
        refine gX4_0 S hK hT hp0 kf_X4_13 dX4_take_34 (fun _ _ => ?_)
        refine lv_iload_n hx hb dX4_take_37 rfl (lv_at hl 2 rfl) ?_
        refine al_0 S hK hT hk9999f ar_22 (by decide) (z_X4_take_4 p1.toInt ((G.1 p0 6).toInt) s1) dX4_take_38 (fun x38 hv38 o38 => ?_)
        have hv38 : x38.toInt = (aI (G.2.1 (F p0 0)) (p1.toInt)) := hv38.trans (by rw [(rfl : Int32.toInt p1 = p1.toInt)])
        refine as_0 (x := x38) S hK hT hS hk9999 ar_22 aw_22 (by decide) (z_X4_add_3 ((G.1 a 6).toInt) s0) dX4_take_39 (fun H locs hT hS => ?_)
        obtain ⟨G39, hG39⟩ : ∃ G9 : XG, G9 = cput G (F a 0) (G.1 a 6).toNatClampNeg x38 := ⟨_, rfl⟩
        rw [← hG39] at hT
        refine lv_aload_n hx hb dX4_take_40 rfl (lv_at hl 0 rfl) ?_
        refine gX4_1 S hK hT ha kf_X4_17 dX4_take_41 (fun _ _ => ?_)
        refine lv_aload_n hx hb dX4_take_44 rfl (lv_at hl 0 rfl) ?_
        refine gX4_6 S hK hT ha kf_X4_33 dX4_take_45 (v := (G.1 a 6)) (lc_d hG39) (?_)
        refine lv_aload_n hx hb dX4_take_48 rfl (lv_at hl 1 rfl) ?_
        refine gX4_1 S hK hT hp0 kf_X4_17 dX4_take_49 (fun _ _ => ?_)
        refine lv_iload_n hx hb dX4_take_52 rfl (lv_at hl 2 rfl) ?_
        refine al_0 S hK hT hk9999g ar_22 (by decide) (z_X4_take_4 p1.toInt ((G.1 p0 6).toInt) s1) dX4_take_53 (fun x53 hv53 o53 => ?_)
        have hv53 : x53.toInt = (aI (G.2.1 (F p0 1)) (p1.toInt)) := hv53.trans (by rw [(rfl : Int32.toInt p1 = p1.toInt), ((lc_c hG39 (xne_j hj9999g hj9999 (by first | decide | omega))) : G39.2.1 (F p0 1) = G.2.1 (F p0 1))])
        refine as_0 (x := x53) S hK hT hS hk9999a ar_22 aw_22 (by decide) (z_X4_add_3 ((G.1 a 6).toInt) s0) dX4_take_54 (fun H locs hT hS => ?_)
        obtain ⟨G54, hG54⟩ : ∃ G9 : XG, G9 = cput G39 (F a 1) (G.1 a 6).toNatClampNeg x53 := ⟨_, rfl⟩
        rw [← hG54] at hT
        refine lv_aload_n hx hb dX4_take_55 rfl (lv_at hl 0 rfl) ?_
        refine gX4_2 S hK hT ha kf_X4_20 dX4_take_56 (fun _ _ => ?_)
        refine lv_aload_n hx hb dX4_take_59 rfl (lv_at hl 0 rfl) ?_
        refine gX4_6 S hK hT ha kf_X4_33 dX4_take_60 (v := (G.1 a 6)) ((lc_d hG54).trans (lc_d hG39)) (?_)
        refine lv_aload_n hx hb dX4_take_63 rfl (lv_at hl 1 rfl) ?_
        refine gX4_2 S hK hT hp0 kf_X4_20 dX4_take_64 (fun _ _ => ?_)
        refine lv_iload_n hx hb dX4_take_67 rfl (lv_at hl 2 rfl) ?_
        refine al_0 S hK hT hk9999h ar_22 (by decide) (z_X4_take_4 p1.toInt ((G.1 p0 6).toInt) s1) dX4_take_68 (fun x68 hv68 o68 => ?_)
        have hv68 : x68.toInt = (aI (G.2.1 (F p0 2)) (p1.toInt)) := hv68.trans (by rw [(rfl : Int32.toInt p1 = p1.toInt), (((lc_c hG54 (xne_j hj9999h hj9999a (by first | decide | omega))).trans (lc_c hG39 (xne_j hj9999h hj9999 (by first | decide | omega)))) : G54.2.1 (F p0 2) = G.2.1 (F p0 2))])
        refine as_0 (x := x68) S hK hT hS hk9999b ar_22 aw_22 (by decide) (z_X4_add_3 ((G.1 a 6).toInt) s0) dX4_take_69 (fun H locs hT hS => ?_)
        obtain ⟨G69, hG69⟩ : ∃ G9 : XG, G9 = cput G54 (F a 2) (G.1 a 6).toNatClampNeg x68 := ⟨_, rfl⟩
        rw [← hG69] at hT
        refine lv_aload_n hx hb dX4_take_70 rfl (lv_at hl 0 rfl) ?_
        refine gX4_3 S hK hT ha kf_X4_23 dX4_take_71 (fun _ _ => ?_)
        refine lv_aload_n hx hb dX4_take_74 rfl (lv_at hl 0 rfl) ?_
        refine gX4_6 S hK hT ha kf_X4_33 dX4_take_75 (v := (G.1 a 6)) ((lc_d hG69).trans ((lc_d hG54).trans (lc_d hG39))) (?_)
        refine lv_aload_n hx hb dX4_take_78 rfl (lv_at hl 1 rfl) ?_
        refine gX4_3 S hK hT hp0 kf_X4_23 dX4_take_79 (fun _ _ => ?_)
        refine lv_iload_n hx hb dX4_take_82 rfl (lv_at hl 2 rfl) ?_
        refine al_0 S hK hT hk9999i ar_22 (by decide) (z_X4_take_4 p1.toInt ((G.1 p0 6).toInt) s1) dX4_take_83 (fun x83 hv83 o83 => ?_)
        have hv83 : x83.toInt = (aI (G.2.1 (F p0 3)) (p1.toInt)) := hv83.trans (by rw [(rfl : Int32.toInt p1 = p1.toInt), (((lc_c hG69 (xne_j hj9999i hj9999b (by first | decide | omega))).trans ((lc_c hG54 (xne_j hj9999i hj9999a (by first | decide | omega))).trans (lc_c hG39 (xne_j hj9999i hj9999 (by first | decide | omega))))) : G69.2.1 (F p0 3) = G.2.1 (F p0 3))])
        refine as_0 (x := x83) S hK hT hS hk9999c ar_22 aw_22 (by decide) (z_X4_add_3 ((G.1 a 6).toInt) s0) dX4_take_84 (fun H locs hT hS => ?_)
        obtain ⟨G84, hG84⟩ : ∃ G9 : XG, G9 = cput G69 (F a 3) (G.1 a 6).toNatClampNeg x83 := ⟨_, rfl⟩
        rw [← hG84] at hT
        refine lv_aload_n hx hb dX4_take_85 rfl (lv_at hl 0 rfl) ?_
        refine gX4_4 S hK hT ha kf_X4_26 dX4_take_86 (fun _ _ => ?_)
        refine lv_aload_n hx hb dX4_take_89 rfl (lv_at hl 0 rfl) ?_
        refine gX4_6 S hK hT ha kf_X4_33 dX4_take_90 (v := (G.1 a 6)) ((lc_d hG84).trans ((lc_d hG69).trans ((lc_d hG54).trans (lc_d hG39)))) (?_)
        refine lv_aload_n hx hb dX4_take_93 rfl (lv_at hl 1 rfl) ?_
        refine gX4_4 S hK hT hp0 kf_X4_26 dX4_take_94 (fun _ _ => ?_)
        refine lv_iload_n hx hb dX4_take_97 rfl (lv_at hl 2 rfl) ?_
        refine al_3 S hK hT hk9999j ar_23 (by decide) (z_X4_take_4 p1.toInt ((G.1 p0 6).toInt) s1) dX4_take_98 (fun x98 hv98 o98 => ?_)
        have hv98 : x98.toInt = (aI (G.2.1 (F p0 4)) (p1.toInt)) := hv98.trans (by rw [(rfl : Int32.toInt p1 = p1.toInt), (((lc_c hG84 (xne_k hk9999j hk9999c (by decide))).trans ((lc_c hG69 (xne_k hk9999j hk9999b (by decide))).trans ((lc_c hG54 (xne_k hk9999j hk9999a (by decide))).trans (lc_c hG39 (xne_k hk9999j hk9999 (by decide)))))) : G84.2.1 (F p0 4) = G.2.1 (F p0 4))])
        refine as_3 (x := x98) S hK hT hS hk9999d ar_23 aw_23 (by decide) (z_X4_add_3 ((G.1 a 6).toInt) s0) dX4_take_99 (fun H locs hT hS => ?_)
        rw [(xnar3 (x01 (xz01 o98 rfl)))] at hT
        obtain ⟨G99, hG99⟩ : ∃ G9 : XG, G9 = cput G84 (F a 4) (G.1 a 6).toNatClampNeg x98 := ⟨_, rfl⟩
        rw [← hG99] at hT
        refine lv_aload_n hx hb dX4_take_100 rfl (lv_at hl 0 rfl) ?_
        refine gX4_5 S hK hT ha kf_X4_30 dX4_take_101 (fun _ _ => ?_)
        refine lv_aload_n hx hb dX4_take_104 rfl (lv_at hl 0 rfl) ?_
        refine gX4_6 S hK hT ha kf_X4_33 dX4_take_105 (v := (G.1 a 6)) ((lc_d hG99).trans ((lc_d hG84).trans ((lc_d hG69).trans ((lc_d hG54).trans (lc_d hG39))))) (?_)
        refine lv_aload_n hx hb dX4_take_108 rfl (lv_at hl 1 rfl) ?_
        refine gX4_5 S hK hT hp0 kf_X4_30 dX4_take_109 (fun _ _ => ?_)
        refine lv_iload_n hx hb dX4_take_112 rfl (lv_at hl 2 rfl) ?_
        refine al_3 S hK hT hk9999k ar_23 (by decide) (z_X4_take_4 p1.toInt ((G.1 p0 6).toInt) s1) dX4_take_113 (fun x113 hv113 o113 => ?_)
        have hv113 : x113.toInt = (aI (G.2.1 (F p0 5)) (p1.toInt)) := hv113.trans (by rw [(rfl : Int32.toInt p1 = p1.toInt), (((lc_c hG99 (xne_j hj9999k hj9999d (by first | decide | omega))).trans ((lc_c hG84 (xne_k hk9999k hk9999c (by decide))).trans ((lc_c hG69 (xne_k hk9999k hk9999b (by decide))).trans ((lc_c hG54 (xne_k hk9999k hk9999a (by decide))).trans (lc_c hG39 (xne_k hk9999k hk9999 (by decide))))))) : G99.2.1 (F p0 5) = G.2.1 (F p0 5))])
        refine as_3 (x := x113) S hK hT hS hk9999e ar_23 aw_23 (by decide) (z_X4_add_3 ((G.1 a 6).toInt) s0) dX4_take_114 (fun H locs hT hS => ?_)
        rw [(xnar3 (x01 (xz01 o113 rfl)))] at hT
        obtain ⟨G114, hG114⟩ : ∃ G9 : XG, G9 = cput G99 (F a 5) (G.1 a 6).toNatClampNeg x113 := ⟨_, rfl⟩
        rw [← hG114] at hT
        refine lv_aload_n hx hb dX4_take_115 rfl (lv_at hl 0 rfl) ?_
        refine lv_dup hx hb dX4_take_116 rfl ?_
        refine gX4_6 S hK hT ha kf_X4_33 dX4_take_117 (v := (G.1 a 6)) ((lc_d hG114).trans ((lc_d hG99).trans ((lc_d hG84).trans ((lc_d hG69).trans ((lc_d hG54).trans (lc_d hG39)))))) (?_)
        refine lv_iconst (v := 1) hx hb dX4_take_120 (by decide) ?_
        refine xi_iadd hx hb (rfl : Int32.toInt (G.1 a 6) = ((G.1 a 6).toInt)) ((by decide) : Int32.toInt 1 = (1 : Int)) dX4_take_121 (fun x121 t121 => ?_)
        have e121 : x121.toInt = (((G.1 a 6).toInt) + (1 : Int)) := (z_X4_add_9 x121.toInt ((G.1 a 6).toInt) s0 t121)
        refine pX4_6 (v := x121) S hK hT hS ha kf_X4_33 dX4_take_122 (fun H locs hT hS => ?_)
        obtain ⟨G122, hG122⟩ : ∃ G9 : XG, G9 = dput G114 a 6 x121 := ⟨_, rfl⟩
        rw [← hG122] at hT
        exact x_rv hx hb hr hlk hQ (Nat.le_of_ble_eq_true rfl) (Nat.le_of_ble_eq_true rfl) hS dX4_take_125 G122 ⟨(by rw [hG122]; exact XFr.dput (by rw [hG114]; exact XFr.cput (by rw [hG99]; exact XFr.cput (by rw [hG84]; exact XFr.cput (by rw [hG69]; exact XFr.cput (by rw [hG54]; exact XFr.cput (by rw [hG39]; exact XFr.cput XFr.rf (List.mem_of_getElem? (i := 0) rfl)) (List.mem_of_getElem? (i := 1) rfl)) (List.mem_of_getElem? (i := 2) rfl)) (List.mem_of_getElem? (i := 3) rfl)) (List.mem_of_getElem? (i := 4) rfl)) (List.mem_of_getElem? (i := 5) rfl)) (List.mem_of_getElem? (i := 0) rfl)), (by rw [(show (G122.1 a 6).toInt = (((G.1 a 6).toInt) + (1 : Int)) from (congrArg Int32.toInt (ld_at hG122)).trans (e121 : Int32.toInt x121 = (((G.1 a 6).toInt) + (1 : Int))))] <;> exact (z_X4_add_10 ((G.1 a 6).toInt))), (v_X4_take_125_4 a p0 G39 G x38 G54 x53 G69 x68 G84 x83 G99 x98 G114 x113 G122 x121 p1 x19 ha hp0 hG39 hG54 hG69 hG84 hG99 hG114 hne hv38 hv53 hv68 hv83 hv98 hv113 e121 s0 s1 c4 c14 t19 c22 (xz01 o98 hv98) (xz01 o113 hv113) ((ld_c hG122).trans ((lc_c hG114 (xne_k hk9999 hk9999e (by decide))).trans ((lc_c hG99 (xne_k hk9999 hk9999d (by decide))).trans ((lc_c hG84 (xne_j hj9999 hj9999c (by first | decide | omega))).trans ((lc_c hG69 (xne_j hj9999 hj9999b (by first | decide | omega))).trans (lc_c hG54 (xne_j hj9999 hj9999a (by first | decide | omega)))))))) ((ld_c hG122).trans ((lc_c hG114 (xne_k hk9999a hk9999e (by decide))).trans ((lc_c hG99 (xne_k hk9999a hk9999d (by decide))).trans ((lc_c hG84 (xne_j hj9999a hj9999c (by first | decide | omega))).trans (lc_c hG69 (xne_j hj9999a hj9999b (by first | decide | omega))))))) ((ld_c hG122).trans ((lc_c hG114 (xne_k hk9999b hk9999e (by decide))).trans ((lc_c hG99 (xne_k hk9999b hk9999d (by decide))).trans (lc_c hG84 (xne_j hj9999b hj9999c (by first | decide | omega)))))) ((ld_c hG122).trans ((lc_c hG114 (xne_k hk9999c hk9999e (by decide))).trans (lc_c hG99 (xne_k hk9999c hk9999d (by decide))))) ((ld_c hG122).trans (lc_c hG114 (xne_j hj9999d hj9999e (by first | decide | omega)))) (ld_c hG122) (lc_c hG39 (xne_j hj9999a hj9999 (by first | decide | omega))) ((lc_c hG54 (xne_j hj9999b hj9999a (by first | decide | omega))).trans (lc_c hG39 (xne_j hj9999b hj9999 (by first | decide | omega)))) ((lc_c hG69 (xne_j hj9999c hj9999b (by first | decide | omega))).trans ((lc_c hG54 (xne_j hj9999c hj9999a (by first | decide | omega))).trans (lc_c hG39 (xne_j hj9999c hj9999 (by first | decide | omega))))) ((lc_c hG84 (xne_k hk9999d hk9999c (by decide))).trans ((lc_c hG69 (xne_k hk9999d hk9999b (by decide))).trans ((lc_c hG54 (xne_k hk9999d hk9999a (by decide))).trans (lc_c hG39 (xne_k hk9999d hk9999 (by decide)))))) ((lc_c hG99 (xne_j hj9999e hj9999d (by first | decide | omega))).trans ((lc_c hG84 (xne_k hk9999e hk9999c (by decide))).trans ((lc_c hG69 (xne_k hk9999e hk9999b (by decide))).trans ((lc_c hG54 (xne_k hk9999e hk9999a (by decide))).trans (lc_c hG39 (xne_k hk9999e hk9999 (by decide))))))) (ld_at hG122))⟩ hT

theorem z_X4_number_1 (a0 : Int) (a1 : Int) (a2 : Int) (a3 : Int) (h0 : ((0 ≤ a0 ∧ a0 < a2 ∧ a0 < 1080) ∧ a1 = 1) ∨ (¬ (0 ≤ a0 ∧ a0 < a2 ∧ a0 < 1080) ∧ a1 = 0)) (h1 : a1 = 0) : ((0 ≤ a0 ∧ a0 < a2 ∧ a0 < 1080) ∧ (-1 : Int) = a3) ∨ (¬ (0 ≤ a0 ∧ a0 < a2 ∧ a0 < 1080) ∧ (-1 : Int) = -1) := by omega
theorem z_X4_number_2 (a0 : Int) (a1 : Int) (a2 : Int) (h0 : ((0 ≤ a0 ∧ a0 < a2 ∧ a0 < 1080) ∧ a1 = 1) ∨ (¬ (0 ≤ a0 ∧ a0 < a2 ∧ a0 < 1080) ∧ a1 = 0)) (h1 : ¬ (a1 = 0)) : 0 ≤ a0 ∧ a0 < ((1080 : Nat) : Int) := by omega
theorem z_X4_number_3 (a0 : Int) (a1 : Int) (a2 : Int) (a3 : Int) (h0 : ((0 ≤ a0 ∧ a0 < a2 ∧ a0 < 1080) ∧ a1 = 1) ∨ (¬ (0 ≤ a0 ∧ a0 < a2 ∧ a0 < 1080) ∧ a1 = 0)) (h1 : ¬ (a1 = 0)) : ((0 ≤ a0 ∧ a0 < a2 ∧ a0 < 1080) ∧ a3 = a3) ∨ (¬ (0 ≤ a0 ∧ a0 < a2 ∧ a0 < 1080) ∧ a3 = -1) := by omega
abbrev rm_X4_number : Room := { frames := 1, cells := 0, slots := 0, locals := 21 }
set_option maxHeartbeats 4000000 in
set_option maxRecDepth 100000 in
theorem c_X4_number (l : Launch) (E : XE) (K : Nat → Nat) (F : Nat → Nat → Nat) (G : XG) (h0 : Heap) (a : Nat) (p0 : Int32) (ha : K a = 6) : Met l yX4_number (xw yX4_number cX4_number 2 (some .int)) rm_X4_number (va_Pc [.ref a, .int p0] (XPh E K F G h0)) (XQ E (fun v (u : Unit) => ∃ r : Int32, v = .int r ∧ (((0 ≤ p0.toInt ∧ p0.toInt < ((G.1 a 6).toInt) ∧ p0.toInt < 1080) ∧ r.toInt = (aI (G.2.1 (F a 0)) (p0.toInt))) ∨ (¬ (0 ≤ p0.toInt ∧ p0.toInt < ((G.1 a 6).toInt) ∧ p0.toInt < 1080) ∧ r.toInt = -1))) (fun _ H => H = h0)) 0 0 (xA E) := by
  refine x_enter (by decide) (Nat.le_of_ble_eq_true rfl) ?_
  intro p e s m args below meth c Q S hr hlk hnm hQ hP ls hl
  obtain ⟨⟨hz, hK, hT⟩, hh⟩ := hP
  obtain ⟨hx, hb, -, -, -⟩ := id S
  have hS : va_S (xA E) s.heap s.heap [] := va_S.rf
  have hl : lv_has ls 2 [(0, .ref a), (1, .int p0)] := hl
  obtain ⟨hk9999, hj9999⟩ := fkX4_0 hT ha
  refine lv_aload_n hx hb dX4_number_0 rfl (lv_at hl 0 rfl) ?_
  refine lv_iload_n hx hb dX4_number_1 rfl (lv_at hl 1 rfl) ?_
  refine x_clp (x_runV (b := a) (As := [.int p0]) (rest := []) S (c_X4_isInside l E K F G s.heap a p0 ha) mv_X4_isInside km_X4_46 rfl rfl ⟨Nat.le_of_ble_eq_true rfl, Nat.le_of_ble_eq_true rfl⟩ (rc_6 hK hT ha) hK (fun _ => XPh.blind) (fun U hU hW => XPh.at hK hz hS hT hU hW) rfl hl.1 (Nat.le_of_ble_eq_true rfl) dX4_number_2 ⟨Nat.le_of_ble_eq_true rfl, Nat.le_of_ble_eq_true rfl⟩) hS ?_
  rintro _ _ locs ⟨x2, rfl, b2, t2⟩ hS
  have t2 : ((0 ≤ p0.toInt ∧ p0.toInt < ((G.1 a 6).toInt) ∧ p0.toInt < 1080) ∧ x2.toInt = 1) ∨ (¬ (0 ≤ p0.toInt ∧ p0.toInt < ((G.1 a 6).toInt) ∧ p0.toInt < 1080) ∧ x2.toInt = 0) := t2
  refine xi_zeq (tgt := 17) hx hb (rfl : Int32.toInt x2 = x2.toInt) dX4_number_5 (by decide) (fun c5 => ?_) (fun c5 => ?_)
  · refine lv_iconst (v := (-1)) hx hb dX4_number_17 (by decide) ?_
    exact x_ri hx hb hr hlk hQ (Nat.le_of_ble_eq_true rfl) (Nat.le_of_ble_eq_true rfl) hS dX4_number_18 () ⟨_, rfl, (by rw [((by decide) : Int32.toInt (-1) = (-1 : Int))] <;> exact (z_X4_number_1 p0.toInt x2.toInt ((G.1 a 6).toInt) (aI (G.2.1 (F a 0)) (p0.toInt)) t2 c5))⟩ hh
  · refine lv_aload_n hx hb dX4_number_8 rfl (lv_at hl 0 rfl) ?_
    refine gX4_0 S hK hT ha kf_X4_13 dX4_number_9 (fun _ _ => ?_)
    refine lv_iload_n hx hb dX4_number_12 rfl (lv_at hl 1 rfl) ?_
    refine al_0 S hK hT hk9999 ar_22 (by decide) (z_X4_number_2 p0.toInt x2.toInt ((G.1 a 6).toInt) t2 c5) dX4_number_13 (fun x13 hv13 o13 => ?_)
    have hv13 : x13.toInt = (aI (G.2.1 (F a 0)) (p0.toInt)) := hv13.trans (by rw [(rfl : Int32.toInt p0 = p0.toInt)])
    refine lv_goto (tgt := 18) hx hb dX4_number_14 (by decide) ?_
    exact x_ri hx hb hr hlk hQ (Nat.le_of_ble_eq_true rfl) (Nat.le_of_ble_eq_true rfl) hS dX4_number_18 () ⟨_, rfl, (by rw [(hv13 : Int32.toInt x13 = (aI (G.2.1 (F a 0)) (p0.toInt)))] <;> exact (z_X4_number_3 p0.toInt x2.toInt ((G.1 a 6).toInt) (aI (G.2.1 (F a 0)) (p0.toInt)) t2 c5))⟩ hh

abbrev rm_X4_subject : Room := { frames := 1, cells := 0, slots := 0, locals := 21 }
set_option maxHeartbeats 4000000 in
set_option maxRecDepth 100000 in
theorem c_X4_subject (l : Launch) (E : XE) (K : Nat → Nat) (F : Nat → Nat → Nat) (G : XG) (h0 : Heap) (a : Nat) (p0 : Int32) (ha : K a = 6) : Met l yX4_subject (xw yX4_subject cX4_subject 2 (some .int)) rm_X4_subject (va_Pc [.ref a, .int p0] (XPh E K F G h0)) (XQ E (fun v (u : Unit) => ∃ r : Int32, v = .int r ∧ (((0 ≤ p0.toInt ∧ p0.toInt < ((G.1 a 6).toInt) ∧ p0.toInt < 1080) ∧ r.toInt = (aI (G.2.1 (F a 1)) (p0.toInt))) ∨ (¬ (0 ≤ p0.toInt ∧ p0.toInt < ((G.1 a 6).toInt) ∧ p0.toInt < 1080) ∧ r.toInt = -1))) (fun _ H => H = h0)) 0 0 (xA E) := by
  refine x_enter (by decide) (Nat.le_of_ble_eq_true rfl) ?_
  intro p e s m args below meth c Q S hr hlk hnm hQ hP ls hl
  obtain ⟨⟨hz, hK, hT⟩, hh⟩ := hP
  obtain ⟨hx, hb, -, -, -⟩ := id S
  have hS : va_S (xA E) s.heap s.heap [] := va_S.rf
  have hl : lv_has ls 2 [(0, .ref a), (1, .int p0)] := hl
  obtain ⟨hk9999, hj9999⟩ := fkX4_1 hT ha
  refine lv_aload_n hx hb dX4_subject_0 rfl (lv_at hl 0 rfl) ?_
  refine lv_iload_n hx hb dX4_subject_1 rfl (lv_at hl 1 rfl) ?_
  refine x_clp (x_runV (b := a) (As := [.int p0]) (rest := []) S (c_X4_isInside l E K F G s.heap a p0 ha) mv_X4_isInside km_X4_46 rfl rfl ⟨Nat.le_of_ble_eq_true rfl, Nat.le_of_ble_eq_true rfl⟩ (rc_6 hK hT ha) hK (fun _ => XPh.blind) (fun U hU hW => XPh.at hK hz hS hT hU hW) rfl hl.1 (Nat.le_of_ble_eq_true rfl) dX4_subject_2 ⟨Nat.le_of_ble_eq_true rfl, Nat.le_of_ble_eq_true rfl⟩) hS ?_
  rintro _ _ locs ⟨x2, rfl, b2, t2⟩ hS
  have t2 : ((0 ≤ p0.toInt ∧ p0.toInt < ((G.1 a 6).toInt) ∧ p0.toInt < 1080) ∧ x2.toInt = 1) ∨ (¬ (0 ≤ p0.toInt ∧ p0.toInt < ((G.1 a 6).toInt) ∧ p0.toInt < 1080) ∧ x2.toInt = 0) := t2
  refine xi_zeq (tgt := 17) hx hb (rfl : Int32.toInt x2 = x2.toInt) dX4_subject_5 (by decide) (fun c5 => ?_) (fun c5 => ?_)
  · refine lv_iconst (v := (-1)) hx hb dX4_subject_17 (by decide) ?_
    exact x_ri hx hb hr hlk hQ (Nat.le_of_ble_eq_true rfl) (Nat.le_of_ble_eq_true rfl) hS dX4_subject_18 () ⟨_, rfl, (by rw [((by decide) : Int32.toInt (-1) = (-1 : Int))] <;> exact (z_X4_number_1 p0.toInt x2.toInt ((G.1 a 6).toInt) (aI (G.2.1 (F a 1)) (p0.toInt)) t2 c5))⟩ hh
  · refine lv_aload_n hx hb dX4_subject_8 rfl (lv_at hl 0 rfl) ?_
    refine gX4_1 S hK hT ha kf_X4_17 dX4_subject_9 (fun _ _ => ?_)
    refine lv_iload_n hx hb dX4_subject_12 rfl (lv_at hl 1 rfl) ?_
    refine al_0 S hK hT hk9999 ar_22 (by decide) (z_X4_number_2 p0.toInt x2.toInt ((G.1 a 6).toInt) t2 c5) dX4_subject_13 (fun x13 hv13 o13 => ?_)
    have hv13 : x13.toInt = (aI (G.2.1 (F a 1)) (p0.toInt)) := hv13.trans (by rw [(rfl : Int32.toInt p0 = p0.toInt)])
    refine lv_goto (tgt := 18) hx hb dX4_subject_14 (by decide) ?_
    exact x_ri hx hb hr hlk hQ (Nat.le_of_ble_eq_true rfl) (Nat.le_of_ble_eq_true rfl) hS dX4_subject_18 () ⟨_, rfl, (by rw [(hv13 : Int32.toInt x13 = (aI (G.2.1 (F a 1)) (p0.toInt)))] <;> exact (z_X4_number_3 p0.toInt x2.toInt ((G.1 a 6).toInt) (aI (G.2.1 (F a 1)) (p0.toInt)) t2 c5))⟩ hh

theorem z_X4_before_1 (a0 : Int) (a1 : Int) (a2 : Int) (a3 : Int) (h0 : ((0 ≤ a0 ∧ a0 < a2 ∧ a0 < 1080) ∧ a1 = 1) ∨ (¬ (0 ≤ a0 ∧ a0 < a2 ∧ a0 < 1080) ∧ a1 = 0)) (h1 : a1 = 0) : ((0 ≤ a0 ∧ a0 < a2 ∧ a0 < 1080) ∧ (-2000 : Int) = a3) ∨ (¬ (0 ≤ a0 ∧ a0 < a2 ∧ a0 < 1080) ∧ (-2000 : Int) = -2000) := by omega
theorem z_X4_before_3 (a0 : Int) (a1 : Int) (a2 : Int) (a3 : Int) (h0 : ((0 ≤ a0 ∧ a0 < a2 ∧ a0 < 1080) ∧ a1 = 1) ∨ (¬ (0 ≤ a0 ∧ a0 < a2 ∧ a0 < 1080) ∧ a1 = 0)) (h1 : ¬ (a1 = 0)) : ((0 ≤ a0 ∧ a0 < a2 ∧ a0 < 1080) ∧ a3 = a3) ∨ (¬ (0 ≤ a0 ∧ a0 < a2 ∧ a0 < 1080) ∧ a3 = -2000) := by omega
abbrev rm_X4_before : Room := { frames := 1, cells := 0, slots := 0, locals := 21 }
set_option maxHeartbeats 4000000 in
set_option maxRecDepth 100000 in
theorem c_X4_before (l : Launch) (E : XE) (K : Nat → Nat) (F : Nat → Nat → Nat) (G : XG) (h0 : Heap) (a : Nat) (p0 : Int32) (ha : K a = 6) : Met l yX4_before (xw yX4_before cX4_before 2 (some .int)) rm_X4_before (va_Pc [.ref a, .int p0] (XPh E K F G h0)) (XQ E (fun v (u : Unit) => ∃ r : Int32, v = .int r ∧ (((0 ≤ p0.toInt ∧ p0.toInt < ((G.1 a 6).toInt) ∧ p0.toInt < 1080) ∧ r.toInt = (aI (G.2.1 (F a 2)) (p0.toInt))) ∨ (¬ (0 ≤ p0.toInt ∧ p0.toInt < ((G.1 a 6).toInt) ∧ p0.toInt < 1080) ∧ r.toInt = -2000))) (fun _ H => H = h0)) 0 0 (xA E) := by
  refine x_enter (by decide) (Nat.le_of_ble_eq_true rfl) ?_
  intro p e s m args below meth c Q S hr hlk hnm hQ hP ls hl
  obtain ⟨⟨hz, hK, hT⟩, hh⟩ := hP
  obtain ⟨hx, hb, -, -, -⟩ := id S
  have hS : va_S (xA E) s.heap s.heap [] := va_S.rf
  have hl : lv_has ls 2 [(0, .ref a), (1, .int p0)] := hl
  obtain ⟨hk9999, hj9999⟩ := fkX4_2 hT ha
  refine lv_aload_n hx hb dX4_before_0 rfl (lv_at hl 0 rfl) ?_
  refine lv_iload_n hx hb dX4_before_1 rfl (lv_at hl 1 rfl) ?_
  refine x_clp (x_runV (b := a) (As := [.int p0]) (rest := []) S (c_X4_isInside l E K F G s.heap a p0 ha) mv_X4_isInside km_X4_46 rfl rfl ⟨Nat.le_of_ble_eq_true rfl, Nat.le_of_ble_eq_true rfl⟩ (rc_6 hK hT ha) hK (fun _ => XPh.blind) (fun U hU hW => XPh.at hK hz hS hT hU hW) rfl hl.1 (Nat.le_of_ble_eq_true rfl) dX4_before_2 ⟨Nat.le_of_ble_eq_true rfl, Nat.le_of_ble_eq_true rfl⟩) hS ?_
  rintro _ _ locs ⟨x2, rfl, b2, t2⟩ hS
  have t2 : ((0 ≤ p0.toInt ∧ p0.toInt < ((G.1 a 6).toInt) ∧ p0.toInt < 1080) ∧ x2.toInt = 1) ∨ (¬ (0 ≤ p0.toInt ∧ p0.toInt < ((G.1 a 6).toInt) ∧ p0.toInt < 1080) ∧ x2.toInt = 0) := t2
  refine xi_zeq (tgt := 17) hx hb (rfl : Int32.toInt x2 = x2.toInt) dX4_before_5 (by decide) (fun c5 => ?_) (fun c5 => ?_)
  · refine lv_sipush (v := (-2000)) hx hb dX4_before_17 (by decide) ?_
    exact x_ri hx hb hr hlk hQ (Nat.le_of_ble_eq_true rfl) (Nat.le_of_ble_eq_true rfl) hS dX4_before_20 () ⟨_, rfl, (by rw [((by decide) : Int32.toInt (-2000) = (-2000 : Int))] <;> exact (z_X4_before_1 p0.toInt x2.toInt ((G.1 a 6).toInt) (aI (G.2.1 (F a 2)) (p0.toInt)) t2 c5))⟩ hh
  · refine lv_aload_n hx hb dX4_before_8 rfl (lv_at hl 0 rfl) ?_
    refine gX4_2 S hK hT ha kf_X4_20 dX4_before_9 (fun _ _ => ?_)
    refine lv_iload_n hx hb dX4_before_12 rfl (lv_at hl 1 rfl) ?_
    refine al_0 S hK hT hk9999 ar_22 (by decide) (z_X4_number_2 p0.toInt x2.toInt ((G.1 a 6).toInt) t2 c5) dX4_before_13 (fun x13 hv13 o13 => ?_)
    have hv13 : x13.toInt = (aI (G.2.1 (F a 2)) (p0.toInt)) := hv13.trans (by rw [(rfl : Int32.toInt p0 = p0.toInt)])
    refine lv_goto (tgt := 20) hx hb dX4_before_14 (by decide) ?_
    exact x_ri hx hb hr hlk hQ (Nat.le_of_ble_eq_true rfl) (Nat.le_of_ble_eq_true rfl) hS dX4_before_20 () ⟨_, rfl, (by rw [(hv13 : Int32.toInt x13 = (aI (G.2.1 (F a 2)) (p0.toInt)))] <;> exact (z_X4_before_3 p0.toInt x2.toInt ((G.1 a 6).toInt) (aI (G.2.1 (F a 2)) (p0.toInt)) t2 c5))⟩ hh

abbrev rm_X4_after : Room := { frames := 1, cells := 0, slots := 0, locals := 21 }
set_option maxHeartbeats 4000000 in
set_option maxRecDepth 100000 in
theorem c_X4_after (l : Launch) (E : XE) (K : Nat → Nat) (F : Nat → Nat → Nat) (G : XG) (h0 : Heap) (a : Nat) (p0 : Int32) (ha : K a = 6) : Met l yX4_after (xw yX4_after cX4_after 2 (some .int)) rm_X4_after (va_Pc [.ref a, .int p0] (XPh E K F G h0)) (XQ E (fun v (u : Unit) => ∃ r : Int32, v = .int r ∧ (((0 ≤ p0.toInt ∧ p0.toInt < ((G.1 a 6).toInt) ∧ p0.toInt < 1080) ∧ r.toInt = (aI (G.2.1 (F a 3)) (p0.toInt))) ∨ (¬ (0 ≤ p0.toInt ∧ p0.toInt < ((G.1 a 6).toInt) ∧ p0.toInt < 1080) ∧ r.toInt = -2000))) (fun _ H => H = h0)) 0 0 (xA E) := by
  refine x_enter (by decide) (Nat.le_of_ble_eq_true rfl) ?_
  intro p e s m args below meth c Q S hr hlk hnm hQ hP ls hl
  obtain ⟨⟨hz, hK, hT⟩, hh⟩ := hP
  obtain ⟨hx, hb, -, -, -⟩ := id S
  have hS : va_S (xA E) s.heap s.heap [] := va_S.rf
  have hl : lv_has ls 2 [(0, .ref a), (1, .int p0)] := hl
  obtain ⟨hk9999, hj9999⟩ := fkX4_3 hT ha
  refine lv_aload_n hx hb dX4_after_0 rfl (lv_at hl 0 rfl) ?_
  refine lv_iload_n hx hb dX4_after_1 rfl (lv_at hl 1 rfl) ?_
  refine x_clp (x_runV (b := a) (As := [.int p0]) (rest := []) S (c_X4_isInside l E K F G s.heap a p0 ha) mv_X4_isInside km_X4_46 rfl rfl ⟨Nat.le_of_ble_eq_true rfl, Nat.le_of_ble_eq_true rfl⟩ (rc_6 hK hT ha) hK (fun _ => XPh.blind) (fun U hU hW => XPh.at hK hz hS hT hU hW) rfl hl.1 (Nat.le_of_ble_eq_true rfl) dX4_after_2 ⟨Nat.le_of_ble_eq_true rfl, Nat.le_of_ble_eq_true rfl⟩) hS ?_
  rintro _ _ locs ⟨x2, rfl, b2, t2⟩ hS
  have t2 : ((0 ≤ p0.toInt ∧ p0.toInt < ((G.1 a 6).toInt) ∧ p0.toInt < 1080) ∧ x2.toInt = 1) ∨ (¬ (0 ≤ p0.toInt ∧ p0.toInt < ((G.1 a 6).toInt) ∧ p0.toInt < 1080) ∧ x2.toInt = 0) := t2
  refine xi_zeq (tgt := 17) hx hb (rfl : Int32.toInt x2 = x2.toInt) dX4_after_5 (by decide) (fun c5 => ?_) (fun c5 => ?_)
  · refine lv_sipush (v := (-2000)) hx hb dX4_after_17 (by decide) ?_
    exact x_ri hx hb hr hlk hQ (Nat.le_of_ble_eq_true rfl) (Nat.le_of_ble_eq_true rfl) hS dX4_after_20 () ⟨_, rfl, (by rw [((by decide) : Int32.toInt (-2000) = (-2000 : Int))] <;> exact (z_X4_before_1 p0.toInt x2.toInt ((G.1 a 6).toInt) (aI (G.2.1 (F a 3)) (p0.toInt)) t2 c5))⟩ hh
  · refine lv_aload_n hx hb dX4_after_8 rfl (lv_at hl 0 rfl) ?_
    refine gX4_3 S hK hT ha kf_X4_23 dX4_after_9 (fun _ _ => ?_)
    refine lv_iload_n hx hb dX4_after_12 rfl (lv_at hl 1 rfl) ?_
    refine al_0 S hK hT hk9999 ar_22 (by decide) (z_X4_number_2 p0.toInt x2.toInt ((G.1 a 6).toInt) t2 c5) dX4_after_13 (fun x13 hv13 o13 => ?_)
    have hv13 : x13.toInt = (aI (G.2.1 (F a 3)) (p0.toInt)) := hv13.trans (by rw [(rfl : Int32.toInt p0 = p0.toInt)])
    refine lv_goto (tgt := 20) hx hb dX4_after_14 (by decide) ?_
    exact x_ri hx hb hr hlk hQ (Nat.le_of_ble_eq_true rfl) (Nat.le_of_ble_eq_true rfl) hS dX4_after_20 () ⟨_, rfl, (by rw [(hv13 : Int32.toInt x13 = (aI (G.2.1 (F a 3)) (p0.toInt)))] <;> exact (z_X4_before_3 p0.toInt x2.toInt ((G.1 a 6).toInt) (aI (G.2.1 (F a 3)) (p0.toInt)) t2 c5))⟩ hh

theorem z_X4_isLate_1 (a0 : Int) (a1 : Int) (a2 : Int) (a3 : Int) (h0 : ((0 ≤ a0 ∧ a0 < a2 ∧ a0 < 1080) ∧ a1 = 1) ∨ (¬ (0 ≤ a0 ∧ a0 < a2 ∧ a0 < 1080) ∧ a1 = 0)) (h1 : a1 = 0) : ((0 ≤ a0 ∧ a0 < a2 ∧ a0 < 1080) ∧ (0 : Int) = a3) ∨ (¬ (0 ≤ a0 ∧ a0 < a2 ∧ a0 < 1080) ∧ (0 : Int) = 0) := by omega
theorem z_X4_isLate_3 (a0 : Int) (a1 : Int) (a2 : Int) (h0 : a2 = 0) : ((0 ≤ a0 ∧ a0 < a1 ∧ a0 < 1080) ∧ (0 : Int) = a2) ∨ (¬ (0 ≤ a0 ∧ a0 < a1 ∧ a0 < 1080) ∧ (0 : Int) = 0) := by omega
theorem z_X4_isLate_4 (a0 : Int) (a1 : Int) (a2 : Int) (a3 : Int) (h0 : ((0 ≤ a0 ∧ a0 < a2 ∧ a0 < 1080) ∧ a1 = 1) ∨ (¬ (0 ≤ a0 ∧ a0 < a2 ∧ a0 < 1080) ∧ a1 = 0)) (h1 : ¬ (a1 = 0)) (h2 : a3 = 0 ∨ a3 = 1) (h3 : ¬ (a3 = 0)) : ((0 ≤ a0 ∧ a0 < a2 ∧ a0 < 1080) ∧ (1 : Int) = a3) ∨ (¬ (0 ≤ a0 ∧ a0 < a2 ∧ a0 < 1080) ∧ (1 : Int) = 0) := by omega
abbrev rm_X4_isLate : Room := { frames := 1, cells := 0, slots := 0, locals := 21 }
set_option maxHeartbeats 4000000 in
set_option maxRecDepth 100000 in
theorem c_X4_isLate (l : Launch) (E : XE) (K : Nat → Nat) (F : Nat → Nat → Nat) (G : XG) (h0 : Heap) (a : Nat) (p0 : Int32) (ha : K a = 6) : Met l yX4_isLate (xw yX4_isLate cX4_isLate 2 (some .boolean)) rm_X4_isLate (va_Pc [.ref a, .int p0] (XPh E K F G h0)) (XQ E (fun v (u : Unit) => ∃ r : Int32, v = .int r ∧ (r = 0 ∨ r = 1) ∧ (((0 ≤ p0.toInt ∧ p0.toInt < ((G.1 a 6).toInt) ∧ p0.toInt < 1080) ∧ r.toInt = (aI (G.2.1 (F a 4)) (p0.toInt))) ∨ (¬ (0 ≤ p0.toInt ∧ p0.toInt < ((G.1 a 6).toInt) ∧ p0.toInt < 1080) ∧ r.toInt = 0))) (fun _ H => H = h0)) 0 0 (xA E) := by
  refine x_enter (by decide) (Nat.le_of_ble_eq_true rfl) ?_
  intro p e s m args below meth c Q S hr hlk hnm hQ hP ls hl
  obtain ⟨⟨hz, hK, hT⟩, hh⟩ := hP
  obtain ⟨hx, hb, -, -, -⟩ := id S
  have hS : va_S (xA E) s.heap s.heap [] := va_S.rf
  have hl : lv_has ls 2 [(0, .ref a), (1, .int p0)] := hl
  obtain ⟨hk9999, hj9999⟩ := fkX4_4 hT ha
  refine lv_aload_n hx hb dX4_isLate_0 rfl (lv_at hl 0 rfl) ?_
  refine lv_iload_n hx hb dX4_isLate_1 rfl (lv_at hl 1 rfl) ?_
  refine x_clp (x_runV (b := a) (As := [.int p0]) (rest := []) S (c_X4_isInside l E K F G s.heap a p0 ha) mv_X4_isInside km_X4_46 rfl rfl ⟨Nat.le_of_ble_eq_true rfl, Nat.le_of_ble_eq_true rfl⟩ (rc_6 hK hT ha) hK (fun _ => XPh.blind) (fun U hU hW => XPh.at hK hz hS hT hU hW) rfl hl.1 (Nat.le_of_ble_eq_true rfl) dX4_isLate_2 ⟨Nat.le_of_ble_eq_true rfl, Nat.le_of_ble_eq_true rfl⟩) hS ?_
  rintro _ _ locs ⟨x2, rfl, b2, t2⟩ hS
  have t2 : ((0 ≤ p0.toInt ∧ p0.toInt < ((G.1 a 6).toInt) ∧ p0.toInt < 1080) ∧ x2.toInt = 1) ∨ (¬ (0 ≤ p0.toInt ∧ p0.toInt < ((G.1 a 6).toInt) ∧ p0.toInt < 1080) ∧ x2.toInt = 0) := t2
  refine xi_zeq (tgt := 21) hx hb (rfl : Int32.toInt x2 = x2.toInt) dX4_isLate_5 (by decide) (fun c5 => ?_) (fun c5 => ?_)
  · refine lv_iconst (v := 0) hx hb dX4_isLate_21 (by decide) ?_
    exact x_rz hx hb hr (xnz (Or.inl rfl)) hlk hQ (Nat.le_of_ble_eq_true rfl) (Nat.le_of_ble_eq_true rfl) hS dX4_isLate_22 () ⟨_, rfl, (Or.inl rfl), (z_X4_isLate_1 p0.toInt x2.toInt ((G.1 a 6).toInt) (aI (G.2.1 (F a 4)) (p0.toInt)) t2 c5)⟩ hh
  · refine lv_aload_n hx hb dX4_isLate_8 rfl (lv_at hl 0 rfl) ?_
    refine gX4_4 S hK hT ha kf_X4_26 dX4_isLate_9 (fun _ _ => ?_)
    refine lv_iload_n hx hb dX4_isLate_12 rfl (lv_at hl 1 rfl) ?_
    refine al_3 S hK hT hk9999 ar_23 (by decide) (z_X4_number_2 p0.toInt x2.toInt ((G.1 a 6).toInt) t2 c5) dX4_isLate_13 (fun x13 hv13 o13 => ?_)
    have hv13 : x13.toInt = (aI (G.2.1 (F a 4)) (p0.toInt)) := hv13.trans (by rw [(rfl : Int32.toInt p0 = p0.toInt)])
    refine xi_zeq (tgt := 21) hx hb (hv13 : Int32.toInt x13 = (aI (G.2.1 (F a 4)) (p0.toInt))) dX4_isLate_14 (by decide) (fun c14 => ?_) (fun c14 => ?_)
    · refine lv_iconst (v := 0) hx hb dX4_isLate_21 (by decide) ?_
      exact x_rz hx hb hr (xnz (Or.inl rfl)) hlk hQ (Nat.le_of_ble_eq_true rfl) (Nat.le_of_ble_eq_true rfl) hS dX4_isLate_22 () ⟨_, rfl, (Or.inl rfl), (z_X4_isLate_3 p0.toInt ((G.1 a 6).toInt) (aI (G.2.1 (F a 4)) (p0.toInt)) c14)⟩ hh
    · refine lv_iconst (v := 1) hx hb dX4_isLate_17 (by decide) ?_
      refine lv_goto (tgt := 22) hx hb dX4_isLate_18 (by decide) ?_
      exact x_rz hx hb hr (xnz (Or.inr rfl)) hlk hQ (Nat.le_of_ble_eq_true rfl) (Nat.le_of_ble_eq_true rfl) hS dX4_isLate_22 () ⟨_, rfl, (Or.inr rfl), (z_X4_isLate_4 p0.toInt x2.toInt ((G.1 a 6).toInt) (aI (G.2.1 (F a 4)) (p0.toInt)) t2 c5 (xz01 o13 hv13) c14)⟩ hh

abbrev rm_X4_fails : Room := { frames := 1, cells := 0, slots := 0, locals := 21 }
set_option maxHeartbeats 4000000 in
set_option maxRecDepth 100000 in
theorem c_X4_fails (l : Launch) (E : XE) (K : Nat → Nat) (F : Nat → Nat → Nat) (G : XG) (h0 : Heap) (a : Nat) (p0 : Int32) (ha : K a = 6) : Met l yX4_fails (xw yX4_fails cX4_fails 2 (some .boolean)) rm_X4_fails (va_Pc [.ref a, .int p0] (XPh E K F G h0)) (XQ E (fun v (u : Unit) => ∃ r : Int32, v = .int r ∧ (r = 0 ∨ r = 1) ∧ (((0 ≤ p0.toInt ∧ p0.toInt < ((G.1 a 6).toInt) ∧ p0.toInt < 1080) ∧ r.toInt = (aI (G.2.1 (F a 5)) (p0.toInt))) ∨ (¬ (0 ≤ p0.toInt ∧ p0.toInt < ((G.1 a 6).toInt) ∧ p0.toInt < 1080) ∧ r.toInt = 0))) (fun _ H => H = h0)) 0 0 (xA E) := by
  refine x_enter (by decide) (Nat.le_of_ble_eq_true rfl) ?_
  intro p e s m args below meth c Q S hr hlk hnm hQ hP ls hl
  obtain ⟨⟨hz, hK, hT⟩, hh⟩ := hP
  obtain ⟨hx, hb, -, -, -⟩ := id S
  have hS : va_S (xA E) s.heap s.heap [] := va_S.rf
  have hl : lv_has ls 2 [(0, .ref a), (1, .int p0)] := hl
  obtain ⟨hk9999, hj9999⟩ := fkX4_5 hT ha
  refine lv_aload_n hx hb dX4_fails_0 rfl (lv_at hl 0 rfl) ?_
  refine lv_iload_n hx hb dX4_fails_1 rfl (lv_at hl 1 rfl) ?_
  refine x_clp (x_runV (b := a) (As := [.int p0]) (rest := []) S (c_X4_isInside l E K F G s.heap a p0 ha) mv_X4_isInside km_X4_46 rfl rfl ⟨Nat.le_of_ble_eq_true rfl, Nat.le_of_ble_eq_true rfl⟩ (rc_6 hK hT ha) hK (fun _ => XPh.blind) (fun U hU hW => XPh.at hK hz hS hT hU hW) rfl hl.1 (Nat.le_of_ble_eq_true rfl) dX4_fails_2 ⟨Nat.le_of_ble_eq_true rfl, Nat.le_of_ble_eq_true rfl⟩) hS ?_
  rintro _ _ locs ⟨x2, rfl, b2, t2⟩ hS
  have t2 : ((0 ≤ p0.toInt ∧ p0.toInt < ((G.1 a 6).toInt) ∧ p0.toInt < 1080) ∧ x2.toInt = 1) ∨ (¬ (0 ≤ p0.toInt ∧ p0.toInt < ((G.1 a 6).toInt) ∧ p0.toInt < 1080) ∧ x2.toInt = 0) := t2
  refine xi_zeq (tgt := 21) hx hb (rfl : Int32.toInt x2 = x2.toInt) dX4_fails_5 (by decide) (fun c5 => ?_) (fun c5 => ?_)
  · refine lv_iconst (v := 0) hx hb dX4_fails_21 (by decide) ?_
    exact x_rz hx hb hr (xnz (Or.inl rfl)) hlk hQ (Nat.le_of_ble_eq_true rfl) (Nat.le_of_ble_eq_true rfl) hS dX4_fails_22 () ⟨_, rfl, (Or.inl rfl), (z_X4_isLate_1 p0.toInt x2.toInt ((G.1 a 6).toInt) (aI (G.2.1 (F a 5)) (p0.toInt)) t2 c5)⟩ hh
  · refine lv_aload_n hx hb dX4_fails_8 rfl (lv_at hl 0 rfl) ?_
    refine gX4_5 S hK hT ha kf_X4_30 dX4_fails_9 (fun _ _ => ?_)
    refine lv_iload_n hx hb dX4_fails_12 rfl (lv_at hl 1 rfl) ?_
    refine al_3 S hK hT hk9999 ar_23 (by decide) (z_X4_number_2 p0.toInt x2.toInt ((G.1 a 6).toInt) t2 c5) dX4_fails_13 (fun x13 hv13 o13 => ?_)
    have hv13 : x13.toInt = (aI (G.2.1 (F a 5)) (p0.toInt)) := hv13.trans (by rw [(rfl : Int32.toInt p0 = p0.toInt)])
    refine xi_zeq (tgt := 21) hx hb (hv13 : Int32.toInt x13 = (aI (G.2.1 (F a 5)) (p0.toInt))) dX4_fails_14 (by decide) (fun c14 => ?_) (fun c14 => ?_)
    · refine lv_iconst (v := 0) hx hb dX4_fails_21 (by decide) ?_
      exact x_rz hx hb hr (xnz (Or.inl rfl)) hlk hQ (Nat.le_of_ble_eq_true rfl) (Nat.le_of_ble_eq_true rfl) hS dX4_fails_22 () ⟨_, rfl, (Or.inl rfl), (z_X4_isLate_3 p0.toInt ((G.1 a 6).toInt) (aI (G.2.1 (F a 5)) (p0.toInt)) c14)⟩ hh
    · refine lv_iconst (v := 1) hx hb dX4_fails_17 (by decide) ?_
      refine lv_goto (tgt := 22) hx hb dX4_fails_18 (by decide) ?_
      exact x_rz hx hb hr (xnz (Or.inr rfl)) hlk hQ (Nat.le_of_ble_eq_true rfl) (Nat.le_of_ble_eq_true rfl) hS dX4_fails_22 () ⟨_, rfl, (Or.inr rfl), (z_X4_isLate_4 p0.toInt x2.toInt ((G.1 a 6).toInt) (aI (G.2.1 (F a 5)) (p0.toInt)) t2 c5 (xz01 o13 hv13) c14)⟩ hh

theorem z_X4_firstFailing_1 (a0 : Int) (h0 : -2147483648 ≤ a0 ∧ a0 < 2147483648) : ¬ (2147483648 - a0 < ((0 : Nat) : Int)) := by omega
theorem z_X4_firstFailing_2 (a0 : Int) (a1 : Int) : (-1 : Int) = -1 ∨ (0 ≤ (-1 : Int) ∧ (-1 : Int) < a0 ∧ a1 = 1) := by omega
theorem z_X4_firstFailing_3 (a0 : Int) (a1 : Int) (a2 : Int) (h0 : 0 ≤ a2 ∧ a2 ≤ 1080) (h1 : 0 ≤ a0 ∧ a0 ≤ a2) (h2 : a1 = (a0 + 1) ∨ (a0 + 1) < -2147483648 ∨ 2147483648 ≤ (a0 + 1)) : a1 = (a0 + 1) := by omega
theorem z_X4_firstFailing_4 (a0 : Int) (a1 : Int) (h0 : 0 ≤ a0 ∧ a0 ≤ a1) (h1 : ¬ (a1 ≤ a0)) : 0 ≤ (a0 + 1) ∧ (a0 + 1) ≤ a1 := by omega
theorem z_X4_firstFailing_5 (a0 : Int) (a1 : Int) (h0 : 0 ≤ a0 ∧ a0 ≤ a1) : (0 : Int) ≤ (a0 + 1) := by omega
theorem z_X4_firstFailing_6 (a0 : Int) (a1 : Nat) (h0 : 2147483648 - a0 < ((a1 + 1 : Nat) : Int)) : 2147483648 - (a0 + 1) < ((a1 : Nat) : Int) := by omega
theorem z_X4_firstFailing_7 (a0 : Int) (a1 : Int) (a2 : Int) (a3 : Int) (h0 : ((0 ≤ a0 ∧ a0 < a2 ∧ a0 < 1080) ∧ a1 = a3) ∨ (¬ (0 ≤ a0 ∧ a0 < a2 ∧ a0 < 1080) ∧ a1 = 0)) (h1 : a1 = 0 ∨ a1 = 1) (h2 : ¬ (a1 = 0)) : a0 = -1 ∨ (0 ≤ a0 ∧ a0 < a2 ∧ a3 = 1) := by omega
theorem z_X4_firstFailing_8 (a0 : Int) (h0 : 0 ≤ a0 ∧ a0 ≤ 1080) : 0 ≤ (0 : Int) ∧ (0 : Int) ≤ a0 := by omega
abbrev rm_X4_firstFailing : Room := { frames := 2, cells := 0, slots := 0, locals := 42 }
set_option maxHeartbeats 4000000 in
set_option maxRecDepth 100000 in
theorem c_X4_firstFailing (l : Launch) (E : XE) (K : Nat → Nat) (F : Nat → Nat → Nat) (G : XG) (h0 : Heap) (a : Nat) (ha : K a = 6) (s0 : 0 ≤ ((G.1 a 6).toInt) ∧ ((G.1 a 6).toInt) ≤ 1080) : Met l yX4_firstFailing (xw yX4_firstFailing cX4_firstFailing 2 (some .int)) rm_X4_firstFailing (va_Pc [.ref a] (XPh E K F G h0)) (XQ E (fun v (u : Unit) => ∃ r : Int32, v = .int r ∧ (r.toInt = -1 ∨ (0 ≤ r.toInt ∧ r.toInt < ((G.1 a 6).toInt) ∧ (aI (G.2.1 (F a 5)) (r.toInt)) = 1)) ∧ (∀ j : Int, 0 ≤ j → j < ((G.1 a 6).toInt) → (r.toInt = -1 ∨ j < r.toInt) → aI (G.2.1 (F a 5)) j = 0)) (fun _ H => H = h0)) 0 0 (xA E) := by
  refine x_enter (by decide) (Nat.le_of_ble_eq_true rfl) ?_
  intro p e s m args below meth c Q S hr hlk hnm hQ hP ls hl
  obtain ⟨⟨hz, hK, hT⟩, hh⟩ := hP
  obtain ⟨hx, hb, -, -, -⟩ := id S
  have hS : va_S (xA E) s.heap s.heap [] := va_S.rf
  have hl : lv_has ls 2 [(0, .ref a)] := hl
  obtain ⟨hk9999, hj9999⟩ := fkX4_5 hT ha
  refine lv_iconst (v := 0) hx hb dX4_firstFailing_0 (by decide) ?_
  refine lv_istore_n (lv' := [(1, .int 0), (0, .ref a)]) hx hb dX4_firstFailing_1 rfl hl (by decide) rfl (fun ls hl => ?_)
  have L2 : ∀ (N2 : Nat) (l1_2 : Int32) (locs : List Loc) (ls : Array Slot), (∀ j : Int, 0 ≤ j → j < l1_2.toInt → aI (G.2.1 (F a 5)) j = 0) → 0 ≤ l1_2.toInt ∧ l1_2.toInt ≤ ((G.1 a 6).toInt) → (0 : Int) ≤ l1_2.toInt → 2147483648 - l1_2.toInt < ((N2 : Nat) : Int) → TW E K F G s.heap → va_S (xA E) s.heap s.heap locs → lv_has ls 2 [(0, .ref a), (1, .int l1_2)] → W p l e rm_X4_firstFailing s m args below meth c s.heap locs 0 0 Q (F0 m 2 ls []) := by
    intro N2
    induction N2 with
    | zero =>
      intro l1_2 locs ls pf I2_0 I2_1 hm2
      exact absurd hm2 (z_X4_firstFailing_1 l1_2.toInt (xr l1_2))
    | succ N2 ih2 =>
      intro l1_2 locs ls pf I2_0 I2_1 hm2 hT hS hl
      refine lv_iload_n hx hb dX4_firstFailing_2 rfl (lv_at hl 1 rfl) ?_
      refine lv_aload_n hx hb dX4_firstFailing_3 rfl (lv_at hl 0 rfl) ?_
      refine gX4_6 S hK hT ha kf_X4_33 dX4_firstFailing_4 (v := (G.1 a 6)) rfl (?_)
      refine xi_cge (tgt := 26) hx hb (rfl : Int32.toInt l1_2 = l1_2.toInt) (rfl : Int32.toInt (G.1 a 6) = ((G.1 a 6).toInt)) dX4_firstFailing_7 (by decide) (fun c7 => ?_) (fun c7 => ?_)
      · refine lv_iconst (v := (-1)) hx hb dX4_firstFailing_26 (by decide) ?_
        exact x_ri hx hb hr hlk hQ (Nat.le_of_ble_eq_true rfl) (Nat.le_of_ble_eq_true rfl) hS dX4_firstFailing_27 () ⟨_, rfl, (by rw [((by decide) : Int32.toInt (-1) = (-1 : Int))] <;> exact (z_X4_firstFailing_2 ((G.1 a 6).toInt) (aI (G.2.1 (F a 5)) (-1 : Int)))), (by rw [((by decide) : Int32.toInt (-1) = (-1 : Int))] <;> exact (v_X4_firstFailing_27_1 a l1_2 G N2 ha pf s0 I2_0 I2_1 hm2 c7))⟩ hh
      · refine lv_aload_n hx hb dX4_firstFailing_10 rfl (lv_at hl 0 rfl) ?_
        refine lv_iload_n hx hb dX4_firstFailing_11 rfl (lv_at hl 1 rfl) ?_
        refine x_clp (x_runV (b := a) (As := [.int l1_2]) (rest := []) S (c_X4_fails l E K F G s.heap a l1_2 ha) mv_X4_fails km_X4_50 rfl rfl ⟨Nat.le_of_ble_eq_true rfl, Nat.le_of_ble_eq_true rfl⟩ (rc_6 hK hT ha) hK (fun _ => XPh.blind) (fun U hU hW => XPh.at hK hz hS hT hU hW) rfl hl.1 (Nat.le_of_ble_eq_true rfl) dX4_firstFailing_12 ⟨Nat.le_of_ble_eq_true rfl, Nat.le_of_ble_eq_true rfl⟩) hS ?_
        rintro _ _ locs ⟨x12, rfl, b12, t12⟩ hS
        have t12 : ((0 ≤ l1_2.toInt ∧ l1_2.toInt < ((G.1 a 6).toInt) ∧ l1_2.toInt < 1080) ∧ x12.toInt = (aI (G.2.1 (F a 5)) (l1_2.toInt))) ∨ (¬ (0 ≤ l1_2.toInt ∧ l1_2.toInt < ((G.1 a 6).toInt) ∧ l1_2.toInt < 1080) ∧ x12.toInt = 0) := t12
        refine xi_zeq (tgt := 20) hx hb (rfl : Int32.toInt x12 = x12.toInt) dX4_firstFailing_15 (by decide) (fun c15 => ?_) (fun c15 => ?_)
        · refine xi_iinc (n := 1) (lv' := fun z9 => [(1, .int z9), (0, .ref a)]) (k := 1) hx hb (rfl : Int32.toInt l1_2 = l1_2.toInt) (by decide) dX4_firstFailing_20 hl rfl (by decide) (fun _ => rfl) (fun x20 ls t20 hl => ?_)
          have e20 : x20.toInt = (l1_2.toInt + 1) := (z_X4_firstFailing_3 l1_2.toInt x20.toInt ((G.1 a 6).toInt) s0 I2_0 t20)
          have hl : lv_has ls 2 [(1, .int x20), (0, .ref a)] := hl
          refine lv_goto (tgt := 2) hx hb dX4_firstFailing_23 (by decide) ?_
          exact ih2 x20 _ _ (by rw [(e20 : Int32.toInt x20 = (l1_2.toInt + 1))] <;> exact (v_X4_firstFailing_23_2 a l1_2 G N2 x12 ha pf s0 I2_0 I2_1 hm2 c7 t12 (xzi b12) c15)) (by rw [(e20 : Int32.toInt x20 = (l1_2.toInt + 1))] <;> exact (z_X4_firstFailing_4 l1_2.toInt ((G.1 a 6).toInt) I2_0 c7)) (by rw [(e20 : Int32.toInt x20 = (l1_2.toInt + 1))] <;> exact (z_X4_firstFailing_5 l1_2.toInt ((G.1 a 6).toInt) I2_0)) (by rw [(e20 : Int32.toInt x20 = (l1_2.toInt + 1))] <;> exact (z_X4_firstFailing_6 l1_2.toInt N2 hm2)) hT hS (lv_sub hl [1, 0] rfl)
        · refine lv_iload_n hx hb dX4_firstFailing_18 rfl (lv_at hl 1 rfl) ?_
          exact x_ri hx hb hr hlk hQ (Nat.le_of_ble_eq_true rfl) (Nat.le_of_ble_eq_true rfl) hS dX4_firstFailing_19 () ⟨_, rfl, (z_X4_firstFailing_7 l1_2.toInt x12.toInt ((G.1 a 6).toInt) (aI (G.2.1 (F a 5)) (l1_2.toInt)) t12 (xzi b12) c15), (v_X4_firstFailing_19_3 a l1_2 G N2 x12 ha pf s0 I2_0 I2_1 hm2 c7 t12 (xzi b12) c15)⟩ hh
  exact L2 4294967297 0 _ _ (v_X4_firstFailing_1_4 a G ha s0) (z_X4_firstFailing_8 ((G.1 a 6).toInt) s0) (by decide) (by decide) hT hS (lv_sub hl [1, 0] rfl)

theorem z_X4_ofRule_2 (a0 : Int) (a1 : Int) (a2 : Int) (a3 : Int) (a4 : Int) (h0 : 0 ≤ a1 ∧ a1 ≤ a2) (h1 : a0 = a4) (h2 : a2 ≤ a1) (h3 : a1 = a2 → a4 = a3) : a0 = a3 := by omega
theorem z_X4_ofRule_3 (a0 : Int) (a1 : Int) (h0 : 0 ≤ a0 ∧ a0 ≤ a1) : 0 ≤ a0 := by omega
theorem z_X4_ofRule_6 (a0 : Int) (a1 : Int) (a2 : Int) (a3 : Int) (a4 : Int) (a5 : Int) (a6 : Int) (a7 : Int) (h0 : 0 ≤ a4 ∧ a4 ≤ 1080) (h1 : 0 ≤ a1 ∧ a1 ≤ a4) (h2 : a0 = a7) (h3 : ¬ (a4 ≤ a1)) (h4 : a5 ≠ a2 → a6 = a7) (h5 : ((0 ≤ a1 ∧ a1 < a4 ∧ a1 < 1080) ∧ a3 = a5) ∨ (¬ (0 ≤ a1 ∧ a1 < a4 ∧ a1 < 1080) ∧ a3 = -1)) (h6 : a3 ≠ a2) : a0 = a6 := by omega
theorem z_X4_ofRule_7 (a0 : Int) (a1 : Int) (h0 : 0 ≤ a0 ∧ a0 ≤ a1) : 0 ≤ a0 ∧ a0 ≤ (a1 + 1) := by omega
theorem z_X4_ofRule_10 (a0 : Int) (a1 : Int) (a2 : Int) (a3 : Int) (h0 : 0 ≤ a3 ∧ a3 ≤ 1080) (h1 : 0 ≤ a0 ∧ a0 ≤ a1) (h2 : ¬ (a3 ≤ a1)) (h3 : a2 = (a0 + 1) ∨ (a0 + 1) < -2147483648 ∨ 2147483648 ≤ (a0 + 1)) : a2 = (a0 + 1) := by omega
theorem z_X4_ofRule_13 (a0 : Int) (a1 : Int) (a2 : Int) (a3 : Int) (a4 : Int) (a5 : Int) (a6 : Int) (a7 : Int) (h0 : 0 ≤ a4 ∧ a4 ≤ 1080) (h1 : 0 ≤ a1 ∧ a1 ≤ a4) (h2 : a0 = a7) (h3 : ¬ (a4 ≤ a1)) (h4 : a5 = a2 → a6 = a7 + 1) (h5 : ((0 ≤ a1 ∧ a1 < a4 ∧ a1 < 1080) ∧ a3 = a5) ∨ (¬ (0 ≤ a1 ∧ a1 < a4 ∧ a1 < 1080) ∧ a3 = -1)) (h6 : ¬ (a3 ≠ a2)) : (a0 + 1) = a6 := by omega
theorem z_X4_ofRule_14 (a0 : Int) (a1 : Int) (h0 : 0 ≤ a0 ∧ a0 ≤ a1) : 0 ≤ (a0 + 1) ∧ (a0 + 1) ≤ (a1 + 1) := by omega
theorem z_X4_ofRule_18 (a0 : Int) (h0 : a0 = 0) : (0 : Int) = a0 := by omega
abbrev rm_X4_ofRule : Room := { frames := 2, cells := 0, slots := 0, locals := 42 }
set_option maxHeartbeats 4000000 in
set_option maxRecDepth 100000 in
theorem c_X4_ofRule (l : Launch) (E : XE) (K : Nat → Nat) (F : Nat → Nat → Nat) (G : XG) (h0 : Heap) (a : Nat) (p0 : Int32) (ha : K a = 6) (s0 : 0 ≤ ((G.1 a 6).toInt) ∧ ((G.1 a 6).toInt) ≤ 1080) : Met l yX4_ofRule (xw yX4_ofRule cX4_ofRule 4 (some .int)) rm_X4_ofRule (va_Pc [.ref a, .int p0] (XPh E K F G h0)) (XQ E (fun v (u : Unit) => ∃ r : Int32, v = .int r ∧ (r.toInt = (hv (aI (G.2.1 (F a 0))) 0 (p0.toInt) ((G.1 a 6).toInt)))) (fun _ H => H = h0)) 0 0 (xA E) := by
  refine x_enter (by decide) (Nat.le_of_ble_eq_true rfl) ?_
  intro p e s m args below meth c Q S hr hlk hnm hQ hP ls hl
  obtain ⟨⟨hz, hK, hT⟩, hh⟩ := hP
  obtain ⟨hx, hb, -, -, -⟩ := id S
  have hS : va_S (xA E) s.heap s.heap [] := va_S.rf
  have hl : lv_has ls 4 [(0, .ref a), (1, .int p0)] := hl
  obtain ⟨hk9999, hj9999⟩ := fkX4_0 hT ha
  have z0 : (hv (aI (G.2.1 (F a 0))) 0 (p0.toInt) 0) = 0 := hv_0 _ _ _
  refine lv_iconst (v := 0) hx hb dX4_ofRule_0 (by decide) ?_
  refine lv_istore_n (lv' := [(2, .int 0), (0, .ref a), (1, .int p0)]) hx hb dX4_ofRule_1 rfl hl (by decide) rfl (fun ls hl => ?_)
  refine lv_iconst (v := 0) hx hb dX4_ofRule_2 (by decide) ?_
  refine lv_istore_n (lv' := [(3, .int 0), (2, .int 0), (0, .ref a), (1, .int p0)]) hx hb dX4_ofRule_3 rfl hl (by decide) rfl (fun ls hl => ?_)
  have L4 : ∀ (N4 : Nat) (l2_4 : Int32) (l3_4 : Int32) (locs : List Loc) (ls : Array Slot), 0 ≤ l3_4.toInt ∧ l3_4.toInt ≤ ((G.1 a 6).toInt) → l2_4.toInt = (hv (aI (G.2.1 (F a 0))) 0 (p0.toInt) (l3_4.toInt)) → 0 ≤ l2_4.toInt ∧ l2_4.toInt ≤ l3_4.toInt → (0 : Int) ≤ l3_4.toInt → 2147483648 - l3_4.toInt < ((N4 : Nat) : Int) → TW E K F G s.heap → va_S (xA E) s.heap s.heap locs → lv_has ls 4 [(0, .ref a), (1, .int p0), (2, .int l2_4), (3, .int l3_4)] → W p l e rm_X4_ofRule s m args below meth c s.heap locs 0 0 Q (F0 m 4 ls []) := by
    intro N4
    induction N4 with
    | zero =>
      intro l2_4 l3_4 locs ls I4_0 I4_1 I4_2 I4_3 hm4
      exact absurd hm4 (z_X4_firstFailing_1 l3_4.toInt (xr l3_4))
    | succ N4 ih4 =>
      intro l2_4 l3_4 locs ls I4_0 I4_1 I4_2 I4_3 hm4 hT hS hl
      refine lv_iload_n hx hb dX4_ofRule_4 rfl (lv_at hl 3 rfl) ?_
      refine lv_aload_n hx hb dX4_ofRule_5 rfl (lv_at hl 0 rfl) ?_
      refine gX4_6 S hK hT ha kf_X4_33 dX4_ofRule_6 (v := (G.1 a 6)) rfl (?_)
      refine xi_cge (tgt := 30) hx hb (rfl : Int32.toInt l3_4 = l3_4.toInt) (rfl : Int32.toInt (G.1 a 6) = ((G.1 a 6).toInt)) dX4_ofRule_9 (by decide) (fun c9 => ?_) (fun c9 => ?_)
      · have z30 : l3_4.toInt = ((G.1 a 6).toInt) → (hv (aI (G.2.1 (F a 0))) 0 (p0.toInt) (l3_4.toInt)) = (hv (aI (G.2.1 (F a 0))) 0 (p0.toInt) ((G.1 a 6).toInt)) := fun h9 => by rw [h9]
        refine lv_iload_n hx hb dX4_ofRule_30 rfl (lv_at hl 2 rfl) ?_
        exact x_ri hx hb hr hlk hQ (Nat.le_of_ble_eq_true rfl) (Nat.le_of_ble_eq_true rfl) hS dX4_ofRule_31 () ⟨_, rfl, (z_X4_ofRule_2 l2_4.toInt l3_4.toInt ((G.1 a 6).toInt) (hv (aI (G.2.1 (F a 0))) 0 (p0.toInt) ((G.1 a 6).toInt)) (hv (aI (G.2.1 (F a 0))) 0 (p0.toInt) (l3_4.toInt)) I4_0 I4_1 c9 z30)⟩ hh
      · have z12 : ((aI (G.2.1 (F a 0)) (l3_4.toInt)) = p0.toInt → (hv (aI (G.2.1 (F a 0))) 0 (p0.toInt) (l3_4.toInt + 1)) = (hv (aI (G.2.1 (F a 0))) 0 (p0.toInt) (l3_4.toInt)) + 1) ∧ ((aI (G.2.1 (F a 0)) (l3_4.toInt)) ≠ p0.toInt → (hv (aI (G.2.1 (F a 0))) 0 (p0.toInt) (l3_4.toInt + 1)) = (hv (aI (G.2.1 (F a 0))) 0 (p0.toInt) (l3_4.toInt))) := hv_st (z_X4_ofRule_3 l3_4.toInt ((G.1 a 6).toInt) I4_0) (by rw [Int.zero_add])
        refine lv_aload_n hx hb dX4_ofRule_12 rfl (lv_at hl 0 rfl) ?_
        refine lv_iload_n hx hb dX4_ofRule_13 rfl (lv_at hl 3 rfl) ?_
        refine x_clp (x_runV (b := a) (As := [.int l3_4]) (rest := []) S (c_X4_number l E K F G s.heap a l3_4 ha) mv_X4_number km_X4_53 rfl rfl ⟨Nat.le_of_ble_eq_true rfl, Nat.le_of_ble_eq_true rfl⟩ (rc_6 hK hT ha) hK (fun _ => XPh.blind) (fun U hU hW => XPh.at hK hz hS hT hU hW) rfl hl.1 (Nat.le_of_ble_eq_true rfl) dX4_ofRule_14 ⟨Nat.le_of_ble_eq_true rfl, Nat.le_of_ble_eq_true rfl⟩) hS ?_
        rintro _ _ locs ⟨x14, rfl, t14⟩ hS
        have t14 : ((0 ≤ l3_4.toInt ∧ l3_4.toInt < ((G.1 a 6).toInt) ∧ l3_4.toInt < 1080) ∧ x14.toInt = (aI (G.2.1 (F a 0)) (l3_4.toInt))) ∨ (¬ (0 ≤ l3_4.toInt ∧ l3_4.toInt < ((G.1 a 6).toInt) ∧ l3_4.toInt < 1080) ∧ x14.toInt = -1) := t14
        refine lv_iload_n hx hb dX4_ofRule_17 rfl (lv_at hl 1 rfl) ?_
        refine xi_cne (tgt := 24) hx hb (rfl : Int32.toInt x14 = x14.toInt) (rfl : Int32.toInt p0 = p0.toInt) dX4_ofRule_18 (by decide) (fun c18 => ?_) (fun c18 => ?_)
        · refine xi_iinc (n := 1) (lv' := fun z9 => [(3, .int z9), (0, .ref a), (1, .int p0), (2, .int l2_4)]) (k := 3) hx hb (rfl : Int32.toInt l3_4 = l3_4.toInt) (by decide) dX4_ofRule_24 hl rfl (by decide) (fun _ => rfl) (fun x24 ls t24 hl => ?_)
          have e24 : x24.toInt = (l3_4.toInt + 1) := (z_X4_firstFailing_3 l3_4.toInt x24.toInt ((G.1 a 6).toInt) s0 I4_0 t24)
          have hl : lv_has ls 4 [(3, .int x24), (0, .ref a), (1, .int p0), (2, .int l2_4)] := hl
          refine lv_goto (tgt := 4) hx hb dX4_ofRule_27 (by decide) ?_
          exact ih4 l2_4 x24 _ _ (by rw [(e24 : Int32.toInt x24 = (l3_4.toInt + 1))] <;> exact (z_X4_firstFailing_4 l3_4.toInt ((G.1 a 6).toInt) I4_0 c9)) (by rw [(e24 : Int32.toInt x24 = (l3_4.toInt + 1))] <;> exact (z_X4_ofRule_6 l2_4.toInt l3_4.toInt p0.toInt x14.toInt ((G.1 a 6).toInt) (aI (G.2.1 (F a 0)) (l3_4.toInt)) (hv (aI (G.2.1 (F a 0))) 0 (p0.toInt) (l3_4.toInt + 1)) (hv (aI (G.2.1 (F a 0))) 0 (p0.toInt) (l3_4.toInt)) s0 I4_0 I4_1 c9 (z12).2 t14 c18)) (by rw [(e24 : Int32.toInt x24 = (l3_4.toInt + 1))] <;> exact (z_X4_ofRule_7 l2_4.toInt l3_4.toInt I4_2)) (by rw [(e24 : Int32.toInt x24 = (l3_4.toInt + 1))] <;> exact (z_X4_firstFailing_5 l3_4.toInt ((G.1 a 6).toInt) I4_0)) (by rw [(e24 : Int32.toInt x24 = (l3_4.toInt + 1))] <;> exact (z_X4_firstFailing_6 l3_4.toInt N4 hm4)) hT hS (lv_sub hl [1, 2, 3, 0] rfl)
        · refine xi_iinc (n := 1) (lv' := fun z9 => [(2, .int z9), (0, .ref a), (1, .int p0), (3, .int l3_4)]) (k := 2) hx hb (rfl : Int32.toInt l2_4 = l2_4.toInt) (by decide) dX4_ofRule_21 hl rfl (by decide) (fun _ => rfl) (fun x21 ls t21 hl => ?_)
          have e21 : x21.toInt = (l2_4.toInt + 1) := (z_X4_ofRule_10 l2_4.toInt l3_4.toInt x21.toInt ((G.1 a 6).toInt) s0 I4_2 c9 t21)
          have hl : lv_has ls 4 [(2, .int x21), (0, .ref a), (1, .int p0), (3, .int l3_4)] := hl
          refine xi_iinc (n := 1) (lv' := fun z9 => [(3, .int z9), (2, .int x21), (0, .ref a), (1, .int p0)]) (k := 3) hx hb (rfl : Int32.toInt l3_4 = l3_4.toInt) (by decide) dX4_ofRule_24 hl rfl (by decide) (fun _ => rfl) (fun x24 ls t24 hl => ?_)
          have e24 : x24.toInt = (l3_4.toInt + 1) := (z_X4_firstFailing_3 l3_4.toInt x24.toInt ((G.1 a 6).toInt) s0 I4_0 t24)
          have hl : lv_has ls 4 [(3, .int x24), (2, .int x21), (0, .ref a), (1, .int p0)] := hl
          refine lv_goto (tgt := 4) hx hb dX4_ofRule_27 (by decide) ?_
          exact ih4 x21 x24 _ _ (by rw [(e24 : Int32.toInt x24 = (l3_4.toInt + 1))] <;> exact (z_X4_firstFailing_4 l3_4.toInt ((G.1 a 6).toInt) I4_0 c9)) (by rw [(e21 : Int32.toInt x21 = (l2_4.toInt + 1)), (e24 : Int32.toInt x24 = (l3_4.toInt + 1))] <;> exact (z_X4_ofRule_13 l2_4.toInt l3_4.toInt p0.toInt x14.toInt ((G.1 a 6).toInt) (aI (G.2.1 (F a 0)) (l3_4.toInt)) (hv (aI (G.2.1 (F a 0))) 0 (p0.toInt) (l3_4.toInt + 1)) (hv (aI (G.2.1 (F a 0))) 0 (p0.toInt) (l3_4.toInt)) s0 I4_0 I4_1 c9 (z12).1 t14 c18)) (by rw [(e21 : Int32.toInt x21 = (l2_4.toInt + 1)), (e24 : Int32.toInt x24 = (l3_4.toInt + 1))] <;> exact (z_X4_ofRule_14 l2_4.toInt l3_4.toInt I4_2)) (by rw [(e24 : Int32.toInt x24 = (l3_4.toInt + 1))] <;> exact (z_X4_firstFailing_5 l3_4.toInt ((G.1 a 6).toInt) I4_0)) (by rw [(e24 : Int32.toInt x24 = (l3_4.toInt + 1))] <;> exact (z_X4_firstFailing_6 l3_4.toInt N4 hm4)) hT hS (lv_sub hl [2, 3, 1, 0] rfl)
  exact L4 4294967297 0 0 _ _ (z_X4_firstFailing_8 ((G.1 a 6).toInt) s0) (z_X4_ofRule_18 (hv (aI (G.2.1 (F a 0))) 0 (p0.toInt) 0) z0) (by decide) (by decide) (by decide) hT hS (lv_sub hl [2, 3, 1, 0] rfl)

theorem z_X4_failing_6 (a0 : Int) (a1 : Int) (a2 : Int) (a3 : Int) (a4 : Int) (a5 : Int) (a6 : Int) (h0 : 0 ≤ a3 ∧ a3 ≤ 1080) (h1 : 0 ≤ a1 ∧ a1 ≤ a3) (h2 : a0 = a6) (h3 : ¬ (a3 ≤ a1)) (h4 : a4 ≠ 1 → a5 = a6) (h5 : ((0 ≤ a1 ∧ a1 < a3 ∧ a1 < 1080) ∧ a2 = a4) ∨ (¬ (0 ≤ a1 ∧ a1 < a3 ∧ a1 < 1080) ∧ a2 = 0)) (h6 : a2 = 0) : a0 = a5 := by omega
theorem z_X4_failing_13 (a0 : Int) (a1 : Int) (a2 : Int) (a3 : Int) (a4 : Int) (a5 : Int) (a6 : Int) (h0 : a0 = a6) (h1 : a4 = 1 → a5 = a6 + 1) (h2 : ((0 ≤ a1 ∧ a1 < a3 ∧ a1 < 1080) ∧ a2 = a4) ∨ (¬ (0 ≤ a1 ∧ a1 < a3 ∧ a1 < 1080) ∧ a2 = 0)) (h3 : a2 = 0 ∨ a2 = 1) (h4 : ¬ (a2 = 0)) : (a0 + 1) = a5 := by omega
abbrev rm_X4_failing : Room := { frames := 2, cells := 0, slots := 0, locals := 42 }
set_option maxHeartbeats 4000000 in
set_option maxRecDepth 100000 in
theorem c_X4_failing (l : Launch) (E : XE) (K : Nat → Nat) (F : Nat → Nat → Nat) (G : XG) (h0 : Heap) (a : Nat) (ha : K a = 6) (s0 : 0 ≤ ((G.1 a 6).toInt) ∧ ((G.1 a 6).toInt) ≤ 1080) : Met l yX4_failing (xw yX4_failing cX4_failing 3 (some .int)) rm_X4_failing (va_Pc [.ref a] (XPh E K F G h0)) (XQ E (fun v (u : Unit) => ∃ r : Int32, v = .int r ∧ (r.toInt = (hv (aI (G.2.1 (F a 5))) 0 1 ((G.1 a 6).toInt)))) (fun _ H => H = h0)) 0 0 (xA E) := by
  refine x_enter (by decide) (Nat.le_of_ble_eq_true rfl) ?_
  intro p e s m args below meth c Q S hr hlk hnm hQ hP ls hl
  obtain ⟨⟨hz, hK, hT⟩, hh⟩ := hP
  obtain ⟨hx, hb, -, -, -⟩ := id S
  have hS : va_S (xA E) s.heap s.heap [] := va_S.rf
  have hl : lv_has ls 3 [(0, .ref a)] := hl
  obtain ⟨hk9999, hj9999⟩ := fkX4_5 hT ha
  have z0 : (hv (aI (G.2.1 (F a 5))) 0 1 0) = 0 := hv_0 _ _ _
  refine lv_iconst (v := 0) hx hb dX4_failing_0 (by decide) ?_
  refine lv_istore_n (lv' := [(1, .int 0), (0, .ref a)]) hx hb dX4_failing_1 rfl hl (by decide) rfl (fun ls hl => ?_)
  refine lv_iconst (v := 0) hx hb dX4_failing_2 (by decide) ?_
  refine lv_istore_n (lv' := [(2, .int 0), (1, .int 0), (0, .ref a)]) hx hb dX4_failing_3 rfl hl (by decide) rfl (fun ls hl => ?_)
  have L4 : ∀ (N4 : Nat) (l1_4 : Int32) (l2_4 : Int32) (locs : List Loc) (ls : Array Slot), 0 ≤ l2_4.toInt ∧ l2_4.toInt ≤ ((G.1 a 6).toInt) → l1_4.toInt = (hv (aI (G.2.1 (F a 5))) 0 1 (l2_4.toInt)) → 0 ≤ l1_4.toInt ∧ l1_4.toInt ≤ l2_4.toInt → (0 : Int) ≤ l2_4.toInt → 2147483648 - l2_4.toInt < ((N4 : Nat) : Int) → TW E K F G s.heap → va_S (xA E) s.heap s.heap locs → lv_has ls 3 [(0, .ref a), (1, .int l1_4), (2, .int l2_4)] → W p l e rm_X4_failing s m args below meth c s.heap locs 0 0 Q (F0 m 4 ls []) := by
    intro N4
    induction N4 with
    | zero =>
      intro l1_4 l2_4 locs ls I4_0 I4_1 I4_2 I4_3 hm4
      exact absurd hm4 (z_X4_firstFailing_1 l2_4.toInt (xr l2_4))
    | succ N4 ih4 =>
      intro l1_4 l2_4 locs ls I4_0 I4_1 I4_2 I4_3 hm4 hT hS hl
      refine lv_iload_n hx hb dX4_failing_4 rfl (lv_at hl 2 rfl) ?_
      refine lv_aload_n hx hb dX4_failing_5 rfl (lv_at hl 0 rfl) ?_
      refine gX4_6 S hK hT ha kf_X4_33 dX4_failing_6 (v := (G.1 a 6)) rfl (?_)
      refine xi_cge (tgt := 29) hx hb (rfl : Int32.toInt l2_4 = l2_4.toInt) (rfl : Int32.toInt (G.1 a 6) = ((G.1 a 6).toInt)) dX4_failing_9 (by decide) (fun c9 => ?_) (fun c9 => ?_)
      · have z29 : l2_4.toInt = ((G.1 a 6).toInt) → (hv (aI (G.2.1 (F a 5))) 0 1 (l2_4.toInt)) = (hv (aI (G.2.1 (F a 5))) 0 1 ((G.1 a 6).toInt)) := fun h9 => by rw [h9]
        refine lv_iload_n hx hb dX4_failing_29 rfl (lv_at hl 1 rfl) ?_
        exact x_ri hx hb hr hlk hQ (Nat.le_of_ble_eq_true rfl) (Nat.le_of_ble_eq_true rfl) hS dX4_failing_30 () ⟨_, rfl, (z_X4_ofRule_2 l1_4.toInt l2_4.toInt ((G.1 a 6).toInt) (hv (aI (G.2.1 (F a 5))) 0 1 ((G.1 a 6).toInt)) (hv (aI (G.2.1 (F a 5))) 0 1 (l2_4.toInt)) I4_0 I4_1 c9 z29)⟩ hh
      · have z12 : ((aI (G.2.1 (F a 5)) (l2_4.toInt)) = 1 → (hv (aI (G.2.1 (F a 5))) 0 1 (l2_4.toInt + 1)) = (hv (aI (G.2.1 (F a 5))) 0 1 (l2_4.toInt)) + 1) ∧ ((aI (G.2.1 (F a 5)) (l2_4.toInt)) ≠ 1 → (hv (aI (G.2.1 (F a 5))) 0 1 (l2_4.toInt + 1)) = (hv (aI (G.2.1 (F a 5))) 0 1 (l2_4.toInt))) := hv_st (z_X4_ofRule_3 l2_4.toInt ((G.1 a 6).toInt) I4_0) (by rw [Int.zero_add])
        refine lv_aload_n hx hb dX4_failing_12 rfl (lv_at hl 0 rfl) ?_
        refine lv_iload_n hx hb dX4_failing_13 rfl (lv_at hl 2 rfl) ?_
        refine x_clp (x_runV (b := a) (As := [.int l2_4]) (rest := []) S (c_X4_fails l E K F G s.heap a l2_4 ha) mv_X4_fails km_X4_50 rfl rfl ⟨Nat.le_of_ble_eq_true rfl, Nat.le_of_ble_eq_true rfl⟩ (rc_6 hK hT ha) hK (fun _ => XPh.blind) (fun U hU hW => XPh.at hK hz hS hT hU hW) rfl hl.1 (Nat.le_of_ble_eq_true rfl) dX4_failing_14 ⟨Nat.le_of_ble_eq_true rfl, Nat.le_of_ble_eq_true rfl⟩) hS ?_
        rintro _ _ locs ⟨x14, rfl, b14, t14⟩ hS
        have t14 : ((0 ≤ l2_4.toInt ∧ l2_4.toInt < ((G.1 a 6).toInt) ∧ l2_4.toInt < 1080) ∧ x14.toInt = (aI (G.2.1 (F a 5)) (l2_4.toInt))) ∨ (¬ (0 ≤ l2_4.toInt ∧ l2_4.toInt < ((G.1 a 6).toInt) ∧ l2_4.toInt < 1080) ∧ x14.toInt = 0) := t14
        refine xi_zeq (tgt := 23) hx hb (rfl : Int32.toInt x14 = x14.toInt) dX4_failing_17 (by decide) (fun c17 => ?_) (fun c17 => ?_)
        · refine xi_iinc (n := 1) (lv' := fun z9 => [(2, .int z9), (0, .ref a), (1, .int l1_4)]) (k := 2) hx hb (rfl : Int32.toInt l2_4 = l2_4.toInt) (by decide) dX4_failing_23 hl rfl (by decide) (fun _ => rfl) (fun x23 ls t23 hl => ?_)
          have e23 : x23.toInt = (l2_4.toInt + 1) := (z_X4_firstFailing_3 l2_4.toInt x23.toInt ((G.1 a 6).toInt) s0 I4_0 t23)
          have hl : lv_has ls 3 [(2, .int x23), (0, .ref a), (1, .int l1_4)] := hl
          refine lv_goto (tgt := 4) hx hb dX4_failing_26 (by decide) ?_
          exact ih4 l1_4 x23 _ _ (by rw [(e23 : Int32.toInt x23 = (l2_4.toInt + 1))] <;> exact (z_X4_firstFailing_4 l2_4.toInt ((G.1 a 6).toInt) I4_0 c9)) (by rw [(e23 : Int32.toInt x23 = (l2_4.toInt + 1))] <;> exact (z_X4_failing_6 l1_4.toInt l2_4.toInt x14.toInt ((G.1 a 6).toInt) (aI (G.2.1 (F a 5)) (l2_4.toInt)) (hv (aI (G.2.1 (F a 5))) 0 1 (l2_4.toInt + 1)) (hv (aI (G.2.1 (F a 5))) 0 1 (l2_4.toInt)) s0 I4_0 I4_1 c9 (z12).2 t14 c17)) (by rw [(e23 : Int32.toInt x23 = (l2_4.toInt + 1))] <;> exact (z_X4_ofRule_7 l1_4.toInt l2_4.toInt I4_2)) (by rw [(e23 : Int32.toInt x23 = (l2_4.toInt + 1))] <;> exact (z_X4_firstFailing_5 l2_4.toInt ((G.1 a 6).toInt) I4_0)) (by rw [(e23 : Int32.toInt x23 = (l2_4.toInt + 1))] <;> exact (z_X4_firstFailing_6 l2_4.toInt N4 hm4)) hT hS (lv_sub hl [1, 2, 0] rfl)
        · refine xi_iinc (n := 1) (lv' := fun z9 => [(1, .int z9), (0, .ref a), (2, .int l2_4)]) (k := 1) hx hb (rfl : Int32.toInt l1_4 = l1_4.toInt) (by decide) dX4_failing_20 hl rfl (by decide) (fun _ => rfl) (fun x20 ls t20 hl => ?_)
          have e20 : x20.toInt = (l1_4.toInt + 1) := (z_X4_ofRule_10 l1_4.toInt l2_4.toInt x20.toInt ((G.1 a 6).toInt) s0 I4_2 c9 t20)
          have hl : lv_has ls 3 [(1, .int x20), (0, .ref a), (2, .int l2_4)] := hl
          refine xi_iinc (n := 1) (lv' := fun z9 => [(2, .int z9), (1, .int x20), (0, .ref a)]) (k := 2) hx hb (rfl : Int32.toInt l2_4 = l2_4.toInt) (by decide) dX4_failing_23 hl rfl (by decide) (fun _ => rfl) (fun x23 ls t23 hl => ?_)
          have e23 : x23.toInt = (l2_4.toInt + 1) := (z_X4_firstFailing_3 l2_4.toInt x23.toInt ((G.1 a 6).toInt) s0 I4_0 t23)
          have hl : lv_has ls 3 [(2, .int x23), (1, .int x20), (0, .ref a)] := hl
          refine lv_goto (tgt := 4) hx hb dX4_failing_26 (by decide) ?_
          exact ih4 x20 x23 _ _ (by rw [(e23 : Int32.toInt x23 = (l2_4.toInt + 1))] <;> exact (z_X4_firstFailing_4 l2_4.toInt ((G.1 a 6).toInt) I4_0 c9)) (by rw [(e20 : Int32.toInt x20 = (l1_4.toInt + 1)), (e23 : Int32.toInt x23 = (l2_4.toInt + 1))] <;> exact (z_X4_failing_13 l1_4.toInt l2_4.toInt x14.toInt ((G.1 a 6).toInt) (aI (G.2.1 (F a 5)) (l2_4.toInt)) (hv (aI (G.2.1 (F a 5))) 0 1 (l2_4.toInt + 1)) (hv (aI (G.2.1 (F a 5))) 0 1 (l2_4.toInt)) I4_1 (z12).1 t14 (xzi b14) c17)) (by rw [(e20 : Int32.toInt x20 = (l1_4.toInt + 1)), (e23 : Int32.toInt x23 = (l2_4.toInt + 1))] <;> exact (z_X4_ofRule_14 l1_4.toInt l2_4.toInt I4_2)) (by rw [(e23 : Int32.toInt x23 = (l2_4.toInt + 1))] <;> exact (z_X4_firstFailing_5 l2_4.toInt ((G.1 a 6).toInt) I4_0)) (by rw [(e23 : Int32.toInt x23 = (l2_4.toInt + 1))] <;> exact (z_X4_firstFailing_6 l2_4.toInt N4 hm4)) hT hS (lv_sub hl [2, 1, 0] rfl)
  exact L4 4294967297 0 0 _ _ (z_X4_firstFailing_8 ((G.1 a 6).toInt) s0) (z_X4_ofRule_18 (hv (aI (G.2.1 (F a 5))) 0 1 0) z0) (by decide) (by decide) (by decide) hT hS (lv_sub hl [2, 1, 0] rfl)

