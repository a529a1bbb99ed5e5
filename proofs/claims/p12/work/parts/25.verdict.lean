abbrev rm_X9_clear : Room := { frames := 6, cells := 1, slots := 100, locals := 146 }
set_option maxHeartbeats 4000000 in
set_option maxRecDepth 100000 in
theorem c_X9_clear (l : Launch) (E : XE) (K : Nat → Nat) (F : Nat → Nat → Nat) (G : XG) (a : Nat) (ha : K a = 11) : Met l yX9_clear (xw yX9_clear cX9_clear 1 none) rm_X9_clear (va_Pc [.ref a] (XP E K F G)) (XQv E (fun (u : XG) => XFr [(a, 1)] [] [] G u ∧ ((u.1 a 1).toInt = 0)) (fun u H => TW E K F u H)) 1 100 (xA E) := by
  refine x_enter (by decide) (Nat.le_of_ble_eq_true rfl) ?_
  intro p e s m args below meth c Q S hr hlk hnm hQ hP ls hl
  obtain ⟨hz, hK, hT⟩ := hP
  obtain ⟨hx, hb, -, -, -⟩ := id S
  obtain ⟨H, hT, hS, hgo⟩ : ∃ H : Heap, TW E K F G H ∧ va_S (xA E) s.heap H [] ∧ H = s.heap := ⟨_, hT, va_S.rf, rfl⟩
  rw [← hgo]
  have hl : lv_has ls 1 [(0, .ref a)] := hl
  refine lv_aload_n hx hb dX9_clear_0 rfl (lv_at hl 0 rfl) ?_
  refine lv_iconst (v := 0) hx hb dX9_clear_1 (by decide) ?_
  refine pX9_1 (v := 0) S hK hT hS ha kf_X9_18 (Or.inl rfl) dX9_clear_2 (fun H locs hT hS => ?_)
  obtain ⟨G1, hG1⟩ : ∃ G9 : XG, G9 = dput G a 1 0 := ⟨_, rfl⟩
  rw [← hG1] at hT
  refine lv_aload_n hx hb dX9_clear_5 rfl (lv_at hl 0 rfl) ?_
  refine gX9_0 S hK hT ha kf_X9_12 dX9_clear_6 ?_
  refine lv_iconst (v := 0) hx hb dX9_clear_9 (by decide) ?_
  obtain ⟨q1, n2, k3, hT⟩ := hT.op
  have hT : TWb E K F G1 q1 n2 k3 H := hT
  have v4 : 0 ≤ k3.toInt ∧ k3.toInt ≤ (((n2) : Nat) : Int) ∧ (((n2) : Nat) : Int) ≤ 100 := hT.inv
  refine x_cv (x_runV (b := E.2.2.2.1) (As := [.int 0]) (rest := []) S (c_J4_setLength_d00df l E K F G1 q1 n2 k3 ) mv_J4_setLength_d00df km_X9_22 rfl rfl ⟨Nat.le_of_ble_eq_true rfl, Nat.le_of_ble_eq_true rfl⟩ (rc_sb hK hT) hK (fun _ => XPb.blind) (fun U hU hW => XPb.at hK hz hS hT hU hW) rfl hl.1 (Nat.le_of_ble_eq_true rfl) dX9_clear_10 ⟨Nat.le_of_ble_eq_true rfl, Nat.le_of_ble_eq_true rfl⟩) hS ?_
  rintro ⟨q5, n6, k7⟩ H locs t8 hT hS
  have t8 : k7.toInt = 0 := t8
  have hT : TWb E K F G1 q5 n6 k7 H := hT
  have v10 : 0 ≤ k7.toInt ∧ k7.toInt ≤ (((n6) : Nat) : Int) ∧ (((n6) : Nat) : Int) ≤ 100 := hT.inv
  exact x_rv hx hb hr hlk hQ (Nat.le_of_ble_eq_true rfl) (Nat.le_of_ble_eq_true rfl) hS dX9_clear_13 G1 ⟨(by rw [hG1]; exact XFr.dput XFr.rf (List.mem_of_getElem? (i := 0) rfl)), (by rw [ld_at hG1]; decide)⟩ hT.cl

theorem z_X9_tell_1 (a0 : Int) (a1 : Nat) (h0 : ((a1 : Nat) : Int) = 5) (h1 : a0 = 0) : a0 + ((a1 : Nat) : Int) ≤ 48 := by omega
theorem z_X9_tell_2 (a0 : Int) (a1 : Int) (a2 : Nat) (h0 : ((a2 : Nat) : Int) = 5) (h1 : a1 = 0) (h2 : a0 = a1 + ((a2 : Nat) : Int)) : a0 ≤ 37 := by omega
theorem z_X9_tell_3 (a0 : Int) (a1 : Int) (a2 : Int) (a3 : Nat) (h0 : ((a3 : Nat) : Int) = 5) (h1 : a2 = 0) (h2 : a0 = a2 + ((a3 : Nat) : Int)) (h3 : a0 ≤ a1 ∧ a1 ≤ a0 + 11) : a1 ≤ 47 := by omega
theorem z_X9_tell_4 (a0 : Int) (a1 : Int) (a2 : Int) (a3 : Int) (a4 : Nat) (a5 : Nat) (h0 : ((a5 : Nat) : Int) ≤ 6) (h1 : ((a4 : Nat) : Int) = 5) (h2 : a3 = 0) (h3 : a0 = a3 + ((a4 : Nat) : Int)) (h4 : a0 ≤ a1 ∧ a1 ≤ a0 + 11) (h5 : a2 = a1 + 1) : a2 + ((a5 : Nat) : Int) ≤ 48 := by omega
theorem z_X9_tell_5 (a0 : Int) (a1 : Int) (a2 : Int) (a3 : Int) (a4 : Int) (a5 : Nat) (a6 : Nat) (h0 : ((a6 : Nat) : Int) ≤ 6) (h1 : ((a5 : Nat) : Int) = 5) (h2 : a4 = 0) (h3 : a0 = a4 + ((a5 : Nat) : Int)) (h4 : a0 ≤ a1 ∧ a1 ≤ a0 + 11) (h5 : a2 = a1 + 1) (h6 : a3 = a2 + ((a6 : Nat) : Int)) : a3 ≤ 47 := by omega
theorem z_X9_tell_6 (a0 : Int) (a1 : Int) (a2 : Int) (a3 : Int) (a4 : Int) (a5 : Int) (a6 : Nat) (a7 : Nat) (h0 : ((a7 : Nat) : Int) ≤ 6) (h1 : ((a6 : Nat) : Int) = 5) (h2 : a5 = 0) (h3 : a0 = a5 + ((a6 : Nat) : Int)) (h4 : a0 ≤ a1 ∧ a1 ≤ a0 + 11) (h5 : a2 = a1 + 1) (h6 : a3 = a2 + ((a7 : Nat) : Int)) (h7 : a4 = a3 + 1) : a4 ≤ 37 := by omega
abbrev rm_X9_tell : Room := { frames := 6, cells := 7, slots := 700, locals := 148 }
set_option maxHeartbeats 4000000 in
set_option maxRecDepth 100000 in
theorem c_X9_tell (l : Launch) (E : XE) (K : Nat → Nat) (F : Nat → Nat → Nat) (G : XG) (a : Nat) (p0 : Int32) (i : Nat) (p2 : Int32) (ha : K a = 11) (hi : i < 13) (e7 : ((xlen.getD i 0 : Nat) : Int) ≤ 6) : Met l yX9_tell (xw yX9_tell cX9_tell 4 none) rm_X9_tell (va_Pc [.ref a, .int p0, .ref (E.2.2.2.2.1 i), .int p2] (XP E K F G)) (XQv E (fun (u : XG) => XFr [(a, 1), (a, 2), (a, 3)] [] [] G u ∧ ((u.1 a 1).toInt = 1 ∧ (u.1 a 2).toInt = p0.toInt ∧ (u.1 a 3).toInt = p2.toInt)) (fun u H => TW E K F u H)) 7 700 (xA E) := by
  refine x_enter (by decide) (Nat.le_of_ble_eq_true rfl) ?_
  intro p e s m args below meth c Q S hr hlk hnm hQ hP ls hl
  obtain ⟨hz, hK, hT⟩ := hP
  obtain ⟨hx, hb, -, -, -⟩ := id S
  obtain ⟨H, hT, hS, hgo⟩ : ∃ H : Heap, TW E K F G H ∧ va_S (xA E) s.heap H [] ∧ H = s.heap := ⟨_, hT, va_S.rf, rfl⟩
  rw [← hgo]
  have hl : lv_has ls 4 [(0, .ref a), (1, .int p0), (2, .ref (E.2.2.2.2.1 i)), (3, .int p2)] := hl
  refine lv_aload_n hx hb dX9_tell_0 rfl (lv_at hl 0 rfl) ?_
  refine lv_iload_n hx hb dX9_tell_1 rfl (lv_at hl 1 rfl) ?_
  refine pX9_2 (v := p0) S hK hT hS ha kf_X9_26 dX9_tell_2 (fun H locs hT hS => ?_)
  obtain ⟨G1, hG1⟩ : ∃ G9 : XG, G9 = dput G a 2 p0 := ⟨_, rfl⟩
  rw [← hG1] at hT
  refine lv_aload_n hx hb dX9_tell_5 rfl (lv_at hl 0 rfl) ?_
  refine lv_iload_n hx hb dX9_tell_6 rfl (lv_at hl 3 rfl) ?_
  refine pX9_3 (v := p2) S hK hT hS ha kf_X9_30 dX9_tell_7 (fun H locs hT hS => ?_)
  obtain ⟨G2, hG2⟩ : ∃ G9 : XG, G9 = dput G1 a 3 p2 := ⟨_, rfl⟩
  rw [← hG2] at hT
  refine lv_aload_n hx hb dX9_tell_10 rfl (lv_at hl 0 rfl) ?_
  refine lv_iconst (v := 1) hx hb dX9_tell_11 (by decide) ?_
  refine pX9_1 (v := 1) S hK hT hS ha kf_X9_18 (Or.inr rfl) dX9_tell_12 (fun H locs hT hS => ?_)
  obtain ⟨G3, hG3⟩ : ∃ G9 : XG, G9 = dput G2 a 1 1 := ⟨_, rfl⟩
  rw [← hG3] at hT
  refine lv_aload_n hx hb dX9_tell_15 rfl (lv_at hl 0 rfl) ?_
  refine gX9_0 S hK hT ha kf_X9_12 dX9_tell_16 ?_
  refine lv_iconst (v := 0) hx hb dX9_tell_19 (by decide) ?_
  obtain ⟨q1, n2, k3, hT⟩ := hT.op
  have hT : TWb E K F G3 q1 n2 k3 H := hT
  have v4 : 0 ≤ k3.toInt ∧ k3.toInt ≤ (((n2) : Nat) : Int) ∧ (((n2) : Nat) : Int) ≤ 100 := hT.inv
  refine x_cv (x_runV (b := E.2.2.2.1) (As := [.int 0]) (rest := []) S (c_J4_setLength_d00df l E K F G3 q1 n2 k3 ) mv_J4_setLength_d00df km_X9_22 rfl rfl ⟨Nat.le_of_ble_eq_true rfl, Nat.le_of_ble_eq_true rfl⟩ (rc_sb hK hT) hK (fun _ => XPb.blind) (fun U hU hW => XPb.at hK hz hS hT hU hW) rfl hl.1 (Nat.le_of_ble_eq_true rfl) dX9_tell_20 ⟨Nat.le_of_ble_eq_true rfl, Nat.le_of_ble_eq_true rfl⟩) hS ?_
  rintro ⟨q5, n6, k7⟩ H locs t8 hT hS
  have t8 : k7.toInt = 0 := t8
  have hT : TWb E K F G3 q5 n6 k7 H := hT
  have v10 : 0 ≤ k7.toInt ∧ k7.toInt ≤ (((n6) : Nat) : Int) ∧ (((n6) : Nat) : Int) ≤ 100 := hT.inv
  refine lv_aload_n hx hb dX9_tell_23 rfl (lv_at hl 0 rfl) ?_
  refine gX9_0 S hK hT.cl ha kf_X9_12 dX9_tell_24 ?_
  refine va_ldcS hx hb S.2.2.2.1 (hK.2.2.1 10 ("LateRules$Verdict", 33, "rule ") rfl) dX9_tell_27 ?_
  refine x_cl (x_runV (b := E.2.2.2.1) (As := [.ref (E.2.2.2.2.1 10)]) (rest := []) S (c_J4_append_15ec4 l E K F G3 q5 n6 k7 10 (show 10 < 13 by decide) (z_X9_tell_1 k7.toInt (xlen.getD 10 0) (show ((xlen.getD 10 0 : Nat) : Int) = 5 from by decide) t8)) mv_J4_append_15ec4 km_X9_35 rfl rfl ⟨Nat.le_of_ble_eq_true rfl, Nat.le_of_ble_eq_true rfl⟩ (rc_sb hK hT) hK (fun _ => XPb.blind) (fun U hU hW => XPb.at hK hz hS hT hU hW) rfl hl.1 (Nat.le_of_ble_eq_true rfl) dX9_tell_29 ⟨Nat.le_of_ble_eq_true rfl, Nat.le_of_ble_eq_true rfl⟩) hS ?_
  rintro _ ⟨q11, n12, k13⟩ H locs ⟨rfl, t14⟩ hT hS
  have t14 : k13.toInt = k7.toInt + (((xlen.getD 10 0) : Nat) : Int) := t14
  have hT : TWb E K F G3 q11 n12 k13 H := hT
  have v16 : 0 ≤ k13.toInt ∧ k13.toInt ≤ (((n12) : Nat) : Int) ∧ (((n12) : Nat) : Int) ≤ 100 := hT.inv
  refine lv_pop hx hb dX9_tell_32 rfl ?_
  refine lv_aload_n hx hb dX9_tell_33 rfl (lv_at hl 0 rfl) ?_
  refine gX9_0 S hK hT.cl ha kf_X9_12 dX9_tell_34 ?_
  refine lv_iload_n hx hb dX9_tell_37 rfl (lv_at hl 1 rfl) ?_
  refine x_cl (x_runV (b := E.2.2.2.1) (As := [.int p0]) (rest := []) S (c_J4_append_bf812 l E K F G3 q11 n12 k13 p0 (z_X9_tell_2 k13.toInt k7.toInt (xlen.getD 10 0) (show ((xlen.getD 10 0 : Nat) : Int) = 5 from by decide) t8 t14)) mv_J4_append_bf812 km_X9_39 rfl rfl ⟨Nat.le_of_ble_eq_true rfl, Nat.le_of_ble_eq_true rfl⟩ (rc_sb hK hT) hK (fun _ => XPb.blind) (fun U hU hW => XPb.at hK hz hS hT hU hW) rfl hl.1 (Nat.le_of_ble_eq_true rfl) dX9_tell_38 ⟨Nat.le_of_ble_eq_true rfl, Nat.le_of_ble_eq_true rfl⟩) hS ?_
  rintro _ ⟨q17, n18, k19⟩ H locs ⟨rfl, t20⟩ hT hS
  have t20 : k13.toInt ≤ k19.toInt ∧ k19.toInt ≤ k13.toInt + 11 := t20
  have hT : TWb E K F G3 q17 n18 k19 H := hT
  have v22 : 0 ≤ k19.toInt ∧ k19.toInt ≤ (((n18) : Nat) : Int) ∧ (((n18) : Nat) : Int) ≤ 100 := hT.inv
  refine lv_pop hx hb dX9_tell_41 rfl ?_
  refine lv_aload_n hx hb dX9_tell_42 rfl (lv_at hl 0 rfl) ?_
  refine gX9_0 S hK hT.cl ha kf_X9_12 dX9_tell_43 ?_
  refine lv_bipush (v := 32) hx hb dX9_tell_46 (by decide) ?_
  refine x_cl (x_runV (b := E.2.2.2.1) (As := [.int 32]) (rest := []) S (c_J4_append_cf468 l E K F G3 q17 n18 k19 32 (z_X9_tell_3 k13.toInt k19.toInt k7.toInt (xlen.getD 10 0) (show ((xlen.getD 10 0 : Nat) : Int) = 5 from by decide) t8 t14 t20) (by decide)) mv_J4_append_cf468 km_X9_42 rfl rfl ⟨Nat.le_of_ble_eq_true rfl, Nat.le_of_ble_eq_true rfl⟩ (rc_sb hK hT) hK (fun _ => XPb.blind) (fun U hU hW => XPb.at hK hz hS hT hU hW) rfl hl.1 (Nat.le_of_ble_eq_true rfl) dX9_tell_48 ⟨Nat.le_of_ble_eq_true rfl, Nat.le_of_ble_eq_true rfl⟩) hS ?_
  rintro _ ⟨q23, n24, k25⟩ H locs ⟨rfl, t26⟩ hT hS
  have t26 : k25.toInt = k19.toInt + 1 := t26
  have hT : TWb E K F G3 q23 n24 k25 H := hT
  have v28 : 0 ≤ k25.toInt ∧ k25.toInt ≤ (((n24) : Nat) : Int) ∧ (((n24) : Nat) : Int) ≤ 100 := hT.inv
  refine lv_pop hx hb dX9_tell_51 rfl ?_
  refine lv_aload_n hx hb dX9_tell_52 rfl (lv_at hl 0 rfl) ?_
  refine gX9_0 S hK hT.cl ha kf_X9_12 dX9_tell_53 ?_
  refine lv_aload_n hx hb dX9_tell_56 rfl (lv_at hl 2 rfl) ?_
  refine x_cl (x_runV (b := E.2.2.2.1) (As := [.ref (E.2.2.2.2.1 i)]) (rest := []) S (c_J4_append_15ec4 l E K F G3 q23 n24 k25 i hi (z_X9_tell_4 k13.toInt k19.toInt k25.toInt k7.toInt (xlen.getD 10 0) (xlen.getD i 0) e7 (show ((xlen.getD 10 0 : Nat) : Int) = 5 from by decide) t8 t14 t20 t26)) mv_J4_append_15ec4 km_X9_35 rfl rfl ⟨Nat.le_of_ble_eq_true rfl, Nat.le_of_ble_eq_true rfl⟩ (rc_sb hK hT) hK (fun _ => XPb.blind) (fun U hU hW => XPb.at hK hz hS hT hU hW) rfl hl.1 (Nat.le_of_ble_eq_true rfl) dX9_tell_57 ⟨Nat.le_of_ble_eq_true rfl, Nat.le_of_ble_eq_true rfl⟩) hS ?_
  rintro _ ⟨q29, n30, k31⟩ H locs ⟨rfl, t32⟩ hT hS
  have t32 : k31.toInt = k25.toInt + (((xlen.getD i 0) : Nat) : Int) := t32
  have hT : TWb E K F G3 q29 n30 k31 H := hT
  have v34 : 0 ≤ k31.toInt ∧ k31.toInt ≤ (((n30) : Nat) : Int) ∧ (((n30) : Nat) : Int) ≤ 100 := hT.inv
  refine lv_pop hx hb dX9_tell_60 rfl ?_
  refine lv_aload_n hx hb dX9_tell_61 rfl (lv_at hl 0 rfl) ?_
  refine gX9_0 S hK hT.cl ha kf_X9_12 dX9_tell_62 ?_
  refine lv_bipush (v := 32) hx hb dX9_tell_65 (by decide) ?_
  refine x_cl (x_runV (b := E.2.2.2.1) (As := [.int 32]) (rest := []) S (c_J4_append_cf468 l E K F G3 q29 n30 k31 32 (z_X9_tell_5 k13.toInt k19.toInt k25.toInt k31.toInt k7.toInt (xlen.getD 10 0) (xlen.getD i 0) e7 (show ((xlen.getD 10 0 : Nat) : Int) = 5 from by decide) t8 t14 t20 t26 t32) (by decide)) mv_J4_append_cf468 km_X9_42 rfl rfl ⟨Nat.le_of_ble_eq_true rfl, Nat.le_of_ble_eq_true rfl⟩ (rc_sb hK hT) hK (fun _ => XPb.blind) (fun U hU hW => XPb.at hK hz hS hT hU hW) rfl hl.1 (Nat.le_of_ble_eq_true rfl) dX9_tell_67 ⟨Nat.le_of_ble_eq_true rfl, Nat.le_of_ble_eq_true rfl⟩) hS ?_
  rintro _ ⟨q35, n36, k37⟩ H locs ⟨rfl, t38⟩ hT hS
  have t38 : k37.toInt = k31.toInt + 1 := t38
  have hT : TWb E K F G3 q35 n36 k37 H := hT
  have v40 : 0 ≤ k37.toInt ∧ k37.toInt ≤ (((n36) : Nat) : Int) ∧ (((n36) : Nat) : Int) ≤ 100 := hT.inv
  refine lv_pop hx hb dX9_tell_70 rfl ?_
  refine lv_aload_n hx hb dX9_tell_71 rfl (lv_at hl 0 rfl) ?_
  refine gX9_0 S hK hT.cl ha kf_X9_12 dX9_tell_72 ?_
  refine lv_iload_n hx hb dX9_tell_75 rfl (lv_at hl 3 rfl) ?_
  refine x_cl (x_runV (b := E.2.2.2.1) (As := [.int p2]) (rest := []) S (c_J4_append_bf812 l E K F G3 q35 n36 k37 p2 (z_X9_tell_6 k13.toInt k19.toInt k25.toInt k31.toInt k37.toInt k7.toInt (xlen.getD 10 0) (xlen.getD i 0) e7 (show ((xlen.getD 10 0 : Nat) : Int) = 5 from by decide) t8 t14 t20 t26 t32 t38)) mv_J4_append_bf812 km_X9_39 rfl rfl ⟨Nat.le_of_ble_eq_true rfl, Nat.le_of_ble_eq_true rfl⟩ (rc_sb hK hT) hK (fun _ => XPb.blind) (fun U hU hW => XPb.at hK hz hS hT hU hW) rfl hl.1 (Nat.le_of_ble_eq_true rfl) dX9_tell_76 ⟨Nat.le_of_ble_eq_true rfl, Nat.le_of_ble_eq_true rfl⟩) hS ?_
  rintro _ ⟨q41, n42, k43⟩ H locs ⟨rfl, t44⟩ hT hS
  have t44 : k37.toInt ≤ k43.toInt ∧ k43.toInt ≤ k37.toInt + 11 := t44
  have hT : TWb E K F G3 q41 n42 k43 H := hT
  have v46 : 0 ≤ k43.toInt ∧ k43.toInt ≤ (((n42) : Nat) : Int) ∧ (((n42) : Nat) : Int) ≤ 100 := hT.inv
  refine lv_pop hx hb dX9_tell_79 rfl ?_
  exact x_rv hx hb hr hlk hQ (Nat.le_of_ble_eq_true rfl) (Nat.le_of_ble_eq_true rfl) hS dX9_tell_80 G3 ⟨(by rw [hG3]; exact XFr.dput (by rw [hG2]; exact XFr.dput (by rw [hG1]; exact XFr.dput XFr.rf (List.mem_of_getElem? (i := 1) rfl)) (List.mem_of_getElem? (i := 2) rfl)) (List.mem_of_getElem? (i := 0) rfl)), (by rw [ld_at hG3]; decide), (by rw [ld_j hG3 (by decide), ld_j hG2 (by decide), ld_at hG1]), (by rw [ld_j hG3 (by decide), ld_at hG2])⟩ hT.cl

abbrev rm_X9_signs : Room := { frames := 2, cells := 0, slots := 0, locals := 40 }
set_option maxHeartbeats 4000000 in
set_option maxRecDepth 100000 in
theorem c_X9_signs (l : Launch) (E : XE) (K : Nat → Nat) (F : Nat → Nat → Nat) (G : XG) (h0 : Heap) (a : Nat) (ha : K a = 11) : Met l yX9_signs (xw yX9_signs cX9_signs 1 (some .int)) rm_X9_signs (va_Pc [.ref a] (XPh E K F G h0)) (XQ E (fun v (u : Unit) => ∃ r : Int32, v = .int r) (fun _ H => H = h0)) 0 0 (xA E) := by
  refine x_enter (by decide) (Nat.le_of_ble_eq_true rfl) ?_
  intro p e s m args below meth c Q S hr hlk hnm hQ hP ls hl
  obtain ⟨⟨hz, hK, hT⟩, hh⟩ := hP
  obtain ⟨hx, hb, -, -, -⟩ := id S
  have hS : va_S (xA E) s.heap s.heap [] := va_S.rf
  have hl : lv_has ls 1 [(0, .ref a)] := hl
  refine lv_aload_n hx hb dX9_signs_0 rfl (lv_at hl 0 rfl) ?_
  refine gX9_0 S hK hT ha kf_X9_12 dX9_signs_1 ?_
  obtain ⟨q1, n2, k3, hT⟩ := hT.op
  have hT : TWb E K F G q1 n2 k3 s.heap := hT
  have v4 : 0 ≤ k3.toInt ∧ k3.toInt ≤ (((n2) : Nat) : Int) ∧ (((n2) : Nat) : Int) ≤ 100 := hT.inv
  refine x_clp (x_runV (b := E.2.2.2.1) (As := []) (rest := []) S (c_J4_length_8abf5 l E K F G q1 n2 k3 s.heap ) mv_J4_length_8abf5 km_X9_45 rfl rfl ⟨Nat.le_of_ble_eq_true rfl, Nat.le_of_ble_eq_true rfl⟩ (rc_sb hK hT) hK (fun _ => XPbh.blind) (fun U hU hW => XPbh.at hK hz hS hT hU hW) rfl hl.1 (Nat.le_of_ble_eq_true rfl) dX9_signs_4 ⟨Nat.le_of_ble_eq_true rfl, Nat.le_of_ble_eq_true rfl⟩) hS ?_
  rintro _ _ locs ⟨x5, rfl, t6⟩ hS
  have t6 : x5.toInt = k3.toInt := t6
  exact x_ri hx hb hr hlk hQ (Nat.le_of_ble_eq_true rfl) (Nat.le_of_ble_eq_true rfl) hS dX9_signs_7 () ⟨_, rfl⟩ hh

theorem z_X9_signAt_1 (a0 : Int) (a1 : Int) (a2 : Int) (h0 : ¬ (a1 < 0)) (h1 : a2 = a0) (h2 : ¬ (a2 ≤ a1)) : 0 ≤ a1 ∧ a1 < a0 := by omega
abbrev rm_X9_signAt : Room := { frames := 4, cells := 0, slots := 0, locals := 88 }
set_option maxHeartbeats 4000000 in
set_option maxRecDepth 100000 in
theorem c_X9_signAt (l : Launch) (E : XE) (K : Nat → Nat) (F : Nat → Nat → Nat) (G : XG) (h0 : Heap) (a : Nat) (p0 : Int32) (ha : K a = 11) : Met l yX9_signAt (xw yX9_signAt cX9_signAt 2 (some .int)) rm_X9_signAt (va_Pc [.ref a, .int p0] (XPh E K F G h0)) (XQ E (fun v (u : Unit) => ∃ r : Int32, v = .int r) (fun _ H => H = h0)) 0 0 (xA E) := by
  refine x_enter (by decide) (Nat.le_of_ble_eq_true rfl) ?_
  intro p e s m args below meth c Q S hr hlk hnm hQ hP ls hl
  obtain ⟨⟨hz, hK, hT⟩, hh⟩ := hP
  obtain ⟨hx, hb, -, -, -⟩ := id S
  have hS : va_S (xA E) s.heap s.heap [] := va_S.rf
  have hl : lv_has ls 2 [(0, .ref a), (1, .int p0)] := hl
  refine lv_iload_n hx hb dX9_signAt_0 rfl (lv_at hl 1 rfl) ?_
  refine xi_zlt (tgt := 26) hx hb (rfl : Int32.toInt p0 = p0.toInt) dX9_signAt_1 (by decide) (fun c1 => ?_) (fun c1 => ?_)
  · refine lv_iconst (v := (-1)) hx hb dX9_signAt_26 (by decide) ?_
    exact x_ri hx hb hr hlk hQ (Nat.le_of_ble_eq_true rfl) (Nat.le_of_ble_eq_true rfl) hS dX9_signAt_27 () ⟨_, rfl⟩ hh
  · refine lv_iload_n hx hb dX9_signAt_4 rfl (lv_at hl 1 rfl) ?_
    refine lv_aload_n hx hb dX9_signAt_5 rfl (lv_at hl 0 rfl) ?_
    refine gX9_0 S hK hT ha kf_X9_12 dX9_signAt_6 ?_
    obtain ⟨q2, n3, k4, hT⟩ := hT.op
    have hT : TWb E K F G q2 n3 k4 s.heap := hT
    have v5 : 0 ≤ k4.toInt ∧ k4.toInt ≤ (((n3) : Nat) : Int) ∧ (((n3) : Nat) : Int) ≤ 100 := hT.inv
    refine x_clp (x_runV (b := E.2.2.2.1) (As := []) (rest := [.int p0]) S (c_J4_length_8abf5 l E K F G q2 n3 k4 s.heap ) mv_J4_length_8abf5 km_X9_45 rfl rfl ⟨Nat.le_of_ble_eq_true rfl, Nat.le_of_ble_eq_true rfl⟩ (rc_sb hK hT) hK (fun _ => XPbh.blind) (fun U hU hW => XPbh.at hK hz hS hT hU hW) rfl hl.1 (Nat.le_of_ble_eq_true rfl) dX9_signAt_9 ⟨Nat.le_of_ble_eq_true rfl, Nat.le_of_ble_eq_true rfl⟩) hS ?_
    rintro _ _ locs ⟨x6, rfl, t7⟩ hS
    have t7 : x6.toInt = k4.toInt := t7
    refine xi_cge (tgt := 26) hx hb (rfl : Int32.toInt p0 = p0.toInt) (rfl : Int32.toInt x6 = x6.toInt) dX9_signAt_12 (by decide) (fun c8 => ?_) (fun c8 => ?_)
    · refine lv_iconst (v := (-1)) hx hb dX9_signAt_26 (by decide) ?_
      exact x_ri hx hb hr hlk hQ (Nat.le_of_ble_eq_true rfl) (Nat.le_of_ble_eq_true rfl) hS dX9_signAt_27 () ⟨_, rfl⟩ hh
    · refine lv_aload_n hx hb dX9_signAt_15 rfl (lv_at hl 0 rfl) ?_
      refine gX9_0 S hK hT.cl ha kf_X9_12 dX9_signAt_16 ?_
      refine lv_iload_n hx hb dX9_signAt_19 rfl (lv_at hl 1 rfl) ?_
      refine x_clp (x_runV (b := E.2.2.2.1) (As := [.int p0]) (rest := []) S (c_J4_charAt_5068e l E K F G q2 n3 k4 s.heap p0 (z_X9_signAt_1 k4.toInt p0.toInt x6.toInt c1 t7 c8)) mv_J4_charAt_5068e km_X9_49 rfl rfl ⟨Nat.le_of_ble_eq_true rfl, Nat.le_of_ble_eq_true rfl⟩ (rc_sb hK hT) hK (fun _ => XPbh.blind) (fun U hU hW => XPbh.at hK hz hS hT hU hW) rfl hl.1 (Nat.le_of_ble_eq_true rfl) dX9_signAt_20 ⟨Nat.le_of_ble_eq_true rfl, Nat.le_of_ble_eq_true rfl⟩) hS ?_
      rintro _ _ locs ⟨x9, rfl, o10⟩ hS
      refine lv_goto (tgt := 27) hx hb dX9_signAt_23 (by decide) ?_
      exact x_ri hx hb hr hlk hQ (Nat.le_of_ble_eq_true rfl) (Nat.le_of_ble_eq_true rfl) hS dX9_signAt_27 () ⟨_, rfl⟩ hh
