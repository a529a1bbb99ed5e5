abbrev rm_X9_clear : Room := { frames := 6, cells := 1, slots := 100, locals := 146 }
set_option maxHeartbeats 4000000 in
set_option maxRecDepth 100000 in
theorem c_X9_clear (l : Launch) (E : XE) (K : Nat → Nat) (F : Nat → Nat → Nat) (G : XG) (a : Nat) (ha : K a = 11) : Met l yX9_clear (xw yX9_clear cX9_clear 1 none) rm_X9_clear (va_Pc [.ref a] (XP E K F G)) (XQv E (fun (u : XG) => XFr [(a, 1)] [] [] G u ∧ ((u.1 a 1).toInt = 0)) (fun u H => TW E K F u H)) 1 100 (xA E) := by
  refine x_enter (by decide) (Nat.le_of_ble_eq_true rfl) ?_
  intro p e s m args below meth c Q S hr hlk hnm hQ hP ls hl
  obtain ⟨hz, hK, hT⟩ := hP
  obtain ⟨hx, hb, -, -, -⟩ := id S
  obtain ⟨H, hT, hS, hgo⟩ : ∃ H : Heap, TW E K F G H ∧ va_S (xA E) s.heap H [] ∧ H = s.heap := ⟨_, hT, va_S.rf, rfl⟩
  rw [← hgo]
  have hl : lv_has ls 1 [(0, .ref a)] := hl
  refine lv_aload_n hx hb dX9_clear_0 rfl (lv_at hl 0 rfl) ?_
  refine lv_iconst (v := 0) hx hb dX9_clear_1 (by decide) ?_
  refine pX9_1 (v := 0) S hK hT hS ha kf_X9_18 (Or.inl rfl) dX9_clear_2 (fun H locs hT hS => ?_)
  obtain ⟨G1, hG1⟩ : ∃ G9 : XG, G9 = dput G a 1 0 := ⟨_, rfl⟩
  rw [← hG1] at hT
  refine lv_aload_n hx hb dX9_clear_5 rfl (lv_at hl 0 rfl) ?_
  refine gX9_0 S hK hT ha kf_X9_12 dX9_clear_6 ?_
  refine lv_iconst (v := 0) hx hb dX9_clear_9 (by decide) ?_
  obtain ⟨q1, n2, k3, hT⟩ := hT.op
  have hT : TWb E K F G1 q1 n2 k3 H := hT
  have v4 : 0 ≤ k3.toInt ∧ k3.toInt ≤ (((n2) : Nat) : Int) ∧ (((n2) : Nat) : Int) ≤ 100 := hT.inv
  refine x_cv (x_runV (b := E.2.2.2.1) (As := [.int 0]) (rest := []) S (c_J4_setLength_d00df l E K F G1 q1 n2 k3 ) mv_J4_setLength_d00df km_X9_22 rfl rfl ⟨Nat.le_of_ble_eq_true rfl, Nat.le_of_ble_eq_true rfl⟩ (rc_sb hK hT) hK (fun _ => XPb.blind) (fun U hU hW => XPb.at hK hz hS hT hU hW) rfl hl.1 (Nat.le_of_ble_eq_true rfl) dX9_clear_10 ⟨Nat.le_of_ble_eq_true rfl, Nat.le_of_ble_eq_true rfl⟩) hS ?_
  rintro ⟨q5, n6, k7⟩ H locs t8 hT hS
  have t8 : k7.toInt = 0 := t8
  have hT : TWb E K F G1 q5 n6 k7 H := hT
  have v10 : 0 ≤ k7.toInt ∧ k7.toInt ≤ (((n6) : Nat) : Int) ∧ (((n6) : Nat) : Int) ≤ 100 := hT.inv
  exact x_rv hx hb hr hlk hQ (Nat.le_of_ble_eq_true rfl) (Nat.le_of_ble_eq_true rfl) hS dX9_clear_13 G1 ⟨(by rw [hG1]; exact XFr.dput XFr.rf (List.mem_of_getElem? (i := 0) rfl)), (by rw [ld_at hG1]; decide)⟩ hT.cl

theorem z_X9_tell_1 (a0 : Int) (a1 : Nat) (h0 : ((a1 : Nat) : Int) = 5) (h1 : a0 = 0) : a0 + ((a1 : Nat) : Int) ≤ 48 := by omega
theorem z_X9_tell_2 (a0 : Int) (a1 : Int) (a2 : Nat) (h0 : ((a2 : Nat) : Int) = 5) (h1 : a1 = 0) (h2 : a0 = a1 + ((a2 : Nat) : Int)) : a0 ≤ 37 := by omega
theorem z_X9_tell_3 (a0 : Int) (a1 : Int) (a2 : Int) (a3 : Nat) (h0 : ((a3 : Nat) : Int) = 5) (h1 : a2 = 0) (h2 : a0 = a2 + ((a3 : Nat) : Int)) (h3 : a0 ≤ a1 ∧ a1 ≤ a0 + 11) : a1 ≤ 47 := by omega
theorem z_X9_tell_4 (a0 : Int) (a1 : Int) (a2 : Int) (a3 : Int) (a4 : Nat) (a5 : Nat) (h0 : ((a5 : Nat) : Int) ≤ 6) (h1 : ((a4 : Nat) : Int) = 5) (h2 : a3 = 0) (h3 : a0 = a3 + ((a4 : Nat) : Int)) (h4 : a0 ≤ a1 ∧ a1 ≤ a0 + 11) (h5 : a2 = a1 + 1) : a2 + ((a5 : Nat) : Int) ≤ 48 := by omega
theorem z_X9_tell_5 (a0 : Int) (a1 : Int) (a2 : Int) (a3 : Int) (a4 : Int) (a5 : Nat) (a6 : Nat) (h0 : ((a6 : Nat) : Int) ≤ 6) (h1 : ((a5 : Nat) : Int) = 5) (h2 : a4 = 0) (h3 : a0 = a4 + ((a5 : Nat) : Int)) (h4 : a0 ≤ a1 ∧ a1 ≤ a0 + 11) (h5 : a2 = a1 + 1) (h6 : a3 = a2 + ((a6 : Nat) : Int)) : a3 ≤ 47 := by omega
theorem z_X9_tell_6 (a0 : Int) (a1 : Int) (a2 : Int) (a3 : Int) (a4 : Int) (a5 : Int) (a6 : Nat) (a7 : Nat) (h0 : ((a7 : Nat) : Int) ≤ 6) (h1 : ((a6 : Nat) : Int) = 5) (h2 : a5 = 0) (h3 : a0 = a5 + ((a6 : Nat) : Int)) (h4 : a0 ≤ a1 ∧ a1 ≤ a0 + 11) (h5 : a2 = a1 + 1) (h6 : a3 = a2 + ((a7 : Nat) : Int)) (h7 : a4 = a3 + 1) : a4 ≤ 37 := by omega
abbrev rm_X9_tell : Room := { frames := 6, cells := 7, slots := 700, locals := 148 }
set_option maxHeartbeats 4000000 in
set_option maxRecDepth 100000 in
theorem c_X9_tell (l : Launch) (E : XE) (K : Nat → Nat) (F : Nat → Nat → Nat) (G : XG) (a : Nat) (p0 : Int32) (i : Nat) (p2 : Int32) (ha : K a = 11) (hi : i < 13) (e7 : ((xlen.getD i 0 : Nat) : Int) ≤ 6) : Met l yX9_tell (xw yX9_tell cX9_tell 4 none) rm_X9_tell (va_Pc [.ref a, .int p0, .ref (E.2.2.2.2.1 i), .int p2] (XP E K F G)) (XQv E (fun (u : XG) => XFr [(a, 1), (a, 2), (a, 3)] [] [] G u ∧ ((u.1 a 1).toInt = 1 ∧ (u.1 a 2).toInt = p0.toInt ∧ (u.1 a 3).toInt = p2.toInt)) (fun u H => TW E K F u H)) 7 700 (xA E) := by
  refine x_enter (by decide) (Nat.le_of_ble_eq_true rfl) ?_
  intro p e s m args below meth c Q S hr hlk hnm hQ hP ls hl
  obtain ⟨hz, hK, hT⟩ := hP
  obtain ⟨hx, hb, -, -, -⟩ := id S
  obtain ⟨H, hT, hS, hgo⟩ : ∃ H : Heap, TW E K F G H ∧ va_S (xA E) s.heap H [] ∧ H = s.heap := ⟨_, hT, va_S.rf, rfl⟩
  rw [← hgo]
  have hl : lv_has ls 4 [(0, .ref a), (1, .int p0), (2, .ref (E.2.2.2.2.1 i)), (3, .int p2)] := hl
  refine lv_aload_n hx hb dX9_tell_0 rfl (lv_at hl 0 rfl) ?_
  refine lv_iload_n hx hb dX9_tell_1 rfl (lv_at hl 1 rfl) ?_
  refine pX9_2 (v := p0) S hK hT hS ha kf_X9_26 dX9_tell_2 (fun H locs hT hS => ?_)
  obtain ⟨G1, hG1⟩ : ∃ G9 : XG, G9 = dput G a 2 p0 := ⟨_, rfl⟩
  rw [← hG1] at hT
  refine lv_aload_n hx hb dX9_tell_5 rfl (lv_at hl 0 rfl) ?_
  refine lv_iload_n hx hb dX9_tell_6 rfl (lv_at hl 3 rfl) ?_
  refine pX9_3 (v := p2) S hK hT hS ha kf_X9_30 dX9_tell_7 (fun H locs hT hS => ?_)
  obtain ⟨G2, hG2⟩ : ∃ G9 : XG, G9 = dput G1 a 3 p2 := ⟨_, rfl⟩
  rw [← hG2] at hT
  refine lv_aload_n hx hb dX9_tell_10 rfl (lv_at hl 0 rfl) ?_
  refine lv_iconst (v := 1) hx hb dX9_tell_11 (by decide) ?_
  refine pX9_1 (v := 1) S hK hT hS ha kf_X9_18 (Or.inr rfl) dX9_tell_12 (fun H locs hT hS => ?_)
  obtain ⟨G3, hG3⟩ : ∃ G9 : XG, G9 = dput G2 a 1 1 := ⟨_, rfl⟩
  rw [← hG3] at hT
  refine lv_aload_n hx hb dX9_tell_15 rfl (lv_at hl 0 rfl) ?_
  refine gX9_0 S hK hT ha kf_X9_12 dX9_tell_16 ?_
  refine lv_iconst (v := 0) hx hb dX9_tell_19 (by decide) ?_
  obtain ⟨q1, n2, k3, hT⟩ := hT.op
  have hT : TWb E K F G3 q1 n2 k3 H := hT
  have v4 : 0 ≤ k3.toInt ∧ k3.toInt ≤ (((n2) : Nat) : Int) ∧ (((n2) : Nat) : Int) ≤ 100 := hT.inv
  refine x_cv (x_runV (b := E.2.2.2.1) (As := [.int 0]) (rest := []) S (c_J4_setLength_d00df l E K F G3 q1 n2 k3 ) mv_J4_setLength_d00df km_X9_22 rfl rfl ⟨Nat.le_of_ble_eq_true rfl, Nat.le_of_ble_eq_true rfl⟩ (rc_sb hK hT) hK (fun _ => XPb.blind) (fun U hU hW => XPb.at hK hz hS hT hU hW) rfl hl.1 (Nat.le_of_ble_eq_true rfl) dX9_tell_20 ⟨Nat.le_of_ble_eq_true rfl, Nat.le_of_ble_eq_true rfl⟩) hS ?_
  rintro ⟨q5, n6, k7⟩ H locs t8 hT hS
  have t8 : k7.toInt = 0 := t8
  have hT : TWb E K F G3 q5 n6 k7 H := hT
  have v10 : 0 ≤ k7.toInt ∧ k7.toInt ≤ (((n6) : Nat) : Int) ∧ (((n6) : Nat) : Int) ≤ 100 := hT.inv
  refine lv_aload_n hx hb dX9_tell_23 rfl (lv_at hl 0 rfl) ?_
  refine gX9_0 S hK hT.cl ha kf_X9_12 dX9_tell_24 ?_
  refine va_ldcS hx hb S.2.2.2.1 (hK.2.2.1 10 ("LateRules$Verdict", 33, "rule ") rfl) dX9_tell_27 ?_
  refine x_cl (x_runV (b := E.2.2.2.1) (As := [.ref (E.2.2.2.2.1 10)]) (rest := []) S (c_J4_append_15ec4 l E K F G3 q5 n6 k7 10 (show 10 < 13 by decide) (z_X9_tell_1 k7.toInt (xlen.getD 10 0) (show ((xlen.getD 10 0 : Nat) : Int) = 5 from by decide) t8)) mv_J4_append_15ec4 km_X9_35 rfl rfl ⟨Nat.le_of_ble_eq_true rfl, Nat.le_of_ble_eq_true rfl⟩ (rc_sb hK hT) hK (fun _ => XPb.blind) (fun U hU hW => XPb.at hK hz hS hT hU hW) rfl hl.1 (Nat.le_of_ble_eq_true rfl) dX9_tell_29 ⟨Nat.le_of_ble_eq_true rfl, Nat.le_of_ble_eq_true rfl⟩) hS ?_
  rintro _ ⟨q11, n12, k13⟩ H locs ⟨rfl, t14⟩ hT hS
  have t14 : k13.toInt = k7.toInt + (((xlen.getD 10 0) : Nat) : Int) := t14
  have hT : TWb E K F G3 q11 n12 k13 H := hT
  have v16 : 0 ≤ k13.toInt ∧ k13.toInt ≤ (((n12) : Nat) : Int) ∧ (((n12) : Nat) : Int) ≤ 100 := hT.inv
  refine lv_pop hx hb dX9_tell_32 rfl ?_
  refine lv_aload_n hx hb dX9_tell_33 rfl (lv_at hl 0 rfl) ?_
  refine gX9_0 S hK hT.cl ha kf_X9_12 dX9_tell_34 ?_
  refine lv_iload_n hx hb dX9_tell_37 rfl (lv_at hl 1 rfl) ?_
  refine x_cl (x_runV (b := E.2.2.2.1) (As := [.int p0]) (rest := []) S (c_J4_append_bf812 l E K F G3 q11 n12 k13 p0 (z_X9_tell_2 k13.toInt k7.toInt (xlen.getD 10 0) (show ((xlen.getD 10 0 : Nat) : Int) = 5 from by decide) t8 t14)) mv_J4_append_bf812 km_X9_39 rfl rfl ⟨Nat.le_of_ble_eq_true rfl, Nat.le_of_ble_eq_true rfl⟩ (rc_sb hK hT) hK (fun _ => XPb.blind) (fun U hU hW => XPb.at hK hz hS hT hU hW) rfl hl.1 (Nat.le_of_ble_eq_true rfl) dX9_tell_38 ⟨Nat.le_of_ble_eq_true rfl, Nat.le_of_ble_eq_true rfl⟩) hS ?_
  rintro _ ⟨q17, n18, k19⟩ H locs ⟨rfl, t20⟩ hT hS
  have t20 : k13.toInt ≤ k19.toInt ∧ k19.toInt ≤ k13.toInt + 11 := t20
  have hT : TWb E K F G3 q17 n18 k19 H := hT
  have v22 : 0 ≤ k19.toInt ∧ k19.toInt ≤ (((n18) : Nat) : Int) ∧ (((n18) : Nat) : Int) ≤ 100 := hT.inv
  refine lv_pop hx hb dX9_tell_41 rfl ?_
  refine lv_aload_n hx hb dX9_tell_42 rfl (lv_at hl 0 rfl) ?_
  refine gX9_0 S hK hT.cl ha kf_X9_12 dX9_tell_43 ?_
  refine lv_bipush (v := 32) hx hb dX9_tell_46 (by decide) ?_
  refine x_cl (x_runV (b := E.2.2.2.1) (As := [.int 32]) (rest := []) S (c_J4_append_cf468 l E K F G3 q17 n18 k19 32 (z_X9_tell_3 k13.toInt k19.toInt k7.toInt (xlen.getD 10 0) (show ((xlen.getD 10 0 : Nat) : Int) = 5 from by decide) t8 t14 t20) (by decide)) mv_J4_append_cf468 km_X9_42 rfl rfl ⟨Nat.le_of_ble_eq_true rfl, Nat.le_of_ble_eq_true rfl⟩ (rc_sb hK hT) hK (fun _ => XPb.blind) (fun U hU hW => XPb.at hK hz hS hT hU hW) rfl hl.1 (Nat.le_of_ble_eq_true rfl) dX9_tell_48 ⟨Nat.le_of_ble_eq_true rfl, Nat.le_of_ble_eq_true rfl⟩) hS ?_
  rintro _ ⟨q23, n24, k25⟩ H locs ⟨rfl, t26⟩ hT hS
  have t26 : k25.toInt = k19.toInt + 1 := t26
  have hT : TWb E K F G3 q23 n24 k25 H := hT
  have v28 : 0 ≤ k25.toInt ∧ k25.toInt ≤ (((n24) : Nat) : Int) ∧ (((n24) : Nat) : Int) ≤ 100 := hT.inv
  refine lv_pop hx hb dX9_tell_51 rfl ?_
  refine lv_aload_n hx hb dX9_tell_52 rfl (lv_at hl 0 rfl) ?_
  refine gX9_0 S hK hT.cl ha kf_X9_12 dX9_tell_53 ?_
  refine lv_aload_n hx hb dX9_tell_56 rfl (lv_at hl 2 rfl) ?_
  refine x_cl (x_runV (b := E.2.2.2.1) (As := [.ref (E.2.2.2.2.1 i)]) (rest := []) S (c_J4_append_15ec4 l E K F G3 q23 n24 k25 i hi (z_X9_tell_4 k13.toInt k19.toInt k25.toInt k7.toInt (xlen.getD 10 0) (xlen.getD i 0) e7 (show ((xlen.getD 10 0 : Nat) : Int) = 5 from by decide) t8 t14 t20 t26)) mv_J4_append_15ec4 km_X9_35 rfl rfl ⟨Nat.le_of_ble_eq_true rfl, Nat.le_of_ble_eq_true rfl⟩ (rc_sb hK hT) hK (fun _ => XPb.blind) (fun U hU hW => XPb.at hK hz hS hT hU hW) rfl hl.1 (Nat.le_of_ble_eq_true rfl) dX9_tell_57 ⟨Nat.le_of_ble_eq_true rfl, Nat.le_of_ble_eq_true rfl⟩) hS ?_
  rintro _ ⟨q29, n30, k31⟩ H locs ⟨rfl, t32⟩ hT hS
  have t32 : k31.toInt = k25.toInt + (((xlen.getD i 0) : Nat) : Int) := t32
  have hT : TWb E K F G3 q29 n30 k31 H := hT
  have v34 : 0 ≤ k31.toInt ∧ k31.toInt ≤ (((n30) : Nat) : Int) ∧ (((n30) : Nat) : Int) ≤ 100 := hT.inv
  refine lv_pop hx hb dX9_tell_60 rfl ?_
  refine lv_aload_n hx hb dX9_tell_61 rfl (lv_at hl 0 rfl) ?_
  refine gX9_0 S hK hT.cl ha kf_X9_12 dX9_tell_62 ?_
  refine lv_bipush (v := 32) hx hb dX9_tell_65 (by decide) ?_
  refine x_cl (x_runV (b := E.2.2.2.1) (As := [.int 32]) (rest := []) S (c_J4_append_cf468 l E K F G3 q29 n30 k31 32 (z_X9_tell_5 k13.toInt k19.toInt k25.toInt k31.toInt k7.toInt (xlen.getD 10 0) (xlen.getD i 0) e7 (show ((xlen.getD 10 0 : Nat) : Int) = 5 from by decide) t8 t14 t20 t26 t32) (by decide)) mv_J4_append_cf468 km_X9_42 rfl rfl ⟨Nat.le_of_ble_eq_true rfl, Nat.le_of_ble_eq_true rfl⟩ (rc_sb hK hT) hK (fun _ => XPb.blind) (fun U hU hW => XPb.at hK hz hS hT hU hW) rfl hl.1 (Nat.le_of_ble_eq_true rfl) dX9_tell_67 ⟨Nat.le_of_ble_eq_true rfl, Nat.le_of_ble_eq_true rfl⟩) hS ?_
  rintro _ ⟨q35, n36, k37⟩ H locs ⟨rfl, t38⟩ hT hS
  have t38 : k37.toInt = k31.toInt + 1 := t38
  have hT : TWb E K F G3 q35 n36 k37 H := hT
  have v40 : 0 ≤ k37.toInt ∧ k37.toInt ≤ (((n36) : Nat) : Int) ∧ (((n36) : Nat) : Int) ≤ 100 := hT.inv
  refine lv_pop hx hb dX9_tell_70 rfl ?_
  refine lv_aload_n hx hb dX9_tell_71 rfl (lv_at hl 0 rfl) ?_
  refine gX9_0 S hK hT.cl ha kf_X9_12 dX9_tell_72 ?_
  refine lv_iload_n hx hb dX9_tell_75 rfl (lv_at hl 3 rfl) ?_
  refine x_cl (x_runV (b := E.2.2.2.1) (As := [.int p2]) (rest := []) S (c_J4_append_bf812 l E K F G3 q35 n36 k37 p2 (z_X9_tell_6 k13.toInt k19.toInt k25.toInt k31.toInt k37.toInt k7.toInt (xlen.getD 10 0) (xlen.getD i 0) e7 (show ((xlen.getD 10 0 : Nat) : Int) = 5 from by decide) t8 t14 t20 t26 t32 t38)) mv_J4_append_bf812 km_X9_39 rfl rfl ⟨Nat.le_of_ble_eq_true rfl, Nat.le_of_ble_eq_true rfl⟩ (rc_sb hK hT) hK (fun _ => XPb.blind) (fun U hU hW => XPb.at hK hz hS hT hU hW) rfl hl.1 (Nat.le_of_ble_eq_true rfl) dX9_tell_76 ⟨Nat.le_of_ble_eq_true rfl, Nat.le_of_ble_eq_true rfl⟩) hS ?_
  rintro _ ⟨q41, n42, k43⟩ H locs ⟨rfl, t44⟩ hT hS
  have t44 : k37.toInt ≤ k43.toInt ∧ k43.toInt ≤ k37.toInt + 11 := t44
  have hT : TWb E K F G3 q41 n42 k43 H := hT
  have v46 : 0 ≤ k43.toInt ∧ k43.toInt ≤ (((n42) : Nat) : Int) ∧ (((n42) : Nat) : Int) ≤ 100 := hT.inv
  refine lv_pop hx hb dX9_tell_79 rfl ?_
  exact x_rv hx hb hr hlk hQ (Nat.le_of_ble_eq_true rfl) (Nat.le_of_ble_eq_true rfl) hS dX9_tell_80 G3 ⟨(by rw [hG3]; exact XFr.dput (by rw [hG2]; exact XFr.dput (by rw [hG1]; exact XFr.dput XFr.rf (List.mem_of_getElem? (i := 1) rfl)) (List.mem_of_getElem? (i := 2) rfl)) (List.mem_of_getElem? (i := 0) rfl)), (by rw [ld_at hG3]; decide), (by rw [ld_j hG3 (by decide), ld_j hG2 (by decide), ld_at hG1]), (by rw [ld_j hG3 (by decide), ld_at hG2])⟩ hT.cl

abbrev rm_X9_signs : Room := { frames := 2, cells := 0, slots := 0, locals := 40 }
set_option maxHeartbeats 4000000 in
set_option maxRecDepth 100000 in
theorem c_X9_signs (l : Launch) (E : XE) (K : Nat → Nat) (F : Nat → Nat → Nat) (G : XG) (h0 : Heap) (a : Nat) (ha : K a = 11) : Met l yX9_signs (xw yX9_signs cX9_signs 1 (some .int)) rm_X9_signs (va_Pc [.ref a] (XPh E K F G h0)) (XQ E (fun v (u : Unit) => ∃ r : Int32, v = .int r) (fun _ H => H = h0)) 0 0 (xA E) := by
  refine x_enter (by decide) (Nat.le_of_ble_eq_true rfl) ?_
  intro p e s m args below meth c Q S hr hlk hnm hQ hP ls hl
  obtain ⟨⟨hz, hK, hT⟩, hh⟩ := hP
  obtain ⟨hx, hb, -, -, -⟩ := id S
  have hS : va_S (xA E) s.heap s.heap [] := va_S.rf
  have hl : lv_has ls 1 [(0, .ref a)] := hl
  refine lv_aload_n hx hb dX9_signs_0 rfl (lv_at hl 0 rfl) ?_
  refine gX9_0 S hK hT ha kf_X9_12 dX9_signs_1 ?_
  obtain ⟨q1, n2, k3, hT⟩ := hT.op
  have hT : TWb E K F G q1 n2 k3 s.heap := hT
  have v4 : 0 ≤ k3.toInt ∧ k3.toInt ≤ (((n2) : Nat) : Int) ∧ (((n2) : Nat) : Int) ≤ 100 := hT.inv
  refine x_clp (x_runV (b := E.2.2.2.1) (As := []) (rest := []) S (c_J4_length_8abf5 l E K F G q1 n2 k3 s.heap ) mv_J4_length_8abf5 km_X9_45 rfl rfl ⟨Nat.le_of_ble_eq_true rfl, Nat.le_of_ble_eq_true rfl⟩ (rc_sb hK hT) hK (fun _ => XPbh.blind) (fun U hU hW => XPbh.at hK hz hS hT hU hW) rfl hl.1 (Nat.le_of_ble_eq_true rfl) dX9_signs_4 ⟨Nat.le_of_ble_eq_true rfl, Nat.le_of_ble_eq_true rfl⟩) hS ?_
  rintro _ _ locs ⟨x5, rfl, t6⟩ hS
  have t6 : x5.toInt = k3.toInt := t6
  exact x_ri hx hb hr hlk hQ (Nat.le_of_ble_eq_true rfl) (Nat.le_of_ble_eq_true rfl) hS dX9_signs_7 () ⟨_, rfl⟩ hh

theorem z_X9_signAt_1 (a0 : Int) (a1 : Int) (a2 : Int) (h0 : ¬ (a1 < 0)) (h1 : a2 = a0) (h2 : ¬ (a2 ≤ a1)) : 0 ≤ a1 ∧ a1 < a0 := by omega
abbrev rm_X9_signAt : Room := { frames := 4, cells := 0, slots := 0, locals := 88 }
set_option maxHeartbeats 4000000 in
set_option maxRecDepth 100000 in
theorem c_X9_signAt (l : Launch) (E : XE) (K : Nat → Nat) (F : Nat → Nat → Nat) (G : XG) (h0 : Heap) (a : Nat) (p0 : Int32) (ha : K a = 11) : Met l yX9_signAt (xw yX9_signAt cX9_signAt 2 (some .int)) rm_X9_signAt (va_Pc [.ref a, .int p0] (XPh E K F G h0)) (XQ E (fun v (u : Unit) => ∃ r : Int32, v = .int r) (fun _ H => H = h0)) 0 0 (xA E) := by
  refine x_enter (by decide) (Nat.le_of_ble_eq_true rfl) ?_
  intro p e s m args below meth c Q S hr hlk hnm hQ hP ls hl
  obtain ⟨⟨hz, hK, hT⟩, hh⟩ := hP
  obtain ⟨hx, hb, -, -, -⟩ := id S
  have hS : va_S (xA E) s.heap s.heap [] := va_S.rf
  have hl : lv_has ls 2 [(0, .ref a), (1, .int p0)] := hl
  refine lv_iload_n hx hb dX9_signAt_0 rfl (lv_at hl 1 rfl) ?_
  refine xi_zlt (tgt := 26) hx hb (rfl : Int32.toInt p0 = p0.toInt) dX9_signAt_1 (by decide) (fun c1 => ?_) (fun c1 => ?_)
  · refine lv_iconst (v := (-1)) hx hb dX9_signAt_26 (by decide) ?_
    exact x_ri hx hb hr hlk hQ (Nat.le_of_ble_eq_true rfl) (Nat.le_of_ble_eq_true rfl) hS dX9_signAt_27 () ⟨_, rfl⟩ hh
  · refine lv_iload_n hx hb dX9_signAt_4 rfl (lv_at hl 1 rfl) ?_
    refine lv_aload_n hx hb dX9_signAt_5 rfl (lv_at hl 0 rfl) ?_
    refine gX9_0 S hK hT ha kf_X9_12 dX9_signAt_6 ?_
    obtain ⟨q2, n3, k4, hT⟩ := hT.op
    have hT : TWb E K F G q2 n3 k4 s.heap := hT
    have v5 : 0 ≤ k4.toInt ∧ k4.toInt ≤ (((n3) : Nat) : Int) ∧ (((n3) : Nat) : Int) ≤ 100 := hT.inv
    refine x_clp (x_runV (b := E.2.2.2.1) (As := []) (rest := [.int p0]) S (c_J4_length_8abf5 l E K F G q2 n3 k4 s.heap ) mv_J4_length_8abf5 km_X9_45 rfl rfl ⟨Nat.le_of_ble_eq_true rfl, Nat.le_of_ble_eq_true rfl⟩ (rc_sb hK hT) hK (fun _ => XPbh.blind) (fun U hU hW => XPbh.at hK hz hS hT hU hW) rfl hl.1 (Nat.le_of_ble_eq_true rfl) dX9_signAt_9 ⟨Nat.le_of_ble_eq_true rfl, Nat.le_of_ble_eq_true rfl⟩) hS ?_
    rintro _ _ locs ⟨x6, rfl, t7⟩ hS
    have t7 : x6.toInt = k4.toInt := t7
    refine xi_cge (tgt := 26) hx hb (rfl : Int32.toInt p0 = p0.toInt) (rfl : Int32.toInt x6 = x6.toInt) dX9_signAt_12 (by decide) (fun c8 => ?_) (fun c8 => ?_)
    · refine lv_iconst (v := (-1)) hx hb dX9_signAt_26 (by decide) ?_
      exact x_ri hx hb hr hlk hQ (Nat.le_of_ble_eq_true rfl) (Nat.le_of_ble_eq_true rfl) hS dX9_signAt_27 () ⟨_, rfl⟩ hh
    · refine lv_aload_n hx hb dX9_signAt_15 rfl (lv_at hl 0 rfl) ?_
      refine gX9_0 S hK hT.cl ha kf_X9_12 dX9_signAt_16 ?_
      refine lv_iload_n hx hb dX9_signAt_19 rfl (lv_at hl 1 rfl) ?_
      refine x_clp (x_runV (b := E.2.2.2.1) (As := [.int p0]) (rest := []) S (c_J4_charAt_5068e l E K F G q2 n3 k4 s.heap p0 (z_X9_signAt_1 k4.toInt p0.toInt x6.toInt c1 t7 c8)) mv_J4_charAt_5068e km_X9_49 rfl rfl ⟨Nat.le_of_ble_eq_true rfl, Nat.le_of_ble_eq_true rfl⟩ (rc_sb hK hT) hK (fun _ => XPbh.blind) (fun U hU hW => XPbh.at hK hz hS hT hU hW) rfl hl.1 (Nat.le_of_ble_eq_true rfl) dX9_signAt_20 ⟨Nat.le_of_ble_eq_true rfl, Nat.le_of_ble_eq_true rfl⟩) hS ?_
      rintro _ _ locs ⟨x9, rfl, o10⟩ hS
      refine lv_goto (tgt := 27) hx hb dX9_signAt_23 (by decide) ?_
      exact x_ri hx hb hr hlk hQ (Nat.le_of_ble_eq_true rfl) (Nat.le_of_ble_eq_true rfl) hS dX9_signAt_27 () ⟨_, rfl⟩ hh
section
section XLD
variable {p : Program} {l : Launch} {e : Env} {R : Room} {s : State} {m : MethodId} {args : Array Value} {below : List Frame} {meth : Method} {c : Code} {H : Heap} {locs : List Loc} {cells slots : Nat} {Q : State → Prop}
variable {pc : Nat} {ls : Array Slot} {rest : List Value} {H0 : Heap} {E : XE} {cc : ByteArray} {nL : Nat} {own : String} {w0 : Cond} {K : Nat → Nat} {F : Nat → Nat → Nat} {G : XG} {a idx : Nat} {X Y : Int}
theorem x_ldcSw (hx : p.tables.exec = Jvm.exec) (hb : c.code = cc) {tx : String} {q : Nat} (hown : s.vm.findClass own = some m.cls) (hZ : vk_R own idx tx q s) (hdg : decode cc pc = .ok (.ldc_w idx, 3)) (k : W p l e R s m args below meth c H locs cells slots Q (F0 m (pc + 3) ls (.ref q :: rest))) : W p l e R s m args below meth c H locs cells slots Q (F0 m pc ls rest) := by
  intro T hT X
  obtain ⟨t, a1, b1⟩ := k T hT X
  exact ⟨t, X.ldcStringW hx hown (text := tx) (a := q) hZ.1 hZ.2 (g := F0 m pc ls rest) rfl (by rw [hb]; exact hdg) t a1, b1⟩
end XLD
end
/-! ===== the late ones of a list, in order ===== -/
def qP (G : XG) (F : Nat → Nat → Nat) (a n : Nat) : List Qt := lst (qt (G.2.1 (F a 0)) (G.2.1 (F a 1)) (G.2.1 (F a 2)) (G.2.1 (F a 3)) (G.2.1 (F a 4)) (G.2.1 (F a 5))) n
theorem qP_s (G : XG) (F : Nat → Nat → Nat) (a n : Nat) : qP G F a (n + 1) = qP G F a n ++ [qt (G.2.1 (F a 0)) (G.2.1 (F a 1)) (G.2.1 (F a 2)) (G.2.1 (F a 3)) (G.2.1 (F a 4)) (G.2.1 (F a 5)) n] := lst_s _ _
theorem qP_L (G : XG) (F : Nat → Nat → Nat) (a : Nat) : qP G F a (G.1 a 6).toInt.toNat = qL G F a := rfl
theorem qP_take (G : XG) (F : Nat → Nat → Nat) (a : Nat) {n : Nat} (h : (n : Int) ≤ (G.1 a 6).toInt) : qP G F a n = (qL G F a).take n := by
  refine List.ext_getElem? (fun i => ?_)
  rw [List.getElem?_take]
  by_cases g : i < n
  · rw [if_pos g]
    exact (lst_get _ g).trans (lst_get _ (show i < (G.1 a 6).toInt.toNat by omega)).symm
  · rw [if_neg g]
    refine List.getElem?_eq_none ?_
    have e : (qP G F a n).length = n := lst_len _ _
    omega
def ltF (l : List Qt) : List Qt := l.filter (fun x => decide (x.2.2.2.2.1 ≠ 0))
theorem ltF_y {l : List Qt} {x : Qt} (h : x.2.2.2.2.1 ≠ 0) : ltF (l ++ [x]) = ltF l ++ [x] := by
  unfold ltF
  rw [List.filter_append, List.filter_cons_of_pos (by exact decide_eq_true h), List.filter_nil]
theorem ltF_n {l : List Qt} {x : Qt} (h : x.2.2.2.2.1 = 0) : ltF (l ++ [x]) = ltF l := by
  unfold ltF
  rw [List.filter_append, List.filter_cons_of_neg (by intro q; exact of_decide_eq_true q h), List.filter_nil, List.append_nil]
/-- what of w was asked, and whether all of it held -/
def AskR (w l : List Qt) (ok : Int) : Prop := (ok = 1 ∧ l = ltF w) ∨ (ok = 0 ∧ ∃ (n : Nat) (x : Qt), w[n]? = some x ∧ x.2.2.2.2.1 ≠ 0 ∧ x.2.2.2.2.2 ≠ 0 ∧ (∀ (j : Nat) (y : Qt), j < n → w[j]? = some y → y.2.2.2.2.1 ≠ 0 → y.2.2.2.2.2 = 0) ∧ l = ltF (w.take (n + 1)))
theorem AskR_n {G : XG} {F : Nat → Nat → Nat} {p : Nat} {l : List Qt} {n : Nat} (h0 : (n : Int) < (G.1 p 6).toInt) (h1 : aI (G.2.1 (F p 4)) (n : Int) ≠ 0) (h2 : aI (G.2.1 (F p 5)) (n : Int) ≠ 0) (h3 : ∀ j : Int, 0 ≤ j → j < (n : Int) → aI (G.2.1 (F p 4)) j ≠ 0 → aI (G.2.1 (F p 5)) j = 0) (h4 : l = ltF (qP G F p (n + 1))) : AskR (qL G F p) l 0 := by
  refine Or.inr ⟨rfl, n, _, lst_get _ (show n < (G.1 p 6).toInt.toNat by omega), h1, h2, fun j y hj hy a => ?_, ?_⟩
  · obtain ⟨_, rfl⟩ := qL_get hy
    exact h3 (j : Int) (by omega) (by omega) a
  · rw [h4, qP_take G F p (by omega)]
/-! ===== what is asked, till one fails; what that leaves ===== -/
def upF (sel : Qt → Bool) : List Qt → List Qt
  | [] => []
  | x :: l => if sel x = true then (if x.2.2.2.2.2 ≠ 0 then [x] else x :: upF sel l) else upF sel l
def ltS (x : Qt) : Bool := decide (x.2.2.2.2.1 ≠ 0)
def prS (x : Qt) : Bool := decide (x.2.2.2.2.1 = 0)
def ruS (v : Int) (x : Qt) : Bool := decide (x.1 = v)
def fqF : List Qt → Option Qt
  | [] => none
  | x :: l => if x.2.2.2.2.2 ≠ 0 then some x else fqF l
theorem upF_y {sel : Qt → Bool} {x : Qt} {l : List Qt} (h : sel x = true) (h2 : x.2.2.2.2.2 = 0) : upF sel (x :: l) = x :: upF sel l := by
  show (if sel x = true then (if x.2.2.2.2.2 ≠ 0 then [x] else x :: upF sel l) else upF sel l) = _
  rw [if_pos h, if_neg (fun q => q h2)]
theorem upF_f {sel : Qt → Bool} {x : Qt} {l : List Qt} (h : sel x = true) (h2 : x.2.2.2.2.2 ≠ 0) : upF sel (x :: l) = [x] := by
  show (if sel x = true then (if x.2.2.2.2.2 ≠ 0 then [x] else x :: upF sel l) else upF sel l) = _
  rw [if_pos h, if_pos h2]
theorem upF_n {sel : Qt → Bool} {x : Qt} {l : List Qt} (h : ¬ (sel x = true)) : upF sel (x :: l) = upF sel l := by
  show (if sel x = true then (if x.2.2.2.2.2 ≠ 0 then [x] else x :: upF sel l) else upF sel l) = _
  rw [if_neg h]
theorem upF_all {sel : Qt → Bool} : ∀ l : List Qt, (∀ x, x ∈ l → sel x = true → x.2.2.2.2.2 = 0) → upF sel l = l.filter sel ∧ fqF (upF sel l) = none
  | [], _ => ⟨rfl, rfl⟩
  | x :: l, h => by
    obtain ⟨i1, i2⟩ := upF_all l (fun y hy => h y (List.mem_cons_of_mem _ hy))
    by_cases c : sel x = true
    · have z := h x List.mem_cons_self c
      rw [upF_y c z, List.filter_cons_of_pos c, i1]
      refine ⟨rfl, ?_⟩
      rw [← i1]
      unfold fqF
      rw [if_neg (fun q => q z)]
      exact i2
    · rw [upF_n c, List.filter_cons_of_neg c]
      exact ⟨i1, i2⟩
theorem upF_at {sel : Qt → Bool} {x : Qt} (hs : sel x = true) (hx : x.2.2.2.2.2 ≠ 0) : ∀ (l : List Qt) (n : Nat), l[n]? = some x → (∀ (j : Nat) (y : Qt), j < n → l[j]? = some y → sel y = true → y.2.2.2.2.2 = 0) → upF sel l = (l.take (n + 1)).filter sel ∧ fqF (upF sel l) = some x
  | [], n, h, _ => by cases h
  | y :: l, 0, h, _ => by
    cases h
    rw [upF_f hs hx, List.take_succ_cons, List.take_zero, List.filter_cons_of_pos hs]
    refine ⟨rfl, ?_⟩
    unfold fqF
    exact if_pos hx
  | y :: l, n + 1, h, h2 => by
    obtain ⟨i1, i2⟩ := upF_at hs hx l n h (fun j z hj hz => h2 (j + 1) z (by omega) hz)
    rw [List.take_succ_cons]
    by_cases c : sel y = true
    · have z := h2 0 y (by omega) rfl c
      rw [upF_y c z, List.filter_cons_of_pos c, i1]
      refine ⟨rfl, ?_⟩
      rw [← i1]
      unfold fqF
      rw [if_neg (fun q => q z)]
      exact i2
    · rw [upF_n c, List.filter_cons_of_neg c]
      exact ⟨i1, i2⟩
theorem fqF_n {l : List Qt} (h : fqF l = none) : ∀ x, x ∈ l → x.2.2.2.2.2 = 0 := by
  induction l with
  | nil => intro x hx; cases hx
  | cons y l ih =>
    unfold fqF at h
    by_cases c : y.2.2.2.2.2 ≠ 0
    · rw [if_pos c] at h; cases h
    · rw [if_neg c] at h
      intro x hx
      rcases List.mem_cons.mp hx with e | e
      · rw [e]; exact Classical.byContradiction c
      · exact ih h x e
theorem fqF_s {l : List Qt} {x : Qt} (h : fqF l = some x) : x ∈ l ∧ x.2.2.2.2.2 ≠ 0 := by
  induction l with
  | nil => cases h
  | cons y l ih =>
    unfold fqF at h
    by_cases c : y.2.2.2.2.2 ≠ 0
    · rw [if_pos c] at h; cases h; exact ⟨List.mem_cons_self, c⟩
    · rw [if_neg c] at h
      exact ⟨List.mem_cons_of_mem _ (ih h).1, (ih h).2⟩
/-! the same, of a list that lies in rows -/
theorem flt_y {sel : Qt → Bool} {l : List Qt} {x : Qt} (h : sel x = true) : (l ++ [x]).filter sel = l.filter sel ++ [x] := by
  rw [List.filter_append, List.filter_cons_of_pos h, List.filter_nil]
theorem flt_n {sel : Qt → Bool} {l : List Qt} {x : Qt} (h : ¬ (sel x = true)) : (l ++ [x]).filter sel = l.filter sel := by
  rw [List.filter_append, List.filter_cons_of_neg h, List.filter_nil, List.append_nil]
theorem fln_y {sel : Qt → Bool} {l : List Qt} {x : Qt} (h : sel x = true) : (((((l ++ [x]).filter sel).length : Nat)) : Int) = (((l.filter sel).length : Nat) : Int) + 1 := by
  rw [flt_y h, List.length_append, List.length_cons, List.length_nil]
  omega
theorem fln_n {sel : Qt → Bool} {l : List Qt} {x : Qt} (h : ¬ (sel x = true)) : (((((l ++ [x]).filter sel).length : Nat)) : Int) = (((l.filter sel).length : Nat) : Int) := by
  rw [flt_n h]
theorem upL_all {sel : Qt → Bool} {G : XG} {F : Nat → Nat → Nat} {p : Nat} {n : Int} (hn : (G.1 p 6).toInt ≤ n) (hm : n ≤ (G.1 p 6).toInt) (h : ∀ j : Int, 0 ≤ j → j < n → sel (qt (G.2.1 (F p 0)) (G.2.1 (F p 1)) (G.2.1 (F p 2)) (G.2.1 (F p 3)) (G.2.1 (F p 4)) (G.2.1 (F p 5)) j.toNat) = true → aI (G.2.1 (F p 5)) j = 0) : upF sel (qL G F p) = (qP G F p n.toNat).filter sel ∧ fqF (upF sel (qL G F p)) = none := by
  have e : qP G F p n.toNat = qL G F p := by
    rw [show n.toNat = (G.1 p 6).toInt.toNat by omega]
    rfl
  rw [e]
  refine upF_all _ (fun x hx hs => ?_)
  obtain ⟨j, hj⟩ := List.mem_iff_getElem?.mp hx
  obtain ⟨h1, rfl⟩ := qL_get hj
  have q := h (j : Int) (by omega) (by omega)
  rw [show ((j : Int)).toNat = j by omega] at q
  exact q hs
theorem upL_at {sel : Qt → Bool} {G : XG} {F : Nat → Nat → Nat} {p : Nat} {n : Int} (h0 : 0 ≤ n ∧ n < (G.1 p 6).toInt) (hs : sel (qt (G.2.1 (F p 0)) (G.2.1 (F p 1)) (G.2.1 (F p 2)) (G.2.1 (F p 3)) (G.2.1 (F p 4)) (G.2.1 (F p 5)) n.toNat) = true) (hx : aI (G.2.1 (F p 5)) n ≠ 0) (h : ∀ j : Int, 0 ≤ j → j < n → sel (qt (G.2.1 (F p 0)) (G.2.1 (F p 1)) (G.2.1 (F p 2)) (G.2.1 (F p 3)) (G.2.1 (F p 4)) (G.2.1 (F p 5)) j.toNat) = true → aI (G.2.1 (F p 5)) j = 0) : upF sel (qL G F p) = (qP G F p (n.toNat + 1)).filter sel ∧ fqF (upF sel (qL G F p)) = some (qt (G.2.1 (F p 0)) (G.2.1 (F p 1)) (G.2.1 (F p 2)) (G.2.1 (F p 3)) (G.2.1 (F p 4)) (G.2.1 (F p 5)) n.toNat) := by
  rw [qP_take G F p (show ((n.toNat + 1 : Nat) : Int) ≤ (G.1 p 6).toInt by omega)]
  refine upF_at hs hx _ _ (qL_at h0) (fun j y hj hy a => ?_)
  obtain ⟨_, rfl⟩ := qL_get hy
  have q := h (j : Int) (by omega) (by omega)
  rw [show ((j : Int)).toNat = j by omega] at q
  exact q a
/-! the verdict: told, number, subject -/
def VDo (o : Option Qt) (t n s t1 n1 s1 : Int) : Prop := match o with
  | none => t1 = t ∧ n1 = n ∧ s1 = s
  | some x => t1 = 1 ∧ n1 = x.1 ∧ s1 = x.2.1
def TV (G u : XG) (v : Nat) (o : Option Qt) : Prop := VDo o (G.1 v 1).toInt (G.1 v 2).toInt (G.1 v 3).toInt (u.1 v 1).toInt (u.1 v 2).toInt (u.1 v 3).toInt
theorem TV.rf {G u : XG} {v : Nat} (h1 : u.1 v 1 = G.1 v 1) (h2 : u.1 v 2 = G.1 v 2) (h3 : u.1 v 3 = G.1 v 3) : TV G u v none := ⟨congrArg Int32.toInt h1, congrArg Int32.toInt h2, congrArg Int32.toInt h3⟩
def orQ (o o2 : Option Qt) : Option Qt := match o with
  | none => o2
  | some x => some x
theorem TV.tr {G u w : XG} {v : Nat} {o : Option Qt} (h : TV G u v none) (h2 : TV u w v o) : TV G w v o := by
  obtain ⟨a, b, c⟩ := h
  cases o with
  | none =>
    obtain ⟨d, e, f⟩ := h2
    exact ⟨d.trans a, e.trans b, f.trans c⟩
  | some x =>
    obtain ⟨d, e, f⟩ := h2
    exact ⟨d, e, f⟩
theorem TV.cg {G u w : XG} {v : Nat} {o : Option Qt} (h : TV G u v o) (h1 : w.1 v 1 = u.1 v 1) (h2 : w.1 v 2 = u.1 v 2) (h3 : w.1 v 3 = u.1 v 3) : TV G w v o := by
  unfold TV at *
  rw [h1, h2, h3]
  exact h
/-- behind what clears the verdict -/
def TV0 (u : XG) (v : Nat) (o : Option Qt) : Prop := match o with
  | none => (u.1 v 1).toInt = 0
  | some x => (u.1 v 1).toInt = 1 ∧ (u.1 v 2).toInt = x.1 ∧ (u.1 v 3).toInt = x.2.1
theorem TV.t0 {G u : XG} {v : Nat} {o : Option Qt} (h : TV G u v o) (h0 : (G.1 v 1).toInt = 0) : TV0 u v o := by
  cases o with
  | none => exact h.1.trans h0
  | some x => exact h
theorem TV0.cg {u w : XG} {v : Nat} {o : Option Qt} (h : TV0 u v o) (h1 : w.1 v 1 = u.1 v 1) (h2 : w.1 v 2 = u.1 v 2) (h3 : w.1 v 3 = u.1 v 3) : TV0 w v o := by
  unfold TV0 at *
  rw [h1, h2, h3]
  exact h
/-- the number is that of a rule in the book -/
def inBk (G : XG) (f : Nat → Option Nat) (v : Int) : Prop := (0 ≤ v ∧ v < 12) ∧ ∃ q : Nat, f v.toNat = some q ∧ (G.1 q 1).toInt = v
theorem inBk.cg {G u : XG} {f : Nat → Option Nat} {v : Int} (h : inBk G f v) (h2 : ∀ i q : Nat, i < 12 → f i = some q → u.1 q = G.1 q) : inBk u f v := by
  obtain ⟨a, q, b, c⟩ := h
  exact ⟨a, q, b, by rw [h2 v.toNat q (by omega) b]; exact c⟩
theorem inBk.no {G : XG} {f : Nat → Option Nat} {v : Int} (h : inBk G f v) (h2 : (v < 0 ∨ 12 ≤ v) ∨ f v.toNat = none) : False := by
  obtain ⟨a, q, b, -⟩ := h
  rcases h2 with h2 | h2
  · omega
  · rw [h2] at b; cases b
theorem inBk.at {G : XG} {f : Nat → Option Nat} {v : Int} {q : Nat} (h : inBk G f v) (h2 : f v.toNat = some q) : (G.1 q 1).toInt = v := by
  obtain ⟨-, q2, b, c⟩ := h
  rw [h2] at b
  cases b
  exact c
/-! what an act leaves behind: the verdict, how many were asked -/
def isN (o : Option Qt) : Int := match o with
  | none => 1
  | some _ => 0
def isS (o : Option Qt) : Int := match o with
  | none => 0
  | some _ => 1
noncomputable def acV (op : Int) (L : List Qt) : Option Qt := match fqF (upF prS L) with
  | some x => some x
  | none => if op = 0 then fqF (upF ltS L) else none
noncomputable def acK (op : Int) (L : List Qt) : Int := (((upF prS L).length : Nat) : Int) + (match fqF (upF prS L) with
  | some _ => 0
  | none => if op = 0 then (((upF ltS L).length : Nat) : Int) else 0)
noncomputable def acC (op : Int) (L : List Qt) : Int := match fqF (upF prS L) with
  | some _ => 0
  | none => if op = 0 then isN (fqF (upF ltS L)) else 0
noncomputable def acB (op : Int) (L : List Qt) : Int := match fqF (upF prS L) with
  | some _ => 0
  | none => if op = 0 then isS (fqF (upF ltS L)) else 0
def acA (op : Int) (L w0 w1 : List Qt) : Prop := match fqF (upF prS L) with
  | some _ => w1 = w0
  | none => if op = 0 then w1 = upF ltS L ∧ ((L.length : Nat) : Int) ≤ 1080 else w1 = w0
theorem ac_s {L : List Qt} {x : Qt} (h : fqF (upF prS L) = some x) (op : Int) (w0 w1 : List Qt) : acV op L = some x ∧ acK op L = (((upF prS L).length : Nat) : Int) ∧ acC op L = 0 ∧ acB op L = 0 ∧ (w1 = w0 → acA op L w0 w1) := by
  unfold acV acK acC acB acA
  rw [h]
  dsimp only
  exact ⟨rfl, by omega, rfl, rfl, fun e => e⟩
theorem ac_n {L : List Qt} (h : fqF (upF prS L) = none) {op : Int} (ho : op ≠ 0) (w0 w1 : List Qt) : acV op L = none ∧ acK op L = (((upF prS L).length : Nat) : Int) ∧ acC op L = 0 ∧ acB op L = 0 ∧ (w1 = w0 → acA op L w0 w1) := by
  unfold acV acK acC acB acA
  rw [h]
  dsimp only
  rw [if_neg ho, if_neg ho, if_neg ho, if_neg ho, if_neg ho]
  exact ⟨rfl, by omega, rfl, rfl, fun e => e⟩
theorem ac_o {L : List Qt} (h : fqF (upF prS L) = none) {op : Int} (ho : op = 0) (w0 w1 : List Qt) : acV op L = fqF (upF ltS L) ∧ acK op L = (((upF prS L).length : Nat) : Int) + (((upF ltS L).length : Nat) : Int) ∧ acC op L = isN (fqF (upF ltS L)) ∧ acB op L = isS (fqF (upF ltS L)) ∧ (w1 = upF ltS L → ((L.length : Nat) : Int) ≤ 1080 → acA op L w0 w1) := by
  unfold acV acK acC acB acA
  rw [h]
  dsimp only
  rw [if_pos ho, if_pos ho, if_pos ho, if_pos ho, if_pos ho]
  exact ⟨rfl, rfl, rfl, rfl, fun e e2 => ⟨e, e2⟩⟩
theorem upF_ex {sel : Qt → Bool} : ∀ (l : List Qt) (n : Nat) (x : Qt), l[n]? = some x → sel x = true → x.2.2.2.2.2 ≠ 0 → fqF (upF sel l) ≠ none
  | [], n, x, h, _, _ => by cases h
  | y :: l, 0, x, h, h1, h2 => by
    cases h
    rw [upF_f h1 h2]
    unfold fqF
    rw [if_pos h2]
    exact fun q => by cases q
  | y :: l, n + 1, x, h, h1, h2 => by
    have i := upF_ex l n x h h1 h2
    by_cases c : sel y = true
    · by_cases c2 : y.2.2.2.2.2 ≠ 0
      · rw [upF_f c c2]
        unfold fqF
        rw [if_pos c2]
        exact fun q => by cases q
      · have c3 : y.2.2.2.2.2 = 0 := Classical.byContradiction c2
        rw [upF_y c c3]
        unfold fqF
        rw [if_neg c2]
        exact i
    · rw [upF_n c]
      exact i
theorem pr_fl (L : List Qt) : fqF (upF prS L) = none ↔ ∀ x, x ∈ L → x.2.2.2.2.1 = 0 → x.2.2.2.2.2 = 0 := by
  constructor
  · intro h x hx h1
    apply Classical.byContradiction
    intro h2
    obtain ⟨n, hn⟩ := List.mem_iff_getElem?.mp hx
    exact absurd h (upF_ex (sel := prS) L n x hn (decide_eq_true h1) h2)
  · intro h
    exact (upF_all L (fun x hx h1 => h x hx (of_decide_eq_true h1))).2
theorem fqF_at {x : Qt} (hx : x.2.2.2.2.2 ≠ 0) : ∀ (l : List Qt) (n : Nat), l[n]? = some x → (∀ (j : Nat) (y : Qt), j < n → l[j]? = some y → y.2.2.2.2.2 = 0) → fqF l = some x
  | [], n, h, _ => by cases h
  | y :: l, 0, h, _ => by
    cases h
    unfold fqF
    exact if_pos hx
  | y :: l, n + 1, h, h2 => by
    have z := h2 0 y (by omega) rfl
    unfold fqF
    rw [if_neg (fun q => q z)]
    exact fqF_at hx l n h (fun j w hj hw => h2 (j + 1) w (by omega) hw)
theorem fqL_at {G : XG} {F : Nat → Nat → Nat} {a : Nat} {r : Int} (h1 : r = -1 ∨ (0 ≤ r ∧ r < (G.1 a 6).toInt ∧ aI (G.2.1 (F a 5)) r = 1)) (h2 : ∀ j : Int, 0 ≤ j → j < (G.1 a 6).toInt → (r = -1 ∨ j < r) → aI (G.2.1 (F a 5)) j = 0) (hr : r ≠ -1) : fqF (qL G F a) = some (qt (G.2.1 (F a 0)) (G.2.1 (F a 1)) (G.2.1 (F a 2)) (G.2.1 (F a 3)) (G.2.1 (F a 4)) (G.2.1 (F a 5)) r.toNat) := by
  rcases h1 with h | ⟨a1, a2, a3⟩
  · exact absurd h hr
  · refine fqF_at (show aI (G.2.1 (F a 5)) r ≠ 0 by rw [a3]; decide) _ r.toNat (qL_at ⟨a1, a2⟩) (fun j y hj hy => ?_)
    obtain ⟨hj1, rfl⟩ := qL_get hy
    exact h2 (j : Int) (by omega) hj1 (Or.inr (by omega))
theorem fqF_no {l : List Qt} (h : ∀ x, x ∈ l → x.2.2.2.2.2 = 0) : fqF l = none := by
  induction l with
  | nil => rfl
  | cons y l ih =>
    unfold fqF
    rw [if_neg (fun q => q (h y List.mem_cons_self))]
    exact ih (fun x hx => h x (List.mem_cons_of_mem _ hx))
theorem upF_len {sel : Qt → Bool} : ∀ l : List Qt, (upF sel l).length ≤ l.length
  | [] => Nat.le_refl _
  | x :: l => by
    have i := upF_len (sel := sel) l
    by_cases c : sel x = true
    · by_cases d : x.2.2.2.2.2 ≠ 0
      · rw [upF_f c d]
        exact Nat.succ_le_succ (Nat.zero_le _)
      · rw [upF_y c (Classical.byContradiction d)]
        exact Nat.succ_le_succ i
    · rw [upF_n c]
      exact Nat.le_succ_of_le i
theorem v_X10_askAtOnce_66_1 {K : Nat → Nat} {F : Nat → Nat → Nat} (a : Nat) (G : XG) (l1_2 : Int32) (N2 : Nat)
    (ha : K a = 12)
    (pa : ∀ j : Int, 0 ≤ j → j < l1_2.toInt → aI (G.2.1 (F (F a 9) 4)) j = 0 → aI (G.2.1 (F (F a 9) 5)) j = 0)
    (s0 : 0 ≤ ((G.1 (F a 9) 6).toInt) ∧ ((G.1 (F a 9) 6).toInt) ≤ 1080)
    (I2_0 : 0 ≤ l1_2.toInt ∧ l1_2.toInt ≤ ((G.1 (F a 9) 6).toInt))
    (I2_1 : (0 : Int) ≤ l1_2.toInt)
    (hm2 : 2147483648 - l1_2.toInt < (((N2) + 1 : Nat) : Int))
    (c10 : ((G.1 (F a 9) 6).toInt) ≤ l1_2.toInt) :
    ((1 : Int) = 1 ∧ ∀ x, x ∈ qL G F (F a 9) → x.2.2.2.2.1 = 0 → x.2.2.2.2.2 = 0) ∨ ((1 : Int) = 0 ∧ ∃ x, x ∈ qL G F (F a 9) ∧ x.2.2.2.2.1 = 0 ∧ x.2.2.2.2.2 ≠ 0) := by
  first
    | exact Or.inl ⟨rfl, ql_all (P := fun x => x.2.2.2.2.1 = 0 → x.2.2.2.2.2 = 0) (fun j h1 h2 => pa j h1 (by omega))⟩
    | exact Or.inr ⟨rfl, _, List.mem_of_getElem? (qL_at (z := l1_2.toInt) (by omega)), show aI (G.2.1 (F (F a 9) 4)) l1_2.toInt = 0 by omega, show aI (G.2.1 (F (F a 9) 5)) l1_2.toInt ≠ 0 by omega⟩
theorem v_X10_askAtOnce_62_2 {K : Nat → Nat} {F : Nat → Nat → Nat} (a : Nat) (G : XG) (l1_2 : Int32) (N2 : Nat) (x18 : Int32) (x42 : Int32)
    (ha : K a = 12)
    (pa : ∀ j : Int, 0 ≤ j → j < l1_2.toInt → aI (G.2.1 (F (F a 9) 4)) j = 0 → aI (G.2.1 (F (F a 9) 5)) j = 0)
    (s0 : 0 ≤ ((G.1 (F a 9) 6).toInt) ∧ ((G.1 (F a 9) 6).toInt) ≤ 1080)
    (I2_0 : 0 ≤ l1_2.toInt ∧ l1_2.toInt ≤ ((G.1 (F a 9) 6).toInt))
    (I2_1 : (0 : Int) ≤ l1_2.toInt)
    (hm2 : 2147483648 - l1_2.toInt < (((N2) + 1 : Nat) : Int))
    (c10 : ¬ (((G.1 (F a 9) 6).toInt) ≤ l1_2.toInt))
    (t18 : ((0 ≤ l1_2.toInt ∧ l1_2.toInt < ((G.1 (F a 9) 6).toInt) ∧ l1_2.toInt < 1080) ∧ x18.toInt = (aI (G.2.1 (F (F a 9) 4)) (l1_2.toInt))) ∨ (¬ (0 ≤ l1_2.toInt ∧ l1_2.toInt < ((G.1 (F a 9) 6).toInt) ∧ l1_2.toInt < 1080) ∧ x18.toInt = 0))
    (f23 : x18.toInt = 0 ∨ x18.toInt = 1)
    (c21 : x18.toInt = 0)
    (t42 : ((0 ≤ l1_2.toInt ∧ l1_2.toInt < ((G.1 (F a 9) 6).toInt) ∧ l1_2.toInt < 1080) ∧ x42.toInt = (aI (G.2.1 (F (F a 9) 5)) (l1_2.toInt))) ∨ (¬ (0 ≤ l1_2.toInt ∧ l1_2.toInt < ((G.1 (F a 9) 6).toInt) ∧ l1_2.toInt < 1080) ∧ x42.toInt = 0))
    (f27 : x42.toInt = 0 ∨ x42.toInt = 1)
    (c45 : x42.toInt = 0) :
    ∀ j : Int, 0 ≤ j → j < (l1_2.toInt + 1) → aI (G.2.1 (F (F a 9) 4)) j = 0 → aI (G.2.1 (F (F a 9) 5)) j = 0 := by
  intro j h1 h2 h3
  by_cases e : j = l1_2.toInt
  · subst e; omega
  · exact pa j h1 (by omega) h3
theorem v_X10_askAtOnce_58_3 {K : Nat → Nat} {F : Nat → Nat → Nat} (a : Nat) (G : XG) (l1_2 : Int32) (N2 : Nat) (x18 : Int32) (x42 : Int32)
    (ha : K a = 12)
    (pa : ∀ j : Int, 0 ≤ j → j < l1_2.toInt → aI (G.2.1 (F (F a 9) 4)) j = 0 → aI (G.2.1 (F (F a 9) 5)) j = 0)
    (s0 : 0 ≤ ((G.1 (F a 9) 6).toInt) ∧ ((G.1 (F a 9) 6).toInt) ≤ 1080)
    (I2_0 : 0 ≤ l1_2.toInt ∧ l1_2.toInt ≤ ((G.1 (F a 9) 6).toInt))
    (I2_1 : (0 : Int) ≤ l1_2.toInt)
    (hm2 : 2147483648 - l1_2.toInt < (((N2) + 1 : Nat) : Int))
    (c10 : ¬ (((G.1 (F a 9) 6).toInt) ≤ l1_2.toInt))
    (t18 : ((0 ≤ l1_2.toInt ∧ l1_2.toInt < ((G.1 (F a 9) 6).toInt) ∧ l1_2.toInt < 1080) ∧ x18.toInt = (aI (G.2.1 (F (F a 9) 4)) (l1_2.toInt))) ∨ (¬ (0 ≤ l1_2.toInt ∧ l1_2.toInt < ((G.1 (F a 9) 6).toInt) ∧ l1_2.toInt < 1080) ∧ x18.toInt = 0))
    (f23 : x18.toInt = 0 ∨ x18.toInt = 1)
    (c21 : x18.toInt = 0)
    (t42 : ((0 ≤ l1_2.toInt ∧ l1_2.toInt < ((G.1 (F a 9) 6).toInt) ∧ l1_2.toInt < 1080) ∧ x42.toInt = (aI (G.2.1 (F (F a 9) 5)) (l1_2.toInt))) ∨ (¬ (0 ≤ l1_2.toInt ∧ l1_2.toInt < ((G.1 (F a 9) 6).toInt) ∧ l1_2.toInt < 1080) ∧ x42.toInt = 0))
    (f27 : x42.toInt = 0 ∨ x42.toInt = 1)
    (c45 : ¬ (x42.toInt = 0)) :
    ((0 : Int) = 1 ∧ ∀ x, x ∈ qL G F (F a 9) → x.2.2.2.2.1 = 0 → x.2.2.2.2.2 = 0) ∨ ((0 : Int) = 0 ∧ ∃ x, x ∈ qL G F (F a 9) ∧ x.2.2.2.2.1 = 0 ∧ x.2.2.2.2.2 ≠ 0) := by
  first
    | exact Or.inl ⟨rfl, ql_all (P := fun x => x.2.2.2.2.1 = 0 → x.2.2.2.2.2 = 0) (fun j h1 h2 => pa j h1 (by omega))⟩
    | exact Or.inr ⟨rfl, _, List.mem_of_getElem? (qL_at (z := l1_2.toInt) (by omega)), show aI (G.2.1 (F (F a 9) 4)) l1_2.toInt = 0 by omega, show aI (G.2.1 (F (F a 9) 5)) l1_2.toInt ≠ 0 by omega⟩
theorem v_X10_askAtOnce_62_4 {K : Nat → Nat} {F : Nat → Nat → Nat} (a : Nat) (G : XG) (l1_2 : Int32) (N2 : Nat) (x18 : Int32)
    (ha : K a = 12)
    (pa : ∀ j : Int, 0 ≤ j → j < l1_2.toInt → aI (G.2.1 (F (F a 9) 4)) j = 0 → aI (G.2.1 (F (F a 9) 5)) j = 0)
    (s0 : 0 ≤ ((G.1 (F a 9) 6).toInt) ∧ ((G.1 (F a 9) 6).toInt) ≤ 1080)
    (I2_0 : 0 ≤ l1_2.toInt ∧ l1_2.toInt ≤ ((G.1 (F a 9) 6).toInt))
    (I2_1 : (0 : Int) ≤ l1_2.toInt)
    (hm2 : 2147483648 - l1_2.toInt < (((N2) + 1 : Nat) : Int))
    (c10 : ¬ (((G.1 (F a 9) 6).toInt) ≤ l1_2.toInt))
    (t18 : ((0 ≤ l1_2.toInt ∧ l1_2.toInt < ((G.1 (F a 9) 6).toInt) ∧ l1_2.toInt < 1080) ∧ x18.toInt = (aI (G.2.1 (F (F a 9) 4)) (l1_2.toInt))) ∨ (¬ (0 ≤ l1_2.toInt ∧ l1_2.toInt < ((G.1 (F a 9) 6).toInt) ∧ l1_2.toInt < 1080) ∧ x18.toInt = 0))
    (f21 : x18.toInt = 0 ∨ x18.toInt = 1)
    (c21 : ¬ (x18.toInt = 0)) :
    ∀ j : Int, 0 ≤ j → j < (l1_2.toInt + 1) → aI (G.2.1 (F (F a 9) 4)) j = 0 → aI (G.2.1 (F (F a 9) 5)) j = 0 := by
  intro j h1 h2 h3
  by_cases e : j = l1_2.toInt
  · subst e; omega
  · exact pa j h1 (by omega) h3
theorem v_X10_askAtOnce_1_5 {K : Nat → Nat} {F : Nat → Nat → Nat} (a : Nat) (G : XG)
    (ha : K a = 12)
    (s0 : 0 ≤ ((G.1 (F a 9) 6).toInt) ∧ ((G.1 (F a 9) 6).toInt) ≤ 1080) :
    ∀ j : Int, 0 ≤ j → j < (0 : Int) → aI (G.2.1 (F (F a 9) 4)) j = 0 → aI (G.2.1 (F (F a 9) 5)) j = 0 := by
  intro j h1 h2; exact absurd h1 (by omega)
theorem v_X10_askToCommit_90_1 {K : Nat → Nat} {F : Nat → Nat → Nat} (a : Nat) (p0 : Nat) (G : XG) (G4 : XG) (G_9 : XG) (l2_9 : Int32) (N9 : Nat)
    (ha : K a = 12)
    (hp0 : K p0 = 6)
    (hn : F p0 99 ≠ 2)
    (pa : ∀ j : Int, 0 ≤ j → j < l2_9.toInt → aI (G.2.1 (F p0 4)) j ≠ 0 → aI (G.2.1 (F p0 5)) j = 0)
    (s0 : 0 ≤ ((G.1 p0 6).toInt) ∧ ((G.1 p0 6).toInt) ≤ 1080)
    (t4 : ((G4.1 (F a 10) 6).toInt) = 0)
    (I9_0 : 0 ≤ l2_9.toInt ∧ l2_9.toInt ≤ ((G.1 p0 6).toInt))
    (I9_1 : 0 ≤ ((G_9.1 (F a 10) 6).toInt) ∧ ((G_9.1 (F a 10) 6).toInt) ≤ l2_9.toInt)
    (I9_2 : (0 : Int) ≤ l2_9.toInt)
    (hm9 : 2147483648 - l2_9.toInt < (((N9) + 1 : Nat) : Int))
    (c14 : ((G.1 p0 6).toInt) ≤ l2_9.toInt) :
    ((1 : Int) = 1 ∧ ∀ x, x ∈ qL G F p0 → x.2.2.2.2.1 ≠ 0 → x.2.2.2.2.2 = 0) ∨ ((1 : Int) = 0 ∧ ∃ x, x ∈ qL G F p0 ∧ x.2.2.2.2.1 ≠ 0 ∧ x.2.2.2.2.2 ≠ 0) := by
  first
    | exact Or.inl ⟨rfl, ql_all (P := fun x => x.2.2.2.2.1 ≠ 0 → x.2.2.2.2.2 = 0) (fun j h1 h2 => pa j h1 (by omega))⟩
    | exact Or.inr ⟨rfl, _, List.mem_of_getElem? (qL_at (z := l2_9.toInt) (by omega)), show aI (G.2.1 (F p0 4)) l2_9.toInt ≠ 0 by omega, show aI (G.2.1 (F p0 5)) l2_9.toInt ≠ 0 by omega⟩
theorem v_X10_askToCommit_90_2 {K : Nat → Nat} {F : Nat → Nat → Nat} (a : Nat) (p0 : Nat) (G : XG) (G4 : XG) (G_9 : XG) (G88 : XG) (l2_9 : Int32) (N9 : Nat)
    (ha : K a = 12)
    (hp0 : K p0 = 6)
    (hn : F p0 99 ≠ 2)
    (pl : qL G_9 F (F a 10) = ltF (qP G F p0 (l2_9.toInt).toNat))
    (s0 : 0 ≤ ((G.1 p0 6).toInt) ∧ ((G.1 p0 6).toInt) ≤ 1080)
    (t4 : ((G4.1 (F a 10) 6).toInt) = 0)
    (I9_0 : 0 ≤ l2_9.toInt ∧ l2_9.toInt ≤ ((G.1 p0 6).toInt))
    (I9_1 : 0 ≤ ((G_9.1 (F a 10) 6).toInt) ∧ ((G_9.1 (F a 10) 6).toInt) ≤ l2_9.toInt)
    (I9_2 : (0 : Int) ≤ l2_9.toInt)
    (hm9 : 2147483648 - l2_9.toInt < (((N9) + 1 : Nat) : Int))
    (c14 : ((G.1 p0 6).toInt) ≤ l2_9.toInt)
    (c_G88_F_F_a_10_0 : G88.2.1 (F (F a 10) 0) = G_9.2.1 (F (F a 10) 0))
    (c_G88_F_F_a_10_1 : G88.2.1 (F (F a 10) 1) = G_9.2.1 (F (F a 10) 1))
    (c_G88_F_F_a_10_2 : G88.2.1 (F (F a 10) 2) = G_9.2.1 (F (F a 10) 2))
    (c_G88_F_F_a_10_3 : G88.2.1 (F (F a 10) 3) = G_9.2.1 (F (F a 10) 3))
    (c_G88_F_F_a_10_4 : G88.2.1 (F (F a 10) 4) = G_9.2.1 (F (F a 10) 4))
    (c_G88_F_F_a_10_5 : G88.2.1 (F (F a 10) 5) = G_9.2.1 (F (F a 10) 5))
    (d_G88_F_a_10_6 : G88.1 (F a 10) 6 = G_9.1 (F a 10) 6) :
    AskR (qL G F p0) (qL G88 F (F a 10)) (1 : Int) := by
  unfold AskR
  refine Or.inl ⟨rfl, ?_⟩
  have e8 : qL G88 F (F a 10) = qL G_9 F (F a 10) := qL_cg d_G88_F_a_10_6 c_G88_F_F_a_10_0 c_G88_F_F_a_10_1 c_G88_F_F_a_10_2 c_G88_F_F_a_10_3 c_G88_F_F_a_10_4 c_G88_F_F_a_10_5
  rw [e8, pl, show (l2_9.toInt).toNat = (G.1 p0 6).toInt.toNat by omega]
  exact congrArg ltF (qP_L G F p0)
theorem v_X10_askToCommit_44_3 {K : Nat → Nat} {F : Nat → Nat → Nat} (a : Nat) (p0 : Nat) (G : XG) (G4 : XG) (G_9 : XG) (l2_9 : Int32) (N9 : Nat) (x19 : Int32)
    (ha : K a = 12)
    (hp0 : K p0 = 6)
    (hk9999 : K (F a 14) = 11)
    (hj9999 : F (F a 14) 99 = 0)
    (hk9999a : K (F a 10) = 6)
    (hj9999a : F (F a 10) 99 = 2)
    (hk9999b : K (F a 16) = 27)
    (hj9999b : F (F a 16) 99 = 0)
    (hk9999c : K (F (F a 10) 0) = 22)
    (hj9999d : F (F (F a 10) 0) 99 = 10 * 2 + 0)
    (hk9999d : K (F (F a 10) 1) = 22)
    (hj9999f : F (F (F a 10) 1) 99 = 10 * 2 + 1)
    (hk9999e : K (F (F a 10) 2) = 22)
    (hj9999h : F (F (F a 10) 2) 99 = 10 * 2 + 2)
    (hk9999f : K (F (F a 10) 3) = 22)
    (hj9999j : F (F (F a 10) 3) 99 = 10 * 2 + 3)
    (hk9999g : K (F (F a 10) 4) = 23)
    (hj9999l : F (F (F a 10) 4) 99 = 10 * 2 + 4)
    (hk9999h : K (F (F a 10) 5) = 23)
    (hj9999n : F (F (F a 10) 5) 99 = 10 * 2 + 5)
    (hk9999i : K (F p0 0) = 22)
    (hj9999o : F (F p0 0) 99 = 10 * F p0 99 + 0)
    (hk9999j : K (F p0 1) = 22)
    (hj9999p : F (F p0 1) 99 = 10 * F p0 99 + 1)
    (hk9999k : K (F p0 2) = 22)
    (hj9999q : F (F p0 2) 99 = 10 * F p0 99 + 2)
    (hk9999l : K (F p0 3) = 22)
    (hj9999r : F (F p0 3) 99 = 10 * F p0 99 + 3)
    (hk9999m : K (F p0 4) = 23)
    (hj9999s : F (F p0 4) 99 = 10 * F p0 99 + 4)
    (hk9999n : K (F p0 5) = 23)
    (hj9999t : F (F p0 5) 99 = 10 * F p0 99 + 5)
    (hn : F p0 99 ≠ 2)
    (s0 : 0 ≤ ((G.1 p0 6).toInt) ∧ ((G.1 p0 6).toInt) ≤ 1080)
    (t4 : ((G4.1 (F a 10) 6).toInt) = 0)
    (I9_0 : 0 ≤ l2_9.toInt ∧ l2_9.toInt ≤ ((G.1 p0 6).toInt))
    (I9_1 : 0 ≤ ((G_9.1 (F a 10) 6).toInt) ∧ ((G_9.1 (F a 10) 6).toInt) ≤ l2_9.toInt)
    (I9_2 : (0 : Int) ≤ l2_9.toInt)
    (hm9 : 2147483648 - l2_9.toInt < (((N9) + 1 : Nat) : Int))
    (c14 : ¬ (((G.1 p0 6).toInt) ≤ l2_9.toInt))
    (t19 : ((0 ≤ l2_9.toInt ∧ l2_9.toInt < ((G.1 p0 6).toInt) ∧ l2_9.toInt < 1080) ∧ x19.toInt = (aI (G.2.1 (F p0 4)) (l2_9.toInt))) ∨ (¬ (0 ≤ l2_9.toInt ∧ l2_9.toInt < ((G.1 p0 6).toInt) ∧ l2_9.toInt < 1080) ∧ x19.toInt = 0))
    (f48 : x19.toInt = 0 ∨ x19.toInt = 1)
    (c22 : x19.toInt ≠ 0) :
    F (F a 10) 99 ≠ F p0 99 := by
  omega
theorem v_X10_askToCommit_76_4 {K : Nat → Nat} {F : Nat → Nat → Nat} (a : Nat) (p0 : Nat) (G : XG) (G4 : XG) (G_9 : XG) (G44 : XG) (l2_9 : Int32) (N9 : Nat) (x19 : Int32) (x49 : Int32)
    (ha : K a = 12)
    (hp0 : K p0 = 6)
    (hn : F p0 99 ≠ 2)
    (pa : ∀ j : Int, 0 ≤ j → j < l2_9.toInt → aI (G.2.1 (F p0 4)) j ≠ 0 → aI (G.2.1 (F p0 5)) j = 0)
    (s0 : 0 ≤ ((G.1 p0 6).toInt) ∧ ((G.1 p0 6).toInt) ≤ 1080)
    (t4 : ((G4.1 (F a 10) 6).toInt) = 0)
    (I9_0 : 0 ≤ l2_9.toInt ∧ l2_9.toInt ≤ ((G.1 p0 6).toInt))
    (I9_1 : 0 ≤ ((G_9.1 (F a 10) 6).toInt) ∧ ((G_9.1 (F a 10) 6).toInt) ≤ l2_9.toInt)
    (I9_2 : (0 : Int) ≤ l2_9.toInt)
    (hm9 : 2147483648 - l2_9.toInt < (((N9) + 1 : Nat) : Int))
    (c14 : ¬ (((G.1 p0 6).toInt) ≤ l2_9.toInt))
    (t19 : ((0 ≤ l2_9.toInt ∧ l2_9.toInt < ((G.1 p0 6).toInt) ∧ l2_9.toInt < 1080) ∧ x19.toInt = (aI (G.2.1 (F p0 4)) (l2_9.toInt))) ∨ (¬ (0 ≤ l2_9.toInt ∧ l2_9.toInt < ((G.1 p0 6).toInt) ∧ l2_9.toInt < 1080) ∧ x19.toInt = 0))
    (f51 : x19.toInt = 0 ∨ x19.toInt = 1)
    (c22 : x19.toInt ≠ 0)
    (t44 : ((G44.1 (F a 10) 6).toInt) = ((G_9.1 (F a 10) 6).toInt) + 1)
    (t49 : ((0 ≤ l2_9.toInt ∧ l2_9.toInt < ((G.1 p0 6).toInt) ∧ l2_9.toInt < 1080) ∧ x49.toInt = (aI (G.2.1 (F p0 5)) (l2_9.toInt))) ∨ (¬ (0 ≤ l2_9.toInt ∧ l2_9.toInt < ((G.1 p0 6).toInt) ∧ l2_9.toInt < 1080) ∧ x49.toInt = 0))
    (f56 : x49.toInt = 0 ∨ x49.toInt = 1)
    (c52 : x49.toInt = 0) :
    ∀ j : Int, 0 ≤ j → j < (l2_9.toInt + 1) → aI (G.2.1 (F p0 4)) j ≠ 0 → aI (G.2.1 (F p0 5)) j = 0 := by
  intro j h1 h2 h3
  by_cases e : j = l2_9.toInt
  · subst e; omega
  · exact pa j h1 (by omega) h3
theorem v_X10_askToCommit_76_5 {K : Nat → Nat} {F : Nat → Nat → Nat} (a : Nat) (p0 : Nat) (G : XG) (G4 : XG) (G_9 : XG) (G37 : XG) (G44 : XG) (l2_9 : Int32) (N9 : Nat) (x19 : Int32) (x49 : Int32)
    (ha : K a = 12)
    (hp0 : K p0 = 6)
    (hn : F p0 99 ≠ 2)
    (pl : qL G_9 F (F a 10) = ltF (qP G F p0 (l2_9.toInt).toNat))
    (oq44 : qL G44 F (F a 10) = qL G37 F (F a 10) ++ [((aI (G37.2.1 (F p0 0)) (l2_9.toInt)), (aI (G37.2.1 (F p0 1)) (l2_9.toInt)), (aI (G37.2.1 (F p0 2)) (l2_9.toInt)), (aI (G37.2.1 (F p0 3)) (l2_9.toInt)), (aI (G37.2.1 (F p0 4)) (l2_9.toInt)), (aI (G37.2.1 (F p0 5)) (l2_9.toInt)))])
    (s0 : 0 ≤ ((G.1 p0 6).toInt) ∧ ((G.1 p0 6).toInt) ≤ 1080)
    (t4 : ((G4.1 (F a 10) 6).toInt) = 0)
    (I9_0 : 0 ≤ l2_9.toInt ∧ l2_9.toInt ≤ ((G.1 p0 6).toInt))
    (I9_1 : 0 ≤ ((G_9.1 (F a 10) 6).toInt) ∧ ((G_9.1 (F a 10) 6).toInt) ≤ l2_9.toInt)
    (I9_2 : (0 : Int) ≤ l2_9.toInt)
    (hm9 : 2147483648 - l2_9.toInt < (((N9) + 1 : Nat) : Int))
    (c14 : ¬ (((G.1 p0 6).toInt) ≤ l2_9.toInt))
    (t19 : ((0 ≤ l2_9.toInt ∧ l2_9.toInt < ((G.1 p0 6).toInt) ∧ l2_9.toInt < 1080) ∧ x19.toInt = (aI (G.2.1 (F p0 4)) (l2_9.toInt))) ∨ (¬ (0 ≤ l2_9.toInt ∧ l2_9.toInt < ((G.1 p0 6).toInt) ∧ l2_9.toInt < 1080) ∧ x19.toInt = 0))
    (f51 : x19.toInt = 0 ∨ x19.toInt = 1)
    (c22 : x19.toInt ≠ 0)
    (t44 : ((G44.1 (F a 10) 6).toInt) = ((G_9.1 (F a 10) 6).toInt) + 1)
    (t49 : ((0 ≤ l2_9.toInt ∧ l2_9.toInt < ((G.1 p0 6).toInt) ∧ l2_9.toInt < 1080) ∧ x49.toInt = (aI (G.2.1 (F p0 5)) (l2_9.toInt))) ∨ (¬ (0 ≤ l2_9.toInt ∧ l2_9.toInt < ((G.1 p0 6).toInt) ∧ l2_9.toInt < 1080) ∧ x49.toInt = 0))
    (f56 : x49.toInt = 0 ∨ x49.toInt = 1)
    (c52 : x49.toInt = 0)
    (c_G37_F_F_a_10_0 : G37.2.1 (F (F a 10) 0) = G_9.2.1 (F (F a 10) 0))
    (c_G37_F_F_a_10_1 : G37.2.1 (F (F a 10) 1) = G_9.2.1 (F (F a 10) 1))
    (c_G37_F_F_a_10_2 : G37.2.1 (F (F a 10) 2) = G_9.2.1 (F (F a 10) 2))
    (c_G37_F_F_a_10_3 : G37.2.1 (F (F a 10) 3) = G_9.2.1 (F (F a 10) 3))
    (c_G37_F_F_a_10_4 : G37.2.1 (F (F a 10) 4) = G_9.2.1 (F (F a 10) 4))
    (c_G37_F_F_a_10_5 : G37.2.1 (F (F a 10) 5) = G_9.2.1 (F (F a 10) 5))
    (c_G37_F_p0_0 : G37.2.1 (F p0 0) = G.2.1 (F p0 0))
    (c_G37_F_p0_1 : G37.2.1 (F p0 1) = G.2.1 (F p0 1))
    (c_G37_F_p0_2 : G37.2.1 (F p0 2) = G.2.1 (F p0 2))
    (c_G37_F_p0_3 : G37.2.1 (F p0 3) = G.2.1 (F p0 3))
    (c_G37_F_p0_4 : G37.2.1 (F p0 4) = G.2.1 (F p0 4))
    (c_G37_F_p0_5 : G37.2.1 (F p0 5) = G.2.1 (F p0 5))
    (d_G37_F_a_10_6 : G37.1 (F a 10) 6 = G_9.1 (F a 10) 6) :
    qL G44 F (F a 10) = ltF (qP G F p0 (l2_9.toInt + 1).toNat) := by
  have e1 : (l2_9.toInt + 1).toNat = (l2_9.toInt).toNat + 1 := by omega
  first
    | (have e3 : qL G37 F (F a 10) = qL G_9 F (F a 10) := qL_cg d_G37_F_a_10_6 c_G37_F_F_a_10_0 c_G37_F_F_a_10_1 c_G37_F_F_a_10_2 c_G37_F_F_a_10_3 c_G37_F_F_a_10_4 c_G37_F_F_a_10_5
       rw [oq44, e3, pl, e1, qP_s, ltF_y (x := qt (G.2.1 (F p0 0)) (G.2.1 (F p0 1)) (G.2.1 (F p0 2)) (G.2.1 (F p0 3)) (G.2.1 (F p0 4)) (G.2.1 (F p0 5)) (l2_9.toInt).toNat) (show aI (G.2.1 (F p0 4)) l2_9.toInt ≠ 0 by omega)]
       rw [c_G37_F_p0_0, c_G37_F_p0_1, c_G37_F_p0_2, c_G37_F_p0_3, c_G37_F_p0_4, c_G37_F_p0_5]
       try rfl)
    | (rw [pl, e1, qP_s, ltF_n (x := qt (G.2.1 (F p0 0)) (G.2.1 (F p0 1)) (G.2.1 (F p0 2)) (G.2.1 (F p0 3)) (G.2.1 (F p0 4)) (G.2.1 (F p0 5)) (l2_9.toInt).toNat) (show aI (G.2.1 (F p0 4)) l2_9.toInt = 0 by omega)])
theorem v_X10_askToCommit_72_6 {K : Nat → Nat} {F : Nat → Nat → Nat} (a : Nat) (p0 : Nat) (G : XG) (G4 : XG) (G_9 : XG) (G37 : XG) (x36 : Int32) (G44 : XG) (l2_9 : Int32) (N9 : Nat) (x19 : Int32) (x49 : Int32)
    (ha : K a = 12)
    (hp0 : K p0 = 6)
    (hn : F p0 99 ≠ 2)
    (pa : ∀ j : Int, 0 ≤ j → j < l2_9.toInt → aI (G.2.1 (F p0 4)) j ≠ 0 → aI (G.2.1 (F p0 5)) j = 0)
    (s0 : 0 ≤ ((G.1 p0 6).toInt) ∧ ((G.1 p0 6).toInt) ≤ 1080)
    (t4 : ((G4.1 (F a 10) 6).toInt) = 0)
    (I9_0 : 0 ≤ l2_9.toInt ∧ l2_9.toInt ≤ ((G.1 p0 6).toInt))
    (I9_1 : 0 ≤ ((G_9.1 (F a 10) 6).toInt) ∧ ((G_9.1 (F a 10) 6).toInt) ≤ l2_9.toInt)
    (I9_2 : (0 : Int) ≤ l2_9.toInt)
    (hm9 : 2147483648 - l2_9.toInt < (((N9) + 1 : Nat) : Int))
    (c14 : ¬ (((G.1 p0 6).toInt) ≤ l2_9.toInt))
    (t19 : ((0 ≤ l2_9.toInt ∧ l2_9.toInt < ((G.1 p0 6).toInt) ∧ l2_9.toInt < 1080) ∧ x19.toInt = (aI (G.2.1 (F p0 4)) (l2_9.toInt))) ∨ (¬ (0 ≤ l2_9.toInt ∧ l2_9.toInt < ((G.1 p0 6).toInt) ∧ l2_9.toInt < 1080) ∧ x19.toInt = 0))
    (f53 : x19.toInt = 0 ∨ x19.toInt = 1)
    (c22 : x19.toInt ≠ 0)
    (t36 : x36.toInt = (aI (G_9.2.1 (F a 16)) 0) + (1 : Int) ∨ (aI (G_9.2.1 (F a 16)) 0) + (1 : Int) < -2147483648 ∨ 2147483648 ≤ (aI (G_9.2.1 (F a 16)) 0) + (1 : Int))
    (t44 : ((G44.1 (F a 10) 6).toInt) = ((G_9.1 (F a 10) 6).toInt) + 1)
    (t49 : ((0 ≤ l2_9.toInt ∧ l2_9.toInt < ((G.1 p0 6).toInt) ∧ l2_9.toInt < 1080) ∧ x49.toInt = (aI (G.2.1 (F p0 5)) (l2_9.toInt))) ∨ (¬ (0 ≤ l2_9.toInt ∧ l2_9.toInt < ((G.1 p0 6).toInt) ∧ l2_9.toInt < 1080) ∧ x49.toInt = 0))
    (f58 : x49.toInt = 0 ∨ x49.toInt = 1)
    (c52 : ¬ (x49.toInt = 0))
    (hc67 : ((2 : Int) = (0 : Int) → (aI (G37.2.1 (F a 16)) ((2 : Int))) = x36.toInt) ∧ ((2 : Int) ≠ (0 : Int) → (aI (G37.2.1 (F a 16)) ((2 : Int))) = (aI (G_9.2.1 (F a 16)) ((2 : Int))))) :
    ((0 : Int) = 1 ∧ ∀ x, x ∈ qL G F p0 → x.2.2.2.2.1 ≠ 0 → x.2.2.2.2.2 = 0) ∨ ((0 : Int) = 0 ∧ ∃ x, x ∈ qL G F p0 ∧ x.2.2.2.2.1 ≠ 0 ∧ x.2.2.2.2.2 ≠ 0) := by
  first
    | exact Or.inl ⟨rfl, ql_all (P := fun x => x.2.2.2.2.1 ≠ 0 → x.2.2.2.2.2 = 0) (fun j h1 h2 => pa j h1 (by omega))⟩
    | exact Or.inr ⟨rfl, _, List.mem_of_getElem? (qL_at (z := l2_9.toInt) (by omega)), show aI (G.2.1 (F p0 4)) l2_9.toInt ≠ 0 by omega, show aI (G.2.1 (F p0 5)) l2_9.toInt ≠ 0 by omega⟩
theorem v_X10_askToCommit_72_7 {K : Nat → Nat} {F : Nat → Nat → Nat} (a : Nat) (p0 : Nat) (G : XG) (G4 : XG) (G_9 : XG) (G37 : XG) (x36 : Int32) (G44 : XG) (G70 : XG) (l2_9 : Int32) (N9 : Nat) (x19 : Int32) (x49 : Int32)
    (ha : K a = 12)
    (hp0 : K p0 = 6)
    (hn : F p0 99 ≠ 2)
    (pa : ∀ j : Int, 0 ≤ j → j < l2_9.toInt → aI (G.2.1 (F p0 4)) j ≠ 0 → aI (G.2.1 (F p0 5)) j = 0)
    (pl : qL G_9 F (F a 10) = ltF (qP G F p0 (l2_9.toInt).toNat))
    (oq44 : qL G44 F (F a 10) = qL G37 F (F a 10) ++ [((aI (G37.2.1 (F p0 0)) (l2_9.toInt)), (aI (G37.2.1 (F p0 1)) (l2_9.toInt)), (aI (G37.2.1 (F p0 2)) (l2_9.toInt)), (aI (G37.2.1 (F p0 3)) (l2_9.toInt)), (aI (G37.2.1 (F p0 4)) (l2_9.toInt)), (aI (G37.2.1 (F p0 5)) (l2_9.toInt)))])
    (s0 : 0 ≤ ((G.1 p0 6).toInt) ∧ ((G.1 p0 6).toInt) ≤ 1080)
    (t4 : ((G4.1 (F a 10) 6).toInt) = 0)
    (I9_0 : 0 ≤ l2_9.toInt ∧ l2_9.toInt ≤ ((G.1 p0 6).toInt))
    (I9_1 : 0 ≤ ((G_9.1 (F a 10) 6).toInt) ∧ ((G_9.1 (F a 10) 6).toInt) ≤ l2_9.toInt)
    (I9_2 : (0 : Int) ≤ l2_9.toInt)
    (hm9 : 2147483648 - l2_9.toInt < (((N9) + 1 : Nat) : Int))
    (c14 : ¬ (((G.1 p0 6).toInt) ≤ l2_9.toInt))
    (t19 : ((0 ≤ l2_9.toInt ∧ l2_9.toInt < ((G.1 p0 6).toInt) ∧ l2_9.toInt < 1080) ∧ x19.toInt = (aI (G.2.1 (F p0 4)) (l2_9.toInt))) ∨ (¬ (0 ≤ l2_9.toInt ∧ l2_9.toInt < ((G.1 p0 6).toInt) ∧ l2_9.toInt < 1080) ∧ x19.toInt = 0))
    (f53 : x19.toInt = 0 ∨ x19.toInt = 1)
    (c22 : x19.toInt ≠ 0)
    (t36 : x36.toInt = (aI (G_9.2.1 (F a 16)) 0) + (1 : Int) ∨ (aI (G_9.2.1 (F a 16)) 0) + (1 : Int) < -2147483648 ∨ 2147483648 ≤ (aI (G_9.2.1 (F a 16)) 0) + (1 : Int))
    (t44 : ((G44.1 (F a 10) 6).toInt) = ((G_9.1 (F a 10) 6).toInt) + 1)
    (t49 : ((0 ≤ l2_9.toInt ∧ l2_9.toInt < ((G.1 p0 6).toInt) ∧ l2_9.toInt < 1080) ∧ x49.toInt = (aI (G.2.1 (F p0 5)) (l2_9.toInt))) ∨ (¬ (0 ≤ l2_9.toInt ∧ l2_9.toInt < ((G.1 p0 6).toInt) ∧ l2_9.toInt < 1080) ∧ x49.toInt = 0))
    (f58 : x49.toInt = 0 ∨ x49.toInt = 1)
    (c52 : ¬ (x49.toInt = 0))
    (hc67 : ((2 : Int) = (0 : Int) → (aI (G37.2.1 (F a 16)) ((2 : Int))) = x36.toInt) ∧ ((2 : Int) ≠ (0 : Int) → (aI (G37.2.1 (F a 16)) ((2 : Int))) = (aI (G_9.2.1 (F a 16)) ((2 : Int)))))
    (c_G37_F_F_a_10_0 : G37.2.1 (F (F a 10) 0) = G_9.2.1 (F (F a 10) 0))
    (c_G37_F_F_a_10_1 : G37.2.1 (F (F a 10) 1) = G_9.2.1 (F (F a 10) 1))
    (c_G37_F_F_a_10_2 : G37.2.1 (F (F a 10) 2) = G_9.2.1 (F (F a 10) 2))
    (c_G37_F_F_a_10_3 : G37.2.1 (F (F a 10) 3) = G_9.2.1 (F (F a 10) 3))
    (c_G37_F_F_a_10_4 : G37.2.1 (F (F a 10) 4) = G_9.2.1 (F (F a 10) 4))
    (c_G37_F_F_a_10_5 : G37.2.1 (F (F a 10) 5) = G_9.2.1 (F (F a 10) 5))
    (c_G37_F_p0_0 : G37.2.1 (F p0 0) = G.2.1 (F p0 0))
    (c_G37_F_p0_1 : G37.2.1 (F p0 1) = G.2.1 (F p0 1))
    (c_G37_F_p0_2 : G37.2.1 (F p0 2) = G.2.1 (F p0 2))
    (c_G37_F_p0_3 : G37.2.1 (F p0 3) = G.2.1 (F p0 3))
    (c_G37_F_p0_4 : G37.2.1 (F p0 4) = G.2.1 (F p0 4))
    (c_G37_F_p0_5 : G37.2.1 (F p0 5) = G.2.1 (F p0 5))
    (c_G70_F_F_a_10_0 : G70.2.1 (F (F a 10) 0) = G44.2.1 (F (F a 10) 0))
    (c_G70_F_F_a_10_1 : G70.2.1 (F (F a 10) 1) = G44.2.1 (F (F a 10) 1))
    (c_G70_F_F_a_10_2 : G70.2.1 (F (F a 10) 2) = G44.2.1 (F (F a 10) 2))
    (c_G70_F_F_a_10_3 : G70.2.1 (F (F a 10) 3) = G44.2.1 (F (F a 10) 3))
    (c_G70_F_F_a_10_4 : G70.2.1 (F (F a 10) 4) = G44.2.1 (F (F a 10) 4))
    (c_G70_F_F_a_10_5 : G70.2.1 (F (F a 10) 5) = G44.2.1 (F (F a 10) 5))
    (d_G37_F_a_10_6 : G37.1 (F a 10) 6 = G_9.1 (F a 10) 6)
    (d_G70_F_a_10_6 : G70.1 (F a 10) 6 = G44.1 (F a 10) 6) :
    AskR (qL G F p0) (qL G70 F (F a 10)) (0 : Int) := by
  have e : (((l2_9.toInt).toNat : Nat) : Int) = l2_9.toInt := by omega
  have e7 : qL G70 F (F a 10) = qL G44 F (F a 10) := qL_cg d_G70_F_a_10_6 c_G70_F_F_a_10_0 c_G70_F_F_a_10_1 c_G70_F_F_a_10_2 c_G70_F_F_a_10_3 c_G70_F_F_a_10_4 c_G70_F_F_a_10_5
  refine AskR_n (n := (l2_9.toInt).toNat) (by rw [e]; omega) (by rw [e]; omega) (by rw [e]; omega) (fun j h1 h2 h3 => pa j h1 (by omega) h3) ?_
  have e3 : qL G37 F (F a 10) = qL G_9 F (F a 10) := qL_cg d_G37_F_a_10_6 c_G37_F_F_a_10_0 c_G37_F_F_a_10_1 c_G37_F_F_a_10_2 c_G37_F_F_a_10_3 c_G37_F_F_a_10_4 c_G37_F_F_a_10_5
  rw [e7, oq44, e3, pl, qP_s, ltF_y (x := qt (G.2.1 (F p0 0)) (G.2.1 (F p0 1)) (G.2.1 (F p0 2)) (G.2.1 (F p0 3)) (G.2.1 (F p0 4)) (G.2.1 (F p0 5)) (l2_9.toInt).toNat) (show aI (G.2.1 (F p0 4)) l2_9.toInt ≠ 0 by omega)]
  rw [c_G37_F_p0_0, c_G37_F_p0_1, c_G37_F_p0_2, c_G37_F_p0_3, c_G37_F_p0_4, c_G37_F_p0_5]
  try rfl
theorem v_X10_askToCommit_76_8 {K : Nat → Nat} {F : Nat → Nat → Nat} (a : Nat) (p0 : Nat) (G : XG) (G4 : XG) (G_9 : XG) (l2_9 : Int32) (N9 : Nat) (x19 : Int32)
    (ha : K a = 12)
    (hp0 : K p0 = 6)
    (hn : F p0 99 ≠ 2)
    (pa : ∀ j : Int, 0 ≤ j → j < l2_9.toInt → aI (G.2.1 (F p0 4)) j ≠ 0 → aI (G.2.1 (F p0 5)) j = 0)
    (s0 : 0 ≤ ((G.1 p0 6).toInt) ∧ ((G.1 p0 6).toInt) ≤ 1080)
    (t4 : ((G4.1 (F a 10) 6).toInt) = 0)
    (I9_0 : 0 ≤ l2_9.toInt ∧ l2_9.toInt ≤ ((G.1 p0 6).toInt))
    (I9_1 : 0 ≤ ((G_9.1 (F a 10) 6).toInt) ∧ ((G_9.1 (F a 10) 6).toInt) ≤ l2_9.toInt)
    (I9_2 : (0 : Int) ≤ l2_9.toInt)
    (hm9 : 2147483648 - l2_9.toInt < (((N9) + 1 : Nat) : Int))
    (c14 : ¬ (((G.1 p0 6).toInt) ≤ l2_9.toInt))
    (t19 : ((0 ≤ l2_9.toInt ∧ l2_9.toInt < ((G.1 p0 6).toInt) ∧ l2_9.toInt < 1080) ∧ x19.toInt = (aI (G.2.1 (F p0 4)) (l2_9.toInt))) ∨ (¬ (0 ≤ l2_9.toInt ∧ l2_9.toInt < ((G.1 p0 6).toInt) ∧ l2_9.toInt < 1080) ∧ x19.toInt = 0))
    (f47 : x19.toInt = 0 ∨ x19.toInt = 1)
    (c22 : ¬ (x19.toInt ≠ 0)) :
    ∀ j : Int, 0 ≤ j → j < (l2_9.toInt + 1) → aI (G.2.1 (F p0 4)) j ≠ 0 → aI (G.2.1 (F p0 5)) j = 0 := by
  intro j h1 h2 h3
  by_cases e : j = l2_9.toInt
  · subst e; omega
  · exact pa j h1 (by omega) h3
theorem v_X10_askToCommit_76_9 {K : Nat → Nat} {F : Nat → Nat → Nat} (a : Nat) (p0 : Nat) (G : XG) (G4 : XG) (G_9 : XG) (l2_9 : Int32) (N9 : Nat) (x19 : Int32)
    (ha : K a = 12)
    (hp0 : K p0 = 6)
    (hn : F p0 99 ≠ 2)
    (pl : qL G_9 F (F a 10) = ltF (qP G F p0 (l2_9.toInt).toNat))
    (s0 : 0 ≤ ((G.1 p0 6).toInt) ∧ ((G.1 p0 6).toInt) ≤ 1080)
    (t4 : ((G4.1 (F a 10) 6).toInt) = 0)
    (I9_0 : 0 ≤ l2_9.toInt ∧ l2_9.toInt ≤ ((G.1 p0 6).toInt))
    (I9_1 : 0 ≤ ((G_9.1 (F a 10) 6).toInt) ∧ ((G_9.1 (F a 10) 6).toInt) ≤ l2_9.toInt)
    (I9_2 : (0 : Int) ≤ l2_9.toInt)
    (hm9 : 2147483648 - l2_9.toInt < (((N9) + 1 : Nat) : Int))
    (c14 : ¬ (((G.1 p0 6).toInt) ≤ l2_9.toInt))
    (t19 : ((0 ≤ l2_9.toInt ∧ l2_9.toInt < ((G.1 p0 6).toInt) ∧ l2_9.toInt < 1080) ∧ x19.toInt = (aI (G.2.1 (F p0 4)) (l2_9.toInt))) ∨ (¬ (0 ≤ l2_9.toInt ∧ l2_9.toInt < ((G.1 p0 6).toInt) ∧ l2_9.toInt < 1080) ∧ x19.toInt = 0))
    (f47 : x19.toInt = 0 ∨ x19.toInt = 1)
    (c22 : ¬ (x19.toInt ≠ 0)) :
    qL G_9 F (F a 10) = ltF (qP G F p0 (l2_9.toInt + 1).toNat) := by
  have e1 : (l2_9.toInt + 1).toNat = (l2_9.toInt).toNat + 1 := by omega
  first
    | (have e3 : qL G37 F (F a 10) = qL G_9 F (F a 10) := qL_cg d_G37_F_a_10_6 c_G37_F_F_a_10_0 c_G37_F_F_a_10_1 c_G37_F_F_a_10_2 c_G37_F_F_a_10_3 c_G37_F_F_a_10_4 c_G37_F_F_a_10_5
       rw [oq44, e3, pl, e1, qP_s, ltF_y (x := qt (G.2.1 (F p0 0)) (G.2.1 (F p0 1)) (G.2.1 (F p0 2)) (G.2.1 (F p0 3)) (G.2.1 (F p0 4)) (G.2.1 (F p0 5)) (l2_9.toInt).toNat) (show aI (G.2.1 (F p0 4)) l2_9.toInt ≠ 0 by omega)]
       rw [c_G37_F_p0_0, c_G37_F_p0_1, c_G37_F_p0_2, c_G37_F_p0_3, c_G37_F_p0_4, c_G37_F_p0_5]
       try rfl)
    | (rw [pl, e1, qP_s, ltF_n (x := qt (G.2.1 (F p0 0)) (G.2.1 (F p0 1)) (G.2.1 (F p0 2)) (G.2.1 (F p0 3)) (G.2.1 (F p0 4)) (G.2.1 (F p0 5)) (l2_9.toInt).toNat) (show aI (G.2.1 (F p0 4)) l2_9.toInt = 0 by omega)])
theorem v_X10_askToCommit_8_10 {K : Nat → Nat} {F : Nat → Nat → Nat} (a : Nat) (p0 : Nat) (G : XG) (G4 : XG)
    (ha : K a = 12)
    (hp0 : K p0 = 6)
    (hn : F p0 99 ≠ 2)
    (s0 : 0 ≤ ((G.1 p0 6).toInt) ∧ ((G.1 p0 6).toInt) ≤ 1080)
    (t4 : ((G4.1 (F a 10) 6).toInt) = 0) :
    ∀ j : Int, 0 ≤ j → j < (0 : Int) → aI (G.2.1 (F p0 4)) j ≠ 0 → aI (G.2.1 (F p0 5)) j = 0 := by
  intro j h1 h2; exact absurd h1 (by omega)
theorem v_X10_askToCommit_8_11 {F : Nat → Nat → Nat} (a : Nat) (p0 : Nat) (G : XG) (G4 : XG)
    (t4 : ((G4.1 (F a 10) 6).toInt) = 0) :
    qL G4 F (F a 10) = ltF (qP G F p0 (0 : Int).toNat) := by
  show lst _ (G4.1 (F a 10) 6).toInt.toNat = _
  rw [t4]
  rfl
