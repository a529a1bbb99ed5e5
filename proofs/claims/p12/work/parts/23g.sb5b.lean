
theorem z_J0_getBytes_840e7_1 (a0 : Int) (a1 : Nat) (a2 : Nat) (h0 : 0 ≤ a0 ∧ a0 + ((a2 : Nat) : Int) ≤ ((a1 : Nat) : Int)) : 0 ≤ a0 := by omega
theorem z_J0_getBytes_840e7_2 (a0 : Int) (a1 : Int) (a2 : Nat) (a3 : Nat) (h0 : 0 ≤ a0 ∧ a0 + ((a3 : Nat) : Int) ≤ ((a2 : Nat) : Int)) (h1 : a1 = ((a3 : Nat) : Int)) : 0 ≤ a1 ∧ a1 ≤ ((a3 : Nat) : Int) ∧ a0 + a1 ≤ ((a2 : Nat) : Int) := by omega
theorem z_J0_getBytes_840e7_3 (a0 : Int) (a1 : Nat) : a0 = a0 ∧ ((a1 : Nat) : Int) = ((a1 : Nat) : Int) := by omega
abbrev rm_J0_getBytes_840e7 : Room := { frames := 1, cells := 0, slots := 0, locals := 60 }
set_option maxHeartbeats 4000000 in
set_option maxRecDepth 100000 in
theorem c_J0_getBytes_840e7 (l : Launch) (E : XE) (K : Nat → Nat) (F : Nat → Nat → Nat) (G : XG) (v n : Nat) (cnt : Int32) (i : Nat) (p1 : Int32) (hi : i < 13) (e1 : 0 ≤ p1.toInt ∧ p1.toInt + (((xlen.getD i 0) : Nat) : Int) ≤ (((n) : Nat) : Int)) : Met l yJ0_getBytes_840e7 (xw yJ0_getBytes_840e7 cJ0_getBytes_840e7 4 none) rm_J0_getBytes_840e7 (va_Pc [.ref (E.2.2.2.2.1 i), .ref v, .int p1, .int 0] (XPb E K F G v n cnt)) (XQv E (fun (u : Nat × Nat × Int32) => u.2.2.toInt = cnt.toInt ∧ ((u.2.1 : Nat) : Int) = ((n : Nat) : Int)) (fun u H => TWb E K F G u.1 u.2.1 u.2.2 H)) 0 0 (xA E) := by
  refine x_enter (by decide) (Nat.le_of_ble_eq_true rfl) ?_
  intro p e s m args below meth c Q S hr hlk hnm hQ hP ls hl
  obtain ⟨hz, hK, hT⟩ := hP
  obtain ⟨hx, hb, -, -, -⟩ := id S
  obtain ⟨H, hT, hS, hgo⟩ : ∃ H : Heap, TWb E K F G v n cnt H ∧ va_S (xA E) s.heap H [] ∧ H = s.heap := ⟨_, hT, va_S.rf, rfl⟩
  rw [← hgo]
  have hl : lv_has ls 4 [(0, .ref (E.2.2.2.2.1 i)), (1, .ref v), (2, .int p1), (3, .int 0)] := hl
  have e9 := hT.inv
  refine lv_aload_n hx hb dJ0_getBytes_840e7_0 rfl (lv_at hl 0 rfl) ?_
  refine x_clp (x_runV (b := (E.2.2.2.2.1 i)) (As := []) (rest := []) S (c_J0_coder_7d493 l E K F G H i hi) mv_J0_coder_7d493 km_J0_335 rfl rfl ⟨Nat.le_of_ble_eq_true rfl, Nat.le_of_ble_eq_true rfl⟩ (vk_recv hK.2.2.2.1 hi hS) hK (fun _ => XPh.blind) (fun U hU hW => XPh.at hK hz hS hT.cl hU hW) rfl hl.1 (Nat.le_of_ble_eq_true rfl) dJ0_getBytes_840e7_1 ⟨Nat.le_of_ble_eq_true rfl, Nat.le_of_ble_eq_true rfl⟩) hS ?_
  rintro _ _ locs ⟨_, rfl, rfl⟩ hS
  refine lv_iload_n hx hb dJ0_getBytes_840e7_4 rfl (lv_at hl 3 rfl) ?_
  refine xi_cne (tgt := 28) hx hb ((by decide) : Int32.toInt 0 = (0 : Int)) ((by decide) : Int32.toInt 0 = (0 : Int)) dJ0_getBytes_840e7_5 (by decide) (fun c => absurd c (show ¬ ((0 : Int) ≠ (0 : Int)) by decide)) (fun _ => ?_)
  refine lv_aload_n hx hb dJ0_getBytes_840e7_8 rfl (lv_at hl 0 rfl) ?_
  refine vk_getf hx hb (hK.2.2.2.1.1 i hi).2.2.1 hS S.2.2.2.1 (S.2.2.2.2 _ (List.mem_cons_of_mem _ kf_J0_9)) (fun _ h => h) dJ0_getBytes_840e7_9 ?_
  refine lv_iconst (v := 0) hx hb dJ0_getBytes_840e7_12 (by decide) ?_
  refine lv_aload_n hx hb dJ0_getBytes_840e7_13 rfl (lv_at hl 1 rfl) ?_
  refine lv_iload_n hx hb dJ0_getBytes_840e7_14 rfl (lv_at hl 2 rfl) ?_
  refine lv_iload_n hx hb dJ0_getBytes_840e7_15 rfl (lv_at hl 3 rfl) ?_
  refine lv_ishl hx hb dJ0_getBytes_840e7_16 ?_
  rw [sb_shl0]
  refine lv_aload_n hx hb dJ0_getBytes_840e7_17 rfl (lv_at hl 0 rfl) ?_
  refine vk_getf hx hb (hK.2.2.2.1.1 i hi).2.2.1 hS S.2.2.2.1 (S.2.2.2.2 _ (List.mem_cons_of_mem _ kf_J0_9)) (fun _ h => h) dJ0_getBytes_840e7_18 ?_
  refine va_tlen hx hb (hK.2.2.2.1.1 i hi).2.2.2 hS rfl dJ0_getBytes_840e7_21 (lv_topi (fun x1 t2 => ?_))
  have t2 : x1.toInt = ((xlen.getD i 0 : Nat) : Int) := by rw [t2]; exact nI_toInt (xlen_lt hi)
  refine st_copy S hK hT hS kac km_J0_212 hi (z_J0_getBytes_840e7_1 p1.toInt n (xlen.getD i 0) e1) (z_J0_getBytes_840e7_2 p1.toInt x1.toInt n (xlen.getD i 0) e1 t2) hl.1 (Nat.le_of_ble_eq_true rfl) (Nat.le_of_ble_eq_true rfl) dJ0_getBytes_840e7_22 (fun H locs hT hS => ?_)
  refine lv_goto (tgt := 43) hx hb dJ0_getBytes_840e7_25 (by decide) ?_
  exact x_rv hx hb hr hlk hQ (Nat.le_of_ble_eq_true rfl) (Nat.le_of_ble_eq_true rfl) hS dJ0_getBytes_840e7_43 (v, n, cnt) (z_J0_getBytes_840e7_3 cnt.toInt n) hT

abbrev rm_J5_inflateIfNeededFor_a7421 : Room := { frames := 1, cells := 0, slots := 0, locals := 20 }
set_option maxHeartbeats 4000000 in
set_option maxRecDepth 100000 in
theorem c_J5_inflateIfNeededFor_a7421 (l : Launch) (E : XE) (K : Nat → Nat) (F : Nat → Nat → Nat) (G : XG) (v n : Nat) (cnt : Int32) (i0 : Nat) (hi0 : i0 < 13) : Met l yJ5_inflateIfNeededFor_a7421 (xw yJ5_inflateIfNeededFor_a7421 cJ5_inflateIfNeededFor_a7421 2 none) rm_J5_inflateIfNeededFor_a7421 (va_Pc [.ref E.2.2.2.1, .ref (E.2.2.2.2.1 i0)] (XPb E K F G v n cnt)) (XQv E (fun (u : Nat × Nat × Int32) => u.2.2.toInt = cnt.toInt ∧ ((u.2.1 : Nat) : Int) = ((n : Nat) : Int)) (fun u H => TWb E K F G u.1 u.2.1 u.2.2 H)) 0 0 (xA E) := by
  refine x_enter (by decide) (Nat.le_of_ble_eq_true rfl) ?_
  intro p e s m args below meth c Q S hr hlk hnm hQ hP ls hl
  obtain ⟨hz, hK, hT⟩ := hP
  obtain ⟨hx, hb, -, -, -⟩ := id S
  obtain ⟨H, hT, hS, hgo⟩ : ∃ H : Heap, TWb E K F G v n cnt H ∧ va_S (xA E) s.heap H [] ∧ H = s.heap := ⟨_, hT, va_S.rf, rfl⟩
  rw [← hgo]
  have hl : lv_has ls 2 [(0, .ref E.2.2.2.1), (1, .ref (E.2.2.2.2.1 i0))] := hl
  have e9 := hT.inv
  refine va_gets hx hb hK.2.2.2.2.1 hS S.2.2.2.1 (S.2.2.2.2 _ (List.mem_cons_of_mem _ kf_J5_18)) (fun _ h => h) dJ5_inflateIfNeededFor_a7421_0 ?_
  refine xi_zeq (tgt := 21) hx hb ((by decide) : Int32.toInt 1 = (1 : Int)) dJ5_inflateIfNeededFor_a7421_3 (by decide) (fun c => absurd c (show ¬ ((1 : Int) = 0) by decide)) (fun _ => ?_)
  refine lv_aload_n hx hb dJ5_inflateIfNeededFor_a7421_6 rfl (lv_at hl 0 rfl) ?_
  refine sbg_coder S hK hT kf_J5_22 dJ5_inflateIfNeededFor_a7421_7 ?_
  refine lv_aload_n hx hb dJ5_inflateIfNeededFor_a7421_10 rfl (lv_at hl 1 rfl) ?_
  refine x_clp (x_runV (b := (E.2.2.2.2.1 i0)) (As := []) (rest := [.int 0]) S (c_J0_coder_7d493 l E K F G H i0 hi0) mv_J0_coder_7d493 km_J5_40 rfl rfl ⟨Nat.le_of_ble_eq_true rfl, Nat.le_of_ble_eq_true rfl⟩ (vk_recv hK.2.2.2.1 hi0 hS) hK (fun _ => XPh.blind) (fun U hU hW => XPh.at hK hz hS hT.cl hU hW) rfl hl.1 (Nat.le_of_ble_eq_true rfl) dJ5_inflateIfNeededFor_a7421_11 ⟨Nat.le_of_ble_eq_true rfl, Nat.le_of_ble_eq_true rfl⟩) hS ?_
  rintro _ _ locs ⟨_, rfl, rfl⟩ hS
  refine xi_ceq (tgt := 21) hx hb ((by decide) : Int32.toInt 0 = (0 : Int)) ((by decide) : Int32.toInt 0 = (0 : Int)) dJ5_inflateIfNeededFor_a7421_14 (by decide) (fun _ => ?_) (fun c => absurd (show (0 : Int) = (0 : Int) by decide) c)
  exact x_rv hx hb hr hlk hQ (Nat.le_of_ble_eq_true rfl) (Nat.le_of_ble_eq_true rfl) hS dJ5_inflateIfNeededFor_a7421_21 (v, n, cnt) (z_J0_getBytes_840e7_3 cnt.toInt n) hT

theorem z_J5_putStringAt_47b60_1 (a0 : Int) (a1 : Int) (a2 : Int) (a3 : Nat) (a4 : Nat) (a5 : Nat) (h0 : 0 ≤ a2 ∧ a2 + ((a5 : Nat) : Int) ≤ ((a4 : Nat) : Int)) (h1 : a1 = a0 ∧ ((a3 : Nat) : Int) = ((a4 : Nat) : Int)) : 0 ≤ a2 ∧ a2 + ((a5 : Nat) : Int) ≤ ((a3 : Nat) : Int) := by omega
theorem z_J5_putStringAt_47b60_2 (a0 : Int) (a1 : Int) (a2 : Int) (a3 : Nat) (a4 : Nat) (a5 : Nat) (h0 : a1 = a0 ∧ ((a3 : Nat) : Int) = ((a5 : Nat) : Int)) (h1 : a2 = a1 ∧ ((a4 : Nat) : Int) = ((a3 : Nat) : Int)) : a2 = a0 ∧ ((a4 : Nat) : Int) = ((a5 : Nat) : Int) := by omega
abbrev rm_J5_putStringAt_47b60 : Room := { frames := 2, cells := 0, slots := 0, locals := 83 }
set_option maxHeartbeats 4000000 in
set_option maxRecDepth 100000 in
theorem c_J5_putStringAt_47b60 (l : Launch) (E : XE) (K : Nat → Nat) (F : Nat → Nat → Nat) (G : XG) (v n : Nat) (cnt : Int32) (p0 : Int32) (i1 : Nat) (hi1 : i1 < 13) (e1 : 0 ≤ p0.toInt ∧ p0.toInt + (((xlen.getD i1 0) : Nat) : Int) ≤ (((n) : Nat) : Int)) : Met l yJ5_putStringAt_47b60 (xw yJ5_putStringAt_47b60 cJ5_putStringAt_47b60 3 none) rm_J5_putStringAt_47b60 (va_Pc [.ref E.2.2.2.1, .int p0, .ref (E.2.2.2.2.1 i1)] (XPb E K F G v n cnt)) (XQv E (fun (u : Nat × Nat × Int32) => u.2.2.toInt = cnt.toInt ∧ ((u.2.1 : Nat) : Int) = ((n : Nat) : Int)) (fun u H => TWb E K F G u.1 u.2.1 u.2.2 H)) 0 0 (xA E) := by
  refine x_enter (by decide) (Nat.le_of_ble_eq_true rfl) ?_
  intro p e s m args below meth c Q S hr hlk hnm hQ hP ls hl
  obtain ⟨hz, hK, hT⟩ := hP
  obtain ⟨hx, hb, -, -, -⟩ := id S
  obtain ⟨H, hT, hS, hgo⟩ : ∃ H : Heap, TWb E K F G v n cnt H ∧ va_S (xA E) s.heap H [] ∧ H = s.heap := ⟨_, hT, va_S.rf, rfl⟩
  rw [← hgo]
  have hl : lv_has ls 3 [(0, .ref E.2.2.2.1), (1, .int p0), (2, .ref (E.2.2.2.2.1 i1))] := hl
  have e9 := hT.inv
  refine lv_aload_n hx hb dJ5_putStringAt_47b60_0 rfl (lv_at hl 0 rfl) ?_
  refine lv_aload_n hx hb dJ5_putStringAt_47b60_1 rfl (lv_at hl 2 rfl) ?_
  refine x_cv0 (x_runV (b := E.2.2.2.1) (As := [.ref (E.2.2.2.2.1 i1)]) (rest := []) S (c_J5_inflateIfNeededFor_a7421 l E K F G v n cnt i1 hi1) mw_J5_inflateIfNeededFor_a7421 km_J5_397 rfl rfl ⟨Nat.le_of_ble_eq_true rfl, Nat.le_of_ble_eq_true rfl⟩ (rc_sb hK hT) hK (fun _ => XPb.blind) (fun U hU hW => XPb.at hK hz hS hT hU hW) rfl hl.1 (Nat.le_of_ble_eq_true rfl) dJ5_putStringAt_47b60_2 ⟨Nat.le_of_ble_eq_true rfl, Nat.le_of_ble_eq_true rfl⟩) hS ?_
  rintro ⟨q1, n2, k3⟩ H locs t4 hT hS
  have t4 : k3.toInt = cnt.toInt ∧ (((n2) : Nat) : Int) = (((n) : Nat) : Int) := t4
  have hT : TWb E K F G q1 n2 k3 H := hT
  have v6 : 0 ≤ k3.toInt ∧ k3.toInt ≤ (((n2) : Nat) : Int) ∧ (((n2) : Nat) : Int) ≤ 100 := hT.inv
  refine lv_aload_n hx hb dJ5_putStringAt_47b60_5 rfl (lv_at hl 2 rfl) ?_
  refine lv_aload_n hx hb dJ5_putStringAt_47b60_6 rfl (lv_at hl 0 rfl) ?_
  refine sbg_value S hK hT kf_J5_15 dJ5_putStringAt_47b60_7 ?_
  refine lv_iload_n hx hb dJ5_putStringAt_47b60_10 rfl (lv_at hl 1 rfl) ?_
  refine lv_aload_n hx hb dJ5_putStringAt_47b60_11 rfl (lv_at hl 0 rfl) ?_
  refine sbg_coder S hK hT kf_J5_22 dJ5_putStringAt_47b60_12 ?_
  refine x_cv0 (x_runV (b := (E.2.2.2.2.1 i1)) (As := [.ref q1, .int p0, .int 0]) (rest := []) S (c_J0_getBytes_840e7 l E K F G q1 n2 k3 i1 p0 hi1 (z_J5_putStringAt_47b60_1 cnt.toInt k3.toInt p0.toInt n2 n (xlen.getD i1 0) e1 t4)) mv_J0_getBytes_840e7 km_J5_399 rfl rfl ⟨Nat.le_of_ble_eq_true rfl, Nat.le_of_ble_eq_true rfl⟩ (vk_recv hK.2.2.2.1 hi1 hS) hK (fun _ => XPb.blind) (fun U hU hW => XPb.at hK hz hS hT hU hW) rfl hl.1 (Nat.le_of_ble_eq_true rfl) dJ5_putStringAt_47b60_15 ⟨Nat.le_of_ble_eq_true rfl, Nat.le_of_ble_eq_true rfl⟩) hS ?_
  rintro ⟨q7, n8, k9⟩ H locs t10 hT hS
  have t10 : k9.toInt = k3.toInt ∧ (((n8) : Nat) : Int) = (((n2) : Nat) : Int) := t10
  have hT : TWb E K F G q7 n8 k9 H := hT
  have v12 : 0 ≤ k9.toInt ∧ k9.toInt ≤ (((n8) : Nat) : Int) ∧ (((n8) : Nat) : Int) ≤ 100 := hT.inv
  exact x_rv hx hb hr hlk hQ (Nat.le_of_ble_eq_true rfl) (Nat.le_of_ble_eq_true rfl) hS dJ5_putStringAt_47b60_18 (q7, n8, k9) (z_J5_putStringAt_47b60_2 cnt.toInt k3.toInt k9.toInt n2 n8 n t4 t10) hT

theorem z_J5_append_cf1ce_1 (a0 : Int) (a1 : Int) (a2 : Int) (a3 : Nat) (a4 : Nat) (h0 : 0 ≤ a0 ∧ a0 ≤ ((a3 : Nat) : Int) ∧ ((a3 : Nat) : Int) ≤ 100) (h1 : a0 + ((a4 : Nat) : Int) ≤ 48) (h2 : a1 = ((a4 : Nat) : Int)) (h3 : a2 = a0 + a1 ∨ a0 + a1 < -2147483648 ∨ 2147483648 ≤ a0 + a1) : 0 ≤ a2 ∧ a2 ≤ 48 := by omega
theorem z_J5_append_cf1ce_2 (a0 : Int) (a1 : Int) (a2 : Int) (a3 : Nat) (a4 : Nat) (a5 : Nat) (h0 : 0 ≤ a0 ∧ a0 ≤ ((a4 : Nat) : Int) ∧ ((a4 : Nat) : Int) ≤ 100) (h1 : a0 + ((a5 : Nat) : Int) ≤ 48) (h2 : a1 = ((a5 : Nat) : Int)) (h3 : a2 = a0 + a1 ∨ a0 + a1 < -2147483648 ∨ 2147483648 ≤ a0 + a1) (h4 : a2 ≤ ((a3 : Nat) : Int) ∧ ((a4 : Nat) : Int) ≤ ((a3 : Nat) : Int)) : 0 ≤ a0 ∧ a0 + ((a5 : Nat) : Int) ≤ ((a3 : Nat) : Int) := by omega
theorem z_J5_append_cf1ce_3 (a0 : Int) (a1 : Int) (a2 : Int) (a3 : Int) (a4 : Int) (a5 : Nat) (a6 : Nat) (a7 : Nat) (a8 : Nat) (h0 : 0 ≤ a0 ∧ a0 ≤ ((a7 : Nat) : Int) ∧ ((a7 : Nat) : Int) ≤ 100) (h1 : a0 + ((a8 : Nat) : Int) ≤ 48) (h2 : a2 = ((a8 : Nat) : Int)) (h3 : a4 = a0 + a2 ∨ a0 + a2 < -2147483648 ∨ 2147483648 ≤ a0 + a2) (h4 : a4 ≤ ((a6 : Nat) : Int) ∧ ((a7 : Nat) : Int) ≤ ((a6 : Nat) : Int)) (h5 : a1 = a0 ∧ ((a5 : Nat) : Int) = ((a6 : Nat) : Int)) (h6 : a3 = a1 + a2 ∨ a1 + a2 < -2147483648 ∨ 2147483648 ≤ a1 + a2) : 0 ≤ a3 ∧ a3 ≤ ((a5 : Nat) : Int) := by omega
theorem z_J5_append_cf1ce_4 (a0 : Int) (a1 : Int) (a2 : Int) (a3 : Int) (a4 : Nat) (a5 : Nat) (a6 : Nat) (a7 : Nat) (h0 : 0 ≤ a0 ∧ a0 ≤ ((a6 : Nat) : Int) ∧ ((a6 : Nat) : Int) ≤ 100) (h1 : a0 + ((a7 : Nat) : Int) ≤ 48) (h2 : a2 = ((a7 : Nat) : Int)) (h3 : a1 = a0 ∧ ((a4 : Nat) : Int) = ((a5 : Nat) : Int)) (h4 : a3 = a1 + a2 ∨ a1 + a2 < -2147483648 ∨ 2147483648 ≤ a1 + a2) : a3 = a0 + ((a7 : Nat) : Int) := by omega
abbrev rm_J5_append_cf1ce : Room := { frames := 4, cells := 1, slots := 100, locals := 105 }
set_option maxHeartbeats 4000000 in
set_option maxRecDepth 100000 in
theorem c_J5_append_cf1ce (l : Launch) (E : XE) (K : Nat → Nat) (F : Nat → Nat → Nat) (G : XG) (v n : Nat) (cnt : Int32) (i0 : Nat) (hi0 : i0 < 13) (e1 : cnt.toInt + (((xlen.getD i0 0) : Nat) : Int) ≤ 48) : Met l yJ5_append_cf1ce (xw yJ5_append_cf1ce cJ5_append_cf1ce 3 (some (.object "java/lang/AbstractStringBuilder"))) rm_J5_append_cf1ce (va_Pc [.ref E.2.2.2.1, .ref (E.2.2.2.2.1 i0)] (XPb E K F G v n cnt)) (XQ E (fun v (u : Nat × Nat × Int32) => v = .ref E.2.2.2.1 ∧ u.2.2.toInt = cnt.toInt + ((xlen.getD i0 0 : Nat) : Int)) (fun u H => TWb E K F G u.1 u.2.1 u.2.2 H)) 1 100 (xA E) := by
  refine x_enter (by decide) (Nat.le_of_ble_eq_true rfl) ?_
  intro p e s m args below meth c Q S hr hlk hnm hQ hP ls hl
  obtain ⟨hz, hK, hT⟩ := hP
  obtain ⟨hx, hb, -, -, -⟩ := id S
  obtain ⟨H, hT, hS, hgo⟩ : ∃ H : Heap, TWb E K F G v n cnt H ∧ va_S (xA E) s.heap H [] ∧ H = s.heap := ⟨_, hT, va_S.rf, rfl⟩
  rw [← hgo]
  have hl : lv_has ls 3 [(0, .ref E.2.2.2.1), (1, .ref (E.2.2.2.2.1 i0))] := hl
  have e9 := hT.inv
  refine lv_aload_n hx hb dJ5_append_cf1ce_0 rfl (lv_at hl 1 rfl) ?_
  refine lv_ifnonnull (tgt := 9) hx hb dJ5_append_cf1ce_1 (by decide) ?_
  refine lv_aload_n hx hb dJ5_append_cf1ce_9 rfl (lv_at hl 1 rfl) ?_
  refine x_clp (x_runV (b := (E.2.2.2.2.1 i0)) (As := []) (rest := []) S (c_J0_length_8abf5 l E K F G H i0 hi0) mv_J0_length_8abf5 km_J5_32 rfl rfl ⟨Nat.le_of_ble_eq_true rfl, Nat.le_of_ble_eq_true rfl⟩ (vk_recv hK.2.2.2.1 hi0 hS) hK (fun _ => XPh.blind) (fun U hU hW => XPh.at hK hz hS hT.cl hU hW) rfl hl.1 (Nat.le_of_ble_eq_true rfl) dJ5_append_cf1ce_10 ⟨Nat.le_of_ble_eq_true rfl, Nat.le_of_ble_eq_true rfl⟩) hS ?_
  rintro _ _ locs ⟨x1, rfl, t2⟩ hS
  refine lv_istore_n (lv' := [(2, .int x1), (0, .ref E.2.2.2.1), (1, .ref (E.2.2.2.2.1 i0))]) hx hb dJ5_append_cf1ce_13 rfl hl (by decide) rfl (fun ls hl => ?_)
  refine lv_aload_n hx hb dJ5_append_cf1ce_14 rfl (lv_at hl 1 rfl) ?_
  refine lv_aload_n hx hb dJ5_append_cf1ce_15 rfl (lv_at hl 1 rfl) ?_
  refine sbg_count S hK hT kf_J5_79 dJ5_append_cf1ce_16 ?_
  refine lv_iload_n hx hb dJ5_append_cf1ce_19 rfl (lv_at hl 0 rfl) ?_
  refine xi_iadd hx hb (rfl : Int32.toInt cnt = cnt.toInt) (rfl : Int32.toInt x1 = x1.toInt) dJ5_append_cf1ce_20 (fun x3 t4 => ?_)
  refine x_cv (x_runV (b := E.2.2.2.1) (As := [.int x3]) (rest := []) S (c_J5_ensureCapacityInternal_d00df l E K F G v n cnt x3 (z_J5_append_cf1ce_1 cnt.toInt x1.toInt x3.toInt n (xlen.getD i0 0) e9 e1 t2 t4)) mw_J5_ensureCapacityInternal_d00df km_J5_100 rfl rfl ⟨Nat.le_of_ble_eq_true rfl, Nat.le_of_ble_eq_true rfl⟩ (rc_sb hK hT) hK (fun _ => XPb.blind) (fun U hU hW => XPb.at hK hz hS hT hU hW) rfl hl.1 (Nat.le_of_ble_eq_true rfl) dJ5_append_cf1ce_21 ⟨Nat.le_of_ble_eq_true rfl, Nat.le_of_ble_eq_true rfl⟩) hS ?_
  rintro ⟨q5, n6⟩ H locs t7 hT hS
  have t7 : x3.toInt ≤ (((n6) : Nat) : Int) ∧ (((n) : Nat) : Int) ≤ (((n6) : Nat) : Int) := t7
  have hT : TWb E K F G q5 n6 cnt H := hT
  have v8 : 0 ≤ cnt.toInt ∧ cnt.toInt ≤ (((n6) : Nat) : Int) ∧ (((n6) : Nat) : Int) ≤ 100 := hT.inv
  refine lv_aload_n hx hb dJ5_append_cf1ce_24 rfl (lv_at hl 1 rfl) ?_
  refine lv_aload_n hx hb dJ5_append_cf1ce_25 rfl (lv_at hl 1 rfl) ?_
  refine sbg_count S hK hT kf_J5_79 dJ5_append_cf1ce_26 ?_
  refine lv_aload_n hx hb dJ5_append_cf1ce_29 rfl (lv_at hl 2 rfl) ?_
  refine x_cv0 (x_runV (b := E.2.2.2.1) (As := [.int cnt, .ref (E.2.2.2.2.1 i0)]) (rest := []) S (c_J5_putStringAt_47b60 l E K F G q5 n6 cnt cnt i0 hi0 (z_J5_append_cf1ce_2 cnt.toInt x1.toInt x3.toInt n6 n (xlen.getD i0 0) e9 e1 t2 t4 t7)) mw_J5_putStringAt_47b60 km_J5_208 rfl rfl ⟨Nat.le_of_ble_eq_true rfl, Nat.le_of_ble_eq_true rfl⟩ (rc_sb hK hT) hK (fun _ => XPb.blind) (fun U hU hW => XPb.at hK hz hS hT hU hW) rfl hl.1 (Nat.le_of_ble_eq_true rfl) dJ5_append_cf1ce_30 ⟨Nat.le_of_ble_eq_true rfl, Nat.le_of_ble_eq_true rfl⟩) hS ?_
  rintro ⟨q9, n10, k11⟩ H locs t12 hT hS
  have t12 : k11.toInt = cnt.toInt ∧ (((n10) : Nat) : Int) = (((n6) : Nat) : Int) := t12
  have hT : TWb E K F G q9 n10 k11 H := hT
  have v14 : 0 ≤ k11.toInt ∧ k11.toInt ≤ (((n10) : Nat) : Int) ∧ (((n10) : Nat) : Int) ≤ 100 := hT.inv
  refine lv_aload_n hx hb dJ5_append_cf1ce_33 rfl (lv_at hl 1 rfl) ?_
  refine lv_dup hx hb dJ5_append_cf1ce_34 rfl ?_
  refine sbg_count S hK hT kf_J5_79 dJ5_append_cf1ce_35 ?_
  refine lv_iload_n hx hb dJ5_append_cf1ce_38 rfl (lv_at hl 0 rfl) ?_
  refine xi_iadd hx hb (rfl : Int32.toInt k11 = k11.toInt) (rfl : Int32.toInt x1 = x1.toInt) dJ5_append_cf1ce_39 (fun x15 t16 => ?_)
  refine sbp_count (x := x15) S hK hT hS kf_J5_79 (z_J5_append_cf1ce_3 cnt.toInt k11.toInt x1.toInt x15.toInt x3.toInt n10 n6 n (xlen.getD i0 0) e9 e1 t2 t4 t7 t12 t16) dJ5_append_cf1ce_40 (fun H locs hT hS => ?_)
  refine lv_aload_n hx hb dJ5_append_cf1ce_43 rfl (lv_at hl 1 rfl) ?_
  exact x_ra hx hb hr (by first | exact Or.inl ⟨_, rfl⟩ | exact Or.inr ⟨_, rfl⟩) (by first | exact Or.inl rfl | exact Or.inr ⟨_, rfl⟩) hlk hQ (Nat.le_of_ble_eq_true rfl) (Nat.le_of_ble_eq_true rfl) hS dJ5_append_cf1ce_44 (q9, n10, x15) ⟨rfl, (z_J5_append_cf1ce_4 cnt.toInt k11.toInt x1.toInt x15.toInt n10 n6 n (xlen.getD i0 0) e9 e1 t2 t12 t16)⟩ hT

theorem z_J5_append_c97b9_1 (a0 : Int) (a1 : Int) (a2 : Int) (a3 : Int) (a4 : Nat) (h0 : 0 ≤ a0 ∧ a0 ≤ ((a4 : Nat) : Int) ∧ ((a4 : Nat) : Int) ≤ 100) (h1 : a0 ≤ 37) (h2 : 1 ≤ a2 ∧ a2 ≤ 11 ∧ (a1 < 0 → 2 ≤ a2) ∧ (a1 ≤ -10 → 3 ≤ a2) ∧ (10 ≤ a1 → 2 ≤ a2) ∧ (a1 ≤ -100 → 4 ≤ a2) ∧ (100 ≤ a1 → 3 ≤ a2) ∧ (a1 ≤ -1000 → 5 ≤ a2) ∧ (1000 ≤ a1 → 4 ≤ a2) ∧ (a1 ≤ -10000 → 6 ≤ a2) ∧ (10000 ≤ a1 → 5 ≤ a2) ∧ (a1 ≤ -100000 → 7 ≤ a2) ∧ (100000 ≤ a1 → 6 ≤ a2) ∧ (a1 ≤ -1000000 → 8 ≤ a2) ∧ (1000000 ≤ a1 → 7 ≤ a2) ∧ (a1 ≤ -10000000 → 9 ≤ a2) ∧ (10000000 ≤ a1 → 8 ≤ a2) ∧ (a1 ≤ -100000000 → 10 ≤ a2) ∧ (100000000 ≤ a1 → 9 ≤ a2) ∧ (a1 ≤ -1000000000 → 11 ≤ a2) ∧ (1000000000 ≤ a1 → 10 ≤ a2)) (h3 : a3 = a0 + a2 ∨ a0 + a2 < -2147483648 ∨ 2147483648 ≤ a0 + a2) : 0 ≤ a3 ∧ a3 ≤ 48 := by omega
theorem z_J5_append_c97b9_2 (a0 : Int) (a1 : Int) (a2 : Int) (a3 : Int) (a4 : Nat) (a5 : Nat) (h0 : 0 ≤ a0 ∧ a0 ≤ ((a5 : Nat) : Int) ∧ ((a5 : Nat) : Int) ≤ 100) (h1 : 1 ≤ a2 ∧ a2 ≤ 11 ∧ (a1 < 0 → 2 ≤ a2) ∧ (a1 ≤ -10 → 3 ≤ a2) ∧ (10 ≤ a1 → 2 ≤ a2) ∧ (a1 ≤ -100 → 4 ≤ a2) ∧ (100 ≤ a1 → 3 ≤ a2) ∧ (a1 ≤ -1000 → 5 ≤ a2) ∧ (1000 ≤ a1 → 4 ≤ a2) ∧ (a1 ≤ -10000 → 6 ≤ a2) ∧ (10000 ≤ a1 → 5 ≤ a2) ∧ (a1 ≤ -100000 → 7 ≤ a2) ∧ (100000 ≤ a1 → 6 ≤ a2) ∧ (a1 ≤ -1000000 → 8 ≤ a2) ∧ (1000000 ≤ a1 → 7 ≤ a2) ∧ (a1 ≤ -10000000 → 9 ≤ a2) ∧ (10000000 ≤ a1 → 8 ≤ a2) ∧ (a1 ≤ -100000000 → 10 ≤ a2) ∧ (100000000 ≤ a1 → 9 ≤ a2) ∧ (a1 ≤ -1000000000 → 11 ≤ a2) ∧ (1000000000 ≤ a1 → 10 ≤ a2)) (h2 : a3 = a0 + a2 ∨ a0 + a2 < -2147483648 ∨ 2147483648 ≤ a0 + a2) (h3 : a3 ≤ ((a4 : Nat) : Int) ∧ ((a5 : Nat) : Int) ≤ ((a4 : Nat) : Int)) : 1 ≤ a3 ∧ a3 ≤ ((a4 : Nat) : Int) := by omega
theorem z_J5_append_c97b9_3 (a0 : Int) (a1 : Int) (a2 : Int) (a3 : Int) (a4 : Nat) (h0 : 0 ≤ a0 ∧ a0 ≤ ((a4 : Nat) : Int) ∧ ((a4 : Nat) : Int) ≤ 100) (h1 : 1 ≤ a2 ∧ a2 ≤ 11 ∧ (a1 < 0 → 2 ≤ a2) ∧ (a1 ≤ -10 → 3 ≤ a2) ∧ (10 ≤ a1 → 2 ≤ a2) ∧ (a1 ≤ -100 → 4 ≤ a2) ∧ (100 ≤ a1 → 3 ≤ a2) ∧ (a1 ≤ -1000 → 5 ≤ a2) ∧ (1000 ≤ a1 → 4 ≤ a2) ∧ (a1 ≤ -10000 → 6 ≤ a2) ∧ (10000 ≤ a1 → 5 ≤ a2) ∧ (a1 ≤ -100000 → 7 ≤ a2) ∧ (100000 ≤ a1 → 6 ≤ a2) ∧ (a1 ≤ -1000000 → 8 ≤ a2) ∧ (1000000 ≤ a1 → 7 ≤ a2) ∧ (a1 ≤ -10000000 → 9 ≤ a2) ∧ (10000000 ≤ a1 → 8 ≤ a2) ∧ (a1 ≤ -100000000 → 10 ≤ a2) ∧ (100000000 ≤ a1 → 9 ≤ a2) ∧ (a1 ≤ -1000000000 → 11 ≤ a2) ∧ (1000000000 ≤ a1 → 10 ≤ a2)) (h2 : a3 = a0 + a2 ∨ a0 + a2 < -2147483648 ∨ 2147483648 ≤ a0 + a2) : a1 < 0 → 2 ≤ a3 := by omega
theorem z_J5_append_c97b9_4 (a0 : Int) (a1 : Int) (a2 : Int) (a3 : Int) (a4 : Nat) (h0 : 0 ≤ a0 ∧ a0 ≤ ((a4 : Nat) : Int) ∧ ((a4 : Nat) : Int) ≤ 100) (h1 : 1 ≤ a2 ∧ a2 ≤ 11 ∧ (a1 < 0 → 2 ≤ a2) ∧ (a1 ≤ -10 → 3 ≤ a2) ∧ (10 ≤ a1 → 2 ≤ a2) ∧ (a1 ≤ -100 → 4 ≤ a2) ∧ (100 ≤ a1 → 3 ≤ a2) ∧ (a1 ≤ -1000 → 5 ≤ a2) ∧ (1000 ≤ a1 → 4 ≤ a2) ∧ (a1 ≤ -10000 → 6 ≤ a2) ∧ (10000 ≤ a1 → 5 ≤ a2) ∧ (a1 ≤ -100000 → 7 ≤ a2) ∧ (100000 ≤ a1 → 6 ≤ a2) ∧ (a1 ≤ -1000000 → 8 ≤ a2) ∧ (1000000 ≤ a1 → 7 ≤ a2) ∧ (a1 ≤ -10000000 → 9 ≤ a2) ∧ (10000000 ≤ a1 → 8 ≤ a2) ∧ (a1 ≤ -100000000 → 10 ≤ a2) ∧ (100000000 ≤ a1 → 9 ≤ a2) ∧ (a1 ≤ -1000000000 → 11 ≤ a2) ∧ (1000000000 ≤ a1 → 10 ≤ a2)) (h2 : a3 = a0 + a2 ∨ a0 + a2 < -2147483648 ∨ 2147483648 ≤ a0 + a2) : (a1 ≤ -10 → 3 ≤ a3) ∧ (10 ≤ a1 → 2 ≤ a3) := by omega
theorem z_J5_append_c97b9_5 (a0 : Int) (a1 : Int) (a2 : Int) (a3 : Int) (a4 : Nat) (h0 : 0 ≤ a0 ∧ a0 ≤ ((a4 : Nat) : Int) ∧ ((a4 : Nat) : Int) ≤ 100) (h1 : 1 ≤ a2 ∧ a2 ≤ 11 ∧ (a1 < 0 → 2 ≤ a2) ∧ (a1 ≤ -10 → 3 ≤ a2) ∧ (10 ≤ a1 → 2 ≤ a2) ∧ (a1 ≤ -100 → 4 ≤ a2) ∧ (100 ≤ a1 → 3 ≤ a2) ∧ (a1 ≤ -1000 → 5 ≤ a2) ∧ (1000 ≤ a1 → 4 ≤ a2) ∧ (a1 ≤ -10000 → 6 ≤ a2) ∧ (10000 ≤ a1 → 5 ≤ a2) ∧ (a1 ≤ -100000 → 7 ≤ a2) ∧ (100000 ≤ a1 → 6 ≤ a2) ∧ (a1 ≤ -1000000 → 8 ≤ a2) ∧ (1000000 ≤ a1 → 7 ≤ a2) ∧ (a1 ≤ -10000000 → 9 ≤ a2) ∧ (10000000 ≤ a1 → 8 ≤ a2) ∧ (a1 ≤ -100000000 → 10 ≤ a2) ∧ (100000000 ≤ a1 → 9 ≤ a2) ∧ (a1 ≤ -1000000000 → 11 ≤ a2) ∧ (1000000000 ≤ a1 → 10 ≤ a2)) (h2 : a3 = a0 + a2 ∨ a0 + a2 < -2147483648 ∨ 2147483648 ≤ a0 + a2) : (a1 ≤ -100 → 4 ≤ a3) ∧ (100 ≤ a1 → 3 ≤ a3) := by omega
theorem z_J5_append_c97b9_6 (a0 : Int) (a1 : Int) (a2 : Int) (a3 : Int) (a4 : Nat) (h0 : 0 ≤ a0 ∧ a0 ≤ ((a4 : Nat) : Int) ∧ ((a4 : Nat) : Int) ≤ 100) (h1 : 1 ≤ a2 ∧ a2 ≤ 11 ∧ (a1 < 0 → 2 ≤ a2) ∧ (a1 ≤ -10 → 3 ≤ a2) ∧ (10 ≤ a1 → 2 ≤ a2) ∧ (a1 ≤ -100 → 4 ≤ a2) ∧ (100 ≤ a1 → 3 ≤ a2) ∧ (a1 ≤ -1000 → 5 ≤ a2) ∧ (1000 ≤ a1 → 4 ≤ a2) ∧ (a1 ≤ -10000 → 6 ≤ a2) ∧ (10000 ≤ a1 → 5 ≤ a2) ∧ (a1 ≤ -100000 → 7 ≤ a2) ∧ (100000 ≤ a1 → 6 ≤ a2) ∧ (a1 ≤ -1000000 → 8 ≤ a2) ∧ (1000000 ≤ a1 → 7 ≤ a2) ∧ (a1 ≤ -10000000 → 9 ≤ a2) ∧ (10000000 ≤ a1 → 8 ≤ a2) ∧ (a1 ≤ -100000000 → 10 ≤ a2) ∧ (100000000 ≤ a1 → 9 ≤ a2) ∧ (a1 ≤ -1000000000 → 11 ≤ a2) ∧ (1000000000 ≤ a1 → 10 ≤ a2)) (h2 : a3 = a0 + a2 ∨ a0 + a2 < -2147483648 ∨ 2147483648 ≤ a0 + a2) : (a1 ≤ -1000 → 5 ≤ a3) ∧ (1000 ≤ a1 → 4 ≤ a3) := by omega
theorem z_J5_append_c97b9_7 (a0 : Int) (a1 : Int) (a2 : Int) (a3 : Int) (a4 : Nat) (h0 : 0 ≤ a0 ∧ a0 ≤ ((a4 : Nat) : Int) ∧ ((a4 : Nat) : Int) ≤ 100) (h1 : 1 ≤ a2 ∧ a2 ≤ 11 ∧ (a1 < 0 → 2 ≤ a2) ∧ (a1 ≤ -10 → 3 ≤ a2) ∧ (10 ≤ a1 → 2 ≤ a2) ∧ (a1 ≤ -100 → 4 ≤ a2) ∧ (100 ≤ a1 → 3 ≤ a2) ∧ (a1 ≤ -1000 → 5 ≤ a2) ∧ (1000 ≤ a1 → 4 ≤ a2) ∧ (a1 ≤ -10000 → 6 ≤ a2) ∧ (10000 ≤ a1 → 5 ≤ a2) ∧ (a1 ≤ -100000 → 7 ≤ a2) ∧ (100000 ≤ a1 → 6 ≤ a2) ∧ (a1 ≤ -1000000 → 8 ≤ a2) ∧ (1000000 ≤ a1 → 7 ≤ a2) ∧ (a1 ≤ -10000000 → 9 ≤ a2) ∧ (10000000 ≤ a1 → 8 ≤ a2) ∧ (a1 ≤ -100000000 → 10 ≤ a2) ∧ (100000000 ≤ a1 → 9 ≤ a2) ∧ (a1 ≤ -1000000000 → 11 ≤ a2) ∧ (1000000000 ≤ a1 → 10 ≤ a2)) (h2 : a3 = a0 + a2 ∨ a0 + a2 < -2147483648 ∨ 2147483648 ≤ a0 + a2) : (a1 ≤ -10000 → 6 ≤ a3) ∧ (10000 ≤ a1 → 5 ≤ a3) := by omega
theorem z_J5_append_c97b9_8 (a0 : Int) (a1 : Int) (a2 : Int) (a3 : Int) (a4 : Nat) (h0 : 0 ≤ a0 ∧ a0 ≤ ((a4 : Nat) : Int) ∧ ((a4 : Nat) : Int) ≤ 100) (h1 : 1 ≤ a2 ∧ a2 ≤ 11 ∧ (a1 < 0 → 2 ≤ a2) ∧ (a1 ≤ -10 → 3 ≤ a2) ∧ (10 ≤ a1 → 2 ≤ a2) ∧ (a1 ≤ -100 → 4 ≤ a2) ∧ (100 ≤ a1 → 3 ≤ a2) ∧ (a1 ≤ -1000 → 5 ≤ a2) ∧ (1000 ≤ a1 → 4 ≤ a2) ∧ (a1 ≤ -10000 → 6 ≤ a2) ∧ (10000 ≤ a1 → 5 ≤ a2) ∧ (a1 ≤ -100000 → 7 ≤ a2) ∧ (100000 ≤ a1 → 6 ≤ a2) ∧ (a1 ≤ -1000000 → 8 ≤ a2) ∧ (1000000 ≤ a1 → 7 ≤ a2) ∧ (a1 ≤ -10000000 → 9 ≤ a2) ∧ (10000000 ≤ a1 → 8 ≤ a2) ∧ (a1 ≤ -100000000 → 10 ≤ a2) ∧ (100000000 ≤ a1 → 9 ≤ a2) ∧ (a1 ≤ -1000000000 → 11 ≤ a2) ∧ (1000000000 ≤ a1 → 10 ≤ a2)) (h2 : a3 = a0 + a2 ∨ a0 + a2 < -2147483648 ∨ 2147483648 ≤ a0 + a2) : (a1 ≤ -100000 → 7 ≤ a3) ∧ (100000 ≤ a1 → 6 ≤ a3) := by omega
theorem z_J5_append_c97b9_9 (a0 : Int) (a1 : Int) (a2 : Int) (a3 : Int) (a4 : Nat) (h0 : 0 ≤ a0 ∧ a0 ≤ ((a4 : Nat) : Int) ∧ ((a4 : Nat) : Int) ≤ 100) (h1 : 1 ≤ a2 ∧ a2 ≤ 11 ∧ (a1 < 0 → 2 ≤ a2) ∧ (a1 ≤ -10 → 3 ≤ a2) ∧ (10 ≤ a1 → 2 ≤ a2) ∧ (a1 ≤ -100 → 4 ≤ a2) ∧ (100 ≤ a1 → 3 ≤ a2) ∧ (a1 ≤ -1000 → 5 ≤ a2) ∧ (1000 ≤ a1 → 4 ≤ a2) ∧ (a1 ≤ -10000 → 6 ≤ a2) ∧ (10000 ≤ a1 → 5 ≤ a2) ∧ (a1 ≤ -100000 → 7 ≤ a2) ∧ (100000 ≤ a1 → 6 ≤ a2) ∧ (a1 ≤ -1000000 → 8 ≤ a2) ∧ (1000000 ≤ a1 → 7 ≤ a2) ∧ (a1 ≤ -10000000 → 9 ≤ a2) ∧ (10000000 ≤ a1 → 8 ≤ a2) ∧ (a1 ≤ -100000000 → 10 ≤ a2) ∧ (100000000 ≤ a1 → 9 ≤ a2) ∧ (a1 ≤ -1000000000 → 11 ≤ a2) ∧ (1000000000 ≤ a1 → 10 ≤ a2)) (h2 : a3 = a0 + a2 ∨ a0 + a2 < -2147483648 ∨ 2147483648 ≤ a0 + a2) : (a1 ≤ -1000000 → 8 ≤ a3) ∧ (1000000 ≤ a1 → 7 ≤ a3) := by omega
theorem z_J5_append_c97b9_10 (a0 : Int) (a1 : Int) (a2 : Int) (a3 : Int) (a4 : Nat) (h0 : 0 ≤ a0 ∧ a0 ≤ ((a4 : Nat) : Int) ∧ ((a4 : Nat) : Int) ≤ 100) (h1 : 1 ≤ a2 ∧ a2 ≤ 11 ∧ (a1 < 0 → 2 ≤ a2) ∧ (a1 ≤ -10 → 3 ≤ a2) ∧ (10 ≤ a1 → 2 ≤ a2) ∧ (a1 ≤ -100 → 4 ≤ a2) ∧ (100 ≤ a1 → 3 ≤ a2) ∧ (a1 ≤ -1000 → 5 ≤ a2) ∧ (1000 ≤ a1 → 4 ≤ a2) ∧ (a1 ≤ -10000 → 6 ≤ a2) ∧ (10000 ≤ a1 → 5 ≤ a2) ∧ (a1 ≤ -100000 → 7 ≤ a2) ∧ (100000 ≤ a1 → 6 ≤ a2) ∧ (a1 ≤ -1000000 → 8 ≤ a2) ∧ (1000000 ≤ a1 → 7 ≤ a2) ∧ (a1 ≤ -10000000 → 9 ≤ a2) ∧ (10000000 ≤ a1 → 8 ≤ a2) ∧ (a1 ≤ -100000000 → 10 ≤ a2) ∧ (100000000 ≤ a1 → 9 ≤ a2) ∧ (a1 ≤ -1000000000 → 11 ≤ a2) ∧ (1000000000 ≤ a1 → 10 ≤ a2)) (h2 : a3 = a0 + a2 ∨ a0 + a2 < -2147483648 ∨ 2147483648 ≤ a0 + a2) : (a1 ≤ -10000000 → 9 ≤ a3) ∧ (10000000 ≤ a1 → 8 ≤ a3) := by omega
theorem z_J5_append_c97b9_11 (a0 : Int) (a1 : Int) (a2 : Int) (a3 : Int) (a4 : Nat) (h0 : 0 ≤ a0 ∧ a0 ≤ ((a4 : Nat) : Int) ∧ ((a4 : Nat) : Int) ≤ 100) (h1 : 1 ≤ a2 ∧ a2 ≤ 11 ∧ (a1 < 0 → 2 ≤ a2) ∧ (a1 ≤ -10 → 3 ≤ a2) ∧ (10 ≤ a1 → 2 ≤ a2) ∧ (a1 ≤ -100 → 4 ≤ a2) ∧ (100 ≤ a1 → 3 ≤ a2) ∧ (a1 ≤ -1000 → 5 ≤ a2) ∧ (1000 ≤ a1 → 4 ≤ a2) ∧ (a1 ≤ -10000 → 6 ≤ a2) ∧ (10000 ≤ a1 → 5 ≤ a2) ∧ (a1 ≤ -100000 → 7 ≤ a2) ∧ (100000 ≤ a1 → 6 ≤ a2) ∧ (a1 ≤ -1000000 → 8 ≤ a2) ∧ (1000000 ≤ a1 → 7 ≤ a2) ∧ (a1 ≤ -10000000 → 9 ≤ a2) ∧ (10000000 ≤ a1 → 8 ≤ a2) ∧ (a1 ≤ -100000000 → 10 ≤ a2) ∧ (100000000 ≤ a1 → 9 ≤ a2) ∧ (a1 ≤ -1000000000 → 11 ≤ a2) ∧ (1000000000 ≤ a1 → 10 ≤ a2)) (h2 : a3 = a0 + a2 ∨ a0 + a2 < -2147483648 ∨ 2147483648 ≤ a0 + a2) : (a1 ≤ -100000000 → 10 ≤ a3) ∧ (100000000 ≤ a1 → 9 ≤ a3) := by omega
theorem z_J5_append_c97b9_12 (a0 : Int) (a1 : Int) (a2 : Int) (a3 : Int) (a4 : Nat) (h0 : 0 ≤ a0 ∧ a0 ≤ ((a4 : Nat) : Int) ∧ ((a4 : Nat) : Int) ≤ 100) (h1 : 1 ≤ a2 ∧ a2 ≤ 11 ∧ (a1 < 0 → 2 ≤ a2) ∧ (a1 ≤ -10 → 3 ≤ a2) ∧ (10 ≤ a1 → 2 ≤ a2) ∧ (a1 ≤ -100 → 4 ≤ a2) ∧ (100 ≤ a1 → 3 ≤ a2) ∧ (a1 ≤ -1000 → 5 ≤ a2) ∧ (1000 ≤ a1 → 4 ≤ a2) ∧ (a1 ≤ -10000 → 6 ≤ a2) ∧ (10000 ≤ a1 → 5 ≤ a2) ∧ (a1 ≤ -100000 → 7 ≤ a2) ∧ (100000 ≤ a1 → 6 ≤ a2) ∧ (a1 ≤ -1000000 → 8 ≤ a2) ∧ (1000000 ≤ a1 → 7 ≤ a2) ∧ (a1 ≤ -10000000 → 9 ≤ a2) ∧ (10000000 ≤ a1 → 8 ≤ a2) ∧ (a1 ≤ -100000000 → 10 ≤ a2) ∧ (100000000 ≤ a1 → 9 ≤ a2) ∧ (a1 ≤ -1000000000 → 11 ≤ a2) ∧ (1000000000 ≤ a1 → 10 ≤ a2)) (h2 : a3 = a0 + a2 ∨ a0 + a2 < -2147483648 ∨ 2147483648 ≤ a0 + a2) : (a1 ≤ -1000000000 → 11 ≤ a3) ∧ (1000000000 ≤ a1 → 10 ≤ a3) := by omega
theorem z_J5_append_c97b9_13 (a0 : Int) (a1 : Int) (a2 : Int) (a3 : Int) (a4 : Int) (a5 : Nat) (a6 : Nat) (a7 : Nat) (h0 : 0 ≤ a0 ∧ a0 ≤ ((a7 : Nat) : Int) ∧ ((a7 : Nat) : Int) ≤ 100) (h1 : 1 ≤ a3 ∧ a3 ≤ 11 ∧ (a2 < 0 → 2 ≤ a3) ∧ (a2 ≤ -10 → 3 ≤ a3) ∧ (10 ≤ a2 → 2 ≤ a3) ∧ (a2 ≤ -100 → 4 ≤ a3) ∧ (100 ≤ a2 → 3 ≤ a3) ∧ (a2 ≤ -1000 → 5 ≤ a3) ∧ (1000 ≤ a2 → 4 ≤ a3) ∧ (a2 ≤ -10000 → 6 ≤ a3) ∧ (10000 ≤ a2 → 5 ≤ a3) ∧ (a2 ≤ -100000 → 7 ≤ a3) ∧ (100000 ≤ a2 → 6 ≤ a3) ∧ (a2 ≤ -1000000 → 8 ≤ a3) ∧ (1000000 ≤ a2 → 7 ≤ a3) ∧ (a2 ≤ -10000000 → 9 ≤ a3) ∧ (10000000 ≤ a2 → 8 ≤ a3) ∧ (a2 ≤ -100000000 → 10 ≤ a3) ∧ (100000000 ≤ a2 → 9 ≤ a3) ∧ (a2 ≤ -1000000000 → 11 ≤ a3) ∧ (1000000000 ≤ a2 → 10 ≤ a3)) (h2 : a4 = a0 + a3 ∨ a0 + a3 < -2147483648 ∨ 2147483648 ≤ a0 + a3) (h3 : a4 ≤ ((a6 : Nat) : Int) ∧ ((a7 : Nat) : Int) ≤ ((a6 : Nat) : Int)) (h4 : a1 = a0 ∧ ((a5 : Nat) : Int) = ((a6 : Nat) : Int)) : 0 ≤ a4 ∧ a4 ≤ ((a5 : Nat) : Int) := by omega
theorem z_J5_append_c97b9_14 (a0 : Int) (a1 : Int) (a2 : Int) (a3 : Int) (a4 : Int) (a5 : Nat) (a6 : Nat) (h0 : 1 ≤ a3 ∧ a3 ≤ 11 ∧ (a2 < 0 → 2 ≤ a3) ∧ (a2 ≤ -10 → 3 ≤ a3) ∧ (10 ≤ a2 → 2 ≤ a3) ∧ (a2 ≤ -100 → 4 ≤ a3) ∧ (100 ≤ a2 → 3 ≤ a3) ∧ (a2 ≤ -1000 → 5 ≤ a3) ∧ (1000 ≤ a2 → 4 ≤ a3) ∧ (a2 ≤ -10000 → 6 ≤ a3) ∧ (10000 ≤ a2 → 5 ≤ a3) ∧ (a2 ≤ -100000 → 7 ≤ a3) ∧ (100000 ≤ a2 → 6 ≤ a3) ∧ (a2 ≤ -1000000 → 8 ≤ a3) ∧ (1000000 ≤ a2 → 7 ≤ a3) ∧ (a2 ≤ -10000000 → 9 ≤ a3) ∧ (10000000 ≤ a2 → 8 ≤ a3) ∧ (a2 ≤ -100000000 → 10 ≤ a3) ∧ (100000000 ≤ a2 → 9 ≤ a3) ∧ (a2 ≤ -1000000000 → 11 ≤ a3) ∧ (1000000000 ≤ a2 → 10 ≤ a3)) (h1 : a4 = a0 + a3 ∨ a0 + a3 < -2147483648 ∨ 2147483648 ≤ a0 + a3) (h2 : a1 = a0 ∧ ((a5 : Nat) : Int) = ((a6 : Nat) : Int)) (h3 : 0 ≤ a1 ∧ a1 ≤ ((a5 : Nat) : Int) ∧ ((a5 : Nat) : Int) ≤ 100) : a0 ≤ a4 ∧ a4 ≤ a0 + 11 := by omega
abbrev rm_J5_append_c97b9 : Room := { frames := 4, cells := 1, slots := 100, locals := 104 }
set_option maxHeartbeats 4000000 in
set_option maxRecDepth 100000 in
theorem c_J5_append_c97b9 (l : Launch) (E : XE) (K : Nat → Nat) (F : Nat → Nat → Nat) (G : XG) (v n : Nat) (cnt : Int32) (p0 : Int32) (e1 : cnt.toInt ≤ 37) : Met l yJ5_append_c97b9 (xw yJ5_append_c97b9 cJ5_append_c97b9 4 (some (.object "java/lang/AbstractStringBuilder"))) rm_J5_append_c97b9 (va_Pc [.ref E.2.2.2.1, .int p0] (XPb E K F G v n cnt)) (XQ E (fun v (u : Nat × Nat × Int32) => v = .ref E.2.2.2.1 ∧ cnt.toInt ≤ u.2.2.toInt ∧ u.2.2.toInt ≤ cnt.toInt + 11) (fun u H => TWb E K F G u.1 u.2.1 u.2.2 H)) 1 100 (xA E) := by
  refine x_enter (by decide) (Nat.le_of_ble_eq_true rfl) ?_
  intro p e s m args below meth c Q S hr hlk hnm hQ hP ls hl
  obtain ⟨hz, hK, hT⟩ := hP
  obtain ⟨hx, hb, -, -, -⟩ := id S
  obtain ⟨H, hT, hS, hgo⟩ : ∃ H : Heap, TWb E K F G v n cnt H ∧ va_S (xA E) s.heap H [] ∧ H = s.heap := ⟨_, hT, va_S.rf, rfl⟩
  rw [← hgo]
  have hl : lv_has ls 4 [(0, .ref E.2.2.2.1), (1, .int p0)] := hl
  have e9 := hT.inv
  refine lv_aload_n hx hb dJ5_append_c97b9_0 rfl (lv_at hl 0 rfl) ?_
  refine sbg_count S hK hT kf_J5_79 dJ5_append_c97b9_1 ?_
  refine lv_istore_n (lv' := [(2, .int cnt), (0, .ref E.2.2.2.1), (1, .int p0)]) hx hb dJ5_append_c97b9_4 rfl hl (by decide) rfl (fun ls hl => ?_)
  refine lv_iload_n hx hb dJ5_append_c97b9_5 rfl (lv_at hl 0 rfl) ?_
  refine lv_iload_n hx hb dJ5_append_c97b9_6 rfl (lv_at hl 2 rfl) ?_
  refine x_clp (x_runS (As := [.int p0]) (rest := [.int cnt]) S (c_J6_stringSize_0f7a4 l E K F G H p0) ms_J6_stringSize_0f7a4 km_J5_245 rfl rfl ⟨Nat.le_of_ble_eq_true rfl, Nat.le_of_ble_eq_true rfl⟩ hK (fun _ => XPh.blind) (fun U hU hW => XPh.at hK hz hS hT.cl hU hW) rfl hl.1 (Nat.le_of_ble_eq_true rfl) dJ5_append_c97b9_7 ⟨Nat.le_of_ble_eq_true rfl, Nat.le_of_ble_eq_true rfl⟩) hS ?_
  rintro _ _ locs ⟨x1, rfl, t2⟩ hS
  have t2 : 1 ≤ x1.toInt ∧ x1.toInt ≤ 11 ∧ (p0.toInt < 0 → 2 ≤ x1.toInt) ∧ (p0.toInt ≤ -10 → 3 ≤ x1.toInt) ∧ (10 ≤ p0.toInt → 2 ≤ x1.toInt) ∧ (p0.toInt ≤ -100 → 4 ≤ x1.toInt) ∧ (100 ≤ p0.toInt → 3 ≤ x1.toInt) ∧ (p0.toInt ≤ -1000 → 5 ≤ x1.toInt) ∧ (1000 ≤ p0.toInt → 4 ≤ x1.toInt) ∧ (p0.toInt ≤ -10000 → 6 ≤ x1.toInt) ∧ (10000 ≤ p0.toInt → 5 ≤ x1.toInt) ∧ (p0.toInt ≤ -100000 → 7 ≤ x1.toInt) ∧ (100000 ≤ p0.toInt → 6 ≤ x1.toInt) ∧ (p0.toInt ≤ -1000000 → 8 ≤ x1.toInt) ∧ (1000000 ≤ p0.toInt → 7 ≤ x1.toInt) ∧ (p0.toInt ≤ -10000000 → 9 ≤ x1.toInt) ∧ (10000000 ≤ p0.toInt → 8 ≤ x1.toInt) ∧ (p0.toInt ≤ -100000000 → 10 ≤ x1.toInt) ∧ (100000000 ≤ p0.toInt → 9 ≤ x1.toInt) ∧ (p0.toInt ≤ -1000000000 → 11 ≤ x1.toInt) ∧ (1000000000 ≤ p0.toInt → 10 ≤ x1.toInt) := t2
  refine xi_iadd hx hb (rfl : Int32.toInt cnt = cnt.toInt) (rfl : Int32.toInt x1 = x1.toInt) dJ5_append_c97b9_10 (fun x3 t4 => ?_)
  refine lv_istore_n (lv' := [(3, .int x3), (2, .int cnt), (0, .ref E.2.2.2.1), (1, .int p0)]) hx hb dJ5_append_c97b9_11 rfl hl (by decide) rfl (fun ls hl => ?_)
  refine lv_aload_n hx hb dJ5_append_c97b9_12 rfl (lv_at hl 2 rfl) ?_
  refine lv_iload_n hx hb dJ5_append_c97b9_13 rfl (lv_at hl 0 rfl) ?_
  refine x_cv (x_runV (b := E.2.2.2.1) (As := [.int x3]) (rest := []) S (c_J5_ensureCapacityInternal_d00df l E K F G v n cnt x3 (z_J5_append_c97b9_1 cnt.toInt p0.toInt x1.toInt x3.toInt n e9 e1 t2 t4)) mw_J5_ensureCapacityInternal_d00df km_J5_100 rfl rfl ⟨Nat.le_of_ble_eq_true rfl, Nat.le_of_ble_eq_true rfl⟩ (rc_sb hK hT) hK (fun _ => XPb.blind) (fun U hU hW => XPb.at hK hz hS hT hU hW) rfl hl.1 (Nat.le_of_ble_eq_true rfl) dJ5_append_c97b9_14 ⟨Nat.le_of_ble_eq_true rfl, Nat.le_of_ble_eq_true rfl⟩) hS ?_
  rintro ⟨q5, n6⟩ H locs t7 hT hS
  have t7 : x3.toInt ≤ (((n6) : Nat) : Int) ∧ (((n) : Nat) : Int) ≤ (((n6) : Nat) : Int) := t7
  have hT : TWb E K F G q5 n6 cnt H := hT
  have v8 : 0 ≤ cnt.toInt ∧ cnt.toInt ≤ (((n6) : Nat) : Int) ∧ (((n6) : Nat) : Int) ≤ 100 := hT.inv
  refine lv_aload_n hx hb dJ5_append_c97b9_17 rfl (lv_at hl 2 rfl) ?_
  refine x_clp (x_runV (b := E.2.2.2.1) (As := []) (rest := []) S (c_J5_isLatin1_aae02 l E K F G q5 n6 cnt H ) mw_J5_isLatin1_aae02 km_J5_83 rfl rfl ⟨Nat.le_of_ble_eq_true rfl, Nat.le_of_ble_eq_true rfl⟩ (rc_sb hK hT) hK (fun _ => XPbh.blind) (fun U hU hW => XPbh.at hK hz hS hT hU hW) rfl hl.1 (Nat.le_of_ble_eq_true rfl) dJ5_append_c97b9_18 ⟨Nat.le_of_ble_eq_true rfl, Nat.le_of_ble_eq_true rfl⟩) hS ?_
  rintro _ _ locs ⟨_, rfl, rfl⟩ hS
  refine xi_zeq (tgt := 37) hx hb ((by decide) : Int32.toInt 1 = (1 : Int)) dJ5_append_c97b9_21 (by decide) (fun c => absurd c (show ¬ ((1 : Int) = 0) by decide)) (fun _ => ?_)
  refine lv_iload_n hx hb dJ5_append_c97b9_24 rfl (lv_at hl 3 rfl) ?_
  refine lv_iload_n hx hb dJ5_append_c97b9_25 rfl (lv_at hl 0 rfl) ?_
  refine lv_aload_n hx hb dJ5_append_c97b9_26 rfl (lv_at hl 2 rfl) ?_
  refine sbg_value S hK hT kf_J5_15 dJ5_append_c97b9_27 ?_
  refine x_cl0 (x_runS (As := [.int p0, .int x3, .ref q5]) (rest := []) S (c_J6_getChars_ba4f3 l E K F G q5 n6 cnt p0 x3 (z_J5_append_c97b9_2 cnt.toInt p0.toInt x1.toInt x3.toInt n6 n e9 t2 t4 t7) (z_J5_append_c97b9_3 cnt.toInt p0.toInt x1.toInt x3.toInt n e9 t2 t4) (z_J5_append_c97b9_4 cnt.toInt p0.toInt x1.toInt x3.toInt n e9 t2 t4) (z_J5_append_c97b9_5 cnt.toInt p0.toInt x1.toInt x3.toInt n e9 t2 t4) (z_J5_append_c97b9_6 cnt.toInt p0.toInt x1.toInt x3.toInt n e9 t2 t4) (z_J5_append_c97b9_7 cnt.toInt p0.toInt x1.toInt x3.toInt n e9 t2 t4) (z_J5_append_c97b9_8 cnt.toInt p0.toInt x1.toInt x3.toInt n e9 t2 t4) (z_J5_append_c97b9_9 cnt.toInt p0.toInt x1.toInt x3.toInt n e9 t2 t4) (z_J5_append_c97b9_10 cnt.toInt p0.toInt x1.toInt x3.toInt n e9 t2 t4) (z_J5_append_c97b9_11 cnt.toInt p0.toInt x1.toInt x3.toInt n e9 t2 t4) (z_J5_append_c97b9_12 cnt.toInt p0.toInt x1.toInt x3.toInt n e9 t2 t4)) ms_J6_getChars_ba4f3 km_J5_248 rfl rfl ⟨Nat.le_of_ble_eq_true rfl, Nat.le_of_ble_eq_true rfl⟩ hK (fun _ => XPb.blind) (fun U hU hW => XPb.at hK hz hS hT hU hW) rfl hl.1 (Nat.le_of_ble_eq_true rfl) dJ5_append_c97b9_30 ⟨Nat.le_of_ble_eq_true rfl, Nat.le_of_ble_eq_true rfl⟩) hS ?_
  rintro _ ⟨q9, n10, k11⟩ H locs ⟨⟨x13, rfl⟩, t12⟩ hT hS
  have t12 : k11.toInt = cnt.toInt ∧ (((n10) : Nat) : Int) = (((n6) : Nat) : Int) := t12
  have hT : TWb E K F G q9 n10 k11 H := hT
  have v14 : 0 ≤ k11.toInt ∧ k11.toInt ≤ (((n10) : Nat) : Int) ∧ (((n10) : Nat) : Int) ≤ 100 := hT.inv
  refine lv_pop hx hb dJ5_append_c97b9_33 rfl ?_
  refine lv_goto (tgt := 48) hx hb dJ5_append_c97b9_34 (by decide) ?_
  refine lv_aload_n hx hb dJ5_append_c97b9_48 rfl (lv_at hl 2 rfl) ?_
  refine lv_iload_n hx hb dJ5_append_c97b9_49 rfl (lv_at hl 0 rfl) ?_
  refine sbp_count (x := x3) S hK hT hS kf_J5_79 (z_J5_append_c97b9_13 cnt.toInt k11.toInt p0.toInt x1.toInt x3.toInt n10 n6 n e9 t2 t4 t7 t12) dJ5_append_c97b9_50 (fun H locs hT hS => ?_)
  refine lv_aload_n hx hb dJ5_append_c97b9_53 rfl (lv_at hl 2 rfl) ?_
  exact x_ra hx hb hr (by first | exact Or.inl ⟨_, rfl⟩ | exact Or.inr ⟨_, rfl⟩) (by first | exact Or.inl rfl | exact Or.inr ⟨_, rfl⟩) hlk hQ (Nat.le_of_ble_eq_true rfl) (Nat.le_of_ble_eq_true rfl) hS dJ5_append_c97b9_54 (q9, n10, x3) ⟨rfl, (z_J5_append_c97b9_14 cnt.toInt k11.toInt p0.toInt x1.toInt x3.toInt n10 n6 t2 t4 t12 v14)⟩ hT

theorem z_J5_append_3fe6f_1 (a0 : Int) (a1 : Int) (a2 : Nat) (h0 : 0 ≤ a0 ∧ a0 ≤ ((a2 : Nat) : Int) ∧ ((a2 : Nat) : Int) ≤ 100) (h1 : a0 ≤ 47) (h2 : a1 = a0 + (1 : Int) ∨ a0 + (1 : Int) < -2147483648 ∨ 2147483648 ≤ a0 + (1 : Int)) : 0 ≤ a1 ∧ a1 ≤ 48 := by omega
theorem z_J5_append_3fe6f_2 (a0 : Int) (a1 : Int) (h0 : a0 ≤ 255) (h1 : a0 ≤ 255 → a1 = 1) (h2 : a1 = 0) : (0 : Int) = 1 ∧ a1 = a1 := by omega
theorem z_J5_append_3fe6f_3 (a0 : Int) (a1 : Int) (a2 : Int) (a3 : Nat) (a4 : Nat) (h0 : 0 ≤ a0 ∧ a0 ≤ ((a4 : Nat) : Int) ∧ ((a4 : Nat) : Int) ≤ 100) (h1 : a1 = a0 + (1 : Int) ∨ a0 + (1 : Int) < -2147483648 ∨ 2147483648 ≤ a0 + (1 : Int)) (h2 : a1 ≤ ((a3 : Nat) : Int) ∧ ((a4 : Nat) : Int) ≤ ((a3 : Nat) : Int)) (h3 : a2 = a0 + (1 : Int) ∨ a0 + (1 : Int) < -2147483648 ∨ 2147483648 ≤ a0 + (1 : Int)) : 0 ≤ a2 ∧ a2 ≤ ((a3 : Nat) : Int) := by omega
theorem z_J5_append_3fe6f_4 (a0 : Int) (a1 : Int) (a2 : Nat) (a3 : Nat) (h0 : 0 ≤ a0 ∧ a0 ≤ ((a3 : Nat) : Int) ∧ ((a3 : Nat) : Int) ≤ 100) (h1 : a1 = a0 + (1 : Int) ∨ a0 + (1 : Int) < -2147483648 ∨ 2147483648 ≤ a0 + (1 : Int)) (h2 : a1 ≤ ((a2 : Nat) : Int) ∧ ((a3 : Nat) : Int) ≤ ((a2 : Nat) : Int)) : 0 ≤ a0 ∧ a0 < ((a2 : Nat) : Int) := by omega
theorem z_J5_append_3fe6f_5 (a0 : Int) (a1 : Int) (a2 : Nat) (h0 : 0 ≤ a0 ∧ a0 ≤ ((a2 : Nat) : Int) ∧ ((a2 : Nat) : Int) ≤ 100) (h1 : a1 = a0 + (1 : Int) ∨ a0 + (1 : Int) < -2147483648 ∨ 2147483648 ≤ a0 + (1 : Int)) : a1 = a0 + 1 := by omega
abbrev rm_J5_append_3fe6f : Room := { frames := 4, cells := 1, slots := 100, locals := 104 }
set_option maxHeartbeats 4000000 in
set_option maxRecDepth 100000 in
theorem c_J5_append_3fe6f (l : Launch) (E : XE) (K : Nat → Nat) (F : Nat → Nat → Nat) (G : XG) (v n : Nat) (cnt : Int32) (p0 : Int32) (e1 : cnt.toInt ≤ 47) (e2 : p0.toInt ≤ 255) : Met l yJ5_append_3fe6f (xw yJ5_append_3fe6f cJ5_append_3fe6f 2 (some (.object "java/lang/AbstractStringBuilder"))) rm_J5_append_3fe6f (va_Pc [.ref E.2.2.2.1, .int p0] (XPb E K F G v n cnt)) (XQ E (fun v (u : Nat × Nat × Int32) => v = .ref E.2.2.2.1 ∧ u.2.2.toInt = cnt.toInt + 1) (fun u H => TWb E K F G u.1 u.2.1 u.2.2 H)) 1 100 (xA E) := by
  refine x_enter (by decide) (Nat.le_of_ble_eq_true rfl) ?_
  intro p e s m args below meth c Q S hr hlk hnm hQ hP ls hl
  obtain ⟨hz, hK, hT⟩ := hP
  obtain ⟨hx, hb, -, -, -⟩ := id S
  obtain ⟨H, hT, hS, hgo⟩ : ∃ H : Heap, TWb E K F G v n cnt H ∧ va_S (xA E) s.heap H [] ∧ H = s.heap := ⟨_, hT, va_S.rf, rfl⟩
  rw [← hgo]
  have hl : lv_has ls 2 [(0, .ref E.2.2.2.1), (1, .int p0)] := hl
  have e9 := hT.inv
  refine lv_aload_n hx hb dJ5_append_3fe6f_0 rfl (lv_at hl 0 rfl) ?_
  refine lv_aload_n hx hb dJ5_append_3fe6f_1 rfl (lv_at hl 0 rfl) ?_
  refine sbg_count S hK hT kf_J5_79 dJ5_append_3fe6f_2 ?_
  refine lv_iconst (v := 1) hx hb dJ5_append_3fe6f_5 (by decide) ?_
  refine xi_iadd hx hb (rfl : Int32.toInt cnt = cnt.toInt) ((by decide) : Int32.toInt 1 = (1 : Int)) dJ5_append_3fe6f_6 (fun x1 t2 => ?_)
  refine x_cv (x_runV (b := E.2.2.2.1) (As := [.int x1]) (rest := []) S (c_J5_ensureCapacityInternal_d00df l E K F G v n cnt x1 (z_J5_append_3fe6f_1 cnt.toInt x1.toInt n e9 e1 t2)) mw_J5_ensureCapacityInternal_d00df km_J5_100 rfl rfl ⟨Nat.le_of_ble_eq_true rfl, Nat.le_of_ble_eq_true rfl⟩ (rc_sb hK hT) hK (fun _ => XPb.blind) (fun U hU hW => XPb.at hK hz hS hT hU hW) rfl hl.1 (Nat.le_of_ble_eq_true rfl) dJ5_append_3fe6f_7 ⟨Nat.le_of_ble_eq_true rfl, Nat.le_of_ble_eq_true rfl⟩) hS ?_
  rintro ⟨q3, n4⟩ H locs t5 hT hS
  have t5 : x1.toInt ≤ (((n4) : Nat) : Int) ∧ (((n) : Nat) : Int) ≤ (((n4) : Nat) : Int) := t5
  have hT : TWb E K F G q3 n4 cnt H := hT
  have v6 : 0 ≤ cnt.toInt ∧ cnt.toInt ≤ (((n4) : Nat) : Int) ∧ (((n4) : Nat) : Int) ≤ 100 := hT.inv
  refine lv_aload_n hx hb dJ5_append_3fe6f_10 rfl (lv_at hl 0 rfl) ?_
  refine x_clp (x_runV (b := E.2.2.2.1) (As := []) (rest := []) S (c_J5_isLatin1_aae02 l E K F G q3 n4 cnt H ) mw_J5_isLatin1_aae02 km_J5_83 rfl rfl ⟨Nat.le_of_ble_eq_true rfl, Nat.le_of_ble_eq_true rfl⟩ (rc_sb hK hT) hK (fun _ => XPbh.blind) (fun U hU hW => XPbh.at hK hz hS hT hU hW) rfl hl.1 (Nat.le_of_ble_eq_true rfl) dJ5_append_3fe6f_11 ⟨Nat.le_of_ble_eq_true rfl, Nat.le_of_ble_eq_true rfl⟩) hS ?_
  rintro _ _ locs ⟨_, rfl, rfl⟩ hS
  refine xi_zeq (tgt := 45) hx hb ((by decide) : Int32.toInt 1 = (1 : Int)) dJ5_append_3fe6f_14 (by decide) (fun c => absurd c (show ¬ ((1 : Int) = 0) by decide)) (fun _ => ?_)
  refine lv_iload_n hx hb dJ5_append_3fe6f_17 rfl (lv_at hl 1 rfl) ?_
  refine x_clp (x_runS (As := [.int p0]) (rest := []) S (c_J1_canEncode_fc78d l E K F G H p0) ms_J1_canEncode_fc78d km_J5_191 rfl rfl ⟨Nat.le_of_ble_eq_true rfl, Nat.le_of_ble_eq_true rfl⟩ hK (fun _ => XPh.blind) (fun U hU hW => XPh.at hK hz hS hT.cl hU hW) rfl hl.1 (Nat.le_of_ble_eq_true rfl) dJ5_append_3fe6f_18 ⟨Nat.le_of_ble_eq_true rfl, Nat.le_of_ble_eq_true rfl⟩) hS ?_
  rintro _ _ locs ⟨x7, rfl, b8, t9⟩ hS
  have t9 : p0.toInt ≤ 255 → x7.toInt = 1 := t9
  refine xi_zeq (tgt := 45) hx hb (rfl : Int32.toInt x7 = x7.toInt) dJ5_append_3fe6f_21 (by decide) (fun c10 => ?_) (fun c10 => ?_)
  · exact absurd ((z_J5_append_3fe6f_2 p0.toInt x7.toInt e2 t9 c10)).1 (by decide)
  · refine lv_aload_n hx hb dJ5_append_3fe6f_24 rfl (lv_at hl 0 rfl) ?_
    refine sbg_value S hK hT kf_J5_15 dJ5_append_3fe6f_25 ?_
    refine lv_aload_n hx hb dJ5_append_3fe6f_28 rfl (lv_at hl 0 rfl) ?_
    refine lv_dup hx hb dJ5_append_3fe6f_29 rfl ?_
    refine sbg_count S hK hT kf_J5_79 dJ5_append_3fe6f_30 ?_
    refine lv_dup_x1 hx hb dJ5_append_3fe6f_33 rfl rfl ?_
    refine lv_iconst (v := 1) hx hb dJ5_append_3fe6f_34 (by decide) ?_
    refine xi_iadd hx hb (rfl : Int32.toInt cnt = cnt.toInt) ((by decide) : Int32.toInt 1 = (1 : Int)) dJ5_append_3fe6f_35 (fun x11 t12 => ?_)
    refine sbp_count (x := x11) S hK hT hS kf_J5_79 (z_J5_append_3fe6f_3 cnt.toInt x1.toInt x11.toInt n4 n e9 t2 t5 t12) dJ5_append_3fe6f_36 (fun H locs hT hS => ?_)
    refine lv_iload_n hx hb dJ5_append_3fe6f_39 rfl (lv_at hl 1 rfl) ?_
    refine lv_i2b hx hb dJ5_append_3fe6f_40 rfl (lv_topi (fun x13 _ => ?_))
    refine sb_st S hK hT hS (z_J5_append_3fe6f_4 cnt.toInt x1.toInt n4 n e9 t2 t5) dJ5_append_3fe6f_41 (fun H locs hT hS => ?_)
    refine lv_goto (tgt := 75) hx hb dJ5_append_3fe6f_42 (by decide) ?_
    refine lv_aload_n hx hb dJ5_append_3fe6f_75 rfl (lv_at hl 0 rfl) ?_
    exact x_ra hx hb hr (by first | exact Or.inl ⟨_, rfl⟩ | exact Or.inr ⟨_, rfl⟩) (by first | exact Or.inl rfl | exact Or.inr ⟨_, rfl⟩) hlk hQ (Nat.le_of_ble_eq_true rfl) (Nat.le_of_ble_eq_true rfl) hS dJ5_append_3fe6f_76 (q3, n4, x11) ⟨rfl, (z_J5_append_3fe6f_5 cnt.toInt x11.toInt n e9 t12)⟩ hT

theorem z_J5_setLength_d00df_1 (a0 : Nat) : 0 ≤ (0 : Int) ∧ (0 : Int) ≤ ((a0 : Nat) : Int) := by omega
theorem z_J5_setLength_d00df_3 (a0 : Int) (a1 : Nat) (h0 : 0 ≤ a0 ∧ a0 ≤ ((a1 : Nat) : Int) ∧ ((a1 : Nat) : Int) ≤ 100) (h1 : ¬ ((0 : Int) ≤ a0)) : (0 : Int) = 1 ∧ a0 = a0 := by omega
abbrev rm_J5_setLength_d00df : Room := { frames := 4, cells := 1, slots := 100, locals := 104 }
set_option maxHeartbeats 4000000 in
set_option maxRecDepth 100000 in
theorem c_J5_setLength_d00df (l : Launch) (E : XE) (K : Nat → Nat) (F : Nat → Nat → Nat) (G : XG) (v n : Nat) (cnt : Int32)   : Met l yJ5_setLength_d00df (xw yJ5_setLength_d00df cJ5_setLength_d00df 2 none) rm_J5_setLength_d00df (va_Pc [.ref E.2.2.2.1, .int 0] (XPb E K F G v n cnt)) (XQv E (fun (u : Nat × Nat × Int32) => u.2.2.toInt = 0) (fun u H => TWb E K F G u.1 u.2.1 u.2.2 H)) 1 100 (xA E) := by
  refine x_enter (by decide) (Nat.le_of_ble_eq_true rfl) ?_
  intro p e s m args below meth c Q S hr hlk hnm hQ hP ls hl
  obtain ⟨hz, hK, hT⟩ := hP
  obtain ⟨hx, hb, -, -, -⟩ := id S
  obtain ⟨H, hT, hS, hgo⟩ : ∃ H : Heap, TWb E K F G v n cnt H ∧ va_S (xA E) s.heap H [] ∧ H = s.heap := ⟨_, hT, va_S.rf, rfl⟩
  rw [← hgo]
  have hl : lv_has ls 2 [(0, .ref E.2.2.2.1), (1, .int 0)] := hl
  have e9 := hT.inv
  refine lv_iload_n hx hb dJ5_setLength_d00df_0 rfl (lv_at hl 1 rfl) ?_
  refine xi_zge (tgt := 13) hx hb ((by decide) : Int32.toInt 0 = (0 : Int)) dJ5_setLength_d00df_1 (by decide) (fun _ => ?_) (fun c => absurd (show 0 ≤ (0 : Int) by decide) c)
  refine lv_aload_n hx hb dJ5_setLength_d00df_13 rfl (lv_at hl 0 rfl) ?_
  refine lv_iload_n hx hb dJ5_setLength_d00df_14 rfl (lv_at hl 1 rfl) ?_
  refine x_cv (x_runV (b := E.2.2.2.1) (As := [.int 0]) (rest := []) S (c_J5_ensureCapacityInternal_d00df l E K F G v n cnt 0 (by decide)) mw_J5_ensureCapacityInternal_d00df km_J5_100 rfl rfl ⟨Nat.le_of_ble_eq_true rfl, Nat.le_of_ble_eq_true rfl⟩ (rc_sb hK hT) hK (fun _ => XPb.blind) (fun U hU hW => XPb.at hK hz hS hT hU hW) rfl hl.1 (Nat.le_of_ble_eq_true rfl) dJ5_setLength_d00df_15 ⟨Nat.le_of_ble_eq_true rfl, Nat.le_of_ble_eq_true rfl⟩) hS ?_
  rintro ⟨q1, n2⟩ H locs t3 hT hS
  have t3 : (0 : Int) ≤ (((n2) : Nat) : Int) ∧ (((n) : Nat) : Int) ≤ (((n2) : Nat) : Int) := t3
  have hT : TWb E K F G q1 n2 cnt H := hT
  have v4 : 0 ≤ cnt.toInt ∧ cnt.toInt ≤ (((n2) : Nat) : Int) ∧ (((n2) : Nat) : Int) ≤ 100 := hT.inv
  refine lv_aload_n hx hb dJ5_setLength_d00df_18 rfl (lv_at hl 0 rfl) ?_
  refine sbg_count S hK hT kf_J5_79 dJ5_setLength_d00df_19 ?_
  refine lv_iload_n hx hb dJ5_setLength_d00df_22 rfl (lv_at hl 1 rfl) ?_
  refine xi_cge (tgt := 63) hx hb (rfl : Int32.toInt cnt = cnt.toInt) ((by decide) : Int32.toInt 0 = (0 : Int)) dJ5_setLength_d00df_23 (by decide) (fun c5 => ?_) (fun c5 => ?_)
  · refine lv_aload_n hx hb dJ5_setLength_d00df_63 rfl (lv_at hl 0 rfl) ?_
    refine sbg_count S hK hT kf_J5_79 dJ5_setLength_d00df_64 ?_
    refine lv_iload_n hx hb dJ5_setLength_d00df_67 rfl (lv_at hl 1 rfl) ?_
    refine xi_cle (tgt := 76) hx hb (rfl : Int32.toInt cnt = cnt.toInt) ((by decide) : Int32.toInt 0 = (0 : Int)) dJ5_setLength_d00df_68 (by decide) (fun c6 => ?_) (fun c6 => ?_)
    · refine lv_aload_n hx hb dJ5_setLength_d00df_76 rfl (lv_at hl 0 rfl) ?_
      refine lv_iload_n hx hb dJ5_setLength_d00df_77 rfl (lv_at hl 1 rfl) ?_
      refine sbp_count (x := 0) S hK hT hS kf_J5_79 (by rw [show Int32.toInt 0 = (0 : Int) from by decide]; exact (z_J5_setLength_d00df_1 n2)) dJ5_setLength_d00df_78 (fun H locs hT hS => ?_)
      exact x_rv hx hb hr hlk hQ (Nat.le_of_ble_eq_true rfl) (Nat.le_of_ble_eq_true rfl) hS dJ5_setLength_d00df_81 (q1, n2, 0) (show (0 : Int) = 0 by decide) hT
    · refine lv_aload_n hx hb dJ5_setLength_d00df_71 rfl (lv_at hl 0 rfl) ?_
      refine lv_iconst (v := 1) hx hb dJ5_setLength_d00df_72 (by decide) ?_
      refine sbp_maybe (x := 1) S hK hT hS kf_J5_73 (Or.inr rfl) dJ5_setLength_d00df_73 (fun H locs hT hS => ?_)
      refine lv_aload_n hx hb dJ5_setLength_d00df_76 rfl (lv_at hl 0 rfl) ?_
      refine lv_iload_n hx hb dJ5_setLength_d00df_77 rfl (lv_at hl 1 rfl) ?_
      refine sbp_count (x := 0) S hK hT hS kf_J5_79 (by rw [show Int32.toInt 0 = (0 : Int) from by decide]; exact (z_J5_setLength_d00df_1 n2)) dJ5_setLength_d00df_78 (fun H locs hT hS => ?_)
      exact x_rv hx hb hr hlk hQ (Nat.le_of_ble_eq_true rfl) (Nat.le_of_ble_eq_true rfl) hS dJ5_setLength_d00df_81 (q1, n2, 0) (show (0 : Int) = 0 by decide) hT
  · exact absurd ((z_J5_setLength_d00df_3 cnt.toInt n e9 c5)).1 (by decide)
