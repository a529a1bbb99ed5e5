
theorem z_J0_getBytes_840e7_1 (a0 : Int) (a1 : Nat) (a2 : Nat) (h0 : 0 ≤ a0 ∧ a0 + ((a2 : Nat) : Int) ≤ ((a1 : Nat) : Int)) : 0 ≤ a0 := by omega
theorem z_J0_getBytes_840e7_2 (a0 : Int) (a1 : Int) (a2 : Nat) (a3 : Nat) (h0 : 0 ≤ a0 ∧ a0 + ((a3 : Nat) : Int) ≤ ((a2 : Nat) : Int)) (h1 : a1 = ((a3 : Nat) : Int)) : 0 ≤ a1 ∧ a1 ≤ ((a3 : Nat) : Int) ∧ a0 + a1 ≤ ((a2 : Nat) : Int) := by omega
theorem z_J0_getBytes_840e7_3 (a0 : Int) (a1 : Nat) : a0 = a0 ∧ ((a1 : Nat) : Int) = ((a1 : Nat) : Int) := by omega
abbrev rm_J0_getBytes_840e7 : Room := { frames := 1, cells := 0, slots := 0, locals := 60 }
set_option maxHeartbeats 4000000 in
set_option maxRecDepth 100000 in
theorem c_J0_getBytes_840e7 (l : Launch) (E : XE) (K : Nat → Nat) (F : Nat → Nat → Nat) (G : XG) (v n : Nat) (cnt : Int32) (i : Nat) (p1 : Int32) (hi : i < 13) (e1 : 0 ≤ p1.toInt ∧ p1.toInt + (((xlen.getD i 0) : Nat) : Int) ≤ (((n) : Nat) : Int)) : Met l yJ0_getBytes_840e7 (xw yJ0_getBytes_840e7 cJ0_getBytes_840e7 4 none) rm_J0_getBytes_840e7 (va_Pc [.ref (E.2.2.2.2.1 i), .ref v, .int p1, .int 0] (XPb E K F G v n cnt)) (XQv E (fun (u : Nat × Nat × Int32) => u.2.2.toInt = cnt.toInt ∧ ((u.2.1 : Nat) : Int) = ((n : Nat) : Int)) (fun u H => TWb E K F G u.1 u.2.1 u.2.2 H)) 0 0 (xA E) := by
  refine x_enter (by decide) (Nat.le_of_ble_eq_true rfl) ?_
  intro p e s m args below meth c Q S hr hlk hnm hQ hP ls hl
  obtain ⟨hz, hK, hT⟩ := hP
  obtain ⟨hx, hb, -, -, -⟩ := id S
  obtain ⟨H, hT, hS, hgo⟩ : ∃ H : Heap, TWb E K F G v n cnt H ∧ va_S (xA E) s.heap H [] ∧ H = s.heap := ⟨_, hT, va_S.rf, rfl⟩
  rw [← hgo]
  have hl : lv_has ls 4 [(0, .ref (E.2.2.2.2.1 i)), (1, .ref v), (2, .int p1), (3, .int 0)] := hl
  have e9 := hT.inv
  refine lv_aload_n hx hb dJ0_getBytes_840e7_0 rfl (lv_at hl 0 rfl) ?_
  refine x_clp (x_runV (b := (E.2.2.2.2.1 i)) (As := []) (rest := []) S (c_J0_coder_7d493 l E K F G H i hi) mv_J0_coder_7d493 km_J0_335 rfl rfl ⟨Nat.le_of_ble_eq_true rfl, Nat.le_of_ble_eq_true rfl⟩ (vk_recv hK.2.2.2.1 hi hS) hK (fun _ => XPh.blind) (fun U hU hW => XPh.at hK hz hS hT.cl hU hW) rfl hl.1 (Nat.le_of_ble_eq_true rfl) dJ0_getBytes_840e7_1 ⟨Nat.le_of_ble_eq_true rfl, Nat.le_of_ble_eq_true rfl⟩) hS ?_
  rintro _ _ locs ⟨_, rfl, rfl⟩ hS
  refine lv_iload_n hx hb dJ0_getBytes_840e7_4 rfl (lv_at hl 3 rfl) ?_
  refine xi_cne (tgt := 28) hx hb ((by decide) : Int32.toInt 0 = (0 : Int)) ((by decide) : Int32.toInt 0 = (0 : Int)) dJ0_getBytes_840e7_5 (by decide) (fun c => absurd c (show ¬ ((0 : Int) ≠ (0 : Int)) by decide)) (fun _ => ?_)
  refine lv_aload_n hx hb dJ0_getBytes_840e7_8 rfl (lv_at hl 0 rfl) ?_
  refine vk_getf hx hb (hK.2.2.2.1.1 i hi).2.2.1 hS S.2.2.2.1 (S.2.2.2.2 _ (List.mem_cons_of_mem _ kf_J0_9)) (fun _ h => h) dJ0_getBytes_840e7_9 ?_
  refine lv_iconst (v := 0) hx hb dJ0_getBytes_840e7_12 (by decide) ?_
  refine lv_aload_n hx hb dJ0_getBytes_840e7_13 rfl (lv_at hl 1 rfl) ?_
  refine lv_iload_n hx hb dJ0_getBytes_840e7_14 rfl (lv_at hl 2 rfl) ?_
  refine lv_iload_n hx hb dJ0_getBytes_840e7_15 rfl (lv_at hl 3 rfl) ?_
  refine lv_ishl hx hb dJ0_getBytes_840e7_16 ?_
  rw [sb_shl0]
  refine lv_aload_n hx hb dJ0_getBytes_840e7_17 rfl (lv_at hl 0 rfl) ?_
  refine vk_getf hx hb (hK.2.2.2.1.1 i hi).2.2.1 hS S.2.2.2.1 (S.2.2.2.2 _ (List.mem_cons_of_mem _ kf_J0_9)) (fun _ h => h) dJ0_getBytes_840e7_18 ?_
  refine va_tlen hx hb (hK.2.2.2.1.1 i hi).2.2.2 hS rfl dJ0_getBytes_840e7_21 (lv_topi (fun x1 t2 => ?_))
  have t2 : x1.toInt = ((xlen.getD i 0 : Nat) : Int) := by rw [t2]; exact nI_toInt (xlen_lt hi)
  refine st_copy S hK hT hS kac km_J0_212 hi (z_J0_getBytes_840e7_1 p1.toInt n (xlen.getD i 0) e1) (z_J0_getBytes_840e7_2 p1.toInt x1.toInt n (xlen.getD i 0) e1 t2) hl.1 (Nat.le_of_ble_eq_true rfl) (Nat.le_of_ble_eq_true rfl) dJ0_getBytes_840e7_22 (fun H locs hT hS => ?_)
  refine lv_goto (tgt := 43) hx hb dJ0_getBytes_840e7_25 (by decide) ?_
  exact x_rv hx hb hr hlk hQ (Nat.le_of_ble_eq_true rfl) (Nat.le_of_ble_eq_true rfl) hS dJ0_getBytes_840e7_43 (v, n, cnt) (z_J0_getBytes_840e7_3 cnt.toInt n) hT

abbrev rm_J5_inflateIfNeededFor_a7421 : Room := { frames := 1, cells := 0, slots := 0, locals := 20 }
set_option maxHeartbeats 4000000 in
set_option maxRecDepth 100000 in
theorem c_J5_inflateIfNeededFor_a7421 (l : Launch) (E : XE) (K : Nat → Nat) (F : Nat → Nat → Nat) (G : XG) (v n : Nat) (cnt : Int32) (i0 : Nat) (hi0 : i0 < 13) : Met l yJ5_inflateIfNeededFor_a7421 (xw yJ5_inflateIfNeededFor_a7421 cJ5_inflateIfNeededFor_a7421 2 none) rm_J5_inflateIfNeededFor_a7421 (va_Pc [.ref E.2.2.2.1, .ref (E.2.2.2.2.1 i0)] (XPb E K F G v n cnt)) (XQv E (fun (u : Nat × Nat × Int32) => u.2.2.toInt = cnt.toInt ∧ ((u.2.1 : Nat) : Int) = ((n : Nat) : Int)) (fun u H => TWb E K F G u.1 u.2.1 u.2.2 H)) 0 0 (xA E) := by
  refine x_enter (by decide) (Nat.le_of_ble_eq_true rfl) ?_
  intro p e s m args below meth c Q S hr hlk hnm hQ hP ls hl
  obtain ⟨hz, hK, hT⟩ := hP
  obtain ⟨hx, hb, -, -, -⟩ := id S
  obtain ⟨H, hT, hS, hgo⟩ : ∃ H : Heap, TWb E K F G v n cnt H ∧ va_S (xA E) s.heap H [] ∧ H = s.heap := ⟨_, hT, va_S.rf, rfl⟩
  rw [← hgo]
  have hl : lv_has ls 2 [(0, .ref E.2.2.2.1), (1, .ref (E.2.2.2.2.1 i0))] := hl
  have e9 := hT.inv
  refine va_gets hx hb hK.2.2.2.2.1 hS S.2.2.2.1 (S.2.2.2.2 _ (List.mem_cons_of_mem _ kf_J5_18)) (fun _ h => h) dJ5_inflateIfNeededFor_a7421_0 ?_
  refine xi_zeq (tgt := 21) hx hb ((by decide) : Int32.toInt 1 = (1 : Int)) dJ5_inflateIfNeededFor_a7421_3 (by decide) (fun c => absurd c (show ¬ ((1 : Int) = 0) by decide)) (fun _ => ?_)
  refine lv_aload_n hx hb dJ5_inflateIfNeededFor_a7421_6 rfl (lv_at hl 0 rfl) ?_
  refine sbg_coder S hK hT kf_J5_22 dJ5_inflateIfNeededFor_a7421_7 ?_
  refine lv_aload_n hx hb dJ5_inflateIfNeededFor_a7421_10 rfl (lv_at hl 1 rfl) ?_
  refine x_clp (x_runV (b := (E.2.2.2.2.1 i0)) (As := []) (rest := [.int 0]) S (c_J0_coder_7d493 l E K F G H i0 hi0) mv_J0_coder_7d493 km_J5_40 rfl rfl ⟨Nat.le_of_ble_eq_true rfl, Nat.le_of_ble_eq_true rfl⟩ (vk_recv hK.2.2.2.1 hi0 hS) hK (fun _ => XPh.blind) (fun U hU hW => XPh.at hK hz hS hT.cl hU hW) rfl hl.1 (Nat.le_of_ble_eq_true rfl) dJ5_inflateIfNeededFor_a7421_11 ⟨Nat.le_of_ble_eq_true rfl, Nat.le_of_ble_eq_true rfl⟩) hS ?_
  rintro _ _ locs ⟨_, rfl, rfl⟩ hS
  refine xi_ceq (tgt := 21) hx hb ((by decide) : Int32.toInt 0 = (0 : Int)) ((by decide) : Int32.toInt 0 = (0 : Int)) dJ5_inflateIfNeededFor_a7421_14 (by decide) (fun _ => ?_) (fun c => absurd (show (0 : Int) = (0 : Int) by decide) c)
  exact x_rv hx hb hr hlk hQ (Nat.le_of_ble_eq_true rfl) (Nat.le_of_ble_eq_true rfl) hS dJ5_inflateIfNeededFor_a7421_21 (v, n, cnt) (z_J0_getBytes_840e7_3 cnt.toInt n) hT

theorem z_J5_putStringAt_47b60_1 (a0 : Int) (a1 : Int) (a2 : Int) (a3 : Nat) (a4 : Nat) (a5 : Nat) (h0 : 0 ≤ a2 ∧ a2 + ((a5 : Nat) : Int) ≤ ((a4 : Nat) : Int)) (h1 : a1 = a0 ∧ ((a3 : Nat) : Int) = ((a4 : Nat) : Int)) : 0 ≤ a2 ∧ a2 + ((a5 : Nat) : Int) ≤ ((a3 : Nat) : Int) := by omega
theorem z_J5_putStringAt_47b60_2 (a0 : Int) (a1 : Int) (a2 : Int) (a3 : Nat) (a4 : Nat) (a5 : Nat) (h0 : a1 = a0 ∧ ((a3 : Nat) : Int) = ((a5 : Nat) : Int)) (h1 : a2 = a1 ∧ ((a4 : Nat) : Int) = ((a3 : Nat) : Int)) : a2 = a0 ∧ ((a4 : Nat) : Int) = ((a5 : Nat) : Int) := by omega
abbrev rm_J5_putStringAt_47b60 : Room := { frames := 2, cells := 0, slots := 0, locals := 83 }
set_option maxHeartbeats 4000000 in
set_option maxRecDepth 100000 in
theorem c_J5_putStringAt_47b60 (l : Launch) (E : XE) (K : Nat → Nat) (F : Nat → Nat → Nat) (G : XG) (v n : Nat) (cnt : Int32) (p0 : Int32) (i1 : Nat) (hi1 : i1 < 13) (e1 : 0 ≤ p0.toInt ∧ p0.toInt + (((xlen.getD i1 0) : Nat) : Int) ≤ (((n) : Nat) : Int)) : Met l yJ5_putStringAt_47b60 (xw yJ5_putStringAt_47b60 cJ5_putStringAt_47b60 3 none) rm_J5_putStringAt_47b60 (va_Pc [.ref E.2.2.2.1, .int p0, .ref (E.2.2.2.2.1 i1)] (XPb E K F G v n cnt)) (XQv E (fun (u : Nat × Nat × Int32) => u.2.2.toInt = cnt.toInt ∧ ((u.2.1 : Nat) : Int) = ((n : Nat) : Int)) (fun u H => TWb E K F G u.1 u.2.1 u.2.2 H)) 0 0 (xA E) := by
  refine x_enter (by decide) (Nat.le_of_ble_eq_true rfl) ?_
  intro p e s m args below meth c Q S hr hlk hnm hQ hP ls hl
  obtain ⟨hz, hK, hT⟩ := hP
  obtain ⟨hx, hb, -, -, -⟩ := id S
  obtain ⟨H, hT, hS, hgo⟩ : ∃ H : Heap, TWb E K F G v n cnt H ∧ va_S (xA E) s.heap H [] ∧ H = s.heap := ⟨_, hT, va_S.rf, rfl⟩
  rw [← hgo]
  have hl : lv_has ls 3 [(0, .ref E.2.2.2.1), (1, .int p0), (2, .ref (E.2.2.2.2.1 i1))] := hl
  have e9 := hT.inv
  refine lv_aload_n hx hb dJ5_putStringAt_47b60_0 rfl (lv_at hl 0 rfl) ?_
  refine lv_aload_n hx hb dJ5_putStringAt_47b60_1 rfl (lv_at hl 2 rfl) ?_
  refine x_cv0 (x_runV (b := E.2.2.2.1) (As := [.ref (E.2.2.2.2.1 i1)]) (rest := []) S (c_J5_inflateIfNeededFor_a7421 l E K F G v n cnt i1 hi1) mw_J5_inflateIfNeededFor_a7421 km_J5_397 rfl rfl ⟨Nat.le_of_ble_eq_true rfl, Nat.le_of_ble_eq_true rfl⟩ (rc_sb hK hT) hK (fun _ => XPb.blind) (fun U hU hW => XPb.at hK hz hS hT hU hW) rfl hl.1 (Nat.le_of_ble_eq_true rfl) dJ5_putStringAt_47b60_2 ⟨Nat.le_of_ble_eq_true rfl, Nat.le_of_ble_eq_true rfl⟩) hS ?_
  rintro ⟨q1, n2, k3⟩ H locs t4 hT hS
  have t4 : k3.toInt = cnt.toInt ∧ (((n2) : Nat) : Int) = (((n) : Nat) : Int) := t4
  have hT : TWb E K F G q1 n2 k3 H := hT
  have v6 : 0 ≤ k3.toInt ∧ k3.toInt ≤ (((n2) : Nat) : Int) ∧ (((n2) : Nat) : Int) ≤ 100 := hT.inv
  refine lv_aload_n hx hb dJ5_putStringAt_47b60_5 rfl (lv_at hl 2 rfl) ?_
  refine lv_aload_n hx hb dJ5_putStringAt_47b60_6 rfl (lv_at hl 0 rfl) ?_
  refine sbg_value S hK hT kf_J5_15 dJ5_putStringAt_47b60_7 ?_
  refine lv_iload_n hx hb dJ5_putStringAt_47b60_10 rfl (lv_at hl 1 rfl) ?_
  refine lv_aload_n hx hb dJ5_putStringAt_47b60_11 rfl (lv_at hl 0 rfl) ?_
  refine sbg_coder S hK hT kf_J5_22 dJ5_putStringAt_47b60_12 ?_
  refine x_cv0 (x_runV (b := (E.2.2.2.2.1 i1)) (As := [.ref q1, .int p0, .int 0]) (rest := []) S (c_J0_getBytes_840e7 l E K F G q1 n2 k3 i1 p0 hi1 (z_J5_putStringAt_47b60_1 cnt.toInt k3.toInt p0.toInt n2 n (xlen.getD i1 0) e1 t4)) mv_J0_getBytes_840e7 km_J5_399 rfl rfl ⟨Nat.le_of_ble_eq_true rfl, Nat.le_of_ble_eq_true rfl⟩ (vk_recv hK.2.2.2.1 hi1 hS) hK (fun _ => XPb.blind) (fun U hU hW => XPb.at hK hz hS hT hU hW) rfl hl.1 (Nat.le_of_ble_eq_true rfl) dJ5_putStringAt_47b60_15 ⟨Nat.le_of_ble_eq_true rfl, Nat.le_of_ble_eq_true rfl⟩) hS ?_
  rintro ⟨q7, n8, k9⟩ H locs t10 hT hS
  have t10 : k9.toInt = k3.toInt ∧ (((n8) : Nat) : Int) = (((n2) : Nat) : Int) := t10
  have hT : TWb E K F G q7 n8 k9 H := hT
  have v12 : 0 ≤ k9.toInt ∧ k9.toInt ≤ (((n8) : Nat) : Int) ∧ (((n8) : Nat) : Int) ≤ 100 := hT.inv
  exact x_rv hx hb hr hlk hQ (Nat.le_of_ble_eq_true rfl) (Nat.le_of_ble_eq_true rfl) hS dJ5_putStringAt_47b60_18 (q7, n8, k9) (z_J5_putStringAt_47b60_2 cnt.toInt k3.toInt k9.toInt n2 n8 n t4 t10) hT

theorem z_J5_append_cf1ce_1 (a0 : Int) (a1 : Int) (a2 : Int) (a3 : Nat) (a4 : Nat) (h0 : 0 ≤ a0 ∧ a0 ≤ ((a3 : Nat) : Int) ∧ ((a3 : Nat) : Int) ≤ 100) (h1 : a0 + ((a4 : Nat) : Int) ≤ 48) (h2 : a1 = ((a4 : Nat) : Int)) (h3 : a2 = a0 + a1 ∨ a0 + a1 < -2147483648 ∨ 2147483648 ≤ a0 + a1) : 0 ≤ a2 ∧ a2 ≤ 48 := by omega
theorem z_J5_append_cf1ce_2 (a0 : Int) (a1 : Int) (a2 : Int) (a3 : Nat) (a4 : Nat) (a5 : Nat) (h0 : 0 ≤ a0 ∧ a0 ≤ ((a4 : Nat) : Int) ∧ ((a4 : Nat) : Int) ≤ 100) (h1 : a0 + ((a5 : Nat) : Int) ≤ 48) (h2 : a1 = ((a5 : Nat) : Int)) (h3 : a2 = a0 + a1 ∨ a0 + a1 < -2147483648 ∨ 2147483648 ≤ a0 + a1) (h4 : a2 ≤ ((a3 : Nat) : Int) ∧ ((a4 : Nat) : Int) ≤ ((a3 : Nat) : Int)) : 0 ≤ a0 ∧ a0 + ((a5 : Nat) : Int) ≤ ((a3 : Nat) : Int) := by omega
theorem z_J5_append_cf1ce_3 (a0 : Int) (a1 : Int) (a2 : Int) (a3 : Int) (a4 : Int) (a5 : Nat) (a6 : Nat) (a7 : Nat) (a8 : Nat) (h0 : 0 ≤ a0 ∧ a0 ≤ ((a7 : Nat) : Int) ∧ ((a7 : Nat) : Int) ≤ 100) (h1 : a0 + ((a8 : Nat) : Int) ≤ 48) (h2 : a2 = ((a8 : Nat) : Int)) (h3 : a4 = a0 + a2 ∨ a0 + a2 < -2147483648 ∨ 2147483648 ≤ a0 + a2) (h4 : a4 ≤ ((a6 : Nat) : Int) ∧ ((a7 : Nat) : Int) ≤ ((a6 : Nat) : Int)) (h5 : a1 = a0 ∧ ((a5 : Nat) : Int) = ((a6 : Nat) : Int)) (h6 : a3 = a1 + a2 ∨ a1 + a2 < -2147483648 ∨ 2147483648 ≤ a1 + a2) : 0 ≤ a3 ∧ a3 ≤ ((a5 : Nat) : Int) := by omega
theorem z_J5_append_cf1ce_4 (a0 : Int) (a1 : Int) (a2 : Int) (a3 : Int) (a4 : Nat) (a5 : Nat) (a6 : Nat) (a7 : Nat) (h0 : 0 ≤ a0 ∧ a0 ≤ ((a6 : Nat) : Int) ∧ ((a6 : Nat) : Int) ≤ 100) (h1 : a0 + ((a7 : Nat) : Int) ≤ 48) (h2 : a2 = ((a7 : Nat) : Int)) (h3 : a1 = a0 ∧ ((a4 : Nat) : Int) = ((a5 : Nat) : Int)) (h4 : a3 = a1 + a2 ∨ a1 + a2 < -2147483648 ∨ 2147483648 ≤ a1 + a2) : a3 = a0 + ((a7 : Nat) : Int) := by omega
abbrev rm_J5_append_cf1ce : Room := { frames := 4, cells := 1, slots := 100, locals := 105 }
set_option maxHeartbeats 4000000 in
set_option maxRecDepth 100000 in
theorem c_J5_append_cf1ce (l : Launch) (E : XE) (K : Nat → Nat) (F : Nat → Nat → Nat) (G : XG) (v n : Nat) (cnt : Int32) (i0 : Nat) (hi0 : i0 < 13) (e1 : cnt.toInt + (((xlen.getD i0 0) : Nat) : Int) ≤ 48) : Met l yJ5_append_cf1ce (xw yJ5_append_cf1ce cJ5_append_cf1ce 3 (some (.object "java/lang/AbstractStringBuilder"))) rm_J5_append_cf1ce (va_Pc [.ref E.2.2.2.1, .ref (E.2.2.2.2.1 i0)] (XPb E K F G v n cnt)) (XQ E (fun v (u : Nat × Nat × Int32) => v = .ref E.2.2.2.1 ∧ u.2.2.toInt = cnt.toInt + ((xlen.getD i0 0 : Nat) : Int)) (fun u H => TWb E K F G u.1 u.2.1 u.2.2 H)) 1 100 (xA E) := by
  refine x_enter (by decide) (Nat.le_of_ble_eq_true rfl) ?_
  intro p e s m args below meth c Q S hr hlk hnm hQ hP ls hl
  obtain ⟨hz, hK, hT⟩ := hP
  obtain ⟨hx, hb, -, -, -⟩ := id S
  obtain ⟨H, hT, hS, hgo⟩ : ∃ H : Heap, TWb E K F G v n cnt H ∧ va_S (xA E) s.heap H [] ∧ H = s.heap := ⟨_, hT, va_S.rf, rfl⟩
  rw [← hgo]
  have hl : lv_has ls 3 [(0, .ref E.2.2.2.1), (1, .ref (E.2.2.2.2.1 i0))] := hl
  have e9 := hT.inv
  refine lv_aload_n hx hb dJ5_append_cf1ce_0 rfl (lv_at hl 1 rfl) ?_
  refine lv_ifnonnull (tgt := 9) hx hb dJ5_append_cf1ce_1 (by decide) ?_
  refine lv_aload_n hx hb dJ5_append_cf1ce_9 rfl (lv_at hl 1 rfl) ?_
  refine x_clp (x_runV (b := (E.2.2.2.2.1 i0)) (As := []) (rest := []) S (c_J0_length_8abf5 l E K F G H i0 hi0) mv_J0_length_8abf5 km_J5_32 rfl rfl ⟨Nat.le_of_ble_eq_true rfl, Nat.le_of_ble_eq_true rfl⟩ (vk_recv hK.2.2.2.1 hi0 hS) hK (fun _ => XPh.blind) (fun U hU hW => XPh.at hK hz hS hT.cl hU hW) rfl hl.1 (Nat.le_of_ble_eq_true rfl) dJ5_append_cf1ce_10 ⟨Nat.le_of_ble_eq_true rfl, Nat.le_of_ble_eq_true rfl⟩) hS ?_
  rintro _ _ locs ⟨x1, rfl, t2⟩ hS
  refine lv_istore_n (lv' := [(2, .int x1), (0, .ref E.2.2.2.1), (1, .ref (E.2.2.2.2.1 i0))]) hx hb dJ5_append_cf1ce_13 rfl hl (by decide) rfl (fun ls hl => ?_)
  refine lv_aload_n hx hb dJ5_append_cf1ce_14 rfl (lv_at hl 1 rfl) ?_
  refine lv_aload_n hx hb dJ5_append_cf1ce_15 rfl (lv_at hl 1 rfl) ?_
  refine sbg_count S hK hT kf_J5_79 dJ5_append_cf1ce_16 ?_
  refine lv_iload_n hx hb dJ5_append_cf1ce_19 rfl (lv_at hl 0 rfl) ?_
  refine xi_iadd hx hb (rfl : Int32.toInt cnt = cnt.toInt) (rfl : Int32.toInt x1 = x1.toInt) dJ5_append_cf1ce_20 (fun x3 t4 => ?_)
  refine x_cv (x_runV (b := E.2.2.2.1) (As := [.int x3]) (rest := []) S (c_J5_ensureCapacityInternal_d00df l E K F G v n cnt x3 (z_J5_append_cf1ce_1 cnt.toInt x1.toInt x3.toInt n (xlen.getD i0 0) e9 e1 t2 t4)) mw_J5_ensureCapacityInternal_d00df km_J5_100 rfl rfl ⟨Nat.le_of_ble_eq_true rfl, Nat.le_of_ble_eq_true rfl⟩ (rc_sb hK hT) hK (fun _ => XPb.blind) (fun U hU hW => XPb.at hK hz hS hT hU hW) rfl hl.1 (Nat.le_of_ble_eq_true rfl) dJ5_append_cf1ce_21 ⟨Nat.le_of_ble_eq_true rfl, Nat.le_of_ble_eq_true rfl⟩) hS ?_
  rintro ⟨q5, n6⟩ H locs t7 hT hS
  have t7 : x3.toInt ≤ (((n6) : Nat) : Int) ∧ (((n) : Nat) : Int) ≤ (((n6) : Nat) : Int) := t7
  have hT : TWb E K F G q5 n6 cnt H := hT
  have v8 : 0 ≤ cnt.toInt ∧ cnt.toInt ≤ (((n6) : Nat) : Int) ∧ (((n6) : Nat) : Int) ≤ 100 := hT.inv
  refine lv_aload_n hx hb dJ5_append_cf1ce_24 rfl (lv_at hl 1 rfl) ?_
  refine lv_aload_n hx hb dJ5_append_cf1ce_25 rfl (lv_at hl 1 rfl) ?_
  refine sbg_count S hK hT kf_J5_79 dJ5_append_cf1ce_26 ?_
  refine lv_aload_n hx hb dJ5_append_cf1ce_29 rfl (lv_at hl 2 rfl) ?_
  refine x_cv0 (x_runV (b := E.2.2.2.1) (As := [.int cnt, .ref (E.2.2.2.2.1 i0)]) (rest := []) S (c_J5_putStringAt_47b60 l E K F G q5 n6 cnt cnt i0 hi0 (z_J5_append_cf1ce_2 cnt.toInt x1.toInt x3.toInt n6 n (xlen.getD i0 0) e9 e1 t2 t4 t7)) mw_J5_putStringAt_47b60 km_J5_208 rfl rfl ⟨Nat.le_of_ble_eq_true rfl, Nat.le_of_ble_eq_true rfl⟩ (rc_sb hK hT) hK (fun _ => XPb.blind) (fun U hU hW => XPb.at hK hz hS hT hU hW) rfl hl.1 (Nat.le_of_ble_eq_true rfl) dJ5_append_cf1ce_30 ⟨Nat.le_of_ble_eq_true rfl, Nat.le_of_ble_eq_true rfl⟩) hS ?_
  rintro ⟨q9, n10, k11⟩ H locs t12 hT hS
  have t12 : k11.toInt = cnt.toInt ∧ (((n10) : Nat) : Int) = (((n6) : Nat) : Int) := t12
  have hT : TWb E K F G q9 n10 k11 H := hT
  have v14 : 0 ≤ k11.toInt ∧ k11.toInt ≤ (((n10) : Nat) : Int) ∧ (((n10) : Nat) : Int) ≤ 100 := hT.inv
  refine lv_aload_n hx hb dJ5_append_cf1ce_33 rfl (lv_at hl 1 rfl) ?_
  refine lv_dup hx hb dJ5_append_cf1ce_34 rfl ?_
  refine sbg_count S hK hT kf_J5_79 dJ5_append_cf1ce_35 ?_
  refine lv_iload_n hx hb dJ5_append_cf1ce_38 rfl (lv_at hl 0 rfl) ?_
  refine xi_iadd hx hb (rfl : Int32.toInt k11 = k11.toInt) (rfl : Int32.toInt x1 = x1.toInt) dJ5_append_cf1ce_39 (fun x15 t16 => ?_)
  refine sbp_count (x := x15) S hK hT hS kf_J5_79 (z_J5_append_cf1ce_3 cnt.toInt k11.toInt x1.toInt x15.toInt x3.toInt n10 n6 n (xlen.getD i0 0) e9 e1 t2 t4 t7 t12 t16) dJ5_append_cf1ce_40 (fun H locs hT hS => ?_)
  refine lv_aload_n hx hb dJ5_append_cf1ce_43 rfl (lv_at hl 1 rfl) ?_
  exact x_ra hx hb hr (by first | exact Or.inl ⟨_, rfl⟩ | exact Or.inr ⟨_, rfl⟩) (by first | exact Or.inl rfl | exact Or.inr ⟨_, rfl⟩) hlk hQ (Nat.le_of_ble_eq_true rfl) (Nat.le_of_ble_eq_true rfl) hS dJ5_append_cf1ce_44 (q9, n10, x15) ⟨rfl, (z_J5_append_cf1ce_4 cnt.toInt k11.toInt x1.toInt x15.toInt n10 n6 n (xlen.getD i0 0) e9 e1 t2 t12 t16)⟩ hT

theorem z_J5_append_c97b9_1 (a0 : Int) (a1 : Int) (a2 : Int) (a3 : Int) (a4 : Nat) (h0 : 0 ≤ a0 ∧ a0 ≤ ((a4 : Nat) : Int) ∧ ((a4 : Nat) : Int) ≤ 100) (h1 : a0 ≤ 37) (h2 : 1 ≤ a2 ∧ a2 ≤ 11 ∧ (a1 < 0 → 2 ≤ a2) ∧ (a1 ≤ -10 → 3 ≤ a2) ∧ (10 ≤ a1 → 2 ≤ a2) ∧ (a1 ≤ -100 → 4 ≤ a2) ∧ (100 ≤ a1 → 3 ≤ a2) ∧ (a1 ≤ -1000 → 5 ≤ a2) ∧ (1000 ≤ a1 → 4 ≤ a2) ∧ (a1 ≤ -10000 → 6 ≤ a2) ∧ (10000 ≤ a1 → 5 ≤ a2) ∧ (a1 ≤ -100000 → 7 ≤ a2) ∧ (100000 ≤ a1 → 6 ≤ a2) ∧ (a1 ≤ -1000000 → 8 ≤ a2) ∧ (1000000 ≤ a1 → 7 ≤ a2) ∧ (a1 ≤ -10000000 → 9 ≤ a2) ∧ (10000000 ≤ a1 → 8 ≤ a2) ∧ (a1 ≤ -100000000 → 10 ≤ a2) ∧ (100000000 ≤ a1 → 9 ≤ a2) ∧ (a1 ≤ -1000000000 → 11 ≤ a2) ∧ (1000000000 ≤ a1 → 10 ≤ a2)) (h3 : a3 = a0 + a2 ∨ a0 + a2 < -2147483648 ∨ 2147483648 ≤ a0 + a2) : 0 ≤ a3 ∧ a3 ≤ 48 := by omega
theorem z_J5_append_c97b9_2 (a0 : Int) (a1 : Int) (a2 : Int) (a3 : Int) (a4 : Nat) (a5 : Nat) (h0 : 0 ≤ a0 ∧ a0 ≤ ((a5 : Nat) : Int) ∧ ((a5 : Nat) : Int) ≤ 100) (h1 : 1 ≤ a2 ∧ a2 ≤ 11 ∧ (a1 < 0 → 2 ≤ a2) ∧ (a1 ≤ -10 → 3 ≤ a2) ∧ (10 ≤ a1 → 2 ≤ a2) ∧ (a1 ≤ -100 → 4 ≤ a2) ∧ (100 ≤ a1 → 3 ≤ a2) ∧ (a1 ≤ -1000 → 5 ≤ a2) ∧ (1000 ≤ a1 → 4 ≤ a2) ∧ (a1 ≤ -10000 → 6 ≤ a2) ∧ (10000 ≤ a1 → 5 ≤ a2) ∧ (a1 ≤ -100000 → 7 ≤ a2) ∧ (100000 ≤ a1 → 6 ≤ a2) ∧ (a1 ≤ -1000000 → 8 ≤ a2) ∧ (1000000 ≤ a1 → 7 ≤ a2) ∧ (a1 ≤ -10000000 → 9 ≤ a2) ∧ (10000000 ≤ a1 → 8 ≤ a2) ∧ (a1 ≤ -100000000 → 10 ≤ a2) ∧ (100000000 ≤ a1 → 9 ≤ a2) ∧ (a1 ≤ -1000000000 → 11 ≤ a2) ∧ (1000000000 ≤ a1 → 10 ≤ a2)) (h2 : a3 = a0 + a2 ∨ a0 + a2 < -2147483648 ∨ 2147483648 ≤ a0 + a2) (h3 : a3 ≤ ((a4 : Nat) : Int) ∧ ((a5 : Nat) : Int) ≤ ((a4 : Nat) : Int)) : 1 ≤ a3 ∧ a3 ≤ ((a4 : Nat) : Int) := by omega
theorem z_J5_append_c97b9_3 (a0 : Int) (a1 : Int) (a2 : Int) (a3 : Int) (a4 : Nat) (h0 : 0 ≤ a0 ∧ a0 ≤ ((a4 : Nat) : Int) ∧ ((a4 : Nat) : Int) ≤ 100) (h1 : 1 ≤ a2 ∧ a2 ≤ 11 ∧ (a1 < 0 → 2 ≤ a2) ∧ (a1 ≤ -10 → 3 ≤ a2) ∧ (10 ≤ a1 → 2 ≤ a2) ∧ (a1 ≤ -100 → 4 ≤ a2) ∧ (100 ≤ a1 → 3 ≤ a2) ∧ (a1 ≤ -1000 → 5 ≤ a2) ∧ (1000 ≤ a1 → 4 ≤ a2) ∧ (a1 ≤ -10000 → 6 ≤ a2) ∧ (10000 ≤ a1 → 5 ≤ a2) ∧ (a1 ≤ -100000 → 7 ≤ a2) ∧ (100000 ≤ a1 → 6 ≤ a2) ∧ (a1 ≤ -1000000 → 8 ≤ a2) ∧ (1000000 ≤ a1 → 7 ≤ a2) ∧ (a1 ≤ -10000000 → 9 ≤ a2) ∧ (10000000 ≤ a1 → 8 ≤ a2) ∧ (a1 ≤ -100000000 → 10 ≤ a2) ∧ (100000000 ≤ a1 → 9 ≤ a2) ∧ (a1 ≤ -1000000000 → 11 ≤ a2) ∧ (1000000000 ≤ a1 → 10 ≤ a2)) (h2 : a3 = a0 + a2 ∨ a0 + a2 < -2147483648 ∨ 2147483648 ≤ a0 + a2) : a1 < 0 → 2 ≤ a3 := by omega
theorem z_J5_append_c97b9_4 (a0 : Int) (a1 : Int) (a2 : Int) (a3 : Int) (a4 : Nat) (h0 : 0 ≤ a0 ∧ a0 ≤ ((a4 : Nat) : Int) ∧ ((a4 : Nat) : Int) ≤ 100) (h1 : 1 ≤ a2 ∧ a2 ≤ 11 ∧ (a1 < 0 → 2 ≤ a2) ∧ (a1 ≤ -10 → 3 ≤ a2) ∧ (10 ≤ a1 → 2 ≤ a2) ∧ (a1 ≤ -100 → 4 ≤ a2) ∧ (100 ≤ a1 → 3 ≤ a2) ∧ (a1 ≤ -1000 → 5 ≤ a2) ∧ (1000 ≤ a1 → 4 ≤ a2) ∧ (a1 ≤ -10000 → 6 ≤ a2) ∧ (10000 ≤ a1 → 5 ≤ a2) ∧ (a1 ≤ -100000 → 7 ≤ a2) ∧ (100000 ≤ a1 → 6 ≤ a2) ∧ (a1 ≤ -1000000 → 8 ≤ a2) ∧ (1000000 ≤ a1 → 7 ≤ a2) ∧ (a1 ≤ -10000000 → 9 ≤ a2) ∧ (10000000 ≤ a1 → 8 ≤ a2) ∧ (a1 ≤ -100000000 → 10 ≤ a2) ∧ (100000000 ≤ a1 → 9 ≤ a2) ∧ (a1 ≤ -1000000000 → 11 ≤ a2) ∧ (1000000000 ≤ a1 → 10 ≤ a2)) (h2 : a3 = a0 + a2 ∨ a0 + a2 < -2147483648 ∨ 2147483648 ≤ a0 + a2) : (a1 ≤ -10 → 3 ≤ a3) ∧ (10 ≤ a1 → 2 ≤ a3) := by omega
theorem z_J5_append_c97b9_5 (a0 : Int) (a1 : Int) (a2 : Int) (a3 : Int) (a4 : Nat) (h0 : 0 ≤ a0 ∧ a0 ≤ ((a4 : Nat) : Int) ∧ ((a4 : Nat) : Int) ≤ 100) (h1 : 1 ≤ a2 ∧ a2 ≤ 11 ∧ (a1 < 0 → 2 ≤ a2) ∧ (a1 ≤ -10 → 3 ≤ a2) ∧ (10 ≤ a1 → 2 ≤ a2) ∧ (a1 ≤ -100 → 4 ≤ a2) ∧ (100 ≤ a1 → 3 ≤ a2) ∧ (a1 ≤ -1000 → 5 ≤ a2) ∧ (1000 ≤ a1 → 4 ≤ a2) ∧ (a1 ≤ -10000 → 6 ≤ a2) ∧ (10000 ≤ a1 → 5 ≤ a2) ∧ (a1 ≤ -100000 → 7 ≤ a2) ∧ (100000 ≤ a1 → 6 ≤ a2) ∧ (a1 ≤ -1000000 → 8 ≤ a2) ∧ (1000000 ≤ a1 → 7 ≤ a2) ∧ (a1 ≤ -10000000 → 9 ≤ a2) ∧ (10000000 ≤ a1 → 8 ≤ a2) ∧ (a1 ≤ -100000000 → 10 ≤ a2) ∧ (100000000 ≤ a1 → 9 ≤ a2) ∧ (a1 ≤ -1000000000 → 11 ≤ a2) ∧ (1000000000 ≤ a1 → 10 ≤ a2)) (h2 : a3 = a0 + a2 ∨ a0 + a2 < -2147483648 ∨ 2147483648 ≤ a0 + a2) : (a1 ≤ -100 → 4 ≤ a3) ∧ (100 ≤ a1 → 3 ≤ a3) := by omega
theorem z_J5_append_c97b9_6 (a0 : Int) (a1 : Int) (a2 : Int) (a3 : Int) (a4 : Nat) (h0 : 0 ≤ a0 ∧ a0 ≤ ((a4 : Nat) : Int) ∧ ((a4 : Nat) : Int) ≤ 100) (h1 : 1 ≤ a2 ∧ a2 ≤ 11 ∧ (a1 < 0 → 2 ≤ a2) ∧ (a1 ≤ -10 → 3 ≤ a2) ∧ (10 ≤ a1 → 2 ≤ a2) ∧ (a1 ≤ -100 → 4 ≤ a2) ∧ (100 ≤ a1 → 3 ≤ a2) ∧ (a1 ≤ -1000 → 5 ≤ a2) ∧ (1000 ≤ a1 → 4 ≤ a2) ∧ (a1 ≤ -10000 → 6 ≤ a2) ∧ (10000 ≤ a1 → 5 ≤ a2) ∧ (a1 ≤ -100000 → 7 ≤ a2) ∧ (100000 ≤ a1 → 6 ≤ a2) ∧ (a1 ≤ -1000000 → 8 ≤ a2) ∧ (1000000 ≤ a1 → 7 ≤ a2) ∧ (a1 ≤ -10000000 → 9 ≤ a2) ∧ (10000000 ≤ a1 → 8 ≤ a2) ∧ (a1 ≤ -100000000 → 10 ≤ a2) ∧ (100000000 ≤ a1 → 9 ≤ a2) ∧ (a1 ≤ -1000000000 → 11 ≤ a2) ∧ (1000000000 ≤ a1 → 10 ≤ a2)) (h2 : a3 = a0 + a2 ∨ a0 + a2 < -2147483648 ∨ 2147483648 ≤ a0 + a2) : (a1 ≤ -1000 → 5 ≤ a3) ∧ (1000 ≤ a1 → 4 ≤ a3) := by omega
theorem z_J5_append_c97b9_7 (a0 : Int) (a1 : Int) (a2 : Int) (a3 : Int) (a4 : Nat) (h0 : 0 ≤ a0 ∧ a0 ≤ ((a4 : Nat) : Int) ∧ ((a4 : Nat) : Int) ≤ 100) (h1 : 1 ≤ a2 ∧ a2 ≤ 11 ∧ (a1 < 0 → 2 ≤ a2) ∧ (a1 ≤ -10 → 3 ≤ a2) ∧ (10 ≤ a1 → 2 ≤ a2) ∧ (a1 ≤ -100 → 4 ≤ a2) ∧ (100 ≤ a1 → 3 ≤ a2) ∧ (a1 ≤ -1000 → 5 ≤ a2) ∧ (1000 ≤ a1 → 4 ≤ a2) ∧ (a1 ≤ -10000 → 6 ≤ a2) ∧ (10000 ≤ a1 → 5 ≤ a2) ∧ (a1 ≤ -100000 → 7 ≤ a2) ∧ (100000 ≤ a1 → 6 ≤ a2) ∧ (a1 ≤ -1000000 → 8 ≤ a2) ∧ (1000000 ≤ a1 → 7 ≤ a2) ∧ (a1 ≤ -10000000 → 9 ≤ a2) ∧ (10000000 ≤ a1 → 8 ≤ a2) ∧ (a1 ≤ -100000000 → 10 ≤ a2) ∧ (100000000 ≤ a1 → 9 ≤ a2) ∧ (a1 ≤ -1000000000 → 11 ≤ a2) ∧ (1000000000 ≤ a1 → 10 ≤ a2)) (h2 : a3 = a0 + a2 ∨ a0 + a2 < -2147483648 ∨ 2147483648 ≤ a0 + a2) : (a1 ≤ -10000 → 6 ≤ a3) ∧ (10000 ≤ a1 → 5 ≤ a3) := by omega
theorem z_J5_append_c97b9_8 (a0 : Int) (a1 : Int) (a2 : Int) (a3 : Int) (a4 : Nat) (h0 : 0 ≤ a0 ∧ a0 ≤ ((a4 : Nat) : Int) ∧ ((a4 : Nat) : Int) ≤ 100) (h1 : 1 ≤ a2 ∧ a2 ≤ 11 ∧ (a1 < 0 → 2 ≤ a2) ∧ (a1 ≤ -10 → 3 ≤ a2) ∧ (10 ≤ a1 → 2 ≤ a2) ∧ (a1 ≤ -100 → 4 ≤ a2) ∧ (100 ≤ a1 → 3 ≤ a2) ∧ (a1 ≤ -1000 → 5 ≤ a2) ∧ (1000 ≤ a1 → 4 ≤ a2) ∧ (a1 ≤ -10000 → 6 ≤ a2) ∧ (10000 ≤ a1 → 5 ≤ a2) ∧ (a1 ≤ -100000 → 7 ≤ a2) ∧ (100000 ≤ a1 → 6 ≤ a2) ∧ (a1 ≤ -1000000 → 8 ≤ a2) ∧ (1000000 ≤ a1 → 7 ≤ a2) ∧ (a1 ≤ -10000000 → 9 ≤ a2) ∧ (10000000 ≤ a1 → 8 ≤ a2) ∧ (a1 ≤ -100000000 → 10 ≤ a2) ∧ (100000000 ≤ a1 → 9 ≤ a2) ∧ (a1 ≤ -1000000000 → 11 ≤ a2) ∧ (1000000000 ≤ a1 → 10 ≤ a2)) (h2 : a3 = a0 + a2 ∨ a0 + a2 < -2147483648 ∨ 2147483648 ≤ a0 + a2) : (a1 ≤ -100000 → 7 ≤ a3) ∧ (100000 ≤ a1 → 6 ≤ a3) := by omega
theorem z_J5_append_c97b9_9 (a0 : Int) (a1 : Int) (a2 : Int) (a3 : Int) (a4 : Nat) (h0 : 0 ≤ a0 ∧ a0 ≤ ((a4 : Nat) : Int) ∧ ((a4 : Nat) : Int) ≤ 100) (h1 : 1 ≤ a2 ∧ a2 ≤ 11 ∧ (a1 < 0 → 2 ≤ a2) ∧ (a1 ≤ -10 → 3 ≤ a2) ∧ (10 ≤ a1 → 2 ≤ a2) ∧ (a1 ≤ -100 → 4 ≤ a2) ∧ (100 ≤ a1 → 3 ≤ a2) ∧ (a1 ≤ -1000 → 5 ≤ a2) ∧ (1000 ≤ a1 → 4 ≤ a2) ∧ (a1 ≤ -10000 → 6 ≤ a2) ∧ (10000 ≤ a1 → 5 ≤ a2) ∧ (a1 ≤ -100000 → 7 ≤ a2) ∧ (100000 ≤ a1 → 6 ≤ a2) ∧ (a1 ≤ -1000000 → 8 ≤ a2) ∧ (1000000 ≤ a1 → 7 ≤ a2) ∧ (a1 ≤ -10000000 → 9 ≤ a2) ∧ (10000000 ≤ a1 → 8 ≤ a2) ∧ (a1 ≤ -100000000 → 10 ≤ a2) ∧ (100000000 ≤ a1 → 9 ≤ a2) ∧ (a1 ≤ -1000000000 → 11 ≤ a2) ∧ (1000000000 ≤ a1 → 10 ≤ a2)) (h2 : a3 = a0 + a2 ∨ a0 + a2 < -2147483648 ∨ 2147483648 ≤ a0 + a2) : (a1 ≤ -1000000 → 8 ≤ a3) ∧ (1000000 ≤ a1 → 7 ≤ a3) := by omega
theorem z_J5_append_c97b9_10 (a0 : Int) (a1 : Int) (a2 : Int) (a3 : Int) (a4 : Nat) (h0 : 0 ≤ a0 ∧ a0 ≤ ((a4 : Nat) : Int) ∧ ((a4 : Nat) : Int) ≤ 100) (h1 : 1 ≤ a2 ∧ a2 ≤ 11 ∧ (a1 < 0 → 2 ≤ a2) ∧ (a1 ≤ -10 → 3 ≤ a2) ∧ (10 ≤ a1 → 2 ≤ a2) ∧ (a1 ≤ -100 → 4 ≤ a2) ∧ (100 ≤ a1 → 3 ≤ a2) ∧ (a1 ≤ -1000 → 5 ≤ a2) ∧ (1000 ≤ a1 → 4 ≤ a2) ∧ (a1 ≤ -10000 → 6 ≤ a2) ∧ (10000 ≤ a1 → 5 ≤ a2) ∧ (a1 ≤ -100000 → 7 ≤ a2) ∧ (100000 ≤ a1 → 6 ≤ a2) ∧ (a1 ≤ -1000000 → 8 ≤ a2) ∧ (1000000 ≤ a1 → 7 ≤ a2) ∧ (a1 ≤ -10000000 → 9 ≤ a2) ∧ (10000000 ≤ a1 → 8 ≤ a2) ∧ (a1 ≤ -100000000 → 10 ≤ a2) ∧ (100000000 ≤ a1 → 9 ≤ a2) ∧ (a1 ≤ -1000000000 → 11 ≤ a2) ∧ (1000000000 ≤ a1 → 10 ≤ a2)) (h2 : a3 = a0 + a2 ∨ a0 + a2 < -2147483648 ∨ 2147483648 ≤ a0 + a2) : (a1 ≤ -10000000 → 9 ≤ a3) ∧ (10000000 ≤ a1 → 8 ≤ a3) := by omega
theorem z_J5_append_c97b9_11 (a0 : Int) (a1 : Int) (a2 : Int) (a3 : Int) (a4 : Nat) (h0 : 0 ≤ a0 ∧ a0 ≤ ((a4 : Nat) : Int) ∧ ((a4 : Nat) : Int) ≤ 100) (h1 : 1 ≤ a2 ∧ a2 ≤ 11 ∧ (a1 < 0 → 2 ≤ a2) ∧ (a1 ≤ -10 → 3 ≤ a2) ∧ (10 ≤ a1 → 2 ≤ a2) ∧ (a1 ≤ -100 → 4 ≤ a2) ∧ (100 ≤ a1 → 3 ≤ a2) ∧ (a1 ≤ -1000 → 5 ≤ a2) ∧ (1000 ≤ a1 → 4 ≤ a2) ∧ (a1 ≤ -10000 → 6 ≤ a2) ∧ (10000 ≤ a1 → 5 ≤ a2) ∧ (a1 ≤ -100000 → 7 ≤ a2) ∧ (100000 ≤ a1 → 6 ≤ a2) ∧ (a1 ≤ -1000000 → 8 ≤ a2) ∧ (1000000 ≤ a1 → 7 ≤ a2) ∧ (a1 ≤ -10000000 → 9 ≤ a2) ∧ (10000000 ≤ a1 → 8 ≤ a2) ∧ (a1 ≤ -100000000 → 10 ≤ a2) ∧ (100000000 ≤ a1 → 9 ≤ a2) ∧ (a1 ≤ -1000000000 → 11 ≤ a2) ∧ (1000000000 ≤ a1 → 10 ≤ a2)) (h2 : a3 = a0 + a2 ∨ a0 + a2 < -2147483648 ∨ 2147483648 ≤ a0 + a2) : (a1 ≤ -100000000 → 10 ≤ a3) ∧ (100000000 ≤ a1 → 9 ≤ a3) := by omega
theorem z_J5_append_c97b9_12 (a0 : Int) (a1 : Int) (a2 : Int) (a3 : Int) (a4 : Nat) (h0 : 0 ≤ a0 ∧ a0 ≤ ((a4 : Nat) : Int) ∧ ((a4 : Nat) : Int) ≤ 100) (h1 : 1 ≤ a2 ∧ a2 ≤ 11 ∧ (a1 < 0 → 2 ≤ a2) ∧ (a1 ≤ -10 → 3 ≤ a2) ∧ (10 ≤ a1 → 2 ≤ a2) ∧ (a1 ≤ -100 → 4 ≤ a2) ∧ (100 ≤ a1 → 3 ≤ a2) ∧ (a1 ≤ -1000 → 5 ≤ a2) ∧ (1000 ≤ a1 → 4 ≤ a2) ∧ (a1 ≤ -10000 → 6 ≤ a2) ∧ (10000 ≤ a1 → 5 ≤ a2) ∧ (a1 ≤ -100000 → 7 ≤ a2) ∧ (100000 ≤ a1 → 6 ≤ a2) ∧ (a1 ≤ -1000000 → 8 ≤ a2) ∧ (1000000 ≤ a1 → 7 ≤ a2) ∧ (a1 ≤ -10000000 → 9 ≤ a2) ∧ (10000000 ≤ a1 → 8 ≤ a2) ∧ (a1 ≤ -100000000 → 10 ≤ a2) ∧ (100000000 ≤ a1 → 9 ≤ a2) ∧ (a1 ≤ -1000000000 → 11 ≤ a2) ∧ (1000000000 ≤ a1 → 10 ≤ a2)) (h2 : a3 = a0 + a2 ∨ a0 + a2 < -2147483648 ∨ 2147483648 ≤ a0 + a2) : (a1 ≤ -1000000000 → 11 ≤ a3) ∧ (1000000000 ≤ a1 → 10 ≤ a3) := by omega
theorem z_J5_append_c97b9_13 (a0 : Int) (a1 : Int) (a2 : Int) (a3 : Int) (a4 : Int) (a5 : Nat) (a6 : Nat) (a7 : Nat) (h0 : 0 ≤ a0 ∧ a0 ≤ ((a7 : Nat) : Int) ∧ ((a7 : Nat) : Int) ≤ 100) (h1 : 1 ≤ a3 ∧ a3 ≤ 11 ∧ (a2 < 0 → 2 ≤ a3) ∧ (a2 ≤ -10 → 3 ≤ a3) ∧ (10 ≤ a2 → 2 ≤ a3) ∧ (a2 ≤ -100 → 4 ≤ a3) ∧ (100 ≤ a2 → 3 ≤ a3) ∧ (a2 ≤ -1000 → 5 ≤ a3) ∧ (1000 ≤ a2 → 4 ≤ a3) ∧ (a2 ≤ -10000 → 6 ≤ a3) ∧ (10000 ≤ a2 → 5 ≤ a3) ∧ (a2 ≤ -100000 → 7 ≤ a3) ∧ (100000 ≤ a2 → 6 ≤ a3) ∧ (a2 ≤ -1000000 → 8 ≤ a3) ∧ (1000000 ≤ a2 → 7 ≤ a3) ∧ (a2 ≤ -10000000 → 9 ≤ a3) ∧ (10000000 ≤ a2 → 8 ≤ a3) ∧ (a2 ≤ -100000000 → 10 ≤ a3) ∧ (100000000 ≤ a2 → 9 ≤ a3) ∧ (a2 ≤ -1000000000 → 11 ≤ a3) ∧ (1000000000 ≤ a2 → 10 ≤ a3)) (h2 : a4 = a0 + a3 ∨ a0 + a3 < -2147483648 ∨ 2147483648 ≤ a0 + a3) (h3 : a4 ≤ ((a6 : Nat) : Int) ∧ ((a7 : Nat) : Int) ≤ ((a6 : Nat) : Int)) (h4 : a1 = a0 ∧ ((a5 : Nat) : Int) = ((a6 : Nat) : Int)) : 0 ≤ a4 ∧ a4 ≤ ((a5 : Nat) : Int) := by omega
theorem z_J5_append_c97b9_14 (a0 : Int) (a1 : Int) (a2 : Int) (a3 : Int) (a4 : Int) (a5 : Nat) (a6 : Nat) (h0 : 1 ≤ a3 ∧ a3 ≤ 11 ∧ (a2 < 0 → 2 ≤ a3) ∧ (a2 ≤ -10 → 3 ≤ a3) ∧ (10 ≤ a2 → 2 ≤ a3) ∧ (a2 ≤ -100 → 4 ≤ a3) ∧ (100 ≤ a2 → 3 ≤ a3) ∧ (a2 ≤ -1000 → 5 ≤ a3) ∧ (1000 ≤ a2 → 4 ≤ a3) ∧ (a2 ≤ -10000 → 6 ≤ a3) ∧ (10000 ≤ a2 → 5 ≤ a3) ∧ (a2 ≤ -100000 → 7 ≤ a3) ∧ (100000 ≤ a2 → 6 ≤ a3) ∧ (a2 ≤ -1000000 → 8 ≤ a3) ∧ (1000000 ≤ a2 → 7 ≤ a3) ∧ (a2 ≤ -10000000 → 9 ≤ a3) ∧ (10000000 ≤ a2 → 8 ≤ a3) ∧ (a2 ≤ -100000000 → 10 ≤ a3) ∧ (100000000 ≤ a2 → 9 ≤ a3) ∧ (a2 ≤ -1000000000 → 11 ≤ a3) ∧ (1000000000 ≤ a2 → 10 ≤ a3)) (h1 : a4 = a0 + a3 ∨ a0 + a3 < -2147483648 ∨ 2147483648 ≤ a0 + a3) (h2 : a1 = a0 ∧ ((a5 : Nat) : Int) = ((a6 : Nat) : Int)) (h3 : 0 ≤ a1 ∧ a1 ≤ ((a5 : Nat) : Int) ∧ ((a5 : Nat) : Int) ≤ 100) : a0 ≤ a4 ∧ a4 ≤ a0 + 11 := by omega
abbrev rm_J5_append_c97b9 : Room := { frames := 4, cells := 1, slots := 100, locals := 104 }
set_option maxHeartbeats 4000000 in
set_option maxRecDepth 100000 in
theorem c_J5_append_c97b9 (l : Launch) (E : XE) (K : Nat → Nat) (F : Nat → Nat → Nat) (G : XG) (v n : Nat) (cnt : Int32) (p0 : Int32) (e1 : cnt.toInt ≤ 37) : Met l yJ5_append_c97b9 (xw yJ5_append_c97b9 cJ5_append_c97b9 4 (some (.object "java/lang/AbstractStringBuilder"))) rm_J5_append_c97b9 (va_Pc [.ref E.2.2.2.1, .int p0] (XPb E K F G v n cnt)) (XQ E (fun v (u : Nat × Nat × Int32) => v = .ref E.2.2.2.1 ∧ cnt.toInt ≤ u.2.2.toInt ∧ u.2.2.toInt ≤ cnt.toInt + 11) (fun u H => TWb E K F G u.1 u.2.1 u.2.2 H)) 1 100 (xA E) := by
  refine x_enter (by decide) (Nat.le_of_ble_eq_true rfl) ?_
  intro p e s m args below meth c Q S hr hlk hnm hQ hP ls hl
  obtain ⟨hz, hK, hT⟩ := hP
  obtain ⟨hx, hb, -, -, -⟩ := id S
  obtain ⟨H, hT, hS, hgo⟩ : ∃ H : Heap, TWb E K F G v n cnt H ∧ va_S (xA E) s.heap H [] ∧ H = s.heap := ⟨_, hT, va_S.rf, rfl⟩
  rw [← hgo]
  have hl : lv_has ls 4 [(0, .ref E.2.2.2.1), (1, .int p0)] := hl
  have e9 := hT.inv
  refine lv_aload_n hx hb dJ5_append_c97b9_0 rfl (lv_at hl 0 rfl) ?_
  refine sbg_count S hK hT kf_J5_79 dJ5_append_c97b9_1 ?_
  refine lv_istore_n (lv' := [(2, .int cnt), (0, .ref E.2.2.2.1), (1, .int p0)]) hx hb dJ5_append_c97b9_4 rfl hl (by decide) rfl (fun ls hl => ?_)
  refine lv_iload_n hx hb dJ5_append_c97b9_5 rfl (lv_at hl 0 rfl) ?_
  refine lv_iload_n hx hb dJ5_append_c97b9_6 rfl (lv_at hl 2 rfl) ?_
  refine x_clp (x_runS (As := [.int p0]) (rest := [.int cnt]) S (c_J6_stringSize_0f7a4 l E K F G H p0) ms_J6_stringSize_0f7a4 km_J5_245 rfl rfl ⟨Nat.le_of_ble_eq_true rfl, Nat.le_of_ble_eq_true rfl⟩ hK (fun _ => XPh.blind) (fun U hU hW => XPh.at hK hz hS hT.cl hU hW) rfl hl.1 (Nat.le_of_ble_eq_true rfl) dJ5_append_c97b9_7 ⟨Nat.le_of_ble_eq_true rfl, Nat.le_of_ble_eq_true rfl⟩) hS ?_
  rintro _ _ locs ⟨x1, rfl, t2⟩ hS
  have t2 : 1 ≤ x1.toInt ∧ x1.toInt ≤ 11 ∧ (p0.toInt < 0 → 2 ≤ x1.toInt) ∧ (p0.toInt ≤ -10 → 3 ≤ x1.toInt) ∧ (10 ≤ p0.toInt → 2 ≤ x1.toInt) ∧ (p0.toInt ≤ -100 → 4 ≤ x1.toInt) ∧ (100 ≤ p0.toInt → 3 ≤ x1.toInt) ∧ (p0.toInt ≤ -1000 → 5 ≤ x1.toInt) ∧ (1000 ≤ p0.toInt → 4 ≤ x1.toInt) ∧ (p0.toInt ≤ -10000 → 6 ≤ x1.toInt) ∧ (10000 ≤ p0.toInt → 5 ≤ x1.toInt) ∧ (p0.toInt ≤ -100000 → 7 ≤ x1.toInt) ∧ (100000 ≤ p0.toInt → 6 ≤ x1.toInt) ∧ (p0.toInt ≤ -1000000 → 8 ≤ x1.toInt) ∧ (1000000 ≤ p0.toInt → 7 ≤ x1.toInt) ∧ (p0.toInt ≤ -10000000 → 9 ≤ x1.toInt) ∧ (10000000 ≤ p0.toInt → 8 ≤ x1.toInt) ∧ (p0.toInt ≤ -100000000 → 10 ≤ x1.toInt) ∧ (100000000 ≤ p0.toInt → 9 ≤ x1.toInt) ∧ (p0.toInt ≤ -1000000000 → 11 ≤ x1.toInt) ∧ (1000000000 ≤ p0.toInt → 10 ≤ x1.toInt) := t2
  refine xi_iadd hx hb (rfl : Int32.toInt cnt = cnt.toInt) (rfl : Int32.toInt x1 = x1.toInt) dJ5_append_c97b9_10 (fun x3 t4 => ?_)
  refine lv_istore_n (lv' := [(3, .int x3), (2, .int cnt), (0, .ref E.2.2.2.1), (1, .int p0)]) hx hb dJ5_append_c97b9_11 rfl hl (by decide) rfl (fun ls hl => ?_)
  refine lv_aload_n hx hb dJ5_append_c97b9_12 rfl (lv_at hl 2 rfl) ?_
  refine lv_iload_n hx hb dJ5_append_c97b9_13 rfl (lv_at hl 0 rfl) ?_
  refine x_cv (x_runV (b := E.2.2.2.1) (As := [.int x3]) (rest := []) S (c_J5_ensureCapacityInternal_d00df l E K F G v n cnt x3 (z_J5_append_c97b9_1 cnt.toInt p0.toInt x1.toInt x3.toInt n e9 e1 t2 t4)) mw_J5_ensureCapacityInternal_d00df km_J5_100 rfl rfl ⟨Nat.le_of_ble_eq_true rfl, Nat.le_of_ble_eq_true rfl⟩ (rc_sb hK hT) hK (fun _ => XPb.blind) (fun U hU hW => XPb.at hK hz hS hT hU hW) rfl hl.1 (Nat.le_of_ble_eq_true rfl) dJ5_append_c97b9_14 ⟨Nat.le_of_ble_eq_true rfl, Nat.le_of_ble_eq_true rfl⟩) hS ?_
  rintro ⟨q5, n6⟩ H locs t7 hT hS
  have t7 : x3.toInt ≤ (((n6) : Nat) : Int) ∧ (((n) : Nat) : Int) ≤ (((n6) : Nat) : Int) := t7
  have hT : TWb E K F G q5 n6 cnt H := hT
  have v8 : 0 ≤ cnt.toInt ∧ cnt.toInt ≤ (((n6) : Nat) : Int) ∧ (((n6) : Nat) : Int) ≤ 100 := hT.inv
  refine lv_aload_n hx hb dJ5_append_c97b9_17 rfl (lv_at hl 2 rfl) ?_
  refine x_clp (x_runV (b := E.2.2.2.1) (As := []) (rest := []) S (c_J5_isLatin1_aae02 l E K F G q5 n6 cnt H ) mw_J5_isLatin1_aae02 km_J5_83 rfl rfl ⟨Nat.le_of_ble_eq_true rfl, Nat.le_of_ble_eq_true rfl⟩ (rc_sb hK hT) hK (fun _ => XPbh.blind) (fun U hU hW => XPbh.at hK hz hS hT hU hW) rfl hl.1 (Nat.le_of_ble_eq_true rfl) dJ5_append_c97b9_18 ⟨Nat.le_of_ble_eq_true rfl, Nat.le_of_ble_eq_true rfl⟩) hS ?_
  rintro _ _ locs ⟨_, rfl, rfl⟩ hS
  refine xi_zeq (tgt := 37) hx hb ((by decide) : Int32.toInt 1 = (1 : Int)) dJ5_append_c97b9_21 (by decide) (fun c => absurd c (show ¬ ((1 : Int) = 0) by decide)) (fun _ => ?_)
  refine lv_iload_n hx hb dJ5_append_c97b9_24 rfl (lv_at hl 3 rfl) ?_
  refine lv_iload_n hx hb dJ5_append_c97b9_25 rfl (lv_at hl 0 rfl) ?_
  refine lv_aload_n hx hb dJ5_append_c97b9_26 rfl (lv_at hl 2 rfl) ?_
  refine sbg_value S hK hT kf_J5_15 dJ5_append_c97b9_27 ?_
  refine x_cl0 (x_runS (As := [.int p0, .int x3, .ref q5]) (rest := []) S (c_J6_getChars_ba4f3 l E K F G q5 n6 cnt p0 x3 (z_J5_append_c97b9_2 cnt.toInt p0.toInt x1.toInt x3.toInt n6 n e9 t2 t4 t7) (z_J5_append_c97b9_3 cnt.toInt p0.toInt x1.toInt x3.toInt n e9 t2 t4) (z_J5_append_c97b9_4 cnt.toInt p0.toInt x1.toInt x3.toInt n e9 t2 t4) (z_J5_append_c97b9_5 cnt.toInt p0.toInt x1.toInt x3.toInt n e9 t2 t4) (z_J5_append_c97b9_6 cnt.toInt p0.toInt x1.toInt x3.toInt n e9 t2 t4) (z_J5_append_c97b9_7 cnt.toInt p0.toInt x1.toInt x3.toInt n e9 t2 t4) (z_J5_append_c97b9_8 cnt.toInt p0.toInt x1.toInt x3.toInt n e9 t2 t4) (z_J5_append_c97b9_9 cnt.toInt p0.toInt x1.toInt x3.toInt n e9 t2 t4) (z_J5_append_c97b9_10 cnt.toInt p0.toInt x1.toInt x3.toInt n e9 t2 t4) (z_J5_append_c97b9_11 cnt.toInt p0.toInt x1.toInt x3.toInt n e9 t2 t4) (z_J5_append_c97b9_12 cnt.toInt p0.toInt x1.toInt x3.toInt n e9 t2 t4)) ms_J6_getChars_ba4f3 km_J5_248 rfl rfl ⟨Nat.le_of_ble_eq_true rfl, Nat.le_of_ble_eq_true rfl⟩ hK (fun _ => XPb.blind) (fun U hU hW => XPb.at hK hz hS hT hU hW) rfl hl.1 (Nat.le_of_ble_eq_true rfl) dJ5_append_c97b9_30 ⟨Nat.le_of_ble_eq_true rfl, Nat.le_of_ble_eq_true rfl⟩) hS ?_
  rintro _ ⟨q9, n10, k11⟩ H locs ⟨⟨x13, rfl⟩, t12⟩ hT hS
  have t12 : k11.toInt = cnt.toInt ∧ (((n10) : Nat) : Int) = (((n6) : Nat) : Int) := t12
  have hT : TWb E K F G q9 n10 k11 H := hT
  have v14 : 0 ≤ k11.toInt ∧ k11.toInt ≤ (((n10) : Nat) : Int) ∧ (((n10) : Nat) : Int) ≤ 100 := hT.inv
  refine lv_pop hx hb dJ5_append_c97b9_33 rfl ?_
  refine lv_goto (tgt := 48) hx hb dJ5_append_c97b9_34 (by decide) ?_
  refine lv_aload_n hx hb dJ5_append_c97b9_48 rfl (lv_at hl 2 rfl) ?_
  refine lv_iload_n hx hb dJ5_append_c97b9_49 rfl (lv_at hl 0 rfl) ?_
  refine sbp_count (x := x3) S hK hT hS kf_J5_79 (z_J5_append_c97b9_13 cnt.toInt k11.toInt p0.toInt x1.toInt x3.toInt n10 n6 n e9 t2 t4 t7 t12) dJ5_append_c97b9_50 (fun H locs hT hS => ?_)
  refine lv_aload_n hx hb dJ5_append_c97b9_53 rfl (lv_at hl 2 rfl) ?_
  exact x_ra hx hb hr (by first | exact Or.inl ⟨_, rfl⟩ | exact Or.inr ⟨_, rfl⟩) (by first | exact Or.inl rfl | exact Or.inr ⟨_, rfl⟩) hlk hQ (Nat.le_of_ble_eq_true rfl) (Nat.le_of_ble_eq_true rfl) hS dJ5_append_c97b9_54 (q9, n10, x3) ⟨rfl, (z_J5_append_c97b9_14 cnt.toInt k11.toInt p0.toInt x1.toInt x3.toInt n10 n6 t2 t4 t12 v14)⟩ hT

theorem z_J5_append_3fe6f_1 (a0 : Int) (a1 : Int) (a2 : Nat) (h0 : 0 ≤ a0 ∧ a0 ≤ ((a2 : Nat) : Int) ∧ ((a2 : Nat) : Int) ≤ 100) (h1 : a0 ≤ 47) (h2 : a1 = a0 + (1 : Int) ∨ a0 + (1 : Int) < -2147483648 ∨ 2147483648 ≤ a0 + (1 : Int)) : 0 ≤ a1 ∧ a1 ≤ 48 := by omega
theorem z_J5_append_3fe6f_2 (a0 : Int) (a1 : Int) (h0 : a0 ≤ 255) (h1 : a0 ≤ 255 → a1 = 1) (h2 : a1 = 0) : (0 : Int) = 1 ∧ a1 = a1 := by omega
theorem z_J5_append_3fe6f_3 (a0 : Int) (a1 : Int) (a2 : Int) (a3 : Nat) (a4 : Nat) (h0 : 0 ≤ a0 ∧ a0 ≤ ((a4 : Nat) : Int) ∧ ((a4 : Nat) : Int) ≤ 100) (h1 : a1 = a0 + (1 : Int) ∨ a0 + (1 : Int) < -2147483648 ∨ 2147483648 ≤ a0 + (1 : Int)) (h2 : a1 ≤ ((a3 : Nat) : Int) ∧ ((a4 : Nat) : Int) ≤ ((a3 : Nat) : Int)) (h3 : a2 = a0 + (1 : Int) ∨ a0 + (1 : Int) < -2147483648 ∨ 2147483648 ≤ a0 + (1 : Int)) : 0 ≤ a2 ∧ a2 ≤ ((a3 : Nat) : Int) := by omega
theorem z_J5_append_3fe6f_4 (a0 : Int) (a1 : Int) (a2 : Nat) (a3 : Nat) (h0 : 0 ≤ a0 ∧ a0 ≤ ((a3 : Nat) : Int) ∧ ((a3 : Nat) : Int) ≤ 100) (h1 : a1 = a0 + (1 : Int) ∨ a0 + (1 : Int) < -2147483648 ∨ 2147483648 ≤ a0 + (1 : Int)) (h2 : a1 ≤ ((a2 : Nat) : Int) ∧ ((a3 : Nat) : Int) ≤ ((a2 : Nat) : Int)) : 0 ≤ a0 ∧ a0 < ((a2 : Nat) : Int) := by omega
theorem z_J5_append_3fe6f_5 (a0 : Int) (a1 : Int) (a2 : Nat) (h0 : 0 ≤ a0 ∧ a0 ≤ ((a2 : Nat) : Int) ∧ ((a2 : Nat) : Int) ≤ 100) (h1 : a1 = a0 + (1 : Int) ∨ a0 + (1 : Int) < -2147483648 ∨ 2147483648 ≤ a0 + (1 : Int)) : a1 = a0 + 1 := by omega
abbrev rm_J5_append_3fe6f : Room := { frames := 4, cells := 1, slots := 100, locals := 104 }
set_option maxHeartbeats 4000000 in
set_option maxRecDepth 100000 in
theorem c_J5_append_3fe6f (l : Launch) (E : XE) (K : Nat → Nat) (F : Nat → Nat → Nat) (G : XG) (v n : Nat) (cnt : Int32) (p0 : Int32) (e1 : cnt.toInt ≤ 47) (e2 : p0.toInt ≤ 255) : Met l yJ5_append_3fe6f (xw yJ5_append_3fe6f cJ5_append_3fe6f 2 (some (.object "java/lang/AbstractStringBuilder"))) rm_J5_append_3fe6f (va_Pc [.ref E.2.2.2.1, .int p0] (XPb E K F G v n cnt)) (XQ E (fun v (u : Nat × Nat × Int32) => v = .ref E.2.2.2.1 ∧ u.2.2.toInt = cnt.toInt + 1) (fun u H => TWb E K F G u.1 u.2.1 u.2.2 H)) 1 100 (xA E) := by
  refine x_enter (by decide) (Nat.le_of_ble_eq_true rfl) ?_
  intro p e s m args below meth c Q S hr hlk hnm hQ hP ls hl
  obtain ⟨hz, hK, hT⟩ := hP
  obtain ⟨hx, hb, -, -, -⟩ := id S
  obtain ⟨H, hT, hS, hgo⟩ : ∃ H : Heap, TWb E K F G v n cnt H ∧ va_S (xA E) s.heap H [] ∧ H = s.heap := ⟨_, hT, va_S.rf, rfl⟩
  rw [← hgo]
  have hl : lv_has ls 2 [(0, .ref E.2.2.2.1), (1, .int p0)] := hl
  have e9 := hT.inv
  refine lv_aload_n hx hb dJ5_append_3fe6f_0 rfl (lv_at hl 0 rfl) ?_
  refine lv_aload_n hx hb dJ5_append_3fe6f_1 rfl (lv_at hl 0 rfl) ?_
  refine sbg_count S hK hT kf_J5_79 dJ5_append_3fe6f_2 ?_
  refine lv_iconst (v := 1) hx hb dJ5_append_3fe6f_5 (by decide) ?_
  refine xi_iadd hx hb (rfl : Int32.toInt cnt = cnt.toInt) ((by decide) : Int32.toInt 1 = (1 : Int)) dJ5_append_3fe6f_6 (fun x1 t2 => ?_)
  refine x_cv (x_runV (b := E.2.2.2.1) (As := [.int x1]) (rest := []) S (c_J5_ensureCapacityInternal_d00df l E K F G v n cnt x1 (z_J5_append_3fe6f_1 cnt.toInt x1.toInt n e9 e1 t2)) mw_J5_ensureCapacityInternal_d00df km_J5_100 rfl rfl ⟨Nat.le_of_ble_eq_true rfl, Nat.le_of_ble_eq_true rfl⟩ (rc_sb hK hT) hK (fun _ => XPb.blind) (fun U hU hW => XPb.at hK hz hS hT hU hW) rfl hl.1 (Nat.le_of_ble_eq_true rfl) dJ5_append_3fe6f_7 ⟨Nat.le_of_ble_eq_true rfl, Nat.le_of_ble_eq_true rfl⟩) hS ?_
  rintro ⟨q3, n4⟩ H locs t5 hT hS
  have t5 : x1.toInt ≤ (((n4) : Nat) : Int) ∧ (((n) : Nat) : Int) ≤ (((n4) : Nat) : Int) := t5
  have hT : TWb E K F G q3 n4 cnt H := hT
  have v6 : 0 ≤ cnt.toInt ∧ cnt.toInt ≤ (((n4) : Nat) : Int) ∧ (((n4) : Nat) : Int) ≤ 100 := hT.inv
  refine lv_aload_n hx hb dJ5_append_3fe6f_10 rfl (lv_at hl 0 rfl) ?_
  refine x_clp (x_runV (b := E.2.2.2.1) (As := []) (rest := []) S (c_J5_isLatin1_aae02 l E K F G q3 n4 cnt H ) mw_J5_isLatin1_aae02 km_J5_83 rfl rfl ⟨Nat.le_of_ble_eq_true rfl, Nat.le_of_ble_eq_true rfl⟩ (rc_sb hK hT) hK (fun _ => XPbh.blind) (fun U hU hW => XPbh.at hK hz hS hT hU hW) rfl hl.1 (Nat.le_of_ble_eq_true rfl) dJ5_append_3fe6f_11 ⟨Nat.le_of_ble_eq_true rfl, Nat.le_of_ble_eq_true rfl⟩) hS ?_
  rintro _ _ locs ⟨_, rfl, rfl⟩ hS
  refine xi_zeq (tgt := 45) hx hb ((by decide) : Int32.toInt 1 = (1 : Int)) dJ5_append_3fe6f_14 (by decide) (fun c => absurd c (show ¬ ((1 : Int) = 0) by decide)) (fun _ => ?_)
  refine lv_iload_n hx hb dJ5_append_3fe6f_17 rfl (lv_at hl 1 rfl) ?_
  refine x_clp (x_runS (As := [.int p0]) (rest := []) S (c_J1_canEncode_fc78d l E K F G H p0) ms_J1_canEncode_fc78d km_J5_191 rfl rfl ⟨Nat.le_of_ble_eq_true rfl, Nat.le_of_ble_eq_true rfl⟩ hK (fun _ => XPh.blind) (fun U hU hW => XPh.at hK hz hS hT.cl hU hW) rfl hl.1 (Nat.le_of_ble_eq_true rfl) dJ5_append_3fe6f_18 ⟨Nat.le_of_ble_eq_true rfl, Nat.le_of_ble_eq_true rfl⟩) hS ?_
  rintro _ _ locs ⟨x7, rfl, b8, t9⟩ hS
  have t9 : p0.toInt ≤ 255 → x7.toInt = 1 := t9
  refine xi_zeq (tgt := 45) hx hb (rfl : Int32.toInt x7 = x7.toInt) dJ5_append_3fe6f_21 (by decide) (fun c10 => ?_) (fun c10 => ?_)
  · exact absurd ((z_J5_append_3fe6f_2 p0.toInt x7.toInt e2 t9 c10)).1 (by decide)
  · refine lv_aload_n hx hb dJ5_append_3fe6f_24 rfl (lv_at hl 0 rfl) ?_
    refine sbg_value S hK hT kf_J5_15 dJ5_append_3fe6f_25 ?_
    refine lv_aload_n hx hb dJ5_append_3fe6f_28 rfl (lv_at hl 0 rfl) ?_
    refine lv_dup hx hb dJ5_append_3fe6f_29 rfl ?_
    refine sbg_count S hK hT kf_J5_79 dJ5_append_3fe6f_30 ?_
    refine lv_dup_x1 hx hb dJ5_append_3fe6f_33 rfl rfl ?_
    refine lv_iconst (v := 1) hx hb dJ5_append_3fe6f_34 (by decide) ?_
    refine xi_iadd hx hb (rfl : Int32.toInt cnt = cnt.toInt) ((by decide) : Int32.toInt 1 = (1 : Int)) dJ5_append_3fe6f_35 (fun x11 t12 => ?_)
    refine sbp_count (x := x11) S hK hT hS kf_J5_79 (z_J5_append_3fe6f_3 cnt.toInt x1.toInt x11.toInt n4 n e9 t2 t5 t12) dJ5_append_3fe6f_36 (fun H locs hT hS => ?_)
    refine lv_iload_n hx hb dJ5_append_3fe6f_39 rfl (lv_at hl 1 rfl) ?_
    refine lv_i2b hx hb dJ5_append_3fe6f_40 rfl (lv_topi (fun x13 _ => ?_))
    refine sb_st S hK hT hS (z_J5_append_3fe6f_4 cnt.toInt x1.toInt n4 n e9 t2 t5) dJ5_append_3fe6f_41 (fun H locs hT hS => ?_)
    refine lv_goto (tgt := 75) hx hb dJ5_append_3fe6f_42 (by decide) ?_
    refine lv_aload_n hx hb dJ5_append_3fe6f_75 rfl (lv_at hl 0 rfl) ?_
    exact x_ra hx hb hr (by first | exact Or.inl ⟨_, rfl⟩ | exact Or.inr ⟨_, rfl⟩) (by first | exact Or.inl rfl | exact Or.inr ⟨_, rfl⟩) hlk hQ (Nat.le_of_ble_eq_true rfl) (Nat.le_of_ble_eq_true rfl) hS dJ5_append_3fe6f_76 (q3, n4, x11) ⟨rfl, (z_J5_append_3fe6f_5 cnt.toInt x11.toInt n e9 t12)⟩ hT

theorem z_J5_setLength_d00df_1 (a0 : Nat) : 0 ≤ (0 : Int) ∧ (0 : Int) ≤ ((a0 : Nat) : Int) := by omega
theorem z_J5_setLength_d00df_3 (a0 : Int) (a1 : Nat) (h0 : 0 ≤ a0 ∧ a0 ≤ ((a1 : Nat) : Int) ∧ ((a1 : Nat) : Int) ≤ 100) (h1 : ¬ ((0 : Int) ≤ a0)) : (0 : Int) = 1 ∧ a0 = a0 := by omega
abbrev rm_J5_setLength_d00df : Room := { frames := 4, cells := 1, slots := 100, locals := 104 }
set_option maxHeartbeats 4000000 in
set_option maxRecDepth 100000 in
theorem c_J5_setLength_d00df (l : Launch) (E : XE) (K : Nat → Nat) (F : Nat → Nat → Nat) (G : XG) (v n : Nat) (cnt : Int32)   : Met l yJ5_setLength_d00df (xw yJ5_setLength_d00df cJ5_setLength_d00df 2 none) rm_J5_setLength_d00df (va_Pc [.ref E.2.2.2.1, .int 0] (XPb E K F G v n cnt)) (XQv E (fun (u : Nat × Nat × Int32) => u.2.2.toInt = 0) (fun u H => TWb E K F G u.1 u.2.1 u.2.2 H)) 1 100 (xA E) := by
  refine x_enter (by decide) (Nat.le_of_ble_eq_true rfl) ?_
  intro p e s m args below meth c Q S hr hlk hnm hQ hP ls hl
  obtain ⟨hz, hK, hT⟩ := hP
  obtain ⟨hx, hb, -, -, -⟩ := id S
  obtain ⟨H, hT, hS, hgo⟩ : ∃ H : Heap, TWb E K F G v n cnt H ∧ va_S (xA E) s.heap H [] ∧ H = s.heap := ⟨_, hT, va_S.rf, rfl⟩
  rw [← hgo]
  have hl : lv_has ls 2 [(0, .ref E.2.2.2.1), (1, .int 0)] := hl
  have e9 := hT.inv
  refine lv_iload_n hx hb dJ5_setLength_d00df_0 rfl (lv_at hl 1 rfl) ?_
  refine xi_zge (tgt := 13) hx hb ((by decide) : Int32.toInt 0 = (0 : Int)) dJ5_setLength_d00df_1 (by decide) (fun _ => ?_) (fun c => absurd (show 0 ≤ (0 : Int) by decide) c)
  refine lv_aload_n hx hb dJ5_setLength_d00df_13 rfl (lv_at hl 0 rfl) ?_
  refine lv_iload_n hx hb dJ5_setLength_d00df_14 rfl (lv_at hl 1 rfl) ?_
  refine x_cv (x_runV (b := E.2.2.2.1) (As := [.int 0]) (rest := []) S (c_J5_ensureCapacityInternal_d00df l E K F G v n cnt 0 (by decide)) mw_J5_ensureCapacityInternal_d00df km_J5_100 rfl rfl ⟨Nat.le_of_ble_eq_true rfl, Nat.le_of_ble_eq_true rfl⟩ (rc_sb hK hT) hK (fun _ => XPb.blind) (fun U hU hW => XPb.at hK hz hS hT hU hW) rfl hl.1 (Nat.le_of_ble_eq_true rfl) dJ5_setLength_d00df_15 ⟨Nat.le_of_ble_eq_true rfl, Nat.le_of_ble_eq_true rfl⟩) hS ?_
  rintro ⟨q1, n2⟩ H locs t3 hT hS
  have t3 : (0 : Int) ≤ (((n2) : Nat) : Int) ∧ (((n) : Nat) : Int) ≤ (((n2) : Nat) : Int) := t3
  have hT : TWb E K F G q1 n2 cnt H := hT
  have v4 : 0 ≤ cnt.toInt ∧ cnt.toInt ≤ (((n2) : Nat) : Int) ∧ (((n2) : Nat) : Int) ≤ 100 := hT.inv
  refine lv_aload_n hx hb dJ5_setLength_d00df_18 rfl (lv_at hl 0 rfl) ?_
  refine sbg_count S hK hT kf_J5_79 dJ5_setLength_d00df_19 ?_
  refine lv_iload_n hx hb dJ5_setLength_d00df_22 rfl (lv_at hl 1 rfl) ?_
  refine xi_cge (tgt := 63) hx hb (rfl : Int32.toInt cnt = cnt.toInt) ((by decide) : Int32.toInt 0 = (0 : Int)) dJ5_setLength_d00df_23 (by decide) (fun c5 => ?_) (fun c5 => ?_)
  · refine lv_aload_n hx hb dJ5_setLength_d00df_63 rfl (lv_at hl 0 rfl) ?_
    refine sbg_count S hK hT kf_J5_79 dJ5_setLength_d00df_64 ?_
    refine lv_iload_n hx hb dJ5_setLength_d00df_67 rfl (lv_at hl 1 rfl) ?_
    refine xi_cle (tgt := 76) hx hb (rfl : Int32.toInt cnt = cnt.toInt) ((by decide) : Int32.toInt 0 = (0 : Int)) dJ5_setLength_d00df_68 (by decide) (fun c6 => ?_) (fun c6 => ?_)
    · refine lv_aload_n hx hb dJ5_setLength_d00df_76 rfl (lv_at hl 0 rfl) ?_
      refine lv_iload_n hx hb dJ5_setLength_d00df_77 rfl (lv_at hl 1 rfl) ?_
      refine sbp_count (x := 0) S hK hT hS kf_J5_79 (by rw [show Int32.toInt 0 = (0 : Int) from by decide]; exact (z_J5_setLength_d00df_1 n2)) dJ5_setLength_d00df_78 (fun H locs hT hS => ?_)
      exact x_rv hx hb hr hlk hQ (Nat.le_of_ble_eq_true rfl) (Nat.le_of_ble_eq_true rfl) hS dJ5_setLength_d00df_81 (q1, n2, 0) (show (0 : Int) = 0 by decide) hT
    · refine lv_aload_n hx hb dJ5_setLength_d00df_71 rfl (lv_at hl 0 rfl) ?_
      refine lv_iconst (v := 1) hx hb dJ5_setLength_d00df_72 (by decide) ?_
      refine sbp_maybe (x := 1) S hK hT hS kf_J5_73 (Or.inr rfl) dJ5_setLength_d00df_73 (fun H locs hT hS => ?_)
      refine lv_aload_n hx hb dJ5_setLength_d00df_76 rfl (lv_at hl 0 rfl) ?_
      refine lv_iload_n hx hb dJ5_setLength_d00df_77 rfl (lv_at hl 1 rfl) ?_
      refine sbp_count (x := 0) S hK hT hS kf_J5_79 (by rw [show Int32.toInt 0 = (0 : Int) from by decide]; exact (z_J5_setLength_d00df_1 n2)) dJ5_setLength_d00df_78 (fun H locs hT hS => ?_)
      exact x_rv hx hb hr hlk hQ (Nat.le_of_ble_eq_true rfl) (Nat.le_of_ble_eq_true rfl) hS dJ5_setLength_d00df_81 (q1, n2, 0) (show (0 : Int) = 0 by decide) hT
  · exact absurd ((z_J5_setLength_d00df_3 cnt.toInt n e9 c5)).1 (by decide)
theorem xlen6 {i : Nat} (h : i < 6) : ((xlen.getD i 0 : Nat) : Int) ≤ 6 := by
  have : ∀ j, j < 6 → xlen.getD j 0 ≤ 6 := by decide
  have := this i h
  omega
abbrev rm_J4_append_15ec4 : Room := { frames := 5, cells := 1, slots := 100, locals := 127 }
set_option maxHeartbeats 4000000 in
set_option maxRecDepth 100000 in
theorem c_J4_append_15ec4 (l : Launch) (E : XE) (K : Nat → Nat) (F : Nat → Nat → Nat) (G : XG) (v n : Nat) (cnt : Int32) (i0 : Nat) (hi0 : i0 < 13) (e1 : cnt.toInt + (((xlen.getD i0 0) : Nat) : Int) ≤ 48) : Met l yJ4_append_15ec4 (xw yJ4_append_15ec4 cJ4_append_15ec4 2 (some (.object "java/lang/StringBuilder"))) rm_J4_append_15ec4 (va_Pc [.ref E.2.2.2.1, .ref (E.2.2.2.2.1 i0)] (XPb E K F G v n cnt)) (XQ E (fun v (u : Nat × Nat × Int32) => v = .ref E.2.2.2.1 ∧ u.2.2.toInt = cnt.toInt + ((xlen.getD i0 0 : Nat) : Int)) (fun u H => TWb E K F G u.1 u.2.1 u.2.2 H)) 1 100 (xA E) := by
  refine x_enter (by decide) (Nat.le_of_ble_eq_true rfl) ?_
  intro p e s m args below meth c Q S hr hlk hnm hQ hP ls hl
  obtain ⟨hz, hK, hT⟩ := hP
  obtain ⟨hx, hb, -, -, -⟩ := id S
  obtain ⟨H, hT, hS, hgo⟩ : ∃ H : Heap, TWb E K F G v n cnt H ∧ va_S (xA E) s.heap H [] ∧ H = s.heap := ⟨_, hT, va_S.rf, rfl⟩
  rw [← hgo]
  have hl : lv_has ls 2 [(0, .ref E.2.2.2.1), (1, .ref (E.2.2.2.2.1 i0))] := hl
  have e9 := hT.inv
  refine lv_aload_n hx hb dJ4_append_15ec4_0 rfl (lv_at hl 0 rfl) ?_
  refine lv_aload_n hx hb dJ4_append_15ec4_1 rfl (lv_at hl 1 rfl) ?_
  obtain ⟨cC, hat⟩ := x_atJ4 hK
  refine x_cl (x_runSU hat (b := E.2.2.2.1) (As := [.ref (E.2.2.2.2.1 i0)]) (rest := []) S (c_J5_append_cf1ce l E K F G v n cnt i0 hi0 (e1)) mu_J5_append_cf1ce rfl (by decide) km_J4_29 rfl rfl ⟨Nat.le_of_ble_eq_true rfl, Nat.le_of_ble_eq_true rfl⟩ (rc_sb hK hT) hK (fun _ => XPb.blind) (fun U hU hW => XPb.at hK hz hS hT hU hW) rfl hl.1 (Nat.le_of_ble_eq_true rfl) dJ4_append_15ec4_2 ⟨Nat.le_of_ble_eq_true rfl, Nat.le_of_ble_eq_true rfl⟩) hS ?_
  rintro _ ⟨q1, n2, k3⟩ H locs ⟨rfl, t4⟩ hT hS
  have t4 : k3.toInt = cnt.toInt + (((xlen.getD i0 0) : Nat) : Int) := t4
  have hT : TWb E K F G q1 n2 k3 H := hT
  have v6 : 0 ≤ k3.toInt ∧ k3.toInt ≤ (((n2) : Nat) : Int) ∧ (((n2) : Nat) : Int) ≤ 100 := hT.inv
  refine lv_pop hx hb dJ4_append_15ec4_5 rfl ?_
  refine lv_aload_n hx hb dJ4_append_15ec4_6 rfl (lv_at hl 0 rfl) ?_
  exact x_ra hx hb hr (by first | exact Or.inl ⟨_, rfl⟩ | exact Or.inr ⟨_, rfl⟩) (by first | exact Or.inl rfl | exact Or.inr ⟨_, rfl⟩) hlk hQ (Nat.le_of_ble_eq_true rfl) (Nat.le_of_ble_eq_true rfl) hS dJ4_append_15ec4_7 (q1, n2, k3) ⟨rfl, (t4)⟩ hT

abbrev rm_J4_append_bf812 : Room := { frames := 5, cells := 1, slots := 100, locals := 127 }
set_option maxHeartbeats 4000000 in
set_option maxRecDepth 100000 in
theorem c_J4_append_bf812 (l : Launch) (E : XE) (K : Nat → Nat) (F : Nat → Nat → Nat) (G : XG) (v n : Nat) (cnt : Int32) (p0 : Int32) (e1 : cnt.toInt ≤ 37) : Met l yJ4_append_bf812 (xw yJ4_append_bf812 cJ4_append_bf812 2 (some (.object "java/lang/StringBuilder"))) rm_J4_append_bf812 (va_Pc [.ref E.2.2.2.1, .int p0] (XPb E K F G v n cnt)) (XQ E (fun v (u : Nat × Nat × Int32) => v = .ref E.2.2.2.1 ∧ cnt.toInt ≤ u.2.2.toInt ∧ u.2.2.toInt ≤ cnt.toInt + 11) (fun u H => TWb E K F G u.1 u.2.1 u.2.2 H)) 1 100 (xA E) := by
  refine x_enter (by decide) (Nat.le_of_ble_eq_true rfl) ?_
  intro p e s m args below meth c Q S hr hlk hnm hQ hP ls hl
  obtain ⟨hz, hK, hT⟩ := hP
  obtain ⟨hx, hb, -, -, -⟩ := id S
  obtain ⟨H, hT, hS, hgo⟩ : ∃ H : Heap, TWb E K F G v n cnt H ∧ va_S (xA E) s.heap H [] ∧ H = s.heap := ⟨_, hT, va_S.rf, rfl⟩
  rw [← hgo]
  have hl : lv_has ls 2 [(0, .ref E.2.2.2.1), (1, .int p0)] := hl
  have e9 := hT.inv
  refine lv_aload_n hx hb dJ4_append_bf812_0 rfl (lv_at hl 0 rfl) ?_
  refine lv_iload_n hx hb dJ4_append_bf812_1 rfl (lv_at hl 1 rfl) ?_
  obtain ⟨cC, hat⟩ := x_atJ4 hK
  refine x_cl (x_runSU hat (b := E.2.2.2.1) (As := [.int p0]) (rest := []) S (c_J5_append_c97b9 l E K F G v n cnt p0 (e1)) mu_J5_append_c97b9 rfl (by decide) km_J4_53 rfl rfl ⟨Nat.le_of_ble_eq_true rfl, Nat.le_of_ble_eq_true rfl⟩ (rc_sb hK hT) hK (fun _ => XPb.blind) (fun U hU hW => XPb.at hK hz hS hT hU hW) rfl hl.1 (Nat.le_of_ble_eq_true rfl) dJ4_append_bf812_2 ⟨Nat.le_of_ble_eq_true rfl, Nat.le_of_ble_eq_true rfl⟩) hS ?_
  rintro _ ⟨q1, n2, k3⟩ H locs ⟨rfl, t4⟩ hT hS
  have t4 : cnt.toInt ≤ k3.toInt ∧ k3.toInt ≤ cnt.toInt + 11 := t4
  have hT : TWb E K F G q1 n2 k3 H := hT
  have v6 : 0 ≤ k3.toInt ∧ k3.toInt ≤ (((n2) : Nat) : Int) ∧ (((n2) : Nat) : Int) ≤ 100 := hT.inv
  refine lv_pop hx hb dJ4_append_bf812_5 rfl ?_
  refine lv_aload_n hx hb dJ4_append_bf812_6 rfl (lv_at hl 0 rfl) ?_
  exact x_ra hx hb hr (by first | exact Or.inl ⟨_, rfl⟩ | exact Or.inr ⟨_, rfl⟩) (by first | exact Or.inl rfl | exact Or.inr ⟨_, rfl⟩) hlk hQ (Nat.le_of_ble_eq_true rfl) (Nat.le_of_ble_eq_true rfl) hS dJ4_append_bf812_7 (q1, n2, k3) ⟨rfl, (t4)⟩ hT

abbrev rm_J4_append_cf468 : Room := { frames := 5, cells := 1, slots := 100, locals := 125 }
set_option maxHeartbeats 4000000 in
set_option maxRecDepth 100000 in
theorem c_J4_append_cf468 (l : Launch) (E : XE) (K : Nat → Nat) (F : Nat → Nat → Nat) (G : XG) (v n : Nat) (cnt : Int32) (p0 : Int32) (e1 : cnt.toInt ≤ 47) (e2 : p0.toInt ≤ 255) : Met l yJ4_append_cf468 (xw yJ4_append_cf468 cJ4_append_cf468 2 (some (.object "java/lang/StringBuilder"))) rm_J4_append_cf468 (va_Pc [.ref E.2.2.2.1, .int p0] (XPb E K F G v n cnt)) (XQ E (fun v (u : Nat × Nat × Int32) => v = .ref E.2.2.2.1 ∧ u.2.2.toInt = cnt.toInt + 1) (fun u H => TWb E K F G u.1 u.2.1 u.2.2 H)) 1 100 (xA E) := by
  refine x_enter (by decide) (Nat.le_of_ble_eq_true rfl) ?_
  intro p e s m args below meth c Q S hr hlk hnm hQ hP ls hl
  obtain ⟨hz, hK, hT⟩ := hP
  obtain ⟨hx, hb, -, -, -⟩ := id S
  obtain ⟨H, hT, hS, hgo⟩ : ∃ H : Heap, TWb E K F G v n cnt H ∧ va_S (xA E) s.heap H [] ∧ H = s.heap := ⟨_, hT, va_S.rf, rfl⟩
  rw [← hgo]
  have hl : lv_has ls 2 [(0, .ref E.2.2.2.1), (1, .int p0)] := hl
  have e9 := hT.inv
  refine lv_aload_n hx hb dJ4_append_cf468_0 rfl (lv_at hl 0 rfl) ?_
  refine lv_iload_n hx hb dJ4_append_cf468_1 rfl (lv_at hl 1 rfl) ?_
  obtain ⟨cC, hat⟩ := x_atJ4 hK
  refine x_cl (x_runSU hat (b := E.2.2.2.1) (As := [.int p0]) (rest := []) S (c_J5_append_3fe6f l E K F G v n cnt p0 (e1) (e2)) mu_J5_append_3fe6f rfl (by decide) km_J4_50 rfl rfl ⟨Nat.le_of_ble_eq_true rfl, Nat.le_of_ble_eq_true rfl⟩ (rc_sb hK hT) hK (fun _ => XPb.blind) (fun U hU hW => XPb.at hK hz hS hT hU hW) rfl hl.1 (Nat.le_of_ble_eq_true rfl) dJ4_append_cf468_2 ⟨Nat.le_of_ble_eq_true rfl, Nat.le_of_ble_eq_true rfl⟩) hS ?_
  rintro _ ⟨q1, n2, k3⟩ H locs ⟨rfl, t4⟩ hT hS
  have t4 : k3.toInt = cnt.toInt + 1 := t4
  have hT : TWb E K F G q1 n2 k3 H := hT
  have v6 : 0 ≤ k3.toInt ∧ k3.toInt ≤ (((n2) : Nat) : Int) ∧ (((n2) : Nat) : Int) ≤ 100 := hT.inv
  refine lv_pop hx hb dJ4_append_cf468_5 rfl ?_
  refine lv_aload_n hx hb dJ4_append_cf468_6 rfl (lv_at hl 0 rfl) ?_
  exact x_ra hx hb hr (by first | exact Or.inl ⟨_, rfl⟩ | exact Or.inr ⟨_, rfl⟩) (by first | exact Or.inl rfl | exact Or.inr ⟨_, rfl⟩) hlk hQ (Nat.le_of_ble_eq_true rfl) (Nat.le_of_ble_eq_true rfl) hS dJ4_append_cf468_7 (q1, n2, k3) ⟨rfl, (t4)⟩ hT

abbrev rm_J4_setLength_d00df : Room := { frames := 5, cells := 1, slots := 100, locals := 125 }
set_option maxHeartbeats 4000000 in
set_option maxRecDepth 100000 in
theorem c_J4_setLength_d00df (l : Launch) (E : XE) (K : Nat → Nat) (F : Nat → Nat → Nat) (G : XG) (v n : Nat) (cnt : Int32)   : Met l yJ4_setLength_d00df (xw yJ4_setLength_d00df cJ4_setLength_d00df 2 none) rm_J4_setLength_d00df (va_Pc [.ref E.2.2.2.1, .int 0] (XPb E K F G v n cnt)) (XQv E (fun (u : Nat × Nat × Int32) => u.2.2.toInt = 0) (fun u H => TWb E K F G u.1 u.2.1 u.2.2 H)) 1 100 (xA E) := by
  refine x_enter (by decide) (Nat.le_of_ble_eq_true rfl) ?_
  intro p e s m args below meth c Q S hr hlk hnm hQ hP ls hl
  obtain ⟨hz, hK, hT⟩ := hP
  obtain ⟨hx, hb, -, -, -⟩ := id S
  obtain ⟨H, hT, hS, hgo⟩ : ∃ H : Heap, TWb E K F G v n cnt H ∧ va_S (xA E) s.heap H [] ∧ H = s.heap := ⟨_, hT, va_S.rf, rfl⟩
  rw [← hgo]
  have hl : lv_has ls 2 [(0, .ref E.2.2.2.1), (1, .int 0)] := hl
  have e9 := hT.inv
  refine lv_aload_n hx hb dJ4_setLength_d00df_0 rfl (lv_at hl 0 rfl) ?_
  refine lv_iload_n hx hb dJ4_setLength_d00df_1 rfl (lv_at hl 1 rfl) ?_
  obtain ⟨cC, hat⟩ := x_atJ4 hK
  refine x_cv (x_runSU hat (b := E.2.2.2.1) (As := [.int 0]) (rest := []) S (c_J5_setLength_d00df l E K F G v n cnt ) mu_J5_setLength_d00df rfl (by decide) km_J4_333 rfl rfl ⟨Nat.le_of_ble_eq_true rfl, Nat.le_of_ble_eq_true rfl⟩ (rc_sb hK hT) hK (fun _ => XPb.blind) (fun U hU hW => XPb.at hK hz hS hT hU hW) rfl hl.1 (Nat.le_of_ble_eq_true rfl) dJ4_setLength_d00df_2 ⟨Nat.le_of_ble_eq_true rfl, Nat.le_of_ble_eq_true rfl⟩) hS ?_
  rintro ⟨q1, n2, k3⟩ H locs t4 hT hS
  have t4 : k3.toInt = 0 := t4
  have hT : TWb E K F G q1 n2 k3 H := hT
  have v6 : 0 ≤ k3.toInt ∧ k3.toInt ≤ (((n2) : Nat) : Int) ∧ (((n2) : Nat) : Int) ≤ 100 := hT.inv
  exact x_rv hx hb hr hlk hQ (Nat.le_of_ble_eq_true rfl) (Nat.le_of_ble_eq_true rfl) hS dJ4_setLength_d00df_5 (q1, n2, k3) (t4) hT

abbrev rm_J4_length_8abf5 : Room := { frames := 1, cells := 0, slots := 0, locals := 20 }
set_option maxHeartbeats 4000000 in
set_option maxRecDepth 100000 in
theorem c_J4_length_8abf5 (l : Launch) (E : XE) (K : Nat → Nat) (F : Nat → Nat → Nat) (G : XG) (v n : Nat) (cnt : Int32) (h0 : Heap)   : Met l yJ4_length_8abf5 (xw yJ4_length_8abf5 cJ4_length_8abf5 1 (some .int)) rm_J4_length_8abf5 (va_Pc [.ref E.2.2.2.1] (XPbh E K F G v n cnt h0)) (XQ E (fun v (u : Unit) => ∃ r : Int32, v = .int r ∧ (r.toInt = cnt.toInt)) (fun _ H => H = h0)) 0 0 (xA E) := by
  refine x_enter (by decide) (Nat.le_of_ble_eq_true rfl) ?_
  intro p e s m args below meth c Q S hr hlk hnm hQ hP ls hl
  obtain ⟨⟨hz, hK, hT⟩, hh⟩ := hP
  obtain ⟨hx, hb, -, -, -⟩ := id S
  have hS : va_S (xA E) s.heap s.heap [] := va_S.rf
  have hl : lv_has ls 1 [(0, .ref E.2.2.2.1)] := hl
  have e9 := hT.inv
  refine lv_aload_n hx hb dJ4_length_8abf5_0 rfl (lv_at hl 0 rfl) ?_
  obtain ⟨cC, hat⟩ := x_atJ4 hK
  refine x_clp (x_runSU hat (b := E.2.2.2.1) (As := []) (rest := []) S (c_J5_length_8abf5 l E K F G v n cnt s.heap ) mu_J5_length_8abf5 rfl (by decide) km_J4_343 rfl rfl ⟨Nat.le_of_ble_eq_true rfl, Nat.le_of_ble_eq_true rfl⟩ (rc_sb hK hT) hK (fun _ => XPbh.blind) (fun U hU hW => XPbh.at hK hz hS hT hU hW) rfl hl.1 (Nat.le_of_ble_eq_true rfl) dJ4_length_8abf5_1 ⟨Nat.le_of_ble_eq_true rfl, Nat.le_of_ble_eq_true rfl⟩) hS ?_
  rintro _ _ locs ⟨x1, rfl, t2⟩ hS
  have t2 : x1.toInt = cnt.toInt := t2
  exact x_ri hx hb hr hlk hQ (Nat.le_of_ble_eq_true rfl) (Nat.le_of_ble_eq_true rfl) hS dJ4_length_8abf5_4 () ⟨_, rfl, (t2)⟩ hh

abbrev rm_J4_charAt_5068e : Room := { frames := 3, cells := 0, slots := 0, locals := 67 }
set_option maxHeartbeats 4000000 in
set_option maxRecDepth 100000 in
theorem c_J4_charAt_5068e (l : Launch) (E : XE) (K : Nat → Nat) (F : Nat → Nat → Nat) (G : XG) (v n : Nat) (cnt : Int32) (h0 : Heap) (p0 : Int32) (e1 : 0 ≤ p0.toInt ∧ p0.toInt < cnt.toInt) : Met l yJ4_charAt_5068e (xw yJ4_charAt_5068e cJ4_charAt_5068e 2 (some .char)) rm_J4_charAt_5068e (va_Pc [.ref E.2.2.2.1, .int p0] (XPbh E K F G v n cnt h0)) (XQ E (fun v (u : Unit) => ∃ r : Int32, v = .int r ∧ xok 1 r) (fun _ H => H = h0)) 0 0 (xA E) := by
  refine x_enter (by decide) (Nat.le_of_ble_eq_true rfl) ?_
  intro p e s m args below meth c Q S hr hlk hnm hQ hP ls hl
  obtain ⟨⟨hz, hK, hT⟩, hh⟩ := hP
  obtain ⟨hx, hb, -, -, -⟩ := id S
  have hS : va_S (xA E) s.heap s.heap [] := va_S.rf
  have hl : lv_has ls 2 [(0, .ref E.2.2.2.1), (1, .int p0)] := hl
  have e9 := hT.inv
  refine lv_aload_n hx hb dJ4_charAt_5068e_0 rfl (lv_at hl 0 rfl) ?_
  refine lv_iload_n hx hb dJ4_charAt_5068e_1 rfl (lv_at hl 1 rfl) ?_
  obtain ⟨cC, hat⟩ := x_atJ4 hK
  refine x_clp (x_runSU hat (b := E.2.2.2.1) (As := [.int p0]) (rest := []) S (c_J5_charAt_5068e l E K F G v n cnt s.heap p0 (e1)) mu_J5_charAt_5068e rfl (by decide) km_J4_329 rfl rfl ⟨Nat.le_of_ble_eq_true rfl, Nat.le_of_ble_eq_true rfl⟩ (rc_sb hK hT) hK (fun _ => XPbh.blind) (fun U hU hW => XPbh.at hK hz hS hT hU hW) rfl hl.1 (Nat.le_of_ble_eq_true rfl) dJ4_charAt_5068e_2 ⟨Nat.le_of_ble_eq_true rfl, Nat.le_of_ble_eq_true rfl⟩) hS ?_
  rintro _ _ locs ⟨x1, rfl, o2⟩ hS
  exact x_rz hx hb hr o2 hlk hQ (Nat.le_of_ble_eq_true rfl) (Nat.le_of_ble_eq_true rfl) hS dJ4_charAt_5068e_5 () ⟨_, rfl, o2⟩ hh
theorem v_X11_firstFailing_43_1 {K : Nat → Nat} {F : Nat → Nat → Nat} (a : Nat) (G : XG) (l1_2 : Int32) (N2 : Nat)
    (ha : K a = 13)
    (pf : ∀ j : Int, 0 ≤ j → j < l1_2.toInt → fzq (G.2.1 (F a 10)) (mw (G.2.1 (F a 1)) 0) (aI (G.2.1 (F a 17)) j) (aI (G.2.1 (F a 18)) j) = 0)
    (s0 : 0 ≤ ((G.1 a 19).toInt) ∧ ((G.1 a 19).toInt) ≤ 2400)
    (I2_0 : 0 ≤ l1_2.toInt ∧ l1_2.toInt ≤ ((G.1 a 19).toInt))
    (I2_1 : (0 : Int) ≤ l1_2.toInt)
    (hm2 : 2147483648 - l1_2.toInt < (((N2) + 1 : Nat) : Int))
    (c7 : ((G.1 a 19).toInt) ≤ l1_2.toInt) :
    (-1 : Int) = ffP (G.2.1 (F a 10)) (mw (G.2.1 (F a 1)) 0) (pL G F a) := by
  first
    | exact ffP_eq (Or.inl rfl) (fun j h1 h2 _ => pf j h1 (by omega))
    | (refine ffP_eq (Or.inr ⟨by omega, by omega, ?_⟩) (fun j h1 h2 h3 => pf j h1 (by omega))
       have h01 := flq01 (mw (G.2.1 (F a 1)) 0) (aI (G.2.1 (F a 10)) (10 * aI (G.2.1 (F a 17)) l1_2.toInt + 0)) (aI (G.2.1 (F a 10)) (10 * aI (G.2.1 (F a 17)) l1_2.toInt + 1)) (aI (G.2.1 (F a 10)) (10 * aI (G.2.1 (F a 17)) l1_2.toInt + 2)) (aI (G.2.1 (F a 10)) (10 * aI (G.2.1 (F a 17)) l1_2.toInt + 4)) (aI (G.2.1 (F a 10)) (10 * aI (G.2.1 (F a 17)) l1_2.toInt + 5)) (aI (G.2.1 (F a 18)) l1_2.toInt) (stt (mw (G.2.1 (F a 1)) 0) (aI (G.2.1 (F a 10)) (10 * aI (G.2.1 (F a 17)) l1_2.toInt + 0)) (aI (G.2.1 (F a 10)) (10 * aI (G.2.1 (F a 17)) l1_2.toInt + 1)) (aI (G.2.1 (F a 10)) (10 * aI (G.2.1 (F a 17)) l1_2.toInt + 2)) (aI (G.2.1 (F a 10)) (10 * aI (G.2.1 (F a 17)) l1_2.toInt + 3)) (aI (G.2.1 (F a 18)) l1_2.toInt))
       show flq _ _ _ _ _ _ _ _ = 1
       omega)
theorem v_X11_firstFailing_28_2 {F : Nat → Nat → Nat} (a : Nat) (G : XG)
    (hR : RV (G.2.1 (F a 10))) :
    RV (G.2.1 (F a 10)) := by exact hR
theorem v_X11_firstFailing_28_3 {K : Nat → Nat} {F : Nat → Nat → Nat} (a : Nat) (G : XG) (l1_2 : Int32) (x16 : Int32) (x22 : Int32) (N2 : Nat)
    (ha : K a = 13)
    (hk9999 : K (F a 17) = 43)
    (hj9999 : F (F a 17) 99 = 17)
    (hk9999a : K (F a 18) = 44)
    (hj9999a : F (F a 18) 99 = 18)
    (hk9999b : K (F a 10) = 37)
    (hj9999b : F (F a 10) 99 = 10)
    (hk9999c : K (F a 1) = 30)
    (hj9999c : F (F a 1) 99 = 1)
    (hR : RV (G.2.1 (F a 10)))
    (hM : RM (G.2.1 (F a 1)) (0))
    (hv : PV (G.2.1 (F a 10)) (pL G F a))
    (pf : ∀ j : Int, 0 ≤ j → j < l1_2.toInt → fzq (G.2.1 (F a 10)) (mw (G.2.1 (F a 1)) 0) (aI (G.2.1 (F a 17)) j) (aI (G.2.1 (F a 18)) j) = 0)
    (hv16 : x16.toInt = (aI (G.2.1 (F a 17)) (l1_2.toInt)))
    (hv22 : x22.toInt = (aI (G.2.1 (F a 18)) (l1_2.toInt)))
    (s0 : 0 ≤ ((G.1 a 19).toInt) ∧ ((G.1 a 19).toInt) ≤ 2400)
    (I2_0 : 0 ≤ l1_2.toInt ∧ l1_2.toInt ≤ ((G.1 a 19).toInt))
    (I2_1 : (0 : Int) ≤ l1_2.toInt)
    (hm2 : 2147483648 - l1_2.toInt < (((N2) + 1 : Nat) : Int))
    (c7 : ¬ (((G.1 a 19).toInt) ≤ l1_2.toInt))
    (z10 : (0 ≤ (aI (G.2.1 (F a 17)) (l1_2.toInt)) ∧ (aI (G.2.1 (F a 17)) (l1_2.toInt)) ≤ 11) ∧ (aI (G.2.1 (F a 10)) (10 * (aI (G.2.1 (F a 17)) (l1_2.toInt)) + 0)) ≠ -1 ∧ ((sF (aI (G.2.1 (F a 10)) (10 * (aI (G.2.1 (F a 17)) (l1_2.toInt)) + 0))) ≤ (aI (G.2.1 (F a 18)) (l1_2.toInt)) ∧ (aI (G.2.1 (F a 18)) (l1_2.toInt)) ≤ (sL (aI (G.2.1 (F a 10)) (10 * (aI (G.2.1 (F a 17)) (l1_2.toInt)) + 0))))) :
    RM (G.2.1 (F a 1)) (0 : Int) := by
  first | assumption | omega
theorem v_X11_firstFailing_39_4 {K : Nat → Nat} {F : Nat → Nat → Nat} (a : Nat) (G : XG) (l1_2 : Int32) (N2 : Nat) (x28 : Int32)
    (ha : K a = 13)
    (pf : ∀ j : Int, 0 ≤ j → j < l1_2.toInt → fzq (G.2.1 (F a 10)) (mw (G.2.1 (F a 1)) 0) (aI (G.2.1 (F a 17)) j) (aI (G.2.1 (F a 18)) j) = 0)
    (s0 : 0 ≤ ((G.1 a 19).toInt) ∧ ((G.1 a 19).toInt) ≤ 2400)
    (I2_0 : 0 ≤ l1_2.toInt ∧ l1_2.toInt ≤ ((G.1 a 19).toInt))
    (I2_1 : (0 : Int) ≤ l1_2.toInt)
    (hm2 : 2147483648 - l1_2.toInt < (((N2) + 1 : Nat) : Int))
    (c7 : ¬ (((G.1 a 19).toInt) ≤ l1_2.toInt))
    (z10 : (0 ≤ (aI (G.2.1 (F a 17)) (l1_2.toInt)) ∧ (aI (G.2.1 (F a 17)) (l1_2.toInt)) ≤ 11) ∧ (aI (G.2.1 (F a 10)) (10 * (aI (G.2.1 (F a 17)) (l1_2.toInt)) + 0)) ≠ -1 ∧ ((sF (aI (G.2.1 (F a 10)) (10 * (aI (G.2.1 (F a 17)) (l1_2.toInt)) + 0))) ≤ (aI (G.2.1 (F a 18)) (l1_2.toInt)) ∧ (aI (G.2.1 (F a 18)) (l1_2.toInt)) ≤ (sL (aI (G.2.1 (F a 10)) (10 * (aI (G.2.1 (F a 17)) (l1_2.toInt)) + 0)))))
    (t28 : x28.toInt = (flq (mw (G.2.1 (F a 1)) 0) (aI (G.2.1 (F a 10)) (10 * (aI (G.2.1 (F a 17)) (l1_2.toInt)) + 0)) (aI (G.2.1 (F a 10)) (10 * (aI (G.2.1 (F a 17)) (l1_2.toInt)) + 1)) (aI (G.2.1 (F a 10)) (10 * (aI (G.2.1 (F a 17)) (l1_2.toInt)) + 2)) (aI (G.2.1 (F a 10)) (10 * (aI (G.2.1 (F a 17)) (l1_2.toInt)) + 4)) (aI (G.2.1 (F a 10)) (10 * (aI (G.2.1 (F a 17)) (l1_2.toInt)) + 5)) (aI (G.2.1 (F a 18)) (l1_2.toInt)) (stt (mw (G.2.1 (F a 1)) 0) (aI (G.2.1 (F a 10)) (10 * (aI (G.2.1 (F a 17)) (l1_2.toInt)) + 0)) (aI (G.2.1 (F a 10)) (10 * (aI (G.2.1 (F a 17)) (l1_2.toInt)) + 1)) (aI (G.2.1 (F a 10)) (10 * (aI (G.2.1 (F a 17)) (l1_2.toInt)) + 2)) (aI (G.2.1 (F a 10)) (10 * (aI (G.2.1 (F a 17)) (l1_2.toInt)) + 3)) (aI (G.2.1 (F a 18)) (l1_2.toInt)))))
    (f23 : x28.toInt = 0 ∨ x28.toInt = 1)
    (c31 : x28.toInt = 0) :
    ∀ j : Int, 0 ≤ j → j < (l1_2.toInt + 1) → fzq (G.2.1 (F a 10)) (mw (G.2.1 (F a 1)) 0) (aI (G.2.1 (F a 17)) j) (aI (G.2.1 (F a 18)) j) = 0 := by
  intro j h1 h2
  by_cases e : j = l1_2.toInt
  · subst e
    show flq _ _ _ _ _ _ _ _ = 0
    omega
  · exact pf j h1 (by omega)
theorem v_X11_firstFailing_35_5 {K : Nat → Nat} {F : Nat → Nat → Nat} (a : Nat) (G : XG) (l1_2 : Int32) (N2 : Nat) (x28 : Int32)
    (ha : K a = 13)
    (pf : ∀ j : Int, 0 ≤ j → j < l1_2.toInt → fzq (G.2.1 (F a 10)) (mw (G.2.1 (F a 1)) 0) (aI (G.2.1 (F a 17)) j) (aI (G.2.1 (F a 18)) j) = 0)
    (s0 : 0 ≤ ((G.1 a 19).toInt) ∧ ((G.1 a 19).toInt) ≤ 2400)
    (I2_0 : 0 ≤ l1_2.toInt ∧ l1_2.toInt ≤ ((G.1 a 19).toInt))
    (I2_1 : (0 : Int) ≤ l1_2.toInt)
    (hm2 : 2147483648 - l1_2.toInt < (((N2) + 1 : Nat) : Int))
    (c7 : ¬ (((G.1 a 19).toInt) ≤ l1_2.toInt))
    (z10 : (0 ≤ (aI (G.2.1 (F a 17)) (l1_2.toInt)) ∧ (aI (G.2.1 (F a 17)) (l1_2.toInt)) ≤ 11) ∧ (aI (G.2.1 (F a 10)) (10 * (aI (G.2.1 (F a 17)) (l1_2.toInt)) + 0)) ≠ -1 ∧ ((sF (aI (G.2.1 (F a 10)) (10 * (aI (G.2.1 (F a 17)) (l1_2.toInt)) + 0))) ≤ (aI (G.2.1 (F a 18)) (l1_2.toInt)) ∧ (aI (G.2.1 (F a 18)) (l1_2.toInt)) ≤ (sL (aI (G.2.1 (F a 10)) (10 * (aI (G.2.1 (F a 17)) (l1_2.toInt)) + 0)))))
    (t28 : x28.toInt = (flq (mw (G.2.1 (F a 1)) 0) (aI (G.2.1 (F a 10)) (10 * (aI (G.2.1 (F a 17)) (l1_2.toInt)) + 0)) (aI (G.2.1 (F a 10)) (10 * (aI (G.2.1 (F a 17)) (l1_2.toInt)) + 1)) (aI (G.2.1 (F a 10)) (10 * (aI (G.2.1 (F a 17)) (l1_2.toInt)) + 2)) (aI (G.2.1 (F a 10)) (10 * (aI (G.2.1 (F a 17)) (l1_2.toInt)) + 4)) (aI (G.2.1 (F a 10)) (10 * (aI (G.2.1 (F a 17)) (l1_2.toInt)) + 5)) (aI (G.2.1 (F a 18)) (l1_2.toInt)) (stt (mw (G.2.1 (F a 1)) 0) (aI (G.2.1 (F a 10)) (10 * (aI (G.2.1 (F a 17)) (l1_2.toInt)) + 0)) (aI (G.2.1 (F a 10)) (10 * (aI (G.2.1 (F a 17)) (l1_2.toInt)) + 1)) (aI (G.2.1 (F a 10)) (10 * (aI (G.2.1 (F a 17)) (l1_2.toInt)) + 2)) (aI (G.2.1 (F a 10)) (10 * (aI (G.2.1 (F a 17)) (l1_2.toInt)) + 3)) (aI (G.2.1 (F a 18)) (l1_2.toInt)))))
    (f22 : x28.toInt = 0 ∨ x28.toInt = 1)
    (c31 : ¬ (x28.toInt = 0)) :
    l1_2.toInt = ffP (G.2.1 (F a 10)) (mw (G.2.1 (F a 1)) 0) (pL G F a) := by
  first
    | exact ffP_eq (Or.inl rfl) (fun j h1 h2 _ => pf j h1 (by omega))
    | (refine ffP_eq (Or.inr ⟨by omega, by omega, ?_⟩) (fun j h1 h2 h3 => pf j h1 (by omega))
       have h01 := flq01 (mw (G.2.1 (F a 1)) 0) (aI (G.2.1 (F a 10)) (10 * aI (G.2.1 (F a 17)) l1_2.toInt + 0)) (aI (G.2.1 (F a 10)) (10 * aI (G.2.1 (F a 17)) l1_2.toInt + 1)) (aI (G.2.1 (F a 10)) (10 * aI (G.2.1 (F a 17)) l1_2.toInt + 2)) (aI (G.2.1 (F a 10)) (10 * aI (G.2.1 (F a 17)) l1_2.toInt + 4)) (aI (G.2.1 (F a 10)) (10 * aI (G.2.1 (F a 17)) l1_2.toInt + 5)) (aI (G.2.1 (F a 18)) l1_2.toInt) (stt (mw (G.2.1 (F a 1)) 0) (aI (G.2.1 (F a 10)) (10 * aI (G.2.1 (F a 17)) l1_2.toInt + 0)) (aI (G.2.1 (F a 10)) (10 * aI (G.2.1 (F a 17)) l1_2.toInt + 1)) (aI (G.2.1 (F a 10)) (10 * aI (G.2.1 (F a 17)) l1_2.toInt + 2)) (aI (G.2.1 (F a 10)) (10 * aI (G.2.1 (F a 17)) l1_2.toInt + 3)) (aI (G.2.1 (F a 18)) l1_2.toInt))
       show flq _ _ _ _ _ _ _ _ = 1
       omega)
theorem v_X11_firstFailing_1_6 {K : Nat → Nat} {F : Nat → Nat → Nat} (a : Nat) (G : XG)
    (ha : K a = 13)
    (s0 : 0 ≤ ((G.1 a 19).toInt) ∧ ((G.1 a 19).toInt) ≤ 2400) :
    ∀ j : Int, 0 ≤ j → j < (0 : Int) → fzq (G.2.1 (F a 10)) (mw (G.2.1 (F a 1)) 0) (aI (G.2.1 (F a 17)) j) (aI (G.2.1 (F a 18)) j) = 0 := by
  intro j h1 h2; exact absurd h1 (by omega)
theorem v_X11_findQueue_51_1 {K : Nat → Nat} {F : Nat → Nat → Nat} (a : Nat) (G2 : XG) (G : XG)
    (ha : K a = 13)
    (f21 : ((G.1 a 6).toInt) = 0 ∨ ((G.1 a 6).toInt) = 1)
    (c9 : ((G.1 a 6).toInt) = 0)
    (d_G2_a_19 : G2.1 a 19 = 0) :
    pL G2 F a = if ((G.1 a 6).toInt) = 0 then [] else fuO (G.2.1 (F a 10)) (mw (G.2.1 (F a 1)) 0) (mw (G.2.1 (F a 2)) 0) 1 := by
  first
    | (rw [if_neg (by omega), oq48]; rfl)
    | (rw [if_pos (by omega)]
       show lst _ (G2.1 a 19).toInt.toNat = []
       rw [d_G2_a_19]
       rfl)
theorem v_X11_findQueue_51_2 {F : Nat → Nat → Nat} (a : Nat) (G2 : XG) (G : XG)
    (c9 : ((G.1 a 6).toInt) = 0) :
    ((G.1 a 6).toInt) ≠ 0 → LSt (G.2.1 (F a 10)) (G2.2.1 (F a 11)) (mw (G.2.1 (F a 1)) 0) 12 ∧ LSt (G.2.1 (F a 10)) (G2.2.1 (F a 13)) (mw (G.2.1 (F a 2)) 0) 12 := by
  first
    | exact fun h => absurd c9 h
    | (intro _; rw [c_G48_F_a_11, c_G48_F_a_13]; exact ⟨oq22, oq35⟩)
theorem v_X11_findQueue_51_3 (a : Nat) (G2 : XG) (G : XG)
    (hG2 : G2 = dput G a 19 0) :
    G2.2.2.2 = G.2.2.2 := by
  first
    | (rw [hG2]; rfl)
    | (rw [oq48b, oq35a, oq22a, hG2]; rfl)
theorem v_X11_findQueue_22_4 {F : Nat → Nat → Nat} (a : Nat) (G2 : XG) (G : XG)
    (hR : RV (G.2.1 (F a 10)))
    (c_G2_F_a_10 : G2.2.1 (F a 10) = G.2.1 (F a 10)) :
    RV (G2.2.1 (F a 10)) := by simp only [c_G2_F_a_10]; assumption
theorem v_X11_findQueue_22_5 {F : Nat → Nat → Nat} (a : Nat) (G2 : XG) (G : XG)
    (hM : RM (G.2.1 (F a 1)) (0))
    (hB : RM (G.2.1 (F a 2)) 0)
    (c_G2_F_a_1 : G2.2.1 (F a 1) = G.2.1 (F a 1)) :
    RM (G2.2.1 (F a 1)) (0 : Int) := by simp only [c_G2_F_a_1]; assumption
theorem v_X11_findQueue_35_6 {F : Nat → Nat → Nat} (a : Nat) (G : XG) (G22 : XG)
    (hR : RV (G.2.1 (F a 10)))
    (c_G22_F_a_10 : G22.2.1 (F a 10) = G.2.1 (F a 10)) :
    RV (G22.2.1 (F a 10)) := by simp only [c_G22_F_a_10]; assumption
theorem v_X11_findQueue_35_7 {F : Nat → Nat → Nat} (a : Nat) (G : XG) (G22 : XG)
    (hM : RM (G.2.1 (F a 1)) (0))
    (hB : RM (G.2.1 (F a 2)) 0)
    (c_G22_F_a_2 : G22.2.1 (F a 2) = G.2.1 (F a 2)) :
    RM (G22.2.1 (F a 2)) (0 : Int) := by simp only [c_G22_F_a_2]; assumption
theorem v_X11_findQueue_48_8 {F : Nat → Nat → Nat} (a : Nat) (G : XG) (G35 : XG)
    (hR : RV (G.2.1 (F a 10)))
    (c_G35_F_a_10 : G35.2.1 (F a 10) = G.2.1 (F a 10)) :
    RV (G35.2.1 (F a 10)) := by simp only [c_G35_F_a_10]; assumption
theorem v_X11_findQueue_48_9 {F : Nat → Nat → Nat} (a : Nat) (G : XG) (G22 : XG) (G35 : XG)
    (oq22 : LSt (G.2.1 (F a 10)) (G22.2.1 (F a 11)) (mw (G.2.1 (F a 1)) (0 : Int)) 12)
    (oq35 : LSt (G.2.1 (F a 10)) (G35.2.1 (F a 13)) (mw (G.2.1 (F a 2)) (0 : Int)) 12)
    (c_G35_F_a_10 : G35.2.1 (F a 10) = G.2.1 (F a 10))
    (c_G35_F_a_11 : G35.2.1 (F a 11) = G22.2.1 (F a 11)) :
    LSt (G35.2.1 (F a 10)) (G35.2.1 (F a 11)) (mw (G.2.1 (F a 1)) 0) 12 := by simp only [c_G35_F_a_10, c_G35_F_a_11]; assumption
theorem v_X11_findQueue_48_10 {F : Nat → Nat → Nat} (a : Nat) (G : XG) (G22 : XG) (G35 : XG)
    (oq22 : LSt (G.2.1 (F a 10)) (G22.2.1 (F a 11)) (mw (G.2.1 (F a 1)) (0 : Int)) 12)
    (oq35 : LSt (G.2.1 (F a 10)) (G35.2.1 (F a 13)) (mw (G.2.1 (F a 2)) (0 : Int)) 12)
    (c_G35_F_a_10 : G35.2.1 (F a 10) = G.2.1 (F a 10)) :
    LSt (G35.2.1 (F a 10)) (G35.2.1 (F a 13)) (mw (G.2.1 (F a 2)) 0) 12 := by simp only [c_G35_F_a_10]; assumption
theorem v_X11_findQueue_51_11 {K : Nat → Nat} {F : Nat → Nat → Nat} (a : Nat) (G2 : XG) (G : XG) (G22 : XG) (G35 : XG) (G48 : XG)
    (ha : K a = 13)
    (oq22a : G22.2.2.2 = G2.2.2.2)
    (oq35a : G35.2.2.2 = G22.2.2.2)
    (oq48 : pL G48 F a = fuL (G.2.1 (F a 10)) (mw (G.2.1 (F a 1)) 0) (mw (G.2.1 (F a 2)) 0) (1 : Int) (ordN (prM (G.2.1 (F a 10))) (rkM (G.2.1 (F a 10))) 12).2 (ordN (prM (G.2.1 (F a 10))) (rkM (G.2.1 (F a 10))) 12).1)
    (oq48b : G48.2.2.2 = G35.2.2.2)
    (f31 : ((G.1 a 6).toInt) = 0 ∨ ((G.1 a 6).toInt) = 1)
    (c9 : ¬ (((G.1 a 6).toInt) = 0))
    (t48 : 0 ≤ ((G48.1 a 19).toInt) ∧ ((G48.1 a 19).toInt) ≤ 2388) :
    pL G48 F a = if ((G.1 a 6).toInt) = 0 then [] else fuO (G.2.1 (F a 10)) (mw (G.2.1 (F a 1)) 0) (mw (G.2.1 (F a 2)) 0) 1 := by
  first
    | (rw [if_neg (by omega), oq48]; rfl)
    | (rw [if_pos (by omega)]
       show lst _ (G2.1 a 19).toInt.toNat = []
       rw [d_G2_a_19]
       rfl)
theorem v_X11_findQueue_51_12 {F : Nat → Nat → Nat} (a : Nat) (G : XG) (G22 : XG) (G35 : XG) (G48 : XG)
    (oq22 : LSt (G.2.1 (F a 10)) (G22.2.1 (F a 11)) (mw (G.2.1 (F a 1)) (0 : Int)) 12)
    (oq35 : LSt (G.2.1 (F a 10)) (G35.2.1 (F a 13)) (mw (G.2.1 (F a 2)) (0 : Int)) 12)
    (c9 : ¬ (((G.1 a 6).toInt) = 0))
    (c_G48_F_a_11 : G48.2.1 (F a 11) = G22.2.1 (F a 11))
    (c_G48_F_a_13 : G48.2.1 (F a 13) = G35.2.1 (F a 13)) :
    ((G.1 a 6).toInt) ≠ 0 → LSt (G.2.1 (F a 10)) (G48.2.1 (F a 11)) (mw (G.2.1 (F a 1)) 0) 12 ∧ LSt (G.2.1 (F a 10)) (G48.2.1 (F a 13)) (mw (G.2.1 (F a 2)) 0) 12 := by
  first
    | exact fun h => absurd c9 h
    | (intro _; rw [c_G48_F_a_11, c_G48_F_a_13]; exact ⟨oq22, oq35⟩)
theorem v_X11_findQueue_51_13 (a : Nat) (G2 : XG) (G : XG) (G22 : XG) (G35 : XG) (G48 : XG)
    (hG2 : G2 = dput G a 19 0)
    (oq22a : G22.2.2.2 = G2.2.2.2)
    (oq35a : G35.2.2.2 = G22.2.2.2)
    (oq48b : G48.2.2.2 = G35.2.2.2) :
    G48.2.2.2 = G.2.2.2 := by
  first
    | (rw [hG2]; rfl)
    | (rw [oq48b, oq35a, oq22a, hG2]; rfl)
theorem v_X11_queueMany_1_1 {F : Nat → Nat → Nat} (a : Nat) (G : XG)
    (hR : RV (G.2.1 (F a 10))) :
    RV (G.2.1 (F a 10)) := by exact hR
theorem v_X11_queueMany_1_2 {F : Nat → Nat → Nat} (a : Nat) (G : XG)
    (hM : RM (G.2.1 (F a 1)) (0)) :
    RM (G.2.1 (F a 1)) (0) := by exact hM
theorem v_X11_queueMany_1_3 {F : Nat → Nat → Nat} (a : Nat) (G : XG)
    (hB : RM (G.2.1 (F a 2)) 0) :
    RM (G.2.1 (F a 2)) 0 := by exact hB
theorem v_X11_queueMany_8_4 {F : Nat → Nat → Nat} (a : Nat) (G : XG) (G1 : XG)
    (oq1 : pL G1 F a = if ((G.1 a 6).toInt) = 0 then [] else fuO (G.2.1 (F a 10)) (mw (G.2.1 (F a 1)) 0) (mw (G.2.1 (F a 2)) 0) 1) :
    pL G1 F a = if ((G.1 a 6).toInt) = 0 then [] else fuO (G.2.1 (F a 10)) (mw (G.2.1 (F a 1)) 0) (mw (G.2.1 (F a 2)) 0) 1 := by
  exact oq1
theorem v_X11_queueMany_8_5 (a : Nat) (G1 : XG) :
    ((G1.1 a 19).toInt) = ((G1.1 a 19).toInt) := by
  rfl
theorem v_X11_asks_10_1 {F : Nat → Nat → Nat} (a : Nat) (G : XG)
    (hR : RV (G.2.1 (F a 10))) :
    RV (G.2.1 (F a 10)) := by exact hR
theorem v_X11_asks_10_2 {F : Nat → Nat → Nat} (a : Nat) (G : XG) (r1 : Int → Int)
    (h1 : LSt (G.2.1 (F a 10)) (G.2.1 (F a 12)) r1 12) :
    LSt (G.2.1 (F a 10)) (G.2.1 (F a 12)) r1 12 := by exact h1
theorem v_X11_asks_10_3 {F : Nat → Nat → Nat} (a : Nat) (G : XG)
    (h2 : LSt (G.2.1 (F a 10)) (G.2.1 (F a 11)) (mw (G.2.1 (F a 1)) 0) 12) :
    LSt (G.2.1 (F a 10)) (G.2.1 (F a 11)) (mw (G.2.1 (F a 1)) 0) 12 := by exact h2
theorem v_X11_asks_14_4 {F : Nat → Nat → Nat} (a : Nat) (G : XG) (G10 : XG)
    (hR : RV (G.2.1 (F a 10)))
    (c_G10_F_a_10 : G10.2.1 (F a 10) = G.2.1 (F a 10)) :
    RV (G10.2.1 (F a 10)) := by simp only [c_G10_F_a_10]; assumption
theorem v_X11_asks_14_5 {F : Nat → Nat → Nat} (a : Nat) (G : XG) (G10 : XG)
    (hM : RM (G.2.1 (F a 1)) (0))
    (c_G10_F_a_1 : G10.2.1 (F a 1) = G.2.1 (F a 1)) :
    RM (G10.2.1 (F a 1)) (0) := by simp only [c_G10_F_a_1]; assumption
theorem v_X11_asks_14_6 {F : Nat → Nat → Nat} (a : Nat) (G : XG) (G10 : XG) (r1 : Int → Int) (p0 : Int32)
    (oq10 : pL G10 F a = fuL (G.2.1 (F a 10)) r1 (mw (G.2.1 (F a 1)) 0) p0.toInt (ordN (prM (G.2.1 (F a 10))) (rkM (G.2.1 (F a 10))) 12).2 (ordN (prM (G.2.1 (F a 10))) (rkM (G.2.1 (F a 10))) 12).1)
    (c_G10_F_a_10 : G10.2.1 (F a 10) = G.2.1 (F a 10)) :
    PV (G10.2.1 (F a 10)) (pL G10 F a) := by
  rw [oq10, c_G10_F_a_10]; exact fuO_pv (G.2.1 (F a 10)) r1 (mw (G.2.1 (F a 1)) 0) p0.toInt
theorem v_X11_asks_17_7 {F : Nat → Nat → Nat} (a : Nat) (G : XG) (G10 : XG) (r1 : Int → Int) (p0 : Int32)
    (oq10 : pL G10 F a = fuL (G.2.1 (F a 10)) r1 (mw (G.2.1 (F a 1)) 0) p0.toInt (ordN (prM (G.2.1 (F a 10))) (rkM (G.2.1 (F a 10))) 12).2 (ordN (prM (G.2.1 (F a 10))) (rkM (G.2.1 (F a 10))) 12).1) :
    pL G10 F a = fuO (G.2.1 (F a 10)) r1 (mw (G.2.1 (F a 1)) 0) p0.toInt := by
  exact oq10
theorem v_X11_asks_17_8 {F : Nat → Nat → Nat} (a : Nat) (G : XG) (G10 : XG) (x14 : Int32)
    (oq14 : x14.toInt = ffP (G.2.1 (F a 10)) (mw (G.2.1 (F a 1)) 0) (pL G10 F a)) :
    x14.toInt = ffP (G.2.1 (F a 10)) (mw (G.2.1 (F a 1)) 0) (pL G10 F a) := by
  exact oq14
theorem v_X11_asks_17_9 {K : Nat → Nat} {F : Nat → Nat → Nat} (a : Nat) (G : XG) (G10 : XG) (x14 : Int32)
    (ha : K a = 13)
    (oq10b : G10.2.2.2 = G.2.2.2)
    (oq14 : x14.toInt = ffP (G.2.1 (F a 10)) (mw (G.2.1 (F a 1)) 0) (pL G10 F a))
    (t10 : 0 ≤ ((G10.1 a 19).toInt) ∧ ((G10.1 a 19).toInt) ≤ 2388)
    (t14 : -1 ≤ x14.toInt ∧ x14.toInt < ((G10.1 a 19).toInt)) :
    0 ≤ ((G10.1 a 19).toInt) ∧ ((G10.1 a 19).toInt) ≤ 2388 ∧ x14.toInt < ((G10.1 a 19).toInt) := by
  omega
theorem v_X11_start_10_1 {K : Nat → Nat} {F : Nat → Nat → Nat} (a : Nat) (G : XG)
    (ha : K a = 13)
    (hk9999 : K (F a 4) = 31)
    (hj9999 : F (F a 4) 99 = 4)
    (hk9999a : K (F a 12) = 38)
    (hj9999a : F (F a 12) 99 = 12)
    (hk9999b : K (F a 10) = 37)
    (hj9999b : F (F a 10) 99 = 10)
    (hk9999c : K (F a 1) = 30)
    (hj9999c : F (F a 1) 99 = 1)
    (hR : RV (G.2.1 (F a 10)))
    (hM : RM (G.2.1 (F a 1)) (0)) :
    (F a 1) ≠ (F a 4) := by
  intro e
  have h1 : K (F a 1) = 30 := by assumption
  have h2 : K (F a 4) = 31 := by assumption
  rw [e, h2] at h1
  exact absurd h1 (by decide)
theorem v_X11_start_23_2 {F : Nat → Nat → Nat} (a : Nat) (G : XG) (G10 : XG)
    (hR : RV (G.2.1 (F a 10)))
    (c_G10_F_a_10 : G10.2.1 (F a 10) = G.2.1 (F a 10)) :
    RV (G10.2.1 (F a 10)) := by simp only [c_G10_F_a_10]; assumption
theorem v_X11_start_23_3 {F : Nat → Nat → Nat} (a : Nat) (G : XG) (G10 : XG)
    (hM : RM (G.2.1 (F a 1)) (0))
    (c_G10_F_a_1 : G10.2.1 (F a 1) = G.2.1 (F a 1)) :
    RM (G10.2.1 (F a 1)) (0 : Int) := by simp only [c_G10_F_a_1]; assumption
theorem v_X11_start_26_4 {F : Nat → Nat → Nat} (a : Nat) (G : XG) (G10 : XG) (G23 : XG)
    (oq10 : CPd (G.2.1 (F a 1)) (G.2.1 (F a 4)) (G10.2.1 (F a 4)) (0 : Int) (0 : Int) 360)
    (c_G23_F_a_4 : G23.2.1 (F a 4) = G10.2.1 (F a 4)) :
    mw (G23.2.1 (F a 4)) 0 = mw (G.2.1 (F a 1)) 0 := by
  rw [c_G23_F_a_4]; exact CPd.vwm oq10 (by decide)
theorem v_X11_start_26_5 {F : Nat → Nat → Nat} (a : Nat) (G : XG) (G10 : XG) (G23 : XG)
    (hM : RM (G.2.1 (F a 1)) (0))
    (oq10 : CPd (G.2.1 (F a 1)) (G.2.1 (F a 4)) (G10.2.1 (F a 4)) (0 : Int) (0 : Int) 360)
    (c_G23_F_a_4 : G23.2.1 (F a 4) = G10.2.1 (F a 4)) :
    RM (G23.2.1 (F a 4)) 0 := by
  rw [c_G23_F_a_4]; exact CPd.rm oq10 (by decide) hM
theorem v_X11_start_26_6 {F : Nat → Nat → Nat} (a : Nat) (G : XG) (G23 : XG)
    (oq23 : LSt (G.2.1 (F a 10)) (G23.2.1 (F a 12)) (mw (G.2.1 (F a 1)) (0 : Int)) 12) :
    LSt (G.2.1 (F a 10)) (G23.2.1 (F a 12)) (mw (G.2.1 (F a 1)) 0) 12 := by
  exact oq23
theorem z_X11_firstFailing_1 (a0 : Int) (h0 : -2147483648 ≤ a0 ∧ a0 < 2147483648) : ¬ (2147483648 - a0 < ((0 : Nat) : Int)) := by omega
theorem z_X11_firstFailing_2 (a0 : Int) (h0 : 0 ≤ a0 ∧ a0 ≤ 2400) : -1 ≤ (-1 : Int) ∧ (-1 : Int) < a0 := by omega
theorem z_X11_firstFailing_3 (a0 : Int) (a1 : Int) (h0 : 0 ≤ a0 ∧ a0 ≤ a1) (h1 : ¬ (a1 ≤ a0)) : 0 ≤ a0 ∧ a0 < a1 := by omega
theorem z_X11_firstFailing_4 (a0 : Int) (a1 : Int) (h0 : 0 ≤ a1 ∧ a1 ≤ 2400) (h1 : 0 ≤ a0 ∧ a0 ≤ a1) (h2 : ¬ (a1 ≤ a0)) : 0 ≤ a0 ∧ a0 < ((2400 : Nat) : Int) := by omega
theorem z_X11_firstFailing_9 (a0 : Int) (a1 : Int) (a2 : Int) (h0 : 0 ≤ a2 ∧ a2 ≤ 2400) (h1 : 0 ≤ a0 ∧ a0 ≤ a2) (h2 : a1 = (a0 + 1) ∨ (a0 + 1) < -2147483648 ∨ 2147483648 ≤ (a0 + 1)) : a1 = (a0 + 1) := by omega
theorem z_X11_firstFailing_10 (a0 : Int) (a1 : Int) (h0 : 0 ≤ a0 ∧ a0 ≤ a1) (h1 : ¬ (a1 ≤ a0)) : 0 ≤ (a0 + 1) ∧ (a0 + 1) ≤ a1 := by omega
theorem z_X11_firstFailing_11 (a0 : Int) (a1 : Int) (h0 : 0 ≤ a0 ∧ a0 ≤ a1) : (0 : Int) ≤ (a0 + 1) := by omega
theorem z_X11_firstFailing_12 (a0 : Int) (a1 : Nat) (h0 : 2147483648 - a0 < ((a1 + 1 : Nat) : Int)) : 2147483648 - (a0 + 1) < ((a1 : Nat) : Int) := by omega
theorem z_X11_firstFailing_13 (a0 : Int) (a1 : Int) (h0 : 0 ≤ a0 ∧ a0 ≤ a1) (h1 : ¬ (a1 ≤ a0)) : -1 ≤ a0 ∧ a0 < a1 := by omega
theorem z_X11_firstFailing_14 (a0 : Int) (h0 : 0 ≤ a0 ∧ a0 ≤ 2400) : 0 ≤ (0 : Int) ∧ (0 : Int) ≤ a0 := by omega
abbrev rm_X11_firstFailing : Room := { frames := 4, cells := 0, slots := 0, locals := 104 }
set_option maxHeartbeats 4000000 in
set_option maxRecDepth 100000 in
theorem c_X11_firstFailing (l : Launch) (E : XE) (K : Nat → Nat) (F : Nat → Nat → Nat) (G : XG) (h0 : Heap) (a : Nat) (ha : K a = 13) (s0 : 0 ≤ ((G.1 a 19).toInt) ∧ ((G.1 a 19).toInt) ≤ 2400) (hR : RV (G.2.1 (F a 10))) (hM : RM (G.2.1 (F a 1)) (0)) (hv : PV (G.2.1 (F a 10)) (pL G F a)) : Met l yX11_firstFailing (xw yX11_firstFailing cX11_firstFailing 2 (some .int)) rm_X11_firstFailing (va_Pc [.ref a] (XPh E K F G h0)) (XQ E (fun v (u : Unit) => ∃ r : Int32, v = .int r ∧ (-1 ≤ r.toInt ∧ r.toInt < ((G.1 a 19).toInt)) ∧ (r.toInt = ffP (G.2.1 (F a 10)) (mw (G.2.1 (F a 1)) 0) (pL G F a))) (fun _ H => H = h0)) 0 0 (xA E) := by
  refine x_enter (by decide) (Nat.le_of_ble_eq_true rfl) ?_
  intro p e s m args below meth c Q S hr hlk hnm hQ hP ls hl
  obtain ⟨⟨hz, hK, hT⟩, hh⟩ := hP
  obtain ⟨hx, hb, -, -, -⟩ := id S
  have hS : va_S (xA E) s.heap s.heap [] := va_S.rf
  have hl : lv_has ls 2 [(0, .ref a)] := hl
  obtain ⟨hk9999, hj9999⟩ := fkX11_17 hT ha
  obtain ⟨hk9999a, hj9999a⟩ := fkX11_18 hT ha
  obtain ⟨hk9999b, hj9999b⟩ := fkX11_10 hT ha
  obtain ⟨hk9999c, hj9999c⟩ := fkX11_1 hT ha
  refine lv_iconst (v := 0) hx hb dX11_firstFailing_0 (by decide) ?_
  refine lv_istore_n (lv' := [(1, .int 0), (0, .ref a)]) hx hb dX11_firstFailing_1 rfl hl (by decide) rfl (fun ls hl => ?_)
  have L2 : ∀ (N2 : Nat) (l1_2 : Int32) (locs : List Loc) (ls : Array Slot), (∀ j : Int, 0 ≤ j → j < l1_2.toInt → fzq (G.2.1 (F a 10)) (mw (G.2.1 (F a 1)) 0) (aI (G.2.1 (F a 17)) j) (aI (G.2.1 (F a 18)) j) = 0) → 0 ≤ l1_2.toInt ∧ l1_2.toInt ≤ ((G.1 a 19).toInt) → (0 : Int) ≤ l1_2.toInt → 2147483648 - l1_2.toInt < ((N2 : Nat) : Int) → TW E K F G s.heap → va_S (xA E) s.heap s.heap locs → lv_has ls 2 [(0, .ref a), (1, .int l1_2)] → W p l e rm_X11_firstFailing s m args below meth c s.heap locs 0 0 Q (F0 m 2 ls []) := by
    intro N2
    induction N2 with
    | zero =>
      intro l1_2 locs ls pf I2_0 I2_1 hm2
      exact absurd hm2 (z_X11_firstFailing_1 l1_2.toInt (xr l1_2))
    | succ N2 ih2 =>
      intro l1_2 locs ls pf I2_0 I2_1 hm2 hT hS hl
      refine lv_iload_n hx hb dX11_firstFailing_2 rfl (lv_at hl 1 rfl) ?_
      refine lv_aload_n hx hb dX11_firstFailing_3 rfl (lv_at hl 0 rfl) ?_
      refine gX11_19 S hK hT ha kf_X11_203 dX11_firstFailing_4 (v := (G.1 a 19)) rfl (?_)
      refine xi_cge (tgt := 42) hx hb (rfl : Int32.toInt l1_2 = l1_2.toInt) (rfl : Int32.toInt (G.1 a 19) = ((G.1 a 19).toInt)) dX11_firstFailing_7 (by decide) (fun c7 => ?_) (fun c7 => ?_)
      · refine lv_iconst (v := (-1)) hx hb dX11_firstFailing_42 (by decide) ?_
        exact x_ri hx hb hr hlk hQ (Nat.le_of_ble_eq_true rfl) (Nat.le_of_ble_eq_true rfl) hS dX11_firstFailing_43 () ⟨_, rfl, (by rw [((by decide) : Int32.toInt (-1) = (-1 : Int))] <;> exact (z_X11_firstFailing_2 ((G.1 a 19).toInt) s0)), (by rw [((by decide) : Int32.toInt (-1) = (-1 : Int))] <;> exact (v_X11_firstFailing_43_1 (K := K) (F := F) a G l1_2 N2 ha pf s0 I2_0 I2_1 hm2 c7))⟩ hh
      · have z10 : (0 ≤ (aI (G.2.1 (F a 17)) (l1_2.toInt)) ∧ (aI (G.2.1 (F a 17)) (l1_2.toInt)) ≤ 11) ∧ (aI (G.2.1 (F a 10)) (10 * (aI (G.2.1 (F a 17)) (l1_2.toInt)) + 0)) ≠ -1 ∧ ((sF (aI (G.2.1 (F a 10)) (10 * (aI (G.2.1 (F a 17)) (l1_2.toInt)) + 0))) ≤ (aI (G.2.1 (F a 18)) (l1_2.toInt)) ∧ (aI (G.2.1 (F a 18)) (l1_2.toInt)) ≤ (sL (aI (G.2.1 (F a 10)) (10 * (aI (G.2.1 (F a 17)) (l1_2.toInt)) + 0)))) := pv_at hv (z_X11_firstFailing_3 l1_2.toInt ((G.1 a 19).toInt) I2_0 c7)
        refine lv_aload_n hx hb dX11_firstFailing_10 rfl (lv_at hl 0 rfl) ?_
        refine lv_aload_n hx hb dX11_firstFailing_11 rfl (lv_at hl 0 rfl) ?_
        refine gX11_17 S hK hT ha kf_X11_51 dX11_firstFailing_12 (fun _ _ => ?_)
        refine lv_iload_n hx hb dX11_firstFailing_15 rfl (lv_at hl 1 rfl) ?_
        refine al_0 S hK hT hk9999 ar_43 (by decide) (z_X11_firstFailing_4 l1_2.toInt ((G.1 a 19).toInt) s0 I2_0 c7) dX11_firstFailing_16 (fun x16 hv16 o16 => ?_)
        have hv16 : x16.toInt = (aI (G.2.1 (F a 17)) (l1_2.toInt)) := hv16.trans (by rw [(rfl : Int32.toInt l1_2 = l1_2.toInt)])
        refine lv_aload_n hx hb dX11_firstFailing_17 rfl (lv_at hl 0 rfl) ?_
        refine gX11_18 S hK hT ha kf_X11_54 dX11_firstFailing_18 (fun _ _ => ?_)
        refine lv_iload_n hx hb dX11_firstFailing_21 rfl (lv_at hl 1 rfl) ?_
        refine al_0 S hK hT hk9999a ar_44 (by decide) (z_X11_firstFailing_4 l1_2.toInt ((G.1 a 19).toInt) s0 I2_0 c7) dX11_firstFailing_22 (fun x22 hv22 o22 => ?_)
        have hv22 : x22.toInt = (aI (G.2.1 (F a 18)) (l1_2.toInt)) := hv22.trans (by rw [(rfl : Int32.toInt l1_2 = l1_2.toInt)])
        refine lv_aload_n hx hb dX11_firstFailing_23 rfl (lv_at hl 0 rfl) ?_
        refine gX11_1 S hK hT ha kf_X11_9 dX11_firstFailing_24 (fun _ _ => ?_)
        refine lv_iconst (v := 0) hx hb dX11_firstFailing_27 (by decide) ?_
        refine x_clp (x_runV (b := a) (As := [.int x16, .int x22, .ref (F a 1), .int 0]) (rest := []) S (c_X11_fails l E K F G s.heap a x16 x22 (F a 1) 0 ha (XO.a hk9999c (by decide)) (by rw [(hv16 : Int32.toInt x16 = (aI (G.2.1 (F a 17)) (l1_2.toInt)))] <;> exact ((z10).1)) (by rw [(hv16 : Int32.toInt x16 = (aI (G.2.1 (F a 17)) (l1_2.toInt)))] <;> exact ((z10).2.1)) (by rw [(hv16 : Int32.toInt x16 = (aI (G.2.1 (F a 17)) (l1_2.toInt))), (hv22 : Int32.toInt x22 = (aI (G.2.1 (F a 18)) (l1_2.toInt)))] <;> exact ((z10).2.2)) (v_X11_firstFailing_28_2 (F := F) a G hR) (v_X11_firstFailing_28_3 (K := K) (F := F) a G l1_2 x16 x22 N2 ha hk9999 hj9999 hk9999a hj9999a hk9999b hj9999b hk9999c hj9999c hR hM hv pf hv16 hv22 s0 I2_0 I2_1 hm2 c7 z10)) mv_X11_fails km_X11_221 rfl rfl ⟨Nat.le_of_ble_eq_true rfl, Nat.le_of_ble_eq_true rfl⟩ (rc_13 hK hT ha) hK (fun _ => XPh.blind) (fun U hU hW => XPh.at hK hz hS hT hU hW) rfl hl.1 (Nat.le_of_ble_eq_true rfl) dX11_firstFailing_28 ⟨Nat.le_of_ble_eq_true rfl, Nat.le_of_ble_eq_true rfl⟩) hS ?_
        rintro _ _ locs ⟨x28, rfl, b28, t28⟩ hS
        have t28 : x28.toInt = (flq (mw (G.2.1 (F a 1)) 0) (aI (G.2.1 (F a 10)) (10 * (aI (G.2.1 (F a 17)) (l1_2.toInt)) + 0)) (aI (G.2.1 (F a 10)) (10 * (aI (G.2.1 (F a 17)) (l1_2.toInt)) + 1)) (aI (G.2.1 (F a 10)) (10 * (aI (G.2.1 (F a 17)) (l1_2.toInt)) + 2)) (aI (G.2.1 (F a 10)) (10 * (aI (G.2.1 (F a 17)) (l1_2.toInt)) + 4)) (aI (G.2.1 (F a 10)) (10 * (aI (G.2.1 (F a 17)) (l1_2.toInt)) + 5)) (aI (G.2.1 (F a 18)) (l1_2.toInt)) (stt (mw (G.2.1 (F a 1)) 0) (aI (G.2.1 (F a 10)) (10 * (aI (G.2.1 (F a 17)) (l1_2.toInt)) + 0)) (aI (G.2.1 (F a 10)) (10 * (aI (G.2.1 (F a 17)) (l1_2.toInt)) + 1)) (aI (G.2.1 (F a 10)) (10 * (aI (G.2.1 (F a 17)) (l1_2.toInt)) + 2)) (aI (G.2.1 (F a 10)) (10 * (aI (G.2.1 (F a 17)) (l1_2.toInt)) + 3)) (aI (G.2.1 (F a 18)) (l1_2.toInt)))) := by rw [(hv16 : Int32.toInt x16 = (aI (G.2.1 (F a 17)) (l1_2.toInt)))] at t28; rw [(hv22 : Int32.toInt x22 = (aI (G.2.1 (F a 18)) (l1_2.toInt)))] at t28; exact t28
        refine xi_zeq (tgt := 36) hx hb (rfl : Int32.toInt x28 = x28.toInt) dX11_firstFailing_31 (by decide) (fun c31 => ?_) (fun c31 => ?_)
        · refine xi_iinc (n := 1) (lv' := fun z9 => [(1, .int z9), (0, .ref a)]) (k := 1) hx hb (rfl : Int32.toInt l1_2 = l1_2.toInt) (by decide) dX11_firstFailing_36 hl rfl (by decide) (fun _ => rfl) (fun x36 ls t36 hl => ?_)
          have e36 : x36.toInt = (l1_2.toInt + 1) := (z_X11_firstFailing_9 l1_2.toInt x36.toInt ((G.1 a 19).toInt) s0 I2_0 t36)
          have hl : lv_has ls 2 [(1, .int x36), (0, .ref a)] := hl
          refine lv_goto (tgt := 2) hx hb dX11_firstFailing_39 (by decide) ?_
          exact ih2 x36 _ _ (by rw [(e36 : Int32.toInt x36 = (l1_2.toInt + 1))] <;> exact (v_X11_firstFailing_39_4 (K := K) (F := F) a G l1_2 N2 x28 ha pf s0 I2_0 I2_1 hm2 c7 z10 t28 (xzi b28) c31)) (by rw [(e36 : Int32.toInt x36 = (l1_2.toInt + 1))] <;> exact (z_X11_firstFailing_10 l1_2.toInt ((G.1 a 19).toInt) I2_0 c7)) (by rw [(e36 : Int32.toInt x36 = (l1_2.toInt + 1))] <;> exact (z_X11_firstFailing_11 l1_2.toInt ((G.1 a 19).toInt) I2_0)) (by rw [(e36 : Int32.toInt x36 = (l1_2.toInt + 1))] <;> exact (z_X11_firstFailing_12 l1_2.toInt N2 hm2)) hT hS (lv_sub hl [1, 0] rfl)
        · refine lv_iload_n hx hb dX11_firstFailing_34 rfl (lv_at hl 1 rfl) ?_
          exact x_ri hx hb hr hlk hQ (Nat.le_of_ble_eq_true rfl) (Nat.le_of_ble_eq_true rfl) hS dX11_firstFailing_35 () ⟨_, rfl, (z_X11_firstFailing_13 l1_2.toInt ((G.1 a 19).toInt) I2_0 c7), (v_X11_firstFailing_35_5 (K := K) (F := F) a G l1_2 N2 x28 ha pf s0 I2_0 I2_1 hm2 c7 z10 t28 (xzi b28) c31)⟩ hh
  exact L2 4294967297 0 _ _ (v_X11_firstFailing_1_6 (K := K) (F := F) a G ha s0) (z_X11_firstFailing_14 ((G.1 a 19).toInt) s0) (by decide) (by decide) hT hS (lv_sub hl [1, 0] rfl)

abbrev rm_X11_findQueue : Room := { frames := 4, cells := 0, slots := 0, locals := 102 }
set_option maxHeartbeats 4000000 in
set_option maxRecDepth 100000 in
theorem c_X11_findQueue (l : Launch) (E : XE) (K : Nat → Nat) (F : Nat → Nat → Nat) (G : XG) (a : Nat) (ha : K a = 13) (hR : RV (G.2.1 (F a 10))) (hM : RM (G.2.1 (F a 1)) (0)) (hB : RM (G.2.1 (F a 2)) 0) : Met l yX11_findQueue (xw yX11_findQueue cX11_findQueue 1 none) rm_X11_findQueue (va_Pc [.ref a] (XP E K F G)) (XQv E (fun (u : XG) => XFr [(a, 16), (a, 19)] [F a 15, F a 17, F a 18, F a 11, F a 13] [] G u ∧ (0 ≤ ((u.1 a 19).toInt) ∧ ((u.1 a 19).toInt) ≤ 2388) ∧ (pL u F a = if ((G.1 a 6).toInt) = 0 then [] else fuO (G.2.1 (F a 10)) (mw (G.2.1 (F a 1)) 0) (mw (G.2.1 (F a 2)) 0) 1) ∧ (((G.1 a 6).toInt) ≠ 0 → LSt (G.2.1 (F a 10)) (u.2.1 (F a 11)) (mw (G.2.1 (F a 1)) 0) 12 ∧ LSt (G.2.1 (F a 10)) (u.2.1 (F a 13)) (mw (G.2.1 (F a 2)) 0) 12) ∧ (u.2.2.2 = G.2.2.2)) (fun u H => TW E K F u H)) 0 0 (xA E) := by
  refine x_enter (by decide) (Nat.le_of_ble_eq_true rfl) ?_
  intro p e s m args below meth c Q S hr hlk hnm hQ hP ls hl
  obtain ⟨hz, hK, hT⟩ := hP
  obtain ⟨hx, hb, -, -, -⟩ := id S
  obtain ⟨H, hT, hS, hgo⟩ : ∃ H : Heap, TW E K F G H ∧ va_S (xA E) s.heap H [] ∧ H = s.heap := ⟨_, hT, va_S.rf, rfl⟩
  rw [← hgo]
  have hl : lv_has ls 1 [(0, .ref a)] := hl
  obtain ⟨hk9999, hj9999⟩ := fkX11_15 hT ha
  obtain ⟨hk9999a, hj9999a⟩ := fkX11_17 hT ha
  obtain ⟨hk9999b, hj9999b⟩ := fkX11_18 hT ha
  obtain ⟨hk9999c, hj9999c⟩ := fkX11_11 hT ha
  obtain ⟨hk9999d, hj9999d⟩ := fkX11_13 hT ha
  obtain ⟨hk9999e, hj9999e⟩ := fkX11_10 hT ha
  obtain ⟨hk9999f, hj9999f⟩ := fkX11_1 hT ha
  obtain ⟨hk9999g, hj9999g⟩ := fkX11_2 hT ha
  refine lv_aload_n hx hb dX11_findQueue_0 rfl (lv_at hl 0 rfl) ?_
  refine lv_iconst (v := 0) hx hb dX11_findQueue_1 (by decide) ?_
  refine pX11_19 (v := 0) S hK hT hS ha kf_X11_203 dX11_findQueue_2 (fun H locs hT hS => ?_)
  obtain ⟨G2, hG2⟩ : ∃ GG : XG, GG = dput G a 19 0 := ⟨_, rfl⟩
  rw [← hG2] at hT
  refine lv_aload_n hx hb dX11_findQueue_5 rfl (lv_at hl 0 rfl) ?_
  refine gX11_6 S hK hT ha kf_X11_206 dX11_findQueue_6 (v := (G.1 a 6)) (ld_j hG2 (by decide)) (fun hz6 => ?_)
  refine xi_zeq (tgt := 51) hx hb (rfl : Int32.toInt (G.1 a 6) = ((G.1 a 6).toInt)) dX11_findQueue_9 (by decide) (fun c9 => ?_) (fun c9 => ?_)
  · exact x_rv hx hb hr hlk hQ (Nat.le_of_ble_eq_true rfl) (Nat.le_of_ble_eq_true rfl) hS dX11_findQueue_51 G2 ⟨(by rw [hG2]; exact XFr.dput XFr.rf (List.mem_of_getElem? (i := 1) rfl)), (by rw [(show (G2.1 a 19).toInt = (0 : Int) from (congrArg Int32.toInt (ld_at hG2)).trans ((by decide) : Int32.toInt 0 = (0 : Int)))] <;> exact (by decide)), (v_X11_findQueue_51_1 (K := K) (F := F) a G2 G ha (xzi hz6) c9 (ld_at hG2)), (v_X11_findQueue_51_2 (F := F) a G2 G c9), (v_X11_findQueue_51_3 a G2 G hG2)⟩ hT
  · refine lv_aload_n hx hb dX11_findQueue_12 rfl (lv_at hl 0 rfl) ?_
    refine lv_aload_n hx hb dX11_findQueue_13 rfl (lv_at hl 0 rfl) ?_
    refine gX11_11 S hK hT ha kf_X11_36 dX11_findQueue_14 (fun _ _ => ?_)
    refine lv_aload_n hx hb dX11_findQueue_17 rfl (lv_at hl 0 rfl) ?_
    refine gX11_1 S hK hT ha kf_X11_9 dX11_findQueue_18 (fun _ _ => ?_)
    refine lv_iconst (v := 0) hx hb dX11_findQueue_21 (by decide) ?_
    refine x_cv0 (x_runV (b := a) (As := [.ref (F a 11), .ref (F a 1), .int 0]) (rest := []) S (c_X11_layStates l E K F G2 a (F a 11) (F a 1) 0 ha hk9999c (XO.a hk9999f (by decide)) (v_X11_findQueue_22_4 (F := F) a G2 G hR (ld_c hG2)) (v_X11_findQueue_22_5 (F := F) a G2 G hM hB (ld_c hG2))) mv_X11_layStates km_X11_210 rfl rfl ⟨Nat.le_of_ble_eq_true rfl, Nat.le_of_ble_eq_true rfl⟩ (rc_13 hK hT ha) hK (fun _ => XP.blind) (fun U hU hW => XP.at hK hz hS hT hU hW) rfl hl.1 (Nat.le_of_ble_eq_true rfl) dX11_findQueue_22 ⟨Nat.le_of_ble_eq_true rfl, Nat.le_of_ble_eq_true rfl⟩) hS ?_
    rintro G22 H locs ⟨hF22, oq22, oq22a⟩ hT hS
    have oq22 : LSt (G.2.1 (F a 10)) (G22.2.1 (F a 11)) (mw (G.2.1 (F a 1)) (0 : Int)) 12 := by simp only [(show G2.2.1 (F a 10) = G.2.1 (F a 10) from (ld_c hG2)), (show G2.2.1 (F a 1) = G.2.1 (F a 1) from (ld_c hG2))] at oq22; exact oq22
    refine lv_aload_n hx hb dX11_findQueue_25 rfl (lv_at hl 0 rfl) ?_
    refine lv_aload_n hx hb dX11_findQueue_26 rfl (lv_at hl 0 rfl) ?_
    refine gX11_13 S hK hT ha kf_X11_42 dX11_findQueue_27 (fun _ _ => ?_)
    refine lv_aload_n hx hb dX11_findQueue_30 rfl (lv_at hl 0 rfl) ?_
    refine gX11_2 S hK hT ha kf_X11_15 dX11_findQueue_31 (fun _ _ => ?_)
    refine lv_iconst (v := 0) hx hb dX11_findQueue_34 (by decide) ?_
    refine x_cv0 (x_runV (b := a) (As := [.ref (F a 13), .ref (F a 2), .int 0]) (rest := []) S (c_X11_layStates l E K F G22 a (F a 13) (F a 2) 0 ha hk9999d (XO.b hk9999g (by decide)) (v_X11_findQueue_35_6 (F := F) a G G22 hR ((hF22.2.1 _ (xn1 (xne_k hk9999e hk9999c (by decide)) xn0)).trans (ld_c hG2))) (v_X11_findQueue_35_7 (F := F) a G G22 hM hB ((hF22.2.1 _ (xn1 (xne_k hk9999g hk9999c (by decide)) xn0)).trans (ld_c hG2)))) mv_X11_layStates km_X11_210 rfl rfl ⟨Nat.le_of_ble_eq_true rfl, Nat.le_of_ble_eq_true rfl⟩ (rc_13 hK hT ha) hK (fun _ => XP.blind) (fun U hU hW => XP.at hK hz hS hT hU hW) rfl hl.1 (Nat.le_of_ble_eq_true rfl) dX11_findQueue_35 ⟨Nat.le_of_ble_eq_true rfl, Nat.le_of_ble_eq_true rfl⟩) hS ?_
    rintro G35 H locs ⟨hF35, oq35, oq35a⟩ hT hS
    have oq35 : LSt (G.2.1 (F a 10)) (G35.2.1 (F a 13)) (mw (G.2.1 (F a 2)) (0 : Int)) 12 := by simp only [(show G22.2.1 (F a 10) = G.2.1 (F a 10) from ((hF22.2.1 _ (xn1 (xne_k hk9999e hk9999c (by decide)) xn0)).trans (ld_c hG2))), (show G22.2.1 (F a 2) = G.2.1 (F a 2) from ((hF22.2.1 _ (xn1 (xne_k hk9999g hk9999c (by decide)) xn0)).trans (ld_c hG2)))] at oq35; exact oq35
    refine lv_aload_n hx hb dX11_findQueue_38 rfl (lv_at hl 0 rfl) ?_
    refine lv_iconst (v := 1) hx hb dX11_findQueue_39 (by decide) ?_
    refine lv_aload_n hx hb dX11_findQueue_40 rfl (lv_at hl 0 rfl) ?_
    refine gX11_11 S hK hT ha kf_X11_36 dX11_findQueue_41 (fun _ _ => ?_)
    refine lv_aload_n hx hb dX11_findQueue_44 rfl (lv_at hl 0 rfl) ?_
    refine gX11_13 S hK hT ha kf_X11_42 dX11_findQueue_45 (fun _ _ => ?_)
    refine x_cv0 (x_runV (b := a) (As := [.int 1, .ref (F a 11), .ref (F a 13)]) (rest := []) S (c_X11_findUnlike l E K F G35 a 1 (F a 11) (F a 13) (mw (G.2.1 (F a 1)) 0) (mw (G.2.1 (F a 2)) 0) ha hk9999c hk9999d (v_X11_findQueue_48_8 (F := F) a G G35 hR ((hF35.2.1 _ (xn1 (xne_k hk9999e hk9999d (by decide)) xn0)).trans ((hF22.2.1 _ (xn1 (xne_k hk9999e hk9999c (by decide)) xn0)).trans (ld_c hG2)))) (v_X11_findQueue_48_9 (F := F) a G G22 G35 oq22 oq35 ((hF35.2.1 _ (xn1 (xne_k hk9999e hk9999d (by decide)) xn0)).trans ((hF22.2.1 _ (xn1 (xne_k hk9999e hk9999c (by decide)) xn0)).trans (ld_c hG2))) (hF35.2.1 _ (xn1 (xne_j hj9999c hj9999d (by first | decide | omega)) xn0))) (v_X11_findQueue_48_10 (F := F) a G G22 G35 oq22 oq35 ((hF35.2.1 _ (xn1 (xne_k hk9999e hk9999d (by decide)) xn0)).trans ((hF22.2.1 _ (xn1 (xne_k hk9999e hk9999c (by decide)) xn0)).trans (ld_c hG2))))) mv_X11_findUnlike km_X11_214 rfl rfl ⟨Nat.le_of_ble_eq_true rfl, Nat.le_of_ble_eq_true rfl⟩ (rc_13 hK hT ha) hK (fun _ => XP.blind) (fun U hU hW => XP.at hK hz hS hT hU hW) rfl hl.1 (Nat.le_of_ble_eq_true rfl) dX11_findQueue_48 ⟨Nat.le_of_ble_eq_true rfl, Nat.le_of_ble_eq_true rfl⟩) hS ?_
    rintro G48 H locs ⟨hF48, t48, oq48, oq48a, oq48b⟩ hT hS
    have t48 : 0 ≤ ((G48.1 a 19).toInt) ∧ ((G48.1 a 19).toInt) ≤ 2388 := t48
    have oq48 : pL G48 F a = fuL (G.2.1 (F a 10)) (mw (G.2.1 (F a 1)) 0) (mw (G.2.1 (F a 2)) 0) (1 : Int) (ordN (prM (G.2.1 (F a 10))) (rkM (G.2.1 (F a 10))) 12).2 (ordN (prM (G.2.1 (F a 10))) (rkM (G.2.1 (F a 10))) 12).1 := by simp only [(show G35.2.1 (F a 10) = G.2.1 (F a 10) from ((hF35.2.1 _ (xn1 (xne_k hk9999e hk9999d (by decide)) xn0)).trans ((hF22.2.1 _ (xn1 (xne_k hk9999e hk9999c (by decide)) xn0)).trans (ld_c hG2))))] at oq48; exact oq48
    have oq48a : ORm (G.2.1 (F a 10)) (G48.2.1 (F a 15)) ((G48.1 a 16).toInt) 12 := by simp only [(show G35.2.1 (F a 10) = G.2.1 (F a 10) from ((hF35.2.1 _ (xn1 (xne_k hk9999e hk9999d (by decide)) xn0)).trans ((hF22.2.1 _ (xn1 (xne_k hk9999e hk9999c (by decide)) xn0)).trans (ld_c hG2))))] at oq48a; exact oq48a
    exact x_rv hx hb hr hlk hQ (Nat.le_of_ble_eq_true rfl) (Nat.le_of_ble_eq_true rfl) hS dX11_findQueue_51 G48 ⟨(XFr.call (XFr.call (XFr.call (by rw [hG2]; exact XFr.dput XFr.rf (List.mem_of_getElem? (i := 1) rfl)) hF22 xm0 (xm1 3 rfl xm0) xm0) hF35 xm0 (xm1 4 rfl xm0) xm0) hF48 (xm1 0 rfl (xm1 1 rfl xm0)) (xm1 0 rfl (xm1 1 rfl (xm1 2 rfl xm0))) xm0), (t48), (v_X11_findQueue_51_11 (K := K) (F := F) a G2 G G22 G35 G48 ha oq22a oq35a oq48 oq48b (xzi hz6) c9 t48), (v_X11_findQueue_51_12 (F := F) a G G22 G35 G48 oq22 oq35 c9 ((hF48.2.1 _ (xn1 (xne_k hk9999c hk9999 (by decide)) (xn1 (xne_k hk9999c hk9999a (by decide)) (xn1 (xne_k hk9999c hk9999b (by decide)) xn0)))).trans (hF35.2.1 _ (xn1 (xne_j hj9999c hj9999d (by first | decide | omega)) xn0))) (hF48.2.1 _ (xn1 (xne_k hk9999d hk9999 (by decide)) (xn1 (xne_k hk9999d hk9999a (by decide)) (xn1 (xne_k hk9999d hk9999b (by decide)) xn0))))), (v_X11_findQueue_51_13 a G2 G G22 G35 G48 hG2 oq22a oq35a oq48b)⟩ hT

abbrev rm_X11_queueMany : Room := { frames := 5, cells := 0, slots := 0, locals := 122 }
set_option maxHeartbeats 4000000 in
set_option maxRecDepth 100000 in
theorem c_X11_queueMany (l : Launch) (E : XE) (K : Nat → Nat) (F : Nat → Nat → Nat) (G : XG) (a : Nat) (ha : K a = 13) (hR : RV (G.2.1 (F a 10))) (hM : RM (G.2.1 (F a 1)) (0)) (hB : RM (G.2.1 (F a 2)) 0) : Met l yX11_queueMany (xw yX11_queueMany cX11_queueMany 1 (some .int)) rm_X11_queueMany (va_Pc [.ref a] (XP E K F G)) (XQ E (fun v (u : XG) => ∃ r : Int32, v = .int r ∧ XFr [(a, 16), (a, 19)] [F a 15, F a 17, F a 18, F a 11, F a 13] [] G u ∧ (0 ≤ r.toInt ∧ r.toInt ≤ 2388) ∧ (pL u F a = if ((G.1 a 6).toInt) = 0 then [] else fuO (G.2.1 (F a 10)) (mw (G.2.1 (F a 1)) 0) (mw (G.2.1 (F a 2)) 0) 1) ∧ (r.toInt = ((u.1 a 19).toInt))) (fun u H => TW E K F u H)) 0 0 (xA E) := by
  refine x_enter (by decide) (Nat.le_of_ble_eq_true rfl) ?_
  intro p e s m args below meth c Q S hr hlk hnm hQ hP ls hl
  obtain ⟨hz, hK, hT⟩ := hP
  obtain ⟨hx, hb, -, -, -⟩ := id S
  obtain ⟨H, hT, hS, hgo⟩ : ∃ H : Heap, TW E K F G H ∧ va_S (xA E) s.heap H [] ∧ H = s.heap := ⟨_, hT, va_S.rf, rfl⟩
  rw [← hgo]
  have hl : lv_has ls 1 [(0, .ref a)] := hl
  obtain ⟨hk9999, hj9999⟩ := fkX11_15 hT ha
  obtain ⟨hk9999a, hj9999a⟩ := fkX11_17 hT ha
  obtain ⟨hk9999b, hj9999b⟩ := fkX11_18 hT ha
  obtain ⟨hk9999c, hj9999c⟩ := fkX11_11 hT ha
  obtain ⟨hk9999d, hj9999d⟩ := fkX11_13 hT ha
  obtain ⟨hk9999e, hj9999e⟩ := fkX11_10 hT ha
  obtain ⟨hk9999f, hj9999f⟩ := fkX11_1 hT ha
  obtain ⟨hk9999g, hj9999g⟩ := fkX11_2 hT ha
  refine lv_aload_n hx hb dX11_queueMany_0 rfl (lv_at hl 0 rfl) ?_
  refine x_cv0 (x_runV (b := a) (As := []) (rest := []) S (c_X11_findQueue l E K F G a ha (v_X11_queueMany_1_1 (F := F) a G hR) (v_X11_queueMany_1_2 (F := F) a G hM) (v_X11_queueMany_1_3 (F := F) a G hB)) mv_X11_findQueue km_X11_218 rfl rfl ⟨Nat.le_of_ble_eq_true rfl, Nat.le_of_ble_eq_true rfl⟩ (rc_13 hK hT ha) hK (fun _ => XP.blind) (fun U hU hW => XP.at hK hz hS hT hU hW) rfl hl.1 (Nat.le_of_ble_eq_true rfl) dX11_queueMany_1 ⟨Nat.le_of_ble_eq_true rfl, Nat.le_of_ble_eq_true rfl⟩) hS ?_
  rintro G1 H locs ⟨hF1, t1, oq1, oq1a, oq1b⟩ hT hS
  have t1 : 0 ≤ ((G1.1 a 19).toInt) ∧ ((G1.1 a 19).toInt) ≤ 2388 := t1
  refine lv_aload_n hx hb dX11_queueMany_4 rfl (lv_at hl 0 rfl) ?_
  refine gX11_19 S hK hT ha kf_X11_203 dX11_queueMany_5 (v := (G1.1 a 19)) rfl (?_)
  exact x_ri hx hb hr hlk hQ (Nat.le_of_ble_eq_true rfl) (Nat.le_of_ble_eq_true rfl) hS dX11_queueMany_8 G1 ⟨_, rfl, (XFr.call XFr.rf hF1 (xm1 0 rfl (xm1 1 rfl xm0)) (xm1 0 rfl (xm1 1 rfl (xm1 2 rfl (xm1 3 rfl (xm1 4 rfl xm0))))) xm0), (t1), (v_X11_queueMany_8_4 (F := F) a G G1 oq1), (v_X11_queueMany_8_5 a G1)⟩ hT

theorem z_X11_asks_1 (a0 : Int) (h0 : 0 ≤ a0 ∧ a0 ≤ 2388) : 0 ≤ a0 ∧ a0 ≤ 2400 := by omega
theorem z_X11_asks_2 (a0 : Int) (a1 : Int) (h0 : -1 ≤ a0 ∧ a0 < a1) : -1 ≤ a0 := by omega
abbrev rm_X11_asks : Room := { frames := 5, cells := 0, slots := 0, locals := 125 }
set_option maxHeartbeats 4000000 in
set_option maxRecDepth 100000 in
theorem c_X11_asks (l : Launch) (E : XE) (K : Nat → Nat) (F : Nat → Nat → Nat) (G : XG) (a : Nat) (p0 : Int32) (r1 : Int → Int) (ha : K a = 13) (hR : RV (G.2.1 (F a 10))) (hM : RM (G.2.1 (F a 1)) (0)) (h1 : LSt (G.2.1 (F a 10)) (G.2.1 (F a 12)) r1 12) (h2 : LSt (G.2.1 (F a 10)) (G.2.1 (F a 11)) (mw (G.2.1 (F a 1)) 0) 12) : Met l yX11_asks (xw yX11_asks cX11_asks 2 (some .int)) rm_X11_asks (va_Pc [.ref a, .int p0] (XP E K F G)) (XQ E (fun v (u : XG) => ∃ r : Int32, v = .int r ∧ XFr [(a, 16), (a, 19)] [F a 15, F a 17, F a 18] [] G u ∧ (-1 ≤ r.toInt) ∧ (pL u F a = fuO (G.2.1 (F a 10)) r1 (mw (G.2.1 (F a 1)) 0) p0.toInt) ∧ (r.toInt = ffP (G.2.1 (F a 10)) (mw (G.2.1 (F a 1)) 0) (pL u F a)) ∧ (0 ≤ ((u.1 a 19).toInt) ∧ ((u.1 a 19).toInt) ≤ 2388 ∧ r.toInt < ((u.1 a 19).toInt))) (fun u H => TW E K F u H)) 0 0 (xA E) := by
  refine x_enter (by decide) (Nat.le_of_ble_eq_true rfl) ?_
  intro p e s m args below meth c Q S hr hlk hnm hQ hP ls hl
  obtain ⟨hz, hK, hT⟩ := hP
  obtain ⟨hx, hb, -, -, -⟩ := id S
  obtain ⟨H, hT, hS, hgo⟩ : ∃ H : Heap, TW E K F G H ∧ va_S (xA E) s.heap H [] ∧ H = s.heap := ⟨_, hT, va_S.rf, rfl⟩
  rw [← hgo]
  have hl : lv_has ls 2 [(0, .ref a), (1, .int p0)] := hl
  obtain ⟨hk9999, hj9999⟩ := fkX11_15 hT ha
  obtain ⟨hk9999a, hj9999a⟩ := fkX11_17 hT ha
  obtain ⟨hk9999b, hj9999b⟩ := fkX11_18 hT ha
  obtain ⟨hk9999c, hj9999c⟩ := fkX11_10 hT ha
  obtain ⟨hk9999d, hj9999d⟩ := fkX11_1 hT ha
  obtain ⟨hk9999e, hj9999e⟩ := fkX11_12 hT ha
  obtain ⟨hk9999f, hj9999f⟩ := fkX11_11 hT ha
  refine lv_aload_n hx hb dX11_asks_0 rfl (lv_at hl 0 rfl) ?_
  refine lv_iload_n hx hb dX11_asks_1 rfl (lv_at hl 1 rfl) ?_
  refine lv_aload_n hx hb dX11_asks_2 rfl (lv_at hl 0 rfl) ?_
  refine gX11_12 S hK hT ha kf_X11_39 dX11_asks_3 (fun _ _ => ?_)
  refine lv_aload_n hx hb dX11_asks_6 rfl (lv_at hl 0 rfl) ?_
  refine gX11_11 S hK hT ha kf_X11_36 dX11_asks_7 (fun _ _ => ?_)
  refine x_cv0 (x_runV (b := a) (As := [.int p0, .ref (F a 12), .ref (F a 11)]) (rest := []) S (c_X11_findUnlike l E K F G a p0 (F a 12) (F a 11) r1 (mw (G.2.1 (F a 1)) 0) ha hk9999e hk9999f (v_X11_asks_10_1 (F := F) a G hR) (v_X11_asks_10_2 (F := F) a G r1 h1) (v_X11_asks_10_3 (F := F) a G h2)) mv_X11_findUnlike km_X11_214 rfl rfl ⟨Nat.le_of_ble_eq_true rfl, Nat.le_of_ble_eq_true rfl⟩ (rc_13 hK hT ha) hK (fun _ => XP.blind) (fun U hU hW => XP.at hK hz hS hT hU hW) rfl hl.1 (Nat.le_of_ble_eq_true rfl) dX11_asks_10 ⟨Nat.le_of_ble_eq_true rfl, Nat.le_of_ble_eq_true rfl⟩) hS ?_
  rintro G10 H locs ⟨hF10, t10, oq10, oq10a, oq10b⟩ hT hS
  have t10 : 0 ≤ ((G10.1 a 19).toInt) ∧ ((G10.1 a 19).toInt) ≤ 2388 := t10
  refine lv_aload_n hx hb dX11_asks_13 rfl (lv_at hl 0 rfl) ?_
  refine x_clp (x_runV (b := a) (As := []) (rest := []) S (c_X11_firstFailing l E K F G10 H a ha (z_X11_asks_1 ((G10.1 a 19).toInt) t10) (v_X11_asks_14_4 (F := F) a G G10 hR (hF10.2.1 _ (xn1 (xne_k hk9999c hk9999 (by decide)) (xn1 (xne_k hk9999c hk9999a (by decide)) (xn1 (xne_k hk9999c hk9999b (by decide)) xn0))))) (v_X11_asks_14_5 (F := F) a G G10 hM (hF10.2.1 _ (xn1 (xne_k hk9999d hk9999 (by decide)) (xn1 (xne_k hk9999d hk9999a (by decide)) (xn1 (xne_k hk9999d hk9999b (by decide)) xn0))))) (v_X11_asks_14_6 (F := F) a G G10 r1 p0 oq10 (hF10.2.1 _ (xn1 (xne_k hk9999c hk9999 (by decide)) (xn1 (xne_k hk9999c hk9999a (by decide)) (xn1 (xne_k hk9999c hk9999b (by decide)) xn0)))))) mv_X11_firstFailing km_X11_313 rfl rfl ⟨Nat.le_of_ble_eq_true rfl, Nat.le_of_ble_eq_true rfl⟩ (rc_13 hK hT ha) hK (fun _ => XPh.blind) (fun U hU hW => XPh.at hK hz hS hT hU hW) rfl hl.1 (Nat.le_of_ble_eq_true rfl) dX11_asks_14 ⟨Nat.le_of_ble_eq_true rfl, Nat.le_of_ble_eq_true rfl⟩) hS ?_
  rintro _ _ locs ⟨x14, rfl, t14, oq14⟩ hS
  have t14 : -1 ≤ x14.toInt ∧ x14.toInt < ((G10.1 a 19).toInt) := t14
  have oq14 : x14.toInt = ffP (G.2.1 (F a 10)) (mw (G.2.1 (F a 1)) 0) (pL G10 F a) := by simp only [(show G10.2.1 (F a 10) = G.2.1 (F a 10) from (hF10.2.1 _ (xn1 (xne_k hk9999c hk9999 (by decide)) (xn1 (xne_k hk9999c hk9999a (by decide)) (xn1 (xne_k hk9999c hk9999b (by decide)) xn0))))), (show G10.2.1 (F a 1) = G.2.1 (F a 1) from (hF10.2.1 _ (xn1 (xne_k hk9999d hk9999 (by decide)) (xn1 (xne_k hk9999d hk9999a (by decide)) (xn1 (xne_k hk9999d hk9999b (by decide)) xn0)))))] at oq14; exact oq14
  exact x_ri hx hb hr hlk hQ (Nat.le_of_ble_eq_true rfl) (Nat.le_of_ble_eq_true rfl) hS dX11_asks_17 G10 ⟨_, rfl, (XFr.call XFr.rf hF10 (xm1 0 rfl (xm1 1 rfl xm0)) (xm1 0 rfl (xm1 1 rfl (xm1 2 rfl xm0))) xm0), (z_X11_asks_2 x14.toInt ((G10.1 a 19).toInt) t14), (v_X11_asks_17_7 (F := F) a G G10 r1 p0 oq10), (v_X11_asks_17_8 (F := F) a G G10 x14 oq14), (v_X11_asks_17_9 (K := K) (F := F) a G G10 x14 ha oq10b oq14 t10 t14)⟩ hT

abbrev rm_X11_start : Room := { frames := 4, cells := 0, slots := 0, locals := 102 }
set_option maxHeartbeats 4000000 in
set_option maxRecDepth 100000 in
theorem c_X11_start (l : Launch) (E : XE) (K : Nat → Nat) (F : Nat → Nat → Nat) (G : XG) (a : Nat) (ha : K a = 13) (hR : RV (G.2.1 (F a 10))) (hM : RM (G.2.1 (F a 1)) (0)) : Met l yX11_start (xw yX11_start cX11_start 1 none) rm_X11_start (va_Pc [.ref a] (XP E K F G)) (XQv E (fun (u : XG) => XFr [] [F a 4, F a 12] [] G u ∧ (mw (u.2.1 (F a 4)) 0 = mw (G.2.1 (F a 1)) 0) ∧ (RM (u.2.1 (F a 4)) 0) ∧ (LSt (G.2.1 (F a 10)) (u.2.1 (F a 12)) (mw (G.2.1 (F a 1)) 0) 12)) (fun u H => TW E K F u H)) 0 0 (xA E) := by
  refine x_enter (by decide) (Nat.le_of_ble_eq_true rfl) ?_
  intro p e s m args below meth c Q S hr hlk hnm hQ hP ls hl
  obtain ⟨hz, hK, hT⟩ := hP
  obtain ⟨hx, hb, -, -, -⟩ := id S
  obtain ⟨H, hT, hS, hgo⟩ : ∃ H : Heap, TW E K F G H ∧ va_S (xA E) s.heap H [] ∧ H = s.heap := ⟨_, hT, va_S.rf, rfl⟩
  rw [← hgo]
  have hl : lv_has ls 1 [(0, .ref a)] := hl
  obtain ⟨hk9999, hj9999⟩ := fkX11_4 hT ha
  obtain ⟨hk9999a, hj9999a⟩ := fkX11_12 hT ha
  obtain ⟨hk9999b, hj9999b⟩ := fkX11_10 hT ha
  obtain ⟨hk9999c, hj9999c⟩ := fkX11_1 hT ha
  refine lv_aload_n hx hb dX11_start_0 rfl (lv_at hl 0 rfl) ?_
  refine gX11_1 S hK hT ha kf_X11_9 dX11_start_1 (fun _ _ => ?_)
  refine lv_iconst (v := 0) hx hb dX11_start_4 (by decide) ?_
  refine lv_aload_n hx hb dX11_start_5 rfl (lv_at hl 0 rfl) ?_
  refine gX11_4 S hK hT ha kf_X11_21 dX11_start_6 (fun _ _ => ?_)
  refine lv_iconst (v := 0) hx hb dX11_start_9 (by decide) ?_
  refine x_cv0 (x_runS (As := [.ref (F a 1), .int 0, .ref (F a 4), .int 0]) (rest := []) S (c_X11_copy l E K F G (F a 1) 0 (F a 4) 0 (XO.a hk9999c (by decide)) (XO.b hk9999 (by decide)) (v_X11_start_10_1 (K := K) (F := F) a G ha hk9999 hj9999 hk9999a hj9999a hk9999b hj9999b hk9999c hj9999c hR hM)) ms_X11_copy km_X11_309 rfl rfl ⟨Nat.le_of_ble_eq_true rfl, Nat.le_of_ble_eq_true rfl⟩ hK (fun _ => XP.blind) (fun U hU hW => XP.at hK hz hS hT hU hW) rfl hl.1 (Nat.le_of_ble_eq_true rfl) dX11_start_10 ⟨Nat.le_of_ble_eq_true rfl, Nat.le_of_ble_eq_true rfl⟩) hS ?_
  rintro G10 H locs ⟨hF10, oq10⟩ hT hS
  refine lv_aload_n hx hb dX11_start_13 rfl (lv_at hl 0 rfl) ?_
  refine lv_aload_n hx hb dX11_start_14 rfl (lv_at hl 0 rfl) ?_
  refine gX11_12 S hK hT ha kf_X11_39 dX11_start_15 (fun _ _ => ?_)
  refine lv_aload_n hx hb dX11_start_18 rfl (lv_at hl 0 rfl) ?_
  refine gX11_1 S hK hT ha kf_X11_9 dX11_start_19 (fun _ _ => ?_)
  refine lv_iconst (v := 0) hx hb dX11_start_22 (by decide) ?_
  refine x_cv0 (x_runV (b := a) (As := [.ref (F a 12), .ref (F a 1), .int 0]) (rest := []) S (c_X11_layStates l E K F G10 a (F a 12) (F a 1) 0 ha hk9999a (XO.a hk9999c (by decide)) (v_X11_start_23_2 (F := F) a G G10 hR (hF10.2.1 _ (xn1 (xne_k hk9999b hk9999 (by decide)) xn0))) (v_X11_start_23_3 (F := F) a G G10 hM (hF10.2.1 _ (xn1 (xne_k hk9999c hk9999 (by decide)) xn0)))) mv_X11_layStates km_X11_210 rfl rfl ⟨Nat.le_of_ble_eq_true rfl, Nat.le_of_ble_eq_true rfl⟩ (rc_13 hK hT ha) hK (fun _ => XP.blind) (fun U hU hW => XP.at hK hz hS hT hU hW) rfl hl.1 (Nat.le_of_ble_eq_true rfl) dX11_start_23 ⟨Nat.le_of_ble_eq_true rfl, Nat.le_of_ble_eq_true rfl⟩) hS ?_
  rintro G23 H locs ⟨hF23, oq23, oq23a⟩ hT hS
  have oq23 : LSt (G.2.1 (F a 10)) (G23.2.1 (F a 12)) (mw (G.2.1 (F a 1)) (0 : Int)) 12 := by simp only [(show G10.2.1 (F a 10) = G.2.1 (F a 10) from (hF10.2.1 _ (xn1 (xne_k hk9999b hk9999 (by decide)) xn0))), (show G10.2.1 (F a 1) = G.2.1 (F a 1) from (hF10.2.1 _ (xn1 (xne_k hk9999c hk9999 (by decide)) xn0)))] at oq23; exact oq23
  exact x_rv hx hb hr hlk hQ (Nat.le_of_ble_eq_true rfl) (Nat.le_of_ble_eq_true rfl) hS dX11_start_26 G23 ⟨(XFr.call (XFr.call XFr.rf hF10 xm0 (xm1 0 rfl xm0) xm0) hF23 xm0 (xm1 1 rfl xm0) xm0), (v_X11_start_26_4 (F := F) a G G10 G23 oq10 (hF23.2.1 _ (xn1 (xne_k hk9999 hk9999a (by decide)) xn0))), (v_X11_start_26_5 (F := F) a G G10 G23 hM oq10 (hF23.2.1 _ (xn1 (xne_k hk9999 hk9999a (by decide)) xn0))), (v_X11_start_26_6 (F := F) a G G23 oq23)⟩ hT

theorem z_X11_refuses_1 (a0 : Int) : a0 = a0 := by omega
abbrev rm_X11_refuses : Room := { frames := 0, cells := 0, slots := 0, locals := 0 }
set_option maxHeartbeats 4000000 in
set_option maxRecDepth 100000 in
theorem c_X11_refuses (l : Launch) (E : XE) (K : Nat → Nat) (F : Nat → Nat → Nat) (G : XG) (a : Nat) (p0 : Int32) (ha : K a = 13) : Met l yX11_refuses (xw yX11_refuses cX11_refuses 2 (some .int)) rm_X11_refuses (va_Pc [.ref a, .int p0] (XP E K F G)) (XQ E (fun v (u : XG) => ∃ r : Int32, v = .int r ∧ XFr [] [F a 8] [] G u ∧ (r.toInt = p0.toInt)) (fun u H => TW E K F u H)) 0 0 (xA E) := by
  refine x_enter (by decide) (Nat.le_of_ble_eq_true rfl) ?_
  intro p e s m args below meth c Q S hr hlk hnm hQ hP ls hl
  obtain ⟨hz, hK, hT⟩ := hP
  obtain ⟨hx, hb, -, -, -⟩ := id S
  obtain ⟨H, hT, hS, hgo⟩ : ∃ H : Heap, TW E K F G H ∧ va_S (xA E) s.heap H [] ∧ H = s.heap := ⟨_, hT, va_S.rf, rfl⟩
  rw [← hgo]
  have hl : lv_has ls 2 [(0, .ref a), (1, .int p0)] := hl
  obtain ⟨hk9999, hj9999⟩ := fkX11_8 hT ha
  refine lv_aload_n hx hb dX11_refuses_0 rfl (lv_at hl 0 rfl) ?_
  refine gX11_8 S hK hT ha kf_X11_27 dX11_refuses_1 (fun _ _ => ?_)
  refine lv_iconst (v := 5) hx hb dX11_refuses_4 (by decide) ?_
  refine lv_dup2_11 hx hb dX11_refuses_5 rfl rfl ?_
  refine al_0 S hK hT hk9999 ar_35 (by decide) (by decide) dX11_refuses_6 (fun x6 hv6 o6 => ?_)
  have hv6 : x6.toInt = (aI (G.2.1 (F a 8)) 5) := hv6.trans (by rw [((by decide) : Int32.toInt 5 = (5 : Int))])
  refine lv_aload_n hx hb dX11_refuses_7 rfl (lv_at hl 0 rfl) ?_
  refine gX11_6 S hK hT ha kf_X11_206 dX11_refuses_8 (v := (G.1 a 6)) rfl (fun hz8 => ?_)
  refine xi_zeq (tgt := 18) hx hb (rfl : Int32.toInt (G.1 a 6) = ((G.1 a 6).toInt)) dX11_refuses_11 (by decide) (fun c11 => ?_) (fun c11 => ?_)
  · refine lv_iconst (v := 0) hx hb dX11_refuses_18 (by decide) ?_
    refine xi_iadd hx hb (hv6 : Int32.toInt x6 = (aI (G.2.1 (F a 8)) 5)) ((by decide) : Int32.toInt 0 = (0 : Int)) dX11_refuses_19 (fun x19 t19 => ?_)
    refine as_0 (x := x19) S hK hT hS hk9999 ar_35 aw_35 (by decide) (by decide) dX11_refuses_20 (fun H locs hT hS => ?_)
    obtain ⟨G20, hG20⟩ : ∃ GG : XG, GG = cput G (F a 8) (5 : Int32).toNatClampNeg x19 := ⟨_, rfl⟩
    rw [← hG20] at hT
    refine lv_iload_n hx hb dX11_refuses_21 rfl (lv_at hl 1 rfl) ?_
    exact x_ri hx hb hr hlk hQ (Nat.le_of_ble_eq_true rfl) (Nat.le_of_ble_eq_true rfl) hS dX11_refuses_22 G20 ⟨_, rfl, (by rw [hG20]; exact XFr.cput XFr.rf (List.mem_of_getElem? (i := 0) rfl)), (z_X11_refuses_1 p0.toInt)⟩ hT
  · refine lv_iconst (v := 1) hx hb dX11_refuses_14 (by decide) ?_
    refine lv_goto (tgt := 19) hx hb dX11_refuses_15 (by decide) ?_
    refine xi_iadd hx hb (hv6 : Int32.toInt x6 = (aI (G.2.1 (F a 8)) 5)) ((by decide) : Int32.toInt 1 = (1 : Int)) dX11_refuses_19 (fun x19 t19 => ?_)
    refine as_0 (x := x19) S hK hT hS hk9999 ar_35 aw_35 (by decide) (by decide) dX11_refuses_20 (fun H locs hT hS => ?_)
    obtain ⟨G20, hG20⟩ : ∃ GG : XG, GG = cput G (F a 8) (5 : Int32).toNatClampNeg x19 := ⟨_, rfl⟩
    rw [← hG20] at hT
    refine lv_iload_n hx hb dX11_refuses_21 rfl (lv_at hl 1 rfl) ?_
    exact x_ri hx hb hr hlk hQ (Nat.le_of_ble_eq_true rfl) (Nat.le_of_ble_eq_true rfl) hS dX11_refuses_22 G20 ⟨_, rfl, (by rw [hG20]; exact XFr.cput XFr.rf (List.mem_of_getElem? (i := 0) rfl)), (z_X11_refuses_1 p0.toInt)⟩ hT

theorem z_X11_isMark_1 (a0 : Int) (a1 : Int) (a2 : Int) (h0 : a1 = 0) : (a1 ≠ 0 ∧ 0 ≤ a0 ∧ a0 ≤ a2 - 1 ∧ (0 : Int) = 1) ∨ (¬ (a1 ≠ 0 ∧ 0 ≤ a0 ∧ a0 ≤ a2 - 1) ∧ (0 : Int) = 0) := by omega
theorem z_X11_isMark_3 (a0 : Int) (a1 : Int) (a2 : Int) (a3 : Int) (h0 : (a1 = 1 ∧ (0 : Int) ≤ a0 ∧ a0 ≤ (a3 - (1 : Int))) ∨ (a1 = 0 ∧ (a0 < (0 : Int) ∨ (a3 - (1 : Int)) < a0))) (h1 : a1 = 0) : (a2 ≠ 0 ∧ 0 ≤ a0 ∧ a0 ≤ a3 - 1 ∧ (0 : Int) = 1) ∨ (¬ (a2 ≠ 0 ∧ 0 ≤ a0 ∧ a0 ≤ a3 - 1) ∧ (0 : Int) = 0) := by omega
theorem z_X11_isMark_4 (a0 : Int) (a1 : Int) (a2 : Int) (a3 : Int) (h0 : ¬ (a2 = 0)) (h1 : (a1 = 1 ∧ (0 : Int) ≤ a0 ∧ a0 ≤ (a3 - (1 : Int))) ∨ (a1 = 0 ∧ (a0 < (0 : Int) ∨ (a3 - (1 : Int)) < a0))) (h2 : ¬ (a1 = 0)) : (a2 ≠ 0 ∧ 0 ≤ a0 ∧ a0 ≤ a3 - 1 ∧ (1 : Int) = 1) ∨ (¬ (a2 ≠ 0 ∧ 0 ≤ a0 ∧ a0 ≤ a3 - 1) ∧ (1 : Int) = 0) := by omega
abbrev rm_X11_isMark : Room := { frames := 1, cells := 0, slots := 0, locals := 25 }
set_option maxHeartbeats 4000000 in
set_option maxRecDepth 100000 in
theorem c_X11_isMark (l : Launch) (E : XE) (K : Nat → Nat) (F : Nat → Nat → Nat) (G : XG) (h0 : Heap) (a : Nat) (p0 : Int32) (ha : K a = 13) : Met l yX11_isMark (xw yX11_isMark cX11_isMark 2 (some .boolean)) rm_X11_isMark (va_Pc [.ref a, .int p0] (XPh E K F G h0)) (XQ E (fun v (u : Unit) => ∃ r : Int32, v = .int r ∧ (r = 0 ∨ r = 1) ∧ ((((G.1 a 6).toInt) ≠ 0 ∧ 0 ≤ p0.toInt ∧ p0.toInt ≤ ((G.1 a 7).toInt) - 1 ∧ r.toInt = 1) ∨ (¬ (((G.1 a 6).toInt) ≠ 0 ∧ 0 ≤ p0.toInt ∧ p0.toInt ≤ ((G.1 a 7).toInt) - 1) ∧ r.toInt = 0))) (fun _ H => H = h0)) 0 0 (xA E) := by
  refine x_enter (by decide) (Nat.le_of_ble_eq_true rfl) ?_
  intro p e s m args below meth c Q S hr hlk hnm hQ hP ls hl
  obtain ⟨⟨hz, hK, hT⟩, hh⟩ := hP
  obtain ⟨hx, hb, -, -, -⟩ := id S
  have hS : va_S (xA E) s.heap s.heap [] := va_S.rf
  have hl : lv_has ls 2 [(0, .ref a), (1, .int p0)] := hl
  refine lv_aload_n hx hb dX11_isMark_0 rfl (lv_at hl 0 rfl) ?_
  refine gX11_6 S hK hT ha kf_X11_206 dX11_isMark_1 (v := (G.1 a 6)) rfl (fun hz1 => ?_)
  refine xi_zeq (tgt := 27) hx hb (rfl : Int32.toInt (G.1 a 6) = ((G.1 a 6).toInt)) dX11_isMark_4 (by decide) (fun c4 => ?_) (fun c4 => ?_)
  · refine lv_iconst (v := 0) hx hb dX11_isMark_27 (by decide) ?_
    exact x_rz hx hb hr (xnz (Or.inl rfl)) hlk hQ (Nat.le_of_ble_eq_true rfl) (Nat.le_of_ble_eq_true rfl) hS dX11_isMark_28 () ⟨_, rfl, (Or.inl rfl), (z_X11_isMark_1 p0.toInt ((G.1 a 6).toInt) ((G.1 a 7).toInt) c4)⟩ hh
  · refine lv_iload_n hx hb dX11_isMark_7 rfl (lv_at hl 1 rfl) ?_
    refine lv_i2l (v := p0.toInt64) hx hb dX11_isMark_8 rfl ?_
    refine lv_lconst (v := (0 : Int64)) hx hb dX11_isMark_9 (by decide) ?_
    refine lv_aload_n hx hb dX11_isMark_10 rfl (lv_at hl 0 rfl) ?_
    refine gX11_7 S hK hT ha kf_X11_373 dX11_isMark_11 (v := (G.1 a 7)) rfl (?_)
    refine lv_i2l (v := ((G.1 a 7) : Int32).toInt64) hx hb dX11_isMark_14 rfl ?_
    refine lv_lconst (v := (1 : Int64)) hx hb dX11_isMark_15 (by decide) ?_
    refine lv_lsub hx hb dX11_isMark_16 (lv_topl (fun y16 hy16 => ?_))
    have hy16 : y16.toInt = ((G.1 a 7).toInt) - (1 : Int) := xl_sub (xl_i2l (rfl : Int32.toInt (G.1 a 7) = ((G.1 a 7).toInt))) (by decide) ((xr (G.1 a 7))) (by decide) hy16
    refine x_clp (x_runS (As := [.long p0.toInt64, .long (0 : Int64), .long y16]) (rest := []) S (c_X11_in l E K F G s.heap p0.toInt64 p0.toInt (0 : Int64) (0 : Int) y16 (((G.1 a 7).toInt) - (1 : Int)) (xl_i2l (rfl : Int32.toInt p0 = p0.toInt)) (by decide) hy16) ms_X11_in km_X11_139 rfl rfl ⟨Nat.le_of_ble_eq_true rfl, Nat.le_of_ble_eq_true rfl⟩ hK (fun _ => XPh.blind) (fun U hU hW => XPh.at hK hz hS hT hU hW) rfl hl.1 (Nat.le_of_ble_eq_true rfl) dX11_isMark_17 ⟨Nat.le_of_ble_eq_true rfl, Nat.le_of_ble_eq_true rfl⟩) hS ?_
    rintro _ _ locs ⟨x17, rfl, b17, t17⟩ hS
    have t17 : (x17.toInt = 1 ∧ (0 : Int) ≤ p0.toInt ∧ p0.toInt ≤ (((G.1 a 7).toInt) - (1 : Int))) ∨ (x17.toInt = 0 ∧ (p0.toInt < (0 : Int) ∨ (((G.1 a 7).toInt) - (1 : Int)) < p0.toInt)) := t17
    refine xi_zeq (tgt := 27) hx hb (rfl : Int32.toInt x17 = x17.toInt) dX11_isMark_20 (by decide) (fun c20 => ?_) (fun c20 => ?_)
    · refine lv_iconst (v := 0) hx hb dX11_isMark_27 (by decide) ?_
      exact x_rz hx hb hr (xnz (Or.inl rfl)) hlk hQ (Nat.le_of_ble_eq_true rfl) (Nat.le_of_ble_eq_true rfl) hS dX11_isMark_28 () ⟨_, rfl, (Or.inl rfl), (z_X11_isMark_3 p0.toInt x17.toInt ((G.1 a 6).toInt) ((G.1 a 7).toInt) t17 c20)⟩ hh
    · refine lv_iconst (v := 1) hx hb dX11_isMark_23 (by decide) ?_
      refine lv_goto (tgt := 28) hx hb dX11_isMark_24 (by decide) ?_
      exact x_rz hx hb hr (xnz (Or.inr rfl)) hlk hQ (Nat.le_of_ble_eq_true rfl) (Nat.le_of_ble_eq_true rfl) hS dX11_isMark_28 () ⟨_, rfl, (Or.inr rfl), (z_X11_isMark_4 p0.toInt x17.toInt ((G.1 a 6).toInt) ((G.1 a 7).toInt) c4 t17 c20)⟩ hh

abbrev rm_X11_nothing : Room := { frames := 0, cells := 0, slots := 0, locals := 0 }
set_option maxHeartbeats 4000000 in
set_option maxRecDepth 100000 in
theorem c_X11_nothing (l : Launch) (E : XE) (K : Nat → Nat) (F : Nat → Nat → Nat) (G : XG) (a : Nat) (ha : K a = 13) : Met l yX11_nothing (xw yX11_nothing cX11_nothing 1 none) rm_X11_nothing (va_Pc [.ref a] (XP E K F G)) (XQv E (fun (u : XG) => XFr [(a, 20), (a, 21), (a, 23)] [] [] G u ∧ (((u.1 a 20).toInt) = -2147483648 ∧ ((u.1 a 21).toInt) = -2147483648 ∧ ((u.1 a 23).toInt) = 0)) (fun u H => TW E K F u H)) 0 0 (xA E) := by
  refine x_enter (by decide) (Nat.le_of_ble_eq_true rfl) ?_
  intro p e s m args below meth c Q S hr hlk hnm hQ hP ls hl
  obtain ⟨hz, hK, hT⟩ := hP
  obtain ⟨hx, hb, -, -, -⟩ := id S
  obtain ⟨H, hT, hS, hgo⟩ : ∃ H : Heap, TW E K F G H ∧ va_S (xA E) s.heap H [] ∧ H = s.heap := ⟨_, hT, va_S.rf, rfl⟩
  rw [← hgo]
  have hl : lv_has ls 1 [(0, .ref a)] := hl
  refine lv_aload_n hx hb dX11_nothing_0 rfl (lv_at hl 0 rfl) ?_
  refine lv_ldc (v := (-2147483648)) hx hb S.2.2.2.1 (S.2.2.2.2 _ (List.mem_cons_of_mem _ kc_X11_57)) dX11_nothing_1 ?_
  refine pX11_20 (v := (-2147483648)) S hK hT hS ha kf_X11_58 dX11_nothing_3 (fun H locs hT hS => ?_)
  obtain ⟨G3, hG3⟩ : ∃ GG : XG, GG = dput G a 20 (-2147483648) := ⟨_, rfl⟩
  rw [← hG3] at hT
  refine lv_aload_n hx hb dX11_nothing_6 rfl (lv_at hl 0 rfl) ?_
  refine lv_ldc (v := (-2147483648)) hx hb S.2.2.2.1 (S.2.2.2.2 _ (List.mem_cons_of_mem _ kc_X11_57)) dX11_nothing_7 ?_
  refine pX11_21 (v := (-2147483648)) S hK hT hS ha kf_X11_62 dX11_nothing_9 (fun H locs hT hS => ?_)
  obtain ⟨G9, hG9⟩ : ∃ GG : XG, GG = dput G3 a 21 (-2147483648) := ⟨_, rfl⟩
  rw [← hG9] at hT
  refine lv_aload_n hx hb dX11_nothing_12 rfl (lv_at hl 0 rfl) ?_
  refine lv_iconst (v := 0) hx hb dX11_nothing_13 (by decide) ?_
  refine pX11_23 (v := 0) S hK hT hS ha kf_X11_224 dX11_nothing_14 (fun H locs hT hS => ?_)
  obtain ⟨G14, hG14⟩ : ∃ GG : XG, GG = dput G9 a 23 0 := ⟨_, rfl⟩
  rw [← hG14] at hT
  exact x_rv hx hb hr hlk hQ (Nat.le_of_ble_eq_true rfl) (Nat.le_of_ble_eq_true rfl) hS dX11_nothing_17 G14 ⟨(by rw [hG14]; exact XFr.dput (by rw [hG9]; exact XFr.dput (by rw [hG3]; exact XFr.dput XFr.rf (List.mem_of_getElem? (i := 0) rfl)) (List.mem_of_getElem? (i := 1) rfl)) (List.mem_of_getElem? (i := 2) rfl)), (by rw [(show (G14.1 a 20).toInt = (-2147483648 : Int) from (congrArg Int32.toInt ((ld_j hG14 (by decide)).trans ((ld_j hG9 (by decide)).trans (ld_at hG3)))).trans ((by decide) : Int32.toInt (-2147483648) = (-2147483648 : Int))), (show (G14.1 a 21).toInt = (-2147483648 : Int) from (congrArg Int32.toInt ((ld_j hG14 (by decide)).trans (ld_at hG9))).trans ((by decide) : Int32.toInt (-2147483648) = (-2147483648 : Int))), (show (G14.1 a 23).toInt = (0 : Int) from (congrArg Int32.toInt (ld_at hG14)).trans ((by decide) : Int32.toInt 0 = (0 : Int)))] <;> exact (by decide))⟩ hT
abbrev rm_X9_clear : Room := { frames := 6, cells := 1, slots := 100, locals := 146 }
set_option maxHeartbeats 4000000 in
set_option maxRecDepth 100000 in
theorem c_X9_clear (l : Launch) (E : XE) (K : Nat → Nat) (F : Nat → Nat → Nat) (G : XG) (a : Nat) (ha : K a = 11) : Met l yX9_clear (xw yX9_clear cX9_clear 1 none) rm_X9_clear (va_Pc [.ref a] (XP E K F G)) (XQv E (fun (u : XG) => XFr [(a, 1)] [] [] G u ∧ ((u.1 a 1).toInt = 0)) (fun u H => TW E K F u H)) 1 100 (xA E) := by
  refine x_enter (by decide) (Nat.le_of_ble_eq_true rfl) ?_
  intro p e s m args below meth c Q S hr hlk hnm hQ hP ls hl
  obtain ⟨hz, hK, hT⟩ := hP
  obtain ⟨hx, hb, -, -, -⟩ := id S
  obtain ⟨H, hT, hS, hgo⟩ : ∃ H : Heap, TW E K F G H ∧ va_S (xA E) s.heap H [] ∧ H = s.heap := ⟨_, hT, va_S.rf, rfl⟩
  rw [← hgo]
  have hl : lv_has ls 1 [(0, .ref a)] := hl
  refine lv_aload_n hx hb dX9_clear_0 rfl (lv_at hl 0 rfl) ?_
  refine lv_iconst (v := 0) hx hb dX9_clear_1 (by decide) ?_
  refine pX9_1 (v := 0) S hK hT hS ha kf_X9_18 (Or.inl rfl) dX9_clear_2 (fun H locs hT hS => ?_)
  obtain ⟨G1, hG1⟩ : ∃ G9 : XG, G9 = dput G a 1 0 := ⟨_, rfl⟩
  rw [← hG1] at hT
  refine lv_aload_n hx hb dX9_clear_5 rfl (lv_at hl 0 rfl) ?_
  refine gX9_0 S hK hT ha kf_X9_12 dX9_clear_6 ?_
  refine lv_iconst (v := 0) hx hb dX9_clear_9 (by decide) ?_
  obtain ⟨q1, n2, k3, hT⟩ := hT.op
  have hT : TWb E K F G1 q1 n2 k3 H := hT
  have v4 : 0 ≤ k3.toInt ∧ k3.toInt ≤ (((n2) : Nat) : Int) ∧ (((n2) : Nat) : Int) ≤ 100 := hT.inv
  refine x_cv (x_runV (b := E.2.2.2.1) (As := [.int 0]) (rest := []) S (c_J4_setLength_d00df l E K F G1 q1 n2 k3 ) mv_J4_setLength_d00df km_X9_22 rfl rfl ⟨Nat.le_of_ble_eq_true rfl, Nat.le_of_ble_eq_true rfl⟩ (rc_sb hK hT) hK (fun _ => XPb.blind) (fun U hU hW => XPb.at hK hz hS hT hU hW) rfl hl.1 (Nat.le_of_ble_eq_true rfl) dX9_clear_10 ⟨Nat.le_of_ble_eq_true rfl, Nat.le_of_ble_eq_true rfl⟩) hS ?_
  rintro ⟨q5, n6, k7⟩ H locs t8 hT hS
  have t8 : k7.toInt = 0 := t8
  have hT : TWb E K F G1 q5 n6 k7 H := hT
  have v10 : 0 ≤ k7.toInt ∧ k7.toInt ≤ (((n6) : Nat) : Int) ∧ (((n6) : Nat) : Int) ≤ 100 := hT.inv
  exact x_rv hx hb hr hlk hQ (Nat.le_of_ble_eq_true rfl) (Nat.le_of_ble_eq_true rfl) hS dX9_clear_13 G1 ⟨(by rw [hG1]; exact XFr.dput XFr.rf (List.mem_of_getElem? (i := 0) rfl)), (by rw [ld_at hG1]; decide)⟩ hT.cl

theorem z_X9_tell_1 (a0 : Int) (a1 : Nat) (h0 : ((a1 : Nat) : Int) = 5) (h1 : a0 = 0) : a0 + ((a1 : Nat) : Int) ≤ 48 := by omega
theorem z_X9_tell_2 (a0 : Int) (a1 : Int) (a2 : Nat) (h0 : ((a2 : Nat) : Int) = 5) (h1 : a1 = 0) (h2 : a0 = a1 + ((a2 : Nat) : Int)) : a0 ≤ 37 := by omega
theorem z_X9_tell_3 (a0 : Int) (a1 : Int) (a2 : Int) (a3 : Nat) (h0 : ((a3 : Nat) : Int) = 5) (h1 : a2 = 0) (h2 : a0 = a2 + ((a3 : Nat) : Int)) (h3 : a0 ≤ a1 ∧ a1 ≤ a0 + 11) : a1 ≤ 47 := by omega
theorem z_X9_tell_4 (a0 : Int) (a1 : Int) (a2 : Int) (a3 : Int) (a4 : Nat) (a5 : Nat) (h0 : ((a5 : Nat) : Int) ≤ 6) (h1 : ((a4 : Nat) : Int) = 5) (h2 : a3 = 0) (h3 : a0 = a3 + ((a4 : Nat) : Int)) (h4 : a0 ≤ a1 ∧ a1 ≤ a0 + 11) (h5 : a2 = a1 + 1) : a2 + ((a5 : Nat) : Int) ≤ 48 := by omega
theorem z_X9_tell_5 (a0 : Int) (a1 : Int) (a2 : Int) (a3 : Int) (a4 : Int) (a5 : Nat) (a6 : Nat) (h0 : ((a6 : Nat) : Int) ≤ 6) (h1 : ((a5 : Nat) : Int) = 5) (h2 : a4 = 0) (h3 : a0 = a4 + ((a5 : Nat) : Int)) (h4 : a0 ≤ a1 ∧ a1 ≤ a0 + 11) (h5 : a2 = a1 + 1) (h6 : a3 = a2 + ((a6 : Nat) : Int)) : a3 ≤ 47 := by omega
theorem z_X9_tell_6 (a0 : Int) (a1 : Int) (a2 : Int) (a3 : Int) (a4 : Int) (a5 : Int) (a6 : Nat) (a7 : Nat) (h0 : ((a7 : Nat) : Int) ≤ 6) (h1 : ((a6 : Nat) : Int) = 5) (h2 : a5 = 0) (h3 : a0 = a5 + ((a6 : Nat) : Int)) (h4 : a0 ≤ a1 ∧ a1 ≤ a0 + 11) (h5 : a2 = a1 + 1) (h6 : a3 = a2 + ((a7 : Nat) : Int)) (h7 : a4 = a3 + 1) : a4 ≤ 37 := by omega
abbrev rm_X9_tell : Room := { frames := 6, cells := 7, slots := 700, locals := 148 }
set_option maxHeartbeats 4000000 in
set_option maxRecDepth 100000 in
theorem c_X9_tell (l : Launch) (E : XE) (K : Nat → Nat) (F : Nat → Nat → Nat) (G : XG) (a : Nat) (p0 : Int32) (i : Nat) (p2 : Int32) (ha : K a = 11) (hi : i < 13) (e7 : ((xlen.getD i 0 : Nat) : Int) ≤ 6) : Met l yX9_tell (xw yX9_tell cX9_tell 4 none) rm_X9_tell (va_Pc [.ref a, .int p0, .ref (E.2.2.2.2.1 i), .int p2] (XP E K F G)) (XQv E (fun (u : XG) => XFr [(a, 1), (a, 2), (a, 3)] [] [] G u ∧ ((u.1 a 1).toInt = 1 ∧ (u.1 a 2).toInt = p0.toInt ∧ (u.1 a 3).toInt = p2.toInt)) (fun u H => TW E K F u H)) 7 700 (xA E) := by
  refine x_enter (by decide) (Nat.le_of_ble_eq_true rfl) ?_
  intro p e s m args below meth c Q S hr hlk hnm hQ hP ls hl
  obtain ⟨hz, hK, hT⟩ := hP
  obtain ⟨hx, hb, -, -, -⟩ := id S
  obtain ⟨H, hT, hS, hgo⟩ : ∃ H : Heap, TW E K F G H ∧ va_S (xA E) s.heap H [] ∧ H = s.heap := ⟨_, hT, va_S.rf, rfl⟩
  rw [← hgo]
  have hl : lv_has ls 4 [(0, .ref a), (1, .int p0), (2, .ref (E.2.2.2.2.1 i)), (3, .int p2)] := hl
  refine lv_aload_n hx hb dX9_tell_0 rfl (lv_at hl 0 rfl) ?_
  refine lv_iload_n hx hb dX9_tell_1 rfl (lv_at hl 1 rfl) ?_
  refine pX9_2 (v := p0) S hK hT hS ha kf_X9_26 dX9_tell_2 (fun H locs hT hS => ?_)
  obtain ⟨G1, hG1⟩ : ∃ G9 : XG, G9 = dput G a 2 p0 := ⟨_, rfl⟩
  rw [← hG1] at hT
  refine lv_aload_n hx hb dX9_tell_5 rfl (lv_at hl 0 rfl) ?_
  refine lv_iload_n hx hb dX9_tell_6 rfl (lv_at hl 3 rfl) ?_
  refine pX9_3 (v := p2) S hK hT hS ha kf_X9_30 dX9_tell_7 (fun H locs hT hS => ?_)
  obtain ⟨G2, hG2⟩ : ∃ G9 : XG, G9 = dput G1 a 3 p2 := ⟨_, rfl⟩
  rw [← hG2] at hT
  refine lv_aload_n hx hb dX9_tell_10 rfl (lv_at hl 0 rfl) ?_
  refine lv_iconst (v := 1) hx hb dX9_tell_11 (by decide) ?_
  refine pX9_1 (v := 1) S hK hT hS ha kf_X9_18 (Or.inr rfl) dX9_tell_12 (fun H locs hT hS => ?_)
  obtain ⟨G3, hG3⟩ : ∃ G9 : XG, G9 = dput G2 a 1 1 := ⟨_, rfl⟩
  rw [← hG3] at hT
  refine lv_aload_n hx hb dX9_tell_15 rfl (lv_at hl 0 rfl) ?_
  refine gX9_0 S hK hT ha kf_X9_12 dX9_tell_16 ?_
  refine lv_iconst (v := 0) hx hb dX9_tell_19 (by decide) ?_
  obtain ⟨q1, n2, k3, hT⟩ := hT.op
  have hT : TWb E K F G3 q1 n2 k3 H := hT
  have v4 : 0 ≤ k3.toInt ∧ k3.toInt ≤ (((n2) : Nat) : Int) ∧ (((n2) : Nat) : Int) ≤ 100 := hT.inv
  refine x_cv (x_runV (b := E.2.2.2.1) (As := [.int 0]) (rest := []) S (c_J4_setLength_d00df l E K F G3 q1 n2 k3 ) mv_J4_setLength_d00df km_X9_22 rfl rfl ⟨Nat.le_of_ble_eq_true rfl, Nat.le_of_ble_eq_true rfl⟩ (rc_sb hK hT) hK (fun _ => XPb.blind) (fun U hU hW => XPb.at hK hz hS hT hU hW) rfl hl.1 (Nat.le_of_ble_eq_true rfl) dX9_tell_20 ⟨Nat.le_of_ble_eq_true rfl, Nat.le_of_ble_eq_true rfl⟩) hS ?_
  rintro ⟨q5, n6, k7⟩ H locs t8 hT hS
  have t8 : k7.toInt = 0 := t8
  have hT : TWb E K F G3 q5 n6 k7 H := hT
  have v10 : 0 ≤ k7.toInt ∧ k7.toInt ≤ (((n6) : Nat) : Int) ∧ (((n6) : Nat) : Int) ≤ 100 := hT.inv
  refine lv_aload_n hx hb dX9_tell_23 rfl (lv_at hl 0 rfl) ?_
  refine gX9_0 S hK hT.cl ha kf_X9_12 dX9_tell_24 ?_
  refine va_ldcS hx hb S.2.2.2.1 (hK.2.2.1 10 ("LateRules$Verdict", 33, "rule ") rfl) dX9_tell_27 ?_
  refine x_cl (x_runV (b := E.2.2.2.1) (As := [.ref (E.2.2.2.2.1 10)]) (rest := []) S (c_J4_append_15ec4 l E K F G3 q5 n6 k7 10 (show 10 < 13 by decide) (z_X9_tell_1 k7.toInt (xlen.getD 10 0) (show ((xlen.getD 10 0 : Nat) : Int) = 5 from by decide) t8)) mv_J4_append_15ec4 km_X9_35 rfl rfl ⟨Nat.le_of_ble_eq_true rfl, Nat.le_of_ble_eq_true rfl⟩ (rc_sb hK hT) hK (fun _ => XPb.blind) (fun U hU hW => XPb.at hK hz hS hT hU hW) rfl hl.1 (Nat.le_of_ble_eq_true rfl) dX9_tell_29 ⟨Nat.le_of_ble_eq_true rfl, Nat.le_of_ble_eq_true rfl⟩) hS ?_
  rintro _ ⟨q11, n12, k13⟩ H locs ⟨rfl, t14⟩ hT hS
  have t14 : k13.toInt = k7.toInt + (((xlen.getD 10 0) : Nat) : Int) := t14
  have hT : TWb E K F G3 q11 n12 k13 H := hT
  have v16 : 0 ≤ k13.toInt ∧ k13.toInt ≤ (((n12) : Nat) : Int) ∧ (((n12) : Nat) : Int) ≤ 100 := hT.inv
  refine lv_pop hx hb dX9_tell_32 rfl ?_
  refine lv_aload_n hx hb dX9_tell_33 rfl (lv_at hl 0 rfl) ?_
  refine gX9_0 S hK hT.cl ha kf_X9_12 dX9_tell_34 ?_
  refine lv_iload_n hx hb dX9_tell_37 rfl (lv_at hl 1 rfl) ?_
  refine x_cl (x_runV (b := E.2.2.2.1) (As := [.int p0]) (rest := []) S (c_J4_append_bf812 l E K F G3 q11 n12 k13 p0 (z_X9_tell_2 k13.toInt k7.toInt (xlen.getD 10 0) (show ((xlen.getD 10 0 : Nat) : Int) = 5 from by decide) t8 t14)) mv_J4_append_bf812 km_X9_39 rfl rfl ⟨Nat.le_of_ble_eq_true rfl, Nat.le_of_ble_eq_true rfl⟩ (rc_sb hK hT) hK (fun _ => XPb.blind) (fun U hU hW => XPb.at hK hz hS hT hU hW) rfl hl.1 (Nat.le_of_ble_eq_true rfl) dX9_tell_38 ⟨Nat.le_of_ble_eq_true rfl, Nat.le_of_ble_eq_true rfl⟩) hS ?_
  rintro _ ⟨q17, n18, k19⟩ H locs ⟨rfl, t20⟩ hT hS
  have t20 : k13.toInt ≤ k19.toInt ∧ k19.toInt ≤ k13.toInt + 11 := t20
  have hT : TWb E K F G3 q17 n18 k19 H := hT
  have v22 : 0 ≤ k19.toInt ∧ k19.toInt ≤ (((n18) : Nat) : Int) ∧ (((n18) : Nat) : Int) ≤ 100 := hT.inv
  refine lv_pop hx hb dX9_tell_41 rfl ?_
  refine lv_aload_n hx hb dX9_tell_42 rfl (lv_at hl 0 rfl) ?_
  refine gX9_0 S hK hT.cl ha kf_X9_12 dX9_tell_43 ?_
  refine lv_bipush (v := 32) hx hb dX9_tell_46 (by decide) ?_
  refine x_cl (x_runV (b := E.2.2.2.1) (As := [.int 32]) (rest := []) S (c_J4_append_cf468 l E K F G3 q17 n18 k19 32 (z_X9_tell_3 k13.toInt k19.toInt k7.toInt (xlen.getD 10 0) (show ((xlen.getD 10 0 : Nat) : Int) = 5 from by decide) t8 t14 t20) (by decide)) mv_J4_append_cf468 km_X9_42 rfl rfl ⟨Nat.le_of_ble_eq_true rfl, Nat.le_of_ble_eq_true rfl⟩ (rc_sb hK hT) hK (fun _ => XPb.blind) (fun U hU hW => XPb.at hK hz hS hT hU hW) rfl hl.1 (Nat.le_of_ble_eq_true rfl) dX9_tell_48 ⟨Nat.le_of_ble_eq_true rfl, Nat.le_of_ble_eq_true rfl⟩) hS ?_
  rintro _ ⟨q23, n24, k25⟩ H locs ⟨rfl, t26⟩ hT hS
  have t26 : k25.toInt = k19.toInt + 1 := t26
  have hT : TWb E K F G3 q23 n24 k25 H := hT
  have v28 : 0 ≤ k25.toInt ∧ k25.toInt ≤ (((n24) : Nat) : Int) ∧ (((n24) : Nat) : Int) ≤ 100 := hT.inv
  refine lv_pop hx hb dX9_tell_51 rfl ?_
  refine lv_aload_n hx hb dX9_tell_52 rfl (lv_at hl 0 rfl) ?_
  refine gX9_0 S hK hT.cl ha kf_X9_12 dX9_tell_53 ?_
  refine lv_aload_n hx hb dX9_tell_56 rfl (lv_at hl 2 rfl) ?_
  refine x_cl (x_runV (b := E.2.2.2.1) (As := [.ref (E.2.2.2.2.1 i)]) (rest := []) S (c_J4_append_15ec4 l E K F G3 q23 n24 k25 i hi (z_X9_tell_4 k13.toInt k19.toInt k25.toInt k7.toInt (xlen.getD 10 0) (xlen.getD i 0) e7 (show ((xlen.getD 10 0 : Nat) : Int) = 5 from by decide) t8 t14 t20 t26)) mv_J4_append_15ec4 km_X9_35 rfl rfl ⟨Nat.le_of_ble_eq_true rfl, Nat.le_of_ble_eq_true rfl⟩ (rc_sb hK hT) hK (fun _ => XPb.blind) (fun U hU hW => XPb.at hK hz hS hT hU hW) rfl hl.1 (Nat.le_of_ble_eq_true rfl) dX9_tell_57 ⟨Nat.le_of_ble_eq_true rfl, Nat.le_of_ble_eq_true rfl⟩) hS ?_
  rintro _ ⟨q29, n30, k31⟩ H locs ⟨rfl, t32⟩ hT hS
  have t32 : k31.toInt = k25.toInt + (((xlen.getD i 0) : Nat) : Int) := t32
  have hT : TWb E K F G3 q29 n30 k31 H := hT
  have v34 : 0 ≤ k31.toInt ∧ k31.toInt ≤ (((n30) : Nat) : Int) ∧ (((n30) : Nat) : Int) ≤ 100 := hT.inv
  refine lv_pop hx hb dX9_tell_60 rfl ?_
  refine lv_aload_n hx hb dX9_tell_61 rfl (lv_at hl 0 rfl) ?_
  refine gX9_0 S hK hT.cl ha kf_X9_12 dX9_tell_62 ?_
  refine lv_bipush (v := 32) hx hb dX9_tell_65 (by decide) ?_
  refine x_cl (x_runV (b := E.2.2.2.1) (As := [.int 32]) (rest := []) S (c_J4_append_cf468 l E K F G3 q29 n30 k31 32 (z_X9_tell_5 k13.toInt k19.toInt k25.toInt k31.toInt k7.toInt (xlen.getD 10 0) (xlen.getD i 0) e7 (show ((xlen.getD 10 0 : Nat) : Int) = 5 from by decide) t8 t14 t20 t26 t32) (by decide)) mv_J4_append_cf468 km_X9_42 rfl rfl ⟨Nat.le_of_ble_eq_true rfl, Nat.le_of_ble_eq_true rfl⟩ (rc_sb hK hT) hK (fun _ => XPb.blind) (fun U hU hW => XPb.at hK hz hS hT hU hW) rfl hl.1 (Nat.le_of_ble_eq_true rfl) dX9_tell_67 ⟨Nat.le_of_ble_eq_true rfl, Nat.le_of_ble_eq_true rfl⟩) hS ?_
  rintro _ ⟨q35, n36, k37⟩ H locs ⟨rfl, t38⟩ hT hS
  have t38 : k37.toInt = k31.toInt + 1 := t38
  have hT : TWb E K F G3 q35 n36 k37 H := hT
  have v40 : 0 ≤ k37.toInt ∧ k37.toInt ≤ (((n36) : Nat) : Int) ∧ (((n36) : Nat) : Int) ≤ 100 := hT.inv
  refine lv_pop hx hb dX9_tell_70 rfl ?_
  refine lv_aload_n hx hb dX9_tell_71 rfl (lv_at hl 0 rfl) ?_
  refine gX9_0 S hK hT.cl ha kf_X9_12 dX9_tell_72 ?_
  refine lv_iload_n hx hb dX9_tell_75 rfl (lv_at hl 3 rfl) ?_
  refine x_cl (x_runV (b := E.2.2.2.1) (As := [.int p2]) (rest := []) S (c_J4_append_bf812 l E K F G3 q35 n36 k37 p2 (z_X9_tell_6 k13.toInt k19.toInt k25.toInt k31.toInt k37.toInt k7.toInt (xlen.getD 10 0) (xlen.getD i 0) e7 (show ((xlen.getD 10 0 : Nat) : Int) = 5 from by decide) t8 t14 t20 t26 t32 t38)) mv_J4_append_bf812 km_X9_39 rfl rfl ⟨Nat.le_of_ble_eq_true rfl, Nat.le_of_ble_eq_true rfl⟩ (rc_sb hK hT) hK (fun _ => XPb.blind) (fun U hU hW => XPb.at hK hz hS hT hU hW) rfl hl.1 (Nat.le_of_ble_eq_true rfl) dX9_tell_76 ⟨Nat.le_of_ble_eq_true rfl, Nat.le_of_ble_eq_true rfl⟩) hS ?_
  rintro _ ⟨q41, n42, k43⟩ H locs ⟨rfl, t44⟩ hT hS
  have t44 : k37.toInt ≤ k43.toInt ∧ k43.toInt ≤ k37.toInt + 11 := t44
  have hT : TWb E K F G3 q41 n42 k43 H := hT
  have v46 : 0 ≤ k43.toInt ∧ k43.toInt ≤ (((n42) : Nat) : Int) ∧ (((n42) : Nat) : Int) ≤ 100 := hT.inv
  refine lv_pop hx hb dX9_tell_79 rfl ?_
  exact x_rv hx hb hr hlk hQ (Nat.le_of_ble_eq_true rfl) (Nat.le_of_ble_eq_true rfl) hS dX9_tell_80 G3 ⟨(by rw [hG3]; exact XFr.dput (by rw [hG2]; exact XFr.dput (by rw [hG1]; exact XFr.dput XFr.rf (List.mem_of_getElem? (i := 1) rfl)) (List.mem_of_getElem? (i := 2) rfl)) (List.mem_of_getElem? (i := 0) rfl)), (by rw [ld_at hG3]; decide), (by rw [ld_j hG3 (by decide), ld_j hG2 (by decide), ld_at hG1]), (by rw [ld_j hG3 (by decide), ld_at hG2])⟩ hT.cl

abbrev rm_X9_signs : Room := { frames := 2, cells := 0, slots := 0, locals := 40 }
set_option maxHeartbeats 4000000 in
set_option maxRecDepth 100000 in
theorem c_X9_signs (l : Launch) (E : XE) (K : Nat → Nat) (F : Nat → Nat → Nat) (G : XG) (h0 : Heap) (a : Nat) (ha : K a = 11) : Met l yX9_signs (xw yX9_signs cX9_signs 1 (some .int)) rm_X9_signs (va_Pc [.ref a] (XPh E K F G h0)) (XQ E (fun v (u : Unit) => ∃ r : Int32, v = .int r) (fun _ H => H = h0)) 0 0 (xA E) := by
  refine x_enter (by decide) (Nat.le_of_ble_eq_true rfl) ?_
  intro p e s m args below meth c Q S hr hlk hnm hQ hP ls hl
  obtain ⟨⟨hz, hK, hT⟩, hh⟩ := hP
  obtain ⟨hx, hb, -, -, -⟩ := id S
  have hS : va_S (xA E) s.heap s.heap [] := va_S.rf
  have hl : lv_has ls 1 [(0, .ref a)] := hl
  refine lv_aload_n hx hb dX9_signs_0 rfl (lv_at hl 0 rfl) ?_
  refine gX9_0 S hK hT ha kf_X9_12 dX9_signs_1 ?_
  obtain ⟨q1, n2, k3, hT⟩ := hT.op
  have hT : TWb E K F G q1 n2 k3 s.heap := hT
  have v4 : 0 ≤ k3.toInt ∧ k3.toInt ≤ (((n2) : Nat) : Int) ∧ (((n2) : Nat) : Int) ≤ 100 := hT.inv
  refine x_clp (x_runV (b := E.2.2.2.1) (As := []) (rest := []) S (c_J4_length_8abf5 l E K F G q1 n2 k3 s.heap ) mv_J4_length_8abf5 km_X9_45 rfl rfl ⟨Nat.le_of_ble_eq_true rfl, Nat.le_of_ble_eq_true rfl⟩ (rc_sb hK hT) hK (fun _ => XPbh.blind) (fun U hU hW => XPbh.at hK hz hS hT hU hW) rfl hl.1 (Nat.le_of_ble_eq_true rfl) dX9_signs_4 ⟨Nat.le_of_ble_eq_true rfl, Nat.le_of_ble_eq_true rfl⟩) hS ?_
  rintro _ _ locs ⟨x5, rfl, t6⟩ hS
  have t6 : x5.toInt = k3.toInt := t6
  exact x_ri hx hb hr hlk hQ (Nat.le_of_ble_eq_true rfl) (Nat.le_of_ble_eq_true rfl) hS dX9_signs_7 () ⟨_, rfl⟩ hh

theorem z_X9_signAt_1 (a0 : Int) (a1 : Int) (a2 : Int) (h0 : ¬ (a1 < 0)) (h1 : a2 = a0) (h2 : ¬ (a2 ≤ a1)) : 0 ≤ a1 ∧ a1 < a0 := by omega
abbrev rm_X9_signAt : Room := { frames := 4, cells := 0, slots := 0, locals := 88 }
set_option maxHeartbeats 4000000 in
set_option maxRecDepth 100000 in
theorem c_X9_signAt (l : Launch) (E : XE) (K : Nat → Nat) (F : Nat → Nat → Nat) (G : XG) (h0 : Heap) (a : Nat) (p0 : Int32) (ha : K a = 11) : Met l yX9_signAt (xw yX9_signAt cX9_signAt 2 (some .int)) rm_X9_signAt (va_Pc [.ref a, .int p0] (XPh E K F G h0)) (XQ E (fun v (u : Unit) => ∃ r : Int32, v = .int r) (fun _ H => H = h0)) 0 0 (xA E) := by
  refine x_enter (by decide) (Nat.le_of_ble_eq_true rfl) ?_
  intro p e s m args below meth c Q S hr hlk hnm hQ hP ls hl
  obtain ⟨⟨hz, hK, hT⟩, hh⟩ := hP
  obtain ⟨hx, hb, -, -, -⟩ := id S
  have hS : va_S (xA E) s.heap s.heap [] := va_S.rf
  have hl : lv_has ls 2 [(0, .ref a), (1, .int p0)] := hl
  refine lv_iload_n hx hb dX9_signAt_0 rfl (lv_at hl 1 rfl) ?_
  refine xi_zlt (tgt := 26) hx hb (rfl : Int32.toInt p0 = p0.toInt) dX9_signAt_1 (by decide) (fun c1 => ?_) (fun c1 => ?_)
  · refine lv_iconst (v := (-1)) hx hb dX9_signAt_26 (by decide) ?_
    exact x_ri hx hb hr hlk hQ (Nat.le_of_ble_eq_true rfl) (Nat.le_of_ble_eq_true rfl) hS dX9_signAt_27 () ⟨_, rfl⟩ hh
  · refine lv_iload_n hx hb dX9_signAt_4 rfl (lv_at hl 1 rfl) ?_
    refine lv_aload_n hx hb dX9_signAt_5 rfl (lv_at hl 0 rfl) ?_
    refine gX9_0 S hK hT ha kf_X9_12 dX9_signAt_6 ?_
    obtain ⟨q2, n3, k4, hT⟩ := hT.op
    have hT : TWb E K F G q2 n3 k4 s.heap := hT
    have v5 : 0 ≤ k4.toInt ∧ k4.toInt ≤ (((n3) : Nat) : Int) ∧ (((n3) : Nat) : Int) ≤ 100 := hT.inv
    refine x_clp (x_runV (b := E.2.2.2.1) (As := []) (rest := [.int p0]) S (c_J4_length_8abf5 l E K F G q2 n3 k4 s.heap ) mv_J4_length_8abf5 km_X9_45 rfl rfl ⟨Nat.le_of_ble_eq_true rfl, Nat.le_of_ble_eq_true rfl⟩ (rc_sb hK hT) hK (fun _ => XPbh.blind) (fun U hU hW => XPbh.at hK hz hS hT hU hW) rfl hl.1 (Nat.le_of_ble_eq_true rfl) dX9_signAt_9 ⟨Nat.le_of_ble_eq_true rfl, Nat.le_of_ble_eq_true rfl⟩) hS ?_
    rintro _ _ locs ⟨x6, rfl, t7⟩ hS
    have t7 : x6.toInt = k4.toInt := t7
    refine xi_cge (tgt := 26) hx hb (rfl : Int32.toInt p0 = p0.toInt) (rfl : Int32.toInt x6 = x6.toInt) dX9_signAt_12 (by decide) (fun c8 => ?_) (fun c8 => ?_)
    · refine lv_iconst (v := (-1)) hx hb dX9_signAt_26 (by decide) ?_
      exact x_ri hx hb hr hlk hQ (Nat.le_of_ble_eq_true rfl) (Nat.le_of_ble_eq_true rfl) hS dX9_signAt_27 () ⟨_, rfl⟩ hh
    · refine lv_aload_n hx hb dX9_signAt_15 rfl (lv_at hl 0 rfl) ?_
      refine gX9_0 S hK hT.cl ha kf_X9_12 dX9_signAt_16 ?_
      refine lv_iload_n hx hb dX9_signAt_19 rfl (lv_at hl 1 rfl) ?_
      refine x_clp (x_runV (b := E.2.2.2.1) (As := [.int p0]) (rest := []) S (c_J4_charAt_5068e l E K F G q2 n3 k4 s.heap p0 (z_X9_signAt_1 k4.toInt p0.toInt x6.toInt c1 t7 c8)) mv_J4_charAt_5068e km_X9_49 rfl rfl ⟨Nat.le_of_ble_eq_true rfl, Nat.le_of_ble_eq_true rfl⟩ (rc_sb hK hT) hK (fun _ => XPbh.blind) (fun U hU hW => XPbh.at hK hz hS hT hU hW) rfl hl.1 (Nat.le_of_ble_eq_true rfl) dX9_signAt_20 ⟨Nat.le_of_ble_eq_true rfl, Nat.le_of_ble_eq_true rfl⟩) hS ?_
      rintro _ _ locs ⟨x9, rfl, o10⟩ hS
      refine lv_goto (tgt := 27) hx hb dX9_signAt_23 (by decide) ?_
      exact x_ri hx hb hr hlk hQ (Nat.le_of_ble_eq_true rfl) (Nat.le_of_ble_eq_true rfl) hS dX9_signAt_27 () ⟨_, rfl⟩ hh
section
section XLD
variable {p : Program} {l : Launch} {e : Env} {R : Room} {s : State} {m : MethodId} {args : Array Value} {below : List Frame} {meth : Method} {c : Code} {H : Heap} {locs : List Loc} {cells slots : Nat} {Q : State → Prop}
variable {pc : Nat} {ls : Array Slot} {rest : List Value} {H0 : Heap} {E : XE} {cc : ByteArray} {nL : Nat} {own : String} {w0 : Cond} {K : Nat → Nat} {F : Nat → Nat → Nat} {G : XG} {a idx : Nat} {X Y : Int}
theorem x_ldcSw (hx : p.tables.exec = Jvm.exec) (hb : c.code = cc) {tx : String} {q : Nat} (hown : s.vm.findClass own = some m.cls) (hZ : vk_R own idx tx q s) (hdg : decode cc pc = .ok (.ldc_w idx, 3)) (k : W p l e R s m args below meth c H locs cells slots Q (F0 m (pc + 3) ls (.ref q :: rest))) : W p l e R s m args below meth c H locs cells slots Q (F0 m pc ls rest) := by
  intro T hT X
  obtain ⟨t, a1, b1⟩ := k T hT X
  exact ⟨t, X.ldcStringW hx hown (text := tx) (a := q) hZ.1 hZ.2 (g := F0 m pc ls rest) rfl (by rw [hb]; exact hdg) t a1, b1⟩
end XLD
end
/-! ===== the late ones of a list, in order ===== -/
def qP (G : XG) (F : Nat → Nat → Nat) (a n : Nat) : List Qt := lst (qt (G.2.1 (F a 0)) (G.2.1 (F a 1)) (G.2.1 (F a 2)) (G.2.1 (F a 3)) (G.2.1 (F a 4)) (G.2.1 (F a 5))) n
theorem qP_s (G : XG) (F : Nat → Nat → Nat) (a n : Nat) : qP G F a (n + 1) = qP G F a n ++ [qt (G.2.1 (F a 0)) (G.2.1 (F a 1)) (G.2.1 (F a 2)) (G.2.1 (F a 3)) (G.2.1 (F a 4)) (G.2.1 (F a 5)) n] := lst_s _ _
theorem qP_L (G : XG) (F : Nat → Nat → Nat) (a : Nat) : qP G F a (G.1 a 6).toInt.toNat = qL G F a := rfl
theorem qP_take (G : XG) (F : Nat → Nat → Nat) (a : Nat) {n : Nat} (h : (n : Int) ≤ (G.1 a 6).toInt) : qP G F a n = (qL G F a).take n := by
  refine List.ext_getElem? (fun i => ?_)
  rw [List.getElem?_take]
  by_cases g : i < n
  · rw [if_pos g]
    exact (lst_get _ g).trans (lst_get _ (show i < (G.1 a 6).toInt.toNat by omega)).symm
  · rw [if_neg g]
    refine List.getElem?_eq_none ?_
    have e : (qP G F a n).length = n := lst_len _ _
    omega
def ltF (l : List Qt) : List Qt := l.filter (fun x => decide (x.2.2.2.2.1 ≠ 0))
theorem ltF_y {l : List Qt} {x : Qt} (h : x.2.2.2.2.1 ≠ 0) : ltF (l ++ [x]) = ltF l ++ [x] := by
  unfold ltF
  rw [List.filter_append, List.filter_cons_of_pos (by exact decide_eq_true h), List.filter_nil]
theorem ltF_n {l : List Qt} {x : Qt} (h : x.2.2.2.2.1 = 0) : ltF (l ++ [x]) = ltF l := by
  unfold ltF
  rw [List.filter_append, List.filter_cons_of_neg (by intro q; exact of_decide_eq_true q h), List.filter_nil, List.append_nil]
/-- what of w was asked, and whether all of it held -/
def AskR (w l : List Qt) (ok : Int) : Prop := (ok = 1 ∧ l = ltF w) ∨ (ok = 0 ∧ ∃ (n : Nat) (x : Qt), w[n]? = some x ∧ x.2.2.2.2.1 ≠ 0 ∧ x.2.2.2.2.2 ≠ 0 ∧ (∀ (j : Nat) (y : Qt), j < n → w[j]? = some y → y.2.2.2.2.1 ≠ 0 → y.2.2.2.2.2 = 0) ∧ l = ltF (w.take (n + 1)))
theorem AskR_n {G : XG} {F : Nat → Nat → Nat} {p : Nat} {l : List Qt} {n : Nat} (h0 : (n : Int) < (G.1 p 6).toInt) (h1 : aI (G.2.1 (F p 4)) (n : Int) ≠ 0) (h2 : aI (G.2.1 (F p 5)) (n : Int) ≠ 0) (h3 : ∀ j : Int, 0 ≤ j → j < (n : Int) → aI (G.2.1 (F p 4)) j ≠ 0 → aI (G.2.1 (F p 5)) j = 0) (h4 : l = ltF (qP G F p (n + 1))) : AskR (qL G F p) l 0 := by
  refine Or.inr ⟨rfl, n, _, lst_get _ (show n < (G.1 p 6).toInt.toNat by omega), h1, h2, fun j y hj hy a => ?_, ?_⟩
  · obtain ⟨_, rfl⟩ := qL_get hy
    exact h3 (j : Int) (by omega) (by omega) a
  · rw [h4, qP_take G F p (by omega)]
/-! ===== what is asked, till one fails; what that leaves ===== -/
def upF (sel : Qt → Bool) : List Qt → List Qt
  | [] => []
  | x :: l => if sel x = true then (if x.2.2.2.2.2 ≠ 0 then [x] else x :: upF sel l) else upF sel l
def ltS (x : Qt) : Bool := decide (x.2.2.2.2.1 ≠ 0)
def prS (x : Qt) : Bool := decide (x.2.2.2.2.1 = 0)
def ruS (v : Int) (x : Qt) : Bool := decide (x.1 = v)
def fqF : List Qt → Option Qt
  | [] => none
  | x :: l => if x.2.2.2.2.2 ≠ 0 then some x else fqF l
theorem upF_y {sel : Qt → Bool} {x : Qt} {l : List Qt} (h : sel x = true) (h2 : x.2.2.2.2.2 = 0) : upF sel (x :: l) = x :: upF sel l := by
  show (if sel x = true then (if x.2.2.2.2.2 ≠ 0 then [x] else x :: upF sel l) else upF sel l) = _
  rw [if_pos h, if_neg (fun q => q h2)]
theorem upF_f {sel : Qt → Bool} {x : Qt} {l : List Qt} (h : sel x = true) (h2 : x.2.2.2.2.2 ≠ 0) : upF sel (x :: l) = [x] := by
  show (if sel x = true then (if x.2.2.2.2.2 ≠ 0 then [x] else x :: upF sel l) else upF sel l) = _
  rw [if_pos h, if_pos h2]
theorem upF_n {sel : Qt → Bool} {x : Qt} {l : List Qt} (h : ¬ (sel x = true)) : upF sel (x :: l) = upF sel l := by
  show (if sel x = true then (if x.2.2.2.2.2 ≠ 0 then [x] else x :: upF sel l) else upF sel l) = _
  rw [if_neg h]
theorem upF_all {sel : Qt → Bool} : ∀ l : List Qt, (∀ x, x ∈ l → sel x = true → x.2.2.2.2.2 = 0) → upF sel l = l.filter sel ∧ fqF (upF sel l) = none
  | [], _ => ⟨rfl, rfl⟩
  | x :: l, h => by
    obtain ⟨i1, i2⟩ := upF_all l (fun y hy => h y (List.mem_cons_of_mem _ hy))
    by_cases c : sel x = true
    · have z := h x List.mem_cons_self c
      rw [upF_y c z, List.filter_cons_of_pos c, i1]
      refine ⟨rfl, ?_⟩
      rw [← i1]
      unfold fqF
      rw [if_neg (fun q => q z)]
      exact i2
    · rw [upF_n c, List.filter_cons_of_neg c]
      exact ⟨i1, i2⟩
theorem upF_at {sel : Qt → Bool} {x : Qt} (hs : sel x = true) (hx : x.2.2.2.2.2 ≠ 0) : ∀ (l : List Qt) (n : Nat), l[n]? = some x → (∀ (j : Nat) (y : Qt), j < n → l[j]? = some y → sel y = true → y.2.2.2.2.2 = 0) → upF sel l = (l.take (n + 1)).filter sel ∧ fqF (upF sel l) = some x
  | [], n, h, _ => by cases h
  | y :: l, 0, h, _ => by
    cases h
    rw [upF_f hs hx, List.take_succ_cons, List.take_zero, List.filter_cons_of_pos hs]
    refine ⟨rfl, ?_⟩
    unfold fqF
    exact if_pos hx
  | y :: l, n + 1, h, h2 => by
    obtain ⟨i1, i2⟩ := upF_at hs hx l n h (fun j z hj hz => h2 (j + 1) z (by omega) hz)
    rw [List.take_succ_cons]
    by_cases c : sel y = true
    · have z := h2 0 y (by omega) rfl c
      rw [upF_y c z, List.filter_cons_of_pos c, i1]
      refine ⟨rfl, ?_⟩
      rw [← i1]
      unfold fqF
      rw [if_neg (fun q => q z)]
      exact i2
    · rw [upF_n c, List.filter_cons_of_neg c]
      exact ⟨i1, i2⟩
theorem fqF_n {l : List Qt} (h : fqF l = none) : ∀ x, x ∈ l → x.2.2.2.2.2 = 0 := by
  induction l with
  | nil => intro x hx; cases hx
  | cons y l ih =>
    unfold fqF at h
    by_cases c : y.2.2.2.2.2 ≠ 0
    · rw [if_pos c] at h; cases h
    · rw [if_neg c] at h
      intro x hx
      rcases List.mem_cons.mp hx with e | e
      · rw [e]; exact Classical.byContradiction c
      · exact ih h x e
theorem fqF_s {l : List Qt} {x : Qt} (h : fqF l = some x) : x ∈ l ∧ x.2.2.2.2.2 ≠ 0 := by
  induction l with
  | nil => cases h
  | cons y l ih =>
    unfold fqF at h
    by_cases c : y.2.2.2.2.2 ≠ 0
    · rw [if_pos c] at h; cases h; exact ⟨List.mem_cons_self, c⟩
    · rw [if_neg c] at h
      exact ⟨List.mem_cons_of_mem _ (ih h).1, (ih h).2⟩
/-! the same, of a list that lies in rows -/
theorem flt_y {sel : Qt → Bool} {l : List Qt} {x : Qt} (h : sel x = true) : (l ++ [x]).filter sel = l.filter sel ++ [x] := by
  rw [List.filter_append, List.filter_cons_of_pos h, List.filter_nil]
theorem flt_n {sel : Qt → Bool} {l : List Qt} {x : Qt} (h : ¬ (sel x = true)) : (l ++ [x]).filter sel = l.filter sel := by
  rw [List.filter_append, List.filter_cons_of_neg h, List.filter_nil, List.append_nil]
theorem fln_y {sel : Qt → Bool} {l : List Qt} {x : Qt} (h : sel x = true) : (((((l ++ [x]).filter sel).length : Nat)) : Int) = (((l.filter sel).length : Nat) : Int) + 1 := by
  rw [flt_y h, List.length_append, List.length_cons, List.length_nil]
  omega
theorem fln_n {sel : Qt → Bool} {l : List Qt} {x : Qt} (h : ¬ (sel x = true)) : (((((l ++ [x]).filter sel).length : Nat)) : Int) = (((l.filter sel).length : Nat) : Int) := by
  rw [flt_n h]
theorem upL_all {sel : Qt → Bool} {G : XG} {F : Nat → Nat → Nat} {p : Nat} {n : Int} (hn : (G.1 p 6).toInt ≤ n) (hm : n ≤ (G.1 p 6).toInt) (h : ∀ j : Int, 0 ≤ j → j < n → sel (qt (G.2.1 (F p 0)) (G.2.1 (F p 1)) (G.2.1 (F p 2)) (G.2.1 (F p 3)) (G.2.1 (F p 4)) (G.2.1 (F p 5)) j.toNat) = true → aI (G.2.1 (F p 5)) j = 0) : upF sel (qL G F p) = (qP G F p n.toNat).filter sel ∧ fqF (upF sel (qL G F p)) = none := by
  have e : qP G F p n.toNat = qL G F p := by
    rw [show n.toNat = (G.1 p 6).toInt.toNat by omega]
    rfl
  rw [e]
  refine upF_all _ (fun x hx hs => ?_)
  obtain ⟨j, hj⟩ := List.mem_iff_getElem?.mp hx
  obtain ⟨h1, rfl⟩ := qL_get hj
  have q := h (j : Int) (by omega) (by omega)
  rw [show ((j : Int)).toNat = j by omega] at q
  exact q hs
theorem upL_at {sel : Qt → Bool} {G : XG} {F : Nat → Nat → Nat} {p : Nat} {n : Int} (h0 : 0 ≤ n ∧ n < (G.1 p 6).toInt) (hs : sel (qt (G.2.1 (F p 0)) (G.2.1 (F p 1)) (G.2.1 (F p 2)) (G.2.1 (F p 3)) (G.2.1 (F p 4)) (G.2.1 (F p 5)) n.toNat) = true) (hx : aI (G.2.1 (F p 5)) n ≠ 0) (h : ∀ j : Int, 0 ≤ j → j < n → sel (qt (G.2.1 (F p 0)) (G.2.1 (F p 1)) (G.2.1 (F p 2)) (G.2.1 (F p 3)) (G.2.1 (F p 4)) (G.2.1 (F p 5)) j.toNat) = true → aI (G.2.1 (F p 5)) j = 0) : upF sel (qL G F p) = (qP G F p (n.toNat + 1)).filter sel ∧ fqF (upF sel (qL G F p)) = some (qt (G.2.1 (F p 0)) (G.2.1 (F p 1)) (G.2.1 (F p 2)) (G.2.1 (F p 3)) (G.2.1 (F p 4)) (G.2.1 (F p 5)) n.toNat) := by
  rw [qP_take G F p (show ((n.toNat + 1 : Nat) : Int) ≤ (G.1 p 6).toInt by omega)]
  refine upF_at hs hx _ _ (qL_at h0) (fun j y hj hy a => ?_)
  obtain ⟨_, rfl⟩ := qL_get hy
  have q := h (j : Int) (by omega) (by omega)
  rw [show ((j : Int)).toNat = j by omega] at q
  exact q a
/-! the verdict: told, number, subject -/
def VDo (o : Option Qt) (t n s t1 n1 s1 : Int) : Prop := match o with
  | none => t1 = t ∧ n1 = n ∧ s1 = s
  | some x => t1 = 1 ∧ n1 = x.1 ∧ s1 = x.2.1
def TV (G u : XG) (v : Nat) (o : Option Qt) : Prop := VDo o (G.1 v 1).toInt (G.1 v 2).toInt (G.1 v 3).toInt (u.1 v 1).toInt (u.1 v 2).toInt (u.1 v 3).toInt
theorem TV.rf {G u : XG} {v : Nat} (h1 : u.1 v 1 = G.1 v 1) (h2 : u.1 v 2 = G.1 v 2) (h3 : u.1 v 3 = G.1 v 3) : TV G u v none := ⟨congrArg Int32.toInt h1, congrArg Int32.toInt h2, congrArg Int32.toInt h3⟩
def orQ (o o2 : Option Qt) : Option Qt := match o with
  | none => o2
  | some x => some x
theorem TV.tr {G u w : XG} {v : Nat} {o : Option Qt} (h : TV G u v none) (h2 : TV u w v o) : TV G w v o := by
  obtain ⟨a, b, c⟩ := h
  cases o with
  | none =>
    obtain ⟨d, e, f⟩ := h2
    exact ⟨d.trans a, e.trans b, f.trans c⟩
  | some x =>
    obtain ⟨d, e, f⟩ := h2
    exact ⟨d, e, f⟩
theorem TV.cg {G u w : XG} {v : Nat} {o : Option Qt} (h : TV G u v o) (h1 : w.1 v 1 = u.1 v 1) (h2 : w.1 v 2 = u.1 v 2) (h3 : w.1 v 3 = u.1 v 3) : TV G w v o := by
  unfold TV at *
  rw [h1, h2, h3]
  exact h
/-- behind what clears the verdict -/
def TV0 (u : XG) (v : Nat) (o : Option Qt) : Prop := match o with
  | none => (u.1 v 1).toInt = 0
  | some x => (u.1 v 1).toInt = 1 ∧ (u.1 v 2).toInt = x.1 ∧ (u.1 v 3).toInt = x.2.1
theorem TV.t0 {G u : XG} {v : Nat} {o : Option Qt} (h : TV G u v o) (h0 : (G.1 v 1).toInt = 0) : TV0 u v o := by
  cases o with
  | none => exact h.1.trans h0
  | some x => exact h
theorem TV0.cg {u w : XG} {v : Nat} {o : Option Qt} (h : TV0 u v o) (h1 : w.1 v 1 = u.1 v 1) (h2 : w.1 v 2 = u.1 v 2) (h3 : w.1 v 3 = u.1 v 3) : TV0 w v o := by
  unfold TV0 at *
  rw [h1, h2, h3]
  exact h
/-- the number is that of a rule in the book -/
def inBk (G : XG) (f : Nat → Option Nat) (v : Int) : Prop := (0 ≤ v ∧ v < 12) ∧ ∃ q : Nat, f v.toNat = some q ∧ (G.1 q 1).toInt = v
theorem inBk.cg {G u : XG} {f : Nat → Option Nat} {v : Int} (h : inBk G f v) (h2 : ∀ i q : Nat, i < 12 → f i = some q → u.1 q = G.1 q) : inBk u f v := by
  obtain ⟨a, q, b, c⟩ := h
  exact ⟨a, q, b, by rw [h2 v.toNat q (by omega) b]; exact c⟩
theorem inBk.no {G : XG} {f : Nat → Option Nat} {v : Int} (h : inBk G f v) (h2 : (v < 0 ∨ 12 ≤ v) ∨ f v.toNat = none) : False := by
  obtain ⟨a, q, b, -⟩ := h
  rcases h2 with h2 | h2
  · omega
  · rw [h2] at b; cases b
theorem inBk.at {G : XG} {f : Nat → Option Nat} {v : Int} {q : Nat} (h : inBk G f v) (h2 : f v.toNat = some q) : (G.1 q 1).toInt = v := by
  obtain ⟨-, q2, b, c⟩ := h
  rw [h2] at b
  cases b
  exact c
/-! what an act leaves behind: the verdict, how many were asked -/
def isN (o : Option Qt) : Int := match o with
  | none => 1
  | some _ => 0
def isS (o : Option Qt) : Int := match o with
  | none => 0
  | some _ => 1
noncomputable def acV (op : Int) (L : List Qt) : Option Qt := match fqF (upF prS L) with
  | some x => some x
  | none => if op = 0 then fqF (upF ltS L) else none
noncomputable def acK (op : Int) (L : List Qt) : Int := (((upF prS L).length : Nat) : Int) + (match fqF (upF prS L) with
  | some _ => 0
  | none => if op = 0 then (((upF ltS L).length : Nat) : Int) else 0)
noncomputable def acC (op : Int) (L : List Qt) : Int := match fqF (upF prS L) with
  | some _ => 0
  | none => if op = 0 then isN (fqF (upF ltS L)) else 0
noncomputable def acB (op : Int) (L : List Qt) : Int := match fqF (upF prS L) with
  | some _ => 0
  | none => if op = 0 then isS (fqF (upF ltS L)) else 0
def acA (op : Int) (L w0 w1 : List Qt) : Prop := match fqF (upF prS L) with
  | some _ => w1 = w0
  | none => if op = 0 then w1 = upF ltS L ∧ ((L.length : Nat) : Int) ≤ 1080 else w1 = w0
theorem ac_s {L : List Qt} {x : Qt} (h : fqF (upF prS L) = some x) (op : Int) (w0 w1 : List Qt) : acV op L = some x ∧ acK op L = (((upF prS L).length : Nat) : Int) ∧ acC op L = 0 ∧ acB op L = 0 ∧ (w1 = w0 → acA op L w0 w1) := by
  unfold acV acK acC acB acA
  rw [h]
  dsimp only
  exact ⟨rfl, by omega, rfl, rfl, fun e => e⟩
theorem ac_n {L : List Qt} (h : fqF (upF prS L) = none) {op : Int} (ho : op ≠ 0) (w0 w1 : List Qt) : acV op L = none ∧ acK op L = (((upF prS L).length : Nat) : Int) ∧ acC op L = 0 ∧ acB op L = 0 ∧ (w1 = w0 → acA op L w0 w1) := by
  unfold acV acK acC acB acA
  rw [h]
  dsimp only
  rw [if_neg ho, if_neg ho, if_neg ho, if_neg ho, if_neg ho]
  exact ⟨rfl, by omega, rfl, rfl, fun e => e⟩
theorem ac_o {L : List Qt} (h : fqF (upF prS L) = none) {op : Int} (ho : op = 0) (w0 w1 : List Qt) : acV op L = fqF (upF ltS L) ∧ acK op L = (((upF prS L).length : Nat) : Int) + (((upF ltS L).length : Nat) : Int) ∧ acC op L = isN (fqF (upF ltS L)) ∧ acB op L = isS (fqF (upF ltS L)) ∧ (w1 = upF ltS L → ((L.length : Nat) : Int) ≤ 1080 → acA op L w0 w1) := by
  unfold acV acK acC acB acA
  rw [h]
  dsimp only
  rw [if_pos ho, if_pos ho, if_pos ho, if_pos ho, if_pos ho]
  exact ⟨rfl, rfl, rfl, rfl, fun e e2 => ⟨e, e2⟩⟩
theorem upF_ex {sel : Qt → Bool} : ∀ (l : List Qt) (n : Nat) (x : Qt), l[n]? = some x → sel x = true → x.2.2.2.2.2 ≠ 0 → fqF (upF sel l) ≠ none
  | [], n, x, h, _, _ => by cases h
  | y :: l, 0, x, h, h1, h2 => by
    cases h
    rw [upF_f h1 h2]
    unfold fqF
    rw [if_pos h2]
    exact fun q => by cases q
  | y :: l, n + 1, x, h, h1, h2 => by
    have i := upF_ex l n x h h1 h2
    by_cases c : sel y = true
    · by_cases c2 : y.2.2.2.2.2 ≠ 0
      · rw [upF_f c c2]
        unfold fqF
        rw [if_pos c2]
        exact fun q => by cases q
      · have c3 : y.2.2.2.2.2 = 0 := Classical.byContradiction c2
        rw [upF_y c c3]
        unfold fqF
        rw [if_neg c2]
        exact i
    · rw [upF_n c]
      exact i
theorem pr_fl (L : List Qt) : fqF (upF prS L) = none ↔ ∀ x, x ∈ L → x.2.2.2.2.1 = 0 → x.2.2.2.2.2 = 0 := by
  constructor
  · intro h x hx h1
    apply Classical.byContradiction
    intro h2
    obtain ⟨n, hn⟩ := List.mem_iff_getElem?.mp hx
    exact absurd h (upF_ex (sel := prS) L n x hn (decide_eq_true h1) h2)
  · intro h
    exact (upF_all L (fun x hx h1 => h x hx (of_decide_eq_true h1))).2
theorem fqF_at {x : Qt} (hx : x.2.2.2.2.2 ≠ 0) : ∀ (l : List Qt) (n : Nat), l[n]? = some x → (∀ (j : Nat) (y : Qt), j < n → l[j]? = some y → y.2.2.2.2.2 = 0) → fqF l = some x
  | [], n, h, _ => by cases h
  | y :: l, 0, h, _ => by
    cases h
    unfold fqF
    exact if_pos hx
  | y :: l, n + 1, h, h2 => by
    have z := h2 0 y (by omega) rfl
    unfold fqF
    rw [if_neg (fun q => q z)]
    exact fqF_at hx l n h (fun j w hj hw => h2 (j + 1) w (by omega) hw)
theorem fqL_at {G : XG} {F : Nat → Nat → Nat} {a : Nat} {r : Int} (h1 : r = -1 ∨ (0 ≤ r ∧ r < (G.1 a 6).toInt ∧ aI (G.2.1 (F a 5)) r = 1)) (h2 : ∀ j : Int, 0 ≤ j → j < (G.1 a 6).toInt → (r = -1 ∨ j < r) → aI (G.2.1 (F a 5)) j = 0) (hr : r ≠ -1) : fqF (qL G F a) = some (qt (G.2.1 (F a 0)) (G.2.1 (F a 1)) (G.2.1 (F a 2)) (G.2.1 (F a 3)) (G.2.1 (F a 4)) (G.2.1 (F a 5)) r.toNat) := by
  rcases h1 with h | ⟨a1, a2, a3⟩
  · exact absurd h hr
  · refine fqF_at (show aI (G.2.1 (F a 5)) r ≠ 0 by rw [a3]; decide) _ r.toNat (qL_at ⟨a1, a2⟩) (fun j y hj hy => ?_)
    obtain ⟨hj1, rfl⟩ := qL_get hy
    exact h2 (j : Int) (by omega) hj1 (Or.inr (by omega))
theorem fqF_no {l : List Qt} (h : ∀ x, x ∈ l → x.2.2.2.2.2 = 0) : fqF l = none := by
  induction l with
  | nil => rfl
  | cons y l ih =>
    unfold fqF
    rw [if_neg (fun q => q (h y List.mem_cons_self))]
    exact ih (fun x hx => h x (List.mem_cons_of_mem _ hx))
theorem upF_len {sel : Qt → Bool} : ∀ l : List Qt, (upF sel l).length ≤ l.length
  | [] => Nat.le_refl _
  | x :: l => by
    have i := upF_len (sel := sel) l
    by_cases c : sel x = true
    · by_cases d : x.2.2.2.2.2 ≠ 0
      · rw [upF_f c d]
        exact Nat.succ_le_succ (Nat.zero_le _)
      · rw [upF_y c (Classical.byContradiction d)]
        exact Nat.succ_le_succ i
    · rw [upF_n c]
      exact Nat.le_succ_of_le i
theorem v_X10_askAtOnce_66_1 {K : Nat → Nat} {F : Nat → Nat → Nat} (a : Nat) (G : XG) (l1_2 : Int32) (N2 : Nat)
    (ha : K a = 12)
    (pa : ∀ j : Int, 0 ≤ j → j < l1_2.toInt → aI (G.2.1 (F (F a 9) 4)) j = 0 → aI (G.2.1 (F (F a 9) 5)) j = 0)
    (s0 : 0 ≤ ((G.1 (F a 9) 6).toInt) ∧ ((G.1 (F a 9) 6).toInt) ≤ 1080)
    (I2_0 : 0 ≤ l1_2.toInt ∧ l1_2.toInt ≤ ((G.1 (F a 9) 6).toInt))
    (I2_1 : (0 : Int) ≤ l1_2.toInt)
    (hm2 : 2147483648 - l1_2.toInt < (((N2) + 1 : Nat) : Int))
    (c10 : ((G.1 (F a 9) 6).toInt) ≤ l1_2.toInt) :
    ((1 : Int) = 1 ∧ ∀ x, x ∈ qL G F (F a 9) → x.2.2.2.2.1 = 0 → x.2.2.2.2.2 = 0) ∨ ((1 : Int) = 0 ∧ ∃ x, x ∈ qL G F (F a 9) ∧ x.2.2.2.2.1 = 0 ∧ x.2.2.2.2.2 ≠ 0) := by
  first
    | exact Or.inl ⟨rfl, ql_all (P := fun x => x.2.2.2.2.1 = 0 → x.2.2.2.2.2 = 0) (fun j h1 h2 => pa j h1 (by omega))⟩
    | exact Or.inr ⟨rfl, _, List.mem_of_getElem? (qL_at (z := l1_2.toInt) (by omega)), show aI (G.2.1 (F (F a 9) 4)) l1_2.toInt = 0 by omega, show aI (G.2.1 (F (F a 9) 5)) l1_2.toInt ≠ 0 by omega⟩
theorem v_X10_askAtOnce_62_2 {K : Nat → Nat} {F : Nat → Nat → Nat} (a : Nat) (G : XG) (l1_2 : Int32) (N2 : Nat) (x18 : Int32) (x42 : Int32)
    (ha : K a = 12)
    (pa : ∀ j : Int, 0 ≤ j → j < l1_2.toInt → aI (G.2.1 (F (F a 9) 4)) j = 0 → aI (G.2.1 (F (F a 9) 5)) j = 0)
    (s0 : 0 ≤ ((G.1 (F a 9) 6).toInt) ∧ ((G.1 (F a 9) 6).toInt) ≤ 1080)
    (I2_0 : 0 ≤ l1_2.toInt ∧ l1_2.toInt ≤ ((G.1 (F a 9) 6).toInt))
    (I2_1 : (0 : Int) ≤ l1_2.toInt)
    (hm2 : 2147483648 - l1_2.toInt < (((N2) + 1 : Nat) : Int))
    (c10 : ¬ (((G.1 (F a 9) 6).toInt) ≤ l1_2.toInt))
    (t18 : ((0 ≤ l1_2.toInt ∧ l1_2.toInt < ((G.1 (F a 9) 6).toInt) ∧ l1_2.toInt < 1080) ∧ x18.toInt = (aI (G.2.1 (F (F a 9) 4)) (l1_2.toInt))) ∨ (¬ (0 ≤ l1_2.toInt ∧ l1_2.toInt < ((G.1 (F a 9) 6).toInt) ∧ l1_2.toInt < 1080) ∧ x18.toInt = 0))
    (f23 : x18.toInt = 0 ∨ x18.toInt = 1)
    (c21 : x18.toInt = 0)
    (t42 : ((0 ≤ l1_2.toInt ∧ l1_2.toInt < ((G.1 (F a 9) 6).toInt) ∧ l1_2.toInt < 1080) ∧ x42.toInt = (aI (G.2.1 (F (F a 9) 5)) (l1_2.toInt))) ∨ (¬ (0 ≤ l1_2.toInt ∧ l1_2.toInt < ((G.1 (F a 9) 6).toInt) ∧ l1_2.toInt < 1080) ∧ x42.toInt = 0))
    (f27 : x42.toInt = 0 ∨ x42.toInt = 1)
    (c45 : x42.toInt = 0) :
    ∀ j : Int, 0 ≤ j → j < (l1_2.toInt + 1) → aI (G.2.1 (F (F a 9) 4)) j = 0 → aI (G.2.1 (F (F a 9) 5)) j = 0 := by
  intro j h1 h2 h3
  by_cases e : j = l1_2.toInt
  · subst e; omega
  · exact pa j h1 (by omega) h3
theorem v_X10_askAtOnce_58_3 {K : Nat → Nat} {F : Nat → Nat → Nat} (a : Nat) (G : XG) (l1_2 : Int32) (N2 : Nat) (x18 : Int32) (x42 : Int32)
    (ha : K a = 12)
    (pa : ∀ j : Int, 0 ≤ j → j < l1_2.toInt → aI (G.2.1 (F (F a 9) 4)) j = 0 → aI (G.2.1 (F (F a 9) 5)) j = 0)
    (s0 : 0 ≤ ((G.1 (F a 9) 6).toInt) ∧ ((G.1 (F a 9) 6).toInt) ≤ 1080)
    (I2_0 : 0 ≤ l1_2.toInt ∧ l1_2.toInt ≤ ((G.1 (F a 9) 6).toInt))
    (I2_1 : (0 : Int) ≤ l1_2.toInt)
    (hm2 : 2147483648 - l1_2.toInt < (((N2) + 1 : Nat) : Int))
    (c10 : ¬ (((G.1 (F a 9) 6).toInt) ≤ l1_2.toInt))
    (t18 : ((0 ≤ l1_2.toInt ∧ l1_2.toInt < ((G.1 (F a 9) 6).toInt) ∧ l1_2.toInt < 1080) ∧ x18.toInt = (aI (G.2.1 (F (F a 9) 4)) (l1_2.toInt))) ∨ (¬ (0 ≤ l1_2.toInt ∧ l1_2.toInt < ((G.1 (F a 9) 6).toInt) ∧ l1_2.toInt < 1080) ∧ x18.toInt = 0))
    (f23 : x18.toInt = 0 ∨ x18.toInt = 1)
    (c21 : x18.toInt = 0)
    (t42 : ((0 ≤ l1_2.toInt ∧ l1_2.toInt < ((G.1 (F a 9) 6).toInt) ∧ l1_2.toInt < 1080) ∧ x42.toInt = (aI (G.2.1 (F (F a 9) 5)) (l1_2.toInt))) ∨ (¬ (0 ≤ l1_2.toInt ∧ l1_2.toInt < ((G.1 (F a 9) 6).toInt) ∧ l1_2.toInt < 1080) ∧ x42.toInt = 0))
    (f27 : x42.toInt = 0 ∨ x42.toInt = 1)
    (c45 : ¬ (x42.toInt = 0)) :
    ((0 : Int) = 1 ∧ ∀ x, x ∈ qL G F (F a 9) → x.2.2.2.2.1 = 0 → x.2.2.2.2.2 = 0) ∨ ((0 : Int) = 0 ∧ ∃ x, x ∈ qL G F (F a 9) ∧ x.2.2.2.2.1 = 0 ∧ x.2.2.2.2.2 ≠ 0) := by
  first
    | exact Or.inl ⟨rfl, ql_all (P := fun x => x.2.2.2.2.1 = 0 → x.2.2.2.2.2 = 0) (fun j h1 h2 => pa j h1 (by omega))⟩
    | exact Or.inr ⟨rfl, _, List.mem_of_getElem? (qL_at (z := l1_2.toInt) (by omega)), show aI (G.2.1 (F (F a 9) 4)) l1_2.toInt = 0 by omega, show aI (G.2.1 (F (F a 9) 5)) l1_2.toInt ≠ 0 by omega⟩
theorem v_X10_askAtOnce_62_4 {K : Nat → Nat} {F : Nat → Nat → Nat} (a : Nat) (G : XG) (l1_2 : Int32) (N2 : Nat) (x18 : Int32)
    (ha : K a = 12)
    (pa : ∀ j : Int, 0 ≤ j → j < l1_2.toInt → aI (G.2.1 (F (F a 9) 4)) j = 0 → aI (G.2.1 (F (F a 9) 5)) j = 0)
    (s0 : 0 ≤ ((G.1 (F a 9) 6).toInt) ∧ ((G.1 (F a 9) 6).toInt) ≤ 1080)
    (I2_0 : 0 ≤ l1_2.toInt ∧ l1_2.toInt ≤ ((G.1 (F a 9) 6).toInt))
    (I2_1 : (0 : Int) ≤ l1_2.toInt)
    (hm2 : 2147483648 - l1_2.toInt < (((N2) + 1 : Nat) : Int))
    (c10 : ¬ (((G.1 (F a 9) 6).toInt) ≤ l1_2.toInt))
    (t18 : ((0 ≤ l1_2.toInt ∧ l1_2.toInt < ((G.1 (F a 9) 6).toInt) ∧ l1_2.toInt < 1080) ∧ x18.toInt = (aI (G.2.1 (F (F a 9) 4)) (l1_2.toInt))) ∨ (¬ (0 ≤ l1_2.toInt ∧ l1_2.toInt < ((G.1 (F a 9) 6).toInt) ∧ l1_2.toInt < 1080) ∧ x18.toInt = 0))
    (f21 : x18.toInt = 0 ∨ x18.toInt = 1)
    (c21 : ¬ (x18.toInt = 0)) :
    ∀ j : Int, 0 ≤ j → j < (l1_2.toInt + 1) → aI (G.2.1 (F (F a 9) 4)) j = 0 → aI (G.2.1 (F (F a 9) 5)) j = 0 := by
  intro j h1 h2 h3
  by_cases e : j = l1_2.toInt
  · subst e; omega
  · exact pa j h1 (by omega) h3
theorem v_X10_askAtOnce_1_5 {K : Nat → Nat} {F : Nat → Nat → Nat} (a : Nat) (G : XG)
    (ha : K a = 12)
    (s0 : 0 ≤ ((G.1 (F a 9) 6).toInt) ∧ ((G.1 (F a 9) 6).toInt) ≤ 1080) :
    ∀ j : Int, 0 ≤ j → j < (0 : Int) → aI (G.2.1 (F (F a 9) 4)) j = 0 → aI (G.2.1 (F (F a 9) 5)) j = 0 := by
  intro j h1 h2; exact absurd h1 (by omega)
theorem v_X10_askToCommit_90_1 {K : Nat → Nat} {F : Nat → Nat → Nat} (a : Nat) (p0 : Nat) (G : XG) (G4 : XG) (G_9 : XG) (l2_9 : Int32) (N9 : Nat)
    (ha : K a = 12)
    (hp0 : K p0 = 6)
    (hn : F p0 99 ≠ 2)
    (pa : ∀ j : Int, 0 ≤ j → j < l2_9.toInt → aI (G.2.1 (F p0 4)) j ≠ 0 → aI (G.2.1 (F p0 5)) j = 0)
    (s0 : 0 ≤ ((G.1 p0 6).toInt) ∧ ((G.1 p0 6).toInt) ≤ 1080)
    (t4 : ((G4.1 (F a 10) 6).toInt) = 0)
    (I9_0 : 0 ≤ l2_9.toInt ∧ l2_9.toInt ≤ ((G.1 p0 6).toInt))
    (I9_1 : 0 ≤ ((G_9.1 (F a 10) 6).toInt) ∧ ((G_9.1 (F a 10) 6).toInt) ≤ l2_9.toInt)
    (I9_2 : (0 : Int) ≤ l2_9.toInt)
    (hm9 : 2147483648 - l2_9.toInt < (((N9) + 1 : Nat) : Int))
    (c14 : ((G.1 p0 6).toInt) ≤ l2_9.toInt) :
    ((1 : Int) = 1 ∧ ∀ x, x ∈ qL G F p0 → x.2.2.2.2.1 ≠ 0 → x.2.2.2.2.2 = 0) ∨ ((1 : Int) = 0 ∧ ∃ x, x ∈ qL G F p0 ∧ x.2.2.2.2.1 ≠ 0 ∧ x.2.2.2.2.2 ≠ 0) := by
  first
    | exact Or.inl ⟨rfl, ql_all (P := fun x => x.2.2.2.2.1 ≠ 0 → x.2.2.2.2.2 = 0) (fun j h1 h2 => pa j h1 (by omega))⟩
    | exact Or.inr ⟨rfl, _, List.mem_of_getElem? (qL_at (z := l2_9.toInt) (by omega)), show aI (G.2.1 (F p0 4)) l2_9.toInt ≠ 0 by omega, show aI (G.2.1 (F p0 5)) l2_9.toInt ≠ 0 by omega⟩
theorem v_X10_askToCommit_90_2 {K : Nat → Nat} {F : Nat → Nat → Nat} (a : Nat) (p0 : Nat) (G : XG) (G4 : XG) (G_9 : XG) (G88 : XG) (l2_9 : Int32) (N9 : Nat)
    (ha : K a = 12)
    (hp0 : K p0 = 6)
    (hn : F p0 99 ≠ 2)
    (pl : qL G_9 F (F a 10) = ltF (qP G F p0 (l2_9.toInt).toNat))
    (s0 : 0 ≤ ((G.1 p0 6).toInt) ∧ ((G.1 p0 6).toInt) ≤ 1080)
    (t4 : ((G4.1 (F a 10) 6).toInt) = 0)
    (I9_0 : 0 ≤ l2_9.toInt ∧ l2_9.toInt ≤ ((G.1 p0 6).toInt))
    (I9_1 : 0 ≤ ((G_9.1 (F a 10) 6).toInt) ∧ ((G_9.1 (F a 10) 6).toInt) ≤ l2_9.toInt)
    (I9_2 : (0 : Int) ≤ l2_9.toInt)
    (hm9 : 2147483648 - l2_9.toInt < (((N9) + 1 : Nat) : Int))
    (c14 : ((G.1 p0 6).toInt) ≤ l2_9.toInt)
    (c_G88_F_F_a_10_0 : G88.2.1 (F (F a 10) 0) = G_9.2.1 (F (F a 10) 0))
    (c_G88_F_F_a_10_1 : G88.2.1 (F (F a 10) 1) = G_9.2.1 (F (F a 10) 1))
    (c_G88_F_F_a_10_2 : G88.2.1 (F (F a 10) 2) = G_9.2.1 (F (F a 10) 2))
    (c_G88_F_F_a_10_3 : G88.2.1 (F (F a 10) 3) = G_9.2.1 (F (F a 10) 3))
    (c_G88_F_F_a_10_4 : G88.2.1 (F (F a 10) 4) = G_9.2.1 (F (F a 10) 4))
    (c_G88_F_F_a_10_5 : G88.2.1 (F (F a 10) 5) = G_9.2.1 (F (F a 10) 5))
    (d_G88_F_a_10_6 : G88.1 (F a 10) 6 = G_9.1 (F a 10) 6) :
    AskR (qL G F p0) (qL G88 F (F a 10)) (1 : Int) := by
  unfold AskR
  refine Or.inl ⟨rfl, ?_⟩
  have e8 : qL G88 F (F a 10) = qL G_9 F (F a 10) := qL_cg d_G88_F_a_10_6 c_G88_F_F_a_10_0 c_G88_F_F_a_10_1 c_G88_F_F_a_10_2 c_G88_F_F_a_10_3 c_G88_F_F_a_10_4 c_G88_F_F_a_10_5
  rw [e8, pl, show (l2_9.toInt).toNat = (G.1 p0 6).toInt.toNat by omega]
  exact congrArg ltF (qP_L G F p0)
theorem v_X10_askToCommit_44_3 {K : Nat → Nat} {F : Nat → Nat → Nat} (a : Nat) (p0 : Nat) (G : XG) (G4 : XG) (G_9 : XG) (l2_9 : Int32) (N9 : Nat) (x19 : Int32)
    (ha : K a = 12)
    (hp0 : K p0 = 6)
    (hk9999 : K (F a 14) = 11)
    (hj9999 : F (F a 14) 99 = 0)
    (hk9999a : K (F a 10) = 6)
    (hj9999a : F (F a 10) 99 = 2)
    (hk9999b : K (F a 16) = 27)
    (hj9999b : F (F a 16) 99 = 0)
    (hk9999c : K (F (F a 10) 0) = 22)
    (hj9999d : F (F (F a 10) 0) 99 = 10 * 2 + 0)
    (hk9999d : K (F (F a 10) 1) = 22)
    (hj9999f : F (F (F a 10) 1) 99 = 10 * 2 + 1)
    (hk9999e : K (F (F a 10) 2) = 22)
    (hj9999h : F (F (F a 10) 2) 99 = 10 * 2 + 2)
    (hk9999f : K (F (F a 10) 3) = 22)
    (hj9999j : F (F (F a 10) 3) 99 = 10 * 2 + 3)
    (hk9999g : K (F (F a 10) 4) = 23)
    (hj9999l : F (F (F a 10) 4) 99 = 10 * 2 + 4)
    (hk9999h : K (F (F a 10) 5) = 23)
    (hj9999n : F (F (F a 10) 5) 99 = 10 * 2 + 5)
    (hk9999i : K (F p0 0) = 22)
    (hj9999o : F (F p0 0) 99 = 10 * F p0 99 + 0)
    (hk9999j : K (F p0 1) = 22)
    (hj9999p : F (F p0 1) 99 = 10 * F p0 99 + 1)
    (hk9999k : K (F p0 2) = 22)
    (hj9999q : F (F p0 2) 99 = 10 * F p0 99 + 2)
    (hk9999l : K (F p0 3) = 22)
    (hj9999r : F (F p0 3) 99 = 10 * F p0 99 + 3)
    (hk9999m : K (F p0 4) = 23)
    (hj9999s : F (F p0 4) 99 = 10 * F p0 99 + 4)
    (hk9999n : K (F p0 5) = 23)
    (hj9999t : F (F p0 5) 99 = 10 * F p0 99 + 5)
    (hn : F p0 99 ≠ 2)
    (s0 : 0 ≤ ((G.1 p0 6).toInt) ∧ ((G.1 p0 6).toInt) ≤ 1080)
    (t4 : ((G4.1 (F a 10) 6).toInt) = 0)
    (I9_0 : 0 ≤ l2_9.toInt ∧ l2_9.toInt ≤ ((G.1 p0 6).toInt))
    (I9_1 : 0 ≤ ((G_9.1 (F a 10) 6).toInt) ∧ ((G_9.1 (F a 10) 6).toInt) ≤ l2_9.toInt)
    (I9_2 : (0 : Int) ≤ l2_9.toInt)
    (hm9 : 2147483648 - l2_9.toInt < (((N9) + 1 : Nat) : Int))
    (c14 : ¬ (((G.1 p0 6).toInt) ≤ l2_9.toInt))
    (t19 : ((0 ≤ l2_9.toInt ∧ l2_9.toInt < ((G.1 p0 6).toInt) ∧ l2_9.toInt < 1080) ∧ x19.toInt = (aI (G.2.1 (F p0 4)) (l2_9.toInt))) ∨ (¬ (0 ≤ l2_9.toInt ∧ l2_9.toInt < ((G.1 p0 6).toInt) ∧ l2_9.toInt < 1080) ∧ x19.toInt = 0))
    (f48 : x19.toInt = 0 ∨ x19.toInt = 1)
    (c22 : x19.toInt ≠ 0) :
    F (F a 10) 99 ≠ F p0 99 := by
  omega
theorem v_X10_askToCommit_76_4 {K : Nat → Nat} {F : Nat → Nat → Nat} (a : Nat) (p0 : Nat) (G : XG) (G4 : XG) (G_9 : XG) (G44 : XG) (l2_9 : Int32) (N9 : Nat) (x19 : Int32) (x49 : Int32)
    (ha : K a = 12)
    (hp0 : K p0 = 6)
    (hn : F p0 99 ≠ 2)
    (pa : ∀ j : Int, 0 ≤ j → j < l2_9.toInt → aI (G.2.1 (F p0 4)) j ≠ 0 → aI (G.2.1 (F p0 5)) j = 0)
    (s0 : 0 ≤ ((G.1 p0 6).toInt) ∧ ((G.1 p0 6).toInt) ≤ 1080)
    (t4 : ((G4.1 (F a 10) 6).toInt) = 0)
    (I9_0 : 0 ≤ l2_9.toInt ∧ l2_9.toInt ≤ ((G.1 p0 6).toInt))
    (I9_1 : 0 ≤ ((G_9.1 (F a 10) 6).toInt) ∧ ((G_9.1 (F a 10) 6).toInt) ≤ l2_9.toInt)
    (I9_2 : (0 : Int) ≤ l2_9.toInt)
    (hm9 : 2147483648 - l2_9.toInt < (((N9) + 1 : Nat) : Int))
    (c14 : ¬ (((G.1 p0 6).toInt) ≤ l2_9.toInt))
    (t19 : ((0 ≤ l2_9.toInt ∧ l2_9.toInt < ((G.1 p0 6).toInt) ∧ l2_9.toInt < 1080) ∧ x19.toInt = (aI (G.2.1 (F p0 4)) (l2_9.toInt))) ∨ (¬ (0 ≤ l2_9.toInt ∧ l2_9.toInt < ((G.1 p0 6).toInt) ∧ l2_9.toInt < 1080) ∧ x19.toInt = 0))
    (f51 : x19.toInt = 0 ∨ x19.toInt = 1)
    (c22 : x19.toInt ≠ 0)
    (t44 : ((G44.1 (F a 10) 6).toInt) = ((G_9.1 (F a 10) 6).toInt) + 1)
    (t49 : ((0 ≤ l2_9.toInt ∧ l2_9.toInt < ((G.1 p0 6).toInt) ∧ l2_9.toInt < 1080) ∧ x49.toInt = (aI (G.2.1 (F p0 5)) (l2_9.toInt))) ∨ (¬ (0 ≤ l2_9.toInt ∧ l2_9.toInt < ((G.1 p0 6).toInt) ∧ l2_9.toInt < 1080) ∧ x49.toInt = 0))
    (f56 : x49.toInt = 0 ∨ x49.toInt = 1)
    (c52 : x49.toInt = 0) :
    ∀ j : Int, 0 ≤ j → j < (l2_9.toInt + 1) → aI (G.2.1 (F p0 4)) j ≠ 0 → aI (G.2.1 (F p0 5)) j = 0 := by
  intro j h1 h2 h3
  by_cases e : j = l2_9.toInt
  · subst e; omega
  · exact pa j h1 (by omega) h3
theorem v_X10_askToCommit_76_5 {K : Nat → Nat} {F : Nat → Nat → Nat} (a : Nat) (p0 : Nat) (G : XG) (G4 : XG) (G_9 : XG) (G37 : XG) (G44 : XG) (l2_9 : Int32) (N9 : Nat) (x19 : Int32) (x49 : Int32)
    (ha : K a = 12)
    (hp0 : K p0 = 6)
    (hn : F p0 99 ≠ 2)
    (pl : qL G_9 F (F a 10) = ltF (qP G F p0 (l2_9.toInt).toNat))
    (oq44 : qL G44 F (F a 10) = qL G37 F (F a 10) ++ [((aI (G37.2.1 (F p0 0)) (l2_9.toInt)), (aI (G37.2.1 (F p0 1)) (l2_9.toInt)), (aI (G37.2.1 (F p0 2)) (l2_9.toInt)), (aI (G37.2.1 (F p0 3)) (l2_9.toInt)), (aI (G37.2.1 (F p0 4)) (l2_9.toInt)), (aI (G37.2.1 (F p0 5)) (l2_9.toInt)))])
    (s0 : 0 ≤ ((G.1 p0 6).toInt) ∧ ((G.1 p0 6).toInt) ≤ 1080)
    (t4 : ((G4.1 (F a 10) 6).toInt) = 0)
    (I9_0 : 0 ≤ l2_9.toInt ∧ l2_9.toInt ≤ ((G.1 p0 6).toInt))
    (I9_1 : 0 ≤ ((G_9.1 (F a 10) 6).toInt) ∧ ((G_9.1 (F a 10) 6).toInt) ≤ l2_9.toInt)
    (I9_2 : (0 : Int) ≤ l2_9.toInt)
    (hm9 : 2147483648 - l2_9.toInt < (((N9) + 1 : Nat) : Int))
    (c14 : ¬ (((G.1 p0 6).toInt) ≤ l2_9.toInt))
    (t19 : ((0 ≤ l2_9.toInt ∧ l2_9.toInt < ((G.1 p0 6).toInt) ∧ l2_9.toInt < 1080) ∧ x19.toInt = (aI (G.2.1 (F p0 4)) (l2_9.toInt))) ∨ (¬ (0 ≤ l2_9.toInt ∧ l2_9.toInt < ((G.1 p0 6).toInt) ∧ l2_9.toInt < 1080) ∧ x19.toInt = 0))
    (f51 : x19.toInt = 0 ∨ x19.toInt = 1)
    (c22 : x19.toInt ≠ 0)
    (t44 : ((G44.1 (F a 10) 6).toInt) = ((G_9.1 (F a 10) 6).toInt) + 1)
    (t49 : ((0 ≤ l2_9.toInt ∧ l2_9.toInt < ((G.1 p0 6).toInt) ∧ l2_9.toInt < 1080) ∧ x49.toInt = (aI (G.2.1 (F p0 5)) (l2_9.toInt))) ∨ (¬ (0 ≤ l2_9.toInt ∧ l2_9.toInt < ((G.1 p0 6).toInt) ∧ l2_9.toInt < 1080) ∧ x49.toInt = 0))
    (f56 : x49.toInt = 0 ∨ x49.toInt = 1)
    (c52 : x49.toInt = 0)
    (c_G37_F_F_a_10_0 : G37.2.1 (F (F a 10) 0) = G_9.2.1 (F (F a 10) 0))
    (c_G37_F_F_a_10_1 : G37.2.1 (F (F a 10) 1) = G_9.2.1 (F (F a 10) 1))
    (c_G37_F_F_a_10_2 : G37.2.1 (F (F a 10) 2) = G_9.2.1 (F (F a 10) 2))
    (c_G37_F_F_a_10_3 : G37.2.1 (F (F a 10) 3) = G_9.2.1 (F (F a 10) 3))
    (c_G37_F_F_a_10_4 : G37.2.1 (F (F a 10) 4) = G_9.2.1 (F (F a 10) 4))
    (c_G37_F_F_a_10_5 : G37.2.1 (F (F a 10) 5) = G_9.2.1 (F (F a 10) 5))
    (c_G37_F_p0_0 : G37.2.1 (F p0 0) = G.2.1 (F p0 0))
    (c_G37_F_p0_1 : G37.2.1 (F p0 1) = G.2.1 (F p0 1))
    (c_G37_F_p0_2 : G37.2.1 (F p0 2) = G.2.1 (F p0 2))
    (c_G37_F_p0_3 : G37.2.1 (F p0 3) = G.2.1 (F p0 3))
    (c_G37_F_p0_4 : G37.2.1 (F p0 4) = G.2.1 (F p0 4))
    (c_G37_F_p0_5 : G37.2.1 (F p0 5) = G.2.1 (F p0 5))
    (d_G37_F_a_10_6 : G37.1 (F a 10) 6 = G_9.1 (F a 10) 6) :
    qL G44 F (F a 10) = ltF (qP G F p0 (l2_9.toInt + 1).toNat) := by
  have e1 : (l2_9.toInt + 1).toNat = (l2_9.toInt).toNat + 1 := by omega
  first
    | (have e3 : qL G37 F (F a 10) = qL G_9 F (F a 10) := qL_cg d_G37_F_a_10_6 c_G37_F_F_a_10_0 c_G37_F_F_a_10_1 c_G37_F_F_a_10_2 c_G37_F_F_a_10_3 c_G37_F_F_a_10_4 c_G37_F_F_a_10_5
       rw [oq44, e3, pl, e1, qP_s, ltF_y (x := qt (G.2.1 (F p0 0)) (G.2.1 (F p0 1)) (G.2.1 (F p0 2)) (G.2.1 (F p0 3)) (G.2.1 (F p0 4)) (G.2.1 (F p0 5)) (l2_9.toInt).toNat) (show aI (G.2.1 (F p0 4)) l2_9.toInt ≠ 0 by omega)]
       rw [c_G37_F_p0_0, c_G37_F_p0_1, c_G37_F_p0_2, c_G37_F_p0_3, c_G37_F_p0_4, c_G37_F_p0_5]
       try rfl)
    | (rw [pl, e1, qP_s, ltF_n (x := qt (G.2.1 (F p0 0)) (G.2.1 (F p0 1)) (G.2.1 (F p0 2)) (G.2.1 (F p0 3)) (G.2.1 (F p0 4)) (G.2.1 (F p0 5)) (l2_9.toInt).toNat) (show aI (G.2.1 (F p0 4)) l2_9.toInt = 0 by omega)])
theorem v_X10_askToCommit_72_6 {K : Nat → Nat} {F : Nat → Nat → Nat} (a : Nat) (p0 : Nat) (G : XG) (G4 : XG) (G_9 : XG) (G37 : XG) (x36 : Int32) (G44 : XG) (l2_9 : Int32) (N9 : Nat) (x19 : Int32) (x49 : Int32)
    (ha : K a = 12)
    (hp0 : K p0 = 6)
    (hn : F p0 99 ≠ 2)
    (pa : ∀ j : Int, 0 ≤ j → j < l2_9.toInt → aI (G.2.1 (F p0 4)) j ≠ 0 → aI (G.2.1 (F p0 5)) j = 0)
    (s0 : 0 ≤ ((G.1 p0 6).toInt) ∧ ((G.1 p0 6).toInt) ≤ 1080)
    (t4 : ((G4.1 (F a 10) 6).toInt) = 0)
    (I9_0 : 0 ≤ l2_9.toInt ∧ l2_9.toInt ≤ ((G.1 p0 6).toInt))
    (I9_1 : 0 ≤ ((G_9.1 (F a 10) 6).toInt) ∧ ((G_9.1 (F a 10) 6).toInt) ≤ l2_9.toInt)
    (I9_2 : (0 : Int) ≤ l2_9.toInt)
    (hm9 : 2147483648 - l2_9.toInt < (((N9) + 1 : Nat) : Int))
    (c14 : ¬ (((G.1 p0 6).toInt) ≤ l2_9.toInt))
    (t19 : ((0 ≤ l2_9.toInt ∧ l2_9.toInt < ((G.1 p0 6).toInt) ∧ l2_9.toInt < 1080) ∧ x19.toInt = (aI (G.2.1 (F p0 4)) (l2_9.toInt))) ∨ (¬ (0 ≤ l2_9.toInt ∧ l2_9.toInt < ((G.1 p0 6).toInt) ∧ l2_9.toInt < 1080) ∧ x19.toInt = 0))
    (f53 : x19.toInt = 0 ∨ x19.toInt = 1)
    (c22 : x19.toInt ≠ 0)
    (t36 : x36.toInt = (aI (G_9.2.1 (F a 16)) 0) + (1 : Int) ∨ (aI (G_9.2.1 (F a 16)) 0) + (1 : Int) < -2147483648 ∨ 2147483648 ≤ (aI (G_9.2.1 (F a 16)) 0) + (1 : Int))
    (t44 : ((G44.1 (F a 10) 6).toInt) = ((G_9.1 (F a 10) 6).toInt) + 1)
    (t49 : ((0 ≤ l2_9.toInt ∧ l2_9.toInt < ((G.1 p0 6).toInt) ∧ l2_9.toInt < 1080) ∧ x49.toInt = (aI (G.2.1 (F p0 5)) (l2_9.toInt))) ∨ (¬ (0 ≤ l2_9.toInt ∧ l2_9.toInt < ((G.1 p0 6).toInt) ∧ l2_9.toInt < 1080) ∧ x49.toInt = 0))
    (f58 : x49.toInt = 0 ∨ x49.toInt = 1)
    (c52 : ¬ (x49.toInt = 0))
    (hc67 : ((2 : Int) = (0 : Int) → (aI (G37.2.1 (F a 16)) ((2 : Int))) = x36.toInt) ∧ ((2 : Int) ≠ (0 : Int) → (aI (G37.2.1 (F a 16)) ((2 : Int))) = (aI (G_9.2.1 (F a 16)) ((2 : Int))))) :
    ((0 : Int) = 1 ∧ ∀ x, x ∈ qL G F p0 → x.2.2.2.2.1 ≠ 0 → x.2.2.2.2.2 = 0) ∨ ((0 : Int) = 0 ∧ ∃ x, x ∈ qL G F p0 ∧ x.2.2.2.2.1 ≠ 0 ∧ x.2.2.2.2.2 ≠ 0) := by
  first
    | exact Or.inl ⟨rfl, ql_all (P := fun x => x.2.2.2.2.1 ≠ 0 → x.2.2.2.2.2 = 0) (fun j h1 h2 => pa j h1 (by omega))⟩
    | exact Or.inr ⟨rfl, _, List.mem_of_getElem? (qL_at (z := l2_9.toInt) (by omega)), show aI (G.2.1 (F p0 4)) l2_9.toInt ≠ 0 by omega, show aI (G.2.1 (F p0 5)) l2_9.toInt ≠ 0 by omega⟩
theorem v_X10_askToCommit_72_7 {K : Nat → Nat} {F : Nat → Nat → Nat} (a : Nat) (p0 : Nat) (G : XG) (G4 : XG) (G_9 : XG) (G37 : XG) (x36 : Int32) (G44 : XG) (G70 : XG) (l2_9 : Int32) (N9 : Nat) (x19 : Int32) (x49 : Int32)
    (ha : K a = 12)
    (hp0 : K p0 = 6)
    (hn : F p0 99 ≠ 2)
    (pa : ∀ j : Int, 0 ≤ j → j < l2_9.toInt → aI (G.2.1 (F p0 4)) j ≠ 0 → aI (G.2.1 (F p0 5)) j = 0)
    (pl : qL G_9 F (F a 10) = ltF (qP G F p0 (l2_9.toInt).toNat))
    (oq44 : qL G44 F (F a 10) = qL G37 F (F a 10) ++ [((aI (G37.2.1 (F p0 0)) (l2_9.toInt)), (aI (G37.2.1 (F p0 1)) (l2_9.toInt)), (aI (G37.2.1 (F p0 2)) (l2_9.toInt)), (aI (G37.2.1 (F p0 3)) (l2_9.toInt)), (aI (G37.2.1 (F p0 4)) (l2_9.toInt)), (aI (G37.2.1 (F p0 5)) (l2_9.toInt)))])
    (s0 : 0 ≤ ((G.1 p0 6).toInt) ∧ ((G.1 p0 6).toInt) ≤ 1080)
    (t4 : ((G4.1 (F a 10) 6).toInt) = 0)
    (I9_0 : 0 ≤ l2_9.toInt ∧ l2_9.toInt ≤ ((G.1 p0 6).toInt))
    (I9_1 : 0 ≤ ((G_9.1 (F a 10) 6).toInt) ∧ ((G_9.1 (F a 10) 6).toInt) ≤ l2_9.toInt)
    (I9_2 : (0 : Int) ≤ l2_9.toInt)
    (hm9 : 2147483648 - l2_9.toInt < (((N9) + 1 : Nat) : Int))
    (c14 : ¬ (((G.1 p0 6).toInt) ≤ l2_9.toInt))
    (t19 : ((0 ≤ l2_9.toInt ∧ l2_9.toInt < ((G.1 p0 6).toInt) ∧ l2_9.toInt < 1080) ∧ x19.toInt = (aI (G.2.1 (F p0 4)) (l2_9.toInt))) ∨ (¬ (0 ≤ l2_9.toInt ∧ l2_9.toInt < ((G.1 p0 6).toInt) ∧ l2_9.toInt < 1080) ∧ x19.toInt = 0))
    (f53 : x19.toInt = 0 ∨ x19.toInt = 1)
    (c22 : x19.toInt ≠ 0)
    (t36 : x36.toInt = (aI (G_9.2.1 (F a 16)) 0) + (1 : Int) ∨ (aI (G_9.2.1 (F a 16)) 0) + (1 : Int) < -2147483648 ∨ 2147483648 ≤ (aI (G_9.2.1 (F a 16)) 0) + (1 : Int))
    (t44 : ((G44.1 (F a 10) 6).toInt) = ((G_9.1 (F a 10) 6).toInt) + 1)
    (t49 : ((0 ≤ l2_9.toInt ∧ l2_9.toInt < ((G.1 p0 6).toInt) ∧ l2_9.toInt < 1080) ∧ x49.toInt = (aI (G.2.1 (F p0 5)) (l2_9.toInt))) ∨ (¬ (0 ≤ l2_9.toInt ∧ l2_9.toInt < ((G.1 p0 6).toInt) ∧ l2_9.toInt < 1080) ∧ x49.toInt = 0))
    (f58 : x49.toInt = 0 ∨ x49.toInt = 1)
    (c52 : ¬ (x49.toInt = 0))
    (hc67 : ((2 : Int) = (0 : Int) → (aI (G37.2.1 (F a 16)) ((2 : Int))) = x36.toInt) ∧ ((2 : Int) ≠ (0 : Int) → (aI (G37.2.1 (F a 16)) ((2 : Int))) = (aI (G_9.2.1 (F a 16)) ((2 : Int)))))
    (c_G37_F_F_a_10_0 : G37.2.1 (F (F a 10) 0) = G_9.2.1 (F (F a 10) 0))
    (c_G37_F_F_a_10_1 : G37.2.1 (F (F a 10) 1) = G_9.2.1 (F (F a 10) 1))
    (c_G37_F_F_a_10_2 : G37.2.1 (F (F a 10) 2) = G_9.2.1 (F (F a 10) 2))
    (c_G37_F_F_a_10_3 : G37.2.1 (F (F a 10) 3) = G_9.2.1 (F (F a 10) 3))
    (c_G37_F_F_a_10_4 : G37.2.1 (F (F a 10) 4) = G_9.2.1 (F (F a 10) 4))
    (c_G37_F_F_a_10_5 : G37.2.1 (F (F a 10) 5) = G_9.2.1 (F (F a 10) 5))
    (c_G37_F_p0_0 : G37.2.1 (F p0 0) = G.2.1 (F p0 0))
    (c_G37_F_p0_1 : G37.2.1 (F p0 1) = G.2.1 (F p0 1))
    (c_G37_F_p0_2 : G37.2.1 (F p0 2) = G.2.1 (F p0 2))
    (c_G37_F_p0_3 : G37.2.1 (F p0 3) = G.2.1 (F p0 3))
    (c_G37_F_p0_4 : G37.2.1 (F p0 4) = G.2.1 (F p0 4))
    (c_G37_F_p0_5 : G37.2.1 (F p0 5) = G.2.1 (F p0 5))
    (c_G70_F_F_a_10_0 : G70.2.1 (F (F a 10) 0) = G44.2.1 (F (F a 10) 0))
    (c_G70_F_F_a_10_1 : G70.2.1 (F (F a 10) 1) = G44.2.1 (F (F a 10) 1))
    (c_G70_F_F_a_10_2 : G70.2.1 (F (F a 10) 2) = G44.2.1 (F (F a 10) 2))
    (c_G70_F_F_a_10_3 : G70.2.1 (F (F a 10) 3) = G44.2.1 (F (F a 10) 3))
    (c_G70_F_F_a_10_4 : G70.2.1 (F (F a 10) 4) = G44.2.1 (F (F a 10) 4))
    (c_G70_F_F_a_10_5 : G70.2.1 (F (F a 10) 5) = G44.2.1 (F (F a 10) 5))
    (d_G37_F_a_10_6 : G37.1 (F a 10) 6 = G_9.1 (F a 10) 6)
    (d_G70_F_a_10_6 : G70.1 (F a 10) 6 = G44.1 (F a 10) 6) :
    AskR (qL G F p0) (qL G70 F (F a 10)) (0 : Int) := by
  have e : (((l2_9.toInt).toNat : Nat) : Int) = l2_9.toInt := by omega
  have e7 : qL G70 F (F a 10) = qL G44 F (F a 10) := qL_cg d_G70_F_a_10_6 c_G70_F_F_a_10_0 c_G70_F_F_a_10_1 c_G70_F_F_a_10_2 c_G70_F_F_a_10_3 c_G70_F_F_a_10_4 c_G70_F_F_a_10_5
  refine AskR_n (n := (l2_9.toInt).toNat) (by rw [e]; omega) (by rw [e]; omega) (by rw [e]; omega) (fun j h1 h2 h3 => pa j h1 (by omega) h3) ?_
  have e3 : qL G37 F (F a 10) = qL G_9 F (F a 10) := qL_cg d_G37_F_a_10_6 c_G37_F_F_a_10_0 c_G37_F_F_a_10_1 c_G37_F_F_a_10_2 c_G37_F_F_a_10_3 c_G37_F_F_a_10_4 c_G37_F_F_a_10_5
  rw [e7, oq44, e3, pl, qP_s, ltF_y (x := qt (G.2.1 (F p0 0)) (G.2.1 (F p0 1)) (G.2.1 (F p0 2)) (G.2.1 (F p0 3)) (G.2.1 (F p0 4)) (G.2.1 (F p0 5)) (l2_9.toInt).toNat) (show aI (G.2.1 (F p0 4)) l2_9.toInt ≠ 0 by omega)]
  rw [c_G37_F_p0_0, c_G37_F_p0_1, c_G37_F_p0_2, c_G37_F_p0_3, c_G37_F_p0_4, c_G37_F_p0_5]
  try rfl
theorem v_X10_askToCommit_76_8 {K : Nat → Nat} {F : Nat → Nat → Nat} (a : Nat) (p0 : Nat) (G : XG) (G4 : XG) (G_9 : XG) (l2_9 : Int32) (N9 : Nat) (x19 : Int32)
    (ha : K a = 12)
    (hp0 : K p0 = 6)
    (hn : F p0 99 ≠ 2)
    (pa : ∀ j : Int, 0 ≤ j → j < l2_9.toInt → aI (G.2.1 (F p0 4)) j ≠ 0 → aI (G.2.1 (F p0 5)) j = 0)
    (s0 : 0 ≤ ((G.1 p0 6).toInt) ∧ ((G.1 p0 6).toInt) ≤ 1080)
    (t4 : ((G4.1 (F a 10) 6).toInt) = 0)
    (I9_0 : 0 ≤ l2_9.toInt ∧ l2_9.toInt ≤ ((G.1 p0 6).toInt))
    (I9_1 : 0 ≤ ((G_9.1 (F a 10) 6).toInt) ∧ ((G_9.1 (F a 10) 6).toInt) ≤ l2_9.toInt)
    (I9_2 : (0 : Int) ≤ l2_9.toInt)
    (hm9 : 2147483648 - l2_9.toInt < (((N9) + 1 : Nat) : Int))
    (c14 : ¬ (((G.1 p0 6).toInt) ≤ l2_9.toInt))
    (t19 : ((0 ≤ l2_9.toInt ∧ l2_9.toInt < ((G.1 p0 6).toInt) ∧ l2_9.toInt < 1080) ∧ x19.toInt = (aI (G.2.1 (F p0 4)) (l2_9.toInt))) ∨ (¬ (0 ≤ l2_9.toInt ∧ l2_9.toInt < ((G.1 p0 6).toInt) ∧ l2_9.toInt < 1080) ∧ x19.toInt = 0))
    (f47 : x19.toInt = 0 ∨ x19.toInt = 1)
    (c22 : ¬ (x19.toInt ≠ 0)) :
    ∀ j : Int, 0 ≤ j → j < (l2_9.toInt + 1) → aI (G.2.1 (F p0 4)) j ≠ 0 → aI (G.2.1 (F p0 5)) j = 0 := by
  intro j h1 h2 h3
  by_cases e : j = l2_9.toInt
  · subst e; omega
  · exact pa j h1 (by omega) h3
theorem v_X10_askToCommit_76_9 {K : Nat → Nat} {F : Nat → Nat → Nat} (a : Nat) (p0 : Nat) (G : XG) (G4 : XG) (G_9 : XG) (l2_9 : Int32) (N9 : Nat) (x19 : Int32)
    (ha : K a = 12)
    (hp0 : K p0 = 6)
    (hn : F p0 99 ≠ 2)
    (pl : qL G_9 F (F a 10) = ltF (qP G F p0 (l2_9.toInt).toNat))
    (s0 : 0 ≤ ((G.1 p0 6).toInt) ∧ ((G.1 p0 6).toInt) ≤ 1080)
    (t4 : ((G4.1 (F a 10) 6).toInt) = 0)
    (I9_0 : 0 ≤ l2_9.toInt ∧ l2_9.toInt ≤ ((G.1 p0 6).toInt))
    (I9_1 : 0 ≤ ((G_9.1 (F a 10) 6).toInt) ∧ ((G_9.1 (F a 10) 6).toInt) ≤ l2_9.toInt)
    (I9_2 : (0 : Int) ≤ l2_9.toInt)
    (hm9 : 2147483648 - l2_9.toInt < (((N9) + 1 : Nat) : Int))
    (c14 : ¬ (((G.1 p0 6).toInt) ≤ l2_9.toInt))
    (t19 : ((0 ≤ l2_9.toInt ∧ l2_9.toInt < ((G.1 p0 6).toInt) ∧ l2_9.toInt < 1080) ∧ x19.toInt = (aI (G.2.1 (F p0 4)) (l2_9.toInt))) ∨ (¬ (0 ≤ l2_9.toInt ∧ l2_9.toInt < ((G.1 p0 6).toInt) ∧ l2_9.toInt < 1080) ∧ x19.toInt = 0))
    (f47 : x19.toInt = 0 ∨ x19.toInt = 1)
    (c22 : ¬ (x19.toInt ≠ 0)) :
    qL G_9 F (F a 10) = ltF (qP G F p0 (l2_9.toInt + 1).toNat) := by
  have e1 : (l2_9.toInt + 1).toNat = (l2_9.toInt).toNat + 1 := by omega
  first
    | (have e3 : qL G37 F (F a 10) = qL G_9 F (F a 10) := qL_cg d_G37_F_a_10_6 c_G37_F_F_a_10_0 c_G37_F_F_a_10_1 c_G37_F_F_a_10_2 c_G37_F_F_a_10_3 c_G37_F_F_a_10_4 c_G37_F_F_a_10_5
       rw [oq44, e3, pl, e1, qP_s, ltF_y (x := qt (G.2.1 (F p0 0)) (G.2.1 (F p0 1)) (G.2.1 (F p0 2)) (G.2.1 (F p0 3)) (G.2.1 (F p0 4)) (G.2.1 (F p0 5)) (l2_9.toInt).toNat) (show aI (G.2.1 (F p0 4)) l2_9.toInt ≠ 0 by omega)]
       rw [c_G37_F_p0_0, c_G37_F_p0_1, c_G37_F_p0_2, c_G37_F_p0_3, c_G37_F_p0_4, c_G37_F_p0_5]
       try rfl)
    | (rw [pl, e1, qP_s, ltF_n (x := qt (G.2.1 (F p0 0)) (G.2.1 (F p0 1)) (G.2.1 (F p0 2)) (G.2.1 (F p0 3)) (G.2.1 (F p0 4)) (G.2.1 (F p0 5)) (l2_9.toInt).toNat) (show aI (G.2.1 (F p0 4)) l2_9.toInt = 0 by omega)])
theorem v_X10_askToCommit_8_10 {K : Nat → Nat} {F : Nat → Nat → Nat} (a : Nat) (p0 : Nat) (G : XG) (G4 : XG)
    (ha : K a = 12)
    (hp0 : K p0 = 6)
    (hn : F p0 99 ≠ 2)
    (s0 : 0 ≤ ((G.1 p0 6).toInt) ∧ ((G.1 p0 6).toInt) ≤ 1080)
    (t4 : ((G4.1 (F a 10) 6).toInt) = 0) :
    ∀ j : Int, 0 ≤ j → j < (0 : Int) → aI (G.2.1 (F p0 4)) j ≠ 0 → aI (G.2.1 (F p0 5)) j = 0 := by
  intro j h1 h2; exact absurd h1 (by omega)
theorem v_X10_askToCommit_8_11 {F : Nat → Nat → Nat} (a : Nat) (p0 : Nat) (G : XG) (G4 : XG)
    (t4 : ((G4.1 (F a 10) 6).toInt) = 0) :
    qL G4 F (F a 10) = ltF (qP G F p0 (0 : Int).toNat) := by
  show lst _ (G4.1 (F a 10) 6).toInt.toNat = _
  rw [t4]
  rfl
theorem z_X10_wordOf_1 (a0 : Int) : (a0 < 0 ∨ 4 < a0) ∨ (a0 = 0) ∨ (a0 = 1) ∨ (a0 = 2) ∨ (a0 = 3) ∨ (a0 = 4) := by omega
theorem z_X10_wordOf_2 (a0 : Int) (h0 : a0 < 0 ∨ 4 < a0) : (0 ≤ a0 ∧ a0 ≤ 4 ∧ ((5 : Nat) : Int) = a0) ∨ (¬ (0 ≤ a0 ∧ a0 ≤ 4) ∧ ((5 : Nat) : Int) = 5) := by omega
theorem z_X10_wordOf_3 (a0 : Int) (h0 : a0 = 0) : (0 ≤ a0 ∧ a0 ≤ 4 ∧ ((0 : Nat) : Int) = a0) ∨ (¬ (0 ≤ a0 ∧ a0 ≤ 4) ∧ ((0 : Nat) : Int) = 5) := by omega
theorem z_X10_wordOf_4 (a0 : Int) (h0 : a0 = 1) : (0 ≤ a0 ∧ a0 ≤ 4 ∧ ((1 : Nat) : Int) = a0) ∨ (¬ (0 ≤ a0 ∧ a0 ≤ 4) ∧ ((1 : Nat) : Int) = 5) := by omega
theorem z_X10_wordOf_5 (a0 : Int) (h0 : a0 = 2) : (0 ≤ a0 ∧ a0 ≤ 4 ∧ ((2 : Nat) : Int) = a0) ∨ (¬ (0 ≤ a0 ∧ a0 ≤ 4) ∧ ((2 : Nat) : Int) = 5) := by omega
theorem z_X10_wordOf_6 (a0 : Int) (h0 : a0 = 3) : (0 ≤ a0 ∧ a0 ≤ 4 ∧ ((3 : Nat) : Int) = a0) ∨ (¬ (0 ≤ a0 ∧ a0 ≤ 4) ∧ ((3 : Nat) : Int) = 5) := by omega
theorem z_X10_wordOf_7 (a0 : Int) (h0 : a0 = 4) : (0 ≤ a0 ∧ a0 ≤ 4 ∧ ((4 : Nat) : Int) = a0) ∨ (¬ (0 ≤ a0 ∧ a0 ≤ 4) ∧ ((4 : Nat) : Int) = 5) := by omega
abbrev rm_X10_wordOf : Room := { frames := 0, cells := 0, slots := 0, locals := 0 }
set_option maxHeartbeats 4000000 in
set_option maxRecDepth 100000 in
theorem c_X10_wordOf (l : Launch) (E : XE) (K : Nat → Nat) (F : Nat → Nat → Nat) (G : XG) (h0 : Heap) (p0 : Int32)  : Met l yX10_wordOf (xw yX10_wordOf cX10_wordOf 1 (some (.object "java/lang/String"))) rm_X10_wordOf (va_Pc [.int p0] (XPh E K F G h0)) (XQ E (fun v (u : Unit) => ∃ i : Nat, i < 6 ∧ v = .ref (E.2.2.2.2.1 i) ∧ ((0 ≤ p0.toInt ∧ p0.toInt ≤ 4 ∧ ((i : Nat) : Int) = p0.toInt) ∨ (¬ (0 ≤ p0.toInt ∧ p0.toInt ≤ 4) ∧ ((i : Nat) : Int) = 5))) (fun _ H => H = h0)) 0 0 (xA E) := by
  refine x_enter (by decide) (Nat.le_of_ble_eq_true rfl) ?_
  intro p e s m args below meth c Q S hr hlk hnm hQ hP ls hl
  obtain ⟨⟨hz, hK, hT⟩, hh⟩ := hP
  obtain ⟨hx, hb, -, -, -⟩ := id S
  have hS : va_S (xA E) s.heap s.heap [] := va_S.rf
  have hl : lv_has ls 1 [(0, .int p0)] := hl
  refine lv_iload_n hx hb dX10_wordOf_0 rfl (lv_at hl 0 rfl) ?_
  rcases ((z_X10_wordOf_1 p0.toInt) : (p0.toInt < 0 ∨ 4 < p0.toInt) ∨ (p0.toInt = 0) ∨ (p0.toInt = 1) ∨ (p0.toInt = 2) ∨ (p0.toInt = 3) ∨ (p0.toInt = 4)) with c1 | c1 | c1 | c1 | c1 | c1
  · refine lv_tableOut (tgt := 56) hx hb dX10_wordOf_1 c1 (by decide) ?_
    refine x_ldcSw hx hb S.2.2.2.1 (hK.2.2.1 5 ("LateRules", 384, "tree") rfl) dX10_wordOf_56 ?_
    exact x_ra hx hb hr (by first | exact Or.inl ⟨_, rfl⟩ | exact Or.inr ⟨_, rfl⟩) (by first | exact Or.inl rfl | exact Or.inr ⟨_, rfl⟩) hlk hQ (Nat.le_of_ble_eq_true rfl) (Nat.le_of_ble_eq_true rfl) hS dX10_wordOf_59 () ⟨5, by decide, rfl, (z_X10_wordOf_2 p0.toInt c1)⟩ hh
  · refine lv_tableIn (off := 35) (tgt := 36) hx hb dX10_wordOf_1 (by rw [c1]; decide) (by rw [c1]; decide) (by rw [c1]; rfl) (by decide) ?_
    refine x_ldcSw hx hb S.2.2.2.1 (hK.2.2.1 0 ("LateRules", 374, "unique") rfl) dX10_wordOf_36 ?_
    exact x_ra hx hb hr (by first | exact Or.inl ⟨_, rfl⟩ | exact Or.inr ⟨_, rfl⟩) (by first | exact Or.inl rfl | exact Or.inr ⟨_, rfl⟩) hlk hQ (Nat.le_of_ble_eq_true rfl) (Nat.le_of_ble_eq_true rfl) hS dX10_wordOf_39 () ⟨0, by decide, rfl, (z_X10_wordOf_3 p0.toInt c1)⟩ hh
  · refine lv_tableIn (off := 39) (tgt := 40) hx hb dX10_wordOf_1 (by rw [c1]; decide) (by rw [c1]; decide) (by rw [c1]; rfl) (by decide) ?_
    refine x_ldcSw hx hb S.2.2.2.1 (hK.2.2.1 1 ("LateRules", 376, "refers") rfl) dX10_wordOf_40 ?_
    exact x_ra hx hb hr (by first | exact Or.inl ⟨_, rfl⟩ | exact Or.inr ⟨_, rfl⟩) (by first | exact Or.inl rfl | exact Or.inr ⟨_, rfl⟩) hlk hQ (Nat.le_of_ble_eq_true rfl) (Nat.le_of_ble_eq_true rfl) hS dX10_wordOf_43 () ⟨1, by decide, rfl, (z_X10_wordOf_4 p0.toInt c1)⟩ hh
  · refine lv_tableIn (off := 43) (tgt := 44) hx hb dX10_wordOf_1 (by rw [c1]; decide) (by rw [c1]; decide) (by rw [c1]; rfl) (by decide) ?_
    refine x_ldcSw hx hb S.2.2.2.1 (hK.2.2.1 2 ("LateRules", 378, "range") rfl) dX10_wordOf_44 ?_
    exact x_ra hx hb hr (by first | exact Or.inl ⟨_, rfl⟩ | exact Or.inr ⟨_, rfl⟩) (by first | exact Or.inl rfl | exact Or.inr ⟨_, rfl⟩) hlk hQ (Nat.le_of_ble_eq_true rfl) (Nat.le_of_ble_eq_true rfl) hS dX10_wordOf_47 () ⟨2, by decide, rfl, (z_X10_wordOf_5 p0.toInt c1)⟩ hh
  · refine lv_tableIn (off := 47) (tgt := 48) hx hb dX10_wordOf_1 (by rw [c1]; decide) (by rw [c1]; decide) (by rw [c1]; rfl) (by decide) ?_
    refine x_ldcSw hx hb S.2.2.2.1 (hK.2.2.1 3 ("LateRules", 380, "sum") rfl) dX10_wordOf_48 ?_
    exact x_ra hx hb hr (by first | exact Or.inl ⟨_, rfl⟩ | exact Or.inr ⟨_, rfl⟩) (by first | exact Or.inl rfl | exact Or.inr ⟨_, rfl⟩) hlk hQ (Nat.le_of_ble_eq_true rfl) (Nat.le_of_ble_eq_true rfl) hS dX10_wordOf_51 () ⟨3, by decide, rfl, (z_X10_wordOf_6 p0.toInt c1)⟩ hh
  · refine lv_tableIn (off := 51) (tgt := 52) hx hb dX10_wordOf_1 (by rw [c1]; decide) (by rw [c1]; decide) (by rw [c1]; rfl) (by decide) ?_
    refine x_ldcSw hx hb S.2.2.2.1 (hK.2.2.1 4 ("LateRules", 382, "count") rfl) dX10_wordOf_52 ?_
    exact x_ra hx hb hr (by first | exact Or.inl ⟨_, rfl⟩ | exact Or.inr ⟨_, rfl⟩) (by first | exact Or.inl rfl | exact Or.inr ⟨_, rfl⟩) hlk hQ (Nat.le_of_ble_eq_true rfl) (Nat.le_of_ble_eq_true rfl) hS dX10_wordOf_55 () ⟨4, by decide, rfl, (z_X10_wordOf_7 p0.toInt c1)⟩ hh

abbrev rm_X10_tellVerdict : Room := { frames := 7, cells := 7, slots := 700, locals := 171 }
set_option maxHeartbeats 4000000 in
set_option maxRecDepth 100000 in
theorem c_X10_tellVerdict (l : Launch) (E : XE) (K : Nat → Nat) (F : Nat → Nat → Nat) (G : XG) (a : Nat) (p0 : Nat) (p1 : Int32) (ha : K a = 12) (hp0 : K p0 = 6) : Met l yX10_tellVerdict (xw yX10_tellVerdict cX10_tellVerdict 4 none) rm_X10_tellVerdict (va_Pc [.ref a, .ref p0, .int p1] (XP E K F G)) (XQv E (fun (u : XG) => XFr [(F a 14, 1), (F a 14, 2), (F a 14, 3)] [] [] G u) (fun u H => TW E K F u H)) 7 700 (xA E) := by
  refine x_enter (by decide) (Nat.le_of_ble_eq_true rfl) ?_
  intro p e s m args below meth c Q S hr hlk hnm hQ hP ls hl
  obtain ⟨hz, hK, hT⟩ := hP
  obtain ⟨hx, hb, -, -, -⟩ := id S
  obtain ⟨H, hT, hS, hgo⟩ : ∃ H : Heap, TW E K F G H ∧ va_S (xA E) s.heap H [] ∧ H = s.heap := ⟨_, hT, va_S.rf, rfl⟩
  rw [← hgo]
  have hl : lv_has ls 4 [(0, .ref a), (1, .ref p0), (2, .int p1)] := hl
  obtain ⟨hk9999, hj9999⟩ := fkX10_14 hT ha
  refine lv_aload_n hx hb dX10_tellVerdict_0 rfl (lv_at hl 0 rfl) ?_
  obtain ⟨hk1, hj1⟩ := fkX10_2 hT ha
  refine gX10_2 S hK hT ha kf_X10_30 dX10_tellVerdict_1 (fun _ _ => ?_)
  refine lv_aload_n hx hb dX10_tellVerdict_4 rfl (lv_at hl 1 rfl) ?_
  refine lv_iload_n hx hb dX10_tellVerdict_5 rfl (lv_at hl 2 rfl) ?_
  refine x_clp (x_runV (b := p0) (As := [.int p1]) (rest := [.ref (F a 2)]) S (c_X4_number l E K F G H p0 p1 hp0) mv_X4_number km_X10_301 rfl rfl ⟨Nat.le_of_ble_eq_true rfl, Nat.le_of_ble_eq_true rfl⟩ (rc_6 hK hT hp0) hK (fun _ => XPh.blind) (fun U hU hW => XPh.at hK hz hS hT hU hW) rfl hl.1 (Nat.le_of_ble_eq_true rfl) dX10_tellVerdict_6 ⟨Nat.le_of_ble_eq_true rfl, Nat.le_of_ble_eq_true rfl⟩) hS ?_
  rintro _ _ locs ⟨x6, rfl, t6⟩ hS
  obtain ⟨hk6, hj6⟩ := fkX4_0 hT hp0
  have t6 : ((0 ≤ p1.toInt ∧ p1.toInt < ((G.1 p0 6).toInt) ∧ p1.toInt < 1080) ∧ x6.toInt = (aI (G.2.1 (F p0 0)) (p1.toInt))) ∨ (¬ (0 ≤ p1.toInt ∧ p1.toInt < ((G.1 p0 6).toInt) ∧ p1.toInt < 1080) ∧ x6.toInt = -1) := t6
  refine x_clp (x_runV (b := (F a 2)) (As := [.int x6]) (rest := []) S (c_X0_get l E K F G H (F a 2) x6 hk1) mv_X0_get km_X10_159 rfl rfl ⟨Nat.le_of_ble_eq_true rfl, Nat.le_of_ble_eq_true rfl⟩ (rc_2 hK hT hk1) hK (fun _ => XPh.blind) (fun U hU hW => XPh.at hK hz hS hT hU hW) rfl hl.1 (Nat.le_of_ble_eq_true rfl) dX10_tellVerdict_9 ⟨Nat.le_of_ble_eq_true rfl, Nat.le_of_ble_eq_true rfl⟩) hS ?_
  rintro _ _ locs (⟨rfl, hn9⟩ | ⟨q9, rfl, hk9, ht9, hs9⟩) hS
  · refine lv_astore_nN (lv' := [(3, .null), (0, .ref a), (1, .ref p0), (2, .int p1)]) hx hb dX10_tellVerdict_12 rfl hl (by decide) rfl (fun ls hl => ?_)
    refine lv_aload_nN hx hb dX10_tellVerdict_13 rfl (lv_at hl 0 rfl) ?_
    refine lv_ifnullN (tgt := 40) hx hb dX10_tellVerdict_14 (by decide) ?_
    exact x_rv hx hb hr hlk hQ (Nat.le_of_ble_eq_true rfl) (Nat.le_of_ble_eq_true rfl) hS dX10_tellVerdict_40 G XFr.rf hT
  · have ht9 : 0 ≤ x6.toInt ∧ x6.toInt < 12 := ht9
    refine lv_astore_n (lv' := [(3, .ref q9), (0, .ref a), (1, .ref p0), (2, .int p1)]) hx hb dX10_tellVerdict_12 rfl hl (by decide) rfl (fun ls hl => ?_)
    refine lv_aload_n hx hb dX10_tellVerdict_13 rfl (lv_at hl 0 rfl) ?_
    refine lv_ifnull hx hb dX10_tellVerdict_14 ?_
    refine lv_aload_n hx hb dX10_tellVerdict_17 rfl (lv_at hl 1 rfl) ?_
    refine gX10_14 S hK hT ha kf_X10_91 dX10_tellVerdict_18 (fun _ _ => ?_)
    refine lv_aload_n hx hb dX10_tellVerdict_21 rfl (lv_at hl 0 rfl) ?_
    refine gX7_1 S hK hT hk9 kf_X10_130 dX10_tellVerdict_22 (v := (G.1 q9 1)) rfl (?_)
    refine lv_aload_n hx hb dX10_tellVerdict_25 rfl (lv_at hl 0 rfl) ?_
    refine gX7_0 S hK hT hk9 kf_X10_140 dX10_tellVerdict_26 (v := (G.1 q9 0)) rfl (?_)
    refine x_clp (x_runS (As := [.int (G.1 q9 0)]) (rest := [.int (G.1 q9 1), .ref (F a 14)]) S (c_X10_wordOf l E K F G H (G.1 q9 0)) ms_X10_wordOf km_X10_143 rfl rfl ⟨Nat.le_of_ble_eq_true rfl, Nat.le_of_ble_eq_true rfl⟩ hK (fun _ => XPh.blind) (fun U hU hW => XPh.at hK hz hS hT hU hW) rfl hl.1 (Nat.le_of_ble_eq_true rfl) dX10_tellVerdict_29 ⟨Nat.le_of_ble_eq_true rfl, Nat.le_of_ble_eq_true rfl⟩) hS ?_
    rintro _ _ locs ⟨q29, hi29, rfl, hw29⟩ hS
    refine lv_aload_n hx hb dX10_tellVerdict_32 rfl (lv_at hl 2 rfl) ?_
    refine lv_iload_n hx hb dX10_tellVerdict_33 rfl (lv_at hl 3 rfl) ?_
    refine x_clp (x_runV (b := p0) (As := [.int p1]) (rest := [.ref (E.2.2.2.2.1 q29), .int (G.1 q9 1), .ref (F a 14)]) S (c_X4_subject l E K F G H p0 p1 hp0) mv_X4_subject km_X10_147 rfl rfl ⟨Nat.le_of_ble_eq_true rfl, Nat.le_of_ble_eq_true rfl⟩ (rc_6 hK hT hp0) hK (fun _ => XPh.blind) (fun U hU hW => XPh.at hK hz hS hT hU hW) rfl hl.1 (Nat.le_of_ble_eq_true rfl) dX10_tellVerdict_34 ⟨Nat.le_of_ble_eq_true rfl, Nat.le_of_ble_eq_true rfl⟩) hS ?_
    rintro _ _ locs ⟨x34, rfl, t34⟩ hS
    obtain ⟨hk34, hj34⟩ := fkX4_1 hT hp0
    have t34 : ((0 ≤ p1.toInt ∧ p1.toInt < ((G.1 p0 6).toInt) ∧ p1.toInt < 1080) ∧ x34.toInt = (aI (G.2.1 (F p0 1)) (p1.toInt))) ∨ (¬ (0 ≤ p1.toInt ∧ p1.toInt < ((G.1 p0 6).toInt) ∧ p1.toInt < 1080) ∧ x34.toInt = -1) := t34
    refine x_cv (x_runV (b := (F a 14)) (As := [.int (G.1 q9 1), .ref (E.2.2.2.2.1 q29), .int x34]) (rest := []) S (c_X9_tell l E K F G (F a 14) (G.1 q9 1) q29 x34 hk9999 (Nat.lt_of_lt_of_le hi29 (by decide)) (xlen6 hi29)) mv_X9_tell km_X10_151 rfl rfl ⟨Nat.le_of_ble_eq_true rfl, Nat.le_of_ble_eq_true rfl⟩ (rc_11 hK hT hk9999) hK (fun _ => XP.blind) (fun U hU hW => XP.at hK hz hS hT hU hW) rfl hl.1 (Nat.le_of_ble_eq_true rfl) dX10_tellVerdict_37 ⟨Nat.le_of_ble_eq_true rfl, Nat.le_of_ble_eq_true rfl⟩) hS ?_
    rintro G37 H locs ⟨hF37, t37⟩ hT hS
    have t37 : ((G37.1 (F a 14) 1).toInt) = 1 ∧ ((G37.1 (F a 14) 2).toInt) = ((G.1 q9 1).toInt) ∧ ((G37.1 (F a 14) 3).toInt) = x34.toInt := t37
    exact x_rv hx hb hr hlk hQ (Nat.le_of_ble_eq_true rfl) (Nat.le_of_ble_eq_true rfl) hS dX10_tellVerdict_40 G37 (XFr.call XFr.rf hF37 (xm1 0 rfl (xm1 1 rfl (xm1 2 rfl xm0))) xm0 xm0) hT

theorem z_X10_askAtOnce_1 (a0 : Int) (h0 : -2147483648 ≤ a0 ∧ a0 < 2147483648) : ¬ (2147483648 - a0 < ((0 : Nat) : Int)) := by omega
theorem z_X10_askAtOnce_2 (a0 : Int) (a1 : Int) (a2 : Int) (h0 : 0 ≤ a2 ∧ a2 ≤ 1080) (h1 : 0 ≤ a0 ∧ a0 ≤ a2) (h2 : a1 = (a0 + 1) ∨ (a0 + 1) < -2147483648 ∨ 2147483648 ≤ (a0 + 1)) : a1 = (a0 + 1) := by omega
theorem z_X10_askAtOnce_3 (a0 : Int) (a1 : Int) (h0 : 0 ≤ a0 ∧ a0 ≤ a1) (h1 : ¬ (a1 ≤ a0)) : 0 ≤ (a0 + 1) ∧ (a0 + 1) ≤ a1 := by omega
theorem z_X10_askAtOnce_4 (a0 : Int) (a1 : Int) (h0 : 0 ≤ a0 ∧ a0 ≤ a1) : (0 : Int) ≤ (a0 + 1) := by omega
theorem z_X10_askAtOnce_5 (a0 : Int) (a1 : Nat) (h0 : 2147483648 - a0 < ((a1 + 1 : Nat) : Int)) : 2147483648 - (a0 + 1) < ((a1 : Nat) : Int) := by omega
theorem z_X10_askAtOnce_10 (a0 : Int) (h0 : 0 ≤ a0 ∧ a0 ≤ 1080) : 0 ≤ (0 : Int) ∧ (0 : Int) ≤ a0 := by omega
abbrev rm_X10_askAtOnce : Room := { frames := 8, cells := 7, slots := 700, locals := 194 }
set_option maxHeartbeats 4000000 in
set_option maxRecDepth 100000 in
theorem c_X10_askAtOnce (l : Launch) (E : XE) (K : Nat → Nat) (F : Nat → Nat → Nat) (G : XG) (a : Nat) (ha : K a = 12) (s0 : 0 ≤ ((G.1 (F a 9) 6).toInt) ∧ ((G.1 (F a 9) 6).toInt) ≤ 1080) : Met l yX10_askAtOnce (xw yX10_askAtOnce cX10_askAtOnce 2 (some .boolean)) rm_X10_askAtOnce (va_Pc [.ref a] (XP E K F G)) (XQ E (fun v (u : XG) => ∃ r : Int32, v = .int r ∧ (r = 0 ∨ r = 1) ∧ XFr [(F a 14, 1), (F a 14, 2), (F a 14, 3)] [F a 16] [] G u ∧ ((r.toInt = 1 ∧ ∀ x, x ∈ qL G F (F a 9) → x.2.2.2.2.1 = 0 → x.2.2.2.2.2 = 0) ∨ (r.toInt = 0 ∧ ∃ x, x ∈ qL G F (F a 9) ∧ x.2.2.2.2.1 = 0 ∧ x.2.2.2.2.2 ≠ 0))) (fun u H => TW E K F u H)) 7 700 (xA E) := by
  refine x_enter (by decide) (Nat.le_of_ble_eq_true rfl) ?_
  intro p e s m args below meth c Q S hr hlk hnm hQ hP ls hl
  obtain ⟨hz, hK, hT⟩ := hP
  obtain ⟨hx, hb, -, -, -⟩ := id S
  obtain ⟨H, hT, hS, hgo⟩ : ∃ H : Heap, TW E K F G H ∧ va_S (xA E) s.heap H [] ∧ H = s.heap := ⟨_, hT, va_S.rf, rfl⟩
  rw [← hgo]
  have hl : lv_has ls 2 [(0, .ref a)] := hl
  obtain ⟨hk9999, hj9999⟩ := fkX10_14 hT ha
  obtain ⟨hk9999a, hj9999a⟩ := fkX10_16 hT ha
  obtain ⟨hk9999b, hj9999b⟩ := fkX10_9 hT ha
  obtain ⟨hk9999c, hj9999c⟩ := fkX4_4 hT hk9999b
  have hj9999d : F (F (F a 9) 4) 99 = 10 * 1 + 4 := by rw [hj9999c, hj9999b]
  obtain ⟨hk9999d, hj9999e⟩ := fkX4_5 hT hk9999b
  have hj9999f : F (F (F a 9) 5) 99 = 10 * 1 + 5 := by rw [hj9999e, hj9999b]
  refine lv_iconst (v := 0) hx hb dX10_askAtOnce_0 (by decide) ?_
  refine lv_istore_n (lv' := [(1, .int 0), (0, .ref a)]) hx hb dX10_askAtOnce_1 rfl hl (by decide) rfl (fun ls hl => ?_)
  have L2 : ∀ (N2 : Nat) (l1_2 : Int32) (G_2 : XG) (H : Heap) (locs : List Loc) (ls : Array Slot), XFr [] [F a 16] [] G G_2 → (∀ j : Int, 0 ≤ j → j < l1_2.toInt → aI (G.2.1 (F (F a 9) 4)) j = 0 → aI (G.2.1 (F (F a 9) 5)) j = 0) → 0 ≤ l1_2.toInt ∧ l1_2.toInt ≤ ((G.1 (F a 9) 6).toInt) → (0 : Int) ≤ l1_2.toInt → 2147483648 - l1_2.toInt < ((N2 : Nat) : Int) → TW E K F G_2 H → va_S (xA E) s.heap H locs → lv_has ls 2 [(0, .ref a), (1, .int l1_2)] → W p l e rm_X10_askAtOnce s m args below meth c H locs 0 0 Q (F0 m 2 ls []) := by
    intro N2
    induction N2 with
    | zero =>
      intro l1_2 G_2 H locs ls hF_2 pa I2_0 I2_1 hm2
      exact absurd hm2 (z_X10_askAtOnce_1 l1_2.toInt (xr l1_2))
    | succ N2 ih2 =>
      intro l1_2 G_2 H locs ls hF_2 pa I2_0 I2_1 hm2 hT hS hl
      refine lv_iload_n hx hb dX10_askAtOnce_2 rfl (lv_at hl 1 rfl) ?_
      refine lv_aload_n hx hb dX10_askAtOnce_3 rfl (lv_at hl 0 rfl) ?_
      refine gX10_9 S hK hT ha kf_X10_61 dX10_askAtOnce_4 (fun _ _ => ?_)
      refine x_clp (x_runV (b := (F a 9)) (As := []) (rest := [.int l1_2]) S (c_X4_size l E K F G_2 H (F a 9) hk9999b) mv_X4_size km_X10_232 rfl rfl ⟨Nat.le_of_ble_eq_true rfl, Nat.le_of_ble_eq_true rfl⟩ (rc_6 hK hT hk9999b) hK (fun _ => XPh.blind) (fun U hU hW => XPh.at hK hz hS hT hU hW) rfl hl.1 (Nat.le_of_ble_eq_true rfl) dX10_askAtOnce_7 ⟨Nat.le_of_ble_eq_true rfl, Nat.le_of_ble_eq_true rfl⟩) hS ?_
      rintro _ _ locs ⟨x7, rfl, t7⟩ hS
      have t7 : x7.toInt = ((G.1 (F a 9) 6).toInt) := by rw [(show (G_2.1 (F a 9) 6).toInt = ((G.1 (F a 9) 6).toInt) from (congrArg Int32.toInt (hF_2.1 _ _ xn0)).trans (rfl : Int32.toInt (G.1 (F a 9) 6) = ((G.1 (F a 9) 6).toInt)))] at t7; exact t7
      refine xi_cge (tgt := 65) hx hb (rfl : Int32.toInt l1_2 = l1_2.toInt) (t7 : Int32.toInt x7 = ((G.1 (F a 9) 6).toInt)) dX10_askAtOnce_10 (by decide) (fun c10 => ?_) (fun c10 => ?_)
      · refine lv_iconst (v := 1) hx hb dX10_askAtOnce_65 (by decide) ?_
        exact x_rz hx hb hr (xnz (Or.inr rfl)) hlk hQ (Nat.le_of_ble_eq_true rfl) (Nat.le_of_ble_eq_true rfl) hS dX10_askAtOnce_66 G_2 ⟨_, rfl, (Or.inr rfl), (XFr.call XFr.rf hF_2 xm0 (xm1 0 rfl xm0) xm0), (v_X10_askAtOnce_66_1 (K := K) (F := F) a G l1_2 N2 ha pa s0 I2_0 I2_1 hm2 c10)⟩ hT
      · refine lv_aload_n hx hb dX10_askAtOnce_13 rfl (lv_at hl 0 rfl) ?_
        refine gX10_9 S hK hT ha kf_X10_61 dX10_askAtOnce_14 (fun _ _ => ?_)
        refine lv_iload_n hx hb dX10_askAtOnce_17 rfl (lv_at hl 1 rfl) ?_
        refine x_clp (x_runV (b := (F a 9)) (As := [.int l1_2]) (rest := []) S (c_X4_isLate l E K F G_2 H (F a 9) l1_2 hk9999b) mv_X4_isLate km_X10_404 rfl rfl ⟨Nat.le_of_ble_eq_true rfl, Nat.le_of_ble_eq_true rfl⟩ (rc_6 hK hT hk9999b) hK (fun _ => XPh.blind) (fun U hU hW => XPh.at hK hz hS hT hU hW) rfl hl.1 (Nat.le_of_ble_eq_true rfl) dX10_askAtOnce_18 ⟨Nat.le_of_ble_eq_true rfl, Nat.le_of_ble_eq_true rfl⟩) hS ?_
        rintro _ _ locs ⟨x18, rfl, b18, t18⟩ hS
        have t18 : ((0 ≤ l1_2.toInt ∧ l1_2.toInt < ((G.1 (F a 9) 6).toInt) ∧ l1_2.toInt < 1080) ∧ x18.toInt = (aI (G.2.1 (F (F a 9) 4)) (l1_2.toInt))) ∨ (¬ (0 ≤ l1_2.toInt ∧ l1_2.toInt < ((G.1 (F a 9) 6).toInt) ∧ l1_2.toInt < 1080) ∧ x18.toInt = 0) := by rw [(show (G_2.1 (F a 9) 6).toInt = ((G.1 (F a 9) 6).toInt) from (congrArg Int32.toInt (hF_2.1 _ _ xn0)).trans (rfl : Int32.toInt (G.1 (F a 9) 6) = ((G.1 (F a 9) 6).toInt)))] at t18; rw [(show G_2.2.1 (F (F a 9) 4) = G.2.1 (F (F a 9) 4) from (hF_2.2.1 _ (xn1 (xne_k hk9999c hk9999a (by decide)) xn0)))] at t18; exact t18
        refine xi_zeq (tgt := 27) hx hb (rfl : Int32.toInt x18 = x18.toInt) dX10_askAtOnce_21 (by decide) (fun c21 => ?_) (fun c21 => ?_)
        · refine lv_aload_n hx hb dX10_askAtOnce_27 rfl (lv_at hl 0 rfl) ?_
          refine gX10_16 S hK hT ha kf_X10_99 dX10_askAtOnce_28 (fun _ _ => ?_)
          refine lv_iconst (v := 0) hx hb dX10_askAtOnce_31 (by decide) ?_
          refine lv_dup2_11 hx hb dX10_askAtOnce_32 rfl rfl ?_
          refine al_0 S hK hT hk9999a ar_27 (by decide) (by decide) dX10_askAtOnce_33 (fun x33 hv33 o33 => ?_)
          have hv33 : x33.toInt = (aI (G_2.2.1 (F a 16)) 0) := hv33.trans (by rw [((by decide) : Int32.toInt 0 = (0 : Int))])
          refine lv_iconst (v := 1) hx hb dX10_askAtOnce_34 (by decide) ?_
          refine xi_iadd hx hb (hv33 : Int32.toInt x33 = (aI (G_2.2.1 (F a 16)) 0)) ((by decide) : Int32.toInt 1 = (1 : Int)) dX10_askAtOnce_35 (fun x35 t35 => ?_)
          refine as_0 (x := x35) S hK hT hS hk9999a ar_27 aw_27 (by decide) (by decide) dX10_askAtOnce_36 (fun H locs hT hS => ?_)
          obtain ⟨G36, hG36⟩ : ∃ GG : XG, GG = cput G_2 (F a 16) (0 : Int32).toNatClampNeg x35 := ⟨_, rfl⟩
          rw [← hG36] at hT
          refine lv_aload_n hx hb dX10_askAtOnce_37 rfl (lv_at hl 0 rfl) ?_
          refine gX10_9 S hK hT ha kf_X10_61 dX10_askAtOnce_38 (fun _ _ => ?_)
          refine lv_iload_n hx hb dX10_askAtOnce_41 rfl (lv_at hl 1 rfl) ?_
          refine x_clp (x_runV (b := (F a 9)) (As := [.int l1_2]) (rest := []) S (c_X4_fails l E K F G36 H (F a 9) l1_2 hk9999b) mv_X4_fails km_X10_309 rfl rfl ⟨Nat.le_of_ble_eq_true rfl, Nat.le_of_ble_eq_true rfl⟩ (rc_6 hK hT hk9999b) hK (fun _ => XPh.blind) (fun U hU hW => XPh.at hK hz hS hT hU hW) rfl hl.1 (Nat.le_of_ble_eq_true rfl) dX10_askAtOnce_42 ⟨Nat.le_of_ble_eq_true rfl, Nat.le_of_ble_eq_true rfl⟩) hS ?_
          rintro _ _ locs ⟨x42, rfl, b42, t42⟩ hS
          have t42 : ((0 ≤ l1_2.toInt ∧ l1_2.toInt < ((G.1 (F a 9) 6).toInt) ∧ l1_2.toInt < 1080) ∧ x42.toInt = (aI (G.2.1 (F (F a 9) 5)) (l1_2.toInt))) ∨ (¬ (0 ≤ l1_2.toInt ∧ l1_2.toInt < ((G.1 (F a 9) 6).toInt) ∧ l1_2.toInt < 1080) ∧ x42.toInt = 0) := by rw [(show (G36.1 (F a 9) 6).toInt = ((G.1 (F a 9) 6).toInt) from (congrArg Int32.toInt ((lc_d hG36).trans (hF_2.1 _ _ xn0))).trans (rfl : Int32.toInt (G.1 (F a 9) 6) = ((G.1 (F a 9) 6).toInt)))] at t42; rw [(show G36.2.1 (F (F a 9) 5) = G.2.1 (F (F a 9) 5) from ((lc_c hG36 (xne_k hk9999d hk9999a (by decide))).trans (hF_2.2.1 _ (xn1 (xne_k hk9999d hk9999a (by decide)) xn0))))] at t42; exact t42
          refine xi_zeq (tgt := 59) hx hb (rfl : Int32.toInt x42 = x42.toInt) dX10_askAtOnce_45 (by decide) (fun c45 => ?_) (fun c45 => ?_)
          · refine xi_iinc (n := 1) (lv' := fun z9 => [(1, .int z9), (0, .ref a)]) (k := 1) hx hb (rfl : Int32.toInt l1_2 = l1_2.toInt) (by decide) dX10_askAtOnce_59 hl rfl (by decide) (fun _ => rfl) (fun x59 ls t59 hl => ?_)
            have e59 : x59.toInt = (l1_2.toInt + 1) := (z_X10_askAtOnce_2 l1_2.toInt x59.toInt ((G.1 (F a 9) 6).toInt) s0 I2_0 t59)
            have hl : lv_has ls 2 [(1, .int x59), (0, .ref a)] := hl
            refine lv_goto (tgt := 2) hx hb dX10_askAtOnce_62 (by decide) ?_
            exact ih2 x59 G36 _ _ _ (by rw [hG36]; exact XFr.cput (XFr.call XFr.rf hF_2 xm0 (xm1 0 rfl xm0) xm0) (List.mem_of_getElem? (i := 0) rfl)) (by rw [(e59 : Int32.toInt x59 = (l1_2.toInt + 1))] <;> exact (v_X10_askAtOnce_62_2 (K := K) (F := F) a G l1_2 N2 x18 x42 ha pa s0 I2_0 I2_1 hm2 c10 t18 (xzi b18) c21 t42 (xzi b42) c45)) (by rw [(e59 : Int32.toInt x59 = (l1_2.toInt + 1))] <;> exact (z_X10_askAtOnce_3 l1_2.toInt ((G.1 (F a 9) 6).toInt) I2_0 c10)) (by rw [(e59 : Int32.toInt x59 = (l1_2.toInt + 1))] <;> exact (z_X10_askAtOnce_4 l1_2.toInt ((G.1 (F a 9) 6).toInt) I2_0)) (by rw [(e59 : Int32.toInt x59 = (l1_2.toInt + 1))] <;> exact (z_X10_askAtOnce_5 l1_2.toInt N2 hm2)) hT hS (lv_sub hl [1, 0] rfl)
          · refine lv_aload_n hx hb dX10_askAtOnce_48 rfl (lv_at hl 0 rfl) ?_
            refine lv_aload_n hx hb dX10_askAtOnce_49 rfl (lv_at hl 0 rfl) ?_
            refine gX10_9 S hK hT ha kf_X10_61 dX10_askAtOnce_50 (fun _ _ => ?_)
            refine lv_iload_n hx hb dX10_askAtOnce_53 rfl (lv_at hl 1 rfl) ?_
            refine x_cv (x_runV (b := a) (As := [.ref (F a 9), .int l1_2]) (rest := []) S (c_X10_tellVerdict l E K F G36 a (F a 9) l1_2 ha hk9999b) mv_X10_tellVerdict km_X10_247 rfl rfl ⟨Nat.le_of_ble_eq_true rfl, Nat.le_of_ble_eq_true rfl⟩ (rc_12 hK hT ha) hK (fun _ => XP.blind) (fun U hU hW => XP.at hK hz hS hT hU hW) rfl hl.1 (Nat.le_of_ble_eq_true rfl) dX10_askAtOnce_54 ⟨Nat.le_of_ble_eq_true rfl, Nat.le_of_ble_eq_true rfl⟩) hS ?_
            rintro G54 H locs hF54 hT hS
            refine lv_iconst (v := 0) hx hb dX10_askAtOnce_57 (by decide) ?_
            exact x_rz hx hb hr (xnz (Or.inl rfl)) hlk hQ (Nat.le_of_ble_eq_true rfl) (Nat.le_of_ble_eq_true rfl) hS dX10_askAtOnce_58 G54 ⟨_, rfl, (Or.inl rfl), (XFr.call (by rw [hG36]; exact XFr.cput (XFr.call XFr.rf hF_2 xm0 (xm1 0 rfl xm0) xm0) (List.mem_of_getElem? (i := 0) rfl)) hF54 (xm1 0 rfl (xm1 1 rfl (xm1 2 rfl xm0))) xm0 xm0), (v_X10_askAtOnce_58_3 (K := K) (F := F) a G l1_2 N2 x18 x42 ha pa s0 I2_0 I2_1 hm2 c10 t18 (xzi b18) c21 t42 (xzi b42) c45)⟩ hT
        · refine lv_goto (tgt := 59) hx hb dX10_askAtOnce_24 (by decide) ?_
          refine xi_iinc (n := 1) (lv' := fun z9 => [(1, .int z9), (0, .ref a)]) (k := 1) hx hb (rfl : Int32.toInt l1_2 = l1_2.toInt) (by decide) dX10_askAtOnce_59 hl rfl (by decide) (fun _ => rfl) (fun x59 ls t59 hl => ?_)
          have e59 : x59.toInt = (l1_2.toInt + 1) := (z_X10_askAtOnce_2 l1_2.toInt x59.toInt ((G.1 (F a 9) 6).toInt) s0 I2_0 t59)
          have hl : lv_has ls 2 [(1, .int x59), (0, .ref a)] := hl
          refine lv_goto (tgt := 2) hx hb dX10_askAtOnce_62 (by decide) ?_
          exact ih2 x59 G_2 _ _ _ (XFr.call XFr.rf hF_2 xm0 (xm1 0 rfl xm0) xm0) (by rw [(e59 : Int32.toInt x59 = (l1_2.toInt + 1))] <;> exact (v_X10_askAtOnce_62_4 (K := K) (F := F) a G l1_2 N2 x18 ha pa s0 I2_0 I2_1 hm2 c10 t18 (xzi b18) c21)) (by rw [(e59 : Int32.toInt x59 = (l1_2.toInt + 1))] <;> exact (z_X10_askAtOnce_3 l1_2.toInt ((G.1 (F a 9) 6).toInt) I2_0 c10)) (by rw [(e59 : Int32.toInt x59 = (l1_2.toInt + 1))] <;> exact (z_X10_askAtOnce_4 l1_2.toInt ((G.1 (F a 9) 6).toInt) I2_0)) (by rw [(e59 : Int32.toInt x59 = (l1_2.toInt + 1))] <;> exact (z_X10_askAtOnce_5 l1_2.toInt N2 hm2)) hT hS (lv_sub hl [1, 0] rfl)
  exact L2 4294967297 0 G _ _ _ XFr.rf (v_X10_askAtOnce_1_5 (K := K) (F := F) a G ha s0) (z_X10_askAtOnce_10 ((G.1 (F a 9) 6).toInt) s0) (by decide) (by decide) hT hS (lv_sub hl [1, 0] rfl)

theorem z_X10_askToCommit_2 (a0 : Int) (a1 : Int) (a2 : Int) (h0 : 0 ≤ a1 ∧ a1 ≤ 1080) (h1 : 0 ≤ a0 ∧ a0 ≤ a1) (h2 : 0 ≤ a2 ∧ a2 ≤ a0) : 0 ≤ a2 ∧ a2 ≤ 1080 := by omega
theorem z_X10_askToCommit_3 (a0 : Int) (a1 : Int) (a2 : Int) (h0 : 0 ≤ a1 ∧ a1 ≤ 1080) (h1 : 0 ≤ a2 ∧ a2 ≤ a0) (h2 : ¬ (a1 ≤ a0)) : 0 ≤ a2 ∧ a2 < 1080 := by omega
theorem z_X10_askToCommit_4 (a0 : Int) (a1 : Int) (h0 : 0 ≤ a1 ∧ a1 ≤ 1080) (h1 : 0 ≤ a0 ∧ a0 ≤ a1) (h2 : ¬ (a1 ≤ a0)) : 0 ≤ a0 ∧ a0 < a1 ∧ a1 ≤ 1080 := by omega
theorem z_X10_askToCommit_7 (a0 : Int) (a1 : Int) (a2 : Int) (h0 : 0 ≤ a2 ∧ a2 ≤ a0) (h1 : a1 = a2 + 1) : 0 ≤ a1 ∧ a1 ≤ (a0 + 1) := by omega
theorem z_X10_askToCommit_10 (a0 : Int) (a1 : Int) (a2 : Int) (a3 : Int) (h0 : 0 ≤ a1 ∧ a1 ≤ 1080) (h1 : 0 ≤ a3 ∧ a3 ≤ a0) (h2 : ¬ (a1 ≤ a0)) (h3 : a2 = a3 + 1) : 0 ≤ a2 ∧ a2 ≤ 1080 := by omega
theorem z_X10_askToCommit_13 (a0 : Int) (a1 : Int) (h0 : 0 ≤ a1 ∧ a1 ≤ a0) : 0 ≤ a1 ∧ a1 ≤ (a0 + 1) := by omega
theorem z_X10_askToCommit_17 (a0 : Int) (h0 : a0 = 0) : 0 ≤ a0 ∧ a0 ≤ (0 : Int) := by omega
abbrev rm_X10_askToCommit : Room := { frames := 8, cells := 7, slots := 700, locals := 194 }
set_option maxHeartbeats 4000000 in
set_option maxRecDepth 100000 in
theorem c_X10_askToCommit (l : Launch) (E : XE) (K : Nat → Nat) (F : Nat → Nat → Nat) (G : XG) (a : Nat) (p0 : Nat) (ha : K a = 12) (hp0 : K p0 = 6) (s0 : 0 ≤ ((G.1 p0 6).toInt) ∧ ((G.1 p0 6).toInt) ≤ 1080) (hn : F p0 99 ≠ 2) : Met l yX10_askToCommit (xw yX10_askToCommit cX10_askToCommit 3 (some .boolean)) rm_X10_askToCommit (va_Pc [.ref a, .ref p0] (XP E K F G)) (XQ E (fun v (u : XG) => ∃ r : Int32, v = .int r ∧ (r = 0 ∨ r = 1) ∧ XFr [(F a 14, 1), (F a 14, 2), (F a 14, 3), (F a 10, 6)] [F a 16, F (F a 10) 0, F (F a 10) 1, F (F a 10) 2, F (F a 10) 3, F (F a 10) 4, F (F a 10) 5] [] G u ∧ (0 ≤ ((u.1 (F a 10) 6).toInt) ∧ ((u.1 (F a 10) 6).toInt) ≤ 1080) ∧ ((r.toInt = 1 ∧ ∀ x, x ∈ qL G F p0 → x.2.2.2.2.1 ≠ 0 → x.2.2.2.2.2 = 0) ∨ (r.toInt = 0 ∧ ∃ x, x ∈ qL G F p0 ∧ x.2.2.2.2.1 ≠ 0 ∧ x.2.2.2.2.2 ≠ 0)) ∧ (AskR (qL G F p0) (qL u F (F a 10)) r.toInt)) (fun u H => TW E K F u H)) 7 700 (xA E) := by
  refine x_enter (by decide) (Nat.le_of_ble_eq_true rfl) ?_
  intro p e s m args below meth c Q S hr hlk hnm hQ hP ls hl
  obtain ⟨hz, hK, hT⟩ := hP
  obtain ⟨hx, hb, -, -, -⟩ := id S
  obtain ⟨H, hT, hS, hgo⟩ : ∃ H : Heap, TW E K F G H ∧ va_S (xA E) s.heap H [] ∧ H = s.heap := ⟨_, hT, va_S.rf, rfl⟩
  rw [← hgo]
  have hl : lv_has ls 3 [(0, .ref a), (1, .ref p0)] := hl
  obtain ⟨hk9999, hj9999⟩ := fkX10_14 hT ha
  obtain ⟨hk9999a, hj9999a⟩ := fkX10_10 hT ha
  obtain ⟨hk9999b, hj9999b⟩ := fkX10_16 hT ha
  obtain ⟨hk9999c, hj9999c⟩ := fkX4_0 hT hk9999a
  have hj9999d : F (F (F a 10) 0) 99 = 10 * 2 + 0 := by rw [hj9999c, hj9999a]
  obtain ⟨hk9999d, hj9999e⟩ := fkX4_1 hT hk9999a
  have hj9999f : F (F (F a 10) 1) 99 = 10 * 2 + 1 := by rw [hj9999e, hj9999a]
  obtain ⟨hk9999e, hj9999g⟩ := fkX4_2 hT hk9999a
  have hj9999h : F (F (F a 10) 2) 99 = 10 * 2 + 2 := by rw [hj9999g, hj9999a]
  obtain ⟨hk9999f, hj9999i⟩ := fkX4_3 hT hk9999a
  have hj9999j : F (F (F a 10) 3) 99 = 10 * 2 + 3 := by rw [hj9999i, hj9999a]
  obtain ⟨hk9999g, hj9999k⟩ := fkX4_4 hT hk9999a
  have hj9999l : F (F (F a 10) 4) 99 = 10 * 2 + 4 := by rw [hj9999k, hj9999a]
  obtain ⟨hk9999h, hj9999m⟩ := fkX4_5 hT hk9999a
  have hj9999n : F (F (F a 10) 5) 99 = 10 * 2 + 5 := by rw [hj9999m, hj9999a]
  obtain ⟨hk9999i, hj9999o⟩ := fkX4_0 hT hp0
  obtain ⟨hk9999j, hj9999p⟩ := fkX4_1 hT hp0
  obtain ⟨hk9999k, hj9999q⟩ := fkX4_2 hT hp0
  obtain ⟨hk9999l, hj9999r⟩ := fkX4_3 hT hp0
  obtain ⟨hk9999m, hj9999s⟩ := fkX4_4 hT hp0
  obtain ⟨hk9999n, hj9999t⟩ := fkX4_5 hT hp0
  refine lv_aload_n hx hb dX10_askToCommit_0 rfl (lv_at hl 0 rfl) ?_
  refine gX10_10 S hK hT ha kf_X10_64 dX10_askToCommit_1 (fun _ _ => ?_)
  refine x_cv0 (x_runV (b := (F a 10)) (As := []) (rest := []) S (c_X4_clear l E K F G (F a 10) hk9999a) mv_X4_clear km_X10_386 rfl rfl ⟨Nat.le_of_ble_eq_true rfl, Nat.le_of_ble_eq_true rfl⟩ (rc_6 hK hT hk9999a) hK (fun _ => XP.blind) (fun U hU hW => XP.at hK hz hS hT hU hW) rfl hl.1 (Nat.le_of_ble_eq_true rfl) dX10_askToCommit_4 ⟨Nat.le_of_ble_eq_true rfl, Nat.le_of_ble_eq_true rfl⟩) hS ?_
  rintro G4 H locs ⟨hF4, t4⟩ hT hS
  have t4 : ((G4.1 (F a 10) 6).toInt) = 0 := t4
  refine lv_iconst (v := 0) hx hb dX10_askToCommit_7 (by decide) ?_
  refine lv_istore_n (lv' := [(2, .int 0), (0, .ref a), (1, .ref p0)]) hx hb dX10_askToCommit_8 rfl hl (by decide) rfl (fun ls hl => ?_)
  have L9 : ∀ (N9 : Nat) (l2_9 : Int32) (G_9 : XG) (H : Heap) (locs : List Loc) (ls : Array Slot), XFr [(F a 10, 6)] [F a 16, F (F a 10) 0, F (F a 10) 1, F (F a 10) 2, F (F a 10) 3, F (F a 10) 4, F (F a 10) 5] [] G4 G_9 → (∀ j : Int, 0 ≤ j → j < l2_9.toInt → aI (G.2.1 (F p0 4)) j ≠ 0 → aI (G.2.1 (F p0 5)) j = 0) → qL G_9 F (F a 10) = ltF (qP G F p0 (l2_9.toInt).toNat) → 0 ≤ l2_9.toInt ∧ l2_9.toInt ≤ ((G.1 p0 6).toInt) → 0 ≤ ((G_9.1 (F a 10) 6).toInt) ∧ ((G_9.1 (F a 10) 6).toInt) ≤ l2_9.toInt → (0 : Int) ≤ l2_9.toInt → 2147483648 - l2_9.toInt < ((N9 : Nat) : Int) → TW E K F G_9 H → va_S (xA E) s.heap H locs → lv_has ls 3 [(0, .ref a), (1, .ref p0), (2, .int l2_9)] → W p l e rm_X10_askToCommit s m args below meth c H locs 0 0 Q (F0 m 9 ls []) := by
    intro N9
    induction N9 with
    | zero =>
      intro l2_9 G_9 H locs ls hF_9 pa pl I9_0 I9_1 I9_2 hm9
      exact absurd hm9 (z_X10_askAtOnce_1 l2_9.toInt (xr l2_9))
    | succ N9 ih9 =>
      intro l2_9 G_9 H locs ls hF_9 pa pl I9_0 I9_1 I9_2 hm9 hT hS hl
      refine lv_iload_n hx hb dX10_askToCommit_9 rfl (lv_at hl 2 rfl) ?_
      refine lv_aload_n hx hb dX10_askToCommit_10 rfl (lv_at hl 1 rfl) ?_
      refine x_clp (x_runV (b := p0) (As := []) (rest := [.int l2_9]) S (c_X4_size l E K F G_9 H p0 hp0) mv_X4_size km_X10_232 rfl rfl ⟨Nat.le_of_ble_eq_true rfl, Nat.le_of_ble_eq_true rfl⟩ (rc_6 hK hT hp0) hK (fun _ => XPh.blind) (fun U hU hW => XPh.at hK hz hS hT hU hW) rfl hl.1 (Nat.le_of_ble_eq_true rfl) dX10_askToCommit_11 ⟨Nat.le_of_ble_eq_true rfl, Nat.le_of_ble_eq_true rfl⟩) hS ?_
      rintro _ _ locs ⟨x11, rfl, t11⟩ hS
      have t11 : x11.toInt = ((G.1 p0 6).toInt) := by rw [(show (G_9.1 p0 6).toInt = ((G.1 p0 6).toInt) from (congrArg Int32.toInt ((hF_9.1 _ _ (xna (xne_j rfl hj9999a (by first | decide | omega)) xn0)).trans (hF4.1 _ _ (xna (xne_j rfl hj9999a (by first | decide | omega)) xn0)))).trans (rfl : Int32.toInt (G.1 p0 6) = ((G.1 p0 6).toInt)))] at t11; exact t11
      refine xi_cge (tgt := 79) hx hb (rfl : Int32.toInt l2_9 = l2_9.toInt) (t11 : Int32.toInt x11 = ((G.1 p0 6).toInt)) dX10_askToCommit_14 (by decide) (fun c14 => ?_) (fun c14 => ?_)
      · refine lv_aload_n hx hb dX10_askToCommit_79 rfl (lv_at hl 0 rfl) ?_
        refine gX10_16 S hK hT ha kf_X10_99 dX10_askToCommit_80 (fun _ _ => ?_)
        refine lv_iconst (v := 1) hx hb dX10_askToCommit_83 (by decide) ?_
        refine lv_dup2_11 hx hb dX10_askToCommit_84 rfl rfl ?_
        refine al_0 S hK hT hk9999b ar_27 (by decide) (by decide) dX10_askToCommit_85 (fun x85 hv85 o85 => ?_)
        have hv85 : x85.toInt = (aI (G_9.2.1 (F a 16)) 1) := hv85.trans (by rw [((by decide) : Int32.toInt 1 = (1 : Int))])
        refine lv_iconst (v := 1) hx hb dX10_askToCommit_86 (by decide) ?_
        refine xi_iadd hx hb (hv85 : Int32.toInt x85 = (aI (G_9.2.1 (F a 16)) 1)) ((by decide) : Int32.toInt 1 = (1 : Int)) dX10_askToCommit_87 (fun x87 t87 => ?_)
        refine as_0 (x := x87) S hK hT hS hk9999b ar_27 aw_27 (by decide) (by decide) dX10_askToCommit_88 (fun H locs hT hS => ?_)
        obtain ⟨G88, hG88⟩ : ∃ GG : XG, GG = cput G_9 (F a 16) (1 : Int32).toNatClampNeg x87 := ⟨_, rfl⟩
        rw [← hG88] at hT
        refine lv_iconst (v := 1) hx hb dX10_askToCommit_89 (by decide) ?_
        exact x_rz hx hb hr (xnz (Or.inr rfl)) hlk hQ (Nat.le_of_ble_eq_true rfl) (Nat.le_of_ble_eq_true rfl) hS dX10_askToCommit_90 G88 ⟨_, rfl, (Or.inr rfl), (by rw [hG88]; exact XFr.cput (XFr.call (XFr.call XFr.rf hF4 (xm1 3 rfl xm0) xm0 xm0) hF_9 (xm1 3 rfl xm0) (xm1 0 rfl (xm1 1 rfl (xm1 2 rfl (xm1 3 rfl (xm1 4 rfl (xm1 5 rfl (xm1 6 rfl xm0))))))) xm0) (List.mem_of_getElem? (i := 0) rfl)), (by rw [(show (G88.1 (F a 10) 6).toInt = ((G_9.1 (F a 10) 6).toInt) from (congrArg Int32.toInt (lc_d hG88)).trans (rfl : Int32.toInt (G_9.1 (F a 10) 6) = ((G_9.1 (F a 10) 6).toInt)))] <;> exact (z_X10_askToCommit_2 l2_9.toInt ((G.1 p0 6).toInt) ((G_9.1 (F a 10) 6).toInt) s0 I9_0 I9_1)), (v_X10_askToCommit_90_1 (K := K) (F := F) a p0 G G4 G_9 l2_9 N9 ha hp0 hn pa s0 t4 I9_0 I9_1 I9_2 hm9 c14), (v_X10_askToCommit_90_2 (K := K) (F := F) a p0 G G4 G_9 G88 l2_9 N9 ha hp0 hn pl s0 t4 I9_0 I9_1 I9_2 hm9 c14 (lc_c hG88 (xne_k hk9999c hk9999b (by decide))) (lc_c hG88 (xne_k hk9999d hk9999b (by decide))) (lc_c hG88 (xne_k hk9999e hk9999b (by decide))) (lc_c hG88 (xne_k hk9999f hk9999b (by decide))) (lc_c hG88 (xne_k hk9999g hk9999b (by decide))) (lc_c hG88 (xne_k hk9999h hk9999b (by decide))) (lc_d hG88))⟩ hT
      · refine lv_aload_n hx hb dX10_askToCommit_17 rfl (lv_at hl 1 rfl) ?_
        refine lv_iload_n hx hb dX10_askToCommit_18 rfl (lv_at hl 2 rfl) ?_
        refine x_clp (x_runV (b := p0) (As := [.int l2_9]) (rest := []) S (c_X4_isLate l E K F G_9 H p0 l2_9 hp0) mv_X4_isLate km_X10_404 rfl rfl ⟨Nat.le_of_ble_eq_true rfl, Nat.le_of_ble_eq_true rfl⟩ (rc_6 hK hT hp0) hK (fun _ => XPh.blind) (fun U hU hW => XPh.at hK hz hS hT hU hW) rfl hl.1 (Nat.le_of_ble_eq_true rfl) dX10_askToCommit_19 ⟨Nat.le_of_ble_eq_true rfl, Nat.le_of_ble_eq_true rfl⟩) hS ?_
        rintro _ _ locs ⟨x19, rfl, b19, t19⟩ hS
        have t19 : ((0 ≤ l2_9.toInt ∧ l2_9.toInt < ((G.1 p0 6).toInt) ∧ l2_9.toInt < 1080) ∧ x19.toInt = (aI (G.2.1 (F p0 4)) (l2_9.toInt))) ∨ (¬ (0 ≤ l2_9.toInt ∧ l2_9.toInt < ((G.1 p0 6).toInt) ∧ l2_9.toInt < 1080) ∧ x19.toInt = 0) := by rw [(show (G_9.1 p0 6).toInt = ((G.1 p0 6).toInt) from (congrArg Int32.toInt ((hF_9.1 _ _ (xna (xne_j rfl hj9999a (by first | decide | omega)) xn0)).trans (hF4.1 _ _ (xna (xne_j rfl hj9999a (by first | decide | omega)) xn0)))).trans (rfl : Int32.toInt (G.1 p0 6) = ((G.1 p0 6).toInt)))] at t19; rw [(show G_9.2.1 (F p0 4) = G.2.1 (F p0 4) from ((hF_9.2.1 _ (xn1 (xne_k hk9999m hk9999b (by decide)) (xn1 (xne_k hk9999m hk9999c (by decide)) (xn1 (xne_k hk9999m hk9999d (by decide)) (xn1 (xne_k hk9999m hk9999e (by decide)) (xn1 (xne_k hk9999m hk9999f (by decide)) (xn1 (xne_j hj9999s hj9999l (by first | decide | omega)) (xn1 (xne_j hj9999s hj9999n (by first | decide | omega)) xn0)))))))).trans (hF4.2.1 _ xn0)))] at t19; exact t19
        refine xi_zne (tgt := 28) hx hb (rfl : Int32.toInt x19 = x19.toInt) dX10_askToCommit_22 (by decide) (fun c22 => ?_) (fun c22 => ?_)
        · refine lv_aload_n hx hb dX10_askToCommit_28 rfl (lv_at hl 0 rfl) ?_
          refine gX10_16 S hK hT ha kf_X10_99 dX10_askToCommit_29 (fun _ _ => ?_)
          refine lv_iconst (v := 0) hx hb dX10_askToCommit_32 (by decide) ?_
          refine lv_dup2_11 hx hb dX10_askToCommit_33 rfl rfl ?_
          refine al_0 S hK hT hk9999b ar_27 (by decide) (by decide) dX10_askToCommit_34 (fun x34 hv34 o34 => ?_)
          have hv34 : x34.toInt = (aI (G_9.2.1 (F a 16)) 0) := hv34.trans (by rw [((by decide) : Int32.toInt 0 = (0 : Int))])
          refine lv_iconst (v := 1) hx hb dX10_askToCommit_35 (by decide) ?_
          refine xi_iadd hx hb (hv34 : Int32.toInt x34 = (aI (G_9.2.1 (F a 16)) 0)) ((by decide) : Int32.toInt 1 = (1 : Int)) dX10_askToCommit_36 (fun x36 t36 => ?_)
          refine as_0 (x := x36) S hK hT hS hk9999b ar_27 aw_27 (by decide) (by decide) dX10_askToCommit_37 (fun H locs hT hS => ?_)
          obtain ⟨G37, hG37⟩ : ∃ GG : XG, GG = cput G_9 (F a 16) (0 : Int32).toNatClampNeg x36 := ⟨_, rfl⟩
          rw [← hG37] at hT
          refine lv_aload_n hx hb dX10_askToCommit_38 rfl (lv_at hl 0 rfl) ?_
          refine gX10_10 S hK hT ha kf_X10_64 dX10_askToCommit_39 (fun _ _ => ?_)
          refine lv_aload_n hx hb dX10_askToCommit_42 rfl (lv_at hl 1 rfl) ?_
          refine lv_iload_n hx hb dX10_askToCommit_43 rfl (lv_at hl 2 rfl) ?_
          refine x_cv0 (x_runV (b := (F a 10)) (As := [.ref p0, .int l2_9]) (rest := []) S (c_X4_take l E K F G37 (F a 10) p0 l2_9 hk9999a hp0 (by rw [(show (G37.1 (F a 10) 6).toInt = ((G_9.1 (F a 10) 6).toInt) from (congrArg Int32.toInt (lc_d hG37)).trans (rfl : Int32.toInt (G_9.1 (F a 10) 6) = ((G_9.1 (F a 10) 6).toInt)))] <;> exact (z_X10_askToCommit_3 l2_9.toInt ((G.1 p0 6).toInt) ((G_9.1 (F a 10) 6).toInt) s0 I9_1 c14)) (by rw [(show (G37.1 p0 6).toInt = ((G.1 p0 6).toInt) from (congrArg Int32.toInt ((lc_d hG37).trans ((hF_9.1 _ _ (xna (xne_j rfl hj9999a (by first | decide | omega)) xn0)).trans (hF4.1 _ _ (xna (xne_j rfl hj9999a (by first | decide | omega)) xn0))))).trans (rfl : Int32.toInt (G.1 p0 6) = ((G.1 p0 6).toInt)))] <;> exact (z_X10_askToCommit_4 l2_9.toInt ((G.1 p0 6).toInt) s0 I9_0 c14)) (v_X10_askToCommit_44_3 (K := K) (F := F) a p0 G G4 G_9 l2_9 N9 x19 ha hp0 hk9999 hj9999 hk9999a hj9999a hk9999b hj9999b hk9999c hj9999d hk9999d hj9999f hk9999e hj9999h hk9999f hj9999j hk9999g hj9999l hk9999h hj9999n hk9999i hj9999o hk9999j hj9999p hk9999k hj9999q hk9999l hj9999r hk9999m hj9999s hk9999n hj9999t hn s0 t4 I9_0 I9_1 I9_2 hm9 c14 t19 (xzi b19) c22)) mv_X4_take km_X10_407 rfl rfl ⟨Nat.le_of_ble_eq_true rfl, Nat.le_of_ble_eq_true rfl⟩ (rc_6 hK hT hk9999a) hK (fun _ => XP.blind) (fun U hU hW => XP.at hK hz hS hT hU hW) rfl hl.1 (Nat.le_of_ble_eq_true rfl) dX10_askToCommit_44 ⟨Nat.le_of_ble_eq_true rfl, Nat.le_of_ble_eq_true rfl⟩) hS ?_
          rintro G44 H locs ⟨hF44, t44, oq44⟩ hT hS
          have t44 : ((G44.1 (F a 10) 6).toInt) = ((G_9.1 (F a 10) 6).toInt) + 1 := by rw [(show (G37.1 (F a 10) 6).toInt = ((G_9.1 (F a 10) 6).toInt) from (congrArg Int32.toInt (lc_d hG37)).trans (rfl : Int32.toInt (G_9.1 (F a 10) 6) = ((G_9.1 (F a 10) 6).toInt)))] at t44; exact t44
          refine lv_aload_n hx hb dX10_askToCommit_47 rfl (lv_at hl 1 rfl) ?_
          refine lv_iload_n hx hb dX10_askToCommit_48 rfl (lv_at hl 2 rfl) ?_
          refine x_clp (x_runV (b := p0) (As := [.int l2_9]) (rest := []) S (c_X4_fails l E K F G44 H p0 l2_9 hp0) mv_X4_fails km_X10_309 rfl rfl ⟨Nat.le_of_ble_eq_true rfl, Nat.le_of_ble_eq_true rfl⟩ (rc_6 hK hT hp0) hK (fun _ => XPh.blind) (fun U hU hW => XPh.at hK hz hS hT hU hW) rfl hl.1 (Nat.le_of_ble_eq_true rfl) dX10_askToCommit_49 ⟨Nat.le_of_ble_eq_true rfl, Nat.le_of_ble_eq_true rfl⟩) hS ?_
          rintro _ _ locs ⟨x49, rfl, b49, t49⟩ hS
          have t49 : ((0 ≤ l2_9.toInt ∧ l2_9.toInt < ((G.1 p0 6).toInt) ∧ l2_9.toInt < 1080) ∧ x49.toInt = (aI (G.2.1 (F p0 5)) (l2_9.toInt))) ∨ (¬ (0 ≤ l2_9.toInt ∧ l2_9.toInt < ((G.1 p0 6).toInt) ∧ l2_9.toInt < 1080) ∧ x49.toInt = 0) := by rw [(show (G44.1 p0 6).toInt = ((G.1 p0 6).toInt) from (congrArg Int32.toInt ((hF44.1 _ _ (xna (xne_j rfl hj9999a (by first | decide | omega)) xn0)).trans ((lc_d hG37).trans ((hF_9.1 _ _ (xna (xne_j rfl hj9999a (by first | decide | omega)) xn0)).trans (hF4.1 _ _ (xna (xne_j rfl hj9999a (by first | decide | omega)) xn0)))))).trans (rfl : Int32.toInt (G.1 p0 6) = ((G.1 p0 6).toInt)))] at t49; rw [(show G44.2.1 (F p0 5) = G.2.1 (F p0 5) from ((hF44.2.1 _ (xn1 (xne_k hk9999n hk9999c (by decide)) (xn1 (xne_k hk9999n hk9999d (by decide)) (xn1 (xne_k hk9999n hk9999e (by decide)) (xn1 (xne_k hk9999n hk9999f (by decide)) (xn1 (xne_j hj9999t hj9999l (by first | decide | omega)) (xn1 (xne_j hj9999t hj9999n (by first | decide | omega)) xn0))))))).trans ((lc_c hG37 (xne_k hk9999n hk9999b (by decide))).trans ((hF_9.2.1 _ (xn1 (xne_k hk9999n hk9999b (by decide)) (xn1 (xne_k hk9999n hk9999c (by decide)) (xn1 (xne_k hk9999n hk9999d (by decide)) (xn1 (xne_k hk9999n hk9999e (by decide)) (xn1 (xne_k hk9999n hk9999f (by decide)) (xn1 (xne_j hj9999t hj9999l (by first | decide | omega)) (xn1 (xne_j hj9999t hj9999n (by first | decide | omega)) xn0)))))))).trans (hF4.2.1 _ xn0)))))] at t49; exact t49
          refine xi_zeq (tgt := 73) hx hb (rfl : Int32.toInt x49 = x49.toInt) dX10_askToCommit_52 (by decide) (fun c52 => ?_) (fun c52 => ?_)
          · refine xi_iinc (n := 1) (lv' := fun z9 => [(2, .int z9), (0, .ref a), (1, .ref p0)]) (k := 2) hx hb (rfl : Int32.toInt l2_9 = l2_9.toInt) (by decide) dX10_askToCommit_73 hl rfl (by decide) (fun _ => rfl) (fun x73 ls t73 hl => ?_)
            have e73 : x73.toInt = (l2_9.toInt + 1) := (z_X10_askAtOnce_2 l2_9.toInt x73.toInt ((G.1 p0 6).toInt) s0 I9_0 t73)
            have hl : lv_has ls 3 [(2, .int x73), (0, .ref a), (1, .ref p0)] := hl
            refine lv_goto (tgt := 9) hx hb dX10_askToCommit_76 (by decide) ?_
            exact ih9 x73 G44 _ _ _ (XFr.call (by rw [hG37]; exact XFr.cput (XFr.call XFr.rf hF_9 (xm1 0 rfl xm0) (xm1 0 rfl (xm1 1 rfl (xm1 2 rfl (xm1 3 rfl (xm1 4 rfl (xm1 5 rfl (xm1 6 rfl xm0))))))) xm0) (List.mem_of_getElem? (i := 0) rfl)) hF44 (xm1 0 rfl xm0) (xm1 1 rfl (xm1 2 rfl (xm1 3 rfl (xm1 4 rfl (xm1 5 rfl (xm1 6 rfl xm0)))))) xm0) (by rw [(e73 : Int32.toInt x73 = (l2_9.toInt + 1))] <;> exact (v_X10_askToCommit_76_4 (K := K) (F := F) a p0 G G4 G_9 G44 l2_9 N9 x19 x49 ha hp0 hn pa s0 t4 I9_0 I9_1 I9_2 hm9 c14 t19 (xzi b19) c22 t44 t49 (xzi b49) c52)) (by rw [(e73 : Int32.toInt x73 = (l2_9.toInt + 1))] <;> exact (v_X10_askToCommit_76_5 (K := K) (F := F) a p0 G G4 G_9 G37 G44 l2_9 N9 x19 x49 ha hp0 hn pl oq44 s0 t4 I9_0 I9_1 I9_2 hm9 c14 t19 (xzi b19) c22 t44 t49 (xzi b49) c52 (lc_c hG37 (xne_k hk9999c hk9999b (by decide))) (lc_c hG37 (xne_k hk9999d hk9999b (by decide))) (lc_c hG37 (xne_k hk9999e hk9999b (by decide))) (lc_c hG37 (xne_k hk9999f hk9999b (by decide))) (lc_c hG37 (xne_k hk9999g hk9999b (by decide))) (lc_c hG37 (xne_k hk9999h hk9999b (by decide))) ((lc_c hG37 (xne_k hk9999i hk9999b (by decide))).trans ((hF_9.2.1 _ (xn1 (xne_k hk9999i hk9999b (by decide)) (xn1 (xne_j hj9999o hj9999d (by first | decide | omega)) (xn1 (xne_j hj9999o hj9999f (by first | decide | omega)) (xn1 (xne_j hj9999o hj9999h (by first | decide | omega)) (xn1 (xne_j hj9999o hj9999j (by first | decide | omega)) (xn1 (xne_k hk9999i hk9999g (by decide)) (xn1 (xne_k hk9999i hk9999h (by decide)) xn0)))))))).trans (hF4.2.1 _ xn0))) ((lc_c hG37 (xne_k hk9999j hk9999b (by decide))).trans ((hF_9.2.1 _ (xn1 (xne_k hk9999j hk9999b (by decide)) (xn1 (xne_j hj9999p hj9999d (by first | decide | omega)) (xn1 (xne_j hj9999p hj9999f (by first | decide | omega)) (xn1 (xne_j hj9999p hj9999h (by first | decide | omega)) (xn1 (xne_j hj9999p hj9999j (by first | decide | omega)) (xn1 (xne_k hk9999j hk9999g (by decide)) (xn1 (xne_k hk9999j hk9999h (by decide)) xn0)))))))).trans (hF4.2.1 _ xn0))) ((lc_c hG37 (xne_k hk9999k hk9999b (by decide))).trans ((hF_9.2.1 _ (xn1 (xne_k hk9999k hk9999b (by decide)) (xn1 (xne_j hj9999q hj9999d (by first | decide | omega)) (xn1 (xne_j hj9999q hj9999f (by first | decide | omega)) (xn1 (xne_j hj9999q hj9999h (by first | decide | omega)) (xn1 (xne_j hj9999q hj9999j (by first | decide | omega)) (xn1 (xne_k hk9999k hk9999g (by decide)) (xn1 (xne_k hk9999k hk9999h (by decide)) xn0)))))))).trans (hF4.2.1 _ xn0))) ((lc_c hG37 (xne_k hk9999l hk9999b (by decide))).trans ((hF_9.2.1 _ (xn1 (xne_k hk9999l hk9999b (by decide)) (xn1 (xne_j hj9999r hj9999d (by first | decide | omega)) (xn1 (xne_j hj9999r hj9999f (by first | decide | omega)) (xn1 (xne_j hj9999r hj9999h (by first | decide | omega)) (xn1 (xne_j hj9999r hj9999j (by first | decide | omega)) (xn1 (xne_k hk9999l hk9999g (by decide)) (xn1 (xne_k hk9999l hk9999h (by decide)) xn0)))))))).trans (hF4.2.1 _ xn0))) ((lc_c hG37 (xne_k hk9999m hk9999b (by decide))).trans ((hF_9.2.1 _ (xn1 (xne_k hk9999m hk9999b (by decide)) (xn1 (xne_k hk9999m hk9999c (by decide)) (xn1 (xne_k hk9999m hk9999d (by decide)) (xn1 (xne_k hk9999m hk9999e (by decide)) (xn1 (xne_k hk9999m hk9999f (by decide)) (xn1 (xne_j hj9999s hj9999l (by first | decide | omega)) (xn1 (xne_j hj9999s hj9999n (by first | decide | omega)) xn0)))))))).trans (hF4.2.1 _ xn0))) ((lc_c hG37 (xne_k hk9999n hk9999b (by decide))).trans ((hF_9.2.1 _ (xn1 (xne_k hk9999n hk9999b (by decide)) (xn1 (xne_k hk9999n hk9999c (by decide)) (xn1 (xne_k hk9999n hk9999d (by decide)) (xn1 (xne_k hk9999n hk9999e (by decide)) (xn1 (xne_k hk9999n hk9999f (by decide)) (xn1 (xne_j hj9999t hj9999l (by first | decide | omega)) (xn1 (xne_j hj9999t hj9999n (by first | decide | omega)) xn0)))))))).trans (hF4.2.1 _ xn0))) (lc_d hG37))) (by rw [(e73 : Int32.toInt x73 = (l2_9.toInt + 1))] <;> exact (z_X10_askAtOnce_3 l2_9.toInt ((G.1 p0 6).toInt) I9_0 c14)) (by rw [(e73 : Int32.toInt x73 = (l2_9.toInt + 1))] <;> exact (z_X10_askToCommit_7 l2_9.toInt ((G44.1 (F a 10) 6).toInt) ((G_9.1 (F a 10) 6).toInt) I9_1 t44)) (by rw [(e73 : Int32.toInt x73 = (l2_9.toInt + 1))] <;> exact (z_X10_askAtOnce_4 l2_9.toInt ((G.1 p0 6).toInt) I9_0)) (by rw [(e73 : Int32.toInt x73 = (l2_9.toInt + 1))] <;> exact (z_X10_askAtOnce_5 l2_9.toInt N9 hm9)) hT hS (lv_sub hl [1, 2, 0] rfl)
          · refine lv_aload_n hx hb dX10_askToCommit_55 rfl (lv_at hl 0 rfl) ?_
            refine lv_aload_n hx hb dX10_askToCommit_56 rfl (lv_at hl 1 rfl) ?_
            refine lv_iload_n hx hb dX10_askToCommit_57 rfl (lv_at hl 2 rfl) ?_
            refine x_cv (x_runV (b := a) (As := [.ref p0, .int l2_9]) (rest := []) S (c_X10_tellVerdict l E K F G44 a p0 l2_9 ha hp0) mv_X10_tellVerdict km_X10_247 rfl rfl ⟨Nat.le_of_ble_eq_true rfl, Nat.le_of_ble_eq_true rfl⟩ (rc_12 hK hT ha) hK (fun _ => XP.blind) (fun U hU hW => XP.at hK hz hS hT hU hW) rfl hl.1 (Nat.le_of_ble_eq_true rfl) dX10_askToCommit_58 ⟨Nat.le_of_ble_eq_true rfl, Nat.le_of_ble_eq_true rfl⟩) hS ?_
            rintro G58 H locs hF58 hT hS
            refine lv_aload_n hx hb dX10_askToCommit_61 rfl (lv_at hl 0 rfl) ?_
            refine gX10_16 S hK hT ha kf_X10_99 dX10_askToCommit_62 (fun _ _ => ?_)
            refine lv_iconst (v := 2) hx hb dX10_askToCommit_65 (by decide) ?_
            refine lv_dup2_11 hx hb dX10_askToCommit_66 rfl rfl ?_
            refine al_0 S hK hT hk9999b ar_27 (by decide) (by decide) dX10_askToCommit_67 (fun x67 hv67 o67 => ?_)
            have hv67 : x67.toInt = (aI (G37.2.1 (F a 16)) 2) := hv67.trans (by rw [((by decide) : Int32.toInt 2 = (2 : Int)), (((hF58.2.1 _ xn0).trans (hF44.2.1 _ (xn1 (xne_k hk9999b hk9999c (by decide)) (xn1 (xne_k hk9999b hk9999d (by decide)) (xn1 (xne_k hk9999b hk9999e (by decide)) (xn1 (xne_k hk9999b hk9999f (by decide)) (xn1 (xne_k hk9999b hk9999g (by decide)) (xn1 (xne_k hk9999b hk9999h (by decide)) xn0)))))))) : G58.2.1 (F a 16) = G37.2.1 (F a 16))])
            have hc67 : ((2 : Int) = (0 : Int) → (aI (G37.2.1 (F a 16)) ((2 : Int))) = x36.toInt) ∧ ((2 : Int) ≠ (0 : Int) → (aI (G37.2.1 (F a 16)) ((2 : Int))) = (aI (G_9.2.1 (F a 16)) ((2 : Int)))) := xlk hG37 rfl ((by decide) : Int32.toInt 0 = (0 : Int)) (rfl : Int32.toInt x36 = x36.toInt) (by decide) (by decide)
            refine lv_iconst (v := 1) hx hb dX10_askToCommit_68 (by decide) ?_
            refine xi_iadd hx hb (hv67 : Int32.toInt x67 = (aI (G37.2.1 (F a 16)) 2)) ((by decide) : Int32.toInt 1 = (1 : Int)) dX10_askToCommit_69 (fun x69 t69 => ?_)
            refine as_0 (x := x69) S hK hT hS hk9999b ar_27 aw_27 (by decide) (by decide) dX10_askToCommit_70 (fun H locs hT hS => ?_)
            obtain ⟨G70, hG70⟩ : ∃ GG : XG, GG = cput G58 (F a 16) (2 : Int32).toNatClampNeg x69 := ⟨_, rfl⟩
            rw [← hG70] at hT
            refine lv_iconst (v := 0) hx hb dX10_askToCommit_71 (by decide) ?_
            exact x_rz hx hb hr (xnz (Or.inl rfl)) hlk hQ (Nat.le_of_ble_eq_true rfl) (Nat.le_of_ble_eq_true rfl) hS dX10_askToCommit_72 G70 ⟨_, rfl, (Or.inl rfl), (by rw [hG70]; exact XFr.cput (XFr.call (XFr.call (by rw [hG37]; exact XFr.cput (XFr.call (XFr.call XFr.rf hF4 (xm1 3 rfl xm0) xm0 xm0) hF_9 (xm1 3 rfl xm0) (xm1 0 rfl (xm1 1 rfl (xm1 2 rfl (xm1 3 rfl (xm1 4 rfl (xm1 5 rfl (xm1 6 rfl xm0))))))) xm0) (List.mem_of_getElem? (i := 0) rfl)) hF44 (xm1 3 rfl xm0) (xm1 1 rfl (xm1 2 rfl (xm1 3 rfl (xm1 4 rfl (xm1 5 rfl (xm1 6 rfl xm0)))))) xm0) hF58 (xm1 0 rfl (xm1 1 rfl (xm1 2 rfl xm0))) xm0 xm0) (List.mem_of_getElem? (i := 0) rfl)), (by rw [(show (G70.1 (F a 10) 6).toInt = ((G44.1 (F a 10) 6).toInt) from (congrArg Int32.toInt ((lc_d hG70).trans (hF58.1 _ _ (xnj (by decide) (xnj (by decide) (xnj (by decide) xn0)))))).trans (rfl : Int32.toInt (G44.1 (F a 10) 6) = ((G44.1 (F a 10) 6).toInt)))] <;> exact (z_X10_askToCommit_10 l2_9.toInt ((G.1 p0 6).toInt) ((G44.1 (F a 10) 6).toInt) ((G_9.1 (F a 10) 6).toInt) s0 I9_1 c14 t44)), (v_X10_askToCommit_72_6 (K := K) (F := F) a p0 G G4 G_9 G37 x36 G44 l2_9 N9 x19 x49 ha hp0 hn pa s0 t4 I9_0 I9_1 I9_2 hm9 c14 t19 (xzi b19) c22 t36 t44 t49 (xzi b49) c52 hc67), (v_X10_askToCommit_72_7 (K := K) (F := F) a p0 G G4 G_9 G37 x36 G44 G70 l2_9 N9 x19 x49 ha hp0 hn pa pl oq44 s0 t4 I9_0 I9_1 I9_2 hm9 c14 t19 (xzi b19) c22 t36 t44 t49 (xzi b49) c52 hc67 (lc_c hG37 (xne_k hk9999c hk9999b (by decide))) (lc_c hG37 (xne_k hk9999d hk9999b (by decide))) (lc_c hG37 (xne_k hk9999e hk9999b (by decide))) (lc_c hG37 (xne_k hk9999f hk9999b (by decide))) (lc_c hG37 (xne_k hk9999g hk9999b (by decide))) (lc_c hG37 (xne_k hk9999h hk9999b (by decide))) ((lc_c hG37 (xne_k hk9999i hk9999b (by decide))).trans ((hF_9.2.1 _ (xn1 (xne_k hk9999i hk9999b (by decide)) (xn1 (xne_j hj9999o hj9999d (by first | decide | omega)) (xn1 (xne_j hj9999o hj9999f (by first | decide | omega)) (xn1 (xne_j hj9999o hj9999h (by first | decide | omega)) (xn1 (xne_j hj9999o hj9999j (by first | decide | omega)) (xn1 (xne_k hk9999i hk9999g (by decide)) (xn1 (xne_k hk9999i hk9999h (by decide)) xn0)))))))).trans (hF4.2.1 _ xn0))) ((lc_c hG37 (xne_k hk9999j hk9999b (by decide))).trans ((hF_9.2.1 _ (xn1 (xne_k hk9999j hk9999b (by decide)) (xn1 (xne_j hj9999p hj9999d (by first | decide | omega)) (xn1 (xne_j hj9999p hj9999f (by first | decide | omega)) (xn1 (xne_j hj9999p hj9999h (by first | decide | omega)) (xn1 (xne_j hj9999p hj9999j (by first | decide | omega)) (xn1 (xne_k hk9999j hk9999g (by decide)) (xn1 (xne_k hk9999j hk9999h (by decide)) xn0)))))))).trans (hF4.2.1 _ xn0))) ((lc_c hG37 (xne_k hk9999k hk9999b (by decide))).trans ((hF_9.2.1 _ (xn1 (xne_k hk9999k hk9999b (by decide)) (xn1 (xne_j hj9999q hj9999d (by first | decide | omega)) (xn1 (xne_j hj9999q hj9999f (by first | decide | omega)) (xn1 (xne_j hj9999q hj9999h (by first | decide | omega)) (xn1 (xne_j hj9999q hj9999j (by first | decide | omega)) (xn1 (xne_k hk9999k hk9999g (by decide)) (xn1 (xne_k hk9999k hk9999h (by decide)) xn0)))))))).trans (hF4.2.1 _ xn0))) ((lc_c hG37 (xne_k hk9999l hk9999b (by decide))).trans ((hF_9.2.1 _ (xn1 (xne_k hk9999l hk9999b (by decide)) (xn1 (xne_j hj9999r hj9999d (by first | decide | omega)) (xn1 (xne_j hj9999r hj9999f (by first | decide | omega)) (xn1 (xne_j hj9999r hj9999h (by first | decide | omega)) (xn1 (xne_j hj9999r hj9999j (by first | decide | omega)) (xn1 (xne_k hk9999l hk9999g (by decide)) (xn1 (xne_k hk9999l hk9999h (by decide)) xn0)))))))).trans (hF4.2.1 _ xn0))) ((lc_c hG37 (xne_k hk9999m hk9999b (by decide))).trans ((hF_9.2.1 _ (xn1 (xne_k hk9999m hk9999b (by decide)) (xn1 (xne_k hk9999m hk9999c (by decide)) (xn1 (xne_k hk9999m hk9999d (by decide)) (xn1 (xne_k hk9999m hk9999e (by decide)) (xn1 (xne_k hk9999m hk9999f (by decide)) (xn1 (xne_j hj9999s hj9999l (by first | decide | omega)) (xn1 (xne_j hj9999s hj9999n (by first | decide | omega)) xn0)))))))).trans (hF4.2.1 _ xn0))) ((lc_c hG37 (xne_k hk9999n hk9999b (by decide))).trans ((hF_9.2.1 _ (xn1 (xne_k hk9999n hk9999b (by decide)) (xn1 (xne_k hk9999n hk9999c (by decide)) (xn1 (xne_k hk9999n hk9999d (by decide)) (xn1 (xne_k hk9999n hk9999e (by decide)) (xn1 (xne_k hk9999n hk9999f (by decide)) (xn1 (xne_j hj9999t hj9999l (by first | decide | omega)) (xn1 (xne_j hj9999t hj9999n (by first | decide | omega)) xn0)))))))).trans (hF4.2.1 _ xn0))) ((lc_c hG70 (xne_k hk9999c hk9999b (by decide))).trans (hF58.2.1 _ xn0)) ((lc_c hG70 (xne_k hk9999d hk9999b (by decide))).trans (hF58.2.1 _ xn0)) ((lc_c hG70 (xne_k hk9999e hk9999b (by decide))).trans (hF58.2.1 _ xn0)) ((lc_c hG70 (xne_k hk9999f hk9999b (by decide))).trans (hF58.2.1 _ xn0)) ((lc_c hG70 (xne_k hk9999g hk9999b (by decide))).trans (hF58.2.1 _ xn0)) ((lc_c hG70 (xne_k hk9999h hk9999b (by decide))).trans (hF58.2.1 _ xn0)) (lc_d hG37) ((lc_d hG70).trans (hF58.1 _ _ (xnj (by decide) (xnj (by decide) (xnj (by decide) xn0))))))⟩ hT
        · refine lv_goto (tgt := 73) hx hb dX10_askToCommit_25 (by decide) ?_
          refine xi_iinc (n := 1) (lv' := fun z9 => [(2, .int z9), (0, .ref a), (1, .ref p0)]) (k := 2) hx hb (rfl : Int32.toInt l2_9 = l2_9.toInt) (by decide) dX10_askToCommit_73 hl rfl (by decide) (fun _ => rfl) (fun x73 ls t73 hl => ?_)
          have e73 : x73.toInt = (l2_9.toInt + 1) := (z_X10_askAtOnce_2 l2_9.toInt x73.toInt ((G.1 p0 6).toInt) s0 I9_0 t73)
          have hl : lv_has ls 3 [(2, .int x73), (0, .ref a), (1, .ref p0)] := hl
          refine lv_goto (tgt := 9) hx hb dX10_askToCommit_76 (by decide) ?_
          exact ih9 x73 G_9 _ _ _ (XFr.call XFr.rf hF_9 (xm1 0 rfl xm0) (xm1 0 rfl (xm1 1 rfl (xm1 2 rfl (xm1 3 rfl (xm1 4 rfl (xm1 5 rfl (xm1 6 rfl xm0))))))) xm0) (by rw [(e73 : Int32.toInt x73 = (l2_9.toInt + 1))] <;> exact (v_X10_askToCommit_76_8 (K := K) (F := F) a p0 G G4 G_9 l2_9 N9 x19 ha hp0 hn pa s0 t4 I9_0 I9_1 I9_2 hm9 c14 t19 (xzi b19) c22)) (by rw [(e73 : Int32.toInt x73 = (l2_9.toInt + 1))] <;> exact (v_X10_askToCommit_76_9 (K := K) (F := F) a p0 G G4 G_9 l2_9 N9 x19 ha hp0 hn pl s0 t4 I9_0 I9_1 I9_2 hm9 c14 t19 (xzi b19) c22)) (by rw [(e73 : Int32.toInt x73 = (l2_9.toInt + 1))] <;> exact (z_X10_askAtOnce_3 l2_9.toInt ((G.1 p0 6).toInt) I9_0 c14)) (by rw [(e73 : Int32.toInt x73 = (l2_9.toInt + 1))] <;> exact (z_X10_askToCommit_13 l2_9.toInt ((G_9.1 (F a 10) 6).toInt) I9_1)) (by rw [(e73 : Int32.toInt x73 = (l2_9.toInt + 1))] <;> exact (z_X10_askAtOnce_4 l2_9.toInt ((G.1 p0 6).toInt) I9_0)) (by rw [(e73 : Int32.toInt x73 = (l2_9.toInt + 1))] <;> exact (z_X10_askAtOnce_5 l2_9.toInt N9 hm9)) hT hS (lv_sub hl [1, 2, 0] rfl)
  exact L9 4294967297 0 G4 _ _ _ XFr.rf (v_X10_askToCommit_8_10 (K := K) (F := F) a p0 G G4 ha hp0 hn s0 t4) (v_X10_askToCommit_8_11 (F := F) a p0 G G4 t4) (z_X10_askAtOnce_10 ((G.1 p0 6).toInt) s0) (z_X10_askToCommit_17 ((G4.1 (F a 10) 6).toInt) t4) (by decide) (by decide) hT hS (lv_sub hl [1, 2, 0] rfl)
/-! ===== acts: what they leave alone ===== -/
theorem XFr.rule {K : Nat → Nat} {d : List (Nat × Nat)} {c r : List Nat} {G u : XG} (h : XFr d c r G u) (hd : ∀ p, p ∈ d → K p.1 ≠ 9) {q : Nat} (hq : K q = 9) : u.1 q = G.1 q := funext (fun j => h.1 q j (fun hm => hd _ hm hq))
theorem gaq_cg {G u : XG} {r1 r2 : Int → Int} {w : Int} {o : Option Nat} (h : ∀ q, o = some q → u.1 q = G.1 q) : gaq u r1 r2 w o = gaq G r1 r2 w o := by
  cases o with
  | none => rfl
  | some q =>
    show (if w = 0 ∨ ((u.1 q 9).toInt = 1 ∧ w = 1) ∨ ((u.1 q 9).toInt = 0 ∧ w ≠ 1) then uqs r1 r2 (u.1 q) else []) = (if w = 0 ∨ ((G.1 q 9).toInt = 1 ∧ w = 1) ∨ ((G.1 q 9).toInt = 0 ∧ w ≠ 1) then uqs r1 r2 (G.1 q) else [])
    rw [h q rfl]
theorem gaL_cg {G u : XG} {f : Nat → Option Nat} {r1 r2 : Int → Int} {w : Int} {n : Nat} (h : ∀ i q, i < n → f i = some q → u.1 q = G.1 q) : gaL u f r1 r2 w n = gaL G f r1 r2 w n := by
  induction n with
  | zero => rfl
  | succ n ih => rw [gaL_s, gaL_s, ih (fun i q hi => h i q (by omega)), gaq_cg (fun q hq => h n q (by omega) hq)]
/-- the rules that the book has by number, or in order, are rules, and well -/
def BKr (K : Nat → Nat) (G : XG) (f : Nat → Option Nat) : Prop := ∀ (i q : Nat), i < 12 → f i = some q → K q = 9 ∧ RW (G.1 q)
theorem BKr.rw {K : Nat → Nat} {G : XG} {f : Nat → Option Nat} (h : BKr K G f) : ∀ (i q : Nat), i < 12 → f i = some q → RW (G.1 q) := fun i q hi hf => (h i q hi hf).2
theorem BKr.fr {K : Nat → Nat} {d : List (Nat × Nat)} {c r : List Nat} {G u : XG} {f : Nat → Option Nat} (h : BKr K G f) (hf : XFr d c r G u) (hd : ∀ p, p ∈ d → K p.1 ≠ 9) : BKr K u f := fun i q hi hq => ⟨(h i q hi hq).1, by rw [hf.rule hd (h i q hi hq).1]; exact (h i q hi hq).2⟩
theorem qL_nil {G : XG} {F : Nat → Nat → Nat} {a : Nat} (h : (G.1 a 6).toInt = 0) : qL G F a = [] := by
  show lst _ (G.1 a 6).toInt.toNat = []
  rw [h]
  rfl
/-- what an act does: op: within a TRANSACTION; L: what it touches; rows ahead, behind, on paper; what waits ahead, behind, anew -/
def ActR (op r : Int) (L : List Qt) (n0 n1 p : Int → Int) (w0 w1 wn : List Qt) : Prop :=
  (((∃ x, x ∈ L ∧ x.2.2.2.2.1 = 0 ∧ x.2.2.2.2.2 ≠ 0) ∨ (op = 0 ∧ ∃ x, x ∈ L ∧ x.2.2.2.2.1 ≠ 0 ∧ x.2.2.2.2.2 ≠ 0)) ∧ r = -5 ∧ n1 = n0 ∧ w1 = w0) ∨
  ((∀ x, x ∈ L → x.2.2.2.2.1 = 0 → x.2.2.2.2.2 = 0) ∧ (op = 0 → ∀ x, x ∈ L → x.2.2.2.2.1 ≠ 0 → x.2.2.2.2.2 = 0) ∧ r = (L.length : Int) ∧ n1 = p ∧ (op = 0 → w1 = w0) ∧ (op ≠ 0 → w1 = wn))
theorem qL_len (G : XG) (F : Nat → Nat → Nat) (a : Nat) : (qL G F a).length = (G.1 a 6).toInt.toNat := lst_len _ _
section
/-! ===== sums: what changed or was settled since a mark ===== -/
def smN (g : Nat → Int) : Nat → Int
  | 0 => 0
  | n + 1 => smN g n + g n
def smS (h : Int → Int) (lo s : Int) : Int := smN (fun i : Nat => h ((i : Int) + lo)) (s - lo).toNat
theorem smS_0 (h : Int → Int) (lo : Int) : smS h lo lo = 0 := by
  unfold smS
  rw [Int.sub_self]
  rfl
theorem smS_s {h : Int → Int} {lo s : Int} (hs : lo ≤ s) : smS h lo (s + 1) = smS h lo s + h s := by
  unfold smS
  rw [show (s + 1 - lo).toNat = (s - lo).toNat + 1 from by omega]
  show smN _ (s - lo).toNat + h (((s - lo).toNat : Int) + lo) = _
  rw [show (((s - lo).toNat : Int) + lo) = s from by omega]
noncomputable def frI (f : Nat → Int32) (mn mb mk : Int → Int) (w q s : Int) : Int :=
  if w = 0 then (if stt mn (aI f (10 * q + 0)) (aI f (10 * q + 1)) (aI f (10 * q + 2)) (aI f (10 * q + 3)) s ≠ stt mb (aI f (10 * q + 0)) (aI f (10 * q + 1)) (aI f (10 * q + 2)) (aI f (10 * q + 3)) s ∧ stt mn (aI f (10 * q + 0)) (aI f (10 * q + 1)) (aI f (10 * q + 2)) (aI f (10 * q + 3)) s ≠ stt mk (aI f (10 * q + 0)) (aI f (10 * q + 1)) (aI f (10 * q + 2)) (aI f (10 * q + 3)) s then 1 else 0)
  else (if stt mn (aI f (10 * q + 0)) (aI f (10 * q + 1)) (aI f (10 * q + 2)) (aI f (10 * q + 3)) s = stt mb (aI f (10 * q + 0)) (aI f (10 * q + 1)) (aI f (10 * q + 2)) (aI f (10 * q + 3)) s ∧ stt mk (aI f (10 * q + 0)) (aI f (10 * q + 1)) (aI f (10 * q + 2)) (aI f (10 * q + 3)) s ≠ stt mb (aI f (10 * q + 0)) (aI f (10 * q + 1)) (aI f (10 * q + 2)) (aI f (10 * q + 3)) s then 1 else 0)
theorem frI_st (f : Nat → Int32) (mn mb mk : Int → Int) (w q s : Int) : (w = 0 → (stt mn (aI f (10 * q + 0)) (aI f (10 * q + 1)) (aI f (10 * q + 2)) (aI f (10 * q + 3)) s ≠ stt mb (aI f (10 * q + 0)) (aI f (10 * q + 1)) (aI f (10 * q + 2)) (aI f (10 * q + 3)) s ∧ stt mn (aI f (10 * q + 0)) (aI f (10 * q + 1)) (aI f (10 * q + 2)) (aI f (10 * q + 3)) s ≠ stt mk (aI f (10 * q + 0)) (aI f (10 * q + 1)) (aI f (10 * q + 2)) (aI f (10 * q + 3)) s → frI f mn mb mk w q s = 1) ∧ (¬ (stt mn (aI f (10 * q + 0)) (aI f (10 * q + 1)) (aI f (10 * q + 2)) (aI f (10 * q + 3)) s ≠ stt mb (aI f (10 * q + 0)) (aI f (10 * q + 1)) (aI f (10 * q + 2)) (aI f (10 * q + 3)) s ∧ stt mn (aI f (10 * q + 0)) (aI f (10 * q + 1)) (aI f (10 * q + 2)) (aI f (10 * q + 3)) s ≠ stt mk (aI f (10 * q + 0)) (aI f (10 * q + 1)) (aI f (10 * q + 2)) (aI f (10 * q + 3)) s) → frI f mn mb mk w q s = 0)) ∧ (w ≠ 0 → (stt mn (aI f (10 * q + 0)) (aI f (10 * q + 1)) (aI f (10 * q + 2)) (aI f (10 * q + 3)) s = stt mb (aI f (10 * q + 0)) (aI f (10 * q + 1)) (aI f (10 * q + 2)) (aI f (10 * q + 3)) s ∧ stt mk (aI f (10 * q + 0)) (aI f (10 * q + 1)) (aI f (10 * q + 2)) (aI f (10 * q + 3)) s ≠ stt mb (aI f (10 * q + 0)) (aI f (10 * q + 1)) (aI f (10 * q + 2)) (aI f (10 * q + 3)) s → frI f mn mb mk w q s = 1) ∧ (¬ (stt mn (aI f (10 * q + 0)) (aI f (10 * q + 1)) (aI f (10 * q + 2)) (aI f (10 * q + 3)) s = stt mb (aI f (10 * q + 0)) (aI f (10 * q + 1)) (aI f (10 * q + 2)) (aI f (10 * q + 3)) s ∧ stt mk (aI f (10 * q + 0)) (aI f (10 * q + 1)) (aI f (10 * q + 2)) (aI f (10 * q + 3)) s ≠ stt mb (aI f (10 * q + 0)) (aI f (10 * q + 1)) (aI f (10 * q + 2)) (aI f (10 * q + 3)) s) → frI f mn mb mk w q s = 0)) := by
  unfold frI
  constructor
  · intro h
    rw [if_pos h]
    exact ⟨fun a => if_pos a, fun a => if_neg a⟩
  · intro h
    rw [if_neg h]
    exact ⟨fun a => if_pos a, fun a => if_neg a⟩
noncomputable def frQ (f : Nat → Int32) (mn mb mk : Int → Int) (w q : Int) : Int := if aI f (10 * q + 0) ≠ -1 ∧ aI f (10 * q + 6) = 1 then smS (frI f mn mb mk w q) (sF (aI f (10 * q + 0))) (sL (aI f (10 * q + 0)) + 1) else 0
theorem frQ_st (f : Nat → Int32) (mn mb mk : Int → Int) (w q : Int) : (aI f (10 * q + 0) ≠ -1 ∧ aI f (10 * q + 6) = 1 → frQ f mn mb mk w q = smS (frI f mn mb mk w q) (sF (aI f (10 * q + 0))) (sL (aI f (10 * q + 0)) + 1)) ∧ (¬ (aI f (10 * q + 0) ≠ -1 ∧ aI f (10 * q + 6) = 1) → frQ f mn mb mk w q = 0) := ⟨fun a => if_pos a, fun a => if_neg a⟩
noncomputable def frA (f : Nat → Int32) (mn mb mk : Int → Int) (w n : Int) : Int := smS (frQ f mn mb mk w) 0 n
theorem frA_0 (f : Nat → Int32) (mn mb mk : Int → Int) (w : Int) : frA f mn mb mk w 0 = 0 := smS_0 _ _
theorem frA_s {f : Nat → Int32} {mn mb mk : Int → Int} {w n : Int} (h : 0 ≤ n) : frA f mn mb mk w (n + 1) = frA f mn mb mk w n + frQ f mn mb mk w n := smS_s h
/-! the class's sums over its list -/
def qtI (G : XG) (F : Nat → Nat → Nat) (a : Nat) (j : Int) : Qt := (aI (G.2.1 (F a 0)) j, aI (G.2.1 (F a 1)) j, aI (G.2.1 (F a 2)) j, aI (G.2.1 (F a 3)) j, aI (G.2.1 (F a 4)) j, aI (G.2.1 (F a 5)) j)
def smQ (h : Qt → Int) : List Qt → Int
  | [] => 0
  | x :: l => h x + smQ h l
theorem smQ_app (h : Qt → Int) : ∀ l t : List Qt, smQ h (l ++ t) = smQ h l + smQ h t
  | [], t => (Int.zero_add _).symm
  | x :: l, t => by
    show h x + smQ h (l ++ t) = h x + smQ h l + smQ h t
    rw [smQ_app h l t, Int.add_assoc]
theorem smQ_lst (h : Qt → Int) (g : Nat → Qt) : ∀ n : Nat, smQ h (lst g n) = smN (fun i => h (g i)) n
  | 0 => rfl
  | n + 1 => by
    rw [lst_s, smQ_app, smQ_lst h g n]
    show smN (fun i => h (g i)) n + (h (g n) + 0) = smN (fun i => h (g i)) n + h (g n)
    omega
theorem smN_congr {g h : Nat → Int} : ∀ n : Nat, (∀ i, i < n → g i = h i) → smN g n = smN h n
  | 0, _ => rfl
  | n + 1, q => by
    show smN g n + g n = smN h n + h n
    rw [smN_congr n (fun i hi => q i (by omega)), q n (by omega)]
theorem smS_qL (h : Qt → Int) (G : XG) (F : Nat → Nat → Nat) (a : Nat) : smS (fun j => h (qtI G F a j)) 0 (G.1 a 6).toInt = smQ h (qL G F a) := by
  show _ = smQ h (lst _ _)
  rw [smQ_lst]
  unfold smS
  rw [Int.sub_zero]
  refine smN_congr _ (fun i hi => ?_)
  show h (qtI G F a ((i : Int) + 0)) = _
  rw [Int.add_zero]
  rfl
noncomputable def sttQ (G : XG) (v : Int → Int) (q : Nat) (s : Int) : Int := stt v (G.1 q 0).toInt (G.1 q 2).toInt (G.1 q 3).toInt (G.1 q 4).toInt s
noncomputable def chO (G : XG) (v : Int → Int) (s z : Int) : Option Nat → Int
  | none => 0
  | some q => if sttQ G v q s ≠ z then 1 else 0
noncomputable def seO (G : XG) (v : Int → Int) (s z : Int) : Option Nat → Int
  | none => 0
  | some q => if sttQ G v q s = z then 1 else 0
noncomputable def chQ (G : XG) (b : Nat → Option Nat) (v : Int → Int) (x : Qt) : Int := if 0 ≤ x.1 ∧ x.1 < 12 then chO G v x.2.1 x.2.2.2.1 (b x.1.toNat) else 0
noncomputable def seQ (G : XG) (b : Nat → Option Nat) (v : Int → Int) (x : Qt) : Int := if 0 ≤ x.1 ∧ x.1 < 12 then seO G v x.2.1 x.2.2.1 (b x.1.toNat) else 0
theorem chQ_n {G : XG} {b : Nat → Option Nat} {v : Int → Int} {x : Qt} {z : Int} (e : x.1 = z) (h : (z < 0 ∨ 12 ≤ z) ∨ b z.toNat = none) : chQ G b v x = 0 := by
  subst e
  unfold chQ
  by_cases g : 0 ≤ x.1 ∧ x.1 < 12
  · rw [if_pos g, h.resolve_left (by omega)]
    rfl
  · exact if_neg g
theorem seQ_n {G : XG} {b : Nat → Option Nat} {v : Int → Int} {x : Qt} {z : Int} (e : x.1 = z) (h : (z < 0 ∨ 12 ≤ z) ∨ b z.toNat = none) : seQ G b v x = 0 := by
  subst e
  unfold seQ
  by_cases g : 0 ≤ x.1 ∧ x.1 < 12
  · rw [if_pos g, h.resolve_left (by omega)]
    rfl
  · exact if_neg g
theorem chQ_y {G : XG} {b : Nat → Option Nat} {v : Int → Int} {x : Qt} {z s t y : Int} {q : Nat} (e : x.1 = z) (h : 0 ≤ z ∧ z < 12) (hb : b z.toNat = some q) (e1 : x.2.1 = s) (e3 : x.2.2.2.1 = y) (ht : t = stt v (G.1 q 0).toInt (G.1 q 2).toInt (G.1 q 3).toInt (G.1 q 4).toInt s) : (t ≠ y → chQ G b v x = 1) ∧ (t = y → chQ G b v x = 0) := by
  subst e e1 e3 ht
  unfold chQ
  rw [if_pos h, hb]
  exact ⟨fun g => if_pos g, fun g => if_neg (fun k => k g)⟩
theorem seQ_y {G : XG} {b : Nat → Option Nat} {v : Int → Int} {x : Qt} {z s t y : Int} {q : Nat} (e : x.1 = z) (h : 0 ≤ z ∧ z < 12) (hb : b z.toNat = some q) (e1 : x.2.1 = s) (e2 : x.2.2.1 = y) (ht : t = stt v (G.1 q 0).toInt (G.1 q 2).toInt (G.1 q 3).toInt (G.1 q 4).toInt s) : (t = y → seQ G b v x = 1) ∧ (t ≠ y → seQ G b v x = 0) := by
  subst e e1 e2 ht
  unfold seQ
  rw [if_pos h, hb]
  exact ⟨fun g => if_pos g, fun g => if_neg g⟩
/-! what came into the queue, what left it -/
noncomputable def cmO (G : XG) (v : Int → Int) (s y : Int) : Option Nat → Int
  | none => 0
  | some q => if (G.1 q 9).toInt ≠ 0 ∧ y = sttQ G v q s then 1 else 0
noncomputable def lfO (G : XG) (v : Int → Int) (s y w : Int) : Option Nat → Int
  | none => 0
  | some q => if (G.1 q 9).toInt ≠ 0 ∧ y ≠ sttQ G v q s ∧ w = sttQ G v q s then 1 else 0
noncomputable def cmQ (G : XG) (b : Nat → Option Nat) (v : Int → Int) (x : Qt) : Int := if 0 ≤ x.1 ∧ x.1 < 12 then cmO G v x.2.1 x.2.2.1 (b x.1.toNat) else 0
noncomputable def lfQ (G : XG) (b : Nat → Option Nat) (v : Int → Int) (x : Qt) : Int := if 0 ≤ x.1 ∧ x.1 < 12 then lfO G v x.2.1 x.2.2.1 x.2.2.2.1 (b x.1.toNat) else 0
theorem cmQ_n {G : XG} {b : Nat → Option Nat} {v : Int → Int} {x : Qt} {z : Int} (e : x.1 = z) (h : (z < 0 ∨ 12 ≤ z) ∨ b z.toNat = none) : cmQ G b v x = 0 ∧ lfQ G b v x = 0 := by
  subst e
  unfold cmQ lfQ
  by_cases g : 0 ≤ x.1 ∧ x.1 < 12
  · rw [if_pos g, if_pos g, h.resolve_left (by omega)]
    exact ⟨rfl, rfl⟩
  · exact ⟨if_neg g, if_neg g⟩
theorem cmQ_l {G : XG} {b : Nat → Option Nat} {v : Int → Int} {x : Qt} {z : Int} {q : Nat} (e : x.1 = z) (h : 0 ≤ z ∧ z < 12) (hb : b z.toNat = some q) (hl : (G.1 q 9).toInt = 0) : cmQ G b v x = 0 ∧ lfQ G b v x = 0 := by
  subst e
  unfold cmQ lfQ
  rw [if_pos h, if_pos h, hb]
  exact ⟨if_neg (fun k => k.1 hl), if_neg (fun k => k.1 hl)⟩
theorem cmQ_y {G : XG} {b : Nat → Option Nat} {v : Int → Int} {x : Qt} {z s t y w : Int} {q : Nat} (e : x.1 = z) (h : 0 ≤ z ∧ z < 12) (hb : b z.toNat = some q) (hl : (G.1 q 9).toInt ≠ 0) (e1 : x.2.1 = s) (e2 : x.2.2.1 = y) (e3 : x.2.2.2.1 = w) (ht : t = stt v (G.1 q 0).toInt (G.1 q 2).toInt (G.1 q 3).toInt (G.1 q 4).toInt s) : (y = t → cmQ G b v x = 1 ∧ lfQ G b v x = 0) ∧ (y ≠ t → w = t → cmQ G b v x = 0 ∧ lfQ G b v x = 1) ∧ (y ≠ t → w ≠ t → cmQ G b v x = 0 ∧ lfQ G b v x = 0) := by
  subst e e1 e2 e3 ht
  unfold cmQ lfQ
  rw [if_pos h, if_pos h, hb]
  refine ⟨fun g => ⟨if_pos ⟨hl, g⟩, if_neg (fun k => k.2.1 g)⟩, fun g g2 => ⟨if_neg (fun k => g k.2), if_pos ⟨hl, g, g2⟩⟩, fun g g2 => ⟨if_neg (fun k => g k.2), if_neg (fun k => g2 k.2.2)⟩⟩
theorem cmQ_cg {G u : XG} {b : Nat → Option Nat} {v : Int → Int} (h : ∀ i q : Nat, i < 12 → b i = some q → u.1 q = G.1 q) : cmQ u b v = cmQ G b v ∧ lfQ u b v = lfQ G b v := by
  refine ⟨funext (fun x => ?_), funext (fun x => ?_)⟩
  · unfold cmQ
    by_cases g : 0 ≤ x.1 ∧ x.1 < 12
    · rw [if_pos g, if_pos g]
      cases hb : b x.1.toNat with
      | none => rfl
      | some q =>
        have e := h x.1.toNat q (by omega) hb
        show (if (u.1 q 9).toInt ≠ 0 ∧ x.2.2.1 = stt v (u.1 q 0).toInt (u.1 q 2).toInt (u.1 q 3).toInt (u.1 q 4).toInt x.2.1 then (1 : Int) else 0) = (if (G.1 q 9).toInt ≠ 0 ∧ x.2.2.1 = stt v (G.1 q 0).toInt (G.1 q 2).toInt (G.1 q 3).toInt (G.1 q 4).toInt x.2.1 then 1 else 0)
        rw [e]
    · rw [if_neg g, if_neg g]
  · unfold lfQ
    by_cases g : 0 ≤ x.1 ∧ x.1 < 12
    · rw [if_pos g, if_pos g]
      cases hb : b x.1.toNat with
      | none => rfl
      | some q =>
        have e := h x.1.toNat q (by omega) hb
        show (if (u.1 q 9).toInt ≠ 0 ∧ x.2.2.1 ≠ stt v (u.1 q 0).toInt (u.1 q 2).toInt (u.1 q 3).toInt (u.1 q 4).toInt x.2.1 ∧ x.2.2.2.1 = stt v (u.1 q 0).toInt (u.1 q 2).toInt (u.1 q 3).toInt (u.1 q 4).toInt x.2.1 then (1 : Int) else 0) = (if (G.1 q 9).toInt ≠ 0 ∧ x.2.2.1 ≠ stt v (G.1 q 0).toInt (G.1 q 2).toInt (G.1 q 3).toInt (G.1 q 4).toInt x.2.1 ∧ x.2.2.2.1 = stt v (G.1 q 0).toInt (G.1 q 2).toInt (G.1 q 3).toInt (G.1 q 4).toInt x.2.1 then 1 else 0)
        rw [e]
    · rw [if_neg g, if_neg g]
def tlK (b z : Int) : Int := if b = 0 then z else 0
def tlN (b z : Int) : Int := if b = 0 then 0 else z
theorem tlK_0 (z : Int) : tlK 0 z = z := if_pos rfl
theorem tlN_0 (z : Int) : tlN 0 z = 0 := if_pos rfl
theorem tlK_1 (z : Int) : tlK 1 z = 0 := if_neg (by decide)
theorem tlN_1 (z : Int) : tlN 1 z = z := if_neg (by decide)
theorem tlK_z (b : Int) : tlK b 0 = 0 := by unfold tlK; split <;> rfl
theorem tlN_z (b : Int) : tlN b 0 = 0 := by unfold tlN; split <;> rfl
theorem tlK_a (b x y : Int) : tlK b (x + y) = tlK b x + tlK b y := by
  unfold tlK
  by_cases h : b = 0
  · rw [if_pos h, if_pos h, if_pos h]
  · rw [if_neg h, if_neg h, if_neg h, Int.add_zero]
theorem tlN_a (b x y : Int) : tlN b (x + y) = tlN b x + tlN b y := by
  unfold tlN
  by_cases h : b = 0
  · rw [if_pos h, if_pos h, if_pos h, Int.add_zero]
  · rw [if_neg h, if_neg h, if_neg h]
section TALLY
variable {f g h : Nat → Int32} {b C L c l : Int}
theorem tl_0 (p : SI f g (tlK b C) (tlK b L) (tlN b L) (tlN b C) 0 0) (k : c = 0 ∧ l = 0) : SI f g (tlK b (C + c)) (tlK b (L + l)) (tlN b (L + l)) (tlN b (C + c)) 0 0 := by
  obtain ⟨k1, k2⟩ := k
  subst k1 k2
  rw [Int.add_zero, Int.add_zero]
  exact p
theorem tl_t {k0 k1 k2 k3 : Int} (p : SI f g (tlK b C) (tlK b L) (tlN b L) (tlN b C) 0 0) (q : SI g h k0 k1 k2 k3 0 0) (e0 : k0 = tlK b c) (e1 : k1 = tlK b l) (e2 : k2 = tlN b l) (e3 : k3 = tlN b c) : SI f h (tlK b (C + c)) (tlK b (L + l)) (tlN b (L + l)) (tlN b (C + c)) 0 0 := by
  rw [tlK_a, tlK_a, tlN_a, tlN_a]
  exact (p.tr q).cg (by rw [e0]) (by rw [e1]) (by rw [e2]) (by rw [e3]) rfl rfl
end TALLY
/-! what an act leaves behind, within a TRANSACTION -/
noncomputable def acI (op : Int) (L : List Qt) (z : Int) : Int := match fqF (upF prS L) with
  | some _ => 0
  | none => if op = 0 then 0 else z
noncomputable def acJ (op : Int) (L : List Qt) : Int := match fqF (upF prS L) with
  | some _ => if op = 0 then 0 else 1
  | none => 0
theorem ai_s {L : List Qt} {x : Qt} (h : fqF (upF prS L) = some x) (op : Int) : (∀ z, acI op L z = 0) ∧ acJ op L = if op = 0 then 0 else 1 := by
  unfold acI acJ
  rw [h]
  exact ⟨fun _ => rfl, rfl⟩
theorem ai_n {L : List Qt} (h : fqF (upF prS L) = none) {op : Int} (ho : op ≠ 0) : (∀ z, acI op L z = z) ∧ acJ op L = 0 := by
  unfold acI acJ
  rw [h]
  exact ⟨fun _ => if_neg ho, rfl⟩
theorem ai_o {L : List Qt} (h : fqF (upF prS L) = none) {op : Int} (ho : op = 0) : (∀ z, acI op L z = 0) ∧ acJ op L = 0 := by
  unfold acI acJ
  rw [h]
  exact ⟨fun _ => if_pos ho, rfl⟩
/-- the rules in order stand in the book by their numbers -/
def BKx (G : XG) (f0 f1 : Nat → Option Nat) (n : Nat) : Prop := ∀ i q : Nat, i < n → f1 i = some q → (0 ≤ (G.1 q 1).toInt ∧ (G.1 q 1).toInt < 12) ∧ f0 (G.1 q 1).toInt.toNat = some q
theorem uqs_nr {r1 r2 : Int → Int} {q : Nat → Int32} {x : Qt} (h : x ∈ uqs r1 r2 q) : x.1 = (q 1).toInt := by
  unfold uqs at h
  rw [List.mem_filterMap] at h
  obtain ⟨s, -, e⟩ := h
  unfold uq1 at e
  split at e
  · cases e; rfl
  · cases e
theorem BKx.ga {G : XG} {f0 f1 : Nat → Option Nat} {r1 r2 : Int → Int} {w : Int} : ∀ {n : Nat}, BKx G f0 f1 n → ∀ x, x ∈ gaL G f1 r1 r2 w n → inBk G f0 x.1
  | 0, _, x, h => absurd h List.not_mem_nil
  | n + 1, hb, x, h => by
    rw [gaL_s, List.mem_append] at h
    rcases h with h | h
    · exact BKx.ga (fun i q hi => hb i q (by omega)) x h
    · cases hq : f1 n with
      | none => rw [hq] at h; exact absurd h List.not_mem_nil
      | some q =>
        rw [hq] at h
        have h2 : x ∈ uqs r1 r2 (G.1 q) := by
          by_cases c : w = 0 ∨ ((G.1 q 9).toInt = 1 ∧ w = 1) ∨ ((G.1 q 9).toInt = 0 ∧ w ≠ 1)
          · rw [gaq_t c] at h; exact h
          · rw [gaq_f c] at h; exact absurd h List.not_mem_nil
        have e := uqs_nr h2
        obtain ⟨a, c⟩ := hb n q (by omega) hq
        rw [e]
        exact ⟨a, q, c, rfl⟩
theorem BKx.cg {G u : XG} {f0 f1 : Nat → Option Nat} {n : Nat} (h : BKx G f0 f1 n) (h2 : ∀ i q : Nat, i < n → f1 i = some q → u.1 q = G.1 q) : BKx u f0 f1 n := fun i q hi hq => by
  rw [h2 i q hi hq]
  exact h i q hi hq
/-- an act: refused ahead of all questions, or asked about -/
def ActT (go : Prop) (op : Int) (L w0 w1 : List Qt) (u : XG) (v : Nat) (f g s t : Nat → Int32) (cm lf : Int) : Prop :=
  (¬ go ∧ w1 = w0 ∧ (u.1 v 1).toInt = 0 ∧ SF f g 0 0 0 0 ∧ SI s t 0 0 0 0 0 (if op = 0 then 0 else 1)) ∨
  (go ∧ acA op L w0 w1 ∧ TV0 u v (acV op L) ∧ SF f g (acK op L) (acC op L) (acB op L) 0 ∧ SI s t (acI op L cm) (acI op L lf) 0 0 (acI op L 1) (acJ op L))
/-! late rules -/
noncomputable def lcI (G : XG) (f : Nat → Option Nat) (j : Int) : Int := match f j.toNat with
  | none => 0
  | some q => if (G.1 q 9).toInt ≠ 0 then 1 else 0
theorem lcI_n {G : XG} {f : Nat → Option Nat} {j : Int} (h : f j.toNat = none) : lcI G f j = 0 := by
  unfold lcI
  cases hf : f j.toNat with
  | none => rfl
  | some q => rw [hf] at h; cases h
theorem lcI_y {G : XG} {f : Nat → Option Nat} {j : Int} {q : Nat} (h : f j.toNat = some q) : ((G.1 q 9).toInt ≠ 0 → lcI G f j = 1) ∧ ((G.1 q 9).toInt = 0 → lcI G f j = 0) := by
  unfold lcI
  rw [h]
  exact ⟨fun e => if_pos e, fun e => if_neg (fun k => k e)⟩
def lmI (f : Nat → Int32) (j : Int) : Int := if aI f (10 * j + 0) ≠ -1 then aI f (10 * j + 6) else 0
theorem lmI_st (f : Nat → Int32) (j : Int) : (aI f (10 * j + 0) ≠ -1 → lmI f j = aI f (10 * j + 6)) ∧ (aI f (10 * j + 0) = -1 → lmI f j = 0) := ⟨fun h => if_pos h, fun h => if_neg (fun k => k h)⟩
end
theorem v_X10_tally_56_1 {F : Nat → Nat → Nat} (a : Nat) (G : XG) (G_2 : XG)
    (rob : RO (vw (G.2.1 (F (F a 4) 0))) (aI (G.2.1 (F (F a 4) 1))))
    (c_G_2_F_F_a_4_0 : G_2.2.1 (F (F a 4) 0) = G.2.1 (F (F a 4) 0))
    (c_G_2_F_F_a_4_1 : G_2.2.1 (F (F a 4) 1) = G.2.1 (F (F a 4) 1)) :
    RO (vw (G_2.2.1 (F (F a 4) 0))) (aI (G_2.2.1 (F (F a 4) 1))) := by simp only [c_G_2_F_F_a_4_0, c_G_2_F_F_a_4_1]; assumption
theorem v_X10_tally_56_2 {K : Nat → Nat} {F : Nat → Nat → Nat} (a : Nat) (q25 : Nat) (G : XG) (G_2 : XG) (x22 : Int32) (l2_2 : Int32) (N2 : Nat) (x53 : Int32)
    (ha : K a = 12)
    (bkn : BKr K G (G.2.2.1 (F (F a 2) 0)))
    (hs25 : G_2.2.2.1 (F (F a 2) 0) (x22.toInt).toNat = some q25)
    (I2_0 : (0 : Int) ≤ l2_2.toInt)
    (hm2 : 2147483648 - l2_2.toInt < (((N2) + 1 : Nat) : Int))
    (c10 : ¬ (((G.1 (F a 9) 6).toInt) ≤ l2_2.toInt))
    (t22 : ((0 ≤ l2_2.toInt ∧ l2_2.toInt < ((G.1 (F a 9) 6).toInt) ∧ l2_2.toInt < 1080) ∧ x22.toInt = (aI (G.2.1 (F (F a 9) 0)) (l2_2.toInt))) ∨ (¬ (0 ≤ l2_2.toInt ∧ l2_2.toInt < ((G.1 (F a 9) 6).toInt) ∧ l2_2.toInt < 1080) ∧ x22.toInt = -1))
    (ht25 : 0 ≤ x22.toInt ∧ x22.toInt < 12)
    (f26 : ((G.1 q25 9).toInt) = 0 ∨ ((G.1 q25 9).toInt) = 1)
    (c37 : ((G.1 q25 9).toInt) ≠ 0)
    (t53 : ((0 ≤ l2_2.toInt ∧ l2_2.toInt < ((G.1 (F a 9) 6).toInt) ∧ l2_2.toInt < 1080) ∧ x53.toInt = (aI (G.2.1 (F (F a 9) 1)) (l2_2.toInt))) ∨ (¬ (0 ≤ l2_2.toInt ∧ l2_2.toInt < ((G.1 (F a 9) 6).toInt) ∧ l2_2.toInt < 1080) ∧ x53.toInt = -1))
    (r_G_2_F_F_a_2_0 : G_2.2.2.1 (F (F a 2) 0) = G.2.2.1 (F (F a 2) 0))
    (D_G_2_q25 : G_2.1 q25 = G.1 q25) :
    RW (G_2.1 q25) := by
  rw [D_G_2_q25]
  exact (bkn x22.toInt.toNat q25 (by omega) (by rw [← r_G_2_F_F_a_2_0]; exact hs25)).2
theorem z_X10_tally_1 (a0 : Int) (h0 : -2147483648 ≤ a0 ∧ a0 < 2147483648) : ¬ (2147483648 - a0 < ((0 : Nat) : Int)) := by omega
theorem z_X10_tally_2 (a0 : Int) (a1 : Int) (a2 : Int) (h0 : (0 : Int) ≤ a0) (h1 : ¬ (a2 ≤ a0)) (h2 : a1 = (a0 + 1) ∨ (a0 + 1) < -2147483648 ∨ 2147483648 ≤ (a0 + 1)) (h3 : -2147483648 ≤ a2 ∧ a2 < 2147483648) : a1 = (a0 + 1) := by omega
theorem z_X10_tally_3 (a0 : Int) (h0 : (0 : Int) ≤ a0) : (0 : Int) ≤ (a0 + 1) := by omega
theorem z_X10_tally_4 (a0 : Int) (a1 : Nat) (h0 : 2147483648 - a0 < ((a1 + 1 : Nat) : Int)) : 2147483648 - (a0 + 1) < ((a1 : Nat) : Int) := by omega
abbrev rm_X10_tally : Room := { frames := 3, cells := 0, slots := 0, locals := 72 }
set_option maxHeartbeats 4000000 in
set_option maxRecDepth 100000 in
theorem c_X10_tally (l : Launch) (E : XE) (K : Nat → Nat) (F : Nat → Nat → Nat) (G : XG) (a : Nat) (p0 : Int32) (ha : K a = 12) (b0 : p0 = 0 ∨ p0 = 1) (rob : RO (vw (G.2.1 (F (F a 4) 0))) (aI (G.2.1 (F (F a 4) 1)))) (bkn : BKr K G (G.2.2.1 (F (F a 2) 0))) : Met l yX10_tally (xw yX10_tally cX10_tally 5 none) rm_X10_tally (va_Pc [.ref a, .int p0] (XP E K F G)) (XQv E (fun (u : XG) => XFr [] [F a 15] [] G u) (fun u H => TW E K F u H)) 0 0 (xA E) := by
  refine x_enter (by decide) (Nat.le_of_ble_eq_true rfl) ?_
  intro p e s m args below meth c Q S hr hlk hnm hQ hP ls hl
  obtain ⟨hz, hK, hT⟩ := hP
  obtain ⟨hx, hb, -, -, -⟩ := id S
  obtain ⟨H, hT, hS, hgo⟩ : ∃ H : Heap, TW E K F G H ∧ va_S (xA E) s.heap H [] ∧ H = s.heap := ⟨_, hT, va_S.rf, rfl⟩
  rw [← hgo]
  have hl : lv_has ls 5 [(0, .ref a), (1, .int p0)] := hl
  obtain ⟨hk9999, hj9999⟩ := fkX10_15 hT ha
  obtain ⟨hk9999a, hj9999a⟩ := fkX10_2 hT ha
  obtain ⟨hk9999b, hj9999b⟩ := fkX0_0 hT hk9999a
  obtain ⟨hk9999c, hj9999c⟩ := fkX10_4 hT ha
  obtain ⟨hk9999d, hj9999d⟩ := fkX6_0 hT hk9999c
  have hj9999e : F (F (F a 4) 0) 99 = 1 := by rw [hj9999d, hj9999c]
  obtain ⟨hk9999e, hj9999f⟩ := fkX6_1 hT hk9999c
  have hj9999g : F (F (F a 4) 1) 99 = 1 := by rw [hj9999f, hj9999c]
  refine lv_iconst (v := 0) hx hb dX10_tally_0 (by decide) ?_
  refine lv_istore_n (lv' := [(2, .int 0), (0, .ref a), (1, .int p0)]) hx hb dX10_tally_1 rfl hl (by decide) rfl (fun ls hl => ?_)
  have L2 : ∀ (N2 : Nat) (l2_2 : Int32) (G_2 : XG) (H : Heap) (locs : List Loc) (ls : Array Slot), XFr [] [F a 15] [] G G_2 → (0 : Int) ≤ l2_2.toInt → 2147483648 - l2_2.toInt < ((N2 : Nat) : Int) → TW E K F G_2 H → va_S (xA E) s.heap H locs → lv_has ls 5 [(0, .ref a), (1, .int p0), (2, .int l2_2)] → W p l e rm_X10_tally s m args below meth c H locs 0 0 Q (F0 m 2 ls []) := by
    intro N2
    induction N2 with
    | zero =>
      intro l2_2 G_2 H locs ls hF_2 I2_0 hm2
      exact absurd hm2 (z_X10_tally_1 l2_2.toInt (xr l2_2))
    | succ N2 ih2 =>
      intro l2_2 G_2 H locs ls hF_2 I2_0 hm2 hT hS hl
      refine lv_iload_n hx hb dX10_tally_2 rfl (lv_at hl 2 rfl) ?_
      refine lv_aload_n hx hb dX10_tally_3 rfl (lv_at hl 0 rfl) ?_
      obtain ⟨hk4, hj4⟩ := fkX10_9 hT ha
      refine gX10_9 S hK hT ha kf_X10_61 dX10_tally_4 (fun _ _ => ?_)
      refine x_clp (x_runV (b := (F a 9)) (As := []) (rest := [.int l2_2]) S (c_X4_size l E K F G_2 H (F a 9) hk4) mv_X4_size km_X10_232 rfl rfl ⟨Nat.le_of_ble_eq_true rfl, Nat.le_of_ble_eq_true rfl⟩ (rc_6 hK hT hk4) hK (fun _ => XPh.blind) (fun U hU hW => XPh.at hK hz hS hT hU hW) rfl hl.1 (Nat.le_of_ble_eq_true rfl) dX10_tally_7 ⟨Nat.le_of_ble_eq_true rfl, Nat.le_of_ble_eq_true rfl⟩) hS ?_
      rintro _ _ locs ⟨x7, rfl, t7⟩ hS
      have t7 : x7.toInt = ((G.1 (F a 9) 6).toInt) := by rw [(show (G_2.1 (F a 9) 6).toInt = ((G.1 (F a 9) 6).toInt) from (congrArg Int32.toInt (hF_2.1 _ _ xn0)).trans (rfl : Int32.toInt (G.1 (F a 9) 6) = ((G.1 (F a 9) 6).toInt)))] at t7; exact t7
      refine xi_cge (tgt := 132) hx hb (rfl : Int32.toInt l2_2 = l2_2.toInt) (t7 : Int32.toInt x7 = ((G.1 (F a 9) 6).toInt)) dX10_tally_10 (by decide) (fun c10 => ?_) (fun c10 => ?_)
      · exact x_rv hx hb hr hlk hQ (Nat.le_of_ble_eq_true rfl) (Nat.le_of_ble_eq_true rfl) hS dX10_tally_132 G_2 (XFr.call XFr.rf hF_2 xm0 (xm1 0 rfl xm0) xm0) hT
      · refine lv_aload_n hx hb dX10_tally_13 rfl (lv_at hl 0 rfl) ?_
        refine gX10_2 S hK hT ha kf_X10_30 dX10_tally_14 (fun _ _ => ?_)
        refine lv_aload_n hx hb dX10_tally_17 rfl (lv_at hl 0 rfl) ?_
        refine gX10_9 S hK hT ha kf_X10_61 dX10_tally_18 (fun _ _ => ?_)
        refine lv_iload_n hx hb dX10_tally_21 rfl (lv_at hl 2 rfl) ?_
        refine x_clp (x_runV (b := (F a 9)) (As := [.int l2_2]) (rest := [.ref (F a 2)]) S (c_X4_number l E K F G_2 H (F a 9) l2_2 hk4) mv_X4_number km_X10_301 rfl rfl ⟨Nat.le_of_ble_eq_true rfl, Nat.le_of_ble_eq_true rfl⟩ (rc_6 hK hT hk4) hK (fun _ => XPh.blind) (fun U hU hW => XPh.at hK hz hS hT hU hW) rfl hl.1 (Nat.le_of_ble_eq_true rfl) dX10_tally_22 ⟨Nat.le_of_ble_eq_true rfl, Nat.le_of_ble_eq_true rfl⟩) hS ?_
        rintro _ _ locs ⟨x22, rfl, t22⟩ hS
        obtain ⟨hk22, hj22⟩ := fkX4_0 hT hk4
        have hj22a : F (F (F a 9) 0) 99 = 10 * 1 + 0 := by rw [hj22, hj4]
        have t22 : ((0 ≤ l2_2.toInt ∧ l2_2.toInt < ((G.1 (F a 9) 6).toInt) ∧ l2_2.toInt < 1080) ∧ x22.toInt = (aI (G.2.1 (F (F a 9) 0)) (l2_2.toInt))) ∨ (¬ (0 ≤ l2_2.toInt ∧ l2_2.toInt < ((G.1 (F a 9) 6).toInt) ∧ l2_2.toInt < 1080) ∧ x22.toInt = -1) := by rw [(show (G_2.1 (F a 9) 6).toInt = ((G.1 (F a 9) 6).toInt) from (congrArg Int32.toInt (hF_2.1 _ _ xn0)).trans (rfl : Int32.toInt (G.1 (F a 9) 6) = ((G.1 (F a 9) 6).toInt)))] at t22; rw [(show G_2.2.1 (F (F a 9) 0) = G.2.1 (F (F a 9) 0) from (hF_2.2.1 _ (xn1 (xne_k hk22 hk9999 (by decide)) xn0)))] at t22; exact t22
        refine x_clp (x_runV (b := (F a 2)) (As := [.int x22]) (rest := []) S (c_X0_get l E K F G_2 H (F a 2) x22 hk9999a) mv_X0_get km_X10_159 rfl rfl ⟨Nat.le_of_ble_eq_true rfl, Nat.le_of_ble_eq_true rfl⟩ (rc_2 hK hT hk9999a) hK (fun _ => XPh.blind) (fun U hU hW => XPh.at hK hz hS hT hU hW) rfl hl.1 (Nat.le_of_ble_eq_true rfl) dX10_tally_25 ⟨Nat.le_of_ble_eq_true rfl, Nat.le_of_ble_eq_true rfl⟩) hS ?_
        rintro _ _ locs (⟨rfl, hn25⟩ | ⟨q25, rfl, hk25, ht25, hs25⟩) hS
        · refine lv_astore_nN (lv' := [(3, .null), (0, .ref a), (1, .int p0), (2, .int l2_2)]) hx hb dX10_tally_28 rfl hl (by decide) rfl (fun ls hl => ?_)
          refine lv_aload_nN hx hb dX10_tally_29 rfl (lv_at hl 0 rfl) ?_
          refine lv_ifnullN (tgt := 126) hx hb dX10_tally_30 (by decide) ?_
          refine xi_iinc (n := 1) (lv' := fun z9 => [(2, .int z9), (3, .null), (0, .ref a), (1, .int p0)]) (k := 3) hx hb (rfl : Int32.toInt l2_2 = l2_2.toInt) (by decide) dX10_tally_126 hl rfl (by decide) (fun _ => rfl) (fun x126 ls t126 hl => ?_)
          have e126 : x126.toInt = (l2_2.toInt + 1) := (z_X10_tally_2 l2_2.toInt x126.toInt ((G.1 (F a 9) 6).toInt) I2_0 c10 t126 (xr (G.1 (F a 9) 6)))
          have hl : lv_has ls 5 [(2, .int x126), (3, .null), (0, .ref a), (1, .int p0)] := hl
          refine lv_goto (tgt := 2) hx hb dX10_tally_129 (by decide) ?_
          exact ih2 x126 G_2 _ _ _ (XFr.call XFr.rf hF_2 xm0 (xm1 0 rfl xm0) xm0) (by rw [(e126 : Int32.toInt x126 = (l2_2.toInt + 1))] <;> exact (z_X10_tally_3 l2_2.toInt I2_0)) (by rw [(e126 : Int32.toInt x126 = (l2_2.toInt + 1))] <;> exact (z_X10_tally_4 l2_2.toInt N2 hm2)) hT hS (lv_sub hl [2, 3, 0] rfl)
        · have ht25 : 0 ≤ x22.toInt ∧ x22.toInt < 12 := ht25
          refine lv_astore_n (lv' := [(3, .ref q25), (0, .ref a), (1, .int p0), (2, .int l2_2)]) hx hb dX10_tally_28 rfl hl (by decide) rfl (fun ls hl => ?_)
          refine lv_aload_n hx hb dX10_tally_29 rfl (lv_at hl 0 rfl) ?_
          refine lv_ifnull hx hb dX10_tally_30 ?_
          refine lv_aload_n hx hb dX10_tally_33 rfl (lv_at hl 0 rfl) ?_
          refine gX7_9 S hK hT hk25 kf_X10_170 dX10_tally_34 (v := (G.1 q25 9)) (hF_2.1 _ _ xn0) (fun hz34 => ?_)
          refine xi_zne (tgt := 43) hx hb (rfl : Int32.toInt (G.1 q25 9) = ((G.1 q25 9).toInt)) dX10_tally_37 (by decide) (fun c37 => ?_) (fun c37 => ?_)
          · refine lv_aload_n hx hb dX10_tally_43 rfl (lv_at hl 0 rfl) ?_
            refine lv_aload_n hx hb dX10_tally_44 rfl (lv_at hl 1 rfl) ?_
            refine gX10_4 S hK hT ha kf_X10_41 dX10_tally_45 (fun _ _ => ?_)
            refine lv_aload_n hx hb dX10_tally_48 rfl (lv_at hl 1 rfl) ?_
            refine gX10_9 S hK hT ha kf_X10_61 dX10_tally_49 (fun _ _ => ?_)
            refine lv_iload_n hx hb dX10_tally_52 rfl (lv_at hl 3 rfl) ?_
            refine x_clp (x_runV (b := (F a 9)) (As := [.int l2_2]) (rest := [.ref (F a 4), .ref q25]) S (c_X4_subject l E K F G_2 H (F a 9) l2_2 hk4) mv_X4_subject km_X10_147 rfl rfl ⟨Nat.le_of_ble_eq_true rfl, Nat.le_of_ble_eq_true rfl⟩ (rc_6 hK hT hk4) hK (fun _ => XPh.blind) (fun U hU hW => XPh.at hK hz hS hT hU hW) rfl hl.1 (Nat.le_of_ble_eq_true rfl) dX10_tally_53 ⟨Nat.le_of_ble_eq_true rfl, Nat.le_of_ble_eq_true rfl⟩) hS ?_
            rintro _ _ locs ⟨x53, rfl, t53⟩ hS
            obtain ⟨hk53, hj53⟩ := fkX4_1 hT hk4
            have hj53a : F (F (F a 9) 1) 99 = 10 * 1 + 1 := by rw [hj53, hj4]
            have t53 : ((0 ≤ l2_2.toInt ∧ l2_2.toInt < ((G.1 (F a 9) 6).toInt) ∧ l2_2.toInt < 1080) ∧ x53.toInt = (aI (G.2.1 (F (F a 9) 1)) (l2_2.toInt))) ∨ (¬ (0 ≤ l2_2.toInt ∧ l2_2.toInt < ((G.1 (F a 9) 6).toInt) ∧ l2_2.toInt < 1080) ∧ x53.toInt = -1) := by rw [(show (G_2.1 (F a 9) 6).toInt = ((G.1 (F a 9) 6).toInt) from (congrArg Int32.toInt (hF_2.1 _ _ xn0)).trans (rfl : Int32.toInt (G.1 (F a 9) 6) = ((G.1 (F a 9) 6).toInt)))] at t53; rw [(show G_2.2.1 (F (F a 9) 1) = G.2.1 (F (F a 9) 1) from (hF_2.2.1 _ (xn1 (xne_k hk53 hk9999 (by decide)) xn0)))] at t53; exact t53
            refine x_clp (x_runV (b := q25) (As := [.ref (F a 4), .int x53]) (rest := []) S (c_X7_state l E K F G_2 H q25 (F a 4) x53 hk25 hk9999c (v_X10_tally_56_1 (F := F) a G G_2 rob (hF_2.2.1 _ (xn1 (xne_k hk9999d hk9999 (by decide)) xn0)) (hF_2.2.1 _ (xn1 (xne_k hk9999e hk9999 (by decide)) xn0))) (v_X10_tally_56_2 (K := K) (F := F) a q25 G G_2 x22 l2_2 N2 x53 ha bkn hs25 I2_0 hm2 c10 t22 ht25 (xzi hz34) c37 t53 (hF_2.2.2 _ xn0) (fr_A hF_2 (fun _ => xn0)))) mv_X7_state km_X10_328 rfl rfl ⟨Nat.le_of_ble_eq_true rfl, Nat.le_of_ble_eq_true rfl⟩ (rc_9 hK hT hk25) hK (fun _ => XPh.blind) (fun U hU hW => XPh.at hK hz hS hT hU hW) rfl hl.1 (Nat.le_of_ble_eq_true rfl) dX10_tally_56 ⟨Nat.le_of_ble_eq_true rfl, Nat.le_of_ble_eq_true rfl⟩) hS ?_
            rintro _ _ locs ⟨x56, rfl, t56⟩ hS
            have t56 : x56.toInt = (stt (vw (G.2.1 (F (F a 4) 0))) ((G.1 q25 0).toInt) ((G.1 q25 2).toInt) ((G.1 q25 3).toInt) ((G.1 q25 4).toInt) (x53.toInt)) := by rw [(show G_2.2.1 (F (F a 4) 0) = G.2.1 (F (F a 4) 0) from (hF_2.2.1 _ (xn1 (xne_k hk9999d hk9999 (by decide)) xn0)))] at t56; rw [(show (G_2.1 q25 0).toInt = ((G.1 q25 0).toInt) from (congrArg Int32.toInt (hF_2.1 _ _ xn0)).trans (rfl : Int32.toInt (G.1 q25 0) = ((G.1 q25 0).toInt)))] at t56; rw [(show (G_2.1 q25 2).toInt = ((G.1 q25 2).toInt) from (congrArg Int32.toInt (hF_2.1 _ _ xn0)).trans (rfl : Int32.toInt (G.1 q25 2) = ((G.1 q25 2).toInt)))] at t56; rw [(show (G_2.1 q25 3).toInt = ((G.1 q25 3).toInt) from (congrArg Int32.toInt (hF_2.1 _ _ xn0)).trans (rfl : Int32.toInt (G.1 q25 3) = ((G.1 q25 3).toInt)))] at t56; rw [(show (G_2.1 q25 4).toInt = ((G.1 q25 4).toInt) from (congrArg Int32.toInt (hF_2.1 _ _ xn0)).trans (rfl : Int32.toInt (G.1 q25 4) = ((G.1 q25 4).toInt)))] at t56; exact t56
            refine lv_istore (lv' := [(4, .int x56), (3, .ref q25), (0, .ref a), (1, .int p0), (2, .int l2_2)]) hx hb dX10_tally_59 hl (by decide) rfl (fun ls hl => ?_)
            refine lv_aload_n hx hb dX10_tally_61 rfl (lv_at hl 2 rfl) ?_
            refine gX10_9 S hK hT ha kf_X10_61 dX10_tally_62 (fun _ _ => ?_)
            refine lv_iload_n hx hb dX10_tally_65 rfl (lv_at hl 4 rfl) ?_
            refine x_clp (x_runV (b := (F a 9)) (As := [.int l2_2]) (rest := []) S (c_X4_before l E K F G_2 H (F a 9) l2_2 hk4) mv_X4_before km_X10_303 rfl rfl ⟨Nat.le_of_ble_eq_true rfl, Nat.le_of_ble_eq_true rfl⟩ (rc_6 hK hT hk4) hK (fun _ => XPh.blind) (fun U hU hW => XPh.at hK hz hS hT hU hW) rfl hl.1 (Nat.le_of_ble_eq_true rfl) dX10_tally_66 ⟨Nat.le_of_ble_eq_true rfl, Nat.le_of_ble_eq_true rfl⟩) hS ?_
            rintro _ _ locs ⟨x66, rfl, t66⟩ hS
            obtain ⟨hk66, hj66⟩ := fkX4_2 hT hk4
            have hj66a : F (F (F a 9) 2) 99 = 10 * 1 + 2 := by rw [hj66, hj4]
            have t66 : ((0 ≤ l2_2.toInt ∧ l2_2.toInt < ((G.1 (F a 9) 6).toInt) ∧ l2_2.toInt < 1080) ∧ x66.toInt = (aI (G.2.1 (F (F a 9) 2)) (l2_2.toInt))) ∨ (¬ (0 ≤ l2_2.toInt ∧ l2_2.toInt < ((G.1 (F a 9) 6).toInt) ∧ l2_2.toInt < 1080) ∧ x66.toInt = -2000) := by rw [(show (G_2.1 (F a 9) 6).toInt = ((G.1 (F a 9) 6).toInt) from (congrArg Int32.toInt (hF_2.1 _ _ xn0)).trans (rfl : Int32.toInt (G.1 (F a 9) 6) = ((G.1 (F a 9) 6).toInt)))] at t66; rw [(show G_2.2.1 (F (F a 9) 2) = G.2.1 (F (F a 9) 2) from (hF_2.2.1 _ (xn1 (xne_k hk66 hk9999 (by decide)) xn0)))] at t66; exact t66
            refine lv_iload hx hb dX10_tally_69 (lv_at hl 0 rfl) ?_
            refine xi_cne (tgt := 95) hx hb (rfl : Int32.toInt x66 = x66.toInt) (t56 : Int32.toInt x56 = (stt (vw (G.2.1 (F (F a 4) 0))) ((G.1 q25 0).toInt) ((G.1 q25 2).toInt) ((G.1 q25 3).toInt) ((G.1 q25 4).toInt) (x53.toInt))) dX10_tally_71 (by decide) (fun c71 => ?_) (fun c71 => ?_)
            · refine lv_aload_n hx hb dX10_tally_95 rfl (lv_at hl 2 rfl) ?_
              refine gX10_9 S hK hT ha kf_X10_61 dX10_tally_96 (fun _ _ => ?_)
              refine lv_iload_n hx hb dX10_tally_99 rfl (lv_at hl 4 rfl) ?_
              refine x_clp (x_runV (b := (F a 9)) (As := [.int l2_2]) (rest := []) S (c_X4_after l E K F G_2 H (F a 9) l2_2 hk4) mv_X4_after km_X10_306 rfl rfl ⟨Nat.le_of_ble_eq_true rfl, Nat.le_of_ble_eq_true rfl⟩ (rc_6 hK hT hk4) hK (fun _ => XPh.blind) (fun U hU hW => XPh.at hK hz hS hT hU hW) rfl hl.1 (Nat.le_of_ble_eq_true rfl) dX10_tally_100 ⟨Nat.le_of_ble_eq_true rfl, Nat.le_of_ble_eq_true rfl⟩) hS ?_
              rintro _ _ locs ⟨x100, rfl, t100⟩ hS
              obtain ⟨hk100, hj100⟩ := fkX4_3 hT hk4
              have hj100a : F (F (F a 9) 3) 99 = 10 * 1 + 3 := by rw [hj100, hj4]
              have t100 : ((0 ≤ l2_2.toInt ∧ l2_2.toInt < ((G.1 (F a 9) 6).toInt) ∧ l2_2.toInt < 1080) ∧ x100.toInt = (aI (G.2.1 (F (F a 9) 3)) (l2_2.toInt))) ∨ (¬ (0 ≤ l2_2.toInt ∧ l2_2.toInt < ((G.1 (F a 9) 6).toInt) ∧ l2_2.toInt < 1080) ∧ x100.toInt = -2000) := by rw [(show (G_2.1 (F a 9) 6).toInt = ((G.1 (F a 9) 6).toInt) from (congrArg Int32.toInt (hF_2.1 _ _ xn0)).trans (rfl : Int32.toInt (G.1 (F a 9) 6) = ((G.1 (F a 9) 6).toInt)))] at t100; rw [(show G_2.2.1 (F (F a 9) 3) = G.2.1 (F (F a 9) 3) from (hF_2.2.1 _ (xn1 (xne_k hk100 hk9999 (by decide)) xn0)))] at t100; exact t100
              refine lv_iload hx hb dX10_tally_103 (lv_at hl 0 rfl) ?_
              refine xi_cne (tgt := 126) hx hb (rfl : Int32.toInt x100 = x100.toInt) (t56 : Int32.toInt x56 = (stt (vw (G.2.1 (F (F a 4) 0))) ((G.1 q25 0).toInt) ((G.1 q25 2).toInt) ((G.1 q25 3).toInt) ((G.1 q25 4).toInt) (x53.toInt))) dX10_tally_105 (by decide) (fun c105 => ?_) (fun c105 => ?_)
              · refine xi_iinc (n := 1) (lv' := fun z9 => [(2, .int z9), (4, .int x56), (3, .ref q25), (0, .ref a), (1, .int p0)]) (k := 4) hx hb (rfl : Int32.toInt l2_2 = l2_2.toInt) (by decide) dX10_tally_126 hl rfl (by decide) (fun _ => rfl) (fun x126 ls t126 hl => ?_)
                have e126 : x126.toInt = (l2_2.toInt + 1) := (z_X10_tally_2 l2_2.toInt x126.toInt ((G.1 (F a 9) 6).toInt) I2_0 c10 t126 (xr (G.1 (F a 9) 6)))
                have hl : lv_has ls 5 [(2, .int x126), (4, .int x56), (3, .ref q25), (0, .ref a), (1, .int p0)] := hl
                refine lv_goto (tgt := 2) hx hb dX10_tally_129 (by decide) ?_
                exact ih2 x126 G_2 _ _ _ (XFr.call XFr.rf hF_2 xm0 (xm1 0 rfl xm0) xm0) (by rw [(e126 : Int32.toInt x126 = (l2_2.toInt + 1))] <;> exact (z_X10_tally_3 l2_2.toInt I2_0)) (by rw [(e126 : Int32.toInt x126 = (l2_2.toInt + 1))] <;> exact (z_X10_tally_4 l2_2.toInt N2 hm2)) hT hS (lv_sub hl [3, 4, 0] rfl)
              · refine lv_aload_n hx hb dX10_tally_108 rfl (lv_at hl 2 rfl) ?_
                refine gX10_15 S hK hT ha kf_X10_95 dX10_tally_109 (fun _ _ => ?_)
                refine lv_iload_n hx hb dX10_tally_112 rfl (lv_at hl 3 rfl) ?_
                refine xi_zeq (tgt := 120) hx hb (rfl : Int32.toInt p0 = p0.toInt) dX10_tally_113 (by decide) (fun c113 => ?_) (fun c113 => ?_)
                · refine lv_iconst (v := 1) hx hb dX10_tally_120 (by decide) ?_
                  refine lv_dup2_11 hx hb dX10_tally_121 rfl rfl ?_
                  refine al_0 S hK hT hk9999 ar_26 (by decide) (by decide) dX10_tally_122 (fun x122 hv122 o122 => ?_)
                  have hv122 : x122.toInt = (aI (G_2.2.1 (F a 15)) 1) := hv122.trans (by rw [((by decide) : Int32.toInt 1 = (1 : Int))])
                  refine lv_iconst (v := 1) hx hb dX10_tally_123 (by decide) ?_
                  refine xi_iadd hx hb (hv122 : Int32.toInt x122 = (aI (G_2.2.1 (F a 15)) 1)) ((by decide) : Int32.toInt 1 = (1 : Int)) dX10_tally_124 (fun x124 t124 => ?_)
                  refine as_0 (x := x124) S hK hT hS hk9999 ar_26 aw_26 (by decide) (by decide) dX10_tally_125 (fun H locs hT hS => ?_)
                  obtain ⟨G125, hG125⟩ : ∃ GG : XG, GG = cput G_2 (F a 15) (1 : Int32).toNatClampNeg x124 := ⟨_, rfl⟩
                  rw [← hG125] at hT
                  refine xi_iinc (n := 1) (lv' := fun z9 => [(2, .int z9), (4, .int x56), (3, .ref q25), (0, .ref a), (1, .int p0)]) (k := 4) hx hb (rfl : Int32.toInt l2_2 = l2_2.toInt) (by decide) dX10_tally_126 hl rfl (by decide) (fun _ => rfl) (fun x126 ls t126 hl => ?_)
                  have e126 : x126.toInt = (l2_2.toInt + 1) := (z_X10_tally_2 l2_2.toInt x126.toInt ((G.1 (F a 9) 6).toInt) I2_0 c10 t126 (xr (G.1 (F a 9) 6)))
                  have hl : lv_has ls 5 [(2, .int x126), (4, .int x56), (3, .ref q25), (0, .ref a), (1, .int p0)] := hl
                  refine lv_goto (tgt := 2) hx hb dX10_tally_129 (by decide) ?_
                  exact ih2 x126 G125 _ _ _ (by rw [hG125]; exact XFr.cput (XFr.call XFr.rf hF_2 xm0 (xm1 0 rfl xm0) xm0) (List.mem_of_getElem? (i := 0) rfl)) (by rw [(e126 : Int32.toInt x126 = (l2_2.toInt + 1))] <;> exact (z_X10_tally_3 l2_2.toInt I2_0)) (by rw [(e126 : Int32.toInt x126 = (l2_2.toInt + 1))] <;> exact (z_X10_tally_4 l2_2.toInt N2 hm2)) hT hS (lv_sub hl [3, 4, 0] rfl)
                · refine lv_iconst (v := 2) hx hb dX10_tally_116 (by decide) ?_
                  refine lv_goto (tgt := 121) hx hb dX10_tally_117 (by decide) ?_
                  refine lv_dup2_11 hx hb dX10_tally_121 rfl rfl ?_
                  refine al_0 S hK hT hk9999 ar_26 (by decide) (by decide) dX10_tally_122 (fun x122 hv122 o122 => ?_)
                  have hv122 : x122.toInt = (aI (G_2.2.1 (F a 15)) 2) := hv122.trans (by rw [((by decide) : Int32.toInt 2 = (2 : Int))])
                  refine lv_iconst (v := 1) hx hb dX10_tally_123 (by decide) ?_
                  refine xi_iadd hx hb (hv122 : Int32.toInt x122 = (aI (G_2.2.1 (F a 15)) 2)) ((by decide) : Int32.toInt 1 = (1 : Int)) dX10_tally_124 (fun x124 t124 => ?_)
                  refine as_0 (x := x124) S hK hT hS hk9999 ar_26 aw_26 (by decide) (by decide) dX10_tally_125 (fun H locs hT hS => ?_)
                  obtain ⟨G125, hG125⟩ : ∃ GG : XG, GG = cput G_2 (F a 15) (2 : Int32).toNatClampNeg x124 := ⟨_, rfl⟩
                  rw [← hG125] at hT
                  refine xi_iinc (n := 1) (lv' := fun z9 => [(2, .int z9), (4, .int x56), (3, .ref q25), (0, .ref a), (1, .int p0)]) (k := 4) hx hb (rfl : Int32.toInt l2_2 = l2_2.toInt) (by decide) dX10_tally_126 hl rfl (by decide) (fun _ => rfl) (fun x126 ls t126 hl => ?_)
                  have e126 : x126.toInt = (l2_2.toInt + 1) := (z_X10_tally_2 l2_2.toInt x126.toInt ((G.1 (F a 9) 6).toInt) I2_0 c10 t126 (xr (G.1 (F a 9) 6)))
                  have hl : lv_has ls 5 [(2, .int x126), (4, .int x56), (3, .ref q25), (0, .ref a), (1, .int p0)] := hl
                  refine lv_goto (tgt := 2) hx hb dX10_tally_129 (by decide) ?_
                  exact ih2 x126 G125 _ _ _ (by rw [hG125]; exact XFr.cput (XFr.call XFr.rf hF_2 xm0 (xm1 0 rfl xm0) xm0) (List.mem_of_getElem? (i := 0) rfl)) (by rw [(e126 : Int32.toInt x126 = (l2_2.toInt + 1))] <;> exact (z_X10_tally_3 l2_2.toInt I2_0)) (by rw [(e126 : Int32.toInt x126 = (l2_2.toInt + 1))] <;> exact (z_X10_tally_4 l2_2.toInt N2 hm2)) hT hS (lv_sub hl [3, 4, 0] rfl)
            · refine lv_aload_n hx hb dX10_tally_74 rfl (lv_at hl 2 rfl) ?_
              refine gX10_15 S hK hT ha kf_X10_95 dX10_tally_75 (fun _ _ => ?_)
              refine lv_iload_n hx hb dX10_tally_78 rfl (lv_at hl 3 rfl) ?_
              refine xi_zeq (tgt := 86) hx hb (rfl : Int32.toInt p0 = p0.toInt) dX10_tally_79 (by decide) (fun c79 => ?_) (fun c79 => ?_)
              · refine lv_iconst (v := 0) hx hb dX10_tally_86 (by decide) ?_
                refine lv_dup2_11 hx hb dX10_tally_87 rfl rfl ?_
                refine al_0 S hK hT hk9999 ar_26 (by decide) (by decide) dX10_tally_88 (fun x88 hv88 o88 => ?_)
                have hv88 : x88.toInt = (aI (G_2.2.1 (F a 15)) 0) := hv88.trans (by rw [((by decide) : Int32.toInt 0 = (0 : Int))])
                refine lv_iconst (v := 1) hx hb dX10_tally_89 (by decide) ?_
                refine xi_iadd hx hb (hv88 : Int32.toInt x88 = (aI (G_2.2.1 (F a 15)) 0)) ((by decide) : Int32.toInt 1 = (1 : Int)) dX10_tally_90 (fun x90 t90 => ?_)
                refine as_0 (x := x90) S hK hT hS hk9999 ar_26 aw_26 (by decide) (by decide) dX10_tally_91 (fun H locs hT hS => ?_)
                obtain ⟨G91, hG91⟩ : ∃ GG : XG, GG = cput G_2 (F a 15) (0 : Int32).toNatClampNeg x90 := ⟨_, rfl⟩
                rw [← hG91] at hT
                refine lv_goto (tgt := 126) hx hb dX10_tally_92 (by decide) ?_
                refine xi_iinc (n := 1) (lv' := fun z9 => [(2, .int z9), (4, .int x56), (3, .ref q25), (0, .ref a), (1, .int p0)]) (k := 4) hx hb (rfl : Int32.toInt l2_2 = l2_2.toInt) (by decide) dX10_tally_126 hl rfl (by decide) (fun _ => rfl) (fun x126 ls t126 hl => ?_)
                have e126 : x126.toInt = (l2_2.toInt + 1) := (z_X10_tally_2 l2_2.toInt x126.toInt ((G.1 (F a 9) 6).toInt) I2_0 c10 t126 (xr (G.1 (F a 9) 6)))
                have hl : lv_has ls 5 [(2, .int x126), (4, .int x56), (3, .ref q25), (0, .ref a), (1, .int p0)] := hl
                refine lv_goto (tgt := 2) hx hb dX10_tally_129 (by decide) ?_
                exact ih2 x126 G91 _ _ _ (by rw [hG91]; exact XFr.cput (XFr.call XFr.rf hF_2 xm0 (xm1 0 rfl xm0) xm0) (List.mem_of_getElem? (i := 0) rfl)) (by rw [(e126 : Int32.toInt x126 = (l2_2.toInt + 1))] <;> exact (z_X10_tally_3 l2_2.toInt I2_0)) (by rw [(e126 : Int32.toInt x126 = (l2_2.toInt + 1))] <;> exact (z_X10_tally_4 l2_2.toInt N2 hm2)) hT hS (lv_sub hl [3, 4, 0] rfl)
              · refine lv_iconst (v := 3) hx hb dX10_tally_82 (by decide) ?_
                refine lv_goto (tgt := 87) hx hb dX10_tally_83 (by decide) ?_
                refine lv_dup2_11 hx hb dX10_tally_87 rfl rfl ?_
                refine al_0 S hK hT hk9999 ar_26 (by decide) (by decide) dX10_tally_88 (fun x88 hv88 o88 => ?_)
                have hv88 : x88.toInt = (aI (G_2.2.1 (F a 15)) 3) := hv88.trans (by rw [((by decide) : Int32.toInt 3 = (3 : Int))])
                refine lv_iconst (v := 1) hx hb dX10_tally_89 (by decide) ?_
                refine xi_iadd hx hb (hv88 : Int32.toInt x88 = (aI (G_2.2.1 (F a 15)) 3)) ((by decide) : Int32.toInt 1 = (1 : Int)) dX10_tally_90 (fun x90 t90 => ?_)
                refine as_0 (x := x90) S hK hT hS hk9999 ar_26 aw_26 (by decide) (by decide) dX10_tally_91 (fun H locs hT hS => ?_)
                obtain ⟨G91, hG91⟩ : ∃ GG : XG, GG = cput G_2 (F a 15) (3 : Int32).toNatClampNeg x90 := ⟨_, rfl⟩
                rw [← hG91] at hT
                refine lv_goto (tgt := 126) hx hb dX10_tally_92 (by decide) ?_
                refine xi_iinc (n := 1) (lv' := fun z9 => [(2, .int z9), (4, .int x56), (3, .ref q25), (0, .ref a), (1, .int p0)]) (k := 4) hx hb (rfl : Int32.toInt l2_2 = l2_2.toInt) (by decide) dX10_tally_126 hl rfl (by decide) (fun _ => rfl) (fun x126 ls t126 hl => ?_)
                have e126 : x126.toInt = (l2_2.toInt + 1) := (z_X10_tally_2 l2_2.toInt x126.toInt ((G.1 (F a 9) 6).toInt) I2_0 c10 t126 (xr (G.1 (F a 9) 6)))
                have hl : lv_has ls 5 [(2, .int x126), (4, .int x56), (3, .ref q25), (0, .ref a), (1, .int p0)] := hl
                refine lv_goto (tgt := 2) hx hb dX10_tally_129 (by decide) ?_
                exact ih2 x126 G91 _ _ _ (by rw [hG91]; exact XFr.cput (XFr.call XFr.rf hF_2 xm0 (xm1 0 rfl xm0) xm0) (List.mem_of_getElem? (i := 0) rfl)) (by rw [(e126 : Int32.toInt x126 = (l2_2.toInt + 1))] <;> exact (z_X10_tally_3 l2_2.toInt I2_0)) (by rw [(e126 : Int32.toInt x126 = (l2_2.toInt + 1))] <;> exact (z_X10_tally_4 l2_2.toInt N2 hm2)) hT hS (lv_sub hl [3, 4, 0] rfl)
          · refine lv_goto (tgt := 126) hx hb dX10_tally_40 (by decide) ?_
            refine xi_iinc (n := 1) (lv' := fun z9 => [(2, .int z9), (3, .ref q25), (0, .ref a), (1, .int p0)]) (k := 3) hx hb (rfl : Int32.toInt l2_2 = l2_2.toInt) (by decide) dX10_tally_126 hl rfl (by decide) (fun _ => rfl) (fun x126 ls t126 hl => ?_)
            have e126 : x126.toInt = (l2_2.toInt + 1) := (z_X10_tally_2 l2_2.toInt x126.toInt ((G.1 (F a 9) 6).toInt) I2_0 c10 t126 (xr (G.1 (F a 9) 6)))
            have hl : lv_has ls 5 [(2, .int x126), (3, .ref q25), (0, .ref a), (1, .int p0)] := hl
            refine lv_goto (tgt := 2) hx hb dX10_tally_129 (by decide) ?_
            exact ih2 x126 G_2 _ _ _ (XFr.call XFr.rf hF_2 xm0 (xm1 0 rfl xm0) xm0) (by rw [(e126 : Int32.toInt x126 = (l2_2.toInt + 1))] <;> exact (z_X10_tally_3 l2_2.toInt I2_0)) (by rw [(e126 : Int32.toInt x126 = (l2_2.toInt + 1))] <;> exact (z_X10_tally_4 l2_2.toInt N2 hm2)) hT hS (lv_sub hl [2, 3, 0] rfl)
  exact L2 4294967297 0 G _ _ _ XFr.rf (by decide) (by decide) hT hS (lv_sub hl [1, 2, 0] rfl)
