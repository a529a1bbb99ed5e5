abbrev rm_X10_init : Room := { frames := 4, cells := 82, slots := 23570, locals := 73 }
set_option maxHeartbeats 4000000 in
set_option maxRecDepth 100000 in
theorem c_X10_init (l : Launch) (E : XE) (K : Nat → Nat) (F : Nat → Nat → Nat) (L : va_W) (a : Nat) (hN : ∀ k ∈ [7, 10, 11], ∀ b, K b ≠ k) : Met l yX10_init (xw yX10_init cX10_init 2 none) rm_X10_init (va_Pc [.ref a] (XPx E K F (0, [0, 0, 0, 0, 0, (-2147483648), (-2147483648), 0, 0, 0, 0, 0, 0, (-1), 0, 0, 0, 0, 0, 0, 0], [(fun _ => 0), (fun _ => 0), (fun _ => 0), (fun _ => 0), (fun _ => 0), (fun _ => 0), (fun _ => 0), (fun _ => 0), (fun _ => 0), (fun _ => 0), (fun _ => 0)]) ((a, .inr (11, [.null, .null, .null, .null, .null, .null, .null, .null, .null, .null, .null, .null, .null, .null, .null, .null, .null, .int 0, .int 0])) :: L))) (XQv E (fun (u : Nat × Nat × (Nat → Nat) × (Nat → Nat → Nat)) => KM K u.2.2.1 ∧ u.2.2.1 a = 12 ∧ NU [25, 10, 7, 15, 2, 20, 21, 8, 22, 23, 6, 24, 3, 4, 5, 16, 26, 27, 11, 12] K u.2.2.1) (fun u H => TX (E.1, E.2.1, E.2.2.1, u.1, E.2.2.2.2) u.2.2.1 u.2.2.2 (0, [0, 0, 0, 0, 0, (-2147483648), (-2147483648), 0, 0, 0, 0, 0, 0, (-1), 0, 0, 0, 0, 0, 0, 0], [(fun _ => 0), (fun _ => 0), (fun _ => 0), (fun _ => 0), (fun _ => 0), (fun _ => 0), (fun _ => 0), (fun _ => 0), (fun _ => 0), (fun _ => 0), (fun _ => 0)]) ((u.1, .inr (0, [.ref u.2.1, .int 0, .int 0, .int 0])) :: (u.2.1, .inl (E.2.1 2, 16, .inl (fun _ => 0))) :: L) H)) 82 23570 (xA E) := by
  refine x_enter (by decide) (Nat.le_of_ble_eq_true rfl) ?_
  intro p e s m args below meth c Q S hr hlk hnm hQ hP ls hl
  obtain ⟨hz, hK, hT⟩ := hP
  obtain ⟨hx, hb, -, -, -⟩ := id S
  obtain ⟨H, hT, hS, hgo⟩ : ∃ H : Heap, TX E K F (0, [0, 0, 0, 0, 0, (-2147483648), (-2147483648), 0, 0, 0, 0, 0, 0, (-1), 0, 0, 0, 0, 0, 0, 0], [(fun _ => 0), (fun _ => 0), (fun _ => 0), (fun _ => 0), (fun _ => 0), (fun _ => 0), (fun _ => 0), (fun _ => 0), (fun _ => 0), (fun _ => 0), (fun _ => 0)]) ((a, .inr (11, [.null, .null, .null, .null, .null, .null, .null, .null, .null, .null, .null, .null, .null, .null, .null, .null, .null, .int 0, .int 0])) :: L) H ∧ va_S (xA E) s.heap H [] ∧ H = s.heap := ⟨_, hT, va_S.rf, rfl⟩
  rw [← hgo]
  have hl : lv_has ls 2 [(0, .ref a)] := hl
  obtain ⟨hK, hA⟩ := hK
  have hM0 : KM K K := KM.rf
  have hU : NU [] K K := NU.rf
  refine lv_aload_n hx hb dX10_init_0 rfl (lv_at hl 0 rfl) ?_
  refine W.objInit hx hb S.2.2.2.1 (S.2.2.2.2 _ (List.mem_cons_of_mem _ km_X10_3)) (S.2.2.2.2 _ (List.mem_cons_of_mem _ koi.1)) (S.2.2.2.2 _ (List.mem_cons_of_mem _ koi.2)) rfl (by rw [S.2.2.1]; exact hl.1) rfl dX10_init_1 (Nat.le_of_ble_eq_true rfl) (Nat.le_of_ble_eq_true rfl) ?_
  refine W.eq (g2 := F0 m 4 ls []) rfl ?_
  refine lv_aload_n hx hb dX10_init_4 rfl (lv_at hl 0 rfl) ?_
  refine tx_new (ci := 9) (fs := [.null, .int 0]) S hK hz hT hS inX8 tyX8 tyX8_ok kn_X10_9 kin_X8.1 kin_X8.2 rfl (by intro j hj; match j, hj with | 0, _ => rfl | 1, _ => rfl | j + 2, hj => exact absurd hj (by omega)) (Nat.le_of_ble_eq_true rfl) (Nat.le_of_ble_eq_true rfl) dX10_init_5 (fun q1 H hT hS => ?_)
  refine lv_dup hx hb dX10_init_8 rfl ?_
  refine x_cv (x_runI (b := q1) (As := []) (rest := [.ref q1, .ref a]) S (c_X8_init l E K F (0, [0, 0, 0, 0, 0, (-2147483648), (-2147483648), 0, 0, 0, 0, 0, 0, (-1), 0, 0, 0, 0, 0, 0, 0], [(fun _ => 0), (fun _ => 0), (fun _ => 0), (fun _ => 0), (fun _ => 0), (fun _ => 0), (fun _ => 0), (fun _ => 0), (fun _ => 0), (fun _ => 0), (fun _ => 0)]) ((a, .inr (11, [.null, .null, .null, .null, .null, .null, .null, .null, .null, .null, .null, .null, .null, .null, .null, .null, .null, .int 0, .int 0])) :: L) q1 rfl (fun k hk b => by rw [List.mem_singleton.mp hk]; exact NU.no hU (hN 10 (by decide)) (by decide) (by decide) b)) mi_X8_init rfl km_X10_11 rfl rfl ⟨Nat.le_of_ble_eq_true rfl, Nat.le_of_ble_eq_true rfl⟩ hK (fun _ => XPx.blind) (fun U hU hW => XPx.at hK hA hz hS hT hU hW) rfl hl.1 (Nat.le_of_ble_eq_true rfl) dX10_init_9 ⟨Nat.le_of_ble_eq_true rfl, Nat.le_of_ble_eq_true rfl⟩) hS ?_
  rintro ⟨K, F⟩ H locs ⟨hM, hk2, hU9⟩ hT hS
  have hM0 := KM.tr hM0 hM
  have hU := NU.tr hU hU9
  refine tx_putF (C := RX10) (T := TX10) (N := 19) (ci := 11) (ty := (.object "LateRules$Text")) S hK hT hS inX10 tyX10 tyX10_ok nmX10 0 rfl rfl 0 (by decide) kf_X10_12 rfl hnm rfl (by decide +kernel) rfl rfl (Nat.le_of_ble_eq_true rfl) dX10_init_12 (fun H locs hT hS => ?_)
  have hT : TX E K F (0, [0, 0, 0, 0, 0, (-2147483648), (-2147483648), 0, 0, 0, 0, 0, 0, (-1), 0, 0, 0, 0, 0, 0, 0], [(fun _ => 0), (fun _ => 0), (fun _ => 0), (fun _ => 0), (fun _ => 0), (fun _ => 0), (fun _ => 0), (fun _ => 0), (fun _ => 0), (fun _ => 0), (fun _ => 0)]) ((a, .inr (11, [.ref q1, .null, .null, .null, .null, .null, .null, .null, .null, .null, .null, .null, .null, .null, .null, .null, .null, .int 0, .int 0])) :: L) H := hT
  refine lv_aload_n hx hb dX10_init_15 rfl (lv_at hl 0 rfl) ?_
  refine tx_new (ci := 6) (fs := [.null, .int 0, .int 0, .int 0, .int 0, .int 0]) S hK hz hT hS inX5 tyX5 tyX5_ok kn_X10_18 kin_X5.1 kin_X5.2 rfl (by intro j hj; match j, hj with | 0, _ => rfl | 1, _ => rfl | 2, _ => rfl | 3, _ => rfl | 4, _ => rfl | 5, _ => rfl | j + 6, hj => exact absurd hj (by omega)) (Nat.le_of_ble_eq_true rfl) (Nat.le_of_ble_eq_true rfl) dX10_init_16 (fun q3 H hT hS => ?_)
  refine lv_dup hx hb dX10_init_19 rfl ?_
  refine lv_aload_n hx hb dX10_init_20 rfl (lv_at hl 0 rfl) ?_
  refine tx_get (C := RX10) (T := TX10) (N := 19) (ci := 11) S hK hT inX10 1 rfl rfl 0 (by decide) kf_X10_12 rfl dX10_init_21 ?_
  refine x_cv0 (x_runI (b := q3) (As := [.ref q1]) (rest := [.ref q3, .ref a]) S (c_X5_init l E K F (0, [0, 0, 0, 0, 0, (-2147483648), (-2147483648), 0, 0, 0, 0, 0, 0, (-1), 0, 0, 0, 0, 0, 0, 0], [(fun _ => 0), (fun _ => 0), (fun _ => 0), (fun _ => 0), (fun _ => 0), (fun _ => 0), (fun _ => 0), (fun _ => 0), (fun _ => 0), (fun _ => 0), (fun _ => 0)]) ((a, .inr (11, [.ref q1, .null, .null, .null, .null, .null, .null, .null, .null, .null, .null, .null, .null, .null, .null, .null, .null, .int 0, .int 0])) :: L) q3 q1 hk2 ⟨rfl, rfl, rfl, rfl, rfl⟩ (fun k hk b => by rw [List.mem_singleton.mp hk]; exact NU.no hU (hN 7 (by decide)) (by decide) (by decide) b)) mi_X5_init rfl km_X10_20 rfl rfl ⟨Nat.le_of_ble_eq_true rfl, Nat.le_of_ble_eq_true rfl⟩ hK (fun _ => XPx.blind) (fun U hU hW => XPx.at hK hA hz hS hT hU hW) rfl hl.1 (Nat.le_of_ble_eq_true rfl) dX10_init_24 ⟨Nat.le_of_ble_eq_true rfl, Nat.le_of_ble_eq_true rfl⟩) hS ?_
  rintro ⟨K, F⟩ H locs ⟨hM, hk4, hU9⟩ hT hS
  have hk5 : K q1 = 10 := hM _ _ hk2 (by decide)
  have hM0 := KM.tr hM0 hM
  have hU := NU.tr hU hU9
  refine tx_putF (C := RX10) (T := TX10) (N := 19) (ci := 11) (ty := (.object "LateRules$Reader")) S hK hT hS inX10 tyX10 tyX10_ok nmX10 0 rfl rfl 1 (by decide) kf_X10_23 rfl hnm rfl (by decide +kernel) rfl rfl (Nat.le_of_ble_eq_true rfl) dX10_init_27 (fun H locs hT hS => ?_)
  have hT : TX E K F (0, [0, 0, 0, 0, 0, (-2147483648), (-2147483648), 0, 0, 0, 0, 0, 0, (-1), 0, 0, 0, 0, 0, 0, 0], [(fun _ => 0), (fun _ => 0), (fun _ => 0), (fun _ => 0), (fun _ => 0), (fun _ => 0), (fun _ => 0), (fun _ => 0), (fun _ => 0), (fun _ => 0), (fun _ => 0)]) ((a, .inr (11, [.ref q1, .ref q3, .null, .null, .null, .null, .null, .null, .null, .null, .null, .null, .null, .null, .null, .null, .null, .int 0, .int 0])) :: L) H := hT
  refine lv_aload_n hx hb dX10_init_30 rfl (lv_at hl 0 rfl) ?_
  refine tx_new (ci := 1) (fs := [.null, .null, .int 0]) S hK hz hT hS inX0 tyX0 tyX0_ok kn_X10_27 kin_X0.1 kin_X0.2 rfl (by intro j hj; match j, hj with | 0, _ => rfl | 1, _ => rfl | 2, _ => rfl | j + 3, hj => exact absurd hj (by omega)) (Nat.le_of_ble_eq_true rfl) (Nat.le_of_ble_eq_true rfl) dX10_init_31 (fun q6 H hT hS => ?_)
  refine lv_dup hx hb dX10_init_34 rfl ?_
  refine x_cv (x_runI (b := q6) (As := []) (rest := [.ref q6, .ref a]) S (c_X0_init l E K F (0, [0, 0, 0, 0, 0, (-2147483648), (-2147483648), 0, 0, 0, 0, 0, 0, (-1), 0, 0, 0, 0, 0, 0, 0], [(fun _ => 0), (fun _ => 0), (fun _ => 0), (fun _ => 0), (fun _ => 0), (fun _ => 0), (fun _ => 0), (fun _ => 0), (fun _ => 0), (fun _ => 0), (fun _ => 0)]) ((a, .inr (11, [.ref q1, .ref q3, .null, .null, .null, .null, .null, .null, .null, .null, .null, .null, .null, .null, .null, .null, .null, .int 0, .int 0])) :: L) q6) mi_X0_init rfl km_X10_29 rfl rfl ⟨Nat.le_of_ble_eq_true rfl, Nat.le_of_ble_eq_true rfl⟩ hK (fun _ => XPx.blind) (fun U hU hW => XPx.at hK hA hz hS hT hU hW) rfl hl.1 (Nat.le_of_ble_eq_true rfl) dX10_init_35 ⟨Nat.le_of_ble_eq_true rfl, Nat.le_of_ble_eq_true rfl⟩) hS ?_
  rintro ⟨K, F⟩ H locs ⟨hM, hk7, hU9⟩ hT hS
  have hk8 : K q1 = 10 := hM _ _ hk5 (by decide)
  have hk9 : K q3 = 7 := hM _ _ hk4 (by decide)
  have hM0 := KM.tr hM0 hM
  have hU := NU.tr hU hU9
  refine tx_putF (C := RX10) (T := TX10) (N := 19) (ci := 11) (ty := (.object "LateRules$Book")) S hK hT hS inX10 tyX10 tyX10_ok nmX10 0 rfl rfl 2 (by decide) kf_X10_30 rfl hnm rfl (by decide +kernel) rfl rfl (Nat.le_of_ble_eq_true rfl) dX10_init_38 (fun H locs hT hS => ?_)
  have hT : TX E K F (0, [0, 0, 0, 0, 0, (-2147483648), (-2147483648), 0, 0, 0, 0, 0, 0, (-1), 0, 0, 0, 0, 0, 0, 0], [(fun _ => 0), (fun _ => 0), (fun _ => 0), (fun _ => 0), (fun _ => 0), (fun _ => 0), (fun _ => 0), (fun _ => 0), (fun _ => 0), (fun _ => 0), (fun _ => 0)]) ((a, .inr (11, [.ref q1, .ref q3, .ref q6, .null, .null, .null, .null, .null, .null, .null, .null, .null, .null, .null, .null, .null, .null, .int 0, .int 0])) :: L) H := hT
  refine lv_aload_n hx hb dX10_init_41 rfl (lv_at hl 0 rfl) ?_
  refine tx_new (ci := 7) (fs := [.null, .null]) S hK hz hT hS inX6 tyX6 tyX6_ok kn_X10_34 kin_X6.1 kin_X6.2 rfl (by intro j hj; match j, hj with | 0, _ => rfl | 1, _ => rfl | j + 2, hj => exact absurd hj (by omega)) (Nat.le_of_ble_eq_true rfl) (Nat.le_of_ble_eq_true rfl) dX10_init_42 (fun q10 H hT hS => ?_)
  refine lv_dup hx hb dX10_init_45 rfl ?_
  refine x_cv (x_runI (b := q10) (As := []) (rest := [.ref q10, .ref a]) S (c_X6_init l E K F (0, [0, 0, 0, 0, 0, (-2147483648), (-2147483648), 0, 0, 0, 0, 0, 0, (-1), 0, 0, 0, 0, 0, 0, 0], [(fun _ => 0), (fun _ => 0), (fun _ => 0), (fun _ => 0), (fun _ => 0), (fun _ => 0), (fun _ => 0), (fun _ => 0), (fun _ => 0), (fun _ => 0), (fun _ => 0)]) ((a, .inr (11, [.ref q1, .ref q3, .ref q6, .null, .null, .null, .null, .null, .null, .null, .null, .null, .null, .null, .null, .null, .null, .int 0, .int 0])) :: L) q10) mi_X6_init rfl km_X10_36 rfl rfl ⟨Nat.le_of_ble_eq_true rfl, Nat.le_of_ble_eq_true rfl⟩ hK (fun _ => XPx.blind) (fun U hU hW => XPx.at hK hA hz hS hT hU hW) rfl hl.1 (Nat.le_of_ble_eq_true rfl) dX10_init_46 ⟨Nat.le_of_ble_eq_true rfl, Nat.le_of_ble_eq_true rfl⟩) hS ?_
  rintro ⟨K, F⟩ H locs ⟨hM, hk11, hU9⟩ hT hS
  have hk12 : K q1 = 10 := hM _ _ hk8 (by decide)
  have hk13 : K q3 = 7 := hM _ _ hk9 (by decide)
  have hk14 : K q6 = 2 := hM _ _ hk7 (by decide)
  have hM0 := KM.tr hM0 hM
  have hU := NU.tr hU hU9
  refine tx_putF (C := RX10) (T := TX10) (N := 19) (ci := 11) (ty := (.object "LateRules$Rows")) S hK hT hS inX10 tyX10 tyX10_ok nmX10 0 rfl rfl 3 (by decide) kf_X10_37 rfl hnm rfl (by decide +kernel) rfl rfl (Nat.le_of_ble_eq_true rfl) dX10_init_49 (fun H locs hT hS => ?_)
  have hT : TX E K F (0, [0, 0, 0, 0, 0, (-2147483648), (-2147483648), 0, 0, 0, 0, 0, 0, (-1), 0, 0, 0, 0, 0, 0, 0], [(fun _ => 0), (fun _ => 0), (fun _ => 0), (fun _ => 0), (fun _ => 0), (fun _ => 0), (fun _ => 0), (fun _ => 0), (fun _ => 0), (fun _ => 0), (fun _ => 0)]) ((a, .inr (11, [.ref q1, .ref q3, .ref q6, .ref q10, .null, .null, .null, .null, .null, .null, .null, .null, .null, .null, .null, .null, .null, .int 0, .int 0])) :: L) H := hT
  refine lv_aload_n hx hb dX10_init_52 rfl (lv_at hl 0 rfl) ?_
  refine tx_new (ci := 7) (fs := [.null, .null]) S hK hz hT hS inX6 tyX6 tyX6_ok kn_X10_34 kin_X6.1 kin_X6.2 rfl (by intro j hj; match j, hj with | 0, _ => rfl | 1, _ => rfl | j + 2, hj => exact absurd hj (by omega)) (Nat.le_of_ble_eq_true rfl) (Nat.le_of_ble_eq_true rfl) dX10_init_53 (fun q15 H hT hS => ?_)
  refine lv_dup hx hb dX10_init_56 rfl ?_
  refine x_cv (x_runI (b := q15) (As := []) (rest := [.ref q15, .ref a]) S (c_X6_init l E K F (0, [0, 0, 0, 0, 0, (-2147483648), (-2147483648), 0, 0, 0, 0, 0, 0, (-1), 0, 0, 0, 0, 0, 0, 0], [(fun _ => 0), (fun _ => 0), (fun _ => 0), (fun _ => 0), (fun _ => 0), (fun _ => 0), (fun _ => 0), (fun _ => 0), (fun _ => 0), (fun _ => 0), (fun _ => 0)]) ((a, .inr (11, [.ref q1, .ref q3, .ref q6, .ref q10, .null, .null, .null, .null, .null, .null, .null, .null, .null, .null, .null, .null, .null, .int 0, .int 0])) :: L) q15) mi_X6_init rfl km_X10_36 rfl rfl ⟨Nat.le_of_ble_eq_true rfl, Nat.le_of_ble_eq_true rfl⟩ hK (fun _ => XPx.blind) (fun U hU hW => XPx.at hK hA hz hS hT hU hW) rfl hl.1 (Nat.le_of_ble_eq_true rfl) dX10_init_57 ⟨Nat.le_of_ble_eq_true rfl, Nat.le_of_ble_eq_true rfl⟩) hS ?_
  rintro ⟨K, F⟩ H locs ⟨hM, hk16, hU9⟩ hT hS
  have hk17 : K q1 = 10 := hM _ _ hk12 (by decide)
  have hk18 : K q3 = 7 := hM _ _ hk13 (by decide)
  have hk19 : K q6 = 2 := hM _ _ hk14 (by decide)
  have hk20 : K q10 = 8 := hM _ _ hk11 (by decide)
  have hM0 := KM.tr hM0 hM
  have hU := NU.tr hU hU9
  refine tx_putF (C := RX10) (T := TX10) (N := 19) (ci := 11) (ty := (.object "LateRules$Rows")) S hK hT hS inX10 tyX10 tyX10_ok nmX10 0 rfl rfl 4 (by decide) kf_X10_41 rfl hnm rfl (by decide +kernel) rfl rfl (Nat.le_of_ble_eq_true rfl) dX10_init_60 (fun H locs hT hS => ?_)
  have hT : TX E K F (0, [0, 0, 0, 0, 0, (-2147483648), (-2147483648), 0, 0, 0, 0, 0, 0, (-1), 0, 0, 0, 0, 0, 0, 0], [(fun _ => 0), (fun _ => 0), (fun _ => 0), (fun _ => 0), (fun _ => 0), (fun _ => 0), (fun _ => 0), (fun _ => 0), (fun _ => 0), (fun _ => 0), (fun _ => 0)]) ((a, .inr (11, [.ref q1, .ref q3, .ref q6, .ref q10, .ref q15, .null, .null, .null, .null, .null, .null, .null, .null, .null, .null, .null, .null, .int 0, .int 0])) :: L) H := hT
  refine lv_aload_n hx hb dX10_init_63 rfl (lv_at hl 0 rfl) ?_
  refine tx_new (ci := 7) (fs := [.null, .null]) S hK hz hT hS inX6 tyX6 tyX6_ok kn_X10_34 kin_X6.1 kin_X6.2 rfl (by intro j hj; match j, hj with | 0, _ => rfl | 1, _ => rfl | j + 2, hj => exact absurd hj (by omega)) (Nat.le_of_ble_eq_true rfl) (Nat.le_of_ble_eq_true rfl) dX10_init_64 (fun q21 H hT hS => ?_)
  refine lv_dup hx hb dX10_init_67 rfl ?_
  refine x_cv (x_runI (b := q21) (As := []) (rest := [.ref q21, .ref a]) S (c_X6_init l E K F (0, [0, 0, 0, 0, 0, (-2147483648), (-2147483648), 0, 0, 0, 0, 0, 0, (-1), 0, 0, 0, 0, 0, 0, 0], [(fun _ => 0), (fun _ => 0), (fun _ => 0), (fun _ => 0), (fun _ => 0), (fun _ => 0), (fun _ => 0), (fun _ => 0), (fun _ => 0), (fun _ => 0), (fun _ => 0)]) ((a, .inr (11, [.ref q1, .ref q3, .ref q6, .ref q10, .ref q15, .null, .null, .null, .null, .null, .null, .null, .null, .null, .null, .null, .null, .int 0, .int 0])) :: L) q21) mi_X6_init rfl km_X10_36 rfl rfl ⟨Nat.le_of_ble_eq_true rfl, Nat.le_of_ble_eq_true rfl⟩ hK (fun _ => XPx.blind) (fun U hU hW => XPx.at hK hA hz hS hT hU hW) rfl hl.1 (Nat.le_of_ble_eq_true rfl) dX10_init_68 ⟨Nat.le_of_ble_eq_true rfl, Nat.le_of_ble_eq_true rfl⟩) hS ?_
  rintro ⟨K, F⟩ H locs ⟨hM, hk22, hU9⟩ hT hS
  have hk23 : K q1 = 10 := hM _ _ hk17 (by decide)
  have hk24 : K q3 = 7 := hM _ _ hk18 (by decide)
  have hk25 : K q6 = 2 := hM _ _ hk19 (by decide)
  have hk26 : K q10 = 8 := hM _ _ hk20 (by decide)
  have hk27 : K q15 = 8 := hM _ _ hk16 (by decide)
  have hM0 := KM.tr hM0 hM
  have hU := NU.tr hU hU9
  refine tx_putF (C := RX10) (T := TX10) (N := 19) (ci := 11) (ty := (.object "LateRules$Rows")) S hK hT hS inX10 tyX10 tyX10_ok nmX10 0 rfl rfl 5 (by decide) kf_X10_44 rfl hnm rfl (by decide +kernel) rfl rfl (Nat.le_of_ble_eq_true rfl) dX10_init_71 (fun H locs hT hS => ?_)
  have hT : TX E K F (0, [0, 0, 0, 0, 0, (-2147483648), (-2147483648), 0, 0, 0, 0, 0, 0, (-1), 0, 0, 0, 0, 0, 0, 0], [(fun _ => 0), (fun _ => 0), (fun _ => 0), (fun _ => 0), (fun _ => 0), (fun _ => 0), (fun _ => 0), (fun _ => 0), (fun _ => 0), (fun _ => 0), (fun _ => 0)]) ((a, .inr (11, [.ref q1, .ref q3, .ref q6, .ref q10, .ref q15, .ref q21, .null, .null, .null, .null, .null, .null, .null, .null, .null, .null, .null, .int 0, .int 0])) :: L) H := hT
  refine lv_aload_n hx hb dX10_init_74 rfl (lv_at hl 0 rfl) ?_
  refine tx_new (ci := 7) (fs := [.null, .null]) S hK hz hT hS inX6 tyX6 tyX6_ok kn_X10_34 kin_X6.1 kin_X6.2 rfl (by intro j hj; match j, hj with | 0, _ => rfl | 1, _ => rfl | j + 2, hj => exact absurd hj (by omega)) (Nat.le_of_ble_eq_true rfl) (Nat.le_of_ble_eq_true rfl) dX10_init_75 (fun q28 H hT hS => ?_)
  refine lv_dup hx hb dX10_init_78 rfl ?_
  refine x_cv (x_runI (b := q28) (As := []) (rest := [.ref q28, .ref a]) S (c_X6_init l E K F (0, [0, 0, 0, 0, 0, (-2147483648), (-2147483648), 0, 0, 0, 0, 0, 0, (-1), 0, 0, 0, 0, 0, 0, 0], [(fun _ => 0), (fun _ => 0), (fun _ => 0), (fun _ => 0), (fun _ => 0), (fun _ => 0), (fun _ => 0), (fun _ => 0), (fun _ => 0), (fun _ => 0), (fun _ => 0)]) ((a, .inr (11, [.ref q1, .ref q3, .ref q6, .ref q10, .ref q15, .ref q21, .null, .null, .null, .null, .null, .null, .null, .null, .null, .null, .null, .int 0, .int 0])) :: L) q28) mi_X6_init rfl km_X10_36 rfl rfl ⟨Nat.le_of_ble_eq_true rfl, Nat.le_of_ble_eq_true rfl⟩ hK (fun _ => XPx.blind) (fun U hU hW => XPx.at hK hA hz hS hT hU hW) rfl hl.1 (Nat.le_of_ble_eq_true rfl) dX10_init_79 ⟨Nat.le_of_ble_eq_true rfl, Nat.le_of_ble_eq_true rfl⟩) hS ?_
  rintro ⟨K, F⟩ H locs ⟨hM, hk29, hU9⟩ hT hS
  have hk30 : K q1 = 10 := hM _ _ hk23 (by decide)
  have hk31 : K q3 = 7 := hM _ _ hk24 (by decide)
  have hk32 : K q6 = 2 := hM _ _ hk25 (by decide)
  have hk33 : K q10 = 8 := hM _ _ hk26 (by decide)
  have hk34 : K q15 = 8 := hM _ _ hk27 (by decide)
  have hk35 : K q21 = 8 := hM _ _ hk22 (by decide)
  have hM0 := KM.tr hM0 hM
  have hU := NU.tr hU hU9
  refine tx_putF (C := RX10) (T := TX10) (N := 19) (ci := 11) (ty := (.object "LateRules$Rows")) S hK hT hS inX10 tyX10 tyX10_ok nmX10 0 rfl rfl 6 (by decide) kf_X10_47 rfl hnm rfl (by decide +kernel) rfl rfl (Nat.le_of_ble_eq_true rfl) dX10_init_82 (fun H locs hT hS => ?_)
  have hT : TX E K F (0, [0, 0, 0, 0, 0, (-2147483648), (-2147483648), 0, 0, 0, 0, 0, 0, (-1), 0, 0, 0, 0, 0, 0, 0], [(fun _ => 0), (fun _ => 0), (fun _ => 0), (fun _ => 0), (fun _ => 0), (fun _ => 0), (fun _ => 0), (fun _ => 0), (fun _ => 0), (fun _ => 0), (fun _ => 0)]) ((a, .inr (11, [.ref q1, .ref q3, .ref q6, .ref q10, .ref q15, .ref q21, .ref q28, .null, .null, .null, .null, .null, .null, .null, .null, .null, .null, .int 0, .int 0])) :: L) H := hT
  refine lv_aload_n hx hb dX10_init_85 rfl (lv_at hl 0 rfl) ?_
  refine lv_bipush (v := 8) hx hb dX10_init_86 (by decide) ?_
  refine tx_nq5 S hK hA.2 hz hT hS kn_X10_34 (N := 8) (by decide) (by decide) (Nat.le_of_ble_eq_true rfl) (Nat.le_of_ble_eq_true rfl) (Nat.le_of_ble_eq_true rfl) dX10_init_88 (fun q36 H hT hS => ?_)
  have hT := hT.sw
  have hT : TX E K F (0, [0, 0, 0, 0, 0, (-2147483648), (-2147483648), 0, 0, 0, 0, 0, 0, (-1), 0, 0, 0, 0, 0, 0, 0], [(fun _ => 0), (fun _ => 0), (fun _ => 0), (fun _ => 0), (fun _ => 0), (fun _ => 0), (fun _ => 0), (fun _ => 0), (fun _ => 0), (fun _ => 0), (fun _ => 0)]) ((a, .inr (11, [.ref q1, .ref q3, .ref q6, .ref q10, .ref q15, .ref q21, .ref q28, .null, .null, .null, .null, .null, .null, .null, .null, .null, .null, .int 0, .int 0])) :: (q36, .inl (E.2.1 5, 8, .inr (.inr (.inr (.inr (fun _ => none)))))) :: L) H := hT
  refine tx_putF (C := RX10) (T := TX10) (N := 19) (ci := 11) (ty := (.array (.object "LateRules$Rows"))) S hK hT hS inX10 tyX10 tyX10_ok nmX10 0 rfl rfl 7 (by decide) kf_X10_50 rfl hnm rfl (by decide +kernel) rfl rfl (Nat.le_of_ble_eq_true rfl) dX10_init_91 (fun H locs hT hS => ?_)
  have hT : TX E K F (0, [0, 0, 0, 0, 0, (-2147483648), (-2147483648), 0, 0, 0, 0, 0, 0, (-1), 0, 0, 0, 0, 0, 0, 0], [(fun _ => 0), (fun _ => 0), (fun _ => 0), (fun _ => 0), (fun _ => 0), (fun _ => 0), (fun _ => 0), (fun _ => 0), (fun _ => 0), (fun _ => 0), (fun _ => 0)]) ((a, .inr (11, [.ref q1, .ref q3, .ref q6, .ref q10, .ref q15, .ref q21, .ref q28, .ref q36, .null, .null, .null, .null, .null, .null, .null, .null, .null, .int 0, .int 0])) :: (q36, .inl (E.2.1 5, 8, .inr (.inr (.inr (.inr (fun _ => none)))))) :: L) H := hT
  refine lv_iconst (v := 0) hx hb dX10_init_94 (by decide) ?_
  refine lv_istore_n (lv' := [(1, .int 0), (0, .ref a)]) hx hb dX10_init_95 rfl hl (by decide) rfl (fun ls hl => ?_)
  refine lv_iload_n hx hb dX10_init_96 rfl (lv_at hl 0 rfl) ?_
  refine lv_bipush (v := 8) hx hb dX10_init_97 (by decide) ?_
  refine xi_cge (tgt := 121) hx hb ((by decide) : Int32.toInt 0 = (0 : Int)) ((by decide) : Int32.toInt 8 = (8 : Int)) dX10_init_99 (by decide) (fun c => absurd c (show ¬ ((8 : Int) ≤ (0 : Int)) by decide)) (fun _ => ?_)
  refine lv_aload_n hx hb dX10_init_102 rfl (lv_at hl 1 rfl) ?_
  refine tx_get (C := RX10) (T := TX10) (N := 19) (ci := 11) S hK hT inX10 0 rfl rfl 7 (by decide) kf_X10_50 rfl dX10_init_103 ?_
  refine lv_iload_n hx hb dX10_init_106 rfl (lv_at hl 0 rfl) ?_
  refine tx_new (ci := 7) (fs := [.null, .null]) S hK hz hT hS inX6 tyX6 tyX6_ok kn_X10_34 kin_X6.1 kin_X6.2 rfl (by intro j hj; match j, hj with | 0, _ => rfl | 1, _ => rfl | j + 2, hj => exact absurd hj (by omega)) (Nat.le_of_ble_eq_true rfl) (Nat.le_of_ble_eq_true rfl) dX10_init_107 (fun q37 H hT hS => ?_)
  refine lv_dup hx hb dX10_init_110 rfl ?_
  refine x_cv (x_runI (b := q37) (As := []) (rest := [.ref q37, .int 0, .ref q36]) S (c_X6_init l E K F (0, [0, 0, 0, 0, 0, (-2147483648), (-2147483648), 0, 0, 0, 0, 0, 0, (-1), 0, 0, 0, 0, 0, 0, 0], [(fun _ => 0), (fun _ => 0), (fun _ => 0), (fun _ => 0), (fun _ => 0), (fun _ => 0), (fun _ => 0), (fun _ => 0), (fun _ => 0), (fun _ => 0), (fun _ => 0)]) ((a, .inr (11, [.ref q1, .ref q3, .ref q6, .ref q10, .ref q15, .ref q21, .ref q28, .ref q36, .null, .null, .null, .null, .null, .null, .null, .null, .null, .int 0, .int 0])) :: (q36, .inl (E.2.1 5, 8, .inr (.inr (.inr (.inr (fun _ => none)))))) :: L) q37) mi_X6_init rfl km_X10_36 rfl rfl ⟨Nat.le_of_ble_eq_true rfl, Nat.le_of_ble_eq_true rfl⟩ hK (fun _ => XPx.blind) (fun U hU hW => XPx.at hK hA hz hS hT hU hW) rfl hl.1 (Nat.le_of_ble_eq_true rfl) dX10_init_111 ⟨Nat.le_of_ble_eq_true rfl, Nat.le_of_ble_eq_true rfl⟩) hS ?_
  rintro ⟨K, F⟩ H locs ⟨hM, hk38, hU9⟩ hT hS
  have hk39 : K q1 = 10 := hM _ _ hk30 (by decide)
  have hk40 : K q3 = 7 := hM _ _ hk31 (by decide)
  have hk41 : K q6 = 2 := hM _ _ hk32 (by decide)
  have hk42 : K q10 = 8 := hM _ _ hk33 (by decide)
  have hk43 : K q15 = 8 := hM _ _ hk34 (by decide)
  have hk44 : K q21 = 8 := hM _ _ hk35 (by decide)
  have hk45 : K q28 = 8 := hM _ _ hk29 (by decide)
  have hM0 := KM.tr hM0 hM
  have hU := NU.tr hU hU9
  refine as_15r S hK hT hS None hk38 (by decide) dX10_init_114 (fun H locs hT hS => ?_)
  refine xi_iinc (n := 1) (lv' := fun z9 => [(1, .int z9), (0, .ref a)]) (k := 0) hx hb ((by decide) : Int32.toInt 0 = (0 : Int)) (by decide) dX10_init_115 hl rfl (by decide) (fun _ => rfl) (fun x46 ls t47 hl => ?_)
  have hl : lv_has ls 2 [(1, .int x46), (0, .ref a)] := hl
  have e9 : (1 : Int32).toInt = 1 := by decide
  have h9 : x46 = 1 := Int32.toInt_inj.mp (by rw [e9]; omega)
  subst h9
  have hl : lv_has ls 2 [(1, .int 1), (0, .ref a)] := hl
  refine lv_goto (tgt := 96) hx hb dX10_init_118 (by decide) ?_
  refine lv_iload_n hx hb dX10_init_96 rfl (lv_at hl 0 rfl) ?_
  refine lv_bipush (v := 8) hx hb dX10_init_97 (by decide) ?_
  refine xi_cge (tgt := 121) hx hb ((by decide) : Int32.toInt 1 = (1 : Int)) ((by decide) : Int32.toInt 8 = (8 : Int)) dX10_init_99 (by decide) (fun c => absurd c (show ¬ ((8 : Int) ≤ (1 : Int)) by decide)) (fun _ => ?_)
  refine lv_aload_n hx hb dX10_init_102 rfl (lv_at hl 1 rfl) ?_
  refine tx_get (C := RX10) (T := TX10) (N := 19) (ci := 11) S hK hT inX10 0 rfl rfl 7 (by decide) kf_X10_50 rfl dX10_init_103 ?_
  refine lv_iload_n hx hb dX10_init_106 rfl (lv_at hl 0 rfl) ?_
  refine tx_new (ci := 7) (fs := [.null, .null]) S hK hz hT hS inX6 tyX6 tyX6_ok kn_X10_34 kin_X6.1 kin_X6.2 rfl (by intro j hj; match j, hj with | 0, _ => rfl | 1, _ => rfl | j + 2, hj => exact absurd hj (by omega)) (Nat.le_of_ble_eq_true rfl) (Nat.le_of_ble_eq_true rfl) dX10_init_107 (fun q48 H hT hS => ?_)
  refine lv_dup hx hb dX10_init_110 rfl ?_
  refine x_cv (x_runI (b := q48) (As := []) (rest := [.ref q48, .int 1, .ref q36]) S (c_X6_init l E K F (0, [0, 0, 0, 0, 0, (-2147483648), (-2147483648), 0, 0, 0, 0, 0, 0, (-1), 0, 0, 0, 0, 0, 0, 0], [(fun _ => 0), (fun _ => 0), (fun _ => 0), (fun _ => 0), (fun _ => 0), (fun _ => 0), (fun _ => 0), (fun _ => 0), (fun _ => 0), (fun _ => 0), (fun _ => 0)]) ((a, .inr (11, [.ref q1, .ref q3, .ref q6, .ref q10, .ref q15, .ref q21, .ref q28, .ref q36, .null, .null, .null, .null, .null, .null, .null, .null, .null, .int 0, .int 0])) :: (q36, .inl (E.2.1 5, 8, .inr (.inr (.inr (.inr (fun _ => none)))))) :: L) q48) mi_X6_init rfl km_X10_36 rfl rfl ⟨Nat.le_of_ble_eq_true rfl, Nat.le_of_ble_eq_true rfl⟩ hK (fun _ => XPx.blind) (fun U hU hW => XPx.at hK hA hz hS hT hU hW) rfl hl.1 (Nat.le_of_ble_eq_true rfl) dX10_init_111 ⟨Nat.le_of_ble_eq_true rfl, Nat.le_of_ble_eq_true rfl⟩) hS ?_
  rintro ⟨K, F⟩ H locs ⟨hM, hk49, hU9⟩ hT hS
  have hk50 : K q1 = 10 := hM _ _ hk39 (by decide)
  have hk51 : K q3 = 7 := hM _ _ hk40 (by decide)
  have hk52 : K q6 = 2 := hM _ _ hk41 (by decide)
  have hk53 : K q10 = 8 := hM _ _ hk42 (by decide)
  have hk54 : K q15 = 8 := hM _ _ hk43 (by decide)
  have hk55 : K q21 = 8 := hM _ _ hk44 (by decide)
  have hk56 : K q28 = 8 := hM _ _ hk45 (by decide)
  have hM0 := KM.tr hM0 hM
  have hU := NU.tr hU hU9
  refine as_15r S hK hT hS None hk49 (by decide) dX10_init_114 (fun H locs hT hS => ?_)
  refine xi_iinc (n := 1) (lv' := fun z9 => [(1, .int z9), (0, .ref a)]) (k := 0) hx hb ((by decide) : Int32.toInt 1 = (1 : Int)) (by decide) dX10_init_115 hl rfl (by decide) (fun _ => rfl) (fun x57 ls t58 hl => ?_)
  have hl : lv_has ls 2 [(1, .int x57), (0, .ref a)] := hl
  have e9 : (2 : Int32).toInt = 2 := by decide
  have h9 : x57 = 2 := Int32.toInt_inj.mp (by rw [e9]; omega)
  subst h9
  have hl : lv_has ls 2 [(1, .int 2), (0, .ref a)] := hl
  refine lv_goto (tgt := 96) hx hb dX10_init_118 (by decide) ?_
  refine lv_iload_n hx hb dX10_init_96 rfl (lv_at hl 0 rfl) ?_
  refine lv_bipush (v := 8) hx hb dX10_init_97 (by decide) ?_
  refine xi_cge (tgt := 121) hx hb ((by decide) : Int32.toInt 2 = (2 : Int)) ((by decide) : Int32.toInt 8 = (8 : Int)) dX10_init_99 (by decide) (fun c => absurd c (show ¬ ((8 : Int) ≤ (2 : Int)) by decide)) (fun _ => ?_)
  refine lv_aload_n hx hb dX10_init_102 rfl (lv_at hl 1 rfl) ?_
  refine tx_get (C := RX10) (T := TX10) (N := 19) (ci := 11) S hK hT inX10 0 rfl rfl 7 (by decide) kf_X10_50 rfl dX10_init_103 ?_
  refine lv_iload_n hx hb dX10_init_106 rfl (lv_at hl 0 rfl) ?_
  refine tx_new (ci := 7) (fs := [.null, .null]) S hK hz hT hS inX6 tyX6 tyX6_ok kn_X10_34 kin_X6.1 kin_X6.2 rfl (by intro j hj; match j, hj with | 0, _ => rfl | 1, _ => rfl | j + 2, hj => exact absurd hj (by omega)) (Nat.le_of_ble_eq_true rfl) (Nat.le_of_ble_eq_true rfl) dX10_init_107 (fun q59 H hT hS => ?_)
  refine lv_dup hx hb dX10_init_110 rfl ?_
  refine x_cv (x_runI (b := q59) (As := []) (rest := [.ref q59, .int 2, .ref q36]) S (c_X6_init l E K F (0, [0, 0, 0, 0, 0, (-2147483648), (-2147483648), 0, 0, 0, 0, 0, 0, (-1), 0, 0, 0, 0, 0, 0, 0], [(fun _ => 0), (fun _ => 0), (fun _ => 0), (fun _ => 0), (fun _ => 0), (fun _ => 0), (fun _ => 0), (fun _ => 0), (fun _ => 0), (fun _ => 0), (fun _ => 0)]) ((a, .inr (11, [.ref q1, .ref q3, .ref q6, .ref q10, .ref q15, .ref q21, .ref q28, .ref q36, .null, .null, .null, .null, .null, .null, .null, .null, .null, .int 0, .int 0])) :: (q36, .inl (E.2.1 5, 8, .inr (.inr (.inr (.inr (fun _ => none)))))) :: L) q59) mi_X6_init rfl km_X10_36 rfl rfl ⟨Nat.le_of_ble_eq_true rfl, Nat.le_of_ble_eq_true rfl⟩ hK (fun _ => XPx.blind) (fun U hU hW => XPx.at hK hA hz hS hT hU hW) rfl hl.1 (Nat.le_of_ble_eq_true rfl) dX10_init_111 ⟨Nat.le_of_ble_eq_true rfl, Nat.le_of_ble_eq_true rfl⟩) hS ?_
  rintro ⟨K, F⟩ H locs ⟨hM, hk60, hU9⟩ hT hS
  have hk61 : K q1 = 10 := hM _ _ hk50 (by decide)
  have hk62 : K q3 = 7 := hM _ _ hk51 (by decide)
  have hk63 : K q6 = 2 := hM _ _ hk52 (by decide)
  have hk64 : K q10 = 8 := hM _ _ hk53 (by decide)
  have hk65 : K q15 = 8 := hM _ _ hk54 (by decide)
  have hk66 : K q21 = 8 := hM _ _ hk55 (by decide)
  have hk67 : K q28 = 8 := hM _ _ hk56 (by decide)
  have hM0 := KM.tr hM0 hM
  have hU := NU.tr hU hU9
  refine as_15r S hK hT hS None hk60 (by decide) dX10_init_114 (fun H locs hT hS => ?_)
  refine xi_iinc (n := 1) (lv' := fun z9 => [(1, .int z9), (0, .ref a)]) (k := 0) hx hb ((by decide) : Int32.toInt 2 = (2 : Int)) (by decide) dX10_init_115 hl rfl (by decide) (fun _ => rfl) (fun x68 ls t69 hl => ?_)
  have hl : lv_has ls 2 [(1, .int x68), (0, .ref a)] := hl
  have e9 : (3 : Int32).toInt = 3 := by decide
  have h9 : x68 = 3 := Int32.toInt_inj.mp (by rw [e9]; omega)
  subst h9
  have hl : lv_has ls 2 [(1, .int 3), (0, .ref a)] := hl
  refine lv_goto (tgt := 96) hx hb dX10_init_118 (by decide) ?_
  refine lv_iload_n hx hb dX10_init_96 rfl (lv_at hl 0 rfl) ?_
  refine lv_bipush (v := 8) hx hb dX10_init_97 (by decide) ?_
  refine xi_cge (tgt := 121) hx hb ((by decide) : Int32.toInt 3 = (3 : Int)) ((by decide) : Int32.toInt 8 = (8 : Int)) dX10_init_99 (by decide) (fun c => absurd c (show ¬ ((8 : Int) ≤ (3 : Int)) by decide)) (fun _ => ?_)
  refine lv_aload_n hx hb dX10_init_102 rfl (lv_at hl 1 rfl) ?_
  refine tx_get (C := RX10) (T := TX10) (N := 19) (ci := 11) S hK hT inX10 0 rfl rfl 7 (by decide) kf_X10_50 rfl dX10_init_103 ?_
  refine lv_iload_n hx hb dX10_init_106 rfl (lv_at hl 0 rfl) ?_
  refine tx_new (ci := 7) (fs := [.null, .null]) S hK hz hT hS inX6 tyX6 tyX6_ok kn_X10_34 kin_X6.1 kin_X6.2 rfl (by intro j hj; match j, hj with | 0, _ => rfl | 1, _ => rfl | j + 2, hj => exact absurd hj (by omega)) (Nat.le_of_ble_eq_true rfl) (Nat.le_of_ble_eq_true rfl) dX10_init_107 (fun q70 H hT hS => ?_)
  refine lv_dup hx hb dX10_init_110 rfl ?_
  refine x_cv (x_runI (b := q70) (As := []) (rest := [.ref q70, .int 3, .ref q36]) S (c_X6_init l E K F (0, [0, 0, 0, 0, 0, (-2147483648), (-2147483648), 0, 0, 0, 0, 0, 0, (-1), 0, 0, 0, 0, 0, 0, 0], [(fun _ => 0), (fun _ => 0), (fun _ => 0), (fun _ => 0), (fun _ => 0), (fun _ => 0), (fun _ => 0), (fun _ => 0), (fun _ => 0), (fun _ => 0), (fun _ => 0)]) ((a, .inr (11, [.ref q1, .ref q3, .ref q6, .ref q10, .ref q15, .ref q21, .ref q28, .ref q36, .null, .null, .null, .null, .null, .null, .null, .null, .null, .int 0, .int 0])) :: (q36, .inl (E.2.1 5, 8, .inr (.inr (.inr (.inr (fun _ => none)))))) :: L) q70) mi_X6_init rfl km_X10_36 rfl rfl ⟨Nat.le_of_ble_eq_true rfl, Nat.le_of_ble_eq_true rfl⟩ hK (fun _ => XPx.blind) (fun U hU hW => XPx.at hK hA hz hS hT hU hW) rfl hl.1 (Nat.le_of_ble_eq_true rfl) dX10_init_111 ⟨Nat.le_of_ble_eq_true rfl, Nat.le_of_ble_eq_true rfl⟩) hS ?_
  rintro ⟨K, F⟩ H locs ⟨hM, hk71, hU9⟩ hT hS
  have hk72 : K q1 = 10 := hM _ _ hk61 (by decide)
  have hk73 : K q3 = 7 := hM _ _ hk62 (by decide)
  have hk74 : K q6 = 2 := hM _ _ hk63 (by decide)
  have hk75 : K q10 = 8 := hM _ _ hk64 (by decide)
  have hk76 : K q15 = 8 := hM _ _ hk65 (by decide)
  have hk77 : K q21 = 8 := hM _ _ hk66 (by decide)
  have hk78 : K q28 = 8 := hM _ _ hk67 (by decide)
  have hM0 := KM.tr hM0 hM
  have hU := NU.tr hU hU9
  refine as_15r S hK hT hS None hk71 (by decide) dX10_init_114 (fun H locs hT hS => ?_)
  refine xi_iinc (n := 1) (lv' := fun z9 => [(1, .int z9), (0, .ref a)]) (k := 0) hx hb ((by decide) : Int32.toInt 3 = (3 : Int)) (by decide) dX10_init_115 hl rfl (by decide) (fun _ => rfl) (fun x79 ls t80 hl => ?_)
  have hl : lv_has ls 2 [(1, .int x79), (0, .ref a)] := hl
  have e9 : (4 : Int32).toInt = 4 := by decide
  have h9 : x79 = 4 := Int32.toInt_inj.mp (by rw [e9]; omega)
  subst h9
  have hl : lv_has ls 2 [(1, .int 4), (0, .ref a)] := hl
  refine lv_goto (tgt := 96) hx hb dX10_init_118 (by decide) ?_
  refine lv_iload_n hx hb dX10_init_96 rfl (lv_at hl 0 rfl) ?_
  refine lv_bipush (v := 8) hx hb dX10_init_97 (by decide) ?_
  refine xi_cge (tgt := 121) hx hb ((by decide) : Int32.toInt 4 = (4 : Int)) ((by decide) : Int32.toInt 8 = (8 : Int)) dX10_init_99 (by decide) (fun c => absurd c (show ¬ ((8 : Int) ≤ (4 : Int)) by decide)) (fun _ => ?_)
  refine lv_aload_n hx hb dX10_init_102 rfl (lv_at hl 1 rfl) ?_
  refine tx_get (C := RX10) (T := TX10) (N := 19) (ci := 11) S hK hT inX10 0 rfl rfl 7 (by decide) kf_X10_50 rfl dX10_init_103 ?_
  refine lv_iload_n hx hb dX10_init_106 rfl (lv_at hl 0 rfl) ?_
  refine tx_new (ci := 7) (fs := [.null, .null]) S hK hz hT hS inX6 tyX6 tyX6_ok kn_X10_34 kin_X6.1 kin_X6.2 rfl (by intro j hj; match j, hj with | 0, _ => rfl | 1, _ => rfl | j + 2, hj => exact absurd hj (by omega)) (Nat.le_of_ble_eq_true rfl) (Nat.le_of_ble_eq_true rfl) dX10_init_107 (fun q81 H hT hS => ?_)
  refine lv_dup hx hb dX10_init_110 rfl ?_
  refine x_cv (x_runI (b := q81) (As := []) (rest := [.ref q81, .int 4, .ref q36]) S (c_X6_init l E K F (0, [0, 0, 0, 0, 0, (-2147483648), (-2147483648), 0, 0, 0, 0, 0, 0, (-1), 0, 0, 0, 0, 0, 0, 0], [(fun _ => 0), (fun _ => 0), (fun _ => 0), (fun _ => 0), (fun _ => 0), (fun _ => 0), (fun _ => 0), (fun _ => 0), (fun _ => 0), (fun _ => 0), (fun _ => 0)]) ((a, .inr (11, [.ref q1, .ref q3, .ref q6, .ref q10, .ref q15, .ref q21, .ref q28, .ref q36, .null, .null, .null, .null, .null, .null, .null, .null, .null, .int 0, .int 0])) :: (q36, .inl (E.2.1 5, 8, .inr (.inr (.inr (.inr (fun _ => none)))))) :: L) q81) mi_X6_init rfl km_X10_36 rfl rfl ⟨Nat.le_of_ble_eq_true rfl, Nat.le_of_ble_eq_true rfl⟩ hK (fun _ => XPx.blind) (fun U hU hW => XPx.at hK hA hz hS hT hU hW) rfl hl.1 (Nat.le_of_ble_eq_true rfl) dX10_init_111 ⟨Nat.le_of_ble_eq_true rfl, Nat.le_of_ble_eq_true rfl⟩) hS ?_
  rintro ⟨K, F⟩ H locs ⟨hM, hk82, hU9⟩ hT hS
  have hk83 : K q1 = 10 := hM _ _ hk72 (by decide)
  have hk84 : K q3 = 7 := hM _ _ hk73 (by decide)
  have hk85 : K q6 = 2 := hM _ _ hk74 (by decide)
  have hk86 : K q10 = 8 := hM _ _ hk75 (by decide)
  have hk87 : K q15 = 8 := hM _ _ hk76 (by decide)
  have hk88 : K q21 = 8 := hM _ _ hk77 (by decide)
  have hk89 : K q28 = 8 := hM _ _ hk78 (by decide)
  have hM0 := KM.tr hM0 hM
  have hU := NU.tr hU hU9
  refine as_15r S hK hT hS None hk82 (by decide) dX10_init_114 (fun H locs hT hS => ?_)
  refine xi_iinc (n := 1) (lv' := fun z9 => [(1, .int z9), (0, .ref a)]) (k := 0) hx hb ((by decide) : Int32.toInt 4 = (4 : Int)) (by decide) dX10_init_115 hl rfl (by decide) (fun _ => rfl) (fun x90 ls t91 hl => ?_)
  have hl : lv_has ls 2 [(1, .int x90), (0, .ref a)] := hl
  have e9 : (5 : Int32).toInt = 5 := by decide
  have h9 : x90 = 5 := Int32.toInt_inj.mp (by rw [e9]; omega)
  subst h9
  have hl : lv_has ls 2 [(1, .int 5), (0, .ref a)] := hl
  refine lv_goto (tgt := 96) hx hb dX10_init_118 (by decide) ?_
  refine lv_iload_n hx hb dX10_init_96 rfl (lv_at hl 0 rfl) ?_
  refine lv_bipush (v := 8) hx hb dX10_init_97 (by decide) ?_
  refine xi_cge (tgt := 121) hx hb ((by decide) : Int32.toInt 5 = (5 : Int)) ((by decide) : Int32.toInt 8 = (8 : Int)) dX10_init_99 (by decide) (fun c => absurd c (show ¬ ((8 : Int) ≤ (5 : Int)) by decide)) (fun _ => ?_)
  refine lv_aload_n hx hb dX10_init_102 rfl (lv_at hl 1 rfl) ?_
  refine tx_get (C := RX10) (T := TX10) (N := 19) (ci := 11) S hK hT inX10 0 rfl rfl 7 (by decide) kf_X10_50 rfl dX10_init_103 ?_
  refine lv_iload_n hx hb dX10_init_106 rfl (lv_at hl 0 rfl) ?_
  refine tx_new (ci := 7) (fs := [.null, .null]) S hK hz hT hS inX6 tyX6 tyX6_ok kn_X10_34 kin_X6.1 kin_X6.2 rfl (by intro j hj; match j, hj with | 0, _ => rfl | 1, _ => rfl | j + 2, hj => exact absurd hj (by omega)) (Nat.le_of_ble_eq_true rfl) (Nat.le_of_ble_eq_true rfl) dX10_init_107 (fun q92 H hT hS => ?_)
  refine lv_dup hx hb dX10_init_110 rfl ?_
  refine x_cv (x_runI (b := q92) (As := []) (rest := [.ref q92, .int 5, .ref q36]) S (c_X6_init l E K F (0, [0, 0, 0, 0, 0, (-2147483648), (-2147483648), 0, 0, 0, 0, 0, 0, (-1), 0, 0, 0, 0, 0, 0, 0], [(fun _ => 0), (fun _ => 0), (fun _ => 0), (fun _ => 0), (fun _ => 0), (fun _ => 0), (fun _ => 0), (fun _ => 0), (fun _ => 0), (fun _ => 0), (fun _ => 0)]) ((a, .inr (11, [.ref q1, .ref q3, .ref q6, .ref q10, .ref q15, .ref q21, .ref q28, .ref q36, .null, .null, .null, .null, .null, .null, .null, .null, .null, .int 0, .int 0])) :: (q36, .inl (E.2.1 5, 8, .inr (.inr (.inr (.inr (fun _ => none)))))) :: L) q92) mi_X6_init rfl km_X10_36 rfl rfl ⟨Nat.le_of_ble_eq_true rfl, Nat.le_of_ble_eq_true rfl⟩ hK (fun _ => XPx.blind) (fun U hU hW => XPx.at hK hA hz hS hT hU hW) rfl hl.1 (Nat.le_of_ble_eq_true rfl) dX10_init_111 ⟨Nat.le_of_ble_eq_true rfl, Nat.le_of_ble_eq_true rfl⟩) hS ?_
  rintro ⟨K, F⟩ H locs ⟨hM, hk93, hU9⟩ hT hS
  have hk94 : K q1 = 10 := hM _ _ hk83 (by decide)
  have hk95 : K q3 = 7 := hM _ _ hk84 (by decide)
  have hk96 : K q6 = 2 := hM _ _ hk85 (by decide)
  have hk97 : K q10 = 8 := hM _ _ hk86 (by decide)
  have hk98 : K q15 = 8 := hM _ _ hk87 (by decide)
  have hk99 : K q21 = 8 := hM _ _ hk88 (by decide)
  have hk100 : K q28 = 8 := hM _ _ hk89 (by decide)
  have hM0 := KM.tr hM0 hM
  have hU := NU.tr hU hU9
  refine as_15r S hK hT hS None hk93 (by decide) dX10_init_114 (fun H locs hT hS => ?_)
  refine xi_iinc (n := 1) (lv' := fun z9 => [(1, .int z9), (0, .ref a)]) (k := 0) hx hb ((by decide) : Int32.toInt 5 = (5 : Int)) (by decide) dX10_init_115 hl rfl (by decide) (fun _ => rfl) (fun x101 ls t102 hl => ?_)
  have hl : lv_has ls 2 [(1, .int x101), (0, .ref a)] := hl
  have e9 : (6 : Int32).toInt = 6 := by decide
  have h9 : x101 = 6 := Int32.toInt_inj.mp (by rw [e9]; omega)
  subst h9
  have hl : lv_has ls 2 [(1, .int 6), (0, .ref a)] := hl
  refine lv_goto (tgt := 96) hx hb dX10_init_118 (by decide) ?_
  refine lv_iload_n hx hb dX10_init_96 rfl (lv_at hl 0 rfl) ?_
  refine lv_bipush (v := 8) hx hb dX10_init_97 (by decide) ?_
  refine xi_cge (tgt := 121) hx hb ((by decide) : Int32.toInt 6 = (6 : Int)) ((by decide) : Int32.toInt 8 = (8 : Int)) dX10_init_99 (by decide) (fun c => absurd c (show ¬ ((8 : Int) ≤ (6 : Int)) by decide)) (fun _ => ?_)
  refine lv_aload_n hx hb dX10_init_102 rfl (lv_at hl 1 rfl) ?_
  refine tx_get (C := RX10) (T := TX10) (N := 19) (ci := 11) S hK hT inX10 0 rfl rfl 7 (by decide) kf_X10_50 rfl dX10_init_103 ?_
  refine lv_iload_n hx hb dX10_init_106 rfl (lv_at hl 0 rfl) ?_
  refine tx_new (ci := 7) (fs := [.null, .null]) S hK hz hT hS inX6 tyX6 tyX6_ok kn_X10_34 kin_X6.1 kin_X6.2 rfl (by intro j hj; match j, hj with | 0, _ => rfl | 1, _ => rfl | j + 2, hj => exact absurd hj (by omega)) (Nat.le_of_ble_eq_true rfl) (Nat.le_of_ble_eq_true rfl) dX10_init_107 (fun q103 H hT hS => ?_)
  refine lv_dup hx hb dX10_init_110 rfl ?_
  refine x_cv (x_runI (b := q103) (As := []) (rest := [.ref q103, .int 6, .ref q36]) S (c_X6_init l E K F (0, [0, 0, 0, 0, 0, (-2147483648), (-2147483648), 0, 0, 0, 0, 0, 0, (-1), 0, 0, 0, 0, 0, 0, 0], [(fun _ => 0), (fun _ => 0), (fun _ => 0), (fun _ => 0), (fun _ => 0), (fun _ => 0), (fun _ => 0), (fun _ => 0), (fun _ => 0), (fun _ => 0), (fun _ => 0)]) ((a, .inr (11, [.ref q1, .ref q3, .ref q6, .ref q10, .ref q15, .ref q21, .ref q28, .ref q36, .null, .null, .null, .null, .null, .null, .null, .null, .null, .int 0, .int 0])) :: (q36, .inl (E.2.1 5, 8, .inr (.inr (.inr (.inr (fun _ => none)))))) :: L) q103) mi_X6_init rfl km_X10_36 rfl rfl ⟨Nat.le_of_ble_eq_true rfl, Nat.le_of_ble_eq_true rfl⟩ hK (fun _ => XPx.blind) (fun U hU hW => XPx.at hK hA hz hS hT hU hW) rfl hl.1 (Nat.le_of_ble_eq_true rfl) dX10_init_111 ⟨Nat.le_of_ble_eq_true rfl, Nat.le_of_ble_eq_true rfl⟩) hS ?_
  rintro ⟨K, F⟩ H locs ⟨hM, hk104, hU9⟩ hT hS
  have hk105 : K q1 = 10 := hM _ _ hk94 (by decide)
  have hk106 : K q3 = 7 := hM _ _ hk95 (by decide)
  have hk107 : K q6 = 2 := hM _ _ hk96 (by decide)
  have hk108 : K q10 = 8 := hM _ _ hk97 (by decide)
  have hk109 : K q15 = 8 := hM _ _ hk98 (by decide)
  have hk110 : K q21 = 8 := hM _ _ hk99 (by decide)
  have hk111 : K q28 = 8 := hM _ _ hk100 (by decide)
  have hM0 := KM.tr hM0 hM
  have hU := NU.tr hU hU9
  refine as_15r S hK hT hS None hk104 (by decide) dX10_init_114 (fun H locs hT hS => ?_)
  refine xi_iinc (n := 1) (lv' := fun z9 => [(1, .int z9), (0, .ref a)]) (k := 0) hx hb ((by decide) : Int32.toInt 6 = (6 : Int)) (by decide) dX10_init_115 hl rfl (by decide) (fun _ => rfl) (fun x112 ls t113 hl => ?_)
  have hl : lv_has ls 2 [(1, .int x112), (0, .ref a)] := hl
  have e9 : (7 : Int32).toInt = 7 := by decide
  have h9 : x112 = 7 := Int32.toInt_inj.mp (by rw [e9]; omega)
  subst h9
  have hl : lv_has ls 2 [(1, .int 7), (0, .ref a)] := hl
  refine lv_goto (tgt := 96) hx hb dX10_init_118 (by decide) ?_
  refine lv_iload_n hx hb dX10_init_96 rfl (lv_at hl 0 rfl) ?_
  refine lv_bipush (v := 8) hx hb dX10_init_97 (by decide) ?_
  refine xi_cge (tgt := 121) hx hb ((by decide) : Int32.toInt 7 = (7 : Int)) ((by decide) : Int32.toInt 8 = (8 : Int)) dX10_init_99 (by decide) (fun c => absurd c (show ¬ ((8 : Int) ≤ (7 : Int)) by decide)) (fun _ => ?_)
  refine lv_aload_n hx hb dX10_init_102 rfl (lv_at hl 1 rfl) ?_
  refine tx_get (C := RX10) (T := TX10) (N := 19) (ci := 11) S hK hT inX10 0 rfl rfl 7 (by decide) kf_X10_50 rfl dX10_init_103 ?_
  refine lv_iload_n hx hb dX10_init_106 rfl (lv_at hl 0 rfl) ?_
  refine tx_new (ci := 7) (fs := [.null, .null]) S hK hz hT hS inX6 tyX6 tyX6_ok kn_X10_34 kin_X6.1 kin_X6.2 rfl (by intro j hj; match j, hj with | 0, _ => rfl | 1, _ => rfl | j + 2, hj => exact absurd hj (by omega)) (Nat.le_of_ble_eq_true rfl) (Nat.le_of_ble_eq_true rfl) dX10_init_107 (fun q114 H hT hS => ?_)
  refine lv_dup hx hb dX10_init_110 rfl ?_
  refine x_cv (x_runI (b := q114) (As := []) (rest := [.ref q114, .int 7, .ref q36]) S (c_X6_init l E K F (0, [0, 0, 0, 0, 0, (-2147483648), (-2147483648), 0, 0, 0, 0, 0, 0, (-1), 0, 0, 0, 0, 0, 0, 0], [(fun _ => 0), (fun _ => 0), (fun _ => 0), (fun _ => 0), (fun _ => 0), (fun _ => 0), (fun _ => 0), (fun _ => 0), (fun _ => 0), (fun _ => 0), (fun _ => 0)]) ((a, .inr (11, [.ref q1, .ref q3, .ref q6, .ref q10, .ref q15, .ref q21, .ref q28, .ref q36, .null, .null, .null, .null, .null, .null, .null, .null, .null, .int 0, .int 0])) :: (q36, .inl (E.2.1 5, 8, .inr (.inr (.inr (.inr (fun _ => none)))))) :: L) q114) mi_X6_init rfl km_X10_36 rfl rfl ⟨Nat.le_of_ble_eq_true rfl, Nat.le_of_ble_eq_true rfl⟩ hK (fun _ => XPx.blind) (fun U hU hW => XPx.at hK hA hz hS hT hU hW) rfl hl.1 (Nat.le_of_ble_eq_true rfl) dX10_init_111 ⟨Nat.le_of_ble_eq_true rfl, Nat.le_of_ble_eq_true rfl⟩) hS ?_
  rintro ⟨K, F⟩ H locs ⟨hM, hk115, hU9⟩ hT hS
  have hk116 : K q1 = 10 := hM _ _ hk105 (by decide)
  have hk117 : K q3 = 7 := hM _ _ hk106 (by decide)
  have hk118 : K q6 = 2 := hM _ _ hk107 (by decide)
  have hk119 : K q10 = 8 := hM _ _ hk108 (by decide)
  have hk120 : K q15 = 8 := hM _ _ hk109 (by decide)
  have hk121 : K q21 = 8 := hM _ _ hk110 (by decide)
  have hk122 : K q28 = 8 := hM _ _ hk111 (by decide)
  have hM0 := KM.tr hM0 hM
  have hU := NU.tr hU hU9
  refine as_15r S hK hT hS None hk115 (by decide) dX10_init_114 (fun H locs hT hS => ?_)
  refine xi_iinc (n := 1) (lv' := fun z9 => [(1, .int z9), (0, .ref a)]) (k := 0) hx hb ((by decide) : Int32.toInt 7 = (7 : Int)) (by decide) dX10_init_115 hl rfl (by decide) (fun _ => rfl) (fun x123 ls t124 hl => ?_)
  have hl : lv_has ls 2 [(1, .int x123), (0, .ref a)] := hl
  have e9 : (8 : Int32).toInt = 8 := by decide
  have h9 : x123 = 8 := Int32.toInt_inj.mp (by rw [e9]; omega)
  subst h9
  have hl : lv_has ls 2 [(1, .int 8), (0, .ref a)] := hl
  refine lv_goto (tgt := 96) hx hb dX10_init_118 (by decide) ?_
  refine lv_iload_n hx hb dX10_init_96 rfl (lv_at hl 0 rfl) ?_
  refine lv_bipush (v := 8) hx hb dX10_init_97 (by decide) ?_
  refine xi_cge (tgt := 121) hx hb ((by decide) : Int32.toInt 8 = (8 : Int)) ((by decide) : Int32.toInt 8 = (8 : Int)) dX10_init_99 (by decide) (fun _ => ?_) (fun c => absurd (show (8 : Int) ≤ (8 : Int) by decide) c)
  have hT := hT.sw
  have hT : TX E K F (0, [0, 0, 0, 0, 0, (-2147483648), (-2147483648), 0, 0, 0, 0, 0, 0, (-1), 0, 0, 0, 0, 0, 0, 0], [(fun _ => 0), (fun _ => 0), (fun _ => 0), (fun _ => 0), (fun _ => 0), (fun _ => 0), (fun _ => 0), (fun _ => 0), (fun _ => 0), (fun _ => 0), (fun _ => 0)]) ((q36, .inl (E.2.1 5, 8, .inr (.inr (.inr (.inr (fun _ => none)))))) :: (a, .inr (11, [.ref q1, .ref q3, .ref q6, .ref q10, .ref q15, .ref q21, .ref q28, .ref q36, .null, .null, .null, .null, .null, .null, .null, .null, .null, .int 0, .int 0])) :: L) H := hT
  obtain ⟨K, F, hM, hk125, hU9, hT⟩ := hT.cl 16 (fun j => 0) (by decide) (fun hq => absurd hq (by decide)) (fun K1 F1 hM hF => ⟨_, rfl, fun i hi => by match i, hi with  | i + 8, hi => exact absurd hi (by omega)⟩)
  have hk126 : K q1 = 10 := hM _ _ hk116 (by decide)
  have hk127 : K q3 = 7 := hM _ _ hk117 (by decide)
  have hk128 : K q6 = 2 := hM _ _ hk118 (by decide)
  have hk129 : K q10 = 8 := hM _ _ hk119 (by decide)
  have hk130 : K q15 = 8 := hM _ _ hk120 (by decide)
  have hk131 : K q21 = 8 := hM _ _ hk121 (by decide)
  have hk132 : K q28 = 8 := hM _ _ hk122 (by decide)
  have hM0 := KM.tr hM0 hM
  have hU := NU.tr hU hU9
  refine lv_aload_n hx hb dX10_init_121 rfl (lv_at hl 1 rfl) ?_
  refine tx_new (ci := 5) (fs := [.null, .null, .null, .null, .null, .null, .int 0]) S hK hz hT hS inX4 tyX4 tyX4_ok kn_X10_54 kin_X4.1 kin_X4.2 rfl (by intro j hj; match j, hj with | 0, _ => rfl | 1, _ => rfl | 2, _ => rfl | 3, _ => rfl | 4, _ => rfl | 5, _ => rfl | 6, _ => rfl | j + 7, hj => exact absurd hj (by omega)) (Nat.le_of_ble_eq_true rfl) (Nat.le_of_ble_eq_true rfl) dX10_init_122 (fun q133 H hT hS => ?_)
  refine lv_dup hx hb dX10_init_125 rfl ?_
  refine x_cv (x_runI (b := q133) (As := []) (rest := [.ref q133, .ref a]) S (c_X4_init l E K F (0, [0, 0, 0, 0, 0, (-2147483648), (-2147483648), 0, 0, 0, 0, 0, 0, (-1), 0, 0, 0, 0, 0, 0, 0], [(fun _ => 0), (fun _ => 0), (fun _ => 0), (fun _ => 0), (fun _ => 0), (fun _ => 0), (fun _ => 0), (fun _ => 0), (fun _ => 0), (fun _ => 0), (fun _ => 0)]) ((a, .inr (11, [.ref q1, .ref q3, .ref q6, .ref q10, .ref q15, .ref q21, .ref q28, .ref q36, .null, .null, .null, .null, .null, .null, .null, .null, .null, .int 0, .int 0])) :: L) q133) mi_X4_init rfl km_X10_56 rfl rfl ⟨Nat.le_of_ble_eq_true rfl, Nat.le_of_ble_eq_true rfl⟩ hK (fun _ => XPx.blind) (fun U hU hW => XPx.at hK hA hz hS hT hU hW) rfl hl.1 (Nat.le_of_ble_eq_true rfl) dX10_init_126 ⟨Nat.le_of_ble_eq_true rfl, Nat.le_of_ble_eq_true rfl⟩) hS ?_
  rintro ⟨K, F⟩ H locs ⟨hM, hk134, hU9⟩ hT hS
  have hk135 : K q1 = 10 := hM _ _ hk126 (by decide)
  have hk136 : K q3 = 7 := hM _ _ hk127 (by decide)
  have hk137 : K q6 = 2 := hM _ _ hk128 (by decide)
  have hk138 : K q10 = 8 := hM _ _ hk129 (by decide)
  have hk139 : K q15 = 8 := hM _ _ hk130 (by decide)
  have hk140 : K q21 = 8 := hM _ _ hk131 (by decide)
  have hk141 : K q28 = 8 := hM _ _ hk132 (by decide)
  have hk142 : K q36 = 16 := hM _ _ hk125 (by decide)
  have hM0 := KM.tr hM0 hM
  have hU := NU.tr hU hU9
  refine tx_putF (C := RX10) (T := TX10) (N := 19) (ci := 11) (ty := (.object "LateRules$Questions")) S hK hT hS inX10 tyX10 tyX10_ok nmX10 0 rfl rfl 8 (by decide) kf_X10_57 rfl hnm rfl (by decide +kernel) rfl rfl (Nat.le_of_ble_eq_true rfl) dX10_init_129 (fun H locs hT hS => ?_)
  have hT : TX E K F (0, [0, 0, 0, 0, 0, (-2147483648), (-2147483648), 0, 0, 0, 0, 0, 0, (-1), 0, 0, 0, 0, 0, 0, 0], [(fun _ => 0), (fun _ => 0), (fun _ => 0), (fun _ => 0), (fun _ => 0), (fun _ => 0), (fun _ => 0), (fun _ => 0), (fun _ => 0), (fun _ => 0), (fun _ => 0)]) ((a, .inr (11, [.ref q1, .ref q3, .ref q6, .ref q10, .ref q15, .ref q21, .ref q28, .ref q36, .ref q133, .null, .null, .null, .null, .null, .null, .null, .null, .int 0, .int 0])) :: L) H := hT
  refine lv_aload_n hx hb dX10_init_132 rfl (lv_at hl 1 rfl) ?_
  refine tx_new (ci := 5) (fs := [.null, .null, .null, .null, .null, .null, .int 0]) S hK hz hT hS inX4 tyX4 tyX4_ok kn_X10_54 kin_X4.1 kin_X4.2 rfl (by intro j hj; match j, hj with | 0, _ => rfl | 1, _ => rfl | 2, _ => rfl | 3, _ => rfl | 4, _ => rfl | 5, _ => rfl | 6, _ => rfl | j + 7, hj => exact absurd hj (by omega)) (Nat.le_of_ble_eq_true rfl) (Nat.le_of_ble_eq_true rfl) dX10_init_133 (fun q143 H hT hS => ?_)
  refine lv_dup hx hb dX10_init_136 rfl ?_
  refine x_cv (x_runI (b := q143) (As := []) (rest := [.ref q143, .ref a]) S (c_X4_init l E K F (0, [0, 0, 0, 0, 0, (-2147483648), (-2147483648), 0, 0, 0, 0, 0, 0, (-1), 0, 0, 0, 0, 0, 0, 0], [(fun _ => 0), (fun _ => 0), (fun _ => 0), (fun _ => 0), (fun _ => 0), (fun _ => 0), (fun _ => 0), (fun _ => 0), (fun _ => 0), (fun _ => 0), (fun _ => 0)]) ((a, .inr (11, [.ref q1, .ref q3, .ref q6, .ref q10, .ref q15, .ref q21, .ref q28, .ref q36, .ref q133, .null, .null, .null, .null, .null, .null, .null, .null, .int 0, .int 0])) :: L) q143) mi_X4_init rfl km_X10_56 rfl rfl ⟨Nat.le_of_ble_eq_true rfl, Nat.le_of_ble_eq_true rfl⟩ hK (fun _ => XPx.blind) (fun U hU hW => XPx.at hK hA hz hS hT hU hW) rfl hl.1 (Nat.le_of_ble_eq_true rfl) dX10_init_137 ⟨Nat.le_of_ble_eq_true rfl, Nat.le_of_ble_eq_true rfl⟩) hS ?_
  rintro ⟨K, F⟩ H locs ⟨hM, hk144, hU9⟩ hT hS
  have hk145 : K q1 = 10 := hM _ _ hk135 (by decide)
  have hk146 : K q3 = 7 := hM _ _ hk136 (by decide)
  have hk147 : K q6 = 2 := hM _ _ hk137 (by decide)
  have hk148 : K q10 = 8 := hM _ _ hk138 (by decide)
  have hk149 : K q15 = 8 := hM _ _ hk139 (by decide)
  have hk150 : K q21 = 8 := hM _ _ hk140 (by decide)
  have hk151 : K q28 = 8 := hM _ _ hk141 (by decide)
  have hk152 : K q36 = 16 := hM _ _ hk142 (by decide)
  have hk153 : K q133 = 6 := hM _ _ hk134 (by decide)
  have hM0 := KM.tr hM0 hM
  have hU := NU.tr hU hU9
  refine tx_putF (C := RX10) (T := TX10) (N := 19) (ci := 11) (ty := (.object "LateRules$Questions")) S hK hT hS inX10 tyX10 tyX10_ok nmX10 0 rfl rfl 9 (by decide) kf_X10_61 rfl hnm rfl (by decide +kernel) rfl rfl (Nat.le_of_ble_eq_true rfl) dX10_init_140 (fun H locs hT hS => ?_)
  have hT : TX E K F (0, [0, 0, 0, 0, 0, (-2147483648), (-2147483648), 0, 0, 0, 0, 0, 0, (-1), 0, 0, 0, 0, 0, 0, 0], [(fun _ => 0), (fun _ => 0), (fun _ => 0), (fun _ => 0), (fun _ => 0), (fun _ => 0), (fun _ => 0), (fun _ => 0), (fun _ => 0), (fun _ => 0), (fun _ => 0)]) ((a, .inr (11, [.ref q1, .ref q3, .ref q6, .ref q10, .ref q15, .ref q21, .ref q28, .ref q36, .ref q133, .ref q143, .null, .null, .null, .null, .null, .null, .null, .int 0, .int 0])) :: L) H := hT
  refine lv_aload_n hx hb dX10_init_143 rfl (lv_at hl 1 rfl) ?_
  refine tx_new (ci := 5) (fs := [.null, .null, .null, .null, .null, .null, .int 0]) S hK hz hT hS inX4 tyX4 tyX4_ok kn_X10_54 kin_X4.1 kin_X4.2 rfl (by intro j hj; match j, hj with | 0, _ => rfl | 1, _ => rfl | 2, _ => rfl | 3, _ => rfl | 4, _ => rfl | 5, _ => rfl | 6, _ => rfl | j + 7, hj => exact absurd hj (by omega)) (Nat.le_of_ble_eq_true rfl) (Nat.le_of_ble_eq_true rfl) dX10_init_144 (fun q154 H hT hS => ?_)
  refine lv_dup hx hb dX10_init_147 rfl ?_
  refine x_cv (x_runI (b := q154) (As := []) (rest := [.ref q154, .ref a]) S (c_X4_init l E K F (0, [0, 0, 0, 0, 0, (-2147483648), (-2147483648), 0, 0, 0, 0, 0, 0, (-1), 0, 0, 0, 0, 0, 0, 0], [(fun _ => 0), (fun _ => 0), (fun _ => 0), (fun _ => 0), (fun _ => 0), (fun _ => 0), (fun _ => 0), (fun _ => 0), (fun _ => 0), (fun _ => 0), (fun _ => 0)]) ((a, .inr (11, [.ref q1, .ref q3, .ref q6, .ref q10, .ref q15, .ref q21, .ref q28, .ref q36, .ref q133, .ref q143, .null, .null, .null, .null, .null, .null, .null, .int 0, .int 0])) :: L) q154) mi_X4_init rfl km_X10_56 rfl rfl ⟨Nat.le_of_ble_eq_true rfl, Nat.le_of_ble_eq_true rfl⟩ hK (fun _ => XPx.blind) (fun U hU hW => XPx.at hK hA hz hS hT hU hW) rfl hl.1 (Nat.le_of_ble_eq_true rfl) dX10_init_148 ⟨Nat.le_of_ble_eq_true rfl, Nat.le_of_ble_eq_true rfl⟩) hS ?_
  rintro ⟨K, F⟩ H locs ⟨hM, hk155, hU9⟩ hT hS
  have hk156 : K q1 = 10 := hM _ _ hk145 (by decide)
  have hk157 : K q3 = 7 := hM _ _ hk146 (by decide)
  have hk158 : K q6 = 2 := hM _ _ hk147 (by decide)
  have hk159 : K q10 = 8 := hM _ _ hk148 (by decide)
  have hk160 : K q15 = 8 := hM _ _ hk149 (by decide)
  have hk161 : K q21 = 8 := hM _ _ hk150 (by decide)
  have hk162 : K q28 = 8 := hM _ _ hk151 (by decide)
  have hk163 : K q36 = 16 := hM _ _ hk152 (by decide)
  have hk164 : K q133 = 6 := hM _ _ hk153 (by decide)
  have hk165 : K q143 = 6 := hM _ _ hk144 (by decide)
  have hM0 := KM.tr hM0 hM
  have hU := NU.tr hU hU9
  refine tx_putF (C := RX10) (T := TX10) (N := 19) (ci := 11) (ty := (.object "LateRules$Questions")) S hK hT hS inX10 tyX10 tyX10_ok nmX10 0 rfl rfl 10 (by decide) kf_X10_64 rfl hnm rfl (by decide +kernel) rfl rfl (Nat.le_of_ble_eq_true rfl) dX10_init_151 (fun H locs hT hS => ?_)
  have hT : TX E K F (0, [0, 0, 0, 0, 0, (-2147483648), (-2147483648), 0, 0, 0, 0, 0, 0, (-1), 0, 0, 0, 0, 0, 0, 0], [(fun _ => 0), (fun _ => 0), (fun _ => 0), (fun _ => 0), (fun _ => 0), (fun _ => 0), (fun _ => 0), (fun _ => 0), (fun _ => 0), (fun _ => 0), (fun _ => 0)]) ((a, .inr (11, [.ref q1, .ref q3, .ref q6, .ref q10, .ref q15, .ref q21, .ref q28, .ref q36, .ref q133, .ref q143, .ref q154, .null, .null, .null, .null, .null, .null, .int 0, .int 0])) :: L) H := hT
  refine lv_aload_n hx hb dX10_init_154 rfl (lv_at hl 1 rfl) ?_
  refine tx_new (ci := 2) (fs := [.null, .null, .null, .int 0]) S hK hz hT hS inX1 tyX1 tyX1_ok kn_X10_67 kin_X1.1 kin_X1.2 rfl (by intro j hj; match j, hj with | 0, _ => rfl | 1, _ => rfl | 2, _ => rfl | 3, _ => rfl | j + 4, hj => exact absurd hj (by omega)) (Nat.le_of_ble_eq_true rfl) (Nat.le_of_ble_eq_true rfl) dX10_init_155 (fun q166 H hT hS => ?_)
  refine lv_dup hx hb dX10_init_158 rfl ?_
  refine x_cv (x_runI (b := q166) (As := []) (rest := [.ref q166, .ref a]) S (c_X1_init l E K F (0, [0, 0, 0, 0, 0, (-2147483648), (-2147483648), 0, 0, 0, 0, 0, 0, (-1), 0, 0, 0, 0, 0, 0, 0], [(fun _ => 0), (fun _ => 0), (fun _ => 0), (fun _ => 0), (fun _ => 0), (fun _ => 0), (fun _ => 0), (fun _ => 0), (fun _ => 0), (fun _ => 0), (fun _ => 0)]) ((a, .inr (11, [.ref q1, .ref q3, .ref q6, .ref q10, .ref q15, .ref q21, .ref q28, .ref q36, .ref q133, .ref q143, .ref q154, .null, .null, .null, .null, .null, .null, .int 0, .int 0])) :: L) q166) mi_X1_init rfl km_X10_69 rfl rfl ⟨Nat.le_of_ble_eq_true rfl, Nat.le_of_ble_eq_true rfl⟩ hK (fun _ => XPx.blind) (fun U hU hW => XPx.at hK hA hz hS hT hU hW) rfl hl.1 (Nat.le_of_ble_eq_true rfl) dX10_init_159 ⟨Nat.le_of_ble_eq_true rfl, Nat.le_of_ble_eq_true rfl⟩) hS ?_
  rintro ⟨K, F⟩ H locs ⟨hM, hk167, hU9⟩ hT hS
  have hk168 : K q1 = 10 := hM _ _ hk156 (by decide)
  have hk169 : K q3 = 7 := hM _ _ hk157 (by decide)
  have hk170 : K q6 = 2 := hM _ _ hk158 (by decide)
  have hk171 : K q10 = 8 := hM _ _ hk159 (by decide)
  have hk172 : K q15 = 8 := hM _ _ hk160 (by decide)
  have hk173 : K q21 = 8 := hM _ _ hk161 (by decide)
  have hk174 : K q28 = 8 := hM _ _ hk162 (by decide)
  have hk175 : K q36 = 16 := hM _ _ hk163 (by decide)
  have hk176 : K q133 = 6 := hM _ _ hk164 (by decide)
  have hk177 : K q143 = 6 := hM _ _ hk165 (by decide)
  have hk178 : K q154 = 6 := hM _ _ hk155 (by decide)
  have hM0 := KM.tr hM0 hM
  have hU := NU.tr hU hU9
  refine tx_putF (C := RX10) (T := TX10) (N := 19) (ci := 11) (ty := (.object "LateRules$Comparison")) S hK hT hS inX10 tyX10 tyX10_ok nmX10 0 rfl rfl 11 (by decide) kf_X10_70 rfl hnm rfl (by decide +kernel) rfl rfl (Nat.le_of_ble_eq_true rfl) dX10_init_162 (fun H locs hT hS => ?_)
  have hT : TX E K F (0, [0, 0, 0, 0, 0, (-2147483648), (-2147483648), 0, 0, 0, 0, 0, 0, (-1), 0, 0, 0, 0, 0, 0, 0], [(fun _ => 0), (fun _ => 0), (fun _ => 0), (fun _ => 0), (fun _ => 0), (fun _ => 0), (fun _ => 0), (fun _ => 0), (fun _ => 0), (fun _ => 0), (fun _ => 0)]) ((a, .inr (11, [.ref q1, .ref q3, .ref q6, .ref q10, .ref q15, .ref q21, .ref q28, .ref q36, .ref q133, .ref q143, .ref q154, .ref q166, .null, .null, .null, .null, .null, .int 0, .int 0])) :: L) H := hT
  refine lv_aload_n hx hb dX10_init_165 rfl (lv_at hl 1 rfl) ?_
  refine tx_new (ci := 3) (fs := [.null, .null, .null, .null, .int 0]) S hK hz hT hS inX2 tyX2 tyX2_ok kn_X10_74 kin_X2.1 kin_X2.2 rfl (by intro j hj; match j, hj with | 0, _ => rfl | 1, _ => rfl | 2, _ => rfl | 3, _ => rfl | 4, _ => rfl | j + 5, hj => exact absurd hj (by omega)) (Nat.le_of_ble_eq_true rfl) (Nat.le_of_ble_eq_true rfl) dX10_init_166 (fun q179 H hT hS => ?_)
  refine lv_dup hx hb dX10_init_169 rfl ?_
  refine x_cv (x_runI (b := q179) (As := []) (rest := [.ref q179, .ref a]) S (c_X2_init l E K F (0, [0, 0, 0, 0, 0, (-2147483648), (-2147483648), 0, 0, 0, 0, 0, 0, (-1), 0, 0, 0, 0, 0, 0, 0], [(fun _ => 0), (fun _ => 0), (fun _ => 0), (fun _ => 0), (fun _ => 0), (fun _ => 0), (fun _ => 0), (fun _ => 0), (fun _ => 0), (fun _ => 0), (fun _ => 0)]) ((a, .inr (11, [.ref q1, .ref q3, .ref q6, .ref q10, .ref q15, .ref q21, .ref q28, .ref q36, .ref q133, .ref q143, .ref q154, .ref q166, .null, .null, .null, .null, .null, .int 0, .int 0])) :: L) q179) mi_X2_init rfl km_X10_76 rfl rfl ⟨Nat.le_of_ble_eq_true rfl, Nat.le_of_ble_eq_true rfl⟩ hK (fun _ => XPx.blind) (fun U hU hW => XPx.at hK hA hz hS hT hU hW) rfl hl.1 (Nat.le_of_ble_eq_true rfl) dX10_init_170 ⟨Nat.le_of_ble_eq_true rfl, Nat.le_of_ble_eq_true rfl⟩) hS ?_
  rintro ⟨K, F⟩ H locs ⟨hM, hk180, hU9⟩ hT hS
  have hk181 : K q1 = 10 := hM _ _ hk168 (by decide)
  have hk182 : K q3 = 7 := hM _ _ hk169 (by decide)
  have hk183 : K q6 = 2 := hM _ _ hk170 (by decide)
  have hk184 : K q10 = 8 := hM _ _ hk171 (by decide)
  have hk185 : K q15 = 8 := hM _ _ hk172 (by decide)
  have hk186 : K q21 = 8 := hM _ _ hk173 (by decide)
  have hk187 : K q28 = 8 := hM _ _ hk174 (by decide)
  have hk188 : K q36 = 16 := hM _ _ hk175 (by decide)
  have hk189 : K q133 = 6 := hM _ _ hk176 (by decide)
  have hk190 : K q143 = 6 := hM _ _ hk177 (by decide)
  have hk191 : K q154 = 6 := hM _ _ hk178 (by decide)
  have hk192 : K q166 = 3 := hM _ _ hk167 (by decide)
  have hM0 := KM.tr hM0 hM
  have hU := NU.tr hU hU9
  refine tx_putF (C := RX10) (T := TX10) (N := 19) (ci := 11) (ty := (.object "LateRules$Followers")) S hK hT hS inX10 tyX10 tyX10_ok nmX10 0 rfl rfl 12 (by decide) kf_X10_77 rfl hnm rfl (by decide +kernel) rfl rfl (Nat.le_of_ble_eq_true rfl) dX10_init_173 (fun H locs hT hS => ?_)
  have hT : TX E K F (0, [0, 0, 0, 0, 0, (-2147483648), (-2147483648), 0, 0, 0, 0, 0, 0, (-1), 0, 0, 0, 0, 0, 0, 0], [(fun _ => 0), (fun _ => 0), (fun _ => 0), (fun _ => 0), (fun _ => 0), (fun _ => 0), (fun _ => 0), (fun _ => 0), (fun _ => 0), (fun _ => 0), (fun _ => 0)]) ((a, .inr (11, [.ref q1, .ref q3, .ref q6, .ref q10, .ref q15, .ref q21, .ref q28, .ref q36, .ref q133, .ref q143, .ref q154, .ref q166, .ref q179, .null, .null, .null, .null, .int 0, .int 0])) :: L) H := hT
  refine lv_aload_n hx hb dX10_init_176 rfl (lv_at hl 1 rfl) ?_
  refine tx_new (ci := 4) (fs := [.null, .null, .null, .int 0]) S hK hz hT hS inX3 tyX3 tyX3_ok kn_X10_81 kin_X3.1 kin_X3.2 rfl (by intro j hj; match j, hj with | 0, _ => rfl | 1, _ => rfl | 2, _ => rfl | 3, _ => rfl | j + 4, hj => exact absurd hj (by omega)) (Nat.le_of_ble_eq_true rfl) (Nat.le_of_ble_eq_true rfl) dX10_init_177 (fun q193 H hT hS => ?_)
  refine lv_dup hx hb dX10_init_180 rfl ?_
  refine x_cv (x_runI (b := q193) (As := []) (rest := [.ref q193, .ref a]) S (c_X3_init l E K F (0, [0, 0, 0, 0, 0, (-2147483648), (-2147483648), 0, 0, 0, 0, 0, 0, (-1), 0, 0, 0, 0, 0, 0, 0], [(fun _ => 0), (fun _ => 0), (fun _ => 0), (fun _ => 0), (fun _ => 0), (fun _ => 0), (fun _ => 0), (fun _ => 0), (fun _ => 0), (fun _ => 0), (fun _ => 0)]) ((a, .inr (11, [.ref q1, .ref q3, .ref q6, .ref q10, .ref q15, .ref q21, .ref q28, .ref q36, .ref q133, .ref q143, .ref q154, .ref q166, .ref q179, .null, .null, .null, .null, .int 0, .int 0])) :: L) q193) mi_X3_init rfl km_X10_83 rfl rfl ⟨Nat.le_of_ble_eq_true rfl, Nat.le_of_ble_eq_true rfl⟩ hK (fun _ => XPx.blind) (fun U hU hW => XPx.at hK hA hz hS hT hU hW) rfl hl.1 (Nat.le_of_ble_eq_true rfl) dX10_init_181 ⟨Nat.le_of_ble_eq_true rfl, Nat.le_of_ble_eq_true rfl⟩) hS ?_
  rintro ⟨K, F⟩ H locs ⟨hM, hk194, hU9⟩ hT hS
  have hk195 : K q1 = 10 := hM _ _ hk181 (by decide)
  have hk196 : K q3 = 7 := hM _ _ hk182 (by decide)
  have hk197 : K q6 = 2 := hM _ _ hk183 (by decide)
  have hk198 : K q10 = 8 := hM _ _ hk184 (by decide)
  have hk199 : K q15 = 8 := hM _ _ hk185 (by decide)
  have hk200 : K q21 = 8 := hM _ _ hk186 (by decide)
  have hk201 : K q28 = 8 := hM _ _ hk187 (by decide)
  have hk202 : K q36 = 16 := hM _ _ hk188 (by decide)
  have hk203 : K q133 = 6 := hM _ _ hk189 (by decide)
  have hk204 : K q143 = 6 := hM _ _ hk190 (by decide)
  have hk205 : K q154 = 6 := hM _ _ hk191 (by decide)
  have hk206 : K q166 = 3 := hM _ _ hk192 (by decide)
  have hk207 : K q179 = 4 := hM _ _ hk180 (by decide)
  have hM0 := KM.tr hM0 hM
  have hU := NU.tr hU hU9
  refine tx_putF (C := RX10) (T := TX10) (N := 19) (ci := 11) (ty := (.object "LateRules$Leaners")) S hK hT hS inX10 tyX10 tyX10_ok nmX10 0 rfl rfl 13 (by decide) kf_X10_84 rfl hnm rfl (by decide +kernel) rfl rfl (Nat.le_of_ble_eq_true rfl) dX10_init_184 (fun H locs hT hS => ?_)
  have hT : TX E K F (0, [0, 0, 0, 0, 0, (-2147483648), (-2147483648), 0, 0, 0, 0, 0, 0, (-1), 0, 0, 0, 0, 0, 0, 0], [(fun _ => 0), (fun _ => 0), (fun _ => 0), (fun _ => 0), (fun _ => 0), (fun _ => 0), (fun _ => 0), (fun _ => 0), (fun _ => 0), (fun _ => 0), (fun _ => 0)]) ((a, .inr (11, [.ref q1, .ref q3, .ref q6, .ref q10, .ref q15, .ref q21, .ref q28, .ref q36, .ref q133, .ref q143, .ref q154, .ref q166, .ref q179, .ref q193, .null, .null, .null, .int 0, .int 0])) :: L) H := hT
  refine lv_aload_n hx hb dX10_init_187 rfl (lv_at hl 1 rfl) ?_
  refine tx_new (ci := 10) (fs := [.null, .int 0, .int 0, .int 0]) S hK hz hT hS inX9 tyX9 tyX9_ok kn_X10_88 kin_X9.1 kin_X9.2 rfl (by intro j hj; match j, hj with | 0, _ => rfl | 1, _ => rfl | 2, _ => rfl | 3, _ => rfl | j + 4, hj => exact absurd hj (by omega)) (Nat.le_of_ble_eq_true rfl) (Nat.le_of_ble_eq_true rfl) dX10_init_188 (fun q208 H hT hS => ?_)
  refine lv_dup hx hb dX10_init_191 rfl ?_
  refine x_cv (x_runI (b := q208) (As := []) (rest := [.ref q208, .ref a]) S (c_X9_init l E K F (0, [0, 0, 0, 0, 0, (-2147483648), (-2147483648), 0, 0, 0, 0, 0, 0, (-1), 0, 0, 0, 0, 0, 0, 0], [(fun _ => 0), (fun _ => 0), (fun _ => 0), (fun _ => 0), (fun _ => 0), (fun _ => 0), (fun _ => 0), (fun _ => 0), (fun _ => 0), (fun _ => 0), (fun _ => 0)]) ((a, .inr (11, [.ref q1, .ref q3, .ref q6, .ref q10, .ref q15, .ref q21, .ref q28, .ref q36, .ref q133, .ref q143, .ref q154, .ref q166, .ref q179, .ref q193, .null, .null, .null, .int 0, .int 0])) :: L) q208) mi_X9_init rfl km_X10_90 rfl rfl ⟨Nat.le_of_ble_eq_true rfl, Nat.le_of_ble_eq_true rfl⟩ hK (fun _ => XPx.blind) (fun U hU hW => XPx.at hK hA hz hS hT hU hW) rfl hl.1 (Nat.le_of_ble_eq_true rfl) dX10_init_192 ⟨Nat.le_of_ble_eq_true rfl, Nat.le_of_ble_eq_true rfl⟩) hS ?_
  rintro ⟨q209, q210⟩ H locs - hT hS
  have hT : TX E K F (0, [0, 0, 0, 0, 0, (-2147483648), (-2147483648), 0, 0, 0, 0, 0, 0, (-1), 0, 0, 0, 0, 0, 0, 0], [(fun _ => 0), (fun _ => 0), (fun _ => 0), (fun _ => 0), (fun _ => 0), (fun _ => 0), (fun _ => 0), (fun _ => 0), (fun _ => 0), (fun _ => 0), (fun _ => 0)]) ((q208, .inr (10, [.ref q209, .int 0, .int 0, .int 0])) :: (q209, .inr (0, [.ref q210, .int 0, .int 0, .int 0])) :: (q210, .inl (E.2.1 2, 16, .inl (fun _ => 0))) :: (a, .inr (11, [.ref q1, .ref q3, .ref q6, .ref q10, .ref q15, .ref q21, .ref q28, .ref q36, .ref q133, .ref q143, .ref q154, .ref q166, .ref q179, .ref q193, .null, .null, .null, .int 0, .int 0])) :: L) H := hT
  refine tx_putF (C := RX10) (T := TX10) (N := 19) (ci := 11) (ty := (.object "LateRules$Verdict")) S hK hT hS inX10 tyX10 tyX10_ok nmX10 3 rfl rfl 14 (by decide) kf_X10_91 rfl hnm rfl (by decide +kernel) rfl rfl (Nat.le_of_ble_eq_true rfl) dX10_init_195 (fun H locs hT hS => ?_)
  have hT : TX E K F (0, [0, 0, 0, 0, 0, (-2147483648), (-2147483648), 0, 0, 0, 0, 0, 0, (-1), 0, 0, 0, 0, 0, 0, 0], [(fun _ => 0), (fun _ => 0), (fun _ => 0), (fun _ => 0), (fun _ => 0), (fun _ => 0), (fun _ => 0), (fun _ => 0), (fun _ => 0), (fun _ => 0), (fun _ => 0)]) ((q208, .inr (10, [.ref q209, .int 0, .int 0, .int 0])) :: (q209, .inr (0, [.ref q210, .int 0, .int 0, .int 0])) :: (q210, .inl (E.2.1 2, 16, .inl (fun _ => 0))) :: (a, .inr (11, [.ref q1, .ref q3, .ref q6, .ref q10, .ref q15, .ref q21, .ref q28, .ref q36, .ref q133, .ref q143, .ref q154, .ref q166, .ref q179, .ref q193, .ref q208, .null, .null, .int 0, .int 0])) :: L) H := hT
  refine lv_aload_n hx hb dX10_init_198 rfl (lv_at hl 1 rfl) ?_
  refine lv_bipush (v := 6) hx hb dX10_init_199 (by decide) ?_
  refine tx_na0 S hK hz hT hS (N := 6) (by decide) (by decide) (Nat.le_of_ble_eq_true rfl) (Nat.le_of_ble_eq_true rfl) (Nat.le_of_ble_eq_true rfl) dX10_init_201 (fun q211 H hT hS => ?_)
  obtain ⟨K, F, hM, hk212, hU9, hT⟩ := hT.cl 26 (fun j => 0) (by decide) (fun hq => absurd hq (by decide)) (fun K1 F1 hM hF => aw_26 _ (fun _ => trivial))
  have hk213 : K q1 = 10 := hM _ _ hk195 (by decide)
  have hk214 : K q3 = 7 := hM _ _ hk196 (by decide)
  have hk215 : K q6 = 2 := hM _ _ hk197 (by decide)
  have hk216 : K q10 = 8 := hM _ _ hk198 (by decide)
  have hk217 : K q15 = 8 := hM _ _ hk199 (by decide)
  have hk218 : K q21 = 8 := hM _ _ hk200 (by decide)
  have hk219 : K q28 = 8 := hM _ _ hk201 (by decide)
  have hk220 : K q36 = 16 := hM _ _ hk202 (by decide)
  have hk221 : K q133 = 6 := hM _ _ hk203 (by decide)
  have hk222 : K q143 = 6 := hM _ _ hk204 (by decide)
  have hk223 : K q154 = 6 := hM _ _ hk205 (by decide)
  have hk224 : K q166 = 3 := hM _ _ hk206 (by decide)
  have hk225 : K q179 = 4 := hM _ _ hk207 (by decide)
  have hk226 : K q193 = 5 := hM _ _ hk194 (by decide)
  have hM0 := KM.tr hM0 hM
  have hU := NU.tr hU hU9
  refine tx_putF (C := RX10) (T := TX10) (N := 19) (ci := 11) (ty := (.array .int)) S hK hT hS inX10 tyX10 tyX10_ok nmX10 3 rfl rfl 15 (by decide) kf_X10_95 rfl hnm rfl (by decide +kernel) rfl rfl (Nat.le_of_ble_eq_true rfl) dX10_init_203 (fun H locs hT hS => ?_)
  have hT : TX E K F (0, [0, 0, 0, 0, 0, (-2147483648), (-2147483648), 0, 0, 0, 0, 0, 0, (-1), 0, 0, 0, 0, 0, 0, 0], [(fun _ => 0), (fun _ => 0), (fun _ => 0), (fun _ => 0), (fun _ => 0), (fun _ => 0), (fun _ => 0), (fun _ => 0), (fun _ => 0), (fun _ => 0), (fun _ => 0)]) ((q208, .inr (10, [.ref q209, .int 0, .int 0, .int 0])) :: (q209, .inr (0, [.ref q210, .int 0, .int 0, .int 0])) :: (q210, .inl (E.2.1 2, 16, .inl (fun _ => 0))) :: (a, .inr (11, [.ref q1, .ref q3, .ref q6, .ref q10, .ref q15, .ref q21, .ref q28, .ref q36, .ref q133, .ref q143, .ref q154, .ref q166, .ref q179, .ref q193, .ref q208, .ref q211, .null, .int 0, .int 0])) :: L) H := hT
  refine lv_aload_n hx hb dX10_init_206 rfl (lv_at hl 1 rfl) ?_
  refine lv_iconst (v := 4) hx hb dX10_init_207 (by decide) ?_
  refine tx_na0 S hK hz hT hS (N := 4) (by decide) (by decide) (Nat.le_of_ble_eq_true rfl) (Nat.le_of_ble_eq_true rfl) (Nat.le_of_ble_eq_true rfl) dX10_init_208 (fun q227 H hT hS => ?_)
  obtain ⟨K, F, hM, hk228, hU9, hT⟩ := hT.cl 27 (fun j => 0) (by decide) (fun hq => absurd hq (by decide)) (fun K1 F1 hM hF => aw_27 _ (fun _ => trivial))
  have hk229 : K q1 = 10 := hM _ _ hk213 (by decide)
  have hk230 : K q3 = 7 := hM _ _ hk214 (by decide)
  have hk231 : K q6 = 2 := hM _ _ hk215 (by decide)
  have hk232 : K q10 = 8 := hM _ _ hk216 (by decide)
  have hk233 : K q15 = 8 := hM _ _ hk217 (by decide)
  have hk234 : K q21 = 8 := hM _ _ hk218 (by decide)
  have hk235 : K q28 = 8 := hM _ _ hk219 (by decide)
  have hk236 : K q36 = 16 := hM _ _ hk220 (by decide)
  have hk237 : K q133 = 6 := hM _ _ hk221 (by decide)
  have hk238 : K q143 = 6 := hM _ _ hk222 (by decide)
  have hk239 : K q154 = 6 := hM _ _ hk223 (by decide)
  have hk240 : K q166 = 3 := hM _ _ hk224 (by decide)
  have hk241 : K q179 = 4 := hM _ _ hk225 (by decide)
  have hk242 : K q193 = 5 := hM _ _ hk226 (by decide)
  have hk243 : K q211 = 26 := hM _ _ hk212 (by decide)
  have hM0 := KM.tr hM0 hM
  have hU := NU.tr hU hU9
  refine tx_putF (C := RX10) (T := TX10) (N := 19) (ci := 11) (ty := (.array .int)) S hK hT hS inX10 tyX10 tyX10_ok nmX10 3 rfl rfl 16 (by decide) kf_X10_99 rfl hnm rfl (by decide +kernel) rfl rfl (Nat.le_of_ble_eq_true rfl) dX10_init_210 (fun H locs hT hS => ?_)
  have hT : TX E K F (0, [0, 0, 0, 0, 0, (-2147483648), (-2147483648), 0, 0, 0, 0, 0, 0, (-1), 0, 0, 0, 0, 0, 0, 0], [(fun _ => 0), (fun _ => 0), (fun _ => 0), (fun _ => 0), (fun _ => 0), (fun _ => 0), (fun _ => 0), (fun _ => 0), (fun _ => 0), (fun _ => 0), (fun _ => 0)]) ((q208, .inr (10, [.ref q209, .int 0, .int 0, .int 0])) :: (q209, .inr (0, [.ref q210, .int 0, .int 0, .int 0])) :: (q210, .inl (E.2.1 2, 16, .inl (fun _ => 0))) :: (a, .inr (11, [.ref q1, .ref q3, .ref q6, .ref q10, .ref q15, .ref q21, .ref q28, .ref q36, .ref q133, .ref q143, .ref q154, .ref q166, .ref q179, .ref q193, .ref q208, .ref q211, .ref q227, .int 0, .int 0])) :: L) H := hT
  have hT := TX.vd q209 (NU.no hU (hN 11 (by decide)) (by decide) (by decide)) hT
  obtain ⟨K, F, hM, hk244, hU9, hT⟩ := hT.cl 11 (fun j => 0) (by decide) (fun hq => absurd hq (by decide)) (fun K1 F1 hM hF => ⟨0, 0, 0, rfl, Or.inl rfl⟩)
  have hk245 : K q1 = 10 := hM _ _ hk229 (by decide)
  have hk246 : K q3 = 7 := hM _ _ hk230 (by decide)
  have hk247 : K q6 = 2 := hM _ _ hk231 (by decide)
  have hk248 : K q10 = 8 := hM _ _ hk232 (by decide)
  have hk249 : K q15 = 8 := hM _ _ hk233 (by decide)
  have hk250 : K q21 = 8 := hM _ _ hk234 (by decide)
  have hk251 : K q28 = 8 := hM _ _ hk235 (by decide)
  have hk252 : K q36 = 16 := hM _ _ hk236 (by decide)
  have hk253 : K q133 = 6 := hM _ _ hk237 (by decide)
  have hk254 : K q143 = 6 := hM _ _ hk238 (by decide)
  have hk255 : K q154 = 6 := hM _ _ hk239 (by decide)
  have hk256 : K q166 = 3 := hM _ _ hk240 (by decide)
  have hk257 : K q179 = 4 := hM _ _ hk241 (by decide)
  have hk258 : K q193 = 5 := hM _ _ hk242 (by decide)
  have hk259 : K q211 = 26 := hM _ _ hk243 (by decide)
  have hk260 : K q227 = 27 := hM _ _ hk228 (by decide)
  have hM0 := KM.tr hM0 hM
  have hU := NU.tr hU hU9
  have hT := hT.rot
  obtain ⟨K, F, hM, hk261, hU9, hT⟩ := hT.cl 12 (fun j => ([q1, q3, q6, q10, q15, q21, q28, q36, q133, q143, q154, q166, q179, q193, q208, q211, q227, 0, 0] : List Nat).getD j 0) (by decide) (fun hq => absurd hq (by decide)) (fun K1 F1 hM hF => ⟨0, 0, by rw [hF 0, hF 1, hF 2, hF 3, hF 4, hF 5, hF 6, hF 7, hF 8, hF 9, hF 10, hF 11, hF 12, hF 13, hF 14, hF 15, hF 16]; rfl, by rw [hF 0]; exact hM _ _ hk245 (by decide), by rw [hF 1]; exact hM _ _ hk246 (by decide), by rw [hF 2]; exact hM _ _ hk247 (by decide), by rw [hF 3]; exact hM _ _ hk248 (by decide), by rw [hF 4]; exact hM _ _ hk249 (by decide), by rw [hF 5]; exact hM _ _ hk250 (by decide), by rw [hF 6]; exact hM _ _ hk251 (by decide), by rw [hF 7]; exact hM _ _ hk252 (by decide), by rw [hF 8]; exact hM _ _ hk253 (by decide), by rw [hF 9]; exact hM _ _ hk254 (by decide), by rw [hF 10]; exact hM _ _ hk255 (by decide), by rw [hF 11]; exact hM _ _ hk256 (by decide), by rw [hF 12]; exact hM _ _ hk257 (by decide), by rw [hF 13]; exact hM _ _ hk258 (by decide), by rw [hF 14]; exact hM _ _ hk244 (by decide), by rw [hF 15]; exact hM _ _ hk259 (by decide), by rw [hF 16]; exact hM _ _ hk260 (by decide)⟩)
  have hM0 := KM.tr hM0 hM
  have hU := NU.tr hU hU9
  exact x_rv hx hb hr hlk hQ (Nat.le_of_ble_eq_true rfl) (Nat.le_of_ble_eq_true rfl) hS dX10_init_213 (q209, q210, K, F) ⟨hM0, hk261, NU.sub hU (by decide)⟩ hT
