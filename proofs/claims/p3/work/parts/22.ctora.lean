abbrev rm_X10_init : Room := { frames := 4, cells := 82, slots := 23570, locals := 73 }
set_option maxHeartbeats 4000000 in
set_option maxRecDepth 100000 in
theorem c_X10_init (l : Launch) (E : XE) (K : Nat → Nat) (F : Nat → Nat → Nat) (L : va_W) (a : Nat) (hN : ∀ k ∈ [7, 10, 11], ∀ b, K b ≠ k) : Met l yX10_init (xw yX10_init cX10_init 2 none) rm_X10_init (va_Pc [.ref a] (XPx E K F (0, [0, 0, 0, 0, 0, (-2147483648), (-2147483648), 0, 0, 0, 0, 0, 0, (-1), 0, 0, 0, 0, 0, 0, 0], [(fun _ => 0), (fun _ => 0), (fun _ => 0), (fun _ => 0), (fun _ => 0), (fun _ => 0), (fun _ => 0), (fun _ => 0), (fun _ => 0), (fun _ => 0), (fun _ => 0)]) ((a, .inr (11, [.null, .null, .null, .null, .null, .null, .null, .null, .null, .null, .null, .null, .null, .null, .null, .null, .null, .int 0, .int 0])) :: L))) (XQv E (fun (u : Nat × Nat × (Nat → Nat) × (Nat → Nat → Nat)) => KM K u.2.2.1 ∧ u.2.2.1 a = 12 ∧ NU [25, 10, 7, 15, 2, 20, 21, 8, 22, 23, 6, 24, 3, 4, 5, 16, 26, 27, 11, 12] K u.2.2.1) (fun u H => TX (E.1, E.2.1, E.2.2.1, u.1, E.2.2.2.2) u.2.2.1 u.2.2.2 (0, [0, 0, 0, 0, 0, (-2147483648), (-2147483648), 0, 0, 0, 0, 0, 0, (-1), 0, 0, 0, 0, 0, 0, 0], [(fun _ => 0), (fun _ => 0), (fun _ => 0), (fun _ => 0), (fun _ => 0), (fun _ => 0), (fun _ => 0), (fun _ => 0), (fun _ => 0), (fun _ => 0), (fun _ => 0)]) ((u.1, .inr (0, [.ref u.2.1, .int 0, .int 0, .int 0])) :: (u.2.1, .inl (E.2.1 2, 16, .inl (fun _ => 0))) :: L) H)) 82 23570 (xA E) := by
  refine x_enter (by decide) (Nat.le_of_ble_eq_true rfl) ?_
  intro p e s m args below meth c Q S hr hlk hnm hQ hP ls hl
  obtain ⟨hz, hK, hT⟩ := hP
  obtain ⟨hx, hb, -, -, -⟩ := id S
  obtain ⟨H, hT, hS, hgo⟩ : ∃ H : Heap, TX E K F (0, [0, 0, 0, 0, 0, (-2147483648), (-2147483648), 0, 0, 0, 0, 0, 0, (-1), 0, 0, 0, 0, 0, 0, 0], [(fun _ => 0), (fun _ => 0), (fun _ => 0), (fun _ => 0), (fun _ => 0), (fun _ => 0), (fun _ => 0), (fun _ => 0), (fun _ => 0), (fun _ => 0), (fun _ => 0)]) ((a, .inr (11, [.null, .null, .null, .null, .null, .null, .null, .null, .null, .null, .null, .null, .null, .null, .null, .null, .null, .int 0, .int 0])) :: L) H ∧ va_S (xA E) s.heap H [] ∧ H = s.heap := ⟨_, hT, va_S.rf, rfl⟩
  rw [← hgo]
  have hl : lv_has ls 2 [(0, .ref a)] := hl
  obtain ⟨hK, hA⟩ := hK
  have hM0 : KM K K := KM.rf
  have hU : NU [] K K := NU.rf
  refine lv_aload_n hx hb dX10_init_0 rfl (lv_at hl 0 rfl) ?_
  refine W.objInit hx hb S.2.2.2.1 (S.2.2.2.2 _ (List.mem_cons_of_mem _ km_X10_3)) (S.2.2.2.2 _ (List.mem_cons_of_mem _ koi.1)) (S.2.2.2.2 _ (List.mem_cons_of_mem _ koi.2)) rfl (by rw [S.2.2.1]; exact hl.1) rfl dX10_init_1 (Nat.le_of_ble_eq_true rfl) (Nat.le_of_ble_eq_true rfl) ?_
  refine W.eq (g2 := F0 m 4 ls []) rfl ?_
  refine lv_aload_n hx hb dX10_init_4 rfl (lv_at hl 0 rfl) ?_
  refine tx_new (ci := 9) (fs := [.null, .int 0]) S hK hz hT hS inX8 tyX8 tyX8_ok kn_X10_9 kin_X8.1 kin_X8.2 rfl (by intro j hj; match j, hj with | 0, _ => rfl | 1, _ => rfl | j + 2, hj => exact absurd hj (by omega)) (Nat.le_of_ble_eq_true rfl) (Nat.le_of_ble_eq_true rfl) dX10_init_5 (fun q1 H hT hS => ?_)
  refine lv_dup hx hb dX10_init_8 rfl ?_
  refine x_cv (x_runI (b := q1) (As := []) (rest := [.ref q1, .ref a]) S (c_X8_init l E K F (0, [0, 0, 0, 0, 0, (-2147483648), (-2147483648), 0, 0, 0, 0, 0, 0, (-1), 0, 0, 0, 0, 0, 0, 0], [(fun _ => 0), (fun _ => 0), (fun _ => 0), (fun _ => 0), (fun _ => 0), (fun _ => 0), (fun _ => 0), (fun _ => 0), (fun _ => 0), (fun _ => 0), (fun _ => 0)]) ((a, .inr (11, [.null, .null, .null, .null, .null, .null, .null, .null, .null, .null, .null, .null, .null, .null, .null, .null, .null, .int 0, .int 0])) :: L) q1 rfl (fun k hk b => by rw [List.mem_singleton.mp hk]; exact NU.no hU (hN 10 (by decide)) (by decide) (by decide) b)) mi_X8_init rfl km_X10_11 rfl rfl ⟨Nat.le_of_ble_eq_true rfl, Nat.le_of_ble_eq_true rfl⟩ hK (fun _ => XPx.blind) (fun U hU hW => XPx.at hK hA hz hS hT hU hW) rfl hl.1 (Nat.le_of_ble_eq_true rfl) dX10_init_9 ⟨Nat.le_of_ble_eq_true rfl, Nat.le_of_ble_eq_true rfl⟩) hS ?_
  rintro ⟨K, F⟩ H locs ⟨hM, hk2, hU9⟩ hT hS
  have hM0 := KM.tr hM0 hM
  have hU := NU.tr hU hU9
  refine tx_putF (C := RX10) (T := TX10) (N := 19) (ci := 11) (ty := (.object "LateRules$Text")) S hK hT hS inX10 tyX10 tyX10_ok nmX10 0 rfl rfl 0 (by decide) kf_X10_12 rfl hnm rfl (by decide +kernel) rfl rfl (Nat.le_of_ble_eq_true rfl) dX10_init_12 (fun H locs hT hS => ?_)
  have hT : TX E K F (0, [0, 0, 0, 0, 0, (-2147483648), (-2147483648), 0, 0, 0, 0, 0, 0, (-1), 0, 0, 0, 0, 0, 0, 0], [(fun _ => 0), (fun _ => 0), (fun _ => 0), (fun _ => 0), (fun _ => 0), (fun _ => 0), (fun _ => 0), (fun _ => 0), (fun _ => 0), (fun _ => 0), (fun _ => 0)]) ((a, .inr (11, [.ref q1, .null, .null, .null, .null, .null, .null, .null, .null, .null, .null, .null, .null, .null, .null, .null, .null, .int 0, .int 0])) :: L) H := hT
  refine lv_aload_n hx hb dX10_init_15 rfl (lv_at hl 0 rfl) ?_
  refine tx_new (ci := 6) (fs := [.null, .int 0, .int 0, .int 0, .int 0, .int 0]) S hK hz hT hS inX5 tyX5 tyX5_ok kn_X10_18 kin_X5.1 kin_X5.2 rfl (by intro j hj; match j, hj with | 0, _ => rfl | 1, _ => rfl | 2, _ => rfl | 3, _ => rfl | 4, _ => rfl | 5, _ => rfl | j + 6, hj => exact absurd hj (by omega)) (Nat.le_of_ble_eq_true rfl) (Nat.le_of_ble_eq_true rfl) dX10_init_16 (fun q3 H hT hS => ?_)
  refine lv_dup hx hb dX10_init_19 rfl ?_
  refine lv_aload_n hx hb dX10_init_20 rfl (lv_at hl 0 rfl) ?_
  refine tx_get (C := RX10) (T := TX10) (N := 19) (ci := 11) S hK hT inX10 1 rfl rfl 0 (by decide) kf_X10_12 rfl dX10_init_21 ?_
  refine x_cv0 (x_runI (b := q3) (As := [.ref q1]) (rest := [.ref q3, .ref a]) S (c_X5_init l E K F (0, [0, 0, 0, 0, 0, (-2147483648), (-2147483648), 0, 0, 0, 0, 0, 0, (-1), 0, 0, 0, 0, 0, 0, 0], [(fun _ => 0), (fun _ => 0), (fun _ => 0), (fun _ => 0), (fun _ => 0), (fun _ => 0), (fun _ => 0), (fun _ => 0), (fun _ => 0), (fun _ => 0), (fun _ => 0)]) ((a, .inr (11, [.ref q1, .null, .null, .null, .null, .null, .null, .null, .null, .null, .null, .null, .null, .null, .null, .null, .null, .int 0, .int 0])) :: L) q3 q1 hk2 ⟨rfl, rfl, rfl, rfl, rfl⟩ (fun k hk b => by rw [List.mem_singleton.mp hk]; exact NU.no hU (hN 7 (by decide)) (by decide) (by decide) b)) mi_X5_init rfl km_X10_20 rfl rfl ⟨Nat.le_of_ble_eq_true rfl, Nat.le_of_ble_eq_true rfl⟩ hK (fun _ => XPx.blind) (fun U hU hW => XPx.at hK hA hz hS hT hU hW) rfl hl.1 (Nat.le_of_ble_eq_true rfl) dX10_init_24 ⟨Nat.le_of_ble_eq_true rfl, Nat.le_of_ble_eq_true rfl⟩) hS ?_
  rintro ⟨K, F⟩ H locs ⟨hM, hk4, hU9⟩ hT hS
  have hk5 : K q1 = 10 := hM _ _ hk2 (by decide)
  have hM0 := KM.tr hM0 hM
  have hU := NU.tr hU hU9
  refine tx_putF (C := RX10) (T := TX10) (N := 19) (ci := 11) (ty := (.object "LateRules$Reader")) S hK hT hS inX10 tyX10 tyX10_ok nmX10 0 rfl rfl 1 (by decide) kf_X10_23 rfl hnm rfl (by decide +kernel) rfl rfl (Nat.le_of_ble_eq_true rfl) dX10_init_27 (fun H locs hT hS => ?_)
  have hT : TX E K F (0, [0, 0, 0, 0, 0, (-2147483648), (-2147483648), 0, 0, 0, 0, 0, 0, (-1), 0, 0, 0, 0, 0, 0, 0], [(fun _ => 0), (fun _ => 0), (fun _ => 0), (fun _ => 0), (fun _ => 0), (fun _ => 0), (fun _ => 0), (fun _ => 0), (fun _ => 0), (fun _ => 0), (fun _ => 0)]) ((a, .inr (11, [.ref q1, .ref q3, .null, .null, .null, .null, .null, .null, .null, .null, .null, .null, .null, .null, .null, .null, .null, .int 0, .int 0])) :: L) H := hT
  refine lv_aload_n hx hb dX10_init_30 rfl (lv_at hl 0 rfl) ?_
  refine tx_new (ci := 1) (fs := [.null, .null, .int 0]) S hK hz hT hS inX0 tyX0 tyX0_ok kn_X10_27 kin_X0.1 kin_X0.2 rfl (by intro j hj; match j, hj with | 0, _ => rfl | 1, _ => rfl | 2, _ => rfl | j + 3, hj => exact absurd hj (by omega)) (Nat.le_of_ble_eq_true rfl) (Nat.le_of_ble_eq_true rfl) dX10_init_31 (fun q6 H hT hS => ?_)
  refine lv_dup hx hb dX10_init_34 rfl ?_
  refine x_cv (x_runI (b := q6) (As := []) (rest := [.ref q6, .ref a]) S (c_X0_init l E K F (0, [0, 0, 0, 0, 0, (-2147483648), (-2147483648), 0, 0, 0, 0, 0, 0, (-1), 0, 0, 0, 0, 0, 0, 0], [(fun _ => 0), (fun _ => 0), (fun _ => 0), (fun _ => 0), (fun _ => 0), (fun _ => 0), (fun _ => 0), (fun _ => 0), (fun _ => 0), (fun _ => 0), (fun _ => 0)]) ((a, .inr (11, [.ref q1, .ref q3, .null, .null, .null, .null, .null, .null, .null, .null, .null, .null, .null, .null, .null, .null, .null, .int 0, .int 0])) :: L) q6) mi_X0_init rfl km_X10_29 rfl rfl ⟨Nat.le_of_ble_eq_true rfl, Nat.le_of_ble_eq_true rfl⟩ hK (fun _ => XPx.blind) (fun U hU hW => XPx.at hK hA hz hS hT hU hW) rfl hl.1 (Nat.le_of_ble_eq_true rfl) dX10_init_35 ⟨Nat.le_of_ble_eq_true rfl, Nat.le_of_ble_eq_true rfl⟩) hS ?_
  rintro ⟨K, F⟩ H locs ⟨hM, hk7, hU9⟩ hT hS
  have hk8 : K q1 = 10 := hM _ _ hk5 (by decide)
  have hk9 : K q3 = 7 := hM _ _ hk4 (by decide)
  have hM0 := KM.tr hM0 hM
  have hU := NU.tr hU hU9
  refine tx_putF (C := RX10) (T := TX10) (N := 19) (ci := 11) (ty := (.object "LateRules$Book")) S hK hT hS inX10 tyX10 tyX10_ok nmX10 0 rfl rfl 2 (by decide) kf_X10_30 rfl hnm rfl (by decide +kernel) rfl rfl (Nat.le_of_ble_eq_true rfl) dX10_init_38 (fun H locs hT hS => ?_)
  have hT : TX E K F (0, [0, 0, 0, 0, 0, (-2147483648), (-2147483648), 0, 0, 0, 0, 0, 0, (-1), 0, 0, 0, 0, 0, 0, 0], [(fun _ => 0), (fun _ => 0), (fun _ => 0), (fun _ => 0), (fun _ => 0), (fun _ => 0), (fun _ => 0), (fun _ => 0), (fun _ => 0), (fun _ => 0), (fun _ => 0)]) ((a, .inr (11, [.ref q1, .ref q3, .ref q6, .null, .null, .null, .null, .null, .null, .null, .null, .null, .null, .null, .null, .null, .null, .int 0, .int 0])) :: L) H := hT
  refine lv_aload_n hx hb dX10_init_41 rfl (lv_at hl 0 rfl) ?_
  refine tx_new (ci := 7) (fs := [.null, .null]) S hK hz hT hS inX6 tyX6 tyX6_ok kn_X10_34 kin_X6.1 kin_X6.2 rfl (by intro j hj; match j, hj with | 0, _ => rfl | 1, _ => rfl | j + 2, hj => exact absurd hj (by omega)) (Nat.le_of_ble_eq_true rfl) (Nat.le_of_ble_eq_true rfl) dX10_init_42 (fun q10 H hT hS => ?_)
  refine lv_dup hx hb dX10_init_45 rfl ?_
  refine x_cv (x_runI (b := q10) (As := []) (rest := [.ref q10, .ref a]) S (c_X6_init l E K F (0, [0, 0, 0, 0, 0, (-2147483648), (-2147483648), 0, 0, 0, 0, 0, 0, (-1), 0, 0, 0, 0, 0, 0, 0], [(fun _ => 0), (fun _ => 0), (fun _ => 0), (fun _ => 0), (fun _ => 0), (fun _ => 0), (fun _ => 0), (fun _ => 0), (fun _ => 0), (fun _ => 0), (fun _ => 0)]) ((a, .inr (11, [.ref q1, .ref q3, .ref q6, .null, .null, .null, .null, .null, .null, .null, .null, .null, .null, .null, .null, .null, .null, .int 0, .int 0])) :: L) q10) mi_X6_init rfl km_X10_36 rfl rfl ⟨Nat.le_of_ble_eq_true rfl, Nat.le_of_ble_eq_true rfl⟩ hK (fun _ => XPx.blind) (fun U hU hW => XPx.at hK hA hz hS hT hU hW) rfl hl.1 (Nat.le_of_ble_eq_true rfl) dX10_init_46 ⟨Nat.le_of_ble_eq_true rfl, Nat.le_of_ble_eq_true rfl⟩) hS ?_
  rintro ⟨K, F⟩ H locs ⟨hM, hk11, hU9⟩ hT hS
  have hk12 : K q1 = 10 := hM _ _ hk8 (by decide)
  have hk13 : K q3 = 7 := hM _ _ hk9 (by decide)
  have hk14 : K q6 = 2 := hM _ _ hk7 (by decide)
  have hM0 := KM.tr hM0 hM
  have hU := NU.tr hU hU9
  refine tx_putF (C := RX10) (T := TX10) (N := 19) (ci := 11) (ty := (.object "LateRules$Rows")) S hK hT hS inX10 tyX10 tyX10_ok nmX10 0 rfl rfl 3 (by decide) kf_X10_37 rfl hnm rfl (by decide +kernel) rfl rfl (Nat.le_of_ble_eq_true rfl) dX10_init_49 (fun H locs hT hS => ?_)
  have hT : TX E K F (0, [0, 0, 0, 0, 0, (-2147483648), (-2147483648), 0, 0, 0, 0, 0, 0, (-1), 0, 0, 0, 0, 0, 0, 0], [(fun _ => 0), (fun _ => 0), (fun _ => 0), (fun _ => 0), (fun _ => 0), (fun _ => 0), (fun _ => 0), (fun _ => 0), (fun _ => 0), (fun _ => 0), (fun _ => 0)]) ((a, .inr (11, [.ref q1, .ref q3, .ref q6, .ref q10, .null, .null, .null, .null, .null, .null, .null, .null, .null, .null, .null, .null, .null, .int 0, .int 0])) :: L) H := hT
  refine lv_aload_n hx hb dX10_init_52 rfl (lv_at hl 0 rfl) ?_
  refine tx_new (ci := 7) (fs := [.null, .null]) S hK hz hT hS inX6 tyX6 tyX6_ok kn_X10_34 kin_X6.1 kin_X6.2 rfl (by intro j hj; match j, hj with | 0, _ => rfl | 1, _ => rfl | j + 2, hj => exact absurd hj (by omega)) (Nat.le_of_ble_eq_true rfl) (Nat.le_of_ble_eq_true rfl) dX10_init_53 (fun q15 H hT hS => ?_)
  refine lv_dup hx hb dX10_init_56 rfl ?_
  refine x_cv (x_runI (b := q15) (As := []) (rest := [.ref q15, .ref a]) S (c_X6_init l E K F (0, [0, 0, 0, 0, 0, (-2147483648), (-2147483648), 0, 0, 0, 0, 0, 0, (-1), 0, 0, 0, 0, 0, 0, 0], [(fun _ => 0), (fun _ => 0), (fun _ => 0), (fun _ => 0), (fun _ => 0), (fun _ => 0), (fun _ => 0), (fun _ => 0), (fun _ => 0), (fun _ => 0), (fun _ => 0)]) ((a, .inr (11, [.ref q1, .ref q3, .ref q6, .ref q10, .null, .null, .null, .null, .null, .null, .null, .null, .null, .null, .null, .null, .null, .int 0, .int 0])) :: L) q15) mi_X6_init rfl km_X10_36 rfl rfl ⟨Nat.le_of_ble_eq_true rfl, Nat.le_of_ble_eq_true rfl⟩ hK (fun _ => XPx.blind) (fun U hU hW => XPx.at hK hA hz hS hT hU hW) rfl hl.1 (Nat.le_of_ble_eq_true rfl) dX10_init_57 ⟨Nat.le_of_ble_eq_true rfl, Nat.le_of_ble_eq_true rfl⟩) hS ?_
  rintro ⟨K, F⟩ H locs ⟨hM, hk16, hU9⟩ hT hS
  have hk17 : K q1 = 10 := hM _ _ hk12 (by decide)
  have hk18 : K q3 = 7 := hM _ _ hk13 (by decide)
  have hk19 : K q6 = 2 := hM _ _ hk14 (by decide)
  have hk20 : K q10 = 8 := hM _ _ hk11 (by decide)
  have hM0 := KM.tr hM0 hM
  have hU := NU.tr hU hU9
  refine tx_putF (C := RX10) (T := TX10) (N := 19) (ci := 11) (ty := (.object "LateRules$Rows")) S hK hT hS inX10 tyX10 tyX10_ok nmX10 0 rfl rfl 4 (by decide) kf_X10_41 rfl hnm rfl (by decide +kernel) rfl rfl (Nat.le_of_ble_eq_true rfl) dX10_init_60 (fun H locs hT hS => ?_)
  have hT : TX E K F (0, [0, 0, 0, 0, 0, (-2147483648), (-2147483648), 0, 0, 0, 0, 0, 0, (-1), 0, 0, 0, 0, 0, 0, 0], [(fun _ => 0), (fun _ => 0), (fun _ => 0), (fun _ => 0), (fun _ => 0), (fun _ => 0), (fun _ => 0), (fun _ => 0), (fun _ => 0), (fun _ => 0), (fun _ => 0)]) ((a, .inr (11, [.ref q1, .ref q3, .ref q6, .ref q10, .ref q15, .null, .null, .null, .null, .null, .null, .null, .null, .null, .null, .null, .null, .int 0, .int 0])) :: L) H := hT
  refine lv_aload_n hx hb dX10_init_63 rfl (lv_at hl 0 rfl) ?_
  refine tx_new (ci := 7) (fs := [.null, .null]) S hK hz hT hS inX6 tyX6 tyX6_ok kn_X10_34 kin_X6.1 kin_X6.2 rfl (by intro j hj; match j, hj with | 0, _ => rfl | 1, _ => rfl | j + 2, hj => exact absurd hj (by omega)) (Nat.le_of_ble_eq_true rfl) (Nat.le_of_ble_eq_true rfl) dX10_init_64 (fun q21 H hT hS => ?_)
  refine lv_dup hx hb dX10_init_67 rfl ?_
  refine x_cv (x_runI (b := q21) (As := []) (rest := [.ref q21, .ref a]) S (c_X6_init l E K F (0, [0, 0, 0, 0, 0, (-2147483648), (-2147483648), 0, 0, 0, 0, 0, 0, (-1), 0, 0, 0, 0, 0, 0, 0], [(fun _ => 0), (fun _ => 0), (fun _ => 0), (fun _ => 0), (fun _ => 0), (fun _ => 0), (fun _ => 0), (fun _ => 0), (fun _ => 0), (fun _ => 0), (fun _ => 0)]) ((a, .inr (11, [.ref q1, .ref q3, .ref q6, .ref q10, .ref q15, .null, .null, .null, .null, .null, .null, .null, .null, .null, .null, .null, .null, .int 0, .int 0])) :: L) q21) mi_X6_init rfl km_X10_36 rfl rfl ⟨Nat.le_of_ble_eq_true rfl, Nat.le_of_ble_eq_true rfl⟩ hK (fun _ => XPx.blind) (fun U hU hW => XPx.at hK hA hz hS hT hU hW) rfl hl.1 (Nat.le_of_ble_eq_true rfl) dX10_init_68 ⟨Nat.le_of_ble_eq_true rfl, Nat.le_of_ble_eq_true rfl⟩) hS ?_
  rintro ⟨K, F⟩ H locs ⟨hM, hk22, hU9⟩ hT hS
  have hk23 : K q1 = 10 := hM _ _ hk17 (by decide)
  have hk24 : K q3 = 7 := hM _ _ hk18 (by decide)
  have hk25 : K q6 = 2 := hM _ _ hk19 (by decide)
  have hk26 : K q10 = 8 := hM _ _ hk20 (by decide)
  have hk27 : K q15 = 8 := hM _ _ hk16 (by decide)
  have hM0 := KM.tr hM0 hM
  have hU := NU.tr hU hU9
  refine tx_putF (C := RX10) (T := TX10) (N := 19) (ci := 11) (ty := (.object "LateRules$Rows")) S hK hT hS inX10 tyX10 tyX10_ok nmX10 0 rfl rfl 5 (by decide) kf_X10_44 rfl hnm rfl (by decide +kernel) rfl rfl (Nat.le_of_ble_eq_true rfl) dX10_init_71 (fun H locs hT hS => ?_)
  have hT : TX E K F (0, [0, 0, 0, 0, 0, (-2147483648), (-2147483648), 0, 0, 0, 0, 0, 0, (-1), 0, 0, 0, 0, 0, 0, 0], [(fun _ => 0), (fun _ => 0), (fun _ => 0), (fun _ => 0), (fun _ => 0), (fun _ => 0), (fun _ => 0), (fun _ => 0), (fun _ => 0), (fun _ => 0), (fun _ => 0)]) ((a, .inr (11, [.ref q1, .ref q3, .ref q6, .ref q10, .ref q15, .ref q21, .null, .null, .null, .null, .null, .null, .null, .null, .null, .null, .null, .int 0, .int 0])) :: L) H := hT
  refine lv_aload_n hx hb dX10_init_74 rfl (lv_at hl 0 rfl) ?_
  refine tx_new (ci := 7) (fs := [.null, .null]) S hK hz hT hS inX6 tyX6 tyX6_ok kn_X10_34 kin_X6.1 kin_X6.2 rfl (by intro j hj; match j, hj with | 0, _ => rfl | 1, _ => rfl | j + 2, hj => exact absurd hj (by omega)) (Nat.le_of_ble_eq_true rfl) (Nat.le_of_ble_eq_true rfl) dX10_init_75 (fun q28 H hT hS => ?_)
  refine lv_dup hx hb dX10_init_78 rfl ?_
  refine x_cv (x_runI (b := q28) (As := []) (rest := [.ref q28, .ref a]) S (c_X6_init l E K F (0, [0, 0, 0, 0, 0, (-2147483648), (-2147483648), 0, 0, 0, 0, 0, 0, (-1), 0, 0, 0, 0, 0, 0, 0], [(fun _ => 0), (fun _ => 0), (fun _ => 0), (fun _ => 0), (fun _ => 0), (fun _ => 0), (fun _ => 0), (fun _ => 0), (fun _ => 0), (fun _ => 0), (fun _ => 0)]) ((a, .inr (11, [.ref q1, .ref q3, .ref q6, .ref q10, .ref q15, .ref q21, .null, .null, .null, .null, .null, .null, .null, .null, .null, .null, .null, .int 0, .int 0])) :: L) q28) mi_X6_init rfl km_X10_36 rfl rfl ⟨Nat.le_of_ble_eq_true rfl, Nat.le_of_ble_eq_true rfl⟩ hK (fun _ => XPx.blind) (fun U hU hW => XPx.at hK hA hz hS hT hU hW) rfl hl.1 (Nat.le_of_ble_eq_true rfl) dX10_init_79 ⟨Nat.le_of_ble_eq_true rfl, Nat.le_of_ble_eq_true rfl⟩) hS ?_
  rintro ⟨K, F⟩ H locs ⟨hM, hk29, hU9⟩ hT hS
  have hk30 : K q1 = 10 := hM _ _ hk23 (by decide)
  have hk31 : K q3 = 7 := hM _ _ hk24 (by decide)
  have hk32 : K q6 = 2 := hM _ _ hk25 (by decide)
  have hk33 : K q10 = 8 := hM _ _ hk26 (by decide)
  have hk34 : K q15 = 8 := hM _ _ hk27 (by decide)
  have hk35 : K q21 = 8 := hM _ _ hk22 (by decide)
  have hM0 := KM.tr hM0 hM
  have hU := NU.tr hU hU9
  refine tx_putF (C := RX10) (T := TX10) (N := 19) (ci := 11) (ty := (.object "LateRules$Rows")) S hK hT hS inX10 tyX10 tyX10_ok nmX10 0 rfl rfl 6 (by decide) kf_X10_47 rfl hnm rfl (by decide +kernel) rfl rfl (Nat.le_of_ble_eq_true rfl) dX10_init_82 (fun H locs hT hS => ?_)
  have hT : TX E K F (0, [0, 0, 0, 0, 0, (-2147483648), (-2147483648), 0, 0, 0, 0, 0, 0, (-1), 0, 0, 0, 0, 0, 0, 0], [(fun _ => 0), (fun _ => 0), (fun _ => 0), (fun _ => 0), (fun _ => 0), (fun _ => 0), (fun _ => 0), (fun _ => 0), (fun _ => 0), (fun _ => 0), (fun _ => 0)]) ((a, .inr (11, [.ref q1, .ref q3, .ref q6, .ref q10, .ref q15, .ref q21, .ref q28, .null, .null, .null, .null, .null, .null, .null, .null, .null, .null, .int 0, .int 0])) :: L) H := hT
  refine lv_aload_n hx hb dX10_init_85 rfl (lv_at hl 0 rfl) ?_
  refine lv_bipush (v := 8) hx hb dX10_init_86 (by decide) ?_
  refine tx_nq5 S hK hA.2 hz hT hS kn_X10_34 (N := 8) (by decide) (by decide) (Nat.le_of_ble_eq_true rfl) (Nat.le_of_ble_eq_true rfl) (Nat.le_of_ble_eq_true rfl) dX10_init_88 (fun q36 H hT hS => ?_)
  have hT := hT.sw
  have hT : TX E K F (0, [0, 0, 0, 0, 0, (-2147483648), (-2147483648), 0, 0, 0, 0, 0, 0, (-1), 0, 0, 0, 0, 0, 0, 0], [(fun _ => 0), (fun _ => 0), (fun _ => 0), (fun _ => 0), (fun _ => 0), (fun _ => 0), (fun _ => 0), (fun _ => 0), (fun _ => 0), (fun _ => 0), (fun _ => 0)]) ((a, .inr (11, [.ref q1, .ref q3, .ref q6, .ref q10, .ref q15, .ref q21, .ref q28, .null, .null, .null, .null, .null, .null, .null, .null, .null, .null, .int 0, .int 0])) :: (q36, .inl (E.2.1 5, 8, .inr (.inr (.inr (.inr (fun _ => none)))))) :: L) H := hT
  refine tx_putF (C := RX10) (T := TX10) (N := 19) (ci := 11) (ty := (.array (.object "LateRules$Rows"))) S hK hT hS inX10 tyX10 tyX10_ok nmX10 0 rfl rfl 7 (by decide) kf_X10_50 rfl hnm rfl (by decide +kernel) rfl rfl (Nat.le_of_ble_eq_true rfl) dX10_init_91 (fun H locs hT hS => ?_)
  have hT : TX E K F (0, [0, 0, 0, 0, 0, (-2147483648), (-2147483648), 0, 0, 0, 0, 0, 0, (-1), 0, 0, 0, 0, 0, 0, 0], [(fun _ => 0), (fun _ => 0), (fun _ => 0), (fun _ => 0), (fun _ => 0), (fun _ => 0), (fun _ => 0), (fun _ => 0), (fun _ => 0), (fun _ => 0), (fun _ => 0)]) ((a, .inr (11, [.ref q1, .ref q3, .ref q6, .ref q10, .ref q15, .ref q21, .ref q28, .ref q36, .null, .null, .null, .null, .null, .null, .null, .null, .null, .int 0, .int 0])) :: (q36, .inl (E.2.1 5, 8, .inr (.inr (.inr (.inr (fun _ => none)))))) :: L) H := hT
  refine lv_iconst (v := 0) hx hb dX10_init_94 (by decide) ?_
  refine lv_istore_n (lv' := [(1, .int 0), (0, .ref a)]) hx hb dX10_init_95 rfl hl (by decide) rfl (fun ls hl => ?_)
  refine lv_iload_n hx hb dX10_init_96 rfl (lv_at hl 0 rfl) ?_
  refine lv_bipush (v := 8) hx hb dX10_init_97 (by decide) ?_
  refine xi_cge (tgt := 121) hx hb ((by decide) : Int32.toInt 0 = (0 : Int)) ((by decide) : Int32.toInt 8 = (8 : Int)) dX10_init_99 (by decide) (fun c => absurd c (show ¬ ((8 : Int) ≤ (0 : Int)) by decide)) (fun _ => ?_)
  refine lv_aload_n hx hb dX10_init_102 rfl (lv_at hl 1 rfl) ?_
  refine tx_get (C := RX10) (T := TX10) (N := 19) (ci := 11) S hK hT inX10 0 rfl rfl 7 (by decide) kf_X10_50 rfl dX10_init_103 ?_
  refine lv_iload_n hx hb dX10_init_106 rfl (lv_at hl 0 rfl) ?_
  refine tx_new (ci := 7) (fs := [.null, .null]) S hK hz hT hS inX6 tyX6 tyX6_ok kn_X10_34 kin_X6.1 kin_X6.2 rfl (by intro j hj; match j, hj with | 0, _ => rfl | 1, _ => rfl | j + 2, hj => exact absurd hj (by omega)) (Nat.le_of_ble_eq_true rfl) (Nat.le_of_ble_eq_true rfl) dX10_init_107 (fun q37 H hT hS => ?_)
  refine lv_dup hx hb dX10_init_110 rfl ?_
  refine x_cv (x_runI (b := q37) (As := []) (rest := [.ref q37, .int 0, .ref q36]) S (c_X6_init l E K F (0, [0, 0, 0, 0, 0, (-2147483648), (-2147483648), 0, 0, 0, 0, 0, 0, (-1), 0, 0, 0, 0, 0, 0, 0], [(fun _ => 0), (fun _ => 0), (fun _ => 0), (fun _ => 0), (fun _ => 0), (fun _ => 0), (fun _ => 0), (fun _ => 0), (fun _ => 0), (fun _ => 0), (fun _ => 0)]) ((a, .inr (11, [.ref q1, .ref q3, .ref q6, .ref q10, .ref q15, .ref q21, .ref q28, .ref q36, .null, .null, .null, .null, .null, .null, .null, .null, .null, .int 0, .int 0])) :: (q36, .inl (E.2.1 5, 8, .inr (.inr (.inr (.inr (fun _ => none)))))) :: L) q37) mi_X6_init rfl km_X10_36 rfl rfl ⟨Nat.le_of_ble_eq_true rfl, Nat.le_of_ble_eq_true rfl⟩ hK (fun _ => XPx.blind) (fun U hU hW => XPx.at hK hA hz hS hT hU hW) rfl hl.1 (Nat.le_of_ble_eq_true rfl) dX10_init_111 ⟨Nat.le_of_ble_eq_true rfl, Nat.le_of_ble_eq_true rfl⟩) hS ?_
  rintro ⟨K, F⟩ H locs ⟨hM, hk38, hU9⟩ hT hS
  have hk39 : K q1 = 10 := hM _ _ hk30 (by decide)
  have hk40 : K q3 = 7 := hM _ _ hk31 (by decide)
  have hk41 : K q6 = 2 := hM _ _ hk32 (by decide)
  have hk42 : K q10 = 8 := hM _ _ hk33 (by decide)
  have hk43 : K q15 = 8 := hM _ _ hk34 (by decide)
  have hk44 : K q21 = 8 := hM _ _ hk35 (by decide)
  have hk45 : K q28 = 8 := hM _ _ hk29 (by decide)
  have hM0 := KM.tr hM0 hM
  have hU := NU.tr hU hU9
  refine tx_asq S hK hT hS 1 rfl hk38 (by decide) dX10_init_114 (fun H locs hT hS => ?_)
  have hT : TX E K F (0, [0, 0, 0, 0, 0, (-2147483648), (-2147483648), 0, 0, 0, 0, 0, 0, (-1), 0, 0, 0, 0, 0, 0, 0], [(fun _ => 0), (fun _ => 0), (fun _ => 0), (fun _ => 0), (fun _ => 0), (fun _ => 0), (fun _ => 0), (fun _ => 0), (fun _ => 0), (fun _ => 0), (fun _ => 0)]) ((a, .inr (11, [.ref q1, .ref q3, .ref q6, .ref q10, .ref q15, .ref q21, .ref q28, .ref q36, .null, .null, .null, .null, .null, .null, .null, .null, .null, .int 0, .int 0])) :: (q36, .inl (E.2.1 5, 8, .inr (.inr (.inr (.inr (va_up (fun _ => none) 0 (some q37))))))) :: L) H := hT
  refine xi_iinc (n := 1) (lv' := fun z9 => [(1, .int z9), (0, .ref a)]) (k := 0) hx hb ((by decide) : Int32.toInt 0 = (0 : Int)) (by decide) dX10_init_115 hl rfl (by decide) (fun _ => rfl) (fun x46 ls t47 hl => ?_)
  have hl : lv_has ls 2 [(1, .int x46), (0, .ref a)] := hl
  have e9 : (1 : Int32).toInt = 1 := by decide
  have h9 : x46 = 1 := Int32.toInt_inj.mp (by rw [e9]; omega)
  subst h9
  have hl : lv_has ls 2 [(1, .int 1), (0, .ref a)] := hl
  refine lv_goto (tgt := 96) hx hb dX10_init_118 (by decide) ?_
  refine lv_iload_n hx hb dX10_init_96 rfl (lv_at hl 0 rfl) ?_
  refine lv_bipush (v := 8) hx hb dX10_init_97 (by decide) ?_
  refine xi_cge (tgt := 121) hx hb ((by decide) : Int32.toInt 1 = (1 : Int)) ((by decide) : Int32.toInt 8 = (8 : Int)) dX10_init_99 (by decide) (fun c => absurd c (show ¬ ((8 : Int) ≤ (1 : Int)) by decide)) (fun _ => ?_)
  refine lv_aload_n hx hb dX10_init_102 rfl (lv_at hl 1 rfl) ?_
  refine tx_get (C := RX10) (T := TX10) (N := 19) (ci := 11) S hK hT inX10 0 rfl rfl 7 (by decide) kf_X10_50 rfl dX10_init_103 ?_
  refine lv_iload_n hx hb dX10_init_106 rfl (lv_at hl 0 rfl) ?_
  refine tx_new (ci := 7) (fs := [.null, .null]) S hK hz hT hS inX6 tyX6 tyX6_ok kn_X10_34 kin_X6.1 kin_X6.2 rfl (by intro j hj; match j, hj with | 0, _ => rfl | 1, _ => rfl | j + 2, hj => exact absurd hj (by omega)) (Nat.le_of_ble_eq_true rfl) (Nat.le_of_ble_eq_true rfl) dX10_init_107 (fun q48 H hT hS => ?_)
  refine lv_dup hx hb dX10_init_110 rfl ?_
  refine x_cv (x_runI (b := q48) (As := []) (rest := [.ref q48, .int 1, .ref q36]) S (c_X6_init l E K F (0, [0, 0, 0, 0, 0, (-2147483648), (-2147483648), 0, 0, 0, 0, 0, 0, (-1), 0, 0, 0, 0, 0, 0, 0], [(fun _ => 0), (fun _ => 0), (fun _ => 0), (fun _ => 0), (fun _ => 0), (fun _ => 0), (fun _ => 0), (fun _ => 0), (fun _ => 0), (fun _ => 0), (fun _ => 0)]) ((a, .inr (11, [.ref q1, .ref q3, .ref q6, .ref q10, .ref q15, .ref q21, .ref q28, .ref q36, .null, .null, .null, .null, .null, .null, .null, .null, .null, .int 0, .int 0])) :: (q36, .inl (E.2.1 5, 8, .inr (.inr (.inr (.inr (va_up (fun _ => none) 0 (some q37))))))) :: L) q48) mi_X6_init rfl km_X10_36 rfl rfl ⟨Nat.le_of_ble_eq_true rfl, Nat.le_of_ble_eq_true rfl⟩ hK (fun _ => XPx.blind) (fun U hU hW => XPx.at hK hA hz hS hT hU hW) rfl hl.1 (Nat.le_of_ble_eq_true rfl) dX10_init_111 ⟨Nat.le_of_ble_eq_true rfl, Nat.le_of_ble_eq_true rfl⟩) hS ?_
  rintro ⟨K, F⟩ H locs ⟨hM, hk49, hU9⟩ hT hS
  have hk50 : K q1 = 10 := hM _ _ hk39 (by decide)
  have hk51 : K q3 = 7 := hM _ _ hk40 (by decide)
  have hk52 : K q6 = 2 := hM _ _ hk41 (by decide)
  have hk53 : K q10 = 8 := hM _ _ hk42 (by decide)
  have hk54 : K q15 = 8 := hM _ _ hk43 (by decide)
  have hk55 : K q21 = 8 := hM _ _ hk44 (by decide)
  have hk56 : K q28 = 8 := hM _ _ hk45 (by decide)
  have hk57 : K q37 = 8 := hM _ _ hk38 (by decide)
  have hM0 := KM.tr hM0 hM
  have hU := NU.tr hU hU9
  refine tx_asq S hK hT hS 1 rfl hk49 (by decide) dX10_init_114 (fun H locs hT hS => ?_)
  have hT : TX E K F (0, [0, 0, 0, 0, 0, (-2147483648), (-2147483648), 0, 0, 0, 0, 0, 0, (-1), 0, 0, 0, 0, 0, 0, 0], [(fun _ => 0), (fun _ => 0), (fun _ => 0), (fun _ => 0), (fun _ => 0), (fun _ => 0), (fun _ => 0), (fun _ => 0), (fun _ => 0), (fun _ => 0), (fun _ => 0)]) ((a, .inr (11, [.ref q1, .ref q3, .ref q6, .ref q10, .ref q15, .ref q21, .ref q28, .ref q36, .null, .null, .null, .null, .null, .null, .null, .null, .null, .int 0, .int 0])) :: (q36, .inl (E.2.1 5, 8, .inr (.inr (.inr (.inr (va_up (va_up (fun _ => none) 0 (some q37)) 1 (some q48))))))) :: L) H := hT
  refine xi_iinc (n := 1) (lv' := fun z9 => [(1, .int z9), (0, .ref a)]) (k := 0) hx hb ((by decide) : Int32.toInt 1 = (1 : Int)) (by decide) dX10_init_115 hl rfl (by decide) (fun _ => rfl) (fun x58 ls t59 hl => ?_)
  have hl : lv_has ls 2 [(1, .int x58), (0, .ref a)] := hl
  have e9 : (2 : Int32).toInt = 2 := by decide
  have h9 : x58 = 2 := Int32.toInt_inj.mp (by rw [e9]; omega)
  subst h9
  have hl : lv_has ls 2 [(1, .int 2), (0, .ref a)] := hl
  refine lv_goto (tgt := 96) hx hb dX10_init_118 (by decide) ?_
  refine lv_iload_n hx hb dX10_init_96 rfl (lv_at hl 0 rfl) ?_
  refine lv_bipush (v := 8) hx hb dX10_init_97 (by decide) ?_
  refine xi_cge (tgt := 121) hx hb ((by decide) : Int32.toInt 2 = (2 : Int)) ((by decide) : Int32.toInt 8 = (8 : Int)) dX10_init_99 (by decide) (fun c => absurd c (show ¬ ((8 : Int) ≤ (2 : Int)) by decide)) (fun _ => ?_)
  refine lv_aload_n hx hb dX10_init_102 rfl (lv_at hl 1 rfl) ?_
  refine tx_get (C := RX10) (T := TX10) (N := 19) (ci := 11) S hK hT inX10 0 rfl rfl 7 (by decide) kf_X10_50 rfl dX10_init_103 ?_
  refine lv_iload_n hx hb dX10_init_106 rfl (lv_at hl 0 rfl) ?_
  refine tx_new (ci := 7) (fs := [.null, .null]) S hK hz hT hS inX6 tyX6 tyX6_ok kn_X10_34 kin_X6.1 kin_X6.2 rfl (by intro j hj; match j, hj with | 0, _ => rfl | 1, _ => rfl | j + 2, hj => exact absurd hj (by omega)) (Nat.le_of_ble_eq_true rfl) (Nat.le_of_ble_eq_true rfl) dX10_init_107 (fun q60 H hT hS => ?_)
  refine lv_dup hx hb dX10_init_110 rfl ?_
  refine x_cv (x_runI (b := q60) (As := []) (rest := [.ref q60, .int 2, .ref q36]) S (c_X6_init l E K F (0, [0, 0, 0, 0, 0, (-2147483648), (-2147483648), 0, 0, 0, 0, 0, 0, (-1), 0, 0, 0, 0, 0, 0, 0], [(fun _ => 0), (fun _ => 0), (fun _ => 0), (fun _ => 0), (fun _ => 0), (fun _ => 0), (fun _ => 0), (fun _ => 0), (fun _ => 0), (fun _ => 0), (fun _ => 0)]) ((a, .inr (11, [.ref q1, .ref q3, .ref q6, .ref q10, .ref q15, .ref q21, .ref q28, .ref q36, .null, .null, .null, .null, .null, .null, .null, .null, .null, .int 0, .int 0])) :: (q36, .inl (E.2.1 5, 8, .inr (.inr (.inr (.inr (va_up (va_up (fun _ => none) 0 (some q37)) 1 (some q48))))))) :: L) q60) mi_X6_init rfl km_X10_36 rfl rfl ⟨Nat.le_of_ble_eq_true rfl, Nat.le_of_ble_eq_true rfl⟩ hK (fun _ => XPx.blind) (fun U hU hW => XPx.at hK hA hz hS hT hU hW) rfl hl.1 (Nat.le_of_ble_eq_true rfl) dX10_init_111 ⟨Nat.le_of_ble_eq_true rfl, Nat.le_of_ble_eq_true rfl⟩) hS ?_
  rintro ⟨K, F⟩ H locs ⟨hM, hk61, hU9⟩ hT hS
  have hk62 : K q1 = 10 := hM _ _ hk50 (by decide)
  have hk63 : K q3 = 7 := hM _ _ hk51 (by decide)
  have hk64 : K q6 = 2 := hM _ _ hk52 (by decide)
  have hk65 : K q10 = 8 := hM _ _ hk53 (by decide)
  have hk66 : K q15 = 8 := hM _ _ hk54 (by decide)
  have hk67 : K q21 = 8 := hM _ _ hk55 (by decide)
  have hk68 : K q28 = 8 := hM _ _ hk56 (by decide)
  have hk69 : K q37 = 8 := hM _ _ hk57 (by decide)
  have hk70 : K q48 = 8 := hM _ _ hk49 (by decide)
  have hM0 := KM.tr hM0 hM
  have hU := NU.tr hU hU9
  refine tx_asq S hK hT hS 1 rfl hk61 (by decide) dX10_init_114 (fun H locs hT hS => ?_)
  have hT : TX E K F (0, [0, 0, 0, 0, 0, (-2147483648), (-2147483648), 0, 0, 0, 0, 0, 0, (-1), 0, 0, 0, 0, 0, 0, 0], [(fun _ => 0), (fun _ => 0), (fun _ => 0), (fun _ => 0), (fun _ => 0), (fun _ => 0), (fun _ => 0), (fun _ => 0), (fun _ => 0), (fun _ => 0), (fun _ => 0)]) ((a, .inr (11, [.ref q1, .ref q3, .ref q6, .ref q10, .ref q15, .ref q21, .ref q28, .ref q36, .null, .null, .null, .null, .null, .null, .null, .null, .null, .int 0, .int 0])) :: (q36, .inl (E.2.1 5, 8, .inr (.inr (.inr (.inr (va_up (va_up (va_up (fun _ => none) 0 (some q37)) 1 (some q48)) 2 (some q60))))))) :: L) H := hT
  refine xi_iinc (n := 1) (lv' := fun z9 => [(1, .int z9), (0, .ref a)]) (k := 0) hx hb ((by decide) : Int32.toInt 2 = (2 : Int)) (by decide) dX10_init_115 hl rfl (by decide) (fun _ => rfl) (fun x71 ls t72 hl => ?_)
  have hl : lv_has ls 2 [(1, .int x71), (0, .ref a)] := hl
  have e9 : (3 : Int32).toInt = 3 := by decide
  have h9 : x71 = 3 := Int32.toInt_inj.mp (by rw [e9]; omega)
  subst h9
  have hl : lv_has ls 2 [(1, .int 3), (0, .ref a)] := hl
  refine lv_goto (tgt := 96) hx hb dX10_init_118 (by decide) ?_
  refine lv_iload_n hx hb dX10_init_96 rfl (lv_at hl 0 rfl) ?_
  refine lv_bipush (v := 8) hx hb dX10_init_97 (by decide) ?_
  refine xi_cge (tgt := 121) hx hb ((by decide) : Int32.toInt 3 = (3 : Int)) ((by decide) : Int32.toInt 8 = (8 : Int)) dX10_init_99 (by decide) (fun c => absurd c (show ¬ ((8 : Int) ≤ (3 : Int)) by decide)) (fun _ => ?_)
  refine lv_aload_n hx hb dX10_init_102 rfl (lv_at hl 1 rfl) ?_
  refine tx_get (C := RX10) (T := TX10) (N := 19) (ci := 11) S hK hT inX10 0 rfl rfl 7 (by decide) kf_X10_50 rfl dX10_init_103 ?_
  refine lv_iload_n hx hb dX10_init_106 rfl (lv_at hl 0 rfl) ?_
  refine tx_new (ci := 7) (fs := [.null, .null]) S hK hz hT hS inX6 tyX6 tyX6_ok kn_X10_34 kin_X6.1 kin_X6.2 rfl (by intro j hj; match j, hj with | 0, _ => rfl | 1, _ => rfl | j + 2, hj => exact absurd hj (by omega)) (Nat.le_of_ble_eq_true rfl) (Nat.le_of_ble_eq_true rfl) dX10_init_107 (fun q73 H hT hS => ?_)
  refine lv_dup hx hb dX10_init_110 rfl ?_
  refine x_cv (x_runI (b := q73) (As := []) (rest := [.ref q73, .int 3, .ref q36]) S (c_X6_init l E K F (0, [0, 0, 0, 0, 0, (-2147483648), (-2147483648), 0, 0, 0, 0, 0, 0, (-1), 0, 0, 0, 0, 0, 0, 0], [(fun _ => 0), (fun _ => 0), (fun _ => 0), (fun _ => 0), (fun _ => 0), (fun _ => 0), (fun _ => 0), (fun _ => 0), (fun _ => 0), (fun _ => 0), (fun _ => 0)]) ((a, .inr (11, [.ref q1, .ref q3, .ref q6, .ref q10, .ref q15, .ref q21, .ref q28, .ref q36, .null, .null, .null, .null, .null, .null, .null, .null, .null, .int 0, .int 0])) :: (q36, .inl (E.2.1 5, 8, .inr (.inr (.inr (.inr (va_up (va_up (va_up (fun _ => none) 0 (some q37)) 1 (some q48)) 2 (some q60))))))) :: L) q73) mi_X6_init rfl km_X10_36 rfl rfl ⟨Nat.le_of_ble_eq_true rfl, Nat.le_of_ble_eq_true rfl⟩ hK (fun _ => XPx.blind) (fun U hU hW => XPx.at hK hA hz hS hT hU hW) rfl hl.1 (Nat.le_of_ble_eq_true rfl) dX10_init_111 ⟨Nat.le_of_ble_eq_true rfl, Nat.le_of_ble_eq_true rfl⟩) hS ?_
  rintro ⟨K, F⟩ H locs ⟨hM, hk74, hU9⟩ hT hS
  have hk75 : K q1 = 10 := hM _ _ hk62 (by decide)
  have hk76 : K q3 = 7 := hM _ _ hk63 (by decide)
  have hk77 : K q6 = 2 := hM _ _ hk64 (by decide)
  have hk78 : K q10 = 8 := hM _ _ hk65 (by decide)
  have hk79 : K q15 = 8 := hM _ _ hk66 (by decide)
  have hk80 : K q21 = 8 := hM _ _ hk67 (by decide)
  have hk81 : K q28 = 8 := hM _ _ hk68 (by decide)
  have hk82 : K q37 = 8 := hM _ _ hk69 (by decide)
  have hk83 : K q48 = 8 := hM _ _ hk70 (by decide)
  have hk84 : K q60 = 8 := hM _ _ hk61 (by decide)
  have hM0 := KM.tr hM0 hM
  have hU := NU.tr hU hU9
  refine tx_asq S hK hT hS 1 rfl hk74 (by decide) dX10_init_114 (fun H locs hT hS => ?_)
  have hT : TX E K F (0, [0, 0, 0, 0, 0, (-2147483648), (-2147483648), 0, 0, 0, 0, 0, 0, (-1), 0, 0, 0, 0, 0, 0, 0], [(fun _ => 0), (fun _ => 0), (fun _ => 0), (fun _ => 0), (fun _ => 0), (fun _ => 0), (fun _ => 0), (fun _ => 0), (fun _ => 0), (fun _ => 0), (fun _ => 0)]) ((a, .inr (11, [.ref q1, .ref q3, .ref q6, .ref q10, .ref q15, .ref q21, .ref q28, .ref q36, .null, .null, .null, .null, .null, .null, .null, .null, .null, .int 0, .int 0])) :: (q36, .inl (E.2.1 5, 8, .inr (.inr (.inr (.inr (va_up (va_up (va_up (va_up (fun _ => none) 0 (some q37)) 1 (some q48)) 2 (some q60)) 3 (some q73))))))) :: L) H := hT
  refine xi_iinc (n := 1) (lv' := fun z9 => [(1, .int z9), (0, .ref a)]) (k := 0) hx hb ((by decide) : Int32.toInt 3 = (3 : Int)) (by decide) dX10_init_115 hl rfl (by decide) (fun _ => rfl) (fun x85 ls t86 hl => ?_)
  have hl : lv_has ls 2 [(1, .int x85), (0, .ref a)] := hl
  have e9 : (4 : Int32).toInt = 4 := by decide
  have h9 : x85 = 4 := Int32.toInt_inj.mp (by rw [e9]; omega)
  subst h9
  have hl : lv_has ls 2 [(1, .int 4), (0, .ref a)] := hl
  refine lv_goto (tgt := 96) hx hb dX10_init_118 (by decide) ?_
  refine lv_iload_n hx hb dX10_init_96 rfl (lv_at hl 0 rfl) ?_
  refine lv_bipush (v := 8) hx hb dX10_init_97 (by decide) ?_
  refine xi_cge (tgt := 121) hx hb ((by decide) : Int32.toInt 4 = (4 : Int)) ((by decide) : Int32.toInt 8 = (8 : Int)) dX10_init_99 (by decide) (fun c => absurd c (show ¬ ((8 : Int) ≤ (4 : Int)) by decide)) (fun _ => ?_)
  refine lv_aload_n hx hb dX10_init_102 rfl (lv_at hl 1 rfl) ?_
  refine tx_get (C := RX10) (T := TX10) (N := 19) (ci := 11) S hK hT inX10 0 rfl rfl 7 (by decide) kf_X10_50 rfl dX10_init_103 ?_
  refine lv_iload_n hx hb dX10_init_106 rfl (lv_at hl 0 rfl) ?_
  refine tx_new (ci := 7) (fs := [.null, .null]) S hK hz hT hS inX6 tyX6 tyX6_ok kn_X10_34 kin_X6.1 kin_X6.2 rfl (by intro j hj; match j, hj with | 0, _ => rfl | 1, _ => rfl | j + 2, hj => exact absurd hj (by omega)) (Nat.le_of_ble_eq_true rfl) (Nat.le_of_ble_eq_true rfl) dX10_init_107 (fun q87 H hT hS => ?_)
  refine lv_dup hx hb dX10_init_110 rfl ?_
  refine x_cv (x_runI (b := q87) (As := []) (rest := [.ref q87, .int 4, .ref q36]) S (c_X6_init l E K F (0, [0, 0, 0, 0, 0, (-2147483648), (-2147483648), 0, 0, 0, 0, 0, 0, (-1), 0, 0, 0, 0, 0, 0, 0], [(fun _ => 0), (fun _ => 0), (fun _ => 0), (fun _ => 0), (fun _ => 0), (fun _ => 0), (fun _ => 0), (fun _ => 0), (fun _ => 0), (fun _ => 0), (fun _ => 0)]) ((a, .inr (11, [.ref q1, .ref q3, .ref q6, .ref q10, .ref q15, .ref q21, .ref q28, .ref q36, .null, .null, .null, .null, .null, .null, .null, .null, .null, .int 0, .int 0])) :: (q36, .inl (E.2.1 5, 8, .inr (.inr (.inr (.inr (va_up (va_up (va_up (va_up (fun _ => none) 0 (some q37)) 1 (some q48)) 2 (some q60)) 3 (some q73))))))) :: L) q87) mi_X6_init rfl km_X10_36 rfl rfl ⟨Nat.le_of_ble_eq_true rfl, Nat.le_of_ble_eq_true rfl⟩ hK (fun _ => XPx.blind) (fun U hU hW => XPx.at hK hA hz hS hT hU hW) rfl hl.1 (Nat.le_of_ble_eq_true rfl) dX10_init_111 ⟨Nat.le_of_ble_eq_true rfl, Nat.le_of_ble_eq_true rfl⟩) hS ?_
  rintro ⟨K, F⟩ H locs ⟨hM, hk88, hU9⟩ hT hS
  have hk89 : K q1 = 10 := hM _ _ hk75 (by decide)
  have hk90 : K q3 = 7 := hM _ _ hk76 (by decide)
  have hk91 : K q6 = 2 := hM _ _ hk77 (by decide)
  have hk92 : K q10 = 8 := hM _ _ hk78 (by decide)
  have hk93 : K q15 = 8 := hM _ _ hk79 (by decide)
  have hk94 : K q21 = 8 := hM _ _ hk80 (by decide)
  have hk95 : K q28 = 8 := hM _ _ hk81 (by decide)
  have hk96 : K q37 = 8 := hM _ _ hk82 (by decide)
  have hk97 : K q48 = 8 := hM _ _ hk83 (by decide)
  have hk98 : K q60 = 8 := hM _ _ hk84 (by decide)
  have hk99 : K q73 = 8 := hM _ _ hk74 (by decide)
  have hM0 := KM.tr hM0 hM
  have hU := NU.tr hU hU9
  refine tx_asq S hK hT hS 1 rfl hk88 (by decide) dX10_init_114 (fun H locs hT hS => ?_)
  have hT : TX E K F (0, [0, 0, 0, 0, 0, (-2147483648), (-2147483648), 0, 0, 0, 0, 0, 0, (-1), 0, 0, 0, 0, 0, 0, 0], [(fun _ => 0), (fun _ => 0), (fun _ => 0), (fun _ => 0), (fun _ => 0), (fun _ => 0), (fun _ => 0), (fun _ => 0), (fun _ => 0), (fun _ => 0), (fun _ => 0)]) ((a, .inr (11, [.ref q1, .ref q3, .ref q6, .ref q10, .ref q15, .ref q21, .ref q28, .ref q36, .null, .null, .null, .null, .null, .null, .null, .null, .null, .int 0, .int 0])) :: (q36, .inl (E.2.1 5, 8, .inr (.inr (.inr (.inr (va_up (va_up (va_up (va_up (va_up (fun _ => none) 0 (some q37)) 1 (some q48)) 2 (some q60)) 3 (some q73)) 4 (some q87))))))) :: L) H := hT
  refine xi_iinc (n := 1) (lv' := fun z9 => [(1, .int z9), (0, .ref a)]) (k := 0) hx hb ((by decide) : Int32.toInt 4 = (4 : Int)) (by decide) dX10_init_115 hl rfl (by decide) (fun _ => rfl) (fun x100 ls t101 hl => ?_)
  have hl : lv_has ls 2 [(1, .int x100), (0, .ref a)] := hl
  have e9 : (5 : Int32).toInt = 5 := by decide
  have h9 : x100 = 5 := Int32.toInt_inj.mp (by rw [e9]; omega)
  subst h9
  have hl : lv_has ls 2 [(1, .int 5), (0, .ref a)] := hl
  refine lv_goto (tgt := 96) hx hb dX10_init_118 (by decide) ?_
  refine lv_iload_n hx hb dX10_init_96 rfl (lv_at hl 0 rfl) ?_
  refine lv_bipush (v := 8) hx hb dX10_init_97 (by decide) ?_
  refine xi_cge (tgt := 121) hx hb ((by decide) : Int32.toInt 5 = (5 : Int)) ((by decide) : Int32.toInt 8 = (8 : Int)) dX10_init_99 (by decide) (fun c => absurd c (show ¬ ((8 : Int) ≤ (5 : Int)) by decide)) (fun _ => ?_)
  refine lv_aload_n hx hb dX10_init_102 rfl (lv_at hl 1 rfl) ?_
  refine tx_get (C := RX10) (T := TX10) (N := 19) (ci := 11) S hK hT inX10 0 rfl rfl 7 (by decide) kf_X10_50 rfl dX10_init_103 ?_
  refine lv_iload_n hx hb dX10_init_106 rfl (lv_at hl 0 rfl) ?_
  refine tx_new (ci := 7) (fs := [.null, .null]) S hK hz hT hS inX6 tyX6 tyX6_ok kn_X10_34 kin_X6.1 kin_X6.2 rfl (by intro j hj; match j, hj with | 0, _ => rfl | 1, _ => rfl | j + 2, hj => exact absurd hj (by omega)) (Nat.le_of_ble_eq_true rfl) (Nat.le_of_ble_eq_true rfl) dX10_init_107 (fun q102 H hT hS => ?_)
  refine lv_dup hx hb dX10_init_110 rfl ?_
  refine x_cv (x_runI (b := q102) (As := []) (rest := [.ref q102, .int 5, .ref q36]) S (c_X6_init l E K F (0, [0, 0, 0, 0, 0, (-2147483648), (-2147483648), 0, 0, 0, 0, 0, 0, (-1), 0, 0, 0, 0, 0, 0, 0], [(fun _ => 0), (fun _ => 0), (fun _ => 0), (fun _ => 0), (fun _ => 0), (fun _ => 0), (fun _ => 0), (fun _ => 0), (fun _ => 0), (fun _ => 0), (fun _ => 0)]) ((a, .inr (11, [.ref q1, .ref q3, .ref q6, .ref q10, .ref q15, .ref q21, .ref q28, .ref q36, .null, .null, .null, .null, .null, .null, .null, .null, .null, .int 0, .int 0])) :: (q36, .inl (E.2.1 5, 8, .inr (.inr (.inr (.inr (va_up (va_up (va_up (va_up (va_up (fun _ => none) 0 (some q37)) 1 (some q48)) 2 (some q60)) 3 (some q73)) 4 (some q87))))))) :: L) q102) mi_X6_init rfl km_X10_36 rfl rfl ⟨Nat.le_of_ble_eq_true rfl, Nat.le_of_ble_eq_true rfl⟩ hK (fun _ => XPx.blind) (fun U hU hW => XPx.at hK hA hz hS hT hU hW) rfl hl.1 (Nat.le_of_ble_eq_true rfl) dX10_init_111 ⟨Nat.le_of_ble_eq_true rfl, Nat.le_of_ble_eq_true rfl⟩) hS ?_
  rintro ⟨K, F⟩ H locs ⟨hM, hk103, hU9⟩ hT hS
  have hk104 : K q1 = 10 := hM _ _ hk89 (by decide)
  have hk105 : K q3 = 7 := hM _ _ hk90 (by decide)
  have hk106 : K q6 = 2 := hM _ _ hk91 (by decide)
  have hk107 : K q10 = 8 := hM _ _ hk92 (by decide)
  have hk108 : K q15 = 8 := hM _ _ hk93 (by decide)
  have hk109 : K q21 = 8 := hM _ _ hk94 (by decide)
  have hk110 : K q28 = 8 := hM _ _ hk95 (by decide)
  have hk111 : K q37 = 8 := hM _ _ hk96 (by decide)
  have hk112 : K q48 = 8 := hM _ _ hk97 (by decide)
  have hk113 : K q60 = 8 := hM _ _ hk98 (by decide)
  have hk114 : K q73 = 8 := hM _ _ hk99 (by decide)
  have hk115 : K q87 = 8 := hM _ _ hk88 (by decide)
  have hM0 := KM.tr hM0 hM
  have hU := NU.tr hU hU9
  refine tx_asq S hK hT hS 1 rfl hk103 (by decide) dX10_init_114 (fun H locs hT hS => ?_)
  have hT : TX E K F (0, [0, 0, 0, 0, 0, (-2147483648), (-2147483648), 0, 0, 0, 0, 0, 0, (-1), 0, 0, 0, 0, 0, 0, 0], [(fun _ => 0), (fun _ => 0), (fun _ => 0), (fun _ => 0), (fun _ => 0), (fun _ => 0), (fun _ => 0), (fun _ => 0), (fun _ => 0), (fun _ => 0), (fun _ => 0)]) ((a, .inr (11, [.ref q1, .ref q3, .ref q6, .ref q10, .ref q15, .ref q21, .ref q28, .ref q36, .null, .null, .null, .null, .null, .null, .null, .null, .null, .int 0, .int 0])) :: (q36, .inl (E.2.1 5, 8, .inr (.inr (.inr (.inr (va_up (va_up (va_up (va_up (va_up (va_up (fun _ => none) 0 (some q37)) 1 (some q48)) 2 (some q60)) 3 (some q73)) 4 (some q87)) 5 (some q102))))))) :: L) H := hT
  refine xi_iinc (n := 1) (lv' := fun z9 => [(1, .int z9), (0, .ref a)]) (k := 0) hx hb ((by decide) : Int32.toInt 5 = (5 : Int)) (by decide) dX10_init_115 hl rfl (by decide) (fun _ => rfl) (fun x116 ls t117 hl => ?_)
  have hl : lv_has ls 2 [(1, .int x116), (0, .ref a)] := hl
  have e9 : (6 : Int32).toInt = 6 := by decide
  have h9 : x116 = 6 := Int32.toInt_inj.mp (by rw [e9]; omega)
  subst h9
  have hl : lv_has ls 2 [(1, .int 6), (0, .ref a)] := hl
  refine lv_goto (tgt := 96) hx hb dX10_init_118 (by decide) ?_
  refine lv_iload_n hx hb dX10_init_96 rfl (lv_at hl 0 rfl) ?_
  refine lv_bipush (v := 8) hx hb dX10_init_97 (by decide) ?_
  refine xi_cge (tgt := 121) hx hb ((by decide) : Int32.toInt 6 = (6 : Int)) ((by decide) : Int32.toInt 8 = (8 : Int)) dX10_init_99 (by decide) (fun c => absurd c (show ¬ ((8 : Int) ≤ (6 : Int)) by decide)) (fun _ => ?_)
  refine lv_aload_n hx hb dX10_init_102 rfl (lv_at hl 1 rfl) ?_
  refine tx_get (C := RX10) (T := TX10) (N := 19) (ci := 11) S hK hT inX10 0 rfl rfl 7 (by decide) kf_X10_50 rfl dX10_init_103 ?_
  refine lv_iload_n hx hb dX10_init_106 rfl (lv_at hl 0 rfl) ?_
  refine tx_new (ci := 7) (fs := [.null, .null]) S hK hz hT hS inX6 tyX6 tyX6_ok kn_X10_34 kin_X6.1 kin_X6.2 rfl (by intro j hj; match j, hj with | 0, _ => rfl | 1, _ => rfl | j + 2, hj => exact absurd hj (by omega)) (Nat.le_of_ble_eq_true rfl) (Nat.le_of_ble_eq_true rfl) dX10_init_107 (fun q118 H hT hS => ?_)
  refine lv_dup hx hb dX10_init_110 rfl ?_
  refine x_cv (x_runI (b := q118) (As := []) (rest := [.ref q118, .int 6, .ref q36]) S (c_X6_init l E K F (0, [0, 0, 0, 0, 0, (-2147483648), (-2147483648), 0, 0, 0, 0, 0, 0, (-1), 0, 0, 0, 0, 0, 0, 0], [(fun _ => 0), (fun _ => 0), (fun _ => 0), (fun _ => 0), (fun _ => 0), (fun _ => 0), (fun _ => 0), (fun _ => 0), (fun _ => 0), (fun _ => 0), (fun _ => 0)]) ((a, .inr (11, [.ref q1, .ref q3, .ref q6, .ref q10, .ref q15, .ref q21, .ref q28, .ref q36, .null, .null, .null, .null, .null, .null, .null, .null, .null, .int 0, .int 0])) :: (q36, .inl (E.2.1 5, 8, .inr (.inr (.inr (.inr (va_up (va_up (va_up (va_up (va_up (va_up (fun _ => none) 0 (some q37)) 1 (some q48)) 2 (some q60)) 3 (some q73)) 4 (some q87)) 5 (some q102))))))) :: L) q118) mi_X6_init rfl km_X10_36 rfl rfl ⟨Nat.le_of_ble_eq_true rfl, Nat.le_of_ble_eq_true rfl⟩ hK (fun _ => XPx.blind) (fun U hU hW => XPx.at hK hA hz hS hT hU hW) rfl hl.1 (Nat.le_of_ble_eq_true rfl) dX10_init_111 ⟨Nat.le_of_ble_eq_true rfl, Nat.le_of_ble_eq_true rfl⟩) hS ?_
  rintro ⟨K, F⟩ H locs ⟨hM, hk119, hU9⟩ hT hS
  have hk120 : K q1 = 10 := hM _ _ hk104 (by decide)
  have hk121 : K q3 = 7 := hM _ _ hk105 (by decide)
  have hk122 : K q6 = 2 := hM _ _ hk106 (by decide)
  have hk123 : K q10 = 8 := hM _ _ hk107 (by decide)
  have hk124 : K q15 = 8 := hM _ _ hk108 (by decide)
  have hk125 : K q21 = 8 := hM _ _ hk109 (by decide)
  have hk126 : K q28 = 8 := hM _ _ hk110 (by decide)
  have hk127 : K q37 = 8 := hM _ _ hk111 (by decide)
  have hk128 : K q48 = 8 := hM _ _ hk112 (by decide)
  have hk129 : K q60 = 8 := hM _ _ hk113 (by decide)
  have hk130 : K q73 = 8 := hM _ _ hk114 (by decide)
  have hk131 : K q87 = 8 := hM _ _ hk115 (by decide)
  have hk132 : K q102 = 8 := hM _ _ hk103 (by decide)
  have hM0 := KM.tr hM0 hM
  have hU := NU.tr hU hU9
  refine tx_asq S hK hT hS 1 rfl hk119 (by decide) dX10_init_114 (fun H locs hT hS => ?_)
  have hT : TX E K F (0, [0, 0, 0, 0, 0, (-2147483648), (-2147483648), 0, 0, 0, 0, 0, 0, (-1), 0, 0, 0, 0, 0, 0, 0], [(fun _ => 0), (fun _ => 0), (fun _ => 0), (fun _ => 0), (fun _ => 0), (fun _ => 0), (fun _ => 0), (fun _ => 0), (fun _ => 0), (fun _ => 0), (fun _ => 0)]) ((a, .inr (11, [.ref q1, .ref q3, .ref q6, .ref q10, .ref q15, .ref q21, .ref q28, .ref q36, .null, .null, .null, .null, .null, .null, .null, .null, .null, .int 0, .int 0])) :: (q36, .inl (E.2.1 5, 8, .inr (.inr (.inr (.inr (va_up (va_up (va_up (va_up (va_up (va_up (va_up (fun _ => none) 0 (some q37)) 1 (some q48)) 2 (some q60)) 3 (some q73)) 4 (some q87)) 5 (some q102)) 6 (some q118))))))) :: L) H := hT
  refine xi_iinc (n := 1) (lv' := fun z9 => [(1, .int z9), (0, .ref a)]) (k := 0) hx hb ((by decide) : Int32.toInt 6 = (6 : Int)) (by decide) dX10_init_115 hl rfl (by decide) (fun _ => rfl) (fun x133 ls t134 hl => ?_)
  have hl : lv_has ls 2 [(1, .int x133), (0, .ref a)] := hl
  have e9 : (7 : Int32).toInt = 7 := by decide
  have h9 : x133 = 7 := Int32.toInt_inj.mp (by rw [e9]; omega)
  subst h9
  have hl : lv_has ls 2 [(1, .int 7), (0, .ref a)] := hl
  refine lv_goto (tgt := 96) hx hb dX10_init_118 (by decide) ?_
  refine lv_iload_n hx hb dX10_init_96 rfl (lv_at hl 0 rfl) ?_
  refine lv_bipush (v := 8) hx hb dX10_init_97 (by decide) ?_
  refine xi_cge (tgt := 121) hx hb ((by decide) : Int32.toInt 7 = (7 : Int)) ((by decide) : Int32.toInt 8 = (8 : Int)) dX10_init_99 (by decide) (fun c => absurd c (show ¬ ((8 : Int) ≤ (7 : Int)) by decide)) (fun _ => ?_)
  refine lv_aload_n hx hb dX10_init_102 rfl (lv_at hl 1 rfl) ?_
  refine tx_get (C := RX10) (T := TX10) (N := 19) (ci := 11) S hK hT inX10 0 rfl rfl 7 (by decide) kf_X10_50 rfl dX10_init_103 ?_
  refine lv_iload_n hx hb dX10_init_106 rfl (lv_at hl 0 rfl) ?_
  refine tx_new (ci := 7) (fs := [.null, .null]) S hK hz hT hS inX6 tyX6 tyX6_ok kn_X10_34 kin_X6.1 kin_X6.2 rfl (by intro j hj; match j, hj with | 0, _ => rfl | 1, _ => rfl | j + 2, hj => exact absurd hj (by omega)) (Nat.le_of_ble_eq_true rfl) (Nat.le_of_ble_eq_true rfl) dX10_init_107 (fun q135 H hT hS => ?_)
  refine lv_dup hx hb dX10_init_110 rfl ?_
  refine x_cv (x_runI (b := q135) (As := []) (rest := [.ref q135, .int 7, .ref q36]) S (c_X6_init l E K F (0, [0, 0, 0, 0, 0, (-2147483648), (-2147483648), 0, 0, 0, 0, 0, 0, (-1), 0, 0, 0, 0, 0, 0, 0], [(fun _ => 0), (fun _ => 0), (fun _ => 0), (fun _ => 0), (fun _ => 0), (fun _ => 0), (fun _ => 0), (fun _ => 0), (fun _ => 0), (fun _ => 0), (fun _ => 0)]) ((a, .inr (11, [.ref q1, .ref q3, .ref q6, .ref q10, .ref q15, .ref q21, .ref q28, .ref q36, .null, .null, .null, .null, .null, .null, .null, .null, .null, .int 0, .int 0])) :: (q36, .inl (E.2.1 5, 8, .inr (.inr (.inr (.inr (va_up (va_up (va_up (va_up (va_up (va_up (va_up (fun _ => none) 0 (some q37)) 1 (some q48)) 2 (some q60)) 3 (some q73)) 4 (some q87)) 5 (some q102)) 6 (some q118))))))) :: L) q135) mi_X6_init rfl km_X10_36 rfl rfl ⟨Nat.le_of_ble_eq_true rfl, Nat.le_of_ble_eq_true rfl⟩ hK (fun _ => XPx.blind) (fun U hU hW => XPx.at hK hA hz hS hT hU hW) rfl hl.1 (Nat.le_of_ble_eq_true rfl) dX10_init_111 ⟨Nat.le_of_ble_eq_true rfl, Nat.le_of_ble_eq_true rfl⟩) hS ?_
  rintro ⟨K, F⟩ H locs ⟨hM, hk136, hU9⟩ hT hS
  have hk137 : K q1 = 10 := hM _ _ hk120 (by decide)
  have hk138 : K q3 = 7 := hM _ _ hk121 (by decide)
  have hk139 : K q6 = 2 := hM _ _ hk122 (by decide)
  have hk140 : K q10 = 8 := hM _ _ hk123 (by decide)
  have hk141 : K q15 = 8 := hM _ _ hk124 (by decide)
  have hk142 : K q21 = 8 := hM _ _ hk125 (by decide)
  have hk143 : K q28 = 8 := hM _ _ hk126 (by decide)
  have hk144 : K q37 = 8 := hM _ _ hk127 (by decide)
  have hk145 : K q48 = 8 := hM _ _ hk128 (by decide)
  have hk146 : K q60 = 8 := hM _ _ hk129 (by decide)
  have hk147 : K q73 = 8 := hM _ _ hk130 (by decide)
  have hk148 : K q87 = 8 := hM _ _ hk131 (by decide)
  have hk149 : K q102 = 8 := hM _ _ hk132 (by decide)
  have hk150 : K q118 = 8 := hM _ _ hk119 (by decide)
  have hM0 := KM.tr hM0 hM
  have hU := NU.tr hU hU9
  refine tx_asq S hK hT hS 1 rfl hk136 (by decide) dX10_init_114 (fun H locs hT hS => ?_)
  have hT : TX E K F (0, [0, 0, 0, 0, 0, (-2147483648), (-2147483648), 0, 0, 0, 0, 0, 0, (-1), 0, 0, 0, 0, 0, 0, 0], [(fun _ => 0), (fun _ => 0), (fun _ => 0), (fun _ => 0), (fun _ => 0), (fun _ => 0), (fun _ => 0), (fun _ => 0), (fun _ => 0), (fun _ => 0), (fun _ => 0)]) ((a, .inr (11, [.ref q1, .ref q3, .ref q6, .ref q10, .ref q15, .ref q21, .ref q28, .ref q36, .null, .null, .null, .null, .null, .null, .null, .null, .null, .int 0, .int 0])) :: (q36, .inl (E.2.1 5, 8, .inr (.inr (.inr (.inr (va_up (va_up (va_up (va_up (va_up (va_up (va_up (va_up (fun _ => none) 0 (some q37)) 1 (some q48)) 2 (some q60)) 3 (some q73)) 4 (some q87)) 5 (some q102)) 6 (some q118)) 7 (some q135))))))) :: L) H := hT
  refine xi_iinc (n := 1) (lv' := fun z9 => [(1, .int z9), (0, .ref a)]) (k := 0) hx hb ((by decide) : Int32.toInt 7 = (7 : Int)) (by decide) dX10_init_115 hl rfl (by decide) (fun _ => rfl) (fun x151 ls t152 hl => ?_)
  have hl : lv_has ls 2 [(1, .int x151), (0, .ref a)] := hl
  have e9 : (8 : Int32).toInt = 8 := by decide
  have h9 : x151 = 8 := Int32.toInt_inj.mp (by rw [e9]; omega)
  subst h9
  have hl : lv_has ls 2 [(1, .int 8), (0, .ref a)] := hl
  refine lv_goto (tgt := 96) hx hb dX10_init_118 (by decide) ?_
  refine lv_iload_n hx hb dX10_init_96 rfl (lv_at hl 0 rfl) ?_
  refine lv_bipush (v := 8) hx hb dX10_init_97 (by decide) ?_
  refine xi_cge (tgt := 121) hx hb ((by decide) : Int32.toInt 8 = (8 : Int)) ((by decide) : Int32.toInt 8 = (8 : Int)) dX10_init_99 (by decide) (fun _ => ?_) (fun c => absurd (show (8 : Int) ≤ (8 : Int) by decide) c)
  have hT := hT.sw
  have hT : TX E K F (0, [0, 0, 0, 0, 0, (-2147483648), (-2147483648), 0, 0, 0, 0, 0, 0, (-1), 0, 0, 0, 0, 0, 0, 0], [(fun _ => 0), (fun _ => 0), (fun _ => 0), (fun _ => 0), (fun _ => 0), (fun _ => 0), (fun _ => 0), (fun _ => 0), (fun _ => 0), (fun _ => 0), (fun _ => 0)]) ((q36, .inl (E.2.1 5, 8, .inr (.inr (.inr (.inr (va_up (va_up (va_up (va_up (va_up (va_up (va_up (va_up (fun _ => none) 0 (some q37)) 1 (some q48)) 2 (some q60)) 3 (some q73)) 4 (some q87)) 5 (some q102)) 6 (some q118)) 7 (some q135))))))) :: (a, .inr (11, [.ref q1, .ref q3, .ref q6, .ref q10, .ref q15, .ref q21, .ref q28, .ref q36, .null, .null, .null, .null, .null, .null, .null, .null, .null, .int 0, .int 0])) :: L) H := hT
  obtain ⟨K, F, hM, hk153, hU9, hT⟩ := hT.cl 16 (fun j => 0) (by decide) (fun hq => absurd hq (by decide)) (fun K1 F1 hM hF => ⟨_, rfl, fun i hi => by match i, hi with | 0, _ => exact ⟨q37, rfl, hM _ _ hk144 (by decide)⟩ | 1, _ => exact ⟨q48, rfl, hM _ _ hk145 (by decide)⟩ | 2, _ => exact ⟨q60, rfl, hM _ _ hk146 (by decide)⟩ | 3, _ => exact ⟨q73, rfl, hM _ _ hk147 (by decide)⟩ | 4, _ => exact ⟨q87, rfl, hM _ _ hk148 (by decide)⟩ | 5, _ => exact ⟨q102, rfl, hM _ _ hk149 (by decide)⟩ | 6, _ => exact ⟨q118, rfl, hM _ _ hk150 (by decide)⟩ | 7, _ => exact ⟨q135, rfl, hM _ _ hk136 (by decide)⟩ | i + 8, hi => exact absurd hi (by omega)⟩)
  have hk154 : K q1 = 10 := hM _ _ hk137 (by decide)
  have hk155 : K q3 = 7 := hM _ _ hk138 (by decide)
  have hk156 : K q6 = 2 := hM _ _ hk139 (by decide)
  have hk157 : K q10 = 8 := hM _ _ hk140 (by decide)
  have hk158 : K q15 = 8 := hM _ _ hk141 (by decide)
  have hk159 : K q21 = 8 := hM _ _ hk142 (by decide)
  have hk160 : K q28 = 8 := hM _ _ hk143 (by decide)
  have hM0 := KM.tr hM0 hM
  have hU := NU.tr hU hU9
  refine lv_aload_n hx hb dX10_init_121 rfl (lv_at hl 1 rfl) ?_
  refine tx_new (ci := 5) (fs := [.null, .null, .null, .null, .null, .null, .int 0]) S hK hz hT hS inX4 tyX4 tyX4_ok kn_X10_54 kin_X4.1 kin_X4.2 rfl (by intro j hj; match j, hj with | 0, _ => rfl | 1, _ => rfl | 2, _ => rfl | 3, _ => rfl | 4, _ => rfl | 5, _ => rfl | 6, _ => rfl | j + 7, hj => exact absurd hj (by omega)) (Nat.le_of_ble_eq_true rfl) (Nat.le_of_ble_eq_true rfl) dX10_init_122 (fun q161 H hT hS => ?_)
  refine lv_dup hx hb dX10_init_125 rfl ?_
  refine x_cv (x_runI (b := q161) (As := []) (rest := [.ref q161, .ref a]) S (c_X4_init l E K F (0, [0, 0, 0, 0, 0, (-2147483648), (-2147483648), 0, 0, 0, 0, 0, 0, (-1), 0, 0, 0, 0, 0, 0, 0], [(fun _ => 0), (fun _ => 0), (fun _ => 0), (fun _ => 0), (fun _ => 0), (fun _ => 0), (fun _ => 0), (fun _ => 0), (fun _ => 0), (fun _ => 0), (fun _ => 0)]) ((a, .inr (11, [.ref q1, .ref q3, .ref q6, .ref q10, .ref q15, .ref q21, .ref q28, .ref q36, .null, .null, .null, .null, .null, .null, .null, .null, .null, .int 0, .int 0])) :: L) q161) mi_X4_init rfl km_X10_56 rfl rfl ⟨Nat.le_of_ble_eq_true rfl, Nat.le_of_ble_eq_true rfl⟩ hK (fun _ => XPx.blind) (fun U hU hW => XPx.at hK hA hz hS hT hU hW) rfl hl.1 (Nat.le_of_ble_eq_true rfl) dX10_init_126 ⟨Nat.le_of_ble_eq_true rfl, Nat.le_of_ble_eq_true rfl⟩) hS ?_
  rintro ⟨K, F⟩ H locs ⟨hM, hk162, hU9⟩ hT hS
  have hk163 : K q1 = 10 := hM _ _ hk154 (by decide)
  have hk164 : K q3 = 7 := hM _ _ hk155 (by decide)
  have hk165 : K q6 = 2 := hM _ _ hk156 (by decide)
  have hk166 : K q10 = 8 := hM _ _ hk157 (by decide)
  have hk167 : K q15 = 8 := hM _ _ hk158 (by decide)
  have hk168 : K q21 = 8 := hM _ _ hk159 (by decide)
  have hk169 : K q28 = 8 := hM _ _ hk160 (by decide)
  have hk170 : K q36 = 16 := hM _ _ hk153 (by decide)
  have hM0 := KM.tr hM0 hM
  have hU := NU.tr hU hU9
  refine tx_putF (C := RX10) (T := TX10) (N := 19) (ci := 11) (ty := (.object "LateRules$Questions")) S hK hT hS inX10 tyX10 tyX10_ok nmX10 0 rfl rfl 8 (by decide) kf_X10_57 rfl hnm rfl (by decide +kernel) rfl rfl (Nat.le_of_ble_eq_true rfl) dX10_init_129 (fun H locs hT hS => ?_)
  have hT : TX E K F (0, [0, 0, 0, 0, 0, (-2147483648), (-2147483648), 0, 0, 0, 0, 0, 0, (-1), 0, 0, 0, 0, 0, 0, 0], [(fun _ => 0), (fun _ => 0), (fun _ => 0), (fun _ => 0), (fun _ => 0), (fun _ => 0), (fun _ => 0), (fun _ => 0), (fun _ => 0), (fun _ => 0), (fun _ => 0)]) ((a, .inr (11, [.ref q1, .ref q3, .ref q6, .ref q10, .ref q15, .ref q21, .ref q28, .ref q36, .ref q161, .null, .null, .null, .null, .null, .null, .null, .null, .int 0, .int 0])) :: L) H := hT
  refine lv_aload_n hx hb dX10_init_132 rfl (lv_at hl 1 rfl) ?_
  refine tx_new (ci := 5) (fs := [.null, .null, .null, .null, .null, .null, .int 0]) S hK hz hT hS inX4 tyX4 tyX4_ok kn_X10_54 kin_X4.1 kin_X4.2 rfl (by intro j hj; match j, hj with | 0, _ => rfl | 1, _ => rfl | 2, _ => rfl | 3, _ => rfl | 4, _ => rfl | 5, _ => rfl | 6, _ => rfl | j + 7, hj => exact absurd hj (by omega)) (Nat.le_of_ble_eq_true rfl) (Nat.le_of_ble_eq_true rfl) dX10_init_133 (fun q171 H hT hS => ?_)
  refine lv_dup hx hb dX10_init_136 rfl ?_
  refine x_cv (x_runI (b := q171) (As := []) (rest := [.ref q171, .ref a]) S (c_X4_init l E K F (0, [0, 0, 0, 0, 0, (-2147483648), (-2147483648), 0, 0, 0, 0, 0, 0, (-1), 0, 0, 0, 0, 0, 0, 0], [(fun _ => 0), (fun _ => 0), (fun _ => 0), (fun _ => 0), (fun _ => 0), (fun _ => 0), (fun _ => 0), (fun _ => 0), (fun _ => 0), (fun _ => 0), (fun _ => 0)]) ((a, .inr (11, [.ref q1, .ref q3, .ref q6, .ref q10, .ref q15, .ref q21, .ref q28, .ref q36, .ref q161, .null, .null, .null, .null, .null, .null, .null, .null, .int 0, .int 0])) :: L) q171) mi_X4_init rfl km_X10_56 rfl rfl ⟨Nat.le_of_ble_eq_true rfl, Nat.le_of_ble_eq_true rfl⟩ hK (fun _ => XPx.blind) (fun U hU hW => XPx.at hK hA hz hS hT hU hW) rfl hl.1 (Nat.le_of_ble_eq_true rfl) dX10_init_137 ⟨Nat.le_of_ble_eq_true rfl, Nat.le_of_ble_eq_true rfl⟩) hS ?_
  rintro ⟨K, F⟩ H locs ⟨hM, hk172, hU9⟩ hT hS
  have hk173 : K q1 = 10 := hM _ _ hk163 (by decide)
  have hk174 : K q3 = 7 := hM _ _ hk164 (by decide)
  have hk175 : K q6 = 2 := hM _ _ hk165 (by decide)
  have hk176 : K q10 = 8 := hM _ _ hk166 (by decide)
  have hk177 : K q15 = 8 := hM _ _ hk167 (by decide)
  have hk178 : K q21 = 8 := hM _ _ hk168 (by decide)
  have hk179 : K q28 = 8 := hM _ _ hk169 (by decide)
  have hk180 : K q36 = 16 := hM _ _ hk170 (by decide)
  have hk181 : K q161 = 6 := hM _ _ hk162 (by decide)
  have hM0 := KM.tr hM0 hM
  have hU := NU.tr hU hU9
  refine tx_putF (C := RX10) (T := TX10) (N := 19) (ci := 11) (ty := (.object "LateRules$Questions")) S hK hT hS inX10 tyX10 tyX10_ok nmX10 0 rfl rfl 9 (by decide) kf_X10_61 rfl hnm rfl (by decide +kernel) rfl rfl (Nat.le_of_ble_eq_true rfl) dX10_init_140 (fun H locs hT hS => ?_)
  have hT : TX E K F (0, [0, 0, 0, 0, 0, (-2147483648), (-2147483648), 0, 0, 0, 0, 0, 0, (-1), 0, 0, 0, 0, 0, 0, 0], [(fun _ => 0), (fun _ => 0), (fun _ => 0), (fun _ => 0), (fun _ => 0), (fun _ => 0), (fun _ => 0), (fun _ => 0), (fun _ => 0), (fun _ => 0), (fun _ => 0)]) ((a, .inr (11, [.ref q1, .ref q3, .ref q6, .ref q10, .ref q15, .ref q21, .ref q28, .ref q36, .ref q161, .ref q171, .null, .null, .null, .null, .null, .null, .null, .int 0, .int 0])) :: L) H := hT
  refine lv_aload_n hx hb dX10_init_143 rfl (lv_at hl 1 rfl) ?_
  refine tx_new (ci := 5) (fs := [.null, .null, .null, .null, .null, .null, .int 0]) S hK hz hT hS inX4 tyX4 tyX4_ok kn_X10_54 kin_X4.1 kin_X4.2 rfl (by intro j hj; match j, hj with | 0, _ => rfl | 1, _ => rfl | 2, _ => rfl | 3, _ => rfl | 4, _ => rfl | 5, _ => rfl | 6, _ => rfl | j + 7, hj => exact absurd hj (by omega)) (Nat.le_of_ble_eq_true rfl) (Nat.le_of_ble_eq_true rfl) dX10_init_144 (fun q182 H hT hS => ?_)
  refine lv_dup hx hb dX10_init_147 rfl ?_
  refine x_cv (x_runI (b := q182) (As := []) (rest := [.ref q182, .ref a]) S (c_X4_init l E K F (0, [0, 0, 0, 0, 0, (-2147483648), (-2147483648), 0, 0, 0, 0, 0, 0, (-1), 0, 0, 0, 0, 0, 0, 0], [(fun _ => 0), (fun _ => 0), (fun _ => 0), (fun _ => 0), (fun _ => 0), (fun _ => 0), (fun _ => 0), (fun _ => 0), (fun _ => 0), (fun _ => 0), (fun _ => 0)]) ((a, .inr (11, [.ref q1, .ref q3, .ref q6, .ref q10, .ref q15, .ref q21, .ref q28, .ref q36, .ref q161, .ref q171, .null, .null, .null, .null, .null, .null, .null, .int 0, .int 0])) :: L) q182) mi_X4_init rfl km_X10_56 rfl rfl ⟨Nat.le_of_ble_eq_true rfl, Nat.le_of_ble_eq_true rfl⟩ hK (fun _ => XPx.blind) (fun U hU hW => XPx.at hK hA hz hS hT hU hW) rfl hl.1 (Nat.le_of_ble_eq_true rfl) dX10_init_148 ⟨Nat.le_of_ble_eq_true rfl, Nat.le_of_ble_eq_true rfl⟩) hS ?_
  rintro ⟨K, F⟩ H locs ⟨hM, hk183, hU9⟩ hT hS
  have hk184 : K q1 = 10 := hM _ _ hk173 (by decide)
  have hk185 : K q3 = 7 := hM _ _ hk174 (by decide)
  have hk186 : K q6 = 2 := hM _ _ hk175 (by decide)
  have hk187 : K q10 = 8 := hM _ _ hk176 (by decide)
  have hk188 : K q15 = 8 := hM _ _ hk177 (by decide)
  have hk189 : K q21 = 8 := hM _ _ hk178 (by decide)
  have hk190 : K q28 = 8 := hM _ _ hk179 (by decide)
  have hk191 : K q36 = 16 := hM _ _ hk180 (by decide)
  have hk192 : K q161 = 6 := hM _ _ hk181 (by decide)
  have hk193 : K q171 = 6 := hM _ _ hk172 (by decide)
  have hM0 := KM.tr hM0 hM
  have hU := NU.tr hU hU9
  refine tx_putF (C := RX10) (T := TX10) (N := 19) (ci := 11) (ty := (.object "LateRules$Questions")) S hK hT hS inX10 tyX10 tyX10_ok nmX10 0 rfl rfl 10 (by decide) kf_X10_64 rfl hnm rfl (by decide +kernel) rfl rfl (Nat.le_of_ble_eq_true rfl) dX10_init_151 (fun H locs hT hS => ?_)
  have hT : TX E K F (0, [0, 0, 0, 0, 0, (-2147483648), (-2147483648), 0, 0, 0, 0, 0, 0, (-1), 0, 0, 0, 0, 0, 0, 0], [(fun _ => 0), (fun _ => 0), (fun _ => 0), (fun _ => 0), (fun _ => 0), (fun _ => 0), (fun _ => 0), (fun _ => 0), (fun _ => 0), (fun _ => 0), (fun _ => 0)]) ((a, .inr (11, [.ref q1, .ref q3, .ref q6, .ref q10, .ref q15, .ref q21, .ref q28, .ref q36, .ref q161, .ref q171, .ref q182, .null, .null, .null, .null, .null, .null, .int 0, .int 0])) :: L) H := hT
  refine lv_aload_n hx hb dX10_init_154 rfl (lv_at hl 1 rfl) ?_
  refine tx_new (ci := 2) (fs := [.null, .null, .null, .int 0]) S hK hz hT hS inX1 tyX1 tyX1_ok kn_X10_67 kin_X1.1 kin_X1.2 rfl (by intro j hj; match j, hj with | 0, _ => rfl | 1, _ => rfl | 2, _ => rfl | 3, _ => rfl | j + 4, hj => exact absurd hj (by omega)) (Nat.le_of_ble_eq_true rfl) (Nat.le_of_ble_eq_true rfl) dX10_init_155 (fun q194 H hT hS => ?_)
  refine lv_dup hx hb dX10_init_158 rfl ?_
  refine x_cv (x_runI (b := q194) (As := []) (rest := [.ref q194, .ref a]) S (c_X1_init l E K F (0, [0, 0, 0, 0, 0, (-2147483648), (-2147483648), 0, 0, 0, 0, 0, 0, (-1), 0, 0, 0, 0, 0, 0, 0], [(fun _ => 0), (fun _ => 0), (fun _ => 0), (fun _ => 0), (fun _ => 0), (fun _ => 0), (fun _ => 0), (fun _ => 0), (fun _ => 0), (fun _ => 0), (fun _ => 0)]) ((a, .inr (11, [.ref q1, .ref q3, .ref q6, .ref q10, .ref q15, .ref q21, .ref q28, .ref q36, .ref q161, .ref q171, .ref q182, .null, .null, .null, .null, .null, .null, .int 0, .int 0])) :: L) q194) mi_X1_init rfl km_X10_69 rfl rfl ⟨Nat.le_of_ble_eq_true rfl, Nat.le_of_ble_eq_true rfl⟩ hK (fun _ => XPx.blind) (fun U hU hW => XPx.at hK hA hz hS hT hU hW) rfl hl.1 (Nat.le_of_ble_eq_true rfl) dX10_init_159 ⟨Nat.le_of_ble_eq_true rfl, Nat.le_of_ble_eq_true rfl⟩) hS ?_
  rintro ⟨K, F⟩ H locs ⟨hM, hk195, hU9⟩ hT hS
  have hk196 : K q1 = 10 := hM _ _ hk184 (by decide)
  have hk197 : K q3 = 7 := hM _ _ hk185 (by decide)
  have hk198 : K q6 = 2 := hM _ _ hk186 (by decide)
  have hk199 : K q10 = 8 := hM _ _ hk187 (by decide)
  have hk200 : K q15 = 8 := hM _ _ hk188 (by decide)
  have hk201 : K q21 = 8 := hM _ _ hk189 (by decide)
  have hk202 : K q28 = 8 := hM _ _ hk190 (by decide)
  have hk203 : K q36 = 16 := hM _ _ hk191 (by decide)
  have hk204 : K q161 = 6 := hM _ _ hk192 (by decide)
  have hk205 : K q171 = 6 := hM _ _ hk193 (by decide)
  have hk206 : K q182 = 6 := hM _ _ hk183 (by decide)
  have hM0 := KM.tr hM0 hM
  have hU := NU.tr hU hU9
  refine tx_putF (C := RX10) (T := TX10) (N := 19) (ci := 11) (ty := (.object "LateRules$Comparison")) S hK hT hS inX10 tyX10 tyX10_ok nmX10 0 rfl rfl 11 (by decide) kf_X10_70 rfl hnm rfl (by decide +kernel) rfl rfl (Nat.le_of_ble_eq_true rfl) dX10_init_162 (fun H locs hT hS => ?_)
  have hT : TX E K F (0, [0, 0, 0, 0, 0, (-2147483648), (-2147483648), 0, 0, 0, 0, 0, 0, (-1), 0, 0, 0, 0, 0, 0, 0], [(fun _ => 0), (fun _ => 0), (fun _ => 0), (fun _ => 0), (fun _ => 0), (fun _ => 0), (fun _ => 0), (fun _ => 0), (fun _ => 0), (fun _ => 0), (fun _ => 0)]) ((a, .inr (11, [.ref q1, .ref q3, .ref q6, .ref q10, .ref q15, .ref q21, .ref q28, .ref q36, .ref q161, .ref q171, .ref q182, .ref q194, .null, .null, .null, .null, .null, .int 0, .int 0])) :: L) H := hT
  refine lv_aload_n hx hb dX10_init_165 rfl (lv_at hl 1 rfl) ?_
  refine tx_new (ci := 3) (fs := [.null, .null, .null, .null, .int 0]) S hK hz hT hS inX2 tyX2 tyX2_ok kn_X10_74 kin_X2.1 kin_X2.2 rfl (by intro j hj; match j, hj with | 0, _ => rfl | 1, _ => rfl | 2, _ => rfl | 3, _ => rfl | 4, _ => rfl | j + 5, hj => exact absurd hj (by omega)) (Nat.le_of_ble_eq_true rfl) (Nat.le_of_ble_eq_true rfl) dX10_init_166 (fun q207 H hT hS => ?_)
  refine lv_dup hx hb dX10_init_169 rfl ?_
  refine x_cv (x_runI (b := q207) (As := []) (rest := [.ref q207, .ref a]) S (c_X2_init l E K F (0, [0, 0, 0, 0, 0, (-2147483648), (-2147483648), 0, 0, 0, 0, 0, 0, (-1), 0, 0, 0, 0, 0, 0, 0], [(fun _ => 0), (fun _ => 0), (fun _ => 0), (fun _ => 0), (fun _ => 0), (fun _ => 0), (fun _ => 0), (fun _ => 0), (fun _ => 0), (fun _ => 0), (fun _ => 0)]) ((a, .inr (11, [.ref q1, .ref q3, .ref q6, .ref q10, .ref q15, .ref q21, .ref q28, .ref q36, .ref q161, .ref q171, .ref q182, .ref q194, .null, .null, .null, .null, .null, .int 0, .int 0])) :: L) q207) mi_X2_init rfl km_X10_76 rfl rfl ⟨Nat.le_of_ble_eq_true rfl, Nat.le_of_ble_eq_true rfl⟩ hK (fun _ => XPx.blind) (fun U hU hW => XPx.at hK hA hz hS hT hU hW) rfl hl.1 (Nat.le_of_ble_eq_true rfl) dX10_init_170 ⟨Nat.le_of_ble_eq_true rfl, Nat.le_of_ble_eq_true rfl⟩) hS ?_
  rintro ⟨K, F⟩ H locs ⟨hM, hk208, hU9⟩ hT hS
  have hk209 : K q1 = 10 := hM _ _ hk196 (by decide)
  have hk210 : K q3 = 7 := hM _ _ hk197 (by decide)
  have hk211 : K q6 = 2 := hM _ _ hk198 (by decide)
  have hk212 : K q10 = 8 := hM _ _ hk199 (by decide)
  have hk213 : K q15 = 8 := hM _ _ hk200 (by decide)
  have hk214 : K q21 = 8 := hM _ _ hk201 (by decide)
  have hk215 : K q28 = 8 := hM _ _ hk202 (by decide)
  have hk216 : K q36 = 16 := hM _ _ hk203 (by decide)
  have hk217 : K q161 = 6 := hM _ _ hk204 (by decide)
  have hk218 : K q171 = 6 := hM _ _ hk205 (by decide)
  have hk219 : K q182 = 6 := hM _ _ hk206 (by decide)
  have hk220 : K q194 = 3 := hM _ _ hk195 (by decide)
  have hM0 := KM.tr hM0 hM
  have hU := NU.tr hU hU9
  refine tx_putF (C := RX10) (T := TX10) (N := 19) (ci := 11) (ty := (.object "LateRules$Followers")) S hK hT hS inX10 tyX10 tyX10_ok nmX10 0 rfl rfl 12 (by decide) kf_X10_77 rfl hnm rfl (by decide +kernel) rfl rfl (Nat.le_of_ble_eq_true rfl) dX10_init_173 (fun H locs hT hS => ?_)
  have hT : TX E K F (0, [0, 0, 0, 0, 0, (-2147483648), (-2147483648), 0, 0, 0, 0, 0, 0, (-1), 0, 0, 0, 0, 0, 0, 0], [(fun _ => 0), (fun _ => 0), (fun _ => 0), (fun _ => 0), (fun _ => 0), (fun _ => 0), (fun _ => 0), (fun _ => 0), (fun _ => 0), (fun _ => 0), (fun _ => 0)]) ((a, .inr (11, [.ref q1, .ref q3, .ref q6, .ref q10, .ref q15, .ref q21, .ref q28, .ref q36, .ref q161, .ref q171, .ref q182, .ref q194, .ref q207, .null, .null, .null, .null, .int 0, .int 0])) :: L) H := hT
  refine lv_aload_n hx hb dX10_init_176 rfl (lv_at hl 1 rfl) ?_
  refine tx_new (ci := 4) (fs := [.null, .null, .null, .int 0]) S hK hz hT hS inX3 tyX3 tyX3_ok kn_X10_81 kin_X3.1 kin_X3.2 rfl (by intro j hj; match j, hj with | 0, _ => rfl | 1, _ => rfl | 2, _ => rfl | 3, _ => rfl | j + 4, hj => exact absurd hj (by omega)) (Nat.le_of_ble_eq_true rfl) (Nat.le_of_ble_eq_true rfl) dX10_init_177 (fun q221 H hT hS => ?_)
  refine lv_dup hx hb dX10_init_180 rfl ?_
  refine x_cv (x_runI (b := q221) (As := []) (rest := [.ref q221, .ref a]) S (c_X3_init l E K F (0, [0, 0, 0, 0, 0, (-2147483648), (-2147483648), 0, 0, 0, 0, 0, 0, (-1), 0, 0, 0, 0, 0, 0, 0], [(fun _ => 0), (fun _ => 0), (fun _ => 0), (fun _ => 0), (fun _ => 0), (fun _ => 0), (fun _ => 0), (fun _ => 0), (fun _ => 0), (fun _ => 0), (fun _ => 0)]) ((a, .inr (11, [.ref q1, .ref q3, .ref q6, .ref q10, .ref q15, .ref q21, .ref q28, .ref q36, .ref q161, .ref q171, .ref q182, .ref q194, .ref q207, .null, .null, .null, .null, .int 0, .int 0])) :: L) q221) mi_X3_init rfl km_X10_83 rfl rfl ⟨Nat.le_of_ble_eq_true rfl, Nat.le_of_ble_eq_true rfl⟩ hK (fun _ => XPx.blind) (fun U hU hW => XPx.at hK hA hz hS hT hU hW) rfl hl.1 (Nat.le_of_ble_eq_true rfl) dX10_init_181 ⟨Nat.le_of_ble_eq_true rfl, Nat.le_of_ble_eq_true rfl⟩) hS ?_
  rintro ⟨K, F⟩ H locs ⟨hM, hk222, hU9⟩ hT hS
  have hk223 : K q1 = 10 := hM _ _ hk209 (by decide)
  have hk224 : K q3 = 7 := hM _ _ hk210 (by decide)
  have hk225 : K q6 = 2 := hM _ _ hk211 (by decide)
  have hk226 : K q10 = 8 := hM _ _ hk212 (by decide)
  have hk227 : K q15 = 8 := hM _ _ hk213 (by decide)
  have hk228 : K q21 = 8 := hM _ _ hk214 (by decide)
  have hk229 : K q28 = 8 := hM _ _ hk215 (by decide)
  have hk230 : K q36 = 16 := hM _ _ hk216 (by decide)
  have hk231 : K q161 = 6 := hM _ _ hk217 (by decide)
  have hk232 : K q171 = 6 := hM _ _ hk218 (by decide)
  have hk233 : K q182 = 6 := hM _ _ hk219 (by decide)
  have hk234 : K q194 = 3 := hM _ _ hk220 (by decide)
  have hk235 : K q207 = 4 := hM _ _ hk208 (by decide)
  have hM0 := KM.tr hM0 hM
  have hU := NU.tr hU hU9
  refine tx_putF (C := RX10) (T := TX10) (N := 19) (ci := 11) (ty := (.object "LateRules$Leaners")) S hK hT hS inX10 tyX10 tyX10_ok nmX10 0 rfl rfl 13 (by decide) kf_X10_84 rfl hnm rfl (by decide +kernel) rfl rfl (Nat.le_of_ble_eq_true rfl) dX10_init_184 (fun H locs hT hS => ?_)
  have hT : TX E K F (0, [0, 0, 0, 0, 0, (-2147483648), (-2147483648), 0, 0, 0, 0, 0, 0, (-1), 0, 0, 0, 0, 0, 0, 0], [(fun _ => 0), (fun _ => 0), (fun _ => 0), (fun _ => 0), (fun _ => 0), (fun _ => 0), (fun _ => 0), (fun _ => 0), (fun _ => 0), (fun _ => 0), (fun _ => 0)]) ((a, .inr (11, [.ref q1, .ref q3, .ref q6, .ref q10, .ref q15, .ref q21, .ref q28, .ref q36, .ref q161, .ref q171, .ref q182, .ref q194, .ref q207, .ref q221, .null, .null, .null, .int 0, .int 0])) :: L) H := hT
  refine lv_aload_n hx hb dX10_init_187 rfl (lv_at hl 1 rfl) ?_
  refine tx_new (ci := 10) (fs := [.null, .int 0, .int 0, .int 0]) S hK hz hT hS inX9 tyX9 tyX9_ok kn_X10_88 kin_X9.1 kin_X9.2 rfl (by intro j hj; match j, hj with | 0, _ => rfl | 1, _ => rfl | 2, _ => rfl | 3, _ => rfl | j + 4, hj => exact absurd hj (by omega)) (Nat.le_of_ble_eq_true rfl) (Nat.le_of_ble_eq_true rfl) dX10_init_188 (fun q236 H hT hS => ?_)
  refine lv_dup hx hb dX10_init_191 rfl ?_
  refine x_cv (x_runI (b := q236) (As := []) (rest := [.ref q236, .ref a]) S (c_X9_init l E K F (0, [0, 0, 0, 0, 0, (-2147483648), (-2147483648), 0, 0, 0, 0, 0, 0, (-1), 0, 0, 0, 0, 0, 0, 0], [(fun _ => 0), (fun _ => 0), (fun _ => 0), (fun _ => 0), (fun _ => 0), (fun _ => 0), (fun _ => 0), (fun _ => 0), (fun _ => 0), (fun _ => 0), (fun _ => 0)]) ((a, .inr (11, [.ref q1, .ref q3, .ref q6, .ref q10, .ref q15, .ref q21, .ref q28, .ref q36, .ref q161, .ref q171, .ref q182, .ref q194, .ref q207, .ref q221, .null, .null, .null, .int 0, .int 0])) :: L) q236) mi_X9_init rfl km_X10_90 rfl rfl ⟨Nat.le_of_ble_eq_true rfl, Nat.le_of_ble_eq_true rfl⟩ hK (fun _ => XPx.blind) (fun U hU hW => XPx.at hK hA hz hS hT hU hW) rfl hl.1 (Nat.le_of_ble_eq_true rfl) dX10_init_192 ⟨Nat.le_of_ble_eq_true rfl, Nat.le_of_ble_eq_true rfl⟩) hS ?_
  rintro ⟨q237, q238⟩ H locs - hT hS
  have hT : TX E K F (0, [0, 0, 0, 0, 0, (-2147483648), (-2147483648), 0, 0, 0, 0, 0, 0, (-1), 0, 0, 0, 0, 0, 0, 0], [(fun _ => 0), (fun _ => 0), (fun _ => 0), (fun _ => 0), (fun _ => 0), (fun _ => 0), (fun _ => 0), (fun _ => 0), (fun _ => 0), (fun _ => 0), (fun _ => 0)]) ((q236, .inr (10, [.ref q237, .int 0, .int 0, .int 0])) :: (q237, .inr (0, [.ref q238, .int 0, .int 0, .int 0])) :: (q238, .inl (E.2.1 2, 16, .inl (fun _ => 0))) :: (a, .inr (11, [.ref q1, .ref q3, .ref q6, .ref q10, .ref q15, .ref q21, .ref q28, .ref q36, .ref q161, .ref q171, .ref q182, .ref q194, .ref q207, .ref q221, .null, .null, .null, .int 0, .int 0])) :: L) H := hT
  refine tx_putF (C := RX10) (T := TX10) (N := 19) (ci := 11) (ty := (.object "LateRules$Verdict")) S hK hT hS inX10 tyX10 tyX10_ok nmX10 3 rfl rfl 14 (by decide) kf_X10_91 rfl hnm rfl (by decide +kernel) rfl rfl (Nat.le_of_ble_eq_true rfl) dX10_init_195 (fun H locs hT hS => ?_)
  have hT : TX E K F (0, [0, 0, 0, 0, 0, (-2147483648), (-2147483648), 0, 0, 0, 0, 0, 0, (-1), 0, 0, 0, 0, 0, 0, 0], [(fun _ => 0), (fun _ => 0), (fun _ => 0), (fun _ => 0), (fun _ => 0), (fun _ => 0), (fun _ => 0), (fun _ => 0), (fun _ => 0), (fun _ => 0), (fun _ => 0)]) ((q236, .inr (10, [.ref q237, .int 0, .int 0, .int 0])) :: (q237, .inr (0, [.ref q238, .int 0, .int 0, .int 0])) :: (q238, .inl (E.2.1 2, 16, .inl (fun _ => 0))) :: (a, .inr (11, [.ref q1, .ref q3, .ref q6, .ref q10, .ref q15, .ref q21, .ref q28, .ref q36, .ref q161, .ref q171, .ref q182, .ref q194, .ref q207, .ref q221, .ref q236, .null, .null, .int 0, .int 0])) :: L) H := hT
  refine lv_aload_n hx hb dX10_init_198 rfl (lv_at hl 1 rfl) ?_
  refine lv_bipush (v := 6) hx hb dX10_init_199 (by decide) ?_
  refine tx_na0 S hK hz hT hS (N := 6) (by decide) (by decide) (Nat.le_of_ble_eq_true rfl) (Nat.le_of_ble_eq_true rfl) (Nat.le_of_ble_eq_true rfl) dX10_init_201 (fun q239 H hT hS => ?_)
  obtain ⟨K, F, hM, hk240, hU9, hT⟩ := hT.cl 26 (fun j => 0) (by decide) (fun hq => absurd hq (by decide)) (fun K1 F1 hM hF => aw_26 _ (fun _ => trivial))
  have hk241 : K q1 = 10 := hM _ _ hk223 (by decide)
  have hk242 : K q3 = 7 := hM _ _ hk224 (by decide)
  have hk243 : K q6 = 2 := hM _ _ hk225 (by decide)
  have hk244 : K q10 = 8 := hM _ _ hk226 (by decide)
  have hk245 : K q15 = 8 := hM _ _ hk227 (by decide)
  have hk246 : K q21 = 8 := hM _ _ hk228 (by decide)
  have hk247 : K q28 = 8 := hM _ _ hk229 (by decide)
  have hk248 : K q36 = 16 := hM _ _ hk230 (by decide)
  have hk249 : K q161 = 6 := hM _ _ hk231 (by decide)
  have hk250 : K q171 = 6 := hM _ _ hk232 (by decide)
  have hk251 : K q182 = 6 := hM _ _ hk233 (by decide)
  have hk252 : K q194 = 3 := hM _ _ hk234 (by decide)
  have hk253 : K q207 = 4 := hM _ _ hk235 (by decide)
  have hk254 : K q221 = 5 := hM _ _ hk222 (by decide)
  have hM0 := KM.tr hM0 hM
  have hU := NU.tr hU hU9
  refine tx_putF (C := RX10) (T := TX10) (N := 19) (ci := 11) (ty := (.array .int)) S hK hT hS inX10 tyX10 tyX10_ok nmX10 3 rfl rfl 15 (by decide) kf_X10_95 rfl hnm rfl (by decide +kernel) rfl rfl (Nat.le_of_ble_eq_true rfl) dX10_init_203 (fun H locs hT hS => ?_)
  have hT : TX E K F (0, [0, 0, 0, 0, 0, (-2147483648), (-2147483648), 0, 0, 0, 0, 0, 0, (-1), 0, 0, 0, 0, 0, 0, 0], [(fun _ => 0), (fun _ => 0), (fun _ => 0), (fun _ => 0), (fun _ => 0), (fun _ => 0), (fun _ => 0), (fun _ => 0), (fun _ => 0), (fun _ => 0), (fun _ => 0)]) ((q236, .inr (10, [.ref q237, .int 0, .int 0, .int 0])) :: (q237, .inr (0, [.ref q238, .int 0, .int 0, .int 0])) :: (q238, .inl (E.2.1 2, 16, .inl (fun _ => 0))) :: (a, .inr (11, [.ref q1, .ref q3, .ref q6, .ref q10, .ref q15, .ref q21, .ref q28, .ref q36, .ref q161, .ref q171, .ref q182, .ref q194, .ref q207, .ref q221, .ref q236, .ref q239, .null, .int 0, .int 0])) :: L) H := hT
  refine lv_aload_n hx hb dX10_init_206 rfl (lv_at hl 1 rfl) ?_
  refine lv_iconst (v := 4) hx hb dX10_init_207 (by decide) ?_
  refine tx_na0 S hK hz hT hS (N := 4) (by decide) (by decide) (Nat.le_of_ble_eq_true rfl) (Nat.le_of_ble_eq_true rfl) (Nat.le_of_ble_eq_true rfl) dX10_init_208 (fun q255 H hT hS => ?_)
  obtain ⟨K, F, hM, hk256, hU9, hT⟩ := hT.cl 27 (fun j => 0) (by decide) (fun hq => absurd hq (by decide)) (fun K1 F1 hM hF => aw_27 _ (fun _ => trivial))
  have hk257 : K q1 = 10 := hM _ _ hk241 (by decide)
  have hk258 : K q3 = 7 := hM _ _ hk242 (by decide)
  have hk259 : K q6 = 2 := hM _ _ hk243 (by decide)
  have hk260 : K q10 = 8 := hM _ _ hk244 (by decide)
  have hk261 : K q15 = 8 := hM _ _ hk245 (by decide)
  have hk262 : K q21 = 8 := hM _ _ hk246 (by decide)
  have hk263 : K q28 = 8 := hM _ _ hk247 (by decide)
  have hk264 : K q36 = 16 := hM _ _ hk248 (by decide)
  have hk265 : K q161 = 6 := hM _ _ hk249 (by decide)
  have hk266 : K q171 = 6 := hM _ _ hk250 (by decide)
  have hk267 : K q182 = 6 := hM _ _ hk251 (by decide)
  have hk268 : K q194 = 3 := hM _ _ hk252 (by decide)
  have hk269 : K q207 = 4 := hM _ _ hk253 (by decide)
  have hk270 : K q221 = 5 := hM _ _ hk254 (by decide)
  have hk271 : K q239 = 26 := hM _ _ hk240 (by decide)
  have hM0 := KM.tr hM0 hM
  have hU := NU.tr hU hU9
  refine tx_putF (C := RX10) (T := TX10) (N := 19) (ci := 11) (ty := (.array .int)) S hK hT hS inX10 tyX10 tyX10_ok nmX10 3 rfl rfl 16 (by decide) kf_X10_99 rfl hnm rfl (by decide +kernel) rfl rfl (Nat.le_of_ble_eq_true rfl) dX10_init_210 (fun H locs hT hS => ?_)
  have hT : TX E K F (0, [0, 0, 0, 0, 0, (-2147483648), (-2147483648), 0, 0, 0, 0, 0, 0, (-1), 0, 0, 0, 0, 0, 0, 0], [(fun _ => 0), (fun _ => 0), (fun _ => 0), (fun _ => 0), (fun _ => 0), (fun _ => 0), (fun _ => 0), (fun _ => 0), (fun _ => 0), (fun _ => 0), (fun _ => 0)]) ((q236, .inr (10, [.ref q237, .int 0, .int 0, .int 0])) :: (q237, .inr (0, [.ref q238, .int 0, .int 0, .int 0])) :: (q238, .inl (E.2.1 2, 16, .inl (fun _ => 0))) :: (a, .inr (11, [.ref q1, .ref q3, .ref q6, .ref q10, .ref q15, .ref q21, .ref q28, .ref q36, .ref q161, .ref q171, .ref q182, .ref q194, .ref q207, .ref q221, .ref q236, .ref q239, .ref q255, .int 0, .int 0])) :: L) H := hT
  have hT := TX.vd q237 (NU.no hU (hN 11 (by decide)) (by decide) (by decide)) hT
  obtain ⟨K, F, hM, hk272, hU9, hT⟩ := hT.cl 11 (fun j => 0) (by decide) (fun hq => absurd hq (by decide)) (fun K1 F1 hM hF => ⟨0, 0, 0, rfl, Or.inl rfl⟩)
  have hk273 : K q1 = 10 := hM _ _ hk257 (by decide)
  have hk274 : K q3 = 7 := hM _ _ hk258 (by decide)
  have hk275 : K q6 = 2 := hM _ _ hk259 (by decide)
  have hk276 : K q10 = 8 := hM _ _ hk260 (by decide)
  have hk277 : K q15 = 8 := hM _ _ hk261 (by decide)
  have hk278 : K q21 = 8 := hM _ _ hk262 (by decide)
  have hk279 : K q28 = 8 := hM _ _ hk263 (by decide)
  have hk280 : K q36 = 16 := hM _ _ hk264 (by decide)
  have hk281 : K q161 = 6 := hM _ _ hk265 (by decide)
  have hk282 : K q171 = 6 := hM _ _ hk266 (by decide)
  have hk283 : K q182 = 6 := hM _ _ hk267 (by decide)
  have hk284 : K q194 = 3 := hM _ _ hk268 (by decide)
  have hk285 : K q207 = 4 := hM _ _ hk269 (by decide)
  have hk286 : K q221 = 5 := hM _ _ hk270 (by decide)
  have hk287 : K q239 = 26 := hM _ _ hk271 (by decide)
  have hk288 : K q255 = 27 := hM _ _ hk256 (by decide)
  have hM0 := KM.tr hM0 hM
  have hU := NU.tr hU hU9
  have hT := hT.rot
  obtain ⟨K, F, hM, hk289, hU9, hT⟩ := hT.cl 12 (fun j => ([q1, q3, q6, q10, q15, q21, q28, q36, q161, q171, q182, q194, q207, q221, q236, q239, q255, 0, 0] : List Nat).getD j 0) (by decide) (fun hq => absurd hq (by decide)) (fun K1 F1 hM hF => ⟨0, 0, by rw [hF 0, hF 1, hF 2, hF 3, hF 4, hF 5, hF 6, hF 7, hF 8, hF 9, hF 10, hF 11, hF 12, hF 13, hF 14, hF 15, hF 16]; rfl, by rw [hF 0]; exact hM _ _ hk273 (by decide), by rw [hF 1]; exact hM _ _ hk274 (by decide), by rw [hF 2]; exact hM _ _ hk275 (by decide), by rw [hF 3]; exact hM _ _ hk276 (by decide), by rw [hF 4]; exact hM _ _ hk277 (by decide), by rw [hF 5]; exact hM _ _ hk278 (by decide), by rw [hF 6]; exact hM _ _ hk279 (by decide), by rw [hF 7]; exact hM _ _ hk280 (by decide), by rw [hF 8]; exact hM _ _ hk281 (by decide), by rw [hF 9]; exact hM _ _ hk282 (by decide), by rw [hF 10]; exact hM _ _ hk283 (by decide), by rw [hF 11]; exact hM _ _ hk284 (by decide), by rw [hF 12]; exact hM _ _ hk285 (by decide), by rw [hF 13]; exact hM _ _ hk286 (by decide), by rw [hF 14]; exact hM _ _ hk272 (by decide), by rw [hF 15]; exact hM _ _ hk287 (by decide), by rw [hF 16]; exact hM _ _ hk288 (by decide)⟩)
  have hM0 := KM.tr hM0 hM
  have hU := NU.tr hU hU9
  exact x_rv hx hb hr hlk hQ (Nat.le_of_ble_eq_true rfl) (Nat.le_of_ble_eq_true rfl) hS dX10_init_213 (q237, q238, K, F) ⟨hM0, hk289, NU.sub hU (by decide)⟩ hT
