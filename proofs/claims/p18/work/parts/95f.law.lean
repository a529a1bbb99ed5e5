set_option maxHeartbeats 40000000 in
set_option maxRecDepth 100000 in
theorem law_case6 (l : Launch) (hst : l.stackTraces = false) {p : Program} {e : Env} {s : State} {m : MethodId} {below : List Frame} {meth : Method} {c : Code} {b L : Nat} {xs : Nat → Int32} {w0 : Cond} (hL : L ≤ 3072) (S : CallFix p m c code 7 s #[Value.ref b] (w0 :: GT) RL) (hr : meth.sig.returnType = ret) (hlk : meth.locks = false) (hXs : va_X b L xs s s.heap) (hbl : b < s.heap.size) (E : XE) (F : Nat → Nat → Nat) (hE : E.2.2.1 = s.heap.size) (hK : XK E s) (hD9 : XD s) (qx qm qo : Nat) (Q : State → Prop) (hQ : lw_Z below #[Value.ref b] s = Q) (hL9 : ((L : Nat) : Int) ≤ 3072) (hbA : ¬ xA E b) (hz : E.2.2.1 ≤ s.heap.size) (n : Nat) (ih : ∀ (x : Int32) (K : Nat → Nat) (G : XG) (cells slots : Nat) (H : Heap) (locs : List Loc) (ls : Array Slot), (0 ≤ x.toInt ∧ x.toInt ≤ 3078) → 3078 - x.toInt < 6 * ((n : Nat) : Int) → K qo = 14 → REL K F G qx qm → cells + 24 * n ≤ 590000 → slots + 2400 * n ≤ 7000000 → TW E K F G H → va_S (xA E) s.heap H locs → lv_has ls 7 [(0, .ref b), (1, .ref qx), (2, .ref qm), (3, .ref qo), (4, .int x)] → W p l e room_1 s m #[Value.ref b] below meth c H locs cells slots Q (F0 m 23 ls [])) (x x1 x3 : Int32) (K : Nat → Nat) (G : XG) (cells slots : Nat) (H : Heap) (locs : List Loc) (ls : Array Slot) (hx9 : 0 ≤ x.toInt ∧ x.toInt ≤ 3078) (hn9 : 3078 - x.toInt < 6 * ((n + 1 : Nat) : Int)) (ko : K qo = 14) (hR : REL K F G qx qm) (hC : cells + 24 * (n + 1) ≤ 590000) (hC2 : slots + 2400 * (n + 1) ≤ 7000000) (t2n : x1.toInt = ((L : Nat) : Int)) (t4 : x3.toInt = x1.toInt - 6 ∨ x1.toInt - 6 < -2147483648 ∨ 2147483648 ≤ x1.toInt - 6) (c5 : ¬ (x3.toInt < x.toInt)) (hT : TW E K F G H) (hS : va_S (xA E) s.heap H locs) (hl : lv_has ls 7 [(0, .ref b), (1, .ref qx), (2, .ref qm), (3, .ref qo), (4, .int x)]) : W p l e room_1 s m #[Value.ref b] below meth c H locs cells slots Q (F0 m 402 ls []) := by
  obtain ⟨hx, hb, -, -, -⟩ := id S
  obtain ⟨⟨kx, km, hal⟩, aT, aB, ⟨ron, rmn, evn⟩, aR, hmk, ⟨aW, sw⟩, ⟨w23, w43, hwo⟩⟩ := id hR
  have nt0 : 0 ≤ ((G.1 qm 36).toInt) ∧ ((G.1 qm 36).toInt) ≤ 80 := by rw [← aT.1]; exact aT.2.1
  obtain ⟨kc_0, jc_0⟩ := fkX10_0 hT kx
  obtain ⟨kc_0_0, jc_0_0⟩ := fkX8_0 hT kc_0
  obtain ⟨kc_1, jc_1⟩ := fkX10_1 hT kx
  obtain ⟨kc_2, jc_2⟩ := fkX10_2 hT kx
  obtain ⟨kc_2_0, jc_2_0⟩ := fkX0_0 hT kc_2
  obtain ⟨kc_2_1, jc_2_1⟩ := fkX0_1 hT kc_2
  obtain ⟨kc_3, jc_3⟩ := fkX10_3 hT kx
  obtain ⟨kc_3_0, jc_3_0⟩ := fkX6_0 hT kc_3
  rw [jc_3] at jc_3_0
  obtain ⟨kc_3_1, jc_3_1⟩ := fkX6_1 hT kc_3
  rw [jc_3] at jc_3_1
  obtain ⟨kc_4, jc_4⟩ := fkX10_4 hT kx
  obtain ⟨kc_4_0, jc_4_0⟩ := fkX6_0 hT kc_4
  rw [jc_4] at jc_4_0
  obtain ⟨kc_4_1, jc_4_1⟩ := fkX6_1 hT kc_4
  rw [jc_4] at jc_4_1
  obtain ⟨kc_5, jc_5⟩ := fkX10_5 hT kx
  obtain ⟨kc_5_0, jc_5_0⟩ := fkX6_0 hT kc_5
  rw [jc_5] at jc_5_0
  obtain ⟨kc_5_1, jc_5_1⟩ := fkX6_1 hT kc_5
  rw [jc_5] at jc_5_1
  obtain ⟨kc_6, jc_6⟩ := fkX10_6 hT kx
  obtain ⟨kc_6_0, jc_6_0⟩ := fkX6_0 hT kc_6
  rw [jc_6] at jc_6_0
  obtain ⟨kc_6_1, jc_6_1⟩ := fkX6_1 hT kc_6
  rw [jc_6] at jc_6_1
  obtain ⟨kc_7, jc_7⟩ := fkX10_7 hT kx
  obtain ⟨kc_8, jc_8⟩ := fkX10_8 hT kx
  obtain ⟨kc_8_0, jc_8_0⟩ := fkX4_0 hT kc_8
  rw [jc_8] at jc_8_0
  obtain ⟨kc_8_1, jc_8_1⟩ := fkX4_1 hT kc_8
  rw [jc_8] at jc_8_1
  obtain ⟨kc_8_2, jc_8_2⟩ := fkX4_2 hT kc_8
  rw [jc_8] at jc_8_2
  obtain ⟨kc_8_3, jc_8_3⟩ := fkX4_3 hT kc_8
  rw [jc_8] at jc_8_3
  obtain ⟨kc_8_4, jc_8_4⟩ := fkX4_4 hT kc_8
  rw [jc_8] at jc_8_4
  obtain ⟨kc_8_5, jc_8_5⟩ := fkX4_5 hT kc_8
  rw [jc_8] at jc_8_5
  obtain ⟨kc_9, jc_9⟩ := fkX10_9 hT kx
  obtain ⟨kc_9_0, jc_9_0⟩ := fkX4_0 hT kc_9
  rw [jc_9] at jc_9_0
  obtain ⟨kc_9_1, jc_9_1⟩ := fkX4_1 hT kc_9
  rw [jc_9] at jc_9_1
  obtain ⟨kc_9_2, jc_9_2⟩ := fkX4_2 hT kc_9
  rw [jc_9] at jc_9_2
  obtain ⟨kc_9_3, jc_9_3⟩ := fkX4_3 hT kc_9
  rw [jc_9] at jc_9_3
  obtain ⟨kc_9_4, jc_9_4⟩ := fkX4_4 hT kc_9
  rw [jc_9] at jc_9_4
  obtain ⟨kc_9_5, jc_9_5⟩ := fkX4_5 hT kc_9
  rw [jc_9] at jc_9_5
  obtain ⟨kc_10, jc_10⟩ := fkX10_10 hT kx
  obtain ⟨kc_10_0, jc_10_0⟩ := fkX4_0 hT kc_10
  rw [jc_10] at jc_10_0
  obtain ⟨kc_10_1, jc_10_1⟩ := fkX4_1 hT kc_10
  rw [jc_10] at jc_10_1
  obtain ⟨kc_10_2, jc_10_2⟩ := fkX4_2 hT kc_10
  rw [jc_10] at jc_10_2
  obtain ⟨kc_10_3, jc_10_3⟩ := fkX4_3 hT kc_10
  rw [jc_10] at jc_10_3
  obtain ⟨kc_10_4, jc_10_4⟩ := fkX4_4 hT kc_10
  rw [jc_10] at jc_10_4
  obtain ⟨kc_10_5, jc_10_5⟩ := fkX4_5 hT kc_10
  rw [jc_10] at jc_10_5
  obtain ⟨kc_11, jc_11⟩ := fkX10_11 hT kx
  obtain ⟨kc_11_0, jc_11_0⟩ := fkX1_0 hT kc_11
  obtain ⟨kc_11_1, jc_11_1⟩ := fkX1_1 hT kc_11
  obtain ⟨kc_11_2, jc_11_2⟩ := fkX1_2 hT kc_11
  obtain ⟨kc_12, jc_12⟩ := fkX10_12 hT kx
  obtain ⟨kc_12_0, jc_12_0⟩ := fkX2_0 hT kc_12
  obtain ⟨kc_12_1, jc_12_1⟩ := fkX2_1 hT kc_12
  obtain ⟨kc_12_2, jc_12_2⟩ := fkX2_2 hT kc_12
  obtain ⟨kc_12_3, jc_12_3⟩ := fkX2_3 hT kc_12
  obtain ⟨kc_13, jc_13⟩ := fkX10_13 hT kx
  obtain ⟨kc_13_0, jc_13_0⟩ := fkX3_0 hT kc_13
  obtain ⟨kc_13_1, jc_13_1⟩ := fkX3_1 hT kc_13
  obtain ⟨kc_13_2, jc_13_2⟩ := fkX3_2 hT kc_13
  obtain ⟨kc_14, jc_14⟩ := fkX10_14 hT kx
  obtain ⟨kc_15, jc_15⟩ := fkX10_15 hT kx
  obtain ⟨kc_16, jc_16⟩ := fkX10_16 hT kx
  obtain ⟨km_1, jm_1⟩ := fkX11_1 hT km
  obtain ⟨km_2, jm_2⟩ := fkX11_2 hT km
  obtain ⟨km_3, jm_3⟩ := fkX11_3 hT km
  obtain ⟨km_4, jm_4⟩ := fkX11_4 hT km
  obtain ⟨km_5, jm_5⟩ := fkX11_5 hT km
  obtain ⟨km_8, jm_8⟩ := fkX11_8 hT km
  obtain ⟨km_9, jm_9⟩ := fkX11_9 hT km
  obtain ⟨km_10, jm_10⟩ := fkX11_10 hT km
  obtain ⟨km_11, jm_11⟩ := fkX11_11 hT km
  obtain ⟨km_12, jm_12⟩ := fkX11_12 hT km
  obtain ⟨km_13, jm_13⟩ := fkX11_13 hT km
  obtain ⟨km_14, jm_14⟩ := fkX11_14 hT km
  obtain ⟨km_15, jm_15⟩ := fkX11_15 hT km
  obtain ⟨km_17, jm_17⟩ := fkX11_17 hT km
  obtain ⟨km_18, jm_18⟩ := fkX11_18 hT km
  obtain ⟨km_22, jm_22⟩ := fkX11_22 hT km
  obtain ⟨km_24, jm_24⟩ := fkX11_24 hT km
  obtain ⟨km_25, jm_25⟩ := fkX11_25 hT km
  obtain ⟨km_26, jm_26⟩ := fkX11_26 hT km
  obtain ⟨km_27, jm_27⟩ := fkX11_27 hT km
  obtain ⟨km_28, jm_28⟩ := fkX11_28 hT km
  obtain ⟨km_29, jm_29⟩ := fkX11_29 hT km
  obtain ⟨km_30, jm_30⟩ := fkX11_30 hT km
  obtain ⟨km_31, jm_31⟩ := fkX11_31 hT km
  obtain ⟨km_32, jm_32⟩ := fkX11_32 hT km
  obtain ⟨km_33, jm_33⟩ := fkX11_33 hT km
  obtain ⟨km_34, jm_34⟩ := fkX11_34 hT km
  obtain ⟨km_35, jm_35⟩ := fkX11_35 hT km
  obtain ⟨km_40, jm_40⟩ := fkX11_40 hT km
  obtain ⟨km_41, jm_41⟩ := fkX11_41 hT km
  obtain ⟨km_42, jm_42⟩ := fkX11_42 hT km
  obtain ⟨km_47, jm_47⟩ := fkX11_47 hT km
  obtain ⟨km_48, jm_48⟩ := fkX11_48 hT km
  obtain ⟨km_49, jm_49⟩ := fkX11_49 hT km
  obtain ⟨km_50, jm_50⟩ := fkX11_50 hT km
  obtain ⟨km_51, jm_51⟩ := fkX11_51 hT km
  have hkw : ∀ i : Nat, i < 10 → 46 ≤ K (F qm (25 + i)) ∧ K (F qm (25 + i)) ≤ 50 := fun i hi => by match i, hi with | 0, _ => exact (show 46 ≤ K (F qm 25) ∧ K (F qm 25) ≤ 50 by rw [km_25]; decide) | 1, _ => exact (show 46 ≤ K (F qm 26) ∧ K (F qm 26) ≤ 50 by rw [km_26]; decide) | 2, _ => exact (show 46 ≤ K (F qm 27) ∧ K (F qm 27) ≤ 50 by rw [km_27]; decide) | 3, _ => exact (show 46 ≤ K (F qm 28) ∧ K (F qm 28) ≤ 50 by rw [km_28]; decide) | 4, _ => exact (show 46 ≤ K (F qm 29) ∧ K (F qm 29) ≤ 50 by rw [km_29]; decide) | 5, _ => exact (show 46 ≤ K (F qm 30) ∧ K (F qm 30) ≤ 50 by rw [km_30]; decide) | 6, _ => exact (show 46 ≤ K (F qm 31) ∧ K (F qm 31) ≤ 50 by rw [km_31]; decide) | 7, _ => exact (show 46 ≤ K (F qm 32) ∧ K (F qm 32) ≤ 50 by rw [km_32]; decide) | 8, _ => exact (show 46 ≤ K (F qm 33) ∧ K (F qm 33) ≤ 50 by rw [km_33]; decide) | 9, _ => exact (show 46 ≤ K (F qm 34) ∧ K (F qm 34) ≤ 50 by rw [km_34]; decide) | i + 10, hi => exact absurd hi (by omega)
  refine W.widen (k := cells + 0) (n := slots + 0) (Nat.le_refl _) (Nat.le_refl _) ?_
  refine lv_aload_n hx hb dL_law_402 rfl (lv_at hl 1 rfl) ?_
  refine lv_aload_n hx hb dL_law_403 rfl (lv_at hl 0 rfl) ?_
  refine lv_iload hx hb dL_law_404 (lv_at hl 4 rfl) ?_
  refine lv_iconst (v := 1) hx hb dL_law_406 (by decide) ?_
  refine xi_iadd hx hb (rfl : Int32.toInt x = x.toInt) ((by decide) : Int32.toInt 1 = (1 : Int)) dL_law_407 (fun y1 t2 => ?_)
  have i3 := law_ix hx9 hL9 t2n t4 c5 (k := 1) (by decide) t2
  refine va_sld hx hb hXs hbl hbA hS (vp_in_iff.mpr i3.2) dL_law_408 (lv_topi (fun v4 hv9 => ?_))
  have w5 : v4.toInt = aI xs (x.toInt + 1) := by rw [hv9]; exact congrArg (aI xs) i3.1
  clear hv9
  refine lv_aload_n hx hb dL_law_409 rfl (lv_at hl 0 rfl) ?_
  refine lv_iload hx hb dL_law_410 (lv_at hl 4 rfl) ?_
  refine lv_iconst (v := 2) hx hb dL_law_412 (by decide) ?_
  refine xi_iadd hx hb (rfl : Int32.toInt x = x.toInt) ((by decide) : Int32.toInt 2 = (2 : Int)) dL_law_413 (fun y6 t7 => ?_)
  have i8 := law_ix hx9 hL9 t2n t4 c5 (k := 2) (by decide) t7
  refine va_sld hx hb hXs hbl hbA hS (vp_in_iff.mpr i8.2) dL_law_414 (lv_topi (fun v9 hv9 => ?_))
  have w10 : v9.toInt = aI xs (x.toInt + 2) := by rw [hv9]; exact congrArg (aI xs) i8.1
  clear hv9
  refine lv_aload_n hx hb dL_law_415 rfl (lv_at hl 0 rfl) ?_
  refine lv_iload hx hb dL_law_416 (lv_at hl 4 rfl) ?_
  refine lv_iconst (v := 3) hx hb dL_law_418 (by decide) ?_
  refine xi_iadd hx hb (rfl : Int32.toInt x = x.toInt) ((by decide) : Int32.toInt 3 = (3 : Int)) dL_law_419 (fun y11 t12 => ?_)
  have i13 := law_ix hx9 hL9 t2n t4 c5 (k := 3) (by decide) t12
  refine va_sld hx hb hXs hbl hbA hS (vp_in_iff.mpr i13.2) dL_law_420 (lv_topi (fun v14 hv9 => ?_))
  have w15 : v14.toInt = aI xs (x.toInt + 3) := by rw [hv9]; exact congrArg (aI xs) i13.1
  clear hv9
  refine lv_aload_n hx hb dL_law_421 rfl (lv_at hl 0 rfl) ?_
  refine lv_iload hx hb dL_law_422 (lv_at hl 4 rfl) ?_
  refine lv_iconst (v := 4) hx hb dL_law_424 (by decide) ?_
  refine xi_iadd hx hb (rfl : Int32.toInt x = x.toInt) ((by decide) : Int32.toInt 4 = (4 : Int)) dL_law_425 (fun y16 t17 => ?_)
  have i18 := law_ix hx9 hL9 t2n t4 c5 (k := 4) (by decide) t17
  refine va_sld hx hb hXs hbl hbA hS (vp_in_iff.mpr i18.2) dL_law_426 (lv_topi (fun v19 hv9 => ?_))
  have w20 : v19.toInt = aI xs (x.toInt + 4) := by rw [hv9]; exact congrArg (aI xs) i18.1
  clear hv9
  refine x_cl (x_runV (b := qx) (As := [.int v4, .int v9, .int v14, .int v19]) (rest := []) S (c_X10_set l E K F G qx v4 v9 v14 v19 kx aB.sb sw ron aR.1.1 aB.2.2.1.r aB.2.1.r) mv_X10_set km_L_52 rfl rfl ⟨(Nat.le_of_ble_eq_true rfl), (Nat.le_of_ble_eq_true rfl)⟩ (rc_12 hK hT kx) hK (fun _ => XP.blind) (fun U hU hW => XP.at hK hz hS hT hU hW) rfl hl.1 (Nat.le_of_ble_eq_true rfl) dL_law_427 ⟨show cells + 0 + 15 ≤ 601024 from law_fc hC (by decide), show slots + 0 + 1500 ≤ 7293034 from law_fs hC2 (by decide)⟩) hS ?_
  rintro _ G1 H locs ⟨r1, rfl, hF1, sw1, t1, ro1⟩ hT hS
  have e1_cTn : G1.1 (F qx 0) 1 = G.1 (F qx 0) 1 := hF1.1 _ _ (xnj (by decide) (xnj (by decide) (xna (xne_k kc_0 kc_14 (by decide)) (xnj (by decide) (xnj (by decide) (xnj (by decide) (xnj (by decide) xn0)))))))
  have e1_cTr : G1.2.1 (F (F qx 0) 0) = G.2.1 (F (F qx 0) 0) := hF1.2.1 _ (xn1 (xne_k kc_0_0 kc_11_0 (by decide)) (xn1 (xne_k kc_0_0 kc_11_1 (by decide)) (xn1 (xne_k kc_0_0 kc_11_2 (by decide)) (xn1 (xne_k kc_0_0 kc_9_0 (by decide)) (xn1 (xne_k kc_0_0 kc_9_1 (by decide)) (xn1 (xne_k kc_0_0 kc_9_2 (by decide)) (xn1 (xne_k kc_0_0 kc_9_3 (by decide)) (xn1 (xne_k kc_0_0 kc_9_4 (by decide)) (xn1 (xne_k kc_0_0 kc_9_5 (by decide)) (xn1 (xne_k kc_0_0 kc_16 (by decide)) (xn1 (xne_k kc_0_0 kc_15 (by decide)) (xn1 (xne_k kc_0_0 kc_10_0 (by decide)) (xn1 (xne_k kc_0_0 kc_10_1 (by decide)) (xn1 (xne_k kc_0_0 kc_10_2 (by decide)) (xn1 (xne_k kc_0_0 kc_10_3 (by decide)) (xn1 (xne_k kc_0_0 kc_10_4 (by decide)) (xn1 (xne_k kc_0_0 kc_10_5 (by decide)) (xn1 (xne_k kc_0_0 kc_3_0 (by decide)) (xn1 (xne_k kc_0_0 kc_3_1 (by decide)) (xn1 (xne_k kc_0_0 kc_8_0 (by decide)) (xn1 (xne_k kc_0_0 kc_8_1 (by decide)) (xn1 (xne_k kc_0_0 kc_8_2 (by decide)) (xn1 (xne_k kc_0_0 kc_8_3 (by decide)) (xn1 (xne_k kc_0_0 kc_8_4 (by decide)) (xn1 (xne_k kc_0_0 kc_8_5 (by decide)) (xn1 (xne_k kc_0_0 kc_5_0 (by decide)) (xn1 (xne_k kc_0_0 kc_5_1 (by decide)) xn0)))))))))))))))))))))))))))
  have e1_cBs : G1.1 (F qx 2) 2 = G.1 (F qx 2) 2 := hF1.1 _ _ (xnj (by decide) (xnj (by decide) (xnj (by decide) (xna (xne_k kc_2 kc_14 (by decide)) (xnj (by decide) (xnj (by decide) (xnj (by decide) xn0)))))))
  have e1_cB0 : G1.2.2.1 (F (F qx 2) 0) = G.2.2.1 (F (F qx 2) 0) := hF1.2.2 _ xn0
  have e1_cB1 : G1.2.2.1 (F (F qx 2) 1) = G.2.2.1 (F (F qx 2) 1) := hF1.2.2 _ xn0
  have e1_cG0 : G1.2.1 (F (F qx 4) 0) = G.2.1 (F (F qx 4) 0) := hF1.2.1 _ (xn1 (xne_k kc_4_0 kc_11_0 (by decide)) (xn1 (xne_k kc_4_0 kc_11_1 (by decide)) (xn1 (xne_k kc_4_0 kc_11_2 (by decide)) (xn1 (xne_k kc_4_0 kc_9_0 (by decide)) (xn1 (xne_k kc_4_0 kc_9_1 (by decide)) (xn1 (xne_k kc_4_0 kc_9_2 (by decide)) (xn1 (xne_k kc_4_0 kc_9_3 (by decide)) (xn1 (xne_k kc_4_0 kc_9_4 (by decide)) (xn1 (xne_k kc_4_0 kc_9_5 (by decide)) (xn1 (xne_k kc_4_0 kc_16 (by decide)) (xn1 (xne_k kc_4_0 kc_15 (by decide)) (xn1 (xne_k kc_4_0 kc_10_0 (by decide)) (xn1 (xne_k kc_4_0 kc_10_1 (by decide)) (xn1 (xne_k kc_4_0 kc_10_2 (by decide)) (xn1 (xne_k kc_4_0 kc_10_3 (by decide)) (xn1 (xne_k kc_4_0 kc_10_4 (by decide)) (xn1 (xne_k kc_4_0 kc_10_5 (by decide)) (xn1 (xne_j jc_4_0 jc_3_0 (by first | decide | omega)) (xn1 (xne_k kc_4_0 kc_3_1 (by decide)) (xn1 (xne_k kc_4_0 kc_8_0 (by decide)) (xn1 (xne_k kc_4_0 kc_8_1 (by decide)) (xn1 (xne_k kc_4_0 kc_8_2 (by decide)) (xn1 (xne_k kc_4_0 kc_8_3 (by decide)) (xn1 (xne_k kc_4_0 kc_8_4 (by decide)) (xn1 (xne_k kc_4_0 kc_8_5 (by decide)) (xn1 (xne_j jc_4_0 jc_5_0 (by first | decide | omega)) (xn1 (xne_k kc_4_0 kc_5_1 (by decide)) xn0)))))))))))))))))))))))))))
  have e1_cG1 : G1.2.1 (F (F qx 4) 1) = G.2.1 (F (F qx 4) 1) := hF1.2.1 _ (xn1 (xne_j jc_4_1 jc_11_0 (by first | decide | omega)) (xn1 (xne_j jc_4_1 jc_11_1 (by first | decide | omega)) (xn1 (xne_k kc_4_1 kc_11_2 (by decide)) (xn1 (xne_k kc_4_1 kc_9_0 (by decide)) (xn1 (xne_k kc_4_1 kc_9_1 (by decide)) (xn1 (xne_k kc_4_1 kc_9_2 (by decide)) (xn1 (xne_k kc_4_1 kc_9_3 (by decide)) (xn1 (xne_k kc_4_1 kc_9_4 (by decide)) (xn1 (xne_k kc_4_1 kc_9_5 (by decide)) (xn1 (xne_k kc_4_1 kc_16 (by decide)) (xn1 (xne_k kc_4_1 kc_15 (by decide)) (xn1 (xne_k kc_4_1 kc_10_0 (by decide)) (xn1 (xne_k kc_4_1 kc_10_1 (by decide)) (xn1 (xne_k kc_4_1 kc_10_2 (by decide)) (xn1 (xne_k kc_4_1 kc_10_3 (by decide)) (xn1 (xne_k kc_4_1 kc_10_4 (by decide)) (xn1 (xne_k kc_4_1 kc_10_5 (by decide)) (xn1 (xne_k kc_4_1 kc_3_0 (by decide)) (xn1 (xne_j jc_4_1 jc_3_1 (by first | decide | omega)) (xn1 (xne_k kc_4_1 kc_8_0 (by decide)) (xn1 (xne_k kc_4_1 kc_8_1 (by decide)) (xn1 (xne_k kc_4_1 kc_8_2 (by decide)) (xn1 (xne_k kc_4_1 kc_8_3 (by decide)) (xn1 (xne_k kc_4_1 kc_8_4 (by decide)) (xn1 (xne_k kc_4_1 kc_8_5 (by decide)) (xn1 (xne_k kc_4_1 kc_5_0 (by decide)) (xn1 (xne_j jc_4_1 jc_5_1 (by first | decide | omega)) xn0)))))))))))))))))))))))))))
  have e1_cZ0 : G1.2.1 (F (F qx 6) 0) = G.2.1 (F (F qx 6) 0) := hF1.2.1 _ (xn1 (xne_k kc_6_0 kc_11_0 (by decide)) (xn1 (xne_k kc_6_0 kc_11_1 (by decide)) (xn1 (xne_k kc_6_0 kc_11_2 (by decide)) (xn1 (xne_k kc_6_0 kc_9_0 (by decide)) (xn1 (xne_k kc_6_0 kc_9_1 (by decide)) (xn1 (xne_k kc_6_0 kc_9_2 (by decide)) (xn1 (xne_k kc_6_0 kc_9_3 (by decide)) (xn1 (xne_k kc_6_0 kc_9_4 (by decide)) (xn1 (xne_k kc_6_0 kc_9_5 (by decide)) (xn1 (xne_k kc_6_0 kc_16 (by decide)) (xn1 (xne_k kc_6_0 kc_15 (by decide)) (xn1 (xne_k kc_6_0 kc_10_0 (by decide)) (xn1 (xne_k kc_6_0 kc_10_1 (by decide)) (xn1 (xne_k kc_6_0 kc_10_2 (by decide)) (xn1 (xne_k kc_6_0 kc_10_3 (by decide)) (xn1 (xne_k kc_6_0 kc_10_4 (by decide)) (xn1 (xne_k kc_6_0 kc_10_5 (by decide)) (xn1 (xne_j jc_6_0 jc_3_0 (by first | decide | omega)) (xn1 (xne_k kc_6_0 kc_3_1 (by decide)) (xn1 (xne_k kc_6_0 kc_8_0 (by decide)) (xn1 (xne_k kc_6_0 kc_8_1 (by decide)) (xn1 (xne_k kc_6_0 kc_8_2 (by decide)) (xn1 (xne_k kc_6_0 kc_8_3 (by decide)) (xn1 (xne_k kc_6_0 kc_8_4 (by decide)) (xn1 (xne_k kc_6_0 kc_8_5 (by decide)) (xn1 (xne_j jc_6_0 jc_5_0 (by first | decide | omega)) (xn1 (xne_k kc_6_0 kc_5_1 (by decide)) xn0)))))))))))))))))))))))))))
  have e1_cZ1 : G1.2.1 (F (F qx 6) 1) = G.2.1 (F (F qx 6) 1) := hF1.2.1 _ (xn1 (xne_j jc_6_1 jc_11_0 (by first | decide | omega)) (xn1 (xne_j jc_6_1 jc_11_1 (by first | decide | omega)) (xn1 (xne_k kc_6_1 kc_11_2 (by decide)) (xn1 (xne_k kc_6_1 kc_9_0 (by decide)) (xn1 (xne_k kc_6_1 kc_9_1 (by decide)) (xn1 (xne_k kc_6_1 kc_9_2 (by decide)) (xn1 (xne_k kc_6_1 kc_9_3 (by decide)) (xn1 (xne_k kc_6_1 kc_9_4 (by decide)) (xn1 (xne_k kc_6_1 kc_9_5 (by decide)) (xn1 (xne_k kc_6_1 kc_16 (by decide)) (xn1 (xne_k kc_6_1 kc_15 (by decide)) (xn1 (xne_k kc_6_1 kc_10_0 (by decide)) (xn1 (xne_k kc_6_1 kc_10_1 (by decide)) (xn1 (xne_k kc_6_1 kc_10_2 (by decide)) (xn1 (xne_k kc_6_1 kc_10_3 (by decide)) (xn1 (xne_k kc_6_1 kc_10_4 (by decide)) (xn1 (xne_k kc_6_1 kc_10_5 (by decide)) (xn1 (xne_k kc_6_1 kc_3_0 (by decide)) (xn1 (xne_j jc_6_1 jc_3_1 (by first | decide | omega)) (xn1 (xne_k kc_6_1 kc_8_0 (by decide)) (xn1 (xne_k kc_6_1 kc_8_1 (by decide)) (xn1 (xne_k kc_6_1 kc_8_2 (by decide)) (xn1 (xne_k kc_6_1 kc_8_3 (by decide)) (xn1 (xne_k kc_6_1 kc_8_4 (by decide)) (xn1 (xne_k kc_6_1 kc_8_5 (by decide)) (xn1 (xne_k kc_6_1 kc_5_0 (by decide)) (xn1 (xne_j jc_6_1 jc_5_1 (by first | decide | omega)) xn0)))))))))))))))))))))))))))
  have e1_cO : G1.1 qx 18 = G.1 qx 18 := hF1.1 _ _ (xnj (by decide) (xnj (by decide) (xnj (by decide) (xnj (by decide) (xnj (by decide) (xnj (by decide) (xnj (by decide) xn0)))))))
  have e1_cC : G1.1 qx 17 = G.1 qx 17 := hF1.1 _ _ (xnj (by decide) (xnj (by decide) (xnj (by decide) (xnj (by decide) (xnj (by decide) (xnj (by decide) (xnj (by decide) xn0)))))))
  have e1_cM : G1.2.2.1 (F qx 7) = G.2.2.1 (F qx 7) := hF1.2.2 _ xn0
  have e1_mTn : G1.1 qm 36 = G.1 qm 36 := hF1.1 _ _ (xnj (by decide) (xnj (by decide) (xnj (by decide) (xnj (by decide) (xnj (by decide) (xnj (by decide) (xnj (by decide) xn0)))))))
  have e1_mTr : G1.2.1 (F qm 35) = G.2.1 (F qm 35) := hF1.2.1 _ (xn1 (xne_k km_35 kc_11_0 (by decide)) (xn1 (xne_k km_35 kc_11_1 (by decide)) (xn1 (xne_k km_35 kc_11_2 (by decide)) (xn1 (xne_k km_35 kc_9_0 (by decide)) (xn1 (xne_k km_35 kc_9_1 (by decide)) (xn1 (xne_k km_35 kc_9_2 (by decide)) (xn1 (xne_k km_35 kc_9_3 (by decide)) (xn1 (xne_k km_35 kc_9_4 (by decide)) (xn1 (xne_k km_35 kc_9_5 (by decide)) (xn1 (xne_k km_35 kc_16 (by decide)) (xn1 (xne_k km_35 kc_15 (by decide)) (xn1 (xne_k km_35 kc_10_0 (by decide)) (xn1 (xne_k km_35 kc_10_1 (by decide)) (xn1 (xne_k km_35 kc_10_2 (by decide)) (xn1 (xne_k km_35 kc_10_3 (by decide)) (xn1 (xne_k km_35 kc_10_4 (by decide)) (xn1 (xne_k km_35 kc_10_5 (by decide)) (xn1 (xne_k km_35 kc_3_0 (by decide)) (xn1 (xne_k km_35 kc_3_1 (by decide)) (xn1 (xne_k km_35 kc_8_0 (by decide)) (xn1 (xne_k km_35 kc_8_1 (by decide)) (xn1 (xne_k km_35 kc_8_2 (by decide)) (xn1 (xne_k km_35 kc_8_3 (by decide)) (xn1 (xne_k km_35 kc_8_4 (by decide)) (xn1 (xne_k km_35 kc_8_5 (by decide)) (xn1 (xne_k km_35 kc_5_0 (by decide)) (xn1 (xne_k km_35 kc_5_1 (by decide)) xn0)))))))))))))))))))))))))))
  have e1_mR : G1.2.1 (F qm 10) = G.2.1 (F qm 10) := hF1.2.1 _ (xn1 (xne_k km_10 kc_11_0 (by decide)) (xn1 (xne_k km_10 kc_11_1 (by decide)) (xn1 (xne_k km_10 kc_11_2 (by decide)) (xn1 (xne_k km_10 kc_9_0 (by decide)) (xn1 (xne_k km_10 kc_9_1 (by decide)) (xn1 (xne_k km_10 kc_9_2 (by decide)) (xn1 (xne_k km_10 kc_9_3 (by decide)) (xn1 (xne_k km_10 kc_9_4 (by decide)) (xn1 (xne_k km_10 kc_9_5 (by decide)) (xn1 (xne_k km_10 kc_16 (by decide)) (xn1 (xne_k km_10 kc_15 (by decide)) (xn1 (xne_k km_10 kc_10_0 (by decide)) (xn1 (xne_k km_10 kc_10_1 (by decide)) (xn1 (xne_k km_10 kc_10_2 (by decide)) (xn1 (xne_k km_10 kc_10_3 (by decide)) (xn1 (xne_k km_10 kc_10_4 (by decide)) (xn1 (xne_k km_10 kc_10_5 (by decide)) (xn1 (xne_k km_10 kc_3_0 (by decide)) (xn1 (xne_k km_10 kc_3_1 (by decide)) (xn1 (xne_k km_10 kc_8_0 (by decide)) (xn1 (xne_k km_10 kc_8_1 (by decide)) (xn1 (xne_k km_10 kc_8_2 (by decide)) (xn1 (xne_k km_10 kc_8_3 (by decide)) (xn1 (xne_k km_10 kc_8_4 (by decide)) (xn1 (xne_k km_10 kc_8_5 (by decide)) (xn1 (xne_k km_10 kc_5_0 (by decide)) (xn1 (xne_k km_10 kc_5_1 (by decide)) xn0)))))))))))))))))))))))))))
  have e1_mN : G1.2.1 (F qm 1) = G.2.1 (F qm 1) := hF1.2.1 _ (xn1 (xne_k km_1 kc_11_0 (by decide)) (xn1 (xne_k km_1 kc_11_1 (by decide)) (xn1 (xne_k km_1 kc_11_2 (by decide)) (xn1 (xne_k km_1 kc_9_0 (by decide)) (xn1 (xne_k km_1 kc_9_1 (by decide)) (xn1 (xne_k km_1 kc_9_2 (by decide)) (xn1 (xne_k km_1 kc_9_3 (by decide)) (xn1 (xne_k km_1 kc_9_4 (by decide)) (xn1 (xne_k km_1 kc_9_5 (by decide)) (xn1 (xne_k km_1 kc_16 (by decide)) (xn1 (xne_k km_1 kc_15 (by decide)) (xn1 (xne_k km_1 kc_10_0 (by decide)) (xn1 (xne_k km_1 kc_10_1 (by decide)) (xn1 (xne_k km_1 kc_10_2 (by decide)) (xn1 (xne_k km_1 kc_10_3 (by decide)) (xn1 (xne_k km_1 kc_10_4 (by decide)) (xn1 (xne_k km_1 kc_10_5 (by decide)) (xn1 (xne_k km_1 kc_3_0 (by decide)) (xn1 (xne_k km_1 kc_3_1 (by decide)) (xn1 (xne_k km_1 kc_8_0 (by decide)) (xn1 (xne_k km_1 kc_8_1 (by decide)) (xn1 (xne_k km_1 kc_8_2 (by decide)) (xn1 (xne_k km_1 kc_8_3 (by decide)) (xn1 (xne_k km_1 kc_8_4 (by decide)) (xn1 (xne_k km_1 kc_8_5 (by decide)) (xn1 (xne_k km_1 kc_5_0 (by decide)) (xn1 (xne_k km_1 kc_5_1 (by decide)) xn0)))))))))))))))))))))))))))
  have e1_mG : G1.2.1 (F qm 2) = G.2.1 (F qm 2) := hF1.2.1 _ (xn1 (xne_k km_2 kc_11_0 (by decide)) (xn1 (xne_k km_2 kc_11_1 (by decide)) (xn1 (xne_k km_2 kc_11_2 (by decide)) (xn1 (xne_k km_2 kc_9_0 (by decide)) (xn1 (xne_k km_2 kc_9_1 (by decide)) (xn1 (xne_k km_2 kc_9_2 (by decide)) (xn1 (xne_k km_2 kc_9_3 (by decide)) (xn1 (xne_k km_2 kc_9_4 (by decide)) (xn1 (xne_k km_2 kc_9_5 (by decide)) (xn1 (xne_k km_2 kc_16 (by decide)) (xn1 (xne_k km_2 kc_15 (by decide)) (xn1 (xne_k km_2 kc_10_0 (by decide)) (xn1 (xne_k km_2 kc_10_1 (by decide)) (xn1 (xne_k km_2 kc_10_2 (by decide)) (xn1 (xne_k km_2 kc_10_3 (by decide)) (xn1 (xne_k km_2 kc_10_4 (by decide)) (xn1 (xne_k km_2 kc_10_5 (by decide)) (xn1 (xne_k km_2 kc_3_0 (by decide)) (xn1 (xne_k km_2 kc_3_1 (by decide)) (xn1 (xne_k km_2 kc_8_0 (by decide)) (xn1 (xne_k km_2 kc_8_1 (by decide)) (xn1 (xne_k km_2 kc_8_2 (by decide)) (xn1 (xne_k km_2 kc_8_3 (by decide)) (xn1 (xne_k km_2 kc_8_4 (by decide)) (xn1 (xne_k km_2 kc_8_5 (by decide)) (xn1 (xne_k km_2 kc_5_0 (by decide)) (xn1 (xne_k km_2 kc_5_1 (by decide)) xn0)))))))))))))))))))))))))))
  have e1_mM : G1.2.1 (F qm 3) = G.2.1 (F qm 3) := hF1.2.1 _ (xn1 (xne_k km_3 kc_11_0 (by decide)) (xn1 (xne_k km_3 kc_11_1 (by decide)) (xn1 (xne_k km_3 kc_11_2 (by decide)) (xn1 (xne_k km_3 kc_9_0 (by decide)) (xn1 (xne_k km_3 kc_9_1 (by decide)) (xn1 (xne_k km_3 kc_9_2 (by decide)) (xn1 (xne_k km_3 kc_9_3 (by decide)) (xn1 (xne_k km_3 kc_9_4 (by decide)) (xn1 (xne_k km_3 kc_9_5 (by decide)) (xn1 (xne_k km_3 kc_16 (by decide)) (xn1 (xne_k km_3 kc_15 (by decide)) (xn1 (xne_k km_3 kc_10_0 (by decide)) (xn1 (xne_k km_3 kc_10_1 (by decide)) (xn1 (xne_k km_3 kc_10_2 (by decide)) (xn1 (xne_k km_3 kc_10_3 (by decide)) (xn1 (xne_k km_3 kc_10_4 (by decide)) (xn1 (xne_k km_3 kc_10_5 (by decide)) (xn1 (xne_k km_3 kc_3_0 (by decide)) (xn1 (xne_k km_3 kc_3_1 (by decide)) (xn1 (xne_k km_3 kc_8_0 (by decide)) (xn1 (xne_k km_3 kc_8_1 (by decide)) (xn1 (xne_k km_3 kc_8_2 (by decide)) (xn1 (xne_k km_3 kc_8_3 (by decide)) (xn1 (xne_k km_3 kc_8_4 (by decide)) (xn1 (xne_k km_3 kc_8_5 (by decide)) (xn1 (xne_k km_3 kc_5_0 (by decide)) (xn1 (xne_k km_3 kc_5_1 (by decide)) xn0)))))))))))))))))))))))))))
  have e1_mO : G1.1 qm 6 = G.1 qm 6 := hF1.1 _ _ (xnj (by decide) (xna (xne_k km kc_9 (by decide)) (xnj (by decide) (xnj (by decide) (xnj (by decide) (xna (xne_k km kc_10 (by decide)) (xna (xne_k km kc_8 (by decide)) xn0)))))))
  have e1_mC : G1.1 qm 7 = G.1 qm 7 := hF1.1 _ _ (xnj (by decide) (xnj (by decide) (xnj (by decide) (xnj (by decide) (xnj (by decide) (xnj (by decide) (xnj (by decide) xn0)))))))
  have e1_m23 : G1.1 qm 23 = G.1 qm 23 := hF1.1 _ _ (xnj (by decide) (xnj (by decide) (xnj (by decide) (xnj (by decide) (xnj (by decide) (xnj (by decide) (xnj (by decide) xn0)))))))
  have e1_m43 : G1.1 qm 43 = G.1 qm 43 := hF1.1 _ _ (xnj (by decide) (xnj (by decide) (xnj (by decide) (xnj (by decide) (xnj (by decide) (xnj (by decide) (xnj (by decide) xn0)))))))
  have e1_mk := marks_fr hmk hF1 (List.forall_mem_cons.mpr ⟨(fun _ => show F (F (F qx 11) 0) 99 < 4 ∨ 12 ≤ F (F (F qx 11) 0) 99 by rw [jc_11_0]; decide), List.forall_mem_cons.mpr ⟨(fun _ => show F (F (F qx 11) 1) 99 < 4 ∨ 12 ≤ F (F (F qx 11) 1) 99 by rw [jc_11_1]; decide), List.forall_mem_cons.mpr ⟨(fun h => absurd h (show ¬ (K (F (F qx 11) 2) = 20 ∨ K (F (F qx 11) 2) = 21) by rw [kc_11_2]; decide)), List.forall_mem_cons.mpr ⟨(fun h => absurd h (show ¬ (K (F (F qx 9) 0) = 20 ∨ K (F (F qx 9) 0) = 21) by rw [kc_9_0]; decide)), List.forall_mem_cons.mpr ⟨(fun h => absurd h (show ¬ (K (F (F qx 9) 1) = 20 ∨ K (F (F qx 9) 1) = 21) by rw [kc_9_1]; decide)), List.forall_mem_cons.mpr ⟨(fun h => absurd h (show ¬ (K (F (F qx 9) 2) = 20 ∨ K (F (F qx 9) 2) = 21) by rw [kc_9_2]; decide)), List.forall_mem_cons.mpr ⟨(fun h => absurd h (show ¬ (K (F (F qx 9) 3) = 20 ∨ K (F (F qx 9) 3) = 21) by rw [kc_9_3]; decide)), List.forall_mem_cons.mpr ⟨(fun h => absurd h (show ¬ (K (F (F qx 9) 4) = 20 ∨ K (F (F qx 9) 4) = 21) by rw [kc_9_4]; decide)), List.forall_mem_cons.mpr ⟨(fun h => absurd h (show ¬ (K (F (F qx 9) 5) = 20 ∨ K (F (F qx 9) 5) = 21) by rw [kc_9_5]; decide)), List.forall_mem_cons.mpr ⟨(fun h => absurd h (show ¬ (K (F qx 16) = 20 ∨ K (F qx 16) = 21) by rw [kc_16]; decide)), List.forall_mem_cons.mpr ⟨(fun h => absurd h (show ¬ (K (F qx 15) = 20 ∨ K (F qx 15) = 21) by rw [kc_15]; decide)), List.forall_mem_cons.mpr ⟨(fun h => absurd h (show ¬ (K (F (F qx 10) 0) = 20 ∨ K (F (F qx 10) 0) = 21) by rw [kc_10_0]; decide)), List.forall_mem_cons.mpr ⟨(fun h => absurd h (show ¬ (K (F (F qx 10) 1) = 20 ∨ K (F (F qx 10) 1) = 21) by rw [kc_10_1]; decide)), List.forall_mem_cons.mpr ⟨(fun h => absurd h (show ¬ (K (F (F qx 10) 2) = 20 ∨ K (F (F qx 10) 2) = 21) by rw [kc_10_2]; decide)), List.forall_mem_cons.mpr ⟨(fun h => absurd h (show ¬ (K (F (F qx 10) 3) = 20 ∨ K (F (F qx 10) 3) = 21) by rw [kc_10_3]; decide)), List.forall_mem_cons.mpr ⟨(fun h => absurd h (show ¬ (K (F (F qx 10) 4) = 20 ∨ K (F (F qx 10) 4) = 21) by rw [kc_10_4]; decide)), List.forall_mem_cons.mpr ⟨(fun h => absurd h (show ¬ (K (F (F qx 10) 5) = 20 ∨ K (F (F qx 10) 5) = 21) by rw [kc_10_5]; decide)), List.forall_mem_cons.mpr ⟨(fun _ => show F (F (F qx 3) 0) 99 < 4 ∨ 12 ≤ F (F (F qx 3) 0) 99 by rw [jc_3_0]; decide), List.forall_mem_cons.mpr ⟨(fun _ => show F (F (F qx 3) 1) 99 < 4 ∨ 12 ≤ F (F (F qx 3) 1) 99 by rw [jc_3_1]; decide), List.forall_mem_cons.mpr ⟨(fun h => absurd h (show ¬ (K (F (F qx 8) 0) = 20 ∨ K (F (F qx 8) 0) = 21) by rw [kc_8_0]; decide)), List.forall_mem_cons.mpr ⟨(fun h => absurd h (show ¬ (K (F (F qx 8) 1) = 20 ∨ K (F (F qx 8) 1) = 21) by rw [kc_8_1]; decide)), List.forall_mem_cons.mpr ⟨(fun h => absurd h (show ¬ (K (F (F qx 8) 2) = 20 ∨ K (F (F qx 8) 2) = 21) by rw [kc_8_2]; decide)), List.forall_mem_cons.mpr ⟨(fun h => absurd h (show ¬ (K (F (F qx 8) 3) = 20 ∨ K (F (F qx 8) 3) = 21) by rw [kc_8_3]; decide)), List.forall_mem_cons.mpr ⟨(fun h => absurd h (show ¬ (K (F (F qx 8) 4) = 20 ∨ K (F (F qx 8) 4) = 21) by rw [kc_8_4]; decide)), List.forall_mem_cons.mpr ⟨(fun h => absurd h (show ¬ (K (F (F qx 8) 5) = 20 ∨ K (F (F qx 8) 5) = 21) by rw [kc_8_5]; decide)), List.forall_mem_cons.mpr ⟨(fun _ => show F (F (F qx 5) 0) 99 < 4 ∨ 12 ≤ F (F (F qx 5) 0) 99 by rw [jc_5_0]; decide), List.forall_mem_cons.mpr ⟨(fun _ => show F (F (F qx 5) 1) 99 < 4 ∨ 12 ≤ F (F (F qx 5) 1) 99 by rw [jc_5_1]; decide), fun _ h => absurd h List.not_mem_nil⟩⟩⟩⟩⟩⟩⟩⟩⟩⟩⟩⟩⟩⟩⟩⟩⟩⟩⟩⟩⟩⟩⟩⟩⟩⟩⟩)
  have e1_ru := rules_fr (K := K) hF1 (List.forall_mem_cons.mpr ⟨(show K (F qx 11) ≠ 9 by rw [kc_11]; decide), List.forall_mem_cons.mpr ⟨(show K (F qx 9) ≠ 9 by rw [kc_9]; decide), List.forall_mem_cons.mpr ⟨(show K (F qx 14) ≠ 9 by rw [kc_14]; decide), List.forall_mem_cons.mpr ⟨(show K (F qx 14) ≠ 9 by rw [kc_14]; decide), List.forall_mem_cons.mpr ⟨(show K (F qx 14) ≠ 9 by rw [kc_14]; decide), List.forall_mem_cons.mpr ⟨(show K (F qx 10) ≠ 9 by rw [kc_10]; decide), List.forall_mem_cons.mpr ⟨(show K (F qx 8) ≠ 9 by rw [kc_8]; decide), fun _ h => absurd h List.not_mem_nil⟩⟩⟩⟩⟩⟩⟩)
  have e1_wd := words_fr hkw hF1 (List.forall_mem_cons.mpr ⟨(show ¬ (46 ≤ K (F (F qx 11) 0) ∧ K (F (F qx 11) 0) ≤ 50) by rw [kc_11_0]; decide), List.forall_mem_cons.mpr ⟨(show ¬ (46 ≤ K (F (F qx 11) 1) ∧ K (F (F qx 11) 1) ≤ 50) by rw [kc_11_1]; decide), List.forall_mem_cons.mpr ⟨(show ¬ (46 ≤ K (F (F qx 11) 2) ∧ K (F (F qx 11) 2) ≤ 50) by rw [kc_11_2]; decide), List.forall_mem_cons.mpr ⟨(show ¬ (46 ≤ K (F (F qx 9) 0) ∧ K (F (F qx 9) 0) ≤ 50) by rw [kc_9_0]; decide), List.forall_mem_cons.mpr ⟨(show ¬ (46 ≤ K (F (F qx 9) 1) ∧ K (F (F qx 9) 1) ≤ 50) by rw [kc_9_1]; decide), List.forall_mem_cons.mpr ⟨(show ¬ (46 ≤ K (F (F qx 9) 2) ∧ K (F (F qx 9) 2) ≤ 50) by rw [kc_9_2]; decide), List.forall_mem_cons.mpr ⟨(show ¬ (46 ≤ K (F (F qx 9) 3) ∧ K (F (F qx 9) 3) ≤ 50) by rw [kc_9_3]; decide), List.forall_mem_cons.mpr ⟨(show ¬ (46 ≤ K (F (F qx 9) 4) ∧ K (F (F qx 9) 4) ≤ 50) by rw [kc_9_4]; decide), List.forall_mem_cons.mpr ⟨(show ¬ (46 ≤ K (F (F qx 9) 5) ∧ K (F (F qx 9) 5) ≤ 50) by rw [kc_9_5]; decide), List.forall_mem_cons.mpr ⟨(show ¬ (46 ≤ K (F qx 16) ∧ K (F qx 16) ≤ 50) by rw [kc_16]; decide), List.forall_mem_cons.mpr ⟨(show ¬ (46 ≤ K (F qx 15) ∧ K (F qx 15) ≤ 50) by rw [kc_15]; decide), List.forall_mem_cons.mpr ⟨(show ¬ (46 ≤ K (F (F qx 10) 0) ∧ K (F (F qx 10) 0) ≤ 50) by rw [kc_10_0]; decide), List.forall_mem_cons.mpr ⟨(show ¬ (46 ≤ K (F (F qx 10) 1) ∧ K (F (F qx 10) 1) ≤ 50) by rw [kc_10_1]; decide), List.forall_mem_cons.mpr ⟨(show ¬ (46 ≤ K (F (F qx 10) 2) ∧ K (F (F qx 10) 2) ≤ 50) by rw [kc_10_2]; decide), List.forall_mem_cons.mpr ⟨(show ¬ (46 ≤ K (F (F qx 10) 3) ∧ K (F (F qx 10) 3) ≤ 50) by rw [kc_10_3]; decide), List.forall_mem_cons.mpr ⟨(show ¬ (46 ≤ K (F (F qx 10) 4) ∧ K (F (F qx 10) 4) ≤ 50) by rw [kc_10_4]; decide), List.forall_mem_cons.mpr ⟨(show ¬ (46 ≤ K (F (F qx 10) 5) ∧ K (F (F qx 10) 5) ≤ 50) by rw [kc_10_5]; decide), List.forall_mem_cons.mpr ⟨(show ¬ (46 ≤ K (F (F qx 3) 0) ∧ K (F (F qx 3) 0) ≤ 50) by rw [kc_3_0]; decide), List.forall_mem_cons.mpr ⟨(show ¬ (46 ≤ K (F (F qx 3) 1) ∧ K (F (F qx 3) 1) ≤ 50) by rw [kc_3_1]; decide), List.forall_mem_cons.mpr ⟨(show ¬ (46 ≤ K (F (F qx 8) 0) ∧ K (F (F qx 8) 0) ≤ 50) by rw [kc_8_0]; decide), List.forall_mem_cons.mpr ⟨(show ¬ (46 ≤ K (F (F qx 8) 1) ∧ K (F (F qx 8) 1) ≤ 50) by rw [kc_8_1]; decide), List.forall_mem_cons.mpr ⟨(show ¬ (46 ≤ K (F (F qx 8) 2) ∧ K (F (F qx 8) 2) ≤ 50) by rw [kc_8_2]; decide), List.forall_mem_cons.mpr ⟨(show ¬ (46 ≤ K (F (F qx 8) 3) ∧ K (F (F qx 8) 3) ≤ 50) by rw [kc_8_3]; decide), List.forall_mem_cons.mpr ⟨(show ¬ (46 ≤ K (F (F qx 8) 4) ∧ K (F (F qx 8) 4) ≤ 50) by rw [kc_8_4]; decide), List.forall_mem_cons.mpr ⟨(show ¬ (46 ≤ K (F (F qx 8) 5) ∧ K (F (F qx 8) 5) ≤ 50) by rw [kc_8_5]; decide), List.forall_mem_cons.mpr ⟨(show ¬ (46 ≤ K (F (F qx 5) 0) ∧ K (F (F qx 5) 0) ≤ 50) by rw [kc_5_0]; decide), List.forall_mem_cons.mpr ⟨(show ¬ (46 ≤ K (F (F qx 5) 1) ∧ K (F (F qx 5) 1) ≤ 50) by rw [kc_5_1]; decide), fun _ h => absurd h List.not_mem_nil⟩⟩⟩⟩⟩⟩⟩⟩⟩⟩⟩⟩⟩⟩⟩⟩⟩⟩⟩⟩⟩⟩⟩⟩⟩⟩⟩)
  refine lv_pop hx hb dL_law_430 rfl ?_
  refine lv_aload_n hx hb dL_law_431 rfl (lv_at hl 2 rfl) ?_
  refine lv_aload_n hx hb dL_law_432 rfl (lv_at hl 0 rfl) ?_
  refine lv_iload hx hb dL_law_433 (lv_at hl 4 rfl) ?_
  refine lv_iconst (v := 1) hx hb dL_law_435 (by decide) ?_
  refine xi_iadd hx hb (rfl : Int32.toInt x = x.toInt) ((by decide) : Int32.toInt 1 = (1 : Int)) dL_law_436 (fun y21 t22 => ?_)
  have i23 := law_ix hx9 hL9 t2n t4 c5 (k := 1) (by decide) t22
  refine va_sld hx hb hXs hbl hbA hS (vp_in_iff.mpr i23.2) dL_law_437 (lv_topi (fun v24 hv9 => ?_))
  have w25 : v24.toInt = aI xs (x.toInt + 1) := by rw [hv9]; exact congrArg (aI xs) i23.1
  clear hv9
  have e9 : v4 = v24 := Int32.toInt_inj.mp (w5.trans w25.symm)
  subst e9
  refine lv_aload_n hx hb dL_law_438 rfl (lv_at hl 0 rfl) ?_
  refine lv_iload hx hb dL_law_439 (lv_at hl 4 rfl) ?_
  refine lv_iconst (v := 2) hx hb dL_law_441 (by decide) ?_
  refine xi_iadd hx hb (rfl : Int32.toInt x = x.toInt) ((by decide) : Int32.toInt 2 = (2 : Int)) dL_law_442 (fun y26 t27 => ?_)
  have i28 := law_ix hx9 hL9 t2n t4 c5 (k := 2) (by decide) t27
  refine va_sld hx hb hXs hbl hbA hS (vp_in_iff.mpr i28.2) dL_law_443 (lv_topi (fun v29 hv9 => ?_))
  have w30 : v29.toInt = aI xs (x.toInt + 2) := by rw [hv9]; exact congrArg (aI xs) i28.1
  clear hv9
  have e9 : v9 = v29 := Int32.toInt_inj.mp (w10.trans w30.symm)
  subst e9
  refine lv_aload_n hx hb dL_law_444 rfl (lv_at hl 0 rfl) ?_
  refine lv_iload hx hb dL_law_445 (lv_at hl 4 rfl) ?_
  refine lv_iconst (v := 3) hx hb dL_law_447 (by decide) ?_
  refine xi_iadd hx hb (rfl : Int32.toInt x = x.toInt) ((by decide) : Int32.toInt 3 = (3 : Int)) dL_law_448 (fun y31 t32 => ?_)
  have i33 := law_ix hx9 hL9 t2n t4 c5 (k := 3) (by decide) t32
  refine va_sld hx hb hXs hbl hbA hS (vp_in_iff.mpr i33.2) dL_law_449 (lv_topi (fun v34 hv9 => ?_))
  have w35 : v34.toInt = aI xs (x.toInt + 3) := by rw [hv9]; exact congrArg (aI xs) i33.1
  clear hv9
  have e9 : v14 = v34 := Int32.toInt_inj.mp (w15.trans w35.symm)
  subst e9
  refine lv_aload_n hx hb dL_law_450 rfl (lv_at hl 0 rfl) ?_
  refine lv_iload hx hb dL_law_451 (lv_at hl 4 rfl) ?_
  refine lv_iconst (v := 4) hx hb dL_law_453 (by decide) ?_
  refine xi_iadd hx hb (rfl : Int32.toInt x = x.toInt) ((by decide) : Int32.toInt 4 = (4 : Int)) dL_law_454 (fun y36 t37 => ?_)
  have i38 := law_ix hx9 hL9 t2n t4 c5 (k := 4) (by decide) t37
  refine va_sld hx hb hXs hbl hbA hS (vp_in_iff.mpr i38.2) dL_law_455 (lv_topi (fun v39 hv9 => ?_))
  have w40 : v39.toInt = aI xs (x.toInt + 4) := by rw [hv9]; exact congrArg (aI xs) i38.1
  clear hv9
  have e9 : v19 = v39 := Int32.toInt_inj.mp (w20.trans w40.symm)
  subst e9
  refine x_cl0 (x_runV (b := qm) (As := [.int v4, .int v9, .int v14, .int v19]) (rest := []) S (c_X11_set l E K F G1 qm v4 v9 v14 v19 km (by rw [e1_m43]; exact w43) (by rw [e1_mR]; exact aB.2.2.2.2.1) (by rw [e1_mN]; exact rmn) (by rw [e1_mG]; exact aR.1.2.1)) mv_X11_set km_L_56 rfl rfl ⟨(Nat.le_of_ble_eq_true rfl), (Nat.le_of_ble_eq_true rfl)⟩ (rc_13 hK hT km) hK (fun _ => XP.blind) (fun U hU hW => XP.at hK hz hS hT hU hW) rfl hl.1 (Nat.le_of_ble_eq_true rfl) dL_law_456 ⟨show cells + 15 + 0 ≤ 601024 from law_fc hC (by decide), show slots + 1500 + 0 ≤ 7293034 from law_fs hC2 (by decide)⟩) hS ?_
  rintro _ G2 H locs ⟨r2, rfl, hF2, w2, t2, rm2⟩ hT hS
  have e2_cTn : G2.1 (F qx 0) 1 = G1.1 (F qx 0) 1 := hF2.1 _ _ (xnj (by decide) (xnj (by decide) (xnj (by decide) (xnj (by decide) (xnj (by decide) (xnj (by decide) (xnj (by decide) (xnj (by decide) (xnj (by decide) (xnj (by decide) xn0))))))))))
  have e2_cTr : G2.2.1 (F (F qx 0) 0) = G1.2.1 (F (F qx 0) 0) := hF2.2.1 _ (xn1 (xne_k kc_0_0 km_15 (by decide)) (xn1 (xne_k kc_0_0 km_17 (by decide)) (xn1 (xne_k kc_0_0 km_18 (by decide)) (xn1 (xne_k kc_0_0 km_1 (by decide)) (xn1 (xne_k kc_0_0 km_8 (by decide)) (xn1 (xne_k kc_0_0 km_22 (by decide)) (xn1 (xne_k kc_0_0 km_11 (by decide)) (xn1 (xne_k kc_0_0 km_13 (by decide)) (xn1 (xne_k kc_0_0 km_9 (by decide)) (xn1 (xne_k kc_0_0 km_41 (by decide)) (xn1 (xne_k kc_0_0 km_42 (by decide)) (xn1 (xne_k kc_0_0 km_4 (by decide)) (xn1 (xne_k kc_0_0 km_12 (by decide)) xn0)))))))))))))
  have e2_cBs : G2.1 (F qx 2) 2 = G1.1 (F qx 2) 2 := hF2.1 _ _ (xnj (by decide) (xnj (by decide) (xnj (by decide) (xnj (by decide) (xnj (by decide) (xnj (by decide) (xnj (by decide) (xnj (by decide) (xnj (by decide) (xnj (by decide) xn0))))))))))
  have e2_cB0 : G2.2.2.1 (F (F qx 2) 0) = G1.2.2.1 (F (F qx 2) 0) := hF2.2.2 _ xn0
  have e2_cB1 : G2.2.2.1 (F (F qx 2) 1) = G1.2.2.1 (F (F qx 2) 1) := hF2.2.2 _ xn0
  have e2_cN0 : G2.2.1 (F (F qx 3) 0) = G1.2.1 (F (F qx 3) 0) := hF2.2.1 _ (xn1 (xne_k kc_3_0 km_15 (by decide)) (xn1 (xne_k kc_3_0 km_17 (by decide)) (xn1 (xne_k kc_3_0 km_18 (by decide)) (xn1 (xne_k kc_3_0 km_1 (by decide)) (xn1 (xne_k kc_3_0 km_8 (by decide)) (xn1 (xne_k kc_3_0 km_22 (by decide)) (xn1 (xne_k kc_3_0 km_11 (by decide)) (xn1 (xne_k kc_3_0 km_13 (by decide)) (xn1 (xne_k kc_3_0 km_9 (by decide)) (xn1 (xne_k kc_3_0 km_41 (by decide)) (xn1 (xne_k kc_3_0 km_42 (by decide)) (xn1 (xne_k kc_3_0 km_4 (by decide)) (xn1 (xne_k kc_3_0 km_12 (by decide)) xn0)))))))))))))
  have e2_cN1 : G2.2.1 (F (F qx 3) 1) = G1.2.1 (F (F qx 3) 1) := hF2.2.1 _ (xn1 (xne_k kc_3_1 km_15 (by decide)) (xn1 (xne_k kc_3_1 km_17 (by decide)) (xn1 (xne_k kc_3_1 km_18 (by decide)) (xn1 (xne_k kc_3_1 km_1 (by decide)) (xn1 (xne_k kc_3_1 km_8 (by decide)) (xn1 (xne_k kc_3_1 km_22 (by decide)) (xn1 (xne_k kc_3_1 km_11 (by decide)) (xn1 (xne_k kc_3_1 km_13 (by decide)) (xn1 (xne_k kc_3_1 km_9 (by decide)) (xn1 (xne_k kc_3_1 km_41 (by decide)) (xn1 (xne_k kc_3_1 km_42 (by decide)) (xn1 (xne_k kc_3_1 km_4 (by decide)) (xn1 (xne_k kc_3_1 km_12 (by decide)) xn0)))))))))))))
  have e2_cG0 : G2.2.1 (F (F qx 4) 0) = G1.2.1 (F (F qx 4) 0) := hF2.2.1 _ (xn1 (xne_k kc_4_0 km_15 (by decide)) (xn1 (xne_k kc_4_0 km_17 (by decide)) (xn1 (xne_k kc_4_0 km_18 (by decide)) (xn1 (xne_k kc_4_0 km_1 (by decide)) (xn1 (xne_k kc_4_0 km_8 (by decide)) (xn1 (xne_k kc_4_0 km_22 (by decide)) (xn1 (xne_k kc_4_0 km_11 (by decide)) (xn1 (xne_k kc_4_0 km_13 (by decide)) (xn1 (xne_k kc_4_0 km_9 (by decide)) (xn1 (xne_k kc_4_0 km_41 (by decide)) (xn1 (xne_k kc_4_0 km_42 (by decide)) (xn1 (xne_k kc_4_0 km_4 (by decide)) (xn1 (xne_k kc_4_0 km_12 (by decide)) xn0)))))))))))))
  have e2_cG1 : G2.2.1 (F (F qx 4) 1) = G1.2.1 (F (F qx 4) 1) := hF2.2.1 _ (xn1 (xne_k kc_4_1 km_15 (by decide)) (xn1 (xne_k kc_4_1 km_17 (by decide)) (xn1 (xne_k kc_4_1 km_18 (by decide)) (xn1 (xne_k kc_4_1 km_1 (by decide)) (xn1 (xne_k kc_4_1 km_8 (by decide)) (xn1 (xne_k kc_4_1 km_22 (by decide)) (xn1 (xne_k kc_4_1 km_11 (by decide)) (xn1 (xne_k kc_4_1 km_13 (by decide)) (xn1 (xne_k kc_4_1 km_9 (by decide)) (xn1 (xne_k kc_4_1 km_41 (by decide)) (xn1 (xne_k kc_4_1 km_42 (by decide)) (xn1 (xne_k kc_4_1 km_4 (by decide)) (xn1 (xne_k kc_4_1 km_12 (by decide)) xn0)))))))))))))
  have e2_cZ0 : G2.2.1 (F (F qx 6) 0) = G1.2.1 (F (F qx 6) 0) := hF2.2.1 _ (xn1 (xne_k kc_6_0 km_15 (by decide)) (xn1 (xne_k kc_6_0 km_17 (by decide)) (xn1 (xne_k kc_6_0 km_18 (by decide)) (xn1 (xne_k kc_6_0 km_1 (by decide)) (xn1 (xne_k kc_6_0 km_8 (by decide)) (xn1 (xne_k kc_6_0 km_22 (by decide)) (xn1 (xne_k kc_6_0 km_11 (by decide)) (xn1 (xne_k kc_6_0 km_13 (by decide)) (xn1 (xne_k kc_6_0 km_9 (by decide)) (xn1 (xne_k kc_6_0 km_41 (by decide)) (xn1 (xne_k kc_6_0 km_42 (by decide)) (xn1 (xne_k kc_6_0 km_4 (by decide)) (xn1 (xne_k kc_6_0 km_12 (by decide)) xn0)))))))))))))
  have e2_cZ1 : G2.2.1 (F (F qx 6) 1) = G1.2.1 (F (F qx 6) 1) := hF2.2.1 _ (xn1 (xne_k kc_6_1 km_15 (by decide)) (xn1 (xne_k kc_6_1 km_17 (by decide)) (xn1 (xne_k kc_6_1 km_18 (by decide)) (xn1 (xne_k kc_6_1 km_1 (by decide)) (xn1 (xne_k kc_6_1 km_8 (by decide)) (xn1 (xne_k kc_6_1 km_22 (by decide)) (xn1 (xne_k kc_6_1 km_11 (by decide)) (xn1 (xne_k kc_6_1 km_13 (by decide)) (xn1 (xne_k kc_6_1 km_9 (by decide)) (xn1 (xne_k kc_6_1 km_41 (by decide)) (xn1 (xne_k kc_6_1 km_42 (by decide)) (xn1 (xne_k kc_6_1 km_4 (by decide)) (xn1 (xne_k kc_6_1 km_12 (by decide)) xn0)))))))))))))
  have e2_cO : G2.1 qx 18 = G1.1 qx 18 := hF2.1 _ _ (xnj (by decide) (xnj (by decide) (xnj (by decide) (xnj (by decide) (xnj (by decide) (xnj (by decide) (xnj (by decide) (xnj (by decide) (xnj (by decide) (xnj (by decide) xn0))))))))))
  have e2_cC : G2.1 qx 17 = G1.1 qx 17 := hF2.1 _ _ (xnj (by decide) (xnj (by decide) (xnj (by decide) (xnj (by decide) (xnj (by decide) (xnj (by decide) (xnj (by decide) (xnj (by decide) (xnj (by decide) (xnj (by decide) xn0))))))))))
  have e2_cM : G2.2.2.1 (F qx 7) = G1.2.2.1 (F qx 7) := hF2.2.2 _ xn0
  have e2_cWs : G2.1 (F qx 8) 6 = G1.1 (F qx 8) 6 := hF2.1 _ _ (xnj (by decide) (xnj (by decide) (xnj (by decide) (xnj (by decide) (xnj (by decide) (xnj (by decide) (xnj (by decide) (xnj (by decide) (xnj (by decide) (xnj (by decide) xn0))))))))))
  have e2_cW0 : G2.2.1 (F (F qx 8) 0) = G1.2.1 (F (F qx 8) 0) := hF2.2.1 _ (xn1 (xne_k kc_8_0 km_15 (by decide)) (xn1 (xne_k kc_8_0 km_17 (by decide)) (xn1 (xne_k kc_8_0 km_18 (by decide)) (xn1 (xne_k kc_8_0 km_1 (by decide)) (xn1 (xne_k kc_8_0 km_8 (by decide)) (xn1 (xne_k kc_8_0 km_22 (by decide)) (xn1 (xne_k kc_8_0 km_11 (by decide)) (xn1 (xne_k kc_8_0 km_13 (by decide)) (xn1 (xne_k kc_8_0 km_9 (by decide)) (xn1 (xne_k kc_8_0 km_41 (by decide)) (xn1 (xne_k kc_8_0 km_42 (by decide)) (xn1 (xne_k kc_8_0 km_4 (by decide)) (xn1 (xne_k kc_8_0 km_12 (by decide)) xn0)))))))))))))
  have e2_cW1 : G2.2.1 (F (F qx 8) 1) = G1.2.1 (F (F qx 8) 1) := hF2.2.1 _ (xn1 (xne_k kc_8_1 km_15 (by decide)) (xn1 (xne_k kc_8_1 km_17 (by decide)) (xn1 (xne_k kc_8_1 km_18 (by decide)) (xn1 (xne_k kc_8_1 km_1 (by decide)) (xn1 (xne_k kc_8_1 km_8 (by decide)) (xn1 (xne_k kc_8_1 km_22 (by decide)) (xn1 (xne_k kc_8_1 km_11 (by decide)) (xn1 (xne_k kc_8_1 km_13 (by decide)) (xn1 (xne_k kc_8_1 km_9 (by decide)) (xn1 (xne_k kc_8_1 km_41 (by decide)) (xn1 (xne_k kc_8_1 km_42 (by decide)) (xn1 (xne_k kc_8_1 km_4 (by decide)) (xn1 (xne_k kc_8_1 km_12 (by decide)) xn0)))))))))))))
  have e2_cW2 : G2.2.1 (F (F qx 8) 2) = G1.2.1 (F (F qx 8) 2) := hF2.2.1 _ (xn1 (xne_k kc_8_2 km_15 (by decide)) (xn1 (xne_k kc_8_2 km_17 (by decide)) (xn1 (xne_k kc_8_2 km_18 (by decide)) (xn1 (xne_k kc_8_2 km_1 (by decide)) (xn1 (xne_k kc_8_2 km_8 (by decide)) (xn1 (xne_k kc_8_2 km_22 (by decide)) (xn1 (xne_k kc_8_2 km_11 (by decide)) (xn1 (xne_k kc_8_2 km_13 (by decide)) (xn1 (xne_k kc_8_2 km_9 (by decide)) (xn1 (xne_k kc_8_2 km_41 (by decide)) (xn1 (xne_k kc_8_2 km_42 (by decide)) (xn1 (xne_k kc_8_2 km_4 (by decide)) (xn1 (xne_k kc_8_2 km_12 (by decide)) xn0)))))))))))))
  have e2_cW3 : G2.2.1 (F (F qx 8) 3) = G1.2.1 (F (F qx 8) 3) := hF2.2.1 _ (xn1 (xne_k kc_8_3 km_15 (by decide)) (xn1 (xne_k kc_8_3 km_17 (by decide)) (xn1 (xne_k kc_8_3 km_18 (by decide)) (xn1 (xne_k kc_8_3 km_1 (by decide)) (xn1 (xne_k kc_8_3 km_8 (by decide)) (xn1 (xne_k kc_8_3 km_22 (by decide)) (xn1 (xne_k kc_8_3 km_11 (by decide)) (xn1 (xne_k kc_8_3 km_13 (by decide)) (xn1 (xne_k kc_8_3 km_9 (by decide)) (xn1 (xne_k kc_8_3 km_41 (by decide)) (xn1 (xne_k kc_8_3 km_42 (by decide)) (xn1 (xne_k kc_8_3 km_4 (by decide)) (xn1 (xne_k kc_8_3 km_12 (by decide)) xn0)))))))))))))
  have e2_cW4 : G2.2.1 (F (F qx 8) 4) = G1.2.1 (F (F qx 8) 4) := hF2.2.1 _ (xn1 (xne_k kc_8_4 km_15 (by decide)) (xn1 (xne_k kc_8_4 km_17 (by decide)) (xn1 (xne_k kc_8_4 km_18 (by decide)) (xn1 (xne_k kc_8_4 km_1 (by decide)) (xn1 (xne_k kc_8_4 km_8 (by decide)) (xn1 (xne_k kc_8_4 km_22 (by decide)) (xn1 (xne_k kc_8_4 km_11 (by decide)) (xn1 (xne_k kc_8_4 km_13 (by decide)) (xn1 (xne_k kc_8_4 km_9 (by decide)) (xn1 (xne_k kc_8_4 km_41 (by decide)) (xn1 (xne_k kc_8_4 km_42 (by decide)) (xn1 (xne_k kc_8_4 km_4 (by decide)) (xn1 (xne_k kc_8_4 km_12 (by decide)) xn0)))))))))))))
  have e2_cW5 : G2.2.1 (F (F qx 8) 5) = G1.2.1 (F (F qx 8) 5) := hF2.2.1 _ (xn1 (xne_k kc_8_5 km_15 (by decide)) (xn1 (xne_k kc_8_5 km_17 (by decide)) (xn1 (xne_k kc_8_5 km_18 (by decide)) (xn1 (xne_k kc_8_5 km_1 (by decide)) (xn1 (xne_k kc_8_5 km_8 (by decide)) (xn1 (xne_k kc_8_5 km_22 (by decide)) (xn1 (xne_k kc_8_5 km_11 (by decide)) (xn1 (xne_k kc_8_5 km_13 (by decide)) (xn1 (xne_k kc_8_5 km_9 (by decide)) (xn1 (xne_k kc_8_5 km_41 (by decide)) (xn1 (xne_k kc_8_5 km_42 (by decide)) (xn1 (xne_k kc_8_5 km_4 (by decide)) (xn1 (xne_k kc_8_5 km_12 (by decide)) xn0)))))))))))))
  have e2_mTn : G2.1 qm 36 = G1.1 qm 36 := hF2.1 _ _ (xnj (by decide) (xnj (by decide) (xnj (by decide) (xnj (by decide) (xnj (by decide) (xnj (by decide) (xnj (by decide) (xnj (by decide) (xnj (by decide) (xnj (by decide) xn0))))))))))
  have e2_mTr : G2.2.1 (F qm 35) = G1.2.1 (F qm 35) := hF2.2.1 _ (xn1 (xne_k km_35 km_15 (by decide)) (xn1 (xne_k km_35 km_17 (by decide)) (xn1 (xne_k km_35 km_18 (by decide)) (xn1 (xne_k km_35 km_1 (by decide)) (xn1 (xne_k km_35 km_8 (by decide)) (xn1 (xne_k km_35 km_22 (by decide)) (xn1 (xne_k km_35 km_11 (by decide)) (xn1 (xne_k km_35 km_13 (by decide)) (xn1 (xne_k km_35 km_9 (by decide)) (xn1 (xne_k km_35 km_41 (by decide)) (xn1 (xne_k km_35 km_42 (by decide)) (xn1 (xne_k km_35 km_4 (by decide)) (xn1 (xne_k km_35 km_12 (by decide)) xn0)))))))))))))
  have e2_mR : G2.2.1 (F qm 10) = G1.2.1 (F qm 10) := hF2.2.1 _ (xn1 (xne_k km_10 km_15 (by decide)) (xn1 (xne_k km_10 km_17 (by decide)) (xn1 (xne_k km_10 km_18 (by decide)) (xn1 (xne_k km_10 km_1 (by decide)) (xn1 (xne_k km_10 km_8 (by decide)) (xn1 (xne_k km_10 km_22 (by decide)) (xn1 (xne_k km_10 km_11 (by decide)) (xn1 (xne_k km_10 km_13 (by decide)) (xn1 (xne_k km_10 km_9 (by decide)) (xn1 (xne_k km_10 km_41 (by decide)) (xn1 (xne_k km_10 km_42 (by decide)) (xn1 (xne_k km_10 km_4 (by decide)) (xn1 (xne_k km_10 km_12 (by decide)) xn0)))))))))))))
  have e2_mG : G2.2.1 (F qm 2) = G1.2.1 (F qm 2) := hF2.2.1 _ (xn1 (xne_k km_2 km_15 (by decide)) (xn1 (xne_k km_2 km_17 (by decide)) (xn1 (xne_k km_2 km_18 (by decide)) (xn1 (xne_k km_2 km_1 (by decide)) (xn1 (xne_k km_2 km_8 (by decide)) (xn1 (xne_k km_2 km_22 (by decide)) (xn1 (xne_k km_2 km_11 (by decide)) (xn1 (xne_k km_2 km_13 (by decide)) (xn1 (xne_k km_2 km_9 (by decide)) (xn1 (xne_k km_2 km_41 (by decide)) (xn1 (xne_k km_2 km_42 (by decide)) (xn1 (xne_j jm_2 jm_4 (by first | decide | omega)) (xn1 (xne_k km_2 km_12 (by decide)) xn0)))))))))))))
  have e2_mM : G2.2.1 (F qm 3) = G1.2.1 (F qm 3) := hF2.2.1 _ (xn1 (xne_k km_3 km_15 (by decide)) (xn1 (xne_k km_3 km_17 (by decide)) (xn1 (xne_k km_3 km_18 (by decide)) (xn1 (xne_k km_3 km_1 (by decide)) (xn1 (xne_k km_3 km_8 (by decide)) (xn1 (xne_k km_3 km_22 (by decide)) (xn1 (xne_k km_3 km_11 (by decide)) (xn1 (xne_k km_3 km_13 (by decide)) (xn1 (xne_k km_3 km_9 (by decide)) (xn1 (xne_k km_3 km_41 (by decide)) (xn1 (xne_k km_3 km_42 (by decide)) (xn1 (xne_k km_3 km_4 (by decide)) (xn1 (xne_k km_3 km_12 (by decide)) xn0)))))))))))))
  have e2_mO : G2.1 qm 6 = G1.1 qm 6 := hF2.1 _ _ (xnj (by decide) (xnj (by decide) (xnj (by decide) (xnj (by decide) (xnj (by decide) (xnj (by decide) (xnj (by decide) (xnj (by decide) (xnj (by decide) (xnj (by decide) xn0))))))))))
  have e2_mC : G2.1 qm 7 = G1.1 qm 7 := hF2.1 _ _ (xnj (by decide) (xnj (by decide) (xnj (by decide) (xnj (by decide) (xnj (by decide) (xnj (by decide) (xnj (by decide) (xnj (by decide) (xnj (by decide) (xnj (by decide) xn0))))))))))
  have e2_mk := marks_fr hmk hF2 (List.forall_mem_cons.mpr ⟨(fun h => absurd h (show ¬ (K (F qm 15) = 20 ∨ K (F qm 15) = 21) by rw [km_15]; decide)), List.forall_mem_cons.mpr ⟨(fun h => absurd h (show ¬ (K (F qm 17) = 20 ∨ K (F qm 17) = 21) by rw [km_17]; decide)), List.forall_mem_cons.mpr ⟨(fun h => absurd h (show ¬ (K (F qm 18) = 20 ∨ K (F qm 18) = 21) by rw [km_18]; decide)), List.forall_mem_cons.mpr ⟨(fun h => absurd h (show ¬ (K (F qm 1) = 20 ∨ K (F qm 1) = 21) by rw [km_1]; decide)), List.forall_mem_cons.mpr ⟨(fun h => absurd h (show ¬ (K (F qm 8) = 20 ∨ K (F qm 8) = 21) by rw [km_8]; decide)), List.forall_mem_cons.mpr ⟨(fun h => absurd h (show ¬ (K (F qm 22) = 20 ∨ K (F qm 22) = 21) by rw [km_22]; decide)), List.forall_mem_cons.mpr ⟨(fun h => absurd h (show ¬ (K (F qm 11) = 20 ∨ K (F qm 11) = 21) by rw [km_11]; decide)), List.forall_mem_cons.mpr ⟨(fun h => absurd h (show ¬ (K (F qm 13) = 20 ∨ K (F qm 13) = 21) by rw [km_13]; decide)), List.forall_mem_cons.mpr ⟨(fun h => absurd h (show ¬ (K (F qm 9) = 20 ∨ K (F qm 9) = 21) by rw [km_9]; decide)), List.forall_mem_cons.mpr ⟨(fun h => absurd h (show ¬ (K (F qm 41) = 20 ∨ K (F qm 41) = 21) by rw [km_41]; decide)), List.forall_mem_cons.mpr ⟨(fun h => absurd h (show ¬ (K (F qm 42) = 20 ∨ K (F qm 42) = 21) by rw [km_42]; decide)), List.forall_mem_cons.mpr ⟨(fun h => absurd h (show ¬ (K (F qm 4) = 20 ∨ K (F qm 4) = 21) by rw [km_4]; decide)), List.forall_mem_cons.mpr ⟨(fun h => absurd h (show ¬ (K (F qm 12) = 20 ∨ K (F qm 12) = 21) by rw [km_12]; decide)), fun _ h => absurd h List.not_mem_nil⟩⟩⟩⟩⟩⟩⟩⟩⟩⟩⟩⟩⟩)
  have e2_ru := rules_fr (K := K) hF2 (List.forall_mem_cons.mpr ⟨(show K qm ≠ 9 by rw [km]; decide), List.forall_mem_cons.mpr ⟨(show K qm ≠ 9 by rw [km]; decide), List.forall_mem_cons.mpr ⟨(show K qm ≠ 9 by rw [km]; decide), List.forall_mem_cons.mpr ⟨(show K qm ≠ 9 by rw [km]; decide), List.forall_mem_cons.mpr ⟨(show K qm ≠ 9 by rw [km]; decide), List.forall_mem_cons.mpr ⟨(show K qm ≠ 9 by rw [km]; decide), List.forall_mem_cons.mpr ⟨(show K qm ≠ 9 by rw [km]; decide), List.forall_mem_cons.mpr ⟨(show K qm ≠ 9 by rw [km]; decide), List.forall_mem_cons.mpr ⟨(show K qm ≠ 9 by rw [km]; decide), List.forall_mem_cons.mpr ⟨(show K qm ≠ 9 by rw [km]; decide), fun _ h => absurd h List.not_mem_nil⟩⟩⟩⟩⟩⟩⟩⟩⟩⟩)
  have e2_wd := words_fr hkw hF2 (List.forall_mem_cons.mpr ⟨(show ¬ (46 ≤ K (F qm 15) ∧ K (F qm 15) ≤ 50) by rw [km_15]; decide), List.forall_mem_cons.mpr ⟨(show ¬ (46 ≤ K (F qm 17) ∧ K (F qm 17) ≤ 50) by rw [km_17]; decide), List.forall_mem_cons.mpr ⟨(show ¬ (46 ≤ K (F qm 18) ∧ K (F qm 18) ≤ 50) by rw [km_18]; decide), List.forall_mem_cons.mpr ⟨(show ¬ (46 ≤ K (F qm 1) ∧ K (F qm 1) ≤ 50) by rw [km_1]; decide), List.forall_mem_cons.mpr ⟨(show ¬ (46 ≤ K (F qm 8) ∧ K (F qm 8) ≤ 50) by rw [km_8]; decide), List.forall_mem_cons.mpr ⟨(show ¬ (46 ≤ K (F qm 22) ∧ K (F qm 22) ≤ 50) by rw [km_22]; decide), List.forall_mem_cons.mpr ⟨(show ¬ (46 ≤ K (F qm 11) ∧ K (F qm 11) ≤ 50) by rw [km_11]; decide), List.forall_mem_cons.mpr ⟨(show ¬ (46 ≤ K (F qm 13) ∧ K (F qm 13) ≤ 50) by rw [km_13]; decide), List.forall_mem_cons.mpr ⟨(show ¬ (46 ≤ K (F qm 9) ∧ K (F qm 9) ≤ 50) by rw [km_9]; decide), List.forall_mem_cons.mpr ⟨(show ¬ (46 ≤ K (F qm 41) ∧ K (F qm 41) ≤ 50) by rw [km_41]; decide), List.forall_mem_cons.mpr ⟨(show ¬ (46 ≤ K (F qm 42) ∧ K (F qm 42) ≤ 50) by rw [km_42]; decide), List.forall_mem_cons.mpr ⟨(show ¬ (46 ≤ K (F qm 4) ∧ K (F qm 4) ≤ 50) by rw [km_4]; decide), List.forall_mem_cons.mpr ⟨(show ¬ (46 ≤ K (F qm 12) ∧ K (F qm 12) ≤ 50) by rw [km_12]; decide), fun _ h => absurd h List.not_mem_nil⟩⟩⟩⟩⟩⟩⟩⟩⟩⟩⟩⟩⟩)
  refine lv_pop hx hb dL_law_459 rfl ?_
  refine lv_goto (tgt := 1347) hx hb dL_law_460 (by decide) ?_
  refine xi_iinc (n := 6) (lv' := fun z9 => [(4, .int z9), (0, .ref b), (1, .ref qx), (2, .ref qm), (3, .ref qo)]) (k := 4) hx hb (rfl : Int32.toInt x = x.toInt) (by decide) dL_law_1347 hl rfl (by decide) (fun _ => rfl) (fun x9 ls t9 hl => ?_)
  have hl : lv_has ls 7 [(4, .int x9), (0, .ref b), (1, .ref qx), (2, .ref qm), (3, .ref qo)] := hl
  refine lv_goto (tgt := 23) hx hb dL_law_1350 (by decide) ?_
  have e_cTn := e2_cTn.trans e1_cTn
  have e_cTr := e2_cTr.trans e1_cTr
  have e_cBs := e2_cBs.trans e1_cBs
  have e_cB0 := e2_cB0.trans e1_cB0
  have e_cB1 := e2_cB1.trans e1_cB1
  have e_cG0 := e2_cG0.trans e1_cG0
  have e_cG1 := e2_cG1.trans e1_cG1
  have e_cZ0 := e2_cZ0.trans e1_cZ0
  have e_cZ1 := e2_cZ1.trans e1_cZ1
  have e_cO := e2_cO.trans e1_cO
  have e_cC := e2_cC.trans e1_cC
  have e_cM := e2_cM.trans e1_cM
  have e_mTn := e2_mTn.trans e1_mTn
  have e_mTr := e2_mTr.trans e1_mTr
  have e_mR := e2_mR.trans e1_mR
  have e_mG := e2_mG.trans e1_mG
  have e_mM := e2_mM.trans e1_mM
  have e_mO := e2_mO.trans e1_mO
  have e_mC := e2_mC.trans e1_mC
  have e_mk := marks_tr e1_mk e2_mk
  have e_ru : ∀ q, K q = 9 → G2.1 q = G.1 q := fun q hq => (e2_ru q hq).trans (e1_ru q hq)
  have e_wd : ∀ i : Nat, i < 10 → G2.2.1 (F qm (25 + i)) = G.2.1 (F qm (25 + i)) := fun i hi => (e2_wd i hi).trans (e1_wd i hi)
  rw [e1_mN, e1_mR, e1_mO] at t2
  have zz := set_all aB aR.2.2.2.2.2.1 evn aW t1 t2
  have hR : REL K F G2 qx qm := ⟨⟨kx, km, hal⟩, by rw [e_cTn, e_mTn, e_cTr, e_mTr]; exact aT, aB.cg (fun _ h => h) e_mR e_cB0 e_cB1 (congrArg Int32.toInt e_cBs) e_ru, ⟨by rw [e2_cN0, e2_cN1]; exact ro1, rm2, by rw [e2_cN0]; exact zz.2.1⟩, by rw [e_cM, e_cG0, e_cG1, e_cZ0, e_cZ1, e_mG, e_mM, e_cO, e_mO, e_cC, e_mC]; exact aR.cg e_mk, by rw [e_cM]; exact hmk, ⟨by rw [e_cO, e_mR, e_cG0, e2_cN0, qL_cg e2_cWs e2_cW0 e2_cW1 e2_cW2 e2_cW3 e2_cW4 e2_cW5]; exact zz.2.2, by rw [e2_cWs]; exact sw1⟩, ⟨w2.1, w2.2, hwo.cg e_wd⟩⟩
  refine W.widen (k := cells + 24) (n := slots + 2400) (Nat.add_le_add_left (by decide) _) (Nat.add_le_add_left (by decide) _) ?_
  have nx := law_nx hx9 hL9 t2n t4 c5 t9 hn9
  exact ih x9 K G2 _ _ H locs ls nx.1 nx.2 ko hR (law_c hC) (law_s hC2) hT hS (lv_sub hl [1, 2, 3, 4, 0] rfl)
