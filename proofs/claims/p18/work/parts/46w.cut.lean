theorem z_X10_cut_2 (a0 : Int) (a1 : Int) (a2 : Int) (a3 : Int) (h0 : (a3 = 1 ∧ 0 ≤ a0 ∧ a0 < 3) ∨ (a3 = 0 ∧ (a0 < 0 ∨ 3 ≤ a0))) (h1 : ¬ (a3 = 0)) (h2 : (a2 = 1 ∧ 0 ≤ a1 ∧ a1 < 30) ∨ (a2 = 0 ∧ (a1 < 0 ∨ 30 ≤ a1))) (h3 : a2 ≠ 0) : 0 ≤ a0 ∧ a0 < 3 ∧ 0 ≤ a1 ∧ a1 < 30 := by omega
theorem z_X10_cut_3 (a0 : Int) (a1 : Int) (a2 : Int) (h0 : (a0 = 1 ∧ a1 ≠ -2000) ∨ (a0 = 0 ∧ a1 = -2000)) (h1 : a0 ≠ 0) (h2 : a2 = a1) : a2 ≠ -2000 := by omega
abbrev rm_X10_cut : Room := { frames := 10, cells := 15, slots := 1500, locals := 236 }
set_option maxHeartbeats 4000000 in
set_option maxRecDepth 100000 in
theorem c_X10_cut (l : Launch) (E : XE) (K : Nat → Nat) (F : Nat → Nat → Nat) (G : XG) (a : Nat) (p0 : Int32) (p1 : Int32) (ha : K a = 12) (sb : 0 ≤ ((G.1 (F a 2) 2).toInt) ∧ ((G.1 (F a 2) 2).toInt) ≤ 12) (sw : 0 ≤ ((G.1 (F a 8) 6).toInt) ∧ ((G.1 (F a 8) 6).toInt) ≤ 1080) (ron : RO (vw (G.2.1 (F (F a 3) 0))) (aI (G.2.1 (F (F a 3) 1)))) (rob : RO (vw (G.2.1 (F (F a 4) 0))) (aI (G.2.1 (F (F a 4) 1)))) (bko : BKr K G (G.2.2.1 (F (F a 2) 1))) (bkn : BKr K G (G.2.2.1 (F (F a 2) 0))) (hac : ACo G (G.2.2.1 (F (F a 2) 0))) : Met l yX10_cut (xw yX10_cut cX10_cut 3 (some .int)) rm_X10_cut (va_Pc [.ref a, .int p0, .int p1] (XP E K F G)) (XQ E (fun v (u : XG) => ∃ r : Int32, v = .int r ∧ XFr [(F a 11, 3), (F a 9, 6), (F a 14, 1), (F a 14, 2), (F a 14, 3), (F a 10, 6), (F a 8, 6), (F a 12, 4)] [F (F a 11) 0, F (F a 11) 1, F (F a 11) 2, F (F a 9) 0, F (F a 9) 1, F (F a 9) 2, F (F a 9) 3, F (F a 9) 4, F (F a 9) 5, F a 16, F a 15, F (F a 10) 0, F (F a 10) 1, F (F a 10) 2, F (F a 10) 3, F (F a 10) 4, F (F a 10) 5, F (F a 3) 0, F (F a 3) 1, F (F a 8) 0, F (F a 8) 1, F (F a 8) 2, F (F a 8) 3, F (F a 8) 4, F (F a 8) 5, F (F a 5) 0, F (F a 5) 1, F (F a 12) 0, F (F a 12) 1, F (F a 12) 2, F (F a 12) 3] [] G u ∧ (0 ≤ ((u.1 (F a 8) 6).toInt) ∧ ((u.1 (F a 8) 6).toInt) ≤ 1080) ∧ ((r.toInt = -1 ∧ ¬ ((0 ≤ p0.toInt ∧ p0.toInt < 3) ∧ (0 ≤ p1.toInt ∧ p1.toInt < 30)) ∧ ((vw (u.2.1 (F (F a 3) 0))) = (vw (G.2.1 (F (F a 3) 0))) ∧ qL u F (F a 8) = qL G F (F a 8))) ∨ (((0 ≤ p0.toInt ∧ p0.toInt < 3) ∧ (0 ≤ p1.toInt ∧ p1.toInt < 30)) ∧ r.toInt = -2 ∧ cel (vw (G.2.1 (F (F a 3) 0))) p0.toInt p1.toInt 0 = -2000 ∧ ((vw (u.2.1 (F (F a 3) 0))) = (vw (G.2.1 (F (F a 3) 0))) ∧ qL u F (F a 8) = qL G F (F a 8))) ∨ (((0 ≤ p0.toInt ∧ p0.toInt < 3) ∧ (0 ≤ p1.toInt ∧ p1.toInt < 30)) ∧ cel (vw (G.2.1 (F (F a 3) 0))) p0.toInt p1.toInt 0 ≠ -2000 ∧ ActR ((G.1 a 18).toInt) r.toInt (gaL G (G.2.2.1 (F (F a 2) 1)) (vw (G.2.1 (F (F a 3) 0))) (cfin (clsA G (G.2.2.1 (F (F a 2) 0))) (clsT G (G.2.2.1 (F (F a 2) 0))) (clsC G (G.2.2.1 (F (F a 2) 0))) ([(p0.toInt, p1.toInt, 0, 0)], rfil (vw (G.2.1 (F (F a 3) 0))) p0.toInt p1.toInt (-2000) 3)) 0 (((G.1 (F a 2) 2).toInt)).toNat) (vw (G.2.1 (F (F a 3) 0))) (vw (u.2.1 (F (F a 3) 0))) (cfin (clsA G (G.2.2.1 (F (F a 2) 0))) (clsT G (G.2.2.1 (F (F a 2) 0))) (clsC G (G.2.2.1 (F (F a 2) 0))) ([(p0.toInt, p1.toInt, 0, 0)], rfil (vw (G.2.1 (F (F a 3) 0))) p0.toInt p1.toInt (-2000) 3)) (qL G F (F a 8)) (qL u F (F a 8)) (gaL G (G.2.2.1 (F (F a 2) 1)) (vw (G.2.1 (F (F a 4) 0))) (cfin (clsA G (G.2.2.1 (F (F a 2) 0))) (clsT G (G.2.2.1 (F (F a 2) 0))) (clsC G (G.2.2.1 (F (F a 2) 0))) ([(p0.toInt, p1.toInt, 0, 0)], rfil (vw (G.2.1 (F (F a 3) 0))) p0.toInt p1.toInt (-2000) 3)) 1 (((G.1 (F a 2) 2).toInt)).toNat))) ∧ (RO (vw (u.2.1 (F (F a 3) 0))) (aI (u.2.1 (F (F a 3) 1))))) (fun u H => TW E K F u H)) 15 1500 (xA E) := by
  refine x_enter (by decide) (Nat.le_of_ble_eq_true rfl) ?_
  intro p e s m args below meth c Q S hr hlk hnm hQ hP ls hl
  obtain ⟨hz, hK, hT⟩ := hP
  obtain ⟨hx, hb, -, -, -⟩ := id S
  obtain ⟨H, hT, hS, hgo⟩ : ∃ H : Heap, TW E K F G H ∧ va_S (xA E) s.heap H [] ∧ H = s.heap := ⟨_, hT, va_S.rf, rfl⟩
  rw [← hgo]
  have hl : lv_has ls 3 [(0, .ref a), (1, .int p0), (2, .int p1)] := hl
  obtain ⟨hk9999, hj9999⟩ := fkX10_11 hT ha
  obtain ⟨hk9999a, hj9999a⟩ := fkX10_9 hT ha
  obtain ⟨hk9999b, hj9999b⟩ := fkX10_14 hT ha
  obtain ⟨hk9999c, hj9999c⟩ := fkX10_10 hT ha
  obtain ⟨hk9999d, hj9999d⟩ := fkX10_8 hT ha
  obtain ⟨hk9999e, hj9999e⟩ := fkX10_12 hT ha
  obtain ⟨hk9999f, hj9999f⟩ := fkX1_0 hT hk9999
  obtain ⟨hk9999g, hj9999g⟩ := fkX1_1 hT hk9999
  obtain ⟨hk9999h, hj9999h⟩ := fkX1_2 hT hk9999
  obtain ⟨hk9999i, hj9999i⟩ := fkX4_0 hT hk9999a
  have hj9999j : F (F (F a 9) 0) 99 = 10 * 1 + 0 := by rw [hj9999i, hj9999a]
  obtain ⟨hk9999j, hj9999k⟩ := fkX4_1 hT hk9999a
  have hj9999l : F (F (F a 9) 1) 99 = 10 * 1 + 1 := by rw [hj9999k, hj9999a]
  obtain ⟨hk9999k, hj9999m⟩ := fkX4_2 hT hk9999a
  have hj9999n : F (F (F a 9) 2) 99 = 10 * 1 + 2 := by rw [hj9999m, hj9999a]
  obtain ⟨hk9999l, hj9999o⟩ := fkX4_3 hT hk9999a
  have hj9999p : F (F (F a 9) 3) 99 = 10 * 1 + 3 := by rw [hj9999o, hj9999a]
  obtain ⟨hk9999m, hj9999q⟩ := fkX4_4 hT hk9999a
  have hj9999r : F (F (F a 9) 4) 99 = 10 * 1 + 4 := by rw [hj9999q, hj9999a]
  obtain ⟨hk9999n, hj9999s⟩ := fkX4_5 hT hk9999a
  have hj9999t : F (F (F a 9) 5) 99 = 10 * 1 + 5 := by rw [hj9999s, hj9999a]
  obtain ⟨hk9999o, hj9999u⟩ := fkX10_16 hT ha
  obtain ⟨hk9999p, hj9999v⟩ := fkX10_15 hT ha
  obtain ⟨hk9999q, hj9999w⟩ := fkX4_0 hT hk9999c
  have hj9999y : F (F (F a 10) 0) 99 = 10 * 2 + 0 := by rw [hj9999w, hj9999c]
  obtain ⟨hk9999r, hj9999z25⟩ := fkX4_1 hT hk9999c
  have hj9999z26 : F (F (F a 10) 1) 99 = 10 * 2 + 1 := by rw [hj9999z25, hj9999c]
  obtain ⟨hk9999s, hj9999z27⟩ := fkX4_2 hT hk9999c
  have hj9999z28 : F (F (F a 10) 2) 99 = 10 * 2 + 2 := by rw [hj9999z27, hj9999c]
  obtain ⟨hk9999t, hj9999z29⟩ := fkX4_3 hT hk9999c
  have hj9999z30 : F (F (F a 10) 3) 99 = 10 * 2 + 3 := by rw [hj9999z29, hj9999c]
  obtain ⟨hk9999u, hj9999z31⟩ := fkX4_4 hT hk9999c
  have hj9999z32 : F (F (F a 10) 4) 99 = 10 * 2 + 4 := by rw [hj9999z31, hj9999c]
  obtain ⟨hk9999v, hj9999z33⟩ := fkX4_5 hT hk9999c
  have hj9999z34 : F (F (F a 10) 5) 99 = 10 * 2 + 5 := by rw [hj9999z33, hj9999c]
  obtain ⟨hk9999w, hj9999z35⟩ := fkX10_3 hT ha
  obtain ⟨hk9999y, hj9999z36⟩ := fkX6_0 hT hk9999w
  have hj9999z37 : F (F (F a 3) 0) 99 = 0 := by rw [hj9999z36, hj9999z35]
  obtain ⟨hk9999z25, hj9999z38⟩ := fkX6_1 hT hk9999w
  have hj9999z39 : F (F (F a 3) 1) 99 = 0 := by rw [hj9999z38, hj9999z35]
  obtain ⟨hk9999z26, hj9999z40⟩ := fkX4_0 hT hk9999d
  have hj9999z41 : F (F (F a 8) 0) 99 = 10 * 0 + 0 := by rw [hj9999z40, hj9999d]
  obtain ⟨hk9999z27, hj9999z42⟩ := fkX4_1 hT hk9999d
  have hj9999z43 : F (F (F a 8) 1) 99 = 10 * 0 + 1 := by rw [hj9999z42, hj9999d]
  obtain ⟨hk9999z28, hj9999z44⟩ := fkX4_2 hT hk9999d
  have hj9999z45 : F (F (F a 8) 2) 99 = 10 * 0 + 2 := by rw [hj9999z44, hj9999d]
  obtain ⟨hk9999z29, hj9999z46⟩ := fkX4_3 hT hk9999d
  have hj9999z47 : F (F (F a 8) 3) 99 = 10 * 0 + 3 := by rw [hj9999z46, hj9999d]
  obtain ⟨hk9999z30, hj9999z48⟩ := fkX4_4 hT hk9999d
  have hj9999z49 : F (F (F a 8) 4) 99 = 10 * 0 + 4 := by rw [hj9999z48, hj9999d]
  obtain ⟨hk9999z31, hj9999z50⟩ := fkX4_5 hT hk9999d
  have hj9999z51 : F (F (F a 8) 5) 99 = 10 * 0 + 5 := by rw [hj9999z50, hj9999d]
  obtain ⟨hk9999z32, hj9999z52⟩ := fkX10_5 hT ha
  obtain ⟨hk9999z33, hj9999z53⟩ := fkX6_0 hT hk9999z32
  have hj9999z54 : F (F (F a 5) 0) 99 = 2 := by rw [hj9999z53, hj9999z52]
  obtain ⟨hk9999z34, hj9999z55⟩ := fkX6_1 hT hk9999z32
  have hj9999z56 : F (F (F a 5) 1) 99 = 2 := by rw [hj9999z55, hj9999z52]
  obtain ⟨hk9999z35, hj9999z57⟩ := fkX2_0 hT hk9999e
  obtain ⟨hk9999z36, hj9999z58⟩ := fkX2_1 hT hk9999e
  obtain ⟨hk9999z37, hj9999z59⟩ := fkX2_2 hT hk9999e
  obtain ⟨hk9999z38, hj9999z60⟩ := fkX2_3 hT hk9999e
  obtain ⟨hk9999z39, hj9999z61⟩ := fkX10_2 hT ha
  obtain ⟨hk9999z40, hj9999z62⟩ := fkX0_1 hT hk9999z39
  obtain ⟨hk9999z41, hj9999z63⟩ := fkX0_0 hT hk9999z39
  obtain ⟨hk9999z42, hj9999z64⟩ := fkX10_4 hT ha
  obtain ⟨hk9999z43, hj9999z65⟩ := fkX6_0 hT hk9999z42
  have hj9999z66 : F (F (F a 4) 0) 99 = 1 := by rw [hj9999z65, hj9999z64]
  obtain ⟨hk9999z44, hj9999z67⟩ := fkX6_1 hT hk9999z42
  have hj9999z68 : F (F (F a 4) 1) 99 = 1 := by rw [hj9999z67, hj9999z64]
  refine lv_aload_n hx hb dX10_cut_0 rfl (lv_at hl 0 rfl) ?_
  refine gX10_14 S hK hT ha kf_X10_91 dX10_cut_1 (fun _ _ => ?_)
  refine x_cv (x_runV (b := (F a 14)) (As := []) (rest := []) S (c_X9_clear l E K F G (F a 14) hk9999b) mv_X9_clear km_X10_113 rfl rfl ⟨Nat.le_of_ble_eq_true rfl, Nat.le_of_ble_eq_true rfl⟩ (rc_11 hK hT hk9999b) hK (fun _ => XP.blind) (fun U hU hW => XP.at hK hz hS hT hU hW) rfl hl.1 (Nat.le_of_ble_eq_true rfl) dX10_cut_4 ⟨Nat.le_of_ble_eq_true rfl, Nat.le_of_ble_eq_true rfl⟩) hS ?_
  rintro G4 H locs ⟨hF4, t4⟩ hT hS
  have t4 : ((G4.1 (F a 14) 1).toInt) = 0 := t4
  refine lv_iload_n hx hb dX10_cut_7 rfl (lv_at hl 1 rfl) ?_
  refine x_clp (x_runS (As := [.int p0]) (rest := []) S (c_X10_isTable l E K F G4 H p0) ms_X10_isTable km_X10_179 rfl rfl ⟨Nat.le_of_ble_eq_true rfl, Nat.le_of_ble_eq_true rfl⟩ hK (fun _ => XPh.blind) (fun U hU hW => XPh.at hK hz hS hT hU hW) rfl hl.1 (Nat.le_of_ble_eq_true rfl) dX10_cut_8 ⟨Nat.le_of_ble_eq_true rfl, Nat.le_of_ble_eq_true rfl⟩) hS ?_
  rintro _ _ locs ⟨x8, rfl, b8, t8⟩ hS
  have t8 : (x8.toInt = 1 ∧ 0 ≤ p0.toInt ∧ p0.toInt < 3) ∨ (x8.toInt = 0 ∧ (p0.toInt < 0 ∨ 3 ≤ p0.toInt)) := t8
  refine xi_zeq (tgt := 21) hx hb (rfl : Int32.toInt x8 = x8.toInt) dX10_cut_11 (by decide) (fun c11 => ?_) (fun c11 => ?_)
  · refine lv_aload_n hx hb dX10_cut_21 rfl (lv_at hl 0 rfl) ?_
    refine lv_iconst (v := (-1)) hx hb dX10_cut_22 (by decide) ?_
    refine x_cl0 (x_runV (b := a) (As := [.int (-1)]) (rest := []) S (c_X10_refuseAct l E K F G4 a (-1) ha) mv_X10_refuseAct km_X10_188 rfl rfl ⟨Nat.le_of_ble_eq_true rfl, Nat.le_of_ble_eq_true rfl⟩ (rc_12 hK hT ha) hK (fun _ => XP.blind) (fun U hU hW => XP.at hK hz hS hT hU hW) rfl hl.1 (Nat.le_of_ble_eq_true rfl) dX10_cut_23 ⟨Nat.le_of_ble_eq_true rfl, Nat.le_of_ble_eq_true rfl⟩) hS ?_
    rintro _ G23 H locs ⟨x23, rfl, hF23, t23⟩ hT hS
    have t23 : x23.toInt = (-1 : Int) := by rw [((by decide) : Int32.toInt (-1) = (-1 : Int))] at t23; exact t23
    exact x_ri hx hb hr hlk hQ (Nat.le_of_ble_eq_true rfl) (Nat.le_of_ble_eq_true rfl) hS dX10_cut_26 G23 ⟨_, rfl, (XFr.call (XFr.call XFr.rf hF4 (xm1 2 rfl xm0) xm0 xm0) hF23 xm0 (xm1 10 rfl xm0) xm0), (by rw [(show (G23.1 (F a 8) 6).toInt = ((G.1 (F a 8) 6).toInt) from (congrArg Int32.toInt ((hF23.1 _ _ xn0).trans (hF4.1 _ _ (xnj (by decide) xn0)))).trans (rfl : Int32.toInt (G.1 (F a 8) 6) = ((G.1 (F a 8) 6).toInt)))] <;> exact (sw)), (by rw [(t23 : Int32.toInt x23 = (-1 : Int))] <;> exact (v_X10_cut_26_1 (K := K) (F := F) a G G23 G4 x8 p0 p1 ha sb sw t4 t8 c11 ((hF23.2.1 _ (xn1 (xne_k hk9999y hk9999p (by decide)) xn0)).trans (hF4.2.1 _ xn0)) ((hF23.2.1 _ (xn1 (xne_k hk9999z26 hk9999p (by decide)) xn0)).trans (hF4.2.1 _ xn0)) ((hF23.2.1 _ (xn1 (xne_k hk9999z27 hk9999p (by decide)) xn0)).trans (hF4.2.1 _ xn0)) ((hF23.2.1 _ (xn1 (xne_k hk9999z28 hk9999p (by decide)) xn0)).trans (hF4.2.1 _ xn0)) ((hF23.2.1 _ (xn1 (xne_k hk9999z29 hk9999p (by decide)) xn0)).trans (hF4.2.1 _ xn0)) ((hF23.2.1 _ (xn1 (xne_k hk9999z30 hk9999p (by decide)) xn0)).trans (hF4.2.1 _ xn0)) ((hF23.2.1 _ (xn1 (xne_k hk9999z31 hk9999p (by decide)) xn0)).trans (hF4.2.1 _ xn0)) ((hF23.1 _ _ xn0).trans (hF4.1 _ _ (xnj (by decide) xn0))))), (v_X10_cut_26_2 (F := F) a G G23 ron ((hF23.2.1 _ (xn1 (xne_k hk9999y hk9999p (by decide)) xn0)).trans (hF4.2.1 _ xn0)) ((hF23.2.1 _ (xn1 (xne_k hk9999z25 hk9999p (by decide)) xn0)).trans (hF4.2.1 _ xn0)))⟩ hT
  · refine lv_iload_n hx hb dX10_cut_14 rfl (lv_at hl 2 rfl) ?_
    refine x_clp (x_runS (As := [.int p1]) (rest := []) S (c_X10_isKey l E K F G4 H p1) ms_X10_isKey km_X10_182 rfl rfl ⟨Nat.le_of_ble_eq_true rfl, Nat.le_of_ble_eq_true rfl⟩ hK (fun _ => XPh.blind) (fun U hU hW => XPh.at hK hz hS hT hU hW) rfl hl.1 (Nat.le_of_ble_eq_true rfl) dX10_cut_15 ⟨Nat.le_of_ble_eq_true rfl, Nat.le_of_ble_eq_true rfl⟩) hS ?_
    rintro _ _ locs ⟨x15, rfl, b15, t15⟩ hS
    have t15 : (x15.toInt = 1 ∧ 0 ≤ p1.toInt ∧ p1.toInt < 30) ∨ (x15.toInt = 0 ∧ (p1.toInt < 0 ∨ 30 ≤ p1.toInt)) := t15
    refine xi_zne (tgt := 27) hx hb (rfl : Int32.toInt x15 = x15.toInt) dX10_cut_18 (by decide) (fun c18 => ?_) (fun c18 => ?_)
    · refine lv_aload_n hx hb dX10_cut_27 rfl (lv_at hl 0 rfl) ?_
      refine gX10_3 S hK hT ha kf_X10_37 dX10_cut_28 (fun _ _ => ?_)
      refine lv_iload_n hx hb dX10_cut_31 rfl (lv_at hl 1 rfl) ?_
      refine lv_iload_n hx hb dX10_cut_32 rfl (lv_at hl 2 rfl) ?_
      refine x_clp (x_runV (b := (F a 3)) (As := [.int p0, .int p1]) (rest := []) S (c_X6_has l E K F G4 H (F a 3) p0 p1 hk9999w (v_X10_cut_33_3 (F := F) a G G4 ron rob (hF4.2.1 _ xn0) (hF4.2.1 _ xn0))) mv_X6_has km_X10_191 rfl rfl ⟨Nat.le_of_ble_eq_true rfl, Nat.le_of_ble_eq_true rfl⟩ (rc_8 hK hT hk9999w) hK (fun _ => XPh.blind) (fun U hU hW => XPh.at hK hz hS hT hU hW) rfl hl.1 (Nat.le_of_ble_eq_true rfl) dX10_cut_33 ⟨Nat.le_of_ble_eq_true rfl, Nat.le_of_ble_eq_true rfl⟩) hS ?_
      rintro _ _ locs ⟨x33, rfl, b33, t33⟩ hS
      have t33 : (x33.toInt = 1 ∧ (cel (vw (G.2.1 (F (F a 3) 0))) (p0.toInt) (p1.toInt) 0) ≠ -2000) ∨ (x33.toInt = 0 ∧ (cel (vw (G.2.1 (F (F a 3) 0))) (p0.toInt) (p1.toInt) 0) = -2000) := by rw [(show G4.2.1 (F (F a 3) 0) = G.2.1 (F (F a 3) 0) from (hF4.2.1 _ xn0))] at t33; exact t33
      refine xi_zne (tgt := 46) hx hb (rfl : Int32.toInt x33 = x33.toInt) dX10_cut_36 (by decide) (fun c36 => ?_) (fun c36 => ?_)
      · refine lv_aload_n hx hb dX10_cut_46 rfl (lv_at hl 0 rfl) ?_
        refine gX10_5 S hK hT ha kf_X10_44 dX10_cut_47 (fun _ _ => ?_)
        refine lv_aload_n hx hb dX10_cut_50 rfl (lv_at hl 0 rfl) ?_
        refine gX10_3 S hK hT ha kf_X10_37 dX10_cut_51 (fun _ _ => ?_)
        refine x_cv0 (x_runV (b := (F a 5)) (As := [.ref (F a 3)]) (rest := []) S (c_X6_copy l E K F G4 (F a 5) (F a 3) hk9999z32 hk9999w (v_X10_cut_54_4 (F := F) a G G4 ron rob (hF4.2.1 _ xn0) (hF4.2.1 _ xn0))) mv_X6_copy km_X10_195 rfl rfl ⟨Nat.le_of_ble_eq_true rfl, Nat.le_of_ble_eq_true rfl⟩ (rc_8 hK hT hk9999z32) hK (fun _ => XP.blind) (fun U hU hW => XP.at hK hz hS hT hU hW) rfl hl.1 (Nat.le_of_ble_eq_true rfl) dX10_cut_54 ⟨Nat.le_of_ble_eq_true rfl, Nat.le_of_ble_eq_true rfl⟩) hS ?_
        rintro G54 H locs ⟨hF54, oq54, oq54a⟩ hT hS
        have oq54 : (vw (G54.2.1 (F (F a 5) 0))) = (vw (G.2.1 (F (F a 3) 0))) := by simp only [(show G4.2.1 (F (F a 3) 0) = G.2.1 (F (F a 3) 0) from (hF4.2.1 _ xn0))] at oq54; exact oq54
        have z57 : (cel (vw (G54.2.1 (F (F a 5) 0))) (p0.toInt) (p1.toInt) 0) = (cel (vw (G.2.1 (F (F a 3) 0))) (p0.toInt) (p1.toInt) 0) := by rw [oq54]
        refine lv_aload_n hx hb dX10_cut_57 rfl (lv_at hl 0 rfl) ?_
        refine gX10_12 S hK hT ha kf_X10_77 dX10_cut_58 (fun _ _ => ?_)
        refine lv_aload_n hx hb dX10_cut_61 rfl (lv_at hl 0 rfl) ?_
        refine gX10_5 S hK hT ha kf_X10_44 dX10_cut_62 (fun _ _ => ?_)
        refine lv_aload_n hx hb dX10_cut_65 rfl (lv_at hl 0 rfl) ?_
        refine gX10_2 S hK hT ha kf_X10_30 dX10_cut_66 (fun _ _ => ?_)
        refine lv_iload_n hx hb dX10_cut_69 rfl (lv_at hl 1 rfl) ?_
        refine lv_iload_n hx hb dX10_cut_70 rfl (lv_at hl 2 rfl) ?_
        refine x_cv0 (x_runV (b := (F a 12)) (As := [.ref (F a 5), .ref (F a 2), .int p0, .int p1]) (rest := []) S (c_X2_cutRow l E K F G54 (F a 12) (F a 5) (F a 2) p0 p1 hk9999e hk9999z32 hk9999z39 (z_X10_cut_2 p0.toInt p1.toInt x15.toInt x8.toInt t8 c11 t15 c18) (z_X10_cut_3 x33.toInt (cel (vw (G.2.1 (F (F a 3) 0))) (p0.toInt) (p1.toInt) 0) (cel (vw (G54.2.1 (F (F a 5) 0))) (p0.toInt) (p1.toInt) 0) t33 c36 z57) (v_X10_cut_71_5 (F := F) a G54 oq54a) (v_X10_cut_71_6 (K := K) (F := F) a G G54 G4 x8 p0 x15 p1 x33 ha hk9999 hj9999 hk9999a hj9999a hk9999b hj9999b hk9999c hj9999c hk9999d hj9999d hk9999e hj9999e hk9999f hj9999f hk9999g hj9999g hk9999h hj9999h hk9999i hj9999j hk9999j hj9999l hk9999k hj9999n hk9999l hj9999p hk9999m hj9999r hk9999n hj9999t hk9999o hj9999u hk9999p hj9999v hk9999q hj9999y hk9999r hj9999z26 hk9999s hj9999z28 hk9999t hj9999z30 hk9999u hj9999z32 hk9999v hj9999z34 hk9999w hj9999z35 hk9999y hj9999z37 hk9999z25 hj9999z39 hk9999z26 hj9999z41 hk9999z27 hj9999z43 hk9999z28 hj9999z45 hk9999z29 hj9999z47 hk9999z30 hj9999z49 hk9999z31 hj9999z51 hk9999z32 hj9999z52 hk9999z33 hj9999z54 hk9999z34 hj9999z56 hk9999z35 hj9999z57 hk9999z36 hj9999z58 hk9999z37 hj9999z59 hk9999z38 hj9999z60 hk9999z39 hj9999z61 hk9999z40 hj9999z62 hk9999z41 hj9999z63 hk9999z42 hj9999z64 hk9999z43 hj9999z66 hk9999z44 hj9999z68 (XFr.call (XFr.call XFr.rf hF4 (xm1 2 rfl xm0) xm0 xm0) hF54 xm0 (xm1 25 rfl (xm1 26 rfl xm0)) xm0) hF4 hF54 ron rob bko bkn hac oq54 oq54a sb sw t4 t8 c11 t15 c18 t33 c36 z57 ((hF54.2.1 _ (xn1 (xne_k hk9999q hk9999z33 (by decide)) (xn1 (xne_k hk9999q hk9999z34 (by decide)) xn0))).trans (hF4.2.1 _ xn0)) ((hF54.2.1 _ (xn1 (xne_k hk9999r hk9999z33 (by decide)) (xn1 (xne_k hk9999r hk9999z34 (by decide)) xn0))).trans (hF4.2.1 _ xn0)) ((hF54.2.1 _ (xn1 (xne_k hk9999s hk9999z33 (by decide)) (xn1 (xne_k hk9999s hk9999z34 (by decide)) xn0))).trans (hF4.2.1 _ xn0)) ((hF54.2.1 _ (xn1 (xne_k hk9999t hk9999z33 (by decide)) (xn1 (xne_k hk9999t hk9999z34 (by decide)) xn0))).trans (hF4.2.1 _ xn0)) ((hF54.2.1 _ (xn1 (xne_k hk9999u hk9999z33 (by decide)) (xn1 (xne_k hk9999u hk9999z34 (by decide)) xn0))).trans (hF4.2.1 _ xn0)) ((hF54.2.1 _ (xn1 (xne_k hk9999v hk9999z33 (by decide)) (xn1 (xne_k hk9999v hk9999z34 (by decide)) xn0))).trans (hF4.2.1 _ xn0)) ((hF54.2.1 _ (xn1 (xne_k hk9999f hk9999z33 (by decide)) (xn1 (xne_j hj9999f hj9999z56 (by first | decide | omega)) xn0))).trans (hF4.2.1 _ xn0)) ((hF54.2.1 _ (xn1 (xne_k hk9999g hk9999z33 (by decide)) (xn1 (xne_j hj9999g hj9999z56 (by first | decide | omega)) xn0))).trans (hF4.2.1 _ xn0)) ((hF54.2.1 _ (xn1 (xne_k hk9999h hk9999z33 (by decide)) (xn1 (xne_k hk9999h hk9999z34 (by decide)) xn0))).trans (hF4.2.1 _ xn0)) ((hF54.2.1 _ (xn1 (xne_k hk9999z35 hk9999z33 (by decide)) (xn1 (xne_k hk9999z35 hk9999z34 (by decide)) xn0))).trans (hF4.2.1 _ xn0)) ((hF54.2.1 _ (xn1 (xne_k hk9999z36 hk9999z33 (by decide)) (xn1 (xne_k hk9999z36 hk9999z34 (by decide)) xn0))).trans (hF4.2.1 _ xn0)) ((hF54.2.1 _ (xn1 (xne_k hk9999z37 hk9999z33 (by decide)) (xn1 (xne_k hk9999z37 hk9999z34 (by decide)) xn0))).trans (hF4.2.1 _ xn0)) ((hF54.2.1 _ (xn1 (xne_k hk9999z38 hk9999z33 (by decide)) (xn1 (xne_k hk9999z38 hk9999z34 (by decide)) xn0))).trans (hF4.2.1 _ xn0)) ((hF54.2.1 _ (xn1 (xne_j hj9999z37 hj9999z54 (by first | decide | omega)) (xn1 (xne_k hk9999y hk9999z34 (by decide)) xn0))).trans (hF4.2.1 _ xn0)) ((hF54.2.1 _ (xn1 (xne_k hk9999z25 hk9999z33 (by decide)) (xn1 (xne_j hj9999z39 hj9999z56 (by first | decide | omega)) xn0))).trans (hF4.2.1 _ xn0)) ((hF54.2.1 _ (xn1 (xne_k hk9999z26 hk9999z33 (by decide)) (xn1 (xne_k hk9999z26 hk9999z34 (by decide)) xn0))).trans (hF4.2.1 _ xn0)) ((hF54.2.1 _ (xn1 (xne_k hk9999z27 hk9999z33 (by decide)) (xn1 (xne_k hk9999z27 hk9999z34 (by decide)) xn0))).trans (hF4.2.1 _ xn0)) ((hF54.2.1 _ (xn1 (xne_k hk9999z28 hk9999z33 (by decide)) (xn1 (xne_k hk9999z28 hk9999z34 (by decide)) xn0))).trans (hF4.2.1 _ xn0)) ((hF54.2.1 _ (xn1 (xne_k hk9999z29 hk9999z33 (by decide)) (xn1 (xne_k hk9999z29 hk9999z34 (by decide)) xn0))).trans (hF4.2.1 _ xn0)) ((hF54.2.1 _ (xn1 (xne_k hk9999z30 hk9999z33 (by decide)) (xn1 (xne_k hk9999z30 hk9999z34 (by decide)) xn0))).trans (hF4.2.1 _ xn0)) ((hF54.2.1 _ (xn1 (xne_k hk9999z31 hk9999z33 (by decide)) (xn1 (xne_k hk9999z31 hk9999z34 (by decide)) xn0))).trans (hF4.2.1 _ xn0)) ((hF54.2.1 _ (xn1 (xne_k hk9999i hk9999z33 (by decide)) (xn1 (xne_k hk9999i hk9999z34 (by decide)) xn0))).trans (hF4.2.1 _ xn0)) ((hF54.2.1 _ (xn1 (xne_k hk9999j hk9999z33 (by decide)) (xn1 (xne_k hk9999j hk9999z34 (by decide)) xn0))).trans (hF4.2.1 _ xn0)) ((hF54.2.1 _ (xn1 (xne_k hk9999k hk9999z33 (by decide)) (xn1 (xne_k hk9999k hk9999z34 (by decide)) xn0))).trans (hF4.2.1 _ xn0)) ((hF54.2.1 _ (xn1 (xne_k hk9999l hk9999z33 (by decide)) (xn1 (xne_k hk9999l hk9999z34 (by decide)) xn0))).trans (hF4.2.1 _ xn0)) ((hF54.2.1 _ (xn1 (xne_k hk9999m hk9999z33 (by decide)) (xn1 (xne_k hk9999m hk9999z34 (by decide)) xn0))).trans (hF4.2.1 _ xn0)) ((hF54.2.1 _ (xn1 (xne_k hk9999n hk9999z33 (by decide)) (xn1 (xne_k hk9999n hk9999z34 (by decide)) xn0))).trans (hF4.2.1 _ xn0)) ((hF54.2.1 _ (xn1 (xne_k hk9999p hk9999z33 (by decide)) (xn1 (xne_k hk9999p hk9999z34 (by decide)) xn0))).trans (hF4.2.1 _ xn0)) ((hF54.2.1 _ (xn1 (xne_k hk9999o hk9999z33 (by decide)) (xn1 (xne_k hk9999o hk9999z34 (by decide)) xn0))).trans (hF4.2.1 _ xn0)) ((hF54.2.2 _ xn0).trans (hF4.2.2 _ xn0)) ((hF54.1 _ _ xn0).trans (hF4.1 _ _ (xnj (by decide) xn0))) ((hF54.1 _ _ xn0).trans (hF4.1 _ _ (xnj (by decide) xn0))) ((hF54.1 _ _ xn0).trans (hF4.1 _ _ (xnj (by decide) xn0))) (hF54.1 _ _ xn0) ((hF54.1 _ _ xn0).trans (hF4.1 _ _ (xnj (by decide) xn0))) ((hF54.1 _ _ xn0).trans (hF4.1 _ _ (xnj (by decide) xn0))) ((hF54.1 _ _ xn0).trans (hF4.1 _ _ (xnj (by decide) xn0))) ((hF54.1 _ _ xn0).trans (hF4.1 _ _ (xnj (by decide) xn0)))) (v_X10_cut_71_7 (K := K) (F := F) a G G54 G4 x8 p0 x15 p1 x33 ha hk9999 hj9999 hk9999a hj9999a hk9999b hj9999b hk9999c hj9999c hk9999d hj9999d hk9999e hj9999e hk9999f hj9999f hk9999g hj9999g hk9999h hj9999h hk9999i hj9999j hk9999j hj9999l hk9999k hj9999n hk9999l hj9999p hk9999m hj9999r hk9999n hj9999t hk9999o hj9999u hk9999p hj9999v hk9999q hj9999y hk9999r hj9999z26 hk9999s hj9999z28 hk9999t hj9999z30 hk9999u hj9999z32 hk9999v hj9999z34 hk9999w hj9999z35 hk9999y hj9999z37 hk9999z25 hj9999z39 hk9999z26 hj9999z41 hk9999z27 hj9999z43 hk9999z28 hj9999z45 hk9999z29 hj9999z47 hk9999z30 hj9999z49 hk9999z31 hj9999z51 hk9999z32 hj9999z52 hk9999z33 hj9999z54 hk9999z34 hj9999z56 hk9999z35 hj9999z57 hk9999z36 hj9999z58 hk9999z37 hj9999z59 hk9999z38 hj9999z60 hk9999z39 hj9999z61 hk9999z40 hj9999z62 hk9999z41 hj9999z63 hk9999z42 hj9999z64 hk9999z43 hj9999z66 hk9999z44 hj9999z68 (XFr.call (XFr.call XFr.rf hF4 (xm1 2 rfl xm0) xm0 xm0) hF54 xm0 (xm1 25 rfl (xm1 26 rfl xm0)) xm0) hF4 hF54 ron rob bko bkn hac oq54 oq54a sb sw t4 t8 c11 t15 c18 t33 c36 z57 ((hF54.2.1 _ (xn1 (xne_k hk9999q hk9999z33 (by decide)) (xn1 (xne_k hk9999q hk9999z34 (by decide)) xn0))).trans (hF4.2.1 _ xn0)) ((hF54.2.1 _ (xn1 (xne_k hk9999r hk9999z33 (by decide)) (xn1 (xne_k hk9999r hk9999z34 (by decide)) xn0))).trans (hF4.2.1 _ xn0)) ((hF54.2.1 _ (xn1 (xne_k hk9999s hk9999z33 (by decide)) (xn1 (xne_k hk9999s hk9999z34 (by decide)) xn0))).trans (hF4.2.1 _ xn0)) ((hF54.2.1 _ (xn1 (xne_k hk9999t hk9999z33 (by decide)) (xn1 (xne_k hk9999t hk9999z34 (by decide)) xn0))).trans (hF4.2.1 _ xn0)) ((hF54.2.1 _ (xn1 (xne_k hk9999u hk9999z33 (by decide)) (xn1 (xne_k hk9999u hk9999z34 (by decide)) xn0))).trans (hF4.2.1 _ xn0)) ((hF54.2.1 _ (xn1 (xne_k hk9999v hk9999z33 (by decide)) (xn1 (xne_k hk9999v hk9999z34 (by decide)) xn0))).trans (hF4.2.1 _ xn0)) ((hF54.2.1 _ (xn1 (xne_k hk9999f hk9999z33 (by decide)) (xn1 (xne_j hj9999f hj9999z56 (by first | decide | omega)) xn0))).trans (hF4.2.1 _ xn0)) ((hF54.2.1 _ (xn1 (xne_k hk9999g hk9999z33 (by decide)) (xn1 (xne_j hj9999g hj9999z56 (by first | decide | omega)) xn0))).trans (hF4.2.1 _ xn0)) ((hF54.2.1 _ (xn1 (xne_k hk9999h hk9999z33 (by decide)) (xn1 (xne_k hk9999h hk9999z34 (by decide)) xn0))).trans (hF4.2.1 _ xn0)) ((hF54.2.1 _ (xn1 (xne_k hk9999z35 hk9999z33 (by decide)) (xn1 (xne_k hk9999z35 hk9999z34 (by decide)) xn0))).trans (hF4.2.1 _ xn0)) ((hF54.2.1 _ (xn1 (xne_k hk9999z36 hk9999z33 (by decide)) (xn1 (xne_k hk9999z36 hk9999z34 (by decide)) xn0))).trans (hF4.2.1 _ xn0)) ((hF54.2.1 _ (xn1 (xne_k hk9999z37 hk9999z33 (by decide)) (xn1 (xne_k hk9999z37 hk9999z34 (by decide)) xn0))).trans (hF4.2.1 _ xn0)) ((hF54.2.1 _ (xn1 (xne_k hk9999z38 hk9999z33 (by decide)) (xn1 (xne_k hk9999z38 hk9999z34 (by decide)) xn0))).trans (hF4.2.1 _ xn0)) ((hF54.2.1 _ (xn1 (xne_j hj9999z37 hj9999z54 (by first | decide | omega)) (xn1 (xne_k hk9999y hk9999z34 (by decide)) xn0))).trans (hF4.2.1 _ xn0)) ((hF54.2.1 _ (xn1 (xne_k hk9999z25 hk9999z33 (by decide)) (xn1 (xne_j hj9999z39 hj9999z56 (by first | decide | omega)) xn0))).trans (hF4.2.1 _ xn0)) ((hF54.2.1 _ (xn1 (xne_k hk9999z26 hk9999z33 (by decide)) (xn1 (xne_k hk9999z26 hk9999z34 (by decide)) xn0))).trans (hF4.2.1 _ xn0)) ((hF54.2.1 _ (xn1 (xne_k hk9999z27 hk9999z33 (by decide)) (xn1 (xne_k hk9999z27 hk9999z34 (by decide)) xn0))).trans (hF4.2.1 _ xn0)) ((hF54.2.1 _ (xn1 (xne_k hk9999z28 hk9999z33 (by decide)) (xn1 (xne_k hk9999z28 hk9999z34 (by decide)) xn0))).trans (hF4.2.1 _ xn0)) ((hF54.2.1 _ (xn1 (xne_k hk9999z29 hk9999z33 (by decide)) (xn1 (xne_k hk9999z29 hk9999z34 (by decide)) xn0))).trans (hF4.2.1 _ xn0)) ((hF54.2.1 _ (xn1 (xne_k hk9999z30 hk9999z33 (by decide)) (xn1 (xne_k hk9999z30 hk9999z34 (by decide)) xn0))).trans (hF4.2.1 _ xn0)) ((hF54.2.1 _ (xn1 (xne_k hk9999z31 hk9999z33 (by decide)) (xn1 (xne_k hk9999z31 hk9999z34 (by decide)) xn0))).trans (hF4.2.1 _ xn0)) ((hF54.2.1 _ (xn1 (xne_k hk9999i hk9999z33 (by decide)) (xn1 (xne_k hk9999i hk9999z34 (by decide)) xn0))).trans (hF4.2.1 _ xn0)) ((hF54.2.1 _ (xn1 (xne_k hk9999j hk9999z33 (by decide)) (xn1 (xne_k hk9999j hk9999z34 (by decide)) xn0))).trans (hF4.2.1 _ xn0)) ((hF54.2.1 _ (xn1 (xne_k hk9999k hk9999z33 (by decide)) (xn1 (xne_k hk9999k hk9999z34 (by decide)) xn0))).trans (hF4.2.1 _ xn0)) ((hF54.2.1 _ (xn1 (xne_k hk9999l hk9999z33 (by decide)) (xn1 (xne_k hk9999l hk9999z34 (by decide)) xn0))).trans (hF4.2.1 _ xn0)) ((hF54.2.1 _ (xn1 (xne_k hk9999m hk9999z33 (by decide)) (xn1 (xne_k hk9999m hk9999z34 (by decide)) xn0))).trans (hF4.2.1 _ xn0)) ((hF54.2.1 _ (xn1 (xne_k hk9999n hk9999z33 (by decide)) (xn1 (xne_k hk9999n hk9999z34 (by decide)) xn0))).trans (hF4.2.1 _ xn0)) ((hF54.2.1 _ (xn1 (xne_k hk9999p hk9999z33 (by decide)) (xn1 (xne_k hk9999p hk9999z34 (by decide)) xn0))).trans (hF4.2.1 _ xn0)) ((hF54.2.1 _ (xn1 (xne_k hk9999o hk9999z33 (by decide)) (xn1 (xne_k hk9999o hk9999z34 (by decide)) xn0))).trans (hF4.2.1 _ xn0)) ((hF54.2.2 _ xn0).trans (hF4.2.2 _ xn0)) ((hF54.1 _ _ xn0).trans (hF4.1 _ _ (xnj (by decide) xn0))) ((hF54.1 _ _ xn0).trans (hF4.1 _ _ (xnj (by decide) xn0))) ((hF54.1 _ _ xn0).trans (hF4.1 _ _ (xnj (by decide) xn0))) (hF54.1 _ _ xn0) ((hF54.1 _ _ xn0).trans (hF4.1 _ _ (xnj (by decide) xn0))) ((hF54.1 _ _ xn0).trans (hF4.1 _ _ (xnj (by decide) xn0))) ((hF54.1 _ _ xn0).trans (hF4.1 _ _ (xnj (by decide) xn0))) ((hF54.1 _ _ xn0).trans (hF4.1 _ _ (xnj (by decide) xn0))))) mv_X2_cutRow km_X10_214 rfl rfl ⟨Nat.le_of_ble_eq_true rfl, Nat.le_of_ble_eq_true rfl⟩ (rc_4 hK hT hk9999e) hK (fun _ => XP.blind) (fun U hU hW => XP.at hK hz hS hT hU hW) rfl hl.1 (Nat.le_of_ble_eq_true rfl) dX10_cut_71 ⟨Nat.le_of_ble_eq_true rfl, Nat.le_of_ble_eq_true rfl⟩) hS ?_
        rintro G71 H locs ⟨hF71, oq71, oq71a⟩ hT hS
        refine lv_aload_n hx hb dX10_cut_74 rfl (lv_at hl 0 rfl) ?_
        refine x_cl (x_runV (b := a) (As := []) (rest := []) S (c_X10_actAsOnPaper l E K F G71 a ha (by rw [(show (G71.1 (F a 2) 2).toInt = ((G.1 (F a 2) 2).toInt) from (congrArg Int32.toInt ((hF71.1 _ _ (xnj (by decide) xn0)).trans ((hF54.1 _ _ xn0).trans (hF4.1 _ _ (xnj (by decide) xn0))))).trans (rfl : Int32.toInt (G.1 (F a 2) 2) = ((G.1 (F a 2) 2).toInt)))] <;> exact (sb)) (by rw [(show (G71.1 (F a 8) 6).toInt = ((G.1 (F a 8) 6).toInt) from (congrArg Int32.toInt ((hF71.1 _ _ (xnj (by decide) xn0)).trans ((hF54.1 _ _ xn0).trans (hF4.1 _ _ (xnj (by decide) xn0))))).trans (rfl : Int32.toInt (G.1 (F a 8) 6) = ((G.1 (F a 8) 6).toInt)))] <;> exact (sw)) (v_X10_cut_75_8 (F := F) a G G71 G54 ron rob oq54a oq71a ((hF71.2.1 _ (xn1 (xne_k hk9999y hk9999z35 (by decide)) (xn1 (xne_k hk9999y hk9999z36 (by decide)) (xn1 (xne_k hk9999y hk9999z37 (by decide)) (xn1 (xne_k hk9999y hk9999z38 (by decide)) (xn1 (xne_j hj9999z37 hj9999z54 (by first | decide | omega)) (xn1 (xne_k hk9999y hk9999z34 (by decide)) xn0))))))).trans ((hF54.2.1 _ (xn1 (xne_j hj9999z37 hj9999z54 (by first | decide | omega)) (xn1 (xne_k hk9999y hk9999z34 (by decide)) xn0))).trans (hF4.2.1 _ xn0))) ((hF71.2.1 _ (xn1 (xne_k hk9999z25 hk9999z35 (by decide)) (xn1 (xne_k hk9999z25 hk9999z36 (by decide)) (xn1 (xne_k hk9999z25 hk9999z37 (by decide)) (xn1 (xne_k hk9999z25 hk9999z38 (by decide)) (xn1 (xne_k hk9999z25 hk9999z33 (by decide)) (xn1 (xne_j hj9999z39 hj9999z56 (by first | decide | omega)) xn0))))))).trans ((hF54.2.1 _ (xn1 (xne_k hk9999z25 hk9999z33 (by decide)) (xn1 (xne_j hj9999z39 hj9999z56 (by first | decide | omega)) xn0))).trans (hF4.2.1 _ xn0)))) (v_X10_cut_75_9 (F := F) a G71 oq71a) (v_X10_cut_75_10 (F := F) a G G71 G54 ron rob oq54a oq71a ((hF71.2.1 _ (xn1 (xne_k hk9999z43 hk9999z35 (by decide)) (xn1 (xne_k hk9999z43 hk9999z36 (by decide)) (xn1 (xne_k hk9999z43 hk9999z37 (by decide)) (xn1 (xne_k hk9999z43 hk9999z38 (by decide)) (xn1 (xne_j hj9999z66 hj9999z54 (by first | decide | omega)) (xn1 (xne_k hk9999z43 hk9999z34 (by decide)) xn0))))))).trans ((hF54.2.1 _ (xn1 (xne_j hj9999z66 hj9999z54 (by first | decide | omega)) (xn1 (xne_k hk9999z43 hk9999z34 (by decide)) xn0))).trans (hF4.2.1 _ xn0))) ((hF71.2.1 _ (xn1 (xne_k hk9999z44 hk9999z35 (by decide)) (xn1 (xne_k hk9999z44 hk9999z36 (by decide)) (xn1 (xne_k hk9999z44 hk9999z37 (by decide)) (xn1 (xne_k hk9999z44 hk9999z38 (by decide)) (xn1 (xne_k hk9999z44 hk9999z33 (by decide)) (xn1 (xne_j hj9999z68 hj9999z56 (by first | decide | omega)) xn0))))))).trans ((hF54.2.1 _ (xn1 (xne_k hk9999z44 hk9999z33 (by decide)) (xn1 (xne_j hj9999z68 hj9999z56 (by first | decide | omega)) xn0))).trans (hF4.2.1 _ xn0)))) (v_X10_cut_75_11 (K := K) (F := F) a G G71 G4 G54 p0 p1 x8 x15 x33 ha hk9999 hj9999 hk9999a hj9999a hk9999b hj9999b hk9999c hj9999c hk9999d hj9999d hk9999e hj9999e hk9999f hj9999f hk9999g hj9999g hk9999h hj9999h hk9999i hj9999j hk9999j hj9999l hk9999k hj9999n hk9999l hj9999p hk9999m hj9999r hk9999n hj9999t hk9999o hj9999u hk9999p hj9999v hk9999q hj9999y hk9999r hj9999z26 hk9999s hj9999z28 hk9999t hj9999z30 hk9999u hj9999z32 hk9999v hj9999z34 hk9999w hj9999z35 hk9999y hj9999z37 hk9999z25 hj9999z39 hk9999z26 hj9999z41 hk9999z27 hj9999z43 hk9999z28 hj9999z45 hk9999z29 hj9999z47 hk9999z30 hj9999z49 hk9999z31 hj9999z51 hk9999z32 hj9999z52 hk9999z33 hj9999z54 hk9999z34 hj9999z56 hk9999z35 hj9999z57 hk9999z36 hj9999z58 hk9999z37 hj9999z59 hk9999z38 hj9999z60 hk9999z39 hj9999z61 hk9999z40 hj9999z62 hk9999z41 hj9999z63 hk9999z42 hj9999z64 hk9999z43 hj9999z66 hk9999z44 hj9999z68 (XFr.call (XFr.call (XFr.call XFr.rf hF4 (xm1 2 rfl xm0) xm0 xm0) hF54 xm0 (xm1 25 rfl (xm1 26 rfl xm0)) xm0) hF71 (xm1 7 rfl xm0) (xm1 27 rfl (xm1 28 rfl (xm1 29 rfl (xm1 30 rfl (xm1 25 rfl (xm1 26 rfl xm0)))))) xm0) hF4 hF54 hF71 ron rob bko bkn hac oq54 oq54a oq71 oq71a sb sw t4 t8 c11 t15 c18 t33 c36 z57 ((hF71.2.1 _ (xn1 (xne_k hk9999q hk9999z35 (by decide)) (xn1 (xne_k hk9999q hk9999z36 (by decide)) (xn1 (xne_k hk9999q hk9999z37 (by decide)) (xn1 (xne_k hk9999q hk9999z38 (by decide)) (xn1 (xne_k hk9999q hk9999z33 (by decide)) (xn1 (xne_k hk9999q hk9999z34 (by decide)) xn0))))))).trans ((hF54.2.1 _ (xn1 (xne_k hk9999q hk9999z33 (by decide)) (xn1 (xne_k hk9999q hk9999z34 (by decide)) xn0))).trans (hF4.2.1 _ xn0))) ((hF71.2.1 _ (xn1 (xne_k hk9999r hk9999z35 (by decide)) (xn1 (xne_k hk9999r hk9999z36 (by decide)) (xn1 (xne_k hk9999r hk9999z37 (by decide)) (xn1 (xne_k hk9999r hk9999z38 (by decide)) (xn1 (xne_k hk9999r hk9999z33 (by decide)) (xn1 (xne_k hk9999r hk9999z34 (by decide)) xn0))))))).trans ((hF54.2.1 _ (xn1 (xne_k hk9999r hk9999z33 (by decide)) (xn1 (xne_k hk9999r hk9999z34 (by decide)) xn0))).trans (hF4.2.1 _ xn0))) ((hF71.2.1 _ (xn1 (xne_k hk9999s hk9999z35 (by decide)) (xn1 (xne_k hk9999s hk9999z36 (by decide)) (xn1 (xne_k hk9999s hk9999z37 (by decide)) (xn1 (xne_k hk9999s hk9999z38 (by decide)) (xn1 (xne_k hk9999s hk9999z33 (by decide)) (xn1 (xne_k hk9999s hk9999z34 (by decide)) xn0))))))).trans ((hF54.2.1 _ (xn1 (xne_k hk9999s hk9999z33 (by decide)) (xn1 (xne_k hk9999s hk9999z34 (by decide)) xn0))).trans (hF4.2.1 _ xn0))) ((hF71.2.1 _ (xn1 (xne_k hk9999t hk9999z35 (by decide)) (xn1 (xne_k hk9999t hk9999z36 (by decide)) (xn1 (xne_k hk9999t hk9999z37 (by decide)) (xn1 (xne_k hk9999t hk9999z38 (by decide)) (xn1 (xne_k hk9999t hk9999z33 (by decide)) (xn1 (xne_k hk9999t hk9999z34 (by decide)) xn0))))))).trans ((hF54.2.1 _ (xn1 (xne_k hk9999t hk9999z33 (by decide)) (xn1 (xne_k hk9999t hk9999z34 (by decide)) xn0))).trans (hF4.2.1 _ xn0))) ((hF71.2.1 _ (xn1 (xne_k hk9999u hk9999z35 (by decide)) (xn1 (xne_k hk9999u hk9999z36 (by decide)) (xn1 (xne_k hk9999u hk9999z37 (by decide)) (xn1 (xne_k hk9999u hk9999z38 (by decide)) (xn1 (xne_k hk9999u hk9999z33 (by decide)) (xn1 (xne_k hk9999u hk9999z34 (by decide)) xn0))))))).trans ((hF54.2.1 _ (xn1 (xne_k hk9999u hk9999z33 (by decide)) (xn1 (xne_k hk9999u hk9999z34 (by decide)) xn0))).trans (hF4.2.1 _ xn0))) ((hF71.2.1 _ (xn1 (xne_k hk9999v hk9999z35 (by decide)) (xn1 (xne_k hk9999v hk9999z36 (by decide)) (xn1 (xne_k hk9999v hk9999z37 (by decide)) (xn1 (xne_k hk9999v hk9999z38 (by decide)) (xn1 (xne_k hk9999v hk9999z33 (by decide)) (xn1 (xne_k hk9999v hk9999z34 (by decide)) xn0))))))).trans ((hF54.2.1 _ (xn1 (xne_k hk9999v hk9999z33 (by decide)) (xn1 (xne_k hk9999v hk9999z34 (by decide)) xn0))).trans (hF4.2.1 _ xn0))) ((hF71.2.1 _ (xn1 (xne_k hk9999f hk9999z35 (by decide)) (xn1 (xne_k hk9999f hk9999z36 (by decide)) (xn1 (xne_k hk9999f hk9999z37 (by decide)) (xn1 (xne_k hk9999f hk9999z38 (by decide)) (xn1 (xne_k hk9999f hk9999z33 (by decide)) (xn1 (xne_j hj9999f hj9999z56 (by first | decide | omega)) xn0))))))).trans ((hF54.2.1 _ (xn1 (xne_k hk9999f hk9999z33 (by decide)) (xn1 (xne_j hj9999f hj9999z56 (by first | decide | omega)) xn0))).trans (hF4.2.1 _ xn0))) ((hF71.2.1 _ (xn1 (xne_k hk9999g hk9999z35 (by decide)) (xn1 (xne_k hk9999g hk9999z36 (by decide)) (xn1 (xne_k hk9999g hk9999z37 (by decide)) (xn1 (xne_k hk9999g hk9999z38 (by decide)) (xn1 (xne_k hk9999g hk9999z33 (by decide)) (xn1 (xne_j hj9999g hj9999z56 (by first | decide | omega)) xn0))))))).trans ((hF54.2.1 _ (xn1 (xne_k hk9999g hk9999z33 (by decide)) (xn1 (xne_j hj9999g hj9999z56 (by first | decide | omega)) xn0))).trans (hF4.2.1 _ xn0))) ((hF71.2.1 _ (xn1 (xne_j hj9999h hj9999z57 (by first | decide | omega)) (xn1 (xne_j hj9999h hj9999z58 (by first | decide | omega)) (xn1 (xne_j hj9999h hj9999z59 (by first | decide | omega)) (xn1 (xne_j hj9999h hj9999z60 (by first | decide | omega)) (xn1 (xne_k hk9999h hk9999z33 (by decide)) (xn1 (xne_k hk9999h hk9999z34 (by decide)) xn0))))))).trans ((hF54.2.1 _ (xn1 (xne_k hk9999h hk9999z33 (by decide)) (xn1 (xne_k hk9999h hk9999z34 (by decide)) xn0))).trans (hF4.2.1 _ xn0))) ((hF71.2.1 _ (xn1 (xne_k hk9999y hk9999z35 (by decide)) (xn1 (xne_k hk9999y hk9999z36 (by decide)) (xn1 (xne_k hk9999y hk9999z37 (by decide)) (xn1 (xne_k hk9999y hk9999z38 (by decide)) (xn1 (xne_j hj9999z37 hj9999z54 (by first | decide | omega)) (xn1 (xne_k hk9999y hk9999z34 (by decide)) xn0))))))).trans ((hF54.2.1 _ (xn1 (xne_j hj9999z37 hj9999z54 (by first | decide | omega)) (xn1 (xne_k hk9999y hk9999z34 (by decide)) xn0))).trans (hF4.2.1 _ xn0))) ((hF71.2.1 _ (xn1 (xne_k hk9999z25 hk9999z35 (by decide)) (xn1 (xne_k hk9999z25 hk9999z36 (by decide)) (xn1 (xne_k hk9999z25 hk9999z37 (by decide)) (xn1 (xne_k hk9999z25 hk9999z38 (by decide)) (xn1 (xne_k hk9999z25 hk9999z33 (by decide)) (xn1 (xne_j hj9999z39 hj9999z56 (by first | decide | omega)) xn0))))))).trans ((hF54.2.1 _ (xn1 (xne_k hk9999z25 hk9999z33 (by decide)) (xn1 (xne_j hj9999z39 hj9999z56 (by first | decide | omega)) xn0))).trans (hF4.2.1 _ xn0))) ((hF71.2.1 _ (xn1 (xne_k hk9999z26 hk9999z35 (by decide)) (xn1 (xne_k hk9999z26 hk9999z36 (by decide)) (xn1 (xne_k hk9999z26 hk9999z37 (by decide)) (xn1 (xne_k hk9999z26 hk9999z38 (by decide)) (xn1 (xne_k hk9999z26 hk9999z33 (by decide)) (xn1 (xne_k hk9999z26 hk9999z34 (by decide)) xn0))))))).trans ((hF54.2.1 _ (xn1 (xne_k hk9999z26 hk9999z33 (by decide)) (xn1 (xne_k hk9999z26 hk9999z34 (by decide)) xn0))).trans (hF4.2.1 _ xn0))) ((hF71.2.1 _ (xn1 (xne_k hk9999z27 hk9999z35 (by decide)) (xn1 (xne_k hk9999z27 hk9999z36 (by decide)) (xn1 (xne_k hk9999z27 hk9999z37 (by decide)) (xn1 (xne_k hk9999z27 hk9999z38 (by decide)) (xn1 (xne_k hk9999z27 hk9999z33 (by decide)) (xn1 (xne_k hk9999z27 hk9999z34 (by decide)) xn0))))))).trans ((hF54.2.1 _ (xn1 (xne_k hk9999z27 hk9999z33 (by decide)) (xn1 (xne_k hk9999z27 hk9999z34 (by decide)) xn0))).trans (hF4.2.1 _ xn0))) ((hF71.2.1 _ (xn1 (xne_k hk9999z28 hk9999z35 (by decide)) (xn1 (xne_k hk9999z28 hk9999z36 (by decide)) (xn1 (xne_k hk9999z28 hk9999z37 (by decide)) (xn1 (xne_k hk9999z28 hk9999z38 (by decide)) (xn1 (xne_k hk9999z28 hk9999z33 (by decide)) (xn1 (xne_k hk9999z28 hk9999z34 (by decide)) xn0))))))).trans ((hF54.2.1 _ (xn1 (xne_k hk9999z28 hk9999z33 (by decide)) (xn1 (xne_k hk9999z28 hk9999z34 (by decide)) xn0))).trans (hF4.2.1 _ xn0))) ((hF71.2.1 _ (xn1 (xne_k hk9999z29 hk9999z35 (by decide)) (xn1 (xne_k hk9999z29 hk9999z36 (by decide)) (xn1 (xne_k hk9999z29 hk9999z37 (by decide)) (xn1 (xne_k hk9999z29 hk9999z38 (by decide)) (xn1 (xne_k hk9999z29 hk9999z33 (by decide)) (xn1 (xne_k hk9999z29 hk9999z34 (by decide)) xn0))))))).trans ((hF54.2.1 _ (xn1 (xne_k hk9999z29 hk9999z33 (by decide)) (xn1 (xne_k hk9999z29 hk9999z34 (by decide)) xn0))).trans (hF4.2.1 _ xn0))) ((hF71.2.1 _ (xn1 (xne_k hk9999z30 hk9999z35 (by decide)) (xn1 (xne_k hk9999z30 hk9999z36 (by decide)) (xn1 (xne_k hk9999z30 hk9999z37 (by decide)) (xn1 (xne_k hk9999z30 hk9999z38 (by decide)) (xn1 (xne_k hk9999z30 hk9999z33 (by decide)) (xn1 (xne_k hk9999z30 hk9999z34 (by decide)) xn0))))))).trans ((hF54.2.1 _ (xn1 (xne_k hk9999z30 hk9999z33 (by decide)) (xn1 (xne_k hk9999z30 hk9999z34 (by decide)) xn0))).trans (hF4.2.1 _ xn0))) ((hF71.2.1 _ (xn1 (xne_k hk9999z31 hk9999z35 (by decide)) (xn1 (xne_k hk9999z31 hk9999z36 (by decide)) (xn1 (xne_k hk9999z31 hk9999z37 (by decide)) (xn1 (xne_k hk9999z31 hk9999z38 (by decide)) (xn1 (xne_k hk9999z31 hk9999z33 (by decide)) (xn1 (xne_k hk9999z31 hk9999z34 (by decide)) xn0))))))).trans ((hF54.2.1 _ (xn1 (xne_k hk9999z31 hk9999z33 (by decide)) (xn1 (xne_k hk9999z31 hk9999z34 (by decide)) xn0))).trans (hF4.2.1 _ xn0))) ((hF71.2.1 _ (xn1 (xne_k hk9999i hk9999z35 (by decide)) (xn1 (xne_k hk9999i hk9999z36 (by decide)) (xn1 (xne_k hk9999i hk9999z37 (by decide)) (xn1 (xne_k hk9999i hk9999z38 (by decide)) (xn1 (xne_k hk9999i hk9999z33 (by decide)) (xn1 (xne_k hk9999i hk9999z34 (by decide)) xn0))))))).trans ((hF54.2.1 _ (xn1 (xne_k hk9999i hk9999z33 (by decide)) (xn1 (xne_k hk9999i hk9999z34 (by decide)) xn0))).trans (hF4.2.1 _ xn0))) ((hF71.2.1 _ (xn1 (xne_k hk9999j hk9999z35 (by decide)) (xn1 (xne_k hk9999j hk9999z36 (by decide)) (xn1 (xne_k hk9999j hk9999z37 (by decide)) (xn1 (xne_k hk9999j hk9999z38 (by decide)) (xn1 (xne_k hk9999j hk9999z33 (by decide)) (xn1 (xne_k hk9999j hk9999z34 (by decide)) xn0))))))).trans ((hF54.2.1 _ (xn1 (xne_k hk9999j hk9999z33 (by decide)) (xn1 (xne_k hk9999j hk9999z34 (by decide)) xn0))).trans (hF4.2.1 _ xn0))) ((hF71.2.1 _ (xn1 (xne_k hk9999k hk9999z35 (by decide)) (xn1 (xne_k hk9999k hk9999z36 (by decide)) (xn1 (xne_k hk9999k hk9999z37 (by decide)) (xn1 (xne_k hk9999k hk9999z38 (by decide)) (xn1 (xne_k hk9999k hk9999z33 (by decide)) (xn1 (xne_k hk9999k hk9999z34 (by decide)) xn0))))))).trans ((hF54.2.1 _ (xn1 (xne_k hk9999k hk9999z33 (by decide)) (xn1 (xne_k hk9999k hk9999z34 (by decide)) xn0))).trans (hF4.2.1 _ xn0))) ((hF71.2.1 _ (xn1 (xne_k hk9999l hk9999z35 (by decide)) (xn1 (xne_k hk9999l hk9999z36 (by decide)) (xn1 (xne_k hk9999l hk9999z37 (by decide)) (xn1 (xne_k hk9999l hk9999z38 (by decide)) (xn1 (xne_k hk9999l hk9999z33 (by decide)) (xn1 (xne_k hk9999l hk9999z34 (by decide)) xn0))))))).trans ((hF54.2.1 _ (xn1 (xne_k hk9999l hk9999z33 (by decide)) (xn1 (xne_k hk9999l hk9999z34 (by decide)) xn0))).trans (hF4.2.1 _ xn0))) ((hF71.2.1 _ (xn1 (xne_k hk9999m hk9999z35 (by decide)) (xn1 (xne_k hk9999m hk9999z36 (by decide)) (xn1 (xne_k hk9999m hk9999z37 (by decide)) (xn1 (xne_k hk9999m hk9999z38 (by decide)) (xn1 (xne_k hk9999m hk9999z33 (by decide)) (xn1 (xne_k hk9999m hk9999z34 (by decide)) xn0))))))).trans ((hF54.2.1 _ (xn1 (xne_k hk9999m hk9999z33 (by decide)) (xn1 (xne_k hk9999m hk9999z34 (by decide)) xn0))).trans (hF4.2.1 _ xn0))) ((hF71.2.1 _ (xn1 (xne_k hk9999n hk9999z35 (by decide)) (xn1 (xne_k hk9999n hk9999z36 (by decide)) (xn1 (xne_k hk9999n hk9999z37 (by decide)) (xn1 (xne_k hk9999n hk9999z38 (by decide)) (xn1 (xne_k hk9999n hk9999z33 (by decide)) (xn1 (xne_k hk9999n hk9999z34 (by decide)) xn0))))))).trans ((hF54.2.1 _ (xn1 (xne_k hk9999n hk9999z33 (by decide)) (xn1 (xne_k hk9999n hk9999z34 (by decide)) xn0))).trans (hF4.2.1 _ xn0))) ((hF71.2.1 _ (xn1 (xne_k hk9999p hk9999z35 (by decide)) (xn1 (xne_k hk9999p hk9999z36 (by decide)) (xn1 (xne_k hk9999p hk9999z37 (by decide)) (xn1 (xne_k hk9999p hk9999z38 (by decide)) (xn1 (xne_k hk9999p hk9999z33 (by decide)) (xn1 (xne_k hk9999p hk9999z34 (by decide)) xn0))))))).trans ((hF54.2.1 _ (xn1 (xne_k hk9999p hk9999z33 (by decide)) (xn1 (xne_k hk9999p hk9999z34 (by decide)) xn0))).trans (hF4.2.1 _ xn0))) ((hF71.2.1 _ (xn1 (xne_k hk9999o hk9999z35 (by decide)) (xn1 (xne_k hk9999o hk9999z36 (by decide)) (xn1 (xne_k hk9999o hk9999z37 (by decide)) (xn1 (xne_k hk9999o hk9999z38 (by decide)) (xn1 (xne_k hk9999o hk9999z33 (by decide)) (xn1 (xne_k hk9999o hk9999z34 (by decide)) xn0))))))).trans ((hF54.2.1 _ (xn1 (xne_k hk9999o hk9999z33 (by decide)) (xn1 (xne_k hk9999o hk9999z34 (by decide)) xn0))).trans (hF4.2.1 _ xn0))) ((hF54.2.2 _ xn0).trans (hF4.2.2 _ xn0)) ((hF71.2.2 _ xn0).trans ((hF54.2.2 _ xn0).trans (hF4.2.2 _ xn0))) ((hF71.2.2 _ xn0).trans ((hF54.2.2 _ xn0).trans (hF4.2.2 _ xn0))) ((hF71.1 _ _ (xnj (by decide) xn0)).trans ((hF54.1 _ _ xn0).trans (hF4.1 _ _ (xnj (by decide) xn0)))) ((hF71.1 _ _ (xnj (by decide) xn0)).trans ((hF54.1 _ _ xn0).trans (hF4.1 _ _ (xnj (by decide) xn0)))) ((hF71.1 _ _ (xnj (by decide) xn0)).trans (hF54.1 _ _ xn0)) ((hF71.1 _ _ (xnj (by decide) xn0)).trans ((hF54.1 _ _ xn0).trans (hF4.1 _ _ (xnj (by decide) xn0)))) ((hF71.1 _ _ (xnj (by decide) xn0)).trans ((hF54.1 _ _ xn0).trans (hF4.1 _ _ (xnj (by decide) xn0)))) ((hF71.1 _ _ (xnj (by decide) xn0)).trans ((hF54.1 _ _ xn0).trans (hF4.1 _ _ (xnj (by decide) xn0)))) ((hF71.1 _ _ (xnj (by decide) xn0)).trans ((hF54.1 _ _ xn0).trans (hF4.1 _ _ (xnj (by decide) xn0))))) (v_X10_cut_75_12 (K := K) (F := F) a G G71 G4 G54 p0 p1 x8 x15 x33 ha hk9999 hj9999 hk9999a hj9999a hk9999b hj9999b hk9999c hj9999c hk9999d hj9999d hk9999e hj9999e hk9999f hj9999f hk9999g hj9999g hk9999h hj9999h hk9999i hj9999j hk9999j hj9999l hk9999k hj9999n hk9999l hj9999p hk9999m hj9999r hk9999n hj9999t hk9999o hj9999u hk9999p hj9999v hk9999q hj9999y hk9999r hj9999z26 hk9999s hj9999z28 hk9999t hj9999z30 hk9999u hj9999z32 hk9999v hj9999z34 hk9999w hj9999z35 hk9999y hj9999z37 hk9999z25 hj9999z39 hk9999z26 hj9999z41 hk9999z27 hj9999z43 hk9999z28 hj9999z45 hk9999z29 hj9999z47 hk9999z30 hj9999z49 hk9999z31 hj9999z51 hk9999z32 hj9999z52 hk9999z33 hj9999z54 hk9999z34 hj9999z56 hk9999z35 hj9999z57 hk9999z36 hj9999z58 hk9999z37 hj9999z59 hk9999z38 hj9999z60 hk9999z39 hj9999z61 hk9999z40 hj9999z62 hk9999z41 hj9999z63 hk9999z42 hj9999z64 hk9999z43 hj9999z66 hk9999z44 hj9999z68 (XFr.call (XFr.call (XFr.call XFr.rf hF4 (xm1 2 rfl xm0) xm0 xm0) hF54 xm0 (xm1 25 rfl (xm1 26 rfl xm0)) xm0) hF71 (xm1 7 rfl xm0) (xm1 27 rfl (xm1 28 rfl (xm1 29 rfl (xm1 30 rfl (xm1 25 rfl (xm1 26 rfl xm0)))))) xm0) hF4 hF54 hF71 ron rob bko bkn hac oq54 oq54a oq71 oq71a sb sw t4 t8 c11 t15 c18 t33 c36 z57 ((hF71.2.1 _ (xn1 (xne_k hk9999q hk9999z35 (by decide)) (xn1 (xne_k hk9999q hk9999z36 (by decide)) (xn1 (xne_k hk9999q hk9999z37 (by decide)) (xn1 (xne_k hk9999q hk9999z38 (by decide)) (xn1 (xne_k hk9999q hk9999z33 (by decide)) (xn1 (xne_k hk9999q hk9999z34 (by decide)) xn0))))))).trans ((hF54.2.1 _ (xn1 (xne_k hk9999q hk9999z33 (by decide)) (xn1 (xne_k hk9999q hk9999z34 (by decide)) xn0))).trans (hF4.2.1 _ xn0))) ((hF71.2.1 _ (xn1 (xne_k hk9999r hk9999z35 (by decide)) (xn1 (xne_k hk9999r hk9999z36 (by decide)) (xn1 (xne_k hk9999r hk9999z37 (by decide)) (xn1 (xne_k hk9999r hk9999z38 (by decide)) (xn1 (xne_k hk9999r hk9999z33 (by decide)) (xn1 (xne_k hk9999r hk9999z34 (by decide)) xn0))))))).trans ((hF54.2.1 _ (xn1 (xne_k hk9999r hk9999z33 (by decide)) (xn1 (xne_k hk9999r hk9999z34 (by decide)) xn0))).trans (hF4.2.1 _ xn0))) ((hF71.2.1 _ (xn1 (xne_k hk9999s hk9999z35 (by decide)) (xn1 (xne_k hk9999s hk9999z36 (by decide)) (xn1 (xne_k hk9999s hk9999z37 (by decide)) (xn1 (xne_k hk9999s hk9999z38 (by decide)) (xn1 (xne_k hk9999s hk9999z33 (by decide)) (xn1 (xne_k hk9999s hk9999z34 (by decide)) xn0))))))).trans ((hF54.2.1 _ (xn1 (xne_k hk9999s hk9999z33 (by decide)) (xn1 (xne_k hk9999s hk9999z34 (by decide)) xn0))).trans (hF4.2.1 _ xn0))) ((hF71.2.1 _ (xn1 (xne_k hk9999t hk9999z35 (by decide)) (xn1 (xne_k hk9999t hk9999z36 (by decide)) (xn1 (xne_k hk9999t hk9999z37 (by decide)) (xn1 (xne_k hk9999t hk9999z38 (by decide)) (xn1 (xne_k hk9999t hk9999z33 (by decide)) (xn1 (xne_k hk9999t hk9999z34 (by decide)) xn0))))))).trans ((hF54.2.1 _ (xn1 (xne_k hk9999t hk9999z33 (by decide)) (xn1 (xne_k hk9999t hk9999z34 (by decide)) xn0))).trans (hF4.2.1 _ xn0))) ((hF71.2.1 _ (xn1 (xne_k hk9999u hk9999z35 (by decide)) (xn1 (xne_k hk9999u hk9999z36 (by decide)) (xn1 (xne_k hk9999u hk9999z37 (by decide)) (xn1 (xne_k hk9999u hk9999z38 (by decide)) (xn1 (xne_k hk9999u hk9999z33 (by decide)) (xn1 (xne_k hk9999u hk9999z34 (by decide)) xn0))))))).trans ((hF54.2.1 _ (xn1 (xne_k hk9999u hk9999z33 (by decide)) (xn1 (xne_k hk9999u hk9999z34 (by decide)) xn0))).trans (hF4.2.1 _ xn0))) ((hF71.2.1 _ (xn1 (xne_k hk9999v hk9999z35 (by decide)) (xn1 (xne_k hk9999v hk9999z36 (by decide)) (xn1 (xne_k hk9999v hk9999z37 (by decide)) (xn1 (xne_k hk9999v hk9999z38 (by decide)) (xn1 (xne_k hk9999v hk9999z33 (by decide)) (xn1 (xne_k hk9999v hk9999z34 (by decide)) xn0))))))).trans ((hF54.2.1 _ (xn1 (xne_k hk9999v hk9999z33 (by decide)) (xn1 (xne_k hk9999v hk9999z34 (by decide)) xn0))).trans (hF4.2.1 _ xn0))) ((hF71.2.1 _ (xn1 (xne_k hk9999f hk9999z35 (by decide)) (xn1 (xne_k hk9999f hk9999z36 (by decide)) (xn1 (xne_k hk9999f hk9999z37 (by decide)) (xn1 (xne_k hk9999f hk9999z38 (by decide)) (xn1 (xne_k hk9999f hk9999z33 (by decide)) (xn1 (xne_j hj9999f hj9999z56 (by first | decide | omega)) xn0))))))).trans ((hF54.2.1 _ (xn1 (xne_k hk9999f hk9999z33 (by decide)) (xn1 (xne_j hj9999f hj9999z56 (by first | decide | omega)) xn0))).trans (hF4.2.1 _ xn0))) ((hF71.2.1 _ (xn1 (xne_k hk9999g hk9999z35 (by decide)) (xn1 (xne_k hk9999g hk9999z36 (by decide)) (xn1 (xne_k hk9999g hk9999z37 (by decide)) (xn1 (xne_k hk9999g hk9999z38 (by decide)) (xn1 (xne_k hk9999g hk9999z33 (by decide)) (xn1 (xne_j hj9999g hj9999z56 (by first | decide | omega)) xn0))))))).trans ((hF54.2.1 _ (xn1 (xne_k hk9999g hk9999z33 (by decide)) (xn1 (xne_j hj9999g hj9999z56 (by first | decide | omega)) xn0))).trans (hF4.2.1 _ xn0))) ((hF71.2.1 _ (xn1 (xne_j hj9999h hj9999z57 (by first | decide | omega)) (xn1 (xne_j hj9999h hj9999z58 (by first | decide | omega)) (xn1 (xne_j hj9999h hj9999z59 (by first | decide | omega)) (xn1 (xne_j hj9999h hj9999z60 (by first | decide | omega)) (xn1 (xne_k hk9999h hk9999z33 (by decide)) (xn1 (xne_k hk9999h hk9999z34 (by decide)) xn0))))))).trans ((hF54.2.1 _ (xn1 (xne_k hk9999h hk9999z33 (by decide)) (xn1 (xne_k hk9999h hk9999z34 (by decide)) xn0))).trans (hF4.2.1 _ xn0))) ((hF71.2.1 _ (xn1 (xne_k hk9999y hk9999z35 (by decide)) (xn1 (xne_k hk9999y hk9999z36 (by decide)) (xn1 (xne_k hk9999y hk9999z37 (by decide)) (xn1 (xne_k hk9999y hk9999z38 (by decide)) (xn1 (xne_j hj9999z37 hj9999z54 (by first | decide | omega)) (xn1 (xne_k hk9999y hk9999z34 (by decide)) xn0))))))).trans ((hF54.2.1 _ (xn1 (xne_j hj9999z37 hj9999z54 (by first | decide | omega)) (xn1 (xne_k hk9999y hk9999z34 (by decide)) xn0))).trans (hF4.2.1 _ xn0))) ((hF71.2.1 _ (xn1 (xne_k hk9999z25 hk9999z35 (by decide)) (xn1 (xne_k hk9999z25 hk9999z36 (by decide)) (xn1 (xne_k hk9999z25 hk9999z37 (by decide)) (xn1 (xne_k hk9999z25 hk9999z38 (by decide)) (xn1 (xne_k hk9999z25 hk9999z33 (by decide)) (xn1 (xne_j hj9999z39 hj9999z56 (by first | decide | omega)) xn0))))))).trans ((hF54.2.1 _ (xn1 (xne_k hk9999z25 hk9999z33 (by decide)) (xn1 (xne_j hj9999z39 hj9999z56 (by first | decide | omega)) xn0))).trans (hF4.2.1 _ xn0))) ((hF71.2.1 _ (xn1 (xne_k hk9999z26 hk9999z35 (by decide)) (xn1 (xne_k hk9999z26 hk9999z36 (by decide)) (xn1 (xne_k hk9999z26 hk9999z37 (by decide)) (xn1 (xne_k hk9999z26 hk9999z38 (by decide)) (xn1 (xne_k hk9999z26 hk9999z33 (by decide)) (xn1 (xne_k hk9999z26 hk9999z34 (by decide)) xn0))))))).trans ((hF54.2.1 _ (xn1 (xne_k hk9999z26 hk9999z33 (by decide)) (xn1 (xne_k hk9999z26 hk9999z34 (by decide)) xn0))).trans (hF4.2.1 _ xn0))) ((hF71.2.1 _ (xn1 (xne_k hk9999z27 hk9999z35 (by decide)) (xn1 (xne_k hk9999z27 hk9999z36 (by decide)) (xn1 (xne_k hk9999z27 hk9999z37 (by decide)) (xn1 (xne_k hk9999z27 hk9999z38 (by decide)) (xn1 (xne_k hk9999z27 hk9999z33 (by decide)) (xn1 (xne_k hk9999z27 hk9999z34 (by decide)) xn0))))))).trans ((hF54.2.1 _ (xn1 (xne_k hk9999z27 hk9999z33 (by decide)) (xn1 (xne_k hk9999z27 hk9999z34 (by decide)) xn0))).trans (hF4.2.1 _ xn0))) ((hF71.2.1 _ (xn1 (xne_k hk9999z28 hk9999z35 (by decide)) (xn1 (xne_k hk9999z28 hk9999z36 (by decide)) (xn1 (xne_k hk9999z28 hk9999z37 (by decide)) (xn1 (xne_k hk9999z28 hk9999z38 (by decide)) (xn1 (xne_k hk9999z28 hk9999z33 (by decide)) (xn1 (xne_k hk9999z28 hk9999z34 (by decide)) xn0))))))).trans ((hF54.2.1 _ (xn1 (xne_k hk9999z28 hk9999z33 (by decide)) (xn1 (xne_k hk9999z28 hk9999z34 (by decide)) xn0))).trans (hF4.2.1 _ xn0))) ((hF71.2.1 _ (xn1 (xne_k hk9999z29 hk9999z35 (by decide)) (xn1 (xne_k hk9999z29 hk9999z36 (by decide)) (xn1 (xne_k hk9999z29 hk9999z37 (by decide)) (xn1 (xne_k hk9999z29 hk9999z38 (by decide)) (xn1 (xne_k hk9999z29 hk9999z33 (by decide)) (xn1 (xne_k hk9999z29 hk9999z34 (by decide)) xn0))))))).trans ((hF54.2.1 _ (xn1 (xne_k hk9999z29 hk9999z33 (by decide)) (xn1 (xne_k hk9999z29 hk9999z34 (by decide)) xn0))).trans (hF4.2.1 _ xn0))) ((hF71.2.1 _ (xn1 (xne_k hk9999z30 hk9999z35 (by decide)) (xn1 (xne_k hk9999z30 hk9999z36 (by decide)) (xn1 (xne_k hk9999z30 hk9999z37 (by decide)) (xn1 (xne_k hk9999z30 hk9999z38 (by decide)) (xn1 (xne_k hk9999z30 hk9999z33 (by decide)) (xn1 (xne_k hk9999z30 hk9999z34 (by decide)) xn0))))))).trans ((hF54.2.1 _ (xn1 (xne_k hk9999z30 hk9999z33 (by decide)) (xn1 (xne_k hk9999z30 hk9999z34 (by decide)) xn0))).trans (hF4.2.1 _ xn0))) ((hF71.2.1 _ (xn1 (xne_k hk9999z31 hk9999z35 (by decide)) (xn1 (xne_k hk9999z31 hk9999z36 (by decide)) (xn1 (xne_k hk9999z31 hk9999z37 (by decide)) (xn1 (xne_k hk9999z31 hk9999z38 (by decide)) (xn1 (xne_k hk9999z31 hk9999z33 (by decide)) (xn1 (xne_k hk9999z31 hk9999z34 (by decide)) xn0))))))).trans ((hF54.2.1 _ (xn1 (xne_k hk9999z31 hk9999z33 (by decide)) (xn1 (xne_k hk9999z31 hk9999z34 (by decide)) xn0))).trans (hF4.2.1 _ xn0))) ((hF71.2.1 _ (xn1 (xne_k hk9999i hk9999z35 (by decide)) (xn1 (xne_k hk9999i hk9999z36 (by decide)) (xn1 (xne_k hk9999i hk9999z37 (by decide)) (xn1 (xne_k hk9999i hk9999z38 (by decide)) (xn1 (xne_k hk9999i hk9999z33 (by decide)) (xn1 (xne_k hk9999i hk9999z34 (by decide)) xn0))))))).trans ((hF54.2.1 _ (xn1 (xne_k hk9999i hk9999z33 (by decide)) (xn1 (xne_k hk9999i hk9999z34 (by decide)) xn0))).trans (hF4.2.1 _ xn0))) ((hF71.2.1 _ (xn1 (xne_k hk9999j hk9999z35 (by decide)) (xn1 (xne_k hk9999j hk9999z36 (by decide)) (xn1 (xne_k hk9999j hk9999z37 (by decide)) (xn1 (xne_k hk9999j hk9999z38 (by decide)) (xn1 (xne_k hk9999j hk9999z33 (by decide)) (xn1 (xne_k hk9999j hk9999z34 (by decide)) xn0))))))).trans ((hF54.2.1 _ (xn1 (xne_k hk9999j hk9999z33 (by decide)) (xn1 (xne_k hk9999j hk9999z34 (by decide)) xn0))).trans (hF4.2.1 _ xn0))) ((hF71.2.1 _ (xn1 (xne_k hk9999k hk9999z35 (by decide)) (xn1 (xne_k hk9999k hk9999z36 (by decide)) (xn1 (xne_k hk9999k hk9999z37 (by decide)) (xn1 (xne_k hk9999k hk9999z38 (by decide)) (xn1 (xne_k hk9999k hk9999z33 (by decide)) (xn1 (xne_k hk9999k hk9999z34 (by decide)) xn0))))))).trans ((hF54.2.1 _ (xn1 (xne_k hk9999k hk9999z33 (by decide)) (xn1 (xne_k hk9999k hk9999z34 (by decide)) xn0))).trans (hF4.2.1 _ xn0))) ((hF71.2.1 _ (xn1 (xne_k hk9999l hk9999z35 (by decide)) (xn1 (xne_k hk9999l hk9999z36 (by decide)) (xn1 (xne_k hk9999l hk9999z37 (by decide)) (xn1 (xne_k hk9999l hk9999z38 (by decide)) (xn1 (xne_k hk9999l hk9999z33 (by decide)) (xn1 (xne_k hk9999l hk9999z34 (by decide)) xn0))))))).trans ((hF54.2.1 _ (xn1 (xne_k hk9999l hk9999z33 (by decide)) (xn1 (xne_k hk9999l hk9999z34 (by decide)) xn0))).trans (hF4.2.1 _ xn0))) ((hF71.2.1 _ (xn1 (xne_k hk9999m hk9999z35 (by decide)) (xn1 (xne_k hk9999m hk9999z36 (by decide)) (xn1 (xne_k hk9999m hk9999z37 (by decide)) (xn1 (xne_k hk9999m hk9999z38 (by decide)) (xn1 (xne_k hk9999m hk9999z33 (by decide)) (xn1 (xne_k hk9999m hk9999z34 (by decide)) xn0))))))).trans ((hF54.2.1 _ (xn1 (xne_k hk9999m hk9999z33 (by decide)) (xn1 (xne_k hk9999m hk9999z34 (by decide)) xn0))).trans (hF4.2.1 _ xn0))) ((hF71.2.1 _ (xn1 (xne_k hk9999n hk9999z35 (by decide)) (xn1 (xne_k hk9999n hk9999z36 (by decide)) (xn1 (xne_k hk9999n hk9999z37 (by decide)) (xn1 (xne_k hk9999n hk9999z38 (by decide)) (xn1 (xne_k hk9999n hk9999z33 (by decide)) (xn1 (xne_k hk9999n hk9999z34 (by decide)) xn0))))))).trans ((hF54.2.1 _ (xn1 (xne_k hk9999n hk9999z33 (by decide)) (xn1 (xne_k hk9999n hk9999z34 (by decide)) xn0))).trans (hF4.2.1 _ xn0))) ((hF71.2.1 _ (xn1 (xne_k hk9999p hk9999z35 (by decide)) (xn1 (xne_k hk9999p hk9999z36 (by decide)) (xn1 (xne_k hk9999p hk9999z37 (by decide)) (xn1 (xne_k hk9999p hk9999z38 (by decide)) (xn1 (xne_k hk9999p hk9999z33 (by decide)) (xn1 (xne_k hk9999p hk9999z34 (by decide)) xn0))))))).trans ((hF54.2.1 _ (xn1 (xne_k hk9999p hk9999z33 (by decide)) (xn1 (xne_k hk9999p hk9999z34 (by decide)) xn0))).trans (hF4.2.1 _ xn0))) ((hF71.2.1 _ (xn1 (xne_k hk9999o hk9999z35 (by decide)) (xn1 (xne_k hk9999o hk9999z36 (by decide)) (xn1 (xne_k hk9999o hk9999z37 (by decide)) (xn1 (xne_k hk9999o hk9999z38 (by decide)) (xn1 (xne_k hk9999o hk9999z33 (by decide)) (xn1 (xne_k hk9999o hk9999z34 (by decide)) xn0))))))).trans ((hF54.2.1 _ (xn1 (xne_k hk9999o hk9999z33 (by decide)) (xn1 (xne_k hk9999o hk9999z34 (by decide)) xn0))).trans (hF4.2.1 _ xn0))) ((hF54.2.2 _ xn0).trans (hF4.2.2 _ xn0)) ((hF71.2.2 _ xn0).trans ((hF54.2.2 _ xn0).trans (hF4.2.2 _ xn0))) ((hF71.2.2 _ xn0).trans ((hF54.2.2 _ xn0).trans (hF4.2.2 _ xn0))) ((hF71.1 _ _ (xnj (by decide) xn0)).trans ((hF54.1 _ _ xn0).trans (hF4.1 _ _ (xnj (by decide) xn0)))) ((hF71.1 _ _ (xnj (by decide) xn0)).trans ((hF54.1 _ _ xn0).trans (hF4.1 _ _ (xnj (by decide) xn0)))) ((hF71.1 _ _ (xnj (by decide) xn0)).trans (hF54.1 _ _ xn0)) ((hF71.1 _ _ (xnj (by decide) xn0)).trans ((hF54.1 _ _ xn0).trans (hF4.1 _ _ (xnj (by decide) xn0)))) ((hF71.1 _ _ (xnj (by decide) xn0)).trans ((hF54.1 _ _ xn0).trans (hF4.1 _ _ (xnj (by decide) xn0)))) ((hF71.1 _ _ (xnj (by decide) xn0)).trans ((hF54.1 _ _ xn0).trans (hF4.1 _ _ (xnj (by decide) xn0)))) ((hF71.1 _ _ (xnj (by decide) xn0)).trans ((hF54.1 _ _ xn0).trans (hF4.1 _ _ (xnj (by decide) xn0)))))) mv_X10_actAsOnPaper km_X10_207 rfl rfl ⟨Nat.le_of_ble_eq_true rfl, Nat.le_of_ble_eq_true rfl⟩ (rc_12 hK hT ha) hK (fun _ => XP.blind) (fun U hU hW => XP.at hK hz hS hT hU hW) rfl hl.1 (Nat.le_of_ble_eq_true rfl) dX10_cut_75 ⟨Nat.le_of_ble_eq_true rfl, Nat.le_of_ble_eq_true rfl⟩) hS ?_
        rintro _ G75 H locs ⟨x75, rfl, hF75, t75, oq75, oq75a⟩ hT hS
        have t75 : 0 ≤ ((G75.1 (F a 8) 6).toInt) ∧ ((G75.1 (F a 8) 6).toInt) ≤ 1080 := t75
        have oq75 : ActR ((G.1 a 18).toInt) x75.toInt (gaL G71 (G71.2.2.1 (F (F a 2) 1)) (vw (G.2.1 (F (F a 3) 0))) (vw (G71.2.1 (F (F a 5) 0))) 0 (((G.1 (F a 2) 2).toInt)).toNat) (vw (G.2.1 (F (F a 3) 0))) (vw (G75.2.1 (F (F a 3) 0))) (vw (G71.2.1 (F (F a 5) 0))) (qL G71 F (F a 8)) (qL G75 F (F a 8)) (gaL G71 (G71.2.2.1 (F (F a 2) 1)) (vw (G.2.1 (F (F a 4) 0))) (vw (G71.2.1 (F (F a 5) 0))) 1 (((G.1 (F a 2) 2).toInt)).toNat) := by simp only [(show G71.1 a 18 = G.1 a 18 from ((hF71.1 _ _ (xnj (by decide) xn0)).trans ((hF54.1 _ _ xn0).trans (hF4.1 _ _ (xnj (by decide) xn0))))), (show G71.2.1 (F (F a 3) 0) = G.2.1 (F (F a 3) 0) from ((hF71.2.1 _ (xn1 (xne_k hk9999y hk9999z35 (by decide)) (xn1 (xne_k hk9999y hk9999z36 (by decide)) (xn1 (xne_k hk9999y hk9999z37 (by decide)) (xn1 (xne_k hk9999y hk9999z38 (by decide)) (xn1 (xne_j hj9999z37 hj9999z54 (by first | decide | omega)) (xn1 (xne_k hk9999y hk9999z34 (by decide)) xn0))))))).trans ((hF54.2.1 _ (xn1 (xne_j hj9999z37 hj9999z54 (by first | decide | omega)) (xn1 (xne_k hk9999y hk9999z34 (by decide)) xn0))).trans (hF4.2.1 _ xn0)))), (show G71.1 (F a 2) 2 = G.1 (F a 2) 2 from ((hF71.1 _ _ (xnj (by decide) xn0)).trans ((hF54.1 _ _ xn0).trans (hF4.1 _ _ (xnj (by decide) xn0))))), (show G71.2.1 (F (F a 4) 0) = G.2.1 (F (F a 4) 0) from ((hF71.2.1 _ (xn1 (xne_k hk9999z43 hk9999z35 (by decide)) (xn1 (xne_k hk9999z43 hk9999z36 (by decide)) (xn1 (xne_k hk9999z43 hk9999z37 (by decide)) (xn1 (xne_k hk9999z43 hk9999z38 (by decide)) (xn1 (xne_j hj9999z66 hj9999z54 (by first | decide | omega)) (xn1 (xne_k hk9999z43 hk9999z34 (by decide)) xn0))))))).trans ((hF54.2.1 _ (xn1 (xne_j hj9999z66 hj9999z54 (by first | decide | omega)) (xn1 (xne_k hk9999z43 hk9999z34 (by decide)) xn0))).trans (hF4.2.1 _ xn0))))] at oq75; exact oq75
        exact x_ri hx hb hr hlk hQ (Nat.le_of_ble_eq_true rfl) (Nat.le_of_ble_eq_true rfl) hS dX10_cut_78 G75 ⟨_, rfl, (XFr.call (XFr.call (XFr.call (XFr.call XFr.rf hF4 (xm1 2 rfl xm0) xm0 xm0) hF54 xm0 (xm1 25 rfl (xm1 26 rfl xm0)) xm0) hF71 (xm1 7 rfl xm0) (xm1 27 rfl (xm1 28 rfl (xm1 29 rfl (xm1 30 rfl (xm1 25 rfl (xm1 26 rfl xm0)))))) xm0) hF75 (xm1 0 rfl (xm1 1 rfl (xm1 2 rfl (xm1 3 rfl (xm1 4 rfl (xm1 5 rfl (xm1 6 rfl xm0))))))) (xm1 0 rfl (xm1 1 rfl (xm1 2 rfl (xm1 3 rfl (xm1 4 rfl (xm1 5 rfl (xm1 6 rfl (xm1 7 rfl (xm1 8 rfl (xm1 9 rfl (xm1 10 rfl (xm1 11 rfl (xm1 12 rfl (xm1 13 rfl (xm1 14 rfl (xm1 15 rfl (xm1 16 rfl (xm1 17 rfl (xm1 18 rfl (xm1 19 rfl (xm1 20 rfl (xm1 21 rfl (xm1 22 rfl (xm1 23 rfl (xm1 24 rfl xm0))))))))))))))))))))))))) xm0), (t75), (v_X10_cut_78_13 (K := K) (F := F) a G G75 G4 G54 G71 p0 p1 x75 x8 x15 x33 ha hk9999 hj9999 hk9999a hj9999a hk9999b hj9999b hk9999c hj9999c hk9999d hj9999d hk9999e hj9999e hk9999f hj9999f hk9999g hj9999g hk9999h hj9999h hk9999i hj9999j hk9999j hj9999l hk9999k hj9999n hk9999l hj9999p hk9999m hj9999r hk9999n hj9999t hk9999o hj9999u hk9999p hj9999v hk9999q hj9999y hk9999r hj9999z26 hk9999s hj9999z28 hk9999t hj9999z30 hk9999u hj9999z32 hk9999v hj9999z34 hk9999w hj9999z35 hk9999y hj9999z37 hk9999z25 hj9999z39 hk9999z26 hj9999z41 hk9999z27 hj9999z43 hk9999z28 hj9999z45 hk9999z29 hj9999z47 hk9999z30 hj9999z49 hk9999z31 hj9999z51 hk9999z32 hj9999z52 hk9999z33 hj9999z54 hk9999z34 hj9999z56 hk9999z35 hj9999z57 hk9999z36 hj9999z58 hk9999z37 hj9999z59 hk9999z38 hj9999z60 hk9999z39 hj9999z61 hk9999z40 hj9999z62 hk9999z41 hj9999z63 hk9999z42 hj9999z64 hk9999z43 hj9999z66 hk9999z44 hj9999z68 (XFr.call (XFr.call (XFr.call (XFr.call XFr.rf hF4 (xm1 2 rfl xm0) xm0 xm0) hF54 xm0 (xm1 25 rfl (xm1 26 rfl xm0)) xm0) hF71 (xm1 7 rfl xm0) (xm1 27 rfl (xm1 28 rfl (xm1 29 rfl (xm1 30 rfl (xm1 25 rfl (xm1 26 rfl xm0)))))) xm0) hF75 (xm1 0 rfl (xm1 1 rfl (xm1 2 rfl (xm1 3 rfl (xm1 4 rfl (xm1 5 rfl (xm1 6 rfl xm0))))))) (xm1 0 rfl (xm1 1 rfl (xm1 2 rfl (xm1 3 rfl (xm1 4 rfl (xm1 5 rfl (xm1 6 rfl (xm1 7 rfl (xm1 8 rfl (xm1 9 rfl (xm1 10 rfl (xm1 11 rfl (xm1 12 rfl (xm1 13 rfl (xm1 14 rfl (xm1 15 rfl (xm1 16 rfl (xm1 17 rfl (xm1 18 rfl (xm1 19 rfl (xm1 20 rfl (xm1 21 rfl (xm1 22 rfl (xm1 23 rfl (xm1 24 rfl xm0))))))))))))))))))))))))) xm0) hF71 hF75 bko bkn oq54 oq71 oq75 sb sw t4 t8 c11 t15 c18 t33 c36 z57 t75 ((hF71.2.1 _ (xn1 (xne_k hk9999z26 hk9999z35 (by decide)) (xn1 (xne_k hk9999z26 hk9999z36 (by decide)) (xn1 (xne_k hk9999z26 hk9999z37 (by decide)) (xn1 (xne_k hk9999z26 hk9999z38 (by decide)) (xn1 (xne_k hk9999z26 hk9999z33 (by decide)) (xn1 (xne_k hk9999z26 hk9999z34 (by decide)) xn0))))))).trans ((hF54.2.1 _ (xn1 (xne_k hk9999z26 hk9999z33 (by decide)) (xn1 (xne_k hk9999z26 hk9999z34 (by decide)) xn0))).trans (hF4.2.1 _ xn0))) ((hF71.2.1 _ (xn1 (xne_k hk9999z27 hk9999z35 (by decide)) (xn1 (xne_k hk9999z27 hk9999z36 (by decide)) (xn1 (xne_k hk9999z27 hk9999z37 (by decide)) (xn1 (xne_k hk9999z27 hk9999z38 (by decide)) (xn1 (xne_k hk9999z27 hk9999z33 (by decide)) (xn1 (xne_k hk9999z27 hk9999z34 (by decide)) xn0))))))).trans ((hF54.2.1 _ (xn1 (xne_k hk9999z27 hk9999z33 (by decide)) (xn1 (xne_k hk9999z27 hk9999z34 (by decide)) xn0))).trans (hF4.2.1 _ xn0))) ((hF71.2.1 _ (xn1 (xne_k hk9999z28 hk9999z35 (by decide)) (xn1 (xne_k hk9999z28 hk9999z36 (by decide)) (xn1 (xne_k hk9999z28 hk9999z37 (by decide)) (xn1 (xne_k hk9999z28 hk9999z38 (by decide)) (xn1 (xne_k hk9999z28 hk9999z33 (by decide)) (xn1 (xne_k hk9999z28 hk9999z34 (by decide)) xn0))))))).trans ((hF54.2.1 _ (xn1 (xne_k hk9999z28 hk9999z33 (by decide)) (xn1 (xne_k hk9999z28 hk9999z34 (by decide)) xn0))).trans (hF4.2.1 _ xn0))) ((hF71.2.1 _ (xn1 (xne_k hk9999z29 hk9999z35 (by decide)) (xn1 (xne_k hk9999z29 hk9999z36 (by decide)) (xn1 (xne_k hk9999z29 hk9999z37 (by decide)) (xn1 (xne_k hk9999z29 hk9999z38 (by decide)) (xn1 (xne_k hk9999z29 hk9999z33 (by decide)) (xn1 (xne_k hk9999z29 hk9999z34 (by decide)) xn0))))))).trans ((hF54.2.1 _ (xn1 (xne_k hk9999z29 hk9999z33 (by decide)) (xn1 (xne_k hk9999z29 hk9999z34 (by decide)) xn0))).trans (hF4.2.1 _ xn0))) ((hF71.2.1 _ (xn1 (xne_k hk9999z30 hk9999z35 (by decide)) (xn1 (xne_k hk9999z30 hk9999z36 (by decide)) (xn1 (xne_k hk9999z30 hk9999z37 (by decide)) (xn1 (xne_k hk9999z30 hk9999z38 (by decide)) (xn1 (xne_k hk9999z30 hk9999z33 (by decide)) (xn1 (xne_k hk9999z30 hk9999z34 (by decide)) xn0))))))).trans ((hF54.2.1 _ (xn1 (xne_k hk9999z30 hk9999z33 (by decide)) (xn1 (xne_k hk9999z30 hk9999z34 (by decide)) xn0))).trans (hF4.2.1 _ xn0))) ((hF71.2.1 _ (xn1 (xne_k hk9999z31 hk9999z35 (by decide)) (xn1 (xne_k hk9999z31 hk9999z36 (by decide)) (xn1 (xne_k hk9999z31 hk9999z37 (by decide)) (xn1 (xne_k hk9999z31 hk9999z38 (by decide)) (xn1 (xne_k hk9999z31 hk9999z33 (by decide)) (xn1 (xne_k hk9999z31 hk9999z34 (by decide)) xn0))))))).trans ((hF54.2.1 _ (xn1 (xne_k hk9999z31 hk9999z33 (by decide)) (xn1 (xne_k hk9999z31 hk9999z34 (by decide)) xn0))).trans (hF4.2.1 _ xn0))) ((hF54.2.2 _ xn0).trans (hF4.2.2 _ xn0)) ((hF71.2.2 _ xn0).trans ((hF54.2.2 _ xn0).trans (hF4.2.2 _ xn0))) ((hF71.1 _ _ (xnj (by decide) xn0)).trans ((hF54.1 _ _ xn0).trans (hF4.1 _ _ (xnj (by decide) xn0))))), (v_X10_cut_78_14 (F := F) a G75 oq75a)⟩ hT
      · refine lv_aload_n hx hb dX10_cut_39 rfl (lv_at hl 0 rfl) ?_
        refine lv_bipush (v := (-2)) hx hb dX10_cut_40 (by decide) ?_
        refine x_cl0 (x_runV (b := a) (As := [.int (-2)]) (rest := []) S (c_X10_refuseAct l E K F G4 a (-2) ha) mv_X10_refuseAct km_X10_188 rfl rfl ⟨Nat.le_of_ble_eq_true rfl, Nat.le_of_ble_eq_true rfl⟩ (rc_12 hK hT ha) hK (fun _ => XP.blind) (fun U hU hW => XP.at hK hz hS hT hU hW) rfl hl.1 (Nat.le_of_ble_eq_true rfl) dX10_cut_42 ⟨Nat.le_of_ble_eq_true rfl, Nat.le_of_ble_eq_true rfl⟩) hS ?_
        rintro _ G42 H locs ⟨x42, rfl, hF42, t42⟩ hT hS
        have t42 : x42.toInt = (-2 : Int) := by rw [((by decide) : Int32.toInt (-2) = (-2 : Int))] at t42; exact t42
        exact x_ri hx hb hr hlk hQ (Nat.le_of_ble_eq_true rfl) (Nat.le_of_ble_eq_true rfl) hS dX10_cut_45 G42 ⟨_, rfl, (XFr.call (XFr.call XFr.rf hF4 (xm1 2 rfl xm0) xm0 xm0) hF42 xm0 (xm1 10 rfl xm0) xm0), (by rw [(show (G42.1 (F a 8) 6).toInt = ((G.1 (F a 8) 6).toInt) from (congrArg Int32.toInt ((hF42.1 _ _ xn0).trans (hF4.1 _ _ (xnj (by decide) xn0)))).trans (rfl : Int32.toInt (G.1 (F a 8) 6) = ((G.1 (F a 8) 6).toInt)))] <;> exact (sw)), (by rw [(t42 : Int32.toInt x42 = (-2 : Int))] <;> exact (v_X10_cut_45_15 (K := K) (F := F) a G G42 G4 x8 p0 x15 p1 x33 ha sb sw t4 t8 c11 t15 c18 t33 c36 ((hF42.2.1 _ (xn1 (xne_k hk9999y hk9999p (by decide)) xn0)).trans (hF4.2.1 _ xn0)) ((hF42.2.1 _ (xn1 (xne_k hk9999z26 hk9999p (by decide)) xn0)).trans (hF4.2.1 _ xn0)) ((hF42.2.1 _ (xn1 (xne_k hk9999z27 hk9999p (by decide)) xn0)).trans (hF4.2.1 _ xn0)) ((hF42.2.1 _ (xn1 (xne_k hk9999z28 hk9999p (by decide)) xn0)).trans (hF4.2.1 _ xn0)) ((hF42.2.1 _ (xn1 (xne_k hk9999z29 hk9999p (by decide)) xn0)).trans (hF4.2.1 _ xn0)) ((hF42.2.1 _ (xn1 (xne_k hk9999z30 hk9999p (by decide)) xn0)).trans (hF4.2.1 _ xn0)) ((hF42.2.1 _ (xn1 (xne_k hk9999z31 hk9999p (by decide)) xn0)).trans (hF4.2.1 _ xn0)) ((hF42.1 _ _ xn0).trans (hF4.1 _ _ (xnj (by decide) xn0))))), (v_X10_cut_45_16 (F := F) a G G42 ron ((hF42.2.1 _ (xn1 (xne_k hk9999y hk9999p (by decide)) xn0)).trans (hF4.2.1 _ xn0)) ((hF42.2.1 _ (xn1 (xne_k hk9999z25 hk9999p (by decide)) xn0)).trans (hF4.2.1 _ xn0)))⟩ hT
    · refine lv_aload_n hx hb dX10_cut_21 rfl (lv_at hl 0 rfl) ?_
      refine lv_iconst (v := (-1)) hx hb dX10_cut_22 (by decide) ?_
      refine x_cl0 (x_runV (b := a) (As := [.int (-1)]) (rest := []) S (c_X10_refuseAct l E K F G4 a (-1) ha) mv_X10_refuseAct km_X10_188 rfl rfl ⟨Nat.le_of_ble_eq_true rfl, Nat.le_of_ble_eq_true rfl⟩ (rc_12 hK hT ha) hK (fun _ => XP.blind) (fun U hU hW => XP.at hK hz hS hT hU hW) rfl hl.1 (Nat.le_of_ble_eq_true rfl) dX10_cut_23 ⟨Nat.le_of_ble_eq_true rfl, Nat.le_of_ble_eq_true rfl⟩) hS ?_
      rintro _ G23 H locs ⟨x23, rfl, hF23, t23⟩ hT hS
      have t23 : x23.toInt = (-1 : Int) := by rw [((by decide) : Int32.toInt (-1) = (-1 : Int))] at t23; exact t23
      exact x_ri hx hb hr hlk hQ (Nat.le_of_ble_eq_true rfl) (Nat.le_of_ble_eq_true rfl) hS dX10_cut_26 G23 ⟨_, rfl, (XFr.call (XFr.call XFr.rf hF4 (xm1 2 rfl xm0) xm0 xm0) hF23 xm0 (xm1 10 rfl xm0) xm0), (by rw [(show (G23.1 (F a 8) 6).toInt = ((G.1 (F a 8) 6).toInt) from (congrArg Int32.toInt ((hF23.1 _ _ xn0).trans (hF4.1 _ _ (xnj (by decide) xn0)))).trans (rfl : Int32.toInt (G.1 (F a 8) 6) = ((G.1 (F a 8) 6).toInt)))] <;> exact (sw)), (by rw [(t23 : Int32.toInt x23 = (-1 : Int))] <;> exact (v_X10_cut_26_17 (K := K) (F := F) a G G23 G4 x8 p0 x15 p1 ha sb sw t4 t8 c11 t15 c18 ((hF23.2.1 _ (xn1 (xne_k hk9999y hk9999p (by decide)) xn0)).trans (hF4.2.1 _ xn0)) ((hF23.2.1 _ (xn1 (xne_k hk9999z26 hk9999p (by decide)) xn0)).trans (hF4.2.1 _ xn0)) ((hF23.2.1 _ (xn1 (xne_k hk9999z27 hk9999p (by decide)) xn0)).trans (hF4.2.1 _ xn0)) ((hF23.2.1 _ (xn1 (xne_k hk9999z28 hk9999p (by decide)) xn0)).trans (hF4.2.1 _ xn0)) ((hF23.2.1 _ (xn1 (xne_k hk9999z29 hk9999p (by decide)) xn0)).trans (hF4.2.1 _ xn0)) ((hF23.2.1 _ (xn1 (xne_k hk9999z30 hk9999p (by decide)) xn0)).trans (hF4.2.1 _ xn0)) ((hF23.2.1 _ (xn1 (xne_k hk9999z31 hk9999p (by decide)) xn0)).trans (hF4.2.1 _ xn0)) ((hF23.1 _ _ xn0).trans (hF4.1 _ _ (xnj (by decide) xn0))))), (v_X10_cut_26_18 (F := F) a G G23 ron ((hF23.2.1 _ (xn1 (xne_k hk9999y hk9999p (by decide)) xn0)).trans (hF4.2.1 _ xn0)) ((hF23.2.1 _ (xn1 (xne_k hk9999z25 hk9999p (by decide)) xn0)).trans (hF4.2.1 _ xn0)))⟩ hT

theorem z_X10_rekey_3 (a0 : Int) (a1 : Int) (a2 : Int) (a3 : Int) (a4 : Int) (a5 : Int) (a6 : Int) (a7 : Int) (a8 : Int) (a9 : Int) (h0 : (a7 = 1 ∧ 0 ≤ a0 ∧ a0 < 3) ∨ (a7 = 0 ∧ (a0 < 0 ∨ 3 ≤ a0))) (h1 : ¬ (a7 = 0)) (h2 : (a3 = 1 ∧ 0 ≤ a1 ∧ a1 < 30) ∨ (a3 = 0 ∧ (a1 < 0 ∨ 30 ≤ a1))) (h3 : ¬ (a3 = 0)) (h4 : (a4 = 1 ∧ 0 ≤ a2 ∧ a2 < 30) ∨ (a4 = 0 ∧ (a2 < 0 ∨ 30 ≤ a2))) (h5 : a4 ≠ 0) (h6 : (a5 = 1 ∧ a8 ≠ -2000) ∨ (a5 = 0 ∧ a8 = -2000)) (h7 : a5 ≠ 0) (h8 : (a6 = 1 ∧ a9 ≠ -2000) ∨ (a6 = 0 ∧ a9 = -2000)) (h9 : a6 = 0) (h10 : a1 = a2 → a8 = a9) : 0 ≤ a0 ∧ a0 < 3 ∧ 0 ≤ a1 ∧ a1 < 30 ∧ 0 ≤ a2 ∧ a2 < 30 ∧ a1 ≠ a2 := by omega
abbrev rm_X10_rekey : Room := { frames := 10, cells := 15, slots := 1500, locals := 236 }
set_option maxHeartbeats 4000000 in
set_option maxRecDepth 100000 in
theorem c_X10_rekey (l : Launch) (E : XE) (K : Nat → Nat) (F : Nat → Nat → Nat) (G : XG) (a : Nat) (p0 : Int32) (p1 : Int32) (p2 : Int32) (ha : K a = 12) (sb : 0 ≤ ((G.1 (F a 2) 2).toInt) ∧ ((G.1 (F a 2) 2).toInt) ≤ 12) (sw : 0 ≤ ((G.1 (F a 8) 6).toInt) ∧ ((G.1 (F a 8) 6).toInt) ≤ 1080) (ron : RO (vw (G.2.1 (F (F a 3) 0))) (aI (G.2.1 (F (F a 3) 1)))) (rob : RO (vw (G.2.1 (F (F a 4) 0))) (aI (G.2.1 (F (F a 4) 1)))) (bko : BKr K G (G.2.2.1 (F (F a 2) 1))) (bkn : BKr K G (G.2.2.1 (F (F a 2) 0))) (hac : ACo G (G.2.2.1 (F (F a 2) 0))) : Met l yX10_rekey (xw yX10_rekey cX10_rekey 4 (some .int)) rm_X10_rekey (va_Pc [.ref a, .int p0, .int p1, .int p2] (XP E K F G)) (XQ E (fun v (u : XG) => ∃ r : Int32, v = .int r ∧ XFr [(F a 11, 3), (F a 9, 6), (F a 14, 1), (F a 14, 2), (F a 14, 3), (F a 10, 6), (F a 8, 6)] [F (F a 11) 0, F (F a 11) 1, F (F a 11) 2, F (F a 9) 0, F (F a 9) 1, F (F a 9) 2, F (F a 9) 3, F (F a 9) 4, F (F a 9) 5, F a 16, F a 15, F (F a 10) 0, F (F a 10) 1, F (F a 10) 2, F (F a 10) 3, F (F a 10) 4, F (F a 10) 5, F (F a 3) 0, F (F a 3) 1, F (F a 8) 0, F (F a 8) 1, F (F a 8) 2, F (F a 8) 3, F (F a 8) 4, F (F a 8) 5, F (F a 5) 0, F (F a 5) 1] [] G u ∧ (0 ≤ ((u.1 (F a 8) 6).toInt) ∧ ((u.1 (F a 8) 6).toInt) ≤ 1080) ∧ ((r.toInt = -1 ∧ ¬ ((0 ≤ p0.toInt ∧ p0.toInt < 3) ∧ (0 ≤ p1.toInt ∧ p1.toInt < 30) ∧ (0 ≤ p2.toInt ∧ p2.toInt < 30)) ∧ ((vw (u.2.1 (F (F a 3) 0))) = (vw (G.2.1 (F (F a 3) 0))) ∧ qL u F (F a 8) = qL G F (F a 8))) ∨ (((0 ≤ p0.toInt ∧ p0.toInt < 3) ∧ (0 ≤ p1.toInt ∧ p1.toInt < 30) ∧ (0 ≤ p2.toInt ∧ p2.toInt < 30)) ∧ r.toInt = -2 ∧ cel (vw (G.2.1 (F (F a 3) 0))) p0.toInt p1.toInt 0 = -2000 ∧ ((vw (u.2.1 (F (F a 3) 0))) = (vw (G.2.1 (F (F a 3) 0))) ∧ qL u F (F a 8) = qL G F (F a 8))) ∨ (((0 ≤ p0.toInt ∧ p0.toInt < 3) ∧ (0 ≤ p1.toInt ∧ p1.toInt < 30) ∧ (0 ≤ p2.toInt ∧ p2.toInt < 30)) ∧ cel (vw (G.2.1 (F (F a 3) 0))) p0.toInt p1.toInt 0 ≠ -2000 ∧ r.toInt = -4 ∧ cel (vw (G.2.1 (F (F a 3) 0))) p0.toInt p2.toInt 0 ≠ -2000 ∧ ((vw (u.2.1 (F (F a 3) 0))) = (vw (G.2.1 (F (F a 3) 0))) ∧ qL u F (F a 8) = qL G F (F a 8))) ∨ (((0 ≤ p0.toInt ∧ p0.toInt < 3) ∧ (0 ≤ p1.toInt ∧ p1.toInt < 30) ∧ (0 ≤ p2.toInt ∧ p2.toInt < 30)) ∧ cel (vw (G.2.1 (F (F a 3) 0))) p0.toInt p1.toInt 0 ≠ -2000 ∧ cel (vw (G.2.1 (F (F a 3) 0))) p0.toInt p2.toInt 0 = -2000 ∧ ActR ((G.1 a 18).toInt) r.toInt (gaL G (G.2.2.1 (F (F a 2) 1)) (vw (G.2.1 (F (F a 3) 0))) (mvR (clsA G (G.2.2.1 (F (F a 2) 0))) (clsT G (G.2.2.1 (F (F a 2) 0))) (clsC G (G.2.2.1 (F (F a 2) 0))) p0.toInt p1.toInt p2.toInt (rmv (vw (G.2.1 (F (F a 3) 0))) p0.toInt p1.toInt p2.toInt) 12) 0 (((G.1 (F a 2) 2).toInt)).toNat) (vw (G.2.1 (F (F a 3) 0))) (vw (u.2.1 (F (F a 3) 0))) (mvR (clsA G (G.2.2.1 (F (F a 2) 0))) (clsT G (G.2.2.1 (F (F a 2) 0))) (clsC G (G.2.2.1 (F (F a 2) 0))) p0.toInt p1.toInt p2.toInt (rmv (vw (G.2.1 (F (F a 3) 0))) p0.toInt p1.toInt p2.toInt) 12) (qL G F (F a 8)) (qL u F (F a 8)) (gaL G (G.2.2.1 (F (F a 2) 1)) (vw (G.2.1 (F (F a 4) 0))) (mvR (clsA G (G.2.2.1 (F (F a 2) 0))) (clsT G (G.2.2.1 (F (F a 2) 0))) (clsC G (G.2.2.1 (F (F a 2) 0))) p0.toInt p1.toInt p2.toInt (rmv (vw (G.2.1 (F (F a 3) 0))) p0.toInt p1.toInt p2.toInt) 12) 1 (((G.1 (F a 2) 2).toInt)).toNat))) ∧ (RO (vw (u.2.1 (F (F a 3) 0))) (aI (u.2.1 (F (F a 3) 1))))) (fun u H => TW E K F u H)) 15 1500 (xA E) := by
  refine x_enter (by decide) (Nat.le_of_ble_eq_true rfl) ?_
  intro p e s m args below meth c Q S hr hlk hnm hQ hP ls hl
  obtain ⟨hz, hK, hT⟩ := hP
  obtain ⟨hx, hb, -, -, -⟩ := id S
  obtain ⟨H, hT, hS, hgo⟩ : ∃ H : Heap, TW E K F G H ∧ va_S (xA E) s.heap H [] ∧ H = s.heap := ⟨_, hT, va_S.rf, rfl⟩
  rw [← hgo]
  have hl : lv_has ls 4 [(0, .ref a), (1, .int p0), (2, .int p1), (3, .int p2)] := hl
  obtain ⟨hk9999, hj9999⟩ := fkX10_11 hT ha
  obtain ⟨hk9999a, hj9999a⟩ := fkX10_9 hT ha
  obtain ⟨hk9999b, hj9999b⟩ := fkX10_14 hT ha
  obtain ⟨hk9999c, hj9999c⟩ := fkX10_10 hT ha
  obtain ⟨hk9999d, hj9999d⟩ := fkX10_8 hT ha
  obtain ⟨hk9999e, hj9999e⟩ := fkX1_0 hT hk9999
  obtain ⟨hk9999f, hj9999f⟩ := fkX1_1 hT hk9999
  obtain ⟨hk9999g, hj9999g⟩ := fkX1_2 hT hk9999
  obtain ⟨hk9999h, hj9999h⟩ := fkX4_0 hT hk9999a
  have hj9999i : F (F (F a 9) 0) 99 = 10 * 1 + 0 := by rw [hj9999h, hj9999a]
  obtain ⟨hk9999i, hj9999j⟩ := fkX4_1 hT hk9999a
  have hj9999k : F (F (F a 9) 1) 99 = 10 * 1 + 1 := by rw [hj9999j, hj9999a]
  obtain ⟨hk9999j, hj9999l⟩ := fkX4_2 hT hk9999a
  have hj9999m : F (F (F a 9) 2) 99 = 10 * 1 + 2 := by rw [hj9999l, hj9999a]
  obtain ⟨hk9999k, hj9999n⟩ := fkX4_3 hT hk9999a
  have hj9999o : F (F (F a 9) 3) 99 = 10 * 1 + 3 := by rw [hj9999n, hj9999a]
  obtain ⟨hk9999l, hj9999p⟩ := fkX4_4 hT hk9999a
  have hj9999q : F (F (F a 9) 4) 99 = 10 * 1 + 4 := by rw [hj9999p, hj9999a]
  obtain ⟨hk9999m, hj9999r⟩ := fkX4_5 hT hk9999a
  have hj9999s : F (F (F a 9) 5) 99 = 10 * 1 + 5 := by rw [hj9999r, hj9999a]
  obtain ⟨hk9999n, hj9999t⟩ := fkX10_16 hT ha
  obtain ⟨hk9999o, hj9999u⟩ := fkX10_15 hT ha
  obtain ⟨hk9999p, hj9999v⟩ := fkX4_0 hT hk9999c
  have hj9999w : F (F (F a 10) 0) 99 = 10 * 2 + 0 := by rw [hj9999v, hj9999c]
  obtain ⟨hk9999q, hj9999y⟩ := fkX4_1 hT hk9999c
  have hj9999z25 : F (F (F a 10) 1) 99 = 10 * 2 + 1 := by rw [hj9999y, hj9999c]
  obtain ⟨hk9999r, hj9999z26⟩ := fkX4_2 hT hk9999c
  have hj9999z27 : F (F (F a 10) 2) 99 = 10 * 2 + 2 := by rw [hj9999z26, hj9999c]
  obtain ⟨hk9999s, hj9999z28⟩ := fkX4_3 hT hk9999c
  have hj9999z29 : F (F (F a 10) 3) 99 = 10 * 2 + 3 := by rw [hj9999z28, hj9999c]
  obtain ⟨hk9999t, hj9999z30⟩ := fkX4_4 hT hk9999c
  have hj9999z31 : F (F (F a 10) 4) 99 = 10 * 2 + 4 := by rw [hj9999z30, hj9999c]
  obtain ⟨hk9999u, hj9999z32⟩ := fkX4_5 hT hk9999c
  have hj9999z33 : F (F (F a 10) 5) 99 = 10 * 2 + 5 := by rw [hj9999z32, hj9999c]
  obtain ⟨hk9999v, hj9999z34⟩ := fkX10_3 hT ha
  obtain ⟨hk9999w, hj9999z35⟩ := fkX6_0 hT hk9999v
  have hj9999z36 : F (F (F a 3) 0) 99 = 0 := by rw [hj9999z35, hj9999z34]
  obtain ⟨hk9999y, hj9999z37⟩ := fkX6_1 hT hk9999v
  have hj9999z38 : F (F (F a 3) 1) 99 = 0 := by rw [hj9999z37, hj9999z34]
  obtain ⟨hk9999z25, hj9999z39⟩ := fkX4_0 hT hk9999d
  have hj9999z40 : F (F (F a 8) 0) 99 = 10 * 0 + 0 := by rw [hj9999z39, hj9999d]
  obtain ⟨hk9999z26, hj9999z41⟩ := fkX4_1 hT hk9999d
  have hj9999z42 : F (F (F a 8) 1) 99 = 10 * 0 + 1 := by rw [hj9999z41, hj9999d]
  obtain ⟨hk9999z27, hj9999z43⟩ := fkX4_2 hT hk9999d
  have hj9999z44 : F (F (F a 8) 2) 99 = 10 * 0 + 2 := by rw [hj9999z43, hj9999d]
  obtain ⟨hk9999z28, hj9999z45⟩ := fkX4_3 hT hk9999d
  have hj9999z46 : F (F (F a 8) 3) 99 = 10 * 0 + 3 := by rw [hj9999z45, hj9999d]
  obtain ⟨hk9999z29, hj9999z47⟩ := fkX4_4 hT hk9999d
  have hj9999z48 : F (F (F a 8) 4) 99 = 10 * 0 + 4 := by rw [hj9999z47, hj9999d]
  obtain ⟨hk9999z30, hj9999z49⟩ := fkX4_5 hT hk9999d
  have hj9999z50 : F (F (F a 8) 5) 99 = 10 * 0 + 5 := by rw [hj9999z49, hj9999d]
  obtain ⟨hk9999z31, hj9999z51⟩ := fkX10_5 hT ha
  obtain ⟨hk9999z32, hj9999z52⟩ := fkX6_0 hT hk9999z31
  have hj9999z53 : F (F (F a 5) 0) 99 = 2 := by rw [hj9999z52, hj9999z51]
  obtain ⟨hk9999z33, hj9999z54⟩ := fkX6_1 hT hk9999z31
  have hj9999z55 : F (F (F a 5) 1) 99 = 2 := by rw [hj9999z54, hj9999z51]
  obtain ⟨hk9999z34, hj9999z56⟩ := fkX10_2 hT ha
  obtain ⟨hk9999z35, hj9999z57⟩ := fkX0_1 hT hk9999z34
  obtain ⟨hk9999z36, hj9999z58⟩ := fkX0_0 hT hk9999z34
  obtain ⟨hk9999z37, hj9999z59⟩ := fkX10_4 hT ha
  obtain ⟨hk9999z38, hj9999z60⟩ := fkX6_0 hT hk9999z37
  have hj9999z61 : F (F (F a 4) 0) 99 = 1 := by rw [hj9999z60, hj9999z59]
  obtain ⟨hk9999z39, hj9999z62⟩ := fkX6_1 hT hk9999z37
  have hj9999z63 : F (F (F a 4) 1) 99 = 1 := by rw [hj9999z62, hj9999z59]
  refine lv_aload_n hx hb dX10_rekey_0 rfl (lv_at hl 0 rfl) ?_
  refine gX10_14 S hK hT ha kf_X10_91 dX10_rekey_1 (fun _ _ => ?_)
  refine x_cv (x_runV (b := (F a 14)) (As := []) (rest := []) S (c_X9_clear l E K F G (F a 14) hk9999b) mv_X9_clear km_X10_113 rfl rfl ⟨Nat.le_of_ble_eq_true rfl, Nat.le_of_ble_eq_true rfl⟩ (rc_11 hK hT hk9999b) hK (fun _ => XP.blind) (fun U hU hW => XP.at hK hz hS hT hU hW) rfl hl.1 (Nat.le_of_ble_eq_true rfl) dX10_rekey_4 ⟨Nat.le_of_ble_eq_true rfl, Nat.le_of_ble_eq_true rfl⟩) hS ?_
  rintro G4 H locs ⟨hF4, t4⟩ hT hS
  have t4 : ((G4.1 (F a 14) 1).toInt) = 0 := t4
  refine lv_iload_n hx hb dX10_rekey_7 rfl (lv_at hl 1 rfl) ?_
  refine x_clp (x_runS (As := [.int p0]) (rest := []) S (c_X10_isTable l E K F G4 H p0) ms_X10_isTable km_X10_179 rfl rfl ⟨Nat.le_of_ble_eq_true rfl, Nat.le_of_ble_eq_true rfl⟩ hK (fun _ => XPh.blind) (fun U hU hW => XPh.at hK hz hS hT hU hW) rfl hl.1 (Nat.le_of_ble_eq_true rfl) dX10_rekey_8 ⟨Nat.le_of_ble_eq_true rfl, Nat.le_of_ble_eq_true rfl⟩) hS ?_
  rintro _ _ locs ⟨x8, rfl, b8, t8⟩ hS
  have t8 : (x8.toInt = 1 ∧ 0 ≤ p0.toInt ∧ p0.toInt < 3) ∨ (x8.toInt = 0 ∧ (p0.toInt < 0 ∨ 3 ≤ p0.toInt)) := t8
  refine xi_zeq (tgt := 28) hx hb (rfl : Int32.toInt x8 = x8.toInt) dX10_rekey_11 (by decide) (fun c11 => ?_) (fun c11 => ?_)
  · refine lv_aload_n hx hb dX10_rekey_28 rfl (lv_at hl 0 rfl) ?_
    refine lv_iconst (v := (-1)) hx hb dX10_rekey_29 (by decide) ?_
    refine x_cl0 (x_runV (b := a) (As := [.int (-1)]) (rest := []) S (c_X10_refuseAct l E K F G4 a (-1) ha) mv_X10_refuseAct km_X10_188 rfl rfl ⟨Nat.le_of_ble_eq_true rfl, Nat.le_of_ble_eq_true rfl⟩ (rc_12 hK hT ha) hK (fun _ => XP.blind) (fun U hU hW => XP.at hK hz hS hT hU hW) rfl hl.1 (Nat.le_of_ble_eq_true rfl) dX10_rekey_30 ⟨Nat.le_of_ble_eq_true rfl, Nat.le_of_ble_eq_true rfl⟩) hS ?_
    rintro _ G30 H locs ⟨x30, rfl, hF30, t30⟩ hT hS
    have t30 : x30.toInt = (-1 : Int) := by rw [((by decide) : Int32.toInt (-1) = (-1 : Int))] at t30; exact t30
    exact x_ri hx hb hr hlk hQ (Nat.le_of_ble_eq_true rfl) (Nat.le_of_ble_eq_true rfl) hS dX10_rekey_33 G30 ⟨_, rfl, (XFr.call (XFr.call XFr.rf hF4 (xm1 2 rfl xm0) xm0 xm0) hF30 xm0 (xm1 10 rfl xm0) xm0), (by rw [(show (G30.1 (F a 8) 6).toInt = ((G.1 (F a 8) 6).toInt) from (congrArg Int32.toInt ((hF30.1 _ _ xn0).trans (hF4.1 _ _ (xnj (by decide) xn0)))).trans (rfl : Int32.toInt (G.1 (F a 8) 6) = ((G.1 (F a 8) 6).toInt)))] <;> exact (sw)), (by rw [(t30 : Int32.toInt x30 = (-1 : Int))] <;> exact (v_X10_rekey_33_1 (K := K) (F := F) a G G30 G4 x8 p0 p1 p2 ha sb sw t4 t8 c11 ((hF30.2.1 _ (xn1 (xne_k hk9999w hk9999o (by decide)) xn0)).trans (hF4.2.1 _ xn0)) ((hF30.2.1 _ (xn1 (xne_k hk9999z25 hk9999o (by decide)) xn0)).trans (hF4.2.1 _ xn0)) ((hF30.2.1 _ (xn1 (xne_k hk9999z26 hk9999o (by decide)) xn0)).trans (hF4.2.1 _ xn0)) ((hF30.2.1 _ (xn1 (xne_k hk9999z27 hk9999o (by decide)) xn0)).trans (hF4.2.1 _ xn0)) ((hF30.2.1 _ (xn1 (xne_k hk9999z28 hk9999o (by decide)) xn0)).trans (hF4.2.1 _ xn0)) ((hF30.2.1 _ (xn1 (xne_k hk9999z29 hk9999o (by decide)) xn0)).trans (hF4.2.1 _ xn0)) ((hF30.2.1 _ (xn1 (xne_k hk9999z30 hk9999o (by decide)) xn0)).trans (hF4.2.1 _ xn0)) ((hF30.1 _ _ xn0).trans (hF4.1 _ _ (xnj (by decide) xn0))))), (v_X10_rekey_33_2 (F := F) a G G30 ron ((hF30.2.1 _ (xn1 (xne_k hk9999w hk9999o (by decide)) xn0)).trans (hF4.2.1 _ xn0)) ((hF30.2.1 _ (xn1 (xne_k hk9999y hk9999o (by decide)) xn0)).trans (hF4.2.1 _ xn0)))⟩ hT
  · refine lv_iload_n hx hb dX10_rekey_14 rfl (lv_at hl 2 rfl) ?_
    refine x_clp (x_runS (As := [.int p1]) (rest := []) S (c_X10_isKey l E K F G4 H p1) ms_X10_isKey km_X10_182 rfl rfl ⟨Nat.le_of_ble_eq_true rfl, Nat.le_of_ble_eq_true rfl⟩ hK (fun _ => XPh.blind) (fun U hU hW => XPh.at hK hz hS hT hU hW) rfl hl.1 (Nat.le_of_ble_eq_true rfl) dX10_rekey_15 ⟨Nat.le_of_ble_eq_true rfl, Nat.le_of_ble_eq_true rfl⟩) hS ?_
    rintro _ _ locs ⟨x15, rfl, b15, t15⟩ hS
    have t15 : (x15.toInt = 1 ∧ 0 ≤ p1.toInt ∧ p1.toInt < 30) ∨ (x15.toInt = 0 ∧ (p1.toInt < 0 ∨ 30 ≤ p1.toInt)) := t15
    refine xi_zeq (tgt := 28) hx hb (rfl : Int32.toInt x15 = x15.toInt) dX10_rekey_18 (by decide) (fun c18 => ?_) (fun c18 => ?_)
    · refine lv_aload_n hx hb dX10_rekey_28 rfl (lv_at hl 0 rfl) ?_
      refine lv_iconst (v := (-1)) hx hb dX10_rekey_29 (by decide) ?_
      refine x_cl0 (x_runV (b := a) (As := [.int (-1)]) (rest := []) S (c_X10_refuseAct l E K F G4 a (-1) ha) mv_X10_refuseAct km_X10_188 rfl rfl ⟨Nat.le_of_ble_eq_true rfl, Nat.le_of_ble_eq_true rfl⟩ (rc_12 hK hT ha) hK (fun _ => XP.blind) (fun U hU hW => XP.at hK hz hS hT hU hW) rfl hl.1 (Nat.le_of_ble_eq_true rfl) dX10_rekey_30 ⟨Nat.le_of_ble_eq_true rfl, Nat.le_of_ble_eq_true rfl⟩) hS ?_
      rintro _ G30 H locs ⟨x30, rfl, hF30, t30⟩ hT hS
      have t30 : x30.toInt = (-1 : Int) := by rw [((by decide) : Int32.toInt (-1) = (-1 : Int))] at t30; exact t30
      exact x_ri hx hb hr hlk hQ (Nat.le_of_ble_eq_true rfl) (Nat.le_of_ble_eq_true rfl) hS dX10_rekey_33 G30 ⟨_, rfl, (XFr.call (XFr.call XFr.rf hF4 (xm1 2 rfl xm0) xm0 xm0) hF30 xm0 (xm1 10 rfl xm0) xm0), (by rw [(show (G30.1 (F a 8) 6).toInt = ((G.1 (F a 8) 6).toInt) from (congrArg Int32.toInt ((hF30.1 _ _ xn0).trans (hF4.1 _ _ (xnj (by decide) xn0)))).trans (rfl : Int32.toInt (G.1 (F a 8) 6) = ((G.1 (F a 8) 6).toInt)))] <;> exact (sw)), (by rw [(t30 : Int32.toInt x30 = (-1 : Int))] <;> exact (v_X10_rekey_33_3 (K := K) (F := F) a G G30 G4 x8 p0 x15 p1 p2 ha sb sw t4 t8 c11 t15 c18 ((hF30.2.1 _ (xn1 (xne_k hk9999w hk9999o (by decide)) xn0)).trans (hF4.2.1 _ xn0)) ((hF30.2.1 _ (xn1 (xne_k hk9999z25 hk9999o (by decide)) xn0)).trans (hF4.2.1 _ xn0)) ((hF30.2.1 _ (xn1 (xne_k hk9999z26 hk9999o (by decide)) xn0)).trans (hF4.2.1 _ xn0)) ((hF30.2.1 _ (xn1 (xne_k hk9999z27 hk9999o (by decide)) xn0)).trans (hF4.2.1 _ xn0)) ((hF30.2.1 _ (xn1 (xne_k hk9999z28 hk9999o (by decide)) xn0)).trans (hF4.2.1 _ xn0)) ((hF30.2.1 _ (xn1 (xne_k hk9999z29 hk9999o (by decide)) xn0)).trans (hF4.2.1 _ xn0)) ((hF30.2.1 _ (xn1 (xne_k hk9999z30 hk9999o (by decide)) xn0)).trans (hF4.2.1 _ xn0)) ((hF30.1 _ _ xn0).trans (hF4.1 _ _ (xnj (by decide) xn0))))), (v_X10_rekey_33_4 (F := F) a G G30 ron ((hF30.2.1 _ (xn1 (xne_k hk9999w hk9999o (by decide)) xn0)).trans (hF4.2.1 _ xn0)) ((hF30.2.1 _ (xn1 (xne_k hk9999y hk9999o (by decide)) xn0)).trans (hF4.2.1 _ xn0)))⟩ hT
    · refine lv_iload_n hx hb dX10_rekey_21 rfl (lv_at hl 3 rfl) ?_
      refine x_clp (x_runS (As := [.int p2]) (rest := []) S (c_X10_isKey l E K F G4 H p2) ms_X10_isKey km_X10_182 rfl rfl ⟨Nat.le_of_ble_eq_true rfl, Nat.le_of_ble_eq_true rfl⟩ hK (fun _ => XPh.blind) (fun U hU hW => XPh.at hK hz hS hT hU hW) rfl hl.1 (Nat.le_of_ble_eq_true rfl) dX10_rekey_22 ⟨Nat.le_of_ble_eq_true rfl, Nat.le_of_ble_eq_true rfl⟩) hS ?_
      rintro _ _ locs ⟨x22, rfl, b22, t22⟩ hS
      have t22 : (x22.toInt = 1 ∧ 0 ≤ p2.toInt ∧ p2.toInt < 30) ∨ (x22.toInt = 0 ∧ (p2.toInt < 0 ∨ 30 ≤ p2.toInt)) := t22
      refine xi_zne (tgt := 34) hx hb (rfl : Int32.toInt x22 = x22.toInt) dX10_rekey_25 (by decide) (fun c25 => ?_) (fun c25 => ?_)
      · refine lv_aload_n hx hb dX10_rekey_34 rfl (lv_at hl 0 rfl) ?_
        refine gX10_3 S hK hT ha kf_X10_37 dX10_rekey_35 (fun _ _ => ?_)
        refine lv_iload_n hx hb dX10_rekey_38 rfl (lv_at hl 1 rfl) ?_
        refine lv_iload_n hx hb dX10_rekey_39 rfl (lv_at hl 2 rfl) ?_
        refine x_clp (x_runV (b := (F a 3)) (As := [.int p0, .int p1]) (rest := []) S (c_X6_has l E K F G4 H (F a 3) p0 p1 hk9999v (v_X10_rekey_40_5 (F := F) a G G4 ron rob (hF4.2.1 _ xn0) (hF4.2.1 _ xn0))) mv_X6_has km_X10_191 rfl rfl ⟨Nat.le_of_ble_eq_true rfl, Nat.le_of_ble_eq_true rfl⟩ (rc_8 hK hT hk9999v) hK (fun _ => XPh.blind) (fun U hU hW => XPh.at hK hz hS hT hU hW) rfl hl.1 (Nat.le_of_ble_eq_true rfl) dX10_rekey_40 ⟨Nat.le_of_ble_eq_true rfl, Nat.le_of_ble_eq_true rfl⟩) hS ?_
        rintro _ _ locs ⟨x40, rfl, b40, t40⟩ hS
        have t40 : (x40.toInt = 1 ∧ (cel (vw (G.2.1 (F (F a 3) 0))) (p0.toInt) (p1.toInt) 0) ≠ -2000) ∨ (x40.toInt = 0 ∧ (cel (vw (G.2.1 (F (F a 3) 0))) (p0.toInt) (p1.toInt) 0) = -2000) := by rw [(show G4.2.1 (F (F a 3) 0) = G.2.1 (F (F a 3) 0) from (hF4.2.1 _ xn0))] at t40; exact t40
        refine xi_zne (tgt := 53) hx hb (rfl : Int32.toInt x40 = x40.toInt) dX10_rekey_43 (by decide) (fun c43 => ?_) (fun c43 => ?_)
        · refine lv_aload_n hx hb dX10_rekey_53 rfl (lv_at hl 0 rfl) ?_
          refine gX10_3 S hK hT ha kf_X10_37 dX10_rekey_54 (fun _ _ => ?_)
          refine lv_iload_n hx hb dX10_rekey_57 rfl (lv_at hl 1 rfl) ?_
          refine lv_iload_n hx hb dX10_rekey_58 rfl (lv_at hl 3 rfl) ?_
          refine x_clp (x_runV (b := (F a 3)) (As := [.int p0, .int p2]) (rest := []) S (c_X6_has l E K F G4 H (F a 3) p0 p2 hk9999v (v_X10_rekey_59_6 (F := F) a G G4 ron rob (hF4.2.1 _ xn0) (hF4.2.1 _ xn0))) mv_X6_has km_X10_191 rfl rfl ⟨Nat.le_of_ble_eq_true rfl, Nat.le_of_ble_eq_true rfl⟩ (rc_8 hK hT hk9999v) hK (fun _ => XPh.blind) (fun U hU hW => XPh.at hK hz hS hT hU hW) rfl hl.1 (Nat.le_of_ble_eq_true rfl) dX10_rekey_59 ⟨Nat.le_of_ble_eq_true rfl, Nat.le_of_ble_eq_true rfl⟩) hS ?_
          rintro _ _ locs ⟨x59, rfl, b59, t59⟩ hS
          have t59 : (x59.toInt = 1 ∧ (cel (vw (G.2.1 (F (F a 3) 0))) (p0.toInt) (p2.toInt) 0) ≠ -2000) ∨ (x59.toInt = 0 ∧ (cel (vw (G.2.1 (F (F a 3) 0))) (p0.toInt) (p2.toInt) 0) = -2000) := by rw [(show G4.2.1 (F (F a 3) 0) = G.2.1 (F (F a 3) 0) from (hF4.2.1 _ xn0))] at t59; exact t59
          refine xi_zeq (tgt := 72) hx hb (rfl : Int32.toInt x59 = x59.toInt) dX10_rekey_62 (by decide) (fun c62 => ?_) (fun c62 => ?_)
          · refine lv_aload_n hx hb dX10_rekey_72 rfl (lv_at hl 0 rfl) ?_
            refine gX10_5 S hK hT ha kf_X10_44 dX10_rekey_73 (fun _ _ => ?_)
            refine lv_aload_n hx hb dX10_rekey_76 rfl (lv_at hl 0 rfl) ?_
            refine gX10_3 S hK hT ha kf_X10_37 dX10_rekey_77 (fun _ _ => ?_)
            refine x_cv0 (x_runV (b := (F a 5)) (As := [.ref (F a 3)]) (rest := []) S (c_X6_copy l E K F G4 (F a 5) (F a 3) hk9999z31 hk9999v (v_X10_rekey_80_7 (F := F) a G G4 ron rob (hF4.2.1 _ xn0) (hF4.2.1 _ xn0))) mv_X6_copy km_X10_195 rfl rfl ⟨Nat.le_of_ble_eq_true rfl, Nat.le_of_ble_eq_true rfl⟩ (rc_8 hK hT hk9999z31) hK (fun _ => XP.blind) (fun U hU hW => XP.at hK hz hS hT hU hW) rfl hl.1 (Nat.le_of_ble_eq_true rfl) dX10_rekey_80 ⟨Nat.le_of_ble_eq_true rfl, Nat.le_of_ble_eq_true rfl⟩) hS ?_
            rintro G80 H locs ⟨hF80, oq80, oq80a⟩ hT hS
            have oq80 : (vw (G80.2.1 (F (F a 5) 0))) = (vw (G.2.1 (F (F a 3) 0))) := by simp only [(show G4.2.1 (F (F a 3) 0) = G.2.1 (F (F a 3) 0) from (hF4.2.1 _ xn0))] at oq80; exact oq80
            have z83 : (cel (vw (G80.2.1 (F (F a 5) 0))) (p0.toInt) (p1.toInt) 0) = (cel (vw (G.2.1 (F (F a 3) 0))) (p0.toInt) (p1.toInt) 0) := by rw [oq80]
            have z83a : p1.toInt = p2.toInt → (cel (vw (G.2.1 (F (F a 3) 0))) (p0.toInt) (p1.toInt) 0) = (cel (vw (G.2.1 (F (F a 3) 0))) (p0.toInt) (p2.toInt) 0) := fun h9 => by rw [h9]
            refine lv_aload_n hx hb dX10_rekey_83 rfl (lv_at hl 0 rfl) ?_
            obtain ⟨hk84, hj84⟩ := fkX10_12 hT ha
            refine gX10_12 S hK hT ha kf_X10_77 dX10_rekey_84 (fun _ _ => ?_)
            refine lv_aload_n hx hb dX10_rekey_87 rfl (lv_at hl 0 rfl) ?_
            refine gX10_5 S hK hT ha kf_X10_44 dX10_rekey_88 (fun _ _ => ?_)
            refine lv_aload_n hx hb dX10_rekey_91 rfl (lv_at hl 0 rfl) ?_
            refine gX10_2 S hK hT ha kf_X10_30 dX10_rekey_92 (fun _ _ => ?_)
            refine lv_iload_n hx hb dX10_rekey_95 rfl (lv_at hl 1 rfl) ?_
            refine lv_iload_n hx hb dX10_rekey_96 rfl (lv_at hl 2 rfl) ?_
            refine lv_iload_n hx hb dX10_rekey_97 rfl (lv_at hl 3 rfl) ?_
            refine x_cv0 (x_runV (b := (F a 12)) (As := [.ref (F a 5), .ref (F a 2), .int p0, .int p1, .int p2]) (rest := []) S (c_X2_moveRow l E K F G80 (F a 12) (F a 5) (F a 2) p0 p1 p2 hk84 hk9999z31 hk9999z34 (z_X10_rekey_3 p0.toInt p1.toInt p2.toInt x15.toInt x22.toInt x40.toInt x59.toInt x8.toInt (cel (vw (G.2.1 (F (F a 3) 0))) (p0.toInt) (p1.toInt) 0) (cel (vw (G.2.1 (F (F a 3) 0))) (p0.toInt) (p2.toInt) 0) t8 c11 t15 c18 t22 c25 t40 c43 t59 c62 z83a) (z_X10_cut_3 x40.toInt (cel (vw (G.2.1 (F (F a 3) 0))) (p0.toInt) (p1.toInt) 0) (cel (vw (G80.2.1 (F (F a 5) 0))) (p0.toInt) (p1.toInt) 0) t40 c43 z83) (v_X10_rekey_98_8 (F := F) a G80 oq80a) (v_X10_rekey_98_9 (K := K) (F := F) a G G80 G4 x8 p0 x15 p1 x22 p2 x40 x59 ha hk9999 hj9999 hk9999a hj9999a hk9999b hj9999b hk9999c hj9999c hk9999d hj9999d hk9999e hj9999e hk9999f hj9999f hk9999g hj9999g hk9999h hj9999i hk9999i hj9999k hk9999j hj9999m hk9999k hj9999o hk9999l hj9999q hk9999m hj9999s hk9999n hj9999t hk9999o hj9999u hk9999p hj9999w hk9999q hj9999z25 hk9999r hj9999z27 hk9999s hj9999z29 hk9999t hj9999z31 hk9999u hj9999z33 hk9999v hj9999z34 hk9999w hj9999z36 hk9999y hj9999z38 hk9999z25 hj9999z40 hk9999z26 hj9999z42 hk9999z27 hj9999z44 hk9999z28 hj9999z46 hk9999z29 hj9999z48 hk9999z30 hj9999z50 hk9999z31 hj9999z51 hk9999z32 hj9999z53 hk9999z33 hj9999z55 hk9999z34 hj9999z56 hk9999z35 hj9999z57 hk9999z36 hj9999z58 hk9999z37 hj9999z59 hk9999z38 hj9999z61 hk9999z39 hj9999z63 hk84 hj84 (XFr.call (XFr.call XFr.rf hF4 (xm1 2 rfl xm0) xm0 xm0) hF80 xm0 (xm1 25 rfl (xm1 26 rfl xm0)) xm0) hF4 hF80 ron rob bko bkn hac oq80 oq80a sb sw t4 t8 c11 t15 c18 t22 c25 t40 c43 t59 c62 z83 z83a ((hF80.2.1 _ (xn1 (xne_k hk9999p hk9999z32 (by decide)) (xn1 (xne_k hk9999p hk9999z33 (by decide)) xn0))).trans (hF4.2.1 _ xn0)) ((hF80.2.1 _ (xn1 (xne_k hk9999q hk9999z32 (by decide)) (xn1 (xne_k hk9999q hk9999z33 (by decide)) xn0))).trans (hF4.2.1 _ xn0)) ((hF80.2.1 _ (xn1 (xne_k hk9999r hk9999z32 (by decide)) (xn1 (xne_k hk9999r hk9999z33 (by decide)) xn0))).trans (hF4.2.1 _ xn0)) ((hF80.2.1 _ (xn1 (xne_k hk9999s hk9999z32 (by decide)) (xn1 (xne_k hk9999s hk9999z33 (by decide)) xn0))).trans (hF4.2.1 _ xn0)) ((hF80.2.1 _ (xn1 (xne_k hk9999t hk9999z32 (by decide)) (xn1 (xne_k hk9999t hk9999z33 (by decide)) xn0))).trans (hF4.2.1 _ xn0)) ((hF80.2.1 _ (xn1 (xne_k hk9999u hk9999z32 (by decide)) (xn1 (xne_k hk9999u hk9999z33 (by decide)) xn0))).trans (hF4.2.1 _ xn0)) ((hF80.2.1 _ (xn1 (xne_k hk9999e hk9999z32 (by decide)) (xn1 (xne_j hj9999e hj9999z55 (by first | decide | omega)) xn0))).trans (hF4.2.1 _ xn0)) ((hF80.2.1 _ (xn1 (xne_k hk9999f hk9999z32 (by decide)) (xn1 (xne_j hj9999f hj9999z55 (by first | decide | omega)) xn0))).trans (hF4.2.1 _ xn0)) ((hF80.2.1 _ (xn1 (xne_k hk9999g hk9999z32 (by decide)) (xn1 (xne_k hk9999g hk9999z33 (by decide)) xn0))).trans (hF4.2.1 _ xn0)) ((hF80.2.1 _ (xn1 (xne_j hj9999z36 hj9999z53 (by first | decide | omega)) (xn1 (xne_k hk9999w hk9999z33 (by decide)) xn0))).trans (hF4.2.1 _ xn0)) ((hF80.2.1 _ (xn1 (xne_k hk9999y hk9999z32 (by decide)) (xn1 (xne_j hj9999z38 hj9999z55 (by first | decide | omega)) xn0))).trans (hF4.2.1 _ xn0)) ((hF80.2.1 _ (xn1 (xne_k hk9999z25 hk9999z32 (by decide)) (xn1 (xne_k hk9999z25 hk9999z33 (by decide)) xn0))).trans (hF4.2.1 _ xn0)) ((hF80.2.1 _ (xn1 (xne_k hk9999z26 hk9999z32 (by decide)) (xn1 (xne_k hk9999z26 hk9999z33 (by decide)) xn0))).trans (hF4.2.1 _ xn0)) ((hF80.2.1 _ (xn1 (xne_k hk9999z27 hk9999z32 (by decide)) (xn1 (xne_k hk9999z27 hk9999z33 (by decide)) xn0))).trans (hF4.2.1 _ xn0)) ((hF80.2.1 _ (xn1 (xne_k hk9999z28 hk9999z32 (by decide)) (xn1 (xne_k hk9999z28 hk9999z33 (by decide)) xn0))).trans (hF4.2.1 _ xn0)) ((hF80.2.1 _ (xn1 (xne_k hk9999z29 hk9999z32 (by decide)) (xn1 (xne_k hk9999z29 hk9999z33 (by decide)) xn0))).trans (hF4.2.1 _ xn0)) ((hF80.2.1 _ (xn1 (xne_k hk9999z30 hk9999z32 (by decide)) (xn1 (xne_k hk9999z30 hk9999z33 (by decide)) xn0))).trans (hF4.2.1 _ xn0)) ((hF80.2.1 _ (xn1 (xne_k hk9999h hk9999z32 (by decide)) (xn1 (xne_k hk9999h hk9999z33 (by decide)) xn0))).trans (hF4.2.1 _ xn0)) ((hF80.2.1 _ (xn1 (xne_k hk9999i hk9999z32 (by decide)) (xn1 (xne_k hk9999i hk9999z33 (by decide)) xn0))).trans (hF4.2.1 _ xn0)) ((hF80.2.1 _ (xn1 (xne_k hk9999j hk9999z32 (by decide)) (xn1 (xne_k hk9999j hk9999z33 (by decide)) xn0))).trans (hF4.2.1 _ xn0)) ((hF80.2.1 _ (xn1 (xne_k hk9999k hk9999z32 (by decide)) (xn1 (xne_k hk9999k hk9999z33 (by decide)) xn0))).trans (hF4.2.1 _ xn0)) ((hF80.2.1 _ (xn1 (xne_k hk9999l hk9999z32 (by decide)) (xn1 (xne_k hk9999l hk9999z33 (by decide)) xn0))).trans (hF4.2.1 _ xn0)) ((hF80.2.1 _ (xn1 (xne_k hk9999m hk9999z32 (by decide)) (xn1 (xne_k hk9999m hk9999z33 (by decide)) xn0))).trans (hF4.2.1 _ xn0)) ((hF80.2.1 _ (xn1 (xne_k hk9999o hk9999z32 (by decide)) (xn1 (xne_k hk9999o hk9999z33 (by decide)) xn0))).trans (hF4.2.1 _ xn0)) ((hF80.2.1 _ (xn1 (xne_k hk9999n hk9999z32 (by decide)) (xn1 (xne_k hk9999n hk9999z33 (by decide)) xn0))).trans (hF4.2.1 _ xn0)) ((hF80.2.2 _ xn0).trans (hF4.2.2 _ xn0)) ((hF80.1 _ _ xn0).trans (hF4.1 _ _ (xnj (by decide) xn0))) ((hF80.1 _ _ xn0).trans (hF4.1 _ _ (xnj (by decide) xn0))) (hF80.1 _ _ xn0) ((hF80.1 _ _ xn0).trans (hF4.1 _ _ (xnj (by decide) xn0))) ((hF80.1 _ _ xn0).trans (hF4.1 _ _ (xnj (by decide) xn0))) ((hF80.1 _ _ xn0).trans (hF4.1 _ _ (xnj (by decide) xn0))) ((hF80.1 _ _ xn0).trans (hF4.1 _ _ (xnj (by decide) xn0)))) (v_X10_rekey_98_10 (K := K) (F := F) a G G80 G4 x8 p0 x15 p1 x22 p2 x40 x59 ha hk9999 hj9999 hk9999a hj9999a hk9999b hj9999b hk9999c hj9999c hk9999d hj9999d hk9999e hj9999e hk9999f hj9999f hk9999g hj9999g hk9999h hj9999i hk9999i hj9999k hk9999j hj9999m hk9999k hj9999o hk9999l hj9999q hk9999m hj9999s hk9999n hj9999t hk9999o hj9999u hk9999p hj9999w hk9999q hj9999z25 hk9999r hj9999z27 hk9999s hj9999z29 hk9999t hj9999z31 hk9999u hj9999z33 hk9999v hj9999z34 hk9999w hj9999z36 hk9999y hj9999z38 hk9999z25 hj9999z40 hk9999z26 hj9999z42 hk9999z27 hj9999z44 hk9999z28 hj9999z46 hk9999z29 hj9999z48 hk9999z30 hj9999z50 hk9999z31 hj9999z51 hk9999z32 hj9999z53 hk9999z33 hj9999z55 hk9999z34 hj9999z56 hk9999z35 hj9999z57 hk9999z36 hj9999z58 hk9999z37 hj9999z59 hk9999z38 hj9999z61 hk9999z39 hj9999z63 hk84 hj84 (XFr.call (XFr.call XFr.rf hF4 (xm1 2 rfl xm0) xm0 xm0) hF80 xm0 (xm1 25 rfl (xm1 26 rfl xm0)) xm0) hF4 hF80 ron rob bko bkn hac oq80 oq80a sb sw t4 t8 c11 t15 c18 t22 c25 t40 c43 t59 c62 z83 z83a ((hF80.2.1 _ (xn1 (xne_k hk9999p hk9999z32 (by decide)) (xn1 (xne_k hk9999p hk9999z33 (by decide)) xn0))).trans (hF4.2.1 _ xn0)) ((hF80.2.1 _ (xn1 (xne_k hk9999q hk9999z32 (by decide)) (xn1 (xne_k hk9999q hk9999z33 (by decide)) xn0))).trans (hF4.2.1 _ xn0)) ((hF80.2.1 _ (xn1 (xne_k hk9999r hk9999z32 (by decide)) (xn1 (xne_k hk9999r hk9999z33 (by decide)) xn0))).trans (hF4.2.1 _ xn0)) ((hF80.2.1 _ (xn1 (xne_k hk9999s hk9999z32 (by decide)) (xn1 (xne_k hk9999s hk9999z33 (by decide)) xn0))).trans (hF4.2.1 _ xn0)) ((hF80.2.1 _ (xn1 (xne_k hk9999t hk9999z32 (by decide)) (xn1 (xne_k hk9999t hk9999z33 (by decide)) xn0))).trans (hF4.2.1 _ xn0)) ((hF80.2.1 _ (xn1 (xne_k hk9999u hk9999z32 (by decide)) (xn1 (xne_k hk9999u hk9999z33 (by decide)) xn0))).trans (hF4.2.1 _ xn0)) ((hF80.2.1 _ (xn1 (xne_k hk9999e hk9999z32 (by decide)) (xn1 (xne_j hj9999e hj9999z55 (by first | decide | omega)) xn0))).trans (hF4.2.1 _ xn0)) ((hF80.2.1 _ (xn1 (xne_k hk9999f hk9999z32 (by decide)) (xn1 (xne_j hj9999f hj9999z55 (by first | decide | omega)) xn0))).trans (hF4.2.1 _ xn0)) ((hF80.2.1 _ (xn1 (xne_k hk9999g hk9999z32 (by decide)) (xn1 (xne_k hk9999g hk9999z33 (by decide)) xn0))).trans (hF4.2.1 _ xn0)) ((hF80.2.1 _ (xn1 (xne_j hj9999z36 hj9999z53 (by first | decide | omega)) (xn1 (xne_k hk9999w hk9999z33 (by decide)) xn0))).trans (hF4.2.1 _ xn0)) ((hF80.2.1 _ (xn1 (xne_k hk9999y hk9999z32 (by decide)) (xn1 (xne_j hj9999z38 hj9999z55 (by first | decide | omega)) xn0))).trans (hF4.2.1 _ xn0)) ((hF80.2.1 _ (xn1 (xne_k hk9999z25 hk9999z32 (by decide)) (xn1 (xne_k hk9999z25 hk9999z33 (by decide)) xn0))).trans (hF4.2.1 _ xn0)) ((hF80.2.1 _ (xn1 (xne_k hk9999z26 hk9999z32 (by decide)) (xn1 (xne_k hk9999z26 hk9999z33 (by decide)) xn0))).trans (hF4.2.1 _ xn0)) ((hF80.2.1 _ (xn1 (xne_k hk9999z27 hk9999z32 (by decide)) (xn1 (xne_k hk9999z27 hk9999z33 (by decide)) xn0))).trans (hF4.2.1 _ xn0)) ((hF80.2.1 _ (xn1 (xne_k hk9999z28 hk9999z32 (by decide)) (xn1 (xne_k hk9999z28 hk9999z33 (by decide)) xn0))).trans (hF4.2.1 _ xn0)) ((hF80.2.1 _ (xn1 (xne_k hk9999z29 hk9999z32 (by decide)) (xn1 (xne_k hk9999z29 hk9999z33 (by decide)) xn0))).trans (hF4.2.1 _ xn0)) ((hF80.2.1 _ (xn1 (xne_k hk9999z30 hk9999z32 (by decide)) (xn1 (xne_k hk9999z30 hk9999z33 (by decide)) xn0))).trans (hF4.2.1 _ xn0)) ((hF80.2.1 _ (xn1 (xne_k hk9999h hk9999z32 (by decide)) (xn1 (xne_k hk9999h hk9999z33 (by decide)) xn0))).trans (hF4.2.1 _ xn0)) ((hF80.2.1 _ (xn1 (xne_k hk9999i hk9999z32 (by decide)) (xn1 (xne_k hk9999i hk9999z33 (by decide)) xn0))).trans (hF4.2.1 _ xn0)) ((hF80.2.1 _ (xn1 (xne_k hk9999j hk9999z32 (by decide)) (xn1 (xne_k hk9999j hk9999z33 (by decide)) xn0))).trans (hF4.2.1 _ xn0)) ((hF80.2.1 _ (xn1 (xne_k hk9999k hk9999z32 (by decide)) (xn1 (xne_k hk9999k hk9999z33 (by decide)) xn0))).trans (hF4.2.1 _ xn0)) ((hF80.2.1 _ (xn1 (xne_k hk9999l hk9999z32 (by decide)) (xn1 (xne_k hk9999l hk9999z33 (by decide)) xn0))).trans (hF4.2.1 _ xn0)) ((hF80.2.1 _ (xn1 (xne_k hk9999m hk9999z32 (by decide)) (xn1 (xne_k hk9999m hk9999z33 (by decide)) xn0))).trans (hF4.2.1 _ xn0)) ((hF80.2.1 _ (xn1 (xne_k hk9999o hk9999z32 (by decide)) (xn1 (xne_k hk9999o hk9999z33 (by decide)) xn0))).trans (hF4.2.1 _ xn0)) ((hF80.2.1 _ (xn1 (xne_k hk9999n hk9999z32 (by decide)) (xn1 (xne_k hk9999n hk9999z33 (by decide)) xn0))).trans (hF4.2.1 _ xn0)) ((hF80.2.2 _ xn0).trans (hF4.2.2 _ xn0)) ((hF80.1 _ _ xn0).trans (hF4.1 _ _ (xnj (by decide) xn0))) ((hF80.1 _ _ xn0).trans (hF4.1 _ _ (xnj (by decide) xn0))) (hF80.1 _ _ xn0) ((hF80.1 _ _ xn0).trans (hF4.1 _ _ (xnj (by decide) xn0))) ((hF80.1 _ _ xn0).trans (hF4.1 _ _ (xnj (by decide) xn0))) ((hF80.1 _ _ xn0).trans (hF4.1 _ _ (xnj (by decide) xn0))) ((hF80.1 _ _ xn0).trans (hF4.1 _ _ (xnj (by decide) xn0))))) mv_X2_moveRow km_X10_218 rfl rfl ⟨Nat.le_of_ble_eq_true rfl, Nat.le_of_ble_eq_true rfl⟩ (rc_4 hK hT hk84) hK (fun _ => XP.blind) (fun U hU hW => XP.at hK hz hS hT hU hW) rfl hl.1 (Nat.le_of_ble_eq_true rfl) dX10_rekey_98 ⟨Nat.le_of_ble_eq_true rfl, Nat.le_of_ble_eq_true rfl⟩) hS ?_
            rintro G98 H locs ⟨hF98, oq98, oq98a⟩ hT hS
            refine lv_aload_n hx hb dX10_rekey_101 rfl (lv_at hl 0 rfl) ?_
            refine x_cl (x_runV (b := a) (As := []) (rest := []) S (c_X10_actAsOnPaper l E K F G98 a ha (by rw [(show (G98.1 (F a 2) 2).toInt = ((G.1 (F a 2) 2).toInt) from (congrArg Int32.toInt ((hF98.1 _ _ xn0).trans ((hF80.1 _ _ xn0).trans (hF4.1 _ _ (xnj (by decide) xn0))))).trans (rfl : Int32.toInt (G.1 (F a 2) 2) = ((G.1 (F a 2) 2).toInt)))] <;> exact (sb)) (by rw [(show (G98.1 (F a 8) 6).toInt = ((G.1 (F a 8) 6).toInt) from (congrArg Int32.toInt ((hF98.1 _ _ xn0).trans ((hF80.1 _ _ xn0).trans (hF4.1 _ _ (xnj (by decide) xn0))))).trans (rfl : Int32.toInt (G.1 (F a 8) 6) = ((G.1 (F a 8) 6).toInt)))] <;> exact (sw)) (v_X10_rekey_102_11 (F := F) a G G98 G80 ron rob oq80a oq98a ((hF98.2.1 _ (xn1 (xne_j hj9999z36 hj9999z53 (by first | decide | omega)) (xn1 (xne_k hk9999w hk9999z33 (by decide)) xn0))).trans ((hF80.2.1 _ (xn1 (xne_j hj9999z36 hj9999z53 (by first | decide | omega)) (xn1 (xne_k hk9999w hk9999z33 (by decide)) xn0))).trans (hF4.2.1 _ xn0))) ((hF98.2.1 _ (xn1 (xne_k hk9999y hk9999z32 (by decide)) (xn1 (xne_j hj9999z38 hj9999z55 (by first | decide | omega)) xn0))).trans ((hF80.2.1 _ (xn1 (xne_k hk9999y hk9999z32 (by decide)) (xn1 (xne_j hj9999z38 hj9999z55 (by first | decide | omega)) xn0))).trans (hF4.2.1 _ xn0)))) (v_X10_rekey_102_12 (F := F) a G98 oq98a) (v_X10_rekey_102_13 (F := F) a G G98 G80 ron rob oq80a oq98a ((hF98.2.1 _ (xn1 (xne_j hj9999z61 hj9999z53 (by first | decide | omega)) (xn1 (xne_k hk9999z38 hk9999z33 (by decide)) xn0))).trans ((hF80.2.1 _ (xn1 (xne_j hj9999z61 hj9999z53 (by first | decide | omega)) (xn1 (xne_k hk9999z38 hk9999z33 (by decide)) xn0))).trans (hF4.2.1 _ xn0))) ((hF98.2.1 _ (xn1 (xne_k hk9999z39 hk9999z32 (by decide)) (xn1 (xne_j hj9999z63 hj9999z55 (by first | decide | omega)) xn0))).trans ((hF80.2.1 _ (xn1 (xne_k hk9999z39 hk9999z32 (by decide)) (xn1 (xne_j hj9999z63 hj9999z55 (by first | decide | omega)) xn0))).trans (hF4.2.1 _ xn0)))) (v_X10_rekey_102_14 (K := K) (F := F) a G G98 G4 G80 p0 p1 p2 x8 x15 x22 x40 x59 ha hk9999 hj9999 hk9999a hj9999a hk9999b hj9999b hk9999c hj9999c hk9999d hj9999d hk9999e hj9999e hk9999f hj9999f hk9999g hj9999g hk9999h hj9999i hk9999i hj9999k hk9999j hj9999m hk9999k hj9999o hk9999l hj9999q hk9999m hj9999s hk9999n hj9999t hk9999o hj9999u hk9999p hj9999w hk9999q hj9999z25 hk9999r hj9999z27 hk9999s hj9999z29 hk9999t hj9999z31 hk9999u hj9999z33 hk9999v hj9999z34 hk9999w hj9999z36 hk9999y hj9999z38 hk9999z25 hj9999z40 hk9999z26 hj9999z42 hk9999z27 hj9999z44 hk9999z28 hj9999z46 hk9999z29 hj9999z48 hk9999z30 hj9999z50 hk9999z31 hj9999z51 hk9999z32 hj9999z53 hk9999z33 hj9999z55 hk9999z34 hj9999z56 hk9999z35 hj9999z57 hk9999z36 hj9999z58 hk9999z37 hj9999z59 hk9999z38 hj9999z61 hk9999z39 hj9999z63 hk84 hj84 (XFr.call (XFr.call (XFr.call XFr.rf hF4 (xm1 2 rfl xm0) xm0 xm0) hF80 xm0 (xm1 25 rfl (xm1 26 rfl xm0)) xm0) hF98 xm0 (xm1 25 rfl (xm1 26 rfl xm0)) xm0) hF4 hF80 hF98 ron rob bko bkn hac oq80 oq80a oq98 oq98a sb sw t4 t8 c11 t15 c18 t22 c25 t40 c43 t59 c62 z83 z83a ((hF98.2.1 _ (xn1 (xne_k hk9999p hk9999z32 (by decide)) (xn1 (xne_k hk9999p hk9999z33 (by decide)) xn0))).trans ((hF80.2.1 _ (xn1 (xne_k hk9999p hk9999z32 (by decide)) (xn1 (xne_k hk9999p hk9999z33 (by decide)) xn0))).trans (hF4.2.1 _ xn0))) ((hF98.2.1 _ (xn1 (xne_k hk9999q hk9999z32 (by decide)) (xn1 (xne_k hk9999q hk9999z33 (by decide)) xn0))).trans ((hF80.2.1 _ (xn1 (xne_k hk9999q hk9999z32 (by decide)) (xn1 (xne_k hk9999q hk9999z33 (by decide)) xn0))).trans (hF4.2.1 _ xn0))) ((hF98.2.1 _ (xn1 (xne_k hk9999r hk9999z32 (by decide)) (xn1 (xne_k hk9999r hk9999z33 (by decide)) xn0))).trans ((hF80.2.1 _ (xn1 (xne_k hk9999r hk9999z32 (by decide)) (xn1 (xne_k hk9999r hk9999z33 (by decide)) xn0))).trans (hF4.2.1 _ xn0))) ((hF98.2.1 _ (xn1 (xne_k hk9999s hk9999z32 (by decide)) (xn1 (xne_k hk9999s hk9999z33 (by decide)) xn0))).trans ((hF80.2.1 _ (xn1 (xne_k hk9999s hk9999z32 (by decide)) (xn1 (xne_k hk9999s hk9999z33 (by decide)) xn0))).trans (hF4.2.1 _ xn0))) ((hF98.2.1 _ (xn1 (xne_k hk9999t hk9999z32 (by decide)) (xn1 (xne_k hk9999t hk9999z33 (by decide)) xn0))).trans ((hF80.2.1 _ (xn1 (xne_k hk9999t hk9999z32 (by decide)) (xn1 (xne_k hk9999t hk9999z33 (by decide)) xn0))).trans (hF4.2.1 _ xn0))) ((hF98.2.1 _ (xn1 (xne_k hk9999u hk9999z32 (by decide)) (xn1 (xne_k hk9999u hk9999z33 (by decide)) xn0))).trans ((hF80.2.1 _ (xn1 (xne_k hk9999u hk9999z32 (by decide)) (xn1 (xne_k hk9999u hk9999z33 (by decide)) xn0))).trans (hF4.2.1 _ xn0))) ((hF98.2.1 _ (xn1 (xne_k hk9999e hk9999z32 (by decide)) (xn1 (xne_j hj9999e hj9999z55 (by first | decide | omega)) xn0))).trans ((hF80.2.1 _ (xn1 (xne_k hk9999e hk9999z32 (by decide)) (xn1 (xne_j hj9999e hj9999z55 (by first | decide | omega)) xn0))).trans (hF4.2.1 _ xn0))) ((hF98.2.1 _ (xn1 (xne_k hk9999f hk9999z32 (by decide)) (xn1 (xne_j hj9999f hj9999z55 (by first | decide | omega)) xn0))).trans ((hF80.2.1 _ (xn1 (xne_k hk9999f hk9999z32 (by decide)) (xn1 (xne_j hj9999f hj9999z55 (by first | decide | omega)) xn0))).trans (hF4.2.1 _ xn0))) ((hF98.2.1 _ (xn1 (xne_k hk9999g hk9999z32 (by decide)) (xn1 (xne_k hk9999g hk9999z33 (by decide)) xn0))).trans ((hF80.2.1 _ (xn1 (xne_k hk9999g hk9999z32 (by decide)) (xn1 (xne_k hk9999g hk9999z33 (by decide)) xn0))).trans (hF4.2.1 _ xn0))) ((hF98.2.1 _ (xn1 (xne_j hj9999z36 hj9999z53 (by first | decide | omega)) (xn1 (xne_k hk9999w hk9999z33 (by decide)) xn0))).trans ((hF80.2.1 _ (xn1 (xne_j hj9999z36 hj9999z53 (by first | decide | omega)) (xn1 (xne_k hk9999w hk9999z33 (by decide)) xn0))).trans (hF4.2.1 _ xn0))) ((hF98.2.1 _ (xn1 (xne_k hk9999y hk9999z32 (by decide)) (xn1 (xne_j hj9999z38 hj9999z55 (by first | decide | omega)) xn0))).trans ((hF80.2.1 _ (xn1 (xne_k hk9999y hk9999z32 (by decide)) (xn1 (xne_j hj9999z38 hj9999z55 (by first | decide | omega)) xn0))).trans (hF4.2.1 _ xn0))) ((hF98.2.1 _ (xn1 (xne_k hk9999z25 hk9999z32 (by decide)) (xn1 (xne_k hk9999z25 hk9999z33 (by decide)) xn0))).trans ((hF80.2.1 _ (xn1 (xne_k hk9999z25 hk9999z32 (by decide)) (xn1 (xne_k hk9999z25 hk9999z33 (by decide)) xn0))).trans (hF4.2.1 _ xn0))) ((hF98.2.1 _ (xn1 (xne_k hk9999z26 hk9999z32 (by decide)) (xn1 (xne_k hk9999z26 hk9999z33 (by decide)) xn0))).trans ((hF80.2.1 _ (xn1 (xne_k hk9999z26 hk9999z32 (by decide)) (xn1 (xne_k hk9999z26 hk9999z33 (by decide)) xn0))).trans (hF4.2.1 _ xn0))) ((hF98.2.1 _ (xn1 (xne_k hk9999z27 hk9999z32 (by decide)) (xn1 (xne_k hk9999z27 hk9999z33 (by decide)) xn0))).trans ((hF80.2.1 _ (xn1 (xne_k hk9999z27 hk9999z32 (by decide)) (xn1 (xne_k hk9999z27 hk9999z33 (by decide)) xn0))).trans (hF4.2.1 _ xn0))) ((hF98.2.1 _ (xn1 (xne_k hk9999z28 hk9999z32 (by decide)) (xn1 (xne_k hk9999z28 hk9999z33 (by decide)) xn0))).trans ((hF80.2.1 _ (xn1 (xne_k hk9999z28 hk9999z32 (by decide)) (xn1 (xne_k hk9999z28 hk9999z33 (by decide)) xn0))).trans (hF4.2.1 _ xn0))) ((hF98.2.1 _ (xn1 (xne_k hk9999z29 hk9999z32 (by decide)) (xn1 (xne_k hk9999z29 hk9999z33 (by decide)) xn0))).trans ((hF80.2.1 _ (xn1 (xne_k hk9999z29 hk9999z32 (by decide)) (xn1 (xne_k hk9999z29 hk9999z33 (by decide)) xn0))).trans (hF4.2.1 _ xn0))) ((hF98.2.1 _ (xn1 (xne_k hk9999z30 hk9999z32 (by decide)) (xn1 (xne_k hk9999z30 hk9999z33 (by decide)) xn0))).trans ((hF80.2.1 _ (xn1 (xne_k hk9999z30 hk9999z32 (by decide)) (xn1 (xne_k hk9999z30 hk9999z33 (by decide)) xn0))).trans (hF4.2.1 _ xn0))) ((hF98.2.1 _ (xn1 (xne_k hk9999h hk9999z32 (by decide)) (xn1 (xne_k hk9999h hk9999z33 (by decide)) xn0))).trans ((hF80.2.1 _ (xn1 (xne_k hk9999h hk9999z32 (by decide)) (xn1 (xne_k hk9999h hk9999z33 (by decide)) xn0))).trans (hF4.2.1 _ xn0))) ((hF98.2.1 _ (xn1 (xne_k hk9999i hk9999z32 (by decide)) (xn1 (xne_k hk9999i hk9999z33 (by decide)) xn0))).trans ((hF80.2.1 _ (xn1 (xne_k hk9999i hk9999z32 (by decide)) (xn1 (xne_k hk9999i hk9999z33 (by decide)) xn0))).trans (hF4.2.1 _ xn0))) ((hF98.2.1 _ (xn1 (xne_k hk9999j hk9999z32 (by decide)) (xn1 (xne_k hk9999j hk9999z33 (by decide)) xn0))).trans ((hF80.2.1 _ (xn1 (xne_k hk9999j hk9999z32 (by decide)) (xn1 (xne_k hk9999j hk9999z33 (by decide)) xn0))).trans (hF4.2.1 _ xn0))) ((hF98.2.1 _ (xn1 (xne_k hk9999k hk9999z32 (by decide)) (xn1 (xne_k hk9999k hk9999z33 (by decide)) xn0))).trans ((hF80.2.1 _ (xn1 (xne_k hk9999k hk9999z32 (by decide)) (xn1 (xne_k hk9999k hk9999z33 (by decide)) xn0))).trans (hF4.2.1 _ xn0))) ((hF98.2.1 _ (xn1 (xne_k hk9999l hk9999z32 (by decide)) (xn1 (xne_k hk9999l hk9999z33 (by decide)) xn0))).trans ((hF80.2.1 _ (xn1 (xne_k hk9999l hk9999z32 (by decide)) (xn1 (xne_k hk9999l hk9999z33 (by decide)) xn0))).trans (hF4.2.1 _ xn0))) ((hF98.2.1 _ (xn1 (xne_k hk9999m hk9999z32 (by decide)) (xn1 (xne_k hk9999m hk9999z33 (by decide)) xn0))).trans ((hF80.2.1 _ (xn1 (xne_k hk9999m hk9999z32 (by decide)) (xn1 (xne_k hk9999m hk9999z33 (by decide)) xn0))).trans (hF4.2.1 _ xn0))) ((hF98.2.1 _ (xn1 (xne_k hk9999o hk9999z32 (by decide)) (xn1 (xne_k hk9999o hk9999z33 (by decide)) xn0))).trans ((hF80.2.1 _ (xn1 (xne_k hk9999o hk9999z32 (by decide)) (xn1 (xne_k hk9999o hk9999z33 (by decide)) xn0))).trans (hF4.2.1 _ xn0))) ((hF98.2.1 _ (xn1 (xne_k hk9999n hk9999z32 (by decide)) (xn1 (xne_k hk9999n hk9999z33 (by decide)) xn0))).trans ((hF80.2.1 _ (xn1 (xne_k hk9999n hk9999z32 (by decide)) (xn1 (xne_k hk9999n hk9999z33 (by decide)) xn0))).trans (hF4.2.1 _ xn0))) ((hF80.2.2 _ xn0).trans (hF4.2.2 _ xn0)) ((hF98.2.2 _ xn0).trans ((hF80.2.2 _ xn0).trans (hF4.2.2 _ xn0))) ((hF98.2.2 _ xn0).trans ((hF80.2.2 _ xn0).trans (hF4.2.2 _ xn0))) ((hF98.1 _ _ xn0).trans ((hF80.1 _ _ xn0).trans (hF4.1 _ _ (xnj (by decide) xn0)))) ((hF98.1 _ _ xn0).trans ((hF80.1 _ _ xn0).trans (hF4.1 _ _ (xnj (by decide) xn0)))) ((hF98.1 _ _ xn0).trans (hF80.1 _ _ xn0)) ((hF98.1 _ _ xn0).trans ((hF80.1 _ _ xn0).trans (hF4.1 _ _ (xnj (by decide) xn0)))) ((hF98.1 _ _ xn0).trans ((hF80.1 _ _ xn0).trans (hF4.1 _ _ (xnj (by decide) xn0)))) ((hF98.1 _ _ xn0).trans ((hF80.1 _ _ xn0).trans (hF4.1 _ _ (xnj (by decide) xn0)))) ((hF98.1 _ _ xn0).trans ((hF80.1 _ _ xn0).trans (hF4.1 _ _ (xnj (by decide) xn0))))) (v_X10_rekey_102_15 (K := K) (F := F) a G G98 G4 G80 p0 p1 p2 x8 x15 x22 x40 x59 ha hk9999 hj9999 hk9999a hj9999a hk9999b hj9999b hk9999c hj9999c hk9999d hj9999d hk9999e hj9999e hk9999f hj9999f hk9999g hj9999g hk9999h hj9999i hk9999i hj9999k hk9999j hj9999m hk9999k hj9999o hk9999l hj9999q hk9999m hj9999s hk9999n hj9999t hk9999o hj9999u hk9999p hj9999w hk9999q hj9999z25 hk9999r hj9999z27 hk9999s hj9999z29 hk9999t hj9999z31 hk9999u hj9999z33 hk9999v hj9999z34 hk9999w hj9999z36 hk9999y hj9999z38 hk9999z25 hj9999z40 hk9999z26 hj9999z42 hk9999z27 hj9999z44 hk9999z28 hj9999z46 hk9999z29 hj9999z48 hk9999z30 hj9999z50 hk9999z31 hj9999z51 hk9999z32 hj9999z53 hk9999z33 hj9999z55 hk9999z34 hj9999z56 hk9999z35 hj9999z57 hk9999z36 hj9999z58 hk9999z37 hj9999z59 hk9999z38 hj9999z61 hk9999z39 hj9999z63 hk84 hj84 (XFr.call (XFr.call (XFr.call XFr.rf hF4 (xm1 2 rfl xm0) xm0 xm0) hF80 xm0 (xm1 25 rfl (xm1 26 rfl xm0)) xm0) hF98 xm0 (xm1 25 rfl (xm1 26 rfl xm0)) xm0) hF4 hF80 hF98 ron rob bko bkn hac oq80 oq80a oq98 oq98a sb sw t4 t8 c11 t15 c18 t22 c25 t40 c43 t59 c62 z83 z83a ((hF98.2.1 _ (xn1 (xne_k hk9999p hk9999z32 (by decide)) (xn1 (xne_k hk9999p hk9999z33 (by decide)) xn0))).trans ((hF80.2.1 _ (xn1 (xne_k hk9999p hk9999z32 (by decide)) (xn1 (xne_k hk9999p hk9999z33 (by decide)) xn0))).trans (hF4.2.1 _ xn0))) ((hF98.2.1 _ (xn1 (xne_k hk9999q hk9999z32 (by decide)) (xn1 (xne_k hk9999q hk9999z33 (by decide)) xn0))).trans ((hF80.2.1 _ (xn1 (xne_k hk9999q hk9999z32 (by decide)) (xn1 (xne_k hk9999q hk9999z33 (by decide)) xn0))).trans (hF4.2.1 _ xn0))) ((hF98.2.1 _ (xn1 (xne_k hk9999r hk9999z32 (by decide)) (xn1 (xne_k hk9999r hk9999z33 (by decide)) xn0))).trans ((hF80.2.1 _ (xn1 (xne_k hk9999r hk9999z32 (by decide)) (xn1 (xne_k hk9999r hk9999z33 (by decide)) xn0))).trans (hF4.2.1 _ xn0))) ((hF98.2.1 _ (xn1 (xne_k hk9999s hk9999z32 (by decide)) (xn1 (xne_k hk9999s hk9999z33 (by decide)) xn0))).trans ((hF80.2.1 _ (xn1 (xne_k hk9999s hk9999z32 (by decide)) (xn1 (xne_k hk9999s hk9999z33 (by decide)) xn0))).trans (hF4.2.1 _ xn0))) ((hF98.2.1 _ (xn1 (xne_k hk9999t hk9999z32 (by decide)) (xn1 (xne_k hk9999t hk9999z33 (by decide)) xn0))).trans ((hF80.2.1 _ (xn1 (xne_k hk9999t hk9999z32 (by decide)) (xn1 (xne_k hk9999t hk9999z33 (by decide)) xn0))).trans (hF4.2.1 _ xn0))) ((hF98.2.1 _ (xn1 (xne_k hk9999u hk9999z32 (by decide)) (xn1 (xne_k hk9999u hk9999z33 (by decide)) xn0))).trans ((hF80.2.1 _ (xn1 (xne_k hk9999u hk9999z32 (by decide)) (xn1 (xne_k hk9999u hk9999z33 (by decide)) xn0))).trans (hF4.2.1 _ xn0))) ((hF98.2.1 _ (xn1 (xne_k hk9999e hk9999z32 (by decide)) (xn1 (xne_j hj9999e hj9999z55 (by first | decide | omega)) xn0))).trans ((hF80.2.1 _ (xn1 (xne_k hk9999e hk9999z32 (by decide)) (xn1 (xne_j hj9999e hj9999z55 (by first | decide | omega)) xn0))).trans (hF4.2.1 _ xn0))) ((hF98.2.1 _ (xn1 (xne_k hk9999f hk9999z32 (by decide)) (xn1 (xne_j hj9999f hj9999z55 (by first | decide | omega)) xn0))).trans ((hF80.2.1 _ (xn1 (xne_k hk9999f hk9999z32 (by decide)) (xn1 (xne_j hj9999f hj9999z55 (by first | decide | omega)) xn0))).trans (hF4.2.1 _ xn0))) ((hF98.2.1 _ (xn1 (xne_k hk9999g hk9999z32 (by decide)) (xn1 (xne_k hk9999g hk9999z33 (by decide)) xn0))).trans ((hF80.2.1 _ (xn1 (xne_k hk9999g hk9999z32 (by decide)) (xn1 (xne_k hk9999g hk9999z33 (by decide)) xn0))).trans (hF4.2.1 _ xn0))) ((hF98.2.1 _ (xn1 (xne_j hj9999z36 hj9999z53 (by first | decide | omega)) (xn1 (xne_k hk9999w hk9999z33 (by decide)) xn0))).trans ((hF80.2.1 _ (xn1 (xne_j hj9999z36 hj9999z53 (by first | decide | omega)) (xn1 (xne_k hk9999w hk9999z33 (by decide)) xn0))).trans (hF4.2.1 _ xn0))) ((hF98.2.1 _ (xn1 (xne_k hk9999y hk9999z32 (by decide)) (xn1 (xne_j hj9999z38 hj9999z55 (by first | decide | omega)) xn0))).trans ((hF80.2.1 _ (xn1 (xne_k hk9999y hk9999z32 (by decide)) (xn1 (xne_j hj9999z38 hj9999z55 (by first | decide | omega)) xn0))).trans (hF4.2.1 _ xn0))) ((hF98.2.1 _ (xn1 (xne_k hk9999z25 hk9999z32 (by decide)) (xn1 (xne_k hk9999z25 hk9999z33 (by decide)) xn0))).trans ((hF80.2.1 _ (xn1 (xne_k hk9999z25 hk9999z32 (by decide)) (xn1 (xne_k hk9999z25 hk9999z33 (by decide)) xn0))).trans (hF4.2.1 _ xn0))) ((hF98.2.1 _ (xn1 (xne_k hk9999z26 hk9999z32 (by decide)) (xn1 (xne_k hk9999z26 hk9999z33 (by decide)) xn0))).trans ((hF80.2.1 _ (xn1 (xne_k hk9999z26 hk9999z32 (by decide)) (xn1 (xne_k hk9999z26 hk9999z33 (by decide)) xn0))).trans (hF4.2.1 _ xn0))) ((hF98.2.1 _ (xn1 (xne_k hk9999z27 hk9999z32 (by decide)) (xn1 (xne_k hk9999z27 hk9999z33 (by decide)) xn0))).trans ((hF80.2.1 _ (xn1 (xne_k hk9999z27 hk9999z32 (by decide)) (xn1 (xne_k hk9999z27 hk9999z33 (by decide)) xn0))).trans (hF4.2.1 _ xn0))) ((hF98.2.1 _ (xn1 (xne_k hk9999z28 hk9999z32 (by decide)) (xn1 (xne_k hk9999z28 hk9999z33 (by decide)) xn0))).trans ((hF80.2.1 _ (xn1 (xne_k hk9999z28 hk9999z32 (by decide)) (xn1 (xne_k hk9999z28 hk9999z33 (by decide)) xn0))).trans (hF4.2.1 _ xn0))) ((hF98.2.1 _ (xn1 (xne_k hk9999z29 hk9999z32 (by decide)) (xn1 (xne_k hk9999z29 hk9999z33 (by decide)) xn0))).trans ((hF80.2.1 _ (xn1 (xne_k hk9999z29 hk9999z32 (by decide)) (xn1 (xne_k hk9999z29 hk9999z33 (by decide)) xn0))).trans (hF4.2.1 _ xn0))) ((hF98.2.1 _ (xn1 (xne_k hk9999z30 hk9999z32 (by decide)) (xn1 (xne_k hk9999z30 hk9999z33 (by decide)) xn0))).trans ((hF80.2.1 _ (xn1 (xne_k hk9999z30 hk9999z32 (by decide)) (xn1 (xne_k hk9999z30 hk9999z33 (by decide)) xn0))).trans (hF4.2.1 _ xn0))) ((hF98.2.1 _ (xn1 (xne_k hk9999h hk9999z32 (by decide)) (xn1 (xne_k hk9999h hk9999z33 (by decide)) xn0))).trans ((hF80.2.1 _ (xn1 (xne_k hk9999h hk9999z32 (by decide)) (xn1 (xne_k hk9999h hk9999z33 (by decide)) xn0))).trans (hF4.2.1 _ xn0))) ((hF98.2.1 _ (xn1 (xne_k hk9999i hk9999z32 (by decide)) (xn1 (xne_k hk9999i hk9999z33 (by decide)) xn0))).trans ((hF80.2.1 _ (xn1 (xne_k hk9999i hk9999z32 (by decide)) (xn1 (xne_k hk9999i hk9999z33 (by decide)) xn0))).trans (hF4.2.1 _ xn0))) ((hF98.2.1 _ (xn1 (xne_k hk9999j hk9999z32 (by decide)) (xn1 (xne_k hk9999j hk9999z33 (by decide)) xn0))).trans ((hF80.2.1 _ (xn1 (xne_k hk9999j hk9999z32 (by decide)) (xn1 (xne_k hk9999j hk9999z33 (by decide)) xn0))).trans (hF4.2.1 _ xn0))) ((hF98.2.1 _ (xn1 (xne_k hk9999k hk9999z32 (by decide)) (xn1 (xne_k hk9999k hk9999z33 (by decide)) xn0))).trans ((hF80.2.1 _ (xn1 (xne_k hk9999k hk9999z32 (by decide)) (xn1 (xne_k hk9999k hk9999z33 (by decide)) xn0))).trans (hF4.2.1 _ xn0))) ((hF98.2.1 _ (xn1 (xne_k hk9999l hk9999z32 (by decide)) (xn1 (xne_k hk9999l hk9999z33 (by decide)) xn0))).trans ((hF80.2.1 _ (xn1 (xne_k hk9999l hk9999z32 (by decide)) (xn1 (xne_k hk9999l hk9999z33 (by decide)) xn0))).trans (hF4.2.1 _ xn0))) ((hF98.2.1 _ (xn1 (xne_k hk9999m hk9999z32 (by decide)) (xn1 (xne_k hk9999m hk9999z33 (by decide)) xn0))).trans ((hF80.2.1 _ (xn1 (xne_k hk9999m hk9999z32 (by decide)) (xn1 (xne_k hk9999m hk9999z33 (by decide)) xn0))).trans (hF4.2.1 _ xn0))) ((hF98.2.1 _ (xn1 (xne_k hk9999o hk9999z32 (by decide)) (xn1 (xne_k hk9999o hk9999z33 (by decide)) xn0))).trans ((hF80.2.1 _ (xn1 (xne_k hk9999o hk9999z32 (by decide)) (xn1 (xne_k hk9999o hk9999z33 (by decide)) xn0))).trans (hF4.2.1 _ xn0))) ((hF98.2.1 _ (xn1 (xne_k hk9999n hk9999z32 (by decide)) (xn1 (xne_k hk9999n hk9999z33 (by decide)) xn0))).trans ((hF80.2.1 _ (xn1 (xne_k hk9999n hk9999z32 (by decide)) (xn1 (xne_k hk9999n hk9999z33 (by decide)) xn0))).trans (hF4.2.1 _ xn0))) ((hF80.2.2 _ xn0).trans (hF4.2.2 _ xn0)) ((hF98.2.2 _ xn0).trans ((hF80.2.2 _ xn0).trans (hF4.2.2 _ xn0))) ((hF98.2.2 _ xn0).trans ((hF80.2.2 _ xn0).trans (hF4.2.2 _ xn0))) ((hF98.1 _ _ xn0).trans ((hF80.1 _ _ xn0).trans (hF4.1 _ _ (xnj (by decide) xn0)))) ((hF98.1 _ _ xn0).trans ((hF80.1 _ _ xn0).trans (hF4.1 _ _ (xnj (by decide) xn0)))) ((hF98.1 _ _ xn0).trans (hF80.1 _ _ xn0)) ((hF98.1 _ _ xn0).trans ((hF80.1 _ _ xn0).trans (hF4.1 _ _ (xnj (by decide) xn0)))) ((hF98.1 _ _ xn0).trans ((hF80.1 _ _ xn0).trans (hF4.1 _ _ (xnj (by decide) xn0)))) ((hF98.1 _ _ xn0).trans ((hF80.1 _ _ xn0).trans (hF4.1 _ _ (xnj (by decide) xn0)))) ((hF98.1 _ _ xn0).trans ((hF80.1 _ _ xn0).trans (hF4.1 _ _ (xnj (by decide) xn0)))))) mv_X10_actAsOnPaper km_X10_207 rfl rfl ⟨Nat.le_of_ble_eq_true rfl, Nat.le_of_ble_eq_true rfl⟩ (rc_12 hK hT ha) hK (fun _ => XP.blind) (fun U hU hW => XP.at hK hz hS hT hU hW) rfl hl.1 (Nat.le_of_ble_eq_true rfl) dX10_rekey_102 ⟨Nat.le_of_ble_eq_true rfl, Nat.le_of_ble_eq_true rfl⟩) hS ?_
            rintro _ G102 H locs ⟨x102, rfl, hF102, t102, oq102, oq102a⟩ hT hS
            have t102 : 0 ≤ ((G102.1 (F a 8) 6).toInt) ∧ ((G102.1 (F a 8) 6).toInt) ≤ 1080 := t102
            have oq102 : ActR ((G.1 a 18).toInt) x102.toInt (gaL G98 (G98.2.2.1 (F (F a 2) 1)) (vw (G.2.1 (F (F a 3) 0))) (vw (G98.2.1 (F (F a 5) 0))) 0 (((G.1 (F a 2) 2).toInt)).toNat) (vw (G.2.1 (F (F a 3) 0))) (vw (G102.2.1 (F (F a 3) 0))) (vw (G98.2.1 (F (F a 5) 0))) (qL G98 F (F a 8)) (qL G102 F (F a 8)) (gaL G98 (G98.2.2.1 (F (F a 2) 1)) (vw (G.2.1 (F (F a 4) 0))) (vw (G98.2.1 (F (F a 5) 0))) 1 (((G.1 (F a 2) 2).toInt)).toNat) := by simp only [(show G98.1 a 18 = G.1 a 18 from ((hF98.1 _ _ xn0).trans ((hF80.1 _ _ xn0).trans (hF4.1 _ _ (xnj (by decide) xn0))))), (show G98.2.1 (F (F a 3) 0) = G.2.1 (F (F a 3) 0) from ((hF98.2.1 _ (xn1 (xne_j hj9999z36 hj9999z53 (by first | decide | omega)) (xn1 (xne_k hk9999w hk9999z33 (by decide)) xn0))).trans ((hF80.2.1 _ (xn1 (xne_j hj9999z36 hj9999z53 (by first | decide | omega)) (xn1 (xne_k hk9999w hk9999z33 (by decide)) xn0))).trans (hF4.2.1 _ xn0)))), (show G98.1 (F a 2) 2 = G.1 (F a 2) 2 from ((hF98.1 _ _ xn0).trans ((hF80.1 _ _ xn0).trans (hF4.1 _ _ (xnj (by decide) xn0))))), (show G98.2.1 (F (F a 4) 0) = G.2.1 (F (F a 4) 0) from ((hF98.2.1 _ (xn1 (xne_j hj9999z61 hj9999z53 (by first | decide | omega)) (xn1 (xne_k hk9999z38 hk9999z33 (by decide)) xn0))).trans ((hF80.2.1 _ (xn1 (xne_j hj9999z61 hj9999z53 (by first | decide | omega)) (xn1 (xne_k hk9999z38 hk9999z33 (by decide)) xn0))).trans (hF4.2.1 _ xn0))))] at oq102; exact oq102
            exact x_ri hx hb hr hlk hQ (Nat.le_of_ble_eq_true rfl) (Nat.le_of_ble_eq_true rfl) hS dX10_rekey_105 G102 ⟨_, rfl, (XFr.call (XFr.call (XFr.call (XFr.call XFr.rf hF4 (xm1 2 rfl xm0) xm0 xm0) hF80 xm0 (xm1 25 rfl (xm1 26 rfl xm0)) xm0) hF98 xm0 (xm1 25 rfl (xm1 26 rfl xm0)) xm0) hF102 (xm1 0 rfl (xm1 1 rfl (xm1 2 rfl (xm1 3 rfl (xm1 4 rfl (xm1 5 rfl (xm1 6 rfl xm0))))))) (xm1 0 rfl (xm1 1 rfl (xm1 2 rfl (xm1 3 rfl (xm1 4 rfl (xm1 5 rfl (xm1 6 rfl (xm1 7 rfl (xm1 8 rfl (xm1 9 rfl (xm1 10 rfl (xm1 11 rfl (xm1 12 rfl (xm1 13 rfl (xm1 14 rfl (xm1 15 rfl (xm1 16 rfl (xm1 17 rfl (xm1 18 rfl (xm1 19 rfl (xm1 20 rfl (xm1 21 rfl (xm1 22 rfl (xm1 23 rfl (xm1 24 rfl xm0))))))))))))))))))))))))) xm0), (t102), (v_X10_rekey_105_16 (K := K) (F := F) a G G102 G4 G80 G98 p0 p1 p2 x102 x8 x15 x22 x40 x59 ha hk9999 hj9999 hk9999a hj9999a hk9999b hj9999b hk9999c hj9999c hk9999d hj9999d hk9999e hj9999e hk9999f hj9999f hk9999g hj9999g hk9999h hj9999i hk9999i hj9999k hk9999j hj9999m hk9999k hj9999o hk9999l hj9999q hk9999m hj9999s hk9999n hj9999t hk9999o hj9999u hk9999p hj9999w hk9999q hj9999z25 hk9999r hj9999z27 hk9999s hj9999z29 hk9999t hj9999z31 hk9999u hj9999z33 hk9999v hj9999z34 hk9999w hj9999z36 hk9999y hj9999z38 hk9999z25 hj9999z40 hk9999z26 hj9999z42 hk9999z27 hj9999z44 hk9999z28 hj9999z46 hk9999z29 hj9999z48 hk9999z30 hj9999z50 hk9999z31 hj9999z51 hk9999z32 hj9999z53 hk9999z33 hj9999z55 hk9999z34 hj9999z56 hk9999z35 hj9999z57 hk9999z36 hj9999z58 hk9999z37 hj9999z59 hk9999z38 hj9999z61 hk9999z39 hj9999z63 hk84 hj84 (XFr.call (XFr.call (XFr.call (XFr.call XFr.rf hF4 (xm1 2 rfl xm0) xm0 xm0) hF80 xm0 (xm1 25 rfl (xm1 26 rfl xm0)) xm0) hF98 xm0 (xm1 25 rfl (xm1 26 rfl xm0)) xm0) hF102 (xm1 0 rfl (xm1 1 rfl (xm1 2 rfl (xm1 3 rfl (xm1 4 rfl (xm1 5 rfl (xm1 6 rfl xm0))))))) (xm1 0 rfl (xm1 1 rfl (xm1 2 rfl (xm1 3 rfl (xm1 4 rfl (xm1 5 rfl (xm1 6 rfl (xm1 7 rfl (xm1 8 rfl (xm1 9 rfl (xm1 10 rfl (xm1 11 rfl (xm1 12 rfl (xm1 13 rfl (xm1 14 rfl (xm1 15 rfl (xm1 16 rfl (xm1 17 rfl (xm1 18 rfl (xm1 19 rfl (xm1 20 rfl (xm1 21 rfl (xm1 22 rfl (xm1 23 rfl (xm1 24 rfl xm0))))))))))))))))))))))))) xm0) hF98 hF102 bko bkn oq80 oq98 oq102 sb sw t4 t8 c11 t15 c18 t22 c25 t40 c43 t59 c62 z83 z83a t102 ((hF98.2.1 _ (xn1 (xne_k hk9999z25 hk9999z32 (by decide)) (xn1 (xne_k hk9999z25 hk9999z33 (by decide)) xn0))).trans ((hF80.2.1 _ (xn1 (xne_k hk9999z25 hk9999z32 (by decide)) (xn1 (xne_k hk9999z25 hk9999z33 (by decide)) xn0))).trans (hF4.2.1 _ xn0))) ((hF98.2.1 _ (xn1 (xne_k hk9999z26 hk9999z32 (by decide)) (xn1 (xne_k hk9999z26 hk9999z33 (by decide)) xn0))).trans ((hF80.2.1 _ (xn1 (xne_k hk9999z26 hk9999z32 (by decide)) (xn1 (xne_k hk9999z26 hk9999z33 (by decide)) xn0))).trans (hF4.2.1 _ xn0))) ((hF98.2.1 _ (xn1 (xne_k hk9999z27 hk9999z32 (by decide)) (xn1 (xne_k hk9999z27 hk9999z33 (by decide)) xn0))).trans ((hF80.2.1 _ (xn1 (xne_k hk9999z27 hk9999z32 (by decide)) (xn1 (xne_k hk9999z27 hk9999z33 (by decide)) xn0))).trans (hF4.2.1 _ xn0))) ((hF98.2.1 _ (xn1 (xne_k hk9999z28 hk9999z32 (by decide)) (xn1 (xne_k hk9999z28 hk9999z33 (by decide)) xn0))).trans ((hF80.2.1 _ (xn1 (xne_k hk9999z28 hk9999z32 (by decide)) (xn1 (xne_k hk9999z28 hk9999z33 (by decide)) xn0))).trans (hF4.2.1 _ xn0))) ((hF98.2.1 _ (xn1 (xne_k hk9999z29 hk9999z32 (by decide)) (xn1 (xne_k hk9999z29 hk9999z33 (by decide)) xn0))).trans ((hF80.2.1 _ (xn1 (xne_k hk9999z29 hk9999z32 (by decide)) (xn1 (xne_k hk9999z29 hk9999z33 (by decide)) xn0))).trans (hF4.2.1 _ xn0))) ((hF98.2.1 _ (xn1 (xne_k hk9999z30 hk9999z32 (by decide)) (xn1 (xne_k hk9999z30 hk9999z33 (by decide)) xn0))).trans ((hF80.2.1 _ (xn1 (xne_k hk9999z30 hk9999z32 (by decide)) (xn1 (xne_k hk9999z30 hk9999z33 (by decide)) xn0))).trans (hF4.2.1 _ xn0))) ((hF80.2.2 _ xn0).trans (hF4.2.2 _ xn0)) ((hF98.2.2 _ xn0).trans ((hF80.2.2 _ xn0).trans (hF4.2.2 _ xn0))) ((hF98.1 _ _ xn0).trans ((hF80.1 _ _ xn0).trans (hF4.1 _ _ (xnj (by decide) xn0))))), (v_X10_rekey_105_17 (F := F) a G102 oq102a)⟩ hT
          · refine lv_aload_n hx hb dX10_rekey_65 rfl (lv_at hl 0 rfl) ?_
            refine lv_bipush (v := (-4)) hx hb dX10_rekey_66 (by decide) ?_
            refine x_cl0 (x_runV (b := a) (As := [.int (-4)]) (rest := []) S (c_X10_refuseAct l E K F G4 a (-4) ha) mv_X10_refuseAct km_X10_188 rfl rfl ⟨Nat.le_of_ble_eq_true rfl, Nat.le_of_ble_eq_true rfl⟩ (rc_12 hK hT ha) hK (fun _ => XP.blind) (fun U hU hW => XP.at hK hz hS hT hU hW) rfl hl.1 (Nat.le_of_ble_eq_true rfl) dX10_rekey_68 ⟨Nat.le_of_ble_eq_true rfl, Nat.le_of_ble_eq_true rfl⟩) hS ?_
            rintro _ G68 H locs ⟨x68, rfl, hF68, t68⟩ hT hS
            have t68 : x68.toInt = (-4 : Int) := by rw [((by decide) : Int32.toInt (-4) = (-4 : Int))] at t68; exact t68
            exact x_ri hx hb hr hlk hQ (Nat.le_of_ble_eq_true rfl) (Nat.le_of_ble_eq_true rfl) hS dX10_rekey_71 G68 ⟨_, rfl, (XFr.call (XFr.call XFr.rf hF4 (xm1 2 rfl xm0) xm0 xm0) hF68 xm0 (xm1 10 rfl xm0) xm0), (by rw [(show (G68.1 (F a 8) 6).toInt = ((G.1 (F a 8) 6).toInt) from (congrArg Int32.toInt ((hF68.1 _ _ xn0).trans (hF4.1 _ _ (xnj (by decide) xn0)))).trans (rfl : Int32.toInt (G.1 (F a 8) 6) = ((G.1 (F a 8) 6).toInt)))] <;> exact (sw)), (by rw [(t68 : Int32.toInt x68 = (-4 : Int))] <;> exact (v_X10_rekey_71_18 (K := K) (F := F) a G G68 G4 x8 p0 x15 p1 x22 p2 x40 x59 ha sb sw t4 t8 c11 t15 c18 t22 c25 t40 c43 t59 c62 ((hF68.2.1 _ (xn1 (xne_k hk9999w hk9999o (by decide)) xn0)).trans (hF4.2.1 _ xn0)) ((hF68.2.1 _ (xn1 (xne_k hk9999z25 hk9999o (by decide)) xn0)).trans (hF4.2.1 _ xn0)) ((hF68.2.1 _ (xn1 (xne_k hk9999z26 hk9999o (by decide)) xn0)).trans (hF4.2.1 _ xn0)) ((hF68.2.1 _ (xn1 (xne_k hk9999z27 hk9999o (by decide)) xn0)).trans (hF4.2.1 _ xn0)) ((hF68.2.1 _ (xn1 (xne_k hk9999z28 hk9999o (by decide)) xn0)).trans (hF4.2.1 _ xn0)) ((hF68.2.1 _ (xn1 (xne_k hk9999z29 hk9999o (by decide)) xn0)).trans (hF4.2.1 _ xn0)) ((hF68.2.1 _ (xn1 (xne_k hk9999z30 hk9999o (by decide)) xn0)).trans (hF4.2.1 _ xn0)) ((hF68.1 _ _ xn0).trans (hF4.1 _ _ (xnj (by decide) xn0))))), (v_X10_rekey_71_19 (F := F) a G G68 ron ((hF68.2.1 _ (xn1 (xne_k hk9999w hk9999o (by decide)) xn0)).trans (hF4.2.1 _ xn0)) ((hF68.2.1 _ (xn1 (xne_k hk9999y hk9999o (by decide)) xn0)).trans (hF4.2.1 _ xn0)))⟩ hT
        · refine lv_aload_n hx hb dX10_rekey_46 rfl (lv_at hl 0 rfl) ?_
          refine lv_bipush (v := (-2)) hx hb dX10_rekey_47 (by decide) ?_
          refine x_cl0 (x_runV (b := a) (As := [.int (-2)]) (rest := []) S (c_X10_refuseAct l E K F G4 a (-2) ha) mv_X10_refuseAct km_X10_188 rfl rfl ⟨Nat.le_of_ble_eq_true rfl, Nat.le_of_ble_eq_true rfl⟩ (rc_12 hK hT ha) hK (fun _ => XP.blind) (fun U hU hW => XP.at hK hz hS hT hU hW) rfl hl.1 (Nat.le_of_ble_eq_true rfl) dX10_rekey_49 ⟨Nat.le_of_ble_eq_true rfl, Nat.le_of_ble_eq_true rfl⟩) hS ?_
          rintro _ G49 H locs ⟨x49, rfl, hF49, t49⟩ hT hS
          have t49 : x49.toInt = (-2 : Int) := by rw [((by decide) : Int32.toInt (-2) = (-2 : Int))] at t49; exact t49
          exact x_ri hx hb hr hlk hQ (Nat.le_of_ble_eq_true rfl) (Nat.le_of_ble_eq_true rfl) hS dX10_rekey_52 G49 ⟨_, rfl, (XFr.call (XFr.call XFr.rf hF4 (xm1 2 rfl xm0) xm0 xm0) hF49 xm0 (xm1 10 rfl xm0) xm0), (by rw [(show (G49.1 (F a 8) 6).toInt = ((G.1 (F a 8) 6).toInt) from (congrArg Int32.toInt ((hF49.1 _ _ xn0).trans (hF4.1 _ _ (xnj (by decide) xn0)))).trans (rfl : Int32.toInt (G.1 (F a 8) 6) = ((G.1 (F a 8) 6).toInt)))] <;> exact (sw)), (by rw [(t49 : Int32.toInt x49 = (-2 : Int))] <;> exact (v_X10_rekey_52_20 (K := K) (F := F) a G G49 G4 x8 p0 x15 p1 x22 p2 x40 ha sb sw t4 t8 c11 t15 c18 t22 c25 t40 c43 ((hF49.2.1 _ (xn1 (xne_k hk9999w hk9999o (by decide)) xn0)).trans (hF4.2.1 _ xn0)) ((hF49.2.1 _ (xn1 (xne_k hk9999z25 hk9999o (by decide)) xn0)).trans (hF4.2.1 _ xn0)) ((hF49.2.1 _ (xn1 (xne_k hk9999z26 hk9999o (by decide)) xn0)).trans (hF4.2.1 _ xn0)) ((hF49.2.1 _ (xn1 (xne_k hk9999z27 hk9999o (by decide)) xn0)).trans (hF4.2.1 _ xn0)) ((hF49.2.1 _ (xn1 (xne_k hk9999z28 hk9999o (by decide)) xn0)).trans (hF4.2.1 _ xn0)) ((hF49.2.1 _ (xn1 (xne_k hk9999z29 hk9999o (by decide)) xn0)).trans (hF4.2.1 _ xn0)) ((hF49.2.1 _ (xn1 (xne_k hk9999z30 hk9999o (by decide)) xn0)).trans (hF4.2.1 _ xn0)) ((hF49.1 _ _ xn0).trans (hF4.1 _ _ (xnj (by decide) xn0))))), (v_X10_rekey_52_21 (F := F) a G G49 ron ((hF49.2.1 _ (xn1 (xne_k hk9999w hk9999o (by decide)) xn0)).trans (hF4.2.1 _ xn0)) ((hF49.2.1 _ (xn1 (xne_k hk9999y hk9999o (by decide)) xn0)).trans (hF4.2.1 _ xn0)))⟩ hT
      · refine lv_aload_n hx hb dX10_rekey_28 rfl (lv_at hl 0 rfl) ?_
        refine lv_iconst (v := (-1)) hx hb dX10_rekey_29 (by decide) ?_
        refine x_cl0 (x_runV (b := a) (As := [.int (-1)]) (rest := []) S (c_X10_refuseAct l E K F G4 a (-1) ha) mv_X10_refuseAct km_X10_188 rfl rfl ⟨Nat.le_of_ble_eq_true rfl, Nat.le_of_ble_eq_true rfl⟩ (rc_12 hK hT ha) hK (fun _ => XP.blind) (fun U hU hW => XP.at hK hz hS hT hU hW) rfl hl.1 (Nat.le_of_ble_eq_true rfl) dX10_rekey_30 ⟨Nat.le_of_ble_eq_true rfl, Nat.le_of_ble_eq_true rfl⟩) hS ?_
        rintro _ G30 H locs ⟨x30, rfl, hF30, t30⟩ hT hS
        have t30 : x30.toInt = (-1 : Int) := by rw [((by decide) : Int32.toInt (-1) = (-1 : Int))] at t30; exact t30
        exact x_ri hx hb hr hlk hQ (Nat.le_of_ble_eq_true rfl) (Nat.le_of_ble_eq_true rfl) hS dX10_rekey_33 G30 ⟨_, rfl, (XFr.call (XFr.call XFr.rf hF4 (xm1 2 rfl xm0) xm0 xm0) hF30 xm0 (xm1 10 rfl xm0) xm0), (by rw [(show (G30.1 (F a 8) 6).toInt = ((G.1 (F a 8) 6).toInt) from (congrArg Int32.toInt ((hF30.1 _ _ xn0).trans (hF4.1 _ _ (xnj (by decide) xn0)))).trans (rfl : Int32.toInt (G.1 (F a 8) 6) = ((G.1 (F a 8) 6).toInt)))] <;> exact (sw)), (by rw [(t30 : Int32.toInt x30 = (-1 : Int))] <;> exact (v_X10_rekey_33_22 (K := K) (F := F) a G G30 G4 x8 p0 x15 p1 x22 p2 ha sb sw t4 t8 c11 t15 c18 t22 c25 ((hF30.2.1 _ (xn1 (xne_k hk9999w hk9999o (by decide)) xn0)).trans (hF4.2.1 _ xn0)) ((hF30.2.1 _ (xn1 (xne_k hk9999z25 hk9999o (by decide)) xn0)).trans (hF4.2.1 _ xn0)) ((hF30.2.1 _ (xn1 (xne_k hk9999z26 hk9999o (by decide)) xn0)).trans (hF4.2.1 _ xn0)) ((hF30.2.1 _ (xn1 (xne_k hk9999z27 hk9999o (by decide)) xn0)).trans (hF4.2.1 _ xn0)) ((hF30.2.1 _ (xn1 (xne_k hk9999z28 hk9999o (by decide)) xn0)).trans (hF4.2.1 _ xn0)) ((hF30.2.1 _ (xn1 (xne_k hk9999z29 hk9999o (by decide)) xn0)).trans (hF4.2.1 _ xn0)) ((hF30.2.1 _ (xn1 (xne_k hk9999z30 hk9999o (by decide)) xn0)).trans (hF4.2.1 _ xn0)) ((hF30.1 _ _ xn0).trans (hF4.1 _ _ (xnj (by decide) xn0))))), (v_X10_rekey_33_23 (F := F) a G G30 ron ((hF30.2.1 _ (xn1 (xne_k hk9999w hk9999o (by decide)) xn0)).trans (hF4.2.1 _ xn0)) ((hF30.2.1 _ (xn1 (xne_k hk9999y hk9999o (by decide)) xn0)).trans (hF4.2.1 _ xn0)))⟩ hT
/-! a row of the reference under another key -/
theorem mw_mov {f g : Nat → Int32} {b t k k2 I J : Int} (h0 : 0 ≤ t ∧ t < 3 ∧ 0 ≤ k ∧ k < 30 ∧ 0 ≤ k2 ∧ k2 < 30) (hb : 0 ≤ b) (hI : I = b + 4 * (30 * t + k)) (hJ : J = b + 4 * (30 * t + k2)) (hu : ∀ z : Int, 0 ≤ z → aI g z = if z = I then 0 else if J ≤ z ∧ z < J + 4 then aI f (z - J + I) else aI f z) : mw g b = rmv (mw f b) t k k2 := by
  funext z
  show mw g b z = if 0 ≤ z - (90 * t + k) ∧ (z - (90 * t + k)) % 30 = 0 ∧ (z - (90 * t + k)) / 30 < 3 then -2000 else if 0 ≤ z - (90 * t + k2) ∧ (z - (90 * t + k2)) % 30 = 0 ∧ (z - (90 * t + k2)) / 30 < 3 then mw f b (z - k2 + k) else mw f b z
  rw [mw_z g, mw_z f b z, mw_z f b (z - k2 + k)]
  by_cases hz : 0 ≤ z ∧ z < 270
  · rw [if_pos hz, if_pos hz, hu (b + 4 * (30 * (z / 90) + z % 30)) (by omega), hu (b + 4 * (30 * (z / 90) + z % 30) + 1 + z / 30 % 3) (by omega)]
    by_cases e : z / 90 = t ∧ z % 30 = k
    · rw [if_pos (c := b + 4 * (30 * (z / 90) + z % 30) = I) (by omega), if_neg (by decide), if_pos (by omega)]
    · rw [if_neg (c := b + 4 * (30 * (z / 90) + z % 30) = I) (by omega), if_neg (c := 0 ≤ z - (90 * t + k) ∧ (z - (90 * t + k)) % 30 = 0 ∧ (z - (90 * t + k)) / 30 < 3) (by omega), if_neg (c := b + 4 * (30 * (z / 90) + z % 30) + 1 + z / 30 % 3 = I) (by omega)]
      by_cases e2 : z / 90 = t ∧ z % 30 = k2
      · have q1 : (z - k2 + k) / 90 = t := by omega
        have q2 : (z - k2 + k) % 30 = k := by omega
        have q3 : (z - k2 + k) / 30 % 3 = z / 30 % 3 := by omega
        rw [if_pos (c := J ≤ b + 4 * (30 * (z / 90) + z % 30) ∧ b + 4 * (30 * (z / 90) + z % 30) < J + 4) (by omega), if_pos (c := J ≤ b + 4 * (30 * (z / 90) + z % 30) + 1 + z / 30 % 3 ∧ b + 4 * (30 * (z / 90) + z % 30) + 1 + z / 30 % 3 < J + 4) (by omega), if_pos (c := 0 ≤ z - (90 * t + k2) ∧ (z - (90 * t + k2)) % 30 = 0 ∧ (z - (90 * t + k2)) / 30 < 3) (by omega), if_pos (c := 0 ≤ z - k2 + k ∧ z - k2 + k < 270) (by omega), q1, q2, q3]
        have w1 : b + 4 * (30 * (z / 90) + z % 30) - J + I = b + 4 * (30 * t + k) := by omega
        have w2 : b + 4 * (30 * (z / 90) + z % 30) + 1 + z / 30 % 3 - J + I = b + 4 * (30 * t + k) + 1 + z / 30 % 3 := by omega
        rw [w1, w2]
      · rw [if_neg (c := J ≤ b + 4 * (30 * (z / 90) + z % 30) ∧ b + 4 * (30 * (z / 90) + z % 30) < J + 4) (by omega), if_neg (c := J ≤ b + 4 * (30 * (z / 90) + z % 30) + 1 + z / 30 % 3 ∧ b + 4 * (30 * (z / 90) + z % 30) + 1 + z / 30 % 3 < J + 4) (by rcases (by omega : z / 30 % 3 = 0 ∨ z / 30 % 3 = 1 ∨ z / 30 % 3 = 2) with w | w | w <;> rw [w] <;> omega), if_neg (c := 0 ≤ z - (90 * t + k2) ∧ (z - (90 * t + k2)) % 30 = 0 ∧ (z - (90 * t + k2)) / 30 < 3) (by omega)]
  · rw [if_neg hz, if_neg (c := 0 ≤ z - (90 * t + k) ∧ (z - (90 * t + k)) % 30 = 0 ∧ (z - (90 * t + k)) / 30 < 3) (by omega), if_neg (c := 0 ≤ z - (90 * t + k2) ∧ (z - (90 * t + k2)) % 30 = 0 ∧ (z - (90 * t + k2)) / 30 < 3) (by omega), if_neg hz]
theorem RM.mov {f g : Nat → Int32} {b t k k2 I J : Int} (h : RM f b) (h0 : 0 ≤ t ∧ t < 3 ∧ 0 ≤ k ∧ k < 30 ∧ 0 ≤ k2 ∧ k2 < 30) (hb : 0 ≤ b) (hI : I = b + 4 * (30 * t + k)) (hJ : J = b + 4 * (30 * t + k2)) (hu : ∀ z : Int, 0 ≤ z → aI g z = if z = I then 0 else if J ≤ z ∧ z < J + 4 then aI f (z - J + I) else aI f z) : RM g b := by
  intro t2 q a1 a2 a3 a4
  rw [hu (b + 4 * (30 * t2 + q)) (by omega)]
  by_cases e : b + 4 * (30 * t2 + q) = I
  · rw [if_pos e]; exact Or.inl rfl
  · rw [if_neg e]
    by_cases e2 : J ≤ b + 4 * (30 * t2 + q) ∧ b + 4 * (30 * t2 + q) < J + 4
    · rw [if_pos e2, show b + 4 * (30 * t2 + q) - J + I = b + 4 * (30 * t + k) from by omega]
      rcases h t k h0.1 h0.2.1 h0.2.2.1 h0.2.2.2.1 with w | ⟨w, w2⟩
      · exact Or.inl w
      · refine Or.inr ⟨w, fun c c0 c1 => ?_⟩
        rw [hu _ (by omega), if_neg (by omega), if_pos (by omega), show b + 4 * (30 * t2 + q) + 1 + c - J + I = b + 4 * (30 * t + k) + 1 + c from by omega]
        exact w2 c c0 c1
    · rw [if_neg e2]
      rcases h t2 q a1 a2 a3 a4 with w | ⟨w, w2⟩
      · exact Or.inl w
      · refine Or.inr ⟨w, fun c c0 c1 => ?_⟩
        rw [hu _ (by omega), if_neg (by omega), if_neg (by omega)]
        exact w2 c c0 c1
/-- the first n of four numbers are moved -/
def MVp (f g : Nat → Int32) (I J n : Int) : Prop := ∀ z : Int, 0 ≤ z → aI g z = if J ≤ z ∧ z < J + n then aI f (z - J + I) else aI f z
theorem MVp.s {f g g2 : Nat → Int32} {I J n x y X : Int} (h : MVp f g I J n) (hn : 0 ≤ n ∧ n < 4) (hIJ : I + 4 ≤ J ∨ J + 4 ≤ I) (hI : 0 ≤ I) (hu : ∀ z : Int, 0 ≤ z → aI g2 z = if z = x then X else aI g z) (hx : x = J + n) (hX : X = aI g y) (hy : y = I + n) : MVp f g2 I J (n + 1) := by
  intro z hz
  have hX2 : X = aI f (I + n) := by
    rw [hX, hy, h (I + n) (by omega), if_neg (by omega)]
  rw [hu z hz, h z hz]
  by_cases e : z = x
  · rw [if_pos e, if_pos (by omega), hX2, show z - J + I = I + n from by omega]
  · rw [if_neg e]
    by_cases g : J ≤ z ∧ z < J + n
    · rw [if_pos g, if_pos (by omega)]
    · rw [if_neg g, if_neg (by omega)]
theorem MVp.all {f g g2 : Nat → Int32} {I J x : Int} (h : MVp f g I J 4) (hu : ∀ z : Int, 0 ≤ z → aI g2 z = if z = x then 0 else aI g z) (hx : x = I) : ∀ z : Int, 0 ≤ z → aI g2 z = if z = I then 0 else if J ≤ z ∧ z < J + 4 then aI f (z - J + I) else aI f z := by
  intro z hz
  rw [hu z hz, hx, h z hz]
/-! how many rules there are -/
theorem nRl_ex : ∃ g : (Nat → Int32) → Int → Int, ∀ f z, g f z = (((ordN (prM f) (rkM f) z.toNat).1 : Nat) : Int) := ⟨fun f z => (((ordN (prM f) (rkM f) z.toNat).1 : Nat) : Int), fun _ _ => rfl⟩
noncomputable def nRl (f : Nat → Int32) (z : Int) : Int := Classical.choose nRl_ex f z
theorem nRl_eq (f : Nat → Int32) (z : Int) : nRl f z = (((ordN (prM f) (rkM f) z.toNat).1 : Nat) : Int) := Classical.choose_spec nRl_ex f z
theorem nRl_0 (f : Nat → Int32) : nRl f 0 = 0 := by rw [nRl_eq]; rfl
theorem nRl_s {f : Nat → Int32} {z : Int} (h : 0 ≤ z) : (aI f (10 * z + 0) ≠ -1 → nRl f (z + 1) = nRl f z + 1) ∧ (aI f (10 * z + 0) = -1 → nRl f (z + 1) = nRl f z) := by
  have e : (z + 1).toNat = z.toNat + 1 := by omega
  have e2 : ((z.toNat : Nat) : Int) = z := by omega
  rw [nRl_eq, nRl_eq, e]
  refine ⟨fun q => ?_, fun q => ?_⟩
  · rw [ordN_t (show prM f z.toNat = true from by unfold prM; rw [e2]; exact decide_eq_true q)]
    show ((((ordN (prM f) (rkM f) z.toNat).1 + 1 : Nat)) : Int) = _
    omega
  · rw [ordN_f (show prM f z.toNat = false from by unfold prM; rw [e2]; exact decide_eq_false (fun x => x q))]
/-- what the queue has of a rule fails -/
def QFl (f : Nat → Int32) (r : Int → Int) (l : List (Int × Int)) (n : Int) : Prop := ∃ x, x ∈ l ∧ x.1 = n ∧ fzq f r x.1 x.2 = 1
theorem RV.drop {f g : Nat → Int32} {x : Int} (h : RV f) (hu : ∀ z : Int, 0 ≤ z → aI g z = if z = 10 * x then -1 else aI f z) : RV g := by
  intro r h0 h1
  have h3 := h r h0 h1
  unfold RVr at h3 ⊢
  rw [hu (10 * r + 0) (by omega), hu (10 * r + 1) (by omega), hu (10 * r + 2) (by omega), hu (10 * r + 3) (by omega), if_neg (c := 10 * r + 1 = 10 * x) (by omega), if_neg (c := 10 * r + 2 = 10 * x) (by omega), if_neg (c := 10 * r + 3 = 10 * x) (by omega)]
  split
  · omega
  · exact h3
theorem RV.late {f g : Nat → Int32} {x y : Int} (h : RV f) (hu : ∀ z : Int, 0 ≤ z → aI g z = if z = 10 * x + 6 then y else aI f z) : RV g := by
  intro r h0 h1
  have h3 := h r h0 h1
  unfold RVr at h3 ⊢
  rw [hu (10 * r + 0) (by omega), hu (10 * r + 1) (by omega), hu (10 * r + 2) (by omega), hu (10 * r + 3) (by omega), if_neg (by omega), if_neg (by omega), if_neg (by omega), if_neg (by omega)]
  exact h3
/-! ===== how many rows the reference has ===== -/
def bsm (f : Int → Int) : Nat → Int
  | 0 => 0
  | n + 1 => bsm f n + f n
theorem bsm_cg {f g : Int → Int} : ∀ n : Nat, (∀ k : Nat, k < n → f k = g k) → bsm f n = bsm g n
  | 0, _ => rfl
  | n + 1, h => by
    show bsm f n + f n = bsm g n + g n
    rw [bsm_cg n (fun k hk => h k (by omega)), h n (by omega)]
theorem bsm_add (f : Int → Int) (a : Nat) : ∀ n : Nat, bsm f (a + n) = bsm f a + bsm (fun k => f ((a : Int) + k)) n
  | 0 => (Int.add_zero _).symm
  | n + 1 => by
    show bsm f (a + n) + f ((a + n : Nat) : Int) = bsm f a + (bsm (fun k => f ((a : Int) + k)) n + f ((a : Int) + ((n : Nat) : Int)))
    rw [bsm_add f a n, show ((a + n : Nat) : Int) = (a : Int) + ((n : Nat) : Int) by omega]
    omega
def rmT (f : Nat → Int32) (z : Int) : Int := bsm (fun k => aI f (4 * k)) (z / 4).toNat
theorem rmT_0 (f : Nat → Int32) : rmT f 0 = 0 := rfl
theorem rmT_s (f : Nat → Int32) {z : Int} (h : 0 ≤ z) (h4 : z % 4 = 0) : rmT f (z + 4) = rmT f z + aI f z := by
  have e : ((z + 4) / 4).toNat = (z / 4).toNat + 1 := by omega
  have e2 : 4 * (((z / 4).toNat : Nat) : Int) = z := by omega
  unfold rmT
  rw [e]
  show bsm (fun k => aI f (4 * k)) (z / 4).toNat + aI f (4 * (((z / 4).toNat : Nat) : Int)) = _
  rw [e2]
theorem RM.is {f : Nat → Int32} (h : RM f 0) {z : Int} (h0 : 0 ≤ z ∧ z < 360) (h4 : z % 4 = 0) : aI f z = 0 ∨ aI f z = 1 := by
  have e : 0 + 4 * (30 * (z / 120) + (z / 4 - 30 * (z / 120))) = z := by omega
  have q := h (z / 120) (z / 4 - 30 * (z / 120)) (by omega) (by omega) (by omega) (by omega)
  rw [e] at q
  exact q.imp id (fun x => x.1)
theorem v_X11_drop_44_1 {K : Nat → Nat} {F : Nat → Nat → Nat} (a : Nat) (G : XG) (G6 : XG) (G39 : XG) (x37 : Int32) (p0 : Int32) (x11 : Int32)
    (ha : K a = 13)
    (hG39 : G39 = cput G6 (F a 10) x37.toNatClampNeg (-1))
    (e37 : x37.toInt = ((10 : Int) * p0.toInt))
    (t6 : ((G6.1 a 20).toInt) = -2147483648 ∧ ((G6.1 a 21).toInt) = -2147483648 ∧ ((G6.1 a 23).toInt) = 0)
    (t11 : (x11.toInt = 1 ∧ 0 ≤ p0.toInt ∧ p0.toInt ≤ 11 ∧ (aI (G.2.1 (F a 10)) (10 * p0.toInt + 0)) ≠ -1) ∨ (x11.toInt = 0 ∧ (¬ (0 ≤ p0.toInt ∧ p0.toInt ≤ 11) ∨ (aI (G.2.1 (F a 10)) (10 * p0.toInt + 0)) = -1)))
    (c14 : x11.toInt ≠ 0)
    (f12 : ((G.1 a 6).toInt) = 0 ∨ ((G.1 a 6).toInt) = 1)
    (c24 : ((G.1 a 6).toInt) = 0)
    (c_G6_F_a_10 : G6.2.1 (F a 10) = G.2.1 (F a 10)) :
    (¬ (0 ≤ p0.toInt ∧ p0.toInt ≤ 11 ∧ aI (G.2.1 (F a 10)) (10 * p0.toInt + 0) ≠ -1) ∧ (nRl (G39.2.1 (F a 10)) 12) = -2 ∧ G39.2.1 (F a 10) = (G.2.1 (F a 10))) ∨ ((0 ≤ p0.toInt ∧ p0.toInt ≤ 11 ∧ aI (G.2.1 (F a 10)) (10 * p0.toInt + 0) ≠ -1) ∧ ((((G.1 a 6).toInt) ≠ 0 ∧ (nRl (G39.2.1 (F a 10)) 12) = -3 ∧ G39.2.1 (F a 10) = (G.2.1 (F a 10))) ∨ (((G.1 a 6).toInt) = 0 ∧ (∀ z : Int, 0 ≤ z → aI (G39.2.1 (F a 10)) z = if z = 10 * p0.toInt then -1 else aI (G.2.1 (F a 10)) z) ∧ (nRl (G39.2.1 (F a 10)) 12) = nRl (G39.2.1 (F a 10)) 12))) := by
  exact Or.inr ⟨by omega, Or.inr ⟨by omega, aI_pu hG39 c_G6_F_a_10 (by omega) (by decide) (by omega), by omega⟩⟩
theorem v_X11_drop_44_2 {K : Nat → Nat} {F : Nat → Nat → Nat} (a : Nat) (G : XG) (G6 : XG) (G39 : XG) (x37 : Int32) (p0 : Int32) (x11 : Int32)
    (ha : K a = 13)
    (hG39 : G39 = cput G6 (F a 10) x37.toNatClampNeg (-1))
    (hR : RV (G.2.1 (F a 10)))
    (e37 : x37.toInt = ((10 : Int) * p0.toInt))
    (t6 : ((G6.1 a 20).toInt) = -2147483648 ∧ ((G6.1 a 21).toInt) = -2147483648 ∧ ((G6.1 a 23).toInt) = 0)
    (t11 : (x11.toInt = 1 ∧ 0 ≤ p0.toInt ∧ p0.toInt ≤ 11 ∧ (aI (G.2.1 (F a 10)) (10 * p0.toInt + 0)) ≠ -1) ∨ (x11.toInt = 0 ∧ (¬ (0 ≤ p0.toInt ∧ p0.toInt ≤ 11) ∨ (aI (G.2.1 (F a 10)) (10 * p0.toInt + 0)) = -1)))
    (c14 : x11.toInt ≠ 0)
    (f12 : ((G.1 a 6).toInt) = 0 ∨ ((G.1 a 6).toInt) = 1)
    (c24 : ((G.1 a 6).toInt) = 0)
    (c_G6_F_a_10 : G6.2.1 (F a 10) = G.2.1 (F a 10)) :
    RV (G39.2.1 (F a 10)) := by
  exact hR.drop (aI_pu hG39 c_G6_F_a_10 (by omega) (by decide) (by omega))
theorem v_X11_drop_29_3 {K : Nat → Nat} {F : Nat → Nat → Nat} (a : Nat) (G : XG) (G6 : XG) (x11 : Int32) (p0 : Int32)
    (ha : K a = 13)
    (t6 : ((G6.1 a 20).toInt) = -2147483648 ∧ ((G6.1 a 21).toInt) = -2147483648 ∧ ((G6.1 a 23).toInt) = 0)
    (t11 : (x11.toInt = 1 ∧ 0 ≤ p0.toInt ∧ p0.toInt ≤ 11 ∧ (aI (G.2.1 (F a 10)) (10 * p0.toInt + 0)) ≠ -1) ∨ (x11.toInt = 0 ∧ (¬ (0 ≤ p0.toInt ∧ p0.toInt ≤ 11) ∨ (aI (G.2.1 (F a 10)) (10 * p0.toInt + 0)) = -1)))
    (c14 : x11.toInt ≠ 0)
    (f9 : ((G.1 a 6).toInt) = 0 ∨ ((G.1 a 6).toInt) = 1)
    (c24 : ¬ (((G.1 a 6).toInt) = 0))
    (c_G6_F_a_10 : G6.2.1 (F a 10) = G.2.1 (F a 10)) :
    (¬ (0 ≤ p0.toInt ∧ p0.toInt ≤ 11 ∧ aI (G.2.1 (F a 10)) (10 * p0.toInt + 0) ≠ -1) ∧ (-3 : Int) = -2 ∧ G6.2.1 (F a 10) = (G.2.1 (F a 10))) ∨ ((0 ≤ p0.toInt ∧ p0.toInt ≤ 11 ∧ aI (G.2.1 (F a 10)) (10 * p0.toInt + 0) ≠ -1) ∧ ((((G.1 a 6).toInt) ≠ 0 ∧ (-3 : Int) = -3 ∧ G6.2.1 (F a 10) = (G.2.1 (F a 10))) ∨ (((G.1 a 6).toInt) = 0 ∧ (∀ z : Int, 0 ≤ z → aI (G6.2.1 (F a 10)) z = if z = 10 * p0.toInt then -1 else aI (G.2.1 (F a 10)) z) ∧ (-3 : Int) = nRl (G6.2.1 (F a 10)) 12))) := by
  exact Or.inr ⟨by omega, Or.inl ⟨by omega, rfl, by rw [c_G6_F_a_10]⟩⟩
theorem v_X11_drop_29_4 {F : Nat → Nat → Nat} (a : Nat) (G : XG) (G6 : XG)
    (hR : RV (G.2.1 (F a 10)))
    (c_G6_F_a_10 : G6.2.1 (F a 10) = G.2.1 (F a 10)) :
    RV (G6.2.1 (F a 10)) := by
  rw [c_G6_F_a_10]; exact hR
theorem v_X11_drop_19_5 {K : Nat → Nat} {F : Nat → Nat → Nat} (a : Nat) (G : XG) (G6 : XG) (x11 : Int32) (p0 : Int32)
    (ha : K a = 13)
    (t6 : ((G6.1 a 20).toInt) = -2147483648 ∧ ((G6.1 a 21).toInt) = -2147483648 ∧ ((G6.1 a 23).toInt) = 0)
    (t11 : (x11.toInt = 1 ∧ 0 ≤ p0.toInt ∧ p0.toInt ≤ 11 ∧ (aI (G.2.1 (F a 10)) (10 * p0.toInt + 0)) ≠ -1) ∨ (x11.toInt = 0 ∧ (¬ (0 ≤ p0.toInt ∧ p0.toInt ≤ 11) ∨ (aI (G.2.1 (F a 10)) (10 * p0.toInt + 0)) = -1)))
    (c14 : ¬ (x11.toInt ≠ 0))
    (c_G6_F_a_10 : G6.2.1 (F a 10) = G.2.1 (F a 10)) :
    (¬ (0 ≤ p0.toInt ∧ p0.toInt ≤ 11 ∧ aI (G.2.1 (F a 10)) (10 * p0.toInt + 0) ≠ -1) ∧ (-2 : Int) = -2 ∧ G6.2.1 (F a 10) = (G.2.1 (F a 10))) ∨ ((0 ≤ p0.toInt ∧ p0.toInt ≤ 11 ∧ aI (G.2.1 (F a 10)) (10 * p0.toInt + 0) ≠ -1) ∧ ((((G.1 a 6).toInt) ≠ 0 ∧ (-2 : Int) = -3 ∧ G6.2.1 (F a 10) = (G.2.1 (F a 10))) ∨ (((G.1 a 6).toInt) = 0 ∧ (∀ z : Int, 0 ≤ z → aI (G6.2.1 (F a 10)) z = if z = 10 * p0.toInt then -1 else aI (G.2.1 (F a 10)) z) ∧ (-2 : Int) = nRl (G6.2.1 (F a 10)) 12))) := by
  exact Or.inl ⟨by omega, rfl, by rw [c_G6_F_a_10]⟩
theorem v_X11_drop_19_6 {F : Nat → Nat → Nat} (a : Nat) (G : XG) (G6 : XG)
    (hR : RV (G.2.1 (F a 10)))
    (c_G6_F_a_10 : G6.2.1 (F a 10) = G.2.1 (F a 10)) :
    RV (G6.2.1 (F a 10)) := by
  rw [c_G6_F_a_10]; exact hR
theorem v_X11_inQueue_1_1 {F : Nat → Nat → Nat} (a : Nat) (G : XG)
    (hR : RV (G.2.1 (F a 10))) :
    RV (G.2.1 (F a 10)) := by exact hR
theorem v_X11_inQueue_1_2 {F : Nat → Nat → Nat} (a : Nat) (G : XG)
    (hM : RM (G.2.1 (F a 1)) (0)) :
    RM (G.2.1 (F a 1)) (0) := by exact hM
theorem v_X11_inQueue_1_3 {F : Nat → Nat → Nat} (a : Nat) (G : XG)
    (hB : RM (G.2.1 (F a 2)) 0) :
    RM (G.2.1 (F a 2)) 0 := by exact hB
theorem v_X11_inQueue_41_4 {F : Nat → Nat → Nat} (a : Nat) (G : XG) (G1 : XG)
    (oq1 : pL G1 F a = if ((G.1 a 6).toInt) = 0 then [] else fuO (G.2.1 (F a 10)) (mw (G.2.1 (F a 1)) 0) (mw (G.2.1 (F a 2)) 0) 1) :
    pL G1 F a = if ((G.1 a 6).toInt) = 0 then [] else fuO (G.2.1 (F a 10)) (mw (G.2.1 (F a 1)) 0) (mw (G.2.1 (F a 2)) 0) 1 := by
  exact oq1
theorem v_X11_inQueue_41_5 {K : Nat → Nat} {F : Nat → Nat → Nat} (a : Nat) (G : XG) (G1 : XG) (p0 : Int32) (l3_8 : Int32) (l2_8 : Int32) (N8 : Nat)
    (ha : K a = 13)
    (oq1a : ((G.1 a 6).toInt) ≠ 0 → LSt (G.2.1 (F a 10)) (G1.2.1 (F a 11)) (mw (G.2.1 (F a 1)) 0) 12 ∧ LSt (G.2.1 (F a 10)) (G1.2.1 (F a 13)) (mw (G.2.1 (F a 2)) 0) 12)
    (oq1b : G1.2.2.2 = G.2.2.2)
    (t1 : 0 ≤ ((G1.1 a 19).toInt) ∧ ((G1.1 a 19).toInt) ≤ 2388)
    (z6 : (hv (aI (G1.2.1 (F a 17))) 0 (p0.toInt) 0) = 0)
    (I8_0 : 0 ≤ l3_8.toInt ∧ l3_8.toInt ≤ ((G1.1 a 19).toInt))
    (I8_1 : 0 ≤ l2_8.toInt ∧ l2_8.toInt ≤ l3_8.toInt)
    (I8_2 : l2_8.toInt = (hv (aI (G1.2.1 (F a 17))) 0 (p0.toInt) (l3_8.toInt)))
    (I8_3 : (0 : Int) ≤ l3_8.toInt)
    (hm8 : 2147483648 - l3_8.toInt < (((N8) + 1 : Nat) : Int))
    (c13 : ((G1.1 a 19).toInt) ≤ l3_8.toInt)
    (z40 : l3_8.toInt = ((G1.1 a 19).toInt) → (hv (aI (G1.2.1 (F a 17))) 0 (p0.toInt) (l3_8.toInt)) = (hv (aI (G1.2.1 (F a 17))) 0 (p0.toInt) ((G1.1 a 19).toInt))) :
    l2_8.toInt = cnP (pL G1 F a) p0.toInt := by
  have e := hv_pL G1 F a p0.toInt
  omega
theorem v_X11_begin_35_1 {K : Nat → Nat} {F : Nat → Nat → Nat} (a : Nat) (G2 : XG) (G : XG) (G17 : XG) (G22 : XG)
    (ha : K a = 13)
    (hk9999 : K (F a 2) = 31)
    (hj9999 : F (F a 2) 99 = 2)
    (hk9999a : K (F a 8) = 35)
    (hj9999a : F (F a 8) 99 = 8)
    (hk9999b : K (F a 1) = 30)
    (hj9999b : F (F a 1) 99 = 1)
    (hG2 : G2 = dput G a 0 0)
    (hG17 : G17 = dput G2 a 6 1)
    (hG22 : G22 = dput G17 a 7 0)
    (hM : RM (G.2.1 (F a 1)) (0))
    (hB : RM (G.2.1 (F a 2)) 0)
    (f12 : ((G.1 a 6).toInt) = 0 ∨ ((G.1 a 6).toInt) = 1)
    (c9 : ((G.1 a 6).toInt) = 0)
    (c_G2_F_a_2 : G2.2.1 (F a 2) = G.2.1 (F a 2))
    (c_G22_F_a_1 : G22.2.1 (F a 1) = G.2.1 (F a 1))
    (c_G22_F_a_2 : G22.2.1 (F a 2) = G.2.1 (F a 2))
    (c_G22_F_a_8 : G22.2.1 (F a 8) = G.2.1 (F a 8))
    (d_G22_a_0 : G22.1 a 0 = 0)
    (d_G22_a_6 : G22.1 a 6 = 1)
    (d_G22_a_7 : G22.1 a 7 = 0) :
    (F a 1) ≠ (F a 2) := by
  intro e
  have h1 : K (F a 1) = 30 := by assumption
  have h2 : K (F a 2) = 31 := by assumption
  rw [e, h2] at h1
  exact absurd h1 (by decide)
theorem v_X11_begin_60_2 {F : Nat → Nat → Nat} (a : Nat) (G : XG) (G_40 : XG)
    (hM : RM (G.2.1 (F a 1)) (0))
    (hB : RM (G.2.1 (F a 2)) 0)
    (c_G_40_F_a_1 : G_40.2.1 (F a 1) = G.2.1 (F a 1)) :
    RM (G_40.2.1 (F a 1)) (0) := by simp only [c_G_40_F_a_1]; assumption
theorem v_X11_begin_63_3 {K : Nat → Nat} {F : Nat → Nat → Nat} (a : Nat) (G : XG) (G22 : XG) (G35 : XG) (G_40 : XG) (l1_40 : Int32) (N40 : Nat) (x60 : Int32)
    (ha : K a = 13)
    (oq35 : CPd (G22.2.1 (F a 1)) (G22.2.1 (F a 2)) (G35.2.1 (F a 2)) (0 : Int) (0 : Int) 360)
    (f15 : ((G.1 a 6).toInt) = 0 ∨ ((G.1 a 6).toInt) = 1)
    (c9 : ((G.1 a 6).toInt) = 0)
    (I40_0 : (0 : Int) ≤ l1_40.toInt)
    (hm40 : 2147483648 - l1_40.toInt < (((N40) + 1 : Nat) : Int))
    (c43 : (6 : Int) ≤ l1_40.toInt)
    (t60 : x60.toInt = (rmT (G.2.1 (F a 1)) 360) ∧ (0 ≤ x60.toInt ∧ x60.toInt ≤ 90))
    (c_G22_F_a_1 : G22.2.1 (F a 1) = G.2.1 (F a 1))
    (c_G_40_F_a_2 : G_40.2.1 (F a 2) = G35.2.1 (F a 2)) :
    (((G.1 a 6).toInt) ≠ 0 ∧ G_40.2.1 (F a 2) = (G.2.1 (F a 2))) ∨ (((G.1 a 6).toInt) = 0 ∧ mw (G_40.2.1 (F a 2)) 0 = mw (G.2.1 (F a 1)) 0) := by
  exact Or.inr ⟨by omega, by rw [c_G_40_F_a_2, ← c_G22_F_a_1]; exact CPd.vwm oq35 (by decide)⟩
theorem v_X11_begin_63_4 {F : Nat → Nat → Nat} (a : Nat) (G : XG) (G22 : XG) (G35 : XG) (G_40 : XG)
    (hM : RM (G.2.1 (F a 1)) (0))
    (oq35 : CPd (G22.2.1 (F a 1)) (G22.2.1 (F a 2)) (G35.2.1 (F a 2)) (0 : Int) (0 : Int) 360)
    (c_G22_F_a_1 : G22.2.1 (F a 1) = G.2.1 (F a 1))
    (c_G_40_F_a_2 : G_40.2.1 (F a 2) = G35.2.1 (F a 2)) :
    RM (G_40.2.1 (F a 2)) 0 := by
  rw [c_G_40_F_a_2]; exact CPd.rm oq35 (by decide) (by rw [c_G22_F_a_1]; exact hM)
theorem v_X11_begin_14_5 {K : Nat → Nat} {F : Nat → Nat → Nat} (a : Nat) (G2 : XG) (G : XG)
    (ha : K a = 13)
    (f10 : ((G.1 a 6).toInt) = 0 ∨ ((G.1 a 6).toInt) = 1)
    (c9 : ¬ (((G.1 a 6).toInt) = 0))
    (c_G2_F_a_2 : G2.2.1 (F a 2) = G.2.1 (F a 2)) :
    (((G.1 a 6).toInt) ≠ 0 ∧ G2.2.1 (F a 2) = (G.2.1 (F a 2))) ∨ (((G.1 a 6).toInt) = 0 ∧ mw (G2.2.1 (F a 2)) 0 = mw (G.2.1 (F a 1)) 0) := by
  exact Or.inl ⟨by omega, by rw [c_G2_F_a_2]⟩
theorem v_X11_begin_14_6 {F : Nat → Nat → Nat} (a : Nat) (G2 : XG) (G : XG)
    (hB : RM (G.2.1 (F a 2)) 0)
    (c_G2_F_a_2 : G2.2.1 (F a 2) = G.2.1 (F a 2)) :
    RM (G2.2.1 (F a 2)) 0 := by
  rw [c_G2_F_a_2]; exact hB
theorem v_X11_abort_16_1 {F : Nat → Nat → Nat} (a : Nat) (G2 : XG) (G : XG)
    (hR : RV (G.2.1 (F a 10)))
    (c_G2_F_a_10 : G2.2.1 (F a 10) = G.2.1 (F a 10)) :
    RV (G2.2.1 (F a 10)) := by simp only [c_G2_F_a_10]; assumption
theorem v_X11_abort_16_2 {F : Nat → Nat → Nat} (a : Nat) (G2 : XG) (G : XG)
    (hM : RM (G.2.1 (F a 1)) (0))
    (hB : RM (G.2.1 (F a 2)) 0)
    (c_G2_F_a_1 : G2.2.1 (F a 1) = G.2.1 (F a 1)) :
    RM (G2.2.1 (F a 1)) (0) := by simp only [c_G2_F_a_1]; assumption
theorem v_X11_abort_16_3 {F : Nat → Nat → Nat} (a : Nat) (G2 : XG) (G : XG)
    (hM : RM (G.2.1 (F a 1)) (0))
    (hB : RM (G.2.1 (F a 2)) 0)
    (c_G2_F_a_2 : G2.2.1 (F a 2) = G.2.1 (F a 2)) :
    RM (G2.2.1 (F a 2)) 0 := by simp only [c_G2_F_a_2]; assumption
theorem v_X11_abort_30_4 {K : Nat → Nat} {F : Nat → Nat → Nat} (a : Nat) (G2 : XG) (G : XG) (G16 : XG) (x16 : Int32)
    (ha : K a = 13)
    (hk9999 : K (F a 15) = 42)
    (hj9999 : F (F a 15) 99 = 15)
    (hk9999a : K (F a 17) = 43)
    (hj9999a : F (F a 17) 99 = 17)
    (hk9999b : K (F a 18) = 44)
    (hj9999b : F (F a 18) 99 = 18)
    (hk9999c : K (F a 11) = 38)
    (hj9999c : F (F a 11) 99 = 11)
    (hk9999d : K (F a 13) = 38)
    (hj9999d : F (F a 13) 99 = 13)
    (hk9999e : K (F a 1) = 30)
    (hj9999e : F (F a 1) 99 = 1)
    (hk9999f : K (F a 9) = 36)
    (hj9999f : F (F a 9) 99 = 9)
    (hk9999g : K (F a 10) = 37)
    (hj9999g : F (F a 10) 99 = 10)
    (hk9999h : K (F a 2) = 31)
    (hj9999h : F (F a 2) 99 = 2)
    (hG2 : G2 = dput G a 0 0)
    (hF16 : XFr [(a, 16), (a, 19)] [F a 15, F a 17, F a 18, F a 11, F a 13] [] G2 G16)
    (hR : RV (G.2.1 (F a 10)))
    (hM : RM (G.2.1 (F a 1)) (0))
    (hB : RM (G.2.1 (F a 2)) 0)
    (oq16 : pL G16 F a = if ((G.1 a 6).toInt) = 0 then [] else fuO (G.2.1 (F a 10)) (mw (G.2.1 (F a 1)) 0) (mw (G.2.1 (F a 2)) 0) 1)
    (oq16a : x16.toInt = ((G16.1 a 19).toInt))
    (f26 : ((G.1 a 6).toInt) = 0 ∨ ((G.1 a 6).toInt) = 1)
    (c9 : ((G.1 a 6).toInt) ≠ 0)
    (t16 : 0 ≤ x16.toInt ∧ x16.toInt ≤ 2388)
    (c_G16_F_a_1 : G16.2.1 (F a 1) = G.2.1 (F a 1))
    (c_G16_F_a_2 : G16.2.1 (F a 2) = G.2.1 (F a 2))
    (c_G16_F_a_9 : G16.2.1 (F a 9) = G.2.1 (F a 9))
    (c_G2_F_a_1 : G2.2.1 (F a 1) = G.2.1 (F a 1))
    (d_G16_a_0 : G16.1 a 0 = 0)
    (d_G16_a_6 : G16.1 a 6 = G.1 a 6) :
    (F a 2) ≠ (F a 1) := by
  intro e
  have h1 : K (F a 1) = 30 := by assumption
  have h2 : K (F a 2) = 31 := by assumption
  rw [← e, h2] at h1
  exact absurd h1 (by decide)
theorem v_X11_abort_49_5 {K : Nat → Nat} {F : Nat → Nat → Nat} (a : Nat) (G : XG) (G16 : XG) (G30 : XG) (G47 : XG) (x16 : Int32)
    (ha : K a = 13)
    (oq16a : x16.toInt = ((G16.1 a 19).toInt))
    (oq30 : CPd (G16.2.1 (F a 2)) (G16.2.1 (F a 1)) (G30.2.1 (F a 1)) (0 : Int) (0 : Int) 360)
    (f31 : ((G.1 a 6).toInt) = 0 ∨ ((G.1 a 6).toInt) = 1)
    (c9 : ((G.1 a 6).toInt) ≠ 0)
    (t16 : 0 ≤ x16.toInt ∧ x16.toInt ≤ 2388)
    (c_G16_F_a_2 : G16.2.1 (F a 2) = G.2.1 (F a 2))
    (c_G47_F_a_1 : G47.2.1 (F a 1) = G30.2.1 (F a 1)) :
    (((G.1 a 6).toInt) = 0 ∧ G47.2.1 (F a 1) = (G.2.1 (F a 1))) ∨ (((G.1 a 6).toInt) ≠ 0 ∧ mw (G47.2.1 (F a 1)) 0 = mw (G.2.1 (F a 2)) 0) := by
  exact Or.inr ⟨by omega, by rw [c_G47_F_a_1, ← c_G16_F_a_2]; exact CPd.vwm oq30 (by decide)⟩
theorem v_X11_abort_49_6 {F : Nat → Nat → Nat} (a : Nat) (G : XG) (G16 : XG) (G30 : XG) (G47 : XG)
    (hB : RM (G.2.1 (F a 2)) 0)
    (oq30 : CPd (G16.2.1 (F a 2)) (G16.2.1 (F a 1)) (G30.2.1 (F a 1)) (0 : Int) (0 : Int) 360)
    (c_G16_F_a_2 : G16.2.1 (F a 2) = G.2.1 (F a 2))
    (c_G47_F_a_1 : G47.2.1 (F a 1) = G30.2.1 (F a 1)) :
    RM (G47.2.1 (F a 1)) 0 := by
  rw [c_G47_F_a_1]; exact CPd.rm oq30 (by decide) (by rw [c_G16_F_a_2]; exact hB)
theorem v_X11_abort_49_7 {K : Nat → Nat} {F : Nat → Nat → Nat} (a : Nat) (G : XG) (G16 : XG) (x16 : Int32)
    (ha : K a = 13)
    (oq16 : pL G16 F a = if ((G.1 a 6).toInt) = 0 then [] else fuO (G.2.1 (F a 10)) (mw (G.2.1 (F a 1)) 0) (mw (G.2.1 (F a 2)) 0) 1)
    (oq16a : x16.toInt = ((G16.1 a 19).toInt))
    (f31 : ((G.1 a 6).toInt) = 0 ∨ ((G.1 a 6).toInt) = 1)
    (c9 : ((G.1 a 6).toInt) ≠ 0)
    (t16 : 0 ≤ x16.toInt ∧ x16.toInt ≤ 2388) :
    ((G.1 a 6).toInt) = 0 ∨ x16.toInt = (((fuO (G.2.1 (F a 10)) (mw (G.2.1 (F a 1)) 0) (mw (G.2.1 (F a 2)) 0) 1).length : Nat) : Int) := by
  have e := pL_len G16 F a
  rw [oq16, if_neg (by omega)] at e
  exact Or.inr (by omega)
theorem v_X11_abort_14_8 {K : Nat → Nat} {F : Nat → Nat → Nat} (a : Nat) (G2 : XG) (G : XG)
    (ha : K a = 13)
    (f23 : ((G.1 a 6).toInt) = 0 ∨ ((G.1 a 6).toInt) = 1)
    (c9 : ¬ (((G.1 a 6).toInt) ≠ 0))
    (c_G2_F_a_1 : G2.2.1 (F a 1) = G.2.1 (F a 1)) :
    (((G.1 a 6).toInt) = 0 ∧ G2.2.1 (F a 1) = (G.2.1 (F a 1))) ∨ (((G.1 a 6).toInt) ≠ 0 ∧ mw (G2.2.1 (F a 1)) 0 = mw (G.2.1 (F a 2)) 0) := by
  exact Or.inl ⟨by omega, by rw [c_G2_F_a_1]⟩
theorem v_X11_abort_14_9 {F : Nat → Nat → Nat} (a : Nat) (G2 : XG) (G : XG)
    (hM : RM (G.2.1 (F a 1)) (0))
    (c_G2_F_a_1 : G2.2.1 (F a 1) = G.2.1 (F a 1)) :
    RM (G2.2.1 (F a 1)) 0 := by
  rw [c_G2_F_a_1]; exact hM
theorem v_X11_abort_14_10 {K : Nat → Nat} {F : Nat → Nat → Nat} (a : Nat) (G : XG)
    (ha : K a = 13)
    (f23 : ((G.1 a 6).toInt) = 0 ∨ ((G.1 a 6).toInt) = 1)
    (c9 : ¬ (((G.1 a 6).toInt) ≠ 0)) :
    ((G.1 a 6).toInt) = 0 ∨ (-3 : Int) = (((fuO (G.2.1 (F a 10)) (mw (G.2.1 (F a 1)) 0) (mw (G.2.1 (F a 2)) 0) 1).length : Nat) : Int) := by
  exact Or.inl (by omega)
theorem v_X11_mark_44_1 {K : Nat → Nat} {F : Nat → Nat → Nat} (a : Nat) (G2 : XG) (G : XG) (x43 : Int32)
    (ha : K a = 13)
    (hk9999 : K (F a 3) = 32)
    (hj9999 : F (F a 3) 99 = 3)
    (hk9999a : K (F a 1) = 30)
    (hj9999a : F (F a 1) 99 = 1)
    (hG2 : G2 = dput G a 0 0)
    (hM : RM (G.2.1 (F a 1)) (0))
    (e43 : x43.toInt = ((360 : Int) * ((G.1 a 7).toInt)))
    (m0 : 0 ≤ ((G.1 a 7).toInt) ∧ ((G.1 a 7).toInt) ≤ 8)
    (f9 : ((G.1 a 6).toInt) = 0 ∨ ((G.1 a 6).toInt) = 1)
    (c9 : ((G.1 a 6).toInt) ≠ 0)
    (c21 : ((G.1 a 7).toInt) ≠ (8 : Int))
    (c_G2_F_a_1 : G2.2.1 (F a 1) = G.2.1 (F a 1))
    (c_G2_F_a_3 : G2.2.1 (F a 3) = G.2.1 (F a 3))
    (d_G2_a_0 : G2.1 a 0 = 0)
    (d_G2_a_7 : G2.1 a 7 = G.1 a 7) :
    (F a 1) ≠ (F a 3) := by
  intro e
  have h1 : K (F a 1) = 30 := by assumption
  have h2 : K (F a 3) = 32 := by assumption
  rw [e, h2] at h1
  exact absurd h1 (by decide)
theorem v_X11_mark_63_2 {K : Nat → Nat} {F : Nat → Nat → Nat} (a : Nat) (G2 : XG) (G : XG) (G44 : XG) (G54 : XG)
    (ha : K a = 13)
    (oq44 : CPd (G2.2.1 (F a 1)) (G2.2.1 (F a 3)) (G44.2.1 (F a 3)) (0 : Int) ((360 : Int) * ((G.1 a 7).toInt)) 360)
    (m0 : 0 ≤ ((G.1 a 7).toInt) ∧ ((G.1 a 7).toInt) ≤ 8)
    (f14 : ((G.1 a 6).toInt) = 0 ∨ ((G.1 a 6).toInt) = 1)
    (c9 : ((G.1 a 6).toInt) ≠ 0)
    (c21 : ((G.1 a 7).toInt) ≠ (8 : Int))
    (c_G2_F_a_1 : G2.2.1 (F a 1) = G.2.1 (F a 1))
    (c_G2_F_a_3 : G2.2.1 (F a 3) = G.2.1 (F a 3))
    (c_G54_F_a_3 : G54.2.1 (F a 3) = G44.2.1 (F a 3)) :
    ((((G.1 a 6).toInt) = 0 ∨ ((G.1 a 7).toInt) = 8) ∧ G54.2.1 (F a 3) = (G.2.1 (F a 3))) ∨ ((((G.1 a 6).toInt) ≠ 0 ∧ ((G.1 a 7).toInt) ≠ 8) ∧ CPd (G.2.1 (F a 1)) (G.2.1 (F a 3)) (G54.2.1 (F a 3)) 0 (360 * ((G.1 a 7).toInt)) 360) := by
  exact Or.inr ⟨by omega, by rw [c_G54_F_a_3, ← c_G2_F_a_1, ← c_G2_F_a_3]; exact oq44⟩
theorem v_X11_mark_26_3 {K : Nat → Nat} {F : Nat → Nat → Nat} (a : Nat) (G2 : XG) (G : XG)
    (ha : K a = 13)
    (m0 : 0 ≤ ((G.1 a 7).toInt) ∧ ((G.1 a 7).toInt) ≤ 8)
    (f8 : ((G.1 a 6).toInt) = 0 ∨ ((G.1 a 6).toInt) = 1)
    (c9 : ((G.1 a 6).toInt) ≠ 0)
    (c21 : ¬ (((G.1 a 7).toInt) ≠ (8 : Int)))
    (c_G2_F_a_3 : G2.2.1 (F a 3) = G.2.1 (F a 3)) :
    ((((G.1 a 6).toInt) = 0 ∨ ((G.1 a 7).toInt) = 8) ∧ G2.2.1 (F a 3) = (G.2.1 (F a 3))) ∨ ((((G.1 a 6).toInt) ≠ 0 ∧ ((G.1 a 7).toInt) ≠ 8) ∧ CPd (G.2.1 (F a 1)) (G.2.1 (F a 3)) (G2.2.1 (F a 3)) 0 (360 * ((G.1 a 7).toInt)) 360) := by
  exact Or.inl ⟨by omega, by rw [c_G2_F_a_3]⟩
theorem v_X11_mark_14_4 {K : Nat → Nat} {F : Nat → Nat → Nat} (a : Nat) (G2 : XG) (G : XG)
    (ha : K a = 13)
    (m0 : 0 ≤ ((G.1 a 7).toInt) ∧ ((G.1 a 7).toInt) ≤ 8)
    (f8 : ((G.1 a 6).toInt) = 0 ∨ ((G.1 a 6).toInt) = 1)
    (c9 : ¬ (((G.1 a 6).toInt) ≠ 0))
    (c_G2_F_a_3 : G2.2.1 (F a 3) = G.2.1 (F a 3)) :
    ((((G.1 a 6).toInt) = 0 ∨ ((G.1 a 7).toInt) = 8) ∧ G2.2.1 (F a 3) = (G.2.1 (F a 3))) ∨ ((((G.1 a 6).toInt) ≠ 0 ∧ ((G.1 a 7).toInt) ≠ 8) ∧ CPd (G.2.1 (F a 1)) (G.2.1 (F a 3)) (G2.2.1 (F a 3)) 0 (360 * ((G.1 a 7).toInt)) 360) := by
  exact Or.inl ⟨by omega, by rw [c_G2_F_a_3]⟩
theorem z_X11_ruleMany_1 (a0 : Int) (h0 : 0 ≤ a0 ∧ a0 ≤ 12) : ¬ (2147483648 - a0 < ((0 : Nat) : Int)) := by omega
theorem z_X11_ruleMany_2 (a0 : Int) (a1 : Int) (a2 : Int) (a3 : Int) (h0 : a0 = a2) (h1 : 0 ≤ a1 ∧ a1 ≤ 12) (h2 : (12 : Int) ≤ a1) (h3 : a1 = 12 → a2 = a3) : a0 = a3 := by omega
theorem z_X11_ruleMany_3 (a0 : Int) (h0 : 0 ≤ a0 ∧ a0 ≤ 12) : 0 ≤ a0 := by omega
theorem z_X11_ruleMany_4 (a0 : Int) (a1 : Int) (h0 : a1 = (a0 + (0 : Int)) ∨ (a0 + (0 : Int)) < -2147483648 ∨ 2147483648 ≤ (a0 + (0 : Int))) (h1 : -2147483648 ≤ a0 ∧ a0 < 2147483648) : a1 = (a0 + (0 : Int)) := by omega
theorem z_X11_ruleMany_5 (a0 : Int) (a1 : Int) (h0 : 0 ≤ a0 ∧ a0 ≤ 12) (h1 : a1 = (a0 + 1) ∨ (a0 + 1) < -2147483648 ∨ 2147483648 ≤ (a0 + 1)) : a1 = (a0 + 1) := by omega
theorem z_X11_ruleMany_6 (a0 : Int) (a1 : Int) (a2 : Int) (a3 : Int) (a4 : Int) (a5 : Int) (h0 : a0 = a5) (h1 : 0 ≤ a1 ∧ a1 ≤ 12) (h2 : ¬ ((12 : Int) ≤ a1)) (h3 : a3 = -1 → a4 = a5) (h4 : (a2 = 1 ∧ 0 ≤ a1 ∧ a1 ≤ 11 ∧ a3 ≠ -1) ∨ (a2 = 0 ∧ (¬ (0 ≤ a1 ∧ a1 ≤ 11) ∨ a3 = -1))) (h5 : a2 = 0) : (a0 + (0 : Int)) = a4 := by omega
theorem z_X11_ruleMany_7 (a0 : Int) (h0 : 0 ≤ a0 ∧ a0 ≤ 12) (h1 : ¬ ((12 : Int) ≤ a0)) : 0 ≤ (a0 + 1) ∧ (a0 + 1) ≤ 12 := by omega
theorem z_X11_ruleMany_8 (a0 : Int) (a1 : Int) (h0 : 0 ≤ a0 ∧ a0 ≤ a1) : 0 ≤ (a0 + (0 : Int)) ∧ (a0 + (0 : Int)) ≤ (a1 + 1) := by omega
theorem z_X11_ruleMany_9 (a0 : Int) (h0 : 0 ≤ a0 ∧ a0 ≤ 12) : (0 : Int) ≤ (a0 + 1) := by omega
theorem z_X11_ruleMany_10 (a0 : Int) (a1 : Nat) (h0 : 2147483648 - a0 < ((a1 + 1 : Nat) : Int)) : 2147483648 - (a0 + 1) < ((a1 : Nat) : Int) := by omega
theorem z_X11_ruleMany_11 (a0 : Int) (a1 : Int) (a2 : Int) (h0 : 0 ≤ a0 ∧ a0 ≤ a1) (h1 : ¬ ((12 : Int) ≤ a1)) (h2 : a2 = (a0 + (1 : Int)) ∨ (a0 + (1 : Int)) < -2147483648 ∨ 2147483648 ≤ (a0 + (1 : Int))) : a2 = (a0 + (1 : Int)) := by omega
theorem z_X11_ruleMany_13 (a0 : Int) (a1 : Int) (a2 : Int) (a3 : Int) (a4 : Int) (a5 : Int) (h0 : a0 = a5) (h1 : a3 ≠ -1 → a4 = a5 + 1) (h2 : (a2 = 1 ∧ 0 ≤ a1 ∧ a1 ≤ 11 ∧ a3 ≠ -1) ∨ (a2 = 0 ∧ (¬ (0 ≤ a1 ∧ a1 ≤ 11) ∨ a3 = -1))) (h3 : ¬ (a2 = 0)) : (a0 + (1 : Int)) = a4 := by omega
theorem z_X11_ruleMany_15 (a0 : Int) (a1 : Int) (h0 : 0 ≤ a0 ∧ a0 ≤ a1) : 0 ≤ (a0 + (1 : Int)) ∧ (a0 + (1 : Int)) ≤ (a1 + 1) := by omega
theorem z_X11_ruleMany_18 (a0 : Int) (h0 : a0 = 0) : (0 : Int) = a0 := by omega
abbrev rm_X11_ruleMany : Room := { frames := 2, cells := 0, slots := 0, locals := 46 }
set_option maxHeartbeats 4000000 in
set_option maxRecDepth 100000 in
theorem c_X11_ruleMany (l : Launch) (E : XE) (K : Nat → Nat) (F : Nat → Nat → Nat) (G : XG) (h0 : Heap) (a : Nat) (ha : K a = 13) : Met l yX11_ruleMany (xw yX11_ruleMany cX11_ruleMany 3 (some .int)) rm_X11_ruleMany (va_Pc [.ref a] (XPh E K F G h0)) (XQ E (fun v (u : Unit) => ∃ r : Int32, v = .int r ∧ (r.toInt = (nRl (G.2.1 (F a 10)) 12))) (fun _ H => H = h0)) 0 0 (xA E) := by
  refine x_enter (by decide) (Nat.le_of_ble_eq_true rfl) ?_
  intro p e s m args below meth c Q S hr hlk hnm hQ hP ls hl
  obtain ⟨⟨hz, hK, hT⟩, hh⟩ := hP
  obtain ⟨hx, hb, -, -, -⟩ := id S
  have hS : va_S (xA E) s.heap s.heap [] := va_S.rf
  have hl : lv_has ls 3 [(0, .ref a)] := hl
  obtain ⟨hk9999, hj9999⟩ := fkX11_10 hT ha
  have z0 : (nRl (G.2.1 (F a 10)) 0) = 0 := nRl_0 _
  refine lv_iconst (v := 0) hx hb dX11_ruleMany_0 (by decide) ?_
  refine lv_istore_n (lv' := [(1, .int 0), (0, .ref a)]) hx hb dX11_ruleMany_1 rfl hl (by decide) rfl (fun ls hl => ?_)
  refine lv_iconst (v := 0) hx hb dX11_ruleMany_2 (by decide) ?_
  refine lv_istore_n (lv' := [(2, .int 0), (1, .int 0), (0, .ref a)]) hx hb dX11_ruleMany_3 rfl hl (by decide) rfl (fun ls hl => ?_)
  have L4 : ∀ (N4 : Nat) (l1_4 : Int32) (l2_4 : Int32) (locs : List Loc) (ls : Array Slot), l1_4.toInt = (nRl (G.2.1 (F a 10)) (l2_4.toInt)) → 0 ≤ l2_4.toInt ∧ l2_4.toInt ≤ 12 → 0 ≤ l1_4.toInt ∧ l1_4.toInt ≤ l2_4.toInt → (0 : Int) ≤ l2_4.toInt → 2147483648 - l2_4.toInt < ((N4 : Nat) : Int) → TW E K F G s.heap → va_S (xA E) s.heap s.heap locs → lv_has ls 3 [(0, .ref a), (1, .int l1_4), (2, .int l2_4)] → W p l e rm_X11_ruleMany s m args below meth c s.heap locs 0 0 Q (F0 m 4 ls []) := by
    intro N4
    induction N4 with
    | zero =>
      intro l1_4 l2_4 locs ls I4_0 I4_1 I4_2 I4_3 hm4
      exact absurd hm4 (z_X11_ruleMany_1 l2_4.toInt I4_1)
    | succ N4 ih4 =>
      intro l1_4 l2_4 locs ls I4_0 I4_1 I4_2 I4_3 hm4 hT hS hl
      refine lv_iload_n hx hb dX11_ruleMany_4 rfl (lv_at hl 2 rfl) ?_
      refine lv_bipush (v := 12) hx hb dX11_ruleMany_5 (by decide) ?_
      refine xi_cge (tgt := 32) hx hb (rfl : Int32.toInt l2_4 = l2_4.toInt) ((by decide) : Int32.toInt 12 = (12 : Int)) dX11_ruleMany_7 (by decide) (fun c7 => ?_) (fun c7 => ?_)
      · have z32 : l2_4.toInt = 12 → (nRl (G.2.1 (F a 10)) (l2_4.toInt)) = (nRl (G.2.1 (F a 10)) 12) := fun h9 => by rw [h9]
        refine lv_iload_n hx hb dX11_ruleMany_32 rfl (lv_at hl 1 rfl) ?_
        exact x_ri hx hb hr hlk hQ (Nat.le_of_ble_eq_true rfl) (Nat.le_of_ble_eq_true rfl) hS dX11_ruleMany_33 () ⟨_, rfl, (z_X11_ruleMany_2 l1_4.toInt l2_4.toInt (nRl (G.2.1 (F a 10)) (l2_4.toInt)) (nRl (G.2.1 (F a 10)) 12) I4_0 I4_1 c7 z32)⟩ hh
      · have z10 : ((aI (G.2.1 (F a 10)) (10 * l2_4.toInt + 0)) ≠ -1 → (nRl (G.2.1 (F a 10)) (l2_4.toInt + 1)) = (nRl (G.2.1 (F a 10)) (l2_4.toInt)) + 1) ∧ ((aI (G.2.1 (F a 10)) (10 * l2_4.toInt + 0)) = -1 → (nRl (G.2.1 (F a 10)) (l2_4.toInt + 1)) = (nRl (G.2.1 (F a 10)) (l2_4.toInt))) := nRl_s (z_X11_ruleMany_3 l2_4.toInt I4_1)
        refine lv_iload_n hx hb dX11_ruleMany_10 rfl (lv_at hl 1 rfl) ?_
        refine lv_aload_n hx hb dX11_ruleMany_11 rfl (lv_at hl 0 rfl) ?_
        refine lv_iload_n hx hb dX11_ruleMany_12 rfl (lv_at hl 2 rfl) ?_
        refine x_clp (x_runV (b := a) (As := [.int l2_4]) (rest := [.int l1_4]) S (c_X11_isRule l E K F G s.heap a l2_4 ha) mv_X11_isRule km_X11_162 rfl rfl ⟨Nat.le_of_ble_eq_true rfl, Nat.le_of_ble_eq_true rfl⟩ (rc_13 hK hT ha) hK (fun _ => XPh.blind) (fun U hU hW => XPh.at hK hz hS hT hU hW) rfl hl.1 (Nat.le_of_ble_eq_true rfl) dX11_ruleMany_13 ⟨Nat.le_of_ble_eq_true rfl, Nat.le_of_ble_eq_true rfl⟩) hS ?_
        rintro _ _ locs ⟨x13, rfl, b13, t13⟩ hS
        have t13 : (x13.toInt = 1 ∧ 0 ≤ l2_4.toInt ∧ l2_4.toInt ≤ 11 ∧ (aI (G.2.1 (F a 10)) (10 * l2_4.toInt + 0)) ≠ -1) ∨ (x13.toInt = 0 ∧ (¬ (0 ≤ l2_4.toInt ∧ l2_4.toInt ≤ 11) ∨ (aI (G.2.1 (F a 10)) (10 * l2_4.toInt + 0)) = -1)) := t13
        refine xi_zeq (tgt := 23) hx hb (rfl : Int32.toInt x13 = x13.toInt) dX11_ruleMany_16 (by decide) (fun c16 => ?_) (fun c16 => ?_)
        · refine lv_iconst (v := 0) hx hb dX11_ruleMany_23 (by decide) ?_
          refine xi_iadd hx hb (rfl : Int32.toInt l1_4 = l1_4.toInt) ((by decide) : Int32.toInt 0 = (0 : Int)) dX11_ruleMany_24 (fun x24 t24 => ?_)
          have e24 : x24.toInt = (l1_4.toInt + (0 : Int)) := (z_X11_ruleMany_4 l1_4.toInt x24.toInt t24 (xr l1_4))
          refine lv_istore_n (lv' := [(1, .int x24), (0, .ref a), (2, .int l2_4)]) hx hb dX11_ruleMany_25 rfl hl (by decide) rfl (fun ls hl => ?_)
          refine xi_iinc (n := 1) (lv' := fun z9 => [(2, .int z9), (1, .int x24), (0, .ref a)]) (k := 2) hx hb (rfl : Int32.toInt l2_4 = l2_4.toInt) (by decide) dX11_ruleMany_26 hl rfl (by decide) (fun _ => rfl) (fun x26 ls t26 hl => ?_)
          have e26 : x26.toInt = (l2_4.toInt + 1) := (z_X11_ruleMany_5 l2_4.toInt x26.toInt I4_1 t26)
          have hl : lv_has ls 3 [(2, .int x26), (1, .int x24), (0, .ref a)] := hl
          refine lv_goto (tgt := 4) hx hb dX11_ruleMany_29 (by decide) ?_
          exact ih4 x24 x26 _ _ (by rw [(e24 : Int32.toInt x24 = (l1_4.toInt + (0 : Int))), (e26 : Int32.toInt x26 = (l2_4.toInt + 1))] <;> exact (z_X11_ruleMany_6 l1_4.toInt l2_4.toInt x13.toInt (aI (G.2.1 (F a 10)) (10 * l2_4.toInt + 0)) (nRl (G.2.1 (F a 10)) (l2_4.toInt + 1)) (nRl (G.2.1 (F a 10)) (l2_4.toInt)) I4_0 I4_1 c7 (z10).2 t13 c16)) (by rw [(e26 : Int32.toInt x26 = (l2_4.toInt + 1))] <;> exact (z_X11_ruleMany_7 l2_4.toInt I4_1 c7)) (by rw [(e24 : Int32.toInt x24 = (l1_4.toInt + (0 : Int))), (e26 : Int32.toInt x26 = (l2_4.toInt + 1))] <;> exact (z_X11_ruleMany_8 l1_4.toInt l2_4.toInt I4_2)) (by rw [(e26 : Int32.toInt x26 = (l2_4.toInt + 1))] <;> exact (z_X11_ruleMany_9 l2_4.toInt I4_1)) (by rw [(e26 : Int32.toInt x26 = (l2_4.toInt + 1))] <;> exact (z_X11_ruleMany_10 l2_4.toInt N4 hm4)) hT hS (lv_sub hl [2, 1, 0] rfl)
        · refine lv_iconst (v := 1) hx hb dX11_ruleMany_19 (by decide) ?_
          refine lv_goto (tgt := 24) hx hb dX11_ruleMany_20 (by decide) ?_
          refine xi_iadd hx hb (rfl : Int32.toInt l1_4 = l1_4.toInt) ((by decide) : Int32.toInt 1 = (1 : Int)) dX11_ruleMany_24 (fun x24 t24 => ?_)
          have e24 : x24.toInt = (l1_4.toInt + (1 : Int)) := (z_X11_ruleMany_11 l1_4.toInt l2_4.toInt x24.toInt I4_2 c7 t24)
          refine lv_istore_n (lv' := [(1, .int x24), (0, .ref a), (2, .int l2_4)]) hx hb dX11_ruleMany_25 rfl hl (by decide) rfl (fun ls hl => ?_)
          refine xi_iinc (n := 1) (lv' := fun z9 => [(2, .int z9), (1, .int x24), (0, .ref a)]) (k := 2) hx hb (rfl : Int32.toInt l2_4 = l2_4.toInt) (by decide) dX11_ruleMany_26 hl rfl (by decide) (fun _ => rfl) (fun x26 ls t26 hl => ?_)
          have e26 : x26.toInt = (l2_4.toInt + 1) := (z_X11_ruleMany_5 l2_4.toInt x26.toInt I4_1 t26)
          have hl : lv_has ls 3 [(2, .int x26), (1, .int x24), (0, .ref a)] := hl
          refine lv_goto (tgt := 4) hx hb dX11_ruleMany_29 (by decide) ?_
          exact ih4 x24 x26 _ _ (by rw [(e24 : Int32.toInt x24 = (l1_4.toInt + (1 : Int))), (e26 : Int32.toInt x26 = (l2_4.toInt + 1))] <;> exact (z_X11_ruleMany_13 l1_4.toInt l2_4.toInt x13.toInt (aI (G.2.1 (F a 10)) (10 * l2_4.toInt + 0)) (nRl (G.2.1 (F a 10)) (l2_4.toInt + 1)) (nRl (G.2.1 (F a 10)) (l2_4.toInt)) I4_0 (z10).1 t13 c16)) (by rw [(e26 : Int32.toInt x26 = (l2_4.toInt + 1))] <;> exact (z_X11_ruleMany_7 l2_4.toInt I4_1 c7)) (by rw [(e24 : Int32.toInt x24 = (l1_4.toInt + (1 : Int))), (e26 : Int32.toInt x26 = (l2_4.toInt + 1))] <;> exact (z_X11_ruleMany_15 l1_4.toInt l2_4.toInt I4_2)) (by rw [(e26 : Int32.toInt x26 = (l2_4.toInt + 1))] <;> exact (z_X11_ruleMany_9 l2_4.toInt I4_1)) (by rw [(e26 : Int32.toInt x26 = (l2_4.toInt + 1))] <;> exact (z_X11_ruleMany_10 l2_4.toInt N4 hm4)) hT hS (lv_sub hl [2, 1, 0] rfl)
  exact L4 4294967297 0 0 _ _ (z_X11_ruleMany_18 (nRl (G.2.1 (F a 10)) 0) z0) (by decide) (by decide) (by decide) (by decide) hT hS (lv_sub hl [2, 1, 0] rfl)

theorem z_X11_drop_1 (a0 : Int) (a1 : Int) (a2 : Int) (a3 : Int) (h0 : (a1 = 1 ∧ 0 ≤ a0 ∧ a0 ≤ 11 ∧ a3 ≠ -1) ∨ (a1 = 0 ∧ (¬ (0 ≤ a0 ∧ a0 ≤ 11) ∨ a3 = -1))) (h1 : a1 ≠ 0) (h2 : a2 = ((10 : Int) * a0) ∨ ((10 : Int) * a0) < -2147483648 ∨ 2147483648 ≤ ((10 : Int) * a0)) : a2 = ((10 : Int) * a0) := by omega
theorem z_X11_drop_2 (a0 : Int) (a1 : Int) (a2 : Int) (h0 : (a1 = 1 ∧ 0 ≤ a0 ∧ a0 ≤ 11 ∧ a2 ≠ -1) ∨ (a1 = 0 ∧ (¬ (0 ≤ a0 ∧ a0 ≤ 11) ∨ a2 = -1))) (h1 : a1 ≠ 0) : 0 ≤ ((10 : Int) * a0) ∧ ((10 : Int) * a0) < ((120 : Nat) : Int) := by omega
theorem z_X11_drop_3 (a0 : Int) (a1 : Int) (a2 : Int) (h0 : a0 = -2147483648 ∧ a1 = -2147483648 ∧ a2 = 0) : (0 ≤ a2 ∧ a2 ≤ 24) := by omega
abbrev rm_X11_drop : Room := { frames := 3, cells := 0, slots := 0, locals := 68 }
set_option maxHeartbeats 4000000 in
set_option maxRecDepth 100000 in
theorem c_X11_drop (l : Launch) (E : XE) (K : Nat → Nat) (F : Nat → Nat → Nat) (G : XG) (a : Nat) (p0 : Int32) (ha : K a = 13) (hR : RV (G.2.1 (F a 10))) : Met l yX11_drop (xw yX11_drop cX11_drop 2 (some .int)) rm_X11_drop (va_Pc [.ref a, .int p0] (XP E K F G)) (XQ E (fun v (u : XG) => ∃ r : Int32, v = .int r ∧ XFr [(a, 0), (a, 20), (a, 21), (a, 23)] [F a 10] [] G u ∧ ((0 ≤ ((u.1 a 23).toInt) ∧ ((u.1 a 23).toInt) ≤ 24)) ∧ ((¬ (0 ≤ p0.toInt ∧ p0.toInt ≤ 11 ∧ aI (G.2.1 (F a 10)) (10 * p0.toInt + 0) ≠ -1) ∧ r.toInt = -2 ∧ u.2.1 (F a 10) = (G.2.1 (F a 10))) ∨ ((0 ≤ p0.toInt ∧ p0.toInt ≤ 11 ∧ aI (G.2.1 (F a 10)) (10 * p0.toInt + 0) ≠ -1) ∧ ((((G.1 a 6).toInt) ≠ 0 ∧ r.toInt = -3 ∧ u.2.1 (F a 10) = (G.2.1 (F a 10))) ∨ (((G.1 a 6).toInt) = 0 ∧ (∀ z : Int, 0 ≤ z → aI (u.2.1 (F a 10)) z = if z = 10 * p0.toInt then -1 else aI (G.2.1 (F a 10)) z) ∧ r.toInt = nRl (u.2.1 (F a 10)) 12)))) ∧ (RV (u.2.1 (F a 10)))) (fun u H => TW E K F u H)) 0 0 (xA E) := by
  refine x_enter (by decide) (Nat.le_of_ble_eq_true rfl) ?_
  intro p e s m args below meth c Q S hr hlk hnm hQ hP ls hl
  obtain ⟨hz, hK, hT⟩ := hP
  obtain ⟨hx, hb, -, -, -⟩ := id S
  obtain ⟨H, hT, hS, hgo⟩ : ∃ H : Heap, TW E K F G H ∧ va_S (xA E) s.heap H [] ∧ H = s.heap := ⟨_, hT, va_S.rf, rfl⟩
  rw [← hgo]
  have hl : lv_has ls 2 [(0, .ref a), (1, .int p0)] := hl
  obtain ⟨hk9999, hj9999⟩ := fkX11_10 hT ha
  refine lv_aload_n hx hb dX11_drop_0 rfl (lv_at hl 0 rfl) ?_
  refine lv_iconst (v := 0) hx hb dX11_drop_1 (by decide) ?_
  refine pX11_0 (v := 0) S hK hT hS ha kf_X11_134 dX11_drop_2 (fun H locs hT hS => ?_)
  obtain ⟨G2, hG2⟩ : ∃ GG : XG, GG = dput G a 0 0 := ⟨_, rfl⟩
  rw [← hG2] at hT
  refine lv_aload_n hx hb dX11_drop_5 rfl (lv_at hl 0 rfl) ?_
  refine x_cv0 (x_runV (b := a) (As := []) (rest := []) S (c_X11_nothing l E K F G2 a ha) mv_X11_nothing km_X11_231 rfl rfl ⟨Nat.le_of_ble_eq_true rfl, Nat.le_of_ble_eq_true rfl⟩ (rc_13 hK hT ha) hK (fun _ => XP.blind) (fun U hU hW => XP.at hK hz hS hT hU hW) rfl hl.1 (Nat.le_of_ble_eq_true rfl) dX11_drop_6 ⟨Nat.le_of_ble_eq_true rfl, Nat.le_of_ble_eq_true rfl⟩) hS ?_
  rintro G6 H locs ⟨hF6, t6⟩ hT hS
  have t6 : ((G6.1 a 20).toInt) = -2147483648 ∧ ((G6.1 a 21).toInt) = -2147483648 ∧ ((G6.1 a 23).toInt) = 0 := t6
  refine lv_aload_n hx hb dX11_drop_9 rfl (lv_at hl 0 rfl) ?_
  refine lv_iload_n hx hb dX11_drop_10 rfl (lv_at hl 1 rfl) ?_
  refine x_clp (x_runV (b := a) (As := [.int p0]) (rest := []) S (c_X11_isRule l E K F G6 H a p0 ha) mv_X11_isRule km_X11_162 rfl rfl ⟨Nat.le_of_ble_eq_true rfl, Nat.le_of_ble_eq_true rfl⟩ (rc_13 hK hT ha) hK (fun _ => XPh.blind) (fun U hU hW => XPh.at hK hz hS hT hU hW) rfl hl.1 (Nat.le_of_ble_eq_true rfl) dX11_drop_11 ⟨Nat.le_of_ble_eq_true rfl, Nat.le_of_ble_eq_true rfl⟩) hS ?_
  rintro _ _ locs ⟨x11, rfl, b11, t11⟩ hS
  have t11 : (x11.toInt = 1 ∧ 0 ≤ p0.toInt ∧ p0.toInt ≤ 11 ∧ (aI (G.2.1 (F a 10)) (10 * p0.toInt + 0)) ≠ -1) ∨ (x11.toInt = 0 ∧ (¬ (0 ≤ p0.toInt ∧ p0.toInt ≤ 11) ∨ (aI (G.2.1 (F a 10)) (10 * p0.toInt + 0)) = -1)) := by rw [(show G6.2.1 (F a 10) = G.2.1 (F a 10) from ((hF6.2.1 _ xn0).trans (ld_c hG2)))] at t11; exact t11
  refine xi_zne (tgt := 20) hx hb (rfl : Int32.toInt x11 = x11.toInt) dX11_drop_14 (by decide) (fun c14 => ?_) (fun c14 => ?_)
  · refine lv_aload_n hx hb dX11_drop_20 rfl (lv_at hl 0 rfl) ?_
    refine gX11_6 S hK hT ha kf_X11_206 dX11_drop_21 (v := (G.1 a 6)) ((hF6.1 _ _ (xnj (by decide) (xnj (by decide) (xnj (by decide) xn0)))).trans (ld_j hG2 (by decide))) (fun hz21 => ?_)
    refine xi_zeq (tgt := 30) hx hb (rfl : Int32.toInt (G.1 a 6) = ((G.1 a 6).toInt)) dX11_drop_24 (by decide) (fun c24 => ?_) (fun c24 => ?_)
    · refine lv_aload_n hx hb dX11_drop_30 rfl (lv_at hl 0 rfl) ?_
      refine gX11_10 S hK hT ha kf_X11_33 dX11_drop_31 (fun _ _ => ?_)
      refine lv_bipush (v := 10) hx hb dX11_drop_34 (by decide) ?_
      refine lv_iload_n hx hb dX11_drop_36 rfl (lv_at hl 1 rfl) ?_
      refine xi_imul hx hb ((by decide) : Int32.toInt 10 = (10 : Int)) (rfl : Int32.toInt p0 = p0.toInt) dX11_drop_37 (fun x37 t37 => ?_)
      have e37 : x37.toInt = ((10 : Int) * p0.toInt) := (z_X11_drop_1 p0.toInt x11.toInt x37.toInt (aI (G.2.1 (F a 10)) (10 * p0.toInt + 0)) t11 c14 t37)
      refine lv_iconst (v := (-1)) hx hb dX11_drop_38 (by decide) ?_
      refine as_0 (x := (-1)) S hK hT hS hk9999 ar_37 aw_37 (by decide) (by rw [(e37 : Int32.toInt x37 = ((10 : Int) * p0.toInt))]; exact (z_X11_drop_2 p0.toInt x11.toInt (aI (G.2.1 (F a 10)) (10 * p0.toInt + 0)) t11 c14)) dX11_drop_39 (fun H locs hT hS => ?_)
      obtain ⟨G39, hG39⟩ : ∃ GG : XG, GG = cput G6 (F a 10) x37.toNatClampNeg (-1) := ⟨_, rfl⟩
      rw [← hG39] at hT
      refine lv_aload_n hx hb dX11_drop_40 rfl (lv_at hl 0 rfl) ?_
      refine x_clp (x_runV (b := a) (As := []) (rest := []) S (c_X11_ruleMany l E K F G39 H a ha) mv_X11_ruleMany km_X11_303 rfl rfl ⟨Nat.le_of_ble_eq_true rfl, Nat.le_of_ble_eq_true rfl⟩ (rc_13 hK hT ha) hK (fun _ => XPh.blind) (fun U hU hW => XPh.at hK hz hS hT hU hW) rfl hl.1 (Nat.le_of_ble_eq_true rfl) dX11_drop_41 ⟨Nat.le_of_ble_eq_true rfl, Nat.le_of_ble_eq_true rfl⟩) hS ?_
      rintro _ _ locs ⟨x41, rfl, t41⟩ hS
      have t41 : x41.toInt = (nRl (G39.2.1 (F a 10)) 12) := t41
      exact x_ri hx hb hr hlk hQ (Nat.le_of_ble_eq_true rfl) (Nat.le_of_ble_eq_true rfl) hS dX11_drop_44 G39 ⟨_, rfl, (by rw [hG39]; exact XFr.cput (XFr.call (by rw [hG2]; exact XFr.dput XFr.rf (List.mem_of_getElem? (i := 0) rfl)) hF6 (xm1 1 rfl (xm1 2 rfl (xm1 3 rfl xm0))) xm0 xm0) (List.mem_of_getElem? (i := 0) rfl)), (by rw [(show (G39.1 a 23).toInt = ((G6.1 a 23).toInt) from (congrArg Int32.toInt (lc_d hG39)).trans (rfl : Int32.toInt (G6.1 a 23) = ((G6.1 a 23).toInt)))] <;> exact (z_X11_drop_3 ((G6.1 a 20).toInt) ((G6.1 a 21).toInt) ((G6.1 a 23).toInt) t6)), (by rw [(t41 : Int32.toInt x41 = (nRl (G39.2.1 (F a 10)) 12))] <;> exact (v_X11_drop_44_1 (K := K) (F := F) a G G6 G39 x37 p0 x11 ha hG39 e37 t6 t11 c14 (xzi hz21) c24 ((hF6.2.1 _ xn0).trans (ld_c hG2)))), (v_X11_drop_44_2 (K := K) (F := F) a G G6 G39 x37 p0 x11 ha hG39 hR e37 t6 t11 c14 (xzi hz21) c24 ((hF6.2.1 _ xn0).trans (ld_c hG2)))⟩ hT
    · refine lv_bipush (v := (-3)) hx hb dX11_drop_27 (by decide) ?_
      exact x_ri hx hb hr hlk hQ (Nat.le_of_ble_eq_true rfl) (Nat.le_of_ble_eq_true rfl) hS dX11_drop_29 G6 ⟨_, rfl, (XFr.call (by rw [hG2]; exact XFr.dput XFr.rf (List.mem_of_getElem? (i := 0) rfl)) hF6 (xm1 1 rfl (xm1 2 rfl (xm1 3 rfl xm0))) xm0 xm0), (z_X11_drop_3 ((G6.1 a 20).toInt) ((G6.1 a 21).toInt) ((G6.1 a 23).toInt) t6), (by rw [((by decide) : Int32.toInt (-3) = (-3 : Int))] <;> exact (v_X11_drop_29_3 (K := K) (F := F) a G G6 x11 p0 ha t6 t11 c14 (xzi hz21) c24 ((hF6.2.1 _ xn0).trans (ld_c hG2)))), (v_X11_drop_29_4 (F := F) a G G6 hR ((hF6.2.1 _ xn0).trans (ld_c hG2)))⟩ hT
  · refine lv_bipush (v := (-2)) hx hb dX11_drop_17 (by decide) ?_
    exact x_ri hx hb hr hlk hQ (Nat.le_of_ble_eq_true rfl) (Nat.le_of_ble_eq_true rfl) hS dX11_drop_19 G6 ⟨_, rfl, (XFr.call (by rw [hG2]; exact XFr.dput XFr.rf (List.mem_of_getElem? (i := 0) rfl)) hF6 (xm1 1 rfl (xm1 2 rfl (xm1 3 rfl xm0))) xm0 xm0), (z_X11_drop_3 ((G6.1 a 20).toInt) ((G6.1 a 21).toInt) ((G6.1 a 23).toInt) t6), (by rw [((by decide) : Int32.toInt (-2) = (-2 : Int))] <;> exact (v_X11_drop_19_5 (K := K) (F := F) a G G6 x11 p0 ha t6 t11 c14 ((hF6.2.1 _ xn0).trans (ld_c hG2)))), (v_X11_drop_19_6 (F := F) a G G6 hR ((hF6.2.1 _ xn0).trans (ld_c hG2)))⟩ hT

theorem z_X11_inQueue_1 (a0 : Int) (h0 : -2147483648 ≤ a0 ∧ a0 < 2147483648) : ¬ (2147483648 - a0 < ((0 : Nat) : Int)) := by omega
theorem z_X11_inQueue_2 (a0 : Int) (a1 : Int) (a2 : Int) (h0 : 0 ≤ a2 ∧ a2 ≤ 2388) (h1 : 0 ≤ a1 ∧ a1 ≤ a2) (h2 : 0 ≤ a0 ∧ a0 ≤ a1) : 0 ≤ a0 ∧ a0 ≤ 2388 ∧ 0 ≤ a2 ∧ a2 ≤ 2388 := by omega
theorem z_X11_inQueue_3 (a0 : Int) (a1 : Int) (h0 : 0 ≤ a0 ∧ a0 ≤ a1) : 0 ≤ a0 := by omega
theorem z_X11_inQueue_4 (a0 : Int) (a1 : Int) (h0 : 0 ≤ a1 ∧ a1 ≤ 2388) (h1 : 0 ≤ a0 ∧ a0 ≤ a1) : 0 ≤ a0 ∧ a0 < ((2400 : Nat) : Int) := by omega
theorem z_X11_inQueue_6 (a0 : Int) (a1 : Int) (a2 : Int) (h0 : 0 ≤ a2 ∧ a2 ≤ 2388) (h1 : 0 ≤ a0 ∧ a0 ≤ a2) (h2 : a1 = (a0 + 1) ∨ (a0 + 1) < -2147483648 ∨ 2147483648 ≤ (a0 + 1)) : a1 = (a0 + 1) := by omega
theorem z_X11_inQueue_7 (a0 : Int) (a1 : Int) (h0 : 0 ≤ a0 ∧ a0 ≤ a1) (h1 : ¬ (a1 ≤ a0)) : 0 ≤ (a0 + 1) ∧ (a0 + 1) ≤ a1 := by omega
theorem z_X11_inQueue_9 (a0 : Int) (a1 : Int) (a2 : Int) (a3 : Int) (a4 : Int) (h0 : a0 = a4) (h1 : a2 ≠ a1 → a3 = a4) (h2 : a2 ≠ a1) : (a0 + (0 : Int)) = a3 := by omega
theorem z_X11_inQueue_10 (a0 : Int) (a1 : Int) (h0 : 0 ≤ a0 ∧ a0 ≤ a1) : (0 : Int) ≤ (a0 + 1) := by omega
theorem z_X11_inQueue_12 (a0 : Int) (a1 : Int) (a2 : Int) (a3 : Int) (h0 : 0 ≤ a3 ∧ a3 ≤ 2388) (h1 : 0 ≤ a0 ∧ a0 ≤ a1) (h2 : ¬ (a3 ≤ a1)) (h3 : a2 = (a0 + (1 : Int)) ∨ (a0 + (1 : Int)) < -2147483648 ∨ 2147483648 ≤ (a0 + (1 : Int))) : a2 = (a0 + (1 : Int)) := by omega
theorem z_X11_inQueue_16 (a0 : Int) (a1 : Int) (a2 : Int) (a3 : Int) (a4 : Int) (h0 : a0 = a4) (h1 : a2 = a1 → a3 = a4 + 1) (h2 : ¬ (a2 ≠ a1)) : (a0 + (1 : Int)) = a3 := by omega
theorem z_X11_inQueue_19 (a0 : Int) (h0 : 0 ≤ a0 ∧ a0 ≤ 2388) : 0 ≤ (0 : Int) ∧ (0 : Int) ≤ a0 := by omega
abbrev rm_X11_inQueue : Room := { frames := 5, cells := 0, slots := 0, locals := 122 }
set_option maxHeartbeats 4000000 in
set_option maxRecDepth 100000 in
theorem c_X11_inQueue (l : Launch) (E : XE) (K : Nat → Nat) (F : Nat → Nat → Nat) (G : XG) (a : Nat) (p0 : Int32) (ha : K a = 13) (hR : RV (G.2.1 (F a 10))) (hM : RM (G.2.1 (F a 1)) (0)) (hB : RM (G.2.1 (F a 2)) 0) : Met l yX11_inQueue (xw yX11_inQueue cX11_inQueue 4 (some .int)) rm_X11_inQueue (va_Pc [.ref a, .int p0] (XP E K F G)) (XQ E (fun v (u : XG) => ∃ r : Int32, v = .int r ∧ XFr [(a, 16), (a, 19)] [F a 15, F a 17, F a 18, F a 11, F a 13] [] G u ∧ (0 ≤ r.toInt ∧ r.toInt ≤ 2388 ∧ 0 ≤ ((u.1 a 19).toInt) ∧ ((u.1 a 19).toInt) ≤ 2388) ∧ (pL u F a = if ((G.1 a 6).toInt) = 0 then [] else fuO (G.2.1 (F a 10)) (mw (G.2.1 (F a 1)) 0) (mw (G.2.1 (F a 2)) 0) 1) ∧ (r.toInt = cnP (pL u F a) p0.toInt)) (fun u H => TW E K F u H)) 0 0 (xA E) := by
  refine x_enter (by decide) (Nat.le_of_ble_eq_true rfl) ?_
  intro p e s m args below meth c Q S hr hlk hnm hQ hP ls hl
  obtain ⟨hz, hK, hT⟩ := hP
  obtain ⟨hx, hb, -, -, -⟩ := id S
  obtain ⟨H, hT, hS, hgo⟩ : ∃ H : Heap, TW E K F G H ∧ va_S (xA E) s.heap H [] ∧ H = s.heap := ⟨_, hT, va_S.rf, rfl⟩
  rw [← hgo]
  have hl : lv_has ls 4 [(0, .ref a), (1, .int p0)] := hl
  obtain ⟨hk9999, hj9999⟩ := fkX11_15 hT ha
  obtain ⟨hk9999a, hj9999a⟩ := fkX11_17 hT ha
  obtain ⟨hk9999b, hj9999b⟩ := fkX11_18 hT ha
  obtain ⟨hk9999c, hj9999c⟩ := fkX11_11 hT ha
  obtain ⟨hk9999d, hj9999d⟩ := fkX11_13 hT ha
  obtain ⟨hk9999e, hj9999e⟩ := fkX11_10 hT ha
  obtain ⟨hk9999f, hj9999f⟩ := fkX11_1 hT ha
  obtain ⟨hk9999g, hj9999g⟩ := fkX11_2 hT ha
  refine lv_aload_n hx hb dX11_inQueue_0 rfl (lv_at hl 0 rfl) ?_
  refine x_cv0 (x_runV (b := a) (As := []) (rest := []) S (c_X11_findQueue l E K F G a ha (v_X11_inQueue_1_1 (F := F) a G hR) (v_X11_inQueue_1_2 (F := F) a G hM) (v_X11_inQueue_1_3 (F := F) a G hB)) mv_X11_findQueue km_X11_218 rfl rfl ⟨Nat.le_of_ble_eq_true rfl, Nat.le_of_ble_eq_true rfl⟩ (rc_13 hK hT ha) hK (fun _ => XP.blind) (fun U hU hW => XP.at hK hz hS hT hU hW) rfl hl.1 (Nat.le_of_ble_eq_true rfl) dX11_inQueue_1 ⟨Nat.le_of_ble_eq_true rfl, Nat.le_of_ble_eq_true rfl⟩) hS ?_
  rintro G1 H locs ⟨hF1, t1, oq1, oq1a, oq1b⟩ hT hS
  have t1 : 0 ≤ ((G1.1 a 19).toInt) ∧ ((G1.1 a 19).toInt) ≤ 2388 := t1
  refine lv_iconst (v := 0) hx hb dX11_inQueue_4 (by decide) ?_
  refine lv_istore_n (lv' := [(2, .int 0), (0, .ref a), (1, .int p0)]) hx hb dX11_inQueue_5 rfl hl (by decide) rfl (fun ls hl => ?_)
  have z6 : (hv (aI (G1.2.1 (F a 17))) 0 (p0.toInt) 0) = 0 := hv_0 _ _ _
  refine lv_iconst (v := 0) hx hb dX11_inQueue_6 (by decide) ?_
  refine lv_istore_n (lv' := [(3, .int 0), (2, .int 0), (0, .ref a), (1, .int p0)]) hx hb dX11_inQueue_7 rfl hl (by decide) rfl (fun ls hl => ?_)
  have L8 : ∀ (N8 : Nat) (l2_8 : Int32) (l3_8 : Int32) (H : Heap) (locs : List Loc) (ls : Array Slot), 0 ≤ l3_8.toInt ∧ l3_8.toInt ≤ ((G1.1 a 19).toInt) → 0 ≤ l2_8.toInt ∧ l2_8.toInt ≤ l3_8.toInt → l2_8.toInt = (hv (aI (G1.2.1 (F a 17))) 0 (p0.toInt) (l3_8.toInt)) → (0 : Int) ≤ l3_8.toInt → 2147483648 - l3_8.toInt < ((N8 : Nat) : Int) → TW E K F G1 H → va_S (xA E) s.heap H locs → lv_has ls 4 [(0, .ref a), (1, .int p0), (2, .int l2_8), (3, .int l3_8)] → W p l e rm_X11_inQueue s m args below meth c H locs 0 0 Q (F0 m 8 ls []) := by
    intro N8
    induction N8 with
    | zero =>
      intro l2_8 l3_8 H locs ls I8_0 I8_1 I8_2 I8_3 hm8
      exact absurd hm8 (z_X11_inQueue_1 l3_8.toInt (xr l3_8))
    | succ N8 ih8 =>
      intro l2_8 l3_8 H locs ls I8_0 I8_1 I8_2 I8_3 hm8 hT hS hl
      refine lv_iload_n hx hb dX11_inQueue_8 rfl (lv_at hl 3 rfl) ?_
      refine lv_aload_n hx hb dX11_inQueue_9 rfl (lv_at hl 0 rfl) ?_
      refine gX11_19 S hK hT ha kf_X11_203 dX11_inQueue_10 (v := (G1.1 a 19)) rfl (?_)
      refine xi_cge (tgt := 40) hx hb (rfl : Int32.toInt l3_8 = l3_8.toInt) (rfl : Int32.toInt (G1.1 a 19) = ((G1.1 a 19).toInt)) dX11_inQueue_13 (by decide) (fun c13 => ?_) (fun c13 => ?_)
      · have z40 : l3_8.toInt = ((G1.1 a 19).toInt) → (hv (aI (G1.2.1 (F a 17))) 0 (p0.toInt) (l3_8.toInt)) = (hv (aI (G1.2.1 (F a 17))) 0 (p0.toInt) ((G1.1 a 19).toInt)) := fun h9 => by rw [h9]
        refine lv_iload_n hx hb dX11_inQueue_40 rfl (lv_at hl 2 rfl) ?_
        exact x_ri hx hb hr hlk hQ (Nat.le_of_ble_eq_true rfl) (Nat.le_of_ble_eq_true rfl) hS dX11_inQueue_41 G1 ⟨_, rfl, (XFr.call XFr.rf hF1 (xm1 0 rfl (xm1 1 rfl xm0)) (xm1 0 rfl (xm1 1 rfl (xm1 2 rfl (xm1 3 rfl (xm1 4 rfl xm0))))) xm0), (z_X11_inQueue_2 l2_8.toInt l3_8.toInt ((G1.1 a 19).toInt) t1 I8_0 I8_1), (v_X11_inQueue_41_4 (F := F) a G G1 oq1), (v_X11_inQueue_41_5 (K := K) (F := F) a G G1 p0 l3_8 l2_8 N8 ha oq1a oq1b t1 z6 I8_0 I8_1 I8_2 I8_3 hm8 c13 z40)⟩ hT
      · have z16 : ((aI (G1.2.1 (F a 17)) (l3_8.toInt)) = p0.toInt → (hv (aI (G1.2.1 (F a 17))) 0 (p0.toInt) (l3_8.toInt + 1)) = (hv (aI (G1.2.1 (F a 17))) 0 (p0.toInt) (l3_8.toInt)) + 1) ∧ ((aI (G1.2.1 (F a 17)) (l3_8.toInt)) ≠ p0.toInt → (hv (aI (G1.2.1 (F a 17))) 0 (p0.toInt) (l3_8.toInt + 1)) = (hv (aI (G1.2.1 (F a 17))) 0 (p0.toInt) (l3_8.toInt))) := hv_st (z_X11_inQueue_3 l3_8.toInt ((G1.1 a 19).toInt) I8_0) (by rw [Int.zero_add])
        refine lv_iload_n hx hb dX11_inQueue_16 rfl (lv_at hl 2 rfl) ?_
        refine lv_aload_n hx hb dX11_inQueue_17 rfl (lv_at hl 0 rfl) ?_
        refine gX11_17 S hK hT ha kf_X11_51 dX11_inQueue_18 (fun _ _ => ?_)
        refine lv_iload_n hx hb dX11_inQueue_21 rfl (lv_at hl 3 rfl) ?_
        refine al_0 S hK hT hk9999a ar_43 (by decide) (z_X11_inQueue_4 l3_8.toInt ((G1.1 a 19).toInt) t1 I8_0) dX11_inQueue_22 (fun x22 hv22 o22 => ?_)
        have hv22 : x22.toInt = (aI (G1.2.1 (F a 17)) (l3_8.toInt)) := hv22.trans (by rw [(rfl : Int32.toInt l3_8 = l3_8.toInt)])
        refine lv_iload_n hx hb dX11_inQueue_23 rfl (lv_at hl 1 rfl) ?_
        refine xi_cne (tgt := 31) hx hb (hv22 : Int32.toInt x22 = (aI (G1.2.1 (F a 17)) (l3_8.toInt))) (rfl : Int32.toInt p0 = p0.toInt) dX11_inQueue_24 (by decide) (fun c24 => ?_) (fun c24 => ?_)
        · refine lv_iconst (v := 0) hx hb dX11_inQueue_31 (by decide) ?_
          refine xi_iadd hx hb (rfl : Int32.toInt l2_8 = l2_8.toInt) ((by decide) : Int32.toInt 0 = (0 : Int)) dX11_inQueue_32 (fun x32 t32 => ?_)
          have e32 : x32.toInt = (l2_8.toInt + (0 : Int)) := (z_X11_ruleMany_4 l2_8.toInt x32.toInt t32 (xr l2_8))
          refine lv_istore_n (lv' := [(2, .int x32), (0, .ref a), (1, .int p0), (3, .int l3_8)]) hx hb dX11_inQueue_33 rfl hl (by decide) rfl (fun ls hl => ?_)
          refine xi_iinc (n := 1) (lv' := fun z9 => [(3, .int z9), (2, .int x32), (0, .ref a), (1, .int p0)]) (k := 3) hx hb (rfl : Int32.toInt l3_8 = l3_8.toInt) (by decide) dX11_inQueue_34 hl rfl (by decide) (fun _ => rfl) (fun x34 ls t34 hl => ?_)
          have e34 : x34.toInt = (l3_8.toInt + 1) := (z_X11_inQueue_6 l3_8.toInt x34.toInt ((G1.1 a 19).toInt) t1 I8_0 t34)
          have hl : lv_has ls 4 [(3, .int x34), (2, .int x32), (0, .ref a), (1, .int p0)] := hl
          refine lv_goto (tgt := 8) hx hb dX11_inQueue_37 (by decide) ?_
          exact ih8 x32 x34 _ _ _ (by rw [(e34 : Int32.toInt x34 = (l3_8.toInt + 1))] <;> exact (z_X11_inQueue_7 l3_8.toInt ((G1.1 a 19).toInt) I8_0 c13)) (by rw [(e32 : Int32.toInt x32 = (l2_8.toInt + (0 : Int))), (e34 : Int32.toInt x34 = (l3_8.toInt + 1))] <;> exact (z_X11_ruleMany_8 l2_8.toInt l3_8.toInt I8_1)) (by rw [(e32 : Int32.toInt x32 = (l2_8.toInt + (0 : Int))), (e34 : Int32.toInt x34 = (l3_8.toInt + 1))] <;> exact (z_X11_inQueue_9 l2_8.toInt p0.toInt (aI (G1.2.1 (F a 17)) (l3_8.toInt)) (hv (aI (G1.2.1 (F a 17))) 0 (p0.toInt) (l3_8.toInt + 1)) (hv (aI (G1.2.1 (F a 17))) 0 (p0.toInt) (l3_8.toInt)) I8_2 (z16).2 c24)) (by rw [(e34 : Int32.toInt x34 = (l3_8.toInt + 1))] <;> exact (z_X11_inQueue_10 l3_8.toInt ((G1.1 a 19).toInt) I8_0)) (by rw [(e34 : Int32.toInt x34 = (l3_8.toInt + 1))] <;> exact (z_X11_ruleMany_10 l3_8.toInt N8 hm8)) hT hS (lv_sub hl [2, 3, 1, 0] rfl)
        · refine lv_iconst (v := 1) hx hb dX11_inQueue_27 (by decide) ?_
          refine lv_goto (tgt := 32) hx hb dX11_inQueue_28 (by decide) ?_
          refine xi_iadd hx hb (rfl : Int32.toInt l2_8 = l2_8.toInt) ((by decide) : Int32.toInt 1 = (1 : Int)) dX11_inQueue_32 (fun x32 t32 => ?_)
          have e32 : x32.toInt = (l2_8.toInt + (1 : Int)) := (z_X11_inQueue_12 l2_8.toInt l3_8.toInt x32.toInt ((G1.1 a 19).toInt) t1 I8_1 c13 t32)
          refine lv_istore_n (lv' := [(2, .int x32), (0, .ref a), (1, .int p0), (3, .int l3_8)]) hx hb dX11_inQueue_33 rfl hl (by decide) rfl (fun ls hl => ?_)
          refine xi_iinc (n := 1) (lv' := fun z9 => [(3, .int z9), (2, .int x32), (0, .ref a), (1, .int p0)]) (k := 3) hx hb (rfl : Int32.toInt l3_8 = l3_8.toInt) (by decide) dX11_inQueue_34 hl rfl (by decide) (fun _ => rfl) (fun x34 ls t34 hl => ?_)
          have e34 : x34.toInt = (l3_8.toInt + 1) := (z_X11_inQueue_6 l3_8.toInt x34.toInt ((G1.1 a 19).toInt) t1 I8_0 t34)
          have hl : lv_has ls 4 [(3, .int x34), (2, .int x32), (0, .ref a), (1, .int p0)] := hl
          refine lv_goto (tgt := 8) hx hb dX11_inQueue_37 (by decide) ?_
          exact ih8 x32 x34 _ _ _ (by rw [(e34 : Int32.toInt x34 = (l3_8.toInt + 1))] <;> exact (z_X11_inQueue_7 l3_8.toInt ((G1.1 a 19).toInt) I8_0 c13)) (by rw [(e32 : Int32.toInt x32 = (l2_8.toInt + (1 : Int))), (e34 : Int32.toInt x34 = (l3_8.toInt + 1))] <;> exact (z_X11_ruleMany_15 l2_8.toInt l3_8.toInt I8_1)) (by rw [(e32 : Int32.toInt x32 = (l2_8.toInt + (1 : Int))), (e34 : Int32.toInt x34 = (l3_8.toInt + 1))] <;> exact (z_X11_inQueue_16 l2_8.toInt p0.toInt (aI (G1.2.1 (F a 17)) (l3_8.toInt)) (hv (aI (G1.2.1 (F a 17))) 0 (p0.toInt) (l3_8.toInt + 1)) (hv (aI (G1.2.1 (F a 17))) 0 (p0.toInt) (l3_8.toInt)) I8_2 (z16).1 c24)) (by rw [(e34 : Int32.toInt x34 = (l3_8.toInt + 1))] <;> exact (z_X11_inQueue_10 l3_8.toInt ((G1.1 a 19).toInt) I8_0)) (by rw [(e34 : Int32.toInt x34 = (l3_8.toInt + 1))] <;> exact (z_X11_ruleMany_10 l3_8.toInt N8 hm8)) hT hS (lv_sub hl [2, 3, 1, 0] rfl)
  exact L8 4294967297 0 0 _ _ _ (z_X11_inQueue_19 ((G1.1 a 19).toInt) t1) (by decide) (z_X11_ruleMany_18 (hv (aI (G1.2.1 (F a 17))) 0 (p0.toInt) 0) z6) (by decide) (by decide) hT hS (lv_sub hl [2, 3, 1, 0] rfl)

theorem z_X11_rowMany_1 (a0 : Int) (h0 : 0 ≤ a0 ∧ a0 ≤ 360 ∧ a0 % 4 = 0) : ¬ (1000 - a0 < ((0 : Nat) : Int)) := by omega
theorem z_X11_rowMany_2 (a0 : Int) (a1 : Int) (a2 : Int) (a3 : Int) (h0 : 0 ≤ a1 ∧ a1 ≤ 360 ∧ a1 % 4 = 0) (h1 : a0 = a2) (h2 : 0 ≤ a0 ∧ 4 * a0 ≤ a1) (h3 : (360 : Int) ≤ a1) (h4 : a1 = 360 → a2 = a3) : a0 = a3 ∧ (0 ≤ a0 ∧ a0 ≤ 90) := by omega
theorem z_X11_rowMany_3 (a0 : Int) (h0 : 0 ≤ a0 ∧ a0 ≤ 360 ∧ a0 % 4 = 0) (h1 : ¬ ((360 : Int) ≤ a0)) : 0 ≤ a0 ∧ a0 < 360 := by omega
theorem z_X11_rowMany_4 (a0 : Int) (h0 : 0 ≤ a0 ∧ a0 ≤ 360 ∧ a0 % 4 = 0) : a0 % 4 = 0 := by omega
theorem z_X11_rowMany_5 (a0 : Int) (h0 : 0 ≤ a0 ∧ a0 ≤ 360 ∧ a0 % 4 = 0) : 0 ≤ a0 := by omega
theorem z_X11_rowMany_7 (a0 : Int) (h0 : 0 ≤ a0 ∧ a0 ≤ 360 ∧ a0 % 4 = 0) (h1 : ¬ ((360 : Int) ≤ a0)) : 0 ≤ a0 ∧ a0 < ((360 : Nat) : Int) := by omega
theorem z_X11_rowMany_8 (a0 : Int) (a1 : Int) (h0 : 0 ≤ a0 ∧ a0 ≤ 360 ∧ a0 % 4 = 0) (h1 : a1 = (a0 + 4) ∨ (a0 + 4) < -2147483648 ∨ 2147483648 ≤ (a0 + 4)) : a1 = (a0 + 4) := by omega
theorem z_X11_rowMany_9 (a0 : Int) (a1 : Int) (a2 : Int) (a3 : Nat) (a4 : Int) (a5 : Int) (a6 : Int) (h0 : 0 ≤ a1 ∧ a1 ≤ 360 ∧ a1 % 4 = 0) (h1 : a0 = a6) (h2 : 0 ≤ a0 ∧ 4 * a0 ≤ a1) (h3 : 1000 - a1 < ((a3 + 1 : Nat) : Int)) (h4 : ¬ ((360 : Int) ≤ a1)) (h5 : a4 = 0 ∨ a4 = 1) (h6 : a5 = a6 + a4) (h7 : a2 = a0 + a4 ∨ a0 + a4 < -2147483648 ∨ 2147483648 ≤ a0 + a4) (r0 : -2147483648 ≤ a0 ∧ a0 < 2147483648) (r1 : -2147483648 ≤ a1 ∧ a1 < 2147483648) (r2 : -2147483648 ≤ a2 ∧ a2 < 2147483648) (r3 : -2147483648 ≤ a4 ∧ a4 < 2147483648) : 0 ≤ (a1 + 4) ∧ (a1 + 4) ≤ 360 ∧ (a1 + 4) % 4 = 0 := by first | (clear h5 h7; omega) | omega
theorem z_X11_rowMany_10 (a0 : Int) (a1 : Int) (a2 : Int) (a3 : Int) (a4 : Int) (a5 : Int) (h0 : a0 = a5) (h1 : 0 ≤ a0 ∧ 4 * a0 ≤ a1) (h2 : ¬ ((360 : Int) ≤ a1)) (h3 : a3 = 0 ∨ a3 = 1) (h4 : a4 = a5 + a3) (h5 : a2 = a0 + a3 ∨ a0 + a3 < -2147483648 ∨ 2147483648 ≤ a0 + a3) : a2 = a4 := by omega
theorem z_X11_rowMany_11 (a0 : Int) (a1 : Int) (a2 : Int) (a3 : Int) (h0 : 0 ≤ a0 ∧ 4 * a0 ≤ a1) (h1 : ¬ ((360 : Int) ≤ a1)) (h2 : a3 = 0 ∨ a3 = 1) (h3 : a2 = a0 + a3 ∨ a0 + a3 < -2147483648 ∨ 2147483648 ≤ a0 + a3) : 0 ≤ a2 ∧ 4 * a2 ≤ (a1 + 4) := by omega
theorem z_X11_rowMany_12 (a0 : Int) (a1 : Nat) (h0 : 1000 - a0 < ((a1 + 1 : Nat) : Int)) : 1000 - (a0 + 4) < ((a1 : Nat) : Int) := by omega
abbrev rm_X11_rowMany : Room := { frames := 0, cells := 0, slots := 0, locals := 0 }
set_option maxHeartbeats 4000000 in
set_option maxRecDepth 100000 in
theorem c_X11_rowMany (l : Launch) (E : XE) (K : Nat → Nat) (F : Nat → Nat → Nat) (G : XG) (h0 : Heap) (a : Nat) (ha : K a = 13) (hM : RM (G.2.1 (F a 1)) (0)) : Met l yX11_rowMany (xw yX11_rowMany cX11_rowMany 3 (some .int)) rm_X11_rowMany (va_Pc [.ref a] (XPh E K F G h0)) (XQ E (fun v (u : Unit) => ∃ r : Int32, v = .int r ∧ (r.toInt = (rmT (G.2.1 (F a 1)) 360) ∧ (0 ≤ r.toInt ∧ r.toInt ≤ 90))) (fun _ H => H = h0)) 0 0 (xA E) := by
  refine x_enter (by decide) (Nat.le_of_ble_eq_true rfl) ?_
  intro p e s m args below meth c Q S hr hlk hnm hQ hP ls hl
  obtain ⟨⟨hz, hK, hT⟩, hh⟩ := hP
  obtain ⟨hx, hb, -, -, -⟩ := id S
  have hS : va_S (xA E) s.heap s.heap [] := va_S.rf
  have hl : lv_has ls 3 [(0, .ref a)] := hl
  obtain ⟨hk9999, hj9999⟩ := fkX11_1 hT ha
  have z0 : (rmT (G.2.1 (F a 1)) 0) = 0 := rmT_0 _
  refine lv_iconst (v := 0) hx hb dX11_rowMany_0 (by decide) ?_
  refine lv_istore_n (lv' := [(1, .int 0), (0, .ref a)]) hx hb dX11_rowMany_1 rfl hl (by decide) rfl (fun ls hl => ?_)
  refine lv_iconst (v := 0) hx hb dX11_rowMany_2 (by decide) ?_
  refine lv_istore_n (lv' := [(2, .int 0), (1, .int 0), (0, .ref a)]) hx hb dX11_rowMany_3 rfl hl (by decide) rfl (fun ls hl => ?_)
  have L4 : ∀ (N4 : Nat) (l1_4 : Int32) (l2_4 : Int32) (locs : List Loc) (ls : Array Slot), 0 ≤ l2_4.toInt ∧ l2_4.toInt ≤ 360 ∧ l2_4.toInt % 4 = 0 → l1_4.toInt = (rmT (G.2.1 (F a 1)) (l2_4.toInt)) → 0 ≤ l1_4.toInt ∧ 4 * l1_4.toInt ≤ l2_4.toInt → 1000 - l2_4.toInt < ((N4 : Nat) : Int) → TW E K F G s.heap → va_S (xA E) s.heap s.heap locs → lv_has ls 3 [(0, .ref a), (1, .int l1_4), (2, .int l2_4)] → W p l e rm_X11_rowMany s m args below meth c s.heap locs 0 0 Q (F0 m 4 ls []) := by
    intro N4
    induction N4 with
    | zero =>
      intro l1_4 l2_4 locs ls I4_0 I4_1 I4_2 hm4
      exact absurd hm4 (z_X11_rowMany_1 l2_4.toInt I4_0)
    | succ N4 ih4 =>
      intro l1_4 l2_4 locs ls I4_0 I4_1 I4_2 hm4 hT hS hl
      refine lv_iload_n hx hb dX11_rowMany_4 rfl (lv_at hl 2 rfl) ?_
      refine lv_sipush (v := 360) hx hb dX11_rowMany_5 (by decide) ?_
      refine xi_cge (tgt := 26) hx hb (rfl : Int32.toInt l2_4 = l2_4.toInt) ((by decide) : Int32.toInt 360 = (360 : Int)) dX11_rowMany_8 (by decide) (fun c8 => ?_) (fun c8 => ?_)
      · have z26 : l2_4.toInt = 360 → (rmT (G.2.1 (F a 1)) (l2_4.toInt)) = (rmT (G.2.1 (F a 1)) 360) := fun h9 => by rw [h9]
        refine lv_iload_n hx hb dX11_rowMany_26 rfl (lv_at hl 1 rfl) ?_
        exact x_ri hx hb hr hlk hQ (Nat.le_of_ble_eq_true rfl) (Nat.le_of_ble_eq_true rfl) hS dX11_rowMany_27 () ⟨_, rfl, (z_X11_rowMany_2 l1_4.toInt l2_4.toInt (rmT (G.2.1 (F a 1)) (l2_4.toInt)) (rmT (G.2.1 (F a 1)) 360) I4_0 I4_1 I4_2 c8 z26)⟩ hh
      · have z11 : (aI (G.2.1 (F a 1)) (l2_4.toInt)) = 0 ∨ (aI (G.2.1 (F a 1)) (l2_4.toInt)) = 1 := hM.is (z_X11_rowMany_3 l2_4.toInt I4_0 c8) (z_X11_rowMany_4 l2_4.toInt I4_0)
        have z11a : (rmT (G.2.1 (F a 1)) (l2_4.toInt + 4)) = (rmT (G.2.1 (F a 1)) (l2_4.toInt)) + (aI (G.2.1 (F a 1)) (l2_4.toInt)) := rmT_s _ (z_X11_rowMany_5 l2_4.toInt I4_0) (z_X11_rowMany_4 l2_4.toInt I4_0)
        refine lv_iload_n hx hb dX11_rowMany_11 rfl (lv_at hl 1 rfl) ?_
        refine lv_aload_n hx hb dX11_rowMany_12 rfl (lv_at hl 0 rfl) ?_
        refine gX11_1 S hK hT ha kf_X11_9 dX11_rowMany_13 (fun _ _ => ?_)
        refine lv_iload_n hx hb dX11_rowMany_16 rfl (lv_at hl 2 rfl) ?_
        refine al_0 S hK hT hk9999 ar_30 (by decide) (z_X11_rowMany_7 l2_4.toInt I4_0 c8) dX11_rowMany_17 (fun x17 hv17 o17 => ?_)
        have hv17 : x17.toInt = (aI (G.2.1 (F a 1)) (l2_4.toInt)) := hv17.trans (by rw [(rfl : Int32.toInt l2_4 = l2_4.toInt)])
        refine xi_iadd hx hb (rfl : Int32.toInt l1_4 = l1_4.toInt) (hv17 : Int32.toInt x17 = (aI (G.2.1 (F a 1)) (l2_4.toInt))) dX11_rowMany_18 (fun x18 t18 => ?_)
        refine lv_istore_n (lv' := [(1, .int x18), (0, .ref a), (2, .int l2_4)]) hx hb dX11_rowMany_19 rfl hl (by decide) rfl (fun ls hl => ?_)
        refine xi_iinc (n := 4) (lv' := fun z9 => [(2, .int z9), (1, .int x18), (0, .ref a)]) (k := 2) hx hb (rfl : Int32.toInt l2_4 = l2_4.toInt) (by decide) dX11_rowMany_20 hl rfl (by decide) (fun _ => rfl) (fun x20 ls t20 hl => ?_)
        have e20 : x20.toInt = (l2_4.toInt + 4) := (z_X11_rowMany_8 l2_4.toInt x20.toInt I4_0 t20)
        have hl : lv_has ls 3 [(2, .int x20), (1, .int x18), (0, .ref a)] := hl
        refine lv_goto (tgt := 4) hx hb dX11_rowMany_23 (by decide) ?_
        exact ih4 x18 x20 _ _ (by rw [(e20 : Int32.toInt x20 = (l2_4.toInt + 4))] <;> exact (z_X11_rowMany_9 l1_4.toInt l2_4.toInt x18.toInt N4 (aI (G.2.1 (F a 1)) (l2_4.toInt)) (rmT (G.2.1 (F a 1)) (l2_4.toInt + 4)) (rmT (G.2.1 (F a 1)) (l2_4.toInt)) I4_0 I4_1 I4_2 hm4 c8 z11 z11a t18 (xr l1_4) (xr l2_4) (xr x18) (xrA _ _))) (by rw [(e20 : Int32.toInt x20 = (l2_4.toInt + 4))] <;> exact (z_X11_rowMany_10 l1_4.toInt l2_4.toInt x18.toInt (aI (G.2.1 (F a 1)) (l2_4.toInt)) (rmT (G.2.1 (F a 1)) (l2_4.toInt + 4)) (rmT (G.2.1 (F a 1)) (l2_4.toInt)) I4_1 I4_2 c8 z11 z11a t18)) (by rw [(e20 : Int32.toInt x20 = (l2_4.toInt + 4))] <;> exact (z_X11_rowMany_11 l1_4.toInt l2_4.toInt x18.toInt (aI (G.2.1 (F a 1)) (l2_4.toInt)) I4_2 c8 z11 t18)) (by rw [(e20 : Int32.toInt x20 = (l2_4.toInt + 4))] <;> exact (z_X11_rowMany_12 l2_4.toInt N4 hm4)) hT hS (lv_sub hl [2, 1, 0] rfl)
  exact L4 4294967297 0 0 _ _ (by decide) (z_X11_ruleMany_18 (rmT (G.2.1 (F a 1)) 0) z0) (by decide) (by decide) hT hS (lv_sub hl [2, 1, 0] rfl)

theorem z_X11_begin_2 (a0 : Int) (a1 : Int) (a2 : Int) (a3 : Int) (h0 : a1 = 0) (h1 : a0 = a3 ∧ (0 ≤ a0 ∧ a0 ≤ 90)) : (a1 ≠ 0 ∧ a0 = -3 ∧ (1 : Int) = a1 ∧ (0 : Int) = a2) ∨ (a1 = 0 ∧ (1 : Int) = 1 ∧ (0 : Int) = 0 ∧ a0 = a3) := by omega
theorem z_X11_begin_3 (a0 : Int) (h0 : (0 : Int) ≤ a0) (h1 : ¬ ((6 : Int) ≤ a0)) : 0 ≤ a0 ∧ a0 < ((6 : Nat) : Int) := by omega
theorem z_X11_begin_4 (a0 : Int) (a1 : Int) (h0 : (0 : Int) ≤ a0) (h1 : ¬ ((6 : Int) ≤ a0)) (h2 : a1 = (a0 + 1) ∨ (a0 + 1) < -2147483648 ∨ 2147483648 ≤ (a0 + 1)) : a1 = (a0 + 1) := by omega
theorem z_X11_begin_5 (a0 : Int) (h0 : (0 : Int) ≤ a0) : (0 : Int) ≤ (a0 + 1) := by omega
theorem z_X11_begin_7 (a0 : Int) (a1 : Int) (a2 : Int) (h0 : ¬ (a0 = 0)) : (a0 ≠ 0 ∧ (-3 : Int) = -3 ∧ a0 = a0 ∧ a1 = a1) ∨ (a0 = 0 ∧ a0 = 1 ∧ a1 = 0 ∧ (-3 : Int) = a2) := by omega
abbrev rm_X11_begin : Room := { frames := 1, cells := 0, slots := 0, locals := 24 }
set_option maxHeartbeats 4000000 in
set_option maxRecDepth 100000 in
theorem c_X11_begin (l : Launch) (E : XE) (K : Nat → Nat) (F : Nat → Nat → Nat) (G : XG) (a : Nat) (ha : K a = 13) (hM : RM (G.2.1 (F a 1)) (0)) (hB : RM (G.2.1 (F a 2)) 0) : Met l yX11_begin (xw yX11_begin cX11_begin 2 (some .int)) rm_X11_begin (va_Pc [.ref a] (XP E K F G)) (XQ E (fun v (u : XG) => ∃ r : Int32, v = .int r ∧ XFr [(a, 0), (a, 6), (a, 7)] [F a 2, F a 8] [] G u ∧ ((((G.1 a 6).toInt) ≠ 0 ∧ r.toInt = -3 ∧ ((u.1 a 6).toInt) = ((G.1 a 6).toInt) ∧ ((u.1 a 7).toInt) = ((G.1 a 7).toInt)) ∨ (((G.1 a 6).toInt) = 0 ∧ ((u.1 a 6).toInt) = 1 ∧ ((u.1 a 7).toInt) = 0 ∧ r.toInt = (rmT (G.2.1 (F a 1)) 360))) ∧ ((((G.1 a 6).toInt) ≠ 0 ∧ u.2.1 (F a 2) = (G.2.1 (F a 2))) ∨ (((G.1 a 6).toInt) = 0 ∧ mw (u.2.1 (F a 2)) 0 = mw (G.2.1 (F a 1)) 0)) ∧ (RM (u.2.1 (F a 2)) 0)) (fun u H => TW E K F u H)) 0 0 (xA E) := by
  refine x_enter (by decide) (Nat.le_of_ble_eq_true rfl) ?_
  intro p e s m args below meth c Q S hr hlk hnm hQ hP ls hl
  obtain ⟨hz, hK, hT⟩ := hP
  obtain ⟨hx, hb, -, -, -⟩ := id S
  obtain ⟨H, hT, hS, hgo⟩ : ∃ H : Heap, TW E K F G H ∧ va_S (xA E) s.heap H [] ∧ H = s.heap := ⟨_, hT, va_S.rf, rfl⟩
  rw [← hgo]
  have hl : lv_has ls 2 [(0, .ref a)] := hl
  obtain ⟨hk9999, hj9999⟩ := fkX11_2 hT ha
  obtain ⟨hk9999a, hj9999a⟩ := fkX11_8 hT ha
  obtain ⟨hk9999b, hj9999b⟩ := fkX11_1 hT ha
  refine lv_aload_n hx hb dX11_begin_0 rfl (lv_at hl 0 rfl) ?_
  refine lv_iconst (v := 0) hx hb dX11_begin_1 (by decide) ?_
  refine pX11_0 (v := 0) S hK hT hS ha kf_X11_134 dX11_begin_2 (fun H locs hT hS => ?_)
  obtain ⟨G2, hG2⟩ : ∃ GG : XG, GG = dput G a 0 0 := ⟨_, rfl⟩
  rw [← hG2] at hT
  refine lv_aload_n hx hb dX11_begin_5 rfl (lv_at hl 0 rfl) ?_
  refine gX11_6 S hK hT ha kf_X11_206 dX11_begin_6 (v := (G.1 a 6)) (ld_j hG2 (by decide)) (fun hz6 => ?_)
  refine xi_zeq (tgt := 15) hx hb (rfl : Int32.toInt (G.1 a 6) = ((G.1 a 6).toInt)) dX11_begin_9 (by decide) (fun c9 => ?_) (fun c9 => ?_)
  · refine lv_aload_n hx hb dX11_begin_15 rfl (lv_at hl 0 rfl) ?_
    refine lv_iconst (v := 1) hx hb dX11_begin_16 (by decide) ?_
    refine pX11_6 (v := 1) S hK hT hS ha kf_X11_206 (Or.inr rfl) dX11_begin_17 (fun H locs hT hS => ?_)
    obtain ⟨G17, hG17⟩ : ∃ GG : XG, GG = dput G2 a 6 1 := ⟨_, rfl⟩
    rw [← hG17] at hT
    refine lv_aload_n hx hb dX11_begin_20 rfl (lv_at hl 0 rfl) ?_
    refine lv_iconst (v := 0) hx hb dX11_begin_21 (by decide) ?_
    refine pX11_7 (v := 0) S hK hT hS ha kf_X11_373 dX11_begin_22 (fun H locs hT hS => ?_)
    obtain ⟨G22, hG22⟩ : ∃ GG : XG, GG = dput G17 a 7 0 := ⟨_, rfl⟩
    rw [← hG22] at hT
    refine lv_aload_n hx hb dX11_begin_25 rfl (lv_at hl 0 rfl) ?_
    refine gX11_1 S hK hT ha kf_X11_9 dX11_begin_26 (fun _ _ => ?_)
    refine lv_iconst (v := 0) hx hb dX11_begin_29 (by decide) ?_
    refine lv_aload_n hx hb dX11_begin_30 rfl (lv_at hl 0 rfl) ?_
    refine gX11_2 S hK hT ha kf_X11_15 dX11_begin_31 (fun _ _ => ?_)
    refine lv_iconst (v := 0) hx hb dX11_begin_34 (by decide) ?_
    refine x_cv0 (x_runS (As := [.ref (F a 1), .int 0, .ref (F a 2), .int 0]) (rest := []) S (c_X11_copy l E K F G22 (F a 1) 0 (F a 2) 0 (XO.a hk9999b (by decide)) (XO.b hk9999 (by decide)) (v_X11_begin_35_1 (K := K) (F := F) a G2 G G17 G22 ha hk9999 hj9999 hk9999a hj9999a hk9999b hj9999b hG2 hG17 hG22 hM hB (xzi hz6) c9 (ld_c hG2) ((ld_c hG22).trans ((ld_c hG17).trans (ld_c hG2))) ((ld_c hG22).trans ((ld_c hG17).trans (ld_c hG2))) ((ld_c hG22).trans ((ld_c hG17).trans (ld_c hG2))) ((ld_j hG22 (by decide)).trans ((ld_j hG17 (by decide)).trans (ld_at hG2))) ((ld_j hG22 (by decide)).trans (ld_at hG17)) (ld_at hG22))) ms_X11_copy km_X11_309 rfl rfl ⟨Nat.le_of_ble_eq_true rfl, Nat.le_of_ble_eq_true rfl⟩ hK (fun _ => XP.blind) (fun U hU hW => XP.at hK hz hS hT hU hW) rfl hl.1 (Nat.le_of_ble_eq_true rfl) dX11_begin_35 ⟨Nat.le_of_ble_eq_true rfl, Nat.le_of_ble_eq_true rfl⟩) hS ?_
    rintro G35 H locs ⟨hF35, oq35⟩ hT hS
    refine lv_iconst (v := 0) hx hb dX11_begin_38 (by decide) ?_
    refine lv_istore_n (lv' := [(1, .int 0), (0, .ref a)]) hx hb dX11_begin_39 rfl hl (by decide) rfl (fun ls hl => ?_)
    have L40 : ∀ (N40 : Nat) (l1_40 : Int32) (G_40 : XG) (H : Heap) (locs : List Loc) (ls : Array Slot), XFr [] [F a 8] [] G35 G_40 → (0 : Int) ≤ l1_40.toInt → 2147483648 - l1_40.toInt < ((N40 : Nat) : Int) → TW E K F G_40 H → va_S (xA E) s.heap H locs → lv_has ls 2 [(0, .ref a), (1, .int l1_40)] → W p l e rm_X11_begin s m args below meth c H locs 0 0 Q (F0 m 40 ls []) := by
      intro N40
      induction N40 with
      | zero =>
        intro l1_40 G_40 H locs ls hF_40 I40_0 hm40
        exact absurd hm40 (z_X11_inQueue_1 l1_40.toInt (xr l1_40))
      | succ N40 ih40 =>
        intro l1_40 G_40 H locs ls hF_40 I40_0 hm40 hT hS hl
        refine lv_iload_n hx hb dX11_begin_40 rfl (lv_at hl 1 rfl) ?_
        refine lv_bipush (v := 6) hx hb dX11_begin_41 (by decide) ?_
        refine xi_cge (tgt := 59) hx hb (rfl : Int32.toInt l1_40 = l1_40.toInt) ((by decide) : Int32.toInt 6 = (6 : Int)) dX11_begin_43 (by decide) (fun c43 => ?_) (fun c43 => ?_)
        · refine lv_aload_n hx hb dX11_begin_59 rfl (lv_at hl 0 rfl) ?_
          refine x_clp (x_runV (b := a) (As := []) (rest := []) S (c_X11_rowMany l E K F G_40 H a ha (v_X11_begin_60_2 (F := F) a G G_40 hM hB ((hF_40.2.1 _ (xn1 (xne_k hk9999b hk9999a (by decide)) xn0)).trans ((hF35.2.1 _ (xn1 (xne_k hk9999b hk9999 (by decide)) xn0)).trans ((ld_c hG22).trans ((ld_c hG17).trans (ld_c hG2))))))) mv_X11_rowMany km_X11_376 rfl rfl ⟨Nat.le_of_ble_eq_true rfl, Nat.le_of_ble_eq_true rfl⟩ (rc_13 hK hT ha) hK (fun _ => XPh.blind) (fun U hU hW => XPh.at hK hz hS hT hU hW) rfl hl.1 (Nat.le_of_ble_eq_true rfl) dX11_begin_60 ⟨Nat.le_of_ble_eq_true rfl, Nat.le_of_ble_eq_true rfl⟩) hS ?_
          rintro _ _ locs ⟨x60, rfl, t60⟩ hS
          have t60 : x60.toInt = (rmT (G.2.1 (F a 1)) 360) ∧ (0 ≤ x60.toInt ∧ x60.toInt ≤ 90) := by rw [(show G_40.2.1 (F a 1) = G.2.1 (F a 1) from ((hF_40.2.1 _ (xn1 (xne_k hk9999b hk9999a (by decide)) xn0)).trans ((hF35.2.1 _ (xn1 (xne_k hk9999b hk9999 (by decide)) xn0)).trans ((ld_c hG22).trans ((ld_c hG17).trans (ld_c hG2))))))] at t60; exact t60
          exact x_ri hx hb hr hlk hQ (Nat.le_of_ble_eq_true rfl) (Nat.le_of_ble_eq_true rfl) hS dX11_begin_63 G_40 ⟨_, rfl, (XFr.call (XFr.call (by rw [hG22]; exact XFr.dput (by rw [hG17]; exact XFr.dput (by rw [hG2]; exact XFr.dput XFr.rf (List.mem_of_getElem? (i := 0) rfl)) (List.mem_of_getElem? (i := 1) rfl)) (List.mem_of_getElem? (i := 2) rfl)) hF35 xm0 (xm1 0 rfl xm0) xm0) hF_40 xm0 (xm1 1 rfl xm0) xm0), (by rw [(show (G_40.1 a 6).toInt = (1 : Int) from (congrArg Int32.toInt ((hF_40.1 _ _ xn0).trans ((hF35.1 _ _ xn0).trans ((ld_j hG22 (by decide)).trans (ld_at hG17))))).trans ((by decide) : Int32.toInt 1 = (1 : Int))), (show (G_40.1 a 7).toInt = (0 : Int) from (congrArg Int32.toInt ((hF_40.1 _ _ xn0).trans ((hF35.1 _ _ xn0).trans (ld_at hG22)))).trans ((by decide) : Int32.toInt 0 = (0 : Int)))] <;> exact (z_X11_begin_2 x60.toInt ((G.1 a 6).toInt) ((G.1 a 7).toInt) (rmT (G.2.1 (F a 1)) 360) c9 t60)), (v_X11_begin_63_3 (K := K) (F := F) a G G22 G35 G_40 l1_40 N40 x60 ha oq35 (xzi hz6) c9 I40_0 hm40 c43 t60 ((ld_c hG22).trans ((ld_c hG17).trans (ld_c hG2))) (hF_40.2.1 _ (xn1 (xne_k hk9999 hk9999a (by decide)) xn0))), (v_X11_begin_63_4 (F := F) a G G22 G35 G_40 hM oq35 ((ld_c hG22).trans ((ld_c hG17).trans (ld_c hG2))) (hF_40.2.1 _ (xn1 (xne_k hk9999 hk9999a (by decide)) xn0)))⟩ hT
        · refine lv_aload_n hx hb dX11_begin_46 rfl (lv_at hl 0 rfl) ?_
          refine gX11_8 S hK hT ha kf_X11_27 dX11_begin_47 (fun _ _ => ?_)
          refine lv_iload_n hx hb dX11_begin_50 rfl (lv_at hl 1 rfl) ?_
          refine lv_iconst (v := 0) hx hb dX11_begin_51 (by decide) ?_
          refine as_0 (x := 0) S hK hT hS hk9999a ar_35 aw_35 (by decide) (z_X11_begin_3 l1_40.toInt I40_0 c43) dX11_begin_52 (fun H locs hT hS => ?_)
          obtain ⟨G52, hG52⟩ : ∃ GG : XG, GG = cput G_40 (F a 8) l1_40.toNatClampNeg 0 := ⟨_, rfl⟩
          rw [← hG52] at hT
          refine xi_iinc (n := 1) (lv' := fun z9 => [(1, .int z9), (0, .ref a)]) (k := 1) hx hb (rfl : Int32.toInt l1_40 = l1_40.toInt) (by decide) dX11_begin_53 hl rfl (by decide) (fun _ => rfl) (fun x53 ls t53 hl => ?_)
          have e53 : x53.toInt = (l1_40.toInt + 1) := (z_X11_begin_4 l1_40.toInt x53.toInt I40_0 c43 t53)
          have hl : lv_has ls 2 [(1, .int x53), (0, .ref a)] := hl
          refine lv_goto (tgt := 40) hx hb dX11_begin_56 (by decide) ?_
          exact ih40 x53 G52 _ _ _ (by rw [hG52]; exact XFr.cput (XFr.call XFr.rf hF_40 xm0 (xm1 0 rfl xm0) xm0) (List.mem_of_getElem? (i := 0) rfl)) (by rw [(e53 : Int32.toInt x53 = (l1_40.toInt + 1))] <;> exact (z_X11_begin_5 l1_40.toInt I40_0)) (by rw [(e53 : Int32.toInt x53 = (l1_40.toInt + 1))] <;> exact (z_X11_ruleMany_10 l1_40.toInt N40 hm40)) hT hS (lv_sub hl [1, 0] rfl)
    exact L40 4294967297 0 G35 _ _ _ XFr.rf (by decide) (by decide) hT hS (lv_sub hl [1, 0] rfl)
  · refine lv_bipush (v := (-3)) hx hb dX11_begin_12 (by decide) ?_
    exact x_ri hx hb hr hlk hQ (Nat.le_of_ble_eq_true rfl) (Nat.le_of_ble_eq_true rfl) hS dX11_begin_14 G2 ⟨_, rfl, (by rw [hG2]; exact XFr.dput XFr.rf (List.mem_of_getElem? (i := 0) rfl)), (by rw [((by decide) : Int32.toInt (-3) = (-3 : Int)), (show (G2.1 a 6).toInt = ((G.1 a 6).toInt) from (congrArg Int32.toInt (ld_j hG2 (by decide))).trans (rfl : Int32.toInt (G.1 a 6) = ((G.1 a 6).toInt))), (show (G2.1 a 7).toInt = ((G.1 a 7).toInt) from (congrArg Int32.toInt (ld_j hG2 (by decide))).trans (rfl : Int32.toInt (G.1 a 7) = ((G.1 a 7).toInt)))] <;> exact (z_X11_begin_7 ((G.1 a 6).toInt) ((G.1 a 7).toInt) (rmT (G.2.1 (F a 1)) 360) c9)), (v_X11_begin_14_5 (K := K) (F := F) a G2 G ha (xzi hz6) c9 (ld_c hG2)), (v_X11_begin_14_6 (F := F) a G2 G hB (ld_c hG2))⟩ hT

theorem z_X11_abort_1 (a0 : Int) (a1 : Int) (h0 : a1 ≠ 0) : (a1 = 0 ∧ a0 = -3 ∧ (0 : Int) = a1) ∨ (a1 ≠ 0 ∧ (0 : Int) = 0) := by omega
theorem z_X11_abort_2 (a0 : Int) (h0 : ¬ (a0 ≠ 0)) : (a0 = 0 ∧ (-3 : Int) = -3 ∧ a0 = a0) ∨ (a0 ≠ 0 ∧ a0 = 0) := by omega
abbrev rm_X11_abort : Room := { frames := 6, cells := 0, slots := 0, locals := 142 }
set_option maxHeartbeats 4000000 in
set_option maxRecDepth 100000 in
theorem c_X11_abort (l : Launch) (E : XE) (K : Nat → Nat) (F : Nat → Nat → Nat) (G : XG) (a : Nat) (ha : K a = 13) (hR : RV (G.2.1 (F a 10))) (hM : RM (G.2.1 (F a 1)) (0)) (hB : RM (G.2.1 (F a 2)) 0) : Met l yX11_abort (xw yX11_abort cX11_abort 2 (some .int)) rm_X11_abort (va_Pc [.ref a] (XP E K F G)) (XQ E (fun v (u : XG) => ∃ r : Int32, v = .int r ∧ XFr [(a, 16), (a, 19), (a, 0), (a, 6)] [F a 15, F a 17, F a 18, F a 11, F a 13, F a 1, F a 9] [] G u ∧ ((((G.1 a 6).toInt) = 0 ∧ r.toInt = -3 ∧ ((u.1 a 6).toInt) = ((G.1 a 6).toInt)) ∨ (((G.1 a 6).toInt) ≠ 0 ∧ ((u.1 a 6).toInt) = 0)) ∧ ((((G.1 a 6).toInt) = 0 ∧ u.2.1 (F a 1) = (G.2.1 (F a 1))) ∨ (((G.1 a 6).toInt) ≠ 0 ∧ mw (u.2.1 (F a 1)) 0 = mw (G.2.1 (F a 2)) 0)) ∧ (RM (u.2.1 (F a 1)) 0) ∧ (((G.1 a 6).toInt) = 0 ∨ r.toInt = (((fuO (G.2.1 (F a 10)) (mw (G.2.1 (F a 1)) 0) (mw (G.2.1 (F a 2)) 0) 1).length : Nat) : Int))) (fun u H => TW E K F u H)) 0 0 (xA E) := by
  refine x_enter (by decide) (Nat.le_of_ble_eq_true rfl) ?_
  intro p e s m args below meth c Q S hr hlk hnm hQ hP ls hl
  obtain ⟨hz, hK, hT⟩ := hP
  obtain ⟨hx, hb, -, -, -⟩ := id S
  obtain ⟨H, hT, hS, hgo⟩ : ∃ H : Heap, TW E K F G H ∧ va_S (xA E) s.heap H [] ∧ H = s.heap := ⟨_, hT, va_S.rf, rfl⟩
  rw [← hgo]
  have hl : lv_has ls 2 [(0, .ref a)] := hl
  obtain ⟨hk9999, hj9999⟩ := fkX11_15 hT ha
  obtain ⟨hk9999a, hj9999a⟩ := fkX11_17 hT ha
  obtain ⟨hk9999b, hj9999b⟩ := fkX11_18 hT ha
  obtain ⟨hk9999c, hj9999c⟩ := fkX11_11 hT ha
  obtain ⟨hk9999d, hj9999d⟩ := fkX11_13 hT ha
  obtain ⟨hk9999e, hj9999e⟩ := fkX11_1 hT ha
  obtain ⟨hk9999f, hj9999f⟩ := fkX11_9 hT ha
  obtain ⟨hk9999g, hj9999g⟩ := fkX11_10 hT ha
  obtain ⟨hk9999h, hj9999h⟩ := fkX11_2 hT ha
  refine lv_aload_n hx hb dX11_abort_0 rfl (lv_at hl 0 rfl) ?_
  refine lv_iconst (v := 0) hx hb dX11_abort_1 (by decide) ?_
  refine pX11_0 (v := 0) S hK hT hS ha kf_X11_134 dX11_abort_2 (fun H locs hT hS => ?_)
  obtain ⟨G2, hG2⟩ : ∃ GG : XG, GG = dput G a 0 0 := ⟨_, rfl⟩
  rw [← hG2] at hT
  refine lv_aload_n hx hb dX11_abort_5 rfl (lv_at hl 0 rfl) ?_
  refine gX11_6 S hK hT ha kf_X11_206 dX11_abort_6 (v := (G.1 a 6)) (ld_j hG2 (by decide)) (fun hz6 => ?_)
  refine xi_zne (tgt := 15) hx hb (rfl : Int32.toInt (G.1 a 6) = ((G.1 a 6).toInt)) dX11_abort_9 (by decide) (fun c9 => ?_) (fun c9 => ?_)
  · refine lv_aload_n hx hb dX11_abort_15 rfl (lv_at hl 0 rfl) ?_
    refine x_cl0 (x_runV (b := a) (As := []) (rest := []) S (c_X11_queueMany l E K F G2 a ha (v_X11_abort_16_1 (F := F) a G2 G hR (ld_c hG2)) (v_X11_abort_16_2 (F := F) a G2 G hM hB (ld_c hG2)) (v_X11_abort_16_3 (F := F) a G2 G hM hB (ld_c hG2))) mv_X11_queueMany km_X11_379 rfl rfl ⟨Nat.le_of_ble_eq_true rfl, Nat.le_of_ble_eq_true rfl⟩ (rc_13 hK hT ha) hK (fun _ => XP.blind) (fun U hU hW => XP.at hK hz hS hT hU hW) rfl hl.1 (Nat.le_of_ble_eq_true rfl) dX11_abort_16 ⟨Nat.le_of_ble_eq_true rfl, Nat.le_of_ble_eq_true rfl⟩) hS ?_
    rintro _ G16 H locs ⟨x16, rfl, hF16, t16, oq16, oq16a⟩ hT hS
    have t16 : 0 ≤ x16.toInt ∧ x16.toInt ≤ 2388 := t16
    have oq16 : pL G16 F a = if ((G.1 a 6).toInt) = 0 then [] else fuO (G.2.1 (F a 10)) (mw (G.2.1 (F a 1)) 0) (mw (G.2.1 (F a 2)) 0) 1 := by simp only [(show G2.1 a 6 = G.1 a 6 from (ld_j hG2 (by decide))), (show G2.2.1 (F a 10) = G.2.1 (F a 10) from (ld_c hG2)), (show G2.2.1 (F a 1) = G.2.1 (F a 1) from (ld_c hG2)), (show G2.2.1 (F a 2) = G.2.1 (F a 2) from (ld_c hG2))] at oq16; exact oq16
    refine lv_istore_n (lv' := [(1, .int x16), (0, .ref a)]) hx hb dX11_abort_19 rfl hl (by decide) rfl (fun ls hl => ?_)
    refine lv_aload_n hx hb dX11_abort_20 rfl (lv_at hl 1 rfl) ?_
    refine gX11_2 S hK hT ha kf_X11_15 dX11_abort_21 (fun _ _ => ?_)
    refine lv_iconst (v := 0) hx hb dX11_abort_24 (by decide) ?_
    refine lv_aload_n hx hb dX11_abort_25 rfl (lv_at hl 1 rfl) ?_
    refine gX11_1 S hK hT ha kf_X11_9 dX11_abort_26 (fun _ _ => ?_)
    refine lv_iconst (v := 0) hx hb dX11_abort_29 (by decide) ?_
    refine x_cv0 (x_runS (As := [.ref (F a 2), .int 0, .ref (F a 1), .int 0]) (rest := []) S (c_X11_copy l E K F G16 (F a 2) 0 (F a 1) 0 (XO.b hk9999h (by decide)) (XO.a hk9999e (by decide)) (v_X11_abort_30_4 (K := K) (F := F) a G2 G G16 x16 ha hk9999 hj9999 hk9999a hj9999a hk9999b hj9999b hk9999c hj9999c hk9999d hj9999d hk9999e hj9999e hk9999f hj9999f hk9999g hj9999g hk9999h hj9999h hG2 hF16 hR hM hB oq16 oq16a (xzi hz6) c9 t16 ((hF16.2.1 _ (xn1 (xne_k hk9999e hk9999 (by decide)) (xn1 (xne_k hk9999e hk9999a (by decide)) (xn1 (xne_k hk9999e hk9999b (by decide)) (xn1 (xne_k hk9999e hk9999c (by decide)) (xn1 (xne_k hk9999e hk9999d (by decide)) xn0)))))).trans (ld_c hG2)) ((hF16.2.1 _ (xn1 (xne_k hk9999h hk9999 (by decide)) (xn1 (xne_k hk9999h hk9999a (by decide)) (xn1 (xne_k hk9999h hk9999b (by decide)) (xn1 (xne_k hk9999h hk9999c (by decide)) (xn1 (xne_k hk9999h hk9999d (by decide)) xn0)))))).trans (ld_c hG2)) ((hF16.2.1 _ (xn1 (xne_k hk9999f hk9999 (by decide)) (xn1 (xne_k hk9999f hk9999a (by decide)) (xn1 (xne_k hk9999f hk9999b (by decide)) (xn1 (xne_k hk9999f hk9999c (by decide)) (xn1 (xne_k hk9999f hk9999d (by decide)) xn0)))))).trans (ld_c hG2)) (ld_c hG2) ((hF16.1 _ _ (xnj (by decide) (xnj (by decide) xn0))).trans (ld_at hG2)) ((hF16.1 _ _ (xnj (by decide) (xnj (by decide) xn0))).trans (ld_j hG2 (by decide))))) ms_X11_copy km_X11_309 rfl rfl ⟨Nat.le_of_ble_eq_true rfl, Nat.le_of_ble_eq_true rfl⟩ hK (fun _ => XP.blind) (fun U hU hW => XP.at hK hz hS hT hU hW) rfl hl.1 (Nat.le_of_ble_eq_true rfl) dX11_abort_30 ⟨Nat.le_of_ble_eq_true rfl, Nat.le_of_ble_eq_true rfl⟩) hS ?_
    rintro G30 H locs ⟨hF30, oq30⟩ hT hS
    refine lv_aload_n hx hb dX11_abort_33 rfl (lv_at hl 1 rfl) ?_
    refine lv_iconst (v := 0) hx hb dX11_abort_34 (by decide) ?_
    refine pX11_6 (v := 0) S hK hT hS ha kf_X11_206 (Or.inl rfl) dX11_abort_35 (fun H locs hT hS => ?_)
    obtain ⟨G35, hG35⟩ : ∃ GG : XG, GG = dput G30 a 6 0 := ⟨_, rfl⟩
    rw [← hG35] at hT
    refine lv_aload_n hx hb dX11_abort_38 rfl (lv_at hl 1 rfl) ?_
    refine gX11_9 S hK hT ha kf_X11_30 dX11_abort_39 (fun _ _ => ?_)
    refine lv_iconst (v := 3) hx hb dX11_abort_42 (by decide) ?_
    refine lv_dup2_11 hx hb dX11_abort_43 rfl rfl ?_
    refine al_0 S hK hT hk9999f ar_36 (by decide) (by decide) dX11_abort_44 (fun x44 hv44 o44 => ?_)
    have hv44 : x44.toInt = (aI (G.2.1 (F a 9)) 3) := hv44.trans (by rw [((by decide) : Int32.toInt 3 = (3 : Int)), (((ld_c hG35).trans ((hF30.2.1 _ (xn1 (xne_k hk9999f hk9999e (by decide)) xn0)).trans ((hF16.2.1 _ (xn1 (xne_k hk9999f hk9999 (by decide)) (xn1 (xne_k hk9999f hk9999a (by decide)) (xn1 (xne_k hk9999f hk9999b (by decide)) (xn1 (xne_k hk9999f hk9999c (by decide)) (xn1 (xne_k hk9999f hk9999d (by decide)) xn0)))))).trans (ld_c hG2)))) : G35.2.1 (F a 9) = G.2.1 (F a 9))])
    refine lv_iconst (v := 1) hx hb dX11_abort_45 (by decide) ?_
    refine xi_iadd hx hb (hv44 : Int32.toInt x44 = (aI (G.2.1 (F a 9)) 3)) ((by decide) : Int32.toInt 1 = (1 : Int)) dX11_abort_46 (fun x46 t46 => ?_)
    refine as_0 (x := x46) S hK hT hS hk9999f ar_36 aw_36 (by decide) (by decide) dX11_abort_47 (fun H locs hT hS => ?_)
    obtain ⟨G47, hG47⟩ : ∃ GG : XG, GG = cput G35 (F a 9) (3 : Int32).toNatClampNeg x46 := ⟨_, rfl⟩
    rw [← hG47] at hT
    refine lv_iload_n hx hb dX11_abort_48 rfl (lv_at hl 0 rfl) ?_
    exact x_ri hx hb hr hlk hQ (Nat.le_of_ble_eq_true rfl) (Nat.le_of_ble_eq_true rfl) hS dX11_abort_49 G47 ⟨_, rfl, (by rw [hG47]; exact XFr.cput (by rw [hG35]; exact XFr.dput (XFr.call (XFr.call (by rw [hG2]; exact XFr.dput XFr.rf (List.mem_of_getElem? (i := 2) rfl)) hF16 (xm1 0 rfl (xm1 1 rfl xm0)) (xm1 0 rfl (xm1 1 rfl (xm1 2 rfl (xm1 3 rfl (xm1 4 rfl xm0))))) xm0) hF30 xm0 (xm1 5 rfl xm0) xm0) (List.mem_of_getElem? (i := 3) rfl)) (List.mem_of_getElem? (i := 6) rfl)), (by rw [(show (G47.1 a 6).toInt = (0 : Int) from (congrArg Int32.toInt ((lc_d hG47).trans (ld_at hG35))).trans ((by decide) : Int32.toInt 0 = (0 : Int)))] <;> exact (z_X11_abort_1 x16.toInt ((G.1 a 6).toInt) c9)), (v_X11_abort_49_5 (K := K) (F := F) a G G16 G30 G47 x16 ha oq16a oq30 (xzi hz6) c9 t16 ((hF16.2.1 _ (xn1 (xne_k hk9999h hk9999 (by decide)) (xn1 (xne_k hk9999h hk9999a (by decide)) (xn1 (xne_k hk9999h hk9999b (by decide)) (xn1 (xne_k hk9999h hk9999c (by decide)) (xn1 (xne_k hk9999h hk9999d (by decide)) xn0)))))).trans (ld_c hG2)) ((lc_c hG47 (xne_k hk9999e hk9999f (by decide))).trans (ld_c hG35))), (v_X11_abort_49_6 (F := F) a G G16 G30 G47 hB oq30 ((hF16.2.1 _ (xn1 (xne_k hk9999h hk9999 (by decide)) (xn1 (xne_k hk9999h hk9999a (by decide)) (xn1 (xne_k hk9999h hk9999b (by decide)) (xn1 (xne_k hk9999h hk9999c (by decide)) (xn1 (xne_k hk9999h hk9999d (by decide)) xn0)))))).trans (ld_c hG2)) ((lc_c hG47 (xne_k hk9999e hk9999f (by decide))).trans (ld_c hG35))), (v_X11_abort_49_7 (K := K) (F := F) a G G16 x16 ha oq16 oq16a (xzi hz6) c9 t16)⟩ hT
  · refine lv_bipush (v := (-3)) hx hb dX11_abort_12 (by decide) ?_
    exact x_ri hx hb hr hlk hQ (Nat.le_of_ble_eq_true rfl) (Nat.le_of_ble_eq_true rfl) hS dX11_abort_14 G2 ⟨_, rfl, (by rw [hG2]; exact XFr.dput XFr.rf (List.mem_of_getElem? (i := 2) rfl)), (by rw [((by decide) : Int32.toInt (-3) = (-3 : Int)), (show (G2.1 a 6).toInt = ((G.1 a 6).toInt) from (congrArg Int32.toInt (ld_j hG2 (by decide))).trans (rfl : Int32.toInt (G.1 a 6) = ((G.1 a 6).toInt)))] <;> exact (z_X11_abort_2 ((G.1 a 6).toInt) c9)), (v_X11_abort_14_8 (K := K) (F := F) a G2 G ha (xzi hz6) c9 (ld_c hG2)), (v_X11_abort_14_9 (F := F) a G2 G hM (ld_c hG2)), (by rw [((by decide) : Int32.toInt (-3) = (-3 : Int))] <;> exact (v_X11_abort_14_10 (K := K) (F := F) a G ha (xzi hz6) c9))⟩ hT

theorem z_X11_mark_1 (a0 : Int) (a1 : Int) (h0 : 0 ≤ a1 ∧ a1 ≤ 8) (h1 : a0 = ((360 : Int) * a1) ∨ ((360 : Int) * a1) < -2147483648 ∨ 2147483648 ≤ ((360 : Int) * a1)) : a0 = ((360 : Int) * a1) := by omega
theorem z_X11_mark_2 (a0 : Int) (h0 : 0 ≤ a0 ∧ a0 ≤ 8) (h1 : a0 ≠ (8 : Int)) : 0 ≤ ((360 : Int) * a0) ∧ ((360 : Int) * a0) ≤ 2520 := by omega
theorem z_X11_mark_3 (a0 : Int) (a1 : Int) (h0 : 0 ≤ a1 ∧ a1 ≤ 8) (h1 : a0 = (a1 + (1 : Int)) ∨ (a1 + (1 : Int)) < -2147483648 ∨ 2147483648 ≤ (a1 + (1 : Int))) : a0 = (a1 + (1 : Int)) := by omega
theorem z_X11_mark_4 (a0 : Int) (a1 : Int) (h0 : 0 ≤ a1 ∧ a1 ≤ 8) (h1 : a0 = ((a1 + (1 : Int)) - (1 : Int)) ∨ ((a1 + (1 : Int)) - (1 : Int)) < -2147483648 ∨ 2147483648 ≤ ((a1 + (1 : Int)) - (1 : Int))) : a0 = ((a1 + (1 : Int)) - (1 : Int)) := by omega
theorem z_X11_mark_5 (a0 : Int) (a1 : Int) (h0 : a0 ≠ 0) (h1 : a1 ≠ (8 : Int)) : (a0 = 0 ∧ ((a1 + (1 : Int)) - (1 : Int)) = -3 ∧ (a1 + (1 : Int)) = a1) ∨ (a0 ≠ 0 ∧ a1 = 8 ∧ ((a1 + (1 : Int)) - (1 : Int)) = -4 ∧ (a1 + (1 : Int)) = a1) ∨ (a0 ≠ 0 ∧ a1 ≠ 8 ∧ ((a1 + (1 : Int)) - (1 : Int)) = a1 ∧ (a1 + (1 : Int)) = a1 + 1) := by omega
theorem z_X11_mark_6 (a0 : Int) (a1 : Int) (h0 : a0 ≠ 0) (h1 : ¬ (a1 ≠ (8 : Int))) : (a0 = 0 ∧ (-4 : Int) = -3 ∧ a1 = a1) ∨ (a0 ≠ 0 ∧ a1 = 8 ∧ (-4 : Int) = -4 ∧ a1 = a1) ∨ (a0 ≠ 0 ∧ a1 ≠ 8 ∧ (-4 : Int) = a1 ∧ a1 = a1 + 1) := by omega
theorem z_X11_mark_7 (a0 : Int) (a1 : Int) (h0 : ¬ (a0 ≠ 0)) : (a0 = 0 ∧ (-3 : Int) = -3 ∧ a1 = a1) ∨ (a0 ≠ 0 ∧ a1 = 8 ∧ (-3 : Int) = -4 ∧ a1 = a1) ∨ (a0 ≠ 0 ∧ a1 ≠ 8 ∧ (-3 : Int) = a1 ∧ a1 = a1 + 1) := by omega
abbrev rm_X11_mark : Room := { frames := 1, cells := 0, slots := 0, locals := 24 }
set_option maxHeartbeats 4000000 in
set_option maxRecDepth 100000 in
theorem c_X11_mark (l : Launch) (E : XE) (K : Nat → Nat) (F : Nat → Nat → Nat) (G : XG) (a : Nat) (ha : K a = 13) (m0 : 0 ≤ ((G.1 a 7).toInt) ∧ ((G.1 a 7).toInt) ≤ 8) (hM : RM (G.2.1 (F a 1)) (0)) : Met l yX11_mark (xw yX11_mark cX11_mark 1 (some .int)) rm_X11_mark (va_Pc [.ref a] (XP E K F G)) (XQ E (fun v (u : XG) => ∃ r : Int32, v = .int r ∧ XFr [(a, 0), (a, 7)] [F a 3] [] G u ∧ ((((G.1 a 6).toInt) = 0 ∧ r.toInt = -3 ∧ ((u.1 a 7).toInt) = ((G.1 a 7).toInt)) ∨ (((G.1 a 6).toInt) ≠ 0 ∧ ((G.1 a 7).toInt) = 8 ∧ r.toInt = -4 ∧ ((u.1 a 7).toInt) = ((G.1 a 7).toInt)) ∨ (((G.1 a 6).toInt) ≠ 0 ∧ ((G.1 a 7).toInt) ≠ 8 ∧ r.toInt = ((G.1 a 7).toInt) ∧ ((u.1 a 7).toInt) = ((G.1 a 7).toInt) + 1)) ∧ (((((G.1 a 6).toInt) = 0 ∨ ((G.1 a 7).toInt) = 8) ∧ u.2.1 (F a 3) = (G.2.1 (F a 3))) ∨ ((((G.1 a 6).toInt) ≠ 0 ∧ ((G.1 a 7).toInt) ≠ 8) ∧ CPd (G.2.1 (F a 1)) (G.2.1 (F a 3)) (u.2.1 (F a 3)) 0 (360 * ((G.1 a 7).toInt)) 360))) (fun u H => TW E K F u H)) 0 0 (xA E) := by
  refine x_enter (by decide) (Nat.le_of_ble_eq_true rfl) ?_
  intro p e s m args below meth c Q S hr hlk hnm hQ hP ls hl
  obtain ⟨hz, hK, hT⟩ := hP
  obtain ⟨hx, hb, -, -, -⟩ := id S
  obtain ⟨H, hT, hS, hgo⟩ : ∃ H : Heap, TW E K F G H ∧ va_S (xA E) s.heap H [] ∧ H = s.heap := ⟨_, hT, va_S.rf, rfl⟩
  rw [← hgo]
  have hl : lv_has ls 1 [(0, .ref a)] := hl
  obtain ⟨hk9999, hj9999⟩ := fkX11_3 hT ha
  obtain ⟨hk9999a, hj9999a⟩ := fkX11_1 hT ha
  refine lv_aload_n hx hb dX11_mark_0 rfl (lv_at hl 0 rfl) ?_
  refine lv_iconst (v := 0) hx hb dX11_mark_1 (by decide) ?_
  refine pX11_0 (v := 0) S hK hT hS ha kf_X11_134 dX11_mark_2 (fun H locs hT hS => ?_)
  obtain ⟨G2, hG2⟩ : ∃ GG : XG, GG = dput G a 0 0 := ⟨_, rfl⟩
  rw [← hG2] at hT
  refine lv_aload_n hx hb dX11_mark_5 rfl (lv_at hl 0 rfl) ?_
  refine gX11_6 S hK hT ha kf_X11_206 dX11_mark_6 (v := (G.1 a 6)) (ld_j hG2 (by decide)) (fun hz6 => ?_)
  refine xi_zne (tgt := 15) hx hb (rfl : Int32.toInt (G.1 a 6) = ((G.1 a 6).toInt)) dX11_mark_9 (by decide) (fun c9 => ?_) (fun c9 => ?_)
  · refine lv_aload_n hx hb dX11_mark_15 rfl (lv_at hl 0 rfl) ?_
    refine gX11_7 S hK hT ha kf_X11_373 dX11_mark_16 (v := (G.1 a 7)) (ld_j hG2 (by decide)) (?_)
    refine lv_bipush (v := 8) hx hb dX11_mark_19 (by decide) ?_
    refine xi_cne (tgt := 27) hx hb (rfl : Int32.toInt (G.1 a 7) = ((G.1 a 7).toInt)) ((by decide) : Int32.toInt 8 = (8 : Int)) dX11_mark_21 (by decide) (fun c21 => ?_) (fun c21 => ?_)
    · refine lv_aload_n hx hb dX11_mark_27 rfl (lv_at hl 0 rfl) ?_
      refine gX11_1 S hK hT ha kf_X11_9 dX11_mark_28 (fun _ _ => ?_)
      refine lv_iconst (v := 0) hx hb dX11_mark_31 (by decide) ?_
      refine lv_aload_n hx hb dX11_mark_32 rfl (lv_at hl 0 rfl) ?_
      refine gX11_3 S hK hT ha kf_X11_18 dX11_mark_33 (fun _ _ => ?_)
      refine lv_sipush (v := 360) hx hb dX11_mark_36 (by decide) ?_
      refine lv_aload_n hx hb dX11_mark_39 rfl (lv_at hl 0 rfl) ?_
      refine gX11_7 S hK hT ha kf_X11_373 dX11_mark_40 (v := (G.1 a 7)) (ld_j hG2 (by decide)) (?_)
      refine xi_imul hx hb ((by decide) : Int32.toInt 360 = (360 : Int)) (rfl : Int32.toInt (G.1 a 7) = ((G.1 a 7).toInt)) dX11_mark_43 (fun x43 t43 => ?_)
      have e43 : x43.toInt = ((360 : Int) * ((G.1 a 7).toInt)) := (z_X11_mark_1 x43.toInt ((G.1 a 7).toInt) m0 t43)
      refine x_cv0 (x_runS (As := [.ref (F a 1), .int 0, .ref (F a 3), .int x43]) (rest := []) S (c_X11_copy l E K F G2 (F a 1) 0 (F a 3) x43 (XO.a hk9999a (by decide)) (XO.c hk9999 (by rw [(e43 : Int32.toInt x43 = ((360 : Int) * ((G.1 a 7).toInt)))] <;> exact (z_X11_mark_2 ((G.1 a 7).toInt) m0 c21))) (v_X11_mark_44_1 (K := K) (F := F) a G2 G x43 ha hk9999 hj9999 hk9999a hj9999a hG2 hM e43 m0 (xzi hz6) c9 c21 (ld_c hG2) (ld_c hG2) (ld_at hG2) (ld_j hG2 (by decide)))) ms_X11_copy km_X11_309 rfl rfl ⟨Nat.le_of_ble_eq_true rfl, Nat.le_of_ble_eq_true rfl⟩ hK (fun _ => XP.blind) (fun U hU hW => XP.at hK hz hS hT hU hW) rfl hl.1 (Nat.le_of_ble_eq_true rfl) dX11_mark_44 ⟨Nat.le_of_ble_eq_true rfl, Nat.le_of_ble_eq_true rfl⟩) hS ?_
      rintro G44 H locs ⟨hF44, oq44⟩ hT hS
      have oq44 : CPd (G2.2.1 (F a 1)) (G2.2.1 (F a 3)) (G44.2.1 (F a 3)) (0 : Int) ((360 : Int) * ((G.1 a 7).toInt)) 360 := by simp only [(e43 : Int32.toInt x43 = ((360 : Int) * ((G.1 a 7).toInt)))] at oq44; exact oq44
      refine lv_aload_n hx hb dX11_mark_47 rfl (lv_at hl 0 rfl) ?_
      refine lv_dup hx hb dX11_mark_48 rfl ?_
      refine gX11_7 S hK hT ha kf_X11_373 dX11_mark_49 (v := (G.1 a 7)) ((hF44.1 _ _ xn0).trans (ld_j hG2 (by decide))) (?_)
      refine lv_iconst (v := 1) hx hb dX11_mark_52 (by decide) ?_
      refine xi_iadd hx hb (rfl : Int32.toInt (G.1 a 7) = ((G.1 a 7).toInt)) ((by decide) : Int32.toInt 1 = (1 : Int)) dX11_mark_53 (fun x53 t53 => ?_)
      have e53 : x53.toInt = (((G.1 a 7).toInt) + (1 : Int)) := (z_X11_mark_3 x53.toInt ((G.1 a 7).toInt) m0 t53)
      refine pX11_7 (v := x53) S hK hT hS ha kf_X11_373 dX11_mark_54 (fun H locs hT hS => ?_)
      obtain ⟨G54, hG54⟩ : ∃ GG : XG, GG = dput G44 a 7 x53 := ⟨_, rfl⟩
      rw [← hG54] at hT
      refine lv_aload_n hx hb dX11_mark_57 rfl (lv_at hl 0 rfl) ?_
      refine gX11_7 S hK hT ha kf_X11_373 dX11_mark_58 (v := x53) (ld_at hG54) (?_)
      refine lv_iconst (v := 1) hx hb dX11_mark_61 (by decide) ?_
      refine xi_isub hx hb (e53 : Int32.toInt x53 = (((G.1 a 7).toInt) + (1 : Int))) ((by decide) : Int32.toInt 1 = (1 : Int)) dX11_mark_62 (fun x62 t62 => ?_)
      have e62 : x62.toInt = ((((G.1 a 7).toInt) + (1 : Int)) - (1 : Int)) := (z_X11_mark_4 x62.toInt ((G.1 a 7).toInt) m0 t62)
      exact x_ri hx hb hr hlk hQ (Nat.le_of_ble_eq_true rfl) (Nat.le_of_ble_eq_true rfl) hS dX11_mark_63 G54 ⟨_, rfl, (by rw [hG54]; exact XFr.dput (XFr.call (by rw [hG2]; exact XFr.dput XFr.rf (List.mem_of_getElem? (i := 0) rfl)) hF44 xm0 (xm1 0 rfl xm0) xm0) (List.mem_of_getElem? (i := 1) rfl)), (by rw [(e62 : Int32.toInt x62 = ((((G.1 a 7).toInt) + (1 : Int)) - (1 : Int))), (show (G54.1 a 7).toInt = (((G.1 a 7).toInt) + (1 : Int)) from (congrArg Int32.toInt (ld_at hG54)).trans (e53 : Int32.toInt x53 = (((G.1 a 7).toInt) + (1 : Int))))] <;> exact (z_X11_mark_5 ((G.1 a 6).toInt) ((G.1 a 7).toInt) c9 c21)), (v_X11_mark_63_2 (K := K) (F := F) a G2 G G44 G54 ha oq44 m0 (xzi hz6) c9 c21 (ld_c hG2) (ld_c hG2) (ld_c hG54))⟩ hT
    · refine lv_bipush (v := (-4)) hx hb dX11_mark_24 (by decide) ?_
      exact x_ri hx hb hr hlk hQ (Nat.le_of_ble_eq_true rfl) (Nat.le_of_ble_eq_true rfl) hS dX11_mark_26 G2 ⟨_, rfl, (by rw [hG2]; exact XFr.dput XFr.rf (List.mem_of_getElem? (i := 0) rfl)), (by rw [((by decide) : Int32.toInt (-4) = (-4 : Int)), (show (G2.1 a 7).toInt = ((G.1 a 7).toInt) from (congrArg Int32.toInt (ld_j hG2 (by decide))).trans (rfl : Int32.toInt (G.1 a 7) = ((G.1 a 7).toInt)))] <;> exact (z_X11_mark_6 ((G.1 a 6).toInt) ((G.1 a 7).toInt) c9 c21)), (v_X11_mark_26_3 (K := K) (F := F) a G2 G ha m0 (xzi hz6) c9 c21 (ld_c hG2))⟩ hT
  · refine lv_bipush (v := (-3)) hx hb dX11_mark_12 (by decide) ?_
    exact x_ri hx hb hr hlk hQ (Nat.le_of_ble_eq_true rfl) (Nat.le_of_ble_eq_true rfl) hS dX11_mark_14 G2 ⟨_, rfl, (by rw [hG2]; exact XFr.dput XFr.rf (List.mem_of_getElem? (i := 0) rfl)), (by rw [((by decide) : Int32.toInt (-3) = (-3 : Int)), (show (G2.1 a 7).toInt = ((G.1 a 7).toInt) from (congrArg Int32.toInt (ld_j hG2 (by decide))).trans (rfl : Int32.toInt (G.1 a 7) = ((G.1 a 7).toInt)))] <;> exact (z_X11_mark_7 ((G.1 a 6).toInt) ((G.1 a 7).toInt) c9)), (v_X11_mark_14_4 (K := K) (F := F) a G2 G ha m0 (xzi hz6) c9 (ld_c hG2))⟩ hT
theorem v_X11_rekey_35_1 {F : Nat → Nat → Nat} (x10 : Int32) (p0 : Int32) (G32 : XG) (a : Nat) (G : XG) (p1 : Int32) (p2 : Int32)
    (t10 : (x10.toInt = 1 ∧ 0 ≤ p0.toInt ∧ p0.toInt ≤ 2) ∨ (x10.toInt = 0 ∧ (p0.toInt < 0 ∨ 2 < p0.toInt)))
    (c13 : x10.toInt = 0)
    (c_G32_F_a_1 : G32.2.1 (F a 1) = G.2.1 (F a 1)) :
    (¬ ((0 ≤ p0.toInt ∧ p0.toInt < 3) ∧ (0 ≤ p1.toInt ∧ p1.toInt < 30) ∧ (0 ≤ p2.toInt ∧ p2.toInt < 30)) ∧ (-1 : Int) = -1 ∧ mw (G32.2.1 (F a 1)) 0 = (mw (G.2.1 (F a 1)) 0)) ∨ (((0 ≤ p0.toInt ∧ p0.toInt < 3) ∧ (0 ≤ p1.toInt ∧ p1.toInt < 30) ∧ (0 ≤ p2.toInt ∧ p2.toInt < 30)) ∧ cel (mw (G.2.1 (F a 1)) 0) p0.toInt p1.toInt 0 = -2000 ∧ (-1 : Int) = -2 ∧ mw (G32.2.1 (F a 1)) 0 = (mw (G.2.1 (F a 1)) 0)) ∨ (((0 ≤ p0.toInt ∧ p0.toInt < 3) ∧ (0 ≤ p1.toInt ∧ p1.toInt < 30) ∧ (0 ≤ p2.toInt ∧ p2.toInt < 30)) ∧ cel (mw (G.2.1 (F a 1)) 0) p0.toInt p1.toInt 0 ≠ -2000 ∧ cel (mw (G.2.1 (F a 1)) 0) p0.toInt p2.toInt 0 ≠ -2000 ∧ (-1 : Int) = -4 ∧ mw (G32.2.1 (F a 1)) 0 = (mw (G.2.1 (F a 1)) 0)) ∨ (((0 ≤ p0.toInt ∧ p0.toInt < 3) ∧ (0 ≤ p1.toInt ∧ p1.toInt < 30) ∧ (0 ≤ p2.toInt ∧ p2.toInt < 30)) ∧ cel (mw (G.2.1 (F a 1)) 0) p0.toInt p1.toInt 0 ≠ -2000 ∧ cel (mw (G.2.1 (F a 1)) 0) p0.toInt p2.toInt 0 = -2000 ∧ StR ((G.1 a 6).toInt) (-1 : Int) (G.2.1 (F a 10)) (mw (G.2.1 (F a 1)) 0) (mvR (refA (G.2.1 (F a 10))) (refT (G.2.1 (F a 10))) (refC (G.2.1 (F a 10))) p0.toInt p1.toInt p2.toInt (rmv (mw (G.2.1 (F a 1)) 0) p0.toInt p1.toInt p2.toInt) 12) (mw (G32.2.1 (F a 1)) 0)) := by
  refine Or.inl ⟨fun h => ?_, rfl, by rw [c_G32_F_a_1]⟩
  obtain ⟨h1, h2, h3⟩ := h
  have hk := h1
  clear h1 h2 h3
  omega
theorem v_X11_rekey_35_2 {F : Nat → Nat → Nat} (a : Nat) (G : XG) (G32 : XG)
    (hM : RM (G.2.1 (F a 1)) (0))
    (c_G32_F_a_1 : G32.2.1 (F a 1) = G.2.1 (F a 1)) :
    RM (G32.2.1 (F a 1)) 0 := by
  rw [c_G32_F_a_1]; exact hM
theorem v_X11_rekey_35_3 {F : Nat → Nat → Nat} (x17 : Int32) (p1 : Int32) (G32 : XG) (a : Nat) (G : XG) (p0 : Int32) (p2 : Int32)
    (t17 : (x17.toInt = 1 ∧ 0 ≤ p1.toInt ∧ p1.toInt ≤ 29) ∨ (x17.toInt = 0 ∧ (p1.toInt < 0 ∨ 29 < p1.toInt)))
    (c20 : x17.toInt = 0)
    (c_G32_F_a_1 : G32.2.1 (F a 1) = G.2.1 (F a 1)) :
    (¬ ((0 ≤ p0.toInt ∧ p0.toInt < 3) ∧ (0 ≤ p1.toInt ∧ p1.toInt < 30) ∧ (0 ≤ p2.toInt ∧ p2.toInt < 30)) ∧ (-1 : Int) = -1 ∧ mw (G32.2.1 (F a 1)) 0 = (mw (G.2.1 (F a 1)) 0)) ∨ (((0 ≤ p0.toInt ∧ p0.toInt < 3) ∧ (0 ≤ p1.toInt ∧ p1.toInt < 30) ∧ (0 ≤ p2.toInt ∧ p2.toInt < 30)) ∧ cel (mw (G.2.1 (F a 1)) 0) p0.toInt p1.toInt 0 = -2000 ∧ (-1 : Int) = -2 ∧ mw (G32.2.1 (F a 1)) 0 = (mw (G.2.1 (F a 1)) 0)) ∨ (((0 ≤ p0.toInt ∧ p0.toInt < 3) ∧ (0 ≤ p1.toInt ∧ p1.toInt < 30) ∧ (0 ≤ p2.toInt ∧ p2.toInt < 30)) ∧ cel (mw (G.2.1 (F a 1)) 0) p0.toInt p1.toInt 0 ≠ -2000 ∧ cel (mw (G.2.1 (F a 1)) 0) p0.toInt p2.toInt 0 ≠ -2000 ∧ (-1 : Int) = -4 ∧ mw (G32.2.1 (F a 1)) 0 = (mw (G.2.1 (F a 1)) 0)) ∨ (((0 ≤ p0.toInt ∧ p0.toInt < 3) ∧ (0 ≤ p1.toInt ∧ p1.toInt < 30) ∧ (0 ≤ p2.toInt ∧ p2.toInt < 30)) ∧ cel (mw (G.2.1 (F a 1)) 0) p0.toInt p1.toInt 0 ≠ -2000 ∧ cel (mw (G.2.1 (F a 1)) 0) p0.toInt p2.toInt 0 = -2000 ∧ StR ((G.1 a 6).toInt) (-1 : Int) (G.2.1 (F a 10)) (mw (G.2.1 (F a 1)) 0) (mvR (refA (G.2.1 (F a 10))) (refT (G.2.1 (F a 10))) (refC (G.2.1 (F a 10))) p0.toInt p1.toInt p2.toInt (rmv (mw (G.2.1 (F a 1)) 0) p0.toInt p1.toInt p2.toInt) 12) (mw (G32.2.1 (F a 1)) 0)) := by
  refine Or.inl ⟨fun h => ?_, rfl, by rw [c_G32_F_a_1]⟩
  obtain ⟨h1, h2, h3⟩ := h
  have hk := h2
  clear h1 h2 h3
  omega
theorem v_X11_rekey_35_4 {F : Nat → Nat → Nat} (a : Nat) (G : XG) (G32 : XG)
    (hM : RM (G.2.1 (F a 1)) (0))
    (c_G32_F_a_1 : G32.2.1 (F a 1) = G.2.1 (F a 1)) :
    RM (G32.2.1 (F a 1)) 0 := by
  rw [c_G32_F_a_1]; exact hM
theorem v_X11_rekey_39_5 {F : Nat → Nat → Nat} (a : Nat) (G : XG) (G6 : XG)
    (hM : RM (G.2.1 (F a 1)) (0))
    (hB : RM (G.2.1 (F a 2)) 0)
    (c_G6_F_a_1 : G6.2.1 (F a 1) = G.2.1 (F a 1)) :
    RM (G6.2.1 (F a 1)) 0 := by simp only [c_G6_F_a_1]; assumption
theorem v_X11_rekey_55_6 {F : Nat → Nat → Nat} (a : Nat) (G : XG) (G6 : XG)
    (hM : RM (G.2.1 (F a 1)) (0))
    (hB : RM (G.2.1 (F a 2)) 0)
    (c_G6_F_a_1 : G6.2.1 (F a 1) = G.2.1 (F a 1)) :
    RM (G6.2.1 (F a 1)) 0 := by simp only [c_G6_F_a_1]; assumption
theorem v_X11_rekey_69_7 {F : Nat → Nat → Nat} (a : Nat) (G : XG) (G6 : XG)
    (hR : RV (G.2.1 (F a 10)))
    (c_G6_F_a_10 : G6.2.1 (F a 10) = G.2.1 (F a 10)) :
    RV (G6.2.1 (F a 10)) := by simp only [c_G6_F_a_10]; assumption
theorem v_X11_rekey_69_8 {F : Nat → Nat → Nat} (a : Nat) (G : XG) (G6 : XG)
    (hM : RM (G.2.1 (F a 1)) (0))
    (hB : RM (G.2.1 (F a 2)) 0)
    (c_G6_F_a_1 : G6.2.1 (F a 1) = G.2.1 (F a 1)) :
    RM (G6.2.1 (F a 1)) (0) := by simp only [c_G6_F_a_1]; assumption
theorem v_X11_rekey_249_9 {F : Nat → Nat → Nat} (a : Nat) (G : XG) (G_127 : XG)
    (hR : RV (G.2.1 (F a 10)))
    (c_G_127_F_a_10 : G_127.2.1 (F a 10) = G.2.1 (F a 10)) :
    RV (G_127.2.1 (F a 10)) := by simp only [c_G_127_F_a_10]; assumption
theorem v_X11_rekey_249_10 {F : Nat → Nat → Nat} (a : Nat) (G_127 : XG)
    (rm : RM (G_127.2.1 (F a 1)) 0) :
    RM (G_127.2.1 (F a 1)) (0) := by
  exact rm
theorem v_X11_rekey_249_11 {K : Nat → Nat} {F : Nat → Nat → Nat} (a : Nat) (G2 : XG) (G : XG) (G6 : XG) (G69 : XG) (G_75 : XG) (G123 : XG) (x119 : Int32) (G_127 : XG) (p0 : Int32) (p1 : Int32) (p2 : Int32) (l4_75 : Int32) (l4_127 : Int32) (x10 : Int32) (x17 : Int32) (x24 : Int32) (x39 : Int32) (x55 : Int32) (N75 : Nat) (N127 : Nat)
    (ha : K a = 13)
    (hk9999 : K (F a 15) = 42)
    (hj9999 : F (F a 15) 99 = 15)
    (hk9999a : K (F a 17) = 43)
    (hj9999a : F (F a 17) 99 = 17)
    (hk9999b : K (F a 18) = 44)
    (hj9999b : F (F a 18) 99 = 18)
    (hk9999c : K (F a 1) = 30)
    (hj9999c : F (F a 1) 99 = 1)
    (hk9999d : K (F a 8) = 35)
    (hj9999d : F (F a 8) 99 = 8)
    (hk9999e : K (F a 22) = 45)
    (hj9999e : F (F a 22) 99 = 22)
    (hk9999f : K (F a 11) = 38)
    (hj9999f : F (F a 11) 99 = 11)
    (hk9999g : K (F a 13) = 38)
    (hj9999g : F (F a 13) 99 = 13)
    (hk9999h : K (F a 9) = 36)
    (hj9999h : F (F a 9) 99 = 9)
    (hk9999i : K (F a 41) = 53)
    (hj9999i : F (F a 41) 99 = 41)
    (hk9999j : K (F a 42) = 54)
    (hj9999j : F (F a 42) 99 = 42)
    (hk9999k : K (F a 4) = 31)
    (hj9999k : F (F a 4) 99 = 4)
    (hk9999l : K (F a 12) = 38)
    (hj9999l : F (F a 12) 99 = 12)
    (hk9999m : K (F a 10) = 37)
    (hj9999m : F (F a 10) 99 = 10)
    (hk9999n : K (F a 2) = 31)
    (hj9999n : F (F a 2) 99 = 2)
    (hG2 : G2 = dput G a 0 0)
    (hF6 : XFr [(a, 20), (a, 21), (a, 23)] [] [] G2 G6)
    (hF69 : XFr [] [F a 4, F a 12] [] G6 G69)
    (hF_75 : XFr [] [F a 1] [] G69 G_75)
    (hG123 : G123 = cput G_75 (F a 1) x119.toNatClampNeg 0)
    (hF_127 : XFr [] [F a 1] [] G123 G_127)
    (hR : RV (G.2.1 (F a 10)))
    (hM : RM (G.2.1 (F a 1)) (0))
    (hB : RM (G.2.1 (F a 2)) 0)
    (oq69 : mw (G69.2.1 (F a 4)) 0 = mw (G.2.1 (F a 1)) 0)
    (oq69a : RM (G69.2.1 (F a 4)) 0)
    (oq69b : LSt (G.2.1 (F a 10)) (G69.2.1 (F a 12)) (mw (G.2.1 (F a 1)) 0) 12)
    (mp : MVp (G.2.1 (F a 1)) (G_75.2.1 (F a 1)) (0 + 4 * (30 * p0.toInt + p1.toInt)) (0 + 4 * (30 * p0.toInt + p2.toInt)) (l4_75.toInt))
    (mv : mw (G_127.2.1 (F a 1)) 0 = mvR (refA (G.2.1 (F a 10))) (refT (G.2.1 (F a 10))) (refC (G.2.1 (F a 10))) p0.toInt p1.toInt p2.toInt (rmv (mw (G.2.1 (F a 1)) 0) p0.toInt p1.toInt p2.toInt) (Int.toNat (l4_127.toInt)))
    (rm : RM (G_127.2.1 (F a 1)) 0)
    (am : 0 ≤ ((G.1 a 43).toInt) ∧ ((G.1 a 43).toInt) ≤ 2388)
    (t6 : ((G6.1 a 20).toInt) = -2147483648 ∧ ((G6.1 a 21).toInt) = -2147483648 ∧ ((G6.1 a 23).toInt) = 0)
    (t10 : (x10.toInt = 1 ∧ 0 ≤ p0.toInt ∧ p0.toInt ≤ 2) ∨ (x10.toInt = 0 ∧ (p0.toInt < 0 ∨ 2 < p0.toInt)))
    (c13 : ¬ (x10.toInt = 0))
    (t17 : (x17.toInt = 1 ∧ 0 ≤ p1.toInt ∧ p1.toInt ≤ 29) ∨ (x17.toInt = 0 ∧ (p1.toInt < 0 ∨ 29 < p1.toInt)))
    (c20 : ¬ (x17.toInt = 0))
    (t24 : (x24.toInt = 1 ∧ 0 ≤ p2.toInt ∧ p2.toInt ≤ 29) ∨ (x24.toInt = 0 ∧ (p2.toInt < 0 ∨ 29 < p2.toInt)))
    (c27 : x24.toInt ≠ 0)
    (z36 : 0 ≤ p0.toInt ∧ p0.toInt < 3)
    (z36a : 0 ≤ p1.toInt ∧ p1.toInt < 30)
    (z36b : 0 ≤ p2.toInt ∧ p2.toInt < 30)
    (t39 : (x39.toInt = 1 ∧ (cel (mw (G.2.1 (F a 1)) 0) (p0.toInt) (p1.toInt) 0) ≠ -2000) ∨ (x39.toInt = 0 ∧ (cel (mw (G.2.1 (F a 1)) 0) (p0.toInt) (p1.toInt) 0) = -2000))
    (c42 : x39.toInt ≠ 0)
    (t55 : (x55.toInt = 1 ∧ (cel (mw (G.2.1 (F a 1)) 0) (p0.toInt) (p2.toInt) 0) ≠ -2000) ∨ (x55.toInt = 0 ∧ (cel (mw (G.2.1 (F a 1)) 0) (p0.toInt) (p2.toInt) 0) = -2000))
    (c58 : x55.toInt = 0)
    (z68 : p1.toInt = p2.toInt → (cel (mw (G.2.1 (F a 1)) 0) (p0.toInt) (p1.toInt) 0) = (cel (mw (G.2.1 (F a 1)) 0) (p0.toInt) (p2.toInt) 0))
    (I75_0 : 0 ≤ l4_75.toInt ∧ l4_75.toInt ≤ 4)
    (I75_1 : (0 : Int) ≤ l4_75.toInt)
    (hm75 : 2147483648 - l4_75.toInt < (((N75) + 1 : Nat) : Int))
    (c78 : (4 : Int) ≤ l4_75.toInt)
    (t119 : 0 ≤ p0.toInt ∧ p0.toInt ≤ 2 ∧ 0 ≤ p1.toInt ∧ p1.toInt ≤ 29 → x119.toInt = 4 * (30 * p0.toInt + p1.toInt))
    (I127_0 : 0 ≤ l4_127.toInt ∧ l4_127.toInt ≤ 12)
    (I127_1 : (0 : Int) ≤ l4_127.toInt)
    (hm127 : 2147483648 - l4_127.toInt < (((N127) + 1 : Nat) : Int))
    (c131 : (12 : Int) ≤ l4_127.toInt)
    (c_G69_F_a_1 : G69.2.1 (F a 1) = G.2.1 (F a 1))
    (c_G_127_F_a_10 : G_127.2.1 (F a 10) = G.2.1 (F a 10))
    (c_G_127_F_a_11 : G_127.2.1 (F a 11) = G.2.1 (F a 11))
    (c_G_127_F_a_12 : G_127.2.1 (F a 12) = G69.2.1 (F a 12))
    (c_G_127_F_a_13 : G_127.2.1 (F a 13) = G.2.1 (F a 13))
    (c_G_127_F_a_15 : G_127.2.1 (F a 15) = G.2.1 (F a 15))
    (c_G_127_F_a_17 : G_127.2.1 (F a 17) = G.2.1 (F a 17))
    (c_G_127_F_a_18 : G_127.2.1 (F a 18) = G.2.1 (F a 18))
    (c_G_127_F_a_2 : G_127.2.1 (F a 2) = G.2.1 (F a 2))
    (c_G_127_F_a_22 : G_127.2.1 (F a 22) = G.2.1 (F a 22))
    (c_G_127_F_a_4 : G_127.2.1 (F a 4) = G69.2.1 (F a 4))
    (c_G_127_F_a_41 : G_127.2.1 (F a 41) = G.2.1 (F a 41))
    (c_G_127_F_a_42 : G_127.2.1 (F a 42) = G.2.1 (F a 42))
    (c_G_127_F_a_8 : G_127.2.1 (F a 8) = G.2.1 (F a 8))
    (c_G_127_F_a_9 : G_127.2.1 (F a 9) = G.2.1 (F a 9))
    (d_G_127_a_0 : G_127.1 a 0 = 0)
    (d_G_127_a_16 : G_127.1 a 16 = G.1 a 16)
    (d_G_127_a_19 : G_127.1 a 19 = G.1 a 19)
    (d_G_127_a_20 : G_127.1 a 20 = G6.1 a 20)
    (d_G_127_a_21 : G_127.1 a 21 = G6.1 a 21)
    (d_G_127_a_23 : G_127.1 a 23 = G6.1 a 23)
    (d_G_127_a_43 : G_127.1 a 43 = G.1 a 43)
    (d_G_127_a_44 : G_127.1 a 44 = G.1 a 44)
    (d_G_127_a_45 : G_127.1 a 45 = G.1 a 45)
    (d_G_127_a_46 : G_127.1 a 46 = G.1 a 46) :
    RM (G_127.2.1 (F a 4)) 0 := by
  simp only [c_G_127_F_a_4]; assumption
theorem v_X11_rekey_249_12 {F : Nat → Nat → Nat} (a : Nat) (G : XG) (G69 : XG) (G_127 : XG)
    (hM : RM (G.2.1 (F a 1)) (0))
    (hB : RM (G.2.1 (F a 2)) 0)
    (oq69a : RM (G69.2.1 (F a 4)) 0)
    (rm : RM (G_127.2.1 (F a 1)) 0)
    (c_G_127_F_a_2 : G_127.2.1 (F a 2) = G.2.1 (F a 2)) :
    RM (G_127.2.1 (F a 2)) 0 := by simp only [c_G_127_F_a_2]; assumption
theorem v_X11_rekey_249_13 {F : Nat → Nat → Nat} (a : Nat) (G : XG) (G69 : XG) (G_127 : XG)
    (oq69b : LSt (G.2.1 (F a 10)) (G69.2.1 (F a 12)) (mw (G.2.1 (F a 1)) 0) 12)
    (c_G_127_F_a_10 : G_127.2.1 (F a 10) = G.2.1 (F a 10))
    (c_G_127_F_a_12 : G_127.2.1 (F a 12) = G69.2.1 (F a 12)) :
    LSt (G_127.2.1 (F a 10)) (G_127.2.1 (F a 12)) (mw (G.2.1 (F a 1)) 0) 12 := by
  rw [c_G_127_F_a_10, c_G_127_F_a_12]; exact oq69b
theorem v_X11_rekey_252_14 {F : Nat → Nat → Nat} (G69 : XG) (a : Nat) (G : XG) (G_127 : XG) (p0 : Int32) (p1 : Int32) (p2 : Int32) (l4_127 : Int32) (x249 : Int32) (G249 : XG) (x39 : Int32) (x55 : Int32)
    (oq69 : mw (G69.2.1 (F a 4)) 0 = mw (G.2.1 (F a 1)) 0)
    (mv : mw (G_127.2.1 (F a 1)) 0 = mvR (refA (G.2.1 (F a 10))) (refT (G.2.1 (F a 10))) (refC (G.2.1 (F a 10))) p0.toInt p1.toInt p2.toInt (rmv (mw (G.2.1 (F a 1)) 0) p0.toInt p1.toInt p2.toInt) (Int.toNat (l4_127.toInt)))
    (oq249 : ((ffP (G.2.1 (F a 10)) (mw (G_127.2.1 (F a 1)) 0) (fuO (G.2.1 (F a 10)) (mw (G.2.1 (F a 1)) 0) (mw (G_127.2.1 (F a 1)) 0) 0) ≠ -1 ∨ (((G.1 a 6).toInt) = 0 ∧ ffP (G.2.1 (F a 10)) (mw (G_127.2.1 (F a 1)) 0) (fuO (G.2.1 (F a 10)) (mw (G.2.1 (F a 1)) 0) (mw (G_127.2.1 (F a 1)) 0) 1) ≠ -1)) ∧ x249.toInt = -5 ∧ mw (G249.2.1 (F a 1)) 0 = mw (G69.2.1 (F a 4)) 0) ∨ (ffP (G.2.1 (F a 10)) (mw (G_127.2.1 (F a 1)) 0) (fuO (G.2.1 (F a 10)) (mw (G.2.1 (F a 1)) 0) (mw (G_127.2.1 (F a 1)) 0) 0) = -1 ∧ (((G.1 a 6).toInt) = 0 → ffP (G.2.1 (F a 10)) (mw (G_127.2.1 (F a 1)) 0) (fuO (G.2.1 (F a 10)) (mw (G.2.1 (F a 1)) 0) (mw (G_127.2.1 (F a 1)) 0) 1) = -1) ∧ x249.toInt = (((fuO (G.2.1 (F a 10)) (mw (G.2.1 (F a 1)) 0) (mw (G_127.2.1 (F a 1)) 0) 2).length : Nat) : Int) ∧ mw (G249.2.1 (F a 1)) 0 = mw (G_127.2.1 (F a 1)) 0))
    (z36 : 0 ≤ p0.toInt ∧ p0.toInt < 3)
    (z36a : 0 ≤ p1.toInt ∧ p1.toInt < 30)
    (z36b : 0 ≤ p2.toInt ∧ p2.toInt < 30)
    (t39 : (x39.toInt = 1 ∧ (cel (mw (G.2.1 (F a 1)) 0) (p0.toInt) (p1.toInt) 0) ≠ -2000) ∨ (x39.toInt = 0 ∧ (cel (mw (G.2.1 (F a 1)) 0) (p0.toInt) (p1.toInt) 0) = -2000))
    (c42 : x39.toInt ≠ 0)
    (t55 : (x55.toInt = 1 ∧ (cel (mw (G.2.1 (F a 1)) 0) (p0.toInt) (p2.toInt) 0) ≠ -2000) ∨ (x55.toInt = 0 ∧ (cel (mw (G.2.1 (F a 1)) 0) (p0.toInt) (p2.toInt) 0) = -2000))
    (c58 : x55.toInt = 0)
    (I127_0 : 0 ≤ l4_127.toInt ∧ l4_127.toInt ≤ 12)
    (c131 : (12 : Int) ≤ l4_127.toInt) :
    (¬ ((0 ≤ p0.toInt ∧ p0.toInt < 3) ∧ (0 ≤ p1.toInt ∧ p1.toInt < 30) ∧ (0 ≤ p2.toInt ∧ p2.toInt < 30)) ∧ x249.toInt = -1 ∧ mw (G249.2.1 (F a 1)) 0 = (mw (G.2.1 (F a 1)) 0)) ∨ (((0 ≤ p0.toInt ∧ p0.toInt < 3) ∧ (0 ≤ p1.toInt ∧ p1.toInt < 30) ∧ (0 ≤ p2.toInt ∧ p2.toInt < 30)) ∧ cel (mw (G.2.1 (F a 1)) 0) p0.toInt p1.toInt 0 = -2000 ∧ x249.toInt = -2 ∧ mw (G249.2.1 (F a 1)) 0 = (mw (G.2.1 (F a 1)) 0)) ∨ (((0 ≤ p0.toInt ∧ p0.toInt < 3) ∧ (0 ≤ p1.toInt ∧ p1.toInt < 30) ∧ (0 ≤ p2.toInt ∧ p2.toInt < 30)) ∧ cel (mw (G.2.1 (F a 1)) 0) p0.toInt p1.toInt 0 ≠ -2000 ∧ cel (mw (G.2.1 (F a 1)) 0) p0.toInt p2.toInt 0 ≠ -2000 ∧ x249.toInt = -4 ∧ mw (G249.2.1 (F a 1)) 0 = (mw (G.2.1 (F a 1)) 0)) ∨ (((0 ≤ p0.toInt ∧ p0.toInt < 3) ∧ (0 ≤ p1.toInt ∧ p1.toInt < 30) ∧ (0 ≤ p2.toInt ∧ p2.toInt < 30)) ∧ cel (mw (G.2.1 (F a 1)) 0) p0.toInt p1.toInt 0 ≠ -2000 ∧ cel (mw (G.2.1 (F a 1)) 0) p0.toInt p2.toInt 0 = -2000 ∧ StR ((G.1 a 6).toInt) x249.toInt (G.2.1 (F a 10)) (mw (G.2.1 (F a 1)) 0) (mvR (refA (G.2.1 (F a 10))) (refT (G.2.1 (F a 10))) (refC (G.2.1 (F a 10))) p0.toInt p1.toInt p2.toInt (rmv (mw (G.2.1 (F a 1)) 0) p0.toInt p1.toInt p2.toInt) 12) (mw (G249.2.1 (F a 1)) 0)) := by
  rw [mv, oq69, show l4_127.toInt = 12 from by omega] at oq249
  exact Or.inr (Or.inr (Or.inr ⟨⟨z36, z36a, z36b⟩, by omega, by omega, oq249⟩))
theorem v_X11_rekey_252_15 {F : Nat → Nat → Nat} (a : Nat) (G249 : XG)
    (oq249a : RM (G249.2.1 (F a 1)) 0) :
    RM (G249.2.1 (F a 1)) 0 := by
  exact oq249a
theorem v_X11_rekey_245_16 {K : Nat → Nat} {F : Nat → Nat → Nat} (a : Nat) (G : XG) (G6 : XG) (x119 : Int32) (G_137 : XG) (p0 : Int32) (p1 : Int32) (p2 : Int32) (l4_75 : Int32) (l4_127 : Int32) (l5_137 : Int32) (x10 : Int32) (x17 : Int32) (x24 : Int32) (x39 : Int32) (x55 : Int32) (N75 : Nat) (N127 : Nat) (N137 : Nat)
    (ha : K a = 13)
    (rp : mw (G_137.2.1 (F a 1)) 0 = repl (mvR (refA (G.2.1 (F a 10))) (refT (G.2.1 (F a 10))) (refC (G.2.1 (F a 10))) p0.toInt p1.toInt p2.toInt (rmv (mw (G.2.1 (F a 1)) 0) p0.toInt p1.toInt p2.toInt) (Int.toNat (l4_127.toInt))) (refT (G.2.1 (F a 10)) (l4_127.toInt)) (refC (G.2.1 (F a 10)) (l4_127.toInt)) p1.toInt (if refA (G.2.1 (F a 10)) (l4_127.toInt) p0.toInt = 1 then p2.toInt else -1000) (l5_137.toInt))
    (am : 0 ≤ ((G.1 a 43).toInt) ∧ ((G.1 a 43).toInt) ≤ 2388)
    (t6 : ((G6.1 a 20).toInt) = -2147483648 ∧ ((G6.1 a 21).toInt) = -2147483648 ∧ ((G6.1 a 23).toInt) = 0)
    (t10 : (x10.toInt = 1 ∧ 0 ≤ p0.toInt ∧ p0.toInt ≤ 2) ∨ (x10.toInt = 0 ∧ (p0.toInt < 0 ∨ 2 < p0.toInt)))
    (c13 : ¬ (x10.toInt = 0))
    (t17 : (x17.toInt = 1 ∧ 0 ≤ p1.toInt ∧ p1.toInt ≤ 29) ∨ (x17.toInt = 0 ∧ (p1.toInt < 0 ∨ 29 < p1.toInt)))
    (c20 : ¬ (x17.toInt = 0))
    (t24 : (x24.toInt = 1 ∧ 0 ≤ p2.toInt ∧ p2.toInt ≤ 29) ∨ (x24.toInt = 0 ∧ (p2.toInt < 0 ∨ 29 < p2.toInt)))
    (c27 : x24.toInt ≠ 0)
    (z36 : 0 ≤ p0.toInt ∧ p0.toInt < 3)
    (z36a : 0 ≤ p1.toInt ∧ p1.toInt < 30)
    (z36b : 0 ≤ p2.toInt ∧ p2.toInt < 30)
    (t39 : (x39.toInt = 1 ∧ (cel (mw (G.2.1 (F a 1)) 0) (p0.toInt) (p1.toInt) 0) ≠ -2000) ∨ (x39.toInt = 0 ∧ (cel (mw (G.2.1 (F a 1)) 0) (p0.toInt) (p1.toInt) 0) = -2000))
    (c42 : x39.toInt ≠ 0)
    (t55 : (x55.toInt = 1 ∧ (cel (mw (G.2.1 (F a 1)) 0) (p0.toInt) (p2.toInt) 0) ≠ -2000) ∨ (x55.toInt = 0 ∧ (cel (mw (G.2.1 (F a 1)) 0) (p0.toInt) (p2.toInt) 0) = -2000))
    (c58 : x55.toInt = 0)
    (z68 : p1.toInt = p2.toInt → (cel (mw (G.2.1 (F a 1)) 0) (p0.toInt) (p1.toInt) 0) = (cel (mw (G.2.1 (F a 1)) 0) (p0.toInt) (p2.toInt) 0))
    (I75_0 : 0 ≤ l4_75.toInt ∧ l4_75.toInt ≤ 4)
    (I75_1 : (0 : Int) ≤ l4_75.toInt)
    (hm75 : 2147483648 - l4_75.toInt < (((N75) + 1 : Nat) : Int))
    (c78 : (4 : Int) ≤ l4_75.toInt)
    (t119 : 0 ≤ p0.toInt ∧ p0.toInt ≤ 2 ∧ 0 ≤ p1.toInt ∧ p1.toInt ≤ 29 → x119.toInt = 4 * (30 * p0.toInt + p1.toInt))
    (I127_0 : 0 ≤ l4_127.toInt ∧ l4_127.toInt ≤ 12)
    (I127_1 : (0 : Int) ≤ l4_127.toInt)
    (hm127 : 2147483648 - l4_127.toInt < (((N127) + 1 : Nat) : Int))
    (c131 : ¬ ((12 : Int) ≤ l4_127.toInt))
    (I137_0 : 0 ≤ l5_137.toInt ∧ l5_137.toInt ≤ 30)
    (I137_1 : l5_137.toInt = 0 ∨ 0 < (refA (G.2.1 (F a 10)) (l4_127.toInt) (p0.toInt)))
    (I137_2 : (0 : Int) ≤ l5_137.toInt)
    (hm137 : 2147483648 - l5_137.toInt < (((N137) + 1 : Nat) : Int))
    (c141 : (30 : Int) ≤ l5_137.toInt) :
    mw (G_137.2.1 (F a 1)) 0 = mvR (refA (G.2.1 (F a 10))) (refT (G.2.1 (F a 10))) (refC (G.2.1 (F a 10))) p0.toInt p1.toInt p2.toInt (rmv (mw (G.2.1 (F a 1)) 0) p0.toInt p1.toInt p2.toInt) (Int.toNat (l4_127.toInt + 1)) := by
  first
    | (rw [mvR_s (by omega), if_neg (by omega), rp, show l5_137.toInt = 0 from by omega, repl_0])
    | (rw [mvR_s (by omega), if_pos (by omega), rp, show l5_137.toInt = 30 from by omega])
theorem v_X11_rekey_245_17 {F : Nat → Nat → Nat} (a : Nat) (G_137 : XG)
    (rm : RM (G_137.2.1 (F a 1)) 0) :
    RM (G_137.2.1 (F a 1)) 0 := by
  exact rm
theorem v_X11_rekey_245_18 {K : Nat → Nat} {F : Nat → Nat → Nat} (a : Nat) (G : XG) (G6 : XG) (x119 : Int32) (G_137 : XG) (p0 : Int32) (p1 : Int32) (p2 : Int32) (l4_75 : Int32) (l4_127 : Int32) (l5_137 : Int32) (x10 : Int32) (x17 : Int32) (x24 : Int32) (x39 : Int32) (x55 : Int32) (N75 : Nat) (N127 : Nat) (N137 : Nat) (x148 : Int32)
    (ha : K a = 13)
    (rp : mw (G_137.2.1 (F a 1)) 0 = repl (mvR (refA (G.2.1 (F a 10))) (refT (G.2.1 (F a 10))) (refC (G.2.1 (F a 10))) p0.toInt p1.toInt p2.toInt (rmv (mw (G.2.1 (F a 1)) 0) p0.toInt p1.toInt p2.toInt) (Int.toNat (l4_127.toInt))) (refT (G.2.1 (F a 10)) (l4_127.toInt)) (refC (G.2.1 (F a 10)) (l4_127.toInt)) p1.toInt (if refA (G.2.1 (F a 10)) (l4_127.toInt) p0.toInt = 1 then p2.toInt else -1000) (l5_137.toInt))
    (am : 0 ≤ ((G.1 a 43).toInt) ∧ ((G.1 a 43).toInt) ≤ 2388)
    (t6 : ((G6.1 a 20).toInt) = -2147483648 ∧ ((G6.1 a 21).toInt) = -2147483648 ∧ ((G6.1 a 23).toInt) = 0)
    (t10 : (x10.toInt = 1 ∧ 0 ≤ p0.toInt ∧ p0.toInt ≤ 2) ∨ (x10.toInt = 0 ∧ (p0.toInt < 0 ∨ 2 < p0.toInt)))
    (c13 : ¬ (x10.toInt = 0))
    (t17 : (x17.toInt = 1 ∧ 0 ≤ p1.toInt ∧ p1.toInt ≤ 29) ∨ (x17.toInt = 0 ∧ (p1.toInt < 0 ∨ 29 < p1.toInt)))
    (c20 : ¬ (x17.toInt = 0))
    (t24 : (x24.toInt = 1 ∧ 0 ≤ p2.toInt ∧ p2.toInt ≤ 29) ∨ (x24.toInt = 0 ∧ (p2.toInt < 0 ∨ 29 < p2.toInt)))
    (c27 : x24.toInt ≠ 0)
    (z36 : 0 ≤ p0.toInt ∧ p0.toInt < 3)
    (z36a : 0 ≤ p1.toInt ∧ p1.toInt < 30)
    (z36b : 0 ≤ p2.toInt ∧ p2.toInt < 30)
    (t39 : (x39.toInt = 1 ∧ (cel (mw (G.2.1 (F a 1)) 0) (p0.toInt) (p1.toInt) 0) ≠ -2000) ∨ (x39.toInt = 0 ∧ (cel (mw (G.2.1 (F a 1)) 0) (p0.toInt) (p1.toInt) 0) = -2000))
    (c42 : x39.toInt ≠ 0)
    (t55 : (x55.toInt = 1 ∧ (cel (mw (G.2.1 (F a 1)) 0) (p0.toInt) (p2.toInt) 0) ≠ -2000) ∨ (x55.toInt = 0 ∧ (cel (mw (G.2.1 (F a 1)) 0) (p0.toInt) (p2.toInt) 0) = -2000))
    (c58 : x55.toInt = 0)
    (z68 : p1.toInt = p2.toInt → (cel (mw (G.2.1 (F a 1)) 0) (p0.toInt) (p1.toInt) 0) = (cel (mw (G.2.1 (F a 1)) 0) (p0.toInt) (p2.toInt) 0))
    (I75_0 : 0 ≤ l4_75.toInt ∧ l4_75.toInt ≤ 4)
    (I75_1 : (0 : Int) ≤ l4_75.toInt)
    (hm75 : 2147483648 - l4_75.toInt < (((N75) + 1 : Nat) : Int))
    (c78 : (4 : Int) ≤ l4_75.toInt)
    (t119 : 0 ≤ p0.toInt ∧ p0.toInt ≤ 2 ∧ 0 ≤ p1.toInt ∧ p1.toInt ≤ 29 → x119.toInt = 4 * (30 * p0.toInt + p1.toInt))
    (I127_0 : 0 ≤ l4_127.toInt ∧ l4_127.toInt ≤ 12)
    (I127_1 : (0 : Int) ≤ l4_127.toInt)
    (hm127 : 2147483648 - l4_127.toInt < (((N127) + 1 : Nat) : Int))
    (c131 : ¬ ((12 : Int) ≤ l4_127.toInt))
    (I137_0 : 0 ≤ l5_137.toInt ∧ l5_137.toInt ≤ 30)
    (I137_1 : l5_137.toInt = 0 ∨ 0 < (refA (G.2.1 (F a 10)) (l4_127.toInt) (p0.toInt)))
    (I137_2 : (0 : Int) ≤ l5_137.toInt)
    (hm137 : 2147483648 - l5_137.toInt < (((N137) + 1 : Nat) : Int))
    (c141 : ¬ ((30 : Int) ≤ l5_137.toInt))
    (t148 : (x148.toInt = 1 ∧ 0 < (refA (G.2.1 (F a 10)) (l4_127.toInt) (p0.toInt))) ∨ (x148.toInt = 0 ∧ ¬ (0 < (refA (G.2.1 (F a 10)) (l4_127.toInt) (p0.toInt)))))
    (c151 : x148.toInt = 0) :
    mw (G_137.2.1 (F a 1)) 0 = mvR (refA (G.2.1 (F a 10))) (refT (G.2.1 (F a 10))) (refC (G.2.1 (F a 10))) p0.toInt p1.toInt p2.toInt (rmv (mw (G.2.1 (F a 1)) 0) p0.toInt p1.toInt p2.toInt) (Int.toNat (l4_127.toInt + 1)) := by
  first
    | (rw [mvR_s (by omega), if_neg (by omega), rp, show l5_137.toInt = 0 from by omega, repl_0])
    | (rw [mvR_s (by omega), if_pos (by omega), rp, show l5_137.toInt = 30 from by omega])
theorem v_X11_rekey_245_19 {F : Nat → Nat → Nat} (a : Nat) (G_137 : XG)
    (rm : RM (G_137.2.1 (F a 1)) 0) :
    RM (G_137.2.1 (F a 1)) 0 := by
  exact rm
theorem v_X11_rekey_239_20 {K : Nat → Nat} {F : Nat → Nat → Nat} (a : Nat) (G : XG) (G6 : XG) (x119 : Int32) (G_137 : XG) (p0 : Int32) (p1 : Int32) (p2 : Int32) (l4_75 : Int32) (l4_127 : Int32) (l5_137 : Int32) (x10 : Int32) (x17 : Int32) (x24 : Int32) (x39 : Int32) (x55 : Int32) (N75 : Nat) (N127 : Nat) (N137 : Nat) (x148 : Int32) (x163 : Int32)
    (ha : K a = 13)
    (rp : mw (G_137.2.1 (F a 1)) 0 = repl (mvR (refA (G.2.1 (F a 10))) (refT (G.2.1 (F a 10))) (refC (G.2.1 (F a 10))) p0.toInt p1.toInt p2.toInt (rmv (mw (G.2.1 (F a 1)) 0) p0.toInt p1.toInt p2.toInt) (Int.toNat (l4_127.toInt))) (refT (G.2.1 (F a 10)) (l4_127.toInt)) (refC (G.2.1 (F a 10)) (l4_127.toInt)) p1.toInt (if refA (G.2.1 (F a 10)) (l4_127.toInt) p0.toInt = 1 then p2.toInt else -1000) (l5_137.toInt))
    (am : 0 ≤ ((G.1 a 43).toInt) ∧ ((G.1 a 43).toInt) ≤ 2388)
    (t6 : ((G6.1 a 20).toInt) = -2147483648 ∧ ((G6.1 a 21).toInt) = -2147483648 ∧ ((G6.1 a 23).toInt) = 0)
    (t10 : (x10.toInt = 1 ∧ 0 ≤ p0.toInt ∧ p0.toInt ≤ 2) ∨ (x10.toInt = 0 ∧ (p0.toInt < 0 ∨ 2 < p0.toInt)))
    (c13 : ¬ (x10.toInt = 0))
    (t17 : (x17.toInt = 1 ∧ 0 ≤ p1.toInt ∧ p1.toInt ≤ 29) ∨ (x17.toInt = 0 ∧ (p1.toInt < 0 ∨ 29 < p1.toInt)))
    (c20 : ¬ (x17.toInt = 0))
    (t24 : (x24.toInt = 1 ∧ 0 ≤ p2.toInt ∧ p2.toInt ≤ 29) ∨ (x24.toInt = 0 ∧ (p2.toInt < 0 ∨ 29 < p2.toInt)))
    (c27 : x24.toInt ≠ 0)
    (z36 : 0 ≤ p0.toInt ∧ p0.toInt < 3)
    (z36a : 0 ≤ p1.toInt ∧ p1.toInt < 30)
    (z36b : 0 ≤ p2.toInt ∧ p2.toInt < 30)
    (t39 : (x39.toInt = 1 ∧ (cel (mw (G.2.1 (F a 1)) 0) (p0.toInt) (p1.toInt) 0) ≠ -2000) ∨ (x39.toInt = 0 ∧ (cel (mw (G.2.1 (F a 1)) 0) (p0.toInt) (p1.toInt) 0) = -2000))
    (c42 : x39.toInt ≠ 0)
    (t55 : (x55.toInt = 1 ∧ (cel (mw (G.2.1 (F a 1)) 0) (p0.toInt) (p2.toInt) 0) ≠ -2000) ∨ (x55.toInt = 0 ∧ (cel (mw (G.2.1 (F a 1)) 0) (p0.toInt) (p2.toInt) 0) = -2000))
    (c58 : x55.toInt = 0)
    (z68 : p1.toInt = p2.toInt → (cel (mw (G.2.1 (F a 1)) 0) (p0.toInt) (p1.toInt) 0) = (cel (mw (G.2.1 (F a 1)) 0) (p0.toInt) (p2.toInt) 0))
    (I75_0 : 0 ≤ l4_75.toInt ∧ l4_75.toInt ≤ 4)
    (I75_1 : (0 : Int) ≤ l4_75.toInt)
    (hm75 : 2147483648 - l4_75.toInt < (((N75) + 1 : Nat) : Int))
    (c78 : (4 : Int) ≤ l4_75.toInt)
    (t119 : 0 ≤ p0.toInt ∧ p0.toInt ≤ 2 ∧ 0 ≤ p1.toInt ∧ p1.toInt ≤ 29 → x119.toInt = 4 * (30 * p0.toInt + p1.toInt))
    (I127_0 : 0 ≤ l4_127.toInt ∧ l4_127.toInt ≤ 12)
    (I127_1 : (0 : Int) ≤ l4_127.toInt)
    (hm127 : 2147483648 - l4_127.toInt < (((N127) + 1 : Nat) : Int))
    (c131 : ¬ ((12 : Int) ≤ l4_127.toInt))
    (I137_0 : 0 ≤ l5_137.toInt ∧ l5_137.toInt ≤ 30)
    (I137_1 : l5_137.toInt = 0 ∨ 0 < (refA (G.2.1 (F a 10)) (l4_127.toInt) (p0.toInt)))
    (I137_2 : (0 : Int) ≤ l5_137.toInt)
    (hm137 : 2147483648 - l5_137.toInt < (((N137) + 1 : Nat) : Int))
    (c141 : ¬ ((30 : Int) ≤ l5_137.toInt))
    (t148 : (x148.toInt = 1 ∧ 0 < (refA (G.2.1 (F a 10)) (l4_127.toInt) (p0.toInt))) ∨ (x148.toInt = 0 ∧ ¬ (0 < (refA (G.2.1 (F a 10)) (l4_127.toInt) (p0.toInt)))))
    (c151 : ¬ (x148.toInt = 0))
    (z154 : ((0 ≤ l4_127.toInt ∧ l4_127.toInt < 12 ∧ (aI (G.2.1 (F a 10)) (10 * l4_127.toInt + 0)) = 1 ∧ (aI (G.2.1 (F a 10)) (10 * l4_127.toInt + 3)) = p0.toInt) ∧ (refA (G.2.1 (F a 10)) (l4_127.toInt) (p0.toInt)) = (aI (G.2.1 (F a 10)) (10 * l4_127.toInt + 8))) ∨ (¬ (0 ≤ l4_127.toInt ∧ l4_127.toInt < 12 ∧ (aI (G.2.1 (F a 10)) (10 * l4_127.toInt + 0)) = 1 ∧ (aI (G.2.1 (F a 10)) (10 * l4_127.toInt + 3)) = p0.toInt) ∧ (refA (G.2.1 (F a 10)) (l4_127.toInt) (p0.toInt)) = 0))
    (z154a : (-1 ≤ (aI (G.2.1 (F a 10)) (10 * l4_127.toInt + 0)) ∧ (aI (G.2.1 (F a 10)) (10 * l4_127.toInt + 0)) ≤ 5) ∧ (0 ≤ (aI (G.2.1 (F a 10)) (10 * l4_127.toInt + 1)) ∧ (aI (G.2.1 (F a 10)) (10 * l4_127.toInt + 1)) ≤ 2) ∧ (0 ≤ (aI (G.2.1 (F a 10)) (10 * l4_127.toInt + 2)) ∧ (aI (G.2.1 (F a 10)) (10 * l4_127.toInt + 2)) ≤ 2))
    (t163 : 0 ≤ (aI (G.2.1 (F a 10)) (10 * l4_127.toInt + 1)) ∧ (aI (G.2.1 (F a 10)) (10 * l4_127.toInt + 1)) ≤ 2 ∧ 0 ≤ l5_137.toInt ∧ l5_137.toInt ≤ 29 → x163.toInt = 4 * (30 * (aI (G.2.1 (F a 10)) (10 * l4_127.toInt + 1)) + l5_137.toInt))
    (z168 : ((aI (G_137.2.1 (F a 1)) (0 + 4 * (30 * (aI (G.2.1 (F a 10)) (10 * l4_127.toInt + 1)) + l5_137.toInt))) = 0 ∧ (cel (mw (G_137.2.1 (F a 1)) 0) (aI (G.2.1 (F a 10)) (10 * l4_127.toInt + 1)) (l5_137.toInt) (aI (G.2.1 (F a 10)) (10 * l4_127.toInt + 2))) = -2000) ∨ ((aI (G_137.2.1 (F a 1)) (0 + 4 * (30 * (aI (G.2.1 (F a 10)) (10 * l4_127.toInt + 1)) + l5_137.toInt))) = 1 ∧ (cel (mw (G_137.2.1 (F a 1)) 0) (aI (G.2.1 (F a 10)) (10 * l4_127.toInt + 1)) (l5_137.toInt) (aI (G.2.1 (F a 10)) (10 * l4_127.toInt + 2))) = (aI (G_137.2.1 (F a 1)) (0 + 4 * (30 * (aI (G.2.1 (F a 10)) (10 * l4_127.toInt + 1)) + l5_137.toInt) + 1 + (aI (G.2.1 (F a 10)) (10 * l4_127.toInt + 2))))))
    (c176 : (aI (G_137.2.1 (F a 1)) (0 + 4 * (30 * (aI (G.2.1 (F a 10)) (10 * l4_127.toInt + 1)) + l5_137.toInt))) ≠ (1 : Int)) :
    mw (G_137.2.1 (F a 1)) 0 = repl (mvR (refA (G.2.1 (F a 10))) (refT (G.2.1 (F a 10))) (refC (G.2.1 (F a 10))) p0.toInt p1.toInt p2.toInt (rmv (mw (G.2.1 (F a 1)) 0) p0.toInt p1.toInt p2.toInt) (Int.toNat (l4_127.toInt))) (refT (G.2.1 (F a 10)) (l4_127.toInt)) (refC (G.2.1 (F a 10)) (l4_127.toInt)) p1.toInt (if refA (G.2.1 (F a 10)) (l4_127.toInt) p0.toInt = 1 then p2.toInt else -1000) (l5_137.toInt + 1) := by
  have rf := refT_f (f := G.2.1 (F a 10)) (r := l4_127.toInt) (t := p0.toInt) (by omega)
  rw [rf.2.1, rf.2.2.1] at rp ⊢
  have ec : cel (mw (G_137.2.1 (F a 1)) 0) (aI (G.2.1 (F a 10)) (10 * l4_127.toInt + 1)) (l5_137.toInt) (aI (G.2.1 (F a 10)) (10 * l4_127.toInt + 2)) = (mvR (refA (G.2.1 (F a 10))) (refT (G.2.1 (F a 10))) (refC (G.2.1 (F a 10))) p0.toInt p1.toInt p2.toInt (rmv (mw (G.2.1 (F a 1)) 0) p0.toInt p1.toInt p2.toInt) (Int.toNat (l4_127.toInt))) (90 * aI (G.2.1 (F a 10)) (10 * l4_127.toInt + 1) + 30 * aI (G.2.1 (F a 10)) (10 * l4_127.toInt + 2) + l5_137.toInt) := by
    rw [rp, cel_in (by omega), repl_at (Int.le_refl _)]
  rw [repl_2 (by omega)]
  exact rp
theorem v_X11_rekey_239_21 {F : Nat → Nat → Nat} (a : Nat) (G_137 : XG)
    (rm : RM (G_137.2.1 (F a 1)) 0) :
    RM (G_137.2.1 (F a 1)) 0 := by
  exact rm
theorem v_X11_rekey_239_22 {K : Nat → Nat} {F : Nat → Nat → Nat} (a : Nat) (G : XG) (G6 : XG) (x119 : Int32) (G_137 : XG) (p0 : Int32) (p1 : Int32) (p2 : Int32) (l4_75 : Int32) (l4_127 : Int32) (l5_137 : Int32) (x10 : Int32) (x17 : Int32) (x24 : Int32) (x39 : Int32) (x55 : Int32) (N75 : Nat) (N127 : Nat) (N137 : Nat) (x148 : Int32) (x163 : Int32)
    (ha : K a = 13)
    (rp : mw (G_137.2.1 (F a 1)) 0 = repl (mvR (refA (G.2.1 (F a 10))) (refT (G.2.1 (F a 10))) (refC (G.2.1 (F a 10))) p0.toInt p1.toInt p2.toInt (rmv (mw (G.2.1 (F a 1)) 0) p0.toInt p1.toInt p2.toInt) (Int.toNat (l4_127.toInt))) (refT (G.2.1 (F a 10)) (l4_127.toInt)) (refC (G.2.1 (F a 10)) (l4_127.toInt)) p1.toInt (if refA (G.2.1 (F a 10)) (l4_127.toInt) p0.toInt = 1 then p2.toInt else -1000) (l5_137.toInt))
    (am : 0 ≤ ((G.1 a 43).toInt) ∧ ((G.1 a 43).toInt) ≤ 2388)
    (t6 : ((G6.1 a 20).toInt) = -2147483648 ∧ ((G6.1 a 21).toInt) = -2147483648 ∧ ((G6.1 a 23).toInt) = 0)
    (t10 : (x10.toInt = 1 ∧ 0 ≤ p0.toInt ∧ p0.toInt ≤ 2) ∨ (x10.toInt = 0 ∧ (p0.toInt < 0 ∨ 2 < p0.toInt)))
    (c13 : ¬ (x10.toInt = 0))
    (t17 : (x17.toInt = 1 ∧ 0 ≤ p1.toInt ∧ p1.toInt ≤ 29) ∨ (x17.toInt = 0 ∧ (p1.toInt < 0 ∨ 29 < p1.toInt)))
    (c20 : ¬ (x17.toInt = 0))
    (t24 : (x24.toInt = 1 ∧ 0 ≤ p2.toInt ∧ p2.toInt ≤ 29) ∨ (x24.toInt = 0 ∧ (p2.toInt < 0 ∨ 29 < p2.toInt)))
    (c27 : x24.toInt ≠ 0)
    (z36 : 0 ≤ p0.toInt ∧ p0.toInt < 3)
    (z36a : 0 ≤ p1.toInt ∧ p1.toInt < 30)
    (z36b : 0 ≤ p2.toInt ∧ p2.toInt < 30)
    (t39 : (x39.toInt = 1 ∧ (cel (mw (G.2.1 (F a 1)) 0) (p0.toInt) (p1.toInt) 0) ≠ -2000) ∨ (x39.toInt = 0 ∧ (cel (mw (G.2.1 (F a 1)) 0) (p0.toInt) (p1.toInt) 0) = -2000))
    (c42 : x39.toInt ≠ 0)
    (t55 : (x55.toInt = 1 ∧ (cel (mw (G.2.1 (F a 1)) 0) (p0.toInt) (p2.toInt) 0) ≠ -2000) ∨ (x55.toInt = 0 ∧ (cel (mw (G.2.1 (F a 1)) 0) (p0.toInt) (p2.toInt) 0) = -2000))
    (c58 : x55.toInt = 0)
    (z68 : p1.toInt = p2.toInt → (cel (mw (G.2.1 (F a 1)) 0) (p0.toInt) (p1.toInt) 0) = (cel (mw (G.2.1 (F a 1)) 0) (p0.toInt) (p2.toInt) 0))
    (I75_0 : 0 ≤ l4_75.toInt ∧ l4_75.toInt ≤ 4)
    (I75_1 : (0 : Int) ≤ l4_75.toInt)
    (hm75 : 2147483648 - l4_75.toInt < (((N75) + 1 : Nat) : Int))
    (c78 : (4 : Int) ≤ l4_75.toInt)
    (t119 : 0 ≤ p0.toInt ∧ p0.toInt ≤ 2 ∧ 0 ≤ p1.toInt ∧ p1.toInt ≤ 29 → x119.toInt = 4 * (30 * p0.toInt + p1.toInt))
    (I127_0 : 0 ≤ l4_127.toInt ∧ l4_127.toInt ≤ 12)
    (I127_1 : (0 : Int) ≤ l4_127.toInt)
    (hm127 : 2147483648 - l4_127.toInt < (((N127) + 1 : Nat) : Int))
    (c131 : ¬ ((12 : Int) ≤ l4_127.toInt))
    (I137_0 : 0 ≤ l5_137.toInt ∧ l5_137.toInt ≤ 30)
    (I137_1 : l5_137.toInt = 0 ∨ 0 < (refA (G.2.1 (F a 10)) (l4_127.toInt) (p0.toInt)))
    (I137_2 : (0 : Int) ≤ l5_137.toInt)
    (hm137 : 2147483648 - l5_137.toInt < (((N137) + 1 : Nat) : Int))
    (c141 : ¬ ((30 : Int) ≤ l5_137.toInt))
    (t148 : (x148.toInt = 1 ∧ 0 < (refA (G.2.1 (F a 10)) (l4_127.toInt) (p0.toInt))) ∨ (x148.toInt = 0 ∧ ¬ (0 < (refA (G.2.1 (F a 10)) (l4_127.toInt) (p0.toInt)))))
    (c151 : ¬ (x148.toInt = 0))
    (z154 : ((0 ≤ l4_127.toInt ∧ l4_127.toInt < 12 ∧ (aI (G.2.1 (F a 10)) (10 * l4_127.toInt + 0)) = 1 ∧ (aI (G.2.1 (F a 10)) (10 * l4_127.toInt + 3)) = p0.toInt) ∧ (refA (G.2.1 (F a 10)) (l4_127.toInt) (p0.toInt)) = (aI (G.2.1 (F a 10)) (10 * l4_127.toInt + 8))) ∨ (¬ (0 ≤ l4_127.toInt ∧ l4_127.toInt < 12 ∧ (aI (G.2.1 (F a 10)) (10 * l4_127.toInt + 0)) = 1 ∧ (aI (G.2.1 (F a 10)) (10 * l4_127.toInt + 3)) = p0.toInt) ∧ (refA (G.2.1 (F a 10)) (l4_127.toInt) (p0.toInt)) = 0))
    (z154a : (-1 ≤ (aI (G.2.1 (F a 10)) (10 * l4_127.toInt + 0)) ∧ (aI (G.2.1 (F a 10)) (10 * l4_127.toInt + 0)) ≤ 5) ∧ (0 ≤ (aI (G.2.1 (F a 10)) (10 * l4_127.toInt + 1)) ∧ (aI (G.2.1 (F a 10)) (10 * l4_127.toInt + 1)) ≤ 2) ∧ (0 ≤ (aI (G.2.1 (F a 10)) (10 * l4_127.toInt + 2)) ∧ (aI (G.2.1 (F a 10)) (10 * l4_127.toInt + 2)) ≤ 2))
    (t163 : 0 ≤ (aI (G.2.1 (F a 10)) (10 * l4_127.toInt + 1)) ∧ (aI (G.2.1 (F a 10)) (10 * l4_127.toInt + 1)) ≤ 2 ∧ 0 ≤ l5_137.toInt ∧ l5_137.toInt ≤ 29 → x163.toInt = 4 * (30 * (aI (G.2.1 (F a 10)) (10 * l4_127.toInt + 1)) + l5_137.toInt))
    (z168 : ((aI (G_137.2.1 (F a 1)) (0 + 4 * (30 * (aI (G.2.1 (F a 10)) (10 * l4_127.toInt + 1)) + l5_137.toInt))) = 0 ∧ (cel (mw (G_137.2.1 (F a 1)) 0) (aI (G.2.1 (F a 10)) (10 * l4_127.toInt + 1)) (l5_137.toInt) (aI (G.2.1 (F a 10)) (10 * l4_127.toInt + 2))) = -2000) ∨ ((aI (G_137.2.1 (F a 1)) (0 + 4 * (30 * (aI (G.2.1 (F a 10)) (10 * l4_127.toInt + 1)) + l5_137.toInt))) = 1 ∧ (cel (mw (G_137.2.1 (F a 1)) 0) (aI (G.2.1 (F a 10)) (10 * l4_127.toInt + 1)) (l5_137.toInt) (aI (G.2.1 (F a 10)) (10 * l4_127.toInt + 2))) = (aI (G_137.2.1 (F a 1)) (0 + 4 * (30 * (aI (G.2.1 (F a 10)) (10 * l4_127.toInt + 1)) + l5_137.toInt) + 1 + (aI (G.2.1 (F a 10)) (10 * l4_127.toInt + 2))))))
    (c176 : ¬ ((aI (G_137.2.1 (F a 1)) (0 + 4 * (30 * (aI (G.2.1 (F a 10)) (10 * l4_127.toInt + 1)) + l5_137.toInt))) ≠ (1 : Int)))
    (c197 : (aI (G_137.2.1 (F a 1)) (0 + 4 * (30 * (aI (G.2.1 (F a 10)) (10 * l4_127.toInt + 1)) + l5_137.toInt) + 1 + (aI (G.2.1 (F a 10)) (10 * l4_127.toInt + 2)))) ≠ p1.toInt) :
    mw (G_137.2.1 (F a 1)) 0 = repl (mvR (refA (G.2.1 (F a 10))) (refT (G.2.1 (F a 10))) (refC (G.2.1 (F a 10))) p0.toInt p1.toInt p2.toInt (rmv (mw (G.2.1 (F a 1)) 0) p0.toInt p1.toInt p2.toInt) (Int.toNat (l4_127.toInt))) (refT (G.2.1 (F a 10)) (l4_127.toInt)) (refC (G.2.1 (F a 10)) (l4_127.toInt)) p1.toInt (if refA (G.2.1 (F a 10)) (l4_127.toInt) p0.toInt = 1 then p2.toInt else -1000) (l5_137.toInt + 1) := by
  have rf := refT_f (f := G.2.1 (F a 10)) (r := l4_127.toInt) (t := p0.toInt) (by omega)
  rw [rf.2.1, rf.2.2.1] at rp ⊢
  have ec : cel (mw (G_137.2.1 (F a 1)) 0) (aI (G.2.1 (F a 10)) (10 * l4_127.toInt + 1)) (l5_137.toInt) (aI (G.2.1 (F a 10)) (10 * l4_127.toInt + 2)) = (mvR (refA (G.2.1 (F a 10))) (refT (G.2.1 (F a 10))) (refC (G.2.1 (F a 10))) p0.toInt p1.toInt p2.toInt (rmv (mw (G.2.1 (F a 1)) 0) p0.toInt p1.toInt p2.toInt) (Int.toNat (l4_127.toInt))) (90 * aI (G.2.1 (F a 10)) (10 * l4_127.toInt + 1) + 30 * aI (G.2.1 (F a 10)) (10 * l4_127.toInt + 2) + l5_137.toInt) := by
    rw [rp, cel_in (by omega), repl_at (Int.le_refl _)]
  rw [repl_2 (by omega)]
  exact rp
theorem v_X11_rekey_239_23 {F : Nat → Nat → Nat} (a : Nat) (G_137 : XG)
    (rm : RM (G_137.2.1 (F a 1)) 0) :
    RM (G_137.2.1 (F a 1)) 0 := by
  exact rm
theorem v_X11_rekey_239_24 {K : Nat → Nat} {F : Nat → Nat → Nat} (a : Nat) (G : XG) (G6 : XG) (x119 : Int32) (G_137 : XG) (G235 : XG) (x215 : Int32) (p0 : Int32) (p1 : Int32) (p2 : Int32) (l4_75 : Int32) (l4_127 : Int32) (l5_137 : Int32) (x10 : Int32) (x17 : Int32) (x24 : Int32) (x39 : Int32) (x55 : Int32) (N75 : Nat) (N127 : Nat) (N137 : Nat) (x148 : Int32) (x163 : Int32) (x207 : Int32)
    (ha : K a = 13)
    (hG235 : G235 = cput G_137 (F a 1) x215.toNatClampNeg (-1000))
    (rp : mw (G_137.2.1 (F a 1)) 0 = repl (mvR (refA (G.2.1 (F a 10))) (refT (G.2.1 (F a 10))) (refC (G.2.1 (F a 10))) p0.toInt p1.toInt p2.toInt (rmv (mw (G.2.1 (F a 1)) 0) p0.toInt p1.toInt p2.toInt) (Int.toNat (l4_127.toInt))) (refT (G.2.1 (F a 10)) (l4_127.toInt)) (refC (G.2.1 (F a 10)) (l4_127.toInt)) p1.toInt (if refA (G.2.1 (F a 10)) (l4_127.toInt) p0.toInt = 1 then p2.toInt else -1000) (l5_137.toInt))
    (am : 0 ≤ ((G.1 a 43).toInt) ∧ ((G.1 a 43).toInt) ≤ 2388)
    (t6 : ((G6.1 a 20).toInt) = -2147483648 ∧ ((G6.1 a 21).toInt) = -2147483648 ∧ ((G6.1 a 23).toInt) = 0)
    (t10 : (x10.toInt = 1 ∧ 0 ≤ p0.toInt ∧ p0.toInt ≤ 2) ∨ (x10.toInt = 0 ∧ (p0.toInt < 0 ∨ 2 < p0.toInt)))
    (c13 : ¬ (x10.toInt = 0))
    (t17 : (x17.toInt = 1 ∧ 0 ≤ p1.toInt ∧ p1.toInt ≤ 29) ∨ (x17.toInt = 0 ∧ (p1.toInt < 0 ∨ 29 < p1.toInt)))
    (c20 : ¬ (x17.toInt = 0))
    (t24 : (x24.toInt = 1 ∧ 0 ≤ p2.toInt ∧ p2.toInt ≤ 29) ∨ (x24.toInt = 0 ∧ (p2.toInt < 0 ∨ 29 < p2.toInt)))
    (c27 : x24.toInt ≠ 0)
    (z36 : 0 ≤ p0.toInt ∧ p0.toInt < 3)
    (z36a : 0 ≤ p1.toInt ∧ p1.toInt < 30)
    (z36b : 0 ≤ p2.toInt ∧ p2.toInt < 30)
    (t39 : (x39.toInt = 1 ∧ (cel (mw (G.2.1 (F a 1)) 0) (p0.toInt) (p1.toInt) 0) ≠ -2000) ∨ (x39.toInt = 0 ∧ (cel (mw (G.2.1 (F a 1)) 0) (p0.toInt) (p1.toInt) 0) = -2000))
    (c42 : x39.toInt ≠ 0)
    (t55 : (x55.toInt = 1 ∧ (cel (mw (G.2.1 (F a 1)) 0) (p0.toInt) (p2.toInt) 0) ≠ -2000) ∨ (x55.toInt = 0 ∧ (cel (mw (G.2.1 (F a 1)) 0) (p0.toInt) (p2.toInt) 0) = -2000))
    (c58 : x55.toInt = 0)
    (z68 : p1.toInt = p2.toInt → (cel (mw (G.2.1 (F a 1)) 0) (p0.toInt) (p1.toInt) 0) = (cel (mw (G.2.1 (F a 1)) 0) (p0.toInt) (p2.toInt) 0))
    (I75_0 : 0 ≤ l4_75.toInt ∧ l4_75.toInt ≤ 4)
    (I75_1 : (0 : Int) ≤ l4_75.toInt)
    (hm75 : 2147483648 - l4_75.toInt < (((N75) + 1 : Nat) : Int))
    (c78 : (4 : Int) ≤ l4_75.toInt)
    (t119 : 0 ≤ p0.toInt ∧ p0.toInt ≤ 2 ∧ 0 ≤ p1.toInt ∧ p1.toInt ≤ 29 → x119.toInt = 4 * (30 * p0.toInt + p1.toInt))
    (I127_0 : 0 ≤ l4_127.toInt ∧ l4_127.toInt ≤ 12)
    (I127_1 : (0 : Int) ≤ l4_127.toInt)
    (hm127 : 2147483648 - l4_127.toInt < (((N127) + 1 : Nat) : Int))
    (c131 : ¬ ((12 : Int) ≤ l4_127.toInt))
    (I137_0 : 0 ≤ l5_137.toInt ∧ l5_137.toInt ≤ 30)
    (I137_1 : l5_137.toInt = 0 ∨ 0 < (refA (G.2.1 (F a 10)) (l4_127.toInt) (p0.toInt)))
    (I137_2 : (0 : Int) ≤ l5_137.toInt)
    (hm137 : 2147483648 - l5_137.toInt < (((N137) + 1 : Nat) : Int))
    (c141 : ¬ ((30 : Int) ≤ l5_137.toInt))
    (t148 : (x148.toInt = 1 ∧ 0 < (refA (G.2.1 (F a 10)) (l4_127.toInt) (p0.toInt))) ∨ (x148.toInt = 0 ∧ ¬ (0 < (refA (G.2.1 (F a 10)) (l4_127.toInt) (p0.toInt)))))
    (c151 : ¬ (x148.toInt = 0))
    (z154 : ((0 ≤ l4_127.toInt ∧ l4_127.toInt < 12 ∧ (aI (G.2.1 (F a 10)) (10 * l4_127.toInt + 0)) = 1 ∧ (aI (G.2.1 (F a 10)) (10 * l4_127.toInt + 3)) = p0.toInt) ∧ (refA (G.2.1 (F a 10)) (l4_127.toInt) (p0.toInt)) = (aI (G.2.1 (F a 10)) (10 * l4_127.toInt + 8))) ∨ (¬ (0 ≤ l4_127.toInt ∧ l4_127.toInt < 12 ∧ (aI (G.2.1 (F a 10)) (10 * l4_127.toInt + 0)) = 1 ∧ (aI (G.2.1 (F a 10)) (10 * l4_127.toInt + 3)) = p0.toInt) ∧ (refA (G.2.1 (F a 10)) (l4_127.toInt) (p0.toInt)) = 0))
    (z154a : (-1 ≤ (aI (G.2.1 (F a 10)) (10 * l4_127.toInt + 0)) ∧ (aI (G.2.1 (F a 10)) (10 * l4_127.toInt + 0)) ≤ 5) ∧ (0 ≤ (aI (G.2.1 (F a 10)) (10 * l4_127.toInt + 1)) ∧ (aI (G.2.1 (F a 10)) (10 * l4_127.toInt + 1)) ≤ 2) ∧ (0 ≤ (aI (G.2.1 (F a 10)) (10 * l4_127.toInt + 2)) ∧ (aI (G.2.1 (F a 10)) (10 * l4_127.toInt + 2)) ≤ 2))
    (t163 : 0 ≤ (aI (G.2.1 (F a 10)) (10 * l4_127.toInt + 1)) ∧ (aI (G.2.1 (F a 10)) (10 * l4_127.toInt + 1)) ≤ 2 ∧ 0 ≤ l5_137.toInt ∧ l5_137.toInt ≤ 29 → x163.toInt = 4 * (30 * (aI (G.2.1 (F a 10)) (10 * l4_127.toInt + 1)) + l5_137.toInt))
    (z168 : ((aI (G_137.2.1 (F a 1)) (0 + 4 * (30 * (aI (G.2.1 (F a 10)) (10 * l4_127.toInt + 1)) + l5_137.toInt))) = 0 ∧ (cel (mw (G_137.2.1 (F a 1)) 0) (aI (G.2.1 (F a 10)) (10 * l4_127.toInt + 1)) (l5_137.toInt) (aI (G.2.1 (F a 10)) (10 * l4_127.toInt + 2))) = -2000) ∨ ((aI (G_137.2.1 (F a 1)) (0 + 4 * (30 * (aI (G.2.1 (F a 10)) (10 * l4_127.toInt + 1)) + l5_137.toInt))) = 1 ∧ (cel (mw (G_137.2.1 (F a 1)) 0) (aI (G.2.1 (F a 10)) (10 * l4_127.toInt + 1)) (l5_137.toInt) (aI (G.2.1 (F a 10)) (10 * l4_127.toInt + 2))) = (aI (G_137.2.1 (F a 1)) (0 + 4 * (30 * (aI (G.2.1 (F a 10)) (10 * l4_127.toInt + 1)) + l5_137.toInt) + 1 + (aI (G.2.1 (F a 10)) (10 * l4_127.toInt + 2))))))
    (c176 : ¬ ((aI (G_137.2.1 (F a 1)) (0 + 4 * (30 * (aI (G.2.1 (F a 10)) (10 * l4_127.toInt + 1)) + l5_137.toInt))) ≠ (1 : Int)))
    (c197 : ¬ ((aI (G_137.2.1 (F a 1)) (0 + 4 * (30 * (aI (G.2.1 (F a 10)) (10 * l4_127.toInt + 1)) + l5_137.toInt) + 1 + (aI (G.2.1 (F a 10)) (10 * l4_127.toInt + 2)))) ≠ p1.toInt))
    (t207 : x207.toInt = x163.toInt + (1 : Int) ∨ x163.toInt + (1 : Int) < -2147483648 ∨ 2147483648 ≤ x163.toInt + (1 : Int))
    (t215 : x215.toInt = x207.toInt + (aI (G.2.1 (F a 10)) (10 * l4_127.toInt + 2)) ∨ x207.toInt + (aI (G.2.1 (F a 10)) (10 * l4_127.toInt + 2)) < -2147483648 ∨ 2147483648 ≤ x207.toInt + (aI (G.2.1 (F a 10)) (10 * l4_127.toInt + 2)))
    (c225 : (aI (G.2.1 (F a 10)) (10 * l4_127.toInt + 8)) ≠ (1 : Int)) :
    mw (G235.2.1 (F a 1)) 0 = repl (mvR (refA (G.2.1 (F a 10))) (refT (G.2.1 (F a 10))) (refC (G.2.1 (F a 10))) p0.toInt p1.toInt p2.toInt (rmv (mw (G.2.1 (F a 1)) 0) p0.toInt p1.toInt p2.toInt) (Int.toNat (l4_127.toInt))) (refT (G.2.1 (F a 10)) (l4_127.toInt)) (refC (G.2.1 (F a 10)) (l4_127.toInt)) p1.toInt (if refA (G.2.1 (F a 10)) (l4_127.toInt) p0.toInt = 1 then p2.toInt else -1000) (l5_137.toInt + 1) := by
  have rf := refT_f (f := G.2.1 (F a 10)) (r := l4_127.toInt) (t := p0.toInt) (by omega)
  rw [rf.2.1, rf.2.2.1] at rp ⊢
  have ec : cel (mw (G_137.2.1 (F a 1)) 0) (aI (G.2.1 (F a 10)) (10 * l4_127.toInt + 1)) (l5_137.toInt) (aI (G.2.1 (F a 10)) (10 * l4_127.toInt + 2)) = (mvR (refA (G.2.1 (F a 10))) (refT (G.2.1 (F a 10))) (refC (G.2.1 (F a 10))) p0.toInt p1.toInt p2.toInt (rmv (mw (G.2.1 (F a 1)) 0) p0.toInt p1.toInt p2.toInt) (Int.toNat (l4_127.toInt))) (90 * aI (G.2.1 (F a 10)) (10 * l4_127.toInt + 1) + 30 * aI (G.2.1 (F a 10)) (10 * l4_127.toInt + 2) + l5_137.toInt) := by
    rw [rp, cel_in (by omega), repl_at (Int.le_refl _)]
  first
    | (have e1 := mw_set (b := 0) (t := aI (G.2.1 (F a 10)) (10 * l4_127.toInt + 1)) (k := l5_137.toInt) (c := aI (G.2.1 (F a 10)) (10 * l4_127.toInt + 2)) (by omega) (by decide) (by omega) (aI_pu hG235 rfl rfl rfl (by omega)) (by omega)
       rw [e1, rp]
       rw [if_pos (by omega), repl_1 (by omega) (by omega)])
    | (have e1 := mw_set (b := 0) (t := aI (G.2.1 (F a 10)) (10 * l4_127.toInt + 1)) (k := l5_137.toInt) (c := aI (G.2.1 (F a 10)) (10 * l4_127.toInt + 2)) (by omega) (by decide) (by omega) (aI_pu hG235 rfl rfl (show ((-1000 : Int32)).toInt = -1000 from by decide) (by omega)) (by omega)
       rw [e1, rp]
       rw [if_neg (by omega), repl_1 (by omega) (by omega)])
theorem v_X11_rekey_239_25 {K : Nat → Nat} {F : Nat → Nat → Nat} (a : Nat) (G : XG) (G6 : XG) (x119 : Int32) (G_137 : XG) (G235 : XG) (x215 : Int32) (p0 : Int32) (p1 : Int32) (p2 : Int32) (l4_75 : Int32) (l4_127 : Int32) (l5_137 : Int32) (x10 : Int32) (x17 : Int32) (x24 : Int32) (x39 : Int32) (x55 : Int32) (N75 : Nat) (N127 : Nat) (N137 : Nat) (x148 : Int32) (x163 : Int32) (x207 : Int32)
    (ha : K a = 13)
    (hG235 : G235 = cput G_137 (F a 1) x215.toNatClampNeg (-1000))
    (rm : RM (G_137.2.1 (F a 1)) 0)
    (am : 0 ≤ ((G.1 a 43).toInt) ∧ ((G.1 a 43).toInt) ≤ 2388)
    (t6 : ((G6.1 a 20).toInt) = -2147483648 ∧ ((G6.1 a 21).toInt) = -2147483648 ∧ ((G6.1 a 23).toInt) = 0)
    (t10 : (x10.toInt = 1 ∧ 0 ≤ p0.toInt ∧ p0.toInt ≤ 2) ∨ (x10.toInt = 0 ∧ (p0.toInt < 0 ∨ 2 < p0.toInt)))
    (c13 : ¬ (x10.toInt = 0))
    (t17 : (x17.toInt = 1 ∧ 0 ≤ p1.toInt ∧ p1.toInt ≤ 29) ∨ (x17.toInt = 0 ∧ (p1.toInt < 0 ∨ 29 < p1.toInt)))
    (c20 : ¬ (x17.toInt = 0))
    (t24 : (x24.toInt = 1 ∧ 0 ≤ p2.toInt ∧ p2.toInt ≤ 29) ∨ (x24.toInt = 0 ∧ (p2.toInt < 0 ∨ 29 < p2.toInt)))
    (c27 : x24.toInt ≠ 0)
    (z36 : 0 ≤ p0.toInt ∧ p0.toInt < 3)
    (z36a : 0 ≤ p1.toInt ∧ p1.toInt < 30)
    (z36b : 0 ≤ p2.toInt ∧ p2.toInt < 30)
    (t39 : (x39.toInt = 1 ∧ (cel (mw (G.2.1 (F a 1)) 0) (p0.toInt) (p1.toInt) 0) ≠ -2000) ∨ (x39.toInt = 0 ∧ (cel (mw (G.2.1 (F a 1)) 0) (p0.toInt) (p1.toInt) 0) = -2000))
    (c42 : x39.toInt ≠ 0)
    (t55 : (x55.toInt = 1 ∧ (cel (mw (G.2.1 (F a 1)) 0) (p0.toInt) (p2.toInt) 0) ≠ -2000) ∨ (x55.toInt = 0 ∧ (cel (mw (G.2.1 (F a 1)) 0) (p0.toInt) (p2.toInt) 0) = -2000))
    (c58 : x55.toInt = 0)
    (z68 : p1.toInt = p2.toInt → (cel (mw (G.2.1 (F a 1)) 0) (p0.toInt) (p1.toInt) 0) = (cel (mw (G.2.1 (F a 1)) 0) (p0.toInt) (p2.toInt) 0))
    (I75_0 : 0 ≤ l4_75.toInt ∧ l4_75.toInt ≤ 4)
    (I75_1 : (0 : Int) ≤ l4_75.toInt)
    (hm75 : 2147483648 - l4_75.toInt < (((N75) + 1 : Nat) : Int))
    (c78 : (4 : Int) ≤ l4_75.toInt)
    (t119 : 0 ≤ p0.toInt ∧ p0.toInt ≤ 2 ∧ 0 ≤ p1.toInt ∧ p1.toInt ≤ 29 → x119.toInt = 4 * (30 * p0.toInt + p1.toInt))
    (I127_0 : 0 ≤ l4_127.toInt ∧ l4_127.toInt ≤ 12)
    (I127_1 : (0 : Int) ≤ l4_127.toInt)
    (hm127 : 2147483648 - l4_127.toInt < (((N127) + 1 : Nat) : Int))
    (c131 : ¬ ((12 : Int) ≤ l4_127.toInt))
    (I137_0 : 0 ≤ l5_137.toInt ∧ l5_137.toInt ≤ 30)
    (I137_1 : l5_137.toInt = 0 ∨ 0 < (refA (G.2.1 (F a 10)) (l4_127.toInt) (p0.toInt)))
    (I137_2 : (0 : Int) ≤ l5_137.toInt)
    (hm137 : 2147483648 - l5_137.toInt < (((N137) + 1 : Nat) : Int))
    (c141 : ¬ ((30 : Int) ≤ l5_137.toInt))
    (t148 : (x148.toInt = 1 ∧ 0 < (refA (G.2.1 (F a 10)) (l4_127.toInt) (p0.toInt))) ∨ (x148.toInt = 0 ∧ ¬ (0 < (refA (G.2.1 (F a 10)) (l4_127.toInt) (p0.toInt)))))
    (c151 : ¬ (x148.toInt = 0))
    (z154 : ((0 ≤ l4_127.toInt ∧ l4_127.toInt < 12 ∧ (aI (G.2.1 (F a 10)) (10 * l4_127.toInt + 0)) = 1 ∧ (aI (G.2.1 (F a 10)) (10 * l4_127.toInt + 3)) = p0.toInt) ∧ (refA (G.2.1 (F a 10)) (l4_127.toInt) (p0.toInt)) = (aI (G.2.1 (F a 10)) (10 * l4_127.toInt + 8))) ∨ (¬ (0 ≤ l4_127.toInt ∧ l4_127.toInt < 12 ∧ (aI (G.2.1 (F a 10)) (10 * l4_127.toInt + 0)) = 1 ∧ (aI (G.2.1 (F a 10)) (10 * l4_127.toInt + 3)) = p0.toInt) ∧ (refA (G.2.1 (F a 10)) (l4_127.toInt) (p0.toInt)) = 0))
    (z154a : (-1 ≤ (aI (G.2.1 (F a 10)) (10 * l4_127.toInt + 0)) ∧ (aI (G.2.1 (F a 10)) (10 * l4_127.toInt + 0)) ≤ 5) ∧ (0 ≤ (aI (G.2.1 (F a 10)) (10 * l4_127.toInt + 1)) ∧ (aI (G.2.1 (F a 10)) (10 * l4_127.toInt + 1)) ≤ 2) ∧ (0 ≤ (aI (G.2.1 (F a 10)) (10 * l4_127.toInt + 2)) ∧ (aI (G.2.1 (F a 10)) (10 * l4_127.toInt + 2)) ≤ 2))
    (t163 : 0 ≤ (aI (G.2.1 (F a 10)) (10 * l4_127.toInt + 1)) ∧ (aI (G.2.1 (F a 10)) (10 * l4_127.toInt + 1)) ≤ 2 ∧ 0 ≤ l5_137.toInt ∧ l5_137.toInt ≤ 29 → x163.toInt = 4 * (30 * (aI (G.2.1 (F a 10)) (10 * l4_127.toInt + 1)) + l5_137.toInt))
    (z168 : ((aI (G_137.2.1 (F a 1)) (0 + 4 * (30 * (aI (G.2.1 (F a 10)) (10 * l4_127.toInt + 1)) + l5_137.toInt))) = 0 ∧ (cel (mw (G_137.2.1 (F a 1)) 0) (aI (G.2.1 (F a 10)) (10 * l4_127.toInt + 1)) (l5_137.toInt) (aI (G.2.1 (F a 10)) (10 * l4_127.toInt + 2))) = -2000) ∨ ((aI (G_137.2.1 (F a 1)) (0 + 4 * (30 * (aI (G.2.1 (F a 10)) (10 * l4_127.toInt + 1)) + l5_137.toInt))) = 1 ∧ (cel (mw (G_137.2.1 (F a 1)) 0) (aI (G.2.1 (F a 10)) (10 * l4_127.toInt + 1)) (l5_137.toInt) (aI (G.2.1 (F a 10)) (10 * l4_127.toInt + 2))) = (aI (G_137.2.1 (F a 1)) (0 + 4 * (30 * (aI (G.2.1 (F a 10)) (10 * l4_127.toInt + 1)) + l5_137.toInt) + 1 + (aI (G.2.1 (F a 10)) (10 * l4_127.toInt + 2))))))
    (c176 : ¬ ((aI (G_137.2.1 (F a 1)) (0 + 4 * (30 * (aI (G.2.1 (F a 10)) (10 * l4_127.toInt + 1)) + l5_137.toInt))) ≠ (1 : Int)))
    (c197 : ¬ ((aI (G_137.2.1 (F a 1)) (0 + 4 * (30 * (aI (G.2.1 (F a 10)) (10 * l4_127.toInt + 1)) + l5_137.toInt) + 1 + (aI (G.2.1 (F a 10)) (10 * l4_127.toInt + 2)))) ≠ p1.toInt))
    (t207 : x207.toInt = x163.toInt + (1 : Int) ∨ x163.toInt + (1 : Int) < -2147483648 ∨ 2147483648 ≤ x163.toInt + (1 : Int))
    (t215 : x215.toInt = x207.toInt + (aI (G.2.1 (F a 10)) (10 * l4_127.toInt + 2)) ∨ x207.toInt + (aI (G.2.1 (F a 10)) (10 * l4_127.toInt + 2)) < -2147483648 ∨ 2147483648 ≤ x207.toInt + (aI (G.2.1 (F a 10)) (10 * l4_127.toInt + 2)))
    (c225 : (aI (G.2.1 (F a 10)) (10 * l4_127.toInt + 8)) ≠ (1 : Int)) :
    RM (G235.2.1 (F a 1)) 0 := by
  first
    | exact rm.set (t := aI (G.2.1 (F a 10)) (10 * l4_127.toInt + 1)) (k := l5_137.toInt) (c := aI (G.2.1 (F a 10)) (10 * l4_127.toInt + 2)) (by omega) (by decide) (by omega) (aI_pu hG235 rfl rfl rfl (by omega)) (by omega)
    | exact rm.set (t := aI (G.2.1 (F a 10)) (10 * l4_127.toInt + 1)) (k := l5_137.toInt) (c := aI (G.2.1 (F a 10)) (10 * l4_127.toInt + 2)) (by omega) (by decide) (by omega) (aI_pu hG235 rfl rfl (show ((-1000 : Int32)).toInt = -1000 from by decide) (by omega)) (by omega)
theorem v_X11_rekey_239_26 {K : Nat → Nat} {F : Nat → Nat → Nat} (a : Nat) (G : XG) (G6 : XG) (x119 : Int32) (G_137 : XG) (G235 : XG) (x215 : Int32) (p2 : Int32) (p0 : Int32) (p1 : Int32) (l4_75 : Int32) (l4_127 : Int32) (l5_137 : Int32) (x10 : Int32) (x17 : Int32) (x24 : Int32) (x39 : Int32) (x55 : Int32) (N75 : Nat) (N127 : Nat) (N137 : Nat) (x148 : Int32) (x163 : Int32) (x207 : Int32)
    (ha : K a = 13)
    (hG235 : G235 = cput G_137 (F a 1) x215.toNatClampNeg p2)
    (rp : mw (G_137.2.1 (F a 1)) 0 = repl (mvR (refA (G.2.1 (F a 10))) (refT (G.2.1 (F a 10))) (refC (G.2.1 (F a 10))) p0.toInt p1.toInt p2.toInt (rmv (mw (G.2.1 (F a 1)) 0) p0.toInt p1.toInt p2.toInt) (Int.toNat (l4_127.toInt))) (refT (G.2.1 (F a 10)) (l4_127.toInt)) (refC (G.2.1 (F a 10)) (l4_127.toInt)) p1.toInt (if refA (G.2.1 (F a 10)) (l4_127.toInt) p0.toInt = 1 then p2.toInt else -1000) (l5_137.toInt))
    (am : 0 ≤ ((G.1 a 43).toInt) ∧ ((G.1 a 43).toInt) ≤ 2388)
    (t6 : ((G6.1 a 20).toInt) = -2147483648 ∧ ((G6.1 a 21).toInt) = -2147483648 ∧ ((G6.1 a 23).toInt) = 0)
    (t10 : (x10.toInt = 1 ∧ 0 ≤ p0.toInt ∧ p0.toInt ≤ 2) ∨ (x10.toInt = 0 ∧ (p0.toInt < 0 ∨ 2 < p0.toInt)))
    (c13 : ¬ (x10.toInt = 0))
    (t17 : (x17.toInt = 1 ∧ 0 ≤ p1.toInt ∧ p1.toInt ≤ 29) ∨ (x17.toInt = 0 ∧ (p1.toInt < 0 ∨ 29 < p1.toInt)))
    (c20 : ¬ (x17.toInt = 0))
    (t24 : (x24.toInt = 1 ∧ 0 ≤ p2.toInt ∧ p2.toInt ≤ 29) ∨ (x24.toInt = 0 ∧ (p2.toInt < 0 ∨ 29 < p2.toInt)))
    (c27 : x24.toInt ≠ 0)
    (z36 : 0 ≤ p0.toInt ∧ p0.toInt < 3)
    (z36a : 0 ≤ p1.toInt ∧ p1.toInt < 30)
    (z36b : 0 ≤ p2.toInt ∧ p2.toInt < 30)
    (t39 : (x39.toInt = 1 ∧ (cel (mw (G.2.1 (F a 1)) 0) (p0.toInt) (p1.toInt) 0) ≠ -2000) ∨ (x39.toInt = 0 ∧ (cel (mw (G.2.1 (F a 1)) 0) (p0.toInt) (p1.toInt) 0) = -2000))
    (c42 : x39.toInt ≠ 0)
    (t55 : (x55.toInt = 1 ∧ (cel (mw (G.2.1 (F a 1)) 0) (p0.toInt) (p2.toInt) 0) ≠ -2000) ∨ (x55.toInt = 0 ∧ (cel (mw (G.2.1 (F a 1)) 0) (p0.toInt) (p2.toInt) 0) = -2000))
    (c58 : x55.toInt = 0)
    (z68 : p1.toInt = p2.toInt → (cel (mw (G.2.1 (F a 1)) 0) (p0.toInt) (p1.toInt) 0) = (cel (mw (G.2.1 (F a 1)) 0) (p0.toInt) (p2.toInt) 0))
    (I75_0 : 0 ≤ l4_75.toInt ∧ l4_75.toInt ≤ 4)
    (I75_1 : (0 : Int) ≤ l4_75.toInt)
    (hm75 : 2147483648 - l4_75.toInt < (((N75) + 1 : Nat) : Int))
    (c78 : (4 : Int) ≤ l4_75.toInt)
    (t119 : 0 ≤ p0.toInt ∧ p0.toInt ≤ 2 ∧ 0 ≤ p1.toInt ∧ p1.toInt ≤ 29 → x119.toInt = 4 * (30 * p0.toInt + p1.toInt))
    (I127_0 : 0 ≤ l4_127.toInt ∧ l4_127.toInt ≤ 12)
    (I127_1 : (0 : Int) ≤ l4_127.toInt)
    (hm127 : 2147483648 - l4_127.toInt < (((N127) + 1 : Nat) : Int))
    (c131 : ¬ ((12 : Int) ≤ l4_127.toInt))
    (I137_0 : 0 ≤ l5_137.toInt ∧ l5_137.toInt ≤ 30)
    (I137_1 : l5_137.toInt = 0 ∨ 0 < (refA (G.2.1 (F a 10)) (l4_127.toInt) (p0.toInt)))
    (I137_2 : (0 : Int) ≤ l5_137.toInt)
    (hm137 : 2147483648 - l5_137.toInt < (((N137) + 1 : Nat) : Int))
    (c141 : ¬ ((30 : Int) ≤ l5_137.toInt))
    (t148 : (x148.toInt = 1 ∧ 0 < (refA (G.2.1 (F a 10)) (l4_127.toInt) (p0.toInt))) ∨ (x148.toInt = 0 ∧ ¬ (0 < (refA (G.2.1 (F a 10)) (l4_127.toInt) (p0.toInt)))))
    (c151 : ¬ (x148.toInt = 0))
    (z154 : ((0 ≤ l4_127.toInt ∧ l4_127.toInt < 12 ∧ (aI (G.2.1 (F a 10)) (10 * l4_127.toInt + 0)) = 1 ∧ (aI (G.2.1 (F a 10)) (10 * l4_127.toInt + 3)) = p0.toInt) ∧ (refA (G.2.1 (F a 10)) (l4_127.toInt) (p0.toInt)) = (aI (G.2.1 (F a 10)) (10 * l4_127.toInt + 8))) ∨ (¬ (0 ≤ l4_127.toInt ∧ l4_127.toInt < 12 ∧ (aI (G.2.1 (F a 10)) (10 * l4_127.toInt + 0)) = 1 ∧ (aI (G.2.1 (F a 10)) (10 * l4_127.toInt + 3)) = p0.toInt) ∧ (refA (G.2.1 (F a 10)) (l4_127.toInt) (p0.toInt)) = 0))
    (z154a : (-1 ≤ (aI (G.2.1 (F a 10)) (10 * l4_127.toInt + 0)) ∧ (aI (G.2.1 (F a 10)) (10 * l4_127.toInt + 0)) ≤ 5) ∧ (0 ≤ (aI (G.2.1 (F a 10)) (10 * l4_127.toInt + 1)) ∧ (aI (G.2.1 (F a 10)) (10 * l4_127.toInt + 1)) ≤ 2) ∧ (0 ≤ (aI (G.2.1 (F a 10)) (10 * l4_127.toInt + 2)) ∧ (aI (G.2.1 (F a 10)) (10 * l4_127.toInt + 2)) ≤ 2))
    (t163 : 0 ≤ (aI (G.2.1 (F a 10)) (10 * l4_127.toInt + 1)) ∧ (aI (G.2.1 (F a 10)) (10 * l4_127.toInt + 1)) ≤ 2 ∧ 0 ≤ l5_137.toInt ∧ l5_137.toInt ≤ 29 → x163.toInt = 4 * (30 * (aI (G.2.1 (F a 10)) (10 * l4_127.toInt + 1)) + l5_137.toInt))
    (z168 : ((aI (G_137.2.1 (F a 1)) (0 + 4 * (30 * (aI (G.2.1 (F a 10)) (10 * l4_127.toInt + 1)) + l5_137.toInt))) = 0 ∧ (cel (mw (G_137.2.1 (F a 1)) 0) (aI (G.2.1 (F a 10)) (10 * l4_127.toInt + 1)) (l5_137.toInt) (aI (G.2.1 (F a 10)) (10 * l4_127.toInt + 2))) = -2000) ∨ ((aI (G_137.2.1 (F a 1)) (0 + 4 * (30 * (aI (G.2.1 (F a 10)) (10 * l4_127.toInt + 1)) + l5_137.toInt))) = 1 ∧ (cel (mw (G_137.2.1 (F a 1)) 0) (aI (G.2.1 (F a 10)) (10 * l4_127.toInt + 1)) (l5_137.toInt) (aI (G.2.1 (F a 10)) (10 * l4_127.toInt + 2))) = (aI (G_137.2.1 (F a 1)) (0 + 4 * (30 * (aI (G.2.1 (F a 10)) (10 * l4_127.toInt + 1)) + l5_137.toInt) + 1 + (aI (G.2.1 (F a 10)) (10 * l4_127.toInt + 2))))))
    (c176 : ¬ ((aI (G_137.2.1 (F a 1)) (0 + 4 * (30 * (aI (G.2.1 (F a 10)) (10 * l4_127.toInt + 1)) + l5_137.toInt))) ≠ (1 : Int)))
    (c197 : ¬ ((aI (G_137.2.1 (F a 1)) (0 + 4 * (30 * (aI (G.2.1 (F a 10)) (10 * l4_127.toInt + 1)) + l5_137.toInt) + 1 + (aI (G.2.1 (F a 10)) (10 * l4_127.toInt + 2)))) ≠ p1.toInt))
    (t207 : x207.toInt = x163.toInt + (1 : Int) ∨ x163.toInt + (1 : Int) < -2147483648 ∨ 2147483648 ≤ x163.toInt + (1 : Int))
    (t215 : x215.toInt = x207.toInt + (aI (G.2.1 (F a 10)) (10 * l4_127.toInt + 2)) ∨ x207.toInt + (aI (G.2.1 (F a 10)) (10 * l4_127.toInt + 2)) < -2147483648 ∨ 2147483648 ≤ x207.toInt + (aI (G.2.1 (F a 10)) (10 * l4_127.toInt + 2)))
    (c225 : ¬ ((aI (G.2.1 (F a 10)) (10 * l4_127.toInt + 8)) ≠ (1 : Int))) :
    mw (G235.2.1 (F a 1)) 0 = repl (mvR (refA (G.2.1 (F a 10))) (refT (G.2.1 (F a 10))) (refC (G.2.1 (F a 10))) p0.toInt p1.toInt p2.toInt (rmv (mw (G.2.1 (F a 1)) 0) p0.toInt p1.toInt p2.toInt) (Int.toNat (l4_127.toInt))) (refT (G.2.1 (F a 10)) (l4_127.toInt)) (refC (G.2.1 (F a 10)) (l4_127.toInt)) p1.toInt (if refA (G.2.1 (F a 10)) (l4_127.toInt) p0.toInt = 1 then p2.toInt else -1000) (l5_137.toInt + 1) := by
  have rf := refT_f (f := G.2.1 (F a 10)) (r := l4_127.toInt) (t := p0.toInt) (by omega)
  rw [rf.2.1, rf.2.2.1] at rp ⊢
  have ec : cel (mw (G_137.2.1 (F a 1)) 0) (aI (G.2.1 (F a 10)) (10 * l4_127.toInt + 1)) (l5_137.toInt) (aI (G.2.1 (F a 10)) (10 * l4_127.toInt + 2)) = (mvR (refA (G.2.1 (F a 10))) (refT (G.2.1 (F a 10))) (refC (G.2.1 (F a 10))) p0.toInt p1.toInt p2.toInt (rmv (mw (G.2.1 (F a 1)) 0) p0.toInt p1.toInt p2.toInt) (Int.toNat (l4_127.toInt))) (90 * aI (G.2.1 (F a 10)) (10 * l4_127.toInt + 1) + 30 * aI (G.2.1 (F a 10)) (10 * l4_127.toInt + 2) + l5_137.toInt) := by
    rw [rp, cel_in (by omega), repl_at (Int.le_refl _)]
  first
    | (have e1 := mw_set (b := 0) (t := aI (G.2.1 (F a 10)) (10 * l4_127.toInt + 1)) (k := l5_137.toInt) (c := aI (G.2.1 (F a 10)) (10 * l4_127.toInt + 2)) (by omega) (by decide) (by omega) (aI_pu hG235 rfl rfl rfl (by omega)) (by omega)
       rw [e1, rp]
       rw [if_pos (by omega), repl_1 (by omega) (by omega)])
    | (have e1 := mw_set (b := 0) (t := aI (G.2.1 (F a 10)) (10 * l4_127.toInt + 1)) (k := l5_137.toInt) (c := aI (G.2.1 (F a 10)) (10 * l4_127.toInt + 2)) (by omega) (by decide) (by omega) (aI_pu hG235 rfl rfl (show ((-1000 : Int32)).toInt = -1000 from by decide) (by omega)) (by omega)
       rw [e1, rp]
       rw [if_neg (by omega), repl_1 (by omega) (by omega)])
theorem v_X11_rekey_239_27 {K : Nat → Nat} {F : Nat → Nat → Nat} (a : Nat) (G : XG) (G6 : XG) (x119 : Int32) (G_137 : XG) (G235 : XG) (x215 : Int32) (p2 : Int32) (p0 : Int32) (p1 : Int32) (l4_75 : Int32) (l4_127 : Int32) (l5_137 : Int32) (x10 : Int32) (x17 : Int32) (x24 : Int32) (x39 : Int32) (x55 : Int32) (N75 : Nat) (N127 : Nat) (N137 : Nat) (x148 : Int32) (x163 : Int32) (x207 : Int32)
    (ha : K a = 13)
    (hG235 : G235 = cput G_137 (F a 1) x215.toNatClampNeg p2)
    (rm : RM (G_137.2.1 (F a 1)) 0)
    (am : 0 ≤ ((G.1 a 43).toInt) ∧ ((G.1 a 43).toInt) ≤ 2388)
    (t6 : ((G6.1 a 20).toInt) = -2147483648 ∧ ((G6.1 a 21).toInt) = -2147483648 ∧ ((G6.1 a 23).toInt) = 0)
    (t10 : (x10.toInt = 1 ∧ 0 ≤ p0.toInt ∧ p0.toInt ≤ 2) ∨ (x10.toInt = 0 ∧ (p0.toInt < 0 ∨ 2 < p0.toInt)))
    (c13 : ¬ (x10.toInt = 0))
    (t17 : (x17.toInt = 1 ∧ 0 ≤ p1.toInt ∧ p1.toInt ≤ 29) ∨ (x17.toInt = 0 ∧ (p1.toInt < 0 ∨ 29 < p1.toInt)))
    (c20 : ¬ (x17.toInt = 0))
    (t24 : (x24.toInt = 1 ∧ 0 ≤ p2.toInt ∧ p2.toInt ≤ 29) ∨ (x24.toInt = 0 ∧ (p2.toInt < 0 ∨ 29 < p2.toInt)))
    (c27 : x24.toInt ≠ 0)
    (z36 : 0 ≤ p0.toInt ∧ p0.toInt < 3)
    (z36a : 0 ≤ p1.toInt ∧ p1.toInt < 30)
    (z36b : 0 ≤ p2.toInt ∧ p2.toInt < 30)
    (t39 : (x39.toInt = 1 ∧ (cel (mw (G.2.1 (F a 1)) 0) (p0.toInt) (p1.toInt) 0) ≠ -2000) ∨ (x39.toInt = 0 ∧ (cel (mw (G.2.1 (F a 1)) 0) (p0.toInt) (p1.toInt) 0) = -2000))
    (c42 : x39.toInt ≠ 0)
    (t55 : (x55.toInt = 1 ∧ (cel (mw (G.2.1 (F a 1)) 0) (p0.toInt) (p2.toInt) 0) ≠ -2000) ∨ (x55.toInt = 0 ∧ (cel (mw (G.2.1 (F a 1)) 0) (p0.toInt) (p2.toInt) 0) = -2000))
    (c58 : x55.toInt = 0)
    (z68 : p1.toInt = p2.toInt → (cel (mw (G.2.1 (F a 1)) 0) (p0.toInt) (p1.toInt) 0) = (cel (mw (G.2.1 (F a 1)) 0) (p0.toInt) (p2.toInt) 0))
    (I75_0 : 0 ≤ l4_75.toInt ∧ l4_75.toInt ≤ 4)
    (I75_1 : (0 : Int) ≤ l4_75.toInt)
    (hm75 : 2147483648 - l4_75.toInt < (((N75) + 1 : Nat) : Int))
    (c78 : (4 : Int) ≤ l4_75.toInt)
    (t119 : 0 ≤ p0.toInt ∧ p0.toInt ≤ 2 ∧ 0 ≤ p1.toInt ∧ p1.toInt ≤ 29 → x119.toInt = 4 * (30 * p0.toInt + p1.toInt))
    (I127_0 : 0 ≤ l4_127.toInt ∧ l4_127.toInt ≤ 12)
    (I127_1 : (0 : Int) ≤ l4_127.toInt)
    (hm127 : 2147483648 - l4_127.toInt < (((N127) + 1 : Nat) : Int))
    (c131 : ¬ ((12 : Int) ≤ l4_127.toInt))
    (I137_0 : 0 ≤ l5_137.toInt ∧ l5_137.toInt ≤ 30)
    (I137_1 : l5_137.toInt = 0 ∨ 0 < (refA (G.2.1 (F a 10)) (l4_127.toInt) (p0.toInt)))
    (I137_2 : (0 : Int) ≤ l5_137.toInt)
    (hm137 : 2147483648 - l5_137.toInt < (((N137) + 1 : Nat) : Int))
    (c141 : ¬ ((30 : Int) ≤ l5_137.toInt))
    (t148 : (x148.toInt = 1 ∧ 0 < (refA (G.2.1 (F a 10)) (l4_127.toInt) (p0.toInt))) ∨ (x148.toInt = 0 ∧ ¬ (0 < (refA (G.2.1 (F a 10)) (l4_127.toInt) (p0.toInt)))))
    (c151 : ¬ (x148.toInt = 0))
    (z154 : ((0 ≤ l4_127.toInt ∧ l4_127.toInt < 12 ∧ (aI (G.2.1 (F a 10)) (10 * l4_127.toInt + 0)) = 1 ∧ (aI (G.2.1 (F a 10)) (10 * l4_127.toInt + 3)) = p0.toInt) ∧ (refA (G.2.1 (F a 10)) (l4_127.toInt) (p0.toInt)) = (aI (G.2.1 (F a 10)) (10 * l4_127.toInt + 8))) ∨ (¬ (0 ≤ l4_127.toInt ∧ l4_127.toInt < 12 ∧ (aI (G.2.1 (F a 10)) (10 * l4_127.toInt + 0)) = 1 ∧ (aI (G.2.1 (F a 10)) (10 * l4_127.toInt + 3)) = p0.toInt) ∧ (refA (G.2.1 (F a 10)) (l4_127.toInt) (p0.toInt)) = 0))
    (z154a : (-1 ≤ (aI (G.2.1 (F a 10)) (10 * l4_127.toInt + 0)) ∧ (aI (G.2.1 (F a 10)) (10 * l4_127.toInt + 0)) ≤ 5) ∧ (0 ≤ (aI (G.2.1 (F a 10)) (10 * l4_127.toInt + 1)) ∧ (aI (G.2.1 (F a 10)) (10 * l4_127.toInt + 1)) ≤ 2) ∧ (0 ≤ (aI (G.2.1 (F a 10)) (10 * l4_127.toInt + 2)) ∧ (aI (G.2.1 (F a 10)) (10 * l4_127.toInt + 2)) ≤ 2))
    (t163 : 0 ≤ (aI (G.2.1 (F a 10)) (10 * l4_127.toInt + 1)) ∧ (aI (G.2.1 (F a 10)) (10 * l4_127.toInt + 1)) ≤ 2 ∧ 0 ≤ l5_137.toInt ∧ l5_137.toInt ≤ 29 → x163.toInt = 4 * (30 * (aI (G.2.1 (F a 10)) (10 * l4_127.toInt + 1)) + l5_137.toInt))
    (z168 : ((aI (G_137.2.1 (F a 1)) (0 + 4 * (30 * (aI (G.2.1 (F a 10)) (10 * l4_127.toInt + 1)) + l5_137.toInt))) = 0 ∧ (cel (mw (G_137.2.1 (F a 1)) 0) (aI (G.2.1 (F a 10)) (10 * l4_127.toInt + 1)) (l5_137.toInt) (aI (G.2.1 (F a 10)) (10 * l4_127.toInt + 2))) = -2000) ∨ ((aI (G_137.2.1 (F a 1)) (0 + 4 * (30 * (aI (G.2.1 (F a 10)) (10 * l4_127.toInt + 1)) + l5_137.toInt))) = 1 ∧ (cel (mw (G_137.2.1 (F a 1)) 0) (aI (G.2.1 (F a 10)) (10 * l4_127.toInt + 1)) (l5_137.toInt) (aI (G.2.1 (F a 10)) (10 * l4_127.toInt + 2))) = (aI (G_137.2.1 (F a 1)) (0 + 4 * (30 * (aI (G.2.1 (F a 10)) (10 * l4_127.toInt + 1)) + l5_137.toInt) + 1 + (aI (G.2.1 (F a 10)) (10 * l4_127.toInt + 2))))))
    (c176 : ¬ ((aI (G_137.2.1 (F a 1)) (0 + 4 * (30 * (aI (G.2.1 (F a 10)) (10 * l4_127.toInt + 1)) + l5_137.toInt))) ≠ (1 : Int)))
    (c197 : ¬ ((aI (G_137.2.1 (F a 1)) (0 + 4 * (30 * (aI (G.2.1 (F a 10)) (10 * l4_127.toInt + 1)) + l5_137.toInt) + 1 + (aI (G.2.1 (F a 10)) (10 * l4_127.toInt + 2)))) ≠ p1.toInt))
    (t207 : x207.toInt = x163.toInt + (1 : Int) ∨ x163.toInt + (1 : Int) < -2147483648 ∨ 2147483648 ≤ x163.toInt + (1 : Int))
    (t215 : x215.toInt = x207.toInt + (aI (G.2.1 (F a 10)) (10 * l4_127.toInt + 2)) ∨ x207.toInt + (aI (G.2.1 (F a 10)) (10 * l4_127.toInt + 2)) < -2147483648 ∨ 2147483648 ≤ x207.toInt + (aI (G.2.1 (F a 10)) (10 * l4_127.toInt + 2)))
    (c225 : ¬ ((aI (G.2.1 (F a 10)) (10 * l4_127.toInt + 8)) ≠ (1 : Int))) :
    RM (G235.2.1 (F a 1)) 0 := by
  first
    | exact rm.set (t := aI (G.2.1 (F a 10)) (10 * l4_127.toInt + 1)) (k := l5_137.toInt) (c := aI (G.2.1 (F a 10)) (10 * l4_127.toInt + 2)) (by omega) (by decide) (by omega) (aI_pu hG235 rfl rfl rfl (by omega)) (by omega)
    | exact rm.set (t := aI (G.2.1 (F a 10)) (10 * l4_127.toInt + 1)) (k := l5_137.toInt) (c := aI (G.2.1 (F a 10)) (10 * l4_127.toInt + 2)) (by omega) (by decide) (by omega) (aI_pu hG235 rfl rfl (show ((-1000 : Int32)).toInt = -1000 from by decide) (by omega)) (by omega)
theorem v_X11_rekey_135_28 {F : Nat → Nat → Nat} (a : Nat) (G : XG) (G_127 : XG) (p0 : Int32) (p1 : Int32) (p2 : Int32) (l4_127 : Int32)
    (mv : mw (G_127.2.1 (F a 1)) 0 = mvR (refA (G.2.1 (F a 10))) (refT (G.2.1 (F a 10))) (refC (G.2.1 (F a 10))) p0.toInt p1.toInt p2.toInt (rmv (mw (G.2.1 (F a 1)) 0) p0.toInt p1.toInt p2.toInt) (Int.toNat (l4_127.toInt))) :
    mw (G_127.2.1 (F a 1)) 0 = repl (mvR (refA (G.2.1 (F a 10))) (refT (G.2.1 (F a 10))) (refC (G.2.1 (F a 10))) p0.toInt p1.toInt p2.toInt (rmv (mw (G.2.1 (F a 1)) 0) p0.toInt p1.toInt p2.toInt) (Int.toNat (l4_127.toInt))) (refT (G.2.1 (F a 10)) (l4_127.toInt)) (refC (G.2.1 (F a 10)) (l4_127.toInt)) p1.toInt (if refA (G.2.1 (F a 10)) (l4_127.toInt) p0.toInt = 1 then p2.toInt else -1000) (0 : Int) := by
  rw [repl_0]; exact mv
theorem v_X11_rekey_135_29 {F : Nat → Nat → Nat} (a : Nat) (G_127 : XG)
    (rm : RM (G_127.2.1 (F a 1)) 0) :
    RM (G_127.2.1 (F a 1)) 0 := by
  exact rm
theorem v_X11_rekey_125_30 {F : Nat → Nat → Nat} (G123 : XG) (G_75 : XG) (a : Nat) (x119 : Int32) (G : XG) (p0 : Int32) (p1 : Int32) (p2 : Int32) (l4_75 : Int32) (x39 : Int32) (x55 : Int32)
    (hG123 : G123 = cput G_75 (F a 1) x119.toNatClampNeg 0)
    (mp : MVp (G.2.1 (F a 1)) (G_75.2.1 (F a 1)) (0 + 4 * (30 * p0.toInt + p1.toInt)) (0 + 4 * (30 * p0.toInt + p2.toInt)) (l4_75.toInt))
    (z36 : 0 ≤ p0.toInt ∧ p0.toInt < 3)
    (z36a : 0 ≤ p1.toInt ∧ p1.toInt < 30)
    (z36b : 0 ≤ p2.toInt ∧ p2.toInt < 30)
    (t39 : (x39.toInt = 1 ∧ (cel (mw (G.2.1 (F a 1)) 0) (p0.toInt) (p1.toInt) 0) ≠ -2000) ∨ (x39.toInt = 0 ∧ (cel (mw (G.2.1 (F a 1)) 0) (p0.toInt) (p1.toInt) 0) = -2000))
    (c42 : x39.toInt ≠ 0)
    (t55 : (x55.toInt = 1 ∧ (cel (mw (G.2.1 (F a 1)) 0) (p0.toInt) (p2.toInt) 0) ≠ -2000) ∨ (x55.toInt = 0 ∧ (cel (mw (G.2.1 (F a 1)) 0) (p0.toInt) (p2.toInt) 0) = -2000))
    (c58 : x55.toInt = 0)
    (z68 : p1.toInt = p2.toInt → (cel (mw (G.2.1 (F a 1)) 0) (p0.toInt) (p1.toInt) 0) = (cel (mw (G.2.1 (F a 1)) 0) (p0.toInt) (p2.toInt) 0))
    (I75_0 : 0 ≤ l4_75.toInt ∧ l4_75.toInt ≤ 4)
    (c78 : (4 : Int) ≤ l4_75.toInt)
    (t119 : 0 ≤ p0.toInt ∧ p0.toInt ≤ 2 ∧ 0 ≤ p1.toInt ∧ p1.toInt ≤ 29 → x119.toInt = 4 * (30 * p0.toInt + p1.toInt)) :
    mw (G123.2.1 (F a 1)) 0 = mvR (refA (G.2.1 (F a 10))) (refT (G.2.1 (F a 10))) (refC (G.2.1 (F a 10))) p0.toInt p1.toInt p2.toInt (rmv (mw (G.2.1 (F a 1)) 0) p0.toInt p1.toInt p2.toInt) (Int.toNat (0 : Int)) := by
  have u := (show MVp (G.2.1 (F a 1)) (G_75.2.1 (F a 1)) (0 + 4 * (30 * p0.toInt + p1.toInt)) (0 + 4 * (30 * p0.toInt + p2.toInt)) 4 from by rw [show l4_75.toInt = 4 from by omega] at mp; exact mp).all (aI_pu hG123 rfl rfl (show ((0 : Int32)).toInt = 0 from by decide) (by omega)) (by omega)
  exact mw_mov (by omega) (by decide) rfl rfl u
theorem v_X11_rekey_125_31 {F : Nat → Nat → Nat} (G123 : XG) (G_75 : XG) (a : Nat) (x119 : Int32) (G : XG) (p0 : Int32) (p1 : Int32) (p2 : Int32) (l4_75 : Int32) (x39 : Int32) (x55 : Int32)
    (hG123 : G123 = cput G_75 (F a 1) x119.toNatClampNeg 0)
    (hM : RM (G.2.1 (F a 1)) (0))
    (mp : MVp (G.2.1 (F a 1)) (G_75.2.1 (F a 1)) (0 + 4 * (30 * p0.toInt + p1.toInt)) (0 + 4 * (30 * p0.toInt + p2.toInt)) (l4_75.toInt))
    (z36 : 0 ≤ p0.toInt ∧ p0.toInt < 3)
    (z36a : 0 ≤ p1.toInt ∧ p1.toInt < 30)
    (z36b : 0 ≤ p2.toInt ∧ p2.toInt < 30)
    (t39 : (x39.toInt = 1 ∧ (cel (mw (G.2.1 (F a 1)) 0) (p0.toInt) (p1.toInt) 0) ≠ -2000) ∨ (x39.toInt = 0 ∧ (cel (mw (G.2.1 (F a 1)) 0) (p0.toInt) (p1.toInt) 0) = -2000))
    (c42 : x39.toInt ≠ 0)
    (t55 : (x55.toInt = 1 ∧ (cel (mw (G.2.1 (F a 1)) 0) (p0.toInt) (p2.toInt) 0) ≠ -2000) ∨ (x55.toInt = 0 ∧ (cel (mw (G.2.1 (F a 1)) 0) (p0.toInt) (p2.toInt) 0) = -2000))
    (c58 : x55.toInt = 0)
    (z68 : p1.toInt = p2.toInt → (cel (mw (G.2.1 (F a 1)) 0) (p0.toInt) (p1.toInt) 0) = (cel (mw (G.2.1 (F a 1)) 0) (p0.toInt) (p2.toInt) 0))
    (I75_0 : 0 ≤ l4_75.toInt ∧ l4_75.toInt ≤ 4)
    (c78 : (4 : Int) ≤ l4_75.toInt)
    (t119 : 0 ≤ p0.toInt ∧ p0.toInt ≤ 2 ∧ 0 ≤ p1.toInt ∧ p1.toInt ≤ 29 → x119.toInt = 4 * (30 * p0.toInt + p1.toInt)) :
    RM (G123.2.1 (F a 1)) 0 := by
  have u := (show MVp (G.2.1 (F a 1)) (G_75.2.1 (F a 1)) (0 + 4 * (30 * p0.toInt + p1.toInt)) (0 + 4 * (30 * p0.toInt + p2.toInt)) 4 from by rw [show l4_75.toInt = 4 from by omega] at mp; exact mp).all (aI_pu hG123 rfl rfl (show ((0 : Int32)).toInt = 0 from by decide) (by omega)) (by omega)
  exact hM.mov (by omega) (by decide) rfl rfl u
theorem v_X11_rekey_110_32 {K : Nat → Nat} {F : Nat → Nat → Nat} (a : Nat) (G : XG) (G6 : XG) (G_75 : XG) (G106 : XG) (x92 : Int32) (x105 : Int32) (p0 : Int32) (p1 : Int32) (p2 : Int32) (l4_75 : Int32) (x10 : Int32) (x17 : Int32) (x24 : Int32) (x39 : Int32) (x55 : Int32) (N75 : Nat) (x87 : Int32) (x99 : Int32)
    (ha : K a = 13)
    (hG106 : G106 = cput G_75 (F a 1) x92.toNatClampNeg x105)
    (mp : MVp (G.2.1 (F a 1)) (G_75.2.1 (F a 1)) (0 + 4 * (30 * p0.toInt + p1.toInt)) (0 + 4 * (30 * p0.toInt + p2.toInt)) (l4_75.toInt))
    (hv105 : x105.toInt = (aI (G_75.2.1 (F a 1)) (0 + 4 * (30 * p0.toInt + p1.toInt) + l4_75.toInt)))
    (am : 0 ≤ ((G.1 a 43).toInt) ∧ ((G.1 a 43).toInt) ≤ 2388)
    (t6 : ((G6.1 a 20).toInt) = -2147483648 ∧ ((G6.1 a 21).toInt) = -2147483648 ∧ ((G6.1 a 23).toInt) = 0)
    (t10 : (x10.toInt = 1 ∧ 0 ≤ p0.toInt ∧ p0.toInt ≤ 2) ∨ (x10.toInt = 0 ∧ (p0.toInt < 0 ∨ 2 < p0.toInt)))
    (c13 : ¬ (x10.toInt = 0))
    (t17 : (x17.toInt = 1 ∧ 0 ≤ p1.toInt ∧ p1.toInt ≤ 29) ∨ (x17.toInt = 0 ∧ (p1.toInt < 0 ∨ 29 < p1.toInt)))
    (c20 : ¬ (x17.toInt = 0))
    (t24 : (x24.toInt = 1 ∧ 0 ≤ p2.toInt ∧ p2.toInt ≤ 29) ∨ (x24.toInt = 0 ∧ (p2.toInt < 0 ∨ 29 < p2.toInt)))
    (c27 : x24.toInt ≠ 0)
    (z36 : 0 ≤ p0.toInt ∧ p0.toInt < 3)
    (z36a : 0 ≤ p1.toInt ∧ p1.toInt < 30)
    (z36b : 0 ≤ p2.toInt ∧ p2.toInt < 30)
    (t39 : (x39.toInt = 1 ∧ (cel (mw (G.2.1 (F a 1)) 0) (p0.toInt) (p1.toInt) 0) ≠ -2000) ∨ (x39.toInt = 0 ∧ (cel (mw (G.2.1 (F a 1)) 0) (p0.toInt) (p1.toInt) 0) = -2000))
    (c42 : x39.toInt ≠ 0)
    (t55 : (x55.toInt = 1 ∧ (cel (mw (G.2.1 (F a 1)) 0) (p0.toInt) (p2.toInt) 0) ≠ -2000) ∨ (x55.toInt = 0 ∧ (cel (mw (G.2.1 (F a 1)) 0) (p0.toInt) (p2.toInt) 0) = -2000))
    (c58 : x55.toInt = 0)
    (z68 : p1.toInt = p2.toInt → (cel (mw (G.2.1 (F a 1)) 0) (p0.toInt) (p1.toInt) 0) = (cel (mw (G.2.1 (F a 1)) 0) (p0.toInt) (p2.toInt) 0))
    (I75_0 : 0 ≤ l4_75.toInt ∧ l4_75.toInt ≤ 4)
    (I75_1 : (0 : Int) ≤ l4_75.toInt)
    (hm75 : 2147483648 - l4_75.toInt < (((N75) + 1 : Nat) : Int))
    (c78 : ¬ ((4 : Int) ≤ l4_75.toInt))
    (t87 : 0 ≤ p0.toInt ∧ p0.toInt ≤ 2 ∧ 0 ≤ p2.toInt ∧ p2.toInt ≤ 29 → x87.toInt = 4 * (30 * p0.toInt + p2.toInt))
    (t92 : x92.toInt = x87.toInt + l4_75.toInt ∨ x87.toInt + l4_75.toInt < -2147483648 ∨ 2147483648 ≤ x87.toInt + l4_75.toInt)
    (t99 : 0 ≤ p0.toInt ∧ p0.toInt ≤ 2 ∧ 0 ≤ p1.toInt ∧ p1.toInt ≤ 29 → x99.toInt = 4 * (30 * p0.toInt + p1.toInt)) :
    MVp (G.2.1 (F a 1)) (G106.2.1 (F a 1)) (0 + 4 * (30 * p0.toInt + p1.toInt)) (0 + 4 * (30 * p0.toInt + p2.toInt)) (l4_75.toInt + 1) := by
  exact mp.s (by omega) (by omega) (by omega) (aI_pu hG106 rfl rfl hv105 (by omega)) (by omega) rfl (by omega)
theorem v_X11_rekey_73_33 {K : Nat → Nat} {F : Nat → Nat → Nat} (a : Nat) (G : XG) (G6 : XG) (x10 : Int32) (p0 : Int32) (x17 : Int32) (p1 : Int32) (x24 : Int32) (p2 : Int32) (x39 : Int32) (x55 : Int32)
    (ha : K a = 13)
    (am : 0 ≤ ((G.1 a 43).toInt) ∧ ((G.1 a 43).toInt) ≤ 2388)
    (t6 : ((G6.1 a 20).toInt) = -2147483648 ∧ ((G6.1 a 21).toInt) = -2147483648 ∧ ((G6.1 a 23).toInt) = 0)
    (t10 : (x10.toInt = 1 ∧ 0 ≤ p0.toInt ∧ p0.toInt ≤ 2) ∨ (x10.toInt = 0 ∧ (p0.toInt < 0 ∨ 2 < p0.toInt)))
    (c13 : ¬ (x10.toInt = 0))
    (t17 : (x17.toInt = 1 ∧ 0 ≤ p1.toInt ∧ p1.toInt ≤ 29) ∨ (x17.toInt = 0 ∧ (p1.toInt < 0 ∨ 29 < p1.toInt)))
    (c20 : ¬ (x17.toInt = 0))
    (t24 : (x24.toInt = 1 ∧ 0 ≤ p2.toInt ∧ p2.toInt ≤ 29) ∨ (x24.toInt = 0 ∧ (p2.toInt < 0 ∨ 29 < p2.toInt)))
    (c27 : x24.toInt ≠ 0)
    (z36 : 0 ≤ p0.toInt ∧ p0.toInt < 3)
    (z36a : 0 ≤ p1.toInt ∧ p1.toInt < 30)
    (z36b : 0 ≤ p2.toInt ∧ p2.toInt < 30)
    (t39 : (x39.toInt = 1 ∧ (cel (mw (G.2.1 (F a 1)) 0) (p0.toInt) (p1.toInt) 0) ≠ -2000) ∨ (x39.toInt = 0 ∧ (cel (mw (G.2.1 (F a 1)) 0) (p0.toInt) (p1.toInt) 0) = -2000))
    (c42 : x39.toInt ≠ 0)
    (t55 : (x55.toInt = 1 ∧ (cel (mw (G.2.1 (F a 1)) 0) (p0.toInt) (p2.toInt) 0) ≠ -2000) ∨ (x55.toInt = 0 ∧ (cel (mw (G.2.1 (F a 1)) 0) (p0.toInt) (p2.toInt) 0) = -2000))
    (c58 : x55.toInt = 0)
    (z68 : p1.toInt = p2.toInt → (cel (mw (G.2.1 (F a 1)) 0) (p0.toInt) (p1.toInt) 0) = (cel (mw (G.2.1 (F a 1)) 0) (p0.toInt) (p2.toInt) 0)) :
    MVp (G.2.1 (F a 1)) (G.2.1 (F a 1)) (0 + 4 * (30 * p0.toInt + p1.toInt)) (0 + 4 * (30 * p0.toInt + p2.toInt)) (0 : Int) := by
  intro z hz; rw [if_neg (by omega)]
theorem v_X11_rekey_67_34 {F : Nat → Nat → Nat} (p0 : Int32) (p1 : Int32) (p2 : Int32) (x39 : Int32) (G : XG) (a : Nat) (x55 : Int32) (G64 : XG)
    (z36 : 0 ≤ p0.toInt ∧ p0.toInt < 3)
    (z36a : 0 ≤ p1.toInt ∧ p1.toInt < 30)
    (z36b : 0 ≤ p2.toInt ∧ p2.toInt < 30)
    (t39 : (x39.toInt = 1 ∧ (cel (mw (G.2.1 (F a 1)) 0) (p0.toInt) (p1.toInt) 0) ≠ -2000) ∨ (x39.toInt = 0 ∧ (cel (mw (G.2.1 (F a 1)) 0) (p0.toInt) (p1.toInt) 0) = -2000))
    (c42 : x39.toInt ≠ 0)
    (t55 : (x55.toInt = 1 ∧ (cel (mw (G.2.1 (F a 1)) 0) (p0.toInt) (p2.toInt) 0) ≠ -2000) ∨ (x55.toInt = 0 ∧ (cel (mw (G.2.1 (F a 1)) 0) (p0.toInt) (p2.toInt) 0) = -2000))
    (c58 : ¬ (x55.toInt = 0))
    (c_G64_F_a_1 : G64.2.1 (F a 1) = G.2.1 (F a 1)) :
    (¬ ((0 ≤ p0.toInt ∧ p0.toInt < 3) ∧ (0 ≤ p1.toInt ∧ p1.toInt < 30) ∧ (0 ≤ p2.toInt ∧ p2.toInt < 30)) ∧ (-4 : Int) = -1 ∧ mw (G64.2.1 (F a 1)) 0 = (mw (G.2.1 (F a 1)) 0)) ∨ (((0 ≤ p0.toInt ∧ p0.toInt < 3) ∧ (0 ≤ p1.toInt ∧ p1.toInt < 30) ∧ (0 ≤ p2.toInt ∧ p2.toInt < 30)) ∧ cel (mw (G.2.1 (F a 1)) 0) p0.toInt p1.toInt 0 = -2000 ∧ (-4 : Int) = -2 ∧ mw (G64.2.1 (F a 1)) 0 = (mw (G.2.1 (F a 1)) 0)) ∨ (((0 ≤ p0.toInt ∧ p0.toInt < 3) ∧ (0 ≤ p1.toInt ∧ p1.toInt < 30) ∧ (0 ≤ p2.toInt ∧ p2.toInt < 30)) ∧ cel (mw (G.2.1 (F a 1)) 0) p0.toInt p1.toInt 0 ≠ -2000 ∧ cel (mw (G.2.1 (F a 1)) 0) p0.toInt p2.toInt 0 ≠ -2000 ∧ (-4 : Int) = -4 ∧ mw (G64.2.1 (F a 1)) 0 = (mw (G.2.1 (F a 1)) 0)) ∨ (((0 ≤ p0.toInt ∧ p0.toInt < 3) ∧ (0 ≤ p1.toInt ∧ p1.toInt < 30) ∧ (0 ≤ p2.toInt ∧ p2.toInt < 30)) ∧ cel (mw (G.2.1 (F a 1)) 0) p0.toInt p1.toInt 0 ≠ -2000 ∧ cel (mw (G.2.1 (F a 1)) 0) p0.toInt p2.toInt 0 = -2000 ∧ StR ((G.1 a 6).toInt) (-4 : Int) (G.2.1 (F a 10)) (mw (G.2.1 (F a 1)) 0) (mvR (refA (G.2.1 (F a 10))) (refT (G.2.1 (F a 10))) (refC (G.2.1 (F a 10))) p0.toInt p1.toInt p2.toInt (rmv (mw (G.2.1 (F a 1)) 0) p0.toInt p1.toInt p2.toInt) 12) (mw (G64.2.1 (F a 1)) 0)) := by
  exact Or.inr (Or.inr (Or.inl ⟨⟨z36, z36a, z36b⟩, by omega, by omega, rfl, by rw [c_G64_F_a_1]⟩))
theorem v_X11_rekey_67_35 {F : Nat → Nat → Nat} (a : Nat) (G : XG) (G64 : XG)
    (hM : RM (G.2.1 (F a 1)) (0))
    (c_G64_F_a_1 : G64.2.1 (F a 1) = G.2.1 (F a 1)) :
    RM (G64.2.1 (F a 1)) 0 := by
  rw [c_G64_F_a_1]; exact hM
theorem v_X11_rekey_51_36 {F : Nat → Nat → Nat} (p0 : Int32) (p1 : Int32) (p2 : Int32) (x39 : Int32) (G : XG) (a : Nat) (G48 : XG)
    (z36 : 0 ≤ p0.toInt ∧ p0.toInt < 3)
    (z36a : 0 ≤ p1.toInt ∧ p1.toInt < 30)
    (z36b : 0 ≤ p2.toInt ∧ p2.toInt < 30)
    (t39 : (x39.toInt = 1 ∧ (cel (mw (G.2.1 (F a 1)) 0) (p0.toInt) (p1.toInt) 0) ≠ -2000) ∨ (x39.toInt = 0 ∧ (cel (mw (G.2.1 (F a 1)) 0) (p0.toInt) (p1.toInt) 0) = -2000))
    (c42 : ¬ (x39.toInt ≠ 0))
    (c_G48_F_a_1 : G48.2.1 (F a 1) = G.2.1 (F a 1)) :
    (¬ ((0 ≤ p0.toInt ∧ p0.toInt < 3) ∧ (0 ≤ p1.toInt ∧ p1.toInt < 30) ∧ (0 ≤ p2.toInt ∧ p2.toInt < 30)) ∧ (-2 : Int) = -1 ∧ mw (G48.2.1 (F a 1)) 0 = (mw (G.2.1 (F a 1)) 0)) ∨ (((0 ≤ p0.toInt ∧ p0.toInt < 3) ∧ (0 ≤ p1.toInt ∧ p1.toInt < 30) ∧ (0 ≤ p2.toInt ∧ p2.toInt < 30)) ∧ cel (mw (G.2.1 (F a 1)) 0) p0.toInt p1.toInt 0 = -2000 ∧ (-2 : Int) = -2 ∧ mw (G48.2.1 (F a 1)) 0 = (mw (G.2.1 (F a 1)) 0)) ∨ (((0 ≤ p0.toInt ∧ p0.toInt < 3) ∧ (0 ≤ p1.toInt ∧ p1.toInt < 30) ∧ (0 ≤ p2.toInt ∧ p2.toInt < 30)) ∧ cel (mw (G.2.1 (F a 1)) 0) p0.toInt p1.toInt 0 ≠ -2000 ∧ cel (mw (G.2.1 (F a 1)) 0) p0.toInt p2.toInt 0 ≠ -2000 ∧ (-2 : Int) = -4 ∧ mw (G48.2.1 (F a 1)) 0 = (mw (G.2.1 (F a 1)) 0)) ∨ (((0 ≤ p0.toInt ∧ p0.toInt < 3) ∧ (0 ≤ p1.toInt ∧ p1.toInt < 30) ∧ (0 ≤ p2.toInt ∧ p2.toInt < 30)) ∧ cel (mw (G.2.1 (F a 1)) 0) p0.toInt p1.toInt 0 ≠ -2000 ∧ cel (mw (G.2.1 (F a 1)) 0) p0.toInt p2.toInt 0 = -2000 ∧ StR ((G.1 a 6).toInt) (-2 : Int) (G.2.1 (F a 10)) (mw (G.2.1 (F a 1)) 0) (mvR (refA (G.2.1 (F a 10))) (refT (G.2.1 (F a 10))) (refC (G.2.1 (F a 10))) p0.toInt p1.toInt p2.toInt (rmv (mw (G.2.1 (F a 1)) 0) p0.toInt p1.toInt p2.toInt) 12) (mw (G48.2.1 (F a 1)) 0)) := by
  exact Or.inr (Or.inl ⟨⟨z36, z36a, z36b⟩, by omega, rfl, by rw [c_G48_F_a_1]⟩)
theorem v_X11_rekey_51_37 {F : Nat → Nat → Nat} (a : Nat) (G : XG) (G48 : XG)
    (hM : RM (G.2.1 (F a 1)) (0))
    (c_G48_F_a_1 : G48.2.1 (F a 1) = G.2.1 (F a 1)) :
    RM (G48.2.1 (F a 1)) 0 := by
  rw [c_G48_F_a_1]; exact hM
theorem v_X11_rekey_35_38 {F : Nat → Nat → Nat} (x24 : Int32) (p2 : Int32) (G32 : XG) (a : Nat) (G : XG) (p0 : Int32) (p1 : Int32)
    (t24 : (x24.toInt = 1 ∧ 0 ≤ p2.toInt ∧ p2.toInt ≤ 29) ∨ (x24.toInt = 0 ∧ (p2.toInt < 0 ∨ 29 < p2.toInt)))
    (c27 : ¬ (x24.toInt ≠ 0))
    (c_G32_F_a_1 : G32.2.1 (F a 1) = G.2.1 (F a 1)) :
    (¬ ((0 ≤ p0.toInt ∧ p0.toInt < 3) ∧ (0 ≤ p1.toInt ∧ p1.toInt < 30) ∧ (0 ≤ p2.toInt ∧ p2.toInt < 30)) ∧ (-1 : Int) = -1 ∧ mw (G32.2.1 (F a 1)) 0 = (mw (G.2.1 (F a 1)) 0)) ∨ (((0 ≤ p0.toInt ∧ p0.toInt < 3) ∧ (0 ≤ p1.toInt ∧ p1.toInt < 30) ∧ (0 ≤ p2.toInt ∧ p2.toInt < 30)) ∧ cel (mw (G.2.1 (F a 1)) 0) p0.toInt p1.toInt 0 = -2000 ∧ (-1 : Int) = -2 ∧ mw (G32.2.1 (F a 1)) 0 = (mw (G.2.1 (F a 1)) 0)) ∨ (((0 ≤ p0.toInt ∧ p0.toInt < 3) ∧ (0 ≤ p1.toInt ∧ p1.toInt < 30) ∧ (0 ≤ p2.toInt ∧ p2.toInt < 30)) ∧ cel (mw (G.2.1 (F a 1)) 0) p0.toInt p1.toInt 0 ≠ -2000 ∧ cel (mw (G.2.1 (F a 1)) 0) p0.toInt p2.toInt 0 ≠ -2000 ∧ (-1 : Int) = -4 ∧ mw (G32.2.1 (F a 1)) 0 = (mw (G.2.1 (F a 1)) 0)) ∨ (((0 ≤ p0.toInt ∧ p0.toInt < 3) ∧ (0 ≤ p1.toInt ∧ p1.toInt < 30) ∧ (0 ≤ p2.toInt ∧ p2.toInt < 30)) ∧ cel (mw (G.2.1 (F a 1)) 0) p0.toInt p1.toInt 0 ≠ -2000 ∧ cel (mw (G.2.1 (F a 1)) 0) p0.toInt p2.toInt 0 = -2000 ∧ StR ((G.1 a 6).toInt) (-1 : Int) (G.2.1 (F a 10)) (mw (G.2.1 (F a 1)) 0) (mvR (refA (G.2.1 (F a 10))) (refT (G.2.1 (F a 10))) (refC (G.2.1 (F a 10))) p0.toInt p1.toInt p2.toInt (rmv (mw (G.2.1 (F a 1)) 0) p0.toInt p1.toInt p2.toInt) 12) (mw (G32.2.1 (F a 1)) 0)) := by
  refine Or.inl ⟨fun h => ?_, rfl, by rw [c_G32_F_a_1]⟩
  obtain ⟨h1, h2, h3⟩ := h
  have hk := h3
  clear h1 h2 h3
  omega
theorem v_X11_rekey_35_39 {F : Nat → Nat → Nat} (a : Nat) (G : XG) (G32 : XG)
    (hM : RM (G.2.1 (F a 1)) (0))
    (c_G32_F_a_1 : G32.2.1 (F a 1) = G.2.1 (F a 1)) :
    RM (G32.2.1 (F a 1)) 0 := by
  rw [c_G32_F_a_1]; exact hM
