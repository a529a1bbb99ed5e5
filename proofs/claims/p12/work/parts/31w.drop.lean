theorem z_X10_drop_1 (a0 : Int) (h0 : 0 ≤ a0 ∧ a0 < 12) : 0 ≤ a0 ∧ a0 ≤ 11 := by omega
abbrev rm_X10_drop : Room := { frames := 7, cells := 1, slots := 100, locals := 166 }
set_option maxHeartbeats 4000000 in
set_option maxRecDepth 100000 in
theorem c_X10_drop (l : Launch) (E : XE) (K : Nat → Nat) (F : Nat → Nat → Nat) (G : XG) (a : Nat) (p0 : Int32) (ha : K a = 12) : Met l yX10_drop (xw yX10_drop cX10_drop 2 (some .int)) rm_X10_drop (va_Pc [.ref a, .int p0] (XP E K F G)) (XQ E (fun v (u : XG) => ∃ r : Int32, v = .int r ∧ XFr [(F a 14, 1), (F a 2, 2)] [] [F (F a 2) 0, F (F a 2) 1] G u ∧ ((r.toInt = -2 ∧ ((p0.toInt < 0 ∨ 12 ≤ p0.toInt) ∨ G.2.2.1 (F (F a 2) 0) (p0.toInt).toNat = none) ∧ u.2.2.1 (F (F a 2) 0) = G.2.2.1 (F (F a 2) 0) ∧ u.2.2.1 (F (F a 2) 1) = G.2.2.1 (F (F a 2) 1) ∧ ((u.1 (F a 2) 2).toInt) = ((G.1 (F a 2) 2).toInt)) ∨ ((0 ≤ p0.toInt ∧ p0.toInt < 12) ∧ (∃ q : Nat, G.2.2.1 (F (F a 2) 0) (p0.toInt).toNat = some q) ∧ ((((G.1 a 18).toInt) ≠ 0 ∧ r.toInt = -3 ∧ u.2.2.1 (F (F a 2) 0) = G.2.2.1 (F (F a 2) 0) ∧ u.2.2.1 (F (F a 2) 1) = G.2.2.1 (F (F a 2) 1) ∧ ((u.1 (F a 2) 2).toInt) = ((G.1 (F a 2) 2).toInt)) ∨ (((G.1 a 18).toInt) = 0 ∧ (∀ i : Nat, u.2.2.1 (F (F a 2) 0) i = if i = (p0.toInt).toNat then none else G.2.2.1 (F (F a 2) 0) i) ∧ BO u F (F a 2) ∧ r.toInt = ((u.1 (F a 2) 2).toInt))))) ∧ (∀ (i q : Nat), u.2.2.1 (F (F a 2) 1) i = some q → (∃ j : Nat, G.2.2.1 (F (F a 2) 1) j = some q) ∨ ∃ j : Nat, u.2.2.1 (F (F a 2) 0) j = some q)) (fun u H => TW E K F u H)) 1 100 (xA E) := by
  refine x_enter (by decide) (Nat.le_of_ble_eq_true rfl) ?_
  intro p e s m args below meth c Q S hr hlk hnm hQ hP ls hl
  obtain ⟨hz, hK, hT⟩ := hP
  obtain ⟨hx, hb, -, -, -⟩ := id S
  obtain ⟨H, hT, hS, hgo⟩ : ∃ H : Heap, TW E K F G H ∧ va_S (xA E) s.heap H [] ∧ H = s.heap := ⟨_, hT, va_S.rf, rfl⟩
  rw [← hgo]
  have hl : lv_has ls 2 [(0, .ref a), (1, .int p0)] := hl
  obtain ⟨hk9999, hj9999⟩ := fkX10_14 hT ha
  obtain ⟨hk9999a, hj9999a⟩ := fkX10_2 hT ha
  obtain ⟨hk9999b, hj9999b⟩ := fkX0_0 hT hk9999a
  obtain ⟨hk9999c, hj9999c⟩ := fkX0_1 hT hk9999a
  refine lv_aload_n hx hb dX10_drop_0 rfl (lv_at hl 0 rfl) ?_
  refine gX10_14 S hK hT ha kf_X10_91 dX10_drop_1 (fun _ _ => ?_)
  refine x_cv (x_runV (b := (F a 14)) (As := []) (rest := []) S (c_X9_clear l E K F G (F a 14) hk9999) mv_X9_clear km_X10_113 rfl rfl ⟨Nat.le_of_ble_eq_true rfl, Nat.le_of_ble_eq_true rfl⟩ (rc_11 hK hT hk9999) hK (fun _ => XP.blind) (fun U hU hW => XP.at hK hz hS hT hU hW) rfl hl.1 (Nat.le_of_ble_eq_true rfl) dX10_drop_4 ⟨Nat.le_of_ble_eq_true rfl, Nat.le_of_ble_eq_true rfl⟩) hS ?_
  rintro G4 H locs ⟨hF4, t4⟩ hT hS
  have t4 : ((G4.1 (F a 14) 1).toInt) = 0 := t4
  refine lv_aload_n hx hb dX10_drop_7 rfl (lv_at hl 0 rfl) ?_
  refine gX10_2 S hK hT ha kf_X10_30 dX10_drop_8 (fun _ _ => ?_)
  refine lv_iload_n hx hb dX10_drop_11 rfl (lv_at hl 1 rfl) ?_
  refine x_clp (x_runV (b := (F a 2)) (As := [.int p0]) (rest := []) S (c_X0_get l E K F G4 H (F a 2) p0 hk9999a) mv_X0_get km_X10_159 rfl rfl ⟨Nat.le_of_ble_eq_true rfl, Nat.le_of_ble_eq_true rfl⟩ (rc_2 hK hT hk9999a) hK (fun _ => XPh.blind) (fun U hU hW => XPh.at hK hz hS hT hU hW) rfl hl.1 (Nat.le_of_ble_eq_true rfl) dX10_drop_12 ⟨Nat.le_of_ble_eq_true rfl, Nat.le_of_ble_eq_true rfl⟩) hS ?_
  rintro _ _ locs (⟨rfl, hn12⟩ | ⟨q12, rfl, hk12, ht12, hs12⟩) hS
  · refine lv_ifnonnullN hx hb dX10_drop_15 ?_
    refine lv_bipush (v := (-2)) hx hb dX10_drop_18 (by decide) ?_
    exact x_ri hx hb hr hlk hQ (Nat.le_of_ble_eq_true rfl) (Nat.le_of_ble_eq_true rfl) hS dX10_drop_20 G4 ⟨_, rfl, (XFr.call XFr.rf hF4 (xm1 0 rfl xm0) xm0 xm0), (by rw [((by decide) : Int32.toInt (-2) = (-2 : Int))] <;> exact (v_X10_drop_20_1 (F := F) a G G4 p0 hn12 (hF4.2.2 _ xn0) (hF4.2.2 _ xn0) (hF4.1 _ _ (xnj (by decide) xn0)))), (v_X10_drop_20_2 (F := F) a G G4 (hF4.2.2 _ xn0))⟩ hT
  · have ht12 : 0 ≤ p0.toInt ∧ p0.toInt < 12 := ht12
    refine lv_ifnonnull (tgt := 21) hx hb dX10_drop_15 (by decide) ?_
    refine lv_aload_n hx hb dX10_drop_21 rfl (lv_at hl 0 rfl) ?_
    refine gX10_18 S hK hT ha kf_X10_123 dX10_drop_22 (v := (G.1 a 18)) (hF4.1 _ _ (xnj (by decide) xn0)) (fun hz22 => ?_)
    refine xi_zeq (tgt := 31) hx hb (rfl : Int32.toInt (G.1 a 18) = ((G.1 a 18).toInt)) dX10_drop_25 (by decide) (fun c25 => ?_) (fun c25 => ?_)
    · refine lv_aload_n hx hb dX10_drop_31 rfl (lv_at hl 0 rfl) ?_
      refine gX10_2 S hK hT ha kf_X10_30 dX10_drop_32 (fun _ _ => ?_)
      refine lv_iload_n hx hb dX10_drop_35 rfl (lv_at hl 1 rfl) ?_
      refine x_cv0 (x_runV (b := (F a 2)) (As := [.int p0]) (rest := []) S (c_X0_strike l E K F G4 (F a 2) p0 hk9999a (z_X10_drop_1 p0.toInt ht12)) mv_X0_strike km_X10_163 rfl rfl ⟨Nat.le_of_ble_eq_true rfl, Nat.le_of_ble_eq_true rfl⟩ (rc_2 hK hT hk9999a) hK (fun _ => XP.blind) (fun U hU hW => XP.at hK hz hS hT hU hW) rfl hl.1 (Nat.le_of_ble_eq_true rfl) dX10_drop_36 ⟨Nat.le_of_ble_eq_true rfl, Nat.le_of_ble_eq_true rfl⟩) hS ?_
      rintro G36 H locs ⟨hF36, oq36, oq36a, oq36b⟩ hT hS
      refine lv_aload_n hx hb dX10_drop_39 rfl (lv_at hl 0 rfl) ?_
      refine gX10_2 S hK hT ha kf_X10_30 dX10_drop_40 (fun _ _ => ?_)
      refine x_clp (x_runV (b := (F a 2)) (As := []) (rest := []) S (c_X0_size l E K F G36 H (F a 2) hk9999a) mv_X0_size km_X10_167 rfl rfl ⟨Nat.le_of_ble_eq_true rfl, Nat.le_of_ble_eq_true rfl⟩ (rc_2 hK hT hk9999a) hK (fun _ => XPh.blind) (fun U hU hW => XPh.at hK hz hS hT hU hW) rfl hl.1 (Nat.le_of_ble_eq_true rfl) dX10_drop_43 ⟨Nat.le_of_ble_eq_true rfl, Nat.le_of_ble_eq_true rfl⟩) hS ?_
      rintro _ _ locs ⟨x43, rfl, t43⟩ hS
      have t43 : x43.toInt = ((G36.1 (F a 2) 2).toInt) := t43
      exact x_ri hx hb hr hlk hQ (Nat.le_of_ble_eq_true rfl) (Nat.le_of_ble_eq_true rfl) hS dX10_drop_46 G36 ⟨_, rfl, (XFr.call (XFr.call XFr.rf hF4 (xm1 0 rfl xm0) xm0 xm0) hF36 (xm1 1 rfl xm0) xm0 (xm1 0 rfl (xm1 1 rfl xm0))), (by rw [(t43 : Int32.toInt x43 = ((G36.1 (F a 2) 2).toInt))] <;> exact (v_X10_drop_46_3 (K := K) (F := F) a q12 G G4 G36 p0 ha hs12 oq36 oq36a t4 ht12 (xzi hz22) c25 (hF4.2.2 _ xn0))), (v_X10_drop_46_4 (F := F) a G G4 G36 oq36b (hF4.2.2 _ xn0))⟩ hT
    · refine lv_bipush (v := (-3)) hx hb dX10_drop_28 (by decide) ?_
      exact x_ri hx hb hr hlk hQ (Nat.le_of_ble_eq_true rfl) (Nat.le_of_ble_eq_true rfl) hS dX10_drop_30 G4 ⟨_, rfl, (XFr.call XFr.rf hF4 (xm1 0 rfl xm0) xm0 xm0), (by rw [((by decide) : Int32.toInt (-3) = (-3 : Int))] <;> exact (v_X10_drop_30_5 (K := K) (F := F) a q12 G G4 p0 ha hs12 t4 ht12 (xzi hz22) c25 (hF4.2.2 _ xn0) (hF4.2.2 _ xn0) (hF4.1 _ _ (xnj (by decide) xn0)))), (v_X10_drop_30_6 (F := F) a G G4 (hF4.2.2 _ xn0))⟩ hT

theorem z_X10_commit_2 (a0 : Int) (a1 : Int) (a2 : Int) (a3 : Int) (a4 : Int) (a5 : Int) (h0 : a2 ≠ 0) (h1 : a5 = 0 ∧ a4 = 0 ∧ a3 = 0) : (a2 = 0 ∧ a5 = a2 ∧ a4 = a1 ∧ a3 = a0) ∨ (a2 ≠ 0 ∧ a5 = 0 ∧ a4 = 0 ∧ a3 = 0) := by omega
theorem z_X10_commit_6 (a0 : Int) (a1 : Int) (a2 : Int) (h0 : ¬ (a2 ≠ 0)) : (a2 = 0 ∧ a2 = a2 ∧ a1 = a1 ∧ a0 = a0) ∨ (a2 ≠ 0 ∧ a2 = 0 ∧ a1 = 0 ∧ a0 = 0) := by omega
abbrev rm_X10_commit : Room := { frames := 9, cells := 8, slots := 800, locals := 216 }
set_option maxHeartbeats 4000000 in
set_option maxRecDepth 100000 in
theorem c_X10_commit (l : Launch) (E : XE) (K : Nat → Nat) (F : Nat → Nat → Nat) (G : XG) (a : Nat) (ha : K a = 12) (sw : 0 ≤ ((G.1 (F a 8) 6).toInt) ∧ ((G.1 (F a 8) 6).toInt) ≤ 1080) (ron : RO (vw (G.2.1 (F (F a 3) 0))) (aI (G.2.1 (F (F a 3) 1)))) (rob : RO (vw (G.2.1 (F (F a 4) 0))) (aI (G.2.1 (F (F a 4) 1)))) : Met l yX10_commit (xw yX10_commit cX10_commit 2 (some .int)) rm_X10_commit (va_Pc [.ref a] (XP E K F G)) (XQ E (fun v (u : XG) => ∃ r : Int32, v = .int r ∧ XFr [(F a 14, 1), (F a 14, 2), (F a 14, 3), (a, 18), (a, 17), (F a 8, 6), (F a 10, 6)] [F a 16, F (F a 10) 0, F (F a 10) 1, F (F a 10) 2, F (F a 10) 3, F (F a 10) 4, F (F a 10) 5, F (F a 3) 0, F (F a 3) 1] [] G u ∧ ((((G.1 a 18).toInt) = 0 ∧ ((u.1 a 18).toInt) = ((G.1 a 18).toInt) ∧ ((u.1 a 17).toInt) = ((G.1 a 17).toInt) ∧ ((u.1 (F a 8) 6).toInt) = ((G.1 (F a 8) 6).toInt)) ∨ (((G.1 a 18).toInt) ≠ 0 ∧ ((u.1 a 18).toInt) = 0 ∧ ((u.1 a 17).toInt) = 0 ∧ ((u.1 (F a 8) 6).toInt) = 0)) ∧ ((((G.1 a 18).toInt) = 0 ∧ r.toInt = -3 ∧ (vw (u.2.1 (F (F a 3) 0))) = (vw (G.2.1 (F (F a 3) 0)))) ∨ (((G.1 a 18).toInt) ≠ 0 ∧ (((∃ x, x ∈ qL G F (F a 8) ∧ x.2.2.2.2.1 ≠ 0 ∧ x.2.2.2.2.2 ≠ 0) ∧ r.toInt = -5 ∧ (vw (u.2.1 (F (F a 3) 0))) = (vw (G.2.1 (F (F a 4) 0)))) ∨ ((∀ x, x ∈ qL G F (F a 8) → x.2.2.2.2.1 ≠ 0 → x.2.2.2.2.2 = 0) ∧ (vw (u.2.1 (F (F a 3) 0))) = (vw (G.2.1 (F (F a 3) 0))) ∧ r.toInt = (((ltF (qL G F (F a 8))).length : Nat) : Int))))) ∧ (RO (vw (u.2.1 (F (F a 3) 0))) (aI (u.2.1 (F (F a 3) 1)))) ∧ ((((G.1 a 18).toInt) = 0 ∧ qL u F (F a 10) = qL G F (F a 10)) ∨ (((G.1 a 18).toInt) ≠ 0 ∧ ∃ ok : Int, AskR (qL G F (F a 8)) (qL u F (F a 10)) ok))) (fun u H => TW E K F u H)) 8 800 (xA E) := by
  refine x_enter (by decide) (Nat.le_of_ble_eq_true rfl) ?_
  intro p e s m args below meth c Q S hr hlk hnm hQ hP ls hl
  obtain ⟨hz, hK, hT⟩ := hP
  obtain ⟨hx, hb, -, -, -⟩ := id S
  obtain ⟨H, hT, hS, hgo⟩ : ∃ H : Heap, TW E K F G H ∧ va_S (xA E) s.heap H [] ∧ H = s.heap := ⟨_, hT, va_S.rf, rfl⟩
  rw [← hgo]
  have hl : lv_has ls 2 [(0, .ref a)] := hl
  obtain ⟨hk9999, hj9999⟩ := fkX10_14 hT ha
  obtain ⟨hk9999a, hj9999a⟩ := fkX10_8 hT ha
  obtain ⟨hk9999b, hj9999b⟩ := fkX10_10 hT ha
  obtain ⟨hk9999c, hj9999c⟩ := fkX10_16 hT ha
  obtain ⟨hk9999d, hj9999d⟩ := fkX4_0 hT hk9999b
  have hj9999e : F (F (F a 10) 0) 99 = 10 * 2 + 0 := by rw [hj9999d, hj9999b]
  obtain ⟨hk9999e, hj9999f⟩ := fkX4_1 hT hk9999b
  have hj9999g : F (F (F a 10) 1) 99 = 10 * 2 + 1 := by rw [hj9999f, hj9999b]
  obtain ⟨hk9999f, hj9999h⟩ := fkX4_2 hT hk9999b
  have hj9999i : F (F (F a 10) 2) 99 = 10 * 2 + 2 := by rw [hj9999h, hj9999b]
  obtain ⟨hk9999g, hj9999j⟩ := fkX4_3 hT hk9999b
  have hj9999k : F (F (F a 10) 3) 99 = 10 * 2 + 3 := by rw [hj9999j, hj9999b]
  obtain ⟨hk9999h, hj9999l⟩ := fkX4_4 hT hk9999b
  have hj9999m : F (F (F a 10) 4) 99 = 10 * 2 + 4 := by rw [hj9999l, hj9999b]
  obtain ⟨hk9999i, hj9999n⟩ := fkX4_5 hT hk9999b
  have hj9999o : F (F (F a 10) 5) 99 = 10 * 2 + 5 := by rw [hj9999n, hj9999b]
  obtain ⟨hk9999j, hj9999p⟩ := fkX10_3 hT ha
  obtain ⟨hk9999k, hj9999q⟩ := fkX6_0 hT hk9999j
  have hj9999r : F (F (F a 3) 0) 99 = 0 := by rw [hj9999q, hj9999p]
  obtain ⟨hk9999l, hj9999s⟩ := fkX6_1 hT hk9999j
  have hj9999t : F (F (F a 3) 1) 99 = 0 := by rw [hj9999s, hj9999p]
  obtain ⟨hk9999m, hj9999u⟩ := fkX10_4 hT ha
  obtain ⟨hk9999n, hj9999v⟩ := fkX6_0 hT hk9999m
  have hj9999w : F (F (F a 4) 0) 99 = 1 := by rw [hj9999v, hj9999u]
  obtain ⟨hk9999o, hj9999y⟩ := fkX6_1 hT hk9999m
  have hj9999z25 : F (F (F a 4) 1) 99 = 1 := by rw [hj9999y, hj9999u]
  obtain ⟨hk9999p, hj9999z26⟩ := fkX4_0 hT hk9999a
  have hj9999z27 : F (F (F a 8) 0) 99 = 10 * 0 + 0 := by rw [hj9999z26, hj9999a]
  obtain ⟨hk9999q, hj9999z28⟩ := fkX4_1 hT hk9999a
  have hj9999z29 : F (F (F a 8) 1) 99 = 10 * 0 + 1 := by rw [hj9999z28, hj9999a]
  obtain ⟨hk9999r, hj9999z30⟩ := fkX4_2 hT hk9999a
  have hj9999z31 : F (F (F a 8) 2) 99 = 10 * 0 + 2 := by rw [hj9999z30, hj9999a]
  obtain ⟨hk9999s, hj9999z32⟩ := fkX4_3 hT hk9999a
  have hj9999z33 : F (F (F a 8) 3) 99 = 10 * 0 + 3 := by rw [hj9999z32, hj9999a]
  obtain ⟨hk9999t, hj9999z34⟩ := fkX4_4 hT hk9999a
  have hj9999z35 : F (F (F a 8) 4) 99 = 10 * 0 + 4 := by rw [hj9999z34, hj9999a]
  obtain ⟨hk9999u, hj9999z36⟩ := fkX4_5 hT hk9999a
  have hj9999z37 : F (F (F a 8) 5) 99 = 10 * 0 + 5 := by rw [hj9999z36, hj9999a]
  refine lv_aload_n hx hb dX10_commit_0 rfl (lv_at hl 0 rfl) ?_
  refine gX10_14 S hK hT ha kf_X10_91 dX10_commit_1 (fun _ _ => ?_)
  refine x_cv (x_runV (b := (F a 14)) (As := []) (rest := []) S (c_X9_clear l E K F G (F a 14) hk9999) mv_X9_clear km_X10_113 rfl rfl ⟨Nat.le_of_ble_eq_true rfl, Nat.le_of_ble_eq_true rfl⟩ (rc_11 hK hT hk9999) hK (fun _ => XP.blind) (fun U hU hW => XP.at hK hz hS hT hU hW) rfl hl.1 (Nat.le_of_ble_eq_true rfl) dX10_commit_4 ⟨Nat.le_of_ble_eq_true rfl, Nat.le_of_ble_eq_true rfl⟩) hS ?_
  rintro G4 H locs ⟨hF4, t4⟩ hT hS
  have t4 : ((G4.1 (F a 14) 1).toInt) = 0 := t4
  refine lv_aload_n hx hb dX10_commit_7 rfl (lv_at hl 0 rfl) ?_
  refine gX10_18 S hK hT ha kf_X10_123 dX10_commit_8 (v := (G.1 a 18)) (hF4.1 _ _ (xnj (by decide) xn0)) (fun hz8 => ?_)
  refine xi_zne (tgt := 17) hx hb (rfl : Int32.toInt (G.1 a 18) = ((G.1 a 18).toInt)) dX10_commit_11 (by decide) (fun c11 => ?_) (fun c11 => ?_)
  · refine lv_aload_n hx hb dX10_commit_17 rfl (lv_at hl 0 rfl) ?_
    refine lv_aload_n hx hb dX10_commit_18 rfl (lv_at hl 0 rfl) ?_
    refine gX10_8 S hK hT ha kf_X10_57 dX10_commit_19 (fun _ _ => ?_)
    refine x_cl (x_runV (b := a) (As := [.ref (F a 8)]) (rest := []) S (c_X10_askToCommit l E K F G4 a (F a 8) ha hk9999a (by rw [(show (G4.1 (F a 8) 6).toInt = ((G.1 (F a 8) 6).toInt) from (congrArg Int32.toInt (hF4.1 _ _ (xnj (by decide) xn0))).trans (rfl : Int32.toInt (G.1 (F a 8) 6) = ((G.1 (F a 8) 6).toInt)))] <;> exact (sw)) (v_X10_commit_22_1 (K := K) (F := F) a G G4 ha hk9999 hj9999 hk9999a hj9999a hk9999b hj9999b hk9999c hj9999c hk9999d hj9999e hk9999e hj9999g hk9999f hj9999i hk9999g hj9999k hk9999h hj9999m hk9999i hj9999o hk9999j hj9999p hk9999k hj9999r hk9999l hj9999t hk9999m hj9999u hk9999n hj9999w hk9999o hj9999z25 hk9999p hj9999z27 hk9999q hj9999z29 hk9999r hj9999z31 hk9999s hj9999z33 hk9999t hj9999z35 hk9999u hj9999z37 sw t4 (xzi hz8) c11)) mv_X10_askToCommit km_X10_225 rfl rfl ⟨Nat.le_of_ble_eq_true rfl, Nat.le_of_ble_eq_true rfl⟩ (rc_12 hK hT ha) hK (fun _ => XP.blind) (fun U hU hW => XP.at hK hz hS hT hU hW) rfl hl.1 (Nat.le_of_ble_eq_true rfl) dX10_commit_22 ⟨Nat.le_of_ble_eq_true rfl, Nat.le_of_ble_eq_true rfl⟩) hS ?_
    rintro _ G22 H locs ⟨x22, rfl, b22, hF22, t22, oq22, oq22a⟩ hT hS
    have t22 : 0 ≤ ((G22.1 (F a 10) 6).toInt) ∧ ((G22.1 (F a 10) 6).toInt) ≤ 1080 := t22
    refine lv_istore_n (lv' := [(1, .int x22), (0, .ref a)]) hx hb dX10_commit_25 rfl hl (by decide) rfl (fun ls hl => ?_)
    refine lv_iload_n hx hb dX10_commit_26 rfl (lv_at hl 0 rfl) ?_
    refine xi_zne (tgt := 41) hx hb (rfl : Int32.toInt x22 = x22.toInt) dX10_commit_27 (by decide) (fun c27 => ?_) (fun c27 => ?_)
    · refine lv_aload_n hx hb dX10_commit_41 rfl (lv_at hl 1 rfl) ?_
      refine x_cv0 (x_runV (b := a) (As := []) (rest := []) S (c_X10_close l E K F G22 a ha) mv_X10_close km_X10_229 rfl rfl ⟨Nat.le_of_ble_eq_true rfl, Nat.le_of_ble_eq_true rfl⟩ (rc_12 hK hT ha) hK (fun _ => XP.blind) (fun U hU hW => XP.at hK hz hS hT hU hW) rfl hl.1 (Nat.le_of_ble_eq_true rfl) dX10_commit_42 ⟨Nat.le_of_ble_eq_true rfl, Nat.le_of_ble_eq_true rfl⟩) hS ?_
      rintro G42 H locs ⟨hF42, t42⟩ hT hS
      have t42 : ((G42.1 a 18).toInt) = 0 ∧ ((G42.1 a 17).toInt) = 0 ∧ ((G42.1 (F a 8) 6).toInt) = 0 := t42
      refine lv_iload_n hx hb dX10_commit_45 rfl (lv_at hl 0 rfl) ?_
      refine xi_zeq (tgt := 59) hx hb (rfl : Int32.toInt x22 = x22.toInt) dX10_commit_46 (by decide) (fun c46 => ?_) (fun c46 => ?_)
      · refine lv_bipush (v := (-5)) hx hb dX10_commit_59 (by decide) ?_
        exact x_ri hx hb hr hlk hQ (Nat.le_of_ble_eq_true rfl) (Nat.le_of_ble_eq_true rfl) hS dX10_commit_61 G42 ⟨_, rfl, (XFr.call (XFr.call (XFr.call XFr.rf hF4 (xm1 0 rfl xm0) xm0 xm0) hF22 (xm1 0 rfl (xm1 1 rfl (xm1 2 rfl (xm1 6 rfl xm0)))) (xm1 0 rfl (xm1 1 rfl (xm1 2 rfl (xm1 3 rfl (xm1 4 rfl (xm1 5 rfl (xm1 6 rfl xm0))))))) xm0) hF42 (xm1 3 rfl (xm1 4 rfl (xm1 5 rfl xm0))) xm0 xm0), (z_X10_commit_2 ((G.1 (F a 8) 6).toInt) ((G.1 a 17).toInt) ((G.1 a 18).toInt) ((G42.1 (F a 8) 6).toInt) ((G42.1 a 17).toInt) ((G42.1 a 18).toInt) c11 t42), (by rw [((by decide) : Int32.toInt (-5) = (-5 : Int))] <;> exact (v_X10_commit_61_2 (K := K) (F := F) a G G4 G22 G42 x22 ha oq22 oq22a sw t4 (xzi hz8) c11 t22 (xzi b22) c27 t42 c46 (hF4.2.1 _ xn0) (hF4.2.1 _ xn0) (hF4.2.1 _ xn0) (hF4.2.1 _ xn0) (hF4.2.1 _ xn0) (hF4.2.1 _ xn0) ((hF42.2.1 _ xn0).trans ((hF22.2.1 _ (xn1 (xne_k hk9999k hk9999c (by decide)) (xn1 (xne_k hk9999k hk9999d (by decide)) (xn1 (xne_k hk9999k hk9999e (by decide)) (xn1 (xne_k hk9999k hk9999f (by decide)) (xn1 (xne_k hk9999k hk9999g (by decide)) (xn1 (xne_k hk9999k hk9999h (by decide)) (xn1 (xne_k hk9999k hk9999i (by decide)) xn0)))))))).trans (hF4.2.1 _ xn0))) (hF4.1 _ _ (xnj (by decide) xn0)))), (v_X10_commit_61_3 (F := F) a G G42 ron ((hF42.2.1 _ xn0).trans ((hF22.2.1 _ (xn1 (xne_k hk9999k hk9999c (by decide)) (xn1 (xne_k hk9999k hk9999d (by decide)) (xn1 (xne_k hk9999k hk9999e (by decide)) (xn1 (xne_k hk9999k hk9999f (by decide)) (xn1 (xne_k hk9999k hk9999g (by decide)) (xn1 (xne_k hk9999k hk9999h (by decide)) (xn1 (xne_k hk9999k hk9999i (by decide)) xn0)))))))).trans (hF4.2.1 _ xn0))) ((hF42.2.1 _ xn0).trans ((hF22.2.1 _ (xn1 (xne_k hk9999l hk9999c (by decide)) (xn1 (xne_k hk9999l hk9999d (by decide)) (xn1 (xne_k hk9999l hk9999e (by decide)) (xn1 (xne_k hk9999l hk9999f (by decide)) (xn1 (xne_k hk9999l hk9999g (by decide)) (xn1 (xne_k hk9999l hk9999h (by decide)) (xn1 (xne_k hk9999l hk9999i (by decide)) xn0)))))))).trans (hF4.2.1 _ xn0)))), (v_X10_commit_61_4 (K := K) (F := F) a G G4 G22 G42 x22 ha oq22 oq22a sw t4 (xzi hz8) c11 t22 (xzi b22) c27 t42 c46 (hF4.2.1 _ xn0) (hF4.2.1 _ xn0) (hF4.2.1 _ xn0) (hF4.2.1 _ xn0) (hF4.2.1 _ xn0) (hF4.2.1 _ xn0) (hF42.2.1 _ xn0) (hF42.2.1 _ xn0) (hF42.2.1 _ xn0) (hF42.2.1 _ xn0) (hF42.2.1 _ xn0) (hF42.2.1 _ xn0) (hF4.1 _ _ (xnj (by decide) xn0)) (hF42.1 _ _ (xnj (by decide) (xnj (by decide) (xna (xne_j hj9999b hj9999a (by first | decide | omega)) xn0)))))⟩ hT
      · refine lv_aload_n hx hb dX10_commit_49 rfl (lv_at hl 1 rfl) ?_
        refine gX10_10 S hK hT ha kf_X10_64 dX10_commit_50 (fun _ _ => ?_)
        refine x_clp (x_runV (b := (F a 10)) (As := []) (rest := []) S (c_X4_size l E K F G42 H (F a 10) hk9999b) mv_X4_size km_X10_232 rfl rfl ⟨Nat.le_of_ble_eq_true rfl, Nat.le_of_ble_eq_true rfl⟩ (rc_6 hK hT hk9999b) hK (fun _ => XPh.blind) (fun U hU hW => XPh.at hK hz hS hT hU hW) rfl hl.1 (Nat.le_of_ble_eq_true rfl) dX10_commit_53 ⟨Nat.le_of_ble_eq_true rfl, Nat.le_of_ble_eq_true rfl⟩) hS ?_
        rintro _ _ locs ⟨x53, rfl, t53⟩ hS
        have t53 : x53.toInt = ((G22.1 (F a 10) 6).toInt) := by rw [(show (G42.1 (F a 10) 6).toInt = ((G22.1 (F a 10) 6).toInt) from (congrArg Int32.toInt (hF42.1 _ _ (xnj (by decide) (xnj (by decide) (xna (xne_j hj9999b hj9999a (by first | decide | omega)) xn0))))).trans (rfl : Int32.toInt (G22.1 (F a 10) 6) = ((G22.1 (F a 10) 6).toInt)))] at t53; exact t53
        refine lv_goto (tgt := 61) hx hb dX10_commit_56 (by decide) ?_
        exact x_ri hx hb hr hlk hQ (Nat.le_of_ble_eq_true rfl) (Nat.le_of_ble_eq_true rfl) hS dX10_commit_61 G42 ⟨_, rfl, (XFr.call (XFr.call (XFr.call XFr.rf hF4 (xm1 0 rfl xm0) xm0 xm0) hF22 (xm1 0 rfl (xm1 1 rfl (xm1 2 rfl (xm1 6 rfl xm0)))) (xm1 0 rfl (xm1 1 rfl (xm1 2 rfl (xm1 3 rfl (xm1 4 rfl (xm1 5 rfl (xm1 6 rfl xm0))))))) xm0) hF42 (xm1 3 rfl (xm1 4 rfl (xm1 5 rfl xm0))) xm0 xm0), (z_X10_commit_2 ((G.1 (F a 8) 6).toInt) ((G.1 a 17).toInt) ((G.1 a 18).toInt) ((G42.1 (F a 8) 6).toInt) ((G42.1 a 17).toInt) ((G42.1 a 18).toInt) c11 t42), (by rw [(t53 : Int32.toInt x53 = ((G22.1 (F a 10) 6).toInt))] <;> exact (v_X10_commit_61_5 (K := K) (F := F) a G G4 G22 G42 x22 ha oq22 oq22a sw t4 (xzi hz8) c11 t22 (xzi b22) c27 t42 c46 (hF4.2.1 _ xn0) (hF4.2.1 _ xn0) (hF4.2.1 _ xn0) (hF4.2.1 _ xn0) (hF4.2.1 _ xn0) (hF4.2.1 _ xn0) ((hF42.2.1 _ xn0).trans ((hF22.2.1 _ (xn1 (xne_k hk9999k hk9999c (by decide)) (xn1 (xne_k hk9999k hk9999d (by decide)) (xn1 (xne_k hk9999k hk9999e (by decide)) (xn1 (xne_k hk9999k hk9999f (by decide)) (xn1 (xne_k hk9999k hk9999g (by decide)) (xn1 (xne_k hk9999k hk9999h (by decide)) (xn1 (xne_k hk9999k hk9999i (by decide)) xn0)))))))).trans (hF4.2.1 _ xn0))) (hF4.1 _ _ (xnj (by decide) xn0)))), (v_X10_commit_61_6 (F := F) a G G42 ron ((hF42.2.1 _ xn0).trans ((hF22.2.1 _ (xn1 (xne_k hk9999k hk9999c (by decide)) (xn1 (xne_k hk9999k hk9999d (by decide)) (xn1 (xne_k hk9999k hk9999e (by decide)) (xn1 (xne_k hk9999k hk9999f (by decide)) (xn1 (xne_k hk9999k hk9999g (by decide)) (xn1 (xne_k hk9999k hk9999h (by decide)) (xn1 (xne_k hk9999k hk9999i (by decide)) xn0)))))))).trans (hF4.2.1 _ xn0))) ((hF42.2.1 _ xn0).trans ((hF22.2.1 _ (xn1 (xne_k hk9999l hk9999c (by decide)) (xn1 (xne_k hk9999l hk9999d (by decide)) (xn1 (xne_k hk9999l hk9999e (by decide)) (xn1 (xne_k hk9999l hk9999f (by decide)) (xn1 (xne_k hk9999l hk9999g (by decide)) (xn1 (xne_k hk9999l hk9999h (by decide)) (xn1 (xne_k hk9999l hk9999i (by decide)) xn0)))))))).trans (hF4.2.1 _ xn0)))), (v_X10_commit_61_7 (K := K) (F := F) a G G4 G22 G42 x22 ha oq22 oq22a sw t4 (xzi hz8) c11 t22 (xzi b22) c27 t42 c46 (hF4.2.1 _ xn0) (hF4.2.1 _ xn0) (hF4.2.1 _ xn0) (hF4.2.1 _ xn0) (hF4.2.1 _ xn0) (hF4.2.1 _ xn0) (hF42.2.1 _ xn0) (hF42.2.1 _ xn0) (hF42.2.1 _ xn0) (hF42.2.1 _ xn0) (hF42.2.1 _ xn0) (hF42.2.1 _ xn0) (hF4.1 _ _ (xnj (by decide) xn0)) (hF42.1 _ _ (xnj (by decide) (xnj (by decide) (xna (xne_j hj9999b hj9999a (by first | decide | omega)) xn0)))))⟩ hT
    · refine lv_aload_n hx hb dX10_commit_30 rfl (lv_at hl 1 rfl) ?_
      refine gX10_3 S hK hT ha kf_X10_37 dX10_commit_31 (fun _ _ => ?_)
      refine lv_aload_n hx hb dX10_commit_34 rfl (lv_at hl 1 rfl) ?_
      refine gX10_4 S hK hT ha kf_X10_41 dX10_commit_35 (fun _ _ => ?_)
      refine x_cv0 (x_runV (b := (F a 3)) (As := [.ref (F a 4)]) (rest := []) S (c_X6_copy l E K F G22 (F a 3) (F a 4) hk9999j hk9999m (v_X10_commit_38_8 (F := F) a G G22 ron rob ((hF22.2.1 _ (xn1 (xne_k hk9999n hk9999c (by decide)) (xn1 (xne_k hk9999n hk9999d (by decide)) (xn1 (xne_k hk9999n hk9999e (by decide)) (xn1 (xne_k hk9999n hk9999f (by decide)) (xn1 (xne_k hk9999n hk9999g (by decide)) (xn1 (xne_k hk9999n hk9999h (by decide)) (xn1 (xne_k hk9999n hk9999i (by decide)) xn0)))))))).trans (hF4.2.1 _ xn0)) ((hF22.2.1 _ (xn1 (xne_k hk9999o hk9999c (by decide)) (xn1 (xne_k hk9999o hk9999d (by decide)) (xn1 (xne_k hk9999o hk9999e (by decide)) (xn1 (xne_k hk9999o hk9999f (by decide)) (xn1 (xne_k hk9999o hk9999g (by decide)) (xn1 (xne_k hk9999o hk9999h (by decide)) (xn1 (xne_k hk9999o hk9999i (by decide)) xn0)))))))).trans (hF4.2.1 _ xn0)))) mv_X6_copy km_X10_195 rfl rfl ⟨Nat.le_of_ble_eq_true rfl, Nat.le_of_ble_eq_true rfl⟩ (rc_8 hK hT hk9999j) hK (fun _ => XP.blind) (fun U hU hW => XP.at hK hz hS hT hU hW) rfl hl.1 (Nat.le_of_ble_eq_true rfl) dX10_commit_38 ⟨Nat.le_of_ble_eq_true rfl, Nat.le_of_ble_eq_true rfl⟩) hS ?_
      rintro G38 H locs ⟨hF38, oq38, oq38a⟩ hT hS
      have oq38 : (vw (G38.2.1 (F (F a 3) 0))) = (vw (G.2.1 (F (F a 4) 0))) := by simp only [(show G22.2.1 (F (F a 4) 0) = G.2.1 (F (F a 4) 0) from ((hF22.2.1 _ (xn1 (xne_k hk9999n hk9999c (by decide)) (xn1 (xne_k hk9999n hk9999d (by decide)) (xn1 (xne_k hk9999n hk9999e (by decide)) (xn1 (xne_k hk9999n hk9999f (by decide)) (xn1 (xne_k hk9999n hk9999g (by decide)) (xn1 (xne_k hk9999n hk9999h (by decide)) (xn1 (xne_k hk9999n hk9999i (by decide)) xn0)))))))).trans (hF4.2.1 _ xn0)))] at oq38; exact oq38
      refine lv_aload_n hx hb dX10_commit_41 rfl (lv_at hl 1 rfl) ?_
      refine x_cv0 (x_runV (b := a) (As := []) (rest := []) S (c_X10_close l E K F G38 a ha) mv_X10_close km_X10_229 rfl rfl ⟨Nat.le_of_ble_eq_true rfl, Nat.le_of_ble_eq_true rfl⟩ (rc_12 hK hT ha) hK (fun _ => XP.blind) (fun U hU hW => XP.at hK hz hS hT hU hW) rfl hl.1 (Nat.le_of_ble_eq_true rfl) dX10_commit_42 ⟨Nat.le_of_ble_eq_true rfl, Nat.le_of_ble_eq_true rfl⟩) hS ?_
      rintro G42 H locs ⟨hF42, t42⟩ hT hS
      have t42 : ((G42.1 a 18).toInt) = 0 ∧ ((G42.1 a 17).toInt) = 0 ∧ ((G42.1 (F a 8) 6).toInt) = 0 := t42
      refine lv_iload_n hx hb dX10_commit_45 rfl (lv_at hl 0 rfl) ?_
      refine xi_zeq (tgt := 59) hx hb (rfl : Int32.toInt x22 = x22.toInt) dX10_commit_46 (by decide) (fun c46 => ?_) (fun c46 => ?_)
      · refine lv_bipush (v := (-5)) hx hb dX10_commit_59 (by decide) ?_
        exact x_ri hx hb hr hlk hQ (Nat.le_of_ble_eq_true rfl) (Nat.le_of_ble_eq_true rfl) hS dX10_commit_61 G42 ⟨_, rfl, (XFr.call (XFr.call (XFr.call (XFr.call XFr.rf hF4 (xm1 0 rfl xm0) xm0 xm0) hF22 (xm1 0 rfl (xm1 1 rfl (xm1 2 rfl (xm1 6 rfl xm0)))) (xm1 0 rfl (xm1 1 rfl (xm1 2 rfl (xm1 3 rfl (xm1 4 rfl (xm1 5 rfl (xm1 6 rfl xm0))))))) xm0) hF38 xm0 (xm1 7 rfl (xm1 8 rfl xm0)) xm0) hF42 (xm1 3 rfl (xm1 4 rfl (xm1 5 rfl xm0))) xm0 xm0), (z_X10_commit_2 ((G.1 (F a 8) 6).toInt) ((G.1 a 17).toInt) ((G.1 a 18).toInt) ((G42.1 (F a 8) 6).toInt) ((G42.1 a 17).toInt) ((G42.1 a 18).toInt) c11 t42), (by rw [((by decide) : Int32.toInt (-5) = (-5 : Int))] <;> exact (v_X10_commit_61_9 (K := K) (F := F) a G G4 G22 G38 G42 x22 ha oq22 oq22a oq38 sw t4 (xzi hz8) c11 t22 (xzi b22) c27 t42 c46 (hF4.2.1 _ xn0) (hF4.2.1 _ xn0) (hF4.2.1 _ xn0) (hF4.2.1 _ xn0) (hF4.2.1 _ xn0) (hF4.2.1 _ xn0) (hF42.2.1 _ xn0) (hF4.1 _ _ (xnj (by decide) xn0)))), (v_X10_commit_61_10 (F := F) a G G38 G42 ron oq38a (hF42.2.1 _ xn0) (hF42.2.1 _ xn0)), (v_X10_commit_61_11 (K := K) (F := F) a G G4 G22 G42 x22 ha oq22 oq22a sw t4 (xzi hz8) c11 t22 (xzi b22) c27 t42 c46 (hF4.2.1 _ xn0) (hF4.2.1 _ xn0) (hF4.2.1 _ xn0) (hF4.2.1 _ xn0) (hF4.2.1 _ xn0) (hF4.2.1 _ xn0) ((hF42.2.1 _ xn0).trans (hF38.2.1 _ (xn1 (xne_k hk9999d hk9999k (by decide)) (xn1 (xne_k hk9999d hk9999l (by decide)) xn0)))) ((hF42.2.1 _ xn0).trans (hF38.2.1 _ (xn1 (xne_k hk9999e hk9999k (by decide)) (xn1 (xne_k hk9999e hk9999l (by decide)) xn0)))) ((hF42.2.1 _ xn0).trans (hF38.2.1 _ (xn1 (xne_k hk9999f hk9999k (by decide)) (xn1 (xne_k hk9999f hk9999l (by decide)) xn0)))) ((hF42.2.1 _ xn0).trans (hF38.2.1 _ (xn1 (xne_k hk9999g hk9999k (by decide)) (xn1 (xne_k hk9999g hk9999l (by decide)) xn0)))) ((hF42.2.1 _ xn0).trans (hF38.2.1 _ (xn1 (xne_k hk9999h hk9999k (by decide)) (xn1 (xne_k hk9999h hk9999l (by decide)) xn0)))) ((hF42.2.1 _ xn0).trans (hF38.2.1 _ (xn1 (xne_k hk9999i hk9999k (by decide)) (xn1 (xne_k hk9999i hk9999l (by decide)) xn0)))) (hF4.1 _ _ (xnj (by decide) xn0)) ((hF42.1 _ _ (xnj (by decide) (xnj (by decide) (xna (xne_j hj9999b hj9999a (by first | decide | omega)) xn0)))).trans (hF38.1 _ _ xn0)))⟩ hT
      · refine lv_aload_n hx hb dX10_commit_49 rfl (lv_at hl 1 rfl) ?_
        refine gX10_10 S hK hT ha kf_X10_64 dX10_commit_50 (fun _ _ => ?_)
        refine x_clp (x_runV (b := (F a 10)) (As := []) (rest := []) S (c_X4_size l E K F G42 H (F a 10) hk9999b) mv_X4_size km_X10_232 rfl rfl ⟨Nat.le_of_ble_eq_true rfl, Nat.le_of_ble_eq_true rfl⟩ (rc_6 hK hT hk9999b) hK (fun _ => XPh.blind) (fun U hU hW => XPh.at hK hz hS hT hU hW) rfl hl.1 (Nat.le_of_ble_eq_true rfl) dX10_commit_53 ⟨Nat.le_of_ble_eq_true rfl, Nat.le_of_ble_eq_true rfl⟩) hS ?_
        rintro _ _ locs ⟨x53, rfl, t53⟩ hS
        have t53 : x53.toInt = ((G22.1 (F a 10) 6).toInt) := by rw [(show (G42.1 (F a 10) 6).toInt = ((G22.1 (F a 10) 6).toInt) from (congrArg Int32.toInt ((hF42.1 _ _ (xnj (by decide) (xnj (by decide) (xna (xne_j hj9999b hj9999a (by first | decide | omega)) xn0)))).trans (hF38.1 _ _ xn0))).trans (rfl : Int32.toInt (G22.1 (F a 10) 6) = ((G22.1 (F a 10) 6).toInt)))] at t53; exact t53
        refine lv_goto (tgt := 61) hx hb dX10_commit_56 (by decide) ?_
        exact x_ri hx hb hr hlk hQ (Nat.le_of_ble_eq_true rfl) (Nat.le_of_ble_eq_true rfl) hS dX10_commit_61 G42 ⟨_, rfl, (XFr.call (XFr.call (XFr.call (XFr.call XFr.rf hF4 (xm1 0 rfl xm0) xm0 xm0) hF22 (xm1 0 rfl (xm1 1 rfl (xm1 2 rfl (xm1 6 rfl xm0)))) (xm1 0 rfl (xm1 1 rfl (xm1 2 rfl (xm1 3 rfl (xm1 4 rfl (xm1 5 rfl (xm1 6 rfl xm0))))))) xm0) hF38 xm0 (xm1 7 rfl (xm1 8 rfl xm0)) xm0) hF42 (xm1 3 rfl (xm1 4 rfl (xm1 5 rfl xm0))) xm0 xm0), (z_X10_commit_2 ((G.1 (F a 8) 6).toInt) ((G.1 a 17).toInt) ((G.1 a 18).toInt) ((G42.1 (F a 8) 6).toInt) ((G42.1 a 17).toInt) ((G42.1 a 18).toInt) c11 t42), (by rw [(t53 : Int32.toInt x53 = ((G22.1 (F a 10) 6).toInt))] <;> exact (v_X10_commit_61_12 (K := K) (F := F) a G G4 G22 G38 G42 x22 ha oq22 oq22a oq38 sw t4 (xzi hz8) c11 t22 (xzi b22) c27 t42 c46 (hF4.2.1 _ xn0) (hF4.2.1 _ xn0) (hF4.2.1 _ xn0) (hF4.2.1 _ xn0) (hF4.2.1 _ xn0) (hF4.2.1 _ xn0) (hF42.2.1 _ xn0) (hF4.1 _ _ (xnj (by decide) xn0)))), (v_X10_commit_61_13 (F := F) a G G38 G42 ron oq38a (hF42.2.1 _ xn0) (hF42.2.1 _ xn0)), (v_X10_commit_61_14 (K := K) (F := F) a G G4 G22 G42 x22 ha oq22 oq22a sw t4 (xzi hz8) c11 t22 (xzi b22) c27 t42 c46 (hF4.2.1 _ xn0) (hF4.2.1 _ xn0) (hF4.2.1 _ xn0) (hF4.2.1 _ xn0) (hF4.2.1 _ xn0) (hF4.2.1 _ xn0) ((hF42.2.1 _ xn0).trans (hF38.2.1 _ (xn1 (xne_k hk9999d hk9999k (by decide)) (xn1 (xne_k hk9999d hk9999l (by decide)) xn0)))) ((hF42.2.1 _ xn0).trans (hF38.2.1 _ (xn1 (xne_k hk9999e hk9999k (by decide)) (xn1 (xne_k hk9999e hk9999l (by decide)) xn0)))) ((hF42.2.1 _ xn0).trans (hF38.2.1 _ (xn1 (xne_k hk9999f hk9999k (by decide)) (xn1 (xne_k hk9999f hk9999l (by decide)) xn0)))) ((hF42.2.1 _ xn0).trans (hF38.2.1 _ (xn1 (xne_k hk9999g hk9999k (by decide)) (xn1 (xne_k hk9999g hk9999l (by decide)) xn0)))) ((hF42.2.1 _ xn0).trans (hF38.2.1 _ (xn1 (xne_k hk9999h hk9999k (by decide)) (xn1 (xne_k hk9999h hk9999l (by decide)) xn0)))) ((hF42.2.1 _ xn0).trans (hF38.2.1 _ (xn1 (xne_k hk9999i hk9999k (by decide)) (xn1 (xne_k hk9999i hk9999l (by decide)) xn0)))) (hF4.1 _ _ (xnj (by decide) xn0)) ((hF42.1 _ _ (xnj (by decide) (xnj (by decide) (xna (xne_j hj9999b hj9999a (by first | decide | omega)) xn0)))).trans (hF38.1 _ _ xn0)))⟩ hT
  · refine lv_bipush (v := (-3)) hx hb dX10_commit_14 (by decide) ?_
    exact x_ri hx hb hr hlk hQ (Nat.le_of_ble_eq_true rfl) (Nat.le_of_ble_eq_true rfl) hS dX10_commit_16 G4 ⟨_, rfl, (XFr.call XFr.rf hF4 (xm1 0 rfl xm0) xm0 xm0), (by rw [(show (G4.1 a 18).toInt = ((G.1 a 18).toInt) from (congrArg Int32.toInt (hF4.1 _ _ (xnj (by decide) xn0))).trans (rfl : Int32.toInt (G.1 a 18) = ((G.1 a 18).toInt))), (show (G4.1 a 17).toInt = ((G.1 a 17).toInt) from (congrArg Int32.toInt (hF4.1 _ _ (xnj (by decide) xn0))).trans (rfl : Int32.toInt (G.1 a 17) = ((G.1 a 17).toInt))), (show (G4.1 (F a 8) 6).toInt = ((G.1 (F a 8) 6).toInt) from (congrArg Int32.toInt (hF4.1 _ _ (xnj (by decide) xn0))).trans (rfl : Int32.toInt (G.1 (F a 8) 6) = ((G.1 (F a 8) 6).toInt)))] <;> exact (z_X10_commit_6 ((G.1 (F a 8) 6).toInt) ((G.1 a 17).toInt) ((G.1 a 18).toInt) c11)), (by rw [((by decide) : Int32.toInt (-3) = (-3 : Int))] <;> exact (v_X10_commit_16_15 (K := K) (F := F) a G G4 ha sw t4 (xzi hz8) c11 (hF4.2.1 _ xn0))), (v_X10_commit_16_16 (F := F) a G G4 ron (hF4.2.1 _ xn0) (hF4.2.1 _ xn0)), (v_X10_commit_16_17 (K := K) (F := F) a G G4 ha sw t4 (xzi hz8) c11 (hF4.2.1 _ xn0) (hF4.2.1 _ xn0) (hF4.2.1 _ xn0) (hF4.2.1 _ xn0) (hF4.2.1 _ xn0) (hF4.2.1 _ xn0) (hF4.1 _ _ (xnj (by decide) xn0)))⟩ hT

