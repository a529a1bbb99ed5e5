theorem z_X10_drop_1 (a0 : Int) (h0 : 0 ≤ a0 ∧ a0 < 12) : 0 ≤ a0 ∧ a0 ≤ 11 := by omega
abbrev rm_X10_drop : Room := { frames := 7, cells := 1, slots := 100, locals := 166 }
set_option maxHeartbeats 4000000 in
set_option maxRecDepth 100000 in
theorem c_X10_drop (l : Launch) (E : XE) (K : Nat → Nat) (F : Nat → Nat → Nat) (G : XG) (a : Nat) (p0 : Int32) (ha : K a = 12) : Met l yX10_drop (xw yX10_drop cX10_drop 2 (some .int)) rm_X10_drop (va_Pc [.ref a, .int p0] (XP E K F G)) (XQ E (fun v (u : XG) => ∃ r : Int32, v = .int r ∧ XFr [(F a 14, 1), (F a 2, 2)] [] [F (F a 2) 0, F (F a 2) 1] G u ∧ ((r.toInt = -2 ∧ ((p0.toInt < 0 ∨ 12 ≤ p0.toInt) ∨ G.2.2.1 (F (F a 2) 0) (p0.toInt).toNat = none) ∧ u.2.2.1 (F (F a 2) 0) = G.2.2.1 (F (F a 2) 0) ∧ u.2.2.1 (F (F a 2) 1) = G.2.2.1 (F (F a 2) 1) ∧ ((u.1 (F a 2) 2).toInt) = ((G.1 (F a 2) 2).toInt)) ∨ ((0 ≤ p0.toInt ∧ p0.toInt < 12) ∧ (∃ q : Nat, G.2.2.1 (F (F a 2) 0) (p0.toInt).toNat = some q) ∧ ((((G.1 a 18).toInt) ≠ 0 ∧ r.toInt = -3 ∧ u.2.2.1 (F (F a 2) 0) = G.2.2.1 (F (F a 2) 0) ∧ u.2.2.1 (F (F a 2) 1) = G.2.2.1 (F (F a 2) 1) ∧ ((u.1 (F a 2) 2).toInt) = ((G.1 (F a 2) 2).toInt)) ∨ (((G.1 a 18).toInt) = 0 ∧ (∀ i : Nat, u.2.2.1 (F (F a 2) 0) i = if i = (p0.toInt).toNat then none else G.2.2.1 (F (F a 2) 0) i) ∧ BO u F (F a 2) ∧ r.toInt = ((u.1 (F a 2) 2).toInt))))) ∧ (∀ (i q : Nat), u.2.2.1 (F (F a 2) 1) i = some q → (∃ j : Nat, G.2.2.1 (F (F a 2) 1) j = some q) ∨ ∃ j : Nat, u.2.2.1 (F (F a 2) 0) j = some q)) (fun u H => TW E K F u H)) 1 100 (xA E) := by
  refine x_enter (by decide) (Nat.le_of_ble_eq_true rfl) ?_
  intro p e s m args below meth c Q S hr hlk hnm hQ hP ls hl
  obtain ⟨hz, hK, hT⟩ := hP
  obtain ⟨hx, hb, -, -, -⟩ := id S
  obtain ⟨H, hT, hS, hgo⟩ : ∃ H : Heap, TW E K F G H ∧ va_S (xA E) s.heap H [] ∧ H = s.heap := ⟨_, hT, va_S.rf, rfl⟩
  rw [← hgo]
  have hl : lv_has ls 2 [(0, .ref a), (1, .int p0)] := hl
  obtain ⟨hk9999, hj9999⟩ := fkX10_14 hT ha
  obtain ⟨hk9999a, hj9999a⟩ := fkX10_2 hT ha
  obtain ⟨hk9999b, hj9999b⟩ := fkX0_0 hT hk9999a
  obtain ⟨hk9999c, hj9999c⟩ := fkX0_1 hT hk9999a
  refine lv_aload_n hx hb dX10_drop_0 rfl (lv_at hl 0 rfl) ?_
  refine gX10_14 S hK hT ha kf_X10_91 dX10_drop_1 (fun _ _ => ?_)
  refine x_cv (x_runV (b := (F a 14)) (As := []) (rest := []) S (c_X9_clear l E K F G (F a 14) hk9999) mv_X9_clear km_X10_113 rfl rfl ⟨Nat.le_of_ble_eq_true rfl, Nat.le_of_ble_eq_true rfl⟩ (rc_11 hK hT hk9999) hK (fun _ => XP.blind) (fun U hU hW => XP.at hK hz hS hT hU hW) rfl hl.1 (Nat.le_of_ble_eq_true rfl) dX10_drop_4 ⟨Nat.le_of_ble_eq_true rfl, Nat.le_of_ble_eq_true rfl⟩) hS ?_
  rintro G4 H locs ⟨hF4, t4⟩ hT hS
  have t4 : ((G4.1 (F a 14) 1).toInt) = 0 := t4
  refine lv_aload_n hx hb dX10_drop_7 rfl (lv_at hl 0 rfl) ?_
  refine gX10_2 S hK hT ha kf_X10_30 dX10_drop_8 (fun _ _ => ?_)
  refine lv_iload_n hx hb dX10_drop_11 rfl (lv_at hl 1 rfl) ?_
  refine x_clp (x_runV (b := (F a 2)) (As := [.int p0]) (rest := []) S (c_X0_get l E K F G4 H (F a 2) p0 hk9999a) mv_X0_get km_X10_159 rfl rfl ⟨Nat.le_of_ble_eq_true rfl, Nat.le_of_ble_eq_true rfl⟩ (rc_2 hK hT hk9999a) hK (fun _ => XPh.blind) (fun U hU hW => XPh.at hK hz hS hT hU hW) rfl hl.1 (Nat.le_of_ble_eq_true rfl) dX10_drop_12 ⟨Nat.le_of_ble_eq_true rfl, Nat.le_of_ble_eq_true rfl⟩) hS ?_
  rintro _ _ locs (⟨rfl, hn12⟩ | ⟨q12, rfl, hk12, ht12, hs12⟩) hS
  · refine lv_ifnonnullN hx hb dX10_drop_15 ?_
    refine lv_bipush (v := (-2)) hx hb dX10_drop_18 (by decide) ?_
    exact x_ri hx hb hr hlk hQ (Nat.le_of_ble_eq_true rfl) (Nat.le_of_ble_eq_true rfl) hS dX10_drop_20 G4 ⟨_, rfl, (XFr.call XFr.rf hF4 (xm1 0 rfl xm0) xm0 xm0), (by rw [((by decide) : Int32.toInt (-2) = (-2 : Int))] <;> exact (v_X10_drop_20_1 (F := F) a G G4 p0 hn12 (hF4.2.2 _ xn0) (hF4.2.2 _ xn0) (hF4.1 _ _ (xnj (by decide) xn0)))), (v_X10_drop_20_2 (F := F) a G G4 (hF4.2.2 _ xn0))⟩ hT
  · have ht12 : 0 ≤ p0.toInt ∧ p0.toInt < 12 := ht12
    refine lv_ifnonnull (tgt := 21) hx hb dX10_drop_15 (by decide) ?_
    refine lv_aload_n hx hb dX10_drop_21 rfl (lv_at hl 0 rfl) ?_
    refine gX10_18 S hK hT ha kf_X10_123 dX10_drop_22 (v := (G.1 a 18)) (hF4.1 _ _ (xnj (by decide) xn0)) (fun hz22 => ?_)
    refine xi_zeq (tgt := 31) hx hb (rfl : Int32.toInt (G.1 a 18) = ((G.1 a 18).toInt)) dX10_drop_25 (by decide) (fun c25 => ?_) (fun c25 => ?_)
    · refine lv_aload_n hx hb dX10_drop_31 rfl (lv_at hl 0 rfl) ?_
      refine gX10_2 S hK hT ha kf_X10_30 dX10_drop_32 (fun _ _ => ?_)
      refine lv_iload_n hx hb dX10_drop_35 rfl (lv_at hl 1 rfl) ?_
      refine x_cv0 (x_runV (b := (F a 2)) (As := [.int p0]) (rest := []) S (c_X0_strike l E K F G4 (F a 2) p0 hk9999a (z_X10_drop_1 p0.toInt ht12)) mv_X0_strike km_X10_163 rfl rfl ⟨Nat.le_of_ble_eq_true rfl, Nat.le_of_ble_eq_true rfl⟩ (rc_2 hK hT hk9999a) hK (fun _ => XP.blind) (fun U hU hW => XP.at hK hz hS hT hU hW) rfl hl.1 (Nat.le_of_ble_eq_true rfl) dX10_drop_36 ⟨Nat.le_of_ble_eq_true rfl, Nat.le_of_ble_eq_true rfl⟩) hS ?_
      rintro G36 H locs ⟨hF36, oq36, oq36a, oq36b⟩ hT hS
      refine lv_aload_n hx hb dX10_drop_39 rfl (lv_at hl 0 rfl) ?_
      refine gX10_2 S hK hT ha kf_X10_30 dX10_drop_40 (fun _ _ => ?_)
      refine x_clp (x_runV (b := (F a 2)) (As := []) (rest := []) S (c_X0_size l E K F G36 H (F a 2) hk9999a) mv_X0_size km_X10_167 rfl rfl ⟨Nat.le_of_ble_eq_true rfl, Nat.le_of_ble_eq_true rfl⟩ (rc_2 hK hT hk9999a) hK (fun _ => XPh.blind) (fun U hU hW => XPh.at hK hz hS hT hU hW) rfl hl.1 (Nat.le_of_ble_eq_true rfl) dX10_drop_43 ⟨Nat.le_of_ble_eq_true rfl, Nat.le_of_ble_eq_true rfl⟩) hS ?_
      rintro _ _ locs ⟨x43, rfl, t43⟩ hS
      have t43 : x43.toInt = ((G36.1 (F a 2) 2).toInt) := t43
      exact x_ri hx hb hr hlk hQ (Nat.le_of_ble_eq_true rfl) (Nat.le_of_ble_eq_true rfl) hS dX10_drop_46 G36 ⟨_, rfl, (XFr.call (XFr.call XFr.rf hF4 (xm1 0 rfl xm0) xm0 xm0) hF36 (xm1 1 rfl xm0) xm0 (xm1 0 rfl (xm1 1 rfl xm0))), (by rw [(t43 : Int32.toInt x43 = ((G36.1 (F a 2) 2).toInt))] <;> exact (v_X10_drop_46_3 (K := K) (F := F) a q12 G G4 G36 p0 ha hs12 oq36 oq36a t4 ht12 (xzi hz22) c25 (hF4.2.2 _ xn0))), (v_X10_drop_46_4 (F := F) a G G4 G36 oq36b (hF4.2.2 _ xn0))⟩ hT
    · refine lv_bipush (v := (-3)) hx hb dX10_drop_28 (by decide) ?_
      exact x_ri hx hb hr hlk hQ (Nat.le_of_ble_eq_true rfl) (Nat.le_of_ble_eq_true rfl) hS dX10_drop_30 G4 ⟨_, rfl, (XFr.call XFr.rf hF4 (xm1 0 rfl xm0) xm0 xm0), (by rw [((by decide) : Int32.toInt (-3) = (-3 : Int))] <;> exact (v_X10_drop_30_5 (K := K) (F := F) a q12 G G4 p0 ha hs12 t4 ht12 (xzi hz22) c25 (hF4.2.2 _ xn0) (hF4.2.2 _ xn0) (hF4.1 _ _ (xnj (by decide) xn0)))), (v_X10_drop_30_6 (F := F) a G G4 (hF4.2.2 _ xn0))⟩ hT

theorem z_X10_commit_2 (a0 : Int) (a1 : Int) (a2 : Int) (a3 : Int) (a4 : Int) (a5 : Int) (h0 : a2 ≠ 0) (h1 : a5 = 0 ∧ a4 = 0 ∧ a3 = 0) : (a2 = 0 ∧ a5 = a2 ∧ a4 = a1 ∧ a3 = a0) ∨ (a2 ≠ 0 ∧ a5 = 0 ∧ a4 = 0 ∧ a3 = 0) := by omega
theorem z_X10_commit_6 (a0 : Int) (a1 : Int) (a2 : Int) (h0 : ¬ (a2 ≠ 0)) : (a2 = 0 ∧ a2 = a2 ∧ a1 = a1 ∧ a0 = a0) ∨ (a2 ≠ 0 ∧ a2 = 0 ∧ a1 = 0 ∧ a0 = 0) := by omega
abbrev rm_X10_commit : Room := { frames := 9, cells := 8, slots := 800, locals := 216 }
set_option maxHeartbeats 4000000 in
set_option maxRecDepth 100000 in
theorem c_X10_commit (l : Launch) (E : XE) (K : Nat → Nat) (F : Nat → Nat → Nat) (G : XG) (a : Nat) (ha : K a = 12) (sw : 0 ≤ ((G.1 (F a 8) 6).toInt) ∧ ((G.1 (F a 8) 6).toInt) ≤ 1080) (ron : RO (vw (G.2.1 (F (F a 3) 0))) (aI (G.2.1 (F (F a 3) 1)))) (rob : RO (vw (G.2.1 (F (F a 4) 0))) (aI (G.2.1 (F (F a 4) 1)))) : Met l yX10_commit (xw yX10_commit cX10_commit 2 (some .int)) rm_X10_commit (va_Pc [.ref a] (XP E K F G)) (XQ E (fun v (u : XG) => ∃ r : Int32, v = .int r ∧ XFr [(F a 14, 1), (F a 14, 2), (F a 14, 3), (a, 18), (a, 17), (F a 8, 6), (F a 10, 6)] [F a 16, F (F a 10) 0, F (F a 10) 1, F (F a 10) 2, F (F a 10) 3, F (F a 10) 4, F (F a 10) 5, F (F a 3) 0, F (F a 3) 1] [] G u ∧ ((((G.1 a 18).toInt) = 0 ∧ ((u.1 a 18).toInt) = ((G.1 a 18).toInt) ∧ ((u.1 a 17).toInt) = ((G.1 a 17).toInt) ∧ ((u.1 (F a 8) 6).toInt) = ((G.1 (F a 8) 6).toInt)) ∨ (((G.1 a 18).toInt) ≠ 0 ∧ ((u.1 a 18).toInt) = 0 ∧ ((u.1 a 17).toInt) = 0 ∧ ((u.1 (F a 8) 6).toInt) = 0)) ∧ ((((G.1 a 18).toInt) = 0 ∧ r.toInt = -3 ∧ (vw (u.2.1 (F (F a 3) 0))) = (vw (G.2.1 (F (F a 3) 0)))) ∨ (((G.1 a 18).toInt) ≠ 0 ∧ (((∃ x, x ∈ qL G F (F a 8) ∧ x.2.2.2.2.1 ≠ 0 ∧ x.2.2.2.2.2 ≠ 0) ∧ r.toInt = -5 ∧ (vw (u.2.1 (F (F a 3) 0))) = (vw (G.2.1 (F (F a 4) 0)))) ∨ ((∀ x, x ∈ qL G F (F a 8) → x.2.2.2.2.1 ≠ 0 → x.2.2.2.2.2 = 0) ∧ (vw (u.2.1 (F (F a 3) 0))) = (vw (G.2.1 (F (F a 3) 0))) ∧ r.toInt = (((ltF (qL G F (F a 8))).length : Nat) : Int))))) ∧ (RO (vw (u.2.1 (F (F a 3) 0))) (aI (u.2.1 (F (F a 3) 1)))) ∧ ((((G.1 a 18).toInt) = 0 ∧ qL u F (F a 10) = qL G F (F a 10)) ∨ (((G.1 a 18).toInt) ≠ 0 ∧ ∃ ok : Int, AskR (qL G F (F a 8)) (qL u F (F a 10)) ok))) (fun u H => TW E K F u H)) 8 800 (xA E) := by
  refine x_enter (by decide) (Nat.le_of_ble_eq_true rfl) ?_
  intro p e s m args below meth c Q S hr hlk hnm hQ hP ls hl
  obtain ⟨hz, hK, hT⟩ := hP
  obtain ⟨hx, hb, -, -, -⟩ := id S
  obtain ⟨H, hT, hS, hgo⟩ : ∃ H : Heap, TW E K F G H ∧ va_S (xA E) s.heap H [] ∧ H = s.heap := ⟨_, hT, va_S.rf, rfl⟩
  rw [← hgo]
  have hl : lv_has ls 2 [(0, .ref a)] := hl
  obtain ⟨hk9999, hj9999⟩ := fkX10_14 hT ha
  obtain ⟨hk9999a, hj9999a⟩ := fkX10_8 hT ha
  obtain ⟨hk9999b, hj9999b⟩ := fkX10_10 hT ha
  obtain ⟨hk9999c, hj9999c⟩ := fkX10_16 hT ha
  obtain ⟨hk9999d, hj9999d⟩ := fkX4_0 hT hk9999b
  have hj9999e : F (F (F a 10) 0) 99 = 10 * 2 + 0 := by rw [hj9999d, hj9999b]
  obtain ⟨hk9999e, hj9999f⟩ := fkX4_1 hT hk9999b
  have hj9999g : F (F (F a 10) 1) 99 = 10 * 2 + 1 := by rw [hj9999f, hj9999b]
  obtain ⟨hk9999f, hj9999h⟩ := fkX4_2 hT hk9999b
  have hj9999i : F (F (F a 10) 2) 99 = 10 * 2 + 2 := by rw [hj9999h, hj9999b]
  obtain ⟨hk9999g, hj9999j⟩ := fkX4_3 hT hk9999b
  have hj9999k : F (F (F a 10) 3) 99 = 10 * 2 + 3 := by rw [hj9999j, hj9999b]
  obtain ⟨hk9999h, hj9999l⟩ := fkX4_4 hT hk9999b
  have hj9999m : F (F (F a 10) 4) 99 = 10 * 2 + 4 := by rw [hj9999l, hj9999b]
  obtain ⟨hk9999i, hj9999n⟩ := fkX4_5 hT hk9999b
  have hj9999o : F (F (F a 10) 5) 99 = 10 * 2 + 5 := by rw [hj9999n, hj9999b]
  obtain ⟨hk9999j, hj9999p⟩ := fkX10_3 hT ha
  obtain ⟨hk9999k, hj9999q⟩ := fkX6_0 hT hk9999j
  have hj9999r : F (F (F a 3) 0) 99 = 0 := by rw [hj9999q, hj9999p]
  obtain ⟨hk9999l, hj9999s⟩ := fkX6_1 hT hk9999j
  have hj9999t : F (F (F a 3) 1) 99 = 0 := by rw [hj9999s, hj9999p]
  obtain ⟨hk9999m, hj9999u⟩ := fkX10_4 hT ha
  obtain ⟨hk9999n, hj9999v⟩ := fkX6_0 hT hk9999m
  have hj9999w : F (F (F a 4) 0) 99 = 1 := by rw [hj9999v, hj9999u]
  obtain ⟨hk9999o, hj9999y⟩ := fkX6_1 hT hk9999m
  have hj9999z25 : F (F (F a 4) 1) 99 = 1 := by rw [hj9999y, hj9999u]
  obtain ⟨hk9999p, hj9999z26⟩ := fkX4_0 hT hk9999a
  have hj9999z27 : F (F (F a 8) 0) 99 = 10 * 0 + 0 := by rw [hj9999z26, hj9999a]
  obtain ⟨hk9999q, hj9999z28⟩ := fkX4_1 hT hk9999a
  have hj9999z29 : F (F (F a 8) 1) 99 = 10 * 0 + 1 := by rw [hj9999z28, hj9999a]
  obtain ⟨hk9999r, hj9999z30⟩ := fkX4_2 hT hk9999a
  have hj9999z31 : F (F (F a 8) 2) 99 = 10 * 0 + 2 := by rw [hj9999z30, hj9999a]
  obtain ⟨hk9999s, hj9999z32⟩ := fkX4_3 hT hk9999a
  have hj9999z33 : F (F (F a 8) 3) 99 = 10 * 0 + 3 := by rw [hj9999z32, hj9999a]
  obtain ⟨hk9999t, hj9999z34⟩ := fkX4_4 hT hk9999a
  have hj9999z35 : F (F (F a 8) 4) 99 = 10 * 0 + 4 := by rw [hj9999z34, hj9999a]
  obtain ⟨hk9999u, hj9999z36⟩ := fkX4_5 hT hk9999a
  have hj9999z37 : F (F (F a 8) 5) 99 = 10 * 0 + 5 := by rw [hj9999z36, hj9999a]
  refine lv_aload_n hx hb dX10_commit_0 rfl (lv_at hl 0 rfl) ?_
  refine gX10_14 S hK hT ha kf_X10_91 dX10_commit_1 (fun _ _ => ?_)
  refine x_cv (x_runV (b := (F a 14)) (As := []) (rest := []) S (c_X9_clear l E K F G (F a 14) hk9999) mv_X9_clear km_X10_113 rfl rfl ⟨Nat.le_of_ble_eq_true rfl, Nat.le_of_ble_eq_true rfl⟩ (rc_11 hK hT hk9999) hK (fun _ => XP.blind) (fun U hU hW => XP.at hK hz hS hT hU hW) rfl hl.1 (Nat.le_of_ble_eq_true rfl) dX10_commit_4 ⟨Nat.le_of_ble_eq_true rfl, Nat.le_of_ble_eq_true rfl⟩) hS ?_
  rintro G4 H locs ⟨hF4, t4⟩ hT hS
  have t4 : ((G4.1 (F a 14) 1).toInt) = 0 := t4
  refine lv_aload_n hx hb dX10_commit_7 rfl (lv_at hl 0 rfl) ?_
  refine gX10_18 S hK hT ha kf_X10_123 dX10_commit_8 (v := (G.1 a 18)) (hF4.1 _ _ (xnj (by decide) xn0)) (fun hz8 => ?_)
  refine xi_zne (tgt := 17) hx hb (rfl : Int32.toInt (G.1 a 18) = ((G.1 a 18).toInt)) dX10_commit_11 (by decide) (fun c11 => ?_) (fun c11 => ?_)
  · refine lv_aload_n hx hb dX10_commit_17 rfl (lv_at hl 0 rfl) ?_
    refine lv_aload_n hx hb dX10_commit_18 rfl (lv_at hl 0 rfl) ?_
    refine gX10_8 S hK hT ha kf_X10_57 dX10_commit_19 (fun _ _ => ?_)
    refine x_cl (x_runV (b := a) (As := [.ref (F a 8)]) (rest := []) S (c_X10_askToCommit l E K F G4 a (F a 8) ha hk9999a (by rw [(show (G4.1 (F a 8) 6).toInt = ((G.1 (F a 8) 6).toInt) from (congrArg Int32.toInt (hF4.1 _ _ (xnj (by decide) xn0))).trans (rfl : Int32.toInt (G.1 (F a 8) 6) = ((G.1 (F a 8) 6).toInt)))] <;> exact (sw)) (v_X10_commit_22_1 (K := K) (F := F) a G G4 ha hk9999 hj9999 hk9999a hj9999a hk9999b hj9999b hk9999c hj9999c hk9999d hj9999e hk9999e hj9999g hk9999f hj9999i hk9999g hj9999k hk9999h hj9999m hk9999i hj9999o hk9999j hj9999p hk9999k hj9999r hk9999l hj9999t hk9999m hj9999u hk9999n hj9999w hk9999o hj9999z25 hk9999p hj9999z27 hk9999q hj9999z29 hk9999r hj9999z31 hk9999s hj9999z33 hk9999t hj9999z35 hk9999u hj9999z37 sw t4 (xzi hz8) c11)) mv_X10_askToCommit km_X10_225 rfl rfl ⟨Nat.le_of_ble_eq_true rfl, Nat.le_of_ble_eq_true rfl⟩ (rc_12 hK hT ha) hK (fun _ => XP.blind) (fun U hU hW => XP.at hK hz hS hT hU hW) rfl hl.1 (Nat.le_of_ble_eq_true rfl) dX10_commit_22 ⟨Nat.le_of_ble_eq_true rfl, Nat.le_of_ble_eq_true rfl⟩) hS ?_
    rintro _ G22 H locs ⟨x22, rfl, b22, hF22, t22, oq22, oq22a⟩ hT hS
    have t22 : 0 ≤ ((G22.1 (F a 10) 6).toInt) ∧ ((G22.1 (F a 10) 6).toInt) ≤ 1080 := t22
    refine lv_istore_n (lv' := [(1, .int x22), (0, .ref a)]) hx hb dX10_commit_25 rfl hl (by decide) rfl (fun ls hl => ?_)
    refine lv_iload_n hx hb dX10_commit_26 rfl (lv_at hl 0 rfl) ?_
    refine xi_zne (tgt := 41) hx hb (rfl : Int32.toInt x22 = x22.toInt) dX10_commit_27 (by decide) (fun c27 => ?_) (fun c27 => ?_)
    · refine lv_aload_n hx hb dX10_commit_41 rfl (lv_at hl 1 rfl) ?_
      refine x_cv0 (x_runV (b := a) (As := []) (rest := []) S (c_X10_close l E K F G22 a ha) mv_X10_close km_X10_229 rfl rfl ⟨Nat.le_of_ble_eq_true rfl, Nat.le_of_ble_eq_true rfl⟩ (rc_12 hK hT ha) hK (fun _ => XP.blind) (fun U hU hW => XP.at hK hz hS hT hU hW) rfl hl.1 (Nat.le_of_ble_eq_true rfl) dX10_commit_42 ⟨Nat.le_of_ble_eq_true rfl, Nat.le_of_ble_eq_true rfl⟩) hS ?_
      rintro G42 H locs ⟨hF42, t42⟩ hT hS
      have t42 : ((G42.1 a 18).toInt) = 0 ∧ ((G42.1 a 17).toInt) = 0 ∧ ((G42.1 (F a 8) 6).toInt) = 0 := t42
      refine lv_iload_n hx hb dX10_commit_45 rfl (lv_at hl 0 rfl) ?_
      refine xi_zeq (tgt := 59) hx hb (rfl : Int32.toInt x22 = x22.toInt) dX10_commit_46 (by decide) (fun c46 => ?_) (fun c46 => ?_)
      · refine lv_bipush (v := (-5)) hx hb dX10_commit_59 (by decide) ?_
        exact x_ri hx hb hr hlk hQ (Nat.le_of_ble_eq_true rfl) (Nat.le_of_ble_eq_true rfl) hS dX10_commit_61 G42 ⟨_, rfl, (XFr.call (XFr.call (XFr.call XFr.rf hF4 (xm1 0 rfl xm0) xm0 xm0) hF22 (xm1 0 rfl (xm1 1 rfl (xm1 2 rfl (xm1 6 rfl xm0)))) (xm1 0 rfl (xm1 1 rfl (xm1 2 rfl (xm1 3 rfl (xm1 4 rfl (xm1 5 rfl (xm1 6 rfl xm0))))))) xm0) hF42 (xm1 3 rfl (xm1 4 rfl (xm1 5 rfl xm0))) xm0 xm0), (z_X10_commit_2 ((G.1 (F a 8) 6).toInt) ((G.1 a 17).toInt) ((G.1 a 18).toInt) ((G42.1 (F a 8) 6).toInt) ((G42.1 a 17).toInt) ((G42.1 a 18).toInt) c11 t42), (by rw [((by decide) : Int32.toInt (-5) = (-5 : Int))] <;> exact (v_X10_commit_61_2 (K := K) (F := F) a G G4 G22 G42 x22 ha oq22 oq22a sw t4 (xzi hz8) c11 t22 (xzi b22) c27 t42 c46 (hF4.2.1 _ xn0) (hF4.2.1 _ xn0) (hF4.2.1 _ xn0) (hF4.2.1 _ xn0) (hF4.2.1 _ xn0) (hF4.2.1 _ xn0) ((hF42.2.1 _ xn0).trans ((hF22.2.1 _ (xn1 (xne_k hk9999k hk9999c (by decide)) (xn1 (xne_k hk9999k hk9999d (by decide)) (xn1 (xne_k hk9999k hk9999e (by decide)) (xn1 (xne_k hk9999k hk9999f (by decide)) (xn1 (xne_k hk9999k hk9999g (by decide)) (xn1 (xne_k hk9999k hk9999h (by decide)) (xn1 (xne_k hk9999k hk9999i (by decide)) xn0)))))))).trans (hF4.2.1 _ xn0))) (hF4.1 _ _ (xnj (by decide) xn0)))), (v_X10_commit_61_3 (F := F) a G G42 ron ((hF42.2.1 _ xn0).trans ((hF22.2.1 _ (xn1 (xne_k hk9999k hk9999c (by decide)) (xn1 (xne_k hk9999k hk9999d (by decide)) (xn1 (xne_k hk9999k hk9999e (by decide)) (xn1 (xne_k hk9999k hk9999f (by decide)) (xn1 (xne_k hk9999k hk9999g (by decide)) (xn1 (xne_k hk9999k hk9999h (by decide)) (xn1 (xne_k hk9999k hk9999i (by decide)) xn0)))))))).trans (hF4.2.1 _ xn0))) ((hF42.2.1 _ xn0).trans ((hF22.2.1 _ (xn1 (xne_k hk9999l hk9999c (by decide)) (xn1 (xne_k hk9999l hk9999d (by decide)) (xn1 (xne_k hk9999l hk9999e (by decide)) (xn1 (xne_k hk9999l hk9999f (by decide)) (xn1 (xne_k hk9999l hk9999g (by decide)) (xn1 (xne_k hk9999l hk9999h (by decide)) (xn1 (xne_k hk9999l hk9999i (by decide)) xn0)))))))).trans (hF4.2.1 _ xn0)))), (v_X10_commit_61_4 (K := K) (F := F) a G G4 G22 G42 x22 ha oq22 oq22a sw t4 (xzi hz8) c11 t22 (xzi b22) c27 t42 c46 (hF4.2.1 _ xn0) (hF4.2.1 _ xn0) (hF4.2.1 _ xn0) (hF4.2.1 _ xn0) (hF4.2.1 _ xn0) (hF4.2.1 _ xn0) (hF42.2.1 _ xn0) (hF42.2.1 _ xn0) (hF42.2.1 _ xn0) (hF42.2.1 _ xn0) (hF42.2.1 _ xn0) (hF42.2.1 _ xn0) (hF4.1 _ _ (xnj (by decide) xn0)) (hF42.1 _ _ (xnj (by decide) (xnj (by decide) (xna (xne_j hj9999b hj9999a (by first | decide | omega)) xn0)))))⟩ hT
      · refine lv_aload_n hx hb dX10_commit_49 rfl (lv_at hl 1 rfl) ?_
        refine gX10_10 S hK hT ha kf_X10_64 dX10_commit_50 (fun _ _ => ?_)
        refine x_clp (x_runV (b := (F a 10)) (As := []) (rest := []) S (c_X4_size l E K F G42 H (F a 10) hk9999b) mv_X4_size km_X10_232 rfl rfl ⟨Nat.le_of_ble_eq_true rfl, Nat.le_of_ble_eq_true rfl⟩ (rc_6 hK hT hk9999b) hK (fun _ => XPh.blind) (fun U hU hW => XPh.at hK hz hS hT hU hW) rfl hl.1 (Nat.le_of_ble_eq_true rfl) dX10_commit_53 ⟨Nat.le_of_ble_eq_true rfl, Nat.le_of_ble_eq_true rfl⟩) hS ?_
        rintro _ _ locs ⟨x53, rfl, t53⟩ hS
        have t53 : x53.toInt = ((G22.1 (F a 10) 6).toInt) := by rw [(show (G42.1 (F a 10) 6).toInt = ((G22.1 (F a 10) 6).toInt) from (congrArg Int32.toInt (hF42.1 _ _ (xnj (by decide) (xnj (by decide) (xna (xne_j hj9999b hj9999a (by first | decide | omega)) xn0))))).trans (rfl : Int32.toInt (G22.1 (F a 10) 6) = ((G22.1 (F a 10) 6).toInt)))] at t53; exact t53
        refine lv_goto (tgt := 61) hx hb dX10_commit_56 (by decide) ?_
        exact x_ri hx hb hr hlk hQ (Nat.le_of_ble_eq_true rfl) (Nat.le_of_ble_eq_true rfl) hS dX10_commit_61 G42 ⟨_, rfl, (XFr.call (XFr.call (XFr.call XFr.rf hF4 (xm1 0 rfl xm0) xm0 xm0) hF22 (xm1 0 rfl (xm1 1 rfl (xm1 2 rfl (xm1 6 rfl xm0)))) (xm1 0 rfl (xm1 1 rfl (xm1 2 rfl (xm1 3 rfl (xm1 4 rfl (xm1 5 rfl (xm1 6 rfl xm0))))))) xm0) hF42 (xm1 3 rfl (xm1 4 rfl (xm1 5 rfl xm0))) xm0 xm0), (z_X10_commit_2 ((G.1 (F a 8) 6).toInt) ((G.1 a 17).toInt) ((G.1 a 18).toInt) ((G42.1 (F a 8) 6).toInt) ((G42.1 a 17).toInt) ((G42.1 a 18).toInt) c11 t42), (by rw [(t53 : Int32.toInt x53 = ((G22.1 (F a 10) 6).toInt))] <;> exact (v_X10_commit_61_5 (K := K) (F := F) a G G4 G22 G42 x22 ha oq22 oq22a sw t4 (xzi hz8) c11 t22 (xzi b22) c27 t42 c46 (hF4.2.1 _ xn0) (hF4.2.1 _ xn0) (hF4.2.1 _ xn0) (hF4.2.1 _ xn0) (hF4.2.1 _ xn0) (hF4.2.1 _ xn0) ((hF42.2.1 _ xn0).trans ((hF22.2.1 _ (xn1 (xne_k hk9999k hk9999c (by decide)) (xn1 (xne_k hk9999k hk9999d (by decide)) (xn1 (xne_k hk9999k hk9999e (by decide)) (xn1 (xne_k hk9999k hk9999f (by decide)) (xn1 (xne_k hk9999k hk9999g (by decide)) (xn1 (xne_k hk9999k hk9999h (by decide)) (xn1 (xne_k hk9999k hk9999i (by decide)) xn0)))))))).trans (hF4.2.1 _ xn0))) (hF4.1 _ _ (xnj (by decide) xn0)))), (v_X10_commit_61_6 (F := F) a G G42 ron ((hF42.2.1 _ xn0).trans ((hF22.2.1 _ (xn1 (xne_k hk9999k hk9999c (by decide)) (xn1 (xne_k hk9999k hk9999d (by decide)) (xn1 (xne_k hk9999k hk9999e (by decide)) (xn1 (xne_k hk9999k hk9999f (by decide)) (xn1 (xne_k hk9999k hk9999g (by decide)) (xn1 (xne_k hk9999k hk9999h (by decide)) (xn1 (xne_k hk9999k hk9999i (by decide)) xn0)))))))).trans (hF4.2.1 _ xn0))) ((hF42.2.1 _ xn0).trans ((hF22.2.1 _ (xn1 (xne_k hk9999l hk9999c (by decide)) (xn1 (xne_k hk9999l hk9999d (by decide)) (xn1 (xne_k hk9999l hk9999e (by decide)) (xn1 (xne_k hk9999l hk9999f (by decide)) (xn1 (xne_k hk9999l hk9999g (by decide)) (xn1 (xne_k hk9999l hk9999h (by decide)) (xn1 (xne_k hk9999l hk9999i (by decide)) xn0)))))))).trans (hF4.2.1 _ xn0)))), (v_X10_commit_61_7 (K := K) (F := F) a G G4 G22 G42 x22 ha oq22 oq22a sw t4 (xzi hz8) c11 t22 (xzi b22) c27 t42 c46 (hF4.2.1 _ xn0) (hF4.2.1 _ xn0) (hF4.2.1 _ xn0) (hF4.2.1 _ xn0) (hF4.2.1 _ xn0) (hF4.2.1 _ xn0) (hF42.2.1 _ xn0) (hF42.2.1 _ xn0) (hF42.2.1 _ xn0) (hF42.2.1 _ xn0) (hF42.2.1 _ xn0) (hF42.2.1 _ xn0) (hF4.1 _ _ (xnj (by decide) xn0)) (hF42.1 _ _ (xnj (by decide) (xnj (by decide) (xna (xne_j hj9999b hj9999a (by first | decide | omega)) xn0)))))⟩ hT
    · refine lv_aload_n hx hb dX10_commit_30 rfl (lv_at hl 1 rfl) ?_
      refine gX10_3 S hK hT ha kf_X10_37 dX10_commit_31 (fun _ _ => ?_)
      refine lv_aload_n hx hb dX10_commit_34 rfl (lv_at hl 1 rfl) ?_
      refine gX10_4 S hK hT ha kf_X10_41 dX10_commit_35 (fun _ _ => ?_)
      refine x_cv0 (x_runV (b := (F a 3)) (As := [.ref (F a 4)]) (rest := []) S (c_X6_copy l E K F G22 (F a 3) (F a 4) hk9999j hk9999m (v_X10_commit_38_8 (F := F) a G G22 ron rob ((hF22.2.1 _ (xn1 (xne_k hk9999n hk9999c (by decide)) (xn1 (xne_k hk9999n hk9999d (by decide)) (xn1 (xne_k hk9999n hk9999e (by decide)) (xn1 (xne_k hk9999n hk9999f (by decide)) (xn1 (xne_k hk9999n hk9999g (by decide)) (xn1 (xne_k hk9999n hk9999h (by decide)) (xn1 (xne_k hk9999n hk9999i (by decide)) xn0)))))))).trans (hF4.2.1 _ xn0)) ((hF22.2.1 _ (xn1 (xne_k hk9999o hk9999c (by decide)) (xn1 (xne_k hk9999o hk9999d (by decide)) (xn1 (xne_k hk9999o hk9999e (by decide)) (xn1 (xne_k hk9999o hk9999f (by decide)) (xn1 (xne_k hk9999o hk9999g (by decide)) (xn1 (xne_k hk9999o hk9999h (by decide)) (xn1 (xne_k hk9999o hk9999i (by decide)) xn0)))))))).trans (hF4.2.1 _ xn0)))) mv_X6_copy km_X10_195 rfl rfl ⟨Nat.le_of_ble_eq_true rfl, Nat.le_of_ble_eq_true rfl⟩ (rc_8 hK hT hk9999j) hK (fun _ => XP.blind) (fun U hU hW => XP.at hK hz hS hT hU hW) rfl hl.1 (Nat.le_of_ble_eq_true rfl) dX10_commit_38 ⟨Nat.le_of_ble_eq_true rfl, Nat.le_of_ble_eq_true rfl⟩) hS ?_
      rintro G38 H locs ⟨hF38, oq38, oq38a⟩ hT hS
      have oq38 : (vw (G38.2.1 (F (F a 3) 0))) = (vw (G.2.1 (F (F a 4) 0))) := by simp only [(show G22.2.1 (F (F a 4) 0) = G.2.1 (F (F a 4) 0) from ((hF22.2.1 _ (xn1 (xne_k hk9999n hk9999c (by decide)) (xn1 (xne_k hk9999n hk9999d (by decide)) (xn1 (xne_k hk9999n hk9999e (by decide)) (xn1 (xne_k hk9999n hk9999f (by decide)) (xn1 (xne_k hk9999n hk9999g (by decide)) (xn1 (xne_k hk9999n hk9999h (by decide)) (xn1 (xne_k hk9999n hk9999i (by decide)) xn0)))))))).trans (hF4.2.1 _ xn0)))] at oq38; exact oq38
      refine lv_aload_n hx hb dX10_commit_41 rfl (lv_at hl 1 rfl) ?_
      refine x_cv0 (x_runV (b := a) (As := []) (rest := []) S (c_X10_close l E K F G38 a ha) mv_X10_close km_X10_229 rfl rfl ⟨Nat.le_of_ble_eq_true rfl, Nat.le_of_ble_eq_true rfl⟩ (rc_12 hK hT ha) hK (fun _ => XP.blind) (fun U hU hW => XP.at hK hz hS hT hU hW) rfl hl.1 (Nat.le_of_ble_eq_true rfl) dX10_commit_42 ⟨Nat.le_of_ble_eq_true rfl, Nat.le_of_ble_eq_true rfl⟩) hS ?_
      rintro G42 H locs ⟨hF42, t42⟩ hT hS
      have t42 : ((G42.1 a 18).toInt) = 0 ∧ ((G42.1 a 17).toInt) = 0 ∧ ((G42.1 (F a 8) 6).toInt) = 0 := t42
      refine lv_iload_n hx hb dX10_commit_45 rfl (lv_at hl 0 rfl) ?_
      refine xi_zeq (tgt := 59) hx hb (rfl : Int32.toInt x22 = x22.toInt) dX10_commit_46 (by decide) (fun c46 => ?_) (fun c46 => ?_)
      · refine lv_bipush (v := (-5)) hx hb dX10_commit_59 (by decide) ?_
        exact x_ri hx hb hr hlk hQ (Nat.le_of_ble_eq_true rfl) (Nat.le_of_ble_eq_true rfl) hS dX10_commit_61 G42 ⟨_, rfl, (XFr.call (XFr.call (XFr.call (XFr.call XFr.rf hF4 (xm1 0 rfl xm0) xm0 xm0) hF22 (xm1 0 rfl (xm1 1 rfl (xm1 2 rfl (xm1 6 rfl xm0)))) (xm1 0 rfl (xm1 1 rfl (xm1 2 rfl (xm1 3 rfl (xm1 4 rfl (xm1 5 rfl (xm1 6 rfl xm0))))))) xm0) hF38 xm0 (xm1 7 rfl (xm1 8 rfl xm0)) xm0) hF42 (xm1 3 rfl (xm1 4 rfl (xm1 5 rfl xm0))) xm0 xm0), (z_X10_commit_2 ((G.1 (F a 8) 6).toInt) ((G.1 a 17).toInt) ((G.1 a 18).toInt) ((G42.1 (F a 8) 6).toInt) ((G42.1 a 17).toInt) ((G42.1 a 18).toInt) c11 t42), (by rw [((by decide) : Int32.toInt (-5) = (-5 : Int))] <;> exact (v_X10_commit_61_9 (K := K) (F := F) a G G4 G22 G38 G42 x22 ha oq22 oq22a oq38 sw t4 (xzi hz8) c11 t22 (xzi b22) c27 t42 c46 (hF4.2.1 _ xn0) (hF4.2.1 _ xn0) (hF4.2.1 _ xn0) (hF4.2.1 _ xn0) (hF4.2.1 _ xn0) (hF4.2.1 _ xn0) (hF42.2.1 _ xn0) (hF4.1 _ _ (xnj (by decide) xn0)))), (v_X10_commit_61_10 (F := F) a G G38 G42 ron oq38a (hF42.2.1 _ xn0) (hF42.2.1 _ xn0)), (v_X10_commit_61_11 (K := K) (F := F) a G G4 G22 G42 x22 ha oq22 oq22a sw t4 (xzi hz8) c11 t22 (xzi b22) c27 t42 c46 (hF4.2.1 _ xn0) (hF4.2.1 _ xn0) (hF4.2.1 _ xn0) (hF4.2.1 _ xn0) (hF4.2.1 _ xn0) (hF4.2.1 _ xn0) ((hF42.2.1 _ xn0).trans (hF38.2.1 _ (xn1 (xne_k hk9999d hk9999k (by decide)) (xn1 (xne_k hk9999d hk9999l (by decide)) xn0)))) ((hF42.2.1 _ xn0).trans (hF38.2.1 _ (xn1 (xne_k hk9999e hk9999k (by decide)) (xn1 (xne_k hk9999e hk9999l (by decide)) xn0)))) ((hF42.2.1 _ xn0).trans (hF38.2.1 _ (xn1 (xne_k hk9999f hk9999k (by decide)) (xn1 (xne_k hk9999f hk9999l (by decide)) xn0)))) ((hF42.2.1 _ xn0).trans (hF38.2.1 _ (xn1 (xne_k hk9999g hk9999k (by decide)) (xn1 (xne_k hk9999g hk9999l (by decide)) xn0)))) ((hF42.2.1 _ xn0).trans (hF38.2.1 _ (xn1 (xne_k hk9999h hk9999k (by decide)) (xn1 (xne_k hk9999h hk9999l (by decide)) xn0)))) ((hF42.2.1 _ xn0).trans (hF38.2.1 _ (xn1 (xne_k hk9999i hk9999k (by decide)) (xn1 (xne_k hk9999i hk9999l (by decide)) xn0)))) (hF4.1 _ _ (xnj (by decide) xn0)) ((hF42.1 _ _ (xnj (by decide) (xnj (by decide) (xna (xne_j hj9999b hj9999a (by first | decide | omega)) xn0)))).trans (hF38.1 _ _ xn0)))⟩ hT
      · refine lv_aload_n hx hb dX10_commit_49 rfl (lv_at hl 1 rfl) ?_
        refine gX10_10 S hK hT ha kf_X10_64 dX10_commit_50 (fun _ _ => ?_)
        refine x_clp (x_runV (b := (F a 10)) (As := []) (rest := []) S (c_X4_size l E K F G42 H (F a 10) hk9999b) mv_X4_size km_X10_232 rfl rfl ⟨Nat.le_of_ble_eq_true rfl, Nat.le_of_ble_eq_true rfl⟩ (rc_6 hK hT hk9999b) hK (fun _ => XPh.blind) (fun U hU hW => XPh.at hK hz hS hT hU hW) rfl hl.1 (Nat.le_of_ble_eq_true rfl) dX10_commit_53 ⟨Nat.le_of_ble_eq_true rfl, Nat.le_of_ble_eq_true rfl⟩) hS ?_
        rintro _ _ locs ⟨x53, rfl, t53⟩ hS
        have t53 : x53.toInt = ((G22.1 (F a 10) 6).toInt) := by rw [(show (G42.1 (F a 10) 6).toInt = ((G22.1 (F a 10) 6).toInt) from (congrArg Int32.toInt ((hF42.1 _ _ (xnj (by decide) (xnj (by decide) (xna (xne_j hj9999b hj9999a (by first | decide | omega)) xn0)))).trans (hF38.1 _ _ xn0))).trans (rfl : Int32.toInt (G22.1 (F a 10) 6) = ((G22.1 (F a 10) 6).toInt)))] at t53; exact t53
        refine lv_goto (tgt := 61) hx hb dX10_commit_56 (by decide) ?_
        exact x_ri hx hb hr hlk hQ (Nat.le_of_ble_eq_true rfl) (Nat.le_of_ble_eq_true rfl) hS dX10_commit_61 G42 ⟨_, rfl, (XFr.call (XFr.call (XFr.call (XFr.call XFr.rf hF4 (xm1 0 rfl xm0) xm0 xm0) hF22 (xm1 0 rfl (xm1 1 rfl (xm1 2 rfl (xm1 6 rfl xm0)))) (xm1 0 rfl (xm1 1 rfl (xm1 2 rfl (xm1 3 rfl (xm1 4 rfl (xm1 5 rfl (xm1 6 rfl xm0))))))) xm0) hF38 xm0 (xm1 7 rfl (xm1 8 rfl xm0)) xm0) hF42 (xm1 3 rfl (xm1 4 rfl (xm1 5 rfl xm0))) xm0 xm0), (z_X10_commit_2 ((G.1 (F a 8) 6).toInt) ((G.1 a 17).toInt) ((G.1 a 18).toInt) ((G42.1 (F a 8) 6).toInt) ((G42.1 a 17).toInt) ((G42.1 a 18).toInt) c11 t42), (by rw [(t53 : Int32.toInt x53 = ((G22.1 (F a 10) 6).toInt))] <;> exact (v_X10_commit_61_12 (K := K) (F := F) a G G4 G22 G38 G42 x22 ha oq22 oq22a oq38 sw t4 (xzi hz8) c11 t22 (xzi b22) c27 t42 c46 (hF4.2.1 _ xn0) (hF4.2.1 _ xn0) (hF4.2.1 _ xn0) (hF4.2.1 _ xn0) (hF4.2.1 _ xn0) (hF4.2.1 _ xn0) (hF42.2.1 _ xn0) (hF4.1 _ _ (xnj (by decide) xn0)))), (v_X10_commit_61_13 (F := F) a G G38 G42 ron oq38a (hF42.2.1 _ xn0) (hF42.2.1 _ xn0)), (v_X10_commit_61_14 (K := K) (F := F) a G G4 G22 G42 x22 ha oq22 oq22a sw t4 (xzi hz8) c11 t22 (xzi b22) c27 t42 c46 (hF4.2.1 _ xn0) (hF4.2.1 _ xn0) (hF4.2.1 _ xn0) (hF4.2.1 _ xn0) (hF4.2.1 _ xn0) (hF4.2.1 _ xn0) ((hF42.2.1 _ xn0).trans (hF38.2.1 _ (xn1 (xne_k hk9999d hk9999k (by decide)) (xn1 (xne_k hk9999d hk9999l (by decide)) xn0)))) ((hF42.2.1 _ xn0).trans (hF38.2.1 _ (xn1 (xne_k hk9999e hk9999k (by decide)) (xn1 (xne_k hk9999e hk9999l (by decide)) xn0)))) ((hF42.2.1 _ xn0).trans (hF38.2.1 _ (xn1 (xne_k hk9999f hk9999k (by decide)) (xn1 (xne_k hk9999f hk9999l (by decide)) xn0)))) ((hF42.2.1 _ xn0).trans (hF38.2.1 _ (xn1 (xne_k hk9999g hk9999k (by decide)) (xn1 (xne_k hk9999g hk9999l (by decide)) xn0)))) ((hF42.2.1 _ xn0).trans (hF38.2.1 _ (xn1 (xne_k hk9999h hk9999k (by decide)) (xn1 (xne_k hk9999h hk9999l (by decide)) xn0)))) ((hF42.2.1 _ xn0).trans (hF38.2.1 _ (xn1 (xne_k hk9999i hk9999k (by decide)) (xn1 (xne_k hk9999i hk9999l (by decide)) xn0)))) (hF4.1 _ _ (xnj (by decide) xn0)) ((hF42.1 _ _ (xnj (by decide) (xnj (by decide) (xna (xne_j hj9999b hj9999a (by first | decide | omega)) xn0)))).trans (hF38.1 _ _ xn0)))⟩ hT
  · refine lv_bipush (v := (-3)) hx hb dX10_commit_14 (by decide) ?_
    exact x_ri hx hb hr hlk hQ (Nat.le_of_ble_eq_true rfl) (Nat.le_of_ble_eq_true rfl) hS dX10_commit_16 G4 ⟨_, rfl, (XFr.call XFr.rf hF4 (xm1 0 rfl xm0) xm0 xm0), (by rw [(show (G4.1 a 18).toInt = ((G.1 a 18).toInt) from (congrArg Int32.toInt (hF4.1 _ _ (xnj (by decide) xn0))).trans (rfl : Int32.toInt (G.1 a 18) = ((G.1 a 18).toInt))), (show (G4.1 a 17).toInt = ((G.1 a 17).toInt) from (congrArg Int32.toInt (hF4.1 _ _ (xnj (by decide) xn0))).trans (rfl : Int32.toInt (G.1 a 17) = ((G.1 a 17).toInt))), (show (G4.1 (F a 8) 6).toInt = ((G.1 (F a 8) 6).toInt) from (congrArg Int32.toInt (hF4.1 _ _ (xnj (by decide) xn0))).trans (rfl : Int32.toInt (G.1 (F a 8) 6) = ((G.1 (F a 8) 6).toInt)))] <;> exact (z_X10_commit_6 ((G.1 (F a 8) 6).toInt) ((G.1 a 17).toInt) ((G.1 a 18).toInt) c11)), (by rw [((by decide) : Int32.toInt (-3) = (-3 : Int))] <;> exact (v_X10_commit_16_15 (K := K) (F := F) a G G4 ha sw t4 (xzi hz8) c11 (hF4.2.1 _ xn0))), (v_X10_commit_16_16 (F := F) a G G4 ron (hF4.2.1 _ xn0) (hF4.2.1 _ xn0)), (v_X10_commit_16_17 (K := K) (F := F) a G G4 ha sw t4 (xzi hz8) c11 (hF4.2.1 _ xn0) (hF4.2.1 _ xn0) (hF4.2.1 _ xn0) (hF4.2.1 _ xn0) (hF4.2.1 _ xn0) (hF4.2.1 _ xn0) (hF4.1 _ _ (xnj (by decide) xn0)))⟩ hT
theorem RW.cg {q q2 : Nat → Int32} (h : RW q) (h0 : q2 0 = q 0) (h2 : q2 2 = q 2) (h3 : q2 3 = q 3) (h4 : q2 4 = q 4) : RW q2 := by
  unfold RW
  rw [h0, h2, h3, h4]
  exact h
theorem BKr.late {K : Nat → Nat} {G G2 : XG} {f : Nat → Option Nat} {p : Nat} {v : Int32} (h : BKr K G f) (e : G2 = dput G p 9 v) : BKr K G2 f := fun i q hi hq => ⟨(h i q hi hq).1, (h i q hi hq).2.cg (ld_j e (by decide)) (ld_j e (by decide)) (ld_j e (by decide)) (ld_j e (by decide))⟩
/-! ===== how many of a list are of a rule ===== -/
noncomputable def cnQ (l : List Qt) (v : Int) : Int := ((l.countP (fun x => decide (x.1 = v)) : Nat) : Int)
noncomputable def cnP (l : List (Int × Int)) (v : Int) : Int := ((l.countP (fun x => decide (x.1 = v)) : Nat) : Int)
theorem hvR_cnt {α : Type} (g : Nat → α) (p : α → Bool) (f : Nat → Int32) (v : Int) : ∀ n : Nat, (∀ i, i < n → (p (g i) = true ↔ (f i).toInt = v)) → hvR (aI f) 0 v n = (((lst g n).countP p : Nat) : Int)
  | 0, _ => rfl
  | n + 1, h => by
    have ih := hvR_cnt g p f v n (fun i hi => h i (by omega))
    have hn := h n (by omega)
    have e : aI f (0 + (n : Int)) = (f n).toInt := by
      unfold aI
      rw [show (0 + (n : Int)).toNat = n by omega]
    show hvR (aI f) 0 v n + (if aI f (0 + (n : Int)) = v then 1 else 0) = _
    rw [e, ih, lst_s, List.countP_append, List.countP_cons, List.countP_nil]
    by_cases c : (f n).toInt = v
    · rw [if_pos c, if_pos (hn.mpr c)]; omega
    · rw [if_neg c, if_neg (fun q => c (hn.mp q))]; omega
theorem hv_qL (G : XG) (F : Nat → Nat → Nat) (a : Nat) (v : Int) : hv (aI (G.2.1 (F a 0))) 0 v ((G.1 a 6).toInt) = cnQ (qL G F a) v := by
  rw [hv_eq]
  exact hvR_cnt _ _ _ v _ (fun i _ => by
    show decide ((G.2.1 (F a 0) i).toInt = v) = true ↔ _
    exact decide_eq_true_iff)
theorem hv_pL (G : XG) (F : Nat → Nat → Nat) (a : Nat) (v : Int) : hv (aI (G.2.1 (F a 17))) 0 v ((G.1 a 19).toInt) = cnP (pL G F a) v := by
  rw [hv_eq]
  exact hvR_cnt _ _ _ v _ (fun i _ => by
    show decide ((G.2.1 (F a 17) i).toInt = v) = true ↔ _
    exact decide_eq_true_iff)
theorem v_X10_becomeLate_28_1 {F : Nat → Nat → Nat} (a : Nat) (G2 : XG) (G : XG)
    (ron : RO (vw (G.2.1 (F (F a 3) 0))) (aI (G.2.1 (F (F a 3) 1))))
    (rob : RO (vw (G.2.1 (F (F a 4) 0))) (aI (G.2.1 (F (F a 4) 1))))
    (c_G2_F_F_a_4_0 : G2.2.1 (F (F a 4) 0) = G.2.1 (F (F a 4) 0))
    (c_G2_F_F_a_4_1 : G2.2.1 (F (F a 4) 1) = G.2.1 (F (F a 4) 1)) :
    RO (vw (G2.2.1 (F (F a 4) 0))) (aI (G2.2.1 (F (F a 4) 1))) := by simp only [c_G2_F_F_a_4_0, c_G2_F_F_a_4_1]; assumption
theorem v_X10_becomeLate_28_2 {F : Nat → Nat → Nat} (a : Nat) (G2 : XG) (G : XG)
    (ron : RO (vw (G.2.1 (F (F a 3) 0))) (aI (G.2.1 (F (F a 3) 1))))
    (rob : RO (vw (G.2.1 (F (F a 4) 0))) (aI (G.2.1 (F (F a 4) 1))))
    (c_G2_F_F_a_3_0 : G2.2.1 (F (F a 3) 0) = G.2.1 (F (F a 3) 0))
    (c_G2_F_F_a_3_1 : G2.2.1 (F (F a 3) 1) = G.2.1 (F (F a 3) 1)) :
    RO (vw (G2.2.1 (F (F a 3) 0))) (aI (G2.2.1 (F (F a 3) 1))) := by simp only [c_G2_F_F_a_3_0, c_G2_F_F_a_3_1]; assumption
theorem v_X10_becomeLate_28_3 {K : Nat → Nat} {F : Nat → Nat → Nat} (a : Nat) (p0 : Nat) (G2 : XG) (G : XG)
    (ha : K a = 12)
    (hp0 : K p0 = 9)
    (hk9999 : K (F a 11) = 3)
    (hj9999 : F (F a 11) 99 = 0)
    (hk9999a : K (F a 8) = 6)
    (hj9999a : F (F a 8) 99 = 0)
    (hk9999b : K (F a 15) = 26)
    (hj9999b : F (F a 15) 99 = 0)
    (hk9999c : K (F (F a 11) 0) = 21)
    (hj9999c : F (F (F a 11) 0) 99 = 100)
    (hk9999d : K (F (F a 11) 1) = 21)
    (hj9999d : F (F (F a 11) 1) 99 = 101)
    (hk9999e : K (F (F a 11) 2) = 24)
    (hj9999e : F (F (F a 11) 2) 99 = 4)
    (hk9999f : K (F (F a 8) 0) = 22)
    (hj9999g : F (F (F a 8) 0) 99 = 10 * 0 + 0)
    (hk9999g : K (F (F a 8) 1) = 22)
    (hj9999i : F (F (F a 8) 1) 99 = 10 * 0 + 1)
    (hk9999h : K (F (F a 8) 2) = 22)
    (hj9999k : F (F (F a 8) 2) 99 = 10 * 0 + 2)
    (hk9999i : K (F (F a 8) 3) = 22)
    (hj9999m : F (F (F a 8) 3) 99 = 10 * 0 + 3)
    (hk9999j : K (F (F a 8) 4) = 23)
    (hj9999o : F (F (F a 8) 4) 99 = 10 * 0 + 4)
    (hk9999k : K (F (F a 8) 5) = 23)
    (hj9999q : F (F (F a 8) 5) 99 = 10 * 0 + 5)
    (hk9999l : K (F a 2) = 2)
    (hj9999r : F (F a 2) 99 = 0)
    (hk9999m : K (F (F a 2) 1) = 15)
    (hj9999s : F (F (F a 2) 1) 99 = 1)
    (hk9999n : K (F a 3) = 8)
    (hj9999t : F (F a 3) 99 = 0)
    (hk9999o : K (F (F a 3) 0) = 20)
    (hj9999v : F (F (F a 3) 0) 99 = 0)
    (hk9999p : K (F (F a 3) 1) = 21)
    (hj9999y : F (F (F a 3) 1) 99 = 0)
    (hk9999q : K (F a 4) = 8)
    (hj9999z25 : F (F a 4) 99 = 1)
    (hk9999r : K (F (F a 4) 0) = 20)
    (hj9999z27 : F (F (F a 4) 0) 99 = 1)
    (hk9999s : K (F (F a 4) 1) = 21)
    (hj9999z29 : F (F (F a 4) 1) 99 = 1)
    (hG2 : G2 = dput G p0 9 1)
    (ron : RO (vw (G.2.1 (F (F a 3) 0))) (aI (G.2.1 (F (F a 3) 1))))
    (rob : RO (vw (G.2.1 (F (F a 4) 0))) (aI (G.2.1 (F (F a 4) 1))))
    (bko : BKr K G (G.2.2.1 (F (F a 2) 1)))
    (sb : 0 ≤ ((G.1 (F a 2) 2).toInt) ∧ ((G.1 (F a 2) 2).toInt) ≤ 12)
    (sw : 0 ≤ ((G.1 (F a 8) 6).toInt) ∧ ((G.1 (F a 8) 6).toInt) ≤ 1080)
    (f48 : ((G.1 a 18).toInt) = 0 ∨ ((G.1 a 18).toInt) = 1)
    (c9 : ((G.1 a 18).toInt) ≠ 0)
    (c_G2_F_F_a_11_0 : G2.2.1 (F (F a 11) 0) = G.2.1 (F (F a 11) 0))
    (c_G2_F_F_a_11_1 : G2.2.1 (F (F a 11) 1) = G.2.1 (F (F a 11) 1))
    (c_G2_F_F_a_11_2 : G2.2.1 (F (F a 11) 2) = G.2.1 (F (F a 11) 2))
    (c_G2_F_F_a_8_0 : G2.2.1 (F (F a 8) 0) = G.2.1 (F (F a 8) 0))
    (c_G2_F_F_a_8_1 : G2.2.1 (F (F a 8) 1) = G.2.1 (F (F a 8) 1))
    (c_G2_F_F_a_8_2 : G2.2.1 (F (F a 8) 2) = G.2.1 (F (F a 8) 2))
    (c_G2_F_F_a_8_3 : G2.2.1 (F (F a 8) 3) = G.2.1 (F (F a 8) 3))
    (c_G2_F_F_a_8_4 : G2.2.1 (F (F a 8) 4) = G.2.1 (F (F a 8) 4))
    (c_G2_F_F_a_8_5 : G2.2.1 (F (F a 8) 5) = G.2.1 (F (F a 8) 5))
    (c_G2_F_a_15 : G2.2.1 (F a 15) = G.2.1 (F a 15))
    (r_G2_F_F_a_2_1 : G2.2.2.1 (F (F a 2) 1) = G.2.2.1 (F (F a 2) 1))
    (d_G2_F_a_11_3 : G2.1 (F a 11) 3 = G.1 (F a 11) 3)
    (d_G2_F_a_8_6 : G2.1 (F a 8) 6 = G.1 (F a 8) 6)
    (d_G2_p0_9 : G2.1 p0 9 = 1) :
    ∀ (i q : Nat), i < 12 → G2.2.2.1 (F (F a 2) 1) i = some q → RW (G2.1 q) := by
  rw [show G2.2.2.1 (F (F a 2) 1) = G.2.2.1 (F (F a 2) 1) by assumption]
  exact (bko.late hG2).rw
theorem v_X10_becomeLate_28_4 {K : Nat → Nat} {F : Nat → Nat → Nat} (a : Nat) (p0 : Nat) (G2 : XG) (G : XG)
    (ha : K a = 12)
    (hp0 : K p0 = 9)
    (hk9999 : K (F a 11) = 3)
    (hj9999 : F (F a 11) 99 = 0)
    (hk9999a : K (F a 8) = 6)
    (hj9999a : F (F a 8) 99 = 0)
    (hk9999b : K (F a 15) = 26)
    (hj9999b : F (F a 15) 99 = 0)
    (hk9999c : K (F (F a 11) 0) = 21)
    (hj9999c : F (F (F a 11) 0) 99 = 100)
    (hk9999d : K (F (F a 11) 1) = 21)
    (hj9999d : F (F (F a 11) 1) 99 = 101)
    (hk9999e : K (F (F a 11) 2) = 24)
    (hj9999e : F (F (F a 11) 2) 99 = 4)
    (hk9999f : K (F (F a 8) 0) = 22)
    (hj9999g : F (F (F a 8) 0) 99 = 10 * 0 + 0)
    (hk9999g : K (F (F a 8) 1) = 22)
    (hj9999i : F (F (F a 8) 1) 99 = 10 * 0 + 1)
    (hk9999h : K (F (F a 8) 2) = 22)
    (hj9999k : F (F (F a 8) 2) 99 = 10 * 0 + 2)
    (hk9999i : K (F (F a 8) 3) = 22)
    (hj9999m : F (F (F a 8) 3) 99 = 10 * 0 + 3)
    (hk9999j : K (F (F a 8) 4) = 23)
    (hj9999o : F (F (F a 8) 4) 99 = 10 * 0 + 4)
    (hk9999k : K (F (F a 8) 5) = 23)
    (hj9999q : F (F (F a 8) 5) 99 = 10 * 0 + 5)
    (hk9999l : K (F a 2) = 2)
    (hj9999r : F (F a 2) 99 = 0)
    (hk9999m : K (F (F a 2) 1) = 15)
    (hj9999s : F (F (F a 2) 1) 99 = 1)
    (hk9999n : K (F a 3) = 8)
    (hj9999t : F (F a 3) 99 = 0)
    (hk9999o : K (F (F a 3) 0) = 20)
    (hj9999v : F (F (F a 3) 0) 99 = 0)
    (hk9999p : K (F (F a 3) 1) = 21)
    (hj9999y : F (F (F a 3) 1) 99 = 0)
    (hk9999q : K (F a 4) = 8)
    (hj9999z25 : F (F a 4) 99 = 1)
    (hk9999r : K (F (F a 4) 0) = 20)
    (hj9999z27 : F (F (F a 4) 0) 99 = 1)
    (hk9999s : K (F (F a 4) 1) = 21)
    (hj9999z29 : F (F (F a 4) 1) 99 = 1)
    (hG2 : G2 = dput G p0 9 1)
    (ron : RO (vw (G.2.1 (F (F a 3) 0))) (aI (G.2.1 (F (F a 3) 1))))
    (rob : RO (vw (G.2.1 (F (F a 4) 0))) (aI (G.2.1 (F (F a 4) 1))))
    (bko : BKr K G (G.2.2.1 (F (F a 2) 1)))
    (sb : 0 ≤ ((G.1 (F a 2) 2).toInt) ∧ ((G.1 (F a 2) 2).toInt) ≤ 12)
    (sw : 0 ≤ ((G.1 (F a 8) 6).toInt) ∧ ((G.1 (F a 8) 6).toInt) ≤ 1080)
    (f48 : ((G.1 a 18).toInt) = 0 ∨ ((G.1 a 18).toInt) = 1)
    (c9 : ((G.1 a 18).toInt) ≠ 0)
    (c_G2_F_F_a_11_0 : G2.2.1 (F (F a 11) 0) = G.2.1 (F (F a 11) 0))
    (c_G2_F_F_a_11_1 : G2.2.1 (F (F a 11) 1) = G.2.1 (F (F a 11) 1))
    (c_G2_F_F_a_11_2 : G2.2.1 (F (F a 11) 2) = G.2.1 (F (F a 11) 2))
    (c_G2_F_F_a_8_0 : G2.2.1 (F (F a 8) 0) = G.2.1 (F (F a 8) 0))
    (c_G2_F_F_a_8_1 : G2.2.1 (F (F a 8) 1) = G.2.1 (F (F a 8) 1))
    (c_G2_F_F_a_8_2 : G2.2.1 (F (F a 8) 2) = G.2.1 (F (F a 8) 2))
    (c_G2_F_F_a_8_3 : G2.2.1 (F (F a 8) 3) = G.2.1 (F (F a 8) 3))
    (c_G2_F_F_a_8_4 : G2.2.1 (F (F a 8) 4) = G.2.1 (F (F a 8) 4))
    (c_G2_F_F_a_8_5 : G2.2.1 (F (F a 8) 5) = G.2.1 (F (F a 8) 5))
    (c_G2_F_a_15 : G2.2.1 (F a 15) = G.2.1 (F a 15))
    (d_G2_F_a_11_3 : G2.1 (F a 11) 3 = G.1 (F a 11) 3)
    (d_G2_F_a_8_6 : G2.1 (F a 8) 6 = G.1 (F a 8) 6)
    (d_G2_p0_9 : G2.1 p0 9 = 1) :
    F (F a 4) 99 < 12 := by
  first | assumption | omega
theorem v_X10_becomeLate_28_5 {K : Nat → Nat} {F : Nat → Nat → Nat} (a : Nat) (p0 : Nat) (G2 : XG) (G : XG)
    (ha : K a = 12)
    (hp0 : K p0 = 9)
    (hk9999 : K (F a 11) = 3)
    (hj9999 : F (F a 11) 99 = 0)
    (hk9999a : K (F a 8) = 6)
    (hj9999a : F (F a 8) 99 = 0)
    (hk9999b : K (F a 15) = 26)
    (hj9999b : F (F a 15) 99 = 0)
    (hk9999c : K (F (F a 11) 0) = 21)
    (hj9999c : F (F (F a 11) 0) 99 = 100)
    (hk9999d : K (F (F a 11) 1) = 21)
    (hj9999d : F (F (F a 11) 1) 99 = 101)
    (hk9999e : K (F (F a 11) 2) = 24)
    (hj9999e : F (F (F a 11) 2) 99 = 4)
    (hk9999f : K (F (F a 8) 0) = 22)
    (hj9999g : F (F (F a 8) 0) 99 = 10 * 0 + 0)
    (hk9999g : K (F (F a 8) 1) = 22)
    (hj9999i : F (F (F a 8) 1) 99 = 10 * 0 + 1)
    (hk9999h : K (F (F a 8) 2) = 22)
    (hj9999k : F (F (F a 8) 2) 99 = 10 * 0 + 2)
    (hk9999i : K (F (F a 8) 3) = 22)
    (hj9999m : F (F (F a 8) 3) 99 = 10 * 0 + 3)
    (hk9999j : K (F (F a 8) 4) = 23)
    (hj9999o : F (F (F a 8) 4) 99 = 10 * 0 + 4)
    (hk9999k : K (F (F a 8) 5) = 23)
    (hj9999q : F (F (F a 8) 5) 99 = 10 * 0 + 5)
    (hk9999l : K (F a 2) = 2)
    (hj9999r : F (F a 2) 99 = 0)
    (hk9999m : K (F (F a 2) 1) = 15)
    (hj9999s : F (F (F a 2) 1) 99 = 1)
    (hk9999n : K (F a 3) = 8)
    (hj9999t : F (F a 3) 99 = 0)
    (hk9999o : K (F (F a 3) 0) = 20)
    (hj9999v : F (F (F a 3) 0) 99 = 0)
    (hk9999p : K (F (F a 3) 1) = 21)
    (hj9999y : F (F (F a 3) 1) 99 = 0)
    (hk9999q : K (F a 4) = 8)
    (hj9999z25 : F (F a 4) 99 = 1)
    (hk9999r : K (F (F a 4) 0) = 20)
    (hj9999z27 : F (F (F a 4) 0) 99 = 1)
    (hk9999s : K (F (F a 4) 1) = 21)
    (hj9999z29 : F (F (F a 4) 1) 99 = 1)
    (hG2 : G2 = dput G p0 9 1)
    (ron : RO (vw (G.2.1 (F (F a 3) 0))) (aI (G.2.1 (F (F a 3) 1))))
    (rob : RO (vw (G.2.1 (F (F a 4) 0))) (aI (G.2.1 (F (F a 4) 1))))
    (bko : BKr K G (G.2.2.1 (F (F a 2) 1)))
    (sb : 0 ≤ ((G.1 (F a 2) 2).toInt) ∧ ((G.1 (F a 2) 2).toInt) ≤ 12)
    (sw : 0 ≤ ((G.1 (F a 8) 6).toInt) ∧ ((G.1 (F a 8) 6).toInt) ≤ 1080)
    (f48 : ((G.1 a 18).toInt) = 0 ∨ ((G.1 a 18).toInt) = 1)
    (c9 : ((G.1 a 18).toInt) ≠ 0)
    (c_G2_F_F_a_11_0 : G2.2.1 (F (F a 11) 0) = G.2.1 (F (F a 11) 0))
    (c_G2_F_F_a_11_1 : G2.2.1 (F (F a 11) 1) = G.2.1 (F (F a 11) 1))
    (c_G2_F_F_a_11_2 : G2.2.1 (F (F a 11) 2) = G.2.1 (F (F a 11) 2))
    (c_G2_F_F_a_8_0 : G2.2.1 (F (F a 8) 0) = G.2.1 (F (F a 8) 0))
    (c_G2_F_F_a_8_1 : G2.2.1 (F (F a 8) 1) = G.2.1 (F (F a 8) 1))
    (c_G2_F_F_a_8_2 : G2.2.1 (F (F a 8) 2) = G.2.1 (F (F a 8) 2))
    (c_G2_F_F_a_8_3 : G2.2.1 (F (F a 8) 3) = G.2.1 (F (F a 8) 3))
    (c_G2_F_F_a_8_4 : G2.2.1 (F (F a 8) 4) = G.2.1 (F (F a 8) 4))
    (c_G2_F_F_a_8_5 : G2.2.1 (F (F a 8) 5) = G.2.1 (F (F a 8) 5))
    (c_G2_F_a_15 : G2.2.1 (F a 15) = G.2.1 (F a 15))
    (d_G2_F_a_11_3 : G2.1 (F a 11) 3 = G.1 (F a 11) 3)
    (d_G2_F_a_8_6 : G2.1 (F a 8) 6 = G.1 (F a 8) 6)
    (d_G2_p0_9 : G2.1 p0 9 = 1) :
    F (F a 3) 99 < 12 := by
  first | assumption | omega
theorem v_X10_becomeLate_54_6 {K : Nat → Nat} {F : Nat → Nat → Nat} (a : Nat) (p0 : Nat) (G2 : XG) (G : XG) (G28 : XG) (G52 : XG)
    (ha : K a = 12)
    (hp0 : K p0 = 9)
    (hG2 : G2 = dput G p0 9 1)
    (oq28 : qL G28 F (F a 8) = gaL G2 (G2.2.2.1 (F (F a 2) 1)) (vw (G.2.1 (F (F a 4) 0))) (vw (G.2.1 (F (F a 3) 0))) (1 : Int) (((G.1 (F a 2) 2).toInt)).toNat)
    (sb : 0 ≤ ((G.1 (F a 2) 2).toInt) ∧ ((G.1 (F a 2) 2).toInt) ≤ 12)
    (sw : 0 ≤ ((G.1 (F a 8) 6).toInt) ∧ ((G.1 (F a 8) 6).toInt) ≤ 1080)
    (f53 : ((G.1 a 18).toInt) = 0 ∨ ((G.1 a 18).toInt) = 1)
    (c9 : ((G.1 a 18).toInt) ≠ 0)
    (t28 : 0 ≤ ((G28.1 (F a 8) 6).toInt) ∧ ((G28.1 (F a 8) 6).toInt) ≤ 1080)
    (c_G52_F_F_a_8_0 : G52.2.1 (F (F a 8) 0) = G28.2.1 (F (F a 8) 0))
    (c_G52_F_F_a_8_1 : G52.2.1 (F (F a 8) 1) = G28.2.1 (F (F a 8) 1))
    (c_G52_F_F_a_8_2 : G52.2.1 (F (F a 8) 2) = G28.2.1 (F (F a 8) 2))
    (c_G52_F_F_a_8_3 : G52.2.1 (F (F a 8) 3) = G28.2.1 (F (F a 8) 3))
    (c_G52_F_F_a_8_4 : G52.2.1 (F (F a 8) 4) = G28.2.1 (F (F a 8) 4))
    (c_G52_F_F_a_8_5 : G52.2.1 (F (F a 8) 5) = G28.2.1 (F (F a 8) 5))
    (r_G2_F_F_a_2_1 : G2.2.2.1 (F (F a 2) 1) = G.2.2.1 (F (F a 2) 1))
    (d_G52_F_a_8_6 : G52.1 (F a 8) 6 = G28.1 (F a 8) 6) :
    (((G.1 a 18).toInt) = 0 ∧ qL G52 F (F a 8) = qL G F (F a 8) ∧ (hv (aI (G28.2.1 (F (F a 8) 0))) 0 ((G.1 p0 1).toInt) ((G28.1 (F a 8) 6).toInt)) = 0) ∨ (((G.1 a 18).toInt) ≠ 0 ∧ qL G52 F (F a 8) = (gaL (dput G p0 9 1) (G.2.2.1 (F (F a 2) 1)) (vw (G.2.1 (F (F a 4) 0))) (vw (G.2.1 (F (F a 3) 0))) 1 (((G.1 (F a 2) 2).toInt)).toNat) ∧ (hv (aI (G28.2.1 (F (F a 8) 0))) 0 ((G.1 p0 1).toInt) ((G28.1 (F a 8) 6).toInt)) = cnQ (qL G52 F (F a 8)) ((G.1 p0 1).toInt)) := by
  have hq5 : qL G52 F (F a 8) = qL G28 F (F a 8) := qL_cg d_G52_F_a_8_6 c_G52_F_F_a_8_0 c_G52_F_F_a_8_1 c_G52_F_F_a_8_2 c_G52_F_F_a_8_3 c_G52_F_F_a_8_4 c_G52_F_F_a_8_5
  refine Or.inr ⟨by omega, ?_, ?_⟩
  · rw [← hG2, ← r_G2_F_F_a_2_1, ← oq28]
    exact hq5
  · rw [hq5]
    exact hv_qL G28 F (F a 8) _
theorem v_X10_becomeLate_13_7 {K : Nat → Nat} {F : Nat → Nat → Nat} (a : Nat) (p0 : Nat) (G2 : XG) (G : XG)
    (ha : K a = 12)
    (hp0 : K p0 = 9)
    (sb : 0 ≤ ((G.1 (F a 2) 2).toInt) ∧ ((G.1 (F a 2) 2).toInt) ≤ 12)
    (sw : 0 ≤ ((G.1 (F a 8) 6).toInt) ∧ ((G.1 (F a 8) 6).toInt) ≤ 1080)
    (f48 : ((G.1 a 18).toInt) = 0 ∨ ((G.1 a 18).toInt) = 1)
    (c9 : ¬ (((G.1 a 18).toInt) ≠ 0))
    (c_G2_F_F_a_8_0 : G2.2.1 (F (F a 8) 0) = G.2.1 (F (F a 8) 0))
    (c_G2_F_F_a_8_1 : G2.2.1 (F (F a 8) 1) = G.2.1 (F (F a 8) 1))
    (c_G2_F_F_a_8_2 : G2.2.1 (F (F a 8) 2) = G.2.1 (F (F a 8) 2))
    (c_G2_F_F_a_8_3 : G2.2.1 (F (F a 8) 3) = G.2.1 (F (F a 8) 3))
    (c_G2_F_F_a_8_4 : G2.2.1 (F (F a 8) 4) = G.2.1 (F (F a 8) 4))
    (c_G2_F_F_a_8_5 : G2.2.1 (F (F a 8) 5) = G.2.1 (F (F a 8) 5))
    (d_G2_F_a_8_6 : G2.1 (F a 8) 6 = G.1 (F a 8) 6) :
    (((G.1 a 18).toInt) = 0 ∧ qL G2 F (F a 8) = qL G F (F a 8) ∧ (0 : Int) = 0) ∨ (((G.1 a 18).toInt) ≠ 0 ∧ qL G2 F (F a 8) = (gaL (dput G p0 9 1) (G.2.2.1 (F (F a 2) 1)) (vw (G.2.1 (F (F a 4) 0))) (vw (G.2.1 (F (F a 3) 0))) 1 (((G.1 (F a 2) 2).toInt)).toNat) ∧ (0 : Int) = cnQ (qL G2 F (F a 8)) ((G.1 p0 1).toInt)) := by
  exact Or.inl ⟨by omega, qL_cg d_G2_F_a_8_6 c_G2_F_F_a_8_0 c_G2_F_F_a_8_1 c_G2_F_F_a_8_2 c_G2_F_F_a_8_3 c_G2_F_F_a_8_4 c_G2_F_F_a_8_5, rfl⟩
theorem z_X10_becomeLate_3 (a0 : Int) (h0 : 0 ≤ a0 ∧ a0 ≤ 1080) : (1 : Int) = 1 ∧ 0 ≤ a0 ∧ a0 ≤ 1080 := by omega
abbrev rm_X10_becomeLate : Room := { frames := 6, cells := 0, slots := 0, locals := 149 }
set_option maxHeartbeats 4000000 in
set_option maxRecDepth 100000 in
theorem c_X10_becomeLate (l : Launch) (E : XE) (K : Nat → Nat) (F : Nat → Nat → Nat) (G : XG) (a : Nat) (p0 : Nat) (ha : K a = 12) (hp0 : K p0 = 9) (sb : 0 ≤ ((G.1 (F a 2) 2).toInt) ∧ ((G.1 (F a 2) 2).toInt) ≤ 12) (sw : 0 ≤ ((G.1 (F a 8) 6).toInt) ∧ ((G.1 (F a 8) 6).toInt) ≤ 1080) (ron : RO (vw (G.2.1 (F (F a 3) 0))) (aI (G.2.1 (F (F a 3) 1)))) (rob : RO (vw (G.2.1 (F (F a 4) 0))) (aI (G.2.1 (F (F a 4) 1)))) (bko : BKr K G (G.2.2.1 (F (F a 2) 1))) : Met l yX10_becomeLate (xw yX10_becomeLate cX10_becomeLate 3 (some .int)) rm_X10_becomeLate (va_Pc [.ref a, .ref p0] (XP E K F G)) (XQ E (fun v (u : XG) => ∃ r : Int32, v = .int r ∧ XFr [(p0, 9), (F a 11, 3), (F a 8, 6)] [F a 15, F (F a 11) 0, F (F a 11) 1, F (F a 11) 2, F (F a 8) 0, F (F a 8) 1, F (F a 8) 2, F (F a 8) 3, F (F a 8) 4, F (F a 8) 5] [] G u ∧ (((u.1 p0 9).toInt) = 1 ∧ 0 ≤ ((u.1 (F a 8) 6).toInt) ∧ ((u.1 (F a 8) 6).toInt) ≤ 1080) ∧ ((((G.1 a 18).toInt) = 0 ∧ qL u F (F a 8) = qL G F (F a 8) ∧ r.toInt = 0) ∨ (((G.1 a 18).toInt) ≠ 0 ∧ qL u F (F a 8) = (gaL (dput G p0 9 1) (G.2.2.1 (F (F a 2) 1)) (vw (G.2.1 (F (F a 4) 0))) (vw (G.2.1 (F (F a 3) 0))) 1 (((G.1 (F a 2) 2).toInt)).toNat) ∧ r.toInt = cnQ (qL u F (F a 8)) ((G.1 p0 1).toInt)))) (fun u H => TW E K F u H)) 0 0 (xA E) := by
  refine x_enter (by decide) (Nat.le_of_ble_eq_true rfl) ?_
  intro p e s m args below meth c Q S hr hlk hnm hQ hP ls hl
  obtain ⟨hz, hK, hT⟩ := hP
  obtain ⟨hx, hb, -, -, -⟩ := id S
  obtain ⟨H, hT, hS, hgo⟩ : ∃ H : Heap, TW E K F G H ∧ va_S (xA E) s.heap H [] ∧ H = s.heap := ⟨_, hT, va_S.rf, rfl⟩
  rw [← hgo]
  have hl : lv_has ls 3 [(0, .ref a), (1, .ref p0)] := hl
  obtain ⟨hk9999, hj9999⟩ := fkX10_11 hT ha
  obtain ⟨hk9999a, hj9999a⟩ := fkX10_8 hT ha
  obtain ⟨hk9999b, hj9999b⟩ := fkX10_15 hT ha
  obtain ⟨hk9999c, hj9999c⟩ := fkX1_0 hT hk9999
  obtain ⟨hk9999d, hj9999d⟩ := fkX1_1 hT hk9999
  obtain ⟨hk9999e, hj9999e⟩ := fkX1_2 hT hk9999
  obtain ⟨hk9999f, hj9999f⟩ := fkX4_0 hT hk9999a
  have hj9999g : F (F (F a 8) 0) 99 = 10 * 0 + 0 := by rw [hj9999f, hj9999a]
  obtain ⟨hk9999g, hj9999h⟩ := fkX4_1 hT hk9999a
  have hj9999i : F (F (F a 8) 1) 99 = 10 * 0 + 1 := by rw [hj9999h, hj9999a]
  obtain ⟨hk9999h, hj9999j⟩ := fkX4_2 hT hk9999a
  have hj9999k : F (F (F a 8) 2) 99 = 10 * 0 + 2 := by rw [hj9999j, hj9999a]
  obtain ⟨hk9999i, hj9999l⟩ := fkX4_3 hT hk9999a
  have hj9999m : F (F (F a 8) 3) 99 = 10 * 0 + 3 := by rw [hj9999l, hj9999a]
  obtain ⟨hk9999j, hj9999n⟩ := fkX4_4 hT hk9999a
  have hj9999o : F (F (F a 8) 4) 99 = 10 * 0 + 4 := by rw [hj9999n, hj9999a]
  obtain ⟨hk9999k, hj9999p⟩ := fkX4_5 hT hk9999a
  have hj9999q : F (F (F a 8) 5) 99 = 10 * 0 + 5 := by rw [hj9999p, hj9999a]
  obtain ⟨hk9999l, hj9999r⟩ := fkX10_2 hT ha
  obtain ⟨hk9999m, hj9999s⟩ := fkX0_1 hT hk9999l
  obtain ⟨hk9999n, hj9999t⟩ := fkX10_3 hT ha
  obtain ⟨hk9999o, hj9999u⟩ := fkX6_0 hT hk9999n
  have hj9999v : F (F (F a 3) 0) 99 = 0 := by rw [hj9999u, hj9999t]
  obtain ⟨hk9999p, hj9999w⟩ := fkX6_1 hT hk9999n
  have hj9999y : F (F (F a 3) 1) 99 = 0 := by rw [hj9999w, hj9999t]
  obtain ⟨hk9999q, hj9999z25⟩ := fkX10_4 hT ha
  obtain ⟨hk9999r, hj9999z26⟩ := fkX6_0 hT hk9999q
  have hj9999z27 : F (F (F a 4) 0) 99 = 1 := by rw [hj9999z26, hj9999z25]
  obtain ⟨hk9999s, hj9999z28⟩ := fkX6_1 hT hk9999q
  have hj9999z29 : F (F (F a 4) 1) 99 = 1 := by rw [hj9999z28, hj9999z25]
  refine lv_aload_n hx hb dX10_becomeLate_0 rfl (lv_at hl 1 rfl) ?_
  refine lv_iconst (v := 1) hx hb dX10_becomeLate_1 (by decide) ?_
  refine pX7_9 (v := 1) S hK hT hS hp0 kf_X10_170 (Or.inr rfl) dX10_becomeLate_2 (fun H locs hT hS => ?_)
  obtain ⟨G2, hG2⟩ : ∃ GG : XG, GG = dput G p0 9 1 := ⟨_, rfl⟩
  rw [← hG2] at hT
  refine lv_aload_n hx hb dX10_becomeLate_5 rfl (lv_at hl 0 rfl) ?_
  refine gX10_18 S hK hT ha kf_X10_123 dX10_becomeLate_6 (v := (G.1 a 18)) (ld_j hG2 (by decide)) (fun hz6 => ?_)
  refine xi_zne (tgt := 14) hx hb (rfl : Int32.toInt (G.1 a 18) = ((G.1 a 18).toInt)) dX10_becomeLate_9 (by decide) (fun c9 => ?_) (fun c9 => ?_)
  · refine lv_aload_n hx hb dX10_becomeLate_14 rfl (lv_at hl 0 rfl) ?_
    refine lv_aload_n hx hb dX10_becomeLate_15 rfl (lv_at hl 0 rfl) ?_
    refine gX10_8 S hK hT ha kf_X10_57 dX10_becomeLate_16 (fun _ _ => ?_)
    refine lv_aload_n hx hb dX10_becomeLate_19 rfl (lv_at hl 0 rfl) ?_
    refine gX10_4 S hK hT ha kf_X10_41 dX10_becomeLate_20 (fun _ _ => ?_)
    refine lv_aload_n hx hb dX10_becomeLate_23 rfl (lv_at hl 0 rfl) ?_
    refine gX10_3 S hK hT ha kf_X10_37 dX10_becomeLate_24 (fun _ _ => ?_)
    refine lv_iconst (v := 1) hx hb dX10_becomeLate_27 (by decide) ?_
    refine x_cv0 (x_runV (b := a) (As := [.ref (F a 8), .ref (F a 4), .ref (F a 3), .int 1]) (rest := []) S (c_X10_gather l E K F G2 a (F a 8) (F a 4) (F a 3) 1 ha hk9999a hk9999q hk9999n (by rw [(show (G2.1 (F a 2) 2).toInt = ((G.1 (F a 2) 2).toInt) from (congrArg Int32.toInt (ld_j hG2 (by decide))).trans (rfl : Int32.toInt (G.1 (F a 2) 2) = ((G.1 (F a 2) 2).toInt)))] <;> exact (sb)) (v_X10_becomeLate_28_1 (F := F) a G2 G ron rob (ld_c hG2) (ld_c hG2)) (v_X10_becomeLate_28_2 (F := F) a G2 G ron rob (ld_c hG2) (ld_c hG2)) (v_X10_becomeLate_28_3 (K := K) (F := F) a p0 G2 G ha hp0 hk9999 hj9999 hk9999a hj9999a hk9999b hj9999b hk9999c hj9999c hk9999d hj9999d hk9999e hj9999e hk9999f hj9999g hk9999g hj9999i hk9999h hj9999k hk9999i hj9999m hk9999j hj9999o hk9999k hj9999q hk9999l hj9999r hk9999m hj9999s hk9999n hj9999t hk9999o hj9999v hk9999p hj9999y hk9999q hj9999z25 hk9999r hj9999z27 hk9999s hj9999z29 hG2 ron rob bko sb sw (xzi hz6) c9 (ld_c hG2) (ld_c hG2) (ld_c hG2) (ld_c hG2) (ld_c hG2) (ld_c hG2) (ld_c hG2) (ld_c hG2) (ld_c hG2) (ld_c hG2) (ld_r hG2) (ld_j hG2 (by decide)) (ld_j hG2 (by decide)) (ld_at hG2)) (v_X10_becomeLate_28_4 (K := K) (F := F) a p0 G2 G ha hp0 hk9999 hj9999 hk9999a hj9999a hk9999b hj9999b hk9999c hj9999c hk9999d hj9999d hk9999e hj9999e hk9999f hj9999g hk9999g hj9999i hk9999h hj9999k hk9999i hj9999m hk9999j hj9999o hk9999k hj9999q hk9999l hj9999r hk9999m hj9999s hk9999n hj9999t hk9999o hj9999v hk9999p hj9999y hk9999q hj9999z25 hk9999r hj9999z27 hk9999s hj9999z29 hG2 ron rob bko sb sw (xzi hz6) c9 (ld_c hG2) (ld_c hG2) (ld_c hG2) (ld_c hG2) (ld_c hG2) (ld_c hG2) (ld_c hG2) (ld_c hG2) (ld_c hG2) (ld_c hG2) (ld_j hG2 (by decide)) (ld_j hG2 (by decide)) (ld_at hG2)) (v_X10_becomeLate_28_5 (K := K) (F := F) a p0 G2 G ha hp0 hk9999 hj9999 hk9999a hj9999a hk9999b hj9999b hk9999c hj9999c hk9999d hj9999d hk9999e hj9999e hk9999f hj9999g hk9999g hj9999i hk9999h hj9999k hk9999i hj9999m hk9999j hj9999o hk9999k hj9999q hk9999l hj9999r hk9999m hj9999s hk9999n hj9999t hk9999o hj9999v hk9999p hj9999y hk9999q hj9999z25 hk9999r hj9999z27 hk9999s hj9999z29 hG2 ron rob bko sb sw (xzi hz6) c9 (ld_c hG2) (ld_c hG2) (ld_c hG2) (ld_c hG2) (ld_c hG2) (ld_c hG2) (ld_c hG2) (ld_c hG2) (ld_c hG2) (ld_c hG2) (ld_j hG2 (by decide)) (ld_j hG2 (by decide)) (ld_at hG2))) mv_X10_gather km_X10_240 rfl rfl ⟨Nat.le_of_ble_eq_true rfl, Nat.le_of_ble_eq_true rfl⟩ (rc_12 hK hT ha) hK (fun _ => XP.blind) (fun U hU hW => XP.at hK hz hS hT hU hW) rfl hl.1 (Nat.le_of_ble_eq_true rfl) dX10_becomeLate_28 ⟨Nat.le_of_ble_eq_true rfl, Nat.le_of_ble_eq_true rfl⟩) hS ?_
    rintro G28 H locs ⟨hF28, t28, oq28⟩ hT hS
    have t28 : 0 ≤ ((G28.1 (F a 8) 6).toInt) ∧ ((G28.1 (F a 8) 6).toInt) ≤ 1080 := t28
    have oq28 : qL G28 F (F a 8) = gaL G2 (G2.2.2.1 (F (F a 2) 1)) (vw (G.2.1 (F (F a 4) 0))) (vw (G.2.1 (F (F a 3) 0))) (1 : Int) (((G.1 (F a 2) 2).toInt)).toNat := by simp only [(show G2.2.1 (F (F a 4) 0) = G.2.1 (F (F a 4) 0) from (ld_c hG2)), (show G2.2.1 (F (F a 3) 0) = G.2.1 (F (F a 3) 0) from (ld_c hG2)), (show G2.1 (F a 2) 2 = G.1 (F a 2) 2 from (ld_j hG2 (by decide)))] at oq28; exact oq28
    refine lv_aload_n hx hb dX10_becomeLate_31 rfl (lv_at hl 0 rfl) ?_
    refine gX10_8 S hK hT ha kf_X10_57 dX10_becomeLate_32 (fun _ _ => ?_)
    refine lv_aload_n hx hb dX10_becomeLate_35 rfl (lv_at hl 1 rfl) ?_
    refine gX7_1 S hK hT hp0 kf_X10_130 dX10_becomeLate_36 (v := (G.1 p0 1)) ((hF28.1 _ _ (xnj (by decide) (xnj (by decide) xn0))).trans (ld_j hG2 (by decide))) (?_)
    refine x_clp (x_runV (b := (F a 8)) (As := [.int (G.1 p0 1)]) (rest := []) S (c_X4_ofRule l E K F G28 H (F a 8) (G.1 p0 1) hk9999a (t28)) mv_X4_ofRule km_X10_296 rfl rfl ⟨Nat.le_of_ble_eq_true rfl, Nat.le_of_ble_eq_true rfl⟩ (rc_6 hK hT hk9999a) hK (fun _ => XPh.blind) (fun U hU hW => XPh.at hK hz hS hT hU hW) rfl hl.1 (Nat.le_of_ble_eq_true rfl) dX10_becomeLate_39 ⟨Nat.le_of_ble_eq_true rfl, Nat.le_of_ble_eq_true rfl⟩) hS ?_
    rintro _ _ locs ⟨x39, rfl, t39⟩ hS
    have t39 : x39.toInt = (hv (aI (G28.2.1 (F (F a 8) 0))) 0 ((G.1 p0 1).toInt) ((G28.1 (F a 8) 6).toInt)) := t39
    refine lv_istore_n (lv' := [(2, .int x39), (0, .ref a), (1, .ref p0)]) hx hb dX10_becomeLate_42 rfl hl (by decide) rfl (fun ls hl => ?_)
    refine lv_aload_n hx hb dX10_becomeLate_43 rfl (lv_at hl 1 rfl) ?_
    refine gX10_15 S hK hT ha kf_X10_95 dX10_becomeLate_44 (fun _ _ => ?_)
    refine lv_iconst (v := 0) hx hb dX10_becomeLate_47 (by decide) ?_
    refine lv_dup2_11 hx hb dX10_becomeLate_48 rfl rfl ?_
    refine al_0 S hK hT hk9999b ar_26 (by decide) (by decide) dX10_becomeLate_49 (fun x49 hv49 o49 => ?_)
    have hv49 : x49.toInt = (aI (G.2.1 (F a 15)) 0) := hv49.trans (by rw [((by decide) : Int32.toInt 0 = (0 : Int)), (((hF28.2.1 _ (xn1 (xne_k hk9999b hk9999c (by decide)) (xn1 (xne_k hk9999b hk9999d (by decide)) (xn1 (xne_k hk9999b hk9999e (by decide)) (xn1 (xne_k hk9999b hk9999f (by decide)) (xn1 (xne_k hk9999b hk9999g (by decide)) (xn1 (xne_k hk9999b hk9999h (by decide)) (xn1 (xne_k hk9999b hk9999i (by decide)) (xn1 (xne_k hk9999b hk9999j (by decide)) (xn1 (xne_k hk9999b hk9999k (by decide)) xn0)))))))))).trans (ld_c hG2)) : G28.2.1 (F a 15) = G.2.1 (F a 15))])
    refine lv_iload_n hx hb dX10_becomeLate_50 rfl (lv_at hl 0 rfl) ?_
    refine xi_iadd hx hb (hv49 : Int32.toInt x49 = (aI (G.2.1 (F a 15)) 0)) (t39 : Int32.toInt x39 = (hv (aI (G28.2.1 (F (F a 8) 0))) 0 ((G.1 p0 1).toInt) ((G28.1 (F a 8) 6).toInt))) dX10_becomeLate_51 (fun x51 t51 => ?_)
    refine as_0 (x := x51) S hK hT hS hk9999b ar_26 aw_26 (by decide) (by decide) dX10_becomeLate_52 (fun H locs hT hS => ?_)
    obtain ⟨G52, hG52⟩ : ∃ GG : XG, GG = cput G28 (F a 15) (0 : Int32).toNatClampNeg x51 := ⟨_, rfl⟩
    rw [← hG52] at hT
    refine lv_iload_n hx hb dX10_becomeLate_53 rfl (lv_at hl 0 rfl) ?_
    exact x_ri hx hb hr hlk hQ (Nat.le_of_ble_eq_true rfl) (Nat.le_of_ble_eq_true rfl) hS dX10_becomeLate_54 G52 ⟨_, rfl, (by rw [hG52]; exact XFr.cput (XFr.call (by rw [hG2]; exact XFr.dput XFr.rf (List.mem_of_getElem? (i := 0) rfl)) hF28 (xm1 1 rfl (xm1 2 rfl xm0)) (xm1 1 rfl (xm1 2 rfl (xm1 3 rfl (xm1 4 rfl (xm1 5 rfl (xm1 6 rfl (xm1 7 rfl (xm1 8 rfl (xm1 9 rfl xm0))))))))) xm0) (List.mem_of_getElem? (i := 0) rfl)), (by rw [(show (G52.1 p0 9).toInt = (1 : Int) from (congrArg Int32.toInt ((lc_d hG52).trans ((hF28.1 _ _ (xnj (by decide) (xnj (by decide) xn0))).trans (ld_at hG2)))).trans ((by decide) : Int32.toInt 1 = (1 : Int))), (show (G52.1 (F a 8) 6).toInt = ((G28.1 (F a 8) 6).toInt) from (congrArg Int32.toInt (lc_d hG52)).trans (rfl : Int32.toInt (G28.1 (F a 8) 6) = ((G28.1 (F a 8) 6).toInt)))] <;> exact (z_X10_becomeLate_3 ((G28.1 (F a 8) 6).toInt) t28)), (by rw [(t39 : Int32.toInt x39 = (hv (aI (G28.2.1 (F (F a 8) 0))) 0 ((G.1 p0 1).toInt) ((G28.1 (F a 8) 6).toInt)))] <;> exact (v_X10_becomeLate_54_6 (K := K) (F := F) a p0 G2 G G28 G52 ha hp0 hG2 oq28 sb sw (xzi hz6) c9 t28 (lc_c hG52 (xne_k hk9999f hk9999b (by decide))) (lc_c hG52 (xne_k hk9999g hk9999b (by decide))) (lc_c hG52 (xne_k hk9999h hk9999b (by decide))) (lc_c hG52 (xne_k hk9999i hk9999b (by decide))) (lc_c hG52 (xne_k hk9999j hk9999b (by decide))) (lc_c hG52 (xne_k hk9999k hk9999b (by decide))) (ld_r hG2) (lc_d hG52)))⟩ hT
  · refine lv_iconst (v := 0) hx hb dX10_becomeLate_12 (by decide) ?_
    exact x_ri hx hb hr hlk hQ (Nat.le_of_ble_eq_true rfl) (Nat.le_of_ble_eq_true rfl) hS dX10_becomeLate_13 G2 ⟨_, rfl, (by rw [hG2]; exact XFr.dput XFr.rf (List.mem_of_getElem? (i := 0) rfl)), (by rw [(show (G2.1 p0 9).toInt = (1 : Int) from (congrArg Int32.toInt (ld_at hG2)).trans ((by decide) : Int32.toInt 1 = (1 : Int))), (show (G2.1 (F a 8) 6).toInt = ((G.1 (F a 8) 6).toInt) from (congrArg Int32.toInt (ld_j hG2 (by decide))).trans (rfl : Int32.toInt (G.1 (F a 8) 6) = ((G.1 (F a 8) 6).toInt)))] <;> exact (z_X10_becomeLate_3 ((G.1 (F a 8) 6).toInt) sw)), (v_X10_becomeLate_13_7 (K := K) (F := F) a p0 G2 G ha hp0 sb sw (xzi hz6) c9 (ld_c hG2) (ld_c hG2) (ld_c hG2) (ld_c hG2) (ld_c hG2) (ld_c hG2) (ld_j hG2 (by decide)))⟩ hT
theorem v_X10_becomePrompt_110_1 {F : Nat → Nat → Nat} (a : Nat) (G : XG) (G72 : XG)
    (ron : RO (vw (G.2.1 (F (F a 3) 0))) (aI (G.2.1 (F (F a 3) 1))))
    (rob : RO (vw (G.2.1 (F (F a 4) 0))) (aI (G.2.1 (F (F a 4) 1))))
    (c_G72_F_F_a_4_0 : G72.2.1 (F (F a 4) 0) = G.2.1 (F (F a 4) 0))
    (c_G72_F_F_a_4_1 : G72.2.1 (F (F a 4) 1) = G.2.1 (F (F a 4) 1)) :
    RO (vw (G72.2.1 (F (F a 4) 0))) (aI (G72.2.1 (F (F a 4) 1))) := by simp only [c_G72_F_F_a_4_0, c_G72_F_F_a_4_1]; assumption
theorem v_X10_becomePrompt_110_2 {F : Nat → Nat → Nat} (a : Nat) (G : XG) (G72 : XG)
    (ron : RO (vw (G.2.1 (F (F a 3) 0))) (aI (G.2.1 (F (F a 3) 1))))
    (rob : RO (vw (G.2.1 (F (F a 4) 0))) (aI (G.2.1 (F (F a 4) 1))))
    (c_G72_F_F_a_3_0 : G72.2.1 (F (F a 3) 0) = G.2.1 (F (F a 3) 0))
    (c_G72_F_F_a_3_1 : G72.2.1 (F (F a 3) 1) = G.2.1 (F (F a 3) 1)) :
    RO (vw (G72.2.1 (F (F a 3) 0))) (aI (G72.2.1 (F (F a 3) 1))) := by simp only [c_G72_F_F_a_3_0, c_G72_F_F_a_3_1]; assumption
theorem v_X10_becomePrompt_110_3 {K : Nat → Nat} {F : Nat → Nat → Nat} (a : Nat) (p0 : Nat) (G : XG) (G_2 : XG) (G72 : XG)
    (hF_2 : XFr [] [F a 16] [] G G_2)
    (hG72 : G72 = dput G_2 p0 9 0)
    (bko : BKr K G (G.2.2.1 (F (F a 2) 1)))
    (r_G72_F_F_a_2_1 : G72.2.2.1 (F (F a 2) 1) = G.2.2.1 (F (F a 2) 1)) :
    ∀ (i q : Nat), i < 12 → G72.2.2.1 (F (F a 2) 1) i = some q → RW (G72.1 q) := by
  have e1 : G_2.1 = G.1 := funext (fun b => fr_A hF_2 (fun _ => xn0))
  have b2 : BKr K G_2 (G.2.2.1 (F (F a 2) 1)) := fun i q hi hq => ⟨(bko i q hi hq).1, by rw [e1]; exact (bko i q hi hq).2⟩
  rw [r_G72_F_F_a_2_1]
  exact (b2.late hG72).rw
theorem v_X10_becomePrompt_110_4 {K : Nat → Nat} {F : Nat → Nat → Nat} (a : Nat) (p0 : Nat) (G : XG) (G_2 : XG) (G72 : XG) (l2_2 : Int32) (x7 : Int32) (x92 : Int32) (N2 : Nat)
    (ha : K a = 12)
    (hp0 : K p0 = 9)
    (hk9999 : K (F a 14) = 11)
    (hj9999 : F (F a 14) 99 = 0)
    (hk9999a : K (F a 11) = 3)
    (hj9999a : F (F a 11) 99 = 0)
    (hk9999b : K (F a 8) = 6)
    (hj9999b : F (F a 8) 99 = 0)
    (hk9999c : K (F a 16) = 27)
    (hj9999c : F (F a 16) 99 = 0)
    (hk9999d : K (F (F a 11) 0) = 21)
    (hj9999d : F (F (F a 11) 0) 99 = 100)
    (hk9999e : K (F (F a 11) 1) = 21)
    (hj9999e : F (F (F a 11) 1) 99 = 101)
    (hk9999f : K (F (F a 11) 2) = 24)
    (hj9999f : F (F (F a 11) 2) 99 = 4)
    (hk9999g : K (F (F a 8) 0) = 22)
    (hj9999h : F (F (F a 8) 0) 99 = 10 * 0 + 0)
    (hk9999h : K (F (F a 8) 1) = 22)
    (hj9999j : F (F (F a 8) 1) 99 = 10 * 0 + 1)
    (hk9999i : K (F (F a 8) 2) = 22)
    (hj9999l : F (F (F a 8) 2) 99 = 10 * 0 + 2)
    (hk9999j : K (F (F a 8) 3) = 22)
    (hj9999n : F (F (F a 8) 3) 99 = 10 * 0 + 3)
    (hk9999k : K (F (F a 8) 4) = 23)
    (hj9999p : F (F (F a 8) 4) 99 = 10 * 0 + 4)
    (hk9999l : K (F (F a 8) 5) = 23)
    (hj9999r : F (F (F a 8) 5) 99 = 10 * 0 + 5)
    (hk9999m : K (F a 2) = 2)
    (hj9999s : F (F a 2) 99 = 0)
    (hk9999n : K (F (F a 2) 1) = 15)
    (hj9999t : F (F (F a 2) 1) 99 = 1)
    (hk9999o : K (F a 3) = 8)
    (hj9999u : F (F a 3) 99 = 0)
    (hk9999p : K (F (F a 3) 0) = 20)
    (hj9999w : F (F (F a 3) 0) 99 = 0)
    (hk9999q : K (F (F a 3) 1) = 21)
    (hj9999z25 : F (F (F a 3) 1) 99 = 0)
    (hk9999r : K (F a 4) = 8)
    (hj9999z26 : F (F a 4) 99 = 1)
    (hk9999s : K (F (F a 4) 0) = 20)
    (hj9999z28 : F (F (F a 4) 0) 99 = 1)
    (hk9999t : K (F (F a 4) 1) = 21)
    (hj9999z30 : F (F (F a 4) 1) 99 = 1)
    (hF_2 : XFr [] [F a 16] [] G G_2)
    (hG72 : G72 = dput G_2 p0 9 0)
    (ron : RO (vw (G.2.1 (F (F a 3) 0))) (aI (G.2.1 (F (F a 3) 1))))
    (rob : RO (vw (G.2.1 (F (F a 4) 0))) (aI (G.2.1 (F (F a 4) 1))))
    (bko : BKr K G (G.2.2.1 (F (F a 2) 1)))
    (pa : ∀ j : Int, 0 ≤ j → j < l2_2.toInt → aI (G.2.1 (F (F a 8) 0)) j = ((G.1 p0 1).toInt) → aI (G.2.1 (F (F a 8) 5)) j = 0)
    (t7 : x7.toInt = ((G.1 (F a 8) 6).toInt))
    (t92 : x92.toInt = (hv (aI (G.2.1 (F (F a 8) 0))) 0 ((G.1 p0 1).toInt) ((G.1 (F a 8) 6).toInt)))
    (sb : 0 ≤ ((G.1 (F a 2) 2).toInt) ∧ ((G.1 (F a 2) 2).toInt) ≤ 12)
    (sw : 0 ≤ ((G.1 (F a 8) 6).toInt) ∧ ((G.1 (F a 8) 6).toInt) ≤ 1080)
    (I2_0 : 0 ≤ l2_2.toInt ∧ l2_2.toInt ≤ ((G.1 (F a 8) 6).toInt))
    (I2_1 : (0 : Int) ≤ l2_2.toInt)
    (hm2 : 2147483648 - l2_2.toInt < (((N2) + 1 : Nat) : Int))
    (c10 : ((G.1 (F a 8) 6).toInt) ≤ l2_2.toInt)
    (f58 : ((G.1 a 18).toInt) = 0 ∨ ((G.1 a 18).toInt) = 1)
    (c79 : ((G.1 a 18).toInt) ≠ 0)
    (c_G72_F_F_a_11_0 : G72.2.1 (F (F a 11) 0) = G.2.1 (F (F a 11) 0))
    (c_G72_F_F_a_11_1 : G72.2.1 (F (F a 11) 1) = G.2.1 (F (F a 11) 1))
    (c_G72_F_F_a_11_2 : G72.2.1 (F (F a 11) 2) = G.2.1 (F (F a 11) 2))
    (c_G72_F_F_a_8_0 : G72.2.1 (F (F a 8) 0) = G.2.1 (F (F a 8) 0))
    (c_G72_F_F_a_8_1 : G72.2.1 (F (F a 8) 1) = G.2.1 (F (F a 8) 1))
    (c_G72_F_F_a_8_2 : G72.2.1 (F (F a 8) 2) = G.2.1 (F (F a 8) 2))
    (c_G72_F_F_a_8_3 : G72.2.1 (F (F a 8) 3) = G.2.1 (F (F a 8) 3))
    (c_G72_F_F_a_8_4 : G72.2.1 (F (F a 8) 4) = G.2.1 (F (F a 8) 4))
    (c_G72_F_F_a_8_5 : G72.2.1 (F (F a 8) 5) = G.2.1 (F (F a 8) 5))
    (c_G72_F_a_16 : G72.2.1 (F a 16) = G_2.2.1 (F a 16))
    (r_G72_F_F_a_2_1 : G72.2.2.1 (F (F a 2) 1) = G.2.2.1 (F (F a 2) 1))
    (d_G72_F_a_11_3 : G72.1 (F a 11) 3 = G.1 (F a 11) 3)
    (d_G72_F_a_14_1 : G72.1 (F a 14) 1 = G.1 (F a 14) 1)
    (d_G72_F_a_14_2 : G72.1 (F a 14) 2 = G.1 (F a 14) 2)
    (d_G72_F_a_14_3 : G72.1 (F a 14) 3 = G.1 (F a 14) 3)
    (d_G72_F_a_8_6 : G72.1 (F a 8) 6 = G.1 (F a 8) 6)
    (d_G72_p0_9 : G72.1 p0 9 = 0) :
    F (F a 4) 99 < 12 := by
  first | assumption | omega
theorem v_X10_becomePrompt_110_5 {K : Nat → Nat} {F : Nat → Nat → Nat} (a : Nat) (p0 : Nat) (G : XG) (G_2 : XG) (G72 : XG) (l2_2 : Int32) (x7 : Int32) (x92 : Int32) (N2 : Nat)
    (ha : K a = 12)
    (hp0 : K p0 = 9)
    (hk9999 : K (F a 14) = 11)
    (hj9999 : F (F a 14) 99 = 0)
    (hk9999a : K (F a 11) = 3)
    (hj9999a : F (F a 11) 99 = 0)
    (hk9999b : K (F a 8) = 6)
    (hj9999b : F (F a 8) 99 = 0)
    (hk9999c : K (F a 16) = 27)
    (hj9999c : F (F a 16) 99 = 0)
    (hk9999d : K (F (F a 11) 0) = 21)
    (hj9999d : F (F (F a 11) 0) 99 = 100)
    (hk9999e : K (F (F a 11) 1) = 21)
    (hj9999e : F (F (F a 11) 1) 99 = 101)
    (hk9999f : K (F (F a 11) 2) = 24)
    (hj9999f : F (F (F a 11) 2) 99 = 4)
    (hk9999g : K (F (F a 8) 0) = 22)
    (hj9999h : F (F (F a 8) 0) 99 = 10 * 0 + 0)
    (hk9999h : K (F (F a 8) 1) = 22)
    (hj9999j : F (F (F a 8) 1) 99 = 10 * 0 + 1)
    (hk9999i : K (F (F a 8) 2) = 22)
    (hj9999l : F (F (F a 8) 2) 99 = 10 * 0 + 2)
    (hk9999j : K (F (F a 8) 3) = 22)
    (hj9999n : F (F (F a 8) 3) 99 = 10 * 0 + 3)
    (hk9999k : K (F (F a 8) 4) = 23)
    (hj9999p : F (F (F a 8) 4) 99 = 10 * 0 + 4)
    (hk9999l : K (F (F a 8) 5) = 23)
    (hj9999r : F (F (F a 8) 5) 99 = 10 * 0 + 5)
    (hk9999m : K (F a 2) = 2)
    (hj9999s : F (F a 2) 99 = 0)
    (hk9999n : K (F (F a 2) 1) = 15)
    (hj9999t : F (F (F a 2) 1) 99 = 1)
    (hk9999o : K (F a 3) = 8)
    (hj9999u : F (F a 3) 99 = 0)
    (hk9999p : K (F (F a 3) 0) = 20)
    (hj9999w : F (F (F a 3) 0) 99 = 0)
    (hk9999q : K (F (F a 3) 1) = 21)
    (hj9999z25 : F (F (F a 3) 1) 99 = 0)
    (hk9999r : K (F a 4) = 8)
    (hj9999z26 : F (F a 4) 99 = 1)
    (hk9999s : K (F (F a 4) 0) = 20)
    (hj9999z28 : F (F (F a 4) 0) 99 = 1)
    (hk9999t : K (F (F a 4) 1) = 21)
    (hj9999z30 : F (F (F a 4) 1) 99 = 1)
    (hF_2 : XFr [] [F a 16] [] G G_2)
    (hG72 : G72 = dput G_2 p0 9 0)
    (ron : RO (vw (G.2.1 (F (F a 3) 0))) (aI (G.2.1 (F (F a 3) 1))))
    (rob : RO (vw (G.2.1 (F (F a 4) 0))) (aI (G.2.1 (F (F a 4) 1))))
    (bko : BKr K G (G.2.2.1 (F (F a 2) 1)))
    (pa : ∀ j : Int, 0 ≤ j → j < l2_2.toInt → aI (G.2.1 (F (F a 8) 0)) j = ((G.1 p0 1).toInt) → aI (G.2.1 (F (F a 8) 5)) j = 0)
    (t7 : x7.toInt = ((G.1 (F a 8) 6).toInt))
    (t92 : x92.toInt = (hv (aI (G.2.1 (F (F a 8) 0))) 0 ((G.1 p0 1).toInt) ((G.1 (F a 8) 6).toInt)))
    (sb : 0 ≤ ((G.1 (F a 2) 2).toInt) ∧ ((G.1 (F a 2) 2).toInt) ≤ 12)
    (sw : 0 ≤ ((G.1 (F a 8) 6).toInt) ∧ ((G.1 (F a 8) 6).toInt) ≤ 1080)
    (I2_0 : 0 ≤ l2_2.toInt ∧ l2_2.toInt ≤ ((G.1 (F a 8) 6).toInt))
    (I2_1 : (0 : Int) ≤ l2_2.toInt)
    (hm2 : 2147483648 - l2_2.toInt < (((N2) + 1 : Nat) : Int))
    (c10 : ((G.1 (F a 8) 6).toInt) ≤ l2_2.toInt)
    (f58 : ((G.1 a 18).toInt) = 0 ∨ ((G.1 a 18).toInt) = 1)
    (c79 : ((G.1 a 18).toInt) ≠ 0)
    (c_G72_F_F_a_11_0 : G72.2.1 (F (F a 11) 0) = G.2.1 (F (F a 11) 0))
    (c_G72_F_F_a_11_1 : G72.2.1 (F (F a 11) 1) = G.2.1 (F (F a 11) 1))
    (c_G72_F_F_a_11_2 : G72.2.1 (F (F a 11) 2) = G.2.1 (F (F a 11) 2))
    (c_G72_F_F_a_8_0 : G72.2.1 (F (F a 8) 0) = G.2.1 (F (F a 8) 0))
    (c_G72_F_F_a_8_1 : G72.2.1 (F (F a 8) 1) = G.2.1 (F (F a 8) 1))
    (c_G72_F_F_a_8_2 : G72.2.1 (F (F a 8) 2) = G.2.1 (F (F a 8) 2))
    (c_G72_F_F_a_8_3 : G72.2.1 (F (F a 8) 3) = G.2.1 (F (F a 8) 3))
    (c_G72_F_F_a_8_4 : G72.2.1 (F (F a 8) 4) = G.2.1 (F (F a 8) 4))
    (c_G72_F_F_a_8_5 : G72.2.1 (F (F a 8) 5) = G.2.1 (F (F a 8) 5))
    (c_G72_F_a_16 : G72.2.1 (F a 16) = G_2.2.1 (F a 16))
    (r_G72_F_F_a_2_1 : G72.2.2.1 (F (F a 2) 1) = G.2.2.1 (F (F a 2) 1))
    (d_G72_F_a_11_3 : G72.1 (F a 11) 3 = G.1 (F a 11) 3)
    (d_G72_F_a_14_1 : G72.1 (F a 14) 1 = G.1 (F a 14) 1)
    (d_G72_F_a_14_2 : G72.1 (F a 14) 2 = G.1 (F a 14) 2)
    (d_G72_F_a_14_3 : G72.1 (F a 14) 3 = G.1 (F a 14) 3)
    (d_G72_F_a_8_6 : G72.1 (F a 8) 6 = G.1 (F a 8) 6)
    (d_G72_p0_9 : G72.1 p0 9 = 0) :
    F (F a 3) 99 < 12 := by
  first | assumption | omega
theorem v_X10_becomePrompt_114_6 {K : Nat → Nat} {F : Nat → Nat → Nat} (a : Nat) (p0 : Nat) (G : XG) (G_2 : XG) (G72 : XG) (G110 : XG) (l2_2 : Int32) (N2 : Nat)
    (ha : K a = 12)
    (hp0 : K p0 = 9)
    (hk9999 : K (F a 14) = 11)
    (hj9999 : F (F a 14) 99 = 0)
    (hk9999a : K (F a 11) = 3)
    (hj9999a : F (F a 11) 99 = 0)
    (hk9999b : K (F a 8) = 6)
    (hj9999b : F (F a 8) 99 = 0)
    (hk9999c : K (F a 16) = 27)
    (hj9999c : F (F a 16) 99 = 0)
    (hk9999d : K (F (F a 11) 0) = 21)
    (hj9999d : F (F (F a 11) 0) 99 = 100)
    (hk9999e : K (F (F a 11) 1) = 21)
    (hj9999e : F (F (F a 11) 1) 99 = 101)
    (hk9999f : K (F (F a 11) 2) = 24)
    (hj9999f : F (F (F a 11) 2) 99 = 4)
    (hk9999g : K (F (F a 8) 0) = 22)
    (hj9999h : F (F (F a 8) 0) 99 = 10 * 0 + 0)
    (hk9999h : K (F (F a 8) 1) = 22)
    (hj9999j : F (F (F a 8) 1) 99 = 10 * 0 + 1)
    (hk9999i : K (F (F a 8) 2) = 22)
    (hj9999l : F (F (F a 8) 2) 99 = 10 * 0 + 2)
    (hk9999j : K (F (F a 8) 3) = 22)
    (hj9999n : F (F (F a 8) 3) 99 = 10 * 0 + 3)
    (hk9999k : K (F (F a 8) 4) = 23)
    (hj9999p : F (F (F a 8) 4) 99 = 10 * 0 + 4)
    (hk9999l : K (F (F a 8) 5) = 23)
    (hj9999r : F (F (F a 8) 5) 99 = 10 * 0 + 5)
    (hk9999m : K (F a 2) = 2)
    (hj9999s : F (F a 2) 99 = 0)
    (hk9999n : K (F (F a 2) 1) = 15)
    (hj9999t : F (F (F a 2) 1) 99 = 1)
    (hk9999o : K (F a 3) = 8)
    (hj9999u : F (F a 3) 99 = 0)
    (hk9999p : K (F (F a 3) 0) = 20)
    (hj9999w : F (F (F a 3) 0) 99 = 0)
    (hk9999q : K (F (F a 3) 1) = 21)
    (hj9999z25 : F (F (F a 3) 1) 99 = 0)
    (hk9999r : K (F a 4) = 8)
    (hj9999z26 : F (F a 4) 99 = 1)
    (hk9999s : K (F (F a 4) 0) = 20)
    (hj9999z28 : F (F (F a 4) 0) 99 = 1)
    (hk9999t : K (F (F a 4) 1) = 21)
    (hj9999z30 : F (F (F a 4) 1) 99 = 1)
    (hF_2 : XFr [] [F a 16] [] G G_2)
    (hG72 : G72 = dput G_2 p0 9 0)
    (pa : ∀ j : Int, 0 ≤ j → j < l2_2.toInt → aI (G.2.1 (F (F a 8) 0)) j = ((G.1 p0 1).toInt) → aI (G.2.1 (F (F a 8) 5)) j = 0)
    (oq110 : qL G110 F (F a 8) = gaL G72 (G72.2.2.1 (F (F a 2) 1)) (vw (G.2.1 (F (F a 4) 0))) (vw (G.2.1 (F (F a 3) 0))) (1 : Int) (((G.1 (F a 2) 2).toInt)).toNat)
    (sb : 0 ≤ ((G.1 (F a 2) 2).toInt) ∧ ((G.1 (F a 2) 2).toInt) ≤ 12)
    (sw : 0 ≤ ((G.1 (F a 8) 6).toInt) ∧ ((G.1 (F a 8) 6).toInt) ≤ 1080)
    (I2_0 : 0 ≤ l2_2.toInt ∧ l2_2.toInt ≤ ((G.1 (F a 8) 6).toInt))
    (I2_1 : (0 : Int) ≤ l2_2.toInt)
    (hm2 : 2147483648 - l2_2.toInt < (((N2) + 1 : Nat) : Int))
    (c10 : ((G.1 (F a 8) 6).toInt) ≤ l2_2.toInt)
    (f60 : ((G.1 a 18).toInt) = 0 ∨ ((G.1 a 18).toInt) = 1)
    (c79 : ((G.1 a 18).toInt) ≠ 0)
    (t110 : 0 ≤ ((G110.1 (F a 8) 6).toInt) ∧ ((G110.1 (F a 8) 6).toInt) ≤ 1080)
    (r_G72_F_F_a_2_1 : G72.2.2.1 (F (F a 2) 1) = G.2.2.1 (F (F a 2) 1))
    (d_G110_p0_9 : G110.1 p0 9 = 0) :
    ((∃ x, x ∈ qL G F (F a 8) ∧ x.1 = ((G.1 p0 1).toInt) ∧ x.2.2.2.2.2 ≠ 0) ∧ (hv (aI (G.2.1 (F (F a 8) 0))) 0 ((G.1 p0 1).toInt) ((G.1 (F a 8) 6).toInt)) = -5 ∧ ((G110.1 p0 9).toInt) = ((G.1 p0 9).toInt) ∧ qL G110 F (F a 8) = qL G F (F a 8)) ∨ ((∀ x, x ∈ qL G F (F a 8) → x.1 = ((G.1 p0 1).toInt) → x.2.2.2.2.2 = 0) ∧ ((G110.1 p0 9).toInt) = 0 ∧ ((((G.1 a 18).toInt) = 0 ∧ qL G110 F (F a 8) = qL G F (F a 8) ∧ (hv (aI (G.2.1 (F (F a 8) 0))) 0 ((G.1 p0 1).toInt) ((G.1 (F a 8) 6).toInt)) = 0) ∨ (((G.1 a 18).toInt) ≠ 0 ∧ qL G110 F (F a 8) = (gaL (dput G p0 9 0) (G.2.2.1 (F (F a 2) 1)) (vw (G.2.1 (F (F a 4) 0))) (vw (G.2.1 (F (F a 3) 0))) 1 (((G.1 (F a 2) 2).toInt)).toNat) ∧ (hv (aI (G.2.1 (F (F a 8) 0))) 0 ((G.1 p0 1).toInt) ((G.1 (F a 8) 6).toInt)) = cnQ (qL G F (F a 8)) ((G.1 p0 1).toInt)))) := by
  have e1 : G_2.1 = G.1 := funext (fun b => fr_A hF_2 (fun _ => xn0))
  have e2 : G72.1 = (dput G p0 9 0).1 := by
    rw [hG72]
    show up2 G_2.1 _ _ _ = up2 G.1 _ _ _
    rw [e1]
  refine Or.inr ⟨ql_all (P := fun x => x.1 = ((G.1 p0 1).toInt) → x.2.2.2.2.2 = 0) (fun j h1 h2 => pa j h1 (by omega)), by rw [d_G110_p0_9]; rfl, Or.inr ⟨by omega, ?_, ?_⟩⟩
  · rw [oq110, r_G72_F_F_a_2_1]
    exact gaL_cg (fun i q _ _ => congrFun e2 q)
  · exact hv_qL G F (F a 8) _
theorem v_X10_becomePrompt_83_7 {K : Nat → Nat} {F : Nat → Nat → Nat} (a : Nat) (p0 : Nat) (G : XG) (G72 : XG) (l2_2 : Int32) (N2 : Nat)
    (ha : K a = 12)
    (hp0 : K p0 = 9)
    (pa : ∀ j : Int, 0 ≤ j → j < l2_2.toInt → aI (G.2.1 (F (F a 8) 0)) j = ((G.1 p0 1).toInt) → aI (G.2.1 (F (F a 8) 5)) j = 0)
    (sb : 0 ≤ ((G.1 (F a 2) 2).toInt) ∧ ((G.1 (F a 2) 2).toInt) ≤ 12)
    (sw : 0 ≤ ((G.1 (F a 8) 6).toInt) ∧ ((G.1 (F a 8) 6).toInt) ≤ 1080)
    (I2_0 : 0 ≤ l2_2.toInt ∧ l2_2.toInt ≤ ((G.1 (F a 8) 6).toInt))
    (I2_1 : (0 : Int) ≤ l2_2.toInt)
    (hm2 : 2147483648 - l2_2.toInt < (((N2) + 1 : Nat) : Int))
    (c10 : ((G.1 (F a 8) 6).toInt) ≤ l2_2.toInt)
    (f57 : ((G.1 a 18).toInt) = 0 ∨ ((G.1 a 18).toInt) = 1)
    (c79 : ¬ (((G.1 a 18).toInt) ≠ 0))
    (c_G72_F_F_a_8_0 : G72.2.1 (F (F a 8) 0) = G.2.1 (F (F a 8) 0))
    (c_G72_F_F_a_8_1 : G72.2.1 (F (F a 8) 1) = G.2.1 (F (F a 8) 1))
    (c_G72_F_F_a_8_2 : G72.2.1 (F (F a 8) 2) = G.2.1 (F (F a 8) 2))
    (c_G72_F_F_a_8_3 : G72.2.1 (F (F a 8) 3) = G.2.1 (F (F a 8) 3))
    (c_G72_F_F_a_8_4 : G72.2.1 (F (F a 8) 4) = G.2.1 (F (F a 8) 4))
    (c_G72_F_F_a_8_5 : G72.2.1 (F (F a 8) 5) = G.2.1 (F (F a 8) 5))
    (d_G72_F_a_8_6 : G72.1 (F a 8) 6 = G.1 (F a 8) 6)
    (d_G72_p0_9 : G72.1 p0 9 = 0) :
    ((∃ x, x ∈ qL G F (F a 8) ∧ x.1 = ((G.1 p0 1).toInt) ∧ x.2.2.2.2.2 ≠ 0) ∧ (0 : Int) = -5 ∧ ((G72.1 p0 9).toInt) = ((G.1 p0 9).toInt) ∧ qL G72 F (F a 8) = qL G F (F a 8)) ∨ ((∀ x, x ∈ qL G F (F a 8) → x.1 = ((G.1 p0 1).toInt) → x.2.2.2.2.2 = 0) ∧ ((G72.1 p0 9).toInt) = 0 ∧ ((((G.1 a 18).toInt) = 0 ∧ qL G72 F (F a 8) = qL G F (F a 8) ∧ (0 : Int) = 0) ∨ (((G.1 a 18).toInt) ≠ 0 ∧ qL G72 F (F a 8) = (gaL (dput G p0 9 0) (G.2.2.1 (F (F a 2) 1)) (vw (G.2.1 (F (F a 4) 0))) (vw (G.2.1 (F (F a 3) 0))) 1 (((G.1 (F a 2) 2).toInt)).toNat) ∧ (0 : Int) = cnQ (qL G F (F a 8)) ((G.1 p0 1).toInt)))) := by
  exact Or.inr ⟨ql_all (P := fun x => x.1 = ((G.1 p0 1).toInt) → x.2.2.2.2.2 = 0) (fun j h1 h2 => pa j h1 (by omega)), by rw [d_G72_p0_9]; rfl, Or.inl ⟨by omega, qL_cg d_G72_F_a_8_6 c_G72_F_F_a_8_0 c_G72_F_F_a_8_1 c_G72_F_F_a_8_2 c_G72_F_F_a_8_3 c_G72_F_F_a_8_4 c_G72_F_F_a_8_5, rfl⟩⟩
theorem v_X10_becomePrompt_67_8 {K : Nat → Nat} {F : Nat → Nat → Nat} (a : Nat) (p0 : Nat) (G : XG) (l2_2 : Int32) (N2 : Nat) (x18 : Int32) (x46 : Int32)
    (ha : K a = 12)
    (hp0 : K p0 = 9)
    (pa : ∀ j : Int, 0 ≤ j → j < l2_2.toInt → aI (G.2.1 (F (F a 8) 0)) j = ((G.1 p0 1).toInt) → aI (G.2.1 (F (F a 8) 5)) j = 0)
    (sb : 0 ≤ ((G.1 (F a 2) 2).toInt) ∧ ((G.1 (F a 2) 2).toInt) ≤ 12)
    (sw : 0 ≤ ((G.1 (F a 8) 6).toInt) ∧ ((G.1 (F a 8) 6).toInt) ≤ 1080)
    (I2_0 : 0 ≤ l2_2.toInt ∧ l2_2.toInt ≤ ((G.1 (F a 8) 6).toInt))
    (I2_1 : (0 : Int) ≤ l2_2.toInt)
    (hm2 : 2147483648 - l2_2.toInt < (((N2) + 1 : Nat) : Int))
    (c10 : ¬ (((G.1 (F a 8) 6).toInt) ≤ l2_2.toInt))
    (t18 : ((0 ≤ l2_2.toInt ∧ l2_2.toInt < ((G.1 (F a 8) 6).toInt) ∧ l2_2.toInt < 1080) ∧ x18.toInt = (aI (G.2.1 (F (F a 8) 0)) (l2_2.toInt))) ∨ (¬ (0 ≤ l2_2.toInt ∧ l2_2.toInt < ((G.1 (F a 8) 6).toInt) ∧ l2_2.toInt < 1080) ∧ x18.toInt = -1))
    (c25 : x18.toInt = ((G.1 p0 1).toInt))
    (t46 : ((0 ≤ l2_2.toInt ∧ l2_2.toInt < ((G.1 (F a 8) 6).toInt) ∧ l2_2.toInt < 1080) ∧ x46.toInt = (aI (G.2.1 (F (F a 8) 5)) (l2_2.toInt))) ∨ (¬ (0 ≤ l2_2.toInt ∧ l2_2.toInt < ((G.1 (F a 8) 6).toInt) ∧ l2_2.toInt < 1080) ∧ x46.toInt = 0))
    (f63 : x46.toInt = 0 ∨ x46.toInt = 1)
    (c49 : x46.toInt = 0) :
    ∀ j : Int, 0 ≤ j → j < (l2_2.toInt + 1) → aI (G.2.1 (F (F a 8) 0)) j = ((G.1 p0 1).toInt) → aI (G.2.1 (F (F a 8) 5)) j = 0 := by
  intro j h1 h2 h3
  by_cases e : j = l2_2.toInt
  · subst e; omega
  · exact pa j h1 (by omega) h3
theorem v_X10_becomePrompt_63_9 {K : Nat → Nat} {F : Nat → Nat → Nat} (a : Nat) (p0 : Nat) (G : XG) (G58 : XG) (l2_2 : Int32) (N2 : Nat) (x18 : Int32) (x46 : Int32)
    (ha : K a = 12)
    (hp0 : K p0 = 9)
    (sb : 0 ≤ ((G.1 (F a 2) 2).toInt) ∧ ((G.1 (F a 2) 2).toInt) ≤ 12)
    (sw : 0 ≤ ((G.1 (F a 8) 6).toInt) ∧ ((G.1 (F a 8) 6).toInt) ≤ 1080)
    (I2_0 : 0 ≤ l2_2.toInt ∧ l2_2.toInt ≤ ((G.1 (F a 8) 6).toInt))
    (I2_1 : (0 : Int) ≤ l2_2.toInt)
    (hm2 : 2147483648 - l2_2.toInt < (((N2) + 1 : Nat) : Int))
    (c10 : ¬ (((G.1 (F a 8) 6).toInt) ≤ l2_2.toInt))
    (t18 : ((0 ≤ l2_2.toInt ∧ l2_2.toInt < ((G.1 (F a 8) 6).toInt) ∧ l2_2.toInt < 1080) ∧ x18.toInt = (aI (G.2.1 (F (F a 8) 0)) (l2_2.toInt))) ∨ (¬ (0 ≤ l2_2.toInt ∧ l2_2.toInt < ((G.1 (F a 8) 6).toInt) ∧ l2_2.toInt < 1080) ∧ x18.toInt = -1))
    (c25 : x18.toInt = ((G.1 p0 1).toInt))
    (t46 : ((0 ≤ l2_2.toInt ∧ l2_2.toInt < ((G.1 (F a 8) 6).toInt) ∧ l2_2.toInt < 1080) ∧ x46.toInt = (aI (G.2.1 (F (F a 8) 5)) (l2_2.toInt))) ∨ (¬ (0 ≤ l2_2.toInt ∧ l2_2.toInt < ((G.1 (F a 8) 6).toInt) ∧ l2_2.toInt < 1080) ∧ x46.toInt = 0))
    (f63 : x46.toInt = 0 ∨ x46.toInt = 1)
    (c49 : ¬ (x46.toInt = 0))
    (c_G58_F_F_a_8_0 : G58.2.1 (F (F a 8) 0) = G.2.1 (F (F a 8) 0))
    (c_G58_F_F_a_8_1 : G58.2.1 (F (F a 8) 1) = G.2.1 (F (F a 8) 1))
    (c_G58_F_F_a_8_2 : G58.2.1 (F (F a 8) 2) = G.2.1 (F (F a 8) 2))
    (c_G58_F_F_a_8_3 : G58.2.1 (F (F a 8) 3) = G.2.1 (F (F a 8) 3))
    (c_G58_F_F_a_8_4 : G58.2.1 (F (F a 8) 4) = G.2.1 (F (F a 8) 4))
    (c_G58_F_F_a_8_5 : G58.2.1 (F (F a 8) 5) = G.2.1 (F (F a 8) 5))
    (d_G58_F_a_8_6 : G58.1 (F a 8) 6 = G.1 (F a 8) 6)
    (d_G58_p0_9 : G58.1 p0 9 = G.1 p0 9) :
    ((∃ x, x ∈ qL G F (F a 8) ∧ x.1 = ((G.1 p0 1).toInt) ∧ x.2.2.2.2.2 ≠ 0) ∧ (-5 : Int) = -5 ∧ ((G58.1 p0 9).toInt) = ((G.1 p0 9).toInt) ∧ qL G58 F (F a 8) = qL G F (F a 8)) ∨ ((∀ x, x ∈ qL G F (F a 8) → x.1 = ((G.1 p0 1).toInt) → x.2.2.2.2.2 = 0) ∧ ((G58.1 p0 9).toInt) = 0 ∧ ((((G.1 a 18).toInt) = 0 ∧ qL G58 F (F a 8) = qL G F (F a 8) ∧ (-5 : Int) = 0) ∨ (((G.1 a 18).toInt) ≠ 0 ∧ qL G58 F (F a 8) = (gaL (dput G p0 9 0) (G.2.2.1 (F (F a 2) 1)) (vw (G.2.1 (F (F a 4) 0))) (vw (G.2.1 (F (F a 3) 0))) 1 (((G.1 (F a 2) 2).toInt)).toNat) ∧ (-5 : Int) = cnQ (qL G F (F a 8)) ((G.1 p0 1).toInt)))) := by
  exact Or.inl ⟨⟨_, List.mem_of_getElem? (qL_at (z := l2_2.toInt) (by omega)), show aI (G.2.1 (F (F a 8) 0)) l2_2.toInt = ((G.1 p0 1).toInt) by omega, show aI (G.2.1 (F (F a 8) 5)) l2_2.toInt ≠ 0 by omega⟩, rfl, by rw [d_G58_p0_9], qL_cg d_G58_F_a_8_6 c_G58_F_F_a_8_0 c_G58_F_F_a_8_1 c_G58_F_F_a_8_2 c_G58_F_F_a_8_3 c_G58_F_F_a_8_4 c_G58_F_F_a_8_5⟩
theorem v_X10_becomePrompt_67_10 {K : Nat → Nat} {F : Nat → Nat → Nat} (a : Nat) (p0 : Nat) (G : XG) (l2_2 : Int32) (N2 : Nat) (x18 : Int32)
    (ha : K a = 12)
    (hp0 : K p0 = 9)
    (pa : ∀ j : Int, 0 ≤ j → j < l2_2.toInt → aI (G.2.1 (F (F a 8) 0)) j = ((G.1 p0 1).toInt) → aI (G.2.1 (F (F a 8) 5)) j = 0)
    (sb : 0 ≤ ((G.1 (F a 2) 2).toInt) ∧ ((G.1 (F a 2) 2).toInt) ≤ 12)
    (sw : 0 ≤ ((G.1 (F a 8) 6).toInt) ∧ ((G.1 (F a 8) 6).toInt) ≤ 1080)
    (I2_0 : 0 ≤ l2_2.toInt ∧ l2_2.toInt ≤ ((G.1 (F a 8) 6).toInt))
    (I2_1 : (0 : Int) ≤ l2_2.toInt)
    (hm2 : 2147483648 - l2_2.toInt < (((N2) + 1 : Nat) : Int))
    (c10 : ¬ (((G.1 (F a 8) 6).toInt) ≤ l2_2.toInt))
    (t18 : ((0 ≤ l2_2.toInt ∧ l2_2.toInt < ((G.1 (F a 8) 6).toInt) ∧ l2_2.toInt < 1080) ∧ x18.toInt = (aI (G.2.1 (F (F a 8) 0)) (l2_2.toInt))) ∨ (¬ (0 ≤ l2_2.toInt ∧ l2_2.toInt < ((G.1 (F a 8) 6).toInt) ∧ l2_2.toInt < 1080) ∧ x18.toInt = -1))
    (c25 : ¬ (x18.toInt = ((G.1 p0 1).toInt))) :
    ∀ j : Int, 0 ≤ j → j < (l2_2.toInt + 1) → aI (G.2.1 (F (F a 8) 0)) j = ((G.1 p0 1).toInt) → aI (G.2.1 (F (F a 8) 5)) j = 0 := by
  intro j h1 h2 h3
  by_cases e : j = l2_2.toInt
  · subst e; omega
  · exact pa j h1 (by omega) h3
theorem v_X10_becomePrompt_1_11 {K : Nat → Nat} {F : Nat → Nat → Nat} (a : Nat) (p0 : Nat) (G : XG)
    (ha : K a = 12)
    (hp0 : K p0 = 9)
    (sb : 0 ≤ ((G.1 (F a 2) 2).toInt) ∧ ((G.1 (F a 2) 2).toInt) ≤ 12)
    (sw : 0 ≤ ((G.1 (F a 8) 6).toInt) ∧ ((G.1 (F a 8) 6).toInt) ≤ 1080) :
    ∀ j : Int, 0 ≤ j → j < (0 : Int) → aI (G.2.1 (F (F a 8) 0)) j = ((G.1 p0 1).toInt) → aI (G.2.1 (F (F a 8) 5)) j = 0 := by
  intro j h1 h2; exact absurd h1 (by omega)
theorem z_X10_becomePrompt_1 (a0 : Int) (h0 : -2147483648 ≤ a0 ∧ a0 < 2147483648) : ¬ (2147483648 - a0 < ((0 : Nat) : Int)) := by omega
theorem z_X10_becomePrompt_6 (a0 : Int) (a1 : Int) (a2 : Int) (h0 : 0 ≤ a2 ∧ a2 ≤ 1080) (h1 : 0 ≤ a0 ∧ a0 ≤ a2) (h2 : a1 = (a0 + 1) ∨ (a0 + 1) < -2147483648 ∨ 2147483648 ≤ (a0 + 1)) : a1 = (a0 + 1) := by omega
theorem z_X10_becomePrompt_7 (a0 : Int) (a1 : Int) (h0 : 0 ≤ a0 ∧ a0 ≤ a1) (h1 : ¬ (a1 ≤ a0)) : 0 ≤ (a0 + 1) ∧ (a0 + 1) ≤ a1 := by omega
theorem z_X10_becomePrompt_8 (a0 : Int) (a1 : Int) (h0 : 0 ≤ a0 ∧ a0 ≤ a1) : (0 : Int) ≤ (a0 + 1) := by omega
theorem z_X10_becomePrompt_9 (a0 : Int) (a1 : Nat) (h0 : 2147483648 - a0 < ((a1 + 1 : Nat) : Int)) : 2147483648 - (a0 + 1) < ((a1 : Nat) : Int) := by omega
theorem z_X10_becomePrompt_15 (a0 : Int) (h0 : 0 ≤ a0 ∧ a0 ≤ 1080) : 0 ≤ (0 : Int) ∧ (0 : Int) ≤ a0 := by omega
abbrev rm_X10_becomePrompt : Room := { frames := 8, cells := 7, slots := 700, locals := 194 }
set_option maxHeartbeats 4000000 in
set_option maxRecDepth 100000 in
theorem c_X10_becomePrompt (l : Launch) (E : XE) (K : Nat → Nat) (F : Nat → Nat → Nat) (G : XG) (a : Nat) (p0 : Nat) (ha : K a = 12) (hp0 : K p0 = 9) (sb : 0 ≤ ((G.1 (F a 2) 2).toInt) ∧ ((G.1 (F a 2) 2).toInt) ≤ 12) (sw : 0 ≤ ((G.1 (F a 8) 6).toInt) ∧ ((G.1 (F a 8) 6).toInt) ≤ 1080) (ron : RO (vw (G.2.1 (F (F a 3) 0))) (aI (G.2.1 (F (F a 3) 1)))) (rob : RO (vw (G.2.1 (F (F a 4) 0))) (aI (G.2.1 (F (F a 4) 1)))) (bko : BKr K G (G.2.2.1 (F (F a 2) 1))) : Met l yX10_becomePrompt (xw yX10_becomePrompt cX10_becomePrompt 3 (some .int)) rm_X10_becomePrompt (va_Pc [.ref a, .ref p0] (XP E K F G)) (XQ E (fun v (u : XG) => ∃ r : Int32, v = .int r ∧ XFr [(F a 14, 1), (F a 14, 2), (F a 14, 3), (p0, 9), (F a 11, 3), (F a 8, 6)] [F a 16, F (F a 11) 0, F (F a 11) 1, F (F a 11) 2, F (F a 8) 0, F (F a 8) 1, F (F a 8) 2, F (F a 8) 3, F (F a 8) 4, F (F a 8) 5] [] G u ∧ (0 ≤ ((u.1 (F a 8) 6).toInt) ∧ ((u.1 (F a 8) 6).toInt) ≤ 1080) ∧ (((∃ x, x ∈ qL G F (F a 8) ∧ x.1 = ((G.1 p0 1).toInt) ∧ x.2.2.2.2.2 ≠ 0) ∧ r.toInt = -5 ∧ ((u.1 p0 9).toInt) = ((G.1 p0 9).toInt) ∧ qL u F (F a 8) = qL G F (F a 8)) ∨ ((∀ x, x ∈ qL G F (F a 8) → x.1 = ((G.1 p0 1).toInt) → x.2.2.2.2.2 = 0) ∧ ((u.1 p0 9).toInt) = 0 ∧ ((((G.1 a 18).toInt) = 0 ∧ qL u F (F a 8) = qL G F (F a 8) ∧ r.toInt = 0) ∨ (((G.1 a 18).toInt) ≠ 0 ∧ qL u F (F a 8) = (gaL (dput G p0 9 0) (G.2.2.1 (F (F a 2) 1)) (vw (G.2.1 (F (F a 4) 0))) (vw (G.2.1 (F (F a 3) 0))) 1 (((G.1 (F a 2) 2).toInt)).toNat) ∧ r.toInt = cnQ (qL G F (F a 8)) ((G.1 p0 1).toInt)))))) (fun u H => TW E K F u H)) 7 700 (xA E) := by
  refine x_enter (by decide) (Nat.le_of_ble_eq_true rfl) ?_
  intro p e s m args below meth c Q S hr hlk hnm hQ hP ls hl
  obtain ⟨hz, hK, hT⟩ := hP
  obtain ⟨hx, hb, -, -, -⟩ := id S
  obtain ⟨H, hT, hS, hgo⟩ : ∃ H : Heap, TW E K F G H ∧ va_S (xA E) s.heap H [] ∧ H = s.heap := ⟨_, hT, va_S.rf, rfl⟩
  rw [← hgo]
  have hl : lv_has ls 3 [(0, .ref a), (1, .ref p0)] := hl
  obtain ⟨hk9999, hj9999⟩ := fkX10_14 hT ha
  obtain ⟨hk9999a, hj9999a⟩ := fkX10_11 hT ha
  obtain ⟨hk9999b, hj9999b⟩ := fkX10_8 hT ha
  obtain ⟨hk9999c, hj9999c⟩ := fkX10_16 hT ha
  obtain ⟨hk9999d, hj9999d⟩ := fkX1_0 hT hk9999a
  obtain ⟨hk9999e, hj9999e⟩ := fkX1_1 hT hk9999a
  obtain ⟨hk9999f, hj9999f⟩ := fkX1_2 hT hk9999a
  obtain ⟨hk9999g, hj9999g⟩ := fkX4_0 hT hk9999b
  have hj9999h : F (F (F a 8) 0) 99 = 10 * 0 + 0 := by rw [hj9999g, hj9999b]
  obtain ⟨hk9999h, hj9999i⟩ := fkX4_1 hT hk9999b
  have hj9999j : F (F (F a 8) 1) 99 = 10 * 0 + 1 := by rw [hj9999i, hj9999b]
  obtain ⟨hk9999i, hj9999k⟩ := fkX4_2 hT hk9999b
  have hj9999l : F (F (F a 8) 2) 99 = 10 * 0 + 2 := by rw [hj9999k, hj9999b]
  obtain ⟨hk9999j, hj9999m⟩ := fkX4_3 hT hk9999b
  have hj9999n : F (F (F a 8) 3) 99 = 10 * 0 + 3 := by rw [hj9999m, hj9999b]
  obtain ⟨hk9999k, hj9999o⟩ := fkX4_4 hT hk9999b
  have hj9999p : F (F (F a 8) 4) 99 = 10 * 0 + 4 := by rw [hj9999o, hj9999b]
  obtain ⟨hk9999l, hj9999q⟩ := fkX4_5 hT hk9999b
  have hj9999r : F (F (F a 8) 5) 99 = 10 * 0 + 5 := by rw [hj9999q, hj9999b]
  obtain ⟨hk9999m, hj9999s⟩ := fkX10_2 hT ha
  obtain ⟨hk9999n, hj9999t⟩ := fkX0_1 hT hk9999m
  obtain ⟨hk9999o, hj9999u⟩ := fkX10_3 hT ha
  obtain ⟨hk9999p, hj9999v⟩ := fkX6_0 hT hk9999o
  have hj9999w : F (F (F a 3) 0) 99 = 0 := by rw [hj9999v, hj9999u]
  obtain ⟨hk9999q, hj9999y⟩ := fkX6_1 hT hk9999o
  have hj9999z25 : F (F (F a 3) 1) 99 = 0 := by rw [hj9999y, hj9999u]
  obtain ⟨hk9999r, hj9999z26⟩ := fkX10_4 hT ha
  obtain ⟨hk9999s, hj9999z27⟩ := fkX6_0 hT hk9999r
  have hj9999z28 : F (F (F a 4) 0) 99 = 1 := by rw [hj9999z27, hj9999z26]
  obtain ⟨hk9999t, hj9999z29⟩ := fkX6_1 hT hk9999r
  have hj9999z30 : F (F (F a 4) 1) 99 = 1 := by rw [hj9999z29, hj9999z26]
  refine lv_iconst (v := 0) hx hb dX10_becomePrompt_0 (by decide) ?_
  refine lv_istore_n (lv' := [(2, .int 0), (0, .ref a), (1, .ref p0)]) hx hb dX10_becomePrompt_1 rfl hl (by decide) rfl (fun ls hl => ?_)
  have L2 : ∀ (N2 : Nat) (l2_2 : Int32) (G_2 : XG) (H : Heap) (locs : List Loc) (ls : Array Slot), XFr [] [F a 16] [] G G_2 → (∀ j : Int, 0 ≤ j → j < l2_2.toInt → aI (G.2.1 (F (F a 8) 0)) j = ((G.1 p0 1).toInt) → aI (G.2.1 (F (F a 8) 5)) j = 0) → 0 ≤ l2_2.toInt ∧ l2_2.toInt ≤ ((G.1 (F a 8) 6).toInt) → (0 : Int) ≤ l2_2.toInt → 2147483648 - l2_2.toInt < ((N2 : Nat) : Int) → TW E K F G_2 H → va_S (xA E) s.heap H locs → lv_has ls 3 [(0, .ref a), (1, .ref p0), (2, .int l2_2)] → W p l e rm_X10_becomePrompt s m args below meth c H locs 0 0 Q (F0 m 2 ls []) := by
    intro N2
    induction N2 with
    | zero =>
      intro l2_2 G_2 H locs ls hF_2 pa I2_0 I2_1 hm2
      exact absurd hm2 (z_X10_becomePrompt_1 l2_2.toInt (xr l2_2))
    | succ N2 ih2 =>
      intro l2_2 G_2 H locs ls hF_2 pa I2_0 I2_1 hm2 hT hS hl
      refine lv_iload_n hx hb dX10_becomePrompt_2 rfl (lv_at hl 2 rfl) ?_
      refine lv_aload_n hx hb dX10_becomePrompt_3 rfl (lv_at hl 0 rfl) ?_
      refine gX10_8 S hK hT ha kf_X10_57 dX10_becomePrompt_4 (fun _ _ => ?_)
      refine x_clp (x_runV (b := (F a 8)) (As := []) (rest := [.int l2_2]) S (c_X4_size l E K F G_2 H (F a 8) hk9999b) mv_X4_size km_X10_232 rfl rfl ⟨Nat.le_of_ble_eq_true rfl, Nat.le_of_ble_eq_true rfl⟩ (rc_6 hK hT hk9999b) hK (fun _ => XPh.blind) (fun U hU hW => XPh.at hK hz hS hT hU hW) rfl hl.1 (Nat.le_of_ble_eq_true rfl) dX10_becomePrompt_7 ⟨Nat.le_of_ble_eq_true rfl, Nat.le_of_ble_eq_true rfl⟩) hS ?_
      rintro _ _ locs ⟨x7, rfl, t7⟩ hS
      have t7 : x7.toInt = ((G.1 (F a 8) 6).toInt) := by rw [(show (G_2.1 (F a 8) 6).toInt = ((G.1 (F a 8) 6).toInt) from (congrArg Int32.toInt (hF_2.1 _ _ xn0)).trans (rfl : Int32.toInt (G.1 (F a 8) 6) = ((G.1 (F a 8) 6).toInt)))] at t7; exact t7
      refine xi_cge (tgt := 70) hx hb (rfl : Int32.toInt l2_2 = l2_2.toInt) (t7 : Int32.toInt x7 = ((G.1 (F a 8) 6).toInt)) dX10_becomePrompt_10 (by decide) (fun c10 => ?_) (fun c10 => ?_)
      · refine lv_aload_n hx hb dX10_becomePrompt_70 rfl (lv_at hl 1 rfl) ?_
        refine lv_iconst (v := 0) hx hb dX10_becomePrompt_71 (by decide) ?_
        refine pX7_9 (v := 0) S hK hT hS hp0 kf_X10_170 (Or.inl rfl) dX10_becomePrompt_72 (fun H locs hT hS => ?_)
        obtain ⟨G72, hG72⟩ : ∃ GG : XG, GG = dput G_2 p0 9 0 := ⟨_, rfl⟩
        rw [← hG72] at hT
        refine lv_aload_n hx hb dX10_becomePrompt_75 rfl (lv_at hl 0 rfl) ?_
        refine gX10_18 S hK hT ha kf_X10_123 dX10_becomePrompt_76 (v := (G.1 a 18)) ((ld_j hG72 (by decide)).trans (hF_2.1 _ _ xn0)) (fun hz76 => ?_)
        refine xi_zne (tgt := 84) hx hb (rfl : Int32.toInt (G.1 a 18) = ((G.1 a 18).toInt)) dX10_becomePrompt_79 (by decide) (fun c79 => ?_) (fun c79 => ?_)
        · refine lv_aload_n hx hb dX10_becomePrompt_84 rfl (lv_at hl 0 rfl) ?_
          refine gX10_8 S hK hT ha kf_X10_57 dX10_becomePrompt_85 (fun _ _ => ?_)
          refine lv_aload_n hx hb dX10_becomePrompt_88 rfl (lv_at hl 1 rfl) ?_
          refine gX7_1 S hK hT hp0 kf_X10_130 dX10_becomePrompt_89 (v := (G.1 p0 1)) ((ld_j hG72 (by decide)).trans (hF_2.1 _ _ xn0)) (?_)
          refine x_clp (x_runV (b := (F a 8)) (As := [.int (G.1 p0 1)]) (rest := []) S (c_X4_ofRule l E K F G72 H (F a 8) (G.1 p0 1) hk9999b (by rw [(show (G72.1 (F a 8) 6).toInt = ((G.1 (F a 8) 6).toInt) from (congrArg Int32.toInt ((ld_j hG72 (by decide)).trans (hF_2.1 _ _ xn0))).trans (rfl : Int32.toInt (G.1 (F a 8) 6) = ((G.1 (F a 8) 6).toInt)))] <;> exact (sw))) mv_X4_ofRule km_X10_296 rfl rfl ⟨Nat.le_of_ble_eq_true rfl, Nat.le_of_ble_eq_true rfl⟩ (rc_6 hK hT hk9999b) hK (fun _ => XPh.blind) (fun U hU hW => XPh.at hK hz hS hT hU hW) rfl hl.1 (Nat.le_of_ble_eq_true rfl) dX10_becomePrompt_92 ⟨Nat.le_of_ble_eq_true rfl, Nat.le_of_ble_eq_true rfl⟩) hS ?_
          rintro _ _ locs ⟨x92, rfl, t92⟩ hS
          have t92 : x92.toInt = (hv (aI (G.2.1 (F (F a 8) 0))) 0 ((G.1 p0 1).toInt) ((G.1 (F a 8) 6).toInt)) := by rw [(show G72.2.1 (F (F a 8) 0) = G.2.1 (F (F a 8) 0) from ((ld_c hG72).trans (hF_2.2.1 _ (xn1 (xne_k hk9999g hk9999c (by decide)) xn0))))] at t92; rw [(show (G72.1 (F a 8) 6).toInt = ((G.1 (F a 8) 6).toInt) from (congrArg Int32.toInt ((ld_j hG72 (by decide)).trans (hF_2.1 _ _ xn0))).trans (rfl : Int32.toInt (G.1 (F a 8) 6) = ((G.1 (F a 8) 6).toInt)))] at t92; exact t92
          refine lv_istore_n (lv' := [(2, .int x92), (0, .ref a), (1, .ref p0)]) hx hb dX10_becomePrompt_95 rfl hl (by decide) rfl (fun ls hl => ?_)
          refine lv_aload_n hx hb dX10_becomePrompt_96 rfl (lv_at hl 1 rfl) ?_
          refine lv_aload_n hx hb dX10_becomePrompt_97 rfl (lv_at hl 1 rfl) ?_
          refine gX10_8 S hK hT ha kf_X10_57 dX10_becomePrompt_98 (fun _ _ => ?_)
          refine lv_aload_n hx hb dX10_becomePrompt_101 rfl (lv_at hl 1 rfl) ?_
          refine gX10_4 S hK hT ha kf_X10_41 dX10_becomePrompt_102 (fun _ _ => ?_)
          refine lv_aload_n hx hb dX10_becomePrompt_105 rfl (lv_at hl 1 rfl) ?_
          refine gX10_3 S hK hT ha kf_X10_37 dX10_becomePrompt_106 (fun _ _ => ?_)
          refine lv_iconst (v := 1) hx hb dX10_becomePrompt_109 (by decide) ?_
          refine x_cv0 (x_runV (b := a) (As := [.ref (F a 8), .ref (F a 4), .ref (F a 3), .int 1]) (rest := []) S (c_X10_gather l E K F G72 a (F a 8) (F a 4) (F a 3) 1 ha hk9999b hk9999r hk9999o (by rw [(show (G72.1 (F a 2) 2).toInt = ((G.1 (F a 2) 2).toInt) from (congrArg Int32.toInt ((ld_j hG72 (by decide)).trans (hF_2.1 _ _ xn0))).trans (rfl : Int32.toInt (G.1 (F a 2) 2) = ((G.1 (F a 2) 2).toInt)))] <;> exact (sb)) (v_X10_becomePrompt_110_1 (F := F) a G G72 ron rob ((ld_c hG72).trans (hF_2.2.1 _ (xn1 (xne_k hk9999s hk9999c (by decide)) xn0))) ((ld_c hG72).trans (hF_2.2.1 _ (xn1 (xne_k hk9999t hk9999c (by decide)) xn0)))) (v_X10_becomePrompt_110_2 (F := F) a G G72 ron rob ((ld_c hG72).trans (hF_2.2.1 _ (xn1 (xne_k hk9999p hk9999c (by decide)) xn0))) ((ld_c hG72).trans (hF_2.2.1 _ (xn1 (xne_k hk9999q hk9999c (by decide)) xn0)))) (v_X10_becomePrompt_110_3 (K := K) (F := F) a p0 G G_2 G72 hF_2 hG72 bko ((ld_r hG72).trans (hF_2.2.2 _ xn0))) (v_X10_becomePrompt_110_4 (K := K) (F := F) a p0 G G_2 G72 l2_2 x7 x92 N2 ha hp0 hk9999 hj9999 hk9999a hj9999a hk9999b hj9999b hk9999c hj9999c hk9999d hj9999d hk9999e hj9999e hk9999f hj9999f hk9999g hj9999h hk9999h hj9999j hk9999i hj9999l hk9999j hj9999n hk9999k hj9999p hk9999l hj9999r hk9999m hj9999s hk9999n hj9999t hk9999o hj9999u hk9999p hj9999w hk9999q hj9999z25 hk9999r hj9999z26 hk9999s hj9999z28 hk9999t hj9999z30 hF_2 hG72 ron rob bko pa t7 t92 sb sw I2_0 I2_1 hm2 c10 (xzi hz76) c79 ((ld_c hG72).trans (hF_2.2.1 _ (xn1 (xne_k hk9999d hk9999c (by decide)) xn0))) ((ld_c hG72).trans (hF_2.2.1 _ (xn1 (xne_k hk9999e hk9999c (by decide)) xn0))) ((ld_c hG72).trans (hF_2.2.1 _ (xn1 (xne_k hk9999f hk9999c (by decide)) xn0))) ((ld_c hG72).trans (hF_2.2.1 _ (xn1 (xne_k hk9999g hk9999c (by decide)) xn0))) ((ld_c hG72).trans (hF_2.2.1 _ (xn1 (xne_k hk9999h hk9999c (by decide)) xn0))) ((ld_c hG72).trans (hF_2.2.1 _ (xn1 (xne_k hk9999i hk9999c (by decide)) xn0))) ((ld_c hG72).trans (hF_2.2.1 _ (xn1 (xne_k hk9999j hk9999c (by decide)) xn0))) ((ld_c hG72).trans (hF_2.2.1 _ (xn1 (xne_k hk9999k hk9999c (by decide)) xn0))) ((ld_c hG72).trans (hF_2.2.1 _ (xn1 (xne_k hk9999l hk9999c (by decide)) xn0))) (ld_c hG72) ((ld_r hG72).trans (hF_2.2.2 _ xn0)) ((ld_j hG72 (by decide)).trans (hF_2.1 _ _ xn0)) ((ld_j hG72 (by decide)).trans (hF_2.1 _ _ xn0)) ((ld_j hG72 (by decide)).trans (hF_2.1 _ _ xn0)) ((ld_j hG72 (by decide)).trans (hF_2.1 _ _ xn0)) ((ld_j hG72 (by decide)).trans (hF_2.1 _ _ xn0)) (ld_at hG72)) (v_X10_becomePrompt_110_5 (K := K) (F := F) a p0 G G_2 G72 l2_2 x7 x92 N2 ha hp0 hk9999 hj9999 hk9999a hj9999a hk9999b hj9999b hk9999c hj9999c hk9999d hj9999d hk9999e hj9999e hk9999f hj9999f hk9999g hj9999h hk9999h hj9999j hk9999i hj9999l hk9999j hj9999n hk9999k hj9999p hk9999l hj9999r hk9999m hj9999s hk9999n hj9999t hk9999o hj9999u hk9999p hj9999w hk9999q hj9999z25 hk9999r hj9999z26 hk9999s hj9999z28 hk9999t hj9999z30 hF_2 hG72 ron rob bko pa t7 t92 sb sw I2_0 I2_1 hm2 c10 (xzi hz76) c79 ((ld_c hG72).trans (hF_2.2.1 _ (xn1 (xne_k hk9999d hk9999c (by decide)) xn0))) ((ld_c hG72).trans (hF_2.2.1 _ (xn1 (xne_k hk9999e hk9999c (by decide)) xn0))) ((ld_c hG72).trans (hF_2.2.1 _ (xn1 (xne_k hk9999f hk9999c (by decide)) xn0))) ((ld_c hG72).trans (hF_2.2.1 _ (xn1 (xne_k hk9999g hk9999c (by decide)) xn0))) ((ld_c hG72).trans (hF_2.2.1 _ (xn1 (xne_k hk9999h hk9999c (by decide)) xn0))) ((ld_c hG72).trans (hF_2.2.1 _ (xn1 (xne_k hk9999i hk9999c (by decide)) xn0))) ((ld_c hG72).trans (hF_2.2.1 _ (xn1 (xne_k hk9999j hk9999c (by decide)) xn0))) ((ld_c hG72).trans (hF_2.2.1 _ (xn1 (xne_k hk9999k hk9999c (by decide)) xn0))) ((ld_c hG72).trans (hF_2.2.1 _ (xn1 (xne_k hk9999l hk9999c (by decide)) xn0))) (ld_c hG72) ((ld_r hG72).trans (hF_2.2.2 _ xn0)) ((ld_j hG72 (by decide)).trans (hF_2.1 _ _ xn0)) ((ld_j hG72 (by decide)).trans (hF_2.1 _ _ xn0)) ((ld_j hG72 (by decide)).trans (hF_2.1 _ _ xn0)) ((ld_j hG72 (by decide)).trans (hF_2.1 _ _ xn0)) ((ld_j hG72 (by decide)).trans (hF_2.1 _ _ xn0)) (ld_at hG72))) mv_X10_gather km_X10_240 rfl rfl ⟨Nat.le_of_ble_eq_true rfl, Nat.le_of_ble_eq_true rfl⟩ (rc_12 hK hT ha) hK (fun _ => XP.blind) (fun U hU hW => XP.at hK hz hS hT hU hW) rfl hl.1 (Nat.le_of_ble_eq_true rfl) dX10_becomePrompt_110 ⟨Nat.le_of_ble_eq_true rfl, Nat.le_of_ble_eq_true rfl⟩) hS ?_
          rintro G110 H locs ⟨hF110, t110, oq110⟩ hT hS
          have t110 : 0 ≤ ((G110.1 (F a 8) 6).toInt) ∧ ((G110.1 (F a 8) 6).toInt) ≤ 1080 := t110
          have oq110 : qL G110 F (F a 8) = gaL G72 (G72.2.2.1 (F (F a 2) 1)) (vw (G.2.1 (F (F a 4) 0))) (vw (G.2.1 (F (F a 3) 0))) (1 : Int) (((G.1 (F a 2) 2).toInt)).toNat := by simp only [(show G72.2.1 (F (F a 4) 0) = G.2.1 (F (F a 4) 0) from ((ld_c hG72).trans (hF_2.2.1 _ (xn1 (xne_k hk9999s hk9999c (by decide)) xn0)))), (show G72.2.1 (F (F a 3) 0) = G.2.1 (F (F a 3) 0) from ((ld_c hG72).trans (hF_2.2.1 _ (xn1 (xne_k hk9999p hk9999c (by decide)) xn0)))), (show G72.1 (F a 2) 2 = G.1 (F a 2) 2 from ((ld_j hG72 (by decide)).trans (hF_2.1 _ _ xn0)))] at oq110; exact oq110
          refine lv_iload_n hx hb dX10_becomePrompt_113 rfl (lv_at hl 0 rfl) ?_
          exact x_ri hx hb hr hlk hQ (Nat.le_of_ble_eq_true rfl) (Nat.le_of_ble_eq_true rfl) hS dX10_becomePrompt_114 G110 ⟨_, rfl, (XFr.call (by rw [hG72]; exact XFr.dput (XFr.call XFr.rf hF_2 xm0 (xm1 0 rfl xm0) xm0) (List.mem_of_getElem? (i := 3) rfl)) hF110 (xm1 4 rfl (xm1 5 rfl xm0)) (xm1 1 rfl (xm1 2 rfl (xm1 3 rfl (xm1 4 rfl (xm1 5 rfl (xm1 6 rfl (xm1 7 rfl (xm1 8 rfl (xm1 9 rfl xm0))))))))) xm0), (t110), (by rw [(t92 : Int32.toInt x92 = (hv (aI (G.2.1 (F (F a 8) 0))) 0 ((G.1 p0 1).toInt) ((G.1 (F a 8) 6).toInt)))] <;> exact (v_X10_becomePrompt_114_6 (K := K) (F := F) a p0 G G_2 G72 G110 l2_2 N2 ha hp0 hk9999 hj9999 hk9999a hj9999a hk9999b hj9999b hk9999c hj9999c hk9999d hj9999d hk9999e hj9999e hk9999f hj9999f hk9999g hj9999h hk9999h hj9999j hk9999i hj9999l hk9999j hj9999n hk9999k hj9999p hk9999l hj9999r hk9999m hj9999s hk9999n hj9999t hk9999o hj9999u hk9999p hj9999w hk9999q hj9999z25 hk9999r hj9999z26 hk9999s hj9999z28 hk9999t hj9999z30 hF_2 hG72 pa oq110 sb sw I2_0 I2_1 hm2 c10 (xzi hz76) c79 t110 ((ld_r hG72).trans (hF_2.2.2 _ xn0)) ((hF110.1 _ _ (xnj (by decide) (xnj (by decide) xn0))).trans (ld_at hG72))))⟩ hT
        · refine lv_iconst (v := 0) hx hb dX10_becomePrompt_82 (by decide) ?_
          exact x_ri hx hb hr hlk hQ (Nat.le_of_ble_eq_true rfl) (Nat.le_of_ble_eq_true rfl) hS dX10_becomePrompt_83 G72 ⟨_, rfl, (by rw [hG72]; exact XFr.dput (XFr.call XFr.rf hF_2 xm0 (xm1 0 rfl xm0) xm0) (List.mem_of_getElem? (i := 3) rfl)), (by rw [(show (G72.1 (F a 8) 6).toInt = ((G.1 (F a 8) 6).toInt) from (congrArg Int32.toInt ((ld_j hG72 (by decide)).trans (hF_2.1 _ _ xn0))).trans (rfl : Int32.toInt (G.1 (F a 8) 6) = ((G.1 (F a 8) 6).toInt)))] <;> exact (sw)), (v_X10_becomePrompt_83_7 (K := K) (F := F) a p0 G G72 l2_2 N2 ha hp0 pa sb sw I2_0 I2_1 hm2 c10 (xzi hz76) c79 ((ld_c hG72).trans (hF_2.2.1 _ (xn1 (xne_k hk9999g hk9999c (by decide)) xn0))) ((ld_c hG72).trans (hF_2.2.1 _ (xn1 (xne_k hk9999h hk9999c (by decide)) xn0))) ((ld_c hG72).trans (hF_2.2.1 _ (xn1 (xne_k hk9999i hk9999c (by decide)) xn0))) ((ld_c hG72).trans (hF_2.2.1 _ (xn1 (xne_k hk9999j hk9999c (by decide)) xn0))) ((ld_c hG72).trans (hF_2.2.1 _ (xn1 (xne_k hk9999k hk9999c (by decide)) xn0))) ((ld_c hG72).trans (hF_2.2.1 _ (xn1 (xne_k hk9999l hk9999c (by decide)) xn0))) ((ld_j hG72 (by decide)).trans (hF_2.1 _ _ xn0)) (ld_at hG72))⟩ hT
      · refine lv_aload_n hx hb dX10_becomePrompt_13 rfl (lv_at hl 0 rfl) ?_
        refine gX10_8 S hK hT ha kf_X10_57 dX10_becomePrompt_14 (fun _ _ => ?_)
        refine lv_iload_n hx hb dX10_becomePrompt_17 rfl (lv_at hl 2 rfl) ?_
        refine x_clp (x_runV (b := (F a 8)) (As := [.int l2_2]) (rest := []) S (c_X4_number l E K F G_2 H (F a 8) l2_2 hk9999b) mv_X4_number km_X10_301 rfl rfl ⟨Nat.le_of_ble_eq_true rfl, Nat.le_of_ble_eq_true rfl⟩ (rc_6 hK hT hk9999b) hK (fun _ => XPh.blind) (fun U hU hW => XPh.at hK hz hS hT hU hW) rfl hl.1 (Nat.le_of_ble_eq_true rfl) dX10_becomePrompt_18 ⟨Nat.le_of_ble_eq_true rfl, Nat.le_of_ble_eq_true rfl⟩) hS ?_
        rintro _ _ locs ⟨x18, rfl, t18⟩ hS
        have t18 : ((0 ≤ l2_2.toInt ∧ l2_2.toInt < ((G.1 (F a 8) 6).toInt) ∧ l2_2.toInt < 1080) ∧ x18.toInt = (aI (G.2.1 (F (F a 8) 0)) (l2_2.toInt))) ∨ (¬ (0 ≤ l2_2.toInt ∧ l2_2.toInt < ((G.1 (F a 8) 6).toInt) ∧ l2_2.toInt < 1080) ∧ x18.toInt = -1) := by rw [(show (G_2.1 (F a 8) 6).toInt = ((G.1 (F a 8) 6).toInt) from (congrArg Int32.toInt (hF_2.1 _ _ xn0)).trans (rfl : Int32.toInt (G.1 (F a 8) 6) = ((G.1 (F a 8) 6).toInt)))] at t18; rw [(show G_2.2.1 (F (F a 8) 0) = G.2.1 (F (F a 8) 0) from (hF_2.2.1 _ (xn1 (xne_k hk9999g hk9999c (by decide)) xn0)))] at t18; exact t18
        refine lv_aload_n hx hb dX10_becomePrompt_21 rfl (lv_at hl 1 rfl) ?_
        refine gX7_1 S hK hT hp0 kf_X10_130 dX10_becomePrompt_22 (v := (G.1 p0 1)) (hF_2.1 _ _ xn0) (?_)
        refine xi_ceq (tgt := 31) hx hb (rfl : Int32.toInt x18 = x18.toInt) (rfl : Int32.toInt (G.1 p0 1) = ((G.1 p0 1).toInt)) dX10_becomePrompt_25 (by decide) (fun c25 => ?_) (fun c25 => ?_)
        · refine lv_aload_n hx hb dX10_becomePrompt_31 rfl (lv_at hl 0 rfl) ?_
          refine gX10_16 S hK hT ha kf_X10_99 dX10_becomePrompt_32 (fun _ _ => ?_)
          refine lv_iconst (v := 0) hx hb dX10_becomePrompt_35 (by decide) ?_
          refine lv_dup2_11 hx hb dX10_becomePrompt_36 rfl rfl ?_
          refine al_0 S hK hT hk9999c ar_27 (by decide) (by decide) dX10_becomePrompt_37 (fun x37 hv37 o37 => ?_)
          have hv37 : x37.toInt = (aI (G_2.2.1 (F a 16)) 0) := hv37.trans (by rw [((by decide) : Int32.toInt 0 = (0 : Int))])
          refine lv_iconst (v := 1) hx hb dX10_becomePrompt_38 (by decide) ?_
          refine xi_iadd hx hb (hv37 : Int32.toInt x37 = (aI (G_2.2.1 (F a 16)) 0)) ((by decide) : Int32.toInt 1 = (1 : Int)) dX10_becomePrompt_39 (fun x39 t39 => ?_)
          refine as_0 (x := x39) S hK hT hS hk9999c ar_27 aw_27 (by decide) (by decide) dX10_becomePrompt_40 (fun H locs hT hS => ?_)
          obtain ⟨G40, hG40⟩ : ∃ GG : XG, GG = cput G_2 (F a 16) (0 : Int32).toNatClampNeg x39 := ⟨_, rfl⟩
          rw [← hG40] at hT
          refine lv_aload_n hx hb dX10_becomePrompt_41 rfl (lv_at hl 0 rfl) ?_
          refine gX10_8 S hK hT ha kf_X10_57 dX10_becomePrompt_42 (fun _ _ => ?_)
          refine lv_iload_n hx hb dX10_becomePrompt_45 rfl (lv_at hl 2 rfl) ?_
          refine x_clp (x_runV (b := (F a 8)) (As := [.int l2_2]) (rest := []) S (c_X4_fails l E K F G40 H (F a 8) l2_2 hk9999b) mv_X4_fails km_X10_309 rfl rfl ⟨Nat.le_of_ble_eq_true rfl, Nat.le_of_ble_eq_true rfl⟩ (rc_6 hK hT hk9999b) hK (fun _ => XPh.blind) (fun U hU hW => XPh.at hK hz hS hT hU hW) rfl hl.1 (Nat.le_of_ble_eq_true rfl) dX10_becomePrompt_46 ⟨Nat.le_of_ble_eq_true rfl, Nat.le_of_ble_eq_true rfl⟩) hS ?_
          rintro _ _ locs ⟨x46, rfl, b46, t46⟩ hS
          have t46 : ((0 ≤ l2_2.toInt ∧ l2_2.toInt < ((G.1 (F a 8) 6).toInt) ∧ l2_2.toInt < 1080) ∧ x46.toInt = (aI (G.2.1 (F (F a 8) 5)) (l2_2.toInt))) ∨ (¬ (0 ≤ l2_2.toInt ∧ l2_2.toInt < ((G.1 (F a 8) 6).toInt) ∧ l2_2.toInt < 1080) ∧ x46.toInt = 0) := by rw [(show (G40.1 (F a 8) 6).toInt = ((G.1 (F a 8) 6).toInt) from (congrArg Int32.toInt ((lc_d hG40).trans (hF_2.1 _ _ xn0))).trans (rfl : Int32.toInt (G.1 (F a 8) 6) = ((G.1 (F a 8) 6).toInt)))] at t46; rw [(show G40.2.1 (F (F a 8) 5) = G.2.1 (F (F a 8) 5) from ((lc_c hG40 (xne_k hk9999l hk9999c (by decide))).trans (hF_2.2.1 _ (xn1 (xne_k hk9999l hk9999c (by decide)) xn0))))] at t46; exact t46
          refine xi_zeq (tgt := 64) hx hb (rfl : Int32.toInt x46 = x46.toInt) dX10_becomePrompt_49 (by decide) (fun c49 => ?_) (fun c49 => ?_)
          · refine xi_iinc (n := 1) (lv' := fun z9 => [(2, .int z9), (0, .ref a), (1, .ref p0)]) (k := 2) hx hb (rfl : Int32.toInt l2_2 = l2_2.toInt) (by decide) dX10_becomePrompt_64 hl rfl (by decide) (fun _ => rfl) (fun x64 ls t64 hl => ?_)
            have e64 : x64.toInt = (l2_2.toInt + 1) := (z_X10_becomePrompt_6 l2_2.toInt x64.toInt ((G.1 (F a 8) 6).toInt) sw I2_0 t64)
            have hl : lv_has ls 3 [(2, .int x64), (0, .ref a), (1, .ref p0)] := hl
            refine lv_goto (tgt := 2) hx hb dX10_becomePrompt_67 (by decide) ?_
            exact ih2 x64 G40 _ _ _ (by rw [hG40]; exact XFr.cput (XFr.call XFr.rf hF_2 xm0 (xm1 0 rfl xm0) xm0) (List.mem_of_getElem? (i := 0) rfl)) (by rw [(e64 : Int32.toInt x64 = (l2_2.toInt + 1))] <;> exact (v_X10_becomePrompt_67_8 (K := K) (F := F) a p0 G l2_2 N2 x18 x46 ha hp0 pa sb sw I2_0 I2_1 hm2 c10 t18 c25 t46 (xzi b46) c49)) (by rw [(e64 : Int32.toInt x64 = (l2_2.toInt + 1))] <;> exact (z_X10_becomePrompt_7 l2_2.toInt ((G.1 (F a 8) 6).toInt) I2_0 c10)) (by rw [(e64 : Int32.toInt x64 = (l2_2.toInt + 1))] <;> exact (z_X10_becomePrompt_8 l2_2.toInt ((G.1 (F a 8) 6).toInt) I2_0)) (by rw [(e64 : Int32.toInt x64 = (l2_2.toInt + 1))] <;> exact (z_X10_becomePrompt_9 l2_2.toInt N2 hm2)) hT hS (lv_sub hl [1, 2, 0] rfl)
          · refine lv_aload_n hx hb dX10_becomePrompt_52 rfl (lv_at hl 0 rfl) ?_
            refine lv_aload_n hx hb dX10_becomePrompt_53 rfl (lv_at hl 0 rfl) ?_
            refine gX10_8 S hK hT ha kf_X10_57 dX10_becomePrompt_54 (fun _ _ => ?_)
            refine lv_iload_n hx hb dX10_becomePrompt_57 rfl (lv_at hl 2 rfl) ?_
            refine x_cv (x_runV (b := a) (As := [.ref (F a 8), .int l2_2]) (rest := []) S (c_X10_tellVerdict l E K F G40 a (F a 8) l2_2 ha hk9999b) mv_X10_tellVerdict km_X10_247 rfl rfl ⟨Nat.le_of_ble_eq_true rfl, Nat.le_of_ble_eq_true rfl⟩ (rc_12 hK hT ha) hK (fun _ => XP.blind) (fun U hU hW => XP.at hK hz hS hT hU hW) rfl hl.1 (Nat.le_of_ble_eq_true rfl) dX10_becomePrompt_58 ⟨Nat.le_of_ble_eq_true rfl, Nat.le_of_ble_eq_true rfl⟩) hS ?_
            rintro G58 H locs hF58 hT hS
            refine lv_bipush (v := (-5)) hx hb dX10_becomePrompt_61 (by decide) ?_
            exact x_ri hx hb hr hlk hQ (Nat.le_of_ble_eq_true rfl) (Nat.le_of_ble_eq_true rfl) hS dX10_becomePrompt_63 G58 ⟨_, rfl, (XFr.call (by rw [hG40]; exact XFr.cput (XFr.call XFr.rf hF_2 xm0 (xm1 0 rfl xm0) xm0) (List.mem_of_getElem? (i := 0) rfl)) hF58 (xm1 0 rfl (xm1 1 rfl (xm1 2 rfl xm0))) xm0 xm0), (by rw [(show (G58.1 (F a 8) 6).toInt = ((G.1 (F a 8) 6).toInt) from (congrArg Int32.toInt ((hF58.1 _ _ (xnj (by decide) (xnj (by decide) (xnj (by decide) xn0)))).trans ((lc_d hG40).trans (hF_2.1 _ _ xn0)))).trans (rfl : Int32.toInt (G.1 (F a 8) 6) = ((G.1 (F a 8) 6).toInt)))] <;> exact (sw)), (by rw [((by decide) : Int32.toInt (-5) = (-5 : Int))] <;> exact (v_X10_becomePrompt_63_9 (K := K) (F := F) a p0 G G58 l2_2 N2 x18 x46 ha hp0 sb sw I2_0 I2_1 hm2 c10 t18 c25 t46 (xzi b46) c49 ((hF58.2.1 _ xn0).trans ((lc_c hG40 (xne_k hk9999g hk9999c (by decide))).trans (hF_2.2.1 _ (xn1 (xne_k hk9999g hk9999c (by decide)) xn0)))) ((hF58.2.1 _ xn0).trans ((lc_c hG40 (xne_k hk9999h hk9999c (by decide))).trans (hF_2.2.1 _ (xn1 (xne_k hk9999h hk9999c (by decide)) xn0)))) ((hF58.2.1 _ xn0).trans ((lc_c hG40 (xne_k hk9999i hk9999c (by decide))).trans (hF_2.2.1 _ (xn1 (xne_k hk9999i hk9999c (by decide)) xn0)))) ((hF58.2.1 _ xn0).trans ((lc_c hG40 (xne_k hk9999j hk9999c (by decide))).trans (hF_2.2.1 _ (xn1 (xne_k hk9999j hk9999c (by decide)) xn0)))) ((hF58.2.1 _ xn0).trans ((lc_c hG40 (xne_k hk9999k hk9999c (by decide))).trans (hF_2.2.1 _ (xn1 (xne_k hk9999k hk9999c (by decide)) xn0)))) ((hF58.2.1 _ xn0).trans ((lc_c hG40 (xne_k hk9999l hk9999c (by decide))).trans (hF_2.2.1 _ (xn1 (xne_k hk9999l hk9999c (by decide)) xn0)))) ((hF58.1 _ _ (xnj (by decide) (xnj (by decide) (xnj (by decide) xn0)))).trans ((lc_d hG40).trans (hF_2.1 _ _ xn0))) ((hF58.1 _ _ (xnj (by decide) (xnj (by decide) (xnj (by decide) xn0)))).trans ((lc_d hG40).trans (hF_2.1 _ _ xn0)))))⟩ hT
        · refine lv_goto (tgt := 64) hx hb dX10_becomePrompt_28 (by decide) ?_
          refine xi_iinc (n := 1) (lv' := fun z9 => [(2, .int z9), (0, .ref a), (1, .ref p0)]) (k := 2) hx hb (rfl : Int32.toInt l2_2 = l2_2.toInt) (by decide) dX10_becomePrompt_64 hl rfl (by decide) (fun _ => rfl) (fun x64 ls t64 hl => ?_)
          have e64 : x64.toInt = (l2_2.toInt + 1) := (z_X10_becomePrompt_6 l2_2.toInt x64.toInt ((G.1 (F a 8) 6).toInt) sw I2_0 t64)
          have hl : lv_has ls 3 [(2, .int x64), (0, .ref a), (1, .ref p0)] := hl
          refine lv_goto (tgt := 2) hx hb dX10_becomePrompt_67 (by decide) ?_
          exact ih2 x64 G_2 _ _ _ (XFr.call XFr.rf hF_2 xm0 (xm1 0 rfl xm0) xm0) (by rw [(e64 : Int32.toInt x64 = (l2_2.toInt + 1))] <;> exact (v_X10_becomePrompt_67_10 (K := K) (F := F) a p0 G l2_2 N2 x18 ha hp0 pa sb sw I2_0 I2_1 hm2 c10 t18 c25)) (by rw [(e64 : Int32.toInt x64 = (l2_2.toInt + 1))] <;> exact (z_X10_becomePrompt_7 l2_2.toInt ((G.1 (F a 8) 6).toInt) I2_0 c10)) (by rw [(e64 : Int32.toInt x64 = (l2_2.toInt + 1))] <;> exact (z_X10_becomePrompt_8 l2_2.toInt ((G.1 (F a 8) 6).toInt) I2_0)) (by rw [(e64 : Int32.toInt x64 = (l2_2.toInt + 1))] <;> exact (z_X10_becomePrompt_9 l2_2.toInt N2 hm2)) hT hS (lv_sub hl [1, 2, 0] rfl)
  exact L2 4294967297 0 G _ _ _ XFr.rf (v_X10_becomePrompt_1_11 (K := K) (F := F) a p0 G ha hp0 sb sw) (z_X10_becomePrompt_15 ((G.1 (F a 8) 6).toInt) sw) (by decide) (by decide) hT hS (lv_sub hl [1, 2, 0] rfl)
theorem v_X10_back_29_1 {K : Nat → Nat} {F : Nat → Nat → Nat} (a : Nat) (G : XG) (G4 : XG) (p0 : Int32)
    (ha : K a = 12)
    (hn19 : p0.toInt < 0 ∨ ((G4.1 a 17).toInt) ≤ p0.toInt ∨ 8 ≤ p0.toInt)
    (sb : 0 ≤ ((G.1 (F a 2) 2).toInt) ∧ ((G.1 (F a 2) 2).toInt) ≤ 12)
    (sw : 0 ≤ ((G.1 (F a 8) 6).toInt) ∧ ((G.1 (F a 8) 6).toInt) ≤ 1080)
    (t4 : ((G4.1 (F a 14) 1).toInt) = 0)
    (f79 : ((G.1 a 18).toInt) = 0 ∨ ((G.1 a 18).toInt) = 1)
    (c11 : ((G.1 a 18).toInt) ≠ 0)
    (c_G4_F_F_a_3_0 : G4.2.1 (F (F a 3) 0) = G.2.1 (F (F a 3) 0))
    (c_G4_F_F_a_8_0 : G4.2.1 (F (F a 8) 0) = G.2.1 (F (F a 8) 0))
    (c_G4_F_F_a_8_1 : G4.2.1 (F (F a 8) 1) = G.2.1 (F (F a 8) 1))
    (c_G4_F_F_a_8_2 : G4.2.1 (F (F a 8) 2) = G.2.1 (F (F a 8) 2))
    (c_G4_F_F_a_8_3 : G4.2.1 (F (F a 8) 3) = G.2.1 (F (F a 8) 3))
    (c_G4_F_F_a_8_4 : G4.2.1 (F (F a 8) 4) = G.2.1 (F (F a 8) 4))
    (c_G4_F_F_a_8_5 : G4.2.1 (F (F a 8) 5) = G.2.1 (F (F a 8) 5))
    (d_G4_F_a_8_6 : G4.1 (F a 8) 6 = G.1 (F a 8) 6)
    (d_G4_a_17 : G4.1 a 17 = G.1 a 17) :
    (((G.1 a 18).toInt) = 0 ∧ (-2 : Int) = -3 ∧ ((vw (G4.2.1 (F (F a 3) 0))) = (vw (G.2.1 (F (F a 3) 0))) ∧ qL G4 F (F a 8) = qL G F (F a 8)) ∧ ((G4.1 a 17).toInt) = ((G.1 a 17).toInt)) ∨ (((G.1 a 18).toInt) ≠ 0 ∧ (p0.toInt < 0 ∨ ((G.1 a 17).toInt) ≤ p0.toInt ∨ 8 ≤ p0.toInt) ∧ (-2 : Int) = -2 ∧ ((vw (G4.2.1 (F (F a 3) 0))) = (vw (G.2.1 (F (F a 3) 0))) ∧ qL G4 F (F a 8) = qL G F (F a 8)) ∧ ((G4.1 a 17).toInt) = ((G.1 a 17).toInt)) ∨ (((G.1 a 18).toInt) ≠ 0 ∧ (0 ≤ p0.toInt ∧ p0.toInt < ((G.1 a 17).toInt) ∧ p0.toInt < 8) ∧ ∃ q : Nat, G.2.2.1 (F a 7) (p0.toInt).toNat = some q ∧ ((ffL (gaL G (G.2.2.1 (F (F a 2) 1)) (vw (G.2.1 (F (F a 6) 0))) (vw (G.2.1 (F q 0))) 2 (((G.1 (F a 2) 2).toInt)).toNat) ≠ -1 ∧ (-2 : Int) = -5 ∧ ((vw (G4.2.1 (F (F a 3) 0))) = (vw (G.2.1 (F (F a 3) 0))) ∧ qL G4 F (F a 8) = qL G F (F a 8)) ∧ ((G4.1 a 17).toInt) = ((G.1 a 17).toInt)) ∨ (ffL (gaL G (G.2.2.1 (F (F a 2) 1)) (vw (G.2.1 (F (F a 6) 0))) (vw (G.2.1 (F q 0))) 2 (((G.1 (F a 2) 2).toInt)).toNat) = -1 ∧ (vw (G4.2.1 (F (F a 3) 0))) = (vw (G.2.1 (F q 0))) ∧ ((G4.1 a 17).toInt) = p0.toInt + 1 ∧ (-2 : Int) = ((G4.1 (F a 8) 6).toInt) ∧ qL G4 F (F a 8) = (gaL G (G.2.2.1 (F (F a 2) 1)) (vw (G.2.1 (F (F a 4) 0))) (vw (G.2.1 (F q 0))) 1 (((G.1 (F a 2) 2).toInt)).toNat)))) := by
  exact Or.inr (Or.inl ⟨by omega, (by have h9 := hn19; rw [d_G4_a_17] at h9; exact h9), rfl, ⟨by rw [c_G4_F_F_a_3_0], qL_cg d_G4_F_a_8_6 c_G4_F_F_a_8_0 c_G4_F_F_a_8_1 c_G4_F_F_a_8_2 c_G4_F_F_a_8_3 c_G4_F_F_a_8_4 c_G4_F_F_a_8_5⟩, by rw [d_G4_a_17]⟩)
theorem v_X10_back_29_2 {F : Nat → Nat → Nat} (a : Nat) (G : XG) (G4 : XG)
    (ron : RO (vw (G.2.1 (F (F a 3) 0))) (aI (G.2.1 (F (F a 3) 1))))
    (c_G4_F_F_a_3_0 : G4.2.1 (F (F a 3) 0) = G.2.1 (F (F a 3) 0))
    (c_G4_F_F_a_3_1 : G4.2.1 (F (F a 3) 1) = G.2.1 (F (F a 3) 1)) :
    RO (vw (G4.2.1 (F (F a 3) 0))) (aI (G4.2.1 (F (F a 3) 1))) := by
  rw [c_G4_F_F_a_3_0, c_G4_F_F_a_3_1]; exact ron
theorem v_X10_back_41_3 {F : Nat → Nat → Nat} (a : Nat) (G : XG) (G4 : XG)
    (ron : RO (vw (G.2.1 (F (F a 3) 0))) (aI (G.2.1 (F (F a 3) 1))))
    (rob : RO (vw (G.2.1 (F (F a 4) 0))) (aI (G.2.1 (F (F a 4) 1))))
    (ro0 : RO (vw (G.2.1 (F (F a 6) 0))) (aI (G.2.1 (F (F a 6) 1))))
    (c_G4_F_F_a_6_0 : G4.2.1 (F (F a 6) 0) = G.2.1 (F (F a 6) 0))
    (c_G4_F_F_a_6_1 : G4.2.1 (F (F a 6) 1) = G.2.1 (F (F a 6) 1)) :
    RO (vw (G4.2.1 (F (F a 6) 0))) (aI (G4.2.1 (F (F a 6) 1))) := by simp only [c_G4_F_F_a_6_0, c_G4_F_F_a_6_1]; assumption
theorem v_X10_back_41_4 {K : Nat → Nat} {F : Nat → Nat → Nat} (a : Nat) (q19 : Nat) (p0 : Int32) (G : XG) (G4 : XG)
    (ha : K a = 12)
    (f68 : F q19 99 = 4 + (p0.toInt).toNat)
    (rok : ∀ (i q : Nat), i < 8 → G.2.2.1 (F a 7) i = some q → RO (vw (G.2.1 (F q 0))) (aI (G.2.1 (F q 1))))
    (hs19 : F q19 99 = 4 + (p0.toInt).toNat ∧ G4.2.2.1 (F a 7) (p0.toInt).toNat = some q19)
    (sb : 0 ≤ ((G.1 (F a 2) 2).toInt) ∧ ((G.1 (F a 2) 2).toInt) ≤ 12)
    (sw : 0 ≤ ((G.1 (F a 8) 6).toInt) ∧ ((G.1 (F a 8) 6).toInt) ≤ 1080)
    (t4 : ((G4.1 (F a 14) 1).toInt) = 0)
    (f85 : ((G.1 a 18).toInt) = 0 ∨ ((G.1 a 18).toInt) = 1)
    (c11 : ((G.1 a 18).toInt) ≠ 0)
    (ht19 : 0 ≤ p0.toInt ∧ p0.toInt < ((G.1 a 17).toInt) ∧ p0.toInt < 8)
    (c_G4_F_q19_0 : G4.2.1 (F q19 0) = G.2.1 (F q19 0))
    (c_G4_F_q19_1 : G4.2.1 (F q19 1) = G.2.1 (F q19 1))
    (r_G4_F_a_7 : G4.2.2.1 (F a 7) = G.2.2.1 (F a 7)) :
    RO (vw (G4.2.1 (F q19 0))) (aI (G4.2.1 (F q19 1))) := by
  have hq7 : G.2.2.1 (F a 7) (p0.toInt).toNat = some q19 := by rw [← r_G4_F_a_7]; exact hs19.2
  have hr := rok (p0.toInt).toNat q19 (by omega) hq7
  first
    | (simp only [c_G4_F_q19_0, c_G4_F_q19_1]; exact hr)
    | (simp only [c_G41_F_q19_0, c_G41_F_q19_1]; exact hr)
    | (simp only [c_G85_F_q19_0, c_G85_F_q19_1]; exact hr)
theorem v_X10_back_41_5 {K : Nat → Nat} {F : Nat → Nat → Nat} (a : Nat) (q19 : Nat) (p0 : Int32) (G : XG) (G4 : XG)
    (ha : K a = 12)
    (hk9999 : K (F a 14) = 11)
    (hj9999 : F (F a 14) 99 = 0)
    (hk9999a : K (F a 11) = 3)
    (hj9999a : F (F a 11) 99 = 0)
    (hk9999b : K (F a 9) = 6)
    (hj9999b : F (F a 9) 99 = 1)
    (hk9999c : K (F a 8) = 6)
    (hj9999c : F (F a 8) 99 = 0)
    (hk9999d : K (F a 15) = 26)
    (hj9999d : F (F a 15) 99 = 0)
    (hk9999e : K (F (F a 11) 0) = 21)
    (hj9999e : F (F (F a 11) 0) 99 = 100)
    (hk9999f : K (F (F a 11) 1) = 21)
    (hj9999f : F (F (F a 11) 1) 99 = 101)
    (hk9999g : K (F (F a 11) 2) = 24)
    (hj9999g : F (F (F a 11) 2) 99 = 4)
    (hk9999h : K (F (F a 9) 0) = 22)
    (hj9999i : F (F (F a 9) 0) 99 = 10 * 1 + 0)
    (hk9999i : K (F (F a 9) 1) = 22)
    (hj9999k : F (F (F a 9) 1) 99 = 10 * 1 + 1)
    (hk9999j : K (F (F a 9) 2) = 22)
    (hj9999m : F (F (F a 9) 2) 99 = 10 * 1 + 2)
    (hk9999k : K (F (F a 9) 3) = 22)
    (hj9999o : F (F (F a 9) 3) 99 = 10 * 1 + 3)
    (hk9999l : K (F (F a 9) 4) = 23)
    (hj9999q : F (F (F a 9) 4) 99 = 10 * 1 + 4)
    (hk9999m : K (F (F a 9) 5) = 23)
    (hj9999s : F (F (F a 9) 5) 99 = 10 * 1 + 5)
    (hk9999n : K (F a 3) = 8)
    (hj9999t : F (F a 3) 99 = 0)
    (hk9999o : K (F (F a 3) 0) = 20)
    (hj9999v : F (F (F a 3) 0) 99 = 0)
    (hk9999p : K (F (F a 3) 1) = 21)
    (hj9999y : F (F (F a 3) 1) 99 = 0)
    (hk9999q : K (F (F a 8) 0) = 22)
    (hj9999z26 : F (F (F a 8) 0) 99 = 10 * 0 + 0)
    (hk9999r : K (F (F a 8) 1) = 22)
    (hj9999z28 : F (F (F a 8) 1) 99 = 10 * 0 + 1)
    (hk9999s : K (F (F a 8) 2) = 22)
    (hj9999z30 : F (F (F a 8) 2) 99 = 10 * 0 + 2)
    (hk9999t : K (F (F a 8) 3) = 22)
    (hj9999z32 : F (F (F a 8) 3) 99 = 10 * 0 + 3)
    (hk9999u : K (F (F a 8) 4) = 23)
    (hj9999z34 : F (F (F a 8) 4) 99 = 10 * 0 + 4)
    (hk9999v : K (F (F a 8) 5) = 23)
    (hj9999z36 : F (F (F a 8) 5) 99 = 10 * 0 + 5)
    (hk9999w : K (F a 2) = 2)
    (hj9999z37 : F (F a 2) 99 = 0)
    (hk9999y : K (F (F a 2) 1) = 15)
    (hj9999z38 : F (F (F a 2) 1) 99 = 1)
    (hk9999z25 : K (F (F a 2) 0) = 15)
    (hj9999z39 : F (F (F a 2) 0) 99 = 0)
    (hk9999z26 : K (F a 4) = 8)
    (hj9999z40 : F (F a 4) 99 = 1)
    (hk9999z27 : K (F (F a 4) 0) = 20)
    (hj9999z42 : F (F (F a 4) 0) 99 = 1)
    (hk9999z28 : K (F (F a 4) 1) = 21)
    (hj9999z44 : F (F (F a 4) 1) 99 = 1)
    (hk9999z29 : K (F a 6) = 8)
    (hj9999z45 : F (F a 6) 99 = 3)
    (hk9999z30 : K (F (F a 6) 0) = 20)
    (hj9999z47 : F (F (F a 6) 0) 99 = 3)
    (hk9999z31 : K (F (F a 6) 1) = 21)
    (hj9999z49 : F (F (F a 6) 1) 99 = 3)
    (hk9999z32 : K (F a 7) = 16)
    (hj9999z50 : F (F a 7) 99 = 0)
    (hk19 : K q19 = 8)
    (f68 : F q19 99 = 4 + (p0.toInt).toNat)
    (hk30 : K (F q19 0) = 20)
    (hj30a : F (F q19 0) 99 = 4 + (p0.toInt).toNat)
    (hk30a : K (F q19 1) = 21)
    (hj30c : F (F q19 1) 99 = 4 + (p0.toInt).toNat)
    (hfr : XFr [(F a 14, 1), (F a 14, 2), (F a 14, 3), (a, 17), (F a 11, 3), (F a 9, 6), (F a 8, 6)] [F a 15, F (F a 11) 0, F (F a 11) 1, F (F a 11) 2, F (F a 9) 0, F (F a 9) 1, F (F a 9) 2, F (F a 9) 3, F (F a 9) 4, F (F a 9) 5, F (F a 3) 0, F (F a 3) 1, F (F a 8) 0, F (F a 8) 1, F (F a 8) 2, F (F a 8) 3, F (F a 8) 4, F (F a 8) 5] [] G G4)
    (bko : BKr K G (G.2.2.1 (F (F a 2) 1)))
    (hs19 : F q19 99 = 4 + (p0.toInt).toNat ∧ G4.2.2.1 (F a 7) (p0.toInt).toNat = some q19)
    (sb : 0 ≤ ((G.1 (F a 2) 2).toInt) ∧ ((G.1 (F a 2) 2).toInt) ≤ 12)
    (sw : 0 ≤ ((G.1 (F a 8) 6).toInt) ∧ ((G.1 (F a 8) 6).toInt) ≤ 1080)
    (t4 : ((G4.1 (F a 14) 1).toInt) = 0)
    (f85 : ((G.1 a 18).toInt) = 0 ∨ ((G.1 a 18).toInt) = 1)
    (c11 : ((G.1 a 18).toInt) ≠ 0)
    (ht19 : 0 ≤ p0.toInt ∧ p0.toInt < ((G.1 a 17).toInt) ∧ p0.toInt < 8)
    (r_G4_F_F_a_2_1 : G4.2.2.1 (F (F a 2) 1) = G.2.2.1 (F (F a 2) 1)) :
    ∀ (i q : Nat), i < 12 → G4.2.2.1 (F (F a 2) 1) i = some q → RW (G4.1 q) := by
  have hd : ∀ p, p ∈ [(F a 14, 1), (F a 14, 2), (F a 14, 3), (a, 17), (F a 11, 3), (F a 9, 6), (F a 8, 6)] → K p.1 ≠ 9 := (List.forall_mem_cons.mpr ⟨(show K (F a 14) ≠ 9 by omega), List.forall_mem_cons.mpr ⟨(show K (F a 14) ≠ 9 by omega), List.forall_mem_cons.mpr ⟨(show K (F a 14) ≠ 9 by omega), List.forall_mem_cons.mpr ⟨(show K (a) ≠ 9 by omega), List.forall_mem_cons.mpr ⟨(show K (F a 11) ≠ 9 by omega), List.forall_mem_cons.mpr ⟨(show K (F a 9) ≠ 9 by omega), List.forall_mem_cons.mpr ⟨(show K (F a 8) ≠ 9 by omega), fun _ h => by cases h⟩⟩⟩⟩⟩⟩⟩)
  first
    | rw [r_G4_F_F_a_2_1]; exact (bko.fr hfr hd).rw
    | rw [r_G41_F_F_a_2_1]; exact (bko.fr hfr hd).rw
    | rw [r_G100_F_F_a_2_1]; exact (bko.fr hfr hd).rw
theorem v_X10_back_41_6 {K : Nat → Nat} {F : Nat → Nat → Nat} (a : Nat) (q19 : Nat) (p0 : Int32) (G : XG) (G4 : XG)
    (ha : K a = 12)
    (hk9999 : K (F a 14) = 11)
    (hj9999 : F (F a 14) 99 = 0)
    (hk9999a : K (F a 11) = 3)
    (hj9999a : F (F a 11) 99 = 0)
    (hk9999b : K (F a 9) = 6)
    (hj9999b : F (F a 9) 99 = 1)
    (hk9999c : K (F a 8) = 6)
    (hj9999c : F (F a 8) 99 = 0)
    (hk9999d : K (F a 15) = 26)
    (hj9999d : F (F a 15) 99 = 0)
    (hk9999e : K (F (F a 11) 0) = 21)
    (hj9999e : F (F (F a 11) 0) 99 = 100)
    (hk9999f : K (F (F a 11) 1) = 21)
    (hj9999f : F (F (F a 11) 1) 99 = 101)
    (hk9999g : K (F (F a 11) 2) = 24)
    (hj9999g : F (F (F a 11) 2) 99 = 4)
    (hk9999h : K (F (F a 9) 0) = 22)
    (hj9999i : F (F (F a 9) 0) 99 = 10 * 1 + 0)
    (hk9999i : K (F (F a 9) 1) = 22)
    (hj9999k : F (F (F a 9) 1) 99 = 10 * 1 + 1)
    (hk9999j : K (F (F a 9) 2) = 22)
    (hj9999m : F (F (F a 9) 2) 99 = 10 * 1 + 2)
    (hk9999k : K (F (F a 9) 3) = 22)
    (hj9999o : F (F (F a 9) 3) 99 = 10 * 1 + 3)
    (hk9999l : K (F (F a 9) 4) = 23)
    (hj9999q : F (F (F a 9) 4) 99 = 10 * 1 + 4)
    (hk9999m : K (F (F a 9) 5) = 23)
    (hj9999s : F (F (F a 9) 5) 99 = 10 * 1 + 5)
    (hk9999n : K (F a 3) = 8)
    (hj9999t : F (F a 3) 99 = 0)
    (hk9999o : K (F (F a 3) 0) = 20)
    (hj9999v : F (F (F a 3) 0) 99 = 0)
    (hk9999p : K (F (F a 3) 1) = 21)
    (hj9999y : F (F (F a 3) 1) 99 = 0)
    (hk9999q : K (F (F a 8) 0) = 22)
    (hj9999z26 : F (F (F a 8) 0) 99 = 10 * 0 + 0)
    (hk9999r : K (F (F a 8) 1) = 22)
    (hj9999z28 : F (F (F a 8) 1) 99 = 10 * 0 + 1)
    (hk9999s : K (F (F a 8) 2) = 22)
    (hj9999z30 : F (F (F a 8) 2) 99 = 10 * 0 + 2)
    (hk9999t : K (F (F a 8) 3) = 22)
    (hj9999z32 : F (F (F a 8) 3) 99 = 10 * 0 + 3)
    (hk9999u : K (F (F a 8) 4) = 23)
    (hj9999z34 : F (F (F a 8) 4) 99 = 10 * 0 + 4)
    (hk9999v : K (F (F a 8) 5) = 23)
    (hj9999z36 : F (F (F a 8) 5) 99 = 10 * 0 + 5)
    (hk9999w : K (F a 2) = 2)
    (hj9999z37 : F (F a 2) 99 = 0)
    (hk9999y : K (F (F a 2) 1) = 15)
    (hj9999z38 : F (F (F a 2) 1) 99 = 1)
    (hk9999z25 : K (F (F a 2) 0) = 15)
    (hj9999z39 : F (F (F a 2) 0) 99 = 0)
    (hk9999z26 : K (F a 4) = 8)
    (hj9999z40 : F (F a 4) 99 = 1)
    (hk9999z27 : K (F (F a 4) 0) = 20)
    (hj9999z42 : F (F (F a 4) 0) 99 = 1)
    (hk9999z28 : K (F (F a 4) 1) = 21)
    (hj9999z44 : F (F (F a 4) 1) 99 = 1)
    (hk9999z29 : K (F a 6) = 8)
    (hj9999z45 : F (F a 6) 99 = 3)
    (hk9999z30 : K (F (F a 6) 0) = 20)
    (hj9999z47 : F (F (F a 6) 0) 99 = 3)
    (hk9999z31 : K (F (F a 6) 1) = 21)
    (hj9999z49 : F (F (F a 6) 1) 99 = 3)
    (hk9999z32 : K (F a 7) = 16)
    (hj9999z50 : F (F a 7) 99 = 0)
    (hk19 : K q19 = 8)
    (f68 : F q19 99 = 4 + (p0.toInt).toNat)
    (hk30 : K (F q19 0) = 20)
    (hj30a : F (F q19 0) 99 = 4 + (p0.toInt).toNat)
    (hk30a : K (F q19 1) = 21)
    (hj30c : F (F q19 1) 99 = 4 + (p0.toInt).toNat)
    (hfr : XFr [(F a 14, 1), (F a 14, 2), (F a 14, 3), (a, 17), (F a 11, 3), (F a 9, 6), (F a 8, 6)] [F a 15, F (F a 11) 0, F (F a 11) 1, F (F a 11) 2, F (F a 9) 0, F (F a 9) 1, F (F a 9) 2, F (F a 9) 3, F (F a 9) 4, F (F a 9) 5, F (F a 3) 0, F (F a 3) 1, F (F a 8) 0, F (F a 8) 1, F (F a 8) 2, F (F a 8) 3, F (F a 8) 4, F (F a 8) 5] [] G G4)
    (hF4 : XFr [(F a 14, 1)] [] [] G G4)
    (ron : RO (vw (G.2.1 (F (F a 3) 0))) (aI (G.2.1 (F (F a 3) 1))))
    (rob : RO (vw (G.2.1 (F (F a 4) 0))) (aI (G.2.1 (F (F a 4) 1))))
    (ro0 : RO (vw (G.2.1 (F (F a 6) 0))) (aI (G.2.1 (F (F a 6) 1))))
    (bko : BKr K G (G.2.2.1 (F (F a 2) 1)))
    (bkn : BKr K G (G.2.2.1 (F (F a 2) 0)))
    (rok : ∀ (i q : Nat), i < 8 → G.2.2.1 (F a 7) i = some q → RO (vw (G.2.1 (F q 0))) (aI (G.2.1 (F q 1))))
    (hs19 : F q19 99 = 4 + (p0.toInt).toNat ∧ G4.2.2.1 (F a 7) (p0.toInt).toNat = some q19)
    (sb : 0 ≤ ((G.1 (F a 2) 2).toInt) ∧ ((G.1 (F a 2) 2).toInt) ≤ 12)
    (sw : 0 ≤ ((G.1 (F a 8) 6).toInt) ∧ ((G.1 (F a 8) 6).toInt) ≤ 1080)
    (t4 : ((G4.1 (F a 14) 1).toInt) = 0)
    (f85 : ((G.1 a 18).toInt) = 0 ∨ ((G.1 a 18).toInt) = 1)
    (c11 : ((G.1 a 18).toInt) ≠ 0)
    (ht19 : 0 ≤ p0.toInt ∧ p0.toInt < ((G.1 a 17).toInt) ∧ p0.toInt < 8)
    (c_G4_F_F_a_11_0 : G4.2.1 (F (F a 11) 0) = G.2.1 (F (F a 11) 0))
    (c_G4_F_F_a_11_1 : G4.2.1 (F (F a 11) 1) = G.2.1 (F (F a 11) 1))
    (c_G4_F_F_a_11_2 : G4.2.1 (F (F a 11) 2) = G.2.1 (F (F a 11) 2))
    (c_G4_F_F_a_3_0 : G4.2.1 (F (F a 3) 0) = G.2.1 (F (F a 3) 0))
    (c_G4_F_F_a_3_1 : G4.2.1 (F (F a 3) 1) = G.2.1 (F (F a 3) 1))
    (c_G4_F_F_a_8_0 : G4.2.1 (F (F a 8) 0) = G.2.1 (F (F a 8) 0))
    (c_G4_F_F_a_8_1 : G4.2.1 (F (F a 8) 1) = G.2.1 (F (F a 8) 1))
    (c_G4_F_F_a_8_2 : G4.2.1 (F (F a 8) 2) = G.2.1 (F (F a 8) 2))
    (c_G4_F_F_a_8_3 : G4.2.1 (F (F a 8) 3) = G.2.1 (F (F a 8) 3))
    (c_G4_F_F_a_8_4 : G4.2.1 (F (F a 8) 4) = G.2.1 (F (F a 8) 4))
    (c_G4_F_F_a_8_5 : G4.2.1 (F (F a 8) 5) = G.2.1 (F (F a 8) 5))
    (c_G4_F_F_a_9_0 : G4.2.1 (F (F a 9) 0) = G.2.1 (F (F a 9) 0))
    (c_G4_F_F_a_9_1 : G4.2.1 (F (F a 9) 1) = G.2.1 (F (F a 9) 1))
    (c_G4_F_F_a_9_2 : G4.2.1 (F (F a 9) 2) = G.2.1 (F (F a 9) 2))
    (c_G4_F_F_a_9_3 : G4.2.1 (F (F a 9) 3) = G.2.1 (F (F a 9) 3))
    (c_G4_F_F_a_9_4 : G4.2.1 (F (F a 9) 4) = G.2.1 (F (F a 9) 4))
    (c_G4_F_F_a_9_5 : G4.2.1 (F (F a 9) 5) = G.2.1 (F (F a 9) 5))
    (c_G4_F_a_15 : G4.2.1 (F a 15) = G.2.1 (F a 15))
    (c_G4_F_q19_0 : G4.2.1 (F q19 0) = G.2.1 (F q19 0))
    (c_G4_F_q19_1 : G4.2.1 (F q19 1) = G.2.1 (F q19 1))
    (r_G4_F_F_a_2_1 : G4.2.2.1 (F (F a 2) 1) = G.2.2.1 (F (F a 2) 1))
    (r_G4_F_a_7 : G4.2.2.1 (F a 7) = G.2.2.1 (F a 7))
    (d_G4_F_a_11_3 : G4.1 (F a 11) 3 = G.1 (F a 11) 3)
    (d_G4_F_a_14_2 : G4.1 (F a 14) 2 = G.1 (F a 14) 2)
    (d_G4_F_a_14_3 : G4.1 (F a 14) 3 = G.1 (F a 14) 3)
    (d_G4_F_a_8_6 : G4.1 (F a 8) 6 = G.1 (F a 8) 6)
    (d_G4_F_a_9_6 : G4.1 (F a 9) 6 = G.1 (F a 9) 6)
    (d_G4_a_17 : G4.1 a 17 = G.1 a 17) :
    F (F a 6) 99 < 12 := by
  first | assumption | omega
theorem v_X10_back_41_7 {K : Nat → Nat} {F : Nat → Nat → Nat} (a : Nat) (q19 : Nat) (p0 : Int32) (G : XG) (G4 : XG)
    (ha : K a = 12)
    (hk9999 : K (F a 14) = 11)
    (hj9999 : F (F a 14) 99 = 0)
    (hk9999a : K (F a 11) = 3)
    (hj9999a : F (F a 11) 99 = 0)
    (hk9999b : K (F a 9) = 6)
    (hj9999b : F (F a 9) 99 = 1)
    (hk9999c : K (F a 8) = 6)
    (hj9999c : F (F a 8) 99 = 0)
    (hk9999d : K (F a 15) = 26)
    (hj9999d : F (F a 15) 99 = 0)
    (hk9999e : K (F (F a 11) 0) = 21)
    (hj9999e : F (F (F a 11) 0) 99 = 100)
    (hk9999f : K (F (F a 11) 1) = 21)
    (hj9999f : F (F (F a 11) 1) 99 = 101)
    (hk9999g : K (F (F a 11) 2) = 24)
    (hj9999g : F (F (F a 11) 2) 99 = 4)
    (hk9999h : K (F (F a 9) 0) = 22)
    (hj9999i : F (F (F a 9) 0) 99 = 10 * 1 + 0)
    (hk9999i : K (F (F a 9) 1) = 22)
    (hj9999k : F (F (F a 9) 1) 99 = 10 * 1 + 1)
    (hk9999j : K (F (F a 9) 2) = 22)
    (hj9999m : F (F (F a 9) 2) 99 = 10 * 1 + 2)
    (hk9999k : K (F (F a 9) 3) = 22)
    (hj9999o : F (F (F a 9) 3) 99 = 10 * 1 + 3)
    (hk9999l : K (F (F a 9) 4) = 23)
    (hj9999q : F (F (F a 9) 4) 99 = 10 * 1 + 4)
    (hk9999m : K (F (F a 9) 5) = 23)
    (hj9999s : F (F (F a 9) 5) 99 = 10 * 1 + 5)
    (hk9999n : K (F a 3) = 8)
    (hj9999t : F (F a 3) 99 = 0)
    (hk9999o : K (F (F a 3) 0) = 20)
    (hj9999v : F (F (F a 3) 0) 99 = 0)
    (hk9999p : K (F (F a 3) 1) = 21)
    (hj9999y : F (F (F a 3) 1) 99 = 0)
    (hk9999q : K (F (F a 8) 0) = 22)
    (hj9999z26 : F (F (F a 8) 0) 99 = 10 * 0 + 0)
    (hk9999r : K (F (F a 8) 1) = 22)
    (hj9999z28 : F (F (F a 8) 1) 99 = 10 * 0 + 1)
    (hk9999s : K (F (F a 8) 2) = 22)
    (hj9999z30 : F (F (F a 8) 2) 99 = 10 * 0 + 2)
    (hk9999t : K (F (F a 8) 3) = 22)
    (hj9999z32 : F (F (F a 8) 3) 99 = 10 * 0 + 3)
    (hk9999u : K (F (F a 8) 4) = 23)
    (hj9999z34 : F (F (F a 8) 4) 99 = 10 * 0 + 4)
    (hk9999v : K (F (F a 8) 5) = 23)
    (hj9999z36 : F (F (F a 8) 5) 99 = 10 * 0 + 5)
    (hk9999w : K (F a 2) = 2)
    (hj9999z37 : F (F a 2) 99 = 0)
    (hk9999y : K (F (F a 2) 1) = 15)
    (hj9999z38 : F (F (F a 2) 1) 99 = 1)
    (hk9999z25 : K (F (F a 2) 0) = 15)
    (hj9999z39 : F (F (F a 2) 0) 99 = 0)
    (hk9999z26 : K (F a 4) = 8)
    (hj9999z40 : F (F a 4) 99 = 1)
    (hk9999z27 : K (F (F a 4) 0) = 20)
    (hj9999z42 : F (F (F a 4) 0) 99 = 1)
    (hk9999z28 : K (F (F a 4) 1) = 21)
    (hj9999z44 : F (F (F a 4) 1) 99 = 1)
    (hk9999z29 : K (F a 6) = 8)
    (hj9999z45 : F (F a 6) 99 = 3)
    (hk9999z30 : K (F (F a 6) 0) = 20)
    (hj9999z47 : F (F (F a 6) 0) 99 = 3)
    (hk9999z31 : K (F (F a 6) 1) = 21)
    (hj9999z49 : F (F (F a 6) 1) 99 = 3)
    (hk9999z32 : K (F a 7) = 16)
    (hj9999z50 : F (F a 7) 99 = 0)
    (hk19 : K q19 = 8)
    (f68 : F q19 99 = 4 + (p0.toInt).toNat)
    (hk30 : K (F q19 0) = 20)
    (hj30a : F (F q19 0) 99 = 4 + (p0.toInt).toNat)
    (hk30a : K (F q19 1) = 21)
    (hj30c : F (F q19 1) 99 = 4 + (p0.toInt).toNat)
    (hfr : XFr [(F a 14, 1), (F a 14, 2), (F a 14, 3), (a, 17), (F a 11, 3), (F a 9, 6), (F a 8, 6)] [F a 15, F (F a 11) 0, F (F a 11) 1, F (F a 11) 2, F (F a 9) 0, F (F a 9) 1, F (F a 9) 2, F (F a 9) 3, F (F a 9) 4, F (F a 9) 5, F (F a 3) 0, F (F a 3) 1, F (F a 8) 0, F (F a 8) 1, F (F a 8) 2, F (F a 8) 3, F (F a 8) 4, F (F a 8) 5] [] G G4)
    (hF4 : XFr [(F a 14, 1)] [] [] G G4)
    (ron : RO (vw (G.2.1 (F (F a 3) 0))) (aI (G.2.1 (F (F a 3) 1))))
    (rob : RO (vw (G.2.1 (F (F a 4) 0))) (aI (G.2.1 (F (F a 4) 1))))
    (ro0 : RO (vw (G.2.1 (F (F a 6) 0))) (aI (G.2.1 (F (F a 6) 1))))
    (bko : BKr K G (G.2.2.1 (F (F a 2) 1)))
    (bkn : BKr K G (G.2.2.1 (F (F a 2) 0)))
    (rok : ∀ (i q : Nat), i < 8 → G.2.2.1 (F a 7) i = some q → RO (vw (G.2.1 (F q 0))) (aI (G.2.1 (F q 1))))
    (hs19 : F q19 99 = 4 + (p0.toInt).toNat ∧ G4.2.2.1 (F a 7) (p0.toInt).toNat = some q19)
    (sb : 0 ≤ ((G.1 (F a 2) 2).toInt) ∧ ((G.1 (F a 2) 2).toInt) ≤ 12)
    (sw : 0 ≤ ((G.1 (F a 8) 6).toInt) ∧ ((G.1 (F a 8) 6).toInt) ≤ 1080)
    (t4 : ((G4.1 (F a 14) 1).toInt) = 0)
    (f85 : ((G.1 a 18).toInt) = 0 ∨ ((G.1 a 18).toInt) = 1)
    (c11 : ((G.1 a 18).toInt) ≠ 0)
    (ht19 : 0 ≤ p0.toInt ∧ p0.toInt < ((G.1 a 17).toInt) ∧ p0.toInt < 8)
    (c_G4_F_F_a_11_0 : G4.2.1 (F (F a 11) 0) = G.2.1 (F (F a 11) 0))
    (c_G4_F_F_a_11_1 : G4.2.1 (F (F a 11) 1) = G.2.1 (F (F a 11) 1))
    (c_G4_F_F_a_11_2 : G4.2.1 (F (F a 11) 2) = G.2.1 (F (F a 11) 2))
    (c_G4_F_F_a_3_0 : G4.2.1 (F (F a 3) 0) = G.2.1 (F (F a 3) 0))
    (c_G4_F_F_a_3_1 : G4.2.1 (F (F a 3) 1) = G.2.1 (F (F a 3) 1))
    (c_G4_F_F_a_8_0 : G4.2.1 (F (F a 8) 0) = G.2.1 (F (F a 8) 0))
    (c_G4_F_F_a_8_1 : G4.2.1 (F (F a 8) 1) = G.2.1 (F (F a 8) 1))
    (c_G4_F_F_a_8_2 : G4.2.1 (F (F a 8) 2) = G.2.1 (F (F a 8) 2))
    (c_G4_F_F_a_8_3 : G4.2.1 (F (F a 8) 3) = G.2.1 (F (F a 8) 3))
    (c_G4_F_F_a_8_4 : G4.2.1 (F (F a 8) 4) = G.2.1 (F (F a 8) 4))
    (c_G4_F_F_a_8_5 : G4.2.1 (F (F a 8) 5) = G.2.1 (F (F a 8) 5))
    (c_G4_F_F_a_9_0 : G4.2.1 (F (F a 9) 0) = G.2.1 (F (F a 9) 0))
    (c_G4_F_F_a_9_1 : G4.2.1 (F (F a 9) 1) = G.2.1 (F (F a 9) 1))
    (c_G4_F_F_a_9_2 : G4.2.1 (F (F a 9) 2) = G.2.1 (F (F a 9) 2))
    (c_G4_F_F_a_9_3 : G4.2.1 (F (F a 9) 3) = G.2.1 (F (F a 9) 3))
    (c_G4_F_F_a_9_4 : G4.2.1 (F (F a 9) 4) = G.2.1 (F (F a 9) 4))
    (c_G4_F_F_a_9_5 : G4.2.1 (F (F a 9) 5) = G.2.1 (F (F a 9) 5))
    (c_G4_F_a_15 : G4.2.1 (F a 15) = G.2.1 (F a 15))
    (c_G4_F_q19_0 : G4.2.1 (F q19 0) = G.2.1 (F q19 0))
    (c_G4_F_q19_1 : G4.2.1 (F q19 1) = G.2.1 (F q19 1))
    (r_G4_F_F_a_2_1 : G4.2.2.1 (F (F a 2) 1) = G.2.2.1 (F (F a 2) 1))
    (r_G4_F_a_7 : G4.2.2.1 (F a 7) = G.2.2.1 (F a 7))
    (d_G4_F_a_11_3 : G4.1 (F a 11) 3 = G.1 (F a 11) 3)
    (d_G4_F_a_14_2 : G4.1 (F a 14) 2 = G.1 (F a 14) 2)
    (d_G4_F_a_14_3 : G4.1 (F a 14) 3 = G.1 (F a 14) 3)
    (d_G4_F_a_8_6 : G4.1 (F a 8) 6 = G.1 (F a 8) 6)
    (d_G4_F_a_9_6 : G4.1 (F a 9) 6 = G.1 (F a 9) 6)
    (d_G4_a_17 : G4.1 a 17 = G.1 a 17) :
    F q19 99 < 12 := by
  first | assumption | omega
theorem v_X10_back_80_8 {F : Nat → Nat → Nat} (a : Nat) (G : XG) (G41 : XG)
    (ron : RO (vw (G.2.1 (F (F a 3) 0))) (aI (G.2.1 (F (F a 3) 1))))
    (rob : RO (vw (G.2.1 (F (F a 4) 0))) (aI (G.2.1 (F (F a 4) 1))))
    (ro0 : RO (vw (G.2.1 (F (F a 6) 0))) (aI (G.2.1 (F (F a 6) 1))))
    (c_G41_F_F_a_3_0 : G41.2.1 (F (F a 3) 0) = G.2.1 (F (F a 3) 0))
    (c_G41_F_F_a_3_1 : G41.2.1 (F (F a 3) 1) = G.2.1 (F (F a 3) 1)) :
    RO (vw (G41.2.1 (F (F a 3) 0))) (aI (G41.2.1 (F (F a 3) 1))) := by simp only [c_G41_F_F_a_3_0, c_G41_F_F_a_3_1]; assumption
theorem v_X10_back_80_9 {K : Nat → Nat} {F : Nat → Nat → Nat} (a : Nat) (q19 : Nat) (p0 : Int32) (G : XG) (G41 : XG) (G4 : XG) (x48 : Int32)
    (ha : K a = 12)
    (f68 : F q19 99 = 4 + (p0.toInt).toNat)
    (rok : ∀ (i q : Nat), i < 8 → G.2.2.1 (F a 7) i = some q → RO (vw (G.2.1 (F q 0))) (aI (G.2.1 (F q 1))))
    (hs19 : F q19 99 = 4 + (p0.toInt).toNat ∧ G4.2.2.1 (F a 7) (p0.toInt).toNat = some q19)
    (sb : 0 ≤ ((G.1 (F a 2) 2).toInt) ∧ ((G.1 (F a 2) 2).toInt) ≤ 12)
    (sw : 0 ≤ ((G.1 (F a 8) 6).toInt) ∧ ((G.1 (F a 8) 6).toInt) ≤ 1080)
    (t4 : ((G4.1 (F a 14) 1).toInt) = 0)
    (f88 : ((G.1 a 18).toInt) = 0 ∨ ((G.1 a 18).toInt) = 1)
    (c11 : ((G.1 a 18).toInt) ≠ 0)
    (ht19 : 0 ≤ p0.toInt ∧ p0.toInt < ((G.1 a 17).toInt) ∧ p0.toInt < 8)
    (t41 : 0 ≤ ((G41.1 (F a 9) 6).toInt) ∧ ((G41.1 (F a 9) 6).toInt) ≤ 1080)
    (t48 : x48.toInt = -1 ∨ (0 ≤ x48.toInt ∧ x48.toInt < ((G41.1 (F a 9) 6).toInt) ∧ (aI (G41.2.1 (F (F a 9) 5)) (x48.toInt)) = 1))
    (c54 : x48.toInt = (-1 : Int))
    (c_G4_F_q19_0 : G4.2.1 (F q19 0) = G.2.1 (F q19 0))
    (c_G4_F_q19_1 : G4.2.1 (F q19 1) = G.2.1 (F q19 1))
    (c_G41_F_q19_0 : G41.2.1 (F q19 0) = G.2.1 (F q19 0))
    (c_G41_F_q19_1 : G41.2.1 (F q19 1) = G.2.1 (F q19 1))
    (r_G4_F_a_7 : G4.2.2.1 (F a 7) = G.2.2.1 (F a 7)) :
    RO (vw (G41.2.1 (F q19 0))) (aI (G41.2.1 (F q19 1))) := by
  have hq7 : G.2.2.1 (F a 7) (p0.toInt).toNat = some q19 := by rw [← r_G4_F_a_7]; exact hs19.2
  have hr := rok (p0.toInt).toNat q19 (by omega) hq7
  first
    | (simp only [c_G4_F_q19_0, c_G4_F_q19_1]; exact hr)
    | (simp only [c_G41_F_q19_0, c_G41_F_q19_1]; exact hr)
    | (simp only [c_G85_F_q19_0, c_G85_F_q19_1]; exact hr)
theorem v_X10_back_80_10 {K : Nat → Nat} {F : Nat → Nat → Nat} (a : Nat) (q19 : Nat) (p0 : Int32) (G : XG) (G41 : XG) (G4 : XG) (x48 : Int32)
    (ha : K a = 12)
    (hk9999 : K (F a 14) = 11)
    (hj9999 : F (F a 14) 99 = 0)
    (hk9999a : K (F a 11) = 3)
    (hj9999a : F (F a 11) 99 = 0)
    (hk9999b : K (F a 9) = 6)
    (hj9999b : F (F a 9) 99 = 1)
    (hk9999c : K (F a 8) = 6)
    (hj9999c : F (F a 8) 99 = 0)
    (hk9999d : K (F a 15) = 26)
    (hj9999d : F (F a 15) 99 = 0)
    (hk9999e : K (F (F a 11) 0) = 21)
    (hj9999e : F (F (F a 11) 0) 99 = 100)
    (hk9999f : K (F (F a 11) 1) = 21)
    (hj9999f : F (F (F a 11) 1) 99 = 101)
    (hk9999g : K (F (F a 11) 2) = 24)
    (hj9999g : F (F (F a 11) 2) 99 = 4)
    (hk9999h : K (F (F a 9) 0) = 22)
    (hj9999i : F (F (F a 9) 0) 99 = 10 * 1 + 0)
    (hk9999i : K (F (F a 9) 1) = 22)
    (hj9999k : F (F (F a 9) 1) 99 = 10 * 1 + 1)
    (hk9999j : K (F (F a 9) 2) = 22)
    (hj9999m : F (F (F a 9) 2) 99 = 10 * 1 + 2)
    (hk9999k : K (F (F a 9) 3) = 22)
    (hj9999o : F (F (F a 9) 3) 99 = 10 * 1 + 3)
    (hk9999l : K (F (F a 9) 4) = 23)
    (hj9999q : F (F (F a 9) 4) 99 = 10 * 1 + 4)
    (hk9999m : K (F (F a 9) 5) = 23)
    (hj9999s : F (F (F a 9) 5) 99 = 10 * 1 + 5)
    (hk9999n : K (F a 3) = 8)
    (hj9999t : F (F a 3) 99 = 0)
    (hk9999o : K (F (F a 3) 0) = 20)
    (hj9999v : F (F (F a 3) 0) 99 = 0)
    (hk9999p : K (F (F a 3) 1) = 21)
    (hj9999y : F (F (F a 3) 1) 99 = 0)
    (hk9999q : K (F (F a 8) 0) = 22)
    (hj9999z26 : F (F (F a 8) 0) 99 = 10 * 0 + 0)
    (hk9999r : K (F (F a 8) 1) = 22)
    (hj9999z28 : F (F (F a 8) 1) 99 = 10 * 0 + 1)
    (hk9999s : K (F (F a 8) 2) = 22)
    (hj9999z30 : F (F (F a 8) 2) 99 = 10 * 0 + 2)
    (hk9999t : K (F (F a 8) 3) = 22)
    (hj9999z32 : F (F (F a 8) 3) 99 = 10 * 0 + 3)
    (hk9999u : K (F (F a 8) 4) = 23)
    (hj9999z34 : F (F (F a 8) 4) 99 = 10 * 0 + 4)
    (hk9999v : K (F (F a 8) 5) = 23)
    (hj9999z36 : F (F (F a 8) 5) 99 = 10 * 0 + 5)
    (hk9999w : K (F a 2) = 2)
    (hj9999z37 : F (F a 2) 99 = 0)
    (hk9999y : K (F (F a 2) 1) = 15)
    (hj9999z38 : F (F (F a 2) 1) 99 = 1)
    (hk9999z25 : K (F (F a 2) 0) = 15)
    (hj9999z39 : F (F (F a 2) 0) 99 = 0)
    (hk9999z26 : K (F a 4) = 8)
    (hj9999z40 : F (F a 4) 99 = 1)
    (hk9999z27 : K (F (F a 4) 0) = 20)
    (hj9999z42 : F (F (F a 4) 0) 99 = 1)
    (hk9999z28 : K (F (F a 4) 1) = 21)
    (hj9999z44 : F (F (F a 4) 1) 99 = 1)
    (hk9999z29 : K (F a 6) = 8)
    (hj9999z45 : F (F a 6) 99 = 3)
    (hk9999z30 : K (F (F a 6) 0) = 20)
    (hj9999z47 : F (F (F a 6) 0) 99 = 3)
    (hk9999z31 : K (F (F a 6) 1) = 21)
    (hj9999z49 : F (F (F a 6) 1) 99 = 3)
    (hk9999z32 : K (F a 7) = 16)
    (hj9999z50 : F (F a 7) 99 = 0)
    (hk19 : K q19 = 8)
    (f68 : F q19 99 = 4 + (p0.toInt).toNat)
    (hk30 : K (F q19 0) = 20)
    (hj30a : F (F q19 0) 99 = 4 + (p0.toInt).toNat)
    (hk30a : K (F q19 1) = 21)
    (hj30c : F (F q19 1) 99 = 4 + (p0.toInt).toNat)
    (hfr : XFr [(F a 14, 1), (F a 14, 2), (F a 14, 3), (a, 17), (F a 11, 3), (F a 9, 6), (F a 8, 6)] [F a 15, F (F a 11) 0, F (F a 11) 1, F (F a 11) 2, F (F a 9) 0, F (F a 9) 1, F (F a 9) 2, F (F a 9) 3, F (F a 9) 4, F (F a 9) 5, F (F a 3) 0, F (F a 3) 1, F (F a 8) 0, F (F a 8) 1, F (F a 8) 2, F (F a 8) 3, F (F a 8) 4, F (F a 8) 5] [] G G41)
    (bko : BKr K G (G.2.2.1 (F (F a 2) 1)))
    (hs19 : F q19 99 = 4 + (p0.toInt).toNat ∧ G4.2.2.1 (F a 7) (p0.toInt).toNat = some q19)
    (sb : 0 ≤ ((G.1 (F a 2) 2).toInt) ∧ ((G.1 (F a 2) 2).toInt) ≤ 12)
    (sw : 0 ≤ ((G.1 (F a 8) 6).toInt) ∧ ((G.1 (F a 8) 6).toInt) ≤ 1080)
    (t4 : ((G4.1 (F a 14) 1).toInt) = 0)
    (f88 : ((G.1 a 18).toInt) = 0 ∨ ((G.1 a 18).toInt) = 1)
    (c11 : ((G.1 a 18).toInt) ≠ 0)
    (ht19 : 0 ≤ p0.toInt ∧ p0.toInt < ((G.1 a 17).toInt) ∧ p0.toInt < 8)
    (t41 : 0 ≤ ((G41.1 (F a 9) 6).toInt) ∧ ((G41.1 (F a 9) 6).toInt) ≤ 1080)
    (t48 : x48.toInt = -1 ∨ (0 ≤ x48.toInt ∧ x48.toInt < ((G41.1 (F a 9) 6).toInt) ∧ (aI (G41.2.1 (F (F a 9) 5)) (x48.toInt)) = 1))
    (c54 : x48.toInt = (-1 : Int))
    (r_G4_F_F_a_2_1 : G4.2.2.1 (F (F a 2) 1) = G.2.2.1 (F (F a 2) 1))
    (r_G41_F_F_a_2_1 : G41.2.2.1 (F (F a 2) 1) = G.2.2.1 (F (F a 2) 1)) :
    ∀ (i q : Nat), i < 12 → G41.2.2.1 (F (F a 2) 1) i = some q → RW (G41.1 q) := by
  have hd : ∀ p, p ∈ [(F a 14, 1), (F a 14, 2), (F a 14, 3), (a, 17), (F a 11, 3), (F a 9, 6), (F a 8, 6)] → K p.1 ≠ 9 := (List.forall_mem_cons.mpr ⟨(show K (F a 14) ≠ 9 by omega), List.forall_mem_cons.mpr ⟨(show K (F a 14) ≠ 9 by omega), List.forall_mem_cons.mpr ⟨(show K (F a 14) ≠ 9 by omega), List.forall_mem_cons.mpr ⟨(show K (a) ≠ 9 by omega), List.forall_mem_cons.mpr ⟨(show K (F a 11) ≠ 9 by omega), List.forall_mem_cons.mpr ⟨(show K (F a 9) ≠ 9 by omega), List.forall_mem_cons.mpr ⟨(show K (F a 8) ≠ 9 by omega), fun _ h => by cases h⟩⟩⟩⟩⟩⟩⟩)
  first
    | rw [r_G4_F_F_a_2_1]; exact (bko.fr hfr hd).rw
    | rw [r_G41_F_F_a_2_1]; exact (bko.fr hfr hd).rw
    | rw [r_G100_F_F_a_2_1]; exact (bko.fr hfr hd).rw
theorem v_X10_back_80_11 {K : Nat → Nat} {F : Nat → Nat → Nat} (a : Nat) (q19 : Nat) (p0 : Int32) (G : XG) (G41 : XG) (G4 : XG) (x48 : Int32)
    (ha : K a = 12)
    (hk9999 : K (F a 14) = 11)
    (hj9999 : F (F a 14) 99 = 0)
    (hk9999a : K (F a 11) = 3)
    (hj9999a : F (F a 11) 99 = 0)
    (hk9999b : K (F a 9) = 6)
    (hj9999b : F (F a 9) 99 = 1)
    (hk9999c : K (F a 8) = 6)
    (hj9999c : F (F a 8) 99 = 0)
    (hk9999d : K (F a 15) = 26)
    (hj9999d : F (F a 15) 99 = 0)
    (hk9999e : K (F (F a 11) 0) = 21)
    (hj9999e : F (F (F a 11) 0) 99 = 100)
    (hk9999f : K (F (F a 11) 1) = 21)
    (hj9999f : F (F (F a 11) 1) 99 = 101)
    (hk9999g : K (F (F a 11) 2) = 24)
    (hj9999g : F (F (F a 11) 2) 99 = 4)
    (hk9999h : K (F (F a 9) 0) = 22)
    (hj9999i : F (F (F a 9) 0) 99 = 10 * 1 + 0)
    (hk9999i : K (F (F a 9) 1) = 22)
    (hj9999k : F (F (F a 9) 1) 99 = 10 * 1 + 1)
    (hk9999j : K (F (F a 9) 2) = 22)
    (hj9999m : F (F (F a 9) 2) 99 = 10 * 1 + 2)
    (hk9999k : K (F (F a 9) 3) = 22)
    (hj9999o : F (F (F a 9) 3) 99 = 10 * 1 + 3)
    (hk9999l : K (F (F a 9) 4) = 23)
    (hj9999q : F (F (F a 9) 4) 99 = 10 * 1 + 4)
    (hk9999m : K (F (F a 9) 5) = 23)
    (hj9999s : F (F (F a 9) 5) 99 = 10 * 1 + 5)
    (hk9999n : K (F a 3) = 8)
    (hj9999t : F (F a 3) 99 = 0)
    (hk9999o : K (F (F a 3) 0) = 20)
    (hj9999v : F (F (F a 3) 0) 99 = 0)
    (hk9999p : K (F (F a 3) 1) = 21)
    (hj9999y : F (F (F a 3) 1) 99 = 0)
    (hk9999q : K (F (F a 8) 0) = 22)
    (hj9999z26 : F (F (F a 8) 0) 99 = 10 * 0 + 0)
    (hk9999r : K (F (F a 8) 1) = 22)
    (hj9999z28 : F (F (F a 8) 1) 99 = 10 * 0 + 1)
    (hk9999s : K (F (F a 8) 2) = 22)
    (hj9999z30 : F (F (F a 8) 2) 99 = 10 * 0 + 2)
    (hk9999t : K (F (F a 8) 3) = 22)
    (hj9999z32 : F (F (F a 8) 3) 99 = 10 * 0 + 3)
    (hk9999u : K (F (F a 8) 4) = 23)
    (hj9999z34 : F (F (F a 8) 4) 99 = 10 * 0 + 4)
    (hk9999v : K (F (F a 8) 5) = 23)
    (hj9999z36 : F (F (F a 8) 5) 99 = 10 * 0 + 5)
    (hk9999w : K (F a 2) = 2)
    (hj9999z37 : F (F a 2) 99 = 0)
    (hk9999y : K (F (F a 2) 1) = 15)
    (hj9999z38 : F (F (F a 2) 1) 99 = 1)
    (hk9999z25 : K (F (F a 2) 0) = 15)
    (hj9999z39 : F (F (F a 2) 0) 99 = 0)
    (hk9999z26 : K (F a 4) = 8)
    (hj9999z40 : F (F a 4) 99 = 1)
    (hk9999z27 : K (F (F a 4) 0) = 20)
    (hj9999z42 : F (F (F a 4) 0) 99 = 1)
    (hk9999z28 : K (F (F a 4) 1) = 21)
    (hj9999z44 : F (F (F a 4) 1) 99 = 1)
    (hk9999z29 : K (F a 6) = 8)
    (hj9999z45 : F (F a 6) 99 = 3)
    (hk9999z30 : K (F (F a 6) 0) = 20)
    (hj9999z47 : F (F (F a 6) 0) 99 = 3)
    (hk9999z31 : K (F (F a 6) 1) = 21)
    (hj9999z49 : F (F (F a 6) 1) 99 = 3)
    (hk9999z32 : K (F a 7) = 16)
    (hj9999z50 : F (F a 7) 99 = 0)
    (hk19 : K q19 = 8)
    (f68 : F q19 99 = 4 + (p0.toInt).toNat)
    (hk30 : K (F q19 0) = 20)
    (hj30a : F (F q19 0) 99 = 4 + (p0.toInt).toNat)
    (hk30a : K (F q19 1) = 21)
    (hj30c : F (F q19 1) 99 = 4 + (p0.toInt).toNat)
    (hfr : XFr [(F a 14, 1), (F a 14, 2), (F a 14, 3), (a, 17), (F a 11, 3), (F a 9, 6), (F a 8, 6)] [F a 15, F (F a 11) 0, F (F a 11) 1, F (F a 11) 2, F (F a 9) 0, F (F a 9) 1, F (F a 9) 2, F (F a 9) 3, F (F a 9) 4, F (F a 9) 5, F (F a 3) 0, F (F a 3) 1, F (F a 8) 0, F (F a 8) 1, F (F a 8) 2, F (F a 8) 3, F (F a 8) 4, F (F a 8) 5] [] G G41)
    (hF4 : XFr [(F a 14, 1)] [] [] G G4)
    (hF41 : XFr [(F a 11, 3), (F a 9, 6)] [F (F a 11) 0, F (F a 11) 1, F (F a 11) 2, F (F a 9) 0, F (F a 9) 1, F (F a 9) 2, F (F a 9) 3, F (F a 9) 4, F (F a 9) 5] [] G4 G41)
    (ron : RO (vw (G.2.1 (F (F a 3) 0))) (aI (G.2.1 (F (F a 3) 1))))
    (rob : RO (vw (G.2.1 (F (F a 4) 0))) (aI (G.2.1 (F (F a 4) 1))))
    (ro0 : RO (vw (G.2.1 (F (F a 6) 0))) (aI (G.2.1 (F (F a 6) 1))))
    (bko : BKr K G (G.2.2.1 (F (F a 2) 1)))
    (bkn : BKr K G (G.2.2.1 (F (F a 2) 0)))
    (rok : ∀ (i q : Nat), i < 8 → G.2.2.1 (F a 7) i = some q → RO (vw (G.2.1 (F q 0))) (aI (G.2.1 (F q 1))))
    (hs19 : F q19 99 = 4 + (p0.toInt).toNat ∧ G4.2.2.1 (F a 7) (p0.toInt).toNat = some q19)
    (oq41 : qL G41 F (F a 9) = gaL G4 (G4.2.2.1 (F (F a 2) 1)) (vw (G.2.1 (F (F a 6) 0))) (vw (G.2.1 (F q19 0))) (2 : Int) (((G.1 (F a 2) 2).toInt)).toNat)
    (oq48 : ∀ j : Int, 0 ≤ j → j < ((G41.1 (F a 9) 6).toInt) → (x48.toInt = -1 ∨ j < x48.toInt) → aI (G41.2.1 (F (F a 9) 5)) j = 0)
    (sb : 0 ≤ ((G.1 (F a 2) 2).toInt) ∧ ((G.1 (F a 2) 2).toInt) ≤ 12)
    (sw : 0 ≤ ((G.1 (F a 8) 6).toInt) ∧ ((G.1 (F a 8) 6).toInt) ≤ 1080)
    (t4 : ((G4.1 (F a 14) 1).toInt) = 0)
    (f88 : ((G.1 a 18).toInt) = 0 ∨ ((G.1 a 18).toInt) = 1)
    (c11 : ((G.1 a 18).toInt) ≠ 0)
    (ht19 : 0 ≤ p0.toInt ∧ p0.toInt < ((G.1 a 17).toInt) ∧ p0.toInt < 8)
    (t41 : 0 ≤ ((G41.1 (F a 9) 6).toInt) ∧ ((G41.1 (F a 9) 6).toInt) ≤ 1080)
    (t48 : x48.toInt = -1 ∨ (0 ≤ x48.toInt ∧ x48.toInt < ((G41.1 (F a 9) 6).toInt) ∧ (aI (G41.2.1 (F (F a 9) 5)) (x48.toInt)) = 1))
    (c54 : x48.toInt = (-1 : Int))
    (c_G4_F_q19_0 : G4.2.1 (F q19 0) = G.2.1 (F q19 0))
    (c_G4_F_q19_1 : G4.2.1 (F q19 1) = G.2.1 (F q19 1))
    (c_G41_F_F_a_3_0 : G41.2.1 (F (F a 3) 0) = G.2.1 (F (F a 3) 0))
    (c_G41_F_F_a_3_1 : G41.2.1 (F (F a 3) 1) = G.2.1 (F (F a 3) 1))
    (c_G41_F_F_a_8_0 : G41.2.1 (F (F a 8) 0) = G.2.1 (F (F a 8) 0))
    (c_G41_F_F_a_8_1 : G41.2.1 (F (F a 8) 1) = G.2.1 (F (F a 8) 1))
    (c_G41_F_F_a_8_2 : G41.2.1 (F (F a 8) 2) = G.2.1 (F (F a 8) 2))
    (c_G41_F_F_a_8_3 : G41.2.1 (F (F a 8) 3) = G.2.1 (F (F a 8) 3))
    (c_G41_F_F_a_8_4 : G41.2.1 (F (F a 8) 4) = G.2.1 (F (F a 8) 4))
    (c_G41_F_F_a_8_5 : G41.2.1 (F (F a 8) 5) = G.2.1 (F (F a 8) 5))
    (c_G41_F_a_15 : G41.2.1 (F a 15) = G.2.1 (F a 15))
    (r_G4_F_F_a_2_1 : G4.2.2.1 (F (F a 2) 1) = G.2.2.1 (F (F a 2) 1))
    (r_G4_F_a_7 : G4.2.2.1 (F a 7) = G.2.2.1 (F a 7))
    (d_G41_F_a_14_1 : G41.1 (F a 14) 1 = G4.1 (F a 14) 1)
    (d_G41_F_a_14_2 : G41.1 (F a 14) 2 = G.1 (F a 14) 2)
    (d_G41_F_a_14_3 : G41.1 (F a 14) 3 = G.1 (F a 14) 3)
    (d_G41_F_a_8_6 : G41.1 (F a 8) 6 = G.1 (F a 8) 6)
    (d_G41_a_17 : G41.1 a 17 = G.1 a 17) :
    F (F a 3) 99 < 12 := by
  first | assumption | omega
theorem v_X10_back_80_12 {K : Nat → Nat} {F : Nat → Nat → Nat} (a : Nat) (q19 : Nat) (p0 : Int32) (G : XG) (G41 : XG) (G4 : XG) (x48 : Int32)
    (ha : K a = 12)
    (hk9999 : K (F a 14) = 11)
    (hj9999 : F (F a 14) 99 = 0)
    (hk9999a : K (F a 11) = 3)
    (hj9999a : F (F a 11) 99 = 0)
    (hk9999b : K (F a 9) = 6)
    (hj9999b : F (F a 9) 99 = 1)
    (hk9999c : K (F a 8) = 6)
    (hj9999c : F (F a 8) 99 = 0)
    (hk9999d : K (F a 15) = 26)
    (hj9999d : F (F a 15) 99 = 0)
    (hk9999e : K (F (F a 11) 0) = 21)
    (hj9999e : F (F (F a 11) 0) 99 = 100)
    (hk9999f : K (F (F a 11) 1) = 21)
    (hj9999f : F (F (F a 11) 1) 99 = 101)
    (hk9999g : K (F (F a 11) 2) = 24)
    (hj9999g : F (F (F a 11) 2) 99 = 4)
    (hk9999h : K (F (F a 9) 0) = 22)
    (hj9999i : F (F (F a 9) 0) 99 = 10 * 1 + 0)
    (hk9999i : K (F (F a 9) 1) = 22)
    (hj9999k : F (F (F a 9) 1) 99 = 10 * 1 + 1)
    (hk9999j : K (F (F a 9) 2) = 22)
    (hj9999m : F (F (F a 9) 2) 99 = 10 * 1 + 2)
    (hk9999k : K (F (F a 9) 3) = 22)
    (hj9999o : F (F (F a 9) 3) 99 = 10 * 1 + 3)
    (hk9999l : K (F (F a 9) 4) = 23)
    (hj9999q : F (F (F a 9) 4) 99 = 10 * 1 + 4)
    (hk9999m : K (F (F a 9) 5) = 23)
    (hj9999s : F (F (F a 9) 5) 99 = 10 * 1 + 5)
    (hk9999n : K (F a 3) = 8)
    (hj9999t : F (F a 3) 99 = 0)
    (hk9999o : K (F (F a 3) 0) = 20)
    (hj9999v : F (F (F a 3) 0) 99 = 0)
    (hk9999p : K (F (F a 3) 1) = 21)
    (hj9999y : F (F (F a 3) 1) 99 = 0)
    (hk9999q : K (F (F a 8) 0) = 22)
    (hj9999z26 : F (F (F a 8) 0) 99 = 10 * 0 + 0)
    (hk9999r : K (F (F a 8) 1) = 22)
    (hj9999z28 : F (F (F a 8) 1) 99 = 10 * 0 + 1)
    (hk9999s : K (F (F a 8) 2) = 22)
    (hj9999z30 : F (F (F a 8) 2) 99 = 10 * 0 + 2)
    (hk9999t : K (F (F a 8) 3) = 22)
    (hj9999z32 : F (F (F a 8) 3) 99 = 10 * 0 + 3)
    (hk9999u : K (F (F a 8) 4) = 23)
    (hj9999z34 : F (F (F a 8) 4) 99 = 10 * 0 + 4)
    (hk9999v : K (F (F a 8) 5) = 23)
    (hj9999z36 : F (F (F a 8) 5) 99 = 10 * 0 + 5)
    (hk9999w : K (F a 2) = 2)
    (hj9999z37 : F (F a 2) 99 = 0)
    (hk9999y : K (F (F a 2) 1) = 15)
    (hj9999z38 : F (F (F a 2) 1) 99 = 1)
    (hk9999z25 : K (F (F a 2) 0) = 15)
    (hj9999z39 : F (F (F a 2) 0) 99 = 0)
    (hk9999z26 : K (F a 4) = 8)
    (hj9999z40 : F (F a 4) 99 = 1)
    (hk9999z27 : K (F (F a 4) 0) = 20)
    (hj9999z42 : F (F (F a 4) 0) 99 = 1)
    (hk9999z28 : K (F (F a 4) 1) = 21)
    (hj9999z44 : F (F (F a 4) 1) 99 = 1)
    (hk9999z29 : K (F a 6) = 8)
    (hj9999z45 : F (F a 6) 99 = 3)
    (hk9999z30 : K (F (F a 6) 0) = 20)
    (hj9999z47 : F (F (F a 6) 0) 99 = 3)
    (hk9999z31 : K (F (F a 6) 1) = 21)
    (hj9999z49 : F (F (F a 6) 1) 99 = 3)
    (hk9999z32 : K (F a 7) = 16)
    (hj9999z50 : F (F a 7) 99 = 0)
    (hk19 : K q19 = 8)
    (f68 : F q19 99 = 4 + (p0.toInt).toNat)
    (hk30 : K (F q19 0) = 20)
    (hj30a : F (F q19 0) 99 = 4 + (p0.toInt).toNat)
    (hk30a : K (F q19 1) = 21)
    (hj30c : F (F q19 1) 99 = 4 + (p0.toInt).toNat)
    (hfr : XFr [(F a 14, 1), (F a 14, 2), (F a 14, 3), (a, 17), (F a 11, 3), (F a 9, 6), (F a 8, 6)] [F a 15, F (F a 11) 0, F (F a 11) 1, F (F a 11) 2, F (F a 9) 0, F (F a 9) 1, F (F a 9) 2, F (F a 9) 3, F (F a 9) 4, F (F a 9) 5, F (F a 3) 0, F (F a 3) 1, F (F a 8) 0, F (F a 8) 1, F (F a 8) 2, F (F a 8) 3, F (F a 8) 4, F (F a 8) 5] [] G G41)
    (hF4 : XFr [(F a 14, 1)] [] [] G G4)
    (hF41 : XFr [(F a 11, 3), (F a 9, 6)] [F (F a 11) 0, F (F a 11) 1, F (F a 11) 2, F (F a 9) 0, F (F a 9) 1, F (F a 9) 2, F (F a 9) 3, F (F a 9) 4, F (F a 9) 5] [] G4 G41)
    (ron : RO (vw (G.2.1 (F (F a 3) 0))) (aI (G.2.1 (F (F a 3) 1))))
    (rob : RO (vw (G.2.1 (F (F a 4) 0))) (aI (G.2.1 (F (F a 4) 1))))
    (ro0 : RO (vw (G.2.1 (F (F a 6) 0))) (aI (G.2.1 (F (F a 6) 1))))
    (bko : BKr K G (G.2.2.1 (F (F a 2) 1)))
    (bkn : BKr K G (G.2.2.1 (F (F a 2) 0)))
    (rok : ∀ (i q : Nat), i < 8 → G.2.2.1 (F a 7) i = some q → RO (vw (G.2.1 (F q 0))) (aI (G.2.1 (F q 1))))
    (hs19 : F q19 99 = 4 + (p0.toInt).toNat ∧ G4.2.2.1 (F a 7) (p0.toInt).toNat = some q19)
    (oq41 : qL G41 F (F a 9) = gaL G4 (G4.2.2.1 (F (F a 2) 1)) (vw (G.2.1 (F (F a 6) 0))) (vw (G.2.1 (F q19 0))) (2 : Int) (((G.1 (F a 2) 2).toInt)).toNat)
    (oq48 : ∀ j : Int, 0 ≤ j → j < ((G41.1 (F a 9) 6).toInt) → (x48.toInt = -1 ∨ j < x48.toInt) → aI (G41.2.1 (F (F a 9) 5)) j = 0)
    (sb : 0 ≤ ((G.1 (F a 2) 2).toInt) ∧ ((G.1 (F a 2) 2).toInt) ≤ 12)
    (sw : 0 ≤ ((G.1 (F a 8) 6).toInt) ∧ ((G.1 (F a 8) 6).toInt) ≤ 1080)
    (t4 : ((G4.1 (F a 14) 1).toInt) = 0)
    (f88 : ((G.1 a 18).toInt) = 0 ∨ ((G.1 a 18).toInt) = 1)
    (c11 : ((G.1 a 18).toInt) ≠ 0)
    (ht19 : 0 ≤ p0.toInt ∧ p0.toInt < ((G.1 a 17).toInt) ∧ p0.toInt < 8)
    (t41 : 0 ≤ ((G41.1 (F a 9) 6).toInt) ∧ ((G41.1 (F a 9) 6).toInt) ≤ 1080)
    (t48 : x48.toInt = -1 ∨ (0 ≤ x48.toInt ∧ x48.toInt < ((G41.1 (F a 9) 6).toInt) ∧ (aI (G41.2.1 (F (F a 9) 5)) (x48.toInt)) = 1))
    (c54 : x48.toInt = (-1 : Int))
    (c_G4_F_q19_0 : G4.2.1 (F q19 0) = G.2.1 (F q19 0))
    (c_G4_F_q19_1 : G4.2.1 (F q19 1) = G.2.1 (F q19 1))
    (c_G41_F_F_a_3_0 : G41.2.1 (F (F a 3) 0) = G.2.1 (F (F a 3) 0))
    (c_G41_F_F_a_3_1 : G41.2.1 (F (F a 3) 1) = G.2.1 (F (F a 3) 1))
    (c_G41_F_F_a_8_0 : G41.2.1 (F (F a 8) 0) = G.2.1 (F (F a 8) 0))
    (c_G41_F_F_a_8_1 : G41.2.1 (F (F a 8) 1) = G.2.1 (F (F a 8) 1))
    (c_G41_F_F_a_8_2 : G41.2.1 (F (F a 8) 2) = G.2.1 (F (F a 8) 2))
    (c_G41_F_F_a_8_3 : G41.2.1 (F (F a 8) 3) = G.2.1 (F (F a 8) 3))
    (c_G41_F_F_a_8_4 : G41.2.1 (F (F a 8) 4) = G.2.1 (F (F a 8) 4))
    (c_G41_F_F_a_8_5 : G41.2.1 (F (F a 8) 5) = G.2.1 (F (F a 8) 5))
    (c_G41_F_a_15 : G41.2.1 (F a 15) = G.2.1 (F a 15))
    (r_G4_F_F_a_2_1 : G4.2.2.1 (F (F a 2) 1) = G.2.2.1 (F (F a 2) 1))
    (r_G4_F_a_7 : G4.2.2.1 (F a 7) = G.2.2.1 (F a 7))
    (d_G41_F_a_14_1 : G41.1 (F a 14) 1 = G4.1 (F a 14) 1)
    (d_G41_F_a_14_2 : G41.1 (F a 14) 2 = G.1 (F a 14) 2)
    (d_G41_F_a_14_3 : G41.1 (F a 14) 3 = G.1 (F a 14) 3)
    (d_G41_F_a_8_6 : G41.1 (F a 8) 6 = G.1 (F a 8) 6)
    (d_G41_a_17 : G41.1 a 17 = G.1 a 17) :
    F q19 99 < 12 := by
  first | assumption | omega
theorem v_X10_back_85_13 {F : Nat → Nat → Nat} (a : Nat) (G : XG) (G80 : XG)
    (ron : RO (vw (G.2.1 (F (F a 3) 0))) (aI (G.2.1 (F (F a 3) 1))))
    (rob : RO (vw (G.2.1 (F (F a 4) 0))) (aI (G.2.1 (F (F a 4) 1))))
    (ro0 : RO (vw (G.2.1 (F (F a 6) 0))) (aI (G.2.1 (F (F a 6) 1))))
    (c_G80_F_F_a_4_0 : G80.2.1 (F (F a 4) 0) = G.2.1 (F (F a 4) 0))
    (c_G80_F_F_a_4_1 : G80.2.1 (F (F a 4) 1) = G.2.1 (F (F a 4) 1)) :
    RO (vw (G80.2.1 (F (F a 4) 0))) (aI (G80.2.1 (F (F a 4) 1))) := by simp only [c_G80_F_F_a_4_0, c_G80_F_F_a_4_1]; assumption
theorem v_X10_back_85_14 {K : Nat → Nat} {F : Nat → Nat → Nat} (a : Nat) (q19 : Nat) (p0 : Int32) (G : XG) (G80 : XG) (G4 : XG) (G41 : XG) (x48 : Int32)
    (ha : K a = 12)
    (hk9999 : K (F a 14) = 11)
    (hj9999 : F (F a 14) 99 = 0)
    (hk9999a : K (F a 11) = 3)
    (hj9999a : F (F a 11) 99 = 0)
    (hk9999b : K (F a 9) = 6)
    (hj9999b : F (F a 9) 99 = 1)
    (hk9999c : K (F a 8) = 6)
    (hj9999c : F (F a 8) 99 = 0)
    (hk9999d : K (F a 15) = 26)
    (hj9999d : F (F a 15) 99 = 0)
    (hk9999e : K (F (F a 11) 0) = 21)
    (hj9999e : F (F (F a 11) 0) 99 = 100)
    (hk9999f : K (F (F a 11) 1) = 21)
    (hj9999f : F (F (F a 11) 1) 99 = 101)
    (hk9999g : K (F (F a 11) 2) = 24)
    (hj9999g : F (F (F a 11) 2) 99 = 4)
    (hk9999h : K (F (F a 9) 0) = 22)
    (hj9999i : F (F (F a 9) 0) 99 = 10 * 1 + 0)
    (hk9999i : K (F (F a 9) 1) = 22)
    (hj9999k : F (F (F a 9) 1) 99 = 10 * 1 + 1)
    (hk9999j : K (F (F a 9) 2) = 22)
    (hj9999m : F (F (F a 9) 2) 99 = 10 * 1 + 2)
    (hk9999k : K (F (F a 9) 3) = 22)
    (hj9999o : F (F (F a 9) 3) 99 = 10 * 1 + 3)
    (hk9999l : K (F (F a 9) 4) = 23)
    (hj9999q : F (F (F a 9) 4) 99 = 10 * 1 + 4)
    (hk9999m : K (F (F a 9) 5) = 23)
    (hj9999s : F (F (F a 9) 5) 99 = 10 * 1 + 5)
    (hk9999n : K (F a 3) = 8)
    (hj9999t : F (F a 3) 99 = 0)
    (hk9999o : K (F (F a 3) 0) = 20)
    (hj9999v : F (F (F a 3) 0) 99 = 0)
    (hk9999p : K (F (F a 3) 1) = 21)
    (hj9999y : F (F (F a 3) 1) 99 = 0)
    (hk9999q : K (F (F a 8) 0) = 22)
    (hj9999z26 : F (F (F a 8) 0) 99 = 10 * 0 + 0)
    (hk9999r : K (F (F a 8) 1) = 22)
    (hj9999z28 : F (F (F a 8) 1) 99 = 10 * 0 + 1)
    (hk9999s : K (F (F a 8) 2) = 22)
    (hj9999z30 : F (F (F a 8) 2) 99 = 10 * 0 + 2)
    (hk9999t : K (F (F a 8) 3) = 22)
    (hj9999z32 : F (F (F a 8) 3) 99 = 10 * 0 + 3)
    (hk9999u : K (F (F a 8) 4) = 23)
    (hj9999z34 : F (F (F a 8) 4) 99 = 10 * 0 + 4)
    (hk9999v : K (F (F a 8) 5) = 23)
    (hj9999z36 : F (F (F a 8) 5) 99 = 10 * 0 + 5)
    (hk9999w : K (F a 2) = 2)
    (hj9999z37 : F (F a 2) 99 = 0)
    (hk9999y : K (F (F a 2) 1) = 15)
    (hj9999z38 : F (F (F a 2) 1) 99 = 1)
    (hk9999z25 : K (F (F a 2) 0) = 15)
    (hj9999z39 : F (F (F a 2) 0) 99 = 0)
    (hk9999z26 : K (F a 4) = 8)
    (hj9999z40 : F (F a 4) 99 = 1)
    (hk9999z27 : K (F (F a 4) 0) = 20)
    (hj9999z42 : F (F (F a 4) 0) 99 = 1)
    (hk9999z28 : K (F (F a 4) 1) = 21)
    (hj9999z44 : F (F (F a 4) 1) 99 = 1)
    (hk9999z29 : K (F a 6) = 8)
    (hj9999z45 : F (F a 6) 99 = 3)
    (hk9999z30 : K (F (F a 6) 0) = 20)
    (hj9999z47 : F (F (F a 6) 0) 99 = 3)
    (hk9999z31 : K (F (F a 6) 1) = 21)
    (hj9999z49 : F (F (F a 6) 1) 99 = 3)
    (hk9999z32 : K (F a 7) = 16)
    (hj9999z50 : F (F a 7) 99 = 0)
    (hk19 : K q19 = 8)
    (f68 : F q19 99 = 4 + (p0.toInt).toNat)
    (hk30 : K (F q19 0) = 20)
    (hj30a : F (F q19 0) 99 = 4 + (p0.toInt).toNat)
    (hk30a : K (F q19 1) = 21)
    (hj30c : F (F q19 1) 99 = 4 + (p0.toInt).toNat)
    (hfr : XFr [(F a 14, 1), (F a 14, 2), (F a 14, 3), (a, 17), (F a 11, 3), (F a 9, 6), (F a 8, 6)] [F a 15, F (F a 11) 0, F (F a 11) 1, F (F a 11) 2, F (F a 9) 0, F (F a 9) 1, F (F a 9) 2, F (F a 9) 3, F (F a 9) 4, F (F a 9) 5, F (F a 3) 0, F (F a 3) 1, F (F a 8) 0, F (F a 8) 1, F (F a 8) 2, F (F a 8) 3, F (F a 8) 4, F (F a 8) 5] [] G G80)
    (bkn : BKr K G (G.2.2.1 (F (F a 2) 0)))
    (hs19 : F q19 99 = 4 + (p0.toInt).toNat ∧ G4.2.2.1 (F a 7) (p0.toInt).toNat = some q19)
    (sb : 0 ≤ ((G.1 (F a 2) 2).toInt) ∧ ((G.1 (F a 2) 2).toInt) ≤ 12)
    (sw : 0 ≤ ((G.1 (F a 8) 6).toInt) ∧ ((G.1 (F a 8) 6).toInt) ≤ 1080)
    (t4 : ((G4.1 (F a 14) 1).toInt) = 0)
    (f90 : ((G.1 a 18).toInt) = 0 ∨ ((G.1 a 18).toInt) = 1)
    (c11 : ((G.1 a 18).toInt) ≠ 0)
    (ht19 : 0 ≤ p0.toInt ∧ p0.toInt < ((G.1 a 17).toInt) ∧ p0.toInt < 8)
    (t41 : 0 ≤ ((G41.1 (F a 9) 6).toInt) ∧ ((G41.1 (F a 9) 6).toInt) ≤ 1080)
    (t48 : x48.toInt = -1 ∨ (0 ≤ x48.toInt ∧ x48.toInt < ((G41.1 (F a 9) 6).toInt) ∧ (aI (G41.2.1 (F (F a 9) 5)) (x48.toInt)) = 1))
    (c54 : x48.toInt = (-1 : Int))
    (t80 : 0 ≤ ((G80.1 (F a 9) 6).toInt) ∧ ((G80.1 (F a 9) 6).toInt) ≤ 1080)
    (r_G80_F_F_a_2_0 : G80.2.2.1 (F (F a 2) 0) = G.2.2.1 (F (F a 2) 0)) :
    BKr K G80 (G80.2.2.1 (F (F a 2) 0)) := by
  have hd : ∀ p, p ∈ [(F a 14, 1), (F a 14, 2), (F a 14, 3), (a, 17), (F a 11, 3), (F a 9, 6), (F a 8, 6)] → K p.1 ≠ 9 := (List.forall_mem_cons.mpr ⟨(show K (F a 14) ≠ 9 by omega), List.forall_mem_cons.mpr ⟨(show K (F a 14) ≠ 9 by omega), List.forall_mem_cons.mpr ⟨(show K (F a 14) ≠ 9 by omega), List.forall_mem_cons.mpr ⟨(show K (a) ≠ 9 by omega), List.forall_mem_cons.mpr ⟨(show K (F a 11) ≠ 9 by omega), List.forall_mem_cons.mpr ⟨(show K (F a 9) ≠ 9 by omega), List.forall_mem_cons.mpr ⟨(show K (F a 8) ≠ 9 by omega), fun _ h => by cases h⟩⟩⟩⟩⟩⟩⟩)
  rw [r_G80_F_F_a_2_0]
  exact bkn.fr hfr hd
theorem v_X10_back_93_15 {K : Nat → Nat} {F : Nat → Nat → Nat} (a : Nat) (q19 : Nat) (p0 : Int32) (G : XG) (G85 : XG) (G4 : XG) (G41 : XG) (G80 : XG) (x48 : Int32)
    (ha : K a = 12)
    (f68 : F q19 99 = 4 + (p0.toInt).toNat)
    (rok : ∀ (i q : Nat), i < 8 → G.2.2.1 (F a 7) i = some q → RO (vw (G.2.1 (F q 0))) (aI (G.2.1 (F q 1))))
    (hs19 : F q19 99 = 4 + (p0.toInt).toNat ∧ G4.2.2.1 (F a 7) (p0.toInt).toNat = some q19)
    (sb : 0 ≤ ((G.1 (F a 2) 2).toInt) ∧ ((G.1 (F a 2) 2).toInt) ≤ 12)
    (sw : 0 ≤ ((G.1 (F a 8) 6).toInt) ∧ ((G.1 (F a 8) 6).toInt) ≤ 1080)
    (t4 : ((G4.1 (F a 14) 1).toInt) = 0)
    (f91 : ((G.1 a 18).toInt) = 0 ∨ ((G.1 a 18).toInt) = 1)
    (c11 : ((G.1 a 18).toInt) ≠ 0)
    (ht19 : 0 ≤ p0.toInt ∧ p0.toInt < ((G.1 a 17).toInt) ∧ p0.toInt < 8)
    (t41 : 0 ≤ ((G41.1 (F a 9) 6).toInt) ∧ ((G41.1 (F a 9) 6).toInt) ≤ 1080)
    (t48 : x48.toInt = -1 ∨ (0 ≤ x48.toInt ∧ x48.toInt < ((G41.1 (F a 9) 6).toInt) ∧ (aI (G41.2.1 (F (F a 9) 5)) (x48.toInt)) = 1))
    (c54 : x48.toInt = (-1 : Int))
    (t80 : 0 ≤ ((G80.1 (F a 9) 6).toInt) ∧ ((G80.1 (F a 9) 6).toInt) ≤ 1080)
    (c_G4_F_q19_0 : G4.2.1 (F q19 0) = G.2.1 (F q19 0))
    (c_G4_F_q19_1 : G4.2.1 (F q19 1) = G.2.1 (F q19 1))
    (c_G85_F_q19_0 : G85.2.1 (F q19 0) = G.2.1 (F q19 0))
    (c_G85_F_q19_1 : G85.2.1 (F q19 1) = G.2.1 (F q19 1))
    (r_G4_F_a_7 : G4.2.2.1 (F a 7) = G.2.2.1 (F a 7)) :
    RO (vw (G85.2.1 (F q19 0))) (aI (G85.2.1 (F q19 1))) := by
  have hq7 : G.2.2.1 (F a 7) (p0.toInt).toNat = some q19 := by rw [← r_G4_F_a_7]; exact hs19.2
  have hr := rok (p0.toInt).toNat q19 (by omega) hq7
  first
    | (simp only [c_G4_F_q19_0, c_G4_F_q19_1]; exact hr)
    | (simp only [c_G41_F_q19_0, c_G41_F_q19_1]; exact hr)
    | (simp only [c_G85_F_q19_0, c_G85_F_q19_1]; exact hr)
theorem v_X10_back_117_16 {F : Nat → Nat → Nat} (a : Nat) (G : XG) (G100 : XG) (G93 : XG)
    (ron : RO (vw (G.2.1 (F (F a 3) 0))) (aI (G.2.1 (F (F a 3) 1))))
    (rob : RO (vw (G.2.1 (F (F a 4) 0))) (aI (G.2.1 (F (F a 4) 1))))
    (ro0 : RO (vw (G.2.1 (F (F a 6) 0))) (aI (G.2.1 (F (F a 6) 1))))
    (oq93a : RO (vw (G93.2.1 (F (F a 3) 0))) (aI (G93.2.1 (F (F a 3) 1))))
    (c_G100_F_F_a_4_0 : G100.2.1 (F (F a 4) 0) = G.2.1 (F (F a 4) 0))
    (c_G100_F_F_a_4_1 : G100.2.1 (F (F a 4) 1) = G.2.1 (F (F a 4) 1)) :
    RO (vw (G100.2.1 (F (F a 4) 0))) (aI (G100.2.1 (F (F a 4) 1))) := by simp only [c_G100_F_F_a_4_0, c_G100_F_F_a_4_1]; assumption
theorem v_X10_back_117_17 {F : Nat → Nat → Nat} (a : Nat) (G : XG) (G100 : XG) (G93 : XG)
    (ron : RO (vw (G.2.1 (F (F a 3) 0))) (aI (G.2.1 (F (F a 3) 1))))
    (rob : RO (vw (G.2.1 (F (F a 4) 0))) (aI (G.2.1 (F (F a 4) 1))))
    (ro0 : RO (vw (G.2.1 (F (F a 6) 0))) (aI (G.2.1 (F (F a 6) 1))))
    (oq93a : RO (vw (G93.2.1 (F (F a 3) 0))) (aI (G93.2.1 (F (F a 3) 1))))
    (c_G100_F_F_a_3_0 : G100.2.1 (F (F a 3) 0) = G93.2.1 (F (F a 3) 0))
    (c_G100_F_F_a_3_1 : G100.2.1 (F (F a 3) 1) = G93.2.1 (F (F a 3) 1)) :
    RO (vw (G100.2.1 (F (F a 3) 0))) (aI (G100.2.1 (F (F a 3) 1))) := by simp only [c_G100_F_F_a_3_0, c_G100_F_F_a_3_1]; assumption
theorem v_X10_back_117_18 {K : Nat → Nat} {F : Nat → Nat → Nat} (a : Nat) (q19 : Nat) (p0 : Int32) (G : XG) (G100 : XG) (G4 : XG) (G41 : XG) (G80 : XG) (x48 : Int32)
    (ha : K a = 12)
    (hk9999 : K (F a 14) = 11)
    (hj9999 : F (F a 14) 99 = 0)
    (hk9999a : K (F a 11) = 3)
    (hj9999a : F (F a 11) 99 = 0)
    (hk9999b : K (F a 9) = 6)
    (hj9999b : F (F a 9) 99 = 1)
    (hk9999c : K (F a 8) = 6)
    (hj9999c : F (F a 8) 99 = 0)
    (hk9999d : K (F a 15) = 26)
    (hj9999d : F (F a 15) 99 = 0)
    (hk9999e : K (F (F a 11) 0) = 21)
    (hj9999e : F (F (F a 11) 0) 99 = 100)
    (hk9999f : K (F (F a 11) 1) = 21)
    (hj9999f : F (F (F a 11) 1) 99 = 101)
    (hk9999g : K (F (F a 11) 2) = 24)
    (hj9999g : F (F (F a 11) 2) 99 = 4)
    (hk9999h : K (F (F a 9) 0) = 22)
    (hj9999i : F (F (F a 9) 0) 99 = 10 * 1 + 0)
    (hk9999i : K (F (F a 9) 1) = 22)
    (hj9999k : F (F (F a 9) 1) 99 = 10 * 1 + 1)
    (hk9999j : K (F (F a 9) 2) = 22)
    (hj9999m : F (F (F a 9) 2) 99 = 10 * 1 + 2)
    (hk9999k : K (F (F a 9) 3) = 22)
    (hj9999o : F (F (F a 9) 3) 99 = 10 * 1 + 3)
    (hk9999l : K (F (F a 9) 4) = 23)
    (hj9999q : F (F (F a 9) 4) 99 = 10 * 1 + 4)
    (hk9999m : K (F (F a 9) 5) = 23)
    (hj9999s : F (F (F a 9) 5) 99 = 10 * 1 + 5)
    (hk9999n : K (F a 3) = 8)
    (hj9999t : F (F a 3) 99 = 0)
    (hk9999o : K (F (F a 3) 0) = 20)
    (hj9999v : F (F (F a 3) 0) 99 = 0)
    (hk9999p : K (F (F a 3) 1) = 21)
    (hj9999y : F (F (F a 3) 1) 99 = 0)
    (hk9999q : K (F (F a 8) 0) = 22)
    (hj9999z26 : F (F (F a 8) 0) 99 = 10 * 0 + 0)
    (hk9999r : K (F (F a 8) 1) = 22)
    (hj9999z28 : F (F (F a 8) 1) 99 = 10 * 0 + 1)
    (hk9999s : K (F (F a 8) 2) = 22)
    (hj9999z30 : F (F (F a 8) 2) 99 = 10 * 0 + 2)
    (hk9999t : K (F (F a 8) 3) = 22)
    (hj9999z32 : F (F (F a 8) 3) 99 = 10 * 0 + 3)
    (hk9999u : K (F (F a 8) 4) = 23)
    (hj9999z34 : F (F (F a 8) 4) 99 = 10 * 0 + 4)
    (hk9999v : K (F (F a 8) 5) = 23)
    (hj9999z36 : F (F (F a 8) 5) 99 = 10 * 0 + 5)
    (hk9999w : K (F a 2) = 2)
    (hj9999z37 : F (F a 2) 99 = 0)
    (hk9999y : K (F (F a 2) 1) = 15)
    (hj9999z38 : F (F (F a 2) 1) 99 = 1)
    (hk9999z25 : K (F (F a 2) 0) = 15)
    (hj9999z39 : F (F (F a 2) 0) 99 = 0)
    (hk9999z26 : K (F a 4) = 8)
    (hj9999z40 : F (F a 4) 99 = 1)
    (hk9999z27 : K (F (F a 4) 0) = 20)
    (hj9999z42 : F (F (F a 4) 0) 99 = 1)
    (hk9999z28 : K (F (F a 4) 1) = 21)
    (hj9999z44 : F (F (F a 4) 1) 99 = 1)
    (hk9999z29 : K (F a 6) = 8)
    (hj9999z45 : F (F a 6) 99 = 3)
    (hk9999z30 : K (F (F a 6) 0) = 20)
    (hj9999z47 : F (F (F a 6) 0) 99 = 3)
    (hk9999z31 : K (F (F a 6) 1) = 21)
    (hj9999z49 : F (F (F a 6) 1) 99 = 3)
    (hk9999z32 : K (F a 7) = 16)
    (hj9999z50 : F (F a 7) 99 = 0)
    (hk19 : K q19 = 8)
    (f68 : F q19 99 = 4 + (p0.toInt).toNat)
    (hk30 : K (F q19 0) = 20)
    (hj30a : F (F q19 0) 99 = 4 + (p0.toInt).toNat)
    (hk30a : K (F q19 1) = 21)
    (hj30c : F (F q19 1) 99 = 4 + (p0.toInt).toNat)
    (hfr : XFr [(F a 14, 1), (F a 14, 2), (F a 14, 3), (a, 17), (F a 11, 3), (F a 9, 6), (F a 8, 6)] [F a 15, F (F a 11) 0, F (F a 11) 1, F (F a 11) 2, F (F a 9) 0, F (F a 9) 1, F (F a 9) 2, F (F a 9) 3, F (F a 9) 4, F (F a 9) 5, F (F a 3) 0, F (F a 3) 1, F (F a 8) 0, F (F a 8) 1, F (F a 8) 2, F (F a 8) 3, F (F a 8) 4, F (F a 8) 5] [] G G100)
    (bko : BKr K G (G.2.2.1 (F (F a 2) 1)))
    (hs19 : F q19 99 = 4 + (p0.toInt).toNat ∧ G4.2.2.1 (F a 7) (p0.toInt).toNat = some q19)
    (sb : 0 ≤ ((G.1 (F a 2) 2).toInt) ∧ ((G.1 (F a 2) 2).toInt) ≤ 12)
    (sw : 0 ≤ ((G.1 (F a 8) 6).toInt) ∧ ((G.1 (F a 8) 6).toInt) ≤ 1080)
    (t4 : ((G4.1 (F a 14) 1).toInt) = 0)
    (f96 : ((G.1 a 18).toInt) = 0 ∨ ((G.1 a 18).toInt) = 1)
    (c11 : ((G.1 a 18).toInt) ≠ 0)
    (ht19 : 0 ≤ p0.toInt ∧ p0.toInt < ((G.1 a 17).toInt) ∧ p0.toInt < 8)
    (t41 : 0 ≤ ((G41.1 (F a 9) 6).toInt) ∧ ((G41.1 (F a 9) 6).toInt) ≤ 1080)
    (t48 : x48.toInt = -1 ∨ (0 ≤ x48.toInt ∧ x48.toInt < ((G41.1 (F a 9) 6).toInt) ∧ (aI (G41.2.1 (F (F a 9) 5)) (x48.toInt)) = 1))
    (c54 : x48.toInt = (-1 : Int))
    (t80 : 0 ≤ ((G80.1 (F a 9) 6).toInt) ∧ ((G80.1 (F a 9) 6).toInt) ≤ 1080)
    (r_G100_F_F_a_2_1 : G100.2.2.1 (F (F a 2) 1) = G.2.2.1 (F (F a 2) 1))
    (r_G4_F_F_a_2_1 : G4.2.2.1 (F (F a 2) 1) = G.2.2.1 (F (F a 2) 1))
    (r_G41_F_F_a_2_1 : G41.2.2.1 (F (F a 2) 1) = G.2.2.1 (F (F a 2) 1)) :
    ∀ (i q : Nat), i < 12 → G100.2.2.1 (F (F a 2) 1) i = some q → RW (G100.1 q) := by
  have hd : ∀ p, p ∈ [(F a 14, 1), (F a 14, 2), (F a 14, 3), (a, 17), (F a 11, 3), (F a 9, 6), (F a 8, 6)] → K p.1 ≠ 9 := (List.forall_mem_cons.mpr ⟨(show K (F a 14) ≠ 9 by omega), List.forall_mem_cons.mpr ⟨(show K (F a 14) ≠ 9 by omega), List.forall_mem_cons.mpr ⟨(show K (F a 14) ≠ 9 by omega), List.forall_mem_cons.mpr ⟨(show K (a) ≠ 9 by omega), List.forall_mem_cons.mpr ⟨(show K (F a 11) ≠ 9 by omega), List.forall_mem_cons.mpr ⟨(show K (F a 9) ≠ 9 by omega), List.forall_mem_cons.mpr ⟨(show K (F a 8) ≠ 9 by omega), fun _ h => by cases h⟩⟩⟩⟩⟩⟩⟩)
  first
    | rw [r_G4_F_F_a_2_1]; exact (bko.fr hfr hd).rw
    | rw [r_G41_F_F_a_2_1]; exact (bko.fr hfr hd).rw
    | rw [r_G100_F_F_a_2_1]; exact (bko.fr hfr hd).rw
theorem v_X10_back_117_19 {K : Nat → Nat} {F : Nat → Nat → Nat} (a : Nat) (q19 : Nat) (p0 : Int32) (G : XG) (G100 : XG) (G4 : XG) (G41 : XG) (G80 : XG) (G85 : XG) (G93 : XG) (x99 : Int32) (x48 : Int32)
    (ha : K a = 12)
    (hk9999 : K (F a 14) = 11)
    (hj9999 : F (F a 14) 99 = 0)
    (hk9999a : K (F a 11) = 3)
    (hj9999a : F (F a 11) 99 = 0)
    (hk9999b : K (F a 9) = 6)
    (hj9999b : F (F a 9) 99 = 1)
    (hk9999c : K (F a 8) = 6)
    (hj9999c : F (F a 8) 99 = 0)
    (hk9999d : K (F a 15) = 26)
    (hj9999d : F (F a 15) 99 = 0)
    (hk9999e : K (F (F a 11) 0) = 21)
    (hj9999e : F (F (F a 11) 0) 99 = 100)
    (hk9999f : K (F (F a 11) 1) = 21)
    (hj9999f : F (F (F a 11) 1) 99 = 101)
    (hk9999g : K (F (F a 11) 2) = 24)
    (hj9999g : F (F (F a 11) 2) 99 = 4)
    (hk9999h : K (F (F a 9) 0) = 22)
    (hj9999i : F (F (F a 9) 0) 99 = 10 * 1 + 0)
    (hk9999i : K (F (F a 9) 1) = 22)
    (hj9999k : F (F (F a 9) 1) 99 = 10 * 1 + 1)
    (hk9999j : K (F (F a 9) 2) = 22)
    (hj9999m : F (F (F a 9) 2) 99 = 10 * 1 + 2)
    (hk9999k : K (F (F a 9) 3) = 22)
    (hj9999o : F (F (F a 9) 3) 99 = 10 * 1 + 3)
    (hk9999l : K (F (F a 9) 4) = 23)
    (hj9999q : F (F (F a 9) 4) 99 = 10 * 1 + 4)
    (hk9999m : K (F (F a 9) 5) = 23)
    (hj9999s : F (F (F a 9) 5) 99 = 10 * 1 + 5)
    (hk9999n : K (F a 3) = 8)
    (hj9999t : F (F a 3) 99 = 0)
    (hk9999o : K (F (F a 3) 0) = 20)
    (hj9999v : F (F (F a 3) 0) 99 = 0)
    (hk9999p : K (F (F a 3) 1) = 21)
    (hj9999y : F (F (F a 3) 1) 99 = 0)
    (hk9999q : K (F (F a 8) 0) = 22)
    (hj9999z26 : F (F (F a 8) 0) 99 = 10 * 0 + 0)
    (hk9999r : K (F (F a 8) 1) = 22)
    (hj9999z28 : F (F (F a 8) 1) 99 = 10 * 0 + 1)
    (hk9999s : K (F (F a 8) 2) = 22)
    (hj9999z30 : F (F (F a 8) 2) 99 = 10 * 0 + 2)
    (hk9999t : K (F (F a 8) 3) = 22)
    (hj9999z32 : F (F (F a 8) 3) 99 = 10 * 0 + 3)
    (hk9999u : K (F (F a 8) 4) = 23)
    (hj9999z34 : F (F (F a 8) 4) 99 = 10 * 0 + 4)
    (hk9999v : K (F (F a 8) 5) = 23)
    (hj9999z36 : F (F (F a 8) 5) 99 = 10 * 0 + 5)
    (hk9999w : K (F a 2) = 2)
    (hj9999z37 : F (F a 2) 99 = 0)
    (hk9999y : K (F (F a 2) 1) = 15)
    (hj9999z38 : F (F (F a 2) 1) 99 = 1)
    (hk9999z25 : K (F (F a 2) 0) = 15)
    (hj9999z39 : F (F (F a 2) 0) 99 = 0)
    (hk9999z26 : K (F a 4) = 8)
    (hj9999z40 : F (F a 4) 99 = 1)
    (hk9999z27 : K (F (F a 4) 0) = 20)
    (hj9999z42 : F (F (F a 4) 0) 99 = 1)
    (hk9999z28 : K (F (F a 4) 1) = 21)
    (hj9999z44 : F (F (F a 4) 1) 99 = 1)
    (hk9999z29 : K (F a 6) = 8)
    (hj9999z45 : F (F a 6) 99 = 3)
    (hk9999z30 : K (F (F a 6) 0) = 20)
    (hj9999z47 : F (F (F a 6) 0) 99 = 3)
    (hk9999z31 : K (F (F a 6) 1) = 21)
    (hj9999z49 : F (F (F a 6) 1) 99 = 3)
    (hk9999z32 : K (F a 7) = 16)
    (hj9999z50 : F (F a 7) 99 = 0)
    (hk19 : K q19 = 8)
    (f68 : F q19 99 = 4 + (p0.toInt).toNat)
    (hk30 : K (F q19 0) = 20)
    (hj30a : F (F q19 0) 99 = 4 + (p0.toInt).toNat)
    (hk30a : K (F q19 1) = 21)
    (hj30c : F (F q19 1) 99 = 4 + (p0.toInt).toNat)
    (hfr : XFr [(F a 14, 1), (F a 14, 2), (F a 14, 3), (a, 17), (F a 11, 3), (F a 9, 6), (F a 8, 6)] [F a 15, F (F a 11) 0, F (F a 11) 1, F (F a 11) 2, F (F a 9) 0, F (F a 9) 1, F (F a 9) 2, F (F a 9) 3, F (F a 9) 4, F (F a 9) 5, F (F a 3) 0, F (F a 3) 1, F (F a 8) 0, F (F a 8) 1, F (F a 8) 2, F (F a 8) 3, F (F a 8) 4, F (F a 8) 5] [] G G100)
    (hF4 : XFr [(F a 14, 1)] [] [] G G4)
    (hF41 : XFr [(F a 11, 3), (F a 9, 6)] [F (F a 11) 0, F (F a 11) 1, F (F a 11) 2, F (F a 9) 0, F (F a 9) 1, F (F a 9) 2, F (F a 9) 3, F (F a 9) 4, F (F a 9) 5] [] G4 G41)
    (hF80 : XFr [(F a 11, 3), (F a 9, 6)] [F (F a 11) 0, F (F a 11) 1, F (F a 11) 2, F (F a 9) 0, F (F a 9) 1, F (F a 9) 2, F (F a 9) 3, F (F a 9) 4, F (F a 9) 5] [] G41 G80)
    (hF85 : XFr [] [F a 15] [] G80 G85)
    (hF93 : XFr [] [F (F a 3) 0, F (F a 3) 1] [] G85 G93)
    (hG100 : G100 = dput G93 a 17 x99)
    (ron : RO (vw (G.2.1 (F (F a 3) 0))) (aI (G.2.1 (F (F a 3) 1))))
    (rob : RO (vw (G.2.1 (F (F a 4) 0))) (aI (G.2.1 (F (F a 4) 1))))
    (ro0 : RO (vw (G.2.1 (F (F a 6) 0))) (aI (G.2.1 (F (F a 6) 1))))
    (bko : BKr K G (G.2.2.1 (F (F a 2) 1)))
    (bkn : BKr K G (G.2.2.1 (F (F a 2) 0)))
    (rok : ∀ (i q : Nat), i < 8 → G.2.2.1 (F a 7) i = some q → RO (vw (G.2.1 (F q 0))) (aI (G.2.1 (F q 1))))
    (hs19 : F q19 99 = 4 + (p0.toInt).toNat ∧ G4.2.2.1 (F a 7) (p0.toInt).toNat = some q19)
    (oq41 : qL G41 F (F a 9) = gaL G4 (G4.2.2.1 (F (F a 2) 1)) (vw (G.2.1 (F (F a 6) 0))) (vw (G.2.1 (F q19 0))) (2 : Int) (((G.1 (F a 2) 2).toInt)).toNat)
    (oq48 : ∀ j : Int, 0 ≤ j → j < ((G41.1 (F a 9) 6).toInt) → (x48.toInt = -1 ∨ j < x48.toInt) → aI (G41.2.1 (F (F a 9) 5)) j = 0)
    (oq80 : qL G80 F (F a 9) = gaL G41 (G41.2.2.1 (F (F a 2) 1)) (vw (G.2.1 (F (F a 3) 0))) (vw (G.2.1 (F q19 0))) (1 : Int) (((G.1 (F a 2) 2).toInt)).toNat)
    (oq93 : (vw (G93.2.1 (F (F a 3) 0))) = (vw (G.2.1 (F q19 0))))
    (oq93a : RO (vw (G93.2.1 (F (F a 3) 0))) (aI (G93.2.1 (F (F a 3) 1))))
    (e99 : x99.toInt = (p0.toInt + (1 : Int)))
    (sb : 0 ≤ ((G.1 (F a 2) 2).toInt) ∧ ((G.1 (F a 2) 2).toInt) ≤ 12)
    (sw : 0 ≤ ((G.1 (F a 8) 6).toInt) ∧ ((G.1 (F a 8) 6).toInt) ≤ 1080)
    (t4 : ((G4.1 (F a 14) 1).toInt) = 0)
    (f96 : ((G.1 a 18).toInt) = 0 ∨ ((G.1 a 18).toInt) = 1)
    (c11 : ((G.1 a 18).toInt) ≠ 0)
    (ht19 : 0 ≤ p0.toInt ∧ p0.toInt < ((G.1 a 17).toInt) ∧ p0.toInt < 8)
    (t41 : 0 ≤ ((G41.1 (F a 9) 6).toInt) ∧ ((G41.1 (F a 9) 6).toInt) ≤ 1080)
    (t48 : x48.toInt = -1 ∨ (0 ≤ x48.toInt ∧ x48.toInt < ((G41.1 (F a 9) 6).toInt) ∧ (aI (G41.2.1 (F (F a 9) 5)) (x48.toInt)) = 1))
    (c54 : x48.toInt = (-1 : Int))
    (t80 : 0 ≤ ((G80.1 (F a 9) 6).toInt) ∧ ((G80.1 (F a 9) 6).toInt) ≤ 1080)
    (c_G100_F_F_a_11_0 : G100.2.1 (F (F a 11) 0) = G80.2.1 (F (F a 11) 0))
    (c_G100_F_F_a_11_1 : G100.2.1 (F (F a 11) 1) = G80.2.1 (F (F a 11) 1))
    (c_G100_F_F_a_11_2 : G100.2.1 (F (F a 11) 2) = G80.2.1 (F (F a 11) 2))
    (c_G100_F_F_a_3_0 : G100.2.1 (F (F a 3) 0) = G93.2.1 (F (F a 3) 0))
    (c_G100_F_F_a_3_1 : G100.2.1 (F (F a 3) 1) = G93.2.1 (F (F a 3) 1))
    (c_G100_F_F_a_8_0 : G100.2.1 (F (F a 8) 0) = G.2.1 (F (F a 8) 0))
    (c_G100_F_F_a_8_1 : G100.2.1 (F (F a 8) 1) = G.2.1 (F (F a 8) 1))
    (c_G100_F_F_a_8_2 : G100.2.1 (F (F a 8) 2) = G.2.1 (F (F a 8) 2))
    (c_G100_F_F_a_8_3 : G100.2.1 (F (F a 8) 3) = G.2.1 (F (F a 8) 3))
    (c_G100_F_F_a_8_4 : G100.2.1 (F (F a 8) 4) = G.2.1 (F (F a 8) 4))
    (c_G100_F_F_a_8_5 : G100.2.1 (F (F a 8) 5) = G.2.1 (F (F a 8) 5))
    (c_G100_F_F_a_9_0 : G100.2.1 (F (F a 9) 0) = G80.2.1 (F (F a 9) 0))
    (c_G100_F_F_a_9_1 : G100.2.1 (F (F a 9) 1) = G80.2.1 (F (F a 9) 1))
    (c_G100_F_F_a_9_2 : G100.2.1 (F (F a 9) 2) = G80.2.1 (F (F a 9) 2))
    (c_G100_F_F_a_9_3 : G100.2.1 (F (F a 9) 3) = G80.2.1 (F (F a 9) 3))
    (c_G100_F_F_a_9_4 : G100.2.1 (F (F a 9) 4) = G80.2.1 (F (F a 9) 4))
    (c_G100_F_F_a_9_5 : G100.2.1 (F (F a 9) 5) = G80.2.1 (F (F a 9) 5))
    (c_G100_F_a_15 : G100.2.1 (F a 15) = G85.2.1 (F a 15))
    (c_G4_F_q19_0 : G4.2.1 (F q19 0) = G.2.1 (F q19 0))
    (c_G4_F_q19_1 : G4.2.1 (F q19 1) = G.2.1 (F q19 1))
    (r_G100_F_F_a_2_1 : G100.2.2.1 (F (F a 2) 1) = G.2.2.1 (F (F a 2) 1))
    (r_G4_F_F_a_2_1 : G4.2.2.1 (F (F a 2) 1) = G.2.2.1 (F (F a 2) 1))
    (r_G4_F_a_7 : G4.2.2.1 (F a 7) = G.2.2.1 (F a 7))
    (r_G41_F_F_a_2_1 : G41.2.2.1 (F (F a 2) 1) = G.2.2.1 (F (F a 2) 1))
    (d_G100_F_a_11_3 : G100.1 (F a 11) 3 = G80.1 (F a 11) 3)
    (d_G100_F_a_14_1 : G100.1 (F a 14) 1 = G4.1 (F a 14) 1)
    (d_G100_F_a_14_2 : G100.1 (F a 14) 2 = G.1 (F a 14) 2)
    (d_G100_F_a_14_3 : G100.1 (F a 14) 3 = G.1 (F a 14) 3)
    (d_G100_F_a_8_6 : G100.1 (F a 8) 6 = G.1 (F a 8) 6)
    (d_G100_F_a_9_6 : G100.1 (F a 9) 6 = G80.1 (F a 9) 6)
    (d_G100_a_17 : G100.1 a 17 = x99) :
    F (F a 4) 99 < 12 := by
  first | assumption | omega
theorem v_X10_back_117_20 {K : Nat → Nat} {F : Nat → Nat → Nat} (a : Nat) (q19 : Nat) (p0 : Int32) (G : XG) (G100 : XG) (G4 : XG) (G41 : XG) (G80 : XG) (G85 : XG) (G93 : XG) (x99 : Int32) (x48 : Int32)
    (ha : K a = 12)
    (hk9999 : K (F a 14) = 11)
    (hj9999 : F (F a 14) 99 = 0)
    (hk9999a : K (F a 11) = 3)
    (hj9999a : F (F a 11) 99 = 0)
    (hk9999b : K (F a 9) = 6)
    (hj9999b : F (F a 9) 99 = 1)
    (hk9999c : K (F a 8) = 6)
    (hj9999c : F (F a 8) 99 = 0)
    (hk9999d : K (F a 15) = 26)
    (hj9999d : F (F a 15) 99 = 0)
    (hk9999e : K (F (F a 11) 0) = 21)
    (hj9999e : F (F (F a 11) 0) 99 = 100)
    (hk9999f : K (F (F a 11) 1) = 21)
    (hj9999f : F (F (F a 11) 1) 99 = 101)
    (hk9999g : K (F (F a 11) 2) = 24)
    (hj9999g : F (F (F a 11) 2) 99 = 4)
    (hk9999h : K (F (F a 9) 0) = 22)
    (hj9999i : F (F (F a 9) 0) 99 = 10 * 1 + 0)
    (hk9999i : K (F (F a 9) 1) = 22)
    (hj9999k : F (F (F a 9) 1) 99 = 10 * 1 + 1)
    (hk9999j : K (F (F a 9) 2) = 22)
    (hj9999m : F (F (F a 9) 2) 99 = 10 * 1 + 2)
    (hk9999k : K (F (F a 9) 3) = 22)
    (hj9999o : F (F (F a 9) 3) 99 = 10 * 1 + 3)
    (hk9999l : K (F (F a 9) 4) = 23)
    (hj9999q : F (F (F a 9) 4) 99 = 10 * 1 + 4)
    (hk9999m : K (F (F a 9) 5) = 23)
    (hj9999s : F (F (F a 9) 5) 99 = 10 * 1 + 5)
    (hk9999n : K (F a 3) = 8)
    (hj9999t : F (F a 3) 99 = 0)
    (hk9999o : K (F (F a 3) 0) = 20)
    (hj9999v : F (F (F a 3) 0) 99 = 0)
    (hk9999p : K (F (F a 3) 1) = 21)
    (hj9999y : F (F (F a 3) 1) 99 = 0)
    (hk9999q : K (F (F a 8) 0) = 22)
    (hj9999z26 : F (F (F a 8) 0) 99 = 10 * 0 + 0)
    (hk9999r : K (F (F a 8) 1) = 22)
    (hj9999z28 : F (F (F a 8) 1) 99 = 10 * 0 + 1)
    (hk9999s : K (F (F a 8) 2) = 22)
    (hj9999z30 : F (F (F a 8) 2) 99 = 10 * 0 + 2)
    (hk9999t : K (F (F a 8) 3) = 22)
    (hj9999z32 : F (F (F a 8) 3) 99 = 10 * 0 + 3)
    (hk9999u : K (F (F a 8) 4) = 23)
    (hj9999z34 : F (F (F a 8) 4) 99 = 10 * 0 + 4)
    (hk9999v : K (F (F a 8) 5) = 23)
    (hj9999z36 : F (F (F a 8) 5) 99 = 10 * 0 + 5)
    (hk9999w : K (F a 2) = 2)
    (hj9999z37 : F (F a 2) 99 = 0)
    (hk9999y : K (F (F a 2) 1) = 15)
    (hj9999z38 : F (F (F a 2) 1) 99 = 1)
    (hk9999z25 : K (F (F a 2) 0) = 15)
    (hj9999z39 : F (F (F a 2) 0) 99 = 0)
    (hk9999z26 : K (F a 4) = 8)
    (hj9999z40 : F (F a 4) 99 = 1)
    (hk9999z27 : K (F (F a 4) 0) = 20)
    (hj9999z42 : F (F (F a 4) 0) 99 = 1)
    (hk9999z28 : K (F (F a 4) 1) = 21)
    (hj9999z44 : F (F (F a 4) 1) 99 = 1)
    (hk9999z29 : K (F a 6) = 8)
    (hj9999z45 : F (F a 6) 99 = 3)
    (hk9999z30 : K (F (F a 6) 0) = 20)
    (hj9999z47 : F (F (F a 6) 0) 99 = 3)
    (hk9999z31 : K (F (F a 6) 1) = 21)
    (hj9999z49 : F (F (F a 6) 1) 99 = 3)
    (hk9999z32 : K (F a 7) = 16)
    (hj9999z50 : F (F a 7) 99 = 0)
    (hk19 : K q19 = 8)
    (f68 : F q19 99 = 4 + (p0.toInt).toNat)
    (hk30 : K (F q19 0) = 20)
    (hj30a : F (F q19 0) 99 = 4 + (p0.toInt).toNat)
    (hk30a : K (F q19 1) = 21)
    (hj30c : F (F q19 1) 99 = 4 + (p0.toInt).toNat)
    (hfr : XFr [(F a 14, 1), (F a 14, 2), (F a 14, 3), (a, 17), (F a 11, 3), (F a 9, 6), (F a 8, 6)] [F a 15, F (F a 11) 0, F (F a 11) 1, F (F a 11) 2, F (F a 9) 0, F (F a 9) 1, F (F a 9) 2, F (F a 9) 3, F (F a 9) 4, F (F a 9) 5, F (F a 3) 0, F (F a 3) 1, F (F a 8) 0, F (F a 8) 1, F (F a 8) 2, F (F a 8) 3, F (F a 8) 4, F (F a 8) 5] [] G G100)
    (hF4 : XFr [(F a 14, 1)] [] [] G G4)
    (hF41 : XFr [(F a 11, 3), (F a 9, 6)] [F (F a 11) 0, F (F a 11) 1, F (F a 11) 2, F (F a 9) 0, F (F a 9) 1, F (F a 9) 2, F (F a 9) 3, F (F a 9) 4, F (F a 9) 5] [] G4 G41)
    (hF80 : XFr [(F a 11, 3), (F a 9, 6)] [F (F a 11) 0, F (F a 11) 1, F (F a 11) 2, F (F a 9) 0, F (F a 9) 1, F (F a 9) 2, F (F a 9) 3, F (F a 9) 4, F (F a 9) 5] [] G41 G80)
    (hF85 : XFr [] [F a 15] [] G80 G85)
    (hF93 : XFr [] [F (F a 3) 0, F (F a 3) 1] [] G85 G93)
    (hG100 : G100 = dput G93 a 17 x99)
    (ron : RO (vw (G.2.1 (F (F a 3) 0))) (aI (G.2.1 (F (F a 3) 1))))
    (rob : RO (vw (G.2.1 (F (F a 4) 0))) (aI (G.2.1 (F (F a 4) 1))))
    (ro0 : RO (vw (G.2.1 (F (F a 6) 0))) (aI (G.2.1 (F (F a 6) 1))))
    (bko : BKr K G (G.2.2.1 (F (F a 2) 1)))
    (bkn : BKr K G (G.2.2.1 (F (F a 2) 0)))
    (rok : ∀ (i q : Nat), i < 8 → G.2.2.1 (F a 7) i = some q → RO (vw (G.2.1 (F q 0))) (aI (G.2.1 (F q 1))))
    (hs19 : F q19 99 = 4 + (p0.toInt).toNat ∧ G4.2.2.1 (F a 7) (p0.toInt).toNat = some q19)
    (oq41 : qL G41 F (F a 9) = gaL G4 (G4.2.2.1 (F (F a 2) 1)) (vw (G.2.1 (F (F a 6) 0))) (vw (G.2.1 (F q19 0))) (2 : Int) (((G.1 (F a 2) 2).toInt)).toNat)
    (oq48 : ∀ j : Int, 0 ≤ j → j < ((G41.1 (F a 9) 6).toInt) → (x48.toInt = -1 ∨ j < x48.toInt) → aI (G41.2.1 (F (F a 9) 5)) j = 0)
    (oq80 : qL G80 F (F a 9) = gaL G41 (G41.2.2.1 (F (F a 2) 1)) (vw (G.2.1 (F (F a 3) 0))) (vw (G.2.1 (F q19 0))) (1 : Int) (((G.1 (F a 2) 2).toInt)).toNat)
    (oq93 : (vw (G93.2.1 (F (F a 3) 0))) = (vw (G.2.1 (F q19 0))))
    (oq93a : RO (vw (G93.2.1 (F (F a 3) 0))) (aI (G93.2.1 (F (F a 3) 1))))
    (e99 : x99.toInt = (p0.toInt + (1 : Int)))
    (sb : 0 ≤ ((G.1 (F a 2) 2).toInt) ∧ ((G.1 (F a 2) 2).toInt) ≤ 12)
    (sw : 0 ≤ ((G.1 (F a 8) 6).toInt) ∧ ((G.1 (F a 8) 6).toInt) ≤ 1080)
    (t4 : ((G4.1 (F a 14) 1).toInt) = 0)
    (f96 : ((G.1 a 18).toInt) = 0 ∨ ((G.1 a 18).toInt) = 1)
    (c11 : ((G.1 a 18).toInt) ≠ 0)
    (ht19 : 0 ≤ p0.toInt ∧ p0.toInt < ((G.1 a 17).toInt) ∧ p0.toInt < 8)
    (t41 : 0 ≤ ((G41.1 (F a 9) 6).toInt) ∧ ((G41.1 (F a 9) 6).toInt) ≤ 1080)
    (t48 : x48.toInt = -1 ∨ (0 ≤ x48.toInt ∧ x48.toInt < ((G41.1 (F a 9) 6).toInt) ∧ (aI (G41.2.1 (F (F a 9) 5)) (x48.toInt)) = 1))
    (c54 : x48.toInt = (-1 : Int))
    (t80 : 0 ≤ ((G80.1 (F a 9) 6).toInt) ∧ ((G80.1 (F a 9) 6).toInt) ≤ 1080)
    (c_G100_F_F_a_11_0 : G100.2.1 (F (F a 11) 0) = G80.2.1 (F (F a 11) 0))
    (c_G100_F_F_a_11_1 : G100.2.1 (F (F a 11) 1) = G80.2.1 (F (F a 11) 1))
    (c_G100_F_F_a_11_2 : G100.2.1 (F (F a 11) 2) = G80.2.1 (F (F a 11) 2))
    (c_G100_F_F_a_3_0 : G100.2.1 (F (F a 3) 0) = G93.2.1 (F (F a 3) 0))
    (c_G100_F_F_a_3_1 : G100.2.1 (F (F a 3) 1) = G93.2.1 (F (F a 3) 1))
    (c_G100_F_F_a_8_0 : G100.2.1 (F (F a 8) 0) = G.2.1 (F (F a 8) 0))
    (c_G100_F_F_a_8_1 : G100.2.1 (F (F a 8) 1) = G.2.1 (F (F a 8) 1))
    (c_G100_F_F_a_8_2 : G100.2.1 (F (F a 8) 2) = G.2.1 (F (F a 8) 2))
    (c_G100_F_F_a_8_3 : G100.2.1 (F (F a 8) 3) = G.2.1 (F (F a 8) 3))
    (c_G100_F_F_a_8_4 : G100.2.1 (F (F a 8) 4) = G.2.1 (F (F a 8) 4))
    (c_G100_F_F_a_8_5 : G100.2.1 (F (F a 8) 5) = G.2.1 (F (F a 8) 5))
    (c_G100_F_F_a_9_0 : G100.2.1 (F (F a 9) 0) = G80.2.1 (F (F a 9) 0))
    (c_G100_F_F_a_9_1 : G100.2.1 (F (F a 9) 1) = G80.2.1 (F (F a 9) 1))
    (c_G100_F_F_a_9_2 : G100.2.1 (F (F a 9) 2) = G80.2.1 (F (F a 9) 2))
    (c_G100_F_F_a_9_3 : G100.2.1 (F (F a 9) 3) = G80.2.1 (F (F a 9) 3))
    (c_G100_F_F_a_9_4 : G100.2.1 (F (F a 9) 4) = G80.2.1 (F (F a 9) 4))
    (c_G100_F_F_a_9_5 : G100.2.1 (F (F a 9) 5) = G80.2.1 (F (F a 9) 5))
    (c_G100_F_a_15 : G100.2.1 (F a 15) = G85.2.1 (F a 15))
    (c_G4_F_q19_0 : G4.2.1 (F q19 0) = G.2.1 (F q19 0))
    (c_G4_F_q19_1 : G4.2.1 (F q19 1) = G.2.1 (F q19 1))
    (r_G100_F_F_a_2_1 : G100.2.2.1 (F (F a 2) 1) = G.2.2.1 (F (F a 2) 1))
    (r_G4_F_F_a_2_1 : G4.2.2.1 (F (F a 2) 1) = G.2.2.1 (F (F a 2) 1))
    (r_G4_F_a_7 : G4.2.2.1 (F a 7) = G.2.2.1 (F a 7))
    (r_G41_F_F_a_2_1 : G41.2.2.1 (F (F a 2) 1) = G.2.2.1 (F (F a 2) 1))
    (d_G100_F_a_11_3 : G100.1 (F a 11) 3 = G80.1 (F a 11) 3)
    (d_G100_F_a_14_1 : G100.1 (F a 14) 1 = G4.1 (F a 14) 1)
    (d_G100_F_a_14_2 : G100.1 (F a 14) 2 = G.1 (F a 14) 2)
    (d_G100_F_a_14_3 : G100.1 (F a 14) 3 = G.1 (F a 14) 3)
    (d_G100_F_a_8_6 : G100.1 (F a 8) 6 = G.1 (F a 8) 6)
    (d_G100_F_a_9_6 : G100.1 (F a 9) 6 = G80.1 (F a 9) 6)
    (d_G100_a_17 : G100.1 a 17 = x99) :
    F (F a 3) 99 < 12 := by
  first | assumption | omega
theorem v_X10_back_127_21 {K : Nat → Nat} {F : Nat → Nat → Nat} (a : Nat) (q19 : Nat) (p0 : Int32) (G : XG) (G117 : XG) (G4 : XG) (G41 : XG) (G80 : XG) (G93 : XG) (G100 : XG) (x99 : Int32) (x48 : Int32)
    (ha : K a = 12)
    (hk9999 : K (F a 14) = 11)
    (hj9999 : F (F a 14) 99 = 0)
    (hk9999a : K (F a 11) = 3)
    (hj9999a : F (F a 11) 99 = 0)
    (hk9999b : K (F a 9) = 6)
    (hj9999b : F (F a 9) 99 = 1)
    (hk9999c : K (F a 8) = 6)
    (hj9999c : F (F a 8) 99 = 0)
    (hk9999d : K (F a 15) = 26)
    (hj9999d : F (F a 15) 99 = 0)
    (hk9999e : K (F (F a 11) 0) = 21)
    (hj9999e : F (F (F a 11) 0) 99 = 100)
    (hk9999f : K (F (F a 11) 1) = 21)
    (hj9999f : F (F (F a 11) 1) 99 = 101)
    (hk9999g : K (F (F a 11) 2) = 24)
    (hj9999g : F (F (F a 11) 2) 99 = 4)
    (hk9999h : K (F (F a 9) 0) = 22)
    (hj9999i : F (F (F a 9) 0) 99 = 10 * 1 + 0)
    (hk9999i : K (F (F a 9) 1) = 22)
    (hj9999k : F (F (F a 9) 1) 99 = 10 * 1 + 1)
    (hk9999j : K (F (F a 9) 2) = 22)
    (hj9999m : F (F (F a 9) 2) 99 = 10 * 1 + 2)
    (hk9999k : K (F (F a 9) 3) = 22)
    (hj9999o : F (F (F a 9) 3) 99 = 10 * 1 + 3)
    (hk9999l : K (F (F a 9) 4) = 23)
    (hj9999q : F (F (F a 9) 4) 99 = 10 * 1 + 4)
    (hk9999m : K (F (F a 9) 5) = 23)
    (hj9999s : F (F (F a 9) 5) 99 = 10 * 1 + 5)
    (hk9999n : K (F a 3) = 8)
    (hj9999t : F (F a 3) 99 = 0)
    (hk9999o : K (F (F a 3) 0) = 20)
    (hj9999v : F (F (F a 3) 0) 99 = 0)
    (hk9999p : K (F (F a 3) 1) = 21)
    (hj9999y : F (F (F a 3) 1) 99 = 0)
    (hk9999q : K (F (F a 8) 0) = 22)
    (hj9999z26 : F (F (F a 8) 0) 99 = 10 * 0 + 0)
    (hk9999r : K (F (F a 8) 1) = 22)
    (hj9999z28 : F (F (F a 8) 1) 99 = 10 * 0 + 1)
    (hk9999s : K (F (F a 8) 2) = 22)
    (hj9999z30 : F (F (F a 8) 2) 99 = 10 * 0 + 2)
    (hk9999t : K (F (F a 8) 3) = 22)
    (hj9999z32 : F (F (F a 8) 3) 99 = 10 * 0 + 3)
    (hk9999u : K (F (F a 8) 4) = 23)
    (hj9999z34 : F (F (F a 8) 4) 99 = 10 * 0 + 4)
    (hk9999v : K (F (F a 8) 5) = 23)
    (hj9999z36 : F (F (F a 8) 5) 99 = 10 * 0 + 5)
    (hk9999w : K (F a 2) = 2)
    (hj9999z37 : F (F a 2) 99 = 0)
    (hk9999y : K (F (F a 2) 1) = 15)
    (hj9999z38 : F (F (F a 2) 1) 99 = 1)
    (hk9999z25 : K (F (F a 2) 0) = 15)
    (hj9999z39 : F (F (F a 2) 0) 99 = 0)
    (hk9999z26 : K (F a 4) = 8)
    (hj9999z40 : F (F a 4) 99 = 1)
    (hk9999z27 : K (F (F a 4) 0) = 20)
    (hj9999z42 : F (F (F a 4) 0) 99 = 1)
    (hk9999z28 : K (F (F a 4) 1) = 21)
    (hj9999z44 : F (F (F a 4) 1) 99 = 1)
    (hk9999z29 : K (F a 6) = 8)
    (hj9999z45 : F (F a 6) 99 = 3)
    (hk9999z30 : K (F (F a 6) 0) = 20)
    (hj9999z47 : F (F (F a 6) 0) 99 = 3)
    (hk9999z31 : K (F (F a 6) 1) = 21)
    (hj9999z49 : F (F (F a 6) 1) 99 = 3)
    (hk9999z32 : K (F a 7) = 16)
    (hj9999z50 : F (F a 7) 99 = 0)
    (hk19 : K q19 = 8)
    (f68 : F q19 99 = 4 + (p0.toInt).toNat)
    (hk30 : K (F q19 0) = 20)
    (hj30a : F (F q19 0) 99 = 4 + (p0.toInt).toNat)
    (hk30a : K (F q19 1) = 21)
    (hj30c : F (F q19 1) 99 = 4 + (p0.toInt).toNat)
    (hfr : XFr [(F a 14, 1), (F a 14, 2), (F a 14, 3), (a, 17), (F a 11, 3), (F a 9, 6), (F a 8, 6)] [F a 15, F (F a 11) 0, F (F a 11) 1, F (F a 11) 2, F (F a 9) 0, F (F a 9) 1, F (F a 9) 2, F (F a 9) 3, F (F a 9) 4, F (F a 9) 5, F (F a 3) 0, F (F a 3) 1, F (F a 8) 0, F (F a 8) 1, F (F a 8) 2, F (F a 8) 3, F (F a 8) 4, F (F a 8) 5] [] G G117)
    (hF4 : XFr [(F a 14, 1)] [] [] G G4)
    (hF117 : XFr [(F a 11, 3), (F a 8, 6)] [F (F a 11) 0, F (F a 11) 1, F (F a 11) 2, F (F a 8) 0, F (F a 8) 1, F (F a 8) 2, F (F a 8) 3, F (F a 8) 4, F (F a 8) 5] [] G100 G117)
    (bko : BKr K G (G.2.2.1 (F (F a 2) 1)))
    (hs19 : F q19 99 = 4 + (p0.toInt).toNat ∧ G4.2.2.1 (F a 7) (p0.toInt).toNat = some q19)
    (oq41 : qL G41 F (F a 9) = gaL G4 (G4.2.2.1 (F (F a 2) 1)) (vw (G.2.1 (F (F a 6) 0))) (vw (G.2.1 (F q19 0))) (2 : Int) (((G.1 (F a 2) 2).toInt)).toNat)
    (oq48 : ∀ j : Int, 0 ≤ j → j < ((G41.1 (F a 9) 6).toInt) → (x48.toInt = -1 ∨ j < x48.toInt) → aI (G41.2.1 (F (F a 9) 5)) j = 0)
    (oq93 : (vw (G93.2.1 (F (F a 3) 0))) = (vw (G.2.1 (F q19 0))))
    (e99 : x99.toInt = (p0.toInt + (1 : Int)))
    (oq117 : qL G117 F (F a 8) = gaL G100 (G100.2.2.1 (F (F a 2) 1)) (vw (G.2.1 (F (F a 4) 0))) (vw (G93.2.1 (F (F a 3) 0))) (1 : Int) (((G.1 (F a 2) 2).toInt)).toNat)
    (sb : 0 ≤ ((G.1 (F a 2) 2).toInt) ∧ ((G.1 (F a 2) 2).toInt) ≤ 12)
    (sw : 0 ≤ ((G.1 (F a 8) 6).toInt) ∧ ((G.1 (F a 8) 6).toInt) ≤ 1080)
    (t4 : ((G4.1 (F a 14) 1).toInt) = 0)
    (f99 : ((G.1 a 18).toInt) = 0 ∨ ((G.1 a 18).toInt) = 1)
    (c11 : ((G.1 a 18).toInt) ≠ 0)
    (ht19 : 0 ≤ p0.toInt ∧ p0.toInt < ((G.1 a 17).toInt) ∧ p0.toInt < 8)
    (t41 : 0 ≤ ((G41.1 (F a 9) 6).toInt) ∧ ((G41.1 (F a 9) 6).toInt) ≤ 1080)
    (t48 : x48.toInt = -1 ∨ (0 ≤ x48.toInt ∧ x48.toInt < ((G41.1 (F a 9) 6).toInt) ∧ (aI (G41.2.1 (F (F a 9) 5)) (x48.toInt)) = 1))
    (c54 : x48.toInt = (-1 : Int))
    (t80 : 0 ≤ ((G80.1 (F a 9) 6).toInt) ∧ ((G80.1 (F a 9) 6).toInt) ≤ 1080)
    (t117 : 0 ≤ ((G117.1 (F a 8) 6).toInt) ∧ ((G117.1 (F a 8) 6).toInt) ≤ 1080)
    (c_G117_F_F_a_3_0 : G117.2.1 (F (F a 3) 0) = G93.2.1 (F (F a 3) 0))
    (r_G100_F_F_a_2_1 : G100.2.2.1 (F (F a 2) 1) = G.2.2.1 (F (F a 2) 1))
    (r_G4_F_F_a_2_1 : G4.2.2.1 (F (F a 2) 1) = G.2.2.1 (F (F a 2) 1))
    (r_G4_F_a_7 : G4.2.2.1 (F a 7) = G.2.2.1 (F a 7))
    (d_G117_a_17 : G117.1 a 17 = x99) :
    (((G.1 a 18).toInt) = 0 ∧ ((G117.1 (F a 8) 6).toInt) = -3 ∧ ((vw (G117.2.1 (F (F a 3) 0))) = (vw (G.2.1 (F (F a 3) 0))) ∧ qL G117 F (F a 8) = qL G F (F a 8)) ∧ ((G117.1 a 17).toInt) = ((G.1 a 17).toInt)) ∨ (((G.1 a 18).toInt) ≠ 0 ∧ (p0.toInt < 0 ∨ ((G.1 a 17).toInt) ≤ p0.toInt ∨ 8 ≤ p0.toInt) ∧ ((G117.1 (F a 8) 6).toInt) = -2 ∧ ((vw (G117.2.1 (F (F a 3) 0))) = (vw (G.2.1 (F (F a 3) 0))) ∧ qL G117 F (F a 8) = qL G F (F a 8)) ∧ ((G117.1 a 17).toInt) = ((G.1 a 17).toInt)) ∨ (((G.1 a 18).toInt) ≠ 0 ∧ (0 ≤ p0.toInt ∧ p0.toInt < ((G.1 a 17).toInt) ∧ p0.toInt < 8) ∧ ∃ q : Nat, G.2.2.1 (F a 7) (p0.toInt).toNat = some q ∧ ((ffL (gaL G (G.2.2.1 (F (F a 2) 1)) (vw (G.2.1 (F (F a 6) 0))) (vw (G.2.1 (F q 0))) 2 (((G.1 (F a 2) 2).toInt)).toNat) ≠ -1 ∧ ((G117.1 (F a 8) 6).toInt) = -5 ∧ ((vw (G117.2.1 (F (F a 3) 0))) = (vw (G.2.1 (F (F a 3) 0))) ∧ qL G117 F (F a 8) = qL G F (F a 8)) ∧ ((G117.1 a 17).toInt) = ((G.1 a 17).toInt)) ∨ (ffL (gaL G (G.2.2.1 (F (F a 2) 1)) (vw (G.2.1 (F (F a 6) 0))) (vw (G.2.1 (F q 0))) 2 (((G.1 (F a 2) 2).toInt)).toNat) = -1 ∧ (vw (G117.2.1 (F (F a 3) 0))) = (vw (G.2.1 (F q 0))) ∧ ((G117.1 a 17).toInt) = p0.toInt + 1 ∧ ((G117.1 (F a 8) 6).toInt) = ((G117.1 (F a 8) 6).toInt) ∧ qL G117 F (F a 8) = (gaL G (G.2.2.1 (F (F a 2) 1)) (vw (G.2.1 (F (F a 4) 0))) (vw (G.2.1 (F q 0))) 1 (((G.1 (F a 2) 2).toInt)).toNat)))) := by
  have hq7 : G.2.2.1 (F a 7) (p0.toInt).toNat = some q19 := by rw [← r_G4_F_a_7]; exact hs19.2
  have hd1 : ∀ p, p ∈ [(F a 14, 1)] → K p.1 ≠ 9 := (List.forall_mem_cons.mpr ⟨(show K (F a 14) ≠ 9 by omega), fun _ h => by cases h⟩)
  have hc : ∀ (i q : Nat), i < ((G.1 (F a 2) 2).toInt).toNat → G.2.2.1 (F (F a 2) 1) i = some q → G4.1 q = G.1 q := fun i q hi hq => hF4.rule hd1 (bko i q (by omega) hq).1
  have f := ff_list t48 oq48
  rw [oq41, r_G4_F_F_a_2_1, gaL_cg hc] at f
  have hd : ∀ p, p ∈ [(F a 14, 1), (F a 14, 2), (F a 14, 3), (a, 17), (F a 11, 3), (F a 9, 6), (F a 8, 6)] → K p.1 ≠ 9 := (List.forall_mem_cons.mpr ⟨(show K (F a 14) ≠ 9 by omega), List.forall_mem_cons.mpr ⟨(show K (F a 14) ≠ 9 by omega), List.forall_mem_cons.mpr ⟨(show K (F a 14) ≠ 9 by omega), List.forall_mem_cons.mpr ⟨(show K (a) ≠ 9 by omega), List.forall_mem_cons.mpr ⟨(show K (F a 11) ≠ 9 by omega), List.forall_mem_cons.mpr ⟨(show K (F a 9) ≠ 9 by omega), List.forall_mem_cons.mpr ⟨(show K (F a 8) ≠ 9 by omega), fun _ h => by cases h⟩⟩⟩⟩⟩⟩⟩)
  have hd2 : ∀ p, p ∈ [(F a 11, 3), (F a 8, 6)] → K p.1 ≠ 9 := (List.forall_mem_cons.mpr ⟨(show K (F a 11) ≠ 9 by omega), List.forall_mem_cons.mpr ⟨(show K (F a 8) ≠ 9 by omega), fun _ h => by cases h⟩⟩)
  refine Or.inr (Or.inr ⟨by omega, ht19, q19, hq7, Or.inr ⟨by omega, (by rw [c_G117_F_F_a_3_0]; exact oq93), (by rw [d_G117_a_17, e99]), (by first | rfl | omega), ?_⟩⟩)
  rw [oq117, r_G100_F_F_a_2_1, oq93]
  exact gaL_cg (fun i q hi hq => (hF117.rule hd2 (bko i q (by omega) hq).1).symm.trans (hfr.rule hd (bko i q (by omega) hq).1))
theorem v_X10_back_127_22 {F : Nat → Nat → Nat} (a : Nat) (G117 : XG) (G93 : XG)
    (oq93a : RO (vw (G93.2.1 (F (F a 3) 0))) (aI (G93.2.1 (F (F a 3) 1))))
    (c_G117_F_F_a_3_0 : G117.2.1 (F (F a 3) 0) = G93.2.1 (F (F a 3) 0))
    (c_G117_F_F_a_3_1 : G117.2.1 (F (F a 3) 1) = G93.2.1 (F (F a 3) 1)) :
    RO (vw (G117.2.1 (F (F a 3) 0))) (aI (G117.2.1 (F (F a 3) 1))) := by
  rw [c_G117_F_F_a_3_0, c_G117_F_F_a_3_1]; exact oq93a
theorem v_X10_back_68_23 {K : Nat → Nat} {F : Nat → Nat → Nat} (a : Nat) (q19 : Nat) (p0 : Int32) (G : XG) (G63 : XG) (G4 : XG) (G41 : XG) (x48 : Int32)
    (ha : K a = 12)
    (hk9999 : K (F a 14) = 11)
    (hj9999 : F (F a 14) 99 = 0)
    (hk9999a : K (F a 11) = 3)
    (hj9999a : F (F a 11) 99 = 0)
    (hk9999b : K (F a 9) = 6)
    (hj9999b : F (F a 9) 99 = 1)
    (hk9999c : K (F a 8) = 6)
    (hj9999c : F (F a 8) 99 = 0)
    (hk9999d : K (F a 15) = 26)
    (hj9999d : F (F a 15) 99 = 0)
    (hk9999e : K (F (F a 11) 0) = 21)
    (hj9999e : F (F (F a 11) 0) 99 = 100)
    (hk9999f : K (F (F a 11) 1) = 21)
    (hj9999f : F (F (F a 11) 1) 99 = 101)
    (hk9999g : K (F (F a 11) 2) = 24)
    (hj9999g : F (F (F a 11) 2) 99 = 4)
    (hk9999h : K (F (F a 9) 0) = 22)
    (hj9999i : F (F (F a 9) 0) 99 = 10 * 1 + 0)
    (hk9999i : K (F (F a 9) 1) = 22)
    (hj9999k : F (F (F a 9) 1) 99 = 10 * 1 + 1)
    (hk9999j : K (F (F a 9) 2) = 22)
    (hj9999m : F (F (F a 9) 2) 99 = 10 * 1 + 2)
    (hk9999k : K (F (F a 9) 3) = 22)
    (hj9999o : F (F (F a 9) 3) 99 = 10 * 1 + 3)
    (hk9999l : K (F (F a 9) 4) = 23)
    (hj9999q : F (F (F a 9) 4) 99 = 10 * 1 + 4)
    (hk9999m : K (F (F a 9) 5) = 23)
    (hj9999s : F (F (F a 9) 5) 99 = 10 * 1 + 5)
    (hk9999n : K (F a 3) = 8)
    (hj9999t : F (F a 3) 99 = 0)
    (hk9999o : K (F (F a 3) 0) = 20)
    (hj9999v : F (F (F a 3) 0) 99 = 0)
    (hk9999p : K (F (F a 3) 1) = 21)
    (hj9999y : F (F (F a 3) 1) 99 = 0)
    (hk9999q : K (F (F a 8) 0) = 22)
    (hj9999z26 : F (F (F a 8) 0) 99 = 10 * 0 + 0)
    (hk9999r : K (F (F a 8) 1) = 22)
    (hj9999z28 : F (F (F a 8) 1) 99 = 10 * 0 + 1)
    (hk9999s : K (F (F a 8) 2) = 22)
    (hj9999z30 : F (F (F a 8) 2) 99 = 10 * 0 + 2)
    (hk9999t : K (F (F a 8) 3) = 22)
    (hj9999z32 : F (F (F a 8) 3) 99 = 10 * 0 + 3)
    (hk9999u : K (F (F a 8) 4) = 23)
    (hj9999z34 : F (F (F a 8) 4) 99 = 10 * 0 + 4)
    (hk9999v : K (F (F a 8) 5) = 23)
    (hj9999z36 : F (F (F a 8) 5) 99 = 10 * 0 + 5)
    (hk9999w : K (F a 2) = 2)
    (hj9999z37 : F (F a 2) 99 = 0)
    (hk9999y : K (F (F a 2) 1) = 15)
    (hj9999z38 : F (F (F a 2) 1) 99 = 1)
    (hk9999z25 : K (F (F a 2) 0) = 15)
    (hj9999z39 : F (F (F a 2) 0) 99 = 0)
    (hk9999z26 : K (F a 4) = 8)
    (hj9999z40 : F (F a 4) 99 = 1)
    (hk9999z27 : K (F (F a 4) 0) = 20)
    (hj9999z42 : F (F (F a 4) 0) 99 = 1)
    (hk9999z28 : K (F (F a 4) 1) = 21)
    (hj9999z44 : F (F (F a 4) 1) 99 = 1)
    (hk9999z29 : K (F a 6) = 8)
    (hj9999z45 : F (F a 6) 99 = 3)
    (hk9999z30 : K (F (F a 6) 0) = 20)
    (hj9999z47 : F (F (F a 6) 0) 99 = 3)
    (hk9999z31 : K (F (F a 6) 1) = 21)
    (hj9999z49 : F (F (F a 6) 1) 99 = 3)
    (hk9999z32 : K (F a 7) = 16)
    (hj9999z50 : F (F a 7) 99 = 0)
    (hk19 : K q19 = 8)
    (f68 : F q19 99 = 4 + (p0.toInt).toNat)
    (hk30 : K (F q19 0) = 20)
    (hj30a : F (F q19 0) 99 = 4 + (p0.toInt).toNat)
    (hk30a : K (F q19 1) = 21)
    (hj30c : F (F q19 1) 99 = 4 + (p0.toInt).toNat)
    (hF4 : XFr [(F a 14, 1)] [] [] G G4)
    (bko : BKr K G (G.2.2.1 (F (F a 2) 1)))
    (hs19 : F q19 99 = 4 + (p0.toInt).toNat ∧ G4.2.2.1 (F a 7) (p0.toInt).toNat = some q19)
    (oq41 : qL G41 F (F a 9) = gaL G4 (G4.2.2.1 (F (F a 2) 1)) (vw (G.2.1 (F (F a 6) 0))) (vw (G.2.1 (F q19 0))) (2 : Int) (((G.1 (F a 2) 2).toInt)).toNat)
    (oq48 : ∀ j : Int, 0 ≤ j → j < ((G41.1 (F a 9) 6).toInt) → (x48.toInt = -1 ∨ j < x48.toInt) → aI (G41.2.1 (F (F a 9) 5)) j = 0)
    (sb : 0 ≤ ((G.1 (F a 2) 2).toInt) ∧ ((G.1 (F a 2) 2).toInt) ≤ 12)
    (sw : 0 ≤ ((G.1 (F a 8) 6).toInt) ∧ ((G.1 (F a 8) 6).toInt) ≤ 1080)
    (t4 : ((G4.1 (F a 14) 1).toInt) = 0)
    (f89 : ((G.1 a 18).toInt) = 0 ∨ ((G.1 a 18).toInt) = 1)
    (c11 : ((G.1 a 18).toInt) ≠ 0)
    (ht19 : 0 ≤ p0.toInt ∧ p0.toInt < ((G.1 a 17).toInt) ∧ p0.toInt < 8)
    (t41 : 0 ≤ ((G41.1 (F a 9) 6).toInt) ∧ ((G41.1 (F a 9) 6).toInt) ≤ 1080)
    (t48 : x48.toInt = -1 ∨ (0 ≤ x48.toInt ∧ x48.toInt < ((G41.1 (F a 9) 6).toInt) ∧ (aI (G41.2.1 (F (F a 9) 5)) (x48.toInt)) = 1))
    (c54 : ¬ (x48.toInt = (-1 : Int)))
    (c_G63_F_F_a_3_0 : G63.2.1 (F (F a 3) 0) = G.2.1 (F (F a 3) 0))
    (c_G63_F_F_a_8_0 : G63.2.1 (F (F a 8) 0) = G.2.1 (F (F a 8) 0))
    (c_G63_F_F_a_8_1 : G63.2.1 (F (F a 8) 1) = G.2.1 (F (F a 8) 1))
    (c_G63_F_F_a_8_2 : G63.2.1 (F (F a 8) 2) = G.2.1 (F (F a 8) 2))
    (c_G63_F_F_a_8_3 : G63.2.1 (F (F a 8) 3) = G.2.1 (F (F a 8) 3))
    (c_G63_F_F_a_8_4 : G63.2.1 (F (F a 8) 4) = G.2.1 (F (F a 8) 4))
    (c_G63_F_F_a_8_5 : G63.2.1 (F (F a 8) 5) = G.2.1 (F (F a 8) 5))
    (r_G4_F_F_a_2_1 : G4.2.2.1 (F (F a 2) 1) = G.2.2.1 (F (F a 2) 1))
    (r_G4_F_a_7 : G4.2.2.1 (F a 7) = G.2.2.1 (F a 7))
    (d_G63_F_a_8_6 : G63.1 (F a 8) 6 = G.1 (F a 8) 6)
    (d_G63_a_17 : G63.1 a 17 = G.1 a 17) :
    (((G.1 a 18).toInt) = 0 ∧ (-5 : Int) = -3 ∧ ((vw (G63.2.1 (F (F a 3) 0))) = (vw (G.2.1 (F (F a 3) 0))) ∧ qL G63 F (F a 8) = qL G F (F a 8)) ∧ ((G63.1 a 17).toInt) = ((G.1 a 17).toInt)) ∨ (((G.1 a 18).toInt) ≠ 0 ∧ (p0.toInt < 0 ∨ ((G.1 a 17).toInt) ≤ p0.toInt ∨ 8 ≤ p0.toInt) ∧ (-5 : Int) = -2 ∧ ((vw (G63.2.1 (F (F a 3) 0))) = (vw (G.2.1 (F (F a 3) 0))) ∧ qL G63 F (F a 8) = qL G F (F a 8)) ∧ ((G63.1 a 17).toInt) = ((G.1 a 17).toInt)) ∨ (((G.1 a 18).toInt) ≠ 0 ∧ (0 ≤ p0.toInt ∧ p0.toInt < ((G.1 a 17).toInt) ∧ p0.toInt < 8) ∧ ∃ q : Nat, G.2.2.1 (F a 7) (p0.toInt).toNat = some q ∧ ((ffL (gaL G (G.2.2.1 (F (F a 2) 1)) (vw (G.2.1 (F (F a 6) 0))) (vw (G.2.1 (F q 0))) 2 (((G.1 (F a 2) 2).toInt)).toNat) ≠ -1 ∧ (-5 : Int) = -5 ∧ ((vw (G63.2.1 (F (F a 3) 0))) = (vw (G.2.1 (F (F a 3) 0))) ∧ qL G63 F (F a 8) = qL G F (F a 8)) ∧ ((G63.1 a 17).toInt) = ((G.1 a 17).toInt)) ∨ (ffL (gaL G (G.2.2.1 (F (F a 2) 1)) (vw (G.2.1 (F (F a 6) 0))) (vw (G.2.1 (F q 0))) 2 (((G.1 (F a 2) 2).toInt)).toNat) = -1 ∧ (vw (G63.2.1 (F (F a 3) 0))) = (vw (G.2.1 (F q 0))) ∧ ((G63.1 a 17).toInt) = p0.toInt + 1 ∧ (-5 : Int) = ((G63.1 (F a 8) 6).toInt) ∧ qL G63 F (F a 8) = (gaL G (G.2.2.1 (F (F a 2) 1)) (vw (G.2.1 (F (F a 4) 0))) (vw (G.2.1 (F q 0))) 1 (((G.1 (F a 2) 2).toInt)).toNat)))) := by
  have hq7 : G.2.2.1 (F a 7) (p0.toInt).toNat = some q19 := by rw [← r_G4_F_a_7]; exact hs19.2
  have hd1 : ∀ p, p ∈ [(F a 14, 1)] → K p.1 ≠ 9 := (List.forall_mem_cons.mpr ⟨(show K (F a 14) ≠ 9 by omega), fun _ h => by cases h⟩)
  have hc : ∀ (i q : Nat), i < ((G.1 (F a 2) 2).toInt).toNat → G.2.2.1 (F (F a 2) 1) i = some q → G4.1 q = G.1 q := fun i q hi hq => hF4.rule hd1 (bko i q (by omega) hq).1
  have f := ff_list t48 oq48
  rw [oq41, r_G4_F_F_a_2_1, gaL_cg hc] at f
  exact Or.inr (Or.inr ⟨by omega, ht19, q19, hq7, Or.inl ⟨(fun h => by rw [h] at f; omega), rfl, ⟨by rw [c_G63_F_F_a_3_0], qL_cg d_G63_F_a_8_6 c_G63_F_F_a_8_0 c_G63_F_F_a_8_1 c_G63_F_F_a_8_2 c_G63_F_F_a_8_3 c_G63_F_F_a_8_4 c_G63_F_F_a_8_5⟩, by rw [d_G63_a_17]⟩⟩)
theorem v_X10_back_68_24 {F : Nat → Nat → Nat} (a : Nat) (G : XG) (G63 : XG)
    (ron : RO (vw (G.2.1 (F (F a 3) 0))) (aI (G.2.1 (F (F a 3) 1))))
    (c_G63_F_F_a_3_0 : G63.2.1 (F (F a 3) 0) = G.2.1 (F (F a 3) 0))
    (c_G63_F_F_a_3_1 : G63.2.1 (F (F a 3) 1) = G.2.1 (F (F a 3) 1)) :
    RO (vw (G63.2.1 (F (F a 3) 0))) (aI (G63.2.1 (F (F a 3) 1))) := by
  rw [c_G63_F_F_a_3_0, c_G63_F_F_a_3_1]; exact ron
theorem v_X10_back_16_25 {K : Nat → Nat} {F : Nat → Nat → Nat} (a : Nat) (G : XG) (G4 : XG) (p0 : Int32)
    (ha : K a = 12)
    (sb : 0 ≤ ((G.1 (F a 2) 2).toInt) ∧ ((G.1 (F a 2) 2).toInt) ≤ 12)
    (sw : 0 ≤ ((G.1 (F a 8) 6).toInt) ∧ ((G.1 (F a 8) 6).toInt) ≤ 1080)
    (t4 : ((G4.1 (F a 14) 1).toInt) = 0)
    (f78 : ((G.1 a 18).toInt) = 0 ∨ ((G.1 a 18).toInt) = 1)
    (c11 : ¬ (((G.1 a 18).toInt) ≠ 0))
    (c_G4_F_F_a_3_0 : G4.2.1 (F (F a 3) 0) = G.2.1 (F (F a 3) 0))
    (c_G4_F_F_a_8_0 : G4.2.1 (F (F a 8) 0) = G.2.1 (F (F a 8) 0))
    (c_G4_F_F_a_8_1 : G4.2.1 (F (F a 8) 1) = G.2.1 (F (F a 8) 1))
    (c_G4_F_F_a_8_2 : G4.2.1 (F (F a 8) 2) = G.2.1 (F (F a 8) 2))
    (c_G4_F_F_a_8_3 : G4.2.1 (F (F a 8) 3) = G.2.1 (F (F a 8) 3))
    (c_G4_F_F_a_8_4 : G4.2.1 (F (F a 8) 4) = G.2.1 (F (F a 8) 4))
    (c_G4_F_F_a_8_5 : G4.2.1 (F (F a 8) 5) = G.2.1 (F (F a 8) 5))
    (d_G4_F_a_8_6 : G4.1 (F a 8) 6 = G.1 (F a 8) 6)
    (d_G4_a_17 : G4.1 a 17 = G.1 a 17) :
    (((G.1 a 18).toInt) = 0 ∧ (-3 : Int) = -3 ∧ ((vw (G4.2.1 (F (F a 3) 0))) = (vw (G.2.1 (F (F a 3) 0))) ∧ qL G4 F (F a 8) = qL G F (F a 8)) ∧ ((G4.1 a 17).toInt) = ((G.1 a 17).toInt)) ∨ (((G.1 a 18).toInt) ≠ 0 ∧ (p0.toInt < 0 ∨ ((G.1 a 17).toInt) ≤ p0.toInt ∨ 8 ≤ p0.toInt) ∧ (-3 : Int) = -2 ∧ ((vw (G4.2.1 (F (F a 3) 0))) = (vw (G.2.1 (F (F a 3) 0))) ∧ qL G4 F (F a 8) = qL G F (F a 8)) ∧ ((G4.1 a 17).toInt) = ((G.1 a 17).toInt)) ∨ (((G.1 a 18).toInt) ≠ 0 ∧ (0 ≤ p0.toInt ∧ p0.toInt < ((G.1 a 17).toInt) ∧ p0.toInt < 8) ∧ ∃ q : Nat, G.2.2.1 (F a 7) (p0.toInt).toNat = some q ∧ ((ffL (gaL G (G.2.2.1 (F (F a 2) 1)) (vw (G.2.1 (F (F a 6) 0))) (vw (G.2.1 (F q 0))) 2 (((G.1 (F a 2) 2).toInt)).toNat) ≠ -1 ∧ (-3 : Int) = -5 ∧ ((vw (G4.2.1 (F (F a 3) 0))) = (vw (G.2.1 (F (F a 3) 0))) ∧ qL G4 F (F a 8) = qL G F (F a 8)) ∧ ((G4.1 a 17).toInt) = ((G.1 a 17).toInt)) ∨ (ffL (gaL G (G.2.2.1 (F (F a 2) 1)) (vw (G.2.1 (F (F a 6) 0))) (vw (G.2.1 (F q 0))) 2 (((G.1 (F a 2) 2).toInt)).toNat) = -1 ∧ (vw (G4.2.1 (F (F a 3) 0))) = (vw (G.2.1 (F q 0))) ∧ ((G4.1 a 17).toInt) = p0.toInt + 1 ∧ (-3 : Int) = ((G4.1 (F a 8) 6).toInt) ∧ qL G4 F (F a 8) = (gaL G (G.2.2.1 (F (F a 2) 1)) (vw (G.2.1 (F (F a 4) 0))) (vw (G.2.1 (F q 0))) 1 (((G.1 (F a 2) 2).toInt)).toNat)))) := by
  exact Or.inl ⟨by omega, rfl, ⟨by rw [c_G4_F_F_a_3_0], qL_cg d_G4_F_a_8_6 c_G4_F_F_a_8_0 c_G4_F_F_a_8_1 c_G4_F_F_a_8_2 c_G4_F_F_a_8_3 c_G4_F_F_a_8_4 c_G4_F_F_a_8_5⟩, by rw [d_G4_a_17]⟩
theorem v_X10_back_16_26 {F : Nat → Nat → Nat} (a : Nat) (G : XG) (G4 : XG)
    (ron : RO (vw (G.2.1 (F (F a 3) 0))) (aI (G.2.1 (F (F a 3) 1))))
    (c_G4_F_F_a_3_0 : G4.2.1 (F (F a 3) 0) = G.2.1 (F (F a 3) 0))
    (c_G4_F_F_a_3_1 : G4.2.1 (F (F a 3) 1) = G.2.1 (F (F a 3) 1)) :
    RO (vw (G4.2.1 (F (F a 3) 0))) (aI (G4.2.1 (F (F a 3) 1))) := by
  rw [c_G4_F_F_a_3_0, c_G4_F_F_a_3_1]; exact ron
