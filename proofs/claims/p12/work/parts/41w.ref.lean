theorem z_X11_put_1 (a0 : Int) (a1 : Int) (a2 : Int) (a3 : Int) (h0 : 0 ≤ a0 ∧ a0 ≤ 2388) (h1 : a1 = -2147483648 ∧ a2 = -2147483648 ∧ a3 = 0) : (0 ≤ a3 ∧ a3 ≤ 24) ∧ (0 ≤ a0 ∧ a0 ≤ 2388) := by omega
theorem z_X11_put_5 (a0 : Int) (a1 : Int) (h0 : (a1 = 1 ∧ 0 ≤ a0 ∧ a0 ≤ 2) ∨ (a1 = 0 ∧ (a0 < 0 ∨ 2 < a0))) (h1 : ¬ (a1 = 0)) : 0 ≤ a0 ∧ a0 < 3 := by omega
theorem z_X11_put_6 (a0 : Int) (a1 : Int) (h0 : (a1 = 1 ∧ 0 ≤ a0 ∧ a0 ≤ 29) ∨ (a1 = 0 ∧ (a0 < 0 ∨ 29 < a0))) (h1 : ¬ (a1 = 0)) : 0 ≤ a0 ∧ a0 < 30 := by omega
theorem z_X11_put_7 (a0 : Int) (a1 : Int) (h0 : (a1 = 1 ∧ (a0 = -1000 ∨ (-99 ≤ a0 ∧ a0 < 100))) ∨ (a1 = 0 ∧ a0 ≠ -1000 ∧ (a0 < -99 ∨ 100 ≤ a0))) (h1 : ¬ (a1 = 0)) : a0 = -1000 ∨ (-99 ≤ a0 ∧ a0 ≤ 99) := by omega
theorem z_X11_put_9 (a0 : Int) (a1 : Int) (h0 : (a1 = 1 ∧ (a0 = -1000 ∨ (-99 ≤ a0 ∧ a0 < 100))) ∨ (a1 = 0 ∧ a0 ≠ -1000 ∧ (a0 < -99 ∨ 100 ≤ a0))) (h1 : a1 ≠ 0) : a0 = -1000 ∨ (-99 ≤ a0 ∧ a0 ≤ 99) := by omega
theorem z_X11_put_10 (a0 : Int) (a1 : Int) (a2 : Int) (h0 : 0 ≤ a0 ∧ a0 < 3) (h1 : 0 ≤ a1 ∧ a1 < 30) (h2 : 0 ≤ a0 ∧ a0 ≤ 2 ∧ 0 ≤ a1 ∧ a1 ≤ 29 → a2 = 4 * (30 * a0 + a1)) : 0 ≤ a2 ∧ a2 < ((360 : Nat) : Int) := by omega
theorem z_X11_put_11 (a0 : Int) (a1 : Int) (a2 : Int) (a3 : Int) (h0 : 0 ≤ a0 ∧ a0 < 3) (h1 : 0 ≤ a1 ∧ a1 < 30) (h2 : 0 ≤ a0 ∧ a0 ≤ 2 ∧ 0 ≤ a1 ∧ a1 ≤ 29 → a2 = 4 * (30 * a0 + a1)) (h3 : a3 = a2 + (1 : Int) ∨ a2 + (1 : Int) < -2147483648 ∨ 2147483648 ≤ a2 + (1 : Int)) : 0 ≤ a3 ∧ a3 < ((360 : Nat) : Int) := by omega
theorem z_X11_put_12 (a0 : Int) (a1 : Int) (a2 : Int) (a3 : Int) (h0 : 0 ≤ a0 ∧ a0 < 3) (h1 : 0 ≤ a1 ∧ a1 < 30) (h2 : 0 ≤ a0 ∧ a0 ≤ 2 ∧ 0 ≤ a1 ∧ a1 ≤ 29 → a3 = 4 * (30 * a0 + a1)) (h3 : a2 = a3 + (2 : Int) ∨ a3 + (2 : Int) < -2147483648 ∨ 2147483648 ≤ a3 + (2 : Int)) : 0 ≤ a2 ∧ a2 < ((360 : Nat) : Int) := by omega
theorem z_X11_put_13 (a0 : Int) (a1 : Int) (a2 : Int) (a3 : Int) (h0 : 0 ≤ a0 ∧ a0 < 3) (h1 : 0 ≤ a1 ∧ a1 < 30) (h2 : 0 ≤ a0 ∧ a0 ≤ 2 ∧ 0 ≤ a1 ∧ a1 ≤ 29 → a3 = 4 * (30 * a0 + a1)) (h3 : a2 = a3 + (3 : Int) ∨ a3 + (3 : Int) < -2147483648 ∨ 2147483648 ≤ a3 + (3 : Int)) : 0 ≤ a2 ∧ a2 < ((360 : Nat) : Int) := by omega
theorem z_X11_put_14 (a0 : Int) (a1 : Int) (a2 : Int) (h0 : a0 = -2147483648 ∧ a1 = -2147483648 ∧ a2 = 0) : 0 ≤ a2 ∧ a2 ≤ 24 := by omega
abbrev rm_X11_put : Room := { frames := 8, cells := 0, slots := 0, locals := 186 }
set_option maxHeartbeats 4000000 in
set_option maxRecDepth 100000 in
theorem c_X11_put (l : Launch) (E : XE) (K : Nat → Nat) (F : Nat → Nat → Nat) (G : XG) (a : Nat) (p0 : Int32) (p1 : Int32) (p2 : Int32) (p3 : Int32) (p4 : Int32) (ha : K a = 13) (am : 0 ≤ ((G.1 a 43).toInt) ∧ ((G.1 a 43).toInt) ≤ 2388) (hR : RV (G.2.1 (F a 10))) (hM : RM (G.2.1 (F a 1)) (0)) (hB : RM (G.2.1 (F a 2)) 0) : Met l yX11_put (xw yX11_put cX11_put 7 (some .int)) rm_X11_put (va_Pc [.ref a, .int p0, .int p1, .int p2, .int p3, .int p4] (XP E K F G)) (XQ E (fun v (u : XG) => ∃ r : Int32, v = .int r ∧ XFr [(a, 16), (a, 19), (a, 20), (a, 21), (a, 23), (a, 45), (a, 46), (a, 43), (a, 44), (a, 0)] [F a 15, F a 17, F a 18, F a 1, F a 8, F a 22, F a 11, F a 13, F a 9, F a 41, F a 42, F a 4, F a 12] [] G u ∧ ((0 ≤ ((u.1 a 23).toInt) ∧ ((u.1 a 23).toInt) ≤ 24) ∧ (0 ≤ ((u.1 a 43).toInt) ∧ ((u.1 a 43).toInt) ≤ 2388)) ∧ ((¬ ((0 ≤ p0.toInt ∧ p0.toInt < 3) ∧ (0 ≤ p1.toInt ∧ p1.toInt < 30) ∧ (p2.toInt = -1000 ∨ (-99 ≤ p2.toInt ∧ p2.toInt ≤ 99)) ∧ (p3.toInt = -1000 ∨ (-99 ≤ p3.toInt ∧ p3.toInt ≤ 99)) ∧ (p4.toInt = -1000 ∨ (-99 ≤ p4.toInt ∧ p4.toInt ≤ 99))) ∧ r.toInt = -1 ∧ mw (u.2.1 (F a 1)) 0 = (mw (G.2.1 (F a 1)) 0)) ∨ (((0 ≤ p0.toInt ∧ p0.toInt < 3) ∧ (0 ≤ p1.toInt ∧ p1.toInt < 30) ∧ (p2.toInt = -1000 ∨ (-99 ≤ p2.toInt ∧ p2.toInt ≤ 99)) ∧ (p3.toInt = -1000 ∨ (-99 ≤ p3.toInt ∧ p3.toInt ≤ 99)) ∧ (p4.toInt = -1000 ∨ (-99 ≤ p4.toInt ∧ p4.toInt ≤ 99))) ∧ cel (mw (G.2.1 (F a 1)) 0) p0.toInt p1.toInt 0 ≠ -2000 ∧ r.toInt = -4 ∧ mw (u.2.1 (F a 1)) 0 = (mw (G.2.1 (F a 1)) 0)) ∨ (((0 ≤ p0.toInt ∧ p0.toInt < 3) ∧ (0 ≤ p1.toInt ∧ p1.toInt < 30) ∧ (p2.toInt = -1000 ∨ (-99 ≤ p2.toInt ∧ p2.toInt ≤ 99)) ∧ (p3.toInt = -1000 ∨ (-99 ≤ p3.toInt ∧ p3.toInt ≤ 99)) ∧ (p4.toInt = -1000 ∨ (-99 ≤ p4.toInt ∧ p4.toInt ≤ 99))) ∧ cel (mw (G.2.1 (F a 1)) 0) p0.toInt p1.toInt 0 = -2000 ∧ StR ((G.1 a 6).toInt) r.toInt (G.2.1 (F a 10)) (mw (G.2.1 (F a 1)) 0) (rput3 (mw (G.2.1 (F a 1)) 0) p0.toInt p1.toInt p2.toInt p3.toInt p4.toInt) (mw (u.2.1 (F a 1)) 0))) ∧ (RM (u.2.1 (F a 1)) 0)) (fun u H => TW E K F u H)) 0 0 (xA E) := by
  refine x_enter (by decide) (Nat.le_of_ble_eq_true rfl) ?_
  intro p e s m args below meth c Q S hr hlk hnm hQ hP ls hl
  obtain ⟨hz, hK, hT⟩ := hP
  obtain ⟨hx, hb, -, -, -⟩ := id S
  obtain ⟨H, hT, hS, hgo⟩ : ∃ H : Heap, TW E K F G H ∧ va_S (xA E) s.heap H [] ∧ H = s.heap := ⟨_, hT, va_S.rf, rfl⟩
  rw [← hgo]
  have hl : lv_has ls 7 [(0, .ref a), (1, .int p0), (2, .int p1), (3, .int p2), (4, .int p3), (5, .int p4)] := hl
  obtain ⟨hk9999, hj9999⟩ := fkX11_15 hT ha
  obtain ⟨hk9999a, hj9999a⟩ := fkX11_17 hT ha
  obtain ⟨hk9999b, hj9999b⟩ := fkX11_18 hT ha
  obtain ⟨hk9999c, hj9999c⟩ := fkX11_1 hT ha
  obtain ⟨hk9999d, hj9999d⟩ := fkX11_8 hT ha
  obtain ⟨hk9999e, hj9999e⟩ := fkX11_22 hT ha
  obtain ⟨hk9999f, hj9999f⟩ := fkX11_11 hT ha
  obtain ⟨hk9999g, hj9999g⟩ := fkX11_13 hT ha
  obtain ⟨hk9999h, hj9999h⟩ := fkX11_9 hT ha
  obtain ⟨hk9999i, hj9999i⟩ := fkX11_41 hT ha
  obtain ⟨hk9999j, hj9999j⟩ := fkX11_42 hT ha
  obtain ⟨hk9999k, hj9999k⟩ := fkX11_4 hT ha
  obtain ⟨hk9999l, hj9999l⟩ := fkX11_12 hT ha
  obtain ⟨hk9999m, hj9999m⟩ := fkX11_10 hT ha
  obtain ⟨hk9999n, hj9999n⟩ := fkX11_2 hT ha
  refine lv_aload_n hx hb dX11_put_0 rfl (lv_at hl 0 rfl) ?_
  refine lv_iconst (v := 0) hx hb dX11_put_1 (by decide) ?_
  refine pX11_0 (v := 0) S hK hT hS ha kf_X11_134 dX11_put_2 (fun H locs hT hS => ?_)
  obtain ⟨G2, hG2⟩ : ∃ GG : XG, GG = dput G a 0 0 := ⟨_, rfl⟩
  rw [← hG2] at hT
  refine lv_aload_n hx hb dX11_put_5 rfl (lv_at hl 0 rfl) ?_
  refine x_cv0 (x_runV (b := a) (As := []) (rest := []) S (c_X11_nothing l E K F G2 a ha) mv_X11_nothing km_X11_231 rfl rfl ⟨Nat.le_of_ble_eq_true rfl, Nat.le_of_ble_eq_true rfl⟩ (rc_13 hK hT ha) hK (fun _ => XP.blind) (fun U hU hW => XP.at hK hz hS hT hU hW) rfl hl.1 (Nat.le_of_ble_eq_true rfl) dX11_put_6 ⟨Nat.le_of_ble_eq_true rfl, Nat.le_of_ble_eq_true rfl⟩) hS ?_
  rintro G6 H locs ⟨hF6, t6⟩ hT hS
  have t6 : ((G6.1 a 20).toInt) = -2147483648 ∧ ((G6.1 a 21).toInt) = -2147483648 ∧ ((G6.1 a 23).toInt) = 0 := t6
  refine lv_iload_n hx hb dX11_put_9 rfl (lv_at hl 1 rfl) ?_
  refine x_clp (x_runS (As := [.int p0]) (rest := []) S (c_X11_isTable l E K F G6 H p0) ms_X11_isTable km_X11_149 rfl rfl ⟨Nat.le_of_ble_eq_true rfl, Nat.le_of_ble_eq_true rfl⟩ hK (fun _ => XPh.blind) (fun U hU hW => XPh.at hK hz hS hT hU hW) rfl hl.1 (Nat.le_of_ble_eq_true rfl) dX11_put_10 ⟨Nat.le_of_ble_eq_true rfl, Nat.le_of_ble_eq_true rfl⟩) hS ?_
  rintro _ _ locs ⟨x10, rfl, b10, t10⟩ hS
  have t10 : (x10.toInt = 1 ∧ 0 ≤ p0.toInt ∧ p0.toInt ≤ 2) ∨ (x10.toInt = 0 ∧ (p0.toInt < 0 ∨ 2 < p0.toInt)) := t10
  refine xi_zeq (tgt := 46) hx hb (rfl : Int32.toInt x10 = x10.toInt) dX11_put_13 (by decide) (fun c13 => ?_) (fun c13 => ?_)
  · refine lv_aload_n hx hb dX11_put_46 rfl (lv_at hl 0 rfl) ?_
    refine lv_iconst (v := (-1)) hx hb dX11_put_47 (by decide) ?_
    refine x_cl0 (x_runV (b := a) (As := [.int (-1)]) (rest := []) S (c_X11_refuses l E K F G6 a (-1) ha) mv_X11_refuses km_X11_325 rfl rfl ⟨Nat.le_of_ble_eq_true rfl, Nat.le_of_ble_eq_true rfl⟩ (rc_13 hK hT ha) hK (fun _ => XP.blind) (fun U hU hW => XP.at hK hz hS hT hU hW) rfl hl.1 (Nat.le_of_ble_eq_true rfl) dX11_put_48 ⟨Nat.le_of_ble_eq_true rfl, Nat.le_of_ble_eq_true rfl⟩) hS ?_
    rintro _ G48 H locs ⟨x48, rfl, hF48, t48⟩ hT hS
    have t48 : x48.toInt = (-1 : Int) := by rw [((by decide) : Int32.toInt (-1) = (-1 : Int))] at t48; exact t48
    exact x_ri hx hb hr hlk hQ (Nat.le_of_ble_eq_true rfl) (Nat.le_of_ble_eq_true rfl) hS dX11_put_51 G48 ⟨_, rfl, (XFr.call (XFr.call (by rw [hG2]; exact XFr.dput XFr.rf (List.mem_of_getElem? (i := 9) rfl)) hF6 (xm1 2 rfl (xm1 3 rfl (xm1 4 rfl xm0))) xm0 xm0) hF48 xm0 (xm1 4 rfl xm0) xm0), (by rw [(show (G48.1 a 23).toInt = ((G6.1 a 23).toInt) from (congrArg Int32.toInt (hF48.1 _ _ xn0)).trans (rfl : Int32.toInt (G6.1 a 23) = ((G6.1 a 23).toInt))), (show (G48.1 a 43).toInt = ((G.1 a 43).toInt) from (congrArg Int32.toInt ((hF48.1 _ _ xn0).trans ((hF6.1 _ _ (xnj (by decide) (xnj (by decide) (xnj (by decide) xn0)))).trans (ld_j hG2 (by decide))))).trans (rfl : Int32.toInt (G.1 a 43) = ((G.1 a 43).toInt)))] <;> exact (z_X11_put_1 ((G.1 a 43).toInt) ((G6.1 a 20).toInt) ((G6.1 a 21).toInt) ((G6.1 a 23).toInt) am t6)), (by rw [(t48 : Int32.toInt x48 = (-1 : Int))] <;> exact (v_X11_put_51_1 (F := F) x10 p0 G48 a G p1 p2 p3 p4 t10 c13 ((hF48.2.1 _ (xn1 (xne_k hk9999c hk9999d (by decide)) xn0)).trans ((hF6.2.1 _ xn0).trans (ld_c hG2))))), (v_X11_put_51_2 (F := F) a G G48 hM ((hF48.2.1 _ (xn1 (xne_k hk9999c hk9999d (by decide)) xn0)).trans ((hF6.2.1 _ xn0).trans (ld_c hG2))))⟩ hT
  · refine lv_iload_n hx hb dX11_put_16 rfl (lv_at hl 2 rfl) ?_
    refine x_clp (x_runS (As := [.int p1]) (rest := []) S (c_X11_isKey l E K F G6 H p1) ms_X11_isKey km_X11_153 rfl rfl ⟨Nat.le_of_ble_eq_true rfl, Nat.le_of_ble_eq_true rfl⟩ hK (fun _ => XPh.blind) (fun U hU hW => XPh.at hK hz hS hT hU hW) rfl hl.1 (Nat.le_of_ble_eq_true rfl) dX11_put_17 ⟨Nat.le_of_ble_eq_true rfl, Nat.le_of_ble_eq_true rfl⟩) hS ?_
    rintro _ _ locs ⟨x17, rfl, b17, t17⟩ hS
    have t17 : (x17.toInt = 1 ∧ 0 ≤ p1.toInt ∧ p1.toInt ≤ 29) ∨ (x17.toInt = 0 ∧ (p1.toInt < 0 ∨ 29 < p1.toInt)) := t17
    refine xi_zeq (tgt := 46) hx hb (rfl : Int32.toInt x17 = x17.toInt) dX11_put_20 (by decide) (fun c20 => ?_) (fun c20 => ?_)
    · refine lv_aload_n hx hb dX11_put_46 rfl (lv_at hl 0 rfl) ?_
      refine lv_iconst (v := (-1)) hx hb dX11_put_47 (by decide) ?_
      refine x_cl0 (x_runV (b := a) (As := [.int (-1)]) (rest := []) S (c_X11_refuses l E K F G6 a (-1) ha) mv_X11_refuses km_X11_325 rfl rfl ⟨Nat.le_of_ble_eq_true rfl, Nat.le_of_ble_eq_true rfl⟩ (rc_13 hK hT ha) hK (fun _ => XP.blind) (fun U hU hW => XP.at hK hz hS hT hU hW) rfl hl.1 (Nat.le_of_ble_eq_true rfl) dX11_put_48 ⟨Nat.le_of_ble_eq_true rfl, Nat.le_of_ble_eq_true rfl⟩) hS ?_
      rintro _ G48 H locs ⟨x48, rfl, hF48, t48⟩ hT hS
      have t48 : x48.toInt = (-1 : Int) := by rw [((by decide) : Int32.toInt (-1) = (-1 : Int))] at t48; exact t48
      exact x_ri hx hb hr hlk hQ (Nat.le_of_ble_eq_true rfl) (Nat.le_of_ble_eq_true rfl) hS dX11_put_51 G48 ⟨_, rfl, (XFr.call (XFr.call (by rw [hG2]; exact XFr.dput XFr.rf (List.mem_of_getElem? (i := 9) rfl)) hF6 (xm1 2 rfl (xm1 3 rfl (xm1 4 rfl xm0))) xm0 xm0) hF48 xm0 (xm1 4 rfl xm0) xm0), (by rw [(show (G48.1 a 23).toInt = ((G6.1 a 23).toInt) from (congrArg Int32.toInt (hF48.1 _ _ xn0)).trans (rfl : Int32.toInt (G6.1 a 23) = ((G6.1 a 23).toInt))), (show (G48.1 a 43).toInt = ((G.1 a 43).toInt) from (congrArg Int32.toInt ((hF48.1 _ _ xn0).trans ((hF6.1 _ _ (xnj (by decide) (xnj (by decide) (xnj (by decide) xn0)))).trans (ld_j hG2 (by decide))))).trans (rfl : Int32.toInt (G.1 a 43) = ((G.1 a 43).toInt)))] <;> exact (z_X11_put_1 ((G.1 a 43).toInt) ((G6.1 a 20).toInt) ((G6.1 a 21).toInt) ((G6.1 a 23).toInt) am t6)), (by rw [(t48 : Int32.toInt x48 = (-1 : Int))] <;> exact (v_X11_put_51_3 (F := F) x17 p1 G48 a G p0 p2 p3 p4 t17 c20 ((hF48.2.1 _ (xn1 (xne_k hk9999c hk9999d (by decide)) xn0)).trans ((hF6.2.1 _ xn0).trans (ld_c hG2))))), (v_X11_put_51_4 (F := F) a G G48 hM ((hF48.2.1 _ (xn1 (xne_k hk9999c hk9999d (by decide)) xn0)).trans ((hF6.2.1 _ xn0).trans (ld_c hG2))))⟩ hT
    · refine lv_iload_n hx hb dX11_put_23 rfl (lv_at hl 3 rfl) ?_
      refine x_clp (x_runS (As := [.int p2]) (rest := []) S (c_X11_isValue l E K F G6 H p2) ms_X11_isValue km_X11_343 rfl rfl ⟨Nat.le_of_ble_eq_true rfl, Nat.le_of_ble_eq_true rfl⟩ hK (fun _ => XPh.blind) (fun U hU hW => XPh.at hK hz hS hT hU hW) rfl hl.1 (Nat.le_of_ble_eq_true rfl) dX11_put_24 ⟨Nat.le_of_ble_eq_true rfl, Nat.le_of_ble_eq_true rfl⟩) hS ?_
      rintro _ _ locs ⟨x24, rfl, b24, t24⟩ hS
      have t24 : (x24.toInt = 1 ∧ (p2.toInt = -1000 ∨ (-99 ≤ p2.toInt ∧ p2.toInt < 100))) ∨ (x24.toInt = 0 ∧ p2.toInt ≠ -1000 ∧ (p2.toInt < -99 ∨ 100 ≤ p2.toInt)) := t24
      refine xi_zeq (tgt := 46) hx hb (rfl : Int32.toInt x24 = x24.toInt) dX11_put_27 (by decide) (fun c27 => ?_) (fun c27 => ?_)
      · refine lv_aload_n hx hb dX11_put_46 rfl (lv_at hl 0 rfl) ?_
        refine lv_iconst (v := (-1)) hx hb dX11_put_47 (by decide) ?_
        refine x_cl0 (x_runV (b := a) (As := [.int (-1)]) (rest := []) S (c_X11_refuses l E K F G6 a (-1) ha) mv_X11_refuses km_X11_325 rfl rfl ⟨Nat.le_of_ble_eq_true rfl, Nat.le_of_ble_eq_true rfl⟩ (rc_13 hK hT ha) hK (fun _ => XP.blind) (fun U hU hW => XP.at hK hz hS hT hU hW) rfl hl.1 (Nat.le_of_ble_eq_true rfl) dX11_put_48 ⟨Nat.le_of_ble_eq_true rfl, Nat.le_of_ble_eq_true rfl⟩) hS ?_
        rintro _ G48 H locs ⟨x48, rfl, hF48, t48⟩ hT hS
        have t48 : x48.toInt = (-1 : Int) := by rw [((by decide) : Int32.toInt (-1) = (-1 : Int))] at t48; exact t48
        exact x_ri hx hb hr hlk hQ (Nat.le_of_ble_eq_true rfl) (Nat.le_of_ble_eq_true rfl) hS dX11_put_51 G48 ⟨_, rfl, (XFr.call (XFr.call (by rw [hG2]; exact XFr.dput XFr.rf (List.mem_of_getElem? (i := 9) rfl)) hF6 (xm1 2 rfl (xm1 3 rfl (xm1 4 rfl xm0))) xm0 xm0) hF48 xm0 (xm1 4 rfl xm0) xm0), (by rw [(show (G48.1 a 23).toInt = ((G6.1 a 23).toInt) from (congrArg Int32.toInt (hF48.1 _ _ xn0)).trans (rfl : Int32.toInt (G6.1 a 23) = ((G6.1 a 23).toInt))), (show (G48.1 a 43).toInt = ((G.1 a 43).toInt) from (congrArg Int32.toInt ((hF48.1 _ _ xn0).trans ((hF6.1 _ _ (xnj (by decide) (xnj (by decide) (xnj (by decide) xn0)))).trans (ld_j hG2 (by decide))))).trans (rfl : Int32.toInt (G.1 a 43) = ((G.1 a 43).toInt)))] <;> exact (z_X11_put_1 ((G.1 a 43).toInt) ((G6.1 a 20).toInt) ((G6.1 a 21).toInt) ((G6.1 a 23).toInt) am t6)), (by rw [(t48 : Int32.toInt x48 = (-1 : Int))] <;> exact (v_X11_put_51_5 (F := F) x24 p2 G48 a G p0 p1 p3 p4 t24 c27 ((hF48.2.1 _ (xn1 (xne_k hk9999c hk9999d (by decide)) xn0)).trans ((hF6.2.1 _ xn0).trans (ld_c hG2))))), (v_X11_put_51_6 (F := F) a G G48 hM ((hF48.2.1 _ (xn1 (xne_k hk9999c hk9999d (by decide)) xn0)).trans ((hF6.2.1 _ xn0).trans (ld_c hG2))))⟩ hT
      · refine lv_iload hx hb dX11_put_30 (lv_at hl 4 rfl) ?_
        refine x_clp (x_runS (As := [.int p3]) (rest := []) S (c_X11_isValue l E K F G6 H p3) ms_X11_isValue km_X11_343 rfl rfl ⟨Nat.le_of_ble_eq_true rfl, Nat.le_of_ble_eq_true rfl⟩ hK (fun _ => XPh.blind) (fun U hU hW => XPh.at hK hz hS hT hU hW) rfl hl.1 (Nat.le_of_ble_eq_true rfl) dX11_put_32 ⟨Nat.le_of_ble_eq_true rfl, Nat.le_of_ble_eq_true rfl⟩) hS ?_
        rintro _ _ locs ⟨x32, rfl, b32, t32⟩ hS
        have t32 : (x32.toInt = 1 ∧ (p3.toInt = -1000 ∨ (-99 ≤ p3.toInt ∧ p3.toInt < 100))) ∨ (x32.toInt = 0 ∧ p3.toInt ≠ -1000 ∧ (p3.toInt < -99 ∨ 100 ≤ p3.toInt)) := t32
        refine xi_zeq (tgt := 46) hx hb (rfl : Int32.toInt x32 = x32.toInt) dX11_put_35 (by decide) (fun c35 => ?_) (fun c35 => ?_)
        · refine lv_aload_n hx hb dX11_put_46 rfl (lv_at hl 0 rfl) ?_
          refine lv_iconst (v := (-1)) hx hb dX11_put_47 (by decide) ?_
          refine x_cl0 (x_runV (b := a) (As := [.int (-1)]) (rest := []) S (c_X11_refuses l E K F G6 a (-1) ha) mv_X11_refuses km_X11_325 rfl rfl ⟨Nat.le_of_ble_eq_true rfl, Nat.le_of_ble_eq_true rfl⟩ (rc_13 hK hT ha) hK (fun _ => XP.blind) (fun U hU hW => XP.at hK hz hS hT hU hW) rfl hl.1 (Nat.le_of_ble_eq_true rfl) dX11_put_48 ⟨Nat.le_of_ble_eq_true rfl, Nat.le_of_ble_eq_true rfl⟩) hS ?_
          rintro _ G48 H locs ⟨x48, rfl, hF48, t48⟩ hT hS
          have t48 : x48.toInt = (-1 : Int) := by rw [((by decide) : Int32.toInt (-1) = (-1 : Int))] at t48; exact t48
          exact x_ri hx hb hr hlk hQ (Nat.le_of_ble_eq_true rfl) (Nat.le_of_ble_eq_true rfl) hS dX11_put_51 G48 ⟨_, rfl, (XFr.call (XFr.call (by rw [hG2]; exact XFr.dput XFr.rf (List.mem_of_getElem? (i := 9) rfl)) hF6 (xm1 2 rfl (xm1 3 rfl (xm1 4 rfl xm0))) xm0 xm0) hF48 xm0 (xm1 4 rfl xm0) xm0), (by rw [(show (G48.1 a 23).toInt = ((G6.1 a 23).toInt) from (congrArg Int32.toInt (hF48.1 _ _ xn0)).trans (rfl : Int32.toInt (G6.1 a 23) = ((G6.1 a 23).toInt))), (show (G48.1 a 43).toInt = ((G.1 a 43).toInt) from (congrArg Int32.toInt ((hF48.1 _ _ xn0).trans ((hF6.1 _ _ (xnj (by decide) (xnj (by decide) (xnj (by decide) xn0)))).trans (ld_j hG2 (by decide))))).trans (rfl : Int32.toInt (G.1 a 43) = ((G.1 a 43).toInt)))] <;> exact (z_X11_put_1 ((G.1 a 43).toInt) ((G6.1 a 20).toInt) ((G6.1 a 21).toInt) ((G6.1 a 23).toInt) am t6)), (by rw [(t48 : Int32.toInt x48 = (-1 : Int))] <;> exact (v_X11_put_51_7 (F := F) x32 p3 G48 a G p0 p1 p2 p4 t32 c35 ((hF48.2.1 _ (xn1 (xne_k hk9999c hk9999d (by decide)) xn0)).trans ((hF6.2.1 _ xn0).trans (ld_c hG2))))), (v_X11_put_51_8 (F := F) a G G48 hM ((hF48.2.1 _ (xn1 (xne_k hk9999c hk9999d (by decide)) xn0)).trans ((hF6.2.1 _ xn0).trans (ld_c hG2))))⟩ hT
        · refine lv_iload hx hb dX11_put_38 (lv_at hl 5 rfl) ?_
          refine x_clp (x_runS (As := [.int p4]) (rest := []) S (c_X11_isValue l E K F G6 H p4) ms_X11_isValue km_X11_343 rfl rfl ⟨Nat.le_of_ble_eq_true rfl, Nat.le_of_ble_eq_true rfl⟩ hK (fun _ => XPh.blind) (fun U hU hW => XPh.at hK hz hS hT hU hW) rfl hl.1 (Nat.le_of_ble_eq_true rfl) dX11_put_40 ⟨Nat.le_of_ble_eq_true rfl, Nat.le_of_ble_eq_true rfl⟩) hS ?_
          rintro _ _ locs ⟨x40, rfl, b40, t40⟩ hS
          have t40 : (x40.toInt = 1 ∧ (p4.toInt = -1000 ∨ (-99 ≤ p4.toInt ∧ p4.toInt < 100))) ∨ (x40.toInt = 0 ∧ p4.toInt ≠ -1000 ∧ (p4.toInt < -99 ∨ 100 ≤ p4.toInt)) := t40
          refine xi_zne (tgt := 52) hx hb (rfl : Int32.toInt x40 = x40.toInt) dX11_put_43 (by decide) (fun c43 => ?_) (fun c43 => ?_)
          · have z52 : 0 ≤ p0.toInt ∧ p0.toInt < 3 := (z_X11_put_5 p0.toInt x10.toInt t10 c13)
            have z52a : 0 ≤ p1.toInt ∧ p1.toInt < 30 := (z_X11_put_6 p1.toInt x17.toInt t17 c20)
            have z52b : p2.toInt = -1000 ∨ (-99 ≤ p2.toInt ∧ p2.toInt ≤ 99) := (z_X11_put_7 p2.toInt x24.toInt t24 c27)
            have z52c : p3.toInt = -1000 ∨ (-99 ≤ p3.toInt ∧ p3.toInt ≤ 99) := (z_X11_put_7 p3.toInt x32.toInt t32 c35)
            have z52d : p4.toInt = -1000 ∨ (-99 ≤ p4.toInt ∧ p4.toInt ≤ 99) := (z_X11_put_9 p4.toInt x40.toInt t40 c43)
            refine lv_aload_n hx hb dX11_put_52 rfl (lv_at hl 0 rfl) ?_
            refine lv_iload_n hx hb dX11_put_53 rfl (lv_at hl 1 rfl) ?_
            refine lv_iload_n hx hb dX11_put_54 rfl (lv_at hl 2 rfl) ?_
            refine x_clp (x_runV (b := a) (As := [.int p0, .int p1]) (rest := []) S (c_X11_isRow l E K F G6 H a p0 p1 ha (v_X11_put_55_9 (F := F) a G G6 hM hB ((hF6.2.1 _ xn0).trans (ld_c hG2)))) mv_X11_isRow km_X11_346 rfl rfl ⟨Nat.le_of_ble_eq_true rfl, Nat.le_of_ble_eq_true rfl⟩ (rc_13 hK hT ha) hK (fun _ => XPh.blind) (fun U hU hW => XPh.at hK hz hS hT hU hW) rfl hl.1 (Nat.le_of_ble_eq_true rfl) dX11_put_55 ⟨Nat.le_of_ble_eq_true rfl, Nat.le_of_ble_eq_true rfl⟩) hS ?_
            rintro _ _ locs ⟨x55, rfl, b55, t55⟩ hS
            have t55 : (x55.toInt = 1 ∧ (cel (mw (G.2.1 (F a 1)) 0) (p0.toInt) (p1.toInt) 0) ≠ -2000) ∨ (x55.toInt = 0 ∧ (cel (mw (G.2.1 (F a 1)) 0) (p0.toInt) (p1.toInt) 0) = -2000) := by rw [(show G6.2.1 (F a 1) = G.2.1 (F a 1) from ((hF6.2.1 _ xn0).trans (ld_c hG2)))] at t55; exact t55
            refine xi_zeq (tgt := 68) hx hb (rfl : Int32.toInt x55 = x55.toInt) dX11_put_58 (by decide) (fun c58 => ?_) (fun c58 => ?_)
            · refine lv_aload_n hx hb dX11_put_68 rfl (lv_at hl 0 rfl) ?_
              refine x_cv0 (x_runV (b := a) (As := []) (rest := []) S (c_X11_start l E K F G6 a ha (v_X11_put_69_10 (F := F) a G G6 hR ((hF6.2.1 _ xn0).trans (ld_c hG2))) (v_X11_put_69_11 (F := F) a G G6 hM hB ((hF6.2.1 _ xn0).trans (ld_c hG2)))) mv_X11_start km_X11_350 rfl rfl ⟨Nat.le_of_ble_eq_true rfl, Nat.le_of_ble_eq_true rfl⟩ (rc_13 hK hT ha) hK (fun _ => XP.blind) (fun U hU hW => XP.at hK hz hS hT hU hW) rfl hl.1 (Nat.le_of_ble_eq_true rfl) dX11_put_69 ⟨Nat.le_of_ble_eq_true rfl, Nat.le_of_ble_eq_true rfl⟩) hS ?_
              rintro G69 H locs ⟨hF69, oq69, oq69a, oq69b⟩ hT hS
              have oq69 : mw (G69.2.1 (F a 4)) 0 = mw (G.2.1 (F a 1)) 0 := by simp only [(show G6.2.1 (F a 1) = G.2.1 (F a 1) from ((hF6.2.1 _ xn0).trans (ld_c hG2)))] at oq69; exact oq69
              have oq69b : LSt (G.2.1 (F a 10)) (G69.2.1 (F a 12)) (mw (G.2.1 (F a 1)) 0) 12 := by simp only [(show G6.2.1 (F a 10) = G.2.1 (F a 10) from ((hF6.2.1 _ xn0).trans (ld_c hG2))), (show G6.2.1 (F a 1) = G.2.1 (F a 1) from ((hF6.2.1 _ xn0).trans (ld_c hG2)))] at oq69b; exact oq69b
              refine lv_iload_n hx hb dX11_put_72 rfl (lv_at hl 1 rfl) ?_
              refine lv_iload_n hx hb dX11_put_73 rfl (lv_at hl 2 rfl) ?_
              refine x_clp (x_runS (As := [.int p0, .int p1]) (rest := []) S (c_X11_at l E K F G69 H p0 p1) ms_X11_at km_X11_156 rfl rfl ⟨Nat.le_of_ble_eq_true rfl, Nat.le_of_ble_eq_true rfl⟩ hK (fun _ => XPh.blind) (fun U hU hW => XPh.at hK hz hS hT hU hW) rfl hl.1 (Nat.le_of_ble_eq_true rfl) dX11_put_74 ⟨Nat.le_of_ble_eq_true rfl, Nat.le_of_ble_eq_true rfl⟩) hS ?_
              rintro _ _ locs ⟨x74, rfl, t74⟩ hS
              have t74 : 0 ≤ p0.toInt ∧ p0.toInt ≤ 2 ∧ 0 ≤ p1.toInt ∧ p1.toInt ≤ 29 → x74.toInt = 4 * (30 * p0.toInt + p1.toInt) := t74
              refine lv_istore (lv' := [(6, .int x74), (0, .ref a), (1, .int p0), (2, .int p1), (3, .int p2), (4, .int p3), (5, .int p4)]) hx hb dX11_put_77 hl (by decide) rfl (fun ls hl => ?_)
              refine lv_aload_n hx hb dX11_put_79 rfl (lv_at hl 1 rfl) ?_
              refine gX11_1 S hK hT ha kf_X11_9 dX11_put_80 (fun _ _ => ?_)
              refine lv_iload hx hb dX11_put_83 (lv_at hl 0 rfl) ?_
              refine lv_iconst (v := 1) hx hb dX11_put_85 (by decide) ?_
              refine as_0 (x := 1) S hK hT hS hk9999c ar_30 aw_30 (by decide) (z_X11_put_10 p0.toInt p1.toInt x74.toInt z52 z52a t74) dX11_put_86 (fun H locs hT hS => ?_)
              obtain ⟨G86, hG86⟩ : ∃ GG : XG, GG = cput G69 (F a 1) x74.toNatClampNeg 1 := ⟨_, rfl⟩
              rw [← hG86] at hT
              refine lv_aload_n hx hb dX11_put_87 rfl (lv_at hl 1 rfl) ?_
              refine gX11_1 S hK hT ha kf_X11_9 dX11_put_88 (fun _ _ => ?_)
              refine lv_iload hx hb dX11_put_91 (lv_at hl 0 rfl) ?_
              refine lv_iconst (v := 1) hx hb dX11_put_93 (by decide) ?_
              refine xi_iadd hx hb (rfl : Int32.toInt x74 = x74.toInt) ((by decide) : Int32.toInt 1 = (1 : Int)) dX11_put_94 (fun x94 t94 => ?_)
              refine lv_iload_n hx hb dX11_put_95 rfl (lv_at hl 4 rfl) ?_
              refine as_0 (x := p2) S hK hT hS hk9999c ar_30 aw_30 (by decide) (z_X11_put_11 p0.toInt p1.toInt x74.toInt x94.toInt z52 z52a t74 t94) dX11_put_96 (fun H locs hT hS => ?_)
              obtain ⟨G96, hG96⟩ : ∃ GG : XG, GG = cput G86 (F a 1) x94.toNatClampNeg p2 := ⟨_, rfl⟩
              rw [← hG96] at hT
              refine lv_aload_n hx hb dX11_put_97 rfl (lv_at hl 1 rfl) ?_
              refine gX11_1 S hK hT ha kf_X11_9 dX11_put_98 (fun _ _ => ?_)
              refine lv_iload hx hb dX11_put_101 (lv_at hl 0 rfl) ?_
              refine lv_iconst (v := 2) hx hb dX11_put_103 (by decide) ?_
              refine xi_iadd hx hb (rfl : Int32.toInt x74 = x74.toInt) ((by decide) : Int32.toInt 2 = (2 : Int)) dX11_put_104 (fun x104 t104 => ?_)
              refine lv_iload hx hb dX11_put_105 (lv_at hl 5 rfl) ?_
              refine as_0 (x := p3) S hK hT hS hk9999c ar_30 aw_30 (by decide) (z_X11_put_12 p0.toInt p1.toInt x104.toInt x74.toInt z52 z52a t74 t104) dX11_put_107 (fun H locs hT hS => ?_)
              obtain ⟨G107, hG107⟩ : ∃ GG : XG, GG = cput G96 (F a 1) x104.toNatClampNeg p3 := ⟨_, rfl⟩
              rw [← hG107] at hT
              refine lv_aload_n hx hb dX11_put_108 rfl (lv_at hl 1 rfl) ?_
              refine gX11_1 S hK hT ha kf_X11_9 dX11_put_109 (fun _ _ => ?_)
              refine lv_iload hx hb dX11_put_112 (lv_at hl 0 rfl) ?_
              refine lv_iconst (v := 3) hx hb dX11_put_114 (by decide) ?_
              refine xi_iadd hx hb (rfl : Int32.toInt x74 = x74.toInt) ((by decide) : Int32.toInt 3 = (3 : Int)) dX11_put_115 (fun x115 t115 => ?_)
              refine lv_iload hx hb dX11_put_116 (lv_at hl 6 rfl) ?_
              refine as_0 (x := p4) S hK hT hS hk9999c ar_30 aw_30 (by decide) (z_X11_put_13 p0.toInt p1.toInt x115.toInt x74.toInt z52 z52a t74 t115) dX11_put_118 (fun H locs hT hS => ?_)
              obtain ⟨G118, hG118⟩ : ∃ GG : XG, GG = cput G107 (F a 1) x115.toNatClampNeg p4 := ⟨_, rfl⟩
              rw [← hG118] at hT
              refine lv_aload_n hx hb dX11_put_119 rfl (lv_at hl 1 rfl) ?_
              refine x_cl0 (x_runV (b := a) (As := []) (rest := []) S (c_X11_settles l E K F G118 a (mw (G.2.1 (F a 1)) 0) ha (by rw [(show (G118.1 a 23).toInt = ((G6.1 a 23).toInt) from (congrArg Int32.toInt ((lc_d hG118).trans ((lc_d hG107).trans ((lc_d hG96).trans ((lc_d hG86).trans (hF69.1 _ _ xn0)))))).trans (rfl : Int32.toInt (G6.1 a 23) = ((G6.1 a 23).toInt)))] <;> exact (z_X11_put_14 ((G6.1 a 20).toInt) ((G6.1 a 21).toInt) ((G6.1 a 23).toInt) t6)) (by rw [(show (G118.1 a 43).toInt = ((G.1 a 43).toInt) from (congrArg Int32.toInt ((lc_d hG118).trans ((lc_d hG107).trans ((lc_d hG96).trans ((lc_d hG86).trans ((hF69.1 _ _ xn0).trans ((hF6.1 _ _ (xnj (by decide) (xnj (by decide) (xnj (by decide) xn0)))).trans (ld_j hG2 (by decide))))))))).trans (rfl : Int32.toInt (G.1 a 43) = ((G.1 a 43).toInt)))] <;> exact (am)) (v_X11_put_120_12 (F := F) a G G118 hR ((lc_c hG118 (xne_k hk9999m hk9999c (by decide))).trans ((lc_c hG107 (xne_k hk9999m hk9999c (by decide))).trans ((lc_c hG96 (xne_k hk9999m hk9999c (by decide))).trans ((lc_c hG86 (xne_k hk9999m hk9999c (by decide))).trans ((hF69.2.1 _ (xn1 (xne_k hk9999m hk9999k (by decide)) (xn1 (xne_k hk9999m hk9999l (by decide)) xn0))).trans ((hF6.2.1 _ xn0).trans (ld_c hG2)))))))) (v_X11_put_120_13 (F := F) G86 G69 a x74 G96 x94 p2 G107 x104 p3 G118 x115 p4 G p0 p1 x55 hG86 hG96 hG107 hG118 hM z52 z52a z52b z52c z52d t55 c58 t74 t94 t104 t115 ((hF69.2.1 _ (xn1 (xne_k hk9999c hk9999k (by decide)) (xn1 (xne_k hk9999c hk9999l (by decide)) xn0))).trans ((hF6.2.1 _ xn0).trans (ld_c hG2)))) (v_X11_put_120_14 (F := F) a G G69 G118 hM hB oq69a ((lc_c hG118 (xne_k hk9999k hk9999c (by decide))).trans ((lc_c hG107 (xne_k hk9999k hk9999c (by decide))).trans ((lc_c hG96 (xne_k hk9999k hk9999c (by decide))).trans (lc_c hG86 (xne_k hk9999k hk9999c (by decide))))))) (v_X11_put_120_15 (F := F) a G G69 G118 hM hB oq69a ((lc_c hG118 (xne_k hk9999n hk9999c (by decide))).trans ((lc_c hG107 (xne_k hk9999n hk9999c (by decide))).trans ((lc_c hG96 (xne_k hk9999n hk9999c (by decide))).trans ((lc_c hG86 (xne_k hk9999n hk9999c (by decide))).trans ((hF69.2.1 _ (xn1 (xne_j hj9999n hj9999k (by first | decide | omega)) (xn1 (xne_k hk9999n hk9999l (by decide)) xn0))).trans ((hF6.2.1 _ xn0).trans (ld_c hG2)))))))) (v_X11_put_120_16 (F := F) a G G69 G118 oq69b ((lc_c hG118 (xne_k hk9999m hk9999c (by decide))).trans ((lc_c hG107 (xne_k hk9999m hk9999c (by decide))).trans ((lc_c hG96 (xne_k hk9999m hk9999c (by decide))).trans ((lc_c hG86 (xne_k hk9999m hk9999c (by decide))).trans ((hF69.2.1 _ (xn1 (xne_k hk9999m hk9999k (by decide)) (xn1 (xne_k hk9999m hk9999l (by decide)) xn0))).trans ((hF6.2.1 _ xn0).trans (ld_c hG2))))))) ((lc_c hG118 (xne_k hk9999l hk9999c (by decide))).trans ((lc_c hG107 (xne_k hk9999l hk9999c (by decide))).trans ((lc_c hG96 (xne_k hk9999l hk9999c (by decide))).trans (lc_c hG86 (xne_k hk9999l hk9999c (by decide)))))))) mv_X11_settles km_X11_353 rfl rfl ⟨Nat.le_of_ble_eq_true rfl, Nat.le_of_ble_eq_true rfl⟩ (rc_13 hK hT ha) hK (fun _ => XP.blind) (fun U hU hW => XP.at hK hz hS hT hU hW) rfl hl.1 (Nat.le_of_ble_eq_true rfl) dX11_put_120 ⟨Nat.le_of_ble_eq_true rfl, Nat.le_of_ble_eq_true rfl⟩) hS ?_
              rintro _ G120 H locs ⟨x120, rfl, hF120, t120, oq120, oq120a⟩ hT hS
              have t120 : (0 ≤ ((G120.1 a 23).toInt) ∧ ((G120.1 a 23).toInt) ≤ 24) ∧ (0 ≤ ((G120.1 a 43).toInt) ∧ ((G120.1 a 43).toInt) ≤ 2388) := t120
              have oq120 : ((ffP (G.2.1 (F a 10)) (mw (G118.2.1 (F a 1)) 0) (fuO (G.2.1 (F a 10)) (mw (G.2.1 (F a 1)) 0) (mw (G118.2.1 (F a 1)) 0) 0) ≠ -1 ∨ (((G.1 a 6).toInt) = 0 ∧ ffP (G.2.1 (F a 10)) (mw (G118.2.1 (F a 1)) 0) (fuO (G.2.1 (F a 10)) (mw (G.2.1 (F a 1)) 0) (mw (G118.2.1 (F a 1)) 0) 1) ≠ -1)) ∧ x120.toInt = -5 ∧ mw (G120.2.1 (F a 1)) 0 = mw (G69.2.1 (F a 4)) 0) ∨ (ffP (G.2.1 (F a 10)) (mw (G118.2.1 (F a 1)) 0) (fuO (G.2.1 (F a 10)) (mw (G.2.1 (F a 1)) 0) (mw (G118.2.1 (F a 1)) 0) 0) = -1 ∧ (((G.1 a 6).toInt) = 0 → ffP (G.2.1 (F a 10)) (mw (G118.2.1 (F a 1)) 0) (fuO (G.2.1 (F a 10)) (mw (G.2.1 (F a 1)) 0) (mw (G118.2.1 (F a 1)) 0) 1) = -1) ∧ x120.toInt = (((fuO (G.2.1 (F a 10)) (mw (G.2.1 (F a 1)) 0) (mw (G118.2.1 (F a 1)) 0) 2).length : Nat) : Int) ∧ mw (G120.2.1 (F a 1)) 0 = mw (G118.2.1 (F a 1)) 0) := by simp only [(show G118.2.1 (F a 10) = G.2.1 (F a 10) from ((lc_c hG118 (xne_k hk9999m hk9999c (by decide))).trans ((lc_c hG107 (xne_k hk9999m hk9999c (by decide))).trans ((lc_c hG96 (xne_k hk9999m hk9999c (by decide))).trans ((lc_c hG86 (xne_k hk9999m hk9999c (by decide))).trans ((hF69.2.1 _ (xn1 (xne_k hk9999m hk9999k (by decide)) (xn1 (xne_k hk9999m hk9999l (by decide)) xn0))).trans ((hF6.2.1 _ xn0).trans (ld_c hG2)))))))), (show G118.1 a 6 = G.1 a 6 from ((lc_d hG118).trans ((lc_d hG107).trans ((lc_d hG96).trans ((lc_d hG86).trans ((hF69.1 _ _ xn0).trans ((hF6.1 _ _ (xnj (by decide) (xnj (by decide) (xnj (by decide) xn0)))).trans (ld_j hG2 (by decide))))))))), (show G118.2.1 (F a 4) = G69.2.1 (F a 4) from ((lc_c hG118 (xne_k hk9999k hk9999c (by decide))).trans ((lc_c hG107 (xne_k hk9999k hk9999c (by decide))).trans ((lc_c hG96 (xne_k hk9999k hk9999c (by decide))).trans (lc_c hG86 (xne_k hk9999k hk9999c (by decide)))))))] at oq120; exact oq120
              exact x_ri hx hb hr hlk hQ (Nat.le_of_ble_eq_true rfl) (Nat.le_of_ble_eq_true rfl) hS dX11_put_123 G120 ⟨_, rfl, (XFr.call (by rw [hG118]; exact XFr.cput (by rw [hG107]; exact XFr.cput (by rw [hG96]; exact XFr.cput (by rw [hG86]; exact XFr.cput (XFr.call (XFr.call (by rw [hG2]; exact XFr.dput XFr.rf (List.mem_of_getElem? (i := 9) rfl)) hF6 (xm1 2 rfl (xm1 3 rfl (xm1 4 rfl xm0))) xm0 xm0) hF69 xm0 (xm1 11 rfl (xm1 12 rfl xm0)) xm0) (List.mem_of_getElem? (i := 3) rfl)) (List.mem_of_getElem? (i := 3) rfl)) (List.mem_of_getElem? (i := 3) rfl)) (List.mem_of_getElem? (i := 3) rfl)) hF120 (xm1 0 rfl (xm1 1 rfl (xm1 2 rfl (xm1 3 rfl (xm1 4 rfl (xm1 5 rfl (xm1 6 rfl (xm1 7 rfl (xm1 8 rfl xm0))))))))) (xm1 0 rfl (xm1 1 rfl (xm1 2 rfl (xm1 3 rfl (xm1 4 rfl (xm1 5 rfl (xm1 6 rfl (xm1 7 rfl (xm1 8 rfl (xm1 9 rfl (xm1 10 rfl xm0))))))))))) xm0), (t120), (v_X11_put_123_17 (F := F) G86 G69 a x74 G96 x94 p2 G107 x104 p3 G118 x115 p4 G x120 G120 p0 p1 x55 hG86 hG96 hG107 hG118 oq69 oq120 z52 z52a z52b z52c z52d t55 c58 t74 t94 t104 t115 ((hF69.2.1 _ (xn1 (xne_k hk9999c hk9999k (by decide)) (xn1 (xne_k hk9999c hk9999l (by decide)) xn0))).trans ((hF6.2.1 _ xn0).trans (ld_c hG2)))), (v_X11_put_123_18 (F := F) a G120 oq120a)⟩ hT
            · refine lv_aload_n hx hb dX11_put_61 rfl (lv_at hl 0 rfl) ?_
              refine lv_bipush (v := (-4)) hx hb dX11_put_62 (by decide) ?_
              refine x_cl0 (x_runV (b := a) (As := [.int (-4)]) (rest := []) S (c_X11_refuses l E K F G6 a (-4) ha) mv_X11_refuses km_X11_325 rfl rfl ⟨Nat.le_of_ble_eq_true rfl, Nat.le_of_ble_eq_true rfl⟩ (rc_13 hK hT ha) hK (fun _ => XP.blind) (fun U hU hW => XP.at hK hz hS hT hU hW) rfl hl.1 (Nat.le_of_ble_eq_true rfl) dX11_put_64 ⟨Nat.le_of_ble_eq_true rfl, Nat.le_of_ble_eq_true rfl⟩) hS ?_
              rintro _ G64 H locs ⟨x64, rfl, hF64, t64⟩ hT hS
              have t64 : x64.toInt = (-4 : Int) := by rw [((by decide) : Int32.toInt (-4) = (-4 : Int))] at t64; exact t64
              exact x_ri hx hb hr hlk hQ (Nat.le_of_ble_eq_true rfl) (Nat.le_of_ble_eq_true rfl) hS dX11_put_67 G64 ⟨_, rfl, (XFr.call (XFr.call (by rw [hG2]; exact XFr.dput XFr.rf (List.mem_of_getElem? (i := 9) rfl)) hF6 (xm1 2 rfl (xm1 3 rfl (xm1 4 rfl xm0))) xm0 xm0) hF64 xm0 (xm1 4 rfl xm0) xm0), (by rw [(show (G64.1 a 23).toInt = ((G6.1 a 23).toInt) from (congrArg Int32.toInt (hF64.1 _ _ xn0)).trans (rfl : Int32.toInt (G6.1 a 23) = ((G6.1 a 23).toInt))), (show (G64.1 a 43).toInt = ((G.1 a 43).toInt) from (congrArg Int32.toInt ((hF64.1 _ _ xn0).trans ((hF6.1 _ _ (xnj (by decide) (xnj (by decide) (xnj (by decide) xn0)))).trans (ld_j hG2 (by decide))))).trans (rfl : Int32.toInt (G.1 a 43) = ((G.1 a 43).toInt)))] <;> exact (z_X11_put_1 ((G.1 a 43).toInt) ((G6.1 a 20).toInt) ((G6.1 a 21).toInt) ((G6.1 a 23).toInt) am t6)), (by rw [(t64 : Int32.toInt x64 = (-4 : Int))] <;> exact (v_X11_put_67_19 (F := F) p0 p1 p2 p3 p4 x55 G a G64 z52 z52a z52b z52c z52d t55 c58 ((hF64.2.1 _ (xn1 (xne_k hk9999c hk9999d (by decide)) xn0)).trans ((hF6.2.1 _ xn0).trans (ld_c hG2))))), (v_X11_put_67_20 (F := F) a G G64 hM ((hF64.2.1 _ (xn1 (xne_k hk9999c hk9999d (by decide)) xn0)).trans ((hF6.2.1 _ xn0).trans (ld_c hG2))))⟩ hT
          · refine lv_aload_n hx hb dX11_put_46 rfl (lv_at hl 0 rfl) ?_
            refine lv_iconst (v := (-1)) hx hb dX11_put_47 (by decide) ?_
            refine x_cl0 (x_runV (b := a) (As := [.int (-1)]) (rest := []) S (c_X11_refuses l E K F G6 a (-1) ha) mv_X11_refuses km_X11_325 rfl rfl ⟨Nat.le_of_ble_eq_true rfl, Nat.le_of_ble_eq_true rfl⟩ (rc_13 hK hT ha) hK (fun _ => XP.blind) (fun U hU hW => XP.at hK hz hS hT hU hW) rfl hl.1 (Nat.le_of_ble_eq_true rfl) dX11_put_48 ⟨Nat.le_of_ble_eq_true rfl, Nat.le_of_ble_eq_true rfl⟩) hS ?_
            rintro _ G48 H locs ⟨x48, rfl, hF48, t48⟩ hT hS
            have t48 : x48.toInt = (-1 : Int) := by rw [((by decide) : Int32.toInt (-1) = (-1 : Int))] at t48; exact t48
            exact x_ri hx hb hr hlk hQ (Nat.le_of_ble_eq_true rfl) (Nat.le_of_ble_eq_true rfl) hS dX11_put_51 G48 ⟨_, rfl, (XFr.call (XFr.call (by rw [hG2]; exact XFr.dput XFr.rf (List.mem_of_getElem? (i := 9) rfl)) hF6 (xm1 2 rfl (xm1 3 rfl (xm1 4 rfl xm0))) xm0 xm0) hF48 xm0 (xm1 4 rfl xm0) xm0), (by rw [(show (G48.1 a 23).toInt = ((G6.1 a 23).toInt) from (congrArg Int32.toInt (hF48.1 _ _ xn0)).trans (rfl : Int32.toInt (G6.1 a 23) = ((G6.1 a 23).toInt))), (show (G48.1 a 43).toInt = ((G.1 a 43).toInt) from (congrArg Int32.toInt ((hF48.1 _ _ xn0).trans ((hF6.1 _ _ (xnj (by decide) (xnj (by decide) (xnj (by decide) xn0)))).trans (ld_j hG2 (by decide))))).trans (rfl : Int32.toInt (G.1 a 43) = ((G.1 a 43).toInt)))] <;> exact (z_X11_put_1 ((G.1 a 43).toInt) ((G6.1 a 20).toInt) ((G6.1 a 21).toInt) ((G6.1 a 23).toInt) am t6)), (by rw [(t48 : Int32.toInt x48 = (-1 : Int))] <;> exact (v_X11_put_51_21 (F := F) x40 p4 G48 a G p0 p1 p2 p3 t40 c43 ((hF48.2.1 _ (xn1 (xne_k hk9999c hk9999d (by decide)) xn0)).trans ((hF6.2.1 _ xn0).trans (ld_c hG2))))), (v_X11_put_51_22 (F := F) a G G48 hM ((hF48.2.1 _ (xn1 (xne_k hk9999c hk9999d (by decide)) xn0)).trans ((hF6.2.1 _ xn0).trans (ld_c hG2))))⟩ hT

theorem z_X11_isFor_1 (a0 : Int) (a1 : Int) (a2 : Int) (a3 : Int) (a4 : Int) (a5 : Int) (a6 : Int) (h0 : ((0 ≤ a0 ∧ a0 < 12 ∧ a3 = 1 ∧ a4 = a1) ∧ a6 = a5) ∨ (¬ (0 ≤ a0 ∧ a0 < 12 ∧ a3 = 1 ∧ a4 = a1) ∧ a6 = 0)) (h1 : (a2 = 1 ∧ 0 ≤ a0 ∧ a0 ≤ 11 ∧ a3 ≠ -1) ∨ (a2 = 0 ∧ (¬ (0 ≤ a0 ∧ a0 ≤ 11) ∨ a3 = -1))) (h2 : a2 = 0) : ((0 : Int) = 1 ∧ 0 < a6) ∨ ((0 : Int) = 0 ∧ ¬ (0 < a6)) := by omega
theorem z_X11_isFor_2 (a0 : Int) (a1 : Int) (a2 : Int) (h0 : (a1 = 1 ∧ 0 ≤ a0 ∧ a0 ≤ 11 ∧ a2 ≠ -1) ∨ (a1 = 0 ∧ (¬ (0 ≤ a0 ∧ a0 ≤ 11) ∨ a2 = -1))) (h1 : ¬ (a1 = 0)) : 0 ≤ a0 ∧ a0 ≤ 11 := by omega
theorem z_X11_isFor_3 (a0 : Int) (a1 : Int) (a2 : Int) (a3 : Int) (a4 : Int) (a5 : Int) (h0 : ((0 ≤ a0 ∧ a0 < 12 ∧ a2 = 1 ∧ a3 = a1) ∧ a5 = a4) ∨ (¬ (0 ≤ a0 ∧ a0 < 12 ∧ a2 = 1 ∧ a3 = a1) ∧ a5 = 0)) (h1 : a2 ≠ (1 : Int)) : ((0 : Int) = 1 ∧ 0 < a5) ∨ ((0 : Int) = 0 ∧ ¬ (0 < a5)) := by omega
theorem z_X11_isFor_5 (a0 : Int) (a1 : Int) (a2 : Int) (a3 : Int) (a4 : Int) (a5 : Int) (h0 : ((0 ≤ a0 ∧ a0 < 12 ∧ a2 = 1 ∧ a3 = a1) ∧ a5 = a4) ∨ (¬ (0 ≤ a0 ∧ a0 < 12 ∧ a2 = 1 ∧ a3 = a1) ∧ a5 = 0)) (h1 : a3 ≠ a1) : ((0 : Int) = 1 ∧ 0 < a5) ∨ ((0 : Int) = 0 ∧ ¬ (0 < a5)) := by omega
theorem z_X11_isFor_7 (a0 : Int) (a1 : Int) (a2 : Int) (a3 : Int) (a4 : Int) (a5 : Int) (h0 : ((0 ≤ a0 ∧ a0 < 12 ∧ a2 = 1 ∧ a3 = a1) ∧ a5 = a4) ∨ (¬ (0 ≤ a0 ∧ a0 < 12 ∧ a2 = 1 ∧ a3 = a1) ∧ a5 = 0)) (h1 : a4 ≤ 0) : ((0 : Int) = 1 ∧ 0 < a5) ∨ ((0 : Int) = 0 ∧ ¬ (0 < a5)) := by omega
theorem z_X11_isFor_8 (a0 : Int) (a1 : Int) (a2 : Int) (a3 : Int) (a4 : Int) (a5 : Int) (a6 : Int) (h0 : ((0 ≤ a0 ∧ a0 < 12 ∧ a3 = 1 ∧ a4 = a1) ∧ a6 = a5) ∨ (¬ (0 ≤ a0 ∧ a0 < 12 ∧ a3 = 1 ∧ a4 = a1) ∧ a6 = 0)) (h1 : (a2 = 1 ∧ 0 ≤ a0 ∧ a0 ≤ 11 ∧ a3 ≠ -1) ∨ (a2 = 0 ∧ (¬ (0 ≤ a0 ∧ a0 ≤ 11) ∨ a3 = -1))) (h2 : ¬ (a2 = 0)) (h3 : ¬ (a3 ≠ (1 : Int))) (h4 : ¬ (a4 ≠ a1)) (h5 : ¬ (a5 ≤ 0)) : ((1 : Int) = 1 ∧ 0 < a6) ∨ ((1 : Int) = 0 ∧ ¬ (0 < a6)) := by omega
abbrev rm_X11_isFor : Room := { frames := 2, cells := 0, slots := 0, locals := 46 }
set_option maxHeartbeats 4000000 in
set_option maxRecDepth 100000 in
theorem c_X11_isFor (l : Launch) (E : XE) (K : Nat → Nat) (F : Nat → Nat → Nat) (G : XG) (h0 : Heap) (a : Nat) (p0 : Int32) (p1 : Int32) (ha : K a = 13) : Met l yX11_isFor (xw yX11_isFor cX11_isFor 3 (some .boolean)) rm_X11_isFor (va_Pc [.ref a, .int p0, .int p1] (XPh E K F G h0)) (XQ E (fun v (u : Unit) => ∃ r : Int32, v = .int r ∧ (r = 0 ∨ r = 1) ∧ ((r.toInt = 1 ∧ 0 < (refA (G.2.1 (F a 10)) (p0.toInt) (p1.toInt))) ∨ (r.toInt = 0 ∧ ¬ (0 < (refA (G.2.1 (F a 10)) (p0.toInt) (p1.toInt)))))) (fun _ H => H = h0)) 0 0 (xA E) := by
  refine x_enter (by decide) (Nat.le_of_ble_eq_true rfl) ?_
  intro p e s m args below meth c Q S hr hlk hnm hQ hP ls hl
  obtain ⟨⟨hz, hK, hT⟩, hh⟩ := hP
  obtain ⟨hx, hb, -, -, -⟩ := id S
  have hS : va_S (xA E) s.heap s.heap [] := va_S.rf
  have hl : lv_has ls 3 [(0, .ref a), (1, .int p0), (2, .int p1)] := hl
  obtain ⟨hk9999, hj9999⟩ := fkX11_10 hT ha
  have z0 : ((0 ≤ p0.toInt ∧ p0.toInt < 12 ∧ (aI (G.2.1 (F a 10)) (10 * p0.toInt + 0)) = 1 ∧ (aI (G.2.1 (F a 10)) (10 * p0.toInt + 3)) = p1.toInt) ∧ (refA (G.2.1 (F a 10)) (p0.toInt) (p1.toInt)) = (aI (G.2.1 (F a 10)) (10 * p0.toInt + 8))) ∨ (¬ (0 ≤ p0.toInt ∧ p0.toInt < 12 ∧ (aI (G.2.1 (F a 10)) (10 * p0.toInt + 0)) = 1 ∧ (aI (G.2.1 (F a 10)) (10 * p0.toInt + 3)) = p1.toInt) ∧ (refA (G.2.1 (F a 10)) (p0.toInt) (p1.toInt)) = 0) := refA_f
  refine lv_aload_n hx hb dX11_isFor_0 rfl (lv_at hl 0 rfl) ?_
  refine lv_iload_n hx hb dX11_isFor_1 rfl (lv_at hl 1 rfl) ?_
  refine x_clp (x_runV (b := a) (As := [.int p0]) (rest := []) S (c_X11_isRule l E K F G s.heap a p0 ha) mv_X11_isRule km_X11_162 rfl rfl ⟨Nat.le_of_ble_eq_true rfl, Nat.le_of_ble_eq_true rfl⟩ (rc_13 hK hT ha) hK (fun _ => XPh.blind) (fun U hU hW => XPh.at hK hz hS hT hU hW) rfl hl.1 (Nat.le_of_ble_eq_true rfl) dX11_isFor_2 ⟨Nat.le_of_ble_eq_true rfl, Nat.le_of_ble_eq_true rfl⟩) hS ?_
  rintro _ _ locs ⟨x2, rfl, b2, t2⟩ hS
  have t2 : (x2.toInt = 1 ∧ 0 ≤ p0.toInt ∧ p0.toInt ≤ 11 ∧ (aI (G.2.1 (F a 10)) (10 * p0.toInt + 0)) ≠ -1) ∨ (x2.toInt = 0 ∧ (¬ (0 ≤ p0.toInt ∧ p0.toInt ≤ 11) ∨ (aI (G.2.1 (F a 10)) (10 * p0.toInt + 0)) = -1)) := t2
  refine xi_zeq (tgt := 42) hx hb (rfl : Int32.toInt x2 = x2.toInt) dX11_isFor_5 (by decide) (fun c5 => ?_) (fun c5 => ?_)
  · refine lv_iconst (v := 0) hx hb dX11_isFor_42 (by decide) ?_
    exact x_rz hx hb hr (xnz (Or.inl rfl)) hlk hQ (Nat.le_of_ble_eq_true rfl) (Nat.le_of_ble_eq_true rfl) hS dX11_isFor_43 () ⟨_, rfl, (Or.inl rfl), (z_X11_isFor_1 p0.toInt p1.toInt x2.toInt (aI (G.2.1 (F a 10)) (10 * p0.toInt + 0)) (aI (G.2.1 (F a 10)) (10 * p0.toInt + 3)) (aI (G.2.1 (F a 10)) (10 * p0.toInt + 8)) (refA (G.2.1 (F a 10)) (p0.toInt) (p1.toInt)) z0 t2 c5)⟩ hh
  · refine lv_aload_n hx hb dX11_isFor_8 rfl (lv_at hl 0 rfl) ?_
    refine lv_iload_n hx hb dX11_isFor_9 rfl (lv_at hl 1 rfl) ?_
    refine lv_iconst (v := 0) hx hb dX11_isFor_10 (by decide) ?_
    refine x_clp (x_runV (b := a) (As := [.int p0, .int 0]) (rest := []) S (c_X11_of l E K F G s.heap a p0 0 ha (z_X11_isFor_2 p0.toInt x2.toInt (aI (G.2.1 (F a 10)) (10 * p0.toInt + 0)) t2 c5) (by decide)) mv_X11_of km_X11_165 rfl rfl ⟨Nat.le_of_ble_eq_true rfl, Nat.le_of_ble_eq_true rfl⟩ (rc_13 hK hT ha) hK (fun _ => XPh.blind) (fun U hU hW => XPh.at hK hz hS hT hU hW) rfl hl.1 (Nat.le_of_ble_eq_true rfl) dX11_isFor_11 ⟨Nat.le_of_ble_eq_true rfl, Nat.le_of_ble_eq_true rfl⟩) hS ?_
    rintro _ _ locs ⟨x11, rfl, t11⟩ hS
    have t11 : x11.toInt = (aI (G.2.1 (F a 10)) (10 * p0.toInt + 0)) := t11
    refine lv_iconst (v := 1) hx hb dX11_isFor_14 (by decide) ?_
    refine xi_cne (tgt := 42) hx hb (t11 : Int32.toInt x11 = (aI (G.2.1 (F a 10)) (10 * p0.toInt + 0))) ((by decide) : Int32.toInt 1 = (1 : Int)) dX11_isFor_15 (by decide) (fun c15 => ?_) (fun c15 => ?_)
    · refine lv_iconst (v := 0) hx hb dX11_isFor_42 (by decide) ?_
      exact x_rz hx hb hr (xnz (Or.inl rfl)) hlk hQ (Nat.le_of_ble_eq_true rfl) (Nat.le_of_ble_eq_true rfl) hS dX11_isFor_43 () ⟨_, rfl, (Or.inl rfl), (z_X11_isFor_3 p0.toInt p1.toInt (aI (G.2.1 (F a 10)) (10 * p0.toInt + 0)) (aI (G.2.1 (F a 10)) (10 * p0.toInt + 3)) (aI (G.2.1 (F a 10)) (10 * p0.toInt + 8)) (refA (G.2.1 (F a 10)) (p0.toInt) (p1.toInt)) z0 c15)⟩ hh
    · refine lv_aload_n hx hb dX11_isFor_18 rfl (lv_at hl 0 rfl) ?_
      refine lv_iload_n hx hb dX11_isFor_19 rfl (lv_at hl 1 rfl) ?_
      refine lv_iconst (v := 3) hx hb dX11_isFor_20 (by decide) ?_
      refine x_clp (x_runV (b := a) (As := [.int p0, .int 3]) (rest := []) S (c_X11_of l E K F G s.heap a p0 3 ha (z_X11_isFor_2 p0.toInt x2.toInt (aI (G.2.1 (F a 10)) (10 * p0.toInt + 0)) t2 c5) (by decide)) mv_X11_of km_X11_165 rfl rfl ⟨Nat.le_of_ble_eq_true rfl, Nat.le_of_ble_eq_true rfl⟩ (rc_13 hK hT ha) hK (fun _ => XPh.blind) (fun U hU hW => XPh.at hK hz hS hT hU hW) rfl hl.1 (Nat.le_of_ble_eq_true rfl) dX11_isFor_21 ⟨Nat.le_of_ble_eq_true rfl, Nat.le_of_ble_eq_true rfl⟩) hS ?_
      rintro _ _ locs ⟨x21, rfl, t21⟩ hS
      have t21 : x21.toInt = (aI (G.2.1 (F a 10)) (10 * p0.toInt + 3)) := t21
      refine lv_iload_n hx hb dX11_isFor_24 rfl (lv_at hl 2 rfl) ?_
      refine xi_cne (tgt := 42) hx hb (t21 : Int32.toInt x21 = (aI (G.2.1 (F a 10)) (10 * p0.toInt + 3))) (rfl : Int32.toInt p1 = p1.toInt) dX11_isFor_25 (by decide) (fun c25 => ?_) (fun c25 => ?_)
      · refine lv_iconst (v := 0) hx hb dX11_isFor_42 (by decide) ?_
        exact x_rz hx hb hr (xnz (Or.inl rfl)) hlk hQ (Nat.le_of_ble_eq_true rfl) (Nat.le_of_ble_eq_true rfl) hS dX11_isFor_43 () ⟨_, rfl, (Or.inl rfl), (z_X11_isFor_5 p0.toInt p1.toInt (aI (G.2.1 (F a 10)) (10 * p0.toInt + 0)) (aI (G.2.1 (F a 10)) (10 * p0.toInt + 3)) (aI (G.2.1 (F a 10)) (10 * p0.toInt + 8)) (refA (G.2.1 (F a 10)) (p0.toInt) (p1.toInt)) z0 c25)⟩ hh
      · refine lv_aload_n hx hb dX11_isFor_28 rfl (lv_at hl 0 rfl) ?_
        refine lv_iload_n hx hb dX11_isFor_29 rfl (lv_at hl 1 rfl) ?_
        refine lv_bipush (v := 8) hx hb dX11_isFor_30 (by decide) ?_
        refine x_clp (x_runV (b := a) (As := [.int p0, .int 8]) (rest := []) S (c_X11_of l E K F G s.heap a p0 8 ha (z_X11_isFor_2 p0.toInt x2.toInt (aI (G.2.1 (F a 10)) (10 * p0.toInt + 0)) t2 c5) (by decide)) mv_X11_of km_X11_165 rfl rfl ⟨Nat.le_of_ble_eq_true rfl, Nat.le_of_ble_eq_true rfl⟩ (rc_13 hK hT ha) hK (fun _ => XPh.blind) (fun U hU hW => XPh.at hK hz hS hT hU hW) rfl hl.1 (Nat.le_of_ble_eq_true rfl) dX11_isFor_32 ⟨Nat.le_of_ble_eq_true rfl, Nat.le_of_ble_eq_true rfl⟩) hS ?_
        rintro _ _ locs ⟨x32, rfl, t32⟩ hS
        have t32 : x32.toInt = (aI (G.2.1 (F a 10)) (10 * p0.toInt + 8)) := t32
        refine xi_zle (tgt := 42) hx hb (t32 : Int32.toInt x32 = (aI (G.2.1 (F a 10)) (10 * p0.toInt + 8))) dX11_isFor_35 (by decide) (fun c35 => ?_) (fun c35 => ?_)
        · refine lv_iconst (v := 0) hx hb dX11_isFor_42 (by decide) ?_
          exact x_rz hx hb hr (xnz (Or.inl rfl)) hlk hQ (Nat.le_of_ble_eq_true rfl) (Nat.le_of_ble_eq_true rfl) hS dX11_isFor_43 () ⟨_, rfl, (Or.inl rfl), (z_X11_isFor_7 p0.toInt p1.toInt (aI (G.2.1 (F a 10)) (10 * p0.toInt + 0)) (aI (G.2.1 (F a 10)) (10 * p0.toInt + 3)) (aI (G.2.1 (F a 10)) (10 * p0.toInt + 8)) (refA (G.2.1 (F a 10)) (p0.toInt) (p1.toInt)) z0 c35)⟩ hh
        · refine lv_iconst (v := 1) hx hb dX11_isFor_38 (by decide) ?_
          refine lv_goto (tgt := 43) hx hb dX11_isFor_39 (by decide) ?_
          exact x_rz hx hb hr (xnz (Or.inr rfl)) hlk hQ (Nat.le_of_ble_eq_true rfl) (Nat.le_of_ble_eq_true rfl) hS dX11_isFor_43 () ⟨_, rfl, (Or.inr rfl), (z_X11_isFor_8 p0.toInt p1.toInt x2.toInt (aI (G.2.1 (F a 10)) (10 * p0.toInt + 0)) (aI (G.2.1 (F a 10)) (10 * p0.toInt + 3)) (aI (G.2.1 (F a 10)) (10 * p0.toInt + 8)) (refA (G.2.1 (F a 10)) (p0.toInt) (p1.toInt)) z0 t2 c5 c15 c25 c35)⟩ hh

theorem z_X11_goes_1 (a0 : Int) (h0 : 0 ≤ a0 ∧ a0 < 90) : 0 ≤ a0 ∧ a0 < ((90 : Nat) : Int) := by omega
abbrev rm_X11_goes : Room := { frames := 1, cells := 0, slots := 0, locals := 21 }
set_option maxHeartbeats 4000000 in
set_option maxRecDepth 100000 in
theorem c_X11_goes (l : Launch) (E : XE) (K : Nat → Nat) (F : Nat → Nat → Nat) (G : XG) (a : Nat) (p0 : Int32) (p1 : Int32) (p2 : Int32) (ha : K a = 13) (e0 : 0 ≤ p0.toInt ∧ p0.toInt < 90) (e1 : 0 ≤ p1.toInt ∧ p1.toInt < 3) (e2 : 0 ≤ p2.toInt ∧ p2.toInt < 30) (hM : RM (G.2.1 (F a 1)) 0) : Met l yX11_goes (xw yX11_goes cX11_goes 4 none) rm_X11_goes (va_Pc [.ref a, .int p0, .int p1, .int p2] (XP E K F G)) (XQv E (fun (u : XG) => XFr [] [F a 47, F a 48, F a 49, F a 50, F a 1] [] G u ∧ (∀ z : Int, 0 ≤ z → aI (u.2.1 (F a 47)) z = if z = p0.toInt then p1.toInt else aI (G.2.1 (F a 47)) z) ∧ (∀ z : Int, 0 ≤ z → aI (u.2.1 (F a 48)) z = if z = p0.toInt then p2.toInt else aI (G.2.1 (F a 48)) z) ∧ (∀ z : Int, 0 ≤ z → aI (u.2.1 (F a 49)) z = if z = p0.toInt then 0 else aI (G.2.1 (F a 49)) z) ∧ (∀ z : Int, 0 ≤ z → aI (u.2.1 (F a 50)) z = if z = p0.toInt then 0 else aI (G.2.1 (F a 50)) z) ∧ (mw (u.2.1 (F a 1)) 0 = rfil (mw (G.2.1 (F a 1)) 0) p1.toInt p2.toInt (-2000) 3) ∧ (RM (u.2.1 (F a 1)) 0)) (fun u H => TW E K F u H)) 0 0 (xA E) := by
  refine x_enter (by decide) (Nat.le_of_ble_eq_true rfl) ?_
  intro p e s m args below meth c Q S hr hlk hnm hQ hP ls hl
  obtain ⟨hz, hK, hT⟩ := hP
  obtain ⟨hx, hb, -, -, -⟩ := id S
  obtain ⟨H, hT, hS, hgo⟩ : ∃ H : Heap, TW E K F G H ∧ va_S (xA E) s.heap H [] ∧ H = s.heap := ⟨_, hT, va_S.rf, rfl⟩
  rw [← hgo]
  have hl : lv_has ls 4 [(0, .ref a), (1, .int p0), (2, .int p1), (3, .int p2)] := hl
  obtain ⟨hk9999, hj9999⟩ := fkX11_47 hT ha
  obtain ⟨hk9999a, hj9999a⟩ := fkX11_48 hT ha
  obtain ⟨hk9999b, hj9999b⟩ := fkX11_49 hT ha
  obtain ⟨hk9999c, hj9999c⟩ := fkX11_50 hT ha
  obtain ⟨hk9999d, hj9999d⟩ := fkX11_1 hT ha
  refine lv_aload_n hx hb dX11_goes_0 rfl (lv_at hl 0 rfl) ?_
  refine gX11_47 S hK hT ha kf_X11_118 dX11_goes_1 (fun _ _ => ?_)
  refine lv_iload_n hx hb dX11_goes_4 rfl (lv_at hl 1 rfl) ?_
  refine lv_iload_n hx hb dX11_goes_5 rfl (lv_at hl 2 rfl) ?_
  refine as_0 (x := p1) S hK hT hS hk9999 ar_55 aw_55 (by decide) (z_X11_goes_1 p0.toInt e0) dX11_goes_6 (fun H locs hT hS => ?_)
  obtain ⟨G6, hG6⟩ : ∃ GG : XG, GG = cput G (F a 47) p0.toNatClampNeg p1 := ⟨_, rfl⟩
  rw [← hG6] at hT
  refine lv_aload_n hx hb dX11_goes_7 rfl (lv_at hl 0 rfl) ?_
  refine gX11_48 S hK hT ha kf_X11_121 dX11_goes_8 (fun _ _ => ?_)
  refine lv_iload_n hx hb dX11_goes_11 rfl (lv_at hl 1 rfl) ?_
  refine lv_iload_n hx hb dX11_goes_12 rfl (lv_at hl 3 rfl) ?_
  refine as_0 (x := p2) S hK hT hS hk9999a ar_56 aw_56 (by decide) (z_X11_goes_1 p0.toInt e0) dX11_goes_13 (fun H locs hT hS => ?_)
  obtain ⟨G13, hG13⟩ : ∃ GG : XG, GG = cput G6 (F a 48) p0.toNatClampNeg p2 := ⟨_, rfl⟩
  rw [← hG13] at hT
  refine lv_aload_n hx hb dX11_goes_14 rfl (lv_at hl 0 rfl) ?_
  refine gX11_49 S hK hT ha kf_X11_124 dX11_goes_15 (fun _ _ => ?_)
  refine lv_iload_n hx hb dX11_goes_18 rfl (lv_at hl 1 rfl) ?_
  refine lv_iconst (v := 0) hx hb dX11_goes_19 (by decide) ?_
  refine as_0 (x := 0) S hK hT hS hk9999b ar_57 aw_57 (by decide) (z_X11_goes_1 p0.toInt e0) dX11_goes_20 (fun H locs hT hS => ?_)
  obtain ⟨G20, hG20⟩ : ∃ GG : XG, GG = cput G13 (F a 49) p0.toNatClampNeg 0 := ⟨_, rfl⟩
  rw [← hG20] at hT
  refine lv_aload_n hx hb dX11_goes_21 rfl (lv_at hl 0 rfl) ?_
  refine gX11_50 S hK hT ha kf_X11_127 dX11_goes_22 (fun _ _ => ?_)
  refine lv_iload_n hx hb dX11_goes_25 rfl (lv_at hl 1 rfl) ?_
  refine lv_iconst (v := 0) hx hb dX11_goes_26 (by decide) ?_
  refine as_0 (x := 0) S hK hT hS hk9999c ar_58 aw_58 (by decide) (z_X11_goes_1 p0.toInt e0) dX11_goes_27 (fun H locs hT hS => ?_)
  obtain ⟨G27, hG27⟩ : ∃ GG : XG, GG = cput G20 (F a 50) p0.toNatClampNeg 0 := ⟨_, rfl⟩
  rw [← hG27] at hT
  refine lv_aload_n hx hb dX11_goes_28 rfl (lv_at hl 0 rfl) ?_
  refine gX11_1 S hK hT ha kf_X11_9 dX11_goes_29 (fun _ _ => ?_)
  refine lv_iload_n hx hb dX11_goes_32 rfl (lv_at hl 2 rfl) ?_
  refine lv_iload_n hx hb dX11_goes_33 rfl (lv_at hl 3 rfl) ?_
  refine x_clp (x_runS (As := [.int p1, .int p2]) (rest := [.ref (F a 1)]) S (c_X11_at l E K F G27 H p1 p2) ms_X11_at km_X11_156 rfl rfl ⟨Nat.le_of_ble_eq_true rfl, Nat.le_of_ble_eq_true rfl⟩ hK (fun _ => XPh.blind) (fun U hU hW => XPh.at hK hz hS hT hU hW) rfl hl.1 (Nat.le_of_ble_eq_true rfl) dX11_goes_34 ⟨Nat.le_of_ble_eq_true rfl, Nat.le_of_ble_eq_true rfl⟩) hS ?_
  rintro _ _ locs ⟨x34, rfl, t34⟩ hS
  have t34 : 0 ≤ p1.toInt ∧ p1.toInt ≤ 2 ∧ 0 ≤ p2.toInt ∧ p2.toInt ≤ 29 → x34.toInt = 4 * (30 * p1.toInt + p2.toInt) := t34
  refine lv_iconst (v := 0) hx hb dX11_goes_37 (by decide) ?_
  refine as_0 (x := 0) S hK hT hS hk9999d ar_30 aw_30 (by decide) (z_X11_put_10 p1.toInt p2.toInt x34.toInt e1 e2 t34) dX11_goes_38 (fun H locs hT hS => ?_)
  obtain ⟨G38, hG38⟩ : ∃ GG : XG, GG = cput G27 (F a 1) x34.toNatClampNeg 0 := ⟨_, rfl⟩
  rw [← hG38] at hT
  exact x_rv hx hb hr hlk hQ (Nat.le_of_ble_eq_true rfl) (Nat.le_of_ble_eq_true rfl) hS dX11_goes_39 G38 ⟨(by rw [hG38]; exact XFr.cput (by rw [hG27]; exact XFr.cput (by rw [hG20]; exact XFr.cput (by rw [hG13]; exact XFr.cput (by rw [hG6]; exact XFr.cput XFr.rf (List.mem_of_getElem? (i := 0) rfl)) (List.mem_of_getElem? (i := 1) rfl)) (List.mem_of_getElem? (i := 2) rfl)) (List.mem_of_getElem? (i := 3) rfl)) (List.mem_of_getElem? (i := 4) rfl)), (v_X11_goes_39_1 (K := K) (F := F) a G6 G p0 p1 p2 G38 x34 ha hG6 e0 e1 e2 t34 ((lc_c hG38 (xne_k hk9999 hk9999d (by decide))).trans ((lc_c hG27 (xne_k hk9999 hk9999c (by decide))).trans ((lc_c hG20 (xne_k hk9999 hk9999b (by decide))).trans (lc_c hG13 (xne_k hk9999 hk9999a (by decide))))))), (v_X11_goes_39_2 (K := K) (F := F) a G6 G p0 p1 G13 p2 G38 x34 ha hG13 e0 e1 e2 t34 ((lc_c hG38 (xne_k hk9999a hk9999d (by decide))).trans ((lc_c hG27 (xne_k hk9999a hk9999c (by decide))).trans (lc_c hG20 (xne_k hk9999a hk9999b (by decide))))) (lc_c hG6 (xne_k hk9999a hk9999 (by decide)))), (v_X11_goes_39_3 (K := K) (F := F) a G p0 p1 G13 p2 G20 G38 x34 ha hG20 e0 e1 e2 t34 ((lc_c hG13 (xne_k hk9999b hk9999a (by decide))).trans (lc_c hG6 (xne_k hk9999b hk9999 (by decide)))) ((lc_c hG38 (xne_k hk9999b hk9999d (by decide))).trans (lc_c hG27 (xne_k hk9999b hk9999c (by decide))))), (v_X11_goes_39_4 (K := K) (F := F) a G p0 p1 p2 G20 G27 G38 x34 ha hG27 e0 e1 e2 t34 ((lc_c hG20 (xne_k hk9999c hk9999b (by decide))).trans ((lc_c hG13 (xne_k hk9999c hk9999a (by decide))).trans (lc_c hG6 (xne_k hk9999c hk9999 (by decide))))) (lc_c hG38 (xne_k hk9999c hk9999d (by decide)))), (v_X11_goes_39_5 (K := K) (F := F) a G p0 p1 p2 G27 G38 x34 ha hG38 e0 e1 e2 t34 ((lc_c hG27 (xne_k hk9999d hk9999c (by decide))).trans ((lc_c hG20 (xne_k hk9999d hk9999b (by decide))).trans ((lc_c hG13 (xne_k hk9999d hk9999a (by decide))).trans (lc_c hG6 (xne_k hk9999d hk9999 (by decide))))))), (v_X11_goes_39_6 (K := K) (F := F) a G p0 p1 p2 G27 G38 x34 ha hG38 hM e0 e1 e2 t34 ((lc_c hG27 (xne_k hk9999d hk9999c (by decide))).trans ((lc_c hG20 (xne_k hk9999d hk9999b (by decide))).trans ((lc_c hG13 (xne_k hk9999d hk9999a (by decide))).trans (lc_c hG6 (xne_k hk9999d hk9999 (by decide)))))))⟩ hT

